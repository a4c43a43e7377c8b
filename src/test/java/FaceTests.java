import java.lang.reflect.Constructor;
import java.lang.reflect.Field;
import java.lang.reflect.Method;
import java.lang.reflect.Modifier;
import java.util.ArrayList;
import java.util.List;
import java.util.TreeSet;

/** The face of the class is the document's, and no more of it is open (rule 1 of LANGUAGE.md). */
public final class FaceTests {
    private static final String[] FACE = {
        "int house(int,int,int)", "int prior(int,int,int,int,int)", "int day(int)", "int look(int,int)",
        "int told(int,int)", "int lasts(int,int)", "int stock(int)", "int lorry(int)", "int calls()",
        "int round(int,int)", "int stop(int,int)", "int fill(int,int)", "int price(int)", "int feed(long,int)",
        "int plans()", "int fault()", "int quote(int,int)", "int kind(int)", "int as(int,int)", "int ask(int,int)",
        "int trace(int)", "long count(int)"
    };

    private static int wrong = 0;

    private static void fail(String why) {
        wrong++;
        System.out.println(why);
    }

    public static void main(String[] args) {
        face();
        System.out.println(wrong == 0 ? "the face is as told" : wrong + " faults of the face");
        if (wrong != 0) System.exit(1);
    }

    private static void face() {
        TreeSet<String> want = new TreeSet<>(List.of(FACE));
        TreeSet<String> got = new TreeSet<>();
        TreeSet<String> openNames = new TreeSet<>();
        TreeSet<String> hiddenNames = new TreeSet<>();
        List<Class<?>> classes = new ArrayList<>(List.of(OilRound.class.getDeclaredClasses()));
        for (Method each : OilRound.class.getDeclaredMethods()) {
            if (Modifier.isPrivate(each.getModifiers())) {
                hiddenNames.add(each.getName());
                continue;
            }
            openNames.add(each.getName());
            got.add(told(each));
            if (!Modifier.isPublic(each.getModifiers())) fail("not public: " + each);
        }
        if (!got.equals(want)) fail("the methods are " + got);
        for (Class<?> inside : classes) {
            if (Modifier.isPublic(inside.getModifiers()) || !Modifier.isStatic(inside.getModifiers())) fail("open: " + inside);
            for (Method each : inside.getDeclaredMethods()) hiddenNames.add(each.getName());
        }
        hiddenNames.retainAll(openNames);
        if (!hiddenNames.isEmpty()) fail("names of the face inside: " + hiddenNames);
        for (Constructor<?> each : OilRound.class.getDeclaredConstructors()) {
            if (!Modifier.isPublic(each.getModifiers()) || each.getParameterCount() != 0) fail("constructor: " + each);
        }
        int constants = 0;
        for (Field each : OilRound.class.getDeclaredFields()) {
            if (Modifier.isPublic(each.getModifiers())) constants++;
            else if (!Modifier.isPrivate(each.getModifiers())) fail("field: " + each);
            if (Modifier.isStatic(each.getModifiers()) && !Modifier.isFinal(each.getModifiers())) fail("state: " + each);
        }
        if (constants != 5) fail(constants + " constants");
        if (!Modifier.isFinal(OilRound.class.getModifiers())) fail("not final");
    }

    private static String told(Method method) {
        StringBuilder all = new StringBuilder();
        all.append(method.getReturnType().getName()).append(' ').append(method.getName()).append('(');
        Class<?>[] types = method.getParameterTypes();
        for (int i = 0; i < types.length; i++) {
            if (i > 0) all.append(',');
            all.append(types[i].getName());
        }
        return all.append(')').toString();
    }
}
