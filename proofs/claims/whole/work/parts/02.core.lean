def oWL : List Cond := lw_tbl.filter goodWord
theorem oWL_t {n : Nat} {w : Cond} (h : tables_1[n]? = some w) (hg : goodWord w = true) : w ∈ oWL := List.mem_filter.mpr ⟨List.mem_append_right _ (List.mem_of_getElem? h), hg⟩
theorem oWL_p {n : Nat} {w : Cond} (h : (k2_sels lw_privs)[n]? = some w) (hg : goodWord w = true) : w ∈ oWL := List.mem_filter.mpr ⟨List.mem_append_left _ (List.mem_of_getElem? h), hg⟩
theorem u_lay_good (C : String) (T : u_T) (k : Nat) : goodWord (u_lay C T k) = true := by
  unfold u_lay
  split <;> rfl
theorem oWL_lays {C : String} {T : u_T} {N b : Nat} (h : ∀ k, k < N → tables_1[b + 2 * k]? = some (u_lay C T k)) : ∀ w ∈ u_ws C T N, w ∈ oWL := by
  intro w hw
  obtain ⟨k, hk, rfl⟩ := List.mem_map.mp hw
  exact oWL_t (h k (List.mem_range.mp hk)) (u_lay_good C T k)
theorem inlX0 : ∀ w ∈ u_ws RX0 TX0 2, w ∈ oWL := oWL_lays (b := 107) (by decide +kernel)
theorem inlX1 : ∀ w ∈ u_ws RX1 TX1 15, w ∈ oWL := oWL_lays (b := 220) (by decide +kernel)
theorem inlX2 : ∀ w ∈ u_ws RX2 TX2 3, w ∈ oWL := oWL_lays (b := 178) (by decide +kernel)
theorem inlX3 : ∀ w ∈ u_ws RX3 TX3 12, w ∈ oWL := oWL_lays (b := 73) (by decide +kernel)
theorem inlX4 : ∀ w ∈ u_ws RX4 TX4 7, w ∈ oWL := oWL_lays (b := 37) (by decide +kernel)
theorem inlX5 : ∀ w ∈ u_ws RX5 TX5 14, w ∈ oWL := oWL_lays (b := 126) (by decide +kernel)
theorem inlX6 : ∀ w ∈ u_ws RX6 TX6 45, w ∈ oWL := oWL_lays (b := 720) (by decide +kernel)
/-! the abstract machine: ids for the cells that the run makes (id i lies at the address B + i), a heap by numbers, and the judgement of a state of a method -/
abbrev oG : Type := Nat × va_G × (Nat → ClassId) × (Nat → Nat) × (Nat → Nat)
abbrev oH : Type := Nat × (Nat → Nat → Int32) × (Nat → Nat → Int64) × (Nat → Nat → Option Nat)
def hI (h : oH) (a k : Nat) : Int32 := h.2.1 a k
def hJ (h : oH) (a k : Nat) : Int64 := h.2.2.1 a k
def hR (h : oH) (a k : Nat) : Option Nat := h.2.2.2 a k
def sI (h : oH) (a k : Nat) (v : Int32) : oH := (h.1, fun x y => if x = a ∧ y = k then v else h.2.1 x y, h.2.2.1, h.2.2.2)
def sJ (h : oH) (a k : Nat) (v : Int64) : oH := (h.1, h.2.1, fun x y => if x = a ∧ y = k then v else h.2.2.1 x y, h.2.2.2)
def sR (h : oH) (a k : Nat) (v : Option Nat) : oH := (h.1, h.2.1, h.2.2.1, fun x y => if x = a ∧ y = k then v else h.2.2.2 x y)
def hAl (h : oH) : oH := (h.1 + 1, fun x y => if x = h.1 then 0 else h.2.1 x y, fun x y => if x = h.1 then 0 else h.2.2.1 x y, fun x y => if x = h.1 then none else h.2.2.2 x y)
theorem hI_sI (h : oH) (a k x y : Nat) (v : Int32) : hI (sI h a k v) x y = if x = a ∧ y = k then v else hI h x y := rfl
theorem hI_sJ (h : oH) (a k x y : Nat) (v : Int64) : hI (sJ h a k v) x y = hI h x y := rfl
theorem hI_sR (h : oH) (a k x y : Nat) (v : Option Nat) : hI (sR h a k v) x y = hI h x y := rfl
theorem hJ_sI (h : oH) (a k x y : Nat) (v : Int32) : hJ (sI h a k v) x y = hJ h x y := rfl
theorem hJ_sJ (h : oH) (a k x y : Nat) (v : Int64) : hJ (sJ h a k v) x y = if x = a ∧ y = k then v else hJ h x y := rfl
theorem hJ_sR (h : oH) (a k x y : Nat) (v : Option Nat) : hJ (sR h a k v) x y = hJ h x y := rfl
theorem hR_sI (h : oH) (a k x y : Nat) (v : Int32) : hR (sI h a k v) x y = hR h x y := rfl
theorem hR_sJ (h : oH) (a k x y : Nat) (v : Int64) : hR (sJ h a k v) x y = hR h x y := rfl
theorem hR_sR (h : oH) (a k x y : Nat) (v : Option Nat) : hR (sR h a k v) x y = if x = a ∧ y = k then v else hR h x y := rfl
theorem n_sI (h : oH) (a k : Nat) (v : Int32) : (sI h a k v).1 = h.1 := rfl
theorem n_sJ (h : oH) (a k : Nat) (v : Int64) : (sJ h a k v).1 = h.1 := rfl
theorem n_sR (h : oH) (a k : Nat) (v : Option Nat) : (sR h a k v).1 = h.1 := rfl
/-- kinds of cells: (0, class), (1, length) ints, (2, length) bytes, (3, length) booleans, (4, length) houses -/
def tgT : List (Nat × Nat) := [(0, 5), (4, 24), (0, 4), (1, 8), (1, 9), (1, 9), (1, 8), (1, 2304), (0, 3), (2, 300), (0, 0), (1, 16), (0, 6), (1, 24), (1, 24), (1, 24), (1, 96), (1, 24), (1, 24), (1, 24), (1, 24), (3, 24), (1, 24), (1, 24), (1, 24), (1, 24), (1, 24), (1, 8), (1, 2048), (1, 300), (1, 40), (1, 40), (1, 40), (1, 40), (1, 16)]
def tg (i : Nat) : Nat × Nat := if i < 35 then tgT.getD i (0, 0) else if i % 2 = 1 then (0, 1) else (0, 2)
theorem tg_house (i : Nat) : tg (35 + 2 * i) = (0, 1) := by
  unfold tg
  rw [if_neg (by omega), if_pos (by omega)]
theorem tg_plan (i : Nat) : tg (36 + 2 * i) = (0, 2) := by
  unfold tg
  rw [if_neg (by omega), if_neg (by omega)]
def nf (ci : Nat) : Nat := [2, 15, 3, 12, 7, 14, 45].getD ci 0
def tyC (ci : Nat) : Nat → FieldType := match ci with
  | 0 => tyX0
  | 1 => tyX1
  | 2 => tyX2
  | 3 => tyX3
  | 4 => tyX4
  | 5 => tyX5
  | _ => tyX6
def szT (t : Nat × Nat) : Nat := if t.1 = 0 then nf t.2 else t.2
def sl : Nat → Nat
  | 0 => 0
  | n + 1 => sl n + szT (tg n)
theorem sl_mono {a b : Nat} (h : a ≤ b) : sl a ≤ sl b := by
  induction b with
  | zero => rw [Nat.le_zero.mp h]; exact Nat.le_refl _
  | succ b ih =>
    by_cases hb : a = b + 1
    · rw [hb]; exact Nat.le_refl _
    · exact Nat.le_trans (ih (by omega)) (Nat.le_add_right _ _)
/-- a value as the machine has it: ids as addresses; a text's id rides on a float -/
def oV (G : oG) : Value → Value
  | .ref i => .ref (G.1 + i)
  | .float k => .ref (if k.toNat < 100 then G.2.2.2.1 k.toNat else G.2.2.2.2 (k.toNat - 100))
  | v => v
def fv (G : oG) (ci : Nat) (h : oH) (a k : Nat) : Value := match tyC ci k with
  | .long => .long (hJ h a k)
  | .object _ => va_rf ((hR h a k).map (fun i => G.1 + i))
  | .array _ => va_rf ((hR h a k).map (fun i => G.1 + i))
  | _ => .int (hI h a k)
def oEk (G : oG) (h : oH) (a : Nat) (t : Nat × Nat) : va_E := match t with
  | (0, ci) => .inr (ci, (List.range (nf ci)).map (fv G ci h a))
  | (1, n) => .inl (G.2.2.1 0, n, .inl (hI h a))
  | (2, n) => .inl (G.2.2.1 1, n, .inl (hI h a))
  | (3, n) => .inl (G.2.2.1 2, n, .inl (hI h a))
  | (_, n) => .inl (G.2.2.1 3, n, .inr (.inr (.inr (.inr (fun j => (hR h a j).map (fun i => G.1 + i))))))
def oE (G : oG) (h : oH) (a : Nat) : va_E := oEk G h a (tg a)
def oWs (G : oG) (h : oH) : va_W := (List.range h.1).map (fun a => (G.1 + a, oE G h a))
def oTys (G : oG) : List (ClassId × FieldType) := [(G.2.2.1 0, .int), (G.2.2.1 1, .byte), (G.2.2.1 2, .boolean), (G.2.2.1 3, .object "OilRound$House")]
theorem oWs_get {G : oG} {h : oH} {a : Nat} (ha : a < h.1) : (oWs G h)[a]? = some (G.1 + a, oE G h a) := by
  unfold oWs
  rw [List.getElem?_map, List.getElem?_range ha]
  rfl
theorem oWs_len (G : oG) (h : oH) : (oWs G h).length = h.1 := by
  unfold oWs
  rw [List.length_map, List.length_range]
theorem oWs_set {G : oG} {h h' : oH} {a : Nat} (hn : h'.1 = h.1) (ho : ∀ j, j ≠ a → oE G h' j = oE G h j) {e : va_E} (he : e = oE G h' a) : (oWs G h).set a (G.1 + a, e) = oWs G h' := by
  subst he
  apply List.ext_getElem?
  intro j
  by_cases hj : j < h.1
  · rw [oWs_get (h := h') (by rw [hn]; exact hj)]
    by_cases hja : a = j
    · subst hja
      rw [List.getElem?_set_self (by rw [oWs_len]; exact hj)]
    · rw [List.getElem?_set_ne hja, oWs_get hj, ho j (fun q => hja q.symm)]
  · rw [List.getElem?_eq_none (by rw [List.length_set, oWs_len]; omega), List.getElem?_eq_none (by rw [oWs_len, hn]; omega)]
theorem oE_ext {G : oG} {h h' : oH} {a : Nat} (hi : ∀ k, hI h' a k = hI h a k) (hj : ∀ k, hJ h' a k = hJ h a k) (hr : ∀ k, hR h' a k = hR h a k) : oE G h' a = oE G h a := by
  have e1 : hI h' a = hI h a := funext hi
  have e2 : ∀ ci, fv G ci h' a = fv G ci h a := fun ci => funext fun k => by simp only [fv, hi, hj, hr]
  unfold oE
  generalize tg a = t
  unfold oEk
  split <;> simp only [e1, e2, hr]
theorem oWs_push {G : oG} {h : oH} {e : va_E} (he : e = oE G (hAl h) h.1) : oWs G h ++ [(G.1 + h.1, e)] = oWs G (hAl h) := by
  subst he
  unfold oWs
  show _ = (List.range (h.1 + 1)).map _
  rw [List.range_succ, List.map_append]
  congr 1
  refine List.map_congr_left fun a ha => ?_
  have hl : a ≠ h.1 := Nat.ne_of_lt (List.mem_range.mp ha)
  rw [oE_ext (G := G) (h := h) (h' := hAl h) (a := a) (fun k => if_neg hl) (fun k => if_neg hl) (fun k => if_neg hl)]
theorem oWs_D (G : oG) (h : oH) : va_D (fun q => G.1 ≤ q) (oWs G h) := by
  have key : ∀ (i : Nat) (p : Nat × va_E), (oWs G h)[i]? = some p → p.1 = G.1 + i := by
    intro i p hp
    have hl : i < h.1 := by
      have := (List.getElem?_eq_some_iff.mp hp).1
      rwa [oWs_len] at this
    rw [oWs_get hl] at hp
    cases hp
    rfl
  refine ⟨fun i j p q hp hq he => ?_, fun k q hq => ?_⟩
  · have e1 := key i p hp
    have e2 := key j q hq
    omega
  · have e1 := key k q hq
    show G.1 ≤ q.1
    omega
/-- what the texts and the JDK's statics are -/
def oX (G : oG) (U : State) (H : Heap) : Prop :=
  vk_S 4 [5, 3, 3, 4] [[104, 111, 117, 115, 101], [100, 97, 121], [99, 97, 112], [112, 97, 105, 100]] G.2.2.2.1 G.2.2.2.2 (fun q => G.1 ≤ q) U H ∧
  va_Z "java/lang/String" "COMPACT_STRINGS" "Z" (.int 1) (fun q => G.1 ≤ q) U H ∧
  va_Zq "jdk/internal/util/Preconditions" "SIOOBE_FORMATTER" "Ljava/util/function/BiFunction;" (fun q => G.1 ≤ q) U H
def oNestL : List (String × Nat × MethodName) := [("OilRound", 17, ⟨"OilRound$Route", "<init>", "()V"⟩), ("OilRound", 24, ⟨"OilRound$PlanText", "<init>", "()V"⟩), ("OilRound", 31, ⟨"OilRound$Asks", "<init>", "()V"⟩), ("OilRound$House", 11, ⟨"OilRound$Plan", "<init>", "()V"⟩), ("OilRound$Route", 50, ⟨"OilRound", "houseIn", "([LOilRound$House;I)LOilRound$House;"⟩), ("OilRound$Route", 78, ⟨"OilRound", "isOutside", "(III)Z"⟩), ("OilRound$PlanText", 79, ⟨"OilRound", "houseIn", "([LOilRound$House;I)LOilRound$House;"⟩)]
def oXR (G : oG) (U : State) : Prop := vk_R RX3 104 "house" (G.2.2.2.1 0) U ∧ vk_R RX3 110 "day" (G.2.2.2.1 1) U ∧ vk_R RX3 112 "cap" (G.2.2.2.1 2) U ∧ vk_R RX3 114 "paid" (G.2.2.2.1 3) U ∧ va_AO "OilRound$House" U ∧ ∀ q ∈ oNestL, va_Nw (.methodLinkNest q.1 q.2.1 q.2.2 "OilRound") U
theorem oX.moved {G : oG} {u U : State} {H : Heap} (hvm : u.vm.Alike U.vm) (h : oX G u H) : oX G U H := by
  obtain ⟨h1, h2, h3⟩ := h
  exact ⟨h1.moved hvm, h2.moved hvm, h3.moved hvm⟩
theorem oX.kept {G : oG} {U : State} {H H1 : Heap} (h : oX G U H) (hq : ∀ a : Nat, a < H.size → ¬ G.1 ≤ a → H1[a]? = H[a]?) : oX G U H1 := by
  obtain ⟨h1, h2, h3⟩ := h
  exact ⟨h1.kept hq, h2.kept hq, h3.kept hq⟩
theorem oXR.same {G : oG} {u U : State} (hv : U.vm = u.vm) (h : oXR G u) : oXR G U := ⟨h.1.same hv, h.2.1.same hv, h.2.2.1.same hv, h.2.2.2.1.same hv, va_AO.moved (by rw [hv]; exact Vm.Alike.refl _) h.2.2.2.2.1, fun q hq => va_Nw.same rfl hv.symm (h.2.2.2.2.2 q hq)⟩
theorem oXR.warm {G : oG} {s U : State} (hW : s.WarmedH U.vm) (h : oXR G s) : oXR G U := ⟨h.1.warm hW, h.2.1.warm hW, h.2.2.1.warm hW, h.2.2.2.1.warm hW, va_AO.moved hW.alike h.2.2.2.2.1, fun q hq => va_Nw.warmM hW (h.2.2.2.2.2 q hq)⟩
/-- a whole state of the world holds the abstract heap -/
def oRep (G : oG) (h : oH) (U : State) : Prop := va_P G.2.1 vwCl (oWs G h) U.heap ∧ U.heap.size = G.1 + h.1 ∧ va_K G.2.1 vwCl (oTys G) U ∧ oX G U U.heap ∧ oXR G U
theorem oRep.calling {G : oG} {h : oH} {U : State} (q : oRep G h U) (g : JFrame) (mk : MethodId) (a : Array Value) : oRep G h (U.calling g mk a) := by
  obtain ⟨h1, h2, h3, h4, h5⟩ := q
  exact ⟨h1, h2, va_K.moved (u := U) (U := U.calling g mk a) (Vm.Alike.refl U.vm) h3, oX.moved (u := U) (U := U.calling g mk a) (Vm.Alike.refl U.vm) h4, oXR.same (u := U) (U := U.calling g mk a) rfl h5⟩
/-- a method: its name, code, locals, answer; the frames and the words of locals that it needs -/
abbrev oM : Type := MethodName × ByteArray × Nat × Option FieldType × Nat × Nat
def oW (M : oM) : List Cond := Cond.code M.1 M.2.1 M.2.2.1 M.2.2.2.1 :: oWL
def oR (M : oM) (mc ms : Nat) : Room := { frames := M.2.2.2.2.1, cells := mc, slots := ms, locals := M.2.2.2.2.2 }
/-- what stays through a method's walk -/
def oC (G : oG) (M : oM) (n0 nF : Nat) (p : Program) (l : Launch) (R : Room) (s : State) (m : MethodId) (args : Array Value) (meth : Method) (c : Code) : Prop :=
  p.tables.exec = Jvm.exec ∧ c.code = M.2.1 ∧ meth.sig.returnType = M.2.2.2.1 ∧ c.maxLocals = M.2.2.1 ∧ s.vm.findClass M.1.cls = some m.cls ∧ (∀ w ∈ oWL, w.before args s = true) ∧ meth.locks = false ∧ meth.name = M.1.name ∧
  va_K G.2.1 vwCl (oTys G) s ∧ oX G s s.heap ∧ oXR G s ∧ G.1 ≤ s.heap.size ∧ M.2.2.2.2.1 ≤ R.frames ∧ M.2.2.2.2.2 ≤ R.locals ∧ nF - n0 ≤ R.cells ∧ sl nF - sl n0 ≤ R.slots
def oL (G : oG) (ls : Array Slot) (n : Nat) (L : List (Option Value)) : Prop := ls.size = n ∧ lv_wf ls ∧ ∀ (i : Nat) (v : Value), L[i]? = some (some v) → ls[i]? = some (.val (oV G v))
def oS (G : oG) (M : oM) (p : Program) (l : Launch) (e : Env) (R : Room) (s : State) (m : MethodId) (args : Array Value) (below : List Frame) (meth : Method) (c : Code) (Z : State → Prop) (n0 : Nat) (pc : Nat) (L : List (Option Value)) (S : List Value) (h : oH) : Prop :=
  ∀ (H : Heap) (locs : List Loc) (ls : Array Slot), va_S (fun q => G.1 ≤ q) s.heap H locs → va_P G.2.1 vwCl (oWs G h) H → H.size = G.1 + h.1 → n0 ≤ h.1 → oL G ls M.2.2.1 L →
    W p l e R s m args below meth c H locs (h.1 - n0) (sl h.1 - sl n0) Z (F0 m pc ls (S.map (oV G)))
/-- the list of pairs of what the locals hold -/
def oLs (G : oG) (L : List (Option Value)) : List (Nat × Value) := (List.range L.length).filterMap (fun i => match L[i]? with
  | some (some v) => some (i, oV G v)
  | _ => none)
theorem oLs_mem {G : oG} {L : List (Option Value)} {i : Nat} {w : Value} : (i, w) ∈ oLs G L ↔ ∃ v, L[i]? = some (some v) ∧ w = oV G v := by
  unfold oLs
  constructor
  · intro h
    obtain ⟨j, -, hj⟩ := List.mem_filterMap.mp h
    split at hj
    · rename_i v hv
      cases hj
      exact ⟨v, hv, rfl⟩
    · cases hj
  · rintro ⟨v, hv, rfl⟩
    refine List.mem_filterMap.mpr ⟨i, List.mem_range.mpr (List.getElem?_eq_some_iff.mp hv).1, ?_⟩
    rw [hv]
theorem oL.has {G : oG} {ls : Array Slot} {n : Nat} {L : List (Option Value)} (h : oL G ls n L) : lv_has ls n (oLs G L) := ⟨h.1, h.2.1, fun q hq => by
  obtain ⟨v, h1, h2⟩ := oLs_mem.mp hq
  rw [h2]
  exact h.2.2 _ _ h1⟩
/-- storing a value of one slot: no value of two slots may end there -/
def oOk (L : List (Option Value)) (i : Nat) : Bool := match i with
  | 0 => true
  | j + 1 => match L[j]? with
    | some (some v) => v.category == 1
    | _ => true
theorem oV_cat (G : oG) (v : Value) (h : v.category = 1) : (oV G v).category = 1 := by cases v <;> first | rfl | (simp [Value.category] at h)
theorem oL.store1 {G : oG} {ls' : Array Slot} {n i : Nat} {v : Value} {L : List (Option Value)} (hok : oOk L i = true)
    (h : lv_has ls' n ((i, oV G v) :: (oLs G L).filter (fun q => !(q.1 == i) && !(q.1 + 1 == i && q.2.category == 2)))) : oL G ls' n (L.set i (some v)) := by
  refine ⟨h.1, h.2.1, fun j w hj => ?_⟩
  by_cases hji : i = j
  · subst hji
    have hl : i < L.length := by
      have := (List.getElem?_eq_some_iff.mp hj).1
      rwa [List.length_set] at this
    rw [List.getElem?_set_self hl] at hj
    cases hj
    exact h.2.2 _ List.mem_cons_self
  · rw [List.getElem?_set_ne hji] at hj
    refine h.2.2 (j, oV G w) (List.mem_cons_of_mem _ (List.mem_filter.mpr ⟨oLs_mem.mpr ⟨w, hj, rfl⟩, ?_⟩))
    simp only [Bool.and_eq_true, Bool.not_eq_true', beq_eq_false_iff_ne, ne_eq, Bool.and_eq_false_iff]
    refine ⟨fun q => hji q.symm, ?_⟩
    by_cases hq : j + 1 = i
    · subst hq
      right
      simp only [oOk, hj, beq_iff_eq] at hok
      rw [oV_cat G w hok]
      decide
    · exact Or.inl hq
theorem oL.store2 {G : oG} {ls' : Array Slot} {n i : Nat} {v : Value} {L : List (Option Value)} (hok : oOk L i = true)
    (h : lv_has ls' n ((i, oV G v) :: (oLs G L).filter (fun q => !(q.1 == i) && (!(q.1 == i + 1) && !(q.1 + 1 == i && q.2.category == 2))))) : oL G ls' n ((L.set i (some v)).set (i + 1) none) := by
  refine ⟨h.1, h.2.1, fun j w hj => ?_⟩
  by_cases hj1 : i + 1 = j
  · subst hj1
    have hl : i + 1 < (L.set i (some v)).length := by
      have := (List.getElem?_eq_some_iff.mp hj).1
      rwa [List.length_set] at this
    rw [List.getElem?_set_self hl] at hj
    cases hj
  · rw [List.getElem?_set_ne hj1] at hj
    by_cases hji : i = j
    · subst hji
      have hl : i < L.length := by
        have := (List.getElem?_eq_some_iff.mp hj).1
        rwa [List.length_set] at this
      rw [List.getElem?_set_self hl] at hj
      cases hj
      exact h.2.2 _ List.mem_cons_self
    · rw [List.getElem?_set_ne hji] at hj
      refine h.2.2 (j, oV G w) (List.mem_cons_of_mem _ (List.mem_filter.mpr ⟨oLs_mem.mpr ⟨w, hj, rfl⟩, ?_⟩))
      simp only [Bool.and_eq_true, Bool.not_eq_true', beq_eq_false_iff_ne, ne_eq, Bool.and_eq_false_iff]
      refine ⟨fun q => hji q.symm, fun q => hj1 q.symm, ?_⟩
      by_cases hq : j + 1 = i
      · subst hq
        right
        simp only [oOk, hj, beq_iff_eq] at hok
        rw [oV_cat G w hok]
        decide
      · exact Or.inl hq

def oIsR : Value → Bool
  | .ref _ => true
  | .null => true
  | .float _ => true
  | _ => false
section ORULES
variable {G : oG} {M : oM} {p : Program} {l : Launch} {e : Env} {R : Room} {s : State} {m : MethodId} {args : Array Value} {below : List Frame} {meth : Method} {c : Code} {Z : State → Prop} {n0 nF pc : Nat} {L : List (Option Value)} {S : List Value} {h : oH}
theorem r_iadd (C : oC G M n0 nF p l R s m args meth c) {x y : Int32} (hd : decode M.2.1 pc = .ok (.iadd, 1)) (k : oS G M p l e R s m args below meth c Z n0 (pc + 1) L (.int (x + y) :: S) h) : oS G M p l e R s m args below meth c Z n0 pc L (.int y :: .int x :: S) h := fun H locs ls a b z n q => lv_iadd C.1 C.2.1 hd (k H locs ls a b z n q)
theorem r_isub (C : oC G M n0 nF p l R s m args meth c) {x y : Int32} (hd : decode M.2.1 pc = .ok (.isub, 1)) (k : oS G M p l e R s m args below meth c Z n0 (pc + 1) L (.int (x - y) :: S) h) : oS G M p l e R s m args below meth c Z n0 pc L (.int y :: .int x :: S) h := fun H locs ls a b z n q => lv_isub C.1 C.2.1 hd (k H locs ls a b z n q)
theorem r_imul (C : oC G M n0 nF p l R s m args meth c) {x y : Int32} (hd : decode M.2.1 pc = .ok (.imul, 1)) (k : oS G M p l e R s m args below meth c Z n0 (pc + 1) L (.int (x * y) :: S) h) : oS G M p l e R s m args below meth c Z n0 pc L (.int y :: .int x :: S) h := fun H locs ls a b z n q => lv_imul C.1 C.2.1 hd (k H locs ls a b z n q)
theorem r_iand (C : oC G M n0 nF p l R s m args meth c) {x y : Int32} (hd : decode M.2.1 pc = .ok (.iand, 1)) (k : oS G M p l e R s m args below meth c Z n0 (pc + 1) L (.int (x &&& y) :: S) h) : oS G M p l e R s m args below meth c Z n0 pc L (.int y :: .int x :: S) h := fun H locs ls a b z n q => lv_iand C.1 C.2.1 hd (k H locs ls a b z n q)
theorem r_ior (C : oC G M n0 nF p l R s m args meth c) {x y : Int32} (hd : decode M.2.1 pc = .ok (.ior, 1)) (k : oS G M p l e R s m args below meth c Z n0 (pc + 1) L (.int (x ||| y) :: S) h) : oS G M p l e R s m args below meth c Z n0 pc L (.int y :: .int x :: S) h := fun H locs ls a b z n q => lv_ior C.1 C.2.1 hd (k H locs ls a b z n q)
theorem r_ixor (C : oC G M n0 nF p l R s m args meth c) {x y : Int32} (hd : decode M.2.1 pc = .ok (.ixor, 1)) (k : oS G M p l e R s m args below meth c Z n0 (pc + 1) L (.int (x ^^^ y) :: S) h) : oS G M p l e R s m args below meth c Z n0 pc L (.int y :: .int x :: S) h := fun H locs ls a b z n q => lv_ixor C.1 C.2.1 hd (k H locs ls a b z n q)
theorem r_ishl (C : oC G M n0 nF p l R s m args meth c) {x y : Int32} (hd : decode M.2.1 pc = .ok (.ishl, 1)) (k : oS G M p l e R s m args below meth c Z n0 (pc + 1) L (.int (x <<< (y &&& 31)) :: S) h) : oS G M p l e R s m args below meth c Z n0 pc L (.int y :: .int x :: S) h := fun H locs ls a b z n q => lv_ishl C.1 C.2.1 hd (k H locs ls a b z n q)
theorem r_ishr (C : oC G M n0 nF p l R s m args meth c) {x y : Int32} (hd : decode M.2.1 pc = .ok (.ishr, 1)) (k : oS G M p l e R s m args below meth c Z n0 (pc + 1) L (.int (x >>> (y &&& 31)) :: S) h) : oS G M p l e R s m args below meth c Z n0 pc L (.int y :: .int x :: S) h := fun H locs ls a b z n q => lv_ishr C.1 C.2.1 hd (k H locs ls a b z n q)
theorem r_idiv (C : oC G M n0 nF p l R s m args meth c) {x y : Int32} (hne : ¬ y = 0) (hd : decode M.2.1 pc = .ok (.idiv, 1)) (k : oS G M p l e R s m args below meth c Z n0 (pc + 1) L (.int (x / y) :: S) h) : oS G M p l e R s m args below meth c Z n0 pc L (.int y :: .int x :: S) h := fun H locs ls a b z n q => lv_idiv C.1 C.2.1 hd hne (k H locs ls a b z n q)
theorem r_ineg (C : oC G M n0 nF p l R s m args meth c) {x : Int32} (hd : decode M.2.1 pc = .ok (.ineg, 1)) (k : oS G M p l e R s m args below meth c Z n0 (pc + 1) L (.int (-x) :: S) h) : oS G M p l e R s m args below meth c Z n0 pc L (.int x :: S) h := fun H locs ls a b z n q => lv_ineg C.1 C.2.1 hd (k H locs ls a b z n q)
theorem r_ladd (C : oC G M n0 nF p l R s m args meth c) {x y : Int64} (hd : decode M.2.1 pc = .ok (.ladd, 1)) (k : oS G M p l e R s m args below meth c Z n0 (pc + 1) L (.long (x + y) :: S) h) : oS G M p l e R s m args below meth c Z n0 pc L (.long y :: .long x :: S) h := fun H locs ls a b z n q => lv_ladd C.1 C.2.1 hd (k H locs ls a b z n q)
theorem r_land (C : oC G M n0 nF p l R s m args meth c) {x y : Int64} (hd : decode M.2.1 pc = .ok (.land, 1)) (k : oS G M p l e R s m args below meth c Z n0 (pc + 1) L (.long (x &&& y) :: S) h) : oS G M p l e R s m args below meth c Z n0 pc L (.long y :: .long x :: S) h := fun H locs ls a b z n q => lv_land C.1 C.2.1 hd (k H locs ls a b z n q)
theorem r_lor (C : oC G M n0 nF p l R s m args meth c) {x y : Int64} (hd : decode M.2.1 pc = .ok (.lor, 1)) (k : oS G M p l e R s m args below meth c Z n0 (pc + 1) L (.long (x ||| y) :: S) h) : oS G M p l e R s m args below meth c Z n0 pc L (.long y :: .long x :: S) h := fun H locs ls a b z n q => lv_lor C.1 C.2.1 hd (k H locs ls a b z n q)
theorem r_lcmp (C : oC G M n0 nF p l R s m args meth c) {x y : Int64} (hd : decode M.2.1 pc = .ok (.lcmp, 1)) (k : oS G M p l e R s m args below meth c Z n0 (pc + 1) L (.int (lg_cmp x y) :: S) h) : oS G M p l e R s m args below meth c Z n0 pc L (.long y :: .long x :: S) h := fun H locs ls a b z n q => W.lcmp C.1 C.2.1 hd (k H locs ls a b z n q)
theorem r_lshl (C : oC G M n0 nF p l R s m args meth c) {x : Int64} {y : Int32} (hd : decode M.2.1 pc = .ok (.lshl, 1)) (k : oS G M p l e R s m args below meth c Z n0 (pc + 1) L (.long (x <<< (y.toInt64 &&& 63)) :: S) h) : oS G M p l e R s m args below meth c Z n0 pc L (.int y :: .long x :: S) h := fun H locs ls a b z n q => lv_lshl C.1 C.2.1 hd rfl (k H locs ls a b z n q)
theorem r_lshr (C : oC G M n0 nF p l R s m args meth c) {x : Int64} {y : Int32} (hd : decode M.2.1 pc = .ok (.lshr, 1)) (k : oS G M p l e R s m args below meth c Z n0 (pc + 1) L (.long (x >>> (y.toInt64 &&& 63)) :: S) h) : oS G M p l e R s m args below meth c Z n0 pc L (.int y :: .long x :: S) h := fun H locs ls a b z n q => lv_lshr C.1 C.2.1 hd rfl (k H locs ls a b z n q)
theorem r_iushr (C : oC G M n0 nF p l R s m args meth c) {x y : Int32} (hd : decode M.2.1 pc = .ok (.iushr, 1)) (k : oS G M p l e R s m args below meth c Z n0 (pc + 1) L (.int ((x.toUInt32 >>> (y.toUInt32 &&& Int32.toUInt32 31)).toInt32) :: S) h) : oS G M p l e R s m args below meth c Z n0 pc L (.int y :: .int x :: S) h := fun H locs ls a b z n q => lv_iushr C.1 C.2.1 hd rfl (k H locs ls a b z n q)
theorem r_i2l (C : oC G M n0 nF p l R s m args meth c) {x : Int32} (hd : decode M.2.1 pc = .ok (.i2l, 1)) (k : oS G M p l e R s m args below meth c Z n0 (pc + 1) L (.long (x.toInt64) :: S) h) : oS G M p l e R s m args below meth c Z n0 pc L (.int x :: S) h := fun H locs ls a b z n q => lv_i2l C.1 C.2.1 hd rfl (k H locs ls a b z n q)
theorem r_l2i (C : oC G M n0 nF p l R s m args meth c) {x : Int64} (hd : decode M.2.1 pc = .ok (.l2i, 1)) (k : oS G M p l e R s m args below meth c Z n0 (pc + 1) L (.int (x.toInt32) :: S) h) : oS G M p l e R s m args below meth c Z n0 pc L (.long x :: S) h := fun H locs ls a b z n q => lv_l2i C.1 C.2.1 hd rfl (k H locs ls a b z n q)
theorem r_i2b (C : oC G M n0 nF p l R s m args meth c) {x : Int32} (hd : decode M.2.1 pc = .ok (.i2b, 1)) (k : oS G M p l e R s m args below meth c Z n0 (pc + 1) L (.int (x.toInt8.toInt32) :: S) h) : oS G M p l e R s m args below meth c Z n0 pc L (.int x :: S) h := fun H locs ls a b z n q => lv_i2b C.1 C.2.1 hd rfl (k H locs ls a b z n q)
theorem r_i2c (C : oC G M n0 nF p l R s m args meth c) {x : Int32} (hd : decode M.2.1 pc = .ok (.i2c, 1)) (k : oS G M p l e R s m args below meth c Z n0 (pc + 1) L (.int ((x.toUInt32 % 65536).toInt32) :: S) h) : oS G M p l e R s m args below meth c Z n0 pc L (.int x :: S) h := fun H locs ls a b z n q => lv_i2c C.1 C.2.1 hd rfl (k H locs ls a b z n q)
theorem r_iconst (C : oC G M n0 nF p l R s m args meth c) {n : Int} (hd : decode M.2.1 pc = .ok (.iconst n, 1)) (k : oS G M p l e R s m args below meth c Z n0 (pc + 1) L (.int (Int32.ofInt n) :: S) h) : oS G M p l e R s m args below meth c Z n0 pc L S h := fun H locs ls a b z n q => lv_iconst C.1 C.2.1 hd rfl (k H locs ls a b z n q)
theorem r_iconstv (C : oC G M n0 nF p l R s m args meth c) {n : Int} (v : Int32) (hv : Int32.ofInt n = v) (hd : decode M.2.1 pc = .ok (.iconst n, 1)) (k : oS G M p l e R s m args below meth c Z n0 (pc + 1) L (.int v :: S) h) : oS G M p l e R s m args below meth c Z n0 pc L S h := fun H locs ls a b z n q => lv_iconst C.1 C.2.1 hd hv (k H locs ls a b z n q)
theorem r_bipush (C : oC G M n0 nF p l R s m args meth c) {n : Int} (v : Int32) (hv : (Int8.ofInt n).toInt32 = v) (hd : decode M.2.1 pc = .ok (.bipush n, 2)) (k : oS G M p l e R s m args below meth c Z n0 (pc + 2) L (.int v :: S) h) : oS G M p l e R s m args below meth c Z n0 pc L S h := fun H locs ls a b z n q => lv_bipush C.1 C.2.1 hd hv (k H locs ls a b z n q)
theorem r_sipush (C : oC G M n0 nF p l R s m args meth c) {n : Int} (v : Int32) (hv : (Int16.ofInt n).toInt32 = v) (hd : decode M.2.1 pc = .ok (.sipush n, 3)) (k : oS G M p l e R s m args below meth c Z n0 (pc + 3) L (.int v :: S) h) : oS G M p l e R s m args below meth c Z n0 pc L S h := fun H locs ls a b z n q => lv_sipush C.1 C.2.1 hd hv (k H locs ls a b z n q)
theorem r_lconst (C : oC G M n0 nF p l R s m args meth c) {n : Fin 2} (v : Int64) (hv : Int64.ofNat (n : Nat) = v) (hd : decode M.2.1 pc = .ok (.lconst n, 1)) (k : oS G M p l e R s m args below meth c Z n0 (pc + 1) L (.long v :: S) h) : oS G M p l e R s m args below meth c Z n0 pc L S h := fun H locs ls a b z n q => lv_lconst C.1 C.2.1 hd hv (k H locs ls a b z n q)
theorem r_ldc (C : oC G M n0 nF p l R s m args meth c) {index : Nat} (v : Int32) (hw : Cond.constant M.1.cls index v ∈ oWL) (hd : decode M.2.1 pc = .ok (.ldc index, 2)) (k : oS G M p l e R s m args below meth c Z n0 (pc + 2) L (.int v :: S) h) : oS G M p l e R s m args below meth c Z n0 pc L S h := fun H locs ls a b z n q => lv_ldc C.1 C.2.1 C.2.2.2.2.1 (C.2.2.2.2.2.1 _ hw) hd (k H locs ls a b z n q)
theorem r_ldcw (C : oC G M n0 nF p l R s m args meth c) {index : Nat} (v : Int32) (hw : Cond.constant M.1.cls index v ∈ oWL) (hd : decode M.2.1 pc = .ok (.ldc_w index, 3)) (k : oS G M p l e R s m args below meth c Z n0 (pc + 3) L (.int v :: S) h) : oS G M p l e R s m args below meth c Z n0 pc L S h := fun H locs ls a b z n q => lv_ldcw C.1 C.2.1 C.2.2.2.2.1 (C.2.2.2.2.2.1 _ hw) hd (k H locs ls a b z n q)
theorem r_ldc2 (C : oC G M n0 nF p l R s m args meth c) {index : Nat} (v : Int64) (hw : Cond.constantLong M.1.cls index v ∈ oWL) (hd : decode M.2.1 pc = .ok (.ldc2_w index, 3)) (k : oS G M p l e R s m args below meth c Z n0 (pc + 3) L (.long v :: S) h) : oS G M p l e R s m args below meth c Z n0 pc L S h := fun H locs ls a b z n q => lv_ldc2 C.1 C.2.1 C.2.2.2.2.1 (C.2.2.2.2.2.1 _ hw) hd (k H locs ls a b z n q)
theorem r_null (C : oC G M n0 nF p l R s m args meth c)  (hd : decode M.2.1 pc = .ok (.aconst_null, 1)) (k : oS G M p l e R s m args below meth c Z n0 (pc + 1) L (.null :: S) h) : oS G M p l e R s m args below meth c Z n0 pc L S h := fun H locs ls a b z n q => lv_null C.1 C.2.1 hd (k H locs ls a b z n q)
theorem r_iload_n (C : oC G M n0 nF p l R s m args meth c) {i : Fin 4} {x : Int32} (hl : L[(i : Nat)]? = some (some (.int x))) (hd : decode M.2.1 pc = .ok (.iload_n i, 1)) (k : oS G M p l e R s m args below meth c Z n0 (pc + 1) L (.int x :: S) h) : oS G M p l e R s m args below meth c Z n0 pc L S h := fun H locs ls a b z n q => lv_iload_n C.1 C.2.1 hd rfl (q.2.2 _ _ hl) (k H locs ls a b z n q)
theorem r_iload (C : oC G M n0 nF p l R s m args meth c) {i : Nat} {x : Int32} (hl : L[i]? = some (some (.int x))) (hd : decode M.2.1 pc = .ok (.iload i, 2)) (k : oS G M p l e R s m args below meth c Z n0 (pc + 2) L (.int x :: S) h) : oS G M p l e R s m args below meth c Z n0 pc L S h := fun H locs ls a b z n q => lv_iload C.1 C.2.1 hd (q.2.2 _ _ hl) (k H locs ls a b z n q)
theorem r_lload_n (C : oC G M n0 nF p l R s m args meth c) {i : Fin 4} {x : Int64} (hl : L[(i : Nat)]? = some (some (.long x))) (hd : decode M.2.1 pc = .ok (.lload_n i, 1)) (k : oS G M p l e R s m args below meth c Z n0 (pc + 1) L (.long x :: S) h) : oS G M p l e R s m args below meth c Z n0 pc L S h := fun H locs ls a b z n q => lv_lload_n C.1 C.2.1 hd rfl (q.2.2 _ _ hl) (k H locs ls a b z n q)
theorem r_lload (C : oC G M n0 nF p l R s m args meth c) {i : Nat} {x : Int64} (hl : L[i]? = some (some (.long x))) (hd : decode M.2.1 pc = .ok (.lload i, 2)) (k : oS G M p l e R s m args below meth c Z n0 (pc + 2) L (.long x :: S) h) : oS G M p l e R s m args below meth c Z n0 pc L S h := fun H locs ls a b z n q => lv_lload C.1 C.2.1 hd (q.2.2 _ _ hl) (k H locs ls a b z n q)
theorem r_aload_n (C : oC G M n0 nF p l R s m args meth c) {i : Fin 4} {v : Value} (hl : L[(i : Nat)]? = some (some v)) (hv : oIsR v = true) (hd : decode M.2.1 pc = .ok (.aload_n i, 1)) (k : oS G M p l e R s m args below meth c Z n0 (pc + 1) L (v :: S) h) : oS G M p l e R s m args below meth c Z n0 pc L S h := fun H locs ls a b z n q => by
  have k1 := k H locs ls a b z n q
  have h1 := q.2.2 _ _ hl
  cases v <;> first | exact absurd hv Bool.false_ne_true | exact lv_aload_n C.1 C.2.1 hd rfl h1 k1 | exact lv_aload_nN C.1 C.2.1 hd rfl h1 k1
theorem r_aload (C : oC G M n0 nF p l R s m args meth c) {i : Nat} {v : Value} (hl : L[i]? = some (some v)) (hv : oIsR v = true) (hd : decode M.2.1 pc = .ok (.aload i, 2)) (k : oS G M p l e R s m args below meth c Z n0 (pc + 2) L (v :: S) h) : oS G M p l e R s m args below meth c Z n0 pc L S h := fun H locs ls a b z n q => by
  have k1 := k H locs ls a b z n q
  have h1 := q.2.2 _ _ hl
  cases v <;> first | exact absurd hv Bool.false_ne_true | exact lv_aload C.1 C.2.1 hd h1 k1 | exact lv_aloadN C.1 C.2.1 hd h1 k1
theorem r_istore_n (C : oC G M n0 nF p l R s m args meth c) {i : Fin 4} {x : Int32} (ho : oOk L i = true) (hn : (i : Nat) < M.2.2.1) (hd : decode M.2.1 pc = .ok (.istore_n i, 1)) (k : oS G M p l e R s m args below meth c Z n0 (pc + 1) (L.set i (some (.int x))) S h) : oS G M p l e R s m args below meth c Z n0 pc L (.int x :: S) h := fun H locs ls a b z n q => lv_istore_n C.1 C.2.1 hd rfl q.has hn rfl (fun ls1 q1 => k H locs ls1 a b z n (oL.store1 ho q1))
theorem r_istore (C : oC G M n0 nF p l R s m args meth c) {i : Nat} {x : Int32} (ho : oOk L i = true) (hn : i < M.2.2.1) (hd : decode M.2.1 pc = .ok (.istore i, 2)) (k : oS G M p l e R s m args below meth c Z n0 (pc + 2) (L.set i (some (.int x))) S h) : oS G M p l e R s m args below meth c Z n0 pc L (.int x :: S) h := fun H locs ls a b z n q => lv_istore C.1 C.2.1 hd q.has hn rfl (fun ls1 q1 => k H locs ls1 a b z n (oL.store1 ho q1))
theorem r_lstore_n (C : oC G M n0 nF p l R s m args meth c) {i : Fin 4} {x : Int64} (ho : oOk L i = true) (hn : (i : Nat) + 1 < M.2.2.1) (hd : decode M.2.1 pc = .ok (.lstore_n i, 1)) (k : oS G M p l e R s m args below meth c Z n0 (pc + 1) ((L.set i (some (.long x))).set (i + 1) none) S h) : oS G M p l e R s m args below meth c Z n0 pc L (.long x :: S) h := fun H locs ls a b z n q => lv_lstore_n C.1 C.2.1 hd rfl q.has hn rfl (fun ls1 q1 => k H locs ls1 a b z n (oL.store2 ho q1))
theorem r_astore_n (C : oC G M n0 nF p l R s m args meth c) {i : Fin 4} {v : Value} (hv : oIsR v = true) (ho : oOk L i = true) (hn : (i : Nat) < M.2.2.1) (hd : decode M.2.1 pc = .ok (.astore_n i, 1)) (k : oS G M p l e R s m args below meth c Z n0 (pc + 1) (L.set i (some v)) S h) : oS G M p l e R s m args below meth c Z n0 pc L (v :: S) h := fun H locs ls a b z n q => by
  cases v <;> first | exact absurd hv Bool.false_ne_true | exact lv_astore_n C.1 C.2.1 hd rfl q.has hn rfl (fun ls1 q1 => k H locs ls1 a b z n (oL.store1 ho q1)) | exact lv_astore_nN C.1 C.2.1 hd rfl q.has hn rfl (fun ls1 q1 => k H locs ls1 a b z n (oL.store1 ho q1))
theorem r_astore (C : oC G M n0 nF p l R s m args meth c) {i : Nat} {v : Value} (hv : oIsR v = true) (ho : oOk L i = true) (hn : i < M.2.2.1) (hd : decode M.2.1 pc = .ok (.astore i, 2)) (k : oS G M p l e R s m args below meth c Z n0 (pc + 2) (L.set i (some v)) S h) : oS G M p l e R s m args below meth c Z n0 pc L (v :: S) h := fun H locs ls a b z n q => by
  cases v <;> first | exact absurd hv Bool.false_ne_true | exact lv_astore C.1 C.2.1 hd q.has hn rfl (fun ls1 q1 => k H locs ls1 a b z n (oL.store1 ho q1)) | exact lv_astoreN C.1 C.2.1 hd q.has hn rfl (fun ls1 q1 => k H locs ls1 a b z n (oL.store1 ho q1))
theorem r_iinc (C : oC G M n0 nF p l R s m args meth c) {i : Nat} {d : Int} {x : Int32} (hl : L[i]? = some (some (.int x))) (ho : oOk L i = true) (hn : i < M.2.2.1) (hd : decode M.2.1 pc = .ok (.iinc i d, 3)) (k : oS G M p l e R s m args below meth c Z n0 (pc + 3) (L.set i (some (.int (x + Int32.ofInt d)))) S h) : oS G M p l e R s m args below meth c Z n0 pc L S h := fun H locs ls a b z n q => by
  obtain ⟨j, hj⟩ := List.getElem?_of_mem (oLs_mem (G := G).mpr ⟨_, hl, rfl⟩)
  exact lv_iinc C.1 C.2.1 hd q.has hj rfl hn rfl (fun ls1 q1 => k H locs ls1 a b z n (oL.store1 ho q1))
theorem r_dup (C : oC G M n0 nF p l R s m args meth c) {v : Value} (c1 : v.category = 1) (hd : decode M.2.1 pc = .ok (.dup, 1)) (k : oS G M p l e R s m args below meth c Z n0 (pc + 1) L (v :: v :: S) h) : oS G M p l e R s m args below meth c Z n0 pc L (v :: S) h := fun H locs ls a b z n q => lv_dup C.1 C.2.1 hd (oV_cat G _ c1) (k H locs ls a b z n q)
theorem r_pop (C : oC G M n0 nF p l R s m args meth c) {v : Value} (c1 : v.category = 1) (hd : decode M.2.1 pc = .ok (.pop, 1)) (k : oS G M p l e R s m args below meth c Z n0 (pc + 1) L S h) : oS G M p l e R s m args below meth c Z n0 pc L (v :: S) h := fun H locs ls a b z n q => lv_pop C.1 C.2.1 hd (oV_cat G _ c1) (k H locs ls a b z n q)
theorem r_dup2 (C : oC G M n0 nF p l R s m args meth c) {v w : Value} (c1 : v.category = 1) (c2 : w.category = 1) (hd : decode M.2.1 pc = .ok (.dup2, 1)) (k : oS G M p l e R s m args below meth c Z n0 (pc + 1) L (v :: w :: v :: w :: S) h) : oS G M p l e R s m args below meth c Z n0 pc L (v :: w :: S) h := fun H locs ls a b z n q => lv_dup2_11 C.1 C.2.1 hd (oV_cat G _ c1) (oV_cat G _ c2) (k H locs ls a b z n q)
theorem r_if_eq (C : oC G M n0 nF p l R s m args meth c) {x : Int32} {off : Int} (tgt : Nat) (ht : (pc : Int) + off = (tgt : Int)) (hd : decode M.2.1 pc = .ok (.ifCond .eq off, 3)) (kt : x = 0 → oS G M p l e R s m args below meth c Z n0 tgt L S h) (kf : ¬ x = 0 → oS G M p l e R s m args below meth c Z n0 (pc + 3) L S h) : oS G M p l e R s m args below meth c Z n0 pc L (.int x :: S) h := fun H locs ls a b z n q => lv_if_eq C.1 C.2.1 hd ht (fun j => kt j H locs ls a b z n q) (fun j => kf j H locs ls a b z n q)
theorem r_icmp_eq (C : oC G M n0 nF p l R s m args meth c) {x y : Int32} {off : Int} (tgt : Nat) (ht : (pc : Int) + off = (tgt : Int)) (hd : decode M.2.1 pc = .ok (.if_icmp .eq off, 3)) (kt : x = y → oS G M p l e R s m args below meth c Z n0 tgt L S h) (kf : ¬ x = y → oS G M p l e R s m args below meth c Z n0 (pc + 3) L S h) : oS G M p l e R s m args below meth c Z n0 pc L (.int y :: .int x :: S) h := fun H locs ls a b z n q => lv_icmp_eq C.1 C.2.1 hd ht (fun j => kt j H locs ls a b z n q) (fun j => kf j H locs ls a b z n q)
theorem r_if_ne (C : oC G M n0 nF p l R s m args meth c) {x : Int32} {off : Int} (tgt : Nat) (ht : (pc : Int) + off = (tgt : Int)) (hd : decode M.2.1 pc = .ok (.ifCond .ne off, 3)) (kt : ¬ x = 0 → oS G M p l e R s m args below meth c Z n0 tgt L S h) (kf : x = 0 → oS G M p l e R s m args below meth c Z n0 (pc + 3) L S h) : oS G M p l e R s m args below meth c Z n0 pc L (.int x :: S) h := fun H locs ls a b z n q => lv_if_ne C.1 C.2.1 hd ht (fun j => kt j H locs ls a b z n q) (fun j => kf j H locs ls a b z n q)
theorem r_icmp_ne (C : oC G M n0 nF p l R s m args meth c) {x y : Int32} {off : Int} (tgt : Nat) (ht : (pc : Int) + off = (tgt : Int)) (hd : decode M.2.1 pc = .ok (.if_icmp .ne off, 3)) (kt : ¬ x = y → oS G M p l e R s m args below meth c Z n0 tgt L S h) (kf : x = y → oS G M p l e R s m args below meth c Z n0 (pc + 3) L S h) : oS G M p l e R s m args below meth c Z n0 pc L (.int y :: .int x :: S) h := fun H locs ls a b z n q => lv_icmp_ne C.1 C.2.1 hd ht (fun j => kt j H locs ls a b z n q) (fun j => kf j H locs ls a b z n q)
theorem r_if_lt (C : oC G M n0 nF p l R s m args meth c) {x : Int32} {off : Int} (tgt : Nat) (ht : (pc : Int) + off = (tgt : Int)) (hd : decode M.2.1 pc = .ok (.ifCond .lt off, 3)) (kt : x < 0 → oS G M p l e R s m args below meth c Z n0 tgt L S h) (kf : ¬ x < 0 → oS G M p l e R s m args below meth c Z n0 (pc + 3) L S h) : oS G M p l e R s m args below meth c Z n0 pc L (.int x :: S) h := fun H locs ls a b z n q => lv_if_lt C.1 C.2.1 hd ht (fun j => kt j H locs ls a b z n q) (fun j => kf j H locs ls a b z n q)
theorem r_icmp_lt (C : oC G M n0 nF p l R s m args meth c) {x y : Int32} {off : Int} (tgt : Nat) (ht : (pc : Int) + off = (tgt : Int)) (hd : decode M.2.1 pc = .ok (.if_icmp .lt off, 3)) (kt : x < y → oS G M p l e R s m args below meth c Z n0 tgt L S h) (kf : ¬ x < y → oS G M p l e R s m args below meth c Z n0 (pc + 3) L S h) : oS G M p l e R s m args below meth c Z n0 pc L (.int y :: .int x :: S) h := fun H locs ls a b z n q => lv_icmp_lt C.1 C.2.1 hd ht (fun j => kt j H locs ls a b z n q) (fun j => kf j H locs ls a b z n q)
theorem r_if_ge (C : oC G M n0 nF p l R s m args meth c) {x : Int32} {off : Int} (tgt : Nat) (ht : (pc : Int) + off = (tgt : Int)) (hd : decode M.2.1 pc = .ok (.ifCond .ge off, 3)) (kt : 0 ≤ x → oS G M p l e R s m args below meth c Z n0 tgt L S h) (kf : ¬ 0 ≤ x → oS G M p l e R s m args below meth c Z n0 (pc + 3) L S h) : oS G M p l e R s m args below meth c Z n0 pc L (.int x :: S) h := fun H locs ls a b z n q => lv_if_ge C.1 C.2.1 hd ht (fun j => kt j H locs ls a b z n q) (fun j => kf j H locs ls a b z n q)
theorem r_icmp_ge (C : oC G M n0 nF p l R s m args meth c) {x y : Int32} {off : Int} (tgt : Nat) (ht : (pc : Int) + off = (tgt : Int)) (hd : decode M.2.1 pc = .ok (.if_icmp .ge off, 3)) (kt : y ≤ x → oS G M p l e R s m args below meth c Z n0 tgt L S h) (kf : ¬ y ≤ x → oS G M p l e R s m args below meth c Z n0 (pc + 3) L S h) : oS G M p l e R s m args below meth c Z n0 pc L (.int y :: .int x :: S) h := fun H locs ls a b z n q => lv_icmp_ge C.1 C.2.1 hd ht (fun j => kt j H locs ls a b z n q) (fun j => kf j H locs ls a b z n q)
theorem r_if_gt (C : oC G M n0 nF p l R s m args meth c) {x : Int32} {off : Int} (tgt : Nat) (ht : (pc : Int) + off = (tgt : Int)) (hd : decode M.2.1 pc = .ok (.ifCond .gt off, 3)) (kt : 0 < x → oS G M p l e R s m args below meth c Z n0 tgt L S h) (kf : ¬ 0 < x → oS G M p l e R s m args below meth c Z n0 (pc + 3) L S h) : oS G M p l e R s m args below meth c Z n0 pc L (.int x :: S) h := fun H locs ls a b z n q => lv_if_gt C.1 C.2.1 hd ht (fun j => kt j H locs ls a b z n q) (fun j => kf j H locs ls a b z n q)
theorem r_icmp_gt (C : oC G M n0 nF p l R s m args meth c) {x y : Int32} {off : Int} (tgt : Nat) (ht : (pc : Int) + off = (tgt : Int)) (hd : decode M.2.1 pc = .ok (.if_icmp .gt off, 3)) (kt : y < x → oS G M p l e R s m args below meth c Z n0 tgt L S h) (kf : ¬ y < x → oS G M p l e R s m args below meth c Z n0 (pc + 3) L S h) : oS G M p l e R s m args below meth c Z n0 pc L (.int y :: .int x :: S) h := fun H locs ls a b z n q => lv_icmp_gt C.1 C.2.1 hd ht (fun j => kt j H locs ls a b z n q) (fun j => kf j H locs ls a b z n q)
theorem r_if_le (C : oC G M n0 nF p l R s m args meth c) {x : Int32} {off : Int} (tgt : Nat) (ht : (pc : Int) + off = (tgt : Int)) (hd : decode M.2.1 pc = .ok (.ifCond .le off, 3)) (kt : x ≤ 0 → oS G M p l e R s m args below meth c Z n0 tgt L S h) (kf : ¬ x ≤ 0 → oS G M p l e R s m args below meth c Z n0 (pc + 3) L S h) : oS G M p l e R s m args below meth c Z n0 pc L (.int x :: S) h := fun H locs ls a b z n q => lv_if_le C.1 C.2.1 hd ht (fun j => kt j H locs ls a b z n q) (fun j => kf j H locs ls a b z n q)
theorem r_icmp_le (C : oC G M n0 nF p l R s m args meth c) {x y : Int32} {off : Int} (tgt : Nat) (ht : (pc : Int) + off = (tgt : Int)) (hd : decode M.2.1 pc = .ok (.if_icmp .le off, 3)) (kt : x ≤ y → oS G M p l e R s m args below meth c Z n0 tgt L S h) (kf : ¬ x ≤ y → oS G M p l e R s m args below meth c Z n0 (pc + 3) L S h) : oS G M p l e R s m args below meth c Z n0 pc L (.int y :: .int x :: S) h := fun H locs ls a b z n q => lv_icmp_le C.1 C.2.1 hd ht (fun j => kt j H locs ls a b z n q) (fun j => kf j H locs ls a b z n q)
theorem r_goto (C : oC G M n0 nF p l R s m args meth c) {off : Int} (tgt : Nat) (ht : (pc : Int) + off = (tgt : Int)) (hd : decode M.2.1 pc = .ok (.goto off, 3)) (k : oS G M p l e R s m args below meth c Z n0 tgt L S h) : oS G M p l e R s m args below meth c Z n0 pc L S h := fun H locs ls a b z n q => lv_goto C.1 C.2.1 hd ht (k H locs ls a b z n q)
theorem r_ifnull (C : oC G M n0 nF p l R s m args meth c) {i : Nat} {off : Int} (hd : decode M.2.1 pc = .ok (.ifnull off, 3)) (k : oS G M p l e R s m args below meth c Z n0 (pc + 3) L S h) : oS G M p l e R s m args below meth c Z n0 pc L (.ref i :: S) h := fun H locs ls a b z n q => lv_ifnull C.1 C.2.1 hd (k H locs ls a b z n q)
theorem r_ifnullN (C : oC G M n0 nF p l R s m args meth c) {off : Int} (tgt : Nat) (ht : (pc : Int) + off = (tgt : Int)) (hd : decode M.2.1 pc = .ok (.ifnull off, 3)) (k : oS G M p l e R s m args below meth c Z n0 tgt L S h) : oS G M p l e R s m args below meth c Z n0 pc L (.null :: S) h := fun H locs ls a b z n q => lv_ifnullN C.1 C.2.1 hd ht (k H locs ls a b z n q)
theorem r_ifnonnull (C : oC G M n0 nF p l R s m args meth c) {i : Nat} {off : Int} (tgt : Nat) (ht : (pc : Int) + off = (tgt : Int)) (hd : decode M.2.1 pc = .ok (.ifnonnull off, 3)) (k : oS G M p l e R s m args below meth c Z n0 tgt L S h) : oS G M p l e R s m args below meth c Z n0 pc L (.ref i :: S) h := fun H locs ls a b z n q => lv_ifnonnull C.1 C.2.1 hd ht (k H locs ls a b z n q)
theorem r_ifnonnullN (C : oC G M n0 nF p l R s m args meth c) {off : Int} (hd : decode M.2.1 pc = .ok (.ifnonnull off, 3)) (k : oS G M p l e R s m args below meth c Z n0 (pc + 3) L S h) : oS G M p l e R s m args below meth c Z n0 pc L (.null :: S) h := fun H locs ls a b z n q => lv_ifnonnullN C.1 C.2.1 hd (k H locs ls a b z n q)
theorem r_tableOut (C : oC G M n0 nF p l R s m args meth c) {dflt lo hi : Int} {offs : Array Int} {len : Nat} {x : Int32} (tgt : Nat) (hx : x.toInt < lo ∨ hi < x.toInt) (ht : (pc : Int) + dflt = (tgt : Int)) (hd : decode M.2.1 pc = .ok (.tableswitch dflt lo hi offs, len)) (k : oS G M p l e R s m args below meth c Z n0 tgt L S h) : oS G M p l e R s m args below meth c Z n0 pc L (.int x :: S) h := fun H locs ls a b z n q => lv_tableOut C.1 C.2.1 hd hx ht (k H locs ls a b z n q)
theorem r_tableIn (C : oC G M n0 nF p l R s m args meth c) {dflt lo hi : Int} {offs : Array Int} {len : Nat} {x : Int32} {off : Int} (tgt : Nat) (h1 : ¬ x.toInt < lo) (h2 : ¬ hi < x.toInt) (ho : offs[(x.toInt - lo).toNat]? = some off) (ht : (pc : Int) + off = (tgt : Int)) (hd : decode M.2.1 pc = .ok (.tableswitch dflt lo hi offs, len)) (k : oS G M p l e R s m args below meth c Z n0 tgt L S h) : oS G M p l e R s m args below meth c Z n0 pc L (.int x :: S) h := fun H locs ls a b z n q => lv_tableIn C.1 C.2.1 hd h1 h2 ho ht (k H locs ls a b z n q)
theorem r_lookup (C : oC G M n0 nF p l R s m args meth c) {dflt : Int} {ps : Array (Int × Int)} {len : Nat} {x : Int32} {off : Int} (tgt : Nat) (hp : (ps.toList.zip (ps.toList.drop 1)).all (fun (a, next) => a.1 < next.1) = true) (ho : Op.lookupswitch.offset ps.toList dflt x.toInt = off) (ht : (pc : Int) + off = (tgt : Int)) (hd : decode M.2.1 pc = .ok (.lookupswitch dflt ps, len)) (k : oS G M p l e R s m args below meth c Z n0 tgt L S h) : oS G M p l e R s m args below meth c Z n0 pc L (.int x :: S) h := fun H locs ls a b z n q => lv_lookup C.1 C.2.1 hd hp ho ht (k H locs ls a b z n q)
end ORULES
