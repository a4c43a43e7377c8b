/-! the class reads plans, plan by plan -/
def cR (G : oG) (b x3 x4 : Int32) (h : oH) (z : Nat) (qq st : Nat) (w ll pr : Int32) (r : Option Nat) : Prop := ∃ h' y4 cc, sC G b x3 x4 h x3 y4 h' ∧ fr8 h h' ∧ y4.toInt = ((cc : Nat) : Int) ∧ cc ≤ qq ∧ qq ≤ z ∧ (hI h' 8 3).toInt = (qq : Int) ∧ (hI h' 8 7).toInt = (st : Int) ∧ hI h' 8 9 = w ∧ hI h' 8 10 = ll ∧ hI h' 8 11 = pr ∧ hR h' 8 8 = r
theorem tpC.f8 {h h' : oH} {z : Nat} {T : Nat → Int} (t : tpC h z T) (f : fr8 h h') : tpC h' z T := t.fr (f.2.2.2 8 1 (by omega)) (fun j => f.2.2.2 9 j (by omega))
theorem oHs.g8 {h h' : oH} {n : Nat} (hh : oHs h n) (f : fr8 h h') : oHs h' n := hh.f8 f.1 f.2.1
theorem sC.rf {G : oG} {b x3 x4 : Int32} {h : oH} : sC G b x3 x4 h x3 x4 h := ⟨rfl, fun _ _ _ _ _ _ _ _ _ _ _ _ _ _ _ K => K⟩
theorem fr8.rf {h : oH} : fr8 h h := ⟨rfl, fun _ _ _ => rfl, fun _ _ => rfl, fun _ _ _ => rfl⟩
theorem cR.a0 {G : oG} {b x3 x4 : Int32} {h : oH} {n z : Nat} {T : Nat → Int} (hh : oHs h n) (tp : tpC h z T) {qq : Nat} {w ll pr : Int32} {r : Option Nat} (Q : cR G b x3 x4 h z qq 0 w ll pr r) (hk : xK T z qq = 1) : cR G b x3 x4 h z (xE T z qq) 1 w 0 0 r := by
  obtain ⟨h', y4, cc, s1, f1, h4, hc, hq, hnx, h7, e9, e10, e11, e8⟩ := Q
  obtain ⟨h2, s2, f2, a3, a7, a9, a10, a11, a8⟩ := st_0 G (hh.g8 f1) (tp.f8 f1) hq hnx h7 b x3 y4 h4 hc hk
  have hl := xE_w (T := T) hq
  have hS := xS_w (T := T) hq
  have hK := (xKR (T := T) hq).2.2.2.2.2.2.2.2 (by omega)
  exact ⟨h2, y4 + 1, cc + 1, s1.tr s2, f1.tr f2, (tA h4 (show (1 : Int32).toInt = 1 from rfl) (by have z3 := tp.2.1; omega)).trans (by omega), by omega, hl.2.1, a3, a7, a9.trans e9, a10, a11, a8.trans e8⟩
theorem cR.a1 {G : oG} {b x3 x4 : Int32} {h : oH} {n z : Nat} {T : Nat → Int} (hh : oHs h n) (tp : tpC h z T) {qq : Nat} {w ll pr : Int32} {r : Option Nat} (Q : cR G b x3 x4 h z qq 1 w ll pr r) (hk : xK T z qq = 5) {v : Nat} (hv : v < n) (hvv : xV T z qq = (v : Int)) : cR G b x3 x4 h z (xE T z qq) 2 w ll pr (some (hid v)) := by
  obtain ⟨h', y4, cc, s1, f1, h4, hc, hq, hnx, h7, e9, e10, e11, e8⟩ := Q
  obtain ⟨h2, s2, f2, a3, a7, a9, a10, a11, a8⟩ := st_1 G (hh.g8 f1) (tp.f8 f1) hq hnx h7 b x3 y4 h4 hc hk hv hvv
  have hl := xE_w (T := T) hq
  have hS := xS_w (T := T) hq
  have hK := (xKR (T := T) hq).2.2.2.2.2.2.2.2 (by omega)
  exact ⟨h2, y4 + 1, cc + 1, s1.tr s2, f1.tr f2, (tA h4 (show (1 : Int32).toInt = 1 from rfl) (by have z3 := tp.2.1; omega)).trans (by omega), by omega, hl.2.1, a3, a7, a9.trans e9, a10.trans e10, a11.trans e11, a8⟩
theorem cR.a2c {G : oG} {b x3 x4 : Int32} {h : oH} {n z : Nat} {T : Nat → Int} (hh : oHs h n) (tp : tpC h z T) {qq : Nat} {w ll pr : Int32} {r : Option Nat} (Q : cR G b x3 x4 h z qq 2 w ll pr r) (hk : xK T z qq = 3) : cR G b x3 x4 h z (xE T z qq) 5 1 ll pr r := by
  obtain ⟨h', y4, cc, s1, f1, h4, hc, hq, hnx, h7, e9, e10, e11, e8⟩ := Q
  obtain ⟨h2, s2, f2, a3, a7, a9, a10, a11, a8⟩ := st_2c G (hh.g8 f1) (tp.f8 f1) hq hnx h7 b x3 y4 h4 hc hk
  have hl := xE_w (T := T) hq
  have hS := xS_w (T := T) hq
  have hK := (xKR (T := T) hq).2.2.2.2.2.2.2.2 (by omega)
  exact ⟨h2, y4 + 1, cc + 1, s1.tr s2, f1.tr f2, (tA h4 (show (1 : Int32).toInt = 1 from rfl) (by have z3 := tp.2.1; omega)).trans (by omega), by omega, hl.2.1, a3, a7, a9, a10.trans e10, a11.trans e11, a8.trans e8⟩
theorem cR.a2p {G : oG} {b x3 x4 : Int32} {h : oH} {n z : Nat} {T : Nat → Int} (hh : oHs h n) (tp : tpC h z T) {qq : Nat} {w ll pr : Int32} {r : Option Nat} (Q : cR G b x3 x4 h z qq 2 w ll pr r) (hk : xK T z qq = 4) : cR G b x3 x4 h z (xE T z qq) 3 2 ll pr r := by
  obtain ⟨h', y4, cc, s1, f1, h4, hc, hq, hnx, h7, e9, e10, e11, e8⟩ := Q
  obtain ⟨h2, s2, f2, a3, a7, a9, a10, a11, a8⟩ := st_2p G (hh.g8 f1) (tp.f8 f1) hq hnx h7 b x3 y4 h4 hc hk
  have hl := xE_w (T := T) hq
  have hS := xS_w (T := T) hq
  have hK := (xKR (T := T) hq).2.2.2.2.2.2.2.2 (by omega)
  exact ⟨h2, y4 + 1, cc + 1, s1.tr s2, f1.tr f2, (tA h4 (show (1 : Int32).toInt = 1 from rfl) (by have z3 := tp.2.1; omega)).trans (by omega), by omega, hl.2.1, a3, a7, a9, a10.trans e10, a11.trans e11, a8.trans e8⟩
theorem cR.a2d {G : oG} {b x3 x4 : Int32} {h : oH} {n z : Nat} {T : Nat → Int} (hh : oHs h n) (tp : tpC h z T) {qq : Nat} {w ll pr : Int32} {r : Option Nat} (Q : cR G b x3 x4 h z qq 2 w ll pr r) (hk : xK T z qq = 2) : cR G b x3 x4 h z (xE T z qq) 6 0 ll pr r := by
  obtain ⟨h', y4, cc, s1, f1, h4, hc, hq, hnx, h7, e9, e10, e11, e8⟩ := Q
  obtain ⟨h2, s2, f2, a3, a7, a9, a10, a11, a8⟩ := st_2d G (hh.g8 f1) (tp.f8 f1) hq hnx h7 b x3 y4 h4 hc hk
  have hl := xE_w (T := T) hq
  have hS := xS_w (T := T) hq
  have hK := (xKR (T := T) hq).2.2.2.2.2.2.2.2 (by omega)
  exact ⟨h2, y4 + 1, cc + 1, s1.tr s2, f1.tr f2, (tA h4 (show (1 : Int32).toInt = 1 from rfl) (by have z3 := tp.2.1; omega)).trans (by omega), by omega, hl.2.1, a3, a7, a9, a10.trans e10, a11.trans e11, a8.trans e8⟩
theorem cR.a3 {G : oG} {b x3 x4 : Int32} {h : oH} {n z : Nat} {T : Nat → Int} (hh : oHs h n) (tp : tpC h z T) {qq : Nat} {w ll pr : Int32} {r : Option Nat} (Q : cR G b x3 x4 h z qq 3 w ll pr r) (hk : xK T z qq = 5) : cR G b x3 x4 h z (xE T z qq) 4 w (oI (xV T z qq)) pr r := by
  obtain ⟨h', y4, cc, s1, f1, h4, hc, hq, hnx, h7, e9, e10, e11, e8⟩ := Q
  obtain ⟨h2, s2, f2, a3, a7, a9, a10, a11, a8⟩ := st_3 G (hh.g8 f1) (tp.f8 f1) hq hnx h7 b x3 y4 h4 hc hk
  have hl := xE_w (T := T) hq
  have hS := xS_w (T := T) hq
  have hK := (xKR (T := T) hq).2.2.2.2.2.2.2.2 (by omega)
  exact ⟨h2, y4 + 1, cc + 1, s1.tr s2, f1.tr f2, (tA h4 (show (1 : Int32).toInt = 1 from rfl) (by have z3 := tp.2.1; omega)).trans (by omega), by omega, hl.2.1, a3, a7, a9.trans e9, a10, a11.trans e11, a8.trans e8⟩
theorem cR.a4 {G : oG} {b x3 x4 : Int32} {h : oH} {n z : Nat} {T : Nat → Int} (hh : oHs h n) (tp : tpC h z T) {qq : Nat} {w ll pr : Int32} {r : Option Nat} (Q : cR G b x3 x4 h z qq 4 w ll pr r) (hk : xK T z qq = 7) : cR G b x3 x4 h z (xE T z qq) 5 w ll pr r := by
  obtain ⟨h', y4, cc, s1, f1, h4, hc, hq, hnx, h7, e9, e10, e11, e8⟩ := Q
  obtain ⟨h2, s2, f2, a3, a7, a9, a10, a11, a8⟩ := st_4 G (hh.g8 f1) (tp.f8 f1) hq hnx h7 b x3 y4 h4 hc hk
  have hl := xE_w (T := T) hq
  have hS := xS_w (T := T) hq
  have hK := (xKR (T := T) hq).2.2.2.2.2.2.2.2 (by omega)
  exact ⟨h2, y4 + 1, cc + 1, s1.tr s2, f1.tr f2, (tA h4 (show (1 : Int32).toInt = 1 from rfl) (by have z3 := tp.2.1; omega)).trans (by omega), by omega, hl.2.1, a3, a7, a9.trans e9, a10.trans e10, a11.trans e11, a8.trans e8⟩
theorem cR.a5 {G : oG} {b x3 x4 : Int32} {h : oH} {n z : Nat} {T : Nat → Int} (hh : oHs h n) (tp : tpC h z T) {qq : Nat} {w ll pr : Int32} {r : Option Nat} (Q : cR G b x3 x4 h z qq 5 w ll pr r) (hk : xK T z qq = 5) : cR G b x3 x4 h z (xE T z qq) 6 w ll (oI (xV T z qq)) r := by
  obtain ⟨h', y4, cc, s1, f1, h4, hc, hq, hnx, h7, e9, e10, e11, e8⟩ := Q
  obtain ⟨h2, s2, f2, a3, a7, a9, a10, a11, a8⟩ := st_5 G (hh.g8 f1) (tp.f8 f1) hq hnx h7 b x3 y4 h4 hc hk
  have hl := xE_w (T := T) hq
  have hS := xS_w (T := T) hq
  have hK := (xKR (T := T) hq).2.2.2.2.2.2.2.2 (by omega)
  exact ⟨h2, y4 + 1, cc + 1, s1.tr s2, f1.tr f2, (tA h4 (show (1 : Int32).toInt = 1 from rfl) (by have z3 := tp.2.1; omega)).trans (by omega), by omega, hl.2.1, a3, a7, a9.trans e9, a10.trans e10, a11, a8.trans e8⟩
theorem cR.i {G : oG} {b x3 x4 : Int32} {h : oH} {n z : Nat} {T : Nat → Int} (hh : oHs h n) (tp : tpC h z T) {q : Nat} (hq : q ≤ z) (hnx : (hI h 8 3).toInt = (q : Int)) (h7 : (hI h 8 7).toInt = 0) {cc : Nat} (h4 : x4.toInt = (cc : Int)) (hc : cc ≤ q) : cR G b x3 x4 h z (ei T z q 0) 0 (hI h 8 9) (hI h 8 10) (hI h 8 11) (hR h 8 8) := ⟨h, x4, cc, sC.rf, fr8.rf, h4, hc, hq, hnx, h7, rfl, rfl, rfl, rfl⟩
theorem cR.semi {G : oG} {b x3 x4 : Int32} {h : oH} {n z : Nat} {T : Nat → Int} (hh : oHs h n) (tp : tpC h z T) {q : Nat} (hq : q ≤ z) (hnx : (hI h 8 3).toInt = (q : Int)) (h7 : (hI h 8 7).toInt = 0) {cc : Nat} (h4 : x4.toInt = (cc : Int)) (hc : cc ≤ q) {x : Pl} {r : Nat} (o : okP T z n q x r) : ∃ j, cR G b x3 x4 h z (ei T z q j) 6 x.2.1 x.2.2.1 x.2.2.2 (some (hid x.1)) ∧ kE T z q j = 6 ∧ r = ei T z q (j + 1) := by
  obtain ⟨k0, k1, hv, hvv, o⟩ := o
  have c2 := (((cR.i (G := G) (b := b) (x3 := x3) hh tp hq hnx h7 h4 hc).a0 hh tp k0).a1 hh tp k1 hv hvv)
  rcases o with ⟨k2, k3, e, er⟩ | ⟨k2, k3, k4, e, er⟩ | ⟨k2, k3, k4, k5, k6, e, er⟩
  · rw [e]
    exact ⟨3, c2.a2d hh tp k2, k3, er⟩
  · rw [e]
    exact ⟨4, (c2.a2c hh tp k2).a5 hh tp k3, k4, er⟩
  · rw [e]
    exact ⟨6, ((((c2.a2p hh tp k2).a3 hh tp k3).a4 hh tp k4).a5 hh tp k5), k6, er⟩
theorem cl_okN {G : oG} {b x3 x4 : Int32} {h : oH} {n z : Nat} {T : Nat → Int} (hh : oHs h n) (tp : tpC h z T) {q : Nat} (hq : q ≤ z) (hnx : (hI h 8 3).toInt = (q : Int)) (h7 : (hI h 8 7).toInt = 0) {cc : Nat} (h4 : x4.toInt = (cc : Int)) (hc : cc ≤ q) (hb : b.toInt = 0) {x : Pl} {r : Nat} (o : okP T z n q x r) : ∃ h' y4 cc', sC G b x3 x4 h (x3 + 1) y4 h' ∧ fr8 h h' ∧ y4.toInt = ((cc' : Nat) : Int) ∧ cc' ≤ r ∧ r ≤ z ∧ (hI h' 8 3).toInt = (r : Int) ∧ (hI h' 8 7).toInt = 0 := by
  obtain ⟨j, ⟨h', y4, cd, s1, f1, g4, gc, gq, gnx, g7, e9, e10, e11, e8⟩, hk, er⟩ := cR.semi (G := G) (b := b) (x3 := x3) hh tp hq hnx h7 h4 hc o
  obtain ⟨h2, s2, f2, a3, a7, -⟩ := st_6n G (hh.g8 f1) (tp.f8 f1) gq gnx g7 b x3 y4 g4 gc hk hb
  have hl := xE_w (T := T) gq
  have hS := xS_w (T := T) gq
  have hK := (xKR (T := T) gq).2.2.2.2.2.2.2.2 (by rw [show xK T z (ei T z q j) = 6 from hk]; decide)
  rw [er]
  exact ⟨h2, y4 + 1, cd + 1, s1.tr s2, f1.tr f2, (tA g4 (show (1 : Int32).toInt = 1 from rfl) (by have z3 := tp.2.1; omega)).trans (by omega), by show cd + 1 ≤ xE T z _; omega, hl.2.1, a3, a7⟩
/-- a plan is in force -/
def frP (i : Nat) (x : Int32 × Int32 × Int32) (h h' : oH) : Prop := h'.1 = h.1 ∧ (∀ a y, (a ≠ 8 ∨ y ≠ 8) → hR h' a y = hR h a y) ∧ (∀ a y, hJ h' a y = hJ h a y) ∧ (∀ a y, ¬ (a = 8 ∧ 3 ≤ y) → a ≠ pid i → hI h' a y = hI h a y) ∧ (hI h' (pid i) 0 = x.1 ∧ hI h' (pid i) 1 = x.2.1 ∧ hI h' (pid i) 2 = x.2.2) ∧ ∀ y, 2 < y → hI h' (pid i) y = hI h (pid i) y
theorem cl_okY {G : oG} {b x3 x4 : Int32} {h : oH} {n z : Nat} {T : Nat → Int} (hh : oHs h n) (tp : tpC h z T) {q : Nat} (hq : q ≤ z) (hnx : (hI h 8 3).toInt = (q : Int)) (h7 : (hI h 8 7).toInt = 0) {cc : Nat} (h4 : x4.toInt = (cc : Int)) (hc : cc ≤ q) (hb : b.toInt = 1) {x : Pl} {r : Nat} (o : okP T z n q x r) : ∃ h' y4 cc', sC G b x3 x4 h (x3 + 1) y4 h' ∧ frP x.1 x.2 h h' ∧ y4.toInt = ((cc' : Nat) : Int) ∧ cc' ≤ r ∧ r ≤ z ∧ (hI h' 8 3).toInt = (r : Int) ∧ (hI h' 8 7).toInt = 0 := by
  obtain ⟨j, ⟨h', y4, cd, s1, f1, g4, gc, gq, gnx, g7, e9, e10, e11, e8⟩, hk, er⟩ := cR.semi (G := G) (b := b) (x3 := x3) hh tp hq hnx h7 h4 hc o
  obtain ⟨h2, s2, ⟨f21, f22, f23, f24, f25, f26⟩, a3, a7, -⟩ := st_6y G (hh.g8 f1) (tp.f8 f1) gq gnx g7 b x3 y4 g4 gc hk hb o.2.2.1 e8
  have hp : 36 ≤ pid x.1 := by unfold pid; omega
  have hl := xE_w (T := T) gq
  have hS := xS_w (T := T) gq
  have hK := (xKR (T := T) gq).2.2.2.2.2.2.2.2 (by rw [show xK T z (ei T z q j) = 6 from hk]; decide)
  rw [er]
  refine ⟨h2, y4 + 1, cd + 1, s1.tr s2, ⟨f21.trans f1.1, fun a y c1 => (f22 a y).trans (f1.2.1 a y c1), fun a y => (f23 a y).trans (f1.2.2.1 a y), fun a y c1 c2 => (f24 a y c1 c2).trans (f1.2.2.2 a y c1), ⟨f25.1.trans e9, f25.2.1.trans e10, f25.2.2.trans e11⟩, fun y hy => (f26 y hy).trans (f1.2.2.2 _ y (by omega))⟩, (tA g4 (show (1 : Int32).toInt = 1 from rfl) (by have z3 := tp.2.1; omega)).trans (by omega), by show cd + 1 ≤ xE T z _; omega, hl.2.1, a3, a7⟩
def sE (G : oG) (b x3 x4 : Int32) (h : oH) (v : Int32) (hf : oH) : Prop := hf.1 = h.1 ∧ ∀ (p : Program) (l : Launch) (e : Env) (R : Room) (s : State) (m : MethodId) (args : Array Value) (below : List Frame) (meth : Method) (c : Code) (n0 nF : Nat), oC G mX3_readOnce n0 nF p l R s m args meth c → h.1 ≤ nF → ∀ t5, oS G mX3_readOnce p l e R s m args below meth c (oZ G below args s n0 nF (some (.int v)) hf) n0 15 [some (.ref 8), some (.ref 1), some (.int b), some (.int x3), some (.int x4), t5] [] h
theorem sC.te {G : oG} {b x3 x4 y3 y4 v : Int32} {h h' hf : oH} (q1 : sC G b x3 x4 h y3 y4 h') (q2 : sE G b y3 y4 h' v hf) : sE G b x3 x4 h v hf := ⟨q2.1.trans q1.1, fun p l e R s m args below meth c n0 nF C hF => q1.2 p l e R s m args below meth c _ n0 nF C hF (q2.2 p l e R s m args below meth c n0 nF C (by rw [q1.1]; exact hF))⟩
set_option maxHeartbeats 4000000 in
set_option maxRecDepth 100000 in
theorem st_end (G : oG) {h : oH} {n : Nat} (hh : oHs h n) {z : Nat} {T : Nat → Int} (tp : tpC h z T) {q : Nat} (hq : q ≤ z) (hnx : (hI h 8 3).toInt = (q : Int)) (h7 : (hI h 8 7).toInt = 0) (b x3 x4 : Int32) {cc : Nat} (h4 : x4.toInt = (cc : Int)) (hc : cc ≤ q) (hk : xK T z q = 0) : ∃ hf, sE G b x3 x4 h x3 hf ∧ fr8 h hf := by
  have z3 := tp.2.1
  obtain ⟨h1, sp1, rd⟩ := rdT G hh.1 tp hq hnx
  have rf := fr8.rd rd
  obtain ⟨f1, f2, f3, f4, f5, f6, f7, f8⟩ := rd
  have hh1 : oHs h1 n := hh.fr f5 f6
  have hs1 := hh1.1
  have h71 : (hI h1 8 7).toInt = 0 := by rw [f8 8 7 (by omega)]; exact h7
  rw [hk] at f2
  refine ⟨h1, ⟨f5, fun p l e R s m args below meth c n0 nF C hF t5 => ?_⟩, rf⟩
  refine r_iload C rfl dX3_readOnce_15 ?_
  refine r_sipush C 300 rfl dX3_readOnce_17 ?_
  refine t_icmp_gt C 124 (by decide) h4 (show (300 : Int32).toInt = 300 from rfl) dX3_readOnce_20 (fun c20 => absurd c20 (by omega)) (fun c20 => ?_)
  have hs := hh.1
  refine r_aload_n C rfl rfl dX3_readOnce_23 ?_
  refine r_callV C sp1 kv_X3_readToken kn_X3_readToken rfl dX3_readOnce_24 cl_X3_55 ⟨Nat.le_of_ble_eq_true rfl, Nat.le_of_ble_eq_true rfl⟩ (by decide) rfl rfl (q_lt hs (by decide)) (by rw [f5]; exact hF) rfl (Nat.le_of_ble_eq_true rfl) ?_
  have hs := hs1
  have hF1 : h1.1 ≤ nF := by rw [f5]; exact hF
  refine r_aload_n C rfl rfl dX3_readOnce_27 ?_
  refine r_getI C dX3_readOnce_28 fl_X3_25 rfl (q_lt hs (by decide)) ?_
  refine t_if_ne C 44 (by decide) f2 dX3_readOnce_31 (fun c31 => absurd rfl c31) (fun c31 => ?_)
  refine r_aload_n C rfl rfl dX3_readOnce_34 ?_
  refine r_getI C dX3_readOnce_35 fl_X3_34 rfl (q_lt hs (by decide)) ?_
  refine t_if_ne C 44 (by decide) h71 dX3_readOnce_38 (fun c38 => absurd rfl c38) (fun c38 => ?_)
  refine r_goto C 124 (by decide) dX3_readOnce_41 ?_
  refine r_iload_n C rfl dX3_readOnce_124 ?_
  exact r_iret C dX3_readOnce_125 rfl hF1 rfl rfl

set_option maxHeartbeats 4000000 in
set_option maxRecDepth 100000 in
theorem st_x0 (G : oG) {h : oH} {n : Nat} (hh : oHs h n) {z : Nat} {T : Nat → Int} (tp : tpC h z T) {q : Nat} (hq : q ≤ z) (hnx : (hI h 8 3).toInt = (q : Int)) (h7 : (hI h 8 7).toInt = 0) (b x3 x4 : Int32) {cc : Nat} (h4 : x4.toInt = (cc : Int)) (hc : cc ≤ q) (hk : ¬ (xK T z q = 1)) (hnz : xK T z q ≠ 0) : ∃ hf, sE G b x3 x4 h (-1000100 - kI (xS T z q)) hf ∧ fr8 h (sI hf 8 2 (hI h 8 2)) ∧ (hI hf 8 2).toInt = 1 := by
  have z3 := tp.2.1
  obtain ⟨h1, sp1, rd⟩ := rdT G hh.1 tp hq hnx
  have rf := fr8.rd rd
  obtain ⟨f1, f2, f3, f4, f5, f6, f7, f8⟩ := rd
  have hh1 : oHs h1 n := hh.fr f5 f6
  have hs1 := hh1.1
  have h71 : (hI h1 8 7).toInt = 0 := by rw [f8 8 7 (by omega)]; exact h7
  have hSz := (xS_w (T := T) hq).2
  have e5 : hI h1 8 5 = kI (xS T z q) := kI_e f3
  have tt := sp_ttX0 G hh1 f2 h71 hk
  refine ⟨sI h1 8 2 1, ⟨f5, fun p l e R s m args below meth c n0 nF C hF t5 => ?_⟩, ⟨f5, fun a y _ => f6 a y, f7, fun a y c1 => ?_⟩, by rw [sI_eq ⟨rfl, rfl⟩]; rfl⟩
  · refine r_iload C rfl dX3_readOnce_15 ?_
    refine r_sipush C 300 rfl dX3_readOnce_17 ?_
    refine t_icmp_gt C 124 (by decide) h4 (show (300 : Int32).toInt = 300 from rfl) dX3_readOnce_20 (fun c20 => ?_) (fun c20 => ?_)
    · first
      | (exfalso; omega)
      |  (refine r_iload_n C rfl dX3_readOnce_124 ?_
          exact r_iret C dX3_readOnce_125 rfl hF1 (by rw [← e5]; rfl) rfl)
    · first
      | (exfalso; omega)
      |  (have hs := hh.1
          refine r_aload_n C rfl rfl dX3_readOnce_23 ?_
          refine r_callV C sp1 kv_X3_readToken kn_X3_readToken rfl dX3_readOnce_24 cl_X3_55 ⟨Nat.le_of_ble_eq_true rfl, Nat.le_of_ble_eq_true rfl⟩ (by decide) rfl rfl (q_lt hs (by decide)) (by rw [f5]; exact hF) rfl (Nat.le_of_ble_eq_true rfl) ?_
          have hs := hs1
          have hF1 : h1.1 ≤ nF := by rw [f5]; exact hF
          refine r_aload_n C rfl rfl dX3_readOnce_27 ?_
          refine r_getI C dX3_readOnce_28 fl_X3_25 rfl (q_lt hs (by decide)) ?_
          refine t_if_ne C 44 (by decide) f2 dX3_readOnce_31 (fun c31 => ?_) (fun c31 => ?_)
          · first
            | (exfalso; omega)
            |  (refine r_aload_n C rfl rfl dX3_readOnce_44 ?_
                refine r_aload_n C rfl rfl dX3_readOnce_45 ?_
                refine r_callV C tt kv_X3_takeToken kn_X3_takeToken rfl dX3_readOnce_46 cl_X3_58 ⟨Nat.le_of_ble_eq_true rfl, Nat.le_of_ble_eq_true rfl⟩ (by decide) rfl rfl (q_lt hs (by decide)) hF1 rfl (Nat.le_of_ble_eq_true rfl) ?_
                refine r_istore C rfl (Nat.le_of_ble_eq_true rfl) dX3_readOnce_49 ?_
                refine r_iload C rfl dX3_readOnce_51 ?_
                refine t_if_eq C 70 (by decide) (show (1 : Int32).toInt = 1 from rfl) dX3_readOnce_53 (fun c53 => absurd c53 (by decide)) (fun c53 => ?_)
                refine r_aload_n C rfl rfl dX3_readOnce_56 ?_
                refine r_iload C rfl dX3_readOnce_57 ?_
                refine r_putI C dX3_readOnce_59 fl_X3_19 rfl (q_lt hs (by decide)) (Or.inl rfl) ?_
                refine r_ldc C _ lc_X3_62 dX3_readOnce_62 ?_
                refine r_aload_n C rfl rfl dX3_readOnce_64 ?_
                refine r_getI C dX3_readOnce_65 fl_X3_28 rfl (q_lt hs (by decide)) ?_
                refine r_isub C dX3_readOnce_68 ?_
                exact r_iret C dX3_readOnce_69 rfl hF1 (by rw [← e5]; rfl) rfl)
          · first
            | (exfalso; omega)
            |  (refine r_aload_n C rfl rfl dX3_readOnce_34 ?_
                refine r_getI C dX3_readOnce_35 fl_X3_34 rfl (q_lt hs (by decide)) ?_
                refine t_if_ne C 44 (by decide) h71 dX3_readOnce_38 (fun c38 => ?_) (fun c38 => ?_)
                · first
                  | (exfalso; omega)
                  |  (refine r_aload_n C rfl rfl dX3_readOnce_44 ?_
                      refine r_aload_n C rfl rfl dX3_readOnce_45 ?_
                      refine r_callV C tt kv_X3_takeToken kn_X3_takeToken rfl dX3_readOnce_46 cl_X3_58 ⟨Nat.le_of_ble_eq_true rfl, Nat.le_of_ble_eq_true rfl⟩ (by decide) rfl rfl (q_lt hs (by decide)) hF1 rfl (Nat.le_of_ble_eq_true rfl) ?_
                      refine r_istore C rfl (Nat.le_of_ble_eq_true rfl) dX3_readOnce_49 ?_
                      refine r_iload C rfl dX3_readOnce_51 ?_
                      refine t_if_eq C 70 (by decide) (show (1 : Int32).toInt = 1 from rfl) dX3_readOnce_53 (fun c53 => absurd c53 (by decide)) (fun c53 => ?_)
                      refine r_aload_n C rfl rfl dX3_readOnce_56 ?_
                      refine r_iload C rfl dX3_readOnce_57 ?_
                      refine r_putI C dX3_readOnce_59 fl_X3_19 rfl (q_lt hs (by decide)) (Or.inl rfl) ?_
                      refine r_ldc C _ lc_X3_62 dX3_readOnce_62 ?_
                      refine r_aload_n C rfl rfl dX3_readOnce_64 ?_
                      refine r_getI C dX3_readOnce_65 fl_X3_28 rfl (q_lt hs (by decide)) ?_
                      refine r_isub C dX3_readOnce_68 ?_
                      exact r_iret C dX3_readOnce_69 rfl hF1 (by rw [← e5]; rfl) rfl)
                · first
                  | (exfalso; omega)
                  |  (refine r_goto C 124 (by decide) dX3_readOnce_41 ?_
                      refine r_iload_n C rfl dX3_readOnce_124 ?_
                      exact r_iret C dX3_readOnce_125 rfl hF1 (by rw [← e5]; rfl) rfl)))
  · by_cases e : a = 8 ∧ y = 2
    · rw [e.1, e.2, sI_eq ⟨rfl, rfl⟩]
    · rw [sI_ne e, sI_ne e]
      exact f8 a y (by omega)

set_option maxHeartbeats 4000000 in
set_option maxRecDepth 100000 in
theorem st_x1 (G : oG) {h : oH} {n : Nat} (hh : oHs h n) {z : Nat} {T : Nat → Int} (tp : tpC h z T) {q : Nat} (hq : q ≤ z) (hnx : (hI h 8 3).toInt = (q : Int)) (h7 : (hI h 8 7).toInt = 1) (b x3 x4 : Int32) {cc : Nat} (h4 : x4.toInt = (cc : Int)) (hc : cc ≤ q) (hk : ¬ (xK T z q = 5)) : ∃ hf, sE G b x3 x4 h (-1000100 - kI (xS T z q)) hf ∧ fr8 h (sI hf 8 2 (hI h 8 2)) ∧ (hI hf 8 2).toInt = 1 := by
  have z3 := tp.2.1
  obtain ⟨h1, sp1, rd⟩ := rdT G hh.1 tp hq hnx
  have rf := fr8.rd rd
  obtain ⟨f1, f2, f3, f4, f5, f6, f7, f8⟩ := rd
  have hh1 : oHs h1 n := hh.fr f5 f6
  have hs1 := hh1.1
  have h71 : (hI h1 8 7).toInt = 1 := by rw [f8 8 7 (by omega)]; exact h7
  have hSz := (xS_w (T := T) hq).2
  have e5 : hI h1 8 5 = kI (xS T z q) := kI_e f3
  have tt := sp_ttX1 G hh1 f2 h71 hk
  refine ⟨sI h1 8 2 1, ⟨f5, fun p l e R s m args below meth c n0 nF C hF t5 => ?_⟩, ⟨f5, fun a y _ => f6 a y, f7, fun a y c1 => ?_⟩, by rw [sI_eq ⟨rfl, rfl⟩]; rfl⟩
  · refine r_iload C rfl dX3_readOnce_15 ?_
    refine r_sipush C 300 rfl dX3_readOnce_17 ?_
    refine t_icmp_gt C 124 (by decide) h4 (show (300 : Int32).toInt = 300 from rfl) dX3_readOnce_20 (fun c20 => ?_) (fun c20 => ?_)
    · first
      | (exfalso; omega)
      |  (refine r_iload_n C rfl dX3_readOnce_124 ?_
          exact r_iret C dX3_readOnce_125 rfl hF1 (by rw [← e5]; rfl) rfl)
    · first
      | (exfalso; omega)
      |  (have hs := hh.1
          refine r_aload_n C rfl rfl dX3_readOnce_23 ?_
          refine r_callV C sp1 kv_X3_readToken kn_X3_readToken rfl dX3_readOnce_24 cl_X3_55 ⟨Nat.le_of_ble_eq_true rfl, Nat.le_of_ble_eq_true rfl⟩ (by decide) rfl rfl (q_lt hs (by decide)) (by rw [f5]; exact hF) rfl (Nat.le_of_ble_eq_true rfl) ?_
          have hs := hs1
          have hF1 : h1.1 ≤ nF := by rw [f5]; exact hF
          refine r_aload_n C rfl rfl dX3_readOnce_27 ?_
          refine r_getI C dX3_readOnce_28 fl_X3_25 rfl (q_lt hs (by decide)) ?_
          refine t_if_ne C 44 (by decide) f2 dX3_readOnce_31 (fun c31 => ?_) (fun c31 => ?_)
          · first
            | (exfalso; omega)
            |  (refine r_aload_n C rfl rfl dX3_readOnce_44 ?_
                refine r_aload_n C rfl rfl dX3_readOnce_45 ?_
                refine r_callV C tt kv_X3_takeToken kn_X3_takeToken rfl dX3_readOnce_46 cl_X3_58 ⟨Nat.le_of_ble_eq_true rfl, Nat.le_of_ble_eq_true rfl⟩ (by decide) rfl rfl (q_lt hs (by decide)) hF1 rfl (Nat.le_of_ble_eq_true rfl) ?_
                refine r_istore C rfl (Nat.le_of_ble_eq_true rfl) dX3_readOnce_49 ?_
                refine r_iload C rfl dX3_readOnce_51 ?_
                refine t_if_eq C 70 (by decide) (show (1 : Int32).toInt = 1 from rfl) dX3_readOnce_53 (fun c53 => absurd c53 (by decide)) (fun c53 => ?_)
                refine r_aload_n C rfl rfl dX3_readOnce_56 ?_
                refine r_iload C rfl dX3_readOnce_57 ?_
                refine r_putI C dX3_readOnce_59 fl_X3_19 rfl (q_lt hs (by decide)) (Or.inl rfl) ?_
                refine r_ldc C _ lc_X3_62 dX3_readOnce_62 ?_
                refine r_aload_n C rfl rfl dX3_readOnce_64 ?_
                refine r_getI C dX3_readOnce_65 fl_X3_28 rfl (q_lt hs (by decide)) ?_
                refine r_isub C dX3_readOnce_68 ?_
                exact r_iret C dX3_readOnce_69 rfl hF1 (by rw [← e5]; rfl) rfl)
          · first
            | (exfalso; omega)
            |  (refine r_aload_n C rfl rfl dX3_readOnce_34 ?_
                refine r_getI C dX3_readOnce_35 fl_X3_34 rfl (q_lt hs (by decide)) ?_
                refine t_if_ne C 44 (by decide) h71 dX3_readOnce_38 (fun c38 => ?_) (fun c38 => ?_)
                · first
                  | (exfalso; omega)
                  |  (refine r_aload_n C rfl rfl dX3_readOnce_44 ?_
                      refine r_aload_n C rfl rfl dX3_readOnce_45 ?_
                      refine r_callV C tt kv_X3_takeToken kn_X3_takeToken rfl dX3_readOnce_46 cl_X3_58 ⟨Nat.le_of_ble_eq_true rfl, Nat.le_of_ble_eq_true rfl⟩ (by decide) rfl rfl (q_lt hs (by decide)) hF1 rfl (Nat.le_of_ble_eq_true rfl) ?_
                      refine r_istore C rfl (Nat.le_of_ble_eq_true rfl) dX3_readOnce_49 ?_
                      refine r_iload C rfl dX3_readOnce_51 ?_
                      refine t_if_eq C 70 (by decide) (show (1 : Int32).toInt = 1 from rfl) dX3_readOnce_53 (fun c53 => absurd c53 (by decide)) (fun c53 => ?_)
                      refine r_aload_n C rfl rfl dX3_readOnce_56 ?_
                      refine r_iload C rfl dX3_readOnce_57 ?_
                      refine r_putI C dX3_readOnce_59 fl_X3_19 rfl (q_lt hs (by decide)) (Or.inl rfl) ?_
                      refine r_ldc C _ lc_X3_62 dX3_readOnce_62 ?_
                      refine r_aload_n C rfl rfl dX3_readOnce_64 ?_
                      refine r_getI C dX3_readOnce_65 fl_X3_28 rfl (q_lt hs (by decide)) ?_
                      refine r_isub C dX3_readOnce_68 ?_
                      exact r_iret C dX3_readOnce_69 rfl hF1 (by rw [← e5]; rfl) rfl)
                · first
                  | (exfalso; omega)
                  |  (refine r_goto C 124 (by decide) dX3_readOnce_41 ?_
                      refine r_iload_n C rfl dX3_readOnce_124 ?_
                      exact r_iret C dX3_readOnce_125 rfl hF1 (by rw [← e5]; rfl) rfl)))
  · by_cases e : a = 8 ∧ y = 2
    · rw [e.1, e.2, sI_eq ⟨rfl, rfl⟩]
    · rw [sI_ne e, sI_ne e]
      exact f8 a y (by omega)

set_option maxHeartbeats 4000000 in
set_option maxRecDepth 100000 in
theorem st_x2 (G : oG) {h : oH} {n : Nat} (hh : oHs h n) {z : Nat} {T : Nat → Int} (tp : tpC h z T) {q : Nat} (hq : q ≤ z) (hnx : (hI h 8 3).toInt = (q : Int)) (h7 : (hI h 8 7).toInt = 2) (b x3 x4 : Int32) {cc : Nat} (h4 : x4.toInt = (cc : Int)) (hc : cc ≤ q) (hk : ¬ ((2 ≤ xK T z q ∧ xK T z q ≤ 4))) : ∃ hf, sE G b x3 x4 h (-1000100 - kI (xS T z q)) hf ∧ fr8 h (sI hf 8 2 (hI h 8 2)) ∧ (hI hf 8 2).toInt = 1 := by
  have z3 := tp.2.1
  obtain ⟨h1, sp1, rd⟩ := rdT G hh.1 tp hq hnx
  have rf := fr8.rd rd
  obtain ⟨f1, f2, f3, f4, f5, f6, f7, f8⟩ := rd
  have hh1 : oHs h1 n := hh.fr f5 f6
  have hs1 := hh1.1
  have h71 : (hI h1 8 7).toInt = 2 := by rw [f8 8 7 (by omega)]; exact h7
  have hSz := (xS_w (T := T) hq).2
  have e5 : hI h1 8 5 = kI (xS T z q) := kI_e f3
  have tt := sp_ttX2 G hh1 f2 h71 hk
  refine ⟨sI h1 8 2 1, ⟨f5, fun p l e R s m args below meth c n0 nF C hF t5 => ?_⟩, ⟨f5, fun a y _ => f6 a y, f7, fun a y c1 => ?_⟩, by rw [sI_eq ⟨rfl, rfl⟩]; rfl⟩
  · refine r_iload C rfl dX3_readOnce_15 ?_
    refine r_sipush C 300 rfl dX3_readOnce_17 ?_
    refine t_icmp_gt C 124 (by decide) h4 (show (300 : Int32).toInt = 300 from rfl) dX3_readOnce_20 (fun c20 => ?_) (fun c20 => ?_)
    · first
      | (exfalso; omega)
      |  (refine r_iload_n C rfl dX3_readOnce_124 ?_
          exact r_iret C dX3_readOnce_125 rfl hF1 (by rw [← e5]; rfl) rfl)
    · first
      | (exfalso; omega)
      |  (have hs := hh.1
          refine r_aload_n C rfl rfl dX3_readOnce_23 ?_
          refine r_callV C sp1 kv_X3_readToken kn_X3_readToken rfl dX3_readOnce_24 cl_X3_55 ⟨Nat.le_of_ble_eq_true rfl, Nat.le_of_ble_eq_true rfl⟩ (by decide) rfl rfl (q_lt hs (by decide)) (by rw [f5]; exact hF) rfl (Nat.le_of_ble_eq_true rfl) ?_
          have hs := hs1
          have hF1 : h1.1 ≤ nF := by rw [f5]; exact hF
          refine r_aload_n C rfl rfl dX3_readOnce_27 ?_
          refine r_getI C dX3_readOnce_28 fl_X3_25 rfl (q_lt hs (by decide)) ?_
          refine t_if_ne C 44 (by decide) f2 dX3_readOnce_31 (fun c31 => ?_) (fun c31 => ?_)
          · first
            | (exfalso; omega)
            |  (refine r_aload_n C rfl rfl dX3_readOnce_44 ?_
                refine r_aload_n C rfl rfl dX3_readOnce_45 ?_
                refine r_callV C tt kv_X3_takeToken kn_X3_takeToken rfl dX3_readOnce_46 cl_X3_58 ⟨Nat.le_of_ble_eq_true rfl, Nat.le_of_ble_eq_true rfl⟩ (by decide) rfl rfl (q_lt hs (by decide)) hF1 rfl (Nat.le_of_ble_eq_true rfl) ?_
                refine r_istore C rfl (Nat.le_of_ble_eq_true rfl) dX3_readOnce_49 ?_
                refine r_iload C rfl dX3_readOnce_51 ?_
                refine t_if_eq C 70 (by decide) (show (1 : Int32).toInt = 1 from rfl) dX3_readOnce_53 (fun c53 => absurd c53 (by decide)) (fun c53 => ?_)
                refine r_aload_n C rfl rfl dX3_readOnce_56 ?_
                refine r_iload C rfl dX3_readOnce_57 ?_
                refine r_putI C dX3_readOnce_59 fl_X3_19 rfl (q_lt hs (by decide)) (Or.inl rfl) ?_
                refine r_ldc C _ lc_X3_62 dX3_readOnce_62 ?_
                refine r_aload_n C rfl rfl dX3_readOnce_64 ?_
                refine r_getI C dX3_readOnce_65 fl_X3_28 rfl (q_lt hs (by decide)) ?_
                refine r_isub C dX3_readOnce_68 ?_
                exact r_iret C dX3_readOnce_69 rfl hF1 (by rw [← e5]; rfl) rfl)
          · first
            | (exfalso; omega)
            |  (refine r_aload_n C rfl rfl dX3_readOnce_34 ?_
                refine r_getI C dX3_readOnce_35 fl_X3_34 rfl (q_lt hs (by decide)) ?_
                refine t_if_ne C 44 (by decide) h71 dX3_readOnce_38 (fun c38 => ?_) (fun c38 => ?_)
                · first
                  | (exfalso; omega)
                  |  (refine r_aload_n C rfl rfl dX3_readOnce_44 ?_
                      refine r_aload_n C rfl rfl dX3_readOnce_45 ?_
                      refine r_callV C tt kv_X3_takeToken kn_X3_takeToken rfl dX3_readOnce_46 cl_X3_58 ⟨Nat.le_of_ble_eq_true rfl, Nat.le_of_ble_eq_true rfl⟩ (by decide) rfl rfl (q_lt hs (by decide)) hF1 rfl (Nat.le_of_ble_eq_true rfl) ?_
                      refine r_istore C rfl (Nat.le_of_ble_eq_true rfl) dX3_readOnce_49 ?_
                      refine r_iload C rfl dX3_readOnce_51 ?_
                      refine t_if_eq C 70 (by decide) (show (1 : Int32).toInt = 1 from rfl) dX3_readOnce_53 (fun c53 => absurd c53 (by decide)) (fun c53 => ?_)
                      refine r_aload_n C rfl rfl dX3_readOnce_56 ?_
                      refine r_iload C rfl dX3_readOnce_57 ?_
                      refine r_putI C dX3_readOnce_59 fl_X3_19 rfl (q_lt hs (by decide)) (Or.inl rfl) ?_
                      refine r_ldc C _ lc_X3_62 dX3_readOnce_62 ?_
                      refine r_aload_n C rfl rfl dX3_readOnce_64 ?_
                      refine r_getI C dX3_readOnce_65 fl_X3_28 rfl (q_lt hs (by decide)) ?_
                      refine r_isub C dX3_readOnce_68 ?_
                      exact r_iret C dX3_readOnce_69 rfl hF1 (by rw [← e5]; rfl) rfl)
                · first
                  | (exfalso; omega)
                  |  (refine r_goto C 124 (by decide) dX3_readOnce_41 ?_
                      refine r_iload_n C rfl dX3_readOnce_124 ?_
                      exact r_iret C dX3_readOnce_125 rfl hF1 (by rw [← e5]; rfl) rfl)))
  · by_cases e : a = 8 ∧ y = 2
    · rw [e.1, e.2, sI_eq ⟨rfl, rfl⟩]
    · rw [sI_ne e, sI_ne e]
      exact f8 a y (by omega)

set_option maxHeartbeats 4000000 in
set_option maxRecDepth 100000 in
theorem st_x3 (G : oG) {h : oH} {n : Nat} (hh : oHs h n) {z : Nat} {T : Nat → Int} (tp : tpC h z T) {q : Nat} (hq : q ≤ z) (hnx : (hI h 8 3).toInt = (q : Int)) (h7 : (hI h 8 7).toInt = 3) (b x3 x4 : Int32) {cc : Nat} (h4 : x4.toInt = (cc : Int)) (hc : cc ≤ q) (hk : ¬ (xK T z q = 5)) : ∃ hf, sE G b x3 x4 h (-1000100 - kI (xS T z q)) hf ∧ fr8 h (sI hf 8 2 (hI h 8 2)) ∧ (hI hf 8 2).toInt = 1 := by
  have z3 := tp.2.1
  obtain ⟨h1, sp1, rd⟩ := rdT G hh.1 tp hq hnx
  have rf := fr8.rd rd
  obtain ⟨f1, f2, f3, f4, f5, f6, f7, f8⟩ := rd
  have hh1 : oHs h1 n := hh.fr f5 f6
  have hs1 := hh1.1
  have h71 : (hI h1 8 7).toInt = 3 := by rw [f8 8 7 (by omega)]; exact h7
  have hSz := (xS_w (T := T) hq).2
  have e5 : hI h1 8 5 = kI (xS T z q) := kI_e f3
  have tt := sp_ttX3 G hh1 f2 h71 hk
  refine ⟨sI h1 8 2 1, ⟨f5, fun p l e R s m args below meth c n0 nF C hF t5 => ?_⟩, ⟨f5, fun a y _ => f6 a y, f7, fun a y c1 => ?_⟩, by rw [sI_eq ⟨rfl, rfl⟩]; rfl⟩
  · refine r_iload C rfl dX3_readOnce_15 ?_
    refine r_sipush C 300 rfl dX3_readOnce_17 ?_
    refine t_icmp_gt C 124 (by decide) h4 (show (300 : Int32).toInt = 300 from rfl) dX3_readOnce_20 (fun c20 => ?_) (fun c20 => ?_)
    · first
      | (exfalso; omega)
      |  (refine r_iload_n C rfl dX3_readOnce_124 ?_
          exact r_iret C dX3_readOnce_125 rfl hF1 (by rw [← e5]; rfl) rfl)
    · first
      | (exfalso; omega)
      |  (have hs := hh.1
          refine r_aload_n C rfl rfl dX3_readOnce_23 ?_
          refine r_callV C sp1 kv_X3_readToken kn_X3_readToken rfl dX3_readOnce_24 cl_X3_55 ⟨Nat.le_of_ble_eq_true rfl, Nat.le_of_ble_eq_true rfl⟩ (by decide) rfl rfl (q_lt hs (by decide)) (by rw [f5]; exact hF) rfl (Nat.le_of_ble_eq_true rfl) ?_
          have hs := hs1
          have hF1 : h1.1 ≤ nF := by rw [f5]; exact hF
          refine r_aload_n C rfl rfl dX3_readOnce_27 ?_
          refine r_getI C dX3_readOnce_28 fl_X3_25 rfl (q_lt hs (by decide)) ?_
          refine t_if_ne C 44 (by decide) f2 dX3_readOnce_31 (fun c31 => ?_) (fun c31 => ?_)
          · first
            | (exfalso; omega)
            |  (refine r_aload_n C rfl rfl dX3_readOnce_44 ?_
                refine r_aload_n C rfl rfl dX3_readOnce_45 ?_
                refine r_callV C tt kv_X3_takeToken kn_X3_takeToken rfl dX3_readOnce_46 cl_X3_58 ⟨Nat.le_of_ble_eq_true rfl, Nat.le_of_ble_eq_true rfl⟩ (by decide) rfl rfl (q_lt hs (by decide)) hF1 rfl (Nat.le_of_ble_eq_true rfl) ?_
                refine r_istore C rfl (Nat.le_of_ble_eq_true rfl) dX3_readOnce_49 ?_
                refine r_iload C rfl dX3_readOnce_51 ?_
                refine t_if_eq C 70 (by decide) (show (1 : Int32).toInt = 1 from rfl) dX3_readOnce_53 (fun c53 => absurd c53 (by decide)) (fun c53 => ?_)
                refine r_aload_n C rfl rfl dX3_readOnce_56 ?_
                refine r_iload C rfl dX3_readOnce_57 ?_
                refine r_putI C dX3_readOnce_59 fl_X3_19 rfl (q_lt hs (by decide)) (Or.inl rfl) ?_
                refine r_ldc C _ lc_X3_62 dX3_readOnce_62 ?_
                refine r_aload_n C rfl rfl dX3_readOnce_64 ?_
                refine r_getI C dX3_readOnce_65 fl_X3_28 rfl (q_lt hs (by decide)) ?_
                refine r_isub C dX3_readOnce_68 ?_
                exact r_iret C dX3_readOnce_69 rfl hF1 (by rw [← e5]; rfl) rfl)
          · first
            | (exfalso; omega)
            |  (refine r_aload_n C rfl rfl dX3_readOnce_34 ?_
                refine r_getI C dX3_readOnce_35 fl_X3_34 rfl (q_lt hs (by decide)) ?_
                refine t_if_ne C 44 (by decide) h71 dX3_readOnce_38 (fun c38 => ?_) (fun c38 => ?_)
                · first
                  | (exfalso; omega)
                  |  (refine r_aload_n C rfl rfl dX3_readOnce_44 ?_
                      refine r_aload_n C rfl rfl dX3_readOnce_45 ?_
                      refine r_callV C tt kv_X3_takeToken kn_X3_takeToken rfl dX3_readOnce_46 cl_X3_58 ⟨Nat.le_of_ble_eq_true rfl, Nat.le_of_ble_eq_true rfl⟩ (by decide) rfl rfl (q_lt hs (by decide)) hF1 rfl (Nat.le_of_ble_eq_true rfl) ?_
                      refine r_istore C rfl (Nat.le_of_ble_eq_true rfl) dX3_readOnce_49 ?_
                      refine r_iload C rfl dX3_readOnce_51 ?_
                      refine t_if_eq C 70 (by decide) (show (1 : Int32).toInt = 1 from rfl) dX3_readOnce_53 (fun c53 => absurd c53 (by decide)) (fun c53 => ?_)
                      refine r_aload_n C rfl rfl dX3_readOnce_56 ?_
                      refine r_iload C rfl dX3_readOnce_57 ?_
                      refine r_putI C dX3_readOnce_59 fl_X3_19 rfl (q_lt hs (by decide)) (Or.inl rfl) ?_
                      refine r_ldc C _ lc_X3_62 dX3_readOnce_62 ?_
                      refine r_aload_n C rfl rfl dX3_readOnce_64 ?_
                      refine r_getI C dX3_readOnce_65 fl_X3_28 rfl (q_lt hs (by decide)) ?_
                      refine r_isub C dX3_readOnce_68 ?_
                      exact r_iret C dX3_readOnce_69 rfl hF1 (by rw [← e5]; rfl) rfl)
                · first
                  | (exfalso; omega)
                  |  (refine r_goto C 124 (by decide) dX3_readOnce_41 ?_
                      refine r_iload_n C rfl dX3_readOnce_124 ?_
                      exact r_iret C dX3_readOnce_125 rfl hF1 (by rw [← e5]; rfl) rfl)))
  · by_cases e : a = 8 ∧ y = 2
    · rw [e.1, e.2, sI_eq ⟨rfl, rfl⟩]
    · rw [sI_ne e, sI_ne e]
      exact f8 a y (by omega)

set_option maxHeartbeats 4000000 in
set_option maxRecDepth 100000 in
theorem st_x4 (G : oG) {h : oH} {n : Nat} (hh : oHs h n) {z : Nat} {T : Nat → Int} (tp : tpC h z T) {q : Nat} (hq : q ≤ z) (hnx : (hI h 8 3).toInt = (q : Int)) (h7 : (hI h 8 7).toInt = 4) (b x3 x4 : Int32) {cc : Nat} (h4 : x4.toInt = (cc : Int)) (hc : cc ≤ q) (hk : ¬ (xK T z q = 7)) : ∃ hf, sE G b x3 x4 h (-1000100 - kI (xS T z q)) hf ∧ fr8 h (sI hf 8 2 (hI h 8 2)) ∧ (hI hf 8 2).toInt = 1 := by
  have z3 := tp.2.1
  obtain ⟨h1, sp1, rd⟩ := rdT G hh.1 tp hq hnx
  have rf := fr8.rd rd
  obtain ⟨f1, f2, f3, f4, f5, f6, f7, f8⟩ := rd
  have hh1 : oHs h1 n := hh.fr f5 f6
  have hs1 := hh1.1
  have h71 : (hI h1 8 7).toInt = 4 := by rw [f8 8 7 (by omega)]; exact h7
  have hSz := (xS_w (T := T) hq).2
  have e5 : hI h1 8 5 = kI (xS T z q) := kI_e f3
  have tt := sp_ttX4 G hh1 f2 h71 hk
  refine ⟨sI h1 8 2 1, ⟨f5, fun p l e R s m args below meth c n0 nF C hF t5 => ?_⟩, ⟨f5, fun a y _ => f6 a y, f7, fun a y c1 => ?_⟩, by rw [sI_eq ⟨rfl, rfl⟩]; rfl⟩
  · refine r_iload C rfl dX3_readOnce_15 ?_
    refine r_sipush C 300 rfl dX3_readOnce_17 ?_
    refine t_icmp_gt C 124 (by decide) h4 (show (300 : Int32).toInt = 300 from rfl) dX3_readOnce_20 (fun c20 => ?_) (fun c20 => ?_)
    · first
      | (exfalso; omega)
      |  (refine r_iload_n C rfl dX3_readOnce_124 ?_
          exact r_iret C dX3_readOnce_125 rfl hF1 (by rw [← e5]; rfl) rfl)
    · first
      | (exfalso; omega)
      |  (have hs := hh.1
          refine r_aload_n C rfl rfl dX3_readOnce_23 ?_
          refine r_callV C sp1 kv_X3_readToken kn_X3_readToken rfl dX3_readOnce_24 cl_X3_55 ⟨Nat.le_of_ble_eq_true rfl, Nat.le_of_ble_eq_true rfl⟩ (by decide) rfl rfl (q_lt hs (by decide)) (by rw [f5]; exact hF) rfl (Nat.le_of_ble_eq_true rfl) ?_
          have hs := hs1
          have hF1 : h1.1 ≤ nF := by rw [f5]; exact hF
          refine r_aload_n C rfl rfl dX3_readOnce_27 ?_
          refine r_getI C dX3_readOnce_28 fl_X3_25 rfl (q_lt hs (by decide)) ?_
          refine t_if_ne C 44 (by decide) f2 dX3_readOnce_31 (fun c31 => ?_) (fun c31 => ?_)
          · first
            | (exfalso; omega)
            |  (refine r_aload_n C rfl rfl dX3_readOnce_44 ?_
                refine r_aload_n C rfl rfl dX3_readOnce_45 ?_
                refine r_callV C tt kv_X3_takeToken kn_X3_takeToken rfl dX3_readOnce_46 cl_X3_58 ⟨Nat.le_of_ble_eq_true rfl, Nat.le_of_ble_eq_true rfl⟩ (by decide) rfl rfl (q_lt hs (by decide)) hF1 rfl (Nat.le_of_ble_eq_true rfl) ?_
                refine r_istore C rfl (Nat.le_of_ble_eq_true rfl) dX3_readOnce_49 ?_
                refine r_iload C rfl dX3_readOnce_51 ?_
                refine t_if_eq C 70 (by decide) (show (1 : Int32).toInt = 1 from rfl) dX3_readOnce_53 (fun c53 => absurd c53 (by decide)) (fun c53 => ?_)
                refine r_aload_n C rfl rfl dX3_readOnce_56 ?_
                refine r_iload C rfl dX3_readOnce_57 ?_
                refine r_putI C dX3_readOnce_59 fl_X3_19 rfl (q_lt hs (by decide)) (Or.inl rfl) ?_
                refine r_ldc C _ lc_X3_62 dX3_readOnce_62 ?_
                refine r_aload_n C rfl rfl dX3_readOnce_64 ?_
                refine r_getI C dX3_readOnce_65 fl_X3_28 rfl (q_lt hs (by decide)) ?_
                refine r_isub C dX3_readOnce_68 ?_
                exact r_iret C dX3_readOnce_69 rfl hF1 (by rw [← e5]; rfl) rfl)
          · first
            | (exfalso; omega)
            |  (refine r_aload_n C rfl rfl dX3_readOnce_34 ?_
                refine r_getI C dX3_readOnce_35 fl_X3_34 rfl (q_lt hs (by decide)) ?_
                refine t_if_ne C 44 (by decide) h71 dX3_readOnce_38 (fun c38 => ?_) (fun c38 => ?_)
                · first
                  | (exfalso; omega)
                  |  (refine r_aload_n C rfl rfl dX3_readOnce_44 ?_
                      refine r_aload_n C rfl rfl dX3_readOnce_45 ?_
                      refine r_callV C tt kv_X3_takeToken kn_X3_takeToken rfl dX3_readOnce_46 cl_X3_58 ⟨Nat.le_of_ble_eq_true rfl, Nat.le_of_ble_eq_true rfl⟩ (by decide) rfl rfl (q_lt hs (by decide)) hF1 rfl (Nat.le_of_ble_eq_true rfl) ?_
                      refine r_istore C rfl (Nat.le_of_ble_eq_true rfl) dX3_readOnce_49 ?_
                      refine r_iload C rfl dX3_readOnce_51 ?_
                      refine t_if_eq C 70 (by decide) (show (1 : Int32).toInt = 1 from rfl) dX3_readOnce_53 (fun c53 => absurd c53 (by decide)) (fun c53 => ?_)
                      refine r_aload_n C rfl rfl dX3_readOnce_56 ?_
                      refine r_iload C rfl dX3_readOnce_57 ?_
                      refine r_putI C dX3_readOnce_59 fl_X3_19 rfl (q_lt hs (by decide)) (Or.inl rfl) ?_
                      refine r_ldc C _ lc_X3_62 dX3_readOnce_62 ?_
                      refine r_aload_n C rfl rfl dX3_readOnce_64 ?_
                      refine r_getI C dX3_readOnce_65 fl_X3_28 rfl (q_lt hs (by decide)) ?_
                      refine r_isub C dX3_readOnce_68 ?_
                      exact r_iret C dX3_readOnce_69 rfl hF1 (by rw [← e5]; rfl) rfl)
                · first
                  | (exfalso; omega)
                  |  (refine r_goto C 124 (by decide) dX3_readOnce_41 ?_
                      refine r_iload_n C rfl dX3_readOnce_124 ?_
                      exact r_iret C dX3_readOnce_125 rfl hF1 (by rw [← e5]; rfl) rfl)))
  · by_cases e : a = 8 ∧ y = 2
    · rw [e.1, e.2, sI_eq ⟨rfl, rfl⟩]
    · rw [sI_ne e, sI_ne e]
      exact f8 a y (by omega)

set_option maxHeartbeats 4000000 in
set_option maxRecDepth 100000 in
theorem st_x5 (G : oG) {h : oH} {n : Nat} (hh : oHs h n) {z : Nat} {T : Nat → Int} (tp : tpC h z T) {q : Nat} (hq : q ≤ z) (hnx : (hI h 8 3).toInt = (q : Int)) (h7 : (hI h 8 7).toInt = 5) (b x3 x4 : Int32) {cc : Nat} (h4 : x4.toInt = (cc : Int)) (hc : cc ≤ q) (hk : ¬ (xK T z q = 5)) : ∃ hf, sE G b x3 x4 h (-1000100 - kI (xS T z q)) hf ∧ fr8 h (sI hf 8 2 (hI h 8 2)) ∧ (hI hf 8 2).toInt = 1 := by
  have z3 := tp.2.1
  obtain ⟨h1, sp1, rd⟩ := rdT G hh.1 tp hq hnx
  have rf := fr8.rd rd
  obtain ⟨f1, f2, f3, f4, f5, f6, f7, f8⟩ := rd
  have hh1 : oHs h1 n := hh.fr f5 f6
  have hs1 := hh1.1
  have h71 : (hI h1 8 7).toInt = 5 := by rw [f8 8 7 (by omega)]; exact h7
  have hSz := (xS_w (T := T) hq).2
  have e5 : hI h1 8 5 = kI (xS T z q) := kI_e f3
  have tt := sp_ttX5 G hh1 f2 h71 hk
  refine ⟨sI h1 8 2 1, ⟨f5, fun p l e R s m args below meth c n0 nF C hF t5 => ?_⟩, ⟨f5, fun a y _ => f6 a y, f7, fun a y c1 => ?_⟩, by rw [sI_eq ⟨rfl, rfl⟩]; rfl⟩
  · refine r_iload C rfl dX3_readOnce_15 ?_
    refine r_sipush C 300 rfl dX3_readOnce_17 ?_
    refine t_icmp_gt C 124 (by decide) h4 (show (300 : Int32).toInt = 300 from rfl) dX3_readOnce_20 (fun c20 => ?_) (fun c20 => ?_)
    · first
      | (exfalso; omega)
      |  (refine r_iload_n C rfl dX3_readOnce_124 ?_
          exact r_iret C dX3_readOnce_125 rfl hF1 (by rw [← e5]; rfl) rfl)
    · first
      | (exfalso; omega)
      |  (have hs := hh.1
          refine r_aload_n C rfl rfl dX3_readOnce_23 ?_
          refine r_callV C sp1 kv_X3_readToken kn_X3_readToken rfl dX3_readOnce_24 cl_X3_55 ⟨Nat.le_of_ble_eq_true rfl, Nat.le_of_ble_eq_true rfl⟩ (by decide) rfl rfl (q_lt hs (by decide)) (by rw [f5]; exact hF) rfl (Nat.le_of_ble_eq_true rfl) ?_
          have hs := hs1
          have hF1 : h1.1 ≤ nF := by rw [f5]; exact hF
          refine r_aload_n C rfl rfl dX3_readOnce_27 ?_
          refine r_getI C dX3_readOnce_28 fl_X3_25 rfl (q_lt hs (by decide)) ?_
          refine t_if_ne C 44 (by decide) f2 dX3_readOnce_31 (fun c31 => ?_) (fun c31 => ?_)
          · first
            | (exfalso; omega)
            |  (refine r_aload_n C rfl rfl dX3_readOnce_44 ?_
                refine r_aload_n C rfl rfl dX3_readOnce_45 ?_
                refine r_callV C tt kv_X3_takeToken kn_X3_takeToken rfl dX3_readOnce_46 cl_X3_58 ⟨Nat.le_of_ble_eq_true rfl, Nat.le_of_ble_eq_true rfl⟩ (by decide) rfl rfl (q_lt hs (by decide)) hF1 rfl (Nat.le_of_ble_eq_true rfl) ?_
                refine r_istore C rfl (Nat.le_of_ble_eq_true rfl) dX3_readOnce_49 ?_
                refine r_iload C rfl dX3_readOnce_51 ?_
                refine t_if_eq C 70 (by decide) (show (1 : Int32).toInt = 1 from rfl) dX3_readOnce_53 (fun c53 => absurd c53 (by decide)) (fun c53 => ?_)
                refine r_aload_n C rfl rfl dX3_readOnce_56 ?_
                refine r_iload C rfl dX3_readOnce_57 ?_
                refine r_putI C dX3_readOnce_59 fl_X3_19 rfl (q_lt hs (by decide)) (Or.inl rfl) ?_
                refine r_ldc C _ lc_X3_62 dX3_readOnce_62 ?_
                refine r_aload_n C rfl rfl dX3_readOnce_64 ?_
                refine r_getI C dX3_readOnce_65 fl_X3_28 rfl (q_lt hs (by decide)) ?_
                refine r_isub C dX3_readOnce_68 ?_
                exact r_iret C dX3_readOnce_69 rfl hF1 (by rw [← e5]; rfl) rfl)
          · first
            | (exfalso; omega)
            |  (refine r_aload_n C rfl rfl dX3_readOnce_34 ?_
                refine r_getI C dX3_readOnce_35 fl_X3_34 rfl (q_lt hs (by decide)) ?_
                refine t_if_ne C 44 (by decide) h71 dX3_readOnce_38 (fun c38 => ?_) (fun c38 => ?_)
                · first
                  | (exfalso; omega)
                  |  (refine r_aload_n C rfl rfl dX3_readOnce_44 ?_
                      refine r_aload_n C rfl rfl dX3_readOnce_45 ?_
                      refine r_callV C tt kv_X3_takeToken kn_X3_takeToken rfl dX3_readOnce_46 cl_X3_58 ⟨Nat.le_of_ble_eq_true rfl, Nat.le_of_ble_eq_true rfl⟩ (by decide) rfl rfl (q_lt hs (by decide)) hF1 rfl (Nat.le_of_ble_eq_true rfl) ?_
                      refine r_istore C rfl (Nat.le_of_ble_eq_true rfl) dX3_readOnce_49 ?_
                      refine r_iload C rfl dX3_readOnce_51 ?_
                      refine t_if_eq C 70 (by decide) (show (1 : Int32).toInt = 1 from rfl) dX3_readOnce_53 (fun c53 => absurd c53 (by decide)) (fun c53 => ?_)
                      refine r_aload_n C rfl rfl dX3_readOnce_56 ?_
                      refine r_iload C rfl dX3_readOnce_57 ?_
                      refine r_putI C dX3_readOnce_59 fl_X3_19 rfl (q_lt hs (by decide)) (Or.inl rfl) ?_
                      refine r_ldc C _ lc_X3_62 dX3_readOnce_62 ?_
                      refine r_aload_n C rfl rfl dX3_readOnce_64 ?_
                      refine r_getI C dX3_readOnce_65 fl_X3_28 rfl (q_lt hs (by decide)) ?_
                      refine r_isub C dX3_readOnce_68 ?_
                      exact r_iret C dX3_readOnce_69 rfl hF1 (by rw [← e5]; rfl) rfl)
                · first
                  | (exfalso; omega)
                  |  (refine r_goto C 124 (by decide) dX3_readOnce_41 ?_
                      refine r_iload_n C rfl dX3_readOnce_124 ?_
                      exact r_iret C dX3_readOnce_125 rfl hF1 (by rw [← e5]; rfl) rfl)))
  · by_cases e : a = 8 ∧ y = 2
    · rw [e.1, e.2, sI_eq ⟨rfl, rfl⟩]
    · rw [sI_ne e, sI_ne e]
      exact f8 a y (by omega)

set_option maxHeartbeats 4000000 in
set_option maxRecDepth 100000 in
theorem st_x6 (G : oG) {h : oH} {n : Nat} (hh : oHs h n) {z : Nat} {T : Nat → Int} (tp : tpC h z T) {q : Nat} (hq : q ≤ z) (hnx : (hI h 8 3).toInt = (q : Int)) (h7 : (hI h 8 7).toInt = 6) (b x3 x4 : Int32) {cc : Nat} (h4 : x4.toInt = (cc : Int)) (hc : cc ≤ q) (hk : ¬ (xK T z q = 6)) : ∃ hf, sE G b x3 x4 h (-1000100 - kI (xS T z q)) hf ∧ fr8 h (sI hf 8 2 (hI h 8 2)) ∧ (hI hf 8 2).toInt = 1 := by
  have z3 := tp.2.1
  obtain ⟨h1, sp1, rd⟩ := rdT G hh.1 tp hq hnx
  have rf := fr8.rd rd
  obtain ⟨f1, f2, f3, f4, f5, f6, f7, f8⟩ := rd
  have hh1 : oHs h1 n := hh.fr f5 f6
  have hs1 := hh1.1
  have h71 : (hI h1 8 7).toInt = 6 := by rw [f8 8 7 (by omega)]; exact h7
  have hSz := (xS_w (T := T) hq).2
  have e5 : hI h1 8 5 = kI (xS T z q) := kI_e f3
  have tt := sp_ttX6 G hh1 f2 h71 hk
  refine ⟨sI h1 8 2 1, ⟨f5, fun p l e R s m args below meth c n0 nF C hF t5 => ?_⟩, ⟨f5, fun a y _ => f6 a y, f7, fun a y c1 => ?_⟩, by rw [sI_eq ⟨rfl, rfl⟩]; rfl⟩
  · refine r_iload C rfl dX3_readOnce_15 ?_
    refine r_sipush C 300 rfl dX3_readOnce_17 ?_
    refine t_icmp_gt C 124 (by decide) h4 (show (300 : Int32).toInt = 300 from rfl) dX3_readOnce_20 (fun c20 => ?_) (fun c20 => ?_)
    · first
      | (exfalso; omega)
      |  (refine r_iload_n C rfl dX3_readOnce_124 ?_
          exact r_iret C dX3_readOnce_125 rfl hF1 (by rw [← e5]; rfl) rfl)
    · first
      | (exfalso; omega)
      |  (have hs := hh.1
          refine r_aload_n C rfl rfl dX3_readOnce_23 ?_
          refine r_callV C sp1 kv_X3_readToken kn_X3_readToken rfl dX3_readOnce_24 cl_X3_55 ⟨Nat.le_of_ble_eq_true rfl, Nat.le_of_ble_eq_true rfl⟩ (by decide) rfl rfl (q_lt hs (by decide)) (by rw [f5]; exact hF) rfl (Nat.le_of_ble_eq_true rfl) ?_
          have hs := hs1
          have hF1 : h1.1 ≤ nF := by rw [f5]; exact hF
          refine r_aload_n C rfl rfl dX3_readOnce_27 ?_
          refine r_getI C dX3_readOnce_28 fl_X3_25 rfl (q_lt hs (by decide)) ?_
          refine t_if_ne C 44 (by decide) f2 dX3_readOnce_31 (fun c31 => ?_) (fun c31 => ?_)
          · first
            | (exfalso; omega)
            |  (refine r_aload_n C rfl rfl dX3_readOnce_44 ?_
                refine r_aload_n C rfl rfl dX3_readOnce_45 ?_
                refine r_callV C tt kv_X3_takeToken kn_X3_takeToken rfl dX3_readOnce_46 cl_X3_58 ⟨Nat.le_of_ble_eq_true rfl, Nat.le_of_ble_eq_true rfl⟩ (by decide) rfl rfl (q_lt hs (by decide)) hF1 rfl (Nat.le_of_ble_eq_true rfl) ?_
                refine r_istore C rfl (Nat.le_of_ble_eq_true rfl) dX3_readOnce_49 ?_
                refine r_iload C rfl dX3_readOnce_51 ?_
                refine t_if_eq C 70 (by decide) (show (1 : Int32).toInt = 1 from rfl) dX3_readOnce_53 (fun c53 => absurd c53 (by decide)) (fun c53 => ?_)
                refine r_aload_n C rfl rfl dX3_readOnce_56 ?_
                refine r_iload C rfl dX3_readOnce_57 ?_
                refine r_putI C dX3_readOnce_59 fl_X3_19 rfl (q_lt hs (by decide)) (Or.inl rfl) ?_
                refine r_ldc C _ lc_X3_62 dX3_readOnce_62 ?_
                refine r_aload_n C rfl rfl dX3_readOnce_64 ?_
                refine r_getI C dX3_readOnce_65 fl_X3_28 rfl (q_lt hs (by decide)) ?_
                refine r_isub C dX3_readOnce_68 ?_
                exact r_iret C dX3_readOnce_69 rfl hF1 (by rw [← e5]; rfl) rfl)
          · first
            | (exfalso; omega)
            |  (refine r_aload_n C rfl rfl dX3_readOnce_34 ?_
                refine r_getI C dX3_readOnce_35 fl_X3_34 rfl (q_lt hs (by decide)) ?_
                refine t_if_ne C 44 (by decide) h71 dX3_readOnce_38 (fun c38 => ?_) (fun c38 => ?_)
                · first
                  | (exfalso; omega)
                  |  (refine r_aload_n C rfl rfl dX3_readOnce_44 ?_
                      refine r_aload_n C rfl rfl dX3_readOnce_45 ?_
                      refine r_callV C tt kv_X3_takeToken kn_X3_takeToken rfl dX3_readOnce_46 cl_X3_58 ⟨Nat.le_of_ble_eq_true rfl, Nat.le_of_ble_eq_true rfl⟩ (by decide) rfl rfl (q_lt hs (by decide)) hF1 rfl (Nat.le_of_ble_eq_true rfl) ?_
                      refine r_istore C rfl (Nat.le_of_ble_eq_true rfl) dX3_readOnce_49 ?_
                      refine r_iload C rfl dX3_readOnce_51 ?_
                      refine t_if_eq C 70 (by decide) (show (1 : Int32).toInt = 1 from rfl) dX3_readOnce_53 (fun c53 => absurd c53 (by decide)) (fun c53 => ?_)
                      refine r_aload_n C rfl rfl dX3_readOnce_56 ?_
                      refine r_iload C rfl dX3_readOnce_57 ?_
                      refine r_putI C dX3_readOnce_59 fl_X3_19 rfl (q_lt hs (by decide)) (Or.inl rfl) ?_
                      refine r_ldc C _ lc_X3_62 dX3_readOnce_62 ?_
                      refine r_aload_n C rfl rfl dX3_readOnce_64 ?_
                      refine r_getI C dX3_readOnce_65 fl_X3_28 rfl (q_lt hs (by decide)) ?_
                      refine r_isub C dX3_readOnce_68 ?_
                      exact r_iret C dX3_readOnce_69 rfl hF1 (by rw [← e5]; rfl) rfl)
                · first
                  | (exfalso; omega)
                  |  (refine r_goto C 124 (by decide) dX3_readOnce_41 ?_
                      refine r_iload_n C rfl dX3_readOnce_124 ?_
                      exact r_iret C dX3_readOnce_125 rfl hF1 (by rw [← e5]; rfl) rfl)))
  · by_cases e : a = 8 ∧ y = 2
    · rw [e.1, e.2, sI_eq ⟨rfl, rfl⟩]
    · rw [sI_ne e, sI_ne e]
      exact f8 a y (by omega)

set_option maxHeartbeats 4000000 in
set_option maxRecDepth 100000 in
theorem st_n1 (G : oG) {h : oH} {n : Nat} (hh : oHs h n) {z : Nat} {T : Nat → Int} (tp : tpC h z T) {q : Nat} (hq : q ≤ z) (hnx : (hI h 8 3).toInt = (q : Int)) (h7 : (hI h 8 7).toInt = 1) (b x3 x4 : Int32) {cc : Nat} (h4 : x4.toInt = (cc : Int)) (hc : cc ≤ q) (hk : xK T z q = 5) (hv : ¬ xV T z q < n) : ∃ hf, sE G b x3 x4 h (-1000100 - kI (xS T z q)) hf ∧ fr8 h (sI hf 8 2 (hI h 8 2)) ∧ (hI hf 8 2).toInt = 2 := by
  have z3 := tp.2.1
  obtain ⟨h1, sp1, rd⟩ := rdT G hh.1 tp hq hnx
  have rf := fr8.rd rd
  obtain ⟨f1, f2, f3, f4, f5, f6, f7, f8⟩ := rd
  have hh1 : oHs h1 n := hh.fr f5 f6
  have hs1 := hh1.1
  have h71 : (hI h1 8 7).toInt = 1 := by rw [f8 8 7 (by omega)]; exact h7
  have e5 : hI h1 8 5 = kI (xS T z q) := kI_e f3
  have hvb := xV_b hq hk
  rw [hk] at f2 f4
  have tt := sp_tt1N G hh1 f2 h71 rfl (v := (xV T z q).toNat) ((f4 rfl).trans (by omega)) (by omega)
  refine ⟨sI (sI (sR h1 8 8 none) 8 7 2) 8 2 2, ⟨f5, fun p l e R s m args below meth c n0 nF C hF t5 => ?_⟩, ⟨f5, fun a y c1 => (sR8 a y c1).trans (f6 a y), f7, fun a y c1 => ?_⟩, by rw [sI_eq ⟨rfl, rfl⟩]; rfl⟩
  · refine r_iload C rfl dX3_readOnce_15 ?_
    refine r_sipush C 300 rfl dX3_readOnce_17 ?_
    refine t_icmp_gt C 124 (by decide) h4 (show (300 : Int32).toInt = 300 from rfl) dX3_readOnce_20 (fun c20 => absurd c20 (by omega)) (fun c20 => ?_)
    have hs := hh.1
    refine r_aload_n C rfl rfl dX3_readOnce_23 ?_
    refine r_callV C sp1 kv_X3_readToken kn_X3_readToken rfl dX3_readOnce_24 cl_X3_55 ⟨Nat.le_of_ble_eq_true rfl, Nat.le_of_ble_eq_true rfl⟩ (by decide) rfl rfl (q_lt hs (by decide)) (by rw [f5]; exact hF) rfl (Nat.le_of_ble_eq_true rfl) ?_
    have hs := hs1
    have hF1 : h1.1 ≤ nF := by rw [f5]; exact hF
    refine r_aload_n C rfl rfl dX3_readOnce_27 ?_
    refine r_getI C dX3_readOnce_28 fl_X3_25 rfl (q_lt hs (by decide)) ?_
    refine t_if_ne C 44 (by decide) f2 dX3_readOnce_31 (fun c31 => ?_) (fun c31 => absurd c31 (by decide))
    refine r_aload_n C rfl rfl dX3_readOnce_44 ?_
    refine r_aload_n C rfl rfl dX3_readOnce_45 ?_
    refine r_callV C tt kv_X3_takeToken kn_X3_takeToken rfl dX3_readOnce_46 cl_X3_58 ⟨Nat.le_of_ble_eq_true rfl, Nat.le_of_ble_eq_true rfl⟩ (by decide) rfl rfl (q_lt hs (by decide)) hF1 rfl (Nat.le_of_ble_eq_true rfl) ?_
    refine r_istore C rfl (Nat.le_of_ble_eq_true rfl) dX3_readOnce_49 ?_
    refine r_iload C rfl dX3_readOnce_51 ?_
    refine t_if_eq C 70 (by decide) (show (2 : Int32).toInt = 2 from rfl) dX3_readOnce_53 (fun c53 => absurd c53 (by decide)) (fun c53 => ?_)
    have hs : oSh (sI (sR h1 8 8 none) 8 7 2) := hs1.s8
    refine r_aload_n C rfl rfl dX3_readOnce_56 ?_
    refine r_iload C rfl dX3_readOnce_57 ?_
    refine r_putI C dX3_readOnce_59 fl_X3_19 rfl (q_lt hs (by decide)) (Or.inl rfl) ?_
    refine r_ldc C _ lc_X3_62 dX3_readOnce_62 ?_
    refine r_aload_n C rfl rfl dX3_readOnce_64 ?_
    refine r_getI C dX3_readOnce_65 fl_X3_28 rfl (q_lt hs (by decide)) ?_
    refine r_isub C dX3_readOnce_68 ?_
    exact r_iret C dX3_readOnce_69 rfl hF1 (by rw [← e5]; rfl) rfl
  · by_cases e : a = 8 ∧ y = 2
    · rw [e.1, e.2, sI_eq ⟨rfl, rfl⟩]
    · rw [sI_ne e, sI_ne e, sI_ne (by omega)]
      exact f8 a y (by omega)

