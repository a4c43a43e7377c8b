/-! the class's route: all parts, and the order -/
def spH (h : oH) (D : Nat → Nat → Int) (m q : Nat) : Nat → oH
  | 0 => sI h 7 (q * 9 + 8) (oI (wy D m q 8))
  | i + 1 => if q.testBit i = true then spH h D m q i else sI (spH h D m q i) 7 (q * 9 + i) (oI (wy D m q i))
theorem spH_t {h : oH} {D : Nat → Nat → Int} {m q i : Nat} (b : q.testBit i = true) : spH h D m q (i + 1) = spH h D m q i := if_pos b
theorem spH_f {h : oH} {D : Nat → Nat → Int} {m q i : Nat} (b : ¬ q.testBit i = true) : spH h D m q (i + 1) = sI (spH h D m q i) 7 (q * 9 + i) (oI (wy D m q i)) := if_neg b
def ptH (h : oH) (D : Nat → Nat → Int) (m : Nat) : Nat → oH
  | 0 => h
  | q + 1 => spH (ptH h D m q) D m q m
theorem spH_n {h : oH} {D : Nat → Nat → Int} {m q : Nat} : ∀ i, (spH h D m q i).1 = h.1
  | 0 => rfl
  | i + 1 => by
    by_cases b : q.testBit i = true
    · rw [spH_t b]
      exact spH_n i
    · rw [spH_f b]
      exact spH_n i
theorem spH_R {h : oH} {D : Nat → Nat → Int} {m q a y : Nat} : ∀ i, hR (spH h D m q i) a y = hR h a y
  | 0 => rfl
  | i + 1 => by
    by_cases b : q.testBit i = true
    · rw [spH_t b]
      exact spH_R i
    · rw [spH_f b]
      exact spH_R i
theorem spH_J {h : oH} {D : Nat → Nat → Int} {m q a y : Nat} : ∀ i, hJ (spH h D m q i) a y = hJ h a y
  | 0 => rfl
  | i + 1 => by
    by_cases b : q.testBit i = true
    · rw [spH_t b]
      exact spH_J i
    · rw [spH_f b]
      exact spH_J i
theorem spH_o {h : oH} {D : Nat → Nat → Int} {m q a y : Nat} (c1 : a ≠ 7 ∨ y < q * 9 ∨ q * 9 + 9 ≤ y) : ∀ i, i ≤ 8 → hI (spH h D m q i) a y = hI h a y
  | 0, _ => by
    unfold spH
    rw [sI_ne (by omega)]
  | i + 1, hi => by
    by_cases b : q.testBit i = true
    · rw [spH_t b]
      exact spH_o c1 i (by omega)
    · rw [spH_f b, sI_ne (by omega)]
      exact spH_o c1 i (by omega)
theorem spH_7 {h : oH} {D : Nat → Nat → Int} {m q a : Nat} : ∀ i, i ≤ 8 → (a = 8 ∨ (a < i ∧ ¬ q.testBit a = true)) → hI (spH h D m q i) 7 (q * 9 + a) = oI (wy D m q a)
  | 0, _, c1 => by
    unfold spH
    rw [show a = 8 by omega, sI_eq ⟨rfl, rfl⟩]
  | i + 1, hi, c1 => by
    by_cases b : q.testBit i = true
    · rw [spH_t b]
      refine spH_7 i (by omega) ?_
      rcases c1 with c1 | ⟨c1, c2⟩
      · exact Or.inl c1
      · refine Or.inr ⟨?_, c2⟩
        rcases Nat.lt_or_ge a i with q1 | q1
        · exact q1
        · rw [show a = i by omega] at c2
          exact absurd b c2
    · rw [spH_f b]
      by_cases e : a = i
      · rw [e, sI_eq ⟨rfl, rfl⟩]
      · rw [sI_ne (by omega)]
        exact spH_7 i (by omega) (by
          rcases c1 with c1 | c1
          · exact Or.inl c1
          · exact Or.inr ⟨by omega, c1.2⟩)
theorem ptH_n {h : oH} {D : Nat → Nat → Int} {m : Nat} : ∀ q, (ptH h D m q).1 = h.1
  | 0 => rfl
  | q + 1 => (spH_n m).trans (ptH_n q)
theorem ptH_R {h : oH} {D : Nat → Nat → Int} {m a y : Nat} : ∀ q, hR (ptH h D m q) a y = hR h a y
  | 0 => rfl
  | q + 1 => (spH_R m).trans (ptH_R q)
theorem ptH_J {h : oH} {D : Nat → Nat → Int} {m a y : Nat} : ∀ q, hJ (ptH h D m q) a y = hJ h a y
  | 0 => rfl
  | q + 1 => (spH_J m).trans (ptH_J q)
theorem ptH_o {h : oH} {D : Nat → Nat → Int} {m a y : Nat} (hm : m ≤ 8) (c1 : a ≠ 7) : ∀ q, hI (ptH h D m q) a y = hI h a y
  | 0 => rfl
  | q + 1 => (spH_o (Or.inl c1) m hm).trans (ptH_o hm c1 q)
theorem ptH_7 {h : oH} {D : Nat → Nat → Int} {m r a : Nat} (hm : m ≤ 8) (c1 : a = 8 ∨ (a < m ∧ ¬ r.testBit a = true)) : ∀ q, r < q → hI (ptH h D m q) 7 (r * 9 + a) = oI (wy D m r a)
  | 0, c2 => absurd c2 (Nat.not_lt_zero r)
  | q + 1, c2 => by
    show hI (spH (ptH h D m q) D m q m) 7 (r * 9 + a) = _
    by_cases e : r = q
    · rw [← e]
      exact spH_7 m hm c1
    · rw [spH_o (by omega) m hm]
      exact ptH_7 hm c1 q (by omega)
/-- all rows of the parts below q stand -/
def alT (h : oH) (D : Nat → Nat → Int) (m q : Nat) : Prop := ∀ r, r < q → ∀ a, (a = 8 ∨ (a < m ∧ ¬ r.testBit a = true)) → (hI h 7 (r * 9 + a)).toInt = wy D m r a
theorem alT.ls {h : oH} {D : Nat → Nat → Int} {m q r : Nat} (t : alT h D m q) (hr : r ≤ q) : lsT h D m r := fun j hj hb => by
  have h1 := tB_le hb
  have h2 := pw_pos j
  exact t (r - 2 ^ j) (by omega) j (Or.inr ⟨hj, by rw [subB hb, if_pos rfl]; decide⟩)
theorem ptH_al {h : oH} {X Y : Nat → Int} {m q : Nat} (hm : m ≤ 8) (hB : xyB X Y) (hq : q ≤ 256) : alT (ptH h (dXY X Y) m q) (dXY X Y) m q := fun r hr a ha => by
  have hb := wy_b (m := m) (left := r) (k := a) (dXY_b hB) (by omega)
  rw [ptH_7 hm ha q hr, oI_t (by omega)]
theorem ls_sp {h : oH} {D : Nat → Nat → Int} {m q i : Nat} (hi : i ≤ 8) (hm : m ≤ 8) (t : lsT h D m q) : lsT (spH h D m q i) D m q := fun j hj hb => by
  have h1 := tB_le hb
  have h2 := pw_pos j
  rw [spH_o (by omega) i hi]
  exact t j hj hb
theorem gE_sp {h : oH} {D : Nat → Nat → Int} {m q i : Nat} {X Y : Nat → Int} (hi : i ≤ 8) (g : gE h m X Y) : gE (spH h D m q i) m X Y := g.fr (fun a k ha => spH_o (by omega) i hi)
theorem gE_pt {h : oH} {D : Nat → Nat → Int} {m q : Nat} {X Y : Nat → Int} (g : gE h m X Y) : gE (ptH h D m q) m X Y := g.fr (fun a k ha => ptH_o g.2.1 (by omega) q)
theorem sh_sp {h : oH} {D : Nat → Nat → Int} {m q i : Nat} (hs : oSh h) : oSh (spH h D m q i) := ⟨by rw [spH_n]; exact hs.1, fun r hr => by rw [spH_R]; exact hs.2 r hr⟩
theorem sh_pt {h : oH} {D : Nat → Nat → Int} {m q : Nat} (hs : oSh h) : oSh (ptH h D m q) := ⟨by rw [ptH_n]; exact hs.1, fun r hr => by rw [ptH_R]; exact hs.2 r hr⟩
theorem p256 {m q : Nat} (hm : m ≤ 8) (hq : q < 2 ^ m) : q < 256 := Nat.lt_of_lt_of_le hq (Nat.pow_le_pow_right (n := 2) (by decide) hm)
set_option maxHeartbeats 4000000 in
set_option maxRecDepth 100000 in
theorem lp_sp (G : oG) {p : Program} {l : Launch} {e : Env} {R : Room} {s : State} {m : MethodId} {args : Array Value} {below : List Frame} {meth : Method} {c : Code} {n0 nF : Nat} {Z : State → Prop} {h : oH} (hs0 : oSh h) {mm : Nat} {X Y : Nat → Int} (g0 : gE h mm X Y) {q : Nat} (hq : q < 2 ^ mm) {x1 x3 : Int32} (h3 : x3.toInt = (q : Int)) (ht0 : lsT h (dXY X Y) mm q) (C : oC G mX4_prepare n0 nF p l R s m args meth c) (hF0 : h.1 ≤ nF) (kont : ∀ t, oS G mX4_prepare p l e R s m args below meth c (Z) n0 73 [some (.ref 2), some (.int x1), some (.ref 1), some (.int x3), t] [] (spH h (dXY X Y) mm q mm)) : ∀ (k i : Nat) (x : Int32), i + k = mm → x.toInt = (i : Int) → oS G mX4_prepare p l e R s m args below meth c (Z) n0 42 [some (.ref 2), some (.int x1), some (.ref 1), some (.int x3), some (.int x)] [] (spH h (dXY X Y) mm q i) := by
  have g8 := g0.2.1
  have q8 := p256 g8 hq
  intro k
  induction k with
  | zero =>
    intro i x hik hx
    have him : i = mm := by omega
    subst him
    have hs := sh_sp (D := dXY X Y) (m := i) (q := q) (i := i) hs0
    have g := gE_sp (D := dXY X Y) (q := q) (i := i) g8 g0
    refine r_iload C rfl dX4_prepare_42 ?_
    refine r_aload_n C rfl rfl dX4_prepare_44 ?_
    refine r_getI C dX4_prepare_45 fl_X4_31 rfl (q_lt hs (by decide)) ?_
    refine t_icmp_ge C 73 (by decide) hx g.1 dX4_prepare_48 (fun c48 => ?_) (fun c48 => absurd c48 (by omega))
    exact kont _
  | succ k ih =>
    intro i x hik hx
    have hi : i < mm := by omega
    have hs := sh_sp (D := dXY X Y) (m := mm) (q := q) (i := i) hs0
    have g := gE_sp (D := dXY X Y) (q := q) (i := i) (by omega) g0
    have ht := ls_sp (i := i) (by omega) g8 ht0
    have hF : (spH h (dXY X Y) mm q i).1 ≤ nF := by rw [spH_n]; exact hF0
    by_cases hbt : q.testBit i = true
    · refine r_iload C rfl dX4_prepare_42 ?_
      refine r_aload_n C rfl rfl dX4_prepare_44 ?_
      refine r_getI C dX4_prepare_45 fl_X4_31 rfl (q_lt hs (by decide)) ?_
      refine t_icmp_ge C 73 (by decide) hx g.1 dX4_prepare_48 (fun c48 => absurd c48 (by omega)) (fun c48 => ?_)
      refine r_iload_n C rfl dX4_prepare_51 ?_
      refine r_iload C rfl dX4_prepare_52 ?_
      refine r_ishr C dX4_prepare_54 ?_
      refine r_iconstv C 1 rfl dX4_prepare_55 ?_
      refine r_iand C dX4_prepare_56 ?_
      refine t_if_ne C 67 (by decide) rfl dX4_prepare_57 (fun c57 => ?_) (fun c57 => absurd c57 (by rw [tBit h3 hx (by omega), if_pos hbt]; decide))
      refine r_iinc C rfl rfl (Nat.le_of_ble_eq_true rfl) dX4_prepare_67 ?_
      refine r_goto C 42 (by decide) dX4_prepare_70 ?_
      exact oS_h (spH_t hbt).symm (ih (i + 1) _ (by omega) (by have t := tA hx (show (Int32.ofInt 1).toInt = 1 from rfl) (by omega); omega))
    · refine r_iload C rfl dX4_prepare_42 ?_
      refine r_aload_n C rfl rfl dX4_prepare_44 ?_
      refine r_getI C dX4_prepare_45 fl_X4_31 rfl (q_lt hs (by decide)) ?_
      refine t_icmp_ge C 73 (by decide) hx g.1 dX4_prepare_48 (fun c48 => absurd c48 (by omega)) (fun c48 => ?_)
      refine r_iload_n C rfl dX4_prepare_51 ?_
      refine r_iload C rfl dX4_prepare_52 ?_
      refine r_ishr C dX4_prepare_54 ?_
      refine r_iconstv C 1 rfl dX4_prepare_55 ?_
      refine r_iand C dX4_prepare_56 ?_
      refine t_if_ne C 67 (by decide) rfl dX4_prepare_57 (fun c57 => absurd (bit_m h3 hx (by omega) c57) hbt) (fun c57 => ?_)
      refine r_aload_n C rfl rfl dX4_prepare_60 ?_
      refine r_iload_n C rfl dX4_prepare_61 ?_
      refine r_iload C rfl dX4_prepare_62 ?_
      refine r_callV C (sp_ms G hs g _ _ h3 hx q8 (Or.inl hi) ht hq) kv_X4_measure kn_X4_measure rfl dX4_prepare_64 cl_X4_43 ⟨Nat.le_of_ble_eq_true rfl, Nat.le_of_ble_eq_true rfl⟩ (by decide) rfl rfl (q_lt hs (by decide)) hF rfl (Nat.le_of_ble_eq_true rfl) ?_
      refine r_iinc C rfl rfl (Nat.le_of_ble_eq_true rfl) dX4_prepare_67 ?_
      refine r_goto C 42 (by decide) dX4_prepare_70 ?_
      exact oS_h (spH_f hbt).symm (ih (i + 1) _ (by omega) (by have t := tA hx (show (Int32.ofInt 1).toInt = 1 from rfl) (by omega); omega))

set_option maxHeartbeats 4000000 in
set_option maxRecDepth 100000 in
theorem lp_pt (G : oG) {p : Program} {l : Launch} {e : Env} {R : Room} {s : State} {m : MethodId} {args : Array Value} {below : List Frame} {meth : Method} {c : Code} {n0 nF : Nat} {Z : State → Prop} {h : oH} (hs0 : oSh h) {mm : Nat} {X Y : Nat → Int} (g0 : gE h mm X Y) {x1 : Int32} (C : oC G mX4_prepare n0 nF p l R s m args meth c) (hF0 : h.1 ≤ nF) (kont : ∀ t3 t4, oS G mX4_prepare p l e R s m args below meth c (Z) n0 79 [some (.ref 2), some (.int x1), some (.ref 1), t3, t4] [] (ptH h (dXY X Y) mm (2 ^ mm))) : ∀ (k i : Nat) (x : Int32) (t4 : Option Value), i + k = 2 ^ mm → x.toInt = (i : Int) → oS G mX4_prepare p l e R s m args below meth c (Z) n0 22 [some (.ref 2), some (.int x1), some (.ref 1), some (.int x), t4] [] (ptH h (dXY X Y) mm i) := by
  have g8 := g0.2.1
  have p8 : 2 ^ mm ≤ 256 := Nat.pow_le_pow_right (n := 2) (by decide) g8
  intro k
  induction k with
  | zero =>
    intro i x t4 hik hx
    have him : i = 2 ^ mm := by omega
    subst him
    have hs := sh_pt (D := dXY X Y) (m := mm) (q := 2 ^ mm) hs0
    have g := gE_pt (D := dXY X Y) (q := 2 ^ mm) g0
    have hsh := tShl g.1 (by omega)
    refine r_iload_n C rfl dX4_prepare_22 ?_
    refine r_iconstv C 1 rfl dX4_prepare_23 ?_
    refine r_aload_n C rfl rfl dX4_prepare_24 ?_
    refine r_getI C dX4_prepare_25 fl_X4_31 rfl (q_lt hs (by decide)) ?_
    refine r_ishl C dX4_prepare_28 ?_
    refine t_icmp_ge C 79 (by decide) rfl rfl dX4_prepare_29 (fun c29 => ?_) (fun c29 => absurd c29 (by omega))
    exact kont _ _
  | succ k ih =>
    intro i x t4 hik hx
    have hi : i < 2 ^ mm := by omega
    have hs := sh_pt (D := dXY X Y) (m := mm) (q := i) hs0
    have g := gE_pt (D := dXY X Y) (q := i) g0
    have hsh := tShl g.1 (by omega)
    have ht := (ptH_al (h := h) g8 g.2.2.1 (show i ≤ 256 by omega)).ls (Nat.le_refl i)
    have hF : (ptH h (dXY X Y) mm i).1 ≤ nF := by rw [ptH_n]; exact hF0
    refine r_iload_n C rfl dX4_prepare_22 ?_
    refine r_iconstv C 1 rfl dX4_prepare_23 ?_
    refine r_aload_n C rfl rfl dX4_prepare_24 ?_
    refine r_getI C dX4_prepare_25 fl_X4_31 rfl (q_lt hs (by decide)) ?_
    refine r_ishl C dX4_prepare_28 ?_
    refine t_icmp_ge C 79 (by decide) hx rfl dX4_prepare_29 (fun c29 => absurd c29 (by omega)) (fun c29 => ?_)
    refine r_aload_n C rfl rfl dX4_prepare_32 ?_
    refine r_iload_n C rfl dX4_prepare_33 ?_
    refine r_bipush C 8 rfl dX4_prepare_34 ?_
    refine r_callV C (sp_ms G hs g _ _ hx (show (8 : Int32).toInt = ((8 : Nat) : Int) from rfl) (by omega) (Or.inr rfl) ht hi) kv_X4_measure kn_X4_measure rfl dX4_prepare_36 cl_X4_43 ⟨Nat.le_of_ble_eq_true rfl, Nat.le_of_ble_eq_true rfl⟩ (by decide) rfl rfl (q_lt hs (by decide)) hF rfl (Nat.le_of_ble_eq_true rfl) ?_
    refine r_iconstv C 0 rfl dX4_prepare_39 ?_
    refine r_istore C rfl (Nat.le_of_ble_eq_true rfl) dX4_prepare_40 ?_
    refine lp_sp G hs g hi hx ht C hF (fun t => ?_) mm 0 _ (by omega) rfl
    refine r_iinc C rfl rfl (Nat.le_of_ble_eq_true rfl) dX4_prepare_73 ?_
    refine r_goto C 22 (by decide) dX4_prepare_76 ?_
    exact ih (i + 1) _ _ (by omega) (by have t := tA hx (show (Int32.ofInt 1).toInt = 1 from rfl) (by omega); omega)

def arH (h : oH) (D : Nat → Nat → Int) (m : Nat) (l : List Nat) : Nat → oH
  | 0 => h
  | i + 1 => sI (arH h D m l i) 6 i (kI (l.getD (och D m (i + 1)).2 0))
theorem arH_n {h : oH} {D : Nat → Nat → Int} {m : Nat} {l : List Nat} : ∀ i, (arH h D m l i).1 = h.1
  | 0 => rfl
  | i + 1 => arH_n (l := l) i
theorem arH_R {h : oH} {D : Nat → Nat → Int} {m a y : Nat} {l : List Nat} : ∀ i, hR (arH h D m l i) a y = hR h a y
  | 0 => rfl
  | i + 1 => arH_R (l := l) i
theorem arH_J {h : oH} {D : Nat → Nat → Int} {m a y : Nat} {l : List Nat} : ∀ i, hJ (arH h D m l i) a y = hJ h a y
  | 0 => rfl
  | i + 1 => arH_J (l := l) i
theorem arH_o {h : oH} {D : Nat → Nat → Int} {m a y : Nat} {l : List Nat} (c1 : a ≠ 6) : ∀ i, hI (arH h D m l i) a y = hI h a y
  | 0 => rfl
  | i + 1 => by
    unfold arH
    rw [sI_ne (by omega)]
    exact arH_o c1 i
theorem arH_6 {h : oH} {D : Nat → Nat → Int} {m y : Nat} {l : List Nat} : ∀ i, y < i → hI (arH h D m l i) 6 y = kI (l.getD (och D m (y + 1)).2 0)
  | 0, c1 => absurd c1 (Nat.not_lt_zero y)
  | i + 1, c1 => by
    unfold arH
    by_cases e : y = i
    · rw [e, sI_eq ⟨rfl, rfl⟩]
    · rw [sI_ne (by omega)]
      exact arH_6 i (by omega)
theorem sh_ar {h : oH} {D : Nat → Nat → Int} {m q : Nat} {l : List Nat} (hs : oSh h) : oSh (arH h D m l q) := ⟨by rw [arH_n]; exact hs.1, fun r hr => by rw [arH_R]; exact hs.2 r hr⟩
theorem och_s {D : Nat → Nat → Int} {m i : Nat} : och D m (i + 1) = ((och D m i).1 - 2 ^ (nx D m (och D m i).1 (och D m i).2), nx D m (och D m i).1 (och D m i).2) := rfl
set_option maxHeartbeats 4000000 in
set_option maxRecDepth 100000 in
theorem lp_ar (G : oG) {p : Program} {l : Launch} {e : Env} {R : Room} {s : State} {m : MethodId} {args : Array Value} {below : List Frame} {meth : Method} {c : Code} {n0 nF : Nat} {h : oH} (hs0 : oSh h) {mm : Nat} {X Y : Nat → Int} (g0 : gE h mm X Y) {ll : List Nat} (hnu : ∀ a, a < mm → (hI h 3 a).toInt = ((ll.getD a 0 : Nat) : Int)) (hal : alT h (dXY X Y) mm (2 ^ mm)) (C : oC G mX4_arrange n0 nF p l R s m args meth c) (hF0 : h.1 ≤ nF) : ∀ (k i : Nat) (x1 x2 x3 : Int32) (t4 : Option Value), i + k = mm → x3.toInt = (i : Int) → x1.toInt = (((och (dXY X Y) mm i).1 : Nat) : Int) → x2.toInt = (((och (dXY X Y) mm i).2 : Nat) : Int) → oS G mX4_arrange p l e R s m args below meth c (oZ G below args s n0 nF none (arH h (dXY X Y) mm ll mm)) n0 14 [some (.ref 2), some (.int x1), some (.int x2), some (.int x3), t4] [] (arH h (dXY X Y) mm ll i) := by
  have g8 := g0.2.1
  have p8 : 2 ^ mm ≤ 256 := Nat.pow_le_pow_right (n := 2) (by decide) g8
  intro k
  induction k with
  | zero =>
    intro i x1 x2 x3 t4 hik hx h1 h2
    have him : i = mm := by omega
    subst him
    have hs := sh_ar (D := dXY X Y) (m := i) (q := i) (l := ll) hs0
    have g := g0.fr (h' := arH h (dXY X Y) i ll i) (fun a k ha => arH_o (by omega) i)
    have hF : (arH h (dXY X Y) i ll i).1 ≤ nF := by rw [arH_n]; exact hF0
    refine r_iload_n C rfl dX4_arrange_14 ?_
    refine r_aload_n C rfl rfl dX4_arrange_15 ?_
    refine r_getI C dX4_arrange_16 fl_X4_31 rfl (q_lt hs (by decide)) ?_
    refine t_icmp_ge C 90 (by decide) hx g.1 dX4_arrange_19 (fun c19 => ?_) (fun c19 => absurd c19 (by omega))
    exact r_vret C dX4_arrange_90 rfl hF rfl
  | succ k ih =>
    intro i x1 x2 x3 t4 hik hx h1 h2
    have hi : i < mm := by omega
    have hs := sh_ar (D := dXY X Y) (m := mm) (q := i) (l := ll) hs0
    have g := g0.fr (h' := arH h (dXY X Y) mm ll i) (fun a k ha => arH_o (by omega) i)
    have hF : (arH h (dXY X Y) mm ll i).1 ≤ nF := by rw [arH_n]; exact hF0
    have ht : alT (arH h (dXY X Y) mm ll i) (dXY X Y) mm (2 ^ mm) := fun r hr a ha => by rw [arH_o (by decide) i]; exact hal r hr a ha
    obtain ⟨o1, -, o3⟩ := och_f (D := dXY X Y) (m := mm) i (by omega)
    have oz := och_nz (D := dXY X Y) hi
    have es := och_s (D := dXY X Y) (m := mm) (i := i)
    obtain ⟨-, -, n1, n2⟩ := nx_mu (D := dXY X Y) (k := (och (dXY X Y) mm i).2) oz o1
    have hla := ht _ o1 (och (dXY X Y) mm i).2 (by rcases o3 with o3 | o3; exact Or.inl o3.1; exact Or.inr o3)
    have ha8 : (och (dXY X Y) mm i).2 < mm ∨ (och (dXY X Y) mm i).2 = 8 := by omega
    have e1 : (och (dXY X Y) mm (i + 1)).1 = (och (dXY X Y) mm i).1 - 2 ^ nx (dXY X Y) mm (och (dXY X Y) mm i).1 (och (dXY X Y) mm i).2 := by rw [es]
    have e2 : (och (dXY X Y) mm (i + 1)).2 = nx (dXY X Y) mm (och (dXY X Y) mm i).1 (och (dXY X Y) mm i).2 := by rw [es]
    generalize hp : (och (dXY X Y) mm i).1 = pp at *
    generalize ha : (och (dXY X Y) mm i).2 = aa at *
    generalize hj : nx (dXY X Y) mm pp aa = jj at *
    have hnj : (hI (arH h (dXY X Y) mm ll i) 3 jj).toInt = ((ll.getD jj 0 : Nat) : Int) := by rw [arH_o (by decide) i]; exact hnu jj n1
    have h4 : (kI jj).toInt = (jj : Int) := kI_t (by omega)
    have hfn : oSp G mX4_firstNext [.ref 2, .int x1, .int x2] (arH h (dXY X Y) mm ll i) (some (.int (kI jj))) (arH h (dXY X Y) mm ll i) := by
      have q := sp_fn G hs g x1 x2 h1 h2 (by omega) ha8 (ht.ls (by omega)) hla
      rw [hj] at q
      exact q
    refine r_iload_n C rfl dX4_arrange_14 ?_
    refine r_aload_n C rfl rfl dX4_arrange_15 ?_
    refine r_getI C dX4_arrange_16 fl_X4_31 rfl (q_lt hs (by decide)) ?_
    refine t_icmp_ge C 90 (by decide) hx g.1 dX4_arrange_19 (fun c19 => absurd c19 (by omega)) (fun c19 => ?_)
    refine r_iload_n C rfl dX4_arrange_22 ?_
    refine r_aload_n C rfl rfl dX4_arrange_23 ?_
    refine r_getO C dX4_arrange_24 fl_X4_21 rfl rfl (q_lt hs (by decide)) (sh_2_3 hs) ?_
    refine r_alen C 8 dX4_arrange_27 rfl (by decide) (q_lt hs (by decide)) rfl ?_
    refine t_icmp_ge C 90 (by decide) hx (show (8 : Int32).toInt = 8 from rfl) dX4_arrange_28 (fun c28 => absurd c28 (by omega)) (fun c28 => ?_)
    refine r_aload_n C rfl rfl dX4_arrange_31 ?_
    refine r_iload_n C rfl dX4_arrange_32 ?_
    refine r_iload_n C rfl dX4_arrange_33 ?_
    refine r_callV C (hfn) kv_X4_firstNext kn_X4_firstNext rfl dX4_arrange_34 cl_X4_75 ⟨Nat.le_of_ble_eq_true rfl, Nat.le_of_ble_eq_true rfl⟩ (by decide) rfl rfl (q_lt hs (by decide)) hF rfl (Nat.le_of_ble_eq_true rfl) ?_
    refine r_istore C rfl (Nat.le_of_ble_eq_true rfl) dX4_arrange_37 ?_
    refine r_aload_n C rfl rfl dX4_arrange_39 ?_
    refine r_getO C dX4_arrange_40 fl_X4_21 rfl rfl (q_lt hs (by decide)) (sh_2_3 hs) ?_
    refine r_iload_n C rfl dX4_arrange_43 ?_
    refine r_iload C rfl dX4_arrange_44 ?_
    refine t_if_lt C 59 (by decide) h4 dX4_arrange_46 (fun c46 => absurd c46 (by omega)) (fun c46 => ?_)
    refine r_iload C rfl dX4_arrange_49 ?_
    refine r_aload_n C rfl rfl dX4_arrange_51 ?_
    refine r_getO C dX4_arrange_52 fl_X4_9 rfl rfl (q_lt hs (by decide)) (sh_2_0 hs) ?_
    refine r_alen C 8 dX4_arrange_55 rfl (by decide) (q_lt hs (by decide)) rfl ?_
    refine t_icmp_lt C 64 (by decide) h4 (show (8 : Int32).toInt = 8 from rfl) dX4_arrange_56 (fun c56 => ?_) (fun c56 => absurd c56 (by omega))
    refine r_aload_n C rfl rfl dX4_arrange_64 ?_
    refine r_getO C dX4_arrange_65 fl_X4_9 rfl rfl (q_lt hs (by decide)) (sh_2_0 hs) ?_
    refine r_iload C rfl dX4_arrange_68 ?_
    refine r_iald C (jj) (by have t := h4; omega) (by omega) dX4_arrange_70 rfl (q_lt hs (by decide)) ?_
    refine r_iast C (i) (by have t := hx; omega) (by omega) dX4_arrange_71 rfl (q_lt hs (by decide)) ?_
    refine r_iload_n C rfl dX4_arrange_72 ?_
    refine r_iconstv C 1 rfl dX4_arrange_73 ?_
    refine r_iload C rfl dX4_arrange_74 ?_
    refine r_ishl C dX4_arrange_76 ?_
    refine r_iconstv C (-1) rfl dX4_arrange_77 ?_
    refine r_ixor C dX4_arrange_78 ?_
    refine r_iand C dX4_arrange_79 ?_
    refine r_istore_n C rfl (Nat.le_of_ble_eq_true rfl) dX4_arrange_80 ?_
    refine r_iload C rfl dX4_arrange_81 ?_
    refine r_istore_n C rfl (Nat.le_of_ble_eq_true rfl) dX4_arrange_83 ?_
    refine r_iinc C rfl rfl (Nat.le_of_ble_eq_true rfl) dX4_arrange_84 ?_
    refine r_goto C 14 (by decide) dX4_arrange_87 ?_
    refine oS_h (h2 := arH h (dXY X Y) mm ll (i + 1)) (by show _ = sI (arH h (dXY X Y) mm ll i) 6 i (kI (ll.getD (och (dXY X Y) mm (i + 1)).2 0)); rw [e2, kI_e hnj]) (ih (i + 1) _ _ _ _ (by omega) (by have t := tA hx (show (Int32.ofInt 1).toInt = 1 from rfl) (by omega); omega) ?_ ?_)
    · rw [e1]
      exact tClr h1 h4 (by omega) n2
    · rw [e2]
      exact h4

set_option maxHeartbeats 4000000 in
set_option maxRecDepth 100000 in
theorem sp_ar (G : oG) {h : oH} (hs : oSh h) {mm : Nat} {X Y : Nat → Int} (g : gE h mm X Y) {ll : List Nat} (hnu : ∀ a, a < mm → (hI h 3 a).toInt = ((ll.getD a 0 : Nat) : Int)) (hal : alT h (dXY X Y) mm (2 ^ mm)) : oSp G mX4_arrange [.ref 2] h none (arH h (dXY X Y) mm ll mm) := by
  refine oSp.intro [some (.ref 2), none, none, none, none] rfl (Nat.le_of_ble_eq_true rfl) (plainFor_of_name (by decide +kernel)) (by rw [arH_n]; exact Nat.le_refl _) ?_
  intro p l e R s m args below meth c C
  refine r_iconstv C 1 rfl dX4_arrange_0 ?_
  refine r_aload_n C rfl rfl dX4_arrange_1 ?_
  refine r_getI C dX4_arrange_2 fl_X4_31 rfl (q_lt hs (by decide)) ?_
  refine r_ishl C dX4_arrange_5 ?_
  refine r_iconstv C 1 rfl dX4_arrange_6 ?_
  refine r_isub C dX4_arrange_7 ?_
  refine r_istore_n C rfl (Nat.le_of_ble_eq_true rfl) dX4_arrange_8 ?_
  refine r_bipush C 8 rfl dX4_arrange_9 ?_
  refine r_istore_n C rfl (Nat.le_of_ble_eq_true rfl) dX4_arrange_11 ?_
  refine r_iconstv C 0 rfl dX4_arrange_12 ?_
  refine r_istore_n C rfl (Nat.le_of_ble_eq_true rfl) dX4_arrange_13 ?_
  have g8 := g.2.1
  have p8 : 2 ^ mm ≤ 256 := Nat.pow_le_pow_right (n := 2) (by decide) g8
  have pz := pw_pos mm
  exact lp_ar G hs g hnu hal C (by rw [arH_n]; exact Nat.le_refl _) mm 0 _ _ _ _ (by omega) rfl (by rw [tS (tShl g.1 (by omega)) (show (1 : Int32).toInt = 1 from rfl) (by omega)]; show _ = ((2 ^ mm - 1 : Nat) : Int); omega) rfl

