/-! plans, both sides -/
def PB (d : Int32 × Int32 × Int32) : Prop := (0 ≤ d.1.toInt ∧ d.1.toInt ≤ 2) ∧ (0 ≤ d.2.1.toInt ∧ d.2.1.toInt ≤ 99999) ∧ (0 ≤ d.2.2.toInt ∧ d.2.2.toInt ≤ 99999) ∧ (d.1.toInt ≠ 2 → d.2.1.toInt = 0)
theorem okP_b {T : Nat → Int} {z n q r : Nat} {x : Pl} (hq : q ≤ z) (o : okP T z n q x r) : x.1 < n ∧ PB x.2 := by
  obtain ⟨k0, k1, hv, hvv, o⟩ := o
  have b3 : kE T z q 3 = 5 → 0 ≤ vE T z q 3 ∧ vE T z q 3 ≤ 99999 := fun k => xV_b (ei_z hq 3) k
  have b5 : kE T z q 5 = 5 → 0 ≤ vE T z q 5 ∧ vE T z q 5 ≤ 99999 := fun k => xV_b (ei_z hq 5) k
  refine ⟨hv, ?_⟩
  rcases o with ⟨k2, k3, e, er⟩ | ⟨k2, k3, k4, e, er⟩ | ⟨k2, k3, k4, k5, k6, e, er⟩
  · rw [e]
    exact ⟨⟨by decide, by decide⟩, ⟨by decide, by decide⟩, ⟨by decide, by decide⟩, fun _ => rfl⟩
  · have b := b3 k3
    have t := oI_t (i := vE T z q 3) (by omega)
    rw [e]
    refine ⟨(by decide : 0 ≤ (1 : Int32).toInt ∧ (1 : Int32).toInt ≤ 2), (by decide : 0 ≤ (0 : Int32).toInt ∧ (0 : Int32).toInt ≤ 99999), ⟨?_, ?_⟩, fun _ => rfl⟩
    · show 0 ≤ (oI (vE T z q 3)).toInt
      omega
    · show (oI (vE T z q 3)).toInt ≤ 99999
      omega
  · have b := b3 k3
    have t := oI_t (i := vE T z q 3) (by omega)
    have b' := b5 k5
    have t' := oI_t (i := vE T z q 5) (by omega)
    rw [e]
    refine ⟨(by decide : 0 ≤ (2 : Int32).toInt ∧ (2 : Int32).toInt ≤ 2), ⟨?_, ?_⟩, ⟨?_, ?_⟩, fun c => absurd rfl c⟩
    · show 0 ≤ (oI (vE T z q 3)).toInt
      omega
    · show (oI (vE T z q 3)).toInt ≤ 99999
      omega
    · show 0 ≤ (oI (vE T z q 5)).toInt
      omega
    · show (oI (vE T z q 5)).toInt ≤ 99999
      omega
theorem Prs_b {T : Nat → Int} {z n : Nat} {r : Option (Nat × Nat)} : ∀ (L : List Pl) {q : Nat}, q ≤ z → Prs T z n L r q → ∀ x, x ∈ L → x.1 < n ∧ PB x.2
  | [], _, _, _, x, hx => by cases hx
  | y :: L, q, hq, P, x, hx => by
    obtain ⟨q', o, P'⟩ := P
    rcases List.mem_cons.mp hx with e | hx
    · rw [e]
      exact okP_b hq o
    · exact Prs_b L (okP_len hq o).2 P' x hx
theorem plF_b {i : Nat} : ∀ (L : List Pl) {d : Int32 × Int32 × Int32}, (∀ x, x ∈ L → PB x.2) → PB d → PB (plF L i d)
  | [], _, _, hd => hd
  | x :: L, d, hL, hd => by
    show PB (plF L i (if x.1 = i then x.2 else d))
    refine plF_b L (fun y hy => hL y (List.mem_cons_of_mem _ hy)) ?_
    split
    · exact hL x List.mem_cons_self
    · exact hd
theorem plF_no {i : Nat} : ∀ (L : List Pl) {d : Int32 × Int32 × Int32}, (∀ x, x ∈ L → x.1 ≠ i) → plF L i d = d
  | [], _, _ => rfl
  | x :: L, d, hL => by
    show plF L i (if x.1 = i then x.2 else d) = d
    rw [if_neg (hL x List.mem_cons_self)]
    exact plF_no L (fun y hy => hL y (List.mem_cons_of_mem _ hy))
def iH (h : oH) : oH := sI (sI (sI (sI (sI (sI h 12 0 0) 12 31 (hI h 12 29)) 12 29 0) 12 32 0) 12 36 0) 12 38 0
theorem iH_o {h : oH} {a y : Nat} (q : ¬ (a = 12 ∧ (y = 0 ∨ y = 29 ∨ y = 31 ∨ y = 32 ∨ y = 36 ∨ y = 38))) : hI (iH h) a y = hI h a y := by
  unfold iH
  (repeat rw [sI_ne (by omega)])
def mlF (L : List Pl) (r : Option (Nat × Nat)) (h h' : oH) : Prop := h'.1 = h.1 ∧ (∀ a y, hR h' a y = hR h a y) ∧ (∀ a y, hJ h' a y = hJ h a y) ∧ (hI h' 12 29).toInt = 0 ∧ ltC (hI h 12 30) r (hI h' 12 30) ∧ (∀ a y, ¬ (a = 12 ∧ (y = 0 ∨ (29 ≤ y ∧ y ≤ 38))) → ¬ (24 ≤ a ∧ a ≤ 26) → ¬ (30 ≤ a ∧ a ≤ 33) → hI h' a y = hI h a y) ∧ ∀ i, (hI h' 24 i, hI h' 25 i, hI h' 26 i) = (match r with | none => plF L i (hI h 24 i, hI h 25 i, hI h 26 i) | some _ => (hI h 24 i, hI h 25 i, hI h 26 i))
set_option maxHeartbeats 4000000 in
set_option maxRecDepth 100000 in
theorem mp_f (G : oG) {h : oH} (hs : oSh h) {h1 hf : oH} (sp : oSp G mX6_step [.ref 12] (iH h) none h1) (n1 : h1.1 = h.1) (hs1 : oSh h1) (P : pO G h1 hf) (hs2 : oSh hf) {s0 : Nat} (hp : 0 < (hI hf 12 36).toInt) (e37 : hI hf 12 37 = kI s0) : oSp G mX6_plans [.ref 12] h (some (.int (-1000100 - kI s0))) (sI hf 12 30 (hI hf 12 36)) := by
  have n2 : hf.1 = h.1 := P.1.trans n1
  refine oSp.intro [some (.ref 12), none, none] rfl (Nat.le_of_ble_eq_true rfl) (plainFor_of_name (by decide +kernel)) (by show h.1 ≤ hf.1; exact Nat.le_of_eq n2.symm) ?_
  intro p l e R s m args below meth c C
  refine r_aload_n C rfl rfl dX6_plans_0 ?_
  refine r_iconstv C 0 rfl dX6_plans_1 ?_
  refine r_putI C dX6_plans_2 fl_X6_90 rfl (q_lt hs (by decide)) (Or.inl rfl) ?_
  refine r_aload_n C rfl rfl dX6_plans_5 ?_
  refine r_aload_n C rfl rfl dX6_plans_6 ?_
  refine r_getI C dX6_plans_7 fl_X6_201 rfl (q_lt hs (by decide)) ?_
  refine r_putI C dX6_plans_10 fl_X6_206 rfl (q_lt hs (by decide)) (Or.inl rfl) ?_
  refine r_aload_n C rfl rfl dX6_plans_13 ?_
  refine r_iconstv C 0 rfl dX6_plans_14 ?_
  refine r_putI C dX6_plans_15 fl_X6_201 rfl (q_lt hs (by decide)) (Or.inl rfl) ?_
  refine r_aload_n C rfl rfl dX6_plans_18 ?_
  refine r_iconstv C 0 rfl dX6_plans_19 ?_
  refine r_putI C dX6_plans_20 fl_X6_209 rfl (q_lt hs (by decide)) (Or.inl rfl) ?_
  refine r_aload_n C rfl rfl dX6_plans_23 ?_
  refine r_iconstv C 0 rfl dX6_plans_24 ?_
  refine r_putI C dX6_plans_25 fl_X6_230 rfl (q_lt hs (by decide)) (Or.inl rfl) ?_
  refine r_aload_n C rfl rfl dX6_plans_28 ?_
  refine r_iconstv C 0 rfl dX6_plans_29 ?_
  refine r_putI C dX6_plans_30 fl_X6_265 rfl (q_lt hs (by decide)) (Or.inl rfl) ?_
  refine r_aload_n C rfl rfl dX6_plans_33 ?_
  skip
  refine r_callV C sp kv_X6_step kn_X6_step rfl dX6_plans_34 cl_X6_240 ⟨Nat.le_of_ble_eq_true rfl, Nat.le_of_ble_eq_true rfl⟩ (by decide) rfl rfl (q_lt hs (by decide)) (by show h1.1 ≤ _; rw [n1]; exact Nat.le_of_eq n2.symm) rfl (Nat.le_of_ble_eq_true rfl) ?_
  have hFF : h1.1 ≤ hf.1 := by rw [n1]; exact Nat.le_of_eq n2.symm
  refine P.2 p l e R s m args below meth c _ h.1 hf.1 C hFF ?_
  have hs := hs2
  refine r_aload_n C rfl rfl dX6_plans_59 ?_
  refine r_getI C dX6_plans_60 fl_X6_230 rfl (q_lt hs (by decide)) ?_
  refine t_if_le C 83 (by decide) rfl dX6_plans_63 (fun c63 => absurd hp (Int.not_lt.mpr c63)) (fun c63 => ?_)
  refine r_aload_n C rfl rfl dX6_plans_66 ?_
  refine r_aload_n C rfl rfl dX6_plans_67 ?_
  refine r_getI C dX6_plans_68 fl_X6_230 rfl (q_lt hs (by decide)) ?_
  refine r_putI C dX6_plans_71 fl_X6_271 rfl (q_lt hs (by decide)) (Or.inl rfl) ?_
  refine r_ldcw C _ lc_X6_274 dX6_plans_74 ?_
  refine r_aload_n C rfl rfl dX6_plans_77 ?_
  refine r_getI C dX6_plans_78 fl_X6_233 rfl (q_lt hs (by decide)) ?_
  refine r_isub C dX6_plans_81 ?_
  exact r_iret C dX6_plans_82 rfl (Nat.le_refl _) (by rw [← e37]; rfl) rfl

set_option maxHeartbeats 4000000 in
set_option maxRecDepth 100000 in
theorem mp_t (G : oG) {h : oH} (hs : oSh h) {h1 hf : oH} (sp : oSp G mX6_step [.ref 12] (iH h) none h1) (n1 : h1.1 = h.1) (hs1 : oSh h1) (P : pO G h1 hf) (hs2 : oSh hf) {L : List Pl} {v : Int32} (hp : (hI hf 12 36).toInt = 0) (e38 : hI hf 12 38 = v) (hl : v.toInt = ((0 + L.length : Nat) : Int)) (h40 : 0 + L.length < 40) (hr : ∀ k x, L[k]? = some x → rwM hf (0 + k) x) (hx : ∀ x, x ∈ L → x.1 < 24) : oSp G mX6_plans [.ref 12] h (some (.int v)) (apH hf L) := by
  have n2 : hf.1 = h.1 := P.1.trans n1
  refine oSp.intro [some (.ref 12), none, none] rfl (Nat.le_of_ble_eq_true rfl) (plainFor_of_name (by decide +kernel)) (by rw [apH_n]; exact Nat.le_of_eq n2.symm) ?_
  intro p l e R s m args below meth c C
  refine r_aload_n C rfl rfl dX6_plans_0 ?_
  refine r_iconstv C 0 rfl dX6_plans_1 ?_
  refine r_putI C dX6_plans_2 fl_X6_90 rfl (q_lt hs (by decide)) (Or.inl rfl) ?_
  refine r_aload_n C rfl rfl dX6_plans_5 ?_
  refine r_aload_n C rfl rfl dX6_plans_6 ?_
  refine r_getI C dX6_plans_7 fl_X6_201 rfl (q_lt hs (by decide)) ?_
  refine r_putI C dX6_plans_10 fl_X6_206 rfl (q_lt hs (by decide)) (Or.inl rfl) ?_
  refine r_aload_n C rfl rfl dX6_plans_13 ?_
  refine r_iconstv C 0 rfl dX6_plans_14 ?_
  refine r_putI C dX6_plans_15 fl_X6_201 rfl (q_lt hs (by decide)) (Or.inl rfl) ?_
  refine r_aload_n C rfl rfl dX6_plans_18 ?_
  refine r_iconstv C 0 rfl dX6_plans_19 ?_
  refine r_putI C dX6_plans_20 fl_X6_209 rfl (q_lt hs (by decide)) (Or.inl rfl) ?_
  refine r_aload_n C rfl rfl dX6_plans_23 ?_
  refine r_iconstv C 0 rfl dX6_plans_24 ?_
  refine r_putI C dX6_plans_25 fl_X6_230 rfl (q_lt hs (by decide)) (Or.inl rfl) ?_
  refine r_aload_n C rfl rfl dX6_plans_28 ?_
  refine r_iconstv C 0 rfl dX6_plans_29 ?_
  refine r_putI C dX6_plans_30 fl_X6_265 rfl (q_lt hs (by decide)) (Or.inl rfl) ?_
  refine r_aload_n C rfl rfl dX6_plans_33 ?_
  skip
  refine r_callV C sp kv_X6_step kn_X6_step rfl dX6_plans_34 cl_X6_240 ⟨Nat.le_of_ble_eq_true rfl, Nat.le_of_ble_eq_true rfl⟩ (by decide) rfl rfl (q_lt hs (by decide)) (by show h1.1 ≤ _; rw [n1, apH_n]; exact Nat.le_of_eq n2.symm) rfl (Nat.le_of_ble_eq_true rfl) ?_
  have hFF : h1.1 ≤ (apH hf L).1 := by rw [n1, apH_n]; exact Nat.le_of_eq n2.symm
  refine P.2 p l e R s m args below meth c _ h.1 (apH hf L).1 C hFF ?_
  have hs := hs2
  refine r_aload_n C rfl rfl dX6_plans_59 ?_
  refine r_getI C dX6_plans_60 fl_X6_230 rfl (q_lt hs (by decide)) ?_
  refine t_if_le C 83 (by decide) hp dX6_plans_63 (fun c63 => ?_) (fun c63 => absurd c63 (by decide))
  refine r_iconstv C 0 rfl dX6_plans_83 ?_
  refine r_istore_n C rfl (Nat.le_of_ble_eq_true rfl) dX6_plans_84 ?_
  exact lp_ap G C v L (i := 0) hs (Nat.le_of_eq (apH_n L hf).symm) rfl e38 hl h40 hr hx

theorem m_plans (G : oG) {h : oH} (hs : oSh h) {n z : Nat} {T : Nat → Int} (hn : (hI h 12 1).toInt = (n : Int)) (h24 : n ≤ 24) (hz : (hI h 12 29).toInt = (z : Int)) (z3 : z ≤ 300) (hT : ∀ j, j < z → (hI h 29 j).toInt = T j ∧ 0 ≤ T j ∧ T j ≤ 255) {L : List Pl} {r : Option (Nat × Nat)} (P : Prs T z n L r 0) (hL : 8 * L.length ≤ z) : ∃ hM, oSp G mX6_plans [.ref 12] h (some (.int (rtC 0 L.length r))) hM ∧ mlF L r h hM := by
  have hs0 : oSh (iH h) := hs
  have tp0 : tpM (iH h) z T := ⟨hz, z3, fun j hj => by rw [iH_o (by omega)]; exact hT j hj⟩
  have hLb := Prs_b L (Nat.zero_le z) P
  obtain ⟨h1, sp, f1, f2, f3, f4, f5, f6, f7, f8⟩ := stT G hs0 tp0 (Nat.zero_le z) (q := 0) rfl
  have hs1 : oSh h1 := ⟨by rw [f5]; exact hs.1, fun r hr => by rw [f6]; exact hs.2 r hr⟩
  have M : mS h1 z T n 0 0 := ⟨hs1, tp0.fr (f8 12 31 (by omega)) (fun j => f8 29 j (by omega)), Nat.zero_le z, ⟨f1, f2, f3, f4⟩, by rw [f8 12 36 (by omega)]; rfl, by rw [f8 12 1 (by omega), iH_o (by omega)]; exact hn, h24, by rw [f8 12 38 (by omega)]; rfl, by decide⟩
  obtain ⟨hf, p, g1, g2, g3, g4, -, g6⟩ := m_run G L M (by omega) P
  have hs2 : oSh hf := ⟨by rw [g1]; exact hs1.1, fun r hr => by rw [g2]; exact hs1.2 r hr⟩
  have n1 : h1.1 = h.1 := f5
  have fr : ∀ a y, ¬ (a = 12 ∧ (y = 0 ∨ (29 ≤ y ∧ y ≤ 38))) → ¬ (30 ≤ a ∧ a ≤ 33) → hI hf a y = hI h a y := fun a y c1 c2 => by rw [g4 a y (by omega) c2, f8 a y (by omega), iH_o (by omega)]
  have e29 : hI hf 12 29 = 0 := by rw [g4 12 29 (by omega) (by omega), f8 12 29 (by omega)]; rfl
  have e30 : hI hf 12 30 = hI h 12 30 := by rw [g4 12 30 (by omega) (by omega), f8 12 30 (by omega), iH_o (by omega)]
  cases r with
  | some e =>
    obtain ⟨d1, d2⟩ := g6
    have hff := Prs_f L P
    refine ⟨_, mp_f G hs sp n1 hs1 p hs2 (s0 := e.2) (by omega) (kI_e d2), g1.trans n1, fun a y => (g2 a y).trans (f6 a y), fun a y => (g3 a y).trans (f7 a y), ?_, ?_, fun a y c1 c2 c3 => ?_, fun i => ?_⟩
    · rw [sI_ne (by omega), e29]
      rfl
    · show (hI (sI hf 12 30 (hI hf 12 36)) 12 30).toInt = (e.1 : Int)
      rw [sI_eq ⟨rfl, rfl⟩]
      exact d1
    · rw [sI_ne (by omega)]
      exact fr a y c1 c3
    · show (hI (sI hf 12 30 (hI hf 12 36)) 24 i, hI (sI hf 12 30 (hI hf 12 36)) 25 i, hI (sI hf 12 30 (hI hf 12 36)) 26 i) = _
      rw [sI_ne (by omega), sI_ne (by omega), sI_ne (by omega), fr 24 i (by omega) (by omega), fr 25 i (by omega) (by omega), fr 26 i (by omega) (by omega)]
  | none =>
    obtain ⟨d1, d2, d3⟩ := g6
    have sp2 := mp_t G hs sp n1 hs1 p hs2 (L := L) d1 rfl d2 (by omega) d3 (fun x hx => Nat.lt_of_lt_of_le (hLb x hx).1 h24)
    have ev : rtC 0 L.length none = hI hf 12 38 := Int32.toInt_inj.mp (by
      show (0 + kI L.length : Int32).toInt = _
      rw [Int32.zero_add, kI_t (by omega), d2]
      omega)
    refine ⟨_, sp2.ri ev, (apH_n L hf).trans (g1.trans n1), fun a y => (apH_R L hf).trans ((g2 a y).trans (f6 a y)), fun a y => (apH_J L hf).trans ((g3 a y).trans (f7 a y)), ?_, ?_, fun a y c1 c2 c3 => ?_, fun i => ?_⟩
    · rw [apH_o L hf (Or.inl (by omega)), e29]
      rfl
    · show hI (apH hf L) 12 30 = hI h 12 30
      rw [apH_o L hf (Or.inl (by omega))]
      exact e30
    · rw [apH_o L hf (Or.inl c2)]
      exact fr a y c1 c3
    · show (hI (apH hf L) 24 i, hI (apH hf L) 25 i, hI (apH hf L) 26 i) = plF L i _
      rw [apH_p, fr 24 i (by omega) (by omega), fr 25 i (by omega) (by omega), fr 26 i (by omega) (by omega)]
def rwF (L : List Pl) (r : Option (Nat × Nat)) (i : Nat) (d : Int32 × Int32 × Int32) : Int32 × Int32 × Int32 := match r with
  | none => plF L i d
  | some _ => d
theorem rw_e {L : List Pl} {r : Option (Nat × Nat)} {h hC hM : oH} {i : Nat} (b7 : ∀ i, (hI hM 24 i, hI hM 25 i, hI hM 26 i) = (match r with | none => plF L i (hI hC 24 i, hI hC 25 i, hI hC 26 i) | some _ => (hI hC 24 i, hI hC 25 i, hI hC 26 i))) (w1 : hI hC 24 i = hI h 24 i) (w2 : hI hC 25 i = hI h 25 i) (w3 : hI hC 26 i = hI h 26 i) : (hI hM 24 i, hI hM 25 i, hI hM 26 i) = rwF L r i (hI h 24 i, hI h 25 i, hI h 26 i) := by
  rw [← w1, ← w2, ← w3]
  have e := b7 i
  cases r with
  | none => exact e
  | some ev => exact e
theorem pw_e {L : List Pl} {r : Option (Nat × Nat)} {h hC : oH} {i : Nat} (a7 : ∀ i, (hI hC (pid i) 0, hI hC (pid i) 1, hI hC (pid i) 2) = (match r with | none => plF L i (hI h (pid i) 0, hI h (pid i) 1, hI h (pid i) 2) | some _ => (hI h (pid i) 0, hI h (pid i) 1, hI h (pid i) 2))) : (hI hC (pid i) 0, hI hC (pid i) 1, hI hC (pid i) 2) = rwF L r i (hI h (pid i) 0, hI h (pid i) 1, hI h (pid i) 2) := by
  have e := a7 i
  cases r with
  | none => exact e
  | some ev => exact e
set_option maxHeartbeats 4000000 in
set_option maxRecDepth 100000 in
theorem case_plans (G : oG) {h : oH} {n T : Nat} (I : Inv h n T) : Case G mX5_plans mX6_plans [] h n T := by
  obtain ⟨i1, i2, i3, i4, i5, i6, i7, i8⟩ := id I
  obtain ⟨t0, z, z3, hz1, hz2, hb⟩ := i5
  have h24 := i1.2.2.1
  obtain ⟨L, r, P, hL⟩ := Prs_ex (T := fun j => (hI h 29 j).toInt) (z := z) (n := n) z 0 (Nat.zero_le z) (by omega)
  have hL2 : 8 * L.length ≤ z := by omega
  have tp : tpC h z (fun j => (hI h 29 j).toInt) := ⟨hz1, z3, fun j hj => ⟨congrArg Int32.toInt (hb j hj).2, (hb j hj).1⟩⟩
  have hLb := Prs_b L (Nat.zero_le z) P
  obtain ⟨hC, spC, a1, a2, a3, a4, a5, a6, a7⟩ := c_plans G i1 tp P hL2
  have c0 : ∀ a y, a < 35 → a ≠ 8 → hI hC a y = hI h a y := fun a y q1 q2 => a6 a y q2 (fun i q => by have := pid_8 i; omega)
  obtain ⟨hM, spM, b1, b2, b3, b4, b5, b6, b7⟩ := m_plans G (i1.1.f8 a1 a2) (n := n) (z := z) (T := fun j => (hI h 29 j).toInt) (by rw [c0 12 1 (by decide) (by decide)]; exact i2.2) h24 (by rw [c0 12 29 (by decide) (by decide)]; exact hz2) z3 (fun j hj => ⟨by rw [c0 29 j (by decide) (by decide)], (hb j hj).1⟩) P hL2
  have o : ∀ a y, a ≠ 8 → ¬ (a = 12 ∧ (y = 0 ∨ (29 ≤ y ∧ y ≤ 38))) → ¬ (24 ≤ a ∧ a ≤ 26) → ¬ (30 ≤ a ∧ a ≤ 33) → (∀ i, a = pid i → 2 < y) → hI hM a y = hI h a y := fun a y q1 q2 q3 q4 q5 => (b6 a y q2 q3 q4).trans (a6 a y q1 q5)
  have oh : ∀ a y, a < 35 → a ≠ 8 → ¬ (a = 12 ∧ (y = 0 ∨ (29 ≤ y ∧ y ≤ 38))) → ¬ (24 ≤ a ∧ a ≤ 26) → ¬ (30 ≤ a ∧ a ≤ 33) → hI hM a y = hI h a y := fun a y q0 q1 q2 q3 q4 => o a y q1 q2 q3 q4 (fun i q => by have := pid_8 i; omega)
  have rows : ∀ i, (hI hM 24 i, hI hM 25 i, hI hM 26 i) = rwF L r i (hI h 24 i, hI h 25 i, hI h 26 i) := fun i => rw_e b7 (c0 24 i (by decide) (by decide)) (c0 25 i (by decide) (by decide)) (c0 26 i (by decide) (by decide))
  have pids : ∀ i, (hI hM (pid i) 0, hI hM (pid i) 1, hI hM (pid i) 2) = rwF L r i (hI h (pid i) 0, hI h (pid i) 1, hI h (pid i) 2) := fun i => by
    have p8 := pid_8 i
    rw [b6 (pid i) 0 (by omega) (by omega) (by omega), b6 (pid i) 1 (by omega) (by omega) (by omega), b6 (pid i) 2 (by omega) (by omega) (by omega)]
    exact pw_e a7
  have rb : ∀ i, i < n → PB (hI hM 24 i, hI hM 25 i, hI hM 26 i) := fun i hi => by
    obtain ⟨-, -, -, -, -, -, -, -, -, -, -, -, -, p1, p2, p3, p4⟩ := (i4 i hi).2
    have pd : PB (hI h 24 i, hI h 25 i, hI h 26 i) := ⟨p1, p2, p3, p4⟩
    rw [rows i]
    cases r with
    | none => exact plF_b L (fun x hx => (hLb x hx).2) pd
    | some e => exact pd
  refine ⟨_, hC, hM, n, spC, spM, i1.f8 (b1.trans a1) (fun a k q => (b2 a k).trans (a2 a k q)), ⟨by rw [oh 0 4 (by decide) (by decide) (by decide) (by decide) (by decide)]; exact i2.1, by rw [oh 12 1 (by decide) (by decide) (by decide) (by decide) (by decide)]; exact i2.2⟩, ?_, fun i hi => ⟨?_, ?_⟩, ?_, i6.fr (fun a k ha => oh a k (by omega) (by omega) (by omega) (by omega) (by omega)) (oh 12 44 (by decide) (by decide) (by decide) (by decide) (by decide)), i7.fr (Nat.le_refl _) (fun j _ => oh 13 j (by decide) (by decide) (by omega) (by decide) (by decide)) (fun j _ => oh 14 j (by decide) (by decide) (by omega) (by decide) (by decide)) (fun a k ha => oh a k (by omega) (by omega) (by omega) (by omega) (by omega)), fun a k q1 q2 q3 q4 => ?_⟩
  · have i3' := i3.mono (Nat.le_succ T)
    have ej : ∀ a k, hJ hM a k = hJ h a k := fun a k => (b3 a k).trans (a3 a k)
    unfold oSc at i3' ⊢
    simp only [ej, oh 0 5 (by decide) (by decide) (by decide) (by decide) (by decide), oh 0 6 (by decide) (by decide) (by decide) (by decide) (by decide), oh 0 7 (by decide) (by decide) (by decide) (by decide) (by decide), oh 0 8 (by decide) (by decide) (by decide) (by decide) (by decide), oh 0 9 (by decide) (by decide) (by decide) (by decide) (by decide), oh 0 10 (by decide) (by decide) (by decide) (by decide) (by decide), oh 12 16 (by decide) (by decide) (by decide) (by decide) (by decide), oh 12 17 (by decide) (by decide) (by decide) (by decide) (by decide), oh 12 18 (by decide) (by decide) (by decide) (by decide) (by decide), oh 12 19 (by decide) (by decide) (by decide) (by decide) (by decide), oh 12 20 (by decide) (by decide) (by decide) (by decide) (by decide), oh 12 21 (by decide) (by decide) (by decide) (by decide) (by decide)]
    exact i3'
  · have q := (i4 i hi).1
    have hg := hid_ge i
    have ex : ∀ k, hI hM (hid i) k = hI h (hid i) k := fun k => o (hid i) k (by omega) (by omega) (by omega) (by omega) (fun j e => by unfold hid pid at e; omega)
    have er : ∀ a, 13 ≤ a → a ≤ 23 → ∀ k, hI hM a k = hI h a k := fun a q1 q2 k => oh a k (by omega) (by omega) (by omega) (by omega) (by omega)
    unfold oHe at q ⊢
    simp only [ex, er 13 (by decide) (by decide), er 14 (by decide) (by decide), er 15 (by decide) (by decide), er 16 (by decide) (by decide), er 17 (by decide) (by decide), er 18 (by decide) (by decide), er 19 (by decide) (by decide), er 20 (by decide) (by decide), er 21 (by decide) (by decide), er 22 (by decide) (by decide), er 23 (by decide) (by decide)]
    obtain ⟨q1, q2, q3, q4, q5, q6, q7, q8, q9, q10, q11, q12, q13, q14, q15, q16, q17⟩ := q
    have e := (pids i).trans (by rw [q15, q16, q17]) |>.trans (rows i).symm
    exact ⟨q1, q2, q3, q4, q5, q6, q7, q8, q9, q10, q11, q12, q13, q14, congrArg (fun d : Int32 × Int32 × Int32 => d.1) e, congrArg (fun d : Int32 × Int32 × Int32 => d.2.1) e, congrArg (fun d : Int32 × Int32 × Int32 => d.2.2) e⟩
  · have q := ((i4 i hi).2).mono (Nat.le_succ T)
    have er : ∀ a, 13 ≤ a → a ≤ 23 → ∀ k, hI hM a k = hI h a k := fun a q1 q2 k => oh a k (by omega) (by omega) (by omega) (by omega) (by omega)
    obtain ⟨p1, p2, p3, p4⟩ := rb i hi
    unfold oHb at q ⊢
    simp only [er 13 (by decide) (by decide), er 14 (by decide) (by decide), er 15 (by decide) (by decide), er 16 (by decide) (by decide), er 17 (by decide) (by decide), er 18 (by decide) (by decide), er 19 (by decide) (by decide), er 20 (by decide) (by decide), er 21 (by decide) (by decide), er 22 (by decide) (by decide), er 23 (by decide) (by decide)]
    obtain ⟨q1, q2, q3, q4, q5, q6, q7, q8, q9, q10, q11, q12, q13, -⟩ := q
    exact ⟨q1, q2, q3, q4, q5, q6, q7, q8, q9, q10, q11, q12, q13, p1, p2, p3, p4⟩
  · refine ⟨?_, 0, by decide, ?_, b4, fun j hj => absurd hj (Nat.not_lt_zero j)⟩
    · have e8 : hI hM 8 2 = hI hC 8 2 := b6 8 2 (by decide) (by decide) (by decide)
      have e30 : hI hC 12 30 = hI h 12 30 := c0 12 30 (by decide) (by decide)
      rw [e8]
      rw [e30] at b5
      cases r with
      | none => exact (show hI hC 8 2 = hI h 8 2 from a5).trans (t0.trans (show hI hM 12 30 = hI h 12 30 from b5).symm)
      | some e => exact Int32.toInt_inj.mp ((show (hI hC 8 2).toInt = (e.1 : Int) from a5).trans (show (hI hM 12 30).toInt = (e.1 : Int) from b5).symm)
    · rw [b6 8 1 (by decide) (by decide) (by decide), a4]
      rfl
  · by_cases c1 : a ≤ 23
    · rw [oh a k (by omega) (by omega) (by omega) (by omega) (by omega)]
      exact i8 a k q1 q2 q3 q4
    · have e := rows k
      have e2 : rwF L r k (hI h 24 k, hI h 25 k, hI h 26 k) = (hI h 24 k, hI h 25 k, hI h 26 k) := by
        cases r with
        | none => exact plF_no L (fun x hx => by have := (hLb x hx).1; omega)
        | some e => rfl
      rw [e2] at e
      have w1 := congrArg (fun d : Int32 × Int32 × Int32 => d.1) e
      have w2 := congrArg (fun d : Int32 × Int32 × Int32 => d.2.1) e
      have w3 := congrArg (fun d : Int32 × Int32 × Int32 => d.2.2) e
      have z1 := i8 24 k (by decide) (by decide) q3 q4
      have z2 := i8 25 k (by decide) (by decide) q3 q4
      have z3' := i8 26 k (by decide) (by decide) q3 q4
      rcases (show a = 24 ∨ a = 25 ∨ a = 26 by omega) with e3 | e3 | e3
      · rw [e3]
        exact w1.trans z1
      · rw [e3]
        exact w2.trans z2
      · rw [e3]
        exact w3.trans z3'

