/-! what changes one house alone; the trace -/
theorem oHe.fj {h h' : oH} {j : Nat} (q : oHe h j) (e : ∀ a k, (a = hid j ∨ a = pid j ∨ (13 ≤ a ∧ a ≤ 26 ∧ a ≠ 16 ∧ k = j) ∨ (a = 16 ∧ 4 * j ≤ k ∧ k ≤ 4 * j + 3)) → hI h' a k = hI h a k) : oHe h' j := by
  unfold oHe at q ⊢
  have e1 : ∀ k, hI h' (hid j) k = hI h (hid j) k := fun k => e _ k (Or.inl rfl)
  have e2 : ∀ k, hI h' (pid j) k = hI h (pid j) k := fun k => e _ k (Or.inr (Or.inl rfl))
  have e3 : ∀ a, 13 ≤ a → a ≤ 26 → a ≠ 16 → hI h' a j = hI h a j := fun a l1 l2 l3 => e a j (Or.inr (Or.inr (Or.inl ⟨l1, l2, l3, rfl⟩)))
  have e4 : ∀ k, 4 * j ≤ k → k ≤ 4 * j + 3 → hI h' 16 k = hI h 16 k := fun k l1 l2 => e 16 k (Or.inr (Or.inr (Or.inr ⟨rfl, l1, l2⟩)))
  simp only [e1, e2, e3 13 (by decide) (by decide) (by decide), e3 14 (by decide) (by decide) (by decide), e3 15 (by decide) (by decide) (by decide), e3 17 (by decide) (by decide) (by decide), e3 18 (by decide) (by decide) (by decide), e3 19 (by decide) (by decide) (by decide), e3 20 (by decide) (by decide) (by decide), e3 21 (by decide) (by decide) (by decide), e3 22 (by decide) (by decide) (by decide), e3 23 (by decide) (by decide) (by decide), e3 24 (by decide) (by decide) (by decide), e3 25 (by decide) (by decide) (by decide), e3 26 (by decide) (by decide) (by decide), e4 (4 * j) (by omega) (by omega), e4 (4 * j + 1) (by omega) (by omega), e4 (4 * j + 2) (by omega) (by omega), e4 (4 * j + 3) (by omega) (by omega)]
  exact q
theorem oHb.fj {h h' : oH} {j T : Nat} (q : oHb h j T) (e : ∀ a k, ((13 ≤ a ∧ a ≤ 26 ∧ a ≠ 16 ∧ k = j) ∨ (a = 16 ∧ 4 * j ≤ k ∧ k ≤ 4 * j + 3)) → hI h' a k = hI h a k) : oHb h' j T := by
  unfold oHb at q ⊢
  have e3 : ∀ a, 13 ≤ a → a ≤ 26 → a ≠ 16 → hI h' a j = hI h a j := fun a l1 l2 l3 => e a j (Or.inl ⟨l1, l2, l3, rfl⟩)
  have e4 : ∀ k, 4 * j ≤ k → k ≤ 4 * j + 3 → hI h' 16 k = hI h 16 k := fun k l1 l2 => e 16 k (Or.inr ⟨rfl, l1, l2⟩)
  simp only [e3 13 (by decide) (by decide) (by decide), e3 14 (by decide) (by decide) (by decide), e3 15 (by decide) (by decide) (by decide), e3 17 (by decide) (by decide) (by decide), e3 18 (by decide) (by decide) (by decide), e3 19 (by decide) (by decide) (by decide), e3 20 (by decide) (by decide) (by decide), e3 21 (by decide) (by decide) (by decide), e3 22 (by decide) (by decide) (by decide), e3 23 (by decide) (by decide) (by decide), e3 24 (by decide) (by decide) (by decide), e3 25 (by decide) (by decide) (by decide), e3 26 (by decide) (by decide) (by decide), e4 (4 * j) (by omega) (by omega), e4 (4 * j + 1) (by omega) (by omega), e4 (4 * j + 2) (by omega) (by omega), e4 (4 * j + 3) (by omega) (by omega)]
  exact q
/-- one house, and numbers of the two objects themselves -/
theorem Inv.hx {h h' : oH} {n T T' i : Nat} (I : Inv h n T) (hi : i < n) (hT : T ≤ T') (en : h'.1 = h.1) (er : ∀ a k, hR h' a k = hR h a k)
    (e : ∀ a k, a ≠ 0 → a ≠ 12 → a ≠ hid i → a ≠ pid i → ¬ (17 ≤ a ∧ a ≤ 26 ∧ k = i) → ¬ (a = 16 ∧ 4 * i ≤ k ∧ k ≤ 4 * i + 3) → hI h' a k = hI h a k)
    (e0 : hI h' 0 4 = hI h 0 4) (e1 : hI h' 12 1 = hI h 12 1) (e2 : hI h' 12 29 = hI h 12 29) (e3 : hI h' 12 30 = hI h 12 30) (e4 : hI h' 12 44 = hI h 12 44) (s : oSc h' T') (qe : oHe h' i) (qb : oHb h' i T') : Inv h' n T' := by
  obtain ⟨i1, i2, i3, i4, i5, i6, i7, i8⟩ := I
  refine ⟨i1.fr en er, ⟨by rw [e0]; exact i2.1, by rw [e1]; exact i2.2⟩, s, fun j hj => ?_, i5.fr (fun a k ha => e a k ?_ ?_ ?_ ?_ ?_ ?_) e2 e3, i6.fr (fun a k ha => e a k ?_ ?_ ?_ ?_ ?_ ?_) e4, i7.fr (Nat.le_refl _) (fun j _ => e 13 j ?_ ?_ ?_ ?_ ?_ ?_) (fun j _ => e 14 j ?_ ?_ ?_ ?_ ?_ ?_) (fun a k ha => e a k ?_ ?_ ?_ ?_ ?_ ?_), i8.fr (Nat.le_refl _) (fun a k ha hb hc => e a k ?_ ?_ ?_ ?_ ?_ ?_)⟩
  · by_cases hji : j = i
    · subst hji
      exact ⟨qe, qb⟩
    · refine ⟨(i4 j hj).1.fj (fun a k ha => e a k ?_ ?_ ?_ ?_ ?_ ?_), ((i4 j hj).2.fj (fun a k ha => e a k ?_ ?_ ?_ ?_ ?_ ?_)).mono hT⟩ <;> (unfold hid pid at *) <;> omega
  all_goals ((try unfold hid pid at *) <;> omega)
theorem Inv.asx {h h' : oH} {n T T' : Nat} (I : Inv h n T) (hT : T ≤ T') (en : h'.1 = h.1) (er : ∀ a k, hR h' a k = hR h a k) (ej : ∀ a k, hJ h' a k = hJ h a k)
    (e : ∀ a k, a ≠ 10 → a ≠ 11 → a ≠ 34 → a ≠ 12 → hI h' a k = hI h a k) (e5 : ∀ k, k ≠ 0 → k ≠ 44 → hI h' 12 k = hI h 12 k) (q : oAs h') : Inv h' n T' := by
  obtain ⟨i1, i2, i3, i4, i5, i6, i7, i8⟩ := I
  refine ⟨i1.fr en er, ⟨by rw [e 0 4 (by decide) (by decide) (by decide) (by decide)]; exact i2.1, by rw [e5 1 (by decide) (by decide)]; exact i2.2⟩, ?_, fun j hj => ⟨(i4 j hj).1.fr (fun a k ha => e a k ?_ ?_ ?_ ?_), ((i4 j hj).2.fr (fun a k ha => e a k ?_ ?_ ?_ ?_)).mono hT⟩, i5.fr (fun a k ha => e a k ?_ ?_ ?_ ?_) (e5 _ (by decide) (by decide)) (e5 _ (by decide) (by decide)), q, i7.fr (Nat.le_refl _) (fun j _ => e 13 j ?_ ?_ ?_ ?_) (fun j _ => e 14 j ?_ ?_ ?_ ?_) (fun a k ha => e a k ?_ ?_ ?_ ?_), i8.fr (Nat.le_refl _) (fun a k ha hb hc => e a k ?_ ?_ ?_ ?_)⟩
  · have i3' := i3.mono hT
    unfold oSc at i3' ⊢
    have f0 : ∀ k, hI h' 0 k = hI h 0 k := fun k => e 0 k (by decide) (by decide) (by decide) (by decide)
    simp only [ej, f0, e5 16 (by decide) (by decide), e5 17 (by decide) (by decide), e5 18 (by decide) (by decide), e5 19 (by decide) (by decide), e5 20 (by decide) (by decide), e5 21 (by decide) (by decide)]
    exact i3'
  all_goals ((try unfold hid pid at *) <;> omega)
theorem eE {h : oH} {i k : Nat} {v : Int32} : hI (sI h 10 1 v) (hid i) k = hI h (hid i) k := by
  rw [hI_sI, if_neg (by unfold hid; omega)]
theorem tk_E {h : oH} {i : Nat} {v : Int32} : tkC (sI h 10 1 v) (hid i) = tkC h (hid i) := by
  unfold tkC
  simp only [eE]
set_option maxHeartbeats 4000000 in
set_option maxRecDepth 100000 in
theorem c_ask00 (G : oG) {h : oH} {n : Nat} (hh : oHs h n) (v : Int32) {i : Nat} (hi : i < n) (hv : v.toInt = (i : Int)) (x : Int32) (hx : x.toInt = 0) (hk : tkC h (hid i) = 0) : oSp G mX5_ask [.ref 0, .int v, .int x] h (some (.int (hI h (hid i) 8 - hI h (hid i) 9))) (pC (sI h 10 1 0) 0 10) := by
  have hs := hh.1
  refine oSp.intro [some (.ref 0), some (.int v), some (.int x), none] rfl (Nat.le_of_ble_eq_true rfl) (plainFor_of_name (by decide +kernel)) (Nat.le_refl _) ?_
  intro p l e R s m args below meth c C
  refine r_aload_n C rfl rfl dX5_ask_0 ?_
  refine r_iload_n C rfl dX5_ask_1 ?_
  refine r_callV C (sp_houseAt G (by exact hh) _ hi hv) kv_X5_houseAt kn_X5_houseAt rfl dX5_ask_2 cl_X5_77 ⟨Nat.le_of_ble_eq_true rfl, Nat.le_of_ble_eq_true rfl⟩ (by decide) rfl rfl (q_lt hh.1 (by decide)) (Nat.le_refl _) rfl (Nat.le_of_ble_eq_true rfl) ?_
  refine r_astore_n C rfl rfl (Nat.le_of_ble_eq_true rfl) dX5_ask_5 ?_
  refine r_aload_n C rfl rfl dX5_ask_6 ?_
  refine r_ifnull C dX5_ask_7 ?_
  refine r_iload_n C rfl dX5_ask_10 ?_
  refine r_iconstv C 0 rfl dX5_ask_11 ?_
  refine r_iconstv C 1 rfl dX5_ask_12 ?_
  refine r_callS C (sp_isOutside G hx (show (0 : Int32).toInt = 0 from rfl) (show (1 : Int32).toInt = 1 from rfl)) ks_X5_isOutside kn_X5_isOutside rfl dX5_ask_13 cl_X5_68 ⟨Nat.le_of_ble_eq_true rfl, Nat.le_of_ble_eq_true rfl⟩ (Nat.le_refl _) rfl (Nat.le_of_ble_eq_true rfl) ?_
  refine t_ifb_eq C 22 (by decide) dX5_ask_16 (fun c16 => ?_) (fun c16 => ?_)
  · first
    | (exfalso; omega)
    |  (refine r_aload_n C rfl rfl dX5_ask_22 ?_
        refine r_getO C dX5_ask_23 fl_X5_32 rfl rfl (q_lt hh.1 (by decide)) (sh_0_3 hh.1) ?_
        refine r_callV C (sp_empty G (by exact hs)) kv_X0_emptyTrace kn_X0_emptyTrace rfl dX5_ask_26 cl_X5_198 ⟨Nat.le_of_ble_eq_true rfl, Nat.le_of_ble_eq_true rfl⟩ (by decide) rfl rfl (q_lt hh.1 (by decide)) (Nat.le_refl _) rfl (Nat.le_of_ble_eq_true rfl) ?_
        refine r_iload_n C rfl dX5_ask_29 ?_
        refine t_if_ne C 44 (by decide) hx dX5_ask_30 (fun c30 => ?_) (fun c30 => ?_)
        · first
          | (exfalso; omega)
        · first
          | (exfalso; omega)
          |  (refine r_aload_n C rfl rfl dX5_ask_33 ?_
              refine r_getO C dX5_ask_34 fl_X5_32 rfl rfl (q_lt hh.1 (by decide)) (sh_0_3 hh.1) ?_
              refine r_aload_n C rfl rfl dX5_ask_37 ?_
              refine r_callV C (sp_weight0 G (z := 0) (by exact hh.1) (tg_hid i) (oHs.lt (by exact hh) hi) (by unfold hid; omega) (by exact rfl) (by decide) (by rw [tk_E]; exact hk)) kv_X0_weight kn_X0_weight rfl dX5_ask_38 cl_X5_201 ⟨Nat.le_of_ble_eq_true rfl, Nat.le_of_ble_eq_true rfl⟩ (by decide) rfl rfl (q_lt hh.1 (by decide)) (Nat.le_refl _) rfl (Nat.le_of_ble_eq_true rfl) ?_
              refine r_goto C 52 (by decide) dX5_ask_41 ?_
              exact r_iret C dX5_ask_52 rfl (Nat.le_refl _) (by simp only [eE]) rfl))
  · first
    | (exfalso; omega)
    |  (refine r_ldc C _ lc_X5_72 dX5_ask_19 ?_
        exact r_iret C dX5_ask_21 rfl (Nat.le_refl _) (by simp only [eE]) rfl)

set_option maxHeartbeats 4000000 in
set_option maxRecDepth 100000 in
theorem m_ask00 (G : oG) {h : oH} (hs : oSh h) {n : Nat} (hn : (hI h 12 1).toInt = (n : Int)) (hn24 : n ≤ 24) (v : Int32) {i : Nat} (hi : i < n) (hv : v.toInt = (i : Int)) (x : Int32) (hx : x.toInt = 0) (hk : kM h i = 0) : oSp G mX6_ask [.ref 12, .int v, .int x] h (some (.int (hI h 17 i - hI h 18 i + 0 + 0))) (pM (sI (sI h 12 0 0) 12 44 0) 0 10) := by
  refine oSp.intro [some (.ref 12), some (.int v), some (.int x)] rfl (Nat.le_of_ble_eq_true rfl) (plainFor_of_name (by decide +kernel)) (Nat.le_refl _) ?_
  intro p l e R s m args below meth c C
  refine r_aload_n C rfl rfl dX6_ask_0 ?_
  refine r_iconstv C 0 rfl dX6_ask_1 ?_
  refine r_putI C dX6_ask_2 fl_X6_90 rfl (q_lt hs (by decide)) (Or.inl rfl) ?_
  refine r_aload_n C rfl rfl dX6_ask_5 ?_
  refine r_iload_n C rfl dX6_ask_6 ?_
  refine r_callV C (sp_isHouse G (by exact hs) (by exact hn) hn24 _) kv_X6_isHouse kn_X6_isHouse rfl dX6_ask_7 cl_X6_108 ⟨Nat.le_of_ble_eq_true rfl, Nat.le_of_ble_eq_true rfl⟩ (by decide) rfl rfl (q_lt hs (by decide)) (Nat.le_refl _) rfl (Nat.le_of_ble_eq_true rfl) ?_
  refine t_ifb_eq C 23 (by decide) dX6_ask_10 (fun c10 => ?_) (fun c10 => ?_)
  · first
    | (exfalso; omega)
    |  (refine r_ldc C _ lc_X6_106 dX6_ask_23 ?_
        exact r_iret C dX6_ask_25 rfl (Nat.le_refl _) rfl rfl)
  · first
    | (exfalso; omega)
    |  (refine r_iload_n C rfl dX6_ask_13 ?_
        refine r_i2l C dX6_ask_14 ?_
        refine r_lconst C 0 rfl dX6_ask_15 ?_
        refine r_lconst C 1 rfl dX6_ask_16 ?_
        refine r_callS C (sp_in G (tI2L hx) (show (0 : Int64).toInt = 0 from rfl) (show (1 : Int64).toInt = 1 from rfl)) ks_X6_in kn_X6_in rfl dX6_ask_17 cl_X6_96 ⟨Nat.le_of_ble_eq_true rfl, Nat.le_of_ble_eq_true rfl⟩ (Nat.le_refl _) rfl (Nat.le_of_ble_eq_true rfl) ?_
        refine t_ifb_ne C 26 (by decide) dX6_ask_20 (fun c20 => ?_) (fun c20 => ?_)
        · first
          | (exfalso; omega)
          |  (refine r_aload_n C rfl rfl dX6_ask_26 ?_
              refine r_iconstv C 0 rfl dX6_ask_27 ?_
              refine r_putI C dX6_ask_28 fl_X6_281 rfl (q_lt hs (by decide)) (Or.inl rfl) ?_
              refine r_iload_n C rfl dX6_ask_31 ?_
              refine t_if_ne C 43 (by decide) hx dX6_ask_32 (fun c32 => ?_) (fun c32 => ?_)
              · first
                | (exfalso; omega)
              · first
                | (exfalso; omega)
                |  (refine r_aload_n C rfl rfl dX6_ask_35 ?_
                    refine r_iload_n C rfl dX6_ask_36 ?_
                    refine r_callV C (sp_weightM0 G (z := 0) (by exact hs) _ hv (by omega) (by exact rfl) (by decide) (by exact hk)) kv_X6_weight kn_X6_weight rfl dX6_ask_37 cl_X6_287 ⟨Nat.le_of_ble_eq_true rfl, Nat.le_of_ble_eq_true rfl⟩ (by decide) rfl rfl (q_lt hs (by decide)) (Nat.le_refl _) rfl (Nat.le_of_ble_eq_true rfl) ?_
                    refine r_goto C 48 (by decide) dX6_ask_40 ?_
                    exact r_iret C dX6_ask_48 rfl (Nat.le_refl _) rfl rfl))
        · first
          | (exfalso; omega)
          |  (refine r_ldc C _ lc_X6_106 dX6_ask_23 ?_
              exact r_iret C dX6_ask_25 rfl (Nat.le_refl _) rfl rfl))

set_option maxHeartbeats 4000000 in
set_option maxRecDepth 100000 in
theorem c_ask10 (G : oG) {h : oH} {n : Nat} (hh : oHs h n) (v : Int32) {i : Nat} (hi : i < n) (hv : v.toInt = (i : Int)) (x : Int32) (hx : x.toInt = 1) (hk : tkC h (hid i) = 0) : oSp G mX5_ask [.ref 0, .int v, .int x] h (some (.int (hI h (hid i) 2))) (pC (sI h 10 1 0) 0 20) := by
  have hs := hh.1
  refine oSp.intro [some (.ref 0), some (.int v), some (.int x), none] rfl (Nat.le_of_ble_eq_true rfl) (plainFor_of_name (by decide +kernel)) (Nat.le_refl _) ?_
  intro p l e R s m args below meth c C
  refine r_aload_n C rfl rfl dX5_ask_0 ?_
  refine r_iload_n C rfl dX5_ask_1 ?_
  refine r_callV C (sp_houseAt G (by exact hh) _ hi hv) kv_X5_houseAt kn_X5_houseAt rfl dX5_ask_2 cl_X5_77 ⟨Nat.le_of_ble_eq_true rfl, Nat.le_of_ble_eq_true rfl⟩ (by decide) rfl rfl (q_lt hh.1 (by decide)) (Nat.le_refl _) rfl (Nat.le_of_ble_eq_true rfl) ?_
  refine r_astore_n C rfl rfl (Nat.le_of_ble_eq_true rfl) dX5_ask_5 ?_
  refine r_aload_n C rfl rfl dX5_ask_6 ?_
  refine r_ifnull C dX5_ask_7 ?_
  refine r_iload_n C rfl dX5_ask_10 ?_
  refine r_iconstv C 0 rfl dX5_ask_11 ?_
  refine r_iconstv C 1 rfl dX5_ask_12 ?_
  refine r_callS C (sp_isOutside G hx (show (0 : Int32).toInt = 0 from rfl) (show (1 : Int32).toInt = 1 from rfl)) ks_X5_isOutside kn_X5_isOutside rfl dX5_ask_13 cl_X5_68 ⟨Nat.le_of_ble_eq_true rfl, Nat.le_of_ble_eq_true rfl⟩ (Nat.le_refl _) rfl (Nat.le_of_ble_eq_true rfl) ?_
  refine t_ifb_eq C 22 (by decide) dX5_ask_16 (fun c16 => ?_) (fun c16 => ?_)
  · first
    | (exfalso; omega)
    |  (refine r_aload_n C rfl rfl dX5_ask_22 ?_
        refine r_getO C dX5_ask_23 fl_X5_32 rfl rfl (q_lt hh.1 (by decide)) (sh_0_3 hh.1) ?_
        refine r_callV C (sp_empty G (by exact hs)) kv_X0_emptyTrace kn_X0_emptyTrace rfl dX5_ask_26 cl_X5_198 ⟨Nat.le_of_ble_eq_true rfl, Nat.le_of_ble_eq_true rfl⟩ (by decide) rfl rfl (q_lt hh.1 (by decide)) (Nat.le_refl _) rfl (Nat.le_of_ble_eq_true rfl) ?_
        refine r_iload_n C rfl dX5_ask_29 ?_
        refine t_if_ne C 44 (by decide) hx dX5_ask_30 (fun c30 => ?_) (fun c30 => ?_)
        · first
          | (exfalso; omega)
          |  (refine r_aload_n C rfl rfl dX5_ask_44 ?_
              refine r_getO C dX5_ask_45 fl_X5_32 rfl rfl (q_lt hh.1 (by decide)) (sh_0_3 hh.1) ?_
              refine r_aload_n C rfl rfl dX5_ask_48 ?_
              refine r_callV C (sp_mark0 G (z := 0) (by exact hh.1) (tg_hid i) (oHs.lt (by exact hh) hi) (by unfold hid; omega) (by exact rfl) (by decide) (by rw [tk_E]; exact hk)) kv_X0_mark kn_X0_mark rfl dX5_ask_49 cl_X5_205 ⟨Nat.le_of_ble_eq_true rfl, Nat.le_of_ble_eq_true rfl⟩ (by decide) rfl rfl (q_lt hh.1 (by decide)) (Nat.le_refl _) rfl (Nat.le_of_ble_eq_true rfl) ?_
              exact r_iret C dX5_ask_52 rfl (Nat.le_refl _) (by simp only [eE]) rfl)
        · first
          | (exfalso; omega))
  · first
    | (exfalso; omega)
    |  (refine r_ldc C _ lc_X5_72 dX5_ask_19 ?_
        exact r_iret C dX5_ask_21 rfl (Nat.le_refl _) (by simp only [eE]) rfl)

set_option maxHeartbeats 4000000 in
set_option maxRecDepth 100000 in
theorem m_ask10 (G : oG) {h : oH} (hs : oSh h) {n : Nat} (hn : (hI h 12 1).toInt = (n : Int)) (hn24 : n ≤ 24) (v : Int32) {i : Nat} (hi : i < n) (hv : v.toInt = (i : Int)) (x : Int32) (hx : x.toInt = 1) (hk : kM h i = 0) : oSp G mX6_ask [.ref 12, .int v, .int x] h (some (.int (hI h 15 i + 0))) (pM (sI (sI h 12 0 0) 12 44 0) 0 20) := by
  refine oSp.intro [some (.ref 12), some (.int v), some (.int x)] rfl (Nat.le_of_ble_eq_true rfl) (plainFor_of_name (by decide +kernel)) (Nat.le_refl _) ?_
  intro p l e R s m args below meth c C
  refine r_aload_n C rfl rfl dX6_ask_0 ?_
  refine r_iconstv C 0 rfl dX6_ask_1 ?_
  refine r_putI C dX6_ask_2 fl_X6_90 rfl (q_lt hs (by decide)) (Or.inl rfl) ?_
  refine r_aload_n C rfl rfl dX6_ask_5 ?_
  refine r_iload_n C rfl dX6_ask_6 ?_
  refine r_callV C (sp_isHouse G (by exact hs) (by exact hn) hn24 _) kv_X6_isHouse kn_X6_isHouse rfl dX6_ask_7 cl_X6_108 ⟨Nat.le_of_ble_eq_true rfl, Nat.le_of_ble_eq_true rfl⟩ (by decide) rfl rfl (q_lt hs (by decide)) (Nat.le_refl _) rfl (Nat.le_of_ble_eq_true rfl) ?_
  refine t_ifb_eq C 23 (by decide) dX6_ask_10 (fun c10 => ?_) (fun c10 => ?_)
  · first
    | (exfalso; omega)
    |  (refine r_ldc C _ lc_X6_106 dX6_ask_23 ?_
        exact r_iret C dX6_ask_25 rfl (Nat.le_refl _) rfl rfl)
  · first
    | (exfalso; omega)
    |  (refine r_iload_n C rfl dX6_ask_13 ?_
        refine r_i2l C dX6_ask_14 ?_
        refine r_lconst C 0 rfl dX6_ask_15 ?_
        refine r_lconst C 1 rfl dX6_ask_16 ?_
        refine r_callS C (sp_in G (tI2L hx) (show (0 : Int64).toInt = 0 from rfl) (show (1 : Int64).toInt = 1 from rfl)) ks_X6_in kn_X6_in rfl dX6_ask_17 cl_X6_96 ⟨Nat.le_of_ble_eq_true rfl, Nat.le_of_ble_eq_true rfl⟩ (Nat.le_refl _) rfl (Nat.le_of_ble_eq_true rfl) ?_
        refine t_ifb_ne C 26 (by decide) dX6_ask_20 (fun c20 => ?_) (fun c20 => ?_)
        · first
          | (exfalso; omega)
          |  (refine r_aload_n C rfl rfl dX6_ask_26 ?_
              refine r_iconstv C 0 rfl dX6_ask_27 ?_
              refine r_putI C dX6_ask_28 fl_X6_281 rfl (q_lt hs (by decide)) (Or.inl rfl) ?_
              refine r_iload_n C rfl dX6_ask_31 ?_
              refine t_if_ne C 43 (by decide) hx dX6_ask_32 (fun c32 => ?_) (fun c32 => ?_)
              · first
                | (exfalso; omega)
                |  (refine r_aload_n C rfl rfl dX6_ask_43 ?_
                    refine r_iload_n C rfl dX6_ask_44 ?_
                    refine r_callV C (sp_marked0 G (z := 0) (by exact hs) _ hv (by omega) (by exact rfl) (by decide) (by exact hk)) kv_X6_marked kn_X6_marked rfl dX6_ask_45 cl_X6_290 ⟨Nat.le_of_ble_eq_true rfl, Nat.le_of_ble_eq_true rfl⟩ (by decide) rfl rfl (q_lt hs (by decide)) (Nat.le_refl _) rfl (Nat.le_of_ble_eq_true rfl) ?_
                    exact r_iret C dX6_ask_48 rfl (Nat.le_refl _) rfl rfl)
              · first
                | (exfalso; omega))
        · first
          | (exfalso; omega)
          |  (refine r_ldc C _ lc_X6_106 dX6_ask_23 ?_
              exact r_iret C dX6_ask_25 rfl (Nat.le_refl _) rfl rfl))

set_option maxHeartbeats 4000000 in
set_option maxRecDepth 100000 in
theorem c_ask01 (G : oG) {h : oH} {n : Nat} (hh : oHs h n) (v : Int32) {i : Nat} (hi : i < n) (hv : v.toInt = (i : Int)) (x : Int32) (hx : x.toInt = 0) (hk : tkC h (hid i) = 1) : oSp G mX5_ask [.ref 0, .int v, .int x] h (some (.int (hI h (hid i) 8 - hI h (hid i) 9 + hI h (hid i) 10))) (pC (pC (sI h 10 1 0) 0 11) (0 + 1) 10) := by
  have hs := hh.1
  refine oSp.intro [some (.ref 0), some (.int v), some (.int x), none] rfl (Nat.le_of_ble_eq_true rfl) (plainFor_of_name (by decide +kernel)) (Nat.le_refl _) ?_
  intro p l e R s m args below meth c C
  refine r_aload_n C rfl rfl dX5_ask_0 ?_
  refine r_iload_n C rfl dX5_ask_1 ?_
  refine r_callV C (sp_houseAt G (by exact hh) _ hi hv) kv_X5_houseAt kn_X5_houseAt rfl dX5_ask_2 cl_X5_77 ⟨Nat.le_of_ble_eq_true rfl, Nat.le_of_ble_eq_true rfl⟩ (by decide) rfl rfl (q_lt hh.1 (by decide)) (Nat.le_refl _) rfl (Nat.le_of_ble_eq_true rfl) ?_
  refine r_astore_n C rfl rfl (Nat.le_of_ble_eq_true rfl) dX5_ask_5 ?_
  refine r_aload_n C rfl rfl dX5_ask_6 ?_
  refine r_ifnull C dX5_ask_7 ?_
  refine r_iload_n C rfl dX5_ask_10 ?_
  refine r_iconstv C 0 rfl dX5_ask_11 ?_
  refine r_iconstv C 1 rfl dX5_ask_12 ?_
  refine r_callS C (sp_isOutside G hx (show (0 : Int32).toInt = 0 from rfl) (show (1 : Int32).toInt = 1 from rfl)) ks_X5_isOutside kn_X5_isOutside rfl dX5_ask_13 cl_X5_68 ⟨Nat.le_of_ble_eq_true rfl, Nat.le_of_ble_eq_true rfl⟩ (Nat.le_refl _) rfl (Nat.le_of_ble_eq_true rfl) ?_
  refine t_ifb_eq C 22 (by decide) dX5_ask_16 (fun c16 => ?_) (fun c16 => ?_)
  · first
    | (exfalso; omega)
    |  (refine r_aload_n C rfl rfl dX5_ask_22 ?_
        refine r_getO C dX5_ask_23 fl_X5_32 rfl rfl (q_lt hh.1 (by decide)) (sh_0_3 hh.1) ?_
        refine r_callV C (sp_empty G (by exact hs)) kv_X0_emptyTrace kn_X0_emptyTrace rfl dX5_ask_26 cl_X5_198 ⟨Nat.le_of_ble_eq_true rfl, Nat.le_of_ble_eq_true rfl⟩ (by decide) rfl rfl (q_lt hh.1 (by decide)) (Nat.le_refl _) rfl (Nat.le_of_ble_eq_true rfl) ?_
        refine r_iload_n C rfl dX5_ask_29 ?_
        refine t_if_ne C 44 (by decide) hx dX5_ask_30 (fun c30 => ?_) (fun c30 => ?_)
        · first
          | (exfalso; omega)
        · first
          | (exfalso; omega)
          |  (refine r_aload_n C rfl rfl dX5_ask_33 ?_
              refine r_getO C dX5_ask_34 fl_X5_32 rfl rfl (q_lt hh.1 (by decide)) (sh_0_3 hh.1) ?_
              refine r_aload_n C rfl rfl dX5_ask_37 ?_
              refine r_callV C (sp_weight1 G (z := 0) (by exact hh.1) (tg_hid i) (oHs.lt (by exact hh) hi) (by unfold hid; omega) (by exact rfl) (by decide) (by rw [tk_E]; exact hk)) kv_X0_weight kn_X0_weight rfl dX5_ask_38 cl_X5_201 ⟨Nat.le_of_ble_eq_true rfl, Nat.le_of_ble_eq_true rfl⟩ (by decide) rfl rfl (q_lt hh.1 (by decide)) (Nat.le_refl _) rfl (Nat.le_of_ble_eq_true rfl) ?_
              refine r_goto C 52 (by decide) dX5_ask_41 ?_
              exact r_iret C dX5_ask_52 rfl (Nat.le_refl _) (by simp only [eE]) rfl))
  · first
    | (exfalso; omega)
    |  (refine r_ldc C _ lc_X5_72 dX5_ask_19 ?_
        exact r_iret C dX5_ask_21 rfl (Nat.le_refl _) (by simp only [eE]) rfl)

set_option maxHeartbeats 4000000 in
set_option maxRecDepth 100000 in
theorem m_ask01 (G : oG) {h : oH} (hs : oSh h) {n : Nat} (hn : (hI h 12 1).toInt = (n : Int)) (hn24 : n ≤ 24) (v : Int32) {i : Nat} (hi : i < n) (hv : v.toInt = (i : Int)) (x : Int32) (hx : x.toInt = 0) (hk : kM h i = 1) : oSp G mX6_ask [.ref 12, .int v, .int x] h (some (.int (hI h 17 i - hI h 18 i + hI h 19 i + 0))) (pM (pM (sI (sI h 12 0 0) 12 44 0) 0 11) (0 + 1) 10) := by
  refine oSp.intro [some (.ref 12), some (.int v), some (.int x)] rfl (Nat.le_of_ble_eq_true rfl) (plainFor_of_name (by decide +kernel)) (Nat.le_refl _) ?_
  intro p l e R s m args below meth c C
  refine r_aload_n C rfl rfl dX6_ask_0 ?_
  refine r_iconstv C 0 rfl dX6_ask_1 ?_
  refine r_putI C dX6_ask_2 fl_X6_90 rfl (q_lt hs (by decide)) (Or.inl rfl) ?_
  refine r_aload_n C rfl rfl dX6_ask_5 ?_
  refine r_iload_n C rfl dX6_ask_6 ?_
  refine r_callV C (sp_isHouse G (by exact hs) (by exact hn) hn24 _) kv_X6_isHouse kn_X6_isHouse rfl dX6_ask_7 cl_X6_108 ⟨Nat.le_of_ble_eq_true rfl, Nat.le_of_ble_eq_true rfl⟩ (by decide) rfl rfl (q_lt hs (by decide)) (Nat.le_refl _) rfl (Nat.le_of_ble_eq_true rfl) ?_
  refine t_ifb_eq C 23 (by decide) dX6_ask_10 (fun c10 => ?_) (fun c10 => ?_)
  · first
    | (exfalso; omega)
    |  (refine r_ldc C _ lc_X6_106 dX6_ask_23 ?_
        exact r_iret C dX6_ask_25 rfl (Nat.le_refl _) rfl rfl)
  · first
    | (exfalso; omega)
    |  (refine r_iload_n C rfl dX6_ask_13 ?_
        refine r_i2l C dX6_ask_14 ?_
        refine r_lconst C 0 rfl dX6_ask_15 ?_
        refine r_lconst C 1 rfl dX6_ask_16 ?_
        refine r_callS C (sp_in G (tI2L hx) (show (0 : Int64).toInt = 0 from rfl) (show (1 : Int64).toInt = 1 from rfl)) ks_X6_in kn_X6_in rfl dX6_ask_17 cl_X6_96 ⟨Nat.le_of_ble_eq_true rfl, Nat.le_of_ble_eq_true rfl⟩ (Nat.le_refl _) rfl (Nat.le_of_ble_eq_true rfl) ?_
        refine t_ifb_ne C 26 (by decide) dX6_ask_20 (fun c20 => ?_) (fun c20 => ?_)
        · first
          | (exfalso; omega)
          |  (refine r_aload_n C rfl rfl dX6_ask_26 ?_
              refine r_iconstv C 0 rfl dX6_ask_27 ?_
              refine r_putI C dX6_ask_28 fl_X6_281 rfl (q_lt hs (by decide)) (Or.inl rfl) ?_
              refine r_iload_n C rfl dX6_ask_31 ?_
              refine t_if_ne C 43 (by decide) hx dX6_ask_32 (fun c32 => ?_) (fun c32 => ?_)
              · first
                | (exfalso; omega)
              · first
                | (exfalso; omega)
                |  (refine r_aload_n C rfl rfl dX6_ask_35 ?_
                    refine r_iload_n C rfl dX6_ask_36 ?_
                    refine r_callV C (sp_weightM1 G (z := 0) (by exact hs) _ hv (by omega) (by exact rfl) (by decide) (by exact hk)) kv_X6_weight kn_X6_weight rfl dX6_ask_37 cl_X6_287 ⟨Nat.le_of_ble_eq_true rfl, Nat.le_of_ble_eq_true rfl⟩ (by decide) rfl rfl (q_lt hs (by decide)) (Nat.le_refl _) rfl (Nat.le_of_ble_eq_true rfl) ?_
                    refine r_goto C 48 (by decide) dX6_ask_40 ?_
                    exact r_iret C dX6_ask_48 rfl (Nat.le_refl _) rfl rfl))
        · first
          | (exfalso; omega)
          |  (refine r_ldc C _ lc_X6_106 dX6_ask_23 ?_
              exact r_iret C dX6_ask_25 rfl (Nat.le_refl _) rfl rfl))

set_option maxHeartbeats 4000000 in
set_option maxRecDepth 100000 in
theorem c_ask11 (G : oG) {h : oH} {n : Nat} (hh : oHs h n) (v : Int32) {i : Nat} (hi : i < n) (hv : v.toInt = (i : Int)) (x : Int32) (hx : x.toInt = 1) (hk : tkC h (hid i) = 1) : oSp G mX5_ask [.ref 0, .int v, .int x] h (some (.int (hI h (hid i) 2 + (hI h (hid i) 8 - hI h (hid i) 9 + hI h (hid i) 10)))) (pC (pC (pC (pC (sI h 10 1 0) 0 21) (0 + 1) 20) (0 + 2) 11) (0 + 3) 10) := by
  have hs := hh.1
  refine oSp.intro [some (.ref 0), some (.int v), some (.int x), none] rfl (Nat.le_of_ble_eq_true rfl) (plainFor_of_name (by decide +kernel)) (Nat.le_refl _) ?_
  intro p l e R s m args below meth c C
  refine r_aload_n C rfl rfl dX5_ask_0 ?_
  refine r_iload_n C rfl dX5_ask_1 ?_
  refine r_callV C (sp_houseAt G (by exact hh) _ hi hv) kv_X5_houseAt kn_X5_houseAt rfl dX5_ask_2 cl_X5_77 ⟨Nat.le_of_ble_eq_true rfl, Nat.le_of_ble_eq_true rfl⟩ (by decide) rfl rfl (q_lt hh.1 (by decide)) (Nat.le_refl _) rfl (Nat.le_of_ble_eq_true rfl) ?_
  refine r_astore_n C rfl rfl (Nat.le_of_ble_eq_true rfl) dX5_ask_5 ?_
  refine r_aload_n C rfl rfl dX5_ask_6 ?_
  refine r_ifnull C dX5_ask_7 ?_
  refine r_iload_n C rfl dX5_ask_10 ?_
  refine r_iconstv C 0 rfl dX5_ask_11 ?_
  refine r_iconstv C 1 rfl dX5_ask_12 ?_
  refine r_callS C (sp_isOutside G hx (show (0 : Int32).toInt = 0 from rfl) (show (1 : Int32).toInt = 1 from rfl)) ks_X5_isOutside kn_X5_isOutside rfl dX5_ask_13 cl_X5_68 ⟨Nat.le_of_ble_eq_true rfl, Nat.le_of_ble_eq_true rfl⟩ (Nat.le_refl _) rfl (Nat.le_of_ble_eq_true rfl) ?_
  refine t_ifb_eq C 22 (by decide) dX5_ask_16 (fun c16 => ?_) (fun c16 => ?_)
  · first
    | (exfalso; omega)
    |  (refine r_aload_n C rfl rfl dX5_ask_22 ?_
        refine r_getO C dX5_ask_23 fl_X5_32 rfl rfl (q_lt hh.1 (by decide)) (sh_0_3 hh.1) ?_
        refine r_callV C (sp_empty G (by exact hs)) kv_X0_emptyTrace kn_X0_emptyTrace rfl dX5_ask_26 cl_X5_198 ⟨Nat.le_of_ble_eq_true rfl, Nat.le_of_ble_eq_true rfl⟩ (by decide) rfl rfl (q_lt hh.1 (by decide)) (Nat.le_refl _) rfl (Nat.le_of_ble_eq_true rfl) ?_
        refine r_iload_n C rfl dX5_ask_29 ?_
        refine t_if_ne C 44 (by decide) hx dX5_ask_30 (fun c30 => ?_) (fun c30 => ?_)
        · first
          | (exfalso; omega)
          |  (refine r_aload_n C rfl rfl dX5_ask_44 ?_
              refine r_getO C dX5_ask_45 fl_X5_32 rfl rfl (q_lt hh.1 (by decide)) (sh_0_3 hh.1) ?_
              refine r_aload_n C rfl rfl dX5_ask_48 ?_
              refine r_callV C (sp_mark1 G (z := 0) (by exact hh.1) (tg_hid i) (oHs.lt (by exact hh) hi) (by unfold hid; omega) (by exact rfl) (by decide) (by rw [tk_E]; exact hk)) kv_X0_mark kn_X0_mark rfl dX5_ask_49 cl_X5_205 ⟨Nat.le_of_ble_eq_true rfl, Nat.le_of_ble_eq_true rfl⟩ (by decide) rfl rfl (q_lt hh.1 (by decide)) (Nat.le_refl _) rfl (Nat.le_of_ble_eq_true rfl) ?_
              exact r_iret C dX5_ask_52 rfl (Nat.le_refl _) (by simp only [eE]) rfl)
        · first
          | (exfalso; omega))
  · first
    | (exfalso; omega)
    |  (refine r_ldc C _ lc_X5_72 dX5_ask_19 ?_
        exact r_iret C dX5_ask_21 rfl (Nat.le_refl _) (by simp only [eE]) rfl)

set_option maxHeartbeats 4000000 in
set_option maxRecDepth 100000 in
theorem m_ask11 (G : oG) {h : oH} (hs : oSh h) {n : Nat} (hn : (hI h 12 1).toInt = (n : Int)) (hn24 : n ≤ 24) (v : Int32) {i : Nat} (hi : i < n) (hv : v.toInt = (i : Int)) (x : Int32) (hx : x.toInt = 1) (hk : kM h i = 1) : oSp G mX6_ask [.ref 12, .int v, .int x] h (some (.int (hI h 15 i + (hI h 17 i - hI h 18 i + hI h 19 i + 0)))) (pM (pM (pM (pM (sI (sI h 12 0 0) 12 44 0) 0 21) (0 + 1) 20) (0 + 2) 11) (0 + 3) 10) := by
  refine oSp.intro [some (.ref 12), some (.int v), some (.int x)] rfl (Nat.le_of_ble_eq_true rfl) (plainFor_of_name (by decide +kernel)) (Nat.le_refl _) ?_
  intro p l e R s m args below meth c C
  refine r_aload_n C rfl rfl dX6_ask_0 ?_
  refine r_iconstv C 0 rfl dX6_ask_1 ?_
  refine r_putI C dX6_ask_2 fl_X6_90 rfl (q_lt hs (by decide)) (Or.inl rfl) ?_
  refine r_aload_n C rfl rfl dX6_ask_5 ?_
  refine r_iload_n C rfl dX6_ask_6 ?_
  refine r_callV C (sp_isHouse G (by exact hs) (by exact hn) hn24 _) kv_X6_isHouse kn_X6_isHouse rfl dX6_ask_7 cl_X6_108 ⟨Nat.le_of_ble_eq_true rfl, Nat.le_of_ble_eq_true rfl⟩ (by decide) rfl rfl (q_lt hs (by decide)) (Nat.le_refl _) rfl (Nat.le_of_ble_eq_true rfl) ?_
  refine t_ifb_eq C 23 (by decide) dX6_ask_10 (fun c10 => ?_) (fun c10 => ?_)
  · first
    | (exfalso; omega)
    |  (refine r_ldc C _ lc_X6_106 dX6_ask_23 ?_
        exact r_iret C dX6_ask_25 rfl (Nat.le_refl _) rfl rfl)
  · first
    | (exfalso; omega)
    |  (refine r_iload_n C rfl dX6_ask_13 ?_
        refine r_i2l C dX6_ask_14 ?_
        refine r_lconst C 0 rfl dX6_ask_15 ?_
        refine r_lconst C 1 rfl dX6_ask_16 ?_
        refine r_callS C (sp_in G (tI2L hx) (show (0 : Int64).toInt = 0 from rfl) (show (1 : Int64).toInt = 1 from rfl)) ks_X6_in kn_X6_in rfl dX6_ask_17 cl_X6_96 ⟨Nat.le_of_ble_eq_true rfl, Nat.le_of_ble_eq_true rfl⟩ (Nat.le_refl _) rfl (Nat.le_of_ble_eq_true rfl) ?_
        refine t_ifb_ne C 26 (by decide) dX6_ask_20 (fun c20 => ?_) (fun c20 => ?_)
        · first
          | (exfalso; omega)
          |  (refine r_aload_n C rfl rfl dX6_ask_26 ?_
              refine r_iconstv C 0 rfl dX6_ask_27 ?_
              refine r_putI C dX6_ask_28 fl_X6_281 rfl (q_lt hs (by decide)) (Or.inl rfl) ?_
              refine r_iload_n C rfl dX6_ask_31 ?_
              refine t_if_ne C 43 (by decide) hx dX6_ask_32 (fun c32 => ?_) (fun c32 => ?_)
              · first
                | (exfalso; omega)
                |  (refine r_aload_n C rfl rfl dX6_ask_43 ?_
                    refine r_iload_n C rfl dX6_ask_44 ?_
                    refine r_callV C (sp_marked1 G (z := 0) (by exact hs) _ hv (by omega) (by exact rfl) (by decide) (by exact hk)) kv_X6_marked kn_X6_marked rfl dX6_ask_45 cl_X6_290 ⟨Nat.le_of_ble_eq_true rfl, Nat.le_of_ble_eq_true rfl⟩ (by decide) rfl rfl (q_lt hs (by decide)) (Nat.le_refl _) rfl (Nat.le_of_ble_eq_true rfl) ?_
                    exact r_iret C dX6_ask_48 rfl (Nat.le_refl _) rfl rfl)
              · first
                | (exfalso; omega))
        · first
          | (exfalso; omega)
          |  (refine r_ldc C _ lc_X6_106 dX6_ask_23 ?_
              exact r_iret C dX6_ask_25 rfl (Nat.le_refl _) rfl rfl))

set_option maxHeartbeats 4000000 in
set_option maxRecDepth 100000 in
theorem c_ask02 (G : oG) {h : oH} {n : Nat} (hh : oHs h n) (v : Int32) {i : Nat} (hi : i < n) (hv : v.toInt = (i : Int)) (x : Int32) (hx : x.toInt = 0) (hk : tkC h (hid i) = 2) : oSp G mX5_ask [.ref 0, .int v, .int x] h (some (.int (hI h (hid i) 8 - hI h (hid i) 9 + hI h (hid i) 10 + hI h (hid i) 4))) (pC (pC (pC (sI h 10 1 0) 0 12) (0 + 1) 11) (0 + 2) 10) := by
  have hs := hh.1
  refine oSp.intro [some (.ref 0), some (.int v), some (.int x), none] rfl (Nat.le_of_ble_eq_true rfl) (plainFor_of_name (by decide +kernel)) (Nat.le_refl _) ?_
  intro p l e R s m args below meth c C
  refine r_aload_n C rfl rfl dX5_ask_0 ?_
  refine r_iload_n C rfl dX5_ask_1 ?_
  refine r_callV C (sp_houseAt G (by exact hh) _ hi hv) kv_X5_houseAt kn_X5_houseAt rfl dX5_ask_2 cl_X5_77 ⟨Nat.le_of_ble_eq_true rfl, Nat.le_of_ble_eq_true rfl⟩ (by decide) rfl rfl (q_lt hh.1 (by decide)) (Nat.le_refl _) rfl (Nat.le_of_ble_eq_true rfl) ?_
  refine r_astore_n C rfl rfl (Nat.le_of_ble_eq_true rfl) dX5_ask_5 ?_
  refine r_aload_n C rfl rfl dX5_ask_6 ?_
  refine r_ifnull C dX5_ask_7 ?_
  refine r_iload_n C rfl dX5_ask_10 ?_
  refine r_iconstv C 0 rfl dX5_ask_11 ?_
  refine r_iconstv C 1 rfl dX5_ask_12 ?_
  refine r_callS C (sp_isOutside G hx (show (0 : Int32).toInt = 0 from rfl) (show (1 : Int32).toInt = 1 from rfl)) ks_X5_isOutside kn_X5_isOutside rfl dX5_ask_13 cl_X5_68 ⟨Nat.le_of_ble_eq_true rfl, Nat.le_of_ble_eq_true rfl⟩ (Nat.le_refl _) rfl (Nat.le_of_ble_eq_true rfl) ?_
  refine t_ifb_eq C 22 (by decide) dX5_ask_16 (fun c16 => ?_) (fun c16 => ?_)
  · first
    | (exfalso; omega)
    |  (refine r_aload_n C rfl rfl dX5_ask_22 ?_
        refine r_getO C dX5_ask_23 fl_X5_32 rfl rfl (q_lt hh.1 (by decide)) (sh_0_3 hh.1) ?_
        refine r_callV C (sp_empty G (by exact hs)) kv_X0_emptyTrace kn_X0_emptyTrace rfl dX5_ask_26 cl_X5_198 ⟨Nat.le_of_ble_eq_true rfl, Nat.le_of_ble_eq_true rfl⟩ (by decide) rfl rfl (q_lt hh.1 (by decide)) (Nat.le_refl _) rfl (Nat.le_of_ble_eq_true rfl) ?_
        refine r_iload_n C rfl dX5_ask_29 ?_
        refine t_if_ne C 44 (by decide) hx dX5_ask_30 (fun c30 => ?_) (fun c30 => ?_)
        · first
          | (exfalso; omega)
        · first
          | (exfalso; omega)
          |  (refine r_aload_n C rfl rfl dX5_ask_33 ?_
              refine r_getO C dX5_ask_34 fl_X5_32 rfl rfl (q_lt hh.1 (by decide)) (sh_0_3 hh.1) ?_
              refine r_aload_n C rfl rfl dX5_ask_37 ?_
              refine r_callV C (sp_weight2 G (z := 0) (by exact hh.1) (tg_hid i) (oHs.lt (by exact hh) hi) (by unfold hid; omega) (by exact rfl) (by decide) (by rw [tk_E]; exact hk)) kv_X0_weight kn_X0_weight rfl dX5_ask_38 cl_X5_201 ⟨Nat.le_of_ble_eq_true rfl, Nat.le_of_ble_eq_true rfl⟩ (by decide) rfl rfl (q_lt hh.1 (by decide)) (Nat.le_refl _) rfl (Nat.le_of_ble_eq_true rfl) ?_
              refine r_goto C 52 (by decide) dX5_ask_41 ?_
              exact r_iret C dX5_ask_52 rfl (Nat.le_refl _) (by simp only [eE]) rfl))
  · first
    | (exfalso; omega)
    |  (refine r_ldc C _ lc_X5_72 dX5_ask_19 ?_
        exact r_iret C dX5_ask_21 rfl (Nat.le_refl _) (by simp only [eE]) rfl)

set_option maxHeartbeats 4000000 in
set_option maxRecDepth 100000 in
theorem m_ask02 (G : oG) {h : oH} (hs : oSh h) {n : Nat} (hn : (hI h 12 1).toInt = (n : Int)) (hn24 : n ≤ 24) (v : Int32) {i : Nat} (hi : i < n) (hv : v.toInt = (i : Int)) (x : Int32) (hx : x.toInt = 0) (hk : kM h i = 2) : oSp G mX6_ask [.ref 12, .int v, .int x] h (some (.int (hI h 17 i - hI h 18 i + hI h 19 i + hI h 16 (4 * i)))) (pM (pM (pM (sI (sI h 12 0 0) 12 44 0) 0 12) (0 + 1) 11) (0 + 2) 10) := by
  refine oSp.intro [some (.ref 12), some (.int v), some (.int x)] rfl (Nat.le_of_ble_eq_true rfl) (plainFor_of_name (by decide +kernel)) (Nat.le_refl _) ?_
  intro p l e R s m args below meth c C
  refine r_aload_n C rfl rfl dX6_ask_0 ?_
  refine r_iconstv C 0 rfl dX6_ask_1 ?_
  refine r_putI C dX6_ask_2 fl_X6_90 rfl (q_lt hs (by decide)) (Or.inl rfl) ?_
  refine r_aload_n C rfl rfl dX6_ask_5 ?_
  refine r_iload_n C rfl dX6_ask_6 ?_
  refine r_callV C (sp_isHouse G (by exact hs) (by exact hn) hn24 _) kv_X6_isHouse kn_X6_isHouse rfl dX6_ask_7 cl_X6_108 ⟨Nat.le_of_ble_eq_true rfl, Nat.le_of_ble_eq_true rfl⟩ (by decide) rfl rfl (q_lt hs (by decide)) (Nat.le_refl _) rfl (Nat.le_of_ble_eq_true rfl) ?_
  refine t_ifb_eq C 23 (by decide) dX6_ask_10 (fun c10 => ?_) (fun c10 => ?_)
  · first
    | (exfalso; omega)
    |  (refine r_ldc C _ lc_X6_106 dX6_ask_23 ?_
        exact r_iret C dX6_ask_25 rfl (Nat.le_refl _) rfl rfl)
  · first
    | (exfalso; omega)
    |  (refine r_iload_n C rfl dX6_ask_13 ?_
        refine r_i2l C dX6_ask_14 ?_
        refine r_lconst C 0 rfl dX6_ask_15 ?_
        refine r_lconst C 1 rfl dX6_ask_16 ?_
        refine r_callS C (sp_in G (tI2L hx) (show (0 : Int64).toInt = 0 from rfl) (show (1 : Int64).toInt = 1 from rfl)) ks_X6_in kn_X6_in rfl dX6_ask_17 cl_X6_96 ⟨Nat.le_of_ble_eq_true rfl, Nat.le_of_ble_eq_true rfl⟩ (Nat.le_refl _) rfl (Nat.le_of_ble_eq_true rfl) ?_
        refine t_ifb_ne C 26 (by decide) dX6_ask_20 (fun c20 => ?_) (fun c20 => ?_)
        · first
          | (exfalso; omega)
          |  (refine r_aload_n C rfl rfl dX6_ask_26 ?_
              refine r_iconstv C 0 rfl dX6_ask_27 ?_
              refine r_putI C dX6_ask_28 fl_X6_281 rfl (q_lt hs (by decide)) (Or.inl rfl) ?_
              refine r_iload_n C rfl dX6_ask_31 ?_
              refine t_if_ne C 43 (by decide) hx dX6_ask_32 (fun c32 => ?_) (fun c32 => ?_)
              · first
                | (exfalso; omega)
              · first
                | (exfalso; omega)
                |  (refine r_aload_n C rfl rfl dX6_ask_35 ?_
                    refine r_iload_n C rfl dX6_ask_36 ?_
                    refine r_callV C (sp_weightM2 G (z := 0) (by exact hs) _ hv (by omega) (by exact rfl) (by decide) (by exact hk)) kv_X6_weight kn_X6_weight rfl dX6_ask_37 cl_X6_287 ⟨Nat.le_of_ble_eq_true rfl, Nat.le_of_ble_eq_true rfl⟩ (by decide) rfl rfl (q_lt hs (by decide)) (Nat.le_refl _) rfl (Nat.le_of_ble_eq_true rfl) ?_
                    refine r_goto C 48 (by decide) dX6_ask_40 ?_
                    exact r_iret C dX6_ask_48 rfl (Nat.le_refl _) rfl rfl))
        · first
          | (exfalso; omega)
          |  (refine r_ldc C _ lc_X6_106 dX6_ask_23 ?_
              exact r_iret C dX6_ask_25 rfl (Nat.le_refl _) rfl rfl))

set_option maxHeartbeats 4000000 in
set_option maxRecDepth 100000 in
theorem c_ask12 (G : oG) {h : oH} {n : Nat} (hh : oHs h n) (v : Int32) {i : Nat} (hi : i < n) (hv : v.toInt = (i : Int)) (x : Int32) (hx : x.toInt = 1) (hk : tkC h (hid i) = 2) : oSp G mX5_ask [.ref 0, .int v, .int x] h (some (.int (hI h (hid i) 2 + (hI h (hid i) 8 - hI h (hid i) 9 + hI h (hid i) 10 + hI h (hid i) 4)))) (pC (pC (pC (pC (pC (sI h 10 1 0) 0 21) (0 + 1) 20) (0 + 2) 12) (0 + 3) 11) (0 + 4) 10) := by
  have hs := hh.1
  refine oSp.intro [some (.ref 0), some (.int v), some (.int x), none] rfl (Nat.le_of_ble_eq_true rfl) (plainFor_of_name (by decide +kernel)) (Nat.le_refl _) ?_
  intro p l e R s m args below meth c C
  refine r_aload_n C rfl rfl dX5_ask_0 ?_
  refine r_iload_n C rfl dX5_ask_1 ?_
  refine r_callV C (sp_houseAt G (by exact hh) _ hi hv) kv_X5_houseAt kn_X5_houseAt rfl dX5_ask_2 cl_X5_77 ⟨Nat.le_of_ble_eq_true rfl, Nat.le_of_ble_eq_true rfl⟩ (by decide) rfl rfl (q_lt hh.1 (by decide)) (Nat.le_refl _) rfl (Nat.le_of_ble_eq_true rfl) ?_
  refine r_astore_n C rfl rfl (Nat.le_of_ble_eq_true rfl) dX5_ask_5 ?_
  refine r_aload_n C rfl rfl dX5_ask_6 ?_
  refine r_ifnull C dX5_ask_7 ?_
  refine r_iload_n C rfl dX5_ask_10 ?_
  refine r_iconstv C 0 rfl dX5_ask_11 ?_
  refine r_iconstv C 1 rfl dX5_ask_12 ?_
  refine r_callS C (sp_isOutside G hx (show (0 : Int32).toInt = 0 from rfl) (show (1 : Int32).toInt = 1 from rfl)) ks_X5_isOutside kn_X5_isOutside rfl dX5_ask_13 cl_X5_68 ⟨Nat.le_of_ble_eq_true rfl, Nat.le_of_ble_eq_true rfl⟩ (Nat.le_refl _) rfl (Nat.le_of_ble_eq_true rfl) ?_
  refine t_ifb_eq C 22 (by decide) dX5_ask_16 (fun c16 => ?_) (fun c16 => ?_)
  · first
    | (exfalso; omega)
    |  (refine r_aload_n C rfl rfl dX5_ask_22 ?_
        refine r_getO C dX5_ask_23 fl_X5_32 rfl rfl (q_lt hh.1 (by decide)) (sh_0_3 hh.1) ?_
        refine r_callV C (sp_empty G (by exact hs)) kv_X0_emptyTrace kn_X0_emptyTrace rfl dX5_ask_26 cl_X5_198 ⟨Nat.le_of_ble_eq_true rfl, Nat.le_of_ble_eq_true rfl⟩ (by decide) rfl rfl (q_lt hh.1 (by decide)) (Nat.le_refl _) rfl (Nat.le_of_ble_eq_true rfl) ?_
        refine r_iload_n C rfl dX5_ask_29 ?_
        refine t_if_ne C 44 (by decide) hx dX5_ask_30 (fun c30 => ?_) (fun c30 => ?_)
        · first
          | (exfalso; omega)
          |  (refine r_aload_n C rfl rfl dX5_ask_44 ?_
              refine r_getO C dX5_ask_45 fl_X5_32 rfl rfl (q_lt hh.1 (by decide)) (sh_0_3 hh.1) ?_
              refine r_aload_n C rfl rfl dX5_ask_48 ?_
              refine r_callV C (sp_mark2 G (z := 0) (by exact hh.1) (tg_hid i) (oHs.lt (by exact hh) hi) (by unfold hid; omega) (by exact rfl) (by decide) (by rw [tk_E]; exact hk)) kv_X0_mark kn_X0_mark rfl dX5_ask_49 cl_X5_205 ⟨Nat.le_of_ble_eq_true rfl, Nat.le_of_ble_eq_true rfl⟩ (by decide) rfl rfl (q_lt hh.1 (by decide)) (Nat.le_refl _) rfl (Nat.le_of_ble_eq_true rfl) ?_
              exact r_iret C dX5_ask_52 rfl (Nat.le_refl _) (by simp only [eE]) rfl)
        · first
          | (exfalso; omega))
  · first
    | (exfalso; omega)
    |  (refine r_ldc C _ lc_X5_72 dX5_ask_19 ?_
        exact r_iret C dX5_ask_21 rfl (Nat.le_refl _) (by simp only [eE]) rfl)

set_option maxHeartbeats 4000000 in
set_option maxRecDepth 100000 in
theorem m_ask12 (G : oG) {h : oH} (hs : oSh h) {n : Nat} (hn : (hI h 12 1).toInt = (n : Int)) (hn24 : n ≤ 24) (v : Int32) {i : Nat} (hi : i < n) (hv : v.toInt = (i : Int)) (x : Int32) (hx : x.toInt = 1) (hk : kM h i = 2) : oSp G mX6_ask [.ref 12, .int v, .int x] h (some (.int (hI h 15 i + (hI h 17 i - hI h 18 i + hI h 19 i + hI h 16 (4 * i))))) (pM (pM (pM (pM (pM (sI (sI h 12 0 0) 12 44 0) 0 21) (0 + 1) 20) (0 + 2) 12) (0 + 3) 11) (0 + 4) 10) := by
  refine oSp.intro [some (.ref 12), some (.int v), some (.int x)] rfl (Nat.le_of_ble_eq_true rfl) (plainFor_of_name (by decide +kernel)) (Nat.le_refl _) ?_
  intro p l e R s m args below meth c C
  refine r_aload_n C rfl rfl dX6_ask_0 ?_
  refine r_iconstv C 0 rfl dX6_ask_1 ?_
  refine r_putI C dX6_ask_2 fl_X6_90 rfl (q_lt hs (by decide)) (Or.inl rfl) ?_
  refine r_aload_n C rfl rfl dX6_ask_5 ?_
  refine r_iload_n C rfl dX6_ask_6 ?_
  refine r_callV C (sp_isHouse G (by exact hs) (by exact hn) hn24 _) kv_X6_isHouse kn_X6_isHouse rfl dX6_ask_7 cl_X6_108 ⟨Nat.le_of_ble_eq_true rfl, Nat.le_of_ble_eq_true rfl⟩ (by decide) rfl rfl (q_lt hs (by decide)) (Nat.le_refl _) rfl (Nat.le_of_ble_eq_true rfl) ?_
  refine t_ifb_eq C 23 (by decide) dX6_ask_10 (fun c10 => ?_) (fun c10 => ?_)
  · first
    | (exfalso; omega)
    |  (refine r_ldc C _ lc_X6_106 dX6_ask_23 ?_
        exact r_iret C dX6_ask_25 rfl (Nat.le_refl _) rfl rfl)
  · first
    | (exfalso; omega)
    |  (refine r_iload_n C rfl dX6_ask_13 ?_
        refine r_i2l C dX6_ask_14 ?_
        refine r_lconst C 0 rfl dX6_ask_15 ?_
        refine r_lconst C 1 rfl dX6_ask_16 ?_
        refine r_callS C (sp_in G (tI2L hx) (show (0 : Int64).toInt = 0 from rfl) (show (1 : Int64).toInt = 1 from rfl)) ks_X6_in kn_X6_in rfl dX6_ask_17 cl_X6_96 ⟨Nat.le_of_ble_eq_true rfl, Nat.le_of_ble_eq_true rfl⟩ (Nat.le_refl _) rfl (Nat.le_of_ble_eq_true rfl) ?_
        refine t_ifb_ne C 26 (by decide) dX6_ask_20 (fun c20 => ?_) (fun c20 => ?_)
        · first
          | (exfalso; omega)
          |  (refine r_aload_n C rfl rfl dX6_ask_26 ?_
              refine r_iconstv C 0 rfl dX6_ask_27 ?_
              refine r_putI C dX6_ask_28 fl_X6_281 rfl (q_lt hs (by decide)) (Or.inl rfl) ?_
              refine r_iload_n C rfl dX6_ask_31 ?_
              refine t_if_ne C 43 (by decide) hx dX6_ask_32 (fun c32 => ?_) (fun c32 => ?_)
              · first
                | (exfalso; omega)
                |  (refine r_aload_n C rfl rfl dX6_ask_43 ?_
                    refine r_iload_n C rfl dX6_ask_44 ?_
                    refine r_callV C (sp_marked2 G (z := 0) (by exact hs) _ hv (by omega) (by exact rfl) (by decide) (by exact hk)) kv_X6_marked kn_X6_marked rfl dX6_ask_45 cl_X6_290 ⟨Nat.le_of_ble_eq_true rfl, Nat.le_of_ble_eq_true rfl⟩ (by decide) rfl rfl (q_lt hs (by decide)) (Nat.le_refl _) rfl (Nat.le_of_ble_eq_true rfl) ?_
                    exact r_iret C dX6_ask_48 rfl (Nat.le_refl _) rfl rfl)
              · first
                | (exfalso; omega))
        · first
          | (exfalso; omega)
          |  (refine r_ldc C _ lc_X6_106 dX6_ask_23 ?_
              exact r_iret C dX6_ask_25 rfl (Nat.le_refl _) rfl rfl))

set_option maxHeartbeats 4000000 in
set_option maxRecDepth 100000 in
theorem c_ask03 (G : oG) {h : oH} {n : Nat} (hh : oHs h n) (v : Int32) {i : Nat} (hi : i < n) (hv : v.toInt = (i : Int)) (x : Int32) (hx : x.toInt = 0) (hk : tkC h (hid i) = 3) : oSp G mX5_ask [.ref 0, .int v, .int x] h (some (.int (hI h (hid i) 8 - hI h (hid i) 9 + 5000))) (pC (pC (sI h 10 1 0) 0 13) (0 + 1) 10) := by
  have hs := hh.1
  refine oSp.intro [some (.ref 0), some (.int v), some (.int x), none] rfl (Nat.le_of_ble_eq_true rfl) (plainFor_of_name (by decide +kernel)) (Nat.le_refl _) ?_
  intro p l e R s m args below meth c C
  refine r_aload_n C rfl rfl dX5_ask_0 ?_
  refine r_iload_n C rfl dX5_ask_1 ?_
  refine r_callV C (sp_houseAt G (by exact hh) _ hi hv) kv_X5_houseAt kn_X5_houseAt rfl dX5_ask_2 cl_X5_77 ⟨Nat.le_of_ble_eq_true rfl, Nat.le_of_ble_eq_true rfl⟩ (by decide) rfl rfl (q_lt hh.1 (by decide)) (Nat.le_refl _) rfl (Nat.le_of_ble_eq_true rfl) ?_
  refine r_astore_n C rfl rfl (Nat.le_of_ble_eq_true rfl) dX5_ask_5 ?_
  refine r_aload_n C rfl rfl dX5_ask_6 ?_
  refine r_ifnull C dX5_ask_7 ?_
  refine r_iload_n C rfl dX5_ask_10 ?_
  refine r_iconstv C 0 rfl dX5_ask_11 ?_
  refine r_iconstv C 1 rfl dX5_ask_12 ?_
  refine r_callS C (sp_isOutside G hx (show (0 : Int32).toInt = 0 from rfl) (show (1 : Int32).toInt = 1 from rfl)) ks_X5_isOutside kn_X5_isOutside rfl dX5_ask_13 cl_X5_68 ⟨Nat.le_of_ble_eq_true rfl, Nat.le_of_ble_eq_true rfl⟩ (Nat.le_refl _) rfl (Nat.le_of_ble_eq_true rfl) ?_
  refine t_ifb_eq C 22 (by decide) dX5_ask_16 (fun c16 => ?_) (fun c16 => ?_)
  · first
    | (exfalso; omega)
    |  (refine r_aload_n C rfl rfl dX5_ask_22 ?_
        refine r_getO C dX5_ask_23 fl_X5_32 rfl rfl (q_lt hh.1 (by decide)) (sh_0_3 hh.1) ?_
        refine r_callV C (sp_empty G (by exact hs)) kv_X0_emptyTrace kn_X0_emptyTrace rfl dX5_ask_26 cl_X5_198 ⟨Nat.le_of_ble_eq_true rfl, Nat.le_of_ble_eq_true rfl⟩ (by decide) rfl rfl (q_lt hh.1 (by decide)) (Nat.le_refl _) rfl (Nat.le_of_ble_eq_true rfl) ?_
        refine r_iload_n C rfl dX5_ask_29 ?_
        refine t_if_ne C 44 (by decide) hx dX5_ask_30 (fun c30 => ?_) (fun c30 => ?_)
        · first
          | (exfalso; omega)
        · first
          | (exfalso; omega)
          |  (refine r_aload_n C rfl rfl dX5_ask_33 ?_
              refine r_getO C dX5_ask_34 fl_X5_32 rfl rfl (q_lt hh.1 (by decide)) (sh_0_3 hh.1) ?_
              refine r_aload_n C rfl rfl dX5_ask_37 ?_
              refine r_callV C (sp_weight3 G (z := 0) (by exact hh.1) (tg_hid i) (oHs.lt (by exact hh) hi) (by unfold hid; omega) (by exact rfl) (by decide) (by rw [tk_E]; exact hk)) kv_X0_weight kn_X0_weight rfl dX5_ask_38 cl_X5_201 ⟨Nat.le_of_ble_eq_true rfl, Nat.le_of_ble_eq_true rfl⟩ (by decide) rfl rfl (q_lt hh.1 (by decide)) (Nat.le_refl _) rfl (Nat.le_of_ble_eq_true rfl) ?_
              refine r_goto C 52 (by decide) dX5_ask_41 ?_
              exact r_iret C dX5_ask_52 rfl (Nat.le_refl _) (by simp only [eE]) rfl))
  · first
    | (exfalso; omega)
    |  (refine r_ldc C _ lc_X5_72 dX5_ask_19 ?_
        exact r_iret C dX5_ask_21 rfl (Nat.le_refl _) (by simp only [eE]) rfl)

set_option maxHeartbeats 4000000 in
set_option maxRecDepth 100000 in
theorem m_ask03 (G : oG) {h : oH} (hs : oSh h) {n : Nat} (hn : (hI h 12 1).toInt = (n : Int)) (hn24 : n ≤ 24) (v : Int32) {i : Nat} (hi : i < n) (hv : v.toInt = (i : Int)) (x : Int32) (hx : x.toInt = 0) (hk : kM h i = 3) : oSp G mX6_ask [.ref 12, .int v, .int x] h (some (.int (hI h 17 i - hI h 18 i + 5000))) (pM (pM (sI (sI h 12 0 0) 12 44 0) 0 13) (0 + 1) 10) := by
  refine oSp.intro [some (.ref 12), some (.int v), some (.int x)] rfl (Nat.le_of_ble_eq_true rfl) (plainFor_of_name (by decide +kernel)) (Nat.le_refl _) ?_
  intro p l e R s m args below meth c C
  refine r_aload_n C rfl rfl dX6_ask_0 ?_
  refine r_iconstv C 0 rfl dX6_ask_1 ?_
  refine r_putI C dX6_ask_2 fl_X6_90 rfl (q_lt hs (by decide)) (Or.inl rfl) ?_
  refine r_aload_n C rfl rfl dX6_ask_5 ?_
  refine r_iload_n C rfl dX6_ask_6 ?_
  refine r_callV C (sp_isHouse G (by exact hs) (by exact hn) hn24 _) kv_X6_isHouse kn_X6_isHouse rfl dX6_ask_7 cl_X6_108 ⟨Nat.le_of_ble_eq_true rfl, Nat.le_of_ble_eq_true rfl⟩ (by decide) rfl rfl (q_lt hs (by decide)) (Nat.le_refl _) rfl (Nat.le_of_ble_eq_true rfl) ?_
  refine t_ifb_eq C 23 (by decide) dX6_ask_10 (fun c10 => ?_) (fun c10 => ?_)
  · first
    | (exfalso; omega)
    |  (refine r_ldc C _ lc_X6_106 dX6_ask_23 ?_
        exact r_iret C dX6_ask_25 rfl (Nat.le_refl _) rfl rfl)
  · first
    | (exfalso; omega)
    |  (refine r_iload_n C rfl dX6_ask_13 ?_
        refine r_i2l C dX6_ask_14 ?_
        refine r_lconst C 0 rfl dX6_ask_15 ?_
        refine r_lconst C 1 rfl dX6_ask_16 ?_
        refine r_callS C (sp_in G (tI2L hx) (show (0 : Int64).toInt = 0 from rfl) (show (1 : Int64).toInt = 1 from rfl)) ks_X6_in kn_X6_in rfl dX6_ask_17 cl_X6_96 ⟨Nat.le_of_ble_eq_true rfl, Nat.le_of_ble_eq_true rfl⟩ (Nat.le_refl _) rfl (Nat.le_of_ble_eq_true rfl) ?_
        refine t_ifb_ne C 26 (by decide) dX6_ask_20 (fun c20 => ?_) (fun c20 => ?_)
        · first
          | (exfalso; omega)
          |  (refine r_aload_n C rfl rfl dX6_ask_26 ?_
              refine r_iconstv C 0 rfl dX6_ask_27 ?_
              refine r_putI C dX6_ask_28 fl_X6_281 rfl (q_lt hs (by decide)) (Or.inl rfl) ?_
              refine r_iload_n C rfl dX6_ask_31 ?_
              refine t_if_ne C 43 (by decide) hx dX6_ask_32 (fun c32 => ?_) (fun c32 => ?_)
              · first
                | (exfalso; omega)
              · first
                | (exfalso; omega)
                |  (refine r_aload_n C rfl rfl dX6_ask_35 ?_
                    refine r_iload_n C rfl dX6_ask_36 ?_
                    refine r_callV C (sp_weightM3 G (z := 0) (by exact hs) _ hv (by omega) (by exact rfl) (by decide) (by exact hk)) kv_X6_weight kn_X6_weight rfl dX6_ask_37 cl_X6_287 ⟨Nat.le_of_ble_eq_true rfl, Nat.le_of_ble_eq_true rfl⟩ (by decide) rfl rfl (q_lt hs (by decide)) (Nat.le_refl _) rfl (Nat.le_of_ble_eq_true rfl) ?_
                    refine r_goto C 48 (by decide) dX6_ask_40 ?_
                    exact r_iret C dX6_ask_48 rfl (Nat.le_refl _) rfl rfl))
        · first
          | (exfalso; omega)
          |  (refine r_ldc C _ lc_X6_106 dX6_ask_23 ?_
              exact r_iret C dX6_ask_25 rfl (Nat.le_refl _) rfl rfl))

set_option maxHeartbeats 4000000 in
set_option maxRecDepth 100000 in
theorem c_ask13 (G : oG) {h : oH} {n : Nat} (hh : oHs h n) (v : Int32) {i : Nat} (hi : i < n) (hv : v.toInt = (i : Int)) (x : Int32) (hx : x.toInt = 1) (hk : tkC h (hid i) = 3) : oSp G mX5_ask [.ref 0, .int v, .int x] h (some (.int (hI h (hid i) 2 - (hI h (hid i) 8 - hI h (hid i) 9 + 5000)))) (pC (pC (pC (pC (sI h 10 1 0) 0 22) (0 + 1) 20) (0 + 2) 13) (0 + 3) 10) := by
  have hs := hh.1
  refine oSp.intro [some (.ref 0), some (.int v), some (.int x), none] rfl (Nat.le_of_ble_eq_true rfl) (plainFor_of_name (by decide +kernel)) (Nat.le_refl _) ?_
  intro p l e R s m args below meth c C
  refine r_aload_n C rfl rfl dX5_ask_0 ?_
  refine r_iload_n C rfl dX5_ask_1 ?_
  refine r_callV C (sp_houseAt G (by exact hh) _ hi hv) kv_X5_houseAt kn_X5_houseAt rfl dX5_ask_2 cl_X5_77 ⟨Nat.le_of_ble_eq_true rfl, Nat.le_of_ble_eq_true rfl⟩ (by decide) rfl rfl (q_lt hh.1 (by decide)) (Nat.le_refl _) rfl (Nat.le_of_ble_eq_true rfl) ?_
  refine r_astore_n C rfl rfl (Nat.le_of_ble_eq_true rfl) dX5_ask_5 ?_
  refine r_aload_n C rfl rfl dX5_ask_6 ?_
  refine r_ifnull C dX5_ask_7 ?_
  refine r_iload_n C rfl dX5_ask_10 ?_
  refine r_iconstv C 0 rfl dX5_ask_11 ?_
  refine r_iconstv C 1 rfl dX5_ask_12 ?_
  refine r_callS C (sp_isOutside G hx (show (0 : Int32).toInt = 0 from rfl) (show (1 : Int32).toInt = 1 from rfl)) ks_X5_isOutside kn_X5_isOutside rfl dX5_ask_13 cl_X5_68 ⟨Nat.le_of_ble_eq_true rfl, Nat.le_of_ble_eq_true rfl⟩ (Nat.le_refl _) rfl (Nat.le_of_ble_eq_true rfl) ?_
  refine t_ifb_eq C 22 (by decide) dX5_ask_16 (fun c16 => ?_) (fun c16 => ?_)
  · first
    | (exfalso; omega)
    |  (refine r_aload_n C rfl rfl dX5_ask_22 ?_
        refine r_getO C dX5_ask_23 fl_X5_32 rfl rfl (q_lt hh.1 (by decide)) (sh_0_3 hh.1) ?_
        refine r_callV C (sp_empty G (by exact hs)) kv_X0_emptyTrace kn_X0_emptyTrace rfl dX5_ask_26 cl_X5_198 ⟨Nat.le_of_ble_eq_true rfl, Nat.le_of_ble_eq_true rfl⟩ (by decide) rfl rfl (q_lt hh.1 (by decide)) (Nat.le_refl _) rfl (Nat.le_of_ble_eq_true rfl) ?_
        refine r_iload_n C rfl dX5_ask_29 ?_
        refine t_if_ne C 44 (by decide) hx dX5_ask_30 (fun c30 => ?_) (fun c30 => ?_)
        · first
          | (exfalso; omega)
          |  (refine r_aload_n C rfl rfl dX5_ask_44 ?_
              refine r_getO C dX5_ask_45 fl_X5_32 rfl rfl (q_lt hh.1 (by decide)) (sh_0_3 hh.1) ?_
              refine r_aload_n C rfl rfl dX5_ask_48 ?_
              refine r_callV C (sp_mark3 G (z := 0) (by exact hh.1) (tg_hid i) (oHs.lt (by exact hh) hi) (by unfold hid; omega) (by exact rfl) (by decide) (by rw [tk_E]; exact hk)) kv_X0_mark kn_X0_mark rfl dX5_ask_49 cl_X5_205 ⟨Nat.le_of_ble_eq_true rfl, Nat.le_of_ble_eq_true rfl⟩ (by decide) rfl rfl (q_lt hh.1 (by decide)) (Nat.le_refl _) rfl (Nat.le_of_ble_eq_true rfl) ?_
              exact r_iret C dX5_ask_52 rfl (Nat.le_refl _) (by simp only [eE]) rfl)
        · first
          | (exfalso; omega))
  · first
    | (exfalso; omega)
    |  (refine r_ldc C _ lc_X5_72 dX5_ask_19 ?_
        exact r_iret C dX5_ask_21 rfl (Nat.le_refl _) (by simp only [eE]) rfl)

set_option maxHeartbeats 4000000 in
set_option maxRecDepth 100000 in
theorem m_ask13 (G : oG) {h : oH} (hs : oSh h) {n : Nat} (hn : (hI h 12 1).toInt = (n : Int)) (hn24 : n ≤ 24) (v : Int32) {i : Nat} (hi : i < n) (hv : v.toInt = (i : Int)) (x : Int32) (hx : x.toInt = 1) (hk : kM h i = 3) : oSp G mX6_ask [.ref 12, .int v, .int x] h (some (.int (hI h 15 i + -(hI h 17 i - hI h 18 i + 5000)))) (pM (pM (pM (pM (sI (sI h 12 0 0) 12 44 0) 0 22) (0 + 1) 20) (0 + 2) 13) (0 + 3) 10) := by
  refine oSp.intro [some (.ref 12), some (.int v), some (.int x)] rfl (Nat.le_of_ble_eq_true rfl) (plainFor_of_name (by decide +kernel)) (Nat.le_refl _) ?_
  intro p l e R s m args below meth c C
  refine r_aload_n C rfl rfl dX6_ask_0 ?_
  refine r_iconstv C 0 rfl dX6_ask_1 ?_
  refine r_putI C dX6_ask_2 fl_X6_90 rfl (q_lt hs (by decide)) (Or.inl rfl) ?_
  refine r_aload_n C rfl rfl dX6_ask_5 ?_
  refine r_iload_n C rfl dX6_ask_6 ?_
  refine r_callV C (sp_isHouse G (by exact hs) (by exact hn) hn24 _) kv_X6_isHouse kn_X6_isHouse rfl dX6_ask_7 cl_X6_108 ⟨Nat.le_of_ble_eq_true rfl, Nat.le_of_ble_eq_true rfl⟩ (by decide) rfl rfl (q_lt hs (by decide)) (Nat.le_refl _) rfl (Nat.le_of_ble_eq_true rfl) ?_
  refine t_ifb_eq C 23 (by decide) dX6_ask_10 (fun c10 => ?_) (fun c10 => ?_)
  · first
    | (exfalso; omega)
    |  (refine r_ldc C _ lc_X6_106 dX6_ask_23 ?_
        exact r_iret C dX6_ask_25 rfl (Nat.le_refl _) rfl rfl)
  · first
    | (exfalso; omega)
    |  (refine r_iload_n C rfl dX6_ask_13 ?_
        refine r_i2l C dX6_ask_14 ?_
        refine r_lconst C 0 rfl dX6_ask_15 ?_
        refine r_lconst C 1 rfl dX6_ask_16 ?_
        refine r_callS C (sp_in G (tI2L hx) (show (0 : Int64).toInt = 0 from rfl) (show (1 : Int64).toInt = 1 from rfl)) ks_X6_in kn_X6_in rfl dX6_ask_17 cl_X6_96 ⟨Nat.le_of_ble_eq_true rfl, Nat.le_of_ble_eq_true rfl⟩ (Nat.le_refl _) rfl (Nat.le_of_ble_eq_true rfl) ?_
        refine t_ifb_ne C 26 (by decide) dX6_ask_20 (fun c20 => ?_) (fun c20 => ?_)
        · first
          | (exfalso; omega)
          |  (refine r_aload_n C rfl rfl dX6_ask_26 ?_
              refine r_iconstv C 0 rfl dX6_ask_27 ?_
              refine r_putI C dX6_ask_28 fl_X6_281 rfl (q_lt hs (by decide)) (Or.inl rfl) ?_
              refine r_iload_n C rfl dX6_ask_31 ?_
              refine t_if_ne C 43 (by decide) hx dX6_ask_32 (fun c32 => ?_) (fun c32 => ?_)
              · first
                | (exfalso; omega)
                |  (refine r_aload_n C rfl rfl dX6_ask_43 ?_
                    refine r_iload_n C rfl dX6_ask_44 ?_
                    refine r_callV C (sp_marked3 G (z := 0) (by exact hs) _ hv (by omega) (by exact rfl) (by decide) (by exact hk)) kv_X6_marked kn_X6_marked rfl dX6_ask_45 cl_X6_290 ⟨Nat.le_of_ble_eq_true rfl, Nat.le_of_ble_eq_true rfl⟩ (by decide) rfl rfl (q_lt hs (by decide)) (Nat.le_refl _) rfl (Nat.le_of_ble_eq_true rfl) ?_
                    exact r_iret C dX6_ask_48 rfl (Nat.le_refl _) rfl rfl)
              · first
                | (exfalso; omega))
        · first
          | (exfalso; omega)
          |  (refine r_ldc C _ lc_X6_106 dX6_ask_23 ?_
              exact r_iret C dX6_ask_25 rfl (Nat.le_refl _) rfl rfl))

set_option maxHeartbeats 4000000 in
set_option maxRecDepth 100000 in
theorem c_askX (G : oG) {h : oH} {n : Nat} (hh : oHs h n) (v : Int32) {i : Nat} (hi : i < n) (hv : v.toInt = (i : Int)) (x : Int32) (hx : ¬ (0 ≤ x.toInt ∧ x.toInt ≤ 1)) : oSp G mX5_ask [.ref 0, .int v, .int x] h (some (.int (-1000001))) h := by
  refine oSp.intro [some (.ref 0), some (.int v), some (.int x), none] rfl (Nat.le_of_ble_eq_true rfl) (plainFor_of_name (by decide +kernel)) (Nat.le_refl _) ?_
  intro p l e R s m args below meth c C
  refine r_aload_n C rfl rfl dX5_ask_0 ?_
  refine r_iload_n C rfl dX5_ask_1 ?_
  refine r_callV C (sp_houseAt G (by exact hh) _ hi hv) kv_X5_houseAt kn_X5_houseAt rfl dX5_ask_2 cl_X5_77 ⟨Nat.le_of_ble_eq_true rfl, Nat.le_of_ble_eq_true rfl⟩ (by decide) rfl rfl (q_lt hh.1 (by decide)) (Nat.le_refl _) rfl (Nat.le_of_ble_eq_true rfl) ?_
  refine r_astore_n C rfl rfl (Nat.le_of_ble_eq_true rfl) dX5_ask_5 ?_
  refine r_aload_n C rfl rfl dX5_ask_6 ?_
  refine r_ifnull C dX5_ask_7 ?_
  refine r_iload_n C rfl dX5_ask_10 ?_
  refine r_iconstv C 0 rfl dX5_ask_11 ?_
  refine r_iconstv C 1 rfl dX5_ask_12 ?_
  refine r_callS C (sp_isOutside G rfl (show (0 : Int32).toInt = 0 from rfl) (show (1 : Int32).toInt = 1 from rfl)) ks_X5_isOutside kn_X5_isOutside rfl dX5_ask_13 cl_X5_68 ⟨Nat.le_of_ble_eq_true rfl, Nat.le_of_ble_eq_true rfl⟩ (Nat.le_refl _) rfl (Nat.le_of_ble_eq_true rfl) ?_
  refine t_ifb_eq C 22 (by decide) dX5_ask_16 (fun c16 => ?_) (fun c16 => ?_)
  · first
    | (exfalso; omega)
  · first
    | (exfalso; omega)
    |  (refine r_ldc C _ lc_X5_72 dX5_ask_19 ?_
        exact r_iret C dX5_ask_21 rfl (Nat.le_refl _) rfl rfl)

set_option maxHeartbeats 4000000 in
set_option maxRecDepth 100000 in
theorem c_askN (G : oG) {h : oH} {n : Nat} (hh : oHs h n) (v : Int32) (hv : ¬ (0 ≤ v.toInt ∧ v.toInt < n)) (x : Int32) : oSp G mX5_ask [.ref 0, .int v, .int x] h (some (.int (-1000001))) h := by
  refine oSp.intro [some (.ref 0), some (.int v), some (.int x), none] rfl (Nat.le_of_ble_eq_true rfl) (plainFor_of_name (by decide +kernel)) (Nat.le_refl _) ?_
  intro p l e R s m args below meth c C
  refine r_aload_n C rfl rfl dX5_ask_0 ?_
  refine r_iload_n C rfl dX5_ask_1 ?_
  refine r_callV C (sp_houseAtN G (by exact hh) _ hv) kv_X5_houseAt kn_X5_houseAt rfl dX5_ask_2 cl_X5_77 ⟨Nat.le_of_ble_eq_true rfl, Nat.le_of_ble_eq_true rfl⟩ (by decide) rfl rfl (q_lt hh.1 (by decide)) (Nat.le_refl _) rfl (Nat.le_of_ble_eq_true rfl) ?_
  refine r_astore_n C rfl rfl (Nat.le_of_ble_eq_true rfl) dX5_ask_5 ?_
  refine r_aload_n C rfl rfl dX5_ask_6 ?_
  refine r_ifnullN C 19 (by decide) dX5_ask_7 ?_
  refine r_ldc C _ lc_X5_72 dX5_ask_19 ?_
  exact r_iret C dX5_ask_21 rfl (Nat.le_refl _) rfl rfl

set_option maxHeartbeats 4000000 in
set_option maxRecDepth 100000 in
theorem m_askX (G : oG) {h : oH} (hs : oSh h) {n : Nat} (hn : (hI h 12 1).toInt = (n : Int)) (hn24 : n ≤ 24) (v : Int32) {i : Nat} (hi : i < n) (hv : v.toInt = (i : Int)) (x : Int32) (hx : ¬ (0 ≤ x.toInt ∧ x.toInt ≤ 1)) : oSp G mX6_ask [.ref 12, .int v, .int x] h (some (.int (-1000001))) (sI h 12 0 0) := by
  refine oSp.intro [some (.ref 12), some (.int v), some (.int x)] rfl (Nat.le_of_ble_eq_true rfl) (plainFor_of_name (by decide +kernel)) (Nat.le_refl _) ?_
  intro p l e R s m args below meth c C
  refine r_aload_n C rfl rfl dX6_ask_0 ?_
  refine r_iconstv C 0 rfl dX6_ask_1 ?_
  refine r_putI C dX6_ask_2 fl_X6_90 rfl (q_lt hs (by decide)) (Or.inl rfl) ?_
  refine r_aload_n C rfl rfl dX6_ask_5 ?_
  refine r_iload_n C rfl dX6_ask_6 ?_
  refine r_callV C (sp_isHouse G (by exact hs) (by exact hn) hn24 _) kv_X6_isHouse kn_X6_isHouse rfl dX6_ask_7 cl_X6_108 ⟨Nat.le_of_ble_eq_true rfl, Nat.le_of_ble_eq_true rfl⟩ (by decide) rfl rfl (q_lt hs (by decide)) (Nat.le_refl _) rfl (Nat.le_of_ble_eq_true rfl) ?_
  refine t_ifb_eq C 23 (by decide) dX6_ask_10 (fun c10 => ?_) (fun c10 => ?_)
  · first
    | (exfalso; omega)
    |  (refine r_ldc C _ lc_X6_106 dX6_ask_23 ?_
        exact r_iret C dX6_ask_25 rfl (Nat.le_refl _) rfl rfl)
  · first
    | (exfalso; omega)
    |  (refine r_iload_n C rfl dX6_ask_13 ?_
        refine r_i2l C dX6_ask_14 ?_
        refine r_lconst C 0 rfl dX6_ask_15 ?_
        refine r_lconst C 1 rfl dX6_ask_16 ?_
        refine r_callS C (sp_in G (tI2L rfl) (show (0 : Int64).toInt = 0 from rfl) (show (1 : Int64).toInt = 1 from rfl)) ks_X6_in kn_X6_in rfl dX6_ask_17 cl_X6_96 ⟨Nat.le_of_ble_eq_true rfl, Nat.le_of_ble_eq_true rfl⟩ (Nat.le_refl _) rfl (Nat.le_of_ble_eq_true rfl) ?_
        refine t_ifb_ne C 26 (by decide) dX6_ask_20 (fun c20 => ?_) (fun c20 => ?_)
        · first
          | (exfalso; omega)
          |  (refine r_aload_n C rfl rfl dX6_ask_26 ?_
              refine r_iconstv C 0 rfl dX6_ask_27 ?_
              refine r_putI C dX6_ask_28 fl_X6_281 rfl (q_lt hs (by decide)) (Or.inl rfl) ?_
              refine r_iload_n C rfl dX6_ask_31 ?_
              refine t_if_ne C 43 (by decide) rfl dX6_ask_32 (fun c32 => ?_) (fun c32 => ?_)
              · first
                | (exfalso; omega)
              · first
                | (exfalso; omega))
        · first
          | (exfalso; omega)
          |  (refine r_ldc C _ lc_X6_106 dX6_ask_23 ?_
              exact r_iret C dX6_ask_25 rfl (Nat.le_refl _) rfl rfl))

set_option maxHeartbeats 4000000 in
set_option maxRecDepth 100000 in
theorem m_askN (G : oG) {h : oH} (hs : oSh h) {n : Nat} (hn : (hI h 12 1).toInt = (n : Int)) (hn24 : n ≤ 24) (v : Int32) (hv : ¬ (0 ≤ v.toInt ∧ v.toInt < n)) (x : Int32) : oSp G mX6_ask [.ref 12, .int v, .int x] h (some (.int (-1000001))) (sI h 12 0 0) := by
  refine oSp.intro [some (.ref 12), some (.int v), some (.int x)] rfl (Nat.le_of_ble_eq_true rfl) (plainFor_of_name (by decide +kernel)) (Nat.le_refl _) ?_
  intro p l e R s m args below meth c C
  refine r_aload_n C rfl rfl dX6_ask_0 ?_
  refine r_iconstv C 0 rfl dX6_ask_1 ?_
  refine r_putI C dX6_ask_2 fl_X6_90 rfl (q_lt hs (by decide)) (Or.inl rfl) ?_
  refine r_aload_n C rfl rfl dX6_ask_5 ?_
  refine r_iload_n C rfl dX6_ask_6 ?_
  refine r_callV C (sp_isHouse G (by exact hs) (by exact hn) hn24 _) kv_X6_isHouse kn_X6_isHouse rfl dX6_ask_7 cl_X6_108 ⟨Nat.le_of_ble_eq_true rfl, Nat.le_of_ble_eq_true rfl⟩ (by decide) rfl rfl (q_lt hs (by decide)) (Nat.le_refl _) rfl (Nat.le_of_ble_eq_true rfl) ?_
  refine t_ifb_eq C 23 (by decide) dX6_ask_10 (fun c10 => ?_) (fun c10 => ?_)
  · first
    | (exfalso; omega)
    |  (refine r_ldc C _ lc_X6_106 dX6_ask_23 ?_
        exact r_iret C dX6_ask_25 rfl (Nat.le_refl _) rfl rfl)
  · first
    | (exfalso; omega)
    |  (refine r_iload_n C rfl dX6_ask_13 ?_
        refine r_i2l C dX6_ask_14 ?_
        refine r_lconst C 0 rfl dX6_ask_15 ?_
        refine r_lconst C 1 rfl dX6_ask_16 ?_
        refine r_callS C (sp_in G (tI2L rfl) (show (0 : Int64).toInt = 0 from rfl) (show (1 : Int64).toInt = 1 from rfl)) ks_X6_in kn_X6_in rfl dX6_ask_17 cl_X6_96 ⟨Nat.le_of_ble_eq_true rfl, Nat.le_of_ble_eq_true rfl⟩ (Nat.le_refl _) rfl (Nat.le_of_ble_eq_true rfl) ?_
        refine t_ifb_ne C 26 (by decide) dX6_ask_20 (fun c20 => ?_) (fun c20 => ?_)
        · first
          | (exfalso; omega)
          |  (refine r_aload_n C rfl rfl dX6_ask_26 ?_
              refine r_iconstv C 0 rfl dX6_ask_27 ?_
              refine r_putI C dX6_ask_28 fl_X6_281 rfl (q_lt hs (by decide)) (Or.inl rfl) ?_
              refine r_iload_n C rfl dX6_ask_31 ?_
              refine t_if_ne C 43 (by decide) rfl dX6_ask_32 (fun c32 => ?_) (fun c32 => ?_)
              · first
                | (exfalso; omega)
              · first
                | (exfalso; omega))
        · first
          | (exfalso; omega)
          |  (refine r_ldc C _ lc_X6_106 dX6_ask_23 ?_
              exact r_iret C dX6_ask_25 rfl (Nat.le_refl _) rfl rfl))

set_option maxHeartbeats 4000000 in
set_option maxRecDepth 100000 in
theorem sp_traced (G : oG) {h : oH} (hs : oSh h) {z : Nat} (hz : (hI h 10 1).toInt = (z : Int)) (hl : z ≤ 16) (v : Int32) {j : Nat} (hv : v.toInt = (j : Int)) (hj : j < z) : oSp G mX0_traced [.ref 10, .int v] h (some (.int (hI h 11 j))) h := by
  refine oSp.intro [some (.ref 10), some (.int v)] rfl (Nat.le_of_ble_eq_true rfl) (plainFor_of_name (by decide +kernel)) (Nat.le_refl _) ?_
  intro p l e R s m args below meth c C
  refine r_iload_n C rfl dX0_traced_0 ?_
  refine t_if_lt C 21 (by decide) hv dX0_traced_1 (fun c1 => ?_) (fun c1 => ?_)
  · first
    | (exfalso; omega)
    |  (refine r_ldc C _ lc_X0_19 dX0_traced_21 ?_
        refine r_goto C 32 (by decide) dX0_traced_23 ?_
        exact r_iret C dX0_traced_32 rfl (Nat.le_refl _) rfl rfl)
  · first
    | (exfalso; omega)
    |  (refine r_iload_n C rfl dX0_traced_4 ?_
        refine r_aload_n C rfl rfl dX0_traced_5 ?_
        refine r_getI C dX0_traced_6 fl_X0_15 rfl (q_lt hs (by decide)) ?_
        refine t_icmp_ge C 21 (by decide) hv hz dX0_traced_9 (fun c9 => ?_) (fun c9 => ?_)
        · first
          | (exfalso; omega)
          |  (refine r_ldc C _ lc_X0_19 dX0_traced_21 ?_
              refine r_goto C 32 (by decide) dX0_traced_23 ?_
              exact r_iret C dX0_traced_32 rfl (Nat.le_refl _) rfl rfl)
        · first
          | (exfalso; omega)
          |  (refine r_iload_n C rfl dX0_traced_12 ?_
              refine r_aload_n C rfl rfl dX0_traced_13 ?_
              refine r_getO C dX0_traced_14 fl_X0_9 rfl rfl (q_lt hs (by decide)) (sh_10_0 hs) ?_
              refine r_alen C 16 dX0_traced_17 rfl (by decide) (q_lt hs (by decide)) rfl ?_
              refine t_icmp_lt C 26 (by decide) hv (show (16 : Int32).toInt = 16 from rfl) dX0_traced_18 (fun c18 => ?_) (fun c18 => ?_)
              · first
                | (exfalso; omega)
                |  (refine r_aload_n C rfl rfl dX0_traced_26 ?_
                    refine r_getO C dX0_traced_27 fl_X0_9 rfl rfl (q_lt hs (by decide)) (sh_10_0 hs) ?_
                    refine r_iload_n C rfl dX0_traced_30 ?_
                    refine r_iald C (j) hv (by omega) dX0_traced_31 rfl (q_lt hs (by decide)) ?_
                    exact r_iret C dX0_traced_32 rfl (Nat.le_refl _) rfl rfl)
              · first
                | (exfalso; omega)
                |  (refine r_ldc C _ lc_X0_19 dX0_traced_21 ?_
                    refine r_goto C 32 (by decide) dX0_traced_23 ?_
                    exact r_iret C dX0_traced_32 rfl (Nat.le_refl _) rfl rfl)))

set_option maxHeartbeats 4000000 in
set_option maxRecDepth 100000 in
theorem sp_tracedN (G : oG) {h : oH} (hs : oSh h) {z : Nat} (hz : (hI h 10 1).toInt = (z : Int)) (hl : z ≤ 16) (v : Int32) (hv : ¬ (0 ≤ v.toInt ∧ v.toInt < z)) : oSp G mX0_traced [.ref 10, .int v] h (some (.int (-1000000))) h := by
  refine oSp.intro [some (.ref 10), some (.int v)] rfl (Nat.le_of_ble_eq_true rfl) (plainFor_of_name (by decide +kernel)) (Nat.le_refl _) ?_
  intro p l e R s m args below meth c C
  refine r_iload_n C rfl dX0_traced_0 ?_
  refine t_if_lt C 21 (by decide) rfl dX0_traced_1 (fun c1 => ?_) (fun c1 => ?_)
  · first
    | (exfalso; omega)
    |  (refine r_ldc C _ lc_X0_19 dX0_traced_21 ?_
        refine r_goto C 32 (by decide) dX0_traced_23 ?_
        exact r_iret C dX0_traced_32 rfl (Nat.le_refl _) rfl rfl)
  · first
    | (exfalso; omega)
    |  (refine r_iload_n C rfl dX0_traced_4 ?_
        refine r_aload_n C rfl rfl dX0_traced_5 ?_
        refine r_getI C dX0_traced_6 fl_X0_15 rfl (q_lt hs (by decide)) ?_
        refine t_icmp_ge C 21 (by decide) rfl hz dX0_traced_9 (fun c9 => ?_) (fun c9 => ?_)
        · first
          | (exfalso; omega)
          |  (refine r_ldc C _ lc_X0_19 dX0_traced_21 ?_
              refine r_goto C 32 (by decide) dX0_traced_23 ?_
              exact r_iret C dX0_traced_32 rfl (Nat.le_refl _) rfl rfl)
        · first
          | (exfalso; omega)
          |  (refine r_iload_n C rfl dX0_traced_12 ?_
              refine r_aload_n C rfl rfl dX0_traced_13 ?_
              refine r_getO C dX0_traced_14 fl_X0_9 rfl rfl (q_lt hs (by decide)) (sh_10_0 hs) ?_
              refine r_alen C 16 dX0_traced_17 rfl (by decide) (q_lt hs (by decide)) rfl ?_
              refine t_icmp_lt C 26 (by decide) rfl (show (16 : Int32).toInt = 16 from rfl) dX0_traced_18 (fun c18 => ?_) (fun c18 => ?_)
              · first
                | (exfalso; omega)
                |  (refine r_aload_n C rfl rfl dX0_traced_26 ?_
                    refine r_getO C dX0_traced_27 fl_X0_9 rfl rfl (q_lt hs (by decide)) (sh_10_0 hs) ?_
                    refine r_iload_n C rfl dX0_traced_30 ?_
                    refine r_iald C (v.toInt.toNat) (by omega) (by omega) dX0_traced_31 rfl (q_lt hs (by decide)) ?_
                    exact r_iret C dX0_traced_32 rfl (Nat.le_refl _) rfl rfl)
              · first
                | (exfalso; omega)
                |  (refine r_ldc C _ lc_X0_19 dX0_traced_21 ?_
                    refine r_goto C 32 (by decide) dX0_traced_23 ?_
                    exact r_iret C dX0_traced_32 rfl (Nat.le_refl _) rfl rfl)))

set_option maxHeartbeats 4000000 in
set_option maxRecDepth 100000 in
theorem c_trace (G : oG) {h : oH} (hs : oSh h) {z : Nat} (hz : (hI h 10 1).toInt = (z : Int)) (hl : z ≤ 16) (v : Int32) {j : Nat} (hv : v.toInt = (j : Int)) (hj : j < z) : oSp G mX5_trace [.ref 0, .int v] h (some (.int (hI h 11 j))) h := by
  refine oSp.intro [some (.ref 0), some (.int v)] rfl (Nat.le_of_ble_eq_true rfl) (plainFor_of_name (by decide +kernel)) (Nat.le_refl _) ?_
  intro p l e R s m args below meth c C
  refine r_aload_n C rfl rfl dX5_trace_0 ?_
  refine r_getO C dX5_trace_1 fl_X5_32 rfl rfl (q_lt hs (by decide)) (sh_0_3 hs) ?_
  refine r_iload_n C rfl dX5_trace_4 ?_
  refine r_callV C (sp_traced G (by exact hs) hz hl _ hv hj) kv_X0_traced kn_X0_traced rfl dX5_trace_5 cl_X5_208 ⟨Nat.le_of_ble_eq_true rfl, Nat.le_of_ble_eq_true rfl⟩ (by decide) rfl rfl (q_lt hs (by decide)) (Nat.le_refl _) rfl (Nat.le_of_ble_eq_true rfl) ?_
  exact r_iret C dX5_trace_8 rfl (Nat.le_refl _) rfl rfl

set_option maxHeartbeats 4000000 in
set_option maxRecDepth 100000 in
theorem c_traceN (G : oG) {h : oH} (hs : oSh h) {z : Nat} (hz : (hI h 10 1).toInt = (z : Int)) (hl : z ≤ 16) (v : Int32) (hv : ¬ (0 ≤ v.toInt ∧ v.toInt < z)) : oSp G mX5_trace [.ref 0, .int v] h (some (.int (-1000000))) h := by
  refine oSp.intro [some (.ref 0), some (.int v)] rfl (Nat.le_of_ble_eq_true rfl) (plainFor_of_name (by decide +kernel)) (Nat.le_refl _) ?_
  intro p l e R s m args below meth c C
  refine r_aload_n C rfl rfl dX5_trace_0 ?_
  refine r_getO C dX5_trace_1 fl_X5_32 rfl rfl (q_lt hs (by decide)) (sh_0_3 hs) ?_
  refine r_iload_n C rfl dX5_trace_4 ?_
  refine r_callV C (sp_tracedN G (by exact hs) hz hl _ hv) kv_X0_traced kn_X0_traced rfl dX5_trace_5 cl_X5_208 ⟨Nat.le_of_ble_eq_true rfl, Nat.le_of_ble_eq_true rfl⟩ (by decide) rfl rfl (q_lt hs (by decide)) (Nat.le_refl _) rfl (Nat.le_of_ble_eq_true rfl) ?_
  exact r_iret C dX5_trace_8 rfl (Nat.le_refl _) rfl rfl

set_option maxHeartbeats 4000000 in
set_option maxRecDepth 100000 in
theorem m_trace (G : oG) {h : oH} (hs : oSh h) {z : Nat} (hz : (hI h 12 44).toInt = (z : Int)) (hl : z ≤ 16) (v : Int32) {j : Nat} (hv : v.toInt = (j : Int)) (hj : j < z) : oSp G mX6_trace [.ref 12, .int v] h (some (.int (hI h 34 j))) (sI h 12 0 0) := by
  refine oSp.intro [some (.ref 12), some (.int v)] rfl (Nat.le_of_ble_eq_true rfl) (plainFor_of_name (by decide +kernel)) (Nat.le_refl _) ?_
  intro p l e R s m args below meth c C
  refine r_aload_n C rfl rfl dX6_trace_0 ?_
  refine r_iconstv C 0 rfl dX6_trace_1 ?_
  refine r_putI C dX6_trace_2 fl_X6_90 rfl (q_lt hs (by decide)) (Or.inl rfl) ?_
  refine r_iload_n C rfl dX6_trace_5 ?_
  refine r_i2l C dX6_trace_6 ?_
  refine r_lconst C 0 rfl dX6_trace_7 ?_
  refine r_aload_n C rfl rfl dX6_trace_8 ?_
  refine r_getI C dX6_trace_9 fl_X6_281 rfl (q_lt hs (by decide)) ?_
  refine r_iconstv C 1 rfl dX6_trace_12 ?_
  refine r_isub C dX6_trace_13 ?_
  refine r_i2l C dX6_trace_14 ?_
  refine r_callS C (sp_in G (tI2L hv) (show (0 : Int64).toInt = 0 from rfl) (tI2L (tS hz (show (1 : Int32).toInt = 1 from rfl) (by omega)))) ks_X6_in kn_X6_in rfl dX6_trace_15 cl_X6_96 ⟨Nat.le_of_ble_eq_true rfl, Nat.le_of_ble_eq_true rfl⟩ (Nat.le_refl _) rfl (Nat.le_of_ble_eq_true rfl) ?_
  refine t_ifb_eq C 30 (by decide) dX6_trace_18 (fun c18 => ?_) (fun c18 => ?_)
  · first
    | (exfalso; omega)
    |  (refine r_ldc C _ lc_X6_145 dX6_trace_30 ?_
        exact r_iret C dX6_trace_32 rfl (Nat.le_refl _) rfl rfl)
  · first
    | (exfalso; omega)
    |  (refine r_aload_n C rfl rfl dX6_trace_21 ?_
        refine r_getO C dX6_trace_22 fl_X6_87 rfl rfl (q_lt hs (by decide)) (sh_12_43 hs) ?_
        refine r_iload_n C rfl dX6_trace_25 ?_
        refine r_iald C (j) hv (by omega) dX6_trace_26 rfl (q_lt hs (by decide)) ?_
        refine r_goto C 32 (by decide) dX6_trace_27 ?_
        exact r_iret C dX6_trace_32 rfl (Nat.le_refl _) rfl rfl)

set_option maxHeartbeats 4000000 in
set_option maxRecDepth 100000 in
theorem m_traceN (G : oG) {h : oH} (hs : oSh h) {z : Nat} (hz : (hI h 12 44).toInt = (z : Int)) (hl : z ≤ 16) (v : Int32) (hv : ¬ (0 ≤ v.toInt ∧ v.toInt < z)) : oSp G mX6_trace [.ref 12, .int v] h (some (.int (-1000000))) (sI h 12 0 0) := by
  refine oSp.intro [some (.ref 12), some (.int v)] rfl (Nat.le_of_ble_eq_true rfl) (plainFor_of_name (by decide +kernel)) (Nat.le_refl _) ?_
  intro p l e R s m args below meth c C
  refine r_aload_n C rfl rfl dX6_trace_0 ?_
  refine r_iconstv C 0 rfl dX6_trace_1 ?_
  refine r_putI C dX6_trace_2 fl_X6_90 rfl (q_lt hs (by decide)) (Or.inl rfl) ?_
  refine r_iload_n C rfl dX6_trace_5 ?_
  refine r_i2l C dX6_trace_6 ?_
  refine r_lconst C 0 rfl dX6_trace_7 ?_
  refine r_aload_n C rfl rfl dX6_trace_8 ?_
  refine r_getI C dX6_trace_9 fl_X6_281 rfl (q_lt hs (by decide)) ?_
  refine r_iconstv C 1 rfl dX6_trace_12 ?_
  refine r_isub C dX6_trace_13 ?_
  refine r_i2l C dX6_trace_14 ?_
  refine r_callS C (sp_in G (tI2L rfl) (show (0 : Int64).toInt = 0 from rfl) (tI2L (tS hz (show (1 : Int32).toInt = 1 from rfl) (by omega)))) ks_X6_in kn_X6_in rfl dX6_trace_15 cl_X6_96 ⟨Nat.le_of_ble_eq_true rfl, Nat.le_of_ble_eq_true rfl⟩ (Nat.le_refl _) rfl (Nat.le_of_ble_eq_true rfl) ?_
  refine t_ifb_eq C 30 (by decide) dX6_trace_18 (fun c18 => ?_) (fun c18 => ?_)
  · first
    | (exfalso; omega)
    |  (refine r_ldc C _ lc_X6_145 dX6_trace_30 ?_
        exact r_iret C dX6_trace_32 rfl (Nat.le_refl _) rfl rfl)
  · first
    | (exfalso; omega)
    |  (refine r_aload_n C rfl rfl dX6_trace_21 ?_
        refine r_getO C dX6_trace_22 fl_X6_87 rfl rfl (q_lt hs (by decide)) (sh_12_43 hs) ?_
        refine r_iload_n C rfl dX6_trace_25 ?_
        refine r_iald C (v.toInt.toNat) (by omega) (by omega) dX6_trace_26 rfl (q_lt hs (by decide)) ?_
        refine r_goto C 32 (by decide) dX6_trace_27 ?_
        exact r_iret C dX6_trace_32 rfl (Nat.le_refl _) rfl rfl)

set_option maxHeartbeats 4000000 in
set_option maxRecDepth 100000 in
theorem case_trace (G : oG) {h : oH} {n T : Nat} (I : Inv h n T) (v : Int32) : Case G mX5_trace mX6_trace [.int v] h n T := by
  obtain ⟨⟨a1, a2, a3⟩, ⟨b1, b2, b3⟩, ⟨c1, c2, c3⟩, ⟨d1, d2, d3⟩, ⟨e1, e2, e3⟩, ⟨f1, f2, f3⟩, g1, g2, g3⟩ := id I.2.2.1
  have hs := I.1.1
  have hh := I.1
  obtain ⟨z, z1, z2, z3, z4⟩ := I.2.2.2.2.2.1
  by_cases hval : 0 ≤ v.toInt ∧ v.toInt < z
  · obtain ⟨j, hj, hv⟩ : ∃ j : Nat, j < z ∧ v.toInt = (j : Int) := ⟨v.toInt.toNat, by omega, by omega⟩
    exact case_same G I (c_trace G hs z2 z1 v hv hj) (m_trace G hs z3 z1 v hv hj) (z4 j hj)
  · exact case_bad G I (c_traceN G hs z2 z1 v hval) (m_traceN G hs z3 z1 v hval)

