/-! the plain calls, on both sides -/
theorem oSp.ri {G : oG} {M : oM} {as : List Value} {h h' : oH} {x y : Int32} (q : oSp G M as h (some (.int x)) h') (e : y = x) : oSp G M as h (some (.int y)) h' := by
  rw [e]
  exact q
theorem tAL {a b : Int64} {x y : Int} (ha : a.toInt = x) (hb : b.toInt = y) (h : -9223372036854775808 ≤ x + y ∧ x + y < 9223372036854775808) : (a + b).toInt = x + y := by
  rw [Int64.toInt_add, ha, hb]
  exact Int.bmod_eq_of_le (by omega) (by omega)
theorem case_bad (G : oG) {mc mm : oM} {as : List Value} {h : oH} {n T : Nat} {r : Int32} (I : Inv h n T) (q1 : oSp G mc (.ref 0 :: as) h (some (.int r)) h) (q2 : oSp G mm (.ref 12 :: as) h (some (.int r)) (sI h 12 0 0)) : Case G mc mm as h n T := ⟨r, h, _, n, q1, q2, (I.th 0).mono (Nat.le_succ T)⟩
theorem case_same (G : oG) {mc mm : oM} {as : List Value} {h : oH} {n T : Nat} {r r' : Int32} (I : Inv h n T) (q1 : oSp G mc (.ref 0 :: as) h (some (.int r)) h) (q2 : oSp G mm (.ref 12 :: as) h (some (.int r')) (sI h 12 0 0)) (e : r = r') : Case G mc mm as h n T := case_bad G I q1 (q2.ri e)
set_option maxHeartbeats 4000000 in
set_option maxRecDepth 100000 in
theorem c_lorry (G : oG) {h : oH} (hs : oSh h) (x : Int32) (hx : (100 ≤ x.toInt ∧ x.toInt ≤ 9000)) : oSp G mX5_lorry [.ref 0, .int x] h (some (.int (hI h 0 8))) (sI h 0 8 x) := by
  refine oSp.intro [some (.ref 0), some (.int x), none] rfl (Nat.le_of_ble_eq_true rfl) (plainFor_of_name (by decide +kernel)) (Nat.le_refl _) ?_
  intro p l e R s m args below meth c C
  refine r_iload_n C rfl dX5_lorry_0 ?_
  refine r_bipush C 100 rfl dX5_lorry_1 ?_
  refine r_sipush C 9000 rfl dX5_lorry_3 ?_
  refine r_callS C (sp_isOutside G rfl (show (100 : Int32).toInt = 100 from rfl) (show (9000 : Int32).toInt = 9000 from rfl)) ks_X5_isOutside kn_X5_isOutside rfl dX5_lorry_6 cl_X5_68 ⟨Nat.le_of_ble_eq_true rfl, Nat.le_of_ble_eq_true rfl⟩ (Nat.le_refl _) rfl (Nat.le_of_ble_eq_true rfl) ?_
  refine t_ifb_eq C 15 (by decide) dX5_lorry_9 (fun c9 => ?_) (fun c9 => ?_)
  · first
    | (exfalso; omega)
    |  (refine r_aload_n C rfl rfl dX5_lorry_15 ?_
        refine r_getI C dX5_lorry_16 fl_X5_49 rfl (q_lt hs (by decide)) ?_
        refine r_istore_n C rfl (Nat.le_of_ble_eq_true rfl) dX5_lorry_19 ?_
        refine r_aload_n C rfl rfl dX5_lorry_20 ?_
        refine r_iload_n C rfl dX5_lorry_21 ?_
        refine r_putI C dX5_lorry_22 fl_X5_49 rfl (q_lt hs (by decide)) (Or.inl rfl) ?_
        refine r_iload_n C rfl dX5_lorry_25 ?_
        exact r_iret C dX5_lorry_26 rfl (Nat.le_refl _) rfl rfl)
  · first
    | (exfalso; omega)
    |  (refine r_ldc C _ lc_X5_72 dX5_lorry_12 ?_
        exact r_iret C dX5_lorry_14 rfl (Nat.le_refl _) rfl rfl)

set_option maxHeartbeats 4000000 in
set_option maxRecDepth 100000 in
theorem c_lorryB (G : oG) {h : oH} (hs : oSh h) (x : Int32) (hx : ¬ (100 ≤ x.toInt ∧ x.toInt ≤ 9000)) : oSp G mX5_lorry [.ref 0, .int x] h (some (.int (-1000001))) h := by
  refine oSp.intro [some (.ref 0), some (.int x), none] rfl (Nat.le_of_ble_eq_true rfl) (plainFor_of_name (by decide +kernel)) (Nat.le_refl _) ?_
  intro p l e R s m args below meth c C
  refine r_iload_n C rfl dX5_lorry_0 ?_
  refine r_bipush C 100 rfl dX5_lorry_1 ?_
  refine r_sipush C 9000 rfl dX5_lorry_3 ?_
  refine r_callS C (sp_isOutside G rfl (show (100 : Int32).toInt = 100 from rfl) (show (9000 : Int32).toInt = 9000 from rfl)) ks_X5_isOutside kn_X5_isOutside rfl dX5_lorry_6 cl_X5_68 ⟨Nat.le_of_ble_eq_true rfl, Nat.le_of_ble_eq_true rfl⟩ (Nat.le_refl _) rfl (Nat.le_of_ble_eq_true rfl) ?_
  refine t_ifb_eq C 15 (by decide) dX5_lorry_9 (fun c9 => ?_) (fun c9 => ?_)
  · first
    | (exfalso; omega)
    |  (refine r_aload_n C rfl rfl dX5_lorry_15 ?_
        refine r_getI C dX5_lorry_16 fl_X5_49 rfl (q_lt hs (by decide)) ?_
        refine r_istore_n C rfl (Nat.le_of_ble_eq_true rfl) dX5_lorry_19 ?_
        refine r_aload_n C rfl rfl dX5_lorry_20 ?_
        refine r_iload_n C rfl dX5_lorry_21 ?_
        refine r_putI C dX5_lorry_22 fl_X5_49 rfl (q_lt hs (by decide)) (Or.inl rfl) ?_
        refine r_iload_n C rfl dX5_lorry_25 ?_
        exact r_iret C dX5_lorry_26 rfl (Nat.le_refl _) rfl rfl)
  · first
    | (exfalso; omega)
    |  (refine r_ldc C _ lc_X5_72 dX5_lorry_12 ?_
        exact r_iret C dX5_lorry_14 rfl (Nat.le_refl _) rfl rfl)

set_option maxHeartbeats 4000000 in
set_option maxRecDepth 100000 in
theorem m_lorry (G : oG) {h : oH} (hs : oSh h) (x : Int32) (hx : (100 ≤ x.toInt ∧ x.toInt ≤ 9000)) : oSp G mX6_lorry [.ref 12, .int x] h (some (.int (hI h 12 20))) (sI (sI h 12 0 0) 12 20 x) := by
  refine oSp.intro [some (.ref 12), some (.int x), none] rfl (Nat.le_of_ble_eq_true rfl) (plainFor_of_name (by decide +kernel)) (Nat.le_refl _) ?_
  intro p l e R s m args below meth c C
  refine r_aload_n C rfl rfl dX6_lorry_0 ?_
  refine r_iconstv C 0 rfl dX6_lorry_1 ?_
  refine r_putI C dX6_lorry_2 fl_X6_90 rfl (q_lt hs (by decide)) (Or.inl rfl) ?_
  refine r_iload_n C rfl dX6_lorry_5 ?_
  refine r_i2l C dX6_lorry_6 ?_
  refine r_ldc2 C _ ll_X6_102 dX6_lorry_7 ?_
  refine r_ldc2 C _ ll_X6_143 dX6_lorry_10 ?_
  refine r_callS C (sp_in G (tI2L rfl) (show (100 : Int64).toInt = 100 from rfl) (show (9000 : Int64).toInt = 9000 from rfl)) ks_X6_in kn_X6_in rfl dX6_lorry_13 cl_X6_96 ⟨Nat.le_of_ble_eq_true rfl, Nat.le_of_ble_eq_true rfl⟩ (Nat.le_refl _) rfl (Nat.le_of_ble_eq_true rfl) ?_
  refine t_ifb_ne C 22 (by decide) dX6_lorry_16 (fun c16 => ?_) (fun c16 => ?_)
  · first
    | (exfalso; omega)
    |  (refine r_aload_n C rfl rfl dX6_lorry_22 ?_
        refine r_getI C dX6_lorry_23 fl_X6_60 rfl (q_lt hs (by decide)) ?_
        refine r_istore_n C rfl (Nat.le_of_ble_eq_true rfl) dX6_lorry_26 ?_
        refine r_aload_n C rfl rfl dX6_lorry_27 ?_
        refine r_iload_n C rfl dX6_lorry_28 ?_
        refine r_putI C dX6_lorry_29 fl_X6_60 rfl (q_lt hs (by decide)) (Or.inl rfl) ?_
        refine r_iload_n C rfl dX6_lorry_32 ?_
        exact r_iret C dX6_lorry_33 rfl (Nat.le_refl _) rfl rfl)
  · first
    | (exfalso; omega)
    |  (refine r_ldc C _ lc_X6_106 dX6_lorry_19 ?_
        exact r_iret C dX6_lorry_21 rfl (Nat.le_refl _) rfl rfl)

set_option maxHeartbeats 4000000 in
set_option maxRecDepth 100000 in
theorem m_lorryB (G : oG) {h : oH} (hs : oSh h) (x : Int32) (hx : ¬ (100 ≤ x.toInt ∧ x.toInt ≤ 9000)) : oSp G mX6_lorry [.ref 12, .int x] h (some (.int (-1000001))) (sI h 12 0 0) := by
  refine oSp.intro [some (.ref 12), some (.int x), none] rfl (Nat.le_of_ble_eq_true rfl) (plainFor_of_name (by decide +kernel)) (Nat.le_refl _) ?_
  intro p l e R s m args below meth c C
  refine r_aload_n C rfl rfl dX6_lorry_0 ?_
  refine r_iconstv C 0 rfl dX6_lorry_1 ?_
  refine r_putI C dX6_lorry_2 fl_X6_90 rfl (q_lt hs (by decide)) (Or.inl rfl) ?_
  refine r_iload_n C rfl dX6_lorry_5 ?_
  refine r_i2l C dX6_lorry_6 ?_
  refine r_ldc2 C _ ll_X6_102 dX6_lorry_7 ?_
  refine r_ldc2 C _ ll_X6_143 dX6_lorry_10 ?_
  refine r_callS C (sp_in G (tI2L rfl) (show (100 : Int64).toInt = 100 from rfl) (show (9000 : Int64).toInt = 9000 from rfl)) ks_X6_in kn_X6_in rfl dX6_lorry_13 cl_X6_96 ⟨Nat.le_of_ble_eq_true rfl, Nat.le_of_ble_eq_true rfl⟩ (Nat.le_refl _) rfl (Nat.le_of_ble_eq_true rfl) ?_
  refine t_ifb_ne C 22 (by decide) dX6_lorry_16 (fun c16 => ?_) (fun c16 => ?_)
  · first
    | (exfalso; omega)
    |  (refine r_aload_n C rfl rfl dX6_lorry_22 ?_
        refine r_getI C dX6_lorry_23 fl_X6_60 rfl (q_lt hs (by decide)) ?_
        refine r_istore_n C rfl (Nat.le_of_ble_eq_true rfl) dX6_lorry_26 ?_
        refine r_aload_n C rfl rfl dX6_lorry_27 ?_
        refine r_iload_n C rfl dX6_lorry_28 ?_
        refine r_putI C dX6_lorry_29 fl_X6_60 rfl (q_lt hs (by decide)) (Or.inl rfl) ?_
        refine r_iload_n C rfl dX6_lorry_32 ?_
        exact r_iret C dX6_lorry_33 rfl (Nat.le_refl _) rfl rfl)
  · first
    | (exfalso; omega)
    |  (refine r_ldc C _ lc_X6_106 dX6_lorry_19 ?_
        exact r_iret C dX6_lorry_21 rfl (Nat.le_refl _) rfl rfl)

set_option maxHeartbeats 4000000 in
set_option maxRecDepth 100000 in
theorem case_lorry (G : oG) {h : oH} {n T : Nat} (I : Inv h n T) (x : Int32) : Case G mX5_lorry mX6_lorry [.int x] h n T := by
  obtain ⟨⟨a1, a2, a3⟩, ⟨b1, b2, b3⟩, ⟨c1, c2, c3⟩, ⟨d1, d2, d3⟩, ⟨e1, e2, e3⟩, ⟨f1, f2, f3⟩, g1, g2, g3⟩ := id I.2.2.1
  have hs := I.1.1
  have hh := I.1
  by_cases hx : (100 ≤ x.toInt ∧ x.toInt ≤ 9000)
  · exact ⟨_, _, _, n, c_lorry G hs x hx, (m_lorry G (by exact hs) x hx).ri d1, I.sc (Nat.le_succ T) rfl (fun _ _ => rfl) (fun a k h0 h12 => by simp [hI_sI, hI_sJ, h0, h12]) rfl rfl rfl rfl rfl ⟨⟨a1, a2, Int.le_trans a3 (by omega)⟩, ⟨b1, b2, b3⟩, ⟨c1, c2, c3⟩, ⟨rfl, hx⟩, ⟨e1, e2, e3⟩, ⟨f1, f2, f3⟩, g1, g2, g3⟩⟩
  · exact case_bad G I (c_lorryB G hs x hx) (m_lorryB G hs x hx)

set_option maxHeartbeats 4000000 in
set_option maxRecDepth 100000 in
theorem c_price (G : oG) {h : oH} (hs : oSh h) (x : Int32) (hx : (0 ≤ x.toInt ∧ x.toInt ≤ 1000)) : oSp G mX5_price [.ref 0, .int x] h (some (.int (hI h 0 9))) (sI h 0 9 x) := by
  refine oSp.intro [some (.ref 0), some (.int x), none] rfl (Nat.le_of_ble_eq_true rfl) (plainFor_of_name (by decide +kernel)) (Nat.le_refl _) ?_
  intro p l e R s m args below meth c C
  refine r_iload_n C rfl dX5_price_0 ?_
  refine r_iconstv C 0 rfl dX5_price_1 ?_
  refine r_sipush C 1000 rfl dX5_price_2 ?_
  refine r_callS C (sp_isOutside G rfl (show (0 : Int32).toInt = 0 from rfl) (show (1000 : Int32).toInt = 1000 from rfl)) ks_X5_isOutside kn_X5_isOutside rfl dX5_price_5 cl_X5_68 ⟨Nat.le_of_ble_eq_true rfl, Nat.le_of_ble_eq_true rfl⟩ (Nat.le_refl _) rfl (Nat.le_of_ble_eq_true rfl) ?_
  refine t_ifb_eq C 14 (by decide) dX5_price_8 (fun c8 => ?_) (fun c8 => ?_)
  · first
    | (exfalso; omega)
    |  (refine r_aload_n C rfl rfl dX5_price_14 ?_
        refine r_getI C dX5_price_15 fl_X5_52 rfl (q_lt hs (by decide)) ?_
        refine r_istore_n C rfl (Nat.le_of_ble_eq_true rfl) dX5_price_18 ?_
        refine r_aload_n C rfl rfl dX5_price_19 ?_
        refine r_iload_n C rfl dX5_price_20 ?_
        refine r_putI C dX5_price_21 fl_X5_52 rfl (q_lt hs (by decide)) (Or.inl rfl) ?_
        refine r_iload_n C rfl dX5_price_24 ?_
        exact r_iret C dX5_price_25 rfl (Nat.le_refl _) rfl rfl)
  · first
    | (exfalso; omega)
    |  (refine r_ldc C _ lc_X5_72 dX5_price_11 ?_
        exact r_iret C dX5_price_13 rfl (Nat.le_refl _) rfl rfl)

set_option maxHeartbeats 4000000 in
set_option maxRecDepth 100000 in
theorem c_priceB (G : oG) {h : oH} (hs : oSh h) (x : Int32) (hx : ¬ (0 ≤ x.toInt ∧ x.toInt ≤ 1000)) : oSp G mX5_price [.ref 0, .int x] h (some (.int (-1000001))) h := by
  refine oSp.intro [some (.ref 0), some (.int x), none] rfl (Nat.le_of_ble_eq_true rfl) (plainFor_of_name (by decide +kernel)) (Nat.le_refl _) ?_
  intro p l e R s m args below meth c C
  refine r_iload_n C rfl dX5_price_0 ?_
  refine r_iconstv C 0 rfl dX5_price_1 ?_
  refine r_sipush C 1000 rfl dX5_price_2 ?_
  refine r_callS C (sp_isOutside G rfl (show (0 : Int32).toInt = 0 from rfl) (show (1000 : Int32).toInt = 1000 from rfl)) ks_X5_isOutside kn_X5_isOutside rfl dX5_price_5 cl_X5_68 ⟨Nat.le_of_ble_eq_true rfl, Nat.le_of_ble_eq_true rfl⟩ (Nat.le_refl _) rfl (Nat.le_of_ble_eq_true rfl) ?_
  refine t_ifb_eq C 14 (by decide) dX5_price_8 (fun c8 => ?_) (fun c8 => ?_)
  · first
    | (exfalso; omega)
    |  (refine r_aload_n C rfl rfl dX5_price_14 ?_
        refine r_getI C dX5_price_15 fl_X5_52 rfl (q_lt hs (by decide)) ?_
        refine r_istore_n C rfl (Nat.le_of_ble_eq_true rfl) dX5_price_18 ?_
        refine r_aload_n C rfl rfl dX5_price_19 ?_
        refine r_iload_n C rfl dX5_price_20 ?_
        refine r_putI C dX5_price_21 fl_X5_52 rfl (q_lt hs (by decide)) (Or.inl rfl) ?_
        refine r_iload_n C rfl dX5_price_24 ?_
        exact r_iret C dX5_price_25 rfl (Nat.le_refl _) rfl rfl)
  · first
    | (exfalso; omega)
    |  (refine r_ldc C _ lc_X5_72 dX5_price_11 ?_
        exact r_iret C dX5_price_13 rfl (Nat.le_refl _) rfl rfl)

set_option maxHeartbeats 4000000 in
set_option maxRecDepth 100000 in
theorem m_price (G : oG) {h : oH} (hs : oSh h) (x : Int32) (hx : (0 ≤ x.toInt ∧ x.toInt ≤ 1000)) : oSp G mX6_price [.ref 12, .int x] h (some (.int (hI h 12 21))) (sI (sI h 12 0 0) 12 21 x) := by
  refine oSp.intro [some (.ref 12), some (.int x), none] rfl (Nat.le_of_ble_eq_true rfl) (plainFor_of_name (by decide +kernel)) (Nat.le_refl _) ?_
  intro p l e R s m args below meth c C
  refine r_aload_n C rfl rfl dX6_price_0 ?_
  refine r_iconstv C 0 rfl dX6_price_1 ?_
  refine r_putI C dX6_price_2 fl_X6_90 rfl (q_lt hs (by decide)) (Or.inl rfl) ?_
  refine r_iload_n C rfl dX6_price_5 ?_
  refine r_i2l C dX6_price_6 ?_
  refine r_lconst C 0 rfl dX6_price_7 ?_
  refine r_ldc2 C _ ll_X6_197 dX6_price_8 ?_
  refine r_callS C (sp_in G (tI2L rfl) (show (0 : Int64).toInt = 0 from rfl) (show (1000 : Int64).toInt = 1000 from rfl)) ks_X6_in kn_X6_in rfl dX6_price_11 cl_X6_96 ⟨Nat.le_of_ble_eq_true rfl, Nat.le_of_ble_eq_true rfl⟩ (Nat.le_refl _) rfl (Nat.le_of_ble_eq_true rfl) ?_
  refine t_ifb_ne C 20 (by decide) dX6_price_14 (fun c14 => ?_) (fun c14 => ?_)
  · first
    | (exfalso; omega)
    |  (refine r_aload_n C rfl rfl dX6_price_20 ?_
        refine r_getI C dX6_price_21 fl_X6_63 rfl (q_lt hs (by decide)) ?_
        refine r_istore_n C rfl (Nat.le_of_ble_eq_true rfl) dX6_price_24 ?_
        refine r_aload_n C rfl rfl dX6_price_25 ?_
        refine r_iload_n C rfl dX6_price_26 ?_
        refine r_putI C dX6_price_27 fl_X6_63 rfl (q_lt hs (by decide)) (Or.inl rfl) ?_
        refine r_iload_n C rfl dX6_price_30 ?_
        exact r_iret C dX6_price_31 rfl (Nat.le_refl _) rfl rfl)
  · first
    | (exfalso; omega)
    |  (refine r_ldc C _ lc_X6_106 dX6_price_17 ?_
        exact r_iret C dX6_price_19 rfl (Nat.le_refl _) rfl rfl)

set_option maxHeartbeats 4000000 in
set_option maxRecDepth 100000 in
theorem m_priceB (G : oG) {h : oH} (hs : oSh h) (x : Int32) (hx : ¬ (0 ≤ x.toInt ∧ x.toInt ≤ 1000)) : oSp G mX6_price [.ref 12, .int x] h (some (.int (-1000001))) (sI h 12 0 0) := by
  refine oSp.intro [some (.ref 12), some (.int x), none] rfl (Nat.le_of_ble_eq_true rfl) (plainFor_of_name (by decide +kernel)) (Nat.le_refl _) ?_
  intro p l e R s m args below meth c C
  refine r_aload_n C rfl rfl dX6_price_0 ?_
  refine r_iconstv C 0 rfl dX6_price_1 ?_
  refine r_putI C dX6_price_2 fl_X6_90 rfl (q_lt hs (by decide)) (Or.inl rfl) ?_
  refine r_iload_n C rfl dX6_price_5 ?_
  refine r_i2l C dX6_price_6 ?_
  refine r_lconst C 0 rfl dX6_price_7 ?_
  refine r_ldc2 C _ ll_X6_197 dX6_price_8 ?_
  refine r_callS C (sp_in G (tI2L rfl) (show (0 : Int64).toInt = 0 from rfl) (show (1000 : Int64).toInt = 1000 from rfl)) ks_X6_in kn_X6_in rfl dX6_price_11 cl_X6_96 ⟨Nat.le_of_ble_eq_true rfl, Nat.le_of_ble_eq_true rfl⟩ (Nat.le_refl _) rfl (Nat.le_of_ble_eq_true rfl) ?_
  refine t_ifb_ne C 20 (by decide) dX6_price_14 (fun c14 => ?_) (fun c14 => ?_)
  · first
    | (exfalso; omega)
    |  (refine r_aload_n C rfl rfl dX6_price_20 ?_
        refine r_getI C dX6_price_21 fl_X6_63 rfl (q_lt hs (by decide)) ?_
        refine r_istore_n C rfl (Nat.le_of_ble_eq_true rfl) dX6_price_24 ?_
        refine r_aload_n C rfl rfl dX6_price_25 ?_
        refine r_iload_n C rfl dX6_price_26 ?_
        refine r_putI C dX6_price_27 fl_X6_63 rfl (q_lt hs (by decide)) (Or.inl rfl) ?_
        refine r_iload_n C rfl dX6_price_30 ?_
        exact r_iret C dX6_price_31 rfl (Nat.le_refl _) rfl rfl)
  · first
    | (exfalso; omega)
    |  (refine r_ldc C _ lc_X6_106 dX6_price_17 ?_
        exact r_iret C dX6_price_19 rfl (Nat.le_refl _) rfl rfl)

set_option maxHeartbeats 4000000 in
set_option maxRecDepth 100000 in
theorem case_price (G : oG) {h : oH} {n T : Nat} (I : Inv h n T) (x : Int32) : Case G mX5_price mX6_price [.int x] h n T := by
  obtain ⟨⟨a1, a2, a3⟩, ⟨b1, b2, b3⟩, ⟨c1, c2, c3⟩, ⟨d1, d2, d3⟩, ⟨e1, e2, e3⟩, ⟨f1, f2, f3⟩, g1, g2, g3⟩ := id I.2.2.1
  have hs := I.1.1
  have hh := I.1
  by_cases hx : (0 ≤ x.toInt ∧ x.toInt ≤ 1000)
  · exact ⟨_, _, _, n, c_price G hs x hx, (m_price G (by exact hs) x hx).ri e1, I.sc (Nat.le_succ T) rfl (fun _ _ => rfl) (fun a k h0 h12 => by simp [hI_sI, hI_sJ, h0, h12]) rfl rfl rfl rfl rfl ⟨⟨a1, a2, Int.le_trans a3 (by omega)⟩, ⟨b1, b2, b3⟩, ⟨c1, c2, c3⟩, ⟨d1, d2, d3⟩, ⟨rfl, hx⟩, ⟨f1, f2, f3⟩, g1, g2, g3⟩⟩
  · exact case_bad G I (c_priceB G hs x hx) (m_priceB G hs x hx)

set_option maxHeartbeats 4000000 in
set_option maxRecDepth 100000 in
theorem c_stock (G : oG) {h : oH} (hs : oSh h) (x : Int32) (hb : 0 ≤ (hI h 0 10).toInt ∧ (hI h 0 10).toInt ≤ 100000) (hx : (0 ≤ x.toInt ∧ x.toInt ≤ 100000 - (hI h 0 10).toInt)) : oSp G mX5_stock [.ref 0, .int x] h (some (.int (hI h 0 10 + x))) (sJ (sI h 0 10 (hI h 0 10 + x)) 0 11 (hJ h 0 11 + x.toInt64)) := by
  have tbx := tB x
  refine oSp.intro [some (.ref 0), some (.int x)] rfl (Nat.le_of_ble_eq_true rfl) (plainFor_of_name (by decide +kernel)) (Nat.le_refl _) ?_
  intro p l e R s m args below meth c C
  refine r_iload_n C rfl dX5_stock_0 ?_
  refine r_iconstv C 0 rfl dX5_stock_1 ?_
  refine r_ldc C _ lc_X5_132 dX5_stock_2 ?_
  refine r_aload_n C rfl rfl dX5_stock_4 ?_
  refine r_getI C dX5_stock_5 fl_X5_55 rfl (q_lt hs (by decide)) ?_
  refine r_isub C dX5_stock_8 ?_
  refine r_callS C (sp_isOutside G rfl (show (0 : Int32).toInt = 0 from rfl) (tS (show (100000 : Int32).toInt = 100000 from rfl) rfl (by omega))) ks_X5_isOutside kn_X5_isOutside rfl dX5_stock_9 cl_X5_68 ⟨Nat.le_of_ble_eq_true rfl, Nat.le_of_ble_eq_true rfl⟩ (Nat.le_refl _) rfl (Nat.le_of_ble_eq_true rfl) ?_
  refine t_ifb_eq C 18 (by decide) dX5_stock_12 (fun c12 => ?_) (fun c12 => ?_)
  · first
    | (exfalso; omega)
    |  (refine r_aload_n C rfl rfl dX5_stock_18 ?_
        refine r_dup C rfl dX5_stock_19 ?_
        refine r_getI C dX5_stock_20 fl_X5_55 rfl (q_lt hs (by decide)) ?_
        refine r_iload_n C rfl dX5_stock_23 ?_
        refine r_iadd C dX5_stock_24 ?_
        refine r_putI C dX5_stock_25 fl_X5_55 rfl (q_lt hs (by decide)) (Or.inl rfl) ?_
        refine r_aload_n C rfl rfl dX5_stock_28 ?_
        refine r_dup C rfl dX5_stock_29 ?_
        refine r_getJ C dX5_stock_30 fl_X5_58 rfl (q_lt hs (by decide)) ?_
        refine r_iload_n C rfl dX5_stock_33 ?_
        refine r_i2l C dX5_stock_34 ?_
        refine r_ladd C dX5_stock_35 ?_
        refine r_putJ C dX5_stock_36 fl_X5_58 rfl (q_lt hs (by decide)) (Or.inl rfl) ?_
        refine r_aload_n C rfl rfl dX5_stock_39 ?_
        refine r_getI C dX5_stock_40 fl_X5_55 rfl (q_lt hs (by decide)) ?_
        exact r_iret C dX5_stock_43 rfl (Nat.le_refl _) rfl rfl)
  · first
    | (exfalso; omega)
    |  (refine r_ldc C _ lc_X5_72 dX5_stock_15 ?_
        exact r_iret C dX5_stock_17 rfl (Nat.le_refl _) rfl rfl)

set_option maxHeartbeats 4000000 in
set_option maxRecDepth 100000 in
theorem c_stockB (G : oG) {h : oH} (hs : oSh h) (x : Int32) (hb : 0 ≤ (hI h 0 10).toInt ∧ (hI h 0 10).toInt ≤ 100000) (hx : ¬ (0 ≤ x.toInt ∧ x.toInt ≤ 100000 - (hI h 0 10).toInt)) : oSp G mX5_stock [.ref 0, .int x] h (some (.int (-1000001))) h := by
  have tbx := tB x
  refine oSp.intro [some (.ref 0), some (.int x)] rfl (Nat.le_of_ble_eq_true rfl) (plainFor_of_name (by decide +kernel)) (Nat.le_refl _) ?_
  intro p l e R s m args below meth c C
  refine r_iload_n C rfl dX5_stock_0 ?_
  refine r_iconstv C 0 rfl dX5_stock_1 ?_
  refine r_ldc C _ lc_X5_132 dX5_stock_2 ?_
  refine r_aload_n C rfl rfl dX5_stock_4 ?_
  refine r_getI C dX5_stock_5 fl_X5_55 rfl (q_lt hs (by decide)) ?_
  refine r_isub C dX5_stock_8 ?_
  refine r_callS C (sp_isOutside G rfl (show (0 : Int32).toInt = 0 from rfl) (tS (show (100000 : Int32).toInt = 100000 from rfl) rfl (by omega))) ks_X5_isOutside kn_X5_isOutside rfl dX5_stock_9 cl_X5_68 ⟨Nat.le_of_ble_eq_true rfl, Nat.le_of_ble_eq_true rfl⟩ (Nat.le_refl _) rfl (Nat.le_of_ble_eq_true rfl) ?_
  refine t_ifb_eq C 18 (by decide) dX5_stock_12 (fun c12 => ?_) (fun c12 => ?_)
  · first
    | (exfalso; omega)
    |  (refine r_aload_n C rfl rfl dX5_stock_18 ?_
        refine r_dup C rfl dX5_stock_19 ?_
        refine r_getI C dX5_stock_20 fl_X5_55 rfl (q_lt hs (by decide)) ?_
        refine r_iload_n C rfl dX5_stock_23 ?_
        refine r_iadd C dX5_stock_24 ?_
        refine r_putI C dX5_stock_25 fl_X5_55 rfl (q_lt hs (by decide)) (Or.inl rfl) ?_
        refine r_aload_n C rfl rfl dX5_stock_28 ?_
        refine r_dup C rfl dX5_stock_29 ?_
        refine r_getJ C dX5_stock_30 fl_X5_58 rfl (q_lt hs (by decide)) ?_
        refine r_iload_n C rfl dX5_stock_33 ?_
        refine r_i2l C dX5_stock_34 ?_
        refine r_ladd C dX5_stock_35 ?_
        refine r_putJ C dX5_stock_36 fl_X5_58 rfl (q_lt hs (by decide)) (Or.inl rfl) ?_
        refine r_aload_n C rfl rfl dX5_stock_39 ?_
        refine r_getI C dX5_stock_40 fl_X5_55 rfl (q_lt hs (by decide)) ?_
        exact r_iret C dX5_stock_43 rfl (Nat.le_refl _) rfl rfl)
  · first
    | (exfalso; omega)
    |  (refine r_ldc C _ lc_X5_72 dX5_stock_15 ?_
        exact r_iret C dX5_stock_17 rfl (Nat.le_refl _) rfl rfl)

set_option maxHeartbeats 4000000 in
set_option maxRecDepth 100000 in
theorem m_stock (G : oG) {h : oH} (hs : oSh h) (x : Int32) (hb : 0 ≤ (hI h 12 19).toInt ∧ (hI h 12 19).toInt ≤ 100000) (hx : (0 ≤ x.toInt ∧ (hI h 12 19).toInt + x.toInt ≤ 100000)) : oSp G mX6_stock [.ref 12, .int x] h (some (.int (hI h 12 19 + x))) (sJ (sI (sI h 12 0 0) 12 19 (hI h 12 19 + x)) 12 22 (hJ h 12 22 + x.toInt64)) := by
  have tbx := tB x
  refine oSp.intro [some (.ref 12), some (.int x)] rfl (Nat.le_of_ble_eq_true rfl) (plainFor_of_name (by decide +kernel)) (Nat.le_refl _) ?_
  intro p l e R s m args below meth c C
  refine r_aload_n C rfl rfl dX6_stock_0 ?_
  refine r_iconstv C 0 rfl dX6_stock_1 ?_
  refine r_putI C dX6_stock_2 fl_X6_90 rfl (q_lt hs (by decide)) (Or.inl rfl) ?_
  refine r_iload_n C rfl dX6_stock_5 ?_
  refine t_if_lt C 24 (by decide) rfl dX6_stock_6 (fun c6 => ?_) (fun c6 => ?_)
  · first
    | (exfalso; omega)
    |  (refine r_ldc C _ lc_X6_106 dX6_stock_24 ?_
        exact r_iret C dX6_stock_26 rfl (Nat.le_refl _) rfl rfl)
  · first
    | (exfalso; omega)
    |  (refine r_aload_n C rfl rfl dX6_stock_9 ?_
        refine r_getI C dX6_stock_10 fl_X6_134 rfl (q_lt hs (by decide)) ?_
        refine r_i2l C dX6_stock_13 ?_
        refine r_iload_n C rfl dX6_stock_14 ?_
        refine r_i2l C dX6_stock_15 ?_
        refine r_ladd C dX6_stock_16 ?_
        refine r_ldc2 C _ ll_X6_137 dX6_stock_17 ?_
        refine r_lcmp C dX6_stock_20 ?_
        refine t_lcmp_le C 27 (by decide) (tAL (tI2L (show _ = (hI h 12 19).toInt from rfl)) (tI2L rfl) (by omega)) (show (100000 : Int64).toInt = 100000 from rfl) dX6_stock_21 (fun c21 => ?_) (fun c21 => ?_)
        · first
          | (exfalso; omega)
          |  (refine r_aload_n C rfl rfl dX6_stock_27 ?_
              refine r_dup C rfl dX6_stock_28 ?_
              refine r_getI C dX6_stock_29 fl_X6_134 rfl (q_lt hs (by decide)) ?_
              refine r_iload_n C rfl dX6_stock_32 ?_
              refine r_iadd C dX6_stock_33 ?_
              refine r_putI C dX6_stock_34 fl_X6_134 rfl (q_lt hs (by decide)) (Or.inl rfl) ?_
              refine r_aload_n C rfl rfl dX6_stock_37 ?_
              refine r_dup C rfl dX6_stock_38 ?_
              refine r_getJ C dX6_stock_39 fl_X6_139 rfl (q_lt hs (by decide)) ?_
              refine r_iload_n C rfl dX6_stock_42 ?_
              refine r_i2l C dX6_stock_43 ?_
              refine r_ladd C dX6_stock_44 ?_
              refine r_putJ C dX6_stock_45 fl_X6_139 rfl (q_lt hs (by decide)) (Or.inl rfl) ?_
              refine r_aload_n C rfl rfl dX6_stock_48 ?_
              refine r_getI C dX6_stock_49 fl_X6_134 rfl (q_lt hs (by decide)) ?_
              exact r_iret C dX6_stock_52 rfl (Nat.le_refl _) rfl rfl)
        · first
          | (exfalso; omega)
          |  (refine r_ldc C _ lc_X6_106 dX6_stock_24 ?_
              exact r_iret C dX6_stock_26 rfl (Nat.le_refl _) rfl rfl))

set_option maxHeartbeats 4000000 in
set_option maxRecDepth 100000 in
theorem m_stockB (G : oG) {h : oH} (hs : oSh h) (x : Int32) (hb : 0 ≤ (hI h 12 19).toInt ∧ (hI h 12 19).toInt ≤ 100000) (hx : ¬ (0 ≤ x.toInt ∧ (hI h 12 19).toInt + x.toInt ≤ 100000)) : oSp G mX6_stock [.ref 12, .int x] h (some (.int (-1000001))) (sI h 12 0 0) := by
  have tbx := tB x
  refine oSp.intro [some (.ref 12), some (.int x)] rfl (Nat.le_of_ble_eq_true rfl) (plainFor_of_name (by decide +kernel)) (Nat.le_refl _) ?_
  intro p l e R s m args below meth c C
  refine r_aload_n C rfl rfl dX6_stock_0 ?_
  refine r_iconstv C 0 rfl dX6_stock_1 ?_
  refine r_putI C dX6_stock_2 fl_X6_90 rfl (q_lt hs (by decide)) (Or.inl rfl) ?_
  refine r_iload_n C rfl dX6_stock_5 ?_
  refine t_if_lt C 24 (by decide) rfl dX6_stock_6 (fun c6 => ?_) (fun c6 => ?_)
  · first
    | (exfalso; omega)
    |  (refine r_ldc C _ lc_X6_106 dX6_stock_24 ?_
        exact r_iret C dX6_stock_26 rfl (Nat.le_refl _) rfl rfl)
  · first
    | (exfalso; omega)
    |  (refine r_aload_n C rfl rfl dX6_stock_9 ?_
        refine r_getI C dX6_stock_10 fl_X6_134 rfl (q_lt hs (by decide)) ?_
        refine r_i2l C dX6_stock_13 ?_
        refine r_iload_n C rfl dX6_stock_14 ?_
        refine r_i2l C dX6_stock_15 ?_
        refine r_ladd C dX6_stock_16 ?_
        refine r_ldc2 C _ ll_X6_137 dX6_stock_17 ?_
        refine r_lcmp C dX6_stock_20 ?_
        refine t_lcmp_le C 27 (by decide) (tAL (tI2L (show _ = (hI h 12 19).toInt from rfl)) (tI2L rfl) (by omega)) (show (100000 : Int64).toInt = 100000 from rfl) dX6_stock_21 (fun c21 => ?_) (fun c21 => ?_)
        · first
          | (exfalso; omega)
          |  (refine r_aload_n C rfl rfl dX6_stock_27 ?_
              refine r_dup C rfl dX6_stock_28 ?_
              refine r_getI C dX6_stock_29 fl_X6_134 rfl (q_lt hs (by decide)) ?_
              refine r_iload_n C rfl dX6_stock_32 ?_
              refine r_iadd C dX6_stock_33 ?_
              refine r_putI C dX6_stock_34 fl_X6_134 rfl (q_lt hs (by decide)) (Or.inl rfl) ?_
              refine r_aload_n C rfl rfl dX6_stock_37 ?_
              refine r_dup C rfl dX6_stock_38 ?_
              refine r_getJ C dX6_stock_39 fl_X6_139 rfl (q_lt hs (by decide)) ?_
              refine r_iload_n C rfl dX6_stock_42 ?_
              refine r_i2l C dX6_stock_43 ?_
              refine r_ladd C dX6_stock_44 ?_
              refine r_putJ C dX6_stock_45 fl_X6_139 rfl (q_lt hs (by decide)) (Or.inl rfl) ?_
              refine r_aload_n C rfl rfl dX6_stock_48 ?_
              refine r_getI C dX6_stock_49 fl_X6_134 rfl (q_lt hs (by decide)) ?_
              exact r_iret C dX6_stock_52 rfl (Nat.le_refl _) rfl rfl)
        · first
          | (exfalso; omega)
          |  (refine r_ldc C _ lc_X6_106 dX6_stock_24 ?_
              exact r_iret C dX6_stock_26 rfl (Nat.le_refl _) rfl rfl))

set_option maxHeartbeats 4000000 in
set_option maxRecDepth 100000 in
theorem case_stock (G : oG) {h : oH} {n T : Nat} (I : Inv h n T) (x : Int32) : Case G mX5_stock mX6_stock [.int x] h n T := by
  obtain ⟨⟨a1, a2, a3⟩, ⟨b1, b2, b3⟩, ⟨c1, c2, c3⟩, ⟨d1, d2, d3⟩, ⟨e1, e2, e3⟩, ⟨f1, f2, f3⟩, g1, g2, g3⟩ := id I.2.2.1
  have hs := I.1.1
  have hh := I.1
  have e0 : (hI h 0 10).toInt = (hI h 12 19).toInt := by rw [f1]
  by_cases hx : (0 ≤ x.toInt ∧ (hI h 12 19).toInt + x.toInt ≤ 100000)
  · exact ⟨_, _, _, n, c_stock G hs x (by omega) (by omega), (m_stock G (by exact hs) x (by exact ⟨f2, f3⟩) (by exact hx)).ri (by rw [f1]; rfl), I.sc (Nat.le_succ T) rfl (fun _ _ => rfl) (fun a k h0 h12 => by simp [hI_sI, hI_sJ, h0, h12]) rfl rfl rfl rfl rfl ⟨⟨a1, a2, Int.le_trans a3 (by omega)⟩, ⟨b1, b2, b3⟩, ⟨c1, c2, c3⟩, ⟨d1, d2, d3⟩, ⟨e1, e2, e3⟩, ⟨by show hI h 0 10 + x = hI h 12 19 + x; rw [f1], by show 0 ≤ (hI h 12 19 + x).toInt; rw [tA rfl rfl (by omega)]; omega, by show (hI h 12 19 + x).toInt ≤ _; rw [tA rfl rfl (by omega)]; omega⟩, (by show hJ h 0 11 + _ = hJ h 12 22 + _; rw [g1]), g2, g3⟩⟩
  · exact case_bad G I (c_stockB G hs x (by omega) (by omega)) (m_stockB G hs x ⟨f2, f3⟩ hx)

set_option maxHeartbeats 4000000 in
set_option maxRecDepth 100000 in
theorem c_look (G : oG) {h : oH} {n : Nat} (hh : oHs h n) (x y : Int32) (hx : (0 ≤ x.toInt ∧ x.toInt ≤ 10 ∧ 0 ≤ y.toInt ∧ y.toInt ≤ 40)) : oSp G mX5_look [.ref 0, .int x, .int y] h (some (.int (sumI (fun j => b1 (dueC (sI (sI h 0 6 x) 0 7 y) j)) n))) (sI (sI h 0 6 x) 0 7 y) := by
  refine oSp.intro [some (.ref 0), some (.int x), some (.int y)] rfl (Nat.le_of_ble_eq_true rfl) (plainFor_of_name (by decide +kernel)) (Nat.le_refl _) ?_
  intro p l e R s m args below meth c C
  refine r_iload_n C rfl dX5_look_0 ?_
  refine r_iconstv C 0 rfl dX5_look_1 ?_
  refine r_bipush C 10 rfl dX5_look_2 ?_
  refine r_callS C (sp_isOutside G rfl (show (0 : Int32).toInt = 0 from rfl) (show (10 : Int32).toInt = 10 from rfl)) ks_X5_isOutside kn_X5_isOutside rfl dX5_look_4 cl_X5_68 ⟨Nat.le_of_ble_eq_true rfl, Nat.le_of_ble_eq_true rfl⟩ (Nat.le_refl _) rfl (Nat.le_of_ble_eq_true rfl) ?_
  refine t_ifb_ne C 20 (by decide) dX5_look_7 (fun c7 => ?_) (fun c7 => ?_)
  · first
    | (exfalso; omega)
    |  (refine r_ldc C _ lc_X5_72 dX5_look_20 ?_
        exact r_iret C dX5_look_22 rfl (Nat.le_refl _) rfl rfl)
  · first
    | (exfalso; omega)
    |  (refine r_iload_n C rfl dX5_look_10 ?_
        refine r_iconstv C 0 rfl dX5_look_11 ?_
        refine r_bipush C 40 rfl dX5_look_12 ?_
        refine r_callS C (sp_isOutside G rfl (show (0 : Int32).toInt = 0 from rfl) (show (40 : Int32).toInt = 40 from rfl)) ks_X5_isOutside kn_X5_isOutside rfl dX5_look_14 cl_X5_68 ⟨Nat.le_of_ble_eq_true rfl, Nat.le_of_ble_eq_true rfl⟩ (Nat.le_refl _) rfl (Nat.le_of_ble_eq_true rfl) ?_
        refine t_ifb_eq C 23 (by decide) dX5_look_17 (fun c17 => ?_) (fun c17 => ?_)
        · first
          | (exfalso; omega)
          |  (refine r_aload_n C rfl rfl dX5_look_23 ?_
              refine r_iload_n C rfl dX5_look_24 ?_
              refine r_putI C dX5_look_25 fl_X5_43 rfl (q_lt hh.1 (by decide)) (Or.inl rfl) ?_
              refine r_aload_n C rfl rfl dX5_look_28 ?_
              refine r_iload_n C rfl dX5_look_29 ?_
              refine r_putI C dX5_look_30 fl_X5_46 rfl (q_lt hh.1 (by decide)) (Or.inl rfl) ?_
              refine r_aload_n C rfl rfl dX5_look_33 ?_
              refine r_callV C (sp_countDue G (by exact hh)) kv_X5_countDue kn_X5_countDue rfl dX5_look_34 cl_X5_108 ⟨Nat.le_of_ble_eq_true rfl, Nat.le_of_ble_eq_true rfl⟩ (by decide) rfl rfl (q_lt hh.1 (by decide)) (Nat.le_refl _) rfl (Nat.le_of_ble_eq_true rfl) ?_
              exact r_iret C dX5_look_37 rfl (Nat.le_refl _) rfl rfl)
        · first
          | (exfalso; omega)
          |  (refine r_ldc C _ lc_X5_72 dX5_look_20 ?_
              exact r_iret C dX5_look_22 rfl (Nat.le_refl _) rfl rfl))

set_option maxHeartbeats 4000000 in
set_option maxRecDepth 100000 in
theorem c_lookB (G : oG) {h : oH} {n : Nat} (hh : oHs h n) (x y : Int32) (hx : ¬ (0 ≤ x.toInt ∧ x.toInt ≤ 10 ∧ 0 ≤ y.toInt ∧ y.toInt ≤ 40)) : oSp G mX5_look [.ref 0, .int x, .int y] h (some (.int (-1000001))) h := by
  refine oSp.intro [some (.ref 0), some (.int x), some (.int y)] rfl (Nat.le_of_ble_eq_true rfl) (plainFor_of_name (by decide +kernel)) (Nat.le_refl _) ?_
  intro p l e R s m args below meth c C
  refine r_iload_n C rfl dX5_look_0 ?_
  refine r_iconstv C 0 rfl dX5_look_1 ?_
  refine r_bipush C 10 rfl dX5_look_2 ?_
  refine r_callS C (sp_isOutside G rfl (show (0 : Int32).toInt = 0 from rfl) (show (10 : Int32).toInt = 10 from rfl)) ks_X5_isOutside kn_X5_isOutside rfl dX5_look_4 cl_X5_68 ⟨Nat.le_of_ble_eq_true rfl, Nat.le_of_ble_eq_true rfl⟩ (Nat.le_refl _) rfl (Nat.le_of_ble_eq_true rfl) ?_
  refine t_ifb_ne C 20 (by decide) dX5_look_7 (fun c7 => ?_) (fun c7 => ?_)
  · first
    | (exfalso; omega)
    |  (refine r_ldc C _ lc_X5_72 dX5_look_20 ?_
        exact r_iret C dX5_look_22 rfl (Nat.le_refl _) rfl rfl)
  · first
    | (exfalso; omega)
    |  (refine r_iload_n C rfl dX5_look_10 ?_
        refine r_iconstv C 0 rfl dX5_look_11 ?_
        refine r_bipush C 40 rfl dX5_look_12 ?_
        refine r_callS C (sp_isOutside G rfl (show (0 : Int32).toInt = 0 from rfl) (show (40 : Int32).toInt = 40 from rfl)) ks_X5_isOutside kn_X5_isOutside rfl dX5_look_14 cl_X5_68 ⟨Nat.le_of_ble_eq_true rfl, Nat.le_of_ble_eq_true rfl⟩ (Nat.le_refl _) rfl (Nat.le_of_ble_eq_true rfl) ?_
        refine t_ifb_eq C 23 (by decide) dX5_look_17 (fun c17 => ?_) (fun c17 => ?_)
        · first
          | (exfalso; omega)
          |  (refine r_aload_n C rfl rfl dX5_look_23 ?_
              refine r_iload_n C rfl dX5_look_24 ?_
              refine r_putI C dX5_look_25 fl_X5_43 rfl (q_lt hh.1 (by decide)) (Or.inl rfl) ?_
              refine r_aload_n C rfl rfl dX5_look_28 ?_
              refine r_iload_n C rfl dX5_look_29 ?_
              refine r_putI C dX5_look_30 fl_X5_46 rfl (q_lt hh.1 (by decide)) (Or.inl rfl) ?_
              refine r_aload_n C rfl rfl dX5_look_33 ?_
              refine r_callV C (sp_countDue G (by exact hh)) kv_X5_countDue kn_X5_countDue rfl dX5_look_34 cl_X5_108 ⟨Nat.le_of_ble_eq_true rfl, Nat.le_of_ble_eq_true rfl⟩ (by decide) rfl rfl (q_lt hh.1 (by decide)) (Nat.le_refl _) rfl (Nat.le_of_ble_eq_true rfl) ?_
              exact r_iret C dX5_look_37 rfl (Nat.le_refl _) rfl rfl)
        · first
          | (exfalso; omega)
          |  (refine r_ldc C _ lc_X5_72 dX5_look_20 ?_
              exact r_iret C dX5_look_22 rfl (Nat.le_refl _) rfl rfl))

set_option maxHeartbeats 4000000 in
set_option maxRecDepth 100000 in
theorem m_look (G : oG) {h : oH} (hs : oSh h) {n : Nat} (hn : (hI h 12 1).toInt = (n : Int)) (hn24 : n ≤ 24) (x y : Int32) (hx : (0 ≤ x.toInt ∧ x.toInt ≤ 10 ∧ 0 ≤ y.toInt ∧ y.toInt ≤ 40)) : oSp G mX6_look [.ref 12, .int x, .int y] h (some (.int (sumI (fun j => b1 (dueP (sI (sI (sI h 12 0 0) 12 17 x) 12 18 y) j)) n))) (sI (sI (sI h 12 0 0) 12 17 x) 12 18 y) := by
  refine oSp.intro [some (.ref 12), some (.int x), some (.int y)] rfl (Nat.le_of_ble_eq_true rfl) (plainFor_of_name (by decide +kernel)) (Nat.le_refl _) ?_
  intro p l e R s m args below meth c C
  refine r_aload_n C rfl rfl dX6_look_0 ?_
  refine r_iconstv C 0 rfl dX6_look_1 ?_
  refine r_putI C dX6_look_2 fl_X6_90 rfl (q_lt hs (by decide)) (Or.inl rfl) ?_
  refine r_iload_n C rfl dX6_look_5 ?_
  refine r_i2l C dX6_look_6 ?_
  refine r_lconst C 0 rfl dX6_look_7 ?_
  refine r_ldc2 C _ ll_X6_128 dX6_look_8 ?_
  refine r_callS C (sp_in G (tI2L rfl) (show (0 : Int64).toInt = 0 from rfl) (show (10 : Int64).toInt = 10 from rfl)) ks_X6_in kn_X6_in rfl dX6_look_11 cl_X6_96 ⟨Nat.le_of_ble_eq_true rfl, Nat.le_of_ble_eq_true rfl⟩ (Nat.le_refl _) rfl (Nat.le_of_ble_eq_true rfl) ?_
  refine t_ifb_eq C 29 (by decide) dX6_look_14 (fun c14 => ?_) (fun c14 => ?_)
  · first
    | (exfalso; omega)
    |  (refine r_ldc C _ lc_X6_106 dX6_look_29 ?_
        exact r_iret C dX6_look_31 rfl (Nat.le_refl _) rfl rfl)
  · first
    | (exfalso; omega)
    |  (refine r_iload_n C rfl dX6_look_17 ?_
        refine r_i2l C dX6_look_18 ?_
        refine r_lconst C 0 rfl dX6_look_19 ?_
        refine r_ldc2 C _ ll_X6_113 dX6_look_20 ?_
        refine r_callS C (sp_in G (tI2L rfl) (show (0 : Int64).toInt = 0 from rfl) (show (40 : Int64).toInt = 40 from rfl)) ks_X6_in kn_X6_in rfl dX6_look_23 cl_X6_96 ⟨Nat.le_of_ble_eq_true rfl, Nat.le_of_ble_eq_true rfl⟩ (Nat.le_refl _) rfl (Nat.le_of_ble_eq_true rfl) ?_
        refine t_ifb_ne C 32 (by decide) dX6_look_26 (fun c26 => ?_) (fun c26 => ?_)
        · first
          | (exfalso; omega)
          |  (refine r_aload_n C rfl rfl dX6_look_32 ?_
              refine r_iload_n C rfl dX6_look_33 ?_
              refine r_putI C dX6_look_34 fl_X6_53 rfl (q_lt hs (by decide)) (Or.inl rfl) ?_
              refine r_aload_n C rfl rfl dX6_look_37 ?_
              refine r_iload_n C rfl dX6_look_38 ?_
              refine r_putI C dX6_look_39 fl_X6_57 rfl (q_lt hs (by decide)) (Or.inl rfl) ?_
              refine r_aload_n C rfl rfl dX6_look_42 ?_
              refine r_callV C (sp_due G (by exact hs) (by exact hn) hn24) kv_X6_due kn_X6_due rfl dX6_look_43 cl_X6_130 ⟨Nat.le_of_ble_eq_true rfl, Nat.le_of_ble_eq_true rfl⟩ (by decide) rfl rfl (q_lt hs (by decide)) (Nat.le_refl _) rfl (Nat.le_of_ble_eq_true rfl) ?_
              exact r_iret C dX6_look_46 rfl (Nat.le_refl _) rfl rfl)
        · first
          | (exfalso; omega)
          |  (refine r_ldc C _ lc_X6_106 dX6_look_29 ?_
              exact r_iret C dX6_look_31 rfl (Nat.le_refl _) rfl rfl))

set_option maxHeartbeats 4000000 in
set_option maxRecDepth 100000 in
theorem m_lookB (G : oG) {h : oH} (hs : oSh h) {n : Nat} (hn : (hI h 12 1).toInt = (n : Int)) (hn24 : n ≤ 24) (x y : Int32) (hx : ¬ (0 ≤ x.toInt ∧ x.toInt ≤ 10 ∧ 0 ≤ y.toInt ∧ y.toInt ≤ 40)) : oSp G mX6_look [.ref 12, .int x, .int y] h (some (.int (-1000001))) (sI h 12 0 0) := by
  refine oSp.intro [some (.ref 12), some (.int x), some (.int y)] rfl (Nat.le_of_ble_eq_true rfl) (plainFor_of_name (by decide +kernel)) (Nat.le_refl _) ?_
  intro p l e R s m args below meth c C
  refine r_aload_n C rfl rfl dX6_look_0 ?_
  refine r_iconstv C 0 rfl dX6_look_1 ?_
  refine r_putI C dX6_look_2 fl_X6_90 rfl (q_lt hs (by decide)) (Or.inl rfl) ?_
  refine r_iload_n C rfl dX6_look_5 ?_
  refine r_i2l C dX6_look_6 ?_
  refine r_lconst C 0 rfl dX6_look_7 ?_
  refine r_ldc2 C _ ll_X6_128 dX6_look_8 ?_
  refine r_callS C (sp_in G (tI2L rfl) (show (0 : Int64).toInt = 0 from rfl) (show (10 : Int64).toInt = 10 from rfl)) ks_X6_in kn_X6_in rfl dX6_look_11 cl_X6_96 ⟨Nat.le_of_ble_eq_true rfl, Nat.le_of_ble_eq_true rfl⟩ (Nat.le_refl _) rfl (Nat.le_of_ble_eq_true rfl) ?_
  refine t_ifb_eq C 29 (by decide) dX6_look_14 (fun c14 => ?_) (fun c14 => ?_)
  · first
    | (exfalso; omega)
    |  (refine r_ldc C _ lc_X6_106 dX6_look_29 ?_
        exact r_iret C dX6_look_31 rfl (Nat.le_refl _) rfl rfl)
  · first
    | (exfalso; omega)
    |  (refine r_iload_n C rfl dX6_look_17 ?_
        refine r_i2l C dX6_look_18 ?_
        refine r_lconst C 0 rfl dX6_look_19 ?_
        refine r_ldc2 C _ ll_X6_113 dX6_look_20 ?_
        refine r_callS C (sp_in G (tI2L rfl) (show (0 : Int64).toInt = 0 from rfl) (show (40 : Int64).toInt = 40 from rfl)) ks_X6_in kn_X6_in rfl dX6_look_23 cl_X6_96 ⟨Nat.le_of_ble_eq_true rfl, Nat.le_of_ble_eq_true rfl⟩ (Nat.le_refl _) rfl (Nat.le_of_ble_eq_true rfl) ?_
        refine t_ifb_ne C 32 (by decide) dX6_look_26 (fun c26 => ?_) (fun c26 => ?_)
        · first
          | (exfalso; omega)
          |  (refine r_aload_n C rfl rfl dX6_look_32 ?_
              refine r_iload_n C rfl dX6_look_33 ?_
              refine r_putI C dX6_look_34 fl_X6_53 rfl (q_lt hs (by decide)) (Or.inl rfl) ?_
              refine r_aload_n C rfl rfl dX6_look_37 ?_
              refine r_iload_n C rfl dX6_look_38 ?_
              refine r_putI C dX6_look_39 fl_X6_57 rfl (q_lt hs (by decide)) (Or.inl rfl) ?_
              refine r_aload_n C rfl rfl dX6_look_42 ?_
              refine r_callV C (sp_due G (by exact hs) (by exact hn) hn24) kv_X6_due kn_X6_due rfl dX6_look_43 cl_X6_130 ⟨Nat.le_of_ble_eq_true rfl, Nat.le_of_ble_eq_true rfl⟩ (by decide) rfl rfl (q_lt hs (by decide)) (Nat.le_refl _) rfl (Nat.le_of_ble_eq_true rfl) ?_
              exact r_iret C dX6_look_46 rfl (Nat.le_refl _) rfl rfl)
        · first
          | (exfalso; omega)
          |  (refine r_ldc C _ lc_X6_106 dX6_look_29 ?_
              exact r_iret C dX6_look_31 rfl (Nat.le_refl _) rfl rfl))

theorem due_iff {h h' : oH} {i : Nat} (q : oHe h' i) (e6 : hI h 0 6 = hI h' 12 17) (e7 : hI h 0 7 = hI h' 12 18) (e : ∀ k, hI h (hid i) k = hI h' (hid i) k) : dueC h i ↔ dueP h' i := by
  unfold dueC dueP
  obtain ⟨-, -, -, -, -, q6, q7, -, q9, -⟩ := q
  rw [e6, e7, e, e, e, q6, q7, q9]
set_option maxHeartbeats 4000000 in
set_option maxRecDepth 100000 in
theorem case_look (G : oG) {h : oH} {n T : Nat} (I : Inv h n T) (x y : Int32) : Case G mX5_look mX6_look [.int x, .int y] h n T := by
  obtain ⟨⟨a1, a2, a3⟩, ⟨b1, b2, b3⟩, ⟨c1, c2, c3⟩, ⟨d1, d2, d3⟩, ⟨e1, e2, e3⟩, ⟨f1, f2, f3⟩, g1, g2, g3⟩ := id I.2.2.1
  have hs := I.1.1
  have hh := I.1
  by_cases hx : (0 ≤ x.toInt ∧ x.toInt ≤ 10 ∧ 0 ≤ y.toInt ∧ y.toInt ≤ 40)
  · have I2 : Inv (sI (sI (sI (sI (sI h 0 6 x) 0 7 y) 12 0 0) 12 17 x) 12 18 y) n (T + 1) := I.sc (Nat.le_succ T) rfl (fun _ _ => rfl) (fun a k h0 h12 => by simp [hI_sI, hI_sJ, h0, h12]) rfl rfl rfl rfl rfl ⟨⟨a1, a2, Int.le_trans a3 (by omega)⟩, ⟨rfl, hx.1, hx.2.1⟩, ⟨rfl, hx.2.2⟩, ⟨d1, d2, d3⟩, ⟨e1, e2, e3⟩, ⟨f1, f2, f3⟩, g1, g2, g3⟩
    refine ⟨_, _, _, n, c_look G hh x y hx, (m_look G (by exact hs) (n := n) (by exact I.2.1.2) hh.2.2.1 x y hx).ri (sumI_congr fun j hj => b1_iff (due_iff (I2.2.2.2.1 j hj).1 rfl rfl (fun k => ?_))), I2⟩
    simp only [hI_sI]
    (repeat rw [if_neg (by unfold hid; omega)])
  · exact case_bad G I (c_lookB G hh x y hx) (m_lookB G hs I.2.1.2 hh.2.2.1 x y hx)

set_option maxHeartbeats 4000000 in
set_option maxRecDepth 100000 in
theorem c_fault (G : oG) {h : oH} (hs : oSh h) : oSp G mX5_fault [.ref 0] h (some (.int (hI h 8 2))) h := by
  refine oSp.intro [some (.ref 0)] rfl (Nat.le_of_ble_eq_true rfl) (plainFor_of_name (by decide +kernel)) (Nat.le_refl _) ?_
  intro p l e R s m args below meth c C
  refine r_aload_n C rfl rfl dX5_fault_0 ?_
  refine r_getO C dX5_fault_1 fl_X5_25 rfl rfl (q_lt hs (by decide)) (sh_0_2 hs) ?_
  refine r_getI C dX5_fault_4 fl_X5_188 rfl (q_lt hs (by decide)) ?_
  exact r_iret C dX5_fault_7 rfl (Nat.le_refl _) rfl rfl

set_option maxHeartbeats 4000000 in
set_option maxRecDepth 100000 in
theorem m_fault (G : oG) {h : oH} (hs : oSh h) : oSp G mX6_fault [.ref 12] h (some (.int (hI h 12 30))) (sI h 12 0 0) := by
  refine oSp.intro [some (.ref 12)] rfl (Nat.le_of_ble_eq_true rfl) (plainFor_of_name (by decide +kernel)) (Nat.le_refl _) ?_
  intro p l e R s m args below meth c C
  refine r_aload_n C rfl rfl dX6_fault_0 ?_
  refine r_iconstv C 0 rfl dX6_fault_1 ?_
  refine r_putI C dX6_fault_2 fl_X6_90 rfl (q_lt hs (by decide)) (Or.inl rfl) ?_
  refine r_aload_n C rfl rfl dX6_fault_5 ?_
  refine r_getI C dX6_fault_6 fl_X6_271 rfl (q_lt hs (by decide)) ?_
  exact r_iret C dX6_fault_9 rfl (Nat.le_refl _) rfl rfl

set_option maxHeartbeats 4000000 in
set_option maxRecDepth 100000 in
theorem case_fault (G : oG) {h : oH} {n T : Nat} (I : Inv h n T)  : Case G mX5_fault mX6_fault [] h n T := by
  obtain ⟨⟨a1, a2, a3⟩, ⟨b1, b2, b3⟩, ⟨c1, c2, c3⟩, ⟨d1, d2, d3⟩, ⟨e1, e2, e3⟩, ⟨f1, f2, f3⟩, g1, g2, g3⟩ := id I.2.2.1
  have hs := I.1.1
  have hh := I.1
  exact case_same G I (c_fault G hs) (m_fault G hs) I.2.2.2.2.1.1

