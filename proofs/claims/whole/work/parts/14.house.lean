/-! calls that name a house -/
def costC (h : oH) (b : Nat) (q d : Int32) : Int32 := if (hI h b 0).toInt = 1 then q * mn d (hI h b 2) else if (hI h b 0).toInt = 2 then mn q (hI h b 1) * hI h b 2 + (q - mn q (hI h b 1)) * d else q * d
theorem mn_mnM (x y : Int32) : mn x y = mnM x y := by
  unfold mn mnM
  split
  · rw [if_neg (by omega)]
  · split
    · rfl
    · exact Int32.toInt_inj.mp (by omega)
theorem mx_mxM (x y : Int32) : mx x y = mxM x y := by
  unfold mx mxM
  split
  · rw [if_neg (by omega)]
  · split
    · rfl
    · exact Int32.toInt_inj.mp (by omega)
set_option maxHeartbeats 4000000 in
set_option maxRecDepth 100000 in
theorem sp_costOf0 (G : oG) {h : oH} {b : Nat} (tb : tg b = (0, 2)) (lb : b < h.1) (q d : Int32) (hw : (hI h b 0).toInt = 0) : oSp G mX2_costOf [.ref b, .int q, .int d] h (some (.int (costC h b q d))) h := by
  refine oSp.intro [some (.ref b), some (.int q), some (.int d)] rfl (Nat.le_of_ble_eq_true rfl) (plainFor_of_name (by decide +kernel)) (Nat.le_refl _) ?_
  intro p l e R s m args below meth c C
  refine r_aload_n C rfl rfl dX2_costOf_0 ?_
  refine r_getI C dX2_costOf_1 fl_X2_9 tb lb ?_
  refine r_lookup C 64 (by decide) (by rw [hw]) (by decide) dX2_costOf_4 ?_
  refine r_iload_n C rfl dX2_costOf_64 ?_
  refine r_iload_n C rfl dX2_costOf_65 ?_
  refine r_imul C dX2_costOf_66 ?_
  exact r_iret C dX2_costOf_67 rfl (Nat.le_refl _) (by simp only [costC]; (repeat' split) <;> first | rfl | omega) rfl

set_option maxHeartbeats 4000000 in
set_option maxRecDepth 100000 in
theorem sp_costOf1 (G : oG) {h : oH} {b : Nat} (tb : tg b = (0, 2)) (lb : b < h.1) (q d : Int32) (hw : (hI h b 0).toInt = 1) : oSp G mX2_costOf [.ref b, .int q, .int d] h (some (.int (costC h b q d))) h := by
  refine oSp.intro [some (.ref b), some (.int q), some (.int d)] rfl (Nat.le_of_ble_eq_true rfl) (plainFor_of_name (by decide +kernel)) (Nat.le_refl _) ?_
  intro p l e R s m args below meth c C
  refine r_aload_n C rfl rfl dX2_costOf_0 ?_
  refine r_getI C dX2_costOf_1 fl_X2_9 tb lb ?_
  refine r_lookup C 32 (by decide) (by rw [hw]) (by decide) dX2_costOf_4 ?_
  refine r_iload_n C rfl dX2_costOf_32 ?_
  refine r_iload_n C rfl dX2_costOf_33 ?_
  refine r_aload_n C rfl rfl dX2_costOf_34 ?_
  refine r_getI C dX2_costOf_35 fl_X2_18 tb lb ?_
  refine r_callS C (sp_min G _ _) ks_J9_min_7cf53 kn_J9_min_7cf53 rfl dX2_costOf_38 cl_X2_21 ⟨Nat.le_of_ble_eq_true rfl, Nat.le_of_ble_eq_true rfl⟩ (Nat.le_refl _) rfl (Nat.le_of_ble_eq_true rfl) ?_
  refine r_imul C dX2_costOf_41 ?_
  exact r_iret C dX2_costOf_42 rfl (Nat.le_refl _) (by simp only [costC]; (repeat' split) <;> first | rfl | omega) rfl

set_option maxHeartbeats 4000000 in
set_option maxRecDepth 100000 in
theorem sp_costOf2 (G : oG) {h : oH} {b : Nat} (tb : tg b = (0, 2)) (lb : b < h.1) (q d : Int32) (hw : (hI h b 0).toInt = 2) : oSp G mX2_costOf [.ref b, .int q, .int d] h (some (.int (costC h b q d))) h := by
  refine oSp.intro [some (.ref b), some (.int q), some (.int d)] rfl (Nat.le_of_ble_eq_true rfl) (plainFor_of_name (by decide +kernel)) (Nat.le_refl _) ?_
  intro p l e R s m args below meth c C
  refine r_aload_n C rfl rfl dX2_costOf_0 ?_
  refine r_getI C dX2_costOf_1 fl_X2_9 tb lb ?_
  refine r_lookup C 43 (by decide) (by rw [hw]) (by decide) dX2_costOf_4 ?_
  refine r_aload_n C rfl rfl dX2_costOf_43 ?_
  refine r_iload_n C rfl dX2_costOf_44 ?_
  refine r_callV C (sp_ahead G tb (by exact lb) _) kv_X2_ahead kn_X2_ahead rfl dX2_costOf_45 cl_X2_27 ⟨Nat.le_of_ble_eq_true rfl, Nat.le_of_ble_eq_true rfl⟩ (by decide) rfl tb lb (Nat.le_refl _) rfl (Nat.le_of_ble_eq_true rfl) ?_
  refine r_aload_n C rfl rfl dX2_costOf_48 ?_
  refine r_getI C dX2_costOf_49 fl_X2_18 tb lb ?_
  refine r_imul C dX2_costOf_52 ?_
  refine r_iload_n C rfl dX2_costOf_53 ?_
  refine r_aload_n C rfl rfl dX2_costOf_54 ?_
  refine r_iload_n C rfl dX2_costOf_55 ?_
  refine r_callV C (sp_ahead G tb (by exact lb) _) kv_X2_ahead kn_X2_ahead rfl dX2_costOf_56 cl_X2_27 ⟨Nat.le_of_ble_eq_true rfl, Nat.le_of_ble_eq_true rfl⟩ (by decide) rfl tb lb (Nat.le_refl _) rfl (Nat.le_of_ble_eq_true rfl) ?_
  refine r_isub C dX2_costOf_59 ?_
  refine r_iload_n C rfl dX2_costOf_60 ?_
  refine r_imul C dX2_costOf_61 ?_
  refine r_iadd C dX2_costOf_62 ?_
  exact r_iret C dX2_costOf_63 rfl (Nat.le_refl _) (by simp only [costC]; (repeat' split) <;> first | rfl | omega) rfl

theorem sp_costOf (G : oG) {h : oH} {b : Nat} (tb : tg b = (0, 2)) (lb : b < h.1) (q d : Int32) (hw : 0 ≤ (hI h b 0).toInt ∧ (hI h b 0).toInt ≤ 2) : oSp G mX2_costOf [.ref b, .int q, .int d] h (some (.int (costC h b q d))) h := by
  rcases (show (hI h b 0).toInt = 0 ∨ (hI h b 0).toInt = 1 ∨ (hI h b 0).toInt = 2 by omega) with q1 | q1 | q1
  · exact sp_costOf0 G tb lb q d q1
  · exact sp_costOf1 G tb lb q d q1
  · exact sp_costOf2 G tb lb q d q1
theorem cost_eq {h h' : oH} {i : Nat} {q d : Int32} (e0 : hI h (pid i) 0 = hI h' 24 i) (e1 : hI h (pid i) 1 = hI h' 25 i) (e2 : hI h (pid i) 2 = hI h' 26 i) (ed : d = hI h' 12 21) : costC h (pid i) q d = costM h' i q := by
  unfold costC costM
  rw [e0, e1, e2, ed, mn_mnM, mn_mnM, Int32.zero_mul, Int32.sub_zero, Int32.zero_add]
theorem kind_eq {h h' : oH} {i T : Nat} (q : oHe h' i) (qb : oHb h' i T) (e : ∀ k, hI h (hid i) k = hI h' (hid i) k) : tkC h (hid i) = kM h' i := by
  obtain ⟨-, -, -, q4, q5, q6, q7, q8, q9, q10, q11, q12, -⟩ := q
  obtain ⟨-, -, -, -, -, -, -, b8, b9, b10, b11, -⟩ := qb
  unfold tkC kM
  rw [e, e, e, e, e, q5, q7, q10, q11, q12]
  (repeat' split) <;> first | rfl | omega
set_option maxHeartbeats 4000000 in
set_option maxRecDepth 100000 in
theorem c_told0 (G : oG) {h : oH} {n : Nat} (hh : oHs h n) (v : Int32) {i : Nat} (hi : i < n) (hv : v.toInt = (i : Int)) (x : Int32) (hk : x.toInt = 0) : oSp G mX5_told [.ref 0, .int v, .int x] h (some (.int (hI h (hid i) 4))) h := by
  refine oSp.intro [some (.ref 0), some (.int v), some (.int x), none] rfl (Nat.le_of_ble_eq_true rfl) (plainFor_of_name (by decide +kernel)) (Nat.le_refl _) ?_
  intro p l e R s m args below meth c C
  refine r_aload_n C rfl rfl dX5_told_0 ?_
  refine r_iload_n C rfl dX5_told_1 ?_
  refine r_callV C (sp_houseAt G (by exact hh) _ hi hv) kv_X5_houseAt kn_X5_houseAt rfl dX5_told_2 cl_X5_77 ⟨Nat.le_of_ble_eq_true rfl, Nat.le_of_ble_eq_true rfl⟩ (by decide) rfl rfl (q_lt hh.1 (by decide)) (Nat.le_refl _) rfl (Nat.le_of_ble_eq_true rfl) ?_
  refine r_astore_n C rfl rfl (Nat.le_of_ble_eq_true rfl) dX5_told_5 ?_
  refine r_aload_n C rfl rfl dX5_told_6 ?_
  refine r_ifnonnull C 13 (by decide) dX5_told_7 ?_
  refine r_iload_n C rfl dX5_told_13 ?_
  refine r_tableIn C 72 (by rw [hk]; decide) (by rw [hk]; decide) (by rw [hk]; rfl) (by decide) dX5_told_14 ?_
  refine r_aload_n C rfl rfl dX5_told_72 ?_
  refine r_getI C dX5_told_73 fl_X5_88 (tg_hid i) (oHs.lt hh hi) ?_
  exact r_iret C dX5_told_76 rfl (Nat.le_refl _) rfl rfl

set_option maxHeartbeats 4000000 in
set_option maxRecDepth 100000 in
theorem m_told0 (G : oG) {h : oH} (hs : oSh h) {n : Nat} (hn : (hI h 12 1).toInt = (n : Int)) (hn24 : n ≤ 24) (v : Int32) {i : Nat} (hi : i < n) (hv : v.toInt = (i : Int)) (x : Int32) (hk : x.toInt = 0) : oSp G mX6_told [.ref 12, .int v, .int x] h (some (.int (hI h 16 (4 * i)))) (sI h 12 0 0) := by
  refine oSp.intro [some (.ref 12), some (.int v), some (.int x)] rfl (Nat.le_of_ble_eq_true rfl) (plainFor_of_name (by decide +kernel)) (Nat.le_refl _) ?_
  intro p l e R s m args below meth c C
  refine r_aload_n C rfl rfl dX6_told_0 ?_
  refine r_iconstv C 0 rfl dX6_told_1 ?_
  refine r_putI C dX6_told_2 fl_X6_90 rfl (q_lt hs (by decide)) (Or.inl rfl) ?_
  refine r_aload_n C rfl rfl dX6_told_5 ?_
  refine r_iload_n C rfl dX6_told_6 ?_
  refine r_callV C (sp_isHouse G (by exact hs) (by exact hn) hn24 _) kv_X6_isHouse kn_X6_isHouse rfl dX6_told_7 cl_X6_108 ⟨Nat.le_of_ble_eq_true rfl, Nat.le_of_ble_eq_true rfl⟩ (by decide) rfl rfl (q_lt hs (by decide)) (Nat.le_refl _) rfl (Nat.le_of_ble_eq_true rfl) ?_
  refine t_ifb_eq C 25 (by decide) dX6_told_10 (fun c10 => ?_) (fun c10 => ?_)
  · first
    | (exfalso; omega)
    |  (refine r_ldc C _ lc_X6_106 dX6_told_25 ?_
        exact r_iret C dX6_told_27 rfl (Nat.le_refl _) rfl rfl)
  · first
    | (exfalso; omega)
    |  (refine r_iload_n C rfl dX6_told_13 ?_
        refine r_i2l C dX6_told_14 ?_
        refine r_lconst C 0 rfl dX6_told_15 ?_
        refine r_ldc2 C _ ll_X6_128 dX6_told_16 ?_
        refine r_callS C (sp_in G (tI2L hk) (show (0 : Int64).toInt = 0 from rfl) (show (10 : Int64).toInt = 10 from rfl)) ks_X6_in kn_X6_in rfl dX6_told_19 cl_X6_96 ⟨Nat.le_of_ble_eq_true rfl, Nat.le_of_ble_eq_true rfl⟩ (Nat.le_refl _) rfl (Nat.le_of_ble_eq_true rfl) ?_
        refine t_ifb_ne C 28 (by decide) dX6_told_22 (fun c22 => ?_) (fun c22 => ?_)
        · first
          | (exfalso; omega)
          |  (refine r_iload_n C rfl dX6_told_28 ?_
              refine r_iconstv C 4 rfl dX6_told_29 ?_
              refine t_icmp_ge C 44 (by decide) hk (show (4 : Int32).toInt = 4 from rfl) dX6_told_30 (fun c30 => ?_) (fun c30 => ?_)
              · first
                | (exfalso; omega)
                |  (refine r_iload_n C rfl dX6_told_44 ?_
                    refine r_iconstv C 4 rfl dX6_told_45 ?_
                    refine t_icmp_ne C 58 (by decide) hk (show (4 : Int32).toInt = 4 from rfl) dX6_told_46 (fun c46 => ?_) (fun c46 => ?_)
                    · first
                      | (exfalso; omega)
                      |  (refine r_iload_n C rfl dX6_told_58 ?_
                          refine r_iconstv C 5 rfl dX6_told_59 ?_
                          refine t_icmp_ne C 72 (by decide) hk (show (5 : Int32).toInt = 5 from rfl) dX6_told_60 (fun c60 => ?_) (fun c60 => ?_)
                          · first
                            | (exfalso; omega)
                            |  (refine r_iload_n C rfl dX6_told_72 ?_
                                refine r_bipush C 6 rfl dX6_told_73 ?_
                                refine t_icmp_ne C 94 (by decide) hk (show (6 : Int32).toInt = 6 from rfl) dX6_told_75 (fun c75 => ?_) (fun c75 => ?_)
                                · first
                                  | (exfalso; omega)
                                  |  (refine r_iload_n C rfl dX6_told_94 ?_
                                      refine r_bipush C 7 rfl dX6_told_95 ?_
                                      refine t_icmp_ne C 109 (by decide) hk (show (7 : Int32).toInt = 7 from rfl) dX6_told_97 (fun c97 => ?_) (fun c97 => ?_)
                                      · first
                                        | (exfalso; omega)
                                        |  (refine r_iload_n C rfl dX6_told_109 ?_
                                            refine r_bipush C 8 rfl dX6_told_110 ?_
                                            refine t_icmp_ne C 124 (by decide) hk (show (8 : Int32).toInt = 8 from rfl) dX6_told_112 (fun c112 => ?_) (fun c112 => ?_)
                                            · first
                                              | (exfalso; omega)
                                              |  (refine r_iload_n C rfl dX6_told_124 ?_
                                                  refine r_bipush C 9 rfl dX6_told_125 ?_
                                                  refine t_icmp_ne C 139 (by decide) hk (show (9 : Int32).toInt = 9 from rfl) dX6_told_127 (fun c127 => ?_) (fun c127 => ?_)
                                                  · first
                                                    | (exfalso; omega)
                                                    |  (refine r_aload_n C rfl rfl dX6_told_139 ?_
                                                        refine r_getO C dX6_told_140 fl_X6_41 rfl rfl (q_lt hs (by decide)) (sh_12_12 hs) ?_
                                                        refine r_iload_n C rfl dX6_told_143 ?_
                                                        refine r_iald C (i) (by have t := hv; omega) (by omega) dX6_told_144 rfl (q_lt hs (by decide)) ?_
                                                        exact r_iret C dX6_told_145 rfl (Nat.le_refl _) rfl rfl)
                                                  · first
                                                    | (exfalso; omega)
                                                    |  (refine r_aload_n C rfl rfl dX6_told_130 ?_
                                                        refine r_getO C dX6_told_131 fl_X6_38 rfl rfl (q_lt hs (by decide)) (sh_12_11 hs) ?_
                                                        refine r_iload_n C rfl dX6_told_134 ?_
                                                        refine r_iald C (i) (by have t := hv; omega) (by omega) dX6_told_135 rfl (q_lt hs (by decide)) ?_
                                                        refine r_goto C 145 (by decide) dX6_told_136 ?_
                                                        exact r_iret C dX6_told_145 rfl (Nat.le_refl _) rfl rfl))
                                            · first
                                              | (exfalso; omega)
                                              |  (refine r_aload_n C rfl rfl dX6_told_115 ?_
                                                  refine r_getO C dX6_told_116 fl_X6_31 rfl rfl (q_lt hs (by decide)) (sh_12_9 hs) ?_
                                                  refine r_iload_n C rfl dX6_told_119 ?_
                                                  refine r_iald C (i) (by have t := hv; omega) (by omega) dX6_told_120 rfl (q_lt hs (by decide)) ?_
                                                  refine r_goto C 145 (by decide) dX6_told_121 ?_
                                                  exact r_iret C dX6_told_145 rfl (Nat.le_refl _) rfl rfl))
                                      · first
                                        | (exfalso; omega)
                                        |  (refine r_aload_n C rfl rfl dX6_told_100 ?_
                                            refine r_getO C dX6_told_101 fl_X6_28 rfl rfl (q_lt hs (by decide)) (sh_12_8 hs) ?_
                                            refine r_iload_n C rfl dX6_told_104 ?_
                                            refine r_iald C (i) (by have t := hv; omega) (by omega) dX6_told_105 rfl (q_lt hs (by decide)) ?_
                                            refine r_goto C 145 (by decide) dX6_told_106 ?_
                                            exact r_iret C dX6_told_145 rfl (Nat.le_refl _) rfl rfl))
                                · first
                                  | (exfalso; omega)
                                  |  (refine r_aload_n C rfl rfl dX6_told_78 ?_
                                      refine r_iload_n C rfl dX6_told_79 ?_
                                      refine r_callV C (sp_isDueM G (by exact hs) _ hv (by omega)) kv_X6_isDue kn_X6_isDue rfl dX6_told_80 cl_X6_125 ⟨Nat.le_of_ble_eq_true rfl, Nat.le_of_ble_eq_true rfl⟩ (by decide) rfl rfl (q_lt hs (by decide)) (Nat.le_refl _) rfl (Nat.le_of_ble_eq_true rfl) ?_
                                      refine t_ifb_eq C 90 (by decide) dX6_told_83 (fun c83 => ?_) (fun c83 => ?_)
                                      · first
                                        | (exfalso; omega)
                                        |  (refine r_iconstv C 0 rfl dX6_told_90 ?_
                                            refine r_goto C 145 (by decide) dX6_told_91 ?_
                                            exact r_iret C dX6_told_145 rfl (Nat.le_refl _) rfl rfl)
                                      · first
                                        | (exfalso; omega)
                                        |  (refine r_iconstv C 1 rfl dX6_told_86 ?_
                                            refine r_goto C 145 (by decide) dX6_told_87 ?_
                                            exact r_iret C dX6_told_145 rfl (Nat.le_refl _) rfl rfl)))
                          · first
                            | (exfalso; omega)
                            |  (refine r_aload_n C rfl rfl dX6_told_63 ?_
                                refine r_getO C dX6_told_64 fl_X6_25 rfl rfl (q_lt hs (by decide)) (sh_12_7 hs) ?_
                                refine r_iload_n C rfl dX6_told_67 ?_
                                refine r_iald C (i) (by have t := hv; omega) (by omega) dX6_told_68 rfl (q_lt hs (by decide)) ?_
                                refine r_goto C 145 (by decide) dX6_told_69 ?_
                                exact r_iret C dX6_told_145 rfl (Nat.le_refl _) rfl rfl))
                    · first
                      | (exfalso; omega)
                      |  (refine r_aload_n C rfl rfl dX6_told_49 ?_
                          refine r_getO C dX6_told_50 fl_X6_22 rfl rfl (q_lt hs (by decide)) (sh_12_6 hs) ?_
                          refine r_iload_n C rfl dX6_told_53 ?_
                          refine r_iald C (i) (by have t := hv; omega) (by omega) dX6_told_54 rfl (q_lt hs (by decide)) ?_
                          refine r_goto C 145 (by decide) dX6_told_55 ?_
                          exact r_iret C dX6_told_145 rfl (Nat.le_refl _) rfl rfl))
              · first
                | (exfalso; omega)
                |  (refine r_aload_n C rfl rfl dX6_told_33 ?_
                    refine r_getO C dX6_told_34 fl_X6_19 rfl rfl (q_lt hs (by decide)) (sh_12_5 hs) ?_
                    refine r_iconstv C 4 rfl dX6_told_37 ?_
                    refine r_iload_n C rfl dX6_told_38 ?_
                    refine r_imul C dX6_told_39 ?_
                    refine r_iload_n C rfl dX6_told_40 ?_
                    refine r_iadd C dX6_told_41 ?_
                    refine r_iald C (((4) * (i)) + (0)) (by have t := (tA (tM (show (4 : Int32).toInt = 4 from rfl) hv (by omega)) hk (by omega)); omega) (by omega) dX6_told_42 rfl (q_lt hs (by decide)) ?_
                    exact r_iret C dX6_told_43 rfl (Nat.le_refl _) rfl rfl))
        · first
          | (exfalso; omega)
          |  (refine r_ldc C _ lc_X6_106 dX6_told_25 ?_
              exact r_iret C dX6_told_27 rfl (Nat.le_refl _) rfl rfl))

set_option maxHeartbeats 4000000 in
set_option maxRecDepth 100000 in
theorem c_told1 (G : oG) {h : oH} {n : Nat} (hh : oHs h n) (v : Int32) {i : Nat} (hi : i < n) (hv : v.toInt = (i : Int)) (x : Int32) (hk : x.toInt = 1) : oSp G mX5_told [.ref 0, .int v, .int x] h (some (.int (hI h (hid i) 5))) h := by
  refine oSp.intro [some (.ref 0), some (.int v), some (.int x), none] rfl (Nat.le_of_ble_eq_true rfl) (plainFor_of_name (by decide +kernel)) (Nat.le_refl _) ?_
  intro p l e R s m args below meth c C
  refine r_aload_n C rfl rfl dX5_told_0 ?_
  refine r_iload_n C rfl dX5_told_1 ?_
  refine r_callV C (sp_houseAt G (by exact hh) _ hi hv) kv_X5_houseAt kn_X5_houseAt rfl dX5_told_2 cl_X5_77 ⟨Nat.le_of_ble_eq_true rfl, Nat.le_of_ble_eq_true rfl⟩ (by decide) rfl rfl (q_lt hh.1 (by decide)) (Nat.le_refl _) rfl (Nat.le_of_ble_eq_true rfl) ?_
  refine r_astore_n C rfl rfl (Nat.le_of_ble_eq_true rfl) dX5_told_5 ?_
  refine r_aload_n C rfl rfl dX5_told_6 ?_
  refine r_ifnonnull C 13 (by decide) dX5_told_7 ?_
  refine r_iload_n C rfl dX5_told_13 ?_
  refine r_tableIn C 77 (by rw [hk]; decide) (by rw [hk]; decide) (by rw [hk]; rfl) (by decide) dX5_told_14 ?_
  refine r_aload_n C rfl rfl dX5_told_77 ?_
  refine r_getI C dX5_told_78 fl_X5_91 (tg_hid i) (oHs.lt hh hi) ?_
  exact r_iret C dX5_told_81 rfl (Nat.le_refl _) rfl rfl

set_option maxHeartbeats 4000000 in
set_option maxRecDepth 100000 in
theorem m_told1 (G : oG) {h : oH} (hs : oSh h) {n : Nat} (hn : (hI h 12 1).toInt = (n : Int)) (hn24 : n ≤ 24) (v : Int32) {i : Nat} (hi : i < n) (hv : v.toInt = (i : Int)) (x : Int32) (hk : x.toInt = 1) : oSp G mX6_told [.ref 12, .int v, .int x] h (some (.int (hI h 16 (4 * i + 1)))) (sI h 12 0 0) := by
  refine oSp.intro [some (.ref 12), some (.int v), some (.int x)] rfl (Nat.le_of_ble_eq_true rfl) (plainFor_of_name (by decide +kernel)) (Nat.le_refl _) ?_
  intro p l e R s m args below meth c C
  refine r_aload_n C rfl rfl dX6_told_0 ?_
  refine r_iconstv C 0 rfl dX6_told_1 ?_
  refine r_putI C dX6_told_2 fl_X6_90 rfl (q_lt hs (by decide)) (Or.inl rfl) ?_
  refine r_aload_n C rfl rfl dX6_told_5 ?_
  refine r_iload_n C rfl dX6_told_6 ?_
  refine r_callV C (sp_isHouse G (by exact hs) (by exact hn) hn24 _) kv_X6_isHouse kn_X6_isHouse rfl dX6_told_7 cl_X6_108 ⟨Nat.le_of_ble_eq_true rfl, Nat.le_of_ble_eq_true rfl⟩ (by decide) rfl rfl (q_lt hs (by decide)) (Nat.le_refl _) rfl (Nat.le_of_ble_eq_true rfl) ?_
  refine t_ifb_eq C 25 (by decide) dX6_told_10 (fun c10 => ?_) (fun c10 => ?_)
  · first
    | (exfalso; omega)
    |  (refine r_ldc C _ lc_X6_106 dX6_told_25 ?_
        exact r_iret C dX6_told_27 rfl (Nat.le_refl _) rfl rfl)
  · first
    | (exfalso; omega)
    |  (refine r_iload_n C rfl dX6_told_13 ?_
        refine r_i2l C dX6_told_14 ?_
        refine r_lconst C 0 rfl dX6_told_15 ?_
        refine r_ldc2 C _ ll_X6_128 dX6_told_16 ?_
        refine r_callS C (sp_in G (tI2L hk) (show (0 : Int64).toInt = 0 from rfl) (show (10 : Int64).toInt = 10 from rfl)) ks_X6_in kn_X6_in rfl dX6_told_19 cl_X6_96 ⟨Nat.le_of_ble_eq_true rfl, Nat.le_of_ble_eq_true rfl⟩ (Nat.le_refl _) rfl (Nat.le_of_ble_eq_true rfl) ?_
        refine t_ifb_ne C 28 (by decide) dX6_told_22 (fun c22 => ?_) (fun c22 => ?_)
        · first
          | (exfalso; omega)
          |  (refine r_iload_n C rfl dX6_told_28 ?_
              refine r_iconstv C 4 rfl dX6_told_29 ?_
              refine t_icmp_ge C 44 (by decide) hk (show (4 : Int32).toInt = 4 from rfl) dX6_told_30 (fun c30 => ?_) (fun c30 => ?_)
              · first
                | (exfalso; omega)
                |  (refine r_iload_n C rfl dX6_told_44 ?_
                    refine r_iconstv C 4 rfl dX6_told_45 ?_
                    refine t_icmp_ne C 58 (by decide) hk (show (4 : Int32).toInt = 4 from rfl) dX6_told_46 (fun c46 => ?_) (fun c46 => ?_)
                    · first
                      | (exfalso; omega)
                      |  (refine r_iload_n C rfl dX6_told_58 ?_
                          refine r_iconstv C 5 rfl dX6_told_59 ?_
                          refine t_icmp_ne C 72 (by decide) hk (show (5 : Int32).toInt = 5 from rfl) dX6_told_60 (fun c60 => ?_) (fun c60 => ?_)
                          · first
                            | (exfalso; omega)
                            |  (refine r_iload_n C rfl dX6_told_72 ?_
                                refine r_bipush C 6 rfl dX6_told_73 ?_
                                refine t_icmp_ne C 94 (by decide) hk (show (6 : Int32).toInt = 6 from rfl) dX6_told_75 (fun c75 => ?_) (fun c75 => ?_)
                                · first
                                  | (exfalso; omega)
                                  |  (refine r_iload_n C rfl dX6_told_94 ?_
                                      refine r_bipush C 7 rfl dX6_told_95 ?_
                                      refine t_icmp_ne C 109 (by decide) hk (show (7 : Int32).toInt = 7 from rfl) dX6_told_97 (fun c97 => ?_) (fun c97 => ?_)
                                      · first
                                        | (exfalso; omega)
                                        |  (refine r_iload_n C rfl dX6_told_109 ?_
                                            refine r_bipush C 8 rfl dX6_told_110 ?_
                                            refine t_icmp_ne C 124 (by decide) hk (show (8 : Int32).toInt = 8 from rfl) dX6_told_112 (fun c112 => ?_) (fun c112 => ?_)
                                            · first
                                              | (exfalso; omega)
                                              |  (refine r_iload_n C rfl dX6_told_124 ?_
                                                  refine r_bipush C 9 rfl dX6_told_125 ?_
                                                  refine t_icmp_ne C 139 (by decide) hk (show (9 : Int32).toInt = 9 from rfl) dX6_told_127 (fun c127 => ?_) (fun c127 => ?_)
                                                  · first
                                                    | (exfalso; omega)
                                                    |  (refine r_aload_n C rfl rfl dX6_told_139 ?_
                                                        refine r_getO C dX6_told_140 fl_X6_41 rfl rfl (q_lt hs (by decide)) (sh_12_12 hs) ?_
                                                        refine r_iload_n C rfl dX6_told_143 ?_
                                                        refine r_iald C (i) (by have t := hv; omega) (by omega) dX6_told_144 rfl (q_lt hs (by decide)) ?_
                                                        exact r_iret C dX6_told_145 rfl (Nat.le_refl _) rfl rfl)
                                                  · first
                                                    | (exfalso; omega)
                                                    |  (refine r_aload_n C rfl rfl dX6_told_130 ?_
                                                        refine r_getO C dX6_told_131 fl_X6_38 rfl rfl (q_lt hs (by decide)) (sh_12_11 hs) ?_
                                                        refine r_iload_n C rfl dX6_told_134 ?_
                                                        refine r_iald C (i) (by have t := hv; omega) (by omega) dX6_told_135 rfl (q_lt hs (by decide)) ?_
                                                        refine r_goto C 145 (by decide) dX6_told_136 ?_
                                                        exact r_iret C dX6_told_145 rfl (Nat.le_refl _) rfl rfl))
                                            · first
                                              | (exfalso; omega)
                                              |  (refine r_aload_n C rfl rfl dX6_told_115 ?_
                                                  refine r_getO C dX6_told_116 fl_X6_31 rfl rfl (q_lt hs (by decide)) (sh_12_9 hs) ?_
                                                  refine r_iload_n C rfl dX6_told_119 ?_
                                                  refine r_iald C (i) (by have t := hv; omega) (by omega) dX6_told_120 rfl (q_lt hs (by decide)) ?_
                                                  refine r_goto C 145 (by decide) dX6_told_121 ?_
                                                  exact r_iret C dX6_told_145 rfl (Nat.le_refl _) rfl rfl))
                                      · first
                                        | (exfalso; omega)
                                        |  (refine r_aload_n C rfl rfl dX6_told_100 ?_
                                            refine r_getO C dX6_told_101 fl_X6_28 rfl rfl (q_lt hs (by decide)) (sh_12_8 hs) ?_
                                            refine r_iload_n C rfl dX6_told_104 ?_
                                            refine r_iald C (i) (by have t := hv; omega) (by omega) dX6_told_105 rfl (q_lt hs (by decide)) ?_
                                            refine r_goto C 145 (by decide) dX6_told_106 ?_
                                            exact r_iret C dX6_told_145 rfl (Nat.le_refl _) rfl rfl))
                                · first
                                  | (exfalso; omega)
                                  |  (refine r_aload_n C rfl rfl dX6_told_78 ?_
                                      refine r_iload_n C rfl dX6_told_79 ?_
                                      refine r_callV C (sp_isDueM G (by exact hs) _ hv (by omega)) kv_X6_isDue kn_X6_isDue rfl dX6_told_80 cl_X6_125 ⟨Nat.le_of_ble_eq_true rfl, Nat.le_of_ble_eq_true rfl⟩ (by decide) rfl rfl (q_lt hs (by decide)) (Nat.le_refl _) rfl (Nat.le_of_ble_eq_true rfl) ?_
                                      refine t_ifb_eq C 90 (by decide) dX6_told_83 (fun c83 => ?_) (fun c83 => ?_)
                                      · first
                                        | (exfalso; omega)
                                        |  (refine r_iconstv C 0 rfl dX6_told_90 ?_
                                            refine r_goto C 145 (by decide) dX6_told_91 ?_
                                            exact r_iret C dX6_told_145 rfl (Nat.le_refl _) rfl rfl)
                                      · first
                                        | (exfalso; omega)
                                        |  (refine r_iconstv C 1 rfl dX6_told_86 ?_
                                            refine r_goto C 145 (by decide) dX6_told_87 ?_
                                            exact r_iret C dX6_told_145 rfl (Nat.le_refl _) rfl rfl)))
                          · first
                            | (exfalso; omega)
                            |  (refine r_aload_n C rfl rfl dX6_told_63 ?_
                                refine r_getO C dX6_told_64 fl_X6_25 rfl rfl (q_lt hs (by decide)) (sh_12_7 hs) ?_
                                refine r_iload_n C rfl dX6_told_67 ?_
                                refine r_iald C (i) (by have t := hv; omega) (by omega) dX6_told_68 rfl (q_lt hs (by decide)) ?_
                                refine r_goto C 145 (by decide) dX6_told_69 ?_
                                exact r_iret C dX6_told_145 rfl (Nat.le_refl _) rfl rfl))
                    · first
                      | (exfalso; omega)
                      |  (refine r_aload_n C rfl rfl dX6_told_49 ?_
                          refine r_getO C dX6_told_50 fl_X6_22 rfl rfl (q_lt hs (by decide)) (sh_12_6 hs) ?_
                          refine r_iload_n C rfl dX6_told_53 ?_
                          refine r_iald C (i) (by have t := hv; omega) (by omega) dX6_told_54 rfl (q_lt hs (by decide)) ?_
                          refine r_goto C 145 (by decide) dX6_told_55 ?_
                          exact r_iret C dX6_told_145 rfl (Nat.le_refl _) rfl rfl))
              · first
                | (exfalso; omega)
                |  (refine r_aload_n C rfl rfl dX6_told_33 ?_
                    refine r_getO C dX6_told_34 fl_X6_19 rfl rfl (q_lt hs (by decide)) (sh_12_5 hs) ?_
                    refine r_iconstv C 4 rfl dX6_told_37 ?_
                    refine r_iload_n C rfl dX6_told_38 ?_
                    refine r_imul C dX6_told_39 ?_
                    refine r_iload_n C rfl dX6_told_40 ?_
                    refine r_iadd C dX6_told_41 ?_
                    refine r_iald C (((4) * (i)) + (1)) (by have t := (tA (tM (show (4 : Int32).toInt = 4 from rfl) hv (by omega)) hk (by omega)); omega) (by omega) dX6_told_42 rfl (q_lt hs (by decide)) ?_
                    exact r_iret C dX6_told_43 rfl (Nat.le_refl _) rfl rfl))
        · first
          | (exfalso; omega)
          |  (refine r_ldc C _ lc_X6_106 dX6_told_25 ?_
              exact r_iret C dX6_told_27 rfl (Nat.le_refl _) rfl rfl))

set_option maxHeartbeats 4000000 in
set_option maxRecDepth 100000 in
theorem c_told2 (G : oG) {h : oH} {n : Nat} (hh : oHs h n) (v : Int32) {i : Nat} (hi : i < n) (hv : v.toInt = (i : Int)) (x : Int32) (hk : x.toInt = 2) : oSp G mX5_told [.ref 0, .int v, .int x] h (some (.int (hI h (hid i) 6))) h := by
  refine oSp.intro [some (.ref 0), some (.int v), some (.int x), none] rfl (Nat.le_of_ble_eq_true rfl) (plainFor_of_name (by decide +kernel)) (Nat.le_refl _) ?_
  intro p l e R s m args below meth c C
  refine r_aload_n C rfl rfl dX5_told_0 ?_
  refine r_iload_n C rfl dX5_told_1 ?_
  refine r_callV C (sp_houseAt G (by exact hh) _ hi hv) kv_X5_houseAt kn_X5_houseAt rfl dX5_told_2 cl_X5_77 ⟨Nat.le_of_ble_eq_true rfl, Nat.le_of_ble_eq_true rfl⟩ (by decide) rfl rfl (q_lt hh.1 (by decide)) (Nat.le_refl _) rfl (Nat.le_of_ble_eq_true rfl) ?_
  refine r_astore_n C rfl rfl (Nat.le_of_ble_eq_true rfl) dX5_told_5 ?_
  refine r_aload_n C rfl rfl dX5_told_6 ?_
  refine r_ifnonnull C 13 (by decide) dX5_told_7 ?_
  refine r_iload_n C rfl dX5_told_13 ?_
  refine r_tableIn C 82 (by rw [hk]; decide) (by rw [hk]; decide) (by rw [hk]; rfl) (by decide) dX5_told_14 ?_
  refine r_aload_n C rfl rfl dX5_told_82 ?_
  refine r_getI C dX5_told_83 fl_X5_94 (tg_hid i) (oHs.lt hh hi) ?_
  exact r_iret C dX5_told_86 rfl (Nat.le_refl _) rfl rfl

set_option maxHeartbeats 4000000 in
set_option maxRecDepth 100000 in
theorem m_told2 (G : oG) {h : oH} (hs : oSh h) {n : Nat} (hn : (hI h 12 1).toInt = (n : Int)) (hn24 : n ≤ 24) (v : Int32) {i : Nat} (hi : i < n) (hv : v.toInt = (i : Int)) (x : Int32) (hk : x.toInt = 2) : oSp G mX6_told [.ref 12, .int v, .int x] h (some (.int (hI h 16 (4 * i + 2)))) (sI h 12 0 0) := by
  refine oSp.intro [some (.ref 12), some (.int v), some (.int x)] rfl (Nat.le_of_ble_eq_true rfl) (plainFor_of_name (by decide +kernel)) (Nat.le_refl _) ?_
  intro p l e R s m args below meth c C
  refine r_aload_n C rfl rfl dX6_told_0 ?_
  refine r_iconstv C 0 rfl dX6_told_1 ?_
  refine r_putI C dX6_told_2 fl_X6_90 rfl (q_lt hs (by decide)) (Or.inl rfl) ?_
  refine r_aload_n C rfl rfl dX6_told_5 ?_
  refine r_iload_n C rfl dX6_told_6 ?_
  refine r_callV C (sp_isHouse G (by exact hs) (by exact hn) hn24 _) kv_X6_isHouse kn_X6_isHouse rfl dX6_told_7 cl_X6_108 ⟨Nat.le_of_ble_eq_true rfl, Nat.le_of_ble_eq_true rfl⟩ (by decide) rfl rfl (q_lt hs (by decide)) (Nat.le_refl _) rfl (Nat.le_of_ble_eq_true rfl) ?_
  refine t_ifb_eq C 25 (by decide) dX6_told_10 (fun c10 => ?_) (fun c10 => ?_)
  · first
    | (exfalso; omega)
    |  (refine r_ldc C _ lc_X6_106 dX6_told_25 ?_
        exact r_iret C dX6_told_27 rfl (Nat.le_refl _) rfl rfl)
  · first
    | (exfalso; omega)
    |  (refine r_iload_n C rfl dX6_told_13 ?_
        refine r_i2l C dX6_told_14 ?_
        refine r_lconst C 0 rfl dX6_told_15 ?_
        refine r_ldc2 C _ ll_X6_128 dX6_told_16 ?_
        refine r_callS C (sp_in G (tI2L hk) (show (0 : Int64).toInt = 0 from rfl) (show (10 : Int64).toInt = 10 from rfl)) ks_X6_in kn_X6_in rfl dX6_told_19 cl_X6_96 ⟨Nat.le_of_ble_eq_true rfl, Nat.le_of_ble_eq_true rfl⟩ (Nat.le_refl _) rfl (Nat.le_of_ble_eq_true rfl) ?_
        refine t_ifb_ne C 28 (by decide) dX6_told_22 (fun c22 => ?_) (fun c22 => ?_)
        · first
          | (exfalso; omega)
          |  (refine r_iload_n C rfl dX6_told_28 ?_
              refine r_iconstv C 4 rfl dX6_told_29 ?_
              refine t_icmp_ge C 44 (by decide) hk (show (4 : Int32).toInt = 4 from rfl) dX6_told_30 (fun c30 => ?_) (fun c30 => ?_)
              · first
                | (exfalso; omega)
                |  (refine r_iload_n C rfl dX6_told_44 ?_
                    refine r_iconstv C 4 rfl dX6_told_45 ?_
                    refine t_icmp_ne C 58 (by decide) hk (show (4 : Int32).toInt = 4 from rfl) dX6_told_46 (fun c46 => ?_) (fun c46 => ?_)
                    · first
                      | (exfalso; omega)
                      |  (refine r_iload_n C rfl dX6_told_58 ?_
                          refine r_iconstv C 5 rfl dX6_told_59 ?_
                          refine t_icmp_ne C 72 (by decide) hk (show (5 : Int32).toInt = 5 from rfl) dX6_told_60 (fun c60 => ?_) (fun c60 => ?_)
                          · first
                            | (exfalso; omega)
                            |  (refine r_iload_n C rfl dX6_told_72 ?_
                                refine r_bipush C 6 rfl dX6_told_73 ?_
                                refine t_icmp_ne C 94 (by decide) hk (show (6 : Int32).toInt = 6 from rfl) dX6_told_75 (fun c75 => ?_) (fun c75 => ?_)
                                · first
                                  | (exfalso; omega)
                                  |  (refine r_iload_n C rfl dX6_told_94 ?_
                                      refine r_bipush C 7 rfl dX6_told_95 ?_
                                      refine t_icmp_ne C 109 (by decide) hk (show (7 : Int32).toInt = 7 from rfl) dX6_told_97 (fun c97 => ?_) (fun c97 => ?_)
                                      · first
                                        | (exfalso; omega)
                                        |  (refine r_iload_n C rfl dX6_told_109 ?_
                                            refine r_bipush C 8 rfl dX6_told_110 ?_
                                            refine t_icmp_ne C 124 (by decide) hk (show (8 : Int32).toInt = 8 from rfl) dX6_told_112 (fun c112 => ?_) (fun c112 => ?_)
                                            · first
                                              | (exfalso; omega)
                                              |  (refine r_iload_n C rfl dX6_told_124 ?_
                                                  refine r_bipush C 9 rfl dX6_told_125 ?_
                                                  refine t_icmp_ne C 139 (by decide) hk (show (9 : Int32).toInt = 9 from rfl) dX6_told_127 (fun c127 => ?_) (fun c127 => ?_)
                                                  · first
                                                    | (exfalso; omega)
                                                    |  (refine r_aload_n C rfl rfl dX6_told_139 ?_
                                                        refine r_getO C dX6_told_140 fl_X6_41 rfl rfl (q_lt hs (by decide)) (sh_12_12 hs) ?_
                                                        refine r_iload_n C rfl dX6_told_143 ?_
                                                        refine r_iald C (i) (by have t := hv; omega) (by omega) dX6_told_144 rfl (q_lt hs (by decide)) ?_
                                                        exact r_iret C dX6_told_145 rfl (Nat.le_refl _) rfl rfl)
                                                  · first
                                                    | (exfalso; omega)
                                                    |  (refine r_aload_n C rfl rfl dX6_told_130 ?_
                                                        refine r_getO C dX6_told_131 fl_X6_38 rfl rfl (q_lt hs (by decide)) (sh_12_11 hs) ?_
                                                        refine r_iload_n C rfl dX6_told_134 ?_
                                                        refine r_iald C (i) (by have t := hv; omega) (by omega) dX6_told_135 rfl (q_lt hs (by decide)) ?_
                                                        refine r_goto C 145 (by decide) dX6_told_136 ?_
                                                        exact r_iret C dX6_told_145 rfl (Nat.le_refl _) rfl rfl))
                                            · first
                                              | (exfalso; omega)
                                              |  (refine r_aload_n C rfl rfl dX6_told_115 ?_
                                                  refine r_getO C dX6_told_116 fl_X6_31 rfl rfl (q_lt hs (by decide)) (sh_12_9 hs) ?_
                                                  refine r_iload_n C rfl dX6_told_119 ?_
                                                  refine r_iald C (i) (by have t := hv; omega) (by omega) dX6_told_120 rfl (q_lt hs (by decide)) ?_
                                                  refine r_goto C 145 (by decide) dX6_told_121 ?_
                                                  exact r_iret C dX6_told_145 rfl (Nat.le_refl _) rfl rfl))
                                      · first
                                        | (exfalso; omega)
                                        |  (refine r_aload_n C rfl rfl dX6_told_100 ?_
                                            refine r_getO C dX6_told_101 fl_X6_28 rfl rfl (q_lt hs (by decide)) (sh_12_8 hs) ?_
                                            refine r_iload_n C rfl dX6_told_104 ?_
                                            refine r_iald C (i) (by have t := hv; omega) (by omega) dX6_told_105 rfl (q_lt hs (by decide)) ?_
                                            refine r_goto C 145 (by decide) dX6_told_106 ?_
                                            exact r_iret C dX6_told_145 rfl (Nat.le_refl _) rfl rfl))
                                · first
                                  | (exfalso; omega)
                                  |  (refine r_aload_n C rfl rfl dX6_told_78 ?_
                                      refine r_iload_n C rfl dX6_told_79 ?_
                                      refine r_callV C (sp_isDueM G (by exact hs) _ hv (by omega)) kv_X6_isDue kn_X6_isDue rfl dX6_told_80 cl_X6_125 ⟨Nat.le_of_ble_eq_true rfl, Nat.le_of_ble_eq_true rfl⟩ (by decide) rfl rfl (q_lt hs (by decide)) (Nat.le_refl _) rfl (Nat.le_of_ble_eq_true rfl) ?_
                                      refine t_ifb_eq C 90 (by decide) dX6_told_83 (fun c83 => ?_) (fun c83 => ?_)
                                      · first
                                        | (exfalso; omega)
                                        |  (refine r_iconstv C 0 rfl dX6_told_90 ?_
                                            refine r_goto C 145 (by decide) dX6_told_91 ?_
                                            exact r_iret C dX6_told_145 rfl (Nat.le_refl _) rfl rfl)
                                      · first
                                        | (exfalso; omega)
                                        |  (refine r_iconstv C 1 rfl dX6_told_86 ?_
                                            refine r_goto C 145 (by decide) dX6_told_87 ?_
                                            exact r_iret C dX6_told_145 rfl (Nat.le_refl _) rfl rfl)))
                          · first
                            | (exfalso; omega)
                            |  (refine r_aload_n C rfl rfl dX6_told_63 ?_
                                refine r_getO C dX6_told_64 fl_X6_25 rfl rfl (q_lt hs (by decide)) (sh_12_7 hs) ?_
                                refine r_iload_n C rfl dX6_told_67 ?_
                                refine r_iald C (i) (by have t := hv; omega) (by omega) dX6_told_68 rfl (q_lt hs (by decide)) ?_
                                refine r_goto C 145 (by decide) dX6_told_69 ?_
                                exact r_iret C dX6_told_145 rfl (Nat.le_refl _) rfl rfl))
                    · first
                      | (exfalso; omega)
                      |  (refine r_aload_n C rfl rfl dX6_told_49 ?_
                          refine r_getO C dX6_told_50 fl_X6_22 rfl rfl (q_lt hs (by decide)) (sh_12_6 hs) ?_
                          refine r_iload_n C rfl dX6_told_53 ?_
                          refine r_iald C (i) (by have t := hv; omega) (by omega) dX6_told_54 rfl (q_lt hs (by decide)) ?_
                          refine r_goto C 145 (by decide) dX6_told_55 ?_
                          exact r_iret C dX6_told_145 rfl (Nat.le_refl _) rfl rfl))
              · first
                | (exfalso; omega)
                |  (refine r_aload_n C rfl rfl dX6_told_33 ?_
                    refine r_getO C dX6_told_34 fl_X6_19 rfl rfl (q_lt hs (by decide)) (sh_12_5 hs) ?_
                    refine r_iconstv C 4 rfl dX6_told_37 ?_
                    refine r_iload_n C rfl dX6_told_38 ?_
                    refine r_imul C dX6_told_39 ?_
                    refine r_iload_n C rfl dX6_told_40 ?_
                    refine r_iadd C dX6_told_41 ?_
                    refine r_iald C (((4) * (i)) + (2)) (by have t := (tA (tM (show (4 : Int32).toInt = 4 from rfl) hv (by omega)) hk (by omega)); omega) (by omega) dX6_told_42 rfl (q_lt hs (by decide)) ?_
                    exact r_iret C dX6_told_43 rfl (Nat.le_refl _) rfl rfl))
        · first
          | (exfalso; omega)
          |  (refine r_ldc C _ lc_X6_106 dX6_told_25 ?_
              exact r_iret C dX6_told_27 rfl (Nat.le_refl _) rfl rfl))

set_option maxHeartbeats 4000000 in
set_option maxRecDepth 100000 in
theorem c_told3 (G : oG) {h : oH} {n : Nat} (hh : oHs h n) (v : Int32) {i : Nat} (hi : i < n) (hv : v.toInt = (i : Int)) (x : Int32) (hk : x.toInt = 3) : oSp G mX5_told [.ref 0, .int v, .int x] h (some (.int (hI h (hid i) 7))) h := by
  refine oSp.intro [some (.ref 0), some (.int v), some (.int x), none] rfl (Nat.le_of_ble_eq_true rfl) (plainFor_of_name (by decide +kernel)) (Nat.le_refl _) ?_
  intro p l e R s m args below meth c C
  refine r_aload_n C rfl rfl dX5_told_0 ?_
  refine r_iload_n C rfl dX5_told_1 ?_
  refine r_callV C (sp_houseAt G (by exact hh) _ hi hv) kv_X5_houseAt kn_X5_houseAt rfl dX5_told_2 cl_X5_77 ⟨Nat.le_of_ble_eq_true rfl, Nat.le_of_ble_eq_true rfl⟩ (by decide) rfl rfl (q_lt hh.1 (by decide)) (Nat.le_refl _) rfl (Nat.le_of_ble_eq_true rfl) ?_
  refine r_astore_n C rfl rfl (Nat.le_of_ble_eq_true rfl) dX5_told_5 ?_
  refine r_aload_n C rfl rfl dX5_told_6 ?_
  refine r_ifnonnull C 13 (by decide) dX5_told_7 ?_
  refine r_iload_n C rfl dX5_told_13 ?_
  refine r_tableIn C 87 (by rw [hk]; decide) (by rw [hk]; decide) (by rw [hk]; rfl) (by decide) dX5_told_14 ?_
  refine r_aload_n C rfl rfl dX5_told_87 ?_
  refine r_getI C dX5_told_88 fl_X5_97 (tg_hid i) (oHs.lt hh hi) ?_
  exact r_iret C dX5_told_91 rfl (Nat.le_refl _) rfl rfl

set_option maxHeartbeats 4000000 in
set_option maxRecDepth 100000 in
theorem m_told3 (G : oG) {h : oH} (hs : oSh h) {n : Nat} (hn : (hI h 12 1).toInt = (n : Int)) (hn24 : n ≤ 24) (v : Int32) {i : Nat} (hi : i < n) (hv : v.toInt = (i : Int)) (x : Int32) (hk : x.toInt = 3) : oSp G mX6_told [.ref 12, .int v, .int x] h (some (.int (hI h 16 (4 * i + 3)))) (sI h 12 0 0) := by
  refine oSp.intro [some (.ref 12), some (.int v), some (.int x)] rfl (Nat.le_of_ble_eq_true rfl) (plainFor_of_name (by decide +kernel)) (Nat.le_refl _) ?_
  intro p l e R s m args below meth c C
  refine r_aload_n C rfl rfl dX6_told_0 ?_
  refine r_iconstv C 0 rfl dX6_told_1 ?_
  refine r_putI C dX6_told_2 fl_X6_90 rfl (q_lt hs (by decide)) (Or.inl rfl) ?_
  refine r_aload_n C rfl rfl dX6_told_5 ?_
  refine r_iload_n C rfl dX6_told_6 ?_
  refine r_callV C (sp_isHouse G (by exact hs) (by exact hn) hn24 _) kv_X6_isHouse kn_X6_isHouse rfl dX6_told_7 cl_X6_108 ⟨Nat.le_of_ble_eq_true rfl, Nat.le_of_ble_eq_true rfl⟩ (by decide) rfl rfl (q_lt hs (by decide)) (Nat.le_refl _) rfl (Nat.le_of_ble_eq_true rfl) ?_
  refine t_ifb_eq C 25 (by decide) dX6_told_10 (fun c10 => ?_) (fun c10 => ?_)
  · first
    | (exfalso; omega)
    |  (refine r_ldc C _ lc_X6_106 dX6_told_25 ?_
        exact r_iret C dX6_told_27 rfl (Nat.le_refl _) rfl rfl)
  · first
    | (exfalso; omega)
    |  (refine r_iload_n C rfl dX6_told_13 ?_
        refine r_i2l C dX6_told_14 ?_
        refine r_lconst C 0 rfl dX6_told_15 ?_
        refine r_ldc2 C _ ll_X6_128 dX6_told_16 ?_
        refine r_callS C (sp_in G (tI2L hk) (show (0 : Int64).toInt = 0 from rfl) (show (10 : Int64).toInt = 10 from rfl)) ks_X6_in kn_X6_in rfl dX6_told_19 cl_X6_96 ⟨Nat.le_of_ble_eq_true rfl, Nat.le_of_ble_eq_true rfl⟩ (Nat.le_refl _) rfl (Nat.le_of_ble_eq_true rfl) ?_
        refine t_ifb_ne C 28 (by decide) dX6_told_22 (fun c22 => ?_) (fun c22 => ?_)
        · first
          | (exfalso; omega)
          |  (refine r_iload_n C rfl dX6_told_28 ?_
              refine r_iconstv C 4 rfl dX6_told_29 ?_
              refine t_icmp_ge C 44 (by decide) hk (show (4 : Int32).toInt = 4 from rfl) dX6_told_30 (fun c30 => ?_) (fun c30 => ?_)
              · first
                | (exfalso; omega)
                |  (refine r_iload_n C rfl dX6_told_44 ?_
                    refine r_iconstv C 4 rfl dX6_told_45 ?_
                    refine t_icmp_ne C 58 (by decide) hk (show (4 : Int32).toInt = 4 from rfl) dX6_told_46 (fun c46 => ?_) (fun c46 => ?_)
                    · first
                      | (exfalso; omega)
                      |  (refine r_iload_n C rfl dX6_told_58 ?_
                          refine r_iconstv C 5 rfl dX6_told_59 ?_
                          refine t_icmp_ne C 72 (by decide) hk (show (5 : Int32).toInt = 5 from rfl) dX6_told_60 (fun c60 => ?_) (fun c60 => ?_)
                          · first
                            | (exfalso; omega)
                            |  (refine r_iload_n C rfl dX6_told_72 ?_
                                refine r_bipush C 6 rfl dX6_told_73 ?_
                                refine t_icmp_ne C 94 (by decide) hk (show (6 : Int32).toInt = 6 from rfl) dX6_told_75 (fun c75 => ?_) (fun c75 => ?_)
                                · first
                                  | (exfalso; omega)
                                  |  (refine r_iload_n C rfl dX6_told_94 ?_
                                      refine r_bipush C 7 rfl dX6_told_95 ?_
                                      refine t_icmp_ne C 109 (by decide) hk (show (7 : Int32).toInt = 7 from rfl) dX6_told_97 (fun c97 => ?_) (fun c97 => ?_)
                                      · first
                                        | (exfalso; omega)
                                        |  (refine r_iload_n C rfl dX6_told_109 ?_
                                            refine r_bipush C 8 rfl dX6_told_110 ?_
                                            refine t_icmp_ne C 124 (by decide) hk (show (8 : Int32).toInt = 8 from rfl) dX6_told_112 (fun c112 => ?_) (fun c112 => ?_)
                                            · first
                                              | (exfalso; omega)
                                              |  (refine r_iload_n C rfl dX6_told_124 ?_
                                                  refine r_bipush C 9 rfl dX6_told_125 ?_
                                                  refine t_icmp_ne C 139 (by decide) hk (show (9 : Int32).toInt = 9 from rfl) dX6_told_127 (fun c127 => ?_) (fun c127 => ?_)
                                                  · first
                                                    | (exfalso; omega)
                                                    |  (refine r_aload_n C rfl rfl dX6_told_139 ?_
                                                        refine r_getO C dX6_told_140 fl_X6_41 rfl rfl (q_lt hs (by decide)) (sh_12_12 hs) ?_
                                                        refine r_iload_n C rfl dX6_told_143 ?_
                                                        refine r_iald C (i) (by have t := hv; omega) (by omega) dX6_told_144 rfl (q_lt hs (by decide)) ?_
                                                        exact r_iret C dX6_told_145 rfl (Nat.le_refl _) rfl rfl)
                                                  · first
                                                    | (exfalso; omega)
                                                    |  (refine r_aload_n C rfl rfl dX6_told_130 ?_
                                                        refine r_getO C dX6_told_131 fl_X6_38 rfl rfl (q_lt hs (by decide)) (sh_12_11 hs) ?_
                                                        refine r_iload_n C rfl dX6_told_134 ?_
                                                        refine r_iald C (i) (by have t := hv; omega) (by omega) dX6_told_135 rfl (q_lt hs (by decide)) ?_
                                                        refine r_goto C 145 (by decide) dX6_told_136 ?_
                                                        exact r_iret C dX6_told_145 rfl (Nat.le_refl _) rfl rfl))
                                            · first
                                              | (exfalso; omega)
                                              |  (refine r_aload_n C rfl rfl dX6_told_115 ?_
                                                  refine r_getO C dX6_told_116 fl_X6_31 rfl rfl (q_lt hs (by decide)) (sh_12_9 hs) ?_
                                                  refine r_iload_n C rfl dX6_told_119 ?_
                                                  refine r_iald C (i) (by have t := hv; omega) (by omega) dX6_told_120 rfl (q_lt hs (by decide)) ?_
                                                  refine r_goto C 145 (by decide) dX6_told_121 ?_
                                                  exact r_iret C dX6_told_145 rfl (Nat.le_refl _) rfl rfl))
                                      · first
                                        | (exfalso; omega)
                                        |  (refine r_aload_n C rfl rfl dX6_told_100 ?_
                                            refine r_getO C dX6_told_101 fl_X6_28 rfl rfl (q_lt hs (by decide)) (sh_12_8 hs) ?_
                                            refine r_iload_n C rfl dX6_told_104 ?_
                                            refine r_iald C (i) (by have t := hv; omega) (by omega) dX6_told_105 rfl (q_lt hs (by decide)) ?_
                                            refine r_goto C 145 (by decide) dX6_told_106 ?_
                                            exact r_iret C dX6_told_145 rfl (Nat.le_refl _) rfl rfl))
                                · first
                                  | (exfalso; omega)
                                  |  (refine r_aload_n C rfl rfl dX6_told_78 ?_
                                      refine r_iload_n C rfl dX6_told_79 ?_
                                      refine r_callV C (sp_isDueM G (by exact hs) _ hv (by omega)) kv_X6_isDue kn_X6_isDue rfl dX6_told_80 cl_X6_125 ⟨Nat.le_of_ble_eq_true rfl, Nat.le_of_ble_eq_true rfl⟩ (by decide) rfl rfl (q_lt hs (by decide)) (Nat.le_refl _) rfl (Nat.le_of_ble_eq_true rfl) ?_
                                      refine t_ifb_eq C 90 (by decide) dX6_told_83 (fun c83 => ?_) (fun c83 => ?_)
                                      · first
                                        | (exfalso; omega)
                                        |  (refine r_iconstv C 0 rfl dX6_told_90 ?_
                                            refine r_goto C 145 (by decide) dX6_told_91 ?_
                                            exact r_iret C dX6_told_145 rfl (Nat.le_refl _) rfl rfl)
                                      · first
                                        | (exfalso; omega)
                                        |  (refine r_iconstv C 1 rfl dX6_told_86 ?_
                                            refine r_goto C 145 (by decide) dX6_told_87 ?_
                                            exact r_iret C dX6_told_145 rfl (Nat.le_refl _) rfl rfl)))
                          · first
                            | (exfalso; omega)
                            |  (refine r_aload_n C rfl rfl dX6_told_63 ?_
                                refine r_getO C dX6_told_64 fl_X6_25 rfl rfl (q_lt hs (by decide)) (sh_12_7 hs) ?_
                                refine r_iload_n C rfl dX6_told_67 ?_
                                refine r_iald C (i) (by have t := hv; omega) (by omega) dX6_told_68 rfl (q_lt hs (by decide)) ?_
                                refine r_goto C 145 (by decide) dX6_told_69 ?_
                                exact r_iret C dX6_told_145 rfl (Nat.le_refl _) rfl rfl))
                    · first
                      | (exfalso; omega)
                      |  (refine r_aload_n C rfl rfl dX6_told_49 ?_
                          refine r_getO C dX6_told_50 fl_X6_22 rfl rfl (q_lt hs (by decide)) (sh_12_6 hs) ?_
                          refine r_iload_n C rfl dX6_told_53 ?_
                          refine r_iald C (i) (by have t := hv; omega) (by omega) dX6_told_54 rfl (q_lt hs (by decide)) ?_
                          refine r_goto C 145 (by decide) dX6_told_55 ?_
                          exact r_iret C dX6_told_145 rfl (Nat.le_refl _) rfl rfl))
              · first
                | (exfalso; omega)
                |  (refine r_aload_n C rfl rfl dX6_told_33 ?_
                    refine r_getO C dX6_told_34 fl_X6_19 rfl rfl (q_lt hs (by decide)) (sh_12_5 hs) ?_
                    refine r_iconstv C 4 rfl dX6_told_37 ?_
                    refine r_iload_n C rfl dX6_told_38 ?_
                    refine r_imul C dX6_told_39 ?_
                    refine r_iload_n C rfl dX6_told_40 ?_
                    refine r_iadd C dX6_told_41 ?_
                    refine r_iald C (((4) * (i)) + (3)) (by have t := (tA (tM (show (4 : Int32).toInt = 4 from rfl) hv (by omega)) hk (by omega)); omega) (by omega) dX6_told_42 rfl (q_lt hs (by decide)) ?_
                    exact r_iret C dX6_told_43 rfl (Nat.le_refl _) rfl rfl))
        · first
          | (exfalso; omega)
          |  (refine r_ldc C _ lc_X6_106 dX6_told_25 ?_
              exact r_iret C dX6_told_27 rfl (Nat.le_refl _) rfl rfl))

set_option maxHeartbeats 4000000 in
set_option maxRecDepth 100000 in
theorem c_told4 (G : oG) {h : oH} {n : Nat} (hh : oHs h n) (v : Int32) {i : Nat} (hi : i < n) (hv : v.toInt = (i : Int)) (x : Int32) (hk : x.toInt = 4) : oSp G mX5_told [.ref 0, .int v, .int x] h (some (.int (hI h (hid i) 8))) h := by
  refine oSp.intro [some (.ref 0), some (.int v), some (.int x), none] rfl (Nat.le_of_ble_eq_true rfl) (plainFor_of_name (by decide +kernel)) (Nat.le_refl _) ?_
  intro p l e R s m args below meth c C
  refine r_aload_n C rfl rfl dX5_told_0 ?_
  refine r_iload_n C rfl dX5_told_1 ?_
  refine r_callV C (sp_houseAt G (by exact hh) _ hi hv) kv_X5_houseAt kn_X5_houseAt rfl dX5_told_2 cl_X5_77 ⟨Nat.le_of_ble_eq_true rfl, Nat.le_of_ble_eq_true rfl⟩ (by decide) rfl rfl (q_lt hh.1 (by decide)) (Nat.le_refl _) rfl (Nat.le_of_ble_eq_true rfl) ?_
  refine r_astore_n C rfl rfl (Nat.le_of_ble_eq_true rfl) dX5_told_5 ?_
  refine r_aload_n C rfl rfl dX5_told_6 ?_
  refine r_ifnonnull C 13 (by decide) dX5_told_7 ?_
  refine r_iload_n C rfl dX5_told_13 ?_
  refine r_tableIn C 92 (by rw [hk]; decide) (by rw [hk]; decide) (by rw [hk]; rfl) (by decide) dX5_told_14 ?_
  refine r_aload_n C rfl rfl dX5_told_92 ?_
  refine r_getI C dX5_told_93 fl_X5_112 (tg_hid i) (oHs.lt hh hi) ?_
  exact r_iret C dX5_told_96 rfl (Nat.le_refl _) rfl rfl

set_option maxHeartbeats 4000000 in
set_option maxRecDepth 100000 in
theorem m_told4 (G : oG) {h : oH} (hs : oSh h) {n : Nat} (hn : (hI h 12 1).toInt = (n : Int)) (hn24 : n ≤ 24) (v : Int32) {i : Nat} (hi : i < n) (hv : v.toInt = (i : Int)) (x : Int32) (hk : x.toInt = 4) : oSp G mX6_told [.ref 12, .int v, .int x] h (some (.int (hI h 17 i))) (sI h 12 0 0) := by
  refine oSp.intro [some (.ref 12), some (.int v), some (.int x)] rfl (Nat.le_of_ble_eq_true rfl) (plainFor_of_name (by decide +kernel)) (Nat.le_refl _) ?_
  intro p l e R s m args below meth c C
  refine r_aload_n C rfl rfl dX6_told_0 ?_
  refine r_iconstv C 0 rfl dX6_told_1 ?_
  refine r_putI C dX6_told_2 fl_X6_90 rfl (q_lt hs (by decide)) (Or.inl rfl) ?_
  refine r_aload_n C rfl rfl dX6_told_5 ?_
  refine r_iload_n C rfl dX6_told_6 ?_
  refine r_callV C (sp_isHouse G (by exact hs) (by exact hn) hn24 _) kv_X6_isHouse kn_X6_isHouse rfl dX6_told_7 cl_X6_108 ⟨Nat.le_of_ble_eq_true rfl, Nat.le_of_ble_eq_true rfl⟩ (by decide) rfl rfl (q_lt hs (by decide)) (Nat.le_refl _) rfl (Nat.le_of_ble_eq_true rfl) ?_
  refine t_ifb_eq C 25 (by decide) dX6_told_10 (fun c10 => ?_) (fun c10 => ?_)
  · first
    | (exfalso; omega)
    |  (refine r_ldc C _ lc_X6_106 dX6_told_25 ?_
        exact r_iret C dX6_told_27 rfl (Nat.le_refl _) rfl rfl)
  · first
    | (exfalso; omega)
    |  (refine r_iload_n C rfl dX6_told_13 ?_
        refine r_i2l C dX6_told_14 ?_
        refine r_lconst C 0 rfl dX6_told_15 ?_
        refine r_ldc2 C _ ll_X6_128 dX6_told_16 ?_
        refine r_callS C (sp_in G (tI2L hk) (show (0 : Int64).toInt = 0 from rfl) (show (10 : Int64).toInt = 10 from rfl)) ks_X6_in kn_X6_in rfl dX6_told_19 cl_X6_96 ⟨Nat.le_of_ble_eq_true rfl, Nat.le_of_ble_eq_true rfl⟩ (Nat.le_refl _) rfl (Nat.le_of_ble_eq_true rfl) ?_
        refine t_ifb_ne C 28 (by decide) dX6_told_22 (fun c22 => ?_) (fun c22 => ?_)
        · first
          | (exfalso; omega)
          |  (refine r_iload_n C rfl dX6_told_28 ?_
              refine r_iconstv C 4 rfl dX6_told_29 ?_
              refine t_icmp_ge C 44 (by decide) hk (show (4 : Int32).toInt = 4 from rfl) dX6_told_30 (fun c30 => ?_) (fun c30 => ?_)
              · first
                | (exfalso; omega)
                |  (refine r_iload_n C rfl dX6_told_44 ?_
                    refine r_iconstv C 4 rfl dX6_told_45 ?_
                    refine t_icmp_ne C 58 (by decide) hk (show (4 : Int32).toInt = 4 from rfl) dX6_told_46 (fun c46 => ?_) (fun c46 => ?_)
                    · first
                      | (exfalso; omega)
                      |  (refine r_iload_n C rfl dX6_told_58 ?_
                          refine r_iconstv C 5 rfl dX6_told_59 ?_
                          refine t_icmp_ne C 72 (by decide) hk (show (5 : Int32).toInt = 5 from rfl) dX6_told_60 (fun c60 => ?_) (fun c60 => ?_)
                          · first
                            | (exfalso; omega)
                            |  (refine r_iload_n C rfl dX6_told_72 ?_
                                refine r_bipush C 6 rfl dX6_told_73 ?_
                                refine t_icmp_ne C 94 (by decide) hk (show (6 : Int32).toInt = 6 from rfl) dX6_told_75 (fun c75 => ?_) (fun c75 => ?_)
                                · first
                                  | (exfalso; omega)
                                  |  (refine r_iload_n C rfl dX6_told_94 ?_
                                      refine r_bipush C 7 rfl dX6_told_95 ?_
                                      refine t_icmp_ne C 109 (by decide) hk (show (7 : Int32).toInt = 7 from rfl) dX6_told_97 (fun c97 => ?_) (fun c97 => ?_)
                                      · first
                                        | (exfalso; omega)
                                        |  (refine r_iload_n C rfl dX6_told_109 ?_
                                            refine r_bipush C 8 rfl dX6_told_110 ?_
                                            refine t_icmp_ne C 124 (by decide) hk (show (8 : Int32).toInt = 8 from rfl) dX6_told_112 (fun c112 => ?_) (fun c112 => ?_)
                                            · first
                                              | (exfalso; omega)
                                              |  (refine r_iload_n C rfl dX6_told_124 ?_
                                                  refine r_bipush C 9 rfl dX6_told_125 ?_
                                                  refine t_icmp_ne C 139 (by decide) hk (show (9 : Int32).toInt = 9 from rfl) dX6_told_127 (fun c127 => ?_) (fun c127 => ?_)
                                                  · first
                                                    | (exfalso; omega)
                                                    |  (refine r_aload_n C rfl rfl dX6_told_139 ?_
                                                        refine r_getO C dX6_told_140 fl_X6_41 rfl rfl (q_lt hs (by decide)) (sh_12_12 hs) ?_
                                                        refine r_iload_n C rfl dX6_told_143 ?_
                                                        refine r_iald C (i) (by have t := hv; omega) (by omega) dX6_told_144 rfl (q_lt hs (by decide)) ?_
                                                        exact r_iret C dX6_told_145 rfl (Nat.le_refl _) rfl rfl)
                                                  · first
                                                    | (exfalso; omega)
                                                    |  (refine r_aload_n C rfl rfl dX6_told_130 ?_
                                                        refine r_getO C dX6_told_131 fl_X6_38 rfl rfl (q_lt hs (by decide)) (sh_12_11 hs) ?_
                                                        refine r_iload_n C rfl dX6_told_134 ?_
                                                        refine r_iald C (i) (by have t := hv; omega) (by omega) dX6_told_135 rfl (q_lt hs (by decide)) ?_
                                                        refine r_goto C 145 (by decide) dX6_told_136 ?_
                                                        exact r_iret C dX6_told_145 rfl (Nat.le_refl _) rfl rfl))
                                            · first
                                              | (exfalso; omega)
                                              |  (refine r_aload_n C rfl rfl dX6_told_115 ?_
                                                  refine r_getO C dX6_told_116 fl_X6_31 rfl rfl (q_lt hs (by decide)) (sh_12_9 hs) ?_
                                                  refine r_iload_n C rfl dX6_told_119 ?_
                                                  refine r_iald C (i) (by have t := hv; omega) (by omega) dX6_told_120 rfl (q_lt hs (by decide)) ?_
                                                  refine r_goto C 145 (by decide) dX6_told_121 ?_
                                                  exact r_iret C dX6_told_145 rfl (Nat.le_refl _) rfl rfl))
                                      · first
                                        | (exfalso; omega)
                                        |  (refine r_aload_n C rfl rfl dX6_told_100 ?_
                                            refine r_getO C dX6_told_101 fl_X6_28 rfl rfl (q_lt hs (by decide)) (sh_12_8 hs) ?_
                                            refine r_iload_n C rfl dX6_told_104 ?_
                                            refine r_iald C (i) (by have t := hv; omega) (by omega) dX6_told_105 rfl (q_lt hs (by decide)) ?_
                                            refine r_goto C 145 (by decide) dX6_told_106 ?_
                                            exact r_iret C dX6_told_145 rfl (Nat.le_refl _) rfl rfl))
                                · first
                                  | (exfalso; omega)
                                  |  (refine r_aload_n C rfl rfl dX6_told_78 ?_
                                      refine r_iload_n C rfl dX6_told_79 ?_
                                      refine r_callV C (sp_isDueM G (by exact hs) _ hv (by omega)) kv_X6_isDue kn_X6_isDue rfl dX6_told_80 cl_X6_125 ⟨Nat.le_of_ble_eq_true rfl, Nat.le_of_ble_eq_true rfl⟩ (by decide) rfl rfl (q_lt hs (by decide)) (Nat.le_refl _) rfl (Nat.le_of_ble_eq_true rfl) ?_
                                      refine t_ifb_eq C 90 (by decide) dX6_told_83 (fun c83 => ?_) (fun c83 => ?_)
                                      · first
                                        | (exfalso; omega)
                                        |  (refine r_iconstv C 0 rfl dX6_told_90 ?_
                                            refine r_goto C 145 (by decide) dX6_told_91 ?_
                                            exact r_iret C dX6_told_145 rfl (Nat.le_refl _) rfl rfl)
                                      · first
                                        | (exfalso; omega)
                                        |  (refine r_iconstv C 1 rfl dX6_told_86 ?_
                                            refine r_goto C 145 (by decide) dX6_told_87 ?_
                                            exact r_iret C dX6_told_145 rfl (Nat.le_refl _) rfl rfl)))
                          · first
                            | (exfalso; omega)
                            |  (refine r_aload_n C rfl rfl dX6_told_63 ?_
                                refine r_getO C dX6_told_64 fl_X6_25 rfl rfl (q_lt hs (by decide)) (sh_12_7 hs) ?_
                                refine r_iload_n C rfl dX6_told_67 ?_
                                refine r_iald C (i) (by have t := hv; omega) (by omega) dX6_told_68 rfl (q_lt hs (by decide)) ?_
                                refine r_goto C 145 (by decide) dX6_told_69 ?_
                                exact r_iret C dX6_told_145 rfl (Nat.le_refl _) rfl rfl))
                    · first
                      | (exfalso; omega)
                      |  (refine r_aload_n C rfl rfl dX6_told_49 ?_
                          refine r_getO C dX6_told_50 fl_X6_22 rfl rfl (q_lt hs (by decide)) (sh_12_6 hs) ?_
                          refine r_iload_n C rfl dX6_told_53 ?_
                          refine r_iald C (i) (by have t := hv; omega) (by omega) dX6_told_54 rfl (q_lt hs (by decide)) ?_
                          refine r_goto C 145 (by decide) dX6_told_55 ?_
                          exact r_iret C dX6_told_145 rfl (Nat.le_refl _) rfl rfl))
              · first
                | (exfalso; omega)
                |  (refine r_aload_n C rfl rfl dX6_told_33 ?_
                    refine r_getO C dX6_told_34 fl_X6_19 rfl rfl (q_lt hs (by decide)) (sh_12_5 hs) ?_
                    refine r_iconstv C 4 rfl dX6_told_37 ?_
                    refine r_iload_n C rfl dX6_told_38 ?_
                    refine r_imul C dX6_told_39 ?_
                    refine r_iload_n C rfl dX6_told_40 ?_
                    refine r_iadd C dX6_told_41 ?_
                    refine r_iald C (((4) * (i)) + (4)) (by have t := (tA (tM (show (4 : Int32).toInt = 4 from rfl) hv (by omega)) hk (by omega)); omega) (by omega) dX6_told_42 rfl (q_lt hs (by decide)) ?_
                    exact r_iret C dX6_told_43 rfl (Nat.le_refl _) rfl rfl))
        · first
          | (exfalso; omega)
          |  (refine r_ldc C _ lc_X6_106 dX6_told_25 ?_
              exact r_iret C dX6_told_27 rfl (Nat.le_refl _) rfl rfl))

set_option maxHeartbeats 4000000 in
set_option maxRecDepth 100000 in
theorem c_told5 (G : oG) {h : oH} {n : Nat} (hh : oHs h n) (v : Int32) {i : Nat} (hi : i < n) (hv : v.toInt = (i : Int)) (x : Int32) (hk : x.toInt = 5) : oSp G mX5_told [.ref 0, .int v, .int x] h (some (.int (hI h (hid i) 9))) h := by
  refine oSp.intro [some (.ref 0), some (.int v), some (.int x), none] rfl (Nat.le_of_ble_eq_true rfl) (plainFor_of_name (by decide +kernel)) (Nat.le_refl _) ?_
  intro p l e R s m args below meth c C
  refine r_aload_n C rfl rfl dX5_told_0 ?_
  refine r_iload_n C rfl dX5_told_1 ?_
  refine r_callV C (sp_houseAt G (by exact hh) _ hi hv) kv_X5_houseAt kn_X5_houseAt rfl dX5_told_2 cl_X5_77 ⟨Nat.le_of_ble_eq_true rfl, Nat.le_of_ble_eq_true rfl⟩ (by decide) rfl rfl (q_lt hh.1 (by decide)) (Nat.le_refl _) rfl (Nat.le_of_ble_eq_true rfl) ?_
  refine r_astore_n C rfl rfl (Nat.le_of_ble_eq_true rfl) dX5_told_5 ?_
  refine r_aload_n C rfl rfl dX5_told_6 ?_
  refine r_ifnonnull C 13 (by decide) dX5_told_7 ?_
  refine r_iload_n C rfl dX5_told_13 ?_
  refine r_tableIn C 97 (by rw [hk]; decide) (by rw [hk]; decide) (by rw [hk]; rfl) (by decide) dX5_told_14 ?_
  refine r_aload_n C rfl rfl dX5_told_97 ?_
  refine r_getI C dX5_told_98 fl_X5_115 (tg_hid i) (oHs.lt hh hi) ?_
  exact r_iret C dX5_told_101 rfl (Nat.le_refl _) rfl rfl

set_option maxHeartbeats 4000000 in
set_option maxRecDepth 100000 in
theorem m_told5 (G : oG) {h : oH} (hs : oSh h) {n : Nat} (hn : (hI h 12 1).toInt = (n : Int)) (hn24 : n ≤ 24) (v : Int32) {i : Nat} (hi : i < n) (hv : v.toInt = (i : Int)) (x : Int32) (hk : x.toInt = 5) : oSp G mX6_told [.ref 12, .int v, .int x] h (some (.int (hI h 18 i))) (sI h 12 0 0) := by
  refine oSp.intro [some (.ref 12), some (.int v), some (.int x)] rfl (Nat.le_of_ble_eq_true rfl) (plainFor_of_name (by decide +kernel)) (Nat.le_refl _) ?_
  intro p l e R s m args below meth c C
  refine r_aload_n C rfl rfl dX6_told_0 ?_
  refine r_iconstv C 0 rfl dX6_told_1 ?_
  refine r_putI C dX6_told_2 fl_X6_90 rfl (q_lt hs (by decide)) (Or.inl rfl) ?_
  refine r_aload_n C rfl rfl dX6_told_5 ?_
  refine r_iload_n C rfl dX6_told_6 ?_
  refine r_callV C (sp_isHouse G (by exact hs) (by exact hn) hn24 _) kv_X6_isHouse kn_X6_isHouse rfl dX6_told_7 cl_X6_108 ⟨Nat.le_of_ble_eq_true rfl, Nat.le_of_ble_eq_true rfl⟩ (by decide) rfl rfl (q_lt hs (by decide)) (Nat.le_refl _) rfl (Nat.le_of_ble_eq_true rfl) ?_
  refine t_ifb_eq C 25 (by decide) dX6_told_10 (fun c10 => ?_) (fun c10 => ?_)
  · first
    | (exfalso; omega)
    |  (refine r_ldc C _ lc_X6_106 dX6_told_25 ?_
        exact r_iret C dX6_told_27 rfl (Nat.le_refl _) rfl rfl)
  · first
    | (exfalso; omega)
    |  (refine r_iload_n C rfl dX6_told_13 ?_
        refine r_i2l C dX6_told_14 ?_
        refine r_lconst C 0 rfl dX6_told_15 ?_
        refine r_ldc2 C _ ll_X6_128 dX6_told_16 ?_
        refine r_callS C (sp_in G (tI2L hk) (show (0 : Int64).toInt = 0 from rfl) (show (10 : Int64).toInt = 10 from rfl)) ks_X6_in kn_X6_in rfl dX6_told_19 cl_X6_96 ⟨Nat.le_of_ble_eq_true rfl, Nat.le_of_ble_eq_true rfl⟩ (Nat.le_refl _) rfl (Nat.le_of_ble_eq_true rfl) ?_
        refine t_ifb_ne C 28 (by decide) dX6_told_22 (fun c22 => ?_) (fun c22 => ?_)
        · first
          | (exfalso; omega)
          |  (refine r_iload_n C rfl dX6_told_28 ?_
              refine r_iconstv C 4 rfl dX6_told_29 ?_
              refine t_icmp_ge C 44 (by decide) hk (show (4 : Int32).toInt = 4 from rfl) dX6_told_30 (fun c30 => ?_) (fun c30 => ?_)
              · first
                | (exfalso; omega)
                |  (refine r_iload_n C rfl dX6_told_44 ?_
                    refine r_iconstv C 4 rfl dX6_told_45 ?_
                    refine t_icmp_ne C 58 (by decide) hk (show (4 : Int32).toInt = 4 from rfl) dX6_told_46 (fun c46 => ?_) (fun c46 => ?_)
                    · first
                      | (exfalso; omega)
                      |  (refine r_iload_n C rfl dX6_told_58 ?_
                          refine r_iconstv C 5 rfl dX6_told_59 ?_
                          refine t_icmp_ne C 72 (by decide) hk (show (5 : Int32).toInt = 5 from rfl) dX6_told_60 (fun c60 => ?_) (fun c60 => ?_)
                          · first
                            | (exfalso; omega)
                            |  (refine r_iload_n C rfl dX6_told_72 ?_
                                refine r_bipush C 6 rfl dX6_told_73 ?_
                                refine t_icmp_ne C 94 (by decide) hk (show (6 : Int32).toInt = 6 from rfl) dX6_told_75 (fun c75 => ?_) (fun c75 => ?_)
                                · first
                                  | (exfalso; omega)
                                  |  (refine r_iload_n C rfl dX6_told_94 ?_
                                      refine r_bipush C 7 rfl dX6_told_95 ?_
                                      refine t_icmp_ne C 109 (by decide) hk (show (7 : Int32).toInt = 7 from rfl) dX6_told_97 (fun c97 => ?_) (fun c97 => ?_)
                                      · first
                                        | (exfalso; omega)
                                        |  (refine r_iload_n C rfl dX6_told_109 ?_
                                            refine r_bipush C 8 rfl dX6_told_110 ?_
                                            refine t_icmp_ne C 124 (by decide) hk (show (8 : Int32).toInt = 8 from rfl) dX6_told_112 (fun c112 => ?_) (fun c112 => ?_)
                                            · first
                                              | (exfalso; omega)
                                              |  (refine r_iload_n C rfl dX6_told_124 ?_
                                                  refine r_bipush C 9 rfl dX6_told_125 ?_
                                                  refine t_icmp_ne C 139 (by decide) hk (show (9 : Int32).toInt = 9 from rfl) dX6_told_127 (fun c127 => ?_) (fun c127 => ?_)
                                                  · first
                                                    | (exfalso; omega)
                                                    |  (refine r_aload_n C rfl rfl dX6_told_139 ?_
                                                        refine r_getO C dX6_told_140 fl_X6_41 rfl rfl (q_lt hs (by decide)) (sh_12_12 hs) ?_
                                                        refine r_iload_n C rfl dX6_told_143 ?_
                                                        refine r_iald C (i) (by have t := hv; omega) (by omega) dX6_told_144 rfl (q_lt hs (by decide)) ?_
                                                        exact r_iret C dX6_told_145 rfl (Nat.le_refl _) rfl rfl)
                                                  · first
                                                    | (exfalso; omega)
                                                    |  (refine r_aload_n C rfl rfl dX6_told_130 ?_
                                                        refine r_getO C dX6_told_131 fl_X6_38 rfl rfl (q_lt hs (by decide)) (sh_12_11 hs) ?_
                                                        refine r_iload_n C rfl dX6_told_134 ?_
                                                        refine r_iald C (i) (by have t := hv; omega) (by omega) dX6_told_135 rfl (q_lt hs (by decide)) ?_
                                                        refine r_goto C 145 (by decide) dX6_told_136 ?_
                                                        exact r_iret C dX6_told_145 rfl (Nat.le_refl _) rfl rfl))
                                            · first
                                              | (exfalso; omega)
                                              |  (refine r_aload_n C rfl rfl dX6_told_115 ?_
                                                  refine r_getO C dX6_told_116 fl_X6_31 rfl rfl (q_lt hs (by decide)) (sh_12_9 hs) ?_
                                                  refine r_iload_n C rfl dX6_told_119 ?_
                                                  refine r_iald C (i) (by have t := hv; omega) (by omega) dX6_told_120 rfl (q_lt hs (by decide)) ?_
                                                  refine r_goto C 145 (by decide) dX6_told_121 ?_
                                                  exact r_iret C dX6_told_145 rfl (Nat.le_refl _) rfl rfl))
                                      · first
                                        | (exfalso; omega)
                                        |  (refine r_aload_n C rfl rfl dX6_told_100 ?_
                                            refine r_getO C dX6_told_101 fl_X6_28 rfl rfl (q_lt hs (by decide)) (sh_12_8 hs) ?_
                                            refine r_iload_n C rfl dX6_told_104 ?_
                                            refine r_iald C (i) (by have t := hv; omega) (by omega) dX6_told_105 rfl (q_lt hs (by decide)) ?_
                                            refine r_goto C 145 (by decide) dX6_told_106 ?_
                                            exact r_iret C dX6_told_145 rfl (Nat.le_refl _) rfl rfl))
                                · first
                                  | (exfalso; omega)
                                  |  (refine r_aload_n C rfl rfl dX6_told_78 ?_
                                      refine r_iload_n C rfl dX6_told_79 ?_
                                      refine r_callV C (sp_isDueM G (by exact hs) _ hv (by omega)) kv_X6_isDue kn_X6_isDue rfl dX6_told_80 cl_X6_125 ⟨Nat.le_of_ble_eq_true rfl, Nat.le_of_ble_eq_true rfl⟩ (by decide) rfl rfl (q_lt hs (by decide)) (Nat.le_refl _) rfl (Nat.le_of_ble_eq_true rfl) ?_
                                      refine t_ifb_eq C 90 (by decide) dX6_told_83 (fun c83 => ?_) (fun c83 => ?_)
                                      · first
                                        | (exfalso; omega)
                                        |  (refine r_iconstv C 0 rfl dX6_told_90 ?_
                                            refine r_goto C 145 (by decide) dX6_told_91 ?_
                                            exact r_iret C dX6_told_145 rfl (Nat.le_refl _) rfl rfl)
                                      · first
                                        | (exfalso; omega)
                                        |  (refine r_iconstv C 1 rfl dX6_told_86 ?_
                                            refine r_goto C 145 (by decide) dX6_told_87 ?_
                                            exact r_iret C dX6_told_145 rfl (Nat.le_refl _) rfl rfl)))
                          · first
                            | (exfalso; omega)
                            |  (refine r_aload_n C rfl rfl dX6_told_63 ?_
                                refine r_getO C dX6_told_64 fl_X6_25 rfl rfl (q_lt hs (by decide)) (sh_12_7 hs) ?_
                                refine r_iload_n C rfl dX6_told_67 ?_
                                refine r_iald C (i) (by have t := hv; omega) (by omega) dX6_told_68 rfl (q_lt hs (by decide)) ?_
                                refine r_goto C 145 (by decide) dX6_told_69 ?_
                                exact r_iret C dX6_told_145 rfl (Nat.le_refl _) rfl rfl))
                    · first
                      | (exfalso; omega)
                      |  (refine r_aload_n C rfl rfl dX6_told_49 ?_
                          refine r_getO C dX6_told_50 fl_X6_22 rfl rfl (q_lt hs (by decide)) (sh_12_6 hs) ?_
                          refine r_iload_n C rfl dX6_told_53 ?_
                          refine r_iald C (i) (by have t := hv; omega) (by omega) dX6_told_54 rfl (q_lt hs (by decide)) ?_
                          refine r_goto C 145 (by decide) dX6_told_55 ?_
                          exact r_iret C dX6_told_145 rfl (Nat.le_refl _) rfl rfl))
              · first
                | (exfalso; omega)
                |  (refine r_aload_n C rfl rfl dX6_told_33 ?_
                    refine r_getO C dX6_told_34 fl_X6_19 rfl rfl (q_lt hs (by decide)) (sh_12_5 hs) ?_
                    refine r_iconstv C 4 rfl dX6_told_37 ?_
                    refine r_iload_n C rfl dX6_told_38 ?_
                    refine r_imul C dX6_told_39 ?_
                    refine r_iload_n C rfl dX6_told_40 ?_
                    refine r_iadd C dX6_told_41 ?_
                    refine r_iald C (((4) * (i)) + (5)) (by have t := (tA (tM (show (4 : Int32).toInt = 4 from rfl) hv (by omega)) hk (by omega)); omega) (by omega) dX6_told_42 rfl (q_lt hs (by decide)) ?_
                    exact r_iret C dX6_told_43 rfl (Nat.le_refl _) rfl rfl))
        · first
          | (exfalso; omega)
          |  (refine r_ldc C _ lc_X6_106 dX6_told_25 ?_
              exact r_iret C dX6_told_27 rfl (Nat.le_refl _) rfl rfl))

set_option maxHeartbeats 4000000 in
set_option maxRecDepth 100000 in
theorem c_told6 (G : oG) {h : oH} {n : Nat} (hh : oHs h n) (v : Int32) {i : Nat} (hi : i < n) (hv : v.toInt = (i : Int)) (x : Int32) (hk : x.toInt = 6) : oSp G mX5_told [.ref 0, .int v, .int x] h (some (.int (b1 (dueC h i)))) h := by
  refine oSp.intro [some (.ref 0), some (.int v), some (.int x), none] rfl (Nat.le_of_ble_eq_true rfl) (plainFor_of_name (by decide +kernel)) (Nat.le_refl _) ?_
  intro p l e R s m args below meth c C
  refine r_aload_n C rfl rfl dX5_told_0 ?_
  refine r_iload_n C rfl dX5_told_1 ?_
  refine r_callV C (sp_houseAt G (by exact hh) _ hi hv) kv_X5_houseAt kn_X5_houseAt rfl dX5_told_2 cl_X5_77 ⟨Nat.le_of_ble_eq_true rfl, Nat.le_of_ble_eq_true rfl⟩ (by decide) rfl rfl (q_lt hh.1 (by decide)) (Nat.le_refl _) rfl (Nat.le_of_ble_eq_true rfl) ?_
  refine r_astore_n C rfl rfl (Nat.le_of_ble_eq_true rfl) dX5_told_5 ?_
  refine r_aload_n C rfl rfl dX5_told_6 ?_
  refine r_ifnonnull C 13 (by decide) dX5_told_7 ?_
  refine r_iload_n C rfl dX5_told_13 ?_
  refine r_tableIn C 102 (by rw [hk]; decide) (by rw [hk]; decide) (by rw [hk]; rfl) (by decide) dX5_told_14 ?_
  refine r_aload_n C rfl rfl dX5_told_102 ?_
  refine r_aload_n C rfl rfl dX5_told_103 ?_
  refine r_getI C dX5_told_104 fl_X5_43 rfl (q_lt hh.1 (by decide)) ?_
  refine r_aload_n C rfl rfl dX5_told_107 ?_
  refine r_getI C dX5_told_108 fl_X5_46 rfl (q_lt hh.1 (by decide)) ?_
  refine r_callV C (sp_isDueC G (tg_hid i) (oHs.lt (by exact hh) hi) _ _) kv_X1_isDue kn_X1_isDue rfl dX5_told_111 cl_X5_118 ⟨Nat.le_of_ble_eq_true rfl, Nat.le_of_ble_eq_true rfl⟩ (by decide) rfl (tg_hid i) (oHs.lt hh hi) (Nat.le_refl _) rfl (Nat.le_of_ble_eq_true rfl) ?_
  refine j_ifb C 121 (by decide) rfl dX5_told_114 dX5_told_117 dX5_told_118 dX5_told_121 ?_
  exact r_iret C dX5_told_122 rfl (Nat.le_refl _) rfl rfl

set_option maxHeartbeats 4000000 in
set_option maxRecDepth 100000 in
theorem m_told6 (G : oG) {h : oH} (hs : oSh h) {n : Nat} (hn : (hI h 12 1).toInt = (n : Int)) (hn24 : n ≤ 24) (v : Int32) {i : Nat} (hi : i < n) (hv : v.toInt = (i : Int)) (x : Int32) (hk : x.toInt = 6) : oSp G mX6_told [.ref 12, .int v, .int x] h (some (.int (b1 (dueP h i)))) (sI h 12 0 0) := by
  refine oSp.intro [some (.ref 12), some (.int v), some (.int x)] rfl (Nat.le_of_ble_eq_true rfl) (plainFor_of_name (by decide +kernel)) (Nat.le_refl _) ?_
  intro p l e R s m args below meth c C
  refine r_aload_n C rfl rfl dX6_told_0 ?_
  refine r_iconstv C 0 rfl dX6_told_1 ?_
  refine r_putI C dX6_told_2 fl_X6_90 rfl (q_lt hs (by decide)) (Or.inl rfl) ?_
  refine r_aload_n C rfl rfl dX6_told_5 ?_
  refine r_iload_n C rfl dX6_told_6 ?_
  refine r_callV C (sp_isHouse G (by exact hs) (by exact hn) hn24 _) kv_X6_isHouse kn_X6_isHouse rfl dX6_told_7 cl_X6_108 ⟨Nat.le_of_ble_eq_true rfl, Nat.le_of_ble_eq_true rfl⟩ (by decide) rfl rfl (q_lt hs (by decide)) (Nat.le_refl _) rfl (Nat.le_of_ble_eq_true rfl) ?_
  refine t_ifb_eq C 25 (by decide) dX6_told_10 (fun c10 => ?_) (fun c10 => ?_)
  · first
    | (exfalso; omega)
    |  (refine r_ldc C _ lc_X6_106 dX6_told_25 ?_
        exact r_iret C dX6_told_27 rfl (Nat.le_refl _) (er_f (by assumption)) rfl)
  · first
    | (exfalso; omega)
    |  (refine r_iload_n C rfl dX6_told_13 ?_
        refine r_i2l C dX6_told_14 ?_
        refine r_lconst C 0 rfl dX6_told_15 ?_
        refine r_ldc2 C _ ll_X6_128 dX6_told_16 ?_
        refine r_callS C (sp_in G (tI2L hk) (show (0 : Int64).toInt = 0 from rfl) (show (10 : Int64).toInt = 10 from rfl)) ks_X6_in kn_X6_in rfl dX6_told_19 cl_X6_96 ⟨Nat.le_of_ble_eq_true rfl, Nat.le_of_ble_eq_true rfl⟩ (Nat.le_refl _) rfl (Nat.le_of_ble_eq_true rfl) ?_
        refine t_ifb_ne C 28 (by decide) dX6_told_22 (fun c22 => ?_) (fun c22 => ?_)
        · first
          | (exfalso; omega)
          |  (refine r_iload_n C rfl dX6_told_28 ?_
              refine r_iconstv C 4 rfl dX6_told_29 ?_
              refine t_icmp_ge C 44 (by decide) hk (show (4 : Int32).toInt = 4 from rfl) dX6_told_30 (fun c30 => ?_) (fun c30 => ?_)
              · first
                | (exfalso; omega)
                |  (refine r_iload_n C rfl dX6_told_44 ?_
                    refine r_iconstv C 4 rfl dX6_told_45 ?_
                    refine t_icmp_ne C 58 (by decide) hk (show (4 : Int32).toInt = 4 from rfl) dX6_told_46 (fun c46 => ?_) (fun c46 => ?_)
                    · first
                      | (exfalso; omega)
                      |  (refine r_iload_n C rfl dX6_told_58 ?_
                          refine r_iconstv C 5 rfl dX6_told_59 ?_
                          refine t_icmp_ne C 72 (by decide) hk (show (5 : Int32).toInt = 5 from rfl) dX6_told_60 (fun c60 => ?_) (fun c60 => ?_)
                          · first
                            | (exfalso; omega)
                            |  (refine r_iload_n C rfl dX6_told_72 ?_
                                refine r_bipush C 6 rfl dX6_told_73 ?_
                                refine t_icmp_ne C 94 (by decide) hk (show (6 : Int32).toInt = 6 from rfl) dX6_told_75 (fun c75 => ?_) (fun c75 => ?_)
                                · first
                                  | (exfalso; omega)
                                  |  (refine r_iload_n C rfl dX6_told_94 ?_
                                      refine r_bipush C 7 rfl dX6_told_95 ?_
                                      refine t_icmp_ne C 109 (by decide) hk (show (7 : Int32).toInt = 7 from rfl) dX6_told_97 (fun c97 => ?_) (fun c97 => ?_)
                                      · first
                                        | (exfalso; omega)
                                        |  (refine r_iload_n C rfl dX6_told_109 ?_
                                            refine r_bipush C 8 rfl dX6_told_110 ?_
                                            refine t_icmp_ne C 124 (by decide) hk (show (8 : Int32).toInt = 8 from rfl) dX6_told_112 (fun c112 => ?_) (fun c112 => ?_)
                                            · first
                                              | (exfalso; omega)
                                              |  (refine r_iload_n C rfl dX6_told_124 ?_
                                                  refine r_bipush C 9 rfl dX6_told_125 ?_
                                                  refine t_icmp_ne C 139 (by decide) hk (show (9 : Int32).toInt = 9 from rfl) dX6_told_127 (fun c127 => ?_) (fun c127 => ?_)
                                                  · first
                                                    | (exfalso; omega)
                                                    |  (refine r_aload_n C rfl rfl dX6_told_139 ?_
                                                        refine r_getO C dX6_told_140 fl_X6_41 rfl rfl (q_lt hs (by decide)) (sh_12_12 hs) ?_
                                                        refine r_iload_n C rfl dX6_told_143 ?_
                                                        refine r_iald C (i) (by have t := hv; omega) (by omega) dX6_told_144 rfl (q_lt hs (by decide)) ?_
                                                        exact r_iret C dX6_told_145 rfl (Nat.le_refl _) (er_f (by assumption)) rfl)
                                                  · first
                                                    | (exfalso; omega)
                                                    |  (refine r_aload_n C rfl rfl dX6_told_130 ?_
                                                        refine r_getO C dX6_told_131 fl_X6_38 rfl rfl (q_lt hs (by decide)) (sh_12_11 hs) ?_
                                                        refine r_iload_n C rfl dX6_told_134 ?_
                                                        refine r_iald C (i) (by have t := hv; omega) (by omega) dX6_told_135 rfl (q_lt hs (by decide)) ?_
                                                        refine r_goto C 145 (by decide) dX6_told_136 ?_
                                                        exact r_iret C dX6_told_145 rfl (Nat.le_refl _) (er_f (by assumption)) rfl))
                                            · first
                                              | (exfalso; omega)
                                              |  (refine r_aload_n C rfl rfl dX6_told_115 ?_
                                                  refine r_getO C dX6_told_116 fl_X6_31 rfl rfl (q_lt hs (by decide)) (sh_12_9 hs) ?_
                                                  refine r_iload_n C rfl dX6_told_119 ?_
                                                  refine r_iald C (i) (by have t := hv; omega) (by omega) dX6_told_120 rfl (q_lt hs (by decide)) ?_
                                                  refine r_goto C 145 (by decide) dX6_told_121 ?_
                                                  exact r_iret C dX6_told_145 rfl (Nat.le_refl _) (er_f (by assumption)) rfl))
                                      · first
                                        | (exfalso; omega)
                                        |  (refine r_aload_n C rfl rfl dX6_told_100 ?_
                                            refine r_getO C dX6_told_101 fl_X6_28 rfl rfl (q_lt hs (by decide)) (sh_12_8 hs) ?_
                                            refine r_iload_n C rfl dX6_told_104 ?_
                                            refine r_iald C (i) (by have t := hv; omega) (by omega) dX6_told_105 rfl (q_lt hs (by decide)) ?_
                                            refine r_goto C 145 (by decide) dX6_told_106 ?_
                                            exact r_iret C dX6_told_145 rfl (Nat.le_refl _) (er_f (by assumption)) rfl))
                                · first
                                  | (exfalso; omega)
                                  |  (refine r_aload_n C rfl rfl dX6_told_78 ?_
                                      refine r_iload_n C rfl dX6_told_79 ?_
                                      refine r_callV C (sp_isDueM G (by exact hs) _ hv (by omega)) kv_X6_isDue kn_X6_isDue rfl dX6_told_80 cl_X6_125 ⟨Nat.le_of_ble_eq_true rfl, Nat.le_of_ble_eq_true rfl⟩ (by decide) rfl rfl (q_lt hs (by decide)) (Nat.le_refl _) rfl (Nat.le_of_ble_eq_true rfl) ?_
                                      refine t_ifb_eq C 90 (by decide) dX6_told_83 (fun c83 => ?_) (fun c83 => ?_)
                                      · first
                                        | (exfalso; omega)
                                        |  (refine r_iconstv C 0 rfl dX6_told_90 ?_
                                            refine r_goto C 145 (by decide) dX6_told_91 ?_
                                            exact r_iret C dX6_told_145 rfl (Nat.le_refl _) (er_f (by assumption)) rfl)
                                      · first
                                        | (exfalso; omega)
                                        |  (refine r_iconstv C 1 rfl dX6_told_86 ?_
                                            refine r_goto C 145 (by decide) dX6_told_87 ?_
                                            exact r_iret C dX6_told_145 rfl (Nat.le_refl _) (er_t (by assumption)) rfl)))
                          · first
                            | (exfalso; omega)
                            |  (refine r_aload_n C rfl rfl dX6_told_63 ?_
                                refine r_getO C dX6_told_64 fl_X6_25 rfl rfl (q_lt hs (by decide)) (sh_12_7 hs) ?_
                                refine r_iload_n C rfl dX6_told_67 ?_
                                refine r_iald C (i) (by have t := hv; omega) (by omega) dX6_told_68 rfl (q_lt hs (by decide)) ?_
                                refine r_goto C 145 (by decide) dX6_told_69 ?_
                                exact r_iret C dX6_told_145 rfl (Nat.le_refl _) (er_f (by assumption)) rfl))
                    · first
                      | (exfalso; omega)
                      |  (refine r_aload_n C rfl rfl dX6_told_49 ?_
                          refine r_getO C dX6_told_50 fl_X6_22 rfl rfl (q_lt hs (by decide)) (sh_12_6 hs) ?_
                          refine r_iload_n C rfl dX6_told_53 ?_
                          refine r_iald C (i) (by have t := hv; omega) (by omega) dX6_told_54 rfl (q_lt hs (by decide)) ?_
                          refine r_goto C 145 (by decide) dX6_told_55 ?_
                          exact r_iret C dX6_told_145 rfl (Nat.le_refl _) (er_f (by assumption)) rfl))
              · first
                | (exfalso; omega)
                |  (refine r_aload_n C rfl rfl dX6_told_33 ?_
                    refine r_getO C dX6_told_34 fl_X6_19 rfl rfl (q_lt hs (by decide)) (sh_12_5 hs) ?_
                    refine r_iconstv C 4 rfl dX6_told_37 ?_
                    refine r_iload_n C rfl dX6_told_38 ?_
                    refine r_imul C dX6_told_39 ?_
                    refine r_iload_n C rfl dX6_told_40 ?_
                    refine r_iadd C dX6_told_41 ?_
                    refine r_iald C (((4) * (i)) + (6)) (by have t := (tA (tM (show (4 : Int32).toInt = 4 from rfl) hv (by omega)) hk (by omega)); omega) (by omega) dX6_told_42 rfl (q_lt hs (by decide)) ?_
                    exact r_iret C dX6_told_43 rfl (Nat.le_refl _) (er_f (by assumption)) rfl))
        · first
          | (exfalso; omega)
          |  (refine r_ldc C _ lc_X6_106 dX6_told_25 ?_
              exact r_iret C dX6_told_27 rfl (Nat.le_refl _) (er_f (by assumption)) rfl))

set_option maxHeartbeats 4000000 in
set_option maxRecDepth 100000 in
theorem c_told7 (G : oG) {h : oH} {n : Nat} (hh : oHs h n) (v : Int32) {i : Nat} (hi : i < n) (hv : v.toInt = (i : Int)) (x : Int32) (hk : x.toInt = 7) : oSp G mX5_told [.ref 0, .int v, .int x] h (some (.int (hI h (hid i) 10))) h := by
  refine oSp.intro [some (.ref 0), some (.int v), some (.int x), none] rfl (Nat.le_of_ble_eq_true rfl) (plainFor_of_name (by decide +kernel)) (Nat.le_refl _) ?_
  intro p l e R s m args below meth c C
  refine r_aload_n C rfl rfl dX5_told_0 ?_
  refine r_iload_n C rfl dX5_told_1 ?_
  refine r_callV C (sp_houseAt G (by exact hh) _ hi hv) kv_X5_houseAt kn_X5_houseAt rfl dX5_told_2 cl_X5_77 ⟨Nat.le_of_ble_eq_true rfl, Nat.le_of_ble_eq_true rfl⟩ (by decide) rfl rfl (q_lt hh.1 (by decide)) (Nat.le_refl _) rfl (Nat.le_of_ble_eq_true rfl) ?_
  refine r_astore_n C rfl rfl (Nat.le_of_ble_eq_true rfl) dX5_told_5 ?_
  refine r_aload_n C rfl rfl dX5_told_6 ?_
  refine r_ifnonnull C 13 (by decide) dX5_told_7 ?_
  refine r_iload_n C rfl dX5_told_13 ?_
  refine r_tableIn C 123 (by rw [hk]; decide) (by rw [hk]; decide) (by rw [hk]; rfl) (by decide) dX5_told_14 ?_
  refine r_aload_n C rfl rfl dX5_told_123 ?_
  refine r_getI C dX5_told_124 fl_X5_81 (tg_hid i) (oHs.lt hh hi) ?_
  exact r_iret C dX5_told_127 rfl (Nat.le_refl _) rfl rfl

set_option maxHeartbeats 4000000 in
set_option maxRecDepth 100000 in
theorem m_told7 (G : oG) {h : oH} (hs : oSh h) {n : Nat} (hn : (hI h 12 1).toInt = (n : Int)) (hn24 : n ≤ 24) (v : Int32) {i : Nat} (hi : i < n) (hv : v.toInt = (i : Int)) (x : Int32) (hk : x.toInt = 7) : oSp G mX6_told [.ref 12, .int v, .int x] h (some (.int (hI h 19 i))) (sI h 12 0 0) := by
  refine oSp.intro [some (.ref 12), some (.int v), some (.int x)] rfl (Nat.le_of_ble_eq_true rfl) (plainFor_of_name (by decide +kernel)) (Nat.le_refl _) ?_
  intro p l e R s m args below meth c C
  refine r_aload_n C rfl rfl dX6_told_0 ?_
  refine r_iconstv C 0 rfl dX6_told_1 ?_
  refine r_putI C dX6_told_2 fl_X6_90 rfl (q_lt hs (by decide)) (Or.inl rfl) ?_
  refine r_aload_n C rfl rfl dX6_told_5 ?_
  refine r_iload_n C rfl dX6_told_6 ?_
  refine r_callV C (sp_isHouse G (by exact hs) (by exact hn) hn24 _) kv_X6_isHouse kn_X6_isHouse rfl dX6_told_7 cl_X6_108 ⟨Nat.le_of_ble_eq_true rfl, Nat.le_of_ble_eq_true rfl⟩ (by decide) rfl rfl (q_lt hs (by decide)) (Nat.le_refl _) rfl (Nat.le_of_ble_eq_true rfl) ?_
  refine t_ifb_eq C 25 (by decide) dX6_told_10 (fun c10 => ?_) (fun c10 => ?_)
  · first
    | (exfalso; omega)
    |  (refine r_ldc C _ lc_X6_106 dX6_told_25 ?_
        exact r_iret C dX6_told_27 rfl (Nat.le_refl _) rfl rfl)
  · first
    | (exfalso; omega)
    |  (refine r_iload_n C rfl dX6_told_13 ?_
        refine r_i2l C dX6_told_14 ?_
        refine r_lconst C 0 rfl dX6_told_15 ?_
        refine r_ldc2 C _ ll_X6_128 dX6_told_16 ?_
        refine r_callS C (sp_in G (tI2L hk) (show (0 : Int64).toInt = 0 from rfl) (show (10 : Int64).toInt = 10 from rfl)) ks_X6_in kn_X6_in rfl dX6_told_19 cl_X6_96 ⟨Nat.le_of_ble_eq_true rfl, Nat.le_of_ble_eq_true rfl⟩ (Nat.le_refl _) rfl (Nat.le_of_ble_eq_true rfl) ?_
        refine t_ifb_ne C 28 (by decide) dX6_told_22 (fun c22 => ?_) (fun c22 => ?_)
        · first
          | (exfalso; omega)
          |  (refine r_iload_n C rfl dX6_told_28 ?_
              refine r_iconstv C 4 rfl dX6_told_29 ?_
              refine t_icmp_ge C 44 (by decide) hk (show (4 : Int32).toInt = 4 from rfl) dX6_told_30 (fun c30 => ?_) (fun c30 => ?_)
              · first
                | (exfalso; omega)
                |  (refine r_iload_n C rfl dX6_told_44 ?_
                    refine r_iconstv C 4 rfl dX6_told_45 ?_
                    refine t_icmp_ne C 58 (by decide) hk (show (4 : Int32).toInt = 4 from rfl) dX6_told_46 (fun c46 => ?_) (fun c46 => ?_)
                    · first
                      | (exfalso; omega)
                      |  (refine r_iload_n C rfl dX6_told_58 ?_
                          refine r_iconstv C 5 rfl dX6_told_59 ?_
                          refine t_icmp_ne C 72 (by decide) hk (show (5 : Int32).toInt = 5 from rfl) dX6_told_60 (fun c60 => ?_) (fun c60 => ?_)
                          · first
                            | (exfalso; omega)
                            |  (refine r_iload_n C rfl dX6_told_72 ?_
                                refine r_bipush C 6 rfl dX6_told_73 ?_
                                refine t_icmp_ne C 94 (by decide) hk (show (6 : Int32).toInt = 6 from rfl) dX6_told_75 (fun c75 => ?_) (fun c75 => ?_)
                                · first
                                  | (exfalso; omega)
                                  |  (refine r_iload_n C rfl dX6_told_94 ?_
                                      refine r_bipush C 7 rfl dX6_told_95 ?_
                                      refine t_icmp_ne C 109 (by decide) hk (show (7 : Int32).toInt = 7 from rfl) dX6_told_97 (fun c97 => ?_) (fun c97 => ?_)
                                      · first
                                        | (exfalso; omega)
                                        |  (refine r_iload_n C rfl dX6_told_109 ?_
                                            refine r_bipush C 8 rfl dX6_told_110 ?_
                                            refine t_icmp_ne C 124 (by decide) hk (show (8 : Int32).toInt = 8 from rfl) dX6_told_112 (fun c112 => ?_) (fun c112 => ?_)
                                            · first
                                              | (exfalso; omega)
                                              |  (refine r_iload_n C rfl dX6_told_124 ?_
                                                  refine r_bipush C 9 rfl dX6_told_125 ?_
                                                  refine t_icmp_ne C 139 (by decide) hk (show (9 : Int32).toInt = 9 from rfl) dX6_told_127 (fun c127 => ?_) (fun c127 => ?_)
                                                  · first
                                                    | (exfalso; omega)
                                                    |  (refine r_aload_n C rfl rfl dX6_told_139 ?_
                                                        refine r_getO C dX6_told_140 fl_X6_41 rfl rfl (q_lt hs (by decide)) (sh_12_12 hs) ?_
                                                        refine r_iload_n C rfl dX6_told_143 ?_
                                                        refine r_iald C (i) (by have t := hv; omega) (by omega) dX6_told_144 rfl (q_lt hs (by decide)) ?_
                                                        exact r_iret C dX6_told_145 rfl (Nat.le_refl _) rfl rfl)
                                                  · first
                                                    | (exfalso; omega)
                                                    |  (refine r_aload_n C rfl rfl dX6_told_130 ?_
                                                        refine r_getO C dX6_told_131 fl_X6_38 rfl rfl (q_lt hs (by decide)) (sh_12_11 hs) ?_
                                                        refine r_iload_n C rfl dX6_told_134 ?_
                                                        refine r_iald C (i) (by have t := hv; omega) (by omega) dX6_told_135 rfl (q_lt hs (by decide)) ?_
                                                        refine r_goto C 145 (by decide) dX6_told_136 ?_
                                                        exact r_iret C dX6_told_145 rfl (Nat.le_refl _) rfl rfl))
                                            · first
                                              | (exfalso; omega)
                                              |  (refine r_aload_n C rfl rfl dX6_told_115 ?_
                                                  refine r_getO C dX6_told_116 fl_X6_31 rfl rfl (q_lt hs (by decide)) (sh_12_9 hs) ?_
                                                  refine r_iload_n C rfl dX6_told_119 ?_
                                                  refine r_iald C (i) (by have t := hv; omega) (by omega) dX6_told_120 rfl (q_lt hs (by decide)) ?_
                                                  refine r_goto C 145 (by decide) dX6_told_121 ?_
                                                  exact r_iret C dX6_told_145 rfl (Nat.le_refl _) rfl rfl))
                                      · first
                                        | (exfalso; omega)
                                        |  (refine r_aload_n C rfl rfl dX6_told_100 ?_
                                            refine r_getO C dX6_told_101 fl_X6_28 rfl rfl (q_lt hs (by decide)) (sh_12_8 hs) ?_
                                            refine r_iload_n C rfl dX6_told_104 ?_
                                            refine r_iald C (i) (by have t := hv; omega) (by omega) dX6_told_105 rfl (q_lt hs (by decide)) ?_
                                            refine r_goto C 145 (by decide) dX6_told_106 ?_
                                            exact r_iret C dX6_told_145 rfl (Nat.le_refl _) rfl rfl))
                                · first
                                  | (exfalso; omega)
                                  |  (refine r_aload_n C rfl rfl dX6_told_78 ?_
                                      refine r_iload_n C rfl dX6_told_79 ?_
                                      refine r_callV C (sp_isDueM G (by exact hs) _ hv (by omega)) kv_X6_isDue kn_X6_isDue rfl dX6_told_80 cl_X6_125 ⟨Nat.le_of_ble_eq_true rfl, Nat.le_of_ble_eq_true rfl⟩ (by decide) rfl rfl (q_lt hs (by decide)) (Nat.le_refl _) rfl (Nat.le_of_ble_eq_true rfl) ?_
                                      refine t_ifb_eq C 90 (by decide) dX6_told_83 (fun c83 => ?_) (fun c83 => ?_)
                                      · first
                                        | (exfalso; omega)
                                        |  (refine r_iconstv C 0 rfl dX6_told_90 ?_
                                            refine r_goto C 145 (by decide) dX6_told_91 ?_
                                            exact r_iret C dX6_told_145 rfl (Nat.le_refl _) rfl rfl)
                                      · first
                                        | (exfalso; omega)
                                        |  (refine r_iconstv C 1 rfl dX6_told_86 ?_
                                            refine r_goto C 145 (by decide) dX6_told_87 ?_
                                            exact r_iret C dX6_told_145 rfl (Nat.le_refl _) rfl rfl)))
                          · first
                            | (exfalso; omega)
                            |  (refine r_aload_n C rfl rfl dX6_told_63 ?_
                                refine r_getO C dX6_told_64 fl_X6_25 rfl rfl (q_lt hs (by decide)) (sh_12_7 hs) ?_
                                refine r_iload_n C rfl dX6_told_67 ?_
                                refine r_iald C (i) (by have t := hv; omega) (by omega) dX6_told_68 rfl (q_lt hs (by decide)) ?_
                                refine r_goto C 145 (by decide) dX6_told_69 ?_
                                exact r_iret C dX6_told_145 rfl (Nat.le_refl _) rfl rfl))
                    · first
                      | (exfalso; omega)
                      |  (refine r_aload_n C rfl rfl dX6_told_49 ?_
                          refine r_getO C dX6_told_50 fl_X6_22 rfl rfl (q_lt hs (by decide)) (sh_12_6 hs) ?_
                          refine r_iload_n C rfl dX6_told_53 ?_
                          refine r_iald C (i) (by have t := hv; omega) (by omega) dX6_told_54 rfl (q_lt hs (by decide)) ?_
                          refine r_goto C 145 (by decide) dX6_told_55 ?_
                          exact r_iret C dX6_told_145 rfl (Nat.le_refl _) rfl rfl))
              · first
                | (exfalso; omega)
                |  (refine r_aload_n C rfl rfl dX6_told_33 ?_
                    refine r_getO C dX6_told_34 fl_X6_19 rfl rfl (q_lt hs (by decide)) (sh_12_5 hs) ?_
                    refine r_iconstv C 4 rfl dX6_told_37 ?_
                    refine r_iload_n C rfl dX6_told_38 ?_
                    refine r_imul C dX6_told_39 ?_
                    refine r_iload_n C rfl dX6_told_40 ?_
                    refine r_iadd C dX6_told_41 ?_
                    refine r_iald C (((4) * (i)) + (7)) (by have t := (tA (tM (show (4 : Int32).toInt = 4 from rfl) hv (by omega)) hk (by omega)); omega) (by omega) dX6_told_42 rfl (q_lt hs (by decide)) ?_
                    exact r_iret C dX6_told_43 rfl (Nat.le_refl _) rfl rfl))
        · first
          | (exfalso; omega)
          |  (refine r_ldc C _ lc_X6_106 dX6_told_25 ?_
              exact r_iret C dX6_told_27 rfl (Nat.le_refl _) rfl rfl))

set_option maxHeartbeats 4000000 in
set_option maxRecDepth 100000 in
theorem c_told8 (G : oG) {h : oH} {n : Nat} (hh : oHs h n) (v : Int32) {i : Nat} (hi : i < n) (hv : v.toInt = (i : Int)) (x : Int32) (hk : x.toInt = 8) : oSp G mX5_told [.ref 0, .int v, .int x] h (some (.int (hI h (hid i) 11))) h := by
  refine oSp.intro [some (.ref 0), some (.int v), some (.int x), none] rfl (Nat.le_of_ble_eq_true rfl) (plainFor_of_name (by decide +kernel)) (Nat.le_refl _) ?_
  intro p l e R s m args below meth c C
  refine r_aload_n C rfl rfl dX5_told_0 ?_
  refine r_iload_n C rfl dX5_told_1 ?_
  refine r_callV C (sp_houseAt G (by exact hh) _ hi hv) kv_X5_houseAt kn_X5_houseAt rfl dX5_told_2 cl_X5_77 ⟨Nat.le_of_ble_eq_true rfl, Nat.le_of_ble_eq_true rfl⟩ (by decide) rfl rfl (q_lt hh.1 (by decide)) (Nat.le_refl _) rfl (Nat.le_of_ble_eq_true rfl) ?_
  refine r_astore_n C rfl rfl (Nat.le_of_ble_eq_true rfl) dX5_told_5 ?_
  refine r_aload_n C rfl rfl dX5_told_6 ?_
  refine r_ifnonnull C 13 (by decide) dX5_told_7 ?_
  refine r_iload_n C rfl dX5_told_13 ?_
  refine r_tableIn C 128 (by rw [hk]; decide) (by rw [hk]; decide) (by rw [hk]; rfl) (by decide) dX5_told_14 ?_
  refine r_aload_n C rfl rfl dX5_told_128 ?_
  refine r_getI C dX5_told_129 fl_X5_122 (tg_hid i) (oHs.lt hh hi) ?_
  exact r_iret C dX5_told_132 rfl (Nat.le_refl _) rfl rfl

set_option maxHeartbeats 4000000 in
set_option maxRecDepth 100000 in
theorem m_told8 (G : oG) {h : oH} (hs : oSh h) {n : Nat} (hn : (hI h 12 1).toInt = (n : Int)) (hn24 : n ≤ 24) (v : Int32) {i : Nat} (hi : i < n) (hv : v.toInt = (i : Int)) (x : Int32) (hk : x.toInt = 8) : oSp G mX6_told [.ref 12, .int v, .int x] h (some (.int (hI h 20 i))) (sI h 12 0 0) := by
  refine oSp.intro [some (.ref 12), some (.int v), some (.int x)] rfl (Nat.le_of_ble_eq_true rfl) (plainFor_of_name (by decide +kernel)) (Nat.le_refl _) ?_
  intro p l e R s m args below meth c C
  refine r_aload_n C rfl rfl dX6_told_0 ?_
  refine r_iconstv C 0 rfl dX6_told_1 ?_
  refine r_putI C dX6_told_2 fl_X6_90 rfl (q_lt hs (by decide)) (Or.inl rfl) ?_
  refine r_aload_n C rfl rfl dX6_told_5 ?_
  refine r_iload_n C rfl dX6_told_6 ?_
  refine r_callV C (sp_isHouse G (by exact hs) (by exact hn) hn24 _) kv_X6_isHouse kn_X6_isHouse rfl dX6_told_7 cl_X6_108 ⟨Nat.le_of_ble_eq_true rfl, Nat.le_of_ble_eq_true rfl⟩ (by decide) rfl rfl (q_lt hs (by decide)) (Nat.le_refl _) rfl (Nat.le_of_ble_eq_true rfl) ?_
  refine t_ifb_eq C 25 (by decide) dX6_told_10 (fun c10 => ?_) (fun c10 => ?_)
  · first
    | (exfalso; omega)
    |  (refine r_ldc C _ lc_X6_106 dX6_told_25 ?_
        exact r_iret C dX6_told_27 rfl (Nat.le_refl _) rfl rfl)
  · first
    | (exfalso; omega)
    |  (refine r_iload_n C rfl dX6_told_13 ?_
        refine r_i2l C dX6_told_14 ?_
        refine r_lconst C 0 rfl dX6_told_15 ?_
        refine r_ldc2 C _ ll_X6_128 dX6_told_16 ?_
        refine r_callS C (sp_in G (tI2L hk) (show (0 : Int64).toInt = 0 from rfl) (show (10 : Int64).toInt = 10 from rfl)) ks_X6_in kn_X6_in rfl dX6_told_19 cl_X6_96 ⟨Nat.le_of_ble_eq_true rfl, Nat.le_of_ble_eq_true rfl⟩ (Nat.le_refl _) rfl (Nat.le_of_ble_eq_true rfl) ?_
        refine t_ifb_ne C 28 (by decide) dX6_told_22 (fun c22 => ?_) (fun c22 => ?_)
        · first
          | (exfalso; omega)
          |  (refine r_iload_n C rfl dX6_told_28 ?_
              refine r_iconstv C 4 rfl dX6_told_29 ?_
              refine t_icmp_ge C 44 (by decide) hk (show (4 : Int32).toInt = 4 from rfl) dX6_told_30 (fun c30 => ?_) (fun c30 => ?_)
              · first
                | (exfalso; omega)
                |  (refine r_iload_n C rfl dX6_told_44 ?_
                    refine r_iconstv C 4 rfl dX6_told_45 ?_
                    refine t_icmp_ne C 58 (by decide) hk (show (4 : Int32).toInt = 4 from rfl) dX6_told_46 (fun c46 => ?_) (fun c46 => ?_)
                    · first
                      | (exfalso; omega)
                      |  (refine r_iload_n C rfl dX6_told_58 ?_
                          refine r_iconstv C 5 rfl dX6_told_59 ?_
                          refine t_icmp_ne C 72 (by decide) hk (show (5 : Int32).toInt = 5 from rfl) dX6_told_60 (fun c60 => ?_) (fun c60 => ?_)
                          · first
                            | (exfalso; omega)
                            |  (refine r_iload_n C rfl dX6_told_72 ?_
                                refine r_bipush C 6 rfl dX6_told_73 ?_
                                refine t_icmp_ne C 94 (by decide) hk (show (6 : Int32).toInt = 6 from rfl) dX6_told_75 (fun c75 => ?_) (fun c75 => ?_)
                                · first
                                  | (exfalso; omega)
                                  |  (refine r_iload_n C rfl dX6_told_94 ?_
                                      refine r_bipush C 7 rfl dX6_told_95 ?_
                                      refine t_icmp_ne C 109 (by decide) hk (show (7 : Int32).toInt = 7 from rfl) dX6_told_97 (fun c97 => ?_) (fun c97 => ?_)
                                      · first
                                        | (exfalso; omega)
                                        |  (refine r_iload_n C rfl dX6_told_109 ?_
                                            refine r_bipush C 8 rfl dX6_told_110 ?_
                                            refine t_icmp_ne C 124 (by decide) hk (show (8 : Int32).toInt = 8 from rfl) dX6_told_112 (fun c112 => ?_) (fun c112 => ?_)
                                            · first
                                              | (exfalso; omega)
                                              |  (refine r_iload_n C rfl dX6_told_124 ?_
                                                  refine r_bipush C 9 rfl dX6_told_125 ?_
                                                  refine t_icmp_ne C 139 (by decide) hk (show (9 : Int32).toInt = 9 from rfl) dX6_told_127 (fun c127 => ?_) (fun c127 => ?_)
                                                  · first
                                                    | (exfalso; omega)
                                                    |  (refine r_aload_n C rfl rfl dX6_told_139 ?_
                                                        refine r_getO C dX6_told_140 fl_X6_41 rfl rfl (q_lt hs (by decide)) (sh_12_12 hs) ?_
                                                        refine r_iload_n C rfl dX6_told_143 ?_
                                                        refine r_iald C (i) (by have t := hv; omega) (by omega) dX6_told_144 rfl (q_lt hs (by decide)) ?_
                                                        exact r_iret C dX6_told_145 rfl (Nat.le_refl _) rfl rfl)
                                                  · first
                                                    | (exfalso; omega)
                                                    |  (refine r_aload_n C rfl rfl dX6_told_130 ?_
                                                        refine r_getO C dX6_told_131 fl_X6_38 rfl rfl (q_lt hs (by decide)) (sh_12_11 hs) ?_
                                                        refine r_iload_n C rfl dX6_told_134 ?_
                                                        refine r_iald C (i) (by have t := hv; omega) (by omega) dX6_told_135 rfl (q_lt hs (by decide)) ?_
                                                        refine r_goto C 145 (by decide) dX6_told_136 ?_
                                                        exact r_iret C dX6_told_145 rfl (Nat.le_refl _) rfl rfl))
                                            · first
                                              | (exfalso; omega)
                                              |  (refine r_aload_n C rfl rfl dX6_told_115 ?_
                                                  refine r_getO C dX6_told_116 fl_X6_31 rfl rfl (q_lt hs (by decide)) (sh_12_9 hs) ?_
                                                  refine r_iload_n C rfl dX6_told_119 ?_
                                                  refine r_iald C (i) (by have t := hv; omega) (by omega) dX6_told_120 rfl (q_lt hs (by decide)) ?_
                                                  refine r_goto C 145 (by decide) dX6_told_121 ?_
                                                  exact r_iret C dX6_told_145 rfl (Nat.le_refl _) rfl rfl))
                                      · first
                                        | (exfalso; omega)
                                        |  (refine r_aload_n C rfl rfl dX6_told_100 ?_
                                            refine r_getO C dX6_told_101 fl_X6_28 rfl rfl (q_lt hs (by decide)) (sh_12_8 hs) ?_
                                            refine r_iload_n C rfl dX6_told_104 ?_
                                            refine r_iald C (i) (by have t := hv; omega) (by omega) dX6_told_105 rfl (q_lt hs (by decide)) ?_
                                            refine r_goto C 145 (by decide) dX6_told_106 ?_
                                            exact r_iret C dX6_told_145 rfl (Nat.le_refl _) rfl rfl))
                                · first
                                  | (exfalso; omega)
                                  |  (refine r_aload_n C rfl rfl dX6_told_78 ?_
                                      refine r_iload_n C rfl dX6_told_79 ?_
                                      refine r_callV C (sp_isDueM G (by exact hs) _ hv (by omega)) kv_X6_isDue kn_X6_isDue rfl dX6_told_80 cl_X6_125 ⟨Nat.le_of_ble_eq_true rfl, Nat.le_of_ble_eq_true rfl⟩ (by decide) rfl rfl (q_lt hs (by decide)) (Nat.le_refl _) rfl (Nat.le_of_ble_eq_true rfl) ?_
                                      refine t_ifb_eq C 90 (by decide) dX6_told_83 (fun c83 => ?_) (fun c83 => ?_)
                                      · first
                                        | (exfalso; omega)
                                        |  (refine r_iconstv C 0 rfl dX6_told_90 ?_
                                            refine r_goto C 145 (by decide) dX6_told_91 ?_
                                            exact r_iret C dX6_told_145 rfl (Nat.le_refl _) rfl rfl)
                                      · first
                                        | (exfalso; omega)
                                        |  (refine r_iconstv C 1 rfl dX6_told_86 ?_
                                            refine r_goto C 145 (by decide) dX6_told_87 ?_
                                            exact r_iret C dX6_told_145 rfl (Nat.le_refl _) rfl rfl)))
                          · first
                            | (exfalso; omega)
                            |  (refine r_aload_n C rfl rfl dX6_told_63 ?_
                                refine r_getO C dX6_told_64 fl_X6_25 rfl rfl (q_lt hs (by decide)) (sh_12_7 hs) ?_
                                refine r_iload_n C rfl dX6_told_67 ?_
                                refine r_iald C (i) (by have t := hv; omega) (by omega) dX6_told_68 rfl (q_lt hs (by decide)) ?_
                                refine r_goto C 145 (by decide) dX6_told_69 ?_
                                exact r_iret C dX6_told_145 rfl (Nat.le_refl _) rfl rfl))
                    · first
                      | (exfalso; omega)
                      |  (refine r_aload_n C rfl rfl dX6_told_49 ?_
                          refine r_getO C dX6_told_50 fl_X6_22 rfl rfl (q_lt hs (by decide)) (sh_12_6 hs) ?_
                          refine r_iload_n C rfl dX6_told_53 ?_
                          refine r_iald C (i) (by have t := hv; omega) (by omega) dX6_told_54 rfl (q_lt hs (by decide)) ?_
                          refine r_goto C 145 (by decide) dX6_told_55 ?_
                          exact r_iret C dX6_told_145 rfl (Nat.le_refl _) rfl rfl))
              · first
                | (exfalso; omega)
                |  (refine r_aload_n C rfl rfl dX6_told_33 ?_
                    refine r_getO C dX6_told_34 fl_X6_19 rfl rfl (q_lt hs (by decide)) (sh_12_5 hs) ?_
                    refine r_iconstv C 4 rfl dX6_told_37 ?_
                    refine r_iload_n C rfl dX6_told_38 ?_
                    refine r_imul C dX6_told_39 ?_
                    refine r_iload_n C rfl dX6_told_40 ?_
                    refine r_iadd C dX6_told_41 ?_
                    refine r_iald C (((4) * (i)) + (8)) (by have t := (tA (tM (show (4 : Int32).toInt = 4 from rfl) hv (by omega)) hk (by omega)); omega) (by omega) dX6_told_42 rfl (q_lt hs (by decide)) ?_
                    exact r_iret C dX6_told_43 rfl (Nat.le_refl _) rfl rfl))
        · first
          | (exfalso; omega)
          |  (refine r_ldc C _ lc_X6_106 dX6_told_25 ?_
              exact r_iret C dX6_told_27 rfl (Nat.le_refl _) rfl rfl))

set_option maxHeartbeats 4000000 in
set_option maxRecDepth 100000 in
theorem c_told9 (G : oG) {h : oH} {n : Nat} (hh : oHs h n) (v : Int32) {i : Nat} (hi : i < n) (hv : v.toInt = (i : Int)) (x : Int32) (hk : x.toInt = 9) : oSp G mX5_told [.ref 0, .int v, .int x] h (some (.int (hI h (hid i) 13))) h := by
  refine oSp.intro [some (.ref 0), some (.int v), some (.int x), none] rfl (Nat.le_of_ble_eq_true rfl) (plainFor_of_name (by decide +kernel)) (Nat.le_refl _) ?_
  intro p l e R s m args below meth c C
  refine r_aload_n C rfl rfl dX5_told_0 ?_
  refine r_iload_n C rfl dX5_told_1 ?_
  refine r_callV C (sp_houseAt G (by exact hh) _ hi hv) kv_X5_houseAt kn_X5_houseAt rfl dX5_told_2 cl_X5_77 ⟨Nat.le_of_ble_eq_true rfl, Nat.le_of_ble_eq_true rfl⟩ (by decide) rfl rfl (q_lt hh.1 (by decide)) (Nat.le_refl _) rfl (Nat.le_of_ble_eq_true rfl) ?_
  refine r_astore_n C rfl rfl (Nat.le_of_ble_eq_true rfl) dX5_told_5 ?_
  refine r_aload_n C rfl rfl dX5_told_6 ?_
  refine r_ifnonnull C 13 (by decide) dX5_told_7 ?_
  refine r_iload_n C rfl dX5_told_13 ?_
  refine r_tableIn C 133 (by rw [hk]; decide) (by rw [hk]; decide) (by rw [hk]; rfl) (by decide) dX5_told_14 ?_
  refine r_aload_n C rfl rfl dX5_told_133 ?_
  refine r_getI C dX5_told_134 fl_X5_84 (tg_hid i) (oHs.lt hh hi) ?_
  exact r_iret C dX5_told_137 rfl (Nat.le_refl _) rfl rfl

set_option maxHeartbeats 4000000 in
set_option maxRecDepth 100000 in
theorem m_told9 (G : oG) {h : oH} (hs : oSh h) {n : Nat} (hn : (hI h 12 1).toInt = (n : Int)) (hn24 : n ≤ 24) (v : Int32) {i : Nat} (hi : i < n) (hv : v.toInt = (i : Int)) (x : Int32) (hk : x.toInt = 9) : oSp G mX6_told [.ref 12, .int v, .int x] h (some (.int (hI h 22 i))) (sI h 12 0 0) := by
  refine oSp.intro [some (.ref 12), some (.int v), some (.int x)] rfl (Nat.le_of_ble_eq_true rfl) (plainFor_of_name (by decide +kernel)) (Nat.le_refl _) ?_
  intro p l e R s m args below meth c C
  refine r_aload_n C rfl rfl dX6_told_0 ?_
  refine r_iconstv C 0 rfl dX6_told_1 ?_
  refine r_putI C dX6_told_2 fl_X6_90 rfl (q_lt hs (by decide)) (Or.inl rfl) ?_
  refine r_aload_n C rfl rfl dX6_told_5 ?_
  refine r_iload_n C rfl dX6_told_6 ?_
  refine r_callV C (sp_isHouse G (by exact hs) (by exact hn) hn24 _) kv_X6_isHouse kn_X6_isHouse rfl dX6_told_7 cl_X6_108 ⟨Nat.le_of_ble_eq_true rfl, Nat.le_of_ble_eq_true rfl⟩ (by decide) rfl rfl (q_lt hs (by decide)) (Nat.le_refl _) rfl (Nat.le_of_ble_eq_true rfl) ?_
  refine t_ifb_eq C 25 (by decide) dX6_told_10 (fun c10 => ?_) (fun c10 => ?_)
  · first
    | (exfalso; omega)
    |  (refine r_ldc C _ lc_X6_106 dX6_told_25 ?_
        exact r_iret C dX6_told_27 rfl (Nat.le_refl _) rfl rfl)
  · first
    | (exfalso; omega)
    |  (refine r_iload_n C rfl dX6_told_13 ?_
        refine r_i2l C dX6_told_14 ?_
        refine r_lconst C 0 rfl dX6_told_15 ?_
        refine r_ldc2 C _ ll_X6_128 dX6_told_16 ?_
        refine r_callS C (sp_in G (tI2L hk) (show (0 : Int64).toInt = 0 from rfl) (show (10 : Int64).toInt = 10 from rfl)) ks_X6_in kn_X6_in rfl dX6_told_19 cl_X6_96 ⟨Nat.le_of_ble_eq_true rfl, Nat.le_of_ble_eq_true rfl⟩ (Nat.le_refl _) rfl (Nat.le_of_ble_eq_true rfl) ?_
        refine t_ifb_ne C 28 (by decide) dX6_told_22 (fun c22 => ?_) (fun c22 => ?_)
        · first
          | (exfalso; omega)
          |  (refine r_iload_n C rfl dX6_told_28 ?_
              refine r_iconstv C 4 rfl dX6_told_29 ?_
              refine t_icmp_ge C 44 (by decide) hk (show (4 : Int32).toInt = 4 from rfl) dX6_told_30 (fun c30 => ?_) (fun c30 => ?_)
              · first
                | (exfalso; omega)
                |  (refine r_iload_n C rfl dX6_told_44 ?_
                    refine r_iconstv C 4 rfl dX6_told_45 ?_
                    refine t_icmp_ne C 58 (by decide) hk (show (4 : Int32).toInt = 4 from rfl) dX6_told_46 (fun c46 => ?_) (fun c46 => ?_)
                    · first
                      | (exfalso; omega)
                      |  (refine r_iload_n C rfl dX6_told_58 ?_
                          refine r_iconstv C 5 rfl dX6_told_59 ?_
                          refine t_icmp_ne C 72 (by decide) hk (show (5 : Int32).toInt = 5 from rfl) dX6_told_60 (fun c60 => ?_) (fun c60 => ?_)
                          · first
                            | (exfalso; omega)
                            |  (refine r_iload_n C rfl dX6_told_72 ?_
                                refine r_bipush C 6 rfl dX6_told_73 ?_
                                refine t_icmp_ne C 94 (by decide) hk (show (6 : Int32).toInt = 6 from rfl) dX6_told_75 (fun c75 => ?_) (fun c75 => ?_)
                                · first
                                  | (exfalso; omega)
                                  |  (refine r_iload_n C rfl dX6_told_94 ?_
                                      refine r_bipush C 7 rfl dX6_told_95 ?_
                                      refine t_icmp_ne C 109 (by decide) hk (show (7 : Int32).toInt = 7 from rfl) dX6_told_97 (fun c97 => ?_) (fun c97 => ?_)
                                      · first
                                        | (exfalso; omega)
                                        |  (refine r_iload_n C rfl dX6_told_109 ?_
                                            refine r_bipush C 8 rfl dX6_told_110 ?_
                                            refine t_icmp_ne C 124 (by decide) hk (show (8 : Int32).toInt = 8 from rfl) dX6_told_112 (fun c112 => ?_) (fun c112 => ?_)
                                            · first
                                              | (exfalso; omega)
                                              |  (refine r_iload_n C rfl dX6_told_124 ?_
                                                  refine r_bipush C 9 rfl dX6_told_125 ?_
                                                  refine t_icmp_ne C 139 (by decide) hk (show (9 : Int32).toInt = 9 from rfl) dX6_told_127 (fun c127 => ?_) (fun c127 => ?_)
                                                  · first
                                                    | (exfalso; omega)
                                                    |  (refine r_aload_n C rfl rfl dX6_told_139 ?_
                                                        refine r_getO C dX6_told_140 fl_X6_41 rfl rfl (q_lt hs (by decide)) (sh_12_12 hs) ?_
                                                        refine r_iload_n C rfl dX6_told_143 ?_
                                                        refine r_iald C (i) (by have t := hv; omega) (by omega) dX6_told_144 rfl (q_lt hs (by decide)) ?_
                                                        exact r_iret C dX6_told_145 rfl (Nat.le_refl _) rfl rfl)
                                                  · first
                                                    | (exfalso; omega)
                                                    |  (refine r_aload_n C rfl rfl dX6_told_130 ?_
                                                        refine r_getO C dX6_told_131 fl_X6_38 rfl rfl (q_lt hs (by decide)) (sh_12_11 hs) ?_
                                                        refine r_iload_n C rfl dX6_told_134 ?_
                                                        refine r_iald C (i) (by have t := hv; omega) (by omega) dX6_told_135 rfl (q_lt hs (by decide)) ?_
                                                        refine r_goto C 145 (by decide) dX6_told_136 ?_
                                                        exact r_iret C dX6_told_145 rfl (Nat.le_refl _) rfl rfl))
                                            · first
                                              | (exfalso; omega)
                                              |  (refine r_aload_n C rfl rfl dX6_told_115 ?_
                                                  refine r_getO C dX6_told_116 fl_X6_31 rfl rfl (q_lt hs (by decide)) (sh_12_9 hs) ?_
                                                  refine r_iload_n C rfl dX6_told_119 ?_
                                                  refine r_iald C (i) (by have t := hv; omega) (by omega) dX6_told_120 rfl (q_lt hs (by decide)) ?_
                                                  refine r_goto C 145 (by decide) dX6_told_121 ?_
                                                  exact r_iret C dX6_told_145 rfl (Nat.le_refl _) rfl rfl))
                                      · first
                                        | (exfalso; omega)
                                        |  (refine r_aload_n C rfl rfl dX6_told_100 ?_
                                            refine r_getO C dX6_told_101 fl_X6_28 rfl rfl (q_lt hs (by decide)) (sh_12_8 hs) ?_
                                            refine r_iload_n C rfl dX6_told_104 ?_
                                            refine r_iald C (i) (by have t := hv; omega) (by omega) dX6_told_105 rfl (q_lt hs (by decide)) ?_
                                            refine r_goto C 145 (by decide) dX6_told_106 ?_
                                            exact r_iret C dX6_told_145 rfl (Nat.le_refl _) rfl rfl))
                                · first
                                  | (exfalso; omega)
                                  |  (refine r_aload_n C rfl rfl dX6_told_78 ?_
                                      refine r_iload_n C rfl dX6_told_79 ?_
                                      refine r_callV C (sp_isDueM G (by exact hs) _ hv (by omega)) kv_X6_isDue kn_X6_isDue rfl dX6_told_80 cl_X6_125 ⟨Nat.le_of_ble_eq_true rfl, Nat.le_of_ble_eq_true rfl⟩ (by decide) rfl rfl (q_lt hs (by decide)) (Nat.le_refl _) rfl (Nat.le_of_ble_eq_true rfl) ?_
                                      refine t_ifb_eq C 90 (by decide) dX6_told_83 (fun c83 => ?_) (fun c83 => ?_)
                                      · first
                                        | (exfalso; omega)
                                        |  (refine r_iconstv C 0 rfl dX6_told_90 ?_
                                            refine r_goto C 145 (by decide) dX6_told_91 ?_
                                            exact r_iret C dX6_told_145 rfl (Nat.le_refl _) rfl rfl)
                                      · first
                                        | (exfalso; omega)
                                        |  (refine r_iconstv C 1 rfl dX6_told_86 ?_
                                            refine r_goto C 145 (by decide) dX6_told_87 ?_
                                            exact r_iret C dX6_told_145 rfl (Nat.le_refl _) rfl rfl)))
                          · first
                            | (exfalso; omega)
                            |  (refine r_aload_n C rfl rfl dX6_told_63 ?_
                                refine r_getO C dX6_told_64 fl_X6_25 rfl rfl (q_lt hs (by decide)) (sh_12_7 hs) ?_
                                refine r_iload_n C rfl dX6_told_67 ?_
                                refine r_iald C (i) (by have t := hv; omega) (by omega) dX6_told_68 rfl (q_lt hs (by decide)) ?_
                                refine r_goto C 145 (by decide) dX6_told_69 ?_
                                exact r_iret C dX6_told_145 rfl (Nat.le_refl _) rfl rfl))
                    · first
                      | (exfalso; omega)
                      |  (refine r_aload_n C rfl rfl dX6_told_49 ?_
                          refine r_getO C dX6_told_50 fl_X6_22 rfl rfl (q_lt hs (by decide)) (sh_12_6 hs) ?_
                          refine r_iload_n C rfl dX6_told_53 ?_
                          refine r_iald C (i) (by have t := hv; omega) (by omega) dX6_told_54 rfl (q_lt hs (by decide)) ?_
                          refine r_goto C 145 (by decide) dX6_told_55 ?_
                          exact r_iret C dX6_told_145 rfl (Nat.le_refl _) rfl rfl))
              · first
                | (exfalso; omega)
                |  (refine r_aload_n C rfl rfl dX6_told_33 ?_
                    refine r_getO C dX6_told_34 fl_X6_19 rfl rfl (q_lt hs (by decide)) (sh_12_5 hs) ?_
                    refine r_iconstv C 4 rfl dX6_told_37 ?_
                    refine r_iload_n C rfl dX6_told_38 ?_
                    refine r_imul C dX6_told_39 ?_
                    refine r_iload_n C rfl dX6_told_40 ?_
                    refine r_iadd C dX6_told_41 ?_
                    refine r_iald C (((4) * (i)) + (9)) (by have t := (tA (tM (show (4 : Int32).toInt = 4 from rfl) hv (by omega)) hk (by omega)); omega) (by omega) dX6_told_42 rfl (q_lt hs (by decide)) ?_
                    exact r_iret C dX6_told_43 rfl (Nat.le_refl _) rfl rfl))
        · first
          | (exfalso; omega)
          |  (refine r_ldc C _ lc_X6_106 dX6_told_25 ?_
              exact r_iret C dX6_told_27 rfl (Nat.le_refl _) rfl rfl))

set_option maxHeartbeats 4000000 in
set_option maxRecDepth 100000 in
theorem c_told10 (G : oG) {h : oH} {n : Nat} (hh : oHs h n) (v : Int32) {i : Nat} (hi : i < n) (hv : v.toInt = (i : Int)) (x : Int32) (hk : x.toInt = 10) : oSp G mX5_told [.ref 0, .int v, .int x] h (some (.int (hI h (hid i) 14))) h := by
  refine oSp.intro [some (.ref 0), some (.int v), some (.int x), none] rfl (Nat.le_of_ble_eq_true rfl) (plainFor_of_name (by decide +kernel)) (Nat.le_refl _) ?_
  intro p l e R s m args below meth c C
  refine r_aload_n C rfl rfl dX5_told_0 ?_
  refine r_iload_n C rfl dX5_told_1 ?_
  refine r_callV C (sp_houseAt G (by exact hh) _ hi hv) kv_X5_houseAt kn_X5_houseAt rfl dX5_told_2 cl_X5_77 ⟨Nat.le_of_ble_eq_true rfl, Nat.le_of_ble_eq_true rfl⟩ (by decide) rfl rfl (q_lt hh.1 (by decide)) (Nat.le_refl _) rfl (Nat.le_of_ble_eq_true rfl) ?_
  refine r_astore_n C rfl rfl (Nat.le_of_ble_eq_true rfl) dX5_told_5 ?_
  refine r_aload_n C rfl rfl dX5_told_6 ?_
  refine r_ifnonnull C 13 (by decide) dX5_told_7 ?_
  refine r_iload_n C rfl dX5_told_13 ?_
  refine r_tableIn C 138 (by rw [hk]; decide) (by rw [hk]; decide) (by rw [hk]; rfl) (by decide) dX5_told_14 ?_
  refine r_aload_n C rfl rfl dX5_told_138 ?_
  refine r_getI C dX5_told_139 fl_X5_125 (tg_hid i) (oHs.lt hh hi) ?_
  exact r_iret C dX5_told_142 rfl (Nat.le_refl _) rfl rfl

set_option maxHeartbeats 4000000 in
set_option maxRecDepth 100000 in
theorem m_told10 (G : oG) {h : oH} (hs : oSh h) {n : Nat} (hn : (hI h 12 1).toInt = (n : Int)) (hn24 : n ≤ 24) (v : Int32) {i : Nat} (hi : i < n) (hv : v.toInt = (i : Int)) (x : Int32) (hk : x.toInt = 10) : oSp G mX6_told [.ref 12, .int v, .int x] h (some (.int (hI h 23 i))) (sI h 12 0 0) := by
  refine oSp.intro [some (.ref 12), some (.int v), some (.int x)] rfl (Nat.le_of_ble_eq_true rfl) (plainFor_of_name (by decide +kernel)) (Nat.le_refl _) ?_
  intro p l e R s m args below meth c C
  refine r_aload_n C rfl rfl dX6_told_0 ?_
  refine r_iconstv C 0 rfl dX6_told_1 ?_
  refine r_putI C dX6_told_2 fl_X6_90 rfl (q_lt hs (by decide)) (Or.inl rfl) ?_
  refine r_aload_n C rfl rfl dX6_told_5 ?_
  refine r_iload_n C rfl dX6_told_6 ?_
  refine r_callV C (sp_isHouse G (by exact hs) (by exact hn) hn24 _) kv_X6_isHouse kn_X6_isHouse rfl dX6_told_7 cl_X6_108 ⟨Nat.le_of_ble_eq_true rfl, Nat.le_of_ble_eq_true rfl⟩ (by decide) rfl rfl (q_lt hs (by decide)) (Nat.le_refl _) rfl (Nat.le_of_ble_eq_true rfl) ?_
  refine t_ifb_eq C 25 (by decide) dX6_told_10 (fun c10 => ?_) (fun c10 => ?_)
  · first
    | (exfalso; omega)
    |  (refine r_ldc C _ lc_X6_106 dX6_told_25 ?_
        exact r_iret C dX6_told_27 rfl (Nat.le_refl _) rfl rfl)
  · first
    | (exfalso; omega)
    |  (refine r_iload_n C rfl dX6_told_13 ?_
        refine r_i2l C dX6_told_14 ?_
        refine r_lconst C 0 rfl dX6_told_15 ?_
        refine r_ldc2 C _ ll_X6_128 dX6_told_16 ?_
        refine r_callS C (sp_in G (tI2L hk) (show (0 : Int64).toInt = 0 from rfl) (show (10 : Int64).toInt = 10 from rfl)) ks_X6_in kn_X6_in rfl dX6_told_19 cl_X6_96 ⟨Nat.le_of_ble_eq_true rfl, Nat.le_of_ble_eq_true rfl⟩ (Nat.le_refl _) rfl (Nat.le_of_ble_eq_true rfl) ?_
        refine t_ifb_ne C 28 (by decide) dX6_told_22 (fun c22 => ?_) (fun c22 => ?_)
        · first
          | (exfalso; omega)
          |  (refine r_iload_n C rfl dX6_told_28 ?_
              refine r_iconstv C 4 rfl dX6_told_29 ?_
              refine t_icmp_ge C 44 (by decide) hk (show (4 : Int32).toInt = 4 from rfl) dX6_told_30 (fun c30 => ?_) (fun c30 => ?_)
              · first
                | (exfalso; omega)
                |  (refine r_iload_n C rfl dX6_told_44 ?_
                    refine r_iconstv C 4 rfl dX6_told_45 ?_
                    refine t_icmp_ne C 58 (by decide) hk (show (4 : Int32).toInt = 4 from rfl) dX6_told_46 (fun c46 => ?_) (fun c46 => ?_)
                    · first
                      | (exfalso; omega)
                      |  (refine r_iload_n C rfl dX6_told_58 ?_
                          refine r_iconstv C 5 rfl dX6_told_59 ?_
                          refine t_icmp_ne C 72 (by decide) hk (show (5 : Int32).toInt = 5 from rfl) dX6_told_60 (fun c60 => ?_) (fun c60 => ?_)
                          · first
                            | (exfalso; omega)
                            |  (refine r_iload_n C rfl dX6_told_72 ?_
                                refine r_bipush C 6 rfl dX6_told_73 ?_
                                refine t_icmp_ne C 94 (by decide) hk (show (6 : Int32).toInt = 6 from rfl) dX6_told_75 (fun c75 => ?_) (fun c75 => ?_)
                                · first
                                  | (exfalso; omega)
                                  |  (refine r_iload_n C rfl dX6_told_94 ?_
                                      refine r_bipush C 7 rfl dX6_told_95 ?_
                                      refine t_icmp_ne C 109 (by decide) hk (show (7 : Int32).toInt = 7 from rfl) dX6_told_97 (fun c97 => ?_) (fun c97 => ?_)
                                      · first
                                        | (exfalso; omega)
                                        |  (refine r_iload_n C rfl dX6_told_109 ?_
                                            refine r_bipush C 8 rfl dX6_told_110 ?_
                                            refine t_icmp_ne C 124 (by decide) hk (show (8 : Int32).toInt = 8 from rfl) dX6_told_112 (fun c112 => ?_) (fun c112 => ?_)
                                            · first
                                              | (exfalso; omega)
                                              |  (refine r_iload_n C rfl dX6_told_124 ?_
                                                  refine r_bipush C 9 rfl dX6_told_125 ?_
                                                  refine t_icmp_ne C 139 (by decide) hk (show (9 : Int32).toInt = 9 from rfl) dX6_told_127 (fun c127 => ?_) (fun c127 => ?_)
                                                  · first
                                                    | (exfalso; omega)
                                                    |  (refine r_aload_n C rfl rfl dX6_told_139 ?_
                                                        refine r_getO C dX6_told_140 fl_X6_41 rfl rfl (q_lt hs (by decide)) (sh_12_12 hs) ?_
                                                        refine r_iload_n C rfl dX6_told_143 ?_
                                                        refine r_iald C (i) (by have t := hv; omega) (by omega) dX6_told_144 rfl (q_lt hs (by decide)) ?_
                                                        exact r_iret C dX6_told_145 rfl (Nat.le_refl _) rfl rfl)
                                                  · first
                                                    | (exfalso; omega)
                                                    |  (refine r_aload_n C rfl rfl dX6_told_130 ?_
                                                        refine r_getO C dX6_told_131 fl_X6_38 rfl rfl (q_lt hs (by decide)) (sh_12_11 hs) ?_
                                                        refine r_iload_n C rfl dX6_told_134 ?_
                                                        refine r_iald C (i) (by have t := hv; omega) (by omega) dX6_told_135 rfl (q_lt hs (by decide)) ?_
                                                        refine r_goto C 145 (by decide) dX6_told_136 ?_
                                                        exact r_iret C dX6_told_145 rfl (Nat.le_refl _) rfl rfl))
                                            · first
                                              | (exfalso; omega)
                                              |  (refine r_aload_n C rfl rfl dX6_told_115 ?_
                                                  refine r_getO C dX6_told_116 fl_X6_31 rfl rfl (q_lt hs (by decide)) (sh_12_9 hs) ?_
                                                  refine r_iload_n C rfl dX6_told_119 ?_
                                                  refine r_iald C (i) (by have t := hv; omega) (by omega) dX6_told_120 rfl (q_lt hs (by decide)) ?_
                                                  refine r_goto C 145 (by decide) dX6_told_121 ?_
                                                  exact r_iret C dX6_told_145 rfl (Nat.le_refl _) rfl rfl))
                                      · first
                                        | (exfalso; omega)
                                        |  (refine r_aload_n C rfl rfl dX6_told_100 ?_
                                            refine r_getO C dX6_told_101 fl_X6_28 rfl rfl (q_lt hs (by decide)) (sh_12_8 hs) ?_
                                            refine r_iload_n C rfl dX6_told_104 ?_
                                            refine r_iald C (i) (by have t := hv; omega) (by omega) dX6_told_105 rfl (q_lt hs (by decide)) ?_
                                            refine r_goto C 145 (by decide) dX6_told_106 ?_
                                            exact r_iret C dX6_told_145 rfl (Nat.le_refl _) rfl rfl))
                                · first
                                  | (exfalso; omega)
                                  |  (refine r_aload_n C rfl rfl dX6_told_78 ?_
                                      refine r_iload_n C rfl dX6_told_79 ?_
                                      refine r_callV C (sp_isDueM G (by exact hs) _ hv (by omega)) kv_X6_isDue kn_X6_isDue rfl dX6_told_80 cl_X6_125 ⟨Nat.le_of_ble_eq_true rfl, Nat.le_of_ble_eq_true rfl⟩ (by decide) rfl rfl (q_lt hs (by decide)) (Nat.le_refl _) rfl (Nat.le_of_ble_eq_true rfl) ?_
                                      refine t_ifb_eq C 90 (by decide) dX6_told_83 (fun c83 => ?_) (fun c83 => ?_)
                                      · first
                                        | (exfalso; omega)
                                        |  (refine r_iconstv C 0 rfl dX6_told_90 ?_
                                            refine r_goto C 145 (by decide) dX6_told_91 ?_
                                            exact r_iret C dX6_told_145 rfl (Nat.le_refl _) rfl rfl)
                                      · first
                                        | (exfalso; omega)
                                        |  (refine r_iconstv C 1 rfl dX6_told_86 ?_
                                            refine r_goto C 145 (by decide) dX6_told_87 ?_
                                            exact r_iret C dX6_told_145 rfl (Nat.le_refl _) rfl rfl)))
                          · first
                            | (exfalso; omega)
                            |  (refine r_aload_n C rfl rfl dX6_told_63 ?_
                                refine r_getO C dX6_told_64 fl_X6_25 rfl rfl (q_lt hs (by decide)) (sh_12_7 hs) ?_
                                refine r_iload_n C rfl dX6_told_67 ?_
                                refine r_iald C (i) (by have t := hv; omega) (by omega) dX6_told_68 rfl (q_lt hs (by decide)) ?_
                                refine r_goto C 145 (by decide) dX6_told_69 ?_
                                exact r_iret C dX6_told_145 rfl (Nat.le_refl _) rfl rfl))
                    · first
                      | (exfalso; omega)
                      |  (refine r_aload_n C rfl rfl dX6_told_49 ?_
                          refine r_getO C dX6_told_50 fl_X6_22 rfl rfl (q_lt hs (by decide)) (sh_12_6 hs) ?_
                          refine r_iload_n C rfl dX6_told_53 ?_
                          refine r_iald C (i) (by have t := hv; omega) (by omega) dX6_told_54 rfl (q_lt hs (by decide)) ?_
                          refine r_goto C 145 (by decide) dX6_told_55 ?_
                          exact r_iret C dX6_told_145 rfl (Nat.le_refl _) rfl rfl))
              · first
                | (exfalso; omega)
                |  (refine r_aload_n C rfl rfl dX6_told_33 ?_
                    refine r_getO C dX6_told_34 fl_X6_19 rfl rfl (q_lt hs (by decide)) (sh_12_5 hs) ?_
                    refine r_iconstv C 4 rfl dX6_told_37 ?_
                    refine r_iload_n C rfl dX6_told_38 ?_
                    refine r_imul C dX6_told_39 ?_
                    refine r_iload_n C rfl dX6_told_40 ?_
                    refine r_iadd C dX6_told_41 ?_
                    refine r_iald C (((4) * (i)) + (10)) (by have t := (tA (tM (show (4 : Int32).toInt = 4 from rfl) hv (by omega)) hk (by omega)); omega) (by omega) dX6_told_42 rfl (q_lt hs (by decide)) ?_
                    exact r_iret C dX6_told_43 rfl (Nat.le_refl _) rfl rfl))
        · first
          | (exfalso; omega)
          |  (refine r_ldc C _ lc_X6_106 dX6_told_25 ?_
              exact r_iret C dX6_told_27 rfl (Nat.le_refl _) rfl rfl))

set_option maxHeartbeats 4000000 in
set_option maxRecDepth 100000 in
theorem c_toldX (G : oG) {h : oH} {n : Nat} (hh : oHs h n) (v : Int32) {i : Nat} (hi : i < n) (hv : v.toInt = (i : Int)) (x : Int32) (hk : ¬ (0 ≤ x.toInt ∧ x.toInt ≤ 10)) : oSp G mX5_told [.ref 0, .int v, .int x] h (some (.int (-1000001))) h := by
  refine oSp.intro [some (.ref 0), some (.int v), some (.int x), none] rfl (Nat.le_of_ble_eq_true rfl) (plainFor_of_name (by decide +kernel)) (Nat.le_refl _) ?_
  intro p l e R s m args below meth c C
  refine r_aload_n C rfl rfl dX5_told_0 ?_
  refine r_iload_n C rfl dX5_told_1 ?_
  refine r_callV C (sp_houseAt G (by exact hh) _ hi hv) kv_X5_houseAt kn_X5_houseAt rfl dX5_told_2 cl_X5_77 ⟨Nat.le_of_ble_eq_true rfl, Nat.le_of_ble_eq_true rfl⟩ (by decide) rfl rfl (q_lt hh.1 (by decide)) (Nat.le_refl _) rfl (Nat.le_of_ble_eq_true rfl) ?_
  refine r_astore_n C rfl rfl (Nat.le_of_ble_eq_true rfl) dX5_told_5 ?_
  refine r_aload_n C rfl rfl dX5_told_6 ?_
  refine r_ifnonnull C 13 (by decide) dX5_told_7 ?_
  refine r_iload_n C rfl dX5_told_13 ?_
  refine r_tableOut C 143 (by omega) (by decide) dX5_told_14 ?_
  refine r_ldc C _ lc_X5_72 dX5_told_143 ?_
  exact r_iret C dX5_told_145 rfl (Nat.le_refl _) rfl rfl

set_option maxHeartbeats 4000000 in
set_option maxRecDepth 100000 in
theorem m_toldX (G : oG) {h : oH} (hs : oSh h) {n : Nat} (hn : (hI h 12 1).toInt = (n : Int)) (hn24 : n ≤ 24) (v : Int32) {i : Nat} (hi : i < n) (hv : v.toInt = (i : Int)) (x : Int32) (hk : ¬ (0 ≤ x.toInt ∧ x.toInt ≤ 10)) : oSp G mX6_told [.ref 12, .int v, .int x] h (some (.int (-1000001))) (sI h 12 0 0) := by
  refine oSp.intro [some (.ref 12), some (.int v), some (.int x)] rfl (Nat.le_of_ble_eq_true rfl) (plainFor_of_name (by decide +kernel)) (Nat.le_refl _) ?_
  intro p l e R s m args below meth c C
  refine r_aload_n C rfl rfl dX6_told_0 ?_
  refine r_iconstv C 0 rfl dX6_told_1 ?_
  refine r_putI C dX6_told_2 fl_X6_90 rfl (q_lt hs (by decide)) (Or.inl rfl) ?_
  refine r_aload_n C rfl rfl dX6_told_5 ?_
  refine r_iload_n C rfl dX6_told_6 ?_
  refine r_callV C (sp_isHouse G (by exact hs) (by exact hn) hn24 _) kv_X6_isHouse kn_X6_isHouse rfl dX6_told_7 cl_X6_108 ⟨Nat.le_of_ble_eq_true rfl, Nat.le_of_ble_eq_true rfl⟩ (by decide) rfl rfl (q_lt hs (by decide)) (Nat.le_refl _) rfl (Nat.le_of_ble_eq_true rfl) ?_
  refine t_ifb_eq C 25 (by decide) dX6_told_10 (fun c10 => ?_) (fun c10 => ?_)
  · first
    | (exfalso; omega)
    |  (refine r_ldc C _ lc_X6_106 dX6_told_25 ?_
        exact r_iret C dX6_told_27 rfl (Nat.le_refl _) rfl rfl)
  · first
    | (exfalso; omega)
    |  (refine r_iload_n C rfl dX6_told_13 ?_
        refine r_i2l C dX6_told_14 ?_
        refine r_lconst C 0 rfl dX6_told_15 ?_
        refine r_ldc2 C _ ll_X6_128 dX6_told_16 ?_
        refine r_callS C (sp_in G (tI2L rfl) (show (0 : Int64).toInt = 0 from rfl) (show (10 : Int64).toInt = 10 from rfl)) ks_X6_in kn_X6_in rfl dX6_told_19 cl_X6_96 ⟨Nat.le_of_ble_eq_true rfl, Nat.le_of_ble_eq_true rfl⟩ (Nat.le_refl _) rfl (Nat.le_of_ble_eq_true rfl) ?_
        refine t_ifb_ne C 28 (by decide) dX6_told_22 (fun c22 => ?_) (fun c22 => ?_)
        · first
          | (exfalso; omega)
          |  (refine r_iload_n C rfl dX6_told_28 ?_
              refine r_iconstv C 4 rfl dX6_told_29 ?_
              refine t_icmp_ge C 44 (by decide) rfl (show (4 : Int32).toInt = 4 from rfl) dX6_told_30 (fun c30 => ?_) (fun c30 => ?_)
              · first
                | (exfalso; omega)
                |  (refine r_iload_n C rfl dX6_told_44 ?_
                    refine r_iconstv C 4 rfl dX6_told_45 ?_
                    refine t_icmp_ne C 58 (by decide) rfl (show (4 : Int32).toInt = 4 from rfl) dX6_told_46 (fun c46 => ?_) (fun c46 => ?_)
                    · first
                      | (exfalso; omega)
                      |  (refine r_iload_n C rfl dX6_told_58 ?_
                          refine r_iconstv C 5 rfl dX6_told_59 ?_
                          refine t_icmp_ne C 72 (by decide) rfl (show (5 : Int32).toInt = 5 from rfl) dX6_told_60 (fun c60 => ?_) (fun c60 => ?_)
                          · first
                            | (exfalso; omega)
                            |  (refine r_iload_n C rfl dX6_told_72 ?_
                                refine r_bipush C 6 rfl dX6_told_73 ?_
                                refine t_icmp_ne C 94 (by decide) rfl (show (6 : Int32).toInt = 6 from rfl) dX6_told_75 (fun c75 => ?_) (fun c75 => ?_)
                                · first
                                  | (exfalso; omega)
                                  |  (refine r_iload_n C rfl dX6_told_94 ?_
                                      refine r_bipush C 7 rfl dX6_told_95 ?_
                                      refine t_icmp_ne C 109 (by decide) rfl (show (7 : Int32).toInt = 7 from rfl) dX6_told_97 (fun c97 => ?_) (fun c97 => ?_)
                                      · first
                                        | (exfalso; omega)
                                        |  (refine r_iload_n C rfl dX6_told_109 ?_
                                            refine r_bipush C 8 rfl dX6_told_110 ?_
                                            refine t_icmp_ne C 124 (by decide) rfl (show (8 : Int32).toInt = 8 from rfl) dX6_told_112 (fun c112 => ?_) (fun c112 => ?_)
                                            · first
                                              | (exfalso; omega)
                                              |  (refine r_iload_n C rfl dX6_told_124 ?_
                                                  refine r_bipush C 9 rfl dX6_told_125 ?_
                                                  refine t_icmp_ne C 139 (by decide) rfl (show (9 : Int32).toInt = 9 from rfl) dX6_told_127 (fun c127 => ?_) (fun c127 => ?_)
                                                  · first
                                                    | (exfalso; omega)
                                                    |  (refine r_aload_n C rfl rfl dX6_told_139 ?_
                                                        refine r_getO C dX6_told_140 fl_X6_41 rfl rfl (q_lt hs (by decide)) (sh_12_12 hs) ?_
                                                        refine r_iload_n C rfl dX6_told_143 ?_
                                                        refine r_iald C (i) (by have t := hv; omega) (by omega) dX6_told_144 rfl (q_lt hs (by decide)) ?_
                                                        exact r_iret C dX6_told_145 rfl (Nat.le_refl _) rfl rfl)
                                                  · first
                                                    | (exfalso; omega)
                                                    |  (refine r_aload_n C rfl rfl dX6_told_130 ?_
                                                        refine r_getO C dX6_told_131 fl_X6_38 rfl rfl (q_lt hs (by decide)) (sh_12_11 hs) ?_
                                                        refine r_iload_n C rfl dX6_told_134 ?_
                                                        refine r_iald C (i) (by have t := hv; omega) (by omega) dX6_told_135 rfl (q_lt hs (by decide)) ?_
                                                        refine r_goto C 145 (by decide) dX6_told_136 ?_
                                                        exact r_iret C dX6_told_145 rfl (Nat.le_refl _) rfl rfl))
                                            · first
                                              | (exfalso; omega)
                                              |  (refine r_aload_n C rfl rfl dX6_told_115 ?_
                                                  refine r_getO C dX6_told_116 fl_X6_31 rfl rfl (q_lt hs (by decide)) (sh_12_9 hs) ?_
                                                  refine r_iload_n C rfl dX6_told_119 ?_
                                                  refine r_iald C (i) (by have t := hv; omega) (by omega) dX6_told_120 rfl (q_lt hs (by decide)) ?_
                                                  refine r_goto C 145 (by decide) dX6_told_121 ?_
                                                  exact r_iret C dX6_told_145 rfl (Nat.le_refl _) rfl rfl))
                                      · first
                                        | (exfalso; omega)
                                        |  (refine r_aload_n C rfl rfl dX6_told_100 ?_
                                            refine r_getO C dX6_told_101 fl_X6_28 rfl rfl (q_lt hs (by decide)) (sh_12_8 hs) ?_
                                            refine r_iload_n C rfl dX6_told_104 ?_
                                            refine r_iald C (i) (by have t := hv; omega) (by omega) dX6_told_105 rfl (q_lt hs (by decide)) ?_
                                            refine r_goto C 145 (by decide) dX6_told_106 ?_
                                            exact r_iret C dX6_told_145 rfl (Nat.le_refl _) rfl rfl))
                                · first
                                  | (exfalso; omega)
                                  |  (refine r_aload_n C rfl rfl dX6_told_78 ?_
                                      refine r_iload_n C rfl dX6_told_79 ?_
                                      refine r_callV C (sp_isDueM G (by exact hs) _ hv (by omega)) kv_X6_isDue kn_X6_isDue rfl dX6_told_80 cl_X6_125 ⟨Nat.le_of_ble_eq_true rfl, Nat.le_of_ble_eq_true rfl⟩ (by decide) rfl rfl (q_lt hs (by decide)) (Nat.le_refl _) rfl (Nat.le_of_ble_eq_true rfl) ?_
                                      refine t_ifb_eq C 90 (by decide) dX6_told_83 (fun c83 => ?_) (fun c83 => ?_)
                                      · first
                                        | (exfalso; omega)
                                        |  (refine r_iconstv C 0 rfl dX6_told_90 ?_
                                            refine r_goto C 145 (by decide) dX6_told_91 ?_
                                            exact r_iret C dX6_told_145 rfl (Nat.le_refl _) rfl rfl)
                                      · first
                                        | (exfalso; omega)
                                        |  (refine r_iconstv C 1 rfl dX6_told_86 ?_
                                            refine r_goto C 145 (by decide) dX6_told_87 ?_
                                            exact r_iret C dX6_told_145 rfl (Nat.le_refl _) rfl rfl)))
                          · first
                            | (exfalso; omega)
                            |  (refine r_aload_n C rfl rfl dX6_told_63 ?_
                                refine r_getO C dX6_told_64 fl_X6_25 rfl rfl (q_lt hs (by decide)) (sh_12_7 hs) ?_
                                refine r_iload_n C rfl dX6_told_67 ?_
                                refine r_iald C (i) (by have t := hv; omega) (by omega) dX6_told_68 rfl (q_lt hs (by decide)) ?_
                                refine r_goto C 145 (by decide) dX6_told_69 ?_
                                exact r_iret C dX6_told_145 rfl (Nat.le_refl _) rfl rfl))
                    · first
                      | (exfalso; omega)
                      |  (refine r_aload_n C rfl rfl dX6_told_49 ?_
                          refine r_getO C dX6_told_50 fl_X6_22 rfl rfl (q_lt hs (by decide)) (sh_12_6 hs) ?_
                          refine r_iload_n C rfl dX6_told_53 ?_
                          refine r_iald C (i) (by have t := hv; omega) (by omega) dX6_told_54 rfl (q_lt hs (by decide)) ?_
                          refine r_goto C 145 (by decide) dX6_told_55 ?_
                          exact r_iret C dX6_told_145 rfl (Nat.le_refl _) rfl rfl))
              · first
                | (exfalso; omega)
                |  (refine r_aload_n C rfl rfl dX6_told_33 ?_
                    refine r_getO C dX6_told_34 fl_X6_19 rfl rfl (q_lt hs (by decide)) (sh_12_5 hs) ?_
                    refine r_iconstv C 4 rfl dX6_told_37 ?_
                    refine r_iload_n C rfl dX6_told_38 ?_
                    refine r_imul C dX6_told_39 ?_
                    refine r_iload_n C rfl dX6_told_40 ?_
                    refine r_iadd C dX6_told_41 ?_
                    refine r_iald C (((4) * (i)) + (x.toInt)) (by have t := (tA (tM (show (4 : Int32).toInt = 4 from rfl) hv (by omega)) rfl (by omega)); omega) (by omega) dX6_told_42 rfl (q_lt hs (by decide)) ?_
                    exact r_iret C dX6_told_43 rfl (Nat.le_refl _) rfl rfl))
        · first
          | (exfalso; omega)
          |  (refine r_ldc C _ lc_X6_106 dX6_told_25 ?_
              exact r_iret C dX6_told_27 rfl (Nat.le_refl _) rfl rfl))

set_option maxHeartbeats 4000000 in
set_option maxRecDepth 100000 in
theorem c_toldN (G : oG) {h : oH} {n : Nat} (hh : oHs h n) (v : Int32) (hv : ¬ (0 ≤ v.toInt ∧ v.toInt < n)) (x : Int32) : oSp G mX5_told [.ref 0, .int v, .int x] h (some (.int (-1000001))) h := by
  refine oSp.intro [some (.ref 0), some (.int v), some (.int x), none] rfl (Nat.le_of_ble_eq_true rfl) (plainFor_of_name (by decide +kernel)) (Nat.le_refl _) ?_
  intro p l e R s m args below meth c C
  refine r_aload_n C rfl rfl dX5_told_0 ?_
  refine r_iload_n C rfl dX5_told_1 ?_
  refine r_callV C (sp_houseAtN G (by exact hh) _ hv) kv_X5_houseAt kn_X5_houseAt rfl dX5_told_2 cl_X5_77 ⟨Nat.le_of_ble_eq_true rfl, Nat.le_of_ble_eq_true rfl⟩ (by decide) rfl rfl (q_lt hh.1 (by decide)) (Nat.le_refl _) rfl (Nat.le_of_ble_eq_true rfl) ?_
  refine r_astore_n C rfl rfl (Nat.le_of_ble_eq_true rfl) dX5_told_5 ?_
  refine r_aload_n C rfl rfl dX5_told_6 ?_
  refine r_ifnonnullN C dX5_told_7 ?_
  refine r_ldc C _ lc_X5_72 dX5_told_10 ?_
  exact r_iret C dX5_told_12 rfl (Nat.le_refl _) rfl rfl

set_option maxHeartbeats 4000000 in
set_option maxRecDepth 100000 in
theorem m_toldN (G : oG) {h : oH} (hs : oSh h) {n : Nat} (hn : (hI h 12 1).toInt = (n : Int)) (hn24 : n ≤ 24) (v : Int32) (hv : ¬ (0 ≤ v.toInt ∧ v.toInt < n)) (x : Int32) : oSp G mX6_told [.ref 12, .int v, .int x] h (some (.int (-1000001))) (sI h 12 0 0) := by
  refine oSp.intro [some (.ref 12), some (.int v), some (.int x)] rfl (Nat.le_of_ble_eq_true rfl) (plainFor_of_name (by decide +kernel)) (Nat.le_refl _) ?_
  intro p l e R s m args below meth c C
  refine r_aload_n C rfl rfl dX6_told_0 ?_
  refine r_iconstv C 0 rfl dX6_told_1 ?_
  refine r_putI C dX6_told_2 fl_X6_90 rfl (q_lt hs (by decide)) (Or.inl rfl) ?_
  refine r_aload_n C rfl rfl dX6_told_5 ?_
  refine r_iload_n C rfl dX6_told_6 ?_
  refine r_callV C (sp_isHouse G (by exact hs) (by exact hn) hn24 _) kv_X6_isHouse kn_X6_isHouse rfl dX6_told_7 cl_X6_108 ⟨Nat.le_of_ble_eq_true rfl, Nat.le_of_ble_eq_true rfl⟩ (by decide) rfl rfl (q_lt hs (by decide)) (Nat.le_refl _) rfl (Nat.le_of_ble_eq_true rfl) ?_
  refine t_ifb_eq C 25 (by decide) dX6_told_10 (fun c10 => ?_) (fun c10 => ?_)
  · first
    | (exfalso; omega)
    |  (refine r_ldc C _ lc_X6_106 dX6_told_25 ?_
        exact r_iret C dX6_told_27 rfl (Nat.le_refl _) rfl rfl)
  · first
    | (exfalso; omega)
    |  (refine r_iload_n C rfl dX6_told_13 ?_
        refine r_i2l C dX6_told_14 ?_
        refine r_lconst C 0 rfl dX6_told_15 ?_
        refine r_ldc2 C _ ll_X6_128 dX6_told_16 ?_
        refine r_callS C (sp_in G (tI2L rfl) (show (0 : Int64).toInt = 0 from rfl) (show (10 : Int64).toInt = 10 from rfl)) ks_X6_in kn_X6_in rfl dX6_told_19 cl_X6_96 ⟨Nat.le_of_ble_eq_true rfl, Nat.le_of_ble_eq_true rfl⟩ (Nat.le_refl _) rfl (Nat.le_of_ble_eq_true rfl) ?_
        refine t_ifb_ne C 28 (by decide) dX6_told_22 (fun c22 => ?_) (fun c22 => ?_)
        · first
          | (exfalso; omega)
          |  (refine r_iload_n C rfl dX6_told_28 ?_
              refine r_iconstv C 4 rfl dX6_told_29 ?_
              refine t_icmp_ge C 44 (by decide) rfl (show (4 : Int32).toInt = 4 from rfl) dX6_told_30 (fun c30 => ?_) (fun c30 => ?_)
              · first
                | (exfalso; omega)
                |  (refine r_iload_n C rfl dX6_told_44 ?_
                    refine r_iconstv C 4 rfl dX6_told_45 ?_
                    refine t_icmp_ne C 58 (by decide) rfl (show (4 : Int32).toInt = 4 from rfl) dX6_told_46 (fun c46 => ?_) (fun c46 => ?_)
                    · first
                      | (exfalso; omega)
                      |  (refine r_iload_n C rfl dX6_told_58 ?_
                          refine r_iconstv C 5 rfl dX6_told_59 ?_
                          refine t_icmp_ne C 72 (by decide) rfl (show (5 : Int32).toInt = 5 from rfl) dX6_told_60 (fun c60 => ?_) (fun c60 => ?_)
                          · first
                            | (exfalso; omega)
                            |  (refine r_iload_n C rfl dX6_told_72 ?_
                                refine r_bipush C 6 rfl dX6_told_73 ?_
                                refine t_icmp_ne C 94 (by decide) rfl (show (6 : Int32).toInt = 6 from rfl) dX6_told_75 (fun c75 => ?_) (fun c75 => ?_)
                                · first
                                  | (exfalso; omega)
                                  |  (refine r_iload_n C rfl dX6_told_94 ?_
                                      refine r_bipush C 7 rfl dX6_told_95 ?_
                                      refine t_icmp_ne C 109 (by decide) rfl (show (7 : Int32).toInt = 7 from rfl) dX6_told_97 (fun c97 => ?_) (fun c97 => ?_)
                                      · first
                                        | (exfalso; omega)
                                        |  (refine r_iload_n C rfl dX6_told_109 ?_
                                            refine r_bipush C 8 rfl dX6_told_110 ?_
                                            refine t_icmp_ne C 124 (by decide) rfl (show (8 : Int32).toInt = 8 from rfl) dX6_told_112 (fun c112 => ?_) (fun c112 => ?_)
                                            · first
                                              | (exfalso; omega)
                                              |  (refine r_iload_n C rfl dX6_told_124 ?_
                                                  refine r_bipush C 9 rfl dX6_told_125 ?_
                                                  refine t_icmp_ne C 139 (by decide) rfl (show (9 : Int32).toInt = 9 from rfl) dX6_told_127 (fun c127 => ?_) (fun c127 => ?_)
                                                  · first
                                                    | (exfalso; omega)
                                                    |  (refine r_aload_n C rfl rfl dX6_told_139 ?_
                                                        refine r_getO C dX6_told_140 fl_X6_41 rfl rfl (q_lt hs (by decide)) (sh_12_12 hs) ?_
                                                        refine r_iload_n C rfl dX6_told_143 ?_
                                                        refine r_iald C (v.toInt) rfl (by omega) dX6_told_144 rfl (q_lt hs (by decide)) ?_
                                                        exact r_iret C dX6_told_145 rfl (Nat.le_refl _) rfl rfl)
                                                  · first
                                                    | (exfalso; omega)
                                                    |  (refine r_aload_n C rfl rfl dX6_told_130 ?_
                                                        refine r_getO C dX6_told_131 fl_X6_38 rfl rfl (q_lt hs (by decide)) (sh_12_11 hs) ?_
                                                        refine r_iload_n C rfl dX6_told_134 ?_
                                                        refine r_iald C (v.toInt) rfl (by omega) dX6_told_135 rfl (q_lt hs (by decide)) ?_
                                                        refine r_goto C 145 (by decide) dX6_told_136 ?_
                                                        exact r_iret C dX6_told_145 rfl (Nat.le_refl _) rfl rfl))
                                            · first
                                              | (exfalso; omega)
                                              |  (refine r_aload_n C rfl rfl dX6_told_115 ?_
                                                  refine r_getO C dX6_told_116 fl_X6_31 rfl rfl (q_lt hs (by decide)) (sh_12_9 hs) ?_
                                                  refine r_iload_n C rfl dX6_told_119 ?_
                                                  refine r_iald C (v.toInt) rfl (by omega) dX6_told_120 rfl (q_lt hs (by decide)) ?_
                                                  refine r_goto C 145 (by decide) dX6_told_121 ?_
                                                  exact r_iret C dX6_told_145 rfl (Nat.le_refl _) rfl rfl))
                                      · first
                                        | (exfalso; omega)
                                        |  (refine r_aload_n C rfl rfl dX6_told_100 ?_
                                            refine r_getO C dX6_told_101 fl_X6_28 rfl rfl (q_lt hs (by decide)) (sh_12_8 hs) ?_
                                            refine r_iload_n C rfl dX6_told_104 ?_
                                            refine r_iald C (v.toInt) rfl (by omega) dX6_told_105 rfl (q_lt hs (by decide)) ?_
                                            refine r_goto C 145 (by decide) dX6_told_106 ?_
                                            exact r_iret C dX6_told_145 rfl (Nat.le_refl _) rfl rfl))
                                · first
                                  | (exfalso; omega)
                                  |  (refine r_aload_n C rfl rfl dX6_told_78 ?_
                                      refine r_iload_n C rfl dX6_told_79 ?_
                                      refine r_callV C (sp_isDueM G (by exact hs) _ (i := 0) (by omega) (by omega)) kv_X6_isDue kn_X6_isDue rfl dX6_told_80 cl_X6_125 ⟨Nat.le_of_ble_eq_true rfl, Nat.le_of_ble_eq_true rfl⟩ (by decide) rfl rfl (q_lt hs (by decide)) (Nat.le_refl _) rfl (Nat.le_of_ble_eq_true rfl) ?_
                                      refine t_ifb_eq C 90 (by decide) dX6_told_83 (fun c83 => ?_) (fun c83 => ?_)
                                      · first
                                        | (exfalso; omega)
                                        |  (refine r_iconstv C 0 rfl dX6_told_90 ?_
                                            refine r_goto C 145 (by decide) dX6_told_91 ?_
                                            exact r_iret C dX6_told_145 rfl (Nat.le_refl _) rfl rfl)
                                      · first
                                        | (exfalso; omega)
                                        |  (refine r_iconstv C 1 rfl dX6_told_86 ?_
                                            refine r_goto C 145 (by decide) dX6_told_87 ?_
                                            exact r_iret C dX6_told_145 rfl (Nat.le_refl _) rfl rfl)))
                          · first
                            | (exfalso; omega)
                            |  (refine r_aload_n C rfl rfl dX6_told_63 ?_
                                refine r_getO C dX6_told_64 fl_X6_25 rfl rfl (q_lt hs (by decide)) (sh_12_7 hs) ?_
                                refine r_iload_n C rfl dX6_told_67 ?_
                                refine r_iald C (v.toInt) rfl (by omega) dX6_told_68 rfl (q_lt hs (by decide)) ?_
                                refine r_goto C 145 (by decide) dX6_told_69 ?_
                                exact r_iret C dX6_told_145 rfl (Nat.le_refl _) rfl rfl))
                    · first
                      | (exfalso; omega)
                      |  (refine r_aload_n C rfl rfl dX6_told_49 ?_
                          refine r_getO C dX6_told_50 fl_X6_22 rfl rfl (q_lt hs (by decide)) (sh_12_6 hs) ?_
                          refine r_iload_n C rfl dX6_told_53 ?_
                          refine r_iald C (v.toInt) rfl (by omega) dX6_told_54 rfl (q_lt hs (by decide)) ?_
                          refine r_goto C 145 (by decide) dX6_told_55 ?_
                          exact r_iret C dX6_told_145 rfl (Nat.le_refl _) rfl rfl))
              · first
                | (exfalso; omega)
                |  (refine r_aload_n C rfl rfl dX6_told_33 ?_
                    refine r_getO C dX6_told_34 fl_X6_19 rfl rfl (q_lt hs (by decide)) (sh_12_5 hs) ?_
                    refine r_iconstv C 4 rfl dX6_told_37 ?_
                    refine r_iload_n C rfl dX6_told_38 ?_
                    refine r_imul C dX6_told_39 ?_
                    refine r_iload_n C rfl dX6_told_40 ?_
                    refine r_iadd C dX6_told_41 ?_
                    refine r_iald C (((4) * (v.toInt)) + (x.toInt)) (by have t := (tA (tM (show (4 : Int32).toInt = 4 from rfl) rfl (by omega)) rfl (by omega)); omega) (by omega) dX6_told_42 rfl (q_lt hs (by decide)) ?_
                    exact r_iret C dX6_told_43 rfl (Nat.le_refl _) rfl rfl))
        · first
          | (exfalso; omega)
          |  (refine r_ldc C _ lc_X6_106 dX6_told_25 ?_
              exact r_iret C dX6_told_27 rfl (Nat.le_refl _) rfl rfl))

set_option maxHeartbeats 4000000 in
set_option maxRecDepth 100000 in
theorem case_told (G : oG) {h : oH} {n T : Nat} (I : Inv h n T) (v x : Int32) : Case G mX5_told mX6_told [.int v, .int x] h n T := by
  obtain ⟨⟨a1, a2, a3⟩, ⟨b1, b2, b3⟩, ⟨c1, c2, c3⟩, ⟨d1, d2, d3⟩, ⟨e1, e2, e3⟩, ⟨f1, f2, f3⟩, g1, g2, g3⟩ := id I.2.2.1
  have hs := I.1.1
  have hh := I.1
  by_cases hval : 0 ≤ v.toInt ∧ v.toInt < n
  · obtain ⟨i, hi, hv⟩ : ∃ i : Nat, i < n ∧ v.toInt = (i : Int) := ⟨v.toInt.toNat, by omega, by omega⟩
    have hn := I.2.1.2
    have h24 := hh.2.2.1
    obtain ⟨Ie, Ib⟩ := I.2.2.2.1 i hi
    by_cases hx : 0 ≤ x.toInt ∧ x.toInt ≤ 10
    · obtain ⟨q0, q1, q2, q3, q4, q5, q6, q7, q8, q9, q10, q11, q12, q13, q14⟩ := id Ie
      rcases (show x.toInt = 0 ∨ x.toInt = 1 ∨ x.toInt = 2 ∨ x.toInt = 3 ∨ x.toInt = 4 ∨ x.toInt = 5 ∨ x.toInt = 6 ∨ x.toInt = 7 ∨ x.toInt = 8 ∨ x.toInt = 9 ∨ x.toInt = 10 by omega) with hk | hk | hk | hk | hk | hk | hk | hk | hk | hk | hk
      · exact case_same G I (c_told0 G hh v hi hv x hk) (m_told0 G hs hn h24 v hi hv x hk) q3
      · exact case_same G I (c_told1 G hh v hi hv x hk) (m_told1 G hs hn h24 v hi hv x hk) q4
      · exact case_same G I (c_told2 G hh v hi hv x hk) (m_told2 G hs hn h24 v hi hv x hk) q5
      · exact case_same G I (c_told3 G hh v hi hv x hk) (m_told3 G hs hn h24 v hi hv x hk) q6
      · exact case_same G I (c_told4 G hh v hi hv x hk) (m_told4 G hs hn h24 v hi hv x hk) q7
      · exact case_same G I (c_told5 G hh v hi hv x hk) (m_told5 G hs hn h24 v hi hv x hk) q8
      · exact case_same G I (c_told6 G hh v hi hv x hk) (m_told6 G hs hn h24 v hi hv x hk) (b1_iff (due_iff Ie b1 c1 (fun _ => rfl)))
      · exact case_same G I (c_told7 G hh v hi hv x hk) (m_told7 G hs hn h24 v hi hv x hk) q9
      · exact case_same G I (c_told8 G hh v hi hv x hk) (m_told8 G hs hn h24 v hi hv x hk) q10
      · exact case_same G I (c_told9 G hh v hi hv x hk) (m_told9 G hs hn h24 v hi hv x hk) q12
      · exact case_same G I (c_told10 G hh v hi hv x hk) (m_told10 G hs hn h24 v hi hv x hk) q13
    · exact case_bad G I (c_toldX G hh v hi hv x hx) (m_toldX G hs hn h24 v hi hv x hx)
  · exact case_bad G I (c_toldN G hh v hval x) (m_toldN G hs I.2.1.2 hh.2.2.1 v hval x)

set_option maxHeartbeats 4000000 in
set_option maxRecDepth 100000 in
theorem c_quote (G : oG) {h : oH} {n : Nat} (hh : oHs h n) (v : Int32) {i : Nat} (hi : i < n) (hv : v.toInt = (i : Int)) (x : Int32) (hw : 0 ≤ (hI h (pid i) 0).toInt ∧ (hI h (pid i) 0).toInt ≤ 2) (hx : 0 ≤ x.toInt ∧ x.toInt ≤ 5000) : oSp G mX5_quote [.ref 0, .int v, .int x] h (some (.int (costC h (pid i) x (hI h 0 9)))) h := by
  refine oSp.intro [some (.ref 0), some (.int v), some (.int x), none] rfl (Nat.le_of_ble_eq_true rfl) (plainFor_of_name (by decide +kernel)) (Nat.le_refl _) ?_
  intro p l e R s m args below meth c C
  refine r_aload_n C rfl rfl dX5_quote_0 ?_
  refine r_iload_n C rfl dX5_quote_1 ?_
  refine r_callV C (sp_houseAt G (by exact hh) _ hi hv) kv_X5_houseAt kn_X5_houseAt rfl dX5_quote_2 cl_X5_77 ⟨Nat.le_of_ble_eq_true rfl, Nat.le_of_ble_eq_true rfl⟩ (by decide) rfl rfl (q_lt hh.1 (by decide)) (Nat.le_refl _) rfl (Nat.le_of_ble_eq_true rfl) ?_
  refine r_astore_n C rfl rfl (Nat.le_of_ble_eq_true rfl) dX5_quote_5 ?_
  refine r_aload_n C rfl rfl dX5_quote_6 ?_
  refine r_ifnull C dX5_quote_7 ?_
  refine r_iload_n C rfl dX5_quote_10 ?_
  refine r_iconstv C 0 rfl dX5_quote_11 ?_
  refine r_sipush C 5000 rfl dX5_quote_12 ?_
  refine r_callS C (sp_isOutside G rfl (show (0 : Int32).toInt = 0 from rfl) (show (5000 : Int32).toInt = 5000 from rfl)) ks_X5_isOutside kn_X5_isOutside rfl dX5_quote_15 cl_X5_68 ⟨Nat.le_of_ble_eq_true rfl, Nat.le_of_ble_eq_true rfl⟩ (Nat.le_refl _) rfl (Nat.le_of_ble_eq_true rfl) ?_
  refine t_ifb_eq C 24 (by decide) dX5_quote_18 (fun c18 => ?_) (fun c18 => ?_)
  · first
    | (exfalso; omega)
    |  (refine r_aload_n C rfl rfl dX5_quote_24 ?_
        refine r_getO C dX5_quote_25 fl_X5_164 rfl (tg_hid i) (oHs.lt hh hi) (oHs.pl hh hi) ?_
        refine r_iload_n C rfl dX5_quote_28 ?_
        refine r_aload_n C rfl rfl dX5_quote_29 ?_
        refine r_getI C dX5_quote_30 fl_X5_52 rfl (q_lt hh.1 (by decide)) ?_
        refine r_callV C (sp_costOf G (tg_pid i) (oHs.plt (by exact hh) hi) _ _ (by exact hw)) kv_X2_costOf kn_X2_costOf rfl dX5_quote_33 cl_X5_168 ⟨Nat.le_of_ble_eq_true rfl, Nat.le_of_ble_eq_true rfl⟩ (by decide) rfl (tg_pid i) (oHs.plt hh hi) (Nat.le_refl _) rfl (Nat.le_of_ble_eq_true rfl) ?_
        exact r_iret C dX5_quote_36 rfl (Nat.le_refl _) rfl rfl)
  · first
    | (exfalso; omega)
    |  (refine r_ldc C _ lc_X5_72 dX5_quote_21 ?_
        exact r_iret C dX5_quote_23 rfl (Nat.le_refl _) rfl rfl)

set_option maxHeartbeats 4000000 in
set_option maxRecDepth 100000 in
theorem c_quoteX (G : oG) {h : oH} {n : Nat} (hh : oHs h n) (v : Int32) {i : Nat} (hi : i < n) (hv : v.toInt = (i : Int)) (x : Int32) (hw : 0 ≤ (hI h (pid i) 0).toInt ∧ (hI h (pid i) 0).toInt ≤ 2) (hx : ¬ (0 ≤ x.toInt ∧ x.toInt ≤ 5000)) : oSp G mX5_quote [.ref 0, .int v, .int x] h (some (.int (-1000001))) h := by
  refine oSp.intro [some (.ref 0), some (.int v), some (.int x), none] rfl (Nat.le_of_ble_eq_true rfl) (plainFor_of_name (by decide +kernel)) (Nat.le_refl _) ?_
  intro p l e R s m args below meth c C
  refine r_aload_n C rfl rfl dX5_quote_0 ?_
  refine r_iload_n C rfl dX5_quote_1 ?_
  refine r_callV C (sp_houseAt G (by exact hh) _ hi hv) kv_X5_houseAt kn_X5_houseAt rfl dX5_quote_2 cl_X5_77 ⟨Nat.le_of_ble_eq_true rfl, Nat.le_of_ble_eq_true rfl⟩ (by decide) rfl rfl (q_lt hh.1 (by decide)) (Nat.le_refl _) rfl (Nat.le_of_ble_eq_true rfl) ?_
  refine r_astore_n C rfl rfl (Nat.le_of_ble_eq_true rfl) dX5_quote_5 ?_
  refine r_aload_n C rfl rfl dX5_quote_6 ?_
  refine r_ifnull C dX5_quote_7 ?_
  refine r_iload_n C rfl dX5_quote_10 ?_
  refine r_iconstv C 0 rfl dX5_quote_11 ?_
  refine r_sipush C 5000 rfl dX5_quote_12 ?_
  refine r_callS C (sp_isOutside G rfl (show (0 : Int32).toInt = 0 from rfl) (show (5000 : Int32).toInt = 5000 from rfl)) ks_X5_isOutside kn_X5_isOutside rfl dX5_quote_15 cl_X5_68 ⟨Nat.le_of_ble_eq_true rfl, Nat.le_of_ble_eq_true rfl⟩ (Nat.le_refl _) rfl (Nat.le_of_ble_eq_true rfl) ?_
  refine t_ifb_eq C 24 (by decide) dX5_quote_18 (fun c18 => ?_) (fun c18 => ?_)
  · first
    | (exfalso; omega)
    |  (refine r_aload_n C rfl rfl dX5_quote_24 ?_
        refine r_getO C dX5_quote_25 fl_X5_164 rfl (tg_hid i) (oHs.lt hh hi) (oHs.pl hh hi) ?_
        refine r_iload_n C rfl dX5_quote_28 ?_
        refine r_aload_n C rfl rfl dX5_quote_29 ?_
        refine r_getI C dX5_quote_30 fl_X5_52 rfl (q_lt hh.1 (by decide)) ?_
        refine r_callV C (sp_costOf G (tg_pid i) (oHs.plt (by exact hh) hi) _ _ (by exact hw)) kv_X2_costOf kn_X2_costOf rfl dX5_quote_33 cl_X5_168 ⟨Nat.le_of_ble_eq_true rfl, Nat.le_of_ble_eq_true rfl⟩ (by decide) rfl (tg_pid i) (oHs.plt hh hi) (Nat.le_refl _) rfl (Nat.le_of_ble_eq_true rfl) ?_
        exact r_iret C dX5_quote_36 rfl (Nat.le_refl _) rfl rfl)
  · first
    | (exfalso; omega)
    |  (refine r_ldc C _ lc_X5_72 dX5_quote_21 ?_
        exact r_iret C dX5_quote_23 rfl (Nat.le_refl _) rfl rfl)

set_option maxHeartbeats 4000000 in
set_option maxRecDepth 100000 in
theorem c_quoteN (G : oG) {h : oH} {n : Nat} (hh : oHs h n) (v : Int32) (hv : ¬ (0 ≤ v.toInt ∧ v.toInt < n)) (x : Int32) : oSp G mX5_quote [.ref 0, .int v, .int x] h (some (.int (-1000001))) h := by
  refine oSp.intro [some (.ref 0), some (.int v), some (.int x), none] rfl (Nat.le_of_ble_eq_true rfl) (plainFor_of_name (by decide +kernel)) (Nat.le_refl _) ?_
  intro p l e R s m args below meth c C
  refine r_aload_n C rfl rfl dX5_quote_0 ?_
  refine r_iload_n C rfl dX5_quote_1 ?_
  refine r_callV C (sp_houseAtN G (by exact hh) _ hv) kv_X5_houseAt kn_X5_houseAt rfl dX5_quote_2 cl_X5_77 ⟨Nat.le_of_ble_eq_true rfl, Nat.le_of_ble_eq_true rfl⟩ (by decide) rfl rfl (q_lt hh.1 (by decide)) (Nat.le_refl _) rfl (Nat.le_of_ble_eq_true rfl) ?_
  refine r_astore_n C rfl rfl (Nat.le_of_ble_eq_true rfl) dX5_quote_5 ?_
  refine r_aload_n C rfl rfl dX5_quote_6 ?_
  refine r_ifnullN C 21 (by decide) dX5_quote_7 ?_
  refine r_ldc C _ lc_X5_72 dX5_quote_21 ?_
  exact r_iret C dX5_quote_23 rfl (Nat.le_refl _) rfl rfl

set_option maxHeartbeats 4000000 in
set_option maxRecDepth 100000 in
theorem m_quote (G : oG) {h : oH} (hs : oSh h) {n : Nat} (hn : (hI h 12 1).toInt = (n : Int)) (hn24 : n ≤ 24) (v : Int32) {i : Nat} (hi : i < n) (hv : v.toInt = (i : Int)) (x : Int32) (hx : 0 ≤ x.toInt ∧ x.toInt ≤ 5000) : oSp G mX6_quote [.ref 12, .int v, .int x] h (some (.int (costM h i x))) (sI h 12 0 0) := by
  refine oSp.intro [some (.ref 12), some (.int v), some (.int x)] rfl (Nat.le_of_ble_eq_true rfl) (plainFor_of_name (by decide +kernel)) (Nat.le_refl _) ?_
  intro p l e R s m args below meth c C
  refine r_aload_n C rfl rfl dX6_quote_0 ?_
  refine r_iconstv C 0 rfl dX6_quote_1 ?_
  refine r_putI C dX6_quote_2 fl_X6_90 rfl (q_lt hs (by decide)) (Or.inl rfl) ?_
  refine r_aload_n C rfl rfl dX6_quote_5 ?_
  refine r_iload_n C rfl dX6_quote_6 ?_
  refine r_callV C (sp_isHouse G (by exact hs) (by exact hn) hn24 _) kv_X6_isHouse kn_X6_isHouse rfl dX6_quote_7 cl_X6_108 ⟨Nat.le_of_ble_eq_true rfl, Nat.le_of_ble_eq_true rfl⟩ (by decide) rfl rfl (q_lt hs (by decide)) (Nat.le_refl _) rfl (Nat.le_of_ble_eq_true rfl) ?_
  refine t_ifb_eq C 34 (by decide) dX6_quote_10 (fun c10 => ?_) (fun c10 => ?_)
  · first
    | (exfalso; omega)
    |  (refine r_ldc C _ lc_X6_106 dX6_quote_34 ?_
        exact r_iret C dX6_quote_36 rfl (Nat.le_refl _) rfl rfl)
  · first
    | (exfalso; omega)
    |  (refine r_iload_n C rfl dX6_quote_13 ?_
        refine r_i2l C dX6_quote_14 ?_
        refine r_lconst C 0 rfl dX6_quote_15 ?_
        refine r_ldc2 C _ ll_X6_104 dX6_quote_16 ?_
        refine r_callS C (sp_in G (tI2L rfl) (show (0 : Int64).toInt = 0 from rfl) (show (5000 : Int64).toInt = 5000 from rfl)) ks_X6_in kn_X6_in rfl dX6_quote_19 cl_X6_96 ⟨Nat.le_of_ble_eq_true rfl, Nat.le_of_ble_eq_true rfl⟩ (Nat.le_refl _) rfl (Nat.le_of_ble_eq_true rfl) ?_
        refine t_ifb_eq C 34 (by decide) dX6_quote_22 (fun c22 => ?_) (fun c22 => ?_)
        · first
          | (exfalso; omega)
          |  (refine r_ldc C _ lc_X6_106 dX6_quote_34 ?_
              exact r_iret C dX6_quote_36 rfl (Nat.le_refl _) rfl rfl)
        · first
          | (exfalso; omega)
          |  (refine r_aload_n C rfl rfl dX6_quote_25 ?_
              refine r_iload_n C rfl dX6_quote_26 ?_
              refine r_iload_n C rfl dX6_quote_27 ?_
              refine r_callV C (sp_costM G (by exact hs) _ hv (by omega) _) kv_X6_cost kn_X6_cost rfl dX6_quote_28 cl_X6_184 ⟨Nat.le_of_ble_eq_true rfl, Nat.le_of_ble_eq_true rfl⟩ (by decide) rfl rfl (q_lt hs (by decide)) (Nat.le_refl _) rfl (Nat.le_of_ble_eq_true rfl) ?_
              refine r_goto C 36 (by decide) dX6_quote_31 ?_
              exact r_iret C dX6_quote_36 rfl (Nat.le_refl _) rfl rfl))

set_option maxHeartbeats 4000000 in
set_option maxRecDepth 100000 in
theorem m_quoteX (G : oG) {h : oH} (hs : oSh h) {n : Nat} (hn : (hI h 12 1).toInt = (n : Int)) (hn24 : n ≤ 24) (v : Int32) {i : Nat} (hi : i < n) (hv : v.toInt = (i : Int)) (x : Int32) (hx : ¬ (0 ≤ x.toInt ∧ x.toInt ≤ 5000)) : oSp G mX6_quote [.ref 12, .int v, .int x] h (some (.int (-1000001))) (sI h 12 0 0) := by
  refine oSp.intro [some (.ref 12), some (.int v), some (.int x)] rfl (Nat.le_of_ble_eq_true rfl) (plainFor_of_name (by decide +kernel)) (Nat.le_refl _) ?_
  intro p l e R s m args below meth c C
  refine r_aload_n C rfl rfl dX6_quote_0 ?_
  refine r_iconstv C 0 rfl dX6_quote_1 ?_
  refine r_putI C dX6_quote_2 fl_X6_90 rfl (q_lt hs (by decide)) (Or.inl rfl) ?_
  refine r_aload_n C rfl rfl dX6_quote_5 ?_
  refine r_iload_n C rfl dX6_quote_6 ?_
  refine r_callV C (sp_isHouse G (by exact hs) (by exact hn) hn24 _) kv_X6_isHouse kn_X6_isHouse rfl dX6_quote_7 cl_X6_108 ⟨Nat.le_of_ble_eq_true rfl, Nat.le_of_ble_eq_true rfl⟩ (by decide) rfl rfl (q_lt hs (by decide)) (Nat.le_refl _) rfl (Nat.le_of_ble_eq_true rfl) ?_
  refine t_ifb_eq C 34 (by decide) dX6_quote_10 (fun c10 => ?_) (fun c10 => ?_)
  · first
    | (exfalso; omega)
    |  (refine r_ldc C _ lc_X6_106 dX6_quote_34 ?_
        exact r_iret C dX6_quote_36 rfl (Nat.le_refl _) rfl rfl)
  · first
    | (exfalso; omega)
    |  (refine r_iload_n C rfl dX6_quote_13 ?_
        refine r_i2l C dX6_quote_14 ?_
        refine r_lconst C 0 rfl dX6_quote_15 ?_
        refine r_ldc2 C _ ll_X6_104 dX6_quote_16 ?_
        refine r_callS C (sp_in G (tI2L rfl) (show (0 : Int64).toInt = 0 from rfl) (show (5000 : Int64).toInt = 5000 from rfl)) ks_X6_in kn_X6_in rfl dX6_quote_19 cl_X6_96 ⟨Nat.le_of_ble_eq_true rfl, Nat.le_of_ble_eq_true rfl⟩ (Nat.le_refl _) rfl (Nat.le_of_ble_eq_true rfl) ?_
        refine t_ifb_eq C 34 (by decide) dX6_quote_22 (fun c22 => ?_) (fun c22 => ?_)
        · first
          | (exfalso; omega)
          |  (refine r_ldc C _ lc_X6_106 dX6_quote_34 ?_
              exact r_iret C dX6_quote_36 rfl (Nat.le_refl _) rfl rfl)
        · first
          | (exfalso; omega)
          |  (refine r_aload_n C rfl rfl dX6_quote_25 ?_
              refine r_iload_n C rfl dX6_quote_26 ?_
              refine r_iload_n C rfl dX6_quote_27 ?_
              refine r_callV C (sp_costM G (by exact hs) _ hv (by omega) _) kv_X6_cost kn_X6_cost rfl dX6_quote_28 cl_X6_184 ⟨Nat.le_of_ble_eq_true rfl, Nat.le_of_ble_eq_true rfl⟩ (by decide) rfl rfl (q_lt hs (by decide)) (Nat.le_refl _) rfl (Nat.le_of_ble_eq_true rfl) ?_
              refine r_goto C 36 (by decide) dX6_quote_31 ?_
              exact r_iret C dX6_quote_36 rfl (Nat.le_refl _) rfl rfl))

set_option maxHeartbeats 4000000 in
set_option maxRecDepth 100000 in
theorem m_quoteN (G : oG) {h : oH} (hs : oSh h) {n : Nat} (hn : (hI h 12 1).toInt = (n : Int)) (hn24 : n ≤ 24) (v : Int32) (hv : ¬ (0 ≤ v.toInt ∧ v.toInt < n)) (x : Int32) : oSp G mX6_quote [.ref 12, .int v, .int x] h (some (.int (-1000001))) (sI h 12 0 0) := by
  refine oSp.intro [some (.ref 12), some (.int v), some (.int x)] rfl (Nat.le_of_ble_eq_true rfl) (plainFor_of_name (by decide +kernel)) (Nat.le_refl _) ?_
  intro p l e R s m args below meth c C
  refine r_aload_n C rfl rfl dX6_quote_0 ?_
  refine r_iconstv C 0 rfl dX6_quote_1 ?_
  refine r_putI C dX6_quote_2 fl_X6_90 rfl (q_lt hs (by decide)) (Or.inl rfl) ?_
  refine r_aload_n C rfl rfl dX6_quote_5 ?_
  refine r_iload_n C rfl dX6_quote_6 ?_
  refine r_callV C (sp_isHouse G (by exact hs) (by exact hn) hn24 _) kv_X6_isHouse kn_X6_isHouse rfl dX6_quote_7 cl_X6_108 ⟨Nat.le_of_ble_eq_true rfl, Nat.le_of_ble_eq_true rfl⟩ (by decide) rfl rfl (q_lt hs (by decide)) (Nat.le_refl _) rfl (Nat.le_of_ble_eq_true rfl) ?_
  refine t_ifb_eq C 34 (by decide) dX6_quote_10 (fun c10 => ?_) (fun c10 => ?_)
  · first
    | (exfalso; omega)
    |  (refine r_ldc C _ lc_X6_106 dX6_quote_34 ?_
        exact r_iret C dX6_quote_36 rfl (Nat.le_refl _) rfl rfl)
  · first
    | (exfalso; omega)
    |  (refine r_iload_n C rfl dX6_quote_13 ?_
        refine r_i2l C dX6_quote_14 ?_
        refine r_lconst C 0 rfl dX6_quote_15 ?_
        refine r_ldc2 C _ ll_X6_104 dX6_quote_16 ?_
        refine r_callS C (sp_in G (tI2L rfl) (show (0 : Int64).toInt = 0 from rfl) (show (5000 : Int64).toInt = 5000 from rfl)) ks_X6_in kn_X6_in rfl dX6_quote_19 cl_X6_96 ⟨Nat.le_of_ble_eq_true rfl, Nat.le_of_ble_eq_true rfl⟩ (Nat.le_refl _) rfl (Nat.le_of_ble_eq_true rfl) ?_
        refine t_ifb_eq C 34 (by decide) dX6_quote_22 (fun c22 => ?_) (fun c22 => ?_)
        · first
          | (exfalso; omega)
          |  (refine r_ldc C _ lc_X6_106 dX6_quote_34 ?_
              exact r_iret C dX6_quote_36 rfl (Nat.le_refl _) rfl rfl)
        · first
          | (exfalso; omega)
          |  (refine r_aload_n C rfl rfl dX6_quote_25 ?_
              refine r_iload_n C rfl dX6_quote_26 ?_
              refine r_iload_n C rfl dX6_quote_27 ?_
              refine r_callV C (sp_costM G (by exact hs) _ (i := 0) (by omega) (by omega) _) kv_X6_cost kn_X6_cost rfl dX6_quote_28 cl_X6_184 ⟨Nat.le_of_ble_eq_true rfl, Nat.le_of_ble_eq_true rfl⟩ (by decide) rfl rfl (q_lt hs (by decide)) (Nat.le_refl _) rfl (Nat.le_of_ble_eq_true rfl) ?_
              refine r_goto C 36 (by decide) dX6_quote_31 ?_
              exact r_iret C dX6_quote_36 rfl (Nat.le_refl _) rfl rfl))

set_option maxHeartbeats 4000000 in
set_option maxRecDepth 100000 in
theorem case_quote (G : oG) {h : oH} {n T : Nat} (I : Inv h n T) (v x : Int32) : Case G mX5_quote mX6_quote [.int v, .int x] h n T := by
  obtain ⟨⟨a1, a2, a3⟩, ⟨b1, b2, b3⟩, ⟨c1, c2, c3⟩, ⟨d1, d2, d3⟩, ⟨e1, e2, e3⟩, ⟨f1, f2, f3⟩, g1, g2, g3⟩ := id I.2.2.1
  have hs := I.1.1
  have hh := I.1
  by_cases hval : 0 ≤ v.toInt ∧ v.toInt < n
  · obtain ⟨i, hi, hv⟩ : ∃ i : Nat, i < n ∧ v.toInt = (i : Int) := ⟨v.toInt.toNat, by omega, by omega⟩
    have hn := I.2.1.2
    have h24 := hh.2.2.1
    obtain ⟨Ie, Ib⟩ := I.2.2.2.1 i hi
    obtain ⟨-, -, -, -, -, -, -, -, -, -, -, -, -, -, p0, p1, p2⟩ := id Ie
    have hw : 0 ≤ (hI h (pid i) 0).toInt ∧ (hI h (pid i) 0).toInt ≤ 2 := by
      rw [p0]
      obtain ⟨-, -, -, -, -, -, -, -, -, -, -, -, -, w, -⟩ := Ib
      exact w
    by_cases hx : 0 ≤ x.toInt ∧ x.toInt ≤ 5000
    · exact case_same G I (c_quote G hh v hi hv x hw hx) (m_quote G hs hn h24 v hi hv x hx) (cost_eq p0 p1 p2 e1)
    · exact case_bad G I (c_quoteX G hh v hi hv x hw hx) (m_quoteX G hs hn h24 v hi hv x hx)
  · exact case_bad G I (c_quoteN G hh v hval x) (m_quoteN G hs I.2.1.2 hh.2.2.1 v hval x)

set_option maxHeartbeats 4000000 in
set_option maxRecDepth 100000 in
theorem c_kind (G : oG) {h : oH} {n : Nat} (hh : oHs h n) (v : Int32) {i : Nat} (hi : i < n) (hv : v.toInt = (i : Int)) : oSp G mX5_kind [.ref 0, .int v] h (some (.int (tkC h (hid i)))) h := by
  refine oSp.intro [some (.ref 0), some (.int v), none] rfl (Nat.le_of_ble_eq_true rfl) (plainFor_of_name (by decide +kernel)) (Nat.le_refl _) ?_
  intro p l e R s m args below meth c C
  refine r_aload_n C rfl rfl dX5_kind_0 ?_
  refine r_iload_n C rfl dX5_kind_1 ?_
  refine r_callV C (sp_houseAt G (by exact hh) _ hi hv) kv_X5_houseAt kn_X5_houseAt rfl dX5_kind_2 cl_X5_77 ⟨Nat.le_of_ble_eq_true rfl, Nat.le_of_ble_eq_true rfl⟩ (by decide) rfl rfl (q_lt hh.1 (by decide)) (Nat.le_refl _) rfl (Nat.le_of_ble_eq_true rfl) ?_
  refine r_astore_n C rfl rfl (Nat.le_of_ble_eq_true rfl) dX5_kind_5 ?_
  refine r_aload_n C rfl rfl dX5_kind_6 ?_
  refine r_ifnonnull C 15 (by decide) dX5_kind_7 ?_
  refine r_aload_n C rfl rfl dX5_kind_15 ?_
  refine r_callV C (sp_toldKind G (tg_hid i) (oHs.lt (by exact hh) hi)) kv_X1_toldKind kn_X1_toldKind rfl dX5_kind_16 cl_X5_191 ⟨Nat.le_of_ble_eq_true rfl, Nat.le_of_ble_eq_true rfl⟩ (by decide) rfl (tg_hid i) (oHs.lt hh hi) (Nat.le_refl _) rfl (Nat.le_of_ble_eq_true rfl) ?_
  exact r_iret C dX5_kind_19 rfl (Nat.le_refl _) rfl rfl

set_option maxHeartbeats 4000000 in
set_option maxRecDepth 100000 in
theorem c_kindN (G : oG) {h : oH} {n : Nat} (hh : oHs h n) (v : Int32) (hv : ¬ (0 ≤ v.toInt ∧ v.toInt < n)) : oSp G mX5_kind [.ref 0, .int v] h (some (.int (-1000001))) h := by
  refine oSp.intro [some (.ref 0), some (.int v), none] rfl (Nat.le_of_ble_eq_true rfl) (plainFor_of_name (by decide +kernel)) (Nat.le_refl _) ?_
  intro p l e R s m args below meth c C
  refine r_aload_n C rfl rfl dX5_kind_0 ?_
  refine r_iload_n C rfl dX5_kind_1 ?_
  refine r_callV C (sp_houseAtN G (by exact hh) _ hv) kv_X5_houseAt kn_X5_houseAt rfl dX5_kind_2 cl_X5_77 ⟨Nat.le_of_ble_eq_true rfl, Nat.le_of_ble_eq_true rfl⟩ (by decide) rfl rfl (q_lt hh.1 (by decide)) (Nat.le_refl _) rfl (Nat.le_of_ble_eq_true rfl) ?_
  refine r_astore_n C rfl rfl (Nat.le_of_ble_eq_true rfl) dX5_kind_5 ?_
  refine r_aload_n C rfl rfl dX5_kind_6 ?_
  refine r_ifnonnullN C dX5_kind_7 ?_
  refine r_ldc C _ lc_X5_72 dX5_kind_10 ?_
  refine r_goto C 19 (by decide) dX5_kind_12 ?_
  exact r_iret C dX5_kind_19 rfl (Nat.le_refl _) rfl rfl

set_option maxHeartbeats 4000000 in
set_option maxRecDepth 100000 in
theorem m_kind (G : oG) {h : oH} (hs : oSh h) {n : Nat} (hn : (hI h 12 1).toInt = (n : Int)) (hn24 : n ≤ 24) (v : Int32) {i : Nat} (hi : i < n) (hv : v.toInt = (i : Int)) : oSp G mX6_kind [.ref 12, .int v] h (some (.int (kM h i))) (sI h 12 0 0) := by
  refine oSp.intro [some (.ref 12), some (.int v)] rfl (Nat.le_of_ble_eq_true rfl) (plainFor_of_name (by decide +kernel)) (Nat.le_refl _) ?_
  intro p l e R s m args below meth c C
  refine r_aload_n C rfl rfl dX6_kind_0 ?_
  refine r_iconstv C 0 rfl dX6_kind_1 ?_
  refine r_putI C dX6_kind_2 fl_X6_90 rfl (q_lt hs (by decide)) (Or.inl rfl) ?_
  refine r_aload_n C rfl rfl dX6_kind_5 ?_
  refine r_iload_n C rfl dX6_kind_6 ?_
  refine r_callV C (sp_isHouse G (by exact hs) (by exact hn) hn24 _) kv_X6_isHouse kn_X6_isHouse rfl dX6_kind_7 cl_X6_108 ⟨Nat.le_of_ble_eq_true rfl, Nat.le_of_ble_eq_true rfl⟩ (by decide) rfl rfl (q_lt hs (by decide)) (Nat.le_refl _) rfl (Nat.le_of_ble_eq_true rfl) ?_
  refine t_ifb_eq C 21 (by decide) dX6_kind_10 (fun c10 => ?_) (fun c10 => ?_)
  · first
    | (exfalso; omega)
    |  (refine r_ldc C _ lc_X6_106 dX6_kind_21 ?_
        exact r_iret C dX6_kind_23 rfl (Nat.le_refl _) rfl rfl)
  · first
    | (exfalso; omega)
    |  (refine r_aload_n C rfl rfl dX6_kind_13 ?_
        refine r_iload_n C rfl dX6_kind_14 ?_
        refine r_callV C (sp_kindOf G (by exact hs) _ hv (by omega)) kv_X6_kindOf kn_X6_kindOf rfl dX6_kind_15 cl_X6_275 ⟨Nat.le_of_ble_eq_true rfl, Nat.le_of_ble_eq_true rfl⟩ (by decide) rfl rfl (q_lt hs (by decide)) (Nat.le_refl _) rfl (Nat.le_of_ble_eq_true rfl) ?_
        refine r_goto C 23 (by decide) dX6_kind_18 ?_
        exact r_iret C dX6_kind_23 rfl (Nat.le_refl _) rfl rfl)

set_option maxHeartbeats 4000000 in
set_option maxRecDepth 100000 in
theorem m_kindN (G : oG) {h : oH} (hs : oSh h) {n : Nat} (hn : (hI h 12 1).toInt = (n : Int)) (hn24 : n ≤ 24) (v : Int32) (hv : ¬ (0 ≤ v.toInt ∧ v.toInt < n)) : oSp G mX6_kind [.ref 12, .int v] h (some (.int (-1000001))) (sI h 12 0 0) := by
  refine oSp.intro [some (.ref 12), some (.int v)] rfl (Nat.le_of_ble_eq_true rfl) (plainFor_of_name (by decide +kernel)) (Nat.le_refl _) ?_
  intro p l e R s m args below meth c C
  refine r_aload_n C rfl rfl dX6_kind_0 ?_
  refine r_iconstv C 0 rfl dX6_kind_1 ?_
  refine r_putI C dX6_kind_2 fl_X6_90 rfl (q_lt hs (by decide)) (Or.inl rfl) ?_
  refine r_aload_n C rfl rfl dX6_kind_5 ?_
  refine r_iload_n C rfl dX6_kind_6 ?_
  refine r_callV C (sp_isHouse G (by exact hs) (by exact hn) hn24 _) kv_X6_isHouse kn_X6_isHouse rfl dX6_kind_7 cl_X6_108 ⟨Nat.le_of_ble_eq_true rfl, Nat.le_of_ble_eq_true rfl⟩ (by decide) rfl rfl (q_lt hs (by decide)) (Nat.le_refl _) rfl (Nat.le_of_ble_eq_true rfl) ?_
  refine t_ifb_eq C 21 (by decide) dX6_kind_10 (fun c10 => ?_) (fun c10 => ?_)
  · first
    | (exfalso; omega)
    |  (refine r_ldc C _ lc_X6_106 dX6_kind_21 ?_
        exact r_iret C dX6_kind_23 rfl (Nat.le_refl _) rfl rfl)
  · first
    | (exfalso; omega)
    |  (refine r_aload_n C rfl rfl dX6_kind_13 ?_
        refine r_iload_n C rfl dX6_kind_14 ?_
        refine r_callV C (sp_kindOf G (by exact hs) _ (i := 0) (by omega) (by omega)) kv_X6_kindOf kn_X6_kindOf rfl dX6_kind_15 cl_X6_275 ⟨Nat.le_of_ble_eq_true rfl, Nat.le_of_ble_eq_true rfl⟩ (by decide) rfl rfl (q_lt hs (by decide)) (Nat.le_refl _) rfl (Nat.le_of_ble_eq_true rfl) ?_
        refine r_goto C 23 (by decide) dX6_kind_18 ?_
        exact r_iret C dX6_kind_23 rfl (Nat.le_refl _) rfl rfl)

set_option maxHeartbeats 4000000 in
set_option maxRecDepth 100000 in
theorem case_kind (G : oG) {h : oH} {n T : Nat} (I : Inv h n T) (v : Int32) : Case G mX5_kind mX6_kind [.int v] h n T := by
  obtain ⟨⟨a1, a2, a3⟩, ⟨b1, b2, b3⟩, ⟨c1, c2, c3⟩, ⟨d1, d2, d3⟩, ⟨e1, e2, e3⟩, ⟨f1, f2, f3⟩, g1, g2, g3⟩ := id I.2.2.1
  have hs := I.1.1
  have hh := I.1
  by_cases hval : 0 ≤ v.toInt ∧ v.toInt < n
  · obtain ⟨i, hi, hv⟩ : ∃ i : Nat, i < n ∧ v.toInt = (i : Int) := ⟨v.toInt.toNat, by omega, by omega⟩
    have hn := I.2.1.2
    have h24 := hh.2.2.1
    obtain ⟨Ie, Ib⟩ := I.2.2.2.1 i hi
    exact case_same G I (c_kind G hh v hi hv) (m_kind G hs hn h24 v hi hv) (kind_eq Ie Ib (fun _ => rfl))
  · exact case_bad G I (c_kindN G hh v hval) (m_kindN G hs I.2.1.2 hh.2.2.1 v hval)

set_option maxHeartbeats 4000000 in
set_option maxRecDepth 100000 in
theorem c_as0 (G : oG) {h : oH} {n : Nat} (hh : oHs h n) (v : Int32) {i : Nat} (hi : i < n) (hv : v.toInt = (i : Int)) (x : Int32) (hk : x = 0) : oSp G mX5_as [.ref 0, .int v, .int x] h (some (.int (if True then hI h (hid i) 2 else -1000004))) h := by
  subst hk
  refine oSp.intro [some (.ref 0), some (.int v), some (.int 0), none] rfl (Nat.le_of_ble_eq_true rfl) (plainFor_of_name (by decide +kernel)) (Nat.le_refl _) ?_
  intro p l e R s m args below meth c C
  refine r_aload_n C rfl rfl dX5_as_0 ?_
  refine r_iload_n C rfl dX5_as_1 ?_
  refine r_callV C (sp_houseAt G (by exact hh) _ hi hv) kv_X5_houseAt kn_X5_houseAt rfl dX5_as_2 cl_X5_77 ⟨Nat.le_of_ble_eq_true rfl, Nat.le_of_ble_eq_true rfl⟩ (by decide) rfl rfl (q_lt hh.1 (by decide)) (Nat.le_refl _) rfl (Nat.le_of_ble_eq_true rfl) ?_
  refine r_astore_n C rfl rfl (Nat.le_of_ble_eq_true rfl) dX5_as_5 ?_
  refine r_aload_n C rfl rfl dX5_as_6 ?_
  refine r_ifnull C dX5_as_7 ?_
  refine r_iload_n C rfl dX5_as_10 ?_
  refine r_iconstv C 0 rfl dX5_as_11 ?_
  refine r_iconstv C 3 rfl dX5_as_12 ?_
  refine r_callS C (sp_isOutside G (show (0 : Int32).toInt = 0 from rfl) (show (0 : Int32).toInt = 0 from rfl) (show (3 : Int32).toInt = 3 from rfl)) ks_X5_isOutside kn_X5_isOutside rfl dX5_as_13 cl_X5_68 ⟨Nat.le_of_ble_eq_true rfl, Nat.le_of_ble_eq_true rfl⟩ (Nat.le_refl _) rfl (Nat.le_of_ble_eq_true rfl) ?_
  refine t_ifb_eq C 22 (by decide) dX5_as_16 (fun c16 => ?_) (fun c16 => ?_)
  · first
    | (exfalso; omega)
    |  (refine r_aload_n C rfl rfl dX5_as_22 ?_
        refine r_iload_n C rfl dX5_as_23 ?_
        refine r_callV C (sp_isOf0 G (tg_hid i) (oHs.lt (by exact hh) hi)) kv_X1_isOf kn_X1_isOf rfl dX5_as_24 cl_X5_194 ⟨Nat.le_of_ble_eq_true rfl, Nat.le_of_ble_eq_true rfl⟩ (by decide) rfl (tg_hid i) (oHs.lt hh hi) (Nat.le_refl _) rfl (Nat.le_of_ble_eq_true rfl) ?_
        refine t_ifb_eq C 37 (by decide) dX5_as_27 (fun c27 => absurd trivial c27) (fun c27 => ?_)
        refine r_aload_n C rfl rfl dX5_as_30 ?_
        refine r_getI C dX5_as_31 fl_X5_161 (tg_hid i) (oHs.lt hh hi) ?_
        refine r_goto C 39 (by decide) dX5_as_34 ?_
        exact r_iret C dX5_as_39 rfl (Nat.le_refl _) (by rw [if_pos trivial]) rfl)
  · first
    | (exfalso; omega)
    |  (refine r_ldc C _ lc_X5_72 dX5_as_19 ?_
        exact r_iret C dX5_as_21 rfl (Nat.le_refl _) (by rw [if_pos trivial]) rfl)

set_option maxHeartbeats 4000000 in
set_option maxRecDepth 100000 in
theorem m_as0 (G : oG) {h : oH} (hs : oSh h) {n : Nat} (hn : (hI h 12 1).toInt = (n : Int)) (hn24 : n ≤ 24) (v : Int32) {i : Nat} (hi : i < n) (hv : v.toInt = (i : Int)) (x : Int32) (hk : x.toInt = 0) : oSp G mX6_as [.ref 12, .int v, .int x] h (some (.int (if True then hI h 15 i else -1000004))) (sI h 12 0 0) := by
  refine oSp.intro [some (.ref 12), some (.int v), some (.int x), none] rfl (Nat.le_of_ble_eq_true rfl) (plainFor_of_name (by decide +kernel)) (Nat.le_refl _) ?_
  intro p l e R s m args below meth c C
  refine r_aload_n C rfl rfl dX6_as_0 ?_
  refine r_iconstv C 0 rfl dX6_as_1 ?_
  refine r_putI C dX6_as_2 fl_X6_90 rfl (q_lt hs (by decide)) (Or.inl rfl) ?_
  refine r_aload_n C rfl rfl dX6_as_5 ?_
  refine r_iload_n C rfl dX6_as_6 ?_
  refine r_callV C (sp_isHouse G (by exact hs) (by exact hn) hn24 _) kv_X6_isHouse kn_X6_isHouse rfl dX6_as_7 cl_X6_108 ⟨Nat.le_of_ble_eq_true rfl, Nat.le_of_ble_eq_true rfl⟩ (by decide) rfl rfl (q_lt hs (by decide)) (Nat.le_refl _) rfl (Nat.le_of_ble_eq_true rfl) ?_
  refine t_ifb_eq C 25 (by decide) dX6_as_10 (fun c10 => ?_) (fun c10 => ?_)
  · first
    | (exfalso; omega)
    |  (refine r_ldc C _ lc_X6_106 dX6_as_25 ?_
        exact r_iret C dX6_as_27 rfl (Nat.le_refl _) (by rw [if_pos trivial]; rfl) rfl)
  · first
    | (exfalso; omega)
    |  (refine r_iload_n C rfl dX6_as_13 ?_
        refine r_i2l C dX6_as_14 ?_
        refine r_lconst C 0 rfl dX6_as_15 ?_
        refine r_ldc2 C _ ll_X6_278 dX6_as_16 ?_
        refine r_callS C (sp_in G (tI2L hk) (show (0 : Int64).toInt = 0 from rfl) (show (3 : Int64).toInt = 3 from rfl)) ks_X6_in kn_X6_in rfl dX6_as_19 cl_X6_96 ⟨Nat.le_of_ble_eq_true rfl, Nat.le_of_ble_eq_true rfl⟩ (Nat.le_refl _) rfl (Nat.le_of_ble_eq_true rfl) ?_
        refine t_ifb_ne C 28 (by decide) dX6_as_22 (fun c22 => ?_) (fun c22 => ?_)
        · first
          | (exfalso; omega)
          |  (refine r_aload_n C rfl rfl dX6_as_28 ?_
              refine r_iload_n C rfl dX6_as_29 ?_
              refine r_callV C (sp_kindOf G (by exact hs) _ hv (by omega)) kv_X6_kindOf kn_X6_kindOf rfl dX6_as_30 cl_X6_275 ⟨Nat.le_of_ble_eq_true rfl, Nat.le_of_ble_eq_true rfl⟩ (by decide) rfl rfl (q_lt hs (by decide)) (Nat.le_refl _) rfl (Nat.le_of_ble_eq_true rfl) ?_
              refine r_istore_n C rfl (Nat.le_of_ble_eq_true rfl) dX6_as_33 ?_
              refine r_iload_n C rfl dX6_as_34 ?_
              refine t_if_eq C 53 (by decide) hk dX6_as_35 (fun c35 => ?_) (fun c35 => ?_)
              · first
                | (exfalso; omega)
                |  (refine r_aload_n C rfl rfl dX6_as_53 ?_
                    refine r_getO C dX6_as_54 fl_X6_16 rfl rfl (q_lt hs (by decide)) (sh_12_4 hs) ?_
                    refine r_iload_n C rfl dX6_as_57 ?_
                    refine r_iald C (i) (by have t := hv; omega) (by omega) dX6_as_58 rfl (q_lt hs (by decide)) ?_
                    refine r_goto C 65 (by decide) dX6_as_59 ?_
                    exact r_iret C dX6_as_65 rfl (Nat.le_refl _) (by rw [if_pos trivial]; rfl) rfl)
              · first
                | (exfalso; omega)
                |  (refine r_iload_n C rfl dX6_as_38 ?_
                    refine r_iload_n C rfl dX6_as_39 ?_
                    refine t_icmp_eq C 53 (by decide) (show _ = (kM h i).toInt from rfl) hk dX6_as_40 (fun c40 => ?_) (fun c40 => ?_)
                    · first
                      | (exfalso; omega)
                      |  (refine r_aload_n C rfl rfl dX6_as_53 ?_
                          refine r_getO C dX6_as_54 fl_X6_16 rfl rfl (q_lt hs (by decide)) (sh_12_4 hs) ?_
                          refine r_iload_n C rfl dX6_as_57 ?_
                          refine r_iald C (i) (by have t := hv; omega) (by omega) dX6_as_58 rfl (q_lt hs (by decide)) ?_
                          refine r_goto C 65 (by decide) dX6_as_59 ?_
                          exact r_iret C dX6_as_65 rfl (Nat.le_refl _) (by rw [if_pos trivial]; rfl) rfl)
                    · first
                      | (exfalso; omega)
                      |  (refine r_iload_n C rfl dX6_as_43 ?_
                          refine r_iconstv C 1 rfl dX6_as_44 ?_
                          refine t_icmp_ne C 62 (by decide) hk (show (1 : Int32).toInt = 1 from rfl) dX6_as_45 (fun c45 => ?_) (fun c45 => ?_)
                          · first
                            | (exfalso; omega)
                            |  (refine r_ldcw C _ lc_X6_280 dX6_as_62 ?_
                                exact r_iret C dX6_as_65 rfl (Nat.le_refl _) (by rw [if_pos trivial]; rfl) rfl)
                          · first
                            | (exfalso; omega)
                            |  (refine r_iload_n C rfl dX6_as_48 ?_
                                refine r_iconstv C 2 rfl dX6_as_49 ?_
                                refine t_icmp_ne C 62 (by decide) (show _ = (kM h i).toInt from rfl) (show (2 : Int32).toInt = 2 from rfl) dX6_as_50 (fun c50 => ?_) (fun c50 => ?_)
                                · first
                                  | (exfalso; omega)
                                  |  (refine r_ldcw C _ lc_X6_280 dX6_as_62 ?_
                                      exact r_iret C dX6_as_65 rfl (Nat.le_refl _) (by rw [if_pos trivial]; rfl) rfl)
                                · first
                                  | (exfalso; omega)
                                  |  (refine r_aload_n C rfl rfl dX6_as_53 ?_
                                      refine r_getO C dX6_as_54 fl_X6_16 rfl rfl (q_lt hs (by decide)) (sh_12_4 hs) ?_
                                      refine r_iload_n C rfl dX6_as_57 ?_
                                      refine r_iald C (i) (by have t := hv; omega) (by omega) dX6_as_58 rfl (q_lt hs (by decide)) ?_
                                      refine r_goto C 65 (by decide) dX6_as_59 ?_
                                      exact r_iret C dX6_as_65 rfl (Nat.le_refl _) (by rw [if_pos trivial]; rfl) rfl)))))
        · first
          | (exfalso; omega)
          |  (refine r_ldc C _ lc_X6_106 dX6_as_25 ?_
              exact r_iret C dX6_as_27 rfl (Nat.le_refl _) (by rw [if_pos trivial]; rfl) rfl))

set_option maxHeartbeats 4000000 in
set_option maxRecDepth 100000 in
theorem c_as1 (G : oG) {h : oH} {n : Nat} (hh : oHs h n) (v : Int32) {i : Nat} (hi : i < n) (hv : v.toInt = (i : Int)) (x : Int32) (hk : x = 1) : oSp G mX5_as [.ref 0, .int v, .int x] h (some (.int (if (3 ≤ (hI h (hid i) 10).toInt ∧ (hI h (hid i) 12).toInt = 0) then hI h (hid i) 2 else -1000004))) h := by
  subst hk
  refine oSp.intro [some (.ref 0), some (.int v), some (.int 1), none] rfl (Nat.le_of_ble_eq_true rfl) (plainFor_of_name (by decide +kernel)) (Nat.le_refl _) ?_
  intro p l e R s m args below meth c C
  refine r_aload_n C rfl rfl dX5_as_0 ?_
  refine r_iload_n C rfl dX5_as_1 ?_
  refine r_callV C (sp_houseAt G (by exact hh) _ hi hv) kv_X5_houseAt kn_X5_houseAt rfl dX5_as_2 cl_X5_77 ⟨Nat.le_of_ble_eq_true rfl, Nat.le_of_ble_eq_true rfl⟩ (by decide) rfl rfl (q_lt hh.1 (by decide)) (Nat.le_refl _) rfl (Nat.le_of_ble_eq_true rfl) ?_
  refine r_astore_n C rfl rfl (Nat.le_of_ble_eq_true rfl) dX5_as_5 ?_
  refine r_aload_n C rfl rfl dX5_as_6 ?_
  refine r_ifnull C dX5_as_7 ?_
  refine r_iload_n C rfl dX5_as_10 ?_
  refine r_iconstv C 0 rfl dX5_as_11 ?_
  refine r_iconstv C 3 rfl dX5_as_12 ?_
  refine r_callS C (sp_isOutside G (show (1 : Int32).toInt = 1 from rfl) (show (0 : Int32).toInt = 0 from rfl) (show (3 : Int32).toInt = 3 from rfl)) ks_X5_isOutside kn_X5_isOutside rfl dX5_as_13 cl_X5_68 ⟨Nat.le_of_ble_eq_true rfl, Nat.le_of_ble_eq_true rfl⟩ (Nat.le_refl _) rfl (Nat.le_of_ble_eq_true rfl) ?_
  refine t_ifb_eq C 22 (by decide) dX5_as_16 (fun c16 => ?_) (fun c16 => ?_)
  · first
    | (exfalso; omega)
    |  (refine r_aload_n C rfl rfl dX5_as_22 ?_
        refine r_iload_n C rfl dX5_as_23 ?_
        refine r_callV C (sp_isOf1 G (tg_hid i) (oHs.lt (by exact hh) hi)) kv_X1_isOf kn_X1_isOf rfl dX5_as_24 cl_X5_194 ⟨Nat.le_of_ble_eq_true rfl, Nat.le_of_ble_eq_true rfl⟩ (by decide) rfl (tg_hid i) (oHs.lt hh hi) (Nat.le_refl _) rfl (Nat.le_of_ble_eq_true rfl) ?_
        refine t_ifb_eq C 37 (by decide) dX5_as_27 (fun c27 => ?_) (fun c27 => ?_)
        · first
          | (exfalso; omega)
          |  (refine r_ldc C _ lc_X5_197 dX5_as_37 ?_
              exact r_iret C dX5_as_39 rfl (Nat.le_refl _) (by (repeat' split) <;> first | rfl | omega) rfl)
        · first
          | (exfalso; omega)
          |  (refine r_aload_n C rfl rfl dX5_as_30 ?_
              refine r_getI C dX5_as_31 fl_X5_161 (tg_hid i) (oHs.lt hh hi) ?_
              refine r_goto C 39 (by decide) dX5_as_34 ?_
              exact r_iret C dX5_as_39 rfl (Nat.le_refl _) (by (repeat' split) <;> first | rfl | omega) rfl))
  · first
    | (exfalso; omega)
    |  (refine r_ldc C _ lc_X5_72 dX5_as_19 ?_
        exact r_iret C dX5_as_21 rfl (Nat.le_refl _) (by (repeat' split) <;> first | rfl | omega) rfl)

set_option maxHeartbeats 4000000 in
set_option maxRecDepth 100000 in
theorem m_as1 (G : oG) {h : oH} (hs : oSh h) {n : Nat} (hn : (hI h 12 1).toInt = (n : Int)) (hn24 : n ≤ 24) (v : Int32) {i : Nat} (hi : i < n) (hv : v.toInt = (i : Int)) (x : Int32) (hk : x.toInt = 1) : oSp G mX6_as [.ref 12, .int v, .int x] h (some (.int (if ((kM h i).toInt = 1 ∨ (kM h i).toInt = 2) then hI h 15 i else -1000004))) (sI h 12 0 0) := by
  refine oSp.intro [some (.ref 12), some (.int v), some (.int x), none] rfl (Nat.le_of_ble_eq_true rfl) (plainFor_of_name (by decide +kernel)) (Nat.le_refl _) ?_
  intro p l e R s m args below meth c C
  refine r_aload_n C rfl rfl dX6_as_0 ?_
  refine r_iconstv C 0 rfl dX6_as_1 ?_
  refine r_putI C dX6_as_2 fl_X6_90 rfl (q_lt hs (by decide)) (Or.inl rfl) ?_
  refine r_aload_n C rfl rfl dX6_as_5 ?_
  refine r_iload_n C rfl dX6_as_6 ?_
  refine r_callV C (sp_isHouse G (by exact hs) (by exact hn) hn24 _) kv_X6_isHouse kn_X6_isHouse rfl dX6_as_7 cl_X6_108 ⟨Nat.le_of_ble_eq_true rfl, Nat.le_of_ble_eq_true rfl⟩ (by decide) rfl rfl (q_lt hs (by decide)) (Nat.le_refl _) rfl (Nat.le_of_ble_eq_true rfl) ?_
  refine t_ifb_eq C 25 (by decide) dX6_as_10 (fun c10 => ?_) (fun c10 => ?_)
  · first
    | (exfalso; omega)
    |  (refine r_ldc C _ lc_X6_106 dX6_as_25 ?_
        exact r_iret C dX6_as_27 rfl (Nat.le_refl _) (by (repeat' split) <;> first | rfl | omega) rfl)
  · first
    | (exfalso; omega)
    |  (refine r_iload_n C rfl dX6_as_13 ?_
        refine r_i2l C dX6_as_14 ?_
        refine r_lconst C 0 rfl dX6_as_15 ?_
        refine r_ldc2 C _ ll_X6_278 dX6_as_16 ?_
        refine r_callS C (sp_in G (tI2L hk) (show (0 : Int64).toInt = 0 from rfl) (show (3 : Int64).toInt = 3 from rfl)) ks_X6_in kn_X6_in rfl dX6_as_19 cl_X6_96 ⟨Nat.le_of_ble_eq_true rfl, Nat.le_of_ble_eq_true rfl⟩ (Nat.le_refl _) rfl (Nat.le_of_ble_eq_true rfl) ?_
        refine t_ifb_ne C 28 (by decide) dX6_as_22 (fun c22 => ?_) (fun c22 => ?_)
        · first
          | (exfalso; omega)
          |  (refine r_aload_n C rfl rfl dX6_as_28 ?_
              refine r_iload_n C rfl dX6_as_29 ?_
              refine r_callV C (sp_kindOf G (by exact hs) _ hv (by omega)) kv_X6_kindOf kn_X6_kindOf rfl dX6_as_30 cl_X6_275 ⟨Nat.le_of_ble_eq_true rfl, Nat.le_of_ble_eq_true rfl⟩ (by decide) rfl rfl (q_lt hs (by decide)) (Nat.le_refl _) rfl (Nat.le_of_ble_eq_true rfl) ?_
              refine r_istore_n C rfl (Nat.le_of_ble_eq_true rfl) dX6_as_33 ?_
              refine r_iload_n C rfl dX6_as_34 ?_
              refine t_if_eq C 53 (by decide) hk dX6_as_35 (fun c35 => ?_) (fun c35 => ?_)
              · first
                | (exfalso; omega)
                |  (refine r_aload_n C rfl rfl dX6_as_53 ?_
                    refine r_getO C dX6_as_54 fl_X6_16 rfl rfl (q_lt hs (by decide)) (sh_12_4 hs) ?_
                    refine r_iload_n C rfl dX6_as_57 ?_
                    refine r_iald C (i) (by have t := hv; omega) (by omega) dX6_as_58 rfl (q_lt hs (by decide)) ?_
                    refine r_goto C 65 (by decide) dX6_as_59 ?_
                    exact r_iret C dX6_as_65 rfl (Nat.le_refl _) (by (repeat' split) <;> first | rfl | omega) rfl)
              · first
                | (exfalso; omega)
                |  (refine r_iload_n C rfl dX6_as_38 ?_
                    refine r_iload_n C rfl dX6_as_39 ?_
                    refine t_icmp_eq C 53 (by decide) (show _ = (kM h i).toInt from rfl) hk dX6_as_40 (fun c40 => ?_) (fun c40 => ?_)
                    · first
                      | (exfalso; omega)
                      |  (refine r_aload_n C rfl rfl dX6_as_53 ?_
                          refine r_getO C dX6_as_54 fl_X6_16 rfl rfl (q_lt hs (by decide)) (sh_12_4 hs) ?_
                          refine r_iload_n C rfl dX6_as_57 ?_
                          refine r_iald C (i) (by have t := hv; omega) (by omega) dX6_as_58 rfl (q_lt hs (by decide)) ?_
                          refine r_goto C 65 (by decide) dX6_as_59 ?_
                          exact r_iret C dX6_as_65 rfl (Nat.le_refl _) (by (repeat' split) <;> first | rfl | omega) rfl)
                    · first
                      | (exfalso; omega)
                      |  (refine r_iload_n C rfl dX6_as_43 ?_
                          refine r_iconstv C 1 rfl dX6_as_44 ?_
                          refine t_icmp_ne C 62 (by decide) hk (show (1 : Int32).toInt = 1 from rfl) dX6_as_45 (fun c45 => ?_) (fun c45 => ?_)
                          · first
                            | (exfalso; omega)
                            |  (refine r_ldcw C _ lc_X6_280 dX6_as_62 ?_
                                exact r_iret C dX6_as_65 rfl (Nat.le_refl _) (by (repeat' split) <;> first | rfl | omega) rfl)
                          · first
                            | (exfalso; omega)
                            |  (refine r_iload_n C rfl dX6_as_48 ?_
                                refine r_iconstv C 2 rfl dX6_as_49 ?_
                                refine t_icmp_ne C 62 (by decide) (show _ = (kM h i).toInt from rfl) (show (2 : Int32).toInt = 2 from rfl) dX6_as_50 (fun c50 => ?_) (fun c50 => ?_)
                                · first
                                  | (exfalso; omega)
                                  |  (refine r_ldcw C _ lc_X6_280 dX6_as_62 ?_
                                      exact r_iret C dX6_as_65 rfl (Nat.le_refl _) (by (repeat' split) <;> first | rfl | omega) rfl)
                                · first
                                  | (exfalso; omega)
                                  |  (refine r_aload_n C rfl rfl dX6_as_53 ?_
                                      refine r_getO C dX6_as_54 fl_X6_16 rfl rfl (q_lt hs (by decide)) (sh_12_4 hs) ?_
                                      refine r_iload_n C rfl dX6_as_57 ?_
                                      refine r_iald C (i) (by have t := hv; omega) (by omega) dX6_as_58 rfl (q_lt hs (by decide)) ?_
                                      refine r_goto C 65 (by decide) dX6_as_59 ?_
                                      exact r_iret C dX6_as_65 rfl (Nat.le_refl _) (by (repeat' split) <;> first | rfl | omega) rfl)))))
        · first
          | (exfalso; omega)
          |  (refine r_ldc C _ lc_X6_106 dX6_as_25 ?_
              exact r_iret C dX6_as_27 rfl (Nat.le_refl _) (by (repeat' split) <;> first | rfl | omega) rfl))

set_option maxHeartbeats 4000000 in
set_option maxRecDepth 100000 in
theorem c_as2 (G : oG) {h : oH} {n : Nat} (hh : oHs h n) (v : Int32) {i : Nat} (hi : i < n) (hv : v.toInt = (i : Int)) (x : Int32) (hk : x = 2) : oSp G mX5_as [.ref 0, .int v, .int x] h (some (.int (if ((3 ≤ (hI h (hid i) 10).toInt ∧ (hI h (hid i) 12).toInt = 0) ∧ (hI h (hid i) 5).toInt = 0 ∧ (hI h (hid i) 7).toInt = 0) then hI h (hid i) 2 else -1000004))) h := by
  subst hk
  refine oSp.intro [some (.ref 0), some (.int v), some (.int 2), none] rfl (Nat.le_of_ble_eq_true rfl) (plainFor_of_name (by decide +kernel)) (Nat.le_refl _) ?_
  intro p l e R s m args below meth c C
  refine r_aload_n C rfl rfl dX5_as_0 ?_
  refine r_iload_n C rfl dX5_as_1 ?_
  refine r_callV C (sp_houseAt G (by exact hh) _ hi hv) kv_X5_houseAt kn_X5_houseAt rfl dX5_as_2 cl_X5_77 ⟨Nat.le_of_ble_eq_true rfl, Nat.le_of_ble_eq_true rfl⟩ (by decide) rfl rfl (q_lt hh.1 (by decide)) (Nat.le_refl _) rfl (Nat.le_of_ble_eq_true rfl) ?_
  refine r_astore_n C rfl rfl (Nat.le_of_ble_eq_true rfl) dX5_as_5 ?_
  refine r_aload_n C rfl rfl dX5_as_6 ?_
  refine r_ifnull C dX5_as_7 ?_
  refine r_iload_n C rfl dX5_as_10 ?_
  refine r_iconstv C 0 rfl dX5_as_11 ?_
  refine r_iconstv C 3 rfl dX5_as_12 ?_
  refine r_callS C (sp_isOutside G (show (2 : Int32).toInt = 2 from rfl) (show (0 : Int32).toInt = 0 from rfl) (show (3 : Int32).toInt = 3 from rfl)) ks_X5_isOutside kn_X5_isOutside rfl dX5_as_13 cl_X5_68 ⟨Nat.le_of_ble_eq_true rfl, Nat.le_of_ble_eq_true rfl⟩ (Nat.le_refl _) rfl (Nat.le_of_ble_eq_true rfl) ?_
  refine t_ifb_eq C 22 (by decide) dX5_as_16 (fun c16 => ?_) (fun c16 => ?_)
  · first
    | (exfalso; omega)
    |  (refine r_aload_n C rfl rfl dX5_as_22 ?_
        refine r_iload_n C rfl dX5_as_23 ?_
        refine r_callV C (sp_isOf2 G (tg_hid i) (oHs.lt (by exact hh) hi)) kv_X1_isOf kn_X1_isOf rfl dX5_as_24 cl_X5_194 ⟨Nat.le_of_ble_eq_true rfl, Nat.le_of_ble_eq_true rfl⟩ (by decide) rfl (tg_hid i) (oHs.lt hh hi) (Nat.le_refl _) rfl (Nat.le_of_ble_eq_true rfl) ?_
        refine t_ifb_eq C 37 (by decide) dX5_as_27 (fun c27 => ?_) (fun c27 => ?_)
        · first
          | (exfalso; omega)
          |  (refine r_ldc C _ lc_X5_197 dX5_as_37 ?_
              exact r_iret C dX5_as_39 rfl (Nat.le_refl _) (by (repeat' split) <;> first | rfl | omega) rfl)
        · first
          | (exfalso; omega)
          |  (refine r_aload_n C rfl rfl dX5_as_30 ?_
              refine r_getI C dX5_as_31 fl_X5_161 (tg_hid i) (oHs.lt hh hi) ?_
              refine r_goto C 39 (by decide) dX5_as_34 ?_
              exact r_iret C dX5_as_39 rfl (Nat.le_refl _) (by (repeat' split) <;> first | rfl | omega) rfl))
  · first
    | (exfalso; omega)
    |  (refine r_ldc C _ lc_X5_72 dX5_as_19 ?_
        exact r_iret C dX5_as_21 rfl (Nat.le_refl _) (by (repeat' split) <;> first | rfl | omega) rfl)

set_option maxHeartbeats 4000000 in
set_option maxRecDepth 100000 in
theorem m_as2 (G : oG) {h : oH} (hs : oSh h) {n : Nat} (hn : (hI h 12 1).toInt = (n : Int)) (hn24 : n ≤ 24) (v : Int32) {i : Nat} (hi : i < n) (hv : v.toInt = (i : Int)) (x : Int32) (hk : x.toInt = 2) : oSp G mX6_as [.ref 12, .int v, .int x] h (some (.int (if ((kM h i).toInt = 2) then hI h 15 i else -1000004))) (sI h 12 0 0) := by
  refine oSp.intro [some (.ref 12), some (.int v), some (.int x), none] rfl (Nat.le_of_ble_eq_true rfl) (plainFor_of_name (by decide +kernel)) (Nat.le_refl _) ?_
  intro p l e R s m args below meth c C
  refine r_aload_n C rfl rfl dX6_as_0 ?_
  refine r_iconstv C 0 rfl dX6_as_1 ?_
  refine r_putI C dX6_as_2 fl_X6_90 rfl (q_lt hs (by decide)) (Or.inl rfl) ?_
  refine r_aload_n C rfl rfl dX6_as_5 ?_
  refine r_iload_n C rfl dX6_as_6 ?_
  refine r_callV C (sp_isHouse G (by exact hs) (by exact hn) hn24 _) kv_X6_isHouse kn_X6_isHouse rfl dX6_as_7 cl_X6_108 ⟨Nat.le_of_ble_eq_true rfl, Nat.le_of_ble_eq_true rfl⟩ (by decide) rfl rfl (q_lt hs (by decide)) (Nat.le_refl _) rfl (Nat.le_of_ble_eq_true rfl) ?_
  refine t_ifb_eq C 25 (by decide) dX6_as_10 (fun c10 => ?_) (fun c10 => ?_)
  · first
    | (exfalso; omega)
    |  (refine r_ldc C _ lc_X6_106 dX6_as_25 ?_
        exact r_iret C dX6_as_27 rfl (Nat.le_refl _) (by (repeat' split) <;> first | rfl | omega) rfl)
  · first
    | (exfalso; omega)
    |  (refine r_iload_n C rfl dX6_as_13 ?_
        refine r_i2l C dX6_as_14 ?_
        refine r_lconst C 0 rfl dX6_as_15 ?_
        refine r_ldc2 C _ ll_X6_278 dX6_as_16 ?_
        refine r_callS C (sp_in G (tI2L hk) (show (0 : Int64).toInt = 0 from rfl) (show (3 : Int64).toInt = 3 from rfl)) ks_X6_in kn_X6_in rfl dX6_as_19 cl_X6_96 ⟨Nat.le_of_ble_eq_true rfl, Nat.le_of_ble_eq_true rfl⟩ (Nat.le_refl _) rfl (Nat.le_of_ble_eq_true rfl) ?_
        refine t_ifb_ne C 28 (by decide) dX6_as_22 (fun c22 => ?_) (fun c22 => ?_)
        · first
          | (exfalso; omega)
          |  (refine r_aload_n C rfl rfl dX6_as_28 ?_
              refine r_iload_n C rfl dX6_as_29 ?_
              refine r_callV C (sp_kindOf G (by exact hs) _ hv (by omega)) kv_X6_kindOf kn_X6_kindOf rfl dX6_as_30 cl_X6_275 ⟨Nat.le_of_ble_eq_true rfl, Nat.le_of_ble_eq_true rfl⟩ (by decide) rfl rfl (q_lt hs (by decide)) (Nat.le_refl _) rfl (Nat.le_of_ble_eq_true rfl) ?_
              refine r_istore_n C rfl (Nat.le_of_ble_eq_true rfl) dX6_as_33 ?_
              refine r_iload_n C rfl dX6_as_34 ?_
              refine t_if_eq C 53 (by decide) hk dX6_as_35 (fun c35 => ?_) (fun c35 => ?_)
              · first
                | (exfalso; omega)
                |  (refine r_aload_n C rfl rfl dX6_as_53 ?_
                    refine r_getO C dX6_as_54 fl_X6_16 rfl rfl (q_lt hs (by decide)) (sh_12_4 hs) ?_
                    refine r_iload_n C rfl dX6_as_57 ?_
                    refine r_iald C (i) (by have t := hv; omega) (by omega) dX6_as_58 rfl (q_lt hs (by decide)) ?_
                    refine r_goto C 65 (by decide) dX6_as_59 ?_
                    exact r_iret C dX6_as_65 rfl (Nat.le_refl _) (by (repeat' split) <;> first | rfl | omega) rfl)
              · first
                | (exfalso; omega)
                |  (refine r_iload_n C rfl dX6_as_38 ?_
                    refine r_iload_n C rfl dX6_as_39 ?_
                    refine t_icmp_eq C 53 (by decide) (show _ = (kM h i).toInt from rfl) hk dX6_as_40 (fun c40 => ?_) (fun c40 => ?_)
                    · first
                      | (exfalso; omega)
                      |  (refine r_aload_n C rfl rfl dX6_as_53 ?_
                          refine r_getO C dX6_as_54 fl_X6_16 rfl rfl (q_lt hs (by decide)) (sh_12_4 hs) ?_
                          refine r_iload_n C rfl dX6_as_57 ?_
                          refine r_iald C (i) (by have t := hv; omega) (by omega) dX6_as_58 rfl (q_lt hs (by decide)) ?_
                          refine r_goto C 65 (by decide) dX6_as_59 ?_
                          exact r_iret C dX6_as_65 rfl (Nat.le_refl _) (by (repeat' split) <;> first | rfl | omega) rfl)
                    · first
                      | (exfalso; omega)
                      |  (refine r_iload_n C rfl dX6_as_43 ?_
                          refine r_iconstv C 1 rfl dX6_as_44 ?_
                          refine t_icmp_ne C 62 (by decide) hk (show (1 : Int32).toInt = 1 from rfl) dX6_as_45 (fun c45 => ?_) (fun c45 => ?_)
                          · first
                            | (exfalso; omega)
                            |  (refine r_ldcw C _ lc_X6_280 dX6_as_62 ?_
                                exact r_iret C dX6_as_65 rfl (Nat.le_refl _) (by (repeat' split) <;> first | rfl | omega) rfl)
                          · first
                            | (exfalso; omega)
                            |  (refine r_iload_n C rfl dX6_as_48 ?_
                                refine r_iconstv C 2 rfl dX6_as_49 ?_
                                refine t_icmp_ne C 62 (by decide) (show _ = (kM h i).toInt from rfl) (show (2 : Int32).toInt = 2 from rfl) dX6_as_50 (fun c50 => ?_) (fun c50 => ?_)
                                · first
                                  | (exfalso; omega)
                                  |  (refine r_ldcw C _ lc_X6_280 dX6_as_62 ?_
                                      exact r_iret C dX6_as_65 rfl (Nat.le_refl _) (by (repeat' split) <;> first | rfl | omega) rfl)
                                · first
                                  | (exfalso; omega)
                                  |  (refine r_aload_n C rfl rfl dX6_as_53 ?_
                                      refine r_getO C dX6_as_54 fl_X6_16 rfl rfl (q_lt hs (by decide)) (sh_12_4 hs) ?_
                                      refine r_iload_n C rfl dX6_as_57 ?_
                                      refine r_iald C (i) (by have t := hv; omega) (by omega) dX6_as_58 rfl (q_lt hs (by decide)) ?_
                                      refine r_goto C 65 (by decide) dX6_as_59 ?_
                                      exact r_iret C dX6_as_65 rfl (Nat.le_refl _) (by (repeat' split) <;> first | rfl | omega) rfl)))))
        · first
          | (exfalso; omega)
          |  (refine r_ldc C _ lc_X6_106 dX6_as_25 ?_
              exact r_iret C dX6_as_27 rfl (Nat.le_refl _) (by (repeat' split) <;> first | rfl | omega) rfl))

set_option maxHeartbeats 4000000 in
set_option maxRecDepth 100000 in
theorem c_as3 (G : oG) {h : oH} {n : Nat} (hh : oHs h n) (v : Int32) {i : Nat} (hi : i < n) (hv : v.toInt = (i : Int)) (x : Int32) (hk : x = 3) : oSp G mX5_as [.ref 0, .int v, .int x] h (some (.int (if ((hI h (hid i) 11).toInt = 1) then hI h (hid i) 2 else -1000004))) h := by
  subst hk
  refine oSp.intro [some (.ref 0), some (.int v), some (.int 3), none] rfl (Nat.le_of_ble_eq_true rfl) (plainFor_of_name (by decide +kernel)) (Nat.le_refl _) ?_
  intro p l e R s m args below meth c C
  refine r_aload_n C rfl rfl dX5_as_0 ?_
  refine r_iload_n C rfl dX5_as_1 ?_
  refine r_callV C (sp_houseAt G (by exact hh) _ hi hv) kv_X5_houseAt kn_X5_houseAt rfl dX5_as_2 cl_X5_77 ⟨Nat.le_of_ble_eq_true rfl, Nat.le_of_ble_eq_true rfl⟩ (by decide) rfl rfl (q_lt hh.1 (by decide)) (Nat.le_refl _) rfl (Nat.le_of_ble_eq_true rfl) ?_
  refine r_astore_n C rfl rfl (Nat.le_of_ble_eq_true rfl) dX5_as_5 ?_
  refine r_aload_n C rfl rfl dX5_as_6 ?_
  refine r_ifnull C dX5_as_7 ?_
  refine r_iload_n C rfl dX5_as_10 ?_
  refine r_iconstv C 0 rfl dX5_as_11 ?_
  refine r_iconstv C 3 rfl dX5_as_12 ?_
  refine r_callS C (sp_isOutside G (show (3 : Int32).toInt = 3 from rfl) (show (0 : Int32).toInt = 0 from rfl) (show (3 : Int32).toInt = 3 from rfl)) ks_X5_isOutside kn_X5_isOutside rfl dX5_as_13 cl_X5_68 ⟨Nat.le_of_ble_eq_true rfl, Nat.le_of_ble_eq_true rfl⟩ (Nat.le_refl _) rfl (Nat.le_of_ble_eq_true rfl) ?_
  refine t_ifb_eq C 22 (by decide) dX5_as_16 (fun c16 => ?_) (fun c16 => ?_)
  · first
    | (exfalso; omega)
    |  (refine r_aload_n C rfl rfl dX5_as_22 ?_
        refine r_iload_n C rfl dX5_as_23 ?_
        refine r_callV C (sp_isOf3 G (tg_hid i) (oHs.lt (by exact hh) hi)) kv_X1_isOf kn_X1_isOf rfl dX5_as_24 cl_X5_194 ⟨Nat.le_of_ble_eq_true rfl, Nat.le_of_ble_eq_true rfl⟩ (by decide) rfl (tg_hid i) (oHs.lt hh hi) (Nat.le_refl _) rfl (Nat.le_of_ble_eq_true rfl) ?_
        refine t_ifb_eq C 37 (by decide) dX5_as_27 (fun c27 => ?_) (fun c27 => ?_)
        · first
          | (exfalso; omega)
          |  (refine r_ldc C _ lc_X5_197 dX5_as_37 ?_
              exact r_iret C dX5_as_39 rfl (Nat.le_refl _) (by (repeat' split) <;> first | rfl | omega) rfl)
        · first
          | (exfalso; omega)
          |  (refine r_aload_n C rfl rfl dX5_as_30 ?_
              refine r_getI C dX5_as_31 fl_X5_161 (tg_hid i) (oHs.lt hh hi) ?_
              refine r_goto C 39 (by decide) dX5_as_34 ?_
              exact r_iret C dX5_as_39 rfl (Nat.le_refl _) (by (repeat' split) <;> first | rfl | omega) rfl))
  · first
    | (exfalso; omega)
    |  (refine r_ldc C _ lc_X5_72 dX5_as_19 ?_
        exact r_iret C dX5_as_21 rfl (Nat.le_refl _) (by (repeat' split) <;> first | rfl | omega) rfl)

set_option maxHeartbeats 4000000 in
set_option maxRecDepth 100000 in
theorem m_as3 (G : oG) {h : oH} (hs : oSh h) {n : Nat} (hn : (hI h 12 1).toInt = (n : Int)) (hn24 : n ≤ 24) (v : Int32) {i : Nat} (hi : i < n) (hv : v.toInt = (i : Int)) (x : Int32) (hk : x.toInt = 3) : oSp G mX6_as [.ref 12, .int v, .int x] h (some (.int (if ((kM h i).toInt = 3) then hI h 15 i else -1000004))) (sI h 12 0 0) := by
  refine oSp.intro [some (.ref 12), some (.int v), some (.int x), none] rfl (Nat.le_of_ble_eq_true rfl) (plainFor_of_name (by decide +kernel)) (Nat.le_refl _) ?_
  intro p l e R s m args below meth c C
  refine r_aload_n C rfl rfl dX6_as_0 ?_
  refine r_iconstv C 0 rfl dX6_as_1 ?_
  refine r_putI C dX6_as_2 fl_X6_90 rfl (q_lt hs (by decide)) (Or.inl rfl) ?_
  refine r_aload_n C rfl rfl dX6_as_5 ?_
  refine r_iload_n C rfl dX6_as_6 ?_
  refine r_callV C (sp_isHouse G (by exact hs) (by exact hn) hn24 _) kv_X6_isHouse kn_X6_isHouse rfl dX6_as_7 cl_X6_108 ⟨Nat.le_of_ble_eq_true rfl, Nat.le_of_ble_eq_true rfl⟩ (by decide) rfl rfl (q_lt hs (by decide)) (Nat.le_refl _) rfl (Nat.le_of_ble_eq_true rfl) ?_
  refine t_ifb_eq C 25 (by decide) dX6_as_10 (fun c10 => ?_) (fun c10 => ?_)
  · first
    | (exfalso; omega)
    |  (refine r_ldc C _ lc_X6_106 dX6_as_25 ?_
        exact r_iret C dX6_as_27 rfl (Nat.le_refl _) (by (repeat' split) <;> first | rfl | omega) rfl)
  · first
    | (exfalso; omega)
    |  (refine r_iload_n C rfl dX6_as_13 ?_
        refine r_i2l C dX6_as_14 ?_
        refine r_lconst C 0 rfl dX6_as_15 ?_
        refine r_ldc2 C _ ll_X6_278 dX6_as_16 ?_
        refine r_callS C (sp_in G (tI2L hk) (show (0 : Int64).toInt = 0 from rfl) (show (3 : Int64).toInt = 3 from rfl)) ks_X6_in kn_X6_in rfl dX6_as_19 cl_X6_96 ⟨Nat.le_of_ble_eq_true rfl, Nat.le_of_ble_eq_true rfl⟩ (Nat.le_refl _) rfl (Nat.le_of_ble_eq_true rfl) ?_
        refine t_ifb_ne C 28 (by decide) dX6_as_22 (fun c22 => ?_) (fun c22 => ?_)
        · first
          | (exfalso; omega)
          |  (refine r_aload_n C rfl rfl dX6_as_28 ?_
              refine r_iload_n C rfl dX6_as_29 ?_
              refine r_callV C (sp_kindOf G (by exact hs) _ hv (by omega)) kv_X6_kindOf kn_X6_kindOf rfl dX6_as_30 cl_X6_275 ⟨Nat.le_of_ble_eq_true rfl, Nat.le_of_ble_eq_true rfl⟩ (by decide) rfl rfl (q_lt hs (by decide)) (Nat.le_refl _) rfl (Nat.le_of_ble_eq_true rfl) ?_
              refine r_istore_n C rfl (Nat.le_of_ble_eq_true rfl) dX6_as_33 ?_
              refine r_iload_n C rfl dX6_as_34 ?_
              refine t_if_eq C 53 (by decide) hk dX6_as_35 (fun c35 => ?_) (fun c35 => ?_)
              · first
                | (exfalso; omega)
                |  (refine r_aload_n C rfl rfl dX6_as_53 ?_
                    refine r_getO C dX6_as_54 fl_X6_16 rfl rfl (q_lt hs (by decide)) (sh_12_4 hs) ?_
                    refine r_iload_n C rfl dX6_as_57 ?_
                    refine r_iald C (i) (by have t := hv; omega) (by omega) dX6_as_58 rfl (q_lt hs (by decide)) ?_
                    refine r_goto C 65 (by decide) dX6_as_59 ?_
                    exact r_iret C dX6_as_65 rfl (Nat.le_refl _) (by (repeat' split) <;> first | rfl | omega) rfl)
              · first
                | (exfalso; omega)
                |  (refine r_iload_n C rfl dX6_as_38 ?_
                    refine r_iload_n C rfl dX6_as_39 ?_
                    refine t_icmp_eq C 53 (by decide) (show _ = (kM h i).toInt from rfl) hk dX6_as_40 (fun c40 => ?_) (fun c40 => ?_)
                    · first
                      | (exfalso; omega)
                      |  (refine r_aload_n C rfl rfl dX6_as_53 ?_
                          refine r_getO C dX6_as_54 fl_X6_16 rfl rfl (q_lt hs (by decide)) (sh_12_4 hs) ?_
                          refine r_iload_n C rfl dX6_as_57 ?_
                          refine r_iald C (i) (by have t := hv; omega) (by omega) dX6_as_58 rfl (q_lt hs (by decide)) ?_
                          refine r_goto C 65 (by decide) dX6_as_59 ?_
                          exact r_iret C dX6_as_65 rfl (Nat.le_refl _) (by (repeat' split) <;> first | rfl | omega) rfl)
                    · first
                      | (exfalso; omega)
                      |  (refine r_iload_n C rfl dX6_as_43 ?_
                          refine r_iconstv C 1 rfl dX6_as_44 ?_
                          refine t_icmp_ne C 62 (by decide) hk (show (1 : Int32).toInt = 1 from rfl) dX6_as_45 (fun c45 => ?_) (fun c45 => ?_)
                          · first
                            | (exfalso; omega)
                            |  (refine r_ldcw C _ lc_X6_280 dX6_as_62 ?_
                                exact r_iret C dX6_as_65 rfl (Nat.le_refl _) (by (repeat' split) <;> first | rfl | omega) rfl)
                          · first
                            | (exfalso; omega)
                            |  (refine r_iload_n C rfl dX6_as_48 ?_
                                refine r_iconstv C 2 rfl dX6_as_49 ?_
                                refine t_icmp_ne C 62 (by decide) (show _ = (kM h i).toInt from rfl) (show (2 : Int32).toInt = 2 from rfl) dX6_as_50 (fun c50 => ?_) (fun c50 => ?_)
                                · first
                                  | (exfalso; omega)
                                  |  (refine r_ldcw C _ lc_X6_280 dX6_as_62 ?_
                                      exact r_iret C dX6_as_65 rfl (Nat.le_refl _) (by (repeat' split) <;> first | rfl | omega) rfl)
                                · first
                                  | (exfalso; omega)
                                  |  (refine r_aload_n C rfl rfl dX6_as_53 ?_
                                      refine r_getO C dX6_as_54 fl_X6_16 rfl rfl (q_lt hs (by decide)) (sh_12_4 hs) ?_
                                      refine r_iload_n C rfl dX6_as_57 ?_
                                      refine r_iald C (i) (by have t := hv; omega) (by omega) dX6_as_58 rfl (q_lt hs (by decide)) ?_
                                      refine r_goto C 65 (by decide) dX6_as_59 ?_
                                      exact r_iret C dX6_as_65 rfl (Nat.le_refl _) (by (repeat' split) <;> first | rfl | omega) rfl)))))
        · first
          | (exfalso; omega)
          |  (refine r_ldc C _ lc_X6_106 dX6_as_25 ?_
              exact r_iret C dX6_as_27 rfl (Nat.le_refl _) (by (repeat' split) <;> first | rfl | omega) rfl))

set_option maxHeartbeats 4000000 in
set_option maxRecDepth 100000 in
theorem c_asX (G : oG) {h : oH} {n : Nat} (hh : oHs h n) (v : Int32) {i : Nat} (hi : i < n) (hv : v.toInt = (i : Int)) (x : Int32) (hx : ¬ (0 ≤ x.toInt ∧ x.toInt ≤ 3)) : oSp G mX5_as [.ref 0, .int v, .int x] h (some (.int (-1000001))) h := by
  refine oSp.intro [some (.ref 0), some (.int v), some (.int x), none] rfl (Nat.le_of_ble_eq_true rfl) (plainFor_of_name (by decide +kernel)) (Nat.le_refl _) ?_
  intro p l e R s m args below meth c C
  refine r_aload_n C rfl rfl dX5_as_0 ?_
  refine r_iload_n C rfl dX5_as_1 ?_
  refine r_callV C (sp_houseAt G (by exact hh) _ hi hv) kv_X5_houseAt kn_X5_houseAt rfl dX5_as_2 cl_X5_77 ⟨Nat.le_of_ble_eq_true rfl, Nat.le_of_ble_eq_true rfl⟩ (by decide) rfl rfl (q_lt hh.1 (by decide)) (Nat.le_refl _) rfl (Nat.le_of_ble_eq_true rfl) ?_
  refine r_astore_n C rfl rfl (Nat.le_of_ble_eq_true rfl) dX5_as_5 ?_
  refine r_aload_n C rfl rfl dX5_as_6 ?_
  refine r_ifnull C dX5_as_7 ?_
  refine r_iload_n C rfl dX5_as_10 ?_
  refine r_iconstv C 0 rfl dX5_as_11 ?_
  refine r_iconstv C 3 rfl dX5_as_12 ?_
  refine r_callS C (sp_isOutside G rfl (show (0 : Int32).toInt = 0 from rfl) (show (3 : Int32).toInt = 3 from rfl)) ks_X5_isOutside kn_X5_isOutside rfl dX5_as_13 cl_X5_68 ⟨Nat.le_of_ble_eq_true rfl, Nat.le_of_ble_eq_true rfl⟩ (Nat.le_refl _) rfl (Nat.le_of_ble_eq_true rfl) ?_
  refine t_ifb_eq C 22 (by decide) dX5_as_16 (fun c16 => ?_) (fun c16 => ?_)
  · first
    | (exfalso; omega)
  · first
    | (exfalso; omega)
    |  (refine r_ldc C _ lc_X5_72 dX5_as_19 ?_
        exact r_iret C dX5_as_21 rfl (Nat.le_refl _) rfl rfl)

set_option maxHeartbeats 4000000 in
set_option maxRecDepth 100000 in
theorem c_asN (G : oG) {h : oH} {n : Nat} (hh : oHs h n) (v : Int32) (hv : ¬ (0 ≤ v.toInt ∧ v.toInt < n)) (x : Int32) : oSp G mX5_as [.ref 0, .int v, .int x] h (some (.int (-1000001))) h := by
  refine oSp.intro [some (.ref 0), some (.int v), some (.int x), none] rfl (Nat.le_of_ble_eq_true rfl) (plainFor_of_name (by decide +kernel)) (Nat.le_refl _) ?_
  intro p l e R s m args below meth c C
  refine r_aload_n C rfl rfl dX5_as_0 ?_
  refine r_iload_n C rfl dX5_as_1 ?_
  refine r_callV C (sp_houseAtN G (by exact hh) _ hv) kv_X5_houseAt kn_X5_houseAt rfl dX5_as_2 cl_X5_77 ⟨Nat.le_of_ble_eq_true rfl, Nat.le_of_ble_eq_true rfl⟩ (by decide) rfl rfl (q_lt hh.1 (by decide)) (Nat.le_refl _) rfl (Nat.le_of_ble_eq_true rfl) ?_
  refine r_astore_n C rfl rfl (Nat.le_of_ble_eq_true rfl) dX5_as_5 ?_
  refine r_aload_n C rfl rfl dX5_as_6 ?_
  refine r_ifnullN C 19 (by decide) dX5_as_7 ?_
  refine r_ldc C _ lc_X5_72 dX5_as_19 ?_
  exact r_iret C dX5_as_21 rfl (Nat.le_refl _) rfl rfl

set_option maxHeartbeats 4000000 in
set_option maxRecDepth 100000 in
theorem m_asX (G : oG) {h : oH} (hs : oSh h) {n : Nat} (hn : (hI h 12 1).toInt = (n : Int)) (hn24 : n ≤ 24) (v : Int32) {i : Nat} (hi : i < n) (hv : v.toInt = (i : Int)) (x : Int32) (hx : ¬ (0 ≤ x.toInt ∧ x.toInt ≤ 3)) : oSp G mX6_as [.ref 12, .int v, .int x] h (some (.int (-1000001))) (sI h 12 0 0) := by
  refine oSp.intro [some (.ref 12), some (.int v), some (.int x), none] rfl (Nat.le_of_ble_eq_true rfl) (plainFor_of_name (by decide +kernel)) (Nat.le_refl _) ?_
  intro p l e R s m args below meth c C
  refine r_aload_n C rfl rfl dX6_as_0 ?_
  refine r_iconstv C 0 rfl dX6_as_1 ?_
  refine r_putI C dX6_as_2 fl_X6_90 rfl (q_lt hs (by decide)) (Or.inl rfl) ?_
  refine r_aload_n C rfl rfl dX6_as_5 ?_
  refine r_iload_n C rfl dX6_as_6 ?_
  refine r_callV C (sp_isHouse G (by exact hs) (by exact hn) hn24 _) kv_X6_isHouse kn_X6_isHouse rfl dX6_as_7 cl_X6_108 ⟨Nat.le_of_ble_eq_true rfl, Nat.le_of_ble_eq_true rfl⟩ (by decide) rfl rfl (q_lt hs (by decide)) (Nat.le_refl _) rfl (Nat.le_of_ble_eq_true rfl) ?_
  refine t_ifb_eq C 25 (by decide) dX6_as_10 (fun c10 => ?_) (fun c10 => ?_)
  · first
    | (exfalso; omega)
    |  (refine r_ldc C _ lc_X6_106 dX6_as_25 ?_
        exact r_iret C dX6_as_27 rfl (Nat.le_refl _) rfl rfl)
  · first
    | (exfalso; omega)
    |  (refine r_iload_n C rfl dX6_as_13 ?_
        refine r_i2l C dX6_as_14 ?_
        refine r_lconst C 0 rfl dX6_as_15 ?_
        refine r_ldc2 C _ ll_X6_278 dX6_as_16 ?_
        refine r_callS C (sp_in G (tI2L rfl) (show (0 : Int64).toInt = 0 from rfl) (show (3 : Int64).toInt = 3 from rfl)) ks_X6_in kn_X6_in rfl dX6_as_19 cl_X6_96 ⟨Nat.le_of_ble_eq_true rfl, Nat.le_of_ble_eq_true rfl⟩ (Nat.le_refl _) rfl (Nat.le_of_ble_eq_true rfl) ?_
        refine t_ifb_ne C 28 (by decide) dX6_as_22 (fun c22 => ?_) (fun c22 => ?_)
        · first
          | (exfalso; omega)
          |  (refine r_aload_n C rfl rfl dX6_as_28 ?_
              refine r_iload_n C rfl dX6_as_29 ?_
              refine r_callV C (sp_kindOf G (by exact hs) _ hv (by omega)) kv_X6_kindOf kn_X6_kindOf rfl dX6_as_30 cl_X6_275 ⟨Nat.le_of_ble_eq_true rfl, Nat.le_of_ble_eq_true rfl⟩ (by decide) rfl rfl (q_lt hs (by decide)) (Nat.le_refl _) rfl (Nat.le_of_ble_eq_true rfl) ?_
              refine r_istore_n C rfl (Nat.le_of_ble_eq_true rfl) dX6_as_33 ?_
              refine r_iload_n C rfl dX6_as_34 ?_
              refine t_if_eq C 53 (by decide) rfl dX6_as_35 (fun c35 => ?_) (fun c35 => ?_)
              · first
                | (exfalso; omega)
                |  (refine r_aload_n C rfl rfl dX6_as_53 ?_
                    refine r_getO C dX6_as_54 fl_X6_16 rfl rfl (q_lt hs (by decide)) (sh_12_4 hs) ?_
                    refine r_iload_n C rfl dX6_as_57 ?_
                    refine r_iald C (i) (by have t := hv; omega) (by omega) dX6_as_58 rfl (q_lt hs (by decide)) ?_
                    refine r_goto C 65 (by decide) dX6_as_59 ?_
                    exact r_iret C dX6_as_65 rfl (Nat.le_refl _) rfl rfl)
              · first
                | (exfalso; omega)
                |  (refine r_iload_n C rfl dX6_as_38 ?_
                    refine r_iload_n C rfl dX6_as_39 ?_
                    refine t_icmp_eq C 53 (by decide) rfl rfl dX6_as_40 (fun c40 => ?_) (fun c40 => ?_)
                    · first
                      | (exfalso; omega)
                      |  (refine r_aload_n C rfl rfl dX6_as_53 ?_
                          refine r_getO C dX6_as_54 fl_X6_16 rfl rfl (q_lt hs (by decide)) (sh_12_4 hs) ?_
                          refine r_iload_n C rfl dX6_as_57 ?_
                          refine r_iald C (i) (by have t := hv; omega) (by omega) dX6_as_58 rfl (q_lt hs (by decide)) ?_
                          refine r_goto C 65 (by decide) dX6_as_59 ?_
                          exact r_iret C dX6_as_65 rfl (Nat.le_refl _) rfl rfl)
                    · first
                      | (exfalso; omega)
                      |  (refine r_iload_n C rfl dX6_as_43 ?_
                          refine r_iconstv C 1 rfl dX6_as_44 ?_
                          refine t_icmp_ne C 62 (by decide) rfl (show (1 : Int32).toInt = 1 from rfl) dX6_as_45 (fun c45 => ?_) (fun c45 => ?_)
                          · first
                            | (exfalso; omega)
                            |  (refine r_ldcw C _ lc_X6_280 dX6_as_62 ?_
                                exact r_iret C dX6_as_65 rfl (Nat.le_refl _) rfl rfl)
                          · first
                            | (exfalso; omega)
                            |  (refine r_iload_n C rfl dX6_as_48 ?_
                                refine r_iconstv C 2 rfl dX6_as_49 ?_
                                refine t_icmp_ne C 62 (by decide) rfl (show (2 : Int32).toInt = 2 from rfl) dX6_as_50 (fun c50 => ?_) (fun c50 => ?_)
                                · first
                                  | (exfalso; omega)
                                  |  (refine r_ldcw C _ lc_X6_280 dX6_as_62 ?_
                                      exact r_iret C dX6_as_65 rfl (Nat.le_refl _) rfl rfl)
                                · first
                                  | (exfalso; omega)
                                  |  (refine r_aload_n C rfl rfl dX6_as_53 ?_
                                      refine r_getO C dX6_as_54 fl_X6_16 rfl rfl (q_lt hs (by decide)) (sh_12_4 hs) ?_
                                      refine r_iload_n C rfl dX6_as_57 ?_
                                      refine r_iald C (i) (by have t := hv; omega) (by omega) dX6_as_58 rfl (q_lt hs (by decide)) ?_
                                      refine r_goto C 65 (by decide) dX6_as_59 ?_
                                      exact r_iret C dX6_as_65 rfl (Nat.le_refl _) rfl rfl)))))
        · first
          | (exfalso; omega)
          |  (refine r_ldc C _ lc_X6_106 dX6_as_25 ?_
              exact r_iret C dX6_as_27 rfl (Nat.le_refl _) rfl rfl))

set_option maxHeartbeats 4000000 in
set_option maxRecDepth 100000 in
theorem m_asN (G : oG) {h : oH} (hs : oSh h) {n : Nat} (hn : (hI h 12 1).toInt = (n : Int)) (hn24 : n ≤ 24) (v : Int32) (hv : ¬ (0 ≤ v.toInt ∧ v.toInt < n)) (x : Int32) : oSp G mX6_as [.ref 12, .int v, .int x] h (some (.int (-1000001))) (sI h 12 0 0) := by
  refine oSp.intro [some (.ref 12), some (.int v), some (.int x), none] rfl (Nat.le_of_ble_eq_true rfl) (plainFor_of_name (by decide +kernel)) (Nat.le_refl _) ?_
  intro p l e R s m args below meth c C
  refine r_aload_n C rfl rfl dX6_as_0 ?_
  refine r_iconstv C 0 rfl dX6_as_1 ?_
  refine r_putI C dX6_as_2 fl_X6_90 rfl (q_lt hs (by decide)) (Or.inl rfl) ?_
  refine r_aload_n C rfl rfl dX6_as_5 ?_
  refine r_iload_n C rfl dX6_as_6 ?_
  refine r_callV C (sp_isHouse G (by exact hs) (by exact hn) hn24 _) kv_X6_isHouse kn_X6_isHouse rfl dX6_as_7 cl_X6_108 ⟨Nat.le_of_ble_eq_true rfl, Nat.le_of_ble_eq_true rfl⟩ (by decide) rfl rfl (q_lt hs (by decide)) (Nat.le_refl _) rfl (Nat.le_of_ble_eq_true rfl) ?_
  refine t_ifb_eq C 25 (by decide) dX6_as_10 (fun c10 => ?_) (fun c10 => ?_)
  · first
    | (exfalso; omega)
    |  (refine r_ldc C _ lc_X6_106 dX6_as_25 ?_
        exact r_iret C dX6_as_27 rfl (Nat.le_refl _) rfl rfl)
  · first
    | (exfalso; omega)
    |  (refine r_iload_n C rfl dX6_as_13 ?_
        refine r_i2l C dX6_as_14 ?_
        refine r_lconst C 0 rfl dX6_as_15 ?_
        refine r_ldc2 C _ ll_X6_278 dX6_as_16 ?_
        refine r_callS C (sp_in G (tI2L rfl) (show (0 : Int64).toInt = 0 from rfl) (show (3 : Int64).toInt = 3 from rfl)) ks_X6_in kn_X6_in rfl dX6_as_19 cl_X6_96 ⟨Nat.le_of_ble_eq_true rfl, Nat.le_of_ble_eq_true rfl⟩ (Nat.le_refl _) rfl (Nat.le_of_ble_eq_true rfl) ?_
        refine t_ifb_ne C 28 (by decide) dX6_as_22 (fun c22 => ?_) (fun c22 => ?_)
        · first
          | (exfalso; omega)
          |  (refine r_aload_n C rfl rfl dX6_as_28 ?_
              refine r_iload_n C rfl dX6_as_29 ?_
              refine r_callV C (sp_kindOf G (by exact hs) _ (i := 0) (by omega) (by omega)) kv_X6_kindOf kn_X6_kindOf rfl dX6_as_30 cl_X6_275 ⟨Nat.le_of_ble_eq_true rfl, Nat.le_of_ble_eq_true rfl⟩ (by decide) rfl rfl (q_lt hs (by decide)) (Nat.le_refl _) rfl (Nat.le_of_ble_eq_true rfl) ?_
              refine r_istore_n C rfl (Nat.le_of_ble_eq_true rfl) dX6_as_33 ?_
              refine r_iload_n C rfl dX6_as_34 ?_
              refine t_if_eq C 53 (by decide) rfl dX6_as_35 (fun c35 => ?_) (fun c35 => ?_)
              · first
                | (exfalso; omega)
                |  (refine r_aload_n C rfl rfl dX6_as_53 ?_
                    refine r_getO C dX6_as_54 fl_X6_16 rfl rfl (q_lt hs (by decide)) (sh_12_4 hs) ?_
                    refine r_iload_n C rfl dX6_as_57 ?_
                    refine r_iald C (v.toInt) rfl (by omega) dX6_as_58 rfl (q_lt hs (by decide)) ?_
                    refine r_goto C 65 (by decide) dX6_as_59 ?_
                    exact r_iret C dX6_as_65 rfl (Nat.le_refl _) rfl rfl)
              · first
                | (exfalso; omega)
                |  (refine r_iload_n C rfl dX6_as_38 ?_
                    refine r_iload_n C rfl dX6_as_39 ?_
                    refine t_icmp_eq C 53 (by decide) rfl rfl dX6_as_40 (fun c40 => ?_) (fun c40 => ?_)
                    · first
                      | (exfalso; omega)
                      |  (refine r_aload_n C rfl rfl dX6_as_53 ?_
                          refine r_getO C dX6_as_54 fl_X6_16 rfl rfl (q_lt hs (by decide)) (sh_12_4 hs) ?_
                          refine r_iload_n C rfl dX6_as_57 ?_
                          refine r_iald C (v.toInt) rfl (by omega) dX6_as_58 rfl (q_lt hs (by decide)) ?_
                          refine r_goto C 65 (by decide) dX6_as_59 ?_
                          exact r_iret C dX6_as_65 rfl (Nat.le_refl _) rfl rfl)
                    · first
                      | (exfalso; omega)
                      |  (refine r_iload_n C rfl dX6_as_43 ?_
                          refine r_iconstv C 1 rfl dX6_as_44 ?_
                          refine t_icmp_ne C 62 (by decide) rfl (show (1 : Int32).toInt = 1 from rfl) dX6_as_45 (fun c45 => ?_) (fun c45 => ?_)
                          · first
                            | (exfalso; omega)
                            |  (refine r_ldcw C _ lc_X6_280 dX6_as_62 ?_
                                exact r_iret C dX6_as_65 rfl (Nat.le_refl _) rfl rfl)
                          · first
                            | (exfalso; omega)
                            |  (refine r_iload_n C rfl dX6_as_48 ?_
                                refine r_iconstv C 2 rfl dX6_as_49 ?_
                                refine t_icmp_ne C 62 (by decide) rfl (show (2 : Int32).toInt = 2 from rfl) dX6_as_50 (fun c50 => ?_) (fun c50 => ?_)
                                · first
                                  | (exfalso; omega)
                                  |  (refine r_ldcw C _ lc_X6_280 dX6_as_62 ?_
                                      exact r_iret C dX6_as_65 rfl (Nat.le_refl _) rfl rfl)
                                · first
                                  | (exfalso; omega)
                                  |  (refine r_aload_n C rfl rfl dX6_as_53 ?_
                                      refine r_getO C dX6_as_54 fl_X6_16 rfl rfl (q_lt hs (by decide)) (sh_12_4 hs) ?_
                                      refine r_iload_n C rfl dX6_as_57 ?_
                                      refine r_iald C (v.toInt) rfl (by omega) dX6_as_58 rfl (q_lt hs (by decide)) ?_
                                      refine r_goto C 65 (by decide) dX6_as_59 ?_
                                      exact r_iret C dX6_as_65 rfl (Nat.le_refl _) rfl rfl)))))
        · first
          | (exfalso; omega)
          |  (refine r_ldc C _ lc_X6_106 dX6_as_25 ?_
              exact r_iret C dX6_as_27 rfl (Nat.le_refl _) rfl rfl))

set_option maxHeartbeats 4000000 in
set_option maxRecDepth 100000 in
theorem case_as (G : oG) {h : oH} {n T : Nat} (I : Inv h n T) (v x : Int32) : Case G mX5_as mX6_as [.int v, .int x] h n T := by
  obtain ⟨⟨a1, a2, a3⟩, ⟨b1, b2, b3⟩, ⟨c1, c2, c3⟩, ⟨d1, d2, d3⟩, ⟨e1, e2, e3⟩, ⟨f1, f2, f3⟩, g1, g2, g3⟩ := id I.2.2.1
  have hs := I.1.1
  have hh := I.1
  by_cases hval : 0 ≤ v.toInt ∧ v.toInt < n
  · obtain ⟨i, hi, hv⟩ : ∃ i : Nat, i < n ∧ v.toInt = (i : Int) := ⟨v.toInt.toNat, by omega, by omega⟩
    have hn := I.2.1.2
    have h24 := hh.2.2.1
    obtain ⟨Ie, Ib⟩ := I.2.2.2.1 i hi
    by_cases hx : 0 ≤ x.toInt ∧ x.toInt ≤ 3
    · obtain ⟨q0, q1, q2, q3, q4, q5, q6, q7, q8, q9, q10, q11, q12, q13, q14⟩ := id Ie
      obtain ⟨-, -, -, -, -, -, -, w8, w9, w10, w11, -⟩ := id Ib
      have ke : kM h i = kM h i := rfl
      rcases (show x.toInt = 0 ∨ x.toInt = 1 ∨ x.toInt = 2 ∨ x.toInt = 3 by omega) with hk | hk | hk | hk
      · exact case_same G I (c_as0 G hh v hi hv x (Int32.toInt_inj.mp hk)) (m_as0 G hs hn h24 v hi hv x hk) (by rw [if_pos trivial, if_pos trivial, q2])
      · refine case_same G I (c_as1 G hh v hi hv x (Int32.toInt_inj.mp hk)) (m_as1 G hs hn h24 v hi hv x hk) ?_
        simp only [q2, q4, q6, q9, q10, q11]
        have e3 : (3 : Int32).toInt = 3 := rfl
        have e2 : (2 : Int32).toInt = 2 := rfl
        have e1 : (1 : Int32).toInt = 1 := rfl
        have e0 : (0 : Int32).toInt = 0 := rfl
        have hkm : (kM h i).toInt = if (hI h 20 i).toInt = 1 then 3 else if (hI h 19 i).toInt < 3 ∨ ¬ (hI h 21 i).toInt = 0 then 0 else if (hI h 16 (4 * i + 1)).toInt = 0 ∧ (hI h 16 (4 * i + 3)).toInt = 0 then 2 else 1 := by
          unfold kM
          (repeat' split) <;> first | rfl | omega
        generalize (kM h i).toInt = kk at hkm ⊢
        subst hkm
        (repeat' split) <;> first | rfl | omega
      · refine case_same G I (c_as2 G hh v hi hv x (Int32.toInt_inj.mp hk)) (m_as2 G hs hn h24 v hi hv x hk) ?_
        simp only [q2, q4, q6, q9, q10, q11]
        have e3 : (3 : Int32).toInt = 3 := rfl
        have e2 : (2 : Int32).toInt = 2 := rfl
        have e1 : (1 : Int32).toInt = 1 := rfl
        have e0 : (0 : Int32).toInt = 0 := rfl
        have hkm : (kM h i).toInt = if (hI h 20 i).toInt = 1 then 3 else if (hI h 19 i).toInt < 3 ∨ ¬ (hI h 21 i).toInt = 0 then 0 else if (hI h 16 (4 * i + 1)).toInt = 0 ∧ (hI h 16 (4 * i + 3)).toInt = 0 then 2 else 1 := by
          unfold kM
          (repeat' split) <;> first | rfl | omega
        generalize (kM h i).toInt = kk at hkm ⊢
        subst hkm
        (repeat' split) <;> first | rfl | omega
      · refine case_same G I (c_as3 G hh v hi hv x (Int32.toInt_inj.mp hk)) (m_as3 G hs hn h24 v hi hv x hk) ?_
        simp only [q2, q4, q6, q9, q10, q11]
        have e3 : (3 : Int32).toInt = 3 := rfl
        have e2 : (2 : Int32).toInt = 2 := rfl
        have e1 : (1 : Int32).toInt = 1 := rfl
        have e0 : (0 : Int32).toInt = 0 := rfl
        have hkm : (kM h i).toInt = if (hI h 20 i).toInt = 1 then 3 else if (hI h 19 i).toInt < 3 ∨ ¬ (hI h 21 i).toInt = 0 then 0 else if (hI h 16 (4 * i + 1)).toInt = 0 ∧ (hI h 16 (4 * i + 3)).toInt = 0 then 2 else 1 := by
          unfold kM
          (repeat' split) <;> first | rfl | omega
        generalize (kM h i).toInt = kk at hkm ⊢
        subst hkm
        (repeat' split) <;> first | rfl | omega
    · exact case_bad G I (c_asX G hh v hi hv x hx) (m_asX G hs hn h24 v hi hv x hx)
  · exact case_bad G I (c_asN G hh v hval x) (m_asN G hs I.2.1.2 hh.2.2.1 v hval x)

