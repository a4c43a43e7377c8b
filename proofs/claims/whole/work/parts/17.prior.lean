/-! prior, count, lasts -/
set_option maxHeartbeats 4000000 in
set_option maxRecDepth 100000 in
theorem c_prior (G : oG) {h : oH} {n : Nat} (hh : oHs h n) (v : Int32) {i : Nat} (hi : i < n) (hv : v.toInt = (i : Int)) (a b cc d : Int32) (hx : (0 ≤ a.toInt ∧ a.toInt ≤ 50 ∧ 0 ≤ b.toInt ∧ b.toInt ≤ 50 ∧ a.toInt ≤ cc.toInt ∧ cc.toInt ≤ 50 ∧ b.toInt ≤ d.toInt ∧ d.toInt ≤ 50)) (hf : ((hI h (hid i) 10).toInt ≤ 0 ∧ (hI h (hid i) 13).toInt ≤ 0)) : oSp G mX5_prior [.ref 0, .int v, .int a, .int b, .int cc, .int d] h (some (.int 1)) (sI (sI (sI (sI h (hid i) 4 a) (hid i) 5 b) (hid i) 6 cc) (hid i) 7 d) := by
  refine oSp.intro [some (.ref 0), some (.int v), some (.int a), some (.int b), some (.int cc), some (.int d), none] rfl (Nat.le_of_ble_eq_true rfl) (plainFor_of_name (by decide +kernel)) (Nat.le_refl _) ?_
  intro p l e R s m args below meth c C
  refine r_aload_n C rfl rfl dX5_prior_0 ?_
  refine r_iload_n C rfl dX5_prior_1 ?_
  refine r_callV C (sp_houseAt G (by exact hh) _ hi hv) kv_X5_houseAt kn_X5_houseAt rfl dX5_prior_2 cl_X5_77 ⟨Nat.le_of_ble_eq_true rfl, Nat.le_of_ble_eq_true rfl⟩ (by decide) rfl rfl (q_lt hh.1 (by decide)) (Nat.le_refl _) rfl (Nat.le_of_ble_eq_true rfl) ?_
  refine r_astore C rfl rfl (Nat.le_of_ble_eq_true rfl) dX5_prior_5 ?_
  refine r_aload C rfl rfl dX5_prior_7 ?_
  refine r_ifnonnull C 15 (by decide) dX5_prior_9 ?_
  refine r_iload_n C rfl dX5_prior_15 ?_
  refine r_iconstv C 0 rfl dX5_prior_16 ?_
  refine r_bipush C 50 rfl dX5_prior_17 ?_
  refine r_callS C (sp_isOutside G rfl (show (0 : Int32).toInt = 0 from rfl) (show (50 : Int32).toInt = 50 from rfl)) ks_X5_isOutside kn_X5_isOutside rfl dX5_prior_19 cl_X5_68 ⟨Nat.le_of_ble_eq_true rfl, Nat.le_of_ble_eq_true rfl⟩ (Nat.le_refl _) rfl (Nat.le_of_ble_eq_true rfl) ?_
  refine t_ifb_ne C 35 (by decide) dX5_prior_22 (fun c22 => ?_) (fun c22 => ?_)
  · first
    | (exfalso; omega)
    |  (refine r_ldc C _ lc_X5_72 dX5_prior_35 ?_
        exact r_iret C dX5_prior_37 rfl (Nat.le_refl _) rfl rfl)
  · first
    | (exfalso; omega)
    |  (refine r_iload_n C rfl dX5_prior_25 ?_
        refine r_iconstv C 0 rfl dX5_prior_26 ?_
        refine r_bipush C 50 rfl dX5_prior_27 ?_
        refine r_callS C (sp_isOutside G rfl (show (0 : Int32).toInt = 0 from rfl) (show (50 : Int32).toInt = 50 from rfl)) ks_X5_isOutside kn_X5_isOutside rfl dX5_prior_29 cl_X5_68 ⟨Nat.le_of_ble_eq_true rfl, Nat.le_of_ble_eq_true rfl⟩ (Nat.le_refl _) rfl (Nat.le_of_ble_eq_true rfl) ?_
        refine t_ifb_eq C 38 (by decide) dX5_prior_32 (fun c32 => ?_) (fun c32 => ?_)
        · first
          | (exfalso; omega)
          |  (refine r_iload C rfl dX5_prior_38 ?_
              refine r_iload_n C rfl dX5_prior_40 ?_
              refine r_bipush C 50 rfl dX5_prior_41 ?_
              refine r_callS C (sp_isOutside G rfl rfl (show (50 : Int32).toInt = 50 from rfl)) ks_X5_isOutside kn_X5_isOutside rfl dX5_prior_43 cl_X5_68 ⟨Nat.le_of_ble_eq_true rfl, Nat.le_of_ble_eq_true rfl⟩ (Nat.le_refl _) rfl (Nat.le_of_ble_eq_true rfl) ?_
              refine t_ifb_ne C 60 (by decide) dX5_prior_46 (fun c46 => ?_) (fun c46 => ?_)
              · first
                | (exfalso; omega)
                |  (refine r_ldc C _ lc_X5_72 dX5_prior_60 ?_
                    exact r_iret C dX5_prior_62 rfl (Nat.le_refl _) rfl rfl)
              · first
                | (exfalso; omega)
                |  (refine r_iload C rfl dX5_prior_49 ?_
                    refine r_iload_n C rfl dX5_prior_51 ?_
                    refine r_bipush C 50 rfl dX5_prior_52 ?_
                    refine r_callS C (sp_isOutside G rfl rfl (show (50 : Int32).toInt = 50 from rfl)) ks_X5_isOutside kn_X5_isOutside rfl dX5_prior_54 cl_X5_68 ⟨Nat.le_of_ble_eq_true rfl, Nat.le_of_ble_eq_true rfl⟩ (Nat.le_refl _) rfl (Nat.le_of_ble_eq_true rfl) ?_
                    refine t_ifb_eq C 63 (by decide) dX5_prior_57 (fun c57 => ?_) (fun c57 => ?_)
                    · first
                      | (exfalso; omega)
                      |  (refine r_aload C rfl rfl dX5_prior_63 ?_
                          refine r_getI C dX5_prior_65 fl_X5_81 (tg_hid i) (oHs.lt hh hi) ?_
                          refine t_if_gt C 79 (by decide) rfl dX5_prior_68 (fun c68 => ?_) (fun c68 => ?_)
                          · first
                            | (exfalso; omega)
                            |  (refine r_ldc C _ lc_X5_87 dX5_prior_79 ?_
                                exact r_iret C dX5_prior_81 rfl (Nat.le_refl _) rfl rfl)
                          · first
                            | (exfalso; omega)
                            |  (refine r_aload C rfl rfl dX5_prior_71 ?_
                                refine r_getI C dX5_prior_73 fl_X5_84 (tg_hid i) (oHs.lt hh hi) ?_
                                refine t_if_le C 82 (by decide) rfl dX5_prior_76 (fun c76 => ?_) (fun c76 => ?_)
                                · first
                                  | (exfalso; omega)
                                  |  (refine r_aload C rfl rfl dX5_prior_82 ?_
                                      refine r_iload_n C rfl dX5_prior_84 ?_
                                      refine r_putI C dX5_prior_85 fl_X5_88 (tg_hid i) (oHs.lt hh hi) (Or.inl rfl) ?_
                                      refine r_aload C rfl rfl dX5_prior_88 ?_
                                      refine r_iload_n C rfl dX5_prior_90 ?_
                                      refine r_putI C dX5_prior_91 fl_X5_91 (tg_hid i) (oHs.lt hh hi) (Or.inl rfl) ?_
                                      refine r_aload C rfl rfl dX5_prior_94 ?_
                                      refine r_iload C rfl dX5_prior_96 ?_
                                      refine r_putI C dX5_prior_98 fl_X5_94 (tg_hid i) (oHs.lt hh hi) (Or.inl rfl) ?_
                                      refine r_aload C rfl rfl dX5_prior_101 ?_
                                      refine r_iload C rfl dX5_prior_103 ?_
                                      refine r_putI C dX5_prior_105 fl_X5_97 (tg_hid i) (oHs.lt hh hi) (Or.inl rfl) ?_
                                      refine r_iconstv C 1 rfl dX5_prior_108 ?_
                                      exact r_iret C dX5_prior_109 rfl (Nat.le_refl _) rfl rfl)
                                · first
                                  | (exfalso; omega)
                                  |  (refine r_ldc C _ lc_X5_87 dX5_prior_79 ?_
                                      exact r_iret C dX5_prior_81 rfl (Nat.le_refl _) rfl rfl)))
                    · first
                      | (exfalso; omega)
                      |  (refine r_ldc C _ lc_X5_72 dX5_prior_60 ?_
                          exact r_iret C dX5_prior_62 rfl (Nat.le_refl _) rfl rfl)))
        · first
          | (exfalso; omega)
          |  (refine r_ldc C _ lc_X5_72 dX5_prior_35 ?_
              exact r_iret C dX5_prior_37 rfl (Nat.le_refl _) rfl rfl))

set_option maxHeartbeats 4000000 in
set_option maxRecDepth 100000 in
theorem m_prior (G : oG) {h : oH} (hs : oSh h) {n : Nat} (hn : (hI h 12 1).toInt = (n : Int)) (hn24 : n ≤ 24) (v : Int32) {i : Nat} (hi : i < n) (hv : v.toInt = (i : Int)) (a b cc d : Int32) (hx : (0 ≤ a.toInt ∧ a.toInt ≤ 50 ∧ 0 ≤ b.toInt ∧ b.toInt ≤ 50 ∧ a.toInt ≤ cc.toInt ∧ cc.toInt ≤ 50 ∧ b.toInt ≤ d.toInt ∧ d.toInt ≤ 50)) (hf : ((hI h 19 i).toInt ≤ 0 ∧ (hI h 22 i).toInt ≤ 0)) : oSp G mX6_prior [.ref 12, .int v, .int a, .int b, .int cc, .int d] h (some (.int 1)) (sI (sI (sI (sI (sI h 12 0 0) 16 (4 * i) a) 16 (4 * i + 1) b) 16 (4 * i + 2) cc) 16 (4 * i + 3) d) := by
  refine oSp.intro [some (.ref 12), some (.int v), some (.int a), some (.int b), some (.int cc), some (.int d)] rfl (Nat.le_of_ble_eq_true rfl) (plainFor_of_name (by decide +kernel)) (Nat.le_refl _) ?_
  intro p l e R s m args below meth c C
  refine r_aload_n C rfl rfl dX6_prior_0 ?_
  refine r_iconstv C 0 rfl dX6_prior_1 ?_
  refine r_putI C dX6_prior_2 fl_X6_90 rfl (q_lt hs (by decide)) (Or.inl rfl) ?_
  refine r_aload_n C rfl rfl dX6_prior_5 ?_
  refine r_iload_n C rfl dX6_prior_6 ?_
  refine r_callV C (sp_isHouse G (by exact hs) (by exact hn) hn24 _) kv_X6_isHouse kn_X6_isHouse rfl dX6_prior_7 cl_X6_108 ⟨Nat.le_of_ble_eq_true rfl, Nat.le_of_ble_eq_true rfl⟩ (by decide) rfl rfl (q_lt hs (by decide)) (Nat.le_refl _) rfl (Nat.le_of_ble_eq_true rfl) ?_
  refine t_ifb_eq C 65 (by decide) dX6_prior_10 (fun c10 => ?_) (fun c10 => ?_)
  · first
    | (exfalso; omega)
    |  (refine r_ldc C _ lc_X6_106 dX6_prior_65 ?_
        exact r_iret C dX6_prior_67 rfl (Nat.le_refl _) rfl rfl)
  · first
    | (exfalso; omega)
    |  (refine r_iload_n C rfl dX6_prior_13 ?_
        refine r_i2l C dX6_prior_14 ?_
        refine r_lconst C 0 rfl dX6_prior_15 ?_
        refine r_ldc2 C _ ll_X6_100 dX6_prior_16 ?_
        refine r_callS C (sp_in G (tI2L rfl) (show (0 : Int64).toInt = 0 from rfl) (show (50 : Int64).toInt = 50 from rfl)) ks_X6_in kn_X6_in rfl dX6_prior_19 cl_X6_96 ⟨Nat.le_of_ble_eq_true rfl, Nat.le_of_ble_eq_true rfl⟩ (Nat.le_refl _) rfl (Nat.le_of_ble_eq_true rfl) ?_
        refine t_ifb_eq C 65 (by decide) dX6_prior_22 (fun c22 => ?_) (fun c22 => ?_)
        · first
          | (exfalso; omega)
          |  (refine r_ldc C _ lc_X6_106 dX6_prior_65 ?_
              exact r_iret C dX6_prior_67 rfl (Nat.le_refl _) rfl rfl)
        · first
          | (exfalso; omega)
          |  (refine r_iload_n C rfl dX6_prior_25 ?_
              refine r_i2l C dX6_prior_26 ?_
              refine r_lconst C 0 rfl dX6_prior_27 ?_
              refine r_ldc2 C _ ll_X6_100 dX6_prior_28 ?_
              refine r_callS C (sp_in G (tI2L rfl) (show (0 : Int64).toInt = 0 from rfl) (show (50 : Int64).toInt = 50 from rfl)) ks_X6_in kn_X6_in rfl dX6_prior_31 cl_X6_96 ⟨Nat.le_of_ble_eq_true rfl, Nat.le_of_ble_eq_true rfl⟩ (Nat.le_refl _) rfl (Nat.le_of_ble_eq_true rfl) ?_
              refine t_ifb_eq C 65 (by decide) dX6_prior_34 (fun c34 => ?_) (fun c34 => ?_)
              · first
                | (exfalso; omega)
                |  (refine r_ldc C _ lc_X6_106 dX6_prior_65 ?_
                    exact r_iret C dX6_prior_67 rfl (Nat.le_refl _) rfl rfl)
              · first
                | (exfalso; omega)
                |  (refine r_iload C rfl dX6_prior_37 ?_
                    refine r_i2l C dX6_prior_39 ?_
                    refine r_iload_n C rfl dX6_prior_40 ?_
                    refine r_i2l C dX6_prior_41 ?_
                    refine r_ldc2 C _ ll_X6_100 dX6_prior_42 ?_
                    refine r_callS C (sp_in G (tI2L rfl) (tI2L rfl) (show (50 : Int64).toInt = 50 from rfl)) ks_X6_in kn_X6_in rfl dX6_prior_45 cl_X6_96 ⟨Nat.le_of_ble_eq_true rfl, Nat.le_of_ble_eq_true rfl⟩ (Nat.le_refl _) rfl (Nat.le_of_ble_eq_true rfl) ?_
                    refine t_ifb_eq C 65 (by decide) dX6_prior_48 (fun c48 => ?_) (fun c48 => ?_)
                    · first
                      | (exfalso; omega)
                      |  (refine r_ldc C _ lc_X6_106 dX6_prior_65 ?_
                          exact r_iret C dX6_prior_67 rfl (Nat.le_refl _) rfl rfl)
                    · first
                      | (exfalso; omega)
                      |  (refine r_iload C rfl dX6_prior_51 ?_
                          refine r_i2l C dX6_prior_53 ?_
                          refine r_iload_n C rfl dX6_prior_54 ?_
                          refine r_i2l C dX6_prior_55 ?_
                          refine r_ldc2 C _ ll_X6_100 dX6_prior_56 ?_
                          refine r_callS C (sp_in G (tI2L rfl) (tI2L rfl) (show (50 : Int64).toInt = 50 from rfl)) ks_X6_in kn_X6_in rfl dX6_prior_59 cl_X6_96 ⟨Nat.le_of_ble_eq_true rfl, Nat.le_of_ble_eq_true rfl⟩ (Nat.le_refl _) rfl (Nat.le_of_ble_eq_true rfl) ?_
                          refine t_ifb_ne C 68 (by decide) dX6_prior_62 (fun c62 => ?_) (fun c62 => ?_)
                          · first
                            | (exfalso; omega)
                            |  (refine r_aload_n C rfl rfl dX6_prior_68 ?_
                                refine r_getO C dX6_prior_69 fl_X6_28 rfl rfl (q_lt hs (by decide)) (sh_12_8 hs) ?_
                                refine r_iload_n C rfl dX6_prior_72 ?_
                                refine r_iald C (i) (by have t := hv; omega) (by omega) dX6_prior_73 rfl (q_lt hs (by decide)) ?_
                                refine t_if_gt C 86 (by decide) (show _ = (hI h 19 i).toInt from rfl) dX6_prior_74 (fun c74 => ?_) (fun c74 => ?_)
                                · first
                                  | (exfalso; omega)
                                  |  (refine r_ldc C _ lc_X6_112 dX6_prior_86 ?_
                                      exact r_iret C dX6_prior_88 rfl (Nat.le_refl _) rfl rfl)
                                · first
                                  | (exfalso; omega)
                                  |  (refine r_aload_n C rfl rfl dX6_prior_77 ?_
                                      refine r_getO C dX6_prior_78 fl_X6_38 rfl rfl (q_lt hs (by decide)) (sh_12_11 hs) ?_
                                      refine r_iload_n C rfl dX6_prior_81 ?_
                                      refine r_iald C (i) (by have t := hv; omega) (by omega) dX6_prior_82 rfl (q_lt hs (by decide)) ?_
                                      refine t_if_le C 89 (by decide) (show _ = (hI h 22 i).toInt from rfl) dX6_prior_83 (fun c83 => ?_) (fun c83 => ?_)
                                      · first
                                        | (exfalso; omega)
                                        |  (refine r_aload_n C rfl rfl dX6_prior_89 ?_
                                            refine r_getO C dX6_prior_90 fl_X6_19 rfl rfl (q_lt hs (by decide)) (sh_12_5 hs) ?_
                                            refine r_iconstv C 4 rfl dX6_prior_93 ?_
                                            refine r_iload_n C rfl dX6_prior_94 ?_
                                            refine r_imul C dX6_prior_95 ?_
                                            refine r_iload_n C rfl dX6_prior_96 ?_
                                            refine r_iast C ((4) * (i)) (by have t := (tM (show (4 : Int32).toInt = 4 from rfl) hv (by omega)); omega) (by omega) dX6_prior_97 rfl (q_lt hs (by decide)) ?_
                                            refine r_aload_n C rfl rfl dX6_prior_98 ?_
                                            refine r_getO C dX6_prior_99 fl_X6_19 rfl rfl (q_lt hs (by decide)) (sh_12_5 hs) ?_
                                            refine r_iconstv C 4 rfl dX6_prior_102 ?_
                                            refine r_iload_n C rfl dX6_prior_103 ?_
                                            refine r_imul C dX6_prior_104 ?_
                                            refine r_iconstv C 1 rfl dX6_prior_105 ?_
                                            refine r_iadd C dX6_prior_106 ?_
                                            refine r_iload_n C rfl dX6_prior_107 ?_
                                            refine r_iast C (((4) * (i)) + (1)) (by have t := (tA (tM (show (4 : Int32).toInt = 4 from rfl) hv (by omega)) (show (1 : Int32).toInt = 1 from rfl) (by omega)); omega) (by omega) dX6_prior_108 rfl (q_lt hs (by decide)) ?_
                                            refine r_aload_n C rfl rfl dX6_prior_109 ?_
                                            refine r_getO C dX6_prior_110 fl_X6_19 rfl rfl (q_lt hs (by decide)) (sh_12_5 hs) ?_
                                            refine r_iconstv C 4 rfl dX6_prior_113 ?_
                                            refine r_iload_n C rfl dX6_prior_114 ?_
                                            refine r_imul C dX6_prior_115 ?_
                                            refine r_iconstv C 2 rfl dX6_prior_116 ?_
                                            refine r_iadd C dX6_prior_117 ?_
                                            refine r_iload C rfl dX6_prior_118 ?_
                                            refine r_iast C (((4) * (i)) + (2)) (by have t := (tA (tM (show (4 : Int32).toInt = 4 from rfl) hv (by omega)) (show (2 : Int32).toInt = 2 from rfl) (by omega)); omega) (by omega) dX6_prior_120 rfl (q_lt hs (by decide)) ?_
                                            refine r_aload_n C rfl rfl dX6_prior_121 ?_
                                            refine r_getO C dX6_prior_122 fl_X6_19 rfl rfl (q_lt hs (by decide)) (sh_12_5 hs) ?_
                                            refine r_iconstv C 4 rfl dX6_prior_125 ?_
                                            refine r_iload_n C rfl dX6_prior_126 ?_
                                            refine r_imul C dX6_prior_127 ?_
                                            refine r_iconstv C 3 rfl dX6_prior_128 ?_
                                            refine r_iadd C dX6_prior_129 ?_
                                            refine r_iload C rfl dX6_prior_130 ?_
                                            refine r_iast C (((4) * (i)) + (3)) (by have t := (tA (tM (show (4 : Int32).toInt = 4 from rfl) hv (by omega)) (show (3 : Int32).toInt = 3 from rfl) (by omega)); omega) (by omega) dX6_prior_132 rfl (q_lt hs (by decide)) ?_
                                            refine r_iconstv C 1 rfl dX6_prior_133 ?_
                                            exact r_iret C dX6_prior_134 rfl (Nat.le_refl _) rfl rfl)
                                      · first
                                        | (exfalso; omega)
                                        |  (refine r_ldc C _ lc_X6_112 dX6_prior_86 ?_
                                            exact r_iret C dX6_prior_88 rfl (Nat.le_refl _) rfl rfl)))
                          · first
                            | (exfalso; omega)
                            |  (refine r_ldc C _ lc_X6_106 dX6_prior_65 ?_
                                exact r_iret C dX6_prior_67 rfl (Nat.le_refl _) rfl rfl)))))

set_option maxHeartbeats 4000000 in
set_option maxRecDepth 100000 in
theorem c_priorS (G : oG) {h : oH} {n : Nat} (hh : oHs h n) (v : Int32) {i : Nat} (hi : i < n) (hv : v.toInt = (i : Int)) (a b cc d : Int32) (hx : (0 ≤ a.toInt ∧ a.toInt ≤ 50 ∧ 0 ≤ b.toInt ∧ b.toInt ≤ 50 ∧ a.toInt ≤ cc.toInt ∧ cc.toInt ≤ 50 ∧ b.toInt ≤ d.toInt ∧ d.toInt ≤ 50)) (hf : ¬ ((hI h (hid i) 10).toInt ≤ 0 ∧ (hI h (hid i) 13).toInt ≤ 0)) : oSp G mX5_prior [.ref 0, .int v, .int a, .int b, .int cc, .int d] h (some (.int (-1000002))) h := by
  refine oSp.intro [some (.ref 0), some (.int v), some (.int a), some (.int b), some (.int cc), some (.int d), none] rfl (Nat.le_of_ble_eq_true rfl) (plainFor_of_name (by decide +kernel)) (Nat.le_refl _) ?_
  intro p l e R s m args below meth c C
  refine r_aload_n C rfl rfl dX5_prior_0 ?_
  refine r_iload_n C rfl dX5_prior_1 ?_
  refine r_callV C (sp_houseAt G (by exact hh) _ hi hv) kv_X5_houseAt kn_X5_houseAt rfl dX5_prior_2 cl_X5_77 ⟨Nat.le_of_ble_eq_true rfl, Nat.le_of_ble_eq_true rfl⟩ (by decide) rfl rfl (q_lt hh.1 (by decide)) (Nat.le_refl _) rfl (Nat.le_of_ble_eq_true rfl) ?_
  refine r_astore C rfl rfl (Nat.le_of_ble_eq_true rfl) dX5_prior_5 ?_
  refine r_aload C rfl rfl dX5_prior_7 ?_
  refine r_ifnonnull C 15 (by decide) dX5_prior_9 ?_
  refine r_iload_n C rfl dX5_prior_15 ?_
  refine r_iconstv C 0 rfl dX5_prior_16 ?_
  refine r_bipush C 50 rfl dX5_prior_17 ?_
  refine r_callS C (sp_isOutside G rfl (show (0 : Int32).toInt = 0 from rfl) (show (50 : Int32).toInt = 50 from rfl)) ks_X5_isOutside kn_X5_isOutside rfl dX5_prior_19 cl_X5_68 ⟨Nat.le_of_ble_eq_true rfl, Nat.le_of_ble_eq_true rfl⟩ (Nat.le_refl _) rfl (Nat.le_of_ble_eq_true rfl) ?_
  refine t_ifb_ne C 35 (by decide) dX5_prior_22 (fun c22 => ?_) (fun c22 => ?_)
  · first
    | (exfalso; omega)
    |  (refine r_ldc C _ lc_X5_72 dX5_prior_35 ?_
        exact r_iret C dX5_prior_37 rfl (Nat.le_refl _) rfl rfl)
  · first
    | (exfalso; omega)
    |  (refine r_iload_n C rfl dX5_prior_25 ?_
        refine r_iconstv C 0 rfl dX5_prior_26 ?_
        refine r_bipush C 50 rfl dX5_prior_27 ?_
        refine r_callS C (sp_isOutside G rfl (show (0 : Int32).toInt = 0 from rfl) (show (50 : Int32).toInt = 50 from rfl)) ks_X5_isOutside kn_X5_isOutside rfl dX5_prior_29 cl_X5_68 ⟨Nat.le_of_ble_eq_true rfl, Nat.le_of_ble_eq_true rfl⟩ (Nat.le_refl _) rfl (Nat.le_of_ble_eq_true rfl) ?_
        refine t_ifb_eq C 38 (by decide) dX5_prior_32 (fun c32 => ?_) (fun c32 => ?_)
        · first
          | (exfalso; omega)
          |  (refine r_iload C rfl dX5_prior_38 ?_
              refine r_iload_n C rfl dX5_prior_40 ?_
              refine r_bipush C 50 rfl dX5_prior_41 ?_
              refine r_callS C (sp_isOutside G rfl rfl (show (50 : Int32).toInt = 50 from rfl)) ks_X5_isOutside kn_X5_isOutside rfl dX5_prior_43 cl_X5_68 ⟨Nat.le_of_ble_eq_true rfl, Nat.le_of_ble_eq_true rfl⟩ (Nat.le_refl _) rfl (Nat.le_of_ble_eq_true rfl) ?_
              refine t_ifb_ne C 60 (by decide) dX5_prior_46 (fun c46 => ?_) (fun c46 => ?_)
              · first
                | (exfalso; omega)
                |  (refine r_ldc C _ lc_X5_72 dX5_prior_60 ?_
                    exact r_iret C dX5_prior_62 rfl (Nat.le_refl _) rfl rfl)
              · first
                | (exfalso; omega)
                |  (refine r_iload C rfl dX5_prior_49 ?_
                    refine r_iload_n C rfl dX5_prior_51 ?_
                    refine r_bipush C 50 rfl dX5_prior_52 ?_
                    refine r_callS C (sp_isOutside G rfl rfl (show (50 : Int32).toInt = 50 from rfl)) ks_X5_isOutside kn_X5_isOutside rfl dX5_prior_54 cl_X5_68 ⟨Nat.le_of_ble_eq_true rfl, Nat.le_of_ble_eq_true rfl⟩ (Nat.le_refl _) rfl (Nat.le_of_ble_eq_true rfl) ?_
                    refine t_ifb_eq C 63 (by decide) dX5_prior_57 (fun c57 => ?_) (fun c57 => ?_)
                    · first
                      | (exfalso; omega)
                      |  (refine r_aload C rfl rfl dX5_prior_63 ?_
                          refine r_getI C dX5_prior_65 fl_X5_81 (tg_hid i) (oHs.lt hh hi) ?_
                          refine t_if_gt C 79 (by decide) rfl dX5_prior_68 (fun c68 => ?_) (fun c68 => ?_)
                          · first
                            | (exfalso; omega)
                            |  (refine r_ldc C _ lc_X5_87 dX5_prior_79 ?_
                                exact r_iret C dX5_prior_81 rfl (Nat.le_refl _) rfl rfl)
                          · first
                            | (exfalso; omega)
                            |  (refine r_aload C rfl rfl dX5_prior_71 ?_
                                refine r_getI C dX5_prior_73 fl_X5_84 (tg_hid i) (oHs.lt hh hi) ?_
                                refine t_if_le C 82 (by decide) rfl dX5_prior_76 (fun c76 => ?_) (fun c76 => ?_)
                                · first
                                  | (exfalso; omega)
                                  |  (refine r_aload C rfl rfl dX5_prior_82 ?_
                                      refine r_iload_n C rfl dX5_prior_84 ?_
                                      refine r_putI C dX5_prior_85 fl_X5_88 (tg_hid i) (oHs.lt hh hi) (Or.inl rfl) ?_
                                      refine r_aload C rfl rfl dX5_prior_88 ?_
                                      refine r_iload_n C rfl dX5_prior_90 ?_
                                      refine r_putI C dX5_prior_91 fl_X5_91 (tg_hid i) (oHs.lt hh hi) (Or.inl rfl) ?_
                                      refine r_aload C rfl rfl dX5_prior_94 ?_
                                      refine r_iload C rfl dX5_prior_96 ?_
                                      refine r_putI C dX5_prior_98 fl_X5_94 (tg_hid i) (oHs.lt hh hi) (Or.inl rfl) ?_
                                      refine r_aload C rfl rfl dX5_prior_101 ?_
                                      refine r_iload C rfl dX5_prior_103 ?_
                                      refine r_putI C dX5_prior_105 fl_X5_97 (tg_hid i) (oHs.lt hh hi) (Or.inl rfl) ?_
                                      refine r_iconstv C 1 rfl dX5_prior_108 ?_
                                      exact r_iret C dX5_prior_109 rfl (Nat.le_refl _) rfl rfl)
                                · first
                                  | (exfalso; omega)
                                  |  (refine r_ldc C _ lc_X5_87 dX5_prior_79 ?_
                                      exact r_iret C dX5_prior_81 rfl (Nat.le_refl _) rfl rfl)))
                    · first
                      | (exfalso; omega)
                      |  (refine r_ldc C _ lc_X5_72 dX5_prior_60 ?_
                          exact r_iret C dX5_prior_62 rfl (Nat.le_refl _) rfl rfl)))
        · first
          | (exfalso; omega)
          |  (refine r_ldc C _ lc_X5_72 dX5_prior_35 ?_
              exact r_iret C dX5_prior_37 rfl (Nat.le_refl _) rfl rfl))

set_option maxHeartbeats 4000000 in
set_option maxRecDepth 100000 in
theorem m_priorS (G : oG) {h : oH} (hs : oSh h) {n : Nat} (hn : (hI h 12 1).toInt = (n : Int)) (hn24 : n ≤ 24) (v : Int32) {i : Nat} (hi : i < n) (hv : v.toInt = (i : Int)) (a b cc d : Int32) (hx : (0 ≤ a.toInt ∧ a.toInt ≤ 50 ∧ 0 ≤ b.toInt ∧ b.toInt ≤ 50 ∧ a.toInt ≤ cc.toInt ∧ cc.toInt ≤ 50 ∧ b.toInt ≤ d.toInt ∧ d.toInt ≤ 50)) (hf : ¬ ((hI h 19 i).toInt ≤ 0 ∧ (hI h 22 i).toInt ≤ 0)) : oSp G mX6_prior [.ref 12, .int v, .int a, .int b, .int cc, .int d] h (some (.int (-1000002))) (sI h 12 0 0) := by
  refine oSp.intro [some (.ref 12), some (.int v), some (.int a), some (.int b), some (.int cc), some (.int d)] rfl (Nat.le_of_ble_eq_true rfl) (plainFor_of_name (by decide +kernel)) (Nat.le_refl _) ?_
  intro p l e R s m args below meth c C
  refine r_aload_n C rfl rfl dX6_prior_0 ?_
  refine r_iconstv C 0 rfl dX6_prior_1 ?_
  refine r_putI C dX6_prior_2 fl_X6_90 rfl (q_lt hs (by decide)) (Or.inl rfl) ?_
  refine r_aload_n C rfl rfl dX6_prior_5 ?_
  refine r_iload_n C rfl dX6_prior_6 ?_
  refine r_callV C (sp_isHouse G (by exact hs) (by exact hn) hn24 _) kv_X6_isHouse kn_X6_isHouse rfl dX6_prior_7 cl_X6_108 ⟨Nat.le_of_ble_eq_true rfl, Nat.le_of_ble_eq_true rfl⟩ (by decide) rfl rfl (q_lt hs (by decide)) (Nat.le_refl _) rfl (Nat.le_of_ble_eq_true rfl) ?_
  refine t_ifb_eq C 65 (by decide) dX6_prior_10 (fun c10 => ?_) (fun c10 => ?_)
  · first
    | (exfalso; omega)
    |  (refine r_ldc C _ lc_X6_106 dX6_prior_65 ?_
        exact r_iret C dX6_prior_67 rfl (Nat.le_refl _) rfl rfl)
  · first
    | (exfalso; omega)
    |  (refine r_iload_n C rfl dX6_prior_13 ?_
        refine r_i2l C dX6_prior_14 ?_
        refine r_lconst C 0 rfl dX6_prior_15 ?_
        refine r_ldc2 C _ ll_X6_100 dX6_prior_16 ?_
        refine r_callS C (sp_in G (tI2L rfl) (show (0 : Int64).toInt = 0 from rfl) (show (50 : Int64).toInt = 50 from rfl)) ks_X6_in kn_X6_in rfl dX6_prior_19 cl_X6_96 ⟨Nat.le_of_ble_eq_true rfl, Nat.le_of_ble_eq_true rfl⟩ (Nat.le_refl _) rfl (Nat.le_of_ble_eq_true rfl) ?_
        refine t_ifb_eq C 65 (by decide) dX6_prior_22 (fun c22 => ?_) (fun c22 => ?_)
        · first
          | (exfalso; omega)
          |  (refine r_ldc C _ lc_X6_106 dX6_prior_65 ?_
              exact r_iret C dX6_prior_67 rfl (Nat.le_refl _) rfl rfl)
        · first
          | (exfalso; omega)
          |  (refine r_iload_n C rfl dX6_prior_25 ?_
              refine r_i2l C dX6_prior_26 ?_
              refine r_lconst C 0 rfl dX6_prior_27 ?_
              refine r_ldc2 C _ ll_X6_100 dX6_prior_28 ?_
              refine r_callS C (sp_in G (tI2L rfl) (show (0 : Int64).toInt = 0 from rfl) (show (50 : Int64).toInt = 50 from rfl)) ks_X6_in kn_X6_in rfl dX6_prior_31 cl_X6_96 ⟨Nat.le_of_ble_eq_true rfl, Nat.le_of_ble_eq_true rfl⟩ (Nat.le_refl _) rfl (Nat.le_of_ble_eq_true rfl) ?_
              refine t_ifb_eq C 65 (by decide) dX6_prior_34 (fun c34 => ?_) (fun c34 => ?_)
              · first
                | (exfalso; omega)
                |  (refine r_ldc C _ lc_X6_106 dX6_prior_65 ?_
                    exact r_iret C dX6_prior_67 rfl (Nat.le_refl _) rfl rfl)
              · first
                | (exfalso; omega)
                |  (refine r_iload C rfl dX6_prior_37 ?_
                    refine r_i2l C dX6_prior_39 ?_
                    refine r_iload_n C rfl dX6_prior_40 ?_
                    refine r_i2l C dX6_prior_41 ?_
                    refine r_ldc2 C _ ll_X6_100 dX6_prior_42 ?_
                    refine r_callS C (sp_in G (tI2L rfl) (tI2L rfl) (show (50 : Int64).toInt = 50 from rfl)) ks_X6_in kn_X6_in rfl dX6_prior_45 cl_X6_96 ⟨Nat.le_of_ble_eq_true rfl, Nat.le_of_ble_eq_true rfl⟩ (Nat.le_refl _) rfl (Nat.le_of_ble_eq_true rfl) ?_
                    refine t_ifb_eq C 65 (by decide) dX6_prior_48 (fun c48 => ?_) (fun c48 => ?_)
                    · first
                      | (exfalso; omega)
                      |  (refine r_ldc C _ lc_X6_106 dX6_prior_65 ?_
                          exact r_iret C dX6_prior_67 rfl (Nat.le_refl _) rfl rfl)
                    · first
                      | (exfalso; omega)
                      |  (refine r_iload C rfl dX6_prior_51 ?_
                          refine r_i2l C dX6_prior_53 ?_
                          refine r_iload_n C rfl dX6_prior_54 ?_
                          refine r_i2l C dX6_prior_55 ?_
                          refine r_ldc2 C _ ll_X6_100 dX6_prior_56 ?_
                          refine r_callS C (sp_in G (tI2L rfl) (tI2L rfl) (show (50 : Int64).toInt = 50 from rfl)) ks_X6_in kn_X6_in rfl dX6_prior_59 cl_X6_96 ⟨Nat.le_of_ble_eq_true rfl, Nat.le_of_ble_eq_true rfl⟩ (Nat.le_refl _) rfl (Nat.le_of_ble_eq_true rfl) ?_
                          refine t_ifb_ne C 68 (by decide) dX6_prior_62 (fun c62 => ?_) (fun c62 => ?_)
                          · first
                            | (exfalso; omega)
                            |  (refine r_aload_n C rfl rfl dX6_prior_68 ?_
                                refine r_getO C dX6_prior_69 fl_X6_28 rfl rfl (q_lt hs (by decide)) (sh_12_8 hs) ?_
                                refine r_iload_n C rfl dX6_prior_72 ?_
                                refine r_iald C (i) (by have t := hv; omega) (by omega) dX6_prior_73 rfl (q_lt hs (by decide)) ?_
                                refine t_if_gt C 86 (by decide) (show _ = (hI h 19 i).toInt from rfl) dX6_prior_74 (fun c74 => ?_) (fun c74 => ?_)
                                · first
                                  | (exfalso; omega)
                                  |  (refine r_ldc C _ lc_X6_112 dX6_prior_86 ?_
                                      exact r_iret C dX6_prior_88 rfl (Nat.le_refl _) rfl rfl)
                                · first
                                  | (exfalso; omega)
                                  |  (refine r_aload_n C rfl rfl dX6_prior_77 ?_
                                      refine r_getO C dX6_prior_78 fl_X6_38 rfl rfl (q_lt hs (by decide)) (sh_12_11 hs) ?_
                                      refine r_iload_n C rfl dX6_prior_81 ?_
                                      refine r_iald C (i) (by have t := hv; omega) (by omega) dX6_prior_82 rfl (q_lt hs (by decide)) ?_
                                      refine t_if_le C 89 (by decide) (show _ = (hI h 22 i).toInt from rfl) dX6_prior_83 (fun c83 => ?_) (fun c83 => ?_)
                                      · first
                                        | (exfalso; omega)
                                        |  (refine r_aload_n C rfl rfl dX6_prior_89 ?_
                                            refine r_getO C dX6_prior_90 fl_X6_19 rfl rfl (q_lt hs (by decide)) (sh_12_5 hs) ?_
                                            refine r_iconstv C 4 rfl dX6_prior_93 ?_
                                            refine r_iload_n C rfl dX6_prior_94 ?_
                                            refine r_imul C dX6_prior_95 ?_
                                            refine r_iload_n C rfl dX6_prior_96 ?_
                                            refine r_iast C ((4) * (i)) (by have t := (tM (show (4 : Int32).toInt = 4 from rfl) hv (by omega)); omega) (by omega) dX6_prior_97 rfl (q_lt hs (by decide)) ?_
                                            refine r_aload_n C rfl rfl dX6_prior_98 ?_
                                            refine r_getO C dX6_prior_99 fl_X6_19 rfl rfl (q_lt hs (by decide)) (sh_12_5 hs) ?_
                                            refine r_iconstv C 4 rfl dX6_prior_102 ?_
                                            refine r_iload_n C rfl dX6_prior_103 ?_
                                            refine r_imul C dX6_prior_104 ?_
                                            refine r_iconstv C 1 rfl dX6_prior_105 ?_
                                            refine r_iadd C dX6_prior_106 ?_
                                            refine r_iload_n C rfl dX6_prior_107 ?_
                                            refine r_iast C (((4) * (i)) + (1)) (by have t := (tA (tM (show (4 : Int32).toInt = 4 from rfl) hv (by omega)) (show (1 : Int32).toInt = 1 from rfl) (by omega)); omega) (by omega) dX6_prior_108 rfl (q_lt hs (by decide)) ?_
                                            refine r_aload_n C rfl rfl dX6_prior_109 ?_
                                            refine r_getO C dX6_prior_110 fl_X6_19 rfl rfl (q_lt hs (by decide)) (sh_12_5 hs) ?_
                                            refine r_iconstv C 4 rfl dX6_prior_113 ?_
                                            refine r_iload_n C rfl dX6_prior_114 ?_
                                            refine r_imul C dX6_prior_115 ?_
                                            refine r_iconstv C 2 rfl dX6_prior_116 ?_
                                            refine r_iadd C dX6_prior_117 ?_
                                            refine r_iload C rfl dX6_prior_118 ?_
                                            refine r_iast C (((4) * (i)) + (2)) (by have t := (tA (tM (show (4 : Int32).toInt = 4 from rfl) hv (by omega)) (show (2 : Int32).toInt = 2 from rfl) (by omega)); omega) (by omega) dX6_prior_120 rfl (q_lt hs (by decide)) ?_
                                            refine r_aload_n C rfl rfl dX6_prior_121 ?_
                                            refine r_getO C dX6_prior_122 fl_X6_19 rfl rfl (q_lt hs (by decide)) (sh_12_5 hs) ?_
                                            refine r_iconstv C 4 rfl dX6_prior_125 ?_
                                            refine r_iload_n C rfl dX6_prior_126 ?_
                                            refine r_imul C dX6_prior_127 ?_
                                            refine r_iconstv C 3 rfl dX6_prior_128 ?_
                                            refine r_iadd C dX6_prior_129 ?_
                                            refine r_iload C rfl dX6_prior_130 ?_
                                            refine r_iast C (((4) * (i)) + (3)) (by have t := (tA (tM (show (4 : Int32).toInt = 4 from rfl) hv (by omega)) (show (3 : Int32).toInt = 3 from rfl) (by omega)); omega) (by omega) dX6_prior_132 rfl (q_lt hs (by decide)) ?_
                                            refine r_iconstv C 1 rfl dX6_prior_133 ?_
                                            exact r_iret C dX6_prior_134 rfl (Nat.le_refl _) rfl rfl)
                                      · first
                                        | (exfalso; omega)
                                        |  (refine r_ldc C _ lc_X6_112 dX6_prior_86 ?_
                                            exact r_iret C dX6_prior_88 rfl (Nat.le_refl _) rfl rfl)))
                          · first
                            | (exfalso; omega)
                            |  (refine r_ldc C _ lc_X6_106 dX6_prior_65 ?_
                                exact r_iret C dX6_prior_67 rfl (Nat.le_refl _) rfl rfl)))))

set_option maxHeartbeats 4000000 in
set_option maxRecDepth 100000 in
theorem c_priorX (G : oG) {h : oH} {n : Nat} (hh : oHs h n) (v : Int32) {i : Nat} (hi : i < n) (hv : v.toInt = (i : Int)) (a b cc d : Int32) (hx : ¬ (0 ≤ a.toInt ∧ a.toInt ≤ 50 ∧ 0 ≤ b.toInt ∧ b.toInt ≤ 50 ∧ a.toInt ≤ cc.toInt ∧ cc.toInt ≤ 50 ∧ b.toInt ≤ d.toInt ∧ d.toInt ≤ 50)) : oSp G mX5_prior [.ref 0, .int v, .int a, .int b, .int cc, .int d] h (some (.int (-1000001))) h := by
  refine oSp.intro [some (.ref 0), some (.int v), some (.int a), some (.int b), some (.int cc), some (.int d), none] rfl (Nat.le_of_ble_eq_true rfl) (plainFor_of_name (by decide +kernel)) (Nat.le_refl _) ?_
  intro p l e R s m args below meth c C
  refine r_aload_n C rfl rfl dX5_prior_0 ?_
  refine r_iload_n C rfl dX5_prior_1 ?_
  refine r_callV C (sp_houseAt G (by exact hh) _ hi hv) kv_X5_houseAt kn_X5_houseAt rfl dX5_prior_2 cl_X5_77 ⟨Nat.le_of_ble_eq_true rfl, Nat.le_of_ble_eq_true rfl⟩ (by decide) rfl rfl (q_lt hh.1 (by decide)) (Nat.le_refl _) rfl (Nat.le_of_ble_eq_true rfl) ?_
  refine r_astore C rfl rfl (Nat.le_of_ble_eq_true rfl) dX5_prior_5 ?_
  refine r_aload C rfl rfl dX5_prior_7 ?_
  refine r_ifnonnull C 15 (by decide) dX5_prior_9 ?_
  refine r_iload_n C rfl dX5_prior_15 ?_
  refine r_iconstv C 0 rfl dX5_prior_16 ?_
  refine r_bipush C 50 rfl dX5_prior_17 ?_
  refine r_callS C (sp_isOutside G rfl (show (0 : Int32).toInt = 0 from rfl) (show (50 : Int32).toInt = 50 from rfl)) ks_X5_isOutside kn_X5_isOutside rfl dX5_prior_19 cl_X5_68 ⟨Nat.le_of_ble_eq_true rfl, Nat.le_of_ble_eq_true rfl⟩ (Nat.le_refl _) rfl (Nat.le_of_ble_eq_true rfl) ?_
  refine t_ifb_ne C 35 (by decide) dX5_prior_22 (fun c22 => ?_) (fun c22 => ?_)
  · first
    | (exfalso; omega)
    |  (refine r_ldc C _ lc_X5_72 dX5_prior_35 ?_
        exact r_iret C dX5_prior_37 rfl (Nat.le_refl _) rfl rfl)
  · first
    | (exfalso; omega)
    |  (refine r_iload_n C rfl dX5_prior_25 ?_
        refine r_iconstv C 0 rfl dX5_prior_26 ?_
        refine r_bipush C 50 rfl dX5_prior_27 ?_
        refine r_callS C (sp_isOutside G rfl (show (0 : Int32).toInt = 0 from rfl) (show (50 : Int32).toInt = 50 from rfl)) ks_X5_isOutside kn_X5_isOutside rfl dX5_prior_29 cl_X5_68 ⟨Nat.le_of_ble_eq_true rfl, Nat.le_of_ble_eq_true rfl⟩ (Nat.le_refl _) rfl (Nat.le_of_ble_eq_true rfl) ?_
        refine t_ifb_eq C 38 (by decide) dX5_prior_32 (fun c32 => ?_) (fun c32 => ?_)
        · first
          | (exfalso; omega)
          |  (refine r_iload C rfl dX5_prior_38 ?_
              refine r_iload_n C rfl dX5_prior_40 ?_
              refine r_bipush C 50 rfl dX5_prior_41 ?_
              refine r_callS C (sp_isOutside G rfl rfl (show (50 : Int32).toInt = 50 from rfl)) ks_X5_isOutside kn_X5_isOutside rfl dX5_prior_43 cl_X5_68 ⟨Nat.le_of_ble_eq_true rfl, Nat.le_of_ble_eq_true rfl⟩ (Nat.le_refl _) rfl (Nat.le_of_ble_eq_true rfl) ?_
              refine t_ifb_ne C 60 (by decide) dX5_prior_46 (fun c46 => ?_) (fun c46 => ?_)
              · first
                | (exfalso; omega)
                |  (refine r_ldc C _ lc_X5_72 dX5_prior_60 ?_
                    exact r_iret C dX5_prior_62 rfl (Nat.le_refl _) rfl rfl)
              · first
                | (exfalso; omega)
                |  (refine r_iload C rfl dX5_prior_49 ?_
                    refine r_iload_n C rfl dX5_prior_51 ?_
                    refine r_bipush C 50 rfl dX5_prior_52 ?_
                    refine r_callS C (sp_isOutside G rfl rfl (show (50 : Int32).toInt = 50 from rfl)) ks_X5_isOutside kn_X5_isOutside rfl dX5_prior_54 cl_X5_68 ⟨Nat.le_of_ble_eq_true rfl, Nat.le_of_ble_eq_true rfl⟩ (Nat.le_refl _) rfl (Nat.le_of_ble_eq_true rfl) ?_
                    refine t_ifb_eq C 63 (by decide) dX5_prior_57 (fun c57 => ?_) (fun c57 => ?_)
                    · first
                      | (exfalso; omega)
                      |  (refine r_aload C rfl rfl dX5_prior_63 ?_
                          refine r_getI C dX5_prior_65 fl_X5_81 (tg_hid i) (oHs.lt hh hi) ?_
                          refine t_if_gt C 79 (by decide) rfl dX5_prior_68 (fun c68 => ?_) (fun c68 => ?_)
                          · first
                            | (exfalso; omega)
                            |  (refine r_ldc C _ lc_X5_87 dX5_prior_79 ?_
                                exact r_iret C dX5_prior_81 rfl (Nat.le_refl _) rfl rfl)
                          · first
                            | (exfalso; omega)
                            |  (refine r_aload C rfl rfl dX5_prior_71 ?_
                                refine r_getI C dX5_prior_73 fl_X5_84 (tg_hid i) (oHs.lt hh hi) ?_
                                refine t_if_le C 82 (by decide) rfl dX5_prior_76 (fun c76 => ?_) (fun c76 => ?_)
                                · first
                                  | (exfalso; omega)
                                  |  (refine r_aload C rfl rfl dX5_prior_82 ?_
                                      refine r_iload_n C rfl dX5_prior_84 ?_
                                      refine r_putI C dX5_prior_85 fl_X5_88 (tg_hid i) (oHs.lt hh hi) (Or.inl rfl) ?_
                                      refine r_aload C rfl rfl dX5_prior_88 ?_
                                      refine r_iload_n C rfl dX5_prior_90 ?_
                                      refine r_putI C dX5_prior_91 fl_X5_91 (tg_hid i) (oHs.lt hh hi) (Or.inl rfl) ?_
                                      refine r_aload C rfl rfl dX5_prior_94 ?_
                                      refine r_iload C rfl dX5_prior_96 ?_
                                      refine r_putI C dX5_prior_98 fl_X5_94 (tg_hid i) (oHs.lt hh hi) (Or.inl rfl) ?_
                                      refine r_aload C rfl rfl dX5_prior_101 ?_
                                      refine r_iload C rfl dX5_prior_103 ?_
                                      refine r_putI C dX5_prior_105 fl_X5_97 (tg_hid i) (oHs.lt hh hi) (Or.inl rfl) ?_
                                      refine r_iconstv C 1 rfl dX5_prior_108 ?_
                                      exact r_iret C dX5_prior_109 rfl (Nat.le_refl _) rfl rfl)
                                · first
                                  | (exfalso; omega)
                                  |  (refine r_ldc C _ lc_X5_87 dX5_prior_79 ?_
                                      exact r_iret C dX5_prior_81 rfl (Nat.le_refl _) rfl rfl)))
                    · first
                      | (exfalso; omega)
                      |  (refine r_ldc C _ lc_X5_72 dX5_prior_60 ?_
                          exact r_iret C dX5_prior_62 rfl (Nat.le_refl _) rfl rfl)))
        · first
          | (exfalso; omega)
          |  (refine r_ldc C _ lc_X5_72 dX5_prior_35 ?_
              exact r_iret C dX5_prior_37 rfl (Nat.le_refl _) rfl rfl))

set_option maxHeartbeats 4000000 in
set_option maxRecDepth 100000 in
theorem m_priorX (G : oG) {h : oH} (hs : oSh h) {n : Nat} (hn : (hI h 12 1).toInt = (n : Int)) (hn24 : n ≤ 24) (v : Int32) {i : Nat} (hi : i < n) (hv : v.toInt = (i : Int)) (a b cc d : Int32) (hx : ¬ (0 ≤ a.toInt ∧ a.toInt ≤ 50 ∧ 0 ≤ b.toInt ∧ b.toInt ≤ 50 ∧ a.toInt ≤ cc.toInt ∧ cc.toInt ≤ 50 ∧ b.toInt ≤ d.toInt ∧ d.toInt ≤ 50)) : oSp G mX6_prior [.ref 12, .int v, .int a, .int b, .int cc, .int d] h (some (.int (-1000001))) (sI h 12 0 0) := by
  refine oSp.intro [some (.ref 12), some (.int v), some (.int a), some (.int b), some (.int cc), some (.int d)] rfl (Nat.le_of_ble_eq_true rfl) (plainFor_of_name (by decide +kernel)) (Nat.le_refl _) ?_
  intro p l e R s m args below meth c C
  refine r_aload_n C rfl rfl dX6_prior_0 ?_
  refine r_iconstv C 0 rfl dX6_prior_1 ?_
  refine r_putI C dX6_prior_2 fl_X6_90 rfl (q_lt hs (by decide)) (Or.inl rfl) ?_
  refine r_aload_n C rfl rfl dX6_prior_5 ?_
  refine r_iload_n C rfl dX6_prior_6 ?_
  refine r_callV C (sp_isHouse G (by exact hs) (by exact hn) hn24 _) kv_X6_isHouse kn_X6_isHouse rfl dX6_prior_7 cl_X6_108 ⟨Nat.le_of_ble_eq_true rfl, Nat.le_of_ble_eq_true rfl⟩ (by decide) rfl rfl (q_lt hs (by decide)) (Nat.le_refl _) rfl (Nat.le_of_ble_eq_true rfl) ?_
  refine t_ifb_eq C 65 (by decide) dX6_prior_10 (fun c10 => ?_) (fun c10 => ?_)
  · first
    | (exfalso; omega)
    |  (refine r_ldc C _ lc_X6_106 dX6_prior_65 ?_
        exact r_iret C dX6_prior_67 rfl (Nat.le_refl _) rfl rfl)
  · first
    | (exfalso; omega)
    |  (refine r_iload_n C rfl dX6_prior_13 ?_
        refine r_i2l C dX6_prior_14 ?_
        refine r_lconst C 0 rfl dX6_prior_15 ?_
        refine r_ldc2 C _ ll_X6_100 dX6_prior_16 ?_
        refine r_callS C (sp_in G (tI2L rfl) (show (0 : Int64).toInt = 0 from rfl) (show (50 : Int64).toInt = 50 from rfl)) ks_X6_in kn_X6_in rfl dX6_prior_19 cl_X6_96 ⟨Nat.le_of_ble_eq_true rfl, Nat.le_of_ble_eq_true rfl⟩ (Nat.le_refl _) rfl (Nat.le_of_ble_eq_true rfl) ?_
        refine t_ifb_eq C 65 (by decide) dX6_prior_22 (fun c22 => ?_) (fun c22 => ?_)
        · first
          | (exfalso; omega)
          |  (refine r_ldc C _ lc_X6_106 dX6_prior_65 ?_
              exact r_iret C dX6_prior_67 rfl (Nat.le_refl _) rfl rfl)
        · first
          | (exfalso; omega)
          |  (refine r_iload_n C rfl dX6_prior_25 ?_
              refine r_i2l C dX6_prior_26 ?_
              refine r_lconst C 0 rfl dX6_prior_27 ?_
              refine r_ldc2 C _ ll_X6_100 dX6_prior_28 ?_
              refine r_callS C (sp_in G (tI2L rfl) (show (0 : Int64).toInt = 0 from rfl) (show (50 : Int64).toInt = 50 from rfl)) ks_X6_in kn_X6_in rfl dX6_prior_31 cl_X6_96 ⟨Nat.le_of_ble_eq_true rfl, Nat.le_of_ble_eq_true rfl⟩ (Nat.le_refl _) rfl (Nat.le_of_ble_eq_true rfl) ?_
              refine t_ifb_eq C 65 (by decide) dX6_prior_34 (fun c34 => ?_) (fun c34 => ?_)
              · first
                | (exfalso; omega)
                |  (refine r_ldc C _ lc_X6_106 dX6_prior_65 ?_
                    exact r_iret C dX6_prior_67 rfl (Nat.le_refl _) rfl rfl)
              · first
                | (exfalso; omega)
                |  (refine r_iload C rfl dX6_prior_37 ?_
                    refine r_i2l C dX6_prior_39 ?_
                    refine r_iload_n C rfl dX6_prior_40 ?_
                    refine r_i2l C dX6_prior_41 ?_
                    refine r_ldc2 C _ ll_X6_100 dX6_prior_42 ?_
                    refine r_callS C (sp_in G (tI2L rfl) (tI2L rfl) (show (50 : Int64).toInt = 50 from rfl)) ks_X6_in kn_X6_in rfl dX6_prior_45 cl_X6_96 ⟨Nat.le_of_ble_eq_true rfl, Nat.le_of_ble_eq_true rfl⟩ (Nat.le_refl _) rfl (Nat.le_of_ble_eq_true rfl) ?_
                    refine t_ifb_eq C 65 (by decide) dX6_prior_48 (fun c48 => ?_) (fun c48 => ?_)
                    · first
                      | (exfalso; omega)
                      |  (refine r_ldc C _ lc_X6_106 dX6_prior_65 ?_
                          exact r_iret C dX6_prior_67 rfl (Nat.le_refl _) rfl rfl)
                    · first
                      | (exfalso; omega)
                      |  (refine r_iload C rfl dX6_prior_51 ?_
                          refine r_i2l C dX6_prior_53 ?_
                          refine r_iload_n C rfl dX6_prior_54 ?_
                          refine r_i2l C dX6_prior_55 ?_
                          refine r_ldc2 C _ ll_X6_100 dX6_prior_56 ?_
                          refine r_callS C (sp_in G (tI2L rfl) (tI2L rfl) (show (50 : Int64).toInt = 50 from rfl)) ks_X6_in kn_X6_in rfl dX6_prior_59 cl_X6_96 ⟨Nat.le_of_ble_eq_true rfl, Nat.le_of_ble_eq_true rfl⟩ (Nat.le_refl _) rfl (Nat.le_of_ble_eq_true rfl) ?_
                          refine t_ifb_ne C 68 (by decide) dX6_prior_62 (fun c62 => ?_) (fun c62 => ?_)
                          · first
                            | (exfalso; omega)
                            |  (refine r_aload_n C rfl rfl dX6_prior_68 ?_
                                refine r_getO C dX6_prior_69 fl_X6_28 rfl rfl (q_lt hs (by decide)) (sh_12_8 hs) ?_
                                refine r_iload_n C rfl dX6_prior_72 ?_
                                refine r_iald C (i) (by have t := hv; omega) (by omega) dX6_prior_73 rfl (q_lt hs (by decide)) ?_
                                refine t_if_gt C 86 (by decide) (show _ = (hI h 19 i).toInt from rfl) dX6_prior_74 (fun c74 => ?_) (fun c74 => ?_)
                                · first
                                  | (exfalso; omega)
                                  |  (refine r_ldc C _ lc_X6_112 dX6_prior_86 ?_
                                      exact r_iret C dX6_prior_88 rfl (Nat.le_refl _) rfl rfl)
                                · first
                                  | (exfalso; omega)
                                  |  (refine r_aload_n C rfl rfl dX6_prior_77 ?_
                                      refine r_getO C dX6_prior_78 fl_X6_38 rfl rfl (q_lt hs (by decide)) (sh_12_11 hs) ?_
                                      refine r_iload_n C rfl dX6_prior_81 ?_
                                      refine r_iald C (i) (by have t := hv; omega) (by omega) dX6_prior_82 rfl (q_lt hs (by decide)) ?_
                                      refine t_if_le C 89 (by decide) (show _ = (hI h 22 i).toInt from rfl) dX6_prior_83 (fun c83 => ?_) (fun c83 => ?_)
                                      · first
                                        | (exfalso; omega)
                                        |  (refine r_aload_n C rfl rfl dX6_prior_89 ?_
                                            refine r_getO C dX6_prior_90 fl_X6_19 rfl rfl (q_lt hs (by decide)) (sh_12_5 hs) ?_
                                            refine r_iconstv C 4 rfl dX6_prior_93 ?_
                                            refine r_iload_n C rfl dX6_prior_94 ?_
                                            refine r_imul C dX6_prior_95 ?_
                                            refine r_iload_n C rfl dX6_prior_96 ?_
                                            refine r_iast C ((4) * (i)) (by have t := (tM (show (4 : Int32).toInt = 4 from rfl) hv (by omega)); omega) (by omega) dX6_prior_97 rfl (q_lt hs (by decide)) ?_
                                            refine r_aload_n C rfl rfl dX6_prior_98 ?_
                                            refine r_getO C dX6_prior_99 fl_X6_19 rfl rfl (q_lt hs (by decide)) (sh_12_5 hs) ?_
                                            refine r_iconstv C 4 rfl dX6_prior_102 ?_
                                            refine r_iload_n C rfl dX6_prior_103 ?_
                                            refine r_imul C dX6_prior_104 ?_
                                            refine r_iconstv C 1 rfl dX6_prior_105 ?_
                                            refine r_iadd C dX6_prior_106 ?_
                                            refine r_iload_n C rfl dX6_prior_107 ?_
                                            refine r_iast C (((4) * (i)) + (1)) (by have t := (tA (tM (show (4 : Int32).toInt = 4 from rfl) hv (by omega)) (show (1 : Int32).toInt = 1 from rfl) (by omega)); omega) (by omega) dX6_prior_108 rfl (q_lt hs (by decide)) ?_
                                            refine r_aload_n C rfl rfl dX6_prior_109 ?_
                                            refine r_getO C dX6_prior_110 fl_X6_19 rfl rfl (q_lt hs (by decide)) (sh_12_5 hs) ?_
                                            refine r_iconstv C 4 rfl dX6_prior_113 ?_
                                            refine r_iload_n C rfl dX6_prior_114 ?_
                                            refine r_imul C dX6_prior_115 ?_
                                            refine r_iconstv C 2 rfl dX6_prior_116 ?_
                                            refine r_iadd C dX6_prior_117 ?_
                                            refine r_iload C rfl dX6_prior_118 ?_
                                            refine r_iast C (((4) * (i)) + (2)) (by have t := (tA (tM (show (4 : Int32).toInt = 4 from rfl) hv (by omega)) (show (2 : Int32).toInt = 2 from rfl) (by omega)); omega) (by omega) dX6_prior_120 rfl (q_lt hs (by decide)) ?_
                                            refine r_aload_n C rfl rfl dX6_prior_121 ?_
                                            refine r_getO C dX6_prior_122 fl_X6_19 rfl rfl (q_lt hs (by decide)) (sh_12_5 hs) ?_
                                            refine r_iconstv C 4 rfl dX6_prior_125 ?_
                                            refine r_iload_n C rfl dX6_prior_126 ?_
                                            refine r_imul C dX6_prior_127 ?_
                                            refine r_iconstv C 3 rfl dX6_prior_128 ?_
                                            refine r_iadd C dX6_prior_129 ?_
                                            refine r_iload C rfl dX6_prior_130 ?_
                                            refine r_iast C (((4) * (i)) + (3)) (by have t := (tA (tM (show (4 : Int32).toInt = 4 from rfl) hv (by omega)) (show (3 : Int32).toInt = 3 from rfl) (by omega)); omega) (by omega) dX6_prior_132 rfl (q_lt hs (by decide)) ?_
                                            refine r_iconstv C 1 rfl dX6_prior_133 ?_
                                            exact r_iret C dX6_prior_134 rfl (Nat.le_refl _) rfl rfl)
                                      · first
                                        | (exfalso; omega)
                                        |  (refine r_ldc C _ lc_X6_112 dX6_prior_86 ?_
                                            exact r_iret C dX6_prior_88 rfl (Nat.le_refl _) rfl rfl)))
                          · first
                            | (exfalso; omega)
                            |  (refine r_ldc C _ lc_X6_106 dX6_prior_65 ?_
                                exact r_iret C dX6_prior_67 rfl (Nat.le_refl _) rfl rfl)))))

set_option maxHeartbeats 4000000 in
set_option maxRecDepth 100000 in
theorem c_priorN (G : oG) {h : oH} {n : Nat} (hh : oHs h n) (v : Int32) (hv : ¬ (0 ≤ v.toInt ∧ v.toInt < n)) (a b cc d : Int32) : oSp G mX5_prior [.ref 0, .int v, .int a, .int b, .int cc, .int d] h (some (.int (-1000001))) h := by
  refine oSp.intro [some (.ref 0), some (.int v), some (.int a), some (.int b), some (.int cc), some (.int d), none] rfl (Nat.le_of_ble_eq_true rfl) (plainFor_of_name (by decide +kernel)) (Nat.le_refl _) ?_
  intro p l e R s m args below meth c C
  refine r_aload_n C rfl rfl dX5_prior_0 ?_
  refine r_iload_n C rfl dX5_prior_1 ?_
  refine r_callV C (sp_houseAtN G (by exact hh) _ hv) kv_X5_houseAt kn_X5_houseAt rfl dX5_prior_2 cl_X5_77 ⟨Nat.le_of_ble_eq_true rfl, Nat.le_of_ble_eq_true rfl⟩ (by decide) rfl rfl (q_lt hh.1 (by decide)) (Nat.le_refl _) rfl (Nat.le_of_ble_eq_true rfl) ?_
  refine r_astore C rfl rfl (Nat.le_of_ble_eq_true rfl) dX5_prior_5 ?_
  refine r_aload C rfl rfl dX5_prior_7 ?_
  refine r_ifnonnullN C dX5_prior_9 ?_
  refine r_ldc C _ lc_X5_72 dX5_prior_12 ?_
  exact r_iret C dX5_prior_14 rfl (Nat.le_refl _) rfl rfl

set_option maxHeartbeats 4000000 in
set_option maxRecDepth 100000 in
theorem m_priorN (G : oG) {h : oH} (hs : oSh h) {n : Nat} (hn : (hI h 12 1).toInt = (n : Int)) (hn24 : n ≤ 24) (v : Int32) (hv : ¬ (0 ≤ v.toInt ∧ v.toInt < n)) (a b cc d : Int32) : oSp G mX6_prior [.ref 12, .int v, .int a, .int b, .int cc, .int d] h (some (.int (-1000001))) (sI h 12 0 0) := by
  refine oSp.intro [some (.ref 12), some (.int v), some (.int a), some (.int b), some (.int cc), some (.int d)] rfl (Nat.le_of_ble_eq_true rfl) (plainFor_of_name (by decide +kernel)) (Nat.le_refl _) ?_
  intro p l e R s m args below meth c C
  refine r_aload_n C rfl rfl dX6_prior_0 ?_
  refine r_iconstv C 0 rfl dX6_prior_1 ?_
  refine r_putI C dX6_prior_2 fl_X6_90 rfl (q_lt hs (by decide)) (Or.inl rfl) ?_
  refine r_aload_n C rfl rfl dX6_prior_5 ?_
  refine r_iload_n C rfl dX6_prior_6 ?_
  refine r_callV C (sp_isHouse G (by exact hs) (by exact hn) hn24 _) kv_X6_isHouse kn_X6_isHouse rfl dX6_prior_7 cl_X6_108 ⟨Nat.le_of_ble_eq_true rfl, Nat.le_of_ble_eq_true rfl⟩ (by decide) rfl rfl (q_lt hs (by decide)) (Nat.le_refl _) rfl (Nat.le_of_ble_eq_true rfl) ?_
  refine t_ifb_eq C 65 (by decide) dX6_prior_10 (fun c10 => ?_) (fun c10 => ?_)
  · first
    | (exfalso; omega)
    |  (refine r_ldc C _ lc_X6_106 dX6_prior_65 ?_
        exact r_iret C dX6_prior_67 rfl (Nat.le_refl _) rfl rfl)
  · first
    | (exfalso; omega)
    |  (refine r_iload_n C rfl dX6_prior_13 ?_
        refine r_i2l C dX6_prior_14 ?_
        refine r_lconst C 0 rfl dX6_prior_15 ?_
        refine r_ldc2 C _ ll_X6_100 dX6_prior_16 ?_
        refine r_callS C (sp_in G (tI2L rfl) (show (0 : Int64).toInt = 0 from rfl) (show (50 : Int64).toInt = 50 from rfl)) ks_X6_in kn_X6_in rfl dX6_prior_19 cl_X6_96 ⟨Nat.le_of_ble_eq_true rfl, Nat.le_of_ble_eq_true rfl⟩ (Nat.le_refl _) rfl (Nat.le_of_ble_eq_true rfl) ?_
        refine t_ifb_eq C 65 (by decide) dX6_prior_22 (fun c22 => ?_) (fun c22 => ?_)
        · first
          | (exfalso; omega)
          |  (refine r_ldc C _ lc_X6_106 dX6_prior_65 ?_
              exact r_iret C dX6_prior_67 rfl (Nat.le_refl _) rfl rfl)
        · first
          | (exfalso; omega)
          |  (refine r_iload_n C rfl dX6_prior_25 ?_
              refine r_i2l C dX6_prior_26 ?_
              refine r_lconst C 0 rfl dX6_prior_27 ?_
              refine r_ldc2 C _ ll_X6_100 dX6_prior_28 ?_
              refine r_callS C (sp_in G (tI2L rfl) (show (0 : Int64).toInt = 0 from rfl) (show (50 : Int64).toInt = 50 from rfl)) ks_X6_in kn_X6_in rfl dX6_prior_31 cl_X6_96 ⟨Nat.le_of_ble_eq_true rfl, Nat.le_of_ble_eq_true rfl⟩ (Nat.le_refl _) rfl (Nat.le_of_ble_eq_true rfl) ?_
              refine t_ifb_eq C 65 (by decide) dX6_prior_34 (fun c34 => ?_) (fun c34 => ?_)
              · first
                | (exfalso; omega)
                |  (refine r_ldc C _ lc_X6_106 dX6_prior_65 ?_
                    exact r_iret C dX6_prior_67 rfl (Nat.le_refl _) rfl rfl)
              · first
                | (exfalso; omega)
                |  (refine r_iload C rfl dX6_prior_37 ?_
                    refine r_i2l C dX6_prior_39 ?_
                    refine r_iload_n C rfl dX6_prior_40 ?_
                    refine r_i2l C dX6_prior_41 ?_
                    refine r_ldc2 C _ ll_X6_100 dX6_prior_42 ?_
                    refine r_callS C (sp_in G (tI2L rfl) (tI2L rfl) (show (50 : Int64).toInt = 50 from rfl)) ks_X6_in kn_X6_in rfl dX6_prior_45 cl_X6_96 ⟨Nat.le_of_ble_eq_true rfl, Nat.le_of_ble_eq_true rfl⟩ (Nat.le_refl _) rfl (Nat.le_of_ble_eq_true rfl) ?_
                    refine t_ifb_eq C 65 (by decide) dX6_prior_48 (fun c48 => ?_) (fun c48 => ?_)
                    · first
                      | (exfalso; omega)
                      |  (refine r_ldc C _ lc_X6_106 dX6_prior_65 ?_
                          exact r_iret C dX6_prior_67 rfl (Nat.le_refl _) rfl rfl)
                    · first
                      | (exfalso; omega)
                      |  (refine r_iload C rfl dX6_prior_51 ?_
                          refine r_i2l C dX6_prior_53 ?_
                          refine r_iload_n C rfl dX6_prior_54 ?_
                          refine r_i2l C dX6_prior_55 ?_
                          refine r_ldc2 C _ ll_X6_100 dX6_prior_56 ?_
                          refine r_callS C (sp_in G (tI2L rfl) (tI2L rfl) (show (50 : Int64).toInt = 50 from rfl)) ks_X6_in kn_X6_in rfl dX6_prior_59 cl_X6_96 ⟨Nat.le_of_ble_eq_true rfl, Nat.le_of_ble_eq_true rfl⟩ (Nat.le_refl _) rfl (Nat.le_of_ble_eq_true rfl) ?_
                          refine t_ifb_ne C 68 (by decide) dX6_prior_62 (fun c62 => ?_) (fun c62 => ?_)
                          · first
                            | (exfalso; omega)
                            |  (refine r_aload_n C rfl rfl dX6_prior_68 ?_
                                refine r_getO C dX6_prior_69 fl_X6_28 rfl rfl (q_lt hs (by decide)) (sh_12_8 hs) ?_
                                refine r_iload_n C rfl dX6_prior_72 ?_
                                refine r_iald C (v.toInt) rfl (by omega) dX6_prior_73 rfl (q_lt hs (by decide)) ?_
                                refine t_if_gt C 86 (by decide) (show _ = (hI h 19 i).toInt from rfl) dX6_prior_74 (fun c74 => ?_) (fun c74 => ?_)
                                · first
                                  | (exfalso; omega)
                                  |  (refine r_ldc C _ lc_X6_112 dX6_prior_86 ?_
                                      exact r_iret C dX6_prior_88 rfl (Nat.le_refl _) rfl rfl)
                                · first
                                  | (exfalso; omega)
                                  |  (refine r_aload_n C rfl rfl dX6_prior_77 ?_
                                      refine r_getO C dX6_prior_78 fl_X6_38 rfl rfl (q_lt hs (by decide)) (sh_12_11 hs) ?_
                                      refine r_iload_n C rfl dX6_prior_81 ?_
                                      refine r_iald C (v.toInt) rfl (by omega) dX6_prior_82 rfl (q_lt hs (by decide)) ?_
                                      refine t_if_le C 89 (by decide) (show _ = (hI h 22 i).toInt from rfl) dX6_prior_83 (fun c83 => ?_) (fun c83 => ?_)
                                      · first
                                        | (exfalso; omega)
                                        |  (refine r_aload_n C rfl rfl dX6_prior_89 ?_
                                            refine r_getO C dX6_prior_90 fl_X6_19 rfl rfl (q_lt hs (by decide)) (sh_12_5 hs) ?_
                                            refine r_iconstv C 4 rfl dX6_prior_93 ?_
                                            refine r_iload_n C rfl dX6_prior_94 ?_
                                            refine r_imul C dX6_prior_95 ?_
                                            refine r_iload_n C rfl dX6_prior_96 ?_
                                            refine r_iast C ((4) * (v.toInt)) (by have t := (tM (show (4 : Int32).toInt = 4 from rfl) rfl (by omega)); omega) (by omega) dX6_prior_97 rfl (q_lt hs (by decide)) ?_
                                            refine r_aload_n C rfl rfl dX6_prior_98 ?_
                                            refine r_getO C dX6_prior_99 fl_X6_19 rfl rfl (q_lt hs (by decide)) (sh_12_5 hs) ?_
                                            refine r_iconstv C 4 rfl dX6_prior_102 ?_
                                            refine r_iload_n C rfl dX6_prior_103 ?_
                                            refine r_imul C dX6_prior_104 ?_
                                            refine r_iconstv C 1 rfl dX6_prior_105 ?_
                                            refine r_iadd C dX6_prior_106 ?_
                                            refine r_iload_n C rfl dX6_prior_107 ?_
                                            refine r_iast C (((4) * (v.toInt)) + (1)) (by have t := (tA (tM (show (4 : Int32).toInt = 4 from rfl) rfl (by omega)) (show (1 : Int32).toInt = 1 from rfl) (by omega)); omega) (by omega) dX6_prior_108 rfl (q_lt hs (by decide)) ?_
                                            refine r_aload_n C rfl rfl dX6_prior_109 ?_
                                            refine r_getO C dX6_prior_110 fl_X6_19 rfl rfl (q_lt hs (by decide)) (sh_12_5 hs) ?_
                                            refine r_iconstv C 4 rfl dX6_prior_113 ?_
                                            refine r_iload_n C rfl dX6_prior_114 ?_
                                            refine r_imul C dX6_prior_115 ?_
                                            refine r_iconstv C 2 rfl dX6_prior_116 ?_
                                            refine r_iadd C dX6_prior_117 ?_
                                            refine r_iload C rfl dX6_prior_118 ?_
                                            refine r_iast C (((4) * (v.toInt)) + (2)) (by have t := (tA (tM (show (4 : Int32).toInt = 4 from rfl) rfl (by omega)) (show (2 : Int32).toInt = 2 from rfl) (by omega)); omega) (by omega) dX6_prior_120 rfl (q_lt hs (by decide)) ?_
                                            refine r_aload_n C rfl rfl dX6_prior_121 ?_
                                            refine r_getO C dX6_prior_122 fl_X6_19 rfl rfl (q_lt hs (by decide)) (sh_12_5 hs) ?_
                                            refine r_iconstv C 4 rfl dX6_prior_125 ?_
                                            refine r_iload_n C rfl dX6_prior_126 ?_
                                            refine r_imul C dX6_prior_127 ?_
                                            refine r_iconstv C 3 rfl dX6_prior_128 ?_
                                            refine r_iadd C dX6_prior_129 ?_
                                            refine r_iload C rfl dX6_prior_130 ?_
                                            refine r_iast C (((4) * (v.toInt)) + (3)) (by have t := (tA (tM (show (4 : Int32).toInt = 4 from rfl) rfl (by omega)) (show (3 : Int32).toInt = 3 from rfl) (by omega)); omega) (by omega) dX6_prior_132 rfl (q_lt hs (by decide)) ?_
                                            refine r_iconstv C 1 rfl dX6_prior_133 ?_
                                            exact r_iret C dX6_prior_134 rfl (Nat.le_refl _) rfl rfl)
                                      · first
                                        | (exfalso; omega)
                                        |  (refine r_ldc C _ lc_X6_112 dX6_prior_86 ?_
                                            exact r_iret C dX6_prior_88 rfl (Nat.le_refl _) rfl rfl)))
                          · first
                            | (exfalso; omega)
                            |  (refine r_ldc C _ lc_X6_106 dX6_prior_65 ?_
                                exact r_iret C dX6_prior_67 rfl (Nat.le_refl _) rfl rfl)))))

theorem sI_ne {h : oH} {a k x y : Nat} {v : Int32} (q : ¬ (x = a ∧ y = k)) : hI (sI h a k v) x y = hI h x y := by rw [hI_sI, if_neg q]
theorem sI_eq {h : oH} {a k x y : Nat} {v : Int32} (q : x = a ∧ y = k) : hI (sI h a k v) x y = v := by rw [hI_sI, if_pos q]
theorem hid_ge (i : Nat) : 35 ≤ hid i := by
  unfold hid
  omega
theorem pid_eq (i : Nat) : pid i = hid i + 1 := by
  unfold hid pid
  omega
set_option maxHeartbeats 4000000 in
set_option maxRecDepth 100000 in
theorem case_prior (G : oG) {h : oH} {n T : Nat} (I : Inv h n T) (v a b cc d : Int32) : Case G mX5_prior mX6_prior [.int v, .int a, .int b, .int cc, .int d] h n T := by
  obtain ⟨⟨a1, a2, a3⟩, ⟨b1, b2, b3⟩, ⟨c1, c2, c3⟩, ⟨d1, d2, d3⟩, ⟨e1, e2, e3⟩, ⟨f1, f2, f3⟩, g1, g2, g3⟩ := id I.2.2.1
  have hs := I.1.1
  have hh := I.1
  by_cases hval : 0 ≤ v.toInt ∧ v.toInt < n
  · obtain ⟨i, hi, hv⟩ : ∃ i : Nat, i < n ∧ v.toInt = (i : Int) := ⟨v.toInt.toNat, by omega, by omega⟩
    have hn := I.2.1.2
    have h24 := hh.2.2.1
    obtain ⟨Ie, Ib⟩ := I.2.2.2.1 i hi
    by_cases hx : (0 ≤ a.toInt ∧ a.toInt ≤ 50 ∧ 0 ≤ b.toInt ∧ b.toInt ≤ 50 ∧ a.toInt ≤ cc.toInt ∧ cc.toInt ≤ 50 ∧ b.toInt ≤ d.toInt ∧ d.toInt ≤ 50)
    · have e10 : (hI h (hid i) 10).toInt = (hI h 19 i).toInt := congrArg Int32.toInt Ie.2.2.2.2.2.2.2.2.2.1
      have e13 : (hI h (hid i) 13).toInt = (hI h 22 i).toInt := congrArg Int32.toInt Ie.2.2.2.2.2.2.2.2.2.2.2.2.1
      by_cases hf : ((hI h 19 i).toInt ≤ 0 ∧ (hI h 22 i).toInt ≤ 0)
      · have hc := c_prior G hh v hi hv a b cc d hx (by omega)
        generalize hh1 : (sI (sI (sI (sI h (hid i) 4 a) (hid i) 5 b) (hid i) 6 cc) (hid i) 7 d) = h1 at hc
        have hg := hid_ge i
        have hp := pid_eq i
        have x4 : hI h1 (hid i) 4 = a := by rw [← hh1]; simp [hI_sI]
        have x5 : hI h1 (hid i) 5 = b := by rw [← hh1]; simp [hI_sI]
        have x6 : hI h1 (hid i) 6 = cc := by rw [← hh1]; simp [hI_sI]
        have x7 : hI h1 (hid i) 7 = d := by rw [← hh1]; simp [hI_sI]
        have xk : ∀ k, (k < 4 ∨ 7 < k) → hI h1 (hid i) k = hI h (hid i) k := fun k hk => by rw [← hh1]; (repeat rw [sI_ne (by omega)])
        have xo : ∀ a k, a ≠ hid i → hI h1 a k = hI h a k := fun a k hk => by rw [← hh1]; (repeat rw [sI_ne (by omega)])
        have en : h1.1 = h.1 := by rw [← hh1]; rfl
        have eR : ∀ a k, hR h1 a k = hR h a k := fun a k => by rw [← hh1]; simp only [hR_sI]
        have eJ : ∀ a k, hJ h1 a k = hJ h a k := fun a k => by rw [← hh1]; simp only [hJ_sI]
        have hm := m_prior G (hh.fr en eR).1 (n := n) (by rw [xo 12 1 (by omega)]; exact hn) h24 v hi hv a b cc d hx (by rw [xo 19 i (by omega), xo 22 i (by omega)]; exact hf)
        generalize hh2 : (sI (sI (sI (sI (sI h1 12 0 0) 16 (4 * i) a) 16 (4 * i + 1) b) 16 (4 * i + 2) cc) 16 (4 * i + 3) d) = h2 at hm
        have y4 : hI h2 16 (4 * i) = a := by rw [← hh2]; (repeat first | rw [sI_ne (by omega)] | rw [sI_eq (by omega)])
        have y5 : hI h2 16 (4 * i + 1) = b := by rw [← hh2]; (repeat first | rw [sI_ne (by omega)] | rw [sI_eq (by omega)])
        have y6 : hI h2 16 (4 * i + 2) = cc := by rw [← hh2]; (repeat first | rw [sI_ne (by omega)] | rw [sI_eq (by omega)])
        have y7 : hI h2 16 (4 * i + 3) = d := by rw [← hh2]; (repeat first | rw [sI_ne (by omega)] | rw [sI_eq (by omega)])
        have yo : ∀ a k, ¬ (a = 12 ∧ k = 0) → ¬ (a = 16 ∧ 4 * i ≤ k ∧ k ≤ 4 * i + 3) → hI h2 a k = hI h1 a k := fun a k h1' h2' => by rw [← hh2]; (repeat rw [sI_ne (by omega)])
        have fn : h2.1 = h1.1 := by rw [← hh2]; rfl
        have fR : ∀ a k, hR h2 a k = hR h1 a k := fun a k => by rw [← hh2]; simp only [hR_sI]
        have fJ : ∀ a k, hJ h2 a k = hJ h1 a k := fun a k => by rw [← hh2]; simp only [hJ_sI]
        have o0 : ∀ k, hI h2 0 k = hI h 0 k := fun k => (yo 0 k (by omega) (by omega)).trans (xo 0 k (by omega))
        have o12 : ∀ k, k ≠ 0 → hI h2 12 k = hI h 12 k := fun k hk => (yo 12 k (by omega) (by omega)).trans (xo 12 k (by omega))
        have oi : ∀ a, 13 ≤ a → a ≤ 26 → a ≠ 16 → ∀ k, hI h2 a k = hI h a k := fun a q1 q2 q3 k => (yo a k (by omega) (by omega)).trans (xo a k (by omega))
        have oh : ∀ k, hI h2 (hid i) k = hI h1 (hid i) k := fun k => yo _ k (by omega) (by omega)
        have op : ∀ k, hI h2 (pid i) k = hI h (pid i) k := fun k => (yo _ k (by omega) (by omega)).trans (xo _ k (by omega))
        have oJ : ∀ a k, hJ h2 a k = hJ h a k := fun a k => (fJ a k).trans (eJ a k)
        refine ⟨_, h1, h2, n, hc, hm, I.hx hi (Nat.le_succ T) (fn.trans en) (fun a k => (fR a k).trans (eR a k)) (fun a k p0 p1 p2 p3 p4 p5 => (yo a k (by omega) (by omega)).trans (xo a k (by omega))) (o0 4) (o12 1 (by decide)) (o12 29 (by decide)) (o12 30 (by decide)) (o12 44 (by decide)) ?_ ?_ ?_⟩
        · have s' := I.2.2.1.mono (Nat.le_succ T)
          unfold oSc at s' ⊢
          simp only [o0, oJ, o12 16 (by decide), o12 17 (by decide), o12 18 (by decide), o12 19 (by decide), o12 20 (by decide), o12 21 (by decide)]
          exact s'
        · unfold oHe at Ie ⊢
          obtain ⟨q0, q1, q2, q3, q4, q5, q6, q7⟩ := Ie
          simp only [oh, op, x4, x5, x6, x7, y4, y5, y6, y7, xk 0 (by omega), xk 1 (by omega), xk 2 (by omega), xk 8 (by omega), xk 9 (by omega), xk 10 (by omega), xk 11 (by omega), xk 12 (by omega), xk 13 (by omega), xk 14 (by omega), oi 13 (by decide) (by decide) (by decide), oi 14 (by decide) (by decide) (by decide), oi 15 (by decide) (by decide) (by decide), oi 17 (by decide) (by decide) (by decide), oi 18 (by decide) (by decide) (by decide), oi 19 (by decide) (by decide) (by decide), oi 20 (by decide) (by decide) (by decide), oi 21 (by decide) (by decide) (by decide), oi 22 (by decide) (by decide) (by decide), oi 23 (by decide) (by decide) (by decide), oi 24 (by decide) (by decide) (by decide), oi 25 (by decide) (by decide) (by decide), oi 26 (by decide) (by decide) (by decide)]
          exact ⟨q0, q1, q2, trivial, trivial, trivial, trivial, q7⟩
        · have Ib' := Ib.mono (Nat.le_succ T)
          unfold oHb at Ib' ⊢
          obtain ⟨q0, q1, q2, q3, q4, q5⟩ := Ib'
          simp only [y4, y5, y6, y7, oi 13 (by decide) (by decide) (by decide), oi 14 (by decide) (by decide) (by decide), oi 15 (by decide) (by decide) (by decide), oi 17 (by decide) (by decide) (by decide), oi 18 (by decide) (by decide) (by decide), oi 19 (by decide) (by decide) (by decide), oi 20 (by decide) (by decide) (by decide), oi 21 (by decide) (by decide) (by decide), oi 22 (by decide) (by decide) (by decide), oi 23 (by decide) (by decide) (by decide), oi 24 (by decide) (by decide) (by decide), oi 25 (by decide) (by decide) (by decide), oi 26 (by decide) (by decide) (by decide)]
          exact ⟨q0, q1, q2, ⟨hx.1, hx.2.2.2.2.1, hx.2.2.2.2.2.1⟩, ⟨hx.2.2.1, hx.2.2.2.2.2.2⟩, q5⟩
      · exact case_bad G I (c_priorS G hh v hi hv a b cc d hx (by omega)) (m_priorS G hs hn h24 v hi hv a b cc d hx hf)
    · exact case_bad G I (c_priorX G hh v hi hv a b cc d hx) (m_priorX G hs hn h24 v hi hv a b cc d hx)
  · exact case_bad G I (c_priorN G hh v hval a b cc d) (m_priorN G hs I.2.1.2 hh.2.2.1 v hval a b cc d)

def CaseL (G : oG) (mc mm : oM) (as : List Value) (h : oH) (n T : Nat) : Prop := ∃ (r : Int64) (h1 h2 : oH) (n' : Nat), oSp G mc (.ref 0 :: as) h (some (.long r)) h1 ∧ oSp G mm (.ref 12 :: as) h1 (some (.long r)) h2 ∧ Inv h2 n' (T + 1)
theorem oSp.rl {G : oG} {M : oM} {as : List Value} {h h' : oH} {x y : Int64} (q : oSp G M as h (some (.long x)) h') (e : y = x) : oSp G M as h (some (.long y)) h' := by
  rw [e]
  exact q
theorem caseL_same (G : oG) {mc mm : oM} {as : List Value} {h : oH} {n T : Nat} {r r' : Int64} (I : Inv h n T) (q1 : oSp G mc (.ref 0 :: as) h (some (.long r)) h) (q2 : oSp G mm (.ref 12 :: as) h (some (.long r')) (sI h 12 0 0)) (e : r = r') : CaseL G mc mm as h n T := ⟨r, h, _, n, q1, q2.rl e, (I.th 0).mono (Nat.le_succ T)⟩
set_option maxHeartbeats 4000000 in
set_option maxRecDepth 100000 in
theorem c_count0 (G : oG) {h : oH} {n : Nat} (hh : oHs h n) (x : Int32) (hk : x.toInt = 0) : oSp G mX5_count [.ref 0, .int x] h (some (.long ((hI h 0 4).toInt64))) h := by
  refine oSp.intro [some (.ref 0), some (.int x)] rfl (Nat.le_of_ble_eq_true rfl) (plainFor_of_name (by decide +kernel)) (Nat.le_refl _) ?_
  intro p l e R s m args below meth c C
  refine r_iload_n C rfl dX5_count_0 ?_
  refine r_tableIn C 48 (by rw [hk]; decide) (by rw [hk]; decide) (by rw [hk]; rfl) (by decide) dX5_count_1 ?_
  refine r_aload_n C rfl rfl dX5_count_48 ?_
  refine r_getI C dX5_count_49 fl_X5_36 rfl (q_lt hh.1 (by decide)) ?_
  refine r_i2l C dX5_count_52 ?_
  exact r_lret C dX5_count_53 rfl (Nat.le_refl _) rfl rfl

set_option maxHeartbeats 4000000 in
set_option maxRecDepth 100000 in
theorem m_count0 (G : oG) {h : oH} (hs : oSh h) {n : Nat} (hn : (hI h 12 1).toInt = (n : Int)) (hn24 : n ≤ 24) (x : Int32) (hk : x.toInt = 0) : oSp G mX6_count [.ref 12, .int x] h (some (.long ((hI h 12 1).toInt64))) (sI h 12 0 0) := by
  refine oSp.intro [some (.ref 12), some (.int x)] rfl (Nat.le_of_ble_eq_true rfl) (plainFor_of_name (by decide +kernel)) (Nat.le_refl _) ?_
  intro p l e R s m args below meth c C
  refine r_aload_n C rfl rfl dX6_count_0 ?_
  refine r_iconstv C 0 rfl dX6_count_1 ?_
  refine r_putI C dX6_count_2 fl_X6_90 rfl (q_lt hs (by decide)) (Or.inl rfl) ?_
  refine r_iload_n C rfl dX6_count_5 ?_
  refine r_tableIn C 52 (by rw [hk]; decide) (by rw [hk]; decide) (by rw [hk]; rfl) (by decide) dX6_count_6 ?_
  refine r_aload_n C rfl rfl dX6_count_52 ?_
  refine r_getI C dX6_count_53 fl_X6_93 rfl (q_lt hs (by decide)) ?_
  refine r_i2l C dX6_count_56 ?_
  exact r_lret C dX6_count_57 rfl (Nat.le_refl _) rfl rfl

set_option maxHeartbeats 4000000 in
set_option maxRecDepth 100000 in
theorem c_count1 (G : oG) {h : oH} {n : Nat} (hh : oHs h n) (x : Int32) (hk : x.toInt = 1) : oSp G mX5_count [.ref 0, .int x] h (some (.long ((hI h 0 5).toInt64))) h := by
  refine oSp.intro [some (.ref 0), some (.int x)] rfl (Nat.le_of_ble_eq_true rfl) (plainFor_of_name (by decide +kernel)) (Nat.le_refl _) ?_
  intro p l e R s m args below meth c C
  refine r_iload_n C rfl dX5_count_0 ?_
  refine r_tableIn C 54 (by rw [hk]; decide) (by rw [hk]; decide) (by rw [hk]; rfl) (by decide) dX5_count_1 ?_
  refine r_aload_n C rfl rfl dX5_count_54 ?_
  refine r_getI C dX5_count_55 fl_X5_40 rfl (q_lt hh.1 (by decide)) ?_
  refine r_i2l C dX5_count_58 ?_
  exact r_lret C dX5_count_59 rfl (Nat.le_refl _) rfl rfl

set_option maxHeartbeats 4000000 in
set_option maxRecDepth 100000 in
theorem m_count1 (G : oG) {h : oH} (hs : oSh h) {n : Nat} (hn : (hI h 12 1).toInt = (n : Int)) (hn24 : n ≤ 24) (x : Int32) (hk : x.toInt = 1) : oSp G mX6_count [.ref 12, .int x] h (some (.long ((hI h 12 16).toInt64))) (sI h 12 0 0) := by
  refine oSp.intro [some (.ref 12), some (.int x)] rfl (Nat.le_of_ble_eq_true rfl) (plainFor_of_name (by decide +kernel)) (Nat.le_refl _) ?_
  intro p l e R s m args below meth c C
  refine r_aload_n C rfl rfl dX6_count_0 ?_
  refine r_iconstv C 0 rfl dX6_count_1 ?_
  refine r_putI C dX6_count_2 fl_X6_90 rfl (q_lt hs (by decide)) (Or.inl rfl) ?_
  refine r_iload_n C rfl dX6_count_5 ?_
  refine r_tableIn C 58 (by rw [hk]; decide) (by rw [hk]; decide) (by rw [hk]; rfl) (by decide) dX6_count_6 ?_
  refine r_aload_n C rfl rfl dX6_count_58 ?_
  refine r_getI C dX6_count_59 fl_X6_115 rfl (q_lt hs (by decide)) ?_
  refine r_i2l C dX6_count_62 ?_
  exact r_lret C dX6_count_63 rfl (Nat.le_refl _) rfl rfl

set_option maxHeartbeats 4000000 in
set_option maxRecDepth 100000 in
theorem c_count2 (G : oG) {h : oH} {n : Nat} (hh : oHs h n) (x : Int32) (hk : x.toInt = 2) : oSp G mX5_count [.ref 0, .int x] h (some (.long ((sumI (fun j => b1 (dueC h j)) n).toInt64))) h := by
  refine oSp.intro [some (.ref 0), some (.int x)] rfl (Nat.le_of_ble_eq_true rfl) (plainFor_of_name (by decide +kernel)) (Nat.le_refl _) ?_
  intro p l e R s m args below meth c C
  refine r_iload_n C rfl dX5_count_0 ?_
  refine r_tableIn C 60 (by rw [hk]; decide) (by rw [hk]; decide) (by rw [hk]; rfl) (by decide) dX5_count_1 ?_
  refine r_aload_n C rfl rfl dX5_count_60 ?_
  refine r_callV C (sp_countDue G (by exact hh)) kv_X5_countDue kn_X5_countDue rfl dX5_count_61 cl_X5_108 ⟨Nat.le_of_ble_eq_true rfl, Nat.le_of_ble_eq_true rfl⟩ (by decide) rfl rfl (q_lt hh.1 (by decide)) (Nat.le_refl _) rfl (Nat.le_of_ble_eq_true rfl) ?_
  refine r_i2l C dX5_count_64 ?_
  exact r_lret C dX5_count_65 rfl (Nat.le_refl _) rfl rfl

set_option maxHeartbeats 4000000 in
set_option maxRecDepth 100000 in
theorem m_count2 (G : oG) {h : oH} (hs : oSh h) {n : Nat} (hn : (hI h 12 1).toInt = (n : Int)) (hn24 : n ≤ 24) (x : Int32) (hk : x.toInt = 2) : oSp G mX6_count [.ref 12, .int x] h (some (.long ((sumI (fun j => b1 (dueP h j)) n).toInt64))) (sI h 12 0 0) := by
  refine oSp.intro [some (.ref 12), some (.int x)] rfl (Nat.le_of_ble_eq_true rfl) (plainFor_of_name (by decide +kernel)) (Nat.le_refl _) ?_
  intro p l e R s m args below meth c C
  refine r_aload_n C rfl rfl dX6_count_0 ?_
  refine r_iconstv C 0 rfl dX6_count_1 ?_
  refine r_putI C dX6_count_2 fl_X6_90 rfl (q_lt hs (by decide)) (Or.inl rfl) ?_
  refine r_iload_n C rfl dX6_count_5 ?_
  refine r_tableIn C 64 (by rw [hk]; decide) (by rw [hk]; decide) (by rw [hk]; rfl) (by decide) dX6_count_6 ?_
  refine r_aload_n C rfl rfl dX6_count_64 ?_
  refine r_callV C (sp_due G (by exact hs) (by exact hn) hn24) kv_X6_due kn_X6_due rfl dX6_count_65 cl_X6_130 ⟨Nat.le_of_ble_eq_true rfl, Nat.le_of_ble_eq_true rfl⟩ (by decide) rfl rfl (q_lt hs (by decide)) (Nat.le_refl _) rfl (Nat.le_of_ble_eq_true rfl) ?_
  refine r_i2l C dX6_count_68 ?_
  exact r_lret C dX6_count_69 rfl (Nat.le_refl _) rfl rfl

set_option maxHeartbeats 4000000 in
set_option maxRecDepth 100000 in
theorem c_count3 (G : oG) {h : oH} {n : Nat} (hh : oHs h n) (x : Int32) (hk : x.toInt = 3) : oSp G mX5_count [.ref 0, .int x] h (some (.long ((hI h 0 10).toInt64))) h := by
  refine oSp.intro [some (.ref 0), some (.int x)] rfl (Nat.le_of_ble_eq_true rfl) (plainFor_of_name (by decide +kernel)) (Nat.le_refl _) ?_
  intro p l e R s m args below meth c C
  refine r_iload_n C rfl dX5_count_0 ?_
  refine r_tableIn C 66 (by rw [hk]; decide) (by rw [hk]; decide) (by rw [hk]; rfl) (by decide) dX5_count_1 ?_
  refine r_aload_n C rfl rfl dX5_count_66 ?_
  refine r_getI C dX5_count_67 fl_X5_55 rfl (q_lt hh.1 (by decide)) ?_
  refine r_i2l C dX5_count_70 ?_
  exact r_lret C dX5_count_71 rfl (Nat.le_refl _) rfl rfl

set_option maxHeartbeats 4000000 in
set_option maxRecDepth 100000 in
theorem m_count3 (G : oG) {h : oH} (hs : oSh h) {n : Nat} (hn : (hI h 12 1).toInt = (n : Int)) (hn24 : n ≤ 24) (x : Int32) (hk : x.toInt = 3) : oSp G mX6_count [.ref 12, .int x] h (some (.long ((hI h 12 19).toInt64))) (sI h 12 0 0) := by
  refine oSp.intro [some (.ref 12), some (.int x)] rfl (Nat.le_of_ble_eq_true rfl) (plainFor_of_name (by decide +kernel)) (Nat.le_refl _) ?_
  intro p l e R s m args below meth c C
  refine r_aload_n C rfl rfl dX6_count_0 ?_
  refine r_iconstv C 0 rfl dX6_count_1 ?_
  refine r_putI C dX6_count_2 fl_X6_90 rfl (q_lt hs (by decide)) (Or.inl rfl) ?_
  refine r_iload_n C rfl dX6_count_5 ?_
  refine r_tableIn C 70 (by rw [hk]; decide) (by rw [hk]; decide) (by rw [hk]; rfl) (by decide) dX6_count_6 ?_
  refine r_aload_n C rfl rfl dX6_count_70 ?_
  refine r_getI C dX6_count_71 fl_X6_134 rfl (q_lt hs (by decide)) ?_
  refine r_i2l C dX6_count_74 ?_
  exact r_lret C dX6_count_75 rfl (Nat.le_refl _) rfl rfl

set_option maxHeartbeats 4000000 in
set_option maxRecDepth 100000 in
theorem c_count4 (G : oG) {h : oH} {n : Nat} (hh : oHs h n) (x : Int32) (hk : x.toInt = 4) : oSp G mX5_count [.ref 0, .int x] h (some (.long (hJ h 0 11))) h := by
  refine oSp.intro [some (.ref 0), some (.int x)] rfl (Nat.le_of_ble_eq_true rfl) (plainFor_of_name (by decide +kernel)) (Nat.le_refl _) ?_
  intro p l e R s m args below meth c C
  refine r_iload_n C rfl dX5_count_0 ?_
  refine r_tableIn C 72 (by rw [hk]; decide) (by rw [hk]; decide) (by rw [hk]; rfl) (by decide) dX5_count_1 ?_
  refine r_aload_n C rfl rfl dX5_count_72 ?_
  refine r_getJ C dX5_count_73 fl_X5_58 rfl (q_lt hh.1 (by decide)) ?_
  exact r_lret C dX5_count_76 rfl (Nat.le_refl _) rfl rfl

set_option maxHeartbeats 4000000 in
set_option maxRecDepth 100000 in
theorem m_count4 (G : oG) {h : oH} (hs : oSh h) {n : Nat} (hn : (hI h 12 1).toInt = (n : Int)) (hn24 : n ≤ 24) (x : Int32) (hk : x.toInt = 4) : oSp G mX6_count [.ref 12, .int x] h (some (.long (hJ h 12 22))) (sI h 12 0 0) := by
  refine oSp.intro [some (.ref 12), some (.int x)] rfl (Nat.le_of_ble_eq_true rfl) (plainFor_of_name (by decide +kernel)) (Nat.le_refl _) ?_
  intro p l e R s m args below meth c C
  refine r_aload_n C rfl rfl dX6_count_0 ?_
  refine r_iconstv C 0 rfl dX6_count_1 ?_
  refine r_putI C dX6_count_2 fl_X6_90 rfl (q_lt hs (by decide)) (Or.inl rfl) ?_
  refine r_iload_n C rfl dX6_count_5 ?_
  refine r_tableIn C 76 (by rw [hk]; decide) (by rw [hk]; decide) (by rw [hk]; rfl) (by decide) dX6_count_6 ?_
  refine r_aload_n C rfl rfl dX6_count_76 ?_
  refine r_getJ C dX6_count_77 fl_X6_139 rfl (q_lt hs (by decide)) ?_
  exact r_lret C dX6_count_80 rfl (Nat.le_refl _) rfl rfl

set_option maxHeartbeats 4000000 in
set_option maxRecDepth 100000 in
theorem c_count5 (G : oG) {h : oH} {n : Nat} (hh : oHs h n) (x : Int32) (hk : x.toInt = 5) : oSp G mX5_count [.ref 0, .int x] h (some (.long (hJ h 0 12))) h := by
  refine oSp.intro [some (.ref 0), some (.int x)] rfl (Nat.le_of_ble_eq_true rfl) (plainFor_of_name (by decide +kernel)) (Nat.le_refl _) ?_
  intro p l e R s m args below meth c C
  refine r_iload_n C rfl dX5_count_0 ?_
  refine r_tableIn C 77 (by rw [hk]; decide) (by rw [hk]; decide) (by rw [hk]; rfl) (by decide) dX5_count_1 ?_
  refine r_aload_n C rfl rfl dX5_count_77 ?_
  refine r_getJ C dX5_count_78 fl_X5_62 rfl (q_lt hh.1 (by decide)) ?_
  exact r_lret C dX5_count_81 rfl (Nat.le_refl _) rfl rfl

set_option maxHeartbeats 4000000 in
set_option maxRecDepth 100000 in
theorem m_count5 (G : oG) {h : oH} (hs : oSh h) {n : Nat} (hn : (hI h 12 1).toInt = (n : Int)) (hn24 : n ≤ 24) (x : Int32) (hk : x.toInt = 5) : oSp G mX6_count [.ref 12, .int x] h (some (.long (hJ h 12 23))) (sI h 12 0 0) := by
  refine oSp.intro [some (.ref 12), some (.int x)] rfl (Nat.le_of_ble_eq_true rfl) (plainFor_of_name (by decide +kernel)) (Nat.le_refl _) ?_
  intro p l e R s m args below meth c C
  refine r_aload_n C rfl rfl dX6_count_0 ?_
  refine r_iconstv C 0 rfl dX6_count_1 ?_
  refine r_putI C dX6_count_2 fl_X6_90 rfl (q_lt hs (by decide)) (Or.inl rfl) ?_
  refine r_iload_n C rfl dX6_count_5 ?_
  refine r_tableIn C 81 (by rw [hk]; decide) (by rw [hk]; decide) (by rw [hk]; rfl) (by decide) dX6_count_6 ?_
  refine r_aload_n C rfl rfl dX6_count_81 ?_
  refine r_getJ C dX6_count_82 fl_X6_187 rfl (q_lt hs (by decide)) ?_
  exact r_lret C dX6_count_85 rfl (Nat.le_refl _) rfl rfl

set_option maxHeartbeats 4000000 in
set_option maxRecDepth 100000 in
theorem c_count6 (G : oG) {h : oH} {n : Nat} (hh : oHs h n) (x : Int32) (hk : x.toInt = 6) : oSp G mX5_count [.ref 0, .int x] h (some (.long (hJ h 0 13))) h := by
  refine oSp.intro [some (.ref 0), some (.int x)] rfl (Nat.le_of_ble_eq_true rfl) (plainFor_of_name (by decide +kernel)) (Nat.le_refl _) ?_
  intro p l e R s m args below meth c C
  refine r_iload_n C rfl dX5_count_0 ?_
  refine r_tableIn C 82 (by rw [hk]; decide) (by rw [hk]; decide) (by rw [hk]; rfl) (by decide) dX5_count_1 ?_
  refine r_aload_n C rfl rfl dX5_count_82 ?_
  refine r_getJ C dX5_count_83 fl_X5_65 rfl (q_lt hh.1 (by decide)) ?_
  exact r_lret C dX5_count_86 rfl (Nat.le_refl _) rfl rfl

set_option maxHeartbeats 4000000 in
set_option maxRecDepth 100000 in
theorem m_count6 (G : oG) {h : oH} (hs : oSh h) {n : Nat} (hn : (hI h 12 1).toInt = (n : Int)) (hn24 : n ≤ 24) (x : Int32) (hk : x.toInt = 6) : oSp G mX6_count [.ref 12, .int x] h (some (.long (hJ h 12 24))) (sI h 12 0 0) := by
  refine oSp.intro [some (.ref 12), some (.int x)] rfl (Nat.le_of_ble_eq_true rfl) (plainFor_of_name (by decide +kernel)) (Nat.le_refl _) ?_
  intro p l e R s m args below meth c C
  refine r_aload_n C rfl rfl dX6_count_0 ?_
  refine r_iconstv C 0 rfl dX6_count_1 ?_
  refine r_putI C dX6_count_2 fl_X6_90 rfl (q_lt hs (by decide)) (Or.inl rfl) ?_
  refine r_iload_n C rfl dX6_count_5 ?_
  refine r_tableIn C 86 (by rw [hk]; decide) (by rw [hk]; decide) (by rw [hk]; rfl) (by decide) dX6_count_6 ?_
  refine r_aload_n C rfl rfl dX6_count_86 ?_
  refine r_getJ C dX6_count_87 fl_X6_190 rfl (q_lt hs (by decide)) ?_
  exact r_lret C dX6_count_90 rfl (Nat.le_refl _) rfl rfl

set_option maxHeartbeats 4000000 in
set_option maxRecDepth 100000 in
theorem c_count7 (G : oG) {h : oH} {n : Nat} (hh : oHs h n) (x : Int32) (hk : x.toInt = 7) : oSp G mX5_count [.ref 0, .int x] h (some (.long ((hI h 8 1).toInt64))) h := by
  refine oSp.intro [some (.ref 0), some (.int x)] rfl (Nat.le_of_ble_eq_true rfl) (plainFor_of_name (by decide +kernel)) (Nat.le_refl _) ?_
  intro p l e R s m args below meth c C
  refine r_iload_n C rfl dX5_count_0 ?_
  refine r_tableIn C 87 (by rw [hk]; decide) (by rw [hk]; decide) (by rw [hk]; rfl) (by decide) dX5_count_1 ?_
  refine r_aload_n C rfl rfl dX5_count_87 ?_
  refine r_getO C dX5_count_88 fl_X5_25 rfl rfl (q_lt hh.1 (by decide)) (sh_0_2 hh.1) ?_
  refine r_getI C dX5_count_91 fl_X5_211 rfl (q_lt hh.1 (by decide)) ?_
  refine r_i2l C dX5_count_94 ?_
  exact r_lret C dX5_count_95 rfl (Nat.le_refl _) rfl rfl

set_option maxHeartbeats 4000000 in
set_option maxRecDepth 100000 in
theorem m_count7 (G : oG) {h : oH} (hs : oSh h) {n : Nat} (hn : (hI h 12 1).toInt = (n : Int)) (hn24 : n ≤ 24) (x : Int32) (hk : x.toInt = 7) : oSp G mX6_count [.ref 12, .int x] h (some (.long ((hI h 12 29).toInt64))) (sI h 12 0 0) := by
  refine oSp.intro [some (.ref 12), some (.int x)] rfl (Nat.le_of_ble_eq_true rfl) (plainFor_of_name (by decide +kernel)) (Nat.le_refl _) ?_
  intro p l e R s m args below meth c C
  refine r_aload_n C rfl rfl dX6_count_0 ?_
  refine r_iconstv C 0 rfl dX6_count_1 ?_
  refine r_putI C dX6_count_2 fl_X6_90 rfl (q_lt hs (by decide)) (Or.inl rfl) ?_
  refine r_iload_n C rfl dX6_count_5 ?_
  refine r_tableIn C 91 (by rw [hk]; decide) (by rw [hk]; decide) (by rw [hk]; rfl) (by decide) dX6_count_6 ?_
  refine r_aload_n C rfl rfl dX6_count_91 ?_
  refine r_getI C dX6_count_92 fl_X6_201 rfl (q_lt hs (by decide)) ?_
  refine r_i2l C dX6_count_95 ?_
  exact r_lret C dX6_count_96 rfl (Nat.le_refl _) rfl rfl

set_option maxHeartbeats 4000000 in
set_option maxRecDepth 100000 in
theorem c_countX (G : oG) {h : oH} {n : Nat} (hh : oHs h n) (x : Int32) (hk : ¬ (0 ≤ x.toInt ∧ x.toInt ≤ 7)) : oSp G mX5_count [.ref 0, .int x] h (some (.long (-1000001))) h := by
  refine oSp.intro [some (.ref 0), some (.int x)] rfl (Nat.le_of_ble_eq_true rfl) (plainFor_of_name (by decide +kernel)) (Nat.le_refl _) ?_
  intro p l e R s m args below meth c C
  refine r_iload_n C rfl dX5_count_0 ?_
  refine r_tableOut C 96 (by omega) (by decide) dX5_count_1 ?_
  refine r_ldc2 C _ ll_X5_214 dX5_count_96 ?_
  exact r_lret C dX5_count_99 rfl (Nat.le_refl _) rfl rfl

set_option maxHeartbeats 4000000 in
set_option maxRecDepth 100000 in
theorem m_countX (G : oG) {h : oH} (hs : oSh h) {n : Nat} (hn : (hI h 12 1).toInt = (n : Int)) (hn24 : n ≤ 24) (x : Int32) (hk : ¬ (0 ≤ x.toInt ∧ x.toInt ≤ 7)) : oSp G mX6_count [.ref 12, .int x] h (some (.long (-1000001))) (sI h 12 0 0) := by
  refine oSp.intro [some (.ref 12), some (.int x)] rfl (Nat.le_of_ble_eq_true rfl) (plainFor_of_name (by decide +kernel)) (Nat.le_refl _) ?_
  intro p l e R s m args below meth c C
  refine r_aload_n C rfl rfl dX6_count_0 ?_
  refine r_iconstv C 0 rfl dX6_count_1 ?_
  refine r_putI C dX6_count_2 fl_X6_90 rfl (q_lt hs (by decide)) (Or.inl rfl) ?_
  refine r_iload_n C rfl dX6_count_5 ?_
  refine r_tableOut C 97 (by omega) (by decide) dX6_count_6 ?_
  refine r_ldc2 C _ ll_X6_293 dX6_count_97 ?_
  exact r_lret C dX6_count_100 rfl (Nat.le_refl _) rfl rfl

set_option maxHeartbeats 4000000 in
set_option maxRecDepth 100000 in
theorem case_count (G : oG) {h : oH} {n T : Nat} (I : Inv h n T) (x : Int32) : CaseL G mX5_count mX6_count [.int x] h n T := by
  obtain ⟨⟨a1, a2, a3⟩, ⟨b1, b2, b3⟩, ⟨c1, c2, c3⟩, ⟨d1, d2, d3⟩, ⟨e1, e2, e3⟩, ⟨f1, f2, f3⟩, g1, g2, g3⟩ := id I.2.2.1
  have hs := I.1.1
  have hh := I.1
  have hn := I.2.1.2
  have h24 := hh.2.2.1
  obtain ⟨z, z1, z2, z3, z4⟩ := I.2.2.2.2.1.2
  by_cases hx : 0 ≤ x.toInt ∧ x.toInt ≤ 7
  · rcases (show x.toInt = 0 ∨ x.toInt = 1 ∨ x.toInt = 2 ∨ x.toInt = 3 ∨ x.toInt = 4 ∨ x.toInt = 5 ∨ x.toInt = 6 ∨ x.toInt = 7 by omega) with hk | hk | hk | hk | hk | hk | hk | hk
    · exact caseL_same G I (c_count0 G hh x hk) (m_count0 G hs hn h24 x hk) (congrArg Int32.toInt64 (Int32.toInt_inj.mp (I.2.1.1.trans hn.symm)))
    · exact caseL_same G I (c_count1 G hh x hk) (m_count1 G hs hn h24 x hk) (congrArg Int32.toInt64 a1)
    · exact caseL_same G I (c_count2 G hh x hk) (m_count2 G hs hn h24 x hk) (congrArg Int32.toInt64 (sumI_congr fun j hj => b1_iff (due_iff (I.2.2.2.1 j hj).1 b1 c1 (fun _ => rfl))))
    · exact caseL_same G I (c_count3 G hh x hk) (m_count3 G hs hn h24 x hk) (congrArg Int32.toInt64 f1)
    · exact caseL_same G I (c_count4 G hh x hk) (m_count4 G hs hn h24 x hk) g1
    · exact caseL_same G I (c_count5 G hh x hk) (m_count5 G hs hn h24 x hk) g2
    · exact caseL_same G I (c_count6 G hh x hk) (m_count6 G hs hn h24 x hk) g3
    · exact caseL_same G I (c_count7 G hh x hk) (m_count7 G hs hn h24 x hk) (congrArg Int32.toInt64 (Int32.toInt_inj.mp (z2.trans z3.symm)))
  · exact caseL_same G I (c_countX G hh x hx) (m_countX G hs hn h24 x hx) rfl

theorem tD {a b : Int32} {x y : Int} (ha : a.toInt = x) (hb : b.toInt = y) (h0 : 0 ≤ x) (h1 : 0 < y) : (a / b).toInt = x / y := by
  have t := tB a
  rw [Int32.toInt_div, ha, hb, Int.tdiv_eq_ediv_of_nonneg h0]
  have q1 := Int.ediv_nonneg h0 (Int.le_of_lt h1)
  have q2 := Int.ediv_le_self y h0
  exact Int.bmod_eq_of_le (by omega) (by omega)
def lastN (D H : Int) : Int := if 0 < D then (if 0 < H then min 500 ((D - 1) / H) else 500) else 0
theorem lastN_le (D H : Int) : lastN D H ≤ 500 := by
  unfold lastN
  (repeat' split) <;> omega
theorem lastN_out {D H : Int} {j : Nat} (h : D ≤ ((j : Int) + 1) * H) : lastN D H ≤ j := by
  unfold lastN
  split
  · split
    · rename_i h1 h2
      have := Int.ediv_lt_of_lt_mul h2 (show D - 1 < ((j : Int) + 1) * H by omega)
      omega
    · rename_i h1 h2
      exfalso
      have := Int.mul_nonpos_of_nonneg_of_nonpos (show (0 : Int) ≤ (j : Int) + 1 by omega) (show H ≤ 0 by omega)
      omega
  · omega
theorem lastN_go {D H : Int} {j : Nat} (h : ((j : Int) + 1) * H < D) (hj : j < 500) (h0 : 0 ≤ H) : ((j + 1 : Nat) : Int) ≤ lastN D H := by
  unfold lastN
  have hp := Int.mul_nonneg (show (0 : Int) ≤ (j : Int) + 1 by omega) h0
  rw [if_pos (by omega)]
  split
  · rename_i h2
    have := Int.le_ediv_of_mul_le h2 (show ((j : Int) + 1) * H ≤ D - 1 by omega)
    omega
  · omega
theorem last_c {h : oH} {a : Nat} {x : Int32} {D H : Int} (hD : (hI h a 9).toInt = D) (hH : (hI h a 6 + hI h a 7 * x).toInt = H) (h0 : D ≤ 5000) : (lastC h a x).toInt = lastN D H := by
  unfold lastC lastN
  rw [hD, hH]
  split
  · split
    · rw [mn_t, tD (tS hD (show (1 : Int32).toInt = 1 from rfl) (by omega)) hH (by omega) (by omega)]
      rfl
    · rfl
  · rfl
set_option maxHeartbeats 4000000 in
set_option maxRecDepth 100000 in
theorem lp_lasts (G : oG) {p : Program} {l : Launch} {e : Env} {R : Room} {s : State} {m : MethodId} {args : Array Value} {below : List Frame} {meth : Method} {c : Code} {n0 nF : Nat} {h : oH} (hs : oSh h) (v : Int32) {i : Nat} (hv : v.toInt = (i : Int)) (hi : i < 24) (x : Int32) {D Hh : Int} (hD : (hI h 18 i).toInt = D) (hH : (hI h 16 (4 * i + 2) + hI h 16 (4 * i + 3) * x).toInt = Hh) (h0 : 0 ≤ D ∧ D ≤ 5000) (h1 : 0 ≤ Hh ∧ Hh ≤ 2050) (r : Int32) (hr : r.toInt = lastN D Hh) (C : oC G mX6_lasts n0 nF p l R s m args meth c) (hF : h.1 ≤ nF) : ∀ (k j : Nat) (w y : Int32), j + k = 501 → w.toInt = D - ((j : Int) + 1) * Hh → y.toInt = (j : Int) → (j : Int) ≤ lastN D Hh → oS G mX6_lasts p l e R s m args below meth c (oZ G below args s n0 nF (some (.int r)) h) n0 45 [some (.ref 12), some (.int v), some (.int x), some (.int w), some (.int y)] [] h := by
  intro k
  have hl := lastN_le D Hh
  induction k with
  | zero =>
    intro j w y hjk hw hy hj
    omega
  | succ k ih =>
    intro j w y hjk hw hy hj
    have p0 := Int.mul_nonneg (show (0 : Int) ≤ (j : Int) + 1 by omega) h1.1
    have p1 := Int.mul_le_mul (show (j : Int) + 1 ≤ 501 by omega) h1.2 h1.1 (by omega)
    have p2 : ((j : Int) + 1 + 1) * Hh = ((j : Int) + 1) * Hh + Hh := by rw [Int.add_mul ((j : Int) + 1) 1, Int.one_mul]
    refine r_iload_n C rfl dX6_lasts_45 ?_
    refine t_if_le C 72 (by decide) hw dX6_lasts_46 (fun c46 => ?_) (fun c46 => ?_)
    · refine r_iload C rfl dX6_lasts_72 ?_
      exact r_iret C dX6_lasts_74 rfl hF (by rw [show r = y from Int32.toInt_inj.mp (by rw [hr, hy]; first | (have q := lastN_out (j := j) (show D ≤ ((j : Int) + 1) * Hh by omega); omega) | omega)]) rfl
    · refine r_iload C rfl dX6_lasts_49 ?_
      refine r_sipush C 500 rfl dX6_lasts_51 ?_
      refine t_icmp_ge C 72 (by decide) hy (show (500 : Int32).toInt = 500 from rfl) dX6_lasts_54 (fun c54 => ?_) (fun c54 => ?_)
      · refine r_iload C rfl dX6_lasts_72 ?_
        exact r_iret C dX6_lasts_74 rfl hF (by rw [show r = y from Int32.toInt_inj.mp (by rw [hr, hy]; first | (have q := lastN_out (j := j) (show D ≤ ((j : Int) + 1) * Hh by omega); omega) | omega)]) rfl
      · refine r_iinc C rfl rfl (Nat.le_of_ble_eq_true rfl) dX6_lasts_57 ?_
        refine r_iload_n C rfl dX6_lasts_60 ?_
        refine r_aload_n C rfl rfl dX6_lasts_61 ?_
        refine r_iload_n C rfl dX6_lasts_62 ?_
        refine r_iload_n C rfl dX6_lasts_63 ?_
        refine r_callV C (sp_highOf G (by exact hs) _ hv hi _) kv_X6_highOf kn_X6_highOf rfl dX6_lasts_64 cl_X6_122 ⟨Nat.le_of_ble_eq_true rfl, Nat.le_of_ble_eq_true rfl⟩ (by decide) rfl rfl (q_lt hs (by decide)) hF rfl (Nat.le_of_ble_eq_true rfl) ?_
        refine r_isub C dX6_lasts_67 ?_
        refine r_istore_n C rfl (Nat.le_of_ble_eq_true rfl) dX6_lasts_68 ?_
        refine r_goto C 45 (by decide) dX6_lasts_69 ?_
        exact ih (j + 1) _ _ (by omega) (by have t := tS hw hH (by omega); rw [t, show ((j + 1 : Nat) : Int) = (j : Int) + 1 from rfl]; omega) (by have t := tA hy (show (Int32.ofInt 1).toInt = 1 from rfl) (by omega); omega) (lastN_go (by omega) (by omega) h1.1)

set_option maxHeartbeats 4000000 in
set_option maxRecDepth 100000 in
theorem c_lasts (G : oG) {h : oH} {n : Nat} (hh : oHs h n) (v : Int32) {i : Nat} (hi : i < n) (hv : v.toInt = (i : Int)) (x : Int32) (hx : 0 ≤ x.toInt ∧ x.toInt ≤ 40) : oSp G mX5_lasts [.ref 0, .int v, .int x] h (some (.int (lastC h (hid i) x))) h := by
  refine oSp.intro [some (.ref 0), some (.int v), some (.int x), none] rfl (Nat.le_of_ble_eq_true rfl) (plainFor_of_name (by decide +kernel)) (Nat.le_refl _) ?_
  intro p l e R s m args below meth c C
  refine r_aload_n C rfl rfl dX5_lasts_0 ?_
  refine r_iload_n C rfl dX5_lasts_1 ?_
  refine r_callV C (sp_houseAt G (by exact hh) _ hi hv) kv_X5_houseAt kn_X5_houseAt rfl dX5_lasts_2 cl_X5_77 ⟨Nat.le_of_ble_eq_true rfl, Nat.le_of_ble_eq_true rfl⟩ (by decide) rfl rfl (q_lt hh.1 (by decide)) (Nat.le_refl _) rfl (Nat.le_of_ble_eq_true rfl) ?_
  refine r_astore_n C rfl rfl (Nat.le_of_ble_eq_true rfl) dX5_lasts_5 ?_
  refine r_aload_n C rfl rfl dX5_lasts_6 ?_
  refine r_ifnull C dX5_lasts_7 ?_
  refine r_iload_n C rfl dX5_lasts_10 ?_
  refine r_iconstv C 0 rfl dX5_lasts_11 ?_
  refine r_bipush C 40 rfl dX5_lasts_12 ?_
  refine r_callS C (sp_isOutside G rfl (show (0 : Int32).toInt = 0 from rfl) (show (40 : Int32).toInt = 40 from rfl)) ks_X5_isOutside kn_X5_isOutside rfl dX5_lasts_14 cl_X5_68 ⟨Nat.le_of_ble_eq_true rfl, Nat.le_of_ble_eq_true rfl⟩ (Nat.le_refl _) rfl (Nat.le_of_ble_eq_true rfl) ?_
  refine t_ifb_eq C 23 (by decide) dX5_lasts_17 (fun c17 => ?_) (fun c17 => ?_)
  · first
    | (exfalso; omega)
    |  (refine r_aload_n C rfl rfl dX5_lasts_23 ?_
        refine r_iload_n C rfl dX5_lasts_24 ?_
        refine r_callV C (sp_lastC G (tg_hid i) (oHs.lt (by exact hh) hi) _) kv_X1_daysAboveZero kn_X1_daysAboveZero rfl dX5_lasts_25 cl_X5_128 ⟨Nat.le_of_ble_eq_true rfl, Nat.le_of_ble_eq_true rfl⟩ (by decide) rfl (tg_hid i) (oHs.lt hh hi) (Nat.le_refl _) rfl (Nat.le_of_ble_eq_true rfl) ?_
        exact r_iret C dX5_lasts_28 rfl (Nat.le_refl _) rfl rfl)
  · first
    | (exfalso; omega)
    |  (refine r_ldc C _ lc_X5_72 dX5_lasts_20 ?_
        exact r_iret C dX5_lasts_22 rfl (Nat.le_refl _) rfl rfl)

set_option maxHeartbeats 4000000 in
set_option maxRecDepth 100000 in
theorem c_lastsX (G : oG) {h : oH} {n : Nat} (hh : oHs h n) (v : Int32) {i : Nat} (hi : i < n) (hv : v.toInt = (i : Int)) (x : Int32) (hx : ¬ (0 ≤ x.toInt ∧ x.toInt ≤ 40)) : oSp G mX5_lasts [.ref 0, .int v, .int x] h (some (.int (-1000001))) h := by
  refine oSp.intro [some (.ref 0), some (.int v), some (.int x), none] rfl (Nat.le_of_ble_eq_true rfl) (plainFor_of_name (by decide +kernel)) (Nat.le_refl _) ?_
  intro p l e R s m args below meth c C
  refine r_aload_n C rfl rfl dX5_lasts_0 ?_
  refine r_iload_n C rfl dX5_lasts_1 ?_
  refine r_callV C (sp_houseAt G (by exact hh) _ hi hv) kv_X5_houseAt kn_X5_houseAt rfl dX5_lasts_2 cl_X5_77 ⟨Nat.le_of_ble_eq_true rfl, Nat.le_of_ble_eq_true rfl⟩ (by decide) rfl rfl (q_lt hh.1 (by decide)) (Nat.le_refl _) rfl (Nat.le_of_ble_eq_true rfl) ?_
  refine r_astore_n C rfl rfl (Nat.le_of_ble_eq_true rfl) dX5_lasts_5 ?_
  refine r_aload_n C rfl rfl dX5_lasts_6 ?_
  refine r_ifnull C dX5_lasts_7 ?_
  refine r_iload_n C rfl dX5_lasts_10 ?_
  refine r_iconstv C 0 rfl dX5_lasts_11 ?_
  refine r_bipush C 40 rfl dX5_lasts_12 ?_
  refine r_callS C (sp_isOutside G rfl (show (0 : Int32).toInt = 0 from rfl) (show (40 : Int32).toInt = 40 from rfl)) ks_X5_isOutside kn_X5_isOutside rfl dX5_lasts_14 cl_X5_68 ⟨Nat.le_of_ble_eq_true rfl, Nat.le_of_ble_eq_true rfl⟩ (Nat.le_refl _) rfl (Nat.le_of_ble_eq_true rfl) ?_
  refine t_ifb_eq C 23 (by decide) dX5_lasts_17 (fun c17 => ?_) (fun c17 => ?_)
  · first
    | (exfalso; omega)
    |  (refine r_aload_n C rfl rfl dX5_lasts_23 ?_
        refine r_iload_n C rfl dX5_lasts_24 ?_
        refine r_callV C (sp_lastC G (tg_hid i) (oHs.lt (by exact hh) hi) _) kv_X1_daysAboveZero kn_X1_daysAboveZero rfl dX5_lasts_25 cl_X5_128 ⟨Nat.le_of_ble_eq_true rfl, Nat.le_of_ble_eq_true rfl⟩ (by decide) rfl (tg_hid i) (oHs.lt hh hi) (Nat.le_refl _) rfl (Nat.le_of_ble_eq_true rfl) ?_
        exact r_iret C dX5_lasts_28 rfl (Nat.le_refl _) rfl rfl)
  · first
    | (exfalso; omega)
    |  (refine r_ldc C _ lc_X5_72 dX5_lasts_20 ?_
        exact r_iret C dX5_lasts_22 rfl (Nat.le_refl _) rfl rfl)

set_option maxHeartbeats 4000000 in
set_option maxRecDepth 100000 in
theorem c_lastsN (G : oG) {h : oH} {n : Nat} (hh : oHs h n) (v : Int32) (hv : ¬ (0 ≤ v.toInt ∧ v.toInt < n)) (x : Int32) : oSp G mX5_lasts [.ref 0, .int v, .int x] h (some (.int (-1000001))) h := by
  refine oSp.intro [some (.ref 0), some (.int v), some (.int x), none] rfl (Nat.le_of_ble_eq_true rfl) (plainFor_of_name (by decide +kernel)) (Nat.le_refl _) ?_
  intro p l e R s m args below meth c C
  refine r_aload_n C rfl rfl dX5_lasts_0 ?_
  refine r_iload_n C rfl dX5_lasts_1 ?_
  refine r_callV C (sp_houseAtN G (by exact hh) _ hv) kv_X5_houseAt kn_X5_houseAt rfl dX5_lasts_2 cl_X5_77 ⟨Nat.le_of_ble_eq_true rfl, Nat.le_of_ble_eq_true rfl⟩ (by decide) rfl rfl (q_lt hh.1 (by decide)) (Nat.le_refl _) rfl (Nat.le_of_ble_eq_true rfl) ?_
  refine r_astore_n C rfl rfl (Nat.le_of_ble_eq_true rfl) dX5_lasts_5 ?_
  refine r_aload_n C rfl rfl dX5_lasts_6 ?_
  refine r_ifnullN C 20 (by decide) dX5_lasts_7 ?_
  refine r_ldc C _ lc_X5_72 dX5_lasts_20 ?_
  exact r_iret C dX5_lasts_22 rfl (Nat.le_refl _) rfl rfl

set_option maxHeartbeats 4000000 in
set_option maxRecDepth 100000 in
theorem m_lasts (G : oG) {h : oH} (hs : oSh h) {n : Nat} (hn : (hI h 12 1).toInt = (n : Int)) (hn24 : n ≤ 24) (v : Int32) {i : Nat} (hi : i < n) (hv : v.toInt = (i : Int)) (x : Int32) {D Hh : Int} (hD : (hI h 18 i).toInt = D) (hH : (hI h 16 (4 * i + 2) + hI h 16 (4 * i + 3) * x).toInt = Hh) (h0 : 0 ≤ D ∧ D ≤ 5000) (h1 : 0 ≤ Hh ∧ Hh ≤ 2050) (r : Int32) (hr : r.toInt = lastN D Hh) (hx : 0 ≤ x.toInt ∧ x.toInt ≤ 40) : oSp G mX6_lasts [.ref 12, .int v, .int x] h (some (.int r)) (sI h 12 0 0) := by
  refine oSp.intro [some (.ref 12), some (.int v), some (.int x), none, none] rfl (Nat.le_of_ble_eq_true rfl) (plainFor_of_name (by decide +kernel)) (Nat.le_refl _) ?_
  intro p l e R s m args below meth c C
  refine r_aload_n C rfl rfl dX6_lasts_0 ?_
  refine r_iconstv C 0 rfl dX6_lasts_1 ?_
  refine r_putI C dX6_lasts_2 fl_X6_90 rfl (q_lt hs (by decide)) (Or.inl rfl) ?_
  refine r_aload_n C rfl rfl dX6_lasts_5 ?_
  refine r_iload_n C rfl dX6_lasts_6 ?_
  refine r_callV C (sp_isHouse G (by exact hs) (by exact hn) hn24 _) kv_X6_isHouse kn_X6_isHouse rfl dX6_lasts_7 cl_X6_108 ⟨Nat.le_of_ble_eq_true rfl, Nat.le_of_ble_eq_true rfl⟩ (by decide) rfl rfl (q_lt hs (by decide)) (Nat.le_refl _) rfl (Nat.le_of_ble_eq_true rfl) ?_
  refine t_ifb_eq C 25 (by decide) dX6_lasts_10 (fun c10 => ?_) (fun c10 => ?_)
  · first
    | (exfalso; omega)
    |  (refine r_ldc C _ lc_X6_106 dX6_lasts_25 ?_
        exact r_iret C dX6_lasts_27 rfl (Nat.le_refl _) rfl rfl)
  · first
    | (exfalso; omega)
    |  (refine r_iload_n C rfl dX6_lasts_13 ?_
        refine r_i2l C dX6_lasts_14 ?_
        refine r_lconst C 0 rfl dX6_lasts_15 ?_
        refine r_ldc2 C _ ll_X6_113 dX6_lasts_16 ?_
        refine r_callS C (sp_in G (tI2L rfl) (show (0 : Int64).toInt = 0 from rfl) (show (40 : Int64).toInt = 40 from rfl)) ks_X6_in kn_X6_in rfl dX6_lasts_19 cl_X6_96 ⟨Nat.le_of_ble_eq_true rfl, Nat.le_of_ble_eq_true rfl⟩ (Nat.le_refl _) rfl (Nat.le_of_ble_eq_true rfl) ?_
        refine t_ifb_ne C 28 (by decide) dX6_lasts_22 (fun c22 => ?_) (fun c22 => ?_)
        · first
          | (exfalso; omega)
          |  (refine r_aload_n C rfl rfl dX6_lasts_28 ?_
              refine r_getO C dX6_lasts_29 fl_X6_25 rfl rfl (q_lt hs (by decide)) (sh_12_7 hs) ?_
              refine r_iload_n C rfl dX6_lasts_32 ?_
              refine r_iald C (i) (by have t := hv; omega) (by omega) dX6_lasts_33 rfl (q_lt hs (by decide)) ?_
              refine r_aload_n C rfl rfl dX6_lasts_34 ?_
              refine r_iload_n C rfl dX6_lasts_35 ?_
              refine r_iload_n C rfl dX6_lasts_36 ?_
              refine r_callV C (sp_highOf G (by exact hs) _ hv (by omega) _) kv_X6_highOf kn_X6_highOf rfl dX6_lasts_37 cl_X6_122 ⟨Nat.le_of_ble_eq_true rfl, Nat.le_of_ble_eq_true rfl⟩ (by decide) rfl rfl (q_lt hs (by decide)) (Nat.le_refl _) rfl (Nat.le_of_ble_eq_true rfl) ?_
              refine r_isub C dX6_lasts_40 ?_
              refine r_istore_n C rfl (Nat.le_of_ble_eq_true rfl) dX6_lasts_41 ?_
              refine r_iconstv C 0 rfl dX6_lasts_42 ?_
              refine r_istore C rfl (Nat.le_of_ble_eq_true rfl) dX6_lasts_43 ?_
              exact lp_lasts G (h := sI h 12 0 0) (by exact hs) v hv (by omega) x (by exact hD) (by exact hH) h0 h1 r hr C (Nat.le_refl _) 501 0 _ _ rfl (by have t := tS hD hH (by omega); have t2 : ((0 : Nat) : Int) + 1 = 1 := rfl; rw [t2, Int.one_mul]; exact t) rfl (by unfold lastN; (repeat' split) <;> first | omega | (have q := Int.ediv_nonneg (show 0 ≤ D - 1 by omega) h1.1; omega)))
        · first
          | (exfalso; omega)
          |  (refine r_ldc C _ lc_X6_106 dX6_lasts_25 ?_
              exact r_iret C dX6_lasts_27 rfl (Nat.le_refl _) rfl rfl))

set_option maxHeartbeats 4000000 in
set_option maxRecDepth 100000 in
theorem m_lastsX (G : oG) {h : oH} (hs : oSh h) {n : Nat} (hn : (hI h 12 1).toInt = (n : Int)) (hn24 : n ≤ 24) (v : Int32) {i : Nat} (hi : i < n) (hv : v.toInt = (i : Int)) (x : Int32) (hx : ¬ (0 ≤ x.toInt ∧ x.toInt ≤ 40)) : oSp G mX6_lasts [.ref 12, .int v, .int x] h (some (.int (-1000001))) (sI h 12 0 0) := by
  refine oSp.intro [some (.ref 12), some (.int v), some (.int x), none, none] rfl (Nat.le_of_ble_eq_true rfl) (plainFor_of_name (by decide +kernel)) (Nat.le_refl _) ?_
  intro p l e R s m args below meth c C
  refine r_aload_n C rfl rfl dX6_lasts_0 ?_
  refine r_iconstv C 0 rfl dX6_lasts_1 ?_
  refine r_putI C dX6_lasts_2 fl_X6_90 rfl (q_lt hs (by decide)) (Or.inl rfl) ?_
  refine r_aload_n C rfl rfl dX6_lasts_5 ?_
  refine r_iload_n C rfl dX6_lasts_6 ?_
  refine r_callV C (sp_isHouse G (by exact hs) (by exact hn) hn24 _) kv_X6_isHouse kn_X6_isHouse rfl dX6_lasts_7 cl_X6_108 ⟨Nat.le_of_ble_eq_true rfl, Nat.le_of_ble_eq_true rfl⟩ (by decide) rfl rfl (q_lt hs (by decide)) (Nat.le_refl _) rfl (Nat.le_of_ble_eq_true rfl) ?_
  refine t_ifb_eq C 25 (by decide) dX6_lasts_10 (fun c10 => ?_) (fun c10 => ?_)
  · first
    | (exfalso; omega)
    |  (refine r_ldc C _ lc_X6_106 dX6_lasts_25 ?_
        exact r_iret C dX6_lasts_27 rfl (Nat.le_refl _) rfl rfl)
  · first
    | (exfalso; omega)
    |  (refine r_iload_n C rfl dX6_lasts_13 ?_
        refine r_i2l C dX6_lasts_14 ?_
        refine r_lconst C 0 rfl dX6_lasts_15 ?_
        refine r_ldc2 C _ ll_X6_113 dX6_lasts_16 ?_
        refine r_callS C (sp_in G (tI2L rfl) (show (0 : Int64).toInt = 0 from rfl) (show (40 : Int64).toInt = 40 from rfl)) ks_X6_in kn_X6_in rfl dX6_lasts_19 cl_X6_96 ⟨Nat.le_of_ble_eq_true rfl, Nat.le_of_ble_eq_true rfl⟩ (Nat.le_refl _) rfl (Nat.le_of_ble_eq_true rfl) ?_
        refine t_ifb_ne C 28 (by decide) dX6_lasts_22 (fun c22 => ?_) (fun c22 => ?_)
        · first
          | (exfalso; omega)
          |  (refine r_aload_n C rfl rfl dX6_lasts_28 ?_
              refine r_getO C dX6_lasts_29 fl_X6_25 rfl rfl (q_lt hs (by decide)) (sh_12_7 hs) ?_
              refine r_iload_n C rfl dX6_lasts_32 ?_
              refine r_iald C (i) (by have t := hv; omega) (by omega) dX6_lasts_33 rfl (q_lt hs (by decide)) ?_
              refine r_aload_n C rfl rfl dX6_lasts_34 ?_
              refine r_iload_n C rfl dX6_lasts_35 ?_
              refine r_iload_n C rfl dX6_lasts_36 ?_
              refine r_callV C (sp_highOf G (by exact hs) _ hv (by omega) _) kv_X6_highOf kn_X6_highOf rfl dX6_lasts_37 cl_X6_122 ⟨Nat.le_of_ble_eq_true rfl, Nat.le_of_ble_eq_true rfl⟩ (by decide) rfl rfl (q_lt hs (by decide)) (Nat.le_refl _) rfl (Nat.le_of_ble_eq_true rfl) ?_
              refine r_isub C dX6_lasts_40 ?_
              refine r_istore_n C rfl (Nat.le_of_ble_eq_true rfl) dX6_lasts_41 ?_
              refine r_iconstv C 0 rfl dX6_lasts_42 ?_
              refine r_istore C rfl (Nat.le_of_ble_eq_true rfl) dX6_lasts_43 ?_
              (exfalso; omega))
        · first
          | (exfalso; omega)
          |  (refine r_ldc C _ lc_X6_106 dX6_lasts_25 ?_
              exact r_iret C dX6_lasts_27 rfl (Nat.le_refl _) rfl rfl))

set_option maxHeartbeats 4000000 in
set_option maxRecDepth 100000 in
theorem m_lastsN (G : oG) {h : oH} (hs : oSh h) {n : Nat} (hn : (hI h 12 1).toInt = (n : Int)) (hn24 : n ≤ 24) (v : Int32) (hv : ¬ (0 ≤ v.toInt ∧ v.toInt < n)) (x : Int32) : oSp G mX6_lasts [.ref 12, .int v, .int x] h (some (.int (-1000001))) (sI h 12 0 0) := by
  refine oSp.intro [some (.ref 12), some (.int v), some (.int x), none, none] rfl (Nat.le_of_ble_eq_true rfl) (plainFor_of_name (by decide +kernel)) (Nat.le_refl _) ?_
  intro p l e R s m args below meth c C
  refine r_aload_n C rfl rfl dX6_lasts_0 ?_
  refine r_iconstv C 0 rfl dX6_lasts_1 ?_
  refine r_putI C dX6_lasts_2 fl_X6_90 rfl (q_lt hs (by decide)) (Or.inl rfl) ?_
  refine r_aload_n C rfl rfl dX6_lasts_5 ?_
  refine r_iload_n C rfl dX6_lasts_6 ?_
  refine r_callV C (sp_isHouse G (by exact hs) (by exact hn) hn24 _) kv_X6_isHouse kn_X6_isHouse rfl dX6_lasts_7 cl_X6_108 ⟨Nat.le_of_ble_eq_true rfl, Nat.le_of_ble_eq_true rfl⟩ (by decide) rfl rfl (q_lt hs (by decide)) (Nat.le_refl _) rfl (Nat.le_of_ble_eq_true rfl) ?_
  refine t_ifb_eq C 25 (by decide) dX6_lasts_10 (fun c10 => ?_) (fun c10 => ?_)
  · first
    | (exfalso; omega)
    |  (refine r_ldc C _ lc_X6_106 dX6_lasts_25 ?_
        exact r_iret C dX6_lasts_27 rfl (Nat.le_refl _) rfl rfl)
  · first
    | (exfalso; omega)
    |  (refine r_iload_n C rfl dX6_lasts_13 ?_
        refine r_i2l C dX6_lasts_14 ?_
        refine r_lconst C 0 rfl dX6_lasts_15 ?_
        refine r_ldc2 C _ ll_X6_113 dX6_lasts_16 ?_
        refine r_callS C (sp_in G (tI2L rfl) (show (0 : Int64).toInt = 0 from rfl) (show (40 : Int64).toInt = 40 from rfl)) ks_X6_in kn_X6_in rfl dX6_lasts_19 cl_X6_96 ⟨Nat.le_of_ble_eq_true rfl, Nat.le_of_ble_eq_true rfl⟩ (Nat.le_refl _) rfl (Nat.le_of_ble_eq_true rfl) ?_
        refine t_ifb_ne C 28 (by decide) dX6_lasts_22 (fun c22 => ?_) (fun c22 => ?_)
        · first
          | (exfalso; omega)
          |  (refine r_aload_n C rfl rfl dX6_lasts_28 ?_
              refine r_getO C dX6_lasts_29 fl_X6_25 rfl rfl (q_lt hs (by decide)) (sh_12_7 hs) ?_
              refine r_iload_n C rfl dX6_lasts_32 ?_
              refine r_iald C (v.toInt) rfl (by omega) dX6_lasts_33 rfl (q_lt hs (by decide)) ?_
              refine r_aload_n C rfl rfl dX6_lasts_34 ?_
              refine r_iload_n C rfl dX6_lasts_35 ?_
              refine r_iload_n C rfl dX6_lasts_36 ?_
              refine r_callV C (sp_highOf G (by exact hs) _ (i := 0) (by omega) (by omega) _) kv_X6_highOf kn_X6_highOf rfl dX6_lasts_37 cl_X6_122 ⟨Nat.le_of_ble_eq_true rfl, Nat.le_of_ble_eq_true rfl⟩ (by decide) rfl rfl (q_lt hs (by decide)) (Nat.le_refl _) rfl (Nat.le_of_ble_eq_true rfl) ?_
              refine r_isub C dX6_lasts_40 ?_
              refine r_istore_n C rfl (Nat.le_of_ble_eq_true rfl) dX6_lasts_41 ?_
              refine r_iconstv C 0 rfl dX6_lasts_42 ?_
              refine r_istore C rfl (Nat.le_of_ble_eq_true rfl) dX6_lasts_43 ?_
              (exfalso; omega))
        · first
          | (exfalso; omega)
          |  (refine r_ldc C _ lc_X6_106 dX6_lasts_25 ?_
              exact r_iret C dX6_lasts_27 rfl (Nat.le_refl _) rfl rfl))

set_option maxHeartbeats 4000000 in
set_option maxRecDepth 100000 in
theorem case_lasts (G : oG) {h : oH} {n T : Nat} (I : Inv h n T) (v x : Int32) : Case G mX5_lasts mX6_lasts [.int v, .int x] h n T := by
  obtain ⟨⟨a1, a2, a3⟩, ⟨b1, b2, b3⟩, ⟨c1, c2, c3⟩, ⟨d1, d2, d3⟩, ⟨e1, e2, e3⟩, ⟨f1, f2, f3⟩, g1, g2, g3⟩ := id I.2.2.1
  have hs := I.1.1
  have hh := I.1
  by_cases hval : 0 ≤ v.toInt ∧ v.toInt < n
  · obtain ⟨i, hi, hv⟩ : ∃ i : Nat, i < n ∧ v.toInt = (i : Int) := ⟨v.toInt.toNat, by omega, by omega⟩
    have hn := I.2.1.2
    have h24 := hh.2.2.1
    obtain ⟨Ie, Ib⟩ := I.2.2.2.1 i hi
    by_cases hx : 0 ≤ x.toInt ∧ x.toInt ≤ 40
    · obtain ⟨-, -, -, -, -, q6, q7, -, q9, -⟩ := id Ie
      obtain ⟨-, -, w2, w3, w4, -, w6, -⟩ := id Ib
      have p1 := Int.mul_le_mul w4.2.2 hx.2 hx.1 (by omega)
      have p0 := Int.mul_nonneg (show 0 ≤ (hI h 16 (4 * i + 3)).toInt by omega) hx.1
      have hH : (hI h 16 (4 * i + 2) + hI h 16 (4 * i + 3) * x).toInt = (hI h 16 (4 * i + 2)).toInt + (hI h 16 (4 * i + 3)).toInt * x.toInt := tA rfl (tM rfl rfl (by omega)) (by omega)
      have hc := last_c (h := h) (a := hid i) (x := x) (D := (hI h 18 i).toInt) (H := (hI h 16 (4 * i + 2)).toInt + (hI h 16 (4 * i + 3)).toInt * x.toInt) (by rw [q9]) (by rw [q6, q7]; exact hH) (by omega)
      exact case_bad G I (c_lasts G hh v hi hv x hx) (m_lasts G hs hn h24 v hi hv x rfl hH (by omega) (by omega) _ hc hx)
    · exact case_bad G I (c_lastsX G hh v hi hv x hx) (m_lastsX G hs hn h24 v hi hv x hx)
  · exact case_bad G I (c_lastsN G hh v hval x) (m_lastsN G hs I.2.1.2 hh.2.2.1 v hval x)

