/-! a new house -/
def plH (h : oH) (a : Nat) : oH := sI (sI (sI h a 0 0) a 1 0) a 2 0
set_option maxHeartbeats 4000000 in
set_option maxRecDepth 100000 in
theorem sp_planInit (G : oG) {h : oH} {a : Nat} (ta : tg a = (0, 2)) (la : a < h.1) : oSp G mX2_init [.ref a] h none (plH h a) := by
  refine oSp.intro [some (.ref a)] rfl (Nat.le_of_ble_eq_true rfl) (plainFor_of_name (by decide +kernel)) (Nat.le_refl _) ?_
  intro p l e R s m args below meth c C
  refine r_aload_n C rfl rfl dX2_init_0 ?_
  refine r_objInit C dX2_init_1 cl_X2_3 oi_in oi_co (Nat.le_of_ble_eq_true rfl) (Nat.le_of_ble_eq_true rfl) ?_
  refine r_aload_n C rfl rfl dX2_init_4 ?_
  refine r_iconstv C 0 rfl dX2_init_5 ?_
  refine r_putI C dX2_init_6 fl_X2_9 ta la (Or.inl rfl) ?_
  refine r_aload_n C rfl rfl dX2_init_9 ?_
  refine r_iconstv C 0 rfl dX2_init_10 ?_
  refine r_putI C dX2_init_11 fl_X2_15 ta la (Or.inl rfl) ?_
  refine r_aload_n C rfl rfl dX2_init_14 ?_
  refine r_iconstv C 0 rfl dX2_init_15 ?_
  refine r_putI C dX2_init_16 fl_X2_18 ta la (Or.inl rfl) ?_
  exact r_vret C dX2_init_19 rfl (Nat.le_refl _) rfl

def hoH (h : oH) (a : Nat) (x y z : Int32) : oH := (sI (sI (sI (sI (sI (sI (sI (sI (sI (sI (sI (sI (sI (sI (sR (plH (hAl h) h.1) a 3 (some h.1)) a 4 0) a 5 0) a 6 50) a 7 50) a 10 0) a 11 0) a 12 0) a 13 0) a 14 0) a 0 x) a 1 y) a 2 z) a 8 z) a 9 z)
set_option maxHeartbeats 4000000 in
set_option maxRecDepth 100000 in
theorem sp_houseInit (G : oG) {h : oH} {a : Nat} (ta : tg a = (0, 1)) (la : a < h.1) (tb : tg h.1 = (0, 2)) (x y z : Int32) : oSp G mX1_init [.ref a, .int x, .int y, .int z] h none (hoH h a x y z) := by
  refine oSp.intro [some (.ref a), some (.int x), some (.int y), some (.int z)] rfl (Nat.le_of_ble_eq_true rfl) (plainFor_of_name (by decide +kernel)) (Nat.le_succ _) ?_
  intro p l e R s m args below meth c C
  refine r_aload_n C rfl rfl dX1_init_0 ?_
  refine r_objInit C dX1_init_1 cl_X1_3 oi_in oi_co (Nat.le_of_ble_eq_true rfl) (Nat.le_of_ble_eq_true rfl) ?_
  refine r_aload_n C rfl rfl dX1_init_4 ?_
  refine r_new C (ci := 2) dX1_init_5 (by decide) tb ck_X1_9 in_X2 iz_X2 (Nat.le_refl _) ?_
  refine r_dup C rfl dX1_init_8 ?_
  refine r_callIN C (sp_planInit G tb (Nat.lt_succ_self h.1)) ki_X2_init rfl rfl kn_X2_init rfl dX1_init_9 nl_X1_11 ⟨Nat.le_of_ble_eq_true rfl, Nat.le_of_ble_eq_true rfl⟩ (Nat.le_refl _) rfl (Nat.le_of_ble_eq_true rfl) ?_
  refine r_putR C (some h.1) rfl dX1_init_12 fl_X1_12 rfl ta (by first | exact la | exact Nat.lt_succ_of_lt la) (Or.inr ⟨rfl, rfl, rfl⟩) ?_
  refine r_aload_n C rfl rfl dX1_init_15 ?_
  refine r_iconstv C 0 rfl dX1_init_16 ?_
  refine r_putI C dX1_init_17 fl_X1_18 ta (by first | exact la | exact Nat.lt_succ_of_lt la) (Or.inl rfl) ?_
  refine r_aload_n C rfl rfl dX1_init_20 ?_
  refine r_iconstv C 0 rfl dX1_init_21 ?_
  refine r_putI C dX1_init_22 fl_X1_22 ta (by first | exact la | exact Nat.lt_succ_of_lt la) (Or.inl rfl) ?_
  refine r_aload_n C rfl rfl dX1_init_25 ?_
  refine r_bipush C 50 rfl dX1_init_26 ?_
  refine r_putI C dX1_init_28 fl_X1_25 ta (by first | exact la | exact Nat.lt_succ_of_lt la) (Or.inl rfl) ?_
  refine r_aload_n C rfl rfl dX1_init_31 ?_
  refine r_bipush C 50 rfl dX1_init_32 ?_
  refine r_putI C dX1_init_34 fl_X1_28 ta (by first | exact la | exact Nat.lt_succ_of_lt la) (Or.inl rfl) ?_
  refine r_aload_n C rfl rfl dX1_init_37 ?_
  refine r_iconstv C 0 rfl dX1_init_38 ?_
  refine r_putI C dX1_init_39 fl_X1_31 ta (by first | exact la | exact Nat.lt_succ_of_lt la) (Or.inl rfl) ?_
  refine r_aload_n C rfl rfl dX1_init_42 ?_
  refine r_iconstv C 0 rfl dX1_init_43 ?_
  refine r_putI C dX1_init_44 fl_X1_34 ta (by first | exact la | exact Nat.lt_succ_of_lt la) (Or.inl rfl) ?_
  refine r_aload_n C rfl rfl dX1_init_47 ?_
  refine r_iconstv C 0 rfl dX1_init_48 ?_
  refine r_putZ C dX1_init_49 fl_X1_37 ta (by first | exact la | exact Nat.lt_succ_of_lt la) (Or.inl rfl) ⟨rfl, rfl⟩ ?_
  refine r_aload_n C rfl rfl dX1_init_52 ?_
  refine r_iconstv C 0 rfl dX1_init_53 ?_
  refine r_putI C dX1_init_54 fl_X1_41 ta (by first | exact la | exact Nat.lt_succ_of_lt la) (Or.inl rfl) ?_
  refine r_aload_n C rfl rfl dX1_init_57 ?_
  refine r_iconstv C 0 rfl dX1_init_58 ?_
  refine r_putI C dX1_init_59 fl_X1_44 ta (by first | exact la | exact Nat.lt_succ_of_lt la) (Or.inl rfl) ?_
  refine r_aload_n C rfl rfl dX1_init_62 ?_
  refine r_iload_n C rfl dX1_init_63 ?_
  refine r_putI C dX1_init_64 fl_X1_47 ta (by first | exact la | exact Nat.lt_succ_of_lt la) (Or.inr ⟨rfl, rfl, rfl⟩) ?_
  refine r_aload_n C rfl rfl dX1_init_67 ?_
  refine r_iload_n C rfl dX1_init_68 ?_
  refine r_putI C dX1_init_69 fl_X1_50 ta (by first | exact la | exact Nat.lt_succ_of_lt la) (Or.inr ⟨rfl, rfl, rfl⟩) ?_
  refine r_aload_n C rfl rfl dX1_init_72 ?_
  refine r_iload_n C rfl dX1_init_73 ?_
  refine r_putI C dX1_init_74 fl_X1_53 ta (by first | exact la | exact Nat.lt_succ_of_lt la) (Or.inr ⟨rfl, rfl, rfl⟩) ?_
  refine r_aload_n C rfl rfl dX1_init_77 ?_
  refine r_iload_n C rfl dX1_init_78 ?_
  refine r_putI C dX1_init_79 fl_X1_56 ta (by first | exact la | exact Nat.lt_succ_of_lt la) (Or.inl rfl) ?_
  refine r_aload_n C rfl rfl dX1_init_82 ?_
  refine r_iload_n C rfl dX1_init_83 ?_
  refine r_putI C dX1_init_84 fl_X1_59 ta (by first | exact la | exact Nat.lt_succ_of_lt la) (Or.inl rfl) ?_
  exact r_vret C dX1_init_87 rfl (Nat.le_refl _) rfl

def ho2 (h : oH) (n : Nat) (x y z : Int32) : oH := sR (hoH (hAl h) h.1 x y z) 1 n (some h.1)
def ho3 (h : oH) (n : Nat) (x y z : Int32) : oH := sI (ho2 h n x y z) 0 4 (hI (ho2 h n x y z) 0 4 + 1)
set_option maxHeartbeats 4000000 in
set_option maxRecDepth 100000 in
theorem c_house (G : oG) {h : oH} {n : Nat} (hh : oHs h n) (hc : (hI h 0 4).toInt = (n : Int)) (x y z : Int32) (hn : n < 24) (hx : (0 ≤ x.toInt ∧ x.toInt ≤ 50)) (hy : (0 ≤ y.toInt ∧ y.toInt ≤ 50)) (hz : (100 ≤ z.toInt ∧ z.toInt ≤ 5000)) : oSp G mX5_house [.ref 0, .int x, .int y, .int z] h (some (.int (hI h 0 4))) (ho3 h n x y z) := by
  refine oSp.intro [some (.ref 0), some (.int x), some (.int y), some (.int z), none] rfl (Nat.le_of_ble_eq_true rfl) (plainFor_of_name (by decide +kernel)) (Nat.le_succ_of_le (Nat.le_succ _)) ?_
  intro p l e R s m args below meth c C
  refine r_iload_n C rfl dX5_house_0 ?_
  refine r_iconstv C 0 rfl dX5_house_1 ?_
  refine r_bipush C 50 rfl dX5_house_2 ?_
  refine r_callS C (sp_isOutside G rfl (show (0 : Int32).toInt = 0 from rfl) (show (50 : Int32).toInt = 50 from rfl)) ks_X5_isOutside kn_X5_isOutside rfl dX5_house_4 cl_X5_68 ⟨Nat.le_of_ble_eq_true rfl, Nat.le_of_ble_eq_true rfl⟩ (Nat.le_succ_of_le (Nat.le_succ _)) rfl (Nat.le_of_ble_eq_true rfl) ?_
  refine t_ifb_ne C 20 (by decide) dX5_house_7 (fun c7 => ?_) (fun c7 => ?_)
  · first
    | (exfalso; omega)
    |  (refine r_ldc C _ lc_X5_72 dX5_house_20 ?_
        exact r_iret C dX5_house_22 rfl (Nat.le_refl _) rfl rfl)
  · first
    | (exfalso; omega)
    |  (refine r_iload_n C rfl dX5_house_10 ?_
        refine r_iconstv C 0 rfl dX5_house_11 ?_
        refine r_bipush C 50 rfl dX5_house_12 ?_
        refine r_callS C (sp_isOutside G rfl (show (0 : Int32).toInt = 0 from rfl) (show (50 : Int32).toInt = 50 from rfl)) ks_X5_isOutside kn_X5_isOutside rfl dX5_house_14 cl_X5_68 ⟨Nat.le_of_ble_eq_true rfl, Nat.le_of_ble_eq_true rfl⟩ (Nat.le_succ_of_le (Nat.le_succ _)) rfl (Nat.le_of_ble_eq_true rfl) ?_
        refine t_ifb_eq C 23 (by decide) dX5_house_17 (fun c17 => ?_) (fun c17 => ?_)
        · first
          | (exfalso; omega)
          |  (refine r_iload_n C rfl dX5_house_23 ?_
              refine r_bipush C 100 rfl dX5_house_24 ?_
              refine r_sipush C 5000 rfl dX5_house_26 ?_
              refine r_callS C (sp_isOutside G rfl (show (100 : Int32).toInt = 100 from rfl) (show (5000 : Int32).toInt = 5000 from rfl)) ks_X5_isOutside kn_X5_isOutside rfl dX5_house_29 cl_X5_68 ⟨Nat.le_of_ble_eq_true rfl, Nat.le_of_ble_eq_true rfl⟩ (Nat.le_succ_of_le (Nat.le_succ _)) rfl (Nat.le_of_ble_eq_true rfl) ?_
              refine t_ifb_eq C 38 (by decide) dX5_house_32 (fun c32 => ?_) (fun c32 => ?_)
              · first
                | (exfalso; omega)
                |  (refine r_aload_n C rfl rfl dX5_house_38 ?_
                    refine r_getI C dX5_house_39 fl_X5_36 rfl (by first | exact (q_lt hh.1 (by decide)) | exact Nat.lt_succ_of_lt (Nat.lt_succ_of_lt (q_lt hh.1 (by decide)))) ?_
                    refine t_if_lt C 57 (by decide) hc dX5_house_42 (fun c42 => ?_) (fun c42 => ?_)
                    · first
                      | (exfalso; omega)
                      |  (refine r_ldc C _ lc_X5_73 dX5_house_57 ?_
                          exact r_iret C dX5_house_59 rfl (Nat.le_refl _) rfl rfl)
                    · first
                      | (exfalso; omega)
                      |  (refine r_aload_n C rfl rfl dX5_house_45 ?_
                          refine r_getI C dX5_house_46 fl_X5_36 rfl (by first | exact (q_lt hh.1 (by decide)) | exact Nat.lt_succ_of_lt (Nat.lt_succ_of_lt (q_lt hh.1 (by decide)))) ?_
                          refine r_aload_n C rfl rfl dX5_house_49 ?_
                          refine r_getO C dX5_house_50 fl_X5_11 rfl rfl (by first | exact (q_lt hh.1 (by decide)) | exact Nat.lt_succ_of_lt (Nat.lt_succ_of_lt (q_lt hh.1 (by decide)))) (sh_0_0 hh.1) ?_
                          refine r_alen C 24 dX5_house_53 rfl (by decide) (by first | exact (q_lt hh.1 (by decide)) | exact Nat.lt_succ_of_lt (Nat.lt_succ_of_lt (q_lt hh.1 (by decide)))) rfl ?_
                          refine t_icmp_lt C 60 (by decide) hc (show (24 : Int32).toInt = 24 from rfl) dX5_house_54 (fun c54 => ?_) (fun c54 => ?_)
                          · first
                            | (exfalso; omega)
                            |  (refine r_aload_n C rfl rfl dX5_house_60 ?_
                                refine r_getI C dX5_house_61 fl_X5_36 rfl (by first | exact (q_lt hh.1 (by decide)) | exact Nat.lt_succ_of_lt (Nat.lt_succ_of_lt (q_lt hh.1 (by decide)))) ?_
                                refine r_istore C rfl (Nat.le_of_ble_eq_true rfl) dX5_house_64 ?_
                                refine r_aload_n C rfl rfl dX5_house_66 ?_
                                refine r_getO C dX5_house_67 fl_X5_11 rfl rfl (by first | exact (q_lt hh.1 (by decide)) | exact Nat.lt_succ_of_lt (Nat.lt_succ_of_lt (q_lt hh.1 (by decide)))) (sh_0_0 hh.1) ?_
                                refine r_iload C rfl dX5_house_70 ?_
                                refine r_new C (ci := 1) dX5_house_72 (by decide) (by rw [hh.2.1]; exact tg_house n) ck_X5_9 in_X1 iz_X1 (Nat.le_succ _) ?_
                                refine r_dup C rfl dX5_house_75 ?_
                                refine r_iload_n C rfl dX5_house_76 ?_
                                refine r_iload_n C rfl dX5_house_77 ?_
                                refine r_iload_n C rfl dX5_house_78 ?_
                                refine r_callI C (sp_houseInit G (h := hAl h) (by rw [hh.2.1]; exact tg_house n) (Nat.lt_succ_self h.1) (by show tg (h.1 + 1) = _; rw [hh.2.1, show 35 + 2 * n + 1 = 36 + 2 * n by omega]; exact tg_plan n) x y z) ki_X1_init rfl rfl kn_X1_init rfl dX5_house_79 cl_X5_74 ⟨Nat.le_of_ble_eq_true rfl, Nat.le_of_ble_eq_true rfl⟩ (Nat.le_refl _) rfl (Nat.le_of_ble_eq_true rfl) ?_
                                refine r_aast C (n) (by have t := hc; omega) (by omega) dX5_house_82 rfl (by first | exact (q_lt hh.1 (by decide)) | exact Nat.lt_succ_of_lt (Nat.lt_succ_of_lt (q_lt hh.1 (by decide)))) (by rw [hh.2.1]; exact tg_house n) (by first | exact Nat.lt_succ_self h.1 | exact Nat.lt_succ_of_lt (Nat.lt_succ_self h.1)) ?_
                                refine r_aload_n C rfl rfl dX5_house_83 ?_
                                refine r_dup C rfl dX5_house_84 ?_
                                refine r_getI C dX5_house_85 fl_X5_36 rfl (by first | exact (q_lt hh.1 (by decide)) | exact Nat.lt_succ_of_lt (Nat.lt_succ_of_lt (q_lt hh.1 (by decide)))) ?_
                                refine r_iconstv C 1 rfl dX5_house_88 ?_
                                refine r_iadd C dX5_house_89 ?_
                                refine r_putI C dX5_house_90 fl_X5_36 rfl (by first | exact (q_lt hh.1 (by decide)) | exact Nat.lt_succ_of_lt (Nat.lt_succ_of_lt (q_lt hh.1 (by decide)))) (Or.inl rfl) ?_
                                refine r_iload C rfl dX5_house_93 ?_
                                exact r_iret C dX5_house_95 rfl (Nat.le_refl _) rfl rfl)
                          · first
                            | (exfalso; omega)
                            |  (refine r_ldc C _ lc_X5_73 dX5_house_57 ?_
                                exact r_iret C dX5_house_59 rfl (Nat.le_refl _) rfl rfl)))
              · first
                | (exfalso; omega)
                |  (refine r_ldc C _ lc_X5_72 dX5_house_35 ?_
                    exact r_iret C dX5_house_37 rfl (Nat.le_refl _) rfl rfl))
        · first
          | (exfalso; omega)
          |  (refine r_ldc C _ lc_X5_72 dX5_house_20 ?_
              exact r_iret C dX5_house_22 rfl (Nat.le_refl _) rfl rfl))

set_option maxHeartbeats 4000000 in
set_option maxRecDepth 100000 in
theorem c_houseF (G : oG) {h : oH} {n : Nat} (hh : oHs h n) (hc : (hI h 0 4).toInt = (n : Int)) (x y z : Int32) (hn : n = 24) (hx : (0 ≤ x.toInt ∧ x.toInt ≤ 50)) (hy : (0 ≤ y.toInt ∧ y.toInt ≤ 50)) (hz : (100 ≤ z.toInt ∧ z.toInt ≤ 5000)) : oSp G mX5_house [.ref 0, .int x, .int y, .int z] h (some (.int (-1000003))) h := by
  refine oSp.intro [some (.ref 0), some (.int x), some (.int y), some (.int z), none] rfl (Nat.le_of_ble_eq_true rfl) (plainFor_of_name (by decide +kernel)) (Nat.le_refl _) ?_
  intro p l e R s m args below meth c C
  refine r_iload_n C rfl dX5_house_0 ?_
  refine r_iconstv C 0 rfl dX5_house_1 ?_
  refine r_bipush C 50 rfl dX5_house_2 ?_
  refine r_callS C (sp_isOutside G rfl (show (0 : Int32).toInt = 0 from rfl) (show (50 : Int32).toInt = 50 from rfl)) ks_X5_isOutside kn_X5_isOutside rfl dX5_house_4 cl_X5_68 ⟨Nat.le_of_ble_eq_true rfl, Nat.le_of_ble_eq_true rfl⟩ (Nat.le_refl _) rfl (Nat.le_of_ble_eq_true rfl) ?_
  refine t_ifb_ne C 20 (by decide) dX5_house_7 (fun c7 => ?_) (fun c7 => ?_)
  · first
    | (exfalso; omega)
    |  (refine r_ldc C _ lc_X5_72 dX5_house_20 ?_
        exact r_iret C dX5_house_22 rfl (Nat.le_refl _) rfl rfl)
  · first
    | (exfalso; omega)
    |  (refine r_iload_n C rfl dX5_house_10 ?_
        refine r_iconstv C 0 rfl dX5_house_11 ?_
        refine r_bipush C 50 rfl dX5_house_12 ?_
        refine r_callS C (sp_isOutside G rfl (show (0 : Int32).toInt = 0 from rfl) (show (50 : Int32).toInt = 50 from rfl)) ks_X5_isOutside kn_X5_isOutside rfl dX5_house_14 cl_X5_68 ⟨Nat.le_of_ble_eq_true rfl, Nat.le_of_ble_eq_true rfl⟩ (Nat.le_refl _) rfl (Nat.le_of_ble_eq_true rfl) ?_
        refine t_ifb_eq C 23 (by decide) dX5_house_17 (fun c17 => ?_) (fun c17 => ?_)
        · first
          | (exfalso; omega)
          |  (refine r_iload_n C rfl dX5_house_23 ?_
              refine r_bipush C 100 rfl dX5_house_24 ?_
              refine r_sipush C 5000 rfl dX5_house_26 ?_
              refine r_callS C (sp_isOutside G rfl (show (100 : Int32).toInt = 100 from rfl) (show (5000 : Int32).toInt = 5000 from rfl)) ks_X5_isOutside kn_X5_isOutside rfl dX5_house_29 cl_X5_68 ⟨Nat.le_of_ble_eq_true rfl, Nat.le_of_ble_eq_true rfl⟩ (Nat.le_refl _) rfl (Nat.le_of_ble_eq_true rfl) ?_
              refine t_ifb_eq C 38 (by decide) dX5_house_32 (fun c32 => ?_) (fun c32 => ?_)
              · first
                | (exfalso; omega)
                |  (refine r_aload_n C rfl rfl dX5_house_38 ?_
                    refine r_getI C dX5_house_39 fl_X5_36 rfl (by first | exact (q_lt hh.1 (by decide)) | exact Nat.lt_succ_of_lt (Nat.lt_succ_of_lt (q_lt hh.1 (by decide)))) ?_
                    refine t_if_lt C 57 (by decide) hc dX5_house_42 (fun c42 => ?_) (fun c42 => ?_)
                    · first
                      | (exfalso; omega)
                      |  (refine r_ldc C _ lc_X5_73 dX5_house_57 ?_
                          exact r_iret C dX5_house_59 rfl (Nat.le_refl _) rfl rfl)
                    · first
                      | (exfalso; omega)
                      |  (refine r_aload_n C rfl rfl dX5_house_45 ?_
                          refine r_getI C dX5_house_46 fl_X5_36 rfl (by first | exact (q_lt hh.1 (by decide)) | exact Nat.lt_succ_of_lt (Nat.lt_succ_of_lt (q_lt hh.1 (by decide)))) ?_
                          refine r_aload_n C rfl rfl dX5_house_49 ?_
                          refine r_getO C dX5_house_50 fl_X5_11 rfl rfl (by first | exact (q_lt hh.1 (by decide)) | exact Nat.lt_succ_of_lt (Nat.lt_succ_of_lt (q_lt hh.1 (by decide)))) (sh_0_0 hh.1) ?_
                          refine r_alen C 24 dX5_house_53 rfl (by decide) (by first | exact (q_lt hh.1 (by decide)) | exact Nat.lt_succ_of_lt (Nat.lt_succ_of_lt (q_lt hh.1 (by decide)))) rfl ?_
                          refine t_icmp_lt C 60 (by decide) hc (show (24 : Int32).toInt = 24 from rfl) dX5_house_54 (fun c54 => ?_) (fun c54 => ?_)
                          · first
                            | (exfalso; omega)
                            |  (refine r_aload_n C rfl rfl dX5_house_60 ?_
                                refine r_getI C dX5_house_61 fl_X5_36 rfl (by first | exact (q_lt hh.1 (by decide)) | exact Nat.lt_succ_of_lt (Nat.lt_succ_of_lt (q_lt hh.1 (by decide)))) ?_
                                refine r_istore C rfl (Nat.le_of_ble_eq_true rfl) dX5_house_64 ?_
                                refine r_aload_n C rfl rfl dX5_house_66 ?_
                                refine r_getO C dX5_house_67 fl_X5_11 rfl rfl (by first | exact (q_lt hh.1 (by decide)) | exact Nat.lt_succ_of_lt (Nat.lt_succ_of_lt (q_lt hh.1 (by decide)))) (sh_0_0 hh.1) ?_
                                refine r_iload C rfl dX5_house_70 ?_
                                refine r_new C (ci := 1) dX5_house_72 (by decide) (by rw [hh.2.1]; exact tg_house n) ck_X5_9 in_X1 iz_X1 (Nat.le_succ _) ?_
                                refine r_dup C rfl dX5_house_75 ?_
                                refine r_iload_n C rfl dX5_house_76 ?_
                                refine r_iload_n C rfl dX5_house_77 ?_
                                refine r_iload_n C rfl dX5_house_78 ?_
                                refine r_callI C (sp_houseInit G (h := hAl h) (by rw [hh.2.1]; exact tg_house n) (Nat.lt_succ_self h.1) (by show tg (h.1 + 1) = _; rw [hh.2.1, show 35 + 2 * n + 1 = 36 + 2 * n by omega]; exact tg_plan n) x y z) ki_X1_init rfl rfl kn_X1_init rfl dX5_house_79 cl_X5_74 ⟨Nat.le_of_ble_eq_true rfl, Nat.le_of_ble_eq_true rfl⟩ (Nat.le_refl _) rfl (Nat.le_of_ble_eq_true rfl) ?_
                                refine r_aast C (n) (by have t := hc; omega) (by omega) dX5_house_82 rfl (by first | exact (q_lt hh.1 (by decide)) | exact Nat.lt_succ_of_lt (Nat.lt_succ_of_lt (q_lt hh.1 (by decide)))) (by rw [hh.2.1]; exact tg_house n) (by first | exact Nat.lt_succ_self h.1 | exact Nat.lt_succ_of_lt (Nat.lt_succ_self h.1)) ?_
                                refine r_aload_n C rfl rfl dX5_house_83 ?_
                                refine r_dup C rfl dX5_house_84 ?_
                                refine r_getI C dX5_house_85 fl_X5_36 rfl (by first | exact (q_lt hh.1 (by decide)) | exact Nat.lt_succ_of_lt (Nat.lt_succ_of_lt (q_lt hh.1 (by decide)))) ?_
                                refine r_iconstv C 1 rfl dX5_house_88 ?_
                                refine r_iadd C dX5_house_89 ?_
                                refine r_putI C dX5_house_90 fl_X5_36 rfl (by first | exact (q_lt hh.1 (by decide)) | exact Nat.lt_succ_of_lt (Nat.lt_succ_of_lt (q_lt hh.1 (by decide)))) (Or.inl rfl) ?_
                                refine r_iload C rfl dX5_house_93 ?_
                                exact r_iret C dX5_house_95 rfl (Nat.le_refl _) rfl rfl)
                          · first
                            | (exfalso; omega)
                            |  (refine r_ldc C _ lc_X5_73 dX5_house_57 ?_
                                exact r_iret C dX5_house_59 rfl (Nat.le_refl _) rfl rfl)))
              · first
                | (exfalso; omega)
                |  (refine r_ldc C _ lc_X5_72 dX5_house_35 ?_
                    exact r_iret C dX5_house_37 rfl (Nat.le_refl _) rfl rfl))
        · first
          | (exfalso; omega)
          |  (refine r_ldc C _ lc_X5_72 dX5_house_20 ?_
              exact r_iret C dX5_house_22 rfl (Nat.le_refl _) rfl rfl))

set_option maxHeartbeats 4000000 in
set_option maxRecDepth 100000 in
theorem c_houseX (G : oG) {h : oH} {n : Nat} (hh : oHs h n) (hc : (hI h 0 4).toInt = (n : Int)) (x y z : Int32) (hx : ¬ ((0 ≤ x.toInt ∧ x.toInt ≤ 50) ∧ (0 ≤ y.toInt ∧ y.toInt ≤ 50) ∧ (100 ≤ z.toInt ∧ z.toInt ≤ 5000))) : oSp G mX5_house [.ref 0, .int x, .int y, .int z] h (some (.int (-1000001))) h := by
  refine oSp.intro [some (.ref 0), some (.int x), some (.int y), some (.int z), none] rfl (Nat.le_of_ble_eq_true rfl) (plainFor_of_name (by decide +kernel)) (Nat.le_refl _) ?_
  intro p l e R s m args below meth c C
  refine r_iload_n C rfl dX5_house_0 ?_
  refine r_iconstv C 0 rfl dX5_house_1 ?_
  refine r_bipush C 50 rfl dX5_house_2 ?_
  refine r_callS C (sp_isOutside G rfl (show (0 : Int32).toInt = 0 from rfl) (show (50 : Int32).toInt = 50 from rfl)) ks_X5_isOutside kn_X5_isOutside rfl dX5_house_4 cl_X5_68 ⟨Nat.le_of_ble_eq_true rfl, Nat.le_of_ble_eq_true rfl⟩ (Nat.le_refl _) rfl (Nat.le_of_ble_eq_true rfl) ?_
  refine t_ifb_ne C 20 (by decide) dX5_house_7 (fun c7 => ?_) (fun c7 => ?_)
  · first
    | (exfalso; omega)
    |  (refine r_ldc C _ lc_X5_72 dX5_house_20 ?_
        exact r_iret C dX5_house_22 rfl (Nat.le_refl _) rfl rfl)
  · first
    | (exfalso; omega)
    |  (refine r_iload_n C rfl dX5_house_10 ?_
        refine r_iconstv C 0 rfl dX5_house_11 ?_
        refine r_bipush C 50 rfl dX5_house_12 ?_
        refine r_callS C (sp_isOutside G rfl (show (0 : Int32).toInt = 0 from rfl) (show (50 : Int32).toInt = 50 from rfl)) ks_X5_isOutside kn_X5_isOutside rfl dX5_house_14 cl_X5_68 ⟨Nat.le_of_ble_eq_true rfl, Nat.le_of_ble_eq_true rfl⟩ (Nat.le_refl _) rfl (Nat.le_of_ble_eq_true rfl) ?_
        refine t_ifb_eq C 23 (by decide) dX5_house_17 (fun c17 => ?_) (fun c17 => ?_)
        · first
          | (exfalso; omega)
          |  (refine r_iload_n C rfl dX5_house_23 ?_
              refine r_bipush C 100 rfl dX5_house_24 ?_
              refine r_sipush C 5000 rfl dX5_house_26 ?_
              refine r_callS C (sp_isOutside G rfl (show (100 : Int32).toInt = 100 from rfl) (show (5000 : Int32).toInt = 5000 from rfl)) ks_X5_isOutside kn_X5_isOutside rfl dX5_house_29 cl_X5_68 ⟨Nat.le_of_ble_eq_true rfl, Nat.le_of_ble_eq_true rfl⟩ (Nat.le_refl _) rfl (Nat.le_of_ble_eq_true rfl) ?_
              refine t_ifb_eq C 38 (by decide) dX5_house_32 (fun c32 => ?_) (fun c32 => ?_)
              · first
                | (exfalso; omega)
                |  (refine r_aload_n C rfl rfl dX5_house_38 ?_
                    refine r_getI C dX5_house_39 fl_X5_36 rfl (by first | exact (q_lt hh.1 (by decide)) | exact Nat.lt_succ_of_lt (Nat.lt_succ_of_lt (q_lt hh.1 (by decide)))) ?_
                    refine t_if_lt C 57 (by decide) hc dX5_house_42 (fun c42 => ?_) (fun c42 => ?_)
                    · first
                      | (exfalso; omega)
                      |  (refine r_ldc C _ lc_X5_73 dX5_house_57 ?_
                          exact r_iret C dX5_house_59 rfl (Nat.le_refl _) rfl rfl)
                    · first
                      | (exfalso; omega)
                      |  (refine r_aload_n C rfl rfl dX5_house_45 ?_
                          refine r_getI C dX5_house_46 fl_X5_36 rfl (by first | exact (q_lt hh.1 (by decide)) | exact Nat.lt_succ_of_lt (Nat.lt_succ_of_lt (q_lt hh.1 (by decide)))) ?_
                          refine r_aload_n C rfl rfl dX5_house_49 ?_
                          refine r_getO C dX5_house_50 fl_X5_11 rfl rfl (by first | exact (q_lt hh.1 (by decide)) | exact Nat.lt_succ_of_lt (Nat.lt_succ_of_lt (q_lt hh.1 (by decide)))) (sh_0_0 hh.1) ?_
                          refine r_alen C 24 dX5_house_53 rfl (by decide) (by first | exact (q_lt hh.1 (by decide)) | exact Nat.lt_succ_of_lt (Nat.lt_succ_of_lt (q_lt hh.1 (by decide)))) rfl ?_
                          refine t_icmp_lt C 60 (by decide) hc (show (24 : Int32).toInt = 24 from rfl) dX5_house_54 (fun c54 => ?_) (fun c54 => ?_)
                          · first
                            | (exfalso; omega)
                            |  (refine r_aload_n C rfl rfl dX5_house_60 ?_
                                refine r_getI C dX5_house_61 fl_X5_36 rfl (by first | exact (q_lt hh.1 (by decide)) | exact Nat.lt_succ_of_lt (Nat.lt_succ_of_lt (q_lt hh.1 (by decide)))) ?_
                                refine r_istore C rfl (Nat.le_of_ble_eq_true rfl) dX5_house_64 ?_
                                refine r_aload_n C rfl rfl dX5_house_66 ?_
                                refine r_getO C dX5_house_67 fl_X5_11 rfl rfl (by first | exact (q_lt hh.1 (by decide)) | exact Nat.lt_succ_of_lt (Nat.lt_succ_of_lt (q_lt hh.1 (by decide)))) (sh_0_0 hh.1) ?_
                                refine r_iload C rfl dX5_house_70 ?_
                                refine r_new C (ci := 1) dX5_house_72 (by decide) (by rw [hh.2.1]; exact tg_house n) ck_X5_9 in_X1 iz_X1 (Nat.le_succ _) ?_
                                refine r_dup C rfl dX5_house_75 ?_
                                refine r_iload_n C rfl dX5_house_76 ?_
                                refine r_iload_n C rfl dX5_house_77 ?_
                                refine r_iload_n C rfl dX5_house_78 ?_
                                refine r_callI C (sp_houseInit G (h := hAl h) (by rw [hh.2.1]; exact tg_house n) (Nat.lt_succ_self h.1) (by show tg (h.1 + 1) = _; rw [hh.2.1, show 35 + 2 * n + 1 = 36 + 2 * n by omega]; exact tg_plan n) x y z) ki_X1_init rfl rfl kn_X1_init rfl dX5_house_79 cl_X5_74 ⟨Nat.le_of_ble_eq_true rfl, Nat.le_of_ble_eq_true rfl⟩ (Nat.le_refl _) rfl (Nat.le_of_ble_eq_true rfl) ?_
                                refine r_aast C (n) (by have t := hc; omega) (by omega) dX5_house_82 rfl (by first | exact (q_lt hh.1 (by decide)) | exact Nat.lt_succ_of_lt (Nat.lt_succ_of_lt (q_lt hh.1 (by decide)))) (by rw [hh.2.1]; exact tg_house n) (by first | exact Nat.lt_succ_self h.1 | exact Nat.lt_succ_of_lt (Nat.lt_succ_self h.1)) ?_
                                refine r_aload_n C rfl rfl dX5_house_83 ?_
                                refine r_dup C rfl dX5_house_84 ?_
                                refine r_getI C dX5_house_85 fl_X5_36 rfl (by first | exact (q_lt hh.1 (by decide)) | exact Nat.lt_succ_of_lt (Nat.lt_succ_of_lt (q_lt hh.1 (by decide)))) ?_
                                refine r_iconstv C 1 rfl dX5_house_88 ?_
                                refine r_iadd C dX5_house_89 ?_
                                refine r_putI C dX5_house_90 fl_X5_36 rfl (by first | exact (q_lt hh.1 (by decide)) | exact Nat.lt_succ_of_lt (Nat.lt_succ_of_lt (q_lt hh.1 (by decide)))) (Or.inl rfl) ?_
                                refine r_iload C rfl dX5_house_93 ?_
                                exact r_iret C dX5_house_95 rfl (Nat.le_refl _) rfl rfl)
                          · first
                            | (exfalso; omega)
                            |  (refine r_ldc C _ lc_X5_73 dX5_house_57 ?_
                                exact r_iret C dX5_house_59 rfl (Nat.le_refl _) rfl rfl)))
              · first
                | (exfalso; omega)
                |  (refine r_ldc C _ lc_X5_72 dX5_house_35 ?_
                    exact r_iret C dX5_house_37 rfl (Nat.le_refl _) rfl rfl))
        · first
          | (exfalso; omega)
          |  (refine r_ldc C _ lc_X5_72 dX5_house_20 ?_
              exact r_iret C dX5_house_22 rfl (Nat.le_refl _) rfl rfl))

def mo2 (h : oH) (n : Nat) (x y z : Int32) : oH := (sI (sI (sI (sI (sI (sI (sI (sI (sI (sI h 12 0 0) 13 n x) 14 n y) 15 n z) 16 (4 * n) 0) 16 (4 * n + 1) 0) 16 (4 * n + 2) 50) 16 (4 * n + 3) 50) 17 n z) 18 n z)
def mo3 (h : oH) (n : Nat) (x y z : Int32) : oH := sI (mo2 h n x y z) 12 1 (hI (mo2 h n x y z) 12 1 + 1)
set_option maxHeartbeats 4000000 in
set_option maxRecDepth 100000 in
theorem m_house (G : oG) {h : oH} {n : Nat} (hs : oSh h) (hc : (hI h 12 1).toInt = (n : Int)) (x y z : Int32) (hn : n < 24) (hx : (0 ≤ x.toInt ∧ x.toInt ≤ 50)) (hy : (0 ≤ y.toInt ∧ y.toInt ≤ 50)) (hz : (100 ≤ z.toInt ∧ z.toInt ≤ 5000)) : oSp G mX6_house [.ref 12, .int x, .int y, .int z] h (some (.int (hI h 12 1))) (mo3 h n x y z) := by
  refine oSp.intro [some (.ref 12), some (.int x), some (.int y), some (.int z), none] rfl (Nat.le_of_ble_eq_true rfl) (plainFor_of_name (by decide +kernel)) (Nat.le_refl _) ?_
  intro p l e R s m args below meth c C
  refine r_aload_n C rfl rfl dX6_house_0 ?_
  refine r_iconstv C 0 rfl dX6_house_1 ?_
  refine r_putI C dX6_house_2 fl_X6_90 rfl (q_lt hs (by decide)) (Or.inl rfl) ?_
  refine r_iload_n C rfl dX6_house_5 ?_
  refine r_i2l C dX6_house_6 ?_
  refine r_lconst C 0 rfl dX6_house_7 ?_
  refine r_ldc2 C _ ll_X6_100 dX6_house_8 ?_
  refine r_callS C (sp_in G (tI2L rfl) (show (0 : Int64).toInt = 0 from rfl) (show (50 : Int64).toInt = 50 from rfl)) ks_X6_in kn_X6_in rfl dX6_house_11 cl_X6_96 ⟨Nat.le_of_ble_eq_true rfl, Nat.le_of_ble_eq_true rfl⟩ (Nat.le_refl _) rfl (Nat.le_of_ble_eq_true rfl) ?_
  refine t_ifb_eq C 43 (by decide) dX6_house_14 (fun c14 => ?_) (fun c14 => ?_)
  · first
    | (exfalso; omega)
    |  (refine r_ldc C _ lc_X6_106 dX6_house_43 ?_
        exact r_iret C dX6_house_45 rfl (Nat.le_refl _) rfl rfl)
  · first
    | (exfalso; omega)
    |  (refine r_iload_n C rfl dX6_house_17 ?_
        refine r_i2l C dX6_house_18 ?_
        refine r_lconst C 0 rfl dX6_house_19 ?_
        refine r_ldc2 C _ ll_X6_100 dX6_house_20 ?_
        refine r_callS C (sp_in G (tI2L rfl) (show (0 : Int64).toInt = 0 from rfl) (show (50 : Int64).toInt = 50 from rfl)) ks_X6_in kn_X6_in rfl dX6_house_23 cl_X6_96 ⟨Nat.le_of_ble_eq_true rfl, Nat.le_of_ble_eq_true rfl⟩ (Nat.le_refl _) rfl (Nat.le_of_ble_eq_true rfl) ?_
        refine t_ifb_eq C 43 (by decide) dX6_house_26 (fun c26 => ?_) (fun c26 => ?_)
        · first
          | (exfalso; omega)
          |  (refine r_ldc C _ lc_X6_106 dX6_house_43 ?_
              exact r_iret C dX6_house_45 rfl (Nat.le_refl _) rfl rfl)
        · first
          | (exfalso; omega)
          |  (refine r_iload_n C rfl dX6_house_29 ?_
              refine r_i2l C dX6_house_30 ?_
              refine r_ldc2 C _ ll_X6_102 dX6_house_31 ?_
              refine r_ldc2 C _ ll_X6_104 dX6_house_34 ?_
              refine r_callS C (sp_in G (tI2L rfl) (show (100 : Int64).toInt = 100 from rfl) (show (5000 : Int64).toInt = 5000 from rfl)) ks_X6_in kn_X6_in rfl dX6_house_37 cl_X6_96 ⟨Nat.le_of_ble_eq_true rfl, Nat.le_of_ble_eq_true rfl⟩ (Nat.le_refl _) rfl (Nat.le_of_ble_eq_true rfl) ?_
              refine t_ifb_ne C 46 (by decide) dX6_house_40 (fun c40 => ?_) (fun c40 => ?_)
              · first
                | (exfalso; omega)
                |  (refine r_aload_n C rfl rfl dX6_house_46 ?_
                    refine r_getI C dX6_house_47 fl_X6_93 rfl (q_lt hs (by decide)) ?_
                    refine r_bipush C 24 rfl dX6_house_50 ?_
                    refine t_icmp_ne C 58 (by decide) (show (hI (sI h 12 0 0) 12 1).toInt = (n : Int) from hc) (show (24 : Int32).toInt = 24 from rfl) dX6_house_52 (fun c52 => ?_) (fun c52 => ?_)
                    · first
                      | (exfalso; omega)
                      |  (refine r_aload_n C rfl rfl dX6_house_58 ?_
                          refine r_getI C dX6_house_59 fl_X6_93 rfl (q_lt hs (by decide)) ?_
                          refine r_istore C rfl (Nat.le_of_ble_eq_true rfl) dX6_house_62 ?_
                          refine r_aload_n C rfl rfl dX6_house_64 ?_
                          refine r_getO C dX6_house_65 fl_X6_7 rfl rfl (q_lt hs (by decide)) (sh_12_2 hs) ?_
                          refine r_iload C rfl dX6_house_68 ?_
                          refine r_iload_n C rfl dX6_house_70 ?_
                          refine r_iast C (n) (by have t := (show (hI (sI h 12 0 0) 12 1).toInt = (n : Int) from hc); omega) (by omega) dX6_house_71 rfl (q_lt hs (by decide)) ?_
                          refine r_aload_n C rfl rfl dX6_house_72 ?_
                          refine r_getO C dX6_house_73 fl_X6_13 rfl rfl (q_lt hs (by decide)) (sh_12_3 hs) ?_
                          refine r_iload C rfl dX6_house_76 ?_
                          refine r_iload_n C rfl dX6_house_78 ?_
                          refine r_iast C (n) (by have t := (show (hI (sI h 12 0 0) 12 1).toInt = (n : Int) from hc); omega) (by omega) dX6_house_79 rfl (q_lt hs (by decide)) ?_
                          refine r_aload_n C rfl rfl dX6_house_80 ?_
                          refine r_getO C dX6_house_81 fl_X6_16 rfl rfl (q_lt hs (by decide)) (sh_12_4 hs) ?_
                          refine r_iload C rfl dX6_house_84 ?_
                          refine r_iload_n C rfl dX6_house_86 ?_
                          refine r_iast C (n) (by have t := (show (hI (sI h 12 0 0) 12 1).toInt = (n : Int) from hc); omega) (by omega) dX6_house_87 rfl (q_lt hs (by decide)) ?_
                          refine r_aload_n C rfl rfl dX6_house_88 ?_
                          refine r_getO C dX6_house_89 fl_X6_19 rfl rfl (q_lt hs (by decide)) (sh_12_5 hs) ?_
                          refine r_iconstv C 4 rfl dX6_house_92 ?_
                          refine r_iload C rfl dX6_house_93 ?_
                          refine r_imul C dX6_house_95 ?_
                          refine r_iconstv C 0 rfl dX6_house_96 ?_
                          refine r_iast C ((4) * (n)) (by have t := (tM (show (4 : Int32).toInt = 4 from rfl) (show (hI (sI h 12 0 0) 12 1).toInt = (n : Int) from hc) (by omega)); omega) (by omega) dX6_house_97 rfl (q_lt hs (by decide)) ?_
                          refine r_aload_n C rfl rfl dX6_house_98 ?_
                          refine r_getO C dX6_house_99 fl_X6_19 rfl rfl (q_lt hs (by decide)) (sh_12_5 hs) ?_
                          refine r_iconstv C 4 rfl dX6_house_102 ?_
                          refine r_iload C rfl dX6_house_103 ?_
                          refine r_imul C dX6_house_105 ?_
                          refine r_iconstv C 1 rfl dX6_house_106 ?_
                          refine r_iadd C dX6_house_107 ?_
                          refine r_iconstv C 0 rfl dX6_house_108 ?_
                          refine r_iast C (((4) * (n)) + (1)) (by have t := (tA (tM (show (4 : Int32).toInt = 4 from rfl) (show (hI (sI h 12 0 0) 12 1).toInt = (n : Int) from hc) (by omega)) (show (1 : Int32).toInt = 1 from rfl) (by omega)); omega) (by omega) dX6_house_109 rfl (q_lt hs (by decide)) ?_
                          refine r_aload_n C rfl rfl dX6_house_110 ?_
                          refine r_getO C dX6_house_111 fl_X6_19 rfl rfl (q_lt hs (by decide)) (sh_12_5 hs) ?_
                          refine r_iconstv C 4 rfl dX6_house_114 ?_
                          refine r_iload C rfl dX6_house_115 ?_
                          refine r_imul C dX6_house_117 ?_
                          refine r_iconstv C 2 rfl dX6_house_118 ?_
                          refine r_iadd C dX6_house_119 ?_
                          refine r_bipush C 50 rfl dX6_house_120 ?_
                          refine r_iast C (((4) * (n)) + (2)) (by have t := (tA (tM (show (4 : Int32).toInt = 4 from rfl) (show (hI (sI h 12 0 0) 12 1).toInt = (n : Int) from hc) (by omega)) (show (2 : Int32).toInt = 2 from rfl) (by omega)); omega) (by omega) dX6_house_122 rfl (q_lt hs (by decide)) ?_
                          refine r_aload_n C rfl rfl dX6_house_123 ?_
                          refine r_getO C dX6_house_124 fl_X6_19 rfl rfl (q_lt hs (by decide)) (sh_12_5 hs) ?_
                          refine r_iconstv C 4 rfl dX6_house_127 ?_
                          refine r_iload C rfl dX6_house_128 ?_
                          refine r_imul C dX6_house_130 ?_
                          refine r_iconstv C 3 rfl dX6_house_131 ?_
                          refine r_iadd C dX6_house_132 ?_
                          refine r_bipush C 50 rfl dX6_house_133 ?_
                          refine r_iast C (((4) * (n)) + (3)) (by have t := (tA (tM (show (4 : Int32).toInt = 4 from rfl) (show (hI (sI h 12 0 0) 12 1).toInt = (n : Int) from hc) (by omega)) (show (3 : Int32).toInt = 3 from rfl) (by omega)); omega) (by omega) dX6_house_135 rfl (q_lt hs (by decide)) ?_
                          refine r_aload_n C rfl rfl dX6_house_136 ?_
                          refine r_getO C dX6_house_137 fl_X6_22 rfl rfl (q_lt hs (by decide)) (sh_12_6 hs) ?_
                          refine r_iload C rfl dX6_house_140 ?_
                          refine r_iload_n C rfl dX6_house_142 ?_
                          refine r_iast C (n) (by have t := (show (hI (sI h 12 0 0) 12 1).toInt = (n : Int) from hc); omega) (by omega) dX6_house_143 rfl (q_lt hs (by decide)) ?_
                          refine r_aload_n C rfl rfl dX6_house_144 ?_
                          refine r_getO C dX6_house_145 fl_X6_25 rfl rfl (q_lt hs (by decide)) (sh_12_7 hs) ?_
                          refine r_iload C rfl dX6_house_148 ?_
                          refine r_iload_n C rfl dX6_house_150 ?_
                          refine r_iast C (n) (by have t := (show (hI (sI h 12 0 0) 12 1).toInt = (n : Int) from hc); omega) (by omega) dX6_house_151 rfl (q_lt hs (by decide)) ?_
                          refine r_aload_n C rfl rfl dX6_house_152 ?_
                          refine r_dup C rfl dX6_house_153 ?_
                          refine r_getI C dX6_house_154 fl_X6_93 rfl (q_lt hs (by decide)) ?_
                          refine r_iconstv C 1 rfl dX6_house_157 ?_
                          refine r_iadd C dX6_house_158 ?_
                          refine r_putI C dX6_house_159 fl_X6_93 rfl (q_lt hs (by decide)) (Or.inl rfl) ?_
                          refine r_iload C rfl dX6_house_162 ?_
                          exact r_iret C dX6_house_164 rfl (Nat.le_refl _) rfl rfl)
                    · first
                      | (exfalso; omega)
                      |  (refine r_ldc C _ lc_X6_107 dX6_house_55 ?_
                          exact r_iret C dX6_house_57 rfl (Nat.le_refl _) rfl rfl))
              · first
                | (exfalso; omega)
                |  (refine r_ldc C _ lc_X6_106 dX6_house_43 ?_
                    exact r_iret C dX6_house_45 rfl (Nat.le_refl _) rfl rfl)))

set_option maxHeartbeats 4000000 in
set_option maxRecDepth 100000 in
theorem m_houseF (G : oG) {h : oH} {n : Nat} (hs : oSh h) (hc : (hI h 12 1).toInt = (n : Int)) (x y z : Int32) (hn : n = 24) (hx : (0 ≤ x.toInt ∧ x.toInt ≤ 50)) (hy : (0 ≤ y.toInt ∧ y.toInt ≤ 50)) (hz : (100 ≤ z.toInt ∧ z.toInt ≤ 5000)) : oSp G mX6_house [.ref 12, .int x, .int y, .int z] h (some (.int (-1000003))) (sI h 12 0 0) := by
  refine oSp.intro [some (.ref 12), some (.int x), some (.int y), some (.int z), none] rfl (Nat.le_of_ble_eq_true rfl) (plainFor_of_name (by decide +kernel)) (Nat.le_refl _) ?_
  intro p l e R s m args below meth c C
  refine r_aload_n C rfl rfl dX6_house_0 ?_
  refine r_iconstv C 0 rfl dX6_house_1 ?_
  refine r_putI C dX6_house_2 fl_X6_90 rfl (q_lt hs (by decide)) (Or.inl rfl) ?_
  refine r_iload_n C rfl dX6_house_5 ?_
  refine r_i2l C dX6_house_6 ?_
  refine r_lconst C 0 rfl dX6_house_7 ?_
  refine r_ldc2 C _ ll_X6_100 dX6_house_8 ?_
  refine r_callS C (sp_in G (tI2L rfl) (show (0 : Int64).toInt = 0 from rfl) (show (50 : Int64).toInt = 50 from rfl)) ks_X6_in kn_X6_in rfl dX6_house_11 cl_X6_96 ⟨Nat.le_of_ble_eq_true rfl, Nat.le_of_ble_eq_true rfl⟩ (Nat.le_refl _) rfl (Nat.le_of_ble_eq_true rfl) ?_
  refine t_ifb_eq C 43 (by decide) dX6_house_14 (fun c14 => ?_) (fun c14 => ?_)
  · first
    | (exfalso; omega)
    |  (refine r_ldc C _ lc_X6_106 dX6_house_43 ?_
        exact r_iret C dX6_house_45 rfl (Nat.le_refl _) rfl rfl)
  · first
    | (exfalso; omega)
    |  (refine r_iload_n C rfl dX6_house_17 ?_
        refine r_i2l C dX6_house_18 ?_
        refine r_lconst C 0 rfl dX6_house_19 ?_
        refine r_ldc2 C _ ll_X6_100 dX6_house_20 ?_
        refine r_callS C (sp_in G (tI2L rfl) (show (0 : Int64).toInt = 0 from rfl) (show (50 : Int64).toInt = 50 from rfl)) ks_X6_in kn_X6_in rfl dX6_house_23 cl_X6_96 ⟨Nat.le_of_ble_eq_true rfl, Nat.le_of_ble_eq_true rfl⟩ (Nat.le_refl _) rfl (Nat.le_of_ble_eq_true rfl) ?_
        refine t_ifb_eq C 43 (by decide) dX6_house_26 (fun c26 => ?_) (fun c26 => ?_)
        · first
          | (exfalso; omega)
          |  (refine r_ldc C _ lc_X6_106 dX6_house_43 ?_
              exact r_iret C dX6_house_45 rfl (Nat.le_refl _) rfl rfl)
        · first
          | (exfalso; omega)
          |  (refine r_iload_n C rfl dX6_house_29 ?_
              refine r_i2l C dX6_house_30 ?_
              refine r_ldc2 C _ ll_X6_102 dX6_house_31 ?_
              refine r_ldc2 C _ ll_X6_104 dX6_house_34 ?_
              refine r_callS C (sp_in G (tI2L rfl) (show (100 : Int64).toInt = 100 from rfl) (show (5000 : Int64).toInt = 5000 from rfl)) ks_X6_in kn_X6_in rfl dX6_house_37 cl_X6_96 ⟨Nat.le_of_ble_eq_true rfl, Nat.le_of_ble_eq_true rfl⟩ (Nat.le_refl _) rfl (Nat.le_of_ble_eq_true rfl) ?_
              refine t_ifb_ne C 46 (by decide) dX6_house_40 (fun c40 => ?_) (fun c40 => ?_)
              · first
                | (exfalso; omega)
                |  (refine r_aload_n C rfl rfl dX6_house_46 ?_
                    refine r_getI C dX6_house_47 fl_X6_93 rfl (q_lt hs (by decide)) ?_
                    refine r_bipush C 24 rfl dX6_house_50 ?_
                    refine t_icmp_ne C 58 (by decide) (show (hI (sI h 12 0 0) 12 1).toInt = (n : Int) from hc) (show (24 : Int32).toInt = 24 from rfl) dX6_house_52 (fun c52 => ?_) (fun c52 => ?_)
                    · first
                      | (exfalso; omega)
                      |  (refine r_aload_n C rfl rfl dX6_house_58 ?_
                          refine r_getI C dX6_house_59 fl_X6_93 rfl (q_lt hs (by decide)) ?_
                          refine r_istore C rfl (Nat.le_of_ble_eq_true rfl) dX6_house_62 ?_
                          refine r_aload_n C rfl rfl dX6_house_64 ?_
                          refine r_getO C dX6_house_65 fl_X6_7 rfl rfl (q_lt hs (by decide)) (sh_12_2 hs) ?_
                          refine r_iload C rfl dX6_house_68 ?_
                          refine r_iload_n C rfl dX6_house_70 ?_
                          refine r_iast C (n) (by have t := (show (hI (sI h 12 0 0) 12 1).toInt = (n : Int) from hc); omega) (by omega) dX6_house_71 rfl (q_lt hs (by decide)) ?_
                          refine r_aload_n C rfl rfl dX6_house_72 ?_
                          refine r_getO C dX6_house_73 fl_X6_13 rfl rfl (q_lt hs (by decide)) (sh_12_3 hs) ?_
                          refine r_iload C rfl dX6_house_76 ?_
                          refine r_iload_n C rfl dX6_house_78 ?_
                          refine r_iast C (n) (by have t := (show (hI (sI h 12 0 0) 12 1).toInt = (n : Int) from hc); omega) (by omega) dX6_house_79 rfl (q_lt hs (by decide)) ?_
                          refine r_aload_n C rfl rfl dX6_house_80 ?_
                          refine r_getO C dX6_house_81 fl_X6_16 rfl rfl (q_lt hs (by decide)) (sh_12_4 hs) ?_
                          refine r_iload C rfl dX6_house_84 ?_
                          refine r_iload_n C rfl dX6_house_86 ?_
                          refine r_iast C (n) (by have t := (show (hI (sI h 12 0 0) 12 1).toInt = (n : Int) from hc); omega) (by omega) dX6_house_87 rfl (q_lt hs (by decide)) ?_
                          refine r_aload_n C rfl rfl dX6_house_88 ?_
                          refine r_getO C dX6_house_89 fl_X6_19 rfl rfl (q_lt hs (by decide)) (sh_12_5 hs) ?_
                          refine r_iconstv C 4 rfl dX6_house_92 ?_
                          refine r_iload C rfl dX6_house_93 ?_
                          refine r_imul C dX6_house_95 ?_
                          refine r_iconstv C 0 rfl dX6_house_96 ?_
                          refine r_iast C ((4) * (n)) (by have t := (tM (show (4 : Int32).toInt = 4 from rfl) (show (hI (sI h 12 0 0) 12 1).toInt = (n : Int) from hc) (by omega)); omega) (by omega) dX6_house_97 rfl (q_lt hs (by decide)) ?_
                          refine r_aload_n C rfl rfl dX6_house_98 ?_
                          refine r_getO C dX6_house_99 fl_X6_19 rfl rfl (q_lt hs (by decide)) (sh_12_5 hs) ?_
                          refine r_iconstv C 4 rfl dX6_house_102 ?_
                          refine r_iload C rfl dX6_house_103 ?_
                          refine r_imul C dX6_house_105 ?_
                          refine r_iconstv C 1 rfl dX6_house_106 ?_
                          refine r_iadd C dX6_house_107 ?_
                          refine r_iconstv C 0 rfl dX6_house_108 ?_
                          refine r_iast C (((4) * (n)) + (1)) (by have t := (tA (tM (show (4 : Int32).toInt = 4 from rfl) (show (hI (sI h 12 0 0) 12 1).toInt = (n : Int) from hc) (by omega)) (show (1 : Int32).toInt = 1 from rfl) (by omega)); omega) (by omega) dX6_house_109 rfl (q_lt hs (by decide)) ?_
                          refine r_aload_n C rfl rfl dX6_house_110 ?_
                          refine r_getO C dX6_house_111 fl_X6_19 rfl rfl (q_lt hs (by decide)) (sh_12_5 hs) ?_
                          refine r_iconstv C 4 rfl dX6_house_114 ?_
                          refine r_iload C rfl dX6_house_115 ?_
                          refine r_imul C dX6_house_117 ?_
                          refine r_iconstv C 2 rfl dX6_house_118 ?_
                          refine r_iadd C dX6_house_119 ?_
                          refine r_bipush C 50 rfl dX6_house_120 ?_
                          refine r_iast C (((4) * (n)) + (2)) (by have t := (tA (tM (show (4 : Int32).toInt = 4 from rfl) (show (hI (sI h 12 0 0) 12 1).toInt = (n : Int) from hc) (by omega)) (show (2 : Int32).toInt = 2 from rfl) (by omega)); omega) (by omega) dX6_house_122 rfl (q_lt hs (by decide)) ?_
                          refine r_aload_n C rfl rfl dX6_house_123 ?_
                          refine r_getO C dX6_house_124 fl_X6_19 rfl rfl (q_lt hs (by decide)) (sh_12_5 hs) ?_
                          refine r_iconstv C 4 rfl dX6_house_127 ?_
                          refine r_iload C rfl dX6_house_128 ?_
                          refine r_imul C dX6_house_130 ?_
                          refine r_iconstv C 3 rfl dX6_house_131 ?_
                          refine r_iadd C dX6_house_132 ?_
                          refine r_bipush C 50 rfl dX6_house_133 ?_
                          refine r_iast C (((4) * (n)) + (3)) (by have t := (tA (tM (show (4 : Int32).toInt = 4 from rfl) (show (hI (sI h 12 0 0) 12 1).toInt = (n : Int) from hc) (by omega)) (show (3 : Int32).toInt = 3 from rfl) (by omega)); omega) (by omega) dX6_house_135 rfl (q_lt hs (by decide)) ?_
                          refine r_aload_n C rfl rfl dX6_house_136 ?_
                          refine r_getO C dX6_house_137 fl_X6_22 rfl rfl (q_lt hs (by decide)) (sh_12_6 hs) ?_
                          refine r_iload C rfl dX6_house_140 ?_
                          refine r_iload_n C rfl dX6_house_142 ?_
                          refine r_iast C (n) (by have t := (show (hI (sI h 12 0 0) 12 1).toInt = (n : Int) from hc); omega) (by omega) dX6_house_143 rfl (q_lt hs (by decide)) ?_
                          refine r_aload_n C rfl rfl dX6_house_144 ?_
                          refine r_getO C dX6_house_145 fl_X6_25 rfl rfl (q_lt hs (by decide)) (sh_12_7 hs) ?_
                          refine r_iload C rfl dX6_house_148 ?_
                          refine r_iload_n C rfl dX6_house_150 ?_
                          refine r_iast C (n) (by have t := (show (hI (sI h 12 0 0) 12 1).toInt = (n : Int) from hc); omega) (by omega) dX6_house_151 rfl (q_lt hs (by decide)) ?_
                          refine r_aload_n C rfl rfl dX6_house_152 ?_
                          refine r_dup C rfl dX6_house_153 ?_
                          refine r_getI C dX6_house_154 fl_X6_93 rfl (q_lt hs (by decide)) ?_
                          refine r_iconstv C 1 rfl dX6_house_157 ?_
                          refine r_iadd C dX6_house_158 ?_
                          refine r_putI C dX6_house_159 fl_X6_93 rfl (q_lt hs (by decide)) (Or.inl rfl) ?_
                          refine r_iload C rfl dX6_house_162 ?_
                          exact r_iret C dX6_house_164 rfl (Nat.le_refl _) rfl rfl)
                    · first
                      | (exfalso; omega)
                      |  (refine r_ldc C _ lc_X6_107 dX6_house_55 ?_
                          exact r_iret C dX6_house_57 rfl (Nat.le_refl _) rfl rfl))
              · first
                | (exfalso; omega)
                |  (refine r_ldc C _ lc_X6_106 dX6_house_43 ?_
                    exact r_iret C dX6_house_45 rfl (Nat.le_refl _) rfl rfl)))

set_option maxHeartbeats 4000000 in
set_option maxRecDepth 100000 in
theorem m_houseX (G : oG) {h : oH} {n : Nat} (hs : oSh h) (hc : (hI h 12 1).toInt = (n : Int)) (x y z : Int32) (hx : ¬ ((0 ≤ x.toInt ∧ x.toInt ≤ 50) ∧ (0 ≤ y.toInt ∧ y.toInt ≤ 50) ∧ (100 ≤ z.toInt ∧ z.toInt ≤ 5000))) : oSp G mX6_house [.ref 12, .int x, .int y, .int z] h (some (.int (-1000001))) (sI h 12 0 0) := by
  refine oSp.intro [some (.ref 12), some (.int x), some (.int y), some (.int z), none] rfl (Nat.le_of_ble_eq_true rfl) (plainFor_of_name (by decide +kernel)) (Nat.le_refl _) ?_
  intro p l e R s m args below meth c C
  refine r_aload_n C rfl rfl dX6_house_0 ?_
  refine r_iconstv C 0 rfl dX6_house_1 ?_
  refine r_putI C dX6_house_2 fl_X6_90 rfl (q_lt hs (by decide)) (Or.inl rfl) ?_
  refine r_iload_n C rfl dX6_house_5 ?_
  refine r_i2l C dX6_house_6 ?_
  refine r_lconst C 0 rfl dX6_house_7 ?_
  refine r_ldc2 C _ ll_X6_100 dX6_house_8 ?_
  refine r_callS C (sp_in G (tI2L rfl) (show (0 : Int64).toInt = 0 from rfl) (show (50 : Int64).toInt = 50 from rfl)) ks_X6_in kn_X6_in rfl dX6_house_11 cl_X6_96 ⟨Nat.le_of_ble_eq_true rfl, Nat.le_of_ble_eq_true rfl⟩ (Nat.le_refl _) rfl (Nat.le_of_ble_eq_true rfl) ?_
  refine t_ifb_eq C 43 (by decide) dX6_house_14 (fun c14 => ?_) (fun c14 => ?_)
  · first
    | (exfalso; omega)
    |  (refine r_ldc C _ lc_X6_106 dX6_house_43 ?_
        exact r_iret C dX6_house_45 rfl (Nat.le_refl _) rfl rfl)
  · first
    | (exfalso; omega)
    |  (refine r_iload_n C rfl dX6_house_17 ?_
        refine r_i2l C dX6_house_18 ?_
        refine r_lconst C 0 rfl dX6_house_19 ?_
        refine r_ldc2 C _ ll_X6_100 dX6_house_20 ?_
        refine r_callS C (sp_in G (tI2L rfl) (show (0 : Int64).toInt = 0 from rfl) (show (50 : Int64).toInt = 50 from rfl)) ks_X6_in kn_X6_in rfl dX6_house_23 cl_X6_96 ⟨Nat.le_of_ble_eq_true rfl, Nat.le_of_ble_eq_true rfl⟩ (Nat.le_refl _) rfl (Nat.le_of_ble_eq_true rfl) ?_
        refine t_ifb_eq C 43 (by decide) dX6_house_26 (fun c26 => ?_) (fun c26 => ?_)
        · first
          | (exfalso; omega)
          |  (refine r_ldc C _ lc_X6_106 dX6_house_43 ?_
              exact r_iret C dX6_house_45 rfl (Nat.le_refl _) rfl rfl)
        · first
          | (exfalso; omega)
          |  (refine r_iload_n C rfl dX6_house_29 ?_
              refine r_i2l C dX6_house_30 ?_
              refine r_ldc2 C _ ll_X6_102 dX6_house_31 ?_
              refine r_ldc2 C _ ll_X6_104 dX6_house_34 ?_
              refine r_callS C (sp_in G (tI2L rfl) (show (100 : Int64).toInt = 100 from rfl) (show (5000 : Int64).toInt = 5000 from rfl)) ks_X6_in kn_X6_in rfl dX6_house_37 cl_X6_96 ⟨Nat.le_of_ble_eq_true rfl, Nat.le_of_ble_eq_true rfl⟩ (Nat.le_refl _) rfl (Nat.le_of_ble_eq_true rfl) ?_
              refine t_ifb_ne C 46 (by decide) dX6_house_40 (fun c40 => ?_) (fun c40 => ?_)
              · first
                | (exfalso; omega)
                |  (refine r_aload_n C rfl rfl dX6_house_46 ?_
                    refine r_getI C dX6_house_47 fl_X6_93 rfl (q_lt hs (by decide)) ?_
                    refine r_bipush C 24 rfl dX6_house_50 ?_
                    refine t_icmp_ne C 58 (by decide) (show (hI (sI h 12 0 0) 12 1).toInt = (n : Int) from hc) (show (24 : Int32).toInt = 24 from rfl) dX6_house_52 (fun c52 => ?_) (fun c52 => ?_)
                    · first
                      | (exfalso; omega)
                      |  (refine r_aload_n C rfl rfl dX6_house_58 ?_
                          refine r_getI C dX6_house_59 fl_X6_93 rfl (q_lt hs (by decide)) ?_
                          refine r_istore C rfl (Nat.le_of_ble_eq_true rfl) dX6_house_62 ?_
                          refine r_aload_n C rfl rfl dX6_house_64 ?_
                          refine r_getO C dX6_house_65 fl_X6_7 rfl rfl (q_lt hs (by decide)) (sh_12_2 hs) ?_
                          refine r_iload C rfl dX6_house_68 ?_
                          refine r_iload_n C rfl dX6_house_70 ?_
                          refine r_iast C (n) (by have t := (show (hI (sI h 12 0 0) 12 1).toInt = (n : Int) from hc); omega) (by omega) dX6_house_71 rfl (q_lt hs (by decide)) ?_
                          refine r_aload_n C rfl rfl dX6_house_72 ?_
                          refine r_getO C dX6_house_73 fl_X6_13 rfl rfl (q_lt hs (by decide)) (sh_12_3 hs) ?_
                          refine r_iload C rfl dX6_house_76 ?_
                          refine r_iload_n C rfl dX6_house_78 ?_
                          refine r_iast C (n) (by have t := (show (hI (sI h 12 0 0) 12 1).toInt = (n : Int) from hc); omega) (by omega) dX6_house_79 rfl (q_lt hs (by decide)) ?_
                          refine r_aload_n C rfl rfl dX6_house_80 ?_
                          refine r_getO C dX6_house_81 fl_X6_16 rfl rfl (q_lt hs (by decide)) (sh_12_4 hs) ?_
                          refine r_iload C rfl dX6_house_84 ?_
                          refine r_iload_n C rfl dX6_house_86 ?_
                          refine r_iast C (n) (by have t := (show (hI (sI h 12 0 0) 12 1).toInt = (n : Int) from hc); omega) (by omega) dX6_house_87 rfl (q_lt hs (by decide)) ?_
                          refine r_aload_n C rfl rfl dX6_house_88 ?_
                          refine r_getO C dX6_house_89 fl_X6_19 rfl rfl (q_lt hs (by decide)) (sh_12_5 hs) ?_
                          refine r_iconstv C 4 rfl dX6_house_92 ?_
                          refine r_iload C rfl dX6_house_93 ?_
                          refine r_imul C dX6_house_95 ?_
                          refine r_iconstv C 0 rfl dX6_house_96 ?_
                          refine r_iast C ((4) * (n)) (by have t := (tM (show (4 : Int32).toInt = 4 from rfl) (show (hI (sI h 12 0 0) 12 1).toInt = (n : Int) from hc) (by omega)); omega) (by omega) dX6_house_97 rfl (q_lt hs (by decide)) ?_
                          refine r_aload_n C rfl rfl dX6_house_98 ?_
                          refine r_getO C dX6_house_99 fl_X6_19 rfl rfl (q_lt hs (by decide)) (sh_12_5 hs) ?_
                          refine r_iconstv C 4 rfl dX6_house_102 ?_
                          refine r_iload C rfl dX6_house_103 ?_
                          refine r_imul C dX6_house_105 ?_
                          refine r_iconstv C 1 rfl dX6_house_106 ?_
                          refine r_iadd C dX6_house_107 ?_
                          refine r_iconstv C 0 rfl dX6_house_108 ?_
                          refine r_iast C (((4) * (n)) + (1)) (by have t := (tA (tM (show (4 : Int32).toInt = 4 from rfl) (show (hI (sI h 12 0 0) 12 1).toInt = (n : Int) from hc) (by omega)) (show (1 : Int32).toInt = 1 from rfl) (by omega)); omega) (by omega) dX6_house_109 rfl (q_lt hs (by decide)) ?_
                          refine r_aload_n C rfl rfl dX6_house_110 ?_
                          refine r_getO C dX6_house_111 fl_X6_19 rfl rfl (q_lt hs (by decide)) (sh_12_5 hs) ?_
                          refine r_iconstv C 4 rfl dX6_house_114 ?_
                          refine r_iload C rfl dX6_house_115 ?_
                          refine r_imul C dX6_house_117 ?_
                          refine r_iconstv C 2 rfl dX6_house_118 ?_
                          refine r_iadd C dX6_house_119 ?_
                          refine r_bipush C 50 rfl dX6_house_120 ?_
                          refine r_iast C (((4) * (n)) + (2)) (by have t := (tA (tM (show (4 : Int32).toInt = 4 from rfl) (show (hI (sI h 12 0 0) 12 1).toInt = (n : Int) from hc) (by omega)) (show (2 : Int32).toInt = 2 from rfl) (by omega)); omega) (by omega) dX6_house_122 rfl (q_lt hs (by decide)) ?_
                          refine r_aload_n C rfl rfl dX6_house_123 ?_
                          refine r_getO C dX6_house_124 fl_X6_19 rfl rfl (q_lt hs (by decide)) (sh_12_5 hs) ?_
                          refine r_iconstv C 4 rfl dX6_house_127 ?_
                          refine r_iload C rfl dX6_house_128 ?_
                          refine r_imul C dX6_house_130 ?_
                          refine r_iconstv C 3 rfl dX6_house_131 ?_
                          refine r_iadd C dX6_house_132 ?_
                          refine r_bipush C 50 rfl dX6_house_133 ?_
                          refine r_iast C (((4) * (n)) + (3)) (by have t := (tA (tM (show (4 : Int32).toInt = 4 from rfl) (show (hI (sI h 12 0 0) 12 1).toInt = (n : Int) from hc) (by omega)) (show (3 : Int32).toInt = 3 from rfl) (by omega)); omega) (by omega) dX6_house_135 rfl (q_lt hs (by decide)) ?_
                          refine r_aload_n C rfl rfl dX6_house_136 ?_
                          refine r_getO C dX6_house_137 fl_X6_22 rfl rfl (q_lt hs (by decide)) (sh_12_6 hs) ?_
                          refine r_iload C rfl dX6_house_140 ?_
                          refine r_iload_n C rfl dX6_house_142 ?_
                          refine r_iast C (n) (by have t := (show (hI (sI h 12 0 0) 12 1).toInt = (n : Int) from hc); omega) (by omega) dX6_house_143 rfl (q_lt hs (by decide)) ?_
                          refine r_aload_n C rfl rfl dX6_house_144 ?_
                          refine r_getO C dX6_house_145 fl_X6_25 rfl rfl (q_lt hs (by decide)) (sh_12_7 hs) ?_
                          refine r_iload C rfl dX6_house_148 ?_
                          refine r_iload_n C rfl dX6_house_150 ?_
                          refine r_iast C (n) (by have t := (show (hI (sI h 12 0 0) 12 1).toInt = (n : Int) from hc); omega) (by omega) dX6_house_151 rfl (q_lt hs (by decide)) ?_
                          refine r_aload_n C rfl rfl dX6_house_152 ?_
                          refine r_dup C rfl dX6_house_153 ?_
                          refine r_getI C dX6_house_154 fl_X6_93 rfl (q_lt hs (by decide)) ?_
                          refine r_iconstv C 1 rfl dX6_house_157 ?_
                          refine r_iadd C dX6_house_158 ?_
                          refine r_putI C dX6_house_159 fl_X6_93 rfl (q_lt hs (by decide)) (Or.inl rfl) ?_
                          refine r_iload C rfl dX6_house_162 ?_
                          exact r_iret C dX6_house_164 rfl (Nat.le_refl _) rfl rfl)
                    · first
                      | (exfalso; omega)
                      |  (refine r_ldc C _ lc_X6_107 dX6_house_55 ?_
                          exact r_iret C dX6_house_57 rfl (Nat.le_refl _) rfl rfl))
              · first
                | (exfalso; omega)
                |  (refine r_ldc C _ lc_X6_106 dX6_house_43 ?_
                    exact r_iret C dX6_house_45 rfl (Nat.le_refl _) rfl rfl)))

