/-! a fill, the class -/
def g1 (h : oH) (b : Nat) (q : Int32) : oH := sI h b 1 (hI h b 1 - mn q (hI h b 1))
def g3 (h : oH) (q : Int32) : oH := sI h 0 10 (hI h 0 10 - q)
def g4 (h : oH) (q : Int32) : oH := sJ h 0 12 (hJ h 0 12 + q.toInt64)
def g5 (h : oH) (x : Int32) : oH := sJ h 0 13 (hJ h 0 13 + x.toInt64)
set_option maxHeartbeats 4000000 in
set_option maxRecDepth 100000 in
theorem c_fill (G : oG) {h : oH} {n : Nat} (hh : oHs h n) (v : Int32) {i : Nat} (hi : i < n) (hv : v.toInt = (i : Int)) (q : Int32) (hw : 0 ≤ (hI h (pid i) 0).toInt ∧ (hI h (pid i) 0).toInt ≤ 2) (hq : 0 ≤ q.toInt ∧ q.toInt ≤ (hI h (hid i) 2).toInt) (hd : q.toInt ≤ (hI h 0 10).toInt) {g2 : oH} (e2 : g2.1 = h.1) (sp : oSp G mX1_takeFill [.ref (hid i), .int q] (g1 h (pid i) q) none g2) : oSp G mX5_fill [.ref 0, .int v, .int q] h (some (.int (costC h (pid i) q (hI h 0 9)))) (g5 (g4 (g3 g2 q) q) (costC h (pid i) q (hI h 0 9))) := by
  refine oSp.intro [some (.ref 0), some (.int v), some (.int q), none, none] rfl (Nat.le_of_ble_eq_true rfl) (plainFor_of_name (by decide +kernel)) (by show h.1 ≤ g2.1; omega) ?_
  intro p l e R s m args below meth c C
  refine r_aload_n C rfl rfl dX5_fill_0 ?_
  refine r_iload_n C rfl dX5_fill_1 ?_
  refine r_callV C (sp_houseAt G (by exact hh) _ hi hv) kv_X5_houseAt kn_X5_houseAt rfl dX5_fill_2 cl_X5_77 ⟨Nat.le_of_ble_eq_true rfl, Nat.le_of_ble_eq_true rfl⟩ (by decide) rfl rfl (by first | exact (q_lt hh.1 (by decide)) | (show 0 < g2.1; rw [e2]; exact (q_lt hh.1 (by decide)))) (by show h.1 ≤ g2.1; omega) rfl (Nat.le_of_ble_eq_true rfl) ?_
  refine r_astore_n C rfl rfl (Nat.le_of_ble_eq_true rfl) dX5_fill_5 ?_
  refine r_aload_n C rfl rfl dX5_fill_6 ?_
  refine r_ifnull C dX5_fill_7 ?_
  refine r_iload_n C rfl dX5_fill_10 ?_
  refine r_iconstv C 0 rfl dX5_fill_11 ?_
  refine r_aload_n C rfl rfl dX5_fill_12 ?_
  refine r_getI C dX5_fill_13 fl_X5_161 (tg_hid i) (oHs.lt hh hi) ?_
  refine r_callS C (sp_isOutside G rfl (show (0 : Int32).toInt = 0 from rfl) rfl) ks_X5_isOutside kn_X5_isOutside rfl dX5_fill_16 cl_X5_68 ⟨Nat.le_of_ble_eq_true rfl, Nat.le_of_ble_eq_true rfl⟩ (by show h.1 ≤ g2.1; omega) rfl (Nat.le_of_ble_eq_true rfl) ?_
  refine t_ifb_eq C 25 (by decide) dX5_fill_19 (fun c19 => ?_) (fun c19 => ?_)
  · first
    | (exfalso; omega)
    |  (refine r_aload_n C rfl rfl dX5_fill_25 ?_
        refine r_getI C dX5_fill_26 fl_X5_55 rfl (by first | exact (q_lt hh.1 (by decide)) | (show 0 < g2.1; rw [e2]; exact (q_lt hh.1 (by decide)))) ?_
        refine r_iload_n C rfl dX5_fill_29 ?_
        refine t_icmp_ge C 36 (by decide) rfl rfl dX5_fill_30 (fun c30 => ?_) (fun c30 => ?_)
        · first
          | (exfalso; omega)
          |  (refine r_aload_n C rfl rfl dX5_fill_36 ?_
              refine r_getO C dX5_fill_37 fl_X5_164 rfl (tg_hid i) (oHs.lt hh hi) (oHs.pl hh hi) ?_
              refine r_iload_n C rfl dX5_fill_40 ?_
              refine r_aload_n C rfl rfl dX5_fill_41 ?_
              refine r_getI C dX5_fill_42 fl_X5_52 rfl (by first | exact (q_lt hh.1 (by decide)) | (show 0 < g2.1; rw [e2]; exact (q_lt hh.1 (by decide)))) ?_
              refine r_callV C (sp_costOf G (tg_pid i) (oHs.plt (by exact hh) hi) _ _ (by exact hw)) kv_X2_costOf kn_X2_costOf rfl dX5_fill_45 cl_X5_168 ⟨Nat.le_of_ble_eq_true rfl, Nat.le_of_ble_eq_true rfl⟩ (by decide) rfl (tg_pid i) (oHs.plt hh hi) (by show h.1 ≤ g2.1; omega) rfl (Nat.le_of_ble_eq_true rfl) ?_
              refine r_istore C rfl (Nat.le_of_ble_eq_true rfl) dX5_fill_48 ?_
              refine r_aload_n C rfl rfl dX5_fill_50 ?_
              refine r_getO C dX5_fill_51 fl_X5_164 rfl (tg_hid i) (oHs.lt hh hi) (oHs.pl hh hi) ?_
              refine r_iload_n C rfl dX5_fill_54 ?_
              refine r_callV C (sp_useUp G (tg_pid i) (oHs.plt (by exact hh) hi) q) kv_X2_useUp kn_X2_useUp rfl dX5_fill_55 cl_X5_174 ⟨Nat.le_of_ble_eq_true rfl, Nat.le_of_ble_eq_true rfl⟩ (by decide) rfl (tg_pid i) (oHs.plt hh hi) (by show h.1 ≤ g2.1; omega) rfl (Nat.le_of_ble_eq_true rfl) ?_
              refine oS_h (h2 := (g1 h (pid i) q)) rfl ?_
              refine r_aload_n C rfl rfl dX5_fill_58 ?_
              refine r_iload_n C rfl dX5_fill_59 ?_
              refine r_callV C sp kv_X1_takeFill kn_X1_takeFill rfl dX5_fill_60 cl_X5_177 ⟨Nat.le_of_ble_eq_true rfl, Nat.le_of_ble_eq_true rfl⟩ (by decide) rfl (tg_hid i) (oHs.lt hh hi) (Nat.le_refl _) rfl (Nat.le_of_ble_eq_true rfl) ?_
              refine r_aload_n C rfl rfl dX5_fill_63 ?_
              refine r_dup C rfl dX5_fill_64 ?_
              refine r_getI C dX5_fill_65 fl_X5_55 rfl (by first | exact (q_lt hh.1 (by decide)) | (show 0 < g2.1; rw [e2]; exact (q_lt hh.1 (by decide)))) ?_
              refine r_iload_n C rfl dX5_fill_68 ?_
              refine r_isub C dX5_fill_69 ?_
              refine r_putI C dX5_fill_70 fl_X5_55 rfl (by first | exact (q_lt hh.1 (by decide)) | (show 0 < g2.1; rw [e2]; exact (q_lt hh.1 (by decide)))) (Or.inl rfl) ?_
              refine oS_h (h2 := (g3 g2 q)) rfl ?_
              refine r_aload_n C rfl rfl dX5_fill_73 ?_
              refine r_dup C rfl dX5_fill_74 ?_
              refine r_getJ C dX5_fill_75 fl_X5_62 rfl (by first | exact (q_lt hh.1 (by decide)) | (show 0 < g2.1; rw [e2]; exact (q_lt hh.1 (by decide)))) ?_
              refine r_iload_n C rfl dX5_fill_78 ?_
              refine r_i2l C dX5_fill_79 ?_
              refine r_ladd C dX5_fill_80 ?_
              refine r_putJ C dX5_fill_81 fl_X5_62 rfl (by first | exact (q_lt hh.1 (by decide)) | (show 0 < g2.1; rw [e2]; exact (q_lt hh.1 (by decide)))) (Or.inl rfl) ?_
              refine oS_h (h2 := (g4 (g3 g2 q) q)) rfl ?_
              refine r_aload_n C rfl rfl dX5_fill_84 ?_
              refine r_dup C rfl dX5_fill_85 ?_
              refine r_getJ C dX5_fill_86 fl_X5_65 rfl (by first | exact (q_lt hh.1 (by decide)) | (show 0 < g2.1; rw [e2]; exact (q_lt hh.1 (by decide)))) ?_
              refine r_iload C rfl dX5_fill_89 ?_
              refine r_i2l C dX5_fill_91 ?_
              refine r_ladd C dX5_fill_92 ?_
              refine r_putJ C dX5_fill_93 fl_X5_65 rfl (by first | exact (q_lt hh.1 (by decide)) | (show 0 < g2.1; rw [e2]; exact (q_lt hh.1 (by decide)))) (Or.inl rfl) ?_
              refine oS_h (h2 := (g5 (g4 (g3 g2 q) q) (costC h (pid i) q (hI h 0 9)))) rfl ?_
              refine r_iload C rfl dX5_fill_96 ?_
              exact r_iret C dX5_fill_98 rfl (Nat.le_refl _) rfl rfl)
        · first
          | (exfalso; omega)
          |  (refine r_ldc C _ lc_X5_87 dX5_fill_33 ?_
              exact r_iret C dX5_fill_35 rfl (Nat.le_refl _) rfl rfl))
  · first
    | (exfalso; omega)
    |  (refine r_ldc C _ lc_X5_72 dX5_fill_22 ?_
        exact r_iret C dX5_fill_24 rfl (Nat.le_refl _) rfl rfl)

set_option maxHeartbeats 4000000 in
set_option maxRecDepth 100000 in
theorem c_fillD (G : oG) {h : oH} {n : Nat} (hh : oHs h n) (v : Int32) {i : Nat} (hi : i < n) (hv : v.toInt = (i : Int)) (q : Int32) (hw : 0 ≤ (hI h (pid i) 0).toInt ∧ (hI h (pid i) 0).toInt ≤ 2) (hq : 0 ≤ q.toInt ∧ q.toInt ≤ (hI h (hid i) 2).toInt) (hd : ¬ q.toInt ≤ (hI h 0 10).toInt) : oSp G mX5_fill [.ref 0, .int v, .int q] h (some (.int (-1000002))) h := by
  refine oSp.intro [some (.ref 0), some (.int v), some (.int q), none, none] rfl (Nat.le_of_ble_eq_true rfl) (plainFor_of_name (by decide +kernel)) (Nat.le_refl _) ?_
  intro p l e R s m args below meth c C
  refine r_aload_n C rfl rfl dX5_fill_0 ?_
  refine r_iload_n C rfl dX5_fill_1 ?_
  refine r_callV C (sp_houseAt G (by exact hh) _ hi hv) kv_X5_houseAt kn_X5_houseAt rfl dX5_fill_2 cl_X5_77 ⟨Nat.le_of_ble_eq_true rfl, Nat.le_of_ble_eq_true rfl⟩ (by decide) rfl rfl (q_lt hh.1 (by decide)) (Nat.le_refl _) rfl (Nat.le_of_ble_eq_true rfl) ?_
  refine r_astore_n C rfl rfl (Nat.le_of_ble_eq_true rfl) dX5_fill_5 ?_
  refine r_aload_n C rfl rfl dX5_fill_6 ?_
  refine r_ifnull C dX5_fill_7 ?_
  refine r_iload_n C rfl dX5_fill_10 ?_
  refine r_iconstv C 0 rfl dX5_fill_11 ?_
  refine r_aload_n C rfl rfl dX5_fill_12 ?_
  refine r_getI C dX5_fill_13 fl_X5_161 (tg_hid i) (oHs.lt hh hi) ?_
  refine r_callS C (sp_isOutside G rfl (show (0 : Int32).toInt = 0 from rfl) rfl) ks_X5_isOutside kn_X5_isOutside rfl dX5_fill_16 cl_X5_68 ⟨Nat.le_of_ble_eq_true rfl, Nat.le_of_ble_eq_true rfl⟩ (Nat.le_refl _) rfl (Nat.le_of_ble_eq_true rfl) ?_
  refine t_ifb_eq C 25 (by decide) dX5_fill_19 (fun c19 => ?_) (fun c19 => ?_)
  · first
    | (exfalso; omega)
    |  (refine r_aload_n C rfl rfl dX5_fill_25 ?_
        refine r_getI C dX5_fill_26 fl_X5_55 rfl (q_lt hh.1 (by decide)) ?_
        refine r_iload_n C rfl dX5_fill_29 ?_
        refine t_icmp_ge C 36 (by decide) rfl rfl dX5_fill_30 (fun c30 => ?_) (fun c30 => ?_)
        · first
          | (exfalso; omega)
          |  (refine r_aload_n C rfl rfl dX5_fill_36 ?_
              refine r_getO C dX5_fill_37 fl_X5_164 rfl (tg_hid i) (oHs.lt hh hi) (oHs.pl hh hi) ?_
              refine r_iload_n C rfl dX5_fill_40 ?_
              refine r_aload_n C rfl rfl dX5_fill_41 ?_
              refine r_getI C dX5_fill_42 fl_X5_52 rfl (q_lt hh.1 (by decide)) ?_
              refine r_callV C (sp_costOf G (tg_pid i) (oHs.plt (by exact hh) hi) _ _ (by exact hw)) kv_X2_costOf kn_X2_costOf rfl dX5_fill_45 cl_X5_168 ⟨Nat.le_of_ble_eq_true rfl, Nat.le_of_ble_eq_true rfl⟩ (by decide) rfl (tg_pid i) (oHs.plt hh hi) (Nat.le_refl _) rfl (Nat.le_of_ble_eq_true rfl) ?_
              refine r_istore C rfl (Nat.le_of_ble_eq_true rfl) dX5_fill_48 ?_
              refine r_aload_n C rfl rfl dX5_fill_50 ?_
              refine r_getO C dX5_fill_51 fl_X5_164 rfl (tg_hid i) (oHs.lt hh hi) (oHs.pl hh hi) ?_
              refine r_iload_n C rfl dX5_fill_54 ?_
              refine r_callV C (sp_useUp G (tg_pid i) (oHs.plt (by exact hh) hi) q) kv_X2_useUp kn_X2_useUp rfl dX5_fill_55 cl_X5_174 ⟨Nat.le_of_ble_eq_true rfl, Nat.le_of_ble_eq_true rfl⟩ (by decide) rfl (tg_pid i) (oHs.plt hh hi) (Nat.le_refl _) rfl (Nat.le_of_ble_eq_true rfl) ?_
              refine r_aload_n C rfl rfl dX5_fill_58 ?_
              refine r_iload_n C rfl dX5_fill_59 ?_
              refine r_callV C (absurd trivial hd) kv_X1_takeFill kn_X1_takeFill rfl dX5_fill_60 cl_X5_177 ⟨Nat.le_of_ble_eq_true rfl, Nat.le_of_ble_eq_true rfl⟩ (by decide) rfl (tg_hid i) (oHs.lt hh hi) (Nat.le_refl _) rfl (Nat.le_of_ble_eq_true rfl) ?_
              refine r_aload_n C rfl rfl dX5_fill_63 ?_
              refine r_dup C rfl dX5_fill_64 ?_
              refine r_getI C dX5_fill_65 fl_X5_55 rfl (q_lt hh.1 (by decide)) ?_
              refine r_iload_n C rfl dX5_fill_68 ?_
              refine r_isub C dX5_fill_69 ?_
              refine r_putI C dX5_fill_70 fl_X5_55 rfl (q_lt hh.1 (by decide)) (Or.inl rfl) ?_
              refine r_aload_n C rfl rfl dX5_fill_73 ?_
              refine r_dup C rfl dX5_fill_74 ?_
              refine r_getJ C dX5_fill_75 fl_X5_62 rfl (q_lt hh.1 (by decide)) ?_
              refine r_iload_n C rfl dX5_fill_78 ?_
              refine r_i2l C dX5_fill_79 ?_
              refine r_ladd C dX5_fill_80 ?_
              refine r_putJ C dX5_fill_81 fl_X5_62 rfl (q_lt hh.1 (by decide)) (Or.inl rfl) ?_
              refine r_aload_n C rfl rfl dX5_fill_84 ?_
              refine r_dup C rfl dX5_fill_85 ?_
              refine r_getJ C dX5_fill_86 fl_X5_65 rfl (q_lt hh.1 (by decide)) ?_
              refine r_iload C rfl dX5_fill_89 ?_
              refine r_i2l C dX5_fill_91 ?_
              refine r_ladd C dX5_fill_92 ?_
              refine r_putJ C dX5_fill_93 fl_X5_65 rfl (q_lt hh.1 (by decide)) (Or.inl rfl) ?_
              refine r_iload C rfl dX5_fill_96 ?_
              exact r_iret C dX5_fill_98 rfl (Nat.le_refl _) rfl rfl)
        · first
          | (exfalso; omega)
          |  (refine r_ldc C _ lc_X5_87 dX5_fill_33 ?_
              exact r_iret C dX5_fill_35 rfl (Nat.le_refl _) rfl rfl))
  · first
    | (exfalso; omega)
    |  (refine r_ldc C _ lc_X5_72 dX5_fill_22 ?_
        exact r_iret C dX5_fill_24 rfl (Nat.le_refl _) rfl rfl)

set_option maxHeartbeats 4000000 in
set_option maxRecDepth 100000 in
theorem c_fillX (G : oG) {h : oH} {n : Nat} (hh : oHs h n) (v : Int32) {i : Nat} (hi : i < n) (hv : v.toInt = (i : Int)) (q : Int32) (hw : 0 ≤ (hI h (pid i) 0).toInt ∧ (hI h (pid i) 0).toInt ≤ 2) (hq : ¬ (0 ≤ q.toInt ∧ q.toInt ≤ (hI h (hid i) 2).toInt)) : oSp G mX5_fill [.ref 0, .int v, .int q] h (some (.int (-1000001))) h := by
  refine oSp.intro [some (.ref 0), some (.int v), some (.int q), none, none] rfl (Nat.le_of_ble_eq_true rfl) (plainFor_of_name (by decide +kernel)) (Nat.le_refl _) ?_
  intro p l e R s m args below meth c C
  refine r_aload_n C rfl rfl dX5_fill_0 ?_
  refine r_iload_n C rfl dX5_fill_1 ?_
  refine r_callV C (sp_houseAt G (by exact hh) _ hi hv) kv_X5_houseAt kn_X5_houseAt rfl dX5_fill_2 cl_X5_77 ⟨Nat.le_of_ble_eq_true rfl, Nat.le_of_ble_eq_true rfl⟩ (by decide) rfl rfl (q_lt hh.1 (by decide)) (Nat.le_refl _) rfl (Nat.le_of_ble_eq_true rfl) ?_
  refine r_astore_n C rfl rfl (Nat.le_of_ble_eq_true rfl) dX5_fill_5 ?_
  refine r_aload_n C rfl rfl dX5_fill_6 ?_
  refine r_ifnull C dX5_fill_7 ?_
  refine r_iload_n C rfl dX5_fill_10 ?_
  refine r_iconstv C 0 rfl dX5_fill_11 ?_
  refine r_aload_n C rfl rfl dX5_fill_12 ?_
  refine r_getI C dX5_fill_13 fl_X5_161 (tg_hid i) (oHs.lt hh hi) ?_
  refine r_callS C (sp_isOutside G rfl (show (0 : Int32).toInt = 0 from rfl) rfl) ks_X5_isOutside kn_X5_isOutside rfl dX5_fill_16 cl_X5_68 ⟨Nat.le_of_ble_eq_true rfl, Nat.le_of_ble_eq_true rfl⟩ (Nat.le_refl _) rfl (Nat.le_of_ble_eq_true rfl) ?_
  refine t_ifb_eq C 25 (by decide) dX5_fill_19 (fun c19 => ?_) (fun c19 => ?_)
  · first
    | (exfalso; omega)
    |  (refine r_aload_n C rfl rfl dX5_fill_25 ?_
        refine r_getI C dX5_fill_26 fl_X5_55 rfl (q_lt hh.1 (by decide)) ?_
        refine r_iload_n C rfl dX5_fill_29 ?_
        refine t_icmp_ge C 36 (by decide) rfl rfl dX5_fill_30 (fun c30 => ?_) (fun c30 => ?_)
        · first
          | (exfalso; omega)
          |  (refine r_aload_n C rfl rfl dX5_fill_36 ?_
              refine r_getO C dX5_fill_37 fl_X5_164 rfl (tg_hid i) (oHs.lt hh hi) (oHs.pl hh hi) ?_
              refine r_iload_n C rfl dX5_fill_40 ?_
              refine r_aload_n C rfl rfl dX5_fill_41 ?_
              refine r_getI C dX5_fill_42 fl_X5_52 rfl (q_lt hh.1 (by decide)) ?_
              refine r_callV C (sp_costOf G (tg_pid i) (oHs.plt (by exact hh) hi) _ _ (by exact hw)) kv_X2_costOf kn_X2_costOf rfl dX5_fill_45 cl_X5_168 ⟨Nat.le_of_ble_eq_true rfl, Nat.le_of_ble_eq_true rfl⟩ (by decide) rfl (tg_pid i) (oHs.plt hh hi) (Nat.le_refl _) rfl (Nat.le_of_ble_eq_true rfl) ?_
              refine r_istore C rfl (Nat.le_of_ble_eq_true rfl) dX5_fill_48 ?_
              refine r_aload_n C rfl rfl dX5_fill_50 ?_
              refine r_getO C dX5_fill_51 fl_X5_164 rfl (tg_hid i) (oHs.lt hh hi) (oHs.pl hh hi) ?_
              refine r_iload_n C rfl dX5_fill_54 ?_
              refine r_callV C (sp_useUp G (tg_pid i) (oHs.plt (by exact hh) hi) q) kv_X2_useUp kn_X2_useUp rfl dX5_fill_55 cl_X5_174 ⟨Nat.le_of_ble_eq_true rfl, Nat.le_of_ble_eq_true rfl⟩ (by decide) rfl (tg_pid i) (oHs.plt hh hi) (Nat.le_refl _) rfl (Nat.le_of_ble_eq_true rfl) ?_
              refine r_aload_n C rfl rfl dX5_fill_58 ?_
              refine r_iload_n C rfl dX5_fill_59 ?_
              refine r_callV C (absurd trivial hq) kv_X1_takeFill kn_X1_takeFill rfl dX5_fill_60 cl_X5_177 ⟨Nat.le_of_ble_eq_true rfl, Nat.le_of_ble_eq_true rfl⟩ (by decide) rfl (tg_hid i) (oHs.lt hh hi) (Nat.le_refl _) rfl (Nat.le_of_ble_eq_true rfl) ?_
              refine r_aload_n C rfl rfl dX5_fill_63 ?_
              refine r_dup C rfl dX5_fill_64 ?_
              refine r_getI C dX5_fill_65 fl_X5_55 rfl (q_lt hh.1 (by decide)) ?_
              refine r_iload_n C rfl dX5_fill_68 ?_
              refine r_isub C dX5_fill_69 ?_
              refine r_putI C dX5_fill_70 fl_X5_55 rfl (q_lt hh.1 (by decide)) (Or.inl rfl) ?_
              refine r_aload_n C rfl rfl dX5_fill_73 ?_
              refine r_dup C rfl dX5_fill_74 ?_
              refine r_getJ C dX5_fill_75 fl_X5_62 rfl (q_lt hh.1 (by decide)) ?_
              refine r_iload_n C rfl dX5_fill_78 ?_
              refine r_i2l C dX5_fill_79 ?_
              refine r_ladd C dX5_fill_80 ?_
              refine r_putJ C dX5_fill_81 fl_X5_62 rfl (q_lt hh.1 (by decide)) (Or.inl rfl) ?_
              refine r_aload_n C rfl rfl dX5_fill_84 ?_
              refine r_dup C rfl dX5_fill_85 ?_
              refine r_getJ C dX5_fill_86 fl_X5_65 rfl (q_lt hh.1 (by decide)) ?_
              refine r_iload C rfl dX5_fill_89 ?_
              refine r_i2l C dX5_fill_91 ?_
              refine r_ladd C dX5_fill_92 ?_
              refine r_putJ C dX5_fill_93 fl_X5_65 rfl (q_lt hh.1 (by decide)) (Or.inl rfl) ?_
              refine r_iload C rfl dX5_fill_96 ?_
              exact r_iret C dX5_fill_98 rfl (Nat.le_refl _) rfl rfl)
        · first
          | (exfalso; omega)
          |  (refine r_ldc C _ lc_X5_87 dX5_fill_33 ?_
              exact r_iret C dX5_fill_35 rfl (Nat.le_refl _) rfl rfl))
  · first
    | (exfalso; omega)
    |  (refine r_ldc C _ lc_X5_72 dX5_fill_22 ?_
        exact r_iret C dX5_fill_24 rfl (Nat.le_refl _) rfl rfl)

set_option maxHeartbeats 4000000 in
set_option maxRecDepth 100000 in
theorem c_fillN (G : oG) {h : oH} {n : Nat} (hh : oHs h n) (v : Int32) (hv : ¬ (0 ≤ v.toInt ∧ v.toInt < n)) (q : Int32) : oSp G mX5_fill [.ref 0, .int v, .int q] h (some (.int (-1000001))) h := by
  refine oSp.intro [some (.ref 0), some (.int v), some (.int q), none, none] rfl (Nat.le_of_ble_eq_true rfl) (plainFor_of_name (by decide +kernel)) (Nat.le_refl _) ?_
  intro p l e R s m args below meth c C
  refine r_aload_n C rfl rfl dX5_fill_0 ?_
  refine r_iload_n C rfl dX5_fill_1 ?_
  refine r_callV C (sp_houseAtN G (by exact hh) _ hv) kv_X5_houseAt kn_X5_houseAt rfl dX5_fill_2 cl_X5_77 ⟨Nat.le_of_ble_eq_true rfl, Nat.le_of_ble_eq_true rfl⟩ (by decide) rfl rfl (q_lt hh.1 (by decide)) (Nat.le_refl _) rfl (Nat.le_of_ble_eq_true rfl) ?_
  refine r_astore_n C rfl rfl (Nat.le_of_ble_eq_true rfl) dX5_fill_5 ?_
  refine r_aload_n C rfl rfl dX5_fill_6 ?_
  refine r_ifnullN C 22 (by decide) dX5_fill_7 ?_
  refine r_ldc C _ lc_X5_72 dX5_fill_22 ?_
  exact r_iret C dX5_fill_24 rfl (Nat.le_refl _) rfl rfl

