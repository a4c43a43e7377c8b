/-! asks: what a body leaves in the trace, on both sides -/
def pC (h : oH) (z : Nat) (v : Int32) : oH := sI (sI h 11 z v) 10 1 (nI (z + 1))
def pM (h : oH) (z : Nat) (v : Int32) : oH := sI (sI h 34 z v) 12 44 (nI (z + 1))
theorem pC_o {h : oH} {z a k : Nat} {v : Int32} (h1 : a ≠ 10) (h2 : a ≠ 11) : hI (pC h z v) a k = hI h a k := by
  unfold pC
  rw [hI_sI, if_neg (fun q => h1 q.1), hI_sI, if_neg (fun q => h2 q.1)]
theorem pM_o {h : oH} {z a k : Nat} {v : Int32} (h1 : a ≠ 12) (h2 : a ≠ 34) : hI (pM h z v) a k = hI h a k := by
  unfold pM
  rw [hI_sI, if_neg (fun q => h1 q.1), hI_sI, if_neg (fun q => h2 q.1)]
set_option maxHeartbeats 4000000 in
set_option maxRecDepth 100000 in
theorem sp_begin (G : oG) {h : oH} (hs : oSh h) {z : Nat} (hz : hI h 10 1 = nI z) (hl : z < 16) (v : Int32) : oSp G mX0_begin [.ref 10, .int v] h none (pC h z v) := by
  refine oSp.intro [some (.ref 10), some (.int v)] rfl (Nat.le_of_ble_eq_true rfl) (plainFor_of_name (by decide +kernel)) (Nat.le_refl _) ?_
  intro p l e R s m args below meth c C
  refine r_aload_n C rfl rfl dX0_begin_0 ?_
  refine r_getI C dX0_begin_1 fl_X0_15 rfl (q_lt hs (by decide)) ?_
  refine t_if_lt C 19 (by decide) (show (hI h 10 1).toInt = (z : Int) by rw [hz]; exact nI_toInt (by omega)) dX0_begin_4 (fun c4 => absurd c4 (by omega)) (fun c4 => ?_)
  refine r_aload_n C rfl rfl dX0_begin_7 ?_
  refine r_getI C dX0_begin_8 fl_X0_15 rfl (q_lt hs (by decide)) ?_
  refine r_aload_n C rfl rfl dX0_begin_11 ?_
  refine r_getO C dX0_begin_12 fl_X0_9 rfl rfl (q_lt hs (by decide)) (sh_10_0 hs) ?_
  refine r_alen C 16 dX0_begin_15 rfl (by decide) (q_lt hs (by decide)) rfl ?_
  refine t_icmp_lt C 20 (by decide) (show (hI h 10 1).toInt = (z : Int) by rw [hz]; exact nI_toInt (by omega)) (show (16 : Int32).toInt = 16 from rfl) dX0_begin_16 (fun c16 => ?_) (fun c16 => absurd c16 (by omega))
  refine r_aload_n C rfl rfl dX0_begin_20 ?_
  refine r_getO C dX0_begin_21 fl_X0_9 rfl rfl (q_lt hs (by decide)) (sh_10_0 hs) ?_
  refine r_aload_n C rfl rfl dX0_begin_24 ?_
  refine r_getI C dX0_begin_25 fl_X0_15 rfl (q_lt hs (by decide)) ?_
  refine r_iload_n C rfl dX0_begin_28 ?_
  refine r_iast C (z) (by have t := (show (hI h 10 1).toInt = (z : Int) by rw [hz]; exact nI_toInt (by omega)); omega) (by omega) dX0_begin_29 rfl (q_lt hs (by decide)) ?_
  refine r_aload_n C rfl rfl dX0_begin_30 ?_
  refine r_dup C rfl dX0_begin_31 ?_
  refine r_getI C dX0_begin_32 fl_X0_15 rfl (q_lt hs (by decide)) ?_
  refine r_iconstv C 1 rfl dX0_begin_35 ?_
  refine r_iadd C dX0_begin_36 ?_
  refine r_putI C dX0_begin_37 fl_X0_15 rfl (q_lt hs (by decide)) (Or.inl rfl) ?_
  exact r_vret C dX0_begin_40 rfl (Nat.le_refl _) (by show _ = sI (sI h 11 z v) 10 1 (hI h 10 1 + 1); rw [hz]; exact congrArg (sI _ 10 1) (nI_succ z))

set_option maxHeartbeats 4000000 in
set_option maxRecDepth 100000 in
theorem sp_empty (G : oG) {h : oH} (hs : oSh h) : oSp G mX0_emptyTrace [.ref 10] h none (sI h 10 1 0) := by
  refine oSp.intro [some (.ref 10)] rfl (Nat.le_of_ble_eq_true rfl) (plainFor_of_name (by decide +kernel)) (Nat.le_refl _) ?_
  intro p l e R s m args below meth c C
  refine r_aload_n C rfl rfl dX0_emptyTrace_0 ?_
  refine r_iconstv C 0 rfl dX0_emptyTrace_1 ?_
  refine r_putI C dX0_emptyTrace_2 fl_X0_15 rfl (q_lt hs (by decide)) (Or.inl rfl) ?_
  exact r_vret C dX0_emptyTrace_5 rfl (Nat.le_refl _) rfl

set_option maxHeartbeats 4000000 in
set_option maxRecDepth 100000 in
theorem sp_lentW (G : oG) {h : oH} (hs : oSh h) {a : Nat} (ta : tg a = (0, 1)) (la : a < h.1) (h35 : 35 ≤ a) {z : Nat} (hz : hI h 10 1 = nI z) (hl : z + 0 < 16) : oSp G mX0_lentWeight [.ref 10, .ref a] h (some (.int (hI h a 8 - hI h a 9))) (pC h z 10) := by
  refine oSp.intro [some (.ref 10), some (.ref a)] rfl (Nat.le_of_ble_eq_true rfl) (plainFor_of_name (by decide +kernel)) (Nat.le_refl _) ?_
  intro p l e R s m args below meth c C
  refine r_aload_n C rfl rfl dX0_lentWeight_0 ?_
  refine r_bipush C 10 rfl dX0_lentWeight_1 ?_
  refine r_callV C (sp_begin G (by exact hs) (by exact hz) (by omega) _) kv_X0_begin kn_X0_begin rfl dX0_lentWeight_3 cl_X0_48 ⟨Nat.le_of_ble_eq_true rfl, Nat.le_of_ble_eq_true rfl⟩ (by decide) rfl rfl (q_lt hs (by decide)) (Nat.le_refl _) rfl (Nat.le_of_ble_eq_true rfl) ?_
  refine r_aload_n C rfl rfl dX0_lentWeight_6 ?_
  refine r_getI C dX0_lentWeight_7 fl_X0_52 ta la ?_
  refine r_aload_n C rfl rfl dX0_lentWeight_10 ?_
  refine r_getI C dX0_lentWeight_11 fl_X0_55 ta la ?_
  refine r_isub C dX0_lentWeight_14 ?_
  exact r_iret C dX0_lentWeight_15 rfl (Nat.le_refl _) (by simp only [pC_o (show a ≠ 10 by omega) (show a ≠ 11 by omega)]) rfl

set_option maxHeartbeats 4000000 in
set_option maxRecDepth 100000 in
theorem sp_knownW (G : oG) {h : oH} (hs : oSh h) {a : Nat} (ta : tg a = (0, 1)) (la : a < h.1) (h35 : 35 ≤ a) {z : Nat} (hz : hI h 10 1 = nI z) (hl : z + 1 < 16) : oSp G mX0_knownWeight [.ref 10, .ref a] h (some (.int (hI h a 8 - hI h a 9 + hI h a 10))) (pC (pC h z 11) (z + 1) 10) := by
  refine oSp.intro [some (.ref 10), some (.ref a)] rfl (Nat.le_of_ble_eq_true rfl) (plainFor_of_name (by decide +kernel)) (Nat.le_refl _) ?_
  intro p l e R s m args below meth c C
  refine r_aload_n C rfl rfl dX0_knownWeight_0 ?_
  refine r_bipush C 11 rfl dX0_knownWeight_1 ?_
  refine r_callV C (sp_begin G (by exact hs) (by exact hz) (by omega) _) kv_X0_begin kn_X0_begin rfl dX0_knownWeight_3 cl_X0_48 ⟨Nat.le_of_ble_eq_true rfl, Nat.le_of_ble_eq_true rfl⟩ (by decide) rfl rfl (q_lt hs (by decide)) (Nat.le_refl _) rfl (Nat.le_of_ble_eq_true rfl) ?_
  refine r_aload_n C rfl rfl dX0_knownWeight_6 ?_
  refine r_aload_n C rfl rfl dX0_knownWeight_7 ?_
  refine r_callV C (sp_lentW G (by exact hs) ta (by exact la) h35 (by exact rfl) (by omega)) kv_X0_lentWeight kn_X0_lentWeight rfl dX0_knownWeight_8 cl_X0_36 ⟨Nat.le_of_ble_eq_true rfl, Nat.le_of_ble_eq_true rfl⟩ (by decide) rfl rfl (q_lt hs (by decide)) (Nat.le_refl _) rfl (Nat.le_of_ble_eq_true rfl) ?_
  refine r_aload_n C rfl rfl dX0_knownWeight_11 ?_
  refine r_getI C dX0_knownWeight_12 fl_X0_58 ta la ?_
  refine r_iadd C dX0_knownWeight_15 ?_
  exact r_iret C dX0_knownWeight_16 rfl (Nat.le_refl _) (by simp only [pC_o (show a ≠ 10 by omega) (show a ≠ 11 by omega)]) rfl

set_option maxHeartbeats 4000000 in
set_option maxRecDepth 100000 in
theorem sp_steadyW (G : oG) {h : oH} (hs : oSh h) {a : Nat} (ta : tg a = (0, 1)) (la : a < h.1) (h35 : 35 ≤ a) {z : Nat} (hz : hI h 10 1 = nI z) (hl : z + 2 < 16) : oSp G mX0_steadyWeight [.ref 10, .ref a] h (some (.int (hI h a 8 - hI h a 9 + hI h a 10 + hI h a 4))) (pC (pC (pC h z 12) (z + 1) 11) (z + 2) 10) := by
  refine oSp.intro [some (.ref 10), some (.ref a)] rfl (Nat.le_of_ble_eq_true rfl) (plainFor_of_name (by decide +kernel)) (Nat.le_refl _) ?_
  intro p l e R s m args below meth c C
  refine r_aload_n C rfl rfl dX0_steadyWeight_0 ?_
  refine r_bipush C 12 rfl dX0_steadyWeight_1 ?_
  refine r_callV C (sp_begin G (by exact hs) (by exact hz) (by omega) _) kv_X0_begin kn_X0_begin rfl dX0_steadyWeight_3 cl_X0_48 ⟨Nat.le_of_ble_eq_true rfl, Nat.le_of_ble_eq_true rfl⟩ (by decide) rfl rfl (q_lt hs (by decide)) (Nat.le_refl _) rfl (Nat.le_of_ble_eq_true rfl) ?_
  refine r_aload_n C rfl rfl dX0_steadyWeight_6 ?_
  refine r_aload_n C rfl rfl dX0_steadyWeight_7 ?_
  refine r_callV C (sp_knownW G (by exact hs) ta (by exact la) h35 (by exact rfl) (by omega)) kv_X0_knownWeight kn_X0_knownWeight rfl dX0_steadyWeight_8 cl_X0_33 ⟨Nat.le_of_ble_eq_true rfl, Nat.le_of_ble_eq_true rfl⟩ (by decide) rfl rfl (q_lt hs (by decide)) (Nat.le_refl _) rfl (Nat.le_of_ble_eq_true rfl) ?_
  refine r_aload_n C rfl rfl dX0_steadyWeight_11 ?_
  refine r_getI C dX0_steadyWeight_12 fl_X0_61 ta la ?_
  refine r_iadd C dX0_steadyWeight_15 ?_
  exact r_iret C dX0_steadyWeight_16 rfl (Nat.le_refl _) (by simp only [pC_o (show a ≠ 10 by omega) (show a ≠ 11 by omega)]) rfl

set_option maxHeartbeats 4000000 in
set_option maxRecDepth 100000 in
theorem sp_leakyW (G : oG) {h : oH} (hs : oSh h) {a : Nat} (ta : tg a = (0, 1)) (la : a < h.1) (h35 : 35 ≤ a) {z : Nat} (hz : hI h 10 1 = nI z) (hl : z + 1 < 16) : oSp G mX0_leakyWeight [.ref 10, .ref a] h (some (.int (hI h a 8 - hI h a 9 + 5000))) (pC (pC h z 13) (z + 1) 10) := by
  refine oSp.intro [some (.ref 10), some (.ref a)] rfl (Nat.le_of_ble_eq_true rfl) (plainFor_of_name (by decide +kernel)) (Nat.le_refl _) ?_
  intro p l e R s m args below meth c C
  refine r_aload_n C rfl rfl dX0_leakyWeight_0 ?_
  refine r_bipush C 13 rfl dX0_leakyWeight_1 ?_
  refine r_callV C (sp_begin G (by exact hs) (by exact hz) (by omega) _) kv_X0_begin kn_X0_begin rfl dX0_leakyWeight_3 cl_X0_48 ⟨Nat.le_of_ble_eq_true rfl, Nat.le_of_ble_eq_true rfl⟩ (by decide) rfl rfl (q_lt hs (by decide)) (Nat.le_refl _) rfl (Nat.le_of_ble_eq_true rfl) ?_
  refine r_aload_n C rfl rfl dX0_leakyWeight_6 ?_
  refine r_aload_n C rfl rfl dX0_leakyWeight_7 ?_
  refine r_callV C (sp_lentW G (by exact hs) ta (by exact la) h35 (by exact rfl) (by omega)) kv_X0_lentWeight kn_X0_lentWeight rfl dX0_leakyWeight_8 cl_X0_36 ⟨Nat.le_of_ble_eq_true rfl, Nat.le_of_ble_eq_true rfl⟩ (by decide) rfl rfl (q_lt hs (by decide)) (Nat.le_refl _) rfl (Nat.le_of_ble_eq_true rfl) ?_
  refine r_sipush C 5000 rfl dX0_leakyWeight_11 ?_
  refine r_iadd C dX0_leakyWeight_14 ?_
  exact r_iret C dX0_leakyWeight_15 rfl (Nat.le_refl _) (by simp only [pC_o (show a ≠ 10 by omega) (show a ≠ 11 by omega)]) rfl

set_option maxHeartbeats 4000000 in
set_option maxRecDepth 100000 in
theorem sp_weight0 (G : oG) {h : oH} (hs : oSh h) {a : Nat} (ta : tg a = (0, 1)) (la : a < h.1) (h35 : 35 ≤ a) {z : Nat} (hz : hI h 10 1 = nI z) (hl : z + 0 < 16) (hk : tkC h a = 0) : oSp G mX0_weight [.ref 10, .ref a] h (some (.int (hI h a 8 - hI h a 9))) (pC h z 10) := by
  refine oSp.intro [some (.ref 10), some (.ref a)] rfl (Nat.le_of_ble_eq_true rfl) (plainFor_of_name (by decide +kernel)) (Nat.le_refl _) ?_
  intro p l e R s m args below meth c C
  refine r_aload_n C rfl rfl dX0_weight_0 ?_
  refine r_callV C (sp_toldKind G ta (by exact la)) kv_X1_toldKind kn_X1_toldKind rfl dX0_weight_1 cl_X0_20 ⟨Nat.le_of_ble_eq_true rfl, Nat.le_of_ble_eq_true rfl⟩ (by decide) rfl ta la (Nat.le_refl _) rfl (Nat.le_of_ble_eq_true rfl) ?_
  refine r_tableOut C 50 (by rw [show (tkC h a).toInt = 0 by rw [hk]; rfl]; decide) (by decide) dX0_weight_4 ?_
  refine r_aload_n C rfl rfl dX0_weight_50 ?_
  refine r_aload_n C rfl rfl dX0_weight_51 ?_
  refine r_callV C (sp_lentW G (by exact hs) ta (by exact la) h35 (by exact hz) (by omega)) kv_X0_lentWeight kn_X0_lentWeight rfl dX0_weight_52 cl_X0_36 ⟨Nat.le_of_ble_eq_true rfl, Nat.le_of_ble_eq_true rfl⟩ (by decide) rfl rfl (q_lt hs (by decide)) (Nat.le_refl _) rfl (Nat.le_of_ble_eq_true rfl) ?_
  exact r_iret C dX0_weight_55 rfl (Nat.le_refl _) rfl rfl

set_option maxHeartbeats 4000000 in
set_option maxRecDepth 100000 in
theorem sp_weight1 (G : oG) {h : oH} (hs : oSh h) {a : Nat} (ta : tg a = (0, 1)) (la : a < h.1) (h35 : 35 ≤ a) {z : Nat} (hz : hI h 10 1 = nI z) (hl : z + 1 < 16) (hk : tkC h a = 1) : oSp G mX0_weight [.ref 10, .ref a] h (some (.int (hI h a 8 - hI h a 9 + hI h a 10))) (pC (pC h z 11) (z + 1) 10) := by
  refine oSp.intro [some (.ref 10), some (.ref a)] rfl (Nat.le_of_ble_eq_true rfl) (plainFor_of_name (by decide +kernel)) (Nat.le_refl _) ?_
  intro p l e R s m args below meth c C
  refine r_aload_n C rfl rfl dX0_weight_0 ?_
  refine r_callV C (sp_toldKind G ta (by exact la)) kv_X1_toldKind kn_X1_toldKind rfl dX0_weight_1 cl_X0_20 ⟨Nat.le_of_ble_eq_true rfl, Nat.le_of_ble_eq_true rfl⟩ (by decide) rfl ta la (Nat.le_refl _) rfl (Nat.le_of_ble_eq_true rfl) ?_
  refine r_tableIn C 44 (by rw [show (tkC h a).toInt = 1 by rw [hk]; rfl]; decide) (by rw [show (tkC h a).toInt = 1 by rw [hk]; rfl]; decide) (by rw [show (tkC h a).toInt = 1 by rw [hk]; rfl]; rfl) (by decide) dX0_weight_4 ?_
  refine r_aload_n C rfl rfl dX0_weight_44 ?_
  refine r_aload_n C rfl rfl dX0_weight_45 ?_
  refine r_callV C (sp_knownW G (by exact hs) ta (by exact la) h35 (by exact hz) (by omega)) kv_X0_knownWeight kn_X0_knownWeight rfl dX0_weight_46 cl_X0_33 ⟨Nat.le_of_ble_eq_true rfl, Nat.le_of_ble_eq_true rfl⟩ (by decide) rfl rfl (q_lt hs (by decide)) (Nat.le_refl _) rfl (Nat.le_of_ble_eq_true rfl) ?_
  exact r_iret C dX0_weight_49 rfl (Nat.le_refl _) rfl rfl

set_option maxHeartbeats 4000000 in
set_option maxRecDepth 100000 in
theorem sp_weight2 (G : oG) {h : oH} (hs : oSh h) {a : Nat} (ta : tg a = (0, 1)) (la : a < h.1) (h35 : 35 ≤ a) {z : Nat} (hz : hI h 10 1 = nI z) (hl : z + 2 < 16) (hk : tkC h a = 2) : oSp G mX0_weight [.ref 10, .ref a] h (some (.int (hI h a 8 - hI h a 9 + hI h a 10 + hI h a 4))) (pC (pC (pC h z 12) (z + 1) 11) (z + 2) 10) := by
  refine oSp.intro [some (.ref 10), some (.ref a)] rfl (Nat.le_of_ble_eq_true rfl) (plainFor_of_name (by decide +kernel)) (Nat.le_refl _) ?_
  intro p l e R s m args below meth c C
  refine r_aload_n C rfl rfl dX0_weight_0 ?_
  refine r_callV C (sp_toldKind G ta (by exact la)) kv_X1_toldKind kn_X1_toldKind rfl dX0_weight_1 cl_X0_20 ⟨Nat.le_of_ble_eq_true rfl, Nat.le_of_ble_eq_true rfl⟩ (by decide) rfl ta la (Nat.le_refl _) rfl (Nat.le_of_ble_eq_true rfl) ?_
  refine r_tableIn C 38 (by rw [show (tkC h a).toInt = 2 by rw [hk]; rfl]; decide) (by rw [show (tkC h a).toInt = 2 by rw [hk]; rfl]; decide) (by rw [show (tkC h a).toInt = 2 by rw [hk]; rfl]; rfl) (by decide) dX0_weight_4 ?_
  refine r_aload_n C rfl rfl dX0_weight_38 ?_
  refine r_aload_n C rfl rfl dX0_weight_39 ?_
  refine r_callV C (sp_steadyW G (by exact hs) ta (by exact la) h35 (by exact hz) (by omega)) kv_X0_steadyWeight kn_X0_steadyWeight rfl dX0_weight_40 cl_X0_30 ⟨Nat.le_of_ble_eq_true rfl, Nat.le_of_ble_eq_true rfl⟩ (by decide) rfl rfl (q_lt hs (by decide)) (Nat.le_refl _) rfl (Nat.le_of_ble_eq_true rfl) ?_
  exact r_iret C dX0_weight_43 rfl (Nat.le_refl _) rfl rfl

set_option maxHeartbeats 4000000 in
set_option maxRecDepth 100000 in
theorem sp_weight3 (G : oG) {h : oH} (hs : oSh h) {a : Nat} (ta : tg a = (0, 1)) (la : a < h.1) (h35 : 35 ≤ a) {z : Nat} (hz : hI h 10 1 = nI z) (hl : z + 1 < 16) (hk : tkC h a = 3) : oSp G mX0_weight [.ref 10, .ref a] h (some (.int (hI h a 8 - hI h a 9 + 5000))) (pC (pC h z 13) (z + 1) 10) := by
  refine oSp.intro [some (.ref 10), some (.ref a)] rfl (Nat.le_of_ble_eq_true rfl) (plainFor_of_name (by decide +kernel)) (Nat.le_refl _) ?_
  intro p l e R s m args below meth c C
  refine r_aload_n C rfl rfl dX0_weight_0 ?_
  refine r_callV C (sp_toldKind G ta (by exact la)) kv_X1_toldKind kn_X1_toldKind rfl dX0_weight_1 cl_X0_20 ⟨Nat.le_of_ble_eq_true rfl, Nat.le_of_ble_eq_true rfl⟩ (by decide) rfl ta la (Nat.le_refl _) rfl (Nat.le_of_ble_eq_true rfl) ?_
  refine r_tableIn C 32 (by rw [show (tkC h a).toInt = 3 by rw [hk]; rfl]; decide) (by rw [show (tkC h a).toInt = 3 by rw [hk]; rfl]; decide) (by rw [show (tkC h a).toInt = 3 by rw [hk]; rfl]; rfl) (by decide) dX0_weight_4 ?_
  refine r_aload_n C rfl rfl dX0_weight_32 ?_
  refine r_aload_n C rfl rfl dX0_weight_33 ?_
  refine r_callV C (sp_leakyW G (by exact hs) ta (by exact la) h35 (by exact hz) (by omega)) kv_X0_leakyWeight kn_X0_leakyWeight rfl dX0_weight_34 cl_X0_26 ⟨Nat.le_of_ble_eq_true rfl, Nat.le_of_ble_eq_true rfl⟩ (by decide) rfl rfl (q_lt hs (by decide)) (Nat.le_refl _) rfl (Nat.le_of_ble_eq_true rfl) ?_
  exact r_iret C dX0_weight_37 rfl (Nat.le_refl _) rfl rfl

theorem tk_pC {h : oH} {a z : Nat} {v : Int32} (h35 : 35 ≤ a) : tkC (pC h z v) a = tkC h a := by
  unfold tkC
  simp only [pC_o (show a ≠ 10 by omega) (show a ≠ 11 by omega)]
set_option maxHeartbeats 4000000 in
set_option maxRecDepth 100000 in
theorem sp_lentM (G : oG) {h : oH} (hs : oSh h) {a : Nat} (ta : tg a = (0, 1)) (la : a < h.1) (h35 : 35 ≤ a) {z : Nat} (hz : hI h 10 1 = nI z) (hl : z + 0 < 16) : oSp G mX0_lentMark [.ref 10, .ref a] h (some (.int (hI h a 2))) (pC h z 20) := by
  refine oSp.intro [some (.ref 10), some (.ref a)] rfl (Nat.le_of_ble_eq_true rfl) (plainFor_of_name (by decide +kernel)) (Nat.le_refl _) ?_
  intro p l e R s m args below meth c C
  refine r_aload_n C rfl rfl dX0_lentMark_0 ?_
  refine r_bipush C 20 rfl dX0_lentMark_1 ?_
  refine r_callV C (sp_begin G (by exact hs) (by exact hz) (by omega) _) kv_X0_begin kn_X0_begin rfl dX0_lentMark_3 cl_X0_48 ⟨Nat.le_of_ble_eq_true rfl, Nat.le_of_ble_eq_true rfl⟩ (by decide) rfl rfl (q_lt hs (by decide)) (Nat.le_refl _) rfl (Nat.le_of_ble_eq_true rfl) ?_
  refine r_aload_n C rfl rfl dX0_lentMark_6 ?_
  refine r_getI C dX0_lentMark_7 fl_X0_64 ta la ?_
  exact r_iret C dX0_lentMark_10 rfl (Nat.le_refl _) (by simp only [pC_o (show a ≠ 10 by omega) (show a ≠ 11 by omega)]) rfl

set_option maxHeartbeats 4000000 in
set_option maxRecDepth 100000 in
theorem sp_knownM1 (G : oG) {h : oH} (hs : oSh h) {a : Nat} (ta : tg a = (0, 1)) (la : a < h.1) (h35 : 35 ≤ a) {z : Nat} (hz : hI h 10 1 = nI z) (hl : z + 3 < 16) (hk : tkC h a = 1) : oSp G mX0_knownMark [.ref 10, .ref a] h (some (.int (hI h a 2 + (hI h a 8 - hI h a 9 + hI h a 10)))) (pC (pC (pC (pC h z 21) (z + 1) 20) (z + 2) 11) (z + 3) 10) := by
  refine oSp.intro [some (.ref 10), some (.ref a)] rfl (Nat.le_of_ble_eq_true rfl) (plainFor_of_name (by decide +kernel)) (Nat.le_refl _) ?_
  intro p l e R s m args below meth c C
  refine r_aload_n C rfl rfl dX0_knownMark_0 ?_
  refine r_bipush C 21 rfl dX0_knownMark_1 ?_
  refine r_callV C (sp_begin G (by exact hs) (by exact hz) (by omega) _) kv_X0_begin kn_X0_begin rfl dX0_knownMark_3 cl_X0_48 ⟨Nat.le_of_ble_eq_true rfl, Nat.le_of_ble_eq_true rfl⟩ (by decide) rfl rfl (q_lt hs (by decide)) (Nat.le_refl _) rfl (Nat.le_of_ble_eq_true rfl) ?_
  refine r_aload_n C rfl rfl dX0_knownMark_6 ?_
  refine r_aload_n C rfl rfl dX0_knownMark_7 ?_
  refine r_callV C (sp_lentM G (by exact hs) ta (by exact la) h35 (by exact rfl) (by omega)) kv_X0_lentMark kn_X0_lentMark rfl dX0_knownMark_8 cl_X0_45 ⟨Nat.le_of_ble_eq_true rfl, Nat.le_of_ble_eq_true rfl⟩ (by decide) rfl rfl (q_lt hs (by decide)) (Nat.le_refl _) rfl (Nat.le_of_ble_eq_true rfl) ?_
  refine r_aload_n C rfl rfl dX0_knownMark_11 ?_
  refine r_aload_n C rfl rfl dX0_knownMark_12 ?_
  refine r_callV C (sp_weight1 G (by exact hs) ta (by exact la) h35 (by exact rfl) (by omega) (by rw [tk_pC h35, tk_pC h35]; exact hk)) kv_X0_weight kn_X0_weight rfl dX0_knownMark_13 cl_X0_67 ⟨Nat.le_of_ble_eq_true rfl, Nat.le_of_ble_eq_true rfl⟩ (by decide) rfl rfl (q_lt hs (by decide)) (Nat.le_refl _) rfl (Nat.le_of_ble_eq_true rfl) ?_
  refine r_iadd C dX0_knownMark_16 ?_
  exact r_iret C dX0_knownMark_17 rfl (Nat.le_refl _) (by simp only [pC_o (show a ≠ 10 by omega) (show a ≠ 11 by omega)]) rfl

set_option maxHeartbeats 4000000 in
set_option maxRecDepth 100000 in
theorem sp_knownM2 (G : oG) {h : oH} (hs : oSh h) {a : Nat} (ta : tg a = (0, 1)) (la : a < h.1) (h35 : 35 ≤ a) {z : Nat} (hz : hI h 10 1 = nI z) (hl : z + 4 < 16) (hk : tkC h a = 2) : oSp G mX0_knownMark [.ref 10, .ref a] h (some (.int (hI h a 2 + (hI h a 8 - hI h a 9 + hI h a 10 + hI h a 4)))) (pC (pC (pC (pC (pC h z 21) (z + 1) 20) (z + 2) 12) (z + 3) 11) (z + 4) 10) := by
  refine oSp.intro [some (.ref 10), some (.ref a)] rfl (Nat.le_of_ble_eq_true rfl) (plainFor_of_name (by decide +kernel)) (Nat.le_refl _) ?_
  intro p l e R s m args below meth c C
  refine r_aload_n C rfl rfl dX0_knownMark_0 ?_
  refine r_bipush C 21 rfl dX0_knownMark_1 ?_
  refine r_callV C (sp_begin G (by exact hs) (by exact hz) (by omega) _) kv_X0_begin kn_X0_begin rfl dX0_knownMark_3 cl_X0_48 ⟨Nat.le_of_ble_eq_true rfl, Nat.le_of_ble_eq_true rfl⟩ (by decide) rfl rfl (q_lt hs (by decide)) (Nat.le_refl _) rfl (Nat.le_of_ble_eq_true rfl) ?_
  refine r_aload_n C rfl rfl dX0_knownMark_6 ?_
  refine r_aload_n C rfl rfl dX0_knownMark_7 ?_
  refine r_callV C (sp_lentM G (by exact hs) ta (by exact la) h35 (by exact rfl) (by omega)) kv_X0_lentMark kn_X0_lentMark rfl dX0_knownMark_8 cl_X0_45 ⟨Nat.le_of_ble_eq_true rfl, Nat.le_of_ble_eq_true rfl⟩ (by decide) rfl rfl (q_lt hs (by decide)) (Nat.le_refl _) rfl (Nat.le_of_ble_eq_true rfl) ?_
  refine r_aload_n C rfl rfl dX0_knownMark_11 ?_
  refine r_aload_n C rfl rfl dX0_knownMark_12 ?_
  refine r_callV C (sp_weight2 G (by exact hs) ta (by exact la) h35 (by exact rfl) (by omega) (by rw [tk_pC h35, tk_pC h35]; exact hk)) kv_X0_weight kn_X0_weight rfl dX0_knownMark_13 cl_X0_67 ⟨Nat.le_of_ble_eq_true rfl, Nat.le_of_ble_eq_true rfl⟩ (by decide) rfl rfl (q_lt hs (by decide)) (Nat.le_refl _) rfl (Nat.le_of_ble_eq_true rfl) ?_
  refine r_iadd C dX0_knownMark_16 ?_
  exact r_iret C dX0_knownMark_17 rfl (Nat.le_refl _) (by simp only [pC_o (show a ≠ 10 by omega) (show a ≠ 11 by omega)]) rfl

set_option maxHeartbeats 4000000 in
set_option maxRecDepth 100000 in
theorem sp_leakyM (G : oG) {h : oH} (hs : oSh h) {a : Nat} (ta : tg a = (0, 1)) (la : a < h.1) (h35 : 35 ≤ a) {z : Nat} (hz : hI h 10 1 = nI z) (hl : z + 3 < 16) (hk : tkC h a = 3) : oSp G mX0_leakyMark [.ref 10, .ref a] h (some (.int (hI h a 2 - (hI h a 8 - hI h a 9 + 5000)))) (pC (pC (pC (pC h z 22) (z + 1) 20) (z + 2) 13) (z + 3) 10) := by
  refine oSp.intro [some (.ref 10), some (.ref a)] rfl (Nat.le_of_ble_eq_true rfl) (plainFor_of_name (by decide +kernel)) (Nat.le_refl _) ?_
  intro p l e R s m args below meth c C
  refine r_aload_n C rfl rfl dX0_leakyMark_0 ?_
  refine r_bipush C 22 rfl dX0_leakyMark_1 ?_
  refine r_callV C (sp_begin G (by exact hs) (by exact hz) (by omega) _) kv_X0_begin kn_X0_begin rfl dX0_leakyMark_3 cl_X0_48 ⟨Nat.le_of_ble_eq_true rfl, Nat.le_of_ble_eq_true rfl⟩ (by decide) rfl rfl (q_lt hs (by decide)) (Nat.le_refl _) rfl (Nat.le_of_ble_eq_true rfl) ?_
  refine r_aload_n C rfl rfl dX0_leakyMark_6 ?_
  refine r_aload_n C rfl rfl dX0_leakyMark_7 ?_
  refine r_callV C (sp_lentM G (by exact hs) ta (by exact la) h35 (by exact rfl) (by omega)) kv_X0_lentMark kn_X0_lentMark rfl dX0_leakyMark_8 cl_X0_45 ⟨Nat.le_of_ble_eq_true rfl, Nat.le_of_ble_eq_true rfl⟩ (by decide) rfl rfl (q_lt hs (by decide)) (Nat.le_refl _) rfl (Nat.le_of_ble_eq_true rfl) ?_
  refine r_aload_n C rfl rfl dX0_leakyMark_11 ?_
  refine r_aload_n C rfl rfl dX0_leakyMark_12 ?_
  refine r_callV C (sp_weight3 G (by exact hs) ta (by exact la) h35 (by exact rfl) (by omega) (by rw [tk_pC h35, tk_pC h35]; exact hk)) kv_X0_weight kn_X0_weight rfl dX0_leakyMark_13 cl_X0_67 ⟨Nat.le_of_ble_eq_true rfl, Nat.le_of_ble_eq_true rfl⟩ (by decide) rfl rfl (q_lt hs (by decide)) (Nat.le_refl _) rfl (Nat.le_of_ble_eq_true rfl) ?_
  refine r_isub C dX0_leakyMark_16 ?_
  exact r_iret C dX0_leakyMark_17 rfl (Nat.le_refl _) (by simp only [pC_o (show a ≠ 10 by omega) (show a ≠ 11 by omega)]) rfl

set_option maxHeartbeats 4000000 in
set_option maxRecDepth 100000 in
theorem sp_mark0 (G : oG) {h : oH} (hs : oSh h) {a : Nat} (ta : tg a = (0, 1)) (la : a < h.1) (h35 : 35 ≤ a) {z : Nat} (hz : hI h 10 1 = nI z) (hl : z + 0 < 16) (hk : tkC h a = 0) : oSp G mX0_mark [.ref 10, .ref a] h (some (.int (hI h a 2))) (pC h z 20) := by
  refine oSp.intro [some (.ref 10), some (.ref a)] rfl (Nat.le_of_ble_eq_true rfl) (plainFor_of_name (by decide +kernel)) (Nat.le_refl _) ?_
  intro p l e R s m args below meth c C
  refine r_aload_n C rfl rfl dX0_mark_0 ?_
  refine r_callV C (sp_toldKind G ta (by exact la)) kv_X1_toldKind kn_X1_toldKind rfl dX0_mark_1 cl_X0_20 ⟨Nat.le_of_ble_eq_true rfl, Nat.le_of_ble_eq_true rfl⟩ (by decide) rfl ta la (Nat.le_refl _) rfl (Nat.le_of_ble_eq_true rfl) ?_
  refine r_tableOut C 44 (by rw [show (tkC h a).toInt = 0 by rw [hk]; rfl]; decide) (by decide) dX0_mark_4 ?_
  refine r_aload_n C rfl rfl dX0_mark_44 ?_
  refine r_aload_n C rfl rfl dX0_mark_45 ?_
  refine r_callV C (sp_lentM G (by exact hs) ta (by exact la) h35 (by exact hz) (by omega)) kv_X0_lentMark kn_X0_lentMark rfl dX0_mark_46 cl_X0_45 ⟨Nat.le_of_ble_eq_true rfl, Nat.le_of_ble_eq_true rfl⟩ (by decide) rfl rfl (q_lt hs (by decide)) (Nat.le_refl _) rfl (Nat.le_of_ble_eq_true rfl) ?_
  exact r_iret C dX0_mark_49 rfl (Nat.le_refl _) rfl rfl

set_option maxHeartbeats 4000000 in
set_option maxRecDepth 100000 in
theorem sp_mark1 (G : oG) {h : oH} (hs : oSh h) {a : Nat} (ta : tg a = (0, 1)) (la : a < h.1) (h35 : 35 ≤ a) {z : Nat} (hz : hI h 10 1 = nI z) (hl : z + 3 < 16) (hk : tkC h a = 1) : oSp G mX0_mark [.ref 10, .ref a] h (some (.int (hI h a 2 + (hI h a 8 - hI h a 9 + hI h a 10)))) (pC (pC (pC (pC h z 21) (z + 1) 20) (z + 2) 11) (z + 3) 10) := by
  refine oSp.intro [some (.ref 10), some (.ref a)] rfl (Nat.le_of_ble_eq_true rfl) (plainFor_of_name (by decide +kernel)) (Nat.le_refl _) ?_
  intro p l e R s m args below meth c C
  refine r_aload_n C rfl rfl dX0_mark_0 ?_
  refine r_callV C (sp_toldKind G ta (by exact la)) kv_X1_toldKind kn_X1_toldKind rfl dX0_mark_1 cl_X0_20 ⟨Nat.le_of_ble_eq_true rfl, Nat.le_of_ble_eq_true rfl⟩ (by decide) rfl ta la (Nat.le_refl _) rfl (Nat.le_of_ble_eq_true rfl) ?_
  refine r_tableIn C 38 (by rw [show (tkC h a).toInt = 1 by rw [hk]; rfl]; decide) (by rw [show (tkC h a).toInt = 1 by rw [hk]; rfl]; decide) (by rw [show (tkC h a).toInt = 1 by rw [hk]; rfl]; rfl) (by decide) dX0_mark_4 ?_
  refine r_aload_n C rfl rfl dX0_mark_38 ?_
  refine r_aload_n C rfl rfl dX0_mark_39 ?_
  refine r_callV C (sp_knownM1 G (by exact hs) ta (by exact la) h35 (by exact hz) (by omega) (by exact hk)) kv_X0_knownMark kn_X0_knownMark rfl dX0_mark_40 cl_X0_42 ⟨Nat.le_of_ble_eq_true rfl, Nat.le_of_ble_eq_true rfl⟩ (by decide) rfl rfl (q_lt hs (by decide)) (Nat.le_refl _) rfl (Nat.le_of_ble_eq_true rfl) ?_
  exact r_iret C dX0_mark_43 rfl (Nat.le_refl _) rfl rfl

set_option maxHeartbeats 4000000 in
set_option maxRecDepth 100000 in
theorem sp_mark2 (G : oG) {h : oH} (hs : oSh h) {a : Nat} (ta : tg a = (0, 1)) (la : a < h.1) (h35 : 35 ≤ a) {z : Nat} (hz : hI h 10 1 = nI z) (hl : z + 4 < 16) (hk : tkC h a = 2) : oSp G mX0_mark [.ref 10, .ref a] h (some (.int (hI h a 2 + (hI h a 8 - hI h a 9 + hI h a 10 + hI h a 4)))) (pC (pC (pC (pC (pC h z 21) (z + 1) 20) (z + 2) 12) (z + 3) 11) (z + 4) 10) := by
  refine oSp.intro [some (.ref 10), some (.ref a)] rfl (Nat.le_of_ble_eq_true rfl) (plainFor_of_name (by decide +kernel)) (Nat.le_refl _) ?_
  intro p l e R s m args below meth c C
  refine r_aload_n C rfl rfl dX0_mark_0 ?_
  refine r_callV C (sp_toldKind G ta (by exact la)) kv_X1_toldKind kn_X1_toldKind rfl dX0_mark_1 cl_X0_20 ⟨Nat.le_of_ble_eq_true rfl, Nat.le_of_ble_eq_true rfl⟩ (by decide) rfl ta la (Nat.le_refl _) rfl (Nat.le_of_ble_eq_true rfl) ?_
  refine r_tableIn C 38 (by rw [show (tkC h a).toInt = 2 by rw [hk]; rfl]; decide) (by rw [show (tkC h a).toInt = 2 by rw [hk]; rfl]; decide) (by rw [show (tkC h a).toInt = 2 by rw [hk]; rfl]; rfl) (by decide) dX0_mark_4 ?_
  refine r_aload_n C rfl rfl dX0_mark_38 ?_
  refine r_aload_n C rfl rfl dX0_mark_39 ?_
  refine r_callV C (sp_knownM2 G (by exact hs) ta (by exact la) h35 (by exact hz) (by omega) (by exact hk)) kv_X0_knownMark kn_X0_knownMark rfl dX0_mark_40 cl_X0_42 ⟨Nat.le_of_ble_eq_true rfl, Nat.le_of_ble_eq_true rfl⟩ (by decide) rfl rfl (q_lt hs (by decide)) (Nat.le_refl _) rfl (Nat.le_of_ble_eq_true rfl) ?_
  exact r_iret C dX0_mark_43 rfl (Nat.le_refl _) rfl rfl

set_option maxHeartbeats 4000000 in
set_option maxRecDepth 100000 in
theorem sp_mark3 (G : oG) {h : oH} (hs : oSh h) {a : Nat} (ta : tg a = (0, 1)) (la : a < h.1) (h35 : 35 ≤ a) {z : Nat} (hz : hI h 10 1 = nI z) (hl : z + 3 < 16) (hk : tkC h a = 3) : oSp G mX0_mark [.ref 10, .ref a] h (some (.int (hI h a 2 - (hI h a 8 - hI h a 9 + 5000)))) (pC (pC (pC (pC h z 22) (z + 1) 20) (z + 2) 13) (z + 3) 10) := by
  refine oSp.intro [some (.ref 10), some (.ref a)] rfl (Nat.le_of_ble_eq_true rfl) (plainFor_of_name (by decide +kernel)) (Nat.le_refl _) ?_
  intro p l e R s m args below meth c C
  refine r_aload_n C rfl rfl dX0_mark_0 ?_
  refine r_callV C (sp_toldKind G ta (by exact la)) kv_X1_toldKind kn_X1_toldKind rfl dX0_mark_1 cl_X0_20 ⟨Nat.le_of_ble_eq_true rfl, Nat.le_of_ble_eq_true rfl⟩ (by decide) rfl ta la (Nat.le_refl _) rfl (Nat.le_of_ble_eq_true rfl) ?_
  refine r_tableIn C 32 (by rw [show (tkC h a).toInt = 3 by rw [hk]; rfl]; decide) (by rw [show (tkC h a).toInt = 3 by rw [hk]; rfl]; decide) (by rw [show (tkC h a).toInt = 3 by rw [hk]; rfl]; rfl) (by decide) dX0_mark_4 ?_
  refine r_aload_n C rfl rfl dX0_mark_32 ?_
  refine r_aload_n C rfl rfl dX0_mark_33 ?_
  refine r_callV C (sp_leakyM G (by exact hs) ta (by exact la) h35 (by exact hz) (by omega) (by exact hk)) kv_X0_leakyMark kn_X0_leakyMark rfl dX0_mark_34 cl_X0_39 ⟨Nat.le_of_ble_eq_true rfl, Nat.le_of_ble_eq_true rfl⟩ (by decide) rfl rfl (q_lt hs (by decide)) (Nat.le_refl _) rfl (Nat.le_of_ble_eq_true rfl) ?_
  exact r_iret C dX0_mark_37 rfl (Nat.le_refl _) rfl rfl

def kM (h : oH) (i : Nat) : Int32 := if (hI h 20 i).toInt = 1 then 3 else if (hI h 19 i).toInt < 3 ∨ ¬ (hI h 21 i).toInt = 0 then 0 else if (hI h 16 (4 * i + 1)).toInt = 0 ∧ (hI h 16 (4 * i + 3)).toInt = 0 then 2 else 1
set_option maxHeartbeats 4000000 in
set_option maxRecDepth 100000 in
theorem sp_kindOf (G : oG) {h : oH} (hs : oSh h) (v : Int32) {i : Nat} (hv : v.toInt = (i : Int)) (hi : i < 24) : oSp G mX6_kindOf [.ref 12, .int v] h (some (.int (kM h i))) h := by
  refine oSp.intro [some (.ref 12), some (.int v)] rfl (Nat.le_of_ble_eq_true rfl) (plainFor_of_name (by decide +kernel)) (Nat.le_refl _) ?_
  intro p l e R s m args below meth c C
  refine r_aload_n C rfl rfl dX6_kindOf_0 ?_
  refine r_getO C dX6_kindOf_1 fl_X6_31 rfl rfl (q_lt hs (by decide)) (sh_12_9 hs) ?_
  refine r_iload_n C rfl dX6_kindOf_4 ?_
  refine r_iald C (i) (by have t := hv; omega) (by omega) dX6_kindOf_5 rfl (q_lt hs (by decide)) ?_
  refine r_iconstv C 1 rfl dX6_kindOf_6 ?_
  refine t_icmp_ne C 14 (by decide) rfl (show (1 : Int32).toInt = 1 from rfl) dX6_kindOf_7 (fun c7 => ?_) (fun c7 => ?_)
  · refine r_aload_n C rfl rfl dX6_kindOf_14 ?_
    refine r_getO C dX6_kindOf_15 fl_X6_28 rfl rfl (q_lt hs (by decide)) (sh_12_8 hs) ?_
    refine r_iload_n C rfl dX6_kindOf_18 ?_
    refine r_iald C (i) (by have t := hv; omega) (by omega) dX6_kindOf_19 rfl (q_lt hs (by decide)) ?_
    refine r_iconstv C 3 rfl dX6_kindOf_20 ?_
    refine t_icmp_lt C 33 (by decide) rfl (show (3 : Int32).toInt = 3 from rfl) dX6_kindOf_21 (fun c21 => ?_) (fun c21 => ?_)
    · refine r_iconstv C 0 rfl dX6_kindOf_33 ?_
      refine r_goto C 68 (by decide) dX6_kindOf_34 ?_
      exact r_iret C dX6_kindOf_68 rfl (Nat.le_refl _) (by simp only [kM]; (repeat' split) <;> first | rfl | omega) rfl
    · refine r_aload_n C rfl rfl dX6_kindOf_24 ?_
      refine r_getO C dX6_kindOf_25 fl_X6_34 rfl rfl (q_lt hs (by decide)) (sh_12_10 hs) ?_
      refine r_iload_n C rfl dX6_kindOf_28 ?_
      refine r_zald C (i) (by have t := hv; omega) (by omega) dX6_kindOf_29 rfl (q_lt hs (by decide)) ?_
      refine t_if_eq C 37 (by decide) rfl dX6_kindOf_30 (fun c30 => ?_) (fun c30 => ?_)
      · refine r_aload_n C rfl rfl dX6_kindOf_37 ?_
        refine r_getO C dX6_kindOf_38 fl_X6_19 rfl rfl (q_lt hs (by decide)) (sh_12_5 hs) ?_
        refine r_iconstv C 4 rfl dX6_kindOf_41 ?_
        refine r_iload_n C rfl dX6_kindOf_42 ?_
        refine r_imul C dX6_kindOf_43 ?_
        refine r_iconstv C 1 rfl dX6_kindOf_44 ?_
        refine r_iadd C dX6_kindOf_45 ?_
        refine r_iald C (((4) * (i)) + (1)) (by have t := (tA (tM (show (4 : Int32).toInt = 4 from rfl) hv (by omega)) (show (1 : Int32).toInt = 1 from rfl) (by omega)); omega) (by omega) dX6_kindOf_46 rfl (q_lt hs (by decide)) ?_
        refine t_if_ne C 67 (by decide) rfl dX6_kindOf_47 (fun c47 => ?_) (fun c47 => ?_)
        · refine r_iconstv C 1 rfl dX6_kindOf_67 ?_
          exact r_iret C dX6_kindOf_68 rfl (Nat.le_refl _) (by simp only [kM]; (repeat' split) <;> first | rfl | omega) rfl
        · refine r_aload_n C rfl rfl dX6_kindOf_50 ?_
          refine r_getO C dX6_kindOf_51 fl_X6_19 rfl rfl (q_lt hs (by decide)) (sh_12_5 hs) ?_
          refine r_iconstv C 4 rfl dX6_kindOf_54 ?_
          refine r_iload_n C rfl dX6_kindOf_55 ?_
          refine r_imul C dX6_kindOf_56 ?_
          refine r_iconstv C 3 rfl dX6_kindOf_57 ?_
          refine r_iadd C dX6_kindOf_58 ?_
          refine r_iald C (((4) * (i)) + (3)) (by have t := (tA (tM (show (4 : Int32).toInt = 4 from rfl) hv (by omega)) (show (3 : Int32).toInt = 3 from rfl) (by omega)); omega) (by omega) dX6_kindOf_59 rfl (q_lt hs (by decide)) ?_
          refine t_if_ne C 67 (by decide) rfl dX6_kindOf_60 (fun c60 => ?_) (fun c60 => ?_)
          · refine r_iconstv C 1 rfl dX6_kindOf_67 ?_
            exact r_iret C dX6_kindOf_68 rfl (Nat.le_refl _) (by simp only [kM]; (repeat' split) <;> first | rfl | omega) rfl
          · refine r_iconstv C 2 rfl dX6_kindOf_63 ?_
            refine r_goto C 68 (by decide) dX6_kindOf_64 ?_
            exact r_iret C dX6_kindOf_68 rfl (Nat.le_refl _) (by simp only [kM]; (repeat' split) <;> first | rfl | omega) rfl
      · refine r_iconstv C 0 rfl dX6_kindOf_33 ?_
        refine r_goto C 68 (by decide) dX6_kindOf_34 ?_
        exact r_iret C dX6_kindOf_68 rfl (Nat.le_refl _) (by simp only [kM]; (repeat' split) <;> first | rfl | omega) rfl
  · refine r_iconstv C 3 rfl dX6_kindOf_10 ?_
    refine r_goto C 68 (by decide) dX6_kindOf_11 ?_
    exact r_iret C dX6_kindOf_68 rfl (Nat.le_refl _) (by simp only [kM]; (repeat' split) <;> first | rfl | omega) rfl

set_option maxHeartbeats 4000000 in
set_option maxRecDepth 100000 in
theorem sp_began (G : oG) {h : oH} (hs : oSh h) {z : Nat} (hz : hI h 12 44 = nI z) (hl : z + 0 < 16) (x : Int32) : oSp G mX6_began [.ref 12, .int x] h none (pM h z x) := by
  refine oSp.intro [some (.ref 12), some (.int x)] rfl (Nat.le_of_ble_eq_true rfl) (plainFor_of_name (by decide +kernel)) (Nat.le_refl _) ?_
  intro p l e R s m args below meth c C
  refine r_aload_n C rfl rfl dX6_began_0 ?_
  refine r_getI C dX6_began_1 fl_X6_281 rfl (q_lt hs (by decide)) ?_
  refine r_bipush C 16 rfl dX6_began_4 ?_
  refine t_icmp_ge C 29 (by decide) (show (hI h 12 44).toInt = (z : Int) by rw [hz]; exact nI_toInt (by omega)) (show (16 : Int32).toInt = 16 from rfl) dX6_began_6 (fun c6 => absurd c6 (by omega)) (fun c6 => ?_)
  refine r_aload_n C rfl rfl dX6_began_9 ?_
  refine r_getO C dX6_began_10 fl_X6_87 rfl rfl (q_lt hs (by decide)) (sh_12_43 hs) ?_
  refine r_aload_n C rfl rfl dX6_began_13 ?_
  refine r_getI C dX6_began_14 fl_X6_281 rfl (q_lt hs (by decide)) ?_
  refine r_iload_n C rfl dX6_began_17 ?_
  refine r_iast C (z) (by have t := (show (hI h 12 44).toInt = (z : Int) by rw [hz]; exact nI_toInt (by omega)); omega) (by omega) dX6_began_18 rfl (q_lt hs (by decide)) ?_
  refine r_aload_n C rfl rfl dX6_began_19 ?_
  refine r_dup C rfl dX6_began_20 ?_
  refine r_getI C dX6_began_21 fl_X6_281 rfl (q_lt hs (by decide)) ?_
  refine r_iconstv C 1 rfl dX6_began_24 ?_
  refine r_iadd C dX6_began_25 ?_
  refine r_putI C dX6_began_26 fl_X6_281 rfl (q_lt hs (by decide)) (Or.inl rfl) ?_
  exact r_vret C dX6_began_29 rfl (Nat.le_refl _) (by show _ = sI (sI h 34 z x) 12 44 (hI h 12 44 + 1); rw [hz]; exact congrArg (sI _ 12 44) (nI_succ z))

set_option maxHeartbeats 4000000 in
set_option maxRecDepth 100000 in
theorem sp_weightM0 (G : oG) {h : oH} (hs : oSh h) (v : Int32) {i : Nat} (hv : v.toInt = (i : Int)) (hi : i < 24) {z : Nat} (hz : hI h 12 44 = nI z) (hl : z + 0 < 16) (hk : kM h i = 0) : oSp G mX6_weight [.ref 12, .int v] h (some (.int (hI h 17 i - hI h 18 i + 0 + 0))) (pM h z 10) := by
  refine oSp.intro [some (.ref 12), some (.int v), none, none, none] rfl (Nat.le_of_ble_eq_true rfl) (plainFor_of_name (by decide +kernel)) (Nat.le_refl _) ?_
  intro p l e R s m args below meth c C
  refine r_aload_n C rfl rfl dX6_weight_0 ?_
  refine r_iload_n C rfl dX6_weight_1 ?_
  refine r_callV C (sp_kindOf G (by exact hs) _ hv hi) kv_X6_kindOf kn_X6_kindOf rfl dX6_weight_2 cl_X6_275 ⟨Nat.le_of_ble_eq_true rfl, Nat.le_of_ble_eq_true rfl⟩ (by decide) rfl rfl (q_lt hs (by decide)) (Nat.le_refl _) rfl (Nat.le_of_ble_eq_true rfl) ?_
  refine r_istore_n C rfl (Nat.le_of_ble_eq_true rfl) dX6_weight_5 ?_
  refine r_iload_n C rfl dX6_weight_6 ?_
  refine r_iconstv C 1 rfl dX6_weight_7 ?_
  refine t_icmp_eq C 16 (by decide) (show (kM h i).toInt = 0 by rw [hk]; rfl) (show (1 : Int32).toInt = 1 from rfl) dX6_weight_8 (fun c8 => absurd c8 (by decide)) (fun c8 => ?_)
  refine r_iload_n C rfl dX6_weight_11 ?_
  refine r_iconstv C 2 rfl dX6_weight_12 ?_
  refine t_icmp_ne C 20 (by decide) (show (kM h i).toInt = 0 by rw [hk]; rfl) (show (2 : Int32).toInt = 2 from rfl) dX6_weight_13 (fun c13 => ?_) (fun c13 => absurd c13 (by decide))
  refine r_iconstv C 0 rfl dX6_weight_20 ?_
  refine r_istore_n C rfl (Nat.le_of_ble_eq_true rfl) dX6_weight_21 ?_
  refine r_iload_n C rfl dX6_weight_22 ?_
  refine r_iconstv C 3 rfl dX6_weight_23 ?_
  refine t_icmp_ne C 33 (by decide) (show (kM h i).toInt = 0 by rw [hk]; rfl) (show (3 : Int32).toInt = 3 from rfl) dX6_weight_24 (fun c24 => ?_) (fun c24 => absurd c24 (by decide))
  refine r_iload_n C rfl dX6_weight_33 ?_
  refine r_iconstv C 2 rfl dX6_weight_34 ?_
  refine t_icmp_ne C 44 (by decide) (show (kM h i).toInt = 0 by rw [hk]; rfl) (show (2 : Int32).toInt = 2 from rfl) dX6_weight_35 (fun c35 => ?_) (fun c35 => absurd c35 (by decide))
  refine r_iload_n C rfl dX6_weight_44 ?_
  refine t_if_eq C 54 (by decide) (show (0 : Int32).toInt = 0 from rfl) dX6_weight_45 (fun c45 => ?_) (fun c45 => absurd c45 (by decide))
  refine r_aload_n C rfl rfl dX6_weight_54 ?_
  refine r_bipush C 10 rfl dX6_weight_55 ?_
  refine r_callV C (sp_began G (by exact hs) (by exact hz) (by omega) _) kv_X6_began kn_X6_began rfl dX6_weight_57 cl_X6_284 ⟨Nat.le_of_ble_eq_true rfl, Nat.le_of_ble_eq_true rfl⟩ (by decide) rfl rfl (q_lt hs (by decide)) (Nat.le_refl _) rfl (Nat.le_of_ble_eq_true rfl) ?_
  refine r_aload_n C rfl rfl dX6_weight_60 ?_
  refine r_getO C dX6_weight_61 fl_X6_22 rfl rfl (q_lt hs (by decide)) (sh_12_6 hs) ?_
  refine r_iload_n C rfl dX6_weight_64 ?_
  refine r_iald C (i) (by have t := hv; omega) (by omega) dX6_weight_65 rfl (q_lt hs (by decide)) ?_
  refine r_aload_n C rfl rfl dX6_weight_66 ?_
  refine r_getO C dX6_weight_67 fl_X6_25 rfl rfl (q_lt hs (by decide)) (sh_12_7 hs) ?_
  refine r_iload_n C rfl dX6_weight_70 ?_
  refine r_iald C (i) (by have t := hv; omega) (by omega) dX6_weight_71 rfl (q_lt hs (by decide)) ?_
  refine r_isub C dX6_weight_72 ?_
  refine r_istore C rfl (Nat.le_of_ble_eq_true rfl) dX6_weight_73 ?_
  refine r_iload_n C rfl dX6_weight_75 ?_
  refine r_iconstv C 3 rfl dX6_weight_76 ?_
  refine t_icmp_ne C 89 (by decide) (show (kM h i).toInt = 0 by rw [hk]; rfl) (show (3 : Int32).toInt = 3 from rfl) dX6_weight_77 (fun c77 => ?_) (fun c77 => absurd c77 (by decide))
  refine r_iload C rfl dX6_weight_89 ?_
  refine r_iload_n C rfl dX6_weight_91 ?_
  refine t_if_eq C 104 (by decide) (show (0 : Int32).toInt = 0 from rfl) dX6_weight_92 (fun c92 => ?_) (fun c92 => absurd c92 (by decide))
  refine r_iconstv C 0 rfl dX6_weight_104 ?_
  refine r_iadd C dX6_weight_105 ?_
  refine r_iload_n C rfl dX6_weight_106 ?_
  refine r_iconstv C 2 rfl dX6_weight_107 ?_
  refine t_icmp_ne C 122 (by decide) (show (kM h i).toInt = 0 by rw [hk]; rfl) (show (2 : Int32).toInt = 2 from rfl) dX6_weight_108 (fun c108 => ?_) (fun c108 => absurd c108 (by decide))
  refine r_iconstv C 0 rfl dX6_weight_122 ?_
  refine r_iadd C dX6_weight_123 ?_
  exact r_iret C dX6_weight_124 rfl (Nat.le_refl _) rfl rfl

set_option maxHeartbeats 4000000 in
set_option maxRecDepth 100000 in
theorem sp_weightM1 (G : oG) {h : oH} (hs : oSh h) (v : Int32) {i : Nat} (hv : v.toInt = (i : Int)) (hi : i < 24) {z : Nat} (hz : hI h 12 44 = nI z) (hl : z + 1 < 16) (hk : kM h i = 1) : oSp G mX6_weight [.ref 12, .int v] h (some (.int (hI h 17 i - hI h 18 i + hI h 19 i + 0))) (pM (pM h z 11) (z + 1) 10) := by
  refine oSp.intro [some (.ref 12), some (.int v), none, none, none] rfl (Nat.le_of_ble_eq_true rfl) (plainFor_of_name (by decide +kernel)) (Nat.le_refl _) ?_
  intro p l e R s m args below meth c C
  refine r_aload_n C rfl rfl dX6_weight_0 ?_
  refine r_iload_n C rfl dX6_weight_1 ?_
  refine r_callV C (sp_kindOf G (by exact hs) _ hv hi) kv_X6_kindOf kn_X6_kindOf rfl dX6_weight_2 cl_X6_275 ⟨Nat.le_of_ble_eq_true rfl, Nat.le_of_ble_eq_true rfl⟩ (by decide) rfl rfl (q_lt hs (by decide)) (Nat.le_refl _) rfl (Nat.le_of_ble_eq_true rfl) ?_
  refine r_istore_n C rfl (Nat.le_of_ble_eq_true rfl) dX6_weight_5 ?_
  refine r_iload_n C rfl dX6_weight_6 ?_
  refine r_iconstv C 1 rfl dX6_weight_7 ?_
  refine t_icmp_eq C 16 (by decide) (show (kM h i).toInt = 1 by rw [hk]; rfl) (show (1 : Int32).toInt = 1 from rfl) dX6_weight_8 (fun c8 => ?_) (fun c8 => absurd c8 (by decide))
  refine r_iconstv C 1 rfl dX6_weight_16 ?_
  refine r_goto C 21 (by decide) dX6_weight_17 ?_
  refine r_istore_n C rfl (Nat.le_of_ble_eq_true rfl) dX6_weight_21 ?_
  refine r_iload_n C rfl dX6_weight_22 ?_
  refine r_iconstv C 3 rfl dX6_weight_23 ?_
  refine t_icmp_ne C 33 (by decide) (show (kM h i).toInt = 1 by rw [hk]; rfl) (show (3 : Int32).toInt = 3 from rfl) dX6_weight_24 (fun c24 => ?_) (fun c24 => absurd c24 (by decide))
  refine r_iload_n C rfl dX6_weight_33 ?_
  refine r_iconstv C 2 rfl dX6_weight_34 ?_
  refine t_icmp_ne C 44 (by decide) (show (kM h i).toInt = 1 by rw [hk]; rfl) (show (2 : Int32).toInt = 2 from rfl) dX6_weight_35 (fun c35 => ?_) (fun c35 => absurd c35 (by decide))
  refine r_iload_n C rfl dX6_weight_44 ?_
  refine t_if_eq C 54 (by decide) (show (1 : Int32).toInt = 1 from rfl) dX6_weight_45 (fun c45 => absurd c45 (by decide)) (fun c45 => ?_)
  refine r_aload_n C rfl rfl dX6_weight_48 ?_
  refine r_bipush C 11 rfl dX6_weight_49 ?_
  refine r_callV C (sp_began G (by exact hs) (by exact hz) (by omega) _) kv_X6_began kn_X6_began rfl dX6_weight_51 cl_X6_284 ⟨Nat.le_of_ble_eq_true rfl, Nat.le_of_ble_eq_true rfl⟩ (by decide) rfl rfl (q_lt hs (by decide)) (Nat.le_refl _) rfl (Nat.le_of_ble_eq_true rfl) ?_
  refine r_aload_n C rfl rfl dX6_weight_54 ?_
  refine r_bipush C 10 rfl dX6_weight_55 ?_
  refine r_callV C (sp_began G (by exact hs) (by exact rfl) (by omega) _) kv_X6_began kn_X6_began rfl dX6_weight_57 cl_X6_284 ⟨Nat.le_of_ble_eq_true rfl, Nat.le_of_ble_eq_true rfl⟩ (by decide) rfl rfl (q_lt hs (by decide)) (Nat.le_refl _) rfl (Nat.le_of_ble_eq_true rfl) ?_
  refine r_aload_n C rfl rfl dX6_weight_60 ?_
  refine r_getO C dX6_weight_61 fl_X6_22 rfl rfl (q_lt hs (by decide)) (sh_12_6 hs) ?_
  refine r_iload_n C rfl dX6_weight_64 ?_
  refine r_iald C (i) (by have t := hv; omega) (by omega) dX6_weight_65 rfl (q_lt hs (by decide)) ?_
  refine r_aload_n C rfl rfl dX6_weight_66 ?_
  refine r_getO C dX6_weight_67 fl_X6_25 rfl rfl (q_lt hs (by decide)) (sh_12_7 hs) ?_
  refine r_iload_n C rfl dX6_weight_70 ?_
  refine r_iald C (i) (by have t := hv; omega) (by omega) dX6_weight_71 rfl (q_lt hs (by decide)) ?_
  refine r_isub C dX6_weight_72 ?_
  refine r_istore C rfl (Nat.le_of_ble_eq_true rfl) dX6_weight_73 ?_
  refine r_iload_n C rfl dX6_weight_75 ?_
  refine r_iconstv C 3 rfl dX6_weight_76 ?_
  refine t_icmp_ne C 89 (by decide) (show (kM h i).toInt = 1 by rw [hk]; rfl) (show (3 : Int32).toInt = 3 from rfl) dX6_weight_77 (fun c77 => ?_) (fun c77 => absurd c77 (by decide))
  refine r_iload C rfl dX6_weight_89 ?_
  refine r_iload_n C rfl dX6_weight_91 ?_
  refine t_if_eq C 104 (by decide) (show (1 : Int32).toInt = 1 from rfl) dX6_weight_92 (fun c92 => absurd c92 (by decide)) (fun c92 => ?_)
  refine r_aload_n C rfl rfl dX6_weight_95 ?_
  refine r_getO C dX6_weight_96 fl_X6_28 rfl rfl (q_lt hs (by decide)) (sh_12_8 hs) ?_
  refine r_iload_n C rfl dX6_weight_99 ?_
  refine r_iald C (i) (by have t := hv; omega) (by omega) dX6_weight_100 rfl (q_lt hs (by decide)) ?_
  refine r_goto C 105 (by decide) dX6_weight_101 ?_
  refine r_iadd C dX6_weight_105 ?_
  refine r_iload_n C rfl dX6_weight_106 ?_
  refine r_iconstv C 2 rfl dX6_weight_107 ?_
  refine t_icmp_ne C 122 (by decide) (show (kM h i).toInt = 1 by rw [hk]; rfl) (show (2 : Int32).toInt = 2 from rfl) dX6_weight_108 (fun c108 => ?_) (fun c108 => absurd c108 (by decide))
  refine r_iconstv C 0 rfl dX6_weight_122 ?_
  refine r_iadd C dX6_weight_123 ?_
  exact r_iret C dX6_weight_124 rfl (Nat.le_refl _) rfl rfl

set_option maxHeartbeats 4000000 in
set_option maxRecDepth 100000 in
theorem sp_weightM2 (G : oG) {h : oH} (hs : oSh h) (v : Int32) {i : Nat} (hv : v.toInt = (i : Int)) (hi : i < 24) {z : Nat} (hz : hI h 12 44 = nI z) (hl : z + 2 < 16) (hk : kM h i = 2) : oSp G mX6_weight [.ref 12, .int v] h (some (.int (hI h 17 i - hI h 18 i + hI h 19 i + hI h 16 (4 * i)))) (pM (pM (pM h z 12) (z + 1) 11) (z + 2) 10) := by
  refine oSp.intro [some (.ref 12), some (.int v), none, none, none] rfl (Nat.le_of_ble_eq_true rfl) (plainFor_of_name (by decide +kernel)) (Nat.le_refl _) ?_
  intro p l e R s m args below meth c C
  refine r_aload_n C rfl rfl dX6_weight_0 ?_
  refine r_iload_n C rfl dX6_weight_1 ?_
  refine r_callV C (sp_kindOf G (by exact hs) _ hv hi) kv_X6_kindOf kn_X6_kindOf rfl dX6_weight_2 cl_X6_275 ⟨Nat.le_of_ble_eq_true rfl, Nat.le_of_ble_eq_true rfl⟩ (by decide) rfl rfl (q_lt hs (by decide)) (Nat.le_refl _) rfl (Nat.le_of_ble_eq_true rfl) ?_
  refine r_istore_n C rfl (Nat.le_of_ble_eq_true rfl) dX6_weight_5 ?_
  refine r_iload_n C rfl dX6_weight_6 ?_
  refine r_iconstv C 1 rfl dX6_weight_7 ?_
  refine t_icmp_eq C 16 (by decide) (show (kM h i).toInt = 2 by rw [hk]; rfl) (show (1 : Int32).toInt = 1 from rfl) dX6_weight_8 (fun c8 => absurd c8 (by decide)) (fun c8 => ?_)
  refine r_iload_n C rfl dX6_weight_11 ?_
  refine r_iconstv C 2 rfl dX6_weight_12 ?_
  refine t_icmp_ne C 20 (by decide) (show (kM h i).toInt = 2 by rw [hk]; rfl) (show (2 : Int32).toInt = 2 from rfl) dX6_weight_13 (fun c13 => absurd c13 (by decide)) (fun c13 => ?_)
  refine r_iconstv C 1 rfl dX6_weight_16 ?_
  refine r_goto C 21 (by decide) dX6_weight_17 ?_
  refine r_istore_n C rfl (Nat.le_of_ble_eq_true rfl) dX6_weight_21 ?_
  refine r_iload_n C rfl dX6_weight_22 ?_
  refine r_iconstv C 3 rfl dX6_weight_23 ?_
  refine t_icmp_ne C 33 (by decide) (show (kM h i).toInt = 2 by rw [hk]; rfl) (show (3 : Int32).toInt = 3 from rfl) dX6_weight_24 (fun c24 => ?_) (fun c24 => absurd c24 (by decide))
  refine r_iload_n C rfl dX6_weight_33 ?_
  refine r_iconstv C 2 rfl dX6_weight_34 ?_
  refine t_icmp_ne C 44 (by decide) (show (kM h i).toInt = 2 by rw [hk]; rfl) (show (2 : Int32).toInt = 2 from rfl) dX6_weight_35 (fun c35 => absurd c35 (by decide)) (fun c35 => ?_)
  refine r_aload_n C rfl rfl dX6_weight_38 ?_
  refine r_bipush C 12 rfl dX6_weight_39 ?_
  refine r_callV C (sp_began G (by exact hs) (by exact hz) (by omega) _) kv_X6_began kn_X6_began rfl dX6_weight_41 cl_X6_284 ⟨Nat.le_of_ble_eq_true rfl, Nat.le_of_ble_eq_true rfl⟩ (by decide) rfl rfl (q_lt hs (by decide)) (Nat.le_refl _) rfl (Nat.le_of_ble_eq_true rfl) ?_
  refine r_iload_n C rfl dX6_weight_44 ?_
  refine t_if_eq C 54 (by decide) (show (1 : Int32).toInt = 1 from rfl) dX6_weight_45 (fun c45 => absurd c45 (by decide)) (fun c45 => ?_)
  refine r_aload_n C rfl rfl dX6_weight_48 ?_
  refine r_bipush C 11 rfl dX6_weight_49 ?_
  refine r_callV C (sp_began G (by exact hs) (by exact rfl) (by omega) _) kv_X6_began kn_X6_began rfl dX6_weight_51 cl_X6_284 ⟨Nat.le_of_ble_eq_true rfl, Nat.le_of_ble_eq_true rfl⟩ (by decide) rfl rfl (q_lt hs (by decide)) (Nat.le_refl _) rfl (Nat.le_of_ble_eq_true rfl) ?_
  refine r_aload_n C rfl rfl dX6_weight_54 ?_
  refine r_bipush C 10 rfl dX6_weight_55 ?_
  refine r_callV C (sp_began G (by exact hs) (by exact rfl) (by omega) _) kv_X6_began kn_X6_began rfl dX6_weight_57 cl_X6_284 ⟨Nat.le_of_ble_eq_true rfl, Nat.le_of_ble_eq_true rfl⟩ (by decide) rfl rfl (q_lt hs (by decide)) (Nat.le_refl _) rfl (Nat.le_of_ble_eq_true rfl) ?_
  refine r_aload_n C rfl rfl dX6_weight_60 ?_
  refine r_getO C dX6_weight_61 fl_X6_22 rfl rfl (q_lt hs (by decide)) (sh_12_6 hs) ?_
  refine r_iload_n C rfl dX6_weight_64 ?_
  refine r_iald C (i) (by have t := hv; omega) (by omega) dX6_weight_65 rfl (q_lt hs (by decide)) ?_
  refine r_aload_n C rfl rfl dX6_weight_66 ?_
  refine r_getO C dX6_weight_67 fl_X6_25 rfl rfl (q_lt hs (by decide)) (sh_12_7 hs) ?_
  refine r_iload_n C rfl dX6_weight_70 ?_
  refine r_iald C (i) (by have t := hv; omega) (by omega) dX6_weight_71 rfl (q_lt hs (by decide)) ?_
  refine r_isub C dX6_weight_72 ?_
  refine r_istore C rfl (Nat.le_of_ble_eq_true rfl) dX6_weight_73 ?_
  refine r_iload_n C rfl dX6_weight_75 ?_
  refine r_iconstv C 3 rfl dX6_weight_76 ?_
  refine t_icmp_ne C 89 (by decide) (show (kM h i).toInt = 2 by rw [hk]; rfl) (show (3 : Int32).toInt = 3 from rfl) dX6_weight_77 (fun c77 => ?_) (fun c77 => absurd c77 (by decide))
  refine r_iload C rfl dX6_weight_89 ?_
  refine r_iload_n C rfl dX6_weight_91 ?_
  refine t_if_eq C 104 (by decide) (show (1 : Int32).toInt = 1 from rfl) dX6_weight_92 (fun c92 => absurd c92 (by decide)) (fun c92 => ?_)
  refine r_aload_n C rfl rfl dX6_weight_95 ?_
  refine r_getO C dX6_weight_96 fl_X6_28 rfl rfl (q_lt hs (by decide)) (sh_12_8 hs) ?_
  refine r_iload_n C rfl dX6_weight_99 ?_
  refine r_iald C (i) (by have t := hv; omega) (by omega) dX6_weight_100 rfl (q_lt hs (by decide)) ?_
  refine r_goto C 105 (by decide) dX6_weight_101 ?_
  refine r_iadd C dX6_weight_105 ?_
  refine r_iload_n C rfl dX6_weight_106 ?_
  refine r_iconstv C 2 rfl dX6_weight_107 ?_
  refine t_icmp_ne C 122 (by decide) (show (kM h i).toInt = 2 by rw [hk]; rfl) (show (2 : Int32).toInt = 2 from rfl) dX6_weight_108 (fun c108 => absurd c108 (by decide)) (fun c108 => ?_)
  refine r_aload_n C rfl rfl dX6_weight_111 ?_
  refine r_getO C dX6_weight_112 fl_X6_19 rfl rfl (q_lt hs (by decide)) (sh_12_5 hs) ?_
  refine r_iconstv C 4 rfl dX6_weight_115 ?_
  refine r_iload_n C rfl dX6_weight_116 ?_
  refine r_imul C dX6_weight_117 ?_
  refine r_iald C ((4) * (i)) (by have t := (tM (show (4 : Int32).toInt = 4 from rfl) hv (by omega)); omega) (by omega) dX6_weight_118 rfl (q_lt hs (by decide)) ?_
  refine r_goto C 123 (by decide) dX6_weight_119 ?_
  refine r_iadd C dX6_weight_123 ?_
  exact r_iret C dX6_weight_124 rfl (Nat.le_refl _) rfl rfl

set_option maxHeartbeats 4000000 in
set_option maxRecDepth 100000 in
theorem sp_weightM3 (G : oG) {h : oH} (hs : oSh h) (v : Int32) {i : Nat} (hv : v.toInt = (i : Int)) (hi : i < 24) {z : Nat} (hz : hI h 12 44 = nI z) (hl : z + 1 < 16) (hk : kM h i = 3) : oSp G mX6_weight [.ref 12, .int v] h (some (.int (hI h 17 i - hI h 18 i + 5000))) (pM (pM h z 13) (z + 1) 10) := by
  refine oSp.intro [some (.ref 12), some (.int v), none, none, none] rfl (Nat.le_of_ble_eq_true rfl) (plainFor_of_name (by decide +kernel)) (Nat.le_refl _) ?_
  intro p l e R s m args below meth c C
  refine r_aload_n C rfl rfl dX6_weight_0 ?_
  refine r_iload_n C rfl dX6_weight_1 ?_
  refine r_callV C (sp_kindOf G (by exact hs) _ hv hi) kv_X6_kindOf kn_X6_kindOf rfl dX6_weight_2 cl_X6_275 ⟨Nat.le_of_ble_eq_true rfl, Nat.le_of_ble_eq_true rfl⟩ (by decide) rfl rfl (q_lt hs (by decide)) (Nat.le_refl _) rfl (Nat.le_of_ble_eq_true rfl) ?_
  refine r_istore_n C rfl (Nat.le_of_ble_eq_true rfl) dX6_weight_5 ?_
  refine r_iload_n C rfl dX6_weight_6 ?_
  refine r_iconstv C 1 rfl dX6_weight_7 ?_
  refine t_icmp_eq C 16 (by decide) (show (kM h i).toInt = 3 by rw [hk]; rfl) (show (1 : Int32).toInt = 1 from rfl) dX6_weight_8 (fun c8 => absurd c8 (by decide)) (fun c8 => ?_)
  refine r_iload_n C rfl dX6_weight_11 ?_
  refine r_iconstv C 2 rfl dX6_weight_12 ?_
  refine t_icmp_ne C 20 (by decide) (show (kM h i).toInt = 3 by rw [hk]; rfl) (show (2 : Int32).toInt = 2 from rfl) dX6_weight_13 (fun c13 => ?_) (fun c13 => absurd c13 (by decide))
  refine r_iconstv C 0 rfl dX6_weight_20 ?_
  refine r_istore_n C rfl (Nat.le_of_ble_eq_true rfl) dX6_weight_21 ?_
  refine r_iload_n C rfl dX6_weight_22 ?_
  refine r_iconstv C 3 rfl dX6_weight_23 ?_
  refine t_icmp_ne C 33 (by decide) (show (kM h i).toInt = 3 by rw [hk]; rfl) (show (3 : Int32).toInt = 3 from rfl) dX6_weight_24 (fun c24 => absurd c24 (by decide)) (fun c24 => ?_)
  refine r_aload_n C rfl rfl dX6_weight_27 ?_
  refine r_bipush C 13 rfl dX6_weight_28 ?_
  refine r_callV C (sp_began G (by exact hs) (by exact hz) (by omega) _) kv_X6_began kn_X6_began rfl dX6_weight_30 cl_X6_284 ⟨Nat.le_of_ble_eq_true rfl, Nat.le_of_ble_eq_true rfl⟩ (by decide) rfl rfl (q_lt hs (by decide)) (Nat.le_refl _) rfl (Nat.le_of_ble_eq_true rfl) ?_
  refine r_iload_n C rfl dX6_weight_33 ?_
  refine r_iconstv C 2 rfl dX6_weight_34 ?_
  refine t_icmp_ne C 44 (by decide) (show (kM h i).toInt = 3 by rw [hk]; rfl) (show (2 : Int32).toInt = 2 from rfl) dX6_weight_35 (fun c35 => ?_) (fun c35 => absurd c35 (by decide))
  refine r_iload_n C rfl dX6_weight_44 ?_
  refine t_if_eq C 54 (by decide) (show (0 : Int32).toInt = 0 from rfl) dX6_weight_45 (fun c45 => ?_) (fun c45 => absurd c45 (by decide))
  refine r_aload_n C rfl rfl dX6_weight_54 ?_
  refine r_bipush C 10 rfl dX6_weight_55 ?_
  refine r_callV C (sp_began G (by exact hs) (by exact rfl) (by omega) _) kv_X6_began kn_X6_began rfl dX6_weight_57 cl_X6_284 ⟨Nat.le_of_ble_eq_true rfl, Nat.le_of_ble_eq_true rfl⟩ (by decide) rfl rfl (q_lt hs (by decide)) (Nat.le_refl _) rfl (Nat.le_of_ble_eq_true rfl) ?_
  refine r_aload_n C rfl rfl dX6_weight_60 ?_
  refine r_getO C dX6_weight_61 fl_X6_22 rfl rfl (q_lt hs (by decide)) (sh_12_6 hs) ?_
  refine r_iload_n C rfl dX6_weight_64 ?_
  refine r_iald C (i) (by have t := hv; omega) (by omega) dX6_weight_65 rfl (q_lt hs (by decide)) ?_
  refine r_aload_n C rfl rfl dX6_weight_66 ?_
  refine r_getO C dX6_weight_67 fl_X6_25 rfl rfl (q_lt hs (by decide)) (sh_12_7 hs) ?_
  refine r_iload_n C rfl dX6_weight_70 ?_
  refine r_iald C (i) (by have t := hv; omega) (by omega) dX6_weight_71 rfl (q_lt hs (by decide)) ?_
  refine r_isub C dX6_weight_72 ?_
  refine r_istore C rfl (Nat.le_of_ble_eq_true rfl) dX6_weight_73 ?_
  refine r_iload_n C rfl dX6_weight_75 ?_
  refine r_iconstv C 3 rfl dX6_weight_76 ?_
  refine t_icmp_ne C 89 (by decide) (show (kM h i).toInt = 3 by rw [hk]; rfl) (show (3 : Int32).toInt = 3 from rfl) dX6_weight_77 (fun c77 => absurd c77 (by decide)) (fun c77 => ?_)
  refine r_iload C rfl dX6_weight_80 ?_
  refine r_sipush C 5000 rfl dX6_weight_82 ?_
  refine r_iadd C dX6_weight_85 ?_
  refine r_goto C 124 (by decide) dX6_weight_86 ?_
  exact r_iret C dX6_weight_124 rfl (Nat.le_refl _) rfl rfl

theorem kM_pM {h : oH} {i z : Nat} {v : Int32} : kM (pM h z v) i = kM h i := rfl
set_option maxHeartbeats 4000000 in
set_option maxRecDepth 100000 in
theorem sp_marked0 (G : oG) {h : oH} (hs : oSh h) (v : Int32) {i : Nat} (hv : v.toInt = (i : Int)) (hi : i < 24) {z : Nat} (hz : hI h 12 44 = nI z) (hl : z + 0 < 16) (hk : kM h i = 0) : oSp G mX6_marked [.ref 12, .int v] h (some (.int (hI h 15 i + 0))) (pM h z 20) := by
  refine oSp.intro [some (.ref 12), some (.int v), none, none] rfl (Nat.le_of_ble_eq_true rfl) (plainFor_of_name (by decide +kernel)) (Nat.le_refl _) ?_
  intro p l e R s m args below meth c C
  refine r_aload_n C rfl rfl dX6_marked_0 ?_
  refine r_iload_n C rfl dX6_marked_1 ?_
  refine r_callV C (sp_kindOf G (by exact hs) _ hv hi) kv_X6_kindOf kn_X6_kindOf rfl dX6_marked_2 cl_X6_275 ⟨Nat.le_of_ble_eq_true rfl, Nat.le_of_ble_eq_true rfl⟩ (by decide) rfl rfl (q_lt hs (by decide)) (Nat.le_refl _) rfl (Nat.le_of_ble_eq_true rfl) ?_
  refine r_istore_n C rfl (Nat.le_of_ble_eq_true rfl) dX6_marked_5 ?_
  refine r_iload_n C rfl dX6_marked_6 ?_
  refine r_iconstv C 1 rfl dX6_marked_7 ?_
  refine t_icmp_eq C 16 (by decide) (show (kM h i).toInt = 0 by rw [hk]; rfl) (show (1 : Int32).toInt = 1 from rfl) dX6_marked_8 (fun c8 => absurd c8 (by decide)) (fun c8 => ?_)
  refine r_iload_n C rfl dX6_marked_11 ?_
  refine r_iconstv C 2 rfl dX6_marked_12 ?_
  refine t_icmp_ne C 20 (by decide) (show (kM h i).toInt = 0 by rw [hk]; rfl) (show (2 : Int32).toInt = 2 from rfl) dX6_marked_13 (fun c13 => ?_) (fun c13 => absurd c13 (by decide))
  refine r_iconstv C 0 rfl dX6_marked_20 ?_
  refine r_istore_n C rfl (Nat.le_of_ble_eq_true rfl) dX6_marked_21 ?_
  refine r_iload_n C rfl dX6_marked_22 ?_
  refine r_iconstv C 3 rfl dX6_marked_23 ?_
  refine t_icmp_ne C 33 (by decide) (show (kM h i).toInt = 0 by rw [hk]; rfl) (show (3 : Int32).toInt = 3 from rfl) dX6_marked_24 (fun c24 => ?_) (fun c24 => absurd c24 (by decide))
  refine r_iload_n C rfl dX6_marked_33 ?_
  refine t_if_eq C 43 (by decide) (show (0 : Int32).toInt = 0 from rfl) dX6_marked_34 (fun c34 => ?_) (fun c34 => absurd c34 (by decide))
  refine r_aload_n C rfl rfl dX6_marked_43 ?_
  refine r_bipush C 20 rfl dX6_marked_44 ?_
  refine r_callV C (sp_began G (by exact hs) (by exact hz) (by omega) _) kv_X6_began kn_X6_began rfl dX6_marked_46 cl_X6_284 ⟨Nat.le_of_ble_eq_true rfl, Nat.le_of_ble_eq_true rfl⟩ (by decide) rfl rfl (q_lt hs (by decide)) (Nat.le_refl _) rfl (Nat.le_of_ble_eq_true rfl) ?_
  refine r_aload_n C rfl rfl dX6_marked_49 ?_
  refine r_getO C dX6_marked_50 fl_X6_16 rfl rfl (q_lt hs (by decide)) (sh_12_4 hs) ?_
  refine r_iload_n C rfl dX6_marked_53 ?_
  refine r_iald C (i) (by have t := hv; omega) (by omega) dX6_marked_54 rfl (q_lt hs (by decide)) ?_
  refine r_iload_n C rfl dX6_marked_55 ?_
  refine t_if_eq C 67 (by decide) (show (0 : Int32).toInt = 0 from rfl) dX6_marked_56 (fun c56 => ?_) (fun c56 => absurd c56 (by decide))
  refine r_iload_n C rfl dX6_marked_67 ?_
  refine r_iconstv C 3 rfl dX6_marked_68 ?_
  refine t_icmp_ne C 81 (by decide) (show (kM h i).toInt = 0 by rw [hk]; rfl) (show (3 : Int32).toInt = 3 from rfl) dX6_marked_69 (fun c69 => ?_) (fun c69 => absurd c69 (by decide))
  refine r_iconstv C 0 rfl dX6_marked_81 ?_
  refine r_iadd C dX6_marked_82 ?_
  exact r_iret C dX6_marked_83 rfl (Nat.le_refl _) rfl rfl

set_option maxHeartbeats 4000000 in
set_option maxRecDepth 100000 in
theorem sp_marked1 (G : oG) {h : oH} (hs : oSh h) (v : Int32) {i : Nat} (hv : v.toInt = (i : Int)) (hi : i < 24) {z : Nat} (hz : hI h 12 44 = nI z) (hl : z + 3 < 16) (hk : kM h i = 1) : oSp G mX6_marked [.ref 12, .int v] h (some (.int (hI h 15 i + (hI h 17 i - hI h 18 i + hI h 19 i + 0)))) (pM (pM (pM (pM h z 21) (z + 1) 20) (z + 2) 11) (z + 3) 10) := by
  refine oSp.intro [some (.ref 12), some (.int v), none, none] rfl (Nat.le_of_ble_eq_true rfl) (plainFor_of_name (by decide +kernel)) (Nat.le_refl _) ?_
  intro p l e R s m args below meth c C
  refine r_aload_n C rfl rfl dX6_marked_0 ?_
  refine r_iload_n C rfl dX6_marked_1 ?_
  refine r_callV C (sp_kindOf G (by exact hs) _ hv hi) kv_X6_kindOf kn_X6_kindOf rfl dX6_marked_2 cl_X6_275 ⟨Nat.le_of_ble_eq_true rfl, Nat.le_of_ble_eq_true rfl⟩ (by decide) rfl rfl (q_lt hs (by decide)) (Nat.le_refl _) rfl (Nat.le_of_ble_eq_true rfl) ?_
  refine r_istore_n C rfl (Nat.le_of_ble_eq_true rfl) dX6_marked_5 ?_
  refine r_iload_n C rfl dX6_marked_6 ?_
  refine r_iconstv C 1 rfl dX6_marked_7 ?_
  refine t_icmp_eq C 16 (by decide) (show (kM h i).toInt = 1 by rw [hk]; rfl) (show (1 : Int32).toInt = 1 from rfl) dX6_marked_8 (fun c8 => ?_) (fun c8 => absurd c8 (by decide))
  refine r_iconstv C 1 rfl dX6_marked_16 ?_
  refine r_goto C 21 (by decide) dX6_marked_17 ?_
  refine r_istore_n C rfl (Nat.le_of_ble_eq_true rfl) dX6_marked_21 ?_
  refine r_iload_n C rfl dX6_marked_22 ?_
  refine r_iconstv C 3 rfl dX6_marked_23 ?_
  refine t_icmp_ne C 33 (by decide) (show (kM h i).toInt = 1 by rw [hk]; rfl) (show (3 : Int32).toInt = 3 from rfl) dX6_marked_24 (fun c24 => ?_) (fun c24 => absurd c24 (by decide))
  refine r_iload_n C rfl dX6_marked_33 ?_
  refine t_if_eq C 43 (by decide) (show (1 : Int32).toInt = 1 from rfl) dX6_marked_34 (fun c34 => absurd c34 (by decide)) (fun c34 => ?_)
  refine r_aload_n C rfl rfl dX6_marked_37 ?_
  refine r_bipush C 21 rfl dX6_marked_38 ?_
  refine r_callV C (sp_began G (by exact hs) (by exact hz) (by omega) _) kv_X6_began kn_X6_began rfl dX6_marked_40 cl_X6_284 ⟨Nat.le_of_ble_eq_true rfl, Nat.le_of_ble_eq_true rfl⟩ (by decide) rfl rfl (q_lt hs (by decide)) (Nat.le_refl _) rfl (Nat.le_of_ble_eq_true rfl) ?_
  refine r_aload_n C rfl rfl dX6_marked_43 ?_
  refine r_bipush C 20 rfl dX6_marked_44 ?_
  refine r_callV C (sp_began G (by exact hs) (by exact rfl) (by omega) _) kv_X6_began kn_X6_began rfl dX6_marked_46 cl_X6_284 ⟨Nat.le_of_ble_eq_true rfl, Nat.le_of_ble_eq_true rfl⟩ (by decide) rfl rfl (q_lt hs (by decide)) (Nat.le_refl _) rfl (Nat.le_of_ble_eq_true rfl) ?_
  refine r_aload_n C rfl rfl dX6_marked_49 ?_
  refine r_getO C dX6_marked_50 fl_X6_16 rfl rfl (q_lt hs (by decide)) (sh_12_4 hs) ?_
  refine r_iload_n C rfl dX6_marked_53 ?_
  refine r_iald C (i) (by have t := hv; omega) (by omega) dX6_marked_54 rfl (q_lt hs (by decide)) ?_
  refine r_iload_n C rfl dX6_marked_55 ?_
  refine t_if_eq C 67 (by decide) (show (1 : Int32).toInt = 1 from rfl) dX6_marked_56 (fun c56 => absurd c56 (by decide)) (fun c56 => ?_)
  refine r_aload_n C rfl rfl dX6_marked_59 ?_
  refine r_iload_n C rfl dX6_marked_60 ?_
  refine r_callV C (sp_weightM1 G (by exact hs) _ hv hi (by exact rfl) (by omega) (by exact hk)) kv_X6_weight kn_X6_weight rfl dX6_marked_61 cl_X6_287 ⟨Nat.le_of_ble_eq_true rfl, Nat.le_of_ble_eq_true rfl⟩ (by decide) rfl rfl (q_lt hs (by decide)) (Nat.le_refl _) rfl (Nat.le_of_ble_eq_true rfl) ?_
  refine r_goto C 82 (by decide) dX6_marked_64 ?_
  refine r_iadd C dX6_marked_82 ?_
  exact r_iret C dX6_marked_83 rfl (Nat.le_refl _) rfl rfl

set_option maxHeartbeats 4000000 in
set_option maxRecDepth 100000 in
theorem sp_marked2 (G : oG) {h : oH} (hs : oSh h) (v : Int32) {i : Nat} (hv : v.toInt = (i : Int)) (hi : i < 24) {z : Nat} (hz : hI h 12 44 = nI z) (hl : z + 4 < 16) (hk : kM h i = 2) : oSp G mX6_marked [.ref 12, .int v] h (some (.int (hI h 15 i + (hI h 17 i - hI h 18 i + hI h 19 i + hI h 16 (4 * i))))) (pM (pM (pM (pM (pM h z 21) (z + 1) 20) (z + 2) 12) (z + 3) 11) (z + 4) 10) := by
  refine oSp.intro [some (.ref 12), some (.int v), none, none] rfl (Nat.le_of_ble_eq_true rfl) (plainFor_of_name (by decide +kernel)) (Nat.le_refl _) ?_
  intro p l e R s m args below meth c C
  refine r_aload_n C rfl rfl dX6_marked_0 ?_
  refine r_iload_n C rfl dX6_marked_1 ?_
  refine r_callV C (sp_kindOf G (by exact hs) _ hv hi) kv_X6_kindOf kn_X6_kindOf rfl dX6_marked_2 cl_X6_275 ⟨Nat.le_of_ble_eq_true rfl, Nat.le_of_ble_eq_true rfl⟩ (by decide) rfl rfl (q_lt hs (by decide)) (Nat.le_refl _) rfl (Nat.le_of_ble_eq_true rfl) ?_
  refine r_istore_n C rfl (Nat.le_of_ble_eq_true rfl) dX6_marked_5 ?_
  refine r_iload_n C rfl dX6_marked_6 ?_
  refine r_iconstv C 1 rfl dX6_marked_7 ?_
  refine t_icmp_eq C 16 (by decide) (show (kM h i).toInt = 2 by rw [hk]; rfl) (show (1 : Int32).toInt = 1 from rfl) dX6_marked_8 (fun c8 => absurd c8 (by decide)) (fun c8 => ?_)
  refine r_iload_n C rfl dX6_marked_11 ?_
  refine r_iconstv C 2 rfl dX6_marked_12 ?_
  refine t_icmp_ne C 20 (by decide) (show (kM h i).toInt = 2 by rw [hk]; rfl) (show (2 : Int32).toInt = 2 from rfl) dX6_marked_13 (fun c13 => absurd c13 (by decide)) (fun c13 => ?_)
  refine r_iconstv C 1 rfl dX6_marked_16 ?_
  refine r_goto C 21 (by decide) dX6_marked_17 ?_
  refine r_istore_n C rfl (Nat.le_of_ble_eq_true rfl) dX6_marked_21 ?_
  refine r_iload_n C rfl dX6_marked_22 ?_
  refine r_iconstv C 3 rfl dX6_marked_23 ?_
  refine t_icmp_ne C 33 (by decide) (show (kM h i).toInt = 2 by rw [hk]; rfl) (show (3 : Int32).toInt = 3 from rfl) dX6_marked_24 (fun c24 => ?_) (fun c24 => absurd c24 (by decide))
  refine r_iload_n C rfl dX6_marked_33 ?_
  refine t_if_eq C 43 (by decide) (show (1 : Int32).toInt = 1 from rfl) dX6_marked_34 (fun c34 => absurd c34 (by decide)) (fun c34 => ?_)
  refine r_aload_n C rfl rfl dX6_marked_37 ?_
  refine r_bipush C 21 rfl dX6_marked_38 ?_
  refine r_callV C (sp_began G (by exact hs) (by exact hz) (by omega) _) kv_X6_began kn_X6_began rfl dX6_marked_40 cl_X6_284 ⟨Nat.le_of_ble_eq_true rfl, Nat.le_of_ble_eq_true rfl⟩ (by decide) rfl rfl (q_lt hs (by decide)) (Nat.le_refl _) rfl (Nat.le_of_ble_eq_true rfl) ?_
  refine r_aload_n C rfl rfl dX6_marked_43 ?_
  refine r_bipush C 20 rfl dX6_marked_44 ?_
  refine r_callV C (sp_began G (by exact hs) (by exact rfl) (by omega) _) kv_X6_began kn_X6_began rfl dX6_marked_46 cl_X6_284 ⟨Nat.le_of_ble_eq_true rfl, Nat.le_of_ble_eq_true rfl⟩ (by decide) rfl rfl (q_lt hs (by decide)) (Nat.le_refl _) rfl (Nat.le_of_ble_eq_true rfl) ?_
  refine r_aload_n C rfl rfl dX6_marked_49 ?_
  refine r_getO C dX6_marked_50 fl_X6_16 rfl rfl (q_lt hs (by decide)) (sh_12_4 hs) ?_
  refine r_iload_n C rfl dX6_marked_53 ?_
  refine r_iald C (i) (by have t := hv; omega) (by omega) dX6_marked_54 rfl (q_lt hs (by decide)) ?_
  refine r_iload_n C rfl dX6_marked_55 ?_
  refine t_if_eq C 67 (by decide) (show (1 : Int32).toInt = 1 from rfl) dX6_marked_56 (fun c56 => absurd c56 (by decide)) (fun c56 => ?_)
  refine r_aload_n C rfl rfl dX6_marked_59 ?_
  refine r_iload_n C rfl dX6_marked_60 ?_
  refine r_callV C (sp_weightM2 G (by exact hs) _ hv hi (by exact rfl) (by omega) (by exact hk)) kv_X6_weight kn_X6_weight rfl dX6_marked_61 cl_X6_287 ⟨Nat.le_of_ble_eq_true rfl, Nat.le_of_ble_eq_true rfl⟩ (by decide) rfl rfl (q_lt hs (by decide)) (Nat.le_refl _) rfl (Nat.le_of_ble_eq_true rfl) ?_
  refine r_goto C 82 (by decide) dX6_marked_64 ?_
  refine r_iadd C dX6_marked_82 ?_
  exact r_iret C dX6_marked_83 rfl (Nat.le_refl _) rfl rfl

set_option maxHeartbeats 4000000 in
set_option maxRecDepth 100000 in
theorem sp_marked3 (G : oG) {h : oH} (hs : oSh h) (v : Int32) {i : Nat} (hv : v.toInt = (i : Int)) (hi : i < 24) {z : Nat} (hz : hI h 12 44 = nI z) (hl : z + 3 < 16) (hk : kM h i = 3) : oSp G mX6_marked [.ref 12, .int v] h (some (.int (hI h 15 i + -(hI h 17 i - hI h 18 i + 5000)))) (pM (pM (pM (pM h z 22) (z + 1) 20) (z + 2) 13) (z + 3) 10) := by
  refine oSp.intro [some (.ref 12), some (.int v), none, none] rfl (Nat.le_of_ble_eq_true rfl) (plainFor_of_name (by decide +kernel)) (Nat.le_refl _) ?_
  intro p l e R s m args below meth c C
  refine r_aload_n C rfl rfl dX6_marked_0 ?_
  refine r_iload_n C rfl dX6_marked_1 ?_
  refine r_callV C (sp_kindOf G (by exact hs) _ hv hi) kv_X6_kindOf kn_X6_kindOf rfl dX6_marked_2 cl_X6_275 ⟨Nat.le_of_ble_eq_true rfl, Nat.le_of_ble_eq_true rfl⟩ (by decide) rfl rfl (q_lt hs (by decide)) (Nat.le_refl _) rfl (Nat.le_of_ble_eq_true rfl) ?_
  refine r_istore_n C rfl (Nat.le_of_ble_eq_true rfl) dX6_marked_5 ?_
  refine r_iload_n C rfl dX6_marked_6 ?_
  refine r_iconstv C 1 rfl dX6_marked_7 ?_
  refine t_icmp_eq C 16 (by decide) (show (kM h i).toInt = 3 by rw [hk]; rfl) (show (1 : Int32).toInt = 1 from rfl) dX6_marked_8 (fun c8 => absurd c8 (by decide)) (fun c8 => ?_)
  refine r_iload_n C rfl dX6_marked_11 ?_
  refine r_iconstv C 2 rfl dX6_marked_12 ?_
  refine t_icmp_ne C 20 (by decide) (show (kM h i).toInt = 3 by rw [hk]; rfl) (show (2 : Int32).toInt = 2 from rfl) dX6_marked_13 (fun c13 => ?_) (fun c13 => absurd c13 (by decide))
  refine r_iconstv C 0 rfl dX6_marked_20 ?_
  refine r_istore_n C rfl (Nat.le_of_ble_eq_true rfl) dX6_marked_21 ?_
  refine r_iload_n C rfl dX6_marked_22 ?_
  refine r_iconstv C 3 rfl dX6_marked_23 ?_
  refine t_icmp_ne C 33 (by decide) (show (kM h i).toInt = 3 by rw [hk]; rfl) (show (3 : Int32).toInt = 3 from rfl) dX6_marked_24 (fun c24 => absurd c24 (by decide)) (fun c24 => ?_)
  refine r_aload_n C rfl rfl dX6_marked_27 ?_
  refine r_bipush C 22 rfl dX6_marked_28 ?_
  refine r_callV C (sp_began G (by exact hs) (by exact hz) (by omega) _) kv_X6_began kn_X6_began rfl dX6_marked_30 cl_X6_284 ⟨Nat.le_of_ble_eq_true rfl, Nat.le_of_ble_eq_true rfl⟩ (by decide) rfl rfl (q_lt hs (by decide)) (Nat.le_refl _) rfl (Nat.le_of_ble_eq_true rfl) ?_
  refine r_iload_n C rfl dX6_marked_33 ?_
  refine t_if_eq C 43 (by decide) (show (0 : Int32).toInt = 0 from rfl) dX6_marked_34 (fun c34 => ?_) (fun c34 => absurd c34 (by decide))
  refine r_aload_n C rfl rfl dX6_marked_43 ?_
  refine r_bipush C 20 rfl dX6_marked_44 ?_
  refine r_callV C (sp_began G (by exact hs) (by exact rfl) (by omega) _) kv_X6_began kn_X6_began rfl dX6_marked_46 cl_X6_284 ⟨Nat.le_of_ble_eq_true rfl, Nat.le_of_ble_eq_true rfl⟩ (by decide) rfl rfl (q_lt hs (by decide)) (Nat.le_refl _) rfl (Nat.le_of_ble_eq_true rfl) ?_
  refine r_aload_n C rfl rfl dX6_marked_49 ?_
  refine r_getO C dX6_marked_50 fl_X6_16 rfl rfl (q_lt hs (by decide)) (sh_12_4 hs) ?_
  refine r_iload_n C rfl dX6_marked_53 ?_
  refine r_iald C (i) (by have t := hv; omega) (by omega) dX6_marked_54 rfl (q_lt hs (by decide)) ?_
  refine r_iload_n C rfl dX6_marked_55 ?_
  refine t_if_eq C 67 (by decide) (show (0 : Int32).toInt = 0 from rfl) dX6_marked_56 (fun c56 => ?_) (fun c56 => absurd c56 (by decide))
  refine r_iload_n C rfl dX6_marked_67 ?_
  refine r_iconstv C 3 rfl dX6_marked_68 ?_
  refine t_icmp_ne C 81 (by decide) (show (kM h i).toInt = 3 by rw [hk]; rfl) (show (3 : Int32).toInt = 3 from rfl) dX6_marked_69 (fun c69 => absurd c69 (by decide)) (fun c69 => ?_)
  refine r_aload_n C rfl rfl dX6_marked_72 ?_
  refine r_iload_n C rfl dX6_marked_73 ?_
  refine r_callV C (sp_weightM3 G (by exact hs) _ hv hi (by exact rfl) (by omega) (by exact hk)) kv_X6_weight kn_X6_weight rfl dX6_marked_74 cl_X6_287 ⟨Nat.le_of_ble_eq_true rfl, Nat.le_of_ble_eq_true rfl⟩ (by decide) rfl rfl (q_lt hs (by decide)) (Nat.le_refl _) rfl (Nat.le_of_ble_eq_true rfl) ?_
  refine r_ineg C dX6_marked_77 ?_
  refine r_goto C 82 (by decide) dX6_marked_78 ?_
  refine r_iadd C dX6_marked_82 ?_
  exact r_iret C dX6_marked_83 rfl (Nat.le_refl _) rfl rfl

