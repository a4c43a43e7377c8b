/-! leaves: the JDK's own small methods, a house, a plan -/
theorem kp_J9_max_7cf53 : plainFor mJ9_max_7cf53.1 = true := by decide +kernel
theorem kp_J9_min_7cf53 : plainFor mJ9_min_7cf53.1 = true := by decide +kernel
theorem kp_J9_abs_0f7a4 : plainFor mJ9_abs_0f7a4.1 = true := by decide +kernel
theorem kp_J9_floorDiv_7cf53 : plainFor mJ9_floorDiv_7cf53.1 = true := by decide +kernel
def mx (x y : Int32) : Int32 := if x.toInt < y.toInt then y else x
def mn (x y : Int32) : Int32 := if y.toInt < x.toInt then y else x
def ab (x : Int32) : Int32 := if 0 ≤ x.toInt then x else -x
theorem mx_t (x y : Int32) : (mx x y).toInt = max x.toInt y.toInt := by
  unfold mx
  split <;> omega
theorem mn_t (x y : Int32) : (mn x y).toInt = min x.toInt y.toInt := by
  unfold mn
  split <;> omega
def fdv (x y : Int32) : Int32 := if (x ^^^ y).toInt < 0 ∧ ¬ (x / y * y).toInt = x.toInt then x / y - 1 else x / y
def cutC (v n : Int32) : Int32 := if n.toInt ≤ 0 then 0 else v / n
def rupC (v n : Int32) : Int32 := if n.toInt ≤ 0 then 0 else -(fdv (-v) n)
theorem oH_ext {h h' : oH} (hn : h'.1 = h.1) (hi : ∀ x y, hI h' x y = hI h x y) (hj : ∀ x y, hJ h' x y = hJ h x y) (hr : ∀ x y, hR h' x y = hR h x y) : h' = h := by
  obtain ⟨n, i, j, r⟩ := h
  obtain ⟨n', i', j', r'⟩ := h'
  have e1 : i' = i := funext fun x => funext fun y => hi x y
  have e2 : j' = j := funext fun x => funext fun y => hj x y
  have e3 : r' = r := funext fun x => funext fun y => hr x y
  have e0 : n' = n := hn
  rw [e0, e1, e2, e3]
set_option maxHeartbeats 4000000 in
set_option maxRecDepth 100000 in
theorem sp_max (G : oG) {h : oH} (x y : Int32) : oSp G mJ9_max_7cf53 [.int x, .int y] h (some (.int (mx x y))) h := by
  refine oSp.intro [some (.int x), some (.int y)] rfl (Nat.le_of_ble_eq_true rfl) kp_J9_max_7cf53 (Nat.le_refl _) ?_
  intro p l e R s m args below meth c C
  refine r_iload_n C rfl dJ9_max_7cf53_0 ?_
  refine r_iload_n C rfl dJ9_max_7cf53_1 ?_
  refine t_icmp_lt C 9 (by decide) rfl rfl dJ9_max_7cf53_2 (fun c2 => ?_) (fun c2 => ?_)
  · refine r_iload_n C rfl dJ9_max_7cf53_9 ?_
    exact r_iret C dJ9_max_7cf53_10 rfl (Nat.le_refl _) (by simp only [mx]; (repeat' split) <;> first | rfl | omega) rfl
  · refine r_iload_n C rfl dJ9_max_7cf53_5 ?_
    refine r_goto C 10 (by decide) dJ9_max_7cf53_6 ?_
    exact r_iret C dJ9_max_7cf53_10 rfl (Nat.le_refl _) (by simp only [mx]; (repeat' split) <;> first | rfl | omega) rfl

set_option maxHeartbeats 4000000 in
set_option maxRecDepth 100000 in
theorem sp_min (G : oG) {h : oH} (x y : Int32) : oSp G mJ9_min_7cf53 [.int x, .int y] h (some (.int (mn x y))) h := by
  refine oSp.intro [some (.int x), some (.int y)] rfl (Nat.le_of_ble_eq_true rfl) kp_J9_min_7cf53 (Nat.le_refl _) ?_
  intro p l e R s m args below meth c C
  refine r_iload_n C rfl dJ9_min_7cf53_0 ?_
  refine r_iload_n C rfl dJ9_min_7cf53_1 ?_
  refine t_icmp_gt C 9 (by decide) rfl rfl dJ9_min_7cf53_2 (fun c2 => ?_) (fun c2 => ?_)
  · refine r_iload_n C rfl dJ9_min_7cf53_9 ?_
    exact r_iret C dJ9_min_7cf53_10 rfl (Nat.le_refl _) (by simp only [mn]; (repeat' split) <;> first | rfl | omega) rfl
  · refine r_iload_n C rfl dJ9_min_7cf53_5 ?_
    refine r_goto C 10 (by decide) dJ9_min_7cf53_6 ?_
    exact r_iret C dJ9_min_7cf53_10 rfl (Nat.le_refl _) (by simp only [mn]; (repeat' split) <;> first | rfl | omega) rfl

set_option maxHeartbeats 4000000 in
set_option maxRecDepth 100000 in
theorem sp_abs (G : oG) {h : oH} (x : Int32) : oSp G mJ9_abs_0f7a4 [.int x] h (some (.int (ab x))) h := by
  refine oSp.intro [some (.int x)] rfl (Nat.le_of_ble_eq_true rfl) kp_J9_abs_0f7a4 (Nat.le_refl _) ?_
  intro p l e R s m args below meth c C
  refine r_iload_n C rfl dJ9_abs_0f7a4_0 ?_
  refine t_if_ge C 9 (by decide) rfl dJ9_abs_0f7a4_1 (fun c1 => ?_) (fun c1 => ?_)
  · refine r_iload_n C rfl dJ9_abs_0f7a4_9 ?_
    exact r_iret C dJ9_abs_0f7a4_10 rfl (Nat.le_refl _) (by simp only [ab]; (repeat' split) <;> first | rfl | omega) rfl
  · refine r_iload_n C rfl dJ9_abs_0f7a4_4 ?_
    refine r_ineg C dJ9_abs_0f7a4_5 ?_
    refine r_goto C 10 (by decide) dJ9_abs_0f7a4_6 ?_
    exact r_iret C dJ9_abs_0f7a4_10 rfl (Nat.le_refl _) (by simp only [ab]; (repeat' split) <;> first | rfl | omega) rfl

set_option maxHeartbeats 4000000 in
set_option maxRecDepth 100000 in
theorem sp_fdv (G : oG) {h : oH} (x y : Int32) (hy : ¬ y = 0) : oSp G mJ9_floorDiv_7cf53 [.int x, .int y] h (some (.int (fdv x y))) h := by
  refine oSp.intro [some (.int x), some (.int y), none] rfl (Nat.le_of_ble_eq_true rfl) kp_J9_floorDiv_7cf53 (Nat.le_refl _) ?_
  intro p l e R s m args below meth c C
  refine r_iload_n C rfl dJ9_floorDiv_7cf53_0 ?_
  refine r_iload_n C rfl dJ9_floorDiv_7cf53_1 ?_
  refine r_idiv C hy dJ9_floorDiv_7cf53_2 ?_
  refine r_istore_n C rfl (Nat.le_of_ble_eq_true rfl) dJ9_floorDiv_7cf53_3 ?_
  refine r_iload_n C rfl dJ9_floorDiv_7cf53_4 ?_
  refine r_iload_n C rfl dJ9_floorDiv_7cf53_5 ?_
  refine r_ixor C dJ9_floorDiv_7cf53_6 ?_
  refine t_if_ge C 21 (by decide) rfl dJ9_floorDiv_7cf53_7 (fun c7 => ?_) (fun c7 => ?_)
  · refine r_iload_n C rfl dJ9_floorDiv_7cf53_21 ?_
    exact r_iret C dJ9_floorDiv_7cf53_22 rfl (Nat.le_refl _) (by simp only [fdv]; (repeat' split) <;> first | rfl | omega) rfl
  · refine r_iload_n C rfl dJ9_floorDiv_7cf53_10 ?_
    refine r_iload_n C rfl dJ9_floorDiv_7cf53_11 ?_
    refine r_imul C dJ9_floorDiv_7cf53_12 ?_
    refine r_iload_n C rfl dJ9_floorDiv_7cf53_13 ?_
    refine t_icmp_eq C 21 (by decide) rfl rfl dJ9_floorDiv_7cf53_14 (fun c14 => ?_) (fun c14 => ?_)
    · refine r_iload_n C rfl dJ9_floorDiv_7cf53_21 ?_
      exact r_iret C dJ9_floorDiv_7cf53_22 rfl (Nat.le_refl _) (by simp only [fdv]; (repeat' split) <;> first | rfl | omega) rfl
    · refine r_iload_n C rfl dJ9_floorDiv_7cf53_17 ?_
      refine r_iconstv C 1 rfl dJ9_floorDiv_7cf53_18 ?_
      refine r_isub C dJ9_floorDiv_7cf53_19 ?_
      exact r_iret C dJ9_floorDiv_7cf53_20 rfl (Nat.le_refl _) (by simp only [fdv]; (repeat' split) <;> first | rfl | omega) rfl

set_option maxHeartbeats 4000000 in
set_option maxRecDepth 100000 in
theorem sp_low (G : oG) {h : oH} {a : Nat} (ta : tg a = (0, 1)) (la : a < h.1) (x : Int32) : oSp G mX1_low [.ref a, .int x] h (some (.int (hI h a 4 + hI h a 5 * x))) h := by
  refine oSp.intro [some (.ref a), some (.int x)] rfl (Nat.le_of_ble_eq_true rfl) (plainFor_of_name (by decide +kernel)) (Nat.le_refl _) ?_
  intro p l e R s m args below meth c C
  refine r_aload_n C rfl rfl dX1_low_0 ?_
  refine r_getI C dX1_low_1 fl_X1_18 ta la ?_
  refine r_aload_n C rfl rfl dX1_low_4 ?_
  refine r_getI C dX1_low_5 fl_X1_22 ta la ?_
  refine r_iload_n C rfl dX1_low_8 ?_
  refine r_imul C dX1_low_9 ?_
  refine r_iadd C dX1_low_10 ?_
  exact r_iret C dX1_low_11 rfl (Nat.le_refl _) rfl rfl

set_option maxHeartbeats 4000000 in
set_option maxRecDepth 100000 in
theorem sp_high (G : oG) {h : oH} {a : Nat} (ta : tg a = (0, 1)) (la : a < h.1) (x : Int32) : oSp G mX1_high [.ref a, .int x] h (some (.int (hI h a 6 + hI h a 7 * x))) h := by
  refine oSp.intro [some (.ref a), some (.int x)] rfl (Nat.le_of_ble_eq_true rfl) (plainFor_of_name (by decide +kernel)) (Nat.le_refl _) ?_
  intro p l e R s m args below meth c C
  refine r_aload_n C rfl rfl dX1_high_0 ?_
  refine r_getI C dX1_high_1 fl_X1_25 ta la ?_
  refine r_aload_n C rfl rfl dX1_high_4 ?_
  refine r_getI C dX1_high_5 fl_X1_28 ta la ?_
  refine r_iload_n C rfl dX1_high_8 ?_
  refine r_imul C dX1_high_9 ?_
  refine r_iadd C dX1_high_10 ?_
  exact r_iret C dX1_high_11 rfl (Nat.le_refl _) rfl rfl

def endDayH (h : oH) (a : Nat) (x : Int32) : oH := sI (sI (sI (sI h a 8 (mx 0 (hI h a 8 - (hI h a 4 + hI h a 5 * x)))) a 9 (mx 0 (hI h a 9 - (hI h a 6 + hI h a 7 * x)))) a 13 (hI h a 13 + 1)) a 14 (hI h a 14 + x)
set_option maxHeartbeats 4000000 in
set_option maxRecDepth 100000 in
theorem sp_endDay (G : oG) {h : oH} {a : Nat} (ta : tg a = (0, 1)) (la : a < h.1) (x : Int32) : oSp G mX1_endDay [.ref a, .int x] h none (endDayH h a x) := by
  refine oSp.intro [some (.ref a), some (.int x)] rfl (Nat.le_of_ble_eq_true rfl) (plainFor_of_name (by decide +kernel)) (Nat.le_refl _) ?_
  intro p l e R s m args below meth c C
  refine r_aload_n C rfl rfl dX1_endDay_0 ?_
  refine r_iconstv C 0 rfl dX1_endDay_1 ?_
  refine r_aload_n C rfl rfl dX1_endDay_2 ?_
  refine r_getI C dX1_endDay_3 fl_X1_56 ta la ?_
  refine r_aload_n C rfl rfl dX1_endDay_6 ?_
  refine r_iload_n C rfl dX1_endDay_7 ?_
  refine r_callV C (sp_low G ta (by exact la) _) kv_X1_low kn_X1_low rfl dX1_endDay_8 cl_X1_62 ⟨Nat.le_of_ble_eq_true rfl, Nat.le_of_ble_eq_true rfl⟩ (by decide) rfl ta la (Nat.le_refl _) rfl (Nat.le_of_ble_eq_true rfl) ?_
  refine r_isub C dX1_endDay_11 ?_
  refine r_callS C (sp_max G _ _) ks_J9_max_7cf53 kn_J9_max_7cf53 rfl dX1_endDay_12 cl_X1_66 ⟨Nat.le_of_ble_eq_true rfl, Nat.le_of_ble_eq_true rfl⟩ (Nat.le_refl _) rfl (Nat.le_of_ble_eq_true rfl) ?_
  refine r_putI C dX1_endDay_15 fl_X1_56 ta la (Or.inl rfl) ?_
  refine r_aload_n C rfl rfl dX1_endDay_18 ?_
  refine r_iconstv C 0 rfl dX1_endDay_19 ?_
  refine r_aload_n C rfl rfl dX1_endDay_20 ?_
  refine r_getI C dX1_endDay_21 fl_X1_59 ta la ?_
  refine r_aload_n C rfl rfl dX1_endDay_24 ?_
  refine r_iload_n C rfl dX1_endDay_25 ?_
  refine r_callV C (sp_high G ta (by exact la) _) kv_X1_high kn_X1_high rfl dX1_endDay_26 cl_X1_72 ⟨Nat.le_of_ble_eq_true rfl, Nat.le_of_ble_eq_true rfl⟩ (by decide) rfl ta la (Nat.le_refl _) rfl (Nat.le_of_ble_eq_true rfl) ?_
  refine r_isub C dX1_endDay_29 ?_
  refine r_callS C (sp_max G _ _) ks_J9_max_7cf53 kn_J9_max_7cf53 rfl dX1_endDay_30 cl_X1_66 ⟨Nat.le_of_ble_eq_true rfl, Nat.le_of_ble_eq_true rfl⟩ (Nat.le_refl _) rfl (Nat.le_of_ble_eq_true rfl) ?_
  refine r_putI C dX1_endDay_33 fl_X1_59 ta la (Or.inl rfl) ?_
  refine r_aload_n C rfl rfl dX1_endDay_36 ?_
  refine r_dup C rfl dX1_endDay_37 ?_
  refine r_getI C dX1_endDay_38 fl_X1_41 ta la ?_
  refine r_iconstv C 1 rfl dX1_endDay_41 ?_
  refine r_iadd C dX1_endDay_42 ?_
  refine r_putI C dX1_endDay_43 fl_X1_41 ta la (Or.inl rfl) ?_
  refine r_aload_n C rfl rfl dX1_endDay_46 ?_
  refine r_dup C rfl dX1_endDay_47 ?_
  refine r_getI C dX1_endDay_48 fl_X1_44 ta la ?_
  refine r_iload_n C rfl dX1_endDay_51 ?_
  refine r_iadd C dX1_endDay_52 ?_
  refine r_putI C dX1_endDay_53 fl_X1_44 ta la (Or.inl rfl) ?_
  exact r_vret C dX1_endDay_56 rfl (Nat.le_refl _) (by simp [endDayH, hI_sI])

set_option maxHeartbeats 4000000 in
set_option maxRecDepth 100000 in
theorem sp_isSafe (G : oG) {h : oH} {a : Nat} (ta : tg a = (0, 1)) (la : a < h.1) : oSp G mX1_isSafe [.ref a] h (some (.int (b1 (0 < (hI h a 9).toInt)))) h := by
  refine oSp.intro [some (.ref a)] rfl (Nat.le_of_ble_eq_true rfl) (plainFor_of_name (by decide +kernel)) (Nat.le_refl _) ?_
  intro p l e R s m args below meth c C
  refine r_aload_n C rfl rfl dX1_isSafe_0 ?_
  refine r_getI C dX1_isSafe_1 fl_X1_59 ta la ?_
  refine j_if_le0 C 11 (by decide) rfl rfl dX1_isSafe_4 dX1_isSafe_7 dX1_isSafe_8 dX1_isSafe_11 ?_
  exact r_zret C dX1_isSafe_12 rfl b1_nar (Nat.le_refl _) rfl rfl

set_option maxHeartbeats 4000000 in
set_option maxRecDepth 100000 in
theorem sp_isDueC (G : oG) {h : oH} {a : Nat} (ta : tg a = (0, 1)) (la : a < h.1) (y x : Int32) : oSp G mX1_isDue [.ref a, .int y, .int x] h (some (.int (b1 ((hI h a 9).toInt ≤ (y * (hI h a 6 + hI h a 7 * x)).toInt)))) h := by
  refine oSp.intro [some (.ref a), some (.int y), some (.int x)] rfl (Nat.le_of_ble_eq_true rfl) (plainFor_of_name (by decide +kernel)) (Nat.le_refl _) ?_
  intro p l e R s m args below meth c C
  refine r_aload_n C rfl rfl dX1_isDue_0 ?_
  refine r_getI C dX1_isDue_1 fl_X1_59 ta la ?_
  refine r_iload_n C rfl dX1_isDue_4 ?_
  refine r_aload_n C rfl rfl dX1_isDue_5 ?_
  refine r_iload_n C rfl dX1_isDue_6 ?_
  refine r_callV C (sp_high G ta (by exact la) _) kv_X1_high kn_X1_high rfl dX1_isDue_7 cl_X1_72 ⟨Nat.le_of_ble_eq_true rfl, Nat.le_of_ble_eq_true rfl⟩ (by decide) rfl ta la (Nat.le_refl _) rfl (Nat.le_of_ble_eq_true rfl) ?_
  refine r_imul C dX1_isDue_10 ?_
  refine j_icmp_gt0 C 18 (by decide) rfl rfl rfl dX1_isDue_11 dX1_isDue_14 dX1_isDue_15 dX1_isDue_18 ?_
  exact r_zret C dX1_isDue_19 rfl b1_nar (Nat.le_refl _) rfl rfl

def dtg (h : oH) (a : Nat) (x : Int32) : Int32 := if 0 < (hI h a 6 + hI h a 7 * x).toInt then hI h a 9 / (hI h a 6 + hI h a 7 * x) else 1000
set_option maxHeartbeats 4000000 in
set_option maxRecDepth 100000 in
theorem sp_daysToGo (G : oG) {h : oH} {a : Nat} (ta : tg a = (0, 1)) (la : a < h.1) (x : Int32) : oSp G mX1_daysToGo [.ref a, .int x] h (some (.int (dtg h a x))) h := by
  refine oSp.intro [some (.ref a), some (.int x), none] rfl (Nat.le_of_ble_eq_true rfl) (plainFor_of_name (by decide +kernel)) (Nat.le_refl _) ?_
  intro p l e R s m args below meth c C
  refine r_aload_n C rfl rfl dX1_daysToGo_0 ?_
  refine r_iload_n C rfl dX1_daysToGo_1 ?_
  refine r_callV C (sp_high G ta (by exact la) _) kv_X1_high kn_X1_high rfl dX1_daysToGo_2 cl_X1_72 ⟨Nat.le_of_ble_eq_true rfl, Nat.le_of_ble_eq_true rfl⟩ (by decide) rfl ta la (Nat.le_refl _) rfl (Nat.le_of_ble_eq_true rfl) ?_
  refine r_istore_n C rfl (Nat.le_of_ble_eq_true rfl) dX1_daysToGo_5 ?_
  refine r_iload_n C rfl dX1_daysToGo_6 ?_
  refine t_if_gt C 16 (by decide) rfl dX1_daysToGo_7 (fun c7 => ?_) (fun c7 => ?_)
  · refine r_aload_n C rfl rfl dX1_daysToGo_16 ?_
    refine r_getI C dX1_daysToGo_17 fl_X1_59 ta la ?_
    refine r_iload_n C rfl dX1_daysToGo_20 ?_
    refine r_idiv C (fun e => by have c := c7; rw [e] at c; exact absurd c (by decide)) dX1_daysToGo_21 ?_
    exact r_iret C dX1_daysToGo_22 rfl (Nat.le_refl _) (by simp only [dtg]; (repeat' split) <;> first | rfl | omega) rfl
  · refine r_sipush C 1000 rfl dX1_daysToGo_10 ?_
    refine r_goto C 22 (by decide) dX1_daysToGo_13 ?_
    exact r_iret C dX1_daysToGo_22 rfl (Nat.le_refl _) (by simp only [dtg]; (repeat' split) <;> first | rfl | omega) rfl

def lastC (h : oH) (a : Nat) (x : Int32) : Int32 := if 0 < (hI h a 9).toInt then (if 0 < (hI h a 6 + hI h a 7 * x).toInt then mn 500 ((hI h a 9 - 1) / (hI h a 6 + hI h a 7 * x)) else 500) else 0
set_option maxHeartbeats 4000000 in
set_option maxRecDepth 100000 in
theorem sp_lastC (G : oG) {h : oH} {a : Nat} (ta : tg a = (0, 1)) (la : a < h.1) (x : Int32) : oSp G mX1_daysAboveZero [.ref a, .int x] h (some (.int (lastC h a x))) h := by
  refine oSp.intro [some (.ref a), some (.int x), none] rfl (Nat.le_of_ble_eq_true rfl) (plainFor_of_name (by decide +kernel)) (Nat.le_refl _) ?_
  intro p l e R s m args below meth c C
  refine r_aload_n C rfl rfl dX1_daysAboveZero_0 ?_
  refine r_getI C dX1_daysAboveZero_1 fl_X1_59 ta la ?_
  refine t_if_gt C 9 (by decide) rfl dX1_daysAboveZero_4 (fun c4 => ?_) (fun c4 => ?_)
  · refine r_aload_n C rfl rfl dX1_daysAboveZero_9 ?_
    refine r_iload_n C rfl dX1_daysAboveZero_10 ?_
    refine r_callV C (sp_high G ta (by exact la) _) kv_X1_high kn_X1_high rfl dX1_daysAboveZero_11 cl_X1_72 ⟨Nat.le_of_ble_eq_true rfl, Nat.le_of_ble_eq_true rfl⟩ (by decide) rfl ta la (Nat.le_refl _) rfl (Nat.le_of_ble_eq_true rfl) ?_
    refine r_istore_n C rfl (Nat.le_of_ble_eq_true rfl) dX1_daysAboveZero_14 ?_
    refine r_iload_n C rfl dX1_daysAboveZero_15 ?_
    refine t_if_gt C 25 (by decide) rfl dX1_daysAboveZero_16 (fun c16 => ?_) (fun c16 => ?_)
    · refine r_sipush C 500 rfl dX1_daysAboveZero_25 ?_
      refine r_aload_n C rfl rfl dX1_daysAboveZero_28 ?_
      refine r_getI C dX1_daysAboveZero_29 fl_X1_59 ta la ?_
      refine r_iconstv C 1 rfl dX1_daysAboveZero_32 ?_
      refine r_isub C dX1_daysAboveZero_33 ?_
      refine r_iload_n C rfl dX1_daysAboveZero_34 ?_
      refine r_idiv C (fun e => by have c := c16; rw [e] at c; exact absurd c (by decide)) dX1_daysAboveZero_35 ?_
      refine r_callS C (sp_min G _ _) ks_J9_min_7cf53 kn_J9_min_7cf53 rfl dX1_daysAboveZero_36 cl_X1_75 ⟨Nat.le_of_ble_eq_true rfl, Nat.le_of_ble_eq_true rfl⟩ (Nat.le_refl _) rfl (Nat.le_of_ble_eq_true rfl) ?_
      exact r_iret C dX1_daysAboveZero_39 rfl (Nat.le_refl _) (by simp only [lastC]; (repeat' split) <;> first | rfl | omega) rfl
    · refine r_sipush C 500 rfl dX1_daysAboveZero_19 ?_
      refine r_goto C 39 (by decide) dX1_daysAboveZero_22 ?_
      exact r_iret C dX1_daysAboveZero_39 rfl (Nat.le_refl _) (by simp only [lastC]; (repeat' split) <;> first | rfl | omega) rfl
  · refine r_iconstv C 0 rfl dX1_daysAboveZero_7 ?_
    exact r_iret C dX1_daysAboveZero_8 rfl (Nat.le_refl _) (by simp only [lastC]; (repeat' split) <;> first | rfl | omega) rfl

set_option maxHeartbeats 4000000 in
set_option maxRecDepth 100000 in
theorem sp_mayNeed (G : oG) {h : oH} {a : Nat} (ta : tg a = (0, 1)) (la : a < h.1) : oSp G mX1_mayNeed [.ref a] h (some (.int (hI h a 2 - hI h a 9))) h := by
  refine oSp.intro [some (.ref a)] rfl (Nat.le_of_ble_eq_true rfl) (plainFor_of_name (by decide +kernel)) (Nat.le_refl _) ?_
  intro p l e R s m args below meth c C
  refine r_aload_n C rfl rfl dX1_mayNeed_0 ?_
  refine r_getI C dX1_mayNeed_1 fl_X1_53 ta la ?_
  refine r_aload_n C rfl rfl dX1_mayNeed_4 ?_
  refine r_getI C dX1_mayNeed_5 fl_X1_59 ta la ?_
  refine r_isub C dX1_mayNeed_8 ?_
  exact r_iret C dX1_mayNeed_9 rfl (Nat.le_refl _) rfl rfl

def noteC (h : oH) (a : Nat) (q : Int32) : Int32 := if (hI h a 13 * hI h a 6 + hI h a 14 * hI h a 7).toInt < q.toInt then 1 else if q.toInt < (hI h a 13 * hI h a 4 + hI h a 14 * hI h a 5).toInt ∧ q.toInt < (hI h a 2).toInt then 2 else 0
set_option maxHeartbeats 4000000 in
set_option maxRecDepth 100000 in
theorem sp_noteOf (G : oG) {h : oH} {a : Nat} (ta : tg a = (0, 1)) (la : a < h.1) (q : Int32) : oSp G mX1_noteOf [.ref a, .int q] h (some (.int (noteC h a q))) h := by
  refine oSp.intro [some (.ref a), some (.int q)] rfl (Nat.le_of_ble_eq_true rfl) (plainFor_of_name (by decide +kernel)) (Nat.le_refl _) ?_
  intro p l e R s m args below meth c C
  refine r_iload_n C rfl dX1_noteOf_0 ?_
  refine r_aload_n C rfl rfl dX1_noteOf_1 ?_
  refine r_getI C dX1_noteOf_2 fl_X1_41 ta la ?_
  refine r_aload_n C rfl rfl dX1_noteOf_5 ?_
  refine r_getI C dX1_noteOf_6 fl_X1_25 ta la ?_
  refine r_imul C dX1_noteOf_9 ?_
  refine r_aload_n C rfl rfl dX1_noteOf_10 ?_
  refine r_getI C dX1_noteOf_11 fl_X1_44 ta la ?_
  refine r_aload_n C rfl rfl dX1_noteOf_14 ?_
  refine r_getI C dX1_noteOf_15 fl_X1_28 ta la ?_
  refine r_imul C dX1_noteOf_18 ?_
  refine r_iadd C dX1_noteOf_19 ?_
  refine t_icmp_le C 25 (by decide) rfl rfl dX1_noteOf_20 (fun c20 => ?_) (fun c20 => ?_)
  · refine r_iload_n C rfl dX1_noteOf_25 ?_
    refine r_aload_n C rfl rfl dX1_noteOf_26 ?_
    refine r_getI C dX1_noteOf_27 fl_X1_41 ta la ?_
    refine r_aload_n C rfl rfl dX1_noteOf_30 ?_
    refine r_getI C dX1_noteOf_31 fl_X1_18 ta la ?_
    refine r_imul C dX1_noteOf_34 ?_
    refine r_aload_n C rfl rfl dX1_noteOf_35 ?_
    refine r_getI C dX1_noteOf_36 fl_X1_44 ta la ?_
    refine r_aload_n C rfl rfl dX1_noteOf_39 ?_
    refine r_getI C dX1_noteOf_40 fl_X1_22 ta la ?_
    refine r_imul C dX1_noteOf_43 ?_
    refine r_iadd C dX1_noteOf_44 ?_
    refine t_icmp_ge C 60 (by decide) rfl rfl dX1_noteOf_45 (fun c45 => ?_) (fun c45 => ?_)
    · refine r_iconstv C 0 rfl dX1_noteOf_60 ?_
      exact r_iret C dX1_noteOf_61 rfl (Nat.le_refl _) (by simp only [noteC]; (repeat' split) <;> first | rfl | omega) rfl
    · refine r_iload_n C rfl dX1_noteOf_48 ?_
      refine r_aload_n C rfl rfl dX1_noteOf_49 ?_
      refine r_getI C dX1_noteOf_50 fl_X1_53 ta la ?_
      refine t_icmp_ge C 60 (by decide) rfl rfl dX1_noteOf_53 (fun c53 => ?_) (fun c53 => ?_)
      · refine r_iconstv C 0 rfl dX1_noteOf_60 ?_
        exact r_iret C dX1_noteOf_61 rfl (Nat.le_refl _) (by simp only [noteC]; (repeat' split) <;> first | rfl | omega) rfl
      · refine r_iconstv C 2 rfl dX1_noteOf_56 ?_
        refine r_goto C 61 (by decide) dX1_noteOf_57 ?_
        exact r_iret C dX1_noteOf_61 rfl (Nat.le_refl _) (by simp only [noteC]; (repeat' split) <;> first | rfl | omega) rfl
  · refine r_iconstv C 1 rfl dX1_noteOf_23 ?_
    exact r_iret C dX1_noteOf_24 rfl (Nat.le_refl _) (by simp only [noteC]; (repeat' split) <;> first | rfl | omega) rfl

set_option maxHeartbeats 4000000 in
set_option maxRecDepth 100000 in
theorem sp_isKnown (G : oG) {h : oH} {a : Nat} (ta : tg a = (0, 1)) (la : a < h.1) : oSp G mX1_isKnown [.ref a] h (some (.int (b1 (3 ≤ (hI h a 10).toInt ∧ (hI h a 12).toInt = 0)))) h := by
  refine oSp.intro [some (.ref a)] rfl (Nat.le_of_ble_eq_true rfl) (plainFor_of_name (by decide +kernel)) (Nat.le_refl _) ?_
  intro p l e R s m args below meth c C
  refine r_aload_n C rfl rfl dX1_isKnown_0 ?_
  refine r_getI C dX1_isKnown_1 fl_X1_31 ta la ?_
  refine r_iconstv C 3 rfl dX1_isKnown_4 ?_
  refine t_icmp_lt C 19 (by decide) rfl (show (3 : Int32).toInt = 3 from rfl) dX1_isKnown_5 (fun c5 => ?_) (fun c5 => ?_)
  · refine r_iconstv C 0 rfl dX1_isKnown_19 ?_
    exact r_zret C dX1_isKnown_20 rfl rfl (Nat.le_refl _) (er_f (by omega)) rfl
  · refine r_aload_n C rfl rfl dX1_isKnown_8 ?_
    refine r_getZ C dX1_isKnown_9 fl_X1_37 ta la ?_
    refine t_if_ne C 19 (by decide) rfl dX1_isKnown_12 (fun c12 => ?_) (fun c12 => ?_)
    · refine r_iconstv C 0 rfl dX1_isKnown_19 ?_
      exact r_zret C dX1_isKnown_20 rfl rfl (Nat.le_refl _) (er_f (by omega)) rfl
    · refine r_iconstv C 1 rfl dX1_isKnown_15 ?_
      refine r_goto C 20 (by decide) dX1_isKnown_16 ?_
      exact r_zret C dX1_isKnown_20 rfl rfl (Nat.le_refl _) (er_t (by omega)) rfl

set_option maxHeartbeats 4000000 in
set_option maxRecDepth 100000 in
theorem sp_isLeaky (G : oG) {h : oH} {a : Nat} (ta : tg a = (0, 1)) (la : a < h.1) : oSp G mX1_isLeaky [.ref a] h (some (.int (b1 ((hI h a 11).toInt = 1)))) h := by
  refine oSp.intro [some (.ref a)] rfl (Nat.le_of_ble_eq_true rfl) (plainFor_of_name (by decide +kernel)) (Nat.le_refl _) ?_
  intro p l e R s m args below meth c C
  refine r_aload_n C rfl rfl dX1_isLeaky_0 ?_
  refine r_getI C dX1_isLeaky_1 fl_X1_34 ta la ?_
  refine r_iconstv C 1 rfl dX1_isLeaky_4 ?_
  refine j_icmp_ne0 C 12 (by decide) rfl rfl (show (1 : Int32).toInt = 1 from rfl) dX1_isLeaky_5 dX1_isLeaky_8 dX1_isLeaky_9 dX1_isLeaky_12 ?_
  exact r_zret C dX1_isLeaky_13 rfl b1_nar (Nat.le_refl _) rfl rfl

set_option maxHeartbeats 4000000 in
set_option maxRecDepth 100000 in
theorem sp_isSteady (G : oG) {h : oH} {a : Nat} (ta : tg a = (0, 1)) (la : a < h.1) : oSp G mX1_isSteady [.ref a] h (some (.int (b1 ((3 ≤ (hI h a 10).toInt ∧ (hI h a 12).toInt = 0) ∧ (hI h a 5).toInt = 0 ∧ (hI h a 7).toInt = 0)))) h := by
  refine oSp.intro [some (.ref a)] rfl (Nat.le_of_ble_eq_true rfl) (plainFor_of_name (by decide +kernel)) (Nat.le_refl _) ?_
  intro p l e R s m args below meth c C
  refine r_aload_n C rfl rfl dX1_isSteady_0 ?_
  refine r_callV C (sp_isKnown G ta (by exact la)) kv_X1_isKnown kn_X1_isKnown rfl dX1_isSteady_1 cl_X1_94 ⟨Nat.le_of_ble_eq_true rfl, Nat.le_of_ble_eq_true rfl⟩ (by decide) rfl ta la (Nat.le_refl _) rfl (Nat.le_of_ble_eq_true rfl) ?_
  refine t_ifb_eq C 25 (by decide) dX1_isSteady_4 (fun c4 => ?_) (fun c4 => ?_)
  · refine r_iconstv C 0 rfl dX1_isSteady_25 ?_
    exact r_zret C dX1_isSteady_26 rfl rfl (Nat.le_refl _) (er_f (by omega)) rfl
  · refine r_aload_n C rfl rfl dX1_isSteady_7 ?_
    refine r_getI C dX1_isSteady_8 fl_X1_22 ta la ?_
    refine t_if_ne C 25 (by decide) rfl dX1_isSteady_11 (fun c11 => ?_) (fun c11 => ?_)
    · refine r_iconstv C 0 rfl dX1_isSteady_25 ?_
      exact r_zret C dX1_isSteady_26 rfl rfl (Nat.le_refl _) (er_f (by omega)) rfl
    · refine r_aload_n C rfl rfl dX1_isSteady_14 ?_
      refine r_getI C dX1_isSteady_15 fl_X1_28 ta la ?_
      refine t_if_ne C 25 (by decide) rfl dX1_isSteady_18 (fun c18 => ?_) (fun c18 => ?_)
      · refine r_iconstv C 0 rfl dX1_isSteady_25 ?_
        exact r_zret C dX1_isSteady_26 rfl rfl (Nat.le_refl _) (er_f (by omega)) rfl
      · refine r_iconstv C 1 rfl dX1_isSteady_21 ?_
        refine r_goto C 26 (by decide) dX1_isSteady_22 ?_
        exact r_zret C dX1_isSteady_26 rfl rfl (Nat.le_refl _) (er_t (by omega)) rfl

def tkC (h : oH) (a : Nat) : Int32 := if ((hI h a 11).toInt = 1) then 3 else if ((3 ≤ (hI h a 10).toInt ∧ (hI h a 12).toInt = 0) ∧ (hI h a 5).toInt = 0 ∧ (hI h a 7).toInt = 0) then 2 else if (3 ≤ (hI h a 10).toInt ∧ (hI h a 12).toInt = 0) then 1 else 0
set_option maxHeartbeats 4000000 in
set_option maxRecDepth 100000 in
theorem sp_toldKind (G : oG) {h : oH} {a : Nat} (ta : tg a = (0, 1)) (la : a < h.1) : oSp G mX1_toldKind [.ref a] h (some (.int (tkC h a))) h := by
  refine oSp.intro [some (.ref a)] rfl (Nat.le_of_ble_eq_true rfl) (plainFor_of_name (by decide +kernel)) (Nat.le_refl _) ?_
  intro p l e R s m args below meth c C
  refine r_aload_n C rfl rfl dX1_toldKind_0 ?_
  refine r_callV C (sp_isLeaky G ta (by exact la)) kv_X1_isLeaky kn_X1_isLeaky rfl dX1_toldKind_1 cl_X1_101 ⟨Nat.le_of_ble_eq_true rfl, Nat.le_of_ble_eq_true rfl⟩ (by decide) rfl ta la (Nat.le_refl _) rfl (Nat.le_of_ble_eq_true rfl) ?_
  refine t_ifb_eq C 9 (by decide) dX1_toldKind_4 (fun c4 => ?_) (fun c4 => ?_)
  · refine r_aload_n C rfl rfl dX1_toldKind_9 ?_
    refine r_callV C (sp_isSteady G ta (by exact la)) kv_X1_isSteady kn_X1_isSteady rfl dX1_toldKind_10 cl_X1_98 ⟨Nat.le_of_ble_eq_true rfl, Nat.le_of_ble_eq_true rfl⟩ (by decide) rfl ta la (Nat.le_refl _) rfl (Nat.le_of_ble_eq_true rfl) ?_
    refine t_ifb_eq C 18 (by decide) dX1_toldKind_13 (fun c13 => ?_) (fun c13 => ?_)
    · refine r_aload_n C rfl rfl dX1_toldKind_18 ?_
      refine r_callV C (sp_isKnown G ta (by exact la)) kv_X1_isKnown kn_X1_isKnown rfl dX1_toldKind_19 cl_X1_94 ⟨Nat.le_of_ble_eq_true rfl, Nat.le_of_ble_eq_true rfl⟩ (by decide) rfl ta la (Nat.le_refl _) rfl (Nat.le_of_ble_eq_true rfl) ?_
      refine t_ifb_eq C 29 (by decide) dX1_toldKind_22 (fun c22 => ?_) (fun c22 => ?_)
      · refine r_iconstv C 0 rfl dX1_toldKind_29 ?_
        exact r_iret C dX1_toldKind_30 rfl (Nat.le_refl _) (by simp only [tkC]; (repeat' split) <;> first | rfl | omega) rfl
      · refine r_iconstv C 1 rfl dX1_toldKind_25 ?_
        refine r_goto C 30 (by decide) dX1_toldKind_26 ?_
        exact r_iret C dX1_toldKind_30 rfl (Nat.le_refl _) (by simp only [tkC]; (repeat' split) <;> first | rfl | omega) rfl
    · refine r_iconstv C 2 rfl dX1_toldKind_16 ?_
      exact r_iret C dX1_toldKind_17 rfl (Nat.le_refl _) (by simp only [tkC]; (repeat' split) <;> first | rfl | omega) rfl
  · refine r_iconstv C 3 rfl dX1_toldKind_7 ?_
    exact r_iret C dX1_toldKind_8 rfl (Nat.le_refl _) (by simp only [tkC]; (repeat' split) <;> first | rfl | omega) rfl

set_option maxHeartbeats 4000000 in
set_option maxRecDepth 100000 in
theorem sp_isOf0 (G : oG) {h : oH} {a : Nat} (ta : tg a = (0, 1)) (la : a < h.1) : oSp G mX1_isOf [.ref a, .int 0] h (some (.int (b1 True))) h := by
  refine oSp.intro [some (.ref a), some (.int 0)] rfl (Nat.le_of_ble_eq_true rfl) (plainFor_of_name (by decide +kernel)) (Nat.le_refl _) ?_
  intro p l e R s m args below meth c C
  refine r_iload_n C rfl dX1_isOf_0 ?_
  refine r_tableIn C 32 (by rw [show (0 : Int32).toInt = 0 from rfl]; decide) (by rw [show (0 : Int32).toInt = 0 from rfl]; decide) (by rw [show (0 : Int32).toInt = 0 from rfl]; rfl) (by decide) dX1_isOf_1 ?_
  refine r_iconstv C 1 rfl dX1_isOf_32 ?_
  exact r_zret C dX1_isOf_33 rfl rfl (Nat.le_refl _) (er_t trivial) rfl

set_option maxHeartbeats 4000000 in
set_option maxRecDepth 100000 in
theorem sp_isOf1 (G : oG) {h : oH} {a : Nat} (ta : tg a = (0, 1)) (la : a < h.1) : oSp G mX1_isOf [.ref a, .int 1] h (some (.int (b1 (3 ≤ (hI h a 10).toInt ∧ (hI h a 12).toInt = 0)))) h := by
  refine oSp.intro [some (.ref a), some (.int 1)] rfl (Nat.le_of_ble_eq_true rfl) (plainFor_of_name (by decide +kernel)) (Nat.le_refl _) ?_
  intro p l e R s m args below meth c C
  refine r_iload_n C rfl dX1_isOf_0 ?_
  refine r_tableIn C 34 (by rw [show (1 : Int32).toInt = 1 from rfl]; decide) (by rw [show (1 : Int32).toInt = 1 from rfl]; decide) (by rw [show (1 : Int32).toInt = 1 from rfl]; rfl) (by decide) dX1_isOf_1 ?_
  refine r_aload_n C rfl rfl dX1_isOf_34 ?_
  refine r_callV C (sp_isKnown G ta (by exact la)) kv_X1_isKnown kn_X1_isKnown rfl dX1_isOf_35 cl_X1_94 ⟨Nat.le_of_ble_eq_true rfl, Nat.le_of_ble_eq_true rfl⟩ (by decide) rfl ta la (Nat.le_refl _) rfl (Nat.le_of_ble_eq_true rfl) ?_
  exact r_zret C dX1_isOf_38 rfl b1_nar (Nat.le_refl _) rfl rfl

set_option maxHeartbeats 4000000 in
set_option maxRecDepth 100000 in
theorem sp_isOf2 (G : oG) {h : oH} {a : Nat} (ta : tg a = (0, 1)) (la : a < h.1) : oSp G mX1_isOf [.ref a, .int 2] h (some (.int (b1 ((3 ≤ (hI h a 10).toInt ∧ (hI h a 12).toInt = 0) ∧ (hI h a 5).toInt = 0 ∧ (hI h a 7).toInt = 0)))) h := by
  refine oSp.intro [some (.ref a), some (.int 2)] rfl (Nat.le_of_ble_eq_true rfl) (plainFor_of_name (by decide +kernel)) (Nat.le_refl _) ?_
  intro p l e R s m args below meth c C
  refine r_iload_n C rfl dX1_isOf_0 ?_
  refine r_tableIn C 39 (by rw [show (2 : Int32).toInt = 2 from rfl]; decide) (by rw [show (2 : Int32).toInt = 2 from rfl]; decide) (by rw [show (2 : Int32).toInt = 2 from rfl]; rfl) (by decide) dX1_isOf_1 ?_
  refine r_aload_n C rfl rfl dX1_isOf_39 ?_
  refine r_callV C (sp_isSteady G ta (by exact la)) kv_X1_isSteady kn_X1_isSteady rfl dX1_isOf_40 cl_X1_98 ⟨Nat.le_of_ble_eq_true rfl, Nat.le_of_ble_eq_true rfl⟩ (by decide) rfl ta la (Nat.le_refl _) rfl (Nat.le_of_ble_eq_true rfl) ?_
  exact r_zret C dX1_isOf_43 rfl b1_nar (Nat.le_refl _) rfl rfl

set_option maxHeartbeats 4000000 in
set_option maxRecDepth 100000 in
theorem sp_isOf3 (G : oG) {h : oH} {a : Nat} (ta : tg a = (0, 1)) (la : a < h.1) : oSp G mX1_isOf [.ref a, .int 3] h (some (.int (b1 ((hI h a 11).toInt = 1)))) h := by
  refine oSp.intro [some (.ref a), some (.int 3)] rfl (Nat.le_of_ble_eq_true rfl) (plainFor_of_name (by decide +kernel)) (Nat.le_refl _) ?_
  intro p l e R s m args below meth c C
  refine r_iload_n C rfl dX1_isOf_0 ?_
  refine r_tableIn C 44 (by rw [show (3 : Int32).toInt = 3 from rfl]; decide) (by rw [show (3 : Int32).toInt = 3 from rfl]; decide) (by rw [show (3 : Int32).toInt = 3 from rfl]; rfl) (by decide) dX1_isOf_1 ?_
  refine r_aload_n C rfl rfl dX1_isOf_44 ?_
  refine r_callV C (sp_isLeaky G ta (by exact la)) kv_X1_isLeaky kn_X1_isLeaky rfl dX1_isOf_45 cl_X1_101 ⟨Nat.le_of_ble_eq_true rfl, Nat.le_of_ble_eq_true rfl⟩ (by decide) rfl ta la (Nat.le_refl _) rfl (Nat.le_of_ble_eq_true rfl) ?_
  exact r_zret C dX1_isOf_48 rfl b1_nar (Nat.le_refl _) rfl rfl

set_option maxHeartbeats 4000000 in
set_option maxRecDepth 100000 in
theorem sp_become (G : oG) {h : oH} {b : Nat} (tb : tg b = (0, 2)) (lb : b < h.1) (x y z : Int32) : oSp G mX2_become [.ref b, .int x, .int y, .int z] h none (sI (sI (sI h b 0 x) b 1 y) b 2 z) := by
  refine oSp.intro [some (.ref b), some (.int x), some (.int y), some (.int z)] rfl (Nat.le_of_ble_eq_true rfl) (plainFor_of_name (by decide +kernel)) (Nat.le_refl _) ?_
  intro p l e R s m args below meth c C
  refine r_aload_n C rfl rfl dX2_become_0 ?_
  refine r_iload_n C rfl dX2_become_1 ?_
  refine r_putI C dX2_become_2 fl_X2_9 tb lb (Or.inl rfl) ?_
  refine r_aload_n C rfl rfl dX2_become_5 ?_
  refine r_iload_n C rfl dX2_become_6 ?_
  refine r_putI C dX2_become_7 fl_X2_15 tb lb (Or.inl rfl) ?_
  refine r_aload_n C rfl rfl dX2_become_10 ?_
  refine r_iload_n C rfl dX2_become_11 ?_
  refine r_putI C dX2_become_12 fl_X2_18 tb lb (Or.inl rfl) ?_
  exact r_vret C dX2_become_15 rfl (Nat.le_refl _) rfl

set_option maxHeartbeats 4000000 in
set_option maxRecDepth 100000 in
theorem sp_ahead (G : oG) {h : oH} {b : Nat} (tb : tg b = (0, 2)) (lb : b < h.1) (q : Int32) : oSp G mX2_ahead [.ref b, .int q] h (some (.int (mn q (hI h b 1)))) h := by
  refine oSp.intro [some (.ref b), some (.int q)] rfl (Nat.le_of_ble_eq_true rfl) (plainFor_of_name (by decide +kernel)) (Nat.le_refl _) ?_
  intro p l e R s m args below meth c C
  refine r_iload_n C rfl dX2_ahead_0 ?_
  refine r_aload_n C rfl rfl dX2_ahead_1 ?_
  refine r_getI C dX2_ahead_2 fl_X2_15 tb lb ?_
  refine r_callS C (sp_min G _ _) ks_J9_min_7cf53 kn_J9_min_7cf53 rfl dX2_ahead_5 cl_X2_21 ⟨Nat.le_of_ble_eq_true rfl, Nat.le_of_ble_eq_true rfl⟩ (Nat.le_refl _) rfl (Nat.le_of_ble_eq_true rfl) ?_
  exact r_iret C dX2_ahead_8 rfl (Nat.le_refl _) rfl rfl

set_option maxHeartbeats 4000000 in
set_option maxRecDepth 100000 in
theorem sp_useUp (G : oG) {h : oH} {b : Nat} (tb : tg b = (0, 2)) (lb : b < h.1) (q : Int32) : oSp G mX2_useUp [.ref b, .int q] h none (sI h b 1 (hI h b 1 - mn q (hI h b 1))) := by
  refine oSp.intro [some (.ref b), some (.int q)] rfl (Nat.le_of_ble_eq_true rfl) (plainFor_of_name (by decide +kernel)) (Nat.le_refl _) ?_
  intro p l e R s m args below meth c C
  refine r_aload_n C rfl rfl dX2_useUp_0 ?_
  refine r_dup C rfl dX2_useUp_1 ?_
  refine r_getI C dX2_useUp_2 fl_X2_15 tb lb ?_
  refine r_aload_n C rfl rfl dX2_useUp_5 ?_
  refine r_iload_n C rfl dX2_useUp_6 ?_
  refine r_callV C (sp_ahead G tb (by exact lb) _) kv_X2_ahead kn_X2_ahead rfl dX2_useUp_7 cl_X2_27 ⟨Nat.le_of_ble_eq_true rfl, Nat.le_of_ble_eq_true rfl⟩ (by decide) rfl tb lb (Nat.le_refl _) rfl (Nat.le_of_ble_eq_true rfl) ?_
  refine r_isub C dX2_useUp_10 ?_
  refine r_putI C dX2_useUp_11 fl_X2_15 tb lb (Or.inl rfl) ?_
  exact r_vret C dX2_useUp_14 rfl (Nat.le_refl _) rfl

