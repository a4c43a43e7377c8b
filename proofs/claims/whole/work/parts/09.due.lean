/-! the houses, what is due -/
def hid (i : Nat) : Nat := 35 + 2 * i
def pid (i : Nat) : Nat := 36 + 2 * i
theorem tg_hid (i : Nat) : tg (hid i) = (0, 1) := tg_house i
theorem tg_pid (i : Nat) : tg (pid i) = (0, 2) := tg_plan i
/-- the shape with n houses -/
def oHs (h : oH) (n : Nat) : Prop := oSh h ∧ h.1 = 35 + 2 * n ∧ n ≤ 24 ∧ (∀ j, j < 24 → hR h 1 j = if j < n then some (hid j) else none) ∧ ∀ i, i < n → hR h (hid i) 3 = some (pid i)
theorem oHs.row {h : oH} {n i : Nat} (hh : oHs h n) (hi : i < n) : hR h 1 i = some (hid i) := by
  have h3 := hh.2.2.1
  rw [hh.2.2.2.1 i (by omega), if_pos hi]
theorem oHs.nul {h : oH} {n i : Nat} (hh : oHs h n) (hi : ¬ i < n) (hj : i < 24) : hR h 1 i = none := by rw [hh.2.2.2.1 i hj, if_neg hi]
theorem oHs.lt {h : oH} {n i : Nat} (hh : oHs h n) (hi : i < n) : hid i < h.1 := by
  rw [hh.2.1]
  unfold hid
  omega
theorem oHs.plt {h : oH} {n i : Nat} (hh : oHs h n) (hi : i < n) : pid i < h.1 := by
  rw [hh.2.1]
  unfold pid
  omega
theorem oHs.pl {h : oH} {n i : Nat} (hh : oHs h n) (hi : i < n) : hR h (hid i) 3 = some (pid i) := hh.2.2.2.2 i hi
def sumI (f : Nat → Int32) : Nat → Int32
  | 0 => 0
  | k + 1 => sumI f k + f k
theorem sumI_congr {f g : Nat → Int32} {n : Nat} (h : ∀ j, j < n → f j = g j) : sumI f n = sumI g n := by
  induction n with
  | zero => rfl
  | succ n ih =>
    show sumI f n + f n = sumI g n + g n
    rw [ih (fun j hj => h j (by omega)), h n (by omega)]
theorem sumI_tail {f : Nat → Int32} {n N : Nat} (hN : n ≤ N) (h : ∀ j, n ≤ j → f j = 0) : sumI f N = sumI f n := by
  induction N with
  | zero => rw [Nat.le_zero.mp hN]
  | succ N ih =>
    by_cases e : n = N + 1
    · rw [e]
    · show sumI f N + f N = _
      rw [ih (by omega), h N (by omega), Int32.add_zero]
set_option maxHeartbeats 4000000 in
set_option maxRecDepth 100000 in
theorem sp_houseIn (G : oG) {h : oH} {n : Nat} (hh : oHs h n) (v : Int32) {i : Nat} (hi : i < n) (hv : v.toInt = (i : Int)) : oSp G mX5_houseIn [.ref 1, .int v] h (some (.ref (hid i))) h := by
  have h24 := hh.2.2.1
  refine oSp.intro [some (.ref 1), some (.int v)] rfl (Nat.le_of_ble_eq_true rfl) (plainFor_of_name (by decide +kernel)) (Nat.le_refl _) ?_
  intro p l e R s m args below meth c C
  refine r_aload_n C rfl rfl dX5_houseIn_0 ?_
  refine r_ifnull C dX5_houseIn_1 ?_
  refine r_iload_n C rfl dX5_houseIn_4 ?_
  refine t_if_lt C 14 (by decide) hv dX5_houseIn_5 (fun c5 => absurd c5 (by omega)) (fun c5 => ?_)
  refine r_iload_n C rfl dX5_houseIn_8 ?_
  refine r_aload_n C rfl rfl dX5_houseIn_9 ?_
  refine r_alen C 24 dX5_houseIn_10 rfl (by decide) (q_lt hh.1 (by decide)) rfl ?_
  refine t_icmp_lt C 18 (by decide) hv (show (24 : Int32).toInt = 24 from rfl) dX5_houseIn_11 (fun c11 => ?_) (fun c11 => absurd c11 (by omega))
  refine r_aload_n C rfl rfl dX5_houseIn_18 ?_
  refine r_iload_n C rfl dX5_houseIn_19 ?_
  refine r_aald C (i) (by have t := hv; omega) (by omega) dX5_houseIn_20 rfl (q_lt hh.1 (by decide)) (oHs.row hh hi) ?_
  exact r_aret C (v := some _) dX5_houseIn_21 rfl (Nat.le_refl _) rfl rfl

set_option maxHeartbeats 4000000 in
set_option maxRecDepth 100000 in
theorem sp_houseInN (G : oG) {h : oH} {n : Nat} (hh : oHs h n) (v : Int32) (hv : ¬ (0 ≤ v.toInt ∧ v.toInt < n)) : oSp G mX5_houseIn [.ref 1, .int v] h (some .null) h := by
  have h24 := hh.2.2.1
  refine oSp.intro [some (.ref 1), some (.int v)] rfl (Nat.le_of_ble_eq_true rfl) (plainFor_of_name (by decide +kernel)) (Nat.le_refl _) ?_
  intro p l e R s m args below meth c C
  refine r_aload_n C rfl rfl dX5_houseIn_0 ?_
  refine r_ifnull C dX5_houseIn_1 ?_
  refine r_iload_n C rfl dX5_houseIn_4 ?_
  refine t_if_lt C 14 (by decide) rfl dX5_houseIn_5 (fun c5 => ?_) (fun c5 => ?_)
  · refine r_null C dX5_houseIn_14 ?_
    refine r_goto C 21 (by decide) dX5_houseIn_15 ?_
    exact r_aret C (v := none) dX5_houseIn_21 rfl (Nat.le_refl _) rfl rfl
  · refine r_iload_n C rfl dX5_houseIn_8 ?_
    refine r_aload_n C rfl rfl dX5_houseIn_9 ?_
    refine r_alen C 24 dX5_houseIn_10 rfl (by decide) (q_lt hh.1 (by decide)) rfl ?_
    refine t_icmp_lt C 18 (by decide) rfl (show (24 : Int32).toInt = 24 from rfl) dX5_houseIn_11 (fun c11 => ?_) (fun c11 => ?_)
    · refine r_aload_n C rfl rfl dX5_houseIn_18 ?_
      refine r_iload_n C rfl dX5_houseIn_19 ?_
      refine r_aald C (v.toInt.toNat) (by omega) (by omega) dX5_houseIn_20 rfl (q_lt hh.1 (by decide)) (oHs.nul hh (by omega) (by omega)) ?_
      exact r_aret C (v := none) dX5_houseIn_21 rfl (Nat.le_refl _) rfl rfl
    · refine r_null C dX5_houseIn_14 ?_
      refine r_goto C 21 (by decide) dX5_houseIn_15 ?_
      exact r_aret C (v := none) dX5_houseIn_21 rfl (Nat.le_refl _) rfl rfl

set_option maxHeartbeats 4000000 in
set_option maxRecDepth 100000 in
theorem sp_houseAt (G : oG) {h : oH} {n : Nat} (hh : oHs h n) (v : Int32) {i : Nat} (hi : i < n) (hv : v.toInt = (i : Int)) : oSp G mX5_houseAt [.ref 0, .int v] h (some (.ref (hid i))) h := by
  refine oSp.intro [some (.ref 0), some (.int v)] rfl (Nat.le_of_ble_eq_true rfl) (plainFor_of_name (by decide +kernel)) (Nat.le_refl _) ?_
  intro p l e R s m args below meth c C
  refine r_aload_n C rfl rfl dX5_houseAt_0 ?_
  refine r_getO C dX5_houseAt_1 fl_X5_11 rfl rfl (q_lt hh.1 (by decide)) (sh_0_0 hh.1) ?_
  refine r_iload_n C rfl dX5_houseAt_4 ?_
  refine r_callS C (sp_houseIn G hh _ hi hv) ks_X5_houseIn kn_X5_houseIn rfl dX5_houseAt_5 cl_X5_216 ⟨Nat.le_of_ble_eq_true rfl, Nat.le_of_ble_eq_true rfl⟩ (Nat.le_refl _) rfl (Nat.le_of_ble_eq_true rfl) ?_
  exact r_aret C (v := some _) dX5_houseAt_8 rfl (Nat.le_refl _) rfl rfl

set_option maxHeartbeats 4000000 in
set_option maxRecDepth 100000 in
theorem sp_houseAtN (G : oG) {h : oH} {n : Nat} (hh : oHs h n) (v : Int32) (hv : ¬ (0 ≤ v.toInt ∧ v.toInt < n)) : oSp G mX5_houseAt [.ref 0, .int v] h (some .null) h := by
  refine oSp.intro [some (.ref 0), some (.int v)] rfl (Nat.le_of_ble_eq_true rfl) (plainFor_of_name (by decide +kernel)) (Nat.le_refl _) ?_
  intro p l e R s m args below meth c C
  refine r_aload_n C rfl rfl dX5_houseAt_0 ?_
  refine r_getO C dX5_houseAt_1 fl_X5_11 rfl rfl (q_lt hh.1 (by decide)) (sh_0_0 hh.1) ?_
  refine r_iload_n C rfl dX5_houseAt_4 ?_
  refine r_callS C (sp_houseInN G hh _ hv) ks_X5_houseIn kn_X5_houseIn rfl dX5_houseAt_5 cl_X5_216 ⟨Nat.le_of_ble_eq_true rfl, Nat.le_of_ble_eq_true rfl⟩ (Nat.le_refl _) rfl (Nat.le_of_ble_eq_true rfl) ?_
  exact r_aret C (v := none) dX5_houseAt_8 rfl (Nat.le_refl _) rfl rfl

abbrev dueC (h : oH) (j : Nat) : Prop := (hI h (hid j) 9).toInt ≤ (hI h 0 6 * (hI h (hid j) 6 + hI h (hid j) 7 * hI h 0 7)).toInt
def dueF (h : oH) (n j : Nat) : Int32 := if j < n then b1 (dueC h j) else 0
set_option maxHeartbeats 4000000 in
set_option maxRecDepth 100000 in
theorem lp_countDue (G : oG) {p : Program} {l : Launch} {e : Env} {R : Room} {s : State} {m : MethodId} {args : Array Value} {below : List Frame} {meth : Method} {c : Code} {n0 nF : Nat} {h : oH} {n : Nat} (hh : oHs h n) (C : oC G mX5_countDue n0 nF p l R s m args meth c) (hF : h.1 ≤ nF) : ∀ (k i : Nat) (x y : Int32) (t : Option Value), i + k = 24 → x.toInt = (i : Int) → y = sumI (dueF h n) i → oS G mX5_countDue p l e R s m args below meth c (oZ G below args s n0 nF (some (.int (sumI (dueF h n) 24))) h) n0 13 [some (.ref 0), some (.int y), some (.ref 1), some (.int 24), some (.int x), t] [] h := by
  have h24 := hh.2.2.1
  intro k
  induction k with
  | zero =>
    intro i x y t hik hx hy
    have hi24 : i = 24 := by omega
    subst hi24
    refine r_iload C rfl dX5_countDue_13 ?_
    refine r_iload_n C rfl dX5_countDue_15 ?_
    refine t_icmp_ge C 55 (by decide) hx (show (24 : Int32).toInt = 24 from rfl) dX5_countDue_16 (fun c16 => ?_) (fun c16 => absurd c16 (by omega))
    refine r_iload_n C rfl dX5_countDue_55 ?_
    exact r_iret C dX5_countDue_56 rfl hF (by rw [hy]) rfl
  | succ k ih =>
    intro i x y t hik hx hy
    by_cases hi : i < n
    · refine r_iload C rfl dX5_countDue_13 ?_
      refine r_iload_n C rfl dX5_countDue_15 ?_
      refine t_icmp_ge C 55 (by decide) hx (show (24 : Int32).toInt = 24 from rfl) dX5_countDue_16 (fun c16 => absurd c16 (by omega)) (fun c16 => ?_)
      refine r_aload_n C rfl rfl dX5_countDue_19 ?_
      refine r_iload C rfl dX5_countDue_20 ?_
      refine r_aald C (i) (by have t := hx; omega) (by omega) dX5_countDue_22 rfl (q_lt hh.1 (by decide)) (oHs.row hh hi) ?_
      refine r_astore C rfl rfl (Nat.le_of_ble_eq_true rfl) dX5_countDue_23 ?_
      refine r_aload C rfl rfl dX5_countDue_25 ?_
      refine r_ifnull C dX5_countDue_27 ?_
      refine r_aload C rfl rfl dX5_countDue_30 ?_
      refine r_aload_n C rfl rfl dX5_countDue_32 ?_
      refine r_getI C dX5_countDue_33 fl_X5_43 rfl (q_lt hh.1 (by decide)) ?_
      refine r_aload_n C rfl rfl dX5_countDue_36 ?_
      refine r_getI C dX5_countDue_37 fl_X5_46 rfl (q_lt hh.1 (by decide)) ?_
      refine r_callV C (sp_isDueC G (tg_hid i) (oHs.lt (by exact hh) hi) _ _) kv_X1_isDue kn_X1_isDue rfl dX5_countDue_40 cl_X5_118 ⟨Nat.le_of_ble_eq_true rfl, Nat.le_of_ble_eq_true rfl⟩ (by decide) rfl (tg_hid i) (oHs.lt hh hi) hF rfl (Nat.le_of_ble_eq_true rfl) ?_
      refine t_ifb_eq C 49 (by decide) dX5_countDue_43 (fun c43 => ?_) (fun c43 => ?_)
      · refine r_iinc C rfl rfl (Nat.le_of_ble_eq_true rfl) dX5_countDue_49 ?_
        refine r_goto C 13 (by decide) dX5_countDue_52 ?_
        exact ih (i + 1) _ _ _ (by omega) (by have t := tA hx (show (Int32.ofInt 1).toInt = 1 from rfl) (by omega); omega) (by rw [hy]; show _ = sumI _ i + (if i < n then b1 _ else 0); rw [if_pos hi, b1_f c43]; first | rfl | rw [Int32.add_zero])
      · refine r_iinc C rfl rfl (Nat.le_of_ble_eq_true rfl) dX5_countDue_46 ?_
        refine r_iinc C rfl rfl (Nat.le_of_ble_eq_true rfl) dX5_countDue_49 ?_
        refine r_goto C 13 (by decide) dX5_countDue_52 ?_
        exact ih (i + 1) _ _ _ (by omega) (by have t := tA hx (show (Int32.ofInt 1).toInt = 1 from rfl) (by omega); omega) (by rw [hy]; show _ = sumI _ i + (if i < n then b1 _ else 0); rw [if_pos hi, b1_t c43]; first | rfl | rw [Int32.add_zero])
    · refine r_iload C rfl dX5_countDue_13 ?_
      refine r_iload_n C rfl dX5_countDue_15 ?_
      refine t_icmp_ge C 55 (by decide) hx (show (24 : Int32).toInt = 24 from rfl) dX5_countDue_16 (fun c16 => absurd c16 (by omega)) (fun c16 => ?_)
      refine r_aload_n C rfl rfl dX5_countDue_19 ?_
      refine r_iload C rfl dX5_countDue_20 ?_
      refine r_aald C (i) (by have t := hx; omega) (by omega) dX5_countDue_22 rfl (q_lt hh.1 (by decide)) (oHs.nul hh hi (by omega)) ?_
      refine r_astore C rfl rfl (Nat.le_of_ble_eq_true rfl) dX5_countDue_23 ?_
      refine r_aload C rfl rfl dX5_countDue_25 ?_
      refine r_ifnullN C 49 (by decide) dX5_countDue_27 ?_
      refine r_iinc C rfl rfl (Nat.le_of_ble_eq_true rfl) dX5_countDue_49 ?_
      refine r_goto C 13 (by decide) dX5_countDue_52 ?_
      exact ih (i + 1) _ _ _ (by omega) (by have t := tA hx (show (Int32.ofInt 1).toInt = 1 from rfl) (by omega); omega) (by rw [hy]; show _ = sumI _ i + (if i < n then b1 _ else 0); rw [if_neg hi, Int32.add_zero])

theorem sum_dueF {h : oH} {n : Nat} (hn : n ≤ 24) : sumI (dueF h n) 24 = sumI (fun j => b1 (dueC h j)) n := by
  rw [sumI_tail (f := dueF h n) hn (fun j hj => if_neg (by omega))]
  exact sumI_congr (fun j hj => if_pos hj)
set_option maxHeartbeats 4000000 in
set_option maxRecDepth 100000 in
theorem sp_countDue (G : oG) {h : oH} {n : Nat} (hh : oHs h n) : oSp G mX5_countDue [.ref 0] h (some (.int (sumI (fun j => b1 (dueC h j)) n))) h := by
  rw [← sum_dueF hh.2.2.1]
  refine oSp.intro [some (.ref 0), none, none, none, none, none] rfl (Nat.le_of_ble_eq_true rfl) (plainFor_of_name (by decide +kernel)) (Nat.le_refl _) ?_
  intro p l e R s m args below meth c C
  refine r_iconstv C 0 rfl dX5_countDue_0 ?_
  refine r_istore_n C rfl (Nat.le_of_ble_eq_true rfl) dX5_countDue_1 ?_
  refine r_aload_n C rfl rfl dX5_countDue_2 ?_
  refine r_getO C dX5_countDue_3 fl_X5_11 rfl rfl (q_lt hh.1 (by decide)) (sh_0_0 hh.1) ?_
  refine r_astore_n C rfl rfl (Nat.le_of_ble_eq_true rfl) dX5_countDue_6 ?_
  refine r_aload_n C rfl rfl dX5_countDue_7 ?_
  refine r_alen C 24 dX5_countDue_8 rfl (by decide) (q_lt hh.1 (by decide)) rfl ?_
  refine r_istore_n C rfl (Nat.le_of_ble_eq_true rfl) dX5_countDue_9 ?_
  refine r_iconstv C 0 rfl dX5_countDue_10 ?_
  refine r_istore C rfl (Nat.le_of_ble_eq_true rfl) dX5_countDue_11 ?_
  exact lp_countDue G hh C (Nat.le_refl _) 24 0 _ _ _ rfl rfl rfl

set_option maxHeartbeats 4000000 in
set_option maxRecDepth 100000 in
theorem lp_due (G : oG) {p : Program} {l : Launch} {e : Env} {R : Room} {s : State} {m : MethodId} {args : Array Value} {below : List Frame} {meth : Method} {c : Code} {n0 nF : Nat} {h : oH} (hs : oSh h) {n : Nat} (hn : (hI h 12 1).toInt = (n : Int)) (hn24 : n ≤ 24) (C : oC G mX6_due n0 nF p l R s m args meth c) (hF : h.1 ≤ nF) : ∀ (k i : Nat) (x y : Int32), i + k = n → x.toInt = (i : Int) → y = sumI (fun j => b1 (dueP h j)) i → oS G mX6_due p l e R s m args below meth c (oZ G below args s n0 nF (some (.int (sumI (fun j => b1 (dueP h j)) n))) h) n0 4 [some (.ref 12), some (.int y), some (.int x)] [] h := by
  intro k
  induction k with
  | zero =>
    intro i x y hik hx hy
    have hin : i = n := by omega
    subst hin
    refine r_iload_n C rfl dX6_due_4 ?_
    refine r_aload_n C rfl rfl dX6_due_5 ?_
    refine r_getI C dX6_due_6 fl_X6_93 rfl (q_lt hs (by decide)) ?_
    refine t_icmp_ge C 34 (by decide) hx hn dX6_due_9 (fun c9 => ?_) (fun c9 => absurd c9 (by omega))
    refine r_iload_n C rfl dX6_due_34 ?_
    exact r_iret C dX6_due_35 rfl hF (by rw [hy]) rfl
  | succ k ih =>
    intro i x y hik hx hy
    refine r_iload_n C rfl dX6_due_4 ?_
    refine r_aload_n C rfl rfl dX6_due_5 ?_
    refine r_getI C dX6_due_6 fl_X6_93 rfl (q_lt hs (by decide)) ?_
    refine t_icmp_ge C 34 (by decide) hx hn dX6_due_9 (fun c9 => absurd c9 (by omega)) (fun c9 => ?_)
    refine r_iload_n C rfl dX6_due_12 ?_
    refine r_aload_n C rfl rfl dX6_due_13 ?_
    refine r_iload_n C rfl dX6_due_14 ?_
    refine r_callV C (sp_isDueM G (by exact hs) _ hx (by omega)) kv_X6_isDue kn_X6_isDue rfl dX6_due_15 cl_X6_125 ⟨Nat.le_of_ble_eq_true rfl, Nat.le_of_ble_eq_true rfl⟩ (by decide) rfl rfl (q_lt hs (by decide)) hF rfl (Nat.le_of_ble_eq_true rfl) ?_
    refine j_ifb C 25 (by decide) rfl dX6_due_18 dX6_due_21 dX6_due_22 dX6_due_25 ?_
    refine r_iadd C dX6_due_26 ?_
    refine r_istore_n C rfl (Nat.le_of_ble_eq_true rfl) dX6_due_27 ?_
    refine r_iinc C rfl rfl (Nat.le_of_ble_eq_true rfl) dX6_due_28 ?_
    refine r_goto C 4 (by decide) dX6_due_31 ?_
    exact ih (i + 1) _ _ (by omega) (by have t := tA hx (show (Int32.ofInt 1).toInt = 1 from rfl) (by omega); omega) (by rw [hy]; rfl)

set_option maxHeartbeats 4000000 in
set_option maxRecDepth 100000 in
theorem sp_due (G : oG) {h : oH} (hs : oSh h) {n : Nat} (hn : (hI h 12 1).toInt = (n : Int)) (hn24 : n ≤ 24) : oSp G mX6_due [.ref 12] h (some (.int (sumI (fun j => b1 (dueP h j)) n))) h := by
  refine oSp.intro [some (.ref 12), none, none] rfl (Nat.le_of_ble_eq_true rfl) (plainFor_of_name (by decide +kernel)) (Nat.le_refl _) ?_
  intro p l e R s m args below meth c C
  refine r_iconstv C 0 rfl dX6_due_0 ?_
  refine r_istore_n C rfl (Nat.le_of_ble_eq_true rfl) dX6_due_1 ?_
  refine r_iconstv C 0 rfl dX6_due_2 ?_
  refine r_istore_n C rfl (Nat.le_of_ble_eq_true rfl) dX6_due_3 ?_
  exact lp_due G hs hn hn24 C (Nat.le_refl _) n 0 _ _ (by omega) rfl rfl

