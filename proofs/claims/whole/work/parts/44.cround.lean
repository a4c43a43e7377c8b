/-! round and stop, the class -/
theorem mem_mK (K : Nat) : mem K = mK K 24 := rfl
theorem xyB_of {h : oH} {n K : Nat} (hK : K < 2 ^ n) (h0 : 0 < n) (hb : ∀ i, i < n → (0 ≤ (hI h 13 i).toInt ∧ (hI h 13 i).toInt ≤ 50) ∧ 0 ≤ (hI h 14 i).toInt ∧ (hI h 14 i).toInt ≤ 50) : xyB (sX h (mem K)) (sY h (mem K)) := fun a => by
  have q := hb _ (mem_getD (a := a) hK h0)
  unfold sX sY
  split
  · omega
  · exact q
theorem sD_d (h : oH) (l : List Nat) : sD h l = dXY (sX h l) (sY h l) := rfl
def prH (h : oH) (x : Int32) (K : Nat) : oH := arH (ptH (geH (sI h 2 5 x) K) (sD h (mem K)) (mem K).length (2 ^ (mem K).length)) (sD h (mem K)) (mem K).length (mem K) (mem K).length
theorem prH_n {h : oH} {x : Int32} {K : Nat} : (prH h x K).1 = h.1 := by
  unfold prH
  rw [arH_n, ptH_n, geH_n]
  rfl
theorem prH_R {h : oH} {x : Int32} {K a y : Nat} : hR (prH h x K) a y = hR h a y := by
  unfold prH
  rw [arH_R, ptH_R, geH_R]
  rfl
theorem prH_J {h : oH} {x : Int32} {K a y : Nat} : hJ (prH h x K) a y = hJ h a y := by
  unfold prH
  rw [arH_J, ptH_J, geH_J]
  rfl
theorem prH_o {h : oH} {x : Int32} {K a y : Nat} (hm : (mem K).length ≤ 8) (c1 : a < 2 ∨ 7 < a) : hI (prH h x K) a y = hI h a y := by
  unfold prH
  rw [arH_o (by omega), ptH_o hm (by omega), geH_o (by omega) (by omega), sI_ne (by omega)]
set_option maxHeartbeats 4000000 in
set_option maxRecDepth 100000 in
theorem sp_prepN (G : oG) {h : oH} {n : Nat} (hh : oHs h n) {K : Nat} (hK0 : 0 < K) (hK : K < 2 ^ n) (hm8 : (mem K).length ≤ 8) (hxy : ∀ i, i < n → hI h (hid i) 0 = hI h 13 i ∧ hI h (hid i) 1 = hI h 14 i) (hB : xyB (sX h (mem K)) (sY h (mem K))) (x : Int32) (hx : x.toInt = (K : Int)) (hk : ¬ (hI h 2 5).toInt = (K : Int)) : oSp G mX4_prepare [.ref 2, .int x, .ref 1] h none (prH h x K) := by
  refine oSp.intro [some (.ref 2), some (.int x), some (.ref 1), none, none] rfl (Nat.le_of_ble_eq_true rfl) (plainFor_of_name (by decide +kernel)) (by rw [prH_n]; exact Nat.le_refl _) ?_
  intro p l e R s m args below meth c C
  refine r_iload_n C rfl dX4_prepare_0 ?_
  refine r_aload_n C rfl rfl dX4_prepare_1 ?_
  refine r_getI C dX4_prepare_2 fl_X4_27 rfl (q_lt hh.1 (by decide)) ?_
  refine t_icmp_ne C 9 (by decide) hx rfl dX4_prepare_5 (fun c5 => ?_) (fun c5 => ?_)
  · first
    | (exfalso; omega)
    |  (refine r_aload_n C rfl rfl dX4_prepare_9 ?_
        refine r_iload_n C rfl dX4_prepare_10 ?_
        refine r_putI C dX4_prepare_11 fl_X4_27 rfl (q_lt hh.1 (by decide)) (Or.inl rfl) ?_
        refine r_aload_n C rfl rfl dX4_prepare_14 ?_
        refine r_iload_n C rfl dX4_prepare_15 ?_
        refine r_aload_n C rfl rfl dX4_prepare_16 ?_
        refine r_callV C (sp_ga G (h := sI h 2 5 x) (by exact hh) hK hm8 x hx) kv_X4_gather kn_X4_gather rfl dX4_prepare_17 cl_X4_39 ⟨Nat.le_of_ble_eq_true rfl, Nat.le_of_ble_eq_true rfl⟩ (by decide) rfl rfl (q_lt hh.1 (by decide)) (by rw [prH_n, geH_n]; exact Nat.le_refl _) rfl (Nat.le_of_ble_eq_true rfl) ?_
        refine r_iconstv C 0 rfl dX4_prepare_20 ?_
        refine r_istore_n C rfl (Nat.le_of_ble_eq_true rfl) dX4_prepare_21 ?_
        have hid0 : ∀ i, K.testBit i = true → i < 24 → hI (sI h 2 5 x) (hid i) 0 = hI h 13 i ∧ hI (sI h 2 5 x) (hid i) 1 = hI h 14 i := fun i hb _ => by
          have hgi := hid_ge i
          have hin : i < n := by
            rcases Nat.lt_or_ge i n with q | q
            · exact q
            · have q1 := tB_le hb
              have q2 := Nat.pow_le_pow_right (n := 2) (by decide) q
              omega
          rw [sI_ne (by omega), sI_ne (by omega)]
          exact hxy i hin
        have hg := geH_g (h := sI h 2 5 x) hm8 hid0 hB
        have hsg : oSh (geH (sI h 2 5 x) K) := (hh.fr (h' := geH (sI h 2 5 x) K) geH_n (fun a y => geH_R)).1
        have p8 : 2 ^ (mem K).length ≤ 256 := Nat.pow_le_pow_right (n := 2) (by decide) hm8
        have hal := ptH_al (h := geH (sI h 2 5 x) K) hm8 hB p8
        have hnu : ∀ a, a < (mem K).length → (hI (ptH (geH (sI h 2 5 x) K) (dXY (sX h (mem K)) (sY h (mem K))) (mem K).length (2 ^ (mem K).length)) 3 a).toInt = (((mem K).getD a 0 : Nat) : Int) := fun a ha => by
          rw [ptH_o hm8 (by decide)]
          exact hg.2 a ha
        have hF2 : (arH (ptH (geH (sI h 2 5 x) K) (dXY (sX h (mem K)) (sY h (mem K))) (mem K).length (2 ^ (mem K).length)) (dXY (sX h (mem K)) (sY h (mem K))) (mem K).length (mem K) (mem K).length).1 ≤ (prH h x K).1 := Nat.le_refl _
        refine lp_pt G hsg hg.1 C (by rw [geH_n, prH_n]; exact Nat.le_refl _) (fun t3 t4 => ?_) (2 ^ (mem K).length) 0 _ _ (by omega) rfl
        refine r_aload_n C rfl rfl dX4_prepare_79 ?_
        refine r_callV C (sp_ar G (sh_pt hsg) (gE_pt hg.1) hnu hal) kv_X4_arrange kn_X4_arrange rfl dX4_prepare_80 cl_X4_47 ⟨Nat.le_of_ble_eq_true rfl, Nat.le_of_ble_eq_true rfl⟩ (by decide) rfl rfl (q_lt (sh_pt hsg) (by decide)) hF2 rfl (Nat.le_of_ble_eq_true rfl) ?_
        exact r_vret C dX4_prepare_83 rfl hF2 rfl)
  · first
    | (exfalso; omega)
    |  (exact r_vret C dX4_prepare_8 rfl (by rw [prH_n]; exact Nat.le_refl _) rfl)

set_option maxHeartbeats 4000000 in
set_option maxRecDepth 100000 in
theorem sp_prepY (G : oG) {h : oH} (hs : oSh h) (x : Int32) (hk : (hI h 2 5).toInt = x.toInt) : oSp G mX4_prepare [.ref 2, .int x, .ref 1] h none h := by
  refine oSp.intro [some (.ref 2), some (.int x), some (.ref 1), none, none] rfl (Nat.le_of_ble_eq_true rfl) (plainFor_of_name (by decide +kernel)) (Nat.le_refl _) ?_
  intro p l e R s m args below meth c C
  refine r_iload_n C rfl dX4_prepare_0 ?_
  refine r_aload_n C rfl rfl dX4_prepare_1 ?_
  refine r_getI C dX4_prepare_2 fl_X4_27 rfl (q_lt hs (by decide)) ?_
  refine t_icmp_ne C 9 (by decide) rfl rfl dX4_prepare_5 (fun c5 => ?_) (fun c5 => ?_)
  · first
    | (exfalso; omega)
    |  (refine r_aload_n C rfl rfl dX4_prepare_9 ?_
        refine r_iload_n C rfl dX4_prepare_10 ?_
        refine r_putI C dX4_prepare_11 fl_X4_27 rfl (q_lt hs (by decide)) (Or.inl rfl) ?_
        refine r_aload_n C rfl rfl dX4_prepare_14 ?_
        refine r_iload_n C rfl dX4_prepare_15 ?_
        refine r_aload_n C rfl rfl dX4_prepare_16 ?_
        refine r_callV C (absurd trivial hk) kv_X4_gather kn_X4_gather rfl dX4_prepare_17 cl_X4_39 ⟨Nat.le_of_ble_eq_true rfl, Nat.le_of_ble_eq_true rfl⟩ (by decide) rfl rfl (q_lt hs (by decide)) (Nat.le_refl _) rfl (Nat.le_of_ble_eq_true rfl) ?_
        refine r_iconstv C 0 rfl dX4_prepare_20 ?_
        refine r_istore_n C rfl (Nat.le_of_ble_eq_true rfl) dX4_prepare_21 ?_
        (exfalso; omega))
  · first
    | (exfalso; omega)
    |  (exact r_vret C dX4_prepare_8 rfl (Nat.le_refl _) rfl)

/-- what stands of the route -/
def rtF (h0 h : oH) (K : Nat) : Prop := (hI h 2 5).toInt = (K : Int) ∧ (hI h 2 6).toInt = ((mem K).length : Int) ∧ (hI h 7 ((2 ^ (mem K).length - 1) * 9 + 8)).toInt = wy (sD h0 (mem K)) (mem K).length (2 ^ (mem K).length - 1) 8 ∧ ∀ i, i < (mem K).length → (hI h 6 i).toInt = (((mem K).getD (och (sD h0 (mem K)) (mem K).length (i + 1)).2 0 : Nat) : Int)
theorem prH_f {h : oH} {n : Nat} (hn0 : 0 < n) (hn24 : n ≤ 24) {K : Nat} (hK0 : 0 < K) (hK : K < 2 ^ n) (hm8 : (mem K).length ≤ 8) (hxy : ∀ i, i < n → hI h (hid i) 0 = hI h 13 i ∧ hI h (hid i) 1 = hI h 14 i) (hB : xyB (sX h (mem K)) (sY h (mem K))) (x : Int32) (hx : x.toInt = (K : Int)) : rtF h (prH h x K) K := by
  have p8 : 2 ^ (mem K).length ≤ 256 := Nat.pow_le_pow_right (n := 2) (by decide) hm8
  have pz := pw_pos (mem K).length
  refine ⟨?_, ?_, ?_, fun i hi => ?_⟩
  · unfold prH
    rw [arH_o (by decide), ptH_o hm8 (by decide), geH_o (by decide) (by decide), sI_eq ⟨rfl, rfl⟩]
    exact hx
  · unfold prH
    rw [arH_o (by decide), ptH_o hm8 (by decide)]
    unfold geH
    rw [sI_ne (by omega), sI_ne (by omega)]
    exact gaH_6 24 (Nat.le_refl _)
  · unfold prH
    rw [arH_o (by decide)]
    exact ptH_al (h := geH (sI h 2 5 x) K) hm8 hB p8 _ (by omega) 8 (Or.inl rfl)
  · unfold prH
    rw [arH_6 _ hi]
    refine kI_t ?_
    have := mem_getD (a := (och (sD h (mem K)) (mem K).length (i + 1)).2) hK hn0
    omega
theorem prep (G : oG) {h : oH} {n T : Nat} (I : Inv h n T) {K : Nat} (hK0 : 0 < K) (hK : K < 2 ^ n) (hm8 : (mem K).length ≤ 8) (x : Int32) (hx : x.toInt = (K : Int)) : ∃ h1, oSp G mX4_prepare [.ref 2, .int x, .ref 1] h none h1 ∧ rtF h h1 K ∧ h1.1 = h.1 ∧ (∀ a y, hR h1 a y = hR h a y) ∧ (∀ a y, hJ h1 a y = hJ h a y) ∧ ∀ a y, (a < 2 ∨ 7 < a) → hI h1 a y = hI h a y := by
  have h24 := I.1.2.2.1
  by_cases hk : (hI h 2 5).toInt = (K : Int)
  · refine ⟨h, sp_prepY G I.1.1 x (by omega), ?_, rfl, fun _ _ => rfl, fun _ _ => rfl, fun _ _ _ => rfl⟩
    rcases I.2.2.2.2.2.2.1 with q | ⟨K', k0, k1, k2, k3, k4, k5, k6⟩
    · omega
    · have e : K' = K := by omega
      subst e
      exact ⟨k3, k4, k5, k6⟩
  · have hn0 : 0 < n := by
      rcases Nat.eq_zero_or_pos n with z | z
      · rw [z] at hK
        omega
      · exact z
    have hxy : ∀ i, i < n → hI h (hid i) 0 = hI h 13 i ∧ hI h (hid i) 1 = hI h 14 i := fun i hi => by
      have q := (I.2.2.2.1 i hi).1
      exact ⟨q.1, q.2.1⟩
    have hB := xyB_of hK hn0 (fun i hi => by
      have q := (I.2.2.2.1 i hi).2
      exact ⟨q.1, q.2.1⟩)
    exact ⟨_, sp_prepN G I.1 hK0 hK hm8 hxy hB x hx hk, prH_f hn0 h24 hK0 hK hm8 hxy hB x hx, prH_n, fun _ _ => prH_R, fun _ _ => prH_J, fun a y c1 => prH_o hm8 c1⟩
set_option maxHeartbeats 4000000 in
set_option maxRecDepth 100000 in
theorem sp_way (G : oG) {h : oH} (hs : oSh h) {mm : Nat} (h6 : (hI h 2 6).toInt = (mm : Int)) (g8 : mm ≤ 8) : oSp G mX4_way [.ref 2] h (some (.int (hI h 7 ((2 ^ mm - 1) * 9 + 8)))) h := by
  have p8 : 2 ^ mm ≤ 256 := Nat.pow_le_pow_right (n := 2) (by decide) g8
  have pz := pw_pos mm
  refine oSp.intro [some (.ref 2)] rfl (Nat.le_of_ble_eq_true rfl) (plainFor_of_name (by decide +kernel)) (Nat.le_refl _) ?_
  intro p l e R s m args below meth c C
  refine r_aload_n C rfl rfl dX4_way_0 ?_
  refine r_iconstv C 1 rfl dX4_way_1 ?_
  refine r_aload_n C rfl rfl dX4_way_2 ?_
  refine r_getI C dX4_way_3 fl_X4_31 rfl (q_lt hs (by decide)) ?_
  refine r_ishl C dX4_way_6 ?_
  refine r_iconstv C 1 rfl dX4_way_7 ?_
  refine r_isub C dX4_way_8 ?_
  refine r_bipush C 8 rfl dX4_way_9 ?_
  refine r_callV C (sp_lat G hs _ _ (pp := 2 ^ mm - 1) (a := 8) (by rw [tS (tShl h6 (by omega)) (show (1 : Int32).toInt = 1 from rfl) (by omega)]; show _ = ((2 ^ mm - 1 : Nat) : Int); omega) rfl (by omega) (by omega)) kv_X4_leastAt kn_X4_leastAt rfl dX4_way_11 cl_X4_34 ⟨Nat.le_of_ble_eq_true rfl, Nat.le_of_ble_eq_true rfl⟩ (by decide) rfl rfl (q_lt hs (by decide)) (Nat.le_refl _) rfl (Nat.le_of_ble_eq_true rfl) ?_
  exact r_iret C dX4_way_14 rfl (Nat.le_refl _) rfl rfl

set_option maxHeartbeats 4000000 in
set_option maxRecDepth 100000 in
theorem sp_hon (G : oG) {h : oH} (hs : oSh h) {mm : Nat} (h6 : (hI h 2 6).toInt = (mm : Int)) (g8 : mm ≤ 8) (x : Int32) {i : Nat} (hx : x.toInt = (i : Int)) (hi : i < mm) : oSp G mX4_houseOn [.ref 2, .int x] h (some (.int (hI h 6 i))) h := by
  refine oSp.intro [some (.ref 2), some (.int x)] rfl (Nat.le_of_ble_eq_true rfl) (plainFor_of_name (by decide +kernel)) (Nat.le_refl _) ?_
  intro p l e R s m args below meth c C
  refine r_iload_n C rfl dX4_houseOn_0 ?_
  refine t_if_lt C 21 (by decide) hx dX4_houseOn_1 (fun c1 => ?_) (fun c1 => ?_)
  · first
    | (exfalso; omega)
    |  (refine r_ldc C _ lc_X4_38 dX4_houseOn_21 ?_
        refine r_goto C 32 (by decide) dX4_houseOn_23 ?_
        exact r_iret C dX4_houseOn_32 rfl (Nat.le_refl _) rfl rfl)
  · first
    | (exfalso; omega)
    |  (refine r_iload_n C rfl dX4_houseOn_4 ?_
        refine r_aload_n C rfl rfl dX4_houseOn_5 ?_
        refine r_getI C dX4_houseOn_6 fl_X4_31 rfl (q_lt hs (by decide)) ?_
        refine t_icmp_ge C 21 (by decide) hx h6 dX4_houseOn_9 (fun c9 => ?_) (fun c9 => ?_)
        · first
          | (exfalso; omega)
          |  (refine r_ldc C _ lc_X4_38 dX4_houseOn_21 ?_
              refine r_goto C 32 (by decide) dX4_houseOn_23 ?_
              exact r_iret C dX4_houseOn_32 rfl (Nat.le_refl _) rfl rfl)
        · first
          | (exfalso; omega)
          |  (refine r_iload_n C rfl dX4_houseOn_12 ?_
              refine r_aload_n C rfl rfl dX4_houseOn_13 ?_
              refine r_getO C dX4_houseOn_14 fl_X4_21 rfl rfl (q_lt hs (by decide)) (sh_2_3 hs) ?_
              refine r_alen C 8 dX4_houseOn_17 rfl (by decide) (q_lt hs (by decide)) rfl ?_
              refine t_icmp_lt C 26 (by decide) hx (show (8 : Int32).toInt = 8 from rfl) dX4_houseOn_18 (fun c18 => ?_) (fun c18 => ?_)
              · first
                | (exfalso; omega)
                |  (refine r_aload_n C rfl rfl dX4_houseOn_26 ?_
                    refine r_getO C dX4_houseOn_27 fl_X4_21 rfl rfl (q_lt hs (by decide)) (sh_2_3 hs) ?_
                    refine r_iload_n C rfl dX4_houseOn_30 ?_
                    refine r_iald C (i) (by have t := hx; omega) (by omega) dX4_houseOn_31 rfl (q_lt hs (by decide)) ?_
                    exact r_iret C dX4_houseOn_32 rfl (Nat.le_refl _) rfl rfl)
              · first
                | (exfalso; omega)
                |  (refine r_ldc C _ lc_X4_38 dX4_houseOn_21 ?_
                    refine r_goto C 32 (by decide) dX4_houseOn_23 ?_
                    exact r_iret C dX4_houseOn_32 rfl (Nat.le_refl _) rfl rfl)))

set_option maxHeartbeats 4000000 in
set_option maxRecDepth 100000 in
theorem sp_honN (G : oG) {h : oH} (hs : oSh h) {mm : Nat} (h6 : (hI h 2 6).toInt = (mm : Int)) (g8 : mm ≤ 8) (x : Int32) (hx : ¬ (0 ≤ x.toInt ∧ x.toInt < mm)) : oSp G mX4_houseOn [.ref 2, .int x] h (some (.int (-1000000))) h := by
  refine oSp.intro [some (.ref 2), some (.int x)] rfl (Nat.le_of_ble_eq_true rfl) (plainFor_of_name (by decide +kernel)) (Nat.le_refl _) ?_
  intro p l e R s m args below meth c C
  refine r_iload_n C rfl dX4_houseOn_0 ?_
  refine t_if_lt C 21 (by decide) rfl dX4_houseOn_1 (fun c1 => ?_) (fun c1 => ?_)
  · first
    | (exfalso; omega)
    |  (refine r_ldc C _ lc_X4_38 dX4_houseOn_21 ?_
        refine r_goto C 32 (by decide) dX4_houseOn_23 ?_
        exact r_iret C dX4_houseOn_32 rfl (Nat.le_refl _) rfl rfl)
  · first
    | (exfalso; omega)
    |  (refine r_iload_n C rfl dX4_houseOn_4 ?_
        refine r_aload_n C rfl rfl dX4_houseOn_5 ?_
        refine r_getI C dX4_houseOn_6 fl_X4_31 rfl (q_lt hs (by decide)) ?_
        refine t_icmp_ge C 21 (by decide) rfl h6 dX4_houseOn_9 (fun c9 => ?_) (fun c9 => ?_)
        · first
          | (exfalso; omega)
          |  (refine r_ldc C _ lc_X4_38 dX4_houseOn_21 ?_
              refine r_goto C 32 (by decide) dX4_houseOn_23 ?_
              exact r_iret C dX4_houseOn_32 rfl (Nat.le_refl _) rfl rfl)
        · first
          | (exfalso; omega)
          |  (refine r_iload_n C rfl dX4_houseOn_12 ?_
              refine r_aload_n C rfl rfl dX4_houseOn_13 ?_
              refine r_getO C dX4_houseOn_14 fl_X4_21 rfl rfl (q_lt hs (by decide)) (sh_2_3 hs) ?_
              refine r_alen C 8 dX4_houseOn_17 rfl (by decide) (q_lt hs (by decide)) rfl ?_
              refine t_icmp_lt C 26 (by decide) rfl (show (8 : Int32).toInt = 8 from rfl) dX4_houseOn_18 (fun c18 => ?_) (fun c18 => ?_)
              · first
                | (exfalso; omega)
                |  (refine r_aload_n C rfl rfl dX4_houseOn_26 ?_
                    refine r_getO C dX4_houseOn_27 fl_X4_21 rfl rfl (q_lt hs (by decide)) (sh_2_3 hs) ?_
                    refine r_iload_n C rfl dX4_houseOn_30 ?_
                    refine r_iald C (x.toInt) rfl (by omega) dX4_houseOn_31 rfl (q_lt hs (by decide)) ?_
                    exact r_iret C dX4_houseOn_32 rfl (Nat.le_refl _) rfl rfl)
              · first
                | (exfalso; omega)
                |  (refine r_ldc C _ lc_X4_38 dX4_houseOn_21 ?_
                    refine r_goto C 32 (by decide) dX4_houseOn_23 ?_
                    exact r_iret C dX4_houseOn_32 rfl (Nat.le_refl _) rfl rfl)))

set_option maxHeartbeats 4000000 in
set_option maxRecDepth 100000 in
theorem sp_nr0 (G : oG) {h : oH} (hs : oSh h) {n : Nat} (hc : (hI h 0 4).toInt = (n : Int)) (hn24 : n ≤ 24) (x : Int32) {K : Nat} (hx : x.toInt = (K : Int)) (hK0 : 0 < K) (hK : K < 2 ^ n) (hm : pcn K 24 ≤ 8) : oSp G mX5_isNoRound [.ref 0, .int x] h (some (.int 0)) h := by
  have hK24 : K < 16777216 := Nat.lt_of_lt_of_le hK (Nat.pow_le_pow_right (n := 2) (by decide) hn24)
  have hsr : (x >>> (hI h 0 4 &&& 31)).toInt = 0 := by
    rw [tShr hx hc (by omega), Nat.div_eq_of_lt hK]
    rfl
  refine oSp.intro [some (.ref 0), some (.int x)] rfl (Nat.le_of_ble_eq_true rfl) (plainFor_of_name (by decide +kernel)) (Nat.le_refl _) ?_
  intro p l e R s m args below meth c C
  refine r_iload_n C rfl dX5_isNoRound_0 ?_
  refine t_if_le C 22 (by decide) hx dX5_isNoRound_1 (fun c1 => ?_) (fun c1 => ?_)
  · first
    | (exfalso; omega)
    |  (refine r_iconstv C 1 rfl dX5_isNoRound_22 ?_
        refine r_goto C 27 (by decide) dX5_isNoRound_23 ?_
        exact r_zret C dX5_isNoRound_27 rfl rfl (Nat.le_refl _) rfl rfl)
  · first
    | (exfalso; omega)
    |  (refine r_iload_n C rfl dX5_isNoRound_4 ?_
        refine r_aload_n C rfl rfl dX5_isNoRound_5 ?_
        refine r_getI C dX5_isNoRound_6 fl_X5_36 rfl (q_lt hs (by decide)) ?_
        refine r_ishr C dX5_isNoRound_9 ?_
        refine t_if_ne C 22 (by decide) rfl dX5_isNoRound_10 (fun c10 => ?_) (fun c10 => ?_)
        · first
          | (exfalso; omega)
          |  (refine r_iconstv C 1 rfl dX5_isNoRound_22 ?_
              refine r_goto C 27 (by decide) dX5_isNoRound_23 ?_
              exact r_zret C dX5_isNoRound_27 rfl rfl (Nat.le_refl _) rfl rfl)
        · first
          | (exfalso; omega)
          |  (refine r_iload_n C rfl dX5_isNoRound_13 ?_
              refine r_callS C (sp_bit G _ hx hK24) ks_J6_bitCount_0f7a4 kn_J6_bitCount_0f7a4 rfl dX5_isNoRound_14 cl_X5_133 ⟨Nat.le_of_ble_eq_true rfl, Nat.le_of_ble_eq_true rfl⟩ (Nat.le_refl _) rfl (Nat.le_of_ble_eq_true rfl) ?_
              refine r_bipush C 8 rfl dX5_isNoRound_17 ?_
              refine t_icmp_le C 26 (by decide) (bit_eq hx hK24) (show (8 : Int32).toInt = 8 from rfl) dX5_isNoRound_19 (fun c19 => ?_) (fun c19 => ?_)
              · first
                | (exfalso; omega)
                |  (refine r_iconstv C 0 rfl dX5_isNoRound_26 ?_
                    exact r_zret C dX5_isNoRound_27 rfl rfl (Nat.le_refl _) rfl rfl)
              · first
                | (exfalso; omega)
                |  (refine r_iconstv C 1 rfl dX5_isNoRound_22 ?_
                    refine r_goto C 27 (by decide) dX5_isNoRound_23 ?_
                    exact r_zret C dX5_isNoRound_27 rfl rfl (Nat.le_refl _) rfl rfl)))

set_option maxHeartbeats 4000000 in
set_option maxRecDepth 100000 in
theorem sp_nr1 (G : oG) {h : oH} (hs : oSh h) {n : Nat} (hc : (hI h 0 4).toInt = (n : Int)) (hn24 : n ≤ 24) (x : Int32) (hx : x.toInt ≤ 0) : oSp G mX5_isNoRound [.ref 0, .int x] h (some (.int 1)) h := by
  refine oSp.intro [some (.ref 0), some (.int x)] rfl (Nat.le_of_ble_eq_true rfl) (plainFor_of_name (by decide +kernel)) (Nat.le_refl _) ?_
  intro p l e R s m args below meth c C
  refine r_iload_n C rfl dX5_isNoRound_0 ?_
  refine t_if_le C 22 (by decide) rfl dX5_isNoRound_1 (fun c1 => ?_) (fun c1 => ?_)
  · first
    | (exfalso; omega)
    |  (refine r_iconstv C 1 rfl dX5_isNoRound_22 ?_
        refine r_goto C 27 (by decide) dX5_isNoRound_23 ?_
        exact r_zret C dX5_isNoRound_27 rfl rfl (Nat.le_refl _) rfl rfl)
  · first
    | (exfalso; omega)
    |  (refine r_iload_n C rfl dX5_isNoRound_4 ?_
        refine r_aload_n C rfl rfl dX5_isNoRound_5 ?_
        refine r_getI C dX5_isNoRound_6 fl_X5_36 rfl (q_lt hs (by decide)) ?_
        refine r_ishr C dX5_isNoRound_9 ?_
        refine t_if_ne C 22 (by decide) rfl dX5_isNoRound_10 (fun c10 => ?_) (fun c10 => ?_)
        · first
          | (exfalso; omega)
          |  (refine r_iconstv C 1 rfl dX5_isNoRound_22 ?_
              refine r_goto C 27 (by decide) dX5_isNoRound_23 ?_
              exact r_zret C dX5_isNoRound_27 rfl rfl (Nat.le_refl _) rfl rfl)
        · first
          | (exfalso; omega)
          |  (refine r_iload_n C rfl dX5_isNoRound_13 ?_
              refine r_callS C (absurd trivial hx) ks_J6_bitCount_0f7a4 kn_J6_bitCount_0f7a4 rfl dX5_isNoRound_14 cl_X5_133 ⟨Nat.le_of_ble_eq_true rfl, Nat.le_of_ble_eq_true rfl⟩ (Nat.le_refl _) rfl (Nat.le_of_ble_eq_true rfl) ?_
              refine r_bipush C 8 rfl dX5_isNoRound_17 ?_
              refine t_icmp_le C 26 (by decide) rfl (show (8 : Int32).toInt = 8 from rfl) dX5_isNoRound_19 (fun c19 => ?_) (fun c19 => ?_)
              · first
                | (exfalso; omega)
                |  (refine r_iconstv C 0 rfl dX5_isNoRound_26 ?_
                    exact r_zret C dX5_isNoRound_27 rfl rfl (Nat.le_refl _) rfl rfl)
              · first
                | (exfalso; omega)
                |  (refine r_iconstv C 1 rfl dX5_isNoRound_22 ?_
                    refine r_goto C 27 (by decide) dX5_isNoRound_23 ?_
                    exact r_zret C dX5_isNoRound_27 rfl rfl (Nat.le_refl _) rfl rfl)))

set_option maxHeartbeats 4000000 in
set_option maxRecDepth 100000 in
theorem sp_nr2 (G : oG) {h : oH} (hs : oSh h) {n : Nat} (hc : (hI h 0 4).toInt = (n : Int)) (hn24 : n ≤ 24) (x : Int32) {K : Nat} (hx : x.toInt = (K : Int)) (hK0 : 0 < K) (hK : ¬ K < 2 ^ n) : oSp G mX5_isNoRound [.ref 0, .int x] h (some (.int 1)) h := by
  have hsr : ¬ (x >>> (hI h 0 4 &&& 31)).toInt = 0 := by
    rw [tShr hx hc (by omega)]
    have q := Nat.div_pos (Nat.le_of_not_lt hK) (pw_pos n)
    omega
  refine oSp.intro [some (.ref 0), some (.int x)] rfl (Nat.le_of_ble_eq_true rfl) (plainFor_of_name (by decide +kernel)) (Nat.le_refl _) ?_
  intro p l e R s m args below meth c C
  refine r_iload_n C rfl dX5_isNoRound_0 ?_
  refine t_if_le C 22 (by decide) hx dX5_isNoRound_1 (fun c1 => ?_) (fun c1 => ?_)
  · first
    | (exfalso; omega)
    |  (refine r_iconstv C 1 rfl dX5_isNoRound_22 ?_
        refine r_goto C 27 (by decide) dX5_isNoRound_23 ?_
        exact r_zret C dX5_isNoRound_27 rfl rfl (Nat.le_refl _) rfl rfl)
  · first
    | (exfalso; omega)
    |  (refine r_iload_n C rfl dX5_isNoRound_4 ?_
        refine r_aload_n C rfl rfl dX5_isNoRound_5 ?_
        refine r_getI C dX5_isNoRound_6 fl_X5_36 rfl (q_lt hs (by decide)) ?_
        refine r_ishr C dX5_isNoRound_9 ?_
        refine t_if_ne C 22 (by decide) rfl dX5_isNoRound_10 (fun c10 => ?_) (fun c10 => ?_)
        · first
          | (exfalso; omega)
          |  (refine r_iconstv C 1 rfl dX5_isNoRound_22 ?_
              refine r_goto C 27 (by decide) dX5_isNoRound_23 ?_
              exact r_zret C dX5_isNoRound_27 rfl rfl (Nat.le_refl _) rfl rfl)
        · first
          | (exfalso; omega)
          |  (refine r_iload_n C rfl dX5_isNoRound_13 ?_
              refine r_callS C (absurd trivial hx) ks_J6_bitCount_0f7a4 kn_J6_bitCount_0f7a4 rfl dX5_isNoRound_14 cl_X5_133 ⟨Nat.le_of_ble_eq_true rfl, Nat.le_of_ble_eq_true rfl⟩ (Nat.le_refl _) rfl (Nat.le_of_ble_eq_true rfl) ?_
              refine r_bipush C 8 rfl dX5_isNoRound_17 ?_
              refine t_icmp_le C 26 (by decide) rfl (show (8 : Int32).toInt = 8 from rfl) dX5_isNoRound_19 (fun c19 => ?_) (fun c19 => ?_)
              · first
                | (exfalso; omega)
                |  (refine r_iconstv C 0 rfl dX5_isNoRound_26 ?_
                    exact r_zret C dX5_isNoRound_27 rfl rfl (Nat.le_refl _) rfl rfl)
              · first
                | (exfalso; omega)
                |  (refine r_iconstv C 1 rfl dX5_isNoRound_22 ?_
                    refine r_goto C 27 (by decide) dX5_isNoRound_23 ?_
                    exact r_zret C dX5_isNoRound_27 rfl rfl (Nat.le_refl _) rfl rfl)))

set_option maxHeartbeats 4000000 in
set_option maxRecDepth 100000 in
theorem sp_nr3 (G : oG) {h : oH} (hs : oSh h) {n : Nat} (hc : (hI h 0 4).toInt = (n : Int)) (hn24 : n ≤ 24) (x : Int32) {K : Nat} (hx : x.toInt = (K : Int)) (hK0 : 0 < K) (hK : K < 2 ^ n) (hm : ¬ pcn K 24 ≤ 8) : oSp G mX5_isNoRound [.ref 0, .int x] h (some (.int 1)) h := by
  have hK24 : K < 16777216 := Nat.lt_of_lt_of_le hK (Nat.pow_le_pow_right (n := 2) (by decide) hn24)
  have hsr : (x >>> (hI h 0 4 &&& 31)).toInt = 0 := by
    rw [tShr hx hc (by omega), Nat.div_eq_of_lt hK]
    rfl
  refine oSp.intro [some (.ref 0), some (.int x)] rfl (Nat.le_of_ble_eq_true rfl) (plainFor_of_name (by decide +kernel)) (Nat.le_refl _) ?_
  intro p l e R s m args below meth c C
  refine r_iload_n C rfl dX5_isNoRound_0 ?_
  refine t_if_le C 22 (by decide) hx dX5_isNoRound_1 (fun c1 => ?_) (fun c1 => ?_)
  · first
    | (exfalso; omega)
    |  (refine r_iconstv C 1 rfl dX5_isNoRound_22 ?_
        refine r_goto C 27 (by decide) dX5_isNoRound_23 ?_
        exact r_zret C dX5_isNoRound_27 rfl rfl (Nat.le_refl _) rfl rfl)
  · first
    | (exfalso; omega)
    |  (refine r_iload_n C rfl dX5_isNoRound_4 ?_
        refine r_aload_n C rfl rfl dX5_isNoRound_5 ?_
        refine r_getI C dX5_isNoRound_6 fl_X5_36 rfl (q_lt hs (by decide)) ?_
        refine r_ishr C dX5_isNoRound_9 ?_
        refine t_if_ne C 22 (by decide) rfl dX5_isNoRound_10 (fun c10 => ?_) (fun c10 => ?_)
        · first
          | (exfalso; omega)
          |  (refine r_iconstv C 1 rfl dX5_isNoRound_22 ?_
              refine r_goto C 27 (by decide) dX5_isNoRound_23 ?_
              exact r_zret C dX5_isNoRound_27 rfl rfl (Nat.le_refl _) rfl rfl)
        · first
          | (exfalso; omega)
          |  (refine r_iload_n C rfl dX5_isNoRound_13 ?_
              refine r_callS C (sp_bit G _ hx hK24) ks_J6_bitCount_0f7a4 kn_J6_bitCount_0f7a4 rfl dX5_isNoRound_14 cl_X5_133 ⟨Nat.le_of_ble_eq_true rfl, Nat.le_of_ble_eq_true rfl⟩ (Nat.le_refl _) rfl (Nat.le_of_ble_eq_true rfl) ?_
              refine r_bipush C 8 rfl dX5_isNoRound_17 ?_
              refine t_icmp_le C 26 (by decide) (bit_eq hx hK24) (show (8 : Int32).toInt = 8 from rfl) dX5_isNoRound_19 (fun c19 => ?_) (fun c19 => ?_)
              · first
                | (exfalso; omega)
                |  (refine r_iconstv C 0 rfl dX5_isNoRound_26 ?_
                    exact r_zret C dX5_isNoRound_27 rfl rfl (Nat.le_refl _) rfl rfl)
              · first
                | (exfalso; omega)
                |  (refine r_iconstv C 1 rfl dX5_isNoRound_22 ?_
                    refine r_goto C 27 (by decide) dX5_isNoRound_23 ?_
                    exact r_zret C dX5_isNoRound_27 rfl rfl (Nat.le_refl _) rfl rfl)))

def vSet (n : Nat) (x : Int32) : Prop := ∃ K : Nat, x.toInt = (K : Int) ∧ 0 < K ∧ K < 2 ^ n ∧ (mem K).length ≤ 8
theorem sp_nrN (G : oG) {h : oH} (hs : oSh h) {n : Nat} (hc : (hI h 0 4).toInt = (n : Int)) (hn24 : n ≤ 24) (x : Int32) (hv : ¬ vSet n x) : oSp G mX5_isNoRound [.ref 0, .int x] h (some (.int 1)) h := by
  by_cases h1 : x.toInt ≤ 0
  · exact sp_nr1 G hs hc hn24 x h1
  · have hx : x.toInt = ((x.toInt.toNat : Nat) : Int) := by omega
    by_cases h2 : x.toInt.toNat < 2 ^ n
    · refine sp_nr3 G hs hc hn24 x hx (by omega) h2 (fun q => hv ⟨_, hx, by omega, h2, ?_⟩)
      rw [mem_mK, mK_len]
      exact q
    · exact sp_nr2 G hs hc hn24 x hx (by omega) h2
/-- what the houses of a set may need -/
def ndI (f : Nat → Int32) (K : Nat) : Nat → Int32
  | 0 => 0
  | i + 1 => if K.testBit i = true then ndI f K i + f i else ndI f K i
theorem ndI_t {f : Nat → Int32} {K i : Nat} (b : K.testBit i = true) : ndI f K (i + 1) = ndI f K i + f i := if_pos b
theorem ndI_f {f : Nat → Int32} {K i : Nat} (b : ¬ K.testBit i = true) : ndI f K (i + 1) = ndI f K i := if_neg b
def nfC (h : oH) (j : Nat) : Int32 := hI h (hid j) 2 - hI h (hid j) 9
set_option maxHeartbeats 4000000 in
set_option maxRecDepth 100000 in
theorem lp_nd (G : oG) {p : Program} {l : Launch} {e : Env} {R : Room} {s : State} {m : MethodId} {args : Array Value} {below : List Frame} {meth : Method} {c : Code} {n0 nF : Nat} {h : oH} {n : Nat} (hh : oHs h n) {K : Nat} (hK : K < 2 ^ n) {x1 : Int32} (h1 : x1.toInt = (K : Int)) (C : oC G mX5_needOf n0 nF p l R s m args meth c) (hF : h.1 ≤ nF) : ∀ (k i : Nat) (y x : Int32) (t4 : Option Value), i + k = 24 → x.toInt = (i : Int) → y = ndI (nfC h) K i → oS G mX5_needOf p l e R s m args below meth c (oZ G below args s n0 nF (some (.int (ndI (nfC h) K 24))) h) n0 4 [some (.ref 0), some (.int x1), some (.int y), some (.int x), t4] [] h := by
  have h24 := hh.2.2.1
  intro k
  induction k with
  | zero =>
    intro i y x t4 hik hx hy
    have hi24 : i = 24 := by omega
    subst hi24
    refine r_iload_n C rfl dX5_needOf_4 ?_
    refine r_aload_n C rfl rfl dX5_needOf_5 ?_
    refine r_getO C dX5_needOf_6 fl_X5_11 rfl rfl (q_lt hh.1 (by decide)) (sh_0_0 hh.1) ?_
    refine r_alen C 24 dX5_needOf_9 rfl (by decide) (q_lt hh.1 (by decide)) rfl ?_
    refine t_icmp_ge C 49 (by decide) hx (show (24 : Int32).toInt = 24 from rfl) dX5_needOf_10 (fun c10 => ?_) (fun c10 => absurd c10 (by omega))
    refine r_iload_n C rfl dX5_needOf_49 ?_
    exact r_iret C dX5_needOf_50 rfl hF (by rw [hy]) rfl
  | succ k ih =>
    intro i y x t4 hik hx hy
    by_cases hi : i < n
    · by_cases hbt : K.testBit i = true
      · refine r_iload_n C rfl dX5_needOf_4 ?_
        refine r_aload_n C rfl rfl dX5_needOf_5 ?_
        refine r_getO C dX5_needOf_6 fl_X5_11 rfl rfl (q_lt hh.1 (by decide)) (sh_0_0 hh.1) ?_
        refine r_alen C 24 dX5_needOf_9 rfl (by decide) (q_lt hh.1 (by decide)) rfl ?_
        refine t_icmp_ge C 49 (by decide) hx (show (24 : Int32).toInt = 24 from rfl) dX5_needOf_10 (fun c10 => absurd c10 (by omega)) (fun c10 => ?_)
        refine r_aload_n C rfl rfl dX5_needOf_13 ?_
        refine r_getO C dX5_needOf_14 fl_X5_11 rfl rfl (q_lt hh.1 (by decide)) (sh_0_0 hh.1) ?_
        refine r_iload_n C rfl dX5_needOf_17 ?_
        refine r_aald C (i) (by have t := hx; omega) (by omega) dX5_needOf_18 rfl (q_lt hh.1 (by decide)) (oHs.row hh hi) ?_
        refine r_astore C rfl rfl (Nat.le_of_ble_eq_true rfl) dX5_needOf_19 ?_
        refine r_aload C rfl rfl dX5_needOf_21 ?_
        refine r_ifnull C dX5_needOf_23 ?_
        refine r_iload_n C rfl dX5_needOf_26 ?_
        refine r_iload_n C rfl dX5_needOf_27 ?_
        refine r_ishr C dX5_needOf_28 ?_
        refine r_iconstv C 1 rfl dX5_needOf_29 ?_
        refine r_iand C dX5_needOf_30 ?_
        refine r_iconstv C 1 rfl dX5_needOf_31 ?_
        refine t_icmp_ne C 43 (by decide) rfl (show (1 : Int32).toInt = 1 from rfl) dX5_needOf_32 (fun c32 => absurd (by rw [tBit h1 hx (by omega), if_pos hbt]) c32) (fun c32 => ?_)
        refine r_iload_n C rfl dX5_needOf_35 ?_
        refine r_aload C rfl rfl dX5_needOf_36 ?_
        refine r_callV C (sp_mayNeed G (tg_hid i) (oHs.lt (by exact hh) hi)) kv_X1_mayNeed kn_X1_mayNeed rfl dX5_needOf_38 cl_X5_141 ⟨Nat.le_of_ble_eq_true rfl, Nat.le_of_ble_eq_true rfl⟩ (by decide) rfl (tg_hid i) (oHs.lt hh hi) hF rfl (Nat.le_of_ble_eq_true rfl) ?_
        refine r_iadd C dX5_needOf_41 ?_
        refine r_istore_n C rfl (Nat.le_of_ble_eq_true rfl) dX5_needOf_42 ?_
        refine r_iinc C rfl rfl (Nat.le_of_ble_eq_true rfl) dX5_needOf_43 ?_
        refine r_goto C 4 (by decide) dX5_needOf_46 ?_
        exact ih (i + 1) _ _ _ (by omega) (by have t := tA hx (show (Int32.ofInt 1).toInt = 1 from rfl) (by omega); omega) (by rw [hy, ndI_t hbt]; rfl)
      · refine r_iload_n C rfl dX5_needOf_4 ?_
        refine r_aload_n C rfl rfl dX5_needOf_5 ?_
        refine r_getO C dX5_needOf_6 fl_X5_11 rfl rfl (q_lt hh.1 (by decide)) (sh_0_0 hh.1) ?_
        refine r_alen C 24 dX5_needOf_9 rfl (by decide) (q_lt hh.1 (by decide)) rfl ?_
        refine t_icmp_ge C 49 (by decide) hx (show (24 : Int32).toInt = 24 from rfl) dX5_needOf_10 (fun c10 => absurd c10 (by omega)) (fun c10 => ?_)
        refine r_aload_n C rfl rfl dX5_needOf_13 ?_
        refine r_getO C dX5_needOf_14 fl_X5_11 rfl rfl (q_lt hh.1 (by decide)) (sh_0_0 hh.1) ?_
        refine r_iload_n C rfl dX5_needOf_17 ?_
        refine r_aald C (i) (by have t := hx; omega) (by omega) dX5_needOf_18 rfl (q_lt hh.1 (by decide)) (oHs.row hh hi) ?_
        refine r_astore C rfl rfl (Nat.le_of_ble_eq_true rfl) dX5_needOf_19 ?_
        refine r_aload C rfl rfl dX5_needOf_21 ?_
        refine r_ifnull C dX5_needOf_23 ?_
        refine r_iload_n C rfl dX5_needOf_26 ?_
        refine r_iload_n C rfl dX5_needOf_27 ?_
        refine r_ishr C dX5_needOf_28 ?_
        refine r_iconstv C 1 rfl dX5_needOf_29 ?_
        refine r_iand C dX5_needOf_30 ?_
        refine r_iconstv C 1 rfl dX5_needOf_31 ?_
        refine t_icmp_ne C 43 (by decide) rfl (show (1 : Int32).toInt = 1 from rfl) dX5_needOf_32 (fun c32 => ?_) (fun c32 => absurd (bit_t h1 hx (by omega) c32) hbt)
        refine r_iinc C rfl rfl (Nat.le_of_ble_eq_true rfl) dX5_needOf_43 ?_
        refine r_goto C 4 (by decide) dX5_needOf_46 ?_
        exact ih (i + 1) _ _ _ (by omega) (by have t := tA hx (show (Int32.ofInt 1).toInt = 1 from rfl) (by omega); omega) (by rw [hy, ndI_f hbt])
    · have hbt : ¬ K.testBit i = true := fun q => by
        have q1 := tB_le q
        have q2 := Nat.pow_le_pow_right (n := 2) (by decide) (show n ≤ i by omega)
        omega
      refine r_iload_n C rfl dX5_needOf_4 ?_
      refine r_aload_n C rfl rfl dX5_needOf_5 ?_
      refine r_getO C dX5_needOf_6 fl_X5_11 rfl rfl (q_lt hh.1 (by decide)) (sh_0_0 hh.1) ?_
      refine r_alen C 24 dX5_needOf_9 rfl (by decide) (q_lt hh.1 (by decide)) rfl ?_
      refine t_icmp_ge C 49 (by decide) hx (show (24 : Int32).toInt = 24 from rfl) dX5_needOf_10 (fun c10 => absurd c10 (by omega)) (fun c10 => ?_)
      refine r_aload_n C rfl rfl dX5_needOf_13 ?_
      refine r_getO C dX5_needOf_14 fl_X5_11 rfl rfl (q_lt hh.1 (by decide)) (sh_0_0 hh.1) ?_
      refine r_iload_n C rfl dX5_needOf_17 ?_
      refine r_aald C (i) (by have t := hx; omega) (by omega) dX5_needOf_18 rfl (q_lt hh.1 (by decide)) (oHs.nul hh hi (by omega)) ?_
      refine r_astore C rfl rfl (Nat.le_of_ble_eq_true rfl) dX5_needOf_19 ?_
      refine r_aload C rfl rfl dX5_needOf_21 ?_
      refine r_ifnullN C 43 (by decide) dX5_needOf_23 ?_
      refine r_iinc C rfl rfl (Nat.le_of_ble_eq_true rfl) dX5_needOf_43 ?_
      refine r_goto C 4 (by decide) dX5_needOf_46 ?_
      exact ih (i + 1) _ _ _ (by omega) (by have t := tA hx (show (Int32.ofInt 1).toInt = 1 from rfl) (by omega); omega) (by rw [hy, ndI_f hbt])

set_option maxHeartbeats 4000000 in
set_option maxRecDepth 100000 in
theorem sp_nd (G : oG) {h : oH} {n : Nat} (hh : oHs h n) {K : Nat} (hK : K < 2 ^ n) (x : Int32) (hx : x.toInt = (K : Int)) : oSp G mX5_needOf [.ref 0, .int x] h (some (.int (ndI (nfC h) K 24))) h := by
  refine oSp.intro [some (.ref 0), some (.int x), none, none, none] rfl (Nat.le_of_ble_eq_true rfl) (plainFor_of_name (by decide +kernel)) (Nat.le_refl _) ?_
  intro p l e R s m args below meth c C
  refine r_iconstv C 0 rfl dX5_needOf_0 ?_
  refine r_istore_n C rfl (Nat.le_of_ble_eq_true rfl) dX5_needOf_1 ?_
  refine r_iconstv C 0 rfl dX5_needOf_2 ?_
  refine r_istore_n C rfl (Nat.le_of_ble_eq_true rfl) dX5_needOf_3 ?_
  exact lp_nd G hh hK hx C (Nat.le_refl _) 24 0 _ _ _ rfl rfl rfl

set_option maxHeartbeats 4000000 in
set_option maxRecDepth 100000 in
theorem c_round0 (G : oG) {h : oH} {n : Nat} (hh : oHs h n) (hc : (hI h 0 4).toInt = (n : Int)) {K : Nat} (x : Int32) (hx : x.toInt = (K : Int)) (hK0 : 0 < K) (hK : K < 2 ^ n) (hm8 : (mem K).length ≤ 8) (w : Int32) (hw : w.toInt = 0) {h1 : oH} (hsp : oSp G mX4_prepare [.ref 2, .int x, .ref 1] h none h1) (hs1 : oSh h1) (hn1 : h1.1 = h.1) (h6 : (hI h1 2 6).toInt = ((mem K).length : Int)) : oSp G mX5_round [.ref 0, .int x, .int w] h (some (.int (hI h1 7 ((2 ^ (mem K).length - 1) * 9 + 8)))) h1 := by
  have h24 := hh.2.2.1
  have hs := hh.1
  have hpc : pcn K 24 ≤ 8 := by rw [← mK_len]; exact hm8
  refine oSp.intro [some (.ref 0), some (.int x), some (.int w), none] rfl (Nat.le_of_ble_eq_true rfl) (plainFor_of_name (by decide +kernel)) (by rw [hn1]; exact Nat.le_refl _) ?_
  intro p l e R s m args below meth c C
  refine r_aload_n C rfl rfl dX5_round_0 ?_
  refine r_iload_n C rfl dX5_round_1 ?_
  refine r_callV C (sp_nr0 G hs hc h24 _ hx hK0 hK hpc) kv_X5_isNoRound kn_X5_isNoRound rfl dX5_round_2 cl_X5_144 ⟨Nat.le_of_ble_eq_true rfl, Nat.le_of_ble_eq_true rfl⟩ (by decide) rfl rfl (q_lt hs (by decide)) (by rw [hn1]; exact Nat.le_refl _) rfl (Nat.le_of_ble_eq_true rfl) ?_
  refine t_if_eq C 11 (by decide) (show (0 : Int32).toInt = 0 from rfl) dX5_round_5 (fun c5 => ?_) (fun c5 => absurd c5 (by decide))
  refine r_aload_n C rfl rfl dX5_round_11 ?_
  refine r_iload_n C rfl dX5_round_12 ?_
  refine r_callV C (sp_nd G hh hK _ hx) kv_X5_needOf kn_X5_needOf rfl dX5_round_13 cl_X5_148 ⟨Nat.le_of_ble_eq_true rfl, Nat.le_of_ble_eq_true rfl⟩ (by decide) rfl rfl (q_lt hs (by decide)) (by rw [hn1]; exact Nat.le_refl _) rfl (Nat.le_of_ble_eq_true rfl) ?_
  refine r_istore_n C rfl (Nat.le_of_ble_eq_true rfl) dX5_round_16 ?_
  refine r_iload_n C rfl dX5_round_17 ?_
  refine r_tableIn C 44 (by rw [hw]; decide) (by rw [hw]; decide) (by rw [hw]; rfl) (by decide) dX5_round_18 ?_
  refine r_aload_n C rfl rfl dX5_round_44 ?_
  refine r_getO C dX5_round_45 fl_X5_18 rfl rfl (q_lt hs (by decide)) (sh_0_1 hs) ?_
  refine r_iload_n C rfl dX5_round_48 ?_
  refine r_aload_n C rfl rfl dX5_round_49 ?_
  refine r_getO C dX5_round_50 fl_X5_11 rfl rfl (q_lt hs (by decide)) (sh_0_0 hs) ?_
  refine r_callV C hsp kv_X4_prepare kn_X4_prepare rfl dX5_round_53 cl_X5_151 ⟨Nat.le_of_ble_eq_true rfl, Nat.le_of_ble_eq_true rfl⟩ (by decide) rfl rfl (q_lt hs (by decide)) (Nat.le_refl _) rfl (Nat.le_of_ble_eq_true rfl) ?_
  have hs := hs1
  refine r_aload_n C rfl rfl dX5_round_56 ?_
  refine r_getO C dX5_round_57 fl_X5_18 rfl rfl (q_lt hs (by decide)) (sh_0_1 hs) ?_
  refine r_callV C (sp_way G hs1 h6 hm8) kv_X4_way kn_X4_way rfl dX5_round_60 cl_X5_155 ⟨Nat.le_of_ble_eq_true rfl, Nat.le_of_ble_eq_true rfl⟩ (by decide) rfl rfl (q_lt hs (by decide)) (Nat.le_refl _) rfl (Nat.le_of_ble_eq_true rfl) ?_
  exact r_iret C dX5_round_63 rfl (Nat.le_refl _) rfl rfl

set_option maxHeartbeats 4000000 in
set_option maxRecDepth 100000 in
theorem c_round1 (G : oG) {h : oH} {n : Nat} (hh : oHs h n) (hc : (hI h 0 4).toInt = (n : Int)) {K : Nat} (x : Int32) (hx : x.toInt = (K : Int)) (hK0 : 0 < K) (hK : K < 2 ^ n) (hm8 : (mem K).length ≤ 8) (w : Int32) (hw : w.toInt = 1) : oSp G mX5_round [.ref 0, .int x, .int w] h (some (.int (b1 ((ndI (nfC h) K 24).toInt ≤ (hI h 0 8).toInt ∧ (ndI (nfC h) K 24).toInt ≤ (hI h 0 10).toInt)))) h := by
  have h24 := hh.2.2.1
  have hs := hh.1
  have hpc : pcn K 24 ≤ 8 := by rw [← mK_len]; exact hm8
  refine oSp.intro [some (.ref 0), some (.int x), some (.int w), none] rfl (Nat.le_of_ble_eq_true rfl) (plainFor_of_name (by decide +kernel)) (Nat.le_refl _) ?_
  intro p l e R s m args below meth c C
  refine r_aload_n C rfl rfl dX5_round_0 ?_
  refine r_iload_n C rfl dX5_round_1 ?_
  refine r_callV C (sp_nr0 G hs hc h24 _ hx hK0 hK hpc) kv_X5_isNoRound kn_X5_isNoRound rfl dX5_round_2 cl_X5_144 ⟨Nat.le_of_ble_eq_true rfl, Nat.le_of_ble_eq_true rfl⟩ (by decide) rfl rfl (q_lt hh.1 (by decide)) (Nat.le_refl _) rfl (Nat.le_of_ble_eq_true rfl) ?_
  refine t_if_eq C 11 (by decide) (show (0 : Int32).toInt = 0 from rfl) dX5_round_5 (fun c5 => ?_) (fun c5 => absurd c5 (by decide))
  refine r_aload_n C rfl rfl dX5_round_11 ?_
  refine r_iload_n C rfl dX5_round_12 ?_
  refine r_callV C (sp_nd G hh hK _ hx) kv_X5_needOf kn_X5_needOf rfl dX5_round_13 cl_X5_148 ⟨Nat.le_of_ble_eq_true rfl, Nat.le_of_ble_eq_true rfl⟩ (by decide) rfl rfl (q_lt hh.1 (by decide)) (Nat.le_refl _) rfl (Nat.le_of_ble_eq_true rfl) ?_
  refine r_istore_n C rfl (Nat.le_of_ble_eq_true rfl) dX5_round_16 ?_
  refine r_iload_n C rfl dX5_round_17 ?_
  refine r_tableIn C 64 (by rw [hw]; decide) (by rw [hw]; decide) (by rw [hw]; rfl) (by decide) dX5_round_18 ?_
  refine r_iload_n C rfl dX5_round_64 ?_
  refine r_aload_n C rfl rfl dX5_round_65 ?_
  refine r_getI C dX5_round_66 fl_X5_49 rfl (q_lt hh.1 (by decide)) ?_
  refine t_icmp_gt C 84 (by decide) rfl rfl dX5_round_69 (fun c69 => ?_) (fun c69 => ?_)
  · first
    | (exfalso; omega)
    |  (refine r_iconstv C 0 rfl dX5_round_84 ?_
        exact r_iret C dX5_round_85 rfl (Nat.le_refl _) (er_f (by omega)) rfl)
  · first
    | (exfalso; omega)
    |  (refine r_iload_n C rfl dX5_round_72 ?_
        refine r_aload_n C rfl rfl dX5_round_73 ?_
        refine r_getI C dX5_round_74 fl_X5_55 rfl (q_lt hh.1 (by decide)) ?_
        refine t_icmp_gt C 84 (by decide) rfl rfl dX5_round_77 (fun c77 => ?_) (fun c77 => ?_)
        · first
          | (exfalso; omega)
          |  (refine r_iconstv C 0 rfl dX5_round_84 ?_
              exact r_iret C dX5_round_85 rfl (Nat.le_refl _) (er_f (by omega)) rfl)
        · first
          | (exfalso; omega)
          |  (refine r_iconstv C 1 rfl dX5_round_80 ?_
              refine r_goto C 85 (by decide) dX5_round_81 ?_
              exact r_iret C dX5_round_85 rfl (Nat.le_refl _) (er_t (by omega)) rfl))

set_option maxHeartbeats 4000000 in
set_option maxRecDepth 100000 in
theorem c_round2 (G : oG) {h : oH} {n : Nat} (hh : oHs h n) (hc : (hI h 0 4).toInt = (n : Int)) {K : Nat} (x : Int32) (hx : x.toInt = (K : Int)) (hK0 : 0 < K) (hK : K < 2 ^ n) (hm8 : (mem K).length ≤ 8) (w : Int32) (hw : w.toInt = 2) : oSp G mX5_round [.ref 0, .int x, .int w] h (some (.int (ndI (nfC h) K 24))) h := by
  have h24 := hh.2.2.1
  have hs := hh.1
  have hpc : pcn K 24 ≤ 8 := by rw [← mK_len]; exact hm8
  refine oSp.intro [some (.ref 0), some (.int x), some (.int w), none] rfl (Nat.le_of_ble_eq_true rfl) (plainFor_of_name (by decide +kernel)) (Nat.le_refl _) ?_
  intro p l e R s m args below meth c C
  refine r_aload_n C rfl rfl dX5_round_0 ?_
  refine r_iload_n C rfl dX5_round_1 ?_
  refine r_callV C (sp_nr0 G hs hc h24 _ hx hK0 hK hpc) kv_X5_isNoRound kn_X5_isNoRound rfl dX5_round_2 cl_X5_144 ⟨Nat.le_of_ble_eq_true rfl, Nat.le_of_ble_eq_true rfl⟩ (by decide) rfl rfl (q_lt hh.1 (by decide)) (Nat.le_refl _) rfl (Nat.le_of_ble_eq_true rfl) ?_
  refine t_if_eq C 11 (by decide) (show (0 : Int32).toInt = 0 from rfl) dX5_round_5 (fun c5 => ?_) (fun c5 => absurd c5 (by decide))
  refine r_aload_n C rfl rfl dX5_round_11 ?_
  refine r_iload_n C rfl dX5_round_12 ?_
  refine r_callV C (sp_nd G hh hK _ hx) kv_X5_needOf kn_X5_needOf rfl dX5_round_13 cl_X5_148 ⟨Nat.le_of_ble_eq_true rfl, Nat.le_of_ble_eq_true rfl⟩ (by decide) rfl rfl (q_lt hh.1 (by decide)) (Nat.le_refl _) rfl (Nat.le_of_ble_eq_true rfl) ?_
  refine r_istore_n C rfl (Nat.le_of_ble_eq_true rfl) dX5_round_16 ?_
  refine r_iload_n C rfl dX5_round_17 ?_
  refine r_tableIn C 86 (by rw [hw]; decide) (by rw [hw]; decide) (by rw [hw]; rfl) (by decide) dX5_round_18 ?_
  refine r_iload_n C rfl dX5_round_86 ?_
  exact r_iret C dX5_round_87 rfl (Nat.le_refl _) rfl rfl

set_option maxHeartbeats 4000000 in
set_option maxRecDepth 100000 in
theorem c_roundX (G : oG) {h : oH} {n : Nat} (hh : oHs h n) (hc : (hI h 0 4).toInt = (n : Int)) {K : Nat} (x : Int32) (hx : x.toInt = (K : Int)) (hK0 : 0 < K) (hK : K < 2 ^ n) (hm8 : (mem K).length ≤ 8) (w : Int32) (hw : ¬ (0 ≤ w.toInt ∧ w.toInt ≤ 2)) : oSp G mX5_round [.ref 0, .int x, .int w] h (some (.int (-1000001))) h := by
  have h24 := hh.2.2.1
  have hs := hh.1
  have hpc : pcn K 24 ≤ 8 := by rw [← mK_len]; exact hm8
  refine oSp.intro [some (.ref 0), some (.int x), some (.int w), none] rfl (Nat.le_of_ble_eq_true rfl) (plainFor_of_name (by decide +kernel)) (Nat.le_refl _) ?_
  intro p l e R s m args below meth c C
  refine r_aload_n C rfl rfl dX5_round_0 ?_
  refine r_iload_n C rfl dX5_round_1 ?_
  refine r_callV C (sp_nr0 G hs hc h24 _ hx hK0 hK hpc) kv_X5_isNoRound kn_X5_isNoRound rfl dX5_round_2 cl_X5_144 ⟨Nat.le_of_ble_eq_true rfl, Nat.le_of_ble_eq_true rfl⟩ (by decide) rfl rfl (q_lt hh.1 (by decide)) (Nat.le_refl _) rfl (Nat.le_of_ble_eq_true rfl) ?_
  refine t_if_eq C 11 (by decide) (show (0 : Int32).toInt = 0 from rfl) dX5_round_5 (fun c5 => ?_) (fun c5 => absurd c5 (by decide))
  refine r_aload_n C rfl rfl dX5_round_11 ?_
  refine r_iload_n C rfl dX5_round_12 ?_
  refine r_callV C (sp_nd G hh hK _ hx) kv_X5_needOf kn_X5_needOf rfl dX5_round_13 cl_X5_148 ⟨Nat.le_of_ble_eq_true rfl, Nat.le_of_ble_eq_true rfl⟩ (by decide) rfl rfl (q_lt hh.1 (by decide)) (Nat.le_refl _) rfl (Nat.le_of_ble_eq_true rfl) ?_
  refine r_istore_n C rfl (Nat.le_of_ble_eq_true rfl) dX5_round_16 ?_
  refine r_iload_n C rfl dX5_round_17 ?_
  refine r_tableOut C 88 (by omega) (by decide) dX5_round_18 ?_
  refine r_ldc C _ lc_X5_72 dX5_round_88 ?_
  exact r_iret C dX5_round_90 rfl (Nat.le_refl _) rfl rfl

set_option maxHeartbeats 4000000 in
set_option maxRecDepth 100000 in
theorem c_roundN (G : oG) {h : oH} (hs : oSh h) {n : Nat} (hc : (hI h 0 4).toInt = (n : Int)) (hn24 : n ≤ 24) (x w : Int32) (hv : ¬ vSet n x) : oSp G mX5_round [.ref 0, .int x, .int w] h (some (.int (-1000001))) h := by
  refine oSp.intro [some (.ref 0), some (.int x), some (.int w), none] rfl (Nat.le_of_ble_eq_true rfl) (plainFor_of_name (by decide +kernel)) (Nat.le_refl _) ?_
  intro p l e R s m args below meth c C
  refine r_aload_n C rfl rfl dX5_round_0 ?_
  refine r_iload_n C rfl dX5_round_1 ?_
  refine r_callV C (sp_nrN G hs hc hn24 _ hv) kv_X5_isNoRound kn_X5_isNoRound rfl dX5_round_2 cl_X5_144 ⟨Nat.le_of_ble_eq_true rfl, Nat.le_of_ble_eq_true rfl⟩ (by decide) rfl rfl (q_lt hs (by decide)) (Nat.le_refl _) rfl (Nat.le_of_ble_eq_true rfl) ?_
  refine t_if_eq C 11 (by decide) (show (1 : Int32).toInt = 1 from rfl) dX5_round_5 (fun c5 => absurd c5 (by decide)) (fun c5 => ?_)
  refine r_ldc C _ lc_X5_72 dX5_round_8 ?_
  exact r_iret C dX5_round_10 rfl (Nat.le_refl _) rfl rfl

set_option maxHeartbeats 4000000 in
set_option maxRecDepth 100000 in
theorem c_stopN (G : oG) {h : oH} (hs : oSh h) {n : Nat} (hc : (hI h 0 4).toInt = (n : Int)) (hn24 : n ≤ 24) (x w : Int32) (hv : ¬ vSet n x) : oSp G mX5_stop [.ref 0, .int x, .int w] h (some (.int (-1000001))) h := by
  refine oSp.intro [some (.ref 0), some (.int x), some (.int w)] rfl (Nat.le_of_ble_eq_true rfl) (plainFor_of_name (by decide +kernel)) (Nat.le_refl _) ?_
  intro p l e R s m args below meth c C
  refine r_aload_n C rfl rfl dX5_stop_0 ?_
  refine r_iload_n C rfl dX5_stop_1 ?_
  refine r_callV C (sp_nrN G hs hc hn24 _ hv) kv_X5_isNoRound kn_X5_isNoRound rfl dX5_stop_2 cl_X5_144 ⟨Nat.le_of_ble_eq_true rfl, Nat.le_of_ble_eq_true rfl⟩ (by decide) rfl rfl (q_lt hs (by decide)) (Nat.le_refl _) rfl (Nat.le_of_ble_eq_true rfl) ?_
  refine t_if_eq C 11 (by decide) (show (1 : Int32).toInt = 1 from rfl) dX5_stop_5 (fun c5 => absurd c5 (by decide)) (fun c5 => ?_)
  refine r_ldc C _ lc_X5_72 dX5_stop_8 ?_
  exact r_iret C dX5_stop_10 rfl (Nat.le_refl _) rfl rfl

set_option maxHeartbeats 4000000 in
set_option maxRecDepth 100000 in
theorem c_stop (G : oG) {h : oH} {n : Nat} (hh : oHs h n) (hc : (hI h 0 4).toInt = (n : Int)) {K : Nat} (x : Int32) (hx : x.toInt = (K : Int)) (hK0 : 0 < K) (hK : K < 2 ^ n) (hm8 : (mem K).length ≤ 8) (w : Int32) {i : Nat} (hw : w.toInt = (i : Int)) (hi : i < (mem K).length) {h1 : oH} (hsp : oSp G mX4_prepare [.ref 2, .int x, .ref 1] h none h1) (hs1 : oSh h1) (hn1 : h1.1 = h.1) (h6 : (hI h1 2 6).toInt = ((mem K).length : Int)) : oSp G mX5_stop [.ref 0, .int x, .int w] h (some (.int (hI h1 6 i))) h1 := by
  have h24 := hh.2.2.1
  have hs := hh.1
  have hpc : pcn K 24 ≤ 8 := by rw [← mK_len]; exact hm8
  refine oSp.intro [some (.ref 0), some (.int x), some (.int w)] rfl (Nat.le_of_ble_eq_true rfl) (plainFor_of_name (by decide +kernel)) (by rw [hn1]; exact Nat.le_refl _) ?_
  intro p l e R s m args below meth c C
  refine r_aload_n C rfl rfl dX5_stop_0 ?_
  refine r_iload_n C rfl dX5_stop_1 ?_
  refine r_callV C (sp_nr0 G hs hc h24 _ hx hK0 hK hpc) kv_X5_isNoRound kn_X5_isNoRound rfl dX5_stop_2 cl_X5_144 ⟨Nat.le_of_ble_eq_true rfl, Nat.le_of_ble_eq_true rfl⟩ (by decide) rfl rfl (q_lt hs (by decide)) (by rw [hn1]; exact Nat.le_refl _) rfl (Nat.le_of_ble_eq_true rfl) ?_
  refine t_if_eq C 11 (by decide) (show (0 : Int32).toInt = 0 from rfl) dX5_stop_5 (fun c5 => ?_) (fun c5 => absurd c5 (by decide))
  refine r_aload_n C rfl rfl dX5_stop_11 ?_
  refine r_getO C dX5_stop_12 fl_X5_18 rfl rfl (q_lt hs (by decide)) (sh_0_1 hs) ?_
  refine r_iload_n C rfl dX5_stop_15 ?_
  refine r_aload_n C rfl rfl dX5_stop_16 ?_
  refine r_getO C dX5_stop_17 fl_X5_11 rfl rfl (q_lt hs (by decide)) (sh_0_0 hs) ?_
  refine r_callV C hsp kv_X4_prepare kn_X4_prepare rfl dX5_stop_20 cl_X5_151 ⟨Nat.le_of_ble_eq_true rfl, Nat.le_of_ble_eq_true rfl⟩ (by decide) rfl rfl (q_lt hs (by decide)) (Nat.le_refl _) rfl (Nat.le_of_ble_eq_true rfl) ?_
  have hs := hs1
  refine r_aload_n C rfl rfl dX5_stop_23 ?_
  refine r_getO C dX5_stop_24 fl_X5_18 rfl rfl (q_lt hs (by decide)) (sh_0_1 hs) ?_
  refine r_iload_n C rfl dX5_stop_27 ?_
  refine r_callV C (sp_hon G hs1 h6 hm8 _ hw hi) kv_X4_houseOn kn_X4_houseOn rfl dX5_stop_28 cl_X5_158 ⟨Nat.le_of_ble_eq_true rfl, Nat.le_of_ble_eq_true rfl⟩ (by decide) rfl rfl (q_lt hs (by decide)) (Nat.le_refl _) rfl (Nat.le_of_ble_eq_true rfl) ?_
  exact r_iret C dX5_stop_31 rfl (Nat.le_refl _) rfl rfl

set_option maxHeartbeats 4000000 in
set_option maxRecDepth 100000 in
theorem c_stopX (G : oG) {h : oH} {n : Nat} (hh : oHs h n) (hc : (hI h 0 4).toInt = (n : Int)) {K : Nat} (x : Int32) (hx : x.toInt = (K : Int)) (hK0 : 0 < K) (hK : K < 2 ^ n) (hm8 : (mem K).length ≤ 8) (w : Int32) (hw : ¬ (0 ≤ w.toInt ∧ w.toInt < (mem K).length)) {h1 : oH} (hsp : oSp G mX4_prepare [.ref 2, .int x, .ref 1] h none h1) (hs1 : oSh h1) (hn1 : h1.1 = h.1) (h6 : (hI h1 2 6).toInt = ((mem K).length : Int)) : oSp G mX5_stop [.ref 0, .int x, .int w] h (some (.int (-1000000))) h1 := by
  have h24 := hh.2.2.1
  have hs := hh.1
  have hpc : pcn K 24 ≤ 8 := by rw [← mK_len]; exact hm8
  refine oSp.intro [some (.ref 0), some (.int x), some (.int w)] rfl (Nat.le_of_ble_eq_true rfl) (plainFor_of_name (by decide +kernel)) (by rw [hn1]; exact Nat.le_refl _) ?_
  intro p l e R s m args below meth c C
  refine r_aload_n C rfl rfl dX5_stop_0 ?_
  refine r_iload_n C rfl dX5_stop_1 ?_
  refine r_callV C (sp_nr0 G hs hc h24 _ hx hK0 hK hpc) kv_X5_isNoRound kn_X5_isNoRound rfl dX5_stop_2 cl_X5_144 ⟨Nat.le_of_ble_eq_true rfl, Nat.le_of_ble_eq_true rfl⟩ (by decide) rfl rfl (q_lt hs (by decide)) (by rw [hn1]; exact Nat.le_refl _) rfl (Nat.le_of_ble_eq_true rfl) ?_
  refine t_if_eq C 11 (by decide) (show (0 : Int32).toInt = 0 from rfl) dX5_stop_5 (fun c5 => ?_) (fun c5 => absurd c5 (by decide))
  refine r_aload_n C rfl rfl dX5_stop_11 ?_
  refine r_getO C dX5_stop_12 fl_X5_18 rfl rfl (q_lt hs (by decide)) (sh_0_1 hs) ?_
  refine r_iload_n C rfl dX5_stop_15 ?_
  refine r_aload_n C rfl rfl dX5_stop_16 ?_
  refine r_getO C dX5_stop_17 fl_X5_11 rfl rfl (q_lt hs (by decide)) (sh_0_0 hs) ?_
  refine r_callV C hsp kv_X4_prepare kn_X4_prepare rfl dX5_stop_20 cl_X5_151 ⟨Nat.le_of_ble_eq_true rfl, Nat.le_of_ble_eq_true rfl⟩ (by decide) rfl rfl (q_lt hs (by decide)) (Nat.le_refl _) rfl (Nat.le_of_ble_eq_true rfl) ?_
  have hs := hs1
  refine r_aload_n C rfl rfl dX5_stop_23 ?_
  refine r_getO C dX5_stop_24 fl_X5_18 rfl rfl (q_lt hs (by decide)) (sh_0_1 hs) ?_
  refine r_iload_n C rfl dX5_stop_27 ?_
  refine r_callV C (sp_honN G hs1 h6 hm8 _ hw) kv_X4_houseOn kn_X4_houseOn rfl dX5_stop_28 cl_X5_158 ⟨Nat.le_of_ble_eq_true rfl, Nat.le_of_ble_eq_true rfl⟩ (by decide) rfl rfl (q_lt hs (by decide)) (Nat.le_refl _) rfl (Nat.le_of_ble_eq_true rfl) ?_
  exact r_iret C dX5_stop_31 rfl (Nat.le_refl _) rfl rfl

