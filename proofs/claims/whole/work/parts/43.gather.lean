/-! the class's route: the set's houses -/
def mK (K i : Nat) : List Nat := mB (fun j => K.testBit j) i
theorem mK_t {K i : Nat} (b : K.testBit i = true) : mK K (i + 1) = mK K i ++ [i] := mB_t (B := fun j => K.testBit j) b
theorem mK_f {K i : Nat} (b : ¬ K.testBit i = true) : mK K (i + 1) = mK K i := mB_f (B := fun j => K.testBit j) b
theorem mK_le {K i : Nat} : (mK K i).length ≤ i := mB_len_le (B := fun j => K.testBit j) i
theorem mK_full {K i n j : Nat} (h : (mK K n).length ≤ (mK K i).length) (h1 : i ≤ j) (h2 : j < n) : ¬ K.testBit j = true := mB_full (B := fun j => K.testBit j) h h1 h2
theorem mK_lt {K i k : Nat} (h : k < (mK K i).length) : (mK K i).getD k 0 < i ∧ K.testBit ((mK K i).getD k 0) = true := mB_lt (B := fun j => K.testBit j) h
theorem mK_len (K i : Nat) : (mK K i).length = pcn K i := mB_len K i
def gq1 (h : oH) (z : Nat) (v : Int32) : oH := sI h 3 z v
def gq2 (h : oH) (i z : Nat) (v : Int32) : oH := sI (gq1 h z v) 4 z (hI (gq1 h z v) (hid i) 0)
def gq3 (h : oH) (i z : Nat) (v : Int32) : oH := sI (gq2 h i z v) 5 z (hI (gq2 h i z v) (hid i) 1)
def gq4 (h : oH) (i z : Nat) (v : Int32) : oH := sI (gq3 h i z v) 2 6 (hI (gq3 h i z v) 2 6 + 1)
def gaH (h : oH) (K : Nat) : Nat → oH
  | 0 => sI h 2 6 0
  | i + 1 => if K.testBit i = true then gq4 (gaH h K i) i (mK K i).length (kI i) else gaH h K i
theorem gaH_t {h : oH} {K i : Nat} (b : K.testBit i = true) : gaH h K (i + 1) = gq4 (gaH h K i) i (mK K i).length (kI i) := if_pos b
theorem gaH_f {h : oH} {K i : Nat} (b : ¬ K.testBit i = true) : gaH h K (i + 1) = gaH h K i := if_neg b
theorem gq4_o {h : oH} {i z : Nat} {v : Int32} {a y : Nat} (c1 : a ≠ 3 ∧ a ≠ 4 ∧ a ≠ 5) (c2 : ¬ (a = 2 ∧ y = 6)) : hI (gq4 h i z v) a y = hI h a y := by
  unfold gq4 gq3 gq2 gq1
  rw [sI_ne (by omega), sI_ne (by omega), sI_ne (by omega), sI_ne (by omega)]
theorem gq4_y {h : oH} {i z : Nat} {v : Int32} {a y : Nat} (c1 : a ≠ 2) (c2 : y ≠ z) : hI (gq4 h i z v) a y = hI h a y := by
  unfold gq4 gq3 gq2 gq1
  rw [sI_ne (by omega), sI_ne (by omega), sI_ne (by omega), sI_ne (by omega)]
theorem gq4_6 {h : oH} {i z : Nat} {v : Int32} : hI (gq4 h i z v) 2 6 = hI h 2 6 + 1 := by
  unfold gq4
  rw [sI_eq ⟨rfl, rfl⟩]
  unfold gq3 gq2 gq1
  rw [sI_ne (by omega), sI_ne (by omega), sI_ne (by omega)]
theorem gq4_3 {h : oH} {i z : Nat} {v : Int32} : hI (gq4 h i z v) 3 z = v := by
  unfold gq4 gq3 gq2 gq1
  rw [sI_ne (by omega), sI_ne (by omega), sI_ne (by omega), sI_eq ⟨rfl, rfl⟩]
theorem gq4_4 {h : oH} {i z : Nat} {v : Int32} : hI (gq4 h i z v) 4 z = hI h (hid i) 0 := by
  have := hid_ge i
  unfold gq4 gq3
  rw [sI_ne (by omega), sI_ne (by omega)]
  unfold gq2
  rw [sI_eq ⟨rfl, rfl⟩]
  unfold gq1
  rw [sI_ne (by omega)]
theorem gq4_5 {h : oH} {i z : Nat} {v : Int32} : hI (gq4 h i z v) 5 z = hI h (hid i) 1 := by
  have := hid_ge i
  unfold gq4
  rw [sI_ne (by omega)]
  unfold gq3
  rw [sI_eq ⟨rfl, rfl⟩]
  unfold gq2 gq1
  rw [sI_ne (by omega), sI_ne (by omega)]
theorem gaH_n {h : oH} {K : Nat} : ∀ i, (gaH h K i).1 = h.1
  | 0 => rfl
  | i + 1 => by
    by_cases b : K.testBit i = true
    · rw [gaH_t b]
      exact gaH_n i
    · rw [gaH_f b]
      exact gaH_n i
theorem gaH_R {h : oH} {K a y : Nat} : ∀ i, hR (gaH h K i) a y = hR h a y
  | 0 => rfl
  | i + 1 => by
    by_cases b : K.testBit i = true
    · rw [gaH_t b]
      exact gaH_R i
    · rw [gaH_f b]
      exact gaH_R i
theorem gaH_J {h : oH} {K a y : Nat} : ∀ i, hJ (gaH h K i) a y = hJ h a y
  | 0 => rfl
  | i + 1 => by
    by_cases b : K.testBit i = true
    · rw [gaH_t b]
      exact gaH_J i
    · rw [gaH_f b]
      exact gaH_J i
theorem gaH_o {h : oH} {K a y : Nat} (c1 : a ≠ 3 ∧ a ≠ 4 ∧ a ≠ 5) (c2 : ¬ (a = 2 ∧ y = 6)) : ∀ i, hI (gaH h K i) a y = hI h a y
  | 0 => by
    unfold gaH
    rw [sI_ne (by omega)]
  | i + 1 => by
    by_cases b : K.testBit i = true
    · rw [gaH_t b, gq4_o c1 c2]
      exact gaH_o c1 c2 i
    · rw [gaH_f b]
      exact gaH_o c1 c2 i
theorem gaH_6 {h : oH} {K : Nat} : ∀ i, i ≤ 24 → (hI (gaH h K i) 2 6).toInt = ((mK K i).length : Int)
  | 0, _ => rfl
  | i + 1, hi => by
    have ih := gaH_6 (h := h) (K := K) i (by omega)
    by_cases b : K.testBit i = true
    · have hl := mK_le (K := K) (i := i)
      rw [gaH_t b, gq4_6, tA ih (show (1 : Int32).toInt = 1 from rfl) (by omega), mK_t b, List.length_append]
      rfl
    · rw [gaH_f b, ih, mK_f b]
theorem gaH_x {h : oH} {K y : Nat} : ∀ i, y < (mK K i).length → hI (gaH h K i) 3 y = kI ((mK K i).getD y 0) ∧ hI (gaH h K i) 4 y = hI h (hid ((mK K i).getD y 0)) 0 ∧ hI (gaH h K i) 5 y = hI h (hid ((mK K i).getD y 0)) 1
  | 0, c1 => absurd c1 (Nat.not_lt_zero y)
  | i + 1, c1 => by
    by_cases b : K.testBit i = true
    · rw [gaH_t b, mK_t b]
      rw [mK_t b, List.length_append] at c1
      have c2 : y < (mK K i).length + 1 := c1
      by_cases e : y = (mK K i).length
      · subst e
        have hg := hid_ge i
        rw [gD_r, gq4_3, gq4_4, gq4_5, gaH_o (by omega) (by omega), gaH_o (by omega) (by omega)]
        exact ⟨rfl, rfl, rfl⟩
      · rw [gD_l (by omega), gq4_y (by decide) e, gq4_y (by decide) e, gq4_y (by decide) e]
        exact gaH_x i (by omega)
    · rw [gaH_f b, mK_f b]
      rw [mK_f b] at c1
      exact gaH_x i c1
theorem gaH_e {h : oH} {K i : Nat} : ∀ k, (∀ j, i ≤ j → j < i + k → ¬ K.testBit j = true) → gaH h K (i + k) = gaH h K i
  | 0, _ => rfl
  | k + 1, q => by
    rw [show i + (k + 1) = i + k + 1 by omega, gaH_f (q (i + k) (by omega) (by omega))]
    exact gaH_e k (fun j h1 h2 => q j h1 (by omega))
def geH (h : oH) (K : Nat) : oH := sI (sI (gaH h K 24) 4 8 25) 5 8 25
set_option maxHeartbeats 4000000 in
set_option maxRecDepth 100000 in
theorem lp_ga (G : oG) {p : Program} {l : Launch} {e : Env} {R : Room} {s : State} {m : MethodId} {args : Array Value} {below : List Frame} {meth : Method} {c : Code} {n0 nF : Nat} {h : oH} {n : Nat} (hh0 : oHs h n) {K : Nat} (hK : K < 2 ^ n) (hm8 : (mK K 24).length ≤ 8) {x1 : Int32} (h1 : x1.toInt = (K : Int)) (C : oC G mX4_gather n0 nF p l R s m args meth c) (hF0 : h.1 ≤ nF) : ∀ (k i : Nat) (x : Int32) (t4 : Option Value), i + k = 24 → x.toInt = (i : Int) → oS G mX4_gather p l e R s m args below meth c (oZ G below args s n0 nF none (geH h K)) n0 7 [some (.ref 2), some (.int x1), some (.ref 1), some (.int x), t4] [] (gaH h K i) := by
  have h24 := hh0.2.2.1
  have fin : ∀ (x : Int32) (t4 : Option Value), oS G mX4_gather p l e R s m args below meth c (oZ G below args s n0 nF none (geH h K)) n0 111 [some (.ref 2), some (.int x1), some (.ref 1), some (.int x), t4] [] (gaH h K 24) := fun x t4 => by
    have hs := (hh0.fr (h' := gaH h K 24) (gaH_n 24) (fun a y => gaH_R 24)).1
    have hF : (gaH h K 24).1 ≤ nF := by rw [gaH_n]; exact hF0
    refine r_aload_n C rfl rfl dX4_gather_111 ?_
    refine r_getO C dX4_gather_112 fl_X4_15 rfl rfl (q_lt hs (by decide)) (sh_2_1 hs) ?_
    refine r_bipush C 8 rfl dX4_gather_115 ?_
    refine r_bipush C 25 rfl dX4_gather_117 ?_
    refine r_iast C (8) rfl (by decide) dX4_gather_119 rfl (q_lt hs (by decide)) ?_
    refine r_aload_n C rfl rfl dX4_gather_120 ?_
    refine r_getO C dX4_gather_121 fl_X4_18 rfl rfl (q_lt hs (by decide)) (sh_2_2 hs) ?_
    refine r_bipush C 8 rfl dX4_gather_124 ?_
    refine r_bipush C 25 rfl dX4_gather_126 ?_
    refine r_iast C (8) rfl (by decide) dX4_gather_128 rfl (q_lt hs (by decide)) ?_
    exact r_vret C dX4_gather_129 rfl hF rfl
  intro k
  induction k with
  | zero =>
    intro i x t4 hik hx
    have hi24 : i = 24 := by omega
    subst hi24
    refine r_iload_n C rfl dX4_gather_7 ?_
    refine r_bipush C 24 rfl dX4_gather_8 ?_
    refine t_icmp_ge C 111 (by decide) hx (show (24 : Int32).toInt = 24 from rfl) dX4_gather_10 (fun c10 => ?_) (fun c10 => absurd c10 (by omega))
    exact fin _ _
  | succ k ih =>
    intro i x t4 hik hx
    have hh := hh0.fr (h' := gaH h K i) (gaH_n i) (fun a y => gaH_R i)
    have hs := hh.1
    have hF : (gaH h K i).1 ≤ nF := by rw [gaH_n]; exact hF0
    have h6 := gaH_6 (h := h) (K := K) i (by omega)
    by_cases h8 : (mK K i).length ≥ 8
    · have e24 : gaH h K i = gaH h K 24 := by
        have q := gaH_e (h := h) (K := K) (i := i) (24 - i) (fun j c1 c2 => mK_full (n := 24) (by omega) c1 (by omega))
        rw [show i + (24 - i) = 24 by omega] at q
        exact q.symm
      refine r_iload_n C rfl dX4_gather_7 ?_
      refine r_bipush C 24 rfl dX4_gather_8 ?_
      refine t_icmp_ge C 111 (by decide) hx (show (24 : Int32).toInt = 24 from rfl) dX4_gather_10 (fun c10 => absurd c10 (by omega)) (fun c10 => ?_)
      refine r_aload_n C rfl rfl dX4_gather_13 ?_
      refine r_getI C dX4_gather_14 fl_X4_31 rfl (q_lt hs (by decide)) ?_
      refine r_aload_n C rfl rfl dX4_gather_17 ?_
      refine r_getO C dX4_gather_18 fl_X4_9 rfl rfl (q_lt hs (by decide)) (sh_2_0 hs) ?_
      refine r_alen C 8 dX4_gather_21 rfl (by decide) (q_lt hs (by decide)) rfl ?_
      refine t_icmp_ge C 111 (by decide) h6 (show (8 : Int32).toInt = 8 from rfl) dX4_gather_22 (fun c22 => ?_) (fun c22 => absurd c22 (by omega))
      exact oS_h e24 (fin _ _)
    · by_cases hi : i < n
      · by_cases hbt : K.testBit i = true
        · refine r_iload_n C rfl dX4_gather_7 ?_
          refine r_bipush C 24 rfl dX4_gather_8 ?_
          refine t_icmp_ge C 111 (by decide) hx (show (24 : Int32).toInt = 24 from rfl) dX4_gather_10 (fun c10 => absurd c10 (by omega)) (fun c10 => ?_)
          refine r_aload_n C rfl rfl dX4_gather_13 ?_
          refine r_getI C dX4_gather_14 fl_X4_31 rfl (q_lt hs (by decide)) ?_
          refine r_aload_n C rfl rfl dX4_gather_17 ?_
          refine r_getO C dX4_gather_18 fl_X4_9 rfl rfl (q_lt hs (by decide)) (sh_2_0 hs) ?_
          refine r_alen C 8 dX4_gather_21 rfl (by decide) (q_lt hs (by decide)) rfl ?_
          refine t_icmp_ge C 111 (by decide) h6 (show (8 : Int32).toInt = 8 from rfl) dX4_gather_22 (fun c22 => absurd c22 (by omega)) (fun c22 => ?_)
          refine r_aload_n C rfl rfl dX4_gather_25 ?_
          refine r_getI C dX4_gather_26 fl_X4_31 rfl (q_lt hs (by decide)) ?_
          refine r_bipush C 8 rfl dX4_gather_29 ?_
          refine t_icmp_ge C 111 (by decide) h6 (show (8 : Int32).toInt = 8 from rfl) dX4_gather_31 (fun c31 => absurd c31 (by omega)) (fun c31 => ?_)
          refine r_aload_n C rfl rfl dX4_gather_34 ?_
          refine r_iload_n C rfl dX4_gather_35 ?_
          refine r_callSN C (sp_houseIn G hh _ hi hx) ks_X5_houseIn kn_X5_houseIn rfl dX4_gather_36 nl_X4_50 ⟨Nat.le_of_ble_eq_true rfl, Nat.le_of_ble_eq_true rfl⟩ hF rfl (Nat.le_of_ble_eq_true rfl) ?_
          refine r_astore C rfl rfl (Nat.le_of_ble_eq_true rfl) dX4_gather_39 ?_
          refine r_aload C rfl rfl dX4_gather_41 ?_
          refine r_ifnull C dX4_gather_43 ?_
          refine r_iload_n C rfl dX4_gather_46 ?_
          refine r_iload_n C rfl dX4_gather_47 ?_
          refine r_ishr C dX4_gather_48 ?_
          refine r_iconstv C 1 rfl dX4_gather_49 ?_
          refine r_iand C dX4_gather_50 ?_
          refine t_if_ne C 57 (by decide) rfl dX4_gather_51 (fun c51 => ?_) (fun c51 => absurd c51 (by rw [tBit h1 hx (by omega), if_pos hbt]; decide))
          refine r_aload_n C rfl rfl dX4_gather_57 ?_
          refine r_getO C dX4_gather_58 fl_X4_9 rfl rfl (q_lt hs (by decide)) (sh_2_0 hs) ?_
          refine r_aload_n C rfl rfl dX4_gather_61 ?_
          refine r_getI C dX4_gather_62 fl_X4_31 rfl (q_lt hs (by decide)) ?_
          refine r_iload_n C rfl dX4_gather_65 ?_
          refine r_iast C ((mK K i).length) (by show (hI (gaH h K i) 2 6).toInt = _; exact h6) (by omega) dX4_gather_66 rfl (q_lt hs (by decide)) ?_
          refine r_aload_n C rfl rfl dX4_gather_67 ?_
          refine r_getO C dX4_gather_68 fl_X4_15 rfl rfl (q_lt hs (by decide)) (sh_2_1 hs) ?_
          refine r_aload_n C rfl rfl dX4_gather_71 ?_
          refine r_getI C dX4_gather_72 fl_X4_31 rfl (q_lt hs (by decide)) ?_
          refine r_aload C rfl rfl dX4_gather_75 ?_
          refine r_getI C dX4_gather_77 fl_X4_54 (tg_hid i) (oHs.lt hh hi) ?_
          refine r_iast C ((mK K i).length) (by show (hI (gaH h K i) 2 6).toInt = _; exact h6) (by omega) dX4_gather_80 rfl (q_lt hs (by decide)) ?_
          refine r_aload_n C rfl rfl dX4_gather_81 ?_
          refine r_getO C dX4_gather_82 fl_X4_18 rfl rfl (q_lt hs (by decide)) (sh_2_2 hs) ?_
          refine r_aload_n C rfl rfl dX4_gather_85 ?_
          refine r_getI C dX4_gather_86 fl_X4_31 rfl (q_lt hs (by decide)) ?_
          refine r_aload C rfl rfl dX4_gather_89 ?_
          refine r_getI C dX4_gather_91 fl_X4_59 (tg_hid i) (oHs.lt hh hi) ?_
          refine r_iast C ((mK K i).length) (by show (hI (gaH h K i) 2 6).toInt = _; exact h6) (by omega) dX4_gather_94 rfl (q_lt hs (by decide)) ?_
          refine r_aload_n C rfl rfl dX4_gather_95 ?_
          refine r_dup C rfl dX4_gather_96 ?_
          refine r_getI C dX4_gather_97 fl_X4_31 rfl (q_lt hs (by decide)) ?_
          refine r_iconstv C 1 rfl dX4_gather_100 ?_
          refine r_iadd C dX4_gather_101 ?_
          refine r_putI C dX4_gather_102 fl_X4_31 rfl (q_lt hs (by decide)) (Or.inl rfl) ?_
          refine r_iinc C rfl rfl (Nat.le_of_ble_eq_true rfl) dX4_gather_105 ?_
          refine r_goto C 7 (by decide) dX4_gather_108 ?_
          exact oS_h (h2 := gaH h K (i + 1)) (by rw [gaH_t hbt, kI_e hx]; rfl) (ih (i + 1) _ _ (by omega) (by have t := tA hx (show (Int32.ofInt 1).toInt = 1 from rfl) (by omega); omega))
        · refine r_iload_n C rfl dX4_gather_7 ?_
          refine r_bipush C 24 rfl dX4_gather_8 ?_
          refine t_icmp_ge C 111 (by decide) hx (show (24 : Int32).toInt = 24 from rfl) dX4_gather_10 (fun c10 => absurd c10 (by omega)) (fun c10 => ?_)
          refine r_aload_n C rfl rfl dX4_gather_13 ?_
          refine r_getI C dX4_gather_14 fl_X4_31 rfl (q_lt hs (by decide)) ?_
          refine r_aload_n C rfl rfl dX4_gather_17 ?_
          refine r_getO C dX4_gather_18 fl_X4_9 rfl rfl (q_lt hs (by decide)) (sh_2_0 hs) ?_
          refine r_alen C 8 dX4_gather_21 rfl (by decide) (q_lt hs (by decide)) rfl ?_
          refine t_icmp_ge C 111 (by decide) h6 (show (8 : Int32).toInt = 8 from rfl) dX4_gather_22 (fun c22 => absurd c22 (by omega)) (fun c22 => ?_)
          refine r_aload_n C rfl rfl dX4_gather_25 ?_
          refine r_getI C dX4_gather_26 fl_X4_31 rfl (q_lt hs (by decide)) ?_
          refine r_bipush C 8 rfl dX4_gather_29 ?_
          refine t_icmp_ge C 111 (by decide) h6 (show (8 : Int32).toInt = 8 from rfl) dX4_gather_31 (fun c31 => absurd c31 (by omega)) (fun c31 => ?_)
          refine r_aload_n C rfl rfl dX4_gather_34 ?_
          refine r_iload_n C rfl dX4_gather_35 ?_
          refine r_callSN C (sp_houseIn G hh _ hi hx) ks_X5_houseIn kn_X5_houseIn rfl dX4_gather_36 nl_X4_50 ⟨Nat.le_of_ble_eq_true rfl, Nat.le_of_ble_eq_true rfl⟩ hF rfl (Nat.le_of_ble_eq_true rfl) ?_
          refine r_astore C rfl rfl (Nat.le_of_ble_eq_true rfl) dX4_gather_39 ?_
          refine r_aload C rfl rfl dX4_gather_41 ?_
          refine r_ifnull C dX4_gather_43 ?_
          refine r_iload_n C rfl dX4_gather_46 ?_
          refine r_iload_n C rfl dX4_gather_47 ?_
          refine r_ishr C dX4_gather_48 ?_
          refine r_iconstv C 1 rfl dX4_gather_49 ?_
          refine r_iand C dX4_gather_50 ?_
          refine t_if_ne C 57 (by decide) rfl dX4_gather_51 (fun c51 => absurd (bit_m h1 hx (by omega) c51) hbt) (fun c51 => ?_)
          refine r_goto C 105 (by decide) dX4_gather_54 ?_
          refine r_iinc C rfl rfl (Nat.le_of_ble_eq_true rfl) dX4_gather_105 ?_
          refine r_goto C 7 (by decide) dX4_gather_108 ?_
          exact oS_h (h2 := gaH h K (i + 1)) (gaH_f hbt).symm (ih (i + 1) _ _ (by omega) (by have t := tA hx (show (Int32.ofInt 1).toInt = 1 from rfl) (by omega); omega))
      · have hbt : ¬ K.testBit i = true := fun q => by
          have q1 := tB_le q
          have q2 := Nat.pow_le_pow_right (n := 2) (by decide) (show n ≤ i by omega)
          omega
        refine r_iload_n C rfl dX4_gather_7 ?_
        refine r_bipush C 24 rfl dX4_gather_8 ?_
        refine t_icmp_ge C 111 (by decide) hx (show (24 : Int32).toInt = 24 from rfl) dX4_gather_10 (fun c10 => absurd c10 (by omega)) (fun c10 => ?_)
        refine r_aload_n C rfl rfl dX4_gather_13 ?_
        refine r_getI C dX4_gather_14 fl_X4_31 rfl (q_lt hs (by decide)) ?_
        refine r_aload_n C rfl rfl dX4_gather_17 ?_
        refine r_getO C dX4_gather_18 fl_X4_9 rfl rfl (q_lt hs (by decide)) (sh_2_0 hs) ?_
        refine r_alen C 8 dX4_gather_21 rfl (by decide) (q_lt hs (by decide)) rfl ?_
        refine t_icmp_ge C 111 (by decide) h6 (show (8 : Int32).toInt = 8 from rfl) dX4_gather_22 (fun c22 => absurd c22 (by omega)) (fun c22 => ?_)
        refine r_aload_n C rfl rfl dX4_gather_25 ?_
        refine r_getI C dX4_gather_26 fl_X4_31 rfl (q_lt hs (by decide)) ?_
        refine r_bipush C 8 rfl dX4_gather_29 ?_
        refine t_icmp_ge C 111 (by decide) h6 (show (8 : Int32).toInt = 8 from rfl) dX4_gather_31 (fun c31 => absurd c31 (by omega)) (fun c31 => ?_)
        refine r_aload_n C rfl rfl dX4_gather_34 ?_
        refine r_iload_n C rfl dX4_gather_35 ?_
        refine r_callSN C (sp_houseInN G hh _ (by omega)) ks_X5_houseIn kn_X5_houseIn rfl dX4_gather_36 nl_X4_50 ⟨Nat.le_of_ble_eq_true rfl, Nat.le_of_ble_eq_true rfl⟩ hF rfl (Nat.le_of_ble_eq_true rfl) ?_
        refine r_astore C rfl rfl (Nat.le_of_ble_eq_true rfl) dX4_gather_39 ?_
        refine r_aload C rfl rfl dX4_gather_41 ?_
        refine r_ifnullN C 105 (by decide) dX4_gather_43 ?_
        refine r_iinc C rfl rfl (Nat.le_of_ble_eq_true rfl) dX4_gather_105 ?_
        refine r_goto C 7 (by decide) dX4_gather_108 ?_
        exact oS_h (h2 := gaH h K (i + 1)) (gaH_f hbt).symm (ih (i + 1) _ _ (by omega) (by have t := tA hx (show (Int32.ofInt 1).toInt = 1 from rfl) (by omega); omega))

theorem geH_n {h : oH} {K : Nat} : (geH h K).1 = h.1 := gaH_n 24
set_option maxHeartbeats 4000000 in
set_option maxRecDepth 100000 in
theorem sp_ga (G : oG) {h : oH} {n : Nat} (hh : oHs h n) {K : Nat} (hK : K < 2 ^ n) (hm8 : (mK K 24).length ≤ 8) (x : Int32) (hx : x.toInt = (K : Int)) : oSp G mX4_gather [.ref 2, .int x, .ref 1] h none (geH h K) := by
  refine oSp.intro [some (.ref 2), some (.int x), some (.ref 1), none, none] rfl (Nat.le_of_ble_eq_true rfl) (plainFor_of_name (by decide +kernel)) (by rw [geH_n]; exact Nat.le_refl _) ?_
  intro p l e R s m args below meth c C
  refine r_aload_n C rfl rfl dX4_gather_0 ?_
  refine r_iconstv C 0 rfl dX4_gather_1 ?_
  refine r_putI C dX4_gather_2 fl_X4_31 rfl (q_lt hh.1 (by decide)) (Or.inl rfl) ?_
  refine r_iconstv C 0 rfl dX4_gather_5 ?_
  refine r_istore_n C rfl (Nat.le_of_ble_eq_true rfl) dX4_gather_6 ?_
  exact lp_ga G hh hK hm8 hx C (by rw [geH_n]; exact Nat.le_refl _) 24 0 _ _ rfl rfl

theorem geH_o {h : oH} {K a y : Nat} (c1 : a ≠ 3 ∧ a ≠ 4 ∧ a ≠ 5) (c2 : ¬ (a = 2 ∧ y = 6)) : hI (geH h K) a y = hI h a y := by
  unfold geH
  rw [sI_ne (by omega), sI_ne (by omega)]
  exact gaH_o c1 c2 24
theorem geH_R {h : oH} {K a y : Nat} : hR (geH h K) a y = hR h a y := gaH_R 24
theorem geH_J {h : oH} {K a y : Nat} : hJ (geH h K) a y = hJ h a y := gaH_J 24
/-- what gather leaves -/
theorem geH_g {h h0 : oH} {K : Nat} (hm8 : (mK K 24).length ≤ 8) (hx : ∀ i, K.testBit i = true → i < 24 → hI h (hid i) 0 = hI h0 13 i ∧ hI h (hid i) 1 = hI h0 14 i) (hB : xyB (sX h0 (mem K)) (sY h0 (mem K))) : gE (geH h K) (mem K).length (sX h0 (mem K)) (sY h0 (mem K)) ∧ ∀ a, a < (mem K).length → (hI (geH h K) 3 a).toInt = (((mem K).getD a 0 : Nat) : Int) := by
  have em : mem K = mK K 24 := rfl
  rw [em]
  refine ⟨⟨?_, hm8, hB, fun a ha => ?_⟩, fun a ha => ?_⟩
  · unfold geH
    rw [sI_ne (by omega), sI_ne (by omega)]
    exact gaH_6 24 (Nat.le_refl _)
  · unfold sX sY geH
    rcases ha with ha | ha
    · have q := gaH_x (h := h) 24 ha
      have q2 := mK_lt ha
      have q3 := hx _ q2.2 q2.1
      rw [if_neg (by omega), if_neg (by omega), sI_ne (by omega), sI_ne (by omega), sI_ne (by omega), sI_ne (by omega), q.2.1, q.2.2, q3.1, q3.2]
      exact ⟨rfl, rfl⟩
    · rw [if_pos ha, if_pos ha, ha, sI_eq ⟨rfl, rfl⟩, sI_ne (by omega), sI_eq ⟨rfl, rfl⟩]
      exact ⟨rfl, rfl⟩
  · have q := gaH_x (h := h) 24 ha
    have q2 := mK_lt ha
    unfold geH
    rw [sI_ne (by omega), sI_ne (by omega), q.1]
    exact kI_t (by omega)
