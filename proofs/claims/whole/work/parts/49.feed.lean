/-! feed -/
def fSh (w : Int64) (k : Nat) : Int64 := w >>> (((8 : Int32) * kI k).toInt64 &&& 63)
def wB (w : Int64) (k : Nat) : Int32 := (fSh w k).toInt32.toInt8.toInt32
def wM (w : Int64) (k : Nat) : Int32 := (fSh w k &&& 255).toInt32
theorem byte_e (u : Int64) : (u.toInt32.toInt8.toInt32 &&& 255 : Int32) = (u &&& 255).toInt32 ∧ 0 ≤ ((u &&& 255).toInt32).toInt ∧ ((u &&& 255).toInt32).toInt ≤ 255 := by
  have h1 : ((u &&& 255).toInt32).toBitVec.toNat = u.toBitVec.toNat % 256 := by
    show ((u &&& 255).toBitVec.signExtend 32).toNat = _
    rw [BitVec.signExtend_eq_setWidth_of_le _ (by decide), BitVec.toNat_setWidth, Int64.toBitVec_and, BitVec.toNat_and]
    show (u.toBitVec.toNat &&& 255) % 2 ^ 32 = _
    rw [show (255 : Nat) = 2 ^ 8 - 1 from rfl, Nat.and_two_pow_sub_one_eq_mod]
    omega
  have h2 : (u.toInt32.toInt8.toInt32 &&& 255 : Int32).toBitVec.toNat = u.toBitVec.toNat % 256 := by
    rw [Int32.toBitVec_and, BitVec.toNat_and]
    show (((u.toBitVec.signExtend 32).signExtend 8).signExtend 32).toNat &&& 255 = _
    rw [show (255 : Nat) = 2 ^ 8 - 1 from rfl, Nat.and_two_pow_sub_one_eq_mod, BitVec.toNat_signExtend, BitVec.toNat_setWidth, BitVec.signExtend_eq_setWidth_of_le ((u.toBitVec.signExtend 32)) (by decide : 8 ≤ 32), BitVec.toNat_setWidth, BitVec.signExtend_eq_setWidth_of_le u.toBitVec (by decide : 32 ≤ 64), BitVec.toNat_setWidth]
    split <;> omega
  have h3 := qN h1 (by omega)
  refine ⟨?_, by omega, by omega⟩
  apply Int32.toBitVec_inj.mp
  apply BitVec.eq_of_toNat_eq
  rw [h1, h2]
def fdC (h : oH) (w : Int64) (z nn : Nat) : Nat → oH
  | 0 => h
  | t + 1 => sI (sI (fdC h w z nn t) 9 (z + t) (wB w (nn - 1 - t))) 8 1 (kI (z + t + 1))
def fdM (h : oH) (w : Int64) (z nn : Nat) : Nat → oH
  | 0 => h
  | t + 1 => sI (sI (fdM h w z nn t) 29 (z + t) (wM w (nn - 1 - t))) 12 29 (kI (z + t + 1))
theorem fdC_n {h : oH} {w : Int64} {z nn : Nat} : ∀ t, (fdC h w z nn t).1 = h.1
  | 0 => rfl
  | t + 1 => fdC_n t
theorem fdC_R {h : oH} {w : Int64} {z nn a y : Nat} : ∀ t, hR (fdC h w z nn t) a y = hR h a y
  | 0 => rfl
  | t + 1 => fdC_R t
theorem fdC_J {h : oH} {w : Int64} {z nn a y : Nat} : ∀ t, hJ (fdC h w z nn t) a y = hJ h a y
  | 0 => rfl
  | t + 1 => fdC_J t
theorem fdC_o {h : oH} {w : Int64} {z nn a y : Nat} (c1 : ¬ (a = 9 ∧ z ≤ y)) (c2 : ¬ (a = 8 ∧ y = 1)) : ∀ t, hI (fdC h w z nn t) a y = hI h a y
  | 0 => rfl
  | t + 1 => by
    unfold fdC
    rw [sI_ne (by omega), sI_ne (by omega)]
    exact fdC_o c1 c2 t
theorem fdC_1 {h : oH} {w : Int64} {z nn : Nat} (hz : (hI h 8 1).toInt = (z : Int)) (hl : z ≤ 300) : ∀ t, t ≤ 300 → (hI (fdC h w z nn t) 8 1).toInt = ((z + t : Nat) : Int)
  | 0, _ => hz
  | t + 1, ht => by
    unfold fdC
    rw [sI_eq ⟨rfl, rfl⟩]
    exact kI_t (by omega)
theorem fdC_9 {h : oH} {w : Int64} {z nn y : Nat} : ∀ t, y < t → hI (fdC h w z nn t) 9 (z + y) = wB w (nn - 1 - y)
  | 0, c1 => absurd c1 (Nat.not_lt_zero y)
  | t + 1, c1 => by
    unfold fdC
    rw [sI_ne (by omega)]
    by_cases e : y = t
    · rw [e, sI_eq ⟨rfl, rfl⟩]
    · rw [sI_ne (by omega)]
      exact fdC_9 t (by omega)
theorem fdM_n {h : oH} {w : Int64} {z nn : Nat} : ∀ t, (fdM h w z nn t).1 = h.1
  | 0 => rfl
  | t + 1 => fdM_n t
theorem fdM_R {h : oH} {w : Int64} {z nn a y : Nat} : ∀ t, hR (fdM h w z nn t) a y = hR h a y
  | 0 => rfl
  | t + 1 => fdM_R t
theorem fdM_J {h : oH} {w : Int64} {z nn a y : Nat} : ∀ t, hJ (fdM h w z nn t) a y = hJ h a y
  | 0 => rfl
  | t + 1 => fdM_J t
theorem fdM_o {h : oH} {w : Int64} {z nn a y : Nat} (c1 : ¬ (a = 29 ∧ z ≤ y)) (c2 : ¬ (a = 12 ∧ y = 29)) : ∀ t, hI (fdM h w z nn t) a y = hI h a y
  | 0 => rfl
  | t + 1 => by
    unfold fdM
    rw [sI_ne (by omega), sI_ne (by omega)]
    exact fdM_o c1 c2 t
theorem fdM_1 {h : oH} {w : Int64} {z nn : Nat} (hz : (hI h 12 29).toInt = (z : Int)) (hl : z ≤ 300) : ∀ t, t ≤ 300 → (hI (fdM h w z nn t) 12 29).toInt = ((z + t : Nat) : Int)
  | 0, _ => hz
  | t + 1, ht => by
    unfold fdM
    rw [sI_eq ⟨rfl, rfl⟩]
    exact kI_t (by omega)
theorem fdM_9 {h : oH} {w : Int64} {z nn y : Nat} : ∀ t, y < t → hI (fdM h w z nn t) 29 (z + y) = wM w (nn - 1 - y)
  | 0, c1 => absurd c1 (Nat.not_lt_zero y)
  | t + 1, c1 => by
    unfold fdM
    rw [sI_ne (by omega)]
    by_cases e : y = t
    · rw [e, sI_eq ⟨rfl, rfl⟩]
    · rw [sI_ne (by omega)]
      exact fdM_9 t (by omega)
theorem fdC_s {h : oH} {w : Int64} {z nn t : Nat} (hs : oSh h) : oSh (fdC h w z nn t) := ⟨by rw [fdC_n]; exact hs.1, fun r hr => by rw [fdC_R]; exact hs.2 r hr⟩
theorem fdM_s {h : oH} {w : Int64} {z nn t : Nat} (hs : oSh h) : oSh (fdM h w z nn t) := ⟨by rw [fdM_n]; exact hs.1, fun r hr => by rw [fdM_R]; exact hs.2 r hr⟩
set_option maxHeartbeats 4000000 in
set_option maxRecDepth 100000 in
theorem lp_fdC (G : oG) {p : Program} {l : Launch} {e : Env} {R : Room} {s : State} {m : MethodId} {args : Array Value} {below : List Frame} {meth : Method} {c : Code} {n0 nF : Nat} {h : oH} (hs0 : oSh h) {w : Int64} {z nn : Nat} (hz : (hI h 8 1).toInt = (z : Int)) (hl : z + nn ≤ 300) (hn1 : nn ≤ 8) {nx : Int32} (C : oC G mX3_append n0 nF p l R s m args meth c) (hF0 : h.1 ≤ nF) : ∀ (k t : Nat) (x : Int32), t + k = nn → x.toInt = (k : Int) - 1 → oS G mX3_append p l e R s m args below meth c (oZ G below args s n0 nF (some (.int (hI (fdC h w z nn nn) 8 1))) (fdC h w z nn nn)) n0 22 [some (.ref 8), some (.long w), none, some (.int nx), some (.int x)] [] (fdC h w z nn t) := by
  intro k
  induction k with
  | zero =>
    intro t x htk hx
    have htn : t = nn := by omega
    subst htn
    have hs := fdC_s (w := w) (z := z) (nn := t) (t := t) hs0
    have hF : (fdC h w z t t).1 ≤ nF := by rw [fdC_n]; exact hF0
    refine r_iload C rfl dX3_append_22 ?_
    refine t_if_lt C 83 (by decide) rfl dX3_append_24 (fun c24 => ?_) (fun c24 => absurd c24 (by omega))
    refine r_aload_n C rfl rfl dX3_append_83 ?_
    refine r_getI C dX3_append_84 fl_X3_15 rfl (q_lt hs (by decide)) ?_
    exact r_iret C dX3_append_87 rfl hF rfl rfl
  | succ k ih =>
    intro t x htk hx
    have hs := fdC_s (w := w) (z := z) (nn := nn) (t := t) hs0
    have h1 := fdC_1 (w := w) (nn := nn) hz (by omega) t (by omega)
    have hxk : x = kI (nn - 1 - t) := kI_e (by omega)
    refine r_iload C rfl dX3_append_22 ?_
    refine t_if_lt C 83 (by decide) rfl dX3_append_24 (fun c24 => absurd c24 (by omega)) (fun c24 => ?_)
    refine r_aload_n C rfl rfl dX3_append_27 ?_
    refine r_getI C dX3_append_28 fl_X3_15 rfl (q_lt hs (by decide)) ?_
    refine t_if_lt C 46 (by decide) h1 dX3_append_31 (fun c31 => absurd c31 (by omega)) (fun c31 => ?_)
    refine r_aload_n C rfl rfl dX3_append_34 ?_
    refine r_getI C dX3_append_35 fl_X3_15 rfl (q_lt hs (by decide)) ?_
    refine r_aload_n C rfl rfl dX3_append_38 ?_
    refine r_getO C dX3_append_39 fl_X3_11 rfl rfl (q_lt hs (by decide)) (sh_8_0 hs) ?_
    refine r_alen C 300 dX3_append_42 rfl (by decide) (q_lt hs (by decide)) rfl ?_
    refine t_icmp_lt C 49 (by decide) h1 (show (300 : Int32).toInt = 300 from rfl) dX3_append_43 (fun c43 => ?_) (fun c43 => absurd c43 (by omega))
    refine r_aload_n C rfl rfl dX3_append_49 ?_
    refine r_getO C dX3_append_50 fl_X3_11 rfl rfl (q_lt hs (by decide)) (sh_8_0 hs) ?_
    refine r_aload_n C rfl rfl dX3_append_53 ?_
    refine r_getI C dX3_append_54 fl_X3_15 rfl (q_lt hs (by decide)) ?_
    refine r_lload_n C rfl dX3_append_57 ?_
    refine r_bipush C 8 rfl dX3_append_58 ?_
    refine r_iload C rfl dX3_append_60 ?_
    refine r_imul C dX3_append_62 ?_
    refine r_lshr C dX3_append_63 ?_
    refine r_l2i C dX3_append_64 ?_
    refine r_i2b C dX3_append_65 ?_
    refine r_bast C ((z + t)) (wB w (nn - 1 - t)) (by rw [hxk]; exact pk_nb _) h1 (by omega) dX3_append_66 rfl (q_lt hs (by decide)) ?_
    refine r_aload_n C rfl rfl dX3_append_67 ?_
    refine r_dup C rfl dX3_append_68 ?_
    refine r_getI C dX3_append_69 fl_X3_15 rfl (q_lt hs (by decide)) ?_
    refine r_iconstv C 1 rfl dX3_append_72 ?_
    refine r_iadd C dX3_append_73 ?_
    refine r_putI C dX3_append_74 fl_X3_15 rfl (q_lt hs (by decide)) (Or.inl rfl) ?_
    refine r_iinc C rfl rfl (Nat.le_of_ble_eq_true rfl) dX3_append_77 ?_
    refine r_goto C 22 (by decide) dX3_append_80 ?_
    exact oS_h (h2 := fdC h w z nn (t + 1)) (by show _ = sI (sI (fdC h w z nn t) 9 (z + t) (wB w (nn - 1 - t))) 8 1 (kI (z + t + 1)); refine congrArg (sI _ 8 1) (kI_e ?_); exact (tA (show (hI (sI (fdC h w z nn t) 9 (z + t) (wB w (nn - 1 - t))) 8 1).toInt = ((z + t : Nat) : Int) from h1) (show (1 : Int32).toInt = 1 from rfl) (by omega)).trans (by omega)) (ih (t + 1) _ (by omega) (by have t := tA hx (show (Int32.ofInt (-1)).toInt = -1 from rfl) (by omega); omega))

set_option maxHeartbeats 4000000 in
set_option maxRecDepth 100000 in
theorem lp_fdM (G : oG) {p : Program} {l : Launch} {e : Env} {R : Room} {s : State} {m : MethodId} {args : Array Value} {below : List Frame} {meth : Method} {c : Code} {n0 nF : Nat} {h : oH} (hs0 : oSh h) {w : Int64} {z nn : Nat} (hz : (hI h 12 29).toInt = (z : Int)) (hl : z + nn ≤ 300) (hn1 : nn ≤ 8) {nx : Int32} (C : oC G mX6_feed n0 nF p l R s m args meth c) (hF0 : h.1 ≤ nF) : ∀ (k t : Nat) (x : Int32), t + k = nn → x.toInt = (k : Int) - 1 → oS G mX6_feed p l e R s m args below meth c (oZ G below args s n0 nF (some (.int (hI (fdM h w z nn nn) 12 29))) (fdM h w z nn nn)) n0 40 [some (.ref 12), some (.long w), none, some (.int nx), some (.int x)] [] (fdM h w z nn t) := by
  intro k
  induction k with
  | zero =>
    intro t x htk hx
    have htn : t = nn := by omega
    subst htn
    have hs := fdM_s (w := w) (z := z) (nn := t) (t := t) hs0
    have hF : (fdM h w z t t).1 ≤ nF := by rw [fdM_n]; exact hF0
    refine r_iload C rfl dX6_feed_40 ?_
    refine t_if_lt C 82 (by decide) rfl dX6_feed_42 (fun c42 => ?_) (fun c42 => absurd c42 (by omega))
    refine r_aload_n C rfl rfl dX6_feed_82 ?_
    refine r_getI C dX6_feed_83 fl_X6_201 rfl (q_lt hs (by decide)) ?_
    exact r_iret C dX6_feed_86 rfl hF rfl rfl
  | succ k ih =>
    intro t x htk hx
    have hs := fdM_s (w := w) (z := z) (nn := nn) (t := t) hs0
    have h1 := fdM_1 (w := w) (nn := nn) hz (by omega) t (by omega)
    have hxk : x = kI (nn - 1 - t) := kI_e (by omega)
    refine r_iload C rfl dX6_feed_40 ?_
    refine t_if_lt C 82 (by decide) rfl dX6_feed_42 (fun c42 => absurd c42 (by omega)) (fun c42 => ?_)
    refine r_aload_n C rfl rfl dX6_feed_45 ?_
    refine r_getO C dX6_feed_46 fl_X6_72 rfl rfl (q_lt hs (by decide)) (sh_12_28 hs) ?_
    refine r_aload_n C rfl rfl dX6_feed_49 ?_
    refine r_getI C dX6_feed_50 fl_X6_201 rfl (q_lt hs (by decide)) ?_
    refine r_lload_n C rfl dX6_feed_53 ?_
    refine r_bipush C 8 rfl dX6_feed_54 ?_
    refine r_iload C rfl dX6_feed_56 ?_
    refine r_imul C dX6_feed_58 ?_
    refine r_lshr C dX6_feed_59 ?_
    refine r_ldc2 C _ ll_X6_204 dX6_feed_60 ?_
    refine r_land C dX6_feed_63 ?_
    refine r_l2i C dX6_feed_64 ?_
    refine r_iast C ((z + t)) h1 (by omega) dX6_feed_65 rfl (q_lt hs (by decide)) ?_
    refine r_aload_n C rfl rfl dX6_feed_66 ?_
    refine r_dup C rfl dX6_feed_67 ?_
    refine r_getI C dX6_feed_68 fl_X6_201 rfl (q_lt hs (by decide)) ?_
    refine r_iconstv C 1 rfl dX6_feed_71 ?_
    refine r_iadd C dX6_feed_72 ?_
    refine r_putI C dX6_feed_73 fl_X6_201 rfl (q_lt hs (by decide)) (Or.inl rfl) ?_
    refine r_iinc C rfl rfl (Nat.le_of_ble_eq_true rfl) dX6_feed_76 ?_
    refine r_goto C 40 (by decide) dX6_feed_79 ?_
    exact oS_h (h2 := fdM h w z nn (t + 1)) (by rw [hxk]; show _ = sI (sI (fdM h w z nn t) 29 (z + t) (wM w (nn - 1 - t))) 12 29 (kI (z + t + 1)); refine congrArg (sI _ 12 29) (kI_e ?_); exact (tA (show (hI (sI (fdM h w z nn t) 29 (z + t) (wM w (nn - 1 - t))) 12 29).toInt = ((z + t : Nat) : Int) from h1) (show (1 : Int32).toInt = 1 from rfl) (by omega)).trans (by omega)) (ih (t + 1) _ (by omega) (by have t := tA hx (show (Int32.ofInt (-1)).toInt = -1 from rfl) (by omega); omega))

set_option maxHeartbeats 4000000 in
set_option maxRecDepth 100000 in
theorem sp_ap (G : oG) {h : oH} (hs : oSh h) {z : Nat} (hz : (hI h 8 1).toInt = (z : Int)) (z3 : z ≤ 300) (w : Int64) (x : Int32) {nn : Nat} (hx : x.toInt = (nn : Int)) (hn1 : nn ≤ 8) (hl : z + nn ≤ 300) : oSp G mX3_append [.ref 8, .long w, .int x] h (some (.int (hI (fdC h w z nn nn) 8 1))) (fdC h w z nn nn) := by
  refine oSp.intro [some (.ref 8), some (.long w), none, some (.int x), none] rfl (Nat.le_of_ble_eq_true rfl) (plainFor_of_name (by decide +kernel)) (by rw [fdC_n]; exact Nat.le_refl _) ?_
  intro p l e R s m args below meth c C
  refine r_iload_n C rfl dX3_append_0 ?_
  refine r_aload_n C rfl rfl dX3_append_1 ?_
  refine r_getO C dX3_append_2 fl_X3_11 rfl rfl (q_lt hs (by decide)) (sh_8_0 hs) ?_
  refine r_alen C 300 dX3_append_5 rfl (by decide) (q_lt hs (by decide)) rfl ?_
  refine r_aload_n C rfl rfl dX3_append_6 ?_
  refine r_getI C dX3_append_7 fl_X3_15 rfl (q_lt hs (by decide)) ?_
  refine r_isub C dX3_append_10 ?_
  refine t_icmp_le C 17 (by decide) hx (tS (show (300 : Int32).toInt = 300 from rfl) hz (by omega)) dX3_append_11 (fun c11 => ?_) (fun c11 => ?_)
  · first
    | (exfalso; omega)
    |  (refine r_iload_n C rfl dX3_append_17 ?_
        refine r_iconstv C 1 rfl dX3_append_18 ?_
        refine r_isub C dX3_append_19 ?_
        refine r_istore C rfl (Nat.le_of_ble_eq_true rfl) dX3_append_20 ?_
        exact lp_fdC G hs hz hl hn1 C (by rw [fdC_n]; exact Nat.le_refl _) nn 0 _ (by omega) (tS hx (show (1 : Int32).toInt = 1 from rfl) (by omega)))
  · first
    | (exfalso; omega)
    |  (refine r_ldc C _ lc_X3_50 dX3_append_14 ?_
        exact r_iret C dX3_append_16 rfl (Nat.le_refl _) rfl rfl)

set_option maxHeartbeats 4000000 in
set_option maxRecDepth 100000 in
theorem sp_apN (G : oG) {h : oH} (hs : oSh h) {z : Nat} (hz : (hI h 8 1).toInt = (z : Int)) (z3 : z ≤ 300) (w : Int64) (x : Int32) {nn : Nat} (hx : x.toInt = (nn : Int)) (hn1 : nn ≤ 8) (hl : ¬ z + nn ≤ 300) : oSp G mX3_append [.ref 8, .long w, .int x] h (some (.int (-1000003))) h := by
  refine oSp.intro [some (.ref 8), some (.long w), none, some (.int x), none] rfl (Nat.le_of_ble_eq_true rfl) (plainFor_of_name (by decide +kernel)) (Nat.le_refl _) ?_
  intro p l e R s m args below meth c C
  refine r_iload_n C rfl dX3_append_0 ?_
  refine r_aload_n C rfl rfl dX3_append_1 ?_
  refine r_getO C dX3_append_2 fl_X3_11 rfl rfl (q_lt hs (by decide)) (sh_8_0 hs) ?_
  refine r_alen C 300 dX3_append_5 rfl (by decide) (q_lt hs (by decide)) rfl ?_
  refine r_aload_n C rfl rfl dX3_append_6 ?_
  refine r_getI C dX3_append_7 fl_X3_15 rfl (q_lt hs (by decide)) ?_
  refine r_isub C dX3_append_10 ?_
  refine t_icmp_le C 17 (by decide) hx (tS (show (300 : Int32).toInt = 300 from rfl) hz (by omega)) dX3_append_11 (fun c11 => ?_) (fun c11 => ?_)
  · first
    | (exfalso; omega)
    |  (refine r_iload_n C rfl dX3_append_17 ?_
        refine r_iconstv C 1 rfl dX3_append_18 ?_
        refine r_isub C dX3_append_19 ?_
        refine r_istore C rfl (Nat.le_of_ble_eq_true rfl) dX3_append_20 ?_
        (exfalso; omega))
  · first
    | (exfalso; omega)
    |  (refine r_ldc C _ lc_X3_50 dX3_append_14 ?_
        exact r_iret C dX3_append_16 rfl (Nat.le_refl _) rfl rfl)

set_option maxHeartbeats 4000000 in
set_option maxRecDepth 100000 in
theorem c_feed (G : oG) {h : oH} (hs : oSh h) {z : Nat} (hz : (hI h 8 1).toInt = (z : Int)) (z3 : z ≤ 300) (w : Int64) (x : Int32) {nn : Nat} (hx : x.toInt = (nn : Int)) (hn1 : nn ≤ 8) (h8 : 1 ≤ nn) (hl : z + nn ≤ 300) : oSp G mX5_feed [.ref 0, .long w, .int x] h (some (.int (hI (fdC h w z nn nn) 8 1))) (fdC h w z nn nn) := by
  refine oSp.intro [some (.ref 0), some (.long w), none, some (.int x)] rfl (Nat.le_of_ble_eq_true rfl) (plainFor_of_name (by decide +kernel)) (by rw [fdC_n]; exact Nat.le_refl _) ?_
  intro p l e R s m args below meth c C
  refine r_iload_n C rfl dX5_feed_0 ?_
  refine r_iconstv C 1 rfl dX5_feed_1 ?_
  refine r_bipush C 8 rfl dX5_feed_2 ?_
  refine r_callS C (sp_isOutside G hx (show (1 : Int32).toInt = 1 from rfl) (show (8 : Int32).toInt = 8 from rfl)) ks_X5_isOutside kn_X5_isOutside rfl dX5_feed_4 cl_X5_68 ⟨Nat.le_of_ble_eq_true rfl, Nat.le_of_ble_eq_true rfl⟩ (by rw [fdC_n]; exact Nat.le_refl _) rfl (Nat.le_of_ble_eq_true rfl) ?_
  refine t_ifb_eq C 13 (by decide) dX5_feed_7 (fun c7 => ?_) (fun c7 => ?_)
  · first
    | (exfalso; omega)
    |  (refine r_aload_n C rfl rfl dX5_feed_13 ?_
        refine r_getO C dX5_feed_14 fl_X5_25 rfl rfl (q_lt hs (by decide)) (sh_0_2 hs) ?_
        refine r_lload_n C rfl dX5_feed_17 ?_
        refine r_iload_n C rfl dX5_feed_18 ?_
        refine r_callV C (sp_ap G hs hz z3 _ _ hx hn1 hl) kv_X3_append kn_X3_append rfl dX5_feed_19 cl_X5_180 ⟨Nat.le_of_ble_eq_true rfl, Nat.le_of_ble_eq_true rfl⟩ (by decide) rfl rfl (q_lt hs (by decide)) (Nat.le_refl _) rfl (Nat.le_of_ble_eq_true rfl) ?_
        exact r_iret C dX5_feed_22 rfl (Nat.le_refl _) rfl rfl)
  · first
    | (exfalso; omega)
    |  (refine r_ldc C _ lc_X5_72 dX5_feed_10 ?_
        exact r_iret C dX5_feed_12 rfl (Nat.le_refl _) rfl rfl)

set_option maxHeartbeats 4000000 in
set_option maxRecDepth 100000 in
theorem c_feedF (G : oG) {h : oH} (hs : oSh h) {z : Nat} (hz : (hI h 8 1).toInt = (z : Int)) (z3 : z ≤ 300) (w : Int64) (x : Int32) {nn : Nat} (hx : x.toInt = (nn : Int)) (hn1 : nn ≤ 8) (h8 : 1 ≤ nn) (hl : ¬ z + nn ≤ 300) : oSp G mX5_feed [.ref 0, .long w, .int x] h (some (.int (-1000003))) h := by
  refine oSp.intro [some (.ref 0), some (.long w), none, some (.int x)] rfl (Nat.le_of_ble_eq_true rfl) (plainFor_of_name (by decide +kernel)) (Nat.le_refl _) ?_
  intro p l e R s m args below meth c C
  refine r_iload_n C rfl dX5_feed_0 ?_
  refine r_iconstv C 1 rfl dX5_feed_1 ?_
  refine r_bipush C 8 rfl dX5_feed_2 ?_
  refine r_callS C (sp_isOutside G hx (show (1 : Int32).toInt = 1 from rfl) (show (8 : Int32).toInt = 8 from rfl)) ks_X5_isOutside kn_X5_isOutside rfl dX5_feed_4 cl_X5_68 ⟨Nat.le_of_ble_eq_true rfl, Nat.le_of_ble_eq_true rfl⟩ (Nat.le_refl _) rfl (Nat.le_of_ble_eq_true rfl) ?_
  refine t_ifb_eq C 13 (by decide) dX5_feed_7 (fun c7 => ?_) (fun c7 => ?_)
  · first
    | (exfalso; omega)
    |  (refine r_aload_n C rfl rfl dX5_feed_13 ?_
        refine r_getO C dX5_feed_14 fl_X5_25 rfl rfl (q_lt hs (by decide)) (sh_0_2 hs) ?_
        refine r_lload_n C rfl dX5_feed_17 ?_
        refine r_iload_n C rfl dX5_feed_18 ?_
        refine r_callV C (sp_apN G hs hz z3 _ _ hx hn1 hl) kv_X3_append kn_X3_append rfl dX5_feed_19 cl_X5_180 ⟨Nat.le_of_ble_eq_true rfl, Nat.le_of_ble_eq_true rfl⟩ (by decide) rfl rfl (q_lt hs (by decide)) (Nat.le_refl _) rfl (Nat.le_of_ble_eq_true rfl) ?_
        exact r_iret C dX5_feed_22 rfl (Nat.le_refl _) rfl rfl)
  · first
    | (exfalso; omega)
    |  (refine r_ldc C _ lc_X5_72 dX5_feed_10 ?_
        exact r_iret C dX5_feed_12 rfl (Nat.le_refl _) rfl rfl)

set_option maxHeartbeats 4000000 in
set_option maxRecDepth 100000 in
theorem c_feedB (G : oG) {h : oH} (hs : oSh h) (w : Int64) (x : Int32) (hx : ¬ (1 ≤ x.toInt ∧ x.toInt ≤ 8)) : oSp G mX5_feed [.ref 0, .long w, .int x] h (some (.int (-1000001))) h := by
  refine oSp.intro [some (.ref 0), some (.long w), none, some (.int x)] rfl (Nat.le_of_ble_eq_true rfl) (plainFor_of_name (by decide +kernel)) (Nat.le_refl _) ?_
  intro p l e R s m args below meth c C
  refine r_iload_n C rfl dX5_feed_0 ?_
  refine r_iconstv C 1 rfl dX5_feed_1 ?_
  refine r_bipush C 8 rfl dX5_feed_2 ?_
  refine r_callS C (sp_isOutside G rfl (show (1 : Int32).toInt = 1 from rfl) (show (8 : Int32).toInt = 8 from rfl)) ks_X5_isOutside kn_X5_isOutside rfl dX5_feed_4 cl_X5_68 ⟨Nat.le_of_ble_eq_true rfl, Nat.le_of_ble_eq_true rfl⟩ (Nat.le_refl _) rfl (Nat.le_of_ble_eq_true rfl) ?_
  refine t_ifb_eq C 13 (by decide) dX5_feed_7 (fun c7 => ?_) (fun c7 => ?_)
  · first
    | (exfalso; omega)
    |  (refine r_aload_n C rfl rfl dX5_feed_13 ?_
        refine r_getO C dX5_feed_14 fl_X5_25 rfl rfl (q_lt hs (by decide)) (sh_0_2 hs) ?_
        refine r_lload_n C rfl dX5_feed_17 ?_
        refine r_iload_n C rfl dX5_feed_18 ?_
        refine r_callV C (absurd trivial hx) kv_X3_append kn_X3_append rfl dX5_feed_19 cl_X5_180 ⟨Nat.le_of_ble_eq_true rfl, Nat.le_of_ble_eq_true rfl⟩ (by decide) rfl rfl (q_lt hs (by decide)) (Nat.le_refl _) rfl (Nat.le_of_ble_eq_true rfl) ?_
        exact r_iret C dX5_feed_22 rfl (Nat.le_refl _) rfl rfl)
  · first
    | (exfalso; omega)
    |  (refine r_ldc C _ lc_X5_72 dX5_feed_10 ?_
        exact r_iret C dX5_feed_12 rfl (Nat.le_refl _) rfl rfl)

set_option maxHeartbeats 4000000 in
set_option maxRecDepth 100000 in
theorem m_feed (G : oG) {h : oH} (hs : oSh h) {z : Nat} (hz : (hI h 12 29).toInt = (z : Int)) (z3 : z ≤ 300) (w : Int64) (x : Int32) {nn : Nat} (hx : x.toInt = (nn : Int)) (hn1 : nn ≤ 8) (h8 : 1 ≤ nn) (hl : z + nn ≤ 300) : oSp G mX6_feed [.ref 12, .long w, .int x] h (some (.int (hI (fdM (sI h 12 0 0) w z nn nn) 12 29))) (fdM (sI h 12 0 0) w z nn nn) := by
  refine oSp.intro [some (.ref 12), some (.long w), none, some (.int x), none] rfl (Nat.le_of_ble_eq_true rfl) (plainFor_of_name (by decide +kernel)) (by rw [fdM_n]; exact Nat.le_refl _) ?_
  intro p l e R s m args below meth c C
  refine r_aload_n C rfl rfl dX6_feed_0 ?_
  refine r_iconstv C 0 rfl dX6_feed_1 ?_
  refine r_putI C dX6_feed_2 fl_X6_90 rfl (q_lt hs (by decide)) (Or.inl rfl) ?_
  refine r_iload_n C rfl dX6_feed_5 ?_
  refine r_i2l C dX6_feed_6 ?_
  refine r_lconst C 1 rfl dX6_feed_7 ?_
  refine r_ldc2 C _ ll_X6_199 dX6_feed_8 ?_
  refine r_callS C (sp_in G (tI2L hx) (show (1 : Int64).toInt = 1 from rfl) (show (8 : Int64).toInt = 8 from rfl)) ks_X6_in kn_X6_in rfl dX6_feed_11 cl_X6_96 ⟨Nat.le_of_ble_eq_true rfl, Nat.le_of_ble_eq_true rfl⟩ (by rw [fdM_n]; exact Nat.le_refl _) rfl (Nat.le_of_ble_eq_true rfl) ?_
  refine t_ifb_ne C 20 (by decide) dX6_feed_14 (fun c14 => ?_) (fun c14 => ?_)
  · first
    | (exfalso; omega)
    |  (refine r_aload_n C rfl rfl dX6_feed_20 ?_
        refine r_getI C dX6_feed_21 fl_X6_201 rfl (q_lt hs (by decide)) ?_
        refine r_iload_n C rfl dX6_feed_24 ?_
        refine r_iadd C dX6_feed_25 ?_
        refine r_sipush C 300 rfl dX6_feed_26 ?_
        refine t_icmp_le C 35 (by decide) (tA hz hx (by omega)) (show (300 : Int32).toInt = 300 from rfl) dX6_feed_29 (fun c29 => ?_) (fun c29 => ?_)
        · first
          | (exfalso; omega)
          |  (refine r_iload_n C rfl dX6_feed_35 ?_
              refine r_iconstv C 1 rfl dX6_feed_36 ?_
              refine r_isub C dX6_feed_37 ?_
              refine r_istore C rfl (Nat.le_of_ble_eq_true rfl) dX6_feed_38 ?_
              exact lp_fdM G (h := sI h 12 0 0) (by exact hs) (by exact hz) hl hn1 C (by rw [fdM_n]; exact Nat.le_refl _) nn 0 _ (by omega) (tS hx (show (1 : Int32).toInt = 1 from rfl) (by omega)))
        · first
          | (exfalso; omega)
          |  (refine r_ldc C _ lc_X6_107 dX6_feed_32 ?_
              exact r_iret C dX6_feed_34 rfl (Nat.le_refl _) rfl rfl))
  · first
    | (exfalso; omega)
    |  (refine r_ldc C _ lc_X6_106 dX6_feed_17 ?_
        exact r_iret C dX6_feed_19 rfl (Nat.le_refl _) rfl rfl)

set_option maxHeartbeats 4000000 in
set_option maxRecDepth 100000 in
theorem m_feedF (G : oG) {h : oH} (hs : oSh h) {z : Nat} (hz : (hI h 12 29).toInt = (z : Int)) (z3 : z ≤ 300) (w : Int64) (x : Int32) {nn : Nat} (hx : x.toInt = (nn : Int)) (hn1 : nn ≤ 8) (h8 : 1 ≤ nn) (hl : ¬ z + nn ≤ 300) : oSp G mX6_feed [.ref 12, .long w, .int x] h (some (.int (-1000003))) (sI h 12 0 0) := by
  refine oSp.intro [some (.ref 12), some (.long w), none, some (.int x), none] rfl (Nat.le_of_ble_eq_true rfl) (plainFor_of_name (by decide +kernel)) (Nat.le_refl _) ?_
  intro p l e R s m args below meth c C
  refine r_aload_n C rfl rfl dX6_feed_0 ?_
  refine r_iconstv C 0 rfl dX6_feed_1 ?_
  refine r_putI C dX6_feed_2 fl_X6_90 rfl (q_lt hs (by decide)) (Or.inl rfl) ?_
  refine r_iload_n C rfl dX6_feed_5 ?_
  refine r_i2l C dX6_feed_6 ?_
  refine r_lconst C 1 rfl dX6_feed_7 ?_
  refine r_ldc2 C _ ll_X6_199 dX6_feed_8 ?_
  refine r_callS C (sp_in G (tI2L hx) (show (1 : Int64).toInt = 1 from rfl) (show (8 : Int64).toInt = 8 from rfl)) ks_X6_in kn_X6_in rfl dX6_feed_11 cl_X6_96 ⟨Nat.le_of_ble_eq_true rfl, Nat.le_of_ble_eq_true rfl⟩ (Nat.le_refl _) rfl (Nat.le_of_ble_eq_true rfl) ?_
  refine t_ifb_ne C 20 (by decide) dX6_feed_14 (fun c14 => ?_) (fun c14 => ?_)
  · first
    | (exfalso; omega)
    |  (refine r_aload_n C rfl rfl dX6_feed_20 ?_
        refine r_getI C dX6_feed_21 fl_X6_201 rfl (q_lt hs (by decide)) ?_
        refine r_iload_n C rfl dX6_feed_24 ?_
        refine r_iadd C dX6_feed_25 ?_
        refine r_sipush C 300 rfl dX6_feed_26 ?_
        refine t_icmp_le C 35 (by decide) (tA hz hx (by omega)) (show (300 : Int32).toInt = 300 from rfl) dX6_feed_29 (fun c29 => ?_) (fun c29 => ?_)
        · first
          | (exfalso; omega)
          |  (refine r_iload_n C rfl dX6_feed_35 ?_
              refine r_iconstv C 1 rfl dX6_feed_36 ?_
              refine r_isub C dX6_feed_37 ?_
              refine r_istore C rfl (Nat.le_of_ble_eq_true rfl) dX6_feed_38 ?_
              (exfalso; omega))
        · first
          | (exfalso; omega)
          |  (refine r_ldc C _ lc_X6_107 dX6_feed_32 ?_
              exact r_iret C dX6_feed_34 rfl (Nat.le_refl _) rfl rfl))
  · first
    | (exfalso; omega)
    |  (refine r_ldc C _ lc_X6_106 dX6_feed_17 ?_
        exact r_iret C dX6_feed_19 rfl (Nat.le_refl _) rfl rfl)

set_option maxHeartbeats 4000000 in
set_option maxRecDepth 100000 in
theorem m_feedB (G : oG) {h : oH} (hs : oSh h) (w : Int64) (x : Int32) (hx : ¬ (1 ≤ x.toInt ∧ x.toInt ≤ 8)) : oSp G mX6_feed [.ref 12, .long w, .int x] h (some (.int (-1000001))) (sI h 12 0 0) := by
  refine oSp.intro [some (.ref 12), some (.long w), none, some (.int x), none] rfl (Nat.le_of_ble_eq_true rfl) (plainFor_of_name (by decide +kernel)) (Nat.le_refl _) ?_
  intro p l e R s m args below meth c C
  refine r_aload_n C rfl rfl dX6_feed_0 ?_
  refine r_iconstv C 0 rfl dX6_feed_1 ?_
  refine r_putI C dX6_feed_2 fl_X6_90 rfl (q_lt hs (by decide)) (Or.inl rfl) ?_
  refine r_iload_n C rfl dX6_feed_5 ?_
  refine r_i2l C dX6_feed_6 ?_
  refine r_lconst C 1 rfl dX6_feed_7 ?_
  refine r_ldc2 C _ ll_X6_199 dX6_feed_8 ?_
  refine r_callS C (sp_in G (tI2L rfl) (show (1 : Int64).toInt = 1 from rfl) (show (8 : Int64).toInt = 8 from rfl)) ks_X6_in kn_X6_in rfl dX6_feed_11 cl_X6_96 ⟨Nat.le_of_ble_eq_true rfl, Nat.le_of_ble_eq_true rfl⟩ (Nat.le_refl _) rfl (Nat.le_of_ble_eq_true rfl) ?_
  refine t_ifb_ne C 20 (by decide) dX6_feed_14 (fun c14 => ?_) (fun c14 => ?_)
  · first
    | (exfalso; omega)
    |  (refine r_aload_n C rfl rfl dX6_feed_20 ?_
        refine r_getI C dX6_feed_21 fl_X6_201 rfl (q_lt hs (by decide)) ?_
        refine r_iload_n C rfl dX6_feed_24 ?_
        refine r_iadd C dX6_feed_25 ?_
        refine r_sipush C 300 rfl dX6_feed_26 ?_
        refine t_icmp_le C 35 (by decide) rfl (show (300 : Int32).toInt = 300 from rfl) dX6_feed_29 (fun c29 => ?_) (fun c29 => ?_)
        · first
          | (exfalso; omega)
          |  (refine r_iload_n C rfl dX6_feed_35 ?_
              refine r_iconstv C 1 rfl dX6_feed_36 ?_
              refine r_isub C dX6_feed_37 ?_
              refine r_istore C rfl (Nat.le_of_ble_eq_true rfl) dX6_feed_38 ?_
              (exfalso; omega))
        · first
          | (exfalso; omega)
          |  (refine r_ldc C _ lc_X6_107 dX6_feed_32 ?_
              exact r_iret C dX6_feed_34 rfl (Nat.le_refl _) rfl rfl))
  · first
    | (exfalso; omega)
    |  (refine r_ldc C _ lc_X6_106 dX6_feed_17 ?_
        exact r_iret C dX6_feed_19 rfl (Nat.le_refl _) rfl rfl)

/-- the texts have changed, nothing else -/
theorem Inv.txx {h h' : oH} {n T : Nat} (I : Inv h n T) (en : h'.1 = h.1) (er : ∀ a k, hR h' a k = hR h a k) (ej : ∀ a k, hJ h' a k = hJ h a k) (e : ∀ a k, ¬ (a = 8 ∨ a = 9 ∨ a = 29) → ¬ (a = 12 ∧ (k = 0 ∨ 28 < k ∧ k < 44)) → hI h' a k = hI h a k) (tx : oTx h') : Inv h' n T := by
  obtain ⟨i1, i2, i3, i4, i5, i6, i7, i8⟩ := I
  have s3 : oSc h' T := by
    unfold oSc at i3 ⊢
    simp only [ej, e 0 5 (by decide) (by decide), e 0 6 (by decide) (by decide), e 0 7 (by decide) (by decide), e 0 8 (by decide) (by decide), e 0 9 (by decide) (by decide), e 0 10 (by decide) (by decide), e 12 16 (by decide) (by decide), e 12 17 (by decide) (by decide), e 12 18 (by decide) (by decide), e 12 19 (by decide) (by decide), e 12 20 (by decide) (by decide), e 12 21 (by decide) (by decide)]
    exact i3
  refine ⟨i1.fr en er, ⟨by rw [e 0 4 (by decide) (by decide)]; exact i2.1, by rw [e 12 1 (by decide) (by decide)]; exact i2.2⟩, s3, fun i hi => ⟨(i4 i hi).1.fr (fun a k ha => e a k ?_ ?_), (i4 i hi).2.fr (fun a k ha => e a k ?_ ?_)⟩, tx, i6.fr (fun a k ha => e a k ?_ ?_) (e 12 44 (by decide) (by decide)), i7.fr (Nat.le_refl _) (fun j _ => e 13 j ?_ ?_) (fun j _ => e 14 j ?_ ?_) (fun a k ha => e a k ?_ ?_), i8.fr (Nat.le_refl _) (fun a k ha hb hc => e a k ?_ ?_)⟩ <;> (try unfold hid pid at ha) <;> omega
set_option maxHeartbeats 4000000 in
set_option maxRecDepth 100000 in
theorem case_feed (G : oG) {h : oH} {n T : Nat} (I : Inv h n T) (w : Int64) (x : Int32) : Case G mX5_feed mX6_feed [.long w, .int x] h n T := by
  have hs := I.1.1
  obtain ⟨t0, z, z3, hz1, hz2, hb⟩ := I.2.2.2.2.1
  by_cases hx : 1 ≤ x.toInt ∧ x.toInt ≤ 8
  · obtain ⟨nn, hxn, hn1, hn8⟩ : ∃ nn : Nat, x.toInt = (nn : Int) ∧ 1 ≤ nn ∧ nn ≤ 8 := ⟨x.toInt.toNat, by omega, by omega, by omega⟩
    by_cases hl : z + nn ≤ 300
    · have o1 : ∀ a y, a ≠ 8 → a ≠ 9 → hI (fdC h w z nn nn) a y = hI h a y := fun a y c1 c2 => fdC_o (by omega) (by omega) nn
      have hs1 : oSh (fdC h w z nn nn) := fdC_s hs
      have hc1 := fdC_1 (w := w) (nn := nn) hz1 z3 nn (by omega)
      have hm1 := fdM_1 (h := sI (fdC h w z nn nn) 12 0 0) (w := w) (nn := nn) (z := z) (by rw [sI_ne (by omega), o1 12 29 (by decide) (by decide)]; exact hz2) z3 nn (by omega)
      refine ⟨_, _, _, n, c_feed G hs hz1 z3 w x hxn hn8 hn1 hl, (m_feed G hs1 (z := z) (by rw [o1 12 29 (by decide) (by decide)]; exact hz2) z3 w x hxn hn8 hn1 hl).ri (Int32.toInt_inj.mp (hc1.trans hm1.symm)), (I.txx (h' := fdM (sI (fdC h w z nn nn) 12 0 0) w z nn nn) (by rw [fdM_n]; exact fdC_n nn) (fun a k => (fdM_R nn).trans (fdC_R nn)) (fun a k => (fdM_J nn).trans (fdC_J nn)) (fun a k c1 c2 => ?_) ?_).mono (Nat.le_succ T)⟩
      · rw [fdM_o (by omega) (by omega), sI_ne (by omega)]
        exact o1 a k (by omega) (by omega)
      · have p : ∀ a y, ¬ (a = 29 ∧ z ≤ y) → ¬ (a = 12 ∧ (y = 29 ∨ y = 0)) → hI (fdM (sI (fdC h w z nn nn) 12 0 0) w z nn nn) a y = hI (fdC h w z nn nn) a y := fun a y c1 c2 => by rw [fdM_o c1 (by omega), sI_ne (by omega)]
        refine ⟨?_, z + nn, hl, ?_, hm1, fun j hj => ?_⟩
        · rw [p 8 2 (by omega) (by omega), p 12 30 (by omega) (by omega), fdC_o (by omega) (by omega), fdC_o (by omega) (by omega)]
          exact t0
        · rw [p 8 1 (by omega) (by omega)]
          exact hc1
        · rcases Nat.lt_or_ge j z with q | q
          · rw [p 29 j (by omega) (by omega), p 9 j (by omega) (by omega), fdC_o (by omega) (by omega), fdC_o (by omega) (by omega)]
            exact hb j q
          · have ej : j = z + (j - z) := by omega
            rw [ej, fdM_9 nn (by omega), p 9 _ (by omega) (by omega), fdC_9 nn (by omega)]
            have b := byte_e (fSh w (nn - 1 - (j - z)))
            exact ⟨b.2, b.1⟩
    · exact case_same G I (c_feedF G hs hz1 z3 w x hxn hn8 hn1 hl) (m_feedF G hs hz2 z3 w x hxn hn8 hn1 hl) rfl
  · exact case_bad G I (c_feedB G hs w x hx) (m_feedB G hs w x hx)

