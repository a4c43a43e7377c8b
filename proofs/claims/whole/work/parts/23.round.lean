/-! rounding, on both sides -/
theorem xneg {x n : Int32} (hn : 0 ≤ n.toInt) : (x ^^^ n).toInt < 0 ↔ x.toInt < 0 := by
  have e : ∀ y : Int32, y.toInt < 0 ↔ y.toBitVec.msb = true := fun y => by
    rw [BitVec.msb_eq_toInt, decide_eq_true_iff]
    rfl
  rw [e, e, Int32.toBitVec_xor, BitVec.msb_xor]
  have hm : n.toBitVec.msb = false := by
    cases q : n.toBitVec.msb with
    | false => rfl
    | true => exact absurd ((e n).mpr q) (by omega)
  rw [hm, Bool.xor_false]
theorem ceil_eq {v n : Int} (hn : 0 < n) : (v + n - 1) / n = if v / n * n = v then v / n else v / n + 1 := by
  have h1 := Int.emod_add_mul_ediv v n
  have h2 := Int.emod_nonneg v (Int.ne_of_gt hn)
  have h3 := Int.emod_lt_of_pos v hn
  rw [Int.mul_comm] at h1
  have h4 : v + n - 1 = (v % n + n - 1) + v / n * n := by omega
  rw [h4, Int.add_mul_ediv_right _ _ (Int.ne_of_gt hn)]
  split
  · have h5 : v % n = 0 := by omega
    rw [h5, Int.ediv_eq_zero_of_lt (by omega) (by omega), Int.zero_add]
  · have h5 : v % n + n - 1 = (v % n - 1) + 1 * n := by omega
    rw [h5, Int.add_mul_ediv_right _ _ (Int.ne_of_gt hn), Int.ediv_eq_zero_of_lt (by omega) (by omega)]
    omega
theorem neg_t {v : Int32} (h : -2147483648 < v.toInt) : (-v).toInt = -v.toInt := by
  have t := tB v
  rw [Int32.toInt_neg]
  exact Int.bmod_eq_of_le (by omega) (by omega)
theorem div_t {v n : Int32} (hn : 0 < n.toInt) : (v / n).toInt = v.toInt.tdiv n.toInt := by
  have t := tB v
  rw [Int32.toInt_div]
  rcases Int.le_total 0 v.toInt with q | q
  · rw [Int.tdiv_eq_ediv_of_nonneg q]
    have q1 := Int.ediv_nonneg q (Int.le_of_lt hn)
    have q2 := Int.ediv_le_self n.toInt q
    exact Int.bmod_eq_of_le (by omega) (by omega)
  · have q0 : 0 ≤ -v.toInt := by omega
    have e : v.toInt.tdiv n.toInt = -((-v.toInt) / n.toInt) := by
      rw [← Int.tdiv_eq_ediv_of_nonneg q0, Int.neg_tdiv, Int.neg_neg]
    rw [e]
    have q1 := Int.ediv_nonneg q0 (Int.le_of_lt hn)
    have q2 := Int.ediv_le_self n.toInt q0
    exact Int.bmod_eq_of_le (by omega) (by omega)
theorem rup_eq {v n : Int32} (hn : 0 < n.toInt) (h0 : 0 < v.toInt) (h1 : v.toInt ≤ 1000000000) (h2 : n.toInt ≤ 1000000000) : rupC v n = rupM v n := by
  have e1 := neg_t (v := v) (by omega)
  have e2 : (-v / n).toInt = -(v.toInt / n.toInt) := by rw [div_t hn, e1, Int.neg_tdiv, Int.tdiv_eq_ediv_of_nonneg (by omega)]
  have q1 := Int.ediv_nonneg (Int.le_of_lt h0) (Int.le_of_lt hn)
  have q2 := Int.ediv_le_self n.toInt (Int.le_of_lt h0)
  have q3 := Int.ediv_mul_le v.toInt (Int.ne_of_gt hn)
  have q4 := Int.mul_nonneg q1 (Int.le_of_lt hn)
  have e3 := tM e2 (rfl : n.toInt = n.toInt) (by rw [Int.neg_mul]; omega)
  rw [Int.neg_mul] at e3
  have e4 : (v + n - 1).toInt = v.toInt + n.toInt - 1 := tS (tA rfl rfl (by omega)) rfl (by omega)
  have e5 : ((v + n - 1) / n).toInt = if v.toInt / n.toInt * n.toInt = v.toInt then v.toInt / n.toInt else v.toInt / n.toInt + 1 := by
    rw [div_t hn, e4, Int.tdiv_eq_ediv_of_nonneg (by omega), ceil_eq hn]
  apply Int32.toInt_inj.mp
  unfold rupC rupM fdv
  rw [if_neg (by omega), if_pos h0, e5, e1, e3]
  by_cases hc : v.toInt / n.toInt * n.toInt = v.toInt
  · rw [if_pos hc, if_neg (fun w => w.2 (by omega)), neg_t (by omega), e2]
    omega
  · have e6 := tS e2 (show (1 : Int32).toInt = 1 from rfl) (by omega)
    rw [if_neg hc, if_pos ⟨(xneg (Int.le_of_lt hn)).mpr (by omega), fun w => hc (by omega)⟩, neg_t (by omega), e6]
    omega
theorem rup_le {v n : Int32} (hn : 0 < n.toInt) (h0 : v.toInt ≤ 0) (h1 : -1000000000 ≤ v.toInt) : (rupC v n).toInt ≤ 0 := by
  have e1 := neg_t (v := v) (by omega)
  have e2 : (-v / n).toInt = -v.toInt / n.toInt := by rw [div_t hn, e1, Int.tdiv_eq_ediv_of_nonneg (by omega)]
  have q1 := Int.ediv_nonneg (show 0 ≤ -v.toInt by omega) (Int.le_of_lt hn)
  unfold rupC fdv
  rw [if_neg (by omega), if_neg (fun w => absurd ((xneg (Int.le_of_lt hn)).mp w.1) (by omega)), neg_t (by omega), e2]
  omega
theorem cut_le {v n : Int32} (hn : 0 < n.toInt) (h0 : v.toInt ≤ 0) : (cutC v n).toInt ≤ 0 := by
  have q1 := Int.ediv_nonneg (show 0 ≤ -v.toInt by omega) (Int.le_of_lt hn)
  unfold cutC
  rw [if_neg (by omega), div_t hn, show v.toInt = -(-v.toInt) by omega, Int.neg_tdiv, Int.tdiv_eq_ediv_of_nonneg (by omega)]
  omega
theorem nar_hi {a c v n : Int32} (hn : 0 < n.toInt) (ha : 0 ≤ a.toInt) (hc : a.toInt ≤ c.toInt) : mx a (mn c (cutC v n)) = mxM a (mnM c (cutM v n)) := by
  by_cases h0 : 0 < v.toInt
  · have e : cutC v n = cutM v n := by
      unfold cutC cutM
      rw [if_neg (by omega), if_pos h0]
    rw [e, mx_mxM, mn_mnM]
  · have q := cut_le (v := v) hn (by omega)
    rw [mx_mxM, mn_mnM]
    apply Int32.toInt_inj.mp
    have z0 : (0 : Int32).toInt = 0 := rfl
    unfold mxM mnM cutM
    rw [if_neg h0]
    (repeat' split) <;> omega
theorem nar_lo {a c v n : Int32} (hn : 0 < n.toInt) (hn2 : n.toInt ≤ 1000000000) (h1 : -1000000000 ≤ v.toInt) (h2 : v.toInt ≤ 1000000000) (ha : 0 ≤ a.toInt) (hc : a.toInt ≤ c.toInt) : mn c (mx a (rupC v n)) = mnM c (mxM a (rupM v n)) := by
  by_cases h0 : 0 < v.toInt
  · rw [rup_eq hn h0 h2 hn2, mx_mxM, mn_mnM]
  · have q := rup_le (v := v) hn (by omega) h1
    rw [mx_mxM, mn_mnM]
    apply Int32.toInt_inj.mp
    have z0 : (0 : Int32).toInt = 0 := rfl
    unfold mxM mnM rupM
    rw [if_neg h0]
    (repeat' split) <;> omega
theorem mxM_t (x y : Int32) : (mxM x y).toInt = max x.toInt y.toInt := by rw [← mx_mxM, mx_t]
theorem mnM_t (x y : Int32) : (mnM x y).toInt = min x.toInt y.toInt := by rw [← mn_mnM, mn_t]
