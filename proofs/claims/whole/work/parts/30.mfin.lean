/-! a fill, the reference: what it leaves -/
def noteM (h : oH) (i : Nat) (q : Int32) : Int32 := if ¬ (q.toInt ≤ (hI h 22 i * hI h 16 (4 * i + 2) + hI h 23 i * hI h 16 (4 * i + 3)).toInt) then 1 else if (q.toInt < (hI h 22 i * hI h 16 (4 * i) + hI h 23 i * hI h 16 (4 * i + 1)).toInt) ∧ (q.toInt < (hI h 15 i).toInt) then 2 else 0
theorem k5_n (h : oH) (i : Nat) : (k5 h i).1 = h.1 ∧ (∀ x y, hR (k5 h i) x y = hR h x y) ∧ (∀ x y, hJ (k5 h i) x y = hJ h x y) := by
  unfold k5 k3 k2 k1
  refine ⟨?_, fun x y => ?_, fun x y => ?_⟩
  · rw [n_sI, n_sI, n_sI, n_sI, n_sI]
  · rw [hR_sI, hR_sI, hR_sI, hR_sI, hR_sI]
  · rw [hJ_sI, hJ_sI, hJ_sI, hJ_sI, hJ_sI]
theorem k5_f (h : oH) (i : Nat) {x k : Nat} (z : ¬ ((x = 17 ∨ x = 18 ∨ x = 19 ∨ x = 22 ∨ x = 23) ∧ k = i)) : hI (k5 h i) x k = hI h x k := by
  unfold k5 k3 k2 k1
  rw [zne (by omega), zne (by omega), zne (by omega), zne (by omega), zne (by omega)]
theorem k5_v (h : oH) (i : Nat) : hI (k5 h i) 17 i = hI h 15 i ∧ hI (k5 h i) 18 i = hI h 15 i ∧ hI (k5 h i) 19 i = hI h 19 i + 1 ∧ hI (k5 h i) 22 i = 0 ∧ hI (k5 h i) 23 i = 0 := by
  unfold k5
  refine ⟨?_, ?_, ?_, ?_, ?_⟩
  · unfold k3
    rw [zne (by omega), zne (by omega), zne (by omega)]
    unfold k2 k1
    rw [zeq ⟨rfl, rfl⟩, zne (by omega)]
  · rw [zne (by omega), zne (by omega)]
    unfold k3 k2 k1
    rw [zeq ⟨rfl, rfl⟩, zne (by omega), zne (by omega)]
  · unfold k3 k2
    rw [zne (by omega), zne (by omega), zne (by omega), zne (by omega)]
    unfold k1
    rw [zeq ⟨rfl, rfl⟩]
  · rw [zne (by omega), zeq ⟨rfl, rfl⟩]
  · rw [zeq ⟨rfl, rfl⟩]
theorem mk_n (h : oH) (i : Nat) (A B C D : Int32) : (mk4 h i A B C D).1 = h.1 ∧ (∀ x y, hR (mk4 h i A B C D) x y = hR h x y) ∧ (∀ x y, hJ (mk4 h i A B C D) x y = hJ h x y) := by
  unfold mk4
  refine ⟨?_, fun x y => ?_, fun x y => ?_⟩
  · rw [n_sI, n_sI, n_sI, n_sI]
  · rw [hR_sI, hR_sI, hR_sI, hR_sI]
  · rw [hJ_sI, hJ_sI, hJ_sI, hJ_sI]
theorem mk_f (h : oH) (i : Nat) (A B C D : Int32) {x k : Nat} (z : ¬ (x = 16 ∧ 4 * i ≤ k ∧ k ≤ 4 * i + 3)) : hI (mk4 h i A B C D) x k = hI h x k := by
  unfold mk4
  rw [zne (by omega), zne (by omega), zne (by omega), zne (by omega)]
theorem mk_v (h : oH) (i : Nat) (A B C D : Int32) : hI (mk4 h i A B C D) 16 (4 * i) = A ∧ hI (mk4 h i A B C D) 16 (4 * i + 1) = B ∧ hI (mk4 h i A B C D) 16 (4 * i + 2) = C ∧ hI (mk4 h i A B C D) 16 (4 * i + 3) = D := by
  unfold mk4
  refine ⟨?_, ?_, ?_, ?_⟩
  · rw [zne (by omega), zne (by omega), zne (by omega), zeq ⟨rfl, rfl⟩]
  · rw [zne (by omega), zne (by omega), zeq ⟨rfl, rfl⟩]
  · rw [zne (by omega), zeq ⟨rfl, rfl⟩]
  · rw [zeq ⟨rfl, rfl⟩]
/-- the narrowing, with the values -/
theorem sp_mk (G : oG) {h : oH} (hs : oSh h) (v q : Int32) {i : Nat} (hv : v.toInt = (i : Int)) (hi : i < 24) (hs0 : 0 < (hI h 22 i).toInt) : ∃ hf, oSp G mX6_makeNarrower [.ref 12, .int v, .int q] h none hf ∧ (hf.1 = h.1 ∧ (∀ x k, hR hf x k = hR h x k) ∧ (∀ x k, hJ hf x k = hJ h x k)) ∧ (∀ x k, ¬ (x = 16 ∧ 4 * i ≤ k ∧ k ≤ 4 * i + 3) → hI hf x k = hI h x k) ∧ hI hf 16 (4 * i + 2) = cN (hI h 16 (4 * i)) (hI h 16 (4 * i + 1)) (hI h 16 (4 * i + 2)) q (hI h 22 i) (hI h 23 i) ∧ hI hf 16 (4 * i + 3) = dN (hI h 16 (4 * i)) (hI h 16 (4 * i + 1)) (hI h 16 (4 * i + 3)) q (hI h 22 i) (hI h 23 i) ∧ hI hf 16 (4 * i) = aN (hI h 16 (4 * i)) (hI hf 16 (4 * i + 2)) (hI hf 16 (4 * i + 3)) q (hI h 22 i) (hI h 23 i) ∧ hI hf 16 (4 * i + 1) = bN (hI h 16 (4 * i + 1)) (hI hf 16 (4 * i + 2)) (hI hf 16 (4 * i + 3)) q (hI h 22 i) (hI h 23 i) := by
  by_cases hk : 0 < (hI h 23 i).toInt
  · have S := sp_mkA G hs v q hv hi hs0 hk
    refine ⟨_, S, mk_n h i _ _ _ _, fun x k z => mk_f h i _ _ _ _ z, ?_⟩
    obtain ⟨v1, v2, v3, v4⟩ := mk_v h i (aN (hI h 16 (4 * i)) (cN (hI h 16 (4 * i)) (hI h 16 (4 * i + 1)) (hI h 16 (4 * i + 2)) q (hI h 22 i) (hI h 23 i)) (mxM (hI h 16 (4 * i + 1)) (mnM (hI h 16 (4 * i + 3)) (cutM (q - (hI h 22 i) * (hI h 16 (4 * i))) (hI h 23 i)))) q (hI h 22 i) (hI h 23 i)) (mnM (mxM (hI h 16 (4 * i + 1)) (mnM (hI h 16 (4 * i + 3)) (cutM (q - (hI h 22 i) * (hI h 16 (4 * i))) (hI h 23 i)))) (mxM (hI h 16 (4 * i + 1)) (rupM (q - (hI h 22 i) * (cN (hI h 16 (4 * i)) (hI h 16 (4 * i + 1)) (hI h 16 (4 * i + 2)) q (hI h 22 i) (hI h 23 i))) (hI h 23 i)))) (cN (hI h 16 (4 * i)) (hI h 16 (4 * i + 1)) (hI h 16 (4 * i + 2)) q (hI h 22 i) (hI h 23 i)) (mxM (hI h 16 (4 * i + 1)) (mnM (hI h 16 (4 * i + 3)) (cutM (q - (hI h 22 i) * (hI h 16 (4 * i))) (hI h 23 i))))
    rw [v1, v2, v3, v4]
    unfold dN bN
    rw [if_pos hk, if_pos hk]
    exact ⟨rfl, rfl, rfl, rfl⟩
  · have S := sp_mkB G hs v q hv hi hs0 hk
    refine ⟨_, S, mk_n h i _ _ _ _, fun x k z => mk_f h i _ _ _ _ z, ?_⟩
    obtain ⟨v1, v2, v3, v4⟩ := mk_v h i (aN (hI h 16 (4 * i)) (cN (hI h 16 (4 * i)) (hI h 16 (4 * i + 1)) (hI h 16 (4 * i + 2)) q (hI h 22 i) (hI h 23 i)) (hI h 16 (4 * i + 3)) q (hI h 22 i) (hI h 23 i)) (hI h 16 (4 * i + 1)) (cN (hI h 16 (4 * i)) (hI h 16 (4 * i + 1)) (hI h 16 (4 * i + 2)) q (hI h 22 i) (hI h 23 i)) (hI h 16 (4 * i + 3))
    rw [v1, v2, v3, v4]
    unfold dN bN
    rw [if_neg hk, if_neg hk]
    exact ⟨rfl, rfl, rfl, rfl⟩
