theorem rr_n (h : oH) (q x : Int32) : (rc (rb (ra h q) q) x).1 = h.1 ∧ (∀ a k, hR (rc (rb (ra h q) q) x) a k = hR h a k) := by
  unfold rc rb ra
  refine ⟨?_, fun a k => ?_⟩
  · rw [n_sJ, n_sJ, n_sI]
  · rw [hR_sJ, hR_sJ, hR_sI]
theorem rr_I (h : oH) (q x : Int32) {a k : Nat} (z : ¬ (a = 12 ∧ k = 19)) : hI (rc (rb (ra h q) q) x) a k = hI h a k := by
  unfold rc rb ra
  rw [hI_sJ, hI_sJ, zne z]
theorem rr_19 (h : oH) (q x : Int32) : hI (rc (rb (ra h q) q) x) 12 19 = hI h 12 19 - q := by
  unfold rc rb ra
  rw [hI_sJ, hI_sJ, zeq ⟨rfl, rfl⟩]
theorem rr_J (h : oH) (q x : Int32) {a k : Nat} (z : ¬ (a = 12 ∧ (k = 23 ∨ k = 24))) : hJ (rc (rb (ra h q) q) x) a k = hJ h a k := by
  unfold rc rb ra
  rw [jne (by omega), jne (by omega), hJ_sI]
theorem rr_23 (h : oH) (q x : Int32) : hJ (rc (rb (ra h q) q) x) 12 23 = hJ h 12 23 + q.toInt64 := by
  unfold rc
  rw [jne (by omega)]
  unfold rb ra
  rw [jeq ⟨rfl, rfl⟩, hJ_sI]
theorem rr_24 (h : oH) (q x : Int32) : hJ (rc (rb (ra h q) q) x) 12 24 = hJ h 12 24 + x.toInt64 := by
  unfold rc
  rw [jeq ⟨rfl, rfl⟩]
  unfold rb ra
  rw [jne (by omega), hJ_sI]
