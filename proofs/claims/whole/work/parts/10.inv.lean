/-! what stands between two calls: the class and the reference hold the same -/
def oHe (h : oH) (i : Nat) : Prop := hI h (hid i) 0 = hI h 13 i ∧ hI h (hid i) 1 = hI h 14 i ∧ hI h (hid i) 2 = hI h 15 i ∧ hI h (hid i) 4 = hI h 16 (4 * i) ∧ hI h (hid i) 5 = hI h 16 (4 * i + 1) ∧ hI h (hid i) 6 = hI h 16 (4 * i + 2) ∧ hI h (hid i) 7 = hI h 16 (4 * i + 3) ∧ hI h (hid i) 8 = hI h 17 i ∧ hI h (hid i) 9 = hI h 18 i ∧ hI h (hid i) 10 = hI h 19 i ∧ hI h (hid i) 11 = hI h 20 i ∧ hI h (hid i) 12 = hI h 21 i ∧ hI h (hid i) 13 = hI h 22 i ∧ hI h (hid i) 14 = hI h 23 i ∧ hI h (pid i) 0 = hI h 24 i ∧ hI h (pid i) 1 = hI h 25 i ∧ hI h (pid i) 2 = hI h 26 i
def oHb (h : oH) (i T : Nat) : Prop := (0 ≤ (hI h 13 i).toInt ∧ (hI h 13 i).toInt ≤ 50) ∧ (0 ≤ (hI h 14 i).toInt ∧ (hI h 14 i).toInt ≤ 50) ∧ (100 ≤ (hI h 15 i).toInt ∧ (hI h 15 i).toInt ≤ 5000) ∧ (0 ≤ (hI h 16 (4 * i)).toInt ∧ (hI h 16 (4 * i)).toInt ≤ (hI h 16 (4 * i + 2)).toInt ∧ (hI h 16 (4 * i + 2)).toInt ≤ 50) ∧ (0 ≤ (hI h 16 (4 * i + 1)).toInt ∧ (hI h 16 (4 * i + 1)).toInt ≤ (hI h 16 (4 * i + 3)).toInt ∧ (hI h 16 (4 * i + 3)).toInt ≤ 50) ∧ (0 ≤ (hI h 17 i).toInt ∧ (hI h 17 i).toInt ≤ (hI h 15 i).toInt) ∧ (0 ≤ (hI h 18 i).toInt ∧ (hI h 18 i).toInt ≤ (hI h 15 i).toInt) ∧ (0 ≤ (hI h 19 i).toInt ∧ (hI h 19 i).toInt ≤ T) ∧ (0 ≤ (hI h 20 i).toInt ∧ (hI h 20 i).toInt ≤ 2) ∧ ((hI h 21 i).toInt = 0 ∨ (hI h 21 i).toInt = 1) ∧ ((hI h 20 i).toInt = 1 → (hI h 21 i).toInt = 1) ∧ (0 ≤ (hI h 22 i).toInt ∧ (hI h 22 i).toInt ≤ T) ∧ (0 ≤ (hI h 23 i).toInt ∧ (hI h 23 i).toInt ≤ 40 * (hI h 22 i).toInt) ∧ (0 ≤ (hI h 24 i).toInt ∧ (hI h 24 i).toInt ≤ 2) ∧ (0 ≤ (hI h 25 i).toInt ∧ (hI h 25 i).toInt ≤ 99999) ∧ (0 ≤ (hI h 26 i).toInt ∧ (hI h 26 i).toInt ≤ 99999) ∧ ((hI h 24 i).toInt ≠ 2 → (hI h 25 i).toInt = 0)
def oSc (h : oH) (T : Nat) : Prop := (hI h 0 5 = hI h 12 16 ∧ 0 ≤ (hI h 12 16).toInt ∧ (hI h 12 16).toInt ≤ T) ∧ (hI h 0 6 = hI h 12 17 ∧ 0 ≤ (hI h 12 17).toInt ∧ (hI h 12 17).toInt ≤ 10) ∧ (hI h 0 7 = hI h 12 18 ∧ 0 ≤ (hI h 12 18).toInt ∧ (hI h 12 18).toInt ≤ 40) ∧ (hI h 0 8 = hI h 12 20 ∧ 100 ≤ (hI h 12 20).toInt ∧ (hI h 12 20).toInt ≤ 9000) ∧ (hI h 0 9 = hI h 12 21 ∧ 0 ≤ (hI h 12 21).toInt ∧ (hI h 12 21).toInt ≤ 1000) ∧ (hI h 0 10 = hI h 12 19 ∧ 0 ≤ (hI h 12 19).toInt ∧ (hI h 12 19).toInt ≤ 100000) ∧ hJ h 0 11 = hJ h 12 22 ∧ hJ h 0 12 = hJ h 12 23 ∧ hJ h 0 13 = hJ h 12 24
/-- the tape: z bytes on it -/
def oTx (h : oH) : Prop := hI h 8 2 = hI h 12 30 ∧ ∃ z : Nat, z ≤ 300 ∧ (hI h 8 1).toInt = (z : Int) ∧ (hI h 12 29).toInt = (z : Int) ∧ ∀ j, j < z → (0 ≤ (hI h 29 j).toInt ∧ (hI h 29 j).toInt ≤ 255) ∧ hI h 9 j &&& 255 = hI h 29 j
/-- the trace -/
def oAs (h : oH) : Prop := ∃ z : Nat, z ≤ 16 ∧ (hI h 10 1).toInt = (z : Int) ∧ (hI h 12 44).toInt = (z : Int) ∧ ∀ j, j < z → hI h 11 j = hI h 34 j
def oCnt (h : oH) (n : Nat) : Prop := (hI h 0 4).toInt = (n : Int) ∧ (hI h 12 1).toInt = (n : Int)
theorem oHe.fr {h h' : oH} {i : Nat} (q : oHe h i) (e : ∀ a k, (a = hid i ∨ a = pid i ∨ (13 ≤ a ∧ a ≤ 26)) → hI h' a k = hI h a k) : oHe h' i := by
  unfold oHe at q ⊢
  have e1 : ∀ k, hI h' (hid i) k = hI h (hid i) k := fun k => e _ k (Or.inl rfl)
  have e2 : ∀ k, hI h' (pid i) k = hI h (pid i) k := fun k => e _ k (Or.inr (Or.inl rfl))
  have e3 : ∀ a, 13 ≤ a → a ≤ 26 → ∀ k, hI h' a k = hI h a k := fun a l1 l2 k => e a k (Or.inr (Or.inr ⟨l1, l2⟩))
  simp only [e1, e2, e3 13 (by decide) (by decide), e3 14 (by decide) (by decide), e3 15 (by decide) (by decide), e3 16 (by decide) (by decide), e3 17 (by decide) (by decide), e3 18 (by decide) (by decide), e3 19 (by decide) (by decide), e3 20 (by decide) (by decide), e3 21 (by decide) (by decide), e3 22 (by decide) (by decide), e3 23 (by decide) (by decide), e3 24 (by decide) (by decide), e3 25 (by decide) (by decide), e3 26 (by decide) (by decide)]
  exact q
theorem oHb.fr {h h' : oH} {i T : Nat} (q : oHb h i T) (e : ∀ a k, (13 ≤ a ∧ a ≤ 26) → hI h' a k = hI h a k) : oHb h' i T := by
  unfold oHb at q ⊢
  have e3 : ∀ a, 13 ≤ a → a ≤ 26 → ∀ k, hI h' a k = hI h a k := fun a l1 l2 k => e a k ⟨l1, l2⟩
  simp only [e3 13 (by decide) (by decide), e3 14 (by decide) (by decide), e3 15 (by decide) (by decide), e3 16 (by decide) (by decide), e3 17 (by decide) (by decide), e3 18 (by decide) (by decide), e3 19 (by decide) (by decide), e3 20 (by decide) (by decide), e3 21 (by decide) (by decide), e3 22 (by decide) (by decide), e3 23 (by decide) (by decide), e3 24 (by decide) (by decide), e3 25 (by decide) (by decide), e3 26 (by decide) (by decide)]
  exact q
theorem oHb.mono {h : oH} {i T T' : Nat} (q : oHb h i T) (hT : T ≤ T') : oHb h i T' := by
  unfold oHb at q ⊢
  obtain ⟨q1, q2, q3, q4, q5, q6, q7, q8, q9, q10, q11, q12, q13⟩ := q
  exact ⟨q1, q2, q3, q4, q5, q6, q7, ⟨q8.1, by omega⟩, q9, q10, q11, ⟨q12.1, by omega⟩, q13⟩
theorem oSc.mono {h : oH} {T T' : Nat} (q : oSc h T) (hT : T ≤ T') : oSc h T' := by
  unfold oSc at q ⊢
  obtain ⟨q1, q2⟩ := q
  exact ⟨⟨q1.1, q1.2.1, by omega⟩, q2⟩
