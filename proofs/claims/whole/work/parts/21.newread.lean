theorem hI_al (h : oH) (x y : Nat) : hI (hAl h) x y = if x = h.1 then 0 else hI h x y := rfl
theorem hJ_al (h : oH) (x y : Nat) : hJ (hAl h) x y = if x = h.1 then 0 else hJ h x y := rfl
theorem hR_al (h : oH) (x y : Nat) : hR (hAl h) x y = if x = h.1 then none else hR h x y := rfl
theorem n_al (h : oH) : (hAl h).1 = h.1 + 1 := rfl
theorem zne {h : oH} {a k x y : Nat} {v : Int32} (q : ¬ (x = a ∧ y = k)) : hI (sI h a k v) x y = hI h x y := if_neg q
theorem zeq {h : oH} {a k x y : Nat} {v : Int32} (q : x = a ∧ y = k) : hI (sI h a k v) x y = v := if_pos q
theorem zrn {h : oH} {a k x y : Nat} {v : Option Nat} (q : ¬ (x = a ∧ y = k)) : hR (sR h a k v) x y = hR h x y := if_neg q
theorem zre {h : oH} {a k x y : Nat} {v : Option Nat} (q : x = a ∧ y = k) : hR (sR h a k v) x y = v := if_pos q
theorem zai {h : oH} {x y : Nat} (q : ¬ x = h.1) : hI (hAl h) x y = hI h x y := if_neg q
theorem zaj {h : oH} {x y : Nat} (q : ¬ x = h.1) : hJ (hAl h) x y = hJ h x y := if_neg q
theorem zar {h : oH} {x y : Nat} (q : ¬ x = h.1) : hR (hAl h) x y = hR h x y := if_neg q
theorem pl_I {h : oH} {a x k : Nat} (q : x ≠ a) : hI (plH h a) x k = hI h x k := by
  unfold plH
  rw [zne (fun w => q w.1), zne (fun w => q w.1), zne (fun w => q w.1)]
theorem pl_P {h : oH} {a : Nat} : hI (plH h a) a 0 = 0 ∧ hI (plH h a) a 1 = 0 ∧ hI (plH h a) a 2 = 0 := by
  unfold plH
  refine ⟨?_, ?_, ?_⟩
  · rw [zne (by omega), zne (by omega), zeq ⟨rfl, rfl⟩]
  · rw [zne (by omega), zeq ⟨rfl, rfl⟩]
  · rw [zeq ⟨rfl, rfl⟩]
theorem hw_I {h : oH} {a i k : Nat} {x y z : Int32} (q : i ≠ a) (q1 : i ≠ h.1) : hI (hoH h a x y z) i k = hI (plH (hAl h) h.1) i k := by
  unfold hoH
  rw [zne (fun w => q w.1), zne (fun w => q w.1), zne (fun w => q w.1), zne (fun w => q w.1), zne (fun w => q w.1), zne (fun w => q w.1), zne (fun w => q w.1), zne (fun w => q w.1), zne (fun w => q w.1), zne (fun w => q w.1), zne (fun w => q w.1), zne (fun w => q w.1), zne (fun w => q w.1), zne (fun w => q w.1), hI_sR]
theorem hw_P {h : oH} {a i k : Nat} {x y z : Int32} (q : i ≠ a) : hI (hoH h a x y z) i k = hI (plH (hAl h) h.1) i k := by
  unfold hoH
  rw [zne (fun w => q w.1), zne (fun w => q w.1), zne (fun w => q w.1), zne (fun w => q w.1), zne (fun w => q w.1), zne (fun w => q w.1), zne (fun w => q w.1), zne (fun w => q w.1), zne (fun w => q w.1), zne (fun w => q w.1), zne (fun w => q w.1), zne (fun w => q w.1), zne (fun w => q w.1), zne (fun w => q w.1), hI_sR]
theorem hw_H {h : oH} {a : Nat} {x y z : Int32} : hI (hoH h a x y z) a 4 = 0 ∧ hI (hoH h a x y z) a 5 = 0 ∧ hI (hoH h a x y z) a 6 = 50 ∧ hI (hoH h a x y z) a 7 = 50 ∧ hI (hoH h a x y z) a 10 = 0 ∧ hI (hoH h a x y z) a 11 = 0 ∧ hI (hoH h a x y z) a 12 = 0 ∧ hI (hoH h a x y z) a 13 = 0 ∧ hI (hoH h a x y z) a 14 = 0 ∧ hI (hoH h a x y z) a 0 = x ∧ hI (hoH h a x y z) a 1 = y ∧ hI (hoH h a x y z) a 2 = z ∧ hI (hoH h a x y z) a 8 = z ∧ hI (hoH h a x y z) a 9 = z := by
  unfold hoH
  refine ⟨?_, ?_, ?_, ?_, ?_, ?_, ?_, ?_, ?_, ?_, ?_, ?_, ?_, ?_⟩
  · rw [zne (by omega), zne (by omega), zne (by omega), zne (by omega), zne (by omega), zne (by omega), zne (by omega), zne (by omega), zne (by omega), zne (by omega), zne (by omega), zne (by omega), zne (by omega), zeq ⟨rfl, rfl⟩]
  · rw [zne (by omega), zne (by omega), zne (by omega), zne (by omega), zne (by omega), zne (by omega), zne (by omega), zne (by omega), zne (by omega), zne (by omega), zne (by omega), zne (by omega), zeq ⟨rfl, rfl⟩]
  · rw [zne (by omega), zne (by omega), zne (by omega), zne (by omega), zne (by omega), zne (by omega), zne (by omega), zne (by omega), zne (by omega), zne (by omega), zne (by omega), zeq ⟨rfl, rfl⟩]
  · rw [zne (by omega), zne (by omega), zne (by omega), zne (by omega), zne (by omega), zne (by omega), zne (by omega), zne (by omega), zne (by omega), zne (by omega), zeq ⟨rfl, rfl⟩]
  · rw [zne (by omega), zne (by omega), zne (by omega), zne (by omega), zne (by omega), zne (by omega), zne (by omega), zne (by omega), zne (by omega), zeq ⟨rfl, rfl⟩]
  · rw [zne (by omega), zne (by omega), zne (by omega), zne (by omega), zne (by omega), zne (by omega), zne (by omega), zne (by omega), zeq ⟨rfl, rfl⟩]
  · rw [zne (by omega), zne (by omega), zne (by omega), zne (by omega), zne (by omega), zne (by omega), zne (by omega), zeq ⟨rfl, rfl⟩]
  · rw [zne (by omega), zne (by omega), zne (by omega), zne (by omega), zne (by omega), zne (by omega), zeq ⟨rfl, rfl⟩]
  · rw [zne (by omega), zne (by omega), zne (by omega), zne (by omega), zne (by omega), zeq ⟨rfl, rfl⟩]
  · rw [zne (by omega), zne (by omega), zne (by omega), zne (by omega), zeq ⟨rfl, rfl⟩]
  · rw [zne (by omega), zne (by omega), zne (by omega), zeq ⟨rfl, rfl⟩]
  · rw [zne (by omega), zne (by omega), zeq ⟨rfl, rfl⟩]
  · rw [zne (by omega), zeq ⟨rfl, rfl⟩]
  · rw [zeq ⟨rfl, rfl⟩]

theorem hw_R {h : oH} {a i k : Nat} {x y z : Int32} (q : i ≠ a) (q1 : i ≠ h.1) : hR (hoH h a x y z) i k = hR h i k := by
  unfold hoH plH
  simp only [hR_sI]
  rw [zrn (fun w => q w.1)]
  simp only [hR_sI]
  exact zar q1
theorem hw_R3 {h : oH} {a : Nat} {x y z : Int32} : hR (hoH h a x y z) a 3 = some h.1 := by
  unfold hoH
  simp only [hR_sI]
  exact zre ⟨rfl, rfl⟩
theorem hw_J {h : oH} {a i k : Nat} {x y z : Int32} (q1 : i ≠ h.1) : hJ (hoH h a x y z) i k = hJ h i k := by
  unfold hoH plH
  simp only [hJ_sI, hJ_sR]
  exact zaj q1
theorem ho_I {h : oH} {n a k : Nat} {x y z : Int32} (l : 35 ≤ h.1) (ha : a < h.1) (h4 : ¬ (a = 0 ∧ k = 4)) : hI (ho3 h n x y z) a k = hI h a k := by
  unfold ho3 ho2
  rw [zne h4, hI_sR, hw_I (by omega) (by rw [n_al]; omega), pl_I (by rw [n_al]; omega), zai (by rw [n_al]; omega), zai (by omega)]
theorem ho_4 {h : oH} {n : Nat} {x y z : Int32} (l : 35 ≤ h.1) : hI (ho3 h n x y z) 0 4 = hI h 0 4 + 1 := by
  unfold ho3 ho2
  rw [zeq ⟨rfl, rfl⟩, hI_sR, hw_I (by omega) (by rw [n_al]; omega), pl_I (by rw [n_al]; omega), zai (by rw [n_al]; omega), zai (by omega)]
theorem ho_J {h : oH} {n a k : Nat} {x y z : Int32} (ha : a < h.1) : hJ (ho3 h n x y z) a k = hJ h a k := by
  unfold ho3 ho2
  rw [hJ_sI, hJ_sR, hw_J (by rw [n_al]; omega), zaj (by omega)]
theorem ho_R {h : oH} {n a k : Nat} {x y z : Int32} (ha : a < h.1) (h4 : ¬ (a = 1 ∧ k = n)) : hR (ho3 h n x y z) a k = hR h a k := by
  unfold ho3 ho2
  rw [hR_sI, zrn h4, hw_R (by omega) (by rw [n_al]; omega), zar (by omega)]
theorem ho_R1 {h : oH} {n : Nat} {x y z : Int32} : hR (ho3 h n x y z) 1 n = some h.1 := zre ⟨rfl, rfl⟩
theorem ho_R3 {h : oH} {n : Nat} {x y z : Int32} (l : 35 ≤ h.1) : hR (ho3 h n x y z) h.1 3 = some (h.1 + 1) := by
  unfold ho3 ho2
  rw [hR_sI, zrn (by omega), hw_R3]
  rfl
theorem ho_H {h : oH} {n : Nat} {x y z : Int32} (l : 35 ≤ h.1) : hI (ho3 h n x y z) h.1 4 = 0 ∧ hI (ho3 h n x y z) h.1 5 = 0 ∧ hI (ho3 h n x y z) h.1 6 = 50 ∧ hI (ho3 h n x y z) h.1 7 = 50 ∧ hI (ho3 h n x y z) h.1 10 = 0 ∧ hI (ho3 h n x y z) h.1 11 = 0 ∧ hI (ho3 h n x y z) h.1 12 = 0 ∧ hI (ho3 h n x y z) h.1 13 = 0 ∧ hI (ho3 h n x y z) h.1 14 = 0 ∧ hI (ho3 h n x y z) h.1 0 = x ∧ hI (ho3 h n x y z) h.1 1 = y ∧ hI (ho3 h n x y z) h.1 2 = z ∧ hI (ho3 h n x y z) h.1 8 = z ∧ hI (ho3 h n x y z) h.1 9 = z := by
  have e : ∀ k, hI (ho3 h n x y z) h.1 k = hI (hoH (hAl h) h.1 x y z) h.1 k := fun k => by
    unfold ho3 ho2
    rw [zne (by omega), hI_sR]
  simp only [e]
  exact hw_H
theorem ho_P {h : oH} {n : Nat} {x y z : Int32} (l : 35 ≤ h.1) : hI (ho3 h n x y z) (h.1 + 1) 0 = 0 ∧ hI (ho3 h n x y z) (h.1 + 1) 1 = 0 ∧ hI (ho3 h n x y z) (h.1 + 1) 2 = 0 := by
  have e : ∀ k, hI (ho3 h n x y z) (h.1 + 1) k = hI (plH (hAl (hAl h)) (hAl h).1) (h.1 + 1) k := fun k => by
    unfold ho3 ho2
    rw [zne (by omega), hI_sR, hw_P (by omega)]
  simp only [e]
  exact pl_P
theorem mo_I {h : oH} {n a k : Nat} {x y z : Int32} (f0 : ¬ (a = 12 ∧ k ≤ 1)) (f1 : ¬ ((a = 13 ∨ a = 14 ∨ a = 15 ∨ a = 17 ∨ a = 18) ∧ k = n)) (f2 : ¬ (a = 16 ∧ 4 * n ≤ k ∧ k < 4 * n + 4)) : hI (mo3 h n x y z) a k = hI h a k := by
  unfold mo3 mo2
  rw [zne (by omega), zne (by omega), zne (by omega), zne (by omega), zne (by omega), zne (by omega), zne (by omega), zne (by omega), zne (by omega), zne (by omega), zne (by omega)]
theorem mo_1 {h : oH} {n : Nat} {x y z : Int32} : hI (mo3 h n x y z) 12 1 = hI h 12 1 + 1 := by
  unfold mo3 mo2
  rw [zeq ⟨rfl, rfl⟩, zne (by omega), zne (by omega), zne (by omega), zne (by omega), zne (by omega), zne (by omega), zne (by omega), zne (by omega), zne (by omega), zne (by omega)]
theorem mo_H {h : oH} {n : Nat} {x y z : Int32} : hI (mo3 h n x y z) 13 n = x ∧ hI (mo3 h n x y z) 14 n = y ∧ hI (mo3 h n x y z) 15 n = z ∧ hI (mo3 h n x y z) 16 (4 * n) = 0 ∧ hI (mo3 h n x y z) 16 (4 * n + 1) = 0 ∧ hI (mo3 h n x y z) 16 (4 * n + 2) = 50 ∧ hI (mo3 h n x y z) 16 (4 * n + 3) = 50 ∧ hI (mo3 h n x y z) 17 n = z ∧ hI (mo3 h n x y z) 18 n = z := by
  unfold mo3 mo2
  refine ⟨?_, ?_, ?_, ?_, ?_, ?_, ?_, ?_, ?_⟩
  · rw [zne (by omega), zne (by omega), zne (by omega), zne (by omega), zne (by omega), zne (by omega), zne (by omega), zne (by omega), zne (by omega), zeq ⟨rfl, rfl⟩]
  · rw [zne (by omega), zne (by omega), zne (by omega), zne (by omega), zne (by omega), zne (by omega), zne (by omega), zne (by omega), zeq ⟨rfl, rfl⟩]
  · rw [zne (by omega), zne (by omega), zne (by omega), zne (by omega), zne (by omega), zne (by omega), zne (by omega), zeq ⟨rfl, rfl⟩]
  · rw [zne (by omega), zne (by omega), zne (by omega), zne (by omega), zne (by omega), zne (by omega), zeq ⟨rfl, rfl⟩]
  · rw [zne (by omega), zne (by omega), zne (by omega), zne (by omega), zne (by omega), zeq ⟨rfl, rfl⟩]
  · rw [zne (by omega), zne (by omega), zne (by omega), zne (by omega), zeq ⟨rfl, rfl⟩]
  · rw [zne (by omega), zne (by omega), zne (by omega), zeq ⟨rfl, rfl⟩]
  · rw [zne (by omega), zne (by omega), zeq ⟨rfl, rfl⟩]
  · rw [zne (by omega), zeq ⟨rfl, rfl⟩]

