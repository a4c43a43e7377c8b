theorem jne {h : oH} {a k x y : Nat} {v : Int64} (q : ¬ (x = a ∧ y = k)) : hJ (sJ h a k v) x y = hJ h x y := if_neg q
theorem jeq {h : oH} {a k x y : Nat} {v : Int64} (q : x = a ∧ y = k) : hJ (sJ h a k v) x y = v := if_pos q
theorem nwJ {h : oH} {a k : Nat} {v : Int64} : (sJ h a k v).1 = h.1 ∧ (∀ x y, hR (sJ h a k v) x y = hR h x y) ∧ (∀ x y, hI (sJ h a k v) x y = hI h x y) := ⟨rfl, fun _ _ => rfl, fun _ _ => rfl⟩
/-! a fill, the class: what it leaves -/
theorem c_fin (G : oG) {h : oH} {n : Nat} (hh : oHs h n) (v : Int32) {i : Nat} (hi : i < n) (hv : v.toInt = (i : Int)) (q : Int32) (hw : 0 ≤ (hI h (pid i) 0).toInt ∧ (hI h (pid i) 0).toInt ≤ 2) (hq : 0 ≤ q.toInt ∧ q.toInt ≤ (hI h (hid i) 2).toInt) (hd : q.toInt ≤ (hI h 0 10).toInt) (B : ((noteC h (hid i) q).toInt = 0 ∧ q.toInt < (hI h (hid i) 2).toInt ∧ 1 ≤ (hI h (hid i) 13).toInt) → nB (hI h (hid i) 4) (hI h (hid i) 5) (hI h (hid i) 6) (hI h (hid i) 7) q (hI h (hid i) 13) (hI h (hid i) 14)) : ∃ h1, oSp G mX5_fill [.ref 0, .int v, .int q] h (some (.int (costC h (pid i) q (hI h 0 9)))) h1 ∧ (h1.1 = h.1 ∧ ∀ x k, hR h1 x k = hR h x k) ∧ (∀ x k, ¬ (x = 0 ∧ (k = 12 ∨ k = 13)) → hJ h1 x k = hJ h x k) ∧ (hJ h1 0 12 = hJ h 0 12 + q.toInt64 ∧ hJ h1 0 13 = hJ h 0 13 + (costC h (pid i) q (hI h 0 9)).toInt64) ∧ (∀ x k, ¬ (x = 0 ∧ k = 10) → ¬ (x = hid i ∧ 4 ≤ k) → ¬ (x = pid i ∧ k = 1) → hI h1 x k = hI h x k) ∧ (hI h1 0 10 = hI h 0 10 - q ∧ hI h1 (pid i) 1 = hI h (pid i) 1 - mn q (hI h (pid i) 1)) ∧ (hI h1 (hid i) 8 = (hI h (hid i) 2) ∧ hI h1 (hid i) 9 = (hI h (hid i) 2) ∧ hI h1 (hid i) 10 = (hI h (hid i) 10) + 1 ∧ hI h1 (hid i) 13 = 0 ∧ hI h1 (hid i) 14 = 0) ∧ hI h1 (hid i) 11 = noteC h (hid i) q ∧ hI h1 (hid i) 12 = (if ¬ (noteC h (hid i) q).toInt = 0 then 1 else (hI h (hid i) 12)) ∧ (((noteC h (hid i) q).toInt = 0 ∧ q.toInt < (hI h (hid i) 2).toInt ∧ 1 ≤ (hI h (hid i) 13).toInt) → hI h1 (hid i) 6 = cN (hI h (hid i) 4) (hI h (hid i) 5) (hI h (hid i) 6) q (hI h (hid i) 13) (hI h (hid i) 14) ∧ hI h1 (hid i) 7 = dN (hI h (hid i) 4) (hI h (hid i) 5) (hI h (hid i) 7) q (hI h (hid i) 13) (hI h (hid i) 14) ∧ hI h1 (hid i) 4 = aN (hI h (hid i) 4) (hI h1 (hid i) 6) (hI h1 (hid i) 7) q (hI h (hid i) 13) (hI h (hid i) 14) ∧ hI h1 (hid i) 5 = bN (hI h (hid i) 5) (hI h1 (hid i) 6) (hI h1 (hid i) 7) q (hI h (hid i) 13) (hI h (hid i) 14)) ∧ (¬ ((noteC h (hid i) q).toInt = 0 ∧ q.toInt < (hI h (hid i) 2).toInt ∧ 1 ≤ (hI h (hid i) 13).toInt) → ∀ k, 4 ≤ k → k ≤ 7 → hI h1 (hid i) k = hI h (hid i) k) := by
  have C := @c_fill G h n hh v i hi hv q hw hq hd
  have hx : hid i ≠ pid i := by unfold hid pid; omega
  have h0 : hid i ≠ 0 := by unfold hid; omega
  have p0 : pid i ≠ 0 := by unfold pid; omega
  have g : ∀ x k, ¬ (x = pid i ∧ k = 1) → hI (g1 h (pid i) q) x k = hI h x k := fun _ _ z => zne z
  have gv : hI (g1 h (pid i) q) (pid i) 1 = hI h (pid i) 1 - mn q (hI h (pid i) 1) := zeq ⟨rfl, rfl⟩
  have w : (g1 h (pid i) q).1 = h.1 ∧ (∀ x k, hR (g1 h (pid i) q) x k = hR h x k) ∧ (∀ x k, hJ (g1 h (pid i) q) x k = hJ h x k) := by
    unfold g1
    exact nw
  generalize g1 h (pid i) q = h0' at *
  have gh : ∀ k, hI h0' (hid i) k = hI h (hid i) k := fun k => g _ _ (fun z => hx z.1)
  have en : noteC h0' (hid i) q = noteC h (hid i) q := by
    unfold noteC
    simp only [gh]
  have T := sp_take G (h := h0') (tg_hid i) (by rw [w.1]; exact oHs.lt hh hi) q
  simp only [gh, en] at T
  obtain ⟨g2, s1, s2, s3, s4, s5, s6, s7, s8⟩ := T B
  have D := C (g2 := g2) (s2.1.trans w.1) s1
  generalize hcc : (costC h (pid i) q (hI h 0 9)) = cc at *
  have f3 : ∀ x k, ¬ (x = 0 ∧ k = 10) → hI (g3 g2 q) x k = hI g2 x k := fun _ _ z => zne z
  have v3 : hI (g3 g2 q) 0 10 = hI g2 0 10 - q := zeq ⟨rfl, rfl⟩
  have w3 : (g3 g2 q).1 = g2.1 ∧ (∀ x k, hR (g3 g2 q) x k = hR g2 x k) ∧ (∀ x k, hJ (g3 g2 q) x k = hJ g2 x k) := by
    unfold g3
    exact nw
  generalize g3 g2 q = h3 at *
  have f4 : ∀ x k, ¬ (x = 0 ∧ k = 12) → hJ (g4 h3 q) x k = hJ h3 x k := fun _ _ z => jne z
  have v4 : hJ (g4 h3 q) 0 12 = hJ h3 0 12 + q.toInt64 := jeq ⟨rfl, rfl⟩
  have w4 : (g4 h3 q).1 = h3.1 ∧ (∀ x k, hR (g4 h3 q) x k = hR h3 x k) ∧ (∀ x k, hI (g4 h3 q) x k = hI h3 x k) := by
    unfold g4
    exact nwJ
  generalize g4 h3 q = h4 at *
  have f5 : ∀ x k, ¬ (x = 0 ∧ k = 13) → hJ (g5 h4 cc) x k = hJ h4 x k := fun _ _ z => jne z
  have v5 : hJ (g5 h4 cc) 0 13 = hJ h4 0 13 + cc.toInt64 := jeq ⟨rfl, rfl⟩
  have w5 : (g5 h4 cc).1 = h4.1 ∧ (∀ x k, hR (g5 h4 cc) x k = hR h4 x k) ∧ (∀ x k, hI (g5 h4 cc) x k = hI h4 x k) := by
    unfold g5
    exact nwJ
  generalize g5 h4 cc = h5 at *
  have rI : ∀ x k, ¬ (x = 0 ∧ k = 10) → hI h5 x k = hI g2 x k := fun x k z => by rw [w5.2.2, w4.2.2, f3 x k z]
  have rH : ∀ k, hI h5 (hid i) k = hI g2 (hid i) k := fun k => rI _ _ (fun z => h0 z.1)
  refine ⟨h5, D, ⟨by rw [w5.1, w4.1, w3.1, s2.1, w.1], fun x k => by rw [w5.2.1, w4.2.1, w3.2.1, s2.2.1, w.2.1]⟩, fun x k z => by rw [f5 x k (by omega), f4 x k (by omega), w3.2.2, s2.2.2, w.2.2], ⟨?_, ?_⟩, fun x k z1 z2 z3 => by rw [rI x k z1, s3 x k z2, g x k z3], ⟨?_, ?_⟩, ?_, ?_, ?_, ?_, ?_⟩
  · rw [f5 0 12 (by omega), v4, w3.2.2, s2.2.2, w.2.2]
  · rw [v5, f4 0 13 (by omega), w3.2.2, s2.2.2, w.2.2]
  · rw [w5.2.2, w4.2.2, v3, s3 0 10 (fun z => h0 z.1.symm), g 0 10 (fun z => p0 z.1.symm)]
  · rw [rI _ _ (fun z => p0 z.1), s3 _ _ (fun z => hx z.1.symm), gv]
  · simp only [rH]
    exact s4
  · rw [rH]
    exact s5
  · rw [rH]
    exact s6
  · simp only [rH]
    exact s7
  · simp only [rH]
    exact s8
