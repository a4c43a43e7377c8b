theorem m_in (G : oG) {h : oH} (hs : oSh h) {v q x : Int32} {i : Nat} (hv : v.toInt = (i : Int)) (hi : i < 24) (w y : Int32) : ∃ hf, (hf.1 = h.1 ∧ (∀ x k, hR hf x k = hR h x k) ∧ (∀ x k, hJ hf x k = hJ h x k)) ∧ (∀ x k, ¬ (17 ≤ x ∧ x ≤ 23 ∧ k = i) → ¬ (x = 16 ∧ 4 * i ≤ k ∧ k ≤ 4 * i + 3) → hI hf x k = hI h x k) ∧ (hI hf 17 i = hI h 15 i ∧ hI hf 18 i = hI h 15 i ∧ hI hf 19 i = hI h 19 i + 1 ∧ hI hf 22 i = 0 ∧ hI hf 23 i = 0) ∧ hI hf 20 i = w ∧ hI hf 21 i = y ∧ ((w.toInt = 0 ∧ q.toInt < (hI h 15 i).toInt ∧ 0 < (hI h 22 i).toInt) → hI hf 16 (4 * i + 2) = cN (hI h 16 (4 * i)) (hI h 16 (4 * i + 1)) (hI h 16 (4 * i + 2)) q (hI h 22 i) (hI h 23 i) ∧ hI hf 16 (4 * i + 3) = dN (hI h 16 (4 * i)) (hI h 16 (4 * i + 1)) (hI h 16 (4 * i + 3)) q (hI h 22 i) (hI h 23 i) ∧ hI hf 16 (4 * i) = aN (hI h 16 (4 * i)) (hI hf 16 (4 * i + 2)) (hI hf 16 (4 * i + 3)) q (hI h 22 i) (hI h 23 i) ∧ hI hf 16 (4 * i + 1) = bN (hI h 16 (4 * i + 1)) (hI hf 16 (4 * i + 2)) (hI hf 16 (4 * i + 3)) q (hI h 22 i) (hI h 23 i)) ∧ (¬ (w.toInt = 0 ∧ q.toInt < (hI h 15 i).toInt ∧ 0 < (hI h 22 i).toInt) → (∀ k, 4 * i ≤ k → k ≤ 4 * i + 3 → hI hf 16 k = hI h 16 k)) ∧ ∀ {p : Program} {l : Launch} {e : Env} {R : Room} {s : State} {m : MethodId} {args : Array Value} {below : List Frame} {meth : Method} {c : Code} {n0 nF : Nat} (_ : oC G mX6_fill n0 nF p l R s m args meth c) (_ : h.1 ≤ nF) (x6 x7 : Option Value), oS G mX6_fill p l e R s m args below meth c (oZ G below args s n0 nF (some (.int x)) hf) n0 266 [some (.ref 12), some (.int v), some (.int q), some (.int x), some (.int (hI h 22 i)), some (.int (hI h 23 i)), x6, x7] [] (sI (sI h 20 i w) 21 i y) := by
  have g : ∀ x k, ¬ ((x = 20 ∨ x = 21) ∧ k = i) → hI (sI (sI h 20 i w) 21 i y) x k = hI h x k := fun x k z => by rw [zne (by omega), zne (by omega)]
  have e1 : hI (sI (sI h 20 i w) 21 i y) 20 i = w := by rw [zne (by omega), zeq ⟨rfl, rfl⟩]
  have e2 : hI (sI (sI h 20 i w) 21 i y) 21 i = y := zeq ⟨rfl, rfl⟩
  have w1 : (sI (sI h 20 i w) 21 i y).1 = h.1 ∧ (∀ x k, hR (sI (sI h 20 i w) 21 i y) x k = hR h x k) ∧ (∀ x k, hJ (sI (sI h 20 i w) 21 i y) x k = hJ h x k) := ⟨by rw [n_sI, n_sI], fun x k => by rw [hR_sI, hR_sI], fun x k => by rw [hJ_sI, hJ_sI]⟩
  generalize sI (sI h 20 i w) 21 i y = h0 at *
  have hs0 : oSh h0 := ⟨by rw [w1.1]; exact hs.1, fun z hz => (w1.2.1 _ _).trans (hs.2 z hz)⟩
  have g15 := g 15 i (by omega)
  have g22 := g 22 i (by omega)
  by_cases d : (w.toInt = 0 ∧ q.toInt < (hI h 15 i).toInt ∧ 0 < (hI h 22 i).toInt)
  · obtain ⟨h1, s1, s2, s3, s4⟩ := sp_mk G hs0 v q hv hi (by rw [g22]; exact d.2.2)
    rw [g22, g 23 i (by omega), g 16 (4 * i) (by omega), g 16 (4 * i + 1) (by omega), g 16 (4 * i + 2) (by omega), g 16 (4 * i + 3) (by omega)] at s4
    have hs1 : oSh h1 := ⟨by rw [s2.1]; exact hs0.1, fun z hz => (s2.2.1 _ _).trans (hs0.2 z hz)⟩
    refine ⟨k5 h1 i, ⟨(k5_n h1 i).1.trans (s2.1.trans w1.1), fun x k => ((k5_n h1 i).2.1 x k).trans ((s2.2.1 x k).trans (w1.2.1 x k)), fun x k => ((k5_n h1 i).2.2 x k).trans ((s2.2.2 x k).trans (w1.2.2 x k))⟩, fun x k z1 z2 => by rw [k5_f h1 i (by omega), s3 x k z2, g x k (by omega)], ?_, by rw [k5_f h1 i (by omega), s3 20 i (by omega), e1], by rw [k5_f h1 i (by omega), s3 21 i (by omega), e2], fun _ => ?_, fun z => absurd d z, ?_⟩
    · obtain ⟨v1, v2, v3, v4, v5⟩ := k5_v h1 i
      rw [v1, v2, v3, v4, v5, s3 15 i (by omega), g15, s3 19 i (by omega), g 19 i (by omega)]
      exact ⟨rfl, rfl, rfl, rfl, rfl⟩
    · rw [k5_f h1 i (x := 16) (k := 4 * i) (by omega), k5_f h1 i (x := 16) (k := 4 * i + 1) (by omega), k5_f h1 i (x := 16) (k := 4 * i + 2) (by omega), k5_f h1 i (x := 16) (k := 4 * i + 3) (by omega)]
      exact s4
    · intro p l e R s m args below meth c n0 nF C hF x6 x7
      exact ft_y G hs0 hv hi C (by rw [w1.1]; exact hF) (by rw [e1, g15]; exact d) hs1 s2.1 s1
  · refine ⟨k5 h0 i, ⟨(k5_n h0 i).1.trans w1.1, fun x k => ((k5_n h0 i).2.1 x k).trans (w1.2.1 x k), fun x k => ((k5_n h0 i).2.2 x k).trans (w1.2.2 x k)⟩, fun x k z1 z2 => by rw [k5_f h0 i (by omega), g x k (by omega)], ?_, by rw [k5_f h0 i (by omega), e1], by rw [k5_f h0 i (by omega), e2], fun z => absurd z d, fun _ k l1 l2 => by rw [k5_f h0 i (by omega), g 16 k (by omega)], ?_⟩
    · obtain ⟨v1, v2, v3, v4, v5⟩ := k5_v h0 i
      rw [v1, v2, v3, v4, v5, g15, g 19 i (by omega)]
      exact ⟨rfl, rfl, rfl, rfl, rfl⟩
    · intro p l e R s m args below meth c n0 nF C hF x6 x7
      exact ft_n G hs0 hv hi C (by rw [w1.1]; exact hF) (by rw [e1, g15]; exact d)
