/-! the case of day -/
theorem nn_ge (u : Int32) : 0 ≤ (nn u).toInt := by
  unfold nn
  split
  · assumption
  · exact Int.le_refl 0
theorem nn_le {u : Int32} {b : Int} (h : u.toInt ≤ b) (h0 : 0 ≤ b) : (nn u).toInt ≤ b := by
  unfold nn
  split
  · exact h
  · exact h0
set_option maxHeartbeats 4000000 in
set_option maxRecDepth 100000 in
theorem case_day (G : oG) {h : oH} {n T : Nat} (I : Inv h n T) (hT : T ≤ 600) (x : Int32) : Case G mX5_day mX6_day [.int x] h n T := by
  obtain ⟨⟨a1, a2, a3⟩, ⟨b1, b2, b3⟩, ⟨c1, c2, c3⟩, ⟨d1, d2, d3⟩, ⟨e1, e2, e3⟩, ⟨f1, f2, f3⟩, g1, g2, g3⟩ := id I.2.2.1
  have hs := I.1.1
  have hh := I.1
  have h24 := hh.2.2.1
  by_cases hx : 0 ≤ x.toInt ∧ x.toInt ≤ 40
  · have e5 : (hI h 0 5).toInt = (hI h 12 16).toInt := congrArg Int32.toInt a1
    have hc := c_day G hh x (by omega) hx
    rw [sumI_tail (f := usC (sI h 0 5 (hI h 0 5 + 1)) x n) h24 (fun j hj => if_neg (by omega))] at hc
    generalize hh1 : dayC (sI h 0 5 (hI h 0 5 + 1)) x n = h1 at hc
    have xi : ∀ i, i < n → ∀ k, hI h1 (hid i) k = hI (endDayH h (hid i) x) (hid i) k := fun i hi k => by
      have hg := hid_ge i
      rw [← hh1, dC_i n hi]
      unfold endDayH
      simp only [hI_sI, show ¬ (hid i = 0) by omega, false_and, if_false]
    have xo : ∀ a k, a < 35 → a ≠ 0 → hI h1 a k = hI h a k := fun a k q1 q2 => by
      rw [← hh1, dC_o n (fun i _ => by have := hid_ge i; omega), sI_ne (by omega)]
    have x0 : ∀ k, k ≠ 5 → hI h1 0 k = hI h 0 k := fun k q1 => by
      rw [← hh1, dC_o n (fun i _ => by have := hid_ge i; omega), sI_ne (by omega)]
    have x5 : hI h1 0 5 = hI h 0 5 + 1 := by
      rw [← hh1, dC_o n (fun i _ => by have := hid_ge i; omega), sI_eq (by omega)]
    have xp : ∀ i k, hI h1 (pid i) k = hI h (pid i) k := fun i k => by
      have hg := hid_ge i
      have hp := pid_eq i
      rw [← hh1, dC_o n (fun j _ => by unfold hid pid; omega), sI_ne (by omega)]
    have en : h1.1 = h.1 := by rw [← hh1, dC_n]; rfl
    have eR : ∀ a k, hR h1 a k = hR h a k := fun a k => by rw [← hh1, dC_R]; rfl
    have eJ : ∀ a k, hJ h1 a k = hJ h a k := fun a k => by rw [← hh1, dC_J]; rfl
    have hm := m_day G (hh.fr en eR).1 (n := n) (by rw [xo 12 1 (by decide) (by decide)]; exact I.2.1.2) h24 x (by rw [xo 12 16 (by decide) (by decide)]; omega) hx
    generalize hh2 : dayM (sI (sI h1 12 0 0) 12 16 (hI h1 12 16 + 1)) x n = h2 at hm
    have yo : ∀ a k, (a ≠ 17 ∧ a ≠ 18 ∧ a ≠ 22 ∧ a ≠ 23) → ¬ (a = 12 ∧ (k = 0 ∨ k = 16)) → hI h2 a k = hI h1 a k := fun a k q1 q2 => by
      rw [← hh2, dM_o n (Or.inl q1), sI_ne (by omega), sI_ne (by omega)]
    have y16 : hI h2 12 16 = hI h1 12 16 + 1 := by rw [← hh2, dM_o n (Or.inl (by decide)), sI_eq (by omega)]
    have yi : ∀ i, i < n → ∀ a, 12 < a → hI h2 a i = hI (dayS h1 i x) a i := fun i hi a ha => by
      rw [← hh2, dM_i n hi]
      unfold dayS
      simp only [hI_sI, show ¬ (a = 12) by omega, false_and, if_false, show ¬ ((17 : Nat) = 12) by decide, show ¬ ((18 : Nat) = 12) by decide, show ¬ ((22 : Nat) = 12) by decide, show ¬ ((23 : Nat) = 12) by decide, show ¬ ((16 : Nat) = 12) by decide]
    have fn : h2.1 = h1.1 := by rw [← hh2, dM_n]; rfl
    have fR : ∀ a k, hR h2 a k = hR h1 a k := fun a k => by rw [← hh2, dM_R]; rfl
    have fJ : ∀ a k, hJ h2 a k = hJ h1 a k := fun a k => by rw [← hh2, dM_J]; rfl
    have o0 : ∀ k, k ≠ 5 → hI h2 0 k = hI h 0 k := fun k hk => (yo 0 k (by decide) (by omega)).trans (x0 k hk)
    have o5 : hI h2 0 5 = hI h 0 5 + 1 := (yo 0 5 (by decide) (by omega)).trans x5
    have o12 : ∀ k, k ≠ 0 → k ≠ 16 → hI h2 12 k = hI h 12 k := fun k q1 q2 => (yo 12 k (by decide) (by omega)).trans (xo 12 k (by decide) (by decide))
    have o16 : hI h2 12 16 = hI h 12 16 + 1 := y16.trans (by rw [xo 12 16 (by decide) (by decide)])
    have oi : ∀ a, a < 35 → a ≠ 0 → a ≠ 12 → (a ≠ 17 ∧ a ≠ 18) → a ≠ 22 → a ≠ 23 → ∀ k, hI h2 a k = hI h a k := fun a q1 q2 q3 q4 q5 q6 k => (yo a k ⟨q4.1, q4.2, q5, q6⟩ (by omega)).trans (xo a k q1 q2)
    have oJ : ∀ a k, hJ h2 a k = hJ h a k := fun a k => (fJ a k).trans (eJ a k)
    have hday : (hI h 12 16 + 1).toInt = (hI h 12 16).toInt + 1 := tA rfl (show (1 : Int32).toInt = 1 from rfl) (by omega)
    obtain ⟨i1, i2, i3, i4, i5, i6, i7, i8⟩ := id I
    refine ⟨_, h1, h2, n, hc, hm.ri ?_, (i1.fr en eR).fr fn fR, ⟨by rw [o0 4 (by decide)]; exact i2.1, by rw [o12 1 (by decide) (by decide)]; exact i2.2⟩, ?_, fun i hi => ?_, i5.fr (fun a k ha => oi a (by omega) (by omega) (by omega) (by omega) (by omega) (by omega) k) (o12 29 (by decide) (by decide)) (o12 30 (by decide) (by decide)), i6.fr (fun a k ha => oi a (by omega) (by omega) (by omega) (by omega) (by omega) (by omega) k) (o12 44 (by decide) (by decide)), i7.fr (Nat.le_refl _) (fun j _ => oi 13 (by decide) (by decide) (by decide) (by decide) (by decide) (by decide) j) (fun j _ => oi 14 (by decide) (by decide) (by decide) (by decide) (by decide) (by decide) j) (fun a k ha => oi a (by omega) (by omega) (by omega) (by omega) (by omega) (by omega) k), i8.fr (Nat.le_refl _) (fun a k ha hb hc => (by rw [← hh2, dM_o n (Or.inr hc), sI_ne (by omega), sI_ne (by omega), xo a k (by omega) (by omega)]))⟩
    · refine sumI_congr fun j hj => ?_
      have hg := hid_ge j
      obtain ⟨-, -, -, -, -, q6, q7, -, q9, -⟩ := (i4 j hj).1
      unfold usC usM
      rw [if_pos hj, mx0]
      have r9 : ∀ k, hI (sI h 0 5 (hI h 0 5 + 1)) (hid j) k = hI h (hid j) k := fun k => sI_ne (by omega)
      simp only [r9]
      rw [sI_ne (show ¬ ((18 : Nat) = 12 ∧ _) by omega), sI_ne (show ¬ ((18 : Nat) = 12 ∧ _) by omega)]
      rw [sI_ne (show ¬ ((16 : Nat) = 12 ∧ _) by omega), sI_ne (show ¬ ((16 : Nat) = 12 ∧ _) by omega)]
      rw [sI_ne (show ¬ ((16 : Nat) = 12 ∧ _) by omega), sI_ne (show ¬ ((16 : Nat) = 12 ∧ _) by omega)]
      rw [xo 18 j (by decide) (by decide), xo 16 _ (by decide) (by decide), xo 16 _ (by decide) (by decide), q6, q7, q9]
      have := nn_ge (hI h 18 j - (hI h 16 (4 * j + 2) + hI h 16 (4 * j + 3) * x))
      exact b1_iff (by omega)
    · unfold oSc
      simp only [o5, o16, oJ, o0 6 (by decide), o0 7 (by decide), o0 8 (by decide), o0 9 (by decide), o0 10 (by decide), o12 17 (by decide) (by decide), o12 18 (by decide) (by decide), o12 19 (by decide) (by decide), o12 20 (by decide) (by decide), o12 21 (by decide) (by decide)]
      exact ⟨⟨by rw [a1], by omega, by omega⟩, ⟨b1, b2, b3⟩, ⟨c1, c2, c3⟩, ⟨d1, d2, d3⟩, ⟨e1, e2, e3⟩, ⟨f1, f2, f3⟩, g1, g2, g3⟩
    · obtain ⟨Ie, Ib⟩ := i4 i hi
      have hg := hid_ge i
      have hp := pid_eq i
      obtain ⟨q0, q1, q2, q3, q4, q5, q6, q7, q8, q9, q10, q11, q12, q13, q14⟩ := Ie
      obtain ⟨w0, w1, w2, w3, w4, w5, w6, w7, w8, w9, w10, w11, w12, w13⟩ := Ib
      have s17 : hI h2 17 i = nn (hI h 17 i - (hI h 16 (4 * i) + hI h 16 (4 * i + 1) * x)) := by
        rw [yi i hi 17 (by decide), dS_17, xo 17 i (by decide) (by decide), xo 16 _ (by decide) (by decide), xo 16 _ (by decide) (by decide)]
      have s18 : hI h2 18 i = nn (hI h 18 i - (hI h 16 (4 * i + 2) + hI h 16 (4 * i + 3) * x)) := by
        rw [yi i hi 18 (by decide), dS_18, xo 18 i (by decide) (by decide), xo 16 _ (by decide) (by decide), xo 16 _ (by decide) (by decide)]
      have s22 : hI h2 22 i = hI h 22 i + 1 := by rw [yi i hi 22 (by decide), dS_22, xo 22 i (by decide) (by decide)]
      have s23 : hI h2 23 i = hI h 23 i + x := by rw [yi i hi 23 (by decide), dS_23, xo 23 i (by decide) (by decide)]
      have z8 : hI h2 (hid i) 8 = mx 0 (hI h (hid i) 8 - (hI h (hid i) 4 + hI h (hid i) 5 * x)) := (yo _ _ (by omega) (by omega)).trans ((xi i hi 8).trans eD_8)
      have z9 : hI h2 (hid i) 9 = mx 0 (hI h (hid i) 9 - (hI h (hid i) 6 + hI h (hid i) 7 * x)) := (yo _ _ (by omega) (by omega)).trans ((xi i hi 9).trans eD_9)
      have z13 : hI h2 (hid i) 13 = hI h (hid i) 13 + 1 := (yo _ _ (by omega) (by omega)).trans ((xi i hi 13).trans eD_13)
      have z14 : hI h2 (hid i) 14 = hI h (hid i) 14 + x := (yo _ _ (by omega) (by omega)).trans ((xi i hi 14).trans eD_14)
      have zk : ∀ k, (k < 8 ∨ (9 < k ∧ k < 13)) → hI h2 (hid i) k = hI h (hid i) k := fun k hk => (yo _ _ (by omega) (by omega)).trans ((xi i hi k).trans (eD_k (by omega)))
      have zp : ∀ k, hI h2 (pid i) k = hI h (pid i) k := fun k => (yo _ _ (by omega) (by omega)).trans (xp i k)
      have p1 := Int.mul_le_mul (show (hI h 16 (4 * i + 1)).toInt ≤ 50 by omega) hx.2 hx.1 (by omega)
      have p0 := Int.mul_nonneg w4.1 hx.1
      have p3 := Int.mul_le_mul w4.2.2 hx.2 hx.1 (by omega)
      have p2 := Int.mul_nonneg (show 0 ≤ (hI h 16 (4 * i + 3)).toInt by omega) hx.1
      have t17 : (hI h 17 i - (hI h 16 (4 * i) + hI h 16 (4 * i + 1) * x)).toInt = _ := tS rfl (tA rfl (tM rfl rfl (by omega)) (by omega)) (by omega)
      have t18 : (hI h 18 i - (hI h 16 (4 * i + 2) + hI h 16 (4 * i + 3) * x)).toInt = _ := tS rfl (tA rfl (tM rfl rfl (by omega)) (by omega)) (by omega)
      have t22 : (hI h 22 i + 1).toInt = (hI h 22 i).toInt + 1 := tA rfl (show (1 : Int32).toInt = 1 from rfl) (by omega)
      have t23 : (hI h 23 i + x).toInt = (hI h 23 i).toInt + x.toInt := tA rfl rfl (by omega)
      have g17 := nn_ge (hI h 17 i - (hI h 16 (4 * i) + hI h 16 (4 * i + 1) * x))
      have g18 := nn_ge (hI h 18 i - (hI h 16 (4 * i + 2) + hI h 16 (4 * i + 3) * x))
      have l17 := nn_le (u := hI h 17 i - (hI h 16 (4 * i) + hI h 16 (4 * i + 1) * x)) (b := (hI h 15 i).toInt) (by omega) (by omega)
      have l18 := nn_le (u := hI h 18 i - (hI h 16 (4 * i + 2) + hI h 16 (4 * i + 3) * x)) (b := (hI h 15 i).toInt) (by omega) (by omega)
      constructor
      · unfold oHe
        simp only [zp, s17, s18, s22, s23, z8, z9, z13, z14, mx0, zk 0 (by omega), zk 1 (by omega), zk 2 (by omega), zk 4 (by omega), zk 5 (by omega), zk 6 (by omega), zk 7 (by omega), zk 10 (by omega), zk 11 (by omega), zk 12 (by omega), oi 13 (by decide) (by decide) (by decide) (by decide) (by decide) (by decide), oi 14 (by decide) (by decide) (by decide) (by decide) (by decide) (by decide), oi 15 (by decide) (by decide) (by decide) (by decide) (by decide) (by decide), oi 16 (by decide) (by decide) (by decide) (by decide) (by decide) (by decide), oi 19 (by decide) (by decide) (by decide) (by decide) (by decide) (by decide), oi 20 (by decide) (by decide) (by decide) (by decide) (by decide) (by decide), oi 21 (by decide) (by decide) (by decide) (by decide) (by decide) (by decide), oi 24 (by decide) (by decide) (by decide) (by decide) (by decide) (by decide), oi 25 (by decide) (by decide) (by decide) (by decide) (by decide) (by decide), oi 26 (by decide) (by decide) (by decide) (by decide) (by decide) (by decide)]
        exact ⟨q0, q1, q2, q3, q4, q5, q6, by rw [q3, q4, q7], by rw [q5, q6, q8], q9, q10, q11, by rw [q12], by rw [q13], q14⟩
      · unfold oHb
        simp only [s17, s18, s22, s23, oi 13 (by decide) (by decide) (by decide) (by decide) (by decide) (by decide), oi 14 (by decide) (by decide) (by decide) (by decide) (by decide) (by decide), oi 15 (by decide) (by decide) (by decide) (by decide) (by decide) (by decide), oi 16 (by decide) (by decide) (by decide) (by decide) (by decide) (by decide), oi 19 (by decide) (by decide) (by decide) (by decide) (by decide) (by decide), oi 20 (by decide) (by decide) (by decide) (by decide) (by decide) (by decide), oi 21 (by decide) (by decide) (by decide) (by decide) (by decide) (by decide), oi 24 (by decide) (by decide) (by decide) (by decide) (by decide) (by decide), oi 25 (by decide) (by decide) (by decide) (by decide) (by decide) (by decide), oi 26 (by decide) (by decide) (by decide) (by decide) (by decide) (by decide)]
        exact ⟨w0, w1, w2, w3, w4, ⟨g17, l17⟩, ⟨g18, l18⟩, ⟨w7.1, by omega⟩, w8, w9, w10, by omega, by omega, w13⟩
  · exact case_bad G I (c_dayB G hs x hx) (m_dayB G hs x hx)

