set_option maxHeartbeats 4000000 in
set_option maxRecDepth 100000 in
theorem case_house (G : oG) {h : oH} {n T : Nat} (I : Inv h n T) (x y z : Int32) : Case G mX5_house mX6_house [.int x, .int y, .int z] h n T := by
  obtain ⟨⟨a1, a2, a3⟩, ⟨b1, b2, b3⟩, ⟨c1, c2, c3⟩, ⟨d1, d2, d3⟩, ⟨e1, e2, e3⟩, ⟨f1, f2, f3⟩, g1, g2, g3⟩ := id I.2.2.1
  have hs := I.1.1
  have hh := I.1
  have hn24 := hh.2.2.1
  by_cases hx : ((0 ≤ x.toInt ∧ x.toInt ≤ 50) ∧ (0 ≤ y.toInt ∧ y.toInt ≤ 50) ∧ (100 ≤ z.toInt ∧ z.toInt ≤ 5000))
  · rcases Nat.lt_or_ge n 24 with hn | hn
    · have l := hs.1
      have hl := hh.2.1
      have C1 := c_house G hh I.2.1.1 x y z hn hx.1 hx.2.1 hx.2.2
      have hs1 : oSh (ho3 h n x y z) := ⟨Nat.le_trans l (by show h.1 ≤ h.1 + 2; omega), fun q hq => by
        have hq2 : q.1 < 35 ∧ q.1 ≠ 1 := (show ∀ q ∈ rfL, q.1 < 35 ∧ q.1 ≠ 1 by decide) q hq
        rw [ho_R (by omega) (fun w => hq2.2 w.1)]
        exact hs.2 q hq⟩
      have M1 := m_house G hs1 ((congrArg Int32.toInt (ho_I l (by omega) (by omega))).trans I.2.1.2) x y z hn hx.1 hx.2.1 hx.2.2
      have en : (ho3 h n x y z).1 = h.1 + 2 := rfl
      have oI : ∀ {a k : Nat}, a < h.1 → ¬ (a = 0 ∧ k = 4) → hI (ho3 h n x y z) a k = hI h a k := fun ha hb => ho_I l ha hb
      have o4 : hI (ho3 h n x y z) 0 4 = hI h 0 4 + 1 := ho_4 l
      have oJ : ∀ {a k : Nat}, a < h.1 → hJ (ho3 h n x y z) a k = hJ h a k := fun ha => ho_J ha
      have oR : ∀ {a k : Nat}, a < h.1 → ¬ (a = 1 ∧ k = n) → hR (ho3 h n x y z) a k = hR h a k := fun ha hb => ho_R ha hb
      have oR1 : hR (ho3 h n x y z) 1 n = some h.1 := ho_R1
      have oR3 : hR (ho3 h n x y z) h.1 3 = some (h.1 + 1) := ho_R3 l
      obtain ⟨v4, v5, v6, v7, v10, v11, v12, v13, v14, v0, v1, v2, v8, v9⟩ := ho_H (h := h) (n := n) (x := x) (y := y) (z := z) l
      obtain ⟨w0, w1, w2⟩ := ho_P (h := h) (n := n) (x := x) (y := y) (z := z) l
      generalize ho3 h n x y z = h1 at *
      have en2 : (mo3 h1 n x y z).1 = h1.1 := rfl
      have mI : ∀ {a k : Nat}, ¬ (a = 12 ∧ k ≤ 1) → ¬ ((a = 13 ∨ a = 14 ∨ a = 15 ∨ a = 17 ∨ a = 18) ∧ k = n) → ¬ (a = 16 ∧ 4 * n ≤ k ∧ k < 4 * n + 4) → hI (mo3 h1 n x y z) a k = hI h1 a k := fun f0 f1 f2 => mo_I f0 f1 f2
      have m1 : hI (mo3 h1 n x y z) 12 1 = hI h1 12 1 + 1 := mo_1
      have mJ : ∀ a k, hJ (mo3 h1 n x y z) a k = hJ h1 a k := fun _ _ => rfl
      have mR : ∀ a k, hR (mo3 h1 n x y z) a k = hR h1 a k := fun _ _ => rfl
      obtain ⟨u13, u14, u15, u16, u16a, u16b, u16c, u17, u18⟩ := mo_H (h := h1) (n := n) (x := x) (y := y) (z := z)
      refine ⟨_, _, _, n + 1, C1, M1.ri (by rw [oI (by omega) (by omega)]; exact Int32.toInt_inj.mp (by rw [I.2.1.1, I.2.1.2])), ?_⟩
      generalize mo3 h1 n x y z = h2 at *
      have rI : ∀ {a k : Nat}, a < h.1 → ¬ (a = 0 ∧ k = 4) → ¬ (a = 12 ∧ k ≤ 1) → ¬ ((a = 13 ∨ a = 14 ∨ a = 15 ∨ a = 17 ∨ a = 18) ∧ k = n) → ¬ (a = 16 ∧ 4 * n ≤ k ∧ k < 4 * n + 4) → hI h2 a k = hI h a k := fun g0 g1 g2 g3 g4 => (mI g2 g3 g4).trans (oI g0 g1)
      have rJ : ∀ {a k : Nat}, a < h.1 → hJ h2 a k = hJ h a k := fun g0 => (mJ _ _).trans (oJ g0)
      have rR : ∀ {a k : Nat}, a < h.1 → ¬ (a = 1 ∧ k = n) → hR h2 a k = hR h a k := fun g0 g1 => (mR _ _).trans (oR g0 g1)
      have kI : ∀ {k : Nat}, hI h2 h.1 k = hI h1 h.1 k := mI (by omega) (by omega) (by omega)
      have kP : ∀ {k : Nat}, hI h2 (h.1 + 1) k = hI h1 (h.1 + 1) k := mI (by omega) (by omega) (by omega)
      have hhid : hid n = h.1 := hl.symm
      have hpid : pid n = h.1 + 1 := by rw [hl]; unfold pid; omega
      have x0 := tA I.2.1.1 (show (1 : Int32).toInt = 1 from rfl) (by omega)
      have x1 := tA I.2.1.2 (show (1 : Int32).toInt = 1 from rfl) (by omega)
      have hhs : oHs h2 (n + 1) := by
        refine ⟨⟨by omega, fun q hq => ?_⟩, by omega, by omega, fun j hj => ?_, fun i hi => ?_⟩
        · rw [mR]
          exact hs1.2 q hq
        · by_cases hj2 : j = n
          · rw [hj2, mR, oR1, if_pos (by omega), hhid]
          · rw [rR (by omega) (by omega), hh.2.2.2.1 j hj]
            by_cases hj3 : j < n
            · rw [if_pos hj3, if_pos (by omega)]
            · rw [if_neg hj3, if_neg (by omega)]
        · by_cases hi2 : i = n
          · rw [hi2, hhid, mR, oR3, hpid]
          · have hi3 : i < n := by omega
            rw [rR (hh.lt hi3) (by unfold hid; omega), hh.pl hi3]
      have hsc : oSc h2 (T + 1) := by
        unfold oSc
        simp only [rI (a := 0) (k := 5) (by omega) (by omega) (by omega) (by omega) (by omega), rI (a := 0) (k := 6) (by omega) (by omega) (by omega) (by omega) (by omega), rI (a := 0) (k := 7) (by omega) (by omega) (by omega) (by omega) (by omega), rI (a := 0) (k := 8) (by omega) (by omega) (by omega) (by omega) (by omega), rI (a := 0) (k := 9) (by omega) (by omega) (by omega) (by omega) (by omega), rI (a := 0) (k := 10) (by omega) (by omega) (by omega) (by omega) (by omega), rI (a := 12) (k := 16) (by omega) (by omega) (by omega) (by omega) (by omega), rI (a := 12) (k := 17) (by omega) (by omega) (by omega) (by omega) (by omega), rI (a := 12) (k := 18) (by omega) (by omega) (by omega) (by omega) (by omega), rI (a := 12) (k := 19) (by omega) (by omega) (by omega) (by omega) (by omega), rI (a := 12) (k := 20) (by omega) (by omega) (by omega) (by omega) (by omega), rI (a := 12) (k := 21) (by omega) (by omega) (by omega) (by omega) (by omega), rJ (a := 0) (k := 11) (by omega), rJ (a := 0) (k := 12) (by omega), rJ (a := 0) (k := 13) (by omega), rJ (a := 12) (k := 22) (by omega), rJ (a := 12) (k := 23) (by omega), rJ (a := 12) (k := 24) (by omega)]
        exact I.2.2.1.mono (Nat.le_succ T)
      have hho : ∀ i, i < n + 1 → oHe h2 i ∧ oHb h2 i (T + 1) := fun i hi => by
        by_cases hi2 : i = n
        · subst hi2
          have Z : ∀ a, 19 ≤ a → a ≤ 26 → hI h2 a i = 0 := fun a l1 l2 => (rI (by omega) (by omega) (by omega) (by omega) (by omega)).trans (I.2.2.2.2.2.2.2 a i l1 l2 (Nat.le_refl _) hn)
          have z0 : (0 : Int32).toInt = 0 := rfl
          have z5 : (50 : Int32).toInt = 50 := rfl
          constructor
          · unfold oHe
            rw [hhid, hpid]
            simp only [kI, kP, v4, v5, v6, v7, v10, v11, v12, v13, v14, v0, v1, v2, v8, v9, w0, w1, w2, u13, u14, u15, u16, u16a, u16b, u16c, u17, u18, Z 19 (by decide) (by decide), Z 20 (by decide) (by decide), Z 21 (by decide) (by decide), Z 22 (by decide) (by decide), Z 23 (by decide) (by decide), Z 24 (by decide) (by decide), Z 25 (by decide) (by decide), Z 26 (by decide) (by decide), and_self]
          · unfold oHb
            simp only [u13, u14, u15, u16, u16a, u16b, u16c, u17, u18, Z 19 (by decide) (by decide), Z 20 (by decide) (by decide), Z 21 (by decide) (by decide), Z 22 (by decide) (by decide), Z 23 (by decide) (by decide), Z 24 (by decide) (by decide), Z 25 (by decide) (by decide), Z 26 (by decide) (by decide), z0, z5]
            (repeat' apply And.intro) <;> first | omega | exact Or.inl trivial | exact Or.inl rfl | (intro w; omega) | (intro w; exact absurd w (by decide)) | (intro w; trivial) | simp
        · have hi3 : i < n := by omega
          obtain ⟨q1, q2⟩ := I.2.2.2.1 i hi3
          have e1 : ∀ k, hI h2 (hid i) k = hI h (hid i) k := fun k => rI (hh.lt hi3) (by unfold hid; omega) (by unfold hid; omega) (by unfold hid; omega) (by unfold hid; omega)
          have e2 : ∀ k, hI h2 (pid i) k = hI h (pid i) k := fun k => rI (hh.plt hi3) (by unfold pid; omega) (by unfold pid; omega) (by unfold pid; omega) (by unfold pid; omega)
          have e3 : ∀ a, 13 ≤ a → a ≤ 26 → a ≠ 16 → hI h2 a i = hI h a i := fun a l1 l2 l3 => rI (by omega) (by omega) (by omega) (by omega) (by omega)
          have e4 : ∀ k, k < 4 * n → hI h2 16 k = hI h 16 k := fun k hk => rI (by omega) (by omega) (by omega) (by omega) (by omega)
          constructor
          · unfold oHe at q1 ⊢
            simp only [e1, e2, e3 13 (by decide) (by decide) (by decide), e3 14 (by decide) (by decide) (by decide), e3 15 (by decide) (by decide) (by decide), e3 17 (by decide) (by decide) (by decide), e3 18 (by decide) (by decide) (by decide), e3 19 (by decide) (by decide) (by decide), e3 20 (by decide) (by decide) (by decide), e3 21 (by decide) (by decide) (by decide), e3 22 (by decide) (by decide) (by decide), e3 23 (by decide) (by decide) (by decide), e3 24 (by decide) (by decide) (by decide), e3 25 (by decide) (by decide) (by decide), e3 26 (by decide) (by decide) (by decide), e4 (4 * i) (by omega), e4 (4 * i + 1) (by omega), e4 (4 * i + 2) (by omega), e4 (4 * i + 3) (by omega)]
            exact q1
          · refine oHb.mono ?_ (Nat.le_succ T)
            unfold oHb at q2 ⊢
            simp only [e3 13 (by decide) (by decide) (by decide), e3 14 (by decide) (by decide) (by decide), e3 15 (by decide) (by decide) (by decide), e3 17 (by decide) (by decide) (by decide), e3 18 (by decide) (by decide) (by decide), e3 19 (by decide) (by decide) (by decide), e3 20 (by decide) (by decide) (by decide), e3 21 (by decide) (by decide) (by decide), e3 22 (by decide) (by decide) (by decide), e3 23 (by decide) (by decide) (by decide), e3 24 (by decide) (by decide) (by decide), e3 25 (by decide) (by decide) (by decide), e3 26 (by decide) (by decide) (by decide), e4 (4 * i) (by omega), e4 (4 * i + 1) (by omega), e4 (4 * i + 2) (by omega), e4 (4 * i + 3) (by omega)]
            exact q2
      refine ⟨hhs, ⟨?_, ?_⟩, hsc, hho, I.2.2.2.2.1.fr (fun a k ha => rI (by omega) (by omega) (by omega) (by omega) (by omega)) (rI (by omega) (by omega) (by omega) (by omega) (by omega)) (rI (by omega) (by omega) (by omega) (by omega) (by omega)), I.2.2.2.2.2.1.fr (fun a k ha => rI (by omega) (by omega) (by omega) (by omega) (by omega)) (rI (by omega) (by omega) (by omega) (by omega) (by omega)), I.2.2.2.2.2.2.1.fr (Nat.le_succ n) (fun j hj => rI (by omega) (by omega) (by omega) (by omega) (by omega)) (fun j hj => rI (by omega) (by omega) (by omega) (by omega) (by omega)) (fun a k ha => rI (by omega) (by omega) (by omega) (by omega) (by omega)), I.2.2.2.2.2.2.2.fr (Nat.le_succ n) (fun a k g1 g2 g3 => rI (by omega) (by omega) (by omega) (by omega) (by omega))⟩
      · rw [mI (by omega) (by omega) (by omega), o4, x0]
        omega
      · rw [m1, oI (by omega) (by omega), x1]
        omega
    · have hn2 : n = 24 := by omega
      exact case_bad G I (c_houseF G hh I.2.1.1 x y z hn2 hx.1 hx.2.1 hx.2.2) (m_houseF G hs I.2.1.2 x y z hn2 hx.1 hx.2.1 hx.2.2)
  · exact case_bad G I (c_houseX G hh I.2.1.1 x y z hx) (m_houseX G hs I.2.1.2 x y z hx)

