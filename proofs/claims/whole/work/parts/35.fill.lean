/-! a fill, on both sides -/
theorem pml {x y : Int32} (h0 : 0 ≤ x.toInt) (h1 : x.toInt ≤ 24000) (h2 : 0 ≤ y.toInt) (h3 : y.toInt ≤ 50) : (x * y).toInt = x.toInt * y.toInt ∧ 0 ≤ x.toInt * y.toInt ∧ x.toInt * y.toInt ≤ 1200000 := by
  have g1 := Int.mul_nonneg h0 h2
  have g2 := Int.mul_le_mul h1 h3 h2 (by omega)
  have g3 := tM (rfl : x.toInt = _) (rfl : y.toInt = _) (by omega)
  exact ⟨g3, g1, by omega⟩
theorem lowhi {s k a b c d : Int32} (hs : 0 ≤ s.toInt ∧ s.toInt ≤ 24000) (hk : 0 ≤ k.toInt ∧ k.toInt ≤ 24000) (h1 : 0 ≤ a.toInt ∧ a.toInt ≤ c.toInt ∧ c.toInt ≤ 50) (h2 : 0 ≤ b.toInt ∧ b.toInt ≤ d.toInt ∧ d.toInt ≤ 50) : (s * a + k * b).toInt ≤ (s * c + k * d).toInt := by
  have m1 := pml (y := a) hs.1 hs.2 (by omega) (by omega)
  have m2 := pml (y := b) hk.1 hk.2 (by omega) (by omega)
  have m3 := pml (y := c) hs.1 hs.2 (by omega) (by omega)
  have m4 := pml (y := d) hk.1 hk.2 (by omega) (by omega)
  have l1 := Int.mul_le_mul_of_nonneg_left h1.2.1 hs.1
  have l2 := Int.mul_le_mul_of_nonneg_left h2.2.1 hk.1
  have e1 := tA m1.1 m2.1 (by omega)
  have e2 := tA m3.1 m4.1 (by omega)
  omega
theorem note_eq {h : oH} {i : Nat} {q : Int32} (q2 : hI h (hid i) 2 = hI h 15 i) (q4 : hI h (hid i) 4 = hI h 16 (4 * i)) (q5 : hI h (hid i) 5 = hI h 16 (4 * i + 1)) (q6 : hI h (hid i) 6 = hI h 16 (4 * i + 2)) (q7 : hI h (hid i) 7 = hI h 16 (4 * i + 3)) (q13 : hI h (hid i) 13 = hI h 22 i) (q14 : hI h (hid i) 14 = hI h 23 i) : noteC h (hid i) q = noteM h i q := by
  unfold noteC noteM
  rw [q2, q4, q5, q6, q7, q13, q14]
  by_cases o : q.toInt ≤ (hI h 22 i * hI h 16 (4 * i + 2) + hI h 23 i * hI h 16 (4 * i + 3)).toInt
  · rw [if_neg (show ¬ (hI h 22 i * hI h 16 (4 * i + 2) + hI h 23 i * hI h 16 (4 * i + 3)).toInt < q.toInt by omega), if_neg (fun z : ¬ q.toInt ≤ (hI h 22 i * hI h 16 (4 * i + 2) + hI h 23 i * hI h 16 (4 * i + 3)).toInt => z o)]
  · rw [if_pos (by omega), if_pos o]
theorem was_eq {w u : Int32} (h : u.toInt = 0 ∨ u.toInt = 1) : (if ¬ w.toInt = 0 then (1 : Int32) else u) = if ¬ w.toInt = 0 then 1 else if u.toInt = 0 then 0 else 1 := by
  have zz : (0 : Int32).toInt = 0 := rfl
  have z1 : (1 : Int32).toInt = 1 := rfl
  split
  · rfl
  · split
    · exact Int32.toInt_inj.mp (by omega)
    · exact Int32.toInt_inj.mp (by omega)
theorem use_eq {q p m : Int32} (h0 : 0 ≤ q.toInt) (h : p.toInt ≠ 2 → m.toInt = 0) : m - mn q m = if p.toInt = 2 then m - mnM q m else m := by
  have zz : (0 : Int32).toInt = 0 := rfl
  split
  · rw [mn_mnM]
  · next z =>
    have w := h z
    have w2 : mn q m = 0 := by
      apply Int32.toInt_inj.mp
      rw [mn_t, w, zz]
      omega
    rw [w2, Int32.sub_zero]
theorem use_in {q p m : Int32} (h0 : 0 ≤ q.toInt) (h1 : 0 ≤ m.toInt ∧ m.toInt ≤ 99999) (h : p.toInt ≠ 2 → m.toInt = 0) : 0 ≤ (if p.toInt = 2 then m - mnM q m else m).toInt ∧ (if p.toInt = 2 then m - mnM q m else m).toInt ≤ 99999 ∧ (p.toInt ≠ 2 → (if p.toInt = 2 then m - mnM q m else m).toInt = 0) := by
  split
  · next z =>
    have w := mnM_t q m
    have w2 := tS (rfl : m.toInt = _) w (by omega)
    rw [w2]
    exact ⟨by omega, by omega, fun y => absurd z y⟩
  · exact ⟨h1.1, h1.2, h⟩
theorem note_in (h : oH) (i : Nat) (q : Int32) : 0 ≤ (noteM h i q).toInt ∧ (noteM h i q).toInt ≤ 2 := by
  unfold noteM
  (repeat' split) <;> decide
set_option maxHeartbeats 4000000 in
set_option maxRecDepth 100000 in
theorem case_fill (G : oG) {h : oH} {n T : Nat} (I : Inv h n T) (hT : T ≤ 600) (v q : Int32) : Case G mX5_fill mX6_fill [.int v, .int q] h n T := by
  obtain ⟨⟨a1, a2, a3⟩, ⟨b1, b2, b3⟩, ⟨c1, c2, c3⟩, ⟨d1, d2, d3⟩, ⟨e1, e2, e3⟩, ⟨f1, f2, f3⟩, g1, g2, g3⟩ := id I.2.2.1
  have hs := I.1.1
  have hh := I.1
  by_cases hval : 0 ≤ v.toInt ∧ v.toInt < n
  · obtain ⟨i, hi, hv⟩ : ∃ i : Nat, i < n ∧ v.toInt = (i : Int) := ⟨v.toInt.toNat, by omega, by omega⟩
    have hn := I.2.1.2
    have h24 := hh.2.2.1
    obtain ⟨Ie, Ib⟩ := I.2.2.2.1 i hi
    obtain ⟨q0, q1, q2, q4, q5, q6, q7, q8, q9, q10, q11, q12, q13, q14, p0, p1, p2⟩ := id Ie
    obtain ⟨b1', b2', b3', b4', b5', b6', b7', b8', b9', b10', b11', b12', b13', b14', b15', b16', b17'⟩ := id Ib
    by_cases hq : 0 ≤ q.toInt ∧ q.toInt ≤ (hI h 15 i).toInt
    · by_cases hd : q.toInt ≤ (hI h 12 19).toInt
      · have hl : 35 ≤ hid i := by unfold hid; omega
        have pl : 35 ≤ pid i := by unfold pid; omega
        have hne : hid i ≠ pid i := by unfold hid pid; omega
        have ne := note_eq (q := q) q2 q4 q5 q6 q7 q13 q14
        have hB : ((noteM h i q).toInt = 0 ∧ q.toInt < (hI h 15 i).toInt ∧ 0 < (hI h 22 i).toInt) → nB (hI h 16 (4 * i)) (hI h 16 (4 * i + 1)) (hI h 16 (4 * i + 2)) (hI h 16 (4 * i + 3)) q (hI h 22 i) (hI h 23 i) := fun z => ⟨b4', b5', by omega, by omega, by omega⟩
        have CF := c_fin G hh v hi hv q (by rw [p0]; exact b14') (by rw [q2]; exact hq) (by rw [f1]; exact hd)
        simp only [q0, q1, q2, q4, q5, q6, q7, q8, q9, q10, q11, q12, q13, q14, p0, p1, p2, ne] at CF
        obtain ⟨h1, s1, s2, s3, s4, s5, s6, s7, s8, s9, s10, s11⟩ := CF (fun z => hB ⟨z.1, z.2.1, by omega⟩)
        have rR : ∀ {a k : Nat}, 12 ≤ a → a ≤ 34 → hI h1 a k = hI h a k := fun l1 l2 => s5 _ _ (by omega) (by omega) (by omega)
        have sH : ∀ k, k < 4 → hI h1 (hid i) k = hI h (hid i) k := fun k hk => s5 _ _ (by clear s1 s2 s3 s4 s6 s7 s8 s9 s10 s11; omega) (by clear s1 s2 s3 s4 s6 s7 s8 s9 s10 s11; omega) (by clear s1 s2 s3 s4 s6 s7 s8 s9 s10 s11; omega)
        have sP : ∀ k, k ≠ 1 → hI h1 (pid i) k = hI h (pid i) k := fun k hk => s5 _ _ (by clear s1 s2 s3 s4 s6 s7 s8 s9 s10 s11; omega) (by clear s1 s2 s3 s4 s6 s7 s8 s9 s10 s11; omega) (by clear s1 s2 s3 s4 s6 s7 s8 s9 s10 s11; omega)
        have hs1 : oSh h1 := ⟨by rw [s2.1]; exact hs.1, fun z hz => (s2.2 _ _).trans (hs.2 z hz)⟩
        have MF := m_fin G hs1 (n := n) (by rw [rR (by omega) (by omega)]; exact hn) h24 v hi hv q
        have en : noteM h1 i q = noteM h i q := by
          unfold noteM
          simp only [rR (a := 15) (by decide) (by decide), rR (a := 16) (by decide) (by decide), rR (a := 22) (by decide) (by decide), rR (a := 23) (by decide) (by decide)]
        simp only [rR (a := 12) (k := 19) (by decide) (by decide), rR (a := 15) (by decide) (by decide), rR (a := 16) (by decide) (by decide), rR (a := 19) (by decide) (by decide), rR (a := 21) (by decide) (by decide), rR (a := 22) (by decide) (by decide), rR (a := 23) (by decide) (by decide), rR (a := 24) (by decide) (by decide), rR (a := 25) (by decide) (by decide), en] at MF
        obtain ⟨h2, m1, m2, m3, m4, m5, m6, m7, m8, m9, m10, m11⟩ := MF hq hd (lowhi (by omega) (by omega) b4' b5')
        have ce : costC h (pid i) q (hI h 0 9) = costM (sI h1 12 0 0) i q := cost_eq (by rw [zne (by omega), rR (by decide) (by decide)]; exact p0) (by rw [zne (by omega), rR (by decide) (by decide)]; exact p1) (by rw [zne (by omega), rR (by decide) (by decide)]; exact p2) (by rw [zne (by omega), rR (by decide) (by decide)]; exact e1)
        refine ⟨_, h1, h2, n, s1, m1.ri ce, ?_⟩
        rw [← ce] at m4
        generalize costC h (pid i) q (hI h 0 9) = cc at *
        have ni := note_in h i q
        generalize noteM h i q = nt at *
        have zH : ∀ k, hI h2 (hid i) k = hI h1 (hid i) k := fun k => m5 _ _ (by omega) (by omega) (by omega)
        have zP : ∀ k, hI h2 (pid i) k = hI h1 (pid i) k := fun k => m5 _ _ (by omega) (by omega) (by omega)
        have zR : ∀ {a k : Nat}, 13 ≤ a → a ≤ 34 → ¬ ((17 ≤ a ∧ a ≤ 23 ∨ a = 25) ∧ k = i) → ¬ (a = 16 ∧ 4 * i ≤ k ∧ k ≤ 4 * i + 3) → hI h2 a k = hI h a k := fun l1 l2 l3 l4 => (m5 _ _ (by omega) l3 l4).trans (rR (by omega) l2)
        have z0 : ∀ {k : Nat}, k ≠ 10 → hI h2 0 k = hI h 0 k := fun l => (m5 _ _ (by omega) (by omega) (by omega)).trans (s5 _ _ (by omega) (by omega) (by omega))
        have z12 : ∀ {k : Nat}, k ≠ 0 → k ≠ 19 → hI h2 12 k = hI h 12 k := fun l1 l2 => (m5 _ _ (by omega) (by omega) (by omega)).trans (rR (by decide) (by decide))
        have z010 : hI h2 0 10 = hI h 0 10 - q := (m5 _ _ (by omega) (by omega) (by omega)).trans s6.1
        have tq := tS (rfl : (hI h 12 19).toInt = _) (rfl : q.toInt = _) (by omega)
        have sc : oSc h2 (T + 1) := by
          unfold oSc
          rw [z0 (k := 5) (by decide), z0 (k := 6) (by decide), z0 (k := 7) (by decide), z0 (k := 8) (by decide), z0 (k := 9) (by decide), z010, z12 (k := 16) (by decide) (by decide), z12 (k := 17) (by decide) (by decide), z12 (k := 18) (by decide) (by decide), z12 (k := 20) (by decide) (by decide), z12 (k := 21) (by decide) (by decide), m6.1, m3 0 11 (by omega), m3 0 12 (by omega), m3 0 13 (by omega), s3 0 11 (by omega), s4.1, s4.2, m3 12 22 (by omega), s3 12 22 (by omega), m4.1, m4.2, s3 12 23 (by omega), s3 12 24 (by omega)]
          exact ⟨⟨a1, a2, by omega⟩, ⟨b1, b2, b3⟩, ⟨c1, c2, c3⟩, ⟨d1, d2, d3⟩, ⟨e1, e2, e3⟩, ⟨by rw [f1], by omega, by omega⟩, g1, by rw [g2], by rw [g3]⟩
        have hE : ∀ k, ∀ (_ : 4 ≤ k ∧ k ≤ 7), hI h2 (hid i) k = hI h2 16 (4 * i + (k - 4)) := fun k hk => by
          by_cases N : nt.toInt = 0 ∧ q.toInt < (hI h 15 i).toInt ∧ 0 < (hI h 22 i).toInt
          · obtain ⟨u1, u2, u3, u4⟩ := s10 ⟨N.1, N.2.1, by omega⟩
            obtain ⟨w1, w2, w3, w4⟩ := m10 N
            rw [u1, u2] at u3 u4
            rw [w1, w2] at w3 w4
            rcases (show k = 4 ∨ k = 5 ∨ k = 6 ∨ k = 7 by omega) with e | e | e | e <;> subst e
            · exact (zH 4).trans (u3.trans w3.symm)
            · exact (zH 5).trans (u4.trans w4.symm)
            · exact (zH 6).trans (u1.trans w1.symm)
            · exact (zH 7).trans (u2.trans w2.symm)
          · have u := s11 (fun z => N ⟨z.1, z.2.1, by omega⟩) k hk.1 hk.2
            have w := m11 N (4 * i + (k - 4)) (by omega) (by omega)
            rw [zH, u, w]
            rcases (show k = 4 ∨ k = 5 ∨ k = 6 ∨ k = 7 by omega) with e | e | e | e <;> subst e
            · exact q4
            · exact q5
            · exact q6
            · exact q7
        have hBd : (0 ≤ (hI h2 16 (4 * i)).toInt ∧ (hI h2 16 (4 * i)).toInt ≤ (hI h2 16 (4 * i + 2)).toInt ∧ (hI h2 16 (4 * i + 2)).toInt ≤ 50) ∧ (0 ≤ (hI h2 16 (4 * i + 1)).toInt ∧ (hI h2 16 (4 * i + 1)).toInt ≤ (hI h2 16 (4 * i + 3)).toInt ∧ (hI h2 16 (4 * i + 3)).toInt ≤ 50) := by
          by_cases N : nt.toInt = 0 ∧ q.toInt < (hI h 15 i).toInt ∧ 0 < (hI h 22 i).toInt
          · obtain ⟨w1, w2, w3, w4⟩ := m10 N
            rw [w1, w2] at w3 w4
            have x1 := cN_in (hB N)
            have x2 := dN_in (hB N)
            have x3 := aN_in (hB N) (dN (hI h 16 (4 * i)) (hI h 16 (4 * i + 1)) (hI h 16 (4 * i + 3)) q (hI h 22 i) (hI h 23 i))
            have x4 := bN_in (hB N) (cN (hI h 16 (4 * i)) (hI h 16 (4 * i + 1)) (hI h 16 (4 * i + 2)) q (hI h 22 i) (hI h 23 i))
            rw [w3, w4, w1, w2]
            omega
          · rw [m11 N (4 * i) (by omega) (by omega), m11 N (4 * i + 1) (by omega) (by omega), m11 N (4 * i + 2) (by omega) (by omega), m11 N (4 * i + 3) (by omega) (by omega)]
            exact ⟨b4', b5'⟩
        obtain ⟨v8, v9, v10, v13, v14⟩ := s7
        obtain ⟨y17, y18, y19, y22, y23⟩ := m7
        have t10 := tA (rfl : (hI h 19 i).toInt = _) (show (1 : Int32).toInt = 1 from rfl) (by omega)
        have zz : (0 : Int32).toInt = 0 := rfl
        have z1 : (1 : Int32).toInt = 1 := rfl
        have e21 := was_eq (w := nt) b10'
        have e25 := use_eq hq.1 b17'
        have x25 := use_in hq.1 b15' b17'
        rw [← m6.2] at x25
        refine I.hx hi (Nat.le_succ T) (m2.1.trans s2.1) (fun a k => (m2.2 a k).trans (s2.2 a k)) (fun a k g1 g2 g3 g4 g5 g6 => (m5 a k (by omega) (by omega) g6).trans (s5 a k (by omega) (by omega) (by omega))) (z0 (by decide)) (z12 (by decide) (by decide)) (z12 (by decide) (by decide)) (z12 (by decide) (by decide)) (z12 (by decide) (by decide)) sc ?_ ?_
        · unfold oHe
          rw [zR (a := 13) (k := i) (by decide) (by decide) (by omega) (by omega), zR (a := 14) (k := i) (by decide) (by decide) (by omega) (by omega), zR (a := 15) (k := i) (by decide) (by decide) (by omega) (by omega), zR (a := 24) (k := i) (by decide) (by decide) (by omega) (by omega), zR (a := 26) (k := i) (by decide) (by decide) (by omega) (by omega)]
          refine ⟨?_, ?_, ?_, hE 4 (by omega), hE 5 (by omega), hE 6 (by omega), hE 7 (by omega), ?_, ?_, ?_, ?_, ?_, ?_, ?_, ?_, ?_, ?_⟩
          · exact (zH 0).trans ((sH 0 (by decide)).trans q0)
          · exact (zH 1).trans ((sH 1 (by decide)).trans q1)
          · exact (zH 2).trans ((sH 2 (by decide)).trans q2)
          · rw [zH, v8, y17]
          · rw [zH, v9, y18]
          · rw [zH, v10, y19]
          · rw [zH, s8, m8]
          · rw [zH, s9, m9, e21]
          · rw [zH, v13, y22]
          · rw [zH, v14, y23]
          · exact (zP 0).trans ((sP 0 (by decide)).trans p0)
          · rw [zP, s6.2, m6.2, e25]
          · exact (zP 2).trans ((sP 2 (by decide)).trans p2)
        · unfold oHb
          rw [zR (a := 13) (k := i) (by decide) (by decide) (by omega) (by omega), zR (a := 14) (k := i) (by decide) (by decide) (by omega) (by omega), zR (a := 15) (k := i) (by decide) (by decide) (by omega) (by omega), zR (a := 24) (k := i) (by decide) (by decide) (by omega) (by omega), zR (a := 26) (k := i) (by decide) (by decide) (by omega) (by omega), y17, y18, y19, y22, y23, m8, m9, t10, zz]
          refine ⟨b1', b2', b3', hBd.1, hBd.2, by omega, by omega, by omega, ni, ?_, fun z => ?_, by omega, by omega, b14', ⟨x25.1, x25.2.1⟩, b16', x25.2.2⟩
          · split
            · right
              rfl
            · split
              · left
                rfl
              · right
                rfl
          · rw [if_pos (by omega)]
            rfl
      · exact case_bad G I (c_fillD G hh v hi hv q (by rw [p0]; exact b14') (by rw [q2]; exact hq) (by rw [f1]; exact hd)) (m_fillD G hs hn h24 v hi hv q hq hd)
    · exact case_bad G I (c_fillX G hh v hi hv q (by rw [p0]; exact b14') (by rw [q2]; exact hq)) (m_fillX G hs hn h24 v hi hv q hq)
  · exact case_bad G I (c_fillN G hh v hval q) (m_fillN G hs I.2.1.2 hh.2.2.1 v hval q)

