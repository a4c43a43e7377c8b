/-! the cases of round and stop -/
theorem Inv.rf {h h' : oH} {n T : Nat} (I : Inv h n T) (en : h'.1 = h.1) (er : ∀ a k, hR h' a k = hR h a k) (ej : ∀ a k, hJ h' a k = hJ h a k) (e : ∀ a k, a ≠ 27 → a ≠ 28 → ¬ (a = 12 ∧ (k = 0 ∨ k = 26)) → hI h' a k = hI h a k) : Inv h' n T := by
  obtain ⟨i1, i2, i3, i4, i5, i6, i7, i8⟩ := I
  have s3 : oSc h' T := by
    unfold oSc at i3 ⊢
    simp only [ej, e 0 5 (by decide) (by decide) (by decide), e 0 6 (by decide) (by decide) (by decide), e 0 7 (by decide) (by decide) (by decide), e 0 8 (by decide) (by decide) (by decide), e 0 9 (by decide) (by decide) (by decide), e 0 10 (by decide) (by decide) (by decide), e 12 16 (by decide) (by decide) (by decide), e 12 17 (by decide) (by decide) (by decide), e 12 18 (by decide) (by decide) (by decide), e 12 19 (by decide) (by decide) (by decide), e 12 20 (by decide) (by decide) (by decide), e 12 21 (by decide) (by decide) (by decide)]
    exact i3
  refine ⟨i1.fr en er, ⟨by rw [e 0 4 (by decide) (by decide) (by decide)]; exact i2.1, by rw [e 12 1 (by decide) (by decide) (by decide)]; exact i2.2⟩, s3, fun i hi => ⟨(i4 i hi).1.fr (fun a k ha => e a k ?_ ?_ ?_), (i4 i hi).2.fr (fun a k ha => e a k ?_ ?_ ?_)⟩, i5.fr (fun a k ha => e a k ?_ ?_ ?_) (e 12 29 (by decide) (by decide) (by decide)) (e 12 30 (by decide) (by decide) (by decide)), i6.fr (fun a k ha => e a k ?_ ?_ ?_) (e 12 44 (by decide) (by decide) (by decide)), i7.fr (Nat.le_refl _) (fun j _ => e 13 j ?_ ?_ ?_) (fun j _ => e 14 j ?_ ?_ ?_) (fun a k ha => e a k ?_ ?_ ?_), i8.fr (Nat.le_refl _) (fun a k ha hb hc => e a k ?_ ?_ ?_)⟩ <;> (try unfold hid pid at ha) <;> omega
theorem Inv.rtx {h h' : oH} {n T K : Nat} (I : Inv h n T) (hK0 : 0 < K) (hK : K < 2 ^ n) (hm8 : (mem K).length ≤ 8) (rt : rtF h h' K) (en : h'.1 = h.1) (er : ∀ a k, hR h' a k = hR h a k) (ej : ∀ a k, hJ h' a k = hJ h a k) (e : ∀ a k, (a < 2 ∨ 7 < a) → hI h' a k = hI h a k) : Inv h' n T := by
  obtain ⟨i1, i2, i3, i4, i5, i6, i7, i8⟩ := I
  have hn0 : 0 < n := by
    rcases Nat.eq_zero_or_pos n with z | z
    · rw [z] at hK
      omega
    · exact z
  refine ⟨i1.fr en er, ⟨by rw [e 0 4 (by omega)]; exact i2.1, by rw [e 12 1 (by omega)]; exact i2.2⟩, ?_, fun i hi => ⟨(i4 i hi).1.fr (fun a k ha => e a k ?_), (i4 i hi).2.fr (fun a k ha => e a k ?_)⟩, i5.fr (fun a k ha => e a k ?_) (e 12 29 (by omega)) (e 12 30 (by omega)), i6.fr (fun a k ha => e a k ?_) (e 12 44 (by omega)), ?_, i8.fr (Nat.le_refl _) (fun a k ha hb hc => e a k ?_)⟩
  · unfold oSc at i3 ⊢
    simp only [ej, e 0 5 (by omega), e 0 6 (by omega), e 0 7 (by omega), e 0 8 (by omega), e 0 9 (by omega), e 0 10 (by omega), e 12 16 (by omega), e 12 17 (by omega), e 12 18 (by omega), e 12 19 (by omega), e 12 20 (by omega), e 12 21 (by omega)]
    exact i3
  · unfold hid pid at ha
    omega
  · omega
  · omega
  · omega
  · right
    obtain ⟨r1, r2, r3, r4⟩ := rt
    have es : sD h' (mem K) = sD h (mem K) := sD_fr hK hn0 (fun j _ => e 13 j (by omega)) (fun j _ => e 14 j (by omega))
    refine ⟨K, hK0, hK, hm8, r1, r2, by rw [es]; exact r3, fun i hi => by rw [es]; exact r4 i hi⟩
  · omega
theorem mem_pos {K n : Nat} (hK0 : 0 < K) (hK : K < 2 ^ n) (hn : n ≤ 24) : 1 ≤ (mem K).length := by
  rcases Nat.eq_zero_or_pos (mem K).length with z | z
  · obtain ⟨j, hj, hb⟩ := has_bit (by omega) hK
    have q : ¬ K.testBit j = true := mK_full (K := K) (i := 0) (n := 24) (j := j) (by rw [← mem_mK, z]; exact Nat.zero_le _) (Nat.zero_le _) (by omega)
    exact absurd hb q
  · exact z
theorem nd_sum (f : Nat → Int32) (K : Nat) : ∀ i, sumI (fun k => f ((mK K i).getD k 0)) (mK K i).length = ndI f K i
  | 0 => rfl
  | i + 1 => by
    by_cases b : K.testBit i = true
    · rw [mK_t b, List.length_append, ndI_t b, ← nd_sum f K i]
      show sumI _ (mK K i).length + f (((mK K i) ++ [i]).getD (mK K i).length 0) = _
      rw [gD_r]
      refine congrArg (fun z => z + f i) (sumI_congr (fun j hj => ?_))
      show f _ = f _
      rw [gD_l hj]
    · rw [mK_f b, ndI_f b]
      exact nd_sum f K i
theorem nd_co {f g : Nat → Int32} {K n : Nat} (hK : K < 2 ^ n) (h : ∀ j, j < n → f j = g j) : ∀ i, ndI f K i = ndI g K i
  | 0 => rfl
  | i + 1 => by
    by_cases b : K.testBit i = true
    · rw [ndI_t b, ndI_t b, nd_co hK h i, h i (bit_lt hK b)]
    · rw [ndI_f b, ndI_f b]
      exact nd_co hK h i
set_option maxHeartbeats 4000000 in
set_option maxRecDepth 100000 in
theorem case_round (G : oG) {h : oH} {n T : Nat} (I : Inv h n T) (x w : Int32) : Case G mX5_round mX6_round [.int x, .int w] h n T := by
  obtain ⟨⟨a1, a2, a3⟩, ⟨b1, b2, b3⟩, ⟨c1, c2, c3⟩, ⟨d1, d2, d3⟩, ⟨e1, e2, e3⟩, ⟨f1, f2, f3⟩, g1, g2, g3⟩ := id I.2.2.1
  have hs := I.1.1
  have hh := I.1
  have h24 := hh.2.2.1
  have hc := I.2.1.1
  have hth := I.th 0
  by_cases hv : vSet n x
  · obtain ⟨K, hx, hK0, hK, hm8⟩ := hv
    have hn0 : 0 < n := by
      rcases Nat.eq_zero_or_pos n with z | z
      · rw [z] at hK
        omega
      · exact z
    have hm1 := mem_pos hK0 hK h24
    have hxy : ∀ h' : oH, (∀ a y, (a = 13 ∨ a = 14) → hI h' a y = hI h a y) → xyB (sX h' (mem K)) (sY h' (mem K)) := fun h' q => xyB_of hK hn0 (fun i hi => by
      have b := (I.2.2.2.1 i hi).2
      rw [q 13 i (Or.inl rfl), q 14 i (Or.inr rfl)]
      exact ⟨b.1, b.2.1⟩)
    by_cases w0 : w.toInt = 0
    · skip
      obtain ⟨h1, sp1, rt, en, er, ej, e⟩ := prep G I hK0 hK hm8 x hx
      have I1 := I.rtx hK0 hK hm8 rt en er ej e
      have hs1 := I1.1.1
      have hth1 := I1.th 0
      obtain ⟨h2, sp, g, fn, fr, fj, f⟩ := isSet_ok G (h := sI h1 12 0 0) (by exact hs1) (n := n) (by exact I1.2.1.2) h24 x hx hK0 hK hm8 (hxy _ (fun a y q => (sI_ne (by omega)).trans (e a y (by omega))))
      have I2 := (hth1.rf fn fr fj (fun a k c1 _ c3 => f a k c1 (by omega)))
      have hs2 := I2.1.1
      have I3 := (I2.rf (h' := fuH h2 (sX (sI h1 12 0 0) (mem K)) (sY (sI h1 12 0 0) (mem K)) (mem K).length) (fpH_n _) (fun a k => fpH_R _) (fun a k => fpH_J _) (fun a k _ c2 _ => fpH_o hm8 c2 _)).mono (Nat.le_succ T)
      have es : sD (sI h1 12 0 0) (mem K) = sD h (mem K) := sD_fr hK hn0 (fun j _ => (sI_ne (by omega)).trans (e 13 j (by omega))) (fun j _ => (sI_ne (by omega)).trans (e 14 j (by omega)))
      refine ⟨_, _, _, n, c_round0 G hh hc x hx hK0 hK hm8 w w0 sp1 hs1 en rt.2.1, (m_round0 G hs1 x w sp fn hs2 g w0 hm1).ri (Int32.toInt_inj.mp ?_), I3⟩
      rw [m_way hs2 g hm1, rt.2.2.1, ← sD_d, es]
    · skip
      obtain ⟨h1, sp, g, en, er, ej, e⟩ := isSet_ok G (h := sI h 12 0 0) (by exact hs) (n := n) (by exact I.2.1.2) h24 x hx hK0 hK hm8 (hxy _ (fun a y q => sI_ne (by omega)))
      have I1 := (hth.rf en er ej (fun a k c1 _ c3 => e a k c1 (by omega))).mono (Nat.le_succ T)
      have hs1 := I1.1.1
      have ef : ∀ a y, a ≠ 27 → a ≠ 12 → hI h1 a y = hI h a y := fun a y c1 c2 => (e a y c1 (by omega)).trans (sI_ne (by omega))
      have en1 : h1.1 = h.1 := en
      have hnd : sumI (fun k => nfM h1 ((mem K).getD k 0)) (mem K).length = ndI (nfC h) K 24 := by
        rw [mem_mK, nd_sum]
        refine nd_co hK (fun j hj => ?_) 24
        have q := (I.2.2.2.1 j hj).1
        unfold nfM nfC
        rw [ef 15 j (by decide) (by decide), ef 18 j (by decide) (by decide), q.2.2.1, q.2.2.2.2.2.2.2.2.1]
      by_cases w1 : w.toInt = 1
      · refine ⟨_, _, _, n, c_round1 G hh hc x hx hK0 hK hm8 w w1, (m_round1 G hs x w sp en1 hs1 g w1).ri (b1_iff ?_), I1⟩
        rw [hnd]
        rw [d1, f1, show hI h1 12 20 = hI h 12 20 from (e 12 20 (by decide) (by decide)).trans (sI_ne (by omega)), show hI h1 12 19 = hI h 12 19 from (e 12 19 (by decide) (by decide)).trans (sI_ne (by omega))]
      · by_cases w2 : w.toInt = 2
        · exact ⟨_, _, _, n, c_round2 G hh hc x hx hK0 hK hm8 w w2, (m_round2 G hs x w sp en1 hs1 g w2).ri hnd.symm, I1⟩
        · exact ⟨_, _, _, n, c_roundX G hh hc x hx hK0 hK hm8 w (by omega), m_roundX G hs x w sp en1 hs1 g (by omega), I1⟩
  · have hth := I.th 0
    obtain ⟨h1, sp, en, er, ej, e⟩ := isSet_no G (h := sI h 12 0 0) (by exact hs) (n := n) (by exact I.2.1.2) h24 x hv
    refine ⟨_, _, _, n, c_roundN G hs hc h24 x w hv, m_roundN G hs x w sp (by rw [en]; rfl), ((hth.rf en er ej (fun a k c1 _ c3 => e a k c1 (by omega))).mono (Nat.le_succ T))⟩

set_option maxHeartbeats 4000000 in
set_option maxRecDepth 100000 in
theorem case_stop (G : oG) {h : oH} {n T : Nat} (I : Inv h n T) (x w : Int32) : Case G mX5_stop mX6_stop [.int x, .int w] h n T := by
  obtain ⟨⟨a1, a2, a3⟩, ⟨b1, b2, b3⟩, ⟨c1, c2, c3⟩, ⟨d1, d2, d3⟩, ⟨e1, e2, e3⟩, ⟨f1, f2, f3⟩, g1, g2, g3⟩ := id I.2.2.1
  have hs := I.1.1
  have hh := I.1
  have h24 := hh.2.2.1
  have hc := I.2.1.1
  have hth := I.th 0
  by_cases hv : vSet n x
  · obtain ⟨K, hx, hK0, hK, hm8⟩ := hv
    have hn0 : 0 < n := by
      rcases Nat.eq_zero_or_pos n with z | z
      · rw [z] at hK
        omega
      · exact z
    have hm1 := mem_pos hK0 hK h24
    have hxy : ∀ h' : oH, (∀ a y, (a = 13 ∨ a = 14) → hI h' a y = hI h a y) → xyB (sX h' (mem K)) (sY h' (mem K)) := fun h' q => xyB_of hK hn0 (fun i hi => by
      have b := (I.2.2.2.1 i hi).2
      rw [q 13 i (Or.inl rfl), q 14 i (Or.inr rfl)]
      exact ⟨b.1, b.2.1⟩)
    obtain ⟨h1, sp1, rt, en, er, ej, e⟩ := prep G I hK0 hK hm8 x hx
    have I1 := I.rtx hK0 hK hm8 rt en er ej e
    have hs1 := I1.1.1
    have hth1 := I1.th 0
    obtain ⟨h2, sp, g, fn, fr, fj, f⟩ := isSet_ok G (h := sI h1 12 0 0) (by exact hs1) (n := n) (by exact I1.2.1.2) h24 x hx hK0 hK hm8 (hxy _ (fun a y q => (sI_ne (by omega)).trans (e a y (by omega))))
    have I2 := (hth1.rf fn fr fj (fun a k c1 _ c3 => f a k c1 (by omega)))
    have hs2 := I2.1.1
    have I3 := (I2.rf (h' := fuH h2 (sX (sI h1 12 0 0) (mem K)) (sY (sI h1 12 0 0) (mem K)) (mem K).length) (fpH_n _) (fun a k => fpH_R _) (fun a k => fpH_J _) (fun a k _ c2 _ => fpH_o hm8 c2 _)).mono (Nat.le_succ T)
    have es : sD (sI h1 12 0 0) (mem K) = sD h (mem K) := sD_fr hK hn0 (fun j _ => (sI_ne (by omega)).trans (e 13 j (by omega))) (fun j _ => (sI_ne (by omega)).trans (e 14 j (by omega)))
    by_cases hw : 0 ≤ w.toInt ∧ w.toInt < (mem K).length
    · obtain ⟨i, hwi, him⟩ : ∃ i : Nat, w.toInt = (i : Int) ∧ i < (mem K).length := ⟨w.toInt.toNat, by omega, by omega⟩
      refine ⟨_, _, _, n, c_stop G hh hc x hx hK0 hK hm8 w hwi him sp1 hs1 en rt.2.1, (m_stop G hs1 x w sp fn hs2 g hwi him).ri (Int32.toInt_inj.mp ?_), I3⟩
      obtain ⟨-, -, o3⟩ := och_f (D := sD (sI h1 12 0 0) (mem K)) (m := (mem K).length) (i + 1) (by omega)
      have o4 : (och (sD (sI h1 12 0 0) (mem K)) (mem K).length (i + 1)).2 < (mem K).length := by omega
      rw [rt.2.2.2 i him, show hI (fuH h2 (sX (sI h1 12 0 0) (mem K)) (sY (sI h1 12 0 0) (mem K)) (mem K).length) 27 _ = hI h2 27 _ from fpH_o hm8 (by decide) _, ← sD_d, (g.2.2.2.2 _ o4).1, es]
    · refine ⟨_, _, _, n, c_stopX G hh hc x hx hK0 hK hm8 w hw sp1 hs1 en rt.2.1, m_stopX G hs1 x w sp fn hs2 g hw, I2.mono (Nat.le_succ T)⟩
  · have hth := I.th 0
    obtain ⟨h1, sp, en, er, ej, e⟩ := isSet_no G (h := sI h 12 0 0) (by exact hs) (n := n) (by exact I.2.1.2) h24 x hv
    refine ⟨_, _, _, n, c_stopN G hs hc h24 x w hv, m_stopN G hs x w sp (by rw [en]; rfl), ((hth.rf en er ej (fun a k c1 _ c3 => e a k c1 (by omega))).mono (Nat.le_succ T))⟩

