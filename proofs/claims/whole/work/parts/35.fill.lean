set_option maxHeartbeats 4000000 in
set_option maxRecDepth 100000 in
theorem case_fill (G : oG) {h : oH} {n T : Nat} (I : Inv h n T) (hT : T ≤ 600) (v q : Int32) : Case G mX5_fill mX6_fill [.int v, .int q] h n T := by
  obtain ⟨⟨a1, a2, a3⟩, ⟨b1, b2, b3⟩, ⟨c1, c2, c3⟩, ⟨d1, d2, d3⟩, ⟨e1, e2, e3⟩, ⟨f1, f2, f3⟩, g1, g2, g3⟩ := id I.2.2.1
  have hs := I.1.1
  have hh := I.1
  by_cases hval : 0 ≤ v.toInt ∧ v.toInt < n
  · obtain ⟨i, hi, hv⟩ : ∃ i : Nat, i < n ∧ v.toInt = (i : Int) := ⟨v.toInt.toNat, by omega, by omega⟩
    have hn := I.2.1.2
    have h24 := hh.2.2.1
    obtain ⟨Ie, Ib⟩ := I.2.2.2.1 i hi
    obtain ⟨q0, q1, q2, q4, q5, q6, q7, q8, q9, q10, q11, q12, q13, q14, p0, p1, p2⟩ := id Ie
    obtain ⟨b1', b2', b3', b4', b5', b6', b7', b8', b9', b10', b11', b12', b13', b14', b15', b16', b17'⟩ := id Ib
    by_cases hq : 0 ≤ q.toInt ∧ q.toInt ≤ (hI h 15 i).toInt
    · by_cases hd : q.toInt ≤ (hI h 12 19).toInt
      · sorry
      · exact case_bad G I (c_fillD G hh v hi hv q (by rw [p0]; exact b14') (by rw [q2]; exact hq) (by rw [f1]; exact hd)) (m_fillD G hs hn h24 v hi hv q hq hd)
    · exact case_bad G I (c_fillX G hh v hi hv q (by rw [p0]; exact b14') (by rw [q2]; exact hq)) (m_fillX G hs hn h24 v hi hv q hq)
  · exact case_bad G I (c_fillN G hh v hval q) (m_fillN G hs I.2.1.2 hh.2.2.1 v hval q)

