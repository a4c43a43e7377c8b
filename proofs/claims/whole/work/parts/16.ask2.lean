/-! the case of ask -/
theorem pC_11 {h : oH} {z j : Nat} {v : Int32} : hI (pC h z v) 11 j = if j = z then v else hI h 11 j := by
  unfold pC
  rw [hI_sI, if_neg (fun q => absurd q.1 (by decide)), hI_sI]
  by_cases e : j = z
  · rw [if_pos ⟨rfl, e⟩, if_pos e]
  · rw [if_neg (fun q => e q.2), if_neg e]
theorem pM_34 {h : oH} {z j : Nat} {v : Int32} : hI (pM h z v) 34 j = if j = z then v else hI h 34 j := by
  unfold pM
  rw [hI_sI, if_neg (fun q => absurd q.1 (by decide)), hI_sI]
  by_cases e : j = z
  · rw [if_pos ⟨rfl, e⟩, if_pos e]
  · rw [if_neg (fun q => e q.2), if_neg e]
theorem pC_len {h : oH} {z : Nat} {v : Int32} : hI (pC h z v) 10 1 = nI (z + 1) := rfl
theorem pM_len {h : oH} {z : Nat} {v : Int32} : hI (pM h z v) 12 44 = nI (z + 1) := rfl
theorem pC_n {h : oH} {z : Nat} {v : Int32} : (pC h z v).1 = h.1 := rfl
theorem pM_n {h : oH} {z : Nat} {v : Int32} : (pM h z v).1 = h.1 := rfl
theorem pC_R {h : oH} {z a k : Nat} {v : Int32} : hR (pC h z v) a k = hR h a k := rfl
theorem pM_R {h : oH} {z a k : Nat} {v : Int32} : hR (pM h z v) a k = hR h a k := rfl
theorem pC_J {h : oH} {z a k : Nat} {v : Int32} : hJ (pC h z v) a k = hJ h a k := rfl
theorem pM_J {h : oH} {z a k : Nat} {v : Int32} : hJ (pM h z v) a k = hJ h a k := rfl
theorem pC_s {h : oH} {z : Nat} {v : Int32} (q : oSh h) : oSh (pC h z v) := q
theorem sE10 {h : oH} {a k : Nat} {v : Int32} (ha : a ≠ 10) : hI (sI h 10 1 v) a k = hI h a k := by rw [hI_sI, if_neg (fun q => ha q.1)]
theorem sE12 {h : oH} {a k : Nat} {v w : Int32} (ha : a ≠ 12) : hI (sI (sI h 12 0 v) 12 44 w) a k = hI h a k := by rw [hI_sI, if_neg (fun q => ha q.1), hI_sI, if_neg (fun q => ha q.1)]
theorem sE12k {h : oH} {k : Nat} {v w : Int32} (h0 : k ≠ 0) (h1 : k ≠ 44) : hI (sI (sI h 12 0 v) 12 44 w) 12 k = hI h 12 k := by rw [hI_sI, if_neg (fun q => h1 q.2), hI_sI, if_neg (fun q => h0 q.2)]
theorem pM_12 {h : oH} {z k : Nat} {v : Int32} (h1 : k ≠ 44) : hI (pM h z v) 12 k = hI h 12 k := by
  unfold pM
  rw [hI_sI, if_neg (fun q => h1 q.2), hI_sI, if_neg (fun q => absurd q.1 (by decide))]
set_option maxHeartbeats 4000000 in
set_option maxRecDepth 100000 in
theorem case_ask00 (G : oG) {h : oH} {n T : Nat} (I : Inv h n T) (v x : Int32) {i : Nat} (hi : i < n) (hv : v.toInt = (i : Int)) (hw : x.toInt = 0) (hk : kM h i = 0) (ke : tkC h (hid i) = kM h i) : Case G mX5_ask mX6_ask [.int v, .int x] h n T := by
  have hs := I.1.1
  have hh := I.1
  have hn := I.2.1.2
  have h24 := hh.2.2.1
  obtain ⟨q0, q1, q2, q3, q4, q5, q6, q7, q8, q9, q10, q11, q12, q13, q14⟩ := (I.2.2.2.1 i hi).1
  have hc := c_ask00 G hh v hi hv x hw (ke.trans hk)
  generalize hh1 : (pC (sI h 10 1 0) 0 10) = h1 at hc
  have e15 : hI h1 15 i = hI h 15 i := by rw [← hh1]; simp only [pC_o (show (15 : Nat) ≠ 10 by decide) (show (15 : Nat) ≠ 11 by decide), sE10 (show (15 : Nat) ≠ 10 by decide)]
  have e16 : ∀ k, hI h1 16 k = hI h 16 k := fun k => by rw [← hh1]; simp only [pC_o (show (16 : Nat) ≠ 10 by decide) (show (16 : Nat) ≠ 11 by decide), sE10 (show (16 : Nat) ≠ 10 by decide)]
  have e17 : hI h1 17 i = hI h 17 i := by rw [← hh1]; simp only [pC_o (show (17 : Nat) ≠ 10 by decide) (show (17 : Nat) ≠ 11 by decide), sE10 (show (17 : Nat) ≠ 10 by decide)]
  have e18 : hI h1 18 i = hI h 18 i := by rw [← hh1]; simp only [pC_o (show (18 : Nat) ≠ 10 by decide) (show (18 : Nat) ≠ 11 by decide), sE10 (show (18 : Nat) ≠ 10 by decide)]
  have e19 : ∀ k, hI h1 19 k = hI h 19 k := fun k => by rw [← hh1]; simp only [pC_o (show (19 : Nat) ≠ 10 by decide) (show (19 : Nat) ≠ 11 by decide), sE10 (show (19 : Nat) ≠ 10 by decide)]
  have e20 : ∀ k, hI h1 20 k = hI h 20 k := fun k => by rw [← hh1]; simp only [pC_o (show (20 : Nat) ≠ 10 by decide) (show (20 : Nat) ≠ 11 by decide), sE10 (show (20 : Nat) ≠ 10 by decide)]
  have e21 : ∀ k, hI h1 21 k = hI h 21 k := fun k => by rw [← hh1]; simp only [pC_o (show (21 : Nat) ≠ 10 by decide) (show (21 : Nat) ≠ 11 by decide), sE10 (show (21 : Nat) ≠ 10 by decide)]
  have e12 : ∀ k, hI h1 12 k = hI h 12 k := fun k => by rw [← hh1]; simp only [pC_o (show (12 : Nat) ≠ 10 by decide) (show (12 : Nat) ≠ 11 by decide), sE10 (show (12 : Nat) ≠ 10 by decide)]
  have eo : ∀ a k, a ≠ 10 → a ≠ 11 → hI h1 a k = hI h a k := fun a k p1 p2 => by rw [← hh1]; simp only [pC_o p1 p2, sE10 p1]
  have en : h1.1 = h.1 := by rw [← hh1]; simp only [pC_n, n_sI]
  have eR : ∀ a k, hR h1 a k = hR h a k := fun a k => by rw [← hh1]; simp only [pC_R, hR_sI]
  have eJ : ∀ a k, hJ h1 a k = hJ h a k := fun a k => by rw [← hh1]; simp only [pC_J, hJ_sI]
  have el : (hI h1 10 1).toInt = ((1 : Nat) : Int) := by rw [← hh1, pC_len]; decide
  have et : hI h1 11 0 = 10 := by rw [← hh1]; simp [pC_11]
  have hs1 : oSh h1 := (hh.fr en eR).1
  have hk1 : kM h1 i = 0 := by
    rw [← hk]
    unfold kM
    simp only [e16, e19, e20, e21]
  have hm := m_ask00 G hs1 (n := n) (by rw [e12]; exact hn) h24 v hi hv x hw hk1
  generalize hh2 : (pM (sI (sI h1 12 0 0) 12 44 0) 0 10) = h2 at hm
  have f34 : hI h2 34 0 = 10 := by rw [← hh2]; simp [pM_34]
  have fo : ∀ a k, a ≠ 12 → a ≠ 34 → hI h2 a k = hI h1 a k := fun a k p1 p2 => by rw [← hh2]; simp only [pM_o p1 p2, sE12 p1]
  have fk : ∀ k, k ≠ 0 → k ≠ 44 → hI h2 12 k = hI h1 12 k := fun k p1 p2 => by rw [← hh2]; simp only [pM_12 p2, sE12k p1 p2]
  have fn : h2.1 = h1.1 := by rw [← hh2]; simp only [pM_n, n_sI]
  have fR : ∀ a k, hR h2 a k = hR h1 a k := fun a k => by rw [← hh2]; simp only [pM_R, hR_sI]
  have fJ : ∀ a k, hJ h2 a k = hJ h1 a k := fun a k => by rw [← hh2]; simp only [pM_J, hJ_sI]
  have fl : (hI h2 12 44).toInt = ((1 : Nat) : Int) := by rw [← hh2, pM_len]; decide
  refine ⟨_, h1, h2, n, hc, hm.ri ?_, I.asx (Nat.le_succ T) (fn.trans en) (fun a k => (fR a k).trans (eR a k)) (fun a k => (fJ a k).trans (eJ a k)) (fun a k p1 p2 p3 p4 => (fo a k p4 p3).trans (eo a k p1 p2)) (fun k p1 p2 => (fk k p1 p2).trans (e12 k)) ⟨1, by decide, by rw [fo 10 1 (by decide) (by decide)]; exact el, fl, fun j hj => ?_⟩⟩
  · simp only [e15, e16, e17, e18, e19, q2, q3, q7, q8, q9, Int32.add_zero, Int32.sub_eq_add_neg]
  · rw [fo 11 j (by decide) (by decide)]
    rcases (show j = 0 by omega) with rfl <;> simp only [et, f34]
set_option maxHeartbeats 4000000 in
set_option maxRecDepth 100000 in
theorem case_ask01 (G : oG) {h : oH} {n T : Nat} (I : Inv h n T) (v x : Int32) {i : Nat} (hi : i < n) (hv : v.toInt = (i : Int)) (hw : x.toInt = 0) (hk : kM h i = 1) (ke : tkC h (hid i) = kM h i) : Case G mX5_ask mX6_ask [.int v, .int x] h n T := by
  have hs := I.1.1
  have hh := I.1
  have hn := I.2.1.2
  have h24 := hh.2.2.1
  obtain ⟨q0, q1, q2, q3, q4, q5, q6, q7, q8, q9, q10, q11, q12, q13, q14⟩ := (I.2.2.2.1 i hi).1
  have hc := c_ask01 G hh v hi hv x hw (ke.trans hk)
  generalize hh1 : (pC (pC (sI h 10 1 0) 0 11) (0 + 1) 10) = h1 at hc
  have e15 : hI h1 15 i = hI h 15 i := by rw [← hh1]; simp only [pC_o (show (15 : Nat) ≠ 10 by decide) (show (15 : Nat) ≠ 11 by decide), sE10 (show (15 : Nat) ≠ 10 by decide)]
  have e16 : ∀ k, hI h1 16 k = hI h 16 k := fun k => by rw [← hh1]; simp only [pC_o (show (16 : Nat) ≠ 10 by decide) (show (16 : Nat) ≠ 11 by decide), sE10 (show (16 : Nat) ≠ 10 by decide)]
  have e17 : hI h1 17 i = hI h 17 i := by rw [← hh1]; simp only [pC_o (show (17 : Nat) ≠ 10 by decide) (show (17 : Nat) ≠ 11 by decide), sE10 (show (17 : Nat) ≠ 10 by decide)]
  have e18 : hI h1 18 i = hI h 18 i := by rw [← hh1]; simp only [pC_o (show (18 : Nat) ≠ 10 by decide) (show (18 : Nat) ≠ 11 by decide), sE10 (show (18 : Nat) ≠ 10 by decide)]
  have e19 : ∀ k, hI h1 19 k = hI h 19 k := fun k => by rw [← hh1]; simp only [pC_o (show (19 : Nat) ≠ 10 by decide) (show (19 : Nat) ≠ 11 by decide), sE10 (show (19 : Nat) ≠ 10 by decide)]
  have e20 : ∀ k, hI h1 20 k = hI h 20 k := fun k => by rw [← hh1]; simp only [pC_o (show (20 : Nat) ≠ 10 by decide) (show (20 : Nat) ≠ 11 by decide), sE10 (show (20 : Nat) ≠ 10 by decide)]
  have e21 : ∀ k, hI h1 21 k = hI h 21 k := fun k => by rw [← hh1]; simp only [pC_o (show (21 : Nat) ≠ 10 by decide) (show (21 : Nat) ≠ 11 by decide), sE10 (show (21 : Nat) ≠ 10 by decide)]
  have e12 : ∀ k, hI h1 12 k = hI h 12 k := fun k => by rw [← hh1]; simp only [pC_o (show (12 : Nat) ≠ 10 by decide) (show (12 : Nat) ≠ 11 by decide), sE10 (show (12 : Nat) ≠ 10 by decide)]
  have eo : ∀ a k, a ≠ 10 → a ≠ 11 → hI h1 a k = hI h a k := fun a k p1 p2 => by rw [← hh1]; simp only [pC_o p1 p2, sE10 p1]
  have en : h1.1 = h.1 := by rw [← hh1]; simp only [pC_n, n_sI]
  have eR : ∀ a k, hR h1 a k = hR h a k := fun a k => by rw [← hh1]; simp only [pC_R, hR_sI]
  have eJ : ∀ a k, hJ h1 a k = hJ h a k := fun a k => by rw [← hh1]; simp only [pC_J, hJ_sI]
  have el : (hI h1 10 1).toInt = ((2 : Nat) : Int) := by rw [← hh1, pC_len]; decide
  have et : hI h1 11 0 = 11 ∧ hI h1 11 1 = 10 := by rw [← hh1]; simp [pC_11]
  have hs1 : oSh h1 := (hh.fr en eR).1
  have hk1 : kM h1 i = 1 := by
    rw [← hk]
    unfold kM
    simp only [e16, e19, e20, e21]
  have hm := m_ask01 G hs1 (n := n) (by rw [e12]; exact hn) h24 v hi hv x hw hk1
  generalize hh2 : (pM (pM (sI (sI h1 12 0 0) 12 44 0) 0 11) (0 + 1) 10) = h2 at hm
  have f34 : hI h2 34 0 = 11 ∧ hI h2 34 1 = 10 := by rw [← hh2]; simp [pM_34]
  have fo : ∀ a k, a ≠ 12 → a ≠ 34 → hI h2 a k = hI h1 a k := fun a k p1 p2 => by rw [← hh2]; simp only [pM_o p1 p2, sE12 p1]
  have fk : ∀ k, k ≠ 0 → k ≠ 44 → hI h2 12 k = hI h1 12 k := fun k p1 p2 => by rw [← hh2]; simp only [pM_12 p2, sE12k p1 p2]
  have fn : h2.1 = h1.1 := by rw [← hh2]; simp only [pM_n, n_sI]
  have fR : ∀ a k, hR h2 a k = hR h1 a k := fun a k => by rw [← hh2]; simp only [pM_R, hR_sI]
  have fJ : ∀ a k, hJ h2 a k = hJ h1 a k := fun a k => by rw [← hh2]; simp only [pM_J, hJ_sI]
  have fl : (hI h2 12 44).toInt = ((2 : Nat) : Int) := by rw [← hh2, pM_len]; decide
  refine ⟨_, h1, h2, n, hc, hm.ri ?_, I.asx (Nat.le_succ T) (fn.trans en) (fun a k => (fR a k).trans (eR a k)) (fun a k => (fJ a k).trans (eJ a k)) (fun a k p1 p2 p3 p4 => (fo a k p4 p3).trans (eo a k p1 p2)) (fun k p1 p2 => (fk k p1 p2).trans (e12 k)) ⟨2, by decide, by rw [fo 10 1 (by decide) (by decide)]; exact el, fl, fun j hj => ?_⟩⟩
  · simp only [e15, e16, e17, e18, e19, q2, q3, q7, q8, q9, Int32.add_zero, Int32.sub_eq_add_neg]
  · rw [fo 11 j (by decide) (by decide)]
    rcases (show j = 0 ∨ j = 1 by omega) with rfl | rfl <;> simp only [et, f34]
set_option maxHeartbeats 4000000 in
set_option maxRecDepth 100000 in
theorem case_ask02 (G : oG) {h : oH} {n T : Nat} (I : Inv h n T) (v x : Int32) {i : Nat} (hi : i < n) (hv : v.toInt = (i : Int)) (hw : x.toInt = 0) (hk : kM h i = 2) (ke : tkC h (hid i) = kM h i) : Case G mX5_ask mX6_ask [.int v, .int x] h n T := by
  have hs := I.1.1
  have hh := I.1
  have hn := I.2.1.2
  have h24 := hh.2.2.1
  obtain ⟨q0, q1, q2, q3, q4, q5, q6, q7, q8, q9, q10, q11, q12, q13, q14⟩ := (I.2.2.2.1 i hi).1
  have hc := c_ask02 G hh v hi hv x hw (ke.trans hk)
  generalize hh1 : (pC (pC (pC (sI h 10 1 0) 0 12) (0 + 1) 11) (0 + 2) 10) = h1 at hc
  have e15 : hI h1 15 i = hI h 15 i := by rw [← hh1]; simp only [pC_o (show (15 : Nat) ≠ 10 by decide) (show (15 : Nat) ≠ 11 by decide), sE10 (show (15 : Nat) ≠ 10 by decide)]
  have e16 : ∀ k, hI h1 16 k = hI h 16 k := fun k => by rw [← hh1]; simp only [pC_o (show (16 : Nat) ≠ 10 by decide) (show (16 : Nat) ≠ 11 by decide), sE10 (show (16 : Nat) ≠ 10 by decide)]
  have e17 : hI h1 17 i = hI h 17 i := by rw [← hh1]; simp only [pC_o (show (17 : Nat) ≠ 10 by decide) (show (17 : Nat) ≠ 11 by decide), sE10 (show (17 : Nat) ≠ 10 by decide)]
  have e18 : hI h1 18 i = hI h 18 i := by rw [← hh1]; simp only [pC_o (show (18 : Nat) ≠ 10 by decide) (show (18 : Nat) ≠ 11 by decide), sE10 (show (18 : Nat) ≠ 10 by decide)]
  have e19 : ∀ k, hI h1 19 k = hI h 19 k := fun k => by rw [← hh1]; simp only [pC_o (show (19 : Nat) ≠ 10 by decide) (show (19 : Nat) ≠ 11 by decide), sE10 (show (19 : Nat) ≠ 10 by decide)]
  have e20 : ∀ k, hI h1 20 k = hI h 20 k := fun k => by rw [← hh1]; simp only [pC_o (show (20 : Nat) ≠ 10 by decide) (show (20 : Nat) ≠ 11 by decide), sE10 (show (20 : Nat) ≠ 10 by decide)]
  have e21 : ∀ k, hI h1 21 k = hI h 21 k := fun k => by rw [← hh1]; simp only [pC_o (show (21 : Nat) ≠ 10 by decide) (show (21 : Nat) ≠ 11 by decide), sE10 (show (21 : Nat) ≠ 10 by decide)]
  have e12 : ∀ k, hI h1 12 k = hI h 12 k := fun k => by rw [← hh1]; simp only [pC_o (show (12 : Nat) ≠ 10 by decide) (show (12 : Nat) ≠ 11 by decide), sE10 (show (12 : Nat) ≠ 10 by decide)]
  have eo : ∀ a k, a ≠ 10 → a ≠ 11 → hI h1 a k = hI h a k := fun a k p1 p2 => by rw [← hh1]; simp only [pC_o p1 p2, sE10 p1]
  have en : h1.1 = h.1 := by rw [← hh1]; simp only [pC_n, n_sI]
  have eR : ∀ a k, hR h1 a k = hR h a k := fun a k => by rw [← hh1]; simp only [pC_R, hR_sI]
  have eJ : ∀ a k, hJ h1 a k = hJ h a k := fun a k => by rw [← hh1]; simp only [pC_J, hJ_sI]
  have el : (hI h1 10 1).toInt = ((3 : Nat) : Int) := by rw [← hh1, pC_len]; decide
  have et : hI h1 11 0 = 12 ∧ hI h1 11 1 = 11 ∧ hI h1 11 2 = 10 := by rw [← hh1]; simp [pC_11]
  have hs1 : oSh h1 := (hh.fr en eR).1
  have hk1 : kM h1 i = 2 := by
    rw [← hk]
    unfold kM
    simp only [e16, e19, e20, e21]
  have hm := m_ask02 G hs1 (n := n) (by rw [e12]; exact hn) h24 v hi hv x hw hk1
  generalize hh2 : (pM (pM (pM (sI (sI h1 12 0 0) 12 44 0) 0 12) (0 + 1) 11) (0 + 2) 10) = h2 at hm
  have f34 : hI h2 34 0 = 12 ∧ hI h2 34 1 = 11 ∧ hI h2 34 2 = 10 := by rw [← hh2]; simp [pM_34]
  have fo : ∀ a k, a ≠ 12 → a ≠ 34 → hI h2 a k = hI h1 a k := fun a k p1 p2 => by rw [← hh2]; simp only [pM_o p1 p2, sE12 p1]
  have fk : ∀ k, k ≠ 0 → k ≠ 44 → hI h2 12 k = hI h1 12 k := fun k p1 p2 => by rw [← hh2]; simp only [pM_12 p2, sE12k p1 p2]
  have fn : h2.1 = h1.1 := by rw [← hh2]; simp only [pM_n, n_sI]
  have fR : ∀ a k, hR h2 a k = hR h1 a k := fun a k => by rw [← hh2]; simp only [pM_R, hR_sI]
  have fJ : ∀ a k, hJ h2 a k = hJ h1 a k := fun a k => by rw [← hh2]; simp only [pM_J, hJ_sI]
  have fl : (hI h2 12 44).toInt = ((3 : Nat) : Int) := by rw [← hh2, pM_len]; decide
  refine ⟨_, h1, h2, n, hc, hm.ri ?_, I.asx (Nat.le_succ T) (fn.trans en) (fun a k => (fR a k).trans (eR a k)) (fun a k => (fJ a k).trans (eJ a k)) (fun a k p1 p2 p3 p4 => (fo a k p4 p3).trans (eo a k p1 p2)) (fun k p1 p2 => (fk k p1 p2).trans (e12 k)) ⟨3, by decide, by rw [fo 10 1 (by decide) (by decide)]; exact el, fl, fun j hj => ?_⟩⟩
  · simp only [e15, e16, e17, e18, e19, q2, q3, q7, q8, q9, Int32.add_zero, Int32.sub_eq_add_neg]
  · rw [fo 11 j (by decide) (by decide)]
    rcases (show j = 0 ∨ j = 1 ∨ j = 2 by omega) with rfl | rfl | rfl <;> simp only [et, f34]
set_option maxHeartbeats 4000000 in
set_option maxRecDepth 100000 in
theorem case_ask03 (G : oG) {h : oH} {n T : Nat} (I : Inv h n T) (v x : Int32) {i : Nat} (hi : i < n) (hv : v.toInt = (i : Int)) (hw : x.toInt = 0) (hk : kM h i = 3) (ke : tkC h (hid i) = kM h i) : Case G mX5_ask mX6_ask [.int v, .int x] h n T := by
  have hs := I.1.1
  have hh := I.1
  have hn := I.2.1.2
  have h24 := hh.2.2.1
  obtain ⟨q0, q1, q2, q3, q4, q5, q6, q7, q8, q9, q10, q11, q12, q13, q14⟩ := (I.2.2.2.1 i hi).1
  have hc := c_ask03 G hh v hi hv x hw (ke.trans hk)
  generalize hh1 : (pC (pC (sI h 10 1 0) 0 13) (0 + 1) 10) = h1 at hc
  have e15 : hI h1 15 i = hI h 15 i := by rw [← hh1]; simp only [pC_o (show (15 : Nat) ≠ 10 by decide) (show (15 : Nat) ≠ 11 by decide), sE10 (show (15 : Nat) ≠ 10 by decide)]
  have e16 : ∀ k, hI h1 16 k = hI h 16 k := fun k => by rw [← hh1]; simp only [pC_o (show (16 : Nat) ≠ 10 by decide) (show (16 : Nat) ≠ 11 by decide), sE10 (show (16 : Nat) ≠ 10 by decide)]
  have e17 : hI h1 17 i = hI h 17 i := by rw [← hh1]; simp only [pC_o (show (17 : Nat) ≠ 10 by decide) (show (17 : Nat) ≠ 11 by decide), sE10 (show (17 : Nat) ≠ 10 by decide)]
  have e18 : hI h1 18 i = hI h 18 i := by rw [← hh1]; simp only [pC_o (show (18 : Nat) ≠ 10 by decide) (show (18 : Nat) ≠ 11 by decide), sE10 (show (18 : Nat) ≠ 10 by decide)]
  have e19 : ∀ k, hI h1 19 k = hI h 19 k := fun k => by rw [← hh1]; simp only [pC_o (show (19 : Nat) ≠ 10 by decide) (show (19 : Nat) ≠ 11 by decide), sE10 (show (19 : Nat) ≠ 10 by decide)]
  have e20 : ∀ k, hI h1 20 k = hI h 20 k := fun k => by rw [← hh1]; simp only [pC_o (show (20 : Nat) ≠ 10 by decide) (show (20 : Nat) ≠ 11 by decide), sE10 (show (20 : Nat) ≠ 10 by decide)]
  have e21 : ∀ k, hI h1 21 k = hI h 21 k := fun k => by rw [← hh1]; simp only [pC_o (show (21 : Nat) ≠ 10 by decide) (show (21 : Nat) ≠ 11 by decide), sE10 (show (21 : Nat) ≠ 10 by decide)]
  have e12 : ∀ k, hI h1 12 k = hI h 12 k := fun k => by rw [← hh1]; simp only [pC_o (show (12 : Nat) ≠ 10 by decide) (show (12 : Nat) ≠ 11 by decide), sE10 (show (12 : Nat) ≠ 10 by decide)]
  have eo : ∀ a k, a ≠ 10 → a ≠ 11 → hI h1 a k = hI h a k := fun a k p1 p2 => by rw [← hh1]; simp only [pC_o p1 p2, sE10 p1]
  have en : h1.1 = h.1 := by rw [← hh1]; simp only [pC_n, n_sI]
  have eR : ∀ a k, hR h1 a k = hR h a k := fun a k => by rw [← hh1]; simp only [pC_R, hR_sI]
  have eJ : ∀ a k, hJ h1 a k = hJ h a k := fun a k => by rw [← hh1]; simp only [pC_J, hJ_sI]
  have el : (hI h1 10 1).toInt = ((2 : Nat) : Int) := by rw [← hh1, pC_len]; decide
  have et : hI h1 11 0 = 13 ∧ hI h1 11 1 = 10 := by rw [← hh1]; simp [pC_11]
  have hs1 : oSh h1 := (hh.fr en eR).1
  have hk1 : kM h1 i = 3 := by
    rw [← hk]
    unfold kM
    simp only [e16, e19, e20, e21]
  have hm := m_ask03 G hs1 (n := n) (by rw [e12]; exact hn) h24 v hi hv x hw hk1
  generalize hh2 : (pM (pM (sI (sI h1 12 0 0) 12 44 0) 0 13) (0 + 1) 10) = h2 at hm
  have f34 : hI h2 34 0 = 13 ∧ hI h2 34 1 = 10 := by rw [← hh2]; simp [pM_34]
  have fo : ∀ a k, a ≠ 12 → a ≠ 34 → hI h2 a k = hI h1 a k := fun a k p1 p2 => by rw [← hh2]; simp only [pM_o p1 p2, sE12 p1]
  have fk : ∀ k, k ≠ 0 → k ≠ 44 → hI h2 12 k = hI h1 12 k := fun k p1 p2 => by rw [← hh2]; simp only [pM_12 p2, sE12k p1 p2]
  have fn : h2.1 = h1.1 := by rw [← hh2]; simp only [pM_n, n_sI]
  have fR : ∀ a k, hR h2 a k = hR h1 a k := fun a k => by rw [← hh2]; simp only [pM_R, hR_sI]
  have fJ : ∀ a k, hJ h2 a k = hJ h1 a k := fun a k => by rw [← hh2]; simp only [pM_J, hJ_sI]
  have fl : (hI h2 12 44).toInt = ((2 : Nat) : Int) := by rw [← hh2, pM_len]; decide
  refine ⟨_, h1, h2, n, hc, hm.ri ?_, I.asx (Nat.le_succ T) (fn.trans en) (fun a k => (fR a k).trans (eR a k)) (fun a k => (fJ a k).trans (eJ a k)) (fun a k p1 p2 p3 p4 => (fo a k p4 p3).trans (eo a k p1 p2)) (fun k p1 p2 => (fk k p1 p2).trans (e12 k)) ⟨2, by decide, by rw [fo 10 1 (by decide) (by decide)]; exact el, fl, fun j hj => ?_⟩⟩
  · simp only [e15, e16, e17, e18, e19, q2, q3, q7, q8, q9, Int32.add_zero, Int32.sub_eq_add_neg]
  · rw [fo 11 j (by decide) (by decide)]
    rcases (show j = 0 ∨ j = 1 by omega) with rfl | rfl <;> simp only [et, f34]
set_option maxHeartbeats 4000000 in
set_option maxRecDepth 100000 in
theorem case_ask10 (G : oG) {h : oH} {n T : Nat} (I : Inv h n T) (v x : Int32) {i : Nat} (hi : i < n) (hv : v.toInt = (i : Int)) (hw : x.toInt = 1) (hk : kM h i = 0) (ke : tkC h (hid i) = kM h i) : Case G mX5_ask mX6_ask [.int v, .int x] h n T := by
  have hs := I.1.1
  have hh := I.1
  have hn := I.2.1.2
  have h24 := hh.2.2.1
  obtain ⟨q0, q1, q2, q3, q4, q5, q6, q7, q8, q9, q10, q11, q12, q13, q14⟩ := (I.2.2.2.1 i hi).1
  have hc := c_ask10 G hh v hi hv x hw (ke.trans hk)
  generalize hh1 : (pC (sI h 10 1 0) 0 20) = h1 at hc
  have e15 : hI h1 15 i = hI h 15 i := by rw [← hh1]; simp only [pC_o (show (15 : Nat) ≠ 10 by decide) (show (15 : Nat) ≠ 11 by decide), sE10 (show (15 : Nat) ≠ 10 by decide)]
  have e16 : ∀ k, hI h1 16 k = hI h 16 k := fun k => by rw [← hh1]; simp only [pC_o (show (16 : Nat) ≠ 10 by decide) (show (16 : Nat) ≠ 11 by decide), sE10 (show (16 : Nat) ≠ 10 by decide)]
  have e17 : hI h1 17 i = hI h 17 i := by rw [← hh1]; simp only [pC_o (show (17 : Nat) ≠ 10 by decide) (show (17 : Nat) ≠ 11 by decide), sE10 (show (17 : Nat) ≠ 10 by decide)]
  have e18 : hI h1 18 i = hI h 18 i := by rw [← hh1]; simp only [pC_o (show (18 : Nat) ≠ 10 by decide) (show (18 : Nat) ≠ 11 by decide), sE10 (show (18 : Nat) ≠ 10 by decide)]
  have e19 : ∀ k, hI h1 19 k = hI h 19 k := fun k => by rw [← hh1]; simp only [pC_o (show (19 : Nat) ≠ 10 by decide) (show (19 : Nat) ≠ 11 by decide), sE10 (show (19 : Nat) ≠ 10 by decide)]
  have e20 : ∀ k, hI h1 20 k = hI h 20 k := fun k => by rw [← hh1]; simp only [pC_o (show (20 : Nat) ≠ 10 by decide) (show (20 : Nat) ≠ 11 by decide), sE10 (show (20 : Nat) ≠ 10 by decide)]
  have e21 : ∀ k, hI h1 21 k = hI h 21 k := fun k => by rw [← hh1]; simp only [pC_o (show (21 : Nat) ≠ 10 by decide) (show (21 : Nat) ≠ 11 by decide), sE10 (show (21 : Nat) ≠ 10 by decide)]
  have e12 : ∀ k, hI h1 12 k = hI h 12 k := fun k => by rw [← hh1]; simp only [pC_o (show (12 : Nat) ≠ 10 by decide) (show (12 : Nat) ≠ 11 by decide), sE10 (show (12 : Nat) ≠ 10 by decide)]
  have eo : ∀ a k, a ≠ 10 → a ≠ 11 → hI h1 a k = hI h a k := fun a k p1 p2 => by rw [← hh1]; simp only [pC_o p1 p2, sE10 p1]
  have en : h1.1 = h.1 := by rw [← hh1]; simp only [pC_n, n_sI]
  have eR : ∀ a k, hR h1 a k = hR h a k := fun a k => by rw [← hh1]; simp only [pC_R, hR_sI]
  have eJ : ∀ a k, hJ h1 a k = hJ h a k := fun a k => by rw [← hh1]; simp only [pC_J, hJ_sI]
  have el : (hI h1 10 1).toInt = ((1 : Nat) : Int) := by rw [← hh1, pC_len]; decide
  have et : hI h1 11 0 = 20 := by rw [← hh1]; simp [pC_11]
  have hs1 : oSh h1 := (hh.fr en eR).1
  have hk1 : kM h1 i = 0 := by
    rw [← hk]
    unfold kM
    simp only [e16, e19, e20, e21]
  have hm := m_ask10 G hs1 (n := n) (by rw [e12]; exact hn) h24 v hi hv x hw hk1
  generalize hh2 : (pM (sI (sI h1 12 0 0) 12 44 0) 0 20) = h2 at hm
  have f34 : hI h2 34 0 = 20 := by rw [← hh2]; simp [pM_34]
  have fo : ∀ a k, a ≠ 12 → a ≠ 34 → hI h2 a k = hI h1 a k := fun a k p1 p2 => by rw [← hh2]; simp only [pM_o p1 p2, sE12 p1]
  have fk : ∀ k, k ≠ 0 → k ≠ 44 → hI h2 12 k = hI h1 12 k := fun k p1 p2 => by rw [← hh2]; simp only [pM_12 p2, sE12k p1 p2]
  have fn : h2.1 = h1.1 := by rw [← hh2]; simp only [pM_n, n_sI]
  have fR : ∀ a k, hR h2 a k = hR h1 a k := fun a k => by rw [← hh2]; simp only [pM_R, hR_sI]
  have fJ : ∀ a k, hJ h2 a k = hJ h1 a k := fun a k => by rw [← hh2]; simp only [pM_J, hJ_sI]
  have fl : (hI h2 12 44).toInt = ((1 : Nat) : Int) := by rw [← hh2, pM_len]; decide
  refine ⟨_, h1, h2, n, hc, hm.ri ?_, I.asx (Nat.le_succ T) (fn.trans en) (fun a k => (fR a k).trans (eR a k)) (fun a k => (fJ a k).trans (eJ a k)) (fun a k p1 p2 p3 p4 => (fo a k p4 p3).trans (eo a k p1 p2)) (fun k p1 p2 => (fk k p1 p2).trans (e12 k)) ⟨1, by decide, by rw [fo 10 1 (by decide) (by decide)]; exact el, fl, fun j hj => ?_⟩⟩
  · simp only [e15, e16, e17, e18, e19, q2, q3, q7, q8, q9, Int32.add_zero, Int32.sub_eq_add_neg]
  · rw [fo 11 j (by decide) (by decide)]
    rcases (show j = 0 by omega) with rfl <;> simp only [et, f34]
set_option maxHeartbeats 4000000 in
set_option maxRecDepth 100000 in
theorem case_ask11 (G : oG) {h : oH} {n T : Nat} (I : Inv h n T) (v x : Int32) {i : Nat} (hi : i < n) (hv : v.toInt = (i : Int)) (hw : x.toInt = 1) (hk : kM h i = 1) (ke : tkC h (hid i) = kM h i) : Case G mX5_ask mX6_ask [.int v, .int x] h n T := by
  have hs := I.1.1
  have hh := I.1
  have hn := I.2.1.2
  have h24 := hh.2.2.1
  obtain ⟨q0, q1, q2, q3, q4, q5, q6, q7, q8, q9, q10, q11, q12, q13, q14⟩ := (I.2.2.2.1 i hi).1
  have hc := c_ask11 G hh v hi hv x hw (ke.trans hk)
  generalize hh1 : (pC (pC (pC (pC (sI h 10 1 0) 0 21) (0 + 1) 20) (0 + 2) 11) (0 + 3) 10) = h1 at hc
  have e15 : hI h1 15 i = hI h 15 i := by rw [← hh1]; simp only [pC_o (show (15 : Nat) ≠ 10 by decide) (show (15 : Nat) ≠ 11 by decide), sE10 (show (15 : Nat) ≠ 10 by decide)]
  have e16 : ∀ k, hI h1 16 k = hI h 16 k := fun k => by rw [← hh1]; simp only [pC_o (show (16 : Nat) ≠ 10 by decide) (show (16 : Nat) ≠ 11 by decide), sE10 (show (16 : Nat) ≠ 10 by decide)]
  have e17 : hI h1 17 i = hI h 17 i := by rw [← hh1]; simp only [pC_o (show (17 : Nat) ≠ 10 by decide) (show (17 : Nat) ≠ 11 by decide), sE10 (show (17 : Nat) ≠ 10 by decide)]
  have e18 : hI h1 18 i = hI h 18 i := by rw [← hh1]; simp only [pC_o (show (18 : Nat) ≠ 10 by decide) (show (18 : Nat) ≠ 11 by decide), sE10 (show (18 : Nat) ≠ 10 by decide)]
  have e19 : ∀ k, hI h1 19 k = hI h 19 k := fun k => by rw [← hh1]; simp only [pC_o (show (19 : Nat) ≠ 10 by decide) (show (19 : Nat) ≠ 11 by decide), sE10 (show (19 : Nat) ≠ 10 by decide)]
  have e20 : ∀ k, hI h1 20 k = hI h 20 k := fun k => by rw [← hh1]; simp only [pC_o (show (20 : Nat) ≠ 10 by decide) (show (20 : Nat) ≠ 11 by decide), sE10 (show (20 : Nat) ≠ 10 by decide)]
  have e21 : ∀ k, hI h1 21 k = hI h 21 k := fun k => by rw [← hh1]; simp only [pC_o (show (21 : Nat) ≠ 10 by decide) (show (21 : Nat) ≠ 11 by decide), sE10 (show (21 : Nat) ≠ 10 by decide)]
  have e12 : ∀ k, hI h1 12 k = hI h 12 k := fun k => by rw [← hh1]; simp only [pC_o (show (12 : Nat) ≠ 10 by decide) (show (12 : Nat) ≠ 11 by decide), sE10 (show (12 : Nat) ≠ 10 by decide)]
  have eo : ∀ a k, a ≠ 10 → a ≠ 11 → hI h1 a k = hI h a k := fun a k p1 p2 => by rw [← hh1]; simp only [pC_o p1 p2, sE10 p1]
  have en : h1.1 = h.1 := by rw [← hh1]; simp only [pC_n, n_sI]
  have eR : ∀ a k, hR h1 a k = hR h a k := fun a k => by rw [← hh1]; simp only [pC_R, hR_sI]
  have eJ : ∀ a k, hJ h1 a k = hJ h a k := fun a k => by rw [← hh1]; simp only [pC_J, hJ_sI]
  have el : (hI h1 10 1).toInt = ((4 : Nat) : Int) := by rw [← hh1, pC_len]; decide
  have et : hI h1 11 0 = 21 ∧ hI h1 11 1 = 20 ∧ hI h1 11 2 = 11 ∧ hI h1 11 3 = 10 := by rw [← hh1]; simp [pC_11]
  have hs1 : oSh h1 := (hh.fr en eR).1
  have hk1 : kM h1 i = 1 := by
    rw [← hk]
    unfold kM
    simp only [e16, e19, e20, e21]
  have hm := m_ask11 G hs1 (n := n) (by rw [e12]; exact hn) h24 v hi hv x hw hk1
  generalize hh2 : (pM (pM (pM (pM (sI (sI h1 12 0 0) 12 44 0) 0 21) (0 + 1) 20) (0 + 2) 11) (0 + 3) 10) = h2 at hm
  have f34 : hI h2 34 0 = 21 ∧ hI h2 34 1 = 20 ∧ hI h2 34 2 = 11 ∧ hI h2 34 3 = 10 := by rw [← hh2]; simp [pM_34]
  have fo : ∀ a k, a ≠ 12 → a ≠ 34 → hI h2 a k = hI h1 a k := fun a k p1 p2 => by rw [← hh2]; simp only [pM_o p1 p2, sE12 p1]
  have fk : ∀ k, k ≠ 0 → k ≠ 44 → hI h2 12 k = hI h1 12 k := fun k p1 p2 => by rw [← hh2]; simp only [pM_12 p2, sE12k p1 p2]
  have fn : h2.1 = h1.1 := by rw [← hh2]; simp only [pM_n, n_sI]
  have fR : ∀ a k, hR h2 a k = hR h1 a k := fun a k => by rw [← hh2]; simp only [pM_R, hR_sI]
  have fJ : ∀ a k, hJ h2 a k = hJ h1 a k := fun a k => by rw [← hh2]; simp only [pM_J, hJ_sI]
  have fl : (hI h2 12 44).toInt = ((4 : Nat) : Int) := by rw [← hh2, pM_len]; decide
  refine ⟨_, h1, h2, n, hc, hm.ri ?_, I.asx (Nat.le_succ T) (fn.trans en) (fun a k => (fR a k).trans (eR a k)) (fun a k => (fJ a k).trans (eJ a k)) (fun a k p1 p2 p3 p4 => (fo a k p4 p3).trans (eo a k p1 p2)) (fun k p1 p2 => (fk k p1 p2).trans (e12 k)) ⟨4, by decide, by rw [fo 10 1 (by decide) (by decide)]; exact el, fl, fun j hj => ?_⟩⟩
  · simp only [e15, e16, e17, e18, e19, q2, q3, q7, q8, q9, Int32.add_zero, Int32.sub_eq_add_neg]
  · rw [fo 11 j (by decide) (by decide)]
    rcases (show j = 0 ∨ j = 1 ∨ j = 2 ∨ j = 3 by omega) with rfl | rfl | rfl | rfl <;> simp only [et, f34]
set_option maxHeartbeats 4000000 in
set_option maxRecDepth 100000 in
theorem case_ask12 (G : oG) {h : oH} {n T : Nat} (I : Inv h n T) (v x : Int32) {i : Nat} (hi : i < n) (hv : v.toInt = (i : Int)) (hw : x.toInt = 1) (hk : kM h i = 2) (ke : tkC h (hid i) = kM h i) : Case G mX5_ask mX6_ask [.int v, .int x] h n T := by
  have hs := I.1.1
  have hh := I.1
  have hn := I.2.1.2
  have h24 := hh.2.2.1
  obtain ⟨q0, q1, q2, q3, q4, q5, q6, q7, q8, q9, q10, q11, q12, q13, q14⟩ := (I.2.2.2.1 i hi).1
  have hc := c_ask12 G hh v hi hv x hw (ke.trans hk)
  generalize hh1 : (pC (pC (pC (pC (pC (sI h 10 1 0) 0 21) (0 + 1) 20) (0 + 2) 12) (0 + 3) 11) (0 + 4) 10) = h1 at hc
  have e15 : hI h1 15 i = hI h 15 i := by rw [← hh1]; simp only [pC_o (show (15 : Nat) ≠ 10 by decide) (show (15 : Nat) ≠ 11 by decide), sE10 (show (15 : Nat) ≠ 10 by decide)]
  have e16 : ∀ k, hI h1 16 k = hI h 16 k := fun k => by rw [← hh1]; simp only [pC_o (show (16 : Nat) ≠ 10 by decide) (show (16 : Nat) ≠ 11 by decide), sE10 (show (16 : Nat) ≠ 10 by decide)]
  have e17 : hI h1 17 i = hI h 17 i := by rw [← hh1]; simp only [pC_o (show (17 : Nat) ≠ 10 by decide) (show (17 : Nat) ≠ 11 by decide), sE10 (show (17 : Nat) ≠ 10 by decide)]
  have e18 : hI h1 18 i = hI h 18 i := by rw [← hh1]; simp only [pC_o (show (18 : Nat) ≠ 10 by decide) (show (18 : Nat) ≠ 11 by decide), sE10 (show (18 : Nat) ≠ 10 by decide)]
  have e19 : ∀ k, hI h1 19 k = hI h 19 k := fun k => by rw [← hh1]; simp only [pC_o (show (19 : Nat) ≠ 10 by decide) (show (19 : Nat) ≠ 11 by decide), sE10 (show (19 : Nat) ≠ 10 by decide)]
  have e20 : ∀ k, hI h1 20 k = hI h 20 k := fun k => by rw [← hh1]; simp only [pC_o (show (20 : Nat) ≠ 10 by decide) (show (20 : Nat) ≠ 11 by decide), sE10 (show (20 : Nat) ≠ 10 by decide)]
  have e21 : ∀ k, hI h1 21 k = hI h 21 k := fun k => by rw [← hh1]; simp only [pC_o (show (21 : Nat) ≠ 10 by decide) (show (21 : Nat) ≠ 11 by decide), sE10 (show (21 : Nat) ≠ 10 by decide)]
  have e12 : ∀ k, hI h1 12 k = hI h 12 k := fun k => by rw [← hh1]; simp only [pC_o (show (12 : Nat) ≠ 10 by decide) (show (12 : Nat) ≠ 11 by decide), sE10 (show (12 : Nat) ≠ 10 by decide)]
  have eo : ∀ a k, a ≠ 10 → a ≠ 11 → hI h1 a k = hI h a k := fun a k p1 p2 => by rw [← hh1]; simp only [pC_o p1 p2, sE10 p1]
  have en : h1.1 = h.1 := by rw [← hh1]; simp only [pC_n, n_sI]
  have eR : ∀ a k, hR h1 a k = hR h a k := fun a k => by rw [← hh1]; simp only [pC_R, hR_sI]
  have eJ : ∀ a k, hJ h1 a k = hJ h a k := fun a k => by rw [← hh1]; simp only [pC_J, hJ_sI]
  have el : (hI h1 10 1).toInt = ((5 : Nat) : Int) := by rw [← hh1, pC_len]; decide
  have et : hI h1 11 0 = 21 ∧ hI h1 11 1 = 20 ∧ hI h1 11 2 = 12 ∧ hI h1 11 3 = 11 ∧ hI h1 11 4 = 10 := by rw [← hh1]; simp [pC_11]
  have hs1 : oSh h1 := (hh.fr en eR).1
  have hk1 : kM h1 i = 2 := by
    rw [← hk]
    unfold kM
    simp only [e16, e19, e20, e21]
  have hm := m_ask12 G hs1 (n := n) (by rw [e12]; exact hn) h24 v hi hv x hw hk1
  generalize hh2 : (pM (pM (pM (pM (pM (sI (sI h1 12 0 0) 12 44 0) 0 21) (0 + 1) 20) (0 + 2) 12) (0 + 3) 11) (0 + 4) 10) = h2 at hm
  have f34 : hI h2 34 0 = 21 ∧ hI h2 34 1 = 20 ∧ hI h2 34 2 = 12 ∧ hI h2 34 3 = 11 ∧ hI h2 34 4 = 10 := by rw [← hh2]; simp [pM_34]
  have fo : ∀ a k, a ≠ 12 → a ≠ 34 → hI h2 a k = hI h1 a k := fun a k p1 p2 => by rw [← hh2]; simp only [pM_o p1 p2, sE12 p1]
  have fk : ∀ k, k ≠ 0 → k ≠ 44 → hI h2 12 k = hI h1 12 k := fun k p1 p2 => by rw [← hh2]; simp only [pM_12 p2, sE12k p1 p2]
  have fn : h2.1 = h1.1 := by rw [← hh2]; simp only [pM_n, n_sI]
  have fR : ∀ a k, hR h2 a k = hR h1 a k := fun a k => by rw [← hh2]; simp only [pM_R, hR_sI]
  have fJ : ∀ a k, hJ h2 a k = hJ h1 a k := fun a k => by rw [← hh2]; simp only [pM_J, hJ_sI]
  have fl : (hI h2 12 44).toInt = ((5 : Nat) : Int) := by rw [← hh2, pM_len]; decide
  refine ⟨_, h1, h2, n, hc, hm.ri ?_, I.asx (Nat.le_succ T) (fn.trans en) (fun a k => (fR a k).trans (eR a k)) (fun a k => (fJ a k).trans (eJ a k)) (fun a k p1 p2 p3 p4 => (fo a k p4 p3).trans (eo a k p1 p2)) (fun k p1 p2 => (fk k p1 p2).trans (e12 k)) ⟨5, by decide, by rw [fo 10 1 (by decide) (by decide)]; exact el, fl, fun j hj => ?_⟩⟩
  · simp only [e15, e16, e17, e18, e19, q2, q3, q7, q8, q9, Int32.add_zero, Int32.sub_eq_add_neg]
  · rw [fo 11 j (by decide) (by decide)]
    rcases (show j = 0 ∨ j = 1 ∨ j = 2 ∨ j = 3 ∨ j = 4 by omega) with rfl | rfl | rfl | rfl | rfl <;> simp only [et, f34]
set_option maxHeartbeats 4000000 in
set_option maxRecDepth 100000 in
theorem case_ask13 (G : oG) {h : oH} {n T : Nat} (I : Inv h n T) (v x : Int32) {i : Nat} (hi : i < n) (hv : v.toInt = (i : Int)) (hw : x.toInt = 1) (hk : kM h i = 3) (ke : tkC h (hid i) = kM h i) : Case G mX5_ask mX6_ask [.int v, .int x] h n T := by
  have hs := I.1.1
  have hh := I.1
  have hn := I.2.1.2
  have h24 := hh.2.2.1
  obtain ⟨q0, q1, q2, q3, q4, q5, q6, q7, q8, q9, q10, q11, q12, q13, q14⟩ := (I.2.2.2.1 i hi).1
  have hc := c_ask13 G hh v hi hv x hw (ke.trans hk)
  generalize hh1 : (pC (pC (pC (pC (sI h 10 1 0) 0 22) (0 + 1) 20) (0 + 2) 13) (0 + 3) 10) = h1 at hc
  have e15 : hI h1 15 i = hI h 15 i := by rw [← hh1]; simp only [pC_o (show (15 : Nat) ≠ 10 by decide) (show (15 : Nat) ≠ 11 by decide), sE10 (show (15 : Nat) ≠ 10 by decide)]
  have e16 : ∀ k, hI h1 16 k = hI h 16 k := fun k => by rw [← hh1]; simp only [pC_o (show (16 : Nat) ≠ 10 by decide) (show (16 : Nat) ≠ 11 by decide), sE10 (show (16 : Nat) ≠ 10 by decide)]
  have e17 : hI h1 17 i = hI h 17 i := by rw [← hh1]; simp only [pC_o (show (17 : Nat) ≠ 10 by decide) (show (17 : Nat) ≠ 11 by decide), sE10 (show (17 : Nat) ≠ 10 by decide)]
  have e18 : hI h1 18 i = hI h 18 i := by rw [← hh1]; simp only [pC_o (show (18 : Nat) ≠ 10 by decide) (show (18 : Nat) ≠ 11 by decide), sE10 (show (18 : Nat) ≠ 10 by decide)]
  have e19 : ∀ k, hI h1 19 k = hI h 19 k := fun k => by rw [← hh1]; simp only [pC_o (show (19 : Nat) ≠ 10 by decide) (show (19 : Nat) ≠ 11 by decide), sE10 (show (19 : Nat) ≠ 10 by decide)]
  have e20 : ∀ k, hI h1 20 k = hI h 20 k := fun k => by rw [← hh1]; simp only [pC_o (show (20 : Nat) ≠ 10 by decide) (show (20 : Nat) ≠ 11 by decide), sE10 (show (20 : Nat) ≠ 10 by decide)]
  have e21 : ∀ k, hI h1 21 k = hI h 21 k := fun k => by rw [← hh1]; simp only [pC_o (show (21 : Nat) ≠ 10 by decide) (show (21 : Nat) ≠ 11 by decide), sE10 (show (21 : Nat) ≠ 10 by decide)]
  have e12 : ∀ k, hI h1 12 k = hI h 12 k := fun k => by rw [← hh1]; simp only [pC_o (show (12 : Nat) ≠ 10 by decide) (show (12 : Nat) ≠ 11 by decide), sE10 (show (12 : Nat) ≠ 10 by decide)]
  have eo : ∀ a k, a ≠ 10 → a ≠ 11 → hI h1 a k = hI h a k := fun a k p1 p2 => by rw [← hh1]; simp only [pC_o p1 p2, sE10 p1]
  have en : h1.1 = h.1 := by rw [← hh1]; simp only [pC_n, n_sI]
  have eR : ∀ a k, hR h1 a k = hR h a k := fun a k => by rw [← hh1]; simp only [pC_R, hR_sI]
  have eJ : ∀ a k, hJ h1 a k = hJ h a k := fun a k => by rw [← hh1]; simp only [pC_J, hJ_sI]
  have el : (hI h1 10 1).toInt = ((4 : Nat) : Int) := by rw [← hh1, pC_len]; decide
  have et : hI h1 11 0 = 22 ∧ hI h1 11 1 = 20 ∧ hI h1 11 2 = 13 ∧ hI h1 11 3 = 10 := by rw [← hh1]; simp [pC_11]
  have hs1 : oSh h1 := (hh.fr en eR).1
  have hk1 : kM h1 i = 3 := by
    rw [← hk]
    unfold kM
    simp only [e16, e19, e20, e21]
  have hm := m_ask13 G hs1 (n := n) (by rw [e12]; exact hn) h24 v hi hv x hw hk1
  generalize hh2 : (pM (pM (pM (pM (sI (sI h1 12 0 0) 12 44 0) 0 22) (0 + 1) 20) (0 + 2) 13) (0 + 3) 10) = h2 at hm
  have f34 : hI h2 34 0 = 22 ∧ hI h2 34 1 = 20 ∧ hI h2 34 2 = 13 ∧ hI h2 34 3 = 10 := by rw [← hh2]; simp [pM_34]
  have fo : ∀ a k, a ≠ 12 → a ≠ 34 → hI h2 a k = hI h1 a k := fun a k p1 p2 => by rw [← hh2]; simp only [pM_o p1 p2, sE12 p1]
  have fk : ∀ k, k ≠ 0 → k ≠ 44 → hI h2 12 k = hI h1 12 k := fun k p1 p2 => by rw [← hh2]; simp only [pM_12 p2, sE12k p1 p2]
  have fn : h2.1 = h1.1 := by rw [← hh2]; simp only [pM_n, n_sI]
  have fR : ∀ a k, hR h2 a k = hR h1 a k := fun a k => by rw [← hh2]; simp only [pM_R, hR_sI]
  have fJ : ∀ a k, hJ h2 a k = hJ h1 a k := fun a k => by rw [← hh2]; simp only [pM_J, hJ_sI]
  have fl : (hI h2 12 44).toInt = ((4 : Nat) : Int) := by rw [← hh2, pM_len]; decide
  refine ⟨_, h1, h2, n, hc, hm.ri ?_, I.asx (Nat.le_succ T) (fn.trans en) (fun a k => (fR a k).trans (eR a k)) (fun a k => (fJ a k).trans (eJ a k)) (fun a k p1 p2 p3 p4 => (fo a k p4 p3).trans (eo a k p1 p2)) (fun k p1 p2 => (fk k p1 p2).trans (e12 k)) ⟨4, by decide, by rw [fo 10 1 (by decide) (by decide)]; exact el, fl, fun j hj => ?_⟩⟩
  · simp only [e15, e16, e17, e18, e19, q2, q3, q7, q8, q9, Int32.add_zero, Int32.sub_eq_add_neg]
  · rw [fo 11 j (by decide) (by decide)]
    rcases (show j = 0 ∨ j = 1 ∨ j = 2 ∨ j = 3 by omega) with rfl | rfl | rfl | rfl <;> simp only [et, f34]
set_option maxHeartbeats 4000000 in
set_option maxRecDepth 100000 in
theorem case_ask (G : oG) {h : oH} {n T : Nat} (I : Inv h n T) (v x : Int32) : Case G mX5_ask mX6_ask [.int v, .int x] h n T := by
  obtain ⟨⟨a1, a2, a3⟩, ⟨b1, b2, b3⟩, ⟨c1, c2, c3⟩, ⟨d1, d2, d3⟩, ⟨e1, e2, e3⟩, ⟨f1, f2, f3⟩, g1, g2, g3⟩ := id I.2.2.1
  have hs := I.1.1
  have hh := I.1
  by_cases hval : 0 ≤ v.toInt ∧ v.toInt < n
  · obtain ⟨i, hi, hv⟩ : ∃ i : Nat, i < n ∧ v.toInt = (i : Int) := ⟨v.toInt.toNat, by omega, by omega⟩
    have hn := I.2.1.2
    have h24 := hh.2.2.1
    obtain ⟨Ie, Ib⟩ := I.2.2.2.1 i hi
    by_cases hx : 0 ≤ x.toInt ∧ x.toInt ≤ 1
    · have ke := kind_eq Ie Ib (fun _ => rfl)
      have kv : kM h i = 0 ∨ kM h i = 1 ∨ kM h i = 2 ∨ kM h i = 3 := by
        unfold kM
        (repeat' split) <;> simp
      rcases (show x.toInt = 0 ∨ x.toInt = 1 by omega) with hw | hw
      · rcases kv with hk | hk | hk | hk
        · exact case_ask00 G I v x hi hv hw hk ke
        · exact case_ask01 G I v x hi hv hw hk ke
        · exact case_ask02 G I v x hi hv hw hk ke
        · exact case_ask03 G I v x hi hv hw hk ke
      · rcases kv with hk | hk | hk | hk
        · exact case_ask10 G I v x hi hv hw hk ke
        · exact case_ask11 G I v x hi hv hw hk ke
        · exact case_ask12 G I v x hi hv hw hk ke
        · exact case_ask13 G I v x hi hv hw hk ke
    · exact case_bad G I (c_askX G hh v hi hv x hx) (m_askX G hs hn h24 v hi hv x hx)
  · exact case_bad G I (c_askN G hh v hval x) (m_askN G hs I.2.1.2 hh.2.2.1 v hval x)

