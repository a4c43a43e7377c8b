theorem m_mid (G : oG) {h : oH} (hs : oSh h) {v q x : Int32} {i : Nat} (hv : v.toInt = (i : Int)) (hi : i < 24) (hb : (hI h 22 i * hI h 16 (4 * i) + hI h 23 i * hI h 16 (4 * i + 1)).toInt ≤ (hI h 22 i * hI h 16 (4 * i + 2) + hI h 23 i * hI h 16 (4 * i + 3)).toInt) : ∃ hf, (hf.1 = h.1 ∧ (∀ x k, hR hf x k = hR h x k) ∧ (∀ x k, hJ hf x k = hJ h x k)) ∧ (∀ x k, ¬ (17 ≤ x ∧ x ≤ 23 ∧ k = i) → ¬ (x = 16 ∧ 4 * i ≤ k ∧ k ≤ 4 * i + 3) → hI hf x k = hI h x k) ∧ (hI hf 17 i = hI h 15 i ∧ hI hf 18 i = hI h 15 i ∧ hI hf 19 i = hI h 19 i + 1 ∧ hI hf 22 i = 0 ∧ hI hf 23 i = 0) ∧ hI hf 20 i = (noteM h i q) ∧ hI hf 21 i = (if ¬ (noteM h i q).toInt = 0 then 1 else if (hI h 21 i).toInt = 0 then 0 else 1) ∧ (((noteM h i q).toInt = 0 ∧ q.toInt < (hI h 15 i).toInt ∧ 0 < (hI h 22 i).toInt) → hI hf 16 (4 * i + 2) = cN (hI h 16 (4 * i)) (hI h 16 (4 * i + 1)) (hI h 16 (4 * i + 2)) q (hI h 22 i) (hI h 23 i) ∧ hI hf 16 (4 * i + 3) = dN (hI h 16 (4 * i)) (hI h 16 (4 * i + 1)) (hI h 16 (4 * i + 3)) q (hI h 22 i) (hI h 23 i) ∧ hI hf 16 (4 * i) = aN (hI h 16 (4 * i)) (hI hf 16 (4 * i + 2)) (hI hf 16 (4 * i + 3)) q (hI h 22 i) (hI h 23 i) ∧ hI hf 16 (4 * i + 1) = bN (hI h 16 (4 * i + 1)) (hI hf 16 (4 * i + 2)) (hI hf 16 (4 * i + 3)) q (hI h 22 i) (hI h 23 i)) ∧ (¬ ((noteM h i q).toInt = 0 ∧ q.toInt < (hI h 15 i).toInt ∧ 0 < (hI h 22 i).toInt) → (∀ k, 4 * i ≤ k → k ≤ 4 * i + 3 → hI hf 16 k = hI h 16 k)) ∧ ∀ {p : Program} {l : Launch} {e : Env} {R : Room} {s : State} {m : MethodId} {args : Array Value} {below : List Frame} {meth : Method} {c : Code} {n0 nF : Nat} (_ : oC G mX6_fill n0 nF p l R s m args meth c) (_ : h.1 ≤ nF), oS G mX6_fill p l e R s m args below meth c (oZ G below args s n0 nF (some (.int x)) hf) n0 111 [some (.ref 12), some (.int v), some (.int q), some (.int x), none, none, none, none] [] h := by
  have r21 : hI (sI h 20 i 0) 21 i = hI h 21 i := zne (by omega)
  by_cases o : (q.toInt ≤ (hI h 22 i * hI h 16 (4 * i + 2) + hI h 23 i * hI h 16 (4 * i + 3)).toInt)
  · by_cases u : (q.toInt < (hI h 22 i * hI h 16 (4 * i) + hI h 23 i * hI h 16 (4 * i + 1)).toInt) ∧ (q.toInt < (hI h 15 i).toInt)
    · obtain ⟨hf, f1, f2, f3, f4, f5, f6, f7, f8⟩ := m_in G hs hv hi (q := q) (x := x) 2 1
      have en : noteM h i q = 2 := by
        unfold noteM
        rw [if_neg (fun z => z o), if_pos u]
      rw [en]
      refine ⟨hf, f1, f2, f3, f4, ?_, f6, f7, ?_⟩
      · rw [f5]
        rw [if_pos (by decide)]
      · intro p l e R s m args below meth c n0 nF C hF
        exact fm_u G hs hv hi C hF o u.1 u.2 (f8 C hF)
    · by_cases d : (hI h 21 i).toInt = 0
      · obtain ⟨hf, f1, f2, f3, f4, f5, f6, f7, f8⟩ := m_in G hs hv hi (q := q) (x := x) 0 0
        have en : noteM h i q = 0 := by
          unfold noteM
          rw [if_neg (fun z => z o), if_neg u]
        rw [en]
        refine ⟨hf, f1, f2, f3, f4, ?_, f6, f7, ?_⟩
        · rw [f5]
          rw [if_neg (by decide), if_pos d]
        · intro p l e R s m args below meth c n0 nF C hF
          exact fm_n G hs hv hi C hF o u (by rw [r21]; exact d) (f8 C hF)
      · obtain ⟨hf, f1, f2, f3, f4, f5, f6, f7, f8⟩ := m_in G hs hv hi (q := q) (x := x) 0 1
        have en : noteM h i q = 0 := by
          unfold noteM
          rw [if_neg (fun z => z o), if_neg u]
        rw [en]
        refine ⟨hf, f1, f2, f3, f4, ?_, f6, f7, ?_⟩
        · rw [f5]
          rw [if_neg (by decide), if_neg d]
        · intro p l e R s m args below meth c n0 nF C hF
          exact fm_w G hs hv hi C hF o u (by rw [r21]; exact d) (f8 C hF)
  · obtain ⟨hf, f1, f2, f3, f4, f5, f6, f7, f8⟩ := m_in G hs hv hi (q := q) (x := x) 1 1
    have en : noteM h i q = 1 := by
      unfold noteM
      rw [if_pos o]
    rw [en]
    refine ⟨hf, f1, f2, f3, f4, ?_, f6, f7, ?_⟩
    · rw [f5]
      rw [if_pos (by decide)]
    · intro p l e R s m args below meth c n0 nF C hF
      exact fm_o G hs hv hi C hF o (by omega) (f8 C hF)

