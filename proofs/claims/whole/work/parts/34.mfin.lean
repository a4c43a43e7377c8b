set_option maxHeartbeats 4000000 in
set_option maxRecDepth 100000 in
theorem m_fin (G : oG) {h : oH} (hs : oSh h) {n : Nat} (hn : (hI h 12 1).toInt = (n : Int)) (hn24 : n ≤ 24) (v : Int32) {i : Nat} (hi : i < n) (hv : v.toInt = (i : Int)) (q : Int32) (hq : 0 ≤ q.toInt ∧ q.toInt ≤ (hI h 15 i).toInt) (hd : q.toInt ≤ (hI h 12 19).toInt) (hb : (hI h 22 i * hI h 16 (4 * i) + hI h 23 i * hI h 16 (4 * i + 1)).toInt ≤ (hI h 22 i * hI h 16 (4 * i + 2) + hI h 23 i * hI h 16 (4 * i + 3)).toInt) : ∃ hf, oSp G mX6_fill [.ref 12, .int v, .int q] h (some (.int (costM (sI h 12 0 0) i q))) hf ∧ (hf.1 = h.1 ∧ ∀ x k, hR hf x k = hR h x k) ∧ (∀ x k, ¬ (x = 12 ∧ (k = 23 ∨ k = 24)) → hJ hf x k = hJ h x k) ∧ (hJ hf 12 23 = hJ h 12 23 + q.toInt64 ∧ hJ hf 12 24 = hJ h 12 24 + (costM (sI h 12 0 0) i q).toInt64) ∧ (∀ x k, ¬ (x = 12 ∧ (k = 0 ∨ k = 19)) → ¬ ((17 ≤ x ∧ x ≤ 23 ∨ x = 25) ∧ k = i) → ¬ (x = 16 ∧ 4 * i ≤ k ∧ k ≤ 4 * i + 3) → hI hf x k = hI h x k) ∧ (hI hf 12 19 = hI h 12 19 - q ∧ hI hf 25 i = (if (hI h 24 i).toInt = 2 then hI h 25 i - mnM q (hI h 25 i) else hI h 25 i)) ∧ (hI hf 17 i = hI h 15 i ∧ hI hf 18 i = hI h 15 i ∧ hI hf 19 i = hI h 19 i + 1 ∧ hI hf 22 i = 0 ∧ hI hf 23 i = 0) ∧ hI hf 20 i = (noteM h i q) ∧ hI hf 21 i = (if ¬ (noteM h i q).toInt = 0 then 1 else if (hI h 21 i).toInt = 0 then 0 else 1) ∧ (((noteM h i q).toInt = 0 ∧ q.toInt < (hI h 15 i).toInt ∧ 0 < (hI h 22 i).toInt) → hI hf 16 (4 * i + 2) = cN (hI h 16 (4 * i)) (hI h 16 (4 * i + 1)) (hI h 16 (4 * i + 2)) q (hI h 22 i) (hI h 23 i) ∧ hI hf 16 (4 * i + 3) = dN (hI h 16 (4 * i)) (hI h 16 (4 * i + 1)) (hI h 16 (4 * i + 3)) q (hI h 22 i) (hI h 23 i) ∧ hI hf 16 (4 * i) = aN (hI h 16 (4 * i)) (hI hf 16 (4 * i + 2)) (hI hf 16 (4 * i + 3)) q (hI h 22 i) (hI h 23 i) ∧ hI hf 16 (4 * i + 1) = bN (hI h 16 (4 * i + 1)) (hI hf 16 (4 * i + 2)) (hI hf 16 (4 * i + 3)) q (hI h 22 i) (hI h 23 i)) ∧ (¬ ((noteM h i q).toInt = 0 ∧ q.toInt < (hI h 15 i).toInt ∧ 0 < (hI h 22 i).toInt) → (∀ k, 4 * i ≤ k → k ≤ 4 * i + 3 → hI hf 16 k = hI h 16 k)) := by
  by_cases hp : (hI h 24 i).toInt = 2
  · have hm0 := rr_n (rp (sI h 12 0 0) i q) q (costM (sI h 12 0 0) i q)
    have rI : ∀ {a k : Nat}, ¬ (a = 12 ∧ (k = 0 ∨ k = 19)) → ¬ (a = 25 ∧ k = i) → hI (rc (rb (ra (rp (sI h 12 0 0) i q) q) q) (costM (sI h 12 0 0) i q)) a k = hI h a k := fun {a k} z1 z2 => by
      rw [rr_I _ _ _ (by omega)]
      unfold rp
      rw [zne (by omega), zne (by omega)]
    have r19 : hI (rc (rb (ra (rp (sI h 12 0 0) i q) q) q) (costM (sI h 12 0 0) i q)) 12 19 = hI h 12 19 - q := by
      rw [rr_19]
      rfl
    have r25 : hI (rc (rb (ra (rp (sI h 12 0 0) i q) q) q) (costM (sI h 12 0 0) i q)) 25 i = (if (hI h 24 i).toInt = 2 then hI h 25 i - mnM q (hI h 25 i) else hI h 25 i) := by
      rw [rr_I _ _ _ (by omega)]
      unfold rp
      rw [zeq ⟨rfl, rfl⟩, if_pos hp, zne (by omega)]
    have rJ : ∀ {a k : Nat}, ¬ (a = 12 ∧ (k = 23 ∨ k = 24)) → hJ (rc (rb (ra (rp (sI h 12 0 0) i q) q) q) (costM (sI h 12 0 0) i q)) a k = hJ h a k := fun {a k} z => by
      rw [rr_J _ _ _ z]
      rfl
    have r23 : hJ (rc (rb (ra (rp (sI h 12 0 0) i q) q) q) (costM (sI h 12 0 0) i q)) 12 23 = hJ h 12 23 + q.toInt64 := by
      rw [rr_23]
      rfl
    have r24 : hJ (rc (rb (ra (rp (sI h 12 0 0) i q) q) q) (costM (sI h 12 0 0) i q)) 12 24 = hJ h 12 24 + (costM (sI h 12 0 0) i q).toInt64 := by
      rw [rr_24]
      rfl
    have Q := @m_fillA G h hs n hn hn24 v i hi hv q hq hd hp
    have hm1 : (rc (rb (ra (rp (sI h 12 0 0) i q) q) q) (costM (sI h 12 0 0) i q)).1 = h.1 ∧ ∀ a k, hR (rc (rb (ra (rp (sI h 12 0 0) i q) q) q) (costM (sI h 12 0 0) i q)) a k = hR h a k := ⟨hm0.1, fun a k => hm0.2 a k⟩
    clear hm0
    generalize rc (rb (ra (rp (sI h 12 0 0) i q) q) q) (costM (sI h 12 0 0) i q) = hm at *
    have hsm : oSh hm := ⟨by rw [hm1.1]; exact hs.1, fun z hz => (hm1.2 _ _).trans (hs.2 z hz)⟩
    have e15 := rI (a := 15) (k := i) (by omega) (by omega)
    have e16a := rI (a := 16) (k := 4 * i) (by omega) (by omega)
    have e16b := rI (a := 16) (k := 4 * i + 1) (by omega) (by omega)
    have e16c := rI (a := 16) (k := 4 * i + 2) (by omega) (by omega)
    have e16d := rI (a := 16) (k := 4 * i + 3) (by omega) (by omega)
    have e19 := rI (a := 19) (k := i) (by omega) (by omega)
    have e21 := rI (a := 21) (k := i) (by omega) (by omega)
    have e22 := rI (a := 22) (k := i) (by omega) (by omega)
    have e23 := rI (a := 23) (k := i) (by omega) (by omega)
    have en : noteM hm i q = noteM h i q := by
      unfold noteM
      simp only [e15, e16a, e16b, e16c, e16d, e22, e23]
    obtain ⟨hf, f1, f2, f3, f4, f5, f6, f7, f8⟩ := m_mid G hsm hv (by omega) (q := q) (x := (costM (sI h 12 0 0) i q)) (by rw [e16a, e16b, e16c, e16d, e22, e23]; exact hb)
    simp only [e15, e16a, e16b, e16c, e16d, e19, e21, e22, e23, en] at f3 f4 f5 f6
    rw [en, e15, e22] at f7
    refine ⟨hf, Q (hf := hf) (f1.1.trans hm1.1) (fun p l e R s m args below meth c C => f8 C (by rw [hm1.1, f1.1, hm1.1]; exact Nat.le_refl _)), ⟨f1.1.trans hm1.1, fun a k => (f1.2.1 a k).trans (hm1.2 a k)⟩, fun a k z => (f1.2.2 a k).trans (rJ z), ⟨(f1.2.2 12 23).trans r23, (f1.2.2 12 24).trans r24⟩, fun a k z1 z2 z3 => (f2 a k (by omega) z3).trans (rI z1 (by omega)), ⟨(f2 12 19 (by omega) (by omega)).trans r19, (f2 25 i (by omega) (by omega)).trans r25⟩, f3, f4, f5, f6, fun z k l1 l2 => (f7 z k l1 l2).trans (rI (by omega) (by omega))⟩
  · have hm0 := rr_n (sI h 12 0 0) q (costM (sI h 12 0 0) i q)
    have rI : ∀ {a k : Nat}, ¬ (a = 12 ∧ (k = 0 ∨ k = 19)) → ¬ (a = 25 ∧ k = i) → hI (rc (rb (ra (sI h 12 0 0) q) q) (costM (sI h 12 0 0) i q)) a k = hI h a k := fun {a k} z1 z2 => by
      rw [rr_I _ _ _ (by omega)]
      rw [zne (by omega)]
    have r19 : hI (rc (rb (ra (sI h 12 0 0) q) q) (costM (sI h 12 0 0) i q)) 12 19 = hI h 12 19 - q := by
      rw [rr_19]
      rfl
    have r25 : hI (rc (rb (ra (sI h 12 0 0) q) q) (costM (sI h 12 0 0) i q)) 25 i = (if (hI h 24 i).toInt = 2 then hI h 25 i - mnM q (hI h 25 i) else hI h 25 i) := by
      rw [rr_I _ _ _ (by omega)]
      rw [if_neg hp, zne (by omega)]
    have rJ : ∀ {a k : Nat}, ¬ (a = 12 ∧ (k = 23 ∨ k = 24)) → hJ (rc (rb (ra (sI h 12 0 0) q) q) (costM (sI h 12 0 0) i q)) a k = hJ h a k := fun {a k} z => by
      rw [rr_J _ _ _ z]
      rfl
    have r23 : hJ (rc (rb (ra (sI h 12 0 0) q) q) (costM (sI h 12 0 0) i q)) 12 23 = hJ h 12 23 + q.toInt64 := by
      rw [rr_23]
      rfl
    have r24 : hJ (rc (rb (ra (sI h 12 0 0) q) q) (costM (sI h 12 0 0) i q)) 12 24 = hJ h 12 24 + (costM (sI h 12 0 0) i q).toInt64 := by
      rw [rr_24]
      rfl
    have Q := @m_fillB G h hs n hn hn24 v i hi hv q hq hd hp
    have hm1 : (rc (rb (ra (sI h 12 0 0) q) q) (costM (sI h 12 0 0) i q)).1 = h.1 ∧ ∀ a k, hR (rc (rb (ra (sI h 12 0 0) q) q) (costM (sI h 12 0 0) i q)) a k = hR h a k := ⟨hm0.1, fun a k => hm0.2 a k⟩
    clear hm0
    generalize rc (rb (ra (sI h 12 0 0) q) q) (costM (sI h 12 0 0) i q) = hm at *
    have hsm : oSh hm := ⟨by rw [hm1.1]; exact hs.1, fun z hz => (hm1.2 _ _).trans (hs.2 z hz)⟩
    have e15 := rI (a := 15) (k := i) (by omega) (by omega)
    have e16a := rI (a := 16) (k := 4 * i) (by omega) (by omega)
    have e16b := rI (a := 16) (k := 4 * i + 1) (by omega) (by omega)
    have e16c := rI (a := 16) (k := 4 * i + 2) (by omega) (by omega)
    have e16d := rI (a := 16) (k := 4 * i + 3) (by omega) (by omega)
    have e19 := rI (a := 19) (k := i) (by omega) (by omega)
    have e21 := rI (a := 21) (k := i) (by omega) (by omega)
    have e22 := rI (a := 22) (k := i) (by omega) (by omega)
    have e23 := rI (a := 23) (k := i) (by omega) (by omega)
    have en : noteM hm i q = noteM h i q := by
      unfold noteM
      simp only [e15, e16a, e16b, e16c, e16d, e22, e23]
    obtain ⟨hf, f1, f2, f3, f4, f5, f6, f7, f8⟩ := m_mid G hsm hv (by omega) (q := q) (x := (costM (sI h 12 0 0) i q)) (by rw [e16a, e16b, e16c, e16d, e22, e23]; exact hb)
    simp only [e15, e16a, e16b, e16c, e16d, e19, e21, e22, e23, en] at f3 f4 f5 f6
    rw [en, e15, e22] at f7
    refine ⟨hf, Q (hf := hf) (f1.1.trans hm1.1) (fun p l e R s m args below meth c C => f8 C (by rw [hm1.1, f1.1, hm1.1]; exact Nat.le_refl _)), ⟨f1.1.trans hm1.1, fun a k => (f1.2.1 a k).trans (hm1.2 a k)⟩, fun a k z => (f1.2.2 a k).trans (rJ z), ⟨(f1.2.2 12 23).trans r23, (f1.2.2 12 24).trans r24⟩, fun a k z1 z2 z3 => (f2 a k (by omega) z3).trans (rI z1 (by omega)), ⟨(f2 12 19 (by omega) (by omega)).trans r19, (f2 25 i (by omega) (by omega)).trans r25⟩, f3, f4, f5, f6, fun z k l1 l2 => (f7 z k l1 l2).trans (rI (by omega) (by omega))⟩

