/-! rounds, by numbers: spots are places in the list of the set's houses, 8 is the depot -/
def mem (K : Nat) : List Nat := (List.range 24).filter (fun j => K.testBit j)
def aI (x : Int) : Int := max x (-x)
def sX (h : oH) (l : List Nat) (a : Nat) : Int := if a = 8 then 25 else (hI h 13 (l.getD a 0)).toInt
def sY (h : oH) (l : List Nat) (a : Nat) : Int := if a = 8 then 25 else (hI h 14 (l.getD a 0)).toInt
def sD (h : oH) (l : List Nat) (a b : Nat) : Int := aI (sX h l a - sX h l b) + aI (sY h l a - sY h l b)
def mnO (f : Nat → Int) (P : Nat → Bool) : Nat → Option Int
  | 0 => none
  | j + 1 => if P j = true then (match mnO f P j with
    | none => some (f j)
    | some b => some (min b (f j))) else mnO f P j
def wV (D : Nat → Nat → Int) (m : Nat) : Nat → Nat → Nat → Int
  | 0, _, k => D k 8
  | f + 1, left, k => if left = 0 then D k 8 else (mnO (fun j => D k j + wV D m f (left - 2 ^ j) j) (fun j => left.testBit j) m).getD 0
def wy (D : Nat → Nat → Int) (m left k : Nat) : Int := wV D m left left k
def nx (D : Nat → Nat → Int) (m left k : Nat) : Nat := ((List.range m).find? (fun j => left.testBit j && decide (D k j + wy D m (left - 2 ^ j) j = wy D m left k))).getD 0
def och (D : Nat → Nat → Int) (m : Nat) : Nat → Nat × Nat
  | 0 => (2 ^ m - 1, 8)
  | i + 1 => ((och D m i).1 - 2 ^ (nx D m (och D m i).1 (och D m i).2), nx D m (och D m i).1 (och D m i).2)
/-- what the class keeps of its latest round -/
def oRt (h : oH) (n : Nat) : Prop := (hI h 2 5).toInt = 0 ∨ ∃ K : Nat, 0 < K ∧ K < 2 ^ n ∧ (mem K).length ≤ 8 ∧ (hI h 2 5).toInt = (K : Int) ∧ (hI h 2 6).toInt = ((mem K).length : Int) ∧ (hI h 7 ((2 ^ (mem K).length - 1) * 9 + 8)).toInt = wy (sD h (mem K)) (mem K).length (2 ^ (mem K).length - 1) 8 ∧ ∀ i, i < (mem K).length → (hI h 6 i).toInt = (((mem K).getD (och (sD h (mem K)) (mem K).length (i + 1)).2 0 : Nat) : Int)
theorem mem_lt {K n j : Nat} (hK : K < 2 ^ n) (h : j ∈ mem K) : j < n := by
  have h1 := (List.mem_filter.mp h).2
  have h2 := Nat.ge_two_pow_of_testBit h1
  rcases Nat.lt_or_ge j n with q | q
  · exact q
  · have := Nat.pow_le_pow_right (n := 2) (by decide) q
    omega
theorem mem_getD {K n a : Nat} (hK : K < 2 ^ n) (h0 : 0 < n) : (mem K).getD a 0 < n := by
  rw [List.getD_eq_getElem?_getD]
  cases q : (mem K)[a]? with
  | none => exact h0
  | some j => exact mem_lt hK (List.mem_of_getElem? q)
theorem sD_fr {h h' : oH} {K n : Nat} (hK : K < 2 ^ n) (h0 : 0 < n) (ex : ∀ j, j < n → hI h' 13 j = hI h 13 j) (ey : ∀ j, j < n → hI h' 14 j = hI h 14 j) : sD h' (mem K) = sD h (mem K) := by
  funext a b
  have e1 : ∀ a, sX h' (mem K) a = sX h (mem K) a := fun a => by
    unfold sX
    rw [ex _ (mem_getD hK h0)]
  have e2 : ∀ a, sY h' (mem K) a = sY h (mem K) a := fun a => by
    unfold sY
    rw [ey _ (mem_getD hK h0)]
  unfold sD
  rw [e1, e1, e2, e2]
theorem oRt.fr {h h' : oH} {n n' : Nat} (q : oRt h n) (hn : n ≤ n') (ex : ∀ j, j < n → hI h' 13 j = hI h 13 j) (ey : ∀ j, j < n → hI h' 14 j = hI h 14 j) (e : ∀ a k, (a = 2 ∨ a = 6 ∨ a = 7) → hI h' a k = hI h a k) : oRt h' n' := by
  rcases q with q | ⟨K, k0, k1, k2, k3, k4, k5, k6⟩
  · left
    rw [e 2 5 (Or.inl rfl)]
    exact q
  · right
    have hn0 : 0 < n := by
      rcases Nat.eq_zero_or_pos n with z | z
      · rw [z] at k1
        omega
      · exact z
    refine ⟨K, k0, Nat.lt_of_lt_of_le k1 (Nat.pow_le_pow_right (by decide) hn), k2, by rw [e 2 5 (Or.inl rfl)]; exact k3, by rw [e 2 6 (Or.inl rfl)]; exact k4, ?_, ?_⟩
    · rw [sD_fr k1 hn0 ex ey, e 7 _ (Or.inr (Or.inr rfl))]
      exact k5
    · rw [sD_fr k1 hn0 ex ey]
      intro i hi
      rw [e 6 _ (Or.inr (Or.inl rfl))]
      exact k6 i hi
/-- what the reference has of houses that aren't there yet -/
def oZr (h : oH) (n : Nat) : Prop := ∀ a k, 19 ≤ a → a ≤ 26 → n ≤ k → k < 24 → hI h a k = 0
theorem oZr.fr {h h' : oH} {n n' : Nat} (q : oZr h n) (hn : n ≤ n') (e : ∀ a k, 19 ≤ a → a ≤ 26 → n' ≤ k → hI h' a k = hI h a k) : oZr h' n' := fun a k h1 h2 h3 h4 => (e a k h1 h2 h3).trans (q a k h1 h2 (by omega) h4)
def Inv (h : oH) (n T : Nat) : Prop := oHs h n ∧ oCnt h n ∧ oSc h T ∧ (∀ i, i < n → oHe h i ∧ oHb h i T) ∧ oTx h ∧ oAs h ∧ oRt h n ∧ oZr h n
theorem oTx.fr {h h' : oH} (q : oTx h) (e : ∀ a k, (a = 8 ∨ a = 9 ∨ a = 29) → hI h' a k = hI h a k) (e1 : hI h' 12 29 = hI h 12 29) (e2 : hI h' 12 30 = hI h 12 30) : oTx h' := by
  obtain ⟨q0, z, q1, q2, q3, q4⟩ := q
  refine ⟨by rw [e2, e 8 2 (Or.inl rfl)]; exact q0, z, q1, by rw [e 8 1 (Or.inl rfl)]; exact q2, by rw [e1]; exact q3, fun j hj => ?_⟩
  rw [e 29 j (Or.inr (Or.inr rfl)), e 9 j (Or.inr (Or.inl rfl))]
  exact q4 j hj
theorem oAs.fr {h h' : oH} (q : oAs h) (e : ∀ a k, (a = 10 ∨ a = 11 ∨ a = 34) → hI h' a k = hI h a k) (e1 : hI h' 12 44 = hI h 12 44) : oAs h' := by
  obtain ⟨z, q1, q2, q3, q4⟩ := q
  refine ⟨z, q1, by rw [e 10 1 (Or.inl rfl)]; exact q2, by rw [e1]; exact q3, fun j hj => ?_⟩
  rw [e 11 j (Or.inr (Or.inl rfl)), e 34 j (Or.inr (Or.inr rfl))]
  exact q4 j hj
theorem oHs.fr {h h' : oH} {n : Nat} (q : oHs h n) (en : h'.1 = h.1) (er : ∀ a k, hR h' a k = hR h a k) : oHs h' n := by
  unfold oHs oSh at q ⊢
  simp only [en, er]
  exact q
/-- only numbers of the two objects themselves have changed -/
theorem Inv.sc {h h' : oH} {n T T' : Nat} (I : Inv h n T) (hT : T ≤ T') (en : h'.1 = h.1) (er : ∀ a k, hR h' a k = hR h a k) (e : ∀ a k, a ≠ 0 → a ≠ 12 → hI h' a k = hI h a k) (e0 : hI h' 0 4 = hI h 0 4) (e1 : hI h' 12 1 = hI h 12 1) (e2 : hI h' 12 29 = hI h 12 29) (e3 : hI h' 12 30 = hI h 12 30) (e4 : hI h' 12 44 = hI h 12 44) (s : oSc h' T') : Inv h' n T' := by
  obtain ⟨i1, i2, i3, i4, i5, i6, i7, i8⟩ := I
  refine ⟨i1.fr en er, ⟨by rw [e0]; exact i2.1, by rw [e1]; exact i2.2⟩, s, fun i hi => ⟨(i4 i hi).1.fr (fun a k ha => e a k ?_ ?_), ((i4 i hi).2.fr (fun a k ha => e a k ?_ ?_)).mono hT⟩, i5.fr (fun a k ha => e a k ?_ ?_) e2 e3, i6.fr (fun a k ha => e a k ?_ ?_) e4, i7.fr (Nat.le_refl _) (fun j _ => e 13 j ?_ ?_) (fun j _ => e 14 j ?_ ?_) (fun a k ha => e a k ?_ ?_), i8.fr (Nat.le_refl _) (fun a k ha hb hc => e a k ?_ ?_)⟩ <;> (try unfold hid pid at ha) <;> omega
theorem Inv.mono {h : oH} {n T T' : Nat} (I : Inv h n T) (hT : T ≤ T') : Inv h n T' := I.sc hT rfl (fun _ _ => rfl) (fun _ _ _ _ => rfl) rfl rfl rfl rfl rfl (I.2.2.1.mono hT)
theorem Inv.th {h : oH} {n T : Nat} (I : Inv h n T) (v : Int32) : Inv (sI h 12 0 v) n T := I.sc (Nat.le_refl _) rfl (fun _ _ => rfl) (fun a k _ ha => if_neg (fun q => ha q.1)) rfl rfl rfl rfl rfl I.2.2.1
/-- a call of the law's, on both sides -/
def Case (G : oG) (mc mm : oM) (as : List Value) (h : oH) (n T : Nat) : Prop := ∃ (r : Int32) (h1 h2 : oH) (n' : Nat), oSp G mc (.ref 0 :: as) h (some (.int r)) h1 ∧ oSp G mm (.ref 12 :: as) h1 (some (.int r)) h2 ∧ Inv h2 n' (T + 1)
