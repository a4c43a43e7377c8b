/-! the tokens, by numbers -/
def rn (T : Nat → Int) (P : Int → Bool) (z : Nat) : Nat → Nat → Nat
  | 0, q => q
  | f + 1, q => if q < z ∧ P (T q) = true then rn T P z f (q + 1) else q
def en (T : Nat → Int) (P : Int → Bool) (z q : Nat) : Nat := rn T P z (z - q) q
theorem en_stop {T : Nat → Int} {P : Int → Bool} {z q : Nat} (h : ¬ (q < z ∧ P (T q) = true)) : en T P z q = q := by
  unfold en
  cases z - q with
  | zero => rfl
  | succ f => exact if_neg h
theorem en_go {T : Nat → Int} {P : Int → Bool} {z q : Nat} (h1 : q < z) (h2 : P (T q) = true) : en T P z q = en T P z (q + 1) := by
  unfold en
  rw [show z - q = (z - (q + 1)) + 1 by omega]
  exact if_pos ⟨h1, h2⟩
theorem en_f {T : Nat → Int} {P : Int → Bool} {z : Nat} : ∀ k q, q + k = z → q ≤ en T P z q ∧ en T P z q ≤ z ∧ (en T P z q < z → ¬ P (T (en T P z q)) = true) ∧ ∀ j, q ≤ j → j < en T P z q → P (T j) = true
  | 0, q, h => by
    rw [en_stop (by omega)]
    exact ⟨Nat.le_refl _, by omega, fun a => by omega, fun j a b => by omega⟩
  | k + 1, q, h => by
    by_cases c1 : P (T q) = true
    · rw [en_go (by omega) c1]
      have ih := en_f (T := T) (P := P) (z := z) k (q + 1) (by omega)
      refine ⟨by omega, ih.2.1, ih.2.2.1, fun j a b => ?_⟩
      by_cases e : j = q
      · rw [e]
        exact c1
      · exact ih.2.2.2 j (by omega) b
    · rw [en_stop (fun a => c1 a.2)]
      exact ⟨Nat.le_refl _, by omega, fun _ => c1, fun j a b => by omega⟩
theorem en_w {T : Nat → Int} {P : Int → Bool} {z q : Nat} (h : q ≤ z) : q ≤ en T P z q ∧ en T P z q ≤ z ∧ (en T P z q < z → ¬ P (T (en T P z q)) = true) ∧ ∀ j, q ≤ j → j < en T P z q → P (T j) = true := en_f (z - q) q (by omega)
def isW (x : Int) : Bool := decide (x = 32 ∨ x = 10)
def isL (x : Int) : Bool := decide (97 ≤ x ∧ x ≤ 122)
def isF (x : Int) : Bool := decide (48 ≤ x ∧ x ≤ 57)
theorem isW_i {x : Int} : isW x = true ↔ (x = 32 ∨ x = 10) := decide_eq_true_iff
theorem isL_i {x : Int} : isL x = true ↔ (97 ≤ x ∧ x ≤ 122) := decide_eq_true_iff
theorem isF_i {x : Int} : isF x = true ↔ (48 ≤ x ∧ x ≤ 57) := decide_eq_true_iff
def xS (T : Nat → Int) (z q : Nat) : Nat := en T isW z q
def eqB (T : Nat → Int) (s k : Nat) : Nat → Bool
  | 0 => true
  | j + 1 => eqB T s k j && decide (T (s + j) = (sbyt k j).toInt)
def nmB (T : Nat → Int) (s e k : Nat) : Bool := decide (e = s + slen k) && eqB T s k (slen k)
def nmK (T : Nat → Int) (s e : Nat) : Nat := if s + 6 < e then 8 else if nmB T s e 0 = true then 1 else if nmB T s e 1 = true then 2 else if nmB T s e 2 = true then 3 else if nmB T s e 3 = true then 4 else 8
def xEs (T : Nat → Int) (z s : Nat) : Nat := if z ≤ s then s else if isL (T s) = true then en T isL z s else if isF (T s) = true then en T isF z s else s + 1
def xKs (T : Nat → Int) (z s : Nat) : Nat := if z ≤ s then 0 else if isL (T s) = true then nmK T s (en T isL z s) else if isF (T s) = true then (if s + 5 < en T isF z s then 8 else 5) else if T s = 59 then 6 else if T s = 64 then 7 else 8
def xRs (T : Nat → Int) (z s : Nat) : Nat := if z ≤ s then 1 else if isL (T s) = true then (if s + 6 < en T isL z s then 0 else 2) else if isF (T s) = true then (if s + 5 < en T isF z s then 0 else 3) else if T s = 59 ∨ T s = 64 then 4 else 0
def xE (T : Nat → Int) (z q : Nat) : Nat := xEs T z (xS T z q)
def xK (T : Nat → Int) (z q : Nat) : Nat := xKs T z (xS T z q)
def xR (T : Nat → Int) (z q : Nat) : Nat := xRs T z (xS T z q)
def nv (T : Nat → Int) (s : Nat) : Nat → Int
  | 0 => 0
  | j + 1 => nv T s j * 10 + T (s + j) - 48
def xV (T : Nat → Int) (z q : Nat) : Int := nv T (xS T z q) (xE T z q - xS T z q)
def nw256 (T : Nat → Int) (s : Nat) : Nat → Int
  | 0 => 0
  | j + 1 => nw256 T s j * 256 + T (s + j)
theorem nmK_c (T : Nat → Int) (s e : Nat) : nmK T s e = 1 ∧ nmB T s e 0 = true ∨ nmK T s e = 2 ∧ nmB T s e 1 = true ∨ nmK T s e = 3 ∧ nmB T s e 2 = true ∨ nmK T s e = 4 ∧ nmB T s e 3 = true ∨ nmK T s e = 8 ∧ (e ≤ s + 6 → ¬ nmB T s e 0 = true ∧ ¬ nmB T s e 1 = true ∧ ¬ nmB T s e 2 = true ∧ ¬ nmB T s e 3 = true) := by
  unfold nmK
  by_cases c0 : s + 6 < e
  · rw [if_pos c0]
    exact Or.inr (Or.inr (Or.inr (Or.inr ⟨rfl, fun q => by omega⟩)))
  · rw [if_neg c0]
    by_cases c1 : nmB T s e 0 = true
    · rw [if_pos c1]
      exact Or.inl ⟨rfl, c1⟩
    · rw [if_neg c1]
      by_cases c2 : nmB T s e 1 = true
      · rw [if_pos c2]
        exact Or.inr (Or.inl ⟨rfl, c2⟩)
      · rw [if_neg c2]
        by_cases c3 : nmB T s e 2 = true
        · rw [if_pos c3]
          exact Or.inr (Or.inr (Or.inl ⟨rfl, c3⟩))
        · rw [if_neg c3]
          by_cases c4 : nmB T s e 3 = true
          · rw [if_pos c4]
            exact Or.inr (Or.inr (Or.inr (Or.inl ⟨rfl, c4⟩)))
          · rw [if_neg c4]
            exact Or.inr (Or.inr (Or.inr (Or.inr ⟨rfl, fun _ => ⟨c1, c2, c3, c4⟩⟩)))
theorem nmB_i {T : Nat → Int} {s e k : Nat} : nmB T s e k = true ↔ (e = s + slen k ∧ eqB T s k (slen k) = true) := by
  unfold nmB
  rw [Bool.and_eq_true, decide_eq_true_iff]
theorem eqB_s {T : Nat → Int} {s k j : Nat} : eqB T s k (j + 1) = true ↔ (eqB T s k j = true ∧ T (s + j) = (sbyt k j).toInt) := by
  show (eqB T s k j && decide _) = true ↔ _
  rw [Bool.and_eq_true, decide_eq_true_iff]
theorem eqB_all {T : Nat → Int} {s k : Nat} : ∀ n, eqB T s k n = true ↔ ∀ j, j < n → T (s + j) = (sbyt k j).toInt
  | 0 => ⟨fun _ j h => absurd h (Nat.not_lt_zero j), fun _ => rfl⟩
  | n + 1 => by
    rw [eqB_s, eqB_all n]
    constructor
    · intro ⟨h1, h2⟩ j hj
      by_cases e : j = n
      · rw [e]
        exact h2
      · exact h1 j (by omega)
    · intro h
      exact ⟨fun j hj => h j (by omega), h n (by omega)⟩
theorem nv_b {T : Nat → Int} {s : Nat} : ∀ n, n ≤ 5 → (∀ j, j < n → 48 ≤ T (s + j) ∧ T (s + j) ≤ 57) → 0 ≤ nv T s n ∧ nv T s n < (10 : Int) ^ n
  | 0, _, _ => ⟨Int.le_refl 0, (by decide : (0 : Int) < 1)⟩
  | n + 1, hn, h => by
    have ih := nv_b n (by omega) (fun j hj => h j (by omega))
    have h1 := h n (by omega)
    show 0 ≤ nv T s n * 10 + T (s + n) - 48 ∧ nv T s n * 10 + T (s + n) - 48 < 10 ^ (n + 1)
    rw [Int.pow_succ]
    omega
theorem p10 : ∀ n : Nat, n ≤ 5 → (10 : Int) ^ n ≤ 100000
  | 0, _ => by decide
  | 1, _ => by decide
  | 2, _ => by decide
  | 3, _ => by decide
  | 4, _ => by decide
  | 5, _ => by decide
  | n + 6, h => by omega
/-! what a token says -/
theorem xS_w {T : Nat → Int} {z q : Nat} (h : q ≤ z) : q ≤ xS T z q ∧ xS T z q ≤ z := ⟨(en_w h).1, (en_w h).2.1⟩
theorem xE_w {T : Nat → Int} {z q : Nat} (h : q ≤ z) : xS T z q ≤ xE T z q ∧ xE T z q ≤ z ∧ (xS T z q < z → xS T z q < xE T z q) := by
  have h1 := xS_w (T := T) h
  unfold xE xEs
  generalize xS T z q = s at h1
  by_cases c0 : z ≤ s
  · rw [if_pos c0]
    omega
  · rw [if_neg c0]
    by_cases c1 : isL (T s) = true
    · rw [if_pos c1, en_go (by omega) c1]
      have := en_w (T := T) (P := isL) (z := z) (q := s + 1) (by omega)
      omega
    · rw [if_neg c1]
      by_cases c2 : isF (T s) = true
      · rw [if_pos c2, en_go (by omega) c2]
        have := en_w (T := T) (P := isF) (z := z) (q := s + 1) (by omega)
        omega
      · rw [if_neg c2]
        omega
theorem xK_le {T : Nat → Int} {z q : Nat} : xK T z q ≤ 8 := by
  unfold xK xKs
  generalize xS T z q = s
  by_cases c0 : z ≤ s
  · rw [if_pos c0]
    omega
  · rw [if_neg c0]
    by_cases c1 : isL (T s) = true
    · rw [if_pos c1]
      have := nmK_c T s (en T isL z s)
      omega
    · rw [if_neg c1]
      (repeat' split) <;> omega
/-- the kind by the reference's sort -/
theorem xKR {T : Nat → Int} {z q : Nat} (h : q ≤ z) : (xR T z q = 1 ↔ xK T z q = 0) ∧ (xR T z q = 3 ↔ xK T z q = 5) ∧ ((xR T z q = 4 ∧ T (xS T z q) = 59) ↔ xK T z q = 6) ∧ ((xR T z q = 4 ∧ T (xS T z q) = 64) ↔ xK T z q = 7) ∧ (xR T z q = 2 → xS T z q < xE T z q ∧ xE T z q ≤ xS T z q + 6 ∧ (∀ j, xS T z q ≤ j → j < xE T z q → 97 ≤ T j ∧ T j ≤ 122) ∧ xK T z q = nmK T (xS T z q) (xE T z q)) ∧ (¬ xR T z q = 2 → ¬ (1 ≤ xK T z q ∧ xK T z q ≤ 4)) ∧ (xR T z q = 3 → xS T z q < xE T z q ∧ xE T z q ≤ xS T z q + 5 ∧ ∀ j, xS T z q ≤ j → j < xE T z q → 48 ≤ T j ∧ T j ≤ 57) ∧ (xR T z q = 4 → xS T z q < z) ∧ (xK T z q ≠ 0 → xS T z q < z) := by
  have h1 := xS_w (T := T) h
  have h2 := xE_w (T := T) h
  unfold xR xK xE at *
  generalize xS T z q = s at h1 h2
  unfold xRs xKs xEs at *
  by_cases c0 : z ≤ s
  · simp only [if_pos c0] at h2 ⊢
    refine ⟨?_, ?_, ?_, ?_, ?_, ?_, ?_, ?_, ?_⟩ <;> first | omega | (intro q; exfalso; omega) | (simp; done)
  · simp only [if_neg c0] at h2 ⊢
    by_cases c1 : isL (T s) = true
    · simp only [if_pos c1] at h2 ⊢
      have q1 := nmK_c T s (en T isL z s)
      have q2 := en_w (T := T) (P := isL) (z := z) (q := s) (by omega)
      have q3 := isL_i.mp c1
      have q4 : ∀ j, s ≤ j → j < en T isL z s → 97 ≤ T j ∧ T j ≤ 122 := fun j a b => isL_i.mp (q2.2.2.2 j a b)
      by_cases c5 : s + 6 < en T isL z s
      · have q5 : nmK T s (en T isL z s) = 8 := by
          unfold nmK
          rw [if_pos c5]
        simp only [if_pos c5, q5]
        refine ⟨?_, ?_, ?_, ?_, ?_, ?_, ?_, ?_, ?_⟩ <;> first | omega | (intro q; exfalso; omega) | (simp; done)
      · simp only [if_neg c5]
        refine ⟨?_, ?_, ?_, ?_, fun _ => ⟨by omega, by omega, q4, by first | trivial | rfl⟩, ?_, ?_, ?_, ?_⟩ <;> first | omega | (intro q; exfalso; omega) | (simp; done)
    · simp only [if_neg c1] at h2 ⊢
      by_cases c2 : isF (T s) = true
      · simp only [if_pos c2] at h2 ⊢
        have q2 := en_w (T := T) (P := isF) (z := z) (q := s) (by omega)
        have q3 := isF_i.mp c2
        have q4 : ∀ j, s ≤ j → j < en T isF z s → 48 ≤ T j ∧ T j ≤ 57 := fun j a b => isF_i.mp (q2.2.2.2 j a b)
        by_cases c5 : s + 5 < en T isF z s
        · simp only [if_pos c5]
          refine ⟨?_, ?_, ?_, ?_, ?_, ?_, ?_, ?_, ?_⟩ <;> first | omega | (intro q; exfalso; omega) | (simp; done)
        · simp only [if_neg c5]
          refine ⟨?_, ?_, ?_, ?_, ?_, ?_, fun _ => ⟨by omega, by omega, q4⟩, ?_, ?_⟩ <;> first | omega | (intro q; exfalso; omega) | (simp; done)
      · simp only [if_neg c2] at h2 ⊢
        by_cases c6 : T s = 59
        · simp only [if_pos c6, c6, true_or, if_true]
          refine ⟨?_, ?_, ?_, ?_, ?_, ?_, ?_, ?_, ?_⟩ <;> first | omega | (intro q; exfalso; omega) | (simp; done)
        · by_cases c7 : T s = 64
          · simp only [if_neg c6, if_pos c7, c7, or_true, if_true]
            refine ⟨?_, ?_, ?_, ?_, ?_, ?_, ?_, ?_, ?_⟩ <;> first | omega | (intro q; exfalso; omega) | (simp; done)
          · simp only [if_neg c6, if_neg c7, c6, c7, or_self, if_false]
            refine ⟨?_, ?_, ?_, ?_, ?_, ?_, ?_, ?_, ?_⟩ <;> first | omega | (intro q; exfalso; omega) | (simp; done)
