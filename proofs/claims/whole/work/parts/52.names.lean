/-! a name as one number -/
theorem nw_k0 {T : Nat → Int} {s n : Nat} (h1 : 1 ≤ n) (h6 : n ≤ 6) (hl : ∀ j, j < n → 97 ≤ T (s + j) ∧ T (s + j) ≤ 122) : nw256 T s n = 448546567013 ↔ (n = 5 ∧ T (s + 0) = 104 ∧ T (s + 1) = 111 ∧ T (s + 2) = 117 ∧ T (s + 3) = 115 ∧ T (s + 4) = 101) := by
  rcases (show n = 1 ∨ n = 2 ∨ n = 3 ∨ n = 4 ∨ n = 5 ∨ n = 6 by omega) with e | e | e | e | e | e
  · subst e
    have a0 := hl 0 (by decide)
    simp only [nw256]
    constructor <;> intro q <;> omega
  · subst e
    have a0 := hl 0 (by decide)
    have a1 := hl 1 (by decide)
    simp only [nw256]
    constructor <;> intro q <;> omega
  · subst e
    have a0 := hl 0 (by decide)
    have a1 := hl 1 (by decide)
    have a2 := hl 2 (by decide)
    simp only [nw256]
    constructor <;> intro q <;> omega
  · subst e
    have a0 := hl 0 (by decide)
    have a1 := hl 1 (by decide)
    have a2 := hl 2 (by decide)
    have a3 := hl 3 (by decide)
    simp only [nw256]
    constructor <;> intro q <;> omega
  · subst e
    have a0 := hl 0 (by decide)
    have a1 := hl 1 (by decide)
    have a2 := hl 2 (by decide)
    have a3 := hl 3 (by decide)
    have a4 := hl 4 (by decide)
    simp only [nw256]
    constructor
    · intro q
      have e0 : T (s + 0) = 104 := by omega
      have e1 : T (s + 1) = 111 := by omega
      have e2 : T (s + 2) = 117 := by omega
      have e3 : T (s + 3) = 115 := by omega
      have e4 : T (s + 4) = 101 := by omega
      exact ⟨trivial, e0, e1, e2, e3, e4⟩
    · intro ⟨_, e0, e1, e2, e3, e4⟩
      omega
  · subst e
    have a0 := hl 0 (by decide)
    have a1 := hl 1 (by decide)
    have a2 := hl 2 (by decide)
    have a3 := hl 3 (by decide)
    have a4 := hl 4 (by decide)
    have a5 := hl 5 (by decide)
    simp only [nw256]
    constructor <;> intro q <;> omega
theorem nm_k0 {T : Nat → Int} {s e : Nat} (h1 : s < e) (h6 : e ≤ s + 6) (hl : ∀ j, s ≤ j → j < e → 97 ≤ T j ∧ T j ≤ 122) : nw256 T s (e - s) = 448546567013 ↔ nmB T s e 0 = true := by
  rw [nw_k0 (by omega) (by omega) (fun j hj => hl (s + j) (by omega) (by omega)), nmB_i]
  show _ ↔ (e = s + 5 ∧ eqB T s 0 5 = true)
  rw [eqB_all]
  constructor
  · intro ⟨q0, q⟩
    exact ⟨by omega, nl5 q⟩
  · intro ⟨q0, q⟩
    exact ⟨by omega, q 0 (by decide), q 1 (by decide), q 2 (by decide), q 3 (by decide), q 4 (by decide)⟩
theorem nw_k1 {T : Nat → Int} {s n : Nat} (h1 : 1 ≤ n) (h6 : n ≤ 6) (hl : ∀ j, j < n → 97 ≤ T (s + j) ∧ T (s + j) ≤ 122) : nw256 T s n = 6578553 ↔ (n = 3 ∧ T (s + 0) = 100 ∧ T (s + 1) = 97 ∧ T (s + 2) = 121) := by
  rcases (show n = 1 ∨ n = 2 ∨ n = 3 ∨ n = 4 ∨ n = 5 ∨ n = 6 by omega) with e | e | e | e | e | e
  · subst e
    have a0 := hl 0 (by decide)
    simp only [nw256]
    constructor <;> intro q <;> omega
  · subst e
    have a0 := hl 0 (by decide)
    have a1 := hl 1 (by decide)
    simp only [nw256]
    constructor <;> intro q <;> omega
  · subst e
    have a0 := hl 0 (by decide)
    have a1 := hl 1 (by decide)
    have a2 := hl 2 (by decide)
    simp only [nw256]
    constructor
    · intro q
      have e0 : T (s + 0) = 100 := by omega
      have e1 : T (s + 1) = 97 := by omega
      have e2 : T (s + 2) = 121 := by omega
      exact ⟨trivial, e0, e1, e2⟩
    · intro ⟨_, e0, e1, e2⟩
      omega
  · subst e
    have a0 := hl 0 (by decide)
    have a1 := hl 1 (by decide)
    have a2 := hl 2 (by decide)
    have a3 := hl 3 (by decide)
    simp only [nw256]
    constructor <;> intro q <;> omega
  · subst e
    have a0 := hl 0 (by decide)
    have a1 := hl 1 (by decide)
    have a2 := hl 2 (by decide)
    have a3 := hl 3 (by decide)
    have a4 := hl 4 (by decide)
    simp only [nw256]
    constructor <;> intro q <;> omega
  · subst e
    have a0 := hl 0 (by decide)
    have a1 := hl 1 (by decide)
    have a2 := hl 2 (by decide)
    have a3 := hl 3 (by decide)
    have a4 := hl 4 (by decide)
    have a5 := hl 5 (by decide)
    simp only [nw256]
    constructor <;> intro q <;> omega
theorem nm_k1 {T : Nat → Int} {s e : Nat} (h1 : s < e) (h6 : e ≤ s + 6) (hl : ∀ j, s ≤ j → j < e → 97 ≤ T j ∧ T j ≤ 122) : nw256 T s (e - s) = 6578553 ↔ nmB T s e 1 = true := by
  rw [nw_k1 (by omega) (by omega) (fun j hj => hl (s + j) (by omega) (by omega)), nmB_i]
  show _ ↔ (e = s + 3 ∧ eqB T s 1 3 = true)
  rw [eqB_all]
  constructor
  · intro ⟨q0, q⟩
    exact ⟨by omega, nl3 q⟩
  · intro ⟨q0, q⟩
    exact ⟨by omega, q 0 (by decide), q 1 (by decide), q 2 (by decide)⟩
theorem nw_k2 {T : Nat → Int} {s n : Nat} (h1 : 1 ≤ n) (h6 : n ≤ 6) (hl : ∀ j, j < n → 97 ≤ T (s + j) ∧ T (s + j) ≤ 122) : nw256 T s n = 6513008 ↔ (n = 3 ∧ T (s + 0) = 99 ∧ T (s + 1) = 97 ∧ T (s + 2) = 112) := by
  rcases (show n = 1 ∨ n = 2 ∨ n = 3 ∨ n = 4 ∨ n = 5 ∨ n = 6 by omega) with e | e | e | e | e | e
  · subst e
    have a0 := hl 0 (by decide)
    simp only [nw256]
    constructor <;> intro q <;> omega
  · subst e
    have a0 := hl 0 (by decide)
    have a1 := hl 1 (by decide)
    simp only [nw256]
    constructor <;> intro q <;> omega
  · subst e
    have a0 := hl 0 (by decide)
    have a1 := hl 1 (by decide)
    have a2 := hl 2 (by decide)
    simp only [nw256]
    constructor
    · intro q
      have e0 : T (s + 0) = 99 := by omega
      have e1 : T (s + 1) = 97 := by omega
      have e2 : T (s + 2) = 112 := by omega
      exact ⟨trivial, e0, e1, e2⟩
    · intro ⟨_, e0, e1, e2⟩
      omega
  · subst e
    have a0 := hl 0 (by decide)
    have a1 := hl 1 (by decide)
    have a2 := hl 2 (by decide)
    have a3 := hl 3 (by decide)
    simp only [nw256]
    constructor <;> intro q <;> omega
  · subst e
    have a0 := hl 0 (by decide)
    have a1 := hl 1 (by decide)
    have a2 := hl 2 (by decide)
    have a3 := hl 3 (by decide)
    have a4 := hl 4 (by decide)
    simp only [nw256]
    constructor <;> intro q <;> omega
  · subst e
    have a0 := hl 0 (by decide)
    have a1 := hl 1 (by decide)
    have a2 := hl 2 (by decide)
    have a3 := hl 3 (by decide)
    have a4 := hl 4 (by decide)
    have a5 := hl 5 (by decide)
    simp only [nw256]
    constructor <;> intro q <;> omega
theorem nm_k2 {T : Nat → Int} {s e : Nat} (h1 : s < e) (h6 : e ≤ s + 6) (hl : ∀ j, s ≤ j → j < e → 97 ≤ T j ∧ T j ≤ 122) : nw256 T s (e - s) = 6513008 ↔ nmB T s e 2 = true := by
  rw [nw_k2 (by omega) (by omega) (fun j hj => hl (s + j) (by omega) (by omega)), nmB_i]
  show _ ↔ (e = s + 3 ∧ eqB T s 2 3 = true)
  rw [eqB_all]
  constructor
  · intro ⟨q0, q⟩
    exact ⟨by omega, nl3 q⟩
  · intro ⟨q0, q⟩
    exact ⟨by omega, q 0 (by decide), q 1 (by decide), q 2 (by decide)⟩
theorem nw_k3 {T : Nat → Int} {s n : Nat} (h1 : 1 ≤ n) (h6 : n ≤ 6) (hl : ∀ j, j < n → 97 ≤ T (s + j) ∧ T (s + j) ≤ 122) : nw256 T s n = 1885432164 ↔ (n = 4 ∧ T (s + 0) = 112 ∧ T (s + 1) = 97 ∧ T (s + 2) = 105 ∧ T (s + 3) = 100) := by
  rcases (show n = 1 ∨ n = 2 ∨ n = 3 ∨ n = 4 ∨ n = 5 ∨ n = 6 by omega) with e | e | e | e | e | e
  · subst e
    have a0 := hl 0 (by decide)
    simp only [nw256]
    constructor <;> intro q <;> omega
  · subst e
    have a0 := hl 0 (by decide)
    have a1 := hl 1 (by decide)
    simp only [nw256]
    constructor <;> intro q <;> omega
  · subst e
    have a0 := hl 0 (by decide)
    have a1 := hl 1 (by decide)
    have a2 := hl 2 (by decide)
    simp only [nw256]
    constructor <;> intro q <;> omega
  · subst e
    have a0 := hl 0 (by decide)
    have a1 := hl 1 (by decide)
    have a2 := hl 2 (by decide)
    have a3 := hl 3 (by decide)
    simp only [nw256]
    constructor
    · intro q
      have e0 : T (s + 0) = 112 := by omega
      have e1 : T (s + 1) = 97 := by omega
      have e2 : T (s + 2) = 105 := by omega
      have e3 : T (s + 3) = 100 := by omega
      exact ⟨trivial, e0, e1, e2, e3⟩
    · intro ⟨_, e0, e1, e2, e3⟩
      omega
  · subst e
    have a0 := hl 0 (by decide)
    have a1 := hl 1 (by decide)
    have a2 := hl 2 (by decide)
    have a3 := hl 3 (by decide)
    have a4 := hl 4 (by decide)
    simp only [nw256]
    constructor <;> intro q <;> omega
  · subst e
    have a0 := hl 0 (by decide)
    have a1 := hl 1 (by decide)
    have a2 := hl 2 (by decide)
    have a3 := hl 3 (by decide)
    have a4 := hl 4 (by decide)
    have a5 := hl 5 (by decide)
    simp only [nw256]
    constructor <;> intro q <;> omega
theorem nm_k3 {T : Nat → Int} {s e : Nat} (h1 : s < e) (h6 : e ≤ s + 6) (hl : ∀ j, s ≤ j → j < e → 97 ≤ T j ∧ T j ≤ 122) : nw256 T s (e - s) = 1885432164 ↔ nmB T s e 3 = true := by
  rw [nw_k3 (by omega) (by omega) (fun j hj => hl (s + j) (by omega) (by omega)), nmB_i]
  show _ ↔ (e = s + 4 ∧ eqB T s 3 4 = true)
  rw [eqB_all]
  constructor
  · intro ⟨q0, q⟩
    exact ⟨by omega, nl4 q⟩
  · intro ⟨q0, q⟩
    exact ⟨by omega, q 0 (by decide), q 1 (by decide), q 2 (by decide), q 3 (by decide)⟩
theorem qB6 {x : Int64} {a : Nat} (h : x.toInt = (a : Int)) : x.toBitVec.toNat = a ∧ a < 9223372036854775808 := by
  have h1 : x.toBitVec.toInt = (a : Int) := h
  rw [BitVec.toInt_eq_toNat_cond] at h1
  have h2 := x.toBitVec.isLt
  split at h1 <;> omega
theorem qN6 {x : Int64} {a : Nat} (h : x.toBitVec.toNat = a) (ha : a < 9223372036854775808) : x.toInt = (a : Int) := by
  show x.toBitVec.toInt = _
  rw [BitVec.toInt_eq_toNat_cond, h, if_pos (by omega)]
theorem sh8 : (((8 : Int32).toInt64 &&& 63).toBitVec.smod 64) = BitVec.ofNat 64 8 := by decide
set_option maxRecDepth 100000 in
theorem tNm {v : Int64} {t : Int32} {a b : Nat} (hv : v.toInt = (a : Int)) (ht : t.toInt = (b : Int)) (ha : a < 1099511627776) (hb : b < 256) : ((v <<< ((8 : Int32).toInt64 &&& 63)) ||| t.toInt64).toInt = ((a * 256 + b : Nat) : Int) := by
  have h1 := qB6 hv
  have h2 := qB6 (x := t.toInt64) (a := b) (by rw [Int32.toInt_toInt64]; exact ht)
  have hl : a * 256 + b < 9223372036854775808 := by omega
  refine qN6 ?_ hl
  have e8 : (BitVec.ofNat 64 8).toNat = 8 := rfl
  have e9 : a * 2 ^ 8 % 2 ^ 64 = a * 2 ^ 8 := Nat.mod_eq_of_lt (by omega)
  have e10 := Nat.shiftLeft_add_eq_or_of_lt (i := 8) (b := b) (by omega) a
  rw [Nat.shiftLeft_eq] at e10
  rw [Int64.toBitVec_or, BitVec.toNat_or, Int64.toBitVec_shiftLeft, sh8, h2.1, BitVec.shiftLeft_eq', BitVec.toNat_shiftLeft, h1.1, e8, Nat.shiftLeft_eq, e9, ← e10]
theorem nw_b {T : Nat → Int} {s : Nat} : ∀ n, (∀ j, j < n → 0 ≤ T (s + j) ∧ T (s + j) ≤ 255) → 0 ≤ nw256 T s n ∧ nw256 T s n < (256 : Int) ^ n
  | 0, _ => ⟨Int.le_refl 0, (by decide : (0 : Int) < 1)⟩
  | n + 1, h => by
    have ih := nw_b n (fun j hj => h j (by omega))
    have h1 := h n (by omega)
    show 0 ≤ nw256 T s n * 256 + T (s + n) ∧ nw256 T s n * 256 + T (s + n) < 256 ^ (n + 1)
    rw [Int.pow_succ]
    omega
theorem p256i : ∀ n : Nat, n ≤ 5 → (256 : Int) ^ n ≤ 1099511627776
  | 0, _ => by decide
  | 1, _ => by decide
  | 2, _ => by decide
  | 3, _ => by decide
  | 4, _ => by decide
  | 5, _ => by decide
  | n + 6, h => by omega
theorem tNmI {v : Int64} {t : Int32} {x y : Int} (hv : v.toInt = x) (ht : t.toInt = y) (hx : 0 ≤ x ∧ x < 1099511627776) (hy : 0 ≤ y ∧ y < 256) : ((v <<< ((8 : Int32).toInt64 &&& 63)) ||| t.toInt64).toInt = x * 256 + y := by
  have := tNm (v := v) (t := t) (a := x.toNat) (b := y.toNat) (by omega) (by omega) (by omega) (by omega)
  omega
