/-! bits of whole numbers that aren't negative -/
theorem qB {x : Int32} {a : Nat} (h : x.toInt = (a : Int)) : x.toBitVec.toNat = a ∧ a < 2147483648 := by
  have h1 : x.toBitVec.toInt = (a : Int) := h
  rw [BitVec.toInt_eq_toNat_cond] at h1
  have h2 := x.toBitVec.isLt
  split at h1 <;> omega
theorem qN {x : Int32} {a : Nat} (h : x.toBitVec.toNat = a) (ha : a < 2147483648) : x.toInt = (a : Int) := by
  show x.toBitVec.toInt = _
  rw [BitVec.toInt_eq_toNat_cond, h, if_pos (by omega)]
theorem tAnd {x y : Int32} {a b : Nat} (hx : x.toInt = (a : Int)) (hy : y.toInt = (b : Int)) : (x &&& y).toInt = ((a &&& b : Nat) : Int) := by
  have h1 := qB hx
  have h2 := qB hy
  refine qN ?_ (Nat.lt_of_le_of_lt Nat.and_le_left h1.2)
  rw [Int32.toBitVec_and, BitVec.toNat_and, h1.1, h2.1]
theorem tOr {x y : Int32} {a b : Nat} (hx : x.toInt = (a : Int)) (hy : y.toInt = (b : Int)) : (x ||| y).toInt = ((a ||| b : Nat) : Int) := by
  have h1 := qB hx
  have h2 := qB hy
  refine qN ?_ (Nat.or_lt_two_pow (n := 31) h1.2 h2.2)
  rw [Int32.toBitVec_or, BitVec.toNat_or, h1.1, h2.1]
theorem ofN {y : Int32} {i : Nat} (hy : y.toInt = (i : Int)) : y = Int32.ofNat i := by
  have h1 := qB hy
  apply Int32.toBitVec_inj.mp
  apply BitVec.eq_of_toNat_eq
  rw [h1.1]
  show i = (BitVec.ofNat 32 i).toNat
  rw [BitVec.toNat_ofNat, Nat.mod_eq_of_lt (by omega)]
theorem shC : ∀ i : Fin 32, (Int32.ofNat i.1 &&& 31).toBitVec.smod 32 = BitVec.ofNat 32 i.1 := by decide
theorem shO : ∀ i : Fin 31, ((1 : Int32) <<< (Int32.ofNat i.1 &&& 31)).toInt = ((2 ^ i.1 : Nat) : Int) := by decide
theorem tShr {x y : Int32} {a i : Nat} (hx : x.toInt = (a : Int)) (hy : y.toInt = (i : Int)) (hi : i < 32) : (x >>> (y &&& 31)).toInt = ((a / 2 ^ i : Nat) : Int) := by
  rw [ofN hy]
  show (x >>> (Int32.ofNat i &&& 31)).toBitVec.toInt = _
  rw [Int32.toBitVec_shiftRight, shC ⟨i, hi⟩, BitVec.sshiftRight_eq', BitVec.toInt_sshiftRight, BitVec.toNat_ofNat, Nat.mod_eq_of_lt (by omega)]
  show x.toInt >>> i = _
  rw [hx, Int.shiftRight_eq_div_pow]
  exact (Int.natCast_ediv a (2 ^ i)).symm ▸ rfl
theorem tShl {y : Int32} {i : Nat} (hy : y.toInt = (i : Int)) (hi : i < 31) : ((1 : Int32) <<< (y &&& 31)).toInt = ((2 ^ i : Nat) : Int) := by
  rw [ofN hy]
  exact shO ⟨i, hi⟩
theorem tBit {x y : Int32} {a i : Nat} (hx : x.toInt = (a : Int)) (hy : y.toInt = (i : Int)) (hi : i < 32) : ((x >>> (y &&& 31)) &&& 1).toInt = if a.testBit i = true then 1 else 0 := by
  rw [tAnd (tShr hx hy hi) (show (1 : Int32).toInt = ((1 : Nat) : Int) from rfl), Nat.and_one_is_mod, Nat.testBit_eq_decide_div_mod_eq]
  have : a / 2 ^ i % 2 < 2 := Nat.mod_lt _ (by decide)
  split <;> rename_i q <;> simp at q <;> omega
theorem tSet {x y : Int32} {a i : Nat} (hx : x.toInt = (a : Int)) (hy : y.toInt = (i : Int)) (hi : i < 31) : (x ||| ((1 : Int32) <<< (y &&& 31))).toInt = ((a ||| 2 ^ i : Nat) : Int) := tOr hx (tShl hy hi)
theorem tUsh {x : Int32} {a k : Nat} (hx : x.toInt = (a : Int)) (j : Int32) (hj : (j.toUInt32 &&& Int32.toUInt32 31).toNat % 32 = k) : ((x.toUInt32 >>> (j.toUInt32 &&& Int32.toUInt32 31)).toInt32).toInt = ((a / 2 ^ k : Nat) : Int) := by
  have h1 := qB hx
  have h2 : (x.toUInt32 >>> (j.toUInt32 &&& Int32.toUInt32 31)).toNat = a / 2 ^ k := by
    rw [UInt32.toNat_shiftRight, hj, Nat.shiftRight_eq_div_pow]
    show x.toBitVec.toNat / _ = _
    rw [h1.1]
  refine qN (a := a / 2 ^ k) h2 (Nat.lt_of_le_of_lt (Nat.div_le_self _ _) h1.2)
theorem tOne {a i : Nat} : (a ||| 2 ^ i).testBit i = true := by
  rw [Nat.testBit_or, Nat.testBit_two_pow_self, Bool.or_true]
theorem tOth {a i j : Nat} (h : i ≠ j) : (a ||| 2 ^ i).testBit j = a.testBit j := by
  rw [Nat.testBit_or, Nat.testBit_two_pow_of_ne h, Bool.or_false]
theorem orLt {a i n : Nat} (ha : a < 2 ^ n) (hi : i < n) : a ||| 2 ^ i < 2 ^ n := Nat.or_lt_two_pow ha (Nat.pow_lt_pow_right (by decide) hi)
/-- how many of the first j -/
def pcn (K : Nat) : Nat → Nat
  | 0 => 0
  | j + 1 => pcn K j + if K.testBit j = true then 1 else 0
theorem pcn_or {K i : Nat} (hi : K.testBit i = false) : ∀ j, pcn (K ||| 2 ^ i) j = pcn K j + if i < j then 1 else 0
  | 0 => rfl
  | j + 1 => by
    show pcn _ j + _ = pcn K j + _ + _
    rw [pcn_or hi j]
    by_cases e : i = j
    · subst e
      rw [tOne, hi, if_neg (Nat.lt_irrefl i), if_pos rfl, if_pos (Nat.lt_succ_self i)]
      simp
    · rw [tOth e]
      by_cases q : i < j
      · have q2 : i < j + 1 := by omega
        simp only [q, q2, if_true]
        omega
      · have q2 : ¬ i < j + 1 := by omega
        simp only [q, q2, if_false]
        omega
/-! the count of the machine's library -/
def y1B (a : Nat) : Nat := a - (a / 2 &&& 85)
def y2B (a : Nat) : Nat := (y1B a &&& 51) + (y1B a / 4 &&& 51)
def y3B (a : Nat) : Nat := (y2B a + y2B a / 16) &&& 15
theorem anP {a b c d : Nat} (k : Nat) (ha : a < 2 ^ k) (hc : c < 2 ^ k) : (a + 2 ^ k * b) &&& (c + 2 ^ k * d) = (a &&& c) + 2 ^ k * (b &&& d) := by
  have e1 : ((a + 2 ^ k * b) &&& (c + 2 ^ k * d)) % 2 ^ k = a &&& c := by
    rw [Nat.and_mod_two_pow, Nat.add_mul_mod_self_left, Nat.add_mul_mod_self_left, Nat.mod_eq_of_lt ha, Nat.mod_eq_of_lt hc]
  have e2 : ((a + 2 ^ k * b) &&& (c + 2 ^ k * d)) / 2 ^ k = b &&& d := by
    have hp : 0 < 2 ^ k := Nat.two_pow_pos k
    rw [Nat.and_div_two_pow, Nat.add_mul_div_left _ _ hp, Nat.add_mul_div_left _ _ hp, Nat.div_eq_of_lt ha, Nat.div_eq_of_lt hc, Nat.zero_add, Nat.zero_add]
  have e3 := Nat.mod_add_div ((a + 2 ^ k * b) &&& (c + 2 ^ k * d)) (2 ^ k)
  rw [e1, e2] at e3
  exact e3.symm
theorem an3 {a b c x y z : Nat} (ha : a < 256) (hb : b < 256) (hx : x < 256) (hy : y < 256) : (a + 256 * (b + 256 * c)) &&& (x + 256 * (y + 256 * z)) = (a &&& x) + 256 * ((b &&& y) + 256 * (c &&& z)) := by
  have e1 := anP (a := a) (b := b + 256 * c) (c := x) (d := y + 256 * z) 8 ha hx
  have e2 := anP (a := b) (b := c) (c := y) (d := z) 8 hb hy
  rw [show (2 : Nat) ^ 8 = 256 from rfl] at e1 e2
  rw [e1, e2]
theorem by1 : ∀ a : Fin 256, ∀ e : Fin 2, ((a.1 / 2 + 128 * e.1) &&& 85) = (a.1 / 2 &&& 85) := by decide +kernel
theorem by1c : ∀ a : Fin 256, (a.1 / 2 &&& 21845) = (a.1 / 2 &&& 85) ∧ (a.1 / 2 &&& 85) ≤ a.1 ∧ y1B a.1 < 256 := by decide +kernel
theorem by2 : ∀ a : Fin 256, ∀ e : Fin 4, ((a.1 / 4 + 64 * e.1) &&& 51) = (a.1 / 4 &&& 51) := by decide +kernel
theorem by2c : ∀ a : Fin 256, (a.1 / 4 &&& 13107) = (a.1 / 4 &&& 51) ∧ (a.1 &&& 13107) = (a.1 &&& 51) := by decide +kernel
theorem by2d : ∀ a : Fin 256, y2B a.1 ≤ 68 ∧ y2B a.1 % 16 ≤ 4 := by decide +kernel
theorem by3 : ∀ a : Fin 69, ∀ e : Fin 5, ((a.1 + a.1 / 16 + 16 * e.1) &&& 15) = ((a.1 + a.1 / 16) &&& 15) ∧ ((a.1 + a.1 / 16) &&& 3855) = ((a.1 + a.1 / 16) &&& 15) := by decide +kernel
theorem by4 : ∀ a : Fin 256, y3B a.1 = pcn a.1 8 ∧ y3B a.1 ≤ 8 := by decide +kernel
def w3 (a b c : Nat) : Nat := a + 256 * (b + 256 * c)
theorem st1 {a b c : Nat} (ha : a < 256) (hb : b < 256) (hc : c < 256) : w3 a b c - (w3 a b c / 2 &&& 1431655765) = w3 (y1B a) (y1B b) (y1B c) ∧ (w3 a b c / 2 &&& 1431655765) ≤ w3 a b c := by
  have e1 : w3 a b c / 2 = (a / 2 + 128 * (b % 2)) + 256 * ((b / 2 + 128 * (c % 2)) + 256 * (c / 2)) := by unfold w3; omega
  have e2 : (w3 a b c / 2 &&& 1431655765) = (a / 2 &&& 85) + 256 * ((b / 2 &&& 85) + 256 * (c / 2 &&& 85)) := by
    rw [e1, show 1431655765 = 85 + 256 * (85 + 256 * 21845) from rfl, an3 (by omega) (by omega) (by decide) (by decide), by1 ⟨a, ha⟩ ⟨b % 2, by omega⟩, by1 ⟨b, hb⟩ ⟨c % 2, by omega⟩, (by1c ⟨c, hc⟩).1]
  have ha1 := (by1c ⟨a, ha⟩).2.1
  have hb1 := (by1c ⟨b, hb⟩).2.1
  have hc1 := (by1c ⟨c, hc⟩).2.1
  simp only at ha1 hb1 hc1
  rw [e2]
  unfold w3 y1B
  omega
theorem st2 {a b c : Nat} (ha : a < 256) (hb : b < 256) (hc : c < 256) : (w3 a b c &&& 858993459) + (w3 a b c / 4 &&& 858993459) = w3 ((a &&& 51) + (a / 4 &&& 51)) ((b &&& 51) + (b / 4 &&& 51)) ((c &&& 51) + (c / 4 &&& 51)) := by
  have e1 : w3 a b c / 4 = (a / 4 + 64 * (b % 4)) + 256 * ((b / 4 + 64 * (c % 4)) + 256 * (c / 4)) := by unfold w3; omega
  have e2 : (w3 a b c / 4 &&& 858993459) = (a / 4 &&& 51) + 256 * ((b / 4 &&& 51) + 256 * (c / 4 &&& 51)) := by
    rw [e1, show 858993459 = 51 + 256 * (51 + 256 * 13107) from rfl, an3 (by omega) (by omega) (by decide) (by decide), by2 ⟨a, ha⟩ ⟨b % 4, by omega⟩, by2 ⟨b, hb⟩ ⟨c % 4, by omega⟩, (by2c ⟨c, hc⟩).1]
  have e3 : (w3 a b c &&& 858993459) = (a &&& 51) + 256 * ((b &&& 51) + 256 * (c &&& 51)) := by
    unfold w3
    rw [show 858993459 = 51 + 256 * (51 + 256 * 13107) from rfl, an3 ha hb (by decide) (by decide), (by2c ⟨c, hc⟩).2]
  rw [e2, e3]
  unfold w3
  omega
theorem st3 {a b c : Nat} (ha : a ≤ 68) (hb : b ≤ 68) (hc : c ≤ 68) (hb4 : b % 16 ≤ 4) (hc4 : c % 16 ≤ 4) : (w3 a b c + w3 a b c / 16) &&& 252645135 = w3 ((a + a / 16) &&& 15) ((b + b / 16) &&& 15) ((c + c / 16) &&& 15) := by
  have e1 : w3 a b c + w3 a b c / 16 = (a + a / 16 + 16 * (b % 16)) + 256 * ((b + b / 16 + 16 * (c % 16)) + 256 * (c + c / 16)) := by unfold w3; omega
  rw [e1, show 252645135 = 15 + 256 * (15 + 256 * 3855) from rfl, an3 (by omega) (by omega) (by decide) (by decide), (by3 ⟨a, by omega⟩ ⟨b % 16, by omega⟩).1, (by3 ⟨b, by omega⟩ ⟨c % 16, by omega⟩).1, (by3 ⟨c, by omega⟩ ⟨0, by omega⟩).2]
  rfl
theorem pcn_add (K m : Nat) : ∀ j, pcn K (m + j) = pcn K m + pcn (K / 2 ^ m) j
  | 0 => rfl
  | j + 1 => by
    show pcn K (m + j) + _ = pcn K m + (pcn (K / 2 ^ m) j + _)
    rw [pcn_add K m j, Nat.testBit_div_two_pow, Nat.add_comm j m]
    exact Nat.add_assoc _ _ _
theorem pcn_mod (K m : Nat) : ∀ j, j ≤ m → pcn (K % 2 ^ m) j = pcn K j
  | 0, _ => rfl
  | j + 1, h => by
    show pcn _ j + _ = pcn K j + _
    rw [pcn_mod K m j (by omega), Nat.testBit_mod_two_pow]
    simp only [show j < m by omega, decide_true, Bool.true_and]
theorem pcn_24 {K : Nat} (h : K < 16777216) : ∃ a b c, a < 256 ∧ b < 256 ∧ c < 256 ∧ K = w3 a b c ∧ pcn K 24 = pcn a 8 + pcn b 8 + pcn c 8 := by
  refine ⟨K % 256, K / 256 % 256, K / 256 / 256, by omega, by omega, by omega, by unfold w3; omega, ?_⟩
  rw [show (24 : Nat) = 8 + 16 from rfl, pcn_add, show (16 : Nat) = 8 + 8 from rfl, pcn_add, ← pcn_mod K 8 8 (Nat.le_refl _), ← pcn_mod (K / 2 ^ 8) 8 8 (Nat.le_refl _)]
  rw [show (2 : Nat) ^ 8 = 256 from rfl]
  omega
abbrev usE (x j : Int32) : Int32 := (x.toUInt32 >>> (j.toUInt32 &&& Int32.toUInt32 31)).toInt32
def b1E (x : Int32) : Int32 := x - (usE x 1 &&& 1431655765)
def b2E (x : Int32) : Int32 := (x &&& 858993459) + (usE x 2 &&& 858993459)
def b3E (x : Int32) : Int32 := (x + usE x 4) &&& 252645135
def b4E (x : Int32) : Int32 := x + usE x 8
def b5E (x : Int32) : Int32 := x + usE x 16
theorem tAn {x y : Int32} {a b : Nat} (hx : x.toInt = (a : Int)) (hy : y.toInt = (b : Int)) (h : a + b < 2147483648) : (x + y).toInt = ((a + b : Nat) : Int) := by
  rw [tA hx hy (by omega)]
  omega
theorem fin6 {A B C : Nat} (hA : A ≤ 8) (hB : B ≤ 8) (hC : C ≤ 8) : (A + B + 256 * (B + C) + 65536 * C + (A + B + 256 * (B + C) + 65536 * C) / 65536) % 64 = A + B + C := by
  have e1 : (A + B + 256 * (B + C) + 65536 * C) / 65536 = C := by omega
  rw [e1]
  omega
theorem bit_eq {x : Int32} {K : Nat} (hx : x.toInt = (K : Int)) (hK : K < 16777216) : (b5E (b4E (b3E (b2E (b1E x)))) &&& 63).toInt = (pcn K 24 : Int) := by
  obtain ⟨a, b, c, ha, hb, hc, e, ep⟩ := pcn_24 hK
  have s1 := st1 ha hb hc
  have t1 : (b1E x).toInt = ((w3 (y1B a) (y1B b) (y1B c) : Nat) : Int) := by
    rw [← s1.1, ← e]
    have q := tAnd (tUsh (k := 1) hx 1 rfl) (show (1431655765 : Int32).toInt = ((1431655765 : Nat) : Int) from rfl)
    have s2 := s1.2
    rw [← e] at s2
    unfold b1E
    rw [show (2 : Nat) ^ 1 = 2 from rfl] at q
    rw [tS hx q (by omega)]
    omega
  have ha1 := (by1c ⟨a, ha⟩).2.2
  have hb1 := (by1c ⟨b, hb⟩).2.2
  have hc1 := (by1c ⟨c, hc⟩).2.2
  simp only at ha1 hb1 hc1
  have z2 := st2 ha1 hb1 hc1
  have ha2 := by2d ⟨a, ha⟩
  have hb2 := by2d ⟨b, hb⟩
  have hc2 := by2d ⟨c, hc⟩
  simp only at ha2 hb2 hc2
  have z2' : (w3 (y1B a) (y1B b) (y1B c) &&& 858993459) + (w3 (y1B a) (y1B b) (y1B c) / 4 &&& 858993459) = w3 (y2B a) (y2B b) (y2B c) := z2
  have t2 : (b2E (b1E x)).toInt = ((w3 (y2B a) (y2B b) (y2B c) : Nat) : Int) := by
    rw [← z2']
    have q := tAnd (tUsh (k := 2) t1 2 rfl) (show (858993459 : Int32).toInt = ((858993459 : Nat) : Int) from rfl)
    have q2 := tAnd t1 (show (858993459 : Int32).toInt = ((858993459 : Nat) : Int) from rfl)
    rw [show (2 : Nat) ^ 2 = 4 from rfl] at q
    unfold b2E
    refine tAn q2 q ?_
    rw [z2']
    unfold w3
    omega
  have z3 : (w3 (y2B a) (y2B b) (y2B c) + w3 (y2B a) (y2B b) (y2B c) / 16) &&& 252645135 = w3 (y3B a) (y3B b) (y3B c) := st3 ha2.1 hb2.1 hc2.1 hb2.2 hc2.2
  have t3 : (b3E (b2E (b1E x))).toInt = ((w3 (y3B a) (y3B b) (y3B c) : Nat) : Int) := by
    rw [← z3]
    have q := tUsh (k := 4) t2 4 rfl
    rw [show (2 : Nat) ^ 4 = 16 from rfl] at q
    unfold b3E
    refine tAnd (tAn t2 q ?_) (show (252645135 : Int32).toInt = ((252645135 : Nat) : Int) from rfl)
    unfold w3
    omega
  have ha4 := by4 ⟨a, ha⟩
  have hb4 := by4 ⟨b, hb⟩
  have hc4 := by4 ⟨c, hc⟩
  simp only at ha4 hb4 hc4
  have t4 := tUsh (k := 8) t3 8 rfl
  have t4' : (b4E (b3E (b2E (b1E x)))).toInt = ((y3B a + y3B b + 256 * (y3B b + y3B c) + 65536 * y3B c : Nat) : Int) := by
    have := tAn t3 t4 (by unfold w3; omega)
    unfold b4E
    rw [this]
    unfold w3
    omega
  have t5 := tUsh (k := 16) t4' 16 rfl
  have t5' := tAn t4' t5 (by omega)
  have t6 := tAnd (show (b5E (b4E (b3E (b2E (b1E x))))).toInt = _ from t5') (show (63 : Int32).toInt = ((63 : Nat) : Int) from rfl)
  rw [t6, ep, show (63 : Nat) = 2 ^ 6 - 1 from rfl, Nat.and_two_pow_sub_one_eq_mod, show (2 : Nat) ^ 6 = 64 from rfl, show (2 : Nat) ^ 16 = 65536 from rfl, fin6 ha4.2 hb4.2 hc4.2, ha4.1, hb4.1, hc4.1]

set_option maxHeartbeats 4000000 in
set_option maxRecDepth 100000 in
theorem sp_bit (G : oG) {h : oH} (x : Int32) {K : Nat} (hx : x.toInt = (K : Int)) (hK : K < 16777216) : oSp G mJ6_bitCount_0f7a4 [.int x] h (some (.int (b5E (b4E (b3E (b2E (b1E x)))) &&& 63))) h := by
  refine oSp.intro [some (.int x)] rfl (Nat.le_of_ble_eq_true rfl) (plainFor_of_name (by decide +kernel)) (Nat.le_refl _) ?_
  intro p l e R s m args below meth c C
  refine r_iload_n C rfl dJ6_bitCount_0f7a4_0 ?_
  refine r_iload_n C rfl dJ6_bitCount_0f7a4_1 ?_
  refine r_iconstv C 1 rfl dJ6_bitCount_0f7a4_2 ?_
  refine r_iushr C dJ6_bitCount_0f7a4_3 ?_
  refine r_ldcw C _ lc_J6_265 dJ6_bitCount_0f7a4_4 ?_
  refine r_iand C dJ6_bitCount_0f7a4_7 ?_
  refine r_isub C dJ6_bitCount_0f7a4_8 ?_
  refine r_istore_n C rfl (Nat.le_of_ble_eq_true rfl) dJ6_bitCount_0f7a4_9 ?_
  refine r_iload_n C rfl dJ6_bitCount_0f7a4_10 ?_
  refine r_ldcw C _ lc_J6_266 dJ6_bitCount_0f7a4_11 ?_
  refine r_iand C dJ6_bitCount_0f7a4_14 ?_
  refine r_iload_n C rfl dJ6_bitCount_0f7a4_15 ?_
  refine r_iconstv C 2 rfl dJ6_bitCount_0f7a4_16 ?_
  refine r_iushr C dJ6_bitCount_0f7a4_17 ?_
  refine r_ldcw C _ lc_J6_266 dJ6_bitCount_0f7a4_18 ?_
  refine r_iand C dJ6_bitCount_0f7a4_21 ?_
  refine r_iadd C dJ6_bitCount_0f7a4_22 ?_
  refine r_istore_n C rfl (Nat.le_of_ble_eq_true rfl) dJ6_bitCount_0f7a4_23 ?_
  refine r_iload_n C rfl dJ6_bitCount_0f7a4_24 ?_
  refine r_iload_n C rfl dJ6_bitCount_0f7a4_25 ?_
  refine r_iconstv C 4 rfl dJ6_bitCount_0f7a4_26 ?_
  refine r_iushr C dJ6_bitCount_0f7a4_27 ?_
  refine r_iadd C dJ6_bitCount_0f7a4_28 ?_
  refine r_ldcw C _ lc_J6_267 dJ6_bitCount_0f7a4_29 ?_
  refine r_iand C dJ6_bitCount_0f7a4_32 ?_
  refine r_istore_n C rfl (Nat.le_of_ble_eq_true rfl) dJ6_bitCount_0f7a4_33 ?_
  refine r_iload_n C rfl dJ6_bitCount_0f7a4_34 ?_
  refine r_iload_n C rfl dJ6_bitCount_0f7a4_35 ?_
  refine r_bipush C 8 rfl dJ6_bitCount_0f7a4_36 ?_
  refine r_iushr C dJ6_bitCount_0f7a4_38 ?_
  refine r_iadd C dJ6_bitCount_0f7a4_39 ?_
  refine r_istore_n C rfl (Nat.le_of_ble_eq_true rfl) dJ6_bitCount_0f7a4_40 ?_
  refine r_iload_n C rfl dJ6_bitCount_0f7a4_41 ?_
  refine r_iload_n C rfl dJ6_bitCount_0f7a4_42 ?_
  refine r_bipush C 16 rfl dJ6_bitCount_0f7a4_43 ?_
  refine r_iushr C dJ6_bitCount_0f7a4_45 ?_
  refine r_iadd C dJ6_bitCount_0f7a4_46 ?_
  refine r_istore_n C rfl (Nat.le_of_ble_eq_true rfl) dJ6_bitCount_0f7a4_47 ?_
  refine r_iload_n C rfl dJ6_bitCount_0f7a4_48 ?_
  refine r_bipush C 63 rfl dJ6_bitCount_0f7a4_49 ?_
  refine r_iand C dJ6_bitCount_0f7a4_51 ?_
  exact r_iret C dJ6_bitCount_0f7a4_52 rfl (Nat.le_refl _) rfl rfl

