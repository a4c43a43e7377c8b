/-! rounds: sets, least ways, the order -/
def mB (B : Nat → Bool) (i : Nat) : List Nat := (List.range i).filter B
theorem mB_t {B : Nat → Bool} {i : Nat} (h : B i = true) : mB B (i + 1) = mB B i ++ [i] := by
  unfold mB
  rw [List.range_succ, List.filter_append]
  simp [h]
theorem mB_f {B : Nat → Bool} {i : Nat} (h : ¬ B i = true) : mB B (i + 1) = mB B i := by
  unfold mB
  rw [List.range_succ, List.filter_append]
  simp [h]
theorem mB_len (K : Nat) : ∀ i, (mB (fun j => K.testBit j) i).length = pcn K i
  | 0 => rfl
  | i + 1 => by
    by_cases h : K.testBit i = true
    · rw [mB_t (B := fun j => K.testBit j) h, List.length_append, mB_len K i]
      show _ + 1 = pcn K i + _
      rw [if_pos h]
    · rw [mB_f (B := fun j => K.testBit j) h, mB_len K i]
      show _ = pcn K i + _
      rw [if_neg h]
      rfl
theorem mB_len_le {B : Nat → Bool} (i : Nat) : (mB B i).length ≤ i := by
  have := List.length_filter_le B (List.range i)
  rw [List.length_range] at this
  exact this
theorem gD_l {l : List Nat} {x k : Nat} (h : k < l.length) : (l ++ [x]).getD k 0 = l.getD k 0 := by
  rw [List.getD_eq_getElem?_getD, List.getD_eq_getElem?_getD, List.getElem?_append_left h]
theorem gD_r {l : List Nat} {x : Nat} : (l ++ [x]).getD l.length 0 = x := by
  rw [List.getD_eq_getElem?_getD, List.getElem?_append_right (Nat.le_refl _), Nat.sub_self]
  rfl
theorem mB_mono {B : Nat → Bool} {i : Nat} : ∀ j, (mB B i).length ≤ (mB B (i + j)).length
  | 0 => Nat.le_refl _
  | j + 1 => by
    have ih := mB_mono (B := B) (i := i) j
    by_cases h : B (i + j) = true
    · rw [show i + (j + 1) = i + j + 1 by omega, mB_t h, List.length_append]
      omega
    · rw [show i + (j + 1) = i + j + 1 by omega, mB_f h]
      exact ih
theorem mB_full {B : Nat → Bool} {i n j : Nat} (h : (mB B n).length ≤ (mB B i).length) (h1 : i ≤ j) (h2 : j < n) : ¬ B j = true := by
  intro q
  have e1 := mB_mono (B := B) (i := i) (j - i)
  have e2 := mB_mono (B := B) (i := j + 1) (n - (j + 1))
  rw [show i + (j - i) = j by omega] at e1
  rw [show j + 1 + (n - (j + 1)) = n by omega, mB_t q, List.length_append] at e2
  simp at e2
  omega
theorem mB_lt {B : Nat → Bool} {i k : Nat} (h : k < (mB B i).length) : (mB B i).getD k 0 < i ∧ B ((mB B i).getD k 0) = true := by
  rw [List.getD_eq_getElem?_getD, List.getElem?_eq_getElem h]
  have := List.getElem_mem h
  have q := List.mem_filter.mp this
  exact ⟨List.mem_range.mp q.1, q.2⟩
/-! a bit taken away -/
theorem subB {a j : Nat} (h : a.testBit j = true) (i : Nat) : (a - 2 ^ j).testBit i = if i = j then false else a.testBit i := by
  have e0 : a / 2 ^ j % 2 = 1 := by
    rw [Nat.testBit_eq_decide_div_mod_eq] at h
    exact of_decide_eq_true h
  have hp : 0 < 2 ^ j := Nat.two_pow_pos j
  have e1 := Nat.div_add_mod a (2 ^ j)
  have e2 := Nat.div_add_mod (a / 2 ^ j) 2
  rw [e0] at e2
  have hr : a % 2 ^ j < 2 ^ j := Nat.mod_lt _ hp
  generalize hq : a / 2 ^ j / 2 = q at e2
  generalize a % 2 ^ j = r at e1 hr
  have e3 : 2 ^ (j + 1) * q = 2 ^ j * (2 * q) := by rw [Nat.pow_succ, Nat.mul_assoc]
  have ea : a = 2 ^ (j + 1) * q + (2 ^ j + r) := by
    rw [e3, ← e1, ← e2, Nat.mul_add]
    omega
  have hl : 2 ^ j + r < 2 ^ (j + 1) := by
    rw [Nat.pow_succ]
    omega
  have hl2 : r < 2 ^ (j + 1) := by omega
  have eb : a - 2 ^ j = 2 ^ (j + 1) * q + r := by omega
  rw [eb, Nat.testBit_two_pow_mul_add _ hl2]
  rw [ea, Nat.testBit_two_pow_mul_add _ hl]
  by_cases c1 : i < j + 1
  · rw [if_pos c1, if_pos c1]
    by_cases c2 : i = j
    · rw [if_pos c2, c2]
      exact Nat.testBit_lt_two_pow hr
    · rw [if_neg c2, Nat.testBit_two_pow_add_gt (by omega)]
  · rw [if_neg c1, if_neg c1, if_neg (by omega)]
theorem shX : ∀ i : Fin 31, (((1 : Int32) <<< (Int32.ofNat i.1 &&& 31)) ^^^ (-1)).toBitVec.toNat = 2 ^ 32 - (2 ^ i.1 + 1) := by decide +kernel
theorem tClr {x y : Int32} {a j : Nat} (hx : x.toInt = (a : Int)) (hy : y.toInt = (j : Int)) (hj : j < 31) (h : a.testBit j = true) : (x &&& (((1 : Int32) <<< (y &&& 31)) ^^^ (-1))).toInt = ((a - 2 ^ j : Nat) : Int) := by
  have h1 := qB hx
  refine qN ?_ (Nat.lt_of_le_of_lt (Nat.sub_le _ _) h1.2)
  rw [ofN hy, Int32.toBitVec_and, BitVec.toNat_and, h1.1, shX ⟨j, hj⟩]
  apply Nat.eq_of_testBit_eq
  intro i
  have hl : 2 ^ j < 2 ^ 32 := Nat.pow_lt_pow_right (by decide) (by omega)
  rw [Nat.testBit_and, Nat.testBit_two_pow_sub_succ hl, subB h, Nat.testBit_two_pow]
  by_cases c1 : i = j
  · subst c1
    simp
  · rw [if_neg c1]
    by_cases c2 : i < 32
    · simp [c2, show ¬ j = i from fun q => c1 q.symm]
    · have : a.testBit i = false := Nat.testBit_lt_two_pow (Nat.lt_of_lt_of_le h1.2 (Nat.le_trans (by decide : 2147483648 ≤ 2 ^ 31) (Nat.pow_le_pow_right (by decide) (by omega))))
      rw [this, Bool.false_and]
theorem tB_le {a j : Nat} (h : a.testBit j = true) : 2 ^ j ≤ a := Nat.ge_two_pow_of_testBit h
theorem pw_pos (j : Nat) : 0 < 2 ^ j := Nat.two_pow_pos j
theorem pcn_sub {a j : Nat} (h : a.testBit j = true) : ∀ m, pcn (a - 2 ^ j) m + (if j < m then 1 else 0) = pcn a m
  | 0 => rfl
  | m + 1 => by
    have ih := pcn_sub h m
    show pcn _ m + (if (a - 2 ^ j).testBit m = true then 1 else 0) + (if j < m + 1 then 1 else 0) = pcn a m + (if a.testBit m = true then 1 else 0)
    rw [subB h]
    by_cases e : m = j
    · subst e
      rw [if_neg (Nat.lt_irrefl m)] at ih
      rw [if_pos rfl, if_neg (by decide), if_pos (Nat.lt_succ_self m), if_pos h]
      omega
    · rw [if_neg e]
      by_cases q : j < m
      · have q2 : j < m + 1 := by omega
        simp only [q, q2, if_true] at ih ⊢
        omega
      · have q2 : ¬ j < m + 1 := by omega
        simp only [q, q2, if_false] at ih ⊢
        omega
theorem pcn_all (n : Nat) : ∀ m, m ≤ n → pcn (2 ^ n - 1) m = m
  | 0, _ => rfl
  | m + 1, h => by
    show pcn _ m + _ = _
    rw [pcn_all n m (by omega), Nat.testBit_two_pow_sub_one, if_pos (decide_eq_true (by omega))]
theorem pcn_z : ∀ m, pcn 0 m = 0
  | 0 => rfl
  | m + 1 => by
    show pcn 0 m + _ = 0
    rw [pcn_z m, Nat.zero_testBit]
    rfl
/-! least ways -/
theorem mnO_co {f g : Nat → Int} {P : Nat → Bool} : ∀ k, (∀ j, j < k → P j = true → f j = g j) → mnO f P k = mnO g P k
  | 0, _ => rfl
  | k + 1, h => by
    unfold mnO
    rw [mnO_co k (fun j hj => h j (by omega))]
    by_cases q : P k = true
    · rw [if_pos q, if_pos q, h k (by omega) q]
    · rw [if_neg q, if_neg q]
theorem mnO_b {f : Nat → Int} {P : Nat → Bool} {lo hi : Int} : ∀ k, (∀ j, j < k → P j = true → lo ≤ f j ∧ f j ≤ hi) → ∀ b, mnO f P k = some b → lo ≤ b ∧ b ≤ hi
  | 0, _, b, q => nomatch q
  | k + 1, h, b, q => by
    have ih := mnO_b k (fun j hj => h j (by omega))
    unfold mnO at q
    by_cases p : P k = true
    · rw [if_pos p] at q
      have h1 := h k (by omega) p
      cases r : mnO f P k with
      | none =>
        rw [r] at q
        have e := Option.some.inj q
        omega
      | some x =>
        rw [r] at q
        have e := Option.some.inj q
        have h2 := ih x r
        omega
    · rw [if_neg p] at q
      exact ih b q
theorem mnO_1 {f : Nat → Int} {P : Nat → Bool} {k : Nat} (p : P k = true) (q : mnO f P k = none) : mnO f P (k + 1) = some (f k) := by
  show (if P k = true then _ else _) = _
  rw [if_pos p, q]
theorem mnO_2 {f : Nat → Int} {P : Nat → Bool} {k : Nat} {b : Int} (p : P k = true) (q : mnO f P k = some b) : mnO f P (k + 1) = some (min b (f k)) := by
  show (if P k = true then _ else _) = _
  rw [if_pos p, q]
theorem mnO_0 {f : Nat → Int} {P : Nat → Bool} {k : Nat} (p : ¬ P k = true) : mnO f P (k + 1) = mnO f P k := by
  show (if P k = true then _ else _) = _
  rw [if_neg p]
theorem muO {F : Nat → Int} {P : Nat → Bool} : ∀ k, (muF F P k = none ∧ mnO F P k = none ∧ ∀ j, j < k → ¬ P j = true) ∨ ∃ b, muF F P k = some b ∧ mnO F P k = some (F b) ∧ (∀ j, j < b → P j = true → F b < F j)
  | 0 => Or.inl ⟨rfl, rfl, fun j hj => absurd hj (Nat.not_lt_zero j)⟩
  | k + 1 => by
    by_cases p : P k = true
    · right
      rcases muO (F := F) (P := P) k with ⟨h1, h2, h3⟩ | ⟨b, h1, h2, h3⟩
      · exact ⟨k, muF_1 p h1, mnO_1 p h2, fun j hj q => absurd q (h3 j hj)⟩
      · by_cases l : F k < F b
        · refine ⟨k, by rw [muF_2 p h1, if_pos l], by rw [mnO_2 p h2]; exact congrArg some (by omega), fun j hj q => ?_⟩
          have hb := (muF_lt k h1).1
          rcases Nat.lt_or_ge j b with c1 | c1
          · have := h3 j c1 q
            omega
          · have := (mnO_b (f := F) (P := P) (lo := F b) (hi := max (F j) (F b)) k)
            have hmin : F b ≤ F j := muMin k h2 j hj q
            omega
        · exact ⟨b, by rw [muF_2 p h1, if_neg l], by rw [mnO_2 p h2]; exact congrArg some (by omega), h3⟩
    · have e : P k = false := Bool.eq_false_iff.mpr p
      rcases muO (F := F) (P := P) k with ⟨h1, h2, h3⟩ | ⟨b, h1, h2, h3⟩
      · left
        refine ⟨by rw [muF_0 e]; exact h1, by rw [mnO_0 p]; exact h2, fun j hj => ?_⟩
        rcases Nat.lt_or_ge j k with c1 | c1
        · exact h3 j c1
        · rw [show j = k by omega]
          exact p
      · right
        exact ⟨b, by rw [muF_0 e]; exact h1, by rw [mnO_0 p]; exact h2, h3⟩
where
  muMin {F : Nat → Int} {P : Nat → Bool} {x : Int} : ∀ k, mnO F P k = some x → ∀ j, j < k → P j = true → x ≤ F j
  | 0, q, _, _, _ => nomatch q
  | k + 1, q, j, hj, pj => by
    by_cases p : P k = true
    · cases r : mnO F P k with
      | none =>
        rw [mnO_1 p r] at q
        have e := Option.some.inj q
        rcases Nat.lt_or_ge j k with c1 | c1
        · exact absurd pj (noP k r j c1)
        · rw [show j = k by omega]
          omega
      | some y =>
        rw [mnO_2 p r] at q
        have e := Option.some.inj q
        rcases Nat.lt_or_ge j k with c1 | c1
        · have := muMin k r j c1 pj
          omega
        · rw [show j = k by omega]
          omega
    · rw [mnO_0 p] at q
      rcases Nat.lt_or_ge j k with c1 | c1
      · exact muMin k q j c1 pj
      · rw [show j = k by omega] at pj
        exact absurd pj p
  noP {F : Nat → Int} {P : Nat → Bool} : ∀ k, mnO F P k = none → ∀ j, j < k → ¬ P j = true
  | 0, _, j, hj => absurd hj (Nat.not_lt_zero j)
  | k + 1, q, j, hj => by
    by_cases p : P k = true
    · cases r : mnO F P k with
      | none =>
        rw [mnO_1 p r] at q
        nomatch q
      | some y =>
        rw [mnO_2 p r] at q
        nomatch q
    · rw [mnO_0 p] at q
      rcases Nat.lt_or_ge j k with c1 | c1
      · exact noP k q j c1
      · rw [show j = k by omega]
        exact p
theorem wV_s {D : Nat → Nat → Int} {m f left k : Nat} : wV D m (f + 1) left k = if left = 0 then D k 8 else (mnO (fun j => D k j + wV D m f (left - 2 ^ j) j) (fun j => left.testBit j) m).getD 0 := rfl
theorem wV_f {D : Nat → Nat → Int} {m : Nat} : ∀ f g left, left ≤ f → left ≤ g → ∀ k, wV D m f left k = wV D m g left k
  | 0, 0, _, _, _, _ => rfl
  | 0, g + 1, left, h, _, k => by
    show D k 8 = (if left = 0 then _ else _)
    rw [if_pos (by omega)]
  | f + 1, 0, left, _, h, k => by
    show (if left = 0 then _ else _) = D k 8
    rw [if_pos (by omega)]
  | f + 1, g + 1, left, h1, h2, k => by
    rw [wV_s, wV_s]
    by_cases z : left = 0
    · rw [if_pos z, if_pos z]
    · rw [if_neg z, if_neg z]
      refine congrArg (fun o => Option.getD o 0) (mnO_co m (fun j _ hj => ?_))
      have h3 := tB_le hj
      have h4 := pw_pos j
      rw [wV_f f g (left - 2 ^ j) (by omega) (by omega) j]
theorem wy_0 {D : Nat → Nat → Int} {m k : Nat} : wy D m 0 k = D k 8 := rfl
def wF (D : Nat → Nat → Int) (m left k j : Nat) : Int := D k j + wy D m (left - 2 ^ j) j
theorem wy_s {D : Nat → Nat → Int} {m left k : Nat} (h : left ≠ 0) : wy D m left k = (mnO (wF D m left k) (fun j => left.testBit j) m).getD 0 := by
  obtain ⟨f, rfl⟩ : ∃ f, left = f + 1 := ⟨left - 1, by omega⟩
  rw [show wy D m (f + 1) k = wV D m (f + 1) (f + 1) k from rfl, wV_s, if_neg h]
  refine congrArg (fun o => Option.getD o 0) (mnO_co m (fun j _ hj => ?_))
  have h3 := tB_le hj
  have h4 := pw_pos j
  unfold wF wy
  rw [wV_f f (f + 1 - 2 ^ j) (f + 1 - 2 ^ j) (by omega) (Nat.le_refl _) j]
theorem wV_b {D : Nat → Nat → Int} {m : Nat} (hD : ∀ a b, 0 ≤ D a b ∧ D a b ≤ 100) : ∀ f left k, 0 ≤ wV D m f left k ∧ wV D m f left k ≤ 100 * ((f : Int) + 1)
  | 0, _, k => by
    have := hD k 8
    show 0 ≤ D k 8 ∧ D k 8 ≤ _
    omega
  | f + 1, left, k => by
    have h0 := hD k 8
    rw [wV_s]
    by_cases z : left = 0
    · rw [if_pos z]
      omega
    · rw [if_neg z]
      cases q : mnO (fun j => D k j + wV D m f (left - 2 ^ j) j) (fun j => left.testBit j) m with
      | none =>
        show (0 : Int) ≤ 0 ∧ (0 : Int) ≤ _
        omega
      | some b =>
        have := mnO_b (lo := 0) (hi := 100 * ((f : Int) + 1) + 100) m (fun j _ _ => by
          have h1 := hD k j
          have h2 := wV_b (m := m) hD f (left - 2 ^ j) j
          omega) b q
        show 0 ≤ b ∧ b ≤ _
        omega
theorem wy_b {D : Nat → Nat → Int} {m left k : Nat} (hD : ∀ a b, 0 ≤ D a b ∧ D a b ≤ 100) (hl : left < 256) : 0 ≤ wy D m left k ∧ wy D m left k ≤ 25600 := by
  have := wV_b (m := m) hD left left k
  unfold wy
  omega
theorem wF_b {D : Nat → Nat → Int} {m left k j : Nat} (hD : ∀ a b, 0 ≤ D a b ∧ D a b ≤ 100) (hl : left < 256) : 0 ≤ wF D m left k j ∧ wF D m left k j ≤ 25700 := by
  have h1 := wy_b (m := m) (left := left - 2 ^ j) (k := j) hD (Nat.lt_of_le_of_lt (Nat.sub_le _ _) hl)
  have h2 := hD k j
  unfold wF
  omega
theorem has_bit {left m : Nat} (h : left ≠ 0) (hl : left < 2 ^ m) : ∃ j, j < m ∧ left.testBit j = true := by
  obtain ⟨j, hj⟩ := Nat.exists_testBit_of_ne_zero h
  refine ⟨j, ?_, hj⟩
  rcases Nat.lt_or_ge j m with q | q
  · exact q
  · have h1 := tB_le hj
    have h2 := Nat.pow_le_pow_right (n := 2) (by decide) q
    omega
theorem nx_mu {D : Nat → Nat → Int} {m left k : Nat} (h : left ≠ 0) (hl : left < 2 ^ m) : muF (wF D m left k) (fun j => left.testBit j) m = some (nx D m left k) ∧ wy D m left k = wF D m left k (nx D m left k) ∧ nx D m left k < m ∧ left.testBit (nx D m left k) = true := by
  rcases muO (F := wF D m left k) (P := fun j => left.testBit j) m with ⟨h1, h2, h3⟩ | ⟨b, h1, h2, h3⟩
  · obtain ⟨j, hj, q⟩ := has_bit h hl
    exact absurd q (h3 j hj)
  · have hb := muF_lt m h1
    have hw : wy D m left k = wF D m left k b := by
      rw [wy_s h, h2]
      rfl
    have hn : nx D m left k = b := by
      have e : (List.range m).find? (fun j => left.testBit j && decide (D k j + wy D m (left - 2 ^ j) j = wy D m left k)) = some b := by
        rw [List.find?_range_eq_some]
        refine ⟨?_, List.mem_range.mpr hb.1, fun j hj => ?_⟩
        · rw [Bool.and_eq_true]
          exact ⟨hb.2, decide_eq_true hw.symm⟩
        · rw [Bool.not_eq_true']
          cases q : left.testBit j with
          | false => rfl
          | true =>
            rw [Bool.true_and]
            refine decide_eq_false (fun r => ?_)
            have := h3 j hj q
            rw [← hw] at this
            unfold wF at this
            omega
      unfold nx
      rw [e]
      rfl
    rw [hn]
    exact ⟨h1, hw, hb.1, hb.2⟩
theorem och_f {D : Nat → Nat → Int} {m : Nat} : ∀ i, i ≤ m → (och D m i).1 < 2 ^ m ∧ pcn (och D m i).1 m = m - i ∧ ((och D m i).2 = 8 ∧ i = 0 ∨ (och D m i).2 < m ∧ ¬ (och D m i).1.testBit (och D m i).2 = true)
  | 0, _ => by
    have := pw_pos m
    refine ⟨?_, pcn_all m m (Nat.le_refl m), Or.inl ⟨rfl, rfl⟩⟩
    show 2 ^ m - 1 < 2 ^ m
    omega
  | i + 1, h => by
    obtain ⟨h1, h2, _⟩ := och_f (D := D) (m := m) i (by omega)
    have hz : (och D m i).1 ≠ 0 := by
      intro q
      rw [q, pcn_z] at h2
      omega
    obtain ⟨-, -, n1, n2⟩ := nx_mu (D := D) (k := (och D m i).2) hz h1
    have e := pcn_sub n2 m
    rw [if_pos n1] at e
    refine ⟨?_, ?_, Or.inr ⟨n1, ?_⟩⟩
    · exact Nat.lt_of_le_of_lt (Nat.sub_le _ _) h1
    · show pcn ((och D m i).1 - _) m = _
      omega
    · show ¬ ((och D m i).1 - 2 ^ nx D m (och D m i).1 (och D m i).2).testBit _ = true
      rw [subB n2]
      show ¬ (if nx D m (och D m i).1 (och D m i).2 = nx D m (och D m i).1 (och D m i).2 then false else _) = true
      rw [if_pos rfl]
      decide
theorem och_nz {D : Nat → Nat → Int} {m i : Nat} (h : i < m) : (och D m i).1 ≠ 0 := by
  intro q
  have h2 := (och_f (D := D) (m := m) i (by omega)).2.1
  rw [q, pcn_z] at h2
  omega
