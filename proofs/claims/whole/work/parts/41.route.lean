/-! the class's route -/
def dXY (X Y : Nat → Int) (a b : Nat) : Int := aI (X a - X b) + aI (Y a - Y b)
def xyB (X Y : Nat → Int) : Prop := ∀ a, (0 ≤ X a ∧ X a ≤ 50) ∧ 0 ≤ Y a ∧ Y a ≤ 50
theorem dXY_b {X Y : Nat → Int} (q : xyB X Y) (a b : Nat) : 0 ≤ dXY X Y a b ∧ dXY X Y a b ≤ 100 := by
  have h1 := q a
  have h2 := q b
  unfold dXY aI
  omega
theorem dXY_s (X Y : Nat → Int) (a b : Nat) : dXY X Y a b = dXY X Y b a := by
  unfold dXY aI
  omega
def gE (h : oH) (m : Nat) (X Y : Nat → Int) : Prop := (hI h 2 6).toInt = (m : Int) ∧ m ≤ 8 ∧ xyB X Y ∧ ∀ a, (a < m ∨ a = 8) → (hI h 4 a).toInt = X a ∧ (hI h 5 a).toInt = Y a
theorem gE.fr {h h' : oH} {m : Nat} {X Y : Nat → Int} (g : gE h m X Y) (e : ∀ a k, (a = 2 ∨ a = 4 ∨ a = 5) → hI h' a k = hI h a k) : gE h' m X Y := by
  obtain ⟨g1, g2, g3, g4⟩ := g
  refine ⟨by rw [e 2 6 (Or.inl rfl)]; exact g1, g2, g3, fun a ha => ?_⟩
  rw [e 4 a (Or.inr (Or.inl rfl)), e 5 a (Or.inr (Or.inr rfl))]
  exact g4 a ha
theorem ab_t {x : Int32} {i : Int} (h : x.toInt = i) (hb : -1000 ≤ i ∧ i ≤ 1000) : (ab x).toInt = aI i := by
  unfold ab aI
  split
  · omega
  · rw [Int32.toInt_neg, h]
    rw [Int.bmod_eq_of_le (by omega) (by omega)]
    omega
def btE (h : oH) (a b : Nat) : Int32 := ab (hI h 4 a - hI h 4 b) + ab (hI h 5 a - hI h 5 b)
theorem btE_t {h : oH} {m : Nat} {X Y : Nat → Int} (g : gE h m X Y) {a b : Nat} (ha : a < m ∨ a = 8) (hb : b < m ∨ b = 8) : (btE h a b).toInt = dXY X Y a b := by
  have h1 := g.2.2.2 a ha
  have h2 := g.2.2.2 b hb
  have h3 := g.2.2.1 a
  have h4 := g.2.2.1 b
  have e1 := ab_t (tS h1.1 h2.1 (by omega)) (by omega)
  have e2 := ab_t (tS h1.2 h2.2 (by omega)) (by omega)
  unfold btE dXY
  refine tA e1 e2 ?_
  unfold aI
  omega
set_option maxHeartbeats 4000000 in
set_option maxRecDepth 100000 in
theorem sp_btw (G : oG) {h : oH} (hs : oSh h) (u v : Int32) {a b : Nat} (ha : u.toInt = (a : Int)) (hb : v.toInt = (b : Int)) (ha8 : a ≤ 8) (hb8 : b ≤ 8) : oSp G mX4_between [.ref 2, .int u, .int v] h (some (.int (btE h a b))) h := by
  refine oSp.intro [some (.ref 2), some (.int u), some (.int v)] rfl (Nat.le_of_ble_eq_true rfl) (plainFor_of_name (by decide +kernel)) (Nat.le_refl _) ?_
  intro p l e R s m args below meth c C
  refine r_iload_n C rfl dX4_between_0 ?_
  refine r_iconstv C 0 rfl dX4_between_1 ?_
  refine r_bipush C 8 rfl dX4_between_2 ?_
  refine r_callSN C (sp_isOutside G ha (show (0 : Int32).toInt = 0 from rfl) (show (8 : Int32).toInt = 8 from rfl)) ks_X5_isOutside kn_X5_isOutside rfl dX4_between_4 nl_X4_78 ⟨Nat.le_of_ble_eq_true rfl, Nat.le_of_ble_eq_true rfl⟩ (Nat.le_refl _) rfl (Nat.le_of_ble_eq_true rfl) ?_
  refine t_ifb_ne C 20 (by decide) dX4_between_7 (fun c7 => ?_) (fun c7 => ?_)
  · first
    | (exfalso; omega)
    |  (refine r_ldc C _ lc_X4_65 dX4_between_20 ?_
        exact r_iret C dX4_between_22 rfl (Nat.le_refl _) rfl rfl)
  · first
    | (exfalso; omega)
    |  (refine r_iload_n C rfl dX4_between_10 ?_
        refine r_iconstv C 0 rfl dX4_between_11 ?_
        refine r_bipush C 8 rfl dX4_between_12 ?_
        refine r_callSN C (sp_isOutside G hb (show (0 : Int32).toInt = 0 from rfl) (show (8 : Int32).toInt = 8 from rfl)) ks_X5_isOutside kn_X5_isOutside rfl dX4_between_14 nl_X4_78 ⟨Nat.le_of_ble_eq_true rfl, Nat.le_of_ble_eq_true rfl⟩ (Nat.le_refl _) rfl (Nat.le_of_ble_eq_true rfl) ?_
        refine t_ifb_eq C 23 (by decide) dX4_between_17 (fun c17 => ?_) (fun c17 => ?_)
        · first
          | (exfalso; omega)
          |  (refine r_aload_n C rfl rfl dX4_between_23 ?_
              refine r_getO C dX4_between_24 fl_X4_15 rfl rfl (q_lt hs (by decide)) (sh_2_1 hs) ?_
              refine r_iload_n C rfl dX4_between_27 ?_
              refine r_iald C (a) (by have t := ha; omega) (by omega) dX4_between_28 rfl (q_lt hs (by decide)) ?_
              refine r_aload_n C rfl rfl dX4_between_29 ?_
              refine r_getO C dX4_between_30 fl_X4_15 rfl rfl (q_lt hs (by decide)) (sh_2_1 hs) ?_
              refine r_iload_n C rfl dX4_between_33 ?_
              refine r_iald C (b) (by have t := hb; omega) (by omega) dX4_between_34 rfl (q_lt hs (by decide)) ?_
              refine r_isub C dX4_between_35 ?_
              refine r_callS C (sp_abs G _) ks_J9_abs_0f7a4 kn_J9_abs_0f7a4 rfl dX4_between_36 cl_X4_82 ⟨Nat.le_of_ble_eq_true rfl, Nat.le_of_ble_eq_true rfl⟩ (Nat.le_refl _) rfl (Nat.le_of_ble_eq_true rfl) ?_
              refine r_aload_n C rfl rfl dX4_between_39 ?_
              refine r_getO C dX4_between_40 fl_X4_18 rfl rfl (q_lt hs (by decide)) (sh_2_2 hs) ?_
              refine r_iload_n C rfl dX4_between_43 ?_
              refine r_iald C (a) (by have t := ha; omega) (by omega) dX4_between_44 rfl (q_lt hs (by decide)) ?_
              refine r_aload_n C rfl rfl dX4_between_45 ?_
              refine r_getO C dX4_between_46 fl_X4_18 rfl rfl (q_lt hs (by decide)) (sh_2_2 hs) ?_
              refine r_iload_n C rfl dX4_between_49 ?_
              refine r_iald C (b) (by have t := hb; omega) (by omega) dX4_between_50 rfl (q_lt hs (by decide)) ?_
              refine r_isub C dX4_between_51 ?_
              refine r_callS C (sp_abs G _) ks_J9_abs_0f7a4 kn_J9_abs_0f7a4 rfl dX4_between_52 cl_X4_82 ⟨Nat.le_of_ble_eq_true rfl, Nat.le_of_ble_eq_true rfl⟩ (Nat.le_refl _) rfl (Nat.le_of_ble_eq_true rfl) ?_
              refine r_iadd C dX4_between_55 ?_
              exact r_iret C dX4_between_56 rfl (Nat.le_refl _) rfl rfl)
        · first
          | (exfalso; omega)
          |  (refine r_ldc C _ lc_X4_65 dX4_between_20 ?_
              exact r_iret C dX4_between_22 rfl (Nat.le_refl _) rfl rfl))

set_option maxHeartbeats 4000000 in
set_option maxRecDepth 100000 in
theorem sp_lat (G : oG) {h : oH} (hs : oSh h) (u v : Int32) {pp a : Nat} (hp : u.toInt = (pp : Int)) (ha : v.toInt = (a : Int)) (hp2 : pp < 256) (ha8 : a ≤ 8) : oSp G mX4_leastAt [.ref 2, .int u, .int v] h (some (.int (hI h 7 (pp * 9 + a)))) h := by
  refine oSp.intro [some (.ref 2), some (.int u), some (.int v), none] rfl (Nat.le_of_ble_eq_true rfl) (plainFor_of_name (by decide +kernel)) (Nat.le_refl _) ?_
  intro p l e R s m args below meth c C
  refine r_iload_n C rfl dX4_leastAt_0 ?_
  refine r_bipush C 9 rfl dX4_leastAt_1 ?_
  refine r_imul C dX4_leastAt_3 ?_
  refine r_iload_n C rfl dX4_leastAt_4 ?_
  refine r_iadd C dX4_leastAt_5 ?_
  refine r_istore_n C rfl (Nat.le_of_ble_eq_true rfl) dX4_leastAt_6 ?_
  refine r_iload_n C rfl dX4_leastAt_7 ?_
  refine t_if_lt C 20 (by decide) (tA (tM hp (show (9 : Int32).toInt = 9 from rfl) (by omega)) ha (by omega)) dX4_leastAt_8 (fun c8 => ?_) (fun c8 => ?_)
  · first
    | (exfalso; omega)
    |  (refine r_ldc C _ lc_X4_65 dX4_leastAt_20 ?_
        refine r_goto C 31 (by decide) dX4_leastAt_22 ?_
        exact r_iret C dX4_leastAt_31 rfl (Nat.le_refl _) rfl rfl)
  · first
    | (exfalso; omega)
    |  (refine r_iload_n C rfl dX4_leastAt_11 ?_
        refine r_aload_n C rfl rfl dX4_leastAt_12 ?_
        refine r_getO C dX4_leastAt_13 fl_X4_24 rfl rfl (q_lt hs (by decide)) (sh_2_4 hs) ?_
        refine r_alen C 2304 dX4_leastAt_16 rfl (by decide) (q_lt hs (by decide)) rfl ?_
        refine t_icmp_lt C 25 (by decide) (tA (tM hp (show (9 : Int32).toInt = 9 from rfl) (by omega)) ha (by omega)) (show (2304 : Int32).toInt = 2304 from rfl) dX4_leastAt_17 (fun c17 => ?_) (fun c17 => ?_)
        · first
          | (exfalso; omega)
          |  (refine r_aload_n C rfl rfl dX4_leastAt_25 ?_
              refine r_getO C dX4_leastAt_26 fl_X4_24 rfl rfl (q_lt hs (by decide)) (sh_2_4 hs) ?_
              refine r_iload_n C rfl dX4_leastAt_29 ?_
              refine r_iald C ((pp * 9 + a)) (by have t := tA (tM hp (show (9 : Int32).toInt = 9 from rfl) (by omega)) ha (by omega); omega) (by omega) dX4_leastAt_30 rfl (q_lt hs (by decide)) ?_
              exact r_iret C dX4_leastAt_31 rfl (Nat.le_refl _) rfl rfl)
        · first
          | (exfalso; omega)
          |  (refine r_ldc C _ lc_X4_65 dX4_leastAt_20 ?_
              refine r_goto C 31 (by decide) dX4_leastAt_22 ?_
              exact r_iret C dX4_leastAt_31 rfl (Nat.le_refl _) rfl rfl))

set_option maxHeartbeats 4000000 in
set_option maxRecDepth 100000 in
theorem sp_wby (G : oG) {h : oH} (hs : oSh h) (u v w : Int32) {pp a j : Nat} (hp : u.toInt = (pp : Int)) (ha : v.toInt = (a : Int)) (hj : w.toInt = (j : Int)) (hp2 : pp < 256) (ha8 : a ≤ 8) (hj8 : j ≤ 8) (hbt : pp.testBit j = true) : oSp G mX4_wayBy [.ref 2, .int u, .int v, .int w] h (some (.int (btE h a j + hI h 7 ((pp - 2 ^ j) * 9 + j)))) h := by
  refine oSp.intro [some (.ref 2), some (.int u), some (.int v), some (.int w)] rfl (Nat.le_of_ble_eq_true rfl) (plainFor_of_name (by decide +kernel)) (Nat.le_refl _) ?_
  intro p l e R s m args below meth c C
  refine r_aload_n C rfl rfl dX4_wayBy_0 ?_
  refine r_iload_n C rfl dX4_wayBy_1 ?_
  refine r_iload_n C rfl dX4_wayBy_2 ?_
  refine r_callV C (sp_btw G hs _ _ ha hj ha8 hj8) kv_X4_between kn_X4_between rfl dX4_wayBy_3 cl_X4_62 ⟨Nat.le_of_ble_eq_true rfl, Nat.le_of_ble_eq_true rfl⟩ (by decide) rfl rfl (q_lt hs (by decide)) (Nat.le_refl _) rfl (Nat.le_of_ble_eq_true rfl) ?_
  refine r_aload_n C rfl rfl dX4_wayBy_6 ?_
  refine r_iload_n C rfl dX4_wayBy_7 ?_
  refine r_iconstv C 1 rfl dX4_wayBy_8 ?_
  refine r_iload_n C rfl dX4_wayBy_9 ?_
  refine r_ishl C dX4_wayBy_10 ?_
  refine r_iconstv C (-1) rfl dX4_wayBy_11 ?_
  refine r_ixor C dX4_wayBy_12 ?_
  refine r_iand C dX4_wayBy_13 ?_
  refine r_iload_n C rfl dX4_wayBy_14 ?_
  refine r_callV C (sp_lat G hs _ _ (tClr hp hj (by omega) hbt) hj (Nat.lt_of_le_of_lt (Nat.sub_le _ _) hp2) hj8) kv_X4_leastAt kn_X4_leastAt rfl dX4_wayBy_15 cl_X4_34 ⟨Nat.le_of_ble_eq_true rfl, Nat.le_of_ble_eq_true rfl⟩ (by decide) rfl rfl (q_lt hs (by decide)) (Nat.le_refl _) rfl (Nat.le_of_ble_eq_true rfl) ?_
  refine r_iadd C dX4_wayBy_18 ?_
  exact r_iret C dX4_wayBy_19 rfl (Nat.le_refl _) rfl rfl

def wbE (h : oH) (p a j : Nat) : Int32 := btE h a j + hI h 7 ((p - 2 ^ j) * 9 + j)
/-- the rows that a part needs -/
def lsT (h : oH) (D : Nat → Nat → Int) (m p : Nat) : Prop := ∀ j, j < m → p.testBit j = true → (hI h 7 ((p - 2 ^ j) * 9 + j)).toInt = wy D m (p - 2 ^ j) j
theorem wbE_t {h : oH} {m : Nat} {X Y : Nat → Int} (g : gE h m X Y) {p a j : Nat} (ha : a < m ∨ a = 8) (hj : j < m) (hp : p < 256) (hb : p.testBit j = true) (t : lsT h (dXY X Y) m p) : (wbE h p a j).toInt = wF (dXY X Y) m p a j := by
  have h1 := btE_t g ha (Or.inl hj)
  have h2 := t j hj hb
  have h3 := wF_b (m := m) (left := p) (k := a) (j := j) (dXY_b g.2.2.1) hp
  unfold wbE wF at *
  exact tA h1 h2 (by omega)
def oI (x : Int) : Int32 := Int32.ofInt x
theorem oI_e {x : Int32} {i : Int} (h : x.toInt = i) : x = oI i := by
  rw [← h]
  exact (Int32.ofInt_toInt x).symm
theorem oI_t {i : Int} (h : -2147483648 ≤ i ∧ i < 2147483648) : (oI i).toInt = i := by
  unfold oI
  rw [Int32.toInt_ofInt]
  show Int.bmod i 4294967296 = i
  exact Int.bmod_eq_of_le (by omega) (by omega)
/-- what the measure has after the first i -/
def msT (r : Option Int) (init : Int) (x : Int32) : Prop := match r with
  | none => x.toInt = init
  | some b => x.toInt = b
theorem mn_tm {x y : Int32} : (mn x y).toInt = min x.toInt y.toInt := by
  unfold mn
  split <;> omega
theorem msT_0 {F : Nat → Int} {P : Nat → Bool} {i : Nat} {init : Int} {x : Int32} (h : ¬ P i = true) (q : msT (mnO F P i) init x) : msT (mnO F P (i + 1)) init x := by
  rw [mnO_0 h]
  exact q
theorem msT_1 {F : Nat → Int} {P : Nat → Bool} {i : Nat} {init : Int} {x y : Int32} (h : P i = true) (q : msT (mnO F P i) init x) (hy : y.toInt = F i) (hl : F i ≤ init) : msT (mnO F P (i + 1)) init (mn x y) := by
  cases r : mnO F P i with
  | none =>
    rw [r] at q
    rw [mnO_1 h r]
    have q' : x.toInt = init := q
    show (mn x y).toInt = F i
    rw [mn_tm]
    omega
  | some b =>
    rw [r] at q
    rw [mnO_2 h r]
    have q' : x.toInt = b := q
    show (mn x y).toInt = min b (F i)
    rw [mn_tm]
    omega
theorem nx_no {D : Nat → Nat → Int} {m p a : Nat} (h : ∀ j, j < m → ¬ (p.testBit j = true ∧ wF D m p a j = wy D m p a)) : nx D m p a = 0 := by
  have e : (List.range m).find? (fun j => p.testBit j && decide (D a j + wy D m (p - 2 ^ j) j = wy D m p a)) = none := by
    rw [List.find?_eq_none]
    intro j hj q
    rw [Bool.and_eq_true] at q
    exact h j (List.mem_range.mp hj) ⟨q.1, of_decide_eq_true q.2⟩
  unfold nx
  rw [e]
  rfl
theorem nx_yes {D : Nat → Nat → Int} {m p a i : Nat} (hi : i < m) (hb : p.testBit i = true) (hw : wF D m p a i = wy D m p a) (h : ∀ j, j < i → ¬ (p.testBit j = true ∧ wF D m p a j = wy D m p a)) : nx D m p a = i := by
  have e : (List.range m).find? (fun j => p.testBit j && decide (D a j + wy D m (p - 2 ^ j) j = wy D m p a)) = some i := by
    rw [List.find?_range_eq_some]
    refine ⟨by rw [Bool.and_eq_true]; exact ⟨hb, decide_eq_true hw⟩, List.mem_range.mpr hi, fun j hj => ?_⟩
    rw [Bool.not_eq_true']
    cases q : p.testBit j with
    | false => rfl
    | true =>
      rw [Bool.true_and]
      exact decide_eq_false (fun r => h j hj ⟨q, r⟩)
  unfold nx
  rw [e]
  rfl
set_option maxHeartbeats 4000000 in
set_option maxRecDepth 100000 in
theorem lp_fn (G : oG) {p : Program} {l : Launch} {e : Env} {R : Room} {s : State} {m : MethodId} {args : Array Value} {below : List Frame} {meth : Method} {c : Code} {n0 nF : Nat} {h : oH} (hs : oSh h) {mm : Nat} {X Y : Nat → Int} (g : gE h mm X Y) {u v : Int32} {pp a : Nat} (hp : u.toInt = (pp : Int)) (ha : v.toInt = (a : Int)) (hp2 : pp < 256) (ha8 : a < mm ∨ a = 8) (ht : lsT h (dXY X Y) mm pp) (hla : (hI h 7 (pp * 9 + a)).toInt = wy (dXY X Y) mm pp a) (C : oC G mX4_firstNext n0 nF p l R s m args meth c) (hF : h.1 ≤ nF) : ∀ (k i : Nat) (x : Int32), i + k = mm → x.toInt = (i : Int) → (∀ j, j < i → ¬ (pp.testBit j = true ∧ wF (dXY X Y) mm pp a j = wy (dXY X Y) mm pp a)) → oS G mX4_firstNext p l e R s m args below meth c (oZ G below args s n0 nF (some (.int (kI (nx (dXY X Y) mm pp a)))) h) n0 2 [some (.ref 2), some (.int u), some (.int v), some (.int x)] [] h := by
  have g8 := g.2.1
  intro k
  induction k with
  | zero =>
    intro i x hik hx hN
    have him : i = mm := by omega
    subst him
    refine r_iload_n C rfl dX4_firstNext_2 ?_
    refine r_aload_n C rfl rfl dX4_firstNext_3 ?_
    refine r_getI C dX4_firstNext_4 fl_X4_31 rfl (q_lt hs (by decide)) ?_
    refine t_icmp_ge C 43 (by decide) hx g.1 dX4_firstNext_7 (fun c7 => ?_) (fun c7 => absurd c7 (by omega))
    refine r_iconstv C 0 rfl dX4_firstNext_43 ?_
    exact r_iret C dX4_firstNext_44 rfl hF (by rw [nx_no hN]; rfl) rfl
  | succ k ih =>
    intro i x hik hx hN
    have hi : i < mm := by omega
    by_cases hbt : pp.testBit i = true
    · refine r_iload_n C rfl dX4_firstNext_2 ?_
      refine r_aload_n C rfl rfl dX4_firstNext_3 ?_
      refine r_getI C dX4_firstNext_4 fl_X4_31 rfl (q_lt hs (by decide)) ?_
      refine t_icmp_ge C 43 (by decide) hx g.1 dX4_firstNext_7 (fun c7 => absurd c7 (by omega)) (fun c7 => ?_)
      refine r_iload_n C rfl dX4_firstNext_10 ?_
      refine r_iload_n C rfl dX4_firstNext_11 ?_
      refine r_ishr C dX4_firstNext_12 ?_
      refine r_iconstv C 1 rfl dX4_firstNext_13 ?_
      refine r_iand C dX4_firstNext_14 ?_
      refine r_iconstv C 1 rfl dX4_firstNext_15 ?_
      refine t_icmp_ne C 37 (by decide) rfl (show (1 : Int32).toInt = 1 from rfl) dX4_firstNext_16 (fun c16 => absurd (by rw [tBit hp hx (by omega), if_pos hbt]) c16) (fun c16 => ?_)
      refine r_aload_n C rfl rfl dX4_firstNext_19 ?_
      refine r_iload_n C rfl dX4_firstNext_20 ?_
      refine r_iload_n C rfl dX4_firstNext_21 ?_
      refine r_iload_n C rfl dX4_firstNext_22 ?_
      refine r_callV C (sp_wby G hs _ _ _ hp ha hx hp2 (by have g8 := g.2.1; omega) (by have g8 := g.2.1; omega) hbt) kv_X4_wayBy kn_X4_wayBy rfl dX4_firstNext_23 cl_X4_66 ⟨Nat.le_of_ble_eq_true rfl, Nat.le_of_ble_eq_true rfl⟩ (by decide) rfl rfl (q_lt hs (by decide)) hF rfl (Nat.le_of_ble_eq_true rfl) ?_
      refine r_aload_n C rfl rfl dX4_firstNext_26 ?_
      refine r_iload_n C rfl dX4_firstNext_27 ?_
      refine r_iload_n C rfl dX4_firstNext_28 ?_
      refine r_callV C (sp_lat G hs _ _ hp ha hp2 (by omega)) kv_X4_leastAt kn_X4_leastAt rfl dX4_firstNext_29 cl_X4_34 ⟨Nat.le_of_ble_eq_true rfl, Nat.le_of_ble_eq_true rfl⟩ (by decide) rfl rfl (q_lt hs (by decide)) hF rfl (Nat.le_of_ble_eq_true rfl) ?_
      refine t_icmp_ne C 37 (by decide) (wbE_t g ha8 hi hp2 hbt ht) hla dX4_firstNext_32 (fun c32 => ?_) (fun c32 => ?_)
      · refine r_iinc C rfl rfl (Nat.le_of_ble_eq_true rfl) dX4_firstNext_37 ?_
        refine r_goto C 2 (by decide) dX4_firstNext_40 ?_
        exact ih (i + 1) _ (by omega) (by have t := tA hx (show (Int32.ofInt 1).toInt = 1 from rfl) (by omega); omega) (fun j hj => by
          rcases Nat.lt_or_ge j i with q1 | q1
          · exact hN j q1
          · rw [show j = i by omega]
            exact fun q => absurd q.2 c32)
      · refine r_iload_n C rfl dX4_firstNext_35 ?_
        exact r_iret C dX4_firstNext_36 rfl hF (by rw [nx_yes hi hbt c32 hN, ← kI_e hx]) rfl
    · refine r_iload_n C rfl dX4_firstNext_2 ?_
      refine r_aload_n C rfl rfl dX4_firstNext_3 ?_
      refine r_getI C dX4_firstNext_4 fl_X4_31 rfl (q_lt hs (by decide)) ?_
      refine t_icmp_ge C 43 (by decide) hx g.1 dX4_firstNext_7 (fun c7 => absurd c7 (by omega)) (fun c7 => ?_)
      refine r_iload_n C rfl dX4_firstNext_10 ?_
      refine r_iload_n C rfl dX4_firstNext_11 ?_
      refine r_ishr C dX4_firstNext_12 ?_
      refine r_iconstv C 1 rfl dX4_firstNext_13 ?_
      refine r_iand C dX4_firstNext_14 ?_
      refine r_iconstv C 1 rfl dX4_firstNext_15 ?_
      refine t_icmp_ne C 37 (by decide) rfl (show (1 : Int32).toInt = 1 from rfl) dX4_firstNext_16 (fun c16 => ?_) (fun c16 => absurd (bit_t hp hx (by omega) c16) hbt)
      refine r_iinc C rfl rfl (Nat.le_of_ble_eq_true rfl) dX4_firstNext_37 ?_
      refine r_goto C 2 (by decide) dX4_firstNext_40 ?_
      exact ih (i + 1) _ (by omega) (by have t := tA hx (show (Int32.ofInt 1).toInt = 1 from rfl) (by omega); omega) (fun j hj => by
        rcases Nat.lt_or_ge j i with q1 | q1
        · exact hN j q1
        · rw [show j = i by omega]
          exact fun q => absurd q.1 hbt)

set_option maxHeartbeats 4000000 in
set_option maxRecDepth 100000 in
theorem sp_fn (G : oG) {h : oH} (hs : oSh h) {mm : Nat} {X Y : Nat → Int} (g : gE h mm X Y) (u v : Int32) {pp a : Nat} (hp : u.toInt = (pp : Int)) (ha : v.toInt = (a : Int)) (hp2 : pp < 256) (ha8 : a < mm ∨ a = 8) (ht : lsT h (dXY X Y) mm pp) (hla : (hI h 7 (pp * 9 + a)).toInt = wy (dXY X Y) mm pp a) : oSp G mX4_firstNext [.ref 2, .int u, .int v] h (some (.int (kI (nx (dXY X Y) mm pp a)))) h := by
  refine oSp.intro [some (.ref 2), some (.int u), some (.int v), none] rfl (Nat.le_of_ble_eq_true rfl) (plainFor_of_name (by decide +kernel)) (Nat.le_refl _) ?_
  intro p l e R s m args below meth c C
  refine r_iconstv C 0 rfl dX4_firstNext_0 ?_
  refine r_istore_n C rfl (Nat.le_of_ble_eq_true rfl) dX4_firstNext_1 ?_
  exact lp_fn G hs g hp ha hp2 ha8 ht hla C (Nat.le_refl _) mm 0 _ (by omega) rfl (fun j hj => absurd hj (Nat.not_lt_zero j))

theorem mnO_z {F : Nat → Int} : ∀ k, mnO F (fun j => (0 : Nat).testBit j) k = none
  | 0 => rfl
  | k + 1 => by
    rw [mnO_0 (by rw [Nat.zero_testBit]; decide)]
    exact mnO_z k
set_option maxHeartbeats 4000000 in
set_option maxRecDepth 100000 in
theorem lp_ms (G : oG) {p : Program} {l : Launch} {e : Env} {R : Room} {s : State} {m : MethodId} {args : Array Value} {below : List Frame} {meth : Method} {c : Code} {n0 nF : Nat} {h : oH} (hs : oSh h) {mm : Nat} {X Y : Nat → Int} (g : gE h mm X Y) {u v : Int32} {pp a : Nat} (hp : u.toInt = (pp : Int)) (ha : v.toInt = (a : Int)) (hp2 : pp < 256) (ha8 : a < mm ∨ a = 8) (ht : lsT h (dXY X Y) mm pp) (hpm : pp < 2 ^ mm) {x3 : Int32} (h3 : x3.toInt = ((pp * 9 + a : Nat) : Int)) (C : oC G mX4_measure n0 nF p l R s m args meth c) (hF : h.1 ≤ nF) : ∀ (k i : Nat) (y x : Int32), i + k = mm → x.toInt = (i : Int) → msT (mnO (wF (dXY X Y) mm pp a) (fun j => pp.testBit j) i) (if pp = 0 then dXY X Y a 8 else 1000000) y → oS G mX4_measure p l e R s m args below meth c (oZ G below args s n0 nF none (sI h 7 (pp * 9 + a) (oI (wy (dXY X Y) mm pp a)))) n0 42 [some (.ref 2), some (.int u), some (.int v), some (.int x3), some (.int y), some (.int x)] [] h := by
  have g8 := g.2.1
  intro k
  induction k with
  | zero =>
    intro i y x hik hx hm
    have him : i = mm := by omega
    subst him
    have hy : y = oI (wy (dXY X Y) i pp a) := by
      refine oI_e ?_
      by_cases z : pp = 0
      · subst z
        rw [mnO_z] at hm
        have hm' : y.toInt = dXY X Y a 8 := by
          have q : y.toInt = if (0 : Nat) = 0 then dXY X Y a 8 else 1000000 := hm
          rw [if_pos rfl] at q
          exact q
        rw [hm', wy_0]
      · rw [wy_s z]
        rcases muO (F := wF (dXY X Y) i pp a) (P := fun j => pp.testBit j) i with ⟨-, -, q3⟩ | ⟨b, -, q2, -⟩
        · obtain ⟨j, hj, q⟩ := has_bit z hpm
          exact absurd q (q3 j hj)
        · rw [q2] at hm ⊢
          exact hm
    refine r_iload C rfl dX4_measure_42 ?_
    refine r_aload_n C rfl rfl dX4_measure_44 ?_
    refine r_getI C dX4_measure_45 fl_X4_31 rfl (q_lt hs (by decide)) ?_
    refine t_icmp_ge C 82 (by decide) hx g.1 dX4_measure_48 (fun c48 => ?_) (fun c48 => absurd c48 (by omega))
    refine r_aload_n C rfl rfl dX4_measure_82 ?_
    refine r_getO C dX4_measure_83 fl_X4_24 rfl rfl (q_lt hs (by decide)) (sh_2_4 hs) ?_
    refine r_iload_n C rfl dX4_measure_86 ?_
    refine r_iload C rfl dX4_measure_87 ?_
    refine r_iast C (pp * 9 + a) (by have t := h3; omega) (by omega) dX4_measure_89 rfl (q_lt hs (by decide)) ?_
    exact r_vret C dX4_measure_90 rfl hF (by rw [hy])
  | succ k ih =>
    intro i y x hik hx hm
    have hi : i < mm := by omega
    by_cases hbt : pp.testBit i = true
    · refine r_iload C rfl dX4_measure_42 ?_
      refine r_aload_n C rfl rfl dX4_measure_44 ?_
      refine r_getI C dX4_measure_45 fl_X4_31 rfl (q_lt hs (by decide)) ?_
      refine t_icmp_ge C 82 (by decide) hx g.1 dX4_measure_48 (fun c48 => absurd c48 (by omega)) (fun c48 => ?_)
      refine r_iload_n C rfl dX4_measure_51 ?_
      refine r_iload C rfl dX4_measure_52 ?_
      refine r_ishr C dX4_measure_54 ?_
      refine r_iconstv C 1 rfl dX4_measure_55 ?_
      refine r_iand C dX4_measure_56 ?_
      refine r_iconstv C 1 rfl dX4_measure_57 ?_
      refine t_icmp_ne C 76 (by decide) rfl (show (1 : Int32).toInt = 1 from rfl) dX4_measure_58 (fun c58 => absurd (by rw [tBit hp hx (by omega), if_pos hbt]) c58) (fun c58 => ?_)
      refine r_iload C rfl dX4_measure_61 ?_
      refine r_aload_n C rfl rfl dX4_measure_63 ?_
      refine r_iload_n C rfl dX4_measure_64 ?_
      refine r_iload_n C rfl dX4_measure_65 ?_
      refine r_iload C rfl dX4_measure_66 ?_
      refine r_callV C (sp_wby G hs _ _ _ hp ha hx hp2 (by have g8 := g.2.1; omega) (by have g8 := g.2.1; omega) hbt) kv_X4_wayBy kn_X4_wayBy rfl dX4_measure_68 cl_X4_66 ⟨Nat.le_of_ble_eq_true rfl, Nat.le_of_ble_eq_true rfl⟩ (by decide) rfl rfl (q_lt hs (by decide)) hF rfl (Nat.le_of_ble_eq_true rfl) ?_
      refine r_callS C (sp_min G _ _) ks_J9_min_7cf53 kn_J9_min_7cf53 rfl dX4_measure_71 cl_X4_70 ⟨Nat.le_of_ble_eq_true rfl, Nat.le_of_ble_eq_true rfl⟩ hF rfl (Nat.le_of_ble_eq_true rfl) ?_
      refine r_istore C rfl (Nat.le_of_ble_eq_true rfl) dX4_measure_74 ?_
      refine r_iinc C rfl rfl (Nat.le_of_ble_eq_true rfl) dX4_measure_76 ?_
      refine r_goto C 42 (by decide) dX4_measure_79 ?_
      have hz : pp ≠ 0 := fun z => by rw [z, Nat.zero_testBit] at hbt; exact absurd hbt (by decide)
      have hw := wF_b (m := mm) (left := pp) (k := a) (j := i) (dXY_b g.2.2.1) hp2
      exact ih (i + 1) _ _ (by omega) (by have t := tA hx (show (Int32.ofInt 1).toInt = 1 from rfl) (by omega); omega) (msT_1 (P := fun j => pp.testBit j) hbt hm (wbE_t g ha8 hi hp2 hbt ht) (by rw [if_neg hz]; omega))
    · refine r_iload C rfl dX4_measure_42 ?_
      refine r_aload_n C rfl rfl dX4_measure_44 ?_
      refine r_getI C dX4_measure_45 fl_X4_31 rfl (q_lt hs (by decide)) ?_
      refine t_icmp_ge C 82 (by decide) hx g.1 dX4_measure_48 (fun c48 => absurd c48 (by omega)) (fun c48 => ?_)
      refine r_iload_n C rfl dX4_measure_51 ?_
      refine r_iload C rfl dX4_measure_52 ?_
      refine r_ishr C dX4_measure_54 ?_
      refine r_iconstv C 1 rfl dX4_measure_55 ?_
      refine r_iand C dX4_measure_56 ?_
      refine r_iconstv C 1 rfl dX4_measure_57 ?_
      refine t_icmp_ne C 76 (by decide) rfl (show (1 : Int32).toInt = 1 from rfl) dX4_measure_58 (fun c58 => ?_) (fun c58 => absurd (bit_t hp hx (by omega) c58) hbt)
      refine r_iinc C rfl rfl (Nat.le_of_ble_eq_true rfl) dX4_measure_76 ?_
      refine r_goto C 42 (by decide) dX4_measure_79 ?_
      exact ih (i + 1) _ _ (by omega) (by have t := tA hx (show (Int32.ofInt 1).toInt = 1 from rfl) (by omega); omega) (msT_0 (P := fun j => pp.testBit j) hbt hm)

set_option maxHeartbeats 4000000 in
set_option maxRecDepth 100000 in
theorem sp_ms (G : oG) {h : oH} (hs : oSh h) {mm : Nat} {X Y : Nat → Int} (g : gE h mm X Y) (u v : Int32) {pp a : Nat} (hp : u.toInt = (pp : Int)) (ha : v.toInt = (a : Int)) (hp2 : pp < 256) (ha8 : a < mm ∨ a = 8) (ht : lsT h (dXY X Y) mm pp) (hpm : pp < 2 ^ mm) : oSp G mX4_measure [.ref 2, .int u, .int v] h none (sI h 7 (pp * 9 + a) (oI (wy (dXY X Y) mm pp a))) := by
  have g8 := g.2.1
  refine oSp.intro [some (.ref 2), some (.int u), some (.int v), none, none, none] rfl (Nat.le_of_ble_eq_true rfl) (plainFor_of_name (by decide +kernel)) (Nat.le_refl _) ?_
  intro p l e R s m args below meth c C
  refine r_iload_n C rfl dX4_measure_0 ?_
  refine r_bipush C 9 rfl dX4_measure_1 ?_
  refine r_imul C dX4_measure_3 ?_
  refine r_iload_n C rfl dX4_measure_4 ?_
  refine r_iadd C dX4_measure_5 ?_
  refine r_istore_n C rfl (Nat.le_of_ble_eq_true rfl) dX4_measure_6 ?_
  refine r_iload_n C rfl dX4_measure_7 ?_
  refine t_if_lt C 20 (by decide) (tA (tM hp (show (9 : Int32).toInt = 9 from rfl) (by omega)) ha (by omega)) dX4_measure_8 (fun c8 => ?_) (fun c8 => ?_)
  · first
    | (exfalso; omega)
    |  (exact r_vret C dX4_measure_20 rfl (Nat.le_refl _) rfl)
  · first
    | (exfalso; omega)
    |  (refine r_iload_n C rfl dX4_measure_11 ?_
        refine r_aload_n C rfl rfl dX4_measure_12 ?_
        refine r_getO C dX4_measure_13 fl_X4_24 rfl rfl (q_lt hs (by decide)) (sh_2_4 hs) ?_
        refine r_alen C 2304 dX4_measure_16 rfl (by decide) (q_lt hs (by decide)) rfl ?_
        refine t_icmp_lt C 21 (by decide) (tA (tM hp (show (9 : Int32).toInt = 9 from rfl) (by omega)) ha (by omega)) (show (2304 : Int32).toInt = 2304 from rfl) dX4_measure_17 (fun c17 => ?_) (fun c17 => ?_)
        · first
          | (exfalso; omega)
          |  (refine r_iload_n C rfl dX4_measure_21 ?_
              refine t_if_ne C 35 (by decide) hp dX4_measure_22 (fun c22 => ?_) (fun c22 => ?_)
              · first
                | (exfalso; omega)
                |  (refine r_ldc C _ lc_X4_65 dX4_measure_35 ?_
                    refine r_istore C rfl (Nat.le_of_ble_eq_true rfl) dX4_measure_37 ?_
                    refine r_iconstv C 0 rfl dX4_measure_39 ?_
                    refine r_istore C rfl (Nat.le_of_ble_eq_true rfl) dX4_measure_40 ?_
                    exact lp_ms G hs g hp ha hp2 ha8 ht hpm (by rw [tA (tM hp (show (9 : Int32).toInt = 9 from rfl) (by omega)) ha (by omega)]; omega) C (Nat.le_refl _) mm 0 _ _ (by omega) rfl (by rw [show (if pp = 0 then dXY X Y a 8 else 1000000) = 1000000 from if_neg (by omega)]; first | exact btE_t g ha8 (Or.inr rfl) | rfl))
              · first
                | (exfalso; omega)
                |  (refine r_aload_n C rfl rfl dX4_measure_25 ?_
                    refine r_iload_n C rfl dX4_measure_26 ?_
                    refine r_bipush C 8 rfl dX4_measure_27 ?_
                    refine r_callV C (sp_btw G hs _ _ ha (show (8 : Int32).toInt = ((8 : Nat) : Int) from rfl) (by omega) (by omega)) kv_X4_between kn_X4_between rfl dX4_measure_29 cl_X4_62 ⟨Nat.le_of_ble_eq_true rfl, Nat.le_of_ble_eq_true rfl⟩ (by decide) rfl rfl (q_lt hs (by decide)) (Nat.le_refl _) rfl (Nat.le_of_ble_eq_true rfl) ?_
                    refine r_goto C 37 (by decide) dX4_measure_32 ?_
                    refine r_istore C rfl (Nat.le_of_ble_eq_true rfl) dX4_measure_37 ?_
                    refine r_iconstv C 0 rfl dX4_measure_39 ?_
                    refine r_istore C rfl (Nat.le_of_ble_eq_true rfl) dX4_measure_40 ?_
                    exact lp_ms G hs g hp ha hp2 ha8 ht hpm (by rw [tA (tM hp (show (9 : Int32).toInt = 9 from rfl) (by omega)) ha (by omega)]; omega) C (Nat.le_refl _) mm 0 _ _ (by omega) rfl (by rw [show (if pp = 0 then dXY X Y a 8 else 1000000) = dXY X Y a 8 from if_pos (by omega)]; first | exact btE_t g ha8 (Or.inr rfl) | rfl)))
        · first
          | (exfalso; omega)
          |  (exact r_vret C dX4_measure_20 rfl (Nat.le_refl _) rfl))

