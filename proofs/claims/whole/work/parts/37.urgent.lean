/-! the most urgent one -/
def kI (k : Nat) : Int32 := Int32.ofNat k
theorem kI_t {k : Nat} (h : k < 2147483648) : (kI k).toInt = (k : Int) := by
  refine qN ?_ h
  show (BitVec.ofNat 32 k).toNat = k
  rw [BitVec.toNat_ofNat, Nat.mod_eq_of_lt (by omega)]
theorem kI_e {x : Int32} {k : Nat} (h : x.toInt = (k : Int)) : x = kI k := ofN h
def muF (D : Nat → Int) (P : Nat → Bool) : Nat → Option Nat
  | 0 => none
  | k + 1 => if P k = true then (match muF D P k with
    | none => some k
    | some b => if D k < D b then some k else some b) else muF D P k
theorem muF_lt {D : Nat → Int} {P : Nat → Bool} {b : Nat} : ∀ k, muF D P k = some b → b < k ∧ P b = true
  | 0, h => nomatch h
  | k + 1, h => by
    unfold muF at h
    split at h
    · rename_i q
      split at h
      · have e := Option.some.inj h
        rw [← e]
        exact ⟨Nat.lt_succ_self k, q⟩
      · rename_i x hx
        split at h
        · have e := Option.some.inj h
          rw [← e]
          exact ⟨Nat.lt_succ_self k, q⟩
        · have e := Option.some.inj h
          have := muF_lt k hx
          rw [← e]
          exact ⟨by omega, this.2⟩
    · have := muF_lt k h
      exact ⟨by omega, this.2⟩
theorem muF_no {D : Nat → Int} {P : Nat → Bool} : ∀ k, (∀ j, j < k → P j = false) → muF D P k = none
  | 0, _ => rfl
  | k + 1, h => by
    unfold muF
    rw [if_neg (by rw [h k (by omega)]; decide)]
    exact muF_no k (fun j hj => h j (by omega))
theorem muF_co {D E : Nat → Int} {P Q : Nat → Bool} : ∀ k, (∀ j, j < k → D j = E j ∧ P j = Q j) → muF D P k = muF E Q k
  | 0, _ => rfl
  | k + 1, h => by
    unfold muF
    rw [muF_co k (fun j hj => h j (by omega)), (h k (by omega)).2]
    split
    · cases hm : muF E Q k with
      | none => rfl
      | some b =>
        have := (muF_lt k hm).1
        show (if D k < D b then _ else _) = _
        rw [(h k (by omega)).1, (h b (by omega)).1]
    · rfl
def mu2 (r : Option Nat) (x : Int32) : Prop := match r with
  | none => x.toInt = -1000000
  | some b => x.toInt = (b : Int)
def mu3 (D : Nat → Int) (r : Option Nat) (x y : Int32) : Prop := match r with
  | none => x.toInt = -1000000
  | some b => x.toInt = (b : Int) ∧ y.toInt = D b
theorem muF_0 {D : Nat → Int} {P : Nat → Bool} {k : Nat} (h : P k = false) : muF D P (k + 1) = muF D P k := by
  show (if P k = true then _ else _) = _
  rw [if_neg (by rw [h]; decide)]
theorem muF_1 {D : Nat → Int} {P : Nat → Bool} {k : Nat} (h : P k = true) (q : muF D P k = none) : muF D P (k + 1) = some k := by
  show (if P k = true then _ else _) = _
  rw [if_pos h, q]
theorem muF_2 {D : Nat → Int} {P : Nat → Bool} {k b : Nat} (h : P k = true) (q : muF D P k = some b) : muF D P (k + 1) = if D k < D b then some k else some b := by
  show (if P k = true then _ else _) = _
  rw [if_pos h, q]
theorem mu3_0 {D : Nat → Int} {P : Nat → Bool} {k : Nat} {x y : Int32} (h : P k = false) (q : mu3 D (muF D P k) x y) : mu3 D (muF D P (k + 1)) x y := by
  rw [muF_0 h]
  exact q
theorem mu3_1 {D : Nat → Int} {P : Nat → Bool} {k : Nat} {x y x' y' : Int32} (h : P k = true) (q : mu3 D (muF D P k) x y) (e : x.toInt = -1000000) (hx : x'.toInt = (k : Int)) (hy : y'.toInt = D k) : mu3 D (muF D P (k + 1)) x' y' := by
  cases hm : muF D P k with
  | none =>
    rw [muF_1 h hm]
    exact ⟨hx, hy⟩
  | some b =>
    rw [hm] at q
    have := q.1
    omega
theorem mu3_2 {D : Nat → Int} {P : Nat → Bool} {k : Nat} {x y x' y' : Int32} (h : P k = true) (q : mu3 D (muF D P k) x y) (e : ¬ x.toInt = -1000000) (hx : x'.toInt = (k : Int)) (hy : y'.toInt = D k) (l : y'.toInt < y.toInt) : mu3 D (muF D P (k + 1)) x' y' := by
  cases hm : muF D P k with
  | none =>
    rw [hm] at q
    exact absurd q e
  | some b =>
    rw [hm] at q
    rw [muF_2 h hm, if_pos (by have := q.2; omega)]
    exact ⟨hx, hy⟩
theorem mu3_3 {D : Nat → Int} {P : Nat → Bool} {k : Nat} {x y y' : Int32} (h : P k = true) (q : mu3 D (muF D P k) x y) (e : ¬ x.toInt = -1000000) (hy : y'.toInt = D k) (l : ¬ y'.toInt < y.toInt) : mu3 D (muF D P (k + 1)) x y := by
  cases hm : muF D P k with
  | none =>
    rw [hm] at q
    exact absurd q e
  | some b =>
    rw [hm] at q
    rw [muF_2 h hm, if_neg (by have := q.2; omega)]
    exact q
theorem mu3_t {D : Nat → Int} {P : Nat → Bool} {n : Nat} {x y : Int32} (hn : n ≤ 24) : ∀ k, n ≤ k → (∀ j, n ≤ j → P j = false) → mu3 D (muF D P k) x y → mu3 D (muF D P n) x y
  | 0, h, _, q => by rw [show n = 0 by omega]; exact q
  | k + 1, h, hP, q => by
    by_cases e : n = k + 1
    · rw [e]
      exact q
    · rw [muF_0 (hP k (by omega))] at q
      exact mu3_t hn k (by omega) hP q
def dC (h : oH) (j : Nat) : Int := (dtg h (hid j) (hI h 0 7)).toInt
def dM (h : oH) (j : Nat) : Int := (canM h j).toInt
def pCu (h : oH) (n K j : Nat) : Bool := decide (j < n ∧ dueC h j) && !K.testBit j
def pMu (h : oH) (K j : Nat) : Bool := decide (dueP h j) && !K.testBit j
theorem pC_t {h : oH} {n K j : Nat} (h1 : j < n) (h2 : dueC h j) (h3 : ¬ K.testBit j = true) : pCu h n K j = true := by
  have := Bool.eq_false_iff.mpr h3
  unfold pCu
  rw [this, Bool.and_eq_true]
  exact ⟨decide_eq_true ⟨h1, h2⟩, rfl⟩
theorem pC_1 {h : oH} {n K j : Nat} (h3 : K.testBit j = true) : pCu h n K j = false := by
  unfold pCu
  rw [h3, Bool.not_true, Bool.and_false]
theorem pC_2 {h : oH} {n K j : Nat} (h3 : ¬ dueC h j) : pCu h n K j = false := by
  unfold pCu
  rw [decide_eq_false (fun q => h3 q.2), Bool.false_and]
theorem pC_3 {h : oH} {n K j : Nat} (h3 : ¬ j < n) : pCu h n K j = false := by
  unfold pCu
  rw [decide_eq_false (fun q => h3 q.1), Bool.false_and]
theorem pM_t {h : oH} {K j : Nat} (h2 : dueP h j) (h3 : ¬ K.testBit j = true) : pMu h K j = true := by
  have := Bool.eq_false_iff.mpr h3
  unfold pMu
  rw [this, Bool.and_eq_true]
  exact ⟨decide_eq_true h2, rfl⟩
theorem pM_1 {h : oH} {K j : Nat} (h3 : K.testBit j = true) : pMu h K j = false := by
  unfold pMu
  rw [h3, Bool.not_true, Bool.and_false]
theorem pM_2 {h : oH} {K j : Nat} (h3 : ¬ dueP h j) : pMu h K j = false := by
  unfold pMu
  rw [decide_eq_false h3, Bool.false_and]
theorem bit_t {x y : Int32} {a i : Nat} (hx : x.toInt = (a : Int)) (hy : y.toInt = (i : Int)) (hi : i < 32) (e : ((x >>> (y &&& 31)) &&& 1).toInt = 1) : a.testBit i = true := by
  rw [tBit hx hy hi] at e
  split at e
  · assumption
  · omega
theorem bit_n {x y : Int32} {a i : Nat} (hx : x.toInt = (a : Int)) (hy : y.toInt = (i : Int)) (hi : i < 32) (e : ¬ ((x >>> (y &&& 31)) &&& 1).toInt = 1) : ¬ a.testBit i = true := fun q => e (by rw [tBit hx hy hi, if_pos q])
theorem bit_m {x y : Int32} {a i : Nat} (hx : x.toInt = (a : Int)) (hy : y.toInt = (i : Int)) (hi : i < 32) (e : ¬ ((x >>> (y &&& 31)) &&& 1).toInt = 0) : a.testBit i = true := by
  rw [tBit hx hy hi] at e
  split at e
  · assumption
  · omega
theorem bit_z {x y : Int32} {a i : Nat} (hx : x.toInt = (a : Int)) (hy : y.toInt = (i : Int)) (hi : i < 32) (e : ((x >>> (y &&& 31)) &&& 1).toInt = 0) : ¬ a.testBit i = true := fun q => by
  rw [tBit hx hy hi, if_pos q] at e
  exact absurd e (by decide)
set_option maxHeartbeats 4000000 in
set_option maxRecDepth 100000 in
theorem lp_mu (G : oG) {p : Program} {l : Launch} {e : Env} {R : Room} {s : State} {m : MethodId} {args : Array Value} {below : List Frame} {meth : Method} {c : Code} {n0 nF : Nat} {h : oH} {n : Nat} (hh : oHs h n) {K : Nat} {v : Int32} (hv : v.toInt = (K : Int)) (C : oC G mX5_mostUrgent n0 nF p l R s m args meth c) (hF : h.1 ≤ nF) (w : Int32) (hw : mu2 (muF (dC h) (pCu h n K) n) w) : ∀ (k i : Nat) (x y z : Int32) (t u : Option Value), i + k = 24 → z.toInt = (i : Int) → mu3 (dC h) (muF (dC h) (pCu h n K) i) x y → oS G mX5_mostUrgent p l e R s m args below meth c (oZ G below args s n0 nF (some (.int w)) h) n0 8 [some (.ref 0), some (.int v), some (.int x), some (.int y), some (.int z), t, u] [] h := by
  have h24 := hh.2.2.1
  intro k
  induction k with
  | zero =>
    intro i x y z t u hik hz hm
    have hi24 : i = 24 := by omega
    subst hi24
    have hr := mu3_t h24 24 h24 (fun j hj => pC_3 (by omega)) hm
    have hxw : w = x := by
      cases q : (muF (dC h) (pCu h n K) n) with
      | none => rw [q] at hr hw; exact Int32.toInt_inj.mp (Eq.trans hw (Eq.symm hr))
      | some b => rw [q] at hr hw; exact Int32.toInt_inj.mp (Eq.trans hw (Eq.symm hr.1))
    refine r_iload C rfl dX5_mostUrgent_8 ?_
    refine r_aload_n C rfl rfl dX5_mostUrgent_10 ?_
    refine r_getO C dX5_mostUrgent_11 fl_X5_11 rfl rfl (q_lt hh.1 (by decide)) (sh_0_0 hh.1) ?_
    refine r_alen C 24 dX5_mostUrgent_14 rfl (by decide) (q_lt hh.1 (by decide)) rfl ?_
    refine t_icmp_ge C 99 (by decide) hz (show (24 : Int32).toInt = 24 from rfl) dX5_mostUrgent_15 (fun c15 => ?_) (fun c15 => absurd c15 (by omega))
    refine r_iload_n C rfl dX5_mostUrgent_99 ?_
    exact r_iret C dX5_mostUrgent_100 rfl hF (by rw [hxw]) rfl
  | succ k ih =>
    intro i x y z t u hik hz hm
    by_cases hi : i < n
    · refine r_iload C rfl dX5_mostUrgent_8 ?_
      refine r_aload_n C rfl rfl dX5_mostUrgent_10 ?_
      refine r_getO C dX5_mostUrgent_11 fl_X5_11 rfl rfl (q_lt hh.1 (by decide)) (sh_0_0 hh.1) ?_
      refine r_alen C 24 dX5_mostUrgent_14 rfl (by decide) (q_lt hh.1 (by decide)) rfl ?_
      refine t_icmp_ge C 99 (by decide) hz (show (24 : Int32).toInt = 24 from rfl) dX5_mostUrgent_15 (fun c15 => absurd c15 (by omega)) (fun c15 => ?_)
      refine r_aload_n C rfl rfl dX5_mostUrgent_18 ?_
      refine r_getO C dX5_mostUrgent_19 fl_X5_11 rfl rfl (q_lt hh.1 (by decide)) (sh_0_0 hh.1) ?_
      refine r_iload C rfl dX5_mostUrgent_22 ?_
      refine r_aald C (i) (by have t := hz; omega) (by omega) dX5_mostUrgent_24 rfl (q_lt hh.1 (by decide)) (oHs.row hh hi) ?_
      refine r_astore C rfl rfl (Nat.le_of_ble_eq_true rfl) dX5_mostUrgent_25 ?_
      refine r_aload C rfl rfl dX5_mostUrgent_27 ?_
      refine r_ifnull C dX5_mostUrgent_29 ?_
      refine r_iload_n C rfl dX5_mostUrgent_32 ?_
      refine r_iload C rfl dX5_mostUrgent_33 ?_
      refine r_ishr C dX5_mostUrgent_35 ?_
      refine r_iconstv C 1 rfl dX5_mostUrgent_36 ?_
      refine r_iand C dX5_mostUrgent_37 ?_
      refine r_iconstv C 1 rfl dX5_mostUrgent_38 ?_
      refine t_icmp_eq C 93 (by decide) rfl (show (1 : Int32).toInt = 1 from rfl) dX5_mostUrgent_39 (fun c39 => ?_) (fun c39 => ?_)
      · refine r_iinc C rfl rfl (Nat.le_of_ble_eq_true rfl) dX5_mostUrgent_93 ?_
        refine r_goto C 8 (by decide) dX5_mostUrgent_96 ?_
        exact ih (i + 1) _ _ _ _ _ (by omega) (by have t := tA hz (show (Int32.ofInt 1).toInt = 1 from rfl) (by omega); omega) (by first | exact mu3_0 (pC_1 (bit_t hv hz (by omega) c39)) hm | exact mu3_0 (pC_2 c55) hm | exact mu3_1 (pC_t hi c55 (bit_n hv hz (by omega) c39)) hm c75 hz rfl | exact mu3_2 (pC_t hi c55 (bit_n hv hz (by omega) c39)) hm c75 hz rfl c81 | exact mu3_3 (pC_t hi c55 (bit_n hv hz (by omega) c39)) hm c75 rfl (Int.not_lt.mpr c81))
      · refine r_aload C rfl rfl dX5_mostUrgent_42 ?_
        refine r_aload_n C rfl rfl dX5_mostUrgent_44 ?_
        refine r_getI C dX5_mostUrgent_45 fl_X5_43 rfl (q_lt hh.1 (by decide)) ?_
        refine r_aload_n C rfl rfl dX5_mostUrgent_48 ?_
        refine r_getI C dX5_mostUrgent_49 fl_X5_46 rfl (q_lt hh.1 (by decide)) ?_
        refine r_callV C (sp_isDueC G (tg_hid i) (oHs.lt (by exact hh) hi) _ _) kv_X1_isDue kn_X1_isDue rfl dX5_mostUrgent_52 cl_X5_118 ⟨Nat.le_of_ble_eq_true rfl, Nat.le_of_ble_eq_true rfl⟩ (by decide) rfl (tg_hid i) (oHs.lt hh hi) hF rfl (Nat.le_of_ble_eq_true rfl) ?_
        refine t_ifb_ne C 61 (by decide) dX5_mostUrgent_55 (fun c55 => ?_) (fun c55 => ?_)
        · refine r_aload C rfl rfl dX5_mostUrgent_61 ?_
          refine r_aload_n C rfl rfl dX5_mostUrgent_63 ?_
          refine r_getI C dX5_mostUrgent_64 fl_X5_46 rfl (q_lt hh.1 (by decide)) ?_
          refine r_callV C (sp_daysToGo G (tg_hid i) (oHs.lt (by exact hh) hi) _) kv_X1_daysToGo kn_X1_daysToGo rfl dX5_mostUrgent_67 cl_X5_221 ⟨Nat.le_of_ble_eq_true rfl, Nat.le_of_ble_eq_true rfl⟩ (by decide) rfl (tg_hid i) (oHs.lt hh hi) hF rfl (Nat.le_of_ble_eq_true rfl) ?_
          refine r_istore C rfl (Nat.le_of_ble_eq_true rfl) dX5_mostUrgent_70 ?_
          refine r_iload_n C rfl dX5_mostUrgent_72 ?_
          refine r_ldc C _ lc_X5_220 dX5_mostUrgent_73 ?_
          refine t_icmp_eq C 87 (by decide) rfl (show ((-1000000) : Int32).toInt = (-1000000) from rfl) dX5_mostUrgent_75 (fun c75 => ?_) (fun c75 => ?_)
          · refine r_iload C rfl dX5_mostUrgent_87 ?_
            refine r_istore_n C rfl (Nat.le_of_ble_eq_true rfl) dX5_mostUrgent_89 ?_
            refine r_iload C rfl dX5_mostUrgent_90 ?_
            refine r_istore_n C rfl (Nat.le_of_ble_eq_true rfl) dX5_mostUrgent_92 ?_
            refine r_iinc C rfl rfl (Nat.le_of_ble_eq_true rfl) dX5_mostUrgent_93 ?_
            refine r_goto C 8 (by decide) dX5_mostUrgent_96 ?_
            exact ih (i + 1) _ _ _ _ _ (by omega) (by have t := tA hz (show (Int32.ofInt 1).toInt = 1 from rfl) (by omega); omega) (by first | exact mu3_0 (pC_1 (bit_t hv hz (by omega) c39)) hm | exact mu3_0 (pC_2 c55) hm | exact mu3_1 (pC_t hi c55 (bit_n hv hz (by omega) c39)) hm c75 hz rfl | exact mu3_2 (pC_t hi c55 (bit_n hv hz (by omega) c39)) hm c75 hz rfl c81 | exact mu3_3 (pC_t hi c55 (bit_n hv hz (by omega) c39)) hm c75 rfl (Int.not_lt.mpr c81))
          · refine r_iload C rfl dX5_mostUrgent_78 ?_
            refine r_iload_n C rfl dX5_mostUrgent_80 ?_
            refine t_icmp_lt C 87 (by decide) rfl rfl dX5_mostUrgent_81 (fun c81 => ?_) (fun c81 => ?_)
            · refine r_iload C rfl dX5_mostUrgent_87 ?_
              refine r_istore_n C rfl (Nat.le_of_ble_eq_true rfl) dX5_mostUrgent_89 ?_
              refine r_iload C rfl dX5_mostUrgent_90 ?_
              refine r_istore_n C rfl (Nat.le_of_ble_eq_true rfl) dX5_mostUrgent_92 ?_
              refine r_iinc C rfl rfl (Nat.le_of_ble_eq_true rfl) dX5_mostUrgent_93 ?_
              refine r_goto C 8 (by decide) dX5_mostUrgent_96 ?_
              exact ih (i + 1) _ _ _ _ _ (by omega) (by have t := tA hz (show (Int32.ofInt 1).toInt = 1 from rfl) (by omega); omega) (by first | exact mu3_0 (pC_1 (bit_t hv hz (by omega) c39)) hm | exact mu3_0 (pC_2 c55) hm | exact mu3_1 (pC_t hi c55 (bit_n hv hz (by omega) c39)) hm c75 hz rfl | exact mu3_2 (pC_t hi c55 (bit_n hv hz (by omega) c39)) hm c75 hz rfl c81 | exact mu3_3 (pC_t hi c55 (bit_n hv hz (by omega) c39)) hm c75 rfl (Int.not_lt.mpr c81))
            · refine r_goto C 93 (by decide) dX5_mostUrgent_84 ?_
              refine r_iinc C rfl rfl (Nat.le_of_ble_eq_true rfl) dX5_mostUrgent_93 ?_
              refine r_goto C 8 (by decide) dX5_mostUrgent_96 ?_
              exact ih (i + 1) _ _ _ _ _ (by omega) (by have t := tA hz (show (Int32.ofInt 1).toInt = 1 from rfl) (by omega); omega) (by first | exact mu3_0 (pC_1 (bit_t hv hz (by omega) c39)) hm | exact mu3_0 (pC_2 c55) hm | exact mu3_1 (pC_t hi c55 (bit_n hv hz (by omega) c39)) hm c75 hz rfl | exact mu3_2 (pC_t hi c55 (bit_n hv hz (by omega) c39)) hm c75 hz rfl c81 | exact mu3_3 (pC_t hi c55 (bit_n hv hz (by omega) c39)) hm c75 rfl (Int.not_lt.mpr c81))
        · refine r_goto C 93 (by decide) dX5_mostUrgent_58 ?_
          refine r_iinc C rfl rfl (Nat.le_of_ble_eq_true rfl) dX5_mostUrgent_93 ?_
          refine r_goto C 8 (by decide) dX5_mostUrgent_96 ?_
          exact ih (i + 1) _ _ _ _ _ (by omega) (by have t := tA hz (show (Int32.ofInt 1).toInt = 1 from rfl) (by omega); omega) (by first | exact mu3_0 (pC_1 (bit_t hv hz (by omega) c39)) hm | exact mu3_0 (pC_2 c55) hm | exact mu3_1 (pC_t hi c55 (bit_n hv hz (by omega) c39)) hm c75 hz rfl | exact mu3_2 (pC_t hi c55 (bit_n hv hz (by omega) c39)) hm c75 hz rfl c81 | exact mu3_3 (pC_t hi c55 (bit_n hv hz (by omega) c39)) hm c75 rfl (Int.not_lt.mpr c81))
    · refine r_iload C rfl dX5_mostUrgent_8 ?_
      refine r_aload_n C rfl rfl dX5_mostUrgent_10 ?_
      refine r_getO C dX5_mostUrgent_11 fl_X5_11 rfl rfl (q_lt hh.1 (by decide)) (sh_0_0 hh.1) ?_
      refine r_alen C 24 dX5_mostUrgent_14 rfl (by decide) (q_lt hh.1 (by decide)) rfl ?_
      refine t_icmp_ge C 99 (by decide) hz (show (24 : Int32).toInt = 24 from rfl) dX5_mostUrgent_15 (fun c15 => absurd c15 (by omega)) (fun c15 => ?_)
      refine r_aload_n C rfl rfl dX5_mostUrgent_18 ?_
      refine r_getO C dX5_mostUrgent_19 fl_X5_11 rfl rfl (q_lt hh.1 (by decide)) (sh_0_0 hh.1) ?_
      refine r_iload C rfl dX5_mostUrgent_22 ?_
      refine r_aald C (i) (by have t := hz; omega) (by omega) dX5_mostUrgent_24 rfl (q_lt hh.1 (by decide)) (oHs.nul hh hi (by omega)) ?_
      refine r_astore C rfl rfl (Nat.le_of_ble_eq_true rfl) dX5_mostUrgent_25 ?_
      refine r_aload C rfl rfl dX5_mostUrgent_27 ?_
      refine r_ifnullN C 93 (by decide) dX5_mostUrgent_29 ?_
      refine r_iinc C rfl rfl (Nat.le_of_ble_eq_true rfl) dX5_mostUrgent_93 ?_
      refine r_goto C 8 (by decide) dX5_mostUrgent_96 ?_
      exact ih (i + 1) _ _ _ _ _ (by omega) (by have t := tA hz (show (Int32.ofInt 1).toInt = 1 from rfl) (by omega); omega) (mu3_0 (pC_3 hi) hm)

set_option maxHeartbeats 4000000 in
set_option maxRecDepth 100000 in
theorem sp_mu (G : oG) {h : oH} {n : Nat} (hh : oHs h n) {K : Nat} (v : Int32) (hv : v.toInt = (K : Int)) (w : Int32) (hw : mu2 (muF (dC h) (pCu h n K) n) w) : oSp G mX5_mostUrgent [.ref 0, .int v] h (some (.int w)) h := by
  refine oSp.intro [some (.ref 0), some (.int v), none, none, none, none, none] rfl (Nat.le_of_ble_eq_true rfl) (plainFor_of_name (by decide +kernel)) (Nat.le_refl _) ?_
  intro p l e R s m args below meth c C
  refine r_ldc C _ lc_X5_220 dX5_mostUrgent_0 ?_
  refine r_istore_n C rfl (Nat.le_of_ble_eq_true rfl) dX5_mostUrgent_2 ?_
  refine r_iconstv C 0 rfl dX5_mostUrgent_3 ?_
  refine r_istore_n C rfl (Nat.le_of_ble_eq_true rfl) dX5_mostUrgent_4 ?_
  refine r_iconstv C 0 rfl dX5_mostUrgent_5 ?_
  refine r_istore C rfl (Nat.le_of_ble_eq_true rfl) dX5_mostUrgent_6 ?_
  exact lp_mu G hh hv C (Nat.le_refl _) w hw 24 0 _ _ _ _ _ rfl rfl (by show _ = _; rfl)

