/-! the reference's ways -/
def fdE (h : oH) (ll : List Nat) (a : Nat) : Int32 := ab (hI h 13 (ll.getD a 0) - 25) + ab (hI h 14 (ll.getD a 0) - 25)
def bwE (h : oH) (ll : List Nat) (a b : Nat) : Int32 := ab (hI h 13 (ll.getD a 0) - hI h 13 (ll.getD b 0)) + ab (hI h 14 (ll.getD a 0) - hI h 14 (ll.getD b 0))
theorem fdE_t {h : oH} (hs : oSh h) {mm : Nat} {ll : List Nat} {X Y : Nat → Int} (g : gM h mm ll X Y) {a : Nat} (ha : a < mm) : (fdE h ll a).toInt = dXY X Y a 8 := by
  obtain ⟨-, -, p1, p2⟩ := g.2.2.2.2 a ha
  have h3 := g.2.2.1 a
  have e8 := g.2.2.2.1
  have e1 := ab_t (tS p1 (show (25 : Int32).toInt = 25 from rfl) (by omega)) (by omega)
  have e2 := ab_t (tS p2 (show (25 : Int32).toInt = 25 from rfl) (by omega)) (by omega)
  unfold fdE dXY
  rw [e8.1, e8.2]
  refine tA e1 e2 ?_
  unfold aI
  omega
theorem bwE_t {h : oH} (hs : oSh h) {mm : Nat} {ll : List Nat} {X Y : Nat → Int} (g : gM h mm ll X Y) {a b : Nat} (ha : a < mm) (hb : b < mm) : (bwE h ll a b).toInt = dXY X Y a b := by
  obtain ⟨-, -, p1, p2⟩ := g.2.2.2.2 a ha
  obtain ⟨-, -, q1, q2⟩ := g.2.2.2.2 b hb
  have h3 := g.2.2.1 a
  have h4 := g.2.2.1 b
  have e1 := ab_t (tS p1 q1 (by omega)) (by omega)
  have e2 := ab_t (tS p2 q2 (by omega)) (by omega)
  unfold bwE dXY
  refine tA e1 e2 ?_
  unfold aI
  omega
set_option maxHeartbeats 4000000 in
set_option maxRecDepth 100000 in
theorem sp_fd (G : oG) {h : oH} (hs : oSh h) {mm : Nat} {ll : List Nat} {X Y : Nat → Int} (g : gM h mm ll X Y) (u : Int32) {a : Nat} (ha : u.toInt = (a : Int)) (ham : a < mm) : oSp G mX6_fromDepot [.ref 12, .int u] h (some (.int (fdE h ll a))) h := by
  refine oSp.intro [some (.ref 12), some (.int u)] rfl (Nat.le_of_ble_eq_true rfl) (plainFor_of_name (by decide +kernel)) (Nat.le_refl _) ?_
  intro p l e R s m args below meth c C
  refine r_aload_n C rfl rfl dX6_fromDepot_0 ?_
  refine r_getO C dX6_fromDepot_1 fl_X6_7 rfl rfl (q_lt hs (by decide)) (sh_12_2 hs) ?_
  refine r_aload_n C rfl rfl dX6_fromDepot_4 ?_
  refine r_getO C dX6_fromDepot_5 fl_X6_66 rfl rfl (q_lt hs (by decide)) (sh_12_25 hs) ?_
  refine r_iload_n C rfl dX6_fromDepot_8 ?_
  refine r_iald C (a) (by have t := ha; omega) (by have t := g.2.1; omega) dX6_fromDepot_9 rfl (q_lt hs (by decide)) ?_
  refine r_iald C ((ll.getD a 0)) (g.2.2.2.2 a ham).1 (g.2.2.2.2 a ham).2.1 dX6_fromDepot_10 rfl (q_lt hs (by decide)) ?_
  refine r_bipush C 25 rfl dX6_fromDepot_11 ?_
  refine r_isub C dX6_fromDepot_13 ?_
  refine r_callS C (sp_size G _) ks_X6_size kn_X6_size rfl dX6_fromDepot_14 cl_X6_153 ⟨Nat.le_of_ble_eq_true rfl, Nat.le_of_ble_eq_true rfl⟩ (Nat.le_refl _) rfl (Nat.le_of_ble_eq_true rfl) ?_
  refine r_aload_n C rfl rfl dX6_fromDepot_17 ?_
  refine r_getO C dX6_fromDepot_18 fl_X6_13 rfl rfl (q_lt hs (by decide)) (sh_12_3 hs) ?_
  refine r_aload_n C rfl rfl dX6_fromDepot_21 ?_
  refine r_getO C dX6_fromDepot_22 fl_X6_66 rfl rfl (q_lt hs (by decide)) (sh_12_25 hs) ?_
  refine r_iload_n C rfl dX6_fromDepot_25 ?_
  refine r_iald C (a) (by have t := ha; omega) (by have t := g.2.1; omega) dX6_fromDepot_26 rfl (q_lt hs (by decide)) ?_
  refine r_iald C ((ll.getD a 0)) (g.2.2.2.2 a ham).1 (g.2.2.2.2 a ham).2.1 dX6_fromDepot_27 rfl (q_lt hs (by decide)) ?_
  refine r_bipush C 25 rfl dX6_fromDepot_28 ?_
  refine r_isub C dX6_fromDepot_30 ?_
  refine r_callS C (sp_size G _) ks_X6_size kn_X6_size rfl dX6_fromDepot_31 cl_X6_153 ⟨Nat.le_of_ble_eq_true rfl, Nat.le_of_ble_eq_true rfl⟩ (Nat.le_refl _) rfl (Nat.le_of_ble_eq_true rfl) ?_
  refine r_iadd C dX6_fromDepot_34 ?_
  exact r_iret C dX6_fromDepot_35 rfl (Nat.le_refl _) rfl rfl

set_option maxHeartbeats 4000000 in
set_option maxRecDepth 100000 in
theorem sp_bw (G : oG) {h : oH} (hs : oSh h) {mm : Nat} {ll : List Nat} {X Y : Nat → Int} (g : gM h mm ll X Y) (u v : Int32) {a b : Nat} (ha : u.toInt = (a : Int)) (ham : a < mm) (hb : v.toInt = (b : Int)) (hbm : b < mm) : oSp G mX6_between [.ref 12, .int u, .int v] h (some (.int (bwE h ll a b))) h := by
  refine oSp.intro [some (.ref 12), some (.int u), some (.int v)] rfl (Nat.le_of_ble_eq_true rfl) (plainFor_of_name (by decide +kernel)) (Nat.le_refl _) ?_
  intro p l e R s m args below meth c C
  refine r_aload_n C rfl rfl dX6_between_0 ?_
  refine r_getO C dX6_between_1 fl_X6_7 rfl rfl (q_lt hs (by decide)) (sh_12_2 hs) ?_
  refine r_aload_n C rfl rfl dX6_between_4 ?_
  refine r_getO C dX6_between_5 fl_X6_66 rfl rfl (q_lt hs (by decide)) (sh_12_25 hs) ?_
  refine r_iload_n C rfl dX6_between_8 ?_
  refine r_iald C (a) (by have t := ha; omega) (by have t := g.2.1; omega) dX6_between_9 rfl (q_lt hs (by decide)) ?_
  refine r_iald C ((ll.getD a 0)) (g.2.2.2.2 a ham).1 (g.2.2.2.2 a ham).2.1 dX6_between_10 rfl (q_lt hs (by decide)) ?_
  refine r_aload_n C rfl rfl dX6_between_11 ?_
  refine r_getO C dX6_between_12 fl_X6_7 rfl rfl (q_lt hs (by decide)) (sh_12_2 hs) ?_
  refine r_aload_n C rfl rfl dX6_between_15 ?_
  refine r_getO C dX6_between_16 fl_X6_66 rfl rfl (q_lt hs (by decide)) (sh_12_25 hs) ?_
  refine r_iload_n C rfl dX6_between_19 ?_
  refine r_iald C (b) (by have t := hb; omega) (by have t := g.2.1; omega) dX6_between_20 rfl (q_lt hs (by decide)) ?_
  refine r_iald C ((ll.getD b 0)) (g.2.2.2.2 b hbm).1 (g.2.2.2.2 b hbm).2.1 dX6_between_21 rfl (q_lt hs (by decide)) ?_
  refine r_isub C dX6_between_22 ?_
  refine r_callS C (sp_size G _) ks_X6_size kn_X6_size rfl dX6_between_23 cl_X6_153 ⟨Nat.le_of_ble_eq_true rfl, Nat.le_of_ble_eq_true rfl⟩ (Nat.le_refl _) rfl (Nat.le_of_ble_eq_true rfl) ?_
  refine r_aload_n C rfl rfl dX6_between_26 ?_
  refine r_getO C dX6_between_27 fl_X6_13 rfl rfl (q_lt hs (by decide)) (sh_12_3 hs) ?_
  refine r_aload_n C rfl rfl dX6_between_30 ?_
  refine r_getO C dX6_between_31 fl_X6_66 rfl rfl (q_lt hs (by decide)) (sh_12_25 hs) ?_
  refine r_iload_n C rfl dX6_between_34 ?_
  refine r_iald C (a) (by have t := ha; omega) (by have t := g.2.1; omega) dX6_between_35 rfl (q_lt hs (by decide)) ?_
  refine r_iald C ((ll.getD a 0)) (g.2.2.2.2 a ham).1 (g.2.2.2.2 a ham).2.1 dX6_between_36 rfl (q_lt hs (by decide)) ?_
  refine r_aload_n C rfl rfl dX6_between_37 ?_
  refine r_getO C dX6_between_38 fl_X6_13 rfl rfl (q_lt hs (by decide)) (sh_12_3 hs) ?_
  refine r_aload_n C rfl rfl dX6_between_41 ?_
  refine r_getO C dX6_between_42 fl_X6_66 rfl rfl (q_lt hs (by decide)) (sh_12_25 hs) ?_
  refine r_iload_n C rfl dX6_between_45 ?_
  refine r_iald C (b) (by have t := hb; omega) (by have t := g.2.1; omega) dX6_between_46 rfl (q_lt hs (by decide)) ?_
  refine r_iald C ((ll.getD b 0)) (g.2.2.2.2 b hbm).1 (g.2.2.2.2 b hbm).2.1 dX6_between_47 rfl (q_lt hs (by decide)) ?_
  refine r_isub C dX6_between_48 ?_
  refine r_callS C (sp_size G _) ks_X6_size kn_X6_size rfl dX6_between_49 cl_X6_153 ⟨Nat.le_of_ble_eq_true rfl, Nat.le_of_ble_eq_true rfl⟩ (Nat.le_refl _) rfl (Nat.le_of_ble_eq_true rfl) ?_
  refine r_iadd C dX6_between_52 ?_
  exact r_iret C dX6_between_53 rfl (Nat.le_refl _) rfl rfl

def fkH (h : oH) (D : Nat → Nat → Int) (m q : Nat) : Nat → oH
  | 0 => h
  | i + 1 => sI (fkH h D m q i) 28 (8 * q + i) (oI (wy D m q i))
def fpH (h : oH) (D : Nat → Nat → Int) (m : Nat) : Nat → oH
  | 0 => h
  | q + 1 => fkH (fpH h D m q) D m q m
theorem fkH_n {h : oH} {D : Nat → Nat → Int} {m q : Nat} : ∀ i, (fkH h D m q i).1 = h.1
  | 0 => rfl
  | i + 1 => fkH_n (q := q) i
theorem fkH_R {h : oH} {D : Nat → Nat → Int} {m q a y : Nat} : ∀ i, hR (fkH h D m q i) a y = hR h a y
  | 0 => rfl
  | i + 1 => fkH_R (q := q) i
theorem fkH_J {h : oH} {D : Nat → Nat → Int} {m q a y : Nat} : ∀ i, hJ (fkH h D m q i) a y = hJ h a y
  | 0 => rfl
  | i + 1 => fkH_J (q := q) i
theorem fkH_o {h : oH} {D : Nat → Nat → Int} {m q a y : Nat} (c1 : a ≠ 28 ∨ y < 8 * q ∨ 8 * q + 8 ≤ y) : ∀ i, i ≤ 8 → hI (fkH h D m q i) a y = hI h a y
  | 0, _ => rfl
  | i + 1, hi => by
    unfold fkH
    rw [sI_ne (by omega)]
    exact fkH_o c1 i (by omega)
theorem fkH_7 {h : oH} {D : Nat → Nat → Int} {m q a : Nat} : ∀ i, a < i → hI (fkH h D m q i) 28 (8 * q + a) = oI (wy D m q a)
  | 0, c1 => absurd c1 (Nat.not_lt_zero a)
  | i + 1, c1 => by
    unfold fkH
    by_cases e : a = i
    · rw [e, sI_eq ⟨rfl, rfl⟩]
    · rw [sI_ne (by omega)]
      exact fkH_7 i (by omega)
theorem fpH_n {h : oH} {D : Nat → Nat → Int} {m : Nat} : ∀ q, (fpH h D m q).1 = h.1
  | 0 => rfl
  | q + 1 => (fkH_n m).trans (fpH_n q)
theorem fpH_R {h : oH} {D : Nat → Nat → Int} {m a y : Nat} : ∀ q, hR (fpH h D m q) a y = hR h a y
  | 0 => rfl
  | q + 1 => (fkH_R m).trans (fpH_R q)
theorem fpH_J {h : oH} {D : Nat → Nat → Int} {m a y : Nat} : ∀ q, hJ (fpH h D m q) a y = hJ h a y
  | 0 => rfl
  | q + 1 => (fkH_J m).trans (fpH_J q)
theorem fpH_o {h : oH} {D : Nat → Nat → Int} {m a y : Nat} (hm : m ≤ 8) (c1 : a ≠ 28) : ∀ q, hI (fpH h D m q) a y = hI h a y
  | 0 => rfl
  | q + 1 => (fkH_o (Or.inl c1) m hm).trans (fpH_o hm c1 q)
theorem fpH_7 {h : oH} {D : Nat → Nat → Int} {m r a : Nat} (hm : m ≤ 8) (c1 : a < m) : ∀ q, r < q → hI (fpH h D m q) 28 (8 * r + a) = oI (wy D m r a)
  | 0, c2 => absurd c2 (Nat.not_lt_zero r)
  | q + 1, c2 => by
    show hI (fkH (fpH h D m q) D m q m) 28 (8 * r + a) = _
    by_cases e : r = q
    · rw [← e]
      exact fkH_7 m c1
    · rw [fkH_o (by omega) m hm]
      exact fpH_7 hm c1 q (by omega)
def amT (h : oH) (D : Nat → Nat → Int) (m q : Nat) : Prop := ∀ r, r < q → ∀ a, a < m → (hI h 28 (8 * r + a)).toInt = wy D m r a
def lmT (h : oH) (D : Nat → Nat → Int) (m q : Nat) : Prop := ∀ j, j < m → q.testBit j = true → (hI h 28 (8 * (q - 2 ^ j) + j)).toInt = wy D m (q - 2 ^ j) j
theorem amT.ls {h : oH} {D : Nat → Nat → Int} {m q r : Nat} (t : amT h D m q) (hr : r ≤ q) : lmT h D m r := fun j hj hb => by
  have h1 := tB_le hb
  have h2 := pw_pos j
  exact t (r - 2 ^ j) (by omega) j hj
theorem fpH_am {h : oH} {X Y : Nat → Int} {m q : Nat} (hm : m ≤ 8) (hB : xyB X Y) (hq : q ≤ 256) : amT (fpH h (dXY X Y) m q) (dXY X Y) m q := fun r hr a ha => by
  have hb := wy_b (m := m) (left := r) (k := a) (dXY_b hB) (by omega)
  rw [fpH_7 hm ha q hr, oI_t (by omega)]
theorem lm_fk {h : oH} {D : Nat → Nat → Int} {m q i : Nat} (hi : i ≤ 8) (hm : m ≤ 8) (t : lmT h D m q) : lmT (fkH h D m q i) D m q := fun j hj hb => by
  have h1 := tB_le hb
  have h2 := pw_pos j
  rw [fkH_o (by omega) i hi]
  exact t j hj hb
theorem gM_fk {h : oH} {D : Nat → Nat → Int} {m q i : Nat} {ll : List Nat} {X Y : Nat → Int} (hi : i ≤ 8) (g : gM h m ll X Y) : gM (fkH h D m q i) m ll X Y := g.fr (fun a k ha => fkH_o (by omega) i hi)
theorem gM_fp {h : oH} {D : Nat → Nat → Int} {m q : Nat} {ll : List Nat} {X Y : Nat → Int} (g : gM h m ll X Y) : gM (fpH h D m q) m ll X Y := g.fr (fun a k ha => fpH_o g.2.1 (by omega) q)
theorem sh_fk {h : oH} {D : Nat → Nat → Int} {m q i : Nat} (hs : oSh h) : oSh (fkH h D m q i) := ⟨by rw [fkH_n]; exact hs.1, fun r hr => by rw [fkH_R]; exact hs.2 r hr⟩
theorem sh_fp {h : oH} {D : Nat → Nat → Int} {m q : Nat} (hs : oSh h) : oSh (fpH h D m q) := ⟨by rw [fpH_n]; exact hs.1, fun r hr => by rw [fpH_R]; exact hs.2 r hr⟩
theorem wF_t {h : oH} (hs : oSh h) {mm : Nat} {ll : List Nat} {X Y : Nat → Int} (g : gM h mm ll X Y) {a j q : Nat} (hj : j < mm) (hq : q < 256) (hb : q.testBit j = true) (t : lmT h (dXY X Y) mm q) {z : Int32} (hz : z.toInt = dXY X Y a j) : (z + hI h 28 (8 * (q - 2 ^ j) + j)).toInt = wF (dXY X Y) mm q a j := by
  have h2 := t j hj hb
  have h3 := wF_b (m := mm) (left := q) (k := a) (j := j) (dXY_b g.2.2.1) hq
  unfold wF at *
  exact tA hz h2 (by omega)
set_option maxHeartbeats 4000000 in
set_option maxRecDepth 100000 in
theorem lp_fj (G : oG) {p : Program} {l : Launch} {e : Env} {R : Room} {s : State} {m : MethodId} {args : Array Value} {below : List Frame} {meth : Method} {c : Code} {n0 nF : Nat} {Z : State → Prop} {h : oH} (hs : oSh h) {mm : Nat} {ll : List Nat} {X Y : Nat → Int} (g : gM h mm ll X Y) {q a : Nat} (hq : q < 2 ^ mm) (ham : a < mm) {x1 x2 : Int32} (h1 : x1.toInt = (q : Int)) (h2 : x2.toInt = (a : Int)) (ht : lmT h (dXY X Y) mm q) (C : oC G mX6_findWays n0 nF p l R s m args meth c) (hF : h.1 ≤ nF) {init : Int} (hin : init = if q = 0 then dXY X Y a 8 else -1000000) (kont : ∀ x3 x4 t5, msT (mnO (wF (dXY X Y) mm q a) (fun j => q.testBit j) mm) init x3 → oS G mX6_findWays p l e R s m args below meth c (Z) n0 113 [some (.ref 12), some (.int x1), some (.int x2), some (.int x3), some (.int x4), t5] [] h) : ∀ (k j : Nat) (x3 x4 : Int32) (t5 : Option Value), j + k = mm → x4.toInt = (j : Int) → msT (mnO (wF (dXY X Y) mm q a) (fun j => q.testBit j) j) init x3 → oS G mX6_findWays p l e R s m args below meth c (Z) n0 40 [some (.ref 12), some (.int x1), some (.int x2), some (.int x3), some (.int x4), t5] [] h := by
  have g8 := g.2.1
  have q8 := p256 g8 hq
  intro k
  induction k with
  | zero =>
    intro j x3 x4 t5 hjk h4 hm
    have hjm : j = mm := by omega
    subst hjm
    refine r_iload C rfl dX6_findWays_40 ?_
    refine r_aload_n C rfl rfl dX6_findWays_42 ?_
    refine r_getI C dX6_findWays_43 fl_X6_150 rfl (q_lt hs (by decide)) ?_
    refine t_icmp_ge C 113 (by decide) h4 g.1 dX6_findWays_46 (fun c46 => ?_) (fun c46 => absurd c46 (by omega))
    exact kont _ _ _ hm
  | succ k ih =>
    intro j x3 x4 t5 hjk h4 hm
    have hj : j < mm := by omega
    by_cases hbt : q.testBit j = true
    · have hz : q ≠ 0 := fun z => by rw [z, Nat.zero_testBit] at hbt; exact absurd hbt (by decide)
      have hw := wF_b (m := mm) (left := q) (k := a) (j := j) (dXY_b g.2.2.1) q8
      have hle := Nat.sub_le q (2 ^ j)
      have hv := wF_t hs g (a := a) hj q8 hbt ht (bwE_t hs g ham hj)
      rw [if_neg hz] at hin
      cases r : mnO (wF (dXY X Y) mm q a) (fun j => q.testBit j) j with
      | none =>
        rw [r] at hm
        have hx3 : x3.toInt = -1000000 := Eq.trans hm hin
        refine r_iload C rfl dX6_findWays_40 ?_
        refine r_aload_n C rfl rfl dX6_findWays_42 ?_
        refine r_getI C dX6_findWays_43 fl_X6_150 rfl (q_lt hs (by decide)) ?_
        refine t_icmp_ge C 113 (by decide) h4 g.1 dX6_findWays_46 (fun c46 => absurd c46 (by omega)) (fun c46 => ?_)
        refine r_iload_n C rfl dX6_findWays_49 ?_
        refine r_iload C rfl dX6_findWays_50 ?_
        refine r_ishr C dX6_findWays_52 ?_
        refine r_iconstv C 1 rfl dX6_findWays_53 ?_
        refine r_iand C dX6_findWays_54 ?_
        refine r_iconstv C 1 rfl dX6_findWays_55 ?_
        refine t_icmp_ne C 107 (by decide) rfl (show (1 : Int32).toInt = 1 from rfl) dX6_findWays_56 (fun c56 => absurd (by rw [tBit h1 h4 (by omega), if_pos hbt]) c56) (fun c56 => ?_)
        refine r_aload_n C rfl rfl dX6_findWays_59 ?_
        refine r_iload_n C rfl dX6_findWays_60 ?_
        refine r_iload C rfl dX6_findWays_61 ?_
        refine r_callV C (sp_bw G hs g _ _ h2 ham h4 hj) kv_X6_between kn_X6_between rfl dX6_findWays_63 cl_X6_159 ⟨Nat.le_of_ble_eq_true rfl, Nat.le_of_ble_eq_true rfl⟩ (by decide) rfl rfl (q_lt hs (by decide)) hF rfl (Nat.le_of_ble_eq_true rfl) ?_
        refine r_aload_n C rfl rfl dX6_findWays_66 ?_
        refine r_getO C dX6_findWays_67 fl_X6_69 rfl rfl (q_lt hs (by decide)) (sh_12_27 hs) ?_
        refine r_bipush C 8 rfl dX6_findWays_70 ?_
        refine r_iload_n C rfl dX6_findWays_72 ?_
        refine r_iconstv C 1 rfl dX6_findWays_73 ?_
        refine r_iload C rfl dX6_findWays_74 ?_
        refine r_ishl C dX6_findWays_76 ?_
        refine r_iconstv C (-1) rfl dX6_findWays_77 ?_
        refine r_ixor C dX6_findWays_78 ?_
        refine r_iand C dX6_findWays_79 ?_
        refine r_imul C dX6_findWays_80 ?_
        refine r_iload C rfl dX6_findWays_81 ?_
        refine r_iadd C dX6_findWays_83 ?_
        refine r_iald C ((8 * (q - 2 ^ j) + j)) (by have e1 := tClr h1 h4 (by omega) hbt; have e2 := tM (show (8 : Int32).toInt = 8 from rfl) e1 (by omega); have e3 := tA e2 h4 (by omega); rw [e3]; omega) (by omega) dX6_findWays_84 rfl (q_lt hs (by decide)) ?_
        refine r_iadd C dX6_findWays_85 ?_
        refine r_istore C rfl (Nat.le_of_ble_eq_true rfl) dX6_findWays_86 ?_
        refine r_iload_n C rfl dX6_findWays_88 ?_
        refine r_ldc C _ lc_X6_145 dX6_findWays_89 ?_
        refine t_icmp_eq C 100 (by decide) hx3 (show ((-1000000) : Int32).toInt = (-1000000) from rfl) dX6_findWays_91 (fun c91 => ?_) (fun c91 => absurd rfl c91)
        refine r_iload C rfl dX6_findWays_100 ?_
        refine r_goto C 106 (by decide) dX6_findWays_102 ?_
        refine r_istore_n C rfl (Nat.le_of_ble_eq_true rfl) dX6_findWays_106 ?_
        refine r_iinc C rfl rfl (Nat.le_of_ble_eq_true rfl) dX6_findWays_107 ?_
        refine r_goto C 40 (by decide) dX6_findWays_110 ?_
        exact ih (j + 1) _ _ _ (by omega) (by have t := tA h4 (show (Int32.ofInt 1).toInt = 1 from rfl) (by omega); omega) (by rw [mnO_1 (P := fun j => q.testBit j) hbt r]; exact hv)
      | some b =>
        rw [r] at hm
        have hx3 : x3.toInt = b := hm
        have hbb := mnO_b (lo := 0) (hi := 25700) j (fun j2 hj2 _ => wF_b (m := mm) (left := q) (k := a) (j := j2) (dXY_b g.2.2.1) q8) b r
        refine r_iload C rfl dX6_findWays_40 ?_
        refine r_aload_n C rfl rfl dX6_findWays_42 ?_
        refine r_getI C dX6_findWays_43 fl_X6_150 rfl (q_lt hs (by decide)) ?_
        refine t_icmp_ge C 113 (by decide) h4 g.1 dX6_findWays_46 (fun c46 => absurd c46 (by omega)) (fun c46 => ?_)
        refine r_iload_n C rfl dX6_findWays_49 ?_
        refine r_iload C rfl dX6_findWays_50 ?_
        refine r_ishr C dX6_findWays_52 ?_
        refine r_iconstv C 1 rfl dX6_findWays_53 ?_
        refine r_iand C dX6_findWays_54 ?_
        refine r_iconstv C 1 rfl dX6_findWays_55 ?_
        refine t_icmp_ne C 107 (by decide) rfl (show (1 : Int32).toInt = 1 from rfl) dX6_findWays_56 (fun c56 => absurd (by rw [tBit h1 h4 (by omega), if_pos hbt]) c56) (fun c56 => ?_)
        refine r_aload_n C rfl rfl dX6_findWays_59 ?_
        refine r_iload_n C rfl dX6_findWays_60 ?_
        refine r_iload C rfl dX6_findWays_61 ?_
        refine r_callV C (sp_bw G hs g _ _ h2 ham h4 hj) kv_X6_between kn_X6_between rfl dX6_findWays_63 cl_X6_159 ⟨Nat.le_of_ble_eq_true rfl, Nat.le_of_ble_eq_true rfl⟩ (by decide) rfl rfl (q_lt hs (by decide)) hF rfl (Nat.le_of_ble_eq_true rfl) ?_
        refine r_aload_n C rfl rfl dX6_findWays_66 ?_
        refine r_getO C dX6_findWays_67 fl_X6_69 rfl rfl (q_lt hs (by decide)) (sh_12_27 hs) ?_
        refine r_bipush C 8 rfl dX6_findWays_70 ?_
        refine r_iload_n C rfl dX6_findWays_72 ?_
        refine r_iconstv C 1 rfl dX6_findWays_73 ?_
        refine r_iload C rfl dX6_findWays_74 ?_
        refine r_ishl C dX6_findWays_76 ?_
        refine r_iconstv C (-1) rfl dX6_findWays_77 ?_
        refine r_ixor C dX6_findWays_78 ?_
        refine r_iand C dX6_findWays_79 ?_
        refine r_imul C dX6_findWays_80 ?_
        refine r_iload C rfl dX6_findWays_81 ?_
        refine r_iadd C dX6_findWays_83 ?_
        refine r_iald C ((8 * (q - 2 ^ j) + j)) (by have e1 := tClr h1 h4 (by omega) hbt; have e2 := tM (show (8 : Int32).toInt = 8 from rfl) e1 (by omega); have e3 := tA e2 h4 (by omega); rw [e3]; omega) (by omega) dX6_findWays_84 rfl (q_lt hs (by decide)) ?_
        refine r_iadd C dX6_findWays_85 ?_
        refine r_istore C rfl (Nat.le_of_ble_eq_true rfl) dX6_findWays_86 ?_
        refine r_iload_n C rfl dX6_findWays_88 ?_
        refine r_ldc C _ lc_X6_145 dX6_findWays_89 ?_
        refine t_icmp_eq C 100 (by decide) hx3 (show ((-1000000) : Int32).toInt = (-1000000) from rfl) dX6_findWays_91 (fun c91 => absurd c91 (by omega)) (fun c91 => ?_)
        refine r_iload C rfl dX6_findWays_94 ?_
        refine r_iload_n C rfl dX6_findWays_96 ?_
        refine t_icmp_ge C 105 (by decide) rfl hx3 dX6_findWays_97 (fun c97 => ?_) (fun c97 => ?_)
        · refine r_iload_n C rfl dX6_findWays_105 ?_
          refine r_istore_n C rfl (Nat.le_of_ble_eq_true rfl) dX6_findWays_106 ?_
          refine r_iinc C rfl rfl (Nat.le_of_ble_eq_true rfl) dX6_findWays_107 ?_
          refine r_goto C 40 (by decide) dX6_findWays_110 ?_
          exact ih (j + 1) _ _ _ (by omega) (by have t := tA h4 (show (Int32.ofInt 1).toInt = 1 from rfl) (by omega); omega) (by rw [mnO_2 (P := fun j => q.testBit j) hbt r]; show Int32.toInt _ = min b _; omega)
        · refine r_iload C rfl dX6_findWays_100 ?_
          refine r_goto C 106 (by decide) dX6_findWays_102 ?_
          refine r_istore_n C rfl (Nat.le_of_ble_eq_true rfl) dX6_findWays_106 ?_
          refine r_iinc C rfl rfl (Nat.le_of_ble_eq_true rfl) dX6_findWays_107 ?_
          refine r_goto C 40 (by decide) dX6_findWays_110 ?_
          exact ih (j + 1) _ _ _ (by omega) (by have t := tA h4 (show (Int32.ofInt 1).toInt = 1 from rfl) (by omega); omega) (by rw [mnO_2 (P := fun j => q.testBit j) hbt r]; show Int32.toInt _ = min b _; omega)
    · refine r_iload C rfl dX6_findWays_40 ?_
      refine r_aload_n C rfl rfl dX6_findWays_42 ?_
      refine r_getI C dX6_findWays_43 fl_X6_150 rfl (q_lt hs (by decide)) ?_
      refine t_icmp_ge C 113 (by decide) h4 g.1 dX6_findWays_46 (fun c46 => absurd c46 (by omega)) (fun c46 => ?_)
      refine r_iload_n C rfl dX6_findWays_49 ?_
      refine r_iload C rfl dX6_findWays_50 ?_
      refine r_ishr C dX6_findWays_52 ?_
      refine r_iconstv C 1 rfl dX6_findWays_53 ?_
      refine r_iand C dX6_findWays_54 ?_
      refine r_iconstv C 1 rfl dX6_findWays_55 ?_
      refine t_icmp_ne C 107 (by decide) rfl (show (1 : Int32).toInt = 1 from rfl) dX6_findWays_56 (fun c56 => ?_) (fun c56 => absurd (bit_t h1 h4 (by omega) c56) hbt)
      refine r_iinc C rfl rfl (Nat.le_of_ble_eq_true rfl) dX6_findWays_107 ?_
      refine r_goto C 40 (by decide) dX6_findWays_110 ?_
      exact ih (j + 1) _ _ _ (by omega) (by have t := tA h4 (show (Int32.ofInt 1).toInt = 1 from rfl) (by omega); omega) (msT_0 (P := fun j => q.testBit j) hbt hm)

set_option maxHeartbeats 4000000 in
set_option maxRecDepth 100000 in
theorem lp_fk (G : oG) {p : Program} {l : Launch} {e : Env} {R : Room} {s : State} {m : MethodId} {args : Array Value} {below : List Frame} {meth : Method} {c : Code} {n0 nF : Nat} {Z : State → Prop} {h : oH} (hs0 : oSh h) {mm : Nat} {ll : List Nat} {X Y : Nat → Int} (g0 : gM h mm ll X Y) {q : Nat} (hq : q < 2 ^ mm) {x1 : Int32} (h1 : x1.toInt = (q : Int)) (ht0 : lmT h (dXY X Y) mm q) (C : oC G mX6_findWays n0 nF p l R s m args meth c) (hF0 : h.1 ≤ nF) (kont : ∀ t2 t3 t4 t5, oS G mX6_findWays p l e R s m args below meth c (Z) n0 131 [some (.ref 12), some (.int x1), t2, t3, t4, t5] [] (fkH h (dXY X Y) mm q mm)) : ∀ (k i : Nat) (x2 : Int32) (t3 t4 t5 : Option Value), i + k = mm → x2.toInt = (i : Int) → oS G mX6_findWays p l e R s m args below meth c (Z) n0 14 [some (.ref 12), some (.int x1), some (.int x2), t3, t4, t5] [] (fkH h (dXY X Y) mm q i) := by
  have g8 := g0.2.1
  have q8 := p256 g8 hq
  intro k
  induction k with
  | zero =>
    intro i x2 t3 t4 t5 hik h2
    have him : i = mm := by omega
    subst him
    have hs := sh_fk (D := dXY X Y) (m := i) (q := q) (i := i) hs0
    have g := gM_fk (D := dXY X Y) (q := q) (i := i) g8 g0
    refine r_iload_n C rfl dX6_findWays_14 ?_
    refine r_aload_n C rfl rfl dX6_findWays_15 ?_
    refine r_getI C dX6_findWays_16 fl_X6_150 rfl (q_lt hs (by decide)) ?_
    refine t_icmp_ge C 131 (by decide) h2 g.1 dX6_findWays_19 (fun c19 => ?_) (fun c19 => absurd c19 (by omega))
    exact kont _ _ _ _
  | succ k ih =>
    intro i x2 t3 t4 t5 hik h2
    have hi : i < mm := by omega
    have hs := sh_fk (D := dXY X Y) (m := mm) (q := q) (i := i) hs0
    have g := gM_fk (D := dXY X Y) (q := q) (i := i) (by omega) g0
    have ht := lm_fk (i := i) (by omega) g8 ht0
    have hF : (fkH h (dXY X Y) mm q i).1 ≤ nF := by rw [fkH_n]; exact hF0
    have kk : ∀ (x3 x4 : Int32) (t5 : Option Value), msT (mnO (wF (dXY X Y) mm q i) (fun j => q.testBit j) mm) (if q = 0 then dXY X Y i 8 else -1000000) x3 → oS G mX6_findWays p l e R s m args below meth c (Z) n0 113 [some (.ref 12), some (.int x1), some (.int x2), some (.int x3), some (.int x4), t5] [] (fkH h (dXY X Y) mm q i) := fun x3 x4 t5 hm => by
      have hy : x3 = oI (wy (dXY X Y) mm q i) := by
        refine oI_e ?_
        by_cases z : q = 0
        · subst z
          rw [mnO_z] at hm
          have q2 : x3.toInt = if (0 : Nat) = 0 then dXY X Y i 8 else -1000000 := hm
          rw [if_pos rfl] at q2
          rw [q2, wy_0]
        · rw [wy_s z]
          rcases muO (F := wF (dXY X Y) mm q i) (P := fun j => q.testBit j) mm with ⟨-, -, q3⟩ | ⟨b, -, q2, -⟩
          · obtain ⟨j, hj, q4⟩ := has_bit z hq
            exact absurd q4 (q3 j hj)
          · rw [q2] at hm ⊢
            exact hm
      refine r_aload_n C rfl rfl dX6_findWays_113 ?_
      refine r_getO C dX6_findWays_114 fl_X6_69 rfl rfl (q_lt hs (by decide)) (sh_12_27 hs) ?_
      refine r_bipush C 8 rfl dX6_findWays_117 ?_
      refine r_iload_n C rfl dX6_findWays_119 ?_
      refine r_imul C dX6_findWays_120 ?_
      refine r_iload_n C rfl dX6_findWays_121 ?_
      refine r_iadd C dX6_findWays_122 ?_
      refine r_iload_n C rfl dX6_findWays_123 ?_
      refine r_iast C ((8 * q + i)) (by have e2 := tM (show (8 : Int32).toInt = 8 from rfl) h1 (by omega); have e3 := tA e2 h2 (by omega); rw [e3]; omega) (by omega) dX6_findWays_124 rfl (q_lt hs (by decide)) ?_
      refine r_iinc C rfl rfl (Nat.le_of_ble_eq_true rfl) dX6_findWays_125 ?_
      refine r_goto C 14 (by decide) dX6_findWays_128 ?_
      exact oS_h (h2 := fkH h (dXY X Y) mm q (i + 1)) (by rw [hy]; rfl) (ih (i + 1) _ _ _ _ (by omega) (by have t := tA h2 (show (Int32.ofInt 1).toInt = 1 from rfl) (by omega); omega))
    by_cases z : q = 0
    · refine r_iload_n C rfl dX6_findWays_14 ?_
      refine r_aload_n C rfl rfl dX6_findWays_15 ?_
      refine r_getI C dX6_findWays_16 fl_X6_150 rfl (q_lt hs (by decide)) ?_
      refine t_icmp_ge C 131 (by decide) h2 g.1 dX6_findWays_19 (fun c19 => absurd c19 (by omega)) (fun c19 => ?_)
      refine r_iload_n C rfl dX6_findWays_22 ?_
      refine t_if_ne C 34 (by decide) h1 dX6_findWays_23 (fun c23 => absurd c23 (by omega)) (fun c23 => ?_)
      refine r_aload_n C rfl rfl dX6_findWays_26 ?_
      refine r_iload_n C rfl dX6_findWays_27 ?_
      refine r_callV C (sp_fd G hs g _ h2 hi) kv_X6_fromDepot kn_X6_fromDepot rfl dX6_findWays_28 cl_X6_156 ⟨Nat.le_of_ble_eq_true rfl, Nat.le_of_ble_eq_true rfl⟩ (by decide) rfl rfl (q_lt hs (by decide)) hF rfl (Nat.le_of_ble_eq_true rfl) ?_
      refine r_goto C 36 (by decide) dX6_findWays_31 ?_
      refine r_istore_n C rfl (Nat.le_of_ble_eq_true rfl) dX6_findWays_36 ?_
      refine r_iconstv C 0 rfl dX6_findWays_37 ?_
      refine r_istore C rfl (Nat.le_of_ble_eq_true rfl) dX6_findWays_38 ?_
      exact lp_fj G hs g hq hi h1 h2 ht C hF (if_pos z).symm (by intro x3 x4 t5 hm; exact kk x3 x4 t5 (by rw [if_pos z]; exact hm)) mm 0 _ _ _ (by omega) rfl (fdE_t hs g hi)
    · refine r_iload_n C rfl dX6_findWays_14 ?_
      refine r_aload_n C rfl rfl dX6_findWays_15 ?_
      refine r_getI C dX6_findWays_16 fl_X6_150 rfl (q_lt hs (by decide)) ?_
      refine t_icmp_ge C 131 (by decide) h2 g.1 dX6_findWays_19 (fun c19 => absurd c19 (by omega)) (fun c19 => ?_)
      refine r_iload_n C rfl dX6_findWays_22 ?_
      refine t_if_ne C 34 (by decide) h1 dX6_findWays_23 (fun c23 => ?_) (fun c23 => absurd (by omega) z)
      refine r_ldc C _ lc_X6_145 dX6_findWays_34 ?_
      refine r_istore_n C rfl (Nat.le_of_ble_eq_true rfl) dX6_findWays_36 ?_
      refine r_iconstv C 0 rfl dX6_findWays_37 ?_
      refine r_istore C rfl (Nat.le_of_ble_eq_true rfl) dX6_findWays_38 ?_
      exact lp_fj G hs g hq hi h1 h2 ht C hF (if_neg z).symm (by intro x3 x4 t5 hm; exact kk x3 x4 t5 (by rw [if_neg z]; exact hm)) mm 0 _ _ _ (by omega) rfl (by show _ = _; rfl)

set_option maxHeartbeats 4000000 in
set_option maxRecDepth 100000 in
theorem lp_fp (G : oG) {p : Program} {l : Launch} {e : Env} {R : Room} {s : State} {m : MethodId} {args : Array Value} {below : List Frame} {meth : Method} {c : Code} {n0 nF : Nat} {h : oH} (hs0 : oSh h) {mm : Nat} {ll : List Nat} {X Y : Nat → Int} (g0 : gM h mm ll X Y) (C : oC G mX6_findWays n0 nF p l R s m args meth c) (hF0 : h.1 ≤ nF) : ∀ (k i : Nat) (x1 : Int32) (t2 t3 t4 t5 : Option Value), i + k = 2 ^ mm → x1.toInt = (i : Int) → oS G mX6_findWays p l e R s m args below meth c (oZ G below args s n0 nF none (fpH h (dXY X Y) mm (2 ^ mm))) n0 2 [some (.ref 12), some (.int x1), t2, t3, t4, t5] [] (fpH h (dXY X Y) mm i) := by
  have g8 := g0.2.1
  have p8 : 2 ^ mm ≤ 256 := Nat.pow_le_pow_right (n := 2) (by decide) g8
  intro k
  induction k with
  | zero =>
    intro i x1 t2 t3 t4 t5 hik h1
    have him : i = 2 ^ mm := by omega
    subst him
    have hs := sh_fp (D := dXY X Y) (m := mm) (q := 2 ^ mm) hs0
    have g := gM_fp (D := dXY X Y) (q := 2 ^ mm) g0
    have hsh := tShl g.1 (by omega)
    have hF : (fpH h (dXY X Y) mm (2 ^ mm)).1 ≤ nF := by rw [fpH_n]; exact hF0
    refine r_iload_n C rfl dX6_findWays_2 ?_
    refine r_iconstv C 1 rfl dX6_findWays_3 ?_
    refine r_aload_n C rfl rfl dX6_findWays_4 ?_
    refine r_getI C dX6_findWays_5 fl_X6_150 rfl (q_lt hs (by decide)) ?_
    refine r_ishl C dX6_findWays_8 ?_
    refine t_icmp_ge C 137 (by decide) rfl rfl dX6_findWays_9 (fun c9 => ?_) (fun c9 => absurd c9 (by omega))
    exact r_vret C dX6_findWays_137 rfl hF rfl
  | succ k ih =>
    intro i x1 t2 t3 t4 t5 hik h1
    have hi : i < 2 ^ mm := by omega
    have hs := sh_fp (D := dXY X Y) (m := mm) (q := i) hs0
    have g := gM_fp (D := dXY X Y) (q := i) g0
    have hsh := tShl g.1 (by omega)
    have ht := (fpH_am (h := h) g8 g.2.2.1 (show i ≤ 256 by omega)).ls (Nat.le_refl i)
    have hF : (fpH h (dXY X Y) mm i).1 ≤ nF := by rw [fpH_n]; exact hF0
    refine r_iload_n C rfl dX6_findWays_2 ?_
    refine r_iconstv C 1 rfl dX6_findWays_3 ?_
    refine r_aload_n C rfl rfl dX6_findWays_4 ?_
    refine r_getI C dX6_findWays_5 fl_X6_150 rfl (q_lt hs (by decide)) ?_
    refine r_ishl C dX6_findWays_8 ?_
    refine t_icmp_ge C 137 (by decide) rfl rfl dX6_findWays_9 (fun c9 => absurd c9 (by omega)) (fun c9 => ?_)
    refine r_iconstv C 0 rfl dX6_findWays_12 ?_
    refine r_istore_n C rfl (Nat.le_of_ble_eq_true rfl) dX6_findWays_13 ?_
    refine lp_fk G hs g hi h1 ht C hF (fun t2 t3 t4 t5 => ?_) mm 0 _ _ _ _ (by omega) rfl
    refine r_iinc C rfl rfl (Nat.le_of_ble_eq_true rfl) dX6_findWays_131 ?_
    refine r_goto C 2 (by decide) dX6_findWays_134 ?_
    exact ih (i + 1) _ _ _ _ _ (by omega) (by have t := tA h1 (show (Int32.ofInt 1).toInt = 1 from rfl) (by omega); omega)

set_option maxHeartbeats 4000000 in
set_option maxRecDepth 100000 in
theorem sp_fw (G : oG) {h : oH} (hs : oSh h) {mm : Nat} {ll : List Nat} {X Y : Nat → Int} (g : gM h mm ll X Y) : oSp G mX6_findWays [.ref 12] h none (fpH h (dXY X Y) mm (2 ^ mm)) := by
  refine oSp.intro [some (.ref 12), none, none, none, none, none] rfl (Nat.le_of_ble_eq_true rfl) (plainFor_of_name (by decide +kernel)) (by rw [fpH_n]; exact Nat.le_refl _) ?_
  intro p l e R s m args below meth c C
  refine r_iconstv C 0 rfl dX6_findWays_0 ?_
  refine r_istore_n C rfl (Nat.le_of_ble_eq_true rfl) dX6_findWays_1 ?_
  exact lp_fp G hs g C (by rw [fpH_n]; exact Nat.le_refl _) (2 ^ mm) 0 _ _ _ _ _ (by omega) rfl

