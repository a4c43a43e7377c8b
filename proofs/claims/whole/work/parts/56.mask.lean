/-! what the reference asks of a token -/
def oL6 (x : Int) : Int64 := Int64.ofInt x
theorem oL6_e {x : Int64} {i : Int} (h : x.toInt = i) : x = oL6 i := by
  rw [← h]
  exact (Int64.ofInt_toInt x).symm
theorem oL6_t {i : Int} (h : -9223372036854775808 ≤ i ∧ i < 9223372036854775808) : (oL6 i).toInt = i := by
  unfold oL6
  rw [Int64.toInt_ofInt]
  show Int.bmod i 18446744073709551616 = i
  exact Int.bmod_eq_of_le (by omega) (by omega)
set_option maxHeartbeats 4000000 in
set_option maxRecDepth 100000 in
theorem lp_na (G : oG) {p : Program} {l : Launch} {e : Env} {R : Room} {s : State} {m : MethodId} {args : Array Value} {below : List Frame} {meth : Method} {c : Code} {n0 nF : Nat} {h : oH} (hs : oSh h) {z : Nat} {T : Nat → Int} (tp : tpM h z T) {st en : Nat} (h4 : (hI h 12 34).toInt = (st : Int)) (h5 : (hI h 12 35).toInt = (en : Int)) (hse : st ≤ en) (hez : en ≤ z) {sr : Nat} (h3 : (hI h 12 33).toInt = (sr : Int)) (hr : sr = 2) (h6 : en ≤ st + 6) (C : oC G mX6_name n0 nF p l R s m args meth c) (hF : h.1 ≤ nF) : ∀ (k i : Nat) (v : Int64) (x : Int32), st + i + k = en → x.toInt = ((st + i : Nat) : Int) → v.toInt = nw256 T st i → oS G mX6_name p l e R s m args below meth c (oZ G below args s n0 nF (some (.long (oL6 (nw256 T st (en - st))))) h) n0 7 [some (.ref 12), some (.long v), none, some (.int x)] [] h := by
  have z3 := tp.2.1
  intro k
  induction k with
  | zero =>
    intro i v x hik hx hv
    have hi : en - st = i := by omega
    refine r_iload_n C rfl dX6_name_7 ?_
    refine r_aload_n C rfl rfl dX6_name_8 ?_
    refine r_getI C dX6_name_9 fl_X6_227 rfl (q_lt hs (by decide)) ?_
    refine t_icmp_ge C 42 (by decide) hx h5 dX6_name_12 (fun c12 => ?_) (fun c12 => absurd c12 (by omega))
    refine r_lload_n C rfl dX6_name_42 ?_
    exact r_lret C dX6_name_43 rfl hF (by rw [hi, oL6_e hv]) rfl
  | succ k ih =>
    intro i v x hik hx hv
    have hT := tp.2.2 (st + i) (by omega)
    have hb := nw_b (T := T) (s := st) i (fun j hj => (tp.2.2 (st + j) (by omega)).2)
    have hp := p256i i (by omega)
    refine r_iload_n C rfl dX6_name_7 ?_
    refine r_aload_n C rfl rfl dX6_name_8 ?_
    refine r_getI C dX6_name_9 fl_X6_227 rfl (q_lt hs (by decide)) ?_
    refine t_icmp_ge C 42 (by decide) hx h5 dX6_name_12 (fun c12 => absurd c12 (by omega)) (fun c12 => ?_)
    refine r_aload_n C rfl rfl dX6_name_15 ?_
    refine r_getI C dX6_name_16 fl_X6_218 rfl (q_lt hs (by decide)) ?_
    refine r_iconstv C 2 rfl dX6_name_19 ?_
    refine t_icmp_ne C 42 (by decide) h3 (show (2 : Int32).toInt = 2 from rfl) dX6_name_20 (fun c20 => absurd c20 (by omega)) (fun c20 => ?_)
    refine r_lload_n C rfl dX6_name_23 ?_
    refine r_bipush C 8 rfl dX6_name_24 ?_
    refine r_lshl C dX6_name_26 ?_
    refine r_aload_n C rfl rfl dX6_name_27 ?_
    refine r_getO C dX6_name_28 fl_X6_72 rfl rfl (q_lt hs (by decide)) (sh_12_28 hs) ?_
    refine r_iload_n C rfl dX6_name_31 ?_
    refine r_iald C ((st + i)) hx (by omega) dX6_name_32 rfl (q_lt hs (by decide)) ?_
    refine r_i2l C dX6_name_33 ?_
    refine r_lor C dX6_name_34 ?_
    refine r_lstore_n C rfl (Nat.le_of_ble_eq_true rfl) dX6_name_35 ?_
    refine r_iinc C rfl rfl (Nat.le_of_ble_eq_true rfl) dX6_name_36 ?_
    refine r_goto C 7 (by decide) dX6_name_39 ?_
    exact ih (i + 1) _ _ (by omega) (by have t := tA hx (show (Int32.ofInt 1).toInt = 1 from rfl) (by omega); omega) (tNmI hv hT.1 (by omega) (by omega))

set_option maxHeartbeats 4000000 in
set_option maxRecDepth 100000 in
theorem sp_na (G : oG) {h : oH} (hs : oSh h) {z : Nat} {T : Nat → Int} (tp : tpM h z T) {st en : Nat} (h4 : (hI h 12 34).toInt = (st : Int)) (h5 : (hI h 12 35).toInt = (en : Int)) (hse : st ≤ en) (hez : en ≤ z) {sr : Nat} (h3 : (hI h 12 33).toInt = (sr : Int)) (hr : sr = 2) (h6 : en ≤ st + 6) : oSp G mX6_name [.ref 12] h (some (.long (oL6 (nw256 T st (en - st))))) h := by
  refine oSp.intro [some (.ref 12), none, none, none] rfl (Nat.le_of_ble_eq_true rfl) (plainFor_of_name (by decide +kernel)) (Nat.le_refl _) ?_
  intro p l e R s m args below meth c C
  refine r_lconst C 0 rfl dX6_name_0 ?_
  refine r_lstore_n C rfl (Nat.le_of_ble_eq_true rfl) dX6_name_1 ?_
  refine r_aload_n C rfl rfl dX6_name_2 ?_
  refine r_getI C dX6_name_3 fl_X6_215 rfl (q_lt hs (by decide)) ?_
  refine r_istore_n C rfl (Nat.le_of_ble_eq_true rfl) dX6_name_6 ?_
  exact lp_na G hs tp h4 h5 hse hez h3 hr h6 C (Nat.le_refl _) (en - st) 0 _ _ (by omega) h4 rfl

set_option maxHeartbeats 4000000 in
set_option maxRecDepth 100000 in
theorem sp_na0 (G : oG) {h : oH} (hs : oSh h) {z : Nat} {T : Nat → Int} (tp : tpM h z T) {st en : Nat} (h4 : (hI h 12 34).toInt = (st : Int)) (h5 : (hI h 12 35).toInt = (en : Int)) (hse : st ≤ en) (hez : en ≤ z) {sr : Nat} (h3 : (hI h 12 33).toInt = (sr : Int)) (hr : sr ≠ 2) : oSp G mX6_name [.ref 12] h (some (.long 0)) h := by
  refine oSp.intro [some (.ref 12), none, none, none] rfl (Nat.le_of_ble_eq_true rfl) (plainFor_of_name (by decide +kernel)) (Nat.le_refl _) ?_
  intro p l e R s m args below meth c C
  refine r_lconst C 0 rfl dX6_name_0 ?_
  refine r_lstore_n C rfl (Nat.le_of_ble_eq_true rfl) dX6_name_1 ?_
  refine r_aload_n C rfl rfl dX6_name_2 ?_
  refine r_getI C dX6_name_3 fl_X6_215 rfl (q_lt hs (by decide)) ?_
  refine r_istore_n C rfl (Nat.le_of_ble_eq_true rfl) dX6_name_6 ?_
  refine r_iload_n C rfl dX6_name_7 ?_
  refine r_aload_n C rfl rfl dX6_name_8 ?_
  refine r_getI C dX6_name_9 fl_X6_227 rfl (q_lt hs (by decide)) ?_
  refine t_icmp_ge C 42 (by decide) h4 h5 dX6_name_12 (fun c12 => ?_) (fun c12 => ?_)
  · first
    | (exfalso; omega)
    |  (refine r_lload_n C rfl dX6_name_42 ?_
        exact r_lret C dX6_name_43 rfl (Nat.le_refl _) rfl rfl)
  · first
    | (exfalso; omega)
    |  (refine r_aload_n C rfl rfl dX6_name_15 ?_
        refine r_getI C dX6_name_16 fl_X6_218 rfl (q_lt hs (by decide)) ?_
        refine r_iconstv C 2 rfl dX6_name_19 ?_
        refine t_icmp_ne C 42 (by decide) h3 (show (2 : Int32).toInt = 2 from rfl) dX6_name_20 (fun c20 => ?_) (fun c20 => ?_)
        · first
          | (exfalso; omega)
          |  (refine r_lload_n C rfl dX6_name_42 ?_
              exact r_lret C dX6_name_43 rfl (Nat.le_refl _) rfl rfl)
        · first
          | (exfalso; omega)
          |  ((exfalso; omega)))

set_option maxHeartbeats 4000000 in
set_option maxRecDepth 100000 in
theorem lp_nu (G : oG) {p : Program} {l : Launch} {e : Env} {R : Room} {s : State} {m : MethodId} {args : Array Value} {below : List Frame} {meth : Method} {c : Code} {n0 nF : Nat} {h : oH} (hs : oSh h) {z : Nat} {T : Nat → Int} (tp : tpM h z T) {st en : Nat} (h4 : (hI h 12 34).toInt = (st : Int)) (h5 : (hI h 12 35).toInt = (en : Int)) (hse : st ≤ en) (hez : en ≤ z) {sr : Nat} (h3 : (hI h 12 33).toInt = (sr : Int)) (hfg : ∀ j, st ≤ j → j < en → 48 ≤ T j ∧ T j ≤ 57) (hr : sr = 3) (h6 : en ≤ st + 5) (C : oC G mX6_number n0 nF p l R s m args meth c) (hF : h.1 ≤ nF) : ∀ (k i : Nat) (v x : Int32), st + i + k = en → x.toInt = ((st + i : Nat) : Int) → v.toInt = nv T st i → oS G mX6_number p l e R s m args below meth c (oZ G below args s n0 nF (some (.int (oI (nv T st (en - st))))) h) n0 7 [some (.ref 12), some (.int v), some (.int x)] [] h := by
  have z3 := tp.2.1
  intro k
  induction k with
  | zero =>
    intro i v x hik hx hv
    have hi : en - st = i := by omega
    refine r_iload_n C rfl dX6_number_7 ?_
    refine r_aload_n C rfl rfl dX6_number_8 ?_
    refine r_getI C dX6_number_9 fl_X6_227 rfl (q_lt hs (by decide)) ?_
    refine t_icmp_ge C 44 (by decide) hx h5 dX6_number_12 (fun c12 => ?_) (fun c12 => absurd c12 (by omega))
    refine r_iload_n C rfl dX6_number_44 ?_
    exact r_iret C dX6_number_45 rfl hF (by rw [hi, oI_e hv]) rfl
  | succ k ih =>
    intro i v x hik hx hv
    have hT := (tp.2.2 (st + i) (by omega)).1
    have hb := nv_b (T := T) (s := st) i (by omega) (fun j hj => hfg (st + j) (by omega) (by omega))
    have hp := p10 i (by omega)
    have hf := hfg (st + i) (by omega) (by omega)
    refine r_iload_n C rfl dX6_number_7 ?_
    refine r_aload_n C rfl rfl dX6_number_8 ?_
    refine r_getI C dX6_number_9 fl_X6_227 rfl (q_lt hs (by decide)) ?_
    refine t_icmp_ge C 44 (by decide) hx h5 dX6_number_12 (fun c12 => absurd c12 (by omega)) (fun c12 => ?_)
    refine r_aload_n C rfl rfl dX6_number_15 ?_
    refine r_getI C dX6_number_16 fl_X6_218 rfl (q_lt hs (by decide)) ?_
    refine r_iconstv C 3 rfl dX6_number_19 ?_
    refine t_icmp_ne C 44 (by decide) h3 (show (3 : Int32).toInt = 3 from rfl) dX6_number_20 (fun c20 => absurd c20 (by omega)) (fun c20 => ?_)
    refine r_bipush C 10 rfl dX6_number_23 ?_
    refine r_iload_n C rfl dX6_number_25 ?_
    refine r_imul C dX6_number_26 ?_
    refine r_aload_n C rfl rfl dX6_number_27 ?_
    refine r_getO C dX6_number_28 fl_X6_72 rfl rfl (q_lt hs (by decide)) (sh_12_28 hs) ?_
    refine r_iload_n C rfl dX6_number_31 ?_
    refine r_iald C ((st + i)) hx (by omega) dX6_number_32 rfl (q_lt hs (by decide)) ?_
    refine r_iadd C dX6_number_33 ?_
    refine r_bipush C 48 rfl dX6_number_34 ?_
    refine r_isub C dX6_number_36 ?_
    refine r_istore_n C rfl (Nat.le_of_ble_eq_true rfl) dX6_number_37 ?_
    refine r_iinc C rfl rfl (Nat.le_of_ble_eq_true rfl) dX6_number_38 ?_
    refine r_goto C 7 (by decide) dX6_number_41 ?_
    refine ih (i + 1) _ _ (by omega) (by have t := tA hx (show (Int32.ofInt 1).toInt = 1 from rfl) (by omega); omega) ?_
    have e1 := tM (show (10 : Int32).toInt = 10 from rfl) hv (by omega)
    have e2 := tA e1 hT (by omega)
    have e3 := tS e2 (show (48 : Int32).toInt = 48 from rfl) (by omega)
    rw [e3]
    show _ = nv T st i * 10 + T (st + i) - 48
    omega

set_option maxHeartbeats 4000000 in
set_option maxRecDepth 100000 in
theorem sp_nu (G : oG) {h : oH} (hs : oSh h) {z : Nat} {T : Nat → Int} (tp : tpM h z T) {st en : Nat} (h4 : (hI h 12 34).toInt = (st : Int)) (h5 : (hI h 12 35).toInt = (en : Int)) (hse : st ≤ en) (hez : en ≤ z) {sr : Nat} (h3 : (hI h 12 33).toInt = (sr : Int)) (hfg : ∀ j, st ≤ j → j < en → 48 ≤ T j ∧ T j ≤ 57) (hr : sr = 3) (h6 : en ≤ st + 5) : oSp G mX6_number [.ref 12] h (some (.int (oI (nv T st (en - st))))) h := by
  refine oSp.intro [some (.ref 12), none, none] rfl (Nat.le_of_ble_eq_true rfl) (plainFor_of_name (by decide +kernel)) (Nat.le_refl _) ?_
  intro p l e R s m args below meth c C
  refine r_iconstv C 0 rfl dX6_number_0 ?_
  refine r_istore_n C rfl (Nat.le_of_ble_eq_true rfl) dX6_number_1 ?_
  refine r_aload_n C rfl rfl dX6_number_2 ?_
  refine r_getI C dX6_number_3 fl_X6_215 rfl (q_lt hs (by decide)) ?_
  refine r_istore_n C rfl (Nat.le_of_ble_eq_true rfl) dX6_number_6 ?_
  exact lp_nu G hs tp h4 h5 hse hez h3 hfg hr h6 C (Nat.le_refl _) (en - st) 0 _ _ (by omega) h4 rfl

set_option maxHeartbeats 4000000 in
set_option maxRecDepth 100000 in
theorem sp_nu0 (G : oG) {h : oH} (hs : oSh h) {z : Nat} {T : Nat → Int} (tp : tpM h z T) {st en : Nat} (h4 : (hI h 12 34).toInt = (st : Int)) (h5 : (hI h 12 35).toInt = (en : Int)) (hse : st ≤ en) (hez : en ≤ z) {sr : Nat} (h3 : (hI h 12 33).toInt = (sr : Int)) (hr : sr ≠ 3) : oSp G mX6_number [.ref 12] h (some (.int 0)) h := by
  refine oSp.intro [some (.ref 12), none, none] rfl (Nat.le_of_ble_eq_true rfl) (plainFor_of_name (by decide +kernel)) (Nat.le_refl _) ?_
  intro p l e R s m args below meth c C
  refine r_iconstv C 0 rfl dX6_number_0 ?_
  refine r_istore_n C rfl (Nat.le_of_ble_eq_true rfl) dX6_number_1 ?_
  refine r_aload_n C rfl rfl dX6_number_2 ?_
  refine r_getI C dX6_number_3 fl_X6_215 rfl (q_lt hs (by decide)) ?_
  refine r_istore_n C rfl (Nat.le_of_ble_eq_true rfl) dX6_number_6 ?_
  refine r_iload_n C rfl dX6_number_7 ?_
  refine r_aload_n C rfl rfl dX6_number_8 ?_
  refine r_getI C dX6_number_9 fl_X6_227 rfl (q_lt hs (by decide)) ?_
  refine t_icmp_ge C 44 (by decide) h4 h5 dX6_number_12 (fun c12 => ?_) (fun c12 => ?_)
  · first
    | (exfalso; omega)
    |  (refine r_iload_n C rfl dX6_number_44 ?_
        exact r_iret C dX6_number_45 rfl (Nat.le_refl _) rfl rfl)
  · first
    | (exfalso; omega)
    |  (refine r_aload_n C rfl rfl dX6_number_15 ?_
        refine r_getI C dX6_number_16 fl_X6_218 rfl (q_lt hs (by decide)) ?_
        refine r_iconstv C 3 rfl dX6_number_19 ?_
        refine t_icmp_ne C 44 (by decide) h3 (show (3 : Int32).toInt = 3 from rfl) dX6_number_20 (fun c20 => ?_) (fun c20 => ?_)
        · first
          | (exfalso; omega)
          |  (refine r_iload_n C rfl dX6_number_44 ?_
              exact r_iret C dX6_number_45 rfl (Nat.le_refl _) rfl rfl)
        · first
          | (exfalso; omega)
          |  ((exfalso; omega)))

set_option maxHeartbeats 4000000 in
set_option maxRecDepth 100000 in
theorem sp_sg (G : oG) {h : oH} (hs : oSh h) {z : Nat} {T : Nat → Int} (tp : tpM h z T) {st en : Nat} (h4 : (hI h 12 34).toInt = (st : Int)) (h5 : (hI h 12 35).toInt = (en : Int)) (hse : st ≤ en) (hez : en ≤ z) {sr : Nat} (h3 : (hI h 12 33).toInt = (sr : Int)) (x : Int32) (hr : sr = 4 → st < z) : oSp G mX6_is [.ref 12, .int x] h (some (.int (b1 (sr = 4 ∧ T st = x.toInt)))) h := by
  have z3 := tp.2.1
  refine oSp.intro [some (.ref 12), some (.int x)] rfl (Nat.le_of_ble_eq_true rfl) (plainFor_of_name (by decide +kernel)) (Nat.le_refl _) ?_
  intro p l e R s m args below meth c C
  refine r_aload_n C rfl rfl dX6_is_0 ?_
  refine r_getI C dX6_is_1 fl_X6_218 rfl (q_lt hs (by decide)) ?_
  refine r_iconstv C 4 rfl dX6_is_4 ?_
  refine t_icmp_ne C 25 (by decide) h3 (show (4 : Int32).toInt = 4 from rfl) dX6_is_5 (fun c5 => ?_) (fun c5 => ?_)
  · first
    | (exfalso; omega)
    |  (refine r_iconstv C 0 rfl dX6_is_25 ?_
        exact r_zret C dX6_is_26 rfl rfl (Nat.le_refl _) (er_f (by omega)) rfl)
  · first
    | (exfalso; omega)
    |  (have hs4 := hr (by omega)
        have hT := (tp.2.2 st hs4).1
        refine r_aload_n C rfl rfl dX6_is_8 ?_
        refine r_getO C dX6_is_9 fl_X6_72 rfl rfl (q_lt hs (by decide)) (sh_12_28 hs) ?_
        refine r_aload_n C rfl rfl dX6_is_12 ?_
        refine r_getI C dX6_is_13 fl_X6_215 rfl (q_lt hs (by decide)) ?_
        refine r_iald C (st) h4 (by omega) dX6_is_16 rfl (q_lt hs (by decide)) ?_
        refine r_iload_n C rfl dX6_is_17 ?_
        refine t_icmp_ne C 25 (by decide) hT rfl dX6_is_18 (fun c18 => ?_) (fun c18 => ?_)
        · first
          | (exfalso; omega)
          |  (refine r_iconstv C 0 rfl dX6_is_25 ?_
              exact r_zret C dX6_is_26 rfl rfl (Nat.le_refl _) (er_f (by omega)) rfl)
        · first
          | (exfalso; omega)
          |  (refine r_iconstv C 1 rfl dX6_is_21 ?_
              refine r_goto C 26 (by decide) dX6_is_22 ?_
              exact r_zret C dX6_is_26 rfl rfl (Nat.le_refl _) (er_t (by omega)) rfl))

set_option maxHeartbeats 4000000 in
set_option maxRecDepth 100000 in
theorem sp_bad0 (G : oG) {h : oH} (hs : oSh h) (x : Int32) (hf : (hI h 12 36).toInt = 0) : oSp G mX6_bad [.ref 12, .int x] h none (sI (sI h 12 36 x) 12 37 (hI h 12 34)) := by
  refine oSp.intro [some (.ref 12), some (.int x)] rfl (Nat.le_of_ble_eq_true rfl) (plainFor_of_name (by decide +kernel)) (Nat.le_refl _) ?_
  intro p l e R s m args below meth c C
  refine r_aload_n C rfl rfl dX6_bad_0 ?_
  refine r_getI C dX6_bad_1 fl_X6_230 rfl (q_lt hs (by decide)) ?_
  refine t_if_ne C 20 (by decide) hf dX6_bad_4 (fun c4 => ?_) (fun c4 => ?_)
  · first
    | (exfalso; omega)
    |  (exact r_vret C dX6_bad_20 rfl (Nat.le_refl _) rfl)
  · first
    | (exfalso; omega)
    |  (refine r_aload_n C rfl rfl dX6_bad_7 ?_
        refine r_iload_n C rfl dX6_bad_8 ?_
        refine r_putI C dX6_bad_9 fl_X6_230 rfl (q_lt hs (by decide)) (Or.inl rfl) ?_
        refine r_aload_n C rfl rfl dX6_bad_12 ?_
        refine r_aload_n C rfl rfl dX6_bad_13 ?_
        refine r_getI C dX6_bad_14 fl_X6_215 rfl (q_lt hs (by decide)) ?_
        refine r_putI C dX6_bad_17 fl_X6_233 rfl (q_lt hs (by decide)) (Or.inl rfl) ?_
        exact r_vret C dX6_bad_20 rfl (Nat.le_refl _) rfl)

set_option maxHeartbeats 4000000 in
set_option maxRecDepth 100000 in
theorem sp_bad1 (G : oG) {h : oH} (hs : oSh h) (x : Int32) (hf : (hI h 12 36).toInt ≠ 0) : oSp G mX6_bad [.ref 12, .int x] h none h := by
  refine oSp.intro [some (.ref 12), some (.int x)] rfl (Nat.le_of_ble_eq_true rfl) (plainFor_of_name (by decide +kernel)) (Nat.le_refl _) ?_
  intro p l e R s m args below meth c C
  refine r_aload_n C rfl rfl dX6_bad_0 ?_
  refine r_getI C dX6_bad_1 fl_X6_230 rfl (q_lt hs (by decide)) ?_
  refine t_if_ne C 20 (by decide) rfl dX6_bad_4 (fun c4 => ?_) (fun c4 => ?_)
  · first
    | (exfalso; omega)
    |  (exact r_vret C dX6_bad_20 rfl (Nat.le_refl _) rfl)
  · first
    | (exfalso; omega)
    |  (refine r_aload_n C rfl rfl dX6_bad_7 ?_
        refine r_iload_n C rfl dX6_bad_8 ?_
        refine r_putI C dX6_bad_9 fl_X6_230 rfl (q_lt hs (by decide)) (Or.inl rfl) ?_
        refine r_aload_n C rfl rfl dX6_bad_12 ?_
        refine r_aload_n C rfl rfl dX6_bad_13 ?_
        refine r_getI C dX6_bad_14 fl_X6_215 rfl (q_lt hs (by decide)) ?_
        refine r_putI C dX6_bad_17 fl_X6_233 rfl (q_lt hs (by decide)) (Or.inl rfl) ?_
        exact r_vret C dX6_bad_20 rfl (Nat.le_refl _) rfl)

set_option maxHeartbeats 4000000 in
set_option maxRecDepth 100000 in
theorem sp_tk1 (G : oG) {h : oH} (hs : oSh h) (x : Int32) (hf : (hI h 12 36).toInt ≠ 0) : oSp G mX6_take [.ref 12, .int x] h none h := by
  refine oSp.intro [some (.ref 12), some (.int x)] rfl (Nat.le_of_ble_eq_true rfl) (plainFor_of_name (by decide +kernel)) (Nat.le_refl _) ?_
  intro p l e R s m args below meth c C
  refine r_iload_n C rfl dX6_take_0 ?_
  refine t_if_ne C 9 (by decide) rfl dX6_take_1 (fun c1 => ?_) (fun c1 => ?_)
  · first
    | (exfalso; omega)
    |  (refine r_aload_n C rfl rfl dX6_take_9 ?_
        refine r_getI C dX6_take_10 fl_X6_230 rfl (q_lt hs (by decide)) ?_
        refine t_if_ne C 20 (by decide) rfl dX6_take_13 (fun c13 => ?_) (fun c13 => ?_)
        · first
          | (exfalso; omega)
          |  (exact r_vret C dX6_take_20 rfl (Nat.le_refl _) rfl)
        · first
          | (exfalso; omega)
          |  (refine r_aload_n C rfl rfl dX6_take_16 ?_
              refine r_callV C (absurd trivial hf) kv_X6_step kn_X6_step rfl dX6_take_17 cl_X6_240 ⟨Nat.le_of_ble_eq_true rfl, Nat.le_of_ble_eq_true rfl⟩ (by decide) rfl rfl (q_lt hs (by decide)) (Nat.le_refl _) rfl (Nat.le_of_ble_eq_true rfl) ?_
              exact r_vret C dX6_take_20 rfl (Nat.le_refl _) rfl))
  · first
    | (exfalso; omega)
    |  (refine r_aload_n C rfl rfl dX6_take_4 ?_
        refine r_iconstv C 1 rfl dX6_take_5 ?_
        refine r_callV C (sp_bad1 G hs _ hf) kv_X6_bad kn_X6_bad rfl dX6_take_6 cl_X6_236 ⟨Nat.le_of_ble_eq_true rfl, Nat.le_of_ble_eq_true rfl⟩ (by decide) rfl rfl (q_lt hs (by decide)) (Nat.le_refl _) rfl (Nat.le_of_ble_eq_true rfl) ?_
        refine r_aload_n C rfl rfl dX6_take_9 ?_
        refine r_getI C dX6_take_10 fl_X6_230 rfl (q_lt hs (by decide)) ?_
        refine t_if_ne C 20 (by decide) rfl dX6_take_13 (fun c13 => ?_) (fun c13 => ?_)
        · first
          | (exfalso; omega)
          |  (exact r_vret C dX6_take_20 rfl (Nat.le_refl _) rfl)
        · first
          | (exfalso; omega)
          |  (refine r_aload_n C rfl rfl dX6_take_16 ?_
              refine r_callV C (absurd trivial hf) kv_X6_step kn_X6_step rfl dX6_take_17 cl_X6_240 ⟨Nat.le_of_ble_eq_true rfl, Nat.le_of_ble_eq_true rfl⟩ (by decide) rfl rfl (q_lt hs (by decide)) (Nat.le_refl _) rfl (Nat.le_of_ble_eq_true rfl) ?_
              exact r_vret C dX6_take_20 rfl (Nat.le_refl _) rfl))

set_option maxHeartbeats 4000000 in
set_option maxRecDepth 100000 in
theorem sp_tk0 (G : oG) {h : oH} (hs : oSh h) (x : Int32) (hx : x.toInt = 0) (hf : (hI h 12 36).toInt = 0) : oSp G mX6_take [.ref 12, .int x] h none (sI (sI h 12 36 1) 12 37 (hI h 12 34)) := by
  refine oSp.intro [some (.ref 12), some (.int x)] rfl (Nat.le_of_ble_eq_true rfl) (plainFor_of_name (by decide +kernel)) (Nat.le_refl _) ?_
  intro p l e R s m args below meth c C
  refine r_iload_n C rfl dX6_take_0 ?_
  refine t_if_ne C 9 (by decide) hx dX6_take_1 (fun c1 => absurd rfl c1) (fun c1 => ?_)
  refine r_aload_n C rfl rfl dX6_take_4 ?_
  refine r_iconstv C 1 rfl dX6_take_5 ?_
  refine r_callV C (sp_bad0 G hs _ hf) kv_X6_bad kn_X6_bad rfl dX6_take_6 cl_X6_236 ⟨Nat.le_of_ble_eq_true rfl, Nat.le_of_ble_eq_true rfl⟩ (by decide) rfl rfl (q_lt hs (by decide)) (Nat.le_refl _) rfl (Nat.le_of_ble_eq_true rfl) ?_
  refine r_aload_n C rfl rfl dX6_take_9 ?_
  refine r_getI C dX6_take_10 fl_X6_230 rfl (q_lt hs (by decide)) ?_
  refine t_if_ne C 20 (by decide) (show (1 : Int32).toInt = 1 from rfl) dX6_take_13 (fun c13 => ?_) (fun c13 => absurd c13 (by decide))
  exact r_vret C dX6_take_20 rfl (Nat.le_refl _) rfl

set_option maxHeartbeats 4000000 in
set_option maxRecDepth 100000 in
theorem sp_tkS (G : oG) {h : oH} (hs : oSh h) (x : Int32) (hx : ¬ x.toInt = 0) (hf : (hI h 12 36).toInt = 0) {h1 : oH} (sp : oSp G mX6_step [.ref 12] h none h1) (e1 : h1.1 = h.1) : oSp G mX6_take [.ref 12, .int x] h none h1 := by
  refine oSp.intro [some (.ref 12), some (.int x)] rfl (Nat.le_of_ble_eq_true rfl) (plainFor_of_name (by decide +kernel)) (by rw [e1]; exact Nat.le_refl _) ?_
  intro p l e R s m args below meth c C
  refine r_iload_n C rfl dX6_take_0 ?_
  refine t_if_ne C 9 (by decide) rfl dX6_take_1 (fun c1 => ?_) (fun c1 => ?_)
  · first
    | (exfalso; omega)
    |  (refine r_aload_n C rfl rfl dX6_take_9 ?_
        refine r_getI C dX6_take_10 fl_X6_230 rfl (q_lt hs (by decide)) ?_
        refine t_if_ne C 20 (by decide) hf dX6_take_13 (fun c13 => ?_) (fun c13 => ?_)
        · first
          | (exfalso; omega)
          |  (exact r_vret C dX6_take_20 rfl (Nat.le_refl _) rfl)
        · first
          | (exfalso; omega)
          |  (refine r_aload_n C rfl rfl dX6_take_16 ?_
              refine r_callV C sp kv_X6_step kn_X6_step rfl dX6_take_17 cl_X6_240 ⟨Nat.le_of_ble_eq_true rfl, Nat.le_of_ble_eq_true rfl⟩ (by decide) rfl rfl (q_lt hs (by decide)) (Nat.le_refl _) rfl (Nat.le_of_ble_eq_true rfl) ?_
              exact r_vret C dX6_take_20 rfl (Nat.le_refl _) rfl))
  · first
    | (exfalso; omega)
    |  (refine r_aload_n C rfl rfl dX6_take_4 ?_
        refine r_iconstv C 1 rfl dX6_take_5 ?_
        refine r_callV C (absurd trivial hx) kv_X6_bad kn_X6_bad rfl dX6_take_6 cl_X6_236 ⟨Nat.le_of_ble_eq_true rfl, Nat.le_of_ble_eq_true rfl⟩ (by decide) rfl rfl (q_lt hs (by decide)) (Nat.le_refl _) rfl (Nat.le_of_ble_eq_true rfl) ?_
        refine r_aload_n C rfl rfl dX6_take_9 ?_
        refine r_getI C dX6_take_10 fl_X6_230 rfl (q_lt hs (by decide)) ?_
        refine t_if_ne C 20 (by decide) hf dX6_take_13 (fun c13 => ?_) (fun c13 => ?_)
        · first
          | (exfalso; omega)
          |  (exact r_vret C dX6_take_20 rfl (Nat.le_refl _) rfl)
        · first
          | (exfalso; omega)
          |  (refine r_aload_n C rfl rfl dX6_take_16 ?_
              refine r_callV C sp kv_X6_step kn_X6_step rfl dX6_take_17 cl_X6_240 ⟨Nat.le_of_ble_eq_true rfl, Nat.le_of_ble_eq_true rfl⟩ (by decide) rfl rfl (q_lt hs (by decide)) (Nat.le_refl _) rfl (Nat.le_of_ble_eq_true rfl) ?_
              exact r_vret C dX6_take_20 rfl (Nat.le_refl _) rfl))

