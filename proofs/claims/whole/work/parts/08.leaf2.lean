section O8
variable {G : oG} {M : oM} {p : Program} {l : Launch} {e : Env} {R : Room} {s : State} {m : MethodId} {args : Array Value} {below : List Frame} {meth : Method} {c : Code} {Z : State → Prop} {n0 nF pc : Nat} {L : List (Option Value)} {S : List Value} {h : oH}
theorem j_ifb (C : oC G M n0 nF p l R s m args meth c) {P : Prop} [Decidable P] {off off2 : Int} (tgt : Nat) (ht : (pc : Int) + off = (tgt : Int)) (hJ : (pc : Int) + 4 + off2 = (tgt : Int) + 1) (hd : decode M.2.1 pc = .ok (.ifCond .eq off, 3)) (hd1 : decode M.2.1 (pc + 3) = .ok (.iconst 1, 1)) (hd2 : decode M.2.1 (pc + 4) = .ok (.goto off2, 3)) (hd3 : decode M.2.1 tgt = .ok (.iconst 0, 1)) (k : oS G M p l e R s m args below meth c Z n0 (tgt + 1) L (.int (b1 P) :: S) h) : oS G M p l e R s m args below meth c Z n0 pc L (.int (b1 P) :: S) h := by
  refine t_ifb_eq C tgt ht hd (fun q => ?_) (fun q => ?_)
  · refine r_iconstv C 0 rfl hd3 ?_
    rw [b1_f q] at k
    exact k
  · refine r_iconstv C 1 rfl hd1 (r_goto C (tgt + 1) (by omega) hd2 ?_)
    rw [b1_t q] at k
    exact k
theorem sI_self (h : oH) (a k : Nat) : sI h a k (hI h a k) = h := oH_ext rfl (fun x y => by
  rw [hI_sI]
  split
  next q => rw [q.1, q.2]
  next => rfl) (fun _ _ => rfl) (fun _ _ => rfl)
theorem r_pad (a k : Nat) (kk : oS G M p l e R s m args below meth c Z n0 pc L S (sI h a k (hI h a k))) : oS G M p l e R s m args below meth c Z n0 pc L S h := by
  rw [sI_self] at kk
  exact kk
end O8
set_option maxHeartbeats 4000000 in
set_option maxRecDepth 100000 in
theorem sp_cutC (G : oG) {h : oH} (v n : Int32) : oSp G mX1_cut [.int v, .int n] h (some (.int (cutC v n))) h := by
  refine oSp.intro [some (.int v), some (.int n)] rfl (Nat.le_of_ble_eq_true rfl) (plainFor_of_name (by decide +kernel)) (Nat.le_refl _) ?_
  intro p l e R s m args below meth c C
  refine r_iload_n C rfl dX1_cut_0 ?_
  refine t_if_gt C 8 (by decide) rfl dX1_cut_1 (fun c1 => ?_) (fun c1 => ?_)
  · refine r_iload_n C rfl dX1_cut_8 ?_
    refine r_iload_n C rfl dX1_cut_9 ?_
    refine r_idiv C (fun e => by have c := c1; rw [e] at c; exact absurd c (by decide)) dX1_cut_10 ?_
    exact r_iret C dX1_cut_11 rfl (Nat.le_refl _) (by simp only [cutC]; (repeat' split) <;> first | rfl | omega) rfl
  · refine r_iconstv C 0 rfl dX1_cut_4 ?_
    refine r_goto C 11 (by decide) dX1_cut_5 ?_
    exact r_iret C dX1_cut_11 rfl (Nat.le_refl _) (by simp only [cutC]; (repeat' split) <;> first | rfl | omega) rfl

set_option maxHeartbeats 4000000 in
set_option maxRecDepth 100000 in
theorem sp_rupC (G : oG) {h : oH} (v n : Int32) : oSp G mX1_roundedUp [.int v, .int n] h (some (.int (rupC v n))) h := by
  refine oSp.intro [some (.int v), some (.int n)] rfl (Nat.le_of_ble_eq_true rfl) (plainFor_of_name (by decide +kernel)) (Nat.le_refl _) ?_
  intro p l e R s m args below meth c C
  refine r_iload_n C rfl dX1_roundedUp_0 ?_
  refine t_if_gt C 8 (by decide) rfl dX1_roundedUp_1 (fun c1 => ?_) (fun c1 => ?_)
  · refine r_iload_n C rfl dX1_roundedUp_8 ?_
    refine r_ineg C dX1_roundedUp_9 ?_
    refine r_iload_n C rfl dX1_roundedUp_10 ?_
    refine r_callS C (sp_fdv G _ _ (fun e => by have c := c1; rw [e] at c; exact absurd c (by decide))) ks_J9_floorDiv_7cf53 kn_J9_floorDiv_7cf53 rfl dX1_roundedUp_11 cl_X1_91 ⟨Nat.le_of_ble_eq_true rfl, Nat.le_of_ble_eq_true rfl⟩ (Nat.le_refl _) rfl (Nat.le_of_ble_eq_true rfl) ?_
    refine r_ineg C dX1_roundedUp_14 ?_
    exact r_iret C dX1_roundedUp_15 rfl (Nat.le_refl _) (by simp only [rupC]; (repeat' split) <;> first | rfl | omega) rfl
  · refine r_iconstv C 0 rfl dX1_roundedUp_4 ?_
    refine r_goto C 15 (by decide) dX1_roundedUp_5 ?_
    exact r_iret C dX1_roundedUp_15 rfl (Nat.le_refl _) (by simp only [rupC]; (repeat' split) <;> first | rfl | omega) rfl

set_option maxHeartbeats 4000000 in
set_option maxRecDepth 100000 in
theorem sp_in (G : oG) {h : oH} {v lo hi : Int64} {x a b : Int} (hv : v.toInt = x) (ha : lo.toInt = a) (hb : hi.toInt = b) : oSp G mX6_in [.long v, .long lo, .long hi] h (some (.int (b1 (a ≤ x ∧ x ≤ b)))) h := by
  refine oSp.intro [some (.long v), none, some (.long lo), none, some (.long hi), none] rfl (Nat.le_of_ble_eq_true rfl) (plainFor_of_name (by decide +kernel)) (Nat.le_refl _) ?_
  intro p l e R s m args below meth c C
  refine r_lload_n C rfl dX6_in_0 ?_
  refine r_lload_n C rfl dX6_in_1 ?_
  refine r_lcmp C dX6_in_2 ?_
  refine t_lcmp_lt C 17 (by decide) hv ha dX6_in_3 (fun c3 => ?_) (fun c3 => ?_)
  · refine r_iconstv C 0 rfl dX6_in_17 ?_
    exact r_zret C dX6_in_18 rfl rfl (Nat.le_refl _) (er_f (by omega)) rfl
  · refine r_lload_n C rfl dX6_in_6 ?_
    refine r_lload C rfl dX6_in_7 ?_
    refine r_lcmp C dX6_in_9 ?_
    refine t_lcmp_gt C 17 (by decide) hv hb dX6_in_10 (fun c10 => ?_) (fun c10 => ?_)
    · refine r_iconstv C 0 rfl dX6_in_17 ?_
      exact r_zret C dX6_in_18 rfl rfl (Nat.le_refl _) (er_f (by omega)) rfl
    · refine r_iconstv C 1 rfl dX6_in_13 ?_
      refine r_goto C 18 (by decide) dX6_in_14 ?_
      exact r_zret C dX6_in_18 rfl rfl (Nat.le_refl _) (er_t (by omega)) rfl

set_option maxHeartbeats 4000000 in
set_option maxRecDepth 100000 in
theorem sp_isHouse (G : oG) {h : oH} (hs : oSh h) {n : Nat} (hn : (hI h 12 1).toInt = (n : Int)) (hn24 : n ≤ 24) (v : Int32) : oSp G mX6_isHouse [.ref 12, .int v] h (some (.int (b1 (0 ≤ v.toInt ∧ v.toInt ≤ n - 1)))) h := by
  refine oSp.intro [some (.ref 12), some (.int v)] rfl (Nat.le_of_ble_eq_true rfl) (plainFor_of_name (by decide +kernel)) (Nat.le_refl _) ?_
  intro p l e R s m args below meth c C
  refine r_iload_n C rfl dX6_isHouse_0 ?_
  refine r_i2l C dX6_isHouse_1 ?_
  refine r_lconst C 0 rfl dX6_isHouse_2 ?_
  refine r_aload_n C rfl rfl dX6_isHouse_3 ?_
  refine r_getI C dX6_isHouse_4 fl_X6_93 rfl (q_lt hs (by decide)) ?_
  refine r_iconstv C 1 rfl dX6_isHouse_7 ?_
  refine r_isub C dX6_isHouse_8 ?_
  refine r_i2l C dX6_isHouse_9 ?_
  refine r_callS C (sp_in G (tI2L rfl) (show (0 : Int64).toInt = 0 from rfl) (tI2L (tS hn (show (1 : Int32).toInt = 1 from rfl) (by omega)))) ks_X6_in kn_X6_in rfl dX6_isHouse_10 cl_X6_96 ⟨Nat.le_of_ble_eq_true rfl, Nat.le_of_ble_eq_true rfl⟩ (Nat.le_refl _) rfl (Nat.le_of_ble_eq_true rfl) ?_
  exact r_zret C dX6_isHouse_13 rfl b1_nar (Nat.le_refl _) rfl rfl

set_option maxHeartbeats 4000000 in
set_option maxRecDepth 100000 in
theorem sp_lowOf (G : oG) {h : oH} (hs : oSh h) (v : Int32) {i : Nat} (hv : v.toInt = (i : Int)) (hi : i < 24) (x : Int32) : oSp G mX6_lowOf [.ref 12, .int v, .int x] h (some (.int (hI h 16 (4 * i) + hI h 16 (4 * i + 1) * x))) h := by
  refine oSp.intro [some (.ref 12), some (.int v), some (.int x)] rfl (Nat.le_of_ble_eq_true rfl) (plainFor_of_name (by decide +kernel)) (Nat.le_refl _) ?_
  intro p l e R s m args below meth c C
  refine r_aload_n C rfl rfl dX6_lowOf_0 ?_
  refine r_getO C dX6_lowOf_1 fl_X6_19 rfl rfl (q_lt hs (by decide)) (sh_12_5 hs) ?_
  refine r_iconstv C 4 rfl dX6_lowOf_4 ?_
  refine r_iload_n C rfl dX6_lowOf_5 ?_
  refine r_imul C dX6_lowOf_6 ?_
  refine r_iald C ((4) * (i)) (by have t := (tM (show (4 : Int32).toInt = 4 from rfl) hv (by omega)); omega) (by omega) dX6_lowOf_7 rfl (q_lt hs (by decide)) ?_
  refine r_aload_n C rfl rfl dX6_lowOf_8 ?_
  refine r_getO C dX6_lowOf_9 fl_X6_19 rfl rfl (q_lt hs (by decide)) (sh_12_5 hs) ?_
  refine r_iconstv C 4 rfl dX6_lowOf_12 ?_
  refine r_iload_n C rfl dX6_lowOf_13 ?_
  refine r_imul C dX6_lowOf_14 ?_
  refine r_iconstv C 1 rfl dX6_lowOf_15 ?_
  refine r_iadd C dX6_lowOf_16 ?_
  refine r_iald C (((4) * (i)) + (1)) (by have t := (tA (tM (show (4 : Int32).toInt = 4 from rfl) hv (by omega)) (show (1 : Int32).toInt = 1 from rfl) (by omega)); omega) (by omega) dX6_lowOf_17 rfl (q_lt hs (by decide)) ?_
  refine r_iload_n C rfl dX6_lowOf_18 ?_
  refine r_imul C dX6_lowOf_19 ?_
  refine r_iadd C dX6_lowOf_20 ?_
  exact r_iret C dX6_lowOf_21 rfl (Nat.le_refl _) rfl rfl

set_option maxHeartbeats 4000000 in
set_option maxRecDepth 100000 in
theorem sp_highOf (G : oG) {h : oH} (hs : oSh h) (v : Int32) {i : Nat} (hv : v.toInt = (i : Int)) (hi : i < 24) (x : Int32) : oSp G mX6_highOf [.ref 12, .int v, .int x] h (some (.int (hI h 16 (4 * i + 2) + hI h 16 (4 * i + 3) * x))) h := by
  refine oSp.intro [some (.ref 12), some (.int v), some (.int x)] rfl (Nat.le_of_ble_eq_true rfl) (plainFor_of_name (by decide +kernel)) (Nat.le_refl _) ?_
  intro p l e R s m args below meth c C
  refine r_aload_n C rfl rfl dX6_highOf_0 ?_
  refine r_getO C dX6_highOf_1 fl_X6_19 rfl rfl (q_lt hs (by decide)) (sh_12_5 hs) ?_
  refine r_iconstv C 4 rfl dX6_highOf_4 ?_
  refine r_iload_n C rfl dX6_highOf_5 ?_
  refine r_imul C dX6_highOf_6 ?_
  refine r_iconstv C 2 rfl dX6_highOf_7 ?_
  refine r_iadd C dX6_highOf_8 ?_
  refine r_iald C (((4) * (i)) + (2)) (by have t := (tA (tM (show (4 : Int32).toInt = 4 from rfl) hv (by omega)) (show (2 : Int32).toInt = 2 from rfl) (by omega)); omega) (by omega) dX6_highOf_9 rfl (q_lt hs (by decide)) ?_
  refine r_aload_n C rfl rfl dX6_highOf_10 ?_
  refine r_getO C dX6_highOf_11 fl_X6_19 rfl rfl (q_lt hs (by decide)) (sh_12_5 hs) ?_
  refine r_iconstv C 4 rfl dX6_highOf_14 ?_
  refine r_iload_n C rfl dX6_highOf_15 ?_
  refine r_imul C dX6_highOf_16 ?_
  refine r_iconstv C 3 rfl dX6_highOf_17 ?_
  refine r_iadd C dX6_highOf_18 ?_
  refine r_iald C (((4) * (i)) + (3)) (by have t := (tA (tM (show (4 : Int32).toInt = 4 from rfl) hv (by omega)) (show (3 : Int32).toInt = 3 from rfl) (by omega)); omega) (by omega) dX6_highOf_19 rfl (q_lt hs (by decide)) ?_
  refine r_iload_n C rfl dX6_highOf_20 ?_
  refine r_imul C dX6_highOf_21 ?_
  refine r_iadd C dX6_highOf_22 ?_
  exact r_iret C dX6_highOf_23 rfl (Nat.le_refl _) rfl rfl

abbrev dueP (h : oH) (i : Nat) : Prop := (hI h 18 i).toInt ≤ (hI h 12 17 * (hI h 16 (4 * i + 2) + hI h 16 (4 * i + 3) * hI h 12 18)).toInt
set_option maxHeartbeats 4000000 in
set_option maxRecDepth 100000 in
theorem sp_isDueM (G : oG) {h : oH} (hs : oSh h) (v : Int32) {i : Nat} (hv : v.toInt = (i : Int)) (hi : i < 24) : oSp G mX6_isDue [.ref 12, .int v] h (some (.int (b1 (dueP h i)))) h := by
  refine oSp.intro [some (.ref 12), some (.int v)] rfl (Nat.le_of_ble_eq_true rfl) (plainFor_of_name (by decide +kernel)) (Nat.le_refl _) ?_
  intro p l e R s m args below meth c C
  refine r_aload_n C rfl rfl dX6_isDue_0 ?_
  refine r_getO C dX6_isDue_1 fl_X6_25 rfl rfl (q_lt hs (by decide)) (sh_12_7 hs) ?_
  refine r_iload_n C rfl dX6_isDue_4 ?_
  refine r_iald C (i) (by have t := hv; omega) (by omega) dX6_isDue_5 rfl (q_lt hs (by decide)) ?_
  refine r_aload_n C rfl rfl dX6_isDue_6 ?_
  refine r_getI C dX6_isDue_7 fl_X6_53 rfl (q_lt hs (by decide)) ?_
  refine r_aload_n C rfl rfl dX6_isDue_10 ?_
  refine r_iload_n C rfl dX6_isDue_11 ?_
  refine r_aload_n C rfl rfl dX6_isDue_12 ?_
  refine r_getI C dX6_isDue_13 fl_X6_57 rfl (q_lt hs (by decide)) ?_
  refine r_callV C (sp_highOf G (by exact hs) _ hv hi _) kv_X6_highOf kn_X6_highOf rfl dX6_isDue_16 cl_X6_122 ⟨Nat.le_of_ble_eq_true rfl, Nat.le_of_ble_eq_true rfl⟩ (by decide) rfl rfl (q_lt hs (by decide)) (Nat.le_refl _) rfl (Nat.le_of_ble_eq_true rfl) ?_
  refine r_imul C dX6_isDue_19 ?_
  refine j_icmp_gt0 C 27 (by decide) rfl rfl rfl dX6_isDue_20 dX6_isDue_23 dX6_isDue_24 dX6_isDue_27 ?_
  exact r_zret C dX6_isDue_28 rfl b1_nar (Nat.le_refl _) rfl rfl

def canM (h : oH) (i : Nat) : Int32 := if (hI h 16 (4 * i + 2) + hI h 16 (4 * i + 3) * hI h 12 18).toInt = 0 then 1000 else hI h 18 i / (hI h 16 (4 * i + 2) + hI h 16 (4 * i + 3) * hI h 12 18)
set_option maxHeartbeats 4000000 in
set_option maxRecDepth 100000 in
theorem sp_canGo (G : oG) {h : oH} (hs : oSh h) (v : Int32) {i : Nat} (hv : v.toInt = (i : Int)) (hi : i < 24) : oSp G mX6_canGo [.ref 12, .int v] h (some (.int (canM h i))) h := by
  refine oSp.intro [some (.ref 12), some (.int v), none] rfl (Nat.le_of_ble_eq_true rfl) (plainFor_of_name (by decide +kernel)) (Nat.le_refl _) ?_
  intro p l e R s m args below meth c C
  refine r_aload_n C rfl rfl dX6_canGo_0 ?_
  refine r_iload_n C rfl dX6_canGo_1 ?_
  refine r_aload_n C rfl rfl dX6_canGo_2 ?_
  refine r_getI C dX6_canGo_3 fl_X6_57 rfl (q_lt hs (by decide)) ?_
  refine r_callV C (sp_highOf G (by exact hs) _ hv hi _) kv_X6_highOf kn_X6_highOf rfl dX6_canGo_6 cl_X6_122 ⟨Nat.le_of_ble_eq_true rfl, Nat.le_of_ble_eq_true rfl⟩ (by decide) rfl rfl (q_lt hs (by decide)) (Nat.le_refl _) rfl (Nat.le_of_ble_eq_true rfl) ?_
  refine r_istore_n C rfl (Nat.le_of_ble_eq_true rfl) dX6_canGo_9 ?_
  refine r_iload_n C rfl dX6_canGo_10 ?_
  refine t_if_ne C 20 (by decide) rfl dX6_canGo_11 (fun c11 => ?_) (fun c11 => ?_)
  · refine r_aload_n C rfl rfl dX6_canGo_20 ?_
    refine r_getO C dX6_canGo_21 fl_X6_25 rfl rfl (q_lt hs (by decide)) (sh_12_7 hs) ?_
    refine r_iload_n C rfl dX6_canGo_24 ?_
    refine r_iald C (i) (by have t := hv; omega) (by omega) dX6_canGo_25 rfl (q_lt hs (by decide)) ?_
    refine r_iload_n C rfl dX6_canGo_26 ?_
    refine r_idiv C (fun e => by have c := c11; rw [e] at c; exact absurd rfl c) dX6_canGo_27 ?_
    exact r_iret C dX6_canGo_28 rfl (Nat.le_refl _) (by simp only [canM]; (repeat' split) <;> first | rfl | omega) rfl
  · refine r_sipush C 1000 rfl dX6_canGo_14 ?_
    refine r_goto C 28 (by decide) dX6_canGo_17 ?_
    exact r_iret C dX6_canGo_28 rfl (Nat.le_refl _) (by simp only [canM]; (repeat' split) <;> first | rfl | omega) rfl

set_option maxHeartbeats 4000000 in
set_option maxRecDepth 100000 in
theorem sp_size (G : oG) {h : oH} (x : Int32) : oSp G mX6_size [.int x] h (some (.int (ab x))) h := by
  refine oSp.intro [some (.int x)] rfl (Nat.le_of_ble_eq_true rfl) (plainFor_of_name (by decide +kernel)) (Nat.le_refl _) ?_
  intro p l e R s m args below meth c C
  refine r_iload_n C rfl dX6_size_0 ?_
  refine t_if_ge C 9 (by decide) rfl dX6_size_1 (fun c1 => ?_) (fun c1 => ?_)
  · refine r_iload_n C rfl dX6_size_9 ?_
    exact r_iret C dX6_size_10 rfl (Nat.le_refl _) (by simp only [ab]; (repeat' split) <;> first | rfl | omega) rfl
  · refine r_iload_n C rfl dX6_size_4 ?_
    refine r_ineg C dX6_size_5 ?_
    refine r_goto C 10 (by decide) dX6_size_6 ?_
    exact r_iret C dX6_size_10 rfl (Nat.le_refl _) (by simp only [ab]; (repeat' split) <;> first | rfl | omega) rfl

def mxM (x y : Int32) : Int32 := if y.toInt < x.toInt then x else y
def mnM (x y : Int32) : Int32 := if x.toInt < y.toInt then x else y
def rupM (v n : Int32) : Int32 := if 0 < v.toInt then (v + n - 1) / n else 0
def cutM (v n : Int32) : Int32 := if 0 < v.toInt then v / n else 0
set_option maxHeartbeats 4000000 in
set_option maxRecDepth 100000 in
theorem sp_most (G : oG) {h : oH} (x y : Int32) : oSp G mX6_most [.int x, .int y] h (some (.int (mxM x y))) h := by
  refine oSp.intro [some (.int x), some (.int y)] rfl (Nat.le_of_ble_eq_true rfl) (plainFor_of_name (by decide +kernel)) (Nat.le_refl _) ?_
  intro p l e R s m args below meth c C
  refine r_iload_n C rfl dX6_most_0 ?_
  refine r_iload_n C rfl dX6_most_1 ?_
  refine t_icmp_le C 9 (by decide) rfl rfl dX6_most_2 (fun c2 => ?_) (fun c2 => ?_)
  · refine r_iload_n C rfl dX6_most_9 ?_
    exact r_iret C dX6_most_10 rfl (Nat.le_refl _) (by simp only [mxM]; (repeat' split) <;> first | rfl | omega) rfl
  · refine r_iload_n C rfl dX6_most_5 ?_
    refine r_goto C 10 (by decide) dX6_most_6 ?_
    exact r_iret C dX6_most_10 rfl (Nat.le_refl _) (by simp only [mxM]; (repeat' split) <;> first | rfl | omega) rfl

set_option maxHeartbeats 4000000 in
set_option maxRecDepth 100000 in
theorem sp_least (G : oG) {h : oH} (x y : Int32) : oSp G mX6_least [.int x, .int y] h (some (.int (mnM x y))) h := by
  refine oSp.intro [some (.int x), some (.int y)] rfl (Nat.le_of_ble_eq_true rfl) (plainFor_of_name (by decide +kernel)) (Nat.le_refl _) ?_
  intro p l e R s m args below meth c C
  refine r_iload_n C rfl dX6_least_0 ?_
  refine r_iload_n C rfl dX6_least_1 ?_
  refine t_icmp_ge C 9 (by decide) rfl rfl dX6_least_2 (fun c2 => ?_) (fun c2 => ?_)
  · refine r_iload_n C rfl dX6_least_9 ?_
    exact r_iret C dX6_least_10 rfl (Nat.le_refl _) (by simp only [mnM]; (repeat' split) <;> first | rfl | omega) rfl
  · refine r_iload_n C rfl dX6_least_5 ?_
    refine r_goto C 10 (by decide) dX6_least_6 ?_
    exact r_iret C dX6_least_10 rfl (Nat.le_refl _) (by simp only [mnM]; (repeat' split) <;> first | rfl | omega) rfl

set_option maxHeartbeats 4000000 in
set_option maxRecDepth 100000 in
theorem sp_rupM (G : oG) {h : oH} (v n : Int32) (hn : ¬ n = 0) : oSp G mX6_roundedUp [.int v, .int n] h (some (.int (rupM v n))) h := by
  refine oSp.intro [some (.int v), some (.int n)] rfl (Nat.le_of_ble_eq_true rfl) (plainFor_of_name (by decide +kernel)) (Nat.le_refl _) ?_
  intro p l e R s m args below meth c C
  refine r_iload_n C rfl dX6_roundedUp_0 ?_
  refine t_if_gt C 8 (by decide) rfl dX6_roundedUp_1 (fun c1 => ?_) (fun c1 => ?_)
  · refine r_iload_n C rfl dX6_roundedUp_8 ?_
    refine r_iload_n C rfl dX6_roundedUp_9 ?_
    refine r_iadd C dX6_roundedUp_10 ?_
    refine r_iconstv C 1 rfl dX6_roundedUp_11 ?_
    refine r_isub C dX6_roundedUp_12 ?_
    refine r_iload_n C rfl dX6_roundedUp_13 ?_
    refine r_idiv C hn dX6_roundedUp_14 ?_
    exact r_iret C dX6_roundedUp_15 rfl (Nat.le_refl _) (by simp only [rupM]; (repeat' split) <;> first | rfl | omega) rfl
  · refine r_iconstv C 0 rfl dX6_roundedUp_4 ?_
    refine r_goto C 15 (by decide) dX6_roundedUp_5 ?_
    exact r_iret C dX6_roundedUp_15 rfl (Nat.le_refl _) (by simp only [rupM]; (repeat' split) <;> first | rfl | omega) rfl

set_option maxHeartbeats 4000000 in
set_option maxRecDepth 100000 in
theorem sp_cutM (G : oG) {h : oH} (v n : Int32) (hn : ¬ n = 0) : oSp G mX6_cut [.int v, .int n] h (some (.int (cutM v n))) h := by
  refine oSp.intro [some (.int v), some (.int n)] rfl (Nat.le_of_ble_eq_true rfl) (plainFor_of_name (by decide +kernel)) (Nat.le_refl _) ?_
  intro p l e R s m args below meth c C
  refine r_iload_n C rfl dX6_cut_0 ?_
  refine t_if_gt C 8 (by decide) rfl dX6_cut_1 (fun c1 => ?_) (fun c1 => ?_)
  · refine r_iload_n C rfl dX6_cut_8 ?_
    refine r_iload_n C rfl dX6_cut_9 ?_
    refine r_idiv C hn dX6_cut_10 ?_
    exact r_iret C dX6_cut_11 rfl (Nat.le_refl _) (by simp only [cutM]; (repeat' split) <;> first | rfl | omega) rfl
  · refine r_iconstv C 0 rfl dX6_cut_4 ?_
    refine r_goto C 11 (by decide) dX6_cut_5 ?_
    exact r_iret C dX6_cut_11 rfl (Nat.le_refl _) (by simp only [cutM]; (repeat' split) <;> first | rfl | omega) rfl

def costM (h : oH) (i : Nat) (q : Int32) : Int32 := if (hI h 24 i).toInt = 1 then q * mnM (hI h 12 21) (hI h 26 i) else if (hI h 24 i).toInt = 2 then mnM q (hI h 25 i) * hI h 26 i + (q - mnM q (hI h 25 i)) * hI h 12 21 else 0 * hI h 26 i + (q - 0) * hI h 12 21
set_option maxHeartbeats 4000000 in
set_option maxRecDepth 100000 in
theorem sp_costM (G : oG) {h : oH} (hs : oSh h) (v : Int32) {i : Nat} (hv : v.toInt = (i : Int)) (hi : i < 24) (q : Int32) : oSp G mX6_cost [.ref 12, .int v, .int q] h (some (.int (costM h i q))) h := by
  refine oSp.intro [some (.ref 12), some (.int v), some (.int q), none] rfl (Nat.le_of_ble_eq_true rfl) (plainFor_of_name (by decide +kernel)) (Nat.le_refl _) ?_
  intro p l e R s m args below meth c C
  refine r_aload_n C rfl rfl dX6_cost_0 ?_
  refine r_getO C dX6_cost_1 fl_X6_44 rfl rfl (q_lt hs (by decide)) (sh_12_13 hs) ?_
  refine r_iload_n C rfl dX6_cost_4 ?_
  refine r_iald C (i) (by have t := hv; omega) (by omega) dX6_cost_5 rfl (q_lt hs (by decide)) ?_
  refine r_iconstv C 1 rfl dX6_cost_6 ?_
  refine t_icmp_ne C 26 (by decide) rfl (show (1 : Int32).toInt = 1 from rfl) dX6_cost_7 (fun c7 => ?_) (fun c7 => ?_)
  · refine r_aload_n C rfl rfl dX6_cost_26 ?_
    refine r_getO C dX6_cost_27 fl_X6_44 rfl rfl (q_lt hs (by decide)) (sh_12_13 hs) ?_
    refine r_iload_n C rfl dX6_cost_30 ?_
    refine r_iald C (i) (by have t := hv; omega) (by omega) dX6_cost_31 rfl (q_lt hs (by decide)) ?_
    refine r_iconstv C 2 rfl dX6_cost_32 ?_
    refine t_icmp_ne C 49 (by decide) rfl (show (2 : Int32).toInt = 2 from rfl) dX6_cost_33 (fun c33 => ?_) (fun c33 => ?_)
    · refine r_iconstv C 0 rfl dX6_cost_49 ?_
      refine r_istore_n C rfl (Nat.le_of_ble_eq_true rfl) dX6_cost_50 ?_
      refine r_iload_n C rfl dX6_cost_51 ?_
      refine r_aload_n C rfl rfl dX6_cost_52 ?_
      refine r_getO C dX6_cost_53 fl_X6_50 rfl rfl (q_lt hs (by decide)) (sh_12_15 hs) ?_
      refine r_iload_n C rfl dX6_cost_56 ?_
      refine r_iald C (i) (by have t := hv; omega) (by omega) dX6_cost_57 rfl (q_lt hs (by decide)) ?_
      refine r_imul C dX6_cost_58 ?_
      refine r_iload_n C rfl dX6_cost_59 ?_
      refine r_iload_n C rfl dX6_cost_60 ?_
      refine r_isub C dX6_cost_61 ?_
      refine r_aload_n C rfl rfl dX6_cost_62 ?_
      refine r_getI C dX6_cost_63 fl_X6_63 rfl (q_lt hs (by decide)) ?_
      refine r_imul C dX6_cost_66 ?_
      refine r_iadd C dX6_cost_67 ?_
      exact r_iret C dX6_cost_68 rfl (Nat.le_refl _) (by simp only [costM]; (repeat' split) <;> first | rfl | omega) rfl
    · refine r_iload_n C rfl dX6_cost_36 ?_
      refine r_aload_n C rfl rfl dX6_cost_37 ?_
      refine r_getO C dX6_cost_38 fl_X6_47 rfl rfl (q_lt hs (by decide)) (sh_12_14 hs) ?_
      refine r_iload_n C rfl dX6_cost_41 ?_
      refine r_iald C (i) (by have t := hv; omega) (by omega) dX6_cost_42 rfl (q_lt hs (by decide)) ?_
      refine r_callS C (sp_least G _ _) ks_X6_least kn_X6_least rfl dX6_cost_43 cl_X6_176 ⟨Nat.le_of_ble_eq_true rfl, Nat.le_of_ble_eq_true rfl⟩ (Nat.le_refl _) rfl (Nat.le_of_ble_eq_true rfl) ?_
      refine r_goto C 50 (by decide) dX6_cost_46 ?_
      refine r_istore_n C rfl (Nat.le_of_ble_eq_true rfl) dX6_cost_50 ?_
      refine r_iload_n C rfl dX6_cost_51 ?_
      refine r_aload_n C rfl rfl dX6_cost_52 ?_
      refine r_getO C dX6_cost_53 fl_X6_50 rfl rfl (q_lt hs (by decide)) (sh_12_15 hs) ?_
      refine r_iload_n C rfl dX6_cost_56 ?_
      refine r_iald C (i) (by have t := hv; omega) (by omega) dX6_cost_57 rfl (q_lt hs (by decide)) ?_
      refine r_imul C dX6_cost_58 ?_
      refine r_iload_n C rfl dX6_cost_59 ?_
      refine r_iload_n C rfl dX6_cost_60 ?_
      refine r_isub C dX6_cost_61 ?_
      refine r_aload_n C rfl rfl dX6_cost_62 ?_
      refine r_getI C dX6_cost_63 fl_X6_63 rfl (q_lt hs (by decide)) ?_
      refine r_imul C dX6_cost_66 ?_
      refine r_iadd C dX6_cost_67 ?_
      exact r_iret C dX6_cost_68 rfl (Nat.le_refl _) (by simp only [costM]; (repeat' split) <;> first | rfl | omega) rfl
  · refine r_iload_n C rfl dX6_cost_10 ?_
    refine r_aload_n C rfl rfl dX6_cost_11 ?_
    refine r_getI C dX6_cost_12 fl_X6_63 rfl (q_lt hs (by decide)) ?_
    refine r_aload_n C rfl rfl dX6_cost_15 ?_
    refine r_getO C dX6_cost_16 fl_X6_50 rfl rfl (q_lt hs (by decide)) (sh_12_15 hs) ?_
    refine r_iload_n C rfl dX6_cost_19 ?_
    refine r_iald C (i) (by have t := hv; omega) (by omega) dX6_cost_20 rfl (q_lt hs (by decide)) ?_
    refine r_callS C (sp_least G _ _) ks_X6_least kn_X6_least rfl dX6_cost_21 cl_X6_176 ⟨Nat.le_of_ble_eq_true rfl, Nat.le_of_ble_eq_true rfl⟩ (Nat.le_refl _) rfl (Nat.le_of_ble_eq_true rfl) ?_
    refine r_imul C dX6_cost_24 ?_
    exact r_iret C dX6_cost_25 rfl (Nat.le_refl _) (by simp only [costM]; (repeat' split) <;> first | rfl | omega) rfl

set_option maxHeartbeats 4000000 in
set_option maxRecDepth 100000 in
theorem sp_isOutside (G : oG) {h : oH} {v lo hi : Int32} {x a b : Int} (hv : v.toInt = x) (ha : lo.toInt = a) (hb : hi.toInt = b) : oSp G mX5_isOutside [.int v, .int lo, .int hi] h (some (.int (b1 (x < a ∨ b < x)))) h := by
  refine oSp.intro [some (.int v), some (.int lo), some (.int hi)] rfl (Nat.le_of_ble_eq_true rfl) (plainFor_of_name (by decide +kernel)) (Nat.le_refl _) ?_
  intro p l e R s m args below meth c C
  refine r_iload_n C rfl dX5_isOutside_0 ?_
  refine r_iload_n C rfl dX5_isOutside_1 ?_
  refine t_icmp_lt C 10 (by decide) hv ha dX5_isOutside_2 (fun c2 => ?_) (fun c2 => ?_)
  · refine r_iconstv C 1 rfl dX5_isOutside_10 ?_
    refine r_goto C 15 (by decide) dX5_isOutside_11 ?_
    exact r_zret C dX5_isOutside_15 rfl rfl (Nat.le_refl _) (er_t (by omega)) rfl
  · refine r_iload_n C rfl dX5_isOutside_5 ?_
    refine r_iload_n C rfl dX5_isOutside_6 ?_
    refine t_icmp_le C 14 (by decide) hv hb dX5_isOutside_7 (fun c7 => ?_) (fun c7 => ?_)
    · refine r_iconstv C 0 rfl dX5_isOutside_14 ?_
      exact r_zret C dX5_isOutside_15 rfl rfl (Nat.le_refl _) (er_f (by omega)) rfl
    · refine r_iconstv C 1 rfl dX5_isOutside_10 ?_
      refine r_goto C 15 (by decide) dX5_isOutside_11 ?_
      exact r_zret C dX5_isOutside_15 rfl rfl (Nat.le_refl _) (er_t (by omega)) rfl

