/-! a token, on both sides -/
theorem nHs_o {h : oH} {st e a y : Nat} (q : ¬ (a = 8 ∧ 3 ≤ y ∧ y ≤ 6)) : hI (nH (sH h st) e) a y = hI h a y := by
  unfold nH sH
  rw [sI_ne (by omega), sI_ne (by omega)]
theorem nHs_4 {h : oH} {st e : Nat} {v : Int32} (h1 : st < 1000) (h2 : e < 1000) : (hI (sI (nH (sH h st) e) 8 4 v) 8 3).toInt = (e : Int) ∧ hI (sI (nH (sH h st) e) 8 4 v) 8 4 = v ∧ (hI (sI (nH (sH h st) e) 8 4 v) 8 5).toInt = (st : Int) := by
  refine ⟨?_, sI_eq ⟨rfl, rfl⟩, ?_⟩
  · rw [sI_ne (by omega)]
    exact nH_3 h2
  · rw [sI_ne (by omega)]
    exact sH_5 h1
def rdF (h h' : oH) (T : Nat → Int) (z q : Nat) : Prop := (hI h' 8 3).toInt = ((xE T z q : Nat) : Int) ∧ (hI h' 8 4).toInt = ((xK T z q : Nat) : Int) ∧ (hI h' 8 5).toInt = ((xS T z q : Nat) : Int) ∧ (xK T z q = 5 → (hI h' 8 6).toInt = xV T z q) ∧ h'.1 = h.1 ∧ (∀ a y, hR h' a y = hR h a y) ∧ (∀ a y, hJ h' a y = hJ h a y) ∧ ∀ a y, ¬ (a = 8 ∧ 3 ≤ y ∧ y ≤ 6) → hI h' a y = hI h a y
theorem rdT (G : oG) {h : oH} (hs : oSh h) {z : Nat} {T : Nat → Int} (tp : tpC h z T) {q : Nat} (hq : q ≤ z) (hnx : (hI h 8 3).toInt = (q : Int)) : ∃ h', oSp G mX3_readToken [.ref 8] h none h' ∧ rdF h h' T z q := by
  have z3 := tp.2.1
  have hw := xS_w (T := T) hq
  have hw2 := xE_w (T := T) hq
  generalize hst : xS T z q = st at hw hw2
  have mk : ∀ (e K : Nat) (v : Int32), e < 1000 → xE T z q = e → xK T z q = K → v.toInt = (K : Int) → K ≠ 5 → rdF h (sI (nH (sH h st) e) 8 4 v) T z q := fun e K v he hE hK hv h5 => by
    have m := nHs_4 (h := h) (st := st) (e := e) (v := v) (by omega) he
    refine ⟨by rw [hE]; exact m.1, by rw [hK, m.2.1]; exact hv, by rw [hst]; exact m.2.2, fun q5 => absurd (hK.symm.trans q5) h5, rfl, fun _ _ => rfl, fun _ _ => rfl, fun a y c1 => ?_⟩
    rw [sI_ne (by omega)]
    exact nHs_o c1
  by_cases c0 : z ≤ st
  · exact ⟨_, sp_rd0 G hs tp hq hnx hst c0, mk st 0 0 (by omega) (by unfold xE xEs; rw [hst, if_pos c0]) (by unfold xK xKs; rw [hst, if_pos c0]) rfl (by decide)⟩
  · by_cases c1 : isL (T st) = true
    · have q2 := en_w (T := T) (P := isL) (z := z) (q := st) (by omega)
      have hk := nmK_c T st (en T isL z st)
      exact ⟨_, sp_rdL G hs tp hq hnx hst (by omega) (isL_i.mp c1), mk _ (nmK T st (en T isL z st)) _ (by omega) (by unfold xE xEs; rw [hst, if_neg c0, if_pos c1]) (by unfold xK xKs; rw [hst, if_neg c0, if_pos c1]) (kI_t (by omega)) (by omega)⟩
    · by_cases c2 : isF (T st) = true
      · have q2 := en_w (T := T) (P := isF) (z := z) (q := st) (by omega)
        by_cases c6 : en T isF z st ≤ st + 5
        · have hE : xE T z q = en T isF z st := by unfold xE xEs; rw [hst, if_neg c0, if_neg c1, if_pos c2]
          have hK : xK T z q = 5 := by unfold xK xKs; rw [hst, if_neg c0, if_neg c1, if_pos c2, if_neg (by omega)]
          refine ⟨_, sp_rdF G hs tp hq hnx hst (by omega) (isF_i.mp c2) c6, ?_, by rw [hK, sI_eq ⟨rfl, rfl⟩]; rfl, ?_, fun _ => ?_, rfl, fun _ _ => rfl, fun _ _ => rfl, fun a y c3 => ?_⟩
          · rw [hE, sI_ne (by omega), sI_ne (by omega)]
            exact nH_3 (by omega)
          · rw [hst, sI_ne (by omega), sI_ne (by omega)]
            exact sH_5 (by omega)
          · have hb := nv_b (T := T) (s := st) (en T isF z st - st) (by omega) (fun j hj => isF_i.mp (q2.2.2.2 (st + j) (by omega) (by omega)))
            have hp := p10 (en T isF z st - st) (by omega)
            rw [sI_ne (by omega), sI_eq ⟨rfl, rfl⟩, oI_t (by omega)]
            unfold xV
            rw [hst, hE]
          · rw [sI_ne (by omega), sI_ne (by omega)]
            exact nHs_o c3
        · exact ⟨_, sp_rdX G hs tp hq hnx hst (by omega) (isF_i.mp c2) c6, mk _ 8 8 (by omega) (by unfold xE xEs; rw [hst, if_neg c0, if_neg c1, if_pos c2]) (by unfold xK xKs; rw [hst, if_neg c0, if_neg c1, if_pos c2, if_pos (by omega)]) rfl (by decide)⟩
      · have hK : xK T z q = if T st = 59 then 6 else if T st = 64 then 7 else 8 := by unfold xK xKs; rw [hst, if_neg c0, if_neg c1, if_neg c2]
        refine ⟨_, sp_rdS G hs tp hq hnx hst (by omega) (fun a => c1 (isL_i.mpr a)) (fun a => c2 (isF_i.mpr a)), mk (st + 1) _ _ (by omega) (by unfold xE xEs; rw [hst, if_neg c0, if_neg c1, if_neg c2]) hK ?_ ?_⟩
        · exact kI_t (by (repeat' split) <;> omega)
        · (repeat' split) <;> omega
def tpM (h : oH) (z : Nat) (T : Nat → Int) : Prop := (hI h 12 31).toInt = (z : Int) ∧ z ≤ 300 ∧ ∀ j, j < z → (hI h 29 j).toInt = T j ∧ 0 ≤ T j ∧ T j ≤ 255
theorem tpM.fr {h h' : oH} {z : Nat} {T : Nat → Int} (t : tpM h z T) (e1 : hI h' 12 31 = hI h 12 31) (e9 : ∀ j, hI h' 29 j = hI h 29 j) : tpM h' z T := ⟨by rw [e1]; exact t.1, t.2.1, fun j hj => by rw [e9]; exact t.2.2 j hj⟩
def mH (h : oH) (q : Nat) : oH := sI h 12 32 (kI q)
theorem mH_3 {h : oH} {q : Nat} (hq : q < 1000) : (hI (mH h q) 12 32).toInt = (q : Int) := by
  unfold mH
  rw [sI_eq ⟨rfl, rfl⟩]
  exact kI_t (by omega)
theorem mH_s {h : oH} {q : Nat} (hq : q < 1000) : sI (mH h q) 12 32 (hI (mH h q) 12 32 + 1) = mH h (q + 1) := by
  rw [kI_e (k := q + 1) ((tA (mH_3 hq) (show (1 : Int32).toInt = 1 from rfl) (by omega)).trans (by omega))]
  unfold mH
  rw [sI_sI]
theorem mH_id {h : oH} {q : Nat} (e : (hI h 12 32).toInt = (q : Int)) : h = mH h q := by
  unfold mH
  rw [← kI_e e, sI_self]
def pH (h : oH) (s : Nat) : oH := sI h 12 34 (kI s)
theorem pl_e {h : oH} {s : Nat} (hq : s < 1000) : sI (mH h s) 12 34 (hI (mH h s) 12 32) = mH (pH h s) s := by
  rw [kI_e (mH_3 (h := h) hq)]
  unfold mH pH
  rw [sI_cm _ _ _ (by omega)]
theorem pH_4 {h : oH} {s e : Nat} (hq : s < 1000) : (hI (mH (pH h s) e) 12 34).toInt = (s : Int) := by
  unfold mH pH
  rw [sI_ne (by omega), sI_eq ⟨rfl, rfl⟩]
  exact kI_t (by omega)
set_option maxHeartbeats 4000000 in
set_option maxRecDepth 100000 in
theorem sp_byM (G : oG) {h : oH} (hs : oSh h) {z : Nat} {T : Nat → Int} (tp : tpM h z T) (x : Int32) {j : Nat} (hx : x.toInt = (j : Int)) (hj : j < z) : oSp G mX6_byteAt [.ref 12, .int x] h (some (.int (hI h 29 j))) h := by
  have z3 := tp.2.1
  refine oSp.intro [some (.ref 12), some (.int x)] rfl (Nat.le_of_ble_eq_true rfl) (plainFor_of_name (by decide +kernel)) (Nat.le_refl _) ?_
  intro p l e R s m args below meth c C
  refine r_iload_n C rfl dX6_byteAt_0 ?_
  refine r_aload_n C rfl rfl dX6_byteAt_1 ?_
  refine r_getI C dX6_byteAt_2 fl_X6_206 rfl (q_lt hs (by decide)) ?_
  refine t_icmp_ge C 17 (by decide) hx tp.1 dX6_byteAt_5 (fun c5 => ?_) (fun c5 => ?_)
  · first
    | (exfalso; omega)
    |  (refine r_ldc C _ lc_X6_145 dX6_byteAt_17 ?_
        exact r_iret C dX6_byteAt_19 rfl (Nat.le_refl _) rfl rfl)
  · first
    | (exfalso; omega)
    |  (refine r_aload_n C rfl rfl dX6_byteAt_8 ?_
        refine r_getO C dX6_byteAt_9 fl_X6_72 rfl rfl (q_lt hs (by decide)) (sh_12_28 hs) ?_
        refine r_iload_n C rfl dX6_byteAt_12 ?_
        refine r_iald C (j) hx (by omega) dX6_byteAt_13 rfl (q_lt hs (by decide)) ?_
        refine r_goto C 19 (by decide) dX6_byteAt_14 ?_
        exact r_iret C dX6_byteAt_19 rfl (Nat.le_refl _) rfl rfl)

set_option maxHeartbeats 4000000 in
set_option maxRecDepth 100000 in
theorem sp_byMN (G : oG) {h : oH} (hs : oSh h) {z : Nat} {T : Nat → Int} (tp : tpM h z T) (x : Int32) {j : Nat} (hx : x.toInt = (j : Int)) (hj : z ≤ j) : oSp G mX6_byteAt [.ref 12, .int x] h (some (.int (-1000000))) h := by
  have z3 := tp.2.1
  refine oSp.intro [some (.ref 12), some (.int x)] rfl (Nat.le_of_ble_eq_true rfl) (plainFor_of_name (by decide +kernel)) (Nat.le_refl _) ?_
  intro p l e R s m args below meth c C
  refine r_iload_n C rfl dX6_byteAt_0 ?_
  refine r_aload_n C rfl rfl dX6_byteAt_1 ?_
  refine r_getI C dX6_byteAt_2 fl_X6_206 rfl (q_lt hs (by decide)) ?_
  refine t_icmp_ge C 17 (by decide) hx tp.1 dX6_byteAt_5 (fun c5 => ?_) (fun c5 => ?_)
  · first
    | (exfalso; omega)
    |  (refine r_ldc C _ lc_X6_145 dX6_byteAt_17 ?_
        exact r_iret C dX6_byteAt_19 rfl (Nat.le_refl _) rfl rfl)
  · first
    | (exfalso; omega)
    |  (refine r_aload_n C rfl rfl dX6_byteAt_8 ?_
        refine r_getO C dX6_byteAt_9 fl_X6_72 rfl rfl (q_lt hs (by decide)) (sh_12_28 hs) ?_
        refine r_iload_n C rfl dX6_byteAt_12 ?_
        refine r_iald C (j) hx (by omega) dX6_byteAt_13 rfl (q_lt hs (by decide)) ?_
        refine r_goto C 19 (by decide) dX6_byteAt_14 ?_
        exact r_iret C dX6_byteAt_19 rfl (Nat.le_refl _) rfl rfl)

set_option maxHeartbeats 4000000 in
set_option maxRecDepth 100000 in
theorem lp_wm (G : oG) {p : Program} {l : Launch} {e : Env} {R : Room} {s : State} {m : MethodId} {args : Array Value} {below : List Frame} {meth : Method} {c : Code} {n0 nF : Nat} {Z : State → Prop} {h : oH} (hs0 : oSh h) {z : Nat} {T : Nat → Int} (tp0 : tpM h z T) {l1 : Option Value} (C : oC G mX6_step n0 nF p l R s m args meth c) (hF0 : h.1 ≤ nF) : ∀ (k q : Nat), q + k = z → oS G mX6_step p l e R s m args below meth c (Z) n0 39 [some (.ref 12), l1] [] (mH h (en T isW z q)) → oS G mX6_step p l e R s m args below meth c (Z) n0 0 [some (.ref 12), l1] [] (mH h q) := by
  have z3 := tp0.2.1
  intro k
  induction k with
  | zero =>
    intro q hqk K
    have hs : oSh (mH h q) := hs0
    have tp : tpM (mH h q) z T := tp0.fr rfl (fun _ => rfl)
    have h3 := mH_3 (h := h) (q := q) (by omega)
    have hF : (mH h q).1 ≤ nF := hF0
    have en0 : (-1000000 : Int32).toInt = -1000000 := rfl
    rw [en_stop (by omega)] at K
    refine r_aload_n C rfl rfl dX6_step_0 ?_
    refine r_aload_n C rfl rfl dX6_step_1 ?_
    refine r_getI C dX6_step_2 fl_X6_209 rfl (q_lt hs (by decide)) ?_
    refine r_callV C (sp_byMN G hs tp _ h3 (by omega)) kv_X6_byteAt kn_X6_byteAt rfl dX6_step_5 cl_X6_212 ⟨Nat.le_of_ble_eq_true rfl, Nat.le_of_ble_eq_true rfl⟩ (by decide) rfl rfl (q_lt hs (by decide)) hF rfl (Nat.le_of_ble_eq_true rfl) ?_
    refine r_bipush C 32 rfl dX6_step_8 ?_
    refine t_icmp_eq C 26 (by decide) (show ((-1000000) : Int32).toInt = (-1000000) from rfl) (show (32 : Int32).toInt = 32 from rfl) dX6_step_10 (fun c10 => ?_) (fun c10 => ?_)
    · first
      | (exfalso; omega)
      |  (refine r_aload_n C rfl rfl dX6_step_26 ?_
          refine r_dup C rfl dX6_step_27 ?_
          refine r_getI C dX6_step_28 fl_X6_209 rfl (q_lt hs (by decide)) ?_
          refine r_iconstv C 1 rfl dX6_step_31 ?_
          refine r_iadd C dX6_step_32 ?_
          refine r_putI C dX6_step_33 fl_X6_209 rfl (q_lt hs (by decide)) (Or.inl rfl) ?_
          refine r_goto C 0 (by decide) dX6_step_36 ?_
          (exfalso; omega))
    · first
      | (exfalso; omega)
      |  (refine r_aload_n C rfl rfl dX6_step_13 ?_
          refine r_aload_n C rfl rfl dX6_step_14 ?_
          refine r_getI C dX6_step_15 fl_X6_209 rfl (q_lt hs (by decide)) ?_
          refine r_callV C (sp_byMN G hs tp _ h3 (by omega)) kv_X6_byteAt kn_X6_byteAt rfl dX6_step_18 cl_X6_212 ⟨Nat.le_of_ble_eq_true rfl, Nat.le_of_ble_eq_true rfl⟩ (by decide) rfl rfl (q_lt hs (by decide)) hF rfl (Nat.le_of_ble_eq_true rfl) ?_
          refine r_bipush C 10 rfl dX6_step_21 ?_
          refine t_icmp_ne C 39 (by decide) (show ((-1000000) : Int32).toInt = (-1000000) from rfl) (show (10 : Int32).toInt = 10 from rfl) dX6_step_23 (fun c23 => ?_) (fun c23 => ?_)
          · first
            | (exfalso; omega)
            |  (exact K)
          · first
            | (exfalso; omega)
            |  (refine r_aload_n C rfl rfl dX6_step_26 ?_
                refine r_dup C rfl dX6_step_27 ?_
                refine r_getI C dX6_step_28 fl_X6_209 rfl (q_lt hs (by decide)) ?_
                refine r_iconstv C 1 rfl dX6_step_31 ?_
                refine r_iadd C dX6_step_32 ?_
                refine r_putI C dX6_step_33 fl_X6_209 rfl (q_lt hs (by decide)) (Or.inl rfl) ?_
                refine r_goto C 0 (by decide) dX6_step_36 ?_
                (exfalso; omega)))
  | succ k ih =>
    intro q hqk K
    have hq : q < z := by omega
    have hs : oSh (mH h q) := hs0
    have tp : tpM (mH h q) z T := tp0.fr rfl (fun _ => rfl)
    have h3 := mH_3 (h := h) (q := q) (by omega)
    have hT := (tp.2.2 q hq).1
    have hF : (mH h q).1 ≤ nF := hF0
    by_cases hw : isW (T q) = true
    · rw [en_go hq hw] at K
      rw [isW_i] at hw
      refine r_aload_n C rfl rfl dX6_step_0 ?_
      refine r_aload_n C rfl rfl dX6_step_1 ?_
      refine r_getI C dX6_step_2 fl_X6_209 rfl (q_lt hs (by decide)) ?_
      refine r_callV C (sp_byM G hs tp _ h3 hq) kv_X6_byteAt kn_X6_byteAt rfl dX6_step_5 cl_X6_212 ⟨Nat.le_of_ble_eq_true rfl, Nat.le_of_ble_eq_true rfl⟩ (by decide) rfl rfl (q_lt hs (by decide)) hF rfl (Nat.le_of_ble_eq_true rfl) ?_
      refine r_bipush C 32 rfl dX6_step_8 ?_
      refine t_icmp_eq C 26 (by decide) hT (show (32 : Int32).toInt = 32 from rfl) dX6_step_10 (fun c10 => ?_) (fun c10 => ?_)
      · first
        | (exfalso; omega)
        |  (refine r_aload_n C rfl rfl dX6_step_26 ?_
            refine r_dup C rfl dX6_step_27 ?_
            refine r_getI C dX6_step_28 fl_X6_209 rfl (q_lt hs (by decide)) ?_
            refine r_iconstv C 1 rfl dX6_step_31 ?_
            refine r_iadd C dX6_step_32 ?_
            refine r_putI C dX6_step_33 fl_X6_209 rfl (q_lt hs (by decide)) (Or.inl rfl) ?_
            refine r_goto C 0 (by decide) dX6_step_36 ?_
            exact oS_h (mH_s (by omega)) (ih (q + 1) (by omega) K))
      · first
        | (exfalso; omega)
        |  (refine r_aload_n C rfl rfl dX6_step_13 ?_
            refine r_aload_n C rfl rfl dX6_step_14 ?_
            refine r_getI C dX6_step_15 fl_X6_209 rfl (q_lt hs (by decide)) ?_
            refine r_callV C (sp_byM G hs tp _ h3 hq) kv_X6_byteAt kn_X6_byteAt rfl dX6_step_18 cl_X6_212 ⟨Nat.le_of_ble_eq_true rfl, Nat.le_of_ble_eq_true rfl⟩ (by decide) rfl rfl (q_lt hs (by decide)) hF rfl (Nat.le_of_ble_eq_true rfl) ?_
            refine r_bipush C 10 rfl dX6_step_21 ?_
            refine t_icmp_ne C 39 (by decide) hT (show (10 : Int32).toInt = 10 from rfl) dX6_step_23 (fun c23 => ?_) (fun c23 => ?_)
            · first
              | (exfalso; omega)
              |  ((exfalso; omega))
            · first
              | (exfalso; omega)
              |  (refine r_aload_n C rfl rfl dX6_step_26 ?_
                  refine r_dup C rfl dX6_step_27 ?_
                  refine r_getI C dX6_step_28 fl_X6_209 rfl (q_lt hs (by decide)) ?_
                  refine r_iconstv C 1 rfl dX6_step_31 ?_
                  refine r_iadd C dX6_step_32 ?_
                  refine r_putI C dX6_step_33 fl_X6_209 rfl (q_lt hs (by decide)) (Or.inl rfl) ?_
                  refine r_goto C 0 (by decide) dX6_step_36 ?_
                  exact oS_h (mH_s (by omega)) (ih (q + 1) (by omega) K)))
    · rw [en_stop (fun a => hw a.2)] at K
      rw [isW_i] at hw
      refine r_aload_n C rfl rfl dX6_step_0 ?_
      refine r_aload_n C rfl rfl dX6_step_1 ?_
      refine r_getI C dX6_step_2 fl_X6_209 rfl (q_lt hs (by decide)) ?_
      refine r_callV C (sp_byM G hs tp _ h3 hq) kv_X6_byteAt kn_X6_byteAt rfl dX6_step_5 cl_X6_212 ⟨Nat.le_of_ble_eq_true rfl, Nat.le_of_ble_eq_true rfl⟩ (by decide) rfl rfl (q_lt hs (by decide)) hF rfl (Nat.le_of_ble_eq_true rfl) ?_
      refine r_bipush C 32 rfl dX6_step_8 ?_
      refine t_icmp_eq C 26 (by decide) hT (show (32 : Int32).toInt = 32 from rfl) dX6_step_10 (fun c10 => ?_) (fun c10 => ?_)
      · first
        | (exfalso; omega)
        |  (refine r_aload_n C rfl rfl dX6_step_26 ?_
            refine r_dup C rfl dX6_step_27 ?_
            refine r_getI C dX6_step_28 fl_X6_209 rfl (q_lt hs (by decide)) ?_
            refine r_iconstv C 1 rfl dX6_step_31 ?_
            refine r_iadd C dX6_step_32 ?_
            refine r_putI C dX6_step_33 fl_X6_209 rfl (q_lt hs (by decide)) (Or.inl rfl) ?_
            refine r_goto C 0 (by decide) dX6_step_36 ?_
            (exfalso; omega))
      · first
        | (exfalso; omega)
        |  (refine r_aload_n C rfl rfl dX6_step_13 ?_
            refine r_aload_n C rfl rfl dX6_step_14 ?_
            refine r_getI C dX6_step_15 fl_X6_209 rfl (q_lt hs (by decide)) ?_
            refine r_callV C (sp_byM G hs tp _ h3 hq) kv_X6_byteAt kn_X6_byteAt rfl dX6_step_18 cl_X6_212 ⟨Nat.le_of_ble_eq_true rfl, Nat.le_of_ble_eq_true rfl⟩ (by decide) rfl rfl (q_lt hs (by decide)) hF rfl (Nat.le_of_ble_eq_true rfl) ?_
            refine r_bipush C 10 rfl dX6_step_21 ?_
            refine t_icmp_ne C 39 (by decide) hT (show (10 : Int32).toInt = 10 from rfl) dX6_step_23 (fun c23 => ?_) (fun c23 => ?_)
            · first
              | (exfalso; omega)
              |  (exact K)
            · first
              | (exfalso; omega)
              |  (refine r_aload_n C rfl rfl dX6_step_26 ?_
                  refine r_dup C rfl dX6_step_27 ?_
                  refine r_getI C dX6_step_28 fl_X6_209 rfl (q_lt hs (by decide)) ?_
                  refine r_iconstv C 1 rfl dX6_step_31 ?_
                  refine r_iadd C dX6_step_32 ?_
                  refine r_putI C dX6_step_33 fl_X6_209 rfl (q_lt hs (by decide)) (Or.inl rfl) ?_
                  refine r_goto C 0 (by decide) dX6_step_36 ?_
                  (exfalso; omega)))

set_option maxHeartbeats 4000000 in
set_option maxRecDepth 100000 in
theorem lp_lm (G : oG) {p : Program} {l : Launch} {e : Env} {R : Room} {s : State} {m : MethodId} {args : Array Value} {below : List Frame} {meth : Method} {c : Code} {n0 nF : Nat} {Z : State → Prop} {h : oH} (hs0 : oSh h) {z : Nat} {T : Nat → Int} (tp0 : tpM h z T) {l1 : Option Value} (C : oC G mX6_step n0 nF p l R s m args meth c) (hF0 : h.1 ≤ nF) : ∀ (k q : Nat), q + k = z → oS G mX6_step p l e R s m args below meth c (Z) n0 104 [some (.ref 12), l1] [] (mH h (en T isL z q)) → oS G mX6_step p l e R s m args below meth c (Z) n0 77 [some (.ref 12), l1] [] (mH h q) := by
  have z3 := tp0.2.1
  intro k
  induction k with
  | zero =>
    intro q hqk K
    have hs : oSh (mH h q) := hs0
    have tp : tpM (mH h q) z T := tp0.fr rfl (fun _ => rfl)
    have h3 := mH_3 (h := h) (q := q) (by omega)
    have hF : (mH h q).1 ≤ nF := hF0
    have en0 : (-1000000 : Int32).toInt = -1000000 := rfl
    rw [en_stop (by omega)] at K
    refine r_aload_n C rfl rfl dX6_step_77 ?_
    refine r_aload_n C rfl rfl dX6_step_78 ?_
    refine r_getI C dX6_step_79 fl_X6_209 rfl (q_lt hs (by decide)) ?_
    refine r_callV C (sp_byMN G hs tp _ h3 (by omega)) kv_X6_byteAt kn_X6_byteAt rfl dX6_step_82 cl_X6_212 ⟨Nat.le_of_ble_eq_true rfl, Nat.le_of_ble_eq_true rfl⟩ (by decide) rfl rfl (q_lt hs (by decide)) hF rfl (Nat.le_of_ble_eq_true rfl) ?_
    refine r_callS C (sp_isLM G _) ks_X6_isLetter kn_X6_isLetter rfl dX6_step_85 cl_X6_221 ⟨Nat.le_of_ble_eq_true rfl, Nat.le_of_ble_eq_true rfl⟩ hF rfl (Nat.le_of_ble_eq_true rfl) ?_
    refine t_ifb_eq C 104 (by decide) dX6_step_88 (fun c88 => ?_) (fun c88 => ?_)
    · first
      | (exfalso; omega)
      |  (exact K)
    · first
      | (exfalso; omega)
      |  (refine r_aload_n C rfl rfl dX6_step_91 ?_
          refine r_dup C rfl dX6_step_92 ?_
          refine r_getI C dX6_step_93 fl_X6_209 rfl (q_lt hs (by decide)) ?_
          refine r_iconstv C 1 rfl dX6_step_96 ?_
          refine r_iadd C dX6_step_97 ?_
          refine r_putI C dX6_step_98 fl_X6_209 rfl (q_lt hs (by decide)) (Or.inl rfl) ?_
          refine r_goto C 77 (by decide) dX6_step_101 ?_
          (exfalso; omega))
  | succ k ih =>
    intro q hqk K
    have hq : q < z := by omega
    have hs : oSh (mH h q) := hs0
    have tp : tpM (mH h q) z T := tp0.fr rfl (fun _ => rfl)
    have h3 := mH_3 (h := h) (q := q) (by omega)
    have hT := (tp.2.2 q hq).1
    have hF : (mH h q).1 ≤ nF := hF0
    by_cases hw : isL (T q) = true
    · rw [en_go hq hw] at K
      rw [isL_i] at hw
      refine r_aload_n C rfl rfl dX6_step_77 ?_
      refine r_aload_n C rfl rfl dX6_step_78 ?_
      refine r_getI C dX6_step_79 fl_X6_209 rfl (q_lt hs (by decide)) ?_
      refine r_callV C (sp_byM G hs tp _ h3 hq) kv_X6_byteAt kn_X6_byteAt rfl dX6_step_82 cl_X6_212 ⟨Nat.le_of_ble_eq_true rfl, Nat.le_of_ble_eq_true rfl⟩ (by decide) rfl rfl (q_lt hs (by decide)) hF rfl (Nat.le_of_ble_eq_true rfl) ?_
      refine r_callS C (sp_isLM G _) ks_X6_isLetter kn_X6_isLetter rfl dX6_step_85 cl_X6_221 ⟨Nat.le_of_ble_eq_true rfl, Nat.le_of_ble_eq_true rfl⟩ hF rfl (Nat.le_of_ble_eq_true rfl) ?_
      refine t_ifb_eq C 104 (by decide) dX6_step_88 (fun c88 => ?_) (fun c88 => ?_)
      · first
        | (exfalso; omega)
        |  ((exfalso; omega))
      · first
        | (exfalso; omega)
        |  (refine r_aload_n C rfl rfl dX6_step_91 ?_
            refine r_dup C rfl dX6_step_92 ?_
            refine r_getI C dX6_step_93 fl_X6_209 rfl (q_lt hs (by decide)) ?_
            refine r_iconstv C 1 rfl dX6_step_96 ?_
            refine r_iadd C dX6_step_97 ?_
            refine r_putI C dX6_step_98 fl_X6_209 rfl (q_lt hs (by decide)) (Or.inl rfl) ?_
            refine r_goto C 77 (by decide) dX6_step_101 ?_
            exact oS_h (mH_s (by omega)) (ih (q + 1) (by omega) K))
    · rw [en_stop (fun a => hw a.2)] at K
      rw [isL_i] at hw
      refine r_aload_n C rfl rfl dX6_step_77 ?_
      refine r_aload_n C rfl rfl dX6_step_78 ?_
      refine r_getI C dX6_step_79 fl_X6_209 rfl (q_lt hs (by decide)) ?_
      refine r_callV C (sp_byM G hs tp _ h3 hq) kv_X6_byteAt kn_X6_byteAt rfl dX6_step_82 cl_X6_212 ⟨Nat.le_of_ble_eq_true rfl, Nat.le_of_ble_eq_true rfl⟩ (by decide) rfl rfl (q_lt hs (by decide)) hF rfl (Nat.le_of_ble_eq_true rfl) ?_
      refine r_callS C (sp_isLM G _) ks_X6_isLetter kn_X6_isLetter rfl dX6_step_85 cl_X6_221 ⟨Nat.le_of_ble_eq_true rfl, Nat.le_of_ble_eq_true rfl⟩ hF rfl (Nat.le_of_ble_eq_true rfl) ?_
      refine t_ifb_eq C 104 (by decide) dX6_step_88 (fun c88 => ?_) (fun c88 => ?_)
      · first
        | (exfalso; omega)
        |  (exact K)
      · first
        | (exfalso; omega)
        |  (refine r_aload_n C rfl rfl dX6_step_91 ?_
            refine r_dup C rfl dX6_step_92 ?_
            refine r_getI C dX6_step_93 fl_X6_209 rfl (q_lt hs (by decide)) ?_
            refine r_iconstv C 1 rfl dX6_step_96 ?_
            refine r_iadd C dX6_step_97 ?_
            refine r_putI C dX6_step_98 fl_X6_209 rfl (q_lt hs (by decide)) (Or.inl rfl) ?_
            refine r_goto C 77 (by decide) dX6_step_101 ?_
            (exfalso; omega))

set_option maxHeartbeats 4000000 in
set_option maxRecDepth 100000 in
theorem lp_fm (G : oG) {p : Program} {l : Launch} {e : Env} {R : Room} {s : State} {m : MethodId} {args : Array Value} {below : List Frame} {meth : Method} {c : Code} {n0 nF : Nat} {Z : State → Prop} {h : oH} (hs0 : oSh h) {z : Nat} {T : Nat → Int} (tp0 : tpM h z T) {l1 : Option Value} (C : oC G mX6_step n0 nF p l R s m args meth c) (hF0 : h.1 ≤ nF) : ∀ (k q : Nat), q + k = z → oS G mX6_step p l e R s m args below meth c (Z) n0 164 [some (.ref 12), l1] [] (mH h (en T isF z q)) → oS G mX6_step p l e R s m args below meth c (Z) n0 137 [some (.ref 12), l1] [] (mH h q) := by
  have z3 := tp0.2.1
  intro k
  induction k with
  | zero =>
    intro q hqk K
    have hs : oSh (mH h q) := hs0
    have tp : tpM (mH h q) z T := tp0.fr rfl (fun _ => rfl)
    have h3 := mH_3 (h := h) (q := q) (by omega)
    have hF : (mH h q).1 ≤ nF := hF0
    have en0 : (-1000000 : Int32).toInt = -1000000 := rfl
    rw [en_stop (by omega)] at K
    refine r_aload_n C rfl rfl dX6_step_137 ?_
    refine r_aload_n C rfl rfl dX6_step_138 ?_
    refine r_getI C dX6_step_139 fl_X6_209 rfl (q_lt hs (by decide)) ?_
    refine r_callV C (sp_byMN G hs tp _ h3 (by omega)) kv_X6_byteAt kn_X6_byteAt rfl dX6_step_142 cl_X6_212 ⟨Nat.le_of_ble_eq_true rfl, Nat.le_of_ble_eq_true rfl⟩ (by decide) rfl rfl (q_lt hs (by decide)) hF rfl (Nat.le_of_ble_eq_true rfl) ?_
    refine r_callS C (sp_isFM G _) ks_X6_isFigure kn_X6_isFigure rfl dX6_step_145 cl_X6_224 ⟨Nat.le_of_ble_eq_true rfl, Nat.le_of_ble_eq_true rfl⟩ hF rfl (Nat.le_of_ble_eq_true rfl) ?_
    refine t_ifb_eq C 164 (by decide) dX6_step_148 (fun c148 => ?_) (fun c148 => ?_)
    · first
      | (exfalso; omega)
      |  (exact K)
    · first
      | (exfalso; omega)
      |  (refine r_aload_n C rfl rfl dX6_step_151 ?_
          refine r_dup C rfl dX6_step_152 ?_
          refine r_getI C dX6_step_153 fl_X6_209 rfl (q_lt hs (by decide)) ?_
          refine r_iconstv C 1 rfl dX6_step_156 ?_
          refine r_iadd C dX6_step_157 ?_
          refine r_putI C dX6_step_158 fl_X6_209 rfl (q_lt hs (by decide)) (Or.inl rfl) ?_
          refine r_goto C 137 (by decide) dX6_step_161 ?_
          (exfalso; omega))
  | succ k ih =>
    intro q hqk K
    have hq : q < z := by omega
    have hs : oSh (mH h q) := hs0
    have tp : tpM (mH h q) z T := tp0.fr rfl (fun _ => rfl)
    have h3 := mH_3 (h := h) (q := q) (by omega)
    have hT := (tp.2.2 q hq).1
    have hF : (mH h q).1 ≤ nF := hF0
    by_cases hw : isF (T q) = true
    · rw [en_go hq hw] at K
      rw [isF_i] at hw
      refine r_aload_n C rfl rfl dX6_step_137 ?_
      refine r_aload_n C rfl rfl dX6_step_138 ?_
      refine r_getI C dX6_step_139 fl_X6_209 rfl (q_lt hs (by decide)) ?_
      refine r_callV C (sp_byM G hs tp _ h3 hq) kv_X6_byteAt kn_X6_byteAt rfl dX6_step_142 cl_X6_212 ⟨Nat.le_of_ble_eq_true rfl, Nat.le_of_ble_eq_true rfl⟩ (by decide) rfl rfl (q_lt hs (by decide)) hF rfl (Nat.le_of_ble_eq_true rfl) ?_
      refine r_callS C (sp_isFM G _) ks_X6_isFigure kn_X6_isFigure rfl dX6_step_145 cl_X6_224 ⟨Nat.le_of_ble_eq_true rfl, Nat.le_of_ble_eq_true rfl⟩ hF rfl (Nat.le_of_ble_eq_true rfl) ?_
      refine t_ifb_eq C 164 (by decide) dX6_step_148 (fun c148 => ?_) (fun c148 => ?_)
      · first
        | (exfalso; omega)
        |  ((exfalso; omega))
      · first
        | (exfalso; omega)
        |  (refine r_aload_n C rfl rfl dX6_step_151 ?_
            refine r_dup C rfl dX6_step_152 ?_
            refine r_getI C dX6_step_153 fl_X6_209 rfl (q_lt hs (by decide)) ?_
            refine r_iconstv C 1 rfl dX6_step_156 ?_
            refine r_iadd C dX6_step_157 ?_
            refine r_putI C dX6_step_158 fl_X6_209 rfl (q_lt hs (by decide)) (Or.inl rfl) ?_
            refine r_goto C 137 (by decide) dX6_step_161 ?_
            exact oS_h (mH_s (by omega)) (ih (q + 1) (by omega) K))
    · rw [en_stop (fun a => hw a.2)] at K
      rw [isF_i] at hw
      refine r_aload_n C rfl rfl dX6_step_137 ?_
      refine r_aload_n C rfl rfl dX6_step_138 ?_
      refine r_getI C dX6_step_139 fl_X6_209 rfl (q_lt hs (by decide)) ?_
      refine r_callV C (sp_byM G hs tp _ h3 hq) kv_X6_byteAt kn_X6_byteAt rfl dX6_step_142 cl_X6_212 ⟨Nat.le_of_ble_eq_true rfl, Nat.le_of_ble_eq_true rfl⟩ (by decide) rfl rfl (q_lt hs (by decide)) hF rfl (Nat.le_of_ble_eq_true rfl) ?_
      refine r_callS C (sp_isFM G _) ks_X6_isFigure kn_X6_isFigure rfl dX6_step_145 cl_X6_224 ⟨Nat.le_of_ble_eq_true rfl, Nat.le_of_ble_eq_true rfl⟩ hF rfl (Nat.le_of_ble_eq_true rfl) ?_
      refine t_ifb_eq C 164 (by decide) dX6_step_148 (fun c148 => ?_) (fun c148 => ?_)
      · first
        | (exfalso; omega)
        |  (exact K)
      · first
        | (exfalso; omega)
        |  (refine r_aload_n C rfl rfl dX6_step_151 ?_
            refine r_dup C rfl dX6_step_152 ?_
            refine r_getI C dX6_step_153 fl_X6_209 rfl (q_lt hs (by decide)) ?_
            refine r_iconstv C 1 rfl dX6_step_156 ?_
            refine r_iadd C dX6_step_157 ?_
            refine r_putI C dX6_step_158 fl_X6_209 rfl (q_lt hs (by decide)) (Or.inl rfl) ?_
            refine r_goto C 137 (by decide) dX6_step_161 ?_
            (exfalso; omega))

set_option maxHeartbeats 4000000 in
set_option maxRecDepth 100000 in
theorem sp_st0 (G : oG) {h : oH} (hs0 : oSh h) {z : Nat} {T : Nat → Int} (tp0 : tpM h z T) {q : Nat} (hq : q ≤ z) (hnx : (hI h 12 32).toInt = (q : Int)) {st : Nat} (hst : xS T z q = st) (hz : z ≤ st) : oSp G mX6_step [.ref 12] h none (sI (sI (mH (pH h st) st) 12 33 1) 12 35 (kI st)) := by
  have z3 := tp0.2.1
  have hw := xS_w (T := T) hq
  rw [hst] at hw
  refine oSp.intro [some (.ref 12), none] rfl (Nat.le_of_ble_eq_true rfl) (plainFor_of_name (by decide +kernel)) (Nat.le_refl _) ?_
  intro p l e R s m args below meth c C
  refine oS_h (mH_id hnx) (lp_wm G hs0 tp0 C (Nat.le_refl _) (z - q) q (by omega) ?_)
  rw [show en T isW z q = st from hst]
  have hs : oSh (mH (pH h st) st) := hs0
  have tp : tpM (mH (pH h st) st) z T := tp0.fr rfl (fun _ => rfl)
  have h3 := mH_3 (h := pH h st) (q := st) (by omega)
  have h5 := pH_4 (h := h) (s := st) (e := st) (by omega)
  refine r_aload_n C rfl rfl dX6_step_39 ?_
  refine r_aload_n C rfl rfl dX6_step_40 ?_
  refine r_getI C dX6_step_41 fl_X6_209 rfl (q_lt hs (by decide)) ?_
  refine r_putI C dX6_step_44 fl_X6_215 rfl (q_lt hs (by decide)) (Or.inl rfl) ?_
  refine oS_h (pl_e (by omega)) ?_
  refine r_aload_n C rfl rfl dX6_step_47 ?_
  refine r_aload_n C rfl rfl dX6_step_48 ?_
  refine r_getI C dX6_step_49 fl_X6_209 rfl (q_lt hs (by decide)) ?_
  refine r_callV C (sp_byMN G hs tp _ h3 (by omega)) kv_X6_byteAt kn_X6_byteAt rfl dX6_step_52 cl_X6_212 ⟨Nat.le_of_ble_eq_true rfl, Nat.le_of_ble_eq_true rfl⟩ (by decide) rfl rfl (q_lt hs (by decide)) (Nat.le_refl _) rfl (Nat.le_of_ble_eq_true rfl) ?_
  refine r_istore_n C rfl (Nat.le_of_ble_eq_true rfl) dX6_step_55 ?_
  refine r_iload_n C rfl dX6_step_56 ?_
  refine r_ldc C _ lc_X6_145 dX6_step_57 ?_
  refine t_icmp_ne C 70 (by decide) (show ((-1000000) : Int32).toInt = (-1000000) from rfl) (show ((-1000000) : Int32).toInt = (-1000000) from rfl) dX6_step_59 (fun c59 => ?_) (fun c59 => ?_)
  · first
    | (exfalso; omega)
    |  (refine r_iload_n C rfl dX6_step_70 ?_
        refine r_callS C (sp_isLM G _) ks_X6_isLetter kn_X6_isLetter rfl dX6_step_71 cl_X6_221 ⟨Nat.le_of_ble_eq_true rfl, Nat.le_of_ble_eq_true rfl⟩ (Nat.le_refl _) rfl (Nat.le_of_ble_eq_true rfl) ?_
        refine t_ifb_eq C 130 (by decide) dX6_step_74 (fun c74 => ?_) (fun c74 => ?_)
        · first
          | (exfalso; omega)
          |  (refine r_iload_n C rfl dX6_step_130 ?_
              refine r_callS C (sp_isFM G _) ks_X6_isFigure kn_X6_isFigure rfl dX6_step_131 cl_X6_224 ⟨Nat.le_of_ble_eq_true rfl, Nat.le_of_ble_eq_true rfl⟩ (Nat.le_refl _) rfl (Nat.le_of_ble_eq_true rfl) ?_
              refine t_ifb_eq C 189 (by decide) dX6_step_134 (fun c134 => ?_) (fun c134 => ?_)
              · first
                | (exfalso; omega)
                |  (refine r_aload_n C rfl rfl dX6_step_189 ?_
                    refine r_dup C rfl dX6_step_190 ?_
                    refine r_getI C dX6_step_191 fl_X6_209 rfl (q_lt hs (by decide)) ?_
                    refine r_iconstv C 1 rfl dX6_step_194 ?_
                    refine r_iadd C dX6_step_195 ?_
                    refine r_putI C dX6_step_196 fl_X6_209 rfl (q_lt hs (by decide)) (Or.inl rfl) ?_
                    refine r_aload_n C rfl rfl dX6_step_199 ?_
                    refine r_iload_n C rfl dX6_step_200 ?_
                    refine r_bipush C 59 rfl dX6_step_201 ?_
                    refine t_icmp_eq C 212 (by decide) (show ((-1000000) : Int32).toInt = (-1000000) from rfl) (show (59 : Int32).toInt = 59 from rfl) dX6_step_203 (fun c203 => ?_) (fun c203 => ?_)
                    · first
                      | (exfalso; omega)
                      |  (refine r_iconstv C 4 rfl dX6_step_212 ?_
                          refine r_goto C 217 (by decide) dX6_step_213 ?_
                          refine r_putI C dX6_step_217 fl_X6_218 rfl (q_lt hs (by decide)) (Or.inl rfl) ?_
                          refine r_aload_n C rfl rfl dX6_step_220 ?_
                          refine r_aload_n C rfl rfl dX6_step_221 ?_
                          refine r_getI C dX6_step_222 fl_X6_209 rfl (q_lt hs (by decide)) ?_
                          refine r_putI C dX6_step_225 fl_X6_227 rfl (q_lt hs (by decide)) (Or.inl rfl) ?_
                          exact r_vret C dX6_step_228 rfl (Nat.le_refl _) (by rw [show hI (sI (mH (pH h st) (st)) 12 33 _) 12 32 = kI (st) from kI_e (mH_3 (h := pH h st) (q := st) (by omega))]))
                    · first
                      | (exfalso; omega)
                      |  (refine r_iload_n C rfl dX6_step_206 ?_
                          refine r_bipush C 64 rfl dX6_step_207 ?_
                          refine t_icmp_ne C 216 (by decide) (show ((-1000000) : Int32).toInt = (-1000000) from rfl) (show (64 : Int32).toInt = 64 from rfl) dX6_step_209 (fun c209 => ?_) (fun c209 => ?_)
                          · first
                            | (exfalso; omega)
                            |  (refine r_iconstv C 0 rfl dX6_step_216 ?_
                                refine r_putI C dX6_step_217 fl_X6_218 rfl (q_lt hs (by decide)) (Or.inl rfl) ?_
                                refine r_aload_n C rfl rfl dX6_step_220 ?_
                                refine r_aload_n C rfl rfl dX6_step_221 ?_
                                refine r_getI C dX6_step_222 fl_X6_209 rfl (q_lt hs (by decide)) ?_
                                refine r_putI C dX6_step_225 fl_X6_227 rfl (q_lt hs (by decide)) (Or.inl rfl) ?_
                                exact r_vret C dX6_step_228 rfl (Nat.le_refl _) (by rw [show hI (sI (mH (pH h st) (st)) 12 33 _) 12 32 = kI (st) from kI_e (mH_3 (h := pH h st) (q := st) (by omega))]))
                          · first
                            | (exfalso; omega)
                            |  (refine r_iconstv C 4 rfl dX6_step_212 ?_
                                refine r_goto C 217 (by decide) dX6_step_213 ?_
                                refine r_putI C dX6_step_217 fl_X6_218 rfl (q_lt hs (by decide)) (Or.inl rfl) ?_
                                refine r_aload_n C rfl rfl dX6_step_220 ?_
                                refine r_aload_n C rfl rfl dX6_step_221 ?_
                                refine r_getI C dX6_step_222 fl_X6_209 rfl (q_lt hs (by decide)) ?_
                                refine r_putI C dX6_step_225 fl_X6_227 rfl (q_lt hs (by decide)) (Or.inl rfl) ?_
                                exact r_vret C dX6_step_228 rfl (Nat.le_refl _) (by rw [show hI (sI (mH (pH h st) (st)) 12 33 _) 12 32 = kI (st) from kI_e (mH_3 (h := pH h st) (q := st) (by omega))]))))
              · first
                | (exfalso; omega)
                |  ((exfalso; omega)))
        · first
          | (exfalso; omega)
          |  ((exfalso; omega)))
  · first
    | (exfalso; omega)
    |  (refine r_aload_n C rfl rfl dX6_step_62 ?_
        refine r_iconstv C 1 rfl dX6_step_63 ?_
        refine r_putI C dX6_step_64 fl_X6_218 rfl (q_lt hs (by decide)) (Or.inl rfl) ?_
        refine r_goto C 220 (by decide) dX6_step_67 ?_
        refine r_aload_n C rfl rfl dX6_step_220 ?_
        refine r_aload_n C rfl rfl dX6_step_221 ?_
        refine r_getI C dX6_step_222 fl_X6_209 rfl (q_lt hs (by decide)) ?_
        refine r_putI C dX6_step_225 fl_X6_227 rfl (q_lt hs (by decide)) (Or.inl rfl) ?_
        exact r_vret C dX6_step_228 rfl (Nat.le_refl _) (by rw [show hI (sI (mH (pH h st) (st)) 12 33 _) 12 32 = kI (st) from kI_e (mH_3 (h := pH h st) (q := st) (by omega))]))

set_option maxHeartbeats 4000000 in
set_option maxRecDepth 100000 in
theorem sp_stL (G : oG) {h : oH} (hs0 : oSh h) {z : Nat} {T : Nat → Int} (tp0 : tpM h z T) {q : Nat} (hq : q ≤ z) (hnx : (hI h 12 32).toInt = (q : Int)) {st : Nat} (hst : xS T z q = st) (hz : st < z) (hl : 97 ≤ T st ∧ T st ≤ 122) (h6 : en T isL z st ≤ st + 6) : oSp G mX6_step [.ref 12] h none (sI (sI (mH (pH h st) (en T isL z st)) 12 33 2) 12 35 (kI (en T isL z st))) := by
  have z3 := tp0.2.1
  have hw := xS_w (T := T) hq
  rw [hst] at hw
  refine oSp.intro [some (.ref 12), none] rfl (Nat.le_of_ble_eq_true rfl) (plainFor_of_name (by decide +kernel)) (Nat.le_refl _) ?_
  intro p l e R s m args below meth c C
  refine oS_h (mH_id hnx) (lp_wm G hs0 tp0 C (Nat.le_refl _) (z - q) q (by omega) ?_)
  rw [show en T isW z q = st from hst]
  have hs : oSh (mH (pH h st) st) := hs0
  have tp : tpM (mH (pH h st) st) z T := tp0.fr rfl (fun _ => rfl)
  have h3 := mH_3 (h := pH h st) (q := st) (by omega)
  have h5 := pH_4 (h := h) (s := st) (e := st) (by omega)
  have hT := (tp.2.2 st (by omega)).1
  have hT2 := (tp.2.2 st (by omega)).2
  refine r_aload_n C rfl rfl dX6_step_39 ?_
  refine r_aload_n C rfl rfl dX6_step_40 ?_
  refine r_getI C dX6_step_41 fl_X6_209 rfl (q_lt hs (by decide)) ?_
  refine r_putI C dX6_step_44 fl_X6_215 rfl (q_lt hs (by decide)) (Or.inl rfl) ?_
  refine oS_h (pl_e (by omega)) ?_
  refine r_aload_n C rfl rfl dX6_step_47 ?_
  refine r_aload_n C rfl rfl dX6_step_48 ?_
  refine r_getI C dX6_step_49 fl_X6_209 rfl (q_lt hs (by decide)) ?_
  refine r_callV C (sp_byM G hs tp _ h3 (by omega)) kv_X6_byteAt kn_X6_byteAt rfl dX6_step_52 cl_X6_212 ⟨Nat.le_of_ble_eq_true rfl, Nat.le_of_ble_eq_true rfl⟩ (by decide) rfl rfl (q_lt hs (by decide)) (Nat.le_refl _) rfl (Nat.le_of_ble_eq_true rfl) ?_
  refine r_istore_n C rfl (Nat.le_of_ble_eq_true rfl) dX6_step_55 ?_
  refine r_iload_n C rfl dX6_step_56 ?_
  refine r_ldc C _ lc_X6_145 dX6_step_57 ?_
  refine t_icmp_ne C 70 (by decide) hT (show ((-1000000) : Int32).toInt = (-1000000) from rfl) dX6_step_59 (fun c59 => ?_) (fun c59 => ?_)
  · first
    | (exfalso; omega)
    |  (refine r_iload_n C rfl dX6_step_70 ?_
        refine r_callS C (sp_isLM G _) ks_X6_isLetter kn_X6_isLetter rfl dX6_step_71 cl_X6_221 ⟨Nat.le_of_ble_eq_true rfl, Nat.le_of_ble_eq_true rfl⟩ (Nat.le_refl _) rfl (Nat.le_of_ble_eq_true rfl) ?_
        refine t_ifb_eq C 130 (by decide) dX6_step_74 (fun c74 => ?_) (fun c74 => ?_)
        · first
          | (exfalso; omega)
          |  (refine r_iload_n C rfl dX6_step_130 ?_
              refine r_callS C (sp_isFM G _) ks_X6_isFigure kn_X6_isFigure rfl dX6_step_131 cl_X6_224 ⟨Nat.le_of_ble_eq_true rfl, Nat.le_of_ble_eq_true rfl⟩ (Nat.le_refl _) rfl (Nat.le_of_ble_eq_true rfl) ?_
              refine t_ifb_eq C 189 (by decide) dX6_step_134 (fun c134 => ?_) (fun c134 => ?_)
              · first
                | (exfalso; omega)
                |  (refine r_aload_n C rfl rfl dX6_step_189 ?_
                    refine r_dup C rfl dX6_step_190 ?_
                    refine r_getI C dX6_step_191 fl_X6_209 rfl (q_lt hs (by decide)) ?_
                    refine r_iconstv C 1 rfl dX6_step_194 ?_
                    refine r_iadd C dX6_step_195 ?_
                    refine r_putI C dX6_step_196 fl_X6_209 rfl (q_lt hs (by decide)) (Or.inl rfl) ?_
                    refine r_aload_n C rfl rfl dX6_step_199 ?_
                    refine r_iload_n C rfl dX6_step_200 ?_
                    refine r_bipush C 59 rfl dX6_step_201 ?_
                    refine t_icmp_eq C 212 (by decide) hT (show (59 : Int32).toInt = 59 from rfl) dX6_step_203 (fun c203 => ?_) (fun c203 => ?_)
                    · first
                      | (exfalso; omega)
                      |  (refine r_iconstv C 4 rfl dX6_step_212 ?_
                          refine r_goto C 217 (by decide) dX6_step_213 ?_
                          refine r_putI C dX6_step_217 fl_X6_218 rfl (q_lt hs (by decide)) (Or.inl rfl) ?_
                          refine r_aload_n C rfl rfl dX6_step_220 ?_
                          refine r_aload_n C rfl rfl dX6_step_221 ?_
                          refine r_getI C dX6_step_222 fl_X6_209 rfl (q_lt hs (by decide)) ?_
                          refine r_putI C dX6_step_225 fl_X6_227 rfl (q_lt hs (by decide)) (Or.inl rfl) ?_
                          exact r_vret C dX6_step_228 rfl (Nat.le_refl _) (by rw [show hI (sI (mH (pH h st) (st)) 12 33 _) 12 32 = kI (st) from kI_e (mH_3 (h := pH h st) (q := st) (by omega))]))
                    · first
                      | (exfalso; omega)
                      |  (refine r_iload_n C rfl dX6_step_206 ?_
                          refine r_bipush C 64 rfl dX6_step_207 ?_
                          refine t_icmp_ne C 216 (by decide) hT (show (64 : Int32).toInt = 64 from rfl) dX6_step_209 (fun c209 => ?_) (fun c209 => ?_)
                          · first
                            | (exfalso; omega)
                            |  (refine r_iconstv C 0 rfl dX6_step_216 ?_
                                refine r_putI C dX6_step_217 fl_X6_218 rfl (q_lt hs (by decide)) (Or.inl rfl) ?_
                                refine r_aload_n C rfl rfl dX6_step_220 ?_
                                refine r_aload_n C rfl rfl dX6_step_221 ?_
                                refine r_getI C dX6_step_222 fl_X6_209 rfl (q_lt hs (by decide)) ?_
                                refine r_putI C dX6_step_225 fl_X6_227 rfl (q_lt hs (by decide)) (Or.inl rfl) ?_
                                exact r_vret C dX6_step_228 rfl (Nat.le_refl _) (by rw [show hI (sI (mH (pH h st) (st)) 12 33 _) 12 32 = kI (st) from kI_e (mH_3 (h := pH h st) (q := st) (by omega))]))
                          · first
                            | (exfalso; omega)
                            |  (refine r_iconstv C 4 rfl dX6_step_212 ?_
                                refine r_goto C 217 (by decide) dX6_step_213 ?_
                                refine r_putI C dX6_step_217 fl_X6_218 rfl (q_lt hs (by decide)) (Or.inl rfl) ?_
                                refine r_aload_n C rfl rfl dX6_step_220 ?_
                                refine r_aload_n C rfl rfl dX6_step_221 ?_
                                refine r_getI C dX6_step_222 fl_X6_209 rfl (q_lt hs (by decide)) ?_
                                refine r_putI C dX6_step_225 fl_X6_227 rfl (q_lt hs (by decide)) (Or.inl rfl) ?_
                                exact r_vret C dX6_step_228 rfl (Nat.le_refl _) (by rw [show hI (sI (mH (pH h st) (st)) 12 33 _) 12 32 = kI (st) from kI_e (mH_3 (h := pH h st) (q := st) (by omega))]))))
              · first
                | (exfalso; omega)
                |  ((exfalso; omega)))
        · first
          | (exfalso; omega)
          |  (refine lp_lm G (h := pH h st) hs0 (tp0.fr rfl (fun _ => rfl)) C (Nat.le_refl _) (z - st) st (by omega) ?_
              have hw2 := en_w (T := T) (P := isL) (z := z) (q := st) (by omega)
              have hs2 : oSh (mH (pH h st) ((en T isL z st))) := hs0
              have h32 := mH_3 (h := pH h st) (q := (en T isL z st)) (by omega)
              have h52 := pH_4 (h := h) (s := st) (e := (en T isL z st)) (by omega)
              refine r_aload_n C rfl rfl dX6_step_104 ?_
              refine r_aload_n C rfl rfl dX6_step_105 ?_
              refine r_getI C dX6_step_106 fl_X6_209 rfl (q_lt hs2 (by decide)) ?_
              refine r_aload_n C rfl rfl dX6_step_109 ?_
              refine r_getI C dX6_step_110 fl_X6_215 rfl (q_lt hs2 (by decide)) ?_
              refine r_isub C dX6_step_113 ?_
              refine r_bipush C 6 rfl dX6_step_114 ?_
              refine t_icmp_le C 123 (by decide) (tS h32 h52 (by omega)) (show (6 : Int32).toInt = 6 from rfl) dX6_step_116 (fun c116 => ?_) (fun c116 => ?_)
              · first
                | (exfalso; omega)
                |  (refine r_iconstv C 2 rfl dX6_step_123 ?_
                    refine r_putI C dX6_step_124 fl_X6_218 rfl (q_lt hs2 (by decide)) (Or.inl rfl) ?_
                    refine r_goto C 220 (by decide) dX6_step_127 ?_
                    refine r_aload_n C rfl rfl dX6_step_220 ?_
                    refine r_aload_n C rfl rfl dX6_step_221 ?_
                    refine r_getI C dX6_step_222 fl_X6_209 rfl (q_lt hs2 (by decide)) ?_
                    refine r_putI C dX6_step_225 fl_X6_227 rfl (q_lt hs2 (by decide)) (Or.inl rfl) ?_
                    exact r_vret C dX6_step_228 rfl (Nat.le_refl _) (by rw [show hI (sI (mH (pH h st) ((en T isL z st))) 12 33 _) 12 32 = kI ((en T isL z st)) from kI_e (mH_3 (h := pH h st) (q := (en T isL z st)) (by omega))]))
              · first
                | (exfalso; omega)
                |  (refine r_iconstv C 0 rfl dX6_step_119 ?_
                    refine r_goto C 124 (by decide) dX6_step_120 ?_
                    refine r_putI C dX6_step_124 fl_X6_218 rfl (q_lt hs2 (by decide)) (Or.inl rfl) ?_
                    refine r_goto C 220 (by decide) dX6_step_127 ?_
                    refine r_aload_n C rfl rfl dX6_step_220 ?_
                    refine r_aload_n C rfl rfl dX6_step_221 ?_
                    refine r_getI C dX6_step_222 fl_X6_209 rfl (q_lt hs2 (by decide)) ?_
                    refine r_putI C dX6_step_225 fl_X6_227 rfl (q_lt hs2 (by decide)) (Or.inl rfl) ?_
                    exact r_vret C dX6_step_228 rfl (Nat.le_refl _) (by rw [show hI (sI (mH (pH h st) ((en T isL z st))) 12 33 _) 12 32 = kI ((en T isL z st)) from kI_e (mH_3 (h := pH h st) (q := (en T isL z st)) (by omega))]))))
  · first
    | (exfalso; omega)
    |  (refine r_aload_n C rfl rfl dX6_step_62 ?_
        refine r_iconstv C 1 rfl dX6_step_63 ?_
        refine r_putI C dX6_step_64 fl_X6_218 rfl (q_lt hs (by decide)) (Or.inl rfl) ?_
        refine r_goto C 220 (by decide) dX6_step_67 ?_
        refine r_aload_n C rfl rfl dX6_step_220 ?_
        refine r_aload_n C rfl rfl dX6_step_221 ?_
        refine r_getI C dX6_step_222 fl_X6_209 rfl (q_lt hs (by decide)) ?_
        refine r_putI C dX6_step_225 fl_X6_227 rfl (q_lt hs (by decide)) (Or.inl rfl) ?_
        exact r_vret C dX6_step_228 rfl (Nat.le_refl _) (by rw [show hI (sI (mH (pH h st) (st)) 12 33 _) 12 32 = kI (st) from kI_e (mH_3 (h := pH h st) (q := st) (by omega))]))

set_option maxHeartbeats 4000000 in
set_option maxRecDepth 100000 in
theorem sp_stLX (G : oG) {h : oH} (hs0 : oSh h) {z : Nat} {T : Nat → Int} (tp0 : tpM h z T) {q : Nat} (hq : q ≤ z) (hnx : (hI h 12 32).toInt = (q : Int)) {st : Nat} (hst : xS T z q = st) (hz : st < z) (hl : 97 ≤ T st ∧ T st ≤ 122) (h6 : ¬ en T isL z st ≤ st + 6) : oSp G mX6_step [.ref 12] h none (sI (sI (mH (pH h st) (en T isL z st)) 12 33 0) 12 35 (kI (en T isL z st))) := by
  have z3 := tp0.2.1
  have hw := xS_w (T := T) hq
  rw [hst] at hw
  refine oSp.intro [some (.ref 12), none] rfl (Nat.le_of_ble_eq_true rfl) (plainFor_of_name (by decide +kernel)) (Nat.le_refl _) ?_
  intro p l e R s m args below meth c C
  refine oS_h (mH_id hnx) (lp_wm G hs0 tp0 C (Nat.le_refl _) (z - q) q (by omega) ?_)
  rw [show en T isW z q = st from hst]
  have hs : oSh (mH (pH h st) st) := hs0
  have tp : tpM (mH (pH h st) st) z T := tp0.fr rfl (fun _ => rfl)
  have h3 := mH_3 (h := pH h st) (q := st) (by omega)
  have h5 := pH_4 (h := h) (s := st) (e := st) (by omega)
  have hT := (tp.2.2 st (by omega)).1
  have hT2 := (tp.2.2 st (by omega)).2
  refine r_aload_n C rfl rfl dX6_step_39 ?_
  refine r_aload_n C rfl rfl dX6_step_40 ?_
  refine r_getI C dX6_step_41 fl_X6_209 rfl (q_lt hs (by decide)) ?_
  refine r_putI C dX6_step_44 fl_X6_215 rfl (q_lt hs (by decide)) (Or.inl rfl) ?_
  refine oS_h (pl_e (by omega)) ?_
  refine r_aload_n C rfl rfl dX6_step_47 ?_
  refine r_aload_n C rfl rfl dX6_step_48 ?_
  refine r_getI C dX6_step_49 fl_X6_209 rfl (q_lt hs (by decide)) ?_
  refine r_callV C (sp_byM G hs tp _ h3 (by omega)) kv_X6_byteAt kn_X6_byteAt rfl dX6_step_52 cl_X6_212 ⟨Nat.le_of_ble_eq_true rfl, Nat.le_of_ble_eq_true rfl⟩ (by decide) rfl rfl (q_lt hs (by decide)) (Nat.le_refl _) rfl (Nat.le_of_ble_eq_true rfl) ?_
  refine r_istore_n C rfl (Nat.le_of_ble_eq_true rfl) dX6_step_55 ?_
  refine r_iload_n C rfl dX6_step_56 ?_
  refine r_ldc C _ lc_X6_145 dX6_step_57 ?_
  refine t_icmp_ne C 70 (by decide) hT (show ((-1000000) : Int32).toInt = (-1000000) from rfl) dX6_step_59 (fun c59 => ?_) (fun c59 => ?_)
  · first
    | (exfalso; omega)
    |  (refine r_iload_n C rfl dX6_step_70 ?_
        refine r_callS C (sp_isLM G _) ks_X6_isLetter kn_X6_isLetter rfl dX6_step_71 cl_X6_221 ⟨Nat.le_of_ble_eq_true rfl, Nat.le_of_ble_eq_true rfl⟩ (Nat.le_refl _) rfl (Nat.le_of_ble_eq_true rfl) ?_
        refine t_ifb_eq C 130 (by decide) dX6_step_74 (fun c74 => ?_) (fun c74 => ?_)
        · first
          | (exfalso; omega)
          |  (refine r_iload_n C rfl dX6_step_130 ?_
              refine r_callS C (sp_isFM G _) ks_X6_isFigure kn_X6_isFigure rfl dX6_step_131 cl_X6_224 ⟨Nat.le_of_ble_eq_true rfl, Nat.le_of_ble_eq_true rfl⟩ (Nat.le_refl _) rfl (Nat.le_of_ble_eq_true rfl) ?_
              refine t_ifb_eq C 189 (by decide) dX6_step_134 (fun c134 => ?_) (fun c134 => ?_)
              · first
                | (exfalso; omega)
                |  (refine r_aload_n C rfl rfl dX6_step_189 ?_
                    refine r_dup C rfl dX6_step_190 ?_
                    refine r_getI C dX6_step_191 fl_X6_209 rfl (q_lt hs (by decide)) ?_
                    refine r_iconstv C 1 rfl dX6_step_194 ?_
                    refine r_iadd C dX6_step_195 ?_
                    refine r_putI C dX6_step_196 fl_X6_209 rfl (q_lt hs (by decide)) (Or.inl rfl) ?_
                    refine r_aload_n C rfl rfl dX6_step_199 ?_
                    refine r_iload_n C rfl dX6_step_200 ?_
                    refine r_bipush C 59 rfl dX6_step_201 ?_
                    refine t_icmp_eq C 212 (by decide) hT (show (59 : Int32).toInt = 59 from rfl) dX6_step_203 (fun c203 => ?_) (fun c203 => ?_)
                    · first
                      | (exfalso; omega)
                      |  (refine r_iconstv C 4 rfl dX6_step_212 ?_
                          refine r_goto C 217 (by decide) dX6_step_213 ?_
                          refine r_putI C dX6_step_217 fl_X6_218 rfl (q_lt hs (by decide)) (Or.inl rfl) ?_
                          refine r_aload_n C rfl rfl dX6_step_220 ?_
                          refine r_aload_n C rfl rfl dX6_step_221 ?_
                          refine r_getI C dX6_step_222 fl_X6_209 rfl (q_lt hs (by decide)) ?_
                          refine r_putI C dX6_step_225 fl_X6_227 rfl (q_lt hs (by decide)) (Or.inl rfl) ?_
                          exact r_vret C dX6_step_228 rfl (Nat.le_refl _) (by rw [show hI (sI (mH (pH h st) (st)) 12 33 _) 12 32 = kI (st) from kI_e (mH_3 (h := pH h st) (q := st) (by omega))]))
                    · first
                      | (exfalso; omega)
                      |  (refine r_iload_n C rfl dX6_step_206 ?_
                          refine r_bipush C 64 rfl dX6_step_207 ?_
                          refine t_icmp_ne C 216 (by decide) hT (show (64 : Int32).toInt = 64 from rfl) dX6_step_209 (fun c209 => ?_) (fun c209 => ?_)
                          · first
                            | (exfalso; omega)
                            |  (refine r_iconstv C 0 rfl dX6_step_216 ?_
                                refine r_putI C dX6_step_217 fl_X6_218 rfl (q_lt hs (by decide)) (Or.inl rfl) ?_
                                refine r_aload_n C rfl rfl dX6_step_220 ?_
                                refine r_aload_n C rfl rfl dX6_step_221 ?_
                                refine r_getI C dX6_step_222 fl_X6_209 rfl (q_lt hs (by decide)) ?_
                                refine r_putI C dX6_step_225 fl_X6_227 rfl (q_lt hs (by decide)) (Or.inl rfl) ?_
                                exact r_vret C dX6_step_228 rfl (Nat.le_refl _) (by rw [show hI (sI (mH (pH h st) (st)) 12 33 _) 12 32 = kI (st) from kI_e (mH_3 (h := pH h st) (q := st) (by omega))]))
                          · first
                            | (exfalso; omega)
                            |  (refine r_iconstv C 4 rfl dX6_step_212 ?_
                                refine r_goto C 217 (by decide) dX6_step_213 ?_
                                refine r_putI C dX6_step_217 fl_X6_218 rfl (q_lt hs (by decide)) (Or.inl rfl) ?_
                                refine r_aload_n C rfl rfl dX6_step_220 ?_
                                refine r_aload_n C rfl rfl dX6_step_221 ?_
                                refine r_getI C dX6_step_222 fl_X6_209 rfl (q_lt hs (by decide)) ?_
                                refine r_putI C dX6_step_225 fl_X6_227 rfl (q_lt hs (by decide)) (Or.inl rfl) ?_
                                exact r_vret C dX6_step_228 rfl (Nat.le_refl _) (by rw [show hI (sI (mH (pH h st) (st)) 12 33 _) 12 32 = kI (st) from kI_e (mH_3 (h := pH h st) (q := st) (by omega))]))))
              · first
                | (exfalso; omega)
                |  ((exfalso; omega)))
        · first
          | (exfalso; omega)
          |  (refine lp_lm G (h := pH h st) hs0 (tp0.fr rfl (fun _ => rfl)) C (Nat.le_refl _) (z - st) st (by omega) ?_
              have hw2 := en_w (T := T) (P := isL) (z := z) (q := st) (by omega)
              have hs2 : oSh (mH (pH h st) ((en T isL z st))) := hs0
              have h32 := mH_3 (h := pH h st) (q := (en T isL z st)) (by omega)
              have h52 := pH_4 (h := h) (s := st) (e := (en T isL z st)) (by omega)
              refine r_aload_n C rfl rfl dX6_step_104 ?_
              refine r_aload_n C rfl rfl dX6_step_105 ?_
              refine r_getI C dX6_step_106 fl_X6_209 rfl (q_lt hs2 (by decide)) ?_
              refine r_aload_n C rfl rfl dX6_step_109 ?_
              refine r_getI C dX6_step_110 fl_X6_215 rfl (q_lt hs2 (by decide)) ?_
              refine r_isub C dX6_step_113 ?_
              refine r_bipush C 6 rfl dX6_step_114 ?_
              refine t_icmp_le C 123 (by decide) (tS h32 h52 (by omega)) (show (6 : Int32).toInt = 6 from rfl) dX6_step_116 (fun c116 => ?_) (fun c116 => ?_)
              · first
                | (exfalso; omega)
                |  (refine r_iconstv C 2 rfl dX6_step_123 ?_
                    refine r_putI C dX6_step_124 fl_X6_218 rfl (q_lt hs2 (by decide)) (Or.inl rfl) ?_
                    refine r_goto C 220 (by decide) dX6_step_127 ?_
                    refine r_aload_n C rfl rfl dX6_step_220 ?_
                    refine r_aload_n C rfl rfl dX6_step_221 ?_
                    refine r_getI C dX6_step_222 fl_X6_209 rfl (q_lt hs2 (by decide)) ?_
                    refine r_putI C dX6_step_225 fl_X6_227 rfl (q_lt hs2 (by decide)) (Or.inl rfl) ?_
                    exact r_vret C dX6_step_228 rfl (Nat.le_refl _) (by rw [show hI (sI (mH (pH h st) ((en T isL z st))) 12 33 _) 12 32 = kI ((en T isL z st)) from kI_e (mH_3 (h := pH h st) (q := (en T isL z st)) (by omega))]))
              · first
                | (exfalso; omega)
                |  (refine r_iconstv C 0 rfl dX6_step_119 ?_
                    refine r_goto C 124 (by decide) dX6_step_120 ?_
                    refine r_putI C dX6_step_124 fl_X6_218 rfl (q_lt hs2 (by decide)) (Or.inl rfl) ?_
                    refine r_goto C 220 (by decide) dX6_step_127 ?_
                    refine r_aload_n C rfl rfl dX6_step_220 ?_
                    refine r_aload_n C rfl rfl dX6_step_221 ?_
                    refine r_getI C dX6_step_222 fl_X6_209 rfl (q_lt hs2 (by decide)) ?_
                    refine r_putI C dX6_step_225 fl_X6_227 rfl (q_lt hs2 (by decide)) (Or.inl rfl) ?_
                    exact r_vret C dX6_step_228 rfl (Nat.le_refl _) (by rw [show hI (sI (mH (pH h st) ((en T isL z st))) 12 33 _) 12 32 = kI ((en T isL z st)) from kI_e (mH_3 (h := pH h st) (q := (en T isL z st)) (by omega))]))))
  · first
    | (exfalso; omega)
    |  (refine r_aload_n C rfl rfl dX6_step_62 ?_
        refine r_iconstv C 1 rfl dX6_step_63 ?_
        refine r_putI C dX6_step_64 fl_X6_218 rfl (q_lt hs (by decide)) (Or.inl rfl) ?_
        refine r_goto C 220 (by decide) dX6_step_67 ?_
        refine r_aload_n C rfl rfl dX6_step_220 ?_
        refine r_aload_n C rfl rfl dX6_step_221 ?_
        refine r_getI C dX6_step_222 fl_X6_209 rfl (q_lt hs (by decide)) ?_
        refine r_putI C dX6_step_225 fl_X6_227 rfl (q_lt hs (by decide)) (Or.inl rfl) ?_
        exact r_vret C dX6_step_228 rfl (Nat.le_refl _) (by rw [show hI (sI (mH (pH h st) (st)) 12 33 _) 12 32 = kI (st) from kI_e (mH_3 (h := pH h st) (q := st) (by omega))]))

set_option maxHeartbeats 4000000 in
set_option maxRecDepth 100000 in
theorem sp_stF (G : oG) {h : oH} (hs0 : oSh h) {z : Nat} {T : Nat → Int} (tp0 : tpM h z T) {q : Nat} (hq : q ≤ z) (hnx : (hI h 12 32).toInt = (q : Int)) {st : Nat} (hst : xS T z q = st) (hz : st < z) (hl : 48 ≤ T st ∧ T st ≤ 57) (h6 : en T isF z st ≤ st + 5) : oSp G mX6_step [.ref 12] h none (sI (sI (mH (pH h st) (en T isF z st)) 12 33 3) 12 35 (kI (en T isF z st))) := by
  have z3 := tp0.2.1
  have hw := xS_w (T := T) hq
  rw [hst] at hw
  refine oSp.intro [some (.ref 12), none] rfl (Nat.le_of_ble_eq_true rfl) (plainFor_of_name (by decide +kernel)) (Nat.le_refl _) ?_
  intro p l e R s m args below meth c C
  refine oS_h (mH_id hnx) (lp_wm G hs0 tp0 C (Nat.le_refl _) (z - q) q (by omega) ?_)
  rw [show en T isW z q = st from hst]
  have hs : oSh (mH (pH h st) st) := hs0
  have tp : tpM (mH (pH h st) st) z T := tp0.fr rfl (fun _ => rfl)
  have h3 := mH_3 (h := pH h st) (q := st) (by omega)
  have h5 := pH_4 (h := h) (s := st) (e := st) (by omega)
  have hT := (tp.2.2 st (by omega)).1
  have hT2 := (tp.2.2 st (by omega)).2
  refine r_aload_n C rfl rfl dX6_step_39 ?_
  refine r_aload_n C rfl rfl dX6_step_40 ?_
  refine r_getI C dX6_step_41 fl_X6_209 rfl (q_lt hs (by decide)) ?_
  refine r_putI C dX6_step_44 fl_X6_215 rfl (q_lt hs (by decide)) (Or.inl rfl) ?_
  refine oS_h (pl_e (by omega)) ?_
  refine r_aload_n C rfl rfl dX6_step_47 ?_
  refine r_aload_n C rfl rfl dX6_step_48 ?_
  refine r_getI C dX6_step_49 fl_X6_209 rfl (q_lt hs (by decide)) ?_
  refine r_callV C (sp_byM G hs tp _ h3 (by omega)) kv_X6_byteAt kn_X6_byteAt rfl dX6_step_52 cl_X6_212 ⟨Nat.le_of_ble_eq_true rfl, Nat.le_of_ble_eq_true rfl⟩ (by decide) rfl rfl (q_lt hs (by decide)) (Nat.le_refl _) rfl (Nat.le_of_ble_eq_true rfl) ?_
  refine r_istore_n C rfl (Nat.le_of_ble_eq_true rfl) dX6_step_55 ?_
  refine r_iload_n C rfl dX6_step_56 ?_
  refine r_ldc C _ lc_X6_145 dX6_step_57 ?_
  refine t_icmp_ne C 70 (by decide) hT (show ((-1000000) : Int32).toInt = (-1000000) from rfl) dX6_step_59 (fun c59 => ?_) (fun c59 => ?_)
  · first
    | (exfalso; omega)
    |  (refine r_iload_n C rfl dX6_step_70 ?_
        refine r_callS C (sp_isLM G _) ks_X6_isLetter kn_X6_isLetter rfl dX6_step_71 cl_X6_221 ⟨Nat.le_of_ble_eq_true rfl, Nat.le_of_ble_eq_true rfl⟩ (Nat.le_refl _) rfl (Nat.le_of_ble_eq_true rfl) ?_
        refine t_ifb_eq C 130 (by decide) dX6_step_74 (fun c74 => ?_) (fun c74 => ?_)
        · first
          | (exfalso; omega)
          |  (refine r_iload_n C rfl dX6_step_130 ?_
              refine r_callS C (sp_isFM G _) ks_X6_isFigure kn_X6_isFigure rfl dX6_step_131 cl_X6_224 ⟨Nat.le_of_ble_eq_true rfl, Nat.le_of_ble_eq_true rfl⟩ (Nat.le_refl _) rfl (Nat.le_of_ble_eq_true rfl) ?_
              refine t_ifb_eq C 189 (by decide) dX6_step_134 (fun c134 => ?_) (fun c134 => ?_)
              · first
                | (exfalso; omega)
                |  (refine r_aload_n C rfl rfl dX6_step_189 ?_
                    refine r_dup C rfl dX6_step_190 ?_
                    refine r_getI C dX6_step_191 fl_X6_209 rfl (q_lt hs (by decide)) ?_
                    refine r_iconstv C 1 rfl dX6_step_194 ?_
                    refine r_iadd C dX6_step_195 ?_
                    refine r_putI C dX6_step_196 fl_X6_209 rfl (q_lt hs (by decide)) (Or.inl rfl) ?_
                    refine r_aload_n C rfl rfl dX6_step_199 ?_
                    refine r_iload_n C rfl dX6_step_200 ?_
                    refine r_bipush C 59 rfl dX6_step_201 ?_
                    refine t_icmp_eq C 212 (by decide) hT (show (59 : Int32).toInt = 59 from rfl) dX6_step_203 (fun c203 => ?_) (fun c203 => ?_)
                    · first
                      | (exfalso; omega)
                      |  (refine r_iconstv C 4 rfl dX6_step_212 ?_
                          refine r_goto C 217 (by decide) dX6_step_213 ?_
                          refine r_putI C dX6_step_217 fl_X6_218 rfl (q_lt hs (by decide)) (Or.inl rfl) ?_
                          refine r_aload_n C rfl rfl dX6_step_220 ?_
                          refine r_aload_n C rfl rfl dX6_step_221 ?_
                          refine r_getI C dX6_step_222 fl_X6_209 rfl (q_lt hs (by decide)) ?_
                          refine r_putI C dX6_step_225 fl_X6_227 rfl (q_lt hs (by decide)) (Or.inl rfl) ?_
                          exact r_vret C dX6_step_228 rfl (Nat.le_refl _) (by rw [show hI (sI (mH (pH h st) (st)) 12 33 _) 12 32 = kI (st) from kI_e (mH_3 (h := pH h st) (q := st) (by omega))]))
                    · first
                      | (exfalso; omega)
                      |  (refine r_iload_n C rfl dX6_step_206 ?_
                          refine r_bipush C 64 rfl dX6_step_207 ?_
                          refine t_icmp_ne C 216 (by decide) hT (show (64 : Int32).toInt = 64 from rfl) dX6_step_209 (fun c209 => ?_) (fun c209 => ?_)
                          · first
                            | (exfalso; omega)
                            |  (refine r_iconstv C 0 rfl dX6_step_216 ?_
                                refine r_putI C dX6_step_217 fl_X6_218 rfl (q_lt hs (by decide)) (Or.inl rfl) ?_
                                refine r_aload_n C rfl rfl dX6_step_220 ?_
                                refine r_aload_n C rfl rfl dX6_step_221 ?_
                                refine r_getI C dX6_step_222 fl_X6_209 rfl (q_lt hs (by decide)) ?_
                                refine r_putI C dX6_step_225 fl_X6_227 rfl (q_lt hs (by decide)) (Or.inl rfl) ?_
                                exact r_vret C dX6_step_228 rfl (Nat.le_refl _) (by rw [show hI (sI (mH (pH h st) (st)) 12 33 _) 12 32 = kI (st) from kI_e (mH_3 (h := pH h st) (q := st) (by omega))]))
                          · first
                            | (exfalso; omega)
                            |  (refine r_iconstv C 4 rfl dX6_step_212 ?_
                                refine r_goto C 217 (by decide) dX6_step_213 ?_
                                refine r_putI C dX6_step_217 fl_X6_218 rfl (q_lt hs (by decide)) (Or.inl rfl) ?_
                                refine r_aload_n C rfl rfl dX6_step_220 ?_
                                refine r_aload_n C rfl rfl dX6_step_221 ?_
                                refine r_getI C dX6_step_222 fl_X6_209 rfl (q_lt hs (by decide)) ?_
                                refine r_putI C dX6_step_225 fl_X6_227 rfl (q_lt hs (by decide)) (Or.inl rfl) ?_
                                exact r_vret C dX6_step_228 rfl (Nat.le_refl _) (by rw [show hI (sI (mH (pH h st) (st)) 12 33 _) 12 32 = kI (st) from kI_e (mH_3 (h := pH h st) (q := st) (by omega))]))))
              · first
                | (exfalso; omega)
                |  (refine lp_fm G (h := pH h st) hs0 (tp0.fr rfl (fun _ => rfl)) C (Nat.le_refl _) (z - st) st (by omega) ?_
                    have hw2 := en_w (T := T) (P := isF) (z := z) (q := st) (by omega)
                    have hs2 : oSh (mH (pH h st) ((en T isF z st))) := hs0
                    have h32 := mH_3 (h := pH h st) (q := (en T isF z st)) (by omega)
                    have h52 := pH_4 (h := h) (s := st) (e := (en T isF z st)) (by omega)
                    refine r_aload_n C rfl rfl dX6_step_164 ?_
                    refine r_aload_n C rfl rfl dX6_step_165 ?_
                    refine r_getI C dX6_step_166 fl_X6_209 rfl (q_lt hs2 (by decide)) ?_
                    refine r_aload_n C rfl rfl dX6_step_169 ?_
                    refine r_getI C dX6_step_170 fl_X6_215 rfl (q_lt hs2 (by decide)) ?_
                    refine r_isub C dX6_step_173 ?_
                    refine r_iconstv C 5 rfl dX6_step_174 ?_
                    refine t_icmp_le C 182 (by decide) (tS h32 h52 (by omega)) (show (5 : Int32).toInt = 5 from rfl) dX6_step_175 (fun c175 => ?_) (fun c175 => ?_)
                    · first
                      | (exfalso; omega)
                      |  (refine r_iconstv C 3 rfl dX6_step_182 ?_
                          refine r_putI C dX6_step_183 fl_X6_218 rfl (q_lt hs2 (by decide)) (Or.inl rfl) ?_
                          refine r_goto C 220 (by decide) dX6_step_186 ?_
                          refine r_aload_n C rfl rfl dX6_step_220 ?_
                          refine r_aload_n C rfl rfl dX6_step_221 ?_
                          refine r_getI C dX6_step_222 fl_X6_209 rfl (q_lt hs2 (by decide)) ?_
                          refine r_putI C dX6_step_225 fl_X6_227 rfl (q_lt hs2 (by decide)) (Or.inl rfl) ?_
                          exact r_vret C dX6_step_228 rfl (Nat.le_refl _) (by rw [show hI (sI (mH (pH h st) ((en T isF z st))) 12 33 _) 12 32 = kI ((en T isF z st)) from kI_e (mH_3 (h := pH h st) (q := (en T isF z st)) (by omega))]))
                    · first
                      | (exfalso; omega)
                      |  (refine r_iconstv C 0 rfl dX6_step_178 ?_
                          refine r_goto C 183 (by decide) dX6_step_179 ?_
                          refine r_putI C dX6_step_183 fl_X6_218 rfl (q_lt hs2 (by decide)) (Or.inl rfl) ?_
                          refine r_goto C 220 (by decide) dX6_step_186 ?_
                          refine r_aload_n C rfl rfl dX6_step_220 ?_
                          refine r_aload_n C rfl rfl dX6_step_221 ?_
                          refine r_getI C dX6_step_222 fl_X6_209 rfl (q_lt hs2 (by decide)) ?_
                          refine r_putI C dX6_step_225 fl_X6_227 rfl (q_lt hs2 (by decide)) (Or.inl rfl) ?_
                          exact r_vret C dX6_step_228 rfl (Nat.le_refl _) (by rw [show hI (sI (mH (pH h st) ((en T isF z st))) 12 33 _) 12 32 = kI ((en T isF z st)) from kI_e (mH_3 (h := pH h st) (q := (en T isF z st)) (by omega))]))))
        · first
          | (exfalso; omega)
          |  ((exfalso; omega)))
  · first
    | (exfalso; omega)
    |  (refine r_aload_n C rfl rfl dX6_step_62 ?_
        refine r_iconstv C 1 rfl dX6_step_63 ?_
        refine r_putI C dX6_step_64 fl_X6_218 rfl (q_lt hs (by decide)) (Or.inl rfl) ?_
        refine r_goto C 220 (by decide) dX6_step_67 ?_
        refine r_aload_n C rfl rfl dX6_step_220 ?_
        refine r_aload_n C rfl rfl dX6_step_221 ?_
        refine r_getI C dX6_step_222 fl_X6_209 rfl (q_lt hs (by decide)) ?_
        refine r_putI C dX6_step_225 fl_X6_227 rfl (q_lt hs (by decide)) (Or.inl rfl) ?_
        exact r_vret C dX6_step_228 rfl (Nat.le_refl _) (by rw [show hI (sI (mH (pH h st) (st)) 12 33 _) 12 32 = kI (st) from kI_e (mH_3 (h := pH h st) (q := st) (by omega))]))

set_option maxHeartbeats 4000000 in
set_option maxRecDepth 100000 in
theorem sp_stFX (G : oG) {h : oH} (hs0 : oSh h) {z : Nat} {T : Nat → Int} (tp0 : tpM h z T) {q : Nat} (hq : q ≤ z) (hnx : (hI h 12 32).toInt = (q : Int)) {st : Nat} (hst : xS T z q = st) (hz : st < z) (hl : 48 ≤ T st ∧ T st ≤ 57) (h6 : ¬ en T isF z st ≤ st + 5) : oSp G mX6_step [.ref 12] h none (sI (sI (mH (pH h st) (en T isF z st)) 12 33 0) 12 35 (kI (en T isF z st))) := by
  have z3 := tp0.2.1
  have hw := xS_w (T := T) hq
  rw [hst] at hw
  refine oSp.intro [some (.ref 12), none] rfl (Nat.le_of_ble_eq_true rfl) (plainFor_of_name (by decide +kernel)) (Nat.le_refl _) ?_
  intro p l e R s m args below meth c C
  refine oS_h (mH_id hnx) (lp_wm G hs0 tp0 C (Nat.le_refl _) (z - q) q (by omega) ?_)
  rw [show en T isW z q = st from hst]
  have hs : oSh (mH (pH h st) st) := hs0
  have tp : tpM (mH (pH h st) st) z T := tp0.fr rfl (fun _ => rfl)
  have h3 := mH_3 (h := pH h st) (q := st) (by omega)
  have h5 := pH_4 (h := h) (s := st) (e := st) (by omega)
  have hT := (tp.2.2 st (by omega)).1
  have hT2 := (tp.2.2 st (by omega)).2
  refine r_aload_n C rfl rfl dX6_step_39 ?_
  refine r_aload_n C rfl rfl dX6_step_40 ?_
  refine r_getI C dX6_step_41 fl_X6_209 rfl (q_lt hs (by decide)) ?_
  refine r_putI C dX6_step_44 fl_X6_215 rfl (q_lt hs (by decide)) (Or.inl rfl) ?_
  refine oS_h (pl_e (by omega)) ?_
  refine r_aload_n C rfl rfl dX6_step_47 ?_
  refine r_aload_n C rfl rfl dX6_step_48 ?_
  refine r_getI C dX6_step_49 fl_X6_209 rfl (q_lt hs (by decide)) ?_
  refine r_callV C (sp_byM G hs tp _ h3 (by omega)) kv_X6_byteAt kn_X6_byteAt rfl dX6_step_52 cl_X6_212 ⟨Nat.le_of_ble_eq_true rfl, Nat.le_of_ble_eq_true rfl⟩ (by decide) rfl rfl (q_lt hs (by decide)) (Nat.le_refl _) rfl (Nat.le_of_ble_eq_true rfl) ?_
  refine r_istore_n C rfl (Nat.le_of_ble_eq_true rfl) dX6_step_55 ?_
  refine r_iload_n C rfl dX6_step_56 ?_
  refine r_ldc C _ lc_X6_145 dX6_step_57 ?_
  refine t_icmp_ne C 70 (by decide) hT (show ((-1000000) : Int32).toInt = (-1000000) from rfl) dX6_step_59 (fun c59 => ?_) (fun c59 => ?_)
  · first
    | (exfalso; omega)
    |  (refine r_iload_n C rfl dX6_step_70 ?_
        refine r_callS C (sp_isLM G _) ks_X6_isLetter kn_X6_isLetter rfl dX6_step_71 cl_X6_221 ⟨Nat.le_of_ble_eq_true rfl, Nat.le_of_ble_eq_true rfl⟩ (Nat.le_refl _) rfl (Nat.le_of_ble_eq_true rfl) ?_
        refine t_ifb_eq C 130 (by decide) dX6_step_74 (fun c74 => ?_) (fun c74 => ?_)
        · first
          | (exfalso; omega)
          |  (refine r_iload_n C rfl dX6_step_130 ?_
              refine r_callS C (sp_isFM G _) ks_X6_isFigure kn_X6_isFigure rfl dX6_step_131 cl_X6_224 ⟨Nat.le_of_ble_eq_true rfl, Nat.le_of_ble_eq_true rfl⟩ (Nat.le_refl _) rfl (Nat.le_of_ble_eq_true rfl) ?_
              refine t_ifb_eq C 189 (by decide) dX6_step_134 (fun c134 => ?_) (fun c134 => ?_)
              · first
                | (exfalso; omega)
                |  (refine r_aload_n C rfl rfl dX6_step_189 ?_
                    refine r_dup C rfl dX6_step_190 ?_
                    refine r_getI C dX6_step_191 fl_X6_209 rfl (q_lt hs (by decide)) ?_
                    refine r_iconstv C 1 rfl dX6_step_194 ?_
                    refine r_iadd C dX6_step_195 ?_
                    refine r_putI C dX6_step_196 fl_X6_209 rfl (q_lt hs (by decide)) (Or.inl rfl) ?_
                    refine r_aload_n C rfl rfl dX6_step_199 ?_
                    refine r_iload_n C rfl dX6_step_200 ?_
                    refine r_bipush C 59 rfl dX6_step_201 ?_
                    refine t_icmp_eq C 212 (by decide) hT (show (59 : Int32).toInt = 59 from rfl) dX6_step_203 (fun c203 => ?_) (fun c203 => ?_)
                    · first
                      | (exfalso; omega)
                      |  (refine r_iconstv C 4 rfl dX6_step_212 ?_
                          refine r_goto C 217 (by decide) dX6_step_213 ?_
                          refine r_putI C dX6_step_217 fl_X6_218 rfl (q_lt hs (by decide)) (Or.inl rfl) ?_
                          refine r_aload_n C rfl rfl dX6_step_220 ?_
                          refine r_aload_n C rfl rfl dX6_step_221 ?_
                          refine r_getI C dX6_step_222 fl_X6_209 rfl (q_lt hs (by decide)) ?_
                          refine r_putI C dX6_step_225 fl_X6_227 rfl (q_lt hs (by decide)) (Or.inl rfl) ?_
                          exact r_vret C dX6_step_228 rfl (Nat.le_refl _) (by rw [show hI (sI (mH (pH h st) (st)) 12 33 _) 12 32 = kI (st) from kI_e (mH_3 (h := pH h st) (q := st) (by omega))]))
                    · first
                      | (exfalso; omega)
                      |  (refine r_iload_n C rfl dX6_step_206 ?_
                          refine r_bipush C 64 rfl dX6_step_207 ?_
                          refine t_icmp_ne C 216 (by decide) hT (show (64 : Int32).toInt = 64 from rfl) dX6_step_209 (fun c209 => ?_) (fun c209 => ?_)
                          · first
                            | (exfalso; omega)
                            |  (refine r_iconstv C 0 rfl dX6_step_216 ?_
                                refine r_putI C dX6_step_217 fl_X6_218 rfl (q_lt hs (by decide)) (Or.inl rfl) ?_
                                refine r_aload_n C rfl rfl dX6_step_220 ?_
                                refine r_aload_n C rfl rfl dX6_step_221 ?_
                                refine r_getI C dX6_step_222 fl_X6_209 rfl (q_lt hs (by decide)) ?_
                                refine r_putI C dX6_step_225 fl_X6_227 rfl (q_lt hs (by decide)) (Or.inl rfl) ?_
                                exact r_vret C dX6_step_228 rfl (Nat.le_refl _) (by rw [show hI (sI (mH (pH h st) (st)) 12 33 _) 12 32 = kI (st) from kI_e (mH_3 (h := pH h st) (q := st) (by omega))]))
                          · first
                            | (exfalso; omega)
                            |  (refine r_iconstv C 4 rfl dX6_step_212 ?_
                                refine r_goto C 217 (by decide) dX6_step_213 ?_
                                refine r_putI C dX6_step_217 fl_X6_218 rfl (q_lt hs (by decide)) (Or.inl rfl) ?_
                                refine r_aload_n C rfl rfl dX6_step_220 ?_
                                refine r_aload_n C rfl rfl dX6_step_221 ?_
                                refine r_getI C dX6_step_222 fl_X6_209 rfl (q_lt hs (by decide)) ?_
                                refine r_putI C dX6_step_225 fl_X6_227 rfl (q_lt hs (by decide)) (Or.inl rfl) ?_
                                exact r_vret C dX6_step_228 rfl (Nat.le_refl _) (by rw [show hI (sI (mH (pH h st) (st)) 12 33 _) 12 32 = kI (st) from kI_e (mH_3 (h := pH h st) (q := st) (by omega))]))))
              · first
                | (exfalso; omega)
                |  (refine lp_fm G (h := pH h st) hs0 (tp0.fr rfl (fun _ => rfl)) C (Nat.le_refl _) (z - st) st (by omega) ?_
                    have hw2 := en_w (T := T) (P := isF) (z := z) (q := st) (by omega)
                    have hs2 : oSh (mH (pH h st) ((en T isF z st))) := hs0
                    have h32 := mH_3 (h := pH h st) (q := (en T isF z st)) (by omega)
                    have h52 := pH_4 (h := h) (s := st) (e := (en T isF z st)) (by omega)
                    refine r_aload_n C rfl rfl dX6_step_164 ?_
                    refine r_aload_n C rfl rfl dX6_step_165 ?_
                    refine r_getI C dX6_step_166 fl_X6_209 rfl (q_lt hs2 (by decide)) ?_
                    refine r_aload_n C rfl rfl dX6_step_169 ?_
                    refine r_getI C dX6_step_170 fl_X6_215 rfl (q_lt hs2 (by decide)) ?_
                    refine r_isub C dX6_step_173 ?_
                    refine r_iconstv C 5 rfl dX6_step_174 ?_
                    refine t_icmp_le C 182 (by decide) (tS h32 h52 (by omega)) (show (5 : Int32).toInt = 5 from rfl) dX6_step_175 (fun c175 => ?_) (fun c175 => ?_)
                    · first
                      | (exfalso; omega)
                      |  (refine r_iconstv C 3 rfl dX6_step_182 ?_
                          refine r_putI C dX6_step_183 fl_X6_218 rfl (q_lt hs2 (by decide)) (Or.inl rfl) ?_
                          refine r_goto C 220 (by decide) dX6_step_186 ?_
                          refine r_aload_n C rfl rfl dX6_step_220 ?_
                          refine r_aload_n C rfl rfl dX6_step_221 ?_
                          refine r_getI C dX6_step_222 fl_X6_209 rfl (q_lt hs2 (by decide)) ?_
                          refine r_putI C dX6_step_225 fl_X6_227 rfl (q_lt hs2 (by decide)) (Or.inl rfl) ?_
                          exact r_vret C dX6_step_228 rfl (Nat.le_refl _) (by rw [show hI (sI (mH (pH h st) ((en T isF z st))) 12 33 _) 12 32 = kI ((en T isF z st)) from kI_e (mH_3 (h := pH h st) (q := (en T isF z st)) (by omega))]))
                    · first
                      | (exfalso; omega)
                      |  (refine r_iconstv C 0 rfl dX6_step_178 ?_
                          refine r_goto C 183 (by decide) dX6_step_179 ?_
                          refine r_putI C dX6_step_183 fl_X6_218 rfl (q_lt hs2 (by decide)) (Or.inl rfl) ?_
                          refine r_goto C 220 (by decide) dX6_step_186 ?_
                          refine r_aload_n C rfl rfl dX6_step_220 ?_
                          refine r_aload_n C rfl rfl dX6_step_221 ?_
                          refine r_getI C dX6_step_222 fl_X6_209 rfl (q_lt hs2 (by decide)) ?_
                          refine r_putI C dX6_step_225 fl_X6_227 rfl (q_lt hs2 (by decide)) (Or.inl rfl) ?_
                          exact r_vret C dX6_step_228 rfl (Nat.le_refl _) (by rw [show hI (sI (mH (pH h st) ((en T isF z st))) 12 33 _) 12 32 = kI ((en T isF z st)) from kI_e (mH_3 (h := pH h st) (q := (en T isF z st)) (by omega))]))))
        · first
          | (exfalso; omega)
          |  ((exfalso; omega)))
  · first
    | (exfalso; omega)
    |  (refine r_aload_n C rfl rfl dX6_step_62 ?_
        refine r_iconstv C 1 rfl dX6_step_63 ?_
        refine r_putI C dX6_step_64 fl_X6_218 rfl (q_lt hs (by decide)) (Or.inl rfl) ?_
        refine r_goto C 220 (by decide) dX6_step_67 ?_
        refine r_aload_n C rfl rfl dX6_step_220 ?_
        refine r_aload_n C rfl rfl dX6_step_221 ?_
        refine r_getI C dX6_step_222 fl_X6_209 rfl (q_lt hs (by decide)) ?_
        refine r_putI C dX6_step_225 fl_X6_227 rfl (q_lt hs (by decide)) (Or.inl rfl) ?_
        exact r_vret C dX6_step_228 rfl (Nat.le_refl _) (by rw [show hI (sI (mH (pH h st) (st)) 12 33 _) 12 32 = kI (st) from kI_e (mH_3 (h := pH h st) (q := st) (by omega))]))

set_option maxHeartbeats 4000000 in
set_option maxRecDepth 100000 in
theorem sp_stS (G : oG) {h : oH} (hs0 : oSh h) {z : Nat} {T : Nat → Int} (tp0 : tpM h z T) {q : Nat} (hq : q ≤ z) (hnx : (hI h 12 32).toInt = (q : Int)) {st : Nat} (hst : xS T z q = st) (hz : st < z) (hl : ¬ (97 ≤ T st ∧ T st ≤ 122)) (hf : ¬ (48 ≤ T st ∧ T st ≤ 57)) (hg : T st = 59 ∨ T st = 64) : oSp G mX6_step [.ref 12] h none (sI (sI (mH (pH h st) (st + 1)) 12 33 4) 12 35 (kI (st + 1))) := by
  have z3 := tp0.2.1
  have hw := xS_w (T := T) hq
  rw [hst] at hw
  refine oSp.intro [some (.ref 12), none] rfl (Nat.le_of_ble_eq_true rfl) (plainFor_of_name (by decide +kernel)) (Nat.le_refl _) ?_
  intro p l e R s m args below meth c C
  refine oS_h (mH_id hnx) (lp_wm G hs0 tp0 C (Nat.le_refl _) (z - q) q (by omega) ?_)
  rw [show en T isW z q = st from hst]
  have hs : oSh (mH (pH h st) st) := hs0
  have tp : tpM (mH (pH h st) st) z T := tp0.fr rfl (fun _ => rfl)
  have h3 := mH_3 (h := pH h st) (q := st) (by omega)
  have h5 := pH_4 (h := h) (s := st) (e := st) (by omega)
  have hT := (tp.2.2 st (by omega)).1
  have hT2 := (tp.2.2 st (by omega)).2
  refine r_aload_n C rfl rfl dX6_step_39 ?_
  refine r_aload_n C rfl rfl dX6_step_40 ?_
  refine r_getI C dX6_step_41 fl_X6_209 rfl (q_lt hs (by decide)) ?_
  refine r_putI C dX6_step_44 fl_X6_215 rfl (q_lt hs (by decide)) (Or.inl rfl) ?_
  refine oS_h (pl_e (by omega)) ?_
  refine r_aload_n C rfl rfl dX6_step_47 ?_
  refine r_aload_n C rfl rfl dX6_step_48 ?_
  refine r_getI C dX6_step_49 fl_X6_209 rfl (q_lt hs (by decide)) ?_
  refine r_callV C (sp_byM G hs tp _ h3 (by omega)) kv_X6_byteAt kn_X6_byteAt rfl dX6_step_52 cl_X6_212 ⟨Nat.le_of_ble_eq_true rfl, Nat.le_of_ble_eq_true rfl⟩ (by decide) rfl rfl (q_lt hs (by decide)) (Nat.le_refl _) rfl (Nat.le_of_ble_eq_true rfl) ?_
  refine r_istore_n C rfl (Nat.le_of_ble_eq_true rfl) dX6_step_55 ?_
  refine r_iload_n C rfl dX6_step_56 ?_
  refine r_ldc C _ lc_X6_145 dX6_step_57 ?_
  refine t_icmp_ne C 70 (by decide) hT (show ((-1000000) : Int32).toInt = (-1000000) from rfl) dX6_step_59 (fun c59 => ?_) (fun c59 => ?_)
  · first
    | (exfalso; omega)
    |  (refine r_iload_n C rfl dX6_step_70 ?_
        refine r_callS C (sp_isLM G _) ks_X6_isLetter kn_X6_isLetter rfl dX6_step_71 cl_X6_221 ⟨Nat.le_of_ble_eq_true rfl, Nat.le_of_ble_eq_true rfl⟩ (Nat.le_refl _) rfl (Nat.le_of_ble_eq_true rfl) ?_
        refine t_ifb_eq C 130 (by decide) dX6_step_74 (fun c74 => ?_) (fun c74 => ?_)
        · first
          | (exfalso; omega)
          |  (refine r_iload_n C rfl dX6_step_130 ?_
              refine r_callS C (sp_isFM G _) ks_X6_isFigure kn_X6_isFigure rfl dX6_step_131 cl_X6_224 ⟨Nat.le_of_ble_eq_true rfl, Nat.le_of_ble_eq_true rfl⟩ (Nat.le_refl _) rfl (Nat.le_of_ble_eq_true rfl) ?_
              refine t_ifb_eq C 189 (by decide) dX6_step_134 (fun c134 => ?_) (fun c134 => ?_)
              · first
                | (exfalso; omega)
                |  (refine r_aload_n C rfl rfl dX6_step_189 ?_
                    refine r_dup C rfl dX6_step_190 ?_
                    refine r_getI C dX6_step_191 fl_X6_209 rfl (q_lt hs (by decide)) ?_
                    refine r_iconstv C 1 rfl dX6_step_194 ?_
                    refine r_iadd C dX6_step_195 ?_
                    refine r_putI C dX6_step_196 fl_X6_209 rfl (q_lt hs (by decide)) (Or.inl rfl) ?_
                    refine r_aload_n C rfl rfl dX6_step_199 ?_
                    refine r_iload_n C rfl dX6_step_200 ?_
                    refine r_bipush C 59 rfl dX6_step_201 ?_
                    refine t_icmp_eq C 212 (by decide) hT (show (59 : Int32).toInt = 59 from rfl) dX6_step_203 (fun c203 => ?_) (fun c203 => ?_)
                    · first
                      | (exfalso; omega)
                      |  (refine r_iconstv C 4 rfl dX6_step_212 ?_
                          refine r_goto C 217 (by decide) dX6_step_213 ?_
                          refine r_putI C dX6_step_217 fl_X6_218 rfl (q_lt hs (by decide)) (Or.inl rfl) ?_
                          refine r_aload_n C rfl rfl dX6_step_220 ?_
                          refine r_aload_n C rfl rfl dX6_step_221 ?_
                          refine r_getI C dX6_step_222 fl_X6_209 rfl (q_lt hs (by decide)) ?_
                          refine r_putI C dX6_step_225 fl_X6_227 rfl (q_lt hs (by decide)) (Or.inl rfl) ?_
                          exact r_vret C dX6_step_228 rfl (Nat.le_refl _) (by rw [mH_s (by omega)]; rw [show hI (sI (mH (pH h st) (st + 1)) 12 33 _) 12 32 = kI (st + 1) from kI_e (mH_3 (h := pH h st) (q := st + 1) (by omega))]))
                    · first
                      | (exfalso; omega)
                      |  (refine r_iload_n C rfl dX6_step_206 ?_
                          refine r_bipush C 64 rfl dX6_step_207 ?_
                          refine t_icmp_ne C 216 (by decide) hT (show (64 : Int32).toInt = 64 from rfl) dX6_step_209 (fun c209 => ?_) (fun c209 => ?_)
                          · first
                            | (exfalso; omega)
                            |  (refine r_iconstv C 0 rfl dX6_step_216 ?_
                                refine r_putI C dX6_step_217 fl_X6_218 rfl (q_lt hs (by decide)) (Or.inl rfl) ?_
                                refine r_aload_n C rfl rfl dX6_step_220 ?_
                                refine r_aload_n C rfl rfl dX6_step_221 ?_
                                refine r_getI C dX6_step_222 fl_X6_209 rfl (q_lt hs (by decide)) ?_
                                refine r_putI C dX6_step_225 fl_X6_227 rfl (q_lt hs (by decide)) (Or.inl rfl) ?_
                                exact r_vret C dX6_step_228 rfl (Nat.le_refl _) (by rw [mH_s (by omega)]; rw [show hI (sI (mH (pH h st) (st + 1)) 12 33 _) 12 32 = kI (st + 1) from kI_e (mH_3 (h := pH h st) (q := st + 1) (by omega))]))
                          · first
                            | (exfalso; omega)
                            |  (refine r_iconstv C 4 rfl dX6_step_212 ?_
                                refine r_goto C 217 (by decide) dX6_step_213 ?_
                                refine r_putI C dX6_step_217 fl_X6_218 rfl (q_lt hs (by decide)) (Or.inl rfl) ?_
                                refine r_aload_n C rfl rfl dX6_step_220 ?_
                                refine r_aload_n C rfl rfl dX6_step_221 ?_
                                refine r_getI C dX6_step_222 fl_X6_209 rfl (q_lt hs (by decide)) ?_
                                refine r_putI C dX6_step_225 fl_X6_227 rfl (q_lt hs (by decide)) (Or.inl rfl) ?_
                                exact r_vret C dX6_step_228 rfl (Nat.le_refl _) (by rw [mH_s (by omega)]; rw [show hI (sI (mH (pH h st) (st + 1)) 12 33 _) 12 32 = kI (st + 1) from kI_e (mH_3 (h := pH h st) (q := st + 1) (by omega))]))))
              · first
                | (exfalso; omega)
                |  ((exfalso; omega)))
        · first
          | (exfalso; omega)
          |  ((exfalso; omega)))
  · first
    | (exfalso; omega)
    |  (refine r_aload_n C rfl rfl dX6_step_62 ?_
        refine r_iconstv C 1 rfl dX6_step_63 ?_
        refine r_putI C dX6_step_64 fl_X6_218 rfl (q_lt hs (by decide)) (Or.inl rfl) ?_
        refine r_goto C 220 (by decide) dX6_step_67 ?_
        refine r_aload_n C rfl rfl dX6_step_220 ?_
        refine r_aload_n C rfl rfl dX6_step_221 ?_
        refine r_getI C dX6_step_222 fl_X6_209 rfl (q_lt hs (by decide)) ?_
        refine r_putI C dX6_step_225 fl_X6_227 rfl (q_lt hs (by decide)) (Or.inl rfl) ?_
        exact r_vret C dX6_step_228 rfl (Nat.le_refl _) (by rw [mH_s (by omega)]; rw [show hI (sI (mH (pH h st) (st + 1)) 12 33 _) 12 32 = kI (st + 1) from kI_e (mH_3 (h := pH h st) (q := st + 1) (by omega))]))

set_option maxHeartbeats 4000000 in
set_option maxRecDepth 100000 in
theorem sp_stX (G : oG) {h : oH} (hs0 : oSh h) {z : Nat} {T : Nat → Int} (tp0 : tpM h z T) {q : Nat} (hq : q ≤ z) (hnx : (hI h 12 32).toInt = (q : Int)) {st : Nat} (hst : xS T z q = st) (hz : st < z) (hl : ¬ (97 ≤ T st ∧ T st ≤ 122)) (hf : ¬ (48 ≤ T st ∧ T st ≤ 57)) (hg : ¬ (T st = 59 ∨ T st = 64)) : oSp G mX6_step [.ref 12] h none (sI (sI (mH (pH h st) (st + 1)) 12 33 0) 12 35 (kI (st + 1))) := by
  have z3 := tp0.2.1
  have hw := xS_w (T := T) hq
  rw [hst] at hw
  refine oSp.intro [some (.ref 12), none] rfl (Nat.le_of_ble_eq_true rfl) (plainFor_of_name (by decide +kernel)) (Nat.le_refl _) ?_
  intro p l e R s m args below meth c C
  refine oS_h (mH_id hnx) (lp_wm G hs0 tp0 C (Nat.le_refl _) (z - q) q (by omega) ?_)
  rw [show en T isW z q = st from hst]
  have hs : oSh (mH (pH h st) st) := hs0
  have tp : tpM (mH (pH h st) st) z T := tp0.fr rfl (fun _ => rfl)
  have h3 := mH_3 (h := pH h st) (q := st) (by omega)
  have h5 := pH_4 (h := h) (s := st) (e := st) (by omega)
  have hT := (tp.2.2 st (by omega)).1
  have hT2 := (tp.2.2 st (by omega)).2
  refine r_aload_n C rfl rfl dX6_step_39 ?_
  refine r_aload_n C rfl rfl dX6_step_40 ?_
  refine r_getI C dX6_step_41 fl_X6_209 rfl (q_lt hs (by decide)) ?_
  refine r_putI C dX6_step_44 fl_X6_215 rfl (q_lt hs (by decide)) (Or.inl rfl) ?_
  refine oS_h (pl_e (by omega)) ?_
  refine r_aload_n C rfl rfl dX6_step_47 ?_
  refine r_aload_n C rfl rfl dX6_step_48 ?_
  refine r_getI C dX6_step_49 fl_X6_209 rfl (q_lt hs (by decide)) ?_
  refine r_callV C (sp_byM G hs tp _ h3 (by omega)) kv_X6_byteAt kn_X6_byteAt rfl dX6_step_52 cl_X6_212 ⟨Nat.le_of_ble_eq_true rfl, Nat.le_of_ble_eq_true rfl⟩ (by decide) rfl rfl (q_lt hs (by decide)) (Nat.le_refl _) rfl (Nat.le_of_ble_eq_true rfl) ?_
  refine r_istore_n C rfl (Nat.le_of_ble_eq_true rfl) dX6_step_55 ?_
  refine r_iload_n C rfl dX6_step_56 ?_
  refine r_ldc C _ lc_X6_145 dX6_step_57 ?_
  refine t_icmp_ne C 70 (by decide) hT (show ((-1000000) : Int32).toInt = (-1000000) from rfl) dX6_step_59 (fun c59 => ?_) (fun c59 => ?_)
  · first
    | (exfalso; omega)
    |  (refine r_iload_n C rfl dX6_step_70 ?_
        refine r_callS C (sp_isLM G _) ks_X6_isLetter kn_X6_isLetter rfl dX6_step_71 cl_X6_221 ⟨Nat.le_of_ble_eq_true rfl, Nat.le_of_ble_eq_true rfl⟩ (Nat.le_refl _) rfl (Nat.le_of_ble_eq_true rfl) ?_
        refine t_ifb_eq C 130 (by decide) dX6_step_74 (fun c74 => ?_) (fun c74 => ?_)
        · first
          | (exfalso; omega)
          |  (refine r_iload_n C rfl dX6_step_130 ?_
              refine r_callS C (sp_isFM G _) ks_X6_isFigure kn_X6_isFigure rfl dX6_step_131 cl_X6_224 ⟨Nat.le_of_ble_eq_true rfl, Nat.le_of_ble_eq_true rfl⟩ (Nat.le_refl _) rfl (Nat.le_of_ble_eq_true rfl) ?_
              refine t_ifb_eq C 189 (by decide) dX6_step_134 (fun c134 => ?_) (fun c134 => ?_)
              · first
                | (exfalso; omega)
                |  (refine r_aload_n C rfl rfl dX6_step_189 ?_
                    refine r_dup C rfl dX6_step_190 ?_
                    refine r_getI C dX6_step_191 fl_X6_209 rfl (q_lt hs (by decide)) ?_
                    refine r_iconstv C 1 rfl dX6_step_194 ?_
                    refine r_iadd C dX6_step_195 ?_
                    refine r_putI C dX6_step_196 fl_X6_209 rfl (q_lt hs (by decide)) (Or.inl rfl) ?_
                    refine r_aload_n C rfl rfl dX6_step_199 ?_
                    refine r_iload_n C rfl dX6_step_200 ?_
                    refine r_bipush C 59 rfl dX6_step_201 ?_
                    refine t_icmp_eq C 212 (by decide) hT (show (59 : Int32).toInt = 59 from rfl) dX6_step_203 (fun c203 => ?_) (fun c203 => ?_)
                    · first
                      | (exfalso; omega)
                      |  (refine r_iconstv C 4 rfl dX6_step_212 ?_
                          refine r_goto C 217 (by decide) dX6_step_213 ?_
                          refine r_putI C dX6_step_217 fl_X6_218 rfl (q_lt hs (by decide)) (Or.inl rfl) ?_
                          refine r_aload_n C rfl rfl dX6_step_220 ?_
                          refine r_aload_n C rfl rfl dX6_step_221 ?_
                          refine r_getI C dX6_step_222 fl_X6_209 rfl (q_lt hs (by decide)) ?_
                          refine r_putI C dX6_step_225 fl_X6_227 rfl (q_lt hs (by decide)) (Or.inl rfl) ?_
                          exact r_vret C dX6_step_228 rfl (Nat.le_refl _) (by rw [mH_s (by omega)]; rw [show hI (sI (mH (pH h st) (st + 1)) 12 33 _) 12 32 = kI (st + 1) from kI_e (mH_3 (h := pH h st) (q := st + 1) (by omega))]))
                    · first
                      | (exfalso; omega)
                      |  (refine r_iload_n C rfl dX6_step_206 ?_
                          refine r_bipush C 64 rfl dX6_step_207 ?_
                          refine t_icmp_ne C 216 (by decide) hT (show (64 : Int32).toInt = 64 from rfl) dX6_step_209 (fun c209 => ?_) (fun c209 => ?_)
                          · first
                            | (exfalso; omega)
                            |  (refine r_iconstv C 0 rfl dX6_step_216 ?_
                                refine r_putI C dX6_step_217 fl_X6_218 rfl (q_lt hs (by decide)) (Or.inl rfl) ?_
                                refine r_aload_n C rfl rfl dX6_step_220 ?_
                                refine r_aload_n C rfl rfl dX6_step_221 ?_
                                refine r_getI C dX6_step_222 fl_X6_209 rfl (q_lt hs (by decide)) ?_
                                refine r_putI C dX6_step_225 fl_X6_227 rfl (q_lt hs (by decide)) (Or.inl rfl) ?_
                                exact r_vret C dX6_step_228 rfl (Nat.le_refl _) (by rw [mH_s (by omega)]; rw [show hI (sI (mH (pH h st) (st + 1)) 12 33 _) 12 32 = kI (st + 1) from kI_e (mH_3 (h := pH h st) (q := st + 1) (by omega))]))
                          · first
                            | (exfalso; omega)
                            |  (refine r_iconstv C 4 rfl dX6_step_212 ?_
                                refine r_goto C 217 (by decide) dX6_step_213 ?_
                                refine r_putI C dX6_step_217 fl_X6_218 rfl (q_lt hs (by decide)) (Or.inl rfl) ?_
                                refine r_aload_n C rfl rfl dX6_step_220 ?_
                                refine r_aload_n C rfl rfl dX6_step_221 ?_
                                refine r_getI C dX6_step_222 fl_X6_209 rfl (q_lt hs (by decide)) ?_
                                refine r_putI C dX6_step_225 fl_X6_227 rfl (q_lt hs (by decide)) (Or.inl rfl) ?_
                                exact r_vret C dX6_step_228 rfl (Nat.le_refl _) (by rw [mH_s (by omega)]; rw [show hI (sI (mH (pH h st) (st + 1)) 12 33 _) 12 32 = kI (st + 1) from kI_e (mH_3 (h := pH h st) (q := st + 1) (by omega))]))))
              · first
                | (exfalso; omega)
                |  ((exfalso; omega)))
        · first
          | (exfalso; omega)
          |  ((exfalso; omega)))
  · first
    | (exfalso; omega)
    |  (refine r_aload_n C rfl rfl dX6_step_62 ?_
        refine r_iconstv C 1 rfl dX6_step_63 ?_
        refine r_putI C dX6_step_64 fl_X6_218 rfl (q_lt hs (by decide)) (Or.inl rfl) ?_
        refine r_goto C 220 (by decide) dX6_step_67 ?_
        refine r_aload_n C rfl rfl dX6_step_220 ?_
        refine r_aload_n C rfl rfl dX6_step_221 ?_
        refine r_getI C dX6_step_222 fl_X6_209 rfl (q_lt hs (by decide)) ?_
        refine r_putI C dX6_step_225 fl_X6_227 rfl (q_lt hs (by decide)) (Or.inl rfl) ?_
        exact r_vret C dX6_step_228 rfl (Nat.le_refl _) (by rw [mH_s (by omega)]; rw [show hI (sI (mH (pH h st) (st + 1)) 12 33 _) 12 32 = kI (st + 1) from kI_e (mH_3 (h := pH h st) (q := st + 1) (by omega))]))

def stF (h h' : oH) (T : Nat → Int) (z q : Nat) : Prop := (hI h' 12 32).toInt = ((xE T z q : Nat) : Int) ∧ (hI h' 12 33).toInt = ((xR T z q : Nat) : Int) ∧ (hI h' 12 34).toInt = ((xS T z q : Nat) : Int) ∧ (hI h' 12 35).toInt = ((xE T z q : Nat) : Int) ∧ h'.1 = h.1 ∧ (∀ a y, hR h' a y = hR h a y) ∧ (∀ a y, hJ h' a y = hJ h a y) ∧ ∀ a y, ¬ (a = 12 ∧ 32 ≤ y ∧ y ≤ 35) → hI h' a y = hI h a y
theorem stT (G : oG) {h : oH} (hs : oSh h) {z : Nat} {T : Nat → Int} (tp : tpM h z T) {q : Nat} (hq : q ≤ z) (hnx : (hI h 12 32).toInt = (q : Int)) : ∃ h', oSp G mX6_step [.ref 12] h none h' ∧ stF h h' T z q := by
  have z3 := tp.2.1
  have hw := xS_w (T := T) hq
  generalize hst : xS T z q = st at hw
  have mk : ∀ (e K : Nat) (v : Int32), e < 1000 → xE T z q = e → xR T z q = K → v.toInt = (K : Int) → stF h (sI (sI (mH (pH h st) e) 12 33 v) 12 35 (kI e)) T z q := fun e K v he hE hK hv => by
    refine ⟨?_, ?_, ?_, ?_, rfl, fun _ _ => rfl, fun _ _ => rfl, fun a y c1 => ?_⟩
    · rw [hE, sI_ne (by omega), sI_ne (by omega)]
      exact mH_3 he
    · rw [hK, sI_ne (by omega), sI_eq ⟨rfl, rfl⟩]
      exact hv
    · rw [hst, sI_ne (by omega), sI_ne (by omega)]
      exact pH_4 (by omega)
    · rw [hE, sI_eq ⟨rfl, rfl⟩]
      exact kI_t (by omega)
    · rw [sI_ne (by omega), sI_ne (by omega)]
      unfold mH pH
      rw [sI_ne (by omega), sI_ne (by omega)]
  by_cases c0 : z ≤ st
  · exact ⟨_, sp_st0 G hs tp hq hnx hst c0, mk st 1 1 (by omega) (by unfold xE xEs; rw [hst, if_pos c0]) (by unfold xR xRs; rw [hst, if_pos c0]) rfl⟩
  · by_cases c1 : isL (T st) = true
    · have q2 := en_w (T := T) (P := isL) (z := z) (q := st) (by omega)
      have hE : xE T z q = en T isL z st := by unfold xE xEs; rw [hst, if_neg c0, if_pos c1]
      by_cases c6 : en T isL z st ≤ st + 6
      · exact ⟨_, sp_stL G hs tp hq hnx hst (by omega) (isL_i.mp c1) c6, mk _ 2 2 (by omega) hE (by unfold xR xRs; rw [hst, if_neg c0, if_pos c1, if_neg (by omega)]) rfl⟩
      · exact ⟨_, sp_stLX G hs tp hq hnx hst (by omega) (isL_i.mp c1) c6, mk _ 0 0 (by omega) hE (by unfold xR xRs; rw [hst, if_neg c0, if_pos c1, if_pos (by omega)]) rfl⟩
    · by_cases c2 : isF (T st) = true
      · have q2 := en_w (T := T) (P := isF) (z := z) (q := st) (by omega)
        have hE : xE T z q = en T isF z st := by unfold xE xEs; rw [hst, if_neg c0, if_neg c1, if_pos c2]
        by_cases c6 : en T isF z st ≤ st + 5
        · exact ⟨_, sp_stF G hs tp hq hnx hst (by omega) (isF_i.mp c2) c6, mk _ 3 3 (by omega) hE (by unfold xR xRs; rw [hst, if_neg c0, if_neg c1, if_pos c2, if_neg (by omega)]) rfl⟩
        · exact ⟨_, sp_stFX G hs tp hq hnx hst (by omega) (isF_i.mp c2) c6, mk _ 0 0 (by omega) hE (by unfold xR xRs; rw [hst, if_neg c0, if_neg c1, if_pos c2, if_pos (by omega)]) rfl⟩
      · have hE : xE T z q = st + 1 := by unfold xE xEs; rw [hst, if_neg c0, if_neg c1, if_neg c2]
        by_cases c6 : T st = 59 ∨ T st = 64
        · exact ⟨_, sp_stS G hs tp hq hnx hst (by omega) (fun a => c1 (isL_i.mpr a)) (fun a => c2 (isF_i.mpr a)) c6, mk _ 4 4 (by omega) hE (by unfold xR xRs; rw [hst, if_neg c0, if_neg c1, if_neg c2, if_pos c6]) rfl⟩
        · exact ⟨_, sp_stX G hs tp hq hnx hst (by omega) (fun a => c1 (isL_i.mpr a)) (fun a => c2 (isF_i.mpr a)) c6, mk _ 0 0 (by omega) hE (by unfold xR xRs; rw [hst, if_neg c0, if_neg c1, if_neg c2, if_neg c6]) rfl⟩
