/-! the class's tokens -/
set_option maxHeartbeats 4000000 in
set_option maxRecDepth 100000 in
theorem lp_nm (G : oG) {p : Program} {l : Launch} {e : Env} {R : Room} {s : State} {m : MethodId} {args : Array Value} {below : List Frame} {meth : Method} {c : Code} {n0 nF : Nat} {h : oH} (hs : oSh h) {z : Nat} {T : Nat → Int} (tp : tpC h z T) {st en : Nat} (h3 : (hI h 8 3).toInt = (en : Int)) (h5 : (hI h 8 5).toInt = (st : Int)) (hse : st ≤ en) (hez : en ≤ z) {kk : Nat} (hk : kk < 4) (he : en = st + slen kk) (C : oC G mX3_isName n0 nF p l R s m args meth c) (hF : h.1 ≤ nF) : ∀ (k i : Nat) (x : Int32), i + k = slen kk → x.toInt = (i : Int) → eqB T st kk i = true → oS G mX3_isName p l e R s m args below meth c (oZ G below args s n0 nF (some (.int (b1 (nmB T st en kk = true)))) h) n0 20 [some (.ref 8), some (.float (sv kk)), some (.int x)] [] h := by
  have z3 := tp.2.1
  intro k
  induction k with
  | zero =>
    intro i x hik hx heq
    have hi : i = slen kk := by omega
    subst hi
    refine r_iload_n C rfl dX3_isName_20 ?_
    refine r_aload_n C rfl rfl dX3_isName_21 ?_
    refine r_callVS C (sp_slen G hk) kv_J0_length_8abf5 kn_J0_length_8abf5 rfl dX3_isName_22 cl_X3_116 ⟨Nat.le_of_ble_eq_true rfl, Nat.le_of_ble_eq_true rfl⟩ rfl hk hF rfl (Nat.le_of_ble_eq_true rfl) ?_
    refine t_icmp_ge C 54 (by decide) hx (len_t hk) dX3_isName_25 (fun c25 => ?_) (fun c25 => absurd c25 (by omega))
    refine r_iconstv C 1 rfl dX3_isName_54 ?_
    exact r_zret C dX3_isName_55 rfl rfl hF (er_t (nmB_i.mpr ⟨he, heq⟩)) rfl
  | succ k ih =>
    intro i x hik hx heq
    refine r_iload_n C rfl dX3_isName_20 ?_
    refine r_aload_n C rfl rfl dX3_isName_21 ?_
    refine r_callVS C (sp_slen G hk) kv_J0_length_8abf5 kn_J0_length_8abf5 rfl dX3_isName_22 cl_X3_116 ⟨Nat.le_of_ble_eq_true rfl, Nat.le_of_ble_eq_true rfl⟩ rfl hk hF rfl (Nat.le_of_ble_eq_true rfl) ?_
    refine t_icmp_ge C 54 (by decide) hx (len_t hk) dX3_isName_25 (fun c25 => absurd c25 (by omega)) (fun c25 => ?_)
    refine r_aload_n C rfl rfl dX3_isName_28 ?_
    refine r_iload_n C rfl dX3_isName_29 ?_
    refine r_callVS C (sp_chr G hk _ hx (by omega)) kv_J0_charAt_5068e kn_J0_charAt_5068e rfl dX3_isName_30 cl_X3_121 ⟨Nat.le_of_ble_eq_true rfl, Nat.le_of_ble_eq_true rfl⟩ rfl hk hF rfl (Nat.le_of_ble_eq_true rfl) ?_
    refine r_aload_n C rfl rfl dX3_isName_33 ?_
    refine r_aload_n C rfl rfl dX3_isName_34 ?_
    refine r_getI C dX3_isName_35 fl_X3_28 rfl (q_lt hs (by decide)) ?_
    refine r_iload_n C rfl dX3_isName_38 ?_
    refine r_iadd C dX3_isName_39 ?_
    refine r_callV C (sp_byC G hs tp _ (j := st + i) ((tA h5 hx (by omega)).trans (by omega)) (by omega)) kv_X3_byteAt kn_X3_byteAt rfl dX3_isName_40 cl_X3_86 ⟨Nat.le_of_ble_eq_true rfl, Nat.le_of_ble_eq_true rfl⟩ (by decide) rfl rfl (q_lt hs (by decide)) hF rfl (Nat.le_of_ble_eq_true rfl) ?_
    refine t_icmp_eq C 48 (by decide) (congrArg Int32.toInt (sch_e hk (show i < slen kk by omega)).1) (tp.2.2 (st + i) (by omega)).1 dX3_isName_43 (fun c43 => ?_) (fun c43 => ?_)
    · refine r_iinc C rfl rfl (Nat.le_of_ble_eq_true rfl) dX3_isName_48 ?_
      refine r_goto C 20 (by decide) dX3_isName_51 ?_
      exact ih (i + 1) _ (by omega) (by have t := tA hx (show (Int32.ofInt 1).toInt = 1 from rfl) (by omega); omega) (eqB_s.mpr ⟨heq, c43.symm⟩)
    · refine r_iconstv C 0 rfl dX3_isName_46 ?_
      exact r_zret C dX3_isName_47 rfl rfl hF (er_f (fun q => c43 ((eqB_all _).mp (nmB_i.mp q).2 i (by omega)).symm)) rfl

set_option maxHeartbeats 4000000 in
set_option maxRecDepth 100000 in
theorem sp_isN (G : oG) {h : oH} (hs : oSh h) {z : Nat} {T : Nat → Int} (tp : tpC h z T) {st en : Nat} (h3 : (hI h 8 3).toInt = (en : Int)) (h5 : (hI h 8 5).toInt = (st : Int)) (hse : st ≤ en) (hez : en ≤ z) {kk : Nat} (hk : kk < 4) : oSp G mX3_isName [.ref 8, .float (sv kk)] h (some (.int (b1 (nmB T st en kk = true)))) h := by
  have z3 := tp.2.1
  refine oSp.intro [some (.ref 8), some (.float (sv kk)), none] rfl (Nat.le_of_ble_eq_true rfl) (plainFor_of_name (by decide +kernel)) (Nat.le_refl _) ?_
  intro p l e R s m args below meth c C
  refine r_aload_n C rfl rfl dX3_isName_0 ?_
  refine r_callVS C (sp_slen G hk) kv_J0_length_8abf5 kn_J0_length_8abf5 rfl dX3_isName_1 cl_X3_116 ⟨Nat.le_of_ble_eq_true rfl, Nat.le_of_ble_eq_true rfl⟩ rfl hk (Nat.le_refl _) rfl (Nat.le_of_ble_eq_true rfl) ?_
  refine r_aload_n C rfl rfl dX3_isName_4 ?_
  refine r_getI C dX3_isName_5 fl_X3_22 rfl (q_lt hs (by decide)) ?_
  refine r_aload_n C rfl rfl dX3_isName_8 ?_
  refine r_getI C dX3_isName_9 fl_X3_28 rfl (q_lt hs (by decide)) ?_
  refine r_isub C dX3_isName_12 ?_
  refine t_icmp_eq C 18 (by decide) (len_t hk) (tS h3 h5 (by omega)) dX3_isName_13 (fun c13 => ?_) (fun c13 => ?_)
  · first
    | (exfalso; omega)
    |  (refine r_iconstv C 0 rfl dX3_isName_18 ?_
        refine r_istore_n C rfl (Nat.le_of_ble_eq_true rfl) dX3_isName_19 ?_
        exact lp_nm G hs tp h3 h5 hse hez hk (by omega) C (Nat.le_refl _) (slen kk) 0 _ (by omega) rfl rfl)
  · first
    | (exfalso; omega)
    |  (refine r_iconstv C 0 rfl dX3_isName_16 ?_
        exact r_zret C dX3_isName_17 rfl rfl (Nat.le_refl _) (er_f (fun q => by have q2 := (nmB_i.mp q).1; omega)) rfl)

set_option maxHeartbeats 4000000 in
set_option maxRecDepth 100000 in
theorem sp_nt (G : oG) {h : oH} (hs : oSh h) {z : Nat} {T : Nat → Int} (tp : tpC h z T) {st en : Nat} (h3 : (hI h 8 3).toInt = (en : Int)) (h5 : (hI h 8 5).toInt = (st : Int)) (hse : st ≤ en) (hez : en ≤ z) : oSp G mX3_nameToken [.ref 8] h (some (.int (kI (nmK T st en)))) h := by
  have z3 := tp.2.1
  refine oSp.intro [some (.ref 8)] rfl (Nat.le_of_ble_eq_true rfl) (plainFor_of_name (by decide +kernel)) (Nat.le_refl _) ?_
  intro p l e R s m args below meth c C
  refine r_aload_n C rfl rfl dX3_nameToken_0 ?_
  refine r_getI C dX3_nameToken_1 fl_X3_22 rfl (q_lt hs (by decide)) ?_
  refine r_aload_n C rfl rfl dX3_nameToken_4 ?_
  refine r_getI C dX3_nameToken_5 fl_X3_28 rfl (q_lt hs (by decide)) ?_
  refine r_isub C dX3_nameToken_8 ?_
  refine r_bipush C 6 rfl dX3_nameToken_9 ?_
  refine t_icmp_le C 17 (by decide) (tS h3 h5 (by omega)) (show (6 : Int32).toInt = 6 from rfl) dX3_nameToken_11 (fun c11 => ?_) (fun c11 => ?_)
  · first
    | (exfalso; omega)
    |  (refine r_aload_n C rfl rfl dX3_nameToken_17 ?_
        refine r_ldcS0 C rfl dX3_nameToken_18 ?_
        refine r_callV C (sp_isN G hs tp h3 h5 hse hez (kk := 0) (by decide)) kv_X3_isName kn_X3_isName rfl dX3_nameToken_20 cl_X3_106 ⟨Nat.le_of_ble_eq_true rfl, Nat.le_of_ble_eq_true rfl⟩ (by decide) rfl rfl (q_lt hs (by decide)) (Nat.le_refl _) rfl (Nat.le_of_ble_eq_true rfl) ?_
        refine t_ifb_eq C 28 (by decide) dX3_nameToken_23 (fun c23 => ?_) (fun c23 => ?_)
        · first
          | (exfalso; omega)
          |  (refine r_aload_n C rfl rfl dX3_nameToken_28 ?_
              refine r_ldcS1 C rfl dX3_nameToken_29 ?_
              refine r_callV C (sp_isN G hs tp h3 h5 hse hez (kk := 1) (by decide)) kv_X3_isName kn_X3_isName rfl dX3_nameToken_31 cl_X3_106 ⟨Nat.le_of_ble_eq_true rfl, Nat.le_of_ble_eq_true rfl⟩ (by decide) rfl rfl (q_lt hs (by decide)) (Nat.le_refl _) rfl (Nat.le_of_ble_eq_true rfl) ?_
              refine t_ifb_eq C 39 (by decide) dX3_nameToken_34 (fun c34 => ?_) (fun c34 => ?_)
              · first
                | (exfalso; omega)
                |  (refine r_aload_n C rfl rfl dX3_nameToken_39 ?_
                    refine r_ldcS2 C rfl dX3_nameToken_40 ?_
                    refine r_callV C (sp_isN G hs tp h3 h5 hse hez (kk := 2) (by decide)) kv_X3_isName kn_X3_isName rfl dX3_nameToken_42 cl_X3_106 ⟨Nat.le_of_ble_eq_true rfl, Nat.le_of_ble_eq_true rfl⟩ (by decide) rfl rfl (q_lt hs (by decide)) (Nat.le_refl _) rfl (Nat.le_of_ble_eq_true rfl) ?_
                    refine t_ifb_eq C 50 (by decide) dX3_nameToken_45 (fun c45 => ?_) (fun c45 => ?_)
                    · first
                      | (exfalso; omega)
                      |  (refine r_aload_n C rfl rfl dX3_nameToken_50 ?_
                          refine r_ldcS3 C rfl dX3_nameToken_51 ?_
                          refine r_callV C (sp_isN G hs tp h3 h5 hse hez (kk := 3) (by decide)) kv_X3_isName kn_X3_isName rfl dX3_nameToken_53 cl_X3_106 ⟨Nat.le_of_ble_eq_true rfl, Nat.le_of_ble_eq_true rfl⟩ (by decide) rfl rfl (q_lt hs (by decide)) (Nat.le_refl _) rfl (Nat.le_of_ble_eq_true rfl) ?_
                          refine t_ifb_eq C 63 (by decide) dX3_nameToken_56 (fun c56 => ?_) (fun c56 => ?_)
                          · first
                            | (exfalso; omega)
                            |  (refine r_bipush C 8 rfl dX3_nameToken_63 ?_
                                exact r_iret C dX3_nameToken_65 rfl (Nat.le_refl _) (by unfold nmK; (repeat rw [if_neg (by first | assumption | omega)]); (first | rw [if_pos (by first | assumption | omega)] | skip); rfl) rfl)
                          · first
                            | (exfalso; omega)
                            |  (refine r_iconstv C 4 rfl dX3_nameToken_59 ?_
                                refine r_goto C 65 (by decide) dX3_nameToken_60 ?_
                                exact r_iret C dX3_nameToken_65 rfl (Nat.le_refl _) (by unfold nmK; (repeat rw [if_neg (by first | assumption | omega)]); (first | rw [if_pos (by first | assumption | omega)] | skip); rfl) rfl))
                    · first
                      | (exfalso; omega)
                      |  (refine r_iconstv C 3 rfl dX3_nameToken_48 ?_
                          exact r_iret C dX3_nameToken_49 rfl (Nat.le_refl _) (by unfold nmK; (repeat rw [if_neg (by first | assumption | omega)]); (first | rw [if_pos (by first | assumption | omega)] | skip); rfl) rfl))
              · first
                | (exfalso; omega)
                |  (refine r_iconstv C 2 rfl dX3_nameToken_37 ?_
                    exact r_iret C dX3_nameToken_38 rfl (Nat.le_refl _) (by unfold nmK; (repeat rw [if_neg (by first | assumption | omega)]); (first | rw [if_pos (by first | assumption | omega)] | skip); rfl) rfl))
        · first
          | (exfalso; omega)
          |  (refine r_iconstv C 1 rfl dX3_nameToken_26 ?_
              exact r_iret C dX3_nameToken_27 rfl (Nat.le_refl _) (by unfold nmK; (repeat rw [if_neg (by first | assumption | omega)]); (first | rw [if_pos (by first | assumption | omega)] | skip); rfl) rfl))
  · first
    | (exfalso; omega)
    |  (refine r_bipush C 8 rfl dX3_nameToken_14 ?_
        exact r_iret C dX3_nameToken_16 rfl (Nat.le_refl _) (by unfold nmK; (repeat rw [if_neg (by first | assumption | omega)]); (first | rw [if_pos (by first | assumption | omega)] | skip); rfl) rfl)

set_option maxHeartbeats 4000000 in
set_option maxRecDepth 100000 in
theorem lp_nb (G : oG) {p : Program} {l : Launch} {e : Env} {R : Room} {s : State} {m : MethodId} {args : Array Value} {below : List Frame} {meth : Method} {c : Code} {n0 nF : Nat} {h : oH} (hs0 : oSh h) {z : Nat} {T : Nat → Int} (tp0 : tpC h z T) {st en : Nat} (h30 : (hI h 8 3).toInt = (en : Int)) (h50 : (hI h 8 5).toInt = (st : Int)) (hse : st ≤ en) (hez : en ≤ z) (hfg : ∀ j, st ≤ j → j < en → 48 ≤ T j ∧ T j ≤ 57) (h6 : en ≤ st + 5) (C : oC G mX3_numberToken n0 nF p l R s m args meth c) (hF0 : h.1 ≤ nF) : ∀ (k i : Nat) (x : Int32), st + i + k = en → x.toInt = ((st + i : Nat) : Int) → oS G mX3_numberToken p l e R s m args below meth c (oZ G below args s n0 nF (some (.int 5)) (sI h 8 6 (oI (nv T st (en - st))))) n0 26 [some (.ref 8), some (.int x)] [] (sI h 8 6 (oI (nv T st i))) := by
  have z3 := tp0.2.1
  intro k
  induction k with
  | zero =>
    intro i x hik hx
    have hs : oSh (sI h 8 6 (oI (nv T st i))) := hs0
    have h3 : (hI (sI h 8 6 (oI (nv T st i))) 8 3).toInt = (en : Int) := h30
    have hF : (sI h 8 6 (oI (nv T st i))).1 ≤ nF := hF0
    have hi : en - st = i := by omega
    refine r_iload_n C rfl dX3_numberToken_26 ?_
    refine r_aload_n C rfl rfl dX3_numberToken_27 ?_
    refine r_getI C dX3_numberToken_28 fl_X3_22 rfl (q_lt hs (by decide)) ?_
    refine t_icmp_ge C 60 (by decide) hx h3 dX3_numberToken_31 (fun c31 => ?_) (fun c31 => absurd c31 (by omega))
    refine r_iconstv C 5 rfl dX3_numberToken_60 ?_
    exact r_iret C dX3_numberToken_61 rfl hF rfl (by rw [hi])
  | succ k ih =>
    intro i x hik hx
    have hs : oSh (sI h 8 6 (oI (nv T st i))) := hs0
    have tp : tpC (sI h 8 6 (oI (nv T st i))) z T := tp0.fr rfl (fun _ => rfl)
    have h3 : (hI (sI h 8 6 (oI (nv T st i))) 8 3).toInt = (en : Int) := h30
    have hF : (sI h 8 6 (oI (nv T st i))).1 ≤ nF := hF0
    have hb := nv_b (T := T) (s := st) i (by omega) (fun j hj => hfg (st + j) (by omega) (by omega))
    have hp := p10 i (by omega)
    have hf := hfg (st + i) (by omega) (by omega)
    have hT := (tp.2.2 (st + i) (by omega)).1
    have e0 : hI (sI h 8 6 (oI (nv T st i))) 8 6 = oI (nv T st i) := sI_eq ⟨rfl, rfl⟩
    have ev : (oI (nv T st i) * 10 + (hI (sI h 8 6 (oI (nv T st i))) 9 (st + i) &&& 255) - 48).toInt = nv T st (i + 1) := by
      have e1 := tM (oI_t (i := nv T st i) (by omega)) (show (10 : Int32).toInt = 10 from rfl) (by omega)
      have e2 := tA e1 hT (by omega)
      exact tS e2 (show (48 : Int32).toInt = 48 from rfl) (by omega)
    refine r_iload_n C rfl dX3_numberToken_26 ?_
    refine r_aload_n C rfl rfl dX3_numberToken_27 ?_
    refine r_getI C dX3_numberToken_28 fl_X3_22 rfl (q_lt hs (by decide)) ?_
    refine t_icmp_ge C 60 (by decide) hx h3 dX3_numberToken_31 (fun c31 => absurd c31 (by omega)) (fun c31 => ?_)
    refine r_aload_n C rfl rfl dX3_numberToken_34 ?_
    refine r_aload_n C rfl rfl dX3_numberToken_35 ?_
    refine r_getI C dX3_numberToken_36 fl_X3_31 rfl (q_lt hs (by decide)) ?_
    refine r_bipush C 10 rfl dX3_numberToken_39 ?_
    refine r_imul C dX3_numberToken_41 ?_
    refine r_aload_n C rfl rfl dX3_numberToken_42 ?_
    refine r_iload_n C rfl dX3_numberToken_43 ?_
    refine r_callV C (sp_byC G hs tp _ (j := st + i) hx (by omega)) kv_X3_byteAt kn_X3_byteAt rfl dX3_numberToken_44 cl_X3_86 ⟨Nat.le_of_ble_eq_true rfl, Nat.le_of_ble_eq_true rfl⟩ (by decide) rfl rfl (q_lt hs (by decide)) hF rfl (Nat.le_of_ble_eq_true rfl) ?_
    refine r_iadd C dX3_numberToken_47 ?_
    refine r_bipush C 48 rfl dX3_numberToken_48 ?_
    refine r_isub C dX3_numberToken_50 ?_
    refine r_putI C dX3_numberToken_51 fl_X3_31 rfl (q_lt hs (by decide)) (Or.inl rfl) ?_
    refine r_iinc C rfl rfl (Nat.le_of_ble_eq_true rfl) dX3_numberToken_54 ?_
    refine r_goto C 26 (by decide) dX3_numberToken_57 ?_
    exact oS_h (h2 := sI h 8 6 (oI (nv T st (i + 1)))) (by rw [e0, oI_e ev, sI_sI]) (ih (i + 1) _ (by omega) (by have t := tA hx (show (Int32.ofInt 1).toInt = 1 from rfl) (by omega); omega))

theorem oI0 : oI 0 = 0 := rfl
set_option maxHeartbeats 4000000 in
set_option maxRecDepth 100000 in
theorem sp_nb (G : oG) {h : oH} (hs : oSh h) {z : Nat} {T : Nat → Int} (tp : tpC h z T) {st en : Nat} (h3 : (hI h 8 3).toInt = (en : Int)) (h5 : (hI h 8 5).toInt = (st : Int)) (hse : st ≤ en) (hez : en ≤ z) (hfg : ∀ j, st ≤ j → j < en → 48 ≤ T j ∧ T j ≤ 57) (h6 : en ≤ st + 5) : oSp G mX3_numberToken [.ref 8] h (some (.int 5)) (sI h 8 6 (oI (nv T st (en - st)))) := by
  have z3 := tp.2.1
  refine oSp.intro [some (.ref 8), none] rfl (Nat.le_of_ble_eq_true rfl) (plainFor_of_name (by decide +kernel)) (Nat.le_refl _) ?_
  intro p l e R s m args below meth c C
  refine r_aload_n C rfl rfl dX3_numberToken_0 ?_
  refine r_getI C dX3_numberToken_1 fl_X3_22 rfl (q_lt hs (by decide)) ?_
  refine r_aload_n C rfl rfl dX3_numberToken_4 ?_
  refine r_getI C dX3_numberToken_5 fl_X3_28 rfl (q_lt hs (by decide)) ?_
  refine r_isub C dX3_numberToken_8 ?_
  refine r_iconstv C 5 rfl dX3_numberToken_9 ?_
  refine t_icmp_le C 16 (by decide) (tS h3 h5 (by omega)) (show (5 : Int32).toInt = 5 from rfl) dX3_numberToken_10 (fun c10 => ?_) (fun c10 => ?_)
  · first
    | (exfalso; omega)
    |  (refine r_aload_n C rfl rfl dX3_numberToken_16 ?_
        refine r_iconstv C 0 rfl dX3_numberToken_17 ?_
        refine r_putI C dX3_numberToken_18 fl_X3_31 rfl (q_lt hs (by decide)) (Or.inl rfl) ?_
        refine r_aload_n C rfl rfl dX3_numberToken_21 ?_
        refine r_getI C dX3_numberToken_22 fl_X3_28 rfl (q_lt hs (by decide)) ?_
        refine r_istore_n C rfl (Nat.le_of_ble_eq_true rfl) dX3_numberToken_25 ?_
        exact lp_nb G hs tp h3 h5 hse hez hfg h6 C (Nat.le_refl _) (en - st) 0 _ (by omega) (by rw [show (hI (sI h 8 6 0) 8 5).toInt = (st : Int) from h5]; rfl))
  · first
    | (exfalso; omega)
    |  (refine r_bipush C 8 rfl dX3_numberToken_13 ?_
        exact r_iret C dX3_numberToken_15 rfl (Nat.le_refl _) rfl rfl)

set_option maxHeartbeats 4000000 in
set_option maxRecDepth 100000 in
theorem sp_nbX (G : oG) {h : oH} (hs : oSh h) {z : Nat} {T : Nat → Int} (tp : tpC h z T) {st en : Nat} (h3 : (hI h 8 3).toInt = (en : Int)) (h5 : (hI h 8 5).toInt = (st : Int)) (hse : st ≤ en) (hez : en ≤ z) (h6 : ¬ en ≤ st + 5) : oSp G mX3_numberToken [.ref 8] h (some (.int 8)) h := by
  have z3 := tp.2.1
  refine oSp.intro [some (.ref 8), none] rfl (Nat.le_of_ble_eq_true rfl) (plainFor_of_name (by decide +kernel)) (Nat.le_refl _) ?_
  intro p l e R s m args below meth c C
  refine r_aload_n C rfl rfl dX3_numberToken_0 ?_
  refine r_getI C dX3_numberToken_1 fl_X3_22 rfl (q_lt hs (by decide)) ?_
  refine r_aload_n C rfl rfl dX3_numberToken_4 ?_
  refine r_getI C dX3_numberToken_5 fl_X3_28 rfl (q_lt hs (by decide)) ?_
  refine r_isub C dX3_numberToken_8 ?_
  refine r_iconstv C 5 rfl dX3_numberToken_9 ?_
  refine t_icmp_le C 16 (by decide) (tS h3 h5 (by omega)) (show (5 : Int32).toInt = 5 from rfl) dX3_numberToken_10 (fun c10 => ?_) (fun c10 => ?_)
  · first
    | (exfalso; omega)
    |  (refine r_aload_n C rfl rfl dX3_numberToken_16 ?_
        refine r_iconstv C 0 rfl dX3_numberToken_17 ?_
        refine r_putI C dX3_numberToken_18 fl_X3_31 rfl (q_lt hs (by decide)) (Or.inl rfl) ?_
        refine r_aload_n C rfl rfl dX3_numberToken_21 ?_
        refine r_getI C dX3_numberToken_22 fl_X3_28 rfl (q_lt hs (by decide)) ?_
        refine r_istore_n C rfl (Nat.le_of_ble_eq_true rfl) dX3_numberToken_25 ?_
        (exfalso; omega))
  · first
    | (exfalso; omega)
    |  (refine r_bipush C 8 rfl dX3_numberToken_13 ?_
        exact r_iret C dX3_numberToken_15 rfl (Nat.le_refl _) rfl rfl)

theorem nH_id {h : oH} {q : Nat} (e : (hI h 8 3).toInt = (q : Int)) : h = nH h q := by
  unfold nH
  rw [← kI_e e, sI_self]
def sH (h : oH) (s : Nat) : oH := sI h 8 5 (kI s)
theorem st_e {h : oH} {s : Nat} (hq : s < 1000) : sI (nH h s) 8 5 (hI (nH h s) 8 3) = nH (sH h s) s := by
  rw [kI_e (nH_3 (h := h) hq)]
  unfold nH sH
  rw [sI_cm _ _ _ (by omega)]
theorem sH_5 {h : oH} {s e : Nat} (hq : s < 1000) : (hI (nH (sH h s) e) 8 5).toInt = (s : Int) := by
  unfold nH sH
  rw [sI_ne (by omega), sI_eq ⟨rfl, rfl⟩]
  exact kI_t (by omega)
set_option maxHeartbeats 4000000 in
set_option maxRecDepth 100000 in
theorem sp_rd0 (G : oG) {h : oH} (hs0 : oSh h) {z : Nat} {T : Nat → Int} (tp0 : tpC h z T) {q : Nat} (hq : q ≤ z) (hnx : (hI h 8 3).toInt = (q : Int)) {st : Nat} (hst : xS T z q = st) (hz : z ≤ st) : oSp G mX3_readToken [.ref 8] h none (sI (nH (sH h st) st) 8 4 0) := by
  have z3 := tp0.2.1
  have hw := xS_w (T := T) hq
  rw [hst] at hw
  refine oSp.intro [some (.ref 8), none] rfl (Nat.le_of_ble_eq_true rfl) (plainFor_of_name (by decide +kernel)) (Nat.le_refl _) ?_
  intro p l e R s m args below meth c C
  refine oS_h (nH_id hnx) (lp_ws G hs0 tp0 C (Nat.le_refl _) (z - q) q (by omega) ?_)
  rw [show en T isW z q = st from hst]
  have hs : oSh (nH (sH h st) st) := hs0
  have tp : tpC (nH (sH h st) st) z T := tp0.fr rfl (fun _ => rfl)
  have h3 := nH_3 (h := sH h st) (q := st) (by omega)
  have h5 := sH_5 (h := h) (s := st) (e := st) (by omega)
  refine r_aload_n C rfl rfl dX3_readToken_50 ?_
  refine r_aload_n C rfl rfl dX3_readToken_51 ?_
  refine r_getI C dX3_readToken_52 fl_X3_22 rfl (q_lt hs (by decide)) ?_
  refine r_putI C dX3_readToken_55 fl_X3_28 rfl (q_lt hs (by decide)) (Or.inl rfl) ?_
  refine oS_h (st_e (by omega)) ?_
  refine r_aload_n C rfl rfl dX3_readToken_58 ?_
  refine r_aload_n C rfl rfl dX3_readToken_59 ?_
  refine r_getI C dX3_readToken_60 fl_X3_28 rfl (q_lt hs (by decide)) ?_
  refine r_callV C (sp_byN G hs tp _ h5 (by omega)) kv_X3_byteAt kn_X3_byteAt rfl dX3_readToken_63 cl_X3_86 ⟨Nat.le_of_ble_eq_true rfl, Nat.le_of_ble_eq_true rfl⟩ (by decide) rfl rfl (q_lt hs (by decide)) (Nat.le_refl _) rfl (Nat.le_of_ble_eq_true rfl) ?_
  refine r_istore_n C rfl (Nat.le_of_ble_eq_true rfl) dX3_readToken_66 ?_
  refine r_iload_n C rfl dX3_readToken_67 ?_
  refine t_if_ge C 79 (by decide) (show ((-1) : Int32).toInt = (-1) from rfl) dX3_readToken_68 (fun c68 => absurd c68 (by decide)) (fun c68 => ?_)
  refine r_aload_n C rfl rfl dX3_readToken_71 ?_
  refine r_iconstv C 0 rfl dX3_readToken_72 ?_
  refine r_putI C dX3_readToken_73 fl_X3_25 rfl (q_lt hs (by decide)) (Or.inl rfl) ?_
  refine r_goto C 229 (by decide) dX3_readToken_76 ?_
  exact r_vret C dX3_readToken_229 rfl (Nat.le_refl _) rfl

set_option maxHeartbeats 4000000 in
set_option maxRecDepth 100000 in
theorem sp_rdL (G : oG) {h : oH} (hs0 : oSh h) {z : Nat} {T : Nat → Int} (tp0 : tpC h z T) {q : Nat} (hq : q ≤ z) (hnx : (hI h 8 3).toInt = (q : Int)) {st : Nat} (hst : xS T z q = st) (hz : st < z) (hl : 97 ≤ T st ∧ T st ≤ 122) : oSp G mX3_readToken [.ref 8] h none (sI (nH (sH h st) (en T isL z st)) 8 4 (kI (nmK T st (en T isL z st)))) := by
  have z3 := tp0.2.1
  have hw := xS_w (T := T) hq
  rw [hst] at hw
  refine oSp.intro [some (.ref 8), none] rfl (Nat.le_of_ble_eq_true rfl) (plainFor_of_name (by decide +kernel)) (Nat.le_refl _) ?_
  intro p l e R s m args below meth c C
  refine oS_h (nH_id hnx) (lp_ws G hs0 tp0 C (Nat.le_refl _) (z - q) q (by omega) ?_)
  rw [show en T isW z q = st from hst]
  have hs : oSh (nH (sH h st) st) := hs0
  have tp : tpC (nH (sH h st) st) z T := tp0.fr rfl (fun _ => rfl)
  have h3 := nH_3 (h := sH h st) (q := st) (by omega)
  have h5 := sH_5 (h := h) (s := st) (e := st) (by omega)
  have hT := (tp.2.2 st (by omega)).1
  have hT2 := (tp.2.2 st (by omega)).2
  refine r_aload_n C rfl rfl dX3_readToken_50 ?_
  refine r_aload_n C rfl rfl dX3_readToken_51 ?_
  refine r_getI C dX3_readToken_52 fl_X3_22 rfl (q_lt hs (by decide)) ?_
  refine r_putI C dX3_readToken_55 fl_X3_28 rfl (q_lt hs (by decide)) (Or.inl rfl) ?_
  refine oS_h (st_e (by omega)) ?_
  refine r_aload_n C rfl rfl dX3_readToken_58 ?_
  refine r_aload_n C rfl rfl dX3_readToken_59 ?_
  refine r_getI C dX3_readToken_60 fl_X3_28 rfl (q_lt hs (by decide)) ?_
  refine r_callV C (sp_byC G hs tp _ h5 (by omega)) kv_X3_byteAt kn_X3_byteAt rfl dX3_readToken_63 cl_X3_86 ⟨Nat.le_of_ble_eq_true rfl, Nat.le_of_ble_eq_true rfl⟩ (by decide) rfl rfl (q_lt hs (by decide)) (Nat.le_refl _) rfl (Nat.le_of_ble_eq_true rfl) ?_
  refine r_istore_n C rfl (Nat.le_of_ble_eq_true rfl) dX3_readToken_66 ?_
  refine r_iload_n C rfl dX3_readToken_67 ?_
  refine t_if_ge C 79 (by decide) hT dX3_readToken_68 (fun c68 => ?_) (fun c68 => ?_)
  · first
    | (exfalso; omega)
    |  (refine r_iload_n C rfl dX3_readToken_79 ?_
        refine r_callS C (sp_isLC G _) ks_X3_isLetter kn_X3_isLetter rfl dX3_readToken_80 cl_X3_90 ⟨Nat.le_of_ble_eq_true rfl, Nat.le_of_ble_eq_true rfl⟩ (Nat.le_refl _) rfl (Nat.le_of_ble_eq_true rfl) ?_
        refine t_ifb_eq C 135 (by decide) dX3_readToken_83 (fun c83 => ?_) (fun c83 => ?_)
        · first
          | (exfalso; omega)
          |  (refine r_iload_n C rfl dX3_readToken_135 ?_
              refine r_callS C (sp_isFC G _) ks_X3_isFigure kn_X3_isFigure rfl dX3_readToken_136 cl_X3_98 ⟨Nat.le_of_ble_eq_true rfl, Nat.le_of_ble_eq_true rfl⟩ (Nat.le_refl _) rfl (Nat.le_of_ble_eq_true rfl) ?_
              refine t_ifb_eq C 191 (by decide) dX3_readToken_139 (fun c139 => ?_) (fun c139 => ?_)
              · first
                | (exfalso; omega)
                |  ((exfalso; omega))
              · first
                | (exfalso; omega)
                |  ((exfalso; omega)))
        · first
          | (exfalso; omega)
          |  (refine lp_le G (h := sH h st) hs0 (tp0.fr rfl (fun _ => rfl)) C (Nat.le_refl _) (z - st) st (by omega) ?_
              have hw2 := en_w (T := T) (P := isL) (z := z) (q := st) (by omega)
              have hs2 : oSh (nH (sH h st) (en T isL z st)) := hs0
              have tp2 : tpC (nH (sH h st) (en T isL z st)) z T := tp0.fr rfl (fun _ => rfl)
              have h32 := nH_3 (h := sH h st) (q := en T isL z st) (by omega)
              have h52 := sH_5 (h := h) (s := st) (e := en T isL z st) (by omega)
              refine r_aload_n C rfl rfl dX3_readToken_124 ?_
              refine r_aload_n C rfl rfl dX3_readToken_125 ?_
              refine r_callV C (sp_nt G hs2 tp2 h32 h52 (by omega) (by omega)) kv_X3_nameToken kn_X3_nameToken rfl dX3_readToken_126 cl_X3_94 ⟨Nat.le_of_ble_eq_true rfl, Nat.le_of_ble_eq_true rfl⟩ (by decide) rfl rfl (q_lt hs2 (by decide)) (Nat.le_refl _) rfl (Nat.le_of_ble_eq_true rfl) ?_
              refine r_putI C dX3_readToken_129 fl_X3_25 rfl (q_lt hs2 (by decide)) (Or.inl rfl) ?_
              refine r_goto C 229 (by decide) dX3_readToken_132 ?_
              exact r_vret C dX3_readToken_229 rfl (Nat.le_refl _) rfl))
  · first
    | (exfalso; omega)
    |  (refine r_aload_n C rfl rfl dX3_readToken_71 ?_
        refine r_iconstv C 0 rfl dX3_readToken_72 ?_
        refine r_putI C dX3_readToken_73 fl_X3_25 rfl (q_lt hs (by decide)) (Or.inl rfl) ?_
        refine r_goto C 229 (by decide) dX3_readToken_76 ?_
        exact r_vret C dX3_readToken_229 rfl (Nat.le_refl _) rfl)

set_option maxHeartbeats 4000000 in
set_option maxRecDepth 100000 in
theorem sp_rdF (G : oG) {h : oH} (hs0 : oSh h) {z : Nat} {T : Nat → Int} (tp0 : tpC h z T) {q : Nat} (hq : q ≤ z) (hnx : (hI h 8 3).toInt = (q : Int)) {st : Nat} (hst : xS T z q = st) (hz : st < z) (hl : 48 ≤ T st ∧ T st ≤ 57) (h6 : en T isF z st ≤ st + 5) : oSp G mX3_readToken [.ref 8] h none (sI (sI (nH (sH h st) (en T isF z st)) 8 6 (oI (nv T st (en T isF z st - st)))) 8 4 5) := by
  have z3 := tp0.2.1
  have hw := xS_w (T := T) hq
  rw [hst] at hw
  refine oSp.intro [some (.ref 8), none] rfl (Nat.le_of_ble_eq_true rfl) (plainFor_of_name (by decide +kernel)) (Nat.le_refl _) ?_
  intro p l e R s m args below meth c C
  refine oS_h (nH_id hnx) (lp_ws G hs0 tp0 C (Nat.le_refl _) (z - q) q (by omega) ?_)
  rw [show en T isW z q = st from hst]
  have hs : oSh (nH (sH h st) st) := hs0
  have tp : tpC (nH (sH h st) st) z T := tp0.fr rfl (fun _ => rfl)
  have h3 := nH_3 (h := sH h st) (q := st) (by omega)
  have h5 := sH_5 (h := h) (s := st) (e := st) (by omega)
  have hT := (tp.2.2 st (by omega)).1
  have hT2 := (tp.2.2 st (by omega)).2
  refine r_aload_n C rfl rfl dX3_readToken_50 ?_
  refine r_aload_n C rfl rfl dX3_readToken_51 ?_
  refine r_getI C dX3_readToken_52 fl_X3_22 rfl (q_lt hs (by decide)) ?_
  refine r_putI C dX3_readToken_55 fl_X3_28 rfl (q_lt hs (by decide)) (Or.inl rfl) ?_
  refine oS_h (st_e (by omega)) ?_
  refine r_aload_n C rfl rfl dX3_readToken_58 ?_
  refine r_aload_n C rfl rfl dX3_readToken_59 ?_
  refine r_getI C dX3_readToken_60 fl_X3_28 rfl (q_lt hs (by decide)) ?_
  refine r_callV C (sp_byC G hs tp _ h5 (by omega)) kv_X3_byteAt kn_X3_byteAt rfl dX3_readToken_63 cl_X3_86 ⟨Nat.le_of_ble_eq_true rfl, Nat.le_of_ble_eq_true rfl⟩ (by decide) rfl rfl (q_lt hs (by decide)) (Nat.le_refl _) rfl (Nat.le_of_ble_eq_true rfl) ?_
  refine r_istore_n C rfl (Nat.le_of_ble_eq_true rfl) dX3_readToken_66 ?_
  refine r_iload_n C rfl dX3_readToken_67 ?_
  refine t_if_ge C 79 (by decide) hT dX3_readToken_68 (fun c68 => ?_) (fun c68 => ?_)
  · first
    | (exfalso; omega)
    |  (refine r_iload_n C rfl dX3_readToken_79 ?_
        refine r_callS C (sp_isLC G _) ks_X3_isLetter kn_X3_isLetter rfl dX3_readToken_80 cl_X3_90 ⟨Nat.le_of_ble_eq_true rfl, Nat.le_of_ble_eq_true rfl⟩ (Nat.le_refl _) rfl (Nat.le_of_ble_eq_true rfl) ?_
        refine t_ifb_eq C 135 (by decide) dX3_readToken_83 (fun c83 => ?_) (fun c83 => ?_)
        · first
          | (exfalso; omega)
          |  (refine r_iload_n C rfl dX3_readToken_135 ?_
              refine r_callS C (sp_isFC G _) ks_X3_isFigure kn_X3_isFigure rfl dX3_readToken_136 cl_X3_98 ⟨Nat.le_of_ble_eq_true rfl, Nat.le_of_ble_eq_true rfl⟩ (Nat.le_refl _) rfl (Nat.le_of_ble_eq_true rfl) ?_
              refine t_ifb_eq C 191 (by decide) dX3_readToken_139 (fun c139 => ?_) (fun c139 => ?_)
              · first
                | (exfalso; omega)
                |  ((exfalso; omega))
              · first
                | (exfalso; omega)
                |  (refine lp_fi G (h := sH h st) hs0 (tp0.fr rfl (fun _ => rfl)) C (Nat.le_refl _) (z - st) st (by omega) ?_
                    have hw2 := en_w (T := T) (P := isF) (z := z) (q := st) (by omega)
                    have hs2 : oSh (nH (sH h st) (en T isF z st)) := hs0
                    have tp2 : tpC (nH (sH h st) (en T isF z st)) z T := tp0.fr rfl (fun _ => rfl)
                    have h32 := nH_3 (h := sH h st) (q := en T isF z st) (by omega)
                    have h52 := sH_5 (h := h) (s := st) (e := en T isF z st) (by omega)
                    refine r_aload_n C rfl rfl dX3_readToken_180 ?_
                    refine r_aload_n C rfl rfl dX3_readToken_181 ?_
                    refine r_callV C (sp_nb G hs2 tp2 h32 h52 (by omega) (by omega) (fun j a b => isF_i.mp (hw2.2.2.2 j a b)) h6) kv_X3_numberToken kn_X3_numberToken rfl dX3_readToken_182 cl_X3_101 ⟨Nat.le_of_ble_eq_true rfl, Nat.le_of_ble_eq_true rfl⟩ (by decide) rfl rfl (q_lt hs2 (by decide)) (Nat.le_refl _) rfl (Nat.le_of_ble_eq_true rfl) ?_
                    refine r_putI C dX3_readToken_185 fl_X3_25 rfl (q_lt hs2 (by decide)) (Or.inl rfl) ?_
                    refine r_goto C 229 (by decide) dX3_readToken_188 ?_
                    exact r_vret C dX3_readToken_229 rfl (Nat.le_refl _) rfl))
        · first
          | (exfalso; omega)
          |  ((exfalso; omega)))
  · first
    | (exfalso; omega)
    |  (refine r_aload_n C rfl rfl dX3_readToken_71 ?_
        refine r_iconstv C 0 rfl dX3_readToken_72 ?_
        refine r_putI C dX3_readToken_73 fl_X3_25 rfl (q_lt hs (by decide)) (Or.inl rfl) ?_
        refine r_goto C 229 (by decide) dX3_readToken_76 ?_
        exact r_vret C dX3_readToken_229 rfl (Nat.le_refl _) rfl)

set_option maxHeartbeats 4000000 in
set_option maxRecDepth 100000 in
theorem sp_rdX (G : oG) {h : oH} (hs0 : oSh h) {z : Nat} {T : Nat → Int} (tp0 : tpC h z T) {q : Nat} (hq : q ≤ z) (hnx : (hI h 8 3).toInt = (q : Int)) {st : Nat} (hst : xS T z q = st) (hz : st < z) (hl : 48 ≤ T st ∧ T st ≤ 57) (h6 : ¬ en T isF z st ≤ st + 5) : oSp G mX3_readToken [.ref 8] h none (sI (nH (sH h st) (en T isF z st)) 8 4 8) := by
  have z3 := tp0.2.1
  have hw := xS_w (T := T) hq
  rw [hst] at hw
  refine oSp.intro [some (.ref 8), none] rfl (Nat.le_of_ble_eq_true rfl) (plainFor_of_name (by decide +kernel)) (Nat.le_refl _) ?_
  intro p l e R s m args below meth c C
  refine oS_h (nH_id hnx) (lp_ws G hs0 tp0 C (Nat.le_refl _) (z - q) q (by omega) ?_)
  rw [show en T isW z q = st from hst]
  have hs : oSh (nH (sH h st) st) := hs0
  have tp : tpC (nH (sH h st) st) z T := tp0.fr rfl (fun _ => rfl)
  have h3 := nH_3 (h := sH h st) (q := st) (by omega)
  have h5 := sH_5 (h := h) (s := st) (e := st) (by omega)
  have hT := (tp.2.2 st (by omega)).1
  have hT2 := (tp.2.2 st (by omega)).2
  refine r_aload_n C rfl rfl dX3_readToken_50 ?_
  refine r_aload_n C rfl rfl dX3_readToken_51 ?_
  refine r_getI C dX3_readToken_52 fl_X3_22 rfl (q_lt hs (by decide)) ?_
  refine r_putI C dX3_readToken_55 fl_X3_28 rfl (q_lt hs (by decide)) (Or.inl rfl) ?_
  refine oS_h (st_e (by omega)) ?_
  refine r_aload_n C rfl rfl dX3_readToken_58 ?_
  refine r_aload_n C rfl rfl dX3_readToken_59 ?_
  refine r_getI C dX3_readToken_60 fl_X3_28 rfl (q_lt hs (by decide)) ?_
  refine r_callV C (sp_byC G hs tp _ h5 (by omega)) kv_X3_byteAt kn_X3_byteAt rfl dX3_readToken_63 cl_X3_86 ⟨Nat.le_of_ble_eq_true rfl, Nat.le_of_ble_eq_true rfl⟩ (by decide) rfl rfl (q_lt hs (by decide)) (Nat.le_refl _) rfl (Nat.le_of_ble_eq_true rfl) ?_
  refine r_istore_n C rfl (Nat.le_of_ble_eq_true rfl) dX3_readToken_66 ?_
  refine r_iload_n C rfl dX3_readToken_67 ?_
  refine t_if_ge C 79 (by decide) hT dX3_readToken_68 (fun c68 => ?_) (fun c68 => ?_)
  · first
    | (exfalso; omega)
    |  (refine r_iload_n C rfl dX3_readToken_79 ?_
        refine r_callS C (sp_isLC G _) ks_X3_isLetter kn_X3_isLetter rfl dX3_readToken_80 cl_X3_90 ⟨Nat.le_of_ble_eq_true rfl, Nat.le_of_ble_eq_true rfl⟩ (Nat.le_refl _) rfl (Nat.le_of_ble_eq_true rfl) ?_
        refine t_ifb_eq C 135 (by decide) dX3_readToken_83 (fun c83 => ?_) (fun c83 => ?_)
        · first
          | (exfalso; omega)
          |  (refine r_iload_n C rfl dX3_readToken_135 ?_
              refine r_callS C (sp_isFC G _) ks_X3_isFigure kn_X3_isFigure rfl dX3_readToken_136 cl_X3_98 ⟨Nat.le_of_ble_eq_true rfl, Nat.le_of_ble_eq_true rfl⟩ (Nat.le_refl _) rfl (Nat.le_of_ble_eq_true rfl) ?_
              refine t_ifb_eq C 191 (by decide) dX3_readToken_139 (fun c139 => ?_) (fun c139 => ?_)
              · first
                | (exfalso; omega)
                |  ((exfalso; omega))
              · first
                | (exfalso; omega)
                |  (refine lp_fi G (h := sH h st) hs0 (tp0.fr rfl (fun _ => rfl)) C (Nat.le_refl _) (z - st) st (by omega) ?_
                    have hw2 := en_w (T := T) (P := isF) (z := z) (q := st) (by omega)
                    have hs2 : oSh (nH (sH h st) (en T isF z st)) := hs0
                    have tp2 : tpC (nH (sH h st) (en T isF z st)) z T := tp0.fr rfl (fun _ => rfl)
                    have h32 := nH_3 (h := sH h st) (q := en T isF z st) (by omega)
                    have h52 := sH_5 (h := h) (s := st) (e := en T isF z st) (by omega)
                    refine r_aload_n C rfl rfl dX3_readToken_180 ?_
                    refine r_aload_n C rfl rfl dX3_readToken_181 ?_
                    refine r_callV C (sp_nbX G hs2 tp2 h32 h52 (by omega) (by omega) h6) kv_X3_numberToken kn_X3_numberToken rfl dX3_readToken_182 cl_X3_101 ⟨Nat.le_of_ble_eq_true rfl, Nat.le_of_ble_eq_true rfl⟩ (by decide) rfl rfl (q_lt hs2 (by decide)) (Nat.le_refl _) rfl (Nat.le_of_ble_eq_true rfl) ?_
                    refine r_putI C dX3_readToken_185 fl_X3_25 rfl (q_lt hs2 (by decide)) (Or.inl rfl) ?_
                    refine r_goto C 229 (by decide) dX3_readToken_188 ?_
                    exact r_vret C dX3_readToken_229 rfl (Nat.le_refl _) rfl))
        · first
          | (exfalso; omega)
          |  ((exfalso; omega)))
  · first
    | (exfalso; omega)
    |  (refine r_aload_n C rfl rfl dX3_readToken_71 ?_
        refine r_iconstv C 0 rfl dX3_readToken_72 ?_
        refine r_putI C dX3_readToken_73 fl_X3_25 rfl (q_lt hs (by decide)) (Or.inl rfl) ?_
        refine r_goto C 229 (by decide) dX3_readToken_76 ?_
        exact r_vret C dX3_readToken_229 rfl (Nat.le_refl _) rfl)

set_option maxHeartbeats 4000000 in
set_option maxRecDepth 100000 in
theorem sp_rdS (G : oG) {h : oH} (hs0 : oSh h) {z : Nat} {T : Nat → Int} (tp0 : tpC h z T) {q : Nat} (hq : q ≤ z) (hnx : (hI h 8 3).toInt = (q : Int)) {st : Nat} (hst : xS T z q = st) (hz : st < z) (hl : ¬ (97 ≤ T st ∧ T st ≤ 122)) (hf : ¬ (48 ≤ T st ∧ T st ≤ 57)) : oSp G mX3_readToken [.ref 8] h none (sI (nH (sH h st) (st + 1)) 8 4 (kI (if T st = 59 then 6 else if T st = 64 then 7 else 8))) := by
  have z3 := tp0.2.1
  have hw := xS_w (T := T) hq
  rw [hst] at hw
  refine oSp.intro [some (.ref 8), none] rfl (Nat.le_of_ble_eq_true rfl) (plainFor_of_name (by decide +kernel)) (Nat.le_refl _) ?_
  intro p l e R s m args below meth c C
  refine oS_h (nH_id hnx) (lp_ws G hs0 tp0 C (Nat.le_refl _) (z - q) q (by omega) ?_)
  rw [show en T isW z q = st from hst]
  have hs : oSh (nH (sH h st) st) := hs0
  have tp : tpC (nH (sH h st) st) z T := tp0.fr rfl (fun _ => rfl)
  have h3 := nH_3 (h := sH h st) (q := st) (by omega)
  have h5 := sH_5 (h := h) (s := st) (e := st) (by omega)
  have hT := (tp.2.2 st (by omega)).1
  have hT2 := (tp.2.2 st (by omega)).2
  refine r_aload_n C rfl rfl dX3_readToken_50 ?_
  refine r_aload_n C rfl rfl dX3_readToken_51 ?_
  refine r_getI C dX3_readToken_52 fl_X3_22 rfl (q_lt hs (by decide)) ?_
  refine r_putI C dX3_readToken_55 fl_X3_28 rfl (q_lt hs (by decide)) (Or.inl rfl) ?_
  refine oS_h (st_e (by omega)) ?_
  refine r_aload_n C rfl rfl dX3_readToken_58 ?_
  refine r_aload_n C rfl rfl dX3_readToken_59 ?_
  refine r_getI C dX3_readToken_60 fl_X3_28 rfl (q_lt hs (by decide)) ?_
  refine r_callV C (sp_byC G hs tp _ h5 (by omega)) kv_X3_byteAt kn_X3_byteAt rfl dX3_readToken_63 cl_X3_86 ⟨Nat.le_of_ble_eq_true rfl, Nat.le_of_ble_eq_true rfl⟩ (by decide) rfl rfl (q_lt hs (by decide)) (Nat.le_refl _) rfl (Nat.le_of_ble_eq_true rfl) ?_
  refine r_istore_n C rfl (Nat.le_of_ble_eq_true rfl) dX3_readToken_66 ?_
  refine r_iload_n C rfl dX3_readToken_67 ?_
  refine t_if_ge C 79 (by decide) hT dX3_readToken_68 (fun c68 => ?_) (fun c68 => ?_)
  · first
    | (exfalso; omega)
    |  (refine r_iload_n C rfl dX3_readToken_79 ?_
        refine r_callS C (sp_isLC G _) ks_X3_isLetter kn_X3_isLetter rfl dX3_readToken_80 cl_X3_90 ⟨Nat.le_of_ble_eq_true rfl, Nat.le_of_ble_eq_true rfl⟩ (Nat.le_refl _) rfl (Nat.le_of_ble_eq_true rfl) ?_
        refine t_ifb_eq C 135 (by decide) dX3_readToken_83 (fun c83 => ?_) (fun c83 => ?_)
        · first
          | (exfalso; omega)
          |  (refine r_iload_n C rfl dX3_readToken_135 ?_
              refine r_callS C (sp_isFC G _) ks_X3_isFigure kn_X3_isFigure rfl dX3_readToken_136 cl_X3_98 ⟨Nat.le_of_ble_eq_true rfl, Nat.le_of_ble_eq_true rfl⟩ (Nat.le_refl _) rfl (Nat.le_of_ble_eq_true rfl) ?_
              refine t_ifb_eq C 191 (by decide) dX3_readToken_139 (fun c139 => ?_) (fun c139 => ?_)
              · first
                | (exfalso; omega)
                |  (refine r_aload_n C rfl rfl dX3_readToken_191 ?_
                    refine r_dup C rfl dX3_readToken_192 ?_
                    refine r_getI C dX3_readToken_193 fl_X3_22 rfl (q_lt hs (by decide)) ?_
                    refine r_iconstv C 1 rfl dX3_readToken_196 ?_
                    refine r_iadd C dX3_readToken_197 ?_
                    refine r_putI C dX3_readToken_198 fl_X3_22 rfl (q_lt hs (by decide)) (Or.inl rfl) ?_
                    refine r_aload_n C rfl rfl dX3_readToken_201 ?_
                    refine r_iload_n C rfl dX3_readToken_202 ?_
                    refine r_bipush C 59 rfl dX3_readToken_203 ?_
                    refine t_icmp_ne C 213 (by decide) hT (show (59 : Int32).toInt = 59 from rfl) dX3_readToken_205 (fun c205 => ?_) (fun c205 => ?_)
                    · first
                      | (exfalso; omega)
                      |  (refine r_iload_n C rfl dX3_readToken_213 ?_
                          refine r_bipush C 64 rfl dX3_readToken_214 ?_
                          refine t_icmp_ne C 224 (by decide) hT (show (64 : Int32).toInt = 64 from rfl) dX3_readToken_216 (fun c216 => ?_) (fun c216 => ?_)
                          · first
                            | (exfalso; omega)
                            |  (refine r_bipush C 8 rfl dX3_readToken_224 ?_
                                refine r_putI C dX3_readToken_226 fl_X3_25 rfl (q_lt hs (by decide)) (Or.inl rfl) ?_
                                exact r_vret C dX3_readToken_229 rfl (Nat.le_refl _) (by rw [nH_s (by omega)]; (first | rw [if_pos (by omega)] | rw [if_neg (by omega), if_pos (by omega)] | rw [if_neg (by omega), if_neg (by omega)]) <;> rfl))
                          · first
                            | (exfalso; omega)
                            |  (refine r_bipush C 7 rfl dX3_readToken_219 ?_
                                refine r_goto C 226 (by decide) dX3_readToken_221 ?_
                                refine r_putI C dX3_readToken_226 fl_X3_25 rfl (q_lt hs (by decide)) (Or.inl rfl) ?_
                                exact r_vret C dX3_readToken_229 rfl (Nat.le_refl _) (by rw [nH_s (by omega)]; (first | rw [if_pos (by omega)] | rw [if_neg (by omega), if_pos (by omega)] | rw [if_neg (by omega), if_neg (by omega)]) <;> rfl)))
                    · first
                      | (exfalso; omega)
                      |  (refine r_bipush C 6 rfl dX3_readToken_208 ?_
                          refine r_goto C 226 (by decide) dX3_readToken_210 ?_
                          refine r_putI C dX3_readToken_226 fl_X3_25 rfl (q_lt hs (by decide)) (Or.inl rfl) ?_
                          exact r_vret C dX3_readToken_229 rfl (Nat.le_refl _) (by rw [nH_s (by omega)]; (first | rw [if_pos (by omega)] | rw [if_neg (by omega), if_pos (by omega)] | rw [if_neg (by omega), if_neg (by omega)]) <;> rfl)))
              · first
                | (exfalso; omega)
                |  ((exfalso; omega)))
        · first
          | (exfalso; omega)
          |  ((exfalso; omega)))
  · first
    | (exfalso; omega)
    |  (refine r_aload_n C rfl rfl dX3_readToken_71 ?_
        refine r_iconstv C 0 rfl dX3_readToken_72 ?_
        refine r_putI C dX3_readToken_73 fl_X3_25 rfl (q_lt hs (by decide)) (Or.inl rfl) ?_
        refine r_goto C 229 (by decide) dX3_readToken_76 ?_
        exact r_vret C dX3_readToken_229 rfl (Nat.le_refl _) (by rw [nH_s (by omega)]; (first | rw [if_pos (by omega)] | rw [if_neg (by omega), if_pos (by omega)] | rw [if_neg (by omega), if_neg (by omega)]) <;> rfl))

