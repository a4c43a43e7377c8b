/-! the class reads a token -/
theorem sI_sI (h : oH) (a k : Nat) (u v : Int32) : sI (sI h a k u) a k v = sI h a k v := oH_ext rfl (fun x y => by
  rw [hI_sI, hI_sI, hI_sI]
  split <;> rfl) (fun _ _ => rfl) (fun _ _ => rfl)
theorem sI_cm (h : oH) {a k b j : Nat} (u v : Int32) (q : ¬ (a = b ∧ k = j)) : sI (sI h a k u) b j v = sI (sI h b j v) a k u := oH_ext rfl (fun x y => by
  rw [hI_sI, hI_sI, hI_sI, hI_sI]
  by_cases c1 : x = b ∧ y = j
  · rw [if_pos c1, if_neg (fun c2 => q ⟨c2.1.symm.trans c1.1, c2.2.symm.trans c1.2⟩), if_pos c1]
  · rw [if_neg c1, if_neg c1]) (fun _ _ => rfl) (fun _ _ => rfl)
def tpC (h : oH) (z : Nat) (T : Nat → Int) : Prop := (hI h 8 1).toInt = (z : Int) ∧ z ≤ 300 ∧ ∀ j, j < z → (hI h 9 j &&& 255).toInt = T j ∧ 0 ≤ T j ∧ T j ≤ 255
theorem tpC.fr {h h' : oH} {z : Nat} {T : Nat → Int} (t : tpC h z T) (e1 : hI h' 8 1 = hI h 8 1) (e9 : ∀ j, hI h' 9 j = hI h 9 j) : tpC h' z T := ⟨by rw [e1]; exact t.1, t.2.1, fun j hj => by rw [e9]; exact t.2.2 j hj⟩
def nH (h : oH) (q : Nat) : oH := sI h 8 3 (kI q)
theorem nH_t {h : oH} {z q : Nat} {T : Nat → Int} (t : tpC h z T) : tpC (nH h q) z T := t.fr rfl (fun _ => rfl)
theorem nH_3 {h : oH} {q : Nat} (hq : q < 1000) : (hI (nH h q) 8 3).toInt = (q : Int) := by
  unfold nH
  rw [sI_eq ⟨rfl, rfl⟩]
  exact kI_t (by omega)
theorem nH_s {h : oH} {q : Nat} (hq : q < 1000) : sI (nH h q) 8 3 (hI (nH h q) 8 3 + 1) = nH h (q + 1) := by
  rw [kI_e (k := q + 1) ((tA (nH_3 hq) (show (1 : Int32).toInt = 1 from rfl) (by omega)).trans (by omega))]
  unfold nH
  rw [sI_sI]
theorem len_t {k : Nat} (hk : k < 4) : (Int32.ofNat (slen k) >>> ((0 : Int32) &&& 31)).toInt = ((slen k : Nat) : Int) := by
  match k, hk with
  | 0, _ => rfl
  | 1, _ => rfl
  | 2, _ => rfl
  | 3, _ => rfl
  | n + 4, hk => omega
set_option maxHeartbeats 4000000 in
set_option maxRecDepth 100000 in
theorem sp_byC (G : oG) {h : oH} (hs : oSh h) {z : Nat} {T : Nat → Int} (tp : tpC h z T) (x : Int32) {j : Nat} (hx : x.toInt = (j : Int)) (hj : j < z) : oSp G mX3_byteAt [.ref 8, .int x] h (some (.int (hI h 9 j &&& 255))) h := by
  have z3 := tp.2.1
  refine oSp.intro [some (.ref 8), some (.int x)] rfl (Nat.le_of_ble_eq_true rfl) (plainFor_of_name (by decide +kernel)) (Nat.le_refl _) ?_
  intro p l e R s m args below meth c C
  refine r_iload_n C rfl dX3_byteAt_0 ?_
  refine t_if_lt C 21 (by decide) hx dX3_byteAt_1 (fun c1 => ?_) (fun c1 => ?_)
  · first
    | (exfalso; omega)
    |  (refine r_iconstv C (-1) rfl dX3_byteAt_21 ?_
        refine r_goto C 35 (by decide) dX3_byteAt_22 ?_
        exact r_iret C dX3_byteAt_35 rfl (Nat.le_refl _) rfl rfl)
  · first
    | (exfalso; omega)
    |  (refine r_iload_n C rfl dX3_byteAt_4 ?_
        refine r_aload_n C rfl rfl dX3_byteAt_5 ?_
        refine r_getI C dX3_byteAt_6 fl_X3_15 rfl (q_lt hs (by decide)) ?_
        refine t_icmp_ge C 21 (by decide) hx tp.1 dX3_byteAt_9 (fun c9 => ?_) (fun c9 => ?_)
        · first
          | (exfalso; omega)
          |  (refine r_iconstv C (-1) rfl dX3_byteAt_21 ?_
              refine r_goto C 35 (by decide) dX3_byteAt_22 ?_
              exact r_iret C dX3_byteAt_35 rfl (Nat.le_refl _) rfl rfl)
        · first
          | (exfalso; omega)
          |  (refine r_iload_n C rfl dX3_byteAt_12 ?_
              refine r_aload_n C rfl rfl dX3_byteAt_13 ?_
              refine r_getO C dX3_byteAt_14 fl_X3_11 rfl rfl (q_lt hs (by decide)) (sh_8_0 hs) ?_
              refine r_alen C 300 dX3_byteAt_17 rfl (by decide) (q_lt hs (by decide)) rfl ?_
              refine t_icmp_lt C 25 (by decide) hx (show (300 : Int32).toInt = 300 from rfl) dX3_byteAt_18 (fun c18 => ?_) (fun c18 => ?_)
              · first
                | (exfalso; omega)
                |  (refine r_aload_n C rfl rfl dX3_byteAt_25 ?_
                    refine r_getO C dX3_byteAt_26 fl_X3_11 rfl rfl (q_lt hs (by decide)) (sh_8_0 hs) ?_
                    refine r_iload_n C rfl dX3_byteAt_29 ?_
                    refine r_bald C (j) hx (by omega) dX3_byteAt_30 rfl (q_lt hs (by decide)) ?_
                    refine r_sipush C 255 rfl dX3_byteAt_31 ?_
                    refine r_iand C dX3_byteAt_34 ?_
                    exact r_iret C dX3_byteAt_35 rfl (Nat.le_refl _) rfl rfl)
              · first
                | (exfalso; omega)
                |  (refine r_iconstv C (-1) rfl dX3_byteAt_21 ?_
                    refine r_goto C 35 (by decide) dX3_byteAt_22 ?_
                    exact r_iret C dX3_byteAt_35 rfl (Nat.le_refl _) rfl rfl)))

set_option maxHeartbeats 4000000 in
set_option maxRecDepth 100000 in
theorem sp_byN (G : oG) {h : oH} (hs : oSh h) {z : Nat} {T : Nat → Int} (tp : tpC h z T) (x : Int32) {j : Nat} (hx : x.toInt = (j : Int)) (hj : z ≤ j) : oSp G mX3_byteAt [.ref 8, .int x] h (some (.int (-1))) h := by
  have z3 := tp.2.1
  refine oSp.intro [some (.ref 8), some (.int x)] rfl (Nat.le_of_ble_eq_true rfl) (plainFor_of_name (by decide +kernel)) (Nat.le_refl _) ?_
  intro p l e R s m args below meth c C
  refine r_iload_n C rfl dX3_byteAt_0 ?_
  refine t_if_lt C 21 (by decide) hx dX3_byteAt_1 (fun c1 => ?_) (fun c1 => ?_)
  · first
    | (exfalso; omega)
    |  (refine r_iconstv C (-1) rfl dX3_byteAt_21 ?_
        refine r_goto C 35 (by decide) dX3_byteAt_22 ?_
        exact r_iret C dX3_byteAt_35 rfl (Nat.le_refl _) rfl rfl)
  · first
    | (exfalso; omega)
    |  (refine r_iload_n C rfl dX3_byteAt_4 ?_
        refine r_aload_n C rfl rfl dX3_byteAt_5 ?_
        refine r_getI C dX3_byteAt_6 fl_X3_15 rfl (q_lt hs (by decide)) ?_
        refine t_icmp_ge C 21 (by decide) hx tp.1 dX3_byteAt_9 (fun c9 => ?_) (fun c9 => ?_)
        · first
          | (exfalso; omega)
          |  (refine r_iconstv C (-1) rfl dX3_byteAt_21 ?_
              refine r_goto C 35 (by decide) dX3_byteAt_22 ?_
              exact r_iret C dX3_byteAt_35 rfl (Nat.le_refl _) rfl rfl)
        · first
          | (exfalso; omega)
          |  (refine r_iload_n C rfl dX3_byteAt_12 ?_
              refine r_aload_n C rfl rfl dX3_byteAt_13 ?_
              refine r_getO C dX3_byteAt_14 fl_X3_11 rfl rfl (q_lt hs (by decide)) (sh_8_0 hs) ?_
              refine r_alen C 300 dX3_byteAt_17 rfl (by decide) (q_lt hs (by decide)) rfl ?_
              refine t_icmp_lt C 25 (by decide) hx (show (300 : Int32).toInt = 300 from rfl) dX3_byteAt_18 (fun c18 => ?_) (fun c18 => ?_)
              · first
                | (exfalso; omega)
                |  (refine r_aload_n C rfl rfl dX3_byteAt_25 ?_
                    refine r_getO C dX3_byteAt_26 fl_X3_11 rfl rfl (q_lt hs (by decide)) (sh_8_0 hs) ?_
                    refine r_iload_n C rfl dX3_byteAt_29 ?_
                    refine r_bald C (j) hx (by omega) dX3_byteAt_30 rfl (q_lt hs (by decide)) ?_
                    refine r_sipush C 255 rfl dX3_byteAt_31 ?_
                    refine r_iand C dX3_byteAt_34 ?_
                    exact r_iret C dX3_byteAt_35 rfl (Nat.le_refl _) rfl rfl)
              · first
                | (exfalso; omega)
                |  (refine r_iconstv C (-1) rfl dX3_byteAt_21 ?_
                    refine r_goto C 35 (by decide) dX3_byteAt_22 ?_
                    exact r_iret C dX3_byteAt_35 rfl (Nat.le_refl _) rfl rfl)))

set_option maxHeartbeats 4000000 in
set_option maxRecDepth 100000 in
theorem sp_isLC (G : oG) {h : oH} (x : Int32) : oSp G mX3_isLetter [.int x] h (some (.int (b1 (97 ≤ x.toInt ∧ x.toInt ≤ 122)))) h := by
  refine oSp.intro [some (.int x)] rfl (Nat.le_of_ble_eq_true rfl) (plainFor_of_name (by decide +kernel)) (Nat.le_refl _) ?_
  intro p l e R s m args below meth c C
  refine r_iload_n C rfl dX3_isLetter_0 ?_
  refine r_bipush C 97 rfl dX3_isLetter_1 ?_
  refine t_icmp_lt C 16 (by decide) rfl (show (97 : Int32).toInt = 97 from rfl) dX3_isLetter_3 (fun c3 => ?_) (fun c3 => ?_)
  · refine r_iconstv C 0 rfl dX3_isLetter_16 ?_
    exact r_zret C dX3_isLetter_17 rfl rfl (Nat.le_refl _) (er_f (by omega)) rfl
  · refine r_iload_n C rfl dX3_isLetter_6 ?_
    refine r_bipush C 122 rfl dX3_isLetter_7 ?_
    refine t_icmp_gt C 16 (by decide) rfl (show (122 : Int32).toInt = 122 from rfl) dX3_isLetter_9 (fun c9 => ?_) (fun c9 => ?_)
    · refine r_iconstv C 0 rfl dX3_isLetter_16 ?_
      exact r_zret C dX3_isLetter_17 rfl rfl (Nat.le_refl _) (er_f (by omega)) rfl
    · refine r_iconstv C 1 rfl dX3_isLetter_12 ?_
      refine r_goto C 17 (by decide) dX3_isLetter_13 ?_
      exact r_zret C dX3_isLetter_17 rfl rfl (Nat.le_refl _) (er_t (by omega)) rfl

set_option maxHeartbeats 4000000 in
set_option maxRecDepth 100000 in
theorem sp_isFC (G : oG) {h : oH} (x : Int32) : oSp G mX3_isFigure [.int x] h (some (.int (b1 (48 ≤ x.toInt ∧ x.toInt ≤ 57)))) h := by
  refine oSp.intro [some (.int x)] rfl (Nat.le_of_ble_eq_true rfl) (plainFor_of_name (by decide +kernel)) (Nat.le_refl _) ?_
  intro p l e R s m args below meth c C
  refine r_iload_n C rfl dX3_isFigure_0 ?_
  refine r_bipush C 48 rfl dX3_isFigure_1 ?_
  refine t_icmp_lt C 16 (by decide) rfl (show (48 : Int32).toInt = 48 from rfl) dX3_isFigure_3 (fun c3 => ?_) (fun c3 => ?_)
  · refine r_iconstv C 0 rfl dX3_isFigure_16 ?_
    exact r_zret C dX3_isFigure_17 rfl rfl (Nat.le_refl _) (er_f (by omega)) rfl
  · refine r_iload_n C rfl dX3_isFigure_6 ?_
    refine r_bipush C 57 rfl dX3_isFigure_7 ?_
    refine t_icmp_gt C 16 (by decide) rfl (show (57 : Int32).toInt = 57 from rfl) dX3_isFigure_9 (fun c9 => ?_) (fun c9 => ?_)
    · refine r_iconstv C 0 rfl dX3_isFigure_16 ?_
      exact r_zret C dX3_isFigure_17 rfl rfl (Nat.le_refl _) (er_f (by omega)) rfl
    · refine r_iconstv C 1 rfl dX3_isFigure_12 ?_
      refine r_goto C 17 (by decide) dX3_isFigure_13 ?_
      exact r_zret C dX3_isFigure_17 rfl rfl (Nat.le_refl _) (er_t (by omega)) rfl

set_option maxHeartbeats 4000000 in
set_option maxRecDepth 100000 in
theorem sp_isLM (G : oG) {h : oH} (x : Int32) : oSp G mX6_isLetter [.int x] h (some (.int (b1 (97 ≤ x.toInt ∧ x.toInt ≤ 122)))) h := by
  refine oSp.intro [some (.int x)] rfl (Nat.le_of_ble_eq_true rfl) (plainFor_of_name (by decide +kernel)) (Nat.le_refl _) ?_
  intro p l e R s m args below meth c C
  refine r_iload_n C rfl dX6_isLetter_0 ?_
  refine r_bipush C 97 rfl dX6_isLetter_1 ?_
  refine t_icmp_lt C 16 (by decide) rfl (show (97 : Int32).toInt = 97 from rfl) dX6_isLetter_3 (fun c3 => ?_) (fun c3 => ?_)
  · refine r_iconstv C 0 rfl dX6_isLetter_16 ?_
    exact r_zret C dX6_isLetter_17 rfl rfl (Nat.le_refl _) (er_f (by omega)) rfl
  · refine r_iload_n C rfl dX6_isLetter_6 ?_
    refine r_bipush C 122 rfl dX6_isLetter_7 ?_
    refine t_icmp_gt C 16 (by decide) rfl (show (122 : Int32).toInt = 122 from rfl) dX6_isLetter_9 (fun c9 => ?_) (fun c9 => ?_)
    · refine r_iconstv C 0 rfl dX6_isLetter_16 ?_
      exact r_zret C dX6_isLetter_17 rfl rfl (Nat.le_refl _) (er_f (by omega)) rfl
    · refine r_iconstv C 1 rfl dX6_isLetter_12 ?_
      refine r_goto C 17 (by decide) dX6_isLetter_13 ?_
      exact r_zret C dX6_isLetter_17 rfl rfl (Nat.le_refl _) (er_t (by omega)) rfl

set_option maxHeartbeats 4000000 in
set_option maxRecDepth 100000 in
theorem sp_isFM (G : oG) {h : oH} (x : Int32) : oSp G mX6_isFigure [.int x] h (some (.int (b1 (48 ≤ x.toInt ∧ x.toInt ≤ 57)))) h := by
  refine oSp.intro [some (.int x)] rfl (Nat.le_of_ble_eq_true rfl) (plainFor_of_name (by decide +kernel)) (Nat.le_refl _) ?_
  intro p l e R s m args below meth c C
  refine r_iload_n C rfl dX6_isFigure_0 ?_
  refine r_bipush C 48 rfl dX6_isFigure_1 ?_
  refine t_icmp_lt C 16 (by decide) rfl (show (48 : Int32).toInt = 48 from rfl) dX6_isFigure_3 (fun c3 => ?_) (fun c3 => ?_)
  · refine r_iconstv C 0 rfl dX6_isFigure_16 ?_
    exact r_zret C dX6_isFigure_17 rfl rfl (Nat.le_refl _) (er_f (by omega)) rfl
  · refine r_iload_n C rfl dX6_isFigure_6 ?_
    refine r_bipush C 57 rfl dX6_isFigure_7 ?_
    refine t_icmp_gt C 16 (by decide) rfl (show (57 : Int32).toInt = 57 from rfl) dX6_isFigure_9 (fun c9 => ?_) (fun c9 => ?_)
    · refine r_iconstv C 0 rfl dX6_isFigure_16 ?_
      exact r_zret C dX6_isFigure_17 rfl rfl (Nat.le_refl _) (er_f (by omega)) rfl
    · refine r_iconstv C 1 rfl dX6_isFigure_12 ?_
      refine r_goto C 17 (by decide) dX6_isFigure_13 ?_
      exact r_zret C dX6_isFigure_17 rfl rfl (Nat.le_refl _) (er_t (by omega)) rfl

set_option maxHeartbeats 4000000 in
set_option maxRecDepth 100000 in
theorem lp_ws (G : oG) {p : Program} {l : Launch} {e : Env} {R : Room} {s : State} {m : MethodId} {args : Array Value} {below : List Frame} {meth : Method} {c : Code} {n0 nF : Nat} {Z : State → Prop} {h : oH} (hs0 : oSh h) {z : Nat} {T : Nat → Int} (tp0 : tpC h z T) {l1 : Option Value} (C : oC G mX3_readToken n0 nF p l R s m args meth c) (hF0 : h.1 ≤ nF) : ∀ (k q : Nat), q + k = z → oS G mX3_readToken p l e R s m args below meth c (Z) n0 50 [some (.ref 8), l1] [] (nH h (en T isW z q)) → oS G mX3_readToken p l e R s m args below meth c (Z) n0 0 [some (.ref 8), l1] [] (nH h q) := by
  have z3 := tp0.2.1
  intro k
  induction k with
  | zero =>
    intro q hqk K
    have hs : oSh (nH h q) := hs0
    have tp := nH_t (q := q) tp0
    have h3 := nH_3 (h := h) (q := q) (by omega)
    rw [en_stop (by omega)] at K
    refine r_aload_n C rfl rfl dX3_readToken_0 ?_
    refine r_getI C dX3_readToken_1 fl_X3_22 rfl (q_lt hs (by decide)) ?_
    refine r_aload_n C rfl rfl dX3_readToken_4 ?_
    refine r_getI C dX3_readToken_5 fl_X3_15 rfl (q_lt hs (by decide)) ?_
    refine t_icmp_ge C 50 (by decide) h3 tp.1 dX3_readToken_8 (fun c8 => ?_) (fun c8 => absurd c8 (by omega))
    exact K
  | succ k ih =>
    intro q hqk K
    have hq : q < z := by omega
    have hs : oSh (nH h q) := hs0
    have tp := nH_t (q := q) tp0
    have h3 := nH_3 (h := h) (q := q) (by omega)
    have hT := (tp.2.2 q hq).1
    have hF : (nH h q).1 ≤ nF := hF0
    by_cases hw : isW (T q) = true
    · rw [en_go hq hw] at K
      rw [isW_i] at hw
      refine r_aload_n C rfl rfl dX3_readToken_0 ?_
      refine r_getI C dX3_readToken_1 fl_X3_22 rfl (q_lt hs (by decide)) ?_
      refine r_aload_n C rfl rfl dX3_readToken_4 ?_
      refine r_getI C dX3_readToken_5 fl_X3_15 rfl (q_lt hs (by decide)) ?_
      refine t_icmp_ge C 50 (by decide) h3 tp.1 dX3_readToken_8 (fun c8 => absurd c8 (by omega)) (fun c8 => ?_)
      refine r_aload_n C rfl rfl dX3_readToken_11 ?_
      refine r_aload_n C rfl rfl dX3_readToken_12 ?_
      refine r_getI C dX3_readToken_13 fl_X3_22 rfl (q_lt hs (by decide)) ?_
      refine r_callV C (sp_byC G hs tp _ h3 hq) kv_X3_byteAt kn_X3_byteAt rfl dX3_readToken_16 cl_X3_86 ⟨Nat.le_of_ble_eq_true rfl, Nat.le_of_ble_eq_true rfl⟩ (by decide) rfl rfl (q_lt hs (by decide)) hF rfl (Nat.le_of_ble_eq_true rfl) ?_
      refine r_bipush C 32 rfl dX3_readToken_19 ?_
      refine t_icmp_eq C 37 (by decide) hT (show (32 : Int32).toInt = 32 from rfl) dX3_readToken_21 (fun c21 => ?_) (fun c21 => ?_)
      · first
        | (exfalso; omega)
        |  (refine r_aload_n C rfl rfl dX3_readToken_37 ?_
            refine r_dup C rfl dX3_readToken_38 ?_
            refine r_getI C dX3_readToken_39 fl_X3_22 rfl (q_lt hs (by decide)) ?_
            refine r_iconstv C 1 rfl dX3_readToken_42 ?_
            refine r_iadd C dX3_readToken_43 ?_
            refine r_putI C dX3_readToken_44 fl_X3_22 rfl (q_lt hs (by decide)) (Or.inl rfl) ?_
            refine r_goto C 0 (by decide) dX3_readToken_47 ?_
            exact oS_h (nH_s (by omega)) (ih (q + 1) (by omega) K))
      · first
        | (exfalso; omega)
        |  (refine r_aload_n C rfl rfl dX3_readToken_24 ?_
            refine r_aload_n C rfl rfl dX3_readToken_25 ?_
            refine r_getI C dX3_readToken_26 fl_X3_22 rfl (q_lt hs (by decide)) ?_
            refine r_callV C (sp_byC G hs tp _ h3 hq) kv_X3_byteAt kn_X3_byteAt rfl dX3_readToken_29 cl_X3_86 ⟨Nat.le_of_ble_eq_true rfl, Nat.le_of_ble_eq_true rfl⟩ (by decide) rfl rfl (q_lt hs (by decide)) hF rfl (Nat.le_of_ble_eq_true rfl) ?_
            refine r_bipush C 10 rfl dX3_readToken_32 ?_
            refine t_icmp_ne C 50 (by decide) hT (show (10 : Int32).toInt = 10 from rfl) dX3_readToken_34 (fun c34 => ?_) (fun c34 => ?_)
            · first
              | (exfalso; omega)
              |  ((exfalso; omega))
            · first
              | (exfalso; omega)
              |  (refine r_aload_n C rfl rfl dX3_readToken_37 ?_
                  refine r_dup C rfl dX3_readToken_38 ?_
                  refine r_getI C dX3_readToken_39 fl_X3_22 rfl (q_lt hs (by decide)) ?_
                  refine r_iconstv C 1 rfl dX3_readToken_42 ?_
                  refine r_iadd C dX3_readToken_43 ?_
                  refine r_putI C dX3_readToken_44 fl_X3_22 rfl (q_lt hs (by decide)) (Or.inl rfl) ?_
                  refine r_goto C 0 (by decide) dX3_readToken_47 ?_
                  exact oS_h (nH_s (by omega)) (ih (q + 1) (by omega) K)))
    · rw [en_stop (fun a => hw a.2)] at K
      rw [isW_i] at hw
      refine r_aload_n C rfl rfl dX3_readToken_0 ?_
      refine r_getI C dX3_readToken_1 fl_X3_22 rfl (q_lt hs (by decide)) ?_
      refine r_aload_n C rfl rfl dX3_readToken_4 ?_
      refine r_getI C dX3_readToken_5 fl_X3_15 rfl (q_lt hs (by decide)) ?_
      refine t_icmp_ge C 50 (by decide) h3 tp.1 dX3_readToken_8 (fun c8 => absurd c8 (by omega)) (fun c8 => ?_)
      refine r_aload_n C rfl rfl dX3_readToken_11 ?_
      refine r_aload_n C rfl rfl dX3_readToken_12 ?_
      refine r_getI C dX3_readToken_13 fl_X3_22 rfl (q_lt hs (by decide)) ?_
      refine r_callV C (sp_byC G hs tp _ h3 hq) kv_X3_byteAt kn_X3_byteAt rfl dX3_readToken_16 cl_X3_86 ⟨Nat.le_of_ble_eq_true rfl, Nat.le_of_ble_eq_true rfl⟩ (by decide) rfl rfl (q_lt hs (by decide)) hF rfl (Nat.le_of_ble_eq_true rfl) ?_
      refine r_bipush C 32 rfl dX3_readToken_19 ?_
      refine t_icmp_eq C 37 (by decide) hT (show (32 : Int32).toInt = 32 from rfl) dX3_readToken_21 (fun c21 => ?_) (fun c21 => ?_)
      · first
        | (exfalso; omega)
        |  (refine r_aload_n C rfl rfl dX3_readToken_37 ?_
            refine r_dup C rfl dX3_readToken_38 ?_
            refine r_getI C dX3_readToken_39 fl_X3_22 rfl (q_lt hs (by decide)) ?_
            refine r_iconstv C 1 rfl dX3_readToken_42 ?_
            refine r_iadd C dX3_readToken_43 ?_
            refine r_putI C dX3_readToken_44 fl_X3_22 rfl (q_lt hs (by decide)) (Or.inl rfl) ?_
            refine r_goto C 0 (by decide) dX3_readToken_47 ?_
            (exfalso; omega))
      · first
        | (exfalso; omega)
        |  (refine r_aload_n C rfl rfl dX3_readToken_24 ?_
            refine r_aload_n C rfl rfl dX3_readToken_25 ?_
            refine r_getI C dX3_readToken_26 fl_X3_22 rfl (q_lt hs (by decide)) ?_
            refine r_callV C (sp_byC G hs tp _ h3 hq) kv_X3_byteAt kn_X3_byteAt rfl dX3_readToken_29 cl_X3_86 ⟨Nat.le_of_ble_eq_true rfl, Nat.le_of_ble_eq_true rfl⟩ (by decide) rfl rfl (q_lt hs (by decide)) hF rfl (Nat.le_of_ble_eq_true rfl) ?_
            refine r_bipush C 10 rfl dX3_readToken_32 ?_
            refine t_icmp_ne C 50 (by decide) hT (show (10 : Int32).toInt = 10 from rfl) dX3_readToken_34 (fun c34 => ?_) (fun c34 => ?_)
            · first
              | (exfalso; omega)
              |  (exact K)
            · first
              | (exfalso; omega)
              |  (refine r_aload_n C rfl rfl dX3_readToken_37 ?_
                  refine r_dup C rfl dX3_readToken_38 ?_
                  refine r_getI C dX3_readToken_39 fl_X3_22 rfl (q_lt hs (by decide)) ?_
                  refine r_iconstv C 1 rfl dX3_readToken_42 ?_
                  refine r_iadd C dX3_readToken_43 ?_
                  refine r_putI C dX3_readToken_44 fl_X3_22 rfl (q_lt hs (by decide)) (Or.inl rfl) ?_
                  refine r_goto C 0 (by decide) dX3_readToken_47 ?_
                  (exfalso; omega)))

set_option maxHeartbeats 4000000 in
set_option maxRecDepth 100000 in
theorem lp_le (G : oG) {p : Program} {l : Launch} {e : Env} {R : Room} {s : State} {m : MethodId} {args : Array Value} {below : List Frame} {meth : Method} {c : Code} {n0 nF : Nat} {Z : State → Prop} {h : oH} (hs0 : oSh h) {z : Nat} {T : Nat → Int} (tp0 : tpC h z T) {l1 : Option Value} (C : oC G mX3_readToken n0 nF p l R s m args meth c) (hF0 : h.1 ≤ nF) : ∀ (k q : Nat), q + k = z → oS G mX3_readToken p l e R s m args below meth c (Z) n0 124 [some (.ref 8), l1] [] (nH h (en T isL z q)) → oS G mX3_readToken p l e R s m args below meth c (Z) n0 86 [some (.ref 8), l1] [] (nH h q) := by
  have z3 := tp0.2.1
  intro k
  induction k with
  | zero =>
    intro q hqk K
    have hs : oSh (nH h q) := hs0
    have tp := nH_t (q := q) tp0
    have h3 := nH_3 (h := h) (q := q) (by omega)
    rw [en_stop (by omega)] at K
    refine r_aload_n C rfl rfl dX3_readToken_86 ?_
    refine r_getI C dX3_readToken_87 fl_X3_22 rfl (q_lt hs (by decide)) ?_
    refine r_aload_n C rfl rfl dX3_readToken_90 ?_
    refine r_getI C dX3_readToken_91 fl_X3_15 rfl (q_lt hs (by decide)) ?_
    refine t_icmp_ge C 124 (by decide) h3 tp.1 dX3_readToken_94 (fun c94 => ?_) (fun c94 => absurd c94 (by omega))
    exact K
  | succ k ih =>
    intro q hqk K
    have hq : q < z := by omega
    have hs : oSh (nH h q) := hs0
    have tp := nH_t (q := q) tp0
    have h3 := nH_3 (h := h) (q := q) (by omega)
    have hT := (tp.2.2 q hq).1
    have hF : (nH h q).1 ≤ nF := hF0
    by_cases hw : isL (T q) = true
    · rw [en_go hq hw] at K
      rw [isL_i] at hw
      refine r_aload_n C rfl rfl dX3_readToken_86 ?_
      refine r_getI C dX3_readToken_87 fl_X3_22 rfl (q_lt hs (by decide)) ?_
      refine r_aload_n C rfl rfl dX3_readToken_90 ?_
      refine r_getI C dX3_readToken_91 fl_X3_15 rfl (q_lt hs (by decide)) ?_
      refine t_icmp_ge C 124 (by decide) h3 tp.1 dX3_readToken_94 (fun c94 => absurd c94 (by omega)) (fun c94 => ?_)
      refine r_aload_n C rfl rfl dX3_readToken_97 ?_
      refine r_aload_n C rfl rfl dX3_readToken_98 ?_
      refine r_getI C dX3_readToken_99 fl_X3_22 rfl (q_lt hs (by decide)) ?_
      refine r_callV C (sp_byC G hs tp _ h3 hq) kv_X3_byteAt kn_X3_byteAt rfl dX3_readToken_102 cl_X3_86 ⟨Nat.le_of_ble_eq_true rfl, Nat.le_of_ble_eq_true rfl⟩ (by decide) rfl rfl (q_lt hs (by decide)) hF rfl (Nat.le_of_ble_eq_true rfl) ?_
      refine r_callS C (sp_isLC G _) ks_X3_isLetter kn_X3_isLetter rfl dX3_readToken_105 cl_X3_90 ⟨Nat.le_of_ble_eq_true rfl, Nat.le_of_ble_eq_true rfl⟩ hF rfl (Nat.le_of_ble_eq_true rfl) ?_
      refine t_ifb_eq C 124 (by decide) dX3_readToken_108 (fun c108 => ?_) (fun c108 => ?_)
      · first
        | (exfalso; omega)
        |  ((exfalso; omega))
      · first
        | (exfalso; omega)
        |  (refine r_aload_n C rfl rfl dX3_readToken_111 ?_
            refine r_dup C rfl dX3_readToken_112 ?_
            refine r_getI C dX3_readToken_113 fl_X3_22 rfl (q_lt hs (by decide)) ?_
            refine r_iconstv C 1 rfl dX3_readToken_116 ?_
            refine r_iadd C dX3_readToken_117 ?_
            refine r_putI C dX3_readToken_118 fl_X3_22 rfl (q_lt hs (by decide)) (Or.inl rfl) ?_
            refine r_goto C 86 (by decide) dX3_readToken_121 ?_
            exact oS_h (nH_s (by omega)) (ih (q + 1) (by omega) K))
    · rw [en_stop (fun a => hw a.2)] at K
      rw [isL_i] at hw
      refine r_aload_n C rfl rfl dX3_readToken_86 ?_
      refine r_getI C dX3_readToken_87 fl_X3_22 rfl (q_lt hs (by decide)) ?_
      refine r_aload_n C rfl rfl dX3_readToken_90 ?_
      refine r_getI C dX3_readToken_91 fl_X3_15 rfl (q_lt hs (by decide)) ?_
      refine t_icmp_ge C 124 (by decide) h3 tp.1 dX3_readToken_94 (fun c94 => absurd c94 (by omega)) (fun c94 => ?_)
      refine r_aload_n C rfl rfl dX3_readToken_97 ?_
      refine r_aload_n C rfl rfl dX3_readToken_98 ?_
      refine r_getI C dX3_readToken_99 fl_X3_22 rfl (q_lt hs (by decide)) ?_
      refine r_callV C (sp_byC G hs tp _ h3 hq) kv_X3_byteAt kn_X3_byteAt rfl dX3_readToken_102 cl_X3_86 ⟨Nat.le_of_ble_eq_true rfl, Nat.le_of_ble_eq_true rfl⟩ (by decide) rfl rfl (q_lt hs (by decide)) hF rfl (Nat.le_of_ble_eq_true rfl) ?_
      refine r_callS C (sp_isLC G _) ks_X3_isLetter kn_X3_isLetter rfl dX3_readToken_105 cl_X3_90 ⟨Nat.le_of_ble_eq_true rfl, Nat.le_of_ble_eq_true rfl⟩ hF rfl (Nat.le_of_ble_eq_true rfl) ?_
      refine t_ifb_eq C 124 (by decide) dX3_readToken_108 (fun c108 => ?_) (fun c108 => ?_)
      · first
        | (exfalso; omega)
        |  (exact K)
      · first
        | (exfalso; omega)
        |  (refine r_aload_n C rfl rfl dX3_readToken_111 ?_
            refine r_dup C rfl dX3_readToken_112 ?_
            refine r_getI C dX3_readToken_113 fl_X3_22 rfl (q_lt hs (by decide)) ?_
            refine r_iconstv C 1 rfl dX3_readToken_116 ?_
            refine r_iadd C dX3_readToken_117 ?_
            refine r_putI C dX3_readToken_118 fl_X3_22 rfl (q_lt hs (by decide)) (Or.inl rfl) ?_
            refine r_goto C 86 (by decide) dX3_readToken_121 ?_
            (exfalso; omega))

set_option maxHeartbeats 4000000 in
set_option maxRecDepth 100000 in
theorem lp_fi (G : oG) {p : Program} {l : Launch} {e : Env} {R : Room} {s : State} {m : MethodId} {args : Array Value} {below : List Frame} {meth : Method} {c : Code} {n0 nF : Nat} {Z : State → Prop} {h : oH} (hs0 : oSh h) {z : Nat} {T : Nat → Int} (tp0 : tpC h z T) {l1 : Option Value} (C : oC G mX3_readToken n0 nF p l R s m args meth c) (hF0 : h.1 ≤ nF) : ∀ (k q : Nat), q + k = z → oS G mX3_readToken p l e R s m args below meth c (Z) n0 180 [some (.ref 8), l1] [] (nH h (en T isF z q)) → oS G mX3_readToken p l e R s m args below meth c (Z) n0 142 [some (.ref 8), l1] [] (nH h q) := by
  have z3 := tp0.2.1
  intro k
  induction k with
  | zero =>
    intro q hqk K
    have hs : oSh (nH h q) := hs0
    have tp := nH_t (q := q) tp0
    have h3 := nH_3 (h := h) (q := q) (by omega)
    rw [en_stop (by omega)] at K
    refine r_aload_n C rfl rfl dX3_readToken_142 ?_
    refine r_getI C dX3_readToken_143 fl_X3_22 rfl (q_lt hs (by decide)) ?_
    refine r_aload_n C rfl rfl dX3_readToken_146 ?_
    refine r_getI C dX3_readToken_147 fl_X3_15 rfl (q_lt hs (by decide)) ?_
    refine t_icmp_ge C 180 (by decide) h3 tp.1 dX3_readToken_150 (fun c150 => ?_) (fun c150 => absurd c150 (by omega))
    exact K
  | succ k ih =>
    intro q hqk K
    have hq : q < z := by omega
    have hs : oSh (nH h q) := hs0
    have tp := nH_t (q := q) tp0
    have h3 := nH_3 (h := h) (q := q) (by omega)
    have hT := (tp.2.2 q hq).1
    have hF : (nH h q).1 ≤ nF := hF0
    by_cases hw : isF (T q) = true
    · rw [en_go hq hw] at K
      rw [isF_i] at hw
      refine r_aload_n C rfl rfl dX3_readToken_142 ?_
      refine r_getI C dX3_readToken_143 fl_X3_22 rfl (q_lt hs (by decide)) ?_
      refine r_aload_n C rfl rfl dX3_readToken_146 ?_
      refine r_getI C dX3_readToken_147 fl_X3_15 rfl (q_lt hs (by decide)) ?_
      refine t_icmp_ge C 180 (by decide) h3 tp.1 dX3_readToken_150 (fun c150 => absurd c150 (by omega)) (fun c150 => ?_)
      refine r_aload_n C rfl rfl dX3_readToken_153 ?_
      refine r_aload_n C rfl rfl dX3_readToken_154 ?_
      refine r_getI C dX3_readToken_155 fl_X3_22 rfl (q_lt hs (by decide)) ?_
      refine r_callV C (sp_byC G hs tp _ h3 hq) kv_X3_byteAt kn_X3_byteAt rfl dX3_readToken_158 cl_X3_86 ⟨Nat.le_of_ble_eq_true rfl, Nat.le_of_ble_eq_true rfl⟩ (by decide) rfl rfl (q_lt hs (by decide)) hF rfl (Nat.le_of_ble_eq_true rfl) ?_
      refine r_callS C (sp_isFC G _) ks_X3_isFigure kn_X3_isFigure rfl dX3_readToken_161 cl_X3_98 ⟨Nat.le_of_ble_eq_true rfl, Nat.le_of_ble_eq_true rfl⟩ hF rfl (Nat.le_of_ble_eq_true rfl) ?_
      refine t_ifb_eq C 180 (by decide) dX3_readToken_164 (fun c164 => ?_) (fun c164 => ?_)
      · first
        | (exfalso; omega)
        |  ((exfalso; omega))
      · first
        | (exfalso; omega)
        |  (refine r_aload_n C rfl rfl dX3_readToken_167 ?_
            refine r_dup C rfl dX3_readToken_168 ?_
            refine r_getI C dX3_readToken_169 fl_X3_22 rfl (q_lt hs (by decide)) ?_
            refine r_iconstv C 1 rfl dX3_readToken_172 ?_
            refine r_iadd C dX3_readToken_173 ?_
            refine r_putI C dX3_readToken_174 fl_X3_22 rfl (q_lt hs (by decide)) (Or.inl rfl) ?_
            refine r_goto C 142 (by decide) dX3_readToken_177 ?_
            exact oS_h (nH_s (by omega)) (ih (q + 1) (by omega) K))
    · rw [en_stop (fun a => hw a.2)] at K
      rw [isF_i] at hw
      refine r_aload_n C rfl rfl dX3_readToken_142 ?_
      refine r_getI C dX3_readToken_143 fl_X3_22 rfl (q_lt hs (by decide)) ?_
      refine r_aload_n C rfl rfl dX3_readToken_146 ?_
      refine r_getI C dX3_readToken_147 fl_X3_15 rfl (q_lt hs (by decide)) ?_
      refine t_icmp_ge C 180 (by decide) h3 tp.1 dX3_readToken_150 (fun c150 => absurd c150 (by omega)) (fun c150 => ?_)
      refine r_aload_n C rfl rfl dX3_readToken_153 ?_
      refine r_aload_n C rfl rfl dX3_readToken_154 ?_
      refine r_getI C dX3_readToken_155 fl_X3_22 rfl (q_lt hs (by decide)) ?_
      refine r_callV C (sp_byC G hs tp _ h3 hq) kv_X3_byteAt kn_X3_byteAt rfl dX3_readToken_158 cl_X3_86 ⟨Nat.le_of_ble_eq_true rfl, Nat.le_of_ble_eq_true rfl⟩ (by decide) rfl rfl (q_lt hs (by decide)) hF rfl (Nat.le_of_ble_eq_true rfl) ?_
      refine r_callS C (sp_isFC G _) ks_X3_isFigure kn_X3_isFigure rfl dX3_readToken_161 cl_X3_98 ⟨Nat.le_of_ble_eq_true rfl, Nat.le_of_ble_eq_true rfl⟩ hF rfl (Nat.le_of_ble_eq_true rfl) ?_
      refine t_ifb_eq C 180 (by decide) dX3_readToken_164 (fun c164 => ?_) (fun c164 => ?_)
      · first
        | (exfalso; omega)
        |  (exact K)
      · first
        | (exfalso; omega)
        |  (refine r_aload_n C rfl rfl dX3_readToken_167 ?_
            refine r_dup C rfl dX3_readToken_168 ?_
            refine r_getI C dX3_readToken_169 fl_X3_22 rfl (q_lt hs (by decide)) ?_
            refine r_iconstv C 1 rfl dX3_readToken_172 ?_
            refine r_iadd C dX3_readToken_173 ?_
            refine r_putI C dX3_readToken_174 fl_X3_22 rfl (q_lt hs (by decide)) (Or.inl rfl) ?_
            refine r_goto C 142 (by decide) dX3_readToken_177 ?_
            (exfalso; omega))

