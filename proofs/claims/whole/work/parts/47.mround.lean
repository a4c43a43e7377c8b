/-! round and stop, the reference -/
set_option maxHeartbeats 4000000 in
set_option maxRecDepth 100000 in
theorem lp_nx (G : oG) {p : Program} {l : Launch} {e : Env} {R : Room} {s : State} {m : MethodId} {args : Array Value} {below : List Frame} {meth : Method} {c : Code} {n0 nF : Nat} {h : oH} (hs : oSh h) {mm : Nat} {ll : List Nat} {X Y : Nat → Int} (g : gM h mm ll X Y) {q aa : Nat} (hq0 : q ≠ 0) (hq : q < 2 ^ mm) (ht : lmT h (dXY X Y) mm q) {x1 x2 : Int32} (hk : (x1.toInt = -1000000 ∧ aa = 8) ∨ (x1.toInt = (aa : Int) ∧ aa < mm)) (h2 : x2.toInt = (q : Int)) (C : oC G mX6_nextOf n0 nF p l R s m args meth c) (hF : h.1 ≤ nF) : ∀ (k j : Nat) (x3 x4 x5 : Int32) (t6 : Option Value), j + k = mm → x5.toInt = (j : Int) → mu3 (wF (dXY X Y) mm q aa) (muF (wF (dXY X Y) mm q aa) (fun j => q.testBit j) j) x3 x4 → oS G mX6_nextOf p l e R s m args below meth c (oZ G below args s n0 nF (some (.int (kI (nx (dXY X Y) mm q aa)))) h) n0 9 [some (.ref 12), some (.int x1), some (.int x2), some (.int x3), some (.int x4), some (.int x5), t6] [] h := by
  have g8 := g.2.1
  have q8 := p256 g8 hq
  intro k
  induction k with
  | zero =>
    intro j x3 x4 x5 t6 hjk h5 hm
    have hjm : j = mm := by omega
    subst hjm
    have hnx := (nx_mu (D := dXY X Y) (k := aa) hq0 hq).1
    have hm2 : mu3 (wF (dXY X Y) j q aa) (some (nx (dXY X Y) j q aa)) x3 x4 := by rw [← hnx]; exact hm
    have e3 := kI_e hm2.1
    refine r_iload C rfl dX6_nextOf_9 ?_
    refine r_aload_n C rfl rfl dX6_nextOf_11 ?_
    refine r_getI C dX6_nextOf_12 fl_X6_150 rfl (q_lt hs (by decide)) ?_
    refine t_icmp_ge C 98 (by decide) h5 g.1 dX6_nextOf_15 (fun c15 => ?_) (fun c15 => absurd c15 (by omega))
    refine r_iload_n C rfl dX6_nextOf_98 ?_
    exact r_iret C dX6_nextOf_99 rfl hF (by rw [e3]) rfl
  | succ k ih =>
    intro j x3 x4 x5 t6 hjk h5 hm
    have hj : j < mm := by omega
    by_cases hbt : q.testBit j = true
    · have hle := Nat.sub_le q (2 ^ j)
      rcases hk with ⟨hk1, hk2⟩ | ⟨hk1, hk2⟩
      · have hv := wF_t hs g (a := aa) hj q8 hbt ht ((fdE_t hs g hj).trans (by rw [hk2, dXY_s]))
        refine r_iload C rfl dX6_nextOf_9 ?_
        refine r_aload_n C rfl rfl dX6_nextOf_11 ?_
        refine r_getI C dX6_nextOf_12 fl_X6_150 rfl (q_lt hs (by decide)) ?_
        refine t_icmp_ge C 98 (by decide) h5 g.1 dX6_nextOf_15 (fun c15 => absurd c15 (by omega)) (fun c15 => ?_)
        refine r_iload_n C rfl dX6_nextOf_18 ?_
        refine r_iload C rfl dX6_nextOf_19 ?_
        refine r_ishr C dX6_nextOf_21 ?_
        refine r_iconstv C 1 rfl dX6_nextOf_22 ?_
        refine r_iand C dX6_nextOf_23 ?_
        refine r_iconstv C 1 rfl dX6_nextOf_24 ?_
        refine t_icmp_ne C 92 (by decide) rfl (show (1 : Int32).toInt = 1 from rfl) dX6_nextOf_25 (fun c25 => absurd (by rw [tBit h2 h5 (by omega), if_pos hbt]) c25) (fun c25 => ?_)
        refine r_iload_n C rfl dX6_nextOf_28 ?_
        refine r_ldc C _ lc_X6_145 dX6_nextOf_29 ?_
        refine t_icmp_ne C 43 (by decide) hk1 (show ((-1000000) : Int32).toInt = (-1000000) from rfl) dX6_nextOf_31 (fun c31 => absurd rfl c31) (fun c31 => ?_)
        refine r_aload_n C rfl rfl dX6_nextOf_34 ?_
        refine r_iload C rfl dX6_nextOf_35 ?_
        refine r_callV C (sp_fd G hs g _ h5 hj) kv_X6_fromDepot kn_X6_fromDepot rfl dX6_nextOf_37 cl_X6_156 ⟨Nat.le_of_ble_eq_true rfl, Nat.le_of_ble_eq_true rfl⟩ (by decide) rfl rfl (q_lt hs (by decide)) hF rfl (Nat.le_of_ble_eq_true rfl) ?_
        refine r_goto C 50 (by decide) dX6_nextOf_40 ?_
        refine r_aload_n C rfl rfl dX6_nextOf_50 ?_
        refine r_getO C dX6_nextOf_51 fl_X6_69 rfl rfl (q_lt hs (by decide)) (sh_12_27 hs) ?_
        refine r_bipush C 8 rfl dX6_nextOf_54 ?_
        refine r_iload_n C rfl dX6_nextOf_56 ?_
        refine r_iconstv C 1 rfl dX6_nextOf_57 ?_
        refine r_iload C rfl dX6_nextOf_58 ?_
        refine r_ishl C dX6_nextOf_60 ?_
        refine r_iconstv C (-1) rfl dX6_nextOf_61 ?_
        refine r_ixor C dX6_nextOf_62 ?_
        refine r_iand C dX6_nextOf_63 ?_
        refine r_imul C dX6_nextOf_64 ?_
        refine r_iload C rfl dX6_nextOf_65 ?_
        refine r_iadd C dX6_nextOf_67 ?_
        refine r_iald C ((8 * (q - 2 ^ j) + j)) (by have e1 := tClr h2 h5 (by omega) hbt; have e2 := tM (show (8 : Int32).toInt = 8 from rfl) e1 (by omega); have e3 := tA e2 h5 (by omega); rw [e3]; omega) (by omega) dX6_nextOf_68 rfl (q_lt hs (by decide)) ?_
        refine r_iadd C dX6_nextOf_69 ?_
        refine r_istore C rfl (Nat.le_of_ble_eq_true rfl) dX6_nextOf_70 ?_
        refine r_iload_n C rfl dX6_nextOf_72 ?_
        refine r_ldc C _ lc_X6_145 dX6_nextOf_73 ?_
        refine t_icmp_eq C 85 (by decide) rfl (show ((-1000000) : Int32).toInt = (-1000000) from rfl) dX6_nextOf_75 (fun c75 => ?_) (fun c75 => ?_)
        · refine r_iload C rfl dX6_nextOf_85 ?_
          refine r_istore_n C rfl (Nat.le_of_ble_eq_true rfl) dX6_nextOf_87 ?_
          refine r_iload C rfl dX6_nextOf_88 ?_
          refine r_istore C rfl (Nat.le_of_ble_eq_true rfl) dX6_nextOf_90 ?_
          refine r_iinc C rfl rfl (Nat.le_of_ble_eq_true rfl) dX6_nextOf_92 ?_
          refine r_goto C 9 (by decide) dX6_nextOf_95 ?_
          exact ih (j + 1) _ _ _ _ (by omega) (by have t := tA h5 (show (Int32.ofInt 1).toInt = 1 from rfl) (by omega); omega) (by first | exact mu3_1 (P := fun j => q.testBit j) hbt hm c75 h5 hv | exact mu3_2 (P := fun j => q.testBit j) hbt hm c75 h5 hv c82 | exact mu3_3 (P := fun j => q.testBit j) hbt hm c75 hv (Int.not_lt.mpr c82) | exact mu3_2 (P := fun j => q.testBit j) hbt hm c75 h5 hv (Int.not_le.mp c82))
        · refine r_iload C rfl dX6_nextOf_78 ?_
          refine r_iload C rfl dX6_nextOf_80 ?_
          refine t_icmp_ge C 92 (by decide) rfl rfl dX6_nextOf_82 (fun c82 => ?_) (fun c82 => ?_)
          · refine r_iinc C rfl rfl (Nat.le_of_ble_eq_true rfl) dX6_nextOf_92 ?_
            refine r_goto C 9 (by decide) dX6_nextOf_95 ?_
            exact ih (j + 1) _ _ _ _ (by omega) (by have t := tA h5 (show (Int32.ofInt 1).toInt = 1 from rfl) (by omega); omega) (by first | exact mu3_1 (P := fun j => q.testBit j) hbt hm c75 h5 hv | exact mu3_2 (P := fun j => q.testBit j) hbt hm c75 h5 hv c82 | exact mu3_3 (P := fun j => q.testBit j) hbt hm c75 hv (Int.not_lt.mpr c82) | exact mu3_2 (P := fun j => q.testBit j) hbt hm c75 h5 hv (Int.not_le.mp c82))
          · refine r_iload C rfl dX6_nextOf_85 ?_
            refine r_istore_n C rfl (Nat.le_of_ble_eq_true rfl) dX6_nextOf_87 ?_
            refine r_iload C rfl dX6_nextOf_88 ?_
            refine r_istore C rfl (Nat.le_of_ble_eq_true rfl) dX6_nextOf_90 ?_
            refine r_iinc C rfl rfl (Nat.le_of_ble_eq_true rfl) dX6_nextOf_92 ?_
            refine r_goto C 9 (by decide) dX6_nextOf_95 ?_
            exact ih (j + 1) _ _ _ _ (by omega) (by have t := tA h5 (show (Int32.ofInt 1).toInt = 1 from rfl) (by omega); omega) (by first | exact mu3_1 (P := fun j => q.testBit j) hbt hm c75 h5 hv | exact mu3_2 (P := fun j => q.testBit j) hbt hm c75 h5 hv c82 | exact mu3_3 (P := fun j => q.testBit j) hbt hm c75 hv (Int.not_lt.mpr c82) | exact mu3_2 (P := fun j => q.testBit j) hbt hm c75 h5 hv (Int.not_le.mp c82))
      · have hv := wF_t hs g (a := aa) hj q8 hbt ht (bwE_t hs g hk2 hj)
        refine r_iload C rfl dX6_nextOf_9 ?_
        refine r_aload_n C rfl rfl dX6_nextOf_11 ?_
        refine r_getI C dX6_nextOf_12 fl_X6_150 rfl (q_lt hs (by decide)) ?_
        refine t_icmp_ge C 98 (by decide) h5 g.1 dX6_nextOf_15 (fun c15 => absurd c15 (by omega)) (fun c15 => ?_)
        refine r_iload_n C rfl dX6_nextOf_18 ?_
        refine r_iload C rfl dX6_nextOf_19 ?_
        refine r_ishr C dX6_nextOf_21 ?_
        refine r_iconstv C 1 rfl dX6_nextOf_22 ?_
        refine r_iand C dX6_nextOf_23 ?_
        refine r_iconstv C 1 rfl dX6_nextOf_24 ?_
        refine t_icmp_ne C 92 (by decide) rfl (show (1 : Int32).toInt = 1 from rfl) dX6_nextOf_25 (fun c25 => absurd (by rw [tBit h2 h5 (by omega), if_pos hbt]) c25) (fun c25 => ?_)
        refine r_iload_n C rfl dX6_nextOf_28 ?_
        refine r_ldc C _ lc_X6_145 dX6_nextOf_29 ?_
        refine t_icmp_ne C 43 (by decide) hk1 (show ((-1000000) : Int32).toInt = (-1000000) from rfl) dX6_nextOf_31 (fun c31 => ?_) (fun c31 => absurd c31 (by omega))
        refine r_aload_n C rfl rfl dX6_nextOf_43 ?_
        refine r_iload_n C rfl dX6_nextOf_44 ?_
        refine r_iload C rfl dX6_nextOf_45 ?_
        refine r_callV C (sp_bw G hs g _ _ hk1 hk2 h5 hj) kv_X6_between kn_X6_between rfl dX6_nextOf_47 cl_X6_159 ⟨Nat.le_of_ble_eq_true rfl, Nat.le_of_ble_eq_true rfl⟩ (by decide) rfl rfl (q_lt hs (by decide)) hF rfl (Nat.le_of_ble_eq_true rfl) ?_
        refine r_aload_n C rfl rfl dX6_nextOf_50 ?_
        refine r_getO C dX6_nextOf_51 fl_X6_69 rfl rfl (q_lt hs (by decide)) (sh_12_27 hs) ?_
        refine r_bipush C 8 rfl dX6_nextOf_54 ?_
        refine r_iload_n C rfl dX6_nextOf_56 ?_
        refine r_iconstv C 1 rfl dX6_nextOf_57 ?_
        refine r_iload C rfl dX6_nextOf_58 ?_
        refine r_ishl C dX6_nextOf_60 ?_
        refine r_iconstv C (-1) rfl dX6_nextOf_61 ?_
        refine r_ixor C dX6_nextOf_62 ?_
        refine r_iand C dX6_nextOf_63 ?_
        refine r_imul C dX6_nextOf_64 ?_
        refine r_iload C rfl dX6_nextOf_65 ?_
        refine r_iadd C dX6_nextOf_67 ?_
        refine r_iald C ((8 * (q - 2 ^ j) + j)) (by have e1 := tClr h2 h5 (by omega) hbt; have e2 := tM (show (8 : Int32).toInt = 8 from rfl) e1 (by omega); have e3 := tA e2 h5 (by omega); rw [e3]; omega) (by omega) dX6_nextOf_68 rfl (q_lt hs (by decide)) ?_
        refine r_iadd C dX6_nextOf_69 ?_
        refine r_istore C rfl (Nat.le_of_ble_eq_true rfl) dX6_nextOf_70 ?_
        refine r_iload_n C rfl dX6_nextOf_72 ?_
        refine r_ldc C _ lc_X6_145 dX6_nextOf_73 ?_
        refine t_icmp_eq C 85 (by decide) rfl (show ((-1000000) : Int32).toInt = (-1000000) from rfl) dX6_nextOf_75 (fun c75 => ?_) (fun c75 => ?_)
        · refine r_iload C rfl dX6_nextOf_85 ?_
          refine r_istore_n C rfl (Nat.le_of_ble_eq_true rfl) dX6_nextOf_87 ?_
          refine r_iload C rfl dX6_nextOf_88 ?_
          refine r_istore C rfl (Nat.le_of_ble_eq_true rfl) dX6_nextOf_90 ?_
          refine r_iinc C rfl rfl (Nat.le_of_ble_eq_true rfl) dX6_nextOf_92 ?_
          refine r_goto C 9 (by decide) dX6_nextOf_95 ?_
          exact ih (j + 1) _ _ _ _ (by omega) (by have t := tA h5 (show (Int32.ofInt 1).toInt = 1 from rfl) (by omega); omega) (by first | exact mu3_1 (P := fun j => q.testBit j) hbt hm c75 h5 hv | exact mu3_2 (P := fun j => q.testBit j) hbt hm c75 h5 hv c82 | exact mu3_3 (P := fun j => q.testBit j) hbt hm c75 hv (Int.not_lt.mpr c82) | exact mu3_2 (P := fun j => q.testBit j) hbt hm c75 h5 hv (Int.not_le.mp c82))
        · refine r_iload C rfl dX6_nextOf_78 ?_
          refine r_iload C rfl dX6_nextOf_80 ?_
          refine t_icmp_ge C 92 (by decide) rfl rfl dX6_nextOf_82 (fun c82 => ?_) (fun c82 => ?_)
          · refine r_iinc C rfl rfl (Nat.le_of_ble_eq_true rfl) dX6_nextOf_92 ?_
            refine r_goto C 9 (by decide) dX6_nextOf_95 ?_
            exact ih (j + 1) _ _ _ _ (by omega) (by have t := tA h5 (show (Int32.ofInt 1).toInt = 1 from rfl) (by omega); omega) (by first | exact mu3_1 (P := fun j => q.testBit j) hbt hm c75 h5 hv | exact mu3_2 (P := fun j => q.testBit j) hbt hm c75 h5 hv c82 | exact mu3_3 (P := fun j => q.testBit j) hbt hm c75 hv (Int.not_lt.mpr c82) | exact mu3_2 (P := fun j => q.testBit j) hbt hm c75 h5 hv (Int.not_le.mp c82))
          · refine r_iload C rfl dX6_nextOf_85 ?_
            refine r_istore_n C rfl (Nat.le_of_ble_eq_true rfl) dX6_nextOf_87 ?_
            refine r_iload C rfl dX6_nextOf_88 ?_
            refine r_istore C rfl (Nat.le_of_ble_eq_true rfl) dX6_nextOf_90 ?_
            refine r_iinc C rfl rfl (Nat.le_of_ble_eq_true rfl) dX6_nextOf_92 ?_
            refine r_goto C 9 (by decide) dX6_nextOf_95 ?_
            exact ih (j + 1) _ _ _ _ (by omega) (by have t := tA h5 (show (Int32.ofInt 1).toInt = 1 from rfl) (by omega); omega) (by first | exact mu3_1 (P := fun j => q.testBit j) hbt hm c75 h5 hv | exact mu3_2 (P := fun j => q.testBit j) hbt hm c75 h5 hv c82 | exact mu3_3 (P := fun j => q.testBit j) hbt hm c75 hv (Int.not_lt.mpr c82) | exact mu3_2 (P := fun j => q.testBit j) hbt hm c75 h5 hv (Int.not_le.mp c82))
    · refine r_iload C rfl dX6_nextOf_9 ?_
      refine r_aload_n C rfl rfl dX6_nextOf_11 ?_
      refine r_getI C dX6_nextOf_12 fl_X6_150 rfl (q_lt hs (by decide)) ?_
      refine t_icmp_ge C 98 (by decide) h5 g.1 dX6_nextOf_15 (fun c15 => absurd c15 (by omega)) (fun c15 => ?_)
      refine r_iload_n C rfl dX6_nextOf_18 ?_
      refine r_iload C rfl dX6_nextOf_19 ?_
      refine r_ishr C dX6_nextOf_21 ?_
      refine r_iconstv C 1 rfl dX6_nextOf_22 ?_
      refine r_iand C dX6_nextOf_23 ?_
      refine r_iconstv C 1 rfl dX6_nextOf_24 ?_
      refine t_icmp_ne C 92 (by decide) rfl (show (1 : Int32).toInt = 1 from rfl) dX6_nextOf_25 (fun c25 => ?_) (fun c25 => absurd (bit_t h2 h5 (by omega) c25) hbt)
      refine r_iinc C rfl rfl (Nat.le_of_ble_eq_true rfl) dX6_nextOf_92 ?_
      refine r_goto C 9 (by decide) dX6_nextOf_95 ?_
      exact ih (j + 1) _ _ _ _ (by omega) (by have t := tA h5 (show (Int32.ofInt 1).toInt = 1 from rfl) (by omega); omega) (mu3_0 (P := fun j => q.testBit j) (Bool.eq_false_iff.mpr hbt) hm)

set_option maxHeartbeats 4000000 in
set_option maxRecDepth 100000 in
theorem sp_nx (G : oG) {h : oH} (hs : oSh h) {mm : Nat} {ll : List Nat} {X Y : Nat → Int} (g : gM h mm ll X Y) {q aa : Nat} (hq0 : q ≠ 0) (hq : q < 2 ^ mm) (ht : lmT h (dXY X Y) mm q) (x1 x2 : Int32) (hk : (x1.toInt = -1000000 ∧ aa = 8) ∨ (x1.toInt = (aa : Int) ∧ aa < mm)) (h2 : x2.toInt = (q : Int)) : oSp G mX6_nextOf [.ref 12, .int x1, .int x2] h (some (.int (kI (nx (dXY X Y) mm q aa)))) h := by
  refine oSp.intro [some (.ref 12), some (.int x1), some (.int x2), none, none, none, none] rfl (Nat.le_of_ble_eq_true rfl) (plainFor_of_name (by decide +kernel)) (Nat.le_refl _) ?_
  intro p l e R s m args below meth c C
  refine r_ldc C _ lc_X6_145 dX6_nextOf_0 ?_
  refine r_istore_n C rfl (Nat.le_of_ble_eq_true rfl) dX6_nextOf_2 ?_
  refine r_iconstv C 0 rfl dX6_nextOf_3 ?_
  refine r_istore C rfl (Nat.le_of_ble_eq_true rfl) dX6_nextOf_4 ?_
  refine r_iconstv C 0 rfl dX6_nextOf_6 ?_
  refine r_istore C rfl (Nat.le_of_ble_eq_true rfl) dX6_nextOf_7 ?_
  exact lp_nx G hs g hq0 hq ht hk h2 C (Nat.le_refl _) mm 0 _ _ _ _ (by omega) rfl (by show _ = _; rfl)

def nfM (h : oH) (j : Nat) : Int32 := hI h 15 j - hI h 18 j
set_option maxHeartbeats 4000000 in
set_option maxRecDepth 100000 in
theorem lp_mn (G : oG) {p : Program} {l : Launch} {e : Env} {R : Room} {s : State} {m : MethodId} {args : Array Value} {below : List Frame} {meth : Method} {c : Code} {n0 nF : Nat} {Z : State → Prop} {h : oH} (hs : oSh h) {mm : Nat} {ll : List Nat} {X Y : Nat → Int} (g : gM h mm ll X Y) {x1 x2 : Int32} (C : oC G mX6_round n0 nF p l R s m args meth c) (hF : h.1 ≤ nF) (kont : ∀ x4 : Int32, oS G mX6_round p l e R s m args below meth c (Z) n0 76 [some (.ref 12), some (.int x1), some (.int x2), some (.int (sumI (fun k => nfM h (ll.getD k 0)) mm)), some (.int x4), none] [] h) : ∀ (k i : Nat) (x3 x4 : Int32), i + k = mm → x4.toInt = (i : Int) → x3 = sumI (fun k => nfM h (ll.getD k 0)) i → oS G mX6_round p l e R s m args below meth c (Z) n0 33 [some (.ref 12), some (.int x1), some (.int x2), some (.int x3), some (.int x4), none] [] h := by
  have g8 := g.2.1
  intro k
  induction k with
  | zero =>
    intro i x3 x4 hik h4 h3
    have him : i = mm := by omega
    subst him
    refine r_iload C rfl dX6_round_33 ?_
    refine r_aload_n C rfl rfl dX6_round_35 ?_
    refine r_getI C dX6_round_36 fl_X6_150 rfl (q_lt hs (by decide)) ?_
    refine t_icmp_ge C 76 (by decide) h4 g.1 dX6_round_39 (fun c39 => ?_) (fun c39 => absurd c39 (by omega))
    rw [h3]
    exact kont _
  | succ k ih =>
    intro i x3 x4 hik h4 h3
    have hi : i < mm := by omega
    obtain ⟨l1, l2, -, -⟩ := g.2.2.2.2 i hi
    refine r_iload C rfl dX6_round_33 ?_
    refine r_aload_n C rfl rfl dX6_round_35 ?_
    refine r_getI C dX6_round_36 fl_X6_150 rfl (q_lt hs (by decide)) ?_
    refine t_icmp_ge C 76 (by decide) h4 g.1 dX6_round_39 (fun c39 => absurd c39 (by omega)) (fun c39 => ?_)
    refine r_iload_n C rfl dX6_round_42 ?_
    refine r_aload_n C rfl rfl dX6_round_43 ?_
    refine r_getO C dX6_round_44 fl_X6_16 rfl rfl (q_lt hs (by decide)) (sh_12_4 hs) ?_
    refine r_aload_n C rfl rfl dX6_round_47 ?_
    refine r_getO C dX6_round_48 fl_X6_66 rfl rfl (q_lt hs (by decide)) (sh_12_25 hs) ?_
    refine r_iload C rfl dX6_round_51 ?_
    refine r_iald C (i) (by have t := h4; omega) (by omega) dX6_round_53 rfl (q_lt hs (by decide)) ?_
    refine r_iald C ((ll.getD i 0)) l1 l2 dX6_round_54 rfl (q_lt hs (by decide)) ?_
    refine r_aload_n C rfl rfl dX6_round_55 ?_
    refine r_getO C dX6_round_56 fl_X6_25 rfl rfl (q_lt hs (by decide)) (sh_12_7 hs) ?_
    refine r_aload_n C rfl rfl dX6_round_59 ?_
    refine r_getO C dX6_round_60 fl_X6_66 rfl rfl (q_lt hs (by decide)) (sh_12_25 hs) ?_
    refine r_iload C rfl dX6_round_63 ?_
    refine r_iald C (i) (by have t := h4; omega) (by omega) dX6_round_65 rfl (q_lt hs (by decide)) ?_
    refine r_iald C ((ll.getD i 0)) l1 l2 dX6_round_66 rfl (q_lt hs (by decide)) ?_
    refine r_isub C dX6_round_67 ?_
    refine r_iadd C dX6_round_68 ?_
    refine r_istore_n C rfl (Nat.le_of_ble_eq_true rfl) dX6_round_69 ?_
    refine r_iinc C rfl rfl (Nat.le_of_ble_eq_true rfl) dX6_round_70 ?_
    refine r_goto C 33 (by decide) dX6_round_73 ?_
    exact ih (i + 1) _ _ (by omega) (by have t := tA h4 (show (Int32.ofInt 1).toInt = 1 from rfl) (by omega); omega) (by rw [h3]; rfl)

set_option maxHeartbeats 4000000 in
set_option maxRecDepth 100000 in
theorem m_roundN (G : oG) {h : oH} (hs : oSh h) (x w : Int32) {h1 : oH} (hsp : oSp G mX6_isSet [.ref 12, .int x] (sI h 12 0 0) (some (.int 0)) h1) (hn1 : h1.1 = h.1) : oSp G mX6_round [.ref 12, .int x, .int w] h (some (.int (-1000001))) h1 := by
  refine oSp.intro [some (.ref 12), some (.int x), some (.int w), none, none, none] rfl (Nat.le_of_ble_eq_true rfl) (plainFor_of_name (by decide +kernel)) (by rw [hn1]; exact Nat.le_refl _) ?_
  intro p l e R s m args below meth c C
  refine r_aload_n C rfl rfl dX6_round_0 ?_
  refine r_iconstv C 0 rfl dX6_round_1 ?_
  refine r_putI C dX6_round_2 fl_X6_90 rfl (q_lt hs (by decide)) (Or.inl rfl) ?_
  refine r_aload_n C rfl rfl dX6_round_5 ?_
  refine r_iload_n C rfl dX6_round_6 ?_
  refine r_callV C hsp kv_X6_isSet kn_X6_isSet rfl dX6_round_7 cl_X6_162 ⟨Nat.le_of_ble_eq_true rfl, Nat.le_of_ble_eq_true rfl⟩ (by decide) rfl rfl (q_lt hs (by decide)) (Nat.le_refl _) rfl (Nat.le_of_ble_eq_true rfl) ?_
  refine t_if_eq C 25 (by decide) (show (0 : Int32).toInt = 0 from rfl) dX6_round_10 (fun c10 => ?_) (fun c10 => absurd c10 (by decide))
  refine r_ldc C _ lc_X6_106 dX6_round_25 ?_
  exact r_iret C dX6_round_27 rfl (Nat.le_refl _) rfl rfl

set_option maxHeartbeats 4000000 in
set_option maxRecDepth 100000 in
theorem m_stopN (G : oG) {h : oH} (hs : oSh h) (x w : Int32) {h1 : oH} (hsp : oSp G mX6_isSet [.ref 12, .int x] (sI h 12 0 0) (some (.int 0)) h1) (hn1 : h1.1 = h.1) : oSp G mX6_stop [.ref 12, .int x, .int w] h (some (.int (-1000001))) h1 := by
  refine oSp.intro [some (.ref 12), some (.int x), some (.int w), none, none, none] rfl (Nat.le_of_ble_eq_true rfl) (plainFor_of_name (by decide +kernel)) (by rw [hn1]; exact Nat.le_refl _) ?_
  intro p l e R s m args below meth c C
  refine r_aload_n C rfl rfl dX6_stop_0 ?_
  refine r_iconstv C 0 rfl dX6_stop_1 ?_
  refine r_putI C dX6_stop_2 fl_X6_90 rfl (q_lt hs (by decide)) (Or.inl rfl) ?_
  refine r_aload_n C rfl rfl dX6_stop_5 ?_
  refine r_iload_n C rfl dX6_stop_6 ?_
  refine r_callV C hsp kv_X6_isSet kn_X6_isSet rfl dX6_stop_7 cl_X6_162 ⟨Nat.le_of_ble_eq_true rfl, Nat.le_of_ble_eq_true rfl⟩ (by decide) rfl rfl (q_lt hs (by decide)) (Nat.le_refl _) rfl (Nat.le_of_ble_eq_true rfl) ?_
  refine t_if_ne C 16 (by decide) (show (0 : Int32).toInt = 0 from rfl) dX6_stop_10 (fun c10 => absurd c10 (by decide)) (fun c10 => ?_)
  refine r_ldc C _ lc_X6_106 dX6_stop_13 ?_
  exact r_iret C dX6_stop_15 rfl (Nat.le_refl _) rfl rfl

set_option maxHeartbeats 4000000 in
set_option maxRecDepth 100000 in
theorem m_roundX (G : oG) {h : oH} (hs : oSh h) (x w : Int32) {h1 : oH} (hsp : oSp G mX6_isSet [.ref 12, .int x] (sI h 12 0 0) (some (.int 1)) h1) (hn1 : h1.1 = h.1) (hs1 : oSh h1) {mm : Nat} {ll : List Nat} {X Y : Nat → Int} (g : gM h1 mm ll X Y) (hw : ¬ (0 ≤ w.toInt ∧ w.toInt ≤ 2)) : oSp G mX6_round [.ref 12, .int x, .int w] h (some (.int (-1000001))) h1 := by
  refine oSp.intro [some (.ref 12), some (.int x), some (.int w), none, none, none] rfl (Nat.le_of_ble_eq_true rfl) (plainFor_of_name (by decide +kernel)) (by rw [hn1]; exact Nat.le_refl _) ?_
  intro p l e R s m args below meth c C
  refine r_aload_n C rfl rfl dX6_round_0 ?_
  refine r_iconstv C 0 rfl dX6_round_1 ?_
  refine r_putI C dX6_round_2 fl_X6_90 rfl (q_lt hs (by decide)) (Or.inl rfl) ?_
  refine r_aload_n C rfl rfl dX6_round_5 ?_
  refine r_iload_n C rfl dX6_round_6 ?_
  refine r_callV C hsp kv_X6_isSet kn_X6_isSet rfl dX6_round_7 cl_X6_162 ⟨Nat.le_of_ble_eq_true rfl, Nat.le_of_ble_eq_true rfl⟩ (by decide) rfl rfl (q_lt hs (by decide)) (Nat.le_refl _) rfl (Nat.le_of_ble_eq_true rfl) ?_
  refine t_if_eq C 25 (by decide) (show (1 : Int32).toInt = 1 from rfl) dX6_round_10 (fun c10 => absurd c10 (by decide)) (fun c10 => ?_)
  refine r_iload_n C rfl dX6_round_13 ?_
  refine r_i2l C dX6_round_14 ?_
  refine r_lconst C 0 rfl dX6_round_15 ?_
  refine r_ldc2 C _ ll_X6_165 dX6_round_16 ?_
  refine r_callS C (sp_in G (tI2L rfl) (show (0 : Int64).toInt = 0 from rfl) (show (2 : Int64).toInt = 2 from rfl)) ks_X6_in kn_X6_in rfl dX6_round_19 cl_X6_96 ⟨Nat.le_of_ble_eq_true rfl, Nat.le_of_ble_eq_true rfl⟩ (Nat.le_refl _) rfl (Nat.le_of_ble_eq_true rfl) ?_
  refine t_ifb_ne C 28 (by decide) dX6_round_22 (fun c22 => ?_) (fun c22 => ?_)
  · first
    | (exfalso; omega)
    |  ((exfalso; omega))
  · first
    | (exfalso; omega)
    |  (refine r_ldc C _ lc_X6_106 dX6_round_25 ?_
        exact r_iret C dX6_round_27 rfl (Nat.le_refl _) rfl rfl)

set_option maxHeartbeats 4000000 in
set_option maxRecDepth 100000 in
theorem m_round2 (G : oG) {h : oH} (hs : oSh h) (x w : Int32) {h1 : oH} (hsp : oSp G mX6_isSet [.ref 12, .int x] (sI h 12 0 0) (some (.int 1)) h1) (hn1 : h1.1 = h.1) (hs1 : oSh h1) {mm : Nat} {ll : List Nat} {X Y : Nat → Int} (g : gM h1 mm ll X Y) (hw : w.toInt = 2) : oSp G mX6_round [.ref 12, .int x, .int w] h (some (.int (sumI (fun k => nfM h1 (ll.getD k 0)) mm))) h1 := by
  refine oSp.intro [some (.ref 12), some (.int x), some (.int w), none, none, none] rfl (Nat.le_of_ble_eq_true rfl) (plainFor_of_name (by decide +kernel)) (by rw [hn1]; exact Nat.le_refl _) ?_
  intro p l e R s m args below meth c C
  refine r_aload_n C rfl rfl dX6_round_0 ?_
  refine r_iconstv C 0 rfl dX6_round_1 ?_
  refine r_putI C dX6_round_2 fl_X6_90 rfl (q_lt hs (by decide)) (Or.inl rfl) ?_
  refine r_aload_n C rfl rfl dX6_round_5 ?_
  refine r_iload_n C rfl dX6_round_6 ?_
  refine r_callV C hsp kv_X6_isSet kn_X6_isSet rfl dX6_round_7 cl_X6_162 ⟨Nat.le_of_ble_eq_true rfl, Nat.le_of_ble_eq_true rfl⟩ (by decide) rfl rfl (q_lt hs (by decide)) (Nat.le_refl _) rfl (Nat.le_of_ble_eq_true rfl) ?_
  refine t_if_eq C 25 (by decide) (show (1 : Int32).toInt = 1 from rfl) dX6_round_10 (fun c10 => absurd c10 (by decide)) (fun c10 => ?_)
  refine r_iload_n C rfl dX6_round_13 ?_
  refine r_i2l C dX6_round_14 ?_
  refine r_lconst C 0 rfl dX6_round_15 ?_
  refine r_ldc2 C _ ll_X6_165 dX6_round_16 ?_
  refine r_callS C (sp_in G (tI2L hw) (show (0 : Int64).toInt = 0 from rfl) (show (2 : Int64).toInt = 2 from rfl)) ks_X6_in kn_X6_in rfl dX6_round_19 cl_X6_96 ⟨Nat.le_of_ble_eq_true rfl, Nat.le_of_ble_eq_true rfl⟩ (Nat.le_refl _) rfl (Nat.le_of_ble_eq_true rfl) ?_
  refine t_ifb_ne C 28 (by decide) dX6_round_22 (fun c22 => ?_) (fun c22 => ?_)
  · first
    | (exfalso; omega)
    |  (refine r_iconstv C 0 rfl dX6_round_28 ?_
        refine r_istore_n C rfl (Nat.le_of_ble_eq_true rfl) dX6_round_29 ?_
        refine r_iconstv C 0 rfl dX6_round_30 ?_
        refine r_istore C rfl (Nat.le_of_ble_eq_true rfl) dX6_round_31 ?_
        have hs := hs1
        refine lp_mn G hs g C (Nat.le_refl _) (fun x4 => ?_) mm 0 _ _ (by omega) rfl rfl
        refine r_iload_n C rfl dX6_round_76 ?_
        refine t_if_le C 111 (by decide) hw dX6_round_77 (fun c77 => absurd c77 (by decide)) (fun c77 => ?_)
        refine r_iload_n C rfl dX6_round_80 ?_
        refine r_iconstv C 2 rfl dX6_round_81 ?_
        refine t_icmp_ne C 89 (by decide) hw (show (2 : Int32).toInt = 2 from rfl) dX6_round_82 (fun c82 => absurd rfl c82) (fun c82 => ?_)
        refine r_iload_n C rfl dX6_round_85 ?_
        refine r_goto C 110 (by decide) dX6_round_86 ?_
        exact r_iret C dX6_round_110 rfl (Nat.le_refl _) rfl rfl)
  · first
    | (exfalso; omega)
    |  (refine r_ldc C _ lc_X6_106 dX6_round_25 ?_
        exact r_iret C dX6_round_27 rfl (Nat.le_refl _) rfl rfl)

set_option maxHeartbeats 4000000 in
set_option maxRecDepth 100000 in
theorem m_round1 (G : oG) {h : oH} (hs : oSh h) (x w : Int32) {h1 : oH} (hsp : oSp G mX6_isSet [.ref 12, .int x] (sI h 12 0 0) (some (.int 1)) h1) (hn1 : h1.1 = h.1) (hs1 : oSh h1) {mm : Nat} {ll : List Nat} {X Y : Nat → Int} (g : gM h1 mm ll X Y) (hw : w.toInt = 1) : oSp G mX6_round [.ref 12, .int x, .int w] h (some (.int (b1 ((sumI (fun k => nfM h1 (ll.getD k 0)) mm).toInt ≤ (hI h1 12 20).toInt ∧ (sumI (fun k => nfM h1 (ll.getD k 0)) mm).toInt ≤ (hI h1 12 19).toInt)))) h1 := by
  refine oSp.intro [some (.ref 12), some (.int x), some (.int w), none, none, none] rfl (Nat.le_of_ble_eq_true rfl) (plainFor_of_name (by decide +kernel)) (by rw [hn1]; exact Nat.le_refl _) ?_
  intro p l e R s m args below meth c C
  refine r_aload_n C rfl rfl dX6_round_0 ?_
  refine r_iconstv C 0 rfl dX6_round_1 ?_
  refine r_putI C dX6_round_2 fl_X6_90 rfl (q_lt hs (by decide)) (Or.inl rfl) ?_
  refine r_aload_n C rfl rfl dX6_round_5 ?_
  refine r_iload_n C rfl dX6_round_6 ?_
  refine r_callV C hsp kv_X6_isSet kn_X6_isSet rfl dX6_round_7 cl_X6_162 ⟨Nat.le_of_ble_eq_true rfl, Nat.le_of_ble_eq_true rfl⟩ (by decide) rfl rfl (q_lt hs (by decide)) (Nat.le_refl _) rfl (Nat.le_of_ble_eq_true rfl) ?_
  refine t_if_eq C 25 (by decide) (show (1 : Int32).toInt = 1 from rfl) dX6_round_10 (fun c10 => absurd c10 (by decide)) (fun c10 => ?_)
  refine r_iload_n C rfl dX6_round_13 ?_
  refine r_i2l C dX6_round_14 ?_
  refine r_lconst C 0 rfl dX6_round_15 ?_
  refine r_ldc2 C _ ll_X6_165 dX6_round_16 ?_
  refine r_callS C (sp_in G (tI2L hw) (show (0 : Int64).toInt = 0 from rfl) (show (2 : Int64).toInt = 2 from rfl)) ks_X6_in kn_X6_in rfl dX6_round_19 cl_X6_96 ⟨Nat.le_of_ble_eq_true rfl, Nat.le_of_ble_eq_true rfl⟩ (Nat.le_refl _) rfl (Nat.le_of_ble_eq_true rfl) ?_
  refine t_ifb_ne C 28 (by decide) dX6_round_22 (fun c22 => ?_) (fun c22 => ?_)
  · first
    | (exfalso; omega)
    |  (refine r_iconstv C 0 rfl dX6_round_28 ?_
        refine r_istore_n C rfl (Nat.le_of_ble_eq_true rfl) dX6_round_29 ?_
        refine r_iconstv C 0 rfl dX6_round_30 ?_
        refine r_istore C rfl (Nat.le_of_ble_eq_true rfl) dX6_round_31 ?_
        have hs := hs1
        refine lp_mn G hs g C (Nat.le_refl _) (fun x4 => ?_) mm 0 _ _ (by omega) rfl rfl
        refine r_iload_n C rfl dX6_round_76 ?_
        refine t_if_le C 111 (by decide) hw dX6_round_77 (fun c77 => absurd c77 (by decide)) (fun c77 => ?_)
        refine r_iload_n C rfl dX6_round_80 ?_
        refine r_iconstv C 2 rfl dX6_round_81 ?_
        refine t_icmp_ne C 89 (by decide) hw (show (2 : Int32).toInt = 2 from rfl) dX6_round_82 (fun c82 => ?_) (fun c82 => absurd c82 (by decide))
        refine r_iload_n C rfl dX6_round_89 ?_
        refine r_aload_n C rfl rfl dX6_round_90 ?_
        refine r_getI C dX6_round_91 fl_X6_60 rfl (q_lt hs (by decide)) ?_
        refine t_icmp_gt C 109 (by decide) rfl rfl dX6_round_94 (fun c94 => ?_) (fun c94 => ?_)
        · first
          | (exfalso; omega)
          |  (refine r_iconstv C 0 rfl dX6_round_109 ?_
              exact r_iret C dX6_round_110 rfl (Nat.le_refl _) (er_f (by omega)) rfl)
        · first
          | (exfalso; omega)
          |  (refine r_iload_n C rfl dX6_round_97 ?_
              refine r_aload_n C rfl rfl dX6_round_98 ?_
              refine r_getI C dX6_round_99 fl_X6_134 rfl (q_lt hs (by decide)) ?_
              refine t_icmp_gt C 109 (by decide) rfl rfl dX6_round_102 (fun c102 => ?_) (fun c102 => ?_)
              · first
                | (exfalso; omega)
                |  (refine r_iconstv C 0 rfl dX6_round_109 ?_
                    exact r_iret C dX6_round_110 rfl (Nat.le_refl _) (er_f (by omega)) rfl)
              · first
                | (exfalso; omega)
                |  (refine r_iconstv C 1 rfl dX6_round_105 ?_
                    refine r_goto C 110 (by decide) dX6_round_106 ?_
                    exact r_iret C dX6_round_110 rfl (Nat.le_refl _) (er_t (by omega)) rfl)))
  · first
    | (exfalso; omega)
    |  (refine r_ldc C _ lc_X6_106 dX6_round_25 ?_
        exact r_iret C dX6_round_27 rfl (Nat.le_refl _) rfl rfl)

abbrev fuH (h1 : oH) (X Y : Nat → Int) (mm : Nat) : oH := fpH h1 (dXY X Y) mm (2 ^ mm)
theorem fuH_am {h1 : oH} {X Y : Nat → Int} {mm : Nat} {ll : List Nat} (g : gM h1 mm ll X Y) : amT (fuH h1 X Y mm) (dXY X Y) mm (2 ^ mm) := fpH_am g.2.1 g.2.2.1 (Nat.pow_le_pow_right (n := 2) (by decide) g.2.1)
def j0N (X Y : Nat → Int) (mm : Nat) : Nat := nx (dXY X Y) mm (2 ^ mm - 1) 8
set_option maxHeartbeats 4000000 in
set_option maxRecDepth 100000 in
theorem m_round0 (G : oG) {h : oH} (hs : oSh h) (x w : Int32) {h1 : oH} (hsp : oSp G mX6_isSet [.ref 12, .int x] (sI h 12 0 0) (some (.int 1)) h1) (hn1 : h1.1 = h.1) (hs1 : oSh h1) {mm : Nat} {ll : List Nat} {X Y : Nat → Int} (g : gM h1 mm ll X Y) (hw : w.toInt = 0) (hm0 : 1 ≤ mm) : oSp G mX6_round [.ref 12, .int x, .int w] h (some (.int (fdE (fuH h1 X Y mm) ll (j0N X Y mm) + hI (fuH h1 X Y mm) 28 (8 * (2 ^ mm - 1 - 2 ^ j0N X Y mm) + j0N X Y mm)))) (fuH h1 X Y mm) := by
  refine oSp.intro [some (.ref 12), some (.int x), some (.int w), none, none, none] rfl (Nat.le_of_ble_eq_true rfl) (plainFor_of_name (by decide +kernel)) (by rw [fpH_n, hn1]; exact Nat.le_refl _) ?_
  intro p l e R s m args below meth c C
  refine r_aload_n C rfl rfl dX6_round_0 ?_
  refine r_iconstv C 0 rfl dX6_round_1 ?_
  refine r_putI C dX6_round_2 fl_X6_90 rfl (q_lt hs (by decide)) (Or.inl rfl) ?_
  refine r_aload_n C rfl rfl dX6_round_5 ?_
  refine r_iload_n C rfl dX6_round_6 ?_
  refine r_callV C hsp kv_X6_isSet kn_X6_isSet rfl dX6_round_7 cl_X6_162 ⟨Nat.le_of_ble_eq_true rfl, Nat.le_of_ble_eq_true rfl⟩ (by decide) rfl rfl (q_lt hs (by decide)) (by rw [fpH_n]; exact Nat.le_refl _) rfl (Nat.le_of_ble_eq_true rfl) ?_
  refine t_if_eq C 25 (by decide) (show (1 : Int32).toInt = 1 from rfl) dX6_round_10 (fun c10 => absurd c10 (by decide)) (fun c10 => ?_)
  refine r_iload_n C rfl dX6_round_13 ?_
  refine r_i2l C dX6_round_14 ?_
  refine r_lconst C 0 rfl dX6_round_15 ?_
  refine r_ldc2 C _ ll_X6_165 dX6_round_16 ?_
  refine r_callS C (sp_in G (tI2L hw) (show (0 : Int64).toInt = 0 from rfl) (show (2 : Int64).toInt = 2 from rfl)) ks_X6_in kn_X6_in rfl dX6_round_19 cl_X6_96 ⟨Nat.le_of_ble_eq_true rfl, Nat.le_of_ble_eq_true rfl⟩ (by rw [fpH_n]; exact Nat.le_refl _) rfl (Nat.le_of_ble_eq_true rfl) ?_
  refine t_ifb_ne C 28 (by decide) dX6_round_22 (fun c22 => ?_) (fun c22 => ?_)
  · first
    | (exfalso; omega)
    |  (refine r_iconstv C 0 rfl dX6_round_28 ?_
        refine r_istore_n C rfl (Nat.le_of_ble_eq_true rfl) dX6_round_29 ?_
        refine r_iconstv C 0 rfl dX6_round_30 ?_
        refine r_istore C rfl (Nat.le_of_ble_eq_true rfl) dX6_round_31 ?_
        have hs := hs1
        refine lp_mn G hs g C (by rw [fpH_n]; exact Nat.le_refl _) (fun x4 => ?_) mm 0 _ _ (by omega) rfl rfl
        refine r_iload_n C rfl dX6_round_76 ?_
        refine t_if_le C 111 (by decide) hw dX6_round_77 (fun c77 => ?_) (fun c77 => absurd c77 (by decide))
        refine r_aload_n C rfl rfl dX6_round_111 ?_
        refine r_callV C (sp_fw G hs1 g) kv_X6_findWays kn_X6_findWays rfl dX6_round_112 cl_X6_167 ⟨Nat.le_of_ble_eq_true rfl, Nat.le_of_ble_eq_true rfl⟩ (by decide) rfl rfl (q_lt hs (by decide)) (Nat.le_refl _) rfl (Nat.le_of_ble_eq_true rfl) ?_
        have g8 := g.2.1
        have pz := pw_pos mm
        have p8 : 2 ^ mm ≤ 256 := Nat.pow_le_pow_right (n := 2) (by decide) g8
        have p2 : 2 ≤ 2 ^ mm := Nat.pow_le_pow_right (n := 2) (by decide) hm0
        have hq0 : 2 ^ mm - 1 ≠ 0 := by omega
        have hq : 2 ^ mm - 1 < 2 ^ mm := by omega
        have g := gM_fp (D := dXY X Y) (q := 2 ^ mm) g
        have hs : oSh (fuH h1 X Y mm) := sh_fp hs1
        have hal := fpH_am (h := h1) g8 g.2.2.1 p8
        have ht := hal.ls (r := 2 ^ mm - 1) (by omega)
        have hfu : (hI (fuH h1 X Y mm) 12 26).toInt = (mm : Int) := g.1
        have hsh : ((1 : Int32) <<< (hI (fuH h1 X Y mm) 12 26 &&& 31) - 1).toInt = ((2 ^ mm - 1 : Nat) : Int) := by rw [tS (tShl hfu (by omega)) (show (1 : Int32).toInt = 1 from rfl) (by omega)]; omega
        obtain ⟨-, -, n1, n2⟩ := nx_mu (D := dXY X Y) (k := 8) hq0 hq
        have hj0 : (kI (j0N X Y mm)).toInt = ((j0N X Y mm : Nat) : Int) := kI_t (by unfold j0N; omega)
        have hle := Nat.sub_le (2 ^ mm - 1) (2 ^ j0N X Y mm)
        have n1' : j0N X Y mm < mm := n1
        refine r_iconstv C 1 rfl dX6_round_115 ?_
        refine r_aload_n C rfl rfl dX6_round_116 ?_
        refine r_getI C dX6_round_117 fl_X6_150 rfl (q_lt hs (by decide)) ?_
        refine r_ishl C dX6_round_120 ?_
        refine r_iconstv C 1 rfl dX6_round_121 ?_
        refine r_isub C dX6_round_122 ?_
        refine r_istore C rfl (Nat.le_of_ble_eq_true rfl) dX6_round_123 ?_
        refine r_aload_n C rfl rfl dX6_round_125 ?_
        refine r_ldc C _ lc_X6_145 dX6_round_126 ?_
        refine r_iload C rfl dX6_round_128 ?_
        refine r_callV C (sp_nx G hs g hq0 hq ht _ _ (Or.inl ⟨rfl, rfl⟩) hsh) kv_X6_nextOf kn_X6_nextOf rfl dX6_round_130 cl_X6_170 ⟨Nat.le_of_ble_eq_true rfl, Nat.le_of_ble_eq_true rfl⟩ (by decide) rfl rfl (q_lt hs (by decide)) (Nat.le_refl _) rfl (Nat.le_of_ble_eq_true rfl) ?_
        refine r_istore C rfl (Nat.le_of_ble_eq_true rfl) dX6_round_133 ?_
        refine r_aload_n C rfl rfl dX6_round_135 ?_
        refine r_iload C rfl dX6_round_136 ?_
        refine r_callV C (sp_fd G hs g _ hj0 n1) kv_X6_fromDepot kn_X6_fromDepot rfl dX6_round_138 cl_X6_156 ⟨Nat.le_of_ble_eq_true rfl, Nat.le_of_ble_eq_true rfl⟩ (by decide) rfl rfl (q_lt hs (by decide)) (Nat.le_refl _) rfl (Nat.le_of_ble_eq_true rfl) ?_
        refine r_aload_n C rfl rfl dX6_round_141 ?_
        refine r_getO C dX6_round_142 fl_X6_69 rfl rfl (q_lt hs (by decide)) (sh_12_27 hs) ?_
        refine r_bipush C 8 rfl dX6_round_145 ?_
        refine r_iload C rfl dX6_round_147 ?_
        refine r_iconstv C 1 rfl dX6_round_149 ?_
        refine r_iload C rfl dX6_round_150 ?_
        refine r_ishl C dX6_round_152 ?_
        refine r_iconstv C (-1) rfl dX6_round_153 ?_
        refine r_ixor C dX6_round_154 ?_
        refine r_iand C dX6_round_155 ?_
        refine r_imul C dX6_round_156 ?_
        refine r_iload C rfl dX6_round_157 ?_
        refine r_iadd C dX6_round_159 ?_
        refine r_iald C ((8 * (2 ^ mm - 1 - 2 ^ j0N X Y mm) + j0N X Y mm)) (by have e1 := tClr hsh hj0 (by omega) n2; have e2 := tM (show (8 : Int32).toInt = 8 from rfl) e1 (by omega); have e3 := tA e2 hj0 (by omega); exact e3.trans (by omega)) (by omega) dX6_round_160 rfl (q_lt hs (by decide)) ?_
        refine r_iadd C dX6_round_161 ?_
        exact r_iret C dX6_round_162 rfl (Nat.le_refl _) rfl rfl)
  · first
    | (exfalso; omega)
    |  (refine r_ldc C _ lc_X6_106 dX6_round_25 ?_
        exact r_iret C dX6_round_27 rfl (by rw [fpH_n]; exact Nat.le_refl _) rfl rfl)

theorem m_way {h1 : oH} (hs1 : oSh h1) {mm : Nat} {ll : List Nat} {X Y : Nat → Int} (g : gM h1 mm ll X Y) (hm0 : 1 ≤ mm) : (fdE (fuH h1 X Y mm) ll (j0N X Y mm) + hI (fuH h1 X Y mm) 28 (8 * (2 ^ mm - 1 - 2 ^ j0N X Y mm) + j0N X Y mm)).toInt = wy (dXY X Y) mm (2 ^ mm - 1) 8 := by
  have g8 := g.2.1
  have pz := pw_pos mm
  have p8 : 2 ^ mm ≤ 256 := Nat.pow_le_pow_right (n := 2) (by decide) g8
  have p2 : 2 ≤ 2 ^ mm := Nat.pow_le_pow_right (n := 2) (by decide) hm0
  have hq0 : 2 ^ mm - 1 ≠ 0 := by omega
  have hq : 2 ^ mm - 1 < 2 ^ mm := by omega
  have g := gM_fp (D := dXY X Y) (q := 2 ^ mm) g
  have hs : oSh (fuH h1 X Y mm) := sh_fp hs1
  have hal := fpH_am (h := h1) g8 g.2.2.1 p8
  have ht := hal.ls (r := 2 ^ mm - 1) (by omega)
  have hfu : (hI (fuH h1 X Y mm) 12 26).toInt = (mm : Int) := g.1
  have hsh : ((1 : Int32) <<< (hI (fuH h1 X Y mm) 12 26 &&& 31) - 1).toInt = ((2 ^ mm - 1 : Nat) : Int) := by rw [tS (tShl hfu (by omega)) (show (1 : Int32).toInt = 1 from rfl) (by omega)]; omega
  obtain ⟨-, -, n1, n2⟩ := nx_mu (D := dXY X Y) (k := 8) hq0 hq
  have hj0 : (kI (j0N X Y mm)).toInt = ((j0N X Y mm : Nat) : Int) := kI_t (by unfold j0N; omega)
  have hle := Nat.sub_le (2 ^ mm - 1) (2 ^ j0N X Y mm)
  have n1' : j0N X Y mm < mm := n1
  have e := wF_t hs g (a := 8) n1' (by omega) n2 ht ((fdE_t hs g n1').trans (dXY_s X Y _ 8))
  rw [(nx_mu (D := dXY X Y) (k := 8) hq0 hq).2.1]
  exact e
set_option maxHeartbeats 4000000 in
set_option maxRecDepth 100000 in
theorem m_stopX (G : oG) {h : oH} (hs : oSh h) (x w : Int32) {h1 : oH} (hsp : oSp G mX6_isSet [.ref 12, .int x] (sI h 12 0 0) (some (.int 1)) h1) (hn1 : h1.1 = h.1) (hs1 : oSh h1) {mm : Nat} {ll : List Nat} {X Y : Nat → Int} (g : gM h1 mm ll X Y) (hw : ¬ (0 ≤ w.toInt ∧ w.toInt < mm)) : oSp G mX6_stop [.ref 12, .int x, .int w] h (some (.int (-1000000))) h1 := by
  have g8 := g.2.1
  refine oSp.intro [some (.ref 12), some (.int x), some (.int w), none, none, none] rfl (Nat.le_of_ble_eq_true rfl) (plainFor_of_name (by decide +kernel)) (by rw [hn1]; exact Nat.le_refl _) ?_
  intro p l e R s m args below meth c C
  refine r_aload_n C rfl rfl dX6_stop_0 ?_
  refine r_iconstv C 0 rfl dX6_stop_1 ?_
  refine r_putI C dX6_stop_2 fl_X6_90 rfl (q_lt hs (by decide)) (Or.inl rfl) ?_
  refine r_aload_n C rfl rfl dX6_stop_5 ?_
  refine r_iload_n C rfl dX6_stop_6 ?_
  refine r_callV C hsp kv_X6_isSet kn_X6_isSet rfl dX6_stop_7 cl_X6_162 ⟨Nat.le_of_ble_eq_true rfl, Nat.le_of_ble_eq_true rfl⟩ (by decide) rfl rfl (q_lt hs (by decide)) (Nat.le_refl _) rfl (Nat.le_of_ble_eq_true rfl) ?_
  refine t_if_ne C 16 (by decide) (show (1 : Int32).toInt = 1 from rfl) dX6_stop_10 (fun c10 => ?_) (fun c10 => absurd c10 (by decide))
  refine r_iload_n C rfl dX6_stop_16 ?_
  refine r_i2l C dX6_stop_17 ?_
  refine r_lconst C 0 rfl dX6_stop_18 ?_
  have hs := hs1
  refine r_aload_n C rfl rfl dX6_stop_19 ?_
  refine r_getI C dX6_stop_20 fl_X6_150 rfl (q_lt hs (by decide)) ?_
  refine r_iconstv C 1 rfl dX6_stop_23 ?_
  refine r_isub C dX6_stop_24 ?_
  refine r_i2l C dX6_stop_25 ?_
  refine r_callS C (sp_in G (tI2L rfl) (show (0 : Int64).toInt = 0 from rfl) (tI2L (tS g.1 (show (1 : Int32).toInt = 1 from rfl) (by omega)))) ks_X6_in kn_X6_in rfl dX6_stop_26 cl_X6_96 ⟨Nat.le_of_ble_eq_true rfl, Nat.le_of_ble_eq_true rfl⟩ (Nat.le_refl _) rfl (Nat.le_of_ble_eq_true rfl) ?_
  refine t_ifb_ne C 35 (by decide) dX6_stop_29 (fun c29 => ?_) (fun c29 => ?_)
  · first
    | (exfalso; omega)
  · first
    | (exfalso; omega)
    |  (refine r_ldc C _ lc_X6_145 dX6_stop_32 ?_
        exact r_iret C dX6_stop_34 rfl (Nat.le_refl _) rfl rfl)

set_option maxHeartbeats 4000000 in
set_option maxRecDepth 100000 in
theorem lp_st (G : oG) {p : Program} {l : Launch} {e : Env} {R : Room} {s : State} {m : MethodId} {args : Array Value} {below : List Frame} {meth : Method} {c : Code} {n0 nF : Nat} {h : oH} (hs : oSh h) {mm : Nat} {ll : List Nat} {X Y : Nat → Int} (g : gM h mm ll X Y) {x w : Int32} {i : Nat} (hw : w.toInt = (i : Int)) (him : i < mm) (hal : amT h (dXY X Y) mm (2 ^ mm)) (C : oC G mX6_stop n0 nF p l R s m args meth c) (hF : h.1 ≤ nF) : ∀ (k j : Nat) (x3 x4 x5 : Int32), j + k = i + 1 → x5.toInt = (j : Int) → x3.toInt = (((och (dXY X Y) mm j).1 : Nat) : Int) → ((x4.toInt = -1000000 ∧ (och (dXY X Y) mm j).2 = 8) ∨ (x4.toInt = (((och (dXY X Y) mm j).2 : Nat) : Int) ∧ (och (dXY X Y) mm j).2 < mm)) → (k = 0 → (och (dXY X Y) mm j).2 < mm) → oS G mX6_stop p l e R s m args below meth c (oZ G below args s n0 nF (some (.int (hI h 27 (och (dXY X Y) mm (i + 1)).2))) h) n0 55 [some (.ref 12), some (.int x), some (.int w), some (.int x3), some (.int x4), some (.int x5)] [] h := by
  have g8 := g.2.1
  have p8 : 2 ^ mm ≤ 256 := Nat.pow_le_pow_right (n := 2) (by decide) g8
  intro k
  induction k with
  | zero =>
    intro j x3 x4 x5 hjk h5 h3 h4 hz
    have hji : j = i + 1 := by omega
    subst hji
    have hz2 := hz rfl
    have h4' : x4.toInt = (((och (dXY X Y) mm (i + 1)).2 : Nat) : Int) := by omega
    refine r_iload C rfl dX6_stop_55 ?_
    refine r_iload_n C rfl dX6_stop_57 ?_
    refine t_icmp_gt C 85 (by decide) rfl hw dX6_stop_58 (fun c58 => ?_) (fun c58 => absurd c58 (by omega))
    refine r_aload_n C rfl rfl dX6_stop_85 ?_
    refine r_getO C dX6_stop_86 fl_X6_66 rfl rfl (q_lt hs (by decide)) (sh_12_25 hs) ?_
    refine r_iload C rfl dX6_stop_89 ?_
    refine r_iald C ((och (dXY X Y) mm (i + 1)).2) h4' (by omega) dX6_stop_91 rfl (q_lt hs (by decide)) ?_
    exact r_iret C dX6_stop_92 rfl hF rfl rfl
  | succ k ih =>
    intro j x3 x4 x5 hjk h5 h3 h4 hz
    have hji : j ≤ i := by omega
    have oz := och_nz (D := dXY X Y) (show j < mm by omega)
    obtain ⟨o1, -, o3⟩ := och_f (D := dXY X Y) (m := mm) j (by omega)
    have es := och_s (D := dXY X Y) (m := mm) (i := j)
    have ht := hal.ls (r := (och (dXY X Y) mm j).1) (by omega)
    obtain ⟨-, -, n1, n2⟩ := nx_mu (D := dXY X Y) (k := (och (dXY X Y) mm j).2) oz o1
    have e1 : (och (dXY X Y) mm (j + 1)).1 = (och (dXY X Y) mm j).1 - 2 ^ nx (dXY X Y) mm (och (dXY X Y) mm j).1 (och (dXY X Y) mm j).2 := by rw [es]
    have e2 : (och (dXY X Y) mm (j + 1)).2 = nx (dXY X Y) mm (och (dXY X Y) mm j).1 (och (dXY X Y) mm j).2 := by rw [es]
    have hfn := sp_nx G hs g oz o1 ht x4 x3 h4 h3
    generalize hj0 : nx (dXY X Y) mm (och (dXY X Y) mm j).1 (och (dXY X Y) mm j).2 = jj at *
    have hj1 : (kI jj).toInt = (jj : Int) := kI_t (by omega)
    refine r_iload C rfl dX6_stop_55 ?_
    refine r_iload_n C rfl dX6_stop_57 ?_
    refine t_icmp_gt C 85 (by decide) rfl hw dX6_stop_58 (fun c58 => absurd c58 (by omega)) (fun c58 => ?_)
    refine r_aload_n C rfl rfl dX6_stop_61 ?_
    refine r_iload C rfl dX6_stop_62 ?_
    refine r_iload_n C rfl dX6_stop_64 ?_
    refine r_callV C hfn kv_X6_nextOf kn_X6_nextOf rfl dX6_stop_65 cl_X6_170 ⟨Nat.le_of_ble_eq_true rfl, Nat.le_of_ble_eq_true rfl⟩ (by decide) rfl rfl (q_lt hs (by decide)) hF rfl (Nat.le_of_ble_eq_true rfl) ?_
    refine r_istore C rfl (Nat.le_of_ble_eq_true rfl) dX6_stop_68 ?_
    refine r_iload_n C rfl dX6_stop_70 ?_
    refine r_iconstv C 1 rfl dX6_stop_71 ?_
    refine r_iload C rfl dX6_stop_72 ?_
    refine r_ishl C dX6_stop_74 ?_
    refine r_iconstv C (-1) rfl dX6_stop_75 ?_
    refine r_ixor C dX6_stop_76 ?_
    refine r_iand C dX6_stop_77 ?_
    refine r_istore_n C rfl (Nat.le_of_ble_eq_true rfl) dX6_stop_78 ?_
    refine r_iinc C rfl rfl (Nat.le_of_ble_eq_true rfl) dX6_stop_79 ?_
    refine r_goto C 55 (by decide) dX6_stop_82 ?_
    exact ih (j + 1) _ _ _ (by omega) (by have t := tA h5 (show (Int32.ofInt 1).toInt = 1 from rfl) (by omega); omega) (by rw [e1]; exact tClr h3 hj1 (by omega) n2) (Or.inr ⟨by rw [e2]; exact hj1, by rw [e2]; exact n1⟩) (fun _ => by rw [e2]; exact n1)

set_option maxHeartbeats 4000000 in
set_option maxRecDepth 100000 in
theorem m_stop (G : oG) {h : oH} (hs : oSh h) (x w : Int32) {h1 : oH} (hsp : oSp G mX6_isSet [.ref 12, .int x] (sI h 12 0 0) (some (.int 1)) h1) (hn1 : h1.1 = h.1) (hs1 : oSh h1) {mm : Nat} {ll : List Nat} {X Y : Nat → Int} (g : gM h1 mm ll X Y) {i : Nat} (hw : w.toInt = (i : Int)) (him : i < mm) : oSp G mX6_stop [.ref 12, .int x, .int w] h (some (.int (hI (fuH h1 X Y mm) 27 (och (dXY X Y) mm (i + 1)).2))) (fuH h1 X Y mm) := by
  have g8 := g.2.1
  have hm0 : 1 ≤ mm := by omega
  refine oSp.intro [some (.ref 12), some (.int x), some (.int w), none, none, none] rfl (Nat.le_of_ble_eq_true rfl) (plainFor_of_name (by decide +kernel)) (by rw [fpH_n, hn1]; exact Nat.le_refl _) ?_
  intro p l e R s m args below meth c C
  refine r_aload_n C rfl rfl dX6_stop_0 ?_
  refine r_iconstv C 0 rfl dX6_stop_1 ?_
  refine r_putI C dX6_stop_2 fl_X6_90 rfl (q_lt hs (by decide)) (Or.inl rfl) ?_
  refine r_aload_n C rfl rfl dX6_stop_5 ?_
  refine r_iload_n C rfl dX6_stop_6 ?_
  refine r_callV C hsp kv_X6_isSet kn_X6_isSet rfl dX6_stop_7 cl_X6_162 ⟨Nat.le_of_ble_eq_true rfl, Nat.le_of_ble_eq_true rfl⟩ (by decide) rfl rfl (q_lt hs (by decide)) (by rw [fpH_n]; exact Nat.le_refl _) rfl (Nat.le_of_ble_eq_true rfl) ?_
  refine t_if_ne C 16 (by decide) (show (1 : Int32).toInt = 1 from rfl) dX6_stop_10 (fun c10 => ?_) (fun c10 => absurd c10 (by decide))
  refine r_iload_n C rfl dX6_stop_16 ?_
  refine r_i2l C dX6_stop_17 ?_
  refine r_lconst C 0 rfl dX6_stop_18 ?_
  have hs := hs1
  refine r_aload_n C rfl rfl dX6_stop_19 ?_
  refine r_getI C dX6_stop_20 fl_X6_150 rfl (q_lt hs (by decide)) ?_
  refine r_iconstv C 1 rfl dX6_stop_23 ?_
  refine r_isub C dX6_stop_24 ?_
  refine r_i2l C dX6_stop_25 ?_
  refine r_callS C (sp_in G (tI2L hw) (show (0 : Int64).toInt = 0 from rfl) (tI2L (tS g.1 (show (1 : Int32).toInt = 1 from rfl) (by omega)))) ks_X6_in kn_X6_in rfl dX6_stop_26 cl_X6_96 ⟨Nat.le_of_ble_eq_true rfl, Nat.le_of_ble_eq_true rfl⟩ (by rw [fpH_n]; exact Nat.le_refl _) rfl (Nat.le_of_ble_eq_true rfl) ?_
  refine t_ifb_ne C 35 (by decide) dX6_stop_29 (fun c29 => ?_) (fun c29 => ?_)
  · first
    | (exfalso; omega)
    |  (have hs := hs1
        refine r_aload_n C rfl rfl dX6_stop_35 ?_
        refine r_callV C (sp_fw G hs1 g) kv_X6_findWays kn_X6_findWays rfl dX6_stop_36 cl_X6_167 ⟨Nat.le_of_ble_eq_true rfl, Nat.le_of_ble_eq_true rfl⟩ (by decide) rfl rfl (q_lt hs (by decide)) (Nat.le_refl _) rfl (Nat.le_of_ble_eq_true rfl) ?_
        have g8 := g.2.1
        have pz := pw_pos mm
        have p8 : 2 ^ mm ≤ 256 := Nat.pow_le_pow_right (n := 2) (by decide) g8
        have p2 : 2 ≤ 2 ^ mm := Nat.pow_le_pow_right (n := 2) (by decide) hm0
        have hq0 : 2 ^ mm - 1 ≠ 0 := by omega
        have hq : 2 ^ mm - 1 < 2 ^ mm := by omega
        have g := gM_fp (D := dXY X Y) (q := 2 ^ mm) g
        have hs : oSh (fuH h1 X Y mm) := sh_fp hs1
        have hal := fpH_am (h := h1) g8 g.2.2.1 p8
        have ht := hal.ls (r := 2 ^ mm - 1) (by omega)
        have hfu : (hI (fuH h1 X Y mm) 12 26).toInt = (mm : Int) := g.1
        have hsh : ((1 : Int32) <<< (hI (fuH h1 X Y mm) 12 26 &&& 31) - 1).toInt = ((2 ^ mm - 1 : Nat) : Int) := by rw [tS (tShl hfu (by omega)) (show (1 : Int32).toInt = 1 from rfl) (by omega)]; omega
        refine r_iconstv C 1 rfl dX6_stop_39 ?_
        refine r_aload_n C rfl rfl dX6_stop_40 ?_
        refine r_getI C dX6_stop_41 fl_X6_150 rfl (q_lt hs (by decide)) ?_
        refine r_ishl C dX6_stop_44 ?_
        refine r_iconstv C 1 rfl dX6_stop_45 ?_
        refine r_isub C dX6_stop_46 ?_
        refine r_istore_n C rfl (Nat.le_of_ble_eq_true rfl) dX6_stop_47 ?_
        refine r_ldc C _ lc_X6_145 dX6_stop_48 ?_
        refine r_istore C rfl (Nat.le_of_ble_eq_true rfl) dX6_stop_50 ?_
        refine r_iconstv C 0 rfl dX6_stop_52 ?_
        refine r_istore C rfl (Nat.le_of_ble_eq_true rfl) dX6_stop_53 ?_
        exact lp_st G hs g hw him hal C (Nat.le_refl _) (i + 1) 0 _ _ _ (by omega) rfl hsh (Or.inl ⟨rfl, rfl⟩) (fun q => nomatch q))
  · first
    | (exfalso; omega)
    |  (refine r_ldc C _ lc_X6_145 dX6_stop_32 ?_
        exact r_iret C dX6_stop_34 rfl (by rw [fpH_n]; exact Nat.le_refl _) rfl rfl)

