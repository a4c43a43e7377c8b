/-! calls, the reference, and the case -/
set_option maxHeartbeats 4000000 in
set_option maxRecDepth 100000 in
theorem lp_muM (G : oG) {p : Program} {l : Launch} {e : Env} {R : Room} {s : State} {m : MethodId} {args : Array Value} {below : List Frame} {meth : Method} {c : Code} {n0 nF : Nat} {Z : State → Prop} {h : oH} (hs : oSh h) {n : Nat} (hn : (hI h 12 1).toInt = (n : Int)) (hn24 : n ≤ 24) {K : Nat} {x1 x2 x3 x4 x5 : Int32} (hx1 : x1.toInt = (K : Int)) (C : oC G mX6_calls n0 nF p l R s m args meth c) (hF : h.1 ≤ nF) (kont : ∀ x y : Int32, mu2 (muM h n K) x → oS G mX6_calls p l e R s m args below meth c (Z) n0 92 [some (.ref 12), some (.int x1), some (.int x2), some (.int x3), some (.int x4), some (.int x5), some (.int x), some (.int y)] [] h) : ∀ (k i : Nat) (x z : Int32), i + k = n → z.toInt = (i : Int) → mu2 (muF (dM h) (pMu h K) i) x → oS G mX6_calls p l e R s m args below meth c (Z) n0 33 [some (.ref 12), some (.int x1), some (.int x2), some (.int x3), some (.int x4), some (.int x5), some (.int x), some (.int z)] [] h := by
  intro k
  induction k with
  | zero =>
    intro i x z hik hz hm
    have hin : i = n := by omega
    subst hin
    refine r_iload C rfl dX6_calls_33 ?_
    refine r_aload_n C rfl rfl dX6_calls_35 ?_
    refine r_getI C dX6_calls_36 fl_X6_93 rfl (q_lt hs (by decide)) ?_
    refine t_icmp_ge C 92 (by decide) hz hn dX6_calls_39 (fun c39 => ?_) (fun c39 => absurd c39 (by omega))
    exact kont _ _ hm
  | succ k ih =>
    intro i x z hik hz hm
    cases q : muF (dM h) (pMu h K) i with
    | none =>
      have hx : x.toInt = -1000000 := by rw [q] at hm; exact hm
      refine r_iload C rfl dX6_calls_33 ?_
      refine r_aload_n C rfl rfl dX6_calls_35 ?_
      refine r_getI C dX6_calls_36 fl_X6_93 rfl (q_lt hs (by decide)) ?_
      refine t_icmp_ge C 92 (by decide) hz hn dX6_calls_39 (fun c39 => absurd c39 (by omega)) (fun c39 => ?_)
      refine r_aload_n C rfl rfl dX6_calls_42 ?_
      refine r_iload C rfl dX6_calls_43 ?_
      refine r_callV C (sp_isDueM G (by exact hs) _ hz (by omega)) kv_X6_isDue kn_X6_isDue rfl dX6_calls_45 cl_X6_125 ⟨Nat.le_of_ble_eq_true rfl, Nat.le_of_ble_eq_true rfl⟩ (by decide) rfl rfl (q_lt hs (by decide)) hF rfl (Nat.le_of_ble_eq_true rfl) ?_
      refine t_ifb_eq C 86 (by decide) dX6_calls_48 (fun c48 => ?_) (fun c48 => ?_)
      · refine r_iinc C rfl rfl (Nat.le_of_ble_eq_true rfl) dX6_calls_86 ?_
        refine r_goto C 33 (by decide) dX6_calls_89 ?_
        exact ih (i + 1) _ _ (by omega) (by have t := tA hz (show (Int32.ofInt 1).toInt = 1 from rfl) (by omega); omega) (by first | (rw [muF_0 (pM_2 (by assumption)), q]; exact hx) | (rw [muF_0 (pM_1 (bit_m hx1 hz (by omega) c57)), q]; exact hx) | (rw [muF_1 (pM_t (by assumption) (bit_z hx1 hz (by omega) c57)) q]; exact hz))
      · refine r_iload_n C rfl dX6_calls_51 ?_
        refine r_iload C rfl dX6_calls_52 ?_
        refine r_ishr C dX6_calls_54 ?_
        refine r_iconstv C 1 rfl dX6_calls_55 ?_
        refine r_iand C dX6_calls_56 ?_
        refine t_if_ne C 86 (by decide) rfl dX6_calls_57 (fun c57 => ?_) (fun c57 => ?_)
        · refine r_iinc C rfl rfl (Nat.le_of_ble_eq_true rfl) dX6_calls_86 ?_
          refine r_goto C 33 (by decide) dX6_calls_89 ?_
          exact ih (i + 1) _ _ (by omega) (by have t := tA hz (show (Int32.ofInt 1).toInt = 1 from rfl) (by omega); omega) (by first | (rw [muF_0 (pM_2 (by assumption)), q]; exact hx) | (rw [muF_0 (pM_1 (bit_m hx1 hz (by omega) c57)), q]; exact hx) | (rw [muF_1 (pM_t (by assumption) (bit_z hx1 hz (by omega) c57)) q]; exact hz))
        · refine r_iload C rfl dX6_calls_60 ?_
          refine r_ldc C _ lc_X6_145 dX6_calls_62 ?_
          refine t_icmp_eq C 82 (by decide) hx (show ((-1000000) : Int32).toInt = (-1000000) from rfl) dX6_calls_64 (fun c64 => ?_) (fun c64 => absurd rfl c64)
          refine r_iload C rfl dX6_calls_82 ?_
          refine r_istore C rfl (Nat.le_of_ble_eq_true rfl) dX6_calls_84 ?_
          refine r_iinc C rfl rfl (Nat.le_of_ble_eq_true rfl) dX6_calls_86 ?_
          refine r_goto C 33 (by decide) dX6_calls_89 ?_
          exact ih (i + 1) _ _ (by omega) (by have t := tA hz (show (Int32.ofInt 1).toInt = 1 from rfl) (by omega); omega) (by first | (rw [muF_0 (pM_2 (by assumption)), q]; exact hx) | (rw [muF_0 (pM_1 (bit_m hx1 hz (by omega) c57)), q]; exact hx) | (rw [muF_1 (pM_t (by assumption) (bit_z hx1 hz (by omega) c57)) q]; exact hz))
    | some b =>
      have hx : x.toInt = (b : Int) := by rw [q] at hm; exact hm
      have hb := (muF_lt i q).1
      refine r_iload C rfl dX6_calls_33 ?_
      refine r_aload_n C rfl rfl dX6_calls_35 ?_
      refine r_getI C dX6_calls_36 fl_X6_93 rfl (q_lt hs (by decide)) ?_
      refine t_icmp_ge C 92 (by decide) hz hn dX6_calls_39 (fun c39 => absurd c39 (by omega)) (fun c39 => ?_)
      refine r_aload_n C rfl rfl dX6_calls_42 ?_
      refine r_iload C rfl dX6_calls_43 ?_
      refine r_callV C (sp_isDueM G (by exact hs) _ hz (by omega)) kv_X6_isDue kn_X6_isDue rfl dX6_calls_45 cl_X6_125 ⟨Nat.le_of_ble_eq_true rfl, Nat.le_of_ble_eq_true rfl⟩ (by decide) rfl rfl (q_lt hs (by decide)) hF rfl (Nat.le_of_ble_eq_true rfl) ?_
      refine t_ifb_eq C 86 (by decide) dX6_calls_48 (fun c48 => ?_) (fun c48 => ?_)
      · refine r_iinc C rfl rfl (Nat.le_of_ble_eq_true rfl) dX6_calls_86 ?_
        refine r_goto C 33 (by decide) dX6_calls_89 ?_
        exact ih (i + 1) _ _ (by omega) (by have t := tA hz (show (Int32.ofInt 1).toInt = 1 from rfl) (by omega); omega) (by first | (rw [muF_0 (pM_2 (by assumption)), q]; exact hx) | (rw [muF_0 (pM_1 (bit_m hx1 hz (by omega) c57)), q]; exact hx) | (rw [muF_2 (pM_t (by assumption) (bit_z hx1 hz (by omega) c57)) q, if_pos (by omega)]; exact hz) | (rw [muF_2 (pM_t (by assumption) (bit_z hx1 hz (by omega) c57)) q, if_neg (by omega)]; exact hx))
      · refine r_iload_n C rfl dX6_calls_51 ?_
        refine r_iload C rfl dX6_calls_52 ?_
        refine r_ishr C dX6_calls_54 ?_
        refine r_iconstv C 1 rfl dX6_calls_55 ?_
        refine r_iand C dX6_calls_56 ?_
        refine t_if_ne C 86 (by decide) rfl dX6_calls_57 (fun c57 => ?_) (fun c57 => ?_)
        · refine r_iinc C rfl rfl (Nat.le_of_ble_eq_true rfl) dX6_calls_86 ?_
          refine r_goto C 33 (by decide) dX6_calls_89 ?_
          exact ih (i + 1) _ _ (by omega) (by have t := tA hz (show (Int32.ofInt 1).toInt = 1 from rfl) (by omega); omega) (by first | (rw [muF_0 (pM_2 (by assumption)), q]; exact hx) | (rw [muF_0 (pM_1 (bit_m hx1 hz (by omega) c57)), q]; exact hx) | (rw [muF_2 (pM_t (by assumption) (bit_z hx1 hz (by omega) c57)) q, if_pos (by omega)]; exact hz) | (rw [muF_2 (pM_t (by assumption) (bit_z hx1 hz (by omega) c57)) q, if_neg (by omega)]; exact hx))
        · refine r_iload C rfl dX6_calls_60 ?_
          refine r_ldc C _ lc_X6_145 dX6_calls_62 ?_
          refine t_icmp_eq C 82 (by decide) hx (show ((-1000000) : Int32).toInt = (-1000000) from rfl) dX6_calls_64 (fun c64 => absurd c64 (by omega)) (fun c64 => ?_)
          refine r_aload_n C rfl rfl dX6_calls_67 ?_
          refine r_iload C rfl dX6_calls_68 ?_
          refine r_callV C (sp_canGo G (by exact hs) _ hz (by omega)) kv_X6_canGo kn_X6_canGo rfl dX6_calls_70 cl_X6_146 ⟨Nat.le_of_ble_eq_true rfl, Nat.le_of_ble_eq_true rfl⟩ (by decide) rfl rfl (q_lt hs (by decide)) hF rfl (Nat.le_of_ble_eq_true rfl) ?_
          refine r_aload_n C rfl rfl dX6_calls_73 ?_
          refine r_iload C rfl dX6_calls_74 ?_
          refine r_callV C (sp_canGo G (by exact hs) _ hx (by omega)) kv_X6_canGo kn_X6_canGo rfl dX6_calls_76 cl_X6_146 ⟨Nat.le_of_ble_eq_true rfl, Nat.le_of_ble_eq_true rfl⟩ (by decide) rfl rfl (q_lt hs (by decide)) hF rfl (Nat.le_of_ble_eq_true rfl) ?_
          refine t_icmp_ge C 86 (by decide) (show _ = dM h i from rfl) (show _ = dM h b from rfl) dX6_calls_79 (fun c79 => ?_) (fun c79 => ?_)
          · refine r_iinc C rfl rfl (Nat.le_of_ble_eq_true rfl) dX6_calls_86 ?_
            refine r_goto C 33 (by decide) dX6_calls_89 ?_
            exact ih (i + 1) _ _ (by omega) (by have t := tA hz (show (Int32.ofInt 1).toInt = 1 from rfl) (by omega); omega) (by first | (rw [muF_0 (pM_2 (by assumption)), q]; exact hx) | (rw [muF_0 (pM_1 (bit_m hx1 hz (by omega) c57)), q]; exact hx) | (rw [muF_2 (pM_t (by assumption) (bit_z hx1 hz (by omega) c57)) q, if_pos (by omega)]; exact hz) | (rw [muF_2 (pM_t (by assumption) (bit_z hx1 hz (by omega) c57)) q, if_neg (by omega)]; exact hx))
          · refine r_iload C rfl dX6_calls_82 ?_
            refine r_istore C rfl (Nat.le_of_ble_eq_true rfl) dX6_calls_84 ?_
            refine r_iinc C rfl rfl (Nat.le_of_ble_eq_true rfl) dX6_calls_86 ?_
            refine r_goto C 33 (by decide) dX6_calls_89 ?_
            exact ih (i + 1) _ _ (by omega) (by have t := tA hz (show (Int32.ofInt 1).toInt = 1 from rfl) (by omega); omega) (by first | (rw [muF_0 (pM_2 (by assumption)), q]; exact hx) | (rw [muF_0 (pM_1 (bit_m hx1 hz (by omega) c57)), q]; exact hx) | (rw [muF_2 (pM_t (by assumption) (bit_z hx1 hz (by omega) c57)) q, if_pos (by omega)]; exact hz) | (rw [muF_2 (pM_t (by assumption) (bit_z hx1 hz (by omega) c57)) q, if_neg (by omega)]; exact hx))

set_option maxHeartbeats 4000000 in
set_option maxRecDepth 100000 in
theorem lp_callsM (G : oG) {p : Program} {l : Launch} {e : Env} {R : Room} {s : State} {m : MethodId} {args : Array Value} {below : List Frame} {meth : Method} {c : Code} {n0 nF : Nat} {h : oH} (hs : oSh h) {n : Nat} (hn : (hI h 12 1).toInt = (n : Int)) (hn24 : n ≤ 24) (hN : ∀ b, b < n → 0 ≤ nM h b ∧ nM h b ≤ 5000) (hl : (hI h 12 20).toInt ≤ 9000) (C : oC G mX6_calls n0 nF p l R s m args meth c) (hF : h.1 ≤ nF) {r : Int32} : ∀ (k i K A z : Nat) (t : Int) (x1 x2 x3 x4 x5 : Int32) (t6 t7 : Option Value), i + k = n → x1.toInt = (K : Int) → x2.toInt = (A : Int) → x3.toInt = t → x4.toInt = (z : Int) → x5.toInt = (i : Int) → K < 16777216 → A < 16777216 → (0 ≤ t ∧ t ≤ 9000) → z ≤ 8 → r = kI (go (muM h n) (nM h) (hI h 12 20).toInt k K A t z) → oS G mX6_calls p l e R s m args below meth c (oZ G below args s n0 nF (some (.int r)) h) n0 17 [some (.ref 12), some (.int x1), some (.int x2), some (.int x3), some (.int x4), some (.int x5), t6, t7] [] h := by
  intro k
  induction k with
  | zero =>
    intro i K A z t x1 x2 x3 x4 x5 t6 t7 hik hx1 hx2 hx3 hx4 hx5 hK hA ht hz hr
    have hin : i = n := by omega
    subst hin
    refine r_iload C rfl dX6_calls_17 ?_
    refine r_aload_n C rfl rfl dX6_calls_19 ?_
    refine r_getI C dX6_calls_20 fl_X6_93 rfl (q_lt hs (by decide)) ?_
    refine t_icmp_ge C 164 (by decide) hx5 hn dX6_calls_23 (fun c23 => ?_) (fun c23 => absurd c23 (by omega))
    refine r_iload_n C rfl dX6_calls_164 ?_
    exact r_iret C dX6_calls_165 rfl hF (by rw [hr, kI_e hx2]; rfl) rfl
  | succ k ih =>
    intro i K A z t x1 x2 x3 x4 x5 t6 t7 hik hx1 hx2 hx3 hx4 hx5 hK hA ht hz hr
    refine r_iload C rfl dX6_calls_17 ?_
    refine r_aload_n C rfl rfl dX6_calls_19 ?_
    refine r_getI C dX6_calls_20 fl_X6_93 rfl (q_lt hs (by decide)) ?_
    refine t_icmp_ge C 164 (by decide) hx5 hn dX6_calls_23 (fun c23 => absurd c23 (by omega)) (fun c23 => ?_)
    refine r_ldc C _ lc_X6_145 dX6_calls_26 ?_
    refine r_istore C rfl (Nat.le_of_ble_eq_true rfl) dX6_calls_28 ?_
    refine r_iconstv C 0 rfl dX6_calls_30 ?_
    refine r_istore C rfl (Nat.le_of_ble_eq_true rfl) dX6_calls_31 ?_
    refine lp_muM G hs hn hn24 hx1 C hF (fun w y hw => ?_) n 0 _ _ (by omega) rfl (by show _ = _; rfl)
    cases hm : muM h n K with
    | none =>
      have hw0 : w.toInt = -1000000 := by rw [hm] at hw; exact hw
      refine r_iload C rfl dX6_calls_92 ?_
      refine r_ldc C _ lc_X6_145 dX6_calls_94 ?_
      refine t_icmp_ne C 101 (by decide) hw0 (show ((-1000000) : Int32).toInt = (-1000000) from rfl) dX6_calls_96 (fun c96 => absurd rfl c96) (fun c96 => ?_)
      refine r_iload_n C rfl dX6_calls_99 ?_
      exact r_iret C dX6_calls_100 rfl hF (by rw [hr, kI_e hx2, go_no hm]) rfl
    | some b =>
      have hwb : w.toInt = (b : Int) := by rw [hm] at hw; exact hw
      have hb := (muM_p hm).1
      have hbK := (muM_p hm).2
      have nb := hN b hb
      have e8 : (x3 + (hI h 15 b - hI h 18 b)).toInt = t + nM h b := tA hx3 (show (hI h 15 b - hI h 18 b).toInt = nM h b from rfl) (by omega)
      refine r_iload C rfl dX6_calls_92 ?_
      refine r_ldc C _ lc_X6_145 dX6_calls_94 ?_
      refine t_icmp_ne C 101 (by decide) hwb (show ((-1000000) : Int32).toInt = (-1000000) from rfl) dX6_calls_96 (fun c96 => ?_) (fun c96 => absurd c96 (by omega))
      refine r_iload_n C rfl dX6_calls_101 ?_
      refine r_iconstv C 1 rfl dX6_calls_102 ?_
      refine r_iload C rfl dX6_calls_103 ?_
      refine r_ishl C dX6_calls_105 ?_
      refine r_ior C dX6_calls_106 ?_
      refine r_istore_n C rfl (Nat.le_of_ble_eq_true rfl) dX6_calls_107 ?_
      refine r_aload_n C rfl rfl dX6_calls_108 ?_
      refine r_getO C dX6_calls_109 fl_X6_16 rfl rfl (q_lt hs (by decide)) (sh_12_4 hs) ?_
      refine r_iload C rfl dX6_calls_112 ?_
      refine r_iald C (b) (by have t := hwb; omega) (by omega) dX6_calls_114 rfl (q_lt hs (by decide)) ?_
      refine r_aload_n C rfl rfl dX6_calls_115 ?_
      refine r_getO C dX6_calls_116 fl_X6_25 rfl rfl (q_lt hs (by decide)) (sh_12_7 hs) ?_
      refine r_iload C rfl dX6_calls_119 ?_
      refine r_iald C (b) (by have t := hwb; omega) (by omega) dX6_calls_121 rfl (q_lt hs (by decide)) ?_
      refine r_isub C dX6_calls_122 ?_
      refine r_istore C rfl (Nat.le_of_ble_eq_true rfl) dX6_calls_123 ?_
      refine r_iload C rfl dX6_calls_125 ?_
      refine r_bipush C 8 rfl dX6_calls_127 ?_
      refine t_icmp_ge C 158 (by decide) hx4 (show (8 : Int32).toInt = 8 from rfl) dX6_calls_129 (fun c129 => ?_) (fun c129 => ?_)
      · refine r_iinc C rfl rfl (Nat.le_of_ble_eq_true rfl) dX6_calls_158 ?_
        refine r_goto C 17 (by decide) dX6_calls_161 ?_
        first | exact ih (i + 1) _ _ z _ _ _ _ _ _ _ _ (by omega) (tSet hx1 hwb (by omega)) hx2 hx3 hx4 (by have t := tA hx5 (show (Int32.ofInt 1).toInt = 1 from rfl) (by omega); omega) (orLt (n := 24) hK (by omega)) hA ht hz (by rw [hr, go_out hm (fun q => by omega)]) | exact ih (i + 1) _ _ (z + 1) _ _ _ _ _ _ _ _ (by omega) (tSet hx1 hwb (by omega)) (tSet hx2 hwb (by omega)) (tA hx3 (show (hI h 15 b - hI h 18 b).toInt = nM h b from rfl) (by omega)) (by have t := tA hx4 (show (Int32.ofInt 1).toInt = 1 from rfl) (by omega); omega) (by have t := tA hx5 (show (Int32.ofInt 1).toInt = 1 from rfl) (by omega); omega) (orLt (n := 24) hK (by omega)) (orLt (n := 24) hA (by omega)) (by omega) (by omega) (by rw [hr, go_in hm ⟨by omega, by omega⟩])
      · refine r_iload_n C rfl dX6_calls_132 ?_
        refine r_iload C rfl dX6_calls_133 ?_
        refine r_iadd C dX6_calls_135 ?_
        refine r_aload_n C rfl rfl dX6_calls_136 ?_
        refine r_getI C dX6_calls_137 fl_X6_60 rfl (q_lt hs (by decide)) ?_
        refine t_icmp_gt C 158 (by decide) rfl rfl dX6_calls_140 (fun c140 => ?_) (fun c140 => ?_)
        · refine r_iinc C rfl rfl (Nat.le_of_ble_eq_true rfl) dX6_calls_158 ?_
          refine r_goto C 17 (by decide) dX6_calls_161 ?_
          first | exact ih (i + 1) _ _ z _ _ _ _ _ _ _ _ (by omega) (tSet hx1 hwb (by omega)) hx2 hx3 hx4 (by have t := tA hx5 (show (Int32.ofInt 1).toInt = 1 from rfl) (by omega); omega) (orLt (n := 24) hK (by omega)) hA ht hz (by rw [hr, go_out hm (fun q => by omega)]) | exact ih (i + 1) _ _ (z + 1) _ _ _ _ _ _ _ _ (by omega) (tSet hx1 hwb (by omega)) (tSet hx2 hwb (by omega)) (tA hx3 (show (hI h 15 b - hI h 18 b).toInt = nM h b from rfl) (by omega)) (by have t := tA hx4 (show (Int32.ofInt 1).toInt = 1 from rfl) (by omega); omega) (by have t := tA hx5 (show (Int32.ofInt 1).toInt = 1 from rfl) (by omega); omega) (orLt (n := 24) hK (by omega)) (orLt (n := 24) hA (by omega)) (by omega) (by omega) (by rw [hr, go_in hm ⟨by omega, by omega⟩])
        · refine r_iload_n C rfl dX6_calls_143 ?_
          refine r_iconstv C 1 rfl dX6_calls_144 ?_
          refine r_iload C rfl dX6_calls_145 ?_
          refine r_ishl C dX6_calls_147 ?_
          refine r_ior C dX6_calls_148 ?_
          refine r_istore_n C rfl (Nat.le_of_ble_eq_true rfl) dX6_calls_149 ?_
          refine r_iload_n C rfl dX6_calls_150 ?_
          refine r_iload C rfl dX6_calls_151 ?_
          refine r_iadd C dX6_calls_153 ?_
          refine r_istore_n C rfl (Nat.le_of_ble_eq_true rfl) dX6_calls_154 ?_
          refine r_iinc C rfl rfl (Nat.le_of_ble_eq_true rfl) dX6_calls_155 ?_
          refine r_iinc C rfl rfl (Nat.le_of_ble_eq_true rfl) dX6_calls_158 ?_
          refine r_goto C 17 (by decide) dX6_calls_161 ?_
          first | exact ih (i + 1) _ _ z _ _ _ _ _ _ _ _ (by omega) (tSet hx1 hwb (by omega)) hx2 hx3 hx4 (by have t := tA hx5 (show (Int32.ofInt 1).toInt = 1 from rfl) (by omega); omega) (orLt (n := 24) hK (by omega)) hA ht hz (by rw [hr, go_out hm (fun q => by omega)]) | exact ih (i + 1) _ _ (z + 1) _ _ _ _ _ _ _ _ (by omega) (tSet hx1 hwb (by omega)) (tSet hx2 hwb (by omega)) (tA hx3 (show (hI h 15 b - hI h 18 b).toInt = nM h b from rfl) (by omega)) (by have t := tA hx4 (show (Int32.ofInt 1).toInt = 1 from rfl) (by omega); omega) (by have t := tA hx5 (show (Int32.ofInt 1).toInt = 1 from rfl) (by omega); omega) (orLt (n := 24) hK (by omega)) (orLt (n := 24) hA (by omega)) (by omega) (by omega) (by rw [hr, go_in hm ⟨by omega, by omega⟩])

set_option maxHeartbeats 4000000 in
set_option maxRecDepth 100000 in
theorem sp_callsM (G : oG) {h : oH} (hs : oSh h) {n : Nat} (hn : (hI h 12 1).toInt = (n : Int)) (hn24 : n ≤ 24) (hN : ∀ b, b < n → 0 ≤ nM h b ∧ nM h b ≤ 5000) (hl : (hI h 12 20).toInt ≤ 9000) : oSp G mX6_calls [.ref 12] h (some (.int (kI (go (muM h n) (nM h) (hI h 12 20).toInt n 0 0 0 0)))) (sI h 12 0 0) := by
  refine oSp.intro [some (.ref 12), none, none, none, none, none, none, none] rfl (Nat.le_of_ble_eq_true rfl) (plainFor_of_name (by decide +kernel)) (Nat.le_refl _) ?_
  intro p l e R s m args below meth c C
  refine r_aload_n C rfl rfl dX6_calls_0 ?_
  refine r_iconstv C 0 rfl dX6_calls_1 ?_
  refine r_putI C dX6_calls_2 fl_X6_90 rfl (q_lt hs (by decide)) (Or.inl rfl) ?_
  refine r_iconstv C 0 rfl dX6_calls_5 ?_
  refine r_istore_n C rfl (Nat.le_of_ble_eq_true rfl) dX6_calls_6 ?_
  refine r_iconstv C 0 rfl dX6_calls_7 ?_
  refine r_istore_n C rfl (Nat.le_of_ble_eq_true rfl) dX6_calls_8 ?_
  refine r_iconstv C 0 rfl dX6_calls_9 ?_
  refine r_istore_n C rfl (Nat.le_of_ble_eq_true rfl) dX6_calls_10 ?_
  refine r_iconstv C 0 rfl dX6_calls_11 ?_
  refine r_istore C rfl (Nat.le_of_ble_eq_true rfl) dX6_calls_12 ?_
  refine r_iconstv C 0 rfl dX6_calls_14 ?_
  refine r_istore C rfl (Nat.le_of_ble_eq_true rfl) dX6_calls_15 ?_
  exact lp_callsM G (h := sI h 12 0 0) (by exact hs) (by exact hn) hn24 hN hl C (Nat.le_refl _) n 0 0 0 0 0 _ _ _ _ _ _ _ (by omega) rfl rfl rfl rfl rfl (by decide) (by decide) (by decide) (by decide) rfl

set_option maxHeartbeats 4000000 in
set_option maxRecDepth 100000 in
theorem case_calls (G : oG) {h : oH} {n T : Nat} (I : Inv h n T)  : Case G mX5_calls mX6_calls [] h n T := by
  obtain ⟨⟨a1, a2, a3⟩, ⟨b1, b2, b3⟩, ⟨c1, c2, c3⟩, ⟨d1, d2, d3⟩, ⟨e1, e2, e3⟩, ⟨f1, f2, f3⟩, g1, g2, g3⟩ := id I.2.2.1
  have hs := I.1.1
  have hh := I.1
  have h24 := hh.2.2.1
  have hN : ∀ b, b < n → 0 ≤ nM h b ∧ nM h b ≤ 5000 := fun b hb => by
    obtain ⟨-, -, h15, -, -, -, h18, -⟩ := (I.2.2.2.1 b hb).2
    unfold nM
    rw [tS rfl rfl (by omega)]
    omega
  have hE : ∀ b, b < n → nC h b = nM h b := fun b hb => by
    obtain ⟨-, -, q2, -, -, -, -, -, q9, -⟩ := (I.2.2.2.1 b hb).1
    unfold nC nM
    rw [q2, q9]
  have hD : ∀ b, b < n → dC h b = dM h b := fun b hb => by
    obtain ⟨-, -, -, -, -, q6, q7, -, q9, -⟩ := (I.2.2.2.1 b hb).1
    obtain ⟨-, -, -, l1, l2, -, -, -⟩ := (I.2.2.2.1 b hb).2
    have hH : 0 ≤ (hI h 16 (4 * b + 2) + hI h 16 (4 * b + 3) * hI h 12 18).toInt := by
      have m1 : 0 ≤ (hI h 16 (4 * b + 3)).toInt * (hI h 12 18).toInt := Int.mul_nonneg (by omega) c2
      have m2 : (hI h 16 (4 * b + 3)).toInt * (hI h 12 18).toInt ≤ 50 * 40 := Int.mul_le_mul (by omega) c3 c2 (by decide)
      have t := tM (a := hI h 16 (4 * b + 3)) (b := hI h 12 18) rfl rfl (by omega)
      rw [tA rfl t (by omega)]
      omega
    unfold dC dM dtg canM
    rw [q6, q7, q9, c1]
    generalize hI h 16 (4 * b + 2) + hI h 16 (4 * b + 3) * hI h 12 18 = H at hH
    (repeat' split) <;> first | rfl | omega
  have hP : ∀ K b, b < n → pCu h n K b = pMu h K b := fun K b hb => by
    have e := due_iff (h := h) (h' := h) (I.2.2.2.1 b hb).1 b1 c1 (fun _ => rfl)
    unfold pCu pMu
    rw [show decide (b < n ∧ dueC h b) = decide (dueP h b) from decide_eq_decide.mpr ⟨fun q => e.mp q.2, fun q => ⟨hb, e.mpr q⟩⟩]
  have hM : ∀ K, muC h n K = muM h n K := fun K => muF_co n (fun j hj => ⟨hD j hj, hP K j hj⟩)
  have hl : (hI h 0 8).toInt = (hI h 12 20).toInt := by rw [d1]
  refine case_same G I (sp_callsC G hh (fun b hb => by rw [hE b hb]; exact hN b hb) (by omega)) (sp_callsM G hs I.2.1.2 h24 hN d3) ?_
  rw [hl, go_f (n := n) (fun K b q => muC_p q) 24 n 0 0 0 0 (Nat.le_trans (unC_le 0 n) h24) (unC_le 0 n)]
  rw [go_co (n := n) hM (fun K b q => hE b (muM_p q).1)]

