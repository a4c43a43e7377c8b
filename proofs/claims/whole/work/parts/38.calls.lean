/-! who is called -/
def go (mu : Nat → Option Nat) (N : Nat → Int) (lo : Int) : Nat → Nat → Nat → Int → Nat → Nat
  | 0, _, A, _, _ => A
  | f + 1, K, A, t, z => match mu K with
    | none => A
    | some b => if z < 8 ∧ t + N b ≤ lo then go mu N lo f (K ||| 2 ^ b) (A ||| 2 ^ b) (t + N b) (z + 1) else go mu N lo f (K ||| 2 ^ b) A t z
theorem go_no {mu : Nat → Option Nat} {N : Nat → Int} {lo : Int} {f K A : Nat} {t : Int} {z : Nat} (h : mu K = none) : go mu N lo f K A t z = A := by
  cases f with
  | zero => rfl
  | succ f =>
    unfold go
    rw [h]
theorem go_in {mu : Nat → Option Nat} {N : Nat → Int} {lo : Int} {f K A b : Nat} {t : Int} {z : Nat} (h : mu K = some b) (q : z < 8 ∧ t + N b ≤ lo) : go mu N lo (f + 1) K A t z = go mu N lo f (K ||| 2 ^ b) (A ||| 2 ^ b) (t + N b) (z + 1) := by
  show (match mu K with | none => A | some b => _) = _
  rw [h]
  exact if_pos q
theorem go_out {mu : Nat → Option Nat} {N : Nat → Int} {lo : Int} {f K A b : Nat} {t : Int} {z : Nat} (h : mu K = some b) (q : ¬ (z < 8 ∧ t + N b ≤ lo)) : go mu N lo (f + 1) K A t z = go mu N lo f (K ||| 2 ^ b) A t z := by
  show (match mu K with | none => A | some b => _) = _
  rw [h]
  exact if_neg q
theorem go_8 {mu : Nat → Option Nat} {N : Nat → Int} {lo : Int} {A : Nat} {t : Int} {z : Nat} (h : 8 ≤ z) : ∀ f K, go mu N lo f K A t z = A
  | 0, _ => rfl
  | f + 1, K => by
    cases hm : mu K with
    | none => exact go_no hm
    | some b =>
      rw [go_out hm (by omega)]
      exact go_8 h f _
/-- how many of the first j aren't in the set -/
def unC (K : Nat) : Nat → Nat
  | 0 => 0
  | j + 1 => unC K j + if K.testBit j = true then 0 else 1
theorem unC_or {K i : Nat} (hi : K.testBit i = false) : ∀ j, unC (K ||| 2 ^ i) j + (if i < j then 1 else 0) = unC K j
  | 0 => rfl
  | j + 1 => by
    have ih := unC_or hi j
    show unC _ j + (if (K ||| 2 ^ i).testBit j = true then 0 else 1) + (if i < j + 1 then 1 else 0) = unC K j + (if K.testBit j = true then 0 else 1)
    by_cases e : i = j
    · subst e
      rw [if_neg (Nat.lt_irrefl i)] at ih
      rw [tOne, hi, if_pos rfl, if_pos (Nat.lt_succ_self i), if_neg (by decide)]
      omega
    · rw [tOth e]
      by_cases q : i < j
      · have q2 : i < j + 1 := by omega
        simp only [q, q2, if_true] at ih ⊢
        omega
      · have q2 : ¬ i < j + 1 := by omega
        simp only [q, q2, if_false] at ih ⊢
        omega
theorem unC_le (K : Nat) : ∀ j, unC K j ≤ j
  | 0 => Nat.le_refl 0
  | j + 1 => by
    have := unC_le K j
    unfold unC
    split <;> omega
theorem go_f {mu : Nat → Option Nat} {N : Nat → Int} {lo : Int} {n : Nat} (hmu : ∀ K b, mu K = some b → b < n ∧ K.testBit b = false) : ∀ f g K A t z, unC K n ≤ f → unC K n ≤ g → go mu N lo f K A t z = go mu N lo g K A t z
  | 0, g, K, A, t, z, h1, _ => by
    cases hm : mu K with
    | none => rw [go_no hm, go_no hm]
    | some b =>
      have := unC_or (hmu K b hm).2 n
      rw [if_pos (hmu K b hm).1] at this
      omega
  | f + 1, 0, K, A, t, z, _, h2 => by
    cases hm : mu K with
    | none => rw [go_no hm, go_no hm]
    | some b =>
      have := unC_or (hmu K b hm).2 n
      rw [if_pos (hmu K b hm).1] at this
      omega
  | f + 1, g + 1, K, A, t, z, h1, h2 => by
    cases hm : mu K with
    | none => rw [go_no hm, go_no hm]
    | some b =>
      have := unC_or (hmu K b hm).2 n
      rw [if_pos (hmu K b hm).1] at this
      by_cases q : z < 8 ∧ t + N b ≤ lo
      · rw [go_in hm q, go_in hm q]
        exact go_f hmu f g _ _ _ _ (by omega) (by omega)
      · rw [go_out hm q, go_out hm q]
        exact go_f hmu f g _ _ _ _ (by omega) (by omega)
theorem go_co {mu mv : Nat → Option Nat} {N O : Nat → Int} {lo : Int} {n : Nat} (hm : ∀ K, mu K = mv K) (hb : ∀ K b, mv K = some b → N b = O b) : ∀ f K A t z, go mu N lo f K A t z = go mv O lo f K A t z
  | 0, _, _, _, _ => rfl
  | f + 1, K, A, t, z => by
    cases h : mv K with
    | none => rw [go_no ((hm K).trans h), go_no h]
    | some b =>
      have e := hb K b h
      by_cases q : z < 8 ∧ t + N b ≤ lo
      · rw [go_in ((hm K).trans h) q, go_in h (by rw [← e]; exact q), go_co (n := n) hm hb f, e]
      · rw [go_out ((hm K).trans h) q, go_out h (by rw [← e]; exact q), go_co (n := n) hm hb f]
def muC (h : oH) (n K : Nat) : Option Nat := muF (dC h) (pCu h n K) n
def muM (h : oH) (n K : Nat) : Option Nat := muF (dM h) (pMu h K) n
def nC (h : oH) (b : Nat) : Int := (hI h (hid b) 2 - hI h (hid b) 9).toInt
def nM (h : oH) (b : Nat) : Int := (hI h 15 b - hI h 18 b).toInt
theorem muC_p {h : oH} {n K b : Nat} (q : muC h n K = some b) : b < n ∧ K.testBit b = false := by
  have h1 := muF_lt n q
  refine ⟨h1.1, ?_⟩
  have h2 := h1.2
  unfold pCu at h2
  rw [Bool.and_eq_true] at h2
  cases e : K.testBit b with
  | false => rfl
  | true =>
    rw [e] at h2
    exact absurd h2.2 (by decide)
theorem muM_p {h : oH} {n K b : Nat} (q : muM h n K = some b) : b < n ∧ K.testBit b = false := by
  have h1 := muF_lt n q
  refine ⟨h1.1, ?_⟩
  have h2 := h1.2
  unfold pMu at h2
  rw [Bool.and_eq_true] at h2
  cases e : K.testBit b with
  | false => rfl
  | true =>
    rw [e] at h2
    exact absurd h2.2 (by decide)
theorem mu2_w (r : Option Nat) : (∀ b, r = some b → b < 24) → ∃ w : Int32, mu2 r w := by
  intro h
  cases r with
  | none => exact ⟨-1000000, rfl⟩
  | some b => exact ⟨kI b, kI_t (by have := h b rfl; omega)⟩
theorem sub_or {K A b : Nat} (hs : ∀ b, K.testBit b = false → A.testBit b = false) {y : Nat} (hy : (K ||| 2 ^ b).testBit y = false) : (A ||| 2 ^ b).testBit y = false := by
  rw [Nat.testBit_or] at hy ⊢
  have h1 := (Bool.or_eq_false_iff.mp hy)
  rw [hs y h1.1, h1.2]
  rfl
theorem sub_o1 {K A b : Nat} (hs : ∀ b, K.testBit b = false → A.testBit b = false) {y : Nat} (hy : (K ||| 2 ^ b).testBit y = false) : A.testBit y = false := by
  rw [Nat.testBit_or] at hy
  exact hs y (Bool.or_eq_false_iff.mp hy).1
set_option maxHeartbeats 4000000 in
set_option maxRecDepth 100000 in
theorem lp_callsC (G : oG) {p : Program} {l : Launch} {e : Env} {R : Room} {s : State} {m : MethodId} {args : Array Value} {below : List Frame} {meth : Method} {c : Code} {n0 nF : Nat} {h : oH} {n : Nat} (hh : oHs h n) (hN : ∀ b, b < n → 0 ≤ nC h b ∧ nC h b ≤ 5000) (hl : (hI h 0 8).toInt ≤ 9000) (C : oC G mX5_calls n0 nF p l R s m args meth c) (hF : h.1 ≤ nF) {r : Int32} : ∀ (k i K A z : Nat) (t : Int) (x1 x2 x3 x4 : Int32) (t5 t6 : Option Value), i + k = 24 → x1.toInt = (K : Int) → x2.toInt = (A : Int) → x3.toInt = t → x4.toInt = (i : Int) → K < 16777216 → A < 16777216 → pcn A 24 = z → (0 ≤ t ∧ t ≤ 9000) → (∀ b, K.testBit b = false → A.testBit b = false) → r = kI (go (muC h n) (nC h) (hI h 0 8).toInt k K A t z) → oS G mX5_calls p l e R s m args below meth c (oZ G below args s n0 nF (some (.int r)) h) n0 9 [some (.ref 0), some (.int x1), some (.int x2), some (.int x3), some (.int x4), t5, t6] [] h := by
  have h24 := hh.2.2.1
  intro k
  induction k with
  | zero =>
    intro i K A z t x1 x2 x3 x4 t5 t6 hik hx1 hx2 hx3 hx4 hK hA hz ht hs hr
    have hi24 : i = 24 := by omega
    subst hi24
    refine r_iload C rfl dX5_calls_9 ?_
    refine r_bipush C 24 rfl dX5_calls_11 ?_
    refine t_icmp_ge C 93 (by decide) hx4 (show (24 : Int32).toInt = 24 from rfl) dX5_calls_13 (fun c13 => ?_) (fun c13 => absurd c13 (by omega))
    refine r_iload_n C rfl dX5_calls_93 ?_
    exact r_iret C dX5_calls_94 rfl hF (by rw [hr, kI_e hx2]; rfl) rfl
  | succ k ih =>
    intro i K A z t x1 x2 x3 x4 t5 t6 hik hx1 hx2 hx3 hx4 hK hA hz ht hs hr
    by_cases h8 : 8 ≤ z
    · refine r_iload C rfl dX5_calls_9 ?_
      refine r_bipush C 24 rfl dX5_calls_11 ?_
      refine t_icmp_ge C 93 (by decide) hx4 (show (24 : Int32).toInt = 24 from rfl) dX5_calls_13 (fun c13 => absurd c13 (by omega)) (fun c13 => ?_)
      refine r_iload_n C rfl dX5_calls_16 ?_
      refine r_callS C (sp_bit G _ hx2 hA) ks_J6_bitCount_0f7a4 kn_J6_bitCount_0f7a4 rfl dX5_calls_17 cl_X5_133 ⟨Nat.le_of_ble_eq_true rfl, Nat.le_of_ble_eq_true rfl⟩ hF rfl (Nat.le_of_ble_eq_true rfl) ?_
      refine r_bipush C 8 rfl dX5_calls_20 ?_
      refine t_icmp_ge C 93 (by decide) (bit_eq hx2 hA) (show (8 : Int32).toInt = 8 from rfl) dX5_calls_22 (fun c22 => ?_) (fun c22 => absurd c22 (by omega))
      refine r_iload_n C rfl dX5_calls_93 ?_
      exact r_iret C dX5_calls_94 rfl hF (by rw [hr, kI_e hx2, go_8 h8]) rfl
    · obtain ⟨w, hw⟩ := mu2_w (muC h n K) (fun b q => Nat.lt_of_lt_of_le (muC_p q).1 h24)
      cases hm : muC h n K with
      | none =>
        have hw0 : w.toInt = -1000000 := by rw [hm] at hw; exact hw
        refine r_iload C rfl dX5_calls_9 ?_
        refine r_bipush C 24 rfl dX5_calls_11 ?_
        refine t_icmp_ge C 93 (by decide) hx4 (show (24 : Int32).toInt = 24 from rfl) dX5_calls_13 (fun c13 => absurd c13 (by omega)) (fun c13 => ?_)
        refine r_iload_n C rfl dX5_calls_16 ?_
        refine r_callS C (sp_bit G _ hx2 hA) ks_J6_bitCount_0f7a4 kn_J6_bitCount_0f7a4 rfl dX5_calls_17 cl_X5_133 ⟨Nat.le_of_ble_eq_true rfl, Nat.le_of_ble_eq_true rfl⟩ hF rfl (Nat.le_of_ble_eq_true rfl) ?_
        refine r_bipush C 8 rfl dX5_calls_20 ?_
        refine t_icmp_ge C 93 (by decide) (bit_eq hx2 hA) (show (8 : Int32).toInt = 8 from rfl) dX5_calls_22 (fun c22 => absurd c22 (by omega)) (fun c22 => ?_)
        refine r_aload_n C rfl rfl dX5_calls_25 ?_
        refine r_iload_n C rfl dX5_calls_26 ?_
        refine r_callV C (sp_mu G (by exact hh) _ hx1 w hw) kv_X5_mostUrgent kn_X5_mostUrgent rfl dX5_calls_27 cl_X5_138 ⟨Nat.le_of_ble_eq_true rfl, Nat.le_of_ble_eq_true rfl⟩ (by decide) rfl rfl (q_lt hh.1 (by decide)) hF rfl (Nat.le_of_ble_eq_true rfl) ?_
        refine r_istore C rfl (Nat.le_of_ble_eq_true rfl) dX5_calls_30 ?_
        refine r_aload_n C rfl rfl dX5_calls_32 ?_
        refine r_iload C rfl dX5_calls_33 ?_
        refine r_callV C (sp_houseAtN G (by exact hh) _ (by omega)) kv_X5_houseAt kn_X5_houseAt rfl dX5_calls_35 cl_X5_77 ⟨Nat.le_of_ble_eq_true rfl, Nat.le_of_ble_eq_true rfl⟩ (by decide) rfl rfl (q_lt hh.1 (by decide)) hF rfl (Nat.le_of_ble_eq_true rfl) ?_
        refine r_astore C rfl rfl (Nat.le_of_ble_eq_true rfl) dX5_calls_38 ?_
        refine r_aload C rfl rfl dX5_calls_40 ?_
        refine r_ifnonnullN C dX5_calls_42 ?_
        refine r_goto C 93 (by decide) dX5_calls_45 ?_
        refine r_iload_n C rfl dX5_calls_93 ?_
        exact r_iret C dX5_calls_94 rfl hF (by rw [hr, kI_e hx2, go_no hm]) rfl
      | some b =>
        have hwb : w.toInt = (b : Int) := by rw [hm] at hw; exact hw
        have hb := (muC_p hm).1
        have hbK := (muC_p hm).2
        have nb := hN b hb
        refine r_iload C rfl dX5_calls_9 ?_
        refine r_bipush C 24 rfl dX5_calls_11 ?_
        refine t_icmp_ge C 93 (by decide) hx4 (show (24 : Int32).toInt = 24 from rfl) dX5_calls_13 (fun c13 => absurd c13 (by omega)) (fun c13 => ?_)
        refine r_iload_n C rfl dX5_calls_16 ?_
        refine r_callS C (sp_bit G _ hx2 hA) ks_J6_bitCount_0f7a4 kn_J6_bitCount_0f7a4 rfl dX5_calls_17 cl_X5_133 ⟨Nat.le_of_ble_eq_true rfl, Nat.le_of_ble_eq_true rfl⟩ hF rfl (Nat.le_of_ble_eq_true rfl) ?_
        refine r_bipush C 8 rfl dX5_calls_20 ?_
        refine t_icmp_ge C 93 (by decide) (bit_eq hx2 hA) (show (8 : Int32).toInt = 8 from rfl) dX5_calls_22 (fun c22 => absurd c22 (by omega)) (fun c22 => ?_)
        refine r_aload_n C rfl rfl dX5_calls_25 ?_
        refine r_iload_n C rfl dX5_calls_26 ?_
        refine r_callV C (sp_mu G (by exact hh) _ hx1 w hw) kv_X5_mostUrgent kn_X5_mostUrgent rfl dX5_calls_27 cl_X5_138 ⟨Nat.le_of_ble_eq_true rfl, Nat.le_of_ble_eq_true rfl⟩ (by decide) rfl rfl (q_lt hh.1 (by decide)) hF rfl (Nat.le_of_ble_eq_true rfl) ?_
        refine r_istore C rfl (Nat.le_of_ble_eq_true rfl) dX5_calls_30 ?_
        refine r_aload_n C rfl rfl dX5_calls_32 ?_
        refine r_iload C rfl dX5_calls_33 ?_
        refine r_callV C (sp_houseAt G (by exact hh) _ hb hwb) kv_X5_houseAt kn_X5_houseAt rfl dX5_calls_35 cl_X5_77 ⟨Nat.le_of_ble_eq_true rfl, Nat.le_of_ble_eq_true rfl⟩ (by decide) rfl rfl (q_lt hh.1 (by decide)) hF rfl (Nat.le_of_ble_eq_true rfl) ?_
        refine r_astore C rfl rfl (Nat.le_of_ble_eq_true rfl) dX5_calls_38 ?_
        refine r_aload C rfl rfl dX5_calls_40 ?_
        refine r_ifnonnull C 48 (by decide) dX5_calls_42 ?_
        refine r_iload_n C rfl dX5_calls_48 ?_
        refine r_iconstv C 1 rfl dX5_calls_49 ?_
        refine r_iload C rfl dX5_calls_50 ?_
        refine r_ishl C dX5_calls_52 ?_
        refine r_ior C dX5_calls_53 ?_
        refine r_istore_n C rfl (Nat.le_of_ble_eq_true rfl) dX5_calls_54 ?_
        refine r_iload_n C rfl dX5_calls_55 ?_
        refine r_aload C rfl rfl dX5_calls_56 ?_
        refine r_callV C (sp_mayNeed G (tg_hid b) (oHs.lt (by exact hh) hb)) kv_X1_mayNeed kn_X1_mayNeed rfl dX5_calls_58 cl_X5_141 ⟨Nat.le_of_ble_eq_true rfl, Nat.le_of_ble_eq_true rfl⟩ (by decide) rfl (tg_hid b) (oHs.lt hh hb) hF rfl (Nat.le_of_ble_eq_true rfl) ?_
        refine r_iadd C dX5_calls_61 ?_
        refine r_aload_n C rfl rfl dX5_calls_62 ?_
        refine r_getI C dX5_calls_63 fl_X5_49 rfl (q_lt hh.1 (by decide)) ?_
        refine t_icmp_le C 72 (by decide) (tA hx3 (show _ = nC h b from rfl) (by omega)) rfl dX5_calls_66 (fun c66 => ?_) (fun c66 => ?_)
        · refine r_iload_n C rfl dX5_calls_72 ?_
          refine r_aload C rfl rfl dX5_calls_73 ?_
          refine r_callV C (sp_mayNeed G (tg_hid b) (oHs.lt (by exact hh) hb)) kv_X1_mayNeed kn_X1_mayNeed rfl dX5_calls_75 cl_X5_141 ⟨Nat.le_of_ble_eq_true rfl, Nat.le_of_ble_eq_true rfl⟩ (by decide) rfl (tg_hid b) (oHs.lt hh hb) hF rfl (Nat.le_of_ble_eq_true rfl) ?_
          refine r_iadd C dX5_calls_78 ?_
          refine r_istore_n C rfl (Nat.le_of_ble_eq_true rfl) dX5_calls_79 ?_
          refine r_iload_n C rfl dX5_calls_80 ?_
          refine r_iconstv C 1 rfl dX5_calls_81 ?_
          refine r_iload C rfl dX5_calls_82 ?_
          refine r_ishl C dX5_calls_84 ?_
          refine r_ior C dX5_calls_85 ?_
          refine r_istore_n C rfl (Nat.le_of_ble_eq_true rfl) dX5_calls_86 ?_
          refine r_iinc C rfl rfl (Nat.le_of_ble_eq_true rfl) dX5_calls_87 ?_
          refine r_goto C 9 (by decide) dX5_calls_90 ?_
          exact ih (i + 1) _ _ (z + 1) _ _ _ _ _ _ _ (by omega) (tSet hx1 hwb (by omega)) (tSet hx2 hwb (by omega)) (tA hx3 (show (hI h (hid b) 2 - hI h (hid b) 9).toInt = nC h b from rfl) (by omega)) (by have t := tA hx4 (show (Int32.ofInt 1).toInt = 1 from rfl) (by omega); omega) (orLt (n := 24) hK (by omega)) (orLt (n := 24) hA (by omega)) (by rw [pcn_or (hs b hbK) 24, if_pos (by omega), hz]) (by omega) (fun y hy => sub_or hs hy) (by rw [hr, go_in hm ⟨by omega, by omega⟩])
        · refine r_goto C 87 (by decide) dX5_calls_69 ?_
          refine r_iinc C rfl rfl (Nat.le_of_ble_eq_true rfl) dX5_calls_87 ?_
          refine r_goto C 9 (by decide) dX5_calls_90 ?_
          exact ih (i + 1) _ _ z _ _ _ _ _ _ _ (by omega) (tSet hx1 hwb (by omega)) hx2 hx3 (by have t := tA hx4 (show (Int32.ofInt 1).toInt = 1 from rfl) (by omega); omega) (orLt (n := 24) hK (by omega)) hA hz ht (fun y hy => sub_o1 hs hy) (by rw [hr, go_out hm (fun q => by omega)])

set_option maxHeartbeats 4000000 in
set_option maxRecDepth 100000 in
theorem sp_callsC (G : oG) {h : oH} {n : Nat} (hh : oHs h n) (hN : ∀ b, b < n → 0 ≤ nC h b ∧ nC h b ≤ 5000) (hl : (hI h 0 8).toInt ≤ 9000) : oSp G mX5_calls [.ref 0] h (some (.int (kI (go (muC h n) (nC h) (hI h 0 8).toInt 24 0 0 0 0)))) h := by
  refine oSp.intro [some (.ref 0), none, none, none, none, none, none] rfl (Nat.le_of_ble_eq_true rfl) (plainFor_of_name (by decide +kernel)) (Nat.le_refl _) ?_
  intro p l e R s m args below meth c C
  refine r_iconstv C 0 rfl dX5_calls_0 ?_
  refine r_istore_n C rfl (Nat.le_of_ble_eq_true rfl) dX5_calls_1 ?_
  refine r_iconstv C 0 rfl dX5_calls_2 ?_
  refine r_istore_n C rfl (Nat.le_of_ble_eq_true rfl) dX5_calls_3 ?_
  refine r_iconstv C 0 rfl dX5_calls_4 ?_
  refine r_istore_n C rfl (Nat.le_of_ble_eq_true rfl) dX5_calls_5 ?_
  refine r_iconstv C 0 rfl dX5_calls_6 ?_
  refine r_istore C rfl (Nat.le_of_ble_eq_true rfl) dX5_calls_7 ?_
  exact lp_callsC G hh hN hl C (Nat.le_refl _) 24 0 0 0 0 0 _ _ _ _ _ _ rfl rfl rfl rfl rfl (by decide) (by decide) (by decide) (by decide) (fun _ h => h) rfl

