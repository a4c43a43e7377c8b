/-! what a fill makes narrower: the class -/
def n1 (h : oH) (a : Nat) (q : Int32) : oH := sI h a 6 (mx (hI h a 4) (mn (hI h a 6) (cutC (q - hI h a 14 * hI h a 5) (hI h a 13))))
def n2 (h : oH) (a : Nat) (q : Int32) : oH := sI h a 7 (mx (hI h a 5) (mn (hI h a 7) (cutC (q - hI h a 13 * hI h a 4) (hI h a 14))))
def n3 (h : oH) (a : Nat) (q : Int32) : oH := sI h a 4 (mn (hI h a 6) (mx (hI h a 4) (rupC (q - hI h a 14 * hI h a 7) (hI h a 13))))
def n4 (h : oH) (a : Nat) (q : Int32) : oH := sI h a 5 (mn (hI h a 7) (mx (hI h a 5) (rupC (q - hI h a 13 * hI h a 6) (hI h a 14))))
def t1 (h : oH) (a : Nat) : oH := sI h a 10 (hI h a 10 + 1)
def t2 (h : oH) (a : Nat) : oH := sI h a 8 (hI h a 2)
def t3 (h : oH) (a : Nat) : oH := sI h a 9 (hI h a 2)
def cN (a b c q s k : Int32) : Int32 := mxM a (mnM c (cutM (q - k * b) s))
def dN (a b d q s k : Int32) : Int32 := if 0 < k.toInt then mxM b (mnM d (cutM (q - s * a) k)) else d
def aN (a c d q s k : Int32) : Int32 := mnM c (mxM a (rupM (q - k * d) s))
def bN (b c d q s k : Int32) : Int32 := if 0 < k.toInt then mnM d (mxM b (rupM (q - s * c) k)) else b
set_option maxHeartbeats 4000000 in
set_option maxRecDepth 100000 in
theorem sp_narA (G : oG) {h : oH} {a : Nat} (ta : tg a = (0, 1)) (la : a < h.1) (q : Int32) (c1 : 0 < (hI (n1 h a q) a 14).toInt) (c2 : 0 < (hI (n3 (n2 (n1 h a q) a q) a q) a 14).toInt) : oSp G mX1_narrow [.ref a, .int q] h none (n4 (n3 (n2 (n1 h a q) a q) a q) a q) := by
  refine oSp.intro [some (.ref a), some (.int q)] rfl (Nat.le_of_ble_eq_true rfl) (plainFor_of_name (by decide +kernel)) (Nat.le_refl _) ?_
  intro p l e R s m args below meth c C
  refine r_aload_n C rfl rfl dX1_narrow_0 ?_
  refine r_aload_n C rfl rfl dX1_narrow_1 ?_
  refine r_getI C dX1_narrow_2 fl_X1_18 ta (by exact la) ?_
  refine r_aload_n C rfl rfl dX1_narrow_5 ?_
  refine r_getI C dX1_narrow_6 fl_X1_25 ta (by exact la) ?_
  refine r_iload_n C rfl dX1_narrow_9 ?_
  refine r_aload_n C rfl rfl dX1_narrow_10 ?_
  refine r_getI C dX1_narrow_11 fl_X1_44 ta (by exact la) ?_
  refine r_aload_n C rfl rfl dX1_narrow_14 ?_
  refine r_getI C dX1_narrow_15 fl_X1_22 ta (by exact la) ?_
  refine r_imul C dX1_narrow_18 ?_
  refine r_isub C dX1_narrow_19 ?_
  refine r_aload_n C rfl rfl dX1_narrow_20 ?_
  refine r_getI C dX1_narrow_21 fl_X1_41 ta (by exact la) ?_
  refine r_callS C (sp_cutC G _ _) ks_X1_cut kn_X1_cut rfl dX1_narrow_24 cl_X1_85 ⟨Nat.le_of_ble_eq_true rfl, Nat.le_of_ble_eq_true rfl⟩ (Nat.le_refl _) rfl (Nat.le_of_ble_eq_true rfl) ?_
  refine r_callS C (sp_min G _ _) ks_J9_min_7cf53 kn_J9_min_7cf53 rfl dX1_narrow_27 cl_X1_75 ⟨Nat.le_of_ble_eq_true rfl, Nat.le_of_ble_eq_true rfl⟩ (Nat.le_refl _) rfl (Nat.le_of_ble_eq_true rfl) ?_
  refine r_callS C (sp_max G _ _) ks_J9_max_7cf53 kn_J9_max_7cf53 rfl dX1_narrow_30 cl_X1_66 ⟨Nat.le_of_ble_eq_true rfl, Nat.le_of_ble_eq_true rfl⟩ (Nat.le_refl _) rfl (Nat.le_of_ble_eq_true rfl) ?_
  refine r_putI C dX1_narrow_33 fl_X1_25 ta (by exact la) (Or.inl rfl) ?_
  refine oS_h (h2 := (n1 h a q)) rfl ?_
  refine r_aload_n C rfl rfl dX1_narrow_36 ?_
  refine r_getI C dX1_narrow_37 fl_X1_44 ta (by exact la) ?_
  refine t_if_le C 79 (by decide) rfl dX1_narrow_40 (fun c40 => absurd c1 (by omega)) (fun c40 => ?_)
  refine r_aload_n C rfl rfl dX1_narrow_43 ?_
  refine r_aload_n C rfl rfl dX1_narrow_44 ?_
  refine r_getI C dX1_narrow_45 fl_X1_22 ta (by exact la) ?_
  refine r_aload_n C rfl rfl dX1_narrow_48 ?_
  refine r_getI C dX1_narrow_49 fl_X1_28 ta (by exact la) ?_
  refine r_iload_n C rfl dX1_narrow_52 ?_
  refine r_aload_n C rfl rfl dX1_narrow_53 ?_
  refine r_getI C dX1_narrow_54 fl_X1_41 ta (by exact la) ?_
  refine r_aload_n C rfl rfl dX1_narrow_57 ?_
  refine r_getI C dX1_narrow_58 fl_X1_18 ta (by exact la) ?_
  refine r_imul C dX1_narrow_61 ?_
  refine r_isub C dX1_narrow_62 ?_
  refine r_aload_n C rfl rfl dX1_narrow_63 ?_
  refine r_getI C dX1_narrow_64 fl_X1_44 ta (by exact la) ?_
  refine r_callS C (sp_cutC G _ _) ks_X1_cut kn_X1_cut rfl dX1_narrow_67 cl_X1_85 ⟨Nat.le_of_ble_eq_true rfl, Nat.le_of_ble_eq_true rfl⟩ (Nat.le_refl _) rfl (Nat.le_of_ble_eq_true rfl) ?_
  refine r_callS C (sp_min G _ _) ks_J9_min_7cf53 kn_J9_min_7cf53 rfl dX1_narrow_70 cl_X1_75 ⟨Nat.le_of_ble_eq_true rfl, Nat.le_of_ble_eq_true rfl⟩ (Nat.le_refl _) rfl (Nat.le_of_ble_eq_true rfl) ?_
  refine r_callS C (sp_max G _ _) ks_J9_max_7cf53 kn_J9_max_7cf53 rfl dX1_narrow_73 cl_X1_66 ⟨Nat.le_of_ble_eq_true rfl, Nat.le_of_ble_eq_true rfl⟩ (Nat.le_refl _) rfl (Nat.le_of_ble_eq_true rfl) ?_
  refine r_putI C dX1_narrow_76 fl_X1_28 ta (by exact la) (Or.inl rfl) ?_
  refine oS_h (h2 := (n2 (n1 h a q) a q)) rfl ?_
  refine r_aload_n C rfl rfl dX1_narrow_79 ?_
  refine r_aload_n C rfl rfl dX1_narrow_80 ?_
  refine r_getI C dX1_narrow_81 fl_X1_25 ta (by exact la) ?_
  refine r_aload_n C rfl rfl dX1_narrow_84 ?_
  refine r_getI C dX1_narrow_85 fl_X1_18 ta (by exact la) ?_
  refine r_iload_n C rfl dX1_narrow_88 ?_
  refine r_aload_n C rfl rfl dX1_narrow_89 ?_
  refine r_getI C dX1_narrow_90 fl_X1_44 ta (by exact la) ?_
  refine r_aload_n C rfl rfl dX1_narrow_93 ?_
  refine r_getI C dX1_narrow_94 fl_X1_28 ta (by exact la) ?_
  refine r_imul C dX1_narrow_97 ?_
  refine r_isub C dX1_narrow_98 ?_
  refine r_aload_n C rfl rfl dX1_narrow_99 ?_
  refine r_getI C dX1_narrow_100 fl_X1_41 ta (by exact la) ?_
  refine r_callS C (sp_rupC G _ _) ks_X1_roundedUp kn_X1_roundedUp rfl dX1_narrow_103 cl_X1_88 ⟨Nat.le_of_ble_eq_true rfl, Nat.le_of_ble_eq_true rfl⟩ (Nat.le_refl _) rfl (Nat.le_of_ble_eq_true rfl) ?_
  refine r_callS C (sp_max G _ _) ks_J9_max_7cf53 kn_J9_max_7cf53 rfl dX1_narrow_106 cl_X1_66 ⟨Nat.le_of_ble_eq_true rfl, Nat.le_of_ble_eq_true rfl⟩ (Nat.le_refl _) rfl (Nat.le_of_ble_eq_true rfl) ?_
  refine r_callS C (sp_min G _ _) ks_J9_min_7cf53 kn_J9_min_7cf53 rfl dX1_narrow_109 cl_X1_75 ⟨Nat.le_of_ble_eq_true rfl, Nat.le_of_ble_eq_true rfl⟩ (Nat.le_refl _) rfl (Nat.le_of_ble_eq_true rfl) ?_
  refine r_putI C dX1_narrow_112 fl_X1_18 ta (by exact la) (Or.inl rfl) ?_
  refine oS_h (h2 := (n3 (n2 (n1 h a q) a q) a q)) rfl ?_
  refine r_aload_n C rfl rfl dX1_narrow_115 ?_
  refine r_getI C dX1_narrow_116 fl_X1_44 ta (by exact la) ?_
  refine t_if_le C 158 (by decide) rfl dX1_narrow_119 (fun c119 => absurd c2 (by omega)) (fun c119 => ?_)
  refine r_aload_n C rfl rfl dX1_narrow_122 ?_
  refine r_aload_n C rfl rfl dX1_narrow_123 ?_
  refine r_getI C dX1_narrow_124 fl_X1_28 ta (by exact la) ?_
  refine r_aload_n C rfl rfl dX1_narrow_127 ?_
  refine r_getI C dX1_narrow_128 fl_X1_22 ta (by exact la) ?_
  refine r_iload_n C rfl dX1_narrow_131 ?_
  refine r_aload_n C rfl rfl dX1_narrow_132 ?_
  refine r_getI C dX1_narrow_133 fl_X1_41 ta (by exact la) ?_
  refine r_aload_n C rfl rfl dX1_narrow_136 ?_
  refine r_getI C dX1_narrow_137 fl_X1_25 ta (by exact la) ?_
  refine r_imul C dX1_narrow_140 ?_
  refine r_isub C dX1_narrow_141 ?_
  refine r_aload_n C rfl rfl dX1_narrow_142 ?_
  refine r_getI C dX1_narrow_143 fl_X1_44 ta (by exact la) ?_
  refine r_callS C (sp_rupC G _ _) ks_X1_roundedUp kn_X1_roundedUp rfl dX1_narrow_146 cl_X1_88 ⟨Nat.le_of_ble_eq_true rfl, Nat.le_of_ble_eq_true rfl⟩ (Nat.le_refl _) rfl (Nat.le_of_ble_eq_true rfl) ?_
  refine r_callS C (sp_max G _ _) ks_J9_max_7cf53 kn_J9_max_7cf53 rfl dX1_narrow_149 cl_X1_66 ⟨Nat.le_of_ble_eq_true rfl, Nat.le_of_ble_eq_true rfl⟩ (Nat.le_refl _) rfl (Nat.le_of_ble_eq_true rfl) ?_
  refine r_callS C (sp_min G _ _) ks_J9_min_7cf53 kn_J9_min_7cf53 rfl dX1_narrow_152 cl_X1_75 ⟨Nat.le_of_ble_eq_true rfl, Nat.le_of_ble_eq_true rfl⟩ (Nat.le_refl _) rfl (Nat.le_of_ble_eq_true rfl) ?_
  refine r_putI C dX1_narrow_155 fl_X1_22 ta (by exact la) (Or.inl rfl) ?_
  refine oS_h (h2 := (n4 (n3 (n2 (n1 h a q) a q) a q) a q)) rfl ?_
  exact r_vret C dX1_narrow_158 rfl (Nat.le_refl _) rfl

set_option maxHeartbeats 4000000 in
set_option maxRecDepth 100000 in
theorem sp_narB (G : oG) {h : oH} {a : Nat} (ta : tg a = (0, 1)) (la : a < h.1) (q : Int32) (c1 : ¬ 0 < (hI (n1 h a q) a 14).toInt) (c2 : ¬ 0 < (hI (n3 (n1 h a q) a q) a 14).toInt) : oSp G mX1_narrow [.ref a, .int q] h none (n3 (n1 h a q) a q) := by
  refine oSp.intro [some (.ref a), some (.int q)] rfl (Nat.le_of_ble_eq_true rfl) (plainFor_of_name (by decide +kernel)) (Nat.le_refl _) ?_
  intro p l e R s m args below meth c C
  refine r_aload_n C rfl rfl dX1_narrow_0 ?_
  refine r_aload_n C rfl rfl dX1_narrow_1 ?_
  refine r_getI C dX1_narrow_2 fl_X1_18 ta (by exact la) ?_
  refine r_aload_n C rfl rfl dX1_narrow_5 ?_
  refine r_getI C dX1_narrow_6 fl_X1_25 ta (by exact la) ?_
  refine r_iload_n C rfl dX1_narrow_9 ?_
  refine r_aload_n C rfl rfl dX1_narrow_10 ?_
  refine r_getI C dX1_narrow_11 fl_X1_44 ta (by exact la) ?_
  refine r_aload_n C rfl rfl dX1_narrow_14 ?_
  refine r_getI C dX1_narrow_15 fl_X1_22 ta (by exact la) ?_
  refine r_imul C dX1_narrow_18 ?_
  refine r_isub C dX1_narrow_19 ?_
  refine r_aload_n C rfl rfl dX1_narrow_20 ?_
  refine r_getI C dX1_narrow_21 fl_X1_41 ta (by exact la) ?_
  refine r_callS C (sp_cutC G _ _) ks_X1_cut kn_X1_cut rfl dX1_narrow_24 cl_X1_85 ⟨Nat.le_of_ble_eq_true rfl, Nat.le_of_ble_eq_true rfl⟩ (Nat.le_refl _) rfl (Nat.le_of_ble_eq_true rfl) ?_
  refine r_callS C (sp_min G _ _) ks_J9_min_7cf53 kn_J9_min_7cf53 rfl dX1_narrow_27 cl_X1_75 ⟨Nat.le_of_ble_eq_true rfl, Nat.le_of_ble_eq_true rfl⟩ (Nat.le_refl _) rfl (Nat.le_of_ble_eq_true rfl) ?_
  refine r_callS C (sp_max G _ _) ks_J9_max_7cf53 kn_J9_max_7cf53 rfl dX1_narrow_30 cl_X1_66 ⟨Nat.le_of_ble_eq_true rfl, Nat.le_of_ble_eq_true rfl⟩ (Nat.le_refl _) rfl (Nat.le_of_ble_eq_true rfl) ?_
  refine r_putI C dX1_narrow_33 fl_X1_25 ta (by exact la) (Or.inl rfl) ?_
  refine oS_h (h2 := (n1 h a q)) rfl ?_
  refine r_aload_n C rfl rfl dX1_narrow_36 ?_
  refine r_getI C dX1_narrow_37 fl_X1_44 ta (by exact la) ?_
  refine t_if_le C 79 (by decide) rfl dX1_narrow_40 (fun c40 => ?_) (fun c40 => absurd c40 (by omega))
  refine r_aload_n C rfl rfl dX1_narrow_79 ?_
  refine r_aload_n C rfl rfl dX1_narrow_80 ?_
  refine r_getI C dX1_narrow_81 fl_X1_25 ta (by exact la) ?_
  refine r_aload_n C rfl rfl dX1_narrow_84 ?_
  refine r_getI C dX1_narrow_85 fl_X1_18 ta (by exact la) ?_
  refine r_iload_n C rfl dX1_narrow_88 ?_
  refine r_aload_n C rfl rfl dX1_narrow_89 ?_
  refine r_getI C dX1_narrow_90 fl_X1_44 ta (by exact la) ?_
  refine r_aload_n C rfl rfl dX1_narrow_93 ?_
  refine r_getI C dX1_narrow_94 fl_X1_28 ta (by exact la) ?_
  refine r_imul C dX1_narrow_97 ?_
  refine r_isub C dX1_narrow_98 ?_
  refine r_aload_n C rfl rfl dX1_narrow_99 ?_
  refine r_getI C dX1_narrow_100 fl_X1_41 ta (by exact la) ?_
  refine r_callS C (sp_rupC G _ _) ks_X1_roundedUp kn_X1_roundedUp rfl dX1_narrow_103 cl_X1_88 ⟨Nat.le_of_ble_eq_true rfl, Nat.le_of_ble_eq_true rfl⟩ (Nat.le_refl _) rfl (Nat.le_of_ble_eq_true rfl) ?_
  refine r_callS C (sp_max G _ _) ks_J9_max_7cf53 kn_J9_max_7cf53 rfl dX1_narrow_106 cl_X1_66 ⟨Nat.le_of_ble_eq_true rfl, Nat.le_of_ble_eq_true rfl⟩ (Nat.le_refl _) rfl (Nat.le_of_ble_eq_true rfl) ?_
  refine r_callS C (sp_min G _ _) ks_J9_min_7cf53 kn_J9_min_7cf53 rfl dX1_narrow_109 cl_X1_75 ⟨Nat.le_of_ble_eq_true rfl, Nat.le_of_ble_eq_true rfl⟩ (Nat.le_refl _) rfl (Nat.le_of_ble_eq_true rfl) ?_
  refine r_putI C dX1_narrow_112 fl_X1_18 ta (by exact la) (Or.inl rfl) ?_
  refine oS_h (h2 := (n3 (n1 h a q) a q)) rfl ?_
  refine r_aload_n C rfl rfl dX1_narrow_115 ?_
  refine r_getI C dX1_narrow_116 fl_X1_44 ta (by exact la) ?_
  refine t_if_le C 158 (by decide) rfl dX1_narrow_119 (fun c119 => ?_) (fun c119 => absurd c119 (by omega))
  exact r_vret C dX1_narrow_158 rfl (Nat.le_refl _) rfl

theorem nw {h : oH} {a k : Nat} {v : Int32} : (sI h a k v).1 = h.1 ∧ (∀ x y, hR (sI h a k v) x y = hR h x y) ∧ (∀ x y, hJ (sI h a k v) x y = hJ h x y) := ⟨rfl, fun _ _ => rfl, fun _ _ => rfl⟩
theorem narq {x y q : Int32} (h0 : 0 ≤ x.toInt) (h1 : x.toInt ≤ 24000) (h2 : 0 ≤ y.toInt) (h3 : y.toInt ≤ 50) (h4 : 0 ≤ q.toInt) (h5 : q.toInt ≤ 5000) : -1000000000 ≤ (q - x * y).toInt ∧ (q - x * y).toInt ≤ 1000000000 := by
  have g1 := Int.mul_nonneg h0 h2
  have g2 := Int.mul_le_mul h1 h3 h2 (by omega)
  have g3 := tM (rfl : x.toInt = _) (rfl : y.toInt = _) (by omega)
  have g4 := tS (rfl : q.toInt = _) g3 (by omega)
  omega
/-- the bounds under which a fill narrows -/
def nB (a b c d q s k : Int32) : Prop := (0 ≤ a.toInt ∧ a.toInt ≤ c.toInt ∧ c.toInt ≤ 50) ∧ (0 ≤ b.toInt ∧ b.toInt ≤ d.toInt ∧ d.toInt ≤ 50) ∧ (0 ≤ q.toInt ∧ q.toInt ≤ 5000) ∧ (0 < s.toInt ∧ s.toInt ≤ 600) ∧ (0 ≤ k.toInt ∧ k.toInt ≤ 24000)
theorem cN_in {a b c d q s k : Int32} (B : nB a b c d q s k) : a.toInt ≤ (cN a b c q s k).toInt ∧ (cN a b c q s k).toInt ≤ c.toInt := by
  obtain ⟨b1, b2, b3, b4, b5⟩ := B
  unfold cN
  rw [mxM_t, mnM_t]
  omega
theorem dN_in {a b c d q s k : Int32} (B : nB a b c d q s k) : b.toInt ≤ (dN a b d q s k).toInt ∧ (dN a b d q s k).toInt ≤ d.toInt := by
  obtain ⟨b1, b2, b3, b4, b5⟩ := B
  unfold dN
  split
  · rw [mxM_t, mnM_t]
    omega
  · omega
theorem aN_in {a b c d q s k : Int32} (B : nB a b c d q s k) (D : Int32) : a.toInt ≤ (aN a (cN a b c q s k) D q s k).toInt ∧ (aN a (cN a b c q s k) D q s k).toInt ≤ (cN a b c q s k).toInt := by
  have g := cN_in B
  unfold aN
  rw [mnM_t, mxM_t]
  omega
theorem bN_in {a b c d q s k : Int32} (B : nB a b c d q s k) (C : Int32) : b.toInt ≤ (bN b C (dN a b d q s k) q s k).toInt ∧ (bN b C (dN a b d q s k) q s k).toInt ≤ (dN a b d q s k).toInt := by
  have g := dN_in B
  unfold bN
  split
  · rw [mnM_t, mxM_t]
    omega
  · omega
theorem sp_narrow (G : oG) {h : oH} {a : Nat} (ta : tg a = (0, 1)) (la : a < h.1) (q : Int32) (B : nB (hI h a 4) (hI h a 5) (hI h a 6) (hI h a 7) q (hI h a 13) (hI h a 14)) : ∃ h1, oSp G mX1_narrow [.ref a, .int q] h none h1 ∧ (h1.1 = h.1 ∧ (∀ x k, hR h1 x k = hR h x k) ∧ (∀ x k, hJ h1 x k = hJ h x k)) ∧ (∀ x k, ¬ (x = a ∧ 4 ≤ k ∧ k ≤ 7) → hI h1 x k = hI h x k) ∧ hI h1 a 6 = cN (hI h a 4) (hI h a 5) (hI h a 6) q (hI h a 13) (hI h a 14) ∧ hI h1 a 7 = dN (hI h a 4) (hI h a 5) (hI h a 7) q (hI h a 13) (hI h a 14) ∧ hI h1 a 4 = aN (hI h a 4) (hI h1 a 6) (hI h1 a 7) q (hI h a 13) (hI h a 14) ∧ hI h1 a 5 = bN (hI h a 5) (hI h1 a 6) (hI h1 a 7) q (hI h a 13) (hI h a 14) := by
  have A1 := sp_narA G ta la q
  have A2 := sp_narB G ta la q
  have gC := cN_in B
  have gD := dN_in B
  obtain ⟨b1, b2, b3, b4, b5⟩ := id B
  have f1 : ∀ x k, ¬ (x = a ∧ k = 6) → hI (n1 h a q) x k = hI h x k := fun _ _ z => zne z
  have e1 : hI (n1 h a q) a 6 = mx (hI h a 4) (mn (hI h a 6) (cutC (q - hI h a 14 * hI h a 5) (hI h a 13))) := zeq ⟨rfl, rfl⟩
  have w1 : (n1 h a q).1 = h.1 ∧ (∀ x k, hR (n1 h a q) x k = hR h x k) ∧ (∀ x k, hJ (n1 h a q) x k = hJ h x k) := by
      unfold n1
      exact nw
  generalize n1 h a q = h1 at *
  rw [nar_hi b4.1 b1.1 b1.2.1] at e1
  by_cases hk : 0 < (hI h a 14).toInt
  · clear A2
    have f2 : ∀ x k, ¬ (x = a ∧ k = 7) → hI (n2 h1 a q) x k = hI h1 x k := fun _ _ z => zne z
    have e2 : hI (n2 h1 a q) a 7 = mx (hI h1 a 5) (mn (hI h1 a 7) (cutC (q - hI h1 a 13 * hI h1 a 4) (hI h1 a 14))) := zeq ⟨rfl, rfl⟩
    have w2 : (n2 h1 a q).1 = h1.1 ∧ (∀ x k, hR (n2 h1 a q) x k = hR h1 x k) ∧ (∀ x k, hJ (n2 h1 a q) x k = hJ h1 x k) := by
      unfold n2
      exact nw
    generalize n2 h1 a q = h2 at *
    have f3 : ∀ x k, ¬ (x = a ∧ k = 4) → hI (n3 h2 a q) x k = hI h2 x k := fun _ _ z => zne z
    have e3 : hI (n3 h2 a q) a 4 = mn (hI h2 a 6) (mx (hI h2 a 4) (rupC (q - hI h2 a 14 * hI h2 a 7) (hI h2 a 13))) := zeq ⟨rfl, rfl⟩
    have w3 : (n3 h2 a q).1 = h2.1 ∧ (∀ x k, hR (n3 h2 a q) x k = hR h2 x k) ∧ (∀ x k, hJ (n3 h2 a q) x k = hJ h2 x k) := by
      unfold n3
      exact nw
    generalize n3 h2 a q = h3 at *
    have f4 : ∀ x k, ¬ (x = a ∧ k = 5) → hI (n4 h3 a q) x k = hI h3 x k := fun _ _ z => zne z
    have e4 : hI (n4 h3 a q) a 5 = mn (hI h3 a 7) (mx (hI h3 a 5) (rupC (q - hI h3 a 13 * hI h3 a 6) (hI h3 a 14))) := zeq ⟨rfl, rfl⟩
    have w4 : (n4 h3 a q).1 = h3.1 ∧ (∀ x k, hR (n4 h3 a q) x k = hR h3 x k) ∧ (∀ x k, hJ (n4 h3 a q) x k = hJ h3 x k) := by
      unfold n4
      exact nw
    generalize n4 h3 a q = h4 at *
    rw [f1 a 5 (by omega), f1 a 7 (by omega), f1 a 13 (by omega), f1 a 4 (by omega), f1 a 14 (by omega)] at e2
    rw [nar_hi hk b2.1 b2.2.1] at e2
    have E6 : hI h2 a 6 = cN (hI h a 4) (hI h a 5) (hI h a 6) q (hI h a 13) (hI h a 14) := by
      unfold cN
      exact (f2 a 6 (by omega)).trans e1
    have E7 : hI h2 a 7 = dN (hI h a 4) (hI h a 5) (hI h a 7) q (hI h a 13) (hI h a 14) := by
      rw [e2]
      unfold dN
      rw [if_pos hk]
    rw [← E6] at gC
    rw [← E7] at gD
    rw [f2 a 4 (by omega), f1 a 4 (by omega), f2 a 13 (by omega), f1 a 13 (by omega), f2 a 14 (by omega), f1 a 14 (by omega)] at e3
    have m2 := narq (y := hI h2 a 7) b5.1 b5.2 (by omega) (by omega) b3.1 b3.2
    rw [nar_lo b4.1 (by omega) m2.1 m2.2 b1.1 gC.1] at e3
    rw [f3 a 7 (by omega), f3 a 5 (by omega), f2 a 5 (by omega), f1 a 5 (by omega), f3 a 13 (by omega), f2 a 13 (by omega), f1 a 13 (by omega), f3 a 6 (by omega), f3 a 14 (by omega), f2 a 14 (by omega), f1 a 14 (by omega)] at e4
    have m4 := narq (x := hI h a 13) (y := hI h2 a 6) (by omega) (by omega) (by omega) (by omega) b3.1 b3.2
    rw [nar_lo hk (by omega) m4.1 m4.2 b2.1 gD.1] at e4
    have G6 : hI h4 a 6 = hI h2 a 6 := (f4 a 6 (by omega)).trans (f3 a 6 (by omega))
    have G7 : hI h4 a 7 = hI h2 a 7 := (f4 a 7 (by omega)).trans (f3 a 7 (by omega))
    refine ⟨h4, A1 (by rw [f1 a 14 (by omega)]; exact hk) (by rw [f3 a 14 (by omega), f2 a 14 (by omega), f1 a 14 (by omega)]; exact hk), ⟨by omega, fun x k => by rw [w4.2.1, w3.2.1, w2.2.1, w1.2.1], fun x k => by rw [w4.2.2, w3.2.2, w2.2.2, w1.2.2]⟩, fun x k z => by rw [f4 x k (by omega), f3 x k (by omega), f2 x k (by omega), f1 x k (by omega)], G6.trans E6, G7.trans E7, ?_, ?_⟩
    · rw [f4 a 4 (by omega), e3, G6, G7]
      unfold aN
      rfl
    · rw [e4, G6, G7]
      unfold bN
      rw [if_pos hk]
  · clear A1
    have f3 : ∀ x k, ¬ (x = a ∧ k = 4) → hI (n3 h1 a q) x k = hI h1 x k := fun _ _ z => zne z
    have e3 : hI (n3 h1 a q) a 4 = mn (hI h1 a 6) (mx (hI h1 a 4) (rupC (q - hI h1 a 14 * hI h1 a 7) (hI h1 a 13))) := zeq ⟨rfl, rfl⟩
    have w3 : (n3 h1 a q).1 = h1.1 ∧ (∀ x k, hR (n3 h1 a q) x k = hR h1 x k) ∧ (∀ x k, hJ (n3 h1 a q) x k = hJ h1 x k) := by
      unfold n3
      exact nw
    generalize n3 h1 a q = h3 at *
    have E6 : hI h1 a 6 = cN (hI h a 4) (hI h a 5) (hI h a 6) q (hI h a 13) (hI h a 14) := by
      unfold cN
      exact e1
    rw [← E6] at gC
    rw [f1 a 4 (by omega), f1 a 13 (by omega), f1 a 14 (by omega), f1 a 7 (by omega)] at e3
    have m2 := narq (y := hI h a 7) b5.1 b5.2 (by omega) (by omega) b3.1 b3.2
    rw [nar_lo b4.1 (by omega) m2.1 m2.2 b1.1 gC.1] at e3
    have G6 : hI h3 a 6 = hI h1 a 6 := f3 a 6 (by omega)
    have G7 : hI h3 a 7 = hI h a 7 := (f3 a 7 (by omega)).trans (f1 a 7 (by omega))
    refine ⟨h3, A2 (by rw [f1 a 14 (by omega)]; exact hk) (by rw [f3 a 14 (by omega), f1 a 14 (by omega)]; exact hk), ⟨by omega, fun x k => by rw [w3.2.1, w1.2.1], fun x k => by rw [w3.2.2, w1.2.2]⟩, fun x k z => by rw [f3 x k (by omega), f1 x k (by omega)], G6.trans E6, ?_, ?_, ?_⟩
    · rw [G7]
      unfold dN
      rw [if_neg hk]
    · rw [e3, G6, G7]
      unfold aN
      rfl
    · rw [f3 a 5 (by omega), f1 a 5 (by omega)]
      unfold bN
      rw [if_neg hk]
