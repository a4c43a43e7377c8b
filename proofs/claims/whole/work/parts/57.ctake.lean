/-! the class takes a token -/
theorem rf8 : ∀ q ∈ rfL, q.1 ≠ 8 ∨ q.2.1 ≠ 8 := by decide
theorem oSh.f8 {h h' : oH} (hs : oSh h) (en : h'.1 = h.1) (er : ∀ a k, (a ≠ 8 ∨ k ≠ 8) → hR h' a k = hR h a k) : oSh h' := ⟨by rw [en]; exact hs.1, fun q hq => by rw [er _ _ (rf8 q hq)]; exact hs.2 q hq⟩
theorem oHs.f8 {h h' : oH} {n : Nat} (hh : oHs h n) (en : h'.1 = h.1) (er : ∀ a k, (a ≠ 8 ∨ k ≠ 8) → hR h' a k = hR h a k) : oHs h' n := ⟨hh.1.f8 en er, by rw [en]; exact hh.2.1, hh.2.2.1, fun j hj => by rw [er _ _ (Or.inl (by decide))]; exact hh.2.2.2.1 j hj, fun i hi => by rw [er _ _ (Or.inr (by decide))]; exact hh.2.2.2.2 i hi⟩
theorem sR8 {h : oH} {r : Option Nat} : ∀ a k, (a ≠ 8 ∨ k ≠ 8) → hR (sR h 8 8 r) a k = hR h a k := fun a k q => by
  rw [hR_sR, if_neg (by omega)]
theorem oSh.s8 {h : oH} {r : Option Nat} (hs : oSh h) : oSh (sR h 8 8 r) := hs.f8 rfl sR8
set_option maxHeartbeats 4000000 in
set_option maxRecDepth 100000 in
theorem sp_cs0 (G : oG) {h : oH} (hs : oSh h) {k : Nat} (ht : (hI h 8 4).toInt = (k : Int)) (h7 : (hI h 8 7).toInt = 0) : oSp G mX3_canStandHere [.ref 8] h (some (.int (b1 (k = 1)))) h := by
  refine oSp.intro [some (.ref 8)] rfl (Nat.le_of_ble_eq_true rfl) (plainFor_of_name (by decide +kernel)) (Nat.le_refl _) ?_
  intro p l e R s m args below meth c C
  refine r_aload_n C rfl rfl dX3_canStandHere_0 ?_
  refine r_getI C dX3_canStandHere_1 fl_X3_34 rfl (q_lt hs (by decide)) ?_
  refine r_tableIn C 44 (by rw [h7]; decide) (by rw [h7]; decide) (by rw [h7]; rfl) (by decide) dX3_canStandHere_4 ?_
  refine r_aload_n C rfl rfl dX3_canStandHere_44 ?_
  refine r_getI C dX3_canStandHere_45 fl_X3_25 rfl (q_lt hs (by decide)) ?_
  refine r_iconstv C 1 rfl dX3_canStandHere_48 ?_
  refine t_icmp_ne C 56 (by decide) ht (show (1 : Int32).toInt = 1 from rfl) dX3_canStandHere_49 (fun c49 => ?_) (fun c49 => ?_)
  · first
    | (exfalso; omega)
    |  (refine r_iconstv C 0 rfl dX3_canStandHere_56 ?_
        exact r_zret C dX3_canStandHere_57 rfl rfl (Nat.le_refl _) (er_f (by omega)) rfl)
  · first
    | (exfalso; omega)
    |  (refine r_iconstv C 1 rfl dX3_canStandHere_52 ?_
        refine r_goto C 57 (by decide) dX3_canStandHere_53 ?_
        exact r_zret C dX3_canStandHere_57 rfl rfl (Nat.le_refl _) (er_t (by omega)) rfl)

set_option maxHeartbeats 4000000 in
set_option maxRecDepth 100000 in
theorem sp_cs1 (G : oG) {h : oH} (hs : oSh h) {k : Nat} (ht : (hI h 8 4).toInt = (k : Int)) (h7 : (hI h 8 7).toInt = 1) : oSp G mX3_canStandHere [.ref 8] h (some (.int (b1 (k = 5)))) h := by
  refine oSp.intro [some (.ref 8)] rfl (Nat.le_of_ble_eq_true rfl) (plainFor_of_name (by decide +kernel)) (Nat.le_refl _) ?_
  intro p l e R s m args below meth c C
  refine r_aload_n C rfl rfl dX3_canStandHere_0 ?_
  refine r_getI C dX3_canStandHere_1 fl_X3_34 rfl (q_lt hs (by decide)) ?_
  refine r_tableIn C 88 (by rw [h7]; decide) (by rw [h7]; decide) (by rw [h7]; rfl) (by decide) dX3_canStandHere_4 ?_
  refine r_aload_n C rfl rfl dX3_canStandHere_88 ?_
  refine r_getI C dX3_canStandHere_89 fl_X3_25 rfl (q_lt hs (by decide)) ?_
  refine r_iconstv C 5 rfl dX3_canStandHere_92 ?_
  refine t_icmp_ne C 100 (by decide) ht (show (5 : Int32).toInt = 5 from rfl) dX3_canStandHere_93 (fun c93 => ?_) (fun c93 => ?_)
  · first
    | (exfalso; omega)
    |  (refine r_iconstv C 0 rfl dX3_canStandHere_100 ?_
        exact r_zret C dX3_canStandHere_101 rfl rfl (Nat.le_refl _) (er_f (by omega)) rfl)
  · first
    | (exfalso; omega)
    |  (refine r_iconstv C 1 rfl dX3_canStandHere_96 ?_
        refine r_goto C 101 (by decide) dX3_canStandHere_97 ?_
        exact r_zret C dX3_canStandHere_101 rfl rfl (Nat.le_refl _) (er_t (by omega)) rfl)

set_option maxHeartbeats 4000000 in
set_option maxRecDepth 100000 in
theorem sp_cs2 (G : oG) {h : oH} (hs : oSh h) {k : Nat} (ht : (hI h 8 4).toInt = (k : Int)) (h7 : (hI h 8 7).toInt = 2) : oSp G mX3_canStandHere [.ref 8] h (some (.int (b1 ((2 ≤ k ∧ k ≤ 4))))) h := by
  refine oSp.intro [some (.ref 8)] rfl (Nat.le_of_ble_eq_true rfl) (plainFor_of_name (by decide +kernel)) (Nat.le_refl _) ?_
  intro p l e R s m args below meth c C
  refine r_aload_n C rfl rfl dX3_canStandHere_0 ?_
  refine r_getI C dX3_canStandHere_1 fl_X3_34 rfl (q_lt hs (by decide)) ?_
  refine r_tableIn C 58 (by rw [h7]; decide) (by rw [h7]; decide) (by rw [h7]; rfl) (by decide) dX3_canStandHere_4 ?_
  refine r_aload_n C rfl rfl dX3_canStandHere_58 ?_
  refine r_getI C dX3_canStandHere_59 fl_X3_25 rfl (q_lt hs (by decide)) ?_
  refine r_iconstv C 2 rfl dX3_canStandHere_62 ?_
  refine t_icmp_eq C 82 (by decide) ht (show (2 : Int32).toInt = 2 from rfl) dX3_canStandHere_63 (fun c63 => ?_) (fun c63 => ?_)
  · first
    | (exfalso; omega)
    |  (refine r_iconstv C 1 rfl dX3_canStandHere_82 ?_
        refine r_goto C 87 (by decide) dX3_canStandHere_83 ?_
        exact r_zret C dX3_canStandHere_87 rfl rfl (Nat.le_refl _) (er_t (by omega)) rfl)
  · first
    | (exfalso; omega)
    |  (refine r_aload_n C rfl rfl dX3_canStandHere_66 ?_
        refine r_getI C dX3_canStandHere_67 fl_X3_25 rfl (q_lt hs (by decide)) ?_
        refine r_iconstv C 3 rfl dX3_canStandHere_70 ?_
        refine t_icmp_eq C 82 (by decide) ht (show (3 : Int32).toInt = 3 from rfl) dX3_canStandHere_71 (fun c71 => ?_) (fun c71 => ?_)
        · first
          | (exfalso; omega)
          |  (refine r_iconstv C 1 rfl dX3_canStandHere_82 ?_
              refine r_goto C 87 (by decide) dX3_canStandHere_83 ?_
              exact r_zret C dX3_canStandHere_87 rfl rfl (Nat.le_refl _) (er_t (by omega)) rfl)
        · first
          | (exfalso; omega)
          |  (refine r_aload_n C rfl rfl dX3_canStandHere_74 ?_
              refine r_getI C dX3_canStandHere_75 fl_X3_25 rfl (q_lt hs (by decide)) ?_
              refine r_iconstv C 4 rfl dX3_canStandHere_78 ?_
              refine t_icmp_ne C 86 (by decide) ht (show (4 : Int32).toInt = 4 from rfl) dX3_canStandHere_79 (fun c79 => ?_) (fun c79 => ?_)
              · first
                | (exfalso; omega)
                |  (refine r_iconstv C 0 rfl dX3_canStandHere_86 ?_
                    exact r_zret C dX3_canStandHere_87 rfl rfl (Nat.le_refl _) (er_f (by omega)) rfl)
              · first
                | (exfalso; omega)
                |  (refine r_iconstv C 1 rfl dX3_canStandHere_82 ?_
                    refine r_goto C 87 (by decide) dX3_canStandHere_83 ?_
                    exact r_zret C dX3_canStandHere_87 rfl rfl (Nat.le_refl _) (er_t (by omega)) rfl)))

set_option maxHeartbeats 4000000 in
set_option maxRecDepth 100000 in
theorem sp_cs3 (G : oG) {h : oH} (hs : oSh h) {k : Nat} (ht : (hI h 8 4).toInt = (k : Int)) (h7 : (hI h 8 7).toInt = 3) : oSp G mX3_canStandHere [.ref 8] h (some (.int (b1 (k = 5)))) h := by
  refine oSp.intro [some (.ref 8)] rfl (Nat.le_of_ble_eq_true rfl) (plainFor_of_name (by decide +kernel)) (Nat.le_refl _) ?_
  intro p l e R s m args below meth c C
  refine r_aload_n C rfl rfl dX3_canStandHere_0 ?_
  refine r_getI C dX3_canStandHere_1 fl_X3_34 rfl (q_lt hs (by decide)) ?_
  refine r_tableIn C 88 (by rw [h7]; decide) (by rw [h7]; decide) (by rw [h7]; rfl) (by decide) dX3_canStandHere_4 ?_
  refine r_aload_n C rfl rfl dX3_canStandHere_88 ?_
  refine r_getI C dX3_canStandHere_89 fl_X3_25 rfl (q_lt hs (by decide)) ?_
  refine r_iconstv C 5 rfl dX3_canStandHere_92 ?_
  refine t_icmp_ne C 100 (by decide) ht (show (5 : Int32).toInt = 5 from rfl) dX3_canStandHere_93 (fun c93 => ?_) (fun c93 => ?_)
  · first
    | (exfalso; omega)
    |  (refine r_iconstv C 0 rfl dX3_canStandHere_100 ?_
        exact r_zret C dX3_canStandHere_101 rfl rfl (Nat.le_refl _) (er_f (by omega)) rfl)
  · first
    | (exfalso; omega)
    |  (refine r_iconstv C 1 rfl dX3_canStandHere_96 ?_
        refine r_goto C 101 (by decide) dX3_canStandHere_97 ?_
        exact r_zret C dX3_canStandHere_101 rfl rfl (Nat.le_refl _) (er_t (by omega)) rfl)

set_option maxHeartbeats 4000000 in
set_option maxRecDepth 100000 in
theorem sp_cs4 (G : oG) {h : oH} (hs : oSh h) {k : Nat} (ht : (hI h 8 4).toInt = (k : Int)) (h7 : (hI h 8 7).toInt = 4) : oSp G mX3_canStandHere [.ref 8] h (some (.int (b1 (k = 7)))) h := by
  refine oSp.intro [some (.ref 8)] rfl (Nat.le_of_ble_eq_true rfl) (plainFor_of_name (by decide +kernel)) (Nat.le_refl _) ?_
  intro p l e R s m args below meth c C
  refine r_aload_n C rfl rfl dX3_canStandHere_0 ?_
  refine r_getI C dX3_canStandHere_1 fl_X3_34 rfl (q_lt hs (by decide)) ?_
  refine r_tableIn C 102 (by rw [h7]; decide) (by rw [h7]; decide) (by rw [h7]; rfl) (by decide) dX3_canStandHere_4 ?_
  refine r_aload_n C rfl rfl dX3_canStandHere_102 ?_
  refine r_getI C dX3_canStandHere_103 fl_X3_25 rfl (q_lt hs (by decide)) ?_
  refine r_bipush C 7 rfl dX3_canStandHere_106 ?_
  refine t_icmp_ne C 115 (by decide) ht (show (7 : Int32).toInt = 7 from rfl) dX3_canStandHere_108 (fun c108 => ?_) (fun c108 => ?_)
  · first
    | (exfalso; omega)
    |  (refine r_iconstv C 0 rfl dX3_canStandHere_115 ?_
        exact r_zret C dX3_canStandHere_116 rfl rfl (Nat.le_refl _) (er_f (by omega)) rfl)
  · first
    | (exfalso; omega)
    |  (refine r_iconstv C 1 rfl dX3_canStandHere_111 ?_
        refine r_goto C 116 (by decide) dX3_canStandHere_112 ?_
        exact r_zret C dX3_canStandHere_116 rfl rfl (Nat.le_refl _) (er_t (by omega)) rfl)

set_option maxHeartbeats 4000000 in
set_option maxRecDepth 100000 in
theorem sp_cs5 (G : oG) {h : oH} (hs : oSh h) {k : Nat} (ht : (hI h 8 4).toInt = (k : Int)) (h7 : (hI h 8 7).toInt = 5) : oSp G mX3_canStandHere [.ref 8] h (some (.int (b1 (k = 5)))) h := by
  refine oSp.intro [some (.ref 8)] rfl (Nat.le_of_ble_eq_true rfl) (plainFor_of_name (by decide +kernel)) (Nat.le_refl _) ?_
  intro p l e R s m args below meth c C
  refine r_aload_n C rfl rfl dX3_canStandHere_0 ?_
  refine r_getI C dX3_canStandHere_1 fl_X3_34 rfl (q_lt hs (by decide)) ?_
  refine r_tableIn C 88 (by rw [h7]; decide) (by rw [h7]; decide) (by rw [h7]; rfl) (by decide) dX3_canStandHere_4 ?_
  refine r_aload_n C rfl rfl dX3_canStandHere_88 ?_
  refine r_getI C dX3_canStandHere_89 fl_X3_25 rfl (q_lt hs (by decide)) ?_
  refine r_iconstv C 5 rfl dX3_canStandHere_92 ?_
  refine t_icmp_ne C 100 (by decide) ht (show (5 : Int32).toInt = 5 from rfl) dX3_canStandHere_93 (fun c93 => ?_) (fun c93 => ?_)
  · first
    | (exfalso; omega)
    |  (refine r_iconstv C 0 rfl dX3_canStandHere_100 ?_
        exact r_zret C dX3_canStandHere_101 rfl rfl (Nat.le_refl _) (er_f (by omega)) rfl)
  · first
    | (exfalso; omega)
    |  (refine r_iconstv C 1 rfl dX3_canStandHere_96 ?_
        refine r_goto C 101 (by decide) dX3_canStandHere_97 ?_
        exact r_zret C dX3_canStandHere_101 rfl rfl (Nat.le_refl _) (er_t (by omega)) rfl)

set_option maxHeartbeats 4000000 in
set_option maxRecDepth 100000 in
theorem sp_cs6 (G : oG) {h : oH} (hs : oSh h) {k : Nat} (ht : (hI h 8 4).toInt = (k : Int)) (h7 : (hI h 8 7).toInt = 6) : oSp G mX3_canStandHere [.ref 8] h (some (.int (b1 (k = 6)))) h := by
  refine oSp.intro [some (.ref 8)] rfl (Nat.le_of_ble_eq_true rfl) (plainFor_of_name (by decide +kernel)) (Nat.le_refl _) ?_
  intro p l e R s m args below meth c C
  refine r_aload_n C rfl rfl dX3_canStandHere_0 ?_
  refine r_getI C dX3_canStandHere_1 fl_X3_34 rfl (q_lt hs (by decide)) ?_
  refine r_tableOut C 117 (by omega) (by decide) dX3_canStandHere_4 ?_
  refine r_aload_n C rfl rfl dX3_canStandHere_117 ?_
  refine r_getI C dX3_canStandHere_118 fl_X3_25 rfl (q_lt hs (by decide)) ?_
  refine r_bipush C 6 rfl dX3_canStandHere_121 ?_
  refine t_icmp_ne C 130 (by decide) ht (show (6 : Int32).toInt = 6 from rfl) dX3_canStandHere_123 (fun c123 => ?_) (fun c123 => ?_)
  · first
    | (exfalso; omega)
    |  (refine r_iconstv C 0 rfl dX3_canStandHere_130 ?_
        exact r_zret C dX3_canStandHere_131 rfl rfl (Nat.le_refl _) (er_f (by omega)) rfl)
  · first
    | (exfalso; omega)
    |  (refine r_iconstv C 1 rfl dX3_canStandHere_126 ?_
        refine r_goto C 131 (by decide) dX3_canStandHere_127 ?_
        exact r_zret C dX3_canStandHere_131 rfl rfl (Nat.le_refl _) (er_t (by omega)) rfl)

set_option maxHeartbeats 4000000 in
set_option maxRecDepth 100000 in
theorem sp_twc (G : oG) {h : oH} (hs : oSh h) (ht : (hI h 8 4).toInt = 3) : oSp G mX3_takeWay [.ref 8] h none (sI (sI h 8 9 1) 8 7 5) := by
  refine oSp.intro [some (.ref 8)] rfl (Nat.le_of_ble_eq_true rfl) (plainFor_of_name (by decide +kernel)) (Nat.le_refl _) ?_
  intro p l e R s m args below meth c C
  refine r_aload_n C rfl rfl dX3_takeWay_0 ?_
  refine r_getI C dX3_takeWay_1 fl_X3_25 rfl (q_lt hs (by decide)) ?_
  refine r_lookup C 32 (by decide) (by rw [ht]) (by decide) dX3_takeWay_4 ?_
  refine r_aload_n C rfl rfl dX3_takeWay_32 ?_
  refine r_iconstv C 1 rfl dX3_takeWay_33 ?_
  refine r_putI C dX3_takeWay_34 fl_X3_41 rfl (q_lt hs (by decide)) (Or.inl rfl) ?_
  refine r_aload_n C rfl rfl dX3_takeWay_37 ?_
  refine r_iconstv C 5 rfl dX3_takeWay_38 ?_
  refine r_putI C dX3_takeWay_39 fl_X3_34 rfl (q_lt hs (by decide)) (Or.inl rfl) ?_
  exact r_vret C dX3_takeWay_42 rfl (Nat.le_refl _) rfl

set_option maxHeartbeats 4000000 in
set_option maxRecDepth 100000 in
theorem sp_twp (G : oG) {h : oH} (hs : oSh h) (ht : (hI h 8 4).toInt = 4) : oSp G mX3_takeWay [.ref 8] h none (sI (sI h 8 9 2) 8 7 3) := by
  refine oSp.intro [some (.ref 8)] rfl (Nat.le_of_ble_eq_true rfl) (plainFor_of_name (by decide +kernel)) (Nat.le_refl _) ?_
  intro p l e R s m args below meth c C
  refine r_aload_n C rfl rfl dX3_takeWay_0 ?_
  refine r_getI C dX3_takeWay_1 fl_X3_25 rfl (q_lt hs (by decide)) ?_
  refine r_lookup C 43 (by decide) (by rw [ht]) (by decide) dX3_takeWay_4 ?_
  refine r_aload_n C rfl rfl dX3_takeWay_43 ?_
  refine r_iconstv C 2 rfl dX3_takeWay_44 ?_
  refine r_putI C dX3_takeWay_45 fl_X3_41 rfl (q_lt hs (by decide)) (Or.inl rfl) ?_
  refine r_aload_n C rfl rfl dX3_takeWay_48 ?_
  refine r_iconstv C 3 rfl dX3_takeWay_49 ?_
  refine r_putI C dX3_takeWay_50 fl_X3_34 rfl (q_lt hs (by decide)) (Or.inl rfl) ?_
  exact r_vret C dX3_takeWay_53 rfl (Nat.le_refl _) rfl

set_option maxHeartbeats 4000000 in
set_option maxRecDepth 100000 in
theorem sp_twd (G : oG) {h : oH} (hs : oSh h) (ht : (hI h 8 4).toInt = 2) : oSp G mX3_takeWay [.ref 8] h none (sI (sI h 8 9 0) 8 7 6) := by
  refine oSp.intro [some (.ref 8)] rfl (Nat.le_of_ble_eq_true rfl) (plainFor_of_name (by decide +kernel)) (Nat.le_refl _) ?_
  intro p l e R s m args below meth c C
  refine r_aload_n C rfl rfl dX3_takeWay_0 ?_
  refine r_getI C dX3_takeWay_1 fl_X3_25 rfl (q_lt hs (by decide)) ?_
  refine r_lookup C 54 (by decide) (by rw [ht]) (by decide) dX3_takeWay_4 ?_
  refine r_aload_n C rfl rfl dX3_takeWay_54 ?_
  refine r_iconstv C 0 rfl dX3_takeWay_55 ?_
  refine r_putI C dX3_takeWay_56 fl_X3_41 rfl (q_lt hs (by decide)) (Or.inl rfl) ?_
  refine r_aload_n C rfl rfl dX3_takeWay_59 ?_
  refine r_bipush C 6 rfl dX3_takeWay_60 ?_
  refine r_putI C dX3_takeWay_62 fl_X3_34 rfl (q_lt hs (by decide)) (Or.inl rfl) ?_
  exact r_vret C dX3_takeWay_65 rfl (Nat.le_refl _) rfl

set_option maxHeartbeats 4000000 in
set_option maxRecDepth 100000 in
theorem sp_ttX0 (G : oG) {h : oH} {n : Nat} (hh : oHs h n) {k : Nat} (ht : (hI h 8 4).toInt = (k : Int)) (h7 : (hI h 8 7).toInt = 0) (hl : ¬ (k = 1)) : oSp G mX3_takeToken [.ref 8, .ref 1] h (some (.int 1)) h := by
  have hs := hh.1
  have hcs := sp_cs0 G hs ht h7
  rw [b1_f (by omega)] at hcs
  refine oSp.intro [some (.ref 8), some (.ref 1)] rfl (Nat.le_of_ble_eq_true rfl) (plainFor_of_name (by decide +kernel)) (Nat.le_refl _) ?_
  intro p l e R s m args below meth c C
  refine r_aload_n C rfl rfl dX3_takeToken_0 ?_
  refine r_callV C hcs kv_X3_canStandHere kn_X3_canStandHere rfl dX3_takeToken_1 cl_X3_75 ⟨Nat.le_of_ble_eq_true rfl, Nat.le_of_ble_eq_true rfl⟩ (by decide) rfl rfl (q_lt hs (by decide)) (Nat.le_refl _) rfl (Nat.le_of_ble_eq_true rfl) ?_
  refine t_if_ne C 9 (by decide) (show (0 : Int32).toInt = 0 from rfl) dX3_takeToken_4 (fun c4 => absurd c4 (by decide)) (fun c4 => ?_)
  refine r_iconstv C 1 rfl dX3_takeToken_7 ?_
  exact r_iret C dX3_takeToken_8 rfl (Nat.le_refl _) rfl rfl

set_option maxHeartbeats 4000000 in
set_option maxRecDepth 100000 in
theorem sp_ttX1 (G : oG) {h : oH} {n : Nat} (hh : oHs h n) {k : Nat} (ht : (hI h 8 4).toInt = (k : Int)) (h7 : (hI h 8 7).toInt = 1) (hl : ¬ (k = 5)) : oSp G mX3_takeToken [.ref 8, .ref 1] h (some (.int 1)) h := by
  have hs := hh.1
  have hcs := sp_cs1 G hs ht h7
  rw [b1_f (by omega)] at hcs
  refine oSp.intro [some (.ref 8), some (.ref 1)] rfl (Nat.le_of_ble_eq_true rfl) (plainFor_of_name (by decide +kernel)) (Nat.le_refl _) ?_
  intro p l e R s m args below meth c C
  refine r_aload_n C rfl rfl dX3_takeToken_0 ?_
  refine r_callV C hcs kv_X3_canStandHere kn_X3_canStandHere rfl dX3_takeToken_1 cl_X3_75 ⟨Nat.le_of_ble_eq_true rfl, Nat.le_of_ble_eq_true rfl⟩ (by decide) rfl rfl (q_lt hs (by decide)) (Nat.le_refl _) rfl (Nat.le_of_ble_eq_true rfl) ?_
  refine t_if_ne C 9 (by decide) (show (0 : Int32).toInt = 0 from rfl) dX3_takeToken_4 (fun c4 => absurd c4 (by decide)) (fun c4 => ?_)
  refine r_iconstv C 1 rfl dX3_takeToken_7 ?_
  exact r_iret C dX3_takeToken_8 rfl (Nat.le_refl _) rfl rfl

set_option maxHeartbeats 4000000 in
set_option maxRecDepth 100000 in
theorem sp_ttX2 (G : oG) {h : oH} {n : Nat} (hh : oHs h n) {k : Nat} (ht : (hI h 8 4).toInt = (k : Int)) (h7 : (hI h 8 7).toInt = 2) (hl : ¬ ((2 ≤ k ∧ k ≤ 4))) : oSp G mX3_takeToken [.ref 8, .ref 1] h (some (.int 1)) h := by
  have hs := hh.1
  have hcs := sp_cs2 G hs ht h7
  rw [b1_f (by omega)] at hcs
  refine oSp.intro [some (.ref 8), some (.ref 1)] rfl (Nat.le_of_ble_eq_true rfl) (plainFor_of_name (by decide +kernel)) (Nat.le_refl _) ?_
  intro p l e R s m args below meth c C
  refine r_aload_n C rfl rfl dX3_takeToken_0 ?_
  refine r_callV C hcs kv_X3_canStandHere kn_X3_canStandHere rfl dX3_takeToken_1 cl_X3_75 ⟨Nat.le_of_ble_eq_true rfl, Nat.le_of_ble_eq_true rfl⟩ (by decide) rfl rfl (q_lt hs (by decide)) (Nat.le_refl _) rfl (Nat.le_of_ble_eq_true rfl) ?_
  refine t_if_ne C 9 (by decide) (show (0 : Int32).toInt = 0 from rfl) dX3_takeToken_4 (fun c4 => absurd c4 (by decide)) (fun c4 => ?_)
  refine r_iconstv C 1 rfl dX3_takeToken_7 ?_
  exact r_iret C dX3_takeToken_8 rfl (Nat.le_refl _) rfl rfl

set_option maxHeartbeats 4000000 in
set_option maxRecDepth 100000 in
theorem sp_ttX3 (G : oG) {h : oH} {n : Nat} (hh : oHs h n) {k : Nat} (ht : (hI h 8 4).toInt = (k : Int)) (h7 : (hI h 8 7).toInt = 3) (hl : ¬ (k = 5)) : oSp G mX3_takeToken [.ref 8, .ref 1] h (some (.int 1)) h := by
  have hs := hh.1
  have hcs := sp_cs3 G hs ht h7
  rw [b1_f (by omega)] at hcs
  refine oSp.intro [some (.ref 8), some (.ref 1)] rfl (Nat.le_of_ble_eq_true rfl) (plainFor_of_name (by decide +kernel)) (Nat.le_refl _) ?_
  intro p l e R s m args below meth c C
  refine r_aload_n C rfl rfl dX3_takeToken_0 ?_
  refine r_callV C hcs kv_X3_canStandHere kn_X3_canStandHere rfl dX3_takeToken_1 cl_X3_75 ⟨Nat.le_of_ble_eq_true rfl, Nat.le_of_ble_eq_true rfl⟩ (by decide) rfl rfl (q_lt hs (by decide)) (Nat.le_refl _) rfl (Nat.le_of_ble_eq_true rfl) ?_
  refine t_if_ne C 9 (by decide) (show (0 : Int32).toInt = 0 from rfl) dX3_takeToken_4 (fun c4 => absurd c4 (by decide)) (fun c4 => ?_)
  refine r_iconstv C 1 rfl dX3_takeToken_7 ?_
  exact r_iret C dX3_takeToken_8 rfl (Nat.le_refl _) rfl rfl

set_option maxHeartbeats 4000000 in
set_option maxRecDepth 100000 in
theorem sp_ttX4 (G : oG) {h : oH} {n : Nat} (hh : oHs h n) {k : Nat} (ht : (hI h 8 4).toInt = (k : Int)) (h7 : (hI h 8 7).toInt = 4) (hl : ¬ (k = 7)) : oSp G mX3_takeToken [.ref 8, .ref 1] h (some (.int 1)) h := by
  have hs := hh.1
  have hcs := sp_cs4 G hs ht h7
  rw [b1_f (by omega)] at hcs
  refine oSp.intro [some (.ref 8), some (.ref 1)] rfl (Nat.le_of_ble_eq_true rfl) (plainFor_of_name (by decide +kernel)) (Nat.le_refl _) ?_
  intro p l e R s m args below meth c C
  refine r_aload_n C rfl rfl dX3_takeToken_0 ?_
  refine r_callV C hcs kv_X3_canStandHere kn_X3_canStandHere rfl dX3_takeToken_1 cl_X3_75 ⟨Nat.le_of_ble_eq_true rfl, Nat.le_of_ble_eq_true rfl⟩ (by decide) rfl rfl (q_lt hs (by decide)) (Nat.le_refl _) rfl (Nat.le_of_ble_eq_true rfl) ?_
  refine t_if_ne C 9 (by decide) (show (0 : Int32).toInt = 0 from rfl) dX3_takeToken_4 (fun c4 => absurd c4 (by decide)) (fun c4 => ?_)
  refine r_iconstv C 1 rfl dX3_takeToken_7 ?_
  exact r_iret C dX3_takeToken_8 rfl (Nat.le_refl _) rfl rfl

set_option maxHeartbeats 4000000 in
set_option maxRecDepth 100000 in
theorem sp_ttX5 (G : oG) {h : oH} {n : Nat} (hh : oHs h n) {k : Nat} (ht : (hI h 8 4).toInt = (k : Int)) (h7 : (hI h 8 7).toInt = 5) (hl : ¬ (k = 5)) : oSp G mX3_takeToken [.ref 8, .ref 1] h (some (.int 1)) h := by
  have hs := hh.1
  have hcs := sp_cs5 G hs ht h7
  rw [b1_f (by omega)] at hcs
  refine oSp.intro [some (.ref 8), some (.ref 1)] rfl (Nat.le_of_ble_eq_true rfl) (plainFor_of_name (by decide +kernel)) (Nat.le_refl _) ?_
  intro p l e R s m args below meth c C
  refine r_aload_n C rfl rfl dX3_takeToken_0 ?_
  refine r_callV C hcs kv_X3_canStandHere kn_X3_canStandHere rfl dX3_takeToken_1 cl_X3_75 ⟨Nat.le_of_ble_eq_true rfl, Nat.le_of_ble_eq_true rfl⟩ (by decide) rfl rfl (q_lt hs (by decide)) (Nat.le_refl _) rfl (Nat.le_of_ble_eq_true rfl) ?_
  refine t_if_ne C 9 (by decide) (show (0 : Int32).toInt = 0 from rfl) dX3_takeToken_4 (fun c4 => absurd c4 (by decide)) (fun c4 => ?_)
  refine r_iconstv C 1 rfl dX3_takeToken_7 ?_
  exact r_iret C dX3_takeToken_8 rfl (Nat.le_refl _) rfl rfl

set_option maxHeartbeats 4000000 in
set_option maxRecDepth 100000 in
theorem sp_ttX6 (G : oG) {h : oH} {n : Nat} (hh : oHs h n) {k : Nat} (ht : (hI h 8 4).toInt = (k : Int)) (h7 : (hI h 8 7).toInt = 6) (hl : ¬ (k = 6)) : oSp G mX3_takeToken [.ref 8, .ref 1] h (some (.int 1)) h := by
  have hs := hh.1
  have hcs := sp_cs6 G hs ht h7
  rw [b1_f (by omega)] at hcs
  refine oSp.intro [some (.ref 8), some (.ref 1)] rfl (Nat.le_of_ble_eq_true rfl) (plainFor_of_name (by decide +kernel)) (Nat.le_refl _) ?_
  intro p l e R s m args below meth c C
  refine r_aload_n C rfl rfl dX3_takeToken_0 ?_
  refine r_callV C hcs kv_X3_canStandHere kn_X3_canStandHere rfl dX3_takeToken_1 cl_X3_75 ⟨Nat.le_of_ble_eq_true rfl, Nat.le_of_ble_eq_true rfl⟩ (by decide) rfl rfl (q_lt hs (by decide)) (Nat.le_refl _) rfl (Nat.le_of_ble_eq_true rfl) ?_
  refine t_if_ne C 9 (by decide) (show (0 : Int32).toInt = 0 from rfl) dX3_takeToken_4 (fun c4 => absurd c4 (by decide)) (fun c4 => ?_)
  refine r_iconstv C 1 rfl dX3_takeToken_7 ?_
  exact r_iret C dX3_takeToken_8 rfl (Nat.le_refl _) rfl rfl

set_option maxHeartbeats 4000000 in
set_option maxRecDepth 100000 in
theorem sp_tt0 (G : oG) {h : oH} {n : Nat} (hh : oHs h n) {k : Nat} (ht : (hI h 8 4).toInt = (k : Int)) (h7 : (hI h 8 7).toInt = 0) (hl : k = 1) : oSp G mX3_takeToken [.ref 8, .ref 1] h (some (.int 0)) (sI (sI (sI h 8 10 0) 8 11 0) 8 7 1) := by
  have hs := hh.1
  have hcs := sp_cs0 G hs ht h7
  rw [b1_t (by omega)] at hcs
  refine oSp.intro [some (.ref 8), some (.ref 1)] rfl (Nat.le_of_ble_eq_true rfl) (plainFor_of_name (by decide +kernel)) (Nat.le_refl _) ?_
  intro p l e R s m args below meth c C
  refine r_aload_n C rfl rfl dX3_takeToken_0 ?_
  refine r_callV C hcs kv_X3_canStandHere kn_X3_canStandHere rfl dX3_takeToken_1 cl_X3_75 ⟨Nat.le_of_ble_eq_true rfl, Nat.le_of_ble_eq_true rfl⟩ (by decide) rfl rfl (q_lt hs (by decide)) (Nat.le_refl _) rfl (Nat.le_of_ble_eq_true rfl) ?_
  refine t_if_ne C 9 (by decide) (show (1 : Int32).toInt = 1 from rfl) dX3_takeToken_4 (fun c4 => ?_) (fun c4 => absurd c4 (by decide))
  refine r_aload_n C rfl rfl dX3_takeToken_9 ?_
  refine r_getI C dX3_takeToken_10 fl_X3_34 rfl (q_lt hs (by decide)) ?_
  refine r_tableIn C 52 (by rw [h7]; decide) (by rw [h7]; decide) (by rw [h7]; rfl) (by decide) dX3_takeToken_13 ?_
  refine r_aload_n C rfl rfl dX3_takeToken_52 ?_
  refine r_iconstv C 0 rfl dX3_takeToken_53 ?_
  refine r_putI C dX3_takeToken_54 fl_X3_44 rfl (q_lt hs (by decide)) (Or.inl rfl) ?_
  refine r_aload_n C rfl rfl dX3_takeToken_57 ?_
  refine r_iconstv C 0 rfl dX3_takeToken_58 ?_
  refine r_putI C dX3_takeToken_59 fl_X3_47 rfl (q_lt hs (by decide)) (Or.inl rfl) ?_
  refine r_aload_n C rfl rfl dX3_takeToken_62 ?_
  refine r_iconstv C 1 rfl dX3_takeToken_63 ?_
  refine r_putI C dX3_takeToken_64 fl_X3_34 rfl (q_lt hs (by decide)) (Or.inl rfl) ?_
  refine r_iconstv C 0 rfl dX3_takeToken_67 ?_
  exact r_iret C dX3_takeToken_68 rfl (Nat.le_refl _) rfl rfl

set_option maxHeartbeats 4000000 in
set_option maxRecDepth 100000 in
theorem sp_tt1 (G : oG) {h : oH} {n : Nat} (hh : oHs h n) {k : Nat} (ht : (hI h 8 4).toInt = (k : Int)) (h7 : (hI h 8 7).toInt = 1) (hl : k = 5) {v : Nat} (h6 : (hI h 8 6).toInt = (v : Int)) (hv : v < n) : oSp G mX3_takeToken [.ref 8, .ref 1] h (some (.int 0)) (sI (sR h 8 8 (some (hid v))) 8 7 2) := by
  have hs := hh.1
  have hcs := sp_cs1 G hs ht h7
  rw [b1_t (by omega)] at hcs
  refine oSp.intro [some (.ref 8), some (.ref 1)] rfl (Nat.le_of_ble_eq_true rfl) (plainFor_of_name (by decide +kernel)) (Nat.le_refl _) ?_
  intro p l e R s m args below meth c C
  refine r_aload_n C rfl rfl dX3_takeToken_0 ?_
  refine r_callV C hcs kv_X3_canStandHere kn_X3_canStandHere rfl dX3_takeToken_1 cl_X3_75 ⟨Nat.le_of_ble_eq_true rfl, Nat.le_of_ble_eq_true rfl⟩ (by decide) rfl rfl (q_lt hs (by decide)) (Nat.le_refl _) rfl (Nat.le_of_ble_eq_true rfl) ?_
  refine t_if_ne C 9 (by decide) (show (1 : Int32).toInt = 1 from rfl) dX3_takeToken_4 (fun c4 => ?_) (fun c4 => absurd c4 (by decide))
  refine r_aload_n C rfl rfl dX3_takeToken_9 ?_
  refine r_getI C dX3_takeToken_10 fl_X3_34 rfl (q_lt hs (by decide)) ?_
  refine r_tableIn C 69 (by rw [h7]; decide) (by rw [h7]; decide) (by rw [h7]; rfl) (by decide) dX3_takeToken_13 ?_
  refine r_aload_n C rfl rfl dX3_takeToken_69 ?_
  refine r_aload_n C rfl rfl dX3_takeToken_70 ?_
  refine r_aload_n C rfl rfl dX3_takeToken_71 ?_
  refine r_getI C dX3_takeToken_72 fl_X3_31 rfl (q_lt hs (by decide)) ?_
  refine r_callSN C (sp_houseIn G hh _ hv h6) ks_X5_houseIn kn_X5_houseIn rfl dX3_takeToken_75 nl_X3_79 ⟨Nat.le_of_ble_eq_true rfl, Nat.le_of_ble_eq_true rfl⟩ (Nat.le_refl _) rfl (Nat.le_of_ble_eq_true rfl) ?_
  refine r_putR C (some (hid v)) rfl dX3_takeToken_78 fl_X3_37 rfl rfl (q_lt hs (by decide)) (Or.inl rfl) ?_
  have hs := hs.s8 (r := some (hid v))
  refine r_aload_n C rfl rfl dX3_takeToken_81 ?_
  refine r_iconstv C 2 rfl dX3_takeToken_82 ?_
  refine r_putI C dX3_takeToken_83 fl_X3_34 rfl (q_lt hs (by decide)) (Or.inl rfl) ?_
  refine r_aload_n C rfl rfl dX3_takeToken_86 ?_
  refine r_getR C dX3_takeToken_87 fl_X3_37 rfl rfl (q_lt hs (by decide)) rfl ?_
  refine r_ifnonnull C 97 (by decide) dX3_takeToken_90 ?_
  refine r_iconstv C 0 rfl dX3_takeToken_97 ?_
  exact r_iret C dX3_takeToken_98 rfl (Nat.le_refl _) rfl rfl

set_option maxHeartbeats 4000000 in
set_option maxRecDepth 100000 in
theorem sp_tt1N (G : oG) {h : oH} {n : Nat} (hh : oHs h n) {k : Nat} (ht : (hI h 8 4).toInt = (k : Int)) (h7 : (hI h 8 7).toInt = 1) (hl : k = 5) {v : Nat} (h6 : (hI h 8 6).toInt = (v : Int)) (hv : ¬ v < n) : oSp G mX3_takeToken [.ref 8, .ref 1] h (some (.int 2)) (sI (sR h 8 8 none) 8 7 2) := by
  have hs := hh.1
  have hcs := sp_cs1 G hs ht h7
  rw [b1_t (by omega)] at hcs
  refine oSp.intro [some (.ref 8), some (.ref 1)] rfl (Nat.le_of_ble_eq_true rfl) (plainFor_of_name (by decide +kernel)) (Nat.le_refl _) ?_
  intro p l e R s m args below meth c C
  refine r_aload_n C rfl rfl dX3_takeToken_0 ?_
  refine r_callV C hcs kv_X3_canStandHere kn_X3_canStandHere rfl dX3_takeToken_1 cl_X3_75 ⟨Nat.le_of_ble_eq_true rfl, Nat.le_of_ble_eq_true rfl⟩ (by decide) rfl rfl (q_lt hs (by decide)) (Nat.le_refl _) rfl (Nat.le_of_ble_eq_true rfl) ?_
  refine t_if_ne C 9 (by decide) (show (1 : Int32).toInt = 1 from rfl) dX3_takeToken_4 (fun c4 => ?_) (fun c4 => absurd c4 (by decide))
  refine r_aload_n C rfl rfl dX3_takeToken_9 ?_
  refine r_getI C dX3_takeToken_10 fl_X3_34 rfl (q_lt hs (by decide)) ?_
  refine r_tableIn C 69 (by rw [h7]; decide) (by rw [h7]; decide) (by rw [h7]; rfl) (by decide) dX3_takeToken_13 ?_
  refine r_aload_n C rfl rfl dX3_takeToken_69 ?_
  refine r_aload_n C rfl rfl dX3_takeToken_70 ?_
  refine r_aload_n C rfl rfl dX3_takeToken_71 ?_
  refine r_getI C dX3_takeToken_72 fl_X3_31 rfl (q_lt hs (by decide)) ?_
  refine r_callSN C (sp_houseInN G hh _ (by omega)) ks_X5_houseIn kn_X5_houseIn rfl dX3_takeToken_75 nl_X3_79 ⟨Nat.le_of_ble_eq_true rfl, Nat.le_of_ble_eq_true rfl⟩ (Nat.le_refl _) rfl (Nat.le_of_ble_eq_true rfl) ?_
  refine r_putR C none rfl dX3_takeToken_78 fl_X3_37 rfl rfl (q_lt hs (by decide)) (Or.inl rfl) ?_
  have hs := hs.s8 (r := none)
  refine r_aload_n C rfl rfl dX3_takeToken_81 ?_
  refine r_iconstv C 2 rfl dX3_takeToken_82 ?_
  refine r_putI C dX3_takeToken_83 fl_X3_34 rfl (q_lt hs (by decide)) (Or.inl rfl) ?_
  refine r_aload_n C rfl rfl dX3_takeToken_86 ?_
  refine r_getR C dX3_takeToken_87 fl_X3_37 rfl rfl (q_lt hs (by decide)) rfl ?_
  refine r_ifnonnullN C dX3_takeToken_90 ?_
  refine r_iconstv C 2 rfl dX3_takeToken_93 ?_
  refine r_goto C 98 (by decide) dX3_takeToken_94 ?_
  exact r_iret C dX3_takeToken_98 rfl (Nat.le_refl _) rfl rfl

set_option maxHeartbeats 4000000 in
set_option maxRecDepth 100000 in
theorem sp_tt2c (G : oG) {h : oH} {n : Nat} (hh : oHs h n) {k : Nat} (ht : (hI h 8 4).toInt = (k : Int)) (h7 : (hI h 8 7).toInt = 2) (hl : k = 3) : oSp G mX3_takeToken [.ref 8, .ref 1] h (some (.int 0)) (sI (sI h 8 9 1) 8 7 5) := by
  have hs := hh.1
  have hcs := sp_cs2 G hs ht h7
  rw [b1_t (by omega)] at hcs
  refine oSp.intro [some (.ref 8), some (.ref 1)] rfl (Nat.le_of_ble_eq_true rfl) (plainFor_of_name (by decide +kernel)) (Nat.le_refl _) ?_
  intro p l e R s m args below meth c C
  refine r_aload_n C rfl rfl dX3_takeToken_0 ?_
  refine r_callV C hcs kv_X3_canStandHere kn_X3_canStandHere rfl dX3_takeToken_1 cl_X3_75 ⟨Nat.le_of_ble_eq_true rfl, Nat.le_of_ble_eq_true rfl⟩ (by decide) rfl rfl (q_lt hs (by decide)) (Nat.le_refl _) rfl (Nat.le_of_ble_eq_true rfl) ?_
  refine t_if_ne C 9 (by decide) (show (1 : Int32).toInt = 1 from rfl) dX3_takeToken_4 (fun c4 => ?_) (fun c4 => absurd c4 (by decide))
  refine r_aload_n C rfl rfl dX3_takeToken_9 ?_
  refine r_getI C dX3_takeToken_10 fl_X3_34 rfl (q_lt hs (by decide)) ?_
  refine r_tableIn C 99 (by rw [h7]; decide) (by rw [h7]; decide) (by rw [h7]; rfl) (by decide) dX3_takeToken_13 ?_
  refine r_aload_n C rfl rfl dX3_takeToken_99 ?_
  refine r_callV C (sp_twc G hs (by omega)) kv_X3_takeWay kn_X3_takeWay rfl dX3_takeToken_100 cl_X3_83 ⟨Nat.le_of_ble_eq_true rfl, Nat.le_of_ble_eq_true rfl⟩ (by decide) rfl rfl (q_lt hs (by decide)) (Nat.le_refl _) rfl (Nat.le_of_ble_eq_true rfl) ?_
  refine r_iconstv C 0 rfl dX3_takeToken_103 ?_
  exact r_iret C dX3_takeToken_104 rfl (Nat.le_refl _) rfl rfl

set_option maxHeartbeats 4000000 in
set_option maxRecDepth 100000 in
theorem sp_tt2p (G : oG) {h : oH} {n : Nat} (hh : oHs h n) {k : Nat} (ht : (hI h 8 4).toInt = (k : Int)) (h7 : (hI h 8 7).toInt = 2) (hl : k = 4) : oSp G mX3_takeToken [.ref 8, .ref 1] h (some (.int 0)) (sI (sI h 8 9 2) 8 7 3) := by
  have hs := hh.1
  have hcs := sp_cs2 G hs ht h7
  rw [b1_t (by omega)] at hcs
  refine oSp.intro [some (.ref 8), some (.ref 1)] rfl (Nat.le_of_ble_eq_true rfl) (plainFor_of_name (by decide +kernel)) (Nat.le_refl _) ?_
  intro p l e R s m args below meth c C
  refine r_aload_n C rfl rfl dX3_takeToken_0 ?_
  refine r_callV C hcs kv_X3_canStandHere kn_X3_canStandHere rfl dX3_takeToken_1 cl_X3_75 ⟨Nat.le_of_ble_eq_true rfl, Nat.le_of_ble_eq_true rfl⟩ (by decide) rfl rfl (q_lt hs (by decide)) (Nat.le_refl _) rfl (Nat.le_of_ble_eq_true rfl) ?_
  refine t_if_ne C 9 (by decide) (show (1 : Int32).toInt = 1 from rfl) dX3_takeToken_4 (fun c4 => ?_) (fun c4 => absurd c4 (by decide))
  refine r_aload_n C rfl rfl dX3_takeToken_9 ?_
  refine r_getI C dX3_takeToken_10 fl_X3_34 rfl (q_lt hs (by decide)) ?_
  refine r_tableIn C 99 (by rw [h7]; decide) (by rw [h7]; decide) (by rw [h7]; rfl) (by decide) dX3_takeToken_13 ?_
  refine r_aload_n C rfl rfl dX3_takeToken_99 ?_
  refine r_callV C (sp_twp G hs (by omega)) kv_X3_takeWay kn_X3_takeWay rfl dX3_takeToken_100 cl_X3_83 ⟨Nat.le_of_ble_eq_true rfl, Nat.le_of_ble_eq_true rfl⟩ (by decide) rfl rfl (q_lt hs (by decide)) (Nat.le_refl _) rfl (Nat.le_of_ble_eq_true rfl) ?_
  refine r_iconstv C 0 rfl dX3_takeToken_103 ?_
  exact r_iret C dX3_takeToken_104 rfl (Nat.le_refl _) rfl rfl

set_option maxHeartbeats 4000000 in
set_option maxRecDepth 100000 in
theorem sp_tt2d (G : oG) {h : oH} {n : Nat} (hh : oHs h n) {k : Nat} (ht : (hI h 8 4).toInt = (k : Int)) (h7 : (hI h 8 7).toInt = 2) (hl : k = 2) : oSp G mX3_takeToken [.ref 8, .ref 1] h (some (.int 0)) (sI (sI h 8 9 0) 8 7 6) := by
  have hs := hh.1
  have hcs := sp_cs2 G hs ht h7
  rw [b1_t (by omega)] at hcs
  refine oSp.intro [some (.ref 8), some (.ref 1)] rfl (Nat.le_of_ble_eq_true rfl) (plainFor_of_name (by decide +kernel)) (Nat.le_refl _) ?_
  intro p l e R s m args below meth c C
  refine r_aload_n C rfl rfl dX3_takeToken_0 ?_
  refine r_callV C hcs kv_X3_canStandHere kn_X3_canStandHere rfl dX3_takeToken_1 cl_X3_75 ⟨Nat.le_of_ble_eq_true rfl, Nat.le_of_ble_eq_true rfl⟩ (by decide) rfl rfl (q_lt hs (by decide)) (Nat.le_refl _) rfl (Nat.le_of_ble_eq_true rfl) ?_
  refine t_if_ne C 9 (by decide) (show (1 : Int32).toInt = 1 from rfl) dX3_takeToken_4 (fun c4 => ?_) (fun c4 => absurd c4 (by decide))
  refine r_aload_n C rfl rfl dX3_takeToken_9 ?_
  refine r_getI C dX3_takeToken_10 fl_X3_34 rfl (q_lt hs (by decide)) ?_
  refine r_tableIn C 99 (by rw [h7]; decide) (by rw [h7]; decide) (by rw [h7]; rfl) (by decide) dX3_takeToken_13 ?_
  refine r_aload_n C rfl rfl dX3_takeToken_99 ?_
  refine r_callV C (sp_twd G hs (by omega)) kv_X3_takeWay kn_X3_takeWay rfl dX3_takeToken_100 cl_X3_83 ⟨Nat.le_of_ble_eq_true rfl, Nat.le_of_ble_eq_true rfl⟩ (by decide) rfl rfl (q_lt hs (by decide)) (Nat.le_refl _) rfl (Nat.le_of_ble_eq_true rfl) ?_
  refine r_iconstv C 0 rfl dX3_takeToken_103 ?_
  exact r_iret C dX3_takeToken_104 rfl (Nat.le_refl _) rfl rfl

set_option maxHeartbeats 4000000 in
set_option maxRecDepth 100000 in
theorem sp_tt3 (G : oG) {h : oH} {n : Nat} (hh : oHs h n) {k : Nat} (ht : (hI h 8 4).toInt = (k : Int)) (h7 : (hI h 8 7).toInt = 3) (hl : k = 5) : oSp G mX3_takeToken [.ref 8, .ref 1] h (some (.int 0)) (sI (sI h 8 10 (hI h 8 6)) 8 7 4) := by
  have hs := hh.1
  have hcs := sp_cs3 G hs ht h7
  rw [b1_t (by omega)] at hcs
  refine oSp.intro [some (.ref 8), some (.ref 1)] rfl (Nat.le_of_ble_eq_true rfl) (plainFor_of_name (by decide +kernel)) (Nat.le_refl _) ?_
  intro p l e R s m args below meth c C
  refine r_aload_n C rfl rfl dX3_takeToken_0 ?_
  refine r_callV C hcs kv_X3_canStandHere kn_X3_canStandHere rfl dX3_takeToken_1 cl_X3_75 ⟨Nat.le_of_ble_eq_true rfl, Nat.le_of_ble_eq_true rfl⟩ (by decide) rfl rfl (q_lt hs (by decide)) (Nat.le_refl _) rfl (Nat.le_of_ble_eq_true rfl) ?_
  refine t_if_ne C 9 (by decide) (show (1 : Int32).toInt = 1 from rfl) dX3_takeToken_4 (fun c4 => ?_) (fun c4 => absurd c4 (by decide))
  refine r_aload_n C rfl rfl dX3_takeToken_9 ?_
  refine r_getI C dX3_takeToken_10 fl_X3_34 rfl (q_lt hs (by decide)) ?_
  refine r_tableIn C 105 (by rw [h7]; decide) (by rw [h7]; decide) (by rw [h7]; rfl) (by decide) dX3_takeToken_13 ?_
  refine r_aload_n C rfl rfl dX3_takeToken_105 ?_
  refine r_aload_n C rfl rfl dX3_takeToken_106 ?_
  refine r_getI C dX3_takeToken_107 fl_X3_31 rfl (q_lt hs (by decide)) ?_
  refine r_putI C dX3_takeToken_110 fl_X3_44 rfl (q_lt hs (by decide)) (Or.inl rfl) ?_
  refine r_aload_n C rfl rfl dX3_takeToken_113 ?_
  refine r_iconstv C 4 rfl dX3_takeToken_114 ?_
  refine r_putI C dX3_takeToken_115 fl_X3_34 rfl (q_lt hs (by decide)) (Or.inl rfl) ?_
  refine r_iconstv C 0 rfl dX3_takeToken_118 ?_
  exact r_iret C dX3_takeToken_119 rfl (Nat.le_refl _) rfl rfl

set_option maxHeartbeats 4000000 in
set_option maxRecDepth 100000 in
theorem sp_tt4 (G : oG) {h : oH} {n : Nat} (hh : oHs h n) {k : Nat} (ht : (hI h 8 4).toInt = (k : Int)) (h7 : (hI h 8 7).toInt = 4) (hl : k = 7) : oSp G mX3_takeToken [.ref 8, .ref 1] h (some (.int 0)) (sI h 8 7 5) := by
  have hs := hh.1
  have hcs := sp_cs4 G hs ht h7
  rw [b1_t (by omega)] at hcs
  refine oSp.intro [some (.ref 8), some (.ref 1)] rfl (Nat.le_of_ble_eq_true rfl) (plainFor_of_name (by decide +kernel)) (Nat.le_refl _) ?_
  intro p l e R s m args below meth c C
  refine r_aload_n C rfl rfl dX3_takeToken_0 ?_
  refine r_callV C hcs kv_X3_canStandHere kn_X3_canStandHere rfl dX3_takeToken_1 cl_X3_75 ⟨Nat.le_of_ble_eq_true rfl, Nat.le_of_ble_eq_true rfl⟩ (by decide) rfl rfl (q_lt hs (by decide)) (Nat.le_refl _) rfl (Nat.le_of_ble_eq_true rfl) ?_
  refine t_if_ne C 9 (by decide) (show (1 : Int32).toInt = 1 from rfl) dX3_takeToken_4 (fun c4 => ?_) (fun c4 => absurd c4 (by decide))
  refine r_aload_n C rfl rfl dX3_takeToken_9 ?_
  refine r_getI C dX3_takeToken_10 fl_X3_34 rfl (q_lt hs (by decide)) ?_
  refine r_tableIn C 120 (by rw [h7]; decide) (by rw [h7]; decide) (by rw [h7]; rfl) (by decide) dX3_takeToken_13 ?_
  refine r_aload_n C rfl rfl dX3_takeToken_120 ?_
  refine r_iconstv C 5 rfl dX3_takeToken_121 ?_
  refine r_putI C dX3_takeToken_122 fl_X3_34 rfl (q_lt hs (by decide)) (Or.inl rfl) ?_
  refine r_iconstv C 0 rfl dX3_takeToken_125 ?_
  exact r_iret C dX3_takeToken_126 rfl (Nat.le_refl _) rfl rfl

set_option maxHeartbeats 4000000 in
set_option maxRecDepth 100000 in
theorem sp_tt5 (G : oG) {h : oH} {n : Nat} (hh : oHs h n) {k : Nat} (ht : (hI h 8 4).toInt = (k : Int)) (h7 : (hI h 8 7).toInt = 5) (hl : k = 5) : oSp G mX3_takeToken [.ref 8, .ref 1] h (some (.int 0)) (sI (sI h 8 11 (hI h 8 6)) 8 7 6) := by
  have hs := hh.1
  have hcs := sp_cs5 G hs ht h7
  rw [b1_t (by omega)] at hcs
  refine oSp.intro [some (.ref 8), some (.ref 1)] rfl (Nat.le_of_ble_eq_true rfl) (plainFor_of_name (by decide +kernel)) (Nat.le_refl _) ?_
  intro p l e R s m args below meth c C
  refine r_aload_n C rfl rfl dX3_takeToken_0 ?_
  refine r_callV C hcs kv_X3_canStandHere kn_X3_canStandHere rfl dX3_takeToken_1 cl_X3_75 ⟨Nat.le_of_ble_eq_true rfl, Nat.le_of_ble_eq_true rfl⟩ (by decide) rfl rfl (q_lt hs (by decide)) (Nat.le_refl _) rfl (Nat.le_of_ble_eq_true rfl) ?_
  refine t_if_ne C 9 (by decide) (show (1 : Int32).toInt = 1 from rfl) dX3_takeToken_4 (fun c4 => ?_) (fun c4 => absurd c4 (by decide))
  refine r_aload_n C rfl rfl dX3_takeToken_9 ?_
  refine r_getI C dX3_takeToken_10 fl_X3_34 rfl (q_lt hs (by decide)) ?_
  refine r_tableIn C 127 (by rw [h7]; decide) (by rw [h7]; decide) (by rw [h7]; rfl) (by decide) dX3_takeToken_13 ?_
  refine r_aload_n C rfl rfl dX3_takeToken_127 ?_
  refine r_aload_n C rfl rfl dX3_takeToken_128 ?_
  refine r_getI C dX3_takeToken_129 fl_X3_31 rfl (q_lt hs (by decide)) ?_
  refine r_putI C dX3_takeToken_132 fl_X3_47 rfl (q_lt hs (by decide)) (Or.inl rfl) ?_
  refine r_aload_n C rfl rfl dX3_takeToken_135 ?_
  refine r_bipush C 6 rfl dX3_takeToken_136 ?_
  refine r_putI C dX3_takeToken_138 fl_X3_34 rfl (q_lt hs (by decide)) (Or.inl rfl) ?_
  refine r_iconstv C 0 rfl dX3_takeToken_141 ?_
  exact r_iret C dX3_takeToken_142 rfl (Nat.le_refl _) rfl rfl

set_option maxHeartbeats 4000000 in
set_option maxRecDepth 100000 in
theorem sp_tt6 (G : oG) {h : oH} {n : Nat} (hh : oHs h n) {k : Nat} (ht : (hI h 8 4).toInt = (k : Int)) (h7 : (hI h 8 7).toInt = 6) (hl : k = 6) : oSp G mX3_takeToken [.ref 8, .ref 1] h (some (.int 0)) (sI h 8 7 0) := by
  have hs := hh.1
  have hcs := sp_cs6 G hs ht h7
  rw [b1_t (by omega)] at hcs
  refine oSp.intro [some (.ref 8), some (.ref 1)] rfl (Nat.le_of_ble_eq_true rfl) (plainFor_of_name (by decide +kernel)) (Nat.le_refl _) ?_
  intro p l e R s m args below meth c C
  refine r_aload_n C rfl rfl dX3_takeToken_0 ?_
  refine r_callV C hcs kv_X3_canStandHere kn_X3_canStandHere rfl dX3_takeToken_1 cl_X3_75 ⟨Nat.le_of_ble_eq_true rfl, Nat.le_of_ble_eq_true rfl⟩ (by decide) rfl rfl (q_lt hs (by decide)) (Nat.le_refl _) rfl (Nat.le_of_ble_eq_true rfl) ?_
  refine t_if_ne C 9 (by decide) (show (1 : Int32).toInt = 1 from rfl) dX3_takeToken_4 (fun c4 => ?_) (fun c4 => absurd c4 (by decide))
  refine r_aload_n C rfl rfl dX3_takeToken_9 ?_
  refine r_getI C dX3_takeToken_10 fl_X3_34 rfl (q_lt hs (by decide)) ?_
  refine r_tableOut C 143 (by omega) (by decide) dX3_takeToken_13 ?_
  refine r_aload_n C rfl rfl dX3_takeToken_143 ?_
  refine r_iconstv C 0 rfl dX3_takeToken_144 ?_
  refine r_putI C dX3_takeToken_145 fl_X3_34 rfl (q_lt hs (by decide)) (Or.inl rfl) ?_
  refine r_iconstv C 0 rfl dX3_takeToken_148 ?_
  exact r_iret C dX3_takeToken_149 rfl (Nat.le_refl _) rfl rfl

