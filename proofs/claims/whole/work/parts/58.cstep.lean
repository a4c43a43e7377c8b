/-! the class reads plans, token by token -/
def sC (G : oG) (b x3 x4 : Int32) (h : oH) (y3 y4 : Int32) (h' : oH) : Prop := h'.1 = h.1 ∧ ∀ (p : Program) (l : Launch) (e : Env) (R : Room) (s : State) (m : MethodId) (args : Array Value) (below : List Frame) (meth : Method) (c : Code) (Z : State → Prop) (n0 nF : Nat), oC G mX3_readOnce n0 nF p l R s m args meth c → h.1 ≤ nF → (∀ t5, oS G mX3_readOnce p l e R s m args below meth c (Z) n0 15 [some (.ref 8), some (.ref 1), some (.int b), some (.int y3), some (.int y4), t5] [] h') → ∀ t5, oS G mX3_readOnce p l e R s m args below meth c (Z) n0 15 [some (.ref 8), some (.ref 1), some (.int b), some (.int x3), some (.int x4), t5] [] h
theorem sC.tr {G : oG} {b x3 x4 y3 y4 w3 w4 : Int32} {h h' h2 : oH} (q1 : sC G b x3 x4 h y3 y4 h') (q2 : sC G b y3 y4 h' w3 w4 h2) : sC G b x3 x4 h w3 w4 h2 := ⟨q2.1.trans q1.1, fun p l e R s m args below meth c Z n0 nF C hF K => q1.2 p l e R s m args below meth c Z n0 nF C hF (q2.2 p l e R s m args below meth c Z n0 nF C (by rw [q1.1]; exact hF) K)⟩
def fr8 (h h' : oH) : Prop := h'.1 = h.1 ∧ (∀ a y, (a ≠ 8 ∨ y ≠ 8) → hR h' a y = hR h a y) ∧ (∀ a y, hJ h' a y = hJ h a y) ∧ ∀ a y, ¬ (a = 8 ∧ 3 ≤ y) → hI h' a y = hI h a y
theorem fr8.tr {h h' h2 : oH} (q1 : fr8 h h') (q2 : fr8 h' h2) : fr8 h h2 := ⟨q2.1.trans q1.1, fun a y c => (q2.2.1 a y c).trans (q1.2.1 a y c), fun a y => (q2.2.2.1 a y).trans (q1.2.2.1 a y), fun a y c => (q2.2.2.2 a y c).trans (q1.2.2.2 a y c)⟩
theorem fr8.rd {h h' : oH} {T : Nat → Int} {z q : Nat} (f : rdF h h' T z q) : fr8 h h' := by
  obtain ⟨-, -, -, -, f5, f6, f7, f8⟩ := f
  exact ⟨f5, fun a y _ => f6 a y, f7, fun a y c => f8 a y (by omega)⟩
set_option maxHeartbeats 4000000 in
set_option maxRecDepth 100000 in
theorem sp_be (G : oG) {h : oH} {i : Nat} (la : pid i < h.1) (x y w : Int32) : oSp G mX2_become [.ref (pid i), .int x, .int y, .int w] h none (sI (sI (sI h (pid i) 0 x) (pid i) 1 y) (pid i) 2 w) := by
  refine oSp.intro [some (.ref (pid i)), some (.int x), some (.int y), some (.int w)] rfl (Nat.le_of_ble_eq_true rfl) (plainFor_of_name (by decide +kernel)) (Nat.le_refl _) ?_
  intro p l e R s m args below meth c C
  refine r_aload_n C rfl rfl dX2_become_0 ?_
  refine r_iload_n C rfl dX2_become_1 ?_
  refine r_putI C dX2_become_2 fl_X2_9 (tg_pid i) la (Or.inl rfl) ?_
  refine r_aload_n C rfl rfl dX2_become_5 ?_
  refine r_iload_n C rfl dX2_become_6 ?_
  refine r_putI C dX2_become_7 fl_X2_15 (tg_pid i) la (Or.inl rfl) ?_
  refine r_aload_n C rfl rfl dX2_become_10 ?_
  refine r_iload_n C rfl dX2_become_11 ?_
  refine r_putI C dX2_become_12 fl_X2_18 (tg_pid i) la (Or.inl rfl) ?_
  exact r_vret C dX2_become_15 rfl (Nat.le_refl _) rfl

set_option maxHeartbeats 4000000 in
set_option maxRecDepth 100000 in
theorem st_0 (G : oG) {h : oH} {n : Nat} (hh : oHs h n) {z : Nat} {T : Nat → Int} (tp : tpC h z T) {q : Nat} (hq : q ≤ z) (hnx : (hI h 8 3).toInt = (q : Int)) (h7 : (hI h 8 7).toInt = 0) (b x3 x4 : Int32) {cc : Nat} (h4 : x4.toInt = (cc : Int)) (hc : cc ≤ q) (hk : xK T z q = 1) : ∃ h', sC G b x3 x4 h (x3) (x4 + 1) h' ∧ fr8 h h' ∧ (hI h' 8 3).toInt = ((xE T z q : Nat) : Int) ∧ (hI h' 8 7).toInt = 1 ∧ hI h' 8 9 = hI h 8 9 ∧ hI h' 8 10 = 0 ∧ hI h' 8 11 = 0 ∧ hR h' 8 8 = hR h 8 8 := by
  have z3 := tp.2.1
  obtain ⟨h1, sp1, rd⟩ := rdT G hh.1 tp hq hnx
  have rf := fr8.rd rd
  obtain ⟨f1, f2, f3, f4, f5, f6, f7, f8⟩ := rd
  have hh1 : oHs h1 n := hh.fr f5 f6
  have hs1 := hh1.1
  have h71 : (hI h1 8 7).toInt = 0 := by rw [f8 8 7 (by omega)]; exact h7
  rw [hk] at f2 f4
  have tt := sp_tt0 G hh1 f2 h71 rfl
  refine ⟨sI (sI (sI h1 8 10 0) 8 11 0) 8 7 1, ⟨f5, fun p l e R s m args below meth c Z n0 nF C hF K t5 => ?_⟩, rf.tr ⟨rfl, fun _ _ _ => rfl, fun _ _ => rfl, fun a y c1 => by (repeat rw [sI_ne (by omega)])⟩, ?_, ?_, ?_, ?_, ?_, ?_⟩
  · refine r_iload C rfl dX3_readOnce_15 ?_
    refine r_sipush C 300 rfl dX3_readOnce_17 ?_
    refine t_icmp_gt C 124 (by decide) h4 (show (300 : Int32).toInt = 300 from rfl) dX3_readOnce_20 (fun c20 => absurd c20 (by omega)) (fun c20 => ?_)
    have hs := hh.1
    refine r_aload_n C rfl rfl dX3_readOnce_23 ?_
    refine r_callV C sp1 kv_X3_readToken kn_X3_readToken rfl dX3_readOnce_24 cl_X3_55 ⟨Nat.le_of_ble_eq_true rfl, Nat.le_of_ble_eq_true rfl⟩ (by decide) rfl rfl (q_lt hs (by decide)) (by rw [f5]; exact hF) rfl (Nat.le_of_ble_eq_true rfl) ?_
    have hs := hs1
    have hF1 : h1.1 ≤ nF := by rw [f5]; exact hF
    refine r_aload_n C rfl rfl dX3_readOnce_27 ?_
    refine r_getI C dX3_readOnce_28 fl_X3_25 rfl (q_lt hs (by decide)) ?_
    refine t_if_ne C 44 (by decide) f2 dX3_readOnce_31 (fun c31 => ?_) (fun c31 => absurd c31 (by decide))
    skip
    refine r_aload_n C rfl rfl dX3_readOnce_44 ?_
    refine r_aload_n C rfl rfl dX3_readOnce_45 ?_
    refine r_callV C tt kv_X3_takeToken kn_X3_takeToken rfl dX3_readOnce_46 cl_X3_58 ⟨Nat.le_of_ble_eq_true rfl, Nat.le_of_ble_eq_true rfl⟩ (by decide) rfl rfl (q_lt hs (by decide)) hF1 rfl (Nat.le_of_ble_eq_true rfl) ?_
    refine r_istore C rfl (Nat.le_of_ble_eq_true rfl) dX3_readOnce_49 ?_
    refine r_iload C rfl dX3_readOnce_51 ?_
    refine t_if_eq C 70 (by decide) (show (0 : Int32).toInt = 0 from rfl) dX3_readOnce_53 (fun c53 => ?_) (fun c53 => absurd c53 (by decide))
    have hs : oSh (sI (sI (sI h1 8 10 0) 8 11 0) 8 7 1) := hs1
    refine r_aload_n C rfl rfl dX3_readOnce_70 ?_
    refine r_getI C dX3_readOnce_71 fl_X3_25 rfl (q_lt hs (by decide)) ?_
    refine r_bipush C 6 rfl dX3_readOnce_74 ?_
    refine t_icmp_eq C 82 (by decide) f2 (show (6 : Int32).toInt = 6 from rfl) dX3_readOnce_76 (fun c76 => absurd c76 (by decide)) (fun c76 => ?_)
    refine r_goto C 118 (by decide) dX3_readOnce_79 ?_
    refine r_iinc C rfl rfl (Nat.le_of_ble_eq_true rfl) dX3_readOnce_118 ?_
    refine r_goto C 15 (by decide) dX3_readOnce_121 ?_
    exact K _
  · (repeat rw [sI_ne (by omega)])
    exact f1
  · first | (rw [sI_eq ⟨rfl, rfl⟩]; rfl) | rfl
  · (repeat rw [sI_ne (by omega)])
    exact f8 8 9 (by omega)
  · (repeat rw [sI_ne (by omega)])
    rw [sI_eq ⟨rfl, rfl⟩]
  · (repeat rw [sI_ne (by omega)])
    rw [sI_eq ⟨rfl, rfl⟩]
  · exact (f6 8 8)

set_option maxHeartbeats 4000000 in
set_option maxRecDepth 100000 in
theorem st_1 (G : oG) {h : oH} {n : Nat} (hh : oHs h n) {z : Nat} {T : Nat → Int} (tp : tpC h z T) {q : Nat} (hq : q ≤ z) (hnx : (hI h 8 3).toInt = (q : Int)) (h7 : (hI h 8 7).toInt = 1) (b x3 x4 : Int32) {cc : Nat} (h4 : x4.toInt = (cc : Int)) (hc : cc ≤ q) (hk : xK T z q = 5) {v : Nat} (hv : v < n) (hvv : xV T z q = (v : Int)) : ∃ h', sC G b x3 x4 h (x3) (x4 + 1) h' ∧ fr8 h h' ∧ (hI h' 8 3).toInt = ((xE T z q : Nat) : Int) ∧ (hI h' 8 7).toInt = 2 ∧ hI h' 8 9 = hI h 8 9 ∧ hI h' 8 10 = hI h 8 10 ∧ hI h' 8 11 = hI h 8 11 ∧ hR h' 8 8 = some (hid v) := by
  have z3 := tp.2.1
  obtain ⟨h1, sp1, rd⟩ := rdT G hh.1 tp hq hnx
  have rf := fr8.rd rd
  obtain ⟨f1, f2, f3, f4, f5, f6, f7, f8⟩ := rd
  have hh1 : oHs h1 n := hh.fr f5 f6
  have hs1 := hh1.1
  have h71 : (hI h1 8 7).toInt = 1 := by rw [f8 8 7 (by omega)]; exact h7
  rw [hk] at f2 f4
  have tt := sp_tt1 G hh1 f2 h71 rfl ((f4 rfl).trans hvv) hv
  refine ⟨sI (sR h1 8 8 (some (hid v))) 8 7 2, ⟨f5, fun p l e R s m args below meth c Z n0 nF C hF K t5 => ?_⟩, rf.tr ⟨rfl, sR8, fun _ _ => rfl, fun a y c1 => by (repeat rw [sI_ne (by omega)]); rfl⟩, ?_, ?_, ?_, ?_, ?_, ?_⟩
  · refine r_iload C rfl dX3_readOnce_15 ?_
    refine r_sipush C 300 rfl dX3_readOnce_17 ?_
    refine t_icmp_gt C 124 (by decide) h4 (show (300 : Int32).toInt = 300 from rfl) dX3_readOnce_20 (fun c20 => absurd c20 (by omega)) (fun c20 => ?_)
    have hs := hh.1
    refine r_aload_n C rfl rfl dX3_readOnce_23 ?_
    refine r_callV C sp1 kv_X3_readToken kn_X3_readToken rfl dX3_readOnce_24 cl_X3_55 ⟨Nat.le_of_ble_eq_true rfl, Nat.le_of_ble_eq_true rfl⟩ (by decide) rfl rfl (q_lt hs (by decide)) (by rw [f5]; exact hF) rfl (Nat.le_of_ble_eq_true rfl) ?_
    have hs := hs1
    have hF1 : h1.1 ≤ nF := by rw [f5]; exact hF
    refine r_aload_n C rfl rfl dX3_readOnce_27 ?_
    refine r_getI C dX3_readOnce_28 fl_X3_25 rfl (q_lt hs (by decide)) ?_
    refine t_if_ne C 44 (by decide) f2 dX3_readOnce_31 (fun c31 => ?_) (fun c31 => absurd c31 (by decide))
    skip
    refine r_aload_n C rfl rfl dX3_readOnce_44 ?_
    refine r_aload_n C rfl rfl dX3_readOnce_45 ?_
    refine r_callV C tt kv_X3_takeToken kn_X3_takeToken rfl dX3_readOnce_46 cl_X3_58 ⟨Nat.le_of_ble_eq_true rfl, Nat.le_of_ble_eq_true rfl⟩ (by decide) rfl rfl (q_lt hs (by decide)) hF1 rfl (Nat.le_of_ble_eq_true rfl) ?_
    refine r_istore C rfl (Nat.le_of_ble_eq_true rfl) dX3_readOnce_49 ?_
    refine r_iload C rfl dX3_readOnce_51 ?_
    refine t_if_eq C 70 (by decide) (show (0 : Int32).toInt = 0 from rfl) dX3_readOnce_53 (fun c53 => ?_) (fun c53 => absurd c53 (by decide))
    have hs : oSh (sI (sR h1 8 8 (some (hid v))) 8 7 2) := hs1.s8 (r := some (hid v))
    refine r_aload_n C rfl rfl dX3_readOnce_70 ?_
    refine r_getI C dX3_readOnce_71 fl_X3_25 rfl (q_lt hs (by decide)) ?_
    refine r_bipush C 6 rfl dX3_readOnce_74 ?_
    refine t_icmp_eq C 82 (by decide) f2 (show (6 : Int32).toInt = 6 from rfl) dX3_readOnce_76 (fun c76 => absurd c76 (by decide)) (fun c76 => ?_)
    refine r_goto C 118 (by decide) dX3_readOnce_79 ?_
    refine r_iinc C rfl rfl (Nat.le_of_ble_eq_true rfl) dX3_readOnce_118 ?_
    refine r_goto C 15 (by decide) dX3_readOnce_121 ?_
    exact K _
  · (repeat rw [sI_ne (by omega)])
    exact f1
  · first | (rw [sI_eq ⟨rfl, rfl⟩]; rfl) | rfl
  · (repeat rw [sI_ne (by omega)])
    exact f8 8 9 (by omega)
  · (repeat rw [sI_ne (by omega)])
    exact f8 8 10 (by omega)
  · (repeat rw [sI_ne (by omega)])
    exact f8 8 11 (by omega)
  · rfl

set_option maxHeartbeats 4000000 in
set_option maxRecDepth 100000 in
theorem st_2c (G : oG) {h : oH} {n : Nat} (hh : oHs h n) {z : Nat} {T : Nat → Int} (tp : tpC h z T) {q : Nat} (hq : q ≤ z) (hnx : (hI h 8 3).toInt = (q : Int)) (h7 : (hI h 8 7).toInt = 2) (b x3 x4 : Int32) {cc : Nat} (h4 : x4.toInt = (cc : Int)) (hc : cc ≤ q) (hk : xK T z q = 3) : ∃ h', sC G b x3 x4 h (x3) (x4 + 1) h' ∧ fr8 h h' ∧ (hI h' 8 3).toInt = ((xE T z q : Nat) : Int) ∧ (hI h' 8 7).toInt = 5 ∧ hI h' 8 9 = 1 ∧ hI h' 8 10 = hI h 8 10 ∧ hI h' 8 11 = hI h 8 11 ∧ hR h' 8 8 = hR h 8 8 := by
  have z3 := tp.2.1
  obtain ⟨h1, sp1, rd⟩ := rdT G hh.1 tp hq hnx
  have rf := fr8.rd rd
  obtain ⟨f1, f2, f3, f4, f5, f6, f7, f8⟩ := rd
  have hh1 : oHs h1 n := hh.fr f5 f6
  have hs1 := hh1.1
  have h71 : (hI h1 8 7).toInt = 2 := by rw [f8 8 7 (by omega)]; exact h7
  rw [hk] at f2 f4
  have tt := sp_tt2c G hh1 f2 h71 rfl
  refine ⟨sI (sI h1 8 9 1) 8 7 5, ⟨f5, fun p l e R s m args below meth c Z n0 nF C hF K t5 => ?_⟩, rf.tr ⟨rfl, fun _ _ _ => rfl, fun _ _ => rfl, fun a y c1 => by (repeat rw [sI_ne (by omega)])⟩, ?_, ?_, ?_, ?_, ?_, ?_⟩
  · refine r_iload C rfl dX3_readOnce_15 ?_
    refine r_sipush C 300 rfl dX3_readOnce_17 ?_
    refine t_icmp_gt C 124 (by decide) h4 (show (300 : Int32).toInt = 300 from rfl) dX3_readOnce_20 (fun c20 => absurd c20 (by omega)) (fun c20 => ?_)
    have hs := hh.1
    refine r_aload_n C rfl rfl dX3_readOnce_23 ?_
    refine r_callV C sp1 kv_X3_readToken kn_X3_readToken rfl dX3_readOnce_24 cl_X3_55 ⟨Nat.le_of_ble_eq_true rfl, Nat.le_of_ble_eq_true rfl⟩ (by decide) rfl rfl (q_lt hs (by decide)) (by rw [f5]; exact hF) rfl (Nat.le_of_ble_eq_true rfl) ?_
    have hs := hs1
    have hF1 : h1.1 ≤ nF := by rw [f5]; exact hF
    refine r_aload_n C rfl rfl dX3_readOnce_27 ?_
    refine r_getI C dX3_readOnce_28 fl_X3_25 rfl (q_lt hs (by decide)) ?_
    refine t_if_ne C 44 (by decide) f2 dX3_readOnce_31 (fun c31 => ?_) (fun c31 => absurd c31 (by decide))
    skip
    refine r_aload_n C rfl rfl dX3_readOnce_44 ?_
    refine r_aload_n C rfl rfl dX3_readOnce_45 ?_
    refine r_callV C tt kv_X3_takeToken kn_X3_takeToken rfl dX3_readOnce_46 cl_X3_58 ⟨Nat.le_of_ble_eq_true rfl, Nat.le_of_ble_eq_true rfl⟩ (by decide) rfl rfl (q_lt hs (by decide)) hF1 rfl (Nat.le_of_ble_eq_true rfl) ?_
    refine r_istore C rfl (Nat.le_of_ble_eq_true rfl) dX3_readOnce_49 ?_
    refine r_iload C rfl dX3_readOnce_51 ?_
    refine t_if_eq C 70 (by decide) (show (0 : Int32).toInt = 0 from rfl) dX3_readOnce_53 (fun c53 => ?_) (fun c53 => absurd c53 (by decide))
    have hs : oSh (sI (sI h1 8 9 1) 8 7 5) := hs1
    refine r_aload_n C rfl rfl dX3_readOnce_70 ?_
    refine r_getI C dX3_readOnce_71 fl_X3_25 rfl (q_lt hs (by decide)) ?_
    refine r_bipush C 6 rfl dX3_readOnce_74 ?_
    refine t_icmp_eq C 82 (by decide) f2 (show (6 : Int32).toInt = 6 from rfl) dX3_readOnce_76 (fun c76 => absurd c76 (by decide)) (fun c76 => ?_)
    refine r_goto C 118 (by decide) dX3_readOnce_79 ?_
    refine r_iinc C rfl rfl (Nat.le_of_ble_eq_true rfl) dX3_readOnce_118 ?_
    refine r_goto C 15 (by decide) dX3_readOnce_121 ?_
    exact K _
  · (repeat rw [sI_ne (by omega)])
    exact f1
  · first | (rw [sI_eq ⟨rfl, rfl⟩]; rfl) | rfl
  · (repeat rw [sI_ne (by omega)])
    rw [sI_eq ⟨rfl, rfl⟩]
  · (repeat rw [sI_ne (by omega)])
    exact f8 8 10 (by omega)
  · (repeat rw [sI_ne (by omega)])
    exact f8 8 11 (by omega)
  · exact (f6 8 8)

set_option maxHeartbeats 4000000 in
set_option maxRecDepth 100000 in
theorem st_2p (G : oG) {h : oH} {n : Nat} (hh : oHs h n) {z : Nat} {T : Nat → Int} (tp : tpC h z T) {q : Nat} (hq : q ≤ z) (hnx : (hI h 8 3).toInt = (q : Int)) (h7 : (hI h 8 7).toInt = 2) (b x3 x4 : Int32) {cc : Nat} (h4 : x4.toInt = (cc : Int)) (hc : cc ≤ q) (hk : xK T z q = 4) : ∃ h', sC G b x3 x4 h (x3) (x4 + 1) h' ∧ fr8 h h' ∧ (hI h' 8 3).toInt = ((xE T z q : Nat) : Int) ∧ (hI h' 8 7).toInt = 3 ∧ hI h' 8 9 = 2 ∧ hI h' 8 10 = hI h 8 10 ∧ hI h' 8 11 = hI h 8 11 ∧ hR h' 8 8 = hR h 8 8 := by
  have z3 := tp.2.1
  obtain ⟨h1, sp1, rd⟩ := rdT G hh.1 tp hq hnx
  have rf := fr8.rd rd
  obtain ⟨f1, f2, f3, f4, f5, f6, f7, f8⟩ := rd
  have hh1 : oHs h1 n := hh.fr f5 f6
  have hs1 := hh1.1
  have h71 : (hI h1 8 7).toInt = 2 := by rw [f8 8 7 (by omega)]; exact h7
  rw [hk] at f2 f4
  have tt := sp_tt2p G hh1 f2 h71 rfl
  refine ⟨sI (sI h1 8 9 2) 8 7 3, ⟨f5, fun p l e R s m args below meth c Z n0 nF C hF K t5 => ?_⟩, rf.tr ⟨rfl, fun _ _ _ => rfl, fun _ _ => rfl, fun a y c1 => by (repeat rw [sI_ne (by omega)])⟩, ?_, ?_, ?_, ?_, ?_, ?_⟩
  · refine r_iload C rfl dX3_readOnce_15 ?_
    refine r_sipush C 300 rfl dX3_readOnce_17 ?_
    refine t_icmp_gt C 124 (by decide) h4 (show (300 : Int32).toInt = 300 from rfl) dX3_readOnce_20 (fun c20 => absurd c20 (by omega)) (fun c20 => ?_)
    have hs := hh.1
    refine r_aload_n C rfl rfl dX3_readOnce_23 ?_
    refine r_callV C sp1 kv_X3_readToken kn_X3_readToken rfl dX3_readOnce_24 cl_X3_55 ⟨Nat.le_of_ble_eq_true rfl, Nat.le_of_ble_eq_true rfl⟩ (by decide) rfl rfl (q_lt hs (by decide)) (by rw [f5]; exact hF) rfl (Nat.le_of_ble_eq_true rfl) ?_
    have hs := hs1
    have hF1 : h1.1 ≤ nF := by rw [f5]; exact hF
    refine r_aload_n C rfl rfl dX3_readOnce_27 ?_
    refine r_getI C dX3_readOnce_28 fl_X3_25 rfl (q_lt hs (by decide)) ?_
    refine t_if_ne C 44 (by decide) f2 dX3_readOnce_31 (fun c31 => ?_) (fun c31 => absurd c31 (by decide))
    skip
    refine r_aload_n C rfl rfl dX3_readOnce_44 ?_
    refine r_aload_n C rfl rfl dX3_readOnce_45 ?_
    refine r_callV C tt kv_X3_takeToken kn_X3_takeToken rfl dX3_readOnce_46 cl_X3_58 ⟨Nat.le_of_ble_eq_true rfl, Nat.le_of_ble_eq_true rfl⟩ (by decide) rfl rfl (q_lt hs (by decide)) hF1 rfl (Nat.le_of_ble_eq_true rfl) ?_
    refine r_istore C rfl (Nat.le_of_ble_eq_true rfl) dX3_readOnce_49 ?_
    refine r_iload C rfl dX3_readOnce_51 ?_
    refine t_if_eq C 70 (by decide) (show (0 : Int32).toInt = 0 from rfl) dX3_readOnce_53 (fun c53 => ?_) (fun c53 => absurd c53 (by decide))
    have hs : oSh (sI (sI h1 8 9 2) 8 7 3) := hs1
    refine r_aload_n C rfl rfl dX3_readOnce_70 ?_
    refine r_getI C dX3_readOnce_71 fl_X3_25 rfl (q_lt hs (by decide)) ?_
    refine r_bipush C 6 rfl dX3_readOnce_74 ?_
    refine t_icmp_eq C 82 (by decide) f2 (show (6 : Int32).toInt = 6 from rfl) dX3_readOnce_76 (fun c76 => absurd c76 (by decide)) (fun c76 => ?_)
    refine r_goto C 118 (by decide) dX3_readOnce_79 ?_
    refine r_iinc C rfl rfl (Nat.le_of_ble_eq_true rfl) dX3_readOnce_118 ?_
    refine r_goto C 15 (by decide) dX3_readOnce_121 ?_
    exact K _
  · (repeat rw [sI_ne (by omega)])
    exact f1
  · first | (rw [sI_eq ⟨rfl, rfl⟩]; rfl) | rfl
  · (repeat rw [sI_ne (by omega)])
    rw [sI_eq ⟨rfl, rfl⟩]
  · (repeat rw [sI_ne (by omega)])
    exact f8 8 10 (by omega)
  · (repeat rw [sI_ne (by omega)])
    exact f8 8 11 (by omega)
  · exact (f6 8 8)

set_option maxHeartbeats 4000000 in
set_option maxRecDepth 100000 in
theorem st_2d (G : oG) {h : oH} {n : Nat} (hh : oHs h n) {z : Nat} {T : Nat → Int} (tp : tpC h z T) {q : Nat} (hq : q ≤ z) (hnx : (hI h 8 3).toInt = (q : Int)) (h7 : (hI h 8 7).toInt = 2) (b x3 x4 : Int32) {cc : Nat} (h4 : x4.toInt = (cc : Int)) (hc : cc ≤ q) (hk : xK T z q = 2) : ∃ h', sC G b x3 x4 h (x3) (x4 + 1) h' ∧ fr8 h h' ∧ (hI h' 8 3).toInt = ((xE T z q : Nat) : Int) ∧ (hI h' 8 7).toInt = 6 ∧ hI h' 8 9 = 0 ∧ hI h' 8 10 = hI h 8 10 ∧ hI h' 8 11 = hI h 8 11 ∧ hR h' 8 8 = hR h 8 8 := by
  have z3 := tp.2.1
  obtain ⟨h1, sp1, rd⟩ := rdT G hh.1 tp hq hnx
  have rf := fr8.rd rd
  obtain ⟨f1, f2, f3, f4, f5, f6, f7, f8⟩ := rd
  have hh1 : oHs h1 n := hh.fr f5 f6
  have hs1 := hh1.1
  have h71 : (hI h1 8 7).toInt = 2 := by rw [f8 8 7 (by omega)]; exact h7
  rw [hk] at f2 f4
  have tt := sp_tt2d G hh1 f2 h71 rfl
  refine ⟨sI (sI h1 8 9 0) 8 7 6, ⟨f5, fun p l e R s m args below meth c Z n0 nF C hF K t5 => ?_⟩, rf.tr ⟨rfl, fun _ _ _ => rfl, fun _ _ => rfl, fun a y c1 => by (repeat rw [sI_ne (by omega)])⟩, ?_, ?_, ?_, ?_, ?_, ?_⟩
  · refine r_iload C rfl dX3_readOnce_15 ?_
    refine r_sipush C 300 rfl dX3_readOnce_17 ?_
    refine t_icmp_gt C 124 (by decide) h4 (show (300 : Int32).toInt = 300 from rfl) dX3_readOnce_20 (fun c20 => absurd c20 (by omega)) (fun c20 => ?_)
    have hs := hh.1
    refine r_aload_n C rfl rfl dX3_readOnce_23 ?_
    refine r_callV C sp1 kv_X3_readToken kn_X3_readToken rfl dX3_readOnce_24 cl_X3_55 ⟨Nat.le_of_ble_eq_true rfl, Nat.le_of_ble_eq_true rfl⟩ (by decide) rfl rfl (q_lt hs (by decide)) (by rw [f5]; exact hF) rfl (Nat.le_of_ble_eq_true rfl) ?_
    have hs := hs1
    have hF1 : h1.1 ≤ nF := by rw [f5]; exact hF
    refine r_aload_n C rfl rfl dX3_readOnce_27 ?_
    refine r_getI C dX3_readOnce_28 fl_X3_25 rfl (q_lt hs (by decide)) ?_
    refine t_if_ne C 44 (by decide) f2 dX3_readOnce_31 (fun c31 => ?_) (fun c31 => absurd c31 (by decide))
    skip
    refine r_aload_n C rfl rfl dX3_readOnce_44 ?_
    refine r_aload_n C rfl rfl dX3_readOnce_45 ?_
    refine r_callV C tt kv_X3_takeToken kn_X3_takeToken rfl dX3_readOnce_46 cl_X3_58 ⟨Nat.le_of_ble_eq_true rfl, Nat.le_of_ble_eq_true rfl⟩ (by decide) rfl rfl (q_lt hs (by decide)) hF1 rfl (Nat.le_of_ble_eq_true rfl) ?_
    refine r_istore C rfl (Nat.le_of_ble_eq_true rfl) dX3_readOnce_49 ?_
    refine r_iload C rfl dX3_readOnce_51 ?_
    refine t_if_eq C 70 (by decide) (show (0 : Int32).toInt = 0 from rfl) dX3_readOnce_53 (fun c53 => ?_) (fun c53 => absurd c53 (by decide))
    have hs : oSh (sI (sI h1 8 9 0) 8 7 6) := hs1
    refine r_aload_n C rfl rfl dX3_readOnce_70 ?_
    refine r_getI C dX3_readOnce_71 fl_X3_25 rfl (q_lt hs (by decide)) ?_
    refine r_bipush C 6 rfl dX3_readOnce_74 ?_
    refine t_icmp_eq C 82 (by decide) f2 (show (6 : Int32).toInt = 6 from rfl) dX3_readOnce_76 (fun c76 => absurd c76 (by decide)) (fun c76 => ?_)
    refine r_goto C 118 (by decide) dX3_readOnce_79 ?_
    refine r_iinc C rfl rfl (Nat.le_of_ble_eq_true rfl) dX3_readOnce_118 ?_
    refine r_goto C 15 (by decide) dX3_readOnce_121 ?_
    exact K _
  · (repeat rw [sI_ne (by omega)])
    exact f1
  · first | (rw [sI_eq ⟨rfl, rfl⟩]; rfl) | rfl
  · (repeat rw [sI_ne (by omega)])
    rw [sI_eq ⟨rfl, rfl⟩]
  · (repeat rw [sI_ne (by omega)])
    exact f8 8 10 (by omega)
  · (repeat rw [sI_ne (by omega)])
    exact f8 8 11 (by omega)
  · exact (f6 8 8)

set_option maxHeartbeats 4000000 in
set_option maxRecDepth 100000 in
theorem st_3 (G : oG) {h : oH} {n : Nat} (hh : oHs h n) {z : Nat} {T : Nat → Int} (tp : tpC h z T) {q : Nat} (hq : q ≤ z) (hnx : (hI h 8 3).toInt = (q : Int)) (h7 : (hI h 8 7).toInt = 3) (b x3 x4 : Int32) {cc : Nat} (h4 : x4.toInt = (cc : Int)) (hc : cc ≤ q) (hk : xK T z q = 5) : ∃ h', sC G b x3 x4 h (x3) (x4 + 1) h' ∧ fr8 h h' ∧ (hI h' 8 3).toInt = ((xE T z q : Nat) : Int) ∧ (hI h' 8 7).toInt = 4 ∧ hI h' 8 9 = hI h 8 9 ∧ hI h' 8 10 = oI (xV T z q) ∧ hI h' 8 11 = hI h 8 11 ∧ hR h' 8 8 = hR h 8 8 := by
  have z3 := tp.2.1
  obtain ⟨h1, sp1, rd⟩ := rdT G hh.1 tp hq hnx
  have rf := fr8.rd rd
  obtain ⟨f1, f2, f3, f4, f5, f6, f7, f8⟩ := rd
  have hh1 : oHs h1 n := hh.fr f5 f6
  have hs1 := hh1.1
  have h71 : (hI h1 8 7).toInt = 3 := by rw [f8 8 7 (by omega)]; exact h7
  rw [hk] at f2 f4
  have tt := sp_tt3 G hh1 f2 h71 rfl
  refine ⟨sI (sI h1 8 10 (hI h1 8 6)) 8 7 4, ⟨f5, fun p l e R s m args below meth c Z n0 nF C hF K t5 => ?_⟩, rf.tr ⟨rfl, fun _ _ _ => rfl, fun _ _ => rfl, fun a y c1 => by (repeat rw [sI_ne (by omega)])⟩, ?_, ?_, ?_, ?_, ?_, ?_⟩
  · refine r_iload C rfl dX3_readOnce_15 ?_
    refine r_sipush C 300 rfl dX3_readOnce_17 ?_
    refine t_icmp_gt C 124 (by decide) h4 (show (300 : Int32).toInt = 300 from rfl) dX3_readOnce_20 (fun c20 => absurd c20 (by omega)) (fun c20 => ?_)
    have hs := hh.1
    refine r_aload_n C rfl rfl dX3_readOnce_23 ?_
    refine r_callV C sp1 kv_X3_readToken kn_X3_readToken rfl dX3_readOnce_24 cl_X3_55 ⟨Nat.le_of_ble_eq_true rfl, Nat.le_of_ble_eq_true rfl⟩ (by decide) rfl rfl (q_lt hs (by decide)) (by rw [f5]; exact hF) rfl (Nat.le_of_ble_eq_true rfl) ?_
    have hs := hs1
    have hF1 : h1.1 ≤ nF := by rw [f5]; exact hF
    refine r_aload_n C rfl rfl dX3_readOnce_27 ?_
    refine r_getI C dX3_readOnce_28 fl_X3_25 rfl (q_lt hs (by decide)) ?_
    refine t_if_ne C 44 (by decide) f2 dX3_readOnce_31 (fun c31 => ?_) (fun c31 => absurd c31 (by decide))
    skip
    refine r_aload_n C rfl rfl dX3_readOnce_44 ?_
    refine r_aload_n C rfl rfl dX3_readOnce_45 ?_
    refine r_callV C tt kv_X3_takeToken kn_X3_takeToken rfl dX3_readOnce_46 cl_X3_58 ⟨Nat.le_of_ble_eq_true rfl, Nat.le_of_ble_eq_true rfl⟩ (by decide) rfl rfl (q_lt hs (by decide)) hF1 rfl (Nat.le_of_ble_eq_true rfl) ?_
    refine r_istore C rfl (Nat.le_of_ble_eq_true rfl) dX3_readOnce_49 ?_
    refine r_iload C rfl dX3_readOnce_51 ?_
    refine t_if_eq C 70 (by decide) (show (0 : Int32).toInt = 0 from rfl) dX3_readOnce_53 (fun c53 => ?_) (fun c53 => absurd c53 (by decide))
    have hs : oSh (sI (sI h1 8 10 (hI h1 8 6)) 8 7 4) := hs1
    refine r_aload_n C rfl rfl dX3_readOnce_70 ?_
    refine r_getI C dX3_readOnce_71 fl_X3_25 rfl (q_lt hs (by decide)) ?_
    refine r_bipush C 6 rfl dX3_readOnce_74 ?_
    refine t_icmp_eq C 82 (by decide) f2 (show (6 : Int32).toInt = 6 from rfl) dX3_readOnce_76 (fun c76 => absurd c76 (by decide)) (fun c76 => ?_)
    refine r_goto C 118 (by decide) dX3_readOnce_79 ?_
    refine r_iinc C rfl rfl (Nat.le_of_ble_eq_true rfl) dX3_readOnce_118 ?_
    refine r_goto C 15 (by decide) dX3_readOnce_121 ?_
    exact K _
  · (repeat rw [sI_ne (by omega)])
    exact f1
  · first | (rw [sI_eq ⟨rfl, rfl⟩]; rfl) | rfl
  · (repeat rw [sI_ne (by omega)])
    exact f8 8 9 (by omega)
  · (repeat rw [sI_ne (by omega)])
    rw [sI_eq ⟨rfl, rfl⟩]
    exact oI_e (f4 rfl)
  · (repeat rw [sI_ne (by omega)])
    exact f8 8 11 (by omega)
  · exact (f6 8 8)

set_option maxHeartbeats 4000000 in
set_option maxRecDepth 100000 in
theorem st_4 (G : oG) {h : oH} {n : Nat} (hh : oHs h n) {z : Nat} {T : Nat → Int} (tp : tpC h z T) {q : Nat} (hq : q ≤ z) (hnx : (hI h 8 3).toInt = (q : Int)) (h7 : (hI h 8 7).toInt = 4) (b x3 x4 : Int32) {cc : Nat} (h4 : x4.toInt = (cc : Int)) (hc : cc ≤ q) (hk : xK T z q = 7) : ∃ h', sC G b x3 x4 h (x3) (x4 + 1) h' ∧ fr8 h h' ∧ (hI h' 8 3).toInt = ((xE T z q : Nat) : Int) ∧ (hI h' 8 7).toInt = 5 ∧ hI h' 8 9 = hI h 8 9 ∧ hI h' 8 10 = hI h 8 10 ∧ hI h' 8 11 = hI h 8 11 ∧ hR h' 8 8 = hR h 8 8 := by
  have z3 := tp.2.1
  obtain ⟨h1, sp1, rd⟩ := rdT G hh.1 tp hq hnx
  have rf := fr8.rd rd
  obtain ⟨f1, f2, f3, f4, f5, f6, f7, f8⟩ := rd
  have hh1 : oHs h1 n := hh.fr f5 f6
  have hs1 := hh1.1
  have h71 : (hI h1 8 7).toInt = 4 := by rw [f8 8 7 (by omega)]; exact h7
  rw [hk] at f2 f4
  have tt := sp_tt4 G hh1 f2 h71 rfl
  refine ⟨sI h1 8 7 5, ⟨f5, fun p l e R s m args below meth c Z n0 nF C hF K t5 => ?_⟩, rf.tr ⟨rfl, fun _ _ _ => rfl, fun _ _ => rfl, fun a y c1 => by (repeat rw [sI_ne (by omega)])⟩, ?_, ?_, ?_, ?_, ?_, ?_⟩
  · refine r_iload C rfl dX3_readOnce_15 ?_
    refine r_sipush C 300 rfl dX3_readOnce_17 ?_
    refine t_icmp_gt C 124 (by decide) h4 (show (300 : Int32).toInt = 300 from rfl) dX3_readOnce_20 (fun c20 => absurd c20 (by omega)) (fun c20 => ?_)
    have hs := hh.1
    refine r_aload_n C rfl rfl dX3_readOnce_23 ?_
    refine r_callV C sp1 kv_X3_readToken kn_X3_readToken rfl dX3_readOnce_24 cl_X3_55 ⟨Nat.le_of_ble_eq_true rfl, Nat.le_of_ble_eq_true rfl⟩ (by decide) rfl rfl (q_lt hs (by decide)) (by rw [f5]; exact hF) rfl (Nat.le_of_ble_eq_true rfl) ?_
    have hs := hs1
    have hF1 : h1.1 ≤ nF := by rw [f5]; exact hF
    refine r_aload_n C rfl rfl dX3_readOnce_27 ?_
    refine r_getI C dX3_readOnce_28 fl_X3_25 rfl (q_lt hs (by decide)) ?_
    refine t_if_ne C 44 (by decide) f2 dX3_readOnce_31 (fun c31 => ?_) (fun c31 => absurd c31 (by decide))
    skip
    refine r_aload_n C rfl rfl dX3_readOnce_44 ?_
    refine r_aload_n C rfl rfl dX3_readOnce_45 ?_
    refine r_callV C tt kv_X3_takeToken kn_X3_takeToken rfl dX3_readOnce_46 cl_X3_58 ⟨Nat.le_of_ble_eq_true rfl, Nat.le_of_ble_eq_true rfl⟩ (by decide) rfl rfl (q_lt hs (by decide)) hF1 rfl (Nat.le_of_ble_eq_true rfl) ?_
    refine r_istore C rfl (Nat.le_of_ble_eq_true rfl) dX3_readOnce_49 ?_
    refine r_iload C rfl dX3_readOnce_51 ?_
    refine t_if_eq C 70 (by decide) (show (0 : Int32).toInt = 0 from rfl) dX3_readOnce_53 (fun c53 => ?_) (fun c53 => absurd c53 (by decide))
    have hs : oSh (sI h1 8 7 5) := hs1
    refine r_aload_n C rfl rfl dX3_readOnce_70 ?_
    refine r_getI C dX3_readOnce_71 fl_X3_25 rfl (q_lt hs (by decide)) ?_
    refine r_bipush C 6 rfl dX3_readOnce_74 ?_
    refine t_icmp_eq C 82 (by decide) f2 (show (6 : Int32).toInt = 6 from rfl) dX3_readOnce_76 (fun c76 => absurd c76 (by decide)) (fun c76 => ?_)
    refine r_goto C 118 (by decide) dX3_readOnce_79 ?_
    refine r_iinc C rfl rfl (Nat.le_of_ble_eq_true rfl) dX3_readOnce_118 ?_
    refine r_goto C 15 (by decide) dX3_readOnce_121 ?_
    exact K _
  · (repeat rw [sI_ne (by omega)])
    exact f1
  · first | (rw [sI_eq ⟨rfl, rfl⟩]; rfl) | rfl
  · (repeat rw [sI_ne (by omega)])
    exact f8 8 9 (by omega)
  · (repeat rw [sI_ne (by omega)])
    exact f8 8 10 (by omega)
  · (repeat rw [sI_ne (by omega)])
    exact f8 8 11 (by omega)
  · exact (f6 8 8)

set_option maxHeartbeats 4000000 in
set_option maxRecDepth 100000 in
theorem st_5 (G : oG) {h : oH} {n : Nat} (hh : oHs h n) {z : Nat} {T : Nat → Int} (tp : tpC h z T) {q : Nat} (hq : q ≤ z) (hnx : (hI h 8 3).toInt = (q : Int)) (h7 : (hI h 8 7).toInt = 5) (b x3 x4 : Int32) {cc : Nat} (h4 : x4.toInt = (cc : Int)) (hc : cc ≤ q) (hk : xK T z q = 5) : ∃ h', sC G b x3 x4 h (x3) (x4 + 1) h' ∧ fr8 h h' ∧ (hI h' 8 3).toInt = ((xE T z q : Nat) : Int) ∧ (hI h' 8 7).toInt = 6 ∧ hI h' 8 9 = hI h 8 9 ∧ hI h' 8 10 = hI h 8 10 ∧ hI h' 8 11 = oI (xV T z q) ∧ hR h' 8 8 = hR h 8 8 := by
  have z3 := tp.2.1
  obtain ⟨h1, sp1, rd⟩ := rdT G hh.1 tp hq hnx
  have rf := fr8.rd rd
  obtain ⟨f1, f2, f3, f4, f5, f6, f7, f8⟩ := rd
  have hh1 : oHs h1 n := hh.fr f5 f6
  have hs1 := hh1.1
  have h71 : (hI h1 8 7).toInt = 5 := by rw [f8 8 7 (by omega)]; exact h7
  rw [hk] at f2 f4
  have tt := sp_tt5 G hh1 f2 h71 rfl
  refine ⟨sI (sI h1 8 11 (hI h1 8 6)) 8 7 6, ⟨f5, fun p l e R s m args below meth c Z n0 nF C hF K t5 => ?_⟩, rf.tr ⟨rfl, fun _ _ _ => rfl, fun _ _ => rfl, fun a y c1 => by (repeat rw [sI_ne (by omega)])⟩, ?_, ?_, ?_, ?_, ?_, ?_⟩
  · refine r_iload C rfl dX3_readOnce_15 ?_
    refine r_sipush C 300 rfl dX3_readOnce_17 ?_
    refine t_icmp_gt C 124 (by decide) h4 (show (300 : Int32).toInt = 300 from rfl) dX3_readOnce_20 (fun c20 => absurd c20 (by omega)) (fun c20 => ?_)
    have hs := hh.1
    refine r_aload_n C rfl rfl dX3_readOnce_23 ?_
    refine r_callV C sp1 kv_X3_readToken kn_X3_readToken rfl dX3_readOnce_24 cl_X3_55 ⟨Nat.le_of_ble_eq_true rfl, Nat.le_of_ble_eq_true rfl⟩ (by decide) rfl rfl (q_lt hs (by decide)) (by rw [f5]; exact hF) rfl (Nat.le_of_ble_eq_true rfl) ?_
    have hs := hs1
    have hF1 : h1.1 ≤ nF := by rw [f5]; exact hF
    refine r_aload_n C rfl rfl dX3_readOnce_27 ?_
    refine r_getI C dX3_readOnce_28 fl_X3_25 rfl (q_lt hs (by decide)) ?_
    refine t_if_ne C 44 (by decide) f2 dX3_readOnce_31 (fun c31 => ?_) (fun c31 => absurd c31 (by decide))
    skip
    refine r_aload_n C rfl rfl dX3_readOnce_44 ?_
    refine r_aload_n C rfl rfl dX3_readOnce_45 ?_
    refine r_callV C tt kv_X3_takeToken kn_X3_takeToken rfl dX3_readOnce_46 cl_X3_58 ⟨Nat.le_of_ble_eq_true rfl, Nat.le_of_ble_eq_true rfl⟩ (by decide) rfl rfl (q_lt hs (by decide)) hF1 rfl (Nat.le_of_ble_eq_true rfl) ?_
    refine r_istore C rfl (Nat.le_of_ble_eq_true rfl) dX3_readOnce_49 ?_
    refine r_iload C rfl dX3_readOnce_51 ?_
    refine t_if_eq C 70 (by decide) (show (0 : Int32).toInt = 0 from rfl) dX3_readOnce_53 (fun c53 => ?_) (fun c53 => absurd c53 (by decide))
    have hs : oSh (sI (sI h1 8 11 (hI h1 8 6)) 8 7 6) := hs1
    refine r_aload_n C rfl rfl dX3_readOnce_70 ?_
    refine r_getI C dX3_readOnce_71 fl_X3_25 rfl (q_lt hs (by decide)) ?_
    refine r_bipush C 6 rfl dX3_readOnce_74 ?_
    refine t_icmp_eq C 82 (by decide) f2 (show (6 : Int32).toInt = 6 from rfl) dX3_readOnce_76 (fun c76 => absurd c76 (by decide)) (fun c76 => ?_)
    refine r_goto C 118 (by decide) dX3_readOnce_79 ?_
    refine r_iinc C rfl rfl (Nat.le_of_ble_eq_true rfl) dX3_readOnce_118 ?_
    refine r_goto C 15 (by decide) dX3_readOnce_121 ?_
    exact K _
  · (repeat rw [sI_ne (by omega)])
    exact f1
  · first | (rw [sI_eq ⟨rfl, rfl⟩]; rfl) | rfl
  · (repeat rw [sI_ne (by omega)])
    exact f8 8 9 (by omega)
  · (repeat rw [sI_ne (by omega)])
    exact f8 8 10 (by omega)
  · (repeat rw [sI_ne (by omega)])
    rw [sI_eq ⟨rfl, rfl⟩]
    exact oI_e (f4 rfl)
  · exact (f6 8 8)

set_option maxHeartbeats 4000000 in
set_option maxRecDepth 100000 in
theorem st_6n (G : oG) {h : oH} {n : Nat} (hh : oHs h n) {z : Nat} {T : Nat → Int} (tp : tpC h z T) {q : Nat} (hq : q ≤ z) (hnx : (hI h 8 3).toInt = (q : Int)) (h7 : (hI h 8 7).toInt = 6) (b x3 x4 : Int32) {cc : Nat} (h4 : x4.toInt = (cc : Int)) (hc : cc ≤ q) (hk : xK T z q = 6) (hb : b.toInt = 0) : ∃ h', sC G b x3 x4 h (x3 + 1) (x4 + 1) h' ∧ fr8 h h' ∧ (hI h' 8 3).toInt = ((xE T z q : Nat) : Int) ∧ (hI h' 8 7).toInt = 0 ∧ hI h' 8 9 = hI h 8 9 ∧ hI h' 8 10 = hI h 8 10 ∧ hI h' 8 11 = hI h 8 11 ∧ hR h' 8 8 = hR h 8 8 := by
  have z3 := tp.2.1
  obtain ⟨h1, sp1, rd⟩ := rdT G hh.1 tp hq hnx
  have rf := fr8.rd rd
  obtain ⟨f1, f2, f3, f4, f5, f6, f7, f8⟩ := rd
  have hh1 : oHs h1 n := hh.fr f5 f6
  have hs1 := hh1.1
  have h71 : (hI h1 8 7).toInt = 6 := by rw [f8 8 7 (by omega)]; exact h7
  rw [hk] at f2 f4
  have tt := sp_tt6 G hh1 f2 h71 rfl
  refine ⟨sI h1 8 7 0, ⟨f5, fun p l e R s m args below meth c Z n0 nF C hF K t5 => ?_⟩, rf.tr ⟨rfl, fun _ _ _ => rfl, fun _ _ => rfl, fun a y c1 => by rw [sI_ne (by omega)]⟩, ?_, ?_, ?_, ?_, ?_, ?_⟩
  · refine r_iload C rfl dX3_readOnce_15 ?_
    refine r_sipush C 300 rfl dX3_readOnce_17 ?_
    refine t_icmp_gt C 124 (by decide) h4 (show (300 : Int32).toInt = 300 from rfl) dX3_readOnce_20 (fun c20 => absurd c20 (by omega)) (fun c20 => ?_)
    have hs := hh.1
    refine r_aload_n C rfl rfl dX3_readOnce_23 ?_
    refine r_callV C sp1 kv_X3_readToken kn_X3_readToken rfl dX3_readOnce_24 cl_X3_55 ⟨Nat.le_of_ble_eq_true rfl, Nat.le_of_ble_eq_true rfl⟩ (by decide) rfl rfl (q_lt hs (by decide)) (by rw [f5]; exact hF) rfl (Nat.le_of_ble_eq_true rfl) ?_
    have hs := hs1
    have hF1 : h1.1 ≤ nF := by rw [f5]; exact hF
    refine r_aload_n C rfl rfl dX3_readOnce_27 ?_
    refine r_getI C dX3_readOnce_28 fl_X3_25 rfl (q_lt hs (by decide)) ?_
    refine t_if_ne C 44 (by decide) f2 dX3_readOnce_31 (fun c31 => ?_) (fun c31 => absurd c31 (by decide))
    refine r_aload_n C rfl rfl dX3_readOnce_44 ?_
    refine r_aload_n C rfl rfl dX3_readOnce_45 ?_
    refine r_callV C tt kv_X3_takeToken kn_X3_takeToken rfl dX3_readOnce_46 cl_X3_58 ⟨Nat.le_of_ble_eq_true rfl, Nat.le_of_ble_eq_true rfl⟩ (by decide) rfl rfl (q_lt hs (by decide)) hF1 rfl (Nat.le_of_ble_eq_true rfl) ?_
    refine r_istore C rfl (Nat.le_of_ble_eq_true rfl) dX3_readOnce_49 ?_
    refine r_iload C rfl dX3_readOnce_51 ?_
    refine t_if_eq C 70 (by decide) (show (0 : Int32).toInt = 0 from rfl) dX3_readOnce_53 (fun c53 => ?_) (fun c53 => absurd c53 (by decide))
    have hs : oSh (sI h1 8 7 0) := hs1
    refine r_aload_n C rfl rfl dX3_readOnce_70 ?_
    refine r_getI C dX3_readOnce_71 fl_X3_25 rfl (q_lt hs (by decide)) ?_
    refine r_bipush C 6 rfl dX3_readOnce_74 ?_
    refine t_icmp_eq C 82 (by decide) f2 (show (6 : Int32).toInt = 6 from rfl) dX3_readOnce_76 (fun c76 => ?_) (fun c76 => absurd rfl c76)
    refine r_iinc C rfl rfl (Nat.le_of_ble_eq_true rfl) dX3_readOnce_82 ?_
    refine r_iload_n C rfl dX3_readOnce_85 ?_
    refine t_if_eq C 118 (by decide) hb dX3_readOnce_86 (fun c86 => ?_) (fun c86 => absurd rfl c86)
    skip
    refine r_iinc C rfl rfl (Nat.le_of_ble_eq_true rfl) dX3_readOnce_118 ?_
    refine r_goto C 15 (by decide) dX3_readOnce_121 ?_
    exact K _
  · (repeat rw [sI_ne (by omega)])
    exact f1
  · rfl
  · (repeat rw [sI_ne (by omega)])
    exact f8 8 9 (by omega)
  · (repeat rw [sI_ne (by omega)])
    exact f8 8 10 (by omega)
  · (repeat rw [sI_ne (by omega)])
    exact f8 8 11 (by omega)
  · exact f6 8 8

set_option maxHeartbeats 4000000 in
set_option maxRecDepth 100000 in
theorem st_6y (G : oG) {h : oH} {n : Nat} (hh : oHs h n) {z : Nat} {T : Nat → Int} (tp : tpC h z T) {q : Nat} (hq : q ≤ z) (hnx : (hI h 8 3).toInt = (q : Int)) (h7 : (hI h 8 7).toInt = 6) (b x3 x4 : Int32) {cc : Nat} (h4 : x4.toInt = (cc : Int)) (hc : cc ≤ q) (hk : xK T z q = 6) (hb : b.toInt = 1) {v : Nat} (hv : v < n) (hr8 : hR h 8 8 = some (hid v)) : ∃ h', sC G b x3 x4 h (x3 + 1) (x4 + 1) h' ∧ (h'.1 = h.1 ∧ (∀ a y, hR h' a y = hR h a y) ∧ (∀ a y, hJ h' a y = hJ h a y) ∧ (∀ a y, ¬ (a = 8 ∧ 3 ≤ y) → a ≠ pid v → hI h' a y = hI h a y) ∧ (hI h' (pid v) 0 = hI h 8 9 ∧ hI h' (pid v) 1 = hI h 8 10 ∧ hI h' (pid v) 2 = hI h 8 11) ∧ ∀ y, 2 < y → hI h' (pid v) y = hI h (pid v) y) ∧ (hI h' 8 3).toInt = ((xE T z q : Nat) : Int) ∧ (hI h' 8 7).toInt = 0 ∧ hI h' 8 9 = hI h 8 9 ∧ hI h' 8 10 = hI h 8 10 ∧ hI h' 8 11 = hI h 8 11 ∧ hR h' 8 8 = hR h 8 8 := by
  have z3 := tp.2.1
  obtain ⟨h1, sp1, rd⟩ := rdT G hh.1 tp hq hnx
  have rf := fr8.rd rd
  obtain ⟨f1, f2, f3, f4, f5, f6, f7, f8⟩ := rd
  have hh1 : oHs h1 n := hh.fr f5 f6
  have hs1 := hh1.1
  have h71 : (hI h1 8 7).toInt = 6 := by rw [f8 8 7 (by omega)]; exact h7
  rw [hk] at f2 f4
  have tt := sp_tt6 G hh1 f2 h71 rfl
  have hp : 36 ≤ pid v := by unfold pid; omega
  have hh2 : oHs (sI h1 8 7 0) n := hh1
  have hr2 : hR (sI h1 8 7 0) 8 8 = some (hid v) := (f6 8 8).trans hr8
  have e9 : hI (sI h1 8 7 0) 8 9 = hI h 8 9 := (sI_ne (by omega)).trans (f8 8 9 (by omega))
  have e10 : hI (sI h1 8 7 0) 8 10 = hI h 8 10 := (sI_ne (by omega)).trans (f8 8 10 (by omega))
  have e11 : hI (sI h1 8 7 0) 8 11 = hI h 8 11 := (sI_ne (by omega)).trans (f8 8 11 (by omega))
  refine ⟨sI (sI (sI (sI h1 8 7 0) (pid v) 0 (hI h 8 9)) (pid v) 1 (hI h 8 10)) (pid v) 2 (hI h 8 11), ⟨f5, fun p l e R s m args below meth c Z n0 nF C hF K t5 => ?_⟩, ⟨f5, f6, f7, fun a y c1 c2 => ?_, ⟨?_, ?_, ?_⟩, fun y hy => ?_⟩, ?_, ?_, ?_, ?_, ?_, ?_⟩
  · refine r_iload C rfl dX3_readOnce_15 ?_
    refine r_sipush C 300 rfl dX3_readOnce_17 ?_
    refine t_icmp_gt C 124 (by decide) h4 (show (300 : Int32).toInt = 300 from rfl) dX3_readOnce_20 (fun c20 => absurd c20 (by omega)) (fun c20 => ?_)
    have hs := hh.1
    refine r_aload_n C rfl rfl dX3_readOnce_23 ?_
    refine r_callV C sp1 kv_X3_readToken kn_X3_readToken rfl dX3_readOnce_24 cl_X3_55 ⟨Nat.le_of_ble_eq_true rfl, Nat.le_of_ble_eq_true rfl⟩ (by decide) rfl rfl (q_lt hs (by decide)) (by rw [f5]; exact hF) rfl (Nat.le_of_ble_eq_true rfl) ?_
    have hs := hs1
    have hF1 : h1.1 ≤ nF := by rw [f5]; exact hF
    refine r_aload_n C rfl rfl dX3_readOnce_27 ?_
    refine r_getI C dX3_readOnce_28 fl_X3_25 rfl (q_lt hs (by decide)) ?_
    refine t_if_ne C 44 (by decide) f2 dX3_readOnce_31 (fun c31 => ?_) (fun c31 => absurd c31 (by decide))
    refine r_aload_n C rfl rfl dX3_readOnce_44 ?_
    refine r_aload_n C rfl rfl dX3_readOnce_45 ?_
    refine r_callV C tt kv_X3_takeToken kn_X3_takeToken rfl dX3_readOnce_46 cl_X3_58 ⟨Nat.le_of_ble_eq_true rfl, Nat.le_of_ble_eq_true rfl⟩ (by decide) rfl rfl (q_lt hs (by decide)) hF1 rfl (Nat.le_of_ble_eq_true rfl) ?_
    refine r_istore C rfl (Nat.le_of_ble_eq_true rfl) dX3_readOnce_49 ?_
    refine r_iload C rfl dX3_readOnce_51 ?_
    refine t_if_eq C 70 (by decide) (show (0 : Int32).toInt = 0 from rfl) dX3_readOnce_53 (fun c53 => ?_) (fun c53 => absurd c53 (by decide))
    have hs : oSh (sI h1 8 7 0) := hs1
    refine r_aload_n C rfl rfl dX3_readOnce_70 ?_
    refine r_getI C dX3_readOnce_71 fl_X3_25 rfl (q_lt hs (by decide)) ?_
    refine r_bipush C 6 rfl dX3_readOnce_74 ?_
    refine t_icmp_eq C 82 (by decide) f2 (show (6 : Int32).toInt = 6 from rfl) dX3_readOnce_76 (fun c76 => ?_) (fun c76 => absurd rfl c76)
    refine r_iinc C rfl rfl (Nat.le_of_ble_eq_true rfl) dX3_readOnce_82 ?_
    refine r_iload_n C rfl dX3_readOnce_85 ?_
    refine t_if_eq C 118 (by decide) hb dX3_readOnce_86 (fun c86 => absurd c86 (by decide)) (fun c86 => ?_)
    refine r_aload_n C rfl rfl dX3_readOnce_89 ?_
    refine r_getR C dX3_readOnce_90 fl_X3_37 rfl rfl (q_lt hs (by decide)) hr2 ?_
    refine r_ifnull C dX3_readOnce_93 ?_
    refine r_aload_n C rfl rfl dX3_readOnce_96 ?_
    refine r_getR C dX3_readOnce_97 fl_X3_37 rfl rfl (q_lt hs (by decide)) hr2 ?_
    refine r_getO C dX3_readOnce_100 fl_X3_63 rfl (tg_hid v) (oHs.lt hh2 hv) (oHs.pl hh2 hv) ?_
    refine r_aload_n C rfl rfl dX3_readOnce_103 ?_
    refine r_getI C dX3_readOnce_104 fl_X3_41 rfl (q_lt hs (by decide)) ?_
    refine r_aload_n C rfl rfl dX3_readOnce_107 ?_
    refine r_getI C dX3_readOnce_108 fl_X3_44 rfl (q_lt hs (by decide)) ?_
    refine r_aload_n C rfl rfl dX3_readOnce_111 ?_
    refine r_getI C dX3_readOnce_112 fl_X3_47 rfl (q_lt hs (by decide)) ?_
    refine r_callV C (sp_be G (i := v) (oHs.plt hh2 hv) _ _ _) kv_X2_become kn_X2_become rfl dX3_readOnce_115 cl_X3_69 ⟨Nat.le_of_ble_eq_true rfl, Nat.le_of_ble_eq_true rfl⟩ (by decide) rfl (tg_pid v) (oHs.plt hh2 hv) hF1 rfl (Nat.le_of_ble_eq_true rfl) ?_
    rw [e9, e10, e11]
    refine r_iinc C rfl rfl (Nat.le_of_ble_eq_true rfl) dX3_readOnce_118 ?_
    refine r_goto C 15 (by decide) dX3_readOnce_121 ?_
    exact K _
  · (repeat rw [sI_ne (by omega)])
    exact f8 a y (by omega)
  · rw [sI_ne (by omega), sI_ne (by omega), sI_eq ⟨rfl, rfl⟩]
  · rw [sI_ne (by omega), sI_eq ⟨rfl, rfl⟩]
  · rw [sI_eq ⟨rfl, rfl⟩]
  · (repeat rw [sI_ne (by omega)])
    exact f8 _ y (by omega)
  · (repeat rw [sI_ne (by omega)])
    exact f1
  · (repeat rw [sI_ne (by omega)])
    rw [sI_eq ⟨rfl, rfl⟩]
    rfl
  · (repeat rw [sI_ne (by omega)])
    exact f8 8 9 (by omega)
  · (repeat rw [sI_ne (by omega)])
    exact f8 8 10 (by omega)
  · (repeat rw [sI_ne (by omega)])
    exact f8 8 11 (by omega)
  · exact f6 8 8

