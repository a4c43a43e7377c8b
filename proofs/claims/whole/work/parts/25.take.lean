/-! a fill on the class's house -/
def u1 (h : oH) (a : Nat) (q : Int32) : oH := sI h a 11 (noteC h a q)
def u2 (h : oH) (a : Nat) : oH := sI h a 12 1
def t4 (h : oH) (a : Nat) : oH := sI h a 13 0
def t5 (h : oH) (a : Nat) : oH := sI h a 14 0
def tl (h : oH) (a : Nat) : oH := t5 (t4 (t3 (t2 (t1 h a) a) a) a) a
theorem tl_n (h : oH) (a : Nat) : (tl h a).1 = h.1 ∧ (∀ x y, hR (tl h a) x y = hR h x y) ∧ (∀ x y, hJ (tl h a) x y = hJ h x y) := by
  unfold tl t5 t4 t3 t2 t1
  refine ⟨?_, fun x y => ?_, fun x y => ?_⟩
  · rw [n_sI, n_sI, n_sI, n_sI, n_sI]
  · rw [hR_sI, hR_sI, hR_sI, hR_sI, hR_sI]
  · rw [hJ_sI, hJ_sI, hJ_sI, hJ_sI, hJ_sI]
theorem tl_f (h : oH) (a : Nat) {x k : Nat} (z : ¬ (x = a ∧ ((8 ≤ k ∧ k ≤ 10) ∨ 13 ≤ k))) : hI (tl h a) x k = hI h x k := by
  unfold tl t5 t4 t3 t2 t1
  rw [zne (by omega), zne (by omega), zne (by omega), zne (by omega), zne (by omega)]
theorem tl_v (h : oH) (a : Nat) : hI (tl h a) a 8 = hI h a 2 ∧ hI (tl h a) a 9 = hI h a 2 ∧ hI (tl h a) a 10 = hI h a 10 + 1 ∧ hI (tl h a) a 13 = 0 ∧ hI (tl h a) a 14 = 0 := by
  unfold tl
  refine ⟨?_, ?_, ?_, ?_, ?_⟩
  · unfold t5 t4 t3
    rw [zne (by omega), zne (by omega), zne (by omega)]
    unfold t2 t1
    rw [zeq ⟨rfl, rfl⟩, zne (by omega)]
  · unfold t5 t4
    rw [zne (by omega), zne (by omega)]
    unfold t3 t2 t1
    rw [zeq ⟨rfl, rfl⟩, zne (by omega), zne (by omega)]
  · unfold t5 t4 t3 t2
    rw [zne (by omega), zne (by omega), zne (by omega), zne (by omega)]
    unfold t1
    rw [zeq ⟨rfl, rfl⟩]
  · unfold t5
    rw [zne (by omega)]
    unfold t4
    rw [zeq ⟨rfl, rfl⟩]
  · unfold t5
    rw [zeq ⟨rfl, rfl⟩]
set_option maxHeartbeats 4000000 in
set_option maxRecDepth 100000 in
theorem sp_tkA (G : oG) {h : oH} {a : Nat} (ta : tg a = (0, 1)) (la : a < h.1) (q : Int32) (kc : ¬ (hI (u1 h a q) a 11).toInt = 0) : oSp G mX1_takeFill [.ref a, .int q] h none (t5 (t4 (t3 (t2 (t1 (u2 (u1 h a q) a) a) a) a) a) a) := by
  refine oSp.intro [some (.ref a), some (.int q)] rfl (Nat.le_of_ble_eq_true rfl) (plainFor_of_name (by decide +kernel)) (Nat.le_refl _) ?_
  intro p l e R s m args below meth c C
  refine r_aload_n C rfl rfl dX1_takeFill_0 ?_
  refine r_aload_n C rfl rfl dX1_takeFill_1 ?_
  refine r_iload_n C rfl dX1_takeFill_2 ?_
  refine r_callV C (sp_noteOf G ta (by exact la) _) kv_X1_noteOf kn_X1_noteOf rfl dX1_takeFill_3 cl_X1_78 ⟨Nat.le_of_ble_eq_true rfl, Nat.le_of_ble_eq_true rfl⟩ (by decide) rfl ta (by exact la) (Nat.le_refl _) rfl (Nat.le_of_ble_eq_true rfl) ?_
  refine r_putI C dX1_takeFill_6 fl_X1_34 ta (by exact la) (Or.inl rfl) ?_
  refine oS_h (h2 := (u1 h a q)) rfl ?_
  refine r_aload_n C rfl rfl dX1_takeFill_9 ?_
  refine r_getI C dX1_takeFill_10 fl_X1_34 ta (by exact la) ?_
  refine t_if_eq C 24 (by decide) rfl dX1_takeFill_13 (fun c13 => absurd c13 kc) (fun c13 => ?_)
  refine r_aload_n C rfl rfl dX1_takeFill_16 ?_
  refine r_iconstv C 1 rfl dX1_takeFill_17 ?_
  refine r_putZ C dX1_takeFill_18 fl_X1_37 ta (by exact la) (Or.inl rfl) ⟨rfl, rfl⟩ ?_
  refine oS_h (h2 := (u2 (u1 h a q) a)) rfl ?_
  refine r_goto C 45 (by decide) dX1_takeFill_21 ?_
  refine r_aload_n C rfl rfl dX1_takeFill_45 ?_
  refine r_dup C rfl dX1_takeFill_46 ?_
  refine r_getI C dX1_takeFill_47 fl_X1_31 ta (by exact la) ?_
  refine r_iconstv C 1 rfl dX1_takeFill_50 ?_
  refine r_iadd C dX1_takeFill_51 ?_
  refine r_putI C dX1_takeFill_52 fl_X1_31 ta (by exact la) (Or.inl rfl) ?_
  refine oS_h (h2 := (t1 (u2 (u1 h a q) a) a)) rfl ?_
  refine r_aload_n C rfl rfl dX1_takeFill_55 ?_
  refine r_aload_n C rfl rfl dX1_takeFill_56 ?_
  refine r_getI C dX1_takeFill_57 fl_X1_53 ta (by exact la) ?_
  refine r_putI C dX1_takeFill_60 fl_X1_56 ta (by exact la) (Or.inl rfl) ?_
  refine oS_h (h2 := (t2 (t1 (u2 (u1 h a q) a) a) a)) rfl ?_
  refine r_aload_n C rfl rfl dX1_takeFill_63 ?_
  refine r_aload_n C rfl rfl dX1_takeFill_64 ?_
  refine r_getI C dX1_takeFill_65 fl_X1_53 ta (by exact la) ?_
  refine r_putI C dX1_takeFill_68 fl_X1_59 ta (by exact la) (Or.inl rfl) ?_
  refine oS_h (h2 := (t3 (t2 (t1 (u2 (u1 h a q) a) a) a) a)) rfl ?_
  refine r_aload_n C rfl rfl dX1_takeFill_71 ?_
  refine r_iconstv C 0 rfl dX1_takeFill_72 ?_
  refine r_putI C dX1_takeFill_73 fl_X1_41 ta (by exact la) (Or.inl rfl) ?_
  refine oS_h (h2 := (t4 (t3 (t2 (t1 (u2 (u1 h a q) a) a) a) a) a)) rfl ?_
  refine r_aload_n C rfl rfl dX1_takeFill_76 ?_
  refine r_iconstv C 0 rfl dX1_takeFill_77 ?_
  refine r_putI C dX1_takeFill_78 fl_X1_44 ta (by exact la) (Or.inl rfl) ?_
  refine oS_h (h2 := (t5 (t4 (t3 (t2 (t1 (u2 (u1 h a q) a) a) a) a) a) a)) rfl ?_
  exact r_vret C dX1_takeFill_81 rfl (Nat.le_refl _) rfl

set_option maxHeartbeats 4000000 in
set_option maxRecDepth 100000 in
theorem sp_tkB (G : oG) {h : oH} {a : Nat} (ta : tg a = (0, 1)) (la : a < h.1) (q : Int32) (kc : (hI (u1 h a q) a 11).toInt = 0) (kd : ¬ (q.toInt < (hI (u1 h a q) a 2).toInt ∧ 1 ≤ (hI (u1 h a q) a 13).toInt)) : oSp G mX1_takeFill [.ref a, .int q] h none (t5 (t4 (t3 (t2 (t1 (u1 h a q) a) a) a) a) a) := by
  refine oSp.intro [some (.ref a), some (.int q)] rfl (Nat.le_of_ble_eq_true rfl) (plainFor_of_name (by decide +kernel)) (Nat.le_refl _) ?_
  intro p l e R s m args below meth c C
  refine r_aload_n C rfl rfl dX1_takeFill_0 ?_
  refine r_aload_n C rfl rfl dX1_takeFill_1 ?_
  refine r_iload_n C rfl dX1_takeFill_2 ?_
  refine r_callV C (sp_noteOf G ta (by exact la) _) kv_X1_noteOf kn_X1_noteOf rfl dX1_takeFill_3 cl_X1_78 ⟨Nat.le_of_ble_eq_true rfl, Nat.le_of_ble_eq_true rfl⟩ (by decide) rfl ta (by exact la) (Nat.le_refl _) rfl (Nat.le_of_ble_eq_true rfl) ?_
  refine r_putI C dX1_takeFill_6 fl_X1_34 ta (by exact la) (Or.inl rfl) ?_
  refine oS_h (h2 := (u1 h a q)) rfl ?_
  refine r_aload_n C rfl rfl dX1_takeFill_9 ?_
  refine r_getI C dX1_takeFill_10 fl_X1_34 ta (by exact la) ?_
  refine t_if_eq C 24 (by decide) rfl dX1_takeFill_13 (fun c13 => ?_) (fun c13 => absurd kc c13)
  refine r_iload_n C rfl dX1_takeFill_24 ?_
  refine r_aload_n C rfl rfl dX1_takeFill_25 ?_
  refine r_getI C dX1_takeFill_26 fl_X1_53 ta (by exact la) ?_
  refine t_icmp_ge C 45 (by decide) rfl rfl dX1_takeFill_29 (fun c29 => ?_) (fun c29 => ?_)
  · first
    | (exfalso; omega)
    |  (refine r_aload_n C rfl rfl dX1_takeFill_45 ?_
        refine r_dup C rfl dX1_takeFill_46 ?_
        refine r_getI C dX1_takeFill_47 fl_X1_31 ta (by exact la) ?_
        refine r_iconstv C 1 rfl dX1_takeFill_50 ?_
        refine r_iadd C dX1_takeFill_51 ?_
        refine r_putI C dX1_takeFill_52 fl_X1_31 ta (by exact la) (Or.inl rfl) ?_
        refine oS_h (h2 := (t1 (u1 h a q) a)) rfl ?_
        refine r_aload_n C rfl rfl dX1_takeFill_55 ?_
        refine r_aload_n C rfl rfl dX1_takeFill_56 ?_
        refine r_getI C dX1_takeFill_57 fl_X1_53 ta (by exact la) ?_
        refine r_putI C dX1_takeFill_60 fl_X1_56 ta (by exact la) (Or.inl rfl) ?_
        refine oS_h (h2 := (t2 (t1 (u1 h a q) a) a)) rfl ?_
        refine r_aload_n C rfl rfl dX1_takeFill_63 ?_
        refine r_aload_n C rfl rfl dX1_takeFill_64 ?_
        refine r_getI C dX1_takeFill_65 fl_X1_53 ta (by exact la) ?_
        refine r_putI C dX1_takeFill_68 fl_X1_59 ta (by exact la) (Or.inl rfl) ?_
        refine oS_h (h2 := (t3 (t2 (t1 (u1 h a q) a) a) a)) rfl ?_
        refine r_aload_n C rfl rfl dX1_takeFill_71 ?_
        refine r_iconstv C 0 rfl dX1_takeFill_72 ?_
        refine r_putI C dX1_takeFill_73 fl_X1_41 ta (by exact la) (Or.inl rfl) ?_
        refine oS_h (h2 := (t4 (t3 (t2 (t1 (u1 h a q) a) a) a) a)) rfl ?_
        refine r_aload_n C rfl rfl dX1_takeFill_76 ?_
        refine r_iconstv C 0 rfl dX1_takeFill_77 ?_
        refine r_putI C dX1_takeFill_78 fl_X1_44 ta (by exact la) (Or.inl rfl) ?_
        refine oS_h (h2 := (t5 (t4 (t3 (t2 (t1 (u1 h a q) a) a) a) a) a)) rfl ?_
        exact r_vret C dX1_takeFill_81 rfl (Nat.le_refl _) rfl)
  · first
    | (exfalso; omega)
    |  (refine r_aload_n C rfl rfl dX1_takeFill_32 ?_
        refine r_getI C dX1_takeFill_33 fl_X1_41 ta (by exact la) ?_
        refine r_iconstv C 1 rfl dX1_takeFill_36 ?_
        refine t_icmp_lt C 45 (by decide) rfl (show (1 : Int32).toInt = 1 from rfl) dX1_takeFill_37 (fun c37 => ?_) (fun c37 => ?_)
        · first
          | (exfalso; omega)
          |  (refine r_aload_n C rfl rfl dX1_takeFill_45 ?_
              refine r_dup C rfl dX1_takeFill_46 ?_
              refine r_getI C dX1_takeFill_47 fl_X1_31 ta (by exact la) ?_
              refine r_iconstv C 1 rfl dX1_takeFill_50 ?_
              refine r_iadd C dX1_takeFill_51 ?_
              refine r_putI C dX1_takeFill_52 fl_X1_31 ta (by exact la) (Or.inl rfl) ?_
              refine oS_h (h2 := (t1 (u1 h a q) a)) rfl ?_
              refine r_aload_n C rfl rfl dX1_takeFill_55 ?_
              refine r_aload_n C rfl rfl dX1_takeFill_56 ?_
              refine r_getI C dX1_takeFill_57 fl_X1_53 ta (by exact la) ?_
              refine r_putI C dX1_takeFill_60 fl_X1_56 ta (by exact la) (Or.inl rfl) ?_
              refine oS_h (h2 := (t2 (t1 (u1 h a q) a) a)) rfl ?_
              refine r_aload_n C rfl rfl dX1_takeFill_63 ?_
              refine r_aload_n C rfl rfl dX1_takeFill_64 ?_
              refine r_getI C dX1_takeFill_65 fl_X1_53 ta (by exact la) ?_
              refine r_putI C dX1_takeFill_68 fl_X1_59 ta (by exact la) (Or.inl rfl) ?_
              refine oS_h (h2 := (t3 (t2 (t1 (u1 h a q) a) a) a)) rfl ?_
              refine r_aload_n C rfl rfl dX1_takeFill_71 ?_
              refine r_iconstv C 0 rfl dX1_takeFill_72 ?_
              refine r_putI C dX1_takeFill_73 fl_X1_41 ta (by exact la) (Or.inl rfl) ?_
              refine oS_h (h2 := (t4 (t3 (t2 (t1 (u1 h a q) a) a) a) a)) rfl ?_
              refine r_aload_n C rfl rfl dX1_takeFill_76 ?_
              refine r_iconstv C 0 rfl dX1_takeFill_77 ?_
              refine r_putI C dX1_takeFill_78 fl_X1_44 ta (by exact la) (Or.inl rfl) ?_
              refine oS_h (h2 := (t5 (t4 (t3 (t2 (t1 (u1 h a q) a) a) a) a) a)) rfl ?_
              exact r_vret C dX1_takeFill_81 rfl (Nat.le_refl _) rfl)
        · first
          | (exfalso; omega)
          |  (refine r_aload_n C rfl rfl dX1_takeFill_40 ?_
              refine r_iload_n C rfl dX1_takeFill_41 ?_
              refine r_callV C (absurd trivial kd) kv_X1_narrow kn_X1_narrow rfl dX1_takeFill_42 cl_X1_81 ⟨Nat.le_of_ble_eq_true rfl, Nat.le_of_ble_eq_true rfl⟩ (by decide) rfl ta (by exact la) (Nat.le_refl _) rfl (Nat.le_of_ble_eq_true rfl) ?_
              refine r_aload_n C rfl rfl dX1_takeFill_45 ?_
              refine r_dup C rfl dX1_takeFill_46 ?_
              refine r_getI C dX1_takeFill_47 fl_X1_31 ta (by exact la) ?_
              refine r_iconstv C 1 rfl dX1_takeFill_50 ?_
              refine r_iadd C dX1_takeFill_51 ?_
              refine r_putI C dX1_takeFill_52 fl_X1_31 ta (by exact la) (Or.inl rfl) ?_
              refine oS_h (h2 := (t1 (u1 h a q) a)) rfl ?_
              refine r_aload_n C rfl rfl dX1_takeFill_55 ?_
              refine r_aload_n C rfl rfl dX1_takeFill_56 ?_
              refine r_getI C dX1_takeFill_57 fl_X1_53 ta (by exact la) ?_
              refine r_putI C dX1_takeFill_60 fl_X1_56 ta (by exact la) (Or.inl rfl) ?_
              refine oS_h (h2 := (t2 (t1 (u1 h a q) a) a)) rfl ?_
              refine r_aload_n C rfl rfl dX1_takeFill_63 ?_
              refine r_aload_n C rfl rfl dX1_takeFill_64 ?_
              refine r_getI C dX1_takeFill_65 fl_X1_53 ta (by exact la) ?_
              refine r_putI C dX1_takeFill_68 fl_X1_59 ta (by exact la) (Or.inl rfl) ?_
              refine oS_h (h2 := (t3 (t2 (t1 (u1 h a q) a) a) a)) rfl ?_
              refine r_aload_n C rfl rfl dX1_takeFill_71 ?_
              refine r_iconstv C 0 rfl dX1_takeFill_72 ?_
              refine r_putI C dX1_takeFill_73 fl_X1_41 ta (by exact la) (Or.inl rfl) ?_
              refine oS_h (h2 := (t4 (t3 (t2 (t1 (u1 h a q) a) a) a) a)) rfl ?_
              refine r_aload_n C rfl rfl dX1_takeFill_76 ?_
              refine r_iconstv C 0 rfl dX1_takeFill_77 ?_
              refine r_putI C dX1_takeFill_78 fl_X1_44 ta (by exact la) (Or.inl rfl) ?_
              refine oS_h (h2 := (t5 (t4 (t3 (t2 (t1 (u1 h a q) a) a) a) a) a)) rfl ?_
              exact r_vret C dX1_takeFill_81 rfl (Nat.le_refl _) rfl))

set_option maxHeartbeats 4000000 in
set_option maxRecDepth 100000 in
theorem sp_tkC (G : oG) {h : oH} {a : Nat} (ta : tg a = (0, 1)) (la : a < h.1) (q : Int32) (kc : (hI (u1 h a q) a 11).toInt = 0) (kd : q.toInt < (hI (u1 h a q) a 2).toInt ∧ 1 ≤ (hI (u1 h a q) a 13).toInt) {h1 : oH} (lb : a < h1.1) (e1 : h1.1 = h.1) (sp : oSp G mX1_narrow [.ref a, .int q] (u1 h a q) none h1) : oSp G mX1_takeFill [.ref a, .int q] h none (t5 (t4 (t3 (t2 (t1 h1 a) a) a) a) a) := by
  refine oSp.intro [some (.ref a), some (.int q)] rfl (Nat.le_of_ble_eq_true rfl) (plainFor_of_name (by decide +kernel)) (by show h.1 ≤ h1.1; omega) ?_
  intro p l e R s m args below meth c C
  refine r_aload_n C rfl rfl dX1_takeFill_0 ?_
  refine r_aload_n C rfl rfl dX1_takeFill_1 ?_
  refine r_iload_n C rfl dX1_takeFill_2 ?_
  refine r_callV C (sp_noteOf G ta (by exact la) _) kv_X1_noteOf kn_X1_noteOf rfl dX1_takeFill_3 cl_X1_78 ⟨Nat.le_of_ble_eq_true rfl, Nat.le_of_ble_eq_true rfl⟩ (by decide) rfl ta (by first | exact la | exact lb) (by show h.1 ≤ h1.1; omega) rfl (Nat.le_of_ble_eq_true rfl) ?_
  refine r_putI C dX1_takeFill_6 fl_X1_34 ta (by first | exact la | exact lb) (Or.inl rfl) ?_
  refine oS_h (h2 := (u1 h a q)) rfl ?_
  refine r_aload_n C rfl rfl dX1_takeFill_9 ?_
  refine r_getI C dX1_takeFill_10 fl_X1_34 ta (by first | exact la | exact lb) ?_
  refine t_if_eq C 24 (by decide) rfl dX1_takeFill_13 (fun c13 => ?_) (fun c13 => absurd kc c13)
  refine r_iload_n C rfl dX1_takeFill_24 ?_
  refine r_aload_n C rfl rfl dX1_takeFill_25 ?_
  refine r_getI C dX1_takeFill_26 fl_X1_53 ta (by first | exact la | exact lb) ?_
  refine t_icmp_ge C 45 (by decide) rfl rfl dX1_takeFill_29 (fun c29 => ?_) (fun c29 => ?_)
  · first
    | (exfalso; omega)
    |  (refine r_aload_n C rfl rfl dX1_takeFill_45 ?_
        refine r_dup C rfl dX1_takeFill_46 ?_
        refine r_getI C dX1_takeFill_47 fl_X1_31 ta (by first | exact la | exact lb) ?_
        refine r_iconstv C 1 rfl dX1_takeFill_50 ?_
        refine r_iadd C dX1_takeFill_51 ?_
        refine r_putI C dX1_takeFill_52 fl_X1_31 ta (by first | exact la | exact lb) (Or.inl rfl) ?_
        refine oS_h (h2 := (t1 h1 a)) rfl ?_
        refine r_aload_n C rfl rfl dX1_takeFill_55 ?_
        refine r_aload_n C rfl rfl dX1_takeFill_56 ?_
        refine r_getI C dX1_takeFill_57 fl_X1_53 ta (by first | exact la | exact lb) ?_
        refine r_putI C dX1_takeFill_60 fl_X1_56 ta (by first | exact la | exact lb) (Or.inl rfl) ?_
        refine oS_h (h2 := (t2 (t1 h1 a) a)) rfl ?_
        refine r_aload_n C rfl rfl dX1_takeFill_63 ?_
        refine r_aload_n C rfl rfl dX1_takeFill_64 ?_
        refine r_getI C dX1_takeFill_65 fl_X1_53 ta (by first | exact la | exact lb) ?_
        refine r_putI C dX1_takeFill_68 fl_X1_59 ta (by first | exact la | exact lb) (Or.inl rfl) ?_
        refine oS_h (h2 := (t3 (t2 (t1 h1 a) a) a)) rfl ?_
        refine r_aload_n C rfl rfl dX1_takeFill_71 ?_
        refine r_iconstv C 0 rfl dX1_takeFill_72 ?_
        refine r_putI C dX1_takeFill_73 fl_X1_41 ta (by first | exact la | exact lb) (Or.inl rfl) ?_
        refine oS_h (h2 := (t4 (t3 (t2 (t1 h1 a) a) a) a)) rfl ?_
        refine r_aload_n C rfl rfl dX1_takeFill_76 ?_
        refine r_iconstv C 0 rfl dX1_takeFill_77 ?_
        refine r_putI C dX1_takeFill_78 fl_X1_44 ta (by first | exact la | exact lb) (Or.inl rfl) ?_
        refine oS_h (h2 := (t5 (t4 (t3 (t2 (t1 h1 a) a) a) a) a)) rfl ?_
        exact r_vret C dX1_takeFill_81 rfl (Nat.le_refl _) rfl)
  · first
    | (exfalso; omega)
    |  (refine r_aload_n C rfl rfl dX1_takeFill_32 ?_
        refine r_getI C dX1_takeFill_33 fl_X1_41 ta (by first | exact la | exact lb) ?_
        refine r_iconstv C 1 rfl dX1_takeFill_36 ?_
        refine t_icmp_lt C 45 (by decide) rfl (show (1 : Int32).toInt = 1 from rfl) dX1_takeFill_37 (fun c37 => ?_) (fun c37 => ?_)
        · first
          | (exfalso; omega)
          |  (refine r_aload_n C rfl rfl dX1_takeFill_45 ?_
              refine r_dup C rfl dX1_takeFill_46 ?_
              refine r_getI C dX1_takeFill_47 fl_X1_31 ta (by first | exact la | exact lb) ?_
              refine r_iconstv C 1 rfl dX1_takeFill_50 ?_
              refine r_iadd C dX1_takeFill_51 ?_
              refine r_putI C dX1_takeFill_52 fl_X1_31 ta (by first | exact la | exact lb) (Or.inl rfl) ?_
              refine oS_h (h2 := (t1 h1 a)) rfl ?_
              refine r_aload_n C rfl rfl dX1_takeFill_55 ?_
              refine r_aload_n C rfl rfl dX1_takeFill_56 ?_
              refine r_getI C dX1_takeFill_57 fl_X1_53 ta (by first | exact la | exact lb) ?_
              refine r_putI C dX1_takeFill_60 fl_X1_56 ta (by first | exact la | exact lb) (Or.inl rfl) ?_
              refine oS_h (h2 := (t2 (t1 h1 a) a)) rfl ?_
              refine r_aload_n C rfl rfl dX1_takeFill_63 ?_
              refine r_aload_n C rfl rfl dX1_takeFill_64 ?_
              refine r_getI C dX1_takeFill_65 fl_X1_53 ta (by first | exact la | exact lb) ?_
              refine r_putI C dX1_takeFill_68 fl_X1_59 ta (by first | exact la | exact lb) (Or.inl rfl) ?_
              refine oS_h (h2 := (t3 (t2 (t1 h1 a) a) a)) rfl ?_
              refine r_aload_n C rfl rfl dX1_takeFill_71 ?_
              refine r_iconstv C 0 rfl dX1_takeFill_72 ?_
              refine r_putI C dX1_takeFill_73 fl_X1_41 ta (by first | exact la | exact lb) (Or.inl rfl) ?_
              refine oS_h (h2 := (t4 (t3 (t2 (t1 h1 a) a) a) a)) rfl ?_
              refine r_aload_n C rfl rfl dX1_takeFill_76 ?_
              refine r_iconstv C 0 rfl dX1_takeFill_77 ?_
              refine r_putI C dX1_takeFill_78 fl_X1_44 ta (by first | exact la | exact lb) (Or.inl rfl) ?_
              refine oS_h (h2 := (t5 (t4 (t3 (t2 (t1 h1 a) a) a) a) a)) rfl ?_
              exact r_vret C dX1_takeFill_81 rfl (Nat.le_refl _) rfl)
        · first
          | (exfalso; omega)
          |  (refine r_aload_n C rfl rfl dX1_takeFill_40 ?_
              refine r_iload_n C rfl dX1_takeFill_41 ?_
              refine r_callV C sp kv_X1_narrow kn_X1_narrow rfl dX1_takeFill_42 cl_X1_81 ⟨Nat.le_of_ble_eq_true rfl, Nat.le_of_ble_eq_true rfl⟩ (by decide) rfl ta (by first | exact la | exact lb) (Nat.le_refl _) rfl (Nat.le_of_ble_eq_true rfl) ?_
              refine r_aload_n C rfl rfl dX1_takeFill_45 ?_
              refine r_dup C rfl dX1_takeFill_46 ?_
              refine r_getI C dX1_takeFill_47 fl_X1_31 ta (by first | exact la | exact lb) ?_
              refine r_iconstv C 1 rfl dX1_takeFill_50 ?_
              refine r_iadd C dX1_takeFill_51 ?_
              refine r_putI C dX1_takeFill_52 fl_X1_31 ta (by first | exact la | exact lb) (Or.inl rfl) ?_
              refine oS_h (h2 := (t1 h1 a)) rfl ?_
              refine r_aload_n C rfl rfl dX1_takeFill_55 ?_
              refine r_aload_n C rfl rfl dX1_takeFill_56 ?_
              refine r_getI C dX1_takeFill_57 fl_X1_53 ta (by first | exact la | exact lb) ?_
              refine r_putI C dX1_takeFill_60 fl_X1_56 ta (by first | exact la | exact lb) (Or.inl rfl) ?_
              refine oS_h (h2 := (t2 (t1 h1 a) a)) rfl ?_
              refine r_aload_n C rfl rfl dX1_takeFill_63 ?_
              refine r_aload_n C rfl rfl dX1_takeFill_64 ?_
              refine r_getI C dX1_takeFill_65 fl_X1_53 ta (by first | exact la | exact lb) ?_
              refine r_putI C dX1_takeFill_68 fl_X1_59 ta (by first | exact la | exact lb) (Or.inl rfl) ?_
              refine oS_h (h2 := (t3 (t2 (t1 h1 a) a) a)) rfl ?_
              refine r_aload_n C rfl rfl dX1_takeFill_71 ?_
              refine r_iconstv C 0 rfl dX1_takeFill_72 ?_
              refine r_putI C dX1_takeFill_73 fl_X1_41 ta (by first | exact la | exact lb) (Or.inl rfl) ?_
              refine oS_h (h2 := (t4 (t3 (t2 (t1 h1 a) a) a) a)) rfl ?_
              refine r_aload_n C rfl rfl dX1_takeFill_76 ?_
              refine r_iconstv C 0 rfl dX1_takeFill_77 ?_
              refine r_putI C dX1_takeFill_78 fl_X1_44 ta (by first | exact la | exact lb) (Or.inl rfl) ?_
              refine oS_h (h2 := (t5 (t4 (t3 (t2 (t1 h1 a) a) a) a) a)) rfl ?_
              exact r_vret C dX1_takeFill_81 rfl (Nat.le_refl _) rfl))

theorem sp_take (G : oG) {h : oH} {a : Nat} (ta : tg a = (0, 1)) (la : a < h.1) (q : Int32) (B : ((noteC h a q).toInt = 0 ∧ q.toInt < (hI h a 2).toInt ∧ 1 ≤ (hI h a 13).toInt) → nB (hI h a 4) (hI h a 5) (hI h a 6) (hI h a 7) q (hI h a 13) (hI h a 14)) : ∃ h1, oSp G mX1_takeFill [.ref a, .int q] h none h1 ∧ (h1.1 = h.1 ∧ (∀ x k, hR h1 x k = hR h x k) ∧ (∀ x k, hJ h1 x k = hJ h x k)) ∧ (∀ x k, ¬ (x = a ∧ 4 ≤ k) → hI h1 x k = hI h x k) ∧ (hI h1 a 8 = hI h a 2 ∧ hI h1 a 9 = hI h a 2 ∧ hI h1 a 10 = hI h a 10 + 1 ∧ hI h1 a 13 = 0 ∧ hI h1 a 14 = 0) ∧ hI h1 a 11 = noteC h a q ∧ hI h1 a 12 = (if ¬ (noteC h a q).toInt = 0 then 1 else hI h a 12) ∧ (((noteC h a q).toInt = 0 ∧ q.toInt < (hI h a 2).toInt ∧ 1 ≤ (hI h a 13).toInt) → hI h1 a 6 = cN (hI h a 4) (hI h a 5) (hI h a 6) q (hI h a 13) (hI h a 14) ∧ hI h1 a 7 = dN (hI h a 4) (hI h a 5) (hI h a 7) q (hI h a 13) (hI h a 14) ∧ hI h1 a 4 = aN (hI h a 4) (hI h1 a 6) (hI h1 a 7) q (hI h a 13) (hI h a 14) ∧ hI h1 a 5 = bN (hI h a 5) (hI h1 a 6) (hI h1 a 7) q (hI h a 13) (hI h a 14)) ∧ (¬ ((noteC h a q).toInt = 0 ∧ q.toInt < (hI h a 2).toInt ∧ 1 ≤ (hI h a 13).toInt) → ∀ k, 4 ≤ k → k ≤ 7 → hI h1 a k = hI h a k) := by
  have A := sp_tkA G ta la q
  have Bb := sp_tkB G ta la q
  have C := @sp_tkC G h a ta la q
  have g : ∀ x k, ¬ (x = a ∧ k = 11) → hI (u1 h a q) x k = hI h x k := fun _ _ z => zne z
  have e : hI (u1 h a q) a 11 = noteC h a q := zeq ⟨rfl, rfl⟩
  have w : (u1 h a q).1 = h.1 ∧ (∀ x k, hR (u1 h a q) x k = hR h x k) ∧ (∀ x k, hJ (u1 h a q) x k = hJ h x k) := by
    unfold u1
    exact nw
  have SN := sp_narrow G ta (show a < (u1 h a q).1 from la) q
  generalize u1 h a q = h0 at *
  rw [g a 4 (by omega), g a 5 (by omega), g a 6 (by omega), g a 7 (by omega), g a 13 (by omega), g a 14 (by omega)] at SN
  by_cases hw : (noteC h a q).toInt = 0
  · by_cases hd : q.toInt < (hI h a 2).toInt ∧ 1 ≤ (hI h a 13).toInt
    · obtain ⟨h1, s1, s2, s3, s6, s7, s4, s5⟩ := SN (B ⟨hw, hd⟩)
      have D := C (by rw [e]; exact hw) (by rw [g a 2 (by omega), g a 13 (by omega)]; exact hd) (h1 := h1) (by rw [s2.1, w.1]; exact la) (s2.1.trans w.1) s1
      refine ⟨tl h1 a, D, ⟨(tl_n h1 a).1.trans (s2.1.trans w.1), fun x k => ((tl_n h1 a).2.1 x k).trans ((s2.2.1 x k).trans (w.2.1 x k)), fun x k => ((tl_n h1 a).2.2 x k).trans ((s2.2.2 x k).trans (w.2.2 x k))⟩, fun x k z => by rw [tl_f h1 a (by omega), s3 x k (by omega), g x k (by omega)], ?_, ?_, ?_, fun _ => ?_, fun z => absurd ⟨hw, hd⟩ z⟩
      · obtain ⟨v1, v2, v3, v4, v5⟩ := tl_v h1 a
        rw [v1, v2, v3, v4, v5, s3 a 2 (by omega), g a 2 (by omega), s3 a 10 (by omega), g a 10 (by omega)]
        exact ⟨rfl, rfl, rfl, rfl, rfl⟩
      · rw [tl_f h1 a (by omega), s3 a 11 (by omega), e]
      · rw [if_neg (fun z => z hw), tl_f h1 a (by omega), s3 a 12 (by omega), g a 12 (by omega)]
      · rw [tl_f h1 a (k := 6) (by omega), tl_f h1 a (k := 7) (by omega), tl_f h1 a (k := 4) (by omega), tl_f h1 a (k := 5) (by omega)]
        exact ⟨s6, s7, s4, s5⟩
    · have D := Bb (by rw [e]; exact hw) (by rw [g a 2 (by omega), g a 13 (by omega)]; exact hd)
      refine ⟨tl h0 a, D, ⟨(tl_n h0 a).1.trans w.1, fun x k => ((tl_n h0 a).2.1 x k).trans (w.2.1 x k), fun x k => ((tl_n h0 a).2.2 x k).trans (w.2.2 x k)⟩, fun x k z => by rw [tl_f h0 a (by omega), g x k (by omega)], ?_, ?_, ?_, fun z => absurd z.2 hd, fun _ k l1 l2 => by rw [tl_f h0 a (by omega), g a k (by omega)]⟩
      · obtain ⟨v1, v2, v3, v4, v5⟩ := tl_v h0 a
        rw [v1, v2, v3, v4, v5, g a 2 (by omega), g a 10 (by omega)]
        exact ⟨rfl, rfl, rfl, rfl, rfl⟩
      · rw [tl_f h0 a (by omega), e]
      · rw [if_neg (fun z => z hw), tl_f h0 a (by omega), g a 12 (by omega)]
  · have D := A (by rw [e]; exact hw)
    have g2 : ∀ x k, ¬ (x = a ∧ k = 12) → hI (u2 h0 a) x k = hI h0 x k := fun _ _ z => zne z
    have e2 : hI (u2 h0 a) a 12 = 1 := zeq ⟨rfl, rfl⟩
    have w2 : (u2 h0 a).1 = h0.1 ∧ (∀ x k, hR (u2 h0 a) x k = hR h0 x k) ∧ (∀ x k, hJ (u2 h0 a) x k = hJ h0 x k) := by
      unfold u2
      exact nw
    generalize u2 h0 a = h1 at *
    refine ⟨tl h1 a, D, ⟨(tl_n h1 a).1.trans (w2.1.trans w.1), fun x k => ((tl_n h1 a).2.1 x k).trans ((w2.2.1 x k).trans (w.2.1 x k)), fun x k => ((tl_n h1 a).2.2 x k).trans ((w2.2.2 x k).trans (w.2.2 x k))⟩, fun x k z => by rw [tl_f h1 a (by omega), g2 x k (by omega), g x k (by omega)], ?_, ?_, ?_, fun z => absurd z.1 hw, fun _ k l1 l2 => by rw [tl_f h1 a (by omega), g2 a k (by omega), g a k (by omega)]⟩
    · obtain ⟨v1, v2, v3, v4, v5⟩ := tl_v h1 a
      rw [v1, v2, v3, v4, v5, g2 a 2 (by omega), g a 2 (by omega), g2 a 10 (by omega), g a 10 (by omega)]
      exact ⟨rfl, rfl, rfl, rfl, rfl⟩
    · rw [tl_f h1 a (by omega), g2 a 11 (by omega), e]
    · rw [if_pos hw, tl_f h1 a (by omega), e2]
