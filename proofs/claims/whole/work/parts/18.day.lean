/-! a day -/
theorem oS_h {G : oG} {M : oM} {p : Program} {l : Launch} {e : Env} {R : Room} {s : State} {m : MethodId} {args : Array Value} {below : List Frame} {meth : Method} {c : Code} {Z : State → Prop} {n0 pc : Nat} {L : List (Option Value)} {S : List Value} {h : oH} {h2 : oH} (e0 : h = h2) (k : oS G M p l e R s m args below meth c Z n0 pc L S h2) : oS G M p l e R s m args below meth c Z n0 pc L S h := by
  rw [e0]
  exact k
def dayC (h : oH) (x : Int32) : Nat → oH
  | 0 => h
  | k + 1 => endDayH (dayC h x k) (hid k) x
theorem eD_o {h : oH} {a b k : Nat} {x : Int32} (q : a ≠ b) : hI (endDayH h b x) a k = hI h a k := by
  unfold endDayH
  (repeat rw [sI_ne (by omega)])
theorem eD_k {h : oH} {a k : Nat} {x : Int32} (q : k < 8 ∨ (9 < k ∧ k < 13) ∨ 14 < k) : hI (endDayH h a x) a k = hI h a k := by
  unfold endDayH
  (repeat rw [sI_ne (by omega)])
theorem eD_8 {h : oH} {a : Nat} {x : Int32} : hI (endDayH h a x) a 8 = mx 0 (hI h a 8 - (hI h a 4 + hI h a 5 * x)) := by
  unfold endDayH
  rw [sI_ne (by omega), sI_ne (by omega), sI_ne (by omega), sI_eq (by omega)]
theorem eD_9 {h : oH} {a : Nat} {x : Int32} : hI (endDayH h a x) a 9 = mx 0 (hI h a 9 - (hI h a 6 + hI h a 7 * x)) := by
  unfold endDayH
  rw [sI_ne (by omega), sI_ne (by omega), sI_eq (by omega)]
theorem eD_13 {h : oH} {a : Nat} {x : Int32} : hI (endDayH h a x) a 13 = hI h a 13 + 1 := by
  unfold endDayH
  rw [sI_ne (by omega), sI_eq (by omega)]
theorem eD_14 {h : oH} {a : Nat} {x : Int32} : hI (endDayH h a x) a 14 = hI h a 14 + x := by
  unfold endDayH
  rw [sI_eq (by omega)]
theorem hid_ne {i j : Nat} (q : i ≠ j) : hid i ≠ hid j := by
  unfold hid
  omega
theorem dC_o {h : oH} {x : Int32} {a y : Nat} : ∀ k : Nat, (∀ i, i < k → a ≠ hid i) → hI (dayC h x k) a y = hI h a y
  | 0, _ => rfl
  | k + 1, q => (eD_o (q k (by omega))).trans (dC_o k (fun i hi => q i (by omega)))
theorem dC_i {h : oH} {x : Int32} {i y : Nat} : ∀ k : Nat, i < k → hI (dayC h x k) (hid i) y = hI (endDayH h (hid i) x) (hid i) y
  | 0, q => absurd q (by omega)
  | k + 1, q => by
    show hI (endDayH (dayC h x k) (hid k) x) (hid i) y = _
    by_cases e : i = k
    · subst e
      have e1 : ∀ y, hI (dayC h x i) (hid i) y = hI h (hid i) y := fun y => dC_o i (fun j hj => hid_ne (by omega))
      unfold endDayH
      simp only [hI_sI, e1]
    · rw [eD_o (hid_ne e)]
      exact dC_i k (by omega)
theorem dC_n {h : oH} {x : Int32} : ∀ k : Nat, (dayC h x k).1 = h.1
  | 0 => rfl
  | k + 1 => dC_n k
theorem dC_R {h : oH} {x : Int32} {a y : Nat} : ∀ k : Nat, hR (dayC h x k) a y = hR h a y
  | 0 => rfl
  | k + 1 => dC_R k
theorem dC_J {h : oH} {x : Int32} {a y : Nat} : ∀ k : Nat, hJ (dayC h x k) a y = hJ h a y
  | 0 => rfl
  | k + 1 => dC_J k
theorem dC_hs {h : oH} {x : Int32} {k n : Nat} (q : oHs h n) : oHs (dayC h x k) n := q.fr (dC_n k) (fun a y => dC_R k)
def usC (h : oH) (x : Int32) (n j : Nat) : Int32 := if j < n then b1 (¬ 0 < (mx 0 (hI h (hid j) 9 - (hI h (hid j) 6 + hI h (hid j) 7 * x))).toInt) else 0
set_option maxHeartbeats 4000000 in
set_option maxRecDepth 100000 in
theorem lp_dayC (G : oG) {p : Program} {l : Launch} {e : Env} {R : Room} {s : State} {m : MethodId} {args : Array Value} {below : List Frame} {meth : Method} {c : Code} {n0 nF : Nat} {h : oH} {n : Nat} (hh0 : oHs h n) (x : Int32) (C : oC G mX5_day n0 nF p l R s m args meth c) (hF0 : h.1 ≤ nF) : ∀ (k i : Nat) (w y : Int32) (t : Option Value), i + k = 24 → w.toInt = (i : Int) → y = sumI (usC h x n) i → oS G mX5_day p l e R s m args below meth c (oZ G below args s n0 nF (some (.int (sumI (usC h x n) 24))) (dayC h x n)) n0 50 [some (.ref 0), some (.int x), some (.int y), some (.ref 1), some (.int 24), some (.int w), t] [] (dayC h x (min i n)) := by
  have h24 := hh0.2.2.1
  intro k
  induction k with
  | zero =>
    intro i w y t hik hw hy
    have hi24 : i = 24 := by omega
    subst hi24
    rw [show min 24 n = n by omega]
    have hF : (dayC h x n).1 ≤ nF := by rw [dC_n]; exact hF0
    refine r_iload C rfl dX5_day_50 ?_
    refine r_iload C rfl dX5_day_52 ?_
    refine t_icmp_ge C 94 (by decide) hw (show (24 : Int32).toInt = 24 from rfl) dX5_day_54 (fun c54 => ?_) (fun c54 => absurd c54 (by omega))
    refine r_iload_n C rfl dX5_day_94 ?_
    exact r_iret C dX5_day_95 rfl hF (by rw [hy]) rfl
  | succ k ih =>
    intro i w y t hik hw hy
    have hF : (dayC h x (min i n)).1 ≤ nF := by rw [dC_n]; exact hF0
    by_cases hi : i < n
    · rw [show min i n = i by omega] at hF ⊢
      have hh := dC_hs (x := x) (k := i) hh0
      refine r_iload C rfl dX5_day_50 ?_
      refine r_iload C rfl dX5_day_52 ?_
      refine t_icmp_ge C 94 (by decide) hw (show (24 : Int32).toInt = 24 from rfl) dX5_day_54 (fun c54 => absurd c54 (by omega)) (fun c54 => ?_)
      refine r_aload_n C rfl rfl dX5_day_57 ?_
      refine r_iload C rfl dX5_day_58 ?_
      refine r_aald C (i) (by have t := hw; omega) (by omega) dX5_day_60 rfl (q_lt hh.1 (by decide)) (oHs.row hh hi) ?_
      refine r_astore C rfl rfl (Nat.le_of_ble_eq_true rfl) dX5_day_61 ?_
      refine r_aload C rfl rfl dX5_day_63 ?_
      refine r_ifnonnull C 71 (by decide) dX5_day_65 ?_
      refine r_aload C rfl rfl dX5_day_71 ?_
      refine r_iload_n C rfl dX5_day_73 ?_
      refine r_callV C (sp_endDay G (tg_hid i) (oHs.lt (by exact hh) hi) _) kv_X1_endDay kn_X1_endDay rfl dX5_day_74 cl_X5_100 ⟨Nat.le_of_ble_eq_true rfl, Nat.le_of_ble_eq_true rfl⟩ (by decide) rfl (tg_hid i) (oHs.lt hh hi) hF rfl (Nat.le_of_ble_eq_true rfl) ?_
      refine r_aload C rfl rfl dX5_day_77 ?_
      refine r_callV C (sp_isSafe G (tg_hid i) (oHs.lt (by exact hh) hi)) kv_X1_isSafe kn_X1_isSafe rfl dX5_day_79 cl_X5_104 ⟨Nat.le_of_ble_eq_true rfl, Nat.le_of_ble_eq_true rfl⟩ (by decide) rfl (tg_hid i) (oHs.lt hh hi) hF rfl (Nat.le_of_ble_eq_true rfl) ?_
      refine t_ifb_ne C 88 (by decide) dX5_day_82 (fun c82 => ?_) (fun c82 => ?_)
      · refine r_iinc C rfl rfl (Nat.le_of_ble_eq_true rfl) dX5_day_88 ?_
        refine r_goto C 50 (by decide) dX5_day_91 ?_
        have e9 := (show hI (endDayH (dayC h x i) (hid i) x) (hid i) 9 = mx 0 (hI h (hid i) 9 - (hI h (hid i) 6 + hI h (hid i) 7 * x)) from (dC_i (i + 1) (Nat.lt_succ_self i)).trans eD_9)
        rw [e9] at c82
        refine oS_h (h2 := dayC h x (min (i + 1) n)) (by rw [show min (i + 1) n = i + 1 by omega]; rfl) (ih (i + 1) _ _ _ (by omega) (by have t := tA hw (show (Int32.ofInt 1).toInt = 1 from rfl) (by omega); omega) (by rw [hy]; show _ = sumI _ i + usC h x n i; unfold usC; rw [if_pos hi, b1_f (fun q => q c82)]; first | rfl | rw [Int32.add_zero]))
      · refine r_iinc C rfl rfl (Nat.le_of_ble_eq_true rfl) dX5_day_85 ?_
        refine r_iinc C rfl rfl (Nat.le_of_ble_eq_true rfl) dX5_day_88 ?_
        refine r_goto C 50 (by decide) dX5_day_91 ?_
        have e9 := (show hI (endDayH (dayC h x i) (hid i) x) (hid i) 9 = mx 0 (hI h (hid i) 9 - (hI h (hid i) 6 + hI h (hid i) 7 * x)) from (dC_i (i + 1) (Nat.lt_succ_self i)).trans eD_9)
        rw [e9] at c82
        refine oS_h (h2 := dayC h x (min (i + 1) n)) (by rw [show min (i + 1) n = i + 1 by omega]; rfl) (ih (i + 1) _ _ _ (by omega) (by have t := tA hw (show (Int32.ofInt 1).toInt = 1 from rfl) (by omega); omega) (by rw [hy]; show _ = sumI _ i + usC h x n i; unfold usC; rw [if_pos hi, b1_t (by omega)]; first | rfl | rw [Int32.add_zero]))
    · rw [show min i n = n by omega] at hF ⊢
      have hh := dC_hs (x := x) (k := n) hh0
      refine r_iload C rfl dX5_day_50 ?_
      refine r_iload C rfl dX5_day_52 ?_
      refine t_icmp_ge C 94 (by decide) hw (show (24 : Int32).toInt = 24 from rfl) dX5_day_54 (fun c54 => absurd c54 (by omega)) (fun c54 => ?_)
      refine r_aload_n C rfl rfl dX5_day_57 ?_
      refine r_iload C rfl dX5_day_58 ?_
      refine r_aald C (i) (by have t := hw; omega) (by omega) dX5_day_60 rfl (q_lt hh.1 (by decide)) (oHs.nul hh hi (by omega)) ?_
      refine r_astore C rfl rfl (Nat.le_of_ble_eq_true rfl) dX5_day_61 ?_
      refine r_aload C rfl rfl dX5_day_63 ?_
      refine r_ifnonnullN C dX5_day_65 ?_
      refine r_goto C 88 (by decide) dX5_day_68 ?_
      refine r_iinc C rfl rfl (Nat.le_of_ble_eq_true rfl) dX5_day_88 ?_
      refine r_goto C 50 (by decide) dX5_day_91 ?_
      refine oS_h (h2 := dayC h x (min (i + 1) n)) (by rw [show min (i + 1) n = n by omega]) (ih (i + 1) _ _ _ (by omega) (by have t := tA hw (show (Int32.ofInt 1).toInt = 1 from rfl) (by omega); omega) (by rw [hy]; show _ = sumI _ i + usC h x n i; unfold usC; rw [if_neg hi, Int32.add_zero]))

set_option maxHeartbeats 4000000 in
set_option maxRecDepth 100000 in
theorem c_day (G : oG) {h : oH} {n : Nat} (hh : oHs h n) (x : Int32) (hd : (hI h 0 5).toInt < 20000) (hx : 0 ≤ x.toInt ∧ x.toInt ≤ 40) : oSp G mX5_day [.ref 0, .int x] h (some (.int (sumI (usC (sI h 0 5 (hI h 0 5 + 1)) x n) 24))) (dayC (sI h 0 5 (hI h 0 5 + 1)) x n) := by
  refine oSp.intro [some (.ref 0), some (.int x), none, none, none, none, none] rfl (Nat.le_of_ble_eq_true rfl) (plainFor_of_name (by decide +kernel)) (Nat.le_of_eq (dC_n (h := sI h 0 5 (hI h 0 5 + 1)) (x := x) n).symm) ?_
  intro p l e R s m args below meth c C
  refine r_iload_n C rfl dX5_day_0 ?_
  refine r_iconstv C 0 rfl dX5_day_1 ?_
  refine r_bipush C 40 rfl dX5_day_2 ?_
  refine r_callS C (sp_isOutside G rfl (show (0 : Int32).toInt = 0 from rfl) (show (40 : Int32).toInt = 40 from rfl)) ks_X5_isOutside kn_X5_isOutside rfl dX5_day_4 cl_X5_68 ⟨Nat.le_of_ble_eq_true rfl, Nat.le_of_ble_eq_true rfl⟩ (Nat.le_of_eq (dC_n (h := sI h 0 5 (hI h 0 5 + 1)) (x := x) n).symm) rfl (Nat.le_of_ble_eq_true rfl) ?_
  refine t_ifb_eq C 13 (by decide) dX5_day_7 (fun c7 => ?_) (fun c7 => ?_)
  · first
    | (exfalso; omega)
    |  (refine r_aload_n C rfl rfl dX5_day_13 ?_
        refine r_getI C dX5_day_14 fl_X5_40 rfl (q_lt hh.1 (by decide)) ?_
        refine r_sipush C 20000 rfl dX5_day_17 ?_
        refine t_icmp_lt C 26 (by decide) rfl (show (20000 : Int32).toInt = 20000 from rfl) dX5_day_20 (fun c20 => ?_) (fun c20 => ?_)
        · first
          | (exfalso; omega)
          |  (refine r_aload_n C rfl rfl dX5_day_26 ?_
              refine r_dup C rfl dX5_day_27 ?_
              refine r_getI C dX5_day_28 fl_X5_40 rfl (q_lt hh.1 (by decide)) ?_
              refine r_iconstv C 1 rfl dX5_day_31 ?_
              refine r_iadd C dX5_day_32 ?_
              refine r_putI C dX5_day_33 fl_X5_40 rfl (q_lt hh.1 (by decide)) (Or.inl rfl) ?_
              refine r_iconstv C 0 rfl dX5_day_36 ?_
              refine r_istore_n C rfl (Nat.le_of_ble_eq_true rfl) dX5_day_37 ?_
              refine r_aload_n C rfl rfl dX5_day_38 ?_
              refine r_getO C dX5_day_39 fl_X5_11 rfl rfl (q_lt hh.1 (by decide)) (sh_0_0 hh.1) ?_
              refine r_astore_n C rfl rfl (Nat.le_of_ble_eq_true rfl) dX5_day_42 ?_
              refine r_aload_n C rfl rfl dX5_day_43 ?_
              refine r_alen C 24 dX5_day_44 rfl (by decide) (q_lt hh.1 (by decide)) rfl ?_
              refine r_istore C rfl (Nat.le_of_ble_eq_true rfl) dX5_day_45 ?_
              refine r_iconstv C 0 rfl dX5_day_47 ?_
              refine r_istore C rfl (Nat.le_of_ble_eq_true rfl) dX5_day_48 ?_
              exact lp_dayC G (h := sI h 0 5 (hI h 0 5 + 1)) (by exact hh) x C (Nat.le_of_eq (dC_n (h := sI h 0 5 (hI h 0 5 + 1)) (x := x) n).symm) 24 0 _ _ _ rfl rfl rfl)
        · first
          | (exfalso; omega)
          |  (refine r_ldc C _ lc_X5_87 dX5_day_23 ?_
              exact r_iret C dX5_day_25 rfl (Nat.le_of_eq (dC_n (h := sI h 0 5 (hI h 0 5 + 1)) (x := x) n).symm) rfl rfl))
  · first
    | (exfalso; omega)
    |  (refine r_ldc C _ lc_X5_72 dX5_day_10 ?_
        exact r_iret C dX5_day_12 rfl (Nat.le_of_eq (dC_n (h := sI h 0 5 (hI h 0 5 + 1)) (x := x) n).symm) rfl rfl)

set_option maxHeartbeats 4000000 in
set_option maxRecDepth 100000 in
theorem c_dayB (G : oG) {h : oH} (hs : oSh h) (x : Int32) (hx : ¬ (0 ≤ x.toInt ∧ x.toInt ≤ 40)) : oSp G mX5_day [.ref 0, .int x] h (some (.int (-1000001))) h := by
  refine oSp.intro [some (.ref 0), some (.int x), none, none, none, none, none] rfl (Nat.le_of_ble_eq_true rfl) (plainFor_of_name (by decide +kernel)) (Nat.le_refl _) ?_
  intro p l e R s m args below meth c C
  refine r_iload_n C rfl dX5_day_0 ?_
  refine r_iconstv C 0 rfl dX5_day_1 ?_
  refine r_bipush C 40 rfl dX5_day_2 ?_
  refine r_callS C (sp_isOutside G rfl (show (0 : Int32).toInt = 0 from rfl) (show (40 : Int32).toInt = 40 from rfl)) ks_X5_isOutside kn_X5_isOutside rfl dX5_day_4 cl_X5_68 ⟨Nat.le_of_ble_eq_true rfl, Nat.le_of_ble_eq_true rfl⟩ (Nat.le_refl _) rfl (Nat.le_of_ble_eq_true rfl) ?_
  refine t_ifb_eq C 13 (by decide) dX5_day_7 (fun c7 => ?_) (fun c7 => ?_)
  · first
    | (exfalso; omega)
    |  (refine r_aload_n C rfl rfl dX5_day_13 ?_
        refine r_getI C dX5_day_14 fl_X5_40 rfl (q_lt hs (by decide)) ?_
        refine r_sipush C 20000 rfl dX5_day_17 ?_
        refine t_icmp_lt C 26 (by decide) rfl (show (20000 : Int32).toInt = 20000 from rfl) dX5_day_20 (fun c20 => ?_) (fun c20 => ?_)
        · first
          | (exfalso; omega)
          |  (refine r_aload_n C rfl rfl dX5_day_26 ?_
              refine r_dup C rfl dX5_day_27 ?_
              refine r_getI C dX5_day_28 fl_X5_40 rfl (q_lt hs (by decide)) ?_
              refine r_iconstv C 1 rfl dX5_day_31 ?_
              refine r_iadd C dX5_day_32 ?_
              refine r_putI C dX5_day_33 fl_X5_40 rfl (q_lt hs (by decide)) (Or.inl rfl) ?_
              refine r_iconstv C 0 rfl dX5_day_36 ?_
              refine r_istore_n C rfl (Nat.le_of_ble_eq_true rfl) dX5_day_37 ?_
              refine r_aload_n C rfl rfl dX5_day_38 ?_
              refine r_getO C dX5_day_39 fl_X5_11 rfl rfl (q_lt hs (by decide)) (sh_0_0 hs) ?_
              refine r_astore_n C rfl rfl (Nat.le_of_ble_eq_true rfl) dX5_day_42 ?_
              refine r_aload_n C rfl rfl dX5_day_43 ?_
              refine r_alen C 24 dX5_day_44 rfl (by decide) (q_lt hs (by decide)) rfl ?_
              refine r_istore C rfl (Nat.le_of_ble_eq_true rfl) dX5_day_45 ?_
              refine r_iconstv C 0 rfl dX5_day_47 ?_
              refine r_istore C rfl (Nat.le_of_ble_eq_true rfl) dX5_day_48 ?_
              (exfalso; omega))
        · first
          | (exfalso; omega)
          |  (refine r_ldc C _ lc_X5_87 dX5_day_23 ?_
              exact r_iret C dX5_day_25 rfl (Nat.le_refl _) rfl rfl))
  · first
    | (exfalso; omega)
    |  (refine r_ldc C _ lc_X5_72 dX5_day_10 ?_
        exact r_iret C dX5_day_12 rfl (Nat.le_refl _) rfl rfl)

def nn (u : Int32) : Int32 := if 0 ≤ u.toInt then u else 0
theorem mx0 (u : Int32) : mx 0 u = nn u := by
  unfold mx nn
  have e0 : (0 : Int32).toInt = 0 := rfl
  split
  · rw [if_pos (by omega)]
  · split
    · exact Int32.toInt_inj.mp (by omega)
    · rfl
def dayS (h : oH) (i : Nat) (x : Int32) : oH := sI (sI (sI (sI h 17 i (nn (hI h 17 i - (hI h 16 (4 * i) + hI h 16 (4 * i + 1) * x)))) 18 i (nn (hI h 18 i - (hI h 16 (4 * i + 2) + hI h 16 (4 * i + 3) * x)))) 22 i (hI h 22 i + 1)) 23 i (hI h 23 i + x)
def dayM (h : oH) (x : Int32) : Nat → oH
  | 0 => h
  | k + 1 => dayS (dayM h x k) k x
theorem dS_o {h : oH} {a k i : Nat} {x : Int32} (q : ¬ ((a = 17 ∨ a = 18 ∨ a = 22 ∨ a = 23) ∧ k = i)) : hI (dayS h i x) a k = hI h a k := by
  unfold dayS
  (repeat rw [sI_ne (by omega)])
theorem dM_o {h : oH} {x : Int32} {a y : Nat} : ∀ k : Nat, ((a ≠ 17 ∧ a ≠ 18 ∧ a ≠ 22 ∧ a ≠ 23) ∨ k ≤ y) → hI (dayM h x k) a y = hI h a y
  | 0, _ => rfl
  | k + 1, q => (dS_o (by omega)).trans (dM_o k (by omega))
theorem dM_i {h : oH} {x : Int32} {i a : Nat} : ∀ k : Nat, i < k → hI (dayM h x k) a i = hI (dayS h i x) a i
  | 0, q => absurd q (by omega)
  | k + 1, q => by
    show hI (dayS (dayM h x k) k x) a i = _
    by_cases e : i = k
    · subst e
      have e1 : ∀ a, hI (dayM h x i) a i = hI h a i := fun a => dM_o i (Or.inr (Nat.le_refl i))
      have e2 : ∀ y, hI (dayM h x i) 16 y = hI h 16 y := fun y => dM_o i (Or.inl (by decide))
      unfold dayS
      simp only [hI_sI, e1, e2]
    · rw [dS_o (by omega)]
      exact dM_i k (by omega)
theorem dS_17 {h : oH} {i : Nat} {x : Int32} : hI (dayS h i x) 17 i = nn (hI h 17 i - (hI h 16 (4 * i) + hI h 16 (4 * i + 1) * x)) := by
  unfold dayS
  rw [sI_ne (by omega), sI_ne (by omega), sI_ne (by omega), sI_eq (by omega)]
theorem dS_18 {h : oH} {i : Nat} {x : Int32} : hI (dayS h i x) 18 i = nn (hI h 18 i - (hI h 16 (4 * i + 2) + hI h 16 (4 * i + 3) * x)) := by
  unfold dayS
  rw [sI_ne (by omega), sI_ne (by omega), sI_eq (by omega)]
theorem dS_22 {h : oH} {i : Nat} {x : Int32} : hI (dayS h i x) 22 i = hI h 22 i + 1 := by
  unfold dayS
  rw [sI_ne (by omega), sI_eq (by omega)]
theorem dS_23 {h : oH} {i : Nat} {x : Int32} : hI (dayS h i x) 23 i = hI h 23 i + x := by
  unfold dayS
  rw [sI_eq (by omega)]
theorem dM_n {h : oH} {x : Int32} : ∀ k : Nat, (dayM h x k).1 = h.1
  | 0 => rfl
  | k + 1 => dM_n k
theorem dM_R {h : oH} {x : Int32} {a y : Nat} : ∀ k : Nat, hR (dayM h x k) a y = hR h a y
  | 0 => rfl
  | k + 1 => dM_R k
theorem dM_J {h : oH} {x : Int32} {a y : Nat} : ∀ k : Nat, hJ (dayM h x k) a y = hJ h a y
  | 0 => rfl
  | k + 1 => dM_J k
theorem dM_s {h : oH} {x : Int32} {k : Nat} (q : oSh h) : oSh (dayM h x k) := ⟨by rw [dM_n]; exact q.1, fun r hr => by rw [dM_R]; exact q.2 r hr⟩
def usM (h : oH) (x : Int32) (j : Nat) : Int32 := b1 ((nn (hI h 18 j - (hI h 16 (4 * j + 2) + hI h 16 (4 * j + 3) * x))).toInt = 0)
set_option maxHeartbeats 4000000 in
set_option maxRecDepth 100000 in
theorem lp_dayM (G : oG) {p : Program} {l : Launch} {e : Env} {R : Room} {s : State} {m : MethodId} {args : Array Value} {below : List Frame} {meth : Method} {c : Code} {n0 nF : Nat} {h : oH} (hs0 : oSh h) {n : Nat} (hn0 : (hI h 12 1).toInt = (n : Int)) (hn24 : n ≤ 24) (x : Int32) (C : oC G mX6_day n0 nF p l R s m args meth c) (hF0 : h.1 ≤ nF) : ∀ (k i : Nat) (w y : Int32) (t1 t2 : Option Value), i + k = n → w.toInt = (i : Int) → y = sumI (usM h x) i → oS G mX6_day p l e R s m args below meth c (oZ G below args s n0 nF (some (.int (sumI (usM h x) n))) (dayM h x n)) n0 47 [some (.ref 12), some (.int x), some (.int y), some (.int w), t1, t2] [] (dayM h x i) := by
  intro k
  induction k with
  | zero =>
    intro i w y t1 t2 hik hw hy
    have hin : i = n := by omega
    subst hin
    have hs := dM_s (x := x) (k := i) hs0
    have hn : (hI (dayM h x i) 12 1).toInt = (i : Int) := by rw [dM_o i (Or.inl (by decide))]; exact hn0
    have hF : (dayM h x i).1 ≤ nF := by rw [dM_n]; exact hF0
    refine r_iload_n C rfl dX6_day_47 ?_
    refine r_aload_n C rfl rfl dX6_day_48 ?_
    refine r_getI C dX6_day_49 fl_X6_93 rfl (q_lt hs (by decide)) ?_
    refine t_icmp_ge C 162 (by decide) hw hn dX6_day_52 (fun c52 => ?_) (fun c52 => absurd c52 (by omega))
    refine r_iload_n C rfl dX6_day_162 ?_
    exact r_iret C dX6_day_163 rfl hF (by rw [hy]) rfl
  | succ k ih =>
    intro i w y t1 t2 hik hw hy
    have hs := dM_s (x := x) (k := i) hs0
    have hn : (hI (dayM h x i) 12 1).toInt = (n : Int) := by rw [dM_o i (Or.inl (by decide))]; exact hn0
    have hF : (dayM h x i).1 ≤ nF := by rw [dM_n]; exact hF0
    refine r_iload_n C rfl dX6_day_47 ?_
    refine r_aload_n C rfl rfl dX6_day_48 ?_
    refine r_getI C dX6_day_49 fl_X6_93 rfl (q_lt hs (by decide)) ?_
    refine t_icmp_ge C 162 (by decide) hw hn dX6_day_52 (fun c52 => absurd c52 (by omega)) (fun c52 => ?_)
    refine r_aload_n C rfl rfl dX6_day_55 ?_
    refine r_getO C dX6_day_56 fl_X6_22 rfl rfl (q_lt hs (by decide)) (sh_12_6 hs) ?_
    refine r_iload_n C rfl dX6_day_59 ?_
    refine r_iald C (i) (by have t := hw; omega) (by omega) dX6_day_60 rfl (q_lt hs (by decide)) ?_
    refine r_aload_n C rfl rfl dX6_day_61 ?_
    refine r_iload_n C rfl dX6_day_62 ?_
    refine r_iload_n C rfl dX6_day_63 ?_
    refine r_callV C (sp_lowOf G (by exact hs) _ hw (by omega) _) kv_X6_lowOf kn_X6_lowOf rfl dX6_day_64 cl_X6_118 ⟨Nat.le_of_ble_eq_true rfl, Nat.le_of_ble_eq_true rfl⟩ (by decide) rfl rfl (q_lt hs (by decide)) hF rfl (Nat.le_of_ble_eq_true rfl) ?_
    refine r_isub C dX6_day_67 ?_
    refine r_istore C rfl (Nat.le_of_ble_eq_true rfl) dX6_day_68 ?_
    refine r_aload_n C rfl rfl dX6_day_70 ?_
    refine r_getO C dX6_day_71 fl_X6_25 rfl rfl (q_lt hs (by decide)) (sh_12_7 hs) ?_
    refine r_iload_n C rfl dX6_day_74 ?_
    refine r_iald C (i) (by have t := hw; omega) (by omega) dX6_day_75 rfl (q_lt hs (by decide)) ?_
    refine r_aload_n C rfl rfl dX6_day_76 ?_
    refine r_iload_n C rfl dX6_day_77 ?_
    refine r_iload_n C rfl dX6_day_78 ?_
    refine r_callV C (sp_highOf G (by exact hs) _ hw (by omega) _) kv_X6_highOf kn_X6_highOf rfl dX6_day_79 cl_X6_122 ⟨Nat.le_of_ble_eq_true rfl, Nat.le_of_ble_eq_true rfl⟩ (by decide) rfl rfl (q_lt hs (by decide)) hF rfl (Nat.le_of_ble_eq_true rfl) ?_
    refine r_isub C dX6_day_82 ?_
    refine r_istore C rfl (Nat.le_of_ble_eq_true rfl) dX6_day_83 ?_
    refine r_aload_n C rfl rfl dX6_day_85 ?_
    refine r_getO C dX6_day_86 fl_X6_22 rfl rfl (q_lt hs (by decide)) (sh_12_6 hs) ?_
    refine r_iload_n C rfl dX6_day_89 ?_
    refine r_iload C rfl dX6_day_90 ?_
    refine t_if_ge C 99 (by decide) rfl dX6_day_92 (fun c92 => ?_) (fun c92 => ?_)
    · refine r_iload C rfl dX6_day_99 ?_
      refine r_iast C (i) (by have t := hw; omega) (by omega) dX6_day_101 rfl (q_lt hs (by decide)) ?_
      refine r_aload_n C rfl rfl dX6_day_102 ?_
      refine r_getO C dX6_day_103 fl_X6_25 rfl rfl (q_lt hs (by decide)) (sh_12_7 hs) ?_
      refine r_iload_n C rfl dX6_day_106 ?_
      refine r_iload C rfl dX6_day_107 ?_
      refine t_if_ge C 116 (by decide) rfl dX6_day_109 (fun c109 => ?_) (fun c109 => ?_)
      · refine r_iload C rfl dX6_day_116 ?_
        refine r_iast C (i) (by have t := hw; omega) (by omega) dX6_day_118 rfl (q_lt hs (by decide)) ?_
        refine r_aload_n C rfl rfl dX6_day_119 ?_
        refine r_getO C dX6_day_120 fl_X6_38 rfl rfl (q_lt hs (by decide)) (sh_12_11 hs) ?_
        refine r_iload_n C rfl dX6_day_123 ?_
        refine r_dup2 C rfl rfl dX6_day_124 ?_
        refine r_iald C (i) (by have t := hw; omega) (by omega) dX6_day_125 rfl (q_lt hs (by decide)) ?_
        refine r_iconstv C 1 rfl dX6_day_126 ?_
        refine r_iadd C dX6_day_127 ?_
        refine r_iast C (i) (by have t := hw; omega) (by omega) dX6_day_128 rfl (q_lt hs (by decide)) ?_
        refine r_aload_n C rfl rfl dX6_day_129 ?_
        refine r_getO C dX6_day_130 fl_X6_41 rfl rfl (q_lt hs (by decide)) (sh_12_12 hs) ?_
        refine r_iload_n C rfl dX6_day_133 ?_
        refine r_dup2 C rfl rfl dX6_day_134 ?_
        refine r_iald C (i) (by have t := hw; omega) (by omega) dX6_day_135 rfl (q_lt hs (by decide)) ?_
        refine r_iload_n C rfl dX6_day_136 ?_
        refine r_iadd C dX6_day_137 ?_
        refine r_iast C (i) (by have t := hw; omega) (by omega) dX6_day_138 rfl (q_lt hs (by decide)) ?_
        refine r_iload_n C rfl dX6_day_139 ?_
        refine r_aload_n C rfl rfl dX6_day_140 ?_
        refine r_getO C dX6_day_141 fl_X6_25 rfl rfl (q_lt hs (by decide)) (sh_12_7 hs) ?_
        refine r_iload_n C rfl dX6_day_144 ?_
        refine r_iald C (i) (by have t := hw; omega) (by omega) dX6_day_145 rfl (q_lt hs (by decide)) ?_
        refine j_if_ne0 C 153 (by decide) rfl rfl dX6_day_146 dX6_day_149 dX6_day_150 dX6_day_153 ?_
        refine r_iadd C dX6_day_154 ?_
        refine r_istore_n C rfl (Nat.le_of_ble_eq_true rfl) dX6_day_155 ?_
        refine r_iinc C rfl rfl (Nat.le_of_ble_eq_true rfl) dX6_day_156 ?_
        refine r_goto C 47 (by decide) dX6_day_159 ?_
        refine oS_h (h2 := dayM h x (i + 1)) (by show _ = dayS (dayM h x i) i x; unfold dayS nn; (repeat' split) <;> first | rfl | omega) (ih (i + 1) _ _ _ _ (by omega) (by have t := tA hw (show (Int32.ofInt 1).toInt = 1 from rfl) (by omega); omega) ?_)
        rw [hy]
        show _ = sumI _ i + usM h x i
        unfold usM
        refine congrArg (fun z => sumI (usM h x) i + z) (b1_iff ?_)
        rw [← dM_o (h := h) (x := x) (a := 18) (y := i) i (Or.inr (Nat.le_refl i)), ← dM_o (h := h) (x := x) (a := 16) (y := 4 * i + 2) i (Or.inl (by decide)), ← dM_o (h := h) (x := x) (a := 16) (y := 4 * i + 3) i (Or.inl (by decide))]
        rw [sI_ne (by omega), sI_ne (by omega), sI_eq (by omega)]
        unfold nn
        (repeat' split) <;> first | exact Iff.rfl | omega
      · refine r_iconstv C 0 rfl dX6_day_112 ?_
        refine r_goto C 118 (by decide) dX6_day_113 ?_
        refine r_iast C (i) (by have t := hw; omega) (by omega) dX6_day_118 rfl (q_lt hs (by decide)) ?_
        refine r_aload_n C rfl rfl dX6_day_119 ?_
        refine r_getO C dX6_day_120 fl_X6_38 rfl rfl (q_lt hs (by decide)) (sh_12_11 hs) ?_
        refine r_iload_n C rfl dX6_day_123 ?_
        refine r_dup2 C rfl rfl dX6_day_124 ?_
        refine r_iald C (i) (by have t := hw; omega) (by omega) dX6_day_125 rfl (q_lt hs (by decide)) ?_
        refine r_iconstv C 1 rfl dX6_day_126 ?_
        refine r_iadd C dX6_day_127 ?_
        refine r_iast C (i) (by have t := hw; omega) (by omega) dX6_day_128 rfl (q_lt hs (by decide)) ?_
        refine r_aload_n C rfl rfl dX6_day_129 ?_
        refine r_getO C dX6_day_130 fl_X6_41 rfl rfl (q_lt hs (by decide)) (sh_12_12 hs) ?_
        refine r_iload_n C rfl dX6_day_133 ?_
        refine r_dup2 C rfl rfl dX6_day_134 ?_
        refine r_iald C (i) (by have t := hw; omega) (by omega) dX6_day_135 rfl (q_lt hs (by decide)) ?_
        refine r_iload_n C rfl dX6_day_136 ?_
        refine r_iadd C dX6_day_137 ?_
        refine r_iast C (i) (by have t := hw; omega) (by omega) dX6_day_138 rfl (q_lt hs (by decide)) ?_
        refine r_iload_n C rfl dX6_day_139 ?_
        refine r_aload_n C rfl rfl dX6_day_140 ?_
        refine r_getO C dX6_day_141 fl_X6_25 rfl rfl (q_lt hs (by decide)) (sh_12_7 hs) ?_
        refine r_iload_n C rfl dX6_day_144 ?_
        refine r_iald C (i) (by have t := hw; omega) (by omega) dX6_day_145 rfl (q_lt hs (by decide)) ?_
        refine j_if_ne0 C 153 (by decide) rfl rfl dX6_day_146 dX6_day_149 dX6_day_150 dX6_day_153 ?_
        refine r_iadd C dX6_day_154 ?_
        refine r_istore_n C rfl (Nat.le_of_ble_eq_true rfl) dX6_day_155 ?_
        refine r_iinc C rfl rfl (Nat.le_of_ble_eq_true rfl) dX6_day_156 ?_
        refine r_goto C 47 (by decide) dX6_day_159 ?_
        refine oS_h (h2 := dayM h x (i + 1)) (by show _ = dayS (dayM h x i) i x; unfold dayS nn; (repeat' split) <;> first | rfl | omega) (ih (i + 1) _ _ _ _ (by omega) (by have t := tA hw (show (Int32.ofInt 1).toInt = 1 from rfl) (by omega); omega) ?_)
        rw [hy]
        show _ = sumI _ i + usM h x i
        unfold usM
        refine congrArg (fun z => sumI (usM h x) i + z) (b1_iff ?_)
        rw [← dM_o (h := h) (x := x) (a := 18) (y := i) i (Or.inr (Nat.le_refl i)), ← dM_o (h := h) (x := x) (a := 16) (y := 4 * i + 2) i (Or.inl (by decide)), ← dM_o (h := h) (x := x) (a := 16) (y := 4 * i + 3) i (Or.inl (by decide))]
        rw [sI_ne (by omega), sI_ne (by omega), sI_eq (by omega)]
        unfold nn
        (repeat' split) <;> first | exact Iff.rfl | omega
    · refine r_iconstv C 0 rfl dX6_day_95 ?_
      refine r_goto C 101 (by decide) dX6_day_96 ?_
      refine r_iast C (i) (by have t := hw; omega) (by omega) dX6_day_101 rfl (q_lt hs (by decide)) ?_
      refine r_aload_n C rfl rfl dX6_day_102 ?_
      refine r_getO C dX6_day_103 fl_X6_25 rfl rfl (q_lt hs (by decide)) (sh_12_7 hs) ?_
      refine r_iload_n C rfl dX6_day_106 ?_
      refine r_iload C rfl dX6_day_107 ?_
      refine t_if_ge C 116 (by decide) rfl dX6_day_109 (fun c109 => ?_) (fun c109 => ?_)
      · refine r_iload C rfl dX6_day_116 ?_
        refine r_iast C (i) (by have t := hw; omega) (by omega) dX6_day_118 rfl (q_lt hs (by decide)) ?_
        refine r_aload_n C rfl rfl dX6_day_119 ?_
        refine r_getO C dX6_day_120 fl_X6_38 rfl rfl (q_lt hs (by decide)) (sh_12_11 hs) ?_
        refine r_iload_n C rfl dX6_day_123 ?_
        refine r_dup2 C rfl rfl dX6_day_124 ?_
        refine r_iald C (i) (by have t := hw; omega) (by omega) dX6_day_125 rfl (q_lt hs (by decide)) ?_
        refine r_iconstv C 1 rfl dX6_day_126 ?_
        refine r_iadd C dX6_day_127 ?_
        refine r_iast C (i) (by have t := hw; omega) (by omega) dX6_day_128 rfl (q_lt hs (by decide)) ?_
        refine r_aload_n C rfl rfl dX6_day_129 ?_
        refine r_getO C dX6_day_130 fl_X6_41 rfl rfl (q_lt hs (by decide)) (sh_12_12 hs) ?_
        refine r_iload_n C rfl dX6_day_133 ?_
        refine r_dup2 C rfl rfl dX6_day_134 ?_
        refine r_iald C (i) (by have t := hw; omega) (by omega) dX6_day_135 rfl (q_lt hs (by decide)) ?_
        refine r_iload_n C rfl dX6_day_136 ?_
        refine r_iadd C dX6_day_137 ?_
        refine r_iast C (i) (by have t := hw; omega) (by omega) dX6_day_138 rfl (q_lt hs (by decide)) ?_
        refine r_iload_n C rfl dX6_day_139 ?_
        refine r_aload_n C rfl rfl dX6_day_140 ?_
        refine r_getO C dX6_day_141 fl_X6_25 rfl rfl (q_lt hs (by decide)) (sh_12_7 hs) ?_
        refine r_iload_n C rfl dX6_day_144 ?_
        refine r_iald C (i) (by have t := hw; omega) (by omega) dX6_day_145 rfl (q_lt hs (by decide)) ?_
        refine j_if_ne0 C 153 (by decide) rfl rfl dX6_day_146 dX6_day_149 dX6_day_150 dX6_day_153 ?_
        refine r_iadd C dX6_day_154 ?_
        refine r_istore_n C rfl (Nat.le_of_ble_eq_true rfl) dX6_day_155 ?_
        refine r_iinc C rfl rfl (Nat.le_of_ble_eq_true rfl) dX6_day_156 ?_
        refine r_goto C 47 (by decide) dX6_day_159 ?_
        refine oS_h (h2 := dayM h x (i + 1)) (by show _ = dayS (dayM h x i) i x; unfold dayS nn; (repeat' split) <;> first | rfl | omega) (ih (i + 1) _ _ _ _ (by omega) (by have t := tA hw (show (Int32.ofInt 1).toInt = 1 from rfl) (by omega); omega) ?_)
        rw [hy]
        show _ = sumI _ i + usM h x i
        unfold usM
        refine congrArg (fun z => sumI (usM h x) i + z) (b1_iff ?_)
        rw [← dM_o (h := h) (x := x) (a := 18) (y := i) i (Or.inr (Nat.le_refl i)), ← dM_o (h := h) (x := x) (a := 16) (y := 4 * i + 2) i (Or.inl (by decide)), ← dM_o (h := h) (x := x) (a := 16) (y := 4 * i + 3) i (Or.inl (by decide))]
        rw [sI_ne (by omega), sI_ne (by omega), sI_eq (by omega)]
        unfold nn
        (repeat' split) <;> first | exact Iff.rfl | omega
      · refine r_iconstv C 0 rfl dX6_day_112 ?_
        refine r_goto C 118 (by decide) dX6_day_113 ?_
        refine r_iast C (i) (by have t := hw; omega) (by omega) dX6_day_118 rfl (q_lt hs (by decide)) ?_
        refine r_aload_n C rfl rfl dX6_day_119 ?_
        refine r_getO C dX6_day_120 fl_X6_38 rfl rfl (q_lt hs (by decide)) (sh_12_11 hs) ?_
        refine r_iload_n C rfl dX6_day_123 ?_
        refine r_dup2 C rfl rfl dX6_day_124 ?_
        refine r_iald C (i) (by have t := hw; omega) (by omega) dX6_day_125 rfl (q_lt hs (by decide)) ?_
        refine r_iconstv C 1 rfl dX6_day_126 ?_
        refine r_iadd C dX6_day_127 ?_
        refine r_iast C (i) (by have t := hw; omega) (by omega) dX6_day_128 rfl (q_lt hs (by decide)) ?_
        refine r_aload_n C rfl rfl dX6_day_129 ?_
        refine r_getO C dX6_day_130 fl_X6_41 rfl rfl (q_lt hs (by decide)) (sh_12_12 hs) ?_
        refine r_iload_n C rfl dX6_day_133 ?_
        refine r_dup2 C rfl rfl dX6_day_134 ?_
        refine r_iald C (i) (by have t := hw; omega) (by omega) dX6_day_135 rfl (q_lt hs (by decide)) ?_
        refine r_iload_n C rfl dX6_day_136 ?_
        refine r_iadd C dX6_day_137 ?_
        refine r_iast C (i) (by have t := hw; omega) (by omega) dX6_day_138 rfl (q_lt hs (by decide)) ?_
        refine r_iload_n C rfl dX6_day_139 ?_
        refine r_aload_n C rfl rfl dX6_day_140 ?_
        refine r_getO C dX6_day_141 fl_X6_25 rfl rfl (q_lt hs (by decide)) (sh_12_7 hs) ?_
        refine r_iload_n C rfl dX6_day_144 ?_
        refine r_iald C (i) (by have t := hw; omega) (by omega) dX6_day_145 rfl (q_lt hs (by decide)) ?_
        refine j_if_ne0 C 153 (by decide) rfl rfl dX6_day_146 dX6_day_149 dX6_day_150 dX6_day_153 ?_
        refine r_iadd C dX6_day_154 ?_
        refine r_istore_n C rfl (Nat.le_of_ble_eq_true rfl) dX6_day_155 ?_
        refine r_iinc C rfl rfl (Nat.le_of_ble_eq_true rfl) dX6_day_156 ?_
        refine r_goto C 47 (by decide) dX6_day_159 ?_
        refine oS_h (h2 := dayM h x (i + 1)) (by show _ = dayS (dayM h x i) i x; unfold dayS nn; (repeat' split) <;> first | rfl | omega) (ih (i + 1) _ _ _ _ (by omega) (by have t := tA hw (show (Int32.ofInt 1).toInt = 1 from rfl) (by omega); omega) ?_)
        rw [hy]
        show _ = sumI _ i + usM h x i
        unfold usM
        refine congrArg (fun z => sumI (usM h x) i + z) (b1_iff ?_)
        rw [← dM_o (h := h) (x := x) (a := 18) (y := i) i (Or.inr (Nat.le_refl i)), ← dM_o (h := h) (x := x) (a := 16) (y := 4 * i + 2) i (Or.inl (by decide)), ← dM_o (h := h) (x := x) (a := 16) (y := 4 * i + 3) i (Or.inl (by decide))]
        rw [sI_ne (by omega), sI_ne (by omega), sI_eq (by omega)]
        unfold nn
        (repeat' split) <;> first | exact Iff.rfl | omega

set_option maxHeartbeats 4000000 in
set_option maxRecDepth 100000 in
theorem m_day (G : oG) {h : oH} (hs : oSh h) {n : Nat} (hn : (hI h 12 1).toInt = (n : Int)) (hn24 : n ≤ 24) (x : Int32) (hd : (hI h 12 16).toInt < 20000) (hx : 0 ≤ x.toInt ∧ x.toInt ≤ 40) : oSp G mX6_day [.ref 12, .int x] h (some (.int (sumI (usM (sI (sI h 12 0 0) 12 16 (hI h 12 16 + 1)) x) n))) (dayM (sI (sI h 12 0 0) 12 16 (hI h 12 16 + 1)) x n) := by
  refine oSp.intro [some (.ref 12), some (.int x), none, none, none, none] rfl (Nat.le_of_ble_eq_true rfl) (plainFor_of_name (by decide +kernel)) (Nat.le_of_eq (dM_n (h := sI (sI h 12 0 0) 12 16 (hI h 12 16 + 1)) (x := x) n).symm) ?_
  intro p l e R s m args below meth c C
  refine r_aload_n C rfl rfl dX6_day_0 ?_
  refine r_iconstv C 0 rfl dX6_day_1 ?_
  refine r_putI C dX6_day_2 fl_X6_90 rfl (q_lt hs (by decide)) (Or.inl rfl) ?_
  refine r_iload_n C rfl dX6_day_5 ?_
  refine r_i2l C dX6_day_6 ?_
  refine r_lconst C 0 rfl dX6_day_7 ?_
  refine r_ldc2 C _ ll_X6_113 dX6_day_8 ?_
  refine r_callS C (sp_in G (tI2L rfl) (show (0 : Int64).toInt = 0 from rfl) (show (40 : Int64).toInt = 40 from rfl)) ks_X6_in kn_X6_in rfl dX6_day_11 cl_X6_96 ⟨Nat.le_of_ble_eq_true rfl, Nat.le_of_ble_eq_true rfl⟩ (Nat.le_of_eq (dM_n (h := sI (sI h 12 0 0) 12 16 (hI h 12 16 + 1)) (x := x) n).symm) rfl (Nat.le_of_ble_eq_true rfl) ?_
  refine t_ifb_ne C 20 (by decide) dX6_day_14 (fun c14 => ?_) (fun c14 => ?_)
  · first
    | (exfalso; omega)
    |  (refine r_aload_n C rfl rfl dX6_day_20 ?_
        refine r_getI C dX6_day_21 fl_X6_115 rfl (q_lt hs (by decide)) ?_
        refine r_sipush C 20000 rfl dX6_day_24 ?_
        refine t_icmp_ne C 33 (by decide) (show _ = (hI h 12 16).toInt from rfl) (show (20000 : Int32).toInt = 20000 from rfl) dX6_day_27 (fun c27 => ?_) (fun c27 => ?_)
        · first
          | (exfalso; omega)
          |  (refine r_aload_n C rfl rfl dX6_day_33 ?_
              refine r_dup C rfl dX6_day_34 ?_
              refine r_getI C dX6_day_35 fl_X6_115 rfl (q_lt hs (by decide)) ?_
              refine r_iconstv C 1 rfl dX6_day_38 ?_
              refine r_iadd C dX6_day_39 ?_
              refine r_putI C dX6_day_40 fl_X6_115 rfl (q_lt hs (by decide)) (Or.inl rfl) ?_
              refine r_iconstv C 0 rfl dX6_day_43 ?_
              refine r_istore_n C rfl (Nat.le_of_ble_eq_true rfl) dX6_day_44 ?_
              refine r_iconstv C 0 rfl dX6_day_45 ?_
              refine r_istore_n C rfl (Nat.le_of_ble_eq_true rfl) dX6_day_46 ?_
              exact lp_dayM G (h := sI (sI h 12 0 0) 12 16 (hI h 12 16 + 1)) (by exact hs) (by exact hn) hn24 x C (Nat.le_of_eq (dM_n (h := sI (sI h 12 0 0) 12 16 (hI h 12 16 + 1)) (x := x) n).symm) n 0 _ _ _ _ (by omega) rfl rfl)
        · first
          | (exfalso; omega)
          |  (refine r_ldc C _ lc_X6_112 dX6_day_30 ?_
              exact r_iret C dX6_day_32 rfl (Nat.le_of_eq (dM_n (h := sI (sI h 12 0 0) 12 16 (hI h 12 16 + 1)) (x := x) n).symm) rfl rfl))
  · first
    | (exfalso; omega)
    |  (refine r_ldc C _ lc_X6_106 dX6_day_17 ?_
        exact r_iret C dX6_day_19 rfl (Nat.le_of_eq (dM_n (h := sI (sI h 12 0 0) 12 16 (hI h 12 16 + 1)) (x := x) n).symm) rfl rfl)

set_option maxHeartbeats 4000000 in
set_option maxRecDepth 100000 in
theorem m_dayB (G : oG) {h : oH} (hs : oSh h) (x : Int32) (hx : ¬ (0 ≤ x.toInt ∧ x.toInt ≤ 40)) : oSp G mX6_day [.ref 12, .int x] h (some (.int (-1000001))) (sI h 12 0 0) := by
  refine oSp.intro [some (.ref 12), some (.int x), none, none, none, none] rfl (Nat.le_of_ble_eq_true rfl) (plainFor_of_name (by decide +kernel)) (Nat.le_refl _) ?_
  intro p l e R s m args below meth c C
  refine r_aload_n C rfl rfl dX6_day_0 ?_
  refine r_iconstv C 0 rfl dX6_day_1 ?_
  refine r_putI C dX6_day_2 fl_X6_90 rfl (q_lt hs (by decide)) (Or.inl rfl) ?_
  refine r_iload_n C rfl dX6_day_5 ?_
  refine r_i2l C dX6_day_6 ?_
  refine r_lconst C 0 rfl dX6_day_7 ?_
  refine r_ldc2 C _ ll_X6_113 dX6_day_8 ?_
  refine r_callS C (sp_in G (tI2L rfl) (show (0 : Int64).toInt = 0 from rfl) (show (40 : Int64).toInt = 40 from rfl)) ks_X6_in kn_X6_in rfl dX6_day_11 cl_X6_96 ⟨Nat.le_of_ble_eq_true rfl, Nat.le_of_ble_eq_true rfl⟩ (Nat.le_refl _) rfl (Nat.le_of_ble_eq_true rfl) ?_
  refine t_ifb_ne C 20 (by decide) dX6_day_14 (fun c14 => ?_) (fun c14 => ?_)
  · first
    | (exfalso; omega)
    |  (refine r_aload_n C rfl rfl dX6_day_20 ?_
        refine r_getI C dX6_day_21 fl_X6_115 rfl (q_lt hs (by decide)) ?_
        refine r_sipush C 20000 rfl dX6_day_24 ?_
        refine t_icmp_ne C 33 (by decide) rfl (show (20000 : Int32).toInt = 20000 from rfl) dX6_day_27 (fun c27 => ?_) (fun c27 => ?_)
        · first
          | (exfalso; omega)
          |  (refine r_aload_n C rfl rfl dX6_day_33 ?_
              refine r_dup C rfl dX6_day_34 ?_
              refine r_getI C dX6_day_35 fl_X6_115 rfl (q_lt hs (by decide)) ?_
              refine r_iconstv C 1 rfl dX6_day_38 ?_
              refine r_iadd C dX6_day_39 ?_
              refine r_putI C dX6_day_40 fl_X6_115 rfl (q_lt hs (by decide)) (Or.inl rfl) ?_
              refine r_iconstv C 0 rfl dX6_day_43 ?_
              refine r_istore_n C rfl (Nat.le_of_ble_eq_true rfl) dX6_day_44 ?_
              refine r_iconstv C 0 rfl dX6_day_45 ?_
              refine r_istore_n C rfl (Nat.le_of_ble_eq_true rfl) dX6_day_46 ?_
              (exfalso; omega))
        · first
          | (exfalso; omega)
          |  (refine r_ldc C _ lc_X6_112 dX6_day_30 ?_
              exact r_iret C dX6_day_32 rfl (Nat.le_refl _) rfl rfl))
  · first
    | (exfalso; omega)
    |  (refine r_ldc C _ lc_X6_106 dX6_day_17 ?_
        exact r_iret C dX6_day_19 rfl (Nat.le_refl _) rfl rfl)

