/-! the reference's sets and ways -/
def okB (n : Nat) (x : Int32) (B : Nat → Bool) : Nat → Bool
  | 0 => !decide (x.toInt = 0)
  | i + 1 => if B i = true then (okB n x B i && (decide (i < n) && decide ((mB B i).length < 8))) else okB n x B i
theorem okB_f {n : Nat} {x : Int32} {B : Nat → Bool} {i : Nat} (b : ¬ B i = true) : okB n x B (i + 1) = okB n x B i := if_neg b
theorem okB_t {n : Nat} {x : Int32} {B : Nat → Bool} {i : Nat} (b : B i = true) : okB n x B (i + 1) = (okB n x B i && (decide (i < n) && decide ((mB B i).length < 8))) := if_pos b
theorem okB_i {n : Nat} {x : Int32} {B : Nat → Bool} {i : Nat} (b : B i = true) : okB n x B (i + 1) = true ↔ okB n x B i = true ∧ i < n ∧ (mB B i).length < 8 := by
  rw [okB_t b, Bool.and_eq_true, Bool.and_eq_true, decide_eq_true_iff, decide_eq_true_iff]
theorem okB_iff {n : Nat} {x : Int32} {B : Nat → Bool} : ∀ i, okB n x B i = true ↔ (¬ x.toInt = 0 ∧ (∀ j, j < i → B j = true → j < n) ∧ (mB B i).length ≤ 8)
  | 0 => by
    show (!decide (x.toInt = 0)) = true ↔ _
    rw [Bool.not_eq_true', decide_eq_false_iff_not]
    exact ⟨fun q => ⟨q, fun j hj => absurd hj (Nat.not_lt_zero j), Nat.zero_le 8⟩, fun q => q.1⟩
  | i + 1 => by
    by_cases b : B i = true
    · rw [okB_i b, okB_iff i, mB_t b, List.length_append]
      show _ ↔ _ ∧ _ ∧ (mB B i).length + 1 ≤ 8
      constructor
      · intro ⟨⟨q1, q2, q3⟩, q4, q5⟩
        refine ⟨q1, fun j hj hb => ?_, by omega⟩
        by_cases e : j = i
        · rw [e]
          exact q4
        · exact q2 j (by omega) hb
      · intro ⟨q1, q2, q3⟩
        exact ⟨⟨q1, fun j hj hb => q2 j (by omega) hb, by omega⟩, q2 i (by omega) b, by omega⟩
    · rw [okB_f b, okB_iff i, mB_f b]
      constructor
      · intro ⟨q1, q2, q3⟩
        refine ⟨q1, fun j hj hb => ?_, q3⟩
        by_cases e : j = i
        · rw [e] at hb
          exact absurd hb b
        · exact q2 j (by omega) hb
      · intro ⟨q1, q2, q3⟩
        exact ⟨q1, fun j hj hb => q2 j (by omega) hb, q3⟩
def is1 (h : oH) (z : Nat) (v : Int32) : oH := sI h 27 z v
def is2 (h : oH) (z : Nat) (v : Int32) : oH := sI (is1 h z v) 12 26 (hI (is1 h z v) 12 26 + 1)
def isH (h : oH) (n : Nat) (x : Int32) (B : Nat → Bool) : Nat → oH
  | 0 => sI h 12 26 0
  | i + 1 => if B i = true ∧ okB n x B (i + 1) = true then is2 (isH h n x B i) (mB B i).length (kI i) else isH h n x B i
theorem isH_t {h : oH} {n : Nat} {x : Int32} {B : Nat → Bool} {i : Nat} (b : B i = true) (q : okB n x B (i + 1) = true) : isH h n x B (i + 1) = is2 (isH h n x B i) (mB B i).length (kI i) := if_pos ⟨b, q⟩
theorem isH_f {h : oH} {n : Nat} {x : Int32} {B : Nat → Bool} {i : Nat} (b : ¬ (B i = true ∧ okB n x B (i + 1) = true)) : isH h n x B (i + 1) = isH h n x B i := if_neg b
theorem is2_o {h : oH} {z : Nat} {v : Int32} {a y : Nat} (c1 : a ≠ 27) (c2 : ¬ (a = 12 ∧ y = 26)) : hI (is2 h z v) a y = hI h a y := by
  unfold is2 is1
  rw [sI_ne (by omega), sI_ne (by omega)]
theorem is2_z {h : oH} {z : Nat} {v : Int32} : hI (is2 h z v) 27 z = v := by
  unfold is2 is1
  rw [sI_ne (by omega), sI_eq ⟨rfl, rfl⟩]
theorem is2_y {h : oH} {z y : Nat} {v : Int32} (c1 : y ≠ z) : hI (is2 h z v) 27 y = hI h 27 y := by
  unfold is2 is1
  rw [sI_ne (by omega), sI_ne (by omega)]
theorem is2_m {h : oH} {z : Nat} {v : Int32} : hI (is2 h z v) 12 26 = hI h 12 26 + 1 := by
  unfold is2
  rw [sI_eq ⟨rfl, rfl⟩]
  unfold is1
  rw [sI_ne (by omega)]
theorem isH_n {h : oH} {n : Nat} {x : Int32} {B : Nat → Bool} : ∀ i, (isH h n x B i).1 = h.1
  | 0 => rfl
  | i + 1 => by
    by_cases b : B i = true ∧ okB n x B (i + 1) = true
    · rw [isH_t b.1 b.2]
      exact isH_n i
    · rw [isH_f b]
      exact isH_n i
theorem isH_R {h : oH} {n : Nat} {x : Int32} {B : Nat → Bool} {a y : Nat} : ∀ i, hR (isH h n x B i) a y = hR h a y
  | 0 => rfl
  | i + 1 => by
    by_cases b : B i = true ∧ okB n x B (i + 1) = true
    · rw [isH_t b.1 b.2]
      exact isH_R i
    · rw [isH_f b]
      exact isH_R i
theorem isH_J {h : oH} {n : Nat} {x : Int32} {B : Nat → Bool} {a y : Nat} : ∀ i, hJ (isH h n x B i) a y = hJ h a y
  | 0 => rfl
  | i + 1 => by
    by_cases b : B i = true ∧ okB n x B (i + 1) = true
    · rw [isH_t b.1 b.2]
      exact isH_J i
    · rw [isH_f b]
      exact isH_J i
theorem isH_o {h : oH} {n : Nat} {x : Int32} {B : Nat → Bool} {a y : Nat} (c1 : a ≠ 27) (c2 : ¬ (a = 12 ∧ y = 26)) : ∀ i, hI (isH h n x B i) a y = hI h a y
  | 0 => by
    unfold isH
    rw [sI_ne (by omega)]
  | i + 1 => by
    by_cases b : B i = true ∧ okB n x B (i + 1) = true
    · rw [isH_t b.1 b.2, is2_o c1 c2]
      exact isH_o c1 c2 i
    · rw [isH_f b]
      exact isH_o c1 c2 i
theorem isH_x {h : oH} {n : Nat} {x : Int32} {B : Nat → Bool} : ∀ i, i ≤ 32 → okB n x B i = true → (hI (isH h n x B i) 12 26).toInt = ((mB B i).length : Int) ∧ ∀ y, y < (mB B i).length → hI (isH h n x B i) 27 y = kI ((mB B i).getD y 0)
  | 0, _, _ => ⟨rfl, fun y hy => absurd hy (Nat.not_lt_zero y)⟩
  | i + 1, hi, q => by
    by_cases b : B i = true
    · have q2 := (okB_i b).mp q
      have ih := isH_x (h := h) i (by omega) q2.1
      rw [isH_t b q, mB_t b, List.length_append]
      refine ⟨?_, fun y hy => ?_⟩
      · rw [is2_m, tA ih.1 (show (1 : Int32).toInt = 1 from rfl) (by omega)]
        rfl
      · have hy2 : y < (mB B i).length + 1 := hy
        by_cases e : y = (mB B i).length
        · rw [e, gD_r, is2_z]
        · rw [gD_l (by omega), is2_y e]
          exact ih.2 y (by omega)
    · rw [isH_f (fun z => b z.1), mB_f b]
      rw [okB_f b] at q
      exact isH_x i (by omega) q
theorem isH_s {h : oH} (hs : oSh h) {n : Nat} {x : Int32} {B : Nat → Bool} {i : Nat} : oSh (isH h n x B i) := ⟨by rw [isH_n]; exact hs.1, fun r hr => by rw [isH_R]; exact hs.2 r hr⟩
set_option maxHeartbeats 4000000 in
set_option maxRecDepth 100000 in
theorem lp_is (G : oG) {p : Program} {l : Launch} {e : Env} {R : Room} {s : State} {m : MethodId} {args : Array Value} {below : List Frame} {meth : Method} {c : Code} {n0 nF : Nat} {h : oH} (hs0 : oSh h) {n : Nat} (hn0 : (hI h 12 1).toInt = (n : Int)) (hn24 : n ≤ 24) {x : Int32} {B : Nat → Bool} (hB : ∀ i : Nat, i < 32 → (B i = true ↔ ((x >>> (kI i &&& 31)) &&& 1).toInt = 1)) (C : oC G mX6_isSet n0 nF p l R s m args meth c) (hF0 : h.1 ≤ nF) : ∀ (k i : Nat) (y w : Int32), i + k = 32 → w.toInt = (i : Int) → y = b1 (okB n x B i = true) → oS G mX6_isSet p l e R s m args below meth c (oZ G below args s n0 nF (some (.int (b1 (okB n x B 32 = true)))) (isH h n x B 32)) n0 17 [some (.ref 12), some (.int x), some (.int y), some (.int w)] [] (isH h n x B i) := by
  intro k
  induction k with
  | zero =>
    intro i y w hik hw hy
    have hi32 : i = 32 := by omega
    subst hi32
    have hF : (isH h n x B 32).1 ≤ nF := by rw [isH_n]; exact hF0
    refine r_iload_n C rfl dX6_isSet_17 ?_
    refine r_bipush C 32 rfl dX6_isSet_18 ?_
    refine t_icmp_ge C 89 (by decide) hw (show (32 : Int32).toInt = 32 from rfl) dX6_isSet_20 (fun c20 => ?_) (fun c20 => absurd c20 (by omega))
    refine r_iload_n C rfl dX6_isSet_89 ?_
    exact r_zret C dX6_isSet_90 rfl (by rw [hy]; exact b1_nar) hF (by rw [hy]) rfl
  | succ k ih =>
    intro i y w hik hw hy
    have hs := isH_s (n := n) (x := x) (B := B) (i := i) hs0
    have hF : (isH h n x B i).1 ≤ nF := by rw [isH_n]; exact hF0
    have hn : (hI (isH h n x B i) 12 1).toInt = (n : Int) := by rw [isH_o (by decide) (by decide)]; exact hn0
    have ew := kI_e hw
    have hbi := hB i (by omega)
    rw [← ew] at hbi
    by_cases hb : B i = true
    · by_cases ho : okB n x B i = true
      · have hy1 : y.toInt = 1 := by rw [hy, b1_t ho]; rfl
        have hm := (isH_x (h := h) i (by omega) ho).1
        have hl := ((okB_iff i).mp ho).2.2
        by_cases hv : i < n ∧ (mB B i).length < 8
        · have ho2 : okB n x B (i + 1) = true := (okB_i hb).mpr ⟨ho, hv⟩
          refine r_iload_n C rfl dX6_isSet_17 ?_
          refine r_bipush C 32 rfl dX6_isSet_18 ?_
          refine t_icmp_ge C 89 (by decide) hw (show (32 : Int32).toInt = 32 from rfl) dX6_isSet_20 (fun c20 => absurd c20 (by omega)) (fun c20 => ?_)
          refine r_iload_n C rfl dX6_isSet_23 ?_
          refine r_iload_n C rfl dX6_isSet_24 ?_
          refine r_ishr C dX6_isSet_25 ?_
          refine r_iconstv C 1 rfl dX6_isSet_26 ?_
          refine r_iand C dX6_isSet_27 ?_
          refine r_iconstv C 1 rfl dX6_isSet_28 ?_
          refine t_icmp_ne C 83 (by decide) rfl (show (1 : Int32).toInt = 1 from rfl) dX6_isSet_29 (fun c29 => absurd (hbi.mp hb) c29) (fun c29 => ?_)
          refine r_iload_n C rfl dX6_isSet_32 ?_
          refine t_if_eq C 57 (by decide) hy1 dX6_isSet_33 (fun c33 => absurd c33 (by omega)) (fun c33 => ?_)
          refine r_aload_n C rfl rfl dX6_isSet_36 ?_
          refine r_iload_n C rfl dX6_isSet_37 ?_
          refine r_callV C (sp_isHouse G hs hn hn24 _) kv_X6_isHouse kn_X6_isHouse rfl dX6_isSet_38 cl_X6_108 ⟨Nat.le_of_ble_eq_true rfl, Nat.le_of_ble_eq_true rfl⟩ (by decide) rfl rfl (q_lt hs (by decide)) hF rfl (Nat.le_of_ble_eq_true rfl) ?_
          refine t_ifb_eq C 57 (by decide) dX6_isSet_41 (fun c41 => absurd c41 (by omega)) (fun c41 => ?_)
          refine r_aload_n C rfl rfl dX6_isSet_44 ?_
          refine r_getI C dX6_isSet_45 fl_X6_150 rfl (q_lt hs (by decide)) ?_
          refine r_bipush C 8 rfl dX6_isSet_48 ?_
          refine t_icmp_ge C 57 (by decide) hm (show (8 : Int32).toInt = 8 from rfl) dX6_isSet_50 (fun c50 => absurd c50 (by omega)) (fun c50 => ?_)
          refine r_iconstv C 1 rfl dX6_isSet_53 ?_
          refine r_goto C 58 (by decide) dX6_isSet_54 ?_
          refine r_istore_n C rfl (Nat.le_of_ble_eq_true rfl) dX6_isSet_58 ?_
          refine r_iload_n C rfl dX6_isSet_59 ?_
          refine t_if_eq C 83 (by decide) (show (1 : Int32).toInt = 1 from rfl) dX6_isSet_60 (fun c60 => absurd c60 (by decide)) (fun c60 => ?_)
          refine r_aload_n C rfl rfl dX6_isSet_63 ?_
          refine r_getO C dX6_isSet_64 fl_X6_66 rfl rfl (q_lt hs (by decide)) (sh_12_25 hs) ?_
          refine r_aload_n C rfl rfl dX6_isSet_67 ?_
          refine r_getI C dX6_isSet_68 fl_X6_150 rfl (q_lt hs (by decide)) ?_
          refine r_iload_n C rfl dX6_isSet_71 ?_
          refine r_iast C ((mB B i).length) (by show (hI (isH h n x B i) 12 26).toInt = _; exact hm) (by omega) dX6_isSet_72 rfl (q_lt hs (by decide)) ?_
          refine r_aload_n C rfl rfl dX6_isSet_73 ?_
          refine r_dup C rfl dX6_isSet_74 ?_
          refine r_getI C dX6_isSet_75 fl_X6_150 rfl (q_lt hs (by decide)) ?_
          refine r_iconstv C 1 rfl dX6_isSet_78 ?_
          refine r_iadd C dX6_isSet_79 ?_
          refine r_putI C dX6_isSet_80 fl_X6_150 rfl (q_lt hs (by decide)) (Or.inl rfl) ?_
          refine r_iinc C rfl rfl (Nat.le_of_ble_eq_true rfl) dX6_isSet_83 ?_
          refine r_goto C 17 (by decide) dX6_isSet_86 ?_
          exact oS_h (h2 := isH h n x B (i + 1)) (by rw [isH_t hb ho2, ← ew]; rfl) (ih (i + 1) _ _ (by omega) (by have t := tA hw (show (Int32.ofInt 1).toInt = 1 from rfl) (by omega); omega) (by rw [b1_t ho2]))
        · have ho2 : ¬ okB n x B (i + 1) = true := fun q => hv ((okB_i hb).mp q).2
          refine r_iload_n C rfl dX6_isSet_17 ?_
          refine r_bipush C 32 rfl dX6_isSet_18 ?_
          refine t_icmp_ge C 89 (by decide) hw (show (32 : Int32).toInt = 32 from rfl) dX6_isSet_20 (fun c20 => absurd c20 (by omega)) (fun c20 => ?_)
          refine r_iload_n C rfl dX6_isSet_23 ?_
          refine r_iload_n C rfl dX6_isSet_24 ?_
          refine r_ishr C dX6_isSet_25 ?_
          refine r_iconstv C 1 rfl dX6_isSet_26 ?_
          refine r_iand C dX6_isSet_27 ?_
          refine r_iconstv C 1 rfl dX6_isSet_28 ?_
          refine t_icmp_ne C 83 (by decide) rfl (show (1 : Int32).toInt = 1 from rfl) dX6_isSet_29 (fun c29 => absurd (hbi.mp hb) c29) (fun c29 => ?_)
          refine r_iload_n C rfl dX6_isSet_32 ?_
          refine t_if_eq C 57 (by decide) hy1 dX6_isSet_33 (fun c33 => absurd c33 (by omega)) (fun c33 => ?_)
          refine r_aload_n C rfl rfl dX6_isSet_36 ?_
          refine r_iload_n C rfl dX6_isSet_37 ?_
          refine r_callV C (sp_isHouse G hs hn hn24 _) kv_X6_isHouse kn_X6_isHouse rfl dX6_isSet_38 cl_X6_108 ⟨Nat.le_of_ble_eq_true rfl, Nat.le_of_ble_eq_true rfl⟩ (by decide) rfl rfl (q_lt hs (by decide)) hF rfl (Nat.le_of_ble_eq_true rfl) ?_
          refine t_ifb_eq C 57 (by decide) dX6_isSet_41 (fun c41 => ?_) (fun c41 => ?_)
          · first
            | (exfalso; omega)
            |  (refine r_iconstv C 0 rfl dX6_isSet_57 ?_
                refine r_istore_n C rfl (Nat.le_of_ble_eq_true rfl) dX6_isSet_58 ?_
                refine r_iload_n C rfl dX6_isSet_59 ?_
                refine t_if_eq C 83 (by decide) (show (0 : Int32).toInt = 0 from rfl) dX6_isSet_60 (fun c60 => ?_) (fun c60 => absurd c60 (by decide))
                refine r_iinc C rfl rfl (Nat.le_of_ble_eq_true rfl) dX6_isSet_83 ?_
                refine r_goto C 17 (by decide) dX6_isSet_86 ?_
                exact oS_h (h2 := isH h n x B (i + 1)) (isH_f (fun q => ho2 q.2)).symm (ih (i + 1) _ _ (by omega) (by have t := tA hw (show (Int32.ofInt 1).toInt = 1 from rfl) (by omega); omega) (by rw [b1_f ho2])))
          · first
            | (exfalso; omega)
            |  (refine r_aload_n C rfl rfl dX6_isSet_44 ?_
                refine r_getI C dX6_isSet_45 fl_X6_150 rfl (q_lt hs (by decide)) ?_
                refine r_bipush C 8 rfl dX6_isSet_48 ?_
                refine t_icmp_ge C 57 (by decide) hm (show (8 : Int32).toInt = 8 from rfl) dX6_isSet_50 (fun c50 => ?_) (fun c50 => ?_)
                · first
                  | (exfalso; omega)
                  |  (refine r_iconstv C 0 rfl dX6_isSet_57 ?_
                      refine r_istore_n C rfl (Nat.le_of_ble_eq_true rfl) dX6_isSet_58 ?_
                      refine r_iload_n C rfl dX6_isSet_59 ?_
                      refine t_if_eq C 83 (by decide) (show (0 : Int32).toInt = 0 from rfl) dX6_isSet_60 (fun c60 => ?_) (fun c60 => absurd c60 (by decide))
                      refine r_iinc C rfl rfl (Nat.le_of_ble_eq_true rfl) dX6_isSet_83 ?_
                      refine r_goto C 17 (by decide) dX6_isSet_86 ?_
                      exact oS_h (h2 := isH h n x B (i + 1)) (isH_f (fun q => ho2 q.2)).symm (ih (i + 1) _ _ (by omega) (by have t := tA hw (show (Int32.ofInt 1).toInt = 1 from rfl) (by omega); omega) (by rw [b1_f ho2])))
                · first
                  | (exfalso; omega)
                  |  (refine r_iconstv C 1 rfl dX6_isSet_53 ?_
                      refine r_goto C 58 (by decide) dX6_isSet_54 ?_
                      refine r_istore_n C rfl (Nat.le_of_ble_eq_true rfl) dX6_isSet_58 ?_
                      refine r_iload_n C rfl dX6_isSet_59 ?_
                      refine t_if_eq C 83 (by decide) (show (1 : Int32).toInt = 1 from rfl) dX6_isSet_60 (fun c60 => absurd c60 (by decide)) (fun c60 => ?_)
                      refine r_aload_n C rfl rfl dX6_isSet_63 ?_
                      refine r_getO C dX6_isSet_64 fl_X6_66 rfl rfl (q_lt hs (by decide)) (sh_12_25 hs) ?_
                      refine r_aload_n C rfl rfl dX6_isSet_67 ?_
                      refine r_getI C dX6_isSet_68 fl_X6_150 rfl (q_lt hs (by decide)) ?_
                      refine r_iload_n C rfl dX6_isSet_71 ?_
                      refine r_iast C ((mB B i).length) (by show (hI (isH h n x B i) 12 26).toInt = _; exact hm) (by omega) dX6_isSet_72 rfl (q_lt hs (by decide)) ?_
                      refine r_aload_n C rfl rfl dX6_isSet_73 ?_
                      refine r_dup C rfl dX6_isSet_74 ?_
                      refine r_getI C dX6_isSet_75 fl_X6_150 rfl (q_lt hs (by decide)) ?_
                      refine r_iconstv C 1 rfl dX6_isSet_78 ?_
                      refine r_iadd C dX6_isSet_79 ?_
                      refine r_putI C dX6_isSet_80 fl_X6_150 rfl (q_lt hs (by decide)) (Or.inl rfl) ?_
                      refine r_iinc C rfl rfl (Nat.le_of_ble_eq_true rfl) dX6_isSet_83 ?_
                      refine r_goto C 17 (by decide) dX6_isSet_86 ?_
                      exact oS_h (h2 := isH h n x B (i + 1)) (isH_f (fun q => ho2 q.2)).symm (ih (i + 1) _ _ (by omega) (by have t := tA hw (show (Int32.ofInt 1).toInt = 1 from rfl) (by omega); omega) (by rw [b1_f ho2]))))
      · have hy1 : y.toInt = 0 := by rw [hy, b1_f ho]; rfl
        have ho2 : ¬ okB n x B (i + 1) = true := fun q => ho ((okB_i hb).mp q).1
        refine r_iload_n C rfl dX6_isSet_17 ?_
        refine r_bipush C 32 rfl dX6_isSet_18 ?_
        refine t_icmp_ge C 89 (by decide) hw (show (32 : Int32).toInt = 32 from rfl) dX6_isSet_20 (fun c20 => absurd c20 (by omega)) (fun c20 => ?_)
        refine r_iload_n C rfl dX6_isSet_23 ?_
        refine r_iload_n C rfl dX6_isSet_24 ?_
        refine r_ishr C dX6_isSet_25 ?_
        refine r_iconstv C 1 rfl dX6_isSet_26 ?_
        refine r_iand C dX6_isSet_27 ?_
        refine r_iconstv C 1 rfl dX6_isSet_28 ?_
        refine t_icmp_ne C 83 (by decide) rfl (show (1 : Int32).toInt = 1 from rfl) dX6_isSet_29 (fun c29 => absurd (hbi.mp hb) c29) (fun c29 => ?_)
        refine r_iload_n C rfl dX6_isSet_32 ?_
        refine t_if_eq C 57 (by decide) hy1 dX6_isSet_33 (fun c33 => ?_) (fun c33 => absurd rfl c33)
        refine r_iconstv C 0 rfl dX6_isSet_57 ?_
        refine r_istore_n C rfl (Nat.le_of_ble_eq_true rfl) dX6_isSet_58 ?_
        refine r_iload_n C rfl dX6_isSet_59 ?_
        refine t_if_eq C 83 (by decide) (show (0 : Int32).toInt = 0 from rfl) dX6_isSet_60 (fun c60 => ?_) (fun c60 => absurd c60 (by decide))
        refine r_iinc C rfl rfl (Nat.le_of_ble_eq_true rfl) dX6_isSet_83 ?_
        refine r_goto C 17 (by decide) dX6_isSet_86 ?_
        exact oS_h (h2 := isH h n x B (i + 1)) (isH_f (fun q => ho2 q.2)).symm (ih (i + 1) _ _ (by omega) (by have t := tA hw (show (Int32.ofInt 1).toInt = 1 from rfl) (by omega); omega) (by rw [b1_f ho2]))
    · refine r_iload_n C rfl dX6_isSet_17 ?_
      refine r_bipush C 32 rfl dX6_isSet_18 ?_
      refine t_icmp_ge C 89 (by decide) hw (show (32 : Int32).toInt = 32 from rfl) dX6_isSet_20 (fun c20 => absurd c20 (by omega)) (fun c20 => ?_)
      refine r_iload_n C rfl dX6_isSet_23 ?_
      refine r_iload_n C rfl dX6_isSet_24 ?_
      refine r_ishr C dX6_isSet_25 ?_
      refine r_iconstv C 1 rfl dX6_isSet_26 ?_
      refine r_iand C dX6_isSet_27 ?_
      refine r_iconstv C 1 rfl dX6_isSet_28 ?_
      refine t_icmp_ne C 83 (by decide) rfl (show (1 : Int32).toInt = 1 from rfl) dX6_isSet_29 (fun c29 => ?_) (fun c29 => absurd (hbi.mpr c29) hb)
      refine r_iinc C rfl rfl (Nat.le_of_ble_eq_true rfl) dX6_isSet_83 ?_
      refine r_goto C 17 (by decide) dX6_isSet_86 ?_
      exact oS_h (h2 := isH h n x B (i + 1)) (isH_f (fun q => hb q.1)).symm (ih (i + 1) _ _ (by omega) (by have t := tA hw (show (Int32.ofInt 1).toInt = 1 from rfl) (by omega); omega) (by rw [okB_f hb]; exact hy))

set_option maxHeartbeats 4000000 in
set_option maxRecDepth 100000 in
theorem sp_is (G : oG) {h : oH} (hs : oSh h) {n : Nat} (hn : (hI h 12 1).toInt = (n : Int)) (hn24 : n ≤ 24) (x : Int32) {B : Nat → Bool} (hB : ∀ i : Nat, i < 32 → (B i = true ↔ ((x >>> (kI i &&& 31)) &&& 1).toInt = 1)) : oSp G mX6_isSet [.ref 12, .int x] h (some (.int (b1 (okB n x B 32 = true)))) (isH h n x B 32) := by
  refine oSp.intro [some (.ref 12), some (.int x), none, none] rfl (Nat.le_of_ble_eq_true rfl) (plainFor_of_name (by decide +kernel)) (by rw [isH_n]; exact Nat.le_refl _) ?_
  intro p l e R s m args below meth c C
  refine r_aload_n C rfl rfl dX6_isSet_0 ?_
  refine r_iconstv C 0 rfl dX6_isSet_1 ?_
  refine r_putI C dX6_isSet_2 fl_X6_150 rfl (q_lt hs (by decide)) (Or.inl rfl) ?_
  refine r_iload_n C rfl dX6_isSet_5 ?_
  refine t_if_eq C 13 (by decide) rfl dX6_isSet_6 (fun c6 => ?_) (fun c6 => ?_)
  · first
    | (exfalso; omega)
    |  (refine r_iconstv C 0 rfl dX6_isSet_13 ?_
        refine r_istore_n C rfl (Nat.le_of_ble_eq_true rfl) dX6_isSet_14 ?_
        refine r_iconstv C 0 rfl dX6_isSet_15 ?_
        refine r_istore_n C rfl (Nat.le_of_ble_eq_true rfl) dX6_isSet_16 ?_
        exact lp_is G hs hn hn24 hB C (by rw [isH_n]; exact Nat.le_refl _) 32 0 _ _ rfl rfl (by show _ = b1 ((!decide (x.toInt = 0)) = true); first | (rw [b1_t (by rw [Bool.not_eq_true', decide_eq_false_iff_not]; omega)]) | (rw [b1_f (by rw [Bool.not_eq_true', decide_eq_false_iff_not]; omega)])))
  · first
    | (exfalso; omega)
    |  (refine r_iconstv C 1 rfl dX6_isSet_9 ?_
        refine r_goto C 14 (by decide) dX6_isSet_10 ?_
        refine r_istore_n C rfl (Nat.le_of_ble_eq_true rfl) dX6_isSet_14 ?_
        refine r_iconstv C 0 rfl dX6_isSet_15 ?_
        refine r_istore_n C rfl (Nat.le_of_ble_eq_true rfl) dX6_isSet_16 ?_
        exact lp_is G hs hn hn24 hB C (by rw [isH_n]; exact Nat.le_refl _) 32 0 _ _ rfl rfl (by show _ = b1 ((!decide (x.toInt = 0)) = true); first | (rw [b1_t (by rw [Bool.not_eq_true', decide_eq_false_iff_not]; omega)]) | (rw [b1_f (by rw [Bool.not_eq_true', decide_eq_false_iff_not]; omega)])))

theorem bit31 {x : Int32} (h : x.toInt < 0) : ((x >>> (kI 31 &&& 31)) &&& 1).toInt = 1 := by
  have e : (x >>> (kI 31 &&& 31)).toInt = -1 := by
    show (x >>> (Int32.ofNat 31 &&& 31)).toBitVec.toInt = _
    rw [Int32.toBitVec_shiftRight, shC ⟨31, by decide⟩, BitVec.sshiftRight_eq', BitVec.toInt_sshiftRight]
    show x.toInt >>> 31 = -1
    rw [Int.shiftRight_eq_div_pow]
    have t := tB x
    show x.toInt / 2147483648 = -1
    omega
  have e2 : x >>> (kI 31 &&& 31) = -1 := Int32.toInt_inj.mp e
  rw [e2]
  rfl
def bX (x : Int32) (i : Nat) : Bool := decide (((x >>> (kI i &&& 31)) &&& 1).toInt = 1)
theorem bX_i (x : Int32) : ∀ i : Nat, i < 32 → (bX x i = true ↔ ((x >>> (kI i &&& 31)) &&& 1).toInt = 1) := fun i _ => decide_eq_true_iff
theorem bX_K {x : Int32} {K : Nat} (hx : x.toInt = (K : Int)) {i : Nat} (hi : i < 32) : bX x i = K.testBit i := by
  unfold bX
  rw [tBit hx (kI_t (by omega)) hi]
  cases K.testBit i <;> rfl
theorem mB_co {B B' : Nat → Bool} : ∀ i, (∀ j, j < i → B j = B' j) → mB B i = mB B' i
  | 0, _ => rfl
  | i + 1, h => by
    have e := h i (by omega)
    have ih := mB_co (B := B) (B' := B') i (fun j hj => h j (by omega))
    by_cases b : B i = true
    · rw [mB_t b, mB_t (e ▸ b), ih]
    · rw [mB_f b, mB_f (e ▸ b), ih]
theorem mX_K {x : Int32} {K : Nat} (hx : x.toInt = (K : Int)) {i : Nat} (hi : i ≤ 32) : mB (bX x) i = mK K i := mB_co i (fun j hj => bX_K hx (by omega))
theorem bit_lt {K n j : Nat} (hK : K < 2 ^ n) (h : K.testBit j = true) : j < n := by
  rcases Nat.lt_or_ge j n with q | q
  · exact q
  · have q1 := tB_le h
    have q2 := Nat.pow_le_pow_right (n := 2) (by decide) q
    omega
theorem mK_e {K n i : Nat} (hK : K < 2 ^ n) (h1 : n ≤ i) : ∀ k, mK K (i + k) = mK K i
  | 0 => rfl
  | k + 1 => by
    rw [show i + (k + 1) = i + k + 1 by omega, mK_f (fun q => by have := bit_lt hK q; omega)]
    exact mK_e hK h1 k
theorem ok_v {n : Nat} {x : Int32} (hn : n ≤ 24) (hv : vSet n x) : okB n x (bX x) 32 = true := by
  obtain ⟨K, hx, h0, hK, hm⟩ := hv
  rw [okB_iff]
  refine ⟨by omega, fun j hj hb => ?_, ?_⟩
  · rw [bX_K hx hj] at hb
    exact bit_lt hK hb
  · rw [mX_K hx (Nat.le_refl _), show 32 = 24 + 8 from rfl, mK_e hK hn]
    exact hm
theorem ok_n {n : Nat} {x : Int32} (hn : n ≤ 24) (hv : ¬ vSet n x) : ¬ okB n x (bX x) 32 = true := by
  intro q
  rw [okB_iff] at q
  obtain ⟨q1, q2, q3⟩ := q
  by_cases h0 : x.toInt < 0
  · have := q2 31 (by decide) ((bX_i x 31 (by decide)).mpr (bit31 h0))
    omega
  · have hx : x.toInt = ((x.toInt.toNat : Nat) : Int) := by omega
    generalize x.toInt.toNat = K at hx
    have t := tB x
    by_cases hK : K < 2 ^ n
    · refine hv ⟨K, hx, by omega, hK, ?_⟩
      rw [mX_K hx (Nat.le_refl _), show 32 = 24 + 8 from rfl, mK_e hK hn] at q3
      exact q3
    · have hd : K / 2 ^ n ≠ 0 := by
        have := Nat.div_pos (Nat.le_of_not_lt hK) (pw_pos n)
        omega
      obtain ⟨j, hj⟩ := Nat.exists_testBit_of_ne_zero hd
      rw [Nat.testBit_div_two_pow] at hj
      have h31 := bit_lt (n := 31) (by omega) hj
      have := q2 (j + n) (by omega) (by rw [bX_K hx (by omega)]; exact hj)
      omega
/-- what the reference has of a set -/
def gM (h : oH) (m : Nat) (ll : List Nat) (X Y : Nat → Int) : Prop := (hI h 12 26).toInt = (m : Int) ∧ m ≤ 8 ∧ xyB X Y ∧ (X 8 = 25 ∧ Y 8 = 25) ∧ ∀ k, k < m → (hI h 27 k).toInt = ((ll.getD k 0 : Nat) : Int) ∧ ll.getD k 0 < 24 ∧ (hI h 13 (ll.getD k 0)).toInt = X k ∧ (hI h 14 (ll.getD k 0)).toInt = Y k
theorem gM.fr {h h' : oH} {m : Nat} {ll : List Nat} {X Y : Nat → Int} (g : gM h m ll X Y) (e : ∀ a k, (a = 12 ∨ a = 13 ∨ a = 14 ∨ a = 27) → hI h' a k = hI h a k) : gM h' m ll X Y := by
  obtain ⟨g1, g2, g3, g4, g5⟩ := g
  refine ⟨by rw [e 12 26 (Or.inl rfl)]; exact g1, g2, g3, g4, fun k hk => ?_⟩
  rw [e 27 k (by omega), e 13 _ (by omega), e 14 _ (by omega)]
  exact g5 k hk
theorem isSet_ok (G : oG) {h : oH} (hs : oSh h) {n : Nat} (hn : (hI h 12 1).toInt = (n : Int)) (hn24 : n ≤ 24) (x : Int32) {K : Nat} (hx : x.toInt = (K : Int)) (hK0 : 0 < K) (hK : K < 2 ^ n) (hm8 : (mem K).length ≤ 8) (hB : xyB (sX h (mem K)) (sY h (mem K))) : ∃ h1, oSp G mX6_isSet [.ref 12, .int x] h (some (.int 1)) h1 ∧ gM h1 (mem K).length (mem K) (sX h (mem K)) (sY h (mem K)) ∧ h1.1 = h.1 ∧ (∀ a y, hR h1 a y = hR h a y) ∧ (∀ a y, hJ h1 a y = hJ h a y) ∧ ∀ a y, a ≠ 27 → ¬ (a = 12 ∧ y = 26) → hI h1 a y = hI h a y := by
  have ok := ok_v hn24 ⟨K, hx, hK0, hK, hm8⟩
  have sp := sp_is G hs hn hn24 x (bX_i x)
  rw [b1_t ok] at sp
  have e : mB (bX x) 32 = mem K := by rw [mX_K hx (Nat.le_refl _), show 32 = 24 + 8 from rfl, mK_e hK hn24]; rfl
  have q := isH_x (h := h) 32 (Nat.le_refl _) ok
  rw [e] at q
  refine ⟨_, sp, ⟨q.1, hm8, hB, ⟨rfl, rfl⟩, fun k hk => ?_⟩, isH_n 32, fun a y => isH_R 32, fun a y => isH_J 32, fun a y c1 c2 => isH_o c1 c2 32⟩
  have hl := (mK_lt (K := K) (i := 24) hk).1
  have hl2 : (mem K).getD k 0 < 24 := hl
  rw [q.2 k hk, isH_o (by decide) (by omega) 32, isH_o (by decide) (by omega) 32]
  refine ⟨kI_t (by omega), hl2, ?_, ?_⟩
  · unfold sX
    rw [if_neg (by omega)]
  · unfold sY
    rw [if_neg (by omega)]
theorem isSet_no (G : oG) {h : oH} (hs : oSh h) {n : Nat} (hn : (hI h 12 1).toInt = (n : Int)) (hn24 : n ≤ 24) (x : Int32) (hv : ¬ vSet n x) : ∃ h1, oSp G mX6_isSet [.ref 12, .int x] h (some (.int 0)) h1 ∧ h1.1 = h.1 ∧ (∀ a y, hR h1 a y = hR h a y) ∧ (∀ a y, hJ h1 a y = hJ h a y) ∧ ∀ a y, a ≠ 27 → ¬ (a = 12 ∧ y = 26) → hI h1 a y = hI h a y := by
  have ok := ok_n hn24 hv
  have sp := sp_is G hs hn hn24 x (bX_i x)
  rw [b1_f ok] at sp
  exact ⟨_, sp, isH_n 32, fun a y => isH_R 32, fun a y => isH_J 32, fun a y c1 c2 => isH_o c1 c2 32⟩
