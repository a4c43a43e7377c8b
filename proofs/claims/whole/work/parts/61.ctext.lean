/-! the class reads the whole text -/
def xE8 (G : oG) (b x3 x4 : Int32) (h : oH) (f : Nat) (s : Nat) : Prop := ∃ hf, sE G b x3 x4 h (-1000100 - kI s) hf ∧ fr8 h (sI hf 8 2 (hI h 8 2)) ∧ (hI hf 8 2).toInt = (f : Int)
theorem xE8.of {G : oG} {b x3 x4 y4 : Int32} {h h' : oH} {f s : Nat} (s1 : sC G b x3 x4 h x3 y4 h') (f1 : fr8 h h') (q : xE8 G b x3 y4 h' f s) : xE8 G b x3 x4 h f s := by
  obtain ⟨hf, e1, e2, e3⟩ := q
  rw [f1.2.2.2 8 2 (by omega)] at e2
  exact ⟨hf, s1.te e1, f1.tr e2, e3⟩
theorem cl_fl {G : oG} {b x3 x4 : Int32} {h : oH} {n z : Nat} {T : Nat → Int} (hh : oHs h n) (tp : tpC h z T) {q : Nat} (hq : q ≤ z) (hnx : (hI h 8 3).toInt = (q : Int)) (h7 : (hI h 8 7).toInt = 0) {cc : Nat} (h4 : x4.toInt = (cc : Int)) (hc : cc ≤ q) (hnz : xK T z q ≠ 0) {f s : Nat} (o : flP T z n q f s) : xE8 G b x3 x4 h f s := by
  have c0 := cR.i (G := G) (b := b) (x3 := x3) hh tp hq hnx h7 h4 hc
  have nz : ∀ i k, kE T z q i = k → True := fun _ _ _ => trivial
  rcases o with ⟨k0, e, es⟩ | ⟨k0, k1, e, es⟩ | ⟨k0, k1, v1, e, es⟩ | ⟨k0, k1, v1, o⟩
  · rw [e, es]
    exact st_x0 G hh tp hq hnx h7 b x3 x4 h4 hc k0 hnz
  · obtain ⟨h', y4, cd, s1, f1, g4, gc, gq, gnx, g7, -⟩ := c0.a0 hh tp k0
    rw [e, es]
    exact xE8.of s1 f1 (st_x1 G (hh.g8 f1) (tp.f8 f1) gq gnx g7 b x3 y4 g4 gc k1)
  · obtain ⟨h', y4, cd, s1, f1, g4, gc, gq, gnx, g7, -⟩ := c0.a0 hh tp k0
    rw [e, es]
    exact xE8.of s1 f1 (st_n1 G (hh.g8 f1) (tp.f8 f1) gq gnx g7 b x3 y4 g4 gc k1 v1)
  · have hq1 : ei T z q 1 ≤ z := ei_z hq 1
    have hvb := xV_b hq1 k1
    have hve : vE T z q 1 = xV T z (ei T z q 1) := rfl
    have c2 := (c0.a0 hh tp k0).a1 hh tp k1 (v := (vE T z q 1).toNat) (by omega) (show xV T z (ei T z q 1) = _ by omega)
    rcases o with ⟨k2, e, es⟩ | ⟨k2, k3, e, es⟩ | ⟨k2, k3, e, es⟩ | ⟨k2, k3, k4, e, es⟩ | ⟨k2, k3, e, es⟩ | ⟨k2, k3, k4, e, es⟩ | ⟨k2, k3, k4, k5, e, es⟩ | ⟨k2, k3, k4, k5, k6, e, es⟩
    · obtain ⟨h', y4, cd, s1, f1, g4, gc, gq, gnx, g7, -⟩ := c2
      rw [e, es]
      exact xE8.of s1 f1 (st_x2 G (hh.g8 f1) (tp.f8 f1) gq gnx g7 b x3 y4 g4 gc k2)
    · obtain ⟨h', y4, cd, s1, f1, g4, gc, gq, gnx, g7, -⟩ := c2.a2d hh tp k2
      rw [e, es]
      exact xE8.of s1 f1 (st_x6 G (hh.g8 f1) (tp.f8 f1) gq gnx g7 b x3 y4 g4 gc k3)
    · obtain ⟨h', y4, cd, s1, f1, g4, gc, gq, gnx, g7, -⟩ := c2.a2c hh tp k2
      rw [e, es]
      exact xE8.of s1 f1 (st_x5 G (hh.g8 f1) (tp.f8 f1) gq gnx g7 b x3 y4 g4 gc k3)
    · obtain ⟨h', y4, cd, s1, f1, g4, gc, gq, gnx, g7, -⟩ := (c2.a2c hh tp k2).a5 hh tp k3
      rw [e, es]
      exact xE8.of s1 f1 (st_x6 G (hh.g8 f1) (tp.f8 f1) gq gnx g7 b x3 y4 g4 gc k4)
    · obtain ⟨h', y4, cd, s1, f1, g4, gc, gq, gnx, g7, -⟩ := c2.a2p hh tp k2
      rw [e, es]
      exact xE8.of s1 f1 (st_x3 G (hh.g8 f1) (tp.f8 f1) gq gnx g7 b x3 y4 g4 gc k3)
    · obtain ⟨h', y4, cd, s1, f1, g4, gc, gq, gnx, g7, -⟩ := (c2.a2p hh tp k2).a3 hh tp k3
      rw [e, es]
      exact xE8.of s1 f1 (st_x4 G (hh.g8 f1) (tp.f8 f1) gq gnx g7 b x3 y4 g4 gc k4)
    · obtain ⟨h', y4, cd, s1, f1, g4, gc, gq, gnx, g7, -⟩ := ((c2.a2p hh tp k2).a3 hh tp k3).a4 hh tp k4
      rw [e, es]
      exact xE8.of s1 f1 (st_x5 G (hh.g8 f1) (tp.f8 f1) gq gnx g7 b x3 y4 g4 gc k5)
    · obtain ⟨h', y4, cd, s1, f1, g4, gc, gq, gnx, g7, -⟩ := (((c2.a2p hh tp k2).a3 hh tp k3).a4 hh tp k4).a5 hh tp k5
      rw [e, es]
      exact xE8.of s1 f1 (st_x6 G (hh.g8 f1) (tp.f8 f1) gq gnx g7 b x3 y4 g4 gc k6)
def rtC (x3 : Int32) (n : Nat) (r : Option (Nat × Nat)) : Int32 := match r with
  | none => x3 + kI n
  | some e => -1000100 - kI e.2
theorem kI_s (n : Nat) : kI (n + 1) = 1 + kI n := by
  unfold kI
  rw [Int32.ofNat_add]
  exact Int32.add_comm _ _
theorem rtC_s (x3 : Int32) (n : Nat) (r : Option (Nat × Nat)) : rtC (x3 + 1) n r = rtC x3 (n + 1) r := by
  cases r with
  | none =>
    show x3 + 1 + kI n = x3 + kI (n + 1)
    rw [kI_s, Int32.add_assoc]
  | some e => rfl
def ltC (v : Int32) (r : Option (Nat × Nat)) (u : Int32) : Prop := match r with
  | none => u = v
  | some e => u.toInt = (e.1 : Int)
theorem cl_runN {G : oG} {b : Int32} (hb : b.toInt = 0) {n z : Nat} {T : Nat → Int} {r : Option (Nat × Nat)} : ∀ (L : List Pl) {x3 x4 : Int32} {h : oH} {q cc : Nat}, oHs h n → tpC h z T → q ≤ z → (hI h 8 3).toInt = (q : Int) → (hI h 8 7).toInt = 0 → x4.toInt = (cc : Int) → cc ≤ q → Prs T z n L r q → ∃ hf, sE G b x3 x4 h (rtC x3 L.length r) hf ∧ fr8 h (sI hf 8 2 (hI h 8 2)) ∧ ltC (hI h 8 2) r (hI hf 8 2)
  | [], x3, x4, h, q, cc, hh, tp, hq, hnx, h7, h4, hc, P => by
    cases r with
    | none =>
      obtain ⟨hf, e1, e2⟩ := st_end G hh tp hq hnx h7 b x3 x4 h4 hc P
      refine ⟨hf, ?_, ?_, e2.2.2.2 8 2 (by omega)⟩
      · show sE G b x3 x4 h (x3 + kI 0) hf
        rw [show kI 0 = 0 from rfl, Int32.add_zero]
        exact e1
      · rw [← e2.2.2.2 8 2 (by omega), sI_self]
        exact e2
    | some e => exact cl_fl hh tp hq hnx h7 h4 hc P.1 P.2
  | x :: L, x3, x4, h, q, cc, hh, tp, hq, hnx, h7, h4, hc, P => by
    obtain ⟨q', o, P'⟩ := P
    obtain ⟨h', y4, cc', s1, f1, g4, gc, gq, gnx, g7⟩ := cl_okN (G := G) (b := b) (x3 := x3) hh tp hq hnx h7 h4 hc hb o
    obtain ⟨hf, e1, e2, e3⟩ := cl_runN (G := G) hb L (x3 := x3 + 1) (x4 := y4) (hh.g8 f1) (tp.f8 f1) gq gnx g7 g4 gc P'
    have e82 : hI h' 8 2 = hI h 8 2 := f1.2.2.2 8 2 (by omega)
    rw [e82] at e2 e3
    rw [rtC_s] at e1
    exact ⟨hf, s1.te e1, f1.tr e2, e3⟩
def plF (L : List Pl) (i : Nat) (d : Int32 × Int32 × Int32) : Int32 × Int32 × Int32 := L.foldl (fun d x => if x.1 = i then x.2 else d) d
def frY (L : List Pl) (h h' : oH) : Prop := h'.1 = h.1 ∧ (∀ a y, (a ≠ 8 ∨ y ≠ 8) → hR h' a y = hR h a y) ∧ (∀ a y, hJ h' a y = hJ h a y) ∧ (∀ a y, ¬ (a = 8 ∧ 3 ≤ y) → (∀ i, a = pid i → 2 < y) → hI h' a y = hI h a y) ∧ ∀ i, (hI h' (pid i) 0, hI h' (pid i) 1, hI h' (pid i) 2) = plF L i (hI h (pid i) 0, hI h (pid i) 1, hI h (pid i) 2)
theorem pid_8 (i : Nat) : 36 ≤ pid i := by unfold pid; omega
theorem pid_ij {i j : Nat} (h : pid i = pid j) : i = j := by unfold pid at h; omega
theorem cl_runY {G : oG} {b : Int32} (hb : b.toInt = 1) {n z : Nat} {T : Nat → Int} : ∀ (L : List Pl) {x3 x4 : Int32} {h : oH} {q cc : Nat}, oHs h n → tpC h z T → q ≤ z → (hI h 8 3).toInt = (q : Int) → (hI h 8 7).toInt = 0 → x4.toInt = (cc : Int) → cc ≤ q → Prs T z n L none q → ∃ hf, sE G b x3 x4 h (rtC x3 L.length none) hf ∧ frY L h hf
  | [], x3, x4, h, q, cc, hh, tp, hq, hnx, h7, h4, hc, P => by
    obtain ⟨hf, e1, e2⟩ := st_end G hh tp hq hnx h7 b x3 x4 h4 hc P
    refine ⟨hf, ?_, e2.1, e2.2.1, e2.2.2.1, fun a y c1 _ => e2.2.2.2 a y c1, fun i => ?_⟩
    · show sE G b x3 x4 h (x3 + kI 0) hf
      rw [show kI 0 = 0 from rfl, Int32.add_zero]
      exact e1
    · have := pid_8 i
      rw [e2.2.2.2 (pid i) 0 (by omega), e2.2.2.2 (pid i) 1 (by omega), e2.2.2.2 (pid i) 2 (by omega)]
      rfl
  | x :: L, x3, x4, h, q, cc, hh, tp, hq, hnx, h7, h4, hc, P => by
    obtain ⟨q', o, P'⟩ := P
    obtain ⟨h', y4, cc', s1, ⟨f1, f2, f3, f4, f5, f6⟩, g4, gc, gq, gnx, g7⟩ := cl_okY (G := G) (b := b) (x3 := x3) hh tp hq hnx h7 h4 hc hb o
    have p8 := pid_8 x.1
    have tp' : tpC h' z T := tp.fr (f4 8 1 (by omega) (by omega)) (fun j => f4 9 j (by omega) (by omega))
    obtain ⟨hf, e1, y1, y2, y3, y4', y5⟩ := cl_runY (G := G) hb L (x3 := x3 + 1) (x4 := y4) (hh.f8 f1 f2) tp' gq gnx g7 g4 gc P'
    rw [rtC_s] at e1
    refine ⟨hf, s1.te e1, y1.trans f1, fun a y c1 => (y2 a y c1).trans (f2 a y c1), fun a y => (y3 a y).trans (f3 a y), fun a y c1 c2 => ?_, fun i => ?_⟩
    · rw [y4' a y c1 c2]
      by_cases e : a = pid x.1
      · rw [e]
        exact f6 y (c2 _ e)
      · exact f4 a y c1 e
    · have p9 := pid_8 i
      rw [y5 i]
      show _ = plF L i (if x.1 = i then x.2 else _)
      by_cases e : x.1 = i
      · rw [if_pos e, ← e, f5.1, f5.2.1, f5.2.2]
      · have e2 : pid i ≠ pid x.1 := fun q => e (pid_ij q).symm
        rw [if_neg e, f4 (pid i) 0 (by omega) e2, f4 (pid i) 1 (by omega) e2, f4 (pid i) 2 (by omega) e2]
set_option maxHeartbeats 4000000 in
set_option maxRecDepth 100000 in
theorem rdOnce (G : oG) {h : oH} {n : Nat} (hh : oHs h n) (b : Int32) {v : Int32} {hf : oH} (q : sE G b 0 0 (sI (sI h 8 3 0) 8 7 0) v hf) : oSp G mX3_readOnce [.ref 8, .ref 1, .int b] h (some (.int v)) hf := by
  have hs := hh.1
  have hn : hf.1 = h.1 := q.1
  refine oSp.intro [some (.ref 8), some (.ref 1), some (.int b), none, none, none] rfl (Nat.le_of_ble_eq_true rfl) (plainFor_of_name (by decide +kernel)) (by rw [hn]; exact Nat.le_refl _) ?_
  intro p l e R s m args below meth c C
  refine r_aload_n C rfl rfl dX3_readOnce_0 ?_
  refine r_iconstv C 0 rfl dX3_readOnce_1 ?_
  refine r_putI C dX3_readOnce_2 fl_X3_22 rfl (q_lt hs (by decide)) (Or.inl rfl) ?_
  refine r_aload_n C rfl rfl dX3_readOnce_5 ?_
  refine r_iconstv C 0 rfl dX3_readOnce_6 ?_
  refine r_putI C dX3_readOnce_7 fl_X3_34 rfl (q_lt hs (by decide)) (Or.inl rfl) ?_
  refine r_iconstv C 0 rfl dX3_readOnce_10 ?_
  refine r_istore_n C rfl (Nat.le_of_ble_eq_true rfl) dX3_readOnce_11 ?_
  refine r_iconstv C 0 rfl dX3_readOnce_12 ?_
  refine r_istore C rfl (Nat.le_of_ble_eq_true rfl) dX3_readOnce_13 ?_
  exact q.2 p l e R s m args below meth c h.1 hf.1 C (by rw [hn]; exact Nat.le_refl _) none

theorem flP_s {T : Nat → Int} {z n q f s : Nat} (hq : q ≤ z) (o : flP T z n q f s) : s ≤ z := by
  have k : ∀ i, xS T z (ei T z q i) ≤ z := fun i => (xS_w (T := T) (ei_z (T := T) hq i)).2
  have kf : ∀ i, fa T z q i f s → s ≤ z := fun i e => by rw [e.2]; exact k i
  rcases o with ⟨_, e⟩ | ⟨_, _, e⟩ | ⟨_, _, _, _, e⟩ | ⟨_, _, _, o⟩
  · exact kf 0 e
  · exact kf 1 e
  · rw [e]
    exact k 1
  · rcases o with ⟨_, e⟩ | ⟨_, _, e⟩ | ⟨_, _, e⟩ | ⟨_, _, _, e⟩ | ⟨_, _, e⟩ | ⟨_, _, _, e⟩ | ⟨_, _, _, _, e⟩ | ⟨_, _, _, _, _, e⟩ <;> exact kf _ e
theorem Prs_s {T : Nat → Int} {z n : Nat} {e : Nat × Nat} : ∀ (L : List Pl) {q : Nat}, q ≤ z → Prs T z n L (some e) q → e.2 ≤ z
  | [], q, hq, P => flP_s hq P.2
  | x :: L, q, hq, P => by
    obtain ⟨q', o, P'⟩ := P
    exact Prs_s L (okP_len hq o).2 P'
def eH (h : oH) : oH := sR (sI h 8 1 0) 8 8 none
def clF (L : List Pl) (r : Option (Nat × Nat)) (h h' : oH) : Prop := h'.1 = h.1 ∧ (∀ a y, (a ≠ 8 ∨ y ≠ 8) → hR h' a y = hR h a y) ∧ (∀ a y, hJ h' a y = hJ h a y) ∧ hI h' 8 1 = 0 ∧ ltC (hI h 8 2) r (hI h' 8 2) ∧ (∀ a y, a ≠ 8 → (∀ i, a = pid i → 2 < y) → hI h' a y = hI h a y) ∧ ∀ i, (hI h' (pid i) 0, hI h' (pid i) 1, hI h' (pid i) 2) = (match r with | none => plF L i (hI h (pid i) 0, hI h (pid i) 1, hI h (pid i) 2) | some _ => (hI h (pid i) 0, hI h (pid i) 1, hI h (pid i) 2))
set_option maxHeartbeats 4000000 in
set_option maxRecDepth 100000 in
theorem sp_allF (G : oG) {h : oH} {n : Nat} (hh : oHs h n) {v : Int32} {hf : oH} (q1 : oSp G mX3_readOnce [.ref 8, .ref 1, .int 0] h (some (.int v)) hf) (hh1 : oHs hf n) (e1 : hf.1 = h.1) (hv : v.toInt < 0) : oSp G mX3_readAll [.ref 8, .ref 1] h (some (.int v)) (eH hf) := by
  have hs := hh.1
  refine oSp.intro [some (.ref 8), some (.ref 1), none] rfl (Nat.le_of_ble_eq_true rfl) (plainFor_of_name (by decide +kernel)) (Nat.le_of_eq e1.symm) ?_
  intro p l e R s m args below meth c C
  refine r_aload_n C rfl rfl dX3_readAll_0 ?_
  refine r_aload_n C rfl rfl dX3_readAll_1 ?_
  refine r_iconstv C 0 rfl dX3_readAll_2 ?_
  refine r_callV C q1 kv_X3_readOnce kn_X3_readOnce rfl dX3_readAll_3 cl_X3_51 ⟨Nat.le_of_ble_eq_true rfl, Nat.le_of_ble_eq_true rfl⟩ (by decide) rfl rfl (q_lt hs (by decide)) (Nat.le_refl _) rfl (Nat.le_of_ble_eq_true rfl) ?_
  have hs := hh1.1
  refine r_istore_n C rfl (Nat.le_of_ble_eq_true rfl) dX3_readAll_6 ?_
  refine r_iload_n C rfl dX3_readAll_7 ?_
  refine t_if_lt C 18 (by decide) rfl dX3_readAll_8 (fun c8 => ?_) (fun c8 => absurd hv (Int.not_lt.mpr c8))
  refine r_aload_n C rfl rfl dX3_readAll_18 ?_
  refine r_iconstv C 0 rfl dX3_readAll_19 ?_
  refine r_putI C dX3_readAll_20 fl_X3_15 rfl (q_lt hs (by decide)) (Or.inl rfl) ?_
  refine r_aload_n C rfl rfl dX3_readAll_23 ?_
  refine r_null C dX3_readAll_24 ?_
  refine r_putR C none rfl dX3_readAll_25 fl_X3_37 rfl rfl (q_lt hs (by decide)) (Or.inl rfl) ?_
  refine r_iload_n C rfl dX3_readAll_28 ?_
  exact r_iret C dX3_readAll_29 rfl (Nat.le_refl _) rfl rfl

set_option maxHeartbeats 4000000 in
set_option maxRecDepth 100000 in
theorem sp_allT (G : oG) {h : oH} {n : Nat} (hh : oHs h n) {v u : Int32} {hf hg : oH} (q1 : oSp G mX3_readOnce [.ref 8, .ref 1, .int 0] h (some (.int v)) hf) (hh1 : oHs hf n) (e1 : hf.1 = h.1) (hv : 0 ≤ v.toInt) (q2 : oSp G mX3_readOnce [.ref 8, .ref 1, .int 1] hf (some (.int u)) hg) (hh2 : oHs hg n) (e2 : hg.1 = hf.1) : oSp G mX3_readAll [.ref 8, .ref 1] h (some (.int v)) (eH hg) := by
  have hs := hh.1
  refine oSp.intro [some (.ref 8), some (.ref 1), none] rfl (Nat.le_of_ble_eq_true rfl) (plainFor_of_name (by decide +kernel)) (Nat.le_of_eq (e2.trans e1).symm) ?_
  intro p l e R s m args below meth c C
  refine r_aload_n C rfl rfl dX3_readAll_0 ?_
  refine r_aload_n C rfl rfl dX3_readAll_1 ?_
  refine r_iconstv C 0 rfl dX3_readAll_2 ?_
  refine r_callV C q1 kv_X3_readOnce kn_X3_readOnce rfl dX3_readAll_3 cl_X3_51 ⟨Nat.le_of_ble_eq_true rfl, Nat.le_of_ble_eq_true rfl⟩ (by decide) rfl rfl (q_lt hs (by decide)) (Nat.le_of_eq e2.symm) rfl (Nat.le_of_ble_eq_true rfl) ?_
  have hs := hh1.1
  refine r_istore_n C rfl (Nat.le_of_ble_eq_true rfl) dX3_readAll_6 ?_
  refine r_iload_n C rfl dX3_readAll_7 ?_
  refine t_if_lt C 18 (by decide) rfl dX3_readAll_8 (fun c8 => absurd c8 (by omega)) (fun c8 => ?_)
  refine r_aload_n C rfl rfl dX3_readAll_11 ?_
  refine r_aload_n C rfl rfl dX3_readAll_12 ?_
  refine r_iconstv C 1 rfl dX3_readAll_13 ?_
  refine r_callV C q2 kv_X3_readOnce kn_X3_readOnce rfl dX3_readAll_14 cl_X3_51 ⟨Nat.le_of_ble_eq_true rfl, Nat.le_of_ble_eq_true rfl⟩ (by decide) rfl rfl (q_lt hs (by decide)) (Nat.le_refl _) rfl (Nat.le_of_ble_eq_true rfl) ?_
  have hs := hh2.1
  refine r_pop C rfl dX3_readAll_17 ?_
  refine r_aload_n C rfl rfl dX3_readAll_18 ?_
  refine r_iconstv C 0 rfl dX3_readAll_19 ?_
  refine r_putI C dX3_readAll_20 fl_X3_15 rfl (q_lt hs (by decide)) (Or.inl rfl) ?_
  refine r_aload_n C rfl rfl dX3_readAll_23 ?_
  refine r_null C dX3_readAll_24 ?_
  refine r_putR C none rfl dX3_readAll_25 fl_X3_37 rfl rfl (q_lt hs (by decide)) (Or.inl rfl) ?_
  refine r_iload_n C rfl dX3_readAll_28 ?_
  exact r_iret C dX3_readAll_29 rfl (Nat.le_refl _) rfl rfl

set_option maxHeartbeats 4000000 in
set_option maxRecDepth 100000 in
theorem sp_pl (G : oG) {h : oH} (hs : oSh h) {v : Int32} {hf : oH} (q : oSp G mX3_readAll [.ref 8, .ref 1] h (some (.int v)) hf) (e1 : hf.1 = h.1) : oSp G mX5_plans [.ref 0] h (some (.int v)) hf := by
  refine oSp.intro [some (.ref 0)] rfl (Nat.le_of_ble_eq_true rfl) (plainFor_of_name (by decide +kernel)) (Nat.le_of_eq e1.symm) ?_
  intro p l e R s m args below meth c C
  refine r_aload_n C rfl rfl dX5_plans_0 ?_
  refine r_getO C dX5_plans_1 fl_X5_25 rfl rfl (q_lt hs (by decide)) (sh_0_2 hs) ?_
  refine r_aload_n C rfl rfl dX5_plans_4 ?_
  refine r_getO C dX5_plans_5 fl_X5_11 rfl rfl (q_lt hs (by decide)) (sh_0_0 hs) ?_
  refine r_callV C q kv_X3_readAll kn_X3_readAll rfl dX5_plans_8 cl_X5_184 ⟨Nat.le_of_ble_eq_true rfl, Nat.le_of_ble_eq_true rfl⟩ (by decide) rfl rfl (q_lt hs (by decide)) (Nat.le_refl _) rfl (Nat.le_of_ble_eq_true rfl) ?_
  exact r_iret C dX5_plans_11 rfl (Nat.le_refl _) rfl rfl

theorem c_plans (G : oG) {h : oH} {n z : Nat} {T : Nat → Int} (hh : oHs h n) (tp : tpC h z T) {L : List Pl} {r : Option (Nat × Nat)} (P : Prs T z n L r 0) (hL : 8 * L.length ≤ z) : ∃ hC, oSp G mX5_plans [.ref 0] h (some (.int (rtC 0 L.length r))) hC ∧ clF L r h hC := by
  have z3 := tp.2.1
  have hh0 : ∀ g : oH, oHs g n → oHs (sI (sI g 8 3 0) 8 7 0) n := fun g q => q
  have tp0 : ∀ g : oH, tpC g z T → tpC (sI (sI g 8 3 0) 8 7 0) z T := fun g q => q.fr rfl (fun _ => rfl)
  obtain ⟨hf, e1, e2, e3⟩ := cl_runN (G := G) (b := 0) rfl L (x3 := 0) (x4 := 0) (cc := 0) (hh0 h hh) (tp0 h tp) (Nat.zero_le z) rfl rfl rfl (Nat.le_refl 0) P
  have q1 := rdOnce G hh 0 e1
  have n1 : hf.1 = h.1 := e2.1
  have r1 : ∀ a y, (a ≠ 8 ∨ y ≠ 8) → hR hf a y = hR h a y := e2.2.1
  have j1 : ∀ a y, hJ hf a y = hJ h a y := e2.2.2.1
  have i1 : ∀ a y, ¬ (a = 8 ∧ 2 ≤ y) → hI hf a y = hI h a y := fun a y c1 => by
    have q := e2.2.2.2 a y (by omega)
    rw [sI_ne (by omega), sI_ne (by omega), sI_ne (by omega)] at q
    exact q
  have hh1 : oHs hf n := hh.f8 n1 r1
  cases r with
  | some e =>
    have hs2 := Prs_s L (Nat.zero_le z) P
    have hneg : (rtC 0 L.length (some e)).toInt < 0 := by
      show (-1000100 - kI e.2 : Int32).toInt < 0
      rw [tS (show (-1000100 : Int32).toInt = -1000100 from rfl) (kI_t (k := e.2) (by omega)) (by omega)]
      omega
    refine ⟨eH hf, sp_pl G hh.1 (sp_allF G hh q1 hh1 n1 hneg) n1, n1, fun a y c1 => (sR8 a y c1).trans (r1 a y c1), j1, ?_, e3, fun a y c1 _ => ?_, fun i => ?_⟩
    · rfl
    · show hI (sI hf 8 1 0) a y = _
      rw [sI_ne (by omega)]
      exact i1 a y (by omega)
    · have p8 := pid_8 i
      show (hI (sI hf 8 1 0) (pid i) 0, hI (sI hf 8 1 0) (pid i) 1, hI (sI hf 8 1 0) (pid i) 2) = _
      rw [sI_ne (by omega), sI_ne (by omega), sI_ne (by omega), i1 _ _ (by omega), i1 _ _ (by omega), i1 _ _ (by omega)]
  | none =>
    have e30 : hI hf 8 2 = hI h 8 2 := e3
    have hpos : 0 ≤ (rtC 0 L.length none).toInt := by
      show 0 ≤ (0 + kI L.length : Int32).toInt
      rw [Int32.zero_add, kI_t (by omega)]
      omega
    have tp1 : tpC hf z T := tp.fr (i1 8 1 (by omega)) (fun j => i1 9 j (by omega))
    obtain ⟨hg, w1, w2, w3, w4, w5, w6⟩ := cl_runY (G := G) (b := 1) rfl L (x3 := 0) (x4 := 0) (cc := 0) (hh0 hf hh1) (tp0 hf tp1) (Nat.zero_le z) rfl rfl rfl (Nat.le_refl 0) P
    have q2 := rdOnce G hh1 1 w1
    have n2 : hg.1 = hf.1 := w2
    have hh2 : oHs hg n := hh1.f8 n2 w3
    refine ⟨eH hg, sp_pl G hh.1 (sp_allT G hh q1 hh1 n1 hpos q2 hh2 n2) (n2.trans n1), n2.trans n1, fun a y c1 => (sR8 a y c1).trans ((w3 a y c1).trans (r1 a y c1)), fun a y => (w4 a y).trans (j1 a y), rfl, ?_, fun a y c1 c2 => ?_, fun i => ?_⟩
    · show hI (sI hg 8 1 0) 8 2 = hI h 8 2
      rw [sI_ne (by omega), w5 8 2 (by omega) (fun i q => by have := pid_8 i; omega), sI_ne (by omega), sI_ne (by omega)]
      exact e30
    · show hI (sI hg 8 1 0) a y = _
      rw [sI_ne (by omega), w5 a y (by omega) c2, sI_ne (by omega), sI_ne (by omega)]
      exact i1 a y (by omega)
    · have p8 := pid_8 i
      show (hI (sI hg 8 1 0) (pid i) 0, hI (sI hg 8 1 0) (pid i) 1, hI (sI hg 8 1 0) (pid i) 2) = _
      rw [sI_ne (by omega), sI_ne (by omega), sI_ne (by omega), w6 i]
      (repeat rw [sI_ne (by omega)])
      rw [i1 (pid i) 0 (by omega), i1 (pid i) 1 (by omega), i1 (pid i) 2 (by omega)]
