/-! the reference reads a plan, whole -/
theorem oI_k (k : Nat) (h : k < 2147483648) : oI (k : Int) = kI k := (oI_e (kI_t h)).symm
/-- the reference ahead of a token -/
def mS (h : oH) (z : Nat) (T : Nat → Int) (n q j : Nat) : Prop := oSh h ∧ tpM h z T ∧ q ≤ z ∧ mT h T z q ∧ (hI h 12 36).toInt = 0 ∧ (hI h 12 1).toInt = (n : Int) ∧ n ≤ 24 ∧ (hI h 12 38).toInt = (j : Int) ∧ j < 40
theorem mS.nx {h h' : oH} {z : Nat} {T : Nat → Int} {n q j : Nat} (M : mS h z T n q j) (m : mT h' T z (xE T z q)) (f : frK h h') : mS h' z T n (xE T z q) j := by
  obtain ⟨hs, tp, hq, mt, hf, hn, h24, hj, j4⟩ := M
  exact ⟨hs.fk f, tp.fk f, (xE_w (T := T) hq).2.1, m, by rw [f.2.2.2 12 36 (by omega)]; exact hf, by rw [f.2.2.2 12 1 (by omega)]; exact hn, h24, by rw [f.2.2.2 12 38 (by omega)]; exact hj, j4⟩
abbrev L0 : List (Option Value) := [some (.ref 12), none, none, none, none, none, none]
theorem r1_2 (G : oG) {h : oH} {z : Nat} {T : Nat → Int} {n q j : Nat} (M : mS h z T n q j) (k0 : kE T z q 0 = 1) (k1 : kE T z q 1 = 5) {v : Nat} (hv : v < n) (hvv : vE T z q 1 = (v : Int)) : ∃ h', mS h' z T n (ei T z q 2) j ∧ frK h h' ∧ ∀ hf, tO G 73 [some (.ref 12), some (.int (kI v)), none, none, none, none, none] h' hf → tO G 0 L0 h hf := by
  obtain ⟨h1, m1, f1, t1⟩ := s0 G M.1 M.2.1 M.2.2.1 M.2.2.2.1 M.2.2.2.2.1 k0
  have M1 := M.nx m1 f1
  have hvx : xV T z (xE T z q) = (v : Int) := hvv
  have n24 := M.2.2.2.2.2.2.1
  obtain ⟨h2, m2, f2, t2⟩ := s20 G M1.1 M1.2.1 M1.2.2.1 M1.2.2.2.1 M1.2.2.2.2.1 (l1 := none) (l2 := none) (l3 := none) (l4 := none) (l5 := none) (l6 := none) M1.2.2.2.2.2.1 n24 k1 (by omega)
  rw [hvx, oI_k _ (by omega)] at t2
  exact ⟨h2, M1.nx m2 f2, ⟨f2.1.trans f1.1, fun a y => (f2.2.1 a y).trans (f1.2.1 a y), fun a y => (f2.2.2.1 a y).trans (f1.2.2.1 a y), fun a y c => (f2.2.2.2 a y c).trans (f1.2.2.2 a y c)⟩, fun hf t => t1 hf (t2 hf t)⟩
theorem frK.tr {h h' h2 : oH} (f1 : frK h h') (f2 : frK h' h2) : frK h h2 := ⟨f2.1.trans f1.1, fun a y => (f2.2.1 a y).trans (f1.2.1 a y), fun a y => (f2.2.2.1 a y).trans (f1.2.2.1 a y), fun a y c => (f2.2.2.2 a y c).trans (f1.2.2.2 a y c)⟩
theorem r1ok (G : oG) {h : oH} {z : Nat} {T : Nat → Int} {n q j : Nat} (M : mS h z T n q j) {x : Pl} {r : Nat} (o : okP T z n q x r) : ∃ hf, tO G 0 L0 h hf ∧ okM T z h hf r (kI x.1, x.2) j := by
  obtain ⟨k0, k1, hv, hvv, o⟩ := o
  obtain ⟨h2, M2, f2, t2⟩ := r1_2 G M k0 k1 hv hvv
  rcases o with ⟨k2, k3, e, er⟩ | ⟨k2, k3, k4, e, er⟩ | ⟨k2, k3, k4, k5, k6, e, er⟩
  · obtain ⟨h3, l2, m3, f3, t3⟩ := s73_2 G M2.1 M2.2.1 M2.2.2.1 M2.2.2.2.1 M2.2.2.2.2.1 k2
    have M3 := M2.nx m3 f3
    obtain ⟨hf, t4, o4⟩ := s213 G M3.1 M3.2.1 M3.2.2.1 M3.2.2.2.1 M3.2.2.2.2.1 k3 M3.2.2.2.2.2.2.2.1 M3.2.2.2.2.2.2.2.2
    rw [e, er]
    exact ⟨hf, t2 hf (t3 hf (s127n G M3.1 M3.2.1 M3.2.2.1 M3.2.2.2.1 M3.2.2.2.2.1 (by decide) (s176z G M3.1 M3.2.1 M3.2.2.1 M3.2.2.2.1 M3.2.2.2.2.1 rfl t4))), (o4.fk f3).fk f2⟩
  · obtain ⟨h3, l2, m3, f3, t3⟩ := s73_3 G M2.1 M2.2.1 M2.2.2.1 M2.2.2.2.1 M2.2.2.2.2.1 k2
    have M3 := M2.nx m3 f3
    obtain ⟨h4, m4, f4, t4⟩ := s176 G M3.1 M3.2.1 M3.2.2.1 M3.2.2.2.1 M3.2.2.2.2.1 (show (0 : Int) < (1 : Int32).toInt by decide) k3
    have M4 := M3.nx m4 f4
    obtain ⟨hf, t5, o5⟩ := s213 G M4.1 M4.2.1 M4.2.2.1 M4.2.2.2.1 M4.2.2.2.2.1 k4 M4.2.2.2.2.2.2.2.1 M4.2.2.2.2.2.2.2.2
    rw [e, er]
    exact ⟨hf, t2 hf (t3 hf (s127n G M3.1 M3.2.1 M3.2.2.1 M3.2.2.2.1 M3.2.2.2.2.1 (by decide) (t4 hf t5))), ((o5.fk f4).fk f3).fk f2⟩
  · obtain ⟨h3, l2, m3, f3, t3⟩ := s73_4 G M2.1 M2.2.1 M2.2.2.1 M2.2.2.2.1 M2.2.2.2.2.1 k2
    have M3 := M2.nx m3 f3
    obtain ⟨h4, m4, f4, t4⟩ := s127 G M3.1 M3.2.1 M3.2.2.1 M3.2.2.2.1 M3.2.2.2.2.1 (show (2 : Int32).toInt = 2 from rfl) k3
    have M4 := M3.nx m4 f4
    obtain ⟨h5, m5, f5, t5⟩ := s166 G M4.1 M4.2.1 M4.2.2.1 M4.2.2.2.1 M4.2.2.2.2.1 k4
    have M5 := M4.nx m5 f5
    obtain ⟨h6, m6, f6, t6⟩ := s176 G M5.1 M5.2.1 M5.2.2.1 M5.2.2.2.1 M5.2.2.2.2.1 (show (0 : Int) < (2 : Int32).toInt by decide) k5
    have M6 := M5.nx m6 f6
    obtain ⟨hf, t7, o7⟩ := s213 G M6.1 M6.2.1 M6.2.2.1 M6.2.2.2.1 M6.2.2.2.2.1 k6 M6.2.2.2.2.2.2.2.1 M6.2.2.2.2.2.2.2.2
    rw [e, er]
    exact ⟨hf, t2 hf (t3 hf (t4 hf (t5 hf (t6 hf t7)))), ((((o7.fk f6).fk f5).fk f4).fk f3).fk f2⟩
theorem r1fl (G : oG) {h : oH} {z : Nat} {T : Nat → Int} {n q j : Nat} (M : mS h z T n q j) {f s : Nat} (o : flP T z n q f s) : ∃ hf, tO G 0 L0 h hf ∧ flM h hf f s := by
  have n24 := M.2.2.2.2.2.2.1
  rcases o with ⟨k0, e, es⟩ | ⟨k0, k1, e, es⟩ | ⟨k0, k1, v1, e, es⟩ | ⟨k0, k1, v1, o⟩
  · rw [e, es]
    exact ⟨_, s0b G M.1 M.2.1 M.2.2.1 M.2.2.2.1 M.2.2.2.2.1 k0, flM.bd M.2.2.2.1 rfl⟩
  · obtain ⟨h1, m1, f1, t1⟩ := s0 G M.1 M.2.1 M.2.2.1 M.2.2.2.1 M.2.2.2.2.1 k0
    have M1 := M.nx m1 f1
    rw [e, es]
    exact ⟨_, t1 _ (s20b G M1.1 M1.2.1 M1.2.2.1 M1.2.2.2.1 M1.2.2.2.2.1 k1), (flM.bd m1 rfl).fk f1⟩
  · obtain ⟨h1, m1, f1, t1⟩ := s0 G M.1 M.2.1 M.2.2.1 M.2.2.2.1 M.2.2.2.2.1 k0
    have M1 := M.nx m1 f1
    rw [e, es]
    exact ⟨_, t1 _ (s20n G M1.1 M1.2.1 M1.2.2.1 M1.2.2.2.1 M1.2.2.2.2.1 M1.2.2.2.2.2.1 n24 k1 v1), (flM.bd m1 rfl).fk f1⟩
  · have hq1 : ei T z q 1 ≤ z := ei_z M.2.2.1 1
    have hvb := xV_b hq1 k1
    have hve : vE T z q 1 = xV T z (ei T z q 1) := rfl
    obtain ⟨h2, M2, f2, t2⟩ := r1_2 G M k0 k1 (v := (vE T z q 1).toNat) (by omega) (by omega)
    rcases o with ⟨k2, e, es⟩ | ⟨k2, k3, e, es⟩ | ⟨k2, k3, e, es⟩ | ⟨k2, k3, k4, e, es⟩ | ⟨k2, k3, e, es⟩ | ⟨k2, k3, k4, e, es⟩ | ⟨k2, k3, k4, k5, e, es⟩ | ⟨k2, k3, k4, k5, k6, e, es⟩
    · rw [e, es]
      exact ⟨_, t2 _ (s73b G M2.1 M2.2.1 M2.2.2.1 M2.2.2.2.1 M2.2.2.2.2.1 k2), (flM.bd M2.2.2.2.1 rfl).fk f2⟩
    · obtain ⟨h3, l2, m3, f3, t3⟩ := s73_2 G M2.1 M2.2.1 M2.2.2.1 M2.2.2.2.1 M2.2.2.2.2.1 k2
      have M3 := M2.nx m3 f3
      rw [e, es]
      exact ⟨_, t2 _ (t3 _ (s127n G M3.1 M3.2.1 M3.2.2.1 M3.2.2.2.1 M3.2.2.2.2.1 (by decide) (s176z G M3.1 M3.2.1 M3.2.2.1 M3.2.2.2.1 M3.2.2.2.2.1 rfl (s213b G M3.1 M3.2.1 M3.2.2.1 M3.2.2.2.1 M3.2.2.2.2.1 k3)))), ((flM.bd m3 rfl).fk f3).fk f2⟩
    · obtain ⟨h3, l2, m3, f3, t3⟩ := s73_3 G M2.1 M2.2.1 M2.2.2.1 M2.2.2.2.1 M2.2.2.2.2.1 k2
      have M3 := M2.nx m3 f3
      rw [e, es]
      exact ⟨_, t2 _ (t3 _ (s127n G M3.1 M3.2.1 M3.2.2.1 M3.2.2.2.1 M3.2.2.2.2.1 (by decide) (s176b G M3.1 M3.2.1 M3.2.2.1 M3.2.2.2.1 M3.2.2.2.2.1 (by decide) k3))), ((flM.bd m3 rfl).fk f3).fk f2⟩
    · obtain ⟨h3, l2, m3, f3, t3⟩ := s73_3 G M2.1 M2.2.1 M2.2.2.1 M2.2.2.2.1 M2.2.2.2.2.1 k2
      have M3 := M2.nx m3 f3
      obtain ⟨h4, m4, f4, t4⟩ := s176 G M3.1 M3.2.1 M3.2.2.1 M3.2.2.2.1 M3.2.2.2.2.1 (show (0 : Int) < (1 : Int32).toInt by decide) k3
      have M4 := M3.nx m4 f4
      rw [e, es]
      exact ⟨_, t2 _ (t3 _ (s127n G M3.1 M3.2.1 M3.2.2.1 M3.2.2.2.1 M3.2.2.2.2.1 (by decide) (t4 _ (s213b G M4.1 M4.2.1 M4.2.2.1 M4.2.2.2.1 M4.2.2.2.2.1 k4)))), (((flM.bd m4 rfl).fk f4).fk f3).fk f2⟩
    · obtain ⟨h3, l2, m3, f3, t3⟩ := s73_4 G M2.1 M2.2.1 M2.2.2.1 M2.2.2.2.1 M2.2.2.2.2.1 k2
      have M3 := M2.nx m3 f3
      rw [e, es]
      exact ⟨_, t2 _ (t3 _ (s127b G M3.1 M3.2.1 M3.2.2.1 M3.2.2.2.1 M3.2.2.2.2.1 rfl k3)), ((flM.bd m3 rfl).fk f3).fk f2⟩
    · obtain ⟨h3, l2, m3, f3, t3⟩ := s73_4 G M2.1 M2.2.1 M2.2.2.1 M2.2.2.2.1 M2.2.2.2.2.1 k2
      have M3 := M2.nx m3 f3
      obtain ⟨h4, m4, f4, t4⟩ := s127 G M3.1 M3.2.1 M3.2.2.1 M3.2.2.2.1 M3.2.2.2.2.1 (show (2 : Int32).toInt = 2 from rfl) k3
      have M4 := M3.nx m4 f4
      rw [e, es]
      exact ⟨_, t2 _ (t3 _ (t4 _ (s166b G M4.1 M4.2.1 M4.2.2.1 M4.2.2.2.1 M4.2.2.2.2.1 k4))), (((flM.bd m4 rfl).fk f4).fk f3).fk f2⟩
    · obtain ⟨h3, l2, m3, f3, t3⟩ := s73_4 G M2.1 M2.2.1 M2.2.2.1 M2.2.2.2.1 M2.2.2.2.2.1 k2
      have M3 := M2.nx m3 f3
      obtain ⟨h4, m4, f4, t4⟩ := s127 G M3.1 M3.2.1 M3.2.2.1 M3.2.2.2.1 M3.2.2.2.2.1 (show (2 : Int32).toInt = 2 from rfl) k3
      have M4 := M3.nx m4 f4
      obtain ⟨h5, m5, f5, t5⟩ := s166 G M4.1 M4.2.1 M4.2.2.1 M4.2.2.2.1 M4.2.2.2.2.1 k4
      have M5 := M4.nx m5 f5
      rw [e, es]
      exact ⟨_, t2 _ (t3 _ (t4 _ (t5 _ (s176b G M5.1 M5.2.1 M5.2.2.1 M5.2.2.2.1 M5.2.2.2.2.1 (by decide) k5)))), ((((flM.bd m5 rfl).fk f5).fk f4).fk f3).fk f2⟩
    · obtain ⟨h3, l2, m3, f3, t3⟩ := s73_4 G M2.1 M2.2.1 M2.2.2.1 M2.2.2.2.1 M2.2.2.2.2.1 k2
      have M3 := M2.nx m3 f3
      obtain ⟨h4, m4, f4, t4⟩ := s127 G M3.1 M3.2.1 M3.2.2.1 M3.2.2.2.1 M3.2.2.2.2.1 (show (2 : Int32).toInt = 2 from rfl) k3
      have M4 := M3.nx m4 f4
      obtain ⟨h5, m5, f5, t5⟩ := s166 G M4.1 M4.2.1 M4.2.2.1 M4.2.2.2.1 M4.2.2.2.2.1 k4
      have M5 := M4.nx m5 f5
      obtain ⟨h6, m6, f6, t6⟩ := s176 G M5.1 M5.2.1 M5.2.2.1 M5.2.2.2.1 M5.2.2.2.2.1 (show (0 : Int) < (2 : Int32).toInt by decide) k5
      have M6 := M5.nx m6 f6
      rw [e, es]
      exact ⟨_, t2 _ (t3 _ (t4 _ (t5 _ (t6 _ (s213b G M6.1 M6.2.1 M6.2.2.1 M6.2.2.2.1 M6.2.2.2.2.1 k6))))), (((((flM.bd m6 rfl).fk f6).fk f5).fk f4).fk f3).fk f2⟩
set_option maxRecDepth 100000 in
theorem sp_one (G : oG) {h hf : oH} (t : tO G 0 L0 h hf) : oSp G mX6_readOne [.ref 12] h none hf := by
  refine oSp.intro L0 rfl (Nat.le_of_ble_eq_true rfl) (plainFor_of_name (by decide +kernel)) (Nat.le_of_eq t.1.symm) ?_
  intro p l e R s m args below meth c C
  exact t.2 p l e R s m args below meth c h.1 hf.1 C (Nat.le_of_eq t.1.symm)
