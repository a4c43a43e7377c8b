theorem tA {a b : Int32} {x y : Int} (ha : a.toInt = x) (hb : b.toInt = y) (h : -2147483648 ≤ x + y ∧ x + y < 2147483648) : (a + b).toInt = x + y := by
  rw [Int32.toInt_add, ha, hb]
  exact Int.bmod_eq_of_le (by omega) (by omega)
theorem tS {a b : Int32} {x y : Int} (ha : a.toInt = x) (hb : b.toInt = y) (h : -2147483648 ≤ x - y ∧ x - y < 2147483648) : (a - b).toInt = x - y := by
  rw [Int32.toInt_sub, ha, hb]
  exact Int.bmod_eq_of_le (by omega) (by omega)
theorem tM {a b : Int32} {x y : Int} (ha : a.toInt = x) (hb : b.toInt = y) (h : -2147483648 ≤ x * y ∧ x * y < 2147483648) : (a * b).toInt = x * y := by
  rw [Int32.toInt_mul, ha, hb]
  exact Int.bmod_eq_of_le (by omega) (by omega)
theorem tI2L {a : Int32} {x : Int} (ha : a.toInt = x) : a.toInt64.toInt = x := by rw [Int32.toInt_toInt64, ha]
theorem tB (x : Int32) : -2147483648 ≤ x.toInt ∧ x.toInt < 2147483648 := by
  have h1 := Int32.le_toInt x
  have h2 := Int32.toInt_lt x
  omega
theorem er_t {P : Prop} [Decidable P] (h : P) : some (Value.int (b1 P)) = some (.int 1) := by rw [b1_t h]
theorem er_f {P : Prop} [Decidable P] (h : ¬ P) : some (Value.int (b1 P)) = some (.int 0) := by rw [b1_f h]
theorem er_b {P Q : Prop} [Decidable P] [Decidable Q] (h : P ↔ Q) : some (Value.int (b1 P)) = some (.int (b1 Q)) := by rw [b1_iff h]
section OB
variable {G : oG} {M : oM} {p : Program} {l : Launch} {e : Env} {R : Room} {s : State} {m : MethodId} {args : Array Value} {below : List Frame} {meth : Method} {c : Code} {Z : State → Prop} {n0 nF pc : Nat} {L : List (Option Value)} {S : List Value} {h : oH}
theorem t_if_eq (C : oC G M n0 nF p l R s m args meth c) {x : Int32} {a : Int} {off : Int} (tgt : Nat) (ht : (pc : Int) + off = (tgt : Int)) (hx : x.toInt = a) (hd : decode M.2.1 pc = .ok (.ifCond .eq off, 3)) (kt : a = 0 → oS G M p l e R s m args below meth c Z n0 tgt L S h) (kf : ¬ a = 0 → oS G M p l e R s m args below meth c Z n0 (pc + 3) L S h) : oS G M p l e R s m args below meth c Z n0 pc L (.int x :: S) h := by
  subst hx
  exact r_if_eq C tgt ht hd (fun q => kt (congrArg Int32.toInt q)) (fun q => kf (fun z => q (Int32.toInt_inj.mp z)))
theorem j_if_eq0 (C : oC G M n0 nF p l R s m args meth c) {x : Int32} {a : Int} {off off2 : Int} (tgt : Nat) (ht : (pc : Int) + off = (tgt : Int)) (hJ : (pc : Int) + 4 + off2 = (tgt : Int) + 1) (hx : x.toInt = a) (hd : decode M.2.1 pc = .ok (.ifCond .eq off, 3)) (hd1 : decode M.2.1 (pc + 3) = .ok (.iconst 1, 1)) (hd2 : decode M.2.1 (pc + 4) = .ok (.goto off2, 3)) (hd3 : decode M.2.1 tgt = .ok (.iconst 0, 1)) (k : oS G M p l e R s m args below meth c Z n0 (tgt + 1) L (.int (b1 (¬ a = 0)) :: S) h) : oS G M p l e R s m args below meth c Z n0 pc L (.int x :: S) h := by
  refine t_if_eq C tgt ht hx hd (fun q => ?_) (fun q => ?_)
  · refine r_iconstv C 0 rfl hd3 ?_
    rw [b1_f (by omega)] at k
    exact k
  · refine r_iconstv C 1 rfl hd1 (r_goto C (tgt + 1) (by omega) hd2 ?_)
    rw [b1_t q] at k
    exact k
theorem j_if_eq1 (C : oC G M n0 nF p l R s m args meth c) {x : Int32} {a : Int} {off off2 : Int} (tgt : Nat) (ht : (pc : Int) + off = (tgt : Int)) (hJ : (pc : Int) + 4 + off2 = (tgt : Int) + 1) (hx : x.toInt = a) (hd : decode M.2.1 pc = .ok (.ifCond .eq off, 3)) (hd1 : decode M.2.1 (pc + 3) = .ok (.iconst 0, 1)) (hd2 : decode M.2.1 (pc + 4) = .ok (.goto off2, 3)) (hd3 : decode M.2.1 tgt = .ok (.iconst 1, 1)) (k : oS G M p l e R s m args below meth c Z n0 (tgt + 1) L (.int (b1 (a = 0)) :: S) h) : oS G M p l e R s m args below meth c Z n0 pc L (.int x :: S) h := by
  refine t_if_eq C tgt ht hx hd (fun q => ?_) (fun q => ?_)
  · refine r_iconstv C 1 rfl hd3 ?_
    rw [b1_t q] at k
    exact k
  · refine r_iconstv C 0 rfl hd1 (r_goto C (tgt + 1) (by omega) hd2 ?_)
    rw [b1_f (by omega)] at k
    exact k
theorem t_icmp_eq (C : oC G M n0 nF p l R s m args meth c) {x y : Int32} {a b : Int} {off : Int} (tgt : Nat) (ht : (pc : Int) + off = (tgt : Int)) (hx : x.toInt = a) (hy : y.toInt = b) (hd : decode M.2.1 pc = .ok (.if_icmp .eq off, 3)) (kt : a = b → oS G M p l e R s m args below meth c Z n0 tgt L S h) (kf : ¬ a = b → oS G M p l e R s m args below meth c Z n0 (pc + 3) L S h) : oS G M p l e R s m args below meth c Z n0 pc L (.int y :: .int x :: S) h := by
  subst hx; subst hy
  exact r_icmp_eq C tgt ht hd (fun q => kt (congrArg Int32.toInt q)) (fun q => kf (fun z => q (Int32.toInt_inj.mp z)))
theorem j_icmp_eq0 (C : oC G M n0 nF p l R s m args meth c) {x y : Int32} {a b : Int} {off off2 : Int} (tgt : Nat) (ht : (pc : Int) + off = (tgt : Int)) (hJ : (pc : Int) + 4 + off2 = (tgt : Int) + 1) (hx : x.toInt = a) (hy : y.toInt = b) (hd : decode M.2.1 pc = .ok (.if_icmp .eq off, 3)) (hd1 : decode M.2.1 (pc + 3) = .ok (.iconst 1, 1)) (hd2 : decode M.2.1 (pc + 4) = .ok (.goto off2, 3)) (hd3 : decode M.2.1 tgt = .ok (.iconst 0, 1)) (k : oS G M p l e R s m args below meth c Z n0 (tgt + 1) L (.int (b1 (¬ a = b)) :: S) h) : oS G M p l e R s m args below meth c Z n0 pc L (.int y :: .int x :: S) h := by
  refine t_icmp_eq C tgt ht hx hy hd (fun q => ?_) (fun q => ?_)
  · refine r_iconstv C 0 rfl hd3 ?_
    rw [b1_f (by omega)] at k
    exact k
  · refine r_iconstv C 1 rfl hd1 (r_goto C (tgt + 1) (by omega) hd2 ?_)
    rw [b1_t q] at k
    exact k
theorem j_icmp_eq1 (C : oC G M n0 nF p l R s m args meth c) {x y : Int32} {a b : Int} {off off2 : Int} (tgt : Nat) (ht : (pc : Int) + off = (tgt : Int)) (hJ : (pc : Int) + 4 + off2 = (tgt : Int) + 1) (hx : x.toInt = a) (hy : y.toInt = b) (hd : decode M.2.1 pc = .ok (.if_icmp .eq off, 3)) (hd1 : decode M.2.1 (pc + 3) = .ok (.iconst 0, 1)) (hd2 : decode M.2.1 (pc + 4) = .ok (.goto off2, 3)) (hd3 : decode M.2.1 tgt = .ok (.iconst 1, 1)) (k : oS G M p l e R s m args below meth c Z n0 (tgt + 1) L (.int (b1 (a = b)) :: S) h) : oS G M p l e R s m args below meth c Z n0 pc L (.int y :: .int x :: S) h := by
  refine t_icmp_eq C tgt ht hx hy hd (fun q => ?_) (fun q => ?_)
  · refine r_iconstv C 1 rfl hd3 ?_
    rw [b1_t q] at k
    exact k
  · refine r_iconstv C 0 rfl hd1 (r_goto C (tgt + 1) (by omega) hd2 ?_)
    rw [b1_f (by omega)] at k
    exact k
theorem t_if_ne (C : oC G M n0 nF p l R s m args meth c) {x : Int32} {a : Int} {off : Int} (tgt : Nat) (ht : (pc : Int) + off = (tgt : Int)) (hx : x.toInt = a) (hd : decode M.2.1 pc = .ok (.ifCond .ne off, 3)) (kt : ¬ a = 0 → oS G M p l e R s m args below meth c Z n0 tgt L S h) (kf : a = 0 → oS G M p l e R s m args below meth c Z n0 (pc + 3) L S h) : oS G M p l e R s m args below meth c Z n0 pc L (.int x :: S) h := by
  subst hx
  exact r_if_ne C tgt ht hd (fun q => kt (fun z => q (Int32.toInt_inj.mp z))) (fun q => kf (congrArg Int32.toInt q))
theorem j_if_ne0 (C : oC G M n0 nF p l R s m args meth c) {x : Int32} {a : Int} {off off2 : Int} (tgt : Nat) (ht : (pc : Int) + off = (tgt : Int)) (hJ : (pc : Int) + 4 + off2 = (tgt : Int) + 1) (hx : x.toInt = a) (hd : decode M.2.1 pc = .ok (.ifCond .ne off, 3)) (hd1 : decode M.2.1 (pc + 3) = .ok (.iconst 1, 1)) (hd2 : decode M.2.1 (pc + 4) = .ok (.goto off2, 3)) (hd3 : decode M.2.1 tgt = .ok (.iconst 0, 1)) (k : oS G M p l e R s m args below meth c Z n0 (tgt + 1) L (.int (b1 (a = 0)) :: S) h) : oS G M p l e R s m args below meth c Z n0 pc L (.int x :: S) h := by
  refine t_if_ne C tgt ht hx hd (fun q => ?_) (fun q => ?_)
  · refine r_iconstv C 0 rfl hd3 ?_
    rw [b1_f (by omega)] at k
    exact k
  · refine r_iconstv C 1 rfl hd1 (r_goto C (tgt + 1) (by omega) hd2 ?_)
    rw [b1_t q] at k
    exact k
theorem j_if_ne1 (C : oC G M n0 nF p l R s m args meth c) {x : Int32} {a : Int} {off off2 : Int} (tgt : Nat) (ht : (pc : Int) + off = (tgt : Int)) (hJ : (pc : Int) + 4 + off2 = (tgt : Int) + 1) (hx : x.toInt = a) (hd : decode M.2.1 pc = .ok (.ifCond .ne off, 3)) (hd1 : decode M.2.1 (pc + 3) = .ok (.iconst 0, 1)) (hd2 : decode M.2.1 (pc + 4) = .ok (.goto off2, 3)) (hd3 : decode M.2.1 tgt = .ok (.iconst 1, 1)) (k : oS G M p l e R s m args below meth c Z n0 (tgt + 1) L (.int (b1 (¬ a = 0)) :: S) h) : oS G M p l e R s m args below meth c Z n0 pc L (.int x :: S) h := by
  refine t_if_ne C tgt ht hx hd (fun q => ?_) (fun q => ?_)
  · refine r_iconstv C 1 rfl hd3 ?_
    rw [b1_t q] at k
    exact k
  · refine r_iconstv C 0 rfl hd1 (r_goto C (tgt + 1) (by omega) hd2 ?_)
    rw [b1_f (by omega)] at k
    exact k
theorem t_icmp_ne (C : oC G M n0 nF p l R s m args meth c) {x y : Int32} {a b : Int} {off : Int} (tgt : Nat) (ht : (pc : Int) + off = (tgt : Int)) (hx : x.toInt = a) (hy : y.toInt = b) (hd : decode M.2.1 pc = .ok (.if_icmp .ne off, 3)) (kt : ¬ a = b → oS G M p l e R s m args below meth c Z n0 tgt L S h) (kf : a = b → oS G M p l e R s m args below meth c Z n0 (pc + 3) L S h) : oS G M p l e R s m args below meth c Z n0 pc L (.int y :: .int x :: S) h := by
  subst hx; subst hy
  exact r_icmp_ne C tgt ht hd (fun q => kt (fun z => q (Int32.toInt_inj.mp z))) (fun q => kf (congrArg Int32.toInt q))
theorem j_icmp_ne0 (C : oC G M n0 nF p l R s m args meth c) {x y : Int32} {a b : Int} {off off2 : Int} (tgt : Nat) (ht : (pc : Int) + off = (tgt : Int)) (hJ : (pc : Int) + 4 + off2 = (tgt : Int) + 1) (hx : x.toInt = a) (hy : y.toInt = b) (hd : decode M.2.1 pc = .ok (.if_icmp .ne off, 3)) (hd1 : decode M.2.1 (pc + 3) = .ok (.iconst 1, 1)) (hd2 : decode M.2.1 (pc + 4) = .ok (.goto off2, 3)) (hd3 : decode M.2.1 tgt = .ok (.iconst 0, 1)) (k : oS G M p l e R s m args below meth c Z n0 (tgt + 1) L (.int (b1 (a = b)) :: S) h) : oS G M p l e R s m args below meth c Z n0 pc L (.int y :: .int x :: S) h := by
  refine t_icmp_ne C tgt ht hx hy hd (fun q => ?_) (fun q => ?_)
  · refine r_iconstv C 0 rfl hd3 ?_
    rw [b1_f (by omega)] at k
    exact k
  · refine r_iconstv C 1 rfl hd1 (r_goto C (tgt + 1) (by omega) hd2 ?_)
    rw [b1_t q] at k
    exact k
theorem j_icmp_ne1 (C : oC G M n0 nF p l R s m args meth c) {x y : Int32} {a b : Int} {off off2 : Int} (tgt : Nat) (ht : (pc : Int) + off = (tgt : Int)) (hJ : (pc : Int) + 4 + off2 = (tgt : Int) + 1) (hx : x.toInt = a) (hy : y.toInt = b) (hd : decode M.2.1 pc = .ok (.if_icmp .ne off, 3)) (hd1 : decode M.2.1 (pc + 3) = .ok (.iconst 0, 1)) (hd2 : decode M.2.1 (pc + 4) = .ok (.goto off2, 3)) (hd3 : decode M.2.1 tgt = .ok (.iconst 1, 1)) (k : oS G M p l e R s m args below meth c Z n0 (tgt + 1) L (.int (b1 (¬ a = b)) :: S) h) : oS G M p l e R s m args below meth c Z n0 pc L (.int y :: .int x :: S) h := by
  refine t_icmp_ne C tgt ht hx hy hd (fun q => ?_) (fun q => ?_)
  · refine r_iconstv C 1 rfl hd3 ?_
    rw [b1_t q] at k
    exact k
  · refine r_iconstv C 0 rfl hd1 (r_goto C (tgt + 1) (by omega) hd2 ?_)
    rw [b1_f (by omega)] at k
    exact k
theorem t_if_lt (C : oC G M n0 nF p l R s m args meth c) {x : Int32} {a : Int} {off : Int} (tgt : Nat) (ht : (pc : Int) + off = (tgt : Int)) (hx : x.toInt = a) (hd : decode M.2.1 pc = .ok (.ifCond .lt off, 3)) (kt : a < 0 → oS G M p l e R s m args below meth c Z n0 tgt L S h) (kf : 0 ≤ a → oS G M p l e R s m args below meth c Z n0 (pc + 3) L S h) : oS G M p l e R s m args below meth c Z n0 pc L (.int x :: S) h := by
  subst hx
  exact r_if_lt C tgt ht hd (fun q => kt (Int32.lt_iff_toInt_lt.mp q)) (fun q => kf (Int.not_lt.mp (fun z => q (Int32.lt_iff_toInt_lt.mpr z))))
theorem j_if_lt0 (C : oC G M n0 nF p l R s m args meth c) {x : Int32} {a : Int} {off off2 : Int} (tgt : Nat) (ht : (pc : Int) + off = (tgt : Int)) (hJ : (pc : Int) + 4 + off2 = (tgt : Int) + 1) (hx : x.toInt = a) (hd : decode M.2.1 pc = .ok (.ifCond .lt off, 3)) (hd1 : decode M.2.1 (pc + 3) = .ok (.iconst 1, 1)) (hd2 : decode M.2.1 (pc + 4) = .ok (.goto off2, 3)) (hd3 : decode M.2.1 tgt = .ok (.iconst 0, 1)) (k : oS G M p l e R s m args below meth c Z n0 (tgt + 1) L (.int (b1 (0 ≤ a)) :: S) h) : oS G M p l e R s m args below meth c Z n0 pc L (.int x :: S) h := by
  refine t_if_lt C tgt ht hx hd (fun q => ?_) (fun q => ?_)
  · refine r_iconstv C 0 rfl hd3 ?_
    rw [b1_f (by omega)] at k
    exact k
  · refine r_iconstv C 1 rfl hd1 (r_goto C (tgt + 1) (by omega) hd2 ?_)
    rw [b1_t q] at k
    exact k
theorem j_if_lt1 (C : oC G M n0 nF p l R s m args meth c) {x : Int32} {a : Int} {off off2 : Int} (tgt : Nat) (ht : (pc : Int) + off = (tgt : Int)) (hJ : (pc : Int) + 4 + off2 = (tgt : Int) + 1) (hx : x.toInt = a) (hd : decode M.2.1 pc = .ok (.ifCond .lt off, 3)) (hd1 : decode M.2.1 (pc + 3) = .ok (.iconst 0, 1)) (hd2 : decode M.2.1 (pc + 4) = .ok (.goto off2, 3)) (hd3 : decode M.2.1 tgt = .ok (.iconst 1, 1)) (k : oS G M p l e R s m args below meth c Z n0 (tgt + 1) L (.int (b1 (a < 0)) :: S) h) : oS G M p l e R s m args below meth c Z n0 pc L (.int x :: S) h := by
  refine t_if_lt C tgt ht hx hd (fun q => ?_) (fun q => ?_)
  · refine r_iconstv C 1 rfl hd3 ?_
    rw [b1_t q] at k
    exact k
  · refine r_iconstv C 0 rfl hd1 (r_goto C (tgt + 1) (by omega) hd2 ?_)
    rw [b1_f (by omega)] at k
    exact k
theorem t_icmp_lt (C : oC G M n0 nF p l R s m args meth c) {x y : Int32} {a b : Int} {off : Int} (tgt : Nat) (ht : (pc : Int) + off = (tgt : Int)) (hx : x.toInt = a) (hy : y.toInt = b) (hd : decode M.2.1 pc = .ok (.if_icmp .lt off, 3)) (kt : a < b → oS G M p l e R s m args below meth c Z n0 tgt L S h) (kf : b ≤ a → oS G M p l e R s m args below meth c Z n0 (pc + 3) L S h) : oS G M p l e R s m args below meth c Z n0 pc L (.int y :: .int x :: S) h := by
  subst hx; subst hy
  exact r_icmp_lt C tgt ht hd (fun q => kt (Int32.lt_iff_toInt_lt.mp q)) (fun q => kf (Int.not_lt.mp (fun z => q (Int32.lt_iff_toInt_lt.mpr z))))
theorem j_icmp_lt0 (C : oC G M n0 nF p l R s m args meth c) {x y : Int32} {a b : Int} {off off2 : Int} (tgt : Nat) (ht : (pc : Int) + off = (tgt : Int)) (hJ : (pc : Int) + 4 + off2 = (tgt : Int) + 1) (hx : x.toInt = a) (hy : y.toInt = b) (hd : decode M.2.1 pc = .ok (.if_icmp .lt off, 3)) (hd1 : decode M.2.1 (pc + 3) = .ok (.iconst 1, 1)) (hd2 : decode M.2.1 (pc + 4) = .ok (.goto off2, 3)) (hd3 : decode M.2.1 tgt = .ok (.iconst 0, 1)) (k : oS G M p l e R s m args below meth c Z n0 (tgt + 1) L (.int (b1 (b ≤ a)) :: S) h) : oS G M p l e R s m args below meth c Z n0 pc L (.int y :: .int x :: S) h := by
  refine t_icmp_lt C tgt ht hx hy hd (fun q => ?_) (fun q => ?_)
  · refine r_iconstv C 0 rfl hd3 ?_
    rw [b1_f (by omega)] at k
    exact k
  · refine r_iconstv C 1 rfl hd1 (r_goto C (tgt + 1) (by omega) hd2 ?_)
    rw [b1_t q] at k
    exact k
theorem j_icmp_lt1 (C : oC G M n0 nF p l R s m args meth c) {x y : Int32} {a b : Int} {off off2 : Int} (tgt : Nat) (ht : (pc : Int) + off = (tgt : Int)) (hJ : (pc : Int) + 4 + off2 = (tgt : Int) + 1) (hx : x.toInt = a) (hy : y.toInt = b) (hd : decode M.2.1 pc = .ok (.if_icmp .lt off, 3)) (hd1 : decode M.2.1 (pc + 3) = .ok (.iconst 0, 1)) (hd2 : decode M.2.1 (pc + 4) = .ok (.goto off2, 3)) (hd3 : decode M.2.1 tgt = .ok (.iconst 1, 1)) (k : oS G M p l e R s m args below meth c Z n0 (tgt + 1) L (.int (b1 (a < b)) :: S) h) : oS G M p l e R s m args below meth c Z n0 pc L (.int y :: .int x :: S) h := by
  refine t_icmp_lt C tgt ht hx hy hd (fun q => ?_) (fun q => ?_)
  · refine r_iconstv C 1 rfl hd3 ?_
    rw [b1_t q] at k
    exact k
  · refine r_iconstv C 0 rfl hd1 (r_goto C (tgt + 1) (by omega) hd2 ?_)
    rw [b1_f (by omega)] at k
    exact k
theorem t_if_ge (C : oC G M n0 nF p l R s m args meth c) {x : Int32} {a : Int} {off : Int} (tgt : Nat) (ht : (pc : Int) + off = (tgt : Int)) (hx : x.toInt = a) (hd : decode M.2.1 pc = .ok (.ifCond .ge off, 3)) (kt : 0 ≤ a → oS G M p l e R s m args below meth c Z n0 tgt L S h) (kf : a < 0 → oS G M p l e R s m args below meth c Z n0 (pc + 3) L S h) : oS G M p l e R s m args below meth c Z n0 pc L (.int x :: S) h := by
  subst hx
  exact r_if_ge C tgt ht hd (fun q => kt (Int32.le_iff_toInt_le.mp q)) (fun q => kf (Int.not_le.mp (fun z => q (Int32.le_iff_toInt_le.mpr z))))
theorem j_if_ge0 (C : oC G M n0 nF p l R s m args meth c) {x : Int32} {a : Int} {off off2 : Int} (tgt : Nat) (ht : (pc : Int) + off = (tgt : Int)) (hJ : (pc : Int) + 4 + off2 = (tgt : Int) + 1) (hx : x.toInt = a) (hd : decode M.2.1 pc = .ok (.ifCond .ge off, 3)) (hd1 : decode M.2.1 (pc + 3) = .ok (.iconst 1, 1)) (hd2 : decode M.2.1 (pc + 4) = .ok (.goto off2, 3)) (hd3 : decode M.2.1 tgt = .ok (.iconst 0, 1)) (k : oS G M p l e R s m args below meth c Z n0 (tgt + 1) L (.int (b1 (a < 0)) :: S) h) : oS G M p l e R s m args below meth c Z n0 pc L (.int x :: S) h := by
  refine t_if_ge C tgt ht hx hd (fun q => ?_) (fun q => ?_)
  · refine r_iconstv C 0 rfl hd3 ?_
    rw [b1_f (by omega)] at k
    exact k
  · refine r_iconstv C 1 rfl hd1 (r_goto C (tgt + 1) (by omega) hd2 ?_)
    rw [b1_t q] at k
    exact k
theorem j_if_ge1 (C : oC G M n0 nF p l R s m args meth c) {x : Int32} {a : Int} {off off2 : Int} (tgt : Nat) (ht : (pc : Int) + off = (tgt : Int)) (hJ : (pc : Int) + 4 + off2 = (tgt : Int) + 1) (hx : x.toInt = a) (hd : decode M.2.1 pc = .ok (.ifCond .ge off, 3)) (hd1 : decode M.2.1 (pc + 3) = .ok (.iconst 0, 1)) (hd2 : decode M.2.1 (pc + 4) = .ok (.goto off2, 3)) (hd3 : decode M.2.1 tgt = .ok (.iconst 1, 1)) (k : oS G M p l e R s m args below meth c Z n0 (tgt + 1) L (.int (b1 (0 ≤ a)) :: S) h) : oS G M p l e R s m args below meth c Z n0 pc L (.int x :: S) h := by
  refine t_if_ge C tgt ht hx hd (fun q => ?_) (fun q => ?_)
  · refine r_iconstv C 1 rfl hd3 ?_
    rw [b1_t q] at k
    exact k
  · refine r_iconstv C 0 rfl hd1 (r_goto C (tgt + 1) (by omega) hd2 ?_)
    rw [b1_f (by omega)] at k
    exact k
theorem t_icmp_ge (C : oC G M n0 nF p l R s m args meth c) {x y : Int32} {a b : Int} {off : Int} (tgt : Nat) (ht : (pc : Int) + off = (tgt : Int)) (hx : x.toInt = a) (hy : y.toInt = b) (hd : decode M.2.1 pc = .ok (.if_icmp .ge off, 3)) (kt : b ≤ a → oS G M p l e R s m args below meth c Z n0 tgt L S h) (kf : a < b → oS G M p l e R s m args below meth c Z n0 (pc + 3) L S h) : oS G M p l e R s m args below meth c Z n0 pc L (.int y :: .int x :: S) h := by
  subst hx; subst hy
  exact r_icmp_ge C tgt ht hd (fun q => kt (Int32.le_iff_toInt_le.mp q)) (fun q => kf (Int.not_le.mp (fun z => q (Int32.le_iff_toInt_le.mpr z))))
theorem j_icmp_ge0 (C : oC G M n0 nF p l R s m args meth c) {x y : Int32} {a b : Int} {off off2 : Int} (tgt : Nat) (ht : (pc : Int) + off = (tgt : Int)) (hJ : (pc : Int) + 4 + off2 = (tgt : Int) + 1) (hx : x.toInt = a) (hy : y.toInt = b) (hd : decode M.2.1 pc = .ok (.if_icmp .ge off, 3)) (hd1 : decode M.2.1 (pc + 3) = .ok (.iconst 1, 1)) (hd2 : decode M.2.1 (pc + 4) = .ok (.goto off2, 3)) (hd3 : decode M.2.1 tgt = .ok (.iconst 0, 1)) (k : oS G M p l e R s m args below meth c Z n0 (tgt + 1) L (.int (b1 (a < b)) :: S) h) : oS G M p l e R s m args below meth c Z n0 pc L (.int y :: .int x :: S) h := by
  refine t_icmp_ge C tgt ht hx hy hd (fun q => ?_) (fun q => ?_)
  · refine r_iconstv C 0 rfl hd3 ?_
    rw [b1_f (by omega)] at k
    exact k
  · refine r_iconstv C 1 rfl hd1 (r_goto C (tgt + 1) (by omega) hd2 ?_)
    rw [b1_t q] at k
    exact k
theorem j_icmp_ge1 (C : oC G M n0 nF p l R s m args meth c) {x y : Int32} {a b : Int} {off off2 : Int} (tgt : Nat) (ht : (pc : Int) + off = (tgt : Int)) (hJ : (pc : Int) + 4 + off2 = (tgt : Int) + 1) (hx : x.toInt = a) (hy : y.toInt = b) (hd : decode M.2.1 pc = .ok (.if_icmp .ge off, 3)) (hd1 : decode M.2.1 (pc + 3) = .ok (.iconst 0, 1)) (hd2 : decode M.2.1 (pc + 4) = .ok (.goto off2, 3)) (hd3 : decode M.2.1 tgt = .ok (.iconst 1, 1)) (k : oS G M p l e R s m args below meth c Z n0 (tgt + 1) L (.int (b1 (b ≤ a)) :: S) h) : oS G M p l e R s m args below meth c Z n0 pc L (.int y :: .int x :: S) h := by
  refine t_icmp_ge C tgt ht hx hy hd (fun q => ?_) (fun q => ?_)
  · refine r_iconstv C 1 rfl hd3 ?_
    rw [b1_t q] at k
    exact k
  · refine r_iconstv C 0 rfl hd1 (r_goto C (tgt + 1) (by omega) hd2 ?_)
    rw [b1_f (by omega)] at k
    exact k
theorem t_if_gt (C : oC G M n0 nF p l R s m args meth c) {x : Int32} {a : Int} {off : Int} (tgt : Nat) (ht : (pc : Int) + off = (tgt : Int)) (hx : x.toInt = a) (hd : decode M.2.1 pc = .ok (.ifCond .gt off, 3)) (kt : 0 < a → oS G M p l e R s m args below meth c Z n0 tgt L S h) (kf : a ≤ 0 → oS G M p l e R s m args below meth c Z n0 (pc + 3) L S h) : oS G M p l e R s m args below meth c Z n0 pc L (.int x :: S) h := by
  subst hx
  exact r_if_gt C tgt ht hd (fun q => kt (Int32.lt_iff_toInt_lt.mp q)) (fun q => kf (Int.not_lt.mp (fun z => q (Int32.lt_iff_toInt_lt.mpr z))))
theorem j_if_gt0 (C : oC G M n0 nF p l R s m args meth c) {x : Int32} {a : Int} {off off2 : Int} (tgt : Nat) (ht : (pc : Int) + off = (tgt : Int)) (hJ : (pc : Int) + 4 + off2 = (tgt : Int) + 1) (hx : x.toInt = a) (hd : decode M.2.1 pc = .ok (.ifCond .gt off, 3)) (hd1 : decode M.2.1 (pc + 3) = .ok (.iconst 1, 1)) (hd2 : decode M.2.1 (pc + 4) = .ok (.goto off2, 3)) (hd3 : decode M.2.1 tgt = .ok (.iconst 0, 1)) (k : oS G M p l e R s m args below meth c Z n0 (tgt + 1) L (.int (b1 (a ≤ 0)) :: S) h) : oS G M p l e R s m args below meth c Z n0 pc L (.int x :: S) h := by
  refine t_if_gt C tgt ht hx hd (fun q => ?_) (fun q => ?_)
  · refine r_iconstv C 0 rfl hd3 ?_
    rw [b1_f (by omega)] at k
    exact k
  · refine r_iconstv C 1 rfl hd1 (r_goto C (tgt + 1) (by omega) hd2 ?_)
    rw [b1_t q] at k
    exact k
theorem j_if_gt1 (C : oC G M n0 nF p l R s m args meth c) {x : Int32} {a : Int} {off off2 : Int} (tgt : Nat) (ht : (pc : Int) + off = (tgt : Int)) (hJ : (pc : Int) + 4 + off2 = (tgt : Int) + 1) (hx : x.toInt = a) (hd : decode M.2.1 pc = .ok (.ifCond .gt off, 3)) (hd1 : decode M.2.1 (pc + 3) = .ok (.iconst 0, 1)) (hd2 : decode M.2.1 (pc + 4) = .ok (.goto off2, 3)) (hd3 : decode M.2.1 tgt = .ok (.iconst 1, 1)) (k : oS G M p l e R s m args below meth c Z n0 (tgt + 1) L (.int (b1 (0 < a)) :: S) h) : oS G M p l e R s m args below meth c Z n0 pc L (.int x :: S) h := by
  refine t_if_gt C tgt ht hx hd (fun q => ?_) (fun q => ?_)
  · refine r_iconstv C 1 rfl hd3 ?_
    rw [b1_t q] at k
    exact k
  · refine r_iconstv C 0 rfl hd1 (r_goto C (tgt + 1) (by omega) hd2 ?_)
    rw [b1_f (by omega)] at k
    exact k
theorem t_icmp_gt (C : oC G M n0 nF p l R s m args meth c) {x y : Int32} {a b : Int} {off : Int} (tgt : Nat) (ht : (pc : Int) + off = (tgt : Int)) (hx : x.toInt = a) (hy : y.toInt = b) (hd : decode M.2.1 pc = .ok (.if_icmp .gt off, 3)) (kt : b < a → oS G M p l e R s m args below meth c Z n0 tgt L S h) (kf : a ≤ b → oS G M p l e R s m args below meth c Z n0 (pc + 3) L S h) : oS G M p l e R s m args below meth c Z n0 pc L (.int y :: .int x :: S) h := by
  subst hx; subst hy
  exact r_icmp_gt C tgt ht hd (fun q => kt (Int32.lt_iff_toInt_lt.mp q)) (fun q => kf (Int.not_lt.mp (fun z => q (Int32.lt_iff_toInt_lt.mpr z))))
theorem j_icmp_gt0 (C : oC G M n0 nF p l R s m args meth c) {x y : Int32} {a b : Int} {off off2 : Int} (tgt : Nat) (ht : (pc : Int) + off = (tgt : Int)) (hJ : (pc : Int) + 4 + off2 = (tgt : Int) + 1) (hx : x.toInt = a) (hy : y.toInt = b) (hd : decode M.2.1 pc = .ok (.if_icmp .gt off, 3)) (hd1 : decode M.2.1 (pc + 3) = .ok (.iconst 1, 1)) (hd2 : decode M.2.1 (pc + 4) = .ok (.goto off2, 3)) (hd3 : decode M.2.1 tgt = .ok (.iconst 0, 1)) (k : oS G M p l e R s m args below meth c Z n0 (tgt + 1) L (.int (b1 (a ≤ b)) :: S) h) : oS G M p l e R s m args below meth c Z n0 pc L (.int y :: .int x :: S) h := by
  refine t_icmp_gt C tgt ht hx hy hd (fun q => ?_) (fun q => ?_)
  · refine r_iconstv C 0 rfl hd3 ?_
    rw [b1_f (by omega)] at k
    exact k
  · refine r_iconstv C 1 rfl hd1 (r_goto C (tgt + 1) (by omega) hd2 ?_)
    rw [b1_t q] at k
    exact k
theorem j_icmp_gt1 (C : oC G M n0 nF p l R s m args meth c) {x y : Int32} {a b : Int} {off off2 : Int} (tgt : Nat) (ht : (pc : Int) + off = (tgt : Int)) (hJ : (pc : Int) + 4 + off2 = (tgt : Int) + 1) (hx : x.toInt = a) (hy : y.toInt = b) (hd : decode M.2.1 pc = .ok (.if_icmp .gt off, 3)) (hd1 : decode M.2.1 (pc + 3) = .ok (.iconst 0, 1)) (hd2 : decode M.2.1 (pc + 4) = .ok (.goto off2, 3)) (hd3 : decode M.2.1 tgt = .ok (.iconst 1, 1)) (k : oS G M p l e R s m args below meth c Z n0 (tgt + 1) L (.int (b1 (b < a)) :: S) h) : oS G M p l e R s m args below meth c Z n0 pc L (.int y :: .int x :: S) h := by
  refine t_icmp_gt C tgt ht hx hy hd (fun q => ?_) (fun q => ?_)
  · refine r_iconstv C 1 rfl hd3 ?_
    rw [b1_t q] at k
    exact k
  · refine r_iconstv C 0 rfl hd1 (r_goto C (tgt + 1) (by omega) hd2 ?_)
    rw [b1_f (by omega)] at k
    exact k
theorem t_if_le (C : oC G M n0 nF p l R s m args meth c) {x : Int32} {a : Int} {off : Int} (tgt : Nat) (ht : (pc : Int) + off = (tgt : Int)) (hx : x.toInt = a) (hd : decode M.2.1 pc = .ok (.ifCond .le off, 3)) (kt : a ≤ 0 → oS G M p l e R s m args below meth c Z n0 tgt L S h) (kf : 0 < a → oS G M p l e R s m args below meth c Z n0 (pc + 3) L S h) : oS G M p l e R s m args below meth c Z n0 pc L (.int x :: S) h := by
  subst hx
  exact r_if_le C tgt ht hd (fun q => kt (Int32.le_iff_toInt_le.mp q)) (fun q => kf (Int.not_le.mp (fun z => q (Int32.le_iff_toInt_le.mpr z))))
theorem j_if_le0 (C : oC G M n0 nF p l R s m args meth c) {x : Int32} {a : Int} {off off2 : Int} (tgt : Nat) (ht : (pc : Int) + off = (tgt : Int)) (hJ : (pc : Int) + 4 + off2 = (tgt : Int) + 1) (hx : x.toInt = a) (hd : decode M.2.1 pc = .ok (.ifCond .le off, 3)) (hd1 : decode M.2.1 (pc + 3) = .ok (.iconst 1, 1)) (hd2 : decode M.2.1 (pc + 4) = .ok (.goto off2, 3)) (hd3 : decode M.2.1 tgt = .ok (.iconst 0, 1)) (k : oS G M p l e R s m args below meth c Z n0 (tgt + 1) L (.int (b1 (0 < a)) :: S) h) : oS G M p l e R s m args below meth c Z n0 pc L (.int x :: S) h := by
  refine t_if_le C tgt ht hx hd (fun q => ?_) (fun q => ?_)
  · refine r_iconstv C 0 rfl hd3 ?_
    rw [b1_f (by omega)] at k
    exact k
  · refine r_iconstv C 1 rfl hd1 (r_goto C (tgt + 1) (by omega) hd2 ?_)
    rw [b1_t q] at k
    exact k
theorem j_if_le1 (C : oC G M n0 nF p l R s m args meth c) {x : Int32} {a : Int} {off off2 : Int} (tgt : Nat) (ht : (pc : Int) + off = (tgt : Int)) (hJ : (pc : Int) + 4 + off2 = (tgt : Int) + 1) (hx : x.toInt = a) (hd : decode M.2.1 pc = .ok (.ifCond .le off, 3)) (hd1 : decode M.2.1 (pc + 3) = .ok (.iconst 0, 1)) (hd2 : decode M.2.1 (pc + 4) = .ok (.goto off2, 3)) (hd3 : decode M.2.1 tgt = .ok (.iconst 1, 1)) (k : oS G M p l e R s m args below meth c Z n0 (tgt + 1) L (.int (b1 (a ≤ 0)) :: S) h) : oS G M p l e R s m args below meth c Z n0 pc L (.int x :: S) h := by
  refine t_if_le C tgt ht hx hd (fun q => ?_) (fun q => ?_)
  · refine r_iconstv C 1 rfl hd3 ?_
    rw [b1_t q] at k
    exact k
  · refine r_iconstv C 0 rfl hd1 (r_goto C (tgt + 1) (by omega) hd2 ?_)
    rw [b1_f (by omega)] at k
    exact k
theorem t_icmp_le (C : oC G M n0 nF p l R s m args meth c) {x y : Int32} {a b : Int} {off : Int} (tgt : Nat) (ht : (pc : Int) + off = (tgt : Int)) (hx : x.toInt = a) (hy : y.toInt = b) (hd : decode M.2.1 pc = .ok (.if_icmp .le off, 3)) (kt : a ≤ b → oS G M p l e R s m args below meth c Z n0 tgt L S h) (kf : b < a → oS G M p l e R s m args below meth c Z n0 (pc + 3) L S h) : oS G M p l e R s m args below meth c Z n0 pc L (.int y :: .int x :: S) h := by
  subst hx; subst hy
  exact r_icmp_le C tgt ht hd (fun q => kt (Int32.le_iff_toInt_le.mp q)) (fun q => kf (Int.not_le.mp (fun z => q (Int32.le_iff_toInt_le.mpr z))))
theorem j_icmp_le0 (C : oC G M n0 nF p l R s m args meth c) {x y : Int32} {a b : Int} {off off2 : Int} (tgt : Nat) (ht : (pc : Int) + off = (tgt : Int)) (hJ : (pc : Int) + 4 + off2 = (tgt : Int) + 1) (hx : x.toInt = a) (hy : y.toInt = b) (hd : decode M.2.1 pc = .ok (.if_icmp .le off, 3)) (hd1 : decode M.2.1 (pc + 3) = .ok (.iconst 1, 1)) (hd2 : decode M.2.1 (pc + 4) = .ok (.goto off2, 3)) (hd3 : decode M.2.1 tgt = .ok (.iconst 0, 1)) (k : oS G M p l e R s m args below meth c Z n0 (tgt + 1) L (.int (b1 (b < a)) :: S) h) : oS G M p l e R s m args below meth c Z n0 pc L (.int y :: .int x :: S) h := by
  refine t_icmp_le C tgt ht hx hy hd (fun q => ?_) (fun q => ?_)
  · refine r_iconstv C 0 rfl hd3 ?_
    rw [b1_f (by omega)] at k
    exact k
  · refine r_iconstv C 1 rfl hd1 (r_goto C (tgt + 1) (by omega) hd2 ?_)
    rw [b1_t q] at k
    exact k
theorem j_icmp_le1 (C : oC G M n0 nF p l R s m args meth c) {x y : Int32} {a b : Int} {off off2 : Int} (tgt : Nat) (ht : (pc : Int) + off = (tgt : Int)) (hJ : (pc : Int) + 4 + off2 = (tgt : Int) + 1) (hx : x.toInt = a) (hy : y.toInt = b) (hd : decode M.2.1 pc = .ok (.if_icmp .le off, 3)) (hd1 : decode M.2.1 (pc + 3) = .ok (.iconst 0, 1)) (hd2 : decode M.2.1 (pc + 4) = .ok (.goto off2, 3)) (hd3 : decode M.2.1 tgt = .ok (.iconst 1, 1)) (k : oS G M p l e R s m args below meth c Z n0 (tgt + 1) L (.int (b1 (a ≤ b)) :: S) h) : oS G M p l e R s m args below meth c Z n0 pc L (.int y :: .int x :: S) h := by
  refine t_icmp_le C tgt ht hx hy hd (fun q => ?_) (fun q => ?_)
  · refine r_iconstv C 1 rfl hd3 ?_
    rw [b1_t q] at k
    exact k
  · refine r_iconstv C 0 rfl hd1 (r_goto C (tgt + 1) (by omega) hd2 ?_)
    rw [b1_f (by omega)] at k
    exact k
theorem lg_cmp_cases {x y : Int64} {a b : Int} (hx : x.toInt = a) (hy : y.toInt = b) : (lg_cmp x y = 1 ∧ b < a) ∨ (lg_cmp x y = 0 ∧ a = b) ∨ (lg_cmp x y = -1 ∧ a < b) := by
  subst hx; subst hy
  unfold lg_cmp
  by_cases h1 : y < x
  · left
    rw [if_pos h1]
    exact ⟨rfl, Int64.lt_iff_toInt_lt.mp h1⟩
  · rw [if_neg h1]
    by_cases h2 : x = y
    · right; left
      rw [if_pos h2]
      exact ⟨rfl, congrArg Int64.toInt h2⟩
    · right; right
      rw [if_neg h2]
      refine ⟨rfl, ?_⟩
      have h3 : ¬ y.toInt < x.toInt := fun z => h1 (Int64.lt_iff_toInt_lt.mpr z)
      have h4 : ¬ x.toInt = y.toInt := fun z => h2 (Int64.toInt_inj.mp z)
      omega
theorem t_lcmp_eq (C : oC G M n0 nF p l R s m args meth c) {x y : Int64} {a b : Int} {off : Int} (tgt : Nat) (ht : (pc : Int) + off = (tgt : Int)) (hx : x.toInt = a) (hy : y.toInt = b) (hd : decode M.2.1 pc = .ok (.ifCond .eq off, 3)) (kt : a = b → oS G M p l e R s m args below meth c Z n0 tgt L S h) (kf : ¬ a = b → oS G M p l e R s m args below meth c Z n0 (pc + 3) L S h) : oS G M p l e R s m args below meth c Z n0 pc L (.int (lg_cmp x y) :: S) h := by
  have hc := lg_cmp_cases hx hy
  refine t_if_eq C tgt ht rfl hd (fun q => kt ?_) (fun q => kf ?_)
  · rcases hc with ⟨e, hl⟩ | ⟨e, hl⟩ | ⟨e, hl⟩ <;> rw [e] at q <;> first | omega | exact absurd q (by decide)
  · rcases hc with ⟨e, hl⟩ | ⟨e, hl⟩ | ⟨e, hl⟩ <;> rw [e] at q <;> first | omega | exact absurd q (by decide)
theorem t_lcmp_ne (C : oC G M n0 nF p l R s m args meth c) {x y : Int64} {a b : Int} {off : Int} (tgt : Nat) (ht : (pc : Int) + off = (tgt : Int)) (hx : x.toInt = a) (hy : y.toInt = b) (hd : decode M.2.1 pc = .ok (.ifCond .ne off, 3)) (kt : ¬ a = b → oS G M p l e R s m args below meth c Z n0 tgt L S h) (kf : a = b → oS G M p l e R s m args below meth c Z n0 (pc + 3) L S h) : oS G M p l e R s m args below meth c Z n0 pc L (.int (lg_cmp x y) :: S) h := by
  have hc := lg_cmp_cases hx hy
  refine t_if_ne C tgt ht rfl hd (fun q => kt ?_) (fun q => kf ?_)
  · rcases hc with ⟨e, hl⟩ | ⟨e, hl⟩ | ⟨e, hl⟩ <;> rw [e] at q <;> first | omega | exact absurd q (by decide)
  · rcases hc with ⟨e, hl⟩ | ⟨e, hl⟩ | ⟨e, hl⟩ <;> rw [e] at q <;> first | omega | exact absurd q (by decide)
theorem t_lcmp_lt (C : oC G M n0 nF p l R s m args meth c) {x y : Int64} {a b : Int} {off : Int} (tgt : Nat) (ht : (pc : Int) + off = (tgt : Int)) (hx : x.toInt = a) (hy : y.toInt = b) (hd : decode M.2.1 pc = .ok (.ifCond .lt off, 3)) (kt : a < b → oS G M p l e R s m args below meth c Z n0 tgt L S h) (kf : b ≤ a → oS G M p l e R s m args below meth c Z n0 (pc + 3) L S h) : oS G M p l e R s m args below meth c Z n0 pc L (.int (lg_cmp x y) :: S) h := by
  have hc := lg_cmp_cases hx hy
  refine t_if_lt C tgt ht rfl hd (fun q => kt ?_) (fun q => kf ?_)
  · rcases hc with ⟨e, hl⟩ | ⟨e, hl⟩ | ⟨e, hl⟩ <;> rw [e] at q <;> first | omega | exact absurd q (by decide)
  · rcases hc with ⟨e, hl⟩ | ⟨e, hl⟩ | ⟨e, hl⟩ <;> rw [e] at q <;> first | omega | exact absurd q (by decide)
theorem t_lcmp_ge (C : oC G M n0 nF p l R s m args meth c) {x y : Int64} {a b : Int} {off : Int} (tgt : Nat) (ht : (pc : Int) + off = (tgt : Int)) (hx : x.toInt = a) (hy : y.toInt = b) (hd : decode M.2.1 pc = .ok (.ifCond .ge off, 3)) (kt : b ≤ a → oS G M p l e R s m args below meth c Z n0 tgt L S h) (kf : a < b → oS G M p l e R s m args below meth c Z n0 (pc + 3) L S h) : oS G M p l e R s m args below meth c Z n0 pc L (.int (lg_cmp x y) :: S) h := by
  have hc := lg_cmp_cases hx hy
  refine t_if_ge C tgt ht rfl hd (fun q => kt ?_) (fun q => kf ?_)
  · rcases hc with ⟨e, hl⟩ | ⟨e, hl⟩ | ⟨e, hl⟩ <;> rw [e] at q <;> first | omega | exact absurd q (by decide)
  · rcases hc with ⟨e, hl⟩ | ⟨e, hl⟩ | ⟨e, hl⟩ <;> rw [e] at q <;> first | omega | exact absurd q (by decide)
theorem t_lcmp_gt (C : oC G M n0 nF p l R s m args meth c) {x y : Int64} {a b : Int} {off : Int} (tgt : Nat) (ht : (pc : Int) + off = (tgt : Int)) (hx : x.toInt = a) (hy : y.toInt = b) (hd : decode M.2.1 pc = .ok (.ifCond .gt off, 3)) (kt : b < a → oS G M p l e R s m args below meth c Z n0 tgt L S h) (kf : a ≤ b → oS G M p l e R s m args below meth c Z n0 (pc + 3) L S h) : oS G M p l e R s m args below meth c Z n0 pc L (.int (lg_cmp x y) :: S) h := by
  have hc := lg_cmp_cases hx hy
  refine t_if_gt C tgt ht rfl hd (fun q => kt ?_) (fun q => kf ?_)
  · rcases hc with ⟨e, hl⟩ | ⟨e, hl⟩ | ⟨e, hl⟩ <;> rw [e] at q <;> first | omega | exact absurd q (by decide)
  · rcases hc with ⟨e, hl⟩ | ⟨e, hl⟩ | ⟨e, hl⟩ <;> rw [e] at q <;> first | omega | exact absurd q (by decide)
theorem t_lcmp_le (C : oC G M n0 nF p l R s m args meth c) {x y : Int64} {a b : Int} {off : Int} (tgt : Nat) (ht : (pc : Int) + off = (tgt : Int)) (hx : x.toInt = a) (hy : y.toInt = b) (hd : decode M.2.1 pc = .ok (.ifCond .le off, 3)) (kt : a ≤ b → oS G M p l e R s m args below meth c Z n0 tgt L S h) (kf : b < a → oS G M p l e R s m args below meth c Z n0 (pc + 3) L S h) : oS G M p l e R s m args below meth c Z n0 pc L (.int (lg_cmp x y) :: S) h := by
  have hc := lg_cmp_cases hx hy
  refine t_if_le C tgt ht rfl hd (fun q => kt ?_) (fun q => kf ?_)
  · rcases hc with ⟨e, hl⟩ | ⟨e, hl⟩ | ⟨e, hl⟩ <;> rw [e] at q <;> first | omega | exact absurd q (by decide)
  · rcases hc with ⟨e, hl⟩ | ⟨e, hl⟩ | ⟨e, hl⟩ <;> rw [e] at q <;> first | omega | exact absurd q (by decide)
theorem t_ifb_eq (C : oC G M n0 nF p l R s m args meth c) {P : Prop} [Decidable P] {off : Int} (tgt : Nat) (ht : (pc : Int) + off = (tgt : Int)) (hd : decode M.2.1 pc = .ok (.ifCond .eq off, 3)) (kt : ¬ P → oS G M p l e R s m args below meth c Z n0 tgt L S h) (kf : P → oS G M p l e R s m args below meth c Z n0 (pc + 3) L S h) : oS G M p l e R s m args below meth c Z n0 pc L (.int (b1 P) :: S) h := r_if_eq C tgt ht hd (fun q => kt (b1_e0.mp q)) (fun q => kf (b1_n0.mp q))
theorem t_ifb_ne (C : oC G M n0 nF p l R s m args meth c) {P : Prop} [Decidable P] {off : Int} (tgt : Nat) (ht : (pc : Int) + off = (tgt : Int)) (hd : decode M.2.1 pc = .ok (.ifCond .ne off, 3)) (kt : P → oS G M p l e R s m args below meth c Z n0 tgt L S h) (kf : ¬ P → oS G M p l e R s m args below meth c Z n0 (pc + 3) L S h) : oS G M p l e R s m args below meth c Z n0 pc L (.int (b1 P) :: S) h := r_if_ne C tgt ht hd (fun q => kt (b1_n0.mp q)) (fun q => kf (b1_e0.mp q))
theorem r_getO (C : oC G M n0 nF p l R s m args meth c) {a b ci k idx : Nat} {ty : FieldType} (hd : decode M.2.1 pc = .ok (.getfield idx, 3)) (hf : oFL M.1.cls idx ci k ty) (hty : tyR ty = true) (ht : tg a = (0, ci)) (ha : a < h.1) (hr : hR h a k = some b) (kk : oS G M p l e R s m args below meth c Z n0 (pc + 3) L (.ref b :: S) h) : oS G M p l e R s m args below meth c Z n0 pc L (.ref a :: S) h := r_getR C hd hf hty ht ha hr kk
end OB
