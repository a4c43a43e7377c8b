/-! plans, the reference -/
def pO (G : oG) (h hf : oH) : Prop := hf.1 = h.1 ∧ ∀ (p : Program) (l : Launch) (e : Env) (R : Room) (s : State) (m : MethodId) (args : Array Value) (below : List Frame) (meth : Method) (c : Code) (Z : State → Prop) (n0 nF : Nat), oC G mX6_plans n0 nF p l R s m args meth c → h.1 ≤ nF → oS G mX6_plans p l e R s m args below meth c (Z) n0 59 [some (.ref 12), none, none] [] hf → oS G mX6_plans p l e R s m args below meth c (Z) n0 37 [some (.ref 12), none, none] [] h
def rwM (h : oH) (y : Nat) (x : Pl) : Prop := hI h 30 y = kI x.1 ∧ hI h 31 y = x.2.1 ∧ hI h 32 y = x.2.2.1 ∧ hI h 33 y = x.2.2.2
def mF (h hf : oH) (L : List Pl) (r : Option (Nat × Nat)) (j : Nat) : Prop := hf.1 = h.1 ∧ (∀ a y, hR hf a y = hR h a y) ∧ (∀ a y, hJ hf a y = hJ h a y) ∧ (∀ a y, ¬ (a = 12 ∧ 32 ≤ y ∧ y ≤ 38) → ¬ (30 ≤ a ∧ a ≤ 33) → hI hf a y = hI h a y) ∧ (∀ a y, 30 ≤ a → a ≤ 33 → y < j → hI hf a y = hI h a y) ∧ match r with
  | none => (hI hf 12 36).toInt = 0 ∧ (hI hf 12 38).toInt = ((j + L.length : Nat) : Int) ∧ ∀ i x, L[i]? = some x → rwM hf (j + i) x
  | some e => (hI hf 12 36).toInt = (e.1 : Int) ∧ (hI hf 12 37).toInt = (e.2 : Int)
theorem flP_f {T : Nat → Int} {z n q f s : Nat} (o : flP T z n q f s) : f = 1 ∨ f = 2 := by
  have kf : ∀ i, fa T z q i f s → f = 1 ∨ f = 2 := fun i e => Or.inl e.1
  rcases o with ⟨_, e⟩ | ⟨_, _, e⟩ | ⟨_, _, _, e, _⟩ | ⟨_, _, _, o⟩
  · exact kf 0 e
  · exact kf 1 e
  · exact Or.inr e
  · rcases o with ⟨_, e⟩ | ⟨_, _, e⟩ | ⟨_, _, e⟩ | ⟨_, _, _, e⟩ | ⟨_, _, e⟩ | ⟨_, _, _, e⟩ | ⟨_, _, _, _, e⟩ | ⟨_, _, _, _, _, e⟩ <;> exact kf _ e
theorem Prs_f {T : Nat → Int} {z n : Nat} {e : Nat × Nat} : ∀ (L : List Pl) {q : Nat}, Prs T z n L (some e) q → e.1 = 1 ∨ e.1 = 2
  | [], q, P => flP_f P.2
  | x :: L, q, P => by
    obtain ⟨q', o, P'⟩ := P
    exact Prs_f L P' 
set_option maxHeartbeats 4000000 in
set_option maxRecDepth 100000 in
theorem m_run (G : oG) {n z : Nat} {T : Nat → Int} {r : Option (Nat × Nat)} : ∀ (L : List Pl) {h : oH} {q j : Nat}, mS h z T n q j → j + L.length < 40 → Prs T z n L r q → ∃ hf, pO G h hf ∧ mF h hf L r j
  | [], h, q, j, M, hl, P => by
    have hs := M.1
    have hq := M.2.2.1
    have hf0 := M.2.2.2.2.1
    have hK := xKR (T := T) hq
    cases r with
    | none =>
      have hsr : (hI h 12 33).toInt = 1 := by
        have e1 := hK.1.mpr P
        have e2 := M.2.2.2.1.2.1
        omega
      refine ⟨h, ⟨rfl, fun p l e R s m args below meth c Z n0 nF C hF K => ?_⟩, rfl, fun _ _ => rfl, fun _ _ => rfl, fun _ _ _ _ => rfl, fun _ _ _ _ _ => rfl, hf0, M.2.2.2.2.2.2.2.1, fun i x q => by cases q⟩
      refine r_aload_n C rfl rfl dX6_plans_37 ?_
      refine r_getI C dX6_plans_38 fl_X6_230 rfl (q_lt hs (by decide)) ?_
      refine t_if_ne C 59 (by decide) hf0 dX6_plans_41 (fun c41 => absurd rfl c41) (fun c41 => ?_)
      refine r_aload_n C rfl rfl dX6_plans_44 ?_
      refine r_getI C dX6_plans_45 fl_X6_218 rfl (q_lt hs (by decide)) ?_
      refine r_iconstv C 1 rfl dX6_plans_48 ?_
      refine t_icmp_eq C 59 (by decide) hsr (show (1 : Int32).toInt = 1 from rfl) dX6_plans_49 (fun c49 => ?_) (fun c49 => absurd rfl c49)
      exact K
    | some ev =>
      obtain ⟨hf, t, o⟩ := r1fl G M P.2
      have hk0 : ¬ xR T z q = 1 := fun a => P.1 (hK.1.mp a)
      have hff := flP_f P.2
      refine ⟨hf, ⟨o.1, fun p l e R s m args below meth c Z n0 nF C hF K => ?_⟩, o.1, o.2.1, o.2.2.1, fun a y c1 _ => o.2.2.2.2.2 a y c1, fun a y c1 c2 _ => o.2.2.2.2.2 a y (by omega), o.2.2.2.1, o.2.2.2.2.1⟩
      refine r_aload_n C rfl rfl dX6_plans_37 ?_
      refine r_getI C dX6_plans_38 fl_X6_230 rfl (q_lt hs (by decide)) ?_
      refine t_if_ne C 59 (by decide) hf0 dX6_plans_41 (fun c41 => absurd rfl c41) (fun c41 => ?_)
      refine r_aload_n C rfl rfl dX6_plans_44 ?_
      refine r_getI C dX6_plans_45 fl_X6_218 rfl (q_lt hs (by decide)) ?_
      refine r_iconstv C 1 rfl dX6_plans_48 ?_
      refine t_icmp_eq C 59 (by decide) M.2.2.2.1.2.1 (show (1 : Int32).toInt = 1 from rfl) dX6_plans_49 (fun c49 => absurd c49 (by omega)) (fun c49 => ?_)
      refine r_aload_n C rfl rfl dX6_plans_52 ?_
      refine r_callV C (sp_one G t) kv_X6_readOne kn_X6_readOne rfl dX6_plans_53 cl_X6_268 ⟨Nat.le_of_ble_eq_true rfl, Nat.le_of_ble_eq_true rfl⟩ (by decide) rfl rfl (q_lt hs (by decide)) (by rw [o.1]; exact hF) rfl (Nat.le_of_ble_eq_true rfl) ?_
      refine r_goto C 37 (by decide) dX6_plans_56 ?_
      have hs : oSh hf := ⟨by rw [o.1]; exact hs.1, fun r hr => by rw [o.2.1]; exact hs.2 r hr⟩
      refine r_aload_n C rfl rfl dX6_plans_37 ?_
      refine r_getI C dX6_plans_38 fl_X6_230 rfl (q_lt hs (by decide)) ?_
      refine t_if_ne C 59 (by decide) o.2.2.2.1 dX6_plans_41 (fun c41 => ?_) (fun c41 => absurd c41 (by omega))
      exact K
  | x :: L, h, q, j, M, hl, P => by
    obtain ⟨q', o', P'⟩ := P
    have hs := M.1
    have hq := M.2.2.1
    have hf0 := M.2.2.2.2.1
    have hK := xKR (T := T) hq
    have hk0 : ¬ xR T z q = 1 := fun a => by
      have e1 := hK.1.mp a
      have e2 : xK T z q = 1 := o'.1
      omega
    rw [List.length_cons] at hl
    obtain ⟨h1, t, o⟩ := r1ok G M o'
    obtain ⟨a1, a2, a3, a4, a5, a6, a7, a8, a9⟩ := id o
    have hs1 : oSh h1 := ⟨by rw [a1]; exact hs.1, fun r hr => by rw [a2]; exact hs.2 r hr⟩
    have M1 : mS h1 z T n q' (j + 1) := ⟨hs1, M.2.1.fr (a9 12 31 (by omega) (by omega)) (fun j => a9 29 j (by omega) (by omega)), (okP_len hq o').2, a4, a5, by rw [a9 12 1 (by omega) (by omega)]; exact M.2.2.2.2.2.1, M.2.2.2.2.2.2.1, a6, by omega⟩
    obtain ⟨hf, ⟨b1, t1⟩, c1, c2, c3, c4, c5, c6⟩ := m_run G L M1 (by omega) P'
    refine ⟨hf, ⟨b1.trans a1, fun p l e R s m args below meth c Z n0 nF C hF K => ?_⟩, c1.trans a1, fun a y => (c2 a y).trans (a2 a y), fun a y => (c3 a y).trans (a3 a y), fun a y d1 d2 => (c4 a y d1 d2).trans (a9 a y d1 d2), fun a y d1 d2 d3 => (c5 a y d1 d2 (by omega)).trans (a8 a y d1 d2 (by omega)), ?_⟩
    · refine r_aload_n C rfl rfl dX6_plans_37 ?_
      refine r_getI C dX6_plans_38 fl_X6_230 rfl (q_lt hs (by decide)) ?_
      refine t_if_ne C 59 (by decide) hf0 dX6_plans_41 (fun c41 => absurd rfl c41) (fun c41 => ?_)
      refine r_aload_n C rfl rfl dX6_plans_44 ?_
      refine r_getI C dX6_plans_45 fl_X6_218 rfl (q_lt hs (by decide)) ?_
      refine r_iconstv C 1 rfl dX6_plans_48 ?_
      refine t_icmp_eq C 59 (by decide) M.2.2.2.1.2.1 (show (1 : Int32).toInt = 1 from rfl) dX6_plans_49 (fun c49 => absurd c49 (by omega)) (fun c49 => ?_)
      refine r_aload_n C rfl rfl dX6_plans_52 ?_
      refine r_callV C (sp_one G t) kv_X6_readOne kn_X6_readOne rfl dX6_plans_53 cl_X6_268 ⟨Nat.le_of_ble_eq_true rfl, Nat.le_of_ble_eq_true rfl⟩ (by decide) rfl rfl (q_lt hs (by decide)) (by rw [a1]; exact hF) rfl (Nat.le_of_ble_eq_true rfl) ?_
      refine r_goto C 37 (by decide) dX6_plans_56 ?_
      exact t1 p l e R s m args below meth c Z n0 nF C (by rw [a1]; exact hF) K
    · cases r with
      | none =>
        obtain ⟨d1, d2, d3⟩ := c6
        refine ⟨d1, by rw [d2, List.length_cons]; omega, fun i y q => ?_⟩
        cases i with
        | zero =>
          have e := Option.some.inj q
          rw [← e]
          unfold rwM
          rw [Nat.add_zero, c5 30 j (by decide) (by decide) (by omega), c5 31 j (by decide) (by decide) (by omega), c5 32 j (by decide) (by decide) (by omega), c5 33 j (by decide) (by decide) (by omega)]
          exact a7
        | succ i =>
          have := d3 i y q
          rw [show j + (i + 1) = j + 1 + i by omega]
          exact this
      | some ev => exact c6

def apS (h : oH) (x : Pl) : oH := sI (sI (sI h 24 x.1 x.2.1) 25 x.1 x.2.2.1) 26 x.1 x.2.2.2
def apH : oH → List Pl → oH
  | h, [] => h
  | h, x :: L => apH (apS h x) L
theorem apH_n : ∀ (L : List Pl) (h : oH), (apH h L).1 = h.1
  | [], _ => rfl
  | x :: L, h => apH_n L (apS h x)
theorem apH_R {a y : Nat} : ∀ (L : List Pl) (h : oH), hR (apH h L) a y = hR h a y
  | [], _ => rfl
  | x :: L, h => apH_R L (apS h x)
theorem apH_J {a y : Nat} : ∀ (L : List Pl) (h : oH), hJ (apH h L) a y = hJ h a y
  | [], _ => rfl
  | x :: L, h => apH_J L (apS h x)
theorem apS_o {h : oH} {x : Pl} {a y : Nat} (c1 : ¬ (24 ≤ a ∧ a ≤ 26 ∧ y = x.1)) : hI (apS h x) a y = hI h a y := by
  unfold apS
  rw [sI_ne (by omega), sI_ne (by omega), sI_ne (by omega)]
theorem apH_o {a y : Nat} : ∀ (L : List Pl) (h : oH), (¬ (24 ≤ a ∧ a ≤ 26) ∨ ∀ x, x ∈ L → y ≠ x.1) → hI (apH h L) a y = hI h a y
  | [], _, _ => rfl
  | x :: L, h, c1 => by
    show hI (apH (apS h x) L) a y = _
    rw [apH_o L (apS h x) (by
      rcases c1 with c1 | c1
      · exact Or.inl c1
      · exact Or.inr (fun y hy => c1 y (List.mem_cons_of_mem _ hy))), apS_o (by
      rcases c1 with c1 | c1
      · exact fun q => c1 ⟨q.1, q.2.1⟩
      · exact fun q => c1 x List.mem_cons_self q.2.2)]
theorem apH_p (i : Nat) : ∀ (L : List Pl) (h : oH), (hI (apH h L) 24 i, hI (apH h L) 25 i, hI (apH h L) 26 i) = plF L i (hI h 24 i, hI h 25 i, hI h 26 i)
  | [], _ => rfl
  | x :: L, h => by
    show (hI (apH (apS h x) L) 24 i, hI (apH (apS h x) L) 25 i, hI (apH (apS h x) L) 26 i) = plF L i (if x.1 = i then x.2 else _)
    rw [apH_p i L (apS h x)]
    by_cases e : x.1 = i
    · rw [if_pos e, ← e]
      have e1 : hI (apS h x) 24 x.1 = x.2.1 := by unfold apS; rw [sI_ne (by omega), sI_ne (by omega), sI_eq ⟨rfl, rfl⟩]
      have e2 : hI (apS h x) 25 x.1 = x.2.2.1 := by unfold apS; rw [sI_ne (by omega), sI_eq ⟨rfl, rfl⟩]
      have e3 : hI (apS h x) 26 x.1 = x.2.2.2 := by unfold apS; rw [sI_eq ⟨rfl, rfl⟩]
      rw [e1, e2, e3]
    · rw [if_neg e, apS_o (by omega), apS_o (by omega), apS_o (by omega)]
theorem apS_s {h : oH} {x : Pl} (hs : oSh h) : oSh (apS h x) := hs
set_option maxHeartbeats 4000000 in
set_option maxRecDepth 100000 in
theorem lp_ap (G : oG) {p : Program} {l : Launch} {e : Env} {R : Room} {s : State} {m : MethodId} {args : Array Value} {below : List Frame} {meth : Method} {c : Code} {n0 nF : Nat} (C : oC G mX6_plans n0 nF p l R s m args meth c) (v : Int32) : ∀ (L : List Pl) {h : oH} {i : Nat} {x1 : Int32} {t2 : Option Value}, oSh h → h.1 ≤ nF → x1.toInt = (i : Int) → hI h 12 38 = v → v.toInt = ((i + L.length : Nat) : Int) → i + L.length < 40 → (∀ k x, L[k]? = some x → rwM h (i + k) x) → (∀ x, x ∈ L → x.1 < 24) → oS G mX6_plans p l e R s m args below meth c (oZ G below args s n0 nF (some (.int v)) (apH h L)) n0 85 [some (.ref 12), some (.int x1), t2] [] h
  | [], h, i, x1, t2, hs, hF, h1, hv, hl, h40, hr, hx => by
    have hv2 : (hI h 12 38).toInt = (i : Int) := by rw [hv]; exact hl
    refine r_iload_n C rfl dX6_plans_85 ?_
    refine r_aload_n C rfl rfl dX6_plans_86 ?_
    refine r_getI C dX6_plans_87 fl_X6_265 rfl (q_lt hs (by decide)) ?_
    refine t_icmp_ge C 142 (by decide) h1 hv2 dX6_plans_90 (fun c90 => ?_) (fun c90 => absurd c90 (by omega))
    refine r_aload_n C rfl rfl dX6_plans_142 ?_
    refine r_getI C dX6_plans_143 fl_X6_265 rfl (q_lt hs (by decide)) ?_
    exact r_iret C dX6_plans_146 rfl hF (by rw [← hv]) rfl
  | x :: L, h, i, x1, t2, hs, hF, h1, hv, hl, h40, hr, hx => by
    rw [List.length_cons] at hl h40
    have hv2 : (hI h 12 38).toInt = ((i + (L.length + 1) : Nat) : Int) := by rw [hv]; exact hl
    obtain ⟨w0, w1, w2, w3⟩ := hr 0 x rfl
    rw [Nat.add_zero] at w0 w1 w2 w3
    have hx24 := hx x List.mem_cons_self
    have hxx : (kI x.1).toInt = (x.1 : Int) := kI_t (by omega)
    have w00 : (hI h 30 i).toInt = (x.1 : Int) := by rw [w0]; exact hxx
    refine r_iload_n C rfl dX6_plans_85 ?_
    refine r_aload_n C rfl rfl dX6_plans_86 ?_
    refine r_getI C dX6_plans_87 fl_X6_265 rfl (q_lt hs (by decide)) ?_
    refine t_icmp_ge C 142 (by decide) h1 hv2 dX6_plans_90 (fun c90 => absurd c90 (by omega)) (fun c90 => ?_)
    refine r_aload_n C rfl rfl dX6_plans_93 ?_
    refine r_getO C dX6_plans_94 fl_X6_75 rfl rfl (q_lt hs (by decide)) (sh_12_39 hs) ?_
    refine r_iload_n C rfl dX6_plans_97 ?_
    refine r_iald C (i) (by have t := h1; omega) (by omega) dX6_plans_98 rfl (q_lt hs (by decide)) ?_
    refine r_istore_n C rfl (Nat.le_of_ble_eq_true rfl) dX6_plans_99 ?_
    refine r_aload_n C rfl rfl dX6_plans_100 ?_
    refine r_getO C dX6_plans_101 fl_X6_44 rfl rfl (q_lt hs (by decide)) (sh_12_13 hs) ?_
    refine r_iload_n C rfl dX6_plans_104 ?_
    refine r_aload_n C rfl rfl dX6_plans_105 ?_
    refine r_getO C dX6_plans_106 fl_X6_78 rfl rfl (q_lt hs (by decide)) (sh_12_40 hs) ?_
    refine r_iload_n C rfl dX6_plans_109 ?_
    refine r_iald C (i) (by have t := h1; omega) (by omega) dX6_plans_110 rfl (q_lt hs (by decide)) ?_
    refine r_iast C (x.1) w00 hx24 dX6_plans_111 rfl (q_lt hs (by decide)) ?_
    refine r_aload_n C rfl rfl dX6_plans_112 ?_
    refine r_getO C dX6_plans_113 fl_X6_47 rfl rfl (q_lt hs (by decide)) (sh_12_14 hs) ?_
    refine r_iload_n C rfl dX6_plans_116 ?_
    refine r_aload_n C rfl rfl dX6_plans_117 ?_
    refine r_getO C dX6_plans_118 fl_X6_81 rfl rfl (q_lt hs (by decide)) (sh_12_41 hs) ?_
    refine r_iload_n C rfl dX6_plans_121 ?_
    refine r_iald C (i) (by have t := h1; omega) (by omega) dX6_plans_122 rfl (q_lt hs (by decide)) ?_
    refine r_iast C (x.1) w00 hx24 dX6_plans_123 rfl (q_lt hs (by decide)) ?_
    refine r_aload_n C rfl rfl dX6_plans_124 ?_
    refine r_getO C dX6_plans_125 fl_X6_50 rfl rfl (q_lt hs (by decide)) (sh_12_15 hs) ?_
    refine r_iload_n C rfl dX6_plans_128 ?_
    refine r_aload_n C rfl rfl dX6_plans_129 ?_
    refine r_getO C dX6_plans_130 fl_X6_84 rfl rfl (q_lt hs (by decide)) (sh_12_42 hs) ?_
    refine r_iload_n C rfl dX6_plans_133 ?_
    refine r_iald C (i) (by have t := h1; omega) (by omega) dX6_plans_134 rfl (q_lt hs (by decide)) ?_
    refine r_iast C (x.1) w00 hx24 dX6_plans_135 rfl (q_lt hs (by decide)) ?_
    refine r_iinc C rfl rfl (Nat.le_of_ble_eq_true rfl) dX6_plans_136 ?_
    refine r_goto C 85 (by decide) dX6_plans_139 ?_
    refine oS_h (h2 := apS h x) ?_ (lp_ap G C v L (i := i + 1) (apS_s hs) hF (by have t := tA h1 (show (Int32.ofInt 1).toInt = 1 from rfl) (by omega); omega) ((apS_o (by omega)).trans hv) (by rw [hl]; omega) (by omega) (fun k y q => ?_) (fun y hy => hx y (List.mem_cons_of_mem _ hy)))
    · show _ = sI (sI (sI h 24 x.1 x.2.1) 25 x.1 x.2.2.1) 26 x.1 x.2.2.2
      rw [← w1, ← w2, ← w3]
      rfl
    · have := hr (k + 1) y q
      unfold rwM at *
      rw [show i + 1 + k = i + (k + 1) by omega, apS_o (by omega), apS_o (by omega), apS_o (by omega), apS_o (by omega)]
      exact this

