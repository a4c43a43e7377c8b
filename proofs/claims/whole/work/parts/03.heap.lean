/-! fields -/
def clQ (ci : Nat) : vw_C := match ci with
  | 0 => (RX0, TX0, 2)
  | 1 => (RX1, TX1, 15)
  | 2 => (RX2, TX2, 3)
  | 3 => (RX3, TX3, 12)
  | 4 => (RX4, TX4, 7)
  | 5 => (RX5, TX5, 14)
  | _ => (RX6, TX6, 45)
theorem c7 {P : Nat → Prop} (h0 : P 0) (h1 : P 1) (h2 : P 2) (h3 : P 3) (h4 : P 4) (h5 : P 5) (h6 : P 6) {i : Nat} (h : i < 7) : P i := by
  match i, h with
  | 0, _ => exact h0
  | 1, _ => exact h1
  | 2, _ => exact h2
  | 3, _ => exact h3
  | 4, _ => exact h4
  | 5, _ => exact h5
  | 6, _ => exact h6
  | n + 7, h => omega
theorem clQ_ok {ci : Nat} (h : ci < 7) : vwCl[ci]? = some (clQ ci) := c7 (P := fun ci => vwCl[ci]? = some (clQ ci)) rfl rfl rfl rfl rfl rfl rfl h
theorem clQ_nf {ci : Nat} (h : ci < 7) : (clQ ci).2.2 = nf ci := c7 (P := fun ci => (clQ ci).2.2 = nf ci) rfl rfl rfl rfl rfl rfl rfl h
theorem clQ_in {ci : Nat} (h : ci < 7) : ∀ w ∈ u_ws (clQ ci).1 (clQ ci).2.1 (clQ ci).2.2, w ∈ oWL := c7 (P := fun ci => ∀ w ∈ u_ws (clQ ci).1 (clQ ci).2.1 (clQ ci).2.2, w ∈ oWL) inlX0 inlX1 inlX2 inlX3 inlX4 inlX5 inlX6 h
theorem clQ_ty {ci : Nat} (h : ci < 7) : ∀ k, k < (clQ ci).2.2 → parseFieldDescriptor ((clQ ci).2.1 k).2.2.1 = some (tyC ci k) := c7 (P := fun ci => ∀ k, k < (clQ ci).2.2 → parseFieldDescriptor ((clQ ci).2.1 k).2.2.1 = some (tyC ci k)) tyX0_ok tyX1_ok tyX2_ok tyX3_ok tyX4_ok tyX5_ok tyX6_ok h
theorem clQ_nm {ci : Nat} (h : ci < 7) : ∀ a, a < (clQ ci).2.2 → ∀ b, b < (clQ ci).2.2 → a ≠ b → ((clQ ci).2.1 a).2.1 ≠ ((clQ ci).2.1 b).2.1 := c7 (P := fun ci => ∀ a, a < (clQ ci).2.2 → ∀ b, b < (clQ ci).2.2 → a ≠ b → ((clQ ci).2.1 a).2.1 ≠ ((clQ ci).2.1 b).2.1) nmX0 nmX1 nmX2 nmX3 nmX4 nmX5 nmX6 h
def oFL (own : String) (idx ci k : Nat) (ty : FieldType) : Prop := ci < 7 ∧ k < nf ci ∧ tyC ci k = ty ∧ Cond.fieldLink own idx ((clQ ci).2.1 k).1 ((clQ ci).2.1 k).2.1 ((clQ ci).2.1 k).2.2.1 ∈ oWL
def tyR : FieldType → Bool
  | .object _ => true
  | .array _ => true
  | _ => false
theorem fv_int {G : oG} {ci : Nat} {h : oH} {a k : Nat} (hty : tyC ci k = .int) : fv G ci h a k = .int (hI h a k) := by unfold fv; rw [hty]
theorem fv_bool {G : oG} {ci : Nat} {h : oH} {a k : Nat} (hty : tyC ci k = .boolean) : fv G ci h a k = .int (hI h a k) := by unfold fv; rw [hty]
theorem fv_long {G : oG} {ci : Nat} {h : oH} {a k : Nat} (hty : tyC ci k = .long) : fv G ci h a k = .long (hJ h a k) := by unfold fv; rw [hty]
theorem fv_ref {G : oG} {ci : Nat} {h : oH} {a k : Nat} {ty : FieldType} (hty : tyC ci k = ty) (hr : tyR ty = true) : fv G ci h a k = va_rf ((hR h a k).map (fun i => G.1 + i)) := by
  unfold fv
  rw [hty]
  cases ty <;> first | rfl | exact absurd hr Bool.false_ne_true
theorem oE_obj {G : oG} {h : oH} {a ci : Nat} (ht : tg a = (0, ci)) : oE G h a = .inr (ci, (List.range (nf ci)).map (fv G ci h a)) := by unfold oE; rw [ht]; rfl
theorem fs_get {G : oG} {ci : Nat} {h : oH} {a k : Nat} (hk : k < nf ci) : ((List.range (nf ci)).map (fv G ci h a))[k]? = some (fv G ci h a k) := by rw [List.getElem?_map, List.getElem?_range hk]; rfl
theorem fs_set {G : oG} {ci : Nat} {h h' : oH} {a k : Nat} {v : Value} (hk : k < nf ci) (hv : fv G ci h' a k = v) (ho : ∀ j, j ≠ k → fv G ci h' a j = fv G ci h a j) : ((List.range (nf ci)).map (fv G ci h a)).set k v = (List.range (nf ci)).map (fv G ci h' a) := by
  apply List.ext_getElem?
  intro j
  by_cases hj : j < nf ci
  · rw [fs_get (h := h') hj]
    by_cases hjk : k = j
    · subst hjk
      rw [List.getElem?_set_self (by rw [List.length_map, List.length_range]; exact hk), hv]
    · rw [List.getElem?_set_ne hjk, fs_get hj, ho j (fun q => hjk q.symm)]
  · rw [List.getElem?_eq_none (by rw [List.length_set, List.length_map, List.length_range]; omega), List.getElem?_eq_none (by rw [List.length_map, List.length_range]; omega)]
theorem oV_rf (G : oG) (r : Option Nat) : oV G (va_rf r) = va_rf (r.map (fun i => G.1 + i)) := by cases r <;> rfl
def oQ (G : oG) (r : Option Value) (h : oH) : Array Value → State → Outcome → State → Prop := fun _ st o t => (o = .returned (r.map (oV G)) ∧ oRep G h t) ∧ va_F (fun q => G.1 ≤ q) st t
def oZ (G : oG) (below : List Frame) (args : Array Value) (s : State) (n0 nF : Nat) (r : Option Value) (h : oH) : State → Prop := MQ below (oQ G r h) args s (nF - n0) (sl nF - sl n0) (fun q => G.1 ≤ q)
/-- a method's contract: from the heap h with these arguments it answers r and leaves the heap h' -/
def oSp (G : oG) (M : oM) (as : List Value) (h : oH) (r : Option Value) (h' : oH) : Prop := h.1 ≤ h'.1 ∧ ∀ l : Launch, Met l M.1 (oW M) (oR M (h'.1 - h.1) (sl h'.1 - sl h.1)) (fun v U => v = (as.map (oV G)).toArray ∧ oRep G h U) (oQ G r h') (h'.1 - h.1) (sl h'.1 - sl h.1) (fun q => G.1 ≤ q)
def oFl : List Value → List (Option Value)
  | [] => []
  | v :: vs => if v.category = 2 then some v :: none :: oFl vs else some v :: oFl vs
def oEnt (as : List Value) (n : Nat) : List (Option Value) := oFl as ++ List.replicate (n - (oFl as).length) none
theorem oV_cat2 (G : oG) (v : Value) : (oV G v).category = v.category := by cases v <;> rfl
theorem oFl_len (G : oG) : ∀ as : List Value, (lg_sl (as.map (oV G))).length = (oFl as).length
  | [] => rfl
  | v :: vs => by
    have ih := oFl_len G vs
    simp only [lg_sl, List.map_cons, List.flatMap_cons, List.length_append, oV_cat2, oFl] at ih ⊢
    by_cases hc : v.category = 2
    · rw [if_pos hc, if_pos hc]
      simp only [List.length_cons, List.length_nil]
      omega
    · rw [if_neg hc, if_neg hc]
      simp only [List.length_cons, List.length_nil]
      omega
theorem oFl_args (G : oG) : ∀ (as : List Value) (b i : Nat) (v : Value), (oFl as)[i]? = some (some v) → (b + i, oV G v) ∈ lv_args b (as.map (oV G))
  | [], _, i, v, h => by simp [oFl] at h
  | w :: ws, b, i, v, h => by
    simp only [oFl] at h
    simp only [List.map_cons, lv_args, oV_cat2]
    by_cases hc : w.category = 2
    · rw [if_pos hc] at h ⊢
      match i, h with
      | 0, h =>
        simp only [List.getElem?_cons_zero, Option.some.injEq] at h
        rw [h]
        exact List.mem_cons_self
      | 1, h => simp at h
      | i + 2, h =>
        simp only [List.getElem?_cons_succ] at h
        have := oFl_args G ws (b + 2) i v h
        rw [show b + (i + 2) = b + 2 + i by omega]
        exact List.mem_cons_of_mem _ this
    · rw [if_neg hc] at h ⊢
      match i, h with
      | 0, h =>
        simp only [List.getElem?_cons_zero, Option.some.injEq] at h
        rw [h]
        exact List.mem_cons_self
      | i + 1, h =>
        simp only [List.getElem?_cons_succ] at h
        have := oFl_args G ws (b + 1) i v h
        rw [show b + (i + 1) = b + 1 + i by omega]
        exact List.mem_cons_of_mem _ this
theorem oEnt_ok (G : oG) {as : List Value} {n : Nat} (hn : (oFl as).length ≤ n) : oL G ((lg_sl (as.map (oV G)) ++ List.replicate (n - (lg_sl (as.map (oV G))).length) Slot.unset).toArray) n (oEnt as n) := by
  have h0 := lv_entry (as.map (oV G)) (n := n) (by rw [oFl_len]; exact hn)
  refine ⟨h0.1, h0.2.1, fun i v hi => ?_⟩
  have h1 : (oFl as)[i]? = some (some v) := by
    unfold oEnt at hi
    by_cases hl : i < (oFl as).length
    · rwa [List.getElem?_append_left hl] at hi
    · rw [List.getElem?_append_right (by omega)] at hi
      have := List.eq_of_mem_replicate (List.mem_of_getElem? hi)
      cases this
  have h2 := h0.2.2 _ (oFl_args G as 0 i v h1)
  rwa [Nat.zero_add] at h2
theorem oC.rep {G : oG} {M : oM} {n0 nF : Nat} {p : Program} {l : Launch} {R : Room} {s : State} {m : MethodId} {args : Array Value} {meth : Method} {c : Code} (C : oC G M n0 nF p l R s m args meth c) {h : oH} {H : Heap} {locs : List Loc} (hS : va_S (fun q => G.1 ≤ q) s.heap H locs) (hP : va_P G.2.1 vwCl (oWs G h) H) (hz : H.size = G.1 + h.1) : ∀ U : State, U.heap = H → s.WarmedH U.vm → oRep G h U := by
  obtain ⟨-, -, -, -, -, -, -, -, hK, hX, hXR, -⟩ := C
  intro U hU hW
  refine ⟨by rw [hU]; exact hP, by rw [hU]; exact hz, va_K.moved hW.alike hK, ?_, hXR.warm hW⟩
  rw [hU]
  exact (hX.kept hS.2.1).moved hW.alike
theorem Met.ofWF {l : Launch} {y : MethodName} {ws ws' : List Cond} {rm : Room} {Pc : Array Value → State → Prop} {Qc : Array Value → State → Outcome → State → Prop} {mc ms : Nat} {free : Addr → Prop} {cc : ByteArray} {maxL : Nat} {ret : Option FieldType}
    (hy : plainFor y = true) (hw : ws = Cond.code y cc maxL ret :: ws')
    (body : ∀ p e s m args below meth c s₁, BodyLoose p l y (headSpec ws rm) cc maxL ret e s m args below meth c s₁ → c.maxLocals = maxL → Pc args s →
      W p l e (headSpec ws rm).room s m args below meth c s.heap [] 0 0 (MQ below Qc args s mc ms free) (entryFrame m args maxL)) : Met l y ws rm Pc Qc mc ms free := by
  refine MetFree.of_bodySF (code := cc) (maxLocals := maxL) (ret := ret) hy ?_ ?_
  · intro args s m h hn
    obtain ⟨meth, c, h1, h2, h3, h4, h5, h6, -, -⟩ := Cond.code_spec hn (atoms_spec (ws := ws) h _ (by rw [hw]; exact List.mem_cons_self))
    exact ⟨meth, c, h1, h2, h3, h4, h5, h6⟩
  · intro p e s m args below meth c s₁ Bd hml hP _
    have hh0 : s₁.heap = s.heap := by rw [Bd.state]; rfl
    obtain ⟨t, a1, o, b1, b2, b3⟩ := body p e s m args below meth c s₁ Bd hml hP s₁ hh0 (Stand.of_body Bd)
    exact ⟨t, o, a1, b1, b2, ⟨b3.1, b3.2⟩⟩
theorem oSp.intro {G : oG} {M : oM} {as : List Value} {h : oH} {r : Option Value} {h' : oH} (L : List (Option Value)) (hL : oEnt as M.2.2.1 = L) (hn : (oFl as).length ≤ M.2.2.1) (hpl : plainFor M.1 = true) (hle : h.1 ≤ h'.1)
    (B : ∀ (p : Program) (l : Launch) (e : Env) (R : Room) (s : State) (m : MethodId) (args : Array Value) (below : List Frame) (meth : Method) (c : Code), oC G M h.1 h'.1 p l R s m args meth c → oS G M p l e R s m args below meth c (oZ G below args s h.1 h'.1 r h') h.1 0 L [] h) : oSp G M as h r h' := by
  refine ⟨hle, fun l => Met.ofWF (cc := M.2.1) (maxL := M.2.2.1) (ret := M.2.2.2.1) hpl rfl ?_⟩
  intro p e s m args below meth c s₁ Bd hml hv
  obtain ⟨rfl, hrep⟩ := hv
  have C : oC G M h.1 h'.1 p l (oR M (h'.1 - h.1) (sl h'.1 - sl h.1)) s m ((as.map (oV G)).toArray) meth c := ⟨Bd.exec, Bd.bytes, Bd.returns, hml, findClass_of_methodNamed Bd.named, fun w hw => atoms_spec (ws := oW M) Bd.pre w (List.mem_cons_of_mem _ hw), Bd.notSynchronized, (name_of_methodNamed Bd.named Bd.method).1, hrep.2.2.1, hrep.2.2.2.1, hrep.2.2.2.2, by rw [hrep.2.1]; exact Nat.le_add_right _ _, Nat.le_refl _, Nat.le_refl _, Nat.le_refl _, Nat.le_refl _⟩
  have k := B p l e (oR M (h'.1 - h.1) (sl h'.1 - sl h.1)) s m _ below meth c C s.heap [] _ va_S.rf hrep.1 hrep.2.1 (Nat.le_refl _) (hL ▸ oEnt_ok G hn)
  rw [Nat.sub_self, Nat.sub_self] at k
  rw [lg_entry_eq]
  exact k
theorem wsL_good : ∀ w ∈ oWL, goodWord w = true := fun w h => (List.mem_filter.mp h).2
theorem wsL_gin {ws : List Cond} (h : ∀ w ∈ ws, w ∈ oWL) : GoodIn oWL ws := fun w hw => ⟨h w hw, good_of_word (wsL_good w (h w hw))⟩
/-- what the tables say of a method: its code row; called by an object; static -/
def oMc (M : oM) : Prop := Cond.code M.1 M.2.1 M.2.2.1 M.2.2.2.1 ∈ oWL ∧ Cond.initialized M.1.cls ∈ oWL ∧ M.1.cls ≠ "java/lang/invoke/MethodHandle" ∧ M.1.cls ≠ "java/lang/invoke/VarHandle"
def oMi (M : oM) : Prop := oMc M ∧ Cond.instanceMethod M.1 ∈ oWL
def oMv (M : oM) : Prop := oMi M ∧ Cond.selects M.1.cls M.1 M.1 ∈ oWL
def oMs (M : oM) : Prop := oMc M ∧ Cond.static M.1 ∈ oWL
def oN (M : oM) (n : Nat) : Prop := (parseMethodDescriptor M.1.desc).map (fun d => d.parameters.length) = some n
def oFit (M N : oM) : Prop := N.2.2.2.2.1 + 1 ≤ M.2.2.2.2.1 ∧ 8 + (N.2.2.1 + 11) + N.2.2.2.2.2 ≤ M.2.2.2.2.2
section OHEAP
variable {G : oG} {M : oM} {p : Program} {l : Launch} {e : Env} {R : Room} {s : State} {m : MethodId} {args : Array Value} {below : List Frame} {meth : Method} {c : Code} {Z : State → Prop} {n0 nF pc : Nat} {L : List (Option Value)} {S : List Value} {h : oH}
theorem r_get (C : oC G M n0 nF p l R s m args meth c) {a ci k idx : Nat} {ty : FieldType} {v : Value} (hd : decode M.2.1 pc = .ok (.getfield idx, 3)) (hf : oFL M.1.cls idx ci k ty) (ht : tg a = (0, ci)) (ha : a < h.1) (hv : fv G ci h a k = oV G v) (kk : oS G M p l e R s m args below meth c Z n0 (pc + 3) L (v :: S) h) : oS G M p l e R s m args below meth c Z n0 pc L (.ref a :: S) h := fun H locs ls i1 i2 i3 i4 i5 => by
  obtain ⟨hc7, hk, -, hw⟩ := hf
  have k1 := kk H locs ls i1 i2 i3 i4 i5
  obtain ⟨x1, x2, -, -, x5, x6, -, -, hK, -⟩ := C
  refine va_get (own := M.1.cls) (C := (clQ ci).1) (T := (clQ ci).2.1) (N := (clQ ci).2.2) x1 x2 x6 (clQ_in hc7) x5 hK i2 a ((oWs_get ha).trans (congrArg (fun z => some (G.1 + a, z)) (oE_obj ht))) (clQ_ok hc7) k (by rw [clQ_nf hc7]; exact hk) (x6 _ hw) (fun _ q => q) (fs_get hk) hd ?_
  rw [hv]
  exact k1
theorem r_getI (C : oC G M n0 nF p l R s m args meth c) {a ci k idx : Nat} (hd : decode M.2.1 pc = .ok (.getfield idx, 3)) (hf : oFL M.1.cls idx ci k .int) (ht : tg a = (0, ci)) (ha : a < h.1) (kk : oS G M p l e R s m args below meth c Z n0 (pc + 3) L (.int (hI h a k) :: S) h) : oS G M p l e R s m args below meth c Z n0 pc L (.ref a :: S) h := r_get C hd hf ht ha (fv_int hf.2.2.1) kk
theorem r_getZ (C : oC G M n0 nF p l R s m args meth c) {a ci k idx : Nat} (hd : decode M.2.1 pc = .ok (.getfield idx, 3)) (hf : oFL M.1.cls idx ci k .boolean) (ht : tg a = (0, ci)) (ha : a < h.1) (kk : oS G M p l e R s m args below meth c Z n0 (pc + 3) L (.int (hI h a k) :: S) h) : oS G M p l e R s m args below meth c Z n0 pc L (.ref a :: S) h := r_get C hd hf ht ha (fv_bool hf.2.2.1) kk
theorem r_getJ (C : oC G M n0 nF p l R s m args meth c) {a ci k idx : Nat} (hd : decode M.2.1 pc = .ok (.getfield idx, 3)) (hf : oFL M.1.cls idx ci k .long) (ht : tg a = (0, ci)) (ha : a < h.1) (kk : oS G M p l e R s m args below meth c Z n0 (pc + 3) L (.long (hJ h a k) :: S) h) : oS G M p l e R s m args below meth c Z n0 pc L (.ref a :: S) h := r_get C hd hf ht ha (fv_long hf.2.2.1) kk
theorem r_getR (C : oC G M n0 nF p l R s m args meth c) {a ci k idx : Nat} {ty : FieldType} {r : Option Nat} (hd : decode M.2.1 pc = .ok (.getfield idx, 3)) (hf : oFL M.1.cls idx ci k ty) (hty : tyR ty = true) (ht : tg a = (0, ci)) (ha : a < h.1) (hr : hR h a k = r) (kk : oS G M p l e R s m args below meth c Z n0 (pc + 3) L (va_rf r :: S) h) : oS G M p l e R s m args below meth c Z n0 pc L (.ref a :: S) h := r_get C hd hf ht ha (by rw [fv_ref hf.2.2.1 hty, hr, oV_rf]) kk
theorem r_put (C : oC G M n0 nF p l R s m args meth c) {a ci k idx : Nat} {ty : FieldType} {v : Value} (h' : oH) (hd : decode M.2.1 pc = .ok (.putfield idx, 3)) (hf : oFL M.1.cls idx ci k ty) (ht : tg a = (0, ci)) (ha : a < h.1) (hfin : ((clQ ci).2.1 k).2.2.2 = false ∨ (((clQ ci).2.1 k).2.2.2 = true ∧ M.1.name = "<init>" ∧ ((clQ ci).2.1 k).1 = M.1.cls)) (hn : narrow ty (oV G v) = oV G v) (hfit : fits ty (oV G v) = true)
    (h1 : h'.1 = h.1) (hv : fv G ci h' a k = oV G v) (ho : ∀ j, j ≠ k → fv G ci h' a j = fv G ci h a j) (ho2 : ∀ j, j ≠ a → oE G h' j = oE G h j) (kk : oS G M p l e R s m args below meth c Z n0 (pc + 3) L S h') : oS G M p l e R s m args below meth c Z n0 pc L (v :: .ref a :: S) h := fun H locs ls i1 i2 i3 i4 i5 => by
  obtain ⟨hc7, hk, hty, hw⟩ := hf
  obtain ⟨x1, x2, -, -, x5, x6, -, x8, hK, -⟩ := C
  have e1 : (oWs G h).set a (G.1 + a, .inr (ci, ((List.range (nf ci)).map (fv G ci h a)).set k (oV G v))) = oWs G h' := oWs_set h1 ho2 (by rw [oE_obj ht, fs_set hk hv ho])
  have hk2 : k < (clQ ci).2.2 := by rw [clQ_nf hc7]; exact hk
  have hlen : k < ((List.range (nf ci)).map (fv G ci h a)).length := by rw [List.length_map, List.length_range]; exact hk
  have hd2 : parseFieldDescriptor ((clQ ci).2.1 k).2.2.1 = some ty := by rw [clQ_ty hc7 k hk2, hty]
  have kf : ∀ (H1 : Heap) (locs1 : List Loc), va_P G.2.1 vwCl ((oWs G h).set a (G.1 + a, .inr (ci, ((List.range (nf ci)).map (fv G ci h a)).set k (oV G v)))) H1 → va_S (fun q => G.1 ≤ q) s.heap H1 locs1 → H1.size = H.size → W p l e R s m args below meth c H1 locs1 (h.1 - n0) (sl h.1 - sl n0) Z (F0 m (pc + 3) ls (S.map (oV G))) := by
    intro H1 locs1 q1 q2 q3
    rw [e1] at q1
    have k1 := kk H1 locs1 ls q2 q1 (by rw [q3, i3, h1]) (by rw [h1]; exact i4) i5
    rw [h1] at k1
    exact k1
  have he := (oWs_get (G := G) ha).trans (congrArg (fun z => some (G.1 + a, z)) (oE_obj ht))
  obtain ⟨r0, hr1, cell, q1, q2, q3, q4⟩ := i2 a _ he
  have hr : r0 = clQ ci := Option.some.inj (hr1.symm.trans (clQ_ok hc7))
  subst hr
  have hap := va_apart (own := M.1.cls) x6 (clQ_in hc7) (tyC ci) (clQ_ty hc7) (clQ_nm hc7) hK (clQ_ok hc7)
  obtain ⟨hSl, hfc, kC, hkC, hkind⟩ := hK.1 ci _ (clQ_ok hc7)
  obtain ⟨cf, kf0, fi, f, hi, hsl⟩ := hSl k hk2
  have hst := (u_facts hfc hkC (u_lays x6 (clQ_in hc7) hk2) hi).1
  have hlay := x6 _ (clQ_in hc7 _ (u_in_lay hk2))
  rcases hfin with hfin | ⟨hfin, hin2, hdecl⟩
  · unfold u_lay at hlay
    rw [if_neg (by rw [hfin]; decide)] at hlay
    have h6 := u_store hfc hkC hkind hlay hi hd2 hn hfit
    refine W.putK x1 x2 (f := f) ⟨x5, x6 _ hw, ⟨_, _, _, hi⟩, hst⟩ (by rw [q2]; exact h6) q1 q3 (by rw [hsl]; exact k2_hasslot (q4 k hk2)) rfl rfl hd fun H' e1' e2' e3' => ?_
    rw [hsl] at e1' ⊢
    exact kf H' _ (i2.set (oWs_D G h) he ⟨_, clQ_ok hc7, t_OB.to (V := updV (vp_V ((List.range (nf ci)).map (fv G ci h a))) k (oV G v)) ⟨_, e1', q2, q3, t_set q4 hap hk2 _⟩ (fun j _ => vp_updV_set hlen _ j)⟩ e3') (i1.put e2' e3' ((oWs_D G h).2 a _ he)) e2'
  · unfold u_lay at hlay
    rw [if_pos hfin] at hlay
    have hcf : m.cls = cf := by
      obtain ⟨_, _, c', _, _, _, -, -, hf', -, -, -, hown2, -⟩ := Cond.laysFinal_spec hlay
      have e1 : c' = cf := by have := hi.symm.trans hf'; simp at this; exact this.1.symm
      rw [hdecl] at hown2
      rw [← e1]; exact Option.some.inj (x5.symm.trans hown2)
    have h6 := u_fits hfc hkC hkind (Or.inr hlay) hi hd2 hn hfit
    refine W.putFinK x1 x2 x5 (x6 _ hw) hi hst hcf (x8.trans hin2) (by rw [q2]; exact h6) q1 q3 (by rw [hsl]; exact k2_hasslot (q4 k hk2)) rfl rfl hd fun H' e1' e2' e3' => ?_
    rw [hsl] at e1' ⊢
    exact kf H' _ (i2.set (oWs_D G h) he ⟨_, clQ_ok hc7, t_OB.to (V := updV (vp_V ((List.range (nf ci)).map (fv G ci h a))) k (oV G v)) ⟨_, e1', q2, q3, t_set q4 hap hk2 _⟩ (fun j _ => vp_updV_set hlen _ j)⟩ e3') (i1.put e2' e3' ((oWs_D G h).2 a _ he)) e2'
theorem r_putI (C : oC G M n0 nF p l R s m args meth c) {a ci k idx : Nat} {x : Int32} (hd : decode M.2.1 pc = .ok (.putfield idx, 3)) (hf : oFL M.1.cls idx ci k .int) (ht : tg a = (0, ci)) (ha : a < h.1) (hfin : ((clQ ci).2.1 k).2.2.2 = false ∨ (((clQ ci).2.1 k).2.2.2 = true ∧ M.1.name = "<init>" ∧ ((clQ ci).2.1 k).1 = M.1.cls)) (kk : oS G M p l e R s m args below meth c Z n0 (pc + 3) L S (sI h a k x)) : oS G M p l e R s m args below meth c Z n0 pc L (.int x :: .ref a :: S) h :=
  r_put C (sI h a k x) hd hf ht ha hfin rfl rfl rfl ((fv_int hf.2.2.1).trans (by rw [hI_sI, if_pos ⟨rfl, rfl⟩]; rfl)) (fun j hj => by simp only [fv, hI_sI, hJ_sI, hR_sI]; rw [if_neg (fun q => hj q.2)]) (fun j hj => oE_ext (fun k => by rw [hI_sI, if_neg (fun q => hj q.1)]) (fun k => rfl) (fun k => rfl)) kk
theorem r_putZ (C : oC G M n0 nF p l R s m args meth c) {a ci k idx : Nat} {x : Int32} (hd : decode M.2.1 pc = .ok (.putfield idx, 3)) (hf : oFL M.1.cls idx ci k .boolean) (ht : tg a = (0, ci)) (ha : a < h.1) (hfin : ((clQ ci).2.1 k).2.2.2 = false ∨ (((clQ ci).2.1 k).2.2.2 = true ∧ M.1.name = "<init>" ∧ ((clQ ci).2.1 k).1 = M.1.cls)) (hx : narrow .boolean (.int x) = .int x ∧ fits .boolean (.int x) = true) (kk : oS G M p l e R s m args below meth c Z n0 (pc + 3) L S (sI h a k x)) : oS G M p l e R s m args below meth c Z n0 pc L (.int x :: .ref a :: S) h :=
  r_put C (sI h a k x) hd hf ht ha hfin hx.1 hx.2 rfl ((fv_bool hf.2.2.1).trans (by rw [hI_sI, if_pos ⟨rfl, rfl⟩]; rfl)) (fun j hj => by simp only [fv, hI_sI, hJ_sI, hR_sI]; rw [if_neg (fun q => hj q.2)]) (fun j hj => oE_ext (fun k => by rw [hI_sI, if_neg (fun q => hj q.1)]) (fun k => rfl) (fun k => rfl)) kk
theorem r_putJ (C : oC G M n0 nF p l R s m args meth c) {a ci k idx : Nat} {x : Int64} (hd : decode M.2.1 pc = .ok (.putfield idx, 3)) (hf : oFL M.1.cls idx ci k .long) (ht : tg a = (0, ci)) (ha : a < h.1) (hfin : ((clQ ci).2.1 k).2.2.2 = false ∨ (((clQ ci).2.1 k).2.2.2 = true ∧ M.1.name = "<init>" ∧ ((clQ ci).2.1 k).1 = M.1.cls)) (kk : oS G M p l e R s m args below meth c Z n0 (pc + 3) L S (sJ h a k x)) : oS G M p l e R s m args below meth c Z n0 pc L (.long x :: .ref a :: S) h :=
  r_put C (sJ h a k x) hd hf ht ha hfin rfl rfl rfl ((fv_long hf.2.2.1).trans (by rw [hJ_sJ, if_pos ⟨rfl, rfl⟩]; rfl)) (fun j hj => by simp only [fv, hI_sJ, hJ_sJ, hR_sJ]; rw [if_neg (fun q => hj q.2)]) (fun j hj => oE_ext (fun k => rfl) (fun k => by rw [hJ_sJ, if_neg (fun q => hj q.1)]) (fun k => rfl)) kk
theorem r_putR (C : oC G M n0 nF p l R s m args meth c) {a ci k idx : Nat} {ty : FieldType} {v : Value} (r : Option Nat) (hv : v = va_rf r) (hd : decode M.2.1 pc = .ok (.putfield idx, 3)) (hf : oFL M.1.cls idx ci k ty) (hty : tyR ty = true) (ht : tg a = (0, ci)) (ha : a < h.1) (hfin : ((clQ ci).2.1 k).2.2.2 = false ∨ (((clQ ci).2.1 k).2.2.2 = true ∧ M.1.name = "<init>" ∧ ((clQ ci).2.1 k).1 = M.1.cls)) (kk : oS G M p l e R s m args below meth c Z n0 (pc + 3) L S (sR h a k r)) : oS G M p l e R s m args below meth c Z n0 pc L (v :: .ref a :: S) h := by
  subst hv
  have hnf : narrow ty (oV G (va_rf r)) = oV G (va_rf r) ∧ fits ty (oV G (va_rf r)) = true := by
    cases ty <;> first | exact absurd hty Bool.false_ne_true | (cases r <;> exact ⟨rfl, rfl⟩)
  exact r_put C (sR h a k r) hd hf ht ha hfin hnf.1 hnf.2 rfl ((fv_ref hf.2.2.1 hty).trans (by rw [hR_sR, if_pos ⟨rfl, rfl⟩, oV_rf])) (fun j hj => by simp only [fv, hI_sR, hJ_sR, hR_sR]; rw [if_neg (fun q => hj q.2)]) (fun j hj => oE_ext (fun k => rfl) (fun k => rfl) (fun k => by rw [hR_sR, if_neg (fun q => hj q.1)])) kk
/-! arrays -/
theorem oE_i {a n : Nat} (ht : tg a = (1, n)) : oE G h a = .inl (G.2.2.1 0, n, .inl (hI h a)) := by unfold oE; rw [ht]; rfl
theorem oE_b {a n : Nat} (ht : tg a = (2, n)) : oE G h a = .inl (G.2.2.1 1, n, .inl (hI h a)) := by unfold oE; rw [ht]; rfl
theorem oE_z {a n : Nat} (ht : tg a = (3, n)) : oE G h a = .inl (G.2.2.1 2, n, .inl (hI h a)) := by unfold oE; rw [ht]; rfl
theorem oE_q {a n : Nat} (ht : tg a = (4, n)) : oE G h a = .inl (G.2.2.1 3, n, .inr (.inr (.inr (.inr (fun j => (hR h a j).map (fun i => G.1 + i)))))) := by unfold oE; rw [ht]; rfl
theorem r_alen (C : oC G M n0 nF p l R s m args meth c) {a t n : Nat} (v : Int32) (hd : decode M.2.1 pc = .ok (.arraylength, 1)) (ht : tg a = (t, n)) (h0 : t = 1 ∨ t = 2 ∨ t = 3 ∨ t = 4) (ha : a < h.1) (hv : Int32.ofNat n = v) (kk : oS G M p l e R s m args below meth c Z n0 (pc + 1) L (.int v :: S) h) : oS G M p l e R s m args below meth c Z n0 pc L (.ref a :: S) h := fun H locs ls i1 i2 i3 i4 i5 => by
  have k1 := kk H locs ls i1 i2 i3 i4 i5
  obtain ⟨x1, x2, -, -, x5, x6, -, -, hK, -⟩ := C
  rcases h0 with rfl | rfl | rfl | rfl
  · exact va_alen x1 x2 hK i2 a 0 ((oWs_get ha).trans (congrArg (fun z => some (G.1 + a, z)) (oE_i ht))) rfl hv hd k1
  · exact va_alen x1 x2 hK i2 a 1 ((oWs_get ha).trans (congrArg (fun z => some (G.1 + a, z)) (oE_b ht))) rfl hv hd k1
  · exact va_alen x1 x2 hK i2 a 2 ((oWs_get ha).trans (congrArg (fun z => some (G.1 + a, z)) (oE_z ht))) rfl hv hd k1
  · exact va_alen x1 x2 hK i2 a 3 ((oWs_get ha).trans (congrArg (fun z => some (G.1 + a, z)) (oE_q ht))) rfl hv hd k1
theorem vin_of {i : Int32} {j n : Nat} (hi : i.toInt = j) (hj : j < n) : vp_in i n ∧ i.toNatClampNeg = j := by
  have e : i.toNatClampNeg = j := by show i.toInt.toNat = j; omega
  refine ⟨fun q => ?_, e⟩
  rcases q with q | q
  · have := Int32.lt_iff_toInt_lt.mp q
    simp only [Int32.toInt_zero] at this
    omega
  · omega
theorem r_iald (C : oC G M n0 nF p l R s m args meth c) {a n : Nat} {i : Int32} (j : Nat) (hi : i.toInt = j) (hj : j < n) (hd : decode M.2.1 pc = .ok (.iaload, 1)) (ht : tg a = (1, n)) (ha : a < h.1) (kk : oS G M p l e R s m args below meth c Z n0 (pc + 1) L (.int (hI h a j) :: S) h) : oS G M p l e R s m args below meth c Z n0 pc L (.int i :: .ref a :: S) h := fun H locs ls i1 i2 i3 i4 i5 => by
  have k1 := kk H locs ls i1 i2 i3 i4 i5
  obtain ⟨x1, x2, -, -, x5, x6, -, -, hK, -⟩ := C
  obtain ⟨g1, g2⟩ := vin_of hi hj
  refine va_iald x1 x2 hK i2 a 0 ((oWs_get ha).trans (congrArg (fun z => some (G.1 + a, z)) (oE_i ht))) rfl g1 hd ?_
  rw [g2]
  exact k1
theorem r_bald (C : oC G M n0 nF p l R s m args meth c) {a n : Nat} {i : Int32} (j : Nat) (hi : i.toInt = j) (hj : j < n) (hd : decode M.2.1 pc = .ok (.baload, 1)) (ht : tg a = (2, n)) (ha : a < h.1) (kk : oS G M p l e R s m args below meth c Z n0 (pc + 1) L (.int (hI h a j) :: S) h) : oS G M p l e R s m args below meth c Z n0 pc L (.int i :: .ref a :: S) h := fun H locs ls i1 i2 i3 i4 i5 => by
  have k1 := kk H locs ls i1 i2 i3 i4 i5
  obtain ⟨x1, x2, -, -, x5, x6, -, -, hK, -⟩ := C
  obtain ⟨g1, g2⟩ := vin_of hi hj
  refine va_bald x1 x2 hK i2 a 1 ((oWs_get ha).trans (congrArg (fun z => some (G.1 + a, z)) (oE_b ht))) rfl g1 hd ?_
  rw [g2]
  exact k1
theorem r_zald (C : oC G M n0 nF p l R s m args meth c) {a n : Nat} {i : Int32} (j : Nat) (hi : i.toInt = j) (hj : j < n) (hd : decode M.2.1 pc = .ok (.baload, 1)) (ht : tg a = (3, n)) (ha : a < h.1) (kk : oS G M p l e R s m args below meth c Z n0 (pc + 1) L (.int (hI h a j) :: S) h) : oS G M p l e R s m args below meth c Z n0 pc L (.int i :: .ref a :: S) h := fun H locs ls i1 i2 i3 i4 i5 => by
  have k1 := kk H locs ls i1 i2 i3 i4 i5
  obtain ⟨x1, x2, -, -, x5, x6, -, -, hK, -⟩ := C
  obtain ⟨g1, g2⟩ := vin_of hi hj
  refine va_zald x1 x2 hK i2 a 2 ((oWs_get ha).trans (congrArg (fun z => some (G.1 + a, z)) (oE_z ht))) rfl g1 hd ?_
  rw [g2]
  exact k1
theorem r_aald (C : oC G M n0 nF p l R s m args meth c) {a n : Nat} {i : Int32} {r : Option Nat} (j : Nat) (hi : i.toInt = j) (hj : j < n) (hd : decode M.2.1 pc = .ok (.aaload, 1)) (ht : tg a = (4, n)) (ha : a < h.1) (hr : hR h a j = r) (kk : oS G M p l e R s m args below meth c Z n0 (pc + 1) L (va_rf r :: S) h) : oS G M p l e R s m args below meth c Z n0 pc L (.int i :: .ref a :: S) h := fun H locs ls i1 i2 i3 i4 i5 => by
  have k1 := kk H locs ls i1 i2 i3 i4 i5
  obtain ⟨x1, x2, -, -, x5, x6, -, -, hK, -⟩ := C
  obtain ⟨g1, g2⟩ := vin_of hi hj
  refine va_aldq x1 x2 hK i2 a 3 ((oWs_get ha).trans (congrArg (fun z => some (G.1 + a, z)) (oE_q ht))) rfl g1 hd ?_
  rw [g2, hr, ← oV_rf]
  exact k1
theorem set_sz {A : Nat → Prop} {H0 H H1 : Heap} {D : va_G} {ws : va_W} (z : H1.size = H.size) : H1.size = H.size := z
theorem r_iast (C : oC G M n0 nF p l R s m args meth c) {a n : Nat} {i x : Int32} (j : Nat) (hi : i.toInt = j) (hj : j < n) (hd : decode M.2.1 pc = .ok (.iastore, 1)) (ht : tg a = (1, n)) (ha : a < h.1) (kk : oS G M p l e R s m args below meth c Z n0 (pc + 1) L S (sI h a j x)) : oS G M p l e R s m args below meth c Z n0 pc L (.int x :: .int i :: .ref a :: S) h := fun H locs ls i1 i2 i3 i4 i5 => by
  obtain ⟨x1, x2, -, -, x5, x6, -, -, hK, -⟩ := C
  obtain ⟨g1, g2⟩ := vin_of hi hj
  have he := (oWs_get (G := G) ha).trans (congrArg (fun z => some (G.1 + a, z)) (oE_i ht))
  refine W.iast x1 x2 (i2 a _ he) ((hK.2 0 _ rfl).1 n (fun j => .int (hI h a j))) (fun q => by cases q) (by show ¬ (i < 0 ∨ (arrV _ _ _).slots.size ≤ _); rw [arrV_size]; exact g1) rfl rfl hd fun H1 e1 z1 oq => ?_
  have e0 : upd (hI h a) j x = hI (sI h a j x) a := funext fun k => by
    rw [hI_sI]
    by_cases hk : k = j
    · rw [if_pos ⟨rfl, hk⟩]; simp [upd, hk]
    · rw [if_neg (fun q => hk q.2)]; simp [upd, hk]
  have e2 : (oWs G h).set a (G.1 + a, .inl (G.2.2.1 0, n, .inl (upd (hI h a) j x))) = oWs G (sI h a j x) := by
    rw [e0]
    exact oWs_set (h := h) (h' := sI h a j x) rfl (fun b hb => oE_ext (h := h) (h' := sI h a j x) (fun k => by rw [hI_sI, if_neg (fun q => hb q.1)]) (fun k => rfl) (fun k => rfl)) (oE_i (G := G) (h := sI h a j x) ht).symm
  have q1 : va_P G.2.1 vwCl ((oWs G h).set a (G.1 + a, .inl (G.2.2.1 0, n, .inl (upd (hI h a) j x)))) H1 := i2.set (oWs_D G h) he (by
    show H1[G.1 + a]? = some (vp_cell _ _)
    rw [e1]
    show some ((vp_cell _ _).setSlot _ _) = _
    rw [vp_cell_i, vp_cell_i, arrV_store, g2]
    congr 2
    funext q
    by_cases hq : q = j
    · subst hq
      simp [updV, upd]
    · simp [updV, upd, hq]) oq
  rw [e2] at q1
  exact kk H1 _ ls (i1.put z1 oq ((oWs_D G h).2 a _ he)) q1 (by rw [z1, i3]; rfl) i4 i5
theorem r_bast (C : oC G M n0 nF p l R s m args meth c) {a n : Nat} {i x : Int32} (j : Nat) (y : Int32) (hy : narrow .byte (.int x) = .int y) (hi : i.toInt = j) (hj : j < n) (hd : decode M.2.1 pc = .ok (.bastore, 1)) (ht : tg a = (2, n)) (ha : a < h.1) (kk : oS G M p l e R s m args below meth c Z n0 (pc + 1) L S (sI h a j y)) : oS G M p l e R s m args below meth c Z n0 pc L (.int x :: .int i :: .ref a :: S) h := fun H locs ls i1 i2 i3 i4 i5 => by
  obtain ⟨x1, x2, -, -, x5, x6, -, -, hK, -⟩ := C
  obtain ⟨g1, g2⟩ := vin_of hi hj
  have he := (oWs_get (G := G) ha).trans (congrArg (fun z => some (G.1 + a, z)) (oE_b ht))
  refine W.bast x1 x2 (i2 a _ he) ((hK.2 1 _ rfl).1 n (fun j => .int (hI h a j))) (fun q => by cases q) (by show ¬ (i < 0 ∨ (arrV _ _ _).slots.size ≤ _); rw [arrV_size]; exact g1) rfl rfl hd fun H1 e1 z1 oq => ?_
  have e0 : upd (hI h a) j y = hI (sI h a j y) a := funext fun k => by
    rw [hI_sI]
    by_cases hk : k = j
    · rw [if_pos ⟨rfl, hk⟩]; simp [upd, hk]
    · rw [if_neg (fun q => hk q.2)]; simp [upd, hk]
  have e2 : (oWs G h).set a (G.1 + a, .inl (G.2.2.1 1, n, .inl (upd (hI h a) j y))) = oWs G (sI h a j y) := by
    rw [e0]
    exact oWs_set (h := h) (h' := sI h a j y) rfl (fun b hb => oE_ext (h := h) (h' := sI h a j y) (fun k => by rw [hI_sI, if_neg (fun q => hb q.1)]) (fun k => rfl) (fun k => rfl)) (oE_b (G := G) (h := sI h a j y) ht).symm
  have q1 : va_P G.2.1 vwCl ((oWs G h).set a (G.1 + a, .inl (G.2.2.1 1, n, .inl (upd (hI h a) j y)))) H1 := i2.set (oWs_D G h) he (by
    show H1[G.1 + a]? = some (vp_cell _ _)
    rw [e1, hy]
    show some ((vp_cell _ _).setSlot _ _) = _
    rw [vp_cell_i, vp_cell_i, arrV_store, g2]
    congr 2
    funext q
    by_cases hq : q = j
    · subst hq
      simp [updV, upd]
    · simp [updV, upd, hq]) oq
  rw [e2] at q1
  exact kk H1 _ ls (i1.put z1 oq ((oWs_D G h).2 a _ he)) q1 (by rw [z1, i3]; rfl) i4 i5
theorem r_zast (C : oC G M n0 nF p l R s m args meth c) {a n : Nat} {i x : Int32} (j : Nat) (y : Int32) (hy : narrow .boolean (.int x) = .int y) (hi : i.toInt = j) (hj : j < n) (hd : decode M.2.1 pc = .ok (.bastore, 1)) (ht : tg a = (3, n)) (ha : a < h.1) (kk : oS G M p l e R s m args below meth c Z n0 (pc + 1) L S (sI h a j y)) : oS G M p l e R s m args below meth c Z n0 pc L (.int x :: .int i :: .ref a :: S) h := fun H locs ls i1 i2 i3 i4 i5 => by
  obtain ⟨x1, x2, -, -, x5, x6, -, -, hK, -⟩ := C
  obtain ⟨g1, g2⟩ := vin_of hi hj
  have he := (oWs_get (G := G) ha).trans (congrArg (fun z => some (G.1 + a, z)) (oE_z ht))
  refine W.zast x1 x2 (i2 a _ he) ((hK.2 2 _ rfl).1 n (fun j => .int (hI h a j))) (fun q => by cases q) (by show ¬ (i < 0 ∨ (arrV _ _ _).slots.size ≤ _); rw [arrV_size]; exact g1) rfl rfl hd fun H1 e1 z1 oq => ?_
  have e0 : upd (hI h a) j y = hI (sI h a j y) a := funext fun k => by
    rw [hI_sI]
    by_cases hk : k = j
    · rw [if_pos ⟨rfl, hk⟩]; simp [upd, hk]
    · rw [if_neg (fun q => hk q.2)]; simp [upd, hk]
  have e2 : (oWs G h).set a (G.1 + a, .inl (G.2.2.1 2, n, .inl (upd (hI h a) j y))) = oWs G (sI h a j y) := by
    rw [e0]
    exact oWs_set (h := h) (h' := sI h a j y) rfl (fun b hb => oE_ext (h := h) (h' := sI h a j y) (fun k => by rw [hI_sI, if_neg (fun q => hb q.1)]) (fun k => rfl) (fun k => rfl)) (oE_z (G := G) (h := sI h a j y) ht).symm
  have q1 : va_P G.2.1 vwCl ((oWs G h).set a (G.1 + a, .inl (G.2.2.1 2, n, .inl (upd (hI h a) j y)))) H1 := i2.set (oWs_D G h) he (by
    show H1[G.1 + a]? = some (vp_cell _ _)
    rw [e1, hy]
    show some ((vp_cell _ _).setSlot _ _) = _
    rw [vp_cell_i, vp_cell_i, arrV_store, g2]
    congr 2
    funext q
    by_cases hq : q = j
    · subst hq
      simp [updV, upd]
    · simp [updV, upd, hq]) oq
  rw [e2] at q1
  exact kk H1 _ ls (i1.put z1 oq ((oWs_D G h).2 a _ he)) q1 (by rw [z1, i3]; rfl) i4 i5
/-- a house into the row of houses -/
theorem r_aast (C : oC G M n0 nF p l R s m args meth c) {a b n : Nat} {i : Int32} (j : Nat) (hi : i.toInt = j) (hj : j < n) (hd : decode M.2.1 pc = .ok (.aastore, 1)) (ht : tg a = (4, n)) (ha : a < h.1) (htb : tg b = (0, 1)) (hb : b < h.1) (kk : oS G M p l e R s m args below meth c Z n0 (pc + 1) L S (sR h a j (some b))) : oS G M p l e R s m args below meth c Z n0 pc L (.ref b :: .int i :: .ref a :: S) h := fun H locs ls i1 i2 i3 i4 i5 => by
  obtain ⟨x1, x2, -, -, x5, x6, -, -, hK, -⟩ := C
  obtain ⟨g1, g2⟩ := vin_of hi hj
  have he := (oWs_get (G := G) ha).trans (congrArg (fun z => some (G.1 + a, z)) (oE_q ht))
  have heb := (oWs_get (G := G) hb).trans (congrArg (fun z => some (G.1 + b, z)) (oE_obj htb))
  obtain ⟨r', hr', cellV, w1, w2, w3, -⟩ := i2 b _ heb
  have hcls := (hK.1 1 _ (clQ_ok (by decide))).2
  obtain ⟨kA, comp, k1, k2, k3, -⟩ := (hK.2 3 _ rfl).2
  have hcomp : comp = G.2.1.1 1 := Option.some.inj (k3.symm.trans hcls.1)
  subst hcomp
  obtain ⟨kC, hkC, -⟩ := hcls.2
  refine W.aast x1 x2 (i2 a _ he) (fun q h => by cases h) (fun h => by cases h) k1 k2 rfl hkC ⟨fun q => g1 (Or.inl q), by show _ < (arrV _ _ _).slots.size; rw [arrV_size, g2]; exact hj⟩ w1 (fun q h => by rw [w3] at h; cases h) (by rw [w2]; exact hkC) (by rw [w2]; exact va_assign hcls) rfl rfl hd fun H1 e1 z1 oq => ?_
  have e0 : va_up (fun j => (hR h a j).map (fun i => G.1 + i)) j (some (G.1 + b)) = (fun k => (hR (sR h a j (some b)) a k).map (fun i => G.1 + i)) := funext fun k => by
    rw [hR_sR]
    by_cases hk : k = j
    · rw [if_pos ⟨rfl, hk⟩]; simp [va_up, hk]
    · rw [if_neg (fun q => hk q.2)]; simp [va_up, hk]
  have e2 : (oWs G h).set a (G.1 + a, .inl (G.2.2.1 3, n, .inr (.inr (.inr (.inr (va_up (fun j => (hR h a j).map (fun i => G.1 + i)) j (some (G.1 + b)))))))) = oWs G (sR h a j (some b)) := by
    rw [e0]
    exact oWs_set (h := h) (h' := sR h a j (some b)) rfl (fun b' hb => oE_ext (h := h) (h' := sR h a j (some b)) (fun k => rfl) (fun k => rfl) (fun k => by rw [hR_sR, if_neg (fun q => hb q.1)])) (oE_q (G := G) (h := sR h a j (some b)) ht).symm
  have q1 : va_P G.2.1 vwCl ((oWs G h).set a (G.1 + a, .inl (G.2.2.1 3, n, .inr (.inr (.inr (.inr (va_up (fun j => (hR h a j).map (fun i => G.1 + i)) j (some (G.1 + b))))))))) H1 := i2.set (oWs_D G h) he (by
    show H1[G.1 + a]? = some (vp_cell _ _)
    rw [e1]
    show some ((vp_cell _ _).setSlot _ _) = _
    rw [vp_cell_q, vp_cell_q, arrV_store, g2]
    congr 2
    funext q
    by_cases hq : q = j
    · subst hq
      simp [updV, va_up, va_rf, oV]
    · simp [updV, va_up, hq]) oq
  rw [e2] at q1
  exact kk H1 _ ls (i1.put z1 oq ((oWs_D G h).2 a _ he)) q1 (by rw [z1, i3]; rfl) i4 i5
/-! what is made -/
theorem new_b {n0 n nF cells : Nat} (h0 : n0 ≤ n) (h1 : n + 1 ≤ nF) (hc : nF - n0 ≤ cells) : n - n0 + 1 ≤ cells := by omega
theorem new_s {n0 n nF slots k : Nat} (h0 : n0 ≤ n) (h1 : n + 1 ≤ nF) (hk : sl (n + 1) = sl n + k) (hc : sl nF - sl n0 ≤ slots) : sl n - sl n0 + k ≤ slots := by
  have := sl_mono h1
  have := sl_mono h0
  omega
theorem new_e {n0 n k : Nat} (h0 : n0 ≤ n) (hk : sl (n + 1) = sl n + k) : sl n - sl n0 + k = sl (n + 1) - sl n0 := by
  have := sl_mono h0
  omega
theorem new_c {n0 n : Nat} (h0 : n0 ≤ n) : n - n0 + 1 = n + 1 - n0 := by omega
theorem oWs_old {G : oG} {h : oH} {H H1 : Heap} (hP : va_P G.2.1 vwCl (oWs G h) H) (o1 : ∀ q, q < H.size → H1[q]? = H[q]?) : va_P G.2.1 vwCl (oWs G h) H1 := hP.kept fun k x hx => o1 x.1 ((hP k x hx).lt)
theorem oP_push {G : oG} {h : oH} {H1 : Heap} {e : va_E} (hP : va_P G.2.1 vwCl (oWs G h) H1) (he : e = oE G (hAl h) h.1) (ha : va_at G.2.1 vwCl (G.1 + h.1, e) H1) : va_P G.2.1 vwCl (oWs G (hAl h)) H1 := by
  rw [← oWs_push he]
  refine hP.app (fun k x hx => ?_)
  have hz : k < 1 := (List.getElem?_eq_some_iff.mp hx).1
  rw [show k = 0 by omega] at hx
  cases hx
  exact ha
theorem hAl_I (h : oH) (k : Nat) : hI (hAl h) h.1 k = 0 := if_pos rfl
theorem hAl_J (h : oH) (k : Nat) : hJ (hAl h) h.1 k = 0 := if_pos rfl
theorem hAl_R (h : oH) (k : Nat) : hR (hAl h) h.1 k = none := if_pos rfl
theorem oS_grow {A : Nat → Prop} {H0 H H1 : Heap} {locs : List Loc} (hS : va_S A H0 H locs) (hz : H.size ≤ H1.size) (o1 : ∀ q, q < H.size → H1[q]? = H[q]?) : va_S A H0 H1 locs := ⟨Nat.le_trans hS.1 hz, fun x h1 h2 => (o1 x (Nat.lt_of_lt_of_le h1 hS.1)).trans (hS.2.1 x h1 h2), hS.2.2⟩
def tyP : FieldType → Bool
  | .int => true
  | .long => true
  | .boolean => true
  | .object _ => true
  | .array _ => true
  | _ => false
theorem tyC_P {ci : Nat} (h : ci < 7) : ∀ k, k < nf ci → tyP (tyC ci k) = true := c7 (P := fun ci => ∀ k, k < nf ci → tyP (tyC ci k) = true) (by decide) (by decide) (by decide) (by decide) (by decide) (by decide) (by decide) h
theorem fv_new {G : oG} {h : oH} {ci k : Nat} (hp : tyP (tyC ci k) = true) : defaultValue (tyC ci k) = fv G ci (hAl h) h.1 k := by
  unfold fv
  rw [hAl_I, hAl_J, hAl_R]
  generalize tyC ci k = ty at hp ⊢
  cases ty <;> first | rfl | exact absurd hp Bool.false_ne_true
theorem r_new (C : oC G M n0 nF p l R s m args meth c) {ci idx : Nat} (hd : decode M.2.1 pc = .ok (.new idx, 3)) (hc7 : ci < 7) (ht : tg h.1 = (0, ci)) (hw1 : Cond.classLink M.1.cls idx (clQ ci).1 ∈ oWL) (hw2 : Cond.instantiable (clQ ci).1 (clQ ci).2.2 ∈ oWL) (hw3 : Cond.initialized (clQ ci).1 ∈ oWL) (hF : h.1 + 1 ≤ nF) (kk : oS G M p l e R s m args below meth c Z n0 (pc + 3) L (.ref h.1 :: S) (hAl h)) : oS G M p l e R s m args below meth c Z n0 pc L S h := fun H locs ls i1 i2 i3 i4 i5 => by
  obtain ⟨x1, x2, -, -, x5, x6, -, x8, hK, -, -, xB, -, -, xc, xs⟩ := C
  have hsl : sl (h.1 + 1) = sl h.1 + (clQ ci).2.2 := by rw [clQ_nf hc7]; show sl h.1 + szT (tg h.1) = _; rw [ht]; rfl
  have hKn := hK.1 ci _ (clQ_ok hc7)
  refine W.newcK x1 x2 x5 (x6 _ hw1) (x6 _ hw2) (x6 _ hw3) rfl hd (new_b i4 hF xc) (new_s i4 hF hsl xs) hKn.2.1 i3 fun H1 kC hkC e1 z1 o1 => ?_
  rw [← i3] at o1
  have q1 := oP_push (e := .inr (ci, (List.range (nf ci)).map (fv G ci (hAl h) h.1))) (oWs_old i2 o1) (oE_obj ht).symm ⟨_, clQ_ok hc7, (u_born (tyC ci) x6 (clQ_in hc7) hKn hkC e1 (clQ_ty hc7)).to (fun j hj => by
    rw [clQ_nf hc7] at hj
    show _ = vp_V _ j
    rw [vp_V, List.getD_eq_getElem?_getD, fs_get hj]
    exact fv_new (tyC_P hc7 j hj))⟩
  have k1 := kk H1 locs ls (oS_grow i1 (by rw [z1, i3]; omega) o1) q1 (by rw [z1]; rfl) (Nat.le_trans i4 (Nat.le_succ _)) i5
  rw [new_c i4, new_e i4 hsl]
  exact k1
theorem arr_cls {s : State} {cA cB : ClassId} {ty : FieldType} (h1 : s.vm.findClass ("[" ++ ty.toString) = some cA) (h2 : va_RA s cB ty) : cA = cB := by
  have h3 : s.vm.findClass ("[" ++ ty.toString) = some cB := by
    cases ty with
    | object C => obtain ⟨_, _, -, -, -, h⟩ := h2; exact h
    | _ => exact h2
  exact Option.some.inj (h1.symm.trans h3)
theorem r_newarr (C : oC G M n0 nF p l R s m args meth c) {at_ : ArrayType} {n j tt : Nat} {ty : FieldType} {x : Int32} (hd : decode M.2.1 pc = .ok (.newarray at_, 2)) (hty : newarray.typeOf at_ = ty) (hw : Cond.arrayClass ty ∈ oWL) (hj : (oTys G)[j]? = some (G.2.2.1 j, ty)) (hdf : defaultValue ty = .int 0) (hx : x.toInt = n) (hb : n * componentBytes ty ≤ 536870912) (ht : tg h.1 = (tt, n)) (htt : (tt = 1 ∧ j = 0) ∨ (tt = 2 ∧ j = 1) ∨ (tt = 3 ∧ j = 2)) (hF : h.1 + 1 ≤ nF) (kk : oS G M p l e R s m args below meth c Z n0 (pc + 2) L (.ref h.1 :: S) (hAl h)) : oS G M p l e R s m args below meth c Z n0 pc L (.int x :: S) h := fun H locs ls i1 i2 i3 i4 i5 => by
  obtain ⟨x1, x2, -, -, x5, x6, -, x8, hK, -, -, xB, -, -, xc, xs⟩ := C
  subst hty
  have hsl : sl (h.1 + 1) = sl h.1 + n := by
    show sl h.1 + szT (tg h.1) = _
    rw [ht]
    rcases htt with ⟨rfl, -⟩ | ⟨rfl, -⟩ | ⟨rfl, -⟩ <;> rfl
  obtain ⟨g1, g2⟩ := vin_of (n := n + 1) hx (Nat.lt_succ_self n)
  refine va_newaK x1 x2 (x6 _ hw) rfl hd rfl (fun q => g1 (Or.inl q)) g2 hb (new_b i4 hF xc) (new_s i4 hF hsl xs) i3 fun H1 cA e1 z1 o1 hAr hNm => ?_
  have hcA : cA = G.2.2.1 j := arr_cls hNm (hK.2 j _ hj).2
  subst hcA
  rw [← i3] at o1
  have q1 : va_P G.2.1 vwCl (oWs G (hAl h)) H1 := by
    have e0 : hI (hAl h) h.1 = fun _ => (0 : Int32) := funext fun k => hAl_I h k
    rcases htt with ⟨rfl, rfl⟩ | ⟨rfl, rfl⟩ | ⟨rfl, rfl⟩
    · refine oP_push (oWs_old i2 o1) (oE_i (h := hAl h) ht).symm ?_
      show H1[G.1 + h.1]? = some (vp_cell _ _)
      rw [e1, e0, hdf]
      rfl
    · refine oP_push (oWs_old i2 o1) (oE_b (h := hAl h) ht).symm ?_
      show H1[G.1 + h.1]? = some (vp_cell _ _)
      rw [e1, e0, hdf]
      rfl
    · refine oP_push (oWs_old i2 o1) (oE_z (h := hAl h) ht).symm ?_
      show H1[G.1 + h.1]? = some (vp_cell _ _)
      rw [e1, e0, hdf]
      rfl
  have k1 := kk H1 locs ls (oS_grow i1 (by rw [z1, i3]; omega) o1) q1 (by rw [z1]; rfl) (Nat.le_trans i4 (Nat.le_succ _)) i5
  rw [new_c i4, new_e i4 hsl]
  exact k1
theorem r_anewarr (C : oC G M n0 nF p l R s m args meth c) {idx n : Nat} {x : Int32} (hd : decode M.2.1 pc = .ok (.anewarray idx, 3)) (hw : Cond.classLink M.1.cls idx "OilRound$House" ∈ oWL) (hx : x.toInt = n) (hb : n * 4 ≤ 536870912) (ht : tg h.1 = (4, n)) (hF : h.1 + 1 ≤ nF) (kk : oS G M p l e R s m args below meth c Z n0 (pc + 3) L (.ref h.1 :: S) (hAl h)) : oS G M p l e R s m args below meth c Z n0 pc L (.int x :: S) h := fun H locs ls i1 i2 i3 i4 i5 => by
  obtain ⟨x1, x2, -, -, x5, x6, -, x8, hK, -, hXR, xB, -, -, xc, xs⟩ := C
  have hsl : sl (h.1 + 1) = sl h.1 + n := by
    show sl h.1 + szT (tg h.1) = _
    rw [ht]
    rfl
  obtain ⟨g1, g2⟩ := vin_of (n := n + 1) hx (Nat.lt_succ_self n)
  refine W.anew x1 x2 x5 (x6 _ hw) (va_AO.use hXR.2.2.2.2.1) rfl hd rfl (fun q => g1 (Or.inl q)) (by rw [g2]; exact hb) (new_b i4 hF xc) (by rw [g2]; exact new_s i4 hF hsl xs) fun cA kA comp f1 f2 f3 f4 => ?_
  have hcA : cA = G.2.2.1 3 := arr_cls f1 (hK.2 3 _ rfl).2
  subst hcA
  rw [g2]
  generalize hH1 : H.push ({ cls := G.2.2.1 3, slots := Array.replicate n .null, vm := .none } : Cell) = H1
  have z1 : H1.size = H.size + 1 := by rw [← hH1, Array.size_push]
  have e1 : H1[H.size]? = some (arrV (G.2.2.1 3) n (fun _ => .null)) := by rw [← hH1, Array.getElem?_push_size, ← arrV_new]
  have o1 : ∀ q : Nat, q < H.size → H1[q]? = H[q]? := fun q hq => by rw [← hH1, Array.getElem?_push, if_neg (Nat.ne_of_lt hq)]
  have q1 : va_P G.2.1 vwCl (oWs G (hAl h)) H1 := by
    have e0 : (fun j => (hR (hAl h) h.1 j).map (fun i => G.1 + i)) = fun _ => (none : Option Nat) := funext fun k => by rw [hAl_R]; rfl
    refine oP_push (oWs_old i2 o1) (oE_q (h := hAl h) ht).symm ?_
    show H1[G.1 + h.1]? = some (vp_cell _ _)
    rw [← i3, e1, e0]
    rfl
  have k1 := kk H1 locs ls (oS_grow i1 (by rw [z1]; omega) o1) q1 (by rw [z1, i3]; rfl) (Nat.le_trans i4 (Nat.le_succ _)) i5
  rw [new_c i4, new_e i4 hsl, i3]
  exact k1
theorem r_objInit (C : oC G M n0 nF p l R s m args meth c) {idx a : Nat} (hd : decode M.2.1 pc = .ok (.invokespecial idx, 3)) (hw : Cond.methodLink M.1.cls idx Lib.objectInit ∈ oWL) (hw2 : Cond.instanceMethod Lib.objectInit ∈ oWL) (hw3 : Cond.code Lib.objectInit ⟨#[0xb1]⟩ 1 none ∈ oWL) (hf : 1 ≤ M.2.2.2.2.1) (hl : (S.map fun v => v.category).sum + 12 ≤ M.2.2.2.2.2) (kk : oS G M p l e R s m args below meth c Z n0 (pc + 3) L S h) : oS G M p l e R s m args below meth c Z n0 pc L (.ref a :: S) h := fun H locs ls i1 i2 i3 i4 i5 => by
  have k1 := kk H locs ls i1 i2 i3 i4 i5
  obtain ⟨x1, x2, x3, x4, x5, x6, -, x8, hK, -, hXR, xB, xf, xl, xc, xs⟩ := C
  have hcat : ((S.map (oV G)).map fun v => v.category) = S.map fun v => v.category := by
    rw [List.map_map]
    exact List.map_congr_left fun v _ => oV_cat2 G v
  exact W.objInit x1 x2 x5 (x6 _ hw) (x6 _ hw2) (x6 _ hw3) rfl (by rw [x4]; exact i5.1) rfl hd (Nat.le_trans hf xf) (by show 2 * 0 + _ + 12 ≤ _; rw [hcat]; omega) (W.eq (g2 := F0 m (pc + 3) ls (S.map (oV G))) rfl k1)
/-! calls -/
theorem o_back {A1 : Heap → Prop} {mc ms : Nat} {r : Option Value} {h' : oH} {a : Array Value} {H : Heap} {locs : List Loc} {cells slots : Nat} {ls : Array Slot} {st0 rest : List Value} (hr : va_Run p l e R s m args below meth c H locs cells slots mc ms (F0 m pc ls st0) rest (oQ G r h' a) (fun q => G.1 ≤ q)) (hS : va_S (fun q => G.1 ≤ q) s.heap H locs)
    (kk : ∀ (H1 : Heap) (locs1 : List Loc), va_S (fun q => G.1 ≤ q) s.heap H1 locs1 → va_P G.2.1 vwCl (oWs G h') H1 → H1.size = G.1 + h'.1 → W p l e R s m args below meth c H1 locs1 (cells + mc) (slots + ms) Z (F0 m (pc + 3) ls ((r.map (oV G)).toList ++ rest))) : W p l e R s m args below meth c H locs cells slots Z (F0 m pc ls st0) := by
  intro T hT X
  obtain ⟨v, st₀, t, T', L, h0, X', hL, e1, e2, ⟨⟨hv, hrep⟩, hz, hk⟩, st⟩ := hr T hT X
  cases hv
  rw [h0] at hz hk
  obtain ⟨t2, a1, b1⟩ := kk T'.heap (locs ++ L)
    ⟨Nat.le_trans hS.1 (by rw [e1]; exact hz), fun q h1 h2 => by rw [e1, hk q (Nat.lt_of_lt_of_le h1 hS.1) h2]; exact hS.2.1 q h1 h2, fun q hq => by
      rcases List.mem_append.mp hq with h | h
      · exact hS.2.2 q h
      · exact hL q h⟩ (by rw [e1]; exact hrep.1) (by rw [e1]; exact hrep.2.1) T' rfl X'
  exact ⟨t2, st t2 a1, b1⟩
theorem call_n {n0 n n' : Nat} (h0 : n0 ≤ n) (h1 : n ≤ n') : n - n0 + (n' - n) = n' - n0 := by omega
theorem call_b {n0 n n' nF cells : Nat} (h0 : n0 ≤ n) (h1 : n ≤ n') (h2 : n' ≤ nF) (hc : nF - n0 ≤ cells) : n - n0 + (n' - n) ≤ cells := by omega
theorem cat_eq (G : oG) (S : List Value) : ((S.map (oV G)).map fun v => v.category) = S.map fun v => v.category := by
  rw [List.map_map]
  exact List.map_congr_left fun v _ => oV_cat2 G v
theorem rt_map (G : oG) (r : Option Value) (S : List Value) : (r.map (oV G)).toList ++ S.map (oV G) = (r.toList ++ S).map (oV G) := by cases r <;> rfl
theorem oPre (as : List Value) (h : oH) : FrameBlind (fun v U => v = (as.map (oV G)).toArray ∧ oRep G h U) := fun _ _ g mk q => ⟨q.1, q.2.calling g mk _⟩
theorem oFitR {M N : oM} {R : Room} (hf : oFit M N) (h1 : M.2.2.2.2.1 ≤ R.frames) (h2 : M.2.2.2.2.2 ≤ R.locals) {mc ms : Nat} : (oR N mc ms).frames + 1 ≤ R.frames ∧ 8 + (N.2.2.1 + 11) + (oR N mc ms).locals ≤ R.locals := ⟨Nat.le_trans hf.1 h1, Nat.le_trans hf.2 h2⟩
theorem oW_gin {N : oM} (h : oMc N) : GoodIn oWL (oW N) := wsL_gin (fun w hw => by
  rcases List.mem_cons.mp hw with rfl | hw
  · exact h.1
  · exact hw)
theorem r_callV (C : oC G M n0 nF p l R s m args meth c) {N : oM} {as' : List Value} {b n ci idx : Nat} {r : Option Value} {h' : oH} {S0 : List Value} (sp : oSp G N (.ref b :: as') h r h') (hN : oMv N) (hn : oN N n) (hl : as'.length = n) (hd : decode M.2.1 pc = .ok (.invokevirtual idx, 3)) (hw : Cond.methodLink M.1.cls idx N.1 ∈ oWL) (hft : oFit M N) (hc7 : ci < 7) (hcl : (clQ ci).1 = N.1.cls) (ht : tg b = (0, ci)) (hb : b < h.1) (hF : h'.1 ≤ nF) (hst : S0 = as'.reverse ++ .ref b :: S) (hcat : (S.map fun v => v.category).sum ≤ 8) (kk : oS G M p l e R s m args below meth c Z n0 (pc + 3) L (r.toList ++ S) h') : oS G M p l e R s m args below meth c Z n0 pc L S0 h := fun H locs ls i1 i2 i3 i4 i5 => by
  obtain ⟨hle, hM⟩ := sp
  have hrep := C.rep i1 i2 i3
  obtain ⟨x1, x2, x3, x4, x5, x6, -, x8, hK, -, hXR, xB, xf, xl, xc, xs⟩ := C
  have hsl := sl_mono hle
  have hsl0 := sl_mono i4
  have hslF := sl_mono hF
  refine o_back (mc := h'.1 - h.1) (ms := sl h'.1 - sl h.1) (rest := S.map (oV G)) (A1 := fun _ => True) (va_runV (As := as'.map (oV G)) ⟨x1, x2, x4, x5, x6⟩ (hM l) ⟨callB_of n x6 (oW_gin hN.1.1) rfl rfl rfl (x6 _ hN.1.1.2.1) (x6 _ hw) ⟨hN.1.1.2.2.1, hN.1.1.2.2.2, hn⟩ (oFitR hft xf xl), x6 _ hN.1.2, x6 _ hN.2⟩ ⟨oPre (.ref b :: as') h, ?_, fun U hU hW => ⟨rfl, hrep U hU hW⟩⟩ rfl (by rw [List.length_map]; exact hl) i5.1 (by rw [hst, List.map_append, List.map_reverse]; rfl) (lv_room (by rw [cat_eq]; exact hcat)) hd ⟨call_b i4 hle hF xc, call_b hsl0 hsl hslF xs⟩) i1 ?_
  · have hr := va_recv (va_K.sub (tys' := []) hK [] rfl) i2 (clQ_ok hc7) ((oWs_get hb).trans (congrArg (fun z => some (G.1 + b, z)) (oE_obj ht)))
    rw [hcl] at hr
    exact hr
  · intro H1 locs1 q1 q2 q3
    have k1 := kk H1 locs1 ls q1 q2 q3 (Nat.le_trans i4 hle) i5
    rw [call_n i4 hle, call_n hsl0 hsl, rt_map]
    exact k1
theorem r_callS (C : oC G M n0 nF p l R s m args meth c) {N : oM} {as' : List Value} {n idx : Nat} {r : Option Value} {h' : oH} {S0 : List Value} (sp : oSp G N as' h r h') (hN : oMs N) (hn : oN N n) (hl : as'.length = n) (hd : decode M.2.1 pc = .ok (.invokestatic idx, 3)) (hw : Cond.methodLink M.1.cls idx N.1 ∈ oWL) (hft : oFit M N) (hF : h'.1 ≤ nF) (hst : S0 = as'.reverse ++ S) (hcat : (S.map fun v => v.category).sum ≤ 8) (kk : oS G M p l e R s m args below meth c Z n0 (pc + 3) L (r.toList ++ S) h') : oS G M p l e R s m args below meth c Z n0 pc L S0 h := fun H locs ls i1 i2 i3 i4 i5 => by
  obtain ⟨hle, hM⟩ := sp
  have hrep := C.rep i1 i2 i3
  obtain ⟨x1, x2, x3, x4, x5, x6, -, x8, hK, -, hXR, xB, xf, xl, xc, xs⟩ := C
  have hsl := sl_mono hle
  have hsl0 := sl_mono i4
  have hslF := sl_mono hF
  refine o_back (mc := h'.1 - h.1) (ms := sl h'.1 - sl h.1) (rest := S.map (oV G)) (A1 := fun _ => True) (va_runS (As := as'.map (oV G)) ⟨x1, x2, x4, x5, x6⟩ (hM l) ⟨callB_of n x6 (oW_gin hN.1) rfl rfl rfl (x6 _ hN.1.2.1) (x6 _ hw) ⟨hN.1.2.2.1, hN.1.2.2.2, hn⟩ (oFitR hft xf xl), x6 _ hN.2⟩ ⟨oPre as' h, fun U hU hW => ⟨rfl, hrep U hU hW⟩⟩ rfl (by rw [List.length_map]; exact hl) i5.1 (by rw [hst, List.map_append, List.map_reverse]) (lv_room (by rw [cat_eq]; exact hcat)) hd ⟨call_b i4 hle hF xc, call_b hsl0 hsl hslF xs⟩) i1 ?_
  intro H1 locs1 q1 q2 q3
  have k1 := kk H1 locs1 ls q1 q2 q3 (Nat.le_trans i4 hle) i5
  rw [call_n i4 hle, call_n hsl0 hsl, rt_map]
  exact k1
theorem r_callSN (C : oC G M n0 nF p l R s m args meth c) {N : oM} {as' : List Value} {n idx : Nat} {r : Option Value} {h' : oH} {S0 : List Value} (sp : oSp G N as' h r h') (hN : oMs N) (hn : oN N n) (hl : as'.length = n) (hd : decode M.2.1 pc = .ok (.invokestatic idx, 3)) (hw : (M.1.cls, idx, N.1) ∈ oNestL) (hft : oFit M N) (hF : h'.1 ≤ nF) (hst : S0 = as'.reverse ++ S) (hcat : (S.map fun v => v.category).sum ≤ 8) (kk : oS G M p l e R s m args below meth c Z n0 (pc + 3) L (r.toList ++ S) h') : oS G M p l e R s m args below meth c Z n0 pc L S0 h := fun H locs ls i1 i2 i3 i4 i5 => by
  obtain ⟨hle, hM⟩ := sp
  have hrep := C.rep i1 i2 i3
  obtain ⟨x1, x2, x3, x4, x5, x6, -, x8, hK, -, hXR, xB, xf, xl, xc, xs⟩ := C
  have hsl := sl_mono hle
  have hsl0 := sl_mono i4
  have hslF := sl_mono hF
  refine o_back (mc := h'.1 - h.1) (ms := sl h'.1 - sl h.1) (rest := S.map (oV G)) (A1 := fun _ => True) (va_runSN (As := as'.map (oV G)) ⟨x1, x2, x4, x5, x6⟩ (hM l) ⟨va_cnB n x6 (oW_gin hN.1) rfl rfl rfl (hXR.2.2.2.2.2 _ hw) (x6 _ hN.1.2.1) ⟨hN.1.2.2.1, hN.1.2.2.2, hn⟩ (oFitR hft xf xl), x6 _ hN.2, trivial⟩ ⟨oPre as' h, fun U hU hW => ⟨rfl, hrep U hU hW⟩⟩ rfl (by rw [List.length_map]; exact hl) i5.1 (by rw [hst, List.map_append, List.map_reverse]) (lv_room (by rw [cat_eq]; exact hcat)) hd ⟨call_b i4 hle hF xc, call_b hsl0 hsl hslF xs⟩) i1 ?_
  intro H1 locs1 q1 q2 q3
  have k1 := kk H1 locs1 ls q1 q2 q3 (Nat.le_trans i4 hle) i5
  rw [call_n i4 hle, call_n hsl0 hsl, rt_map]
  exact k1
theorem r_callI (C : oC G M n0 nF p l R s m args meth c) {N : oM} {as' : List Value} {b n idx : Nat} {h' : oH} {S0 : List Value} (sp : oSp G N (.ref b :: as') h none h') (hN : oMi N) (hi : N.1.name = "<init>") (hr0 : N.2.2.2.1 = none) (hn : oN N n) (hl : as'.length = n) (hd : decode M.2.1 pc = .ok (.invokespecial idx, 3)) (hw : Cond.methodLink M.1.cls idx N.1 ∈ oWL) (hft : oFit M N) (hF : h'.1 ≤ nF) (hst : S0 = as'.reverse ++ .ref b :: S) (hcat : (S.map fun v => v.category).sum ≤ 8) (kk : oS G M p l e R s m args below meth c Z n0 (pc + 3) L S h') : oS G M p l e R s m args below meth c Z n0 pc L S0 h := fun H locs ls i1 i2 i3 i4 i5 => by
  obtain ⟨hle, hM⟩ := sp
  have hrep := C.rep i1 i2 i3
  obtain ⟨x1, x2, x3, x4, x5, x6, -, x8, hK, -, hXR, xB, xf, xl, xc, xs⟩ := C
  have hsl := sl_mono hle
  have hsl0 := sl_mono i4
  have hslF := sl_mono hF
  have cb := callB_of (Ts := oWL) (ws := oW N) (rm := oR N (h'.1 - h.1) (sl h'.1 - sl h.1)) n x6 (oW_gin hN.1) rfl rfl rfl (x6 _ hN.1.2.1) (x6 _ hw) ⟨hN.1.2.2.1, hN.1.2.2.2, hn⟩ (oFitR hft xf xl)
  rw [hr0] at cb
  refine o_back (mc := h'.1 - h.1) (ms := sl h'.1 - sl h.1) (rest := S.map (oV G)) (A1 := fun _ => True) (va_runI (As := as'.map (oV G)) ⟨x1, x2, x4, x5, x6⟩ (hM l) ⟨cb, hi, x6 _ hN.2⟩ ⟨oPre (.ref b :: as') h, fun U hU hW => ⟨rfl, hrep U hU hW⟩⟩ rfl (by rw [List.length_map]; exact hl) i5.1 (by rw [hst, List.map_append, List.map_reverse]; rfl) (lv_room (by rw [cat_eq]; exact hcat)) hd ⟨call_b i4 hle hF xc, call_b hsl0 hsl hslF xs⟩) i1 ?_
  intro H1 locs1 q1 q2 q3
  have k1 := kk H1 locs1 ls q1 q2 q3 (Nat.le_trans i4 hle) i5
  rw [call_n i4 hle, call_n hsl0 hsl]
  exact k1
theorem r_callIN (C : oC G M n0 nF p l R s m args meth c) {N : oM} {as' : List Value} {b n idx : Nat} {h' : oH} {S0 : List Value} (sp : oSp G N (.ref b :: as') h none h') (hN : oMi N) (hi : N.1.name = "<init>") (hr0 : N.2.2.2.1 = none) (hn : oN N n) (hl : as'.length = n) (hd : decode M.2.1 pc = .ok (.invokespecial idx, 3)) (hw : (M.1.cls, idx, N.1) ∈ oNestL) (hft : oFit M N) (hF : h'.1 ≤ nF) (hst : S0 = as'.reverse ++ .ref b :: S) (hcat : (S.map fun v => v.category).sum ≤ 8) (kk : oS G M p l e R s m args below meth c Z n0 (pc + 3) L S h') : oS G M p l e R s m args below meth c Z n0 pc L S0 h := fun H locs ls i1 i2 i3 i4 i5 => by
  obtain ⟨hle, hM⟩ := sp
  have hrep := C.rep i1 i2 i3
  obtain ⟨x1, x2, x3, x4, x5, x6, -, x8, hK, -, hXR, xB, xf, xl, xc, xs⟩ := C
  have hsl := sl_mono hle
  have hsl0 := sl_mono i4
  have hslF := sl_mono hF
  have cb := va_cnB (R := R) (s := s) (args := args) (Ts := oWL) (ws := oW N) (rm := oR N (h'.1 - h.1) (sl h'.1 - sl h.1)) n x6 (oW_gin hN.1) rfl rfl rfl (hXR.2.2.2.2.2 _ hw) (x6 _ hN.1.2.1) ⟨hN.1.2.2.1, hN.1.2.2.2, hn⟩ (oFitR hft xf xl)
  rw [hr0] at cb
  refine o_back (mc := h'.1 - h.1) (ms := sl h'.1 - sl h.1) (rest := S.map (oV G)) (A1 := fun _ => True) (va_runIN (As := as'.map (oV G)) ⟨x1, x2, x4, x5, x6⟩ (hM l) ⟨cb, hi, x6 _ hN.2⟩ ⟨oPre (.ref b :: as') h, fun U hU hW => ⟨rfl, hrep U hU hW⟩⟩ rfl (by rw [List.length_map]; exact hl) i5.1 (by rw [hst, List.map_append, List.map_reverse]; rfl) (lv_room (by rw [cat_eq]; exact hcat)) hd ⟨call_b i4 hle hF xc, call_b hsl0 hsl hslF xs⟩) i1 ?_
  intro H1 locs1 q1 q2 q3
  have k1 := kk H1 locs1 ls q1 q2 q3 (Nat.le_trans i4 hle) i5
  rw [call_n i4 hle, call_n hsl0 hsl]
  exact k1
/-! ends -/
theorem r_iret (C : oC G M n0 nF p l R s m args meth c) {v : Int32} {r : Option Value} {h' : oH} (hd : decode M.2.1 pc = .ok (.ireturn, 1)) (hr : M.2.2.2.1 = some .int) (hF : h.1 ≤ nF) (er : r = some (.int v)) (eh : h' = h) : oS G M p l e R s m args below meth c (oZ G below args s n0 nF r h') n0 pc L [.int v] h := fun H locs ls i1 i2 i3 i4 i5 => by
  subst er; subst eh
  have hrep := C.rep i1 i2 i3
  obtain ⟨x1, x2, x3, -, -, -, x7, -⟩ := C
  have hslF := sl_mono hF
  exact W.widen (k := nF - n0) (n := sl nF - sl n0) (by omega) (by omega) (W.iret (v := v) x1 x2 (x3.trans hr) (fun t ht hW => ⟨⟨rfl, hrep t ht hW⟩, i1.F ht⟩) i1.2.2 hd x7)
theorem r_zret (C : oC G M n0 nF p l R s m args meth c) {v : Int32} {ty : FieldType} {r : Option Value} {h' : oH} (hd : decode M.2.1 pc = .ok (.ireturn, 1)) (hr : M.2.2.2.1 = some ty) (hn : narrow ty (.int v) = .int v) (hF : h.1 ≤ nF) (er : r = some (.int v)) (eh : h' = h) : oS G M p l e R s m args below meth c (oZ G below args s n0 nF r h') n0 pc L [.int v] h := fun H locs ls i1 i2 i3 i4 i5 => by
  subst er; subst eh
  have hrep := C.rep i1 i2 i3
  obtain ⟨x1, x2, x3, -, -, -, x7, -⟩ := C
  have hslF := sl_mono hF
  exact W.widen (k := nF - n0) (n := sl nF - sl n0) (by omega) (by omega) (W.zret (v := v) x1 x2 (x3.trans hr) hn (fun t ht hW => ⟨⟨rfl, hrep t ht hW⟩, i1.F ht⟩) i1.2.2 hd x7)
theorem r_lret (C : oC G M n0 nF p l R s m args meth c) {v : Int64} {r : Option Value} {h' : oH} (hd : decode M.2.1 pc = .ok (.lreturn, 1)) (hr : M.2.2.2.1 = some .long) (hF : h.1 ≤ nF) (er : r = some (.long v)) (eh : h' = h) : oS G M p l e R s m args below meth c (oZ G below args s n0 nF r h') n0 pc L [.long v] h := fun H locs ls i1 i2 i3 i4 i5 => by
  subst er; subst eh
  have hrep := C.rep i1 i2 i3
  obtain ⟨x1, x2, x3, -, -, -, x7, -⟩ := C
  have hslF := sl_mono hF
  exact W.widen (k := nF - n0) (n := sl nF - sl n0) (by omega) (by omega) (W.lret (v := v) x1 x2 (x3.trans hr) (fun t ht hW => ⟨⟨rfl, hrep t ht hW⟩, i1.F ht⟩) i1.2.2 hd x7)
theorem r_vret (C : oC G M n0 nF p l R s m args meth c) {h' : oH} (hd : decode M.2.1 pc = .ok (.return_, 1)) (hr : M.2.2.2.1 = none) (hF : h.1 ≤ nF) (eh : h' = h) : oS G M p l e R s m args below meth c (oZ G below args s n0 nF none h') n0 pc L [] h := fun H locs ls i1 i2 i3 i4 i5 => by
  subst eh
  have hrep := C.rep i1 i2 i3
  obtain ⟨x1, x2, x3, -, -, -, x7, -⟩ := C
  have hslF := sl_mono hF
  exact W.widen (k := nF - n0) (n := sl nF - sl n0) (by omega) (by omega) (W.vret x1 x2 (x3.trans hr) (fun t ht hW => ⟨⟨rfl, hrep t ht hW⟩, i1.F ht⟩) i1.2.2 hd x7)
theorem r_aret (C : oC G M n0 nF p l R s m args meth c) {v : Option Nat} {N : String} {r : Option Value} {h' : oH} (hd : decode M.2.1 pc = .ok (.areturn, 1)) (hr : M.2.2.2.1 = some (.object N)) (hF : h.1 ≤ nF) (er : r = some (va_rf v)) (eh : h' = h) : oS G M p l e R s m args below meth c (oZ G below args s n0 nF r h') n0 pc L [va_rf v] h := fun H locs ls i1 i2 i3 i4 i5 => by
  subst er; subst eh
  have hrep := C.rep i1 i2 i3
  obtain ⟨x1, x2, x3, -, -, -, x7, -⟩ := C
  have hslF := sl_mono hF
  refine W.widen (k := nF - n0) (n := sl nF - sl n0) (by omega) (by omega) (W.aret (v := oV G (va_rf v)) x1 x2 (x3.trans hr) (Or.inl ⟨_, rfl⟩) ?_ (fun t ht hW => ⟨⟨rfl, hrep t ht hW⟩, i1.F ht⟩) i1.2.2 hd x7)
  cases v with
  | none => exact Or.inl rfl
  | some a => exact Or.inr ⟨_, rfl⟩
end OHEAP
