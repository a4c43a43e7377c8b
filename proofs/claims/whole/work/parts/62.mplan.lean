/-! the reference reads a plan -/
def mT (h : oH) (T : Nat → Int) (z q : Nat) : Prop := (hI h 12 32).toInt = ((xE T z q : Nat) : Int) ∧ (hI h 12 33).toInt = ((xR T z q : Nat) : Int) ∧ (hI h 12 34).toInt = ((xS T z q : Nat) : Int) ∧ (hI h 12 35).toInt = ((xE T z q : Nat) : Int)
theorem mT.fr {h h' : oH} {T : Nat → Int} {z q : Nat} (m : mT h T z q) (e : ∀ y, 32 ≤ y → y ≤ 35 → hI h' 12 y = hI h 12 y) : mT h' T z q := by
  unfold mT at *
  rw [e 32 (by decide) (by decide), e 33 (by decide) (by decide), e 34 (by decide) (by decide), e 35 (by decide) (by decide)]
  exact m
theorem nameQ (G : oG) {h : oH} (hs : oSh h) {z : Nat} {T : Nat → Int} (tp : tpM h z T) {q : Nat} (hq : q ≤ z) (mt : mT h T z q) : ∃ v : Int64, oSp G mX6_name [.ref 12] h (some (.long v)) h ∧ (v.toInt = 448546567013 ↔ xK T z q = 1) ∧ (v.toInt = 6578553 ↔ xK T z q = 2) ∧ (v.toInt = 6513008 ↔ xK T z q = 3) ∧ (v.toInt = 1885432164 ↔ xK T z q = 4) := by
  obtain ⟨m1, m2, m3, m4⟩ := mt
  have hw := xE_w (T := T) hq
  have hK := xKR (T := T) hq
  by_cases h2 : xR T z q = 2
  · obtain ⟨a1, a2, a3, a4⟩ := hK.2.2.2.2.1 h2
    have hb := nw_b (T := T) (s := xS T z q) (xE T z q - xS T z q) (fun j hj => by have := a3 (xS T z q + j) (by omega) (by omega); omega)
    have hp : (256 : Int) ^ (xE T z q - xS T z q) ≤ 281474976710656 := by
      have e : xE T z q - xS T z q ≤ 6 := by omega
      generalize xE T z q - xS T z q = d at e
      match d, e with
      | 0, _ => decide
      | 1, _ => decide
      | 2, _ => decide
      | 3, _ => decide
      | 4, _ => decide
      | 5, _ => decide
      | 6, _ => decide
      | n + 7, e => omega
    have c0 := nm_k0 a1 a2 a3
    have c1 := nm_k1 a1 a2 a3
    have c2 := nm_k2 a1 a2 a3
    have c3 := nm_k3 a1 a2 a3
    have cc := nmK_c T (xS T z q) (xE T z q)
    rw [← a4] at cc
    refine ⟨_, sp_na G hs tp m3 m4 hw.1 hw.2.1 m2 h2 a2, ?_⟩
    rw [oL6_t (by omega), c0, c1, c2, c3]
    generalize nmB T (xS T z q) (xE T z q) 0 = B0 at *
    generalize nmB T (xS T z q) (xE T z q) 1 = B1 at *
    generalize nmB T (xS T z q) (xE T z q) 2 = B2 at *
    generalize nmB T (xS T z q) (xE T z q) 3 = B3 at *
    generalize nw256 T (xS T z q) (xE T z q - xS T z q) = N at *
    have hx : ∀ {P Q : Prop}, (P → Q) → (Q → P) → (P ↔ Q) := fun a b => ⟨a, b⟩
    rcases cc with ⟨e1, e2⟩ | ⟨e1, e2⟩ | ⟨e1, e2⟩ | ⟨e1, e2⟩ | ⟨e1, e2⟩
    · have n1 := c0.mpr e2
      refine ⟨⟨fun _ => e1, fun _ => e2⟩, ⟨fun q => ?_, fun q => ?_⟩, ⟨fun q => ?_, fun q => ?_⟩, ⟨fun q => ?_, fun q => ?_⟩⟩ <;> first | omega | (have n2 := c1.mpr q; omega) | (have n2 := c2.mpr q; omega) | (have n2 := c3.mpr q; omega)
    · have n1 := c1.mpr e2
      refine ⟨⟨fun q => ?_, fun q => ?_⟩, ⟨fun _ => e1, fun _ => e2⟩, ⟨fun q => ?_, fun q => ?_⟩, ⟨fun q => ?_, fun q => ?_⟩⟩ <;> first | omega | (have n2 := c0.mpr q; omega) | (have n2 := c2.mpr q; omega) | (have n2 := c3.mpr q; omega)
    · have n1 := c2.mpr e2
      refine ⟨⟨fun q => ?_, fun q => ?_⟩, ⟨fun q => ?_, fun q => ?_⟩, ⟨fun _ => e1, fun _ => e2⟩, ⟨fun q => ?_, fun q => ?_⟩⟩ <;> first | omega | (have n2 := c0.mpr q; omega) | (have n2 := c1.mpr q; omega) | (have n2 := c3.mpr q; omega)
    · have n1 := c3.mpr e2
      refine ⟨⟨fun q => ?_, fun q => ?_⟩, ⟨fun q => ?_, fun q => ?_⟩, ⟨fun q => ?_, fun q => ?_⟩, ⟨fun _ => e1, fun _ => e2⟩⟩ <;> first | omega | (have n2 := c0.mpr q; omega) | (have n2 := c1.mpr q; omega) | (have n2 := c2.mpr q; omega)
    · obtain ⟨d0, d1, d2, d3⟩ := e2 (by omega)
      refine ⟨⟨fun q => absurd q d0, fun q => ?_⟩, ⟨fun q => absurd q d1, fun q => ?_⟩, ⟨fun q => absurd q d2, fun q => ?_⟩, ⟨fun q => absurd q d3, fun q => ?_⟩⟩ <;> omega
  · have h3 := hK.2.2.2.2.2.1 h2
    refine ⟨0, sp_na0 G hs tp m3 m4 hw.1 hw.2.1 m2 h2, ?_⟩
    rw [show (0 : Int64).toInt = 0 from rfl]
    refine ⟨?_, ?_, ?_, ?_⟩ <;> omega
theorem numQ (G : oG) {h : oH} (hs : oSh h) {z : Nat} {T : Nat → Int} (tp : tpM h z T) {q : Nat} (hq : q ≤ z) (mt : mT h T z q) : ∃ v : Int32, oSp G mX6_number [.ref 12] h (some (.int v)) h ∧ (xK T z q = 5 → v = oI (xV T z q)) := by
  obtain ⟨m1, m2, m3, m4⟩ := mt
  have hw := xE_w (T := T) hq
  have hK := xKR (T := T) hq
  by_cases h3 : xR T z q = 3
  · obtain ⟨a1, a2, a3⟩ := hK.2.2.2.2.2.2.1 h3
    exact ⟨_, sp_nu G hs tp m3 m4 hw.1 hw.2.1 m2 a3 h3 a2, fun _ => rfl⟩
  · exact ⟨0, sp_nu0 G hs tp m3 m4 hw.1 hw.2.1 m2 h3, fun q => absurd (hK.2.1.mpr q) h3⟩
theorem isQ6 (G : oG) {h : oH} (hs : oSh h) {z : Nat} {T : Nat → Int} (tp : tpM h z T) {q : Nat} (hq : q ≤ z) (mt : mT h T z q) : oSp G mX6_is [.ref 12, .int 59] h (some (.int (b1 (xK T z q = 6)))) h := by
  obtain ⟨m1, m2, m3, m4⟩ := mt
  have hw := xE_w (T := T) hq
  have hK := xKR (T := T) hq
  have sp := sp_sg G hs tp m3 m4 hw.1 hw.2.1 m2 59 hK.2.2.2.2.2.2.2.1
  exact sp.ri (b1_iff hK.2.2.1.symm)
theorem isQ7 (G : oG) {h : oH} (hs : oSh h) {z : Nat} {T : Nat → Int} (tp : tpM h z T) {q : Nat} (hq : q ≤ z) (mt : mT h T z q) : oSp G mX6_is [.ref 12, .int 64] h (some (.int (b1 (xK T z q = 7)))) h := by
  obtain ⟨m1, m2, m3, m4⟩ := mt
  have hw := xE_w (T := T) hq
  have hK := xKR (T := T) hq
  have sp := sp_sg G hs tp m3 m4 hw.1 hw.2.1 m2 64 hK.2.2.2.2.2.2.2.1
  exact sp.ri (b1_iff hK.2.2.2.1.symm)
def frK (h h' : oH) : Prop := h'.1 = h.1 ∧ (∀ a y, hR h' a y = hR h a y) ∧ (∀ a y, hJ h' a y = hJ h a y) ∧ ∀ a y, ¬ (a = 12 ∧ 32 ≤ y ∧ y ≤ 35) → hI h' a y = hI h a y
theorem tpM.fk {h h' : oH} {z : Nat} {T : Nat → Int} (t : tpM h z T) (f : frK h h') : tpM h' z T := t.fr (f.2.2.2 12 31 (by omega)) (fun j => f.2.2.2 29 j (by omega))
theorem oSh.fk {h h' : oH} (hs : oSh h) (f : frK h h') : oSh h' := ⟨by rw [f.1]; exact hs.1, fun r hr => by rw [f.2.1]; exact hs.2 r hr⟩
theorem takeQ (G : oG) {h : oH} (hs : oSh h) {z : Nat} {T : Nat → Int} (tp : tpM h z T) {q : Nat} (hq : q ≤ z) (mt : mT h T z q) (hf : (hI h 12 36).toInt = 0) (x : Int32) (hx : ¬ x.toInt = 0) : ∃ h', oSp G mX6_take [.ref 12, .int x] h none h' ∧ mT h' T z (xE T z q) ∧ frK h h' := by
  obtain ⟨h', sp, f1, f2, f3, f4, f5, f6, f7, f8⟩ := stT G hs tp (xE_w (T := T) hq).2.1 mt.1
  exact ⟨h', sp_tkS G hs x hx hf sp f5, ⟨f1, f2, f3, f4⟩, ⟨f5, f6, f7, f8⟩⟩
def bdH (h : oH) (f : Int32) : oH := sI (sI h 12 36 f) 12 37 (hI h 12 34)
theorem bdH_o {h : oH} {f : Int32} {a y : Nat} (q : ¬ (a = 12 ∧ (y = 36 ∨ y = 37))) : hI (bdH h f) a y = hI h a y := by
  unfold bdH
  rw [sI_ne (by omega), sI_ne (by omega)]
theorem bdH_f {h : oH} {f : Int32} : hI (bdH h f) 12 36 = f := by
  unfold bdH
  rw [sI_ne (by omega), sI_eq ⟨rfl, rfl⟩]
theorem bdH_s {h : oH} {f : Int32} : hI (bdH h f) 12 37 = hI h 12 34 := by
  unfold bdH
  rw [sI_eq ⟨rfl, rfl⟩]
/-- from a place in the plan's reading to its end -/
def tO (G : oG) (pc : Nat) (L : List (Option Value)) (h hf : oH) : Prop := hf.1 = h.1 ∧ ∀ (p : Program) (l : Launch) (e : Env) (R : Room) (s : State) (m : MethodId) (args : Array Value) (below : List Frame) (meth : Method) (c : Code) (n0 nF : Nat), oC G mX6_readOne n0 nF p l R s m args meth c → h.1 ≤ nF → oS G mX6_readOne p l e R s m args below meth c (oZ G below args s n0 nF none hf) n0 pc L [] h
set_option maxHeartbeats 4000000 in
set_option maxRecDepth 100000 in
theorem rs223 (G : oG) {h : oH} (hs : oSh h) {z : Nat} {T : Nat → Int} (tp : tpM h z T) {q : Nat} (hq : q ≤ z) (mt : mT h T z q) (hf : (hI h 12 36).toInt ≠ 0) {x1 x4 x5 x6 : Int32} {l2 l3 : Option Value} : tO G 223 [some (.ref 12), some (.int x1), l2, l3, some (.int x4), some (.int x5), some (.int x6)] h h := by
  obtain ⟨vn, sn, -⟩ := nameQ G hs tp hq mt
  obtain ⟨vu, su, -⟩ := numQ G hs tp hq mt
  refine ⟨rfl, fun p l e R s m args below meth c n0 nF C hF => ?_⟩
  refine r_aload_n C rfl rfl dX6_readOne_223 ?_
  refine r_getI C dX6_readOne_224 fl_X6_230 rfl (q_lt hs (by decide)) ?_
  refine t_if_ne C 283 (by decide) rfl dX6_readOne_227 (fun c227 => ?_) (fun c227 => ?_)
  · first
    | (exfalso; omega)
    |  (exact r_vret C dX6_readOne_283 rfl hF rfl)
  · first
    | (exfalso; omega)
    |  (refine r_aload_n C rfl rfl dX6_readOne_230 ?_
        refine r_getO C dX6_readOne_231 fl_X6_75 rfl rfl (q_lt hs (by decide)) (sh_12_39 hs) ?_
        refine r_aload_n C rfl rfl dX6_readOne_234 ?_
        refine r_getI C dX6_readOne_235 fl_X6_265 rfl (q_lt hs (by decide)) ?_
        refine r_iload_n C rfl dX6_readOne_238 ?_
        refine r_iast C (None) rfl (by omega) dX6_readOne_239 rfl (q_lt hs (by decide)) ?_
        refine r_aload_n C rfl rfl dX6_readOne_240 ?_
        refine r_getO C dX6_readOne_241 fl_X6_78 rfl rfl (q_lt hs (by decide)) (sh_12_40 hs) ?_
        refine r_aload_n C rfl rfl dX6_readOne_244 ?_
        refine r_getI C dX6_readOne_245 fl_X6_265 rfl (q_lt hs (by decide)) ?_
        refine r_iload C rfl dX6_readOne_248 ?_
        refine r_iast C (None) rfl (by omega) dX6_readOne_250 rfl (q_lt hs (by decide)) ?_
        refine r_aload_n C rfl rfl dX6_readOne_251 ?_
        refine r_getO C dX6_readOne_252 fl_X6_81 rfl rfl (q_lt hs (by decide)) (sh_12_41 hs) ?_
        refine r_aload_n C rfl rfl dX6_readOne_255 ?_
        refine r_getI C dX6_readOne_256 fl_X6_265 rfl (q_lt hs (by decide)) ?_
        refine r_iload C rfl dX6_readOne_259 ?_
        refine r_iast C (None) rfl (by omega) dX6_readOne_261 rfl (q_lt hs (by decide)) ?_
        refine r_aload_n C rfl rfl dX6_readOne_262 ?_
        refine r_getO C dX6_readOne_263 fl_X6_84 rfl rfl (q_lt hs (by decide)) (sh_12_42 hs) ?_
        refine r_aload_n C rfl rfl dX6_readOne_266 ?_
        refine r_getI C dX6_readOne_267 fl_X6_265 rfl (q_lt hs (by decide)) ?_
        refine r_iload C rfl dX6_readOne_270 ?_
        refine r_iast C (None) rfl (by omega) dX6_readOne_272 rfl (q_lt hs (by decide)) ?_
        refine r_aload_n C rfl rfl dX6_readOne_273 ?_
        refine r_dup C rfl dX6_readOne_274 ?_
        refine r_getI C dX6_readOne_275 fl_X6_265 rfl (q_lt hs (by decide)) ?_
        refine r_iconstv C 1 rfl dX6_readOne_278 ?_
        refine r_iadd C dX6_readOne_279 ?_
        refine r_putI C dX6_readOne_280 fl_X6_265 rfl (q_lt hs (by decide)) (Or.inl rfl) ?_
        exact r_vret C dX6_readOne_283 rfl hF rfl)

set_option maxHeartbeats 4000000 in
set_option maxRecDepth 100000 in
theorem rs213 (G : oG) {h : oH} (hs : oSh h) {z : Nat} {T : Nat → Int} (tp : tpM h z T) {q : Nat} (hq : q ≤ z) (mt : mT h T z q) (hf : (hI h 12 36).toInt ≠ 0) {x1 x4 x5 x6 : Int32} {l2 l3 : Option Value} : tO G 213 [some (.ref 12), some (.int x1), l2, l3, some (.int x4), some (.int x5), some (.int x6)] h h := by
  obtain ⟨vn, sn, -⟩ := nameQ G hs tp hq mt
  obtain ⟨vu, su, -⟩ := numQ G hs tp hq mt
  refine ⟨rfl, fun p l e R s m args below meth c n0 nF C hF => ?_⟩
  refine r_aload_n C rfl rfl dX6_readOne_213 ?_
  refine r_aload_n C rfl rfl dX6_readOne_214 ?_
  refine r_bipush C 59 rfl dX6_readOne_215 ?_
  refine r_callV C (isQ6 G hs tp hq mt) kv_X6_is kn_X6_is rfl dX6_readOne_217 cl_X6_262 ⟨Nat.le_of_ble_eq_true rfl, Nat.le_of_ble_eq_true rfl⟩ (by decide) rfl rfl (q_lt hs (by decide)) hF rfl (Nat.le_of_ble_eq_true rfl) ?_
  refine r_callV C (sp_tk1 G hs _ hf) kv_X6_take kn_X6_take rfl dX6_readOne_220 cl_X6_249 ⟨Nat.le_of_ble_eq_true rfl, Nat.le_of_ble_eq_true rfl⟩ (by decide) rfl rfl (q_lt hs (by decide)) hF rfl (Nat.le_of_ble_eq_true rfl) ?_
  exact (rs223 G hs tp hq mt hf).2 p l e R s m args below meth c n0 nF C hF

set_option maxHeartbeats 4000000 in
set_option maxRecDepth 100000 in
theorem rs176 (G : oG) {h : oH} (hs : oSh h) {z : Nat} {T : Nat → Int} (tp : tpM h z T) {q : Nat} (hq : q ≤ z) (mt : mT h T z q) (hf : (hI h 12 36).toInt ≠ 0) {x1 x4 x5 : Int32} {l2 l3 l6 : Option Value} : tO G 176 [some (.ref 12), some (.int x1), l2, l3, some (.int x4), some (.int x5), l6] h h := by
  obtain ⟨vn, sn, -⟩ := nameQ G hs tp hq mt
  obtain ⟨vu, su, -⟩ := numQ G hs tp hq mt
  refine ⟨rfl, fun p l e R s m args below meth c n0 nF C hF => ?_⟩
  refine r_iload C rfl dX6_readOne_176 ?_
  refine t_if_le C 188 (by decide) rfl dX6_readOne_178 (fun c178 => ?_) (fun c178 => ?_)
  · first
    | (exfalso; omega)
    |  (refine r_iconstv C 0 rfl dX6_readOne_188 ?_
        refine r_istore C rfl (Nat.le_of_ble_eq_true rfl) dX6_readOne_189 ?_
        refine r_iload C rfl dX6_readOne_191 ?_
        refine t_if_le C 213 (by decide) rfl dX6_readOne_193 (fun c193 => ?_) (fun c193 => ?_)
        · first
          | (exfalso; omega)
          |  (exact (rs213 G hs tp hq mt hf).2 p l e R s m args below meth c n0 nF C hF)
        · first
          | (exfalso; omega)
          |  (refine r_aload_n C rfl rfl dX6_readOne_196 ?_
              refine r_aload_n C rfl rfl dX6_readOne_197 ?_
              refine r_getI C dX6_readOne_198 fl_X6_218 rfl (q_lt hs (by decide)) ?_
              refine r_iconstv C 3 rfl dX6_readOne_201 ?_
              refine t_icmp_ne C 209 (by decide) rfl (show (3 : Int32).toInt = 3 from rfl) dX6_readOne_202 (fun c202 => ?_) (fun c202 => ?_)
              · first
                | (exfalso; omega)
                |  (refine r_iconstv C 0 rfl dX6_readOne_209 ?_
                    refine r_callV C (sp_tk1 G hs _ hf) kv_X6_take kn_X6_take rfl dX6_readOne_210 cl_X6_249 ⟨Nat.le_of_ble_eq_true rfl, Nat.le_of_ble_eq_true rfl⟩ (by decide) rfl rfl (q_lt hs (by decide)) hF rfl (Nat.le_of_ble_eq_true rfl) ?_
                    exact (rs213 G hs tp hq mt hf).2 p l e R s m args below meth c n0 nF C hF)
              · first
                | (exfalso; omega)
                |  (refine r_iconstv C 1 rfl dX6_readOne_205 ?_
                    refine r_goto C 210 (by decide) dX6_readOne_206 ?_
                    refine r_callV C (sp_tk1 G hs _ hf) kv_X6_take kn_X6_take rfl dX6_readOne_210 cl_X6_249 ⟨Nat.le_of_ble_eq_true rfl, Nat.le_of_ble_eq_true rfl⟩ (by decide) rfl rfl (q_lt hs (by decide)) hF rfl (Nat.le_of_ble_eq_true rfl) ?_
                    exact (rs213 G hs tp hq mt hf).2 p l e R s m args below meth c n0 nF C hF)))
  · first
    | (exfalso; omega)
    |  (refine r_aload_n C rfl rfl dX6_readOne_181 ?_
        refine r_callV C su kv_X6_number kn_X6_number rfl dX6_readOne_182 cl_X6_253 ⟨Nat.le_of_ble_eq_true rfl, Nat.le_of_ble_eq_true rfl⟩ (by decide) rfl rfl (q_lt hs (by decide)) hF rfl (Nat.le_of_ble_eq_true rfl) ?_
        refine r_goto C 189 (by decide) dX6_readOne_185 ?_
        refine r_istore C rfl (Nat.le_of_ble_eq_true rfl) dX6_readOne_189 ?_
        refine r_iload C rfl dX6_readOne_191 ?_
        refine t_if_le C 213 (by decide) rfl dX6_readOne_193 (fun c193 => ?_) (fun c193 => ?_)
        · first
          | (exfalso; omega)
          |  (exact (rs213 G hs tp hq mt hf).2 p l e R s m args below meth c n0 nF C hF)
        · first
          | (exfalso; omega)
          |  (refine r_aload_n C rfl rfl dX6_readOne_196 ?_
              refine r_aload_n C rfl rfl dX6_readOne_197 ?_
              refine r_getI C dX6_readOne_198 fl_X6_218 rfl (q_lt hs (by decide)) ?_
              refine r_iconstv C 3 rfl dX6_readOne_201 ?_
              refine t_icmp_ne C 209 (by decide) rfl (show (3 : Int32).toInt = 3 from rfl) dX6_readOne_202 (fun c202 => ?_) (fun c202 => ?_)
              · first
                | (exfalso; omega)
                |  (refine r_iconstv C 0 rfl dX6_readOne_209 ?_
                    refine r_callV C (sp_tk1 G hs _ hf) kv_X6_take kn_X6_take rfl dX6_readOne_210 cl_X6_249 ⟨Nat.le_of_ble_eq_true rfl, Nat.le_of_ble_eq_true rfl⟩ (by decide) rfl rfl (q_lt hs (by decide)) hF rfl (Nat.le_of_ble_eq_true rfl) ?_
                    exact (rs213 G hs tp hq mt hf).2 p l e R s m args below meth c n0 nF C hF)
              · first
                | (exfalso; omega)
                |  (refine r_iconstv C 1 rfl dX6_readOne_205 ?_
                    refine r_goto C 210 (by decide) dX6_readOne_206 ?_
                    refine r_callV C (sp_tk1 G hs _ hf) kv_X6_take kn_X6_take rfl dX6_readOne_210 cl_X6_249 ⟨Nat.le_of_ble_eq_true rfl, Nat.le_of_ble_eq_true rfl⟩ (by decide) rfl rfl (q_lt hs (by decide)) hF rfl (Nat.le_of_ble_eq_true rfl) ?_
                    exact (rs213 G hs tp hq mt hf).2 p l e R s m args below meth c n0 nF C hF)))

set_option maxHeartbeats 4000000 in
set_option maxRecDepth 100000 in
theorem rs166 (G : oG) {h : oH} (hs : oSh h) {z : Nat} {T : Nat → Int} (tp : tpM h z T) {q : Nat} (hq : q ≤ z) (mt : mT h T z q) (hf : (hI h 12 36).toInt ≠ 0) {x1 x4 x5 : Int32} {l2 l3 l6 : Option Value} : tO G 166 [some (.ref 12), some (.int x1), l2, l3, some (.int x4), some (.int x5), l6] h h := by
  obtain ⟨vn, sn, -⟩ := nameQ G hs tp hq mt
  obtain ⟨vu, su, -⟩ := numQ G hs tp hq mt
  refine ⟨rfl, fun p l e R s m args below meth c n0 nF C hF => ?_⟩
  refine r_aload_n C rfl rfl dX6_readOne_166 ?_
  refine r_aload_n C rfl rfl dX6_readOne_167 ?_
  refine r_bipush C 64 rfl dX6_readOne_168 ?_
  refine r_callV C (isQ7 G hs tp hq mt) kv_X6_is kn_X6_is rfl dX6_readOne_170 cl_X6_262 ⟨Nat.le_of_ble_eq_true rfl, Nat.le_of_ble_eq_true rfl⟩ (by decide) rfl rfl (q_lt hs (by decide)) hF rfl (Nat.le_of_ble_eq_true rfl) ?_
  refine r_callV C (sp_tk1 G hs _ hf) kv_X6_take kn_X6_take rfl dX6_readOne_173 cl_X6_249 ⟨Nat.le_of_ble_eq_true rfl, Nat.le_of_ble_eq_true rfl⟩ (by decide) rfl rfl (q_lt hs (by decide)) hF rfl (Nat.le_of_ble_eq_true rfl) ?_
  exact (rs176 G hs tp hq mt hf).2 p l e R s m args below meth c n0 nF C hF

set_option maxHeartbeats 4000000 in
set_option maxRecDepth 100000 in
theorem rs127 (G : oG) {h : oH} (hs : oSh h) {z : Nat} {T : Nat → Int} (tp : tpM h z T) {q : Nat} (hq : q ≤ z) (mt : mT h T z q) (hf : (hI h 12 36).toInt ≠ 0) {x1 x4 : Int32} {l2 l3 l5 l6 : Option Value} : tO G 127 [some (.ref 12), some (.int x1), l2, l3, some (.int x4), l5, l6] h h := by
  obtain ⟨vn, sn, -⟩ := nameQ G hs tp hq mt
  obtain ⟨vu, su, -⟩ := numQ G hs tp hq mt
  refine ⟨rfl, fun p l e R s m args below meth c n0 nF C hF => ?_⟩
  refine r_iload C rfl dX6_readOne_127 ?_
  refine r_iconstv C 2 rfl dX6_readOne_129 ?_
  refine t_icmp_ne C 140 (by decide) rfl (show (2 : Int32).toInt = 2 from rfl) dX6_readOne_130 (fun c130 => ?_) (fun c130 => ?_)
  · first
    | (exfalso; omega)
    |  (refine r_iconstv C 0 rfl dX6_readOne_140 ?_
        refine r_istore C rfl (Nat.le_of_ble_eq_true rfl) dX6_readOne_141 ?_
        refine r_iload C rfl dX6_readOne_143 ?_
        refine r_iconstv C 2 rfl dX6_readOne_145 ?_
        refine t_icmp_ne C 176 (by decide) rfl (show (2 : Int32).toInt = 2 from rfl) dX6_readOne_146 (fun c146 => ?_) (fun c146 => ?_)
        · first
          | (exfalso; omega)
          |  (exact (rs176 G hs tp hq mt hf).2 p l e R s m args below meth c n0 nF C hF)
        · first
          | (exfalso; omega)
          |  (refine r_aload_n C rfl rfl dX6_readOne_149 ?_
              refine r_aload_n C rfl rfl dX6_readOne_150 ?_
              refine r_getI C dX6_readOne_151 fl_X6_218 rfl (q_lt hs (by decide)) ?_
              refine r_iconstv C 3 rfl dX6_readOne_154 ?_
              refine t_icmp_ne C 162 (by decide) rfl (show (3 : Int32).toInt = 3 from rfl) dX6_readOne_155 (fun c155 => ?_) (fun c155 => ?_)
              · first
                | (exfalso; omega)
                |  (refine r_iconstv C 0 rfl dX6_readOne_162 ?_
                    refine r_callV C (sp_tk1 G hs _ hf) kv_X6_take kn_X6_take rfl dX6_readOne_163 cl_X6_249 ⟨Nat.le_of_ble_eq_true rfl, Nat.le_of_ble_eq_true rfl⟩ (by decide) rfl rfl (q_lt hs (by decide)) hF rfl (Nat.le_of_ble_eq_true rfl) ?_
                    exact (rs166 G hs tp hq mt hf).2 p l e R s m args below meth c n0 nF C hF)
              · first
                | (exfalso; omega)
                |  (refine r_iconstv C 1 rfl dX6_readOne_158 ?_
                    refine r_goto C 163 (by decide) dX6_readOne_159 ?_
                    refine r_callV C (sp_tk1 G hs _ hf) kv_X6_take kn_X6_take rfl dX6_readOne_163 cl_X6_249 ⟨Nat.le_of_ble_eq_true rfl, Nat.le_of_ble_eq_true rfl⟩ (by decide) rfl rfl (q_lt hs (by decide)) hF rfl (Nat.le_of_ble_eq_true rfl) ?_
                    exact (rs166 G hs tp hq mt hf).2 p l e R s m args below meth c n0 nF C hF)))
  · first
    | (exfalso; omega)
    |  (refine r_aload_n C rfl rfl dX6_readOne_133 ?_
        refine r_callV C su kv_X6_number kn_X6_number rfl dX6_readOne_134 cl_X6_253 ⟨Nat.le_of_ble_eq_true rfl, Nat.le_of_ble_eq_true rfl⟩ (by decide) rfl rfl (q_lt hs (by decide)) hF rfl (Nat.le_of_ble_eq_true rfl) ?_
        refine r_goto C 141 (by decide) dX6_readOne_137 ?_
        refine r_istore C rfl (Nat.le_of_ble_eq_true rfl) dX6_readOne_141 ?_
        refine r_iload C rfl dX6_readOne_143 ?_
        refine r_iconstv C 2 rfl dX6_readOne_145 ?_
        refine t_icmp_ne C 176 (by decide) rfl (show (2 : Int32).toInt = 2 from rfl) dX6_readOne_146 (fun c146 => ?_) (fun c146 => ?_)
        · first
          | (exfalso; omega)
          |  (exact (rs176 G hs tp hq mt hf).2 p l e R s m args below meth c n0 nF C hF)
        · first
          | (exfalso; omega)
          |  (refine r_aload_n C rfl rfl dX6_readOne_149 ?_
              refine r_aload_n C rfl rfl dX6_readOne_150 ?_
              refine r_getI C dX6_readOne_151 fl_X6_218 rfl (q_lt hs (by decide)) ?_
              refine r_iconstv C 3 rfl dX6_readOne_154 ?_
              refine t_icmp_ne C 162 (by decide) rfl (show (3 : Int32).toInt = 3 from rfl) dX6_readOne_155 (fun c155 => ?_) (fun c155 => ?_)
              · first
                | (exfalso; omega)
                |  (refine r_iconstv C 0 rfl dX6_readOne_162 ?_
                    refine r_callV C (sp_tk1 G hs _ hf) kv_X6_take kn_X6_take rfl dX6_readOne_163 cl_X6_249 ⟨Nat.le_of_ble_eq_true rfl, Nat.le_of_ble_eq_true rfl⟩ (by decide) rfl rfl (q_lt hs (by decide)) hF rfl (Nat.le_of_ble_eq_true rfl) ?_
                    exact (rs166 G hs tp hq mt hf).2 p l e R s m args below meth c n0 nF C hF)
              · first
                | (exfalso; omega)
                |  (refine r_iconstv C 1 rfl dX6_readOne_158 ?_
                    refine r_goto C 163 (by decide) dX6_readOne_159 ?_
                    refine r_callV C (sp_tk1 G hs _ hf) kv_X6_take kn_X6_take rfl dX6_readOne_163 cl_X6_249 ⟨Nat.le_of_ble_eq_true rfl, Nat.le_of_ble_eq_true rfl⟩ (by decide) rfl rfl (q_lt hs (by decide)) hF rfl (Nat.le_of_ble_eq_true rfl) ?_
                    exact (rs166 G hs tp hq mt hf).2 p l e R s m args below meth c n0 nF C hF)))

set_option maxHeartbeats 4000000 in
set_option maxRecDepth 100000 in
theorem rs73 (G : oG) {h : oH} (hs : oSh h) {z : Nat} {T : Nat → Int} (tp : tpM h z T) {q : Nat} (hq : q ≤ z) (mt : mT h T z q) (hf : (hI h 12 36).toInt ≠ 0) {x1 : Int32} {l2 l3 l4 l5 l6 : Option Value} : tO G 73 [some (.ref 12), some (.int x1), l2, l3, l4, l5, l6] h h := by
  obtain ⟨vn, sn, -⟩ := nameQ G hs tp hq mt
  obtain ⟨vu, su, -⟩ := numQ G hs tp hq mt
  refine ⟨rfl, fun p l e R s m args below meth c n0 nF C hF => ?_⟩
  refine r_aload_n C rfl rfl dX6_readOne_73 ?_
  refine r_callV C sn kv_X6_name kn_X6_name rfl dX6_readOne_74 cl_X6_243 ⟨Nat.le_of_ble_eq_true rfl, Nat.le_of_ble_eq_true rfl⟩ (by decide) rfl rfl (q_lt hs (by decide)) hF rfl (Nat.le_of_ble_eq_true rfl) ?_
  refine r_lstore_n C rfl (Nat.le_of_ble_eq_true rfl) dX6_readOne_77 ?_
  refine r_lload_n C rfl dX6_readOne_78 ?_
  refine r_ldc2 C _ ll_X6_256 dX6_readOne_79 ?_
  refine r_lcmp C dX6_readOne_82 ?_
  refine t_lcmp_ne C 90 (by decide) rfl (show (6513008 : Int64).toInt = 6513008 from rfl) dX6_readOne_83 (fun c83 => ?_) (fun c83 => ?_)
  · first
    | (exfalso; omega)
    |  (refine r_lload_n C rfl dX6_readOne_90 ?_
        refine r_ldc2 C _ ll_X6_258 dX6_readOne_91 ?_
        refine r_lcmp C dX6_readOne_94 ?_
        refine t_lcmp_ne C 102 (by decide) rfl (show (1885432164 : Int64).toInt = 1885432164 from rfl) dX6_readOne_95 (fun c95 => ?_) (fun c95 => ?_)
        · first
          | (exfalso; omega)
          |  (refine r_iconstv C 0 rfl dX6_readOne_102 ?_
              refine r_istore C rfl (Nat.le_of_ble_eq_true rfl) dX6_readOne_103 ?_
              refine r_aload_n C rfl rfl dX6_readOne_105 ?_
              refine r_iload C rfl dX6_readOne_106 ?_
              refine t_if_gt C 119 (by decide) (show (0 : Int32).toInt = 0 from rfl) dX6_readOne_108 (fun c108 => absurd c108 (by decide)) (fun c108 => ?_)
              refine r_lload_n C rfl dX6_readOne_111 ?_
              refine r_ldc2 C _ ll_X6_260 dX6_readOne_112 ?_
              refine r_lcmp C dX6_readOne_115 ?_
              refine t_lcmp_ne C 123 (by decide) rfl (show (6578553 : Int64).toInt = 6578553 from rfl) dX6_readOne_116 (fun c116 => ?_) (fun c116 => ?_)
              · first
                | (exfalso; omega)
                |  (refine r_iconstv C 0 rfl dX6_readOne_123 ?_
                    refine r_callV C (sp_tk1 G hs _ hf) kv_X6_take kn_X6_take rfl dX6_readOne_124 cl_X6_249 ⟨Nat.le_of_ble_eq_true rfl, Nat.le_of_ble_eq_true rfl⟩ (by decide) rfl rfl (q_lt hs (by decide)) hF rfl (Nat.le_of_ble_eq_true rfl) ?_
                    exact (rs127 G hs tp hq mt hf).2 p l e R s m args below meth c n0 nF C hF)
              · first
                | (exfalso; omega)
                |  (refine r_iconstv C 1 rfl dX6_readOne_119 ?_
                    refine r_goto C 124 (by decide) dX6_readOne_120 ?_
                    refine r_callV C (sp_tk1 G hs _ hf) kv_X6_take kn_X6_take rfl dX6_readOne_124 cl_X6_249 ⟨Nat.le_of_ble_eq_true rfl, Nat.le_of_ble_eq_true rfl⟩ (by decide) rfl rfl (q_lt hs (by decide)) hF rfl (Nat.le_of_ble_eq_true rfl) ?_
                    exact (rs127 G hs tp hq mt hf).2 p l e R s m args below meth c n0 nF C hF))
        · first
          | (exfalso; omega)
          |  (refine r_iconstv C 2 rfl dX6_readOne_98 ?_
              refine r_goto C 103 (by decide) dX6_readOne_99 ?_
              refine r_istore C rfl (Nat.le_of_ble_eq_true rfl) dX6_readOne_103 ?_
              refine r_aload_n C rfl rfl dX6_readOne_105 ?_
              refine r_iload C rfl dX6_readOne_106 ?_
              refine t_if_gt C 119 (by decide) (show (2 : Int32).toInt = 2 from rfl) dX6_readOne_108 (fun c108 => ?_) (fun c108 => absurd c108 (by decide))
              refine r_iconstv C 1 rfl dX6_readOne_119 ?_
              refine r_goto C 124 (by decide) dX6_readOne_120 ?_
              refine r_callV C (sp_tk1 G hs _ hf) kv_X6_take kn_X6_take rfl dX6_readOne_124 cl_X6_249 ⟨Nat.le_of_ble_eq_true rfl, Nat.le_of_ble_eq_true rfl⟩ (by decide) rfl rfl (q_lt hs (by decide)) hF rfl (Nat.le_of_ble_eq_true rfl) ?_
              exact (rs127 G hs tp hq mt hf).2 p l e R s m args below meth c n0 nF C hF))
  · first
    | (exfalso; omega)
    |  (refine r_iconstv C 1 rfl dX6_readOne_86 ?_
        refine r_goto C 103 (by decide) dX6_readOne_87 ?_
        refine r_istore C rfl (Nat.le_of_ble_eq_true rfl) dX6_readOne_103 ?_
        refine r_aload_n C rfl rfl dX6_readOne_105 ?_
        refine r_iload C rfl dX6_readOne_106 ?_
        refine t_if_gt C 119 (by decide) (show (1 : Int32).toInt = 1 from rfl) dX6_readOne_108 (fun c108 => ?_) (fun c108 => absurd c108 (by decide))
        refine r_iconstv C 1 rfl dX6_readOne_119 ?_
        refine r_goto C 124 (by decide) dX6_readOne_120 ?_
        refine r_callV C (sp_tk1 G hs _ hf) kv_X6_take kn_X6_take rfl dX6_readOne_124 cl_X6_249 ⟨Nat.le_of_ble_eq_true rfl, Nat.le_of_ble_eq_true rfl⟩ (by decide) rfl rfl (q_lt hs (by decide)) hF rfl (Nat.le_of_ble_eq_true rfl) ?_
        exact (rs127 G hs tp hq mt hf).2 p l e R s m args below meth c n0 nF C hF)

set_option maxHeartbeats 4000000 in
set_option maxRecDepth 100000 in
theorem rs20 (G : oG) {h : oH} (hs : oSh h) {z : Nat} {T : Nat → Int} (tp : tpM h z T) {q : Nat} (hq : q ≤ z) (mt : mT h T z q) (hf : (hI h 12 36).toInt ≠ 0) {l1 l2 l3 l4 l5 l6 : Option Value} : tO G 20 [some (.ref 12), l1, l2, l3, l4, l5, l6] h h := by
  obtain ⟨vn, sn, -⟩ := nameQ G hs tp hq mt
  obtain ⟨vu, su, -⟩ := numQ G hs tp hq mt
  refine ⟨rfl, fun p l e R s m args below meth c n0 nF C hF => ?_⟩
  refine r_aload_n C rfl rfl dX6_readOne_20 ?_
  refine r_getI C dX6_readOne_21 fl_X6_230 rfl (q_lt hs (by decide)) ?_
  refine t_if_ne C 51 (by decide) rfl dX6_readOne_24 (fun c24 => ?_) (fun c24 => ?_)
  · first
    | (exfalso; omega)
    |  (refine r_aload_n C rfl rfl dX6_readOne_51 ?_
        refine r_callV C su kv_X6_number kn_X6_number rfl dX6_readOne_52 cl_X6_253 ⟨Nat.le_of_ble_eq_true rfl, Nat.le_of_ble_eq_true rfl⟩ (by decide) rfl rfl (q_lt hs (by decide)) hF rfl (Nat.le_of_ble_eq_true rfl) ?_
        refine r_istore_n C rfl (Nat.le_of_ble_eq_true rfl) dX6_readOne_55 ?_
        refine r_aload_n C rfl rfl dX6_readOne_56 ?_
        refine r_aload_n C rfl rfl dX6_readOne_57 ?_
        refine r_getI C dX6_readOne_58 fl_X6_218 rfl (q_lt hs (by decide)) ?_
        refine r_iconstv C 3 rfl dX6_readOne_61 ?_
        refine t_icmp_ne C 69 (by decide) rfl (show (3 : Int32).toInt = 3 from rfl) dX6_readOne_62 (fun c62 => ?_) (fun c62 => ?_)
        · first
          | (exfalso; omega)
          |  (refine r_iconstv C 0 rfl dX6_readOne_69 ?_
              refine r_callV C (sp_tk1 G hs _ hf) kv_X6_take kn_X6_take rfl dX6_readOne_70 cl_X6_249 ⟨Nat.le_of_ble_eq_true rfl, Nat.le_of_ble_eq_true rfl⟩ (by decide) rfl rfl (q_lt hs (by decide)) hF rfl (Nat.le_of_ble_eq_true rfl) ?_
              exact (rs73 G hs tp hq mt hf).2 p l e R s m args below meth c n0 nF C hF)
        · first
          | (exfalso; omega)
          |  (refine r_iconstv C 1 rfl dX6_readOne_65 ?_
              refine r_goto C 70 (by decide) dX6_readOne_66 ?_
              refine r_callV C (sp_tk1 G hs _ hf) kv_X6_take kn_X6_take rfl dX6_readOne_70 cl_X6_249 ⟨Nat.le_of_ble_eq_true rfl, Nat.le_of_ble_eq_true rfl⟩ (by decide) rfl rfl (q_lt hs (by decide)) hF rfl (Nat.le_of_ble_eq_true rfl) ?_
              exact (rs73 G hs tp hq mt hf).2 p l e R s m args below meth c n0 nF C hF))
  · first
    | (exfalso; omega)
    |  (refine r_aload_n C rfl rfl dX6_readOne_27 ?_
        refine r_getI C dX6_readOne_28 fl_X6_218 rfl (q_lt hs (by decide)) ?_
        refine r_iconstv C 3 rfl dX6_readOne_31 ?_
        refine t_icmp_ne C 51 (by decide) rfl (show (3 : Int32).toInt = 3 from rfl) dX6_readOne_32 (fun c32 => ?_) (fun c32 => ?_)
        · first
          | (exfalso; omega)
          |  (refine r_aload_n C rfl rfl dX6_readOne_51 ?_
              refine r_callV C su kv_X6_number kn_X6_number rfl dX6_readOne_52 cl_X6_253 ⟨Nat.le_of_ble_eq_true rfl, Nat.le_of_ble_eq_true rfl⟩ (by decide) rfl rfl (q_lt hs (by decide)) hF rfl (Nat.le_of_ble_eq_true rfl) ?_
              refine r_istore_n C rfl (Nat.le_of_ble_eq_true rfl) dX6_readOne_55 ?_
              refine r_aload_n C rfl rfl dX6_readOne_56 ?_
              refine r_aload_n C rfl rfl dX6_readOne_57 ?_
              refine r_getI C dX6_readOne_58 fl_X6_218 rfl (q_lt hs (by decide)) ?_
              refine r_iconstv C 3 rfl dX6_readOne_61 ?_
              refine t_icmp_ne C 69 (by decide) rfl (show (3 : Int32).toInt = 3 from rfl) dX6_readOne_62 (fun c62 => ?_) (fun c62 => ?_)
              · first
                | (exfalso; omega)
                |  (refine r_iconstv C 0 rfl dX6_readOne_69 ?_
                    refine r_callV C (sp_tk1 G hs _ hf) kv_X6_take kn_X6_take rfl dX6_readOne_70 cl_X6_249 ⟨Nat.le_of_ble_eq_true rfl, Nat.le_of_ble_eq_true rfl⟩ (by decide) rfl rfl (q_lt hs (by decide)) hF rfl (Nat.le_of_ble_eq_true rfl) ?_
                    exact (rs73 G hs tp hq mt hf).2 p l e R s m args below meth c n0 nF C hF)
              · first
                | (exfalso; omega)
                |  (refine r_iconstv C 1 rfl dX6_readOne_65 ?_
                    refine r_goto C 70 (by decide) dX6_readOne_66 ?_
                    refine r_callV C (sp_tk1 G hs _ hf) kv_X6_take kn_X6_take rfl dX6_readOne_70 cl_X6_249 ⟨Nat.le_of_ble_eq_true rfl, Nat.le_of_ble_eq_true rfl⟩ (by decide) rfl rfl (q_lt hs (by decide)) hF rfl (Nat.le_of_ble_eq_true rfl) ?_
                    exact (rs73 G hs tp hq mt hf).2 p l e R s m args below meth c n0 nF C hF))
        · first
          | (exfalso; omega)
          |  (refine r_aload_n C rfl rfl dX6_readOne_35 ?_
              refine r_aload_n C rfl rfl dX6_readOne_36 ?_
              refine r_callV C su kv_X6_number kn_X6_number rfl dX6_readOne_37 cl_X6_253 ⟨Nat.le_of_ble_eq_true rfl, Nat.le_of_ble_eq_true rfl⟩ (by decide) rfl rfl (q_lt hs (by decide)) hF rfl (Nat.le_of_ble_eq_true rfl) ?_
              refine r_callV C (absurd trivial hf) kv_X6_isHouse kn_X6_isHouse rfl dX6_readOne_40 cl_X6_108 ⟨Nat.le_of_ble_eq_true rfl, Nat.le_of_ble_eq_true rfl⟩ (by decide) rfl rfl (q_lt hs (by decide)) hF rfl (Nat.le_of_ble_eq_true rfl) ?_
              refine t_ifb_ne C 51 (by decide) dX6_readOne_43 (fun c43 => ?_) (fun c43 => ?_)
              · first
                | (exfalso; omega)
                |  (refine r_aload_n C rfl rfl dX6_readOne_51 ?_
                    refine r_callV C su kv_X6_number kn_X6_number rfl dX6_readOne_52 cl_X6_253 ⟨Nat.le_of_ble_eq_true rfl, Nat.le_of_ble_eq_true rfl⟩ (by decide) rfl rfl (q_lt hs (by decide)) hF rfl (Nat.le_of_ble_eq_true rfl) ?_
                    refine r_istore_n C rfl (Nat.le_of_ble_eq_true rfl) dX6_readOne_55 ?_
                    refine r_aload_n C rfl rfl dX6_readOne_56 ?_
                    refine r_aload_n C rfl rfl dX6_readOne_57 ?_
                    refine r_getI C dX6_readOne_58 fl_X6_218 rfl (q_lt hs (by decide)) ?_
                    refine r_iconstv C 3 rfl dX6_readOne_61 ?_
                    refine t_icmp_ne C 69 (by decide) rfl (show (3 : Int32).toInt = 3 from rfl) dX6_readOne_62 (fun c62 => ?_) (fun c62 => ?_)
                    · first
                      | (exfalso; omega)
                      |  (refine r_iconstv C 0 rfl dX6_readOne_69 ?_
                          refine r_callV C (sp_tk1 G hs _ hf) kv_X6_take kn_X6_take rfl dX6_readOne_70 cl_X6_249 ⟨Nat.le_of_ble_eq_true rfl, Nat.le_of_ble_eq_true rfl⟩ (by decide) rfl rfl (q_lt hs (by decide)) hF rfl (Nat.le_of_ble_eq_true rfl) ?_
                          exact (rs73 G hs tp hq mt hf).2 p l e R s m args below meth c n0 nF C hF)
                    · first
                      | (exfalso; omega)
                      |  (refine r_iconstv C 1 rfl dX6_readOne_65 ?_
                          refine r_goto C 70 (by decide) dX6_readOne_66 ?_
                          refine r_callV C (sp_tk1 G hs _ hf) kv_X6_take kn_X6_take rfl dX6_readOne_70 cl_X6_249 ⟨Nat.le_of_ble_eq_true rfl, Nat.le_of_ble_eq_true rfl⟩ (by decide) rfl rfl (q_lt hs (by decide)) hF rfl (Nat.le_of_ble_eq_true rfl) ?_
                          exact (rs73 G hs tp hq mt hf).2 p l e R s m args below meth c n0 nF C hF))
              · first
                | (exfalso; omega)
                |  (refine r_aload_n C rfl rfl dX6_readOne_46 ?_
                    refine r_iconstv C 2 rfl dX6_readOne_47 ?_
                    refine r_callV C (absurd trivial hf) kv_X6_bad kn_X6_bad rfl dX6_readOne_48 cl_X6_236 ⟨Nat.le_of_ble_eq_true rfl, Nat.le_of_ble_eq_true rfl⟩ (by decide) rfl rfl (q_lt hs (by decide)) hF rfl (Nat.le_of_ble_eq_true rfl) ?_
                    refine r_aload_n C rfl rfl dX6_readOne_51 ?_
                    refine r_callV C su kv_X6_number kn_X6_number rfl dX6_readOne_52 cl_X6_253 ⟨Nat.le_of_ble_eq_true rfl, Nat.le_of_ble_eq_true rfl⟩ (by decide) rfl rfl (q_lt hs (by decide)) hF rfl (Nat.le_of_ble_eq_true rfl) ?_
                    refine r_istore_n C rfl (Nat.le_of_ble_eq_true rfl) dX6_readOne_55 ?_
                    refine r_aload_n C rfl rfl dX6_readOne_56 ?_
                    refine r_aload_n C rfl rfl dX6_readOne_57 ?_
                    refine r_getI C dX6_readOne_58 fl_X6_218 rfl (q_lt hs (by decide)) ?_
                    refine r_iconstv C 3 rfl dX6_readOne_61 ?_
                    refine t_icmp_ne C 69 (by decide) rfl (show (3 : Int32).toInt = 3 from rfl) dX6_readOne_62 (fun c62 => ?_) (fun c62 => ?_)
                    · first
                      | (exfalso; omega)
                      |  (refine r_iconstv C 0 rfl dX6_readOne_69 ?_
                          refine r_callV C (sp_tk1 G hs _ hf) kv_X6_take kn_X6_take rfl dX6_readOne_70 cl_X6_249 ⟨Nat.le_of_ble_eq_true rfl, Nat.le_of_ble_eq_true rfl⟩ (by decide) rfl rfl (q_lt hs (by decide)) hF rfl (Nat.le_of_ble_eq_true rfl) ?_
                          exact (rs73 G hs tp hq mt hf).2 p l e R s m args below meth c n0 nF C hF)
                    · first
                      | (exfalso; omega)
                      |  (refine r_iconstv C 1 rfl dX6_readOne_65 ?_
                          refine r_goto C 70 (by decide) dX6_readOne_66 ?_
                          refine r_callV C (sp_tk1 G hs _ hf) kv_X6_take kn_X6_take rfl dX6_readOne_70 cl_X6_249 ⟨Nat.le_of_ble_eq_true rfl, Nat.le_of_ble_eq_true rfl⟩ (by decide) rfl rfl (q_lt hs (by decide)) hF rfl (Nat.le_of_ble_eq_true rfl) ?_
                          exact (rs73 G hs tp hq mt hf).2 p l e R s m args below meth c n0 nF C hF))))

set_option maxHeartbeats 4000000 in
set_option maxRecDepth 100000 in
theorem rs51 (G : oG) {h : oH} (hs : oSh h) {z : Nat} {T : Nat → Int} (tp : tpM h z T) {q : Nat} (hq : q ≤ z) (mt : mT h T z q) (hf : (hI h 12 36).toInt ≠ 0) {l1 l2 l3 l4 l5 l6 : Option Value} : tO G 51 [some (.ref 12), l1, l2, l3, l4, l5, l6] h h := by
  obtain ⟨vn, sn, -⟩ := nameQ G hs tp hq mt
  obtain ⟨vu, su, -⟩ := numQ G hs tp hq mt
  refine ⟨rfl, fun p l e R s m args below meth c n0 nF C hF => ?_⟩
  refine r_aload_n C rfl rfl dX6_readOne_51 ?_
  refine r_callV C su kv_X6_number kn_X6_number rfl dX6_readOne_52 cl_X6_253 ⟨Nat.le_of_ble_eq_true rfl, Nat.le_of_ble_eq_true rfl⟩ (by decide) rfl rfl (q_lt hs (by decide)) hF rfl (Nat.le_of_ble_eq_true rfl) ?_
  refine r_istore_n C rfl (Nat.le_of_ble_eq_true rfl) dX6_readOne_55 ?_
  refine r_aload_n C rfl rfl dX6_readOne_56 ?_
  refine r_aload_n C rfl rfl dX6_readOne_57 ?_
  refine r_getI C dX6_readOne_58 fl_X6_218 rfl (q_lt hs (by decide)) ?_
  refine r_iconstv C 3 rfl dX6_readOne_61 ?_
  refine t_icmp_ne C 69 (by decide) rfl (show (3 : Int32).toInt = 3 from rfl) dX6_readOne_62 (fun c62 => ?_) (fun c62 => ?_)
  · first
    | (exfalso; omega)
    |  (refine r_iconstv C 0 rfl dX6_readOne_69 ?_
        refine r_callV C (sp_tk1 G hs _ hf) kv_X6_take kn_X6_take rfl dX6_readOne_70 cl_X6_249 ⟨Nat.le_of_ble_eq_true rfl, Nat.le_of_ble_eq_true rfl⟩ (by decide) rfl rfl (q_lt hs (by decide)) hF rfl (Nat.le_of_ble_eq_true rfl) ?_
        exact (rs73 G hs tp hq mt hf).2 p l e R s m args below meth c n0 nF C hF)
  · first
    | (exfalso; omega)
    |  (refine r_iconstv C 1 rfl dX6_readOne_65 ?_
        refine r_goto C 70 (by decide) dX6_readOne_66 ?_
        refine r_callV C (sp_tk1 G hs _ hf) kv_X6_take kn_X6_take rfl dX6_readOne_70 cl_X6_249 ⟨Nat.le_of_ble_eq_true rfl, Nat.le_of_ble_eq_true rfl⟩ (by decide) rfl rfl (q_lt hs (by decide)) hF rfl (Nat.le_of_ble_eq_true rfl) ?_
        exact (rs73 G hs tp hq mt hf).2 p l e R s m args below meth c n0 nF C hF)

