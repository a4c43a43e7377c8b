/-! the reference reads a plan, piece by piece -/
def okM (T : Nat → Int) (z : Nat) (h hf : oH) (q' : Nat) (y : Int32 × Int32 × Int32 × Int32) (j : Nat) : Prop := hf.1 = h.1 ∧ (∀ a y, hR hf a y = hR h a y) ∧ (∀ a y, hJ hf a y = hJ h a y) ∧ mT hf T z q' ∧ (hI hf 12 36).toInt = 0 ∧ (hI hf 12 38).toInt = (j : Int) + 1 ∧ (hI hf 30 j = y.1 ∧ hI hf 31 j = y.2.1 ∧ hI hf 32 j = y.2.2.1 ∧ hI hf 33 j = y.2.2.2) ∧ (∀ a y, 30 ≤ a → a ≤ 33 → y ≠ j → hI hf a y = hI h a y) ∧ ∀ a y, ¬ (a = 12 ∧ 32 ≤ y ∧ y ≤ 38) → ¬ (30 ≤ a ∧ a ≤ 33) → hI hf a y = hI h a y
def flM (h hf : oH) (f s : Nat) : Prop := hf.1 = h.1 ∧ (∀ a y, hR hf a y = hR h a y) ∧ (∀ a y, hJ hf a y = hJ h a y) ∧ (hI hf 12 36).toInt = (f : Int) ∧ (hI hf 12 37).toInt = (s : Int) ∧ ∀ a y, ¬ (a = 12 ∧ 32 ≤ y ∧ y ≤ 38) → hI hf a y = hI h a y
theorem okM.fk {T : Nat → Int} {z : Nat} {h h' hf : oH} {q' j : Nat} {y : Int32 × Int32 × Int32 × Int32} (f : frK h h') (o : okM T z h' hf q' y j) : okM T z h hf q' y j := by
  obtain ⟨a1, a2, a3, a4, a5, a6, a7, a8, a9⟩ := o
  exact ⟨a1.trans f.1, fun a y => (a2 a y).trans (f.2.1 a y), fun a y => (a3 a y).trans (f.2.2.1 a y), a4, a5, a6, a7, fun a y c1 c2 c3 => (a8 a y c1 c2 c3).trans (f.2.2.2 a y (by omega)), fun a y c1 c2 => (a9 a y c1 c2).trans (f.2.2.2 a y (by omega))⟩
theorem flM.fk {h h' hf : oH} {g s : Nat} (f : frK h h') (o : flM h' hf g s) : flM h hf g s := by
  obtain ⟨a1, a2, a3, a4, a5, a6⟩ := o
  exact ⟨a1.trans f.1, fun a y => (a2 a y).trans (f.2.1 a y), fun a y => (a3 a y).trans (f.2.2.1 a y), a4, a5, fun a y c1 => (a6 a y c1).trans (f.2.2.2 a y (by omega))⟩
theorem flM.bd {h : oH} {T : Nat → Int} {z q g : Nat} (mt : mT h T z q) {v : Int32} (hv : v.toInt = (g : Int)) : flM h (bdH h v) g (xS T z q) := ⟨rfl, fun _ _ => rfl, fun _ _ => rfl, by rw [bdH_f]; exact hv, by rw [bdH_s]; exact mt.2.2.1, fun a y c1 => bdH_o (by omega)⟩
theorem tO.cv {G : oG} {pc pc' : Nat} {L L' : List (Option Value)} {h h' : oH} (q : ∀ hf, tO G pc' L' h' hf → tO G pc L h hf) {hf : oH} (t : tO G pc' L' h' hf) : tO G pc L h hf := q hf t
set_option maxHeartbeats 4000000 in
set_option maxRecDepth 100000 in
theorem s213b (G : oG) {h : oH} (hs : oSh h) {z : Nat} {T : Nat → Int} (tp : tpM h z T) {q : Nat} (hq : q ≤ z) (mt : mT h T z q) (hf : (hI h 12 36).toInt = 0) {x1 x4 x5 x6 : Int32} {l2 l3 : Option Value} (hk : xK T z q ≠ 6) : tO G 213 [some (.ref 12), some (.int x1), l2, l3, some (.int x4), some (.int x5), some (.int x6)] h (bdH h 1) := by
  have hsb : oSh (bdH h 1) := hs
  have tpb : tpM (bdH h 1) z T := tp.fr (bdH_o (by omega)) (fun j => bdH_o (by omega))
  have mtb : mT (bdH h 1) T z q := mt.fr (fun y _ _ => bdH_o (by omega))
  have hfb : (hI (bdH h 1) 12 36).toInt ≠ 0 := by rw [bdH_f]; decide
  refine ⟨rfl, fun p l e R s m args below meth c n0 nF C hF => ?_⟩
  refine r_aload_n C rfl rfl dX6_readOne_213 ?_
  refine r_aload_n C rfl rfl dX6_readOne_214 ?_
  refine r_bipush C 59 rfl dX6_readOne_215 ?_
  refine r_callV C (isQ6 G hs tp hq mt) kv_X6_is kn_X6_is rfl dX6_readOne_217 cl_X6_262 ⟨Nat.le_of_ble_eq_true rfl, Nat.le_of_ble_eq_true rfl⟩ (by decide) rfl rfl (q_lt hs (by decide)) hF rfl (Nat.le_of_ble_eq_true rfl) ?_
  refine r_callV C (sp_tk0 G hs _ (by rw [b1_f hk]; rfl) hf) kv_X6_take kn_X6_take rfl dX6_readOne_220 cl_X6_249 ⟨Nat.le_of_ble_eq_true rfl, Nat.le_of_ble_eq_true rfl⟩ (by decide) rfl rfl (q_lt hs (by decide)) hF rfl (Nat.le_of_ble_eq_true rfl) ?_
  exact (rs223 G hsb tpb hq mtb hfb).2 p l e R s m args below meth c n0 nF C hF

set_option maxHeartbeats 4000000 in
set_option maxRecDepth 100000 in
theorem s213 (G : oG) {h : oH} (hs : oSh h) {z : Nat} {T : Nat → Int} (tp : tpM h z T) {q : Nat} (hq : q ≤ z) (mt : mT h T z q) (hf : (hI h 12 36).toInt = 0) {x1 x4 x5 x6 : Int32} {l2 l3 : Option Value} (hk : xK T z q = 6) {j : Nat} (hj : (hI h 12 38).toInt = (j : Int)) (hj4 : j < 40) : ∃ hf, tO G 213 [some (.ref 12), some (.int x1), l2, l3, some (.int x4), some (.int x5), some (.int x6)] h hf ∧ okM T z h hf (xE T z q) (x1, x4, x5, x6) j := by
  obtain ⟨h1, sp1, m1, f1⟩ := takeQ G hs tp hq mt hf (b1 (xK T z q = 6)) (by rw [b1_t hk]; decide)
  have hs1 := hs.fk f1
  have hf1 : (hI h1 12 36).toInt = 0 := by rw [f1.2.2.2 12 36 (by omega)]; exact hf
  have hj1 : (hI h1 12 38).toInt = (j : Int) := by rw [f1.2.2.2 12 38 (by omega)]; exact hj
  have hn1 := f1.1
  refine ⟨sI (sI (sI (sI (sI h1 30 j x1) 31 j x4) 32 j x5) 33 j x6) 12 38 (hI (sI (sI (sI (sI h1 30 j x1) 31 j x4) 32 j x5) 33 j x6) 12 38 + 1), ⟨hn1, fun p l e R s m args below meth c n0 nF C hF => ?_⟩, hn1, f1.2.1, f1.2.2.1, m1.fr (fun y c1 c2 => ?_), ?_, ?_, ⟨?_, ?_, ?_, ?_⟩, fun a y c1 c2 c3 => ?_, fun a y c1 c2 => ?_⟩
  · refine r_aload_n C rfl rfl dX6_readOne_213 ?_
    refine r_aload_n C rfl rfl dX6_readOne_214 ?_
    refine r_bipush C 59 rfl dX6_readOne_215 ?_
    refine r_callV C (isQ6 G hs tp hq mt) kv_X6_is kn_X6_is rfl dX6_readOne_217 cl_X6_262 ⟨Nat.le_of_ble_eq_true rfl, Nat.le_of_ble_eq_true rfl⟩ (by decide) rfl rfl (q_lt hs (by decide)) hF rfl (Nat.le_of_ble_eq_true rfl) ?_
    refine r_callV C sp1 kv_X6_take kn_X6_take rfl dX6_readOne_220 cl_X6_249 ⟨Nat.le_of_ble_eq_true rfl, Nat.le_of_ble_eq_true rfl⟩ (by decide) rfl rfl (q_lt hs (by decide)) (by rw [hn1]; exact hF) rfl (Nat.le_of_ble_eq_true rfl) ?_
    have hs := hs1
    refine r_aload_n C rfl rfl dX6_readOne_223 ?_
    refine r_getI C dX6_readOne_224 fl_X6_230 rfl (q_lt hs (by decide)) ?_
    refine t_if_ne C 283 (by decide) hf1 dX6_readOne_227 (fun c227 => ?_) (fun c227 => ?_)
    · first
      | (exfalso; omega)
      |  (exact r_vret C dX6_readOne_283 rfl (by show h1.1 ≤ nF; rw [hn1]; exact hF) rfl)
    · first
      | (exfalso; omega)
      |  (refine r_aload_n C rfl rfl dX6_readOne_230 ?_
          refine r_getO C dX6_readOne_231 fl_X6_75 rfl rfl (q_lt hs (by decide)) (sh_12_39 hs) ?_
          refine r_aload_n C rfl rfl dX6_readOne_234 ?_
          refine r_getI C dX6_readOne_235 fl_X6_265 rfl (q_lt hs (by decide)) ?_
          refine r_iload_n C rfl dX6_readOne_238 ?_
          refine r_iast C (j) hj1 (by omega) dX6_readOne_239 rfl (q_lt hs (by decide)) ?_
          refine r_aload_n C rfl rfl dX6_readOne_240 ?_
          refine r_getO C dX6_readOne_241 fl_X6_78 rfl rfl (q_lt hs (by decide)) (sh_12_40 hs) ?_
          refine r_aload_n C rfl rfl dX6_readOne_244 ?_
          refine r_getI C dX6_readOne_245 fl_X6_265 rfl (q_lt hs (by decide)) ?_
          refine r_iload C rfl dX6_readOne_248 ?_
          refine r_iast C (j) hj1 (by omega) dX6_readOne_250 rfl (q_lt hs (by decide)) ?_
          refine r_aload_n C rfl rfl dX6_readOne_251 ?_
          refine r_getO C dX6_readOne_252 fl_X6_81 rfl rfl (q_lt hs (by decide)) (sh_12_41 hs) ?_
          refine r_aload_n C rfl rfl dX6_readOne_255 ?_
          refine r_getI C dX6_readOne_256 fl_X6_265 rfl (q_lt hs (by decide)) ?_
          refine r_iload C rfl dX6_readOne_259 ?_
          refine r_iast C (j) hj1 (by omega) dX6_readOne_261 rfl (q_lt hs (by decide)) ?_
          refine r_aload_n C rfl rfl dX6_readOne_262 ?_
          refine r_getO C dX6_readOne_263 fl_X6_84 rfl rfl (q_lt hs (by decide)) (sh_12_42 hs) ?_
          refine r_aload_n C rfl rfl dX6_readOne_266 ?_
          refine r_getI C dX6_readOne_267 fl_X6_265 rfl (q_lt hs (by decide)) ?_
          refine r_iload C rfl dX6_readOne_270 ?_
          refine r_iast C (j) hj1 (by omega) dX6_readOne_272 rfl (q_lt hs (by decide)) ?_
          refine r_aload_n C rfl rfl dX6_readOne_273 ?_
          refine r_dup C rfl dX6_readOne_274 ?_
          refine r_getI C dX6_readOne_275 fl_X6_265 rfl (q_lt hs (by decide)) ?_
          refine r_iconstv C 1 rfl dX6_readOne_278 ?_
          refine r_iadd C dX6_readOne_279 ?_
          refine r_putI C dX6_readOne_280 fl_X6_265 rfl (q_lt hs (by decide)) (Or.inl rfl) ?_
          exact r_vret C dX6_readOne_283 rfl (by show h1.1 ≤ nF; rw [hn1]; exact hF) rfl)
  · (repeat rw [sI_ne (by omega)])
  · (repeat rw [sI_ne (by omega)])
    exact hf1
  · rw [sI_eq ⟨rfl, rfl⟩]
    (repeat rw [sI_ne (by omega)])
    exact tA hj1 (show (1 : Int32).toInt = 1 from rfl) (by omega)
  · rw [sI_ne (by omega), sI_ne (by omega), sI_ne (by omega), sI_ne (by omega), sI_eq ⟨rfl, rfl⟩]
  · rw [sI_ne (by omega), sI_ne (by omega), sI_ne (by omega), sI_eq ⟨rfl, rfl⟩]
  · rw [sI_ne (by omega), sI_ne (by omega), sI_eq ⟨rfl, rfl⟩]
  · rw [sI_ne (by omega), sI_eq ⟨rfl, rfl⟩]
  · (repeat rw [sI_ne (by omega)])
    exact f1.2.2.2 a y (by omega)
  · (repeat rw [sI_ne (by omega)])
    exact f1.2.2.2 a y (by omega)

set_option maxHeartbeats 4000000 in
set_option maxRecDepth 100000 in
theorem s176z (G : oG) {h : oH} (hs : oSh h) {z : Nat} {T : Nat → Int} (tp : tpM h z T) {q : Nat} (hq : q ≤ z) (mt : mT h T z q) (hf : (hI h 12 36).toInt = 0) {x1 x4 x5 : Int32} {l2 l3 l6 : Option Value} (h4 : x4.toInt = 0) {hg : oH} (t : tO G 213 [some (.ref 12), some (.int x1), l2, l3, some (.int x4), some (.int x5), some (.int 0)] h hg) : tO G 176 [some (.ref 12), some (.int x1), l2, l3, some (.int x4), some (.int x5), l6] h hg := by
  refine ⟨t.1, fun p l e R s m args below meth c n0 nF C hF => ?_⟩
  refine r_iload C rfl dX6_readOne_176 ?_
  refine t_if_le C 188 (by decide) h4 dX6_readOne_178 (fun c178 => ?_) (fun c178 => ?_)
  · first
    | (exfalso; omega)
    |  (refine r_iconstv C 0 rfl dX6_readOne_188 ?_
        refine r_istore C rfl (Nat.le_of_ble_eq_true rfl) dX6_readOne_189 ?_
        refine r_iload C rfl dX6_readOne_191 ?_
        refine t_if_le C 213 (by decide) h4 dX6_readOne_193 (fun c193 => ?_) (fun c193 => ?_)
        · first
          | (exfalso; omega)
          |  (exact t.2 p l e R s m args below meth c n0 nF C hF)
        · first
          | (exfalso; omega)
          |  (refine r_aload_n C rfl rfl dX6_readOne_196 ?_
              refine r_aload_n C rfl rfl dX6_readOne_197 ?_
              refine r_getI C dX6_readOne_198 fl_X6_218 rfl (q_lt hs (by decide)) ?_
              refine r_iconstv C 3 rfl dX6_readOne_201 ?_
              refine t_icmp_ne C 209 (by decide) mt.2.1 (show (3 : Int32).toInt = 3 from rfl) dX6_readOne_202 (fun c202 => ?_) (fun c202 => ?_)
              · first
                | (exfalso; omega)
                |  (refine r_iconstv C 0 rfl dX6_readOne_209 ?_
                    refine r_callV C (absurd trivial hf) kv_X6_take kn_X6_take rfl dX6_readOne_210 cl_X6_249 ⟨Nat.le_of_ble_eq_true rfl, Nat.le_of_ble_eq_true rfl⟩ (by decide) rfl rfl (q_lt hs (by decide)) hF rfl (Nat.le_of_ble_eq_true rfl) ?_
                    exact t.2 p l e R s m args below meth c n0 nF C hF)
              · first
                | (exfalso; omega)
                |  (refine r_iconstv C 1 rfl dX6_readOne_205 ?_
                    refine r_goto C 210 (by decide) dX6_readOne_206 ?_
                    refine r_callV C (absurd trivial hf) kv_X6_take kn_X6_take rfl dX6_readOne_210 cl_X6_249 ⟨Nat.le_of_ble_eq_true rfl, Nat.le_of_ble_eq_true rfl⟩ (by decide) rfl rfl (q_lt hs (by decide)) hF rfl (Nat.le_of_ble_eq_true rfl) ?_
                    exact t.2 p l e R s m args below meth c n0 nF C hF)))
  · first
    | (exfalso; omega)
    |  (refine r_aload_n C rfl rfl dX6_readOne_181 ?_
        refine r_callV C (absurd trivial hf) kv_X6_number kn_X6_number rfl dX6_readOne_182 cl_X6_253 ⟨Nat.le_of_ble_eq_true rfl, Nat.le_of_ble_eq_true rfl⟩ (by decide) rfl rfl (q_lt hs (by decide)) hF rfl (Nat.le_of_ble_eq_true rfl) ?_
        refine r_goto C 189 (by decide) dX6_readOne_185 ?_
        refine r_istore C rfl (Nat.le_of_ble_eq_true rfl) dX6_readOne_189 ?_
        refine r_iload C rfl dX6_readOne_191 ?_
        refine t_if_le C 213 (by decide) h4 dX6_readOne_193 (fun c193 => ?_) (fun c193 => ?_)
        · first
          | (exfalso; omega)
          |  (exact t.2 p l e R s m args below meth c n0 nF C hF)
        · first
          | (exfalso; omega)
          |  (refine r_aload_n C rfl rfl dX6_readOne_196 ?_
              refine r_aload_n C rfl rfl dX6_readOne_197 ?_
              refine r_getI C dX6_readOne_198 fl_X6_218 rfl (q_lt hs (by decide)) ?_
              refine r_iconstv C 3 rfl dX6_readOne_201 ?_
              refine t_icmp_ne C 209 (by decide) mt.2.1 (show (3 : Int32).toInt = 3 from rfl) dX6_readOne_202 (fun c202 => ?_) (fun c202 => ?_)
              · first
                | (exfalso; omega)
                |  (refine r_iconstv C 0 rfl dX6_readOne_209 ?_
                    refine r_callV C (absurd trivial hf) kv_X6_take kn_X6_take rfl dX6_readOne_210 cl_X6_249 ⟨Nat.le_of_ble_eq_true rfl, Nat.le_of_ble_eq_true rfl⟩ (by decide) rfl rfl (q_lt hs (by decide)) hF rfl (Nat.le_of_ble_eq_true rfl) ?_
                    exact t.2 p l e R s m args below meth c n0 nF C hF)
              · first
                | (exfalso; omega)
                |  (refine r_iconstv C 1 rfl dX6_readOne_205 ?_
                    refine r_goto C 210 (by decide) dX6_readOne_206 ?_
                    refine r_callV C (absurd trivial hf) kv_X6_take kn_X6_take rfl dX6_readOne_210 cl_X6_249 ⟨Nat.le_of_ble_eq_true rfl, Nat.le_of_ble_eq_true rfl⟩ (by decide) rfl rfl (q_lt hs (by decide)) hF rfl (Nat.le_of_ble_eq_true rfl) ?_
                    exact t.2 p l e R s m args below meth c n0 nF C hF)))

set_option maxHeartbeats 4000000 in
set_option maxRecDepth 100000 in
theorem s176b (G : oG) {h : oH} (hs : oSh h) {z : Nat} {T : Nat → Int} (tp : tpM h z T) {q : Nat} (hq : q ≤ z) (mt : mT h T z q) (hf : (hI h 12 36).toInt = 0) {x1 x4 x5 : Int32} {l2 l3 l6 : Option Value} (h4 : 0 < x4.toInt) (hk : xK T z q ≠ 5) : tO G 176 [some (.ref 12), some (.int x1), l2, l3, some (.int x4), some (.int x5), l6] h (bdH h 1) := by
  have hsb : oSh (bdH h 1) := hs
  have tpb : tpM (bdH h 1) z T := tp.fr (bdH_o (by omega)) (fun j => bdH_o (by omega))
  have mtb : mT (bdH h 1) T z q := mt.fr (fun y _ _ => bdH_o (by omega))
  have hfb : (hI (bdH h 1) 12 36).toInt ≠ 0 := by rw [bdH_f]; decide
  obtain ⟨vu, su, vu2⟩ := numQ G hs tp hq mt
  have hK := xKR (T := T) hq
  refine ⟨rfl, fun p l e R s m args below meth c n0 nF C hF => ?_⟩
  refine r_iload C rfl dX6_readOne_176 ?_
  refine t_if_le C 188 (by decide) rfl dX6_readOne_178 (fun c178 => ?_) (fun c178 => ?_)
  · first
    | (exfalso; omega)
    |  (refine r_iconstv C 0 rfl dX6_readOne_188 ?_
        refine r_istore C rfl (Nat.le_of_ble_eq_true rfl) dX6_readOne_189 ?_
        refine r_iload C rfl dX6_readOne_191 ?_
        refine t_if_le C 213 (by decide) rfl dX6_readOne_193 (fun c193 => ?_) (fun c193 => ?_)
        · first
          | (exfalso; omega)
          |  (exact (rs213 G hsb tpb hq mtb hfb).2 p l e R s m args below meth c n0 nF C hF)
        · first
          | (exfalso; omega)
          |  (refine r_aload_n C rfl rfl dX6_readOne_196 ?_
              refine r_aload_n C rfl rfl dX6_readOne_197 ?_
              refine r_getI C dX6_readOne_198 fl_X6_218 rfl (q_lt hs (by decide)) ?_
              refine r_iconstv C 3 rfl dX6_readOne_201 ?_
              refine t_icmp_ne C 209 (by decide) mt.2.1 (show (3 : Int32).toInt = 3 from rfl) dX6_readOne_202 (fun c202 => ?_) (fun c202 => ?_)
              · first
                | (exfalso; omega)
                |  (refine r_iconstv C 0 rfl dX6_readOne_209 ?_
                    refine r_callV C (sp_tk0 G hs _ (rfl) hf) kv_X6_take kn_X6_take rfl dX6_readOne_210 cl_X6_249 ⟨Nat.le_of_ble_eq_true rfl, Nat.le_of_ble_eq_true rfl⟩ (by decide) rfl rfl (q_lt hs (by decide)) hF rfl (Nat.le_of_ble_eq_true rfl) ?_
                    exact (rs213 G hsb tpb hq mtb hfb).2 p l e R s m args below meth c n0 nF C hF)
              · first
                | (exfalso; omega)
                |  (refine r_iconstv C 1 rfl dX6_readOne_205 ?_
                    refine r_goto C 210 (by decide) dX6_readOne_206 ?_
                    refine r_callV C (sp_tk0 G hs _ (rfl) hf) kv_X6_take kn_X6_take rfl dX6_readOne_210 cl_X6_249 ⟨Nat.le_of_ble_eq_true rfl, Nat.le_of_ble_eq_true rfl⟩ (by decide) rfl rfl (q_lt hs (by decide)) hF rfl (Nat.le_of_ble_eq_true rfl) ?_
                    exact (rs213 G hsb tpb hq mtb hfb).2 p l e R s m args below meth c n0 nF C hF)))
  · first
    | (exfalso; omega)
    |  (refine r_aload_n C rfl rfl dX6_readOne_181 ?_
        refine r_callV C su kv_X6_number kn_X6_number rfl dX6_readOne_182 cl_X6_253 ⟨Nat.le_of_ble_eq_true rfl, Nat.le_of_ble_eq_true rfl⟩ (by decide) rfl rfl (q_lt hs (by decide)) hF rfl (Nat.le_of_ble_eq_true rfl) ?_
        refine r_goto C 189 (by decide) dX6_readOne_185 ?_
        refine r_istore C rfl (Nat.le_of_ble_eq_true rfl) dX6_readOne_189 ?_
        refine r_iload C rfl dX6_readOne_191 ?_
        refine t_if_le C 213 (by decide) rfl dX6_readOne_193 (fun c193 => ?_) (fun c193 => ?_)
        · first
          | (exfalso; omega)
          |  (exact (rs213 G hsb tpb hq mtb hfb).2 p l e R s m args below meth c n0 nF C hF)
        · first
          | (exfalso; omega)
          |  (refine r_aload_n C rfl rfl dX6_readOne_196 ?_
              refine r_aload_n C rfl rfl dX6_readOne_197 ?_
              refine r_getI C dX6_readOne_198 fl_X6_218 rfl (q_lt hs (by decide)) ?_
              refine r_iconstv C 3 rfl dX6_readOne_201 ?_
              refine t_icmp_ne C 209 (by decide) mt.2.1 (show (3 : Int32).toInt = 3 from rfl) dX6_readOne_202 (fun c202 => ?_) (fun c202 => ?_)
              · first
                | (exfalso; omega)
                |  (refine r_iconstv C 0 rfl dX6_readOne_209 ?_
                    refine r_callV C (sp_tk0 G hs _ (rfl) hf) kv_X6_take kn_X6_take rfl dX6_readOne_210 cl_X6_249 ⟨Nat.le_of_ble_eq_true rfl, Nat.le_of_ble_eq_true rfl⟩ (by decide) rfl rfl (q_lt hs (by decide)) hF rfl (Nat.le_of_ble_eq_true rfl) ?_
                    exact (rs213 G hsb tpb hq mtb hfb).2 p l e R s m args below meth c n0 nF C hF)
              · first
                | (exfalso; omega)
                |  (refine r_iconstv C 1 rfl dX6_readOne_205 ?_
                    refine r_goto C 210 (by decide) dX6_readOne_206 ?_
                    refine r_callV C (sp_tk0 G hs _ (rfl) hf) kv_X6_take kn_X6_take rfl dX6_readOne_210 cl_X6_249 ⟨Nat.le_of_ble_eq_true rfl, Nat.le_of_ble_eq_true rfl⟩ (by decide) rfl rfl (q_lt hs (by decide)) hF rfl (Nat.le_of_ble_eq_true rfl) ?_
                    exact (rs213 G hsb tpb hq mtb hfb).2 p l e R s m args below meth c n0 nF C hF)))

set_option maxHeartbeats 4000000 in
set_option maxRecDepth 100000 in
theorem s176 (G : oG) {h : oH} (hs : oSh h) {z : Nat} {T : Nat → Int} (tp : tpM h z T) {q : Nat} (hq : q ≤ z) (mt : mT h T z q) (hf : (hI h 12 36).toInt = 0) {x1 x4 x5 : Int32} {l2 l3 l6 : Option Value} (h4 : 0 < x4.toInt) (hk : xK T z q = 5) : ∃ h', mT h' T z (xE T z q) ∧ frK h h' ∧ ∀ hg, tO G 213 [some (.ref 12), some (.int x1), l2, l3, some (.int x4), some (.int x5), some (.int (oI (xV T z q)))] h' hg → tO G 176 [some (.ref 12), some (.int x1), l2, l3, some (.int x4), some (.int x5), l6] h hg := by
  obtain ⟨vu, su, vu2⟩ := numQ G hs tp hq mt
  have hK := xKR (T := T) hq
  rw [vu2 hk] at su
  obtain ⟨h1, sp1, m1, f1⟩ := takeQ G hs tp hq mt hf 1 (by decide)
  have hn1 := f1.1
  refine ⟨h1, m1, f1, fun hg t => ⟨t.1.trans hn1, fun p l e R s m args below meth c n0 nF C hF => ?_⟩⟩
  refine r_iload C rfl dX6_readOne_176 ?_
  refine t_if_le C 188 (by decide) rfl dX6_readOne_178 (fun c178 => ?_) (fun c178 => ?_)
  · first
    | (exfalso; omega)
    |  (refine r_iconstv C 0 rfl dX6_readOne_188 ?_
        refine r_istore C rfl (Nat.le_of_ble_eq_true rfl) dX6_readOne_189 ?_
        refine r_iload C rfl dX6_readOne_191 ?_
        refine t_if_le C 213 (by decide) rfl dX6_readOne_193 (fun c193 => ?_) (fun c193 => ?_)
        · first
          | (exfalso; omega)
          |  (exact t.2 p l e R s m args below meth c n0 nF C (by rw [hn1]; exact hF))
        · first
          | (exfalso; omega)
          |  (refine r_aload_n C rfl rfl dX6_readOne_196 ?_
              refine r_aload_n C rfl rfl dX6_readOne_197 ?_
              refine r_getI C dX6_readOne_198 fl_X6_218 rfl (q_lt hs (by decide)) ?_
              refine r_iconstv C 3 rfl dX6_readOne_201 ?_
              refine t_icmp_ne C 209 (by decide) mt.2.1 (show (3 : Int32).toInt = 3 from rfl) dX6_readOne_202 (fun c202 => ?_) (fun c202 => ?_)
              · first
                | (exfalso; omega)
                |  (refine r_iconstv C 0 rfl dX6_readOne_209 ?_
                    refine r_callV C sp1 kv_X6_take kn_X6_take rfl dX6_readOne_210 cl_X6_249 ⟨Nat.le_of_ble_eq_true rfl, Nat.le_of_ble_eq_true rfl⟩ (by decide) rfl rfl (q_lt hs (by decide)) (by rw [hn1]; exact hF) rfl (Nat.le_of_ble_eq_true rfl) ?_
                    exact t.2 p l e R s m args below meth c n0 nF C (by rw [hn1]; exact hF))
              · first
                | (exfalso; omega)
                |  (refine r_iconstv C 1 rfl dX6_readOne_205 ?_
                    refine r_goto C 210 (by decide) dX6_readOne_206 ?_
                    refine r_callV C sp1 kv_X6_take kn_X6_take rfl dX6_readOne_210 cl_X6_249 ⟨Nat.le_of_ble_eq_true rfl, Nat.le_of_ble_eq_true rfl⟩ (by decide) rfl rfl (q_lt hs (by decide)) (by rw [hn1]; exact hF) rfl (Nat.le_of_ble_eq_true rfl) ?_
                    exact t.2 p l e R s m args below meth c n0 nF C (by rw [hn1]; exact hF))))
  · first
    | (exfalso; omega)
    |  (refine r_aload_n C rfl rfl dX6_readOne_181 ?_
        refine r_callV C su kv_X6_number kn_X6_number rfl dX6_readOne_182 cl_X6_253 ⟨Nat.le_of_ble_eq_true rfl, Nat.le_of_ble_eq_true rfl⟩ (by decide) rfl rfl (q_lt hs (by decide)) hF rfl (Nat.le_of_ble_eq_true rfl) ?_
        refine r_goto C 189 (by decide) dX6_readOne_185 ?_
        refine r_istore C rfl (Nat.le_of_ble_eq_true rfl) dX6_readOne_189 ?_
        refine r_iload C rfl dX6_readOne_191 ?_
        refine t_if_le C 213 (by decide) rfl dX6_readOne_193 (fun c193 => ?_) (fun c193 => ?_)
        · first
          | (exfalso; omega)
          |  (exact t.2 p l e R s m args below meth c n0 nF C (by rw [hn1]; exact hF))
        · first
          | (exfalso; omega)
          |  (refine r_aload_n C rfl rfl dX6_readOne_196 ?_
              refine r_aload_n C rfl rfl dX6_readOne_197 ?_
              refine r_getI C dX6_readOne_198 fl_X6_218 rfl (q_lt hs (by decide)) ?_
              refine r_iconstv C 3 rfl dX6_readOne_201 ?_
              refine t_icmp_ne C 209 (by decide) mt.2.1 (show (3 : Int32).toInt = 3 from rfl) dX6_readOne_202 (fun c202 => ?_) (fun c202 => ?_)
              · first
                | (exfalso; omega)
                |  (refine r_iconstv C 0 rfl dX6_readOne_209 ?_
                    refine r_callV C sp1 kv_X6_take kn_X6_take rfl dX6_readOne_210 cl_X6_249 ⟨Nat.le_of_ble_eq_true rfl, Nat.le_of_ble_eq_true rfl⟩ (by decide) rfl rfl (q_lt hs (by decide)) (by rw [hn1]; exact hF) rfl (Nat.le_of_ble_eq_true rfl) ?_
                    exact t.2 p l e R s m args below meth c n0 nF C (by rw [hn1]; exact hF))
              · first
                | (exfalso; omega)
                |  (refine r_iconstv C 1 rfl dX6_readOne_205 ?_
                    refine r_goto C 210 (by decide) dX6_readOne_206 ?_
                    refine r_callV C sp1 kv_X6_take kn_X6_take rfl dX6_readOne_210 cl_X6_249 ⟨Nat.le_of_ble_eq_true rfl, Nat.le_of_ble_eq_true rfl⟩ (by decide) rfl rfl (q_lt hs (by decide)) (by rw [hn1]; exact hF) rfl (Nat.le_of_ble_eq_true rfl) ?_
                    exact t.2 p l e R s m args below meth c n0 nF C (by rw [hn1]; exact hF))))

set_option maxHeartbeats 4000000 in
set_option maxRecDepth 100000 in
theorem s127n (G : oG) {h : oH} (hs : oSh h) {z : Nat} {T : Nat → Int} (tp : tpM h z T) {q : Nat} (hq : q ≤ z) (mt : mT h T z q) (hf : (hI h 12 36).toInt = 0) {x1 x4 : Int32} {l2 l3 l5 l6 : Option Value} (h4 : x4.toInt ≠ 2) {hg : oH} (t : tO G 176 [some (.ref 12), some (.int x1), l2, l3, some (.int x4), some (.int 0), l6] h hg) : tO G 127 [some (.ref 12), some (.int x1), l2, l3, some (.int x4), l5, l6] h hg := by
  refine ⟨t.1, fun p l e R s m args below meth c n0 nF C hF => ?_⟩
  refine r_iload C rfl dX6_readOne_127 ?_
  refine r_iconstv C 2 rfl dX6_readOne_129 ?_
  refine t_icmp_ne C 140 (by decide) rfl (show (2 : Int32).toInt = 2 from rfl) dX6_readOne_130 (fun c130 => ?_) (fun c130 => ?_)
  · first
    | (exfalso; omega)
    |  (refine r_iconstv C 0 rfl dX6_readOne_140 ?_
        refine r_istore C rfl (Nat.le_of_ble_eq_true rfl) dX6_readOne_141 ?_
        refine r_iload C rfl dX6_readOne_143 ?_
        refine r_iconstv C 2 rfl dX6_readOne_145 ?_
        refine t_icmp_ne C 176 (by decide) rfl (show (2 : Int32).toInt = 2 from rfl) dX6_readOne_146 (fun c146 => ?_) (fun c146 => ?_)
        · first
          | (exfalso; omega)
          |  (exact t.2 p l e R s m args below meth c n0 nF C hF)
        · first
          | (exfalso; omega)
          |  (refine r_aload_n C rfl rfl dX6_readOne_149 ?_
              refine r_aload_n C rfl rfl dX6_readOne_150 ?_
              refine r_getI C dX6_readOne_151 fl_X6_218 rfl (q_lt hs (by decide)) ?_
              refine r_iconstv C 3 rfl dX6_readOne_154 ?_
              refine t_icmp_ne C 162 (by decide) mt.2.1 (show (3 : Int32).toInt = 3 from rfl) dX6_readOne_155 (fun c155 => ?_) (fun c155 => ?_)
              · first
                | (exfalso; omega)
                |  (refine r_iconstv C 0 rfl dX6_readOne_162 ?_
                    refine r_callV C (absurd trivial hf) kv_X6_take kn_X6_take rfl dX6_readOne_163 cl_X6_249 ⟨Nat.le_of_ble_eq_true rfl, Nat.le_of_ble_eq_true rfl⟩ (by decide) rfl rfl (q_lt hs (by decide)) hF rfl (Nat.le_of_ble_eq_true rfl) ?_
                    refine r_aload_n C rfl rfl dX6_readOne_166 ?_
                    refine r_aload_n C rfl rfl dX6_readOne_167 ?_
                    refine r_bipush C 64 rfl dX6_readOne_168 ?_
                    refine r_callV C (absurd trivial hf) kv_X6_is kn_X6_is rfl dX6_readOne_170 cl_X6_262 ⟨Nat.le_of_ble_eq_true rfl, Nat.le_of_ble_eq_true rfl⟩ (by decide) rfl rfl (q_lt hs (by decide)) hF rfl (Nat.le_of_ble_eq_true rfl) ?_
                    refine r_callV C (absurd trivial hf) kv_X6_take kn_X6_take rfl dX6_readOne_173 cl_X6_249 ⟨Nat.le_of_ble_eq_true rfl, Nat.le_of_ble_eq_true rfl⟩ (by decide) rfl rfl (q_lt hs (by decide)) hF rfl (Nat.le_of_ble_eq_true rfl) ?_
                    exact t.2 p l e R s m args below meth c n0 nF C hF)
              · first
                | (exfalso; omega)
                |  (refine r_iconstv C 1 rfl dX6_readOne_158 ?_
                    refine r_goto C 163 (by decide) dX6_readOne_159 ?_
                    refine r_callV C (absurd trivial hf) kv_X6_take kn_X6_take rfl dX6_readOne_163 cl_X6_249 ⟨Nat.le_of_ble_eq_true rfl, Nat.le_of_ble_eq_true rfl⟩ (by decide) rfl rfl (q_lt hs (by decide)) hF rfl (Nat.le_of_ble_eq_true rfl) ?_
                    refine r_aload_n C rfl rfl dX6_readOne_166 ?_
                    refine r_aload_n C rfl rfl dX6_readOne_167 ?_
                    refine r_bipush C 64 rfl dX6_readOne_168 ?_
                    refine r_callV C (absurd trivial hf) kv_X6_is kn_X6_is rfl dX6_readOne_170 cl_X6_262 ⟨Nat.le_of_ble_eq_true rfl, Nat.le_of_ble_eq_true rfl⟩ (by decide) rfl rfl (q_lt hs (by decide)) hF rfl (Nat.le_of_ble_eq_true rfl) ?_
                    refine r_callV C (absurd trivial hf) kv_X6_take kn_X6_take rfl dX6_readOne_173 cl_X6_249 ⟨Nat.le_of_ble_eq_true rfl, Nat.le_of_ble_eq_true rfl⟩ (by decide) rfl rfl (q_lt hs (by decide)) hF rfl (Nat.le_of_ble_eq_true rfl) ?_
                    exact t.2 p l e R s m args below meth c n0 nF C hF)))
  · first
    | (exfalso; omega)
    |  (refine r_aload_n C rfl rfl dX6_readOne_133 ?_
        refine r_callV C (absurd trivial hf) kv_X6_number kn_X6_number rfl dX6_readOne_134 cl_X6_253 ⟨Nat.le_of_ble_eq_true rfl, Nat.le_of_ble_eq_true rfl⟩ (by decide) rfl rfl (q_lt hs (by decide)) hF rfl (Nat.le_of_ble_eq_true rfl) ?_
        refine r_goto C 141 (by decide) dX6_readOne_137 ?_
        refine r_istore C rfl (Nat.le_of_ble_eq_true rfl) dX6_readOne_141 ?_
        refine r_iload C rfl dX6_readOne_143 ?_
        refine r_iconstv C 2 rfl dX6_readOne_145 ?_
        refine t_icmp_ne C 176 (by decide) rfl (show (2 : Int32).toInt = 2 from rfl) dX6_readOne_146 (fun c146 => ?_) (fun c146 => ?_)
        · first
          | (exfalso; omega)
          |  (exact t.2 p l e R s m args below meth c n0 nF C hF)
        · first
          | (exfalso; omega)
          |  (refine r_aload_n C rfl rfl dX6_readOne_149 ?_
              refine r_aload_n C rfl rfl dX6_readOne_150 ?_
              refine r_getI C dX6_readOne_151 fl_X6_218 rfl (q_lt hs (by decide)) ?_
              refine r_iconstv C 3 rfl dX6_readOne_154 ?_
              refine t_icmp_ne C 162 (by decide) mt.2.1 (show (3 : Int32).toInt = 3 from rfl) dX6_readOne_155 (fun c155 => ?_) (fun c155 => ?_)
              · first
                | (exfalso; omega)
                |  (refine r_iconstv C 0 rfl dX6_readOne_162 ?_
                    refine r_callV C (absurd trivial hf) kv_X6_take kn_X6_take rfl dX6_readOne_163 cl_X6_249 ⟨Nat.le_of_ble_eq_true rfl, Nat.le_of_ble_eq_true rfl⟩ (by decide) rfl rfl (q_lt hs (by decide)) hF rfl (Nat.le_of_ble_eq_true rfl) ?_
                    refine r_aload_n C rfl rfl dX6_readOne_166 ?_
                    refine r_aload_n C rfl rfl dX6_readOne_167 ?_
                    refine r_bipush C 64 rfl dX6_readOne_168 ?_
                    refine r_callV C (absurd trivial hf) kv_X6_is kn_X6_is rfl dX6_readOne_170 cl_X6_262 ⟨Nat.le_of_ble_eq_true rfl, Nat.le_of_ble_eq_true rfl⟩ (by decide) rfl rfl (q_lt hs (by decide)) hF rfl (Nat.le_of_ble_eq_true rfl) ?_
                    refine r_callV C (absurd trivial hf) kv_X6_take kn_X6_take rfl dX6_readOne_173 cl_X6_249 ⟨Nat.le_of_ble_eq_true rfl, Nat.le_of_ble_eq_true rfl⟩ (by decide) rfl rfl (q_lt hs (by decide)) hF rfl (Nat.le_of_ble_eq_true rfl) ?_
                    exact t.2 p l e R s m args below meth c n0 nF C hF)
              · first
                | (exfalso; omega)
                |  (refine r_iconstv C 1 rfl dX6_readOne_158 ?_
                    refine r_goto C 163 (by decide) dX6_readOne_159 ?_
                    refine r_callV C (absurd trivial hf) kv_X6_take kn_X6_take rfl dX6_readOne_163 cl_X6_249 ⟨Nat.le_of_ble_eq_true rfl, Nat.le_of_ble_eq_true rfl⟩ (by decide) rfl rfl (q_lt hs (by decide)) hF rfl (Nat.le_of_ble_eq_true rfl) ?_
                    refine r_aload_n C rfl rfl dX6_readOne_166 ?_
                    refine r_aload_n C rfl rfl dX6_readOne_167 ?_
                    refine r_bipush C 64 rfl dX6_readOne_168 ?_
                    refine r_callV C (absurd trivial hf) kv_X6_is kn_X6_is rfl dX6_readOne_170 cl_X6_262 ⟨Nat.le_of_ble_eq_true rfl, Nat.le_of_ble_eq_true rfl⟩ (by decide) rfl rfl (q_lt hs (by decide)) hF rfl (Nat.le_of_ble_eq_true rfl) ?_
                    refine r_callV C (absurd trivial hf) kv_X6_take kn_X6_take rfl dX6_readOne_173 cl_X6_249 ⟨Nat.le_of_ble_eq_true rfl, Nat.le_of_ble_eq_true rfl⟩ (by decide) rfl rfl (q_lt hs (by decide)) hF rfl (Nat.le_of_ble_eq_true rfl) ?_
                    exact t.2 p l e R s m args below meth c n0 nF C hF)))

set_option maxHeartbeats 4000000 in
set_option maxRecDepth 100000 in
theorem s127b (G : oG) {h : oH} (hs : oSh h) {z : Nat} {T : Nat → Int} (tp : tpM h z T) {q : Nat} (hq : q ≤ z) (mt : mT h T z q) (hf : (hI h 12 36).toInt = 0) {x1 x4 : Int32} {l2 l3 l5 l6 : Option Value} (h4 : x4.toInt = 2) (hk : xK T z q ≠ 5) : tO G 127 [some (.ref 12), some (.int x1), l2, l3, some (.int x4), l5, l6] h (bdH h 1) := by
  have hsb : oSh (bdH h 1) := hs
  have tpb : tpM (bdH h 1) z T := tp.fr (bdH_o (by omega)) (fun j => bdH_o (by omega))
  have mtb : mT (bdH h 1) T z q := mt.fr (fun y _ _ => bdH_o (by omega))
  have hfb : (hI (bdH h 1) 12 36).toInt ≠ 0 := by rw [bdH_f]; decide
  obtain ⟨vu, su, vu2⟩ := numQ G hs tp hq mt
  have hK := xKR (T := T) hq
  refine ⟨rfl, fun p l e R s m args below meth c n0 nF C hF => ?_⟩
  refine r_iload C rfl dX6_readOne_127 ?_
  refine r_iconstv C 2 rfl dX6_readOne_129 ?_
  refine t_icmp_ne C 140 (by decide) h4 (show (2 : Int32).toInt = 2 from rfl) dX6_readOne_130 (fun c130 => ?_) (fun c130 => ?_)
  · first
    | (exfalso; omega)
    |  (refine r_iconstv C 0 rfl dX6_readOne_140 ?_
        refine r_istore C rfl (Nat.le_of_ble_eq_true rfl) dX6_readOne_141 ?_
        refine r_iload C rfl dX6_readOne_143 ?_
        refine r_iconstv C 2 rfl dX6_readOne_145 ?_
        refine t_icmp_ne C 176 (by decide) h4 (show (2 : Int32).toInt = 2 from rfl) dX6_readOne_146 (fun c146 => ?_) (fun c146 => ?_)
        · first
          | (exfalso; omega)
          |  (refine r_iload C rfl dX6_readOne_176 ?_
              refine t_if_le C 188 (by decide) h4 dX6_readOne_178 (fun c178 => ?_) (fun c178 => ?_)
              · first
                | (exfalso; omega)
                |  (refine r_iconstv C 0 rfl dX6_readOne_188 ?_
                    refine r_istore C rfl (Nat.le_of_ble_eq_true rfl) dX6_readOne_189 ?_
                    refine r_iload C rfl dX6_readOne_191 ?_
                    refine t_if_le C 213 (by decide) h4 dX6_readOne_193 (fun c193 => ?_) (fun c193 => ?_)
                    · first
                      | (exfalso; omega)
                      |  (refine r_aload_n C rfl rfl dX6_readOne_213 ?_
                          refine r_aload_n C rfl rfl dX6_readOne_214 ?_
                          refine r_bipush C 59 rfl dX6_readOne_215 ?_
                          refine r_callV C (absurd trivial hf) kv_X6_is kn_X6_is rfl dX6_readOne_217 cl_X6_262 ⟨Nat.le_of_ble_eq_true rfl, Nat.le_of_ble_eq_true rfl⟩ (by decide) rfl rfl (q_lt hs (by decide)) hF rfl (Nat.le_of_ble_eq_true rfl) ?_
                          refine r_callV C (sp_tk0 G hs _ (rfl) hf) kv_X6_take kn_X6_take rfl dX6_readOne_220 cl_X6_249 ⟨Nat.le_of_ble_eq_true rfl, Nat.le_of_ble_eq_true rfl⟩ (by decide) rfl rfl (q_lt hs (by decide)) hF rfl (Nat.le_of_ble_eq_true rfl) ?_
                          refine r_aload_n C rfl rfl dX6_readOne_223 ?_
                          refine r_getI C dX6_readOne_224 fl_X6_230 rfl (q_lt hs (by decide)) ?_
                          refine t_if_ne C 283 (by decide) hf dX6_readOne_227 (fun c227 => ?_) (fun c227 => ?_)
                          · first
                            | (exfalso; omega)
                            |  (exact r_vret C dX6_readOne_283 rfl hF rfl)
                          · first
                            | (exfalso; omega)
                            |  (refine r_aload_n C rfl rfl dX6_readOne_230 ?_
                                refine r_getO C dX6_readOne_231 fl_X6_75 rfl rfl (q_lt hs (by decide)) (sh_12_39 hs) ?_
                                refine r_aload_n C rfl rfl dX6_readOne_234 ?_
                                refine r_getI C dX6_readOne_235 fl_X6_265 rfl (q_lt hs (by decide)) ?_
                                refine r_iload_n C rfl dX6_readOne_238 ?_
                                refine r_iast C (None) rfl (by omega) dX6_readOne_239 rfl (q_lt hs (by decide)) ?_
                                refine r_aload_n C rfl rfl dX6_readOne_240 ?_
                                refine r_getO C dX6_readOne_241 fl_X6_78 rfl rfl (q_lt hs (by decide)) (sh_12_40 hs) ?_
                                refine r_aload_n C rfl rfl dX6_readOne_244 ?_
                                refine r_getI C dX6_readOne_245 fl_X6_265 rfl (q_lt hs (by decide)) ?_
                                refine r_iload C rfl dX6_readOne_248 ?_
                                refine r_iast C (None) rfl (by omega) dX6_readOne_250 rfl (q_lt hs (by decide)) ?_
                                refine r_aload_n C rfl rfl dX6_readOne_251 ?_
                                refine r_getO C dX6_readOne_252 fl_X6_81 rfl rfl (q_lt hs (by decide)) (sh_12_41 hs) ?_
                                refine r_aload_n C rfl rfl dX6_readOne_255 ?_
                                refine r_getI C dX6_readOne_256 fl_X6_265 rfl (q_lt hs (by decide)) ?_
                                refine r_iload C rfl dX6_readOne_259 ?_
                                refine r_iast C (None) rfl (by omega) dX6_readOne_261 rfl (q_lt hs (by decide)) ?_
                                refine r_aload_n C rfl rfl dX6_readOne_262 ?_
                                refine r_getO C dX6_readOne_263 fl_X6_84 rfl rfl (q_lt hs (by decide)) (sh_12_42 hs) ?_
                                refine r_aload_n C rfl rfl dX6_readOne_266 ?_
                                refine r_getI C dX6_readOne_267 fl_X6_265 rfl (q_lt hs (by decide)) ?_
                                refine r_iload C rfl dX6_readOne_270 ?_
                                refine r_iast C (None) rfl (by omega) dX6_readOne_272 rfl (q_lt hs (by decide)) ?_
                                refine r_aload_n C rfl rfl dX6_readOne_273 ?_
                                refine r_dup C rfl dX6_readOne_274 ?_
                                refine r_getI C dX6_readOne_275 fl_X6_265 rfl (q_lt hs (by decide)) ?_
                                refine r_iconstv C 1 rfl dX6_readOne_278 ?_
                                refine r_iadd C dX6_readOne_279 ?_
                                refine r_putI C dX6_readOne_280 fl_X6_265 rfl (q_lt hs (by decide)) (Or.inl rfl) ?_
                                exact r_vret C dX6_readOne_283 rfl hF rfl))
                    · first
                      | (exfalso; omega)
                      |  (refine r_aload_n C rfl rfl dX6_readOne_196 ?_
                          refine r_aload_n C rfl rfl dX6_readOne_197 ?_
                          refine r_getI C dX6_readOne_198 fl_X6_218 rfl (q_lt hs (by decide)) ?_
                          refine r_iconstv C 3 rfl dX6_readOne_201 ?_
                          refine t_icmp_ne C 209 (by decide) mt.2.1 (show (3 : Int32).toInt = 3 from rfl) dX6_readOne_202 (fun c202 => ?_) (fun c202 => ?_)
                          · first
                            | (exfalso; omega)
                            |  (refine r_iconstv C 0 rfl dX6_readOne_209 ?_
                                refine r_callV C (sp_tk0 G hs _ (rfl) hf) kv_X6_take kn_X6_take rfl dX6_readOne_210 cl_X6_249 ⟨Nat.le_of_ble_eq_true rfl, Nat.le_of_ble_eq_true rfl⟩ (by decide) rfl rfl (q_lt hs (by decide)) hF rfl (Nat.le_of_ble_eq_true rfl) ?_
                                refine r_aload_n C rfl rfl dX6_readOne_213 ?_
                                refine r_aload_n C rfl rfl dX6_readOne_214 ?_
                                refine r_bipush C 59 rfl dX6_readOne_215 ?_
                                refine r_callV C (absurd trivial hf) kv_X6_is kn_X6_is rfl dX6_readOne_217 cl_X6_262 ⟨Nat.le_of_ble_eq_true rfl, Nat.le_of_ble_eq_true rfl⟩ (by decide) rfl rfl (q_lt hs (by decide)) hF rfl (Nat.le_of_ble_eq_true rfl) ?_
                                refine r_callV C (sp_tk0 G hs _ (rfl) hf) kv_X6_take kn_X6_take rfl dX6_readOne_220 cl_X6_249 ⟨Nat.le_of_ble_eq_true rfl, Nat.le_of_ble_eq_true rfl⟩ (by decide) rfl rfl (q_lt hs (by decide)) hF rfl (Nat.le_of_ble_eq_true rfl) ?_
                                refine r_aload_n C rfl rfl dX6_readOne_223 ?_
                                refine r_getI C dX6_readOne_224 fl_X6_230 rfl (q_lt hs (by decide)) ?_
                                refine t_if_ne C 283 (by decide) hf dX6_readOne_227 (fun c227 => ?_) (fun c227 => ?_)
                                · first
                                  | (exfalso; omega)
                                  |  (exact r_vret C dX6_readOne_283 rfl hF rfl)
                                · first
                                  | (exfalso; omega)
                                  |  (refine r_aload_n C rfl rfl dX6_readOne_230 ?_
                                      refine r_getO C dX6_readOne_231 fl_X6_75 rfl rfl (q_lt hs (by decide)) (sh_12_39 hs) ?_
                                      refine r_aload_n C rfl rfl dX6_readOne_234 ?_
                                      refine r_getI C dX6_readOne_235 fl_X6_265 rfl (q_lt hs (by decide)) ?_
                                      refine r_iload_n C rfl dX6_readOne_238 ?_
                                      refine r_iast C (None) rfl (by omega) dX6_readOne_239 rfl (q_lt hs (by decide)) ?_
                                      refine r_aload_n C rfl rfl dX6_readOne_240 ?_
                                      refine r_getO C dX6_readOne_241 fl_X6_78 rfl rfl (q_lt hs (by decide)) (sh_12_40 hs) ?_
                                      refine r_aload_n C rfl rfl dX6_readOne_244 ?_
                                      refine r_getI C dX6_readOne_245 fl_X6_265 rfl (q_lt hs (by decide)) ?_
                                      refine r_iload C rfl dX6_readOne_248 ?_
                                      refine r_iast C (None) rfl (by omega) dX6_readOne_250 rfl (q_lt hs (by decide)) ?_
                                      refine r_aload_n C rfl rfl dX6_readOne_251 ?_
                                      refine r_getO C dX6_readOne_252 fl_X6_81 rfl rfl (q_lt hs (by decide)) (sh_12_41 hs) ?_
                                      refine r_aload_n C rfl rfl dX6_readOne_255 ?_
                                      refine r_getI C dX6_readOne_256 fl_X6_265 rfl (q_lt hs (by decide)) ?_
                                      refine r_iload C rfl dX6_readOne_259 ?_
                                      refine r_iast C (None) rfl (by omega) dX6_readOne_261 rfl (q_lt hs (by decide)) ?_
                                      refine r_aload_n C rfl rfl dX6_readOne_262 ?_
                                      refine r_getO C dX6_readOne_263 fl_X6_84 rfl rfl (q_lt hs (by decide)) (sh_12_42 hs) ?_
                                      refine r_aload_n C rfl rfl dX6_readOne_266 ?_
                                      refine r_getI C dX6_readOne_267 fl_X6_265 rfl (q_lt hs (by decide)) ?_
                                      refine r_iload C rfl dX6_readOne_270 ?_
                                      refine r_iast C (None) rfl (by omega) dX6_readOne_272 rfl (q_lt hs (by decide)) ?_
                                      refine r_aload_n C rfl rfl dX6_readOne_273 ?_
                                      refine r_dup C rfl dX6_readOne_274 ?_
                                      refine r_getI C dX6_readOne_275 fl_X6_265 rfl (q_lt hs (by decide)) ?_
                                      refine r_iconstv C 1 rfl dX6_readOne_278 ?_
                                      refine r_iadd C dX6_readOne_279 ?_
                                      refine r_putI C dX6_readOne_280 fl_X6_265 rfl (q_lt hs (by decide)) (Or.inl rfl) ?_
                                      exact r_vret C dX6_readOne_283 rfl hF rfl))
                          · first
                            | (exfalso; omega)
                            |  (refine r_iconstv C 1 rfl dX6_readOne_205 ?_
                                refine r_goto C 210 (by decide) dX6_readOne_206 ?_
                                refine r_callV C (sp_tk0 G hs _ (rfl) hf) kv_X6_take kn_X6_take rfl dX6_readOne_210 cl_X6_249 ⟨Nat.le_of_ble_eq_true rfl, Nat.le_of_ble_eq_true rfl⟩ (by decide) rfl rfl (q_lt hs (by decide)) hF rfl (Nat.le_of_ble_eq_true rfl) ?_
                                refine r_aload_n C rfl rfl dX6_readOne_213 ?_
                                refine r_aload_n C rfl rfl dX6_readOne_214 ?_
                                refine r_bipush C 59 rfl dX6_readOne_215 ?_
                                refine r_callV C (absurd trivial hf) kv_X6_is kn_X6_is rfl dX6_readOne_217 cl_X6_262 ⟨Nat.le_of_ble_eq_true rfl, Nat.le_of_ble_eq_true rfl⟩ (by decide) rfl rfl (q_lt hs (by decide)) hF rfl (Nat.le_of_ble_eq_true rfl) ?_
                                refine r_callV C (sp_tk0 G hs _ (rfl) hf) kv_X6_take kn_X6_take rfl dX6_readOne_220 cl_X6_249 ⟨Nat.le_of_ble_eq_true rfl, Nat.le_of_ble_eq_true rfl⟩ (by decide) rfl rfl (q_lt hs (by decide)) hF rfl (Nat.le_of_ble_eq_true rfl) ?_
                                refine r_aload_n C rfl rfl dX6_readOne_223 ?_
                                refine r_getI C dX6_readOne_224 fl_X6_230 rfl (q_lt hs (by decide)) ?_
                                refine t_if_ne C 283 (by decide) hf dX6_readOne_227 (fun c227 => ?_) (fun c227 => ?_)
                                · first
                                  | (exfalso; omega)
                                  |  (exact r_vret C dX6_readOne_283 rfl hF rfl)
                                · first
                                  | (exfalso; omega)
                                  |  (refine r_aload_n C rfl rfl dX6_readOne_230 ?_
                                      refine r_getO C dX6_readOne_231 fl_X6_75 rfl rfl (q_lt hs (by decide)) (sh_12_39 hs) ?_
                                      refine r_aload_n C rfl rfl dX6_readOne_234 ?_
                                      refine r_getI C dX6_readOne_235 fl_X6_265 rfl (q_lt hs (by decide)) ?_
                                      refine r_iload_n C rfl dX6_readOne_238 ?_
                                      refine r_iast C (None) rfl (by omega) dX6_readOne_239 rfl (q_lt hs (by decide)) ?_
                                      refine r_aload_n C rfl rfl dX6_readOne_240 ?_
                                      refine r_getO C dX6_readOne_241 fl_X6_78 rfl rfl (q_lt hs (by decide)) (sh_12_40 hs) ?_
                                      refine r_aload_n C rfl rfl dX6_readOne_244 ?_
                                      refine r_getI C dX6_readOne_245 fl_X6_265 rfl (q_lt hs (by decide)) ?_
                                      refine r_iload C rfl dX6_readOne_248 ?_
                                      refine r_iast C (None) rfl (by omega) dX6_readOne_250 rfl (q_lt hs (by decide)) ?_
                                      refine r_aload_n C rfl rfl dX6_readOne_251 ?_
                                      refine r_getO C dX6_readOne_252 fl_X6_81 rfl rfl (q_lt hs (by decide)) (sh_12_41 hs) ?_
                                      refine r_aload_n C rfl rfl dX6_readOne_255 ?_
                                      refine r_getI C dX6_readOne_256 fl_X6_265 rfl (q_lt hs (by decide)) ?_
                                      refine r_iload C rfl dX6_readOne_259 ?_
                                      refine r_iast C (None) rfl (by omega) dX6_readOne_261 rfl (q_lt hs (by decide)) ?_
                                      refine r_aload_n C rfl rfl dX6_readOne_262 ?_
                                      refine r_getO C dX6_readOne_263 fl_X6_84 rfl rfl (q_lt hs (by decide)) (sh_12_42 hs) ?_
                                      refine r_aload_n C rfl rfl dX6_readOne_266 ?_
                                      refine r_getI C dX6_readOne_267 fl_X6_265 rfl (q_lt hs (by decide)) ?_
                                      refine r_iload C rfl dX6_readOne_270 ?_
                                      refine r_iast C (None) rfl (by omega) dX6_readOne_272 rfl (q_lt hs (by decide)) ?_
                                      refine r_aload_n C rfl rfl dX6_readOne_273 ?_
                                      refine r_dup C rfl dX6_readOne_274 ?_
                                      refine r_getI C dX6_readOne_275 fl_X6_265 rfl (q_lt hs (by decide)) ?_
                                      refine r_iconstv C 1 rfl dX6_readOne_278 ?_
                                      refine r_iadd C dX6_readOne_279 ?_
                                      refine r_putI C dX6_readOne_280 fl_X6_265 rfl (q_lt hs (by decide)) (Or.inl rfl) ?_
                                      exact r_vret C dX6_readOne_283 rfl hF rfl))))
              · first
                | (exfalso; omega)
                |  (refine r_aload_n C rfl rfl dX6_readOne_181 ?_
                    refine r_callV C su kv_X6_number kn_X6_number rfl dX6_readOne_182 cl_X6_253 ⟨Nat.le_of_ble_eq_true rfl, Nat.le_of_ble_eq_true rfl⟩ (by decide) rfl rfl (q_lt hs (by decide)) hF rfl (Nat.le_of_ble_eq_true rfl) ?_
                    refine r_goto C 189 (by decide) dX6_readOne_185 ?_
                    refine r_istore C rfl (Nat.le_of_ble_eq_true rfl) dX6_readOne_189 ?_
                    refine r_iload C rfl dX6_readOne_191 ?_
                    refine t_if_le C 213 (by decide) h4 dX6_readOne_193 (fun c193 => ?_) (fun c193 => ?_)
                    · first
                      | (exfalso; omega)
                      |  (refine r_aload_n C rfl rfl dX6_readOne_213 ?_
                          refine r_aload_n C rfl rfl dX6_readOne_214 ?_
                          refine r_bipush C 59 rfl dX6_readOne_215 ?_
                          refine r_callV C (absurd trivial hf) kv_X6_is kn_X6_is rfl dX6_readOne_217 cl_X6_262 ⟨Nat.le_of_ble_eq_true rfl, Nat.le_of_ble_eq_true rfl⟩ (by decide) rfl rfl (q_lt hs (by decide)) hF rfl (Nat.le_of_ble_eq_true rfl) ?_
                          refine r_callV C (sp_tk0 G hs _ (rfl) hf) kv_X6_take kn_X6_take rfl dX6_readOne_220 cl_X6_249 ⟨Nat.le_of_ble_eq_true rfl, Nat.le_of_ble_eq_true rfl⟩ (by decide) rfl rfl (q_lt hs (by decide)) hF rfl (Nat.le_of_ble_eq_true rfl) ?_
                          refine r_aload_n C rfl rfl dX6_readOne_223 ?_
                          refine r_getI C dX6_readOne_224 fl_X6_230 rfl (q_lt hs (by decide)) ?_
                          refine t_if_ne C 283 (by decide) hf dX6_readOne_227 (fun c227 => ?_) (fun c227 => ?_)
                          · first
                            | (exfalso; omega)
                            |  (exact r_vret C dX6_readOne_283 rfl hF rfl)
                          · first
                            | (exfalso; omega)
                            |  (refine r_aload_n C rfl rfl dX6_readOne_230 ?_
                                refine r_getO C dX6_readOne_231 fl_X6_75 rfl rfl (q_lt hs (by decide)) (sh_12_39 hs) ?_
                                refine r_aload_n C rfl rfl dX6_readOne_234 ?_
                                refine r_getI C dX6_readOne_235 fl_X6_265 rfl (q_lt hs (by decide)) ?_
                                refine r_iload_n C rfl dX6_readOne_238 ?_
                                refine r_iast C (None) rfl (by omega) dX6_readOne_239 rfl (q_lt hs (by decide)) ?_
                                refine r_aload_n C rfl rfl dX6_readOne_240 ?_
                                refine r_getO C dX6_readOne_241 fl_X6_78 rfl rfl (q_lt hs (by decide)) (sh_12_40 hs) ?_
                                refine r_aload_n C rfl rfl dX6_readOne_244 ?_
                                refine r_getI C dX6_readOne_245 fl_X6_265 rfl (q_lt hs (by decide)) ?_
                                refine r_iload C rfl dX6_readOne_248 ?_
                                refine r_iast C (None) rfl (by omega) dX6_readOne_250 rfl (q_lt hs (by decide)) ?_
                                refine r_aload_n C rfl rfl dX6_readOne_251 ?_
                                refine r_getO C dX6_readOne_252 fl_X6_81 rfl rfl (q_lt hs (by decide)) (sh_12_41 hs) ?_
                                refine r_aload_n C rfl rfl dX6_readOne_255 ?_
                                refine r_getI C dX6_readOne_256 fl_X6_265 rfl (q_lt hs (by decide)) ?_
                                refine r_iload C rfl dX6_readOne_259 ?_
                                refine r_iast C (None) rfl (by omega) dX6_readOne_261 rfl (q_lt hs (by decide)) ?_
                                refine r_aload_n C rfl rfl dX6_readOne_262 ?_
                                refine r_getO C dX6_readOne_263 fl_X6_84 rfl rfl (q_lt hs (by decide)) (sh_12_42 hs) ?_
                                refine r_aload_n C rfl rfl dX6_readOne_266 ?_
                                refine r_getI C dX6_readOne_267 fl_X6_265 rfl (q_lt hs (by decide)) ?_
                                refine r_iload C rfl dX6_readOne_270 ?_
                                refine r_iast C (None) rfl (by omega) dX6_readOne_272 rfl (q_lt hs (by decide)) ?_
                                refine r_aload_n C rfl rfl dX6_readOne_273 ?_
                                refine r_dup C rfl dX6_readOne_274 ?_
                                refine r_getI C dX6_readOne_275 fl_X6_265 rfl (q_lt hs (by decide)) ?_
                                refine r_iconstv C 1 rfl dX6_readOne_278 ?_
                                refine r_iadd C dX6_readOne_279 ?_
                                refine r_putI C dX6_readOne_280 fl_X6_265 rfl (q_lt hs (by decide)) (Or.inl rfl) ?_
                                exact r_vret C dX6_readOne_283 rfl hF rfl))
                    · first
                      | (exfalso; omega)
                      |  (refine r_aload_n C rfl rfl dX6_readOne_196 ?_
                          refine r_aload_n C rfl rfl dX6_readOne_197 ?_
                          refine r_getI C dX6_readOne_198 fl_X6_218 rfl (q_lt hs (by decide)) ?_
                          refine r_iconstv C 3 rfl dX6_readOne_201 ?_
                          refine t_icmp_ne C 209 (by decide) mt.2.1 (show (3 : Int32).toInt = 3 from rfl) dX6_readOne_202 (fun c202 => ?_) (fun c202 => ?_)
                          · first
                            | (exfalso; omega)
                            |  (refine r_iconstv C 0 rfl dX6_readOne_209 ?_
                                refine r_callV C (sp_tk0 G hs _ (rfl) hf) kv_X6_take kn_X6_take rfl dX6_readOne_210 cl_X6_249 ⟨Nat.le_of_ble_eq_true rfl, Nat.le_of_ble_eq_true rfl⟩ (by decide) rfl rfl (q_lt hs (by decide)) hF rfl (Nat.le_of_ble_eq_true rfl) ?_
                                refine r_aload_n C rfl rfl dX6_readOne_213 ?_
                                refine r_aload_n C rfl rfl dX6_readOne_214 ?_
                                refine r_bipush C 59 rfl dX6_readOne_215 ?_
                                refine r_callV C (absurd trivial hf) kv_X6_is kn_X6_is rfl dX6_readOne_217 cl_X6_262 ⟨Nat.le_of_ble_eq_true rfl, Nat.le_of_ble_eq_true rfl⟩ (by decide) rfl rfl (q_lt hs (by decide)) hF rfl (Nat.le_of_ble_eq_true rfl) ?_
                                refine r_callV C (sp_tk0 G hs _ (rfl) hf) kv_X6_take kn_X6_take rfl dX6_readOne_220 cl_X6_249 ⟨Nat.le_of_ble_eq_true rfl, Nat.le_of_ble_eq_true rfl⟩ (by decide) rfl rfl (q_lt hs (by decide)) hF rfl (Nat.le_of_ble_eq_true rfl) ?_
                                refine r_aload_n C rfl rfl dX6_readOne_223 ?_
                                refine r_getI C dX6_readOne_224 fl_X6_230 rfl (q_lt hs (by decide)) ?_
                                refine t_if_ne C 283 (by decide) hf dX6_readOne_227 (fun c227 => ?_) (fun c227 => ?_)
                                · first
                                  | (exfalso; omega)
                                  |  (exact r_vret C dX6_readOne_283 rfl hF rfl)
                                · first
                                  | (exfalso; omega)
                                  |  (refine r_aload_n C rfl rfl dX6_readOne_230 ?_
                                      refine r_getO C dX6_readOne_231 fl_X6_75 rfl rfl (q_lt hs (by decide)) (sh_12_39 hs) ?_
                                      refine r_aload_n C rfl rfl dX6_readOne_234 ?_
                                      refine r_getI C dX6_readOne_235 fl_X6_265 rfl (q_lt hs (by decide)) ?_
                                      refine r_iload_n C rfl dX6_readOne_238 ?_
                                      refine r_iast C (None) rfl (by omega) dX6_readOne_239 rfl (q_lt hs (by decide)) ?_
                                      refine r_aload_n C rfl rfl dX6_readOne_240 ?_
                                      refine r_getO C dX6_readOne_241 fl_X6_78 rfl rfl (q_lt hs (by decide)) (sh_12_40 hs) ?_
                                      refine r_aload_n C rfl rfl dX6_readOne_244 ?_
                                      refine r_getI C dX6_readOne_245 fl_X6_265 rfl (q_lt hs (by decide)) ?_
                                      refine r_iload C rfl dX6_readOne_248 ?_
                                      refine r_iast C (None) rfl (by omega) dX6_readOne_250 rfl (q_lt hs (by decide)) ?_
                                      refine r_aload_n C rfl rfl dX6_readOne_251 ?_
                                      refine r_getO C dX6_readOne_252 fl_X6_81 rfl rfl (q_lt hs (by decide)) (sh_12_41 hs) ?_
                                      refine r_aload_n C rfl rfl dX6_readOne_255 ?_
                                      refine r_getI C dX6_readOne_256 fl_X6_265 rfl (q_lt hs (by decide)) ?_
                                      refine r_iload C rfl dX6_readOne_259 ?_
                                      refine r_iast C (None) rfl (by omega) dX6_readOne_261 rfl (q_lt hs (by decide)) ?_
                                      refine r_aload_n C rfl rfl dX6_readOne_262 ?_
                                      refine r_getO C dX6_readOne_263 fl_X6_84 rfl rfl (q_lt hs (by decide)) (sh_12_42 hs) ?_
                                      refine r_aload_n C rfl rfl dX6_readOne_266 ?_
                                      refine r_getI C dX6_readOne_267 fl_X6_265 rfl (q_lt hs (by decide)) ?_
                                      refine r_iload C rfl dX6_readOne_270 ?_
                                      refine r_iast C (None) rfl (by omega) dX6_readOne_272 rfl (q_lt hs (by decide)) ?_
                                      refine r_aload_n C rfl rfl dX6_readOne_273 ?_
                                      refine r_dup C rfl dX6_readOne_274 ?_
                                      refine r_getI C dX6_readOne_275 fl_X6_265 rfl (q_lt hs (by decide)) ?_
                                      refine r_iconstv C 1 rfl dX6_readOne_278 ?_
                                      refine r_iadd C dX6_readOne_279 ?_
                                      refine r_putI C dX6_readOne_280 fl_X6_265 rfl (q_lt hs (by decide)) (Or.inl rfl) ?_
                                      exact r_vret C dX6_readOne_283 rfl hF rfl))
                          · first
                            | (exfalso; omega)
                            |  (refine r_iconstv C 1 rfl dX6_readOne_205 ?_
                                refine r_goto C 210 (by decide) dX6_readOne_206 ?_
                                refine r_callV C (sp_tk0 G hs _ (rfl) hf) kv_X6_take kn_X6_take rfl dX6_readOne_210 cl_X6_249 ⟨Nat.le_of_ble_eq_true rfl, Nat.le_of_ble_eq_true rfl⟩ (by decide) rfl rfl (q_lt hs (by decide)) hF rfl (Nat.le_of_ble_eq_true rfl) ?_
                                refine r_aload_n C rfl rfl dX6_readOne_213 ?_
                                refine r_aload_n C rfl rfl dX6_readOne_214 ?_
                                refine r_bipush C 59 rfl dX6_readOne_215 ?_
                                refine r_callV C (absurd trivial hf) kv_X6_is kn_X6_is rfl dX6_readOne_217 cl_X6_262 ⟨Nat.le_of_ble_eq_true rfl, Nat.le_of_ble_eq_true rfl⟩ (by decide) rfl rfl (q_lt hs (by decide)) hF rfl (Nat.le_of_ble_eq_true rfl) ?_
                                refine r_callV C (sp_tk0 G hs _ (rfl) hf) kv_X6_take kn_X6_take rfl dX6_readOne_220 cl_X6_249 ⟨Nat.le_of_ble_eq_true rfl, Nat.le_of_ble_eq_true rfl⟩ (by decide) rfl rfl (q_lt hs (by decide)) hF rfl (Nat.le_of_ble_eq_true rfl) ?_
                                refine r_aload_n C rfl rfl dX6_readOne_223 ?_
                                refine r_getI C dX6_readOne_224 fl_X6_230 rfl (q_lt hs (by decide)) ?_
                                refine t_if_ne C 283 (by decide) hf dX6_readOne_227 (fun c227 => ?_) (fun c227 => ?_)
                                · first
                                  | (exfalso; omega)
                                  |  (exact r_vret C dX6_readOne_283 rfl hF rfl)
                                · first
                                  | (exfalso; omega)
                                  |  (refine r_aload_n C rfl rfl dX6_readOne_230 ?_
                                      refine r_getO C dX6_readOne_231 fl_X6_75 rfl rfl (q_lt hs (by decide)) (sh_12_39 hs) ?_
                                      refine r_aload_n C rfl rfl dX6_readOne_234 ?_
                                      refine r_getI C dX6_readOne_235 fl_X6_265 rfl (q_lt hs (by decide)) ?_
                                      refine r_iload_n C rfl dX6_readOne_238 ?_
                                      refine r_iast C (None) rfl (by omega) dX6_readOne_239 rfl (q_lt hs (by decide)) ?_
                                      refine r_aload_n C rfl rfl dX6_readOne_240 ?_
                                      refine r_getO C dX6_readOne_241 fl_X6_78 rfl rfl (q_lt hs (by decide)) (sh_12_40 hs) ?_
                                      refine r_aload_n C rfl rfl dX6_readOne_244 ?_
                                      refine r_getI C dX6_readOne_245 fl_X6_265 rfl (q_lt hs (by decide)) ?_
                                      refine r_iload C rfl dX6_readOne_248 ?_
                                      refine r_iast C (None) rfl (by omega) dX6_readOne_250 rfl (q_lt hs (by decide)) ?_
                                      refine r_aload_n C rfl rfl dX6_readOne_251 ?_
                                      refine r_getO C dX6_readOne_252 fl_X6_81 rfl rfl (q_lt hs (by decide)) (sh_12_41 hs) ?_
                                      refine r_aload_n C rfl rfl dX6_readOne_255 ?_
                                      refine r_getI C dX6_readOne_256 fl_X6_265 rfl (q_lt hs (by decide)) ?_
                                      refine r_iload C rfl dX6_readOne_259 ?_
                                      refine r_iast C (None) rfl (by omega) dX6_readOne_261 rfl (q_lt hs (by decide)) ?_
                                      refine r_aload_n C rfl rfl dX6_readOne_262 ?_
                                      refine r_getO C dX6_readOne_263 fl_X6_84 rfl rfl (q_lt hs (by decide)) (sh_12_42 hs) ?_
                                      refine r_aload_n C rfl rfl dX6_readOne_266 ?_
                                      refine r_getI C dX6_readOne_267 fl_X6_265 rfl (q_lt hs (by decide)) ?_
                                      refine r_iload C rfl dX6_readOne_270 ?_
                                      refine r_iast C (None) rfl (by omega) dX6_readOne_272 rfl (q_lt hs (by decide)) ?_
                                      refine r_aload_n C rfl rfl dX6_readOne_273 ?_
                                      refine r_dup C rfl dX6_readOne_274 ?_
                                      refine r_getI C dX6_readOne_275 fl_X6_265 rfl (q_lt hs (by decide)) ?_
                                      refine r_iconstv C 1 rfl dX6_readOne_278 ?_
                                      refine r_iadd C dX6_readOne_279 ?_
                                      refine r_putI C dX6_readOne_280 fl_X6_265 rfl (q_lt hs (by decide)) (Or.inl rfl) ?_
                                      exact r_vret C dX6_readOne_283 rfl hF rfl)))))
        · first
          | (exfalso; omega)
          |  (refine r_aload_n C rfl rfl dX6_readOne_149 ?_
              refine r_aload_n C rfl rfl dX6_readOne_150 ?_
              refine r_getI C dX6_readOne_151 fl_X6_218 rfl (q_lt hs (by decide)) ?_
              refine r_iconstv C 3 rfl dX6_readOne_154 ?_
              refine t_icmp_ne C 162 (by decide) mt.2.1 (show (3 : Int32).toInt = 3 from rfl) dX6_readOne_155 (fun c155 => ?_) (fun c155 => ?_)
              · first
                | (exfalso; omega)
                |  (refine r_iconstv C 0 rfl dX6_readOne_162 ?_
                    refine r_callV C (sp_tk0 G hs _ (rfl) hf) kv_X6_take kn_X6_take rfl dX6_readOne_163 cl_X6_249 ⟨Nat.le_of_ble_eq_true rfl, Nat.le_of_ble_eq_true rfl⟩ (by decide) rfl rfl (q_lt hs (by decide)) hF rfl (Nat.le_of_ble_eq_true rfl) ?_
                    exact (rs166 G hsb tpb hq mtb hfb).2 p l e R s m args below meth c n0 nF C hF)
              · first
                | (exfalso; omega)
                |  (refine r_iconstv C 1 rfl dX6_readOne_158 ?_
                    refine r_goto C 163 (by decide) dX6_readOne_159 ?_
                    refine r_callV C (sp_tk0 G hs _ (rfl) hf) kv_X6_take kn_X6_take rfl dX6_readOne_163 cl_X6_249 ⟨Nat.le_of_ble_eq_true rfl, Nat.le_of_ble_eq_true rfl⟩ (by decide) rfl rfl (q_lt hs (by decide)) hF rfl (Nat.le_of_ble_eq_true rfl) ?_
                    exact (rs166 G hsb tpb hq mtb hfb).2 p l e R s m args below meth c n0 nF C hF)))
  · first
    | (exfalso; omega)
    |  (refine r_aload_n C rfl rfl dX6_readOne_133 ?_
        refine r_callV C su kv_X6_number kn_X6_number rfl dX6_readOne_134 cl_X6_253 ⟨Nat.le_of_ble_eq_true rfl, Nat.le_of_ble_eq_true rfl⟩ (by decide) rfl rfl (q_lt hs (by decide)) hF rfl (Nat.le_of_ble_eq_true rfl) ?_
        refine r_goto C 141 (by decide) dX6_readOne_137 ?_
        refine r_istore C rfl (Nat.le_of_ble_eq_true rfl) dX6_readOne_141 ?_
        refine r_iload C rfl dX6_readOne_143 ?_
        refine r_iconstv C 2 rfl dX6_readOne_145 ?_
        refine t_icmp_ne C 176 (by decide) h4 (show (2 : Int32).toInt = 2 from rfl) dX6_readOne_146 (fun c146 => ?_) (fun c146 => ?_)
        · first
          | (exfalso; omega)
          |  (refine r_iload C rfl dX6_readOne_176 ?_
              refine t_if_le C 188 (by decide) h4 dX6_readOne_178 (fun c178 => ?_) (fun c178 => ?_)
              · first
                | (exfalso; omega)
                |  (refine r_iconstv C 0 rfl dX6_readOne_188 ?_
                    refine r_istore C rfl (Nat.le_of_ble_eq_true rfl) dX6_readOne_189 ?_
                    refine r_iload C rfl dX6_readOne_191 ?_
                    refine t_if_le C 213 (by decide) h4 dX6_readOne_193 (fun c193 => ?_) (fun c193 => ?_)
                    · first
                      | (exfalso; omega)
                      |  (refine r_aload_n C rfl rfl dX6_readOne_213 ?_
                          refine r_aload_n C rfl rfl dX6_readOne_214 ?_
                          refine r_bipush C 59 rfl dX6_readOne_215 ?_
                          refine r_callV C (absurd trivial hf) kv_X6_is kn_X6_is rfl dX6_readOne_217 cl_X6_262 ⟨Nat.le_of_ble_eq_true rfl, Nat.le_of_ble_eq_true rfl⟩ (by decide) rfl rfl (q_lt hs (by decide)) hF rfl (Nat.le_of_ble_eq_true rfl) ?_
                          refine r_callV C (sp_tk0 G hs _ (rfl) hf) kv_X6_take kn_X6_take rfl dX6_readOne_220 cl_X6_249 ⟨Nat.le_of_ble_eq_true rfl, Nat.le_of_ble_eq_true rfl⟩ (by decide) rfl rfl (q_lt hs (by decide)) hF rfl (Nat.le_of_ble_eq_true rfl) ?_
                          refine r_aload_n C rfl rfl dX6_readOne_223 ?_
                          refine r_getI C dX6_readOne_224 fl_X6_230 rfl (q_lt hs (by decide)) ?_
                          refine t_if_ne C 283 (by decide) hf dX6_readOne_227 (fun c227 => ?_) (fun c227 => ?_)
                          · first
                            | (exfalso; omega)
                            |  (exact r_vret C dX6_readOne_283 rfl hF rfl)
                          · first
                            | (exfalso; omega)
                            |  (refine r_aload_n C rfl rfl dX6_readOne_230 ?_
                                refine r_getO C dX6_readOne_231 fl_X6_75 rfl rfl (q_lt hs (by decide)) (sh_12_39 hs) ?_
                                refine r_aload_n C rfl rfl dX6_readOne_234 ?_
                                refine r_getI C dX6_readOne_235 fl_X6_265 rfl (q_lt hs (by decide)) ?_
                                refine r_iload_n C rfl dX6_readOne_238 ?_
                                refine r_iast C (None) rfl (by omega) dX6_readOne_239 rfl (q_lt hs (by decide)) ?_
                                refine r_aload_n C rfl rfl dX6_readOne_240 ?_
                                refine r_getO C dX6_readOne_241 fl_X6_78 rfl rfl (q_lt hs (by decide)) (sh_12_40 hs) ?_
                                refine r_aload_n C rfl rfl dX6_readOne_244 ?_
                                refine r_getI C dX6_readOne_245 fl_X6_265 rfl (q_lt hs (by decide)) ?_
                                refine r_iload C rfl dX6_readOne_248 ?_
                                refine r_iast C (None) rfl (by omega) dX6_readOne_250 rfl (q_lt hs (by decide)) ?_
                                refine r_aload_n C rfl rfl dX6_readOne_251 ?_
                                refine r_getO C dX6_readOne_252 fl_X6_81 rfl rfl (q_lt hs (by decide)) (sh_12_41 hs) ?_
                                refine r_aload_n C rfl rfl dX6_readOne_255 ?_
                                refine r_getI C dX6_readOne_256 fl_X6_265 rfl (q_lt hs (by decide)) ?_
                                refine r_iload C rfl dX6_readOne_259 ?_
                                refine r_iast C (None) rfl (by omega) dX6_readOne_261 rfl (q_lt hs (by decide)) ?_
                                refine r_aload_n C rfl rfl dX6_readOne_262 ?_
                                refine r_getO C dX6_readOne_263 fl_X6_84 rfl rfl (q_lt hs (by decide)) (sh_12_42 hs) ?_
                                refine r_aload_n C rfl rfl dX6_readOne_266 ?_
                                refine r_getI C dX6_readOne_267 fl_X6_265 rfl (q_lt hs (by decide)) ?_
                                refine r_iload C rfl dX6_readOne_270 ?_
                                refine r_iast C (None) rfl (by omega) dX6_readOne_272 rfl (q_lt hs (by decide)) ?_
                                refine r_aload_n C rfl rfl dX6_readOne_273 ?_
                                refine r_dup C rfl dX6_readOne_274 ?_
                                refine r_getI C dX6_readOne_275 fl_X6_265 rfl (q_lt hs (by decide)) ?_
                                refine r_iconstv C 1 rfl dX6_readOne_278 ?_
                                refine r_iadd C dX6_readOne_279 ?_
                                refine r_putI C dX6_readOne_280 fl_X6_265 rfl (q_lt hs (by decide)) (Or.inl rfl) ?_
                                exact r_vret C dX6_readOne_283 rfl hF rfl))
                    · first
                      | (exfalso; omega)
                      |  (refine r_aload_n C rfl rfl dX6_readOne_196 ?_
                          refine r_aload_n C rfl rfl dX6_readOne_197 ?_
                          refine r_getI C dX6_readOne_198 fl_X6_218 rfl (q_lt hs (by decide)) ?_
                          refine r_iconstv C 3 rfl dX6_readOne_201 ?_
                          refine t_icmp_ne C 209 (by decide) mt.2.1 (show (3 : Int32).toInt = 3 from rfl) dX6_readOne_202 (fun c202 => ?_) (fun c202 => ?_)
                          · first
                            | (exfalso; omega)
                            |  (refine r_iconstv C 0 rfl dX6_readOne_209 ?_
                                refine r_callV C (sp_tk0 G hs _ (rfl) hf) kv_X6_take kn_X6_take rfl dX6_readOne_210 cl_X6_249 ⟨Nat.le_of_ble_eq_true rfl, Nat.le_of_ble_eq_true rfl⟩ (by decide) rfl rfl (q_lt hs (by decide)) hF rfl (Nat.le_of_ble_eq_true rfl) ?_
                                refine r_aload_n C rfl rfl dX6_readOne_213 ?_
                                refine r_aload_n C rfl rfl dX6_readOne_214 ?_
                                refine r_bipush C 59 rfl dX6_readOne_215 ?_
                                refine r_callV C (absurd trivial hf) kv_X6_is kn_X6_is rfl dX6_readOne_217 cl_X6_262 ⟨Nat.le_of_ble_eq_true rfl, Nat.le_of_ble_eq_true rfl⟩ (by decide) rfl rfl (q_lt hs (by decide)) hF rfl (Nat.le_of_ble_eq_true rfl) ?_
                                refine r_callV C (sp_tk0 G hs _ (rfl) hf) kv_X6_take kn_X6_take rfl dX6_readOne_220 cl_X6_249 ⟨Nat.le_of_ble_eq_true rfl, Nat.le_of_ble_eq_true rfl⟩ (by decide) rfl rfl (q_lt hs (by decide)) hF rfl (Nat.le_of_ble_eq_true rfl) ?_
                                refine r_aload_n C rfl rfl dX6_readOne_223 ?_
                                refine r_getI C dX6_readOne_224 fl_X6_230 rfl (q_lt hs (by decide)) ?_
                                refine t_if_ne C 283 (by decide) hf dX6_readOne_227 (fun c227 => ?_) (fun c227 => ?_)
                                · first
                                  | (exfalso; omega)
                                  |  (exact r_vret C dX6_readOne_283 rfl hF rfl)
                                · first
                                  | (exfalso; omega)
                                  |  (refine r_aload_n C rfl rfl dX6_readOne_230 ?_
                                      refine r_getO C dX6_readOne_231 fl_X6_75 rfl rfl (q_lt hs (by decide)) (sh_12_39 hs) ?_
                                      refine r_aload_n C rfl rfl dX6_readOne_234 ?_
                                      refine r_getI C dX6_readOne_235 fl_X6_265 rfl (q_lt hs (by decide)) ?_
                                      refine r_iload_n C rfl dX6_readOne_238 ?_
                                      refine r_iast C (None) rfl (by omega) dX6_readOne_239 rfl (q_lt hs (by decide)) ?_
                                      refine r_aload_n C rfl rfl dX6_readOne_240 ?_
                                      refine r_getO C dX6_readOne_241 fl_X6_78 rfl rfl (q_lt hs (by decide)) (sh_12_40 hs) ?_
                                      refine r_aload_n C rfl rfl dX6_readOne_244 ?_
                                      refine r_getI C dX6_readOne_245 fl_X6_265 rfl (q_lt hs (by decide)) ?_
                                      refine r_iload C rfl dX6_readOne_248 ?_
                                      refine r_iast C (None) rfl (by omega) dX6_readOne_250 rfl (q_lt hs (by decide)) ?_
                                      refine r_aload_n C rfl rfl dX6_readOne_251 ?_
                                      refine r_getO C dX6_readOne_252 fl_X6_81 rfl rfl (q_lt hs (by decide)) (sh_12_41 hs) ?_
                                      refine r_aload_n C rfl rfl dX6_readOne_255 ?_
                                      refine r_getI C dX6_readOne_256 fl_X6_265 rfl (q_lt hs (by decide)) ?_
                                      refine r_iload C rfl dX6_readOne_259 ?_
                                      refine r_iast C (None) rfl (by omega) dX6_readOne_261 rfl (q_lt hs (by decide)) ?_
                                      refine r_aload_n C rfl rfl dX6_readOne_262 ?_
                                      refine r_getO C dX6_readOne_263 fl_X6_84 rfl rfl (q_lt hs (by decide)) (sh_12_42 hs) ?_
                                      refine r_aload_n C rfl rfl dX6_readOne_266 ?_
                                      refine r_getI C dX6_readOne_267 fl_X6_265 rfl (q_lt hs (by decide)) ?_
                                      refine r_iload C rfl dX6_readOne_270 ?_
                                      refine r_iast C (None) rfl (by omega) dX6_readOne_272 rfl (q_lt hs (by decide)) ?_
                                      refine r_aload_n C rfl rfl dX6_readOne_273 ?_
                                      refine r_dup C rfl dX6_readOne_274 ?_
                                      refine r_getI C dX6_readOne_275 fl_X6_265 rfl (q_lt hs (by decide)) ?_
                                      refine r_iconstv C 1 rfl dX6_readOne_278 ?_
                                      refine r_iadd C dX6_readOne_279 ?_
                                      refine r_putI C dX6_readOne_280 fl_X6_265 rfl (q_lt hs (by decide)) (Or.inl rfl) ?_
                                      exact r_vret C dX6_readOne_283 rfl hF rfl))
                          · first
                            | (exfalso; omega)
                            |  (refine r_iconstv C 1 rfl dX6_readOne_205 ?_
                                refine r_goto C 210 (by decide) dX6_readOne_206 ?_
                                refine r_callV C (sp_tk0 G hs _ (rfl) hf) kv_X6_take kn_X6_take rfl dX6_readOne_210 cl_X6_249 ⟨Nat.le_of_ble_eq_true rfl, Nat.le_of_ble_eq_true rfl⟩ (by decide) rfl rfl (q_lt hs (by decide)) hF rfl (Nat.le_of_ble_eq_true rfl) ?_
                                refine r_aload_n C rfl rfl dX6_readOne_213 ?_
                                refine r_aload_n C rfl rfl dX6_readOne_214 ?_
                                refine r_bipush C 59 rfl dX6_readOne_215 ?_
                                refine r_callV C (absurd trivial hf) kv_X6_is kn_X6_is rfl dX6_readOne_217 cl_X6_262 ⟨Nat.le_of_ble_eq_true rfl, Nat.le_of_ble_eq_true rfl⟩ (by decide) rfl rfl (q_lt hs (by decide)) hF rfl (Nat.le_of_ble_eq_true rfl) ?_
                                refine r_callV C (sp_tk0 G hs _ (rfl) hf) kv_X6_take kn_X6_take rfl dX6_readOne_220 cl_X6_249 ⟨Nat.le_of_ble_eq_true rfl, Nat.le_of_ble_eq_true rfl⟩ (by decide) rfl rfl (q_lt hs (by decide)) hF rfl (Nat.le_of_ble_eq_true rfl) ?_
                                refine r_aload_n C rfl rfl dX6_readOne_223 ?_
                                refine r_getI C dX6_readOne_224 fl_X6_230 rfl (q_lt hs (by decide)) ?_
                                refine t_if_ne C 283 (by decide) hf dX6_readOne_227 (fun c227 => ?_) (fun c227 => ?_)
                                · first
                                  | (exfalso; omega)
                                  |  (exact r_vret C dX6_readOne_283 rfl hF rfl)
                                · first
                                  | (exfalso; omega)
                                  |  (refine r_aload_n C rfl rfl dX6_readOne_230 ?_
                                      refine r_getO C dX6_readOne_231 fl_X6_75 rfl rfl (q_lt hs (by decide)) (sh_12_39 hs) ?_
                                      refine r_aload_n C rfl rfl dX6_readOne_234 ?_
                                      refine r_getI C dX6_readOne_235 fl_X6_265 rfl (q_lt hs (by decide)) ?_
                                      refine r_iload_n C rfl dX6_readOne_238 ?_
                                      refine r_iast C (None) rfl (by omega) dX6_readOne_239 rfl (q_lt hs (by decide)) ?_
                                      refine r_aload_n C rfl rfl dX6_readOne_240 ?_
                                      refine r_getO C dX6_readOne_241 fl_X6_78 rfl rfl (q_lt hs (by decide)) (sh_12_40 hs) ?_
                                      refine r_aload_n C rfl rfl dX6_readOne_244 ?_
                                      refine r_getI C dX6_readOne_245 fl_X6_265 rfl (q_lt hs (by decide)) ?_
                                      refine r_iload C rfl dX6_readOne_248 ?_
                                      refine r_iast C (None) rfl (by omega) dX6_readOne_250 rfl (q_lt hs (by decide)) ?_
                                      refine r_aload_n C rfl rfl dX6_readOne_251 ?_
                                      refine r_getO C dX6_readOne_252 fl_X6_81 rfl rfl (q_lt hs (by decide)) (sh_12_41 hs) ?_
                                      refine r_aload_n C rfl rfl dX6_readOne_255 ?_
                                      refine r_getI C dX6_readOne_256 fl_X6_265 rfl (q_lt hs (by decide)) ?_
                                      refine r_iload C rfl dX6_readOne_259 ?_
                                      refine r_iast C (None) rfl (by omega) dX6_readOne_261 rfl (q_lt hs (by decide)) ?_
                                      refine r_aload_n C rfl rfl dX6_readOne_262 ?_
                                      refine r_getO C dX6_readOne_263 fl_X6_84 rfl rfl (q_lt hs (by decide)) (sh_12_42 hs) ?_
                                      refine r_aload_n C rfl rfl dX6_readOne_266 ?_
                                      refine r_getI C dX6_readOne_267 fl_X6_265 rfl (q_lt hs (by decide)) ?_
                                      refine r_iload C rfl dX6_readOne_270 ?_
                                      refine r_iast C (None) rfl (by omega) dX6_readOne_272 rfl (q_lt hs (by decide)) ?_
                                      refine r_aload_n C rfl rfl dX6_readOne_273 ?_
                                      refine r_dup C rfl dX6_readOne_274 ?_
                                      refine r_getI C dX6_readOne_275 fl_X6_265 rfl (q_lt hs (by decide)) ?_
                                      refine r_iconstv C 1 rfl dX6_readOne_278 ?_
                                      refine r_iadd C dX6_readOne_279 ?_
                                      refine r_putI C dX6_readOne_280 fl_X6_265 rfl (q_lt hs (by decide)) (Or.inl rfl) ?_
                                      exact r_vret C dX6_readOne_283 rfl hF rfl))))
              · first
                | (exfalso; omega)
                |  (refine r_aload_n C rfl rfl dX6_readOne_181 ?_
                    refine r_callV C su kv_X6_number kn_X6_number rfl dX6_readOne_182 cl_X6_253 ⟨Nat.le_of_ble_eq_true rfl, Nat.le_of_ble_eq_true rfl⟩ (by decide) rfl rfl (q_lt hs (by decide)) hF rfl (Nat.le_of_ble_eq_true rfl) ?_
                    refine r_goto C 189 (by decide) dX6_readOne_185 ?_
                    refine r_istore C rfl (Nat.le_of_ble_eq_true rfl) dX6_readOne_189 ?_
                    refine r_iload C rfl dX6_readOne_191 ?_
                    refine t_if_le C 213 (by decide) h4 dX6_readOne_193 (fun c193 => ?_) (fun c193 => ?_)
                    · first
                      | (exfalso; omega)
                      |  (refine r_aload_n C rfl rfl dX6_readOne_213 ?_
                          refine r_aload_n C rfl rfl dX6_readOne_214 ?_
                          refine r_bipush C 59 rfl dX6_readOne_215 ?_
                          refine r_callV C (absurd trivial hf) kv_X6_is kn_X6_is rfl dX6_readOne_217 cl_X6_262 ⟨Nat.le_of_ble_eq_true rfl, Nat.le_of_ble_eq_true rfl⟩ (by decide) rfl rfl (q_lt hs (by decide)) hF rfl (Nat.le_of_ble_eq_true rfl) ?_
                          refine r_callV C (sp_tk0 G hs _ (rfl) hf) kv_X6_take kn_X6_take rfl dX6_readOne_220 cl_X6_249 ⟨Nat.le_of_ble_eq_true rfl, Nat.le_of_ble_eq_true rfl⟩ (by decide) rfl rfl (q_lt hs (by decide)) hF rfl (Nat.le_of_ble_eq_true rfl) ?_
                          refine r_aload_n C rfl rfl dX6_readOne_223 ?_
                          refine r_getI C dX6_readOne_224 fl_X6_230 rfl (q_lt hs (by decide)) ?_
                          refine t_if_ne C 283 (by decide) hf dX6_readOne_227 (fun c227 => ?_) (fun c227 => ?_)
                          · first
                            | (exfalso; omega)
                            |  (exact r_vret C dX6_readOne_283 rfl hF rfl)
                          · first
                            | (exfalso; omega)
                            |  (refine r_aload_n C rfl rfl dX6_readOne_230 ?_
                                refine r_getO C dX6_readOne_231 fl_X6_75 rfl rfl (q_lt hs (by decide)) (sh_12_39 hs) ?_
                                refine r_aload_n C rfl rfl dX6_readOne_234 ?_
                                refine r_getI C dX6_readOne_235 fl_X6_265 rfl (q_lt hs (by decide)) ?_
                                refine r_iload_n C rfl dX6_readOne_238 ?_
                                refine r_iast C (None) rfl (by omega) dX6_readOne_239 rfl (q_lt hs (by decide)) ?_
                                refine r_aload_n C rfl rfl dX6_readOne_240 ?_
                                refine r_getO C dX6_readOne_241 fl_X6_78 rfl rfl (q_lt hs (by decide)) (sh_12_40 hs) ?_
                                refine r_aload_n C rfl rfl dX6_readOne_244 ?_
                                refine r_getI C dX6_readOne_245 fl_X6_265 rfl (q_lt hs (by decide)) ?_
                                refine r_iload C rfl dX6_readOne_248 ?_
                                refine r_iast C (None) rfl (by omega) dX6_readOne_250 rfl (q_lt hs (by decide)) ?_
                                refine r_aload_n C rfl rfl dX6_readOne_251 ?_
                                refine r_getO C dX6_readOne_252 fl_X6_81 rfl rfl (q_lt hs (by decide)) (sh_12_41 hs) ?_
                                refine r_aload_n C rfl rfl dX6_readOne_255 ?_
                                refine r_getI C dX6_readOne_256 fl_X6_265 rfl (q_lt hs (by decide)) ?_
                                refine r_iload C rfl dX6_readOne_259 ?_
                                refine r_iast C (None) rfl (by omega) dX6_readOne_261 rfl (q_lt hs (by decide)) ?_
                                refine r_aload_n C rfl rfl dX6_readOne_262 ?_
                                refine r_getO C dX6_readOne_263 fl_X6_84 rfl rfl (q_lt hs (by decide)) (sh_12_42 hs) ?_
                                refine r_aload_n C rfl rfl dX6_readOne_266 ?_
                                refine r_getI C dX6_readOne_267 fl_X6_265 rfl (q_lt hs (by decide)) ?_
                                refine r_iload C rfl dX6_readOne_270 ?_
                                refine r_iast C (None) rfl (by omega) dX6_readOne_272 rfl (q_lt hs (by decide)) ?_
                                refine r_aload_n C rfl rfl dX6_readOne_273 ?_
                                refine r_dup C rfl dX6_readOne_274 ?_
                                refine r_getI C dX6_readOne_275 fl_X6_265 rfl (q_lt hs (by decide)) ?_
                                refine r_iconstv C 1 rfl dX6_readOne_278 ?_
                                refine r_iadd C dX6_readOne_279 ?_
                                refine r_putI C dX6_readOne_280 fl_X6_265 rfl (q_lt hs (by decide)) (Or.inl rfl) ?_
                                exact r_vret C dX6_readOne_283 rfl hF rfl))
                    · first
                      | (exfalso; omega)
                      |  (refine r_aload_n C rfl rfl dX6_readOne_196 ?_
                          refine r_aload_n C rfl rfl dX6_readOne_197 ?_
                          refine r_getI C dX6_readOne_198 fl_X6_218 rfl (q_lt hs (by decide)) ?_
                          refine r_iconstv C 3 rfl dX6_readOne_201 ?_
                          refine t_icmp_ne C 209 (by decide) mt.2.1 (show (3 : Int32).toInt = 3 from rfl) dX6_readOne_202 (fun c202 => ?_) (fun c202 => ?_)
                          · first
                            | (exfalso; omega)
                            |  (refine r_iconstv C 0 rfl dX6_readOne_209 ?_
                                refine r_callV C (sp_tk0 G hs _ (rfl) hf) kv_X6_take kn_X6_take rfl dX6_readOne_210 cl_X6_249 ⟨Nat.le_of_ble_eq_true rfl, Nat.le_of_ble_eq_true rfl⟩ (by decide) rfl rfl (q_lt hs (by decide)) hF rfl (Nat.le_of_ble_eq_true rfl) ?_
                                refine r_aload_n C rfl rfl dX6_readOne_213 ?_
                                refine r_aload_n C rfl rfl dX6_readOne_214 ?_
                                refine r_bipush C 59 rfl dX6_readOne_215 ?_
                                refine r_callV C (absurd trivial hf) kv_X6_is kn_X6_is rfl dX6_readOne_217 cl_X6_262 ⟨Nat.le_of_ble_eq_true rfl, Nat.le_of_ble_eq_true rfl⟩ (by decide) rfl rfl (q_lt hs (by decide)) hF rfl (Nat.le_of_ble_eq_true rfl) ?_
                                refine r_callV C (sp_tk0 G hs _ (rfl) hf) kv_X6_take kn_X6_take rfl dX6_readOne_220 cl_X6_249 ⟨Nat.le_of_ble_eq_true rfl, Nat.le_of_ble_eq_true rfl⟩ (by decide) rfl rfl (q_lt hs (by decide)) hF rfl (Nat.le_of_ble_eq_true rfl) ?_
                                refine r_aload_n C rfl rfl dX6_readOne_223 ?_
                                refine r_getI C dX6_readOne_224 fl_X6_230 rfl (q_lt hs (by decide)) ?_
                                refine t_if_ne C 283 (by decide) hf dX6_readOne_227 (fun c227 => ?_) (fun c227 => ?_)
                                · first
                                  | (exfalso; omega)
                                  |  (exact r_vret C dX6_readOne_283 rfl hF rfl)
                                · first
                                  | (exfalso; omega)
                                  |  (refine r_aload_n C rfl rfl dX6_readOne_230 ?_
                                      refine r_getO C dX6_readOne_231 fl_X6_75 rfl rfl (q_lt hs (by decide)) (sh_12_39 hs) ?_
                                      refine r_aload_n C rfl rfl dX6_readOne_234 ?_
                                      refine r_getI C dX6_readOne_235 fl_X6_265 rfl (q_lt hs (by decide)) ?_
                                      refine r_iload_n C rfl dX6_readOne_238 ?_
                                      refine r_iast C (None) rfl (by omega) dX6_readOne_239 rfl (q_lt hs (by decide)) ?_
                                      refine r_aload_n C rfl rfl dX6_readOne_240 ?_
                                      refine r_getO C dX6_readOne_241 fl_X6_78 rfl rfl (q_lt hs (by decide)) (sh_12_40 hs) ?_
                                      refine r_aload_n C rfl rfl dX6_readOne_244 ?_
                                      refine r_getI C dX6_readOne_245 fl_X6_265 rfl (q_lt hs (by decide)) ?_
                                      refine r_iload C rfl dX6_readOne_248 ?_
                                      refine r_iast C (None) rfl (by omega) dX6_readOne_250 rfl (q_lt hs (by decide)) ?_
                                      refine r_aload_n C rfl rfl dX6_readOne_251 ?_
                                      refine r_getO C dX6_readOne_252 fl_X6_81 rfl rfl (q_lt hs (by decide)) (sh_12_41 hs) ?_
                                      refine r_aload_n C rfl rfl dX6_readOne_255 ?_
                                      refine r_getI C dX6_readOne_256 fl_X6_265 rfl (q_lt hs (by decide)) ?_
                                      refine r_iload C rfl dX6_readOne_259 ?_
                                      refine r_iast C (None) rfl (by omega) dX6_readOne_261 rfl (q_lt hs (by decide)) ?_
                                      refine r_aload_n C rfl rfl dX6_readOne_262 ?_
                                      refine r_getO C dX6_readOne_263 fl_X6_84 rfl rfl (q_lt hs (by decide)) (sh_12_42 hs) ?_
                                      refine r_aload_n C rfl rfl dX6_readOne_266 ?_
                                      refine r_getI C dX6_readOne_267 fl_X6_265 rfl (q_lt hs (by decide)) ?_
                                      refine r_iload C rfl dX6_readOne_270 ?_
                                      refine r_iast C (None) rfl (by omega) dX6_readOne_272 rfl (q_lt hs (by decide)) ?_
                                      refine r_aload_n C rfl rfl dX6_readOne_273 ?_
                                      refine r_dup C rfl dX6_readOne_274 ?_
                                      refine r_getI C dX6_readOne_275 fl_X6_265 rfl (q_lt hs (by decide)) ?_
                                      refine r_iconstv C 1 rfl dX6_readOne_278 ?_
                                      refine r_iadd C dX6_readOne_279 ?_
                                      refine r_putI C dX6_readOne_280 fl_X6_265 rfl (q_lt hs (by decide)) (Or.inl rfl) ?_
                                      exact r_vret C dX6_readOne_283 rfl hF rfl))
                          · first
                            | (exfalso; omega)
                            |  (refine r_iconstv C 1 rfl dX6_readOne_205 ?_
                                refine r_goto C 210 (by decide) dX6_readOne_206 ?_
                                refine r_callV C (sp_tk0 G hs _ (rfl) hf) kv_X6_take kn_X6_take rfl dX6_readOne_210 cl_X6_249 ⟨Nat.le_of_ble_eq_true rfl, Nat.le_of_ble_eq_true rfl⟩ (by decide) rfl rfl (q_lt hs (by decide)) hF rfl (Nat.le_of_ble_eq_true rfl) ?_
                                refine r_aload_n C rfl rfl dX6_readOne_213 ?_
                                refine r_aload_n C rfl rfl dX6_readOne_214 ?_
                                refine r_bipush C 59 rfl dX6_readOne_215 ?_
                                refine r_callV C (absurd trivial hf) kv_X6_is kn_X6_is rfl dX6_readOne_217 cl_X6_262 ⟨Nat.le_of_ble_eq_true rfl, Nat.le_of_ble_eq_true rfl⟩ (by decide) rfl rfl (q_lt hs (by decide)) hF rfl (Nat.le_of_ble_eq_true rfl) ?_
                                refine r_callV C (sp_tk0 G hs _ (rfl) hf) kv_X6_take kn_X6_take rfl dX6_readOne_220 cl_X6_249 ⟨Nat.le_of_ble_eq_true rfl, Nat.le_of_ble_eq_true rfl⟩ (by decide) rfl rfl (q_lt hs (by decide)) hF rfl (Nat.le_of_ble_eq_true rfl) ?_
                                refine r_aload_n C rfl rfl dX6_readOne_223 ?_
                                refine r_getI C dX6_readOne_224 fl_X6_230 rfl (q_lt hs (by decide)) ?_
                                refine t_if_ne C 283 (by decide) hf dX6_readOne_227 (fun c227 => ?_) (fun c227 => ?_)
                                · first
                                  | (exfalso; omega)
                                  |  (exact r_vret C dX6_readOne_283 rfl hF rfl)
                                · first
                                  | (exfalso; omega)
                                  |  (refine r_aload_n C rfl rfl dX6_readOne_230 ?_
                                      refine r_getO C dX6_readOne_231 fl_X6_75 rfl rfl (q_lt hs (by decide)) (sh_12_39 hs) ?_
                                      refine r_aload_n C rfl rfl dX6_readOne_234 ?_
                                      refine r_getI C dX6_readOne_235 fl_X6_265 rfl (q_lt hs (by decide)) ?_
                                      refine r_iload_n C rfl dX6_readOne_238 ?_
                                      refine r_iast C (None) rfl (by omega) dX6_readOne_239 rfl (q_lt hs (by decide)) ?_
                                      refine r_aload_n C rfl rfl dX6_readOne_240 ?_
                                      refine r_getO C dX6_readOne_241 fl_X6_78 rfl rfl (q_lt hs (by decide)) (sh_12_40 hs) ?_
                                      refine r_aload_n C rfl rfl dX6_readOne_244 ?_
                                      refine r_getI C dX6_readOne_245 fl_X6_265 rfl (q_lt hs (by decide)) ?_
                                      refine r_iload C rfl dX6_readOne_248 ?_
                                      refine r_iast C (None) rfl (by omega) dX6_readOne_250 rfl (q_lt hs (by decide)) ?_
                                      refine r_aload_n C rfl rfl dX6_readOne_251 ?_
                                      refine r_getO C dX6_readOne_252 fl_X6_81 rfl rfl (q_lt hs (by decide)) (sh_12_41 hs) ?_
                                      refine r_aload_n C rfl rfl dX6_readOne_255 ?_
                                      refine r_getI C dX6_readOne_256 fl_X6_265 rfl (q_lt hs (by decide)) ?_
                                      refine r_iload C rfl dX6_readOne_259 ?_
                                      refine r_iast C (None) rfl (by omega) dX6_readOne_261 rfl (q_lt hs (by decide)) ?_
                                      refine r_aload_n C rfl rfl dX6_readOne_262 ?_
                                      refine r_getO C dX6_readOne_263 fl_X6_84 rfl rfl (q_lt hs (by decide)) (sh_12_42 hs) ?_
                                      refine r_aload_n C rfl rfl dX6_readOne_266 ?_
                                      refine r_getI C dX6_readOne_267 fl_X6_265 rfl (q_lt hs (by decide)) ?_
                                      refine r_iload C rfl dX6_readOne_270 ?_
                                      refine r_iast C (None) rfl (by omega) dX6_readOne_272 rfl (q_lt hs (by decide)) ?_
                                      refine r_aload_n C rfl rfl dX6_readOne_273 ?_
                                      refine r_dup C rfl dX6_readOne_274 ?_
                                      refine r_getI C dX6_readOne_275 fl_X6_265 rfl (q_lt hs (by decide)) ?_
                                      refine r_iconstv C 1 rfl dX6_readOne_278 ?_
                                      refine r_iadd C dX6_readOne_279 ?_
                                      refine r_putI C dX6_readOne_280 fl_X6_265 rfl (q_lt hs (by decide)) (Or.inl rfl) ?_
                                      exact r_vret C dX6_readOne_283 rfl hF rfl)))))
        · first
          | (exfalso; omega)
          |  (refine r_aload_n C rfl rfl dX6_readOne_149 ?_
              refine r_aload_n C rfl rfl dX6_readOne_150 ?_
              refine r_getI C dX6_readOne_151 fl_X6_218 rfl (q_lt hs (by decide)) ?_
              refine r_iconstv C 3 rfl dX6_readOne_154 ?_
              refine t_icmp_ne C 162 (by decide) mt.2.1 (show (3 : Int32).toInt = 3 from rfl) dX6_readOne_155 (fun c155 => ?_) (fun c155 => ?_)
              · first
                | (exfalso; omega)
                |  (refine r_iconstv C 0 rfl dX6_readOne_162 ?_
                    refine r_callV C (sp_tk0 G hs _ (rfl) hf) kv_X6_take kn_X6_take rfl dX6_readOne_163 cl_X6_249 ⟨Nat.le_of_ble_eq_true rfl, Nat.le_of_ble_eq_true rfl⟩ (by decide) rfl rfl (q_lt hs (by decide)) hF rfl (Nat.le_of_ble_eq_true rfl) ?_
                    exact (rs166 G hsb tpb hq mtb hfb).2 p l e R s m args below meth c n0 nF C hF)
              · first
                | (exfalso; omega)
                |  (refine r_iconstv C 1 rfl dX6_readOne_158 ?_
                    refine r_goto C 163 (by decide) dX6_readOne_159 ?_
                    refine r_callV C (sp_tk0 G hs _ (rfl) hf) kv_X6_take kn_X6_take rfl dX6_readOne_163 cl_X6_249 ⟨Nat.le_of_ble_eq_true rfl, Nat.le_of_ble_eq_true rfl⟩ (by decide) rfl rfl (q_lt hs (by decide)) hF rfl (Nat.le_of_ble_eq_true rfl) ?_
                    exact (rs166 G hsb tpb hq mtb hfb).2 p l e R s m args below meth c n0 nF C hF)))

set_option maxHeartbeats 4000000 in
set_option maxRecDepth 100000 in
theorem s127 (G : oG) {h : oH} (hs : oSh h) {z : Nat} {T : Nat → Int} (tp : tpM h z T) {q : Nat} (hq : q ≤ z) (mt : mT h T z q) (hf : (hI h 12 36).toInt = 0) {x1 x4 : Int32} {l2 l3 l5 l6 : Option Value} (h4 : x4.toInt = 2) (hk : xK T z q = 5) : ∃ h', mT h' T z (xE T z q) ∧ frK h h' ∧ ∀ hg, tO G 166 [some (.ref 12), some (.int x1), l2, l3, some (.int x4), some (.int (oI (xV T z q))), l6] h' hg → tO G 127 [some (.ref 12), some (.int x1), l2, l3, some (.int x4), l5, l6] h hg := by
  obtain ⟨vu, su, vu2⟩ := numQ G hs tp hq mt
  have hK := xKR (T := T) hq
  rw [vu2 hk] at su
  obtain ⟨h1, sp1, m1, f1⟩ := takeQ G hs tp hq mt hf 1 (by decide)
  have hn1 := f1.1
  refine ⟨h1, m1, f1, fun hg t => ⟨t.1.trans hn1, fun p l e R s m args below meth c n0 nF C hF => ?_⟩⟩
  refine r_iload C rfl dX6_readOne_127 ?_
  refine r_iconstv C 2 rfl dX6_readOne_129 ?_
  refine t_icmp_ne C 140 (by decide) h4 (show (2 : Int32).toInt = 2 from rfl) dX6_readOne_130 (fun c130 => ?_) (fun c130 => ?_)
  · first
    | (exfalso; omega)
    |  (refine r_iconstv C 0 rfl dX6_readOne_140 ?_
        refine r_istore C rfl (Nat.le_of_ble_eq_true rfl) dX6_readOne_141 ?_
        refine r_iload C rfl dX6_readOne_143 ?_
        refine r_iconstv C 2 rfl dX6_readOne_145 ?_
        refine t_icmp_ne C 176 (by decide) h4 (show (2 : Int32).toInt = 2 from rfl) dX6_readOne_146 (fun c146 => ?_) (fun c146 => ?_)
        · first
          | (exfalso; omega)
          |  (refine r_iload C rfl dX6_readOne_176 ?_
              refine t_if_le C 188 (by decide) h4 dX6_readOne_178 (fun c178 => ?_) (fun c178 => ?_)
              · first
                | (exfalso; omega)
                |  (refine r_iconstv C 0 rfl dX6_readOne_188 ?_
                    refine r_istore C rfl (Nat.le_of_ble_eq_true rfl) dX6_readOne_189 ?_
                    refine r_iload C rfl dX6_readOne_191 ?_
                    refine t_if_le C 213 (by decide) h4 dX6_readOne_193 (fun c193 => ?_) (fun c193 => ?_)
                    · first
                      | (exfalso; omega)
                      |  (refine r_aload_n C rfl rfl dX6_readOne_213 ?_
                          refine r_aload_n C rfl rfl dX6_readOne_214 ?_
                          refine r_bipush C 59 rfl dX6_readOne_215 ?_
                          refine r_callV C (absurd trivial hf) kv_X6_is kn_X6_is rfl dX6_readOne_217 cl_X6_262 ⟨Nat.le_of_ble_eq_true rfl, Nat.le_of_ble_eq_true rfl⟩ (by decide) rfl rfl (q_lt hs (by decide)) hF rfl (Nat.le_of_ble_eq_true rfl) ?_
                          refine r_callV C sp1 kv_X6_take kn_X6_take rfl dX6_readOne_220 cl_X6_249 ⟨Nat.le_of_ble_eq_true rfl, Nat.le_of_ble_eq_true rfl⟩ (by decide) rfl rfl (q_lt hs (by decide)) (by rw [hn1]; exact hF) rfl (Nat.le_of_ble_eq_true rfl) ?_
                          refine r_aload_n C rfl rfl dX6_readOne_223 ?_
                          refine r_getI C dX6_readOne_224 fl_X6_230 rfl (q_lt hs (by decide)) ?_
                          refine t_if_ne C 283 (by decide) hf dX6_readOne_227 (fun c227 => ?_) (fun c227 => ?_)
                          · first
                            | (exfalso; omega)
                            |  (exact r_vret C dX6_readOne_283 rfl (Nat.le_refl _) rfl)
                          · first
                            | (exfalso; omega)
                            |  (refine r_aload_n C rfl rfl dX6_readOne_230 ?_
                                refine r_getO C dX6_readOne_231 fl_X6_75 rfl rfl (q_lt hs (by decide)) (sh_12_39 hs) ?_
                                refine r_aload_n C rfl rfl dX6_readOne_234 ?_
                                refine r_getI C dX6_readOne_235 fl_X6_265 rfl (q_lt hs (by decide)) ?_
                                refine r_iload_n C rfl dX6_readOne_238 ?_
                                refine r_iast C (None) rfl (by omega) dX6_readOne_239 rfl (q_lt hs (by decide)) ?_
                                refine r_aload_n C rfl rfl dX6_readOne_240 ?_
                                refine r_getO C dX6_readOne_241 fl_X6_78 rfl rfl (q_lt hs (by decide)) (sh_12_40 hs) ?_
                                refine r_aload_n C rfl rfl dX6_readOne_244 ?_
                                refine r_getI C dX6_readOne_245 fl_X6_265 rfl (q_lt hs (by decide)) ?_
                                refine r_iload C rfl dX6_readOne_248 ?_
                                refine r_iast C (None) rfl (by omega) dX6_readOne_250 rfl (q_lt hs (by decide)) ?_
                                refine r_aload_n C rfl rfl dX6_readOne_251 ?_
                                refine r_getO C dX6_readOne_252 fl_X6_81 rfl rfl (q_lt hs (by decide)) (sh_12_41 hs) ?_
                                refine r_aload_n C rfl rfl dX6_readOne_255 ?_
                                refine r_getI C dX6_readOne_256 fl_X6_265 rfl (q_lt hs (by decide)) ?_
                                refine r_iload C rfl dX6_readOne_259 ?_
                                refine r_iast C (None) rfl (by omega) dX6_readOne_261 rfl (q_lt hs (by decide)) ?_
                                refine r_aload_n C rfl rfl dX6_readOne_262 ?_
                                refine r_getO C dX6_readOne_263 fl_X6_84 rfl rfl (q_lt hs (by decide)) (sh_12_42 hs) ?_
                                refine r_aload_n C rfl rfl dX6_readOne_266 ?_
                                refine r_getI C dX6_readOne_267 fl_X6_265 rfl (q_lt hs (by decide)) ?_
                                refine r_iload C rfl dX6_readOne_270 ?_
                                refine r_iast C (None) rfl (by omega) dX6_readOne_272 rfl (q_lt hs (by decide)) ?_
                                refine r_aload_n C rfl rfl dX6_readOne_273 ?_
                                refine r_dup C rfl dX6_readOne_274 ?_
                                refine r_getI C dX6_readOne_275 fl_X6_265 rfl (q_lt hs (by decide)) ?_
                                refine r_iconstv C 1 rfl dX6_readOne_278 ?_
                                refine r_iadd C dX6_readOne_279 ?_
                                refine r_putI C dX6_readOne_280 fl_X6_265 rfl (q_lt hs (by decide)) (Or.inl rfl) ?_
                                exact r_vret C dX6_readOne_283 rfl (Nat.le_refl _) rfl))
                    · first
                      | (exfalso; omega)
                      |  (refine r_aload_n C rfl rfl dX6_readOne_196 ?_
                          refine r_aload_n C rfl rfl dX6_readOne_197 ?_
                          refine r_getI C dX6_readOne_198 fl_X6_218 rfl (q_lt hs (by decide)) ?_
                          refine r_iconstv C 3 rfl dX6_readOne_201 ?_
                          refine t_icmp_ne C 209 (by decide) mt.2.1 (show (3 : Int32).toInt = 3 from rfl) dX6_readOne_202 (fun c202 => ?_) (fun c202 => ?_)
                          · first
                            | (exfalso; omega)
                            |  (refine r_iconstv C 0 rfl dX6_readOne_209 ?_
                                refine r_callV C sp1 kv_X6_take kn_X6_take rfl dX6_readOne_210 cl_X6_249 ⟨Nat.le_of_ble_eq_true rfl, Nat.le_of_ble_eq_true rfl⟩ (by decide) rfl rfl (q_lt hs (by decide)) (by rw [hn1]; exact hF) rfl (Nat.le_of_ble_eq_true rfl) ?_
                                refine r_aload_n C rfl rfl dX6_readOne_213 ?_
                                refine r_aload_n C rfl rfl dX6_readOne_214 ?_
                                refine r_bipush C 59 rfl dX6_readOne_215 ?_
                                refine r_callV C (absurd trivial hf) kv_X6_is kn_X6_is rfl dX6_readOne_217 cl_X6_262 ⟨Nat.le_of_ble_eq_true rfl, Nat.le_of_ble_eq_true rfl⟩ (by decide) rfl rfl (q_lt hs (by decide)) hF rfl (Nat.le_of_ble_eq_true rfl) ?_
                                refine r_callV C sp1 kv_X6_take kn_X6_take rfl dX6_readOne_220 cl_X6_249 ⟨Nat.le_of_ble_eq_true rfl, Nat.le_of_ble_eq_true rfl⟩ (by decide) rfl rfl (q_lt hs (by decide)) (by rw [hn1]; exact hF) rfl (Nat.le_of_ble_eq_true rfl) ?_
                                refine r_aload_n C rfl rfl dX6_readOne_223 ?_
                                refine r_getI C dX6_readOne_224 fl_X6_230 rfl (q_lt hs (by decide)) ?_
                                refine t_if_ne C 283 (by decide) hf dX6_readOne_227 (fun c227 => ?_) (fun c227 => ?_)
                                · first
                                  | (exfalso; omega)
                                  |  (exact r_vret C dX6_readOne_283 rfl (Nat.le_refl _) rfl)
                                · first
                                  | (exfalso; omega)
                                  |  (refine r_aload_n C rfl rfl dX6_readOne_230 ?_
                                      refine r_getO C dX6_readOne_231 fl_X6_75 rfl rfl (q_lt hs (by decide)) (sh_12_39 hs) ?_
                                      refine r_aload_n C rfl rfl dX6_readOne_234 ?_
                                      refine r_getI C dX6_readOne_235 fl_X6_265 rfl (q_lt hs (by decide)) ?_
                                      refine r_iload_n C rfl dX6_readOne_238 ?_
                                      refine r_iast C (None) rfl (by omega) dX6_readOne_239 rfl (q_lt hs (by decide)) ?_
                                      refine r_aload_n C rfl rfl dX6_readOne_240 ?_
                                      refine r_getO C dX6_readOne_241 fl_X6_78 rfl rfl (q_lt hs (by decide)) (sh_12_40 hs) ?_
                                      refine r_aload_n C rfl rfl dX6_readOne_244 ?_
                                      refine r_getI C dX6_readOne_245 fl_X6_265 rfl (q_lt hs (by decide)) ?_
                                      refine r_iload C rfl dX6_readOne_248 ?_
                                      refine r_iast C (None) rfl (by omega) dX6_readOne_250 rfl (q_lt hs (by decide)) ?_
                                      refine r_aload_n C rfl rfl dX6_readOne_251 ?_
                                      refine r_getO C dX6_readOne_252 fl_X6_81 rfl rfl (q_lt hs (by decide)) (sh_12_41 hs) ?_
                                      refine r_aload_n C rfl rfl dX6_readOne_255 ?_
                                      refine r_getI C dX6_readOne_256 fl_X6_265 rfl (q_lt hs (by decide)) ?_
                                      refine r_iload C rfl dX6_readOne_259 ?_
                                      refine r_iast C (None) rfl (by omega) dX6_readOne_261 rfl (q_lt hs (by decide)) ?_
                                      refine r_aload_n C rfl rfl dX6_readOne_262 ?_
                                      refine r_getO C dX6_readOne_263 fl_X6_84 rfl rfl (q_lt hs (by decide)) (sh_12_42 hs) ?_
                                      refine r_aload_n C rfl rfl dX6_readOne_266 ?_
                                      refine r_getI C dX6_readOne_267 fl_X6_265 rfl (q_lt hs (by decide)) ?_
                                      refine r_iload C rfl dX6_readOne_270 ?_
                                      refine r_iast C (None) rfl (by omega) dX6_readOne_272 rfl (q_lt hs (by decide)) ?_
                                      refine r_aload_n C rfl rfl dX6_readOne_273 ?_
                                      refine r_dup C rfl dX6_readOne_274 ?_
                                      refine r_getI C dX6_readOne_275 fl_X6_265 rfl (q_lt hs (by decide)) ?_
                                      refine r_iconstv C 1 rfl dX6_readOne_278 ?_
                                      refine r_iadd C dX6_readOne_279 ?_
                                      refine r_putI C dX6_readOne_280 fl_X6_265 rfl (q_lt hs (by decide)) (Or.inl rfl) ?_
                                      exact r_vret C dX6_readOne_283 rfl (Nat.le_refl _) rfl))
                          · first
                            | (exfalso; omega)
                            |  (refine r_iconstv C 1 rfl dX6_readOne_205 ?_
                                refine r_goto C 210 (by decide) dX6_readOne_206 ?_
                                refine r_callV C sp1 kv_X6_take kn_X6_take rfl dX6_readOne_210 cl_X6_249 ⟨Nat.le_of_ble_eq_true rfl, Nat.le_of_ble_eq_true rfl⟩ (by decide) rfl rfl (q_lt hs (by decide)) (by rw [hn1]; exact hF) rfl (Nat.le_of_ble_eq_true rfl) ?_
                                refine r_aload_n C rfl rfl dX6_readOne_213 ?_
                                refine r_aload_n C rfl rfl dX6_readOne_214 ?_
                                refine r_bipush C 59 rfl dX6_readOne_215 ?_
                                refine r_callV C (absurd trivial hf) kv_X6_is kn_X6_is rfl dX6_readOne_217 cl_X6_262 ⟨Nat.le_of_ble_eq_true rfl, Nat.le_of_ble_eq_true rfl⟩ (by decide) rfl rfl (q_lt hs (by decide)) hF rfl (Nat.le_of_ble_eq_true rfl) ?_
                                refine r_callV C sp1 kv_X6_take kn_X6_take rfl dX6_readOne_220 cl_X6_249 ⟨Nat.le_of_ble_eq_true rfl, Nat.le_of_ble_eq_true rfl⟩ (by decide) rfl rfl (q_lt hs (by decide)) (by rw [hn1]; exact hF) rfl (Nat.le_of_ble_eq_true rfl) ?_
                                refine r_aload_n C rfl rfl dX6_readOne_223 ?_
                                refine r_getI C dX6_readOne_224 fl_X6_230 rfl (q_lt hs (by decide)) ?_
                                refine t_if_ne C 283 (by decide) hf dX6_readOne_227 (fun c227 => ?_) (fun c227 => ?_)
                                · first
                                  | (exfalso; omega)
                                  |  (exact r_vret C dX6_readOne_283 rfl (Nat.le_refl _) rfl)
                                · first
                                  | (exfalso; omega)
                                  |  (refine r_aload_n C rfl rfl dX6_readOne_230 ?_
                                      refine r_getO C dX6_readOne_231 fl_X6_75 rfl rfl (q_lt hs (by decide)) (sh_12_39 hs) ?_
                                      refine r_aload_n C rfl rfl dX6_readOne_234 ?_
                                      refine r_getI C dX6_readOne_235 fl_X6_265 rfl (q_lt hs (by decide)) ?_
                                      refine r_iload_n C rfl dX6_readOne_238 ?_
                                      refine r_iast C (None) rfl (by omega) dX6_readOne_239 rfl (q_lt hs (by decide)) ?_
                                      refine r_aload_n C rfl rfl dX6_readOne_240 ?_
                                      refine r_getO C dX6_readOne_241 fl_X6_78 rfl rfl (q_lt hs (by decide)) (sh_12_40 hs) ?_
                                      refine r_aload_n C rfl rfl dX6_readOne_244 ?_
                                      refine r_getI C dX6_readOne_245 fl_X6_265 rfl (q_lt hs (by decide)) ?_
                                      refine r_iload C rfl dX6_readOne_248 ?_
                                      refine r_iast C (None) rfl (by omega) dX6_readOne_250 rfl (q_lt hs (by decide)) ?_
                                      refine r_aload_n C rfl rfl dX6_readOne_251 ?_
                                      refine r_getO C dX6_readOne_252 fl_X6_81 rfl rfl (q_lt hs (by decide)) (sh_12_41 hs) ?_
                                      refine r_aload_n C rfl rfl dX6_readOne_255 ?_
                                      refine r_getI C dX6_readOne_256 fl_X6_265 rfl (q_lt hs (by decide)) ?_
                                      refine r_iload C rfl dX6_readOne_259 ?_
                                      refine r_iast C (None) rfl (by omega) dX6_readOne_261 rfl (q_lt hs (by decide)) ?_
                                      refine r_aload_n C rfl rfl dX6_readOne_262 ?_
                                      refine r_getO C dX6_readOne_263 fl_X6_84 rfl rfl (q_lt hs (by decide)) (sh_12_42 hs) ?_
                                      refine r_aload_n C rfl rfl dX6_readOne_266 ?_
                                      refine r_getI C dX6_readOne_267 fl_X6_265 rfl (q_lt hs (by decide)) ?_
                                      refine r_iload C rfl dX6_readOne_270 ?_
                                      refine r_iast C (None) rfl (by omega) dX6_readOne_272 rfl (q_lt hs (by decide)) ?_
                                      refine r_aload_n C rfl rfl dX6_readOne_273 ?_
                                      refine r_dup C rfl dX6_readOne_274 ?_
                                      refine r_getI C dX6_readOne_275 fl_X6_265 rfl (q_lt hs (by decide)) ?_
                                      refine r_iconstv C 1 rfl dX6_readOne_278 ?_
                                      refine r_iadd C dX6_readOne_279 ?_
                                      refine r_putI C dX6_readOne_280 fl_X6_265 rfl (q_lt hs (by decide)) (Or.inl rfl) ?_
                                      exact r_vret C dX6_readOne_283 rfl (Nat.le_refl _) rfl))))
              · first
                | (exfalso; omega)
                |  (refine r_aload_n C rfl rfl dX6_readOne_181 ?_
                    refine r_callV C su kv_X6_number kn_X6_number rfl dX6_readOne_182 cl_X6_253 ⟨Nat.le_of_ble_eq_true rfl, Nat.le_of_ble_eq_true rfl⟩ (by decide) rfl rfl (q_lt hs (by decide)) hF rfl (Nat.le_of_ble_eq_true rfl) ?_
                    refine r_goto C 189 (by decide) dX6_readOne_185 ?_
                    refine r_istore C rfl (Nat.le_of_ble_eq_true rfl) dX6_readOne_189 ?_
                    refine r_iload C rfl dX6_readOne_191 ?_
                    refine t_if_le C 213 (by decide) h4 dX6_readOne_193 (fun c193 => ?_) (fun c193 => ?_)
                    · first
                      | (exfalso; omega)
                      |  (refine r_aload_n C rfl rfl dX6_readOne_213 ?_
                          refine r_aload_n C rfl rfl dX6_readOne_214 ?_
                          refine r_bipush C 59 rfl dX6_readOne_215 ?_
                          refine r_callV C (absurd trivial hf) kv_X6_is kn_X6_is rfl dX6_readOne_217 cl_X6_262 ⟨Nat.le_of_ble_eq_true rfl, Nat.le_of_ble_eq_true rfl⟩ (by decide) rfl rfl (q_lt hs (by decide)) hF rfl (Nat.le_of_ble_eq_true rfl) ?_
                          refine r_callV C sp1 kv_X6_take kn_X6_take rfl dX6_readOne_220 cl_X6_249 ⟨Nat.le_of_ble_eq_true rfl, Nat.le_of_ble_eq_true rfl⟩ (by decide) rfl rfl (q_lt hs (by decide)) (by rw [hn1]; exact hF) rfl (Nat.le_of_ble_eq_true rfl) ?_
                          refine r_aload_n C rfl rfl dX6_readOne_223 ?_
                          refine r_getI C dX6_readOne_224 fl_X6_230 rfl (q_lt hs (by decide)) ?_
                          refine t_if_ne C 283 (by decide) hf dX6_readOne_227 (fun c227 => ?_) (fun c227 => ?_)
                          · first
                            | (exfalso; omega)
                            |  (exact r_vret C dX6_readOne_283 rfl (Nat.le_refl _) rfl)
                          · first
                            | (exfalso; omega)
                            |  (refine r_aload_n C rfl rfl dX6_readOne_230 ?_
                                refine r_getO C dX6_readOne_231 fl_X6_75 rfl rfl (q_lt hs (by decide)) (sh_12_39 hs) ?_
                                refine r_aload_n C rfl rfl dX6_readOne_234 ?_
                                refine r_getI C dX6_readOne_235 fl_X6_265 rfl (q_lt hs (by decide)) ?_
                                refine r_iload_n C rfl dX6_readOne_238 ?_
                                refine r_iast C (None) rfl (by omega) dX6_readOne_239 rfl (q_lt hs (by decide)) ?_
                                refine r_aload_n C rfl rfl dX6_readOne_240 ?_
                                refine r_getO C dX6_readOne_241 fl_X6_78 rfl rfl (q_lt hs (by decide)) (sh_12_40 hs) ?_
                                refine r_aload_n C rfl rfl dX6_readOne_244 ?_
                                refine r_getI C dX6_readOne_245 fl_X6_265 rfl (q_lt hs (by decide)) ?_
                                refine r_iload C rfl dX6_readOne_248 ?_
                                refine r_iast C (None) rfl (by omega) dX6_readOne_250 rfl (q_lt hs (by decide)) ?_
                                refine r_aload_n C rfl rfl dX6_readOne_251 ?_
                                refine r_getO C dX6_readOne_252 fl_X6_81 rfl rfl (q_lt hs (by decide)) (sh_12_41 hs) ?_
                                refine r_aload_n C rfl rfl dX6_readOne_255 ?_
                                refine r_getI C dX6_readOne_256 fl_X6_265 rfl (q_lt hs (by decide)) ?_
                                refine r_iload C rfl dX6_readOne_259 ?_
                                refine r_iast C (None) rfl (by omega) dX6_readOne_261 rfl (q_lt hs (by decide)) ?_
                                refine r_aload_n C rfl rfl dX6_readOne_262 ?_
                                refine r_getO C dX6_readOne_263 fl_X6_84 rfl rfl (q_lt hs (by decide)) (sh_12_42 hs) ?_
                                refine r_aload_n C rfl rfl dX6_readOne_266 ?_
                                refine r_getI C dX6_readOne_267 fl_X6_265 rfl (q_lt hs (by decide)) ?_
                                refine r_iload C rfl dX6_readOne_270 ?_
                                refine r_iast C (None) rfl (by omega) dX6_readOne_272 rfl (q_lt hs (by decide)) ?_
                                refine r_aload_n C rfl rfl dX6_readOne_273 ?_
                                refine r_dup C rfl dX6_readOne_274 ?_
                                refine r_getI C dX6_readOne_275 fl_X6_265 rfl (q_lt hs (by decide)) ?_
                                refine r_iconstv C 1 rfl dX6_readOne_278 ?_
                                refine r_iadd C dX6_readOne_279 ?_
                                refine r_putI C dX6_readOne_280 fl_X6_265 rfl (q_lt hs (by decide)) (Or.inl rfl) ?_
                                exact r_vret C dX6_readOne_283 rfl (Nat.le_refl _) rfl))
                    · first
                      | (exfalso; omega)
                      |  (refine r_aload_n C rfl rfl dX6_readOne_196 ?_
                          refine r_aload_n C rfl rfl dX6_readOne_197 ?_
                          refine r_getI C dX6_readOne_198 fl_X6_218 rfl (q_lt hs (by decide)) ?_
                          refine r_iconstv C 3 rfl dX6_readOne_201 ?_
                          refine t_icmp_ne C 209 (by decide) mt.2.1 (show (3 : Int32).toInt = 3 from rfl) dX6_readOne_202 (fun c202 => ?_) (fun c202 => ?_)
                          · first
                            | (exfalso; omega)
                            |  (refine r_iconstv C 0 rfl dX6_readOne_209 ?_
                                refine r_callV C sp1 kv_X6_take kn_X6_take rfl dX6_readOne_210 cl_X6_249 ⟨Nat.le_of_ble_eq_true rfl, Nat.le_of_ble_eq_true rfl⟩ (by decide) rfl rfl (q_lt hs (by decide)) (by rw [hn1]; exact hF) rfl (Nat.le_of_ble_eq_true rfl) ?_
                                refine r_aload_n C rfl rfl dX6_readOne_213 ?_
                                refine r_aload_n C rfl rfl dX6_readOne_214 ?_
                                refine r_bipush C 59 rfl dX6_readOne_215 ?_
                                refine r_callV C (absurd trivial hf) kv_X6_is kn_X6_is rfl dX6_readOne_217 cl_X6_262 ⟨Nat.le_of_ble_eq_true rfl, Nat.le_of_ble_eq_true rfl⟩ (by decide) rfl rfl (q_lt hs (by decide)) hF rfl (Nat.le_of_ble_eq_true rfl) ?_
                                refine r_callV C sp1 kv_X6_take kn_X6_take rfl dX6_readOne_220 cl_X6_249 ⟨Nat.le_of_ble_eq_true rfl, Nat.le_of_ble_eq_true rfl⟩ (by decide) rfl rfl (q_lt hs (by decide)) (by rw [hn1]; exact hF) rfl (Nat.le_of_ble_eq_true rfl) ?_
                                refine r_aload_n C rfl rfl dX6_readOne_223 ?_
                                refine r_getI C dX6_readOne_224 fl_X6_230 rfl (q_lt hs (by decide)) ?_
                                refine t_if_ne C 283 (by decide) hf dX6_readOne_227 (fun c227 => ?_) (fun c227 => ?_)
                                · first
                                  | (exfalso; omega)
                                  |  (exact r_vret C dX6_readOne_283 rfl (Nat.le_refl _) rfl)
                                · first
                                  | (exfalso; omega)
                                  |  (refine r_aload_n C rfl rfl dX6_readOne_230 ?_
                                      refine r_getO C dX6_readOne_231 fl_X6_75 rfl rfl (q_lt hs (by decide)) (sh_12_39 hs) ?_
                                      refine r_aload_n C rfl rfl dX6_readOne_234 ?_
                                      refine r_getI C dX6_readOne_235 fl_X6_265 rfl (q_lt hs (by decide)) ?_
                                      refine r_iload_n C rfl dX6_readOne_238 ?_
                                      refine r_iast C (None) rfl (by omega) dX6_readOne_239 rfl (q_lt hs (by decide)) ?_
                                      refine r_aload_n C rfl rfl dX6_readOne_240 ?_
                                      refine r_getO C dX6_readOne_241 fl_X6_78 rfl rfl (q_lt hs (by decide)) (sh_12_40 hs) ?_
                                      refine r_aload_n C rfl rfl dX6_readOne_244 ?_
                                      refine r_getI C dX6_readOne_245 fl_X6_265 rfl (q_lt hs (by decide)) ?_
                                      refine r_iload C rfl dX6_readOne_248 ?_
                                      refine r_iast C (None) rfl (by omega) dX6_readOne_250 rfl (q_lt hs (by decide)) ?_
                                      refine r_aload_n C rfl rfl dX6_readOne_251 ?_
                                      refine r_getO C dX6_readOne_252 fl_X6_81 rfl rfl (q_lt hs (by decide)) (sh_12_41 hs) ?_
                                      refine r_aload_n C rfl rfl dX6_readOne_255 ?_
                                      refine r_getI C dX6_readOne_256 fl_X6_265 rfl (q_lt hs (by decide)) ?_
                                      refine r_iload C rfl dX6_readOne_259 ?_
                                      refine r_iast C (None) rfl (by omega) dX6_readOne_261 rfl (q_lt hs (by decide)) ?_
                                      refine r_aload_n C rfl rfl dX6_readOne_262 ?_
                                      refine r_getO C dX6_readOne_263 fl_X6_84 rfl rfl (q_lt hs (by decide)) (sh_12_42 hs) ?_
                                      refine r_aload_n C rfl rfl dX6_readOne_266 ?_
                                      refine r_getI C dX6_readOne_267 fl_X6_265 rfl (q_lt hs (by decide)) ?_
                                      refine r_iload C rfl dX6_readOne_270 ?_
                                      refine r_iast C (None) rfl (by omega) dX6_readOne_272 rfl (q_lt hs (by decide)) ?_
                                      refine r_aload_n C rfl rfl dX6_readOne_273 ?_
                                      refine r_dup C rfl dX6_readOne_274 ?_
                                      refine r_getI C dX6_readOne_275 fl_X6_265 rfl (q_lt hs (by decide)) ?_
                                      refine r_iconstv C 1 rfl dX6_readOne_278 ?_
                                      refine r_iadd C dX6_readOne_279 ?_
                                      refine r_putI C dX6_readOne_280 fl_X6_265 rfl (q_lt hs (by decide)) (Or.inl rfl) ?_
                                      exact r_vret C dX6_readOne_283 rfl (Nat.le_refl _) rfl))
                          · first
                            | (exfalso; omega)
                            |  (refine r_iconstv C 1 rfl dX6_readOne_205 ?_
                                refine r_goto C 210 (by decide) dX6_readOne_206 ?_
                                refine r_callV C sp1 kv_X6_take kn_X6_take rfl dX6_readOne_210 cl_X6_249 ⟨Nat.le_of_ble_eq_true rfl, Nat.le_of_ble_eq_true rfl⟩ (by decide) rfl rfl (q_lt hs (by decide)) (by rw [hn1]; exact hF) rfl (Nat.le_of_ble_eq_true rfl) ?_
                                refine r_aload_n C rfl rfl dX6_readOne_213 ?_
                                refine r_aload_n C rfl rfl dX6_readOne_214 ?_
                                refine r_bipush C 59 rfl dX6_readOne_215 ?_
                                refine r_callV C (absurd trivial hf) kv_X6_is kn_X6_is rfl dX6_readOne_217 cl_X6_262 ⟨Nat.le_of_ble_eq_true rfl, Nat.le_of_ble_eq_true rfl⟩ (by decide) rfl rfl (q_lt hs (by decide)) hF rfl (Nat.le_of_ble_eq_true rfl) ?_
                                refine r_callV C sp1 kv_X6_take kn_X6_take rfl dX6_readOne_220 cl_X6_249 ⟨Nat.le_of_ble_eq_true rfl, Nat.le_of_ble_eq_true rfl⟩ (by decide) rfl rfl (q_lt hs (by decide)) (by rw [hn1]; exact hF) rfl (Nat.le_of_ble_eq_true rfl) ?_
                                refine r_aload_n C rfl rfl dX6_readOne_223 ?_
                                refine r_getI C dX6_readOne_224 fl_X6_230 rfl (q_lt hs (by decide)) ?_
                                refine t_if_ne C 283 (by decide) hf dX6_readOne_227 (fun c227 => ?_) (fun c227 => ?_)
                                · first
                                  | (exfalso; omega)
                                  |  (exact r_vret C dX6_readOne_283 rfl (Nat.le_refl _) rfl)
                                · first
                                  | (exfalso; omega)
                                  |  (refine r_aload_n C rfl rfl dX6_readOne_230 ?_
                                      refine r_getO C dX6_readOne_231 fl_X6_75 rfl rfl (q_lt hs (by decide)) (sh_12_39 hs) ?_
                                      refine r_aload_n C rfl rfl dX6_readOne_234 ?_
                                      refine r_getI C dX6_readOne_235 fl_X6_265 rfl (q_lt hs (by decide)) ?_
                                      refine r_iload_n C rfl dX6_readOne_238 ?_
                                      refine r_iast C (None) rfl (by omega) dX6_readOne_239 rfl (q_lt hs (by decide)) ?_
                                      refine r_aload_n C rfl rfl dX6_readOne_240 ?_
                                      refine r_getO C dX6_readOne_241 fl_X6_78 rfl rfl (q_lt hs (by decide)) (sh_12_40 hs) ?_
                                      refine r_aload_n C rfl rfl dX6_readOne_244 ?_
                                      refine r_getI C dX6_readOne_245 fl_X6_265 rfl (q_lt hs (by decide)) ?_
                                      refine r_iload C rfl dX6_readOne_248 ?_
                                      refine r_iast C (None) rfl (by omega) dX6_readOne_250 rfl (q_lt hs (by decide)) ?_
                                      refine r_aload_n C rfl rfl dX6_readOne_251 ?_
                                      refine r_getO C dX6_readOne_252 fl_X6_81 rfl rfl (q_lt hs (by decide)) (sh_12_41 hs) ?_
                                      refine r_aload_n C rfl rfl dX6_readOne_255 ?_
                                      refine r_getI C dX6_readOne_256 fl_X6_265 rfl (q_lt hs (by decide)) ?_
                                      refine r_iload C rfl dX6_readOne_259 ?_
                                      refine r_iast C (None) rfl (by omega) dX6_readOne_261 rfl (q_lt hs (by decide)) ?_
                                      refine r_aload_n C rfl rfl dX6_readOne_262 ?_
                                      refine r_getO C dX6_readOne_263 fl_X6_84 rfl rfl (q_lt hs (by decide)) (sh_12_42 hs) ?_
                                      refine r_aload_n C rfl rfl dX6_readOne_266 ?_
                                      refine r_getI C dX6_readOne_267 fl_X6_265 rfl (q_lt hs (by decide)) ?_
                                      refine r_iload C rfl dX6_readOne_270 ?_
                                      refine r_iast C (None) rfl (by omega) dX6_readOne_272 rfl (q_lt hs (by decide)) ?_
                                      refine r_aload_n C rfl rfl dX6_readOne_273 ?_
                                      refine r_dup C rfl dX6_readOne_274 ?_
                                      refine r_getI C dX6_readOne_275 fl_X6_265 rfl (q_lt hs (by decide)) ?_
                                      refine r_iconstv C 1 rfl dX6_readOne_278 ?_
                                      refine r_iadd C dX6_readOne_279 ?_
                                      refine r_putI C dX6_readOne_280 fl_X6_265 rfl (q_lt hs (by decide)) (Or.inl rfl) ?_
                                      exact r_vret C dX6_readOne_283 rfl (Nat.le_refl _) rfl)))))
        · first
          | (exfalso; omega)
          |  (refine r_aload_n C rfl rfl dX6_readOne_149 ?_
              refine r_aload_n C rfl rfl dX6_readOne_150 ?_
              refine r_getI C dX6_readOne_151 fl_X6_218 rfl (q_lt hs (by decide)) ?_
              refine r_iconstv C 3 rfl dX6_readOne_154 ?_
              refine t_icmp_ne C 162 (by decide) mt.2.1 (show (3 : Int32).toInt = 3 from rfl) dX6_readOne_155 (fun c155 => ?_) (fun c155 => ?_)
              · first
                | (exfalso; omega)
                |  (refine r_iconstv C 0 rfl dX6_readOne_162 ?_
                    refine r_callV C sp1 kv_X6_take kn_X6_take rfl dX6_readOne_163 cl_X6_249 ⟨Nat.le_of_ble_eq_true rfl, Nat.le_of_ble_eq_true rfl⟩ (by decide) rfl rfl (q_lt hs (by decide)) (by rw [hn1]; exact hF) rfl (Nat.le_of_ble_eq_true rfl) ?_
                    exact t.2 p l e R s m args below meth c n0 nF C (by rw [hn1]; exact hF))
              · first
                | (exfalso; omega)
                |  (refine r_iconstv C 1 rfl dX6_readOne_158 ?_
                    refine r_goto C 163 (by decide) dX6_readOne_159 ?_
                    refine r_callV C sp1 kv_X6_take kn_X6_take rfl dX6_readOne_163 cl_X6_249 ⟨Nat.le_of_ble_eq_true rfl, Nat.le_of_ble_eq_true rfl⟩ (by decide) rfl rfl (q_lt hs (by decide)) (by rw [hn1]; exact hF) rfl (Nat.le_of_ble_eq_true rfl) ?_
                    exact t.2 p l e R s m args below meth c n0 nF C (by rw [hn1]; exact hF))))
  · first
    | (exfalso; omega)
    |  (refine r_aload_n C rfl rfl dX6_readOne_133 ?_
        refine r_callV C su kv_X6_number kn_X6_number rfl dX6_readOne_134 cl_X6_253 ⟨Nat.le_of_ble_eq_true rfl, Nat.le_of_ble_eq_true rfl⟩ (by decide) rfl rfl (q_lt hs (by decide)) hF rfl (Nat.le_of_ble_eq_true rfl) ?_
        refine r_goto C 141 (by decide) dX6_readOne_137 ?_
        refine r_istore C rfl (Nat.le_of_ble_eq_true rfl) dX6_readOne_141 ?_
        refine r_iload C rfl dX6_readOne_143 ?_
        refine r_iconstv C 2 rfl dX6_readOne_145 ?_
        refine t_icmp_ne C 176 (by decide) h4 (show (2 : Int32).toInt = 2 from rfl) dX6_readOne_146 (fun c146 => ?_) (fun c146 => ?_)
        · first
          | (exfalso; omega)
          |  (refine r_iload C rfl dX6_readOne_176 ?_
              refine t_if_le C 188 (by decide) h4 dX6_readOne_178 (fun c178 => ?_) (fun c178 => ?_)
              · first
                | (exfalso; omega)
                |  (refine r_iconstv C 0 rfl dX6_readOne_188 ?_
                    refine r_istore C rfl (Nat.le_of_ble_eq_true rfl) dX6_readOne_189 ?_
                    refine r_iload C rfl dX6_readOne_191 ?_
                    refine t_if_le C 213 (by decide) h4 dX6_readOne_193 (fun c193 => ?_) (fun c193 => ?_)
                    · first
                      | (exfalso; omega)
                      |  (refine r_aload_n C rfl rfl dX6_readOne_213 ?_
                          refine r_aload_n C rfl rfl dX6_readOne_214 ?_
                          refine r_bipush C 59 rfl dX6_readOne_215 ?_
                          refine r_callV C (absurd trivial hf) kv_X6_is kn_X6_is rfl dX6_readOne_217 cl_X6_262 ⟨Nat.le_of_ble_eq_true rfl, Nat.le_of_ble_eq_true rfl⟩ (by decide) rfl rfl (q_lt hs (by decide)) hF rfl (Nat.le_of_ble_eq_true rfl) ?_
                          refine r_callV C sp1 kv_X6_take kn_X6_take rfl dX6_readOne_220 cl_X6_249 ⟨Nat.le_of_ble_eq_true rfl, Nat.le_of_ble_eq_true rfl⟩ (by decide) rfl rfl (q_lt hs (by decide)) (by rw [hn1]; exact hF) rfl (Nat.le_of_ble_eq_true rfl) ?_
                          refine r_aload_n C rfl rfl dX6_readOne_223 ?_
                          refine r_getI C dX6_readOne_224 fl_X6_230 rfl (q_lt hs (by decide)) ?_
                          refine t_if_ne C 283 (by decide) hf dX6_readOne_227 (fun c227 => ?_) (fun c227 => ?_)
                          · first
                            | (exfalso; omega)
                            |  (exact r_vret C dX6_readOne_283 rfl (Nat.le_refl _) rfl)
                          · first
                            | (exfalso; omega)
                            |  (refine r_aload_n C rfl rfl dX6_readOne_230 ?_
                                refine r_getO C dX6_readOne_231 fl_X6_75 rfl rfl (q_lt hs (by decide)) (sh_12_39 hs) ?_
                                refine r_aload_n C rfl rfl dX6_readOne_234 ?_
                                refine r_getI C dX6_readOne_235 fl_X6_265 rfl (q_lt hs (by decide)) ?_
                                refine r_iload_n C rfl dX6_readOne_238 ?_
                                refine r_iast C (None) rfl (by omega) dX6_readOne_239 rfl (q_lt hs (by decide)) ?_
                                refine r_aload_n C rfl rfl dX6_readOne_240 ?_
                                refine r_getO C dX6_readOne_241 fl_X6_78 rfl rfl (q_lt hs (by decide)) (sh_12_40 hs) ?_
                                refine r_aload_n C rfl rfl dX6_readOne_244 ?_
                                refine r_getI C dX6_readOne_245 fl_X6_265 rfl (q_lt hs (by decide)) ?_
                                refine r_iload C rfl dX6_readOne_248 ?_
                                refine r_iast C (None) rfl (by omega) dX6_readOne_250 rfl (q_lt hs (by decide)) ?_
                                refine r_aload_n C rfl rfl dX6_readOne_251 ?_
                                refine r_getO C dX6_readOne_252 fl_X6_81 rfl rfl (q_lt hs (by decide)) (sh_12_41 hs) ?_
                                refine r_aload_n C rfl rfl dX6_readOne_255 ?_
                                refine r_getI C dX6_readOne_256 fl_X6_265 rfl (q_lt hs (by decide)) ?_
                                refine r_iload C rfl dX6_readOne_259 ?_
                                refine r_iast C (None) rfl (by omega) dX6_readOne_261 rfl (q_lt hs (by decide)) ?_
                                refine r_aload_n C rfl rfl dX6_readOne_262 ?_
                                refine r_getO C dX6_readOne_263 fl_X6_84 rfl rfl (q_lt hs (by decide)) (sh_12_42 hs) ?_
                                refine r_aload_n C rfl rfl dX6_readOne_266 ?_
                                refine r_getI C dX6_readOne_267 fl_X6_265 rfl (q_lt hs (by decide)) ?_
                                refine r_iload C rfl dX6_readOne_270 ?_
                                refine r_iast C (None) rfl (by omega) dX6_readOne_272 rfl (q_lt hs (by decide)) ?_
                                refine r_aload_n C rfl rfl dX6_readOne_273 ?_
                                refine r_dup C rfl dX6_readOne_274 ?_
                                refine r_getI C dX6_readOne_275 fl_X6_265 rfl (q_lt hs (by decide)) ?_
                                refine r_iconstv C 1 rfl dX6_readOne_278 ?_
                                refine r_iadd C dX6_readOne_279 ?_
                                refine r_putI C dX6_readOne_280 fl_X6_265 rfl (q_lt hs (by decide)) (Or.inl rfl) ?_
                                exact r_vret C dX6_readOne_283 rfl (Nat.le_refl _) rfl))
                    · first
                      | (exfalso; omega)
                      |  (refine r_aload_n C rfl rfl dX6_readOne_196 ?_
                          refine r_aload_n C rfl rfl dX6_readOne_197 ?_
                          refine r_getI C dX6_readOne_198 fl_X6_218 rfl (q_lt hs (by decide)) ?_
                          refine r_iconstv C 3 rfl dX6_readOne_201 ?_
                          refine t_icmp_ne C 209 (by decide) mt.2.1 (show (3 : Int32).toInt = 3 from rfl) dX6_readOne_202 (fun c202 => ?_) (fun c202 => ?_)
                          · first
                            | (exfalso; omega)
                            |  (refine r_iconstv C 0 rfl dX6_readOne_209 ?_
                                refine r_callV C sp1 kv_X6_take kn_X6_take rfl dX6_readOne_210 cl_X6_249 ⟨Nat.le_of_ble_eq_true rfl, Nat.le_of_ble_eq_true rfl⟩ (by decide) rfl rfl (q_lt hs (by decide)) (by rw [hn1]; exact hF) rfl (Nat.le_of_ble_eq_true rfl) ?_
                                refine r_aload_n C rfl rfl dX6_readOne_213 ?_
                                refine r_aload_n C rfl rfl dX6_readOne_214 ?_
                                refine r_bipush C 59 rfl dX6_readOne_215 ?_
                                refine r_callV C (absurd trivial hf) kv_X6_is kn_X6_is rfl dX6_readOne_217 cl_X6_262 ⟨Nat.le_of_ble_eq_true rfl, Nat.le_of_ble_eq_true rfl⟩ (by decide) rfl rfl (q_lt hs (by decide)) hF rfl (Nat.le_of_ble_eq_true rfl) ?_
                                refine r_callV C sp1 kv_X6_take kn_X6_take rfl dX6_readOne_220 cl_X6_249 ⟨Nat.le_of_ble_eq_true rfl, Nat.le_of_ble_eq_true rfl⟩ (by decide) rfl rfl (q_lt hs (by decide)) (by rw [hn1]; exact hF) rfl (Nat.le_of_ble_eq_true rfl) ?_
                                refine r_aload_n C rfl rfl dX6_readOne_223 ?_
                                refine r_getI C dX6_readOne_224 fl_X6_230 rfl (q_lt hs (by decide)) ?_
                                refine t_if_ne C 283 (by decide) hf dX6_readOne_227 (fun c227 => ?_) (fun c227 => ?_)
                                · first
                                  | (exfalso; omega)
                                  |  (exact r_vret C dX6_readOne_283 rfl (Nat.le_refl _) rfl)
                                · first
                                  | (exfalso; omega)
                                  |  (refine r_aload_n C rfl rfl dX6_readOne_230 ?_
                                      refine r_getO C dX6_readOne_231 fl_X6_75 rfl rfl (q_lt hs (by decide)) (sh_12_39 hs) ?_
                                      refine r_aload_n C rfl rfl dX6_readOne_234 ?_
                                      refine r_getI C dX6_readOne_235 fl_X6_265 rfl (q_lt hs (by decide)) ?_
                                      refine r_iload_n C rfl dX6_readOne_238 ?_
                                      refine r_iast C (None) rfl (by omega) dX6_readOne_239 rfl (q_lt hs (by decide)) ?_
                                      refine r_aload_n C rfl rfl dX6_readOne_240 ?_
                                      refine r_getO C dX6_readOne_241 fl_X6_78 rfl rfl (q_lt hs (by decide)) (sh_12_40 hs) ?_
                                      refine r_aload_n C rfl rfl dX6_readOne_244 ?_
                                      refine r_getI C dX6_readOne_245 fl_X6_265 rfl (q_lt hs (by decide)) ?_
                                      refine r_iload C rfl dX6_readOne_248 ?_
                                      refine r_iast C (None) rfl (by omega) dX6_readOne_250 rfl (q_lt hs (by decide)) ?_
                                      refine r_aload_n C rfl rfl dX6_readOne_251 ?_
                                      refine r_getO C dX6_readOne_252 fl_X6_81 rfl rfl (q_lt hs (by decide)) (sh_12_41 hs) ?_
                                      refine r_aload_n C rfl rfl dX6_readOne_255 ?_
                                      refine r_getI C dX6_readOne_256 fl_X6_265 rfl (q_lt hs (by decide)) ?_
                                      refine r_iload C rfl dX6_readOne_259 ?_
                                      refine r_iast C (None) rfl (by omega) dX6_readOne_261 rfl (q_lt hs (by decide)) ?_
                                      refine r_aload_n C rfl rfl dX6_readOne_262 ?_
                                      refine r_getO C dX6_readOne_263 fl_X6_84 rfl rfl (q_lt hs (by decide)) (sh_12_42 hs) ?_
                                      refine r_aload_n C rfl rfl dX6_readOne_266 ?_
                                      refine r_getI C dX6_readOne_267 fl_X6_265 rfl (q_lt hs (by decide)) ?_
                                      refine r_iload C rfl dX6_readOne_270 ?_
                                      refine r_iast C (None) rfl (by omega) dX6_readOne_272 rfl (q_lt hs (by decide)) ?_
                                      refine r_aload_n C rfl rfl dX6_readOne_273 ?_
                                      refine r_dup C rfl dX6_readOne_274 ?_
                                      refine r_getI C dX6_readOne_275 fl_X6_265 rfl (q_lt hs (by decide)) ?_
                                      refine r_iconstv C 1 rfl dX6_readOne_278 ?_
                                      refine r_iadd C dX6_readOne_279 ?_
                                      refine r_putI C dX6_readOne_280 fl_X6_265 rfl (q_lt hs (by decide)) (Or.inl rfl) ?_
                                      exact r_vret C dX6_readOne_283 rfl (Nat.le_refl _) rfl))
                          · first
                            | (exfalso; omega)
                            |  (refine r_iconstv C 1 rfl dX6_readOne_205 ?_
                                refine r_goto C 210 (by decide) dX6_readOne_206 ?_
                                refine r_callV C sp1 kv_X6_take kn_X6_take rfl dX6_readOne_210 cl_X6_249 ⟨Nat.le_of_ble_eq_true rfl, Nat.le_of_ble_eq_true rfl⟩ (by decide) rfl rfl (q_lt hs (by decide)) (by rw [hn1]; exact hF) rfl (Nat.le_of_ble_eq_true rfl) ?_
                                refine r_aload_n C rfl rfl dX6_readOne_213 ?_
                                refine r_aload_n C rfl rfl dX6_readOne_214 ?_
                                refine r_bipush C 59 rfl dX6_readOne_215 ?_
                                refine r_callV C (absurd trivial hf) kv_X6_is kn_X6_is rfl dX6_readOne_217 cl_X6_262 ⟨Nat.le_of_ble_eq_true rfl, Nat.le_of_ble_eq_true rfl⟩ (by decide) rfl rfl (q_lt hs (by decide)) hF rfl (Nat.le_of_ble_eq_true rfl) ?_
                                refine r_callV C sp1 kv_X6_take kn_X6_take rfl dX6_readOne_220 cl_X6_249 ⟨Nat.le_of_ble_eq_true rfl, Nat.le_of_ble_eq_true rfl⟩ (by decide) rfl rfl (q_lt hs (by decide)) (by rw [hn1]; exact hF) rfl (Nat.le_of_ble_eq_true rfl) ?_
                                refine r_aload_n C rfl rfl dX6_readOne_223 ?_
                                refine r_getI C dX6_readOne_224 fl_X6_230 rfl (q_lt hs (by decide)) ?_
                                refine t_if_ne C 283 (by decide) hf dX6_readOne_227 (fun c227 => ?_) (fun c227 => ?_)
                                · first
                                  | (exfalso; omega)
                                  |  (exact r_vret C dX6_readOne_283 rfl (Nat.le_refl _) rfl)
                                · first
                                  | (exfalso; omega)
                                  |  (refine r_aload_n C rfl rfl dX6_readOne_230 ?_
                                      refine r_getO C dX6_readOne_231 fl_X6_75 rfl rfl (q_lt hs (by decide)) (sh_12_39 hs) ?_
                                      refine r_aload_n C rfl rfl dX6_readOne_234 ?_
                                      refine r_getI C dX6_readOne_235 fl_X6_265 rfl (q_lt hs (by decide)) ?_
                                      refine r_iload_n C rfl dX6_readOne_238 ?_
                                      refine r_iast C (None) rfl (by omega) dX6_readOne_239 rfl (q_lt hs (by decide)) ?_
                                      refine r_aload_n C rfl rfl dX6_readOne_240 ?_
                                      refine r_getO C dX6_readOne_241 fl_X6_78 rfl rfl (q_lt hs (by decide)) (sh_12_40 hs) ?_
                                      refine r_aload_n C rfl rfl dX6_readOne_244 ?_
                                      refine r_getI C dX6_readOne_245 fl_X6_265 rfl (q_lt hs (by decide)) ?_
                                      refine r_iload C rfl dX6_readOne_248 ?_
                                      refine r_iast C (None) rfl (by omega) dX6_readOne_250 rfl (q_lt hs (by decide)) ?_
                                      refine r_aload_n C rfl rfl dX6_readOne_251 ?_
                                      refine r_getO C dX6_readOne_252 fl_X6_81 rfl rfl (q_lt hs (by decide)) (sh_12_41 hs) ?_
                                      refine r_aload_n C rfl rfl dX6_readOne_255 ?_
                                      refine r_getI C dX6_readOne_256 fl_X6_265 rfl (q_lt hs (by decide)) ?_
                                      refine r_iload C rfl dX6_readOne_259 ?_
                                      refine r_iast C (None) rfl (by omega) dX6_readOne_261 rfl (q_lt hs (by decide)) ?_
                                      refine r_aload_n C rfl rfl dX6_readOne_262 ?_
                                      refine r_getO C dX6_readOne_263 fl_X6_84 rfl rfl (q_lt hs (by decide)) (sh_12_42 hs) ?_
                                      refine r_aload_n C rfl rfl dX6_readOne_266 ?_
                                      refine r_getI C dX6_readOne_267 fl_X6_265 rfl (q_lt hs (by decide)) ?_
                                      refine r_iload C rfl dX6_readOne_270 ?_
                                      refine r_iast C (None) rfl (by omega) dX6_readOne_272 rfl (q_lt hs (by decide)) ?_
                                      refine r_aload_n C rfl rfl dX6_readOne_273 ?_
                                      refine r_dup C rfl dX6_readOne_274 ?_
                                      refine r_getI C dX6_readOne_275 fl_X6_265 rfl (q_lt hs (by decide)) ?_
                                      refine r_iconstv C 1 rfl dX6_readOne_278 ?_
                                      refine r_iadd C dX6_readOne_279 ?_
                                      refine r_putI C dX6_readOne_280 fl_X6_265 rfl (q_lt hs (by decide)) (Or.inl rfl) ?_
                                      exact r_vret C dX6_readOne_283 rfl (Nat.le_refl _) rfl))))
              · first
                | (exfalso; omega)
                |  (refine r_aload_n C rfl rfl dX6_readOne_181 ?_
                    refine r_callV C su kv_X6_number kn_X6_number rfl dX6_readOne_182 cl_X6_253 ⟨Nat.le_of_ble_eq_true rfl, Nat.le_of_ble_eq_true rfl⟩ (by decide) rfl rfl (q_lt hs (by decide)) hF rfl (Nat.le_of_ble_eq_true rfl) ?_
                    refine r_goto C 189 (by decide) dX6_readOne_185 ?_
                    refine r_istore C rfl (Nat.le_of_ble_eq_true rfl) dX6_readOne_189 ?_
                    refine r_iload C rfl dX6_readOne_191 ?_
                    refine t_if_le C 213 (by decide) h4 dX6_readOne_193 (fun c193 => ?_) (fun c193 => ?_)
                    · first
                      | (exfalso; omega)
                      |  (refine r_aload_n C rfl rfl dX6_readOne_213 ?_
                          refine r_aload_n C rfl rfl dX6_readOne_214 ?_
                          refine r_bipush C 59 rfl dX6_readOne_215 ?_
                          refine r_callV C (absurd trivial hf) kv_X6_is kn_X6_is rfl dX6_readOne_217 cl_X6_262 ⟨Nat.le_of_ble_eq_true rfl, Nat.le_of_ble_eq_true rfl⟩ (by decide) rfl rfl (q_lt hs (by decide)) hF rfl (Nat.le_of_ble_eq_true rfl) ?_
                          refine r_callV C sp1 kv_X6_take kn_X6_take rfl dX6_readOne_220 cl_X6_249 ⟨Nat.le_of_ble_eq_true rfl, Nat.le_of_ble_eq_true rfl⟩ (by decide) rfl rfl (q_lt hs (by decide)) (by rw [hn1]; exact hF) rfl (Nat.le_of_ble_eq_true rfl) ?_
                          refine r_aload_n C rfl rfl dX6_readOne_223 ?_
                          refine r_getI C dX6_readOne_224 fl_X6_230 rfl (q_lt hs (by decide)) ?_
                          refine t_if_ne C 283 (by decide) hf dX6_readOne_227 (fun c227 => ?_) (fun c227 => ?_)
                          · first
                            | (exfalso; omega)
                            |  (exact r_vret C dX6_readOne_283 rfl (Nat.le_refl _) rfl)
                          · first
                            | (exfalso; omega)
                            |  (refine r_aload_n C rfl rfl dX6_readOne_230 ?_
                                refine r_getO C dX6_readOne_231 fl_X6_75 rfl rfl (q_lt hs (by decide)) (sh_12_39 hs) ?_
                                refine r_aload_n C rfl rfl dX6_readOne_234 ?_
                                refine r_getI C dX6_readOne_235 fl_X6_265 rfl (q_lt hs (by decide)) ?_
                                refine r_iload_n C rfl dX6_readOne_238 ?_
                                refine r_iast C (None) rfl (by omega) dX6_readOne_239 rfl (q_lt hs (by decide)) ?_
                                refine r_aload_n C rfl rfl dX6_readOne_240 ?_
                                refine r_getO C dX6_readOne_241 fl_X6_78 rfl rfl (q_lt hs (by decide)) (sh_12_40 hs) ?_
                                refine r_aload_n C rfl rfl dX6_readOne_244 ?_
                                refine r_getI C dX6_readOne_245 fl_X6_265 rfl (q_lt hs (by decide)) ?_
                                refine r_iload C rfl dX6_readOne_248 ?_
                                refine r_iast C (None) rfl (by omega) dX6_readOne_250 rfl (q_lt hs (by decide)) ?_
                                refine r_aload_n C rfl rfl dX6_readOne_251 ?_
                                refine r_getO C dX6_readOne_252 fl_X6_81 rfl rfl (q_lt hs (by decide)) (sh_12_41 hs) ?_
                                refine r_aload_n C rfl rfl dX6_readOne_255 ?_
                                refine r_getI C dX6_readOne_256 fl_X6_265 rfl (q_lt hs (by decide)) ?_
                                refine r_iload C rfl dX6_readOne_259 ?_
                                refine r_iast C (None) rfl (by omega) dX6_readOne_261 rfl (q_lt hs (by decide)) ?_
                                refine r_aload_n C rfl rfl dX6_readOne_262 ?_
                                refine r_getO C dX6_readOne_263 fl_X6_84 rfl rfl (q_lt hs (by decide)) (sh_12_42 hs) ?_
                                refine r_aload_n C rfl rfl dX6_readOne_266 ?_
                                refine r_getI C dX6_readOne_267 fl_X6_265 rfl (q_lt hs (by decide)) ?_
                                refine r_iload C rfl dX6_readOne_270 ?_
                                refine r_iast C (None) rfl (by omega) dX6_readOne_272 rfl (q_lt hs (by decide)) ?_
                                refine r_aload_n C rfl rfl dX6_readOne_273 ?_
                                refine r_dup C rfl dX6_readOne_274 ?_
                                refine r_getI C dX6_readOne_275 fl_X6_265 rfl (q_lt hs (by decide)) ?_
                                refine r_iconstv C 1 rfl dX6_readOne_278 ?_
                                refine r_iadd C dX6_readOne_279 ?_
                                refine r_putI C dX6_readOne_280 fl_X6_265 rfl (q_lt hs (by decide)) (Or.inl rfl) ?_
                                exact r_vret C dX6_readOne_283 rfl (Nat.le_refl _) rfl))
                    · first
                      | (exfalso; omega)
                      |  (refine r_aload_n C rfl rfl dX6_readOne_196 ?_
                          refine r_aload_n C rfl rfl dX6_readOne_197 ?_
                          refine r_getI C dX6_readOne_198 fl_X6_218 rfl (q_lt hs (by decide)) ?_
                          refine r_iconstv C 3 rfl dX6_readOne_201 ?_
                          refine t_icmp_ne C 209 (by decide) mt.2.1 (show (3 : Int32).toInt = 3 from rfl) dX6_readOne_202 (fun c202 => ?_) (fun c202 => ?_)
                          · first
                            | (exfalso; omega)
                            |  (refine r_iconstv C 0 rfl dX6_readOne_209 ?_
                                refine r_callV C sp1 kv_X6_take kn_X6_take rfl dX6_readOne_210 cl_X6_249 ⟨Nat.le_of_ble_eq_true rfl, Nat.le_of_ble_eq_true rfl⟩ (by decide) rfl rfl (q_lt hs (by decide)) (by rw [hn1]; exact hF) rfl (Nat.le_of_ble_eq_true rfl) ?_
                                refine r_aload_n C rfl rfl dX6_readOne_213 ?_
                                refine r_aload_n C rfl rfl dX6_readOne_214 ?_
                                refine r_bipush C 59 rfl dX6_readOne_215 ?_
                                refine r_callV C (absurd trivial hf) kv_X6_is kn_X6_is rfl dX6_readOne_217 cl_X6_262 ⟨Nat.le_of_ble_eq_true rfl, Nat.le_of_ble_eq_true rfl⟩ (by decide) rfl rfl (q_lt hs (by decide)) hF rfl (Nat.le_of_ble_eq_true rfl) ?_
                                refine r_callV C sp1 kv_X6_take kn_X6_take rfl dX6_readOne_220 cl_X6_249 ⟨Nat.le_of_ble_eq_true rfl, Nat.le_of_ble_eq_true rfl⟩ (by decide) rfl rfl (q_lt hs (by decide)) (by rw [hn1]; exact hF) rfl (Nat.le_of_ble_eq_true rfl) ?_
                                refine r_aload_n C rfl rfl dX6_readOne_223 ?_
                                refine r_getI C dX6_readOne_224 fl_X6_230 rfl (q_lt hs (by decide)) ?_
                                refine t_if_ne C 283 (by decide) hf dX6_readOne_227 (fun c227 => ?_) (fun c227 => ?_)
                                · first
                                  | (exfalso; omega)
                                  |  (exact r_vret C dX6_readOne_283 rfl (Nat.le_refl _) rfl)
                                · first
                                  | (exfalso; omega)
                                  |  (refine r_aload_n C rfl rfl dX6_readOne_230 ?_
                                      refine r_getO C dX6_readOne_231 fl_X6_75 rfl rfl (q_lt hs (by decide)) (sh_12_39 hs) ?_
                                      refine r_aload_n C rfl rfl dX6_readOne_234 ?_
                                      refine r_getI C dX6_readOne_235 fl_X6_265 rfl (q_lt hs (by decide)) ?_
                                      refine r_iload_n C rfl dX6_readOne_238 ?_
                                      refine r_iast C (None) rfl (by omega) dX6_readOne_239 rfl (q_lt hs (by decide)) ?_
                                      refine r_aload_n C rfl rfl dX6_readOne_240 ?_
                                      refine r_getO C dX6_readOne_241 fl_X6_78 rfl rfl (q_lt hs (by decide)) (sh_12_40 hs) ?_
                                      refine r_aload_n C rfl rfl dX6_readOne_244 ?_
                                      refine r_getI C dX6_readOne_245 fl_X6_265 rfl (q_lt hs (by decide)) ?_
                                      refine r_iload C rfl dX6_readOne_248 ?_
                                      refine r_iast C (None) rfl (by omega) dX6_readOne_250 rfl (q_lt hs (by decide)) ?_
                                      refine r_aload_n C rfl rfl dX6_readOne_251 ?_
                                      refine r_getO C dX6_readOne_252 fl_X6_81 rfl rfl (q_lt hs (by decide)) (sh_12_41 hs) ?_
                                      refine r_aload_n C rfl rfl dX6_readOne_255 ?_
                                      refine r_getI C dX6_readOne_256 fl_X6_265 rfl (q_lt hs (by decide)) ?_
                                      refine r_iload C rfl dX6_readOne_259 ?_
                                      refine r_iast C (None) rfl (by omega) dX6_readOne_261 rfl (q_lt hs (by decide)) ?_
                                      refine r_aload_n C rfl rfl dX6_readOne_262 ?_
                                      refine r_getO C dX6_readOne_263 fl_X6_84 rfl rfl (q_lt hs (by decide)) (sh_12_42 hs) ?_
                                      refine r_aload_n C rfl rfl dX6_readOne_266 ?_
                                      refine r_getI C dX6_readOne_267 fl_X6_265 rfl (q_lt hs (by decide)) ?_
                                      refine r_iload C rfl dX6_readOne_270 ?_
                                      refine r_iast C (None) rfl (by omega) dX6_readOne_272 rfl (q_lt hs (by decide)) ?_
                                      refine r_aload_n C rfl rfl dX6_readOne_273 ?_
                                      refine r_dup C rfl dX6_readOne_274 ?_
                                      refine r_getI C dX6_readOne_275 fl_X6_265 rfl (q_lt hs (by decide)) ?_
                                      refine r_iconstv C 1 rfl dX6_readOne_278 ?_
                                      refine r_iadd C dX6_readOne_279 ?_
                                      refine r_putI C dX6_readOne_280 fl_X6_265 rfl (q_lt hs (by decide)) (Or.inl rfl) ?_
                                      exact r_vret C dX6_readOne_283 rfl (Nat.le_refl _) rfl))
                          · first
                            | (exfalso; omega)
                            |  (refine r_iconstv C 1 rfl dX6_readOne_205 ?_
                                refine r_goto C 210 (by decide) dX6_readOne_206 ?_
                                refine r_callV C sp1 kv_X6_take kn_X6_take rfl dX6_readOne_210 cl_X6_249 ⟨Nat.le_of_ble_eq_true rfl, Nat.le_of_ble_eq_true rfl⟩ (by decide) rfl rfl (q_lt hs (by decide)) (by rw [hn1]; exact hF) rfl (Nat.le_of_ble_eq_true rfl) ?_
                                refine r_aload_n C rfl rfl dX6_readOne_213 ?_
                                refine r_aload_n C rfl rfl dX6_readOne_214 ?_
                                refine r_bipush C 59 rfl dX6_readOne_215 ?_
                                refine r_callV C (absurd trivial hf) kv_X6_is kn_X6_is rfl dX6_readOne_217 cl_X6_262 ⟨Nat.le_of_ble_eq_true rfl, Nat.le_of_ble_eq_true rfl⟩ (by decide) rfl rfl (q_lt hs (by decide)) hF rfl (Nat.le_of_ble_eq_true rfl) ?_
                                refine r_callV C sp1 kv_X6_take kn_X6_take rfl dX6_readOne_220 cl_X6_249 ⟨Nat.le_of_ble_eq_true rfl, Nat.le_of_ble_eq_true rfl⟩ (by decide) rfl rfl (q_lt hs (by decide)) (by rw [hn1]; exact hF) rfl (Nat.le_of_ble_eq_true rfl) ?_
                                refine r_aload_n C rfl rfl dX6_readOne_223 ?_
                                refine r_getI C dX6_readOne_224 fl_X6_230 rfl (q_lt hs (by decide)) ?_
                                refine t_if_ne C 283 (by decide) hf dX6_readOne_227 (fun c227 => ?_) (fun c227 => ?_)
                                · first
                                  | (exfalso; omega)
                                  |  (exact r_vret C dX6_readOne_283 rfl (Nat.le_refl _) rfl)
                                · first
                                  | (exfalso; omega)
                                  |  (refine r_aload_n C rfl rfl dX6_readOne_230 ?_
                                      refine r_getO C dX6_readOne_231 fl_X6_75 rfl rfl (q_lt hs (by decide)) (sh_12_39 hs) ?_
                                      refine r_aload_n C rfl rfl dX6_readOne_234 ?_
                                      refine r_getI C dX6_readOne_235 fl_X6_265 rfl (q_lt hs (by decide)) ?_
                                      refine r_iload_n C rfl dX6_readOne_238 ?_
                                      refine r_iast C (None) rfl (by omega) dX6_readOne_239 rfl (q_lt hs (by decide)) ?_
                                      refine r_aload_n C rfl rfl dX6_readOne_240 ?_
                                      refine r_getO C dX6_readOne_241 fl_X6_78 rfl rfl (q_lt hs (by decide)) (sh_12_40 hs) ?_
                                      refine r_aload_n C rfl rfl dX6_readOne_244 ?_
                                      refine r_getI C dX6_readOne_245 fl_X6_265 rfl (q_lt hs (by decide)) ?_
                                      refine r_iload C rfl dX6_readOne_248 ?_
                                      refine r_iast C (None) rfl (by omega) dX6_readOne_250 rfl (q_lt hs (by decide)) ?_
                                      refine r_aload_n C rfl rfl dX6_readOne_251 ?_
                                      refine r_getO C dX6_readOne_252 fl_X6_81 rfl rfl (q_lt hs (by decide)) (sh_12_41 hs) ?_
                                      refine r_aload_n C rfl rfl dX6_readOne_255 ?_
                                      refine r_getI C dX6_readOne_256 fl_X6_265 rfl (q_lt hs (by decide)) ?_
                                      refine r_iload C rfl dX6_readOne_259 ?_
                                      refine r_iast C (None) rfl (by omega) dX6_readOne_261 rfl (q_lt hs (by decide)) ?_
                                      refine r_aload_n C rfl rfl dX6_readOne_262 ?_
                                      refine r_getO C dX6_readOne_263 fl_X6_84 rfl rfl (q_lt hs (by decide)) (sh_12_42 hs) ?_
                                      refine r_aload_n C rfl rfl dX6_readOne_266 ?_
                                      refine r_getI C dX6_readOne_267 fl_X6_265 rfl (q_lt hs (by decide)) ?_
                                      refine r_iload C rfl dX6_readOne_270 ?_
                                      refine r_iast C (None) rfl (by omega) dX6_readOne_272 rfl (q_lt hs (by decide)) ?_
                                      refine r_aload_n C rfl rfl dX6_readOne_273 ?_
                                      refine r_dup C rfl dX6_readOne_274 ?_
                                      refine r_getI C dX6_readOne_275 fl_X6_265 rfl (q_lt hs (by decide)) ?_
                                      refine r_iconstv C 1 rfl dX6_readOne_278 ?_
                                      refine r_iadd C dX6_readOne_279 ?_
                                      refine r_putI C dX6_readOne_280 fl_X6_265 rfl (q_lt hs (by decide)) (Or.inl rfl) ?_
                                      exact r_vret C dX6_readOne_283 rfl (Nat.le_refl _) rfl)))))
        · first
          | (exfalso; omega)
          |  (refine r_aload_n C rfl rfl dX6_readOne_149 ?_
              refine r_aload_n C rfl rfl dX6_readOne_150 ?_
              refine r_getI C dX6_readOne_151 fl_X6_218 rfl (q_lt hs (by decide)) ?_
              refine r_iconstv C 3 rfl dX6_readOne_154 ?_
              refine t_icmp_ne C 162 (by decide) mt.2.1 (show (3 : Int32).toInt = 3 from rfl) dX6_readOne_155 (fun c155 => ?_) (fun c155 => ?_)
              · first
                | (exfalso; omega)
                |  (refine r_iconstv C 0 rfl dX6_readOne_162 ?_
                    refine r_callV C sp1 kv_X6_take kn_X6_take rfl dX6_readOne_163 cl_X6_249 ⟨Nat.le_of_ble_eq_true rfl, Nat.le_of_ble_eq_true rfl⟩ (by decide) rfl rfl (q_lt hs (by decide)) (by rw [hn1]; exact hF) rfl (Nat.le_of_ble_eq_true rfl) ?_
                    exact t.2 p l e R s m args below meth c n0 nF C (by rw [hn1]; exact hF))
              · first
                | (exfalso; omega)
                |  (refine r_iconstv C 1 rfl dX6_readOne_158 ?_
                    refine r_goto C 163 (by decide) dX6_readOne_159 ?_
                    refine r_callV C sp1 kv_X6_take kn_X6_take rfl dX6_readOne_163 cl_X6_249 ⟨Nat.le_of_ble_eq_true rfl, Nat.le_of_ble_eq_true rfl⟩ (by decide) rfl rfl (q_lt hs (by decide)) (by rw [hn1]; exact hF) rfl (Nat.le_of_ble_eq_true rfl) ?_
                    exact t.2 p l e R s m args below meth c n0 nF C (by rw [hn1]; exact hF))))

set_option maxHeartbeats 4000000 in
set_option maxRecDepth 100000 in
theorem s166b (G : oG) {h : oH} (hs : oSh h) {z : Nat} {T : Nat → Int} (tp : tpM h z T) {q : Nat} (hq : q ≤ z) (mt : mT h T z q) (hf : (hI h 12 36).toInt = 0) {x1 x4 x5 : Int32} {l2 l3 l6 : Option Value} (hk : xK T z q ≠ 7) : tO G 166 [some (.ref 12), some (.int x1), l2, l3, some (.int x4), some (.int x5), l6] h (bdH h 1) := by
  have hsb : oSh (bdH h 1) := hs
  have tpb : tpM (bdH h 1) z T := tp.fr (bdH_o (by omega)) (fun j => bdH_o (by omega))
  have mtb : mT (bdH h 1) T z q := mt.fr (fun y _ _ => bdH_o (by omega))
  have hfb : (hI (bdH h 1) 12 36).toInt ≠ 0 := by rw [bdH_f]; decide
  refine ⟨rfl, fun p l e R s m args below meth c n0 nF C hF => ?_⟩
  refine r_aload_n C rfl rfl dX6_readOne_166 ?_
  refine r_aload_n C rfl rfl dX6_readOne_167 ?_
  refine r_bipush C 64 rfl dX6_readOne_168 ?_
  refine r_callV C (isQ7 G hs tp hq mt) kv_X6_is kn_X6_is rfl dX6_readOne_170 cl_X6_262 ⟨Nat.le_of_ble_eq_true rfl, Nat.le_of_ble_eq_true rfl⟩ (by decide) rfl rfl (q_lt hs (by decide)) hF rfl (Nat.le_of_ble_eq_true rfl) ?_
  refine r_callV C (sp_tk0 G hs _ (by rw [b1_f hk]; rfl) hf) kv_X6_take kn_X6_take rfl dX6_readOne_173 cl_X6_249 ⟨Nat.le_of_ble_eq_true rfl, Nat.le_of_ble_eq_true rfl⟩ (by decide) rfl rfl (q_lt hs (by decide)) hF rfl (Nat.le_of_ble_eq_true rfl) ?_
  exact (rs176 G hsb tpb hq mtb hfb).2 p l e R s m args below meth c n0 nF C hF

set_option maxHeartbeats 4000000 in
set_option maxRecDepth 100000 in
theorem s166 (G : oG) {h : oH} (hs : oSh h) {z : Nat} {T : Nat → Int} (tp : tpM h z T) {q : Nat} (hq : q ≤ z) (mt : mT h T z q) (hf : (hI h 12 36).toInt = 0) {x1 x4 x5 : Int32} {l2 l3 l6 : Option Value} (hk : xK T z q = 7) : ∃ h', mT h' T z (xE T z q) ∧ frK h h' ∧ ∀ hg, tO G 176 [some (.ref 12), some (.int x1), l2, l3, some (.int x4), some (.int x5), l6] h' hg → tO G 166 [some (.ref 12), some (.int x1), l2, l3, some (.int x4), some (.int x5), l6] h hg := by
  obtain ⟨h1, sp1, m1, f1⟩ := takeQ G hs tp hq mt hf (b1 (xK T z q = 7)) (by rw [b1_t hk]; decide)
  have hn1 := f1.1
  refine ⟨h1, m1, f1, fun hg t => ⟨t.1.trans hn1, fun p l e R s m args below meth c n0 nF C hF => ?_⟩⟩
  refine r_aload_n C rfl rfl dX6_readOne_166 ?_
  refine r_aload_n C rfl rfl dX6_readOne_167 ?_
  refine r_bipush C 64 rfl dX6_readOne_168 ?_
  refine r_callV C (isQ7 G hs tp hq mt) kv_X6_is kn_X6_is rfl dX6_readOne_170 cl_X6_262 ⟨Nat.le_of_ble_eq_true rfl, Nat.le_of_ble_eq_true rfl⟩ (by decide) rfl rfl (q_lt hs (by decide)) hF rfl (Nat.le_of_ble_eq_true rfl) ?_
  refine r_callV C sp1 kv_X6_take kn_X6_take rfl dX6_readOne_173 cl_X6_249 ⟨Nat.le_of_ble_eq_true rfl, Nat.le_of_ble_eq_true rfl⟩ (by decide) rfl rfl (q_lt hs (by decide)) (by rw [hn1]; exact hF) rfl (Nat.le_of_ble_eq_true rfl) ?_
  exact t.2 p l e R s m args below meth c n0 nF C (by rw [hn1]; exact hF)

set_option maxHeartbeats 4000000 in
set_option maxRecDepth 100000 in
theorem s73_2 (G : oG) {h : oH} (hs : oSh h) {z : Nat} {T : Nat → Int} (tp : tpM h z T) {q : Nat} (hq : q ≤ z) (mt : mT h T z q) (hf : (hI h 12 36).toInt = 0) {x1 : Int32} {l2 l3 l4 l5 l6 : Option Value} (hk : xK T z q = 2) : ∃ h' l2', mT h' T z (xE T z q) ∧ frK h h' ∧ ∀ hg, tO G 127 [some (.ref 12), some (.int x1), l2', none, some (.int 0), l5, l6] h' hg → tO G 73 [some (.ref 12), some (.int x1), l2, l3, l4, l5, l6] h hg := by
  obtain ⟨vn, sn, c1, c2, c3, c4⟩ := nameQ G hs tp hq mt
  obtain ⟨h1, sp1, m1, f1⟩ := takeQ G hs tp hq mt hf 1 (by decide)
  have hn1 := f1.1
  refine ⟨h1, some (.long vn), m1, f1, fun hg t => ⟨t.1.trans hn1, fun p l e R s m args below meth c n0 nF C hF => ?_⟩⟩
  refine r_aload_n C rfl rfl dX6_readOne_73 ?_
  refine r_callV C sn kv_X6_name kn_X6_name rfl dX6_readOne_74 cl_X6_243 ⟨Nat.le_of_ble_eq_true rfl, Nat.le_of_ble_eq_true rfl⟩ (by decide) rfl rfl (q_lt hs (by decide)) hF rfl (Nat.le_of_ble_eq_true rfl) ?_
  refine r_lstore_n C rfl (Nat.le_of_ble_eq_true rfl) dX6_readOne_77 ?_
  refine r_lload_n C rfl dX6_readOne_78 ?_
  refine r_ldc2 C _ ll_X6_256 dX6_readOne_79 ?_
  refine r_lcmp C dX6_readOne_82 ?_
  refine t_lcmp_ne C 90 (by decide) rfl (show (6513008 : Int64).toInt = 6513008 from rfl) dX6_readOne_83 (fun c83 => ?_) (fun c83 => ?_)
  · first
    | (exfalso; omega)
    |  (refine r_lload_n C rfl dX6_readOne_90 ?_
        refine r_ldc2 C _ ll_X6_258 dX6_readOne_91 ?_
        refine r_lcmp C dX6_readOne_94 ?_
        refine t_lcmp_ne C 102 (by decide) rfl (show (1885432164 : Int64).toInt = 1885432164 from rfl) dX6_readOne_95 (fun c95 => ?_) (fun c95 => ?_)
        · first
          | (exfalso; omega)
          |  (refine r_iconstv C 0 rfl dX6_readOne_102 ?_
              refine r_istore C rfl (Nat.le_of_ble_eq_true rfl) dX6_readOne_103 ?_
              refine r_aload_n C rfl rfl dX6_readOne_105 ?_
              refine r_iload C rfl dX6_readOne_106 ?_
              refine t_if_gt C 119 (by decide) (show (0 : Int32).toInt = 0 from rfl) dX6_readOne_108 (fun c108 => absurd c108 (by decide)) (fun c108 => ?_)
              refine r_lload_n C rfl dX6_readOne_111 ?_
              refine r_ldc2 C _ ll_X6_260 dX6_readOne_112 ?_
              refine r_lcmp C dX6_readOne_115 ?_
              refine t_lcmp_ne C 123 (by decide) rfl (show (6578553 : Int64).toInt = 6578553 from rfl) dX6_readOne_116 (fun c116 => ?_) (fun c116 => ?_)
              · first
                | (exfalso; omega)
                |  (refine r_iconstv C 0 rfl dX6_readOne_123 ?_
                    refine r_callV C sp1 kv_X6_take kn_X6_take rfl dX6_readOne_124 cl_X6_249 ⟨Nat.le_of_ble_eq_true rfl, Nat.le_of_ble_eq_true rfl⟩ (by decide) rfl rfl (q_lt hs (by decide)) (by rw [hn1]; exact hF) rfl (Nat.le_of_ble_eq_true rfl) ?_
                    exact t.2 p l e R s m args below meth c n0 nF C (by rw [hn1]; exact hF))
              · first
                | (exfalso; omega)
                |  (refine r_iconstv C 1 rfl dX6_readOne_119 ?_
                    refine r_goto C 124 (by decide) dX6_readOne_120 ?_
                    refine r_callV C sp1 kv_X6_take kn_X6_take rfl dX6_readOne_124 cl_X6_249 ⟨Nat.le_of_ble_eq_true rfl, Nat.le_of_ble_eq_true rfl⟩ (by decide) rfl rfl (q_lt hs (by decide)) (by rw [hn1]; exact hF) rfl (Nat.le_of_ble_eq_true rfl) ?_
                    exact t.2 p l e R s m args below meth c n0 nF C (by rw [hn1]; exact hF)))
        · first
          | (exfalso; omega)
          |  (refine r_iconstv C 2 rfl dX6_readOne_98 ?_
              refine r_goto C 103 (by decide) dX6_readOne_99 ?_
              refine r_istore C rfl (Nat.le_of_ble_eq_true rfl) dX6_readOne_103 ?_
              refine r_aload_n C rfl rfl dX6_readOne_105 ?_
              refine r_iload C rfl dX6_readOne_106 ?_
              refine t_if_gt C 119 (by decide) (show (2 : Int32).toInt = 2 from rfl) dX6_readOne_108 (fun c108 => ?_) (fun c108 => absurd c108 (by decide))
              refine r_iconstv C 1 rfl dX6_readOne_119 ?_
              refine r_goto C 124 (by decide) dX6_readOne_120 ?_
              refine r_callV C sp1 kv_X6_take kn_X6_take rfl dX6_readOne_124 cl_X6_249 ⟨Nat.le_of_ble_eq_true rfl, Nat.le_of_ble_eq_true rfl⟩ (by decide) rfl rfl (q_lt hs (by decide)) (by rw [hn1]; exact hF) rfl (Nat.le_of_ble_eq_true rfl) ?_
              exact t.2 p l e R s m args below meth c n0 nF C (by rw [hn1]; exact hF)))
  · first
    | (exfalso; omega)
    |  (refine r_iconstv C 1 rfl dX6_readOne_86 ?_
        refine r_goto C 103 (by decide) dX6_readOne_87 ?_
        refine r_istore C rfl (Nat.le_of_ble_eq_true rfl) dX6_readOne_103 ?_
        refine r_aload_n C rfl rfl dX6_readOne_105 ?_
        refine r_iload C rfl dX6_readOne_106 ?_
        refine t_if_gt C 119 (by decide) (show (1 : Int32).toInt = 1 from rfl) dX6_readOne_108 (fun c108 => ?_) (fun c108 => absurd c108 (by decide))
        refine r_iconstv C 1 rfl dX6_readOne_119 ?_
        refine r_goto C 124 (by decide) dX6_readOne_120 ?_
        refine r_callV C sp1 kv_X6_take kn_X6_take rfl dX6_readOne_124 cl_X6_249 ⟨Nat.le_of_ble_eq_true rfl, Nat.le_of_ble_eq_true rfl⟩ (by decide) rfl rfl (q_lt hs (by decide)) (by rw [hn1]; exact hF) rfl (Nat.le_of_ble_eq_true rfl) ?_
        exact t.2 p l e R s m args below meth c n0 nF C (by rw [hn1]; exact hF))

set_option maxHeartbeats 4000000 in
set_option maxRecDepth 100000 in
theorem s73_3 (G : oG) {h : oH} (hs : oSh h) {z : Nat} {T : Nat → Int} (tp : tpM h z T) {q : Nat} (hq : q ≤ z) (mt : mT h T z q) (hf : (hI h 12 36).toInt = 0) {x1 : Int32} {l2 l3 l4 l5 l6 : Option Value} (hk : xK T z q = 3) : ∃ h' l2', mT h' T z (xE T z q) ∧ frK h h' ∧ ∀ hg, tO G 127 [some (.ref 12), some (.int x1), l2', none, some (.int 1), l5, l6] h' hg → tO G 73 [some (.ref 12), some (.int x1), l2, l3, l4, l5, l6] h hg := by
  obtain ⟨vn, sn, c1, c2, c3, c4⟩ := nameQ G hs tp hq mt
  obtain ⟨h1, sp1, m1, f1⟩ := takeQ G hs tp hq mt hf 1 (by decide)
  have hn1 := f1.1
  refine ⟨h1, some (.long vn), m1, f1, fun hg t => ⟨t.1.trans hn1, fun p l e R s m args below meth c n0 nF C hF => ?_⟩⟩
  refine r_aload_n C rfl rfl dX6_readOne_73 ?_
  refine r_callV C sn kv_X6_name kn_X6_name rfl dX6_readOne_74 cl_X6_243 ⟨Nat.le_of_ble_eq_true rfl, Nat.le_of_ble_eq_true rfl⟩ (by decide) rfl rfl (q_lt hs (by decide)) hF rfl (Nat.le_of_ble_eq_true rfl) ?_
  refine r_lstore_n C rfl (Nat.le_of_ble_eq_true rfl) dX6_readOne_77 ?_
  refine r_lload_n C rfl dX6_readOne_78 ?_
  refine r_ldc2 C _ ll_X6_256 dX6_readOne_79 ?_
  refine r_lcmp C dX6_readOne_82 ?_
  refine t_lcmp_ne C 90 (by decide) rfl (show (6513008 : Int64).toInt = 6513008 from rfl) dX6_readOne_83 (fun c83 => ?_) (fun c83 => ?_)
  · first
    | (exfalso; omega)
    |  (refine r_lload_n C rfl dX6_readOne_90 ?_
        refine r_ldc2 C _ ll_X6_258 dX6_readOne_91 ?_
        refine r_lcmp C dX6_readOne_94 ?_
        refine t_lcmp_ne C 102 (by decide) rfl (show (1885432164 : Int64).toInt = 1885432164 from rfl) dX6_readOne_95 (fun c95 => ?_) (fun c95 => ?_)
        · first
          | (exfalso; omega)
          |  (refine r_iconstv C 0 rfl dX6_readOne_102 ?_
              refine r_istore C rfl (Nat.le_of_ble_eq_true rfl) dX6_readOne_103 ?_
              refine r_aload_n C rfl rfl dX6_readOne_105 ?_
              refine r_iload C rfl dX6_readOne_106 ?_
              refine t_if_gt C 119 (by decide) (show (0 : Int32).toInt = 0 from rfl) dX6_readOne_108 (fun c108 => absurd c108 (by decide)) (fun c108 => ?_)
              refine r_lload_n C rfl dX6_readOne_111 ?_
              refine r_ldc2 C _ ll_X6_260 dX6_readOne_112 ?_
              refine r_lcmp C dX6_readOne_115 ?_
              refine t_lcmp_ne C 123 (by decide) rfl (show (6578553 : Int64).toInt = 6578553 from rfl) dX6_readOne_116 (fun c116 => ?_) (fun c116 => ?_)
              · first
                | (exfalso; omega)
                |  (refine r_iconstv C 0 rfl dX6_readOne_123 ?_
                    refine r_callV C sp1 kv_X6_take kn_X6_take rfl dX6_readOne_124 cl_X6_249 ⟨Nat.le_of_ble_eq_true rfl, Nat.le_of_ble_eq_true rfl⟩ (by decide) rfl rfl (q_lt hs (by decide)) (by rw [hn1]; exact hF) rfl (Nat.le_of_ble_eq_true rfl) ?_
                    exact t.2 p l e R s m args below meth c n0 nF C (by rw [hn1]; exact hF))
              · first
                | (exfalso; omega)
                |  (refine r_iconstv C 1 rfl dX6_readOne_119 ?_
                    refine r_goto C 124 (by decide) dX6_readOne_120 ?_
                    refine r_callV C sp1 kv_X6_take kn_X6_take rfl dX6_readOne_124 cl_X6_249 ⟨Nat.le_of_ble_eq_true rfl, Nat.le_of_ble_eq_true rfl⟩ (by decide) rfl rfl (q_lt hs (by decide)) (by rw [hn1]; exact hF) rfl (Nat.le_of_ble_eq_true rfl) ?_
                    exact t.2 p l e R s m args below meth c n0 nF C (by rw [hn1]; exact hF)))
        · first
          | (exfalso; omega)
          |  (refine r_iconstv C 2 rfl dX6_readOne_98 ?_
              refine r_goto C 103 (by decide) dX6_readOne_99 ?_
              refine r_istore C rfl (Nat.le_of_ble_eq_true rfl) dX6_readOne_103 ?_
              refine r_aload_n C rfl rfl dX6_readOne_105 ?_
              refine r_iload C rfl dX6_readOne_106 ?_
              refine t_if_gt C 119 (by decide) (show (2 : Int32).toInt = 2 from rfl) dX6_readOne_108 (fun c108 => ?_) (fun c108 => absurd c108 (by decide))
              refine r_iconstv C 1 rfl dX6_readOne_119 ?_
              refine r_goto C 124 (by decide) dX6_readOne_120 ?_
              refine r_callV C sp1 kv_X6_take kn_X6_take rfl dX6_readOne_124 cl_X6_249 ⟨Nat.le_of_ble_eq_true rfl, Nat.le_of_ble_eq_true rfl⟩ (by decide) rfl rfl (q_lt hs (by decide)) (by rw [hn1]; exact hF) rfl (Nat.le_of_ble_eq_true rfl) ?_
              exact t.2 p l e R s m args below meth c n0 nF C (by rw [hn1]; exact hF)))
  · first
    | (exfalso; omega)
    |  (refine r_iconstv C 1 rfl dX6_readOne_86 ?_
        refine r_goto C 103 (by decide) dX6_readOne_87 ?_
        refine r_istore C rfl (Nat.le_of_ble_eq_true rfl) dX6_readOne_103 ?_
        refine r_aload_n C rfl rfl dX6_readOne_105 ?_
        refine r_iload C rfl dX6_readOne_106 ?_
        refine t_if_gt C 119 (by decide) (show (1 : Int32).toInt = 1 from rfl) dX6_readOne_108 (fun c108 => ?_) (fun c108 => absurd c108 (by decide))
        refine r_iconstv C 1 rfl dX6_readOne_119 ?_
        refine r_goto C 124 (by decide) dX6_readOne_120 ?_
        refine r_callV C sp1 kv_X6_take kn_X6_take rfl dX6_readOne_124 cl_X6_249 ⟨Nat.le_of_ble_eq_true rfl, Nat.le_of_ble_eq_true rfl⟩ (by decide) rfl rfl (q_lt hs (by decide)) (by rw [hn1]; exact hF) rfl (Nat.le_of_ble_eq_true rfl) ?_
        exact t.2 p l e R s m args below meth c n0 nF C (by rw [hn1]; exact hF))

set_option maxHeartbeats 4000000 in
set_option maxRecDepth 100000 in
theorem s73_4 (G : oG) {h : oH} (hs : oSh h) {z : Nat} {T : Nat → Int} (tp : tpM h z T) {q : Nat} (hq : q ≤ z) (mt : mT h T z q) (hf : (hI h 12 36).toInt = 0) {x1 : Int32} {l2 l3 l4 l5 l6 : Option Value} (hk : xK T z q = 4) : ∃ h' l2', mT h' T z (xE T z q) ∧ frK h h' ∧ ∀ hg, tO G 127 [some (.ref 12), some (.int x1), l2', none, some (.int 2), l5, l6] h' hg → tO G 73 [some (.ref 12), some (.int x1), l2, l3, l4, l5, l6] h hg := by
  obtain ⟨vn, sn, c1, c2, c3, c4⟩ := nameQ G hs tp hq mt
  obtain ⟨h1, sp1, m1, f1⟩ := takeQ G hs tp hq mt hf 1 (by decide)
  have hn1 := f1.1
  refine ⟨h1, some (.long vn), m1, f1, fun hg t => ⟨t.1.trans hn1, fun p l e R s m args below meth c n0 nF C hF => ?_⟩⟩
  refine r_aload_n C rfl rfl dX6_readOne_73 ?_
  refine r_callV C sn kv_X6_name kn_X6_name rfl dX6_readOne_74 cl_X6_243 ⟨Nat.le_of_ble_eq_true rfl, Nat.le_of_ble_eq_true rfl⟩ (by decide) rfl rfl (q_lt hs (by decide)) hF rfl (Nat.le_of_ble_eq_true rfl) ?_
  refine r_lstore_n C rfl (Nat.le_of_ble_eq_true rfl) dX6_readOne_77 ?_
  refine r_lload_n C rfl dX6_readOne_78 ?_
  refine r_ldc2 C _ ll_X6_256 dX6_readOne_79 ?_
  refine r_lcmp C dX6_readOne_82 ?_
  refine t_lcmp_ne C 90 (by decide) rfl (show (6513008 : Int64).toInt = 6513008 from rfl) dX6_readOne_83 (fun c83 => ?_) (fun c83 => ?_)
  · first
    | (exfalso; omega)
    |  (refine r_lload_n C rfl dX6_readOne_90 ?_
        refine r_ldc2 C _ ll_X6_258 dX6_readOne_91 ?_
        refine r_lcmp C dX6_readOne_94 ?_
        refine t_lcmp_ne C 102 (by decide) rfl (show (1885432164 : Int64).toInt = 1885432164 from rfl) dX6_readOne_95 (fun c95 => ?_) (fun c95 => ?_)
        · first
          | (exfalso; omega)
          |  (refine r_iconstv C 0 rfl dX6_readOne_102 ?_
              refine r_istore C rfl (Nat.le_of_ble_eq_true rfl) dX6_readOne_103 ?_
              refine r_aload_n C rfl rfl dX6_readOne_105 ?_
              refine r_iload C rfl dX6_readOne_106 ?_
              refine t_if_gt C 119 (by decide) (show (0 : Int32).toInt = 0 from rfl) dX6_readOne_108 (fun c108 => absurd c108 (by decide)) (fun c108 => ?_)
              refine r_lload_n C rfl dX6_readOne_111 ?_
              refine r_ldc2 C _ ll_X6_260 dX6_readOne_112 ?_
              refine r_lcmp C dX6_readOne_115 ?_
              refine t_lcmp_ne C 123 (by decide) rfl (show (6578553 : Int64).toInt = 6578553 from rfl) dX6_readOne_116 (fun c116 => ?_) (fun c116 => ?_)
              · first
                | (exfalso; omega)
                |  (refine r_iconstv C 0 rfl dX6_readOne_123 ?_
                    refine r_callV C sp1 kv_X6_take kn_X6_take rfl dX6_readOne_124 cl_X6_249 ⟨Nat.le_of_ble_eq_true rfl, Nat.le_of_ble_eq_true rfl⟩ (by decide) rfl rfl (q_lt hs (by decide)) (by rw [hn1]; exact hF) rfl (Nat.le_of_ble_eq_true rfl) ?_
                    exact t.2 p l e R s m args below meth c n0 nF C (by rw [hn1]; exact hF))
              · first
                | (exfalso; omega)
                |  (refine r_iconstv C 1 rfl dX6_readOne_119 ?_
                    refine r_goto C 124 (by decide) dX6_readOne_120 ?_
                    refine r_callV C sp1 kv_X6_take kn_X6_take rfl dX6_readOne_124 cl_X6_249 ⟨Nat.le_of_ble_eq_true rfl, Nat.le_of_ble_eq_true rfl⟩ (by decide) rfl rfl (q_lt hs (by decide)) (by rw [hn1]; exact hF) rfl (Nat.le_of_ble_eq_true rfl) ?_
                    exact t.2 p l e R s m args below meth c n0 nF C (by rw [hn1]; exact hF)))
        · first
          | (exfalso; omega)
          |  (refine r_iconstv C 2 rfl dX6_readOne_98 ?_
              refine r_goto C 103 (by decide) dX6_readOne_99 ?_
              refine r_istore C rfl (Nat.le_of_ble_eq_true rfl) dX6_readOne_103 ?_
              refine r_aload_n C rfl rfl dX6_readOne_105 ?_
              refine r_iload C rfl dX6_readOne_106 ?_
              refine t_if_gt C 119 (by decide) (show (2 : Int32).toInt = 2 from rfl) dX6_readOne_108 (fun c108 => ?_) (fun c108 => absurd c108 (by decide))
              refine r_iconstv C 1 rfl dX6_readOne_119 ?_
              refine r_goto C 124 (by decide) dX6_readOne_120 ?_
              refine r_callV C sp1 kv_X6_take kn_X6_take rfl dX6_readOne_124 cl_X6_249 ⟨Nat.le_of_ble_eq_true rfl, Nat.le_of_ble_eq_true rfl⟩ (by decide) rfl rfl (q_lt hs (by decide)) (by rw [hn1]; exact hF) rfl (Nat.le_of_ble_eq_true rfl) ?_
              exact t.2 p l e R s m args below meth c n0 nF C (by rw [hn1]; exact hF)))
  · first
    | (exfalso; omega)
    |  (refine r_iconstv C 1 rfl dX6_readOne_86 ?_
        refine r_goto C 103 (by decide) dX6_readOne_87 ?_
        refine r_istore C rfl (Nat.le_of_ble_eq_true rfl) dX6_readOne_103 ?_
        refine r_aload_n C rfl rfl dX6_readOne_105 ?_
        refine r_iload C rfl dX6_readOne_106 ?_
        refine t_if_gt C 119 (by decide) (show (1 : Int32).toInt = 1 from rfl) dX6_readOne_108 (fun c108 => ?_) (fun c108 => absurd c108 (by decide))
        refine r_iconstv C 1 rfl dX6_readOne_119 ?_
        refine r_goto C 124 (by decide) dX6_readOne_120 ?_
        refine r_callV C sp1 kv_X6_take kn_X6_take rfl dX6_readOne_124 cl_X6_249 ⟨Nat.le_of_ble_eq_true rfl, Nat.le_of_ble_eq_true rfl⟩ (by decide) rfl rfl (q_lt hs (by decide)) (by rw [hn1]; exact hF) rfl (Nat.le_of_ble_eq_true rfl) ?_
        exact t.2 p l e R s m args below meth c n0 nF C (by rw [hn1]; exact hF))

set_option maxHeartbeats 4000000 in
set_option maxRecDepth 100000 in
theorem s73b (G : oG) {h : oH} (hs : oSh h) {z : Nat} {T : Nat → Int} (tp : tpM h z T) {q : Nat} (hq : q ≤ z) (mt : mT h T z q) (hf : (hI h 12 36).toInt = 0) {x1 : Int32} {l2 l3 l4 l5 l6 : Option Value} (hk : ¬ (2 ≤ xK T z q ∧ xK T z q ≤ 4)) : tO G 73 [some (.ref 12), some (.int x1), l2, l3, l4, l5, l6] h (bdH h 1) := by
  have hsb : oSh (bdH h 1) := hs
  have tpb : tpM (bdH h 1) z T := tp.fr (bdH_o (by omega)) (fun j => bdH_o (by omega))
  have mtb : mT (bdH h 1) T z q := mt.fr (fun y _ _ => bdH_o (by omega))
  have hfb : (hI (bdH h 1) 12 36).toInt ≠ 0 := by rw [bdH_f]; decide
  obtain ⟨vn, sn, c1, c2, c3, c4⟩ := nameQ G hs tp hq mt
  refine ⟨rfl, fun p l e R s m args below meth c n0 nF C hF => ?_⟩
  refine r_aload_n C rfl rfl dX6_readOne_73 ?_
  refine r_callV C sn kv_X6_name kn_X6_name rfl dX6_readOne_74 cl_X6_243 ⟨Nat.le_of_ble_eq_true rfl, Nat.le_of_ble_eq_true rfl⟩ (by decide) rfl rfl (q_lt hs (by decide)) hF rfl (Nat.le_of_ble_eq_true rfl) ?_
  refine r_lstore_n C rfl (Nat.le_of_ble_eq_true rfl) dX6_readOne_77 ?_
  refine r_lload_n C rfl dX6_readOne_78 ?_
  refine r_ldc2 C _ ll_X6_256 dX6_readOne_79 ?_
  refine r_lcmp C dX6_readOne_82 ?_
  refine t_lcmp_ne C 90 (by decide) rfl (show (6513008 : Int64).toInt = 6513008 from rfl) dX6_readOne_83 (fun c83 => ?_) (fun c83 => ?_)
  · first
    | (exfalso; omega)
    |  (refine r_lload_n C rfl dX6_readOne_90 ?_
        refine r_ldc2 C _ ll_X6_258 dX6_readOne_91 ?_
        refine r_lcmp C dX6_readOne_94 ?_
        refine t_lcmp_ne C 102 (by decide) rfl (show (1885432164 : Int64).toInt = 1885432164 from rfl) dX6_readOne_95 (fun c95 => ?_) (fun c95 => ?_)
        · first
          | (exfalso; omega)
          |  (refine r_iconstv C 0 rfl dX6_readOne_102 ?_
              refine r_istore C rfl (Nat.le_of_ble_eq_true rfl) dX6_readOne_103 ?_
              refine r_aload_n C rfl rfl dX6_readOne_105 ?_
              refine r_iload C rfl dX6_readOne_106 ?_
              refine t_if_gt C 119 (by decide) (show (0 : Int32).toInt = 0 from rfl) dX6_readOne_108 (fun c108 => absurd c108 (by decide)) (fun c108 => ?_)
              refine r_lload_n C rfl dX6_readOne_111 ?_
              refine r_ldc2 C _ ll_X6_260 dX6_readOne_112 ?_
              refine r_lcmp C dX6_readOne_115 ?_
              refine t_lcmp_ne C 123 (by decide) rfl (show (6578553 : Int64).toInt = 6578553 from rfl) dX6_readOne_116 (fun c116 => ?_) (fun c116 => ?_)
              · first
                | (exfalso; omega)
                |  (refine r_iconstv C 0 rfl dX6_readOne_123 ?_
                    refine r_callV C (sp_tk0 G hs _ (rfl) hf) kv_X6_take kn_X6_take rfl dX6_readOne_124 cl_X6_249 ⟨Nat.le_of_ble_eq_true rfl, Nat.le_of_ble_eq_true rfl⟩ (by decide) rfl rfl (q_lt hs (by decide)) hF rfl (Nat.le_of_ble_eq_true rfl) ?_
                    exact (rs127 G hsb tpb hq mtb hfb).2 p l e R s m args below meth c n0 nF C hF)
              · first
                | (exfalso; omega)
                |  (refine r_iconstv C 1 rfl dX6_readOne_119 ?_
                    refine r_goto C 124 (by decide) dX6_readOne_120 ?_
                    refine r_callV C (sp_tk0 G hs _ (rfl) hf) kv_X6_take kn_X6_take rfl dX6_readOne_124 cl_X6_249 ⟨Nat.le_of_ble_eq_true rfl, Nat.le_of_ble_eq_true rfl⟩ (by decide) rfl rfl (q_lt hs (by decide)) hF rfl (Nat.le_of_ble_eq_true rfl) ?_
                    exact (rs127 G hsb tpb hq mtb hfb).2 p l e R s m args below meth c n0 nF C hF))
        · first
          | (exfalso; omega)
          |  (refine r_iconstv C 2 rfl dX6_readOne_98 ?_
              refine r_goto C 103 (by decide) dX6_readOne_99 ?_
              refine r_istore C rfl (Nat.le_of_ble_eq_true rfl) dX6_readOne_103 ?_
              refine r_aload_n C rfl rfl dX6_readOne_105 ?_
              refine r_iload C rfl dX6_readOne_106 ?_
              refine t_if_gt C 119 (by decide) (show (2 : Int32).toInt = 2 from rfl) dX6_readOne_108 (fun c108 => ?_) (fun c108 => absurd c108 (by decide))
              refine r_iconstv C 1 rfl dX6_readOne_119 ?_
              refine r_goto C 124 (by decide) dX6_readOne_120 ?_
              refine r_callV C (sp_tk0 G hs _ (rfl) hf) kv_X6_take kn_X6_take rfl dX6_readOne_124 cl_X6_249 ⟨Nat.le_of_ble_eq_true rfl, Nat.le_of_ble_eq_true rfl⟩ (by decide) rfl rfl (q_lt hs (by decide)) hF rfl (Nat.le_of_ble_eq_true rfl) ?_
              exact (rs127 G hsb tpb hq mtb hfb).2 p l e R s m args below meth c n0 nF C hF))
  · first
    | (exfalso; omega)
    |  (refine r_iconstv C 1 rfl dX6_readOne_86 ?_
        refine r_goto C 103 (by decide) dX6_readOne_87 ?_
        refine r_istore C rfl (Nat.le_of_ble_eq_true rfl) dX6_readOne_103 ?_
        refine r_aload_n C rfl rfl dX6_readOne_105 ?_
        refine r_iload C rfl dX6_readOne_106 ?_
        refine t_if_gt C 119 (by decide) (show (1 : Int32).toInt = 1 from rfl) dX6_readOne_108 (fun c108 => ?_) (fun c108 => absurd c108 (by decide))
        refine r_iconstv C 1 rfl dX6_readOne_119 ?_
        refine r_goto C 124 (by decide) dX6_readOne_120 ?_
        refine r_callV C (sp_tk0 G hs _ (rfl) hf) kv_X6_take kn_X6_take rfl dX6_readOne_124 cl_X6_249 ⟨Nat.le_of_ble_eq_true rfl, Nat.le_of_ble_eq_true rfl⟩ (by decide) rfl rfl (q_lt hs (by decide)) hF rfl (Nat.le_of_ble_eq_true rfl) ?_
        exact (rs127 G hsb tpb hq mtb hfb).2 p l e R s m args below meth c n0 nF C hF)

set_option maxHeartbeats 4000000 in
set_option maxRecDepth 100000 in
theorem s20 (G : oG) {h : oH} (hs : oSh h) {z : Nat} {T : Nat → Int} (tp : tpM h z T) {q : Nat} (hq : q ≤ z) (mt : mT h T z q) (hf : (hI h 12 36).toInt = 0) {l1 l2 l3 l4 l5 l6 : Option Value} {n : Nat} (hn : (hI h 12 1).toInt = (n : Int)) (hn24 : n ≤ 24) (hk : xK T z q = 5) (hv : xV T z q < n) : ∃ h', mT h' T z (xE T z q) ∧ frK h h' ∧ ∀ hg, tO G 73 [some (.ref 12), some (.int (oI (xV T z q))), l2, l3, l4, l5, l6] h' hg → tO G 20 [some (.ref 12), l1, l2, l3, l4, l5, l6] h hg := by
  obtain ⟨vu, su, vu2⟩ := numQ G hs tp hq mt
  have hK := xKR (T := T) hq
  have hvb := xV_b hq hk
  have hvt : (oI (xV T z q)).toInt = xV T z q := oI_t (by omega)
  rw [vu2 hk] at su
  obtain ⟨h1, sp1, m1, f1⟩ := takeQ G hs tp hq mt hf 1 (by decide)
  have hn1 := f1.1
  refine ⟨h1, m1, f1, fun hg t => ⟨t.1.trans hn1, fun p l e R s m args below meth c n0 nF C hF => ?_⟩⟩
  refine r_aload_n C rfl rfl dX6_readOne_20 ?_
  refine r_getI C dX6_readOne_21 fl_X6_230 rfl (q_lt hs (by decide)) ?_
  refine t_if_ne C 51 (by decide) hf dX6_readOne_24 (fun c24 => ?_) (fun c24 => ?_)
  · first
    | (exfalso; omega)
    |  (refine r_aload_n C rfl rfl dX6_readOne_51 ?_
        refine r_callV C su kv_X6_number kn_X6_number rfl dX6_readOne_52 cl_X6_253 ⟨Nat.le_of_ble_eq_true rfl, Nat.le_of_ble_eq_true rfl⟩ (by decide) rfl rfl (q_lt hs (by decide)) hF rfl (Nat.le_of_ble_eq_true rfl) ?_
        refine r_istore_n C rfl (Nat.le_of_ble_eq_true rfl) dX6_readOne_55 ?_
        refine r_aload_n C rfl rfl dX6_readOne_56 ?_
        refine r_aload_n C rfl rfl dX6_readOne_57 ?_
        refine r_getI C dX6_readOne_58 fl_X6_218 rfl (q_lt hs (by decide)) ?_
        refine r_iconstv C 3 rfl dX6_readOne_61 ?_
        refine t_icmp_ne C 69 (by decide) mt.2.1 (show (3 : Int32).toInt = 3 from rfl) dX6_readOne_62 (fun c62 => ?_) (fun c62 => ?_)
        · first
          | (exfalso; omega)
          |  (refine r_iconstv C 0 rfl dX6_readOne_69 ?_
              refine r_callV C sp1 kv_X6_take kn_X6_take rfl dX6_readOne_70 cl_X6_249 ⟨Nat.le_of_ble_eq_true rfl, Nat.le_of_ble_eq_true rfl⟩ (by decide) rfl rfl (q_lt hs (by decide)) (by rw [hn1]; exact hF) rfl (Nat.le_of_ble_eq_true rfl) ?_
              exact t.2 p l e R s m args below meth c n0 nF C (by rw [hn1]; exact hF))
        · first
          | (exfalso; omega)
          |  (refine r_iconstv C 1 rfl dX6_readOne_65 ?_
              refine r_goto C 70 (by decide) dX6_readOne_66 ?_
              refine r_callV C sp1 kv_X6_take kn_X6_take rfl dX6_readOne_70 cl_X6_249 ⟨Nat.le_of_ble_eq_true rfl, Nat.le_of_ble_eq_true rfl⟩ (by decide) rfl rfl (q_lt hs (by decide)) (by rw [hn1]; exact hF) rfl (Nat.le_of_ble_eq_true rfl) ?_
              exact t.2 p l e R s m args below meth c n0 nF C (by rw [hn1]; exact hF)))
  · first
    | (exfalso; omega)
    |  (refine r_aload_n C rfl rfl dX6_readOne_27 ?_
        refine r_getI C dX6_readOne_28 fl_X6_218 rfl (q_lt hs (by decide)) ?_
        refine r_iconstv C 3 rfl dX6_readOne_31 ?_
        refine t_icmp_ne C 51 (by decide) mt.2.1 (show (3 : Int32).toInt = 3 from rfl) dX6_readOne_32 (fun c32 => ?_) (fun c32 => ?_)
        · first
          | (exfalso; omega)
          |  (refine r_aload_n C rfl rfl dX6_readOne_51 ?_
              refine r_callV C su kv_X6_number kn_X6_number rfl dX6_readOne_52 cl_X6_253 ⟨Nat.le_of_ble_eq_true rfl, Nat.le_of_ble_eq_true rfl⟩ (by decide) rfl rfl (q_lt hs (by decide)) hF rfl (Nat.le_of_ble_eq_true rfl) ?_
              refine r_istore_n C rfl (Nat.le_of_ble_eq_true rfl) dX6_readOne_55 ?_
              refine r_aload_n C rfl rfl dX6_readOne_56 ?_
              refine r_aload_n C rfl rfl dX6_readOne_57 ?_
              refine r_getI C dX6_readOne_58 fl_X6_218 rfl (q_lt hs (by decide)) ?_
              refine r_iconstv C 3 rfl dX6_readOne_61 ?_
              refine t_icmp_ne C 69 (by decide) mt.2.1 (show (3 : Int32).toInt = 3 from rfl) dX6_readOne_62 (fun c62 => ?_) (fun c62 => ?_)
              · first
                | (exfalso; omega)
                |  (refine r_iconstv C 0 rfl dX6_readOne_69 ?_
                    refine r_callV C sp1 kv_X6_take kn_X6_take rfl dX6_readOne_70 cl_X6_249 ⟨Nat.le_of_ble_eq_true rfl, Nat.le_of_ble_eq_true rfl⟩ (by decide) rfl rfl (q_lt hs (by decide)) (by rw [hn1]; exact hF) rfl (Nat.le_of_ble_eq_true rfl) ?_
                    exact t.2 p l e R s m args below meth c n0 nF C (by rw [hn1]; exact hF))
              · first
                | (exfalso; omega)
                |  (refine r_iconstv C 1 rfl dX6_readOne_65 ?_
                    refine r_goto C 70 (by decide) dX6_readOne_66 ?_
                    refine r_callV C sp1 kv_X6_take kn_X6_take rfl dX6_readOne_70 cl_X6_249 ⟨Nat.le_of_ble_eq_true rfl, Nat.le_of_ble_eq_true rfl⟩ (by decide) rfl rfl (q_lt hs (by decide)) (by rw [hn1]; exact hF) rfl (Nat.le_of_ble_eq_true rfl) ?_
                    exact t.2 p l e R s m args below meth c n0 nF C (by rw [hn1]; exact hF)))
        · first
          | (exfalso; omega)
          |  (refine r_aload_n C rfl rfl dX6_readOne_35 ?_
              refine r_aload_n C rfl rfl dX6_readOne_36 ?_
              refine r_callV C su kv_X6_number kn_X6_number rfl dX6_readOne_37 cl_X6_253 ⟨Nat.le_of_ble_eq_true rfl, Nat.le_of_ble_eq_true rfl⟩ (by decide) rfl rfl (q_lt hs (by decide)) hF rfl (Nat.le_of_ble_eq_true rfl) ?_
              refine r_callV C (sp_isHouse G hs hn hn24 _) kv_X6_isHouse kn_X6_isHouse rfl dX6_readOne_40 cl_X6_108 ⟨Nat.le_of_ble_eq_true rfl, Nat.le_of_ble_eq_true rfl⟩ (by decide) rfl rfl (q_lt hs (by decide)) hF rfl (Nat.le_of_ble_eq_true rfl) ?_
              refine t_ifb_ne C 51 (by decide) dX6_readOne_43 (fun c43 => ?_) (fun c43 => ?_)
              · first
                | (exfalso; omega)
                |  (refine r_aload_n C rfl rfl dX6_readOne_51 ?_
                    refine r_callV C su kv_X6_number kn_X6_number rfl dX6_readOne_52 cl_X6_253 ⟨Nat.le_of_ble_eq_true rfl, Nat.le_of_ble_eq_true rfl⟩ (by decide) rfl rfl (q_lt hs (by decide)) hF rfl (Nat.le_of_ble_eq_true rfl) ?_
                    refine r_istore_n C rfl (Nat.le_of_ble_eq_true rfl) dX6_readOne_55 ?_
                    refine r_aload_n C rfl rfl dX6_readOne_56 ?_
                    refine r_aload_n C rfl rfl dX6_readOne_57 ?_
                    refine r_getI C dX6_readOne_58 fl_X6_218 rfl (q_lt hs (by decide)) ?_
                    refine r_iconstv C 3 rfl dX6_readOne_61 ?_
                    refine t_icmp_ne C 69 (by decide) mt.2.1 (show (3 : Int32).toInt = 3 from rfl) dX6_readOne_62 (fun c62 => ?_) (fun c62 => ?_)
                    · first
                      | (exfalso; omega)
                      |  (refine r_iconstv C 0 rfl dX6_readOne_69 ?_
                          refine r_callV C sp1 kv_X6_take kn_X6_take rfl dX6_readOne_70 cl_X6_249 ⟨Nat.le_of_ble_eq_true rfl, Nat.le_of_ble_eq_true rfl⟩ (by decide) rfl rfl (q_lt hs (by decide)) (by rw [hn1]; exact hF) rfl (Nat.le_of_ble_eq_true rfl) ?_
                          exact t.2 p l e R s m args below meth c n0 nF C (by rw [hn1]; exact hF))
                    · first
                      | (exfalso; omega)
                      |  (refine r_iconstv C 1 rfl dX6_readOne_65 ?_
                          refine r_goto C 70 (by decide) dX6_readOne_66 ?_
                          refine r_callV C sp1 kv_X6_take kn_X6_take rfl dX6_readOne_70 cl_X6_249 ⟨Nat.le_of_ble_eq_true rfl, Nat.le_of_ble_eq_true rfl⟩ (by decide) rfl rfl (q_lt hs (by decide)) (by rw [hn1]; exact hF) rfl (Nat.le_of_ble_eq_true rfl) ?_
                          exact t.2 p l e R s m args below meth c n0 nF C (by rw [hn1]; exact hF)))
              · first
                | (exfalso; omega)
                |  (refine r_aload_n C rfl rfl dX6_readOne_46 ?_
                    refine r_iconstv C 2 rfl dX6_readOne_47 ?_
                    refine r_callV C (absurd trivial hf) kv_X6_bad kn_X6_bad rfl dX6_readOne_48 cl_X6_236 ⟨Nat.le_of_ble_eq_true rfl, Nat.le_of_ble_eq_true rfl⟩ (by decide) rfl rfl (q_lt hs (by decide)) hF rfl (Nat.le_of_ble_eq_true rfl) ?_
                    refine r_aload_n C rfl rfl dX6_readOne_51 ?_
                    refine r_callV C su kv_X6_number kn_X6_number rfl dX6_readOne_52 cl_X6_253 ⟨Nat.le_of_ble_eq_true rfl, Nat.le_of_ble_eq_true rfl⟩ (by decide) rfl rfl (q_lt hs (by decide)) hF rfl (Nat.le_of_ble_eq_true rfl) ?_
                    refine r_istore_n C rfl (Nat.le_of_ble_eq_true rfl) dX6_readOne_55 ?_
                    refine r_aload_n C rfl rfl dX6_readOne_56 ?_
                    refine r_aload_n C rfl rfl dX6_readOne_57 ?_
                    refine r_getI C dX6_readOne_58 fl_X6_218 rfl (q_lt hs (by decide)) ?_
                    refine r_iconstv C 3 rfl dX6_readOne_61 ?_
                    refine t_icmp_ne C 69 (by decide) mt.2.1 (show (3 : Int32).toInt = 3 from rfl) dX6_readOne_62 (fun c62 => ?_) (fun c62 => ?_)
                    · first
                      | (exfalso; omega)
                      |  (refine r_iconstv C 0 rfl dX6_readOne_69 ?_
                          refine r_callV C sp1 kv_X6_take kn_X6_take rfl dX6_readOne_70 cl_X6_249 ⟨Nat.le_of_ble_eq_true rfl, Nat.le_of_ble_eq_true rfl⟩ (by decide) rfl rfl (q_lt hs (by decide)) (by rw [hn1]; exact hF) rfl (Nat.le_of_ble_eq_true rfl) ?_
                          exact t.2 p l e R s m args below meth c n0 nF C (by rw [hn1]; exact hF))
                    · first
                      | (exfalso; omega)
                      |  (refine r_iconstv C 1 rfl dX6_readOne_65 ?_
                          refine r_goto C 70 (by decide) dX6_readOne_66 ?_
                          refine r_callV C sp1 kv_X6_take kn_X6_take rfl dX6_readOne_70 cl_X6_249 ⟨Nat.le_of_ble_eq_true rfl, Nat.le_of_ble_eq_true rfl⟩ (by decide) rfl rfl (q_lt hs (by decide)) (by rw [hn1]; exact hF) rfl (Nat.le_of_ble_eq_true rfl) ?_
                          exact t.2 p l e R s m args below meth c n0 nF C (by rw [hn1]; exact hF)))))

set_option maxHeartbeats 4000000 in
set_option maxRecDepth 100000 in
theorem s20b (G : oG) {h : oH} (hs : oSh h) {z : Nat} {T : Nat → Int} (tp : tpM h z T) {q : Nat} (hq : q ≤ z) (mt : mT h T z q) (hf : (hI h 12 36).toInt = 0) {l1 l2 l3 l4 l5 l6 : Option Value} (hk : xK T z q ≠ 5) : tO G 20 [some (.ref 12), l1, l2, l3, l4, l5, l6] h (bdH h 1) := by
  have hsb : oSh (bdH h 1) := hs
  have tpb : tpM (bdH h 1) z T := tp.fr (bdH_o (by omega)) (fun j => bdH_o (by omega))
  have mtb : mT (bdH h 1) T z q := mt.fr (fun y _ _ => bdH_o (by omega))
  have hfb : (hI (bdH h 1) 12 36).toInt ≠ 0 := by rw [bdH_f]; decide
  obtain ⟨vu, su, vu2⟩ := numQ G hs tp hq mt
  have hK := xKR (T := T) hq
  refine ⟨rfl, fun p l e R s m args below meth c n0 nF C hF => ?_⟩
  refine r_aload_n C rfl rfl dX6_readOne_20 ?_
  refine r_getI C dX6_readOne_21 fl_X6_230 rfl (q_lt hs (by decide)) ?_
  refine t_if_ne C 51 (by decide) hf dX6_readOne_24 (fun c24 => ?_) (fun c24 => ?_)
  · first
    | (exfalso; omega)
    |  (refine r_aload_n C rfl rfl dX6_readOne_51 ?_
        refine r_callV C su kv_X6_number kn_X6_number rfl dX6_readOne_52 cl_X6_253 ⟨Nat.le_of_ble_eq_true rfl, Nat.le_of_ble_eq_true rfl⟩ (by decide) rfl rfl (q_lt hs (by decide)) hF rfl (Nat.le_of_ble_eq_true rfl) ?_
        refine r_istore_n C rfl (Nat.le_of_ble_eq_true rfl) dX6_readOne_55 ?_
        refine r_aload_n C rfl rfl dX6_readOne_56 ?_
        refine r_aload_n C rfl rfl dX6_readOne_57 ?_
        refine r_getI C dX6_readOne_58 fl_X6_218 rfl (q_lt hs (by decide)) ?_
        refine r_iconstv C 3 rfl dX6_readOne_61 ?_
        refine t_icmp_ne C 69 (by decide) mt.2.1 (show (3 : Int32).toInt = 3 from rfl) dX6_readOne_62 (fun c62 => ?_) (fun c62 => ?_)
        · first
          | (exfalso; omega)
          |  (refine r_iconstv C 0 rfl dX6_readOne_69 ?_
              refine r_callV C (sp_tk0 G hs _ (rfl) hf) kv_X6_take kn_X6_take rfl dX6_readOne_70 cl_X6_249 ⟨Nat.le_of_ble_eq_true rfl, Nat.le_of_ble_eq_true rfl⟩ (by decide) rfl rfl (q_lt hs (by decide)) hF rfl (Nat.le_of_ble_eq_true rfl) ?_
              exact (rs73 G hsb tpb hq mtb hfb).2 p l e R s m args below meth c n0 nF C hF)
        · first
          | (exfalso; omega)
          |  (refine r_iconstv C 1 rfl dX6_readOne_65 ?_
              refine r_goto C 70 (by decide) dX6_readOne_66 ?_
              refine r_callV C (sp_tk0 G hs _ (rfl) hf) kv_X6_take kn_X6_take rfl dX6_readOne_70 cl_X6_249 ⟨Nat.le_of_ble_eq_true rfl, Nat.le_of_ble_eq_true rfl⟩ (by decide) rfl rfl (q_lt hs (by decide)) hF rfl (Nat.le_of_ble_eq_true rfl) ?_
              exact (rs73 G hsb tpb hq mtb hfb).2 p l e R s m args below meth c n0 nF C hF))
  · first
    | (exfalso; omega)
    |  (refine r_aload_n C rfl rfl dX6_readOne_27 ?_
        refine r_getI C dX6_readOne_28 fl_X6_218 rfl (q_lt hs (by decide)) ?_
        refine r_iconstv C 3 rfl dX6_readOne_31 ?_
        refine t_icmp_ne C 51 (by decide) mt.2.1 (show (3 : Int32).toInt = 3 from rfl) dX6_readOne_32 (fun c32 => ?_) (fun c32 => ?_)
        · first
          | (exfalso; omega)
          |  (refine r_aload_n C rfl rfl dX6_readOne_51 ?_
              refine r_callV C su kv_X6_number kn_X6_number rfl dX6_readOne_52 cl_X6_253 ⟨Nat.le_of_ble_eq_true rfl, Nat.le_of_ble_eq_true rfl⟩ (by decide) rfl rfl (q_lt hs (by decide)) hF rfl (Nat.le_of_ble_eq_true rfl) ?_
              refine r_istore_n C rfl (Nat.le_of_ble_eq_true rfl) dX6_readOne_55 ?_
              refine r_aload_n C rfl rfl dX6_readOne_56 ?_
              refine r_aload_n C rfl rfl dX6_readOne_57 ?_
              refine r_getI C dX6_readOne_58 fl_X6_218 rfl (q_lt hs (by decide)) ?_
              refine r_iconstv C 3 rfl dX6_readOne_61 ?_
              refine t_icmp_ne C 69 (by decide) mt.2.1 (show (3 : Int32).toInt = 3 from rfl) dX6_readOne_62 (fun c62 => ?_) (fun c62 => ?_)
              · first
                | (exfalso; omega)
                |  (refine r_iconstv C 0 rfl dX6_readOne_69 ?_
                    refine r_callV C (sp_tk0 G hs _ (rfl) hf) kv_X6_take kn_X6_take rfl dX6_readOne_70 cl_X6_249 ⟨Nat.le_of_ble_eq_true rfl, Nat.le_of_ble_eq_true rfl⟩ (by decide) rfl rfl (q_lt hs (by decide)) hF rfl (Nat.le_of_ble_eq_true rfl) ?_
                    exact (rs73 G hsb tpb hq mtb hfb).2 p l e R s m args below meth c n0 nF C hF)
              · first
                | (exfalso; omega)
                |  (refine r_iconstv C 1 rfl dX6_readOne_65 ?_
                    refine r_goto C 70 (by decide) dX6_readOne_66 ?_
                    refine r_callV C (sp_tk0 G hs _ (rfl) hf) kv_X6_take kn_X6_take rfl dX6_readOne_70 cl_X6_249 ⟨Nat.le_of_ble_eq_true rfl, Nat.le_of_ble_eq_true rfl⟩ (by decide) rfl rfl (q_lt hs (by decide)) hF rfl (Nat.le_of_ble_eq_true rfl) ?_
                    exact (rs73 G hsb tpb hq mtb hfb).2 p l e R s m args below meth c n0 nF C hF))
        · first
          | (exfalso; omega)
          |  (refine r_aload_n C rfl rfl dX6_readOne_35 ?_
              refine r_aload_n C rfl rfl dX6_readOne_36 ?_
              refine r_callV C su kv_X6_number kn_X6_number rfl dX6_readOne_37 cl_X6_253 ⟨Nat.le_of_ble_eq_true rfl, Nat.le_of_ble_eq_true rfl⟩ (by decide) rfl rfl (q_lt hs (by decide)) hF rfl (Nat.le_of_ble_eq_true rfl) ?_
              refine r_callV C (absurd trivial hf) kv_X6_isHouse kn_X6_isHouse rfl dX6_readOne_40 cl_X6_108 ⟨Nat.le_of_ble_eq_true rfl, Nat.le_of_ble_eq_true rfl⟩ (by decide) rfl rfl (q_lt hs (by decide)) hF rfl (Nat.le_of_ble_eq_true rfl) ?_
              refine t_ifb_ne C 51 (by decide) dX6_readOne_43 (fun c43 => ?_) (fun c43 => ?_)
              · first
                | (exfalso; omega)
                |  (refine r_aload_n C rfl rfl dX6_readOne_51 ?_
                    refine r_callV C su kv_X6_number kn_X6_number rfl dX6_readOne_52 cl_X6_253 ⟨Nat.le_of_ble_eq_true rfl, Nat.le_of_ble_eq_true rfl⟩ (by decide) rfl rfl (q_lt hs (by decide)) hF rfl (Nat.le_of_ble_eq_true rfl) ?_
                    refine r_istore_n C rfl (Nat.le_of_ble_eq_true rfl) dX6_readOne_55 ?_
                    refine r_aload_n C rfl rfl dX6_readOne_56 ?_
                    refine r_aload_n C rfl rfl dX6_readOne_57 ?_
                    refine r_getI C dX6_readOne_58 fl_X6_218 rfl (q_lt hs (by decide)) ?_
                    refine r_iconstv C 3 rfl dX6_readOne_61 ?_
                    refine t_icmp_ne C 69 (by decide) mt.2.1 (show (3 : Int32).toInt = 3 from rfl) dX6_readOne_62 (fun c62 => ?_) (fun c62 => ?_)
                    · first
                      | (exfalso; omega)
                      |  (refine r_iconstv C 0 rfl dX6_readOne_69 ?_
                          refine r_callV C (sp_tk0 G hs _ (rfl) hf) kv_X6_take kn_X6_take rfl dX6_readOne_70 cl_X6_249 ⟨Nat.le_of_ble_eq_true rfl, Nat.le_of_ble_eq_true rfl⟩ (by decide) rfl rfl (q_lt hs (by decide)) hF rfl (Nat.le_of_ble_eq_true rfl) ?_
                          exact (rs73 G hsb tpb hq mtb hfb).2 p l e R s m args below meth c n0 nF C hF)
                    · first
                      | (exfalso; omega)
                      |  (refine r_iconstv C 1 rfl dX6_readOne_65 ?_
                          refine r_goto C 70 (by decide) dX6_readOne_66 ?_
                          refine r_callV C (sp_tk0 G hs _ (rfl) hf) kv_X6_take kn_X6_take rfl dX6_readOne_70 cl_X6_249 ⟨Nat.le_of_ble_eq_true rfl, Nat.le_of_ble_eq_true rfl⟩ (by decide) rfl rfl (q_lt hs (by decide)) hF rfl (Nat.le_of_ble_eq_true rfl) ?_
                          exact (rs73 G hsb tpb hq mtb hfb).2 p l e R s m args below meth c n0 nF C hF))
              · first
                | (exfalso; omega)
                |  (refine r_aload_n C rfl rfl dX6_readOne_46 ?_
                    refine r_iconstv C 2 rfl dX6_readOne_47 ?_
                    refine r_callV C (absurd trivial hf) kv_X6_bad kn_X6_bad rfl dX6_readOne_48 cl_X6_236 ⟨Nat.le_of_ble_eq_true rfl, Nat.le_of_ble_eq_true rfl⟩ (by decide) rfl rfl (q_lt hs (by decide)) hF rfl (Nat.le_of_ble_eq_true rfl) ?_
                    refine r_aload_n C rfl rfl dX6_readOne_51 ?_
                    refine r_callV C su kv_X6_number kn_X6_number rfl dX6_readOne_52 cl_X6_253 ⟨Nat.le_of_ble_eq_true rfl, Nat.le_of_ble_eq_true rfl⟩ (by decide) rfl rfl (q_lt hs (by decide)) hF rfl (Nat.le_of_ble_eq_true rfl) ?_
                    refine r_istore_n C rfl (Nat.le_of_ble_eq_true rfl) dX6_readOne_55 ?_
                    refine r_aload_n C rfl rfl dX6_readOne_56 ?_
                    refine r_aload_n C rfl rfl dX6_readOne_57 ?_
                    refine r_getI C dX6_readOne_58 fl_X6_218 rfl (q_lt hs (by decide)) ?_
                    refine r_iconstv C 3 rfl dX6_readOne_61 ?_
                    refine t_icmp_ne C 69 (by decide) mt.2.1 (show (3 : Int32).toInt = 3 from rfl) dX6_readOne_62 (fun c62 => ?_) (fun c62 => ?_)
                    · first
                      | (exfalso; omega)
                      |  (refine r_iconstv C 0 rfl dX6_readOne_69 ?_
                          refine r_callV C (sp_tk0 G hs _ (rfl) hf) kv_X6_take kn_X6_take rfl dX6_readOne_70 cl_X6_249 ⟨Nat.le_of_ble_eq_true rfl, Nat.le_of_ble_eq_true rfl⟩ (by decide) rfl rfl (q_lt hs (by decide)) hF rfl (Nat.le_of_ble_eq_true rfl) ?_
                          exact (rs73 G hsb tpb hq mtb hfb).2 p l e R s m args below meth c n0 nF C hF)
                    · first
                      | (exfalso; omega)
                      |  (refine r_iconstv C 1 rfl dX6_readOne_65 ?_
                          refine r_goto C 70 (by decide) dX6_readOne_66 ?_
                          refine r_callV C (sp_tk0 G hs _ (rfl) hf) kv_X6_take kn_X6_take rfl dX6_readOne_70 cl_X6_249 ⟨Nat.le_of_ble_eq_true rfl, Nat.le_of_ble_eq_true rfl⟩ (by decide) rfl rfl (q_lt hs (by decide)) hF rfl (Nat.le_of_ble_eq_true rfl) ?_
                          exact (rs73 G hsb tpb hq mtb hfb).2 p l e R s m args below meth c n0 nF C hF))))

set_option maxHeartbeats 4000000 in
set_option maxRecDepth 100000 in
theorem s20n (G : oG) {h : oH} (hs : oSh h) {z : Nat} {T : Nat → Int} (tp : tpM h z T) {q : Nat} (hq : q ≤ z) (mt : mT h T z q) (hf : (hI h 12 36).toInt = 0) {l1 l2 l3 l4 l5 l6 : Option Value} {n : Nat} (hn : (hI h 12 1).toInt = (n : Int)) (hn24 : n ≤ 24) (hk : xK T z q = 5) (hv : ¬ xV T z q < n) : tO G 20 [some (.ref 12), l1, l2, l3, l4, l5, l6] h (bdH h 2) := by
  have hsb : oSh (bdH h 2) := hs
  have tpb : tpM (bdH h 2) z T := tp.fr (bdH_o (by omega)) (fun j => bdH_o (by omega))
  have mtb : mT (bdH h 2) T z q := mt.fr (fun y _ _ => bdH_o (by omega))
  have hfb : (hI (bdH h 2) 12 36).toInt ≠ 0 := by rw [bdH_f]; decide
  obtain ⟨vu, su, vu2⟩ := numQ G hs tp hq mt
  have hK := xKR (T := T) hq
  have hvb := xV_b hq hk
  have hvt : (oI (xV T z q)).toInt = xV T z q := oI_t (by omega)
  rw [vu2 hk] at su
  refine ⟨rfl, fun p l e R s m args below meth c n0 nF C hF => ?_⟩
  refine r_aload_n C rfl rfl dX6_readOne_20 ?_
  refine r_getI C dX6_readOne_21 fl_X6_230 rfl (q_lt hs (by decide)) ?_
  refine t_if_ne C 51 (by decide) hf dX6_readOne_24 (fun c24 => ?_) (fun c24 => ?_)
  · first
    | (exfalso; omega)
    |  (first | exact (rs51 G hsb tpb hq mtb hfb).2 p l e R s m args below meth c n0 nF C hF | (exfalso; omega))
  · first
    | (exfalso; omega)
    |  (refine r_aload_n C rfl rfl dX6_readOne_27 ?_
        refine r_getI C dX6_readOne_28 fl_X6_218 rfl (q_lt hs (by decide)) ?_
        refine r_iconstv C 3 rfl dX6_readOne_31 ?_
        refine t_icmp_ne C 51 (by decide) mt.2.1 (show (3 : Int32).toInt = 3 from rfl) dX6_readOne_32 (fun c32 => ?_) (fun c32 => ?_)
        · first
          | (exfalso; omega)
          |  (first | exact (rs51 G hsb tpb hq mtb hfb).2 p l e R s m args below meth c n0 nF C hF | (exfalso; omega))
        · first
          | (exfalso; omega)
          |  (refine r_aload_n C rfl rfl dX6_readOne_35 ?_
              refine r_aload_n C rfl rfl dX6_readOne_36 ?_
              refine r_callV C su kv_X6_number kn_X6_number rfl dX6_readOne_37 cl_X6_253 ⟨Nat.le_of_ble_eq_true rfl, Nat.le_of_ble_eq_true rfl⟩ (by decide) rfl rfl (q_lt hs (by decide)) hF rfl (Nat.le_of_ble_eq_true rfl) ?_
              refine r_callV C (sp_isHouse G hs hn hn24 _) kv_X6_isHouse kn_X6_isHouse rfl dX6_readOne_40 cl_X6_108 ⟨Nat.le_of_ble_eq_true rfl, Nat.le_of_ble_eq_true rfl⟩ (by decide) rfl rfl (q_lt hs (by decide)) hF rfl (Nat.le_of_ble_eq_true rfl) ?_
              refine t_ifb_ne C 51 (by decide) dX6_readOne_43 (fun c43 => ?_) (fun c43 => ?_)
              · first
                | (exfalso; omega)
                |  (first | exact (rs51 G hsb tpb hq mtb hfb).2 p l e R s m args below meth c n0 nF C hF | (exfalso; omega))
              · first
                | (exfalso; omega)
                |  (refine r_aload_n C rfl rfl dX6_readOne_46 ?_
                    refine r_iconstv C 2 rfl dX6_readOne_47 ?_
                    refine r_callV C (sp_bad0 G hs _ hf) kv_X6_bad kn_X6_bad rfl dX6_readOne_48 cl_X6_236 ⟨Nat.le_of_ble_eq_true rfl, Nat.le_of_ble_eq_true rfl⟩ (by decide) rfl rfl (q_lt hs (by decide)) hF rfl (Nat.le_of_ble_eq_true rfl) ?_
                    first | exact (rs51 G hsb tpb hq mtb hfb).2 p l e R s m args below meth c n0 nF C hF | (exfalso; omega))))

set_option maxHeartbeats 4000000 in
set_option maxRecDepth 100000 in
theorem s0 (G : oG) {h : oH} (hs : oSh h) {z : Nat} {T : Nat → Int} (tp : tpM h z T) {q : Nat} (hq : q ≤ z) (mt : mT h T z q) (hf : (hI h 12 36).toInt = 0)  (hk : xK T z q = 1) : ∃ h', mT h' T z (xE T z q) ∧ frK h h' ∧ ∀ hg, tO G 20 [some (.ref 12), none, none, none, none, none, none] h' hg → tO G 0 [some (.ref 12), none, none, none, none, none, none] h hg := by
  obtain ⟨vn, sn, c1, c2, c3, c4⟩ := nameQ G hs tp hq mt
  obtain ⟨h1, sp1, m1, f1⟩ := takeQ G hs tp hq mt hf 1 (by decide)
  have hn1 := f1.1
  refine ⟨h1, m1, f1, fun hg t => ⟨t.1.trans hn1, fun p l e R s m args below meth c n0 nF C hF => ?_⟩⟩
  refine r_aload_n C rfl rfl dX6_readOne_0 ?_
  refine r_aload_n C rfl rfl dX6_readOne_1 ?_
  refine r_callV C sn kv_X6_name kn_X6_name rfl dX6_readOne_2 cl_X6_243 ⟨Nat.le_of_ble_eq_true rfl, Nat.le_of_ble_eq_true rfl⟩ (by decide) rfl rfl (q_lt hs (by decide)) hF rfl (Nat.le_of_ble_eq_true rfl) ?_
  refine r_ldc2 C _ ll_X6_247 dX6_readOne_5 ?_
  refine r_lcmp C dX6_readOne_8 ?_
  refine t_lcmp_ne C 16 (by decide) rfl (show (448546567013 : Int64).toInt = 448546567013 from rfl) dX6_readOne_9 (fun c9 => ?_) (fun c9 => ?_)
  · first
    | (exfalso; omega)
    |  (refine r_iconstv C 0 rfl dX6_readOne_16 ?_
        refine r_callV C sp1 kv_X6_take kn_X6_take rfl dX6_readOne_17 cl_X6_249 ⟨Nat.le_of_ble_eq_true rfl, Nat.le_of_ble_eq_true rfl⟩ (by decide) rfl rfl (q_lt hs (by decide)) (by rw [hn1]; exact hF) rfl (Nat.le_of_ble_eq_true rfl) ?_
        exact t.2 p l e R s m args below meth c n0 nF C (by rw [hn1]; exact hF))
  · first
    | (exfalso; omega)
    |  (refine r_iconstv C 1 rfl dX6_readOne_12 ?_
        refine r_goto C 17 (by decide) dX6_readOne_13 ?_
        refine r_callV C sp1 kv_X6_take kn_X6_take rfl dX6_readOne_17 cl_X6_249 ⟨Nat.le_of_ble_eq_true rfl, Nat.le_of_ble_eq_true rfl⟩ (by decide) rfl rfl (q_lt hs (by decide)) (by rw [hn1]; exact hF) rfl (Nat.le_of_ble_eq_true rfl) ?_
        exact t.2 p l e R s m args below meth c n0 nF C (by rw [hn1]; exact hF))

set_option maxHeartbeats 4000000 in
set_option maxRecDepth 100000 in
theorem s0b (G : oG) {h : oH} (hs : oSh h) {z : Nat} {T : Nat → Int} (tp : tpM h z T) {q : Nat} (hq : q ≤ z) (mt : mT h T z q) (hf : (hI h 12 36).toInt = 0) (hk : xK T z q ≠ 1) : tO G 0 [some (.ref 12), none, none, none, none, none, none] h (bdH h 1) := by
  have hsb : oSh (bdH h 1) := hs
  have tpb : tpM (bdH h 1) z T := tp.fr (bdH_o (by omega)) (fun j => bdH_o (by omega))
  have mtb : mT (bdH h 1) T z q := mt.fr (fun y _ _ => bdH_o (by omega))
  have hfb : (hI (bdH h 1) 12 36).toInt ≠ 0 := by rw [bdH_f]; decide
  obtain ⟨vn, sn, c1, c2, c3, c4⟩ := nameQ G hs tp hq mt
  refine ⟨rfl, fun p l e R s m args below meth c n0 nF C hF => ?_⟩
  refine r_aload_n C rfl rfl dX6_readOne_0 ?_
  refine r_aload_n C rfl rfl dX6_readOne_1 ?_
  refine r_callV C sn kv_X6_name kn_X6_name rfl dX6_readOne_2 cl_X6_243 ⟨Nat.le_of_ble_eq_true rfl, Nat.le_of_ble_eq_true rfl⟩ (by decide) rfl rfl (q_lt hs (by decide)) hF rfl (Nat.le_of_ble_eq_true rfl) ?_
  refine r_ldc2 C _ ll_X6_247 dX6_readOne_5 ?_
  refine r_lcmp C dX6_readOne_8 ?_
  refine t_lcmp_ne C 16 (by decide) rfl (show (448546567013 : Int64).toInt = 448546567013 from rfl) dX6_readOne_9 (fun c9 => ?_) (fun c9 => ?_)
  · first
    | (exfalso; omega)
    |  (refine r_iconstv C 0 rfl dX6_readOne_16 ?_
        refine r_callV C (sp_tk0 G hs _ (rfl) hf) kv_X6_take kn_X6_take rfl dX6_readOne_17 cl_X6_249 ⟨Nat.le_of_ble_eq_true rfl, Nat.le_of_ble_eq_true rfl⟩ (by decide) rfl rfl (q_lt hs (by decide)) hF rfl (Nat.le_of_ble_eq_true rfl) ?_
        exact (rs20 G hsb tpb hq mtb hfb).2 p l e R s m args below meth c n0 nF C hF)
  · first
    | (exfalso; omega)
    |  (refine r_iconstv C 1 rfl dX6_readOne_12 ?_
        refine r_goto C 17 (by decide) dX6_readOne_13 ?_
        refine r_callV C (sp_tk0 G hs _ (rfl) hf) kv_X6_take kn_X6_take rfl dX6_readOne_17 cl_X6_249 ⟨Nat.le_of_ble_eq_true rfl, Nat.le_of_ble_eq_true rfl⟩ (by decide) rfl rfl (q_lt hs (by decide)) hF rfl (Nat.le_of_ble_eq_true rfl) ?_
        exact (rs20 G hsb tpb hq mtb hfb).2 p l e R s m args below meth c n0 nF C hF)

