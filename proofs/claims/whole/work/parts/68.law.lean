/-! the law: its start, its loop -/
set_option maxRecDepth 100000 in
theorem inv0 : Inv q97 0 0 := by
  have hR0 : ∀ q ∈ rfL, hR q97 q.1 q.2.1 = some q.2.2 := by decide +kernel
  have hR1 : ∀ j, j < 24 → hR q97 1 j = none := by decide +kernel
  have hI0 : ∀ a, a < 27 → ∀ k, k < 24 → 19 ≤ a → hI q97 a k = 0 := by decide +kernel
  have h35 : q97.1 = 35 := by decide +kernel
  refine ⟨⟨⟨by rw [h35]; exact Nat.le_refl _, hR0⟩, h35, by decide, fun j hj => by rw [hR1 j hj, if_neg (Nat.not_lt_zero j)], fun i hi => absurd hi (Nat.not_lt_zero i)⟩, ⟨by decide +kernel, by decide +kernel⟩, ⟨⟨by decide +kernel, by decide +kernel, by decide +kernel⟩, ⟨by decide +kernel, by decide +kernel, by decide +kernel⟩, ⟨by decide +kernel, by decide +kernel, by decide +kernel⟩, ⟨by decide +kernel, by decide +kernel, by decide +kernel⟩, ⟨by decide +kernel, by decide +kernel, by decide +kernel⟩, ⟨by decide +kernel, by decide +kernel, by decide +kernel⟩, by decide +kernel, by decide +kernel, by decide +kernel⟩, fun i hi => absurd hi (Nat.not_lt_zero i), ⟨by decide +kernel, 0, by decide, by decide +kernel, by decide +kernel, fun j hj => absurd hj (Nat.not_lt_zero j)⟩, ⟨0, by decide, by decide +kernel, by decide +kernel, fun j hj => absurd hj (Nat.not_lt_zero j)⟩, Or.inl (by decide +kernel), fun a k h1 h2 _ h4 => hI0 a (by omega) k h4 h1⟩
/-! THE CLAIM OUT OF ONE WALK OF THE LAW'S BODY. Your part is whole_start (and what it stands on); all else here is the same for every law, but numbers. -/
def R_law : String := "OilRoundLaw"
def lw_P (b : Addr) (xs : List Int32) (args : Array Value) (s : State) : Prop := args = #[.ref b] ∧ s.IntsAt b xs ∧ xs.length ≤ 3072 ∧ (Jvm.Cond.and given_1 narrow_1).before args s = true
def lw_Q (_ : Array Value) (s : State) (o : Outcome) (t : State) : Prop := o = .returned (some (.int 1)) ∧ Framed s o t [] 600000 7302250
def lw_Z (below : List Frame) (a : Array Value) (s : State) : State → Prop := fun t => ∃ o, t.status = .running ∧ Ended t below o ∧ lw_Q a s o t
/-- the law's own end, with 1 on the stack, nothing written that was there before, its room as the claim has it -/
theorem lw_ret {p : Program} {l : Launch} {e : Env} {s : State} {m : MethodId} {below : List Frame} {meth : Method} {c : Code} {b : Nat} (hx : p.tables.exec = Jvm.exec) (hb : c.code = code) (hr : meth.sig.returnType = ret) (hlocks : meth.locks = false) {pc : Nat} {H : Heap} {ls : Array Slot} (hdg : decode code pc = .ok (.ireturn, 1)) : W p l e room_1 s m #[Value.ref b] below meth c H [] 600000 7302250 (lw_Z below #[Value.ref b] s) (F0 m pc ls [.int 1]) := by
  intro T hT X
  obtain ⟨fs, hret, hrun, hended, hW, hframe⟩ := X.leave (v := some (.int 1)) (hlocks := hlocks) (fun h => by rw [hr] at h; cases h)
  have hmeth' : T.vm.method? m = some meth := X.method'
  refine ⟨T.setFrames fs, ?_, .returned (some (.int 1)), hrun, hended, rfl, ⟨_, rfl⟩, hW, hframe⟩
  jvm_step X.here [X.here.top, hx, hb, hdg, hmeth', hr, ret, narrow_b1]
  (try refine ⟨rfl, ?_⟩); (try refine ⟨rfl, ?_⟩)
  first | (intro acts; rw [hret _ acts rfl rfl rfl]) | rw [hret _ _ rfl rfl rfl]
  exact Steps.refl _
/-- what holds at the law's entry: the machine, the code, the tables' words (any of lw_tbl by 'hts w (by decide +kernel)'), the script of L ints xs at the cell b, what the Statement gives of the start (any of its parts by flat_of_before) -/
def lw_At (p : Program) (s : State) (m : MethodId) (meth : Method) (c : Code) (b L : Nat) (xs : Nat → Int32) : Prop :=
  p.tables.exec = Jvm.exec ∧ c.code = code ∧ meth.sig.returnType = ret ∧ c.maxLocals = 4 ∧ s.vm.findClass R_law = some m.cls ∧ (∀ w ∈ lw_tbl, w.before #[Value.ref b] s = true) ∧ va_X b L xs s s.heap ∧ b < s.heap.size ∧ meth.locks = false ∧ (Jvm.Cond.and given_1 narrow_1).before #[Value.ref b] s = true
section OLAW
variable {G : oG} {M : oM} {p : Program} {l : Launch} {e : Env} {R : Room} {s : State} {m : MethodId} {args : Array Value} {below : List Frame} {meth : Method} {c : Code} {Z : State → Prop} {n0 nF pc : Nat} {L : List (Option Value)} {S : List Value} {h : oH}
theorem oV_5 : oV G (.float (sv 105)) = .ref (G.2.2.2.2 5) := rfl
theorem r_slen (C : oC G M n0 nF p l R s m args meth c) {LL : Nat} {xs : Nat → Int32} {b : Nat} (hX : va_X b LL xs s s.heap) (hb : b < s.heap.size ∧ ¬ G.1 ≤ b) (hv : G.2.2.2.2 5 = b) (hd : decode M.2.1 pc = .ok (.arraylength, 1)) (kk : oS G M p l e R s m args below meth c Z n0 (pc + 1) L (.int (Int32.ofNat LL) :: S) h) : oS G M p l e R s m args below meth c Z n0 pc L (.float (sv 105) :: S) h := fun H locs ls i1 i2 i3 i4 i5 => by
  have k1 := kk H locs ls i1 i2 i3 i4 i5
  rw [List.map_cons, oV_5, hv]
  exact va_slen C.1 C.2.1 hX hb.1 hb.2 i1 hd k1
theorem r_sld (C : oC G M n0 nF p l R s m args meth c) {LL : Nat} {xs : Nat → Int32} {b : Nat} (hX : va_X b LL xs s s.heap) (hb : b < s.heap.size ∧ ¬ G.1 ≤ b) (hv : G.2.2.2.2 5 = b) {i : Int32} (j : Nat) (hi : i.toInt = (j : Int)) (hj : j < LL) (hd : decode M.2.1 pc = .ok (.iaload, 1)) (kk : oS G M p l e R s m args below meth c Z n0 (pc + 1) L (.int (xs j) :: S) h) : oS G M p l e R s m args below meth c Z n0 pc L (.int i :: .float (sv 105) :: S) h := fun H locs ls i1 i2 i3 i4 i5 => by
  have k1 := kk H locs ls i1 i2 i3 i4 i5
  have e0 : i.toNatClampNeg = j := by
    show i.toInt.toNat = j
    omega
  rw [List.map_cons, List.map_cons, oV_5, hv]
  refine va_sld C.1 C.2.1 hX hb.1 hb.2 i1 ?_ hd (by rw [e0]; exact k1)
  intro q
  rcases q with q | q
  · have := Int32.lt_iff_toInt_lt.mp q
    have e1 : (0 : Int32).toInt = 0 := rfl
    omega
  · rw [e0] at q
    omega
end OLAW
abbrev mL (nm : String) : oM := (⟨RL, nm, ""⟩, code, 4, some .boolean, 13, 474)
theorem sl83 : sl 83 ≤ 7302250 := by decide +kernel
theorem Inv.le {h : oH} {n T : Nat} (I : Inv h n T) : h.1 ≤ 83 := by
  have h1 := I.1.2.1
  have h2 := I.1.2.2.1
  omega
theorem r_lawret {G : oG} {nm : String} {p : Program} {l : Launch} {e : Env} {s : State} {m : MethodId} {below : List Frame} {meth : Method} {c : Code} {b pc : Nat} {L : List (Option Value)} {h : oH} (C : oC G (mL nm) 0 83 p l room_1 s m #[Value.ref b] meth c) (hG : G.1 = s.heap.size) (hd : decode code pc = .ok (.ireturn, 1)) (hF : h.1 ≤ 83) : oS G (mL nm) p l e room_1 s m #[Value.ref b] below meth c (lw_Z below #[Value.ref b] s) 0 pc L [.int 1] h := fun H locs ls i1 i2 i3 i4 i5 => by
  have h1 := sl_mono hF
  have h2 := sl83
  refine W.widen (k := 600000) (n := 7302250) (by omega) (by omega) (va_forget (fun q hq => ?_) (lw_ret C.1 C.2.1 C.2.2.1 C.2.2.2.2.2.2.1 hd))
  have := i1.2.2 q hq
  rw [← hG]
  exact this
theorem and31 (x : Int32) : 0 ≤ (x &&& 31).toInt ∧ (x &&& 31).toInt ≤ 31 := by
  have h1 : (x &&& 31).toBitVec.toNat = x.toBitVec.toNat % 32 := by
    rw [Int32.toBitVec_and, BitVec.toNat_and]
    show x.toBitVec.toNat &&& 31 = _
    rw [show (31 : Nat) = 2 ^ 5 - 1 from rfl, Nat.and_two_pow_sub_one_eq_mod]
  have h2 := qN h1 (by omega)
  omega
set_option maxHeartbeats 4000000 in
set_option maxRecDepth 100000 in
theorem lw_house {G : oG} {nm : String} {p : Program} {l : Launch} {e : Env} {s : State} {m : MethodId} {below : List Frame} {meth : Method} {c : Code} {b LL : Nat} {xs : Nat → Int32} (C : oC G (mL nm) 0 83 p l room_1 s m #[Value.ref b] meth c) (hX : va_X b LL xs s s.heap) (hb : b < s.heap.size ∧ ¬ G.1 ≤ b) (hv : G.2.2.2.2 5 = b) {h : oH} {n t : Nat} (I : Inv h n t) {i : Nat} {x3 : Int32} (hx3 : x3.toInt = (i : Int)) (hi : i + 6 ≤ LL) (hL : LL ≤ 3072) (kont : ∀ (h' : oH) (n' : Nat), Inv h' n' (t + 1) → oS G (mL nm) p l e room_1 s m #[Value.ref b] below meth c (lw_Z below #[Value.ref b] s) 0 803 [some (.float (sv 105)), some (.ref 0), some (.ref 12), some (.int x3)] [] h') : oS G (mL nm) p l e room_1 s m #[Value.ref b] below meth c (lw_Z below #[Value.ref b] s) 0 136 [some (.float (sv 105)), some (.ref 0), some (.ref 12), some (.int x3)] [] h := by
  obtain ⟨r, h1, h2, n', q1, q2, I2⟩ := case_house G I (xs (i + 1)) (xs (i + 2)) (xs (i + 3))
  have hs := I.1.1
  have l1 := q1.1
  have l2 := q2.1
  have hF2 := I2.le
  have h12 : 12 < h1.1 := Nat.lt_of_lt_of_le (q_lt hs (by decide)) l1
  refine r_aload_n C rfl rfl dL_law_136 ?_
  refine r_aload_n C rfl rfl dL_law_137 ?_
  refine r_iload_n C rfl dL_law_138 ?_
  refine r_iconstv C 1 rfl dL_law_139 ?_
  refine r_iadd C dL_law_140 ?_
  refine r_sld C hX hb hv (i + 1) (by have t := (tA hx3 (show (1 : Int32).toInt = 1 from rfl) (by omega)); omega) (by omega) dL_law_141 ?_
  refine r_aload_n C rfl rfl dL_law_142 ?_
  refine r_iload_n C rfl dL_law_143 ?_
  refine r_iconstv C 2 rfl dL_law_144 ?_
  refine r_iadd C dL_law_145 ?_
  refine r_sld C hX hb hv (i + 2) (by have t := (tA hx3 (show (2 : Int32).toInt = 2 from rfl) (by omega)); omega) (by omega) dL_law_146 ?_
  refine r_aload_n C rfl rfl dL_law_147 ?_
  refine r_iload_n C rfl dL_law_148 ?_
  refine r_iconstv C 3 rfl dL_law_149 ?_
  refine r_iadd C dL_law_150 ?_
  refine r_sld C hX hb hv (i + 3) (by have t := (tA hx3 (show (3 : Int32).toInt = 3 from rfl) (by omega)); omega) (by omega) dL_law_151 ?_
  refine r_callV C q1 kv_X5_house kn_X5_house rfl dL_law_152 cl_L_13 ⟨Nat.le_of_ble_eq_true rfl, Nat.le_of_ble_eq_true rfl⟩ (by decide) rfl rfl (q_lt hs (by decide)) (Nat.le_trans l2 hF2) rfl (Nat.le_of_ble_eq_true rfl) ?_
  refine r_aload_n C rfl rfl dL_law_155 ?_
  refine r_aload_n C rfl rfl dL_law_156 ?_
  refine r_iload_n C rfl dL_law_157 ?_
  refine r_iconstv C 1 rfl dL_law_158 ?_
  refine r_iadd C dL_law_159 ?_
  refine r_sld C hX hb hv (i + 1) (by have t := (tA hx3 (show (1 : Int32).toInt = 1 from rfl) (by omega)); omega) (by omega) dL_law_160 ?_
  refine r_aload_n C rfl rfl dL_law_161 ?_
  refine r_iload_n C rfl dL_law_162 ?_
  refine r_iconstv C 2 rfl dL_law_163 ?_
  refine r_iadd C dL_law_164 ?_
  refine r_sld C hX hb hv (i + 2) (by have t := (tA hx3 (show (2 : Int32).toInt = 2 from rfl) (by omega)); omega) (by omega) dL_law_165 ?_
  refine r_aload_n C rfl rfl dL_law_166 ?_
  refine r_iload_n C rfl dL_law_167 ?_
  refine r_iconstv C 3 rfl dL_law_168 ?_
  refine r_iadd C dL_law_169 ?_
  refine r_sld C hX hb hv (i + 3) (by have t := (tA hx3 (show (3 : Int32).toInt = 3 from rfl) (by omega)); omega) (by omega) dL_law_170 ?_
  refine r_callV C q2 kv_X6_house kn_X6_house rfl dL_law_171 cl_L_17 ⟨Nat.le_of_ble_eq_true rfl, Nat.le_of_ble_eq_true rfl⟩ (by decide) rfl rfl h12 hF2 rfl (Nat.le_of_ble_eq_true rfl) ?_
  refine t_icmp_eq C 803 (by decide) rfl rfl dL_law_174 (fun c174 => ?_) (fun c174 => absurd rfl c174)
  exact kont _ _ I2

set_option maxHeartbeats 4000000 in
set_option maxRecDepth 100000 in
theorem lw_prior {G : oG} {nm : String} {p : Program} {l : Launch} {e : Env} {s : State} {m : MethodId} {below : List Frame} {meth : Method} {c : Code} {b LL : Nat} {xs : Nat → Int32} (C : oC G (mL nm) 0 83 p l room_1 s m #[Value.ref b] meth c) (hX : va_X b LL xs s s.heap) (hb : b < s.heap.size ∧ ¬ G.1 ≤ b) (hv : G.2.2.2.2 5 = b) {h : oH} {n t : Nat} (I : Inv h n t) {i : Nat} {x3 : Int32} (hx3 : x3.toInt = (i : Int)) (hi : i + 6 ≤ LL) (hL : LL ≤ 3072) (kont : ∀ (h' : oH) (n' : Nat), Inv h' n' (t + 1) → oS G (mL nm) p l e room_1 s m #[Value.ref b] below meth c (lw_Z below #[Value.ref b] s) 0 803 [some (.float (sv 105)), some (.ref 0), some (.ref 12), some (.int x3)] [] h') : oS G (mL nm) p l e room_1 s m #[Value.ref b] below meth c (lw_Z below #[Value.ref b] s) 0 179 [some (.float (sv 105)), some (.ref 0), some (.ref 12), some (.int x3)] [] h := by
  obtain ⟨r, h1, h2, n', q1, q2, I2⟩ := case_prior G I (xs (i + 1)) (xs (i + 2)) (xs (i + 3)) (xs (i + 4)) (xs (i + 5))
  have hs := I.1.1
  have l1 := q1.1
  have l2 := q2.1
  have hF2 := I2.le
  have h12 : 12 < h1.1 := Nat.lt_of_lt_of_le (q_lt hs (by decide)) l1
  refine r_aload_n C rfl rfl dL_law_179 ?_
  refine r_aload_n C rfl rfl dL_law_180 ?_
  refine r_iload_n C rfl dL_law_181 ?_
  refine r_iconstv C 1 rfl dL_law_182 ?_
  refine r_iadd C dL_law_183 ?_
  refine r_sld C hX hb hv (i + 1) (by have t := (tA hx3 (show (1 : Int32).toInt = 1 from rfl) (by omega)); omega) (by omega) dL_law_184 ?_
  refine r_aload_n C rfl rfl dL_law_185 ?_
  refine r_iload_n C rfl dL_law_186 ?_
  refine r_iconstv C 2 rfl dL_law_187 ?_
  refine r_iadd C dL_law_188 ?_
  refine r_sld C hX hb hv (i + 2) (by have t := (tA hx3 (show (2 : Int32).toInt = 2 from rfl) (by omega)); omega) (by omega) dL_law_189 ?_
  refine r_aload_n C rfl rfl dL_law_190 ?_
  refine r_iload_n C rfl dL_law_191 ?_
  refine r_iconstv C 3 rfl dL_law_192 ?_
  refine r_iadd C dL_law_193 ?_
  refine r_sld C hX hb hv (i + 3) (by have t := (tA hx3 (show (3 : Int32).toInt = 3 from rfl) (by omega)); omega) (by omega) dL_law_194 ?_
  refine r_aload_n C rfl rfl dL_law_195 ?_
  refine r_iload_n C rfl dL_law_196 ?_
  refine r_iconstv C 4 rfl dL_law_197 ?_
  refine r_iadd C dL_law_198 ?_
  refine r_sld C hX hb hv (i + 4) (by have t := (tA hx3 (show (4 : Int32).toInt = 4 from rfl) (by omega)); omega) (by omega) dL_law_199 ?_
  refine r_aload_n C rfl rfl dL_law_200 ?_
  refine r_iload_n C rfl dL_law_201 ?_
  refine r_iconstv C 5 rfl dL_law_202 ?_
  refine r_iadd C dL_law_203 ?_
  refine r_sld C hX hb hv (i + 5) (by have t := (tA hx3 (show (5 : Int32).toInt = 5 from rfl) (by omega)); omega) (by omega) dL_law_204 ?_
  refine r_callV C q1 kv_X5_prior kn_X5_prior rfl dL_law_205 cl_L_18 ⟨Nat.le_of_ble_eq_true rfl, Nat.le_of_ble_eq_true rfl⟩ (by decide) rfl rfl (q_lt hs (by decide)) (Nat.le_trans l2 hF2) rfl (Nat.le_of_ble_eq_true rfl) ?_
  refine r_aload_n C rfl rfl dL_law_208 ?_
  refine r_aload_n C rfl rfl dL_law_209 ?_
  refine r_iload_n C rfl dL_law_210 ?_
  refine r_iconstv C 1 rfl dL_law_211 ?_
  refine r_iadd C dL_law_212 ?_
  refine r_sld C hX hb hv (i + 1) (by have t := (tA hx3 (show (1 : Int32).toInt = 1 from rfl) (by omega)); omega) (by omega) dL_law_213 ?_
  refine r_aload_n C rfl rfl dL_law_214 ?_
  refine r_iload_n C rfl dL_law_215 ?_
  refine r_iconstv C 2 rfl dL_law_216 ?_
  refine r_iadd C dL_law_217 ?_
  refine r_sld C hX hb hv (i + 2) (by have t := (tA hx3 (show (2 : Int32).toInt = 2 from rfl) (by omega)); omega) (by omega) dL_law_218 ?_
  refine r_aload_n C rfl rfl dL_law_219 ?_
  refine r_iload_n C rfl dL_law_220 ?_
  refine r_iconstv C 3 rfl dL_law_221 ?_
  refine r_iadd C dL_law_222 ?_
  refine r_sld C hX hb hv (i + 3) (by have t := (tA hx3 (show (3 : Int32).toInt = 3 from rfl) (by omega)); omega) (by omega) dL_law_223 ?_
  refine r_aload_n C rfl rfl dL_law_224 ?_
  refine r_iload_n C rfl dL_law_225 ?_
  refine r_iconstv C 4 rfl dL_law_226 ?_
  refine r_iadd C dL_law_227 ?_
  refine r_sld C hX hb hv (i + 4) (by have t := (tA hx3 (show (4 : Int32).toInt = 4 from rfl) (by omega)); omega) (by omega) dL_law_228 ?_
  refine r_aload_n C rfl rfl dL_law_229 ?_
  refine r_iload_n C rfl dL_law_230 ?_
  refine r_iconstv C 5 rfl dL_law_231 ?_
  refine r_iadd C dL_law_232 ?_
  refine r_sld C hX hb hv (i + 5) (by have t := (tA hx3 (show (5 : Int32).toInt = 5 from rfl) (by omega)); omega) (by omega) dL_law_233 ?_
  refine r_callV C q2 kv_X6_prior kn_X6_prior rfl dL_law_234 cl_L_22 ⟨Nat.le_of_ble_eq_true rfl, Nat.le_of_ble_eq_true rfl⟩ (by decide) rfl rfl h12 hF2 rfl (Nat.le_of_ble_eq_true rfl) ?_
  refine t_icmp_eq C 803 (by decide) rfl rfl dL_law_237 (fun c237 => ?_) (fun c237 => absurd rfl c237)
  exact kont _ _ I2

set_option maxHeartbeats 4000000 in
set_option maxRecDepth 100000 in
theorem lw_day {G : oG} {nm : String} {p : Program} {l : Launch} {e : Env} {s : State} {m : MethodId} {below : List Frame} {meth : Method} {c : Code} {b LL : Nat} {xs : Nat → Int32} (C : oC G (mL nm) 0 83 p l room_1 s m #[Value.ref b] meth c) (hX : va_X b LL xs s s.heap) (hb : b < s.heap.size ∧ ¬ G.1 ≤ b) (hv : G.2.2.2.2 5 = b) {h : oH} {n t : Nat} (I : Inv h n t) (hT : t ≤ 600) {i : Nat} {x3 : Int32} (hx3 : x3.toInt = (i : Int)) (hi : i + 6 ≤ LL) (hL : LL ≤ 3072) (kont : ∀ (h' : oH) (n' : Nat), Inv h' n' (t + 1) → oS G (mL nm) p l e room_1 s m #[Value.ref b] below meth c (lw_Z below #[Value.ref b] s) 0 803 [some (.float (sv 105)), some (.ref 0), some (.ref 12), some (.int x3)] [] h') : oS G (mL nm) p l e room_1 s m #[Value.ref b] below meth c (lw_Z below #[Value.ref b] s) 0 242 [some (.float (sv 105)), some (.ref 0), some (.ref 12), some (.int x3)] [] h := by
  obtain ⟨r, h1, h2, n', q1, q2, I2⟩ := case_day G I hT (xs (i + 1))
  have hs := I.1.1
  have l1 := q1.1
  have l2 := q2.1
  have hF2 := I2.le
  have h12 : 12 < h1.1 := Nat.lt_of_lt_of_le (q_lt hs (by decide)) l1
  refine r_aload_n C rfl rfl dL_law_242 ?_
  refine r_aload_n C rfl rfl dL_law_243 ?_
  refine r_iload_n C rfl dL_law_244 ?_
  refine r_iconstv C 1 rfl dL_law_245 ?_
  refine r_iadd C dL_law_246 ?_
  refine r_sld C hX hb hv (i + 1) (by have t := (tA hx3 (show (1 : Int32).toInt = 1 from rfl) (by omega)); omega) (by omega) dL_law_247 ?_
  refine r_callV C q1 kv_X5_day kn_X5_day rfl dL_law_248 cl_L_23 ⟨Nat.le_of_ble_eq_true rfl, Nat.le_of_ble_eq_true rfl⟩ (by decide) rfl rfl (q_lt hs (by decide)) (Nat.le_trans l2 hF2) rfl (Nat.le_of_ble_eq_true rfl) ?_
  refine r_aload_n C rfl rfl dL_law_251 ?_
  refine r_aload_n C rfl rfl dL_law_252 ?_
  refine r_iload_n C rfl dL_law_253 ?_
  refine r_iconstv C 1 rfl dL_law_254 ?_
  refine r_iadd C dL_law_255 ?_
  refine r_sld C hX hb hv (i + 1) (by have t := (tA hx3 (show (1 : Int32).toInt = 1 from rfl) (by omega)); omega) (by omega) dL_law_256 ?_
  refine r_callV C q2 kv_X6_day kn_X6_day rfl dL_law_257 cl_L_27 ⟨Nat.le_of_ble_eq_true rfl, Nat.le_of_ble_eq_true rfl⟩ (by decide) rfl rfl h12 hF2 rfl (Nat.le_of_ble_eq_true rfl) ?_
  refine t_icmp_eq C 803 (by decide) rfl rfl dL_law_260 (fun c260 => ?_) (fun c260 => absurd rfl c260)
  exact kont _ _ I2

set_option maxHeartbeats 4000000 in
set_option maxRecDepth 100000 in
theorem lw_look {G : oG} {nm : String} {p : Program} {l : Launch} {e : Env} {s : State} {m : MethodId} {below : List Frame} {meth : Method} {c : Code} {b LL : Nat} {xs : Nat → Int32} (C : oC G (mL nm) 0 83 p l room_1 s m #[Value.ref b] meth c) (hX : va_X b LL xs s s.heap) (hb : b < s.heap.size ∧ ¬ G.1 ≤ b) (hv : G.2.2.2.2 5 = b) {h : oH} {n t : Nat} (I : Inv h n t) {i : Nat} {x3 : Int32} (hx3 : x3.toInt = (i : Int)) (hi : i + 6 ≤ LL) (hL : LL ≤ 3072) (kont : ∀ (h' : oH) (n' : Nat), Inv h' n' (t + 1) → oS G (mL nm) p l e room_1 s m #[Value.ref b] below meth c (lw_Z below #[Value.ref b] s) 0 803 [some (.float (sv 105)), some (.ref 0), some (.ref 12), some (.int x3)] [] h') : oS G (mL nm) p l e room_1 s m #[Value.ref b] below meth c (lw_Z below #[Value.ref b] s) 0 265 [some (.float (sv 105)), some (.ref 0), some (.ref 12), some (.int x3)] [] h := by
  obtain ⟨r, h1, h2, n', q1, q2, I2⟩ := case_look G I (xs (i + 1)) (xs (i + 2))
  have hs := I.1.1
  have l1 := q1.1
  have l2 := q2.1
  have hF2 := I2.le
  have h12 : 12 < h1.1 := Nat.lt_of_lt_of_le (q_lt hs (by decide)) l1
  refine r_aload_n C rfl rfl dL_law_265 ?_
  refine r_aload_n C rfl rfl dL_law_266 ?_
  refine r_iload_n C rfl dL_law_267 ?_
  refine r_iconstv C 1 rfl dL_law_268 ?_
  refine r_iadd C dL_law_269 ?_
  refine r_sld C hX hb hv (i + 1) (by have t := (tA hx3 (show (1 : Int32).toInt = 1 from rfl) (by omega)); omega) (by omega) dL_law_270 ?_
  refine r_aload_n C rfl rfl dL_law_271 ?_
  refine r_iload_n C rfl dL_law_272 ?_
  refine r_iconstv C 2 rfl dL_law_273 ?_
  refine r_iadd C dL_law_274 ?_
  refine r_sld C hX hb hv (i + 2) (by have t := (tA hx3 (show (2 : Int32).toInt = 2 from rfl) (by omega)); omega) (by omega) dL_law_275 ?_
  refine r_callV C q1 kv_X5_look kn_X5_look rfl dL_law_276 cl_L_28 ⟨Nat.le_of_ble_eq_true rfl, Nat.le_of_ble_eq_true rfl⟩ (by decide) rfl rfl (q_lt hs (by decide)) (Nat.le_trans l2 hF2) rfl (Nat.le_of_ble_eq_true rfl) ?_
  refine r_aload_n C rfl rfl dL_law_279 ?_
  refine r_aload_n C rfl rfl dL_law_280 ?_
  refine r_iload_n C rfl dL_law_281 ?_
  refine r_iconstv C 1 rfl dL_law_282 ?_
  refine r_iadd C dL_law_283 ?_
  refine r_sld C hX hb hv (i + 1) (by have t := (tA hx3 (show (1 : Int32).toInt = 1 from rfl) (by omega)); omega) (by omega) dL_law_284 ?_
  refine r_aload_n C rfl rfl dL_law_285 ?_
  refine r_iload_n C rfl dL_law_286 ?_
  refine r_iconstv C 2 rfl dL_law_287 ?_
  refine r_iadd C dL_law_288 ?_
  refine r_sld C hX hb hv (i + 2) (by have t := (tA hx3 (show (2 : Int32).toInt = 2 from rfl) (by omega)); omega) (by omega) dL_law_289 ?_
  refine r_callV C q2 kv_X6_look kn_X6_look rfl dL_law_290 cl_L_32 ⟨Nat.le_of_ble_eq_true rfl, Nat.le_of_ble_eq_true rfl⟩ (by decide) rfl rfl h12 hF2 rfl (Nat.le_of_ble_eq_true rfl) ?_
  refine t_icmp_eq C 803 (by decide) rfl rfl dL_law_293 (fun c293 => ?_) (fun c293 => absurd rfl c293)
  exact kont _ _ I2

set_option maxHeartbeats 4000000 in
set_option maxRecDepth 100000 in
theorem lw_told {G : oG} {nm : String} {p : Program} {l : Launch} {e : Env} {s : State} {m : MethodId} {below : List Frame} {meth : Method} {c : Code} {b LL : Nat} {xs : Nat → Int32} (C : oC G (mL nm) 0 83 p l room_1 s m #[Value.ref b] meth c) (hX : va_X b LL xs s s.heap) (hb : b < s.heap.size ∧ ¬ G.1 ≤ b) (hv : G.2.2.2.2 5 = b) {h : oH} {n t : Nat} (I : Inv h n t) {i : Nat} {x3 : Int32} (hx3 : x3.toInt = (i : Int)) (hi : i + 6 ≤ LL) (hL : LL ≤ 3072) (kont : ∀ (h' : oH) (n' : Nat), Inv h' n' (t + 1) → oS G (mL nm) p l e room_1 s m #[Value.ref b] below meth c (lw_Z below #[Value.ref b] s) 0 803 [some (.float (sv 105)), some (.ref 0), some (.ref 12), some (.int x3)] [] h') : oS G (mL nm) p l e room_1 s m #[Value.ref b] below meth c (lw_Z below #[Value.ref b] s) 0 298 [some (.float (sv 105)), some (.ref 0), some (.ref 12), some (.int x3)] [] h := by
  obtain ⟨r, h1, h2, n', q1, q2, I2⟩ := case_told G I (xs (i + 1)) (xs (i + 2))
  have hs := I.1.1
  have l1 := q1.1
  have l2 := q2.1
  have hF2 := I2.le
  have h12 : 12 < h1.1 := Nat.lt_of_lt_of_le (q_lt hs (by decide)) l1
  refine r_aload_n C rfl rfl dL_law_298 ?_
  refine r_aload_n C rfl rfl dL_law_299 ?_
  refine r_iload_n C rfl dL_law_300 ?_
  refine r_iconstv C 1 rfl dL_law_301 ?_
  refine r_iadd C dL_law_302 ?_
  refine r_sld C hX hb hv (i + 1) (by have t := (tA hx3 (show (1 : Int32).toInt = 1 from rfl) (by omega)); omega) (by omega) dL_law_303 ?_
  refine r_aload_n C rfl rfl dL_law_304 ?_
  refine r_iload_n C rfl dL_law_305 ?_
  refine r_iconstv C 2 rfl dL_law_306 ?_
  refine r_iadd C dL_law_307 ?_
  refine r_sld C hX hb hv (i + 2) (by have t := (tA hx3 (show (2 : Int32).toInt = 2 from rfl) (by omega)); omega) (by omega) dL_law_308 ?_
  refine r_callV C q1 kv_X5_told kn_X5_told rfl dL_law_309 cl_L_33 ⟨Nat.le_of_ble_eq_true rfl, Nat.le_of_ble_eq_true rfl⟩ (by decide) rfl rfl (q_lt hs (by decide)) (Nat.le_trans l2 hF2) rfl (Nat.le_of_ble_eq_true rfl) ?_
  refine r_aload_n C rfl rfl dL_law_312 ?_
  refine r_aload_n C rfl rfl dL_law_313 ?_
  refine r_iload_n C rfl dL_law_314 ?_
  refine r_iconstv C 1 rfl dL_law_315 ?_
  refine r_iadd C dL_law_316 ?_
  refine r_sld C hX hb hv (i + 1) (by have t := (tA hx3 (show (1 : Int32).toInt = 1 from rfl) (by omega)); omega) (by omega) dL_law_317 ?_
  refine r_aload_n C rfl rfl dL_law_318 ?_
  refine r_iload_n C rfl dL_law_319 ?_
  refine r_iconstv C 2 rfl dL_law_320 ?_
  refine r_iadd C dL_law_321 ?_
  refine r_sld C hX hb hv (i + 2) (by have t := (tA hx3 (show (2 : Int32).toInt = 2 from rfl) (by omega)); omega) (by omega) dL_law_322 ?_
  refine r_callV C q2 kv_X6_told kn_X6_told rfl dL_law_323 cl_L_36 ⟨Nat.le_of_ble_eq_true rfl, Nat.le_of_ble_eq_true rfl⟩ (by decide) rfl rfl h12 hF2 rfl (Nat.le_of_ble_eq_true rfl) ?_
  refine t_icmp_eq C 803 (by decide) rfl rfl dL_law_326 (fun c326 => ?_) (fun c326 => absurd rfl c326)
  exact kont _ _ I2

set_option maxHeartbeats 4000000 in
set_option maxRecDepth 100000 in
theorem lw_lasts {G : oG} {nm : String} {p : Program} {l : Launch} {e : Env} {s : State} {m : MethodId} {below : List Frame} {meth : Method} {c : Code} {b LL : Nat} {xs : Nat → Int32} (C : oC G (mL nm) 0 83 p l room_1 s m #[Value.ref b] meth c) (hX : va_X b LL xs s s.heap) (hb : b < s.heap.size ∧ ¬ G.1 ≤ b) (hv : G.2.2.2.2 5 = b) {h : oH} {n t : Nat} (I : Inv h n t) {i : Nat} {x3 : Int32} (hx3 : x3.toInt = (i : Int)) (hi : i + 6 ≤ LL) (hL : LL ≤ 3072) (kont : ∀ (h' : oH) (n' : Nat), Inv h' n' (t + 1) → oS G (mL nm) p l e room_1 s m #[Value.ref b] below meth c (lw_Z below #[Value.ref b] s) 0 803 [some (.float (sv 105)), some (.ref 0), some (.ref 12), some (.int x3)] [] h') : oS G (mL nm) p l e room_1 s m #[Value.ref b] below meth c (lw_Z below #[Value.ref b] s) 0 331 [some (.float (sv 105)), some (.ref 0), some (.ref 12), some (.int x3)] [] h := by
  obtain ⟨r, h1, h2, n', q1, q2, I2⟩ := case_lasts G I (xs (i + 1)) (xs (i + 2))
  have hs := I.1.1
  have l1 := q1.1
  have l2 := q2.1
  have hF2 := I2.le
  have h12 : 12 < h1.1 := Nat.lt_of_lt_of_le (q_lt hs (by decide)) l1
  refine r_aload_n C rfl rfl dL_law_331 ?_
  refine r_aload_n C rfl rfl dL_law_332 ?_
  refine r_iload_n C rfl dL_law_333 ?_
  refine r_iconstv C 1 rfl dL_law_334 ?_
  refine r_iadd C dL_law_335 ?_
  refine r_sld C hX hb hv (i + 1) (by have t := (tA hx3 (show (1 : Int32).toInt = 1 from rfl) (by omega)); omega) (by omega) dL_law_336 ?_
  refine r_aload_n C rfl rfl dL_law_337 ?_
  refine r_iload_n C rfl dL_law_338 ?_
  refine r_iconstv C 2 rfl dL_law_339 ?_
  refine r_iadd C dL_law_340 ?_
  refine r_sld C hX hb hv (i + 2) (by have t := (tA hx3 (show (2 : Int32).toInt = 2 from rfl) (by omega)); omega) (by omega) dL_law_341 ?_
  refine r_callV C q1 kv_X5_lasts kn_X5_lasts rfl dL_law_342 cl_L_37 ⟨Nat.le_of_ble_eq_true rfl, Nat.le_of_ble_eq_true rfl⟩ (by decide) rfl rfl (q_lt hs (by decide)) (Nat.le_trans l2 hF2) rfl (Nat.le_of_ble_eq_true rfl) ?_
  refine r_aload_n C rfl rfl dL_law_345 ?_
  refine r_aload_n C rfl rfl dL_law_346 ?_
  refine r_iload_n C rfl dL_law_347 ?_
  refine r_iconstv C 1 rfl dL_law_348 ?_
  refine r_iadd C dL_law_349 ?_
  refine r_sld C hX hb hv (i + 1) (by have t := (tA hx3 (show (1 : Int32).toInt = 1 from rfl) (by omega)); omega) (by omega) dL_law_350 ?_
  refine r_aload_n C rfl rfl dL_law_351 ?_
  refine r_iload_n C rfl dL_law_352 ?_
  refine r_iconstv C 2 rfl dL_law_353 ?_
  refine r_iadd C dL_law_354 ?_
  refine r_sld C hX hb hv (i + 2) (by have t := (tA hx3 (show (2 : Int32).toInt = 2 from rfl) (by omega)); omega) (by omega) dL_law_355 ?_
  refine r_callV C q2 kv_X6_lasts kn_X6_lasts rfl dL_law_356 cl_L_40 ⟨Nat.le_of_ble_eq_true rfl, Nat.le_of_ble_eq_true rfl⟩ (by decide) rfl rfl h12 hF2 rfl (Nat.le_of_ble_eq_true rfl) ?_
  refine t_icmp_eq C 803 (by decide) rfl rfl dL_law_359 (fun c359 => ?_) (fun c359 => absurd rfl c359)
  exact kont _ _ I2

set_option maxHeartbeats 4000000 in
set_option maxRecDepth 100000 in
theorem lw_stock {G : oG} {nm : String} {p : Program} {l : Launch} {e : Env} {s : State} {m : MethodId} {below : List Frame} {meth : Method} {c : Code} {b LL : Nat} {xs : Nat → Int32} (C : oC G (mL nm) 0 83 p l room_1 s m #[Value.ref b] meth c) (hX : va_X b LL xs s s.heap) (hb : b < s.heap.size ∧ ¬ G.1 ≤ b) (hv : G.2.2.2.2 5 = b) {h : oH} {n t : Nat} (I : Inv h n t) {i : Nat} {x3 : Int32} (hx3 : x3.toInt = (i : Int)) (hi : i + 6 ≤ LL) (hL : LL ≤ 3072) (kont : ∀ (h' : oH) (n' : Nat), Inv h' n' (t + 1) → oS G (mL nm) p l e room_1 s m #[Value.ref b] below meth c (lw_Z below #[Value.ref b] s) 0 803 [some (.float (sv 105)), some (.ref 0), some (.ref 12), some (.int x3)] [] h') : oS G (mL nm) p l e room_1 s m #[Value.ref b] below meth c (lw_Z below #[Value.ref b] s) 0 364 [some (.float (sv 105)), some (.ref 0), some (.ref 12), some (.int x3)] [] h := by
  obtain ⟨r, h1, h2, n', q1, q2, I2⟩ := case_stock G I (xs (i + 1))
  have hs := I.1.1
  have l1 := q1.1
  have l2 := q2.1
  have hF2 := I2.le
  have h12 : 12 < h1.1 := Nat.lt_of_lt_of_le (q_lt hs (by decide)) l1
  refine r_aload_n C rfl rfl dL_law_364 ?_
  refine r_aload_n C rfl rfl dL_law_365 ?_
  refine r_iload_n C rfl dL_law_366 ?_
  refine r_iconstv C 1 rfl dL_law_367 ?_
  refine r_iadd C dL_law_368 ?_
  refine r_sld C hX hb hv (i + 1) (by have t := (tA hx3 (show (1 : Int32).toInt = 1 from rfl) (by omega)); omega) (by omega) dL_law_369 ?_
  refine r_callV C q1 kv_X5_stock kn_X5_stock rfl dL_law_370 cl_L_41 ⟨Nat.le_of_ble_eq_true rfl, Nat.le_of_ble_eq_true rfl⟩ (by decide) rfl rfl (q_lt hs (by decide)) (Nat.le_trans l2 hF2) rfl (Nat.le_of_ble_eq_true rfl) ?_
  refine r_aload_n C rfl rfl dL_law_373 ?_
  refine r_aload_n C rfl rfl dL_law_374 ?_
  refine r_iload_n C rfl dL_law_375 ?_
  refine r_iconstv C 1 rfl dL_law_376 ?_
  refine r_iadd C dL_law_377 ?_
  refine r_sld C hX hb hv (i + 1) (by have t := (tA hx3 (show (1 : Int32).toInt = 1 from rfl) (by omega)); omega) (by omega) dL_law_378 ?_
  refine r_callV C q2 kv_X6_stock kn_X6_stock rfl dL_law_379 cl_L_44 ⟨Nat.le_of_ble_eq_true rfl, Nat.le_of_ble_eq_true rfl⟩ (by decide) rfl rfl h12 hF2 rfl (Nat.le_of_ble_eq_true rfl) ?_
  refine t_icmp_eq C 803 (by decide) rfl rfl dL_law_382 (fun c382 => ?_) (fun c382 => absurd rfl c382)
  exact kont _ _ I2

set_option maxHeartbeats 4000000 in
set_option maxRecDepth 100000 in
theorem lw_lorry {G : oG} {nm : String} {p : Program} {l : Launch} {e : Env} {s : State} {m : MethodId} {below : List Frame} {meth : Method} {c : Code} {b LL : Nat} {xs : Nat → Int32} (C : oC G (mL nm) 0 83 p l room_1 s m #[Value.ref b] meth c) (hX : va_X b LL xs s s.heap) (hb : b < s.heap.size ∧ ¬ G.1 ≤ b) (hv : G.2.2.2.2 5 = b) {h : oH} {n t : Nat} (I : Inv h n t) {i : Nat} {x3 : Int32} (hx3 : x3.toInt = (i : Int)) (hi : i + 6 ≤ LL) (hL : LL ≤ 3072) (kont : ∀ (h' : oH) (n' : Nat), Inv h' n' (t + 1) → oS G (mL nm) p l e room_1 s m #[Value.ref b] below meth c (lw_Z below #[Value.ref b] s) 0 803 [some (.float (sv 105)), some (.ref 0), some (.ref 12), some (.int x3)] [] h') : oS G (mL nm) p l e room_1 s m #[Value.ref b] below meth c (lw_Z below #[Value.ref b] s) 0 387 [some (.float (sv 105)), some (.ref 0), some (.ref 12), some (.int x3)] [] h := by
  obtain ⟨r, h1, h2, n', q1, q2, I2⟩ := case_lorry G I (xs (i + 1))
  have hs := I.1.1
  have l1 := q1.1
  have l2 := q2.1
  have hF2 := I2.le
  have h12 : 12 < h1.1 := Nat.lt_of_lt_of_le (q_lt hs (by decide)) l1
  refine r_aload_n C rfl rfl dL_law_387 ?_
  refine r_aload_n C rfl rfl dL_law_388 ?_
  refine r_iload_n C rfl dL_law_389 ?_
  refine r_iconstv C 1 rfl dL_law_390 ?_
  refine r_iadd C dL_law_391 ?_
  refine r_sld C hX hb hv (i + 1) (by have t := (tA hx3 (show (1 : Int32).toInt = 1 from rfl) (by omega)); omega) (by omega) dL_law_392 ?_
  refine r_callV C q1 kv_X5_lorry kn_X5_lorry rfl dL_law_393 cl_L_45 ⟨Nat.le_of_ble_eq_true rfl, Nat.le_of_ble_eq_true rfl⟩ (by decide) rfl rfl (q_lt hs (by decide)) (Nat.le_trans l2 hF2) rfl (Nat.le_of_ble_eq_true rfl) ?_
  refine r_aload_n C rfl rfl dL_law_396 ?_
  refine r_aload_n C rfl rfl dL_law_397 ?_
  refine r_iload_n C rfl dL_law_398 ?_
  refine r_iconstv C 1 rfl dL_law_399 ?_
  refine r_iadd C dL_law_400 ?_
  refine r_sld C hX hb hv (i + 1) (by have t := (tA hx3 (show (1 : Int32).toInt = 1 from rfl) (by omega)); omega) (by omega) dL_law_401 ?_
  refine r_callV C q2 kv_X6_lorry kn_X6_lorry rfl dL_law_402 cl_L_48 ⟨Nat.le_of_ble_eq_true rfl, Nat.le_of_ble_eq_true rfl⟩ (by decide) rfl rfl h12 hF2 rfl (Nat.le_of_ble_eq_true rfl) ?_
  refine t_icmp_eq C 803 (by decide) rfl rfl dL_law_405 (fun c405 => ?_) (fun c405 => absurd rfl c405)
  exact kont _ _ I2

set_option maxHeartbeats 4000000 in
set_option maxRecDepth 100000 in
theorem lw_calls {G : oG} {nm : String} {p : Program} {l : Launch} {e : Env} {s : State} {m : MethodId} {below : List Frame} {meth : Method} {c : Code} {b LL : Nat} {xs : Nat → Int32} (C : oC G (mL nm) 0 83 p l room_1 s m #[Value.ref b] meth c) (hX : va_X b LL xs s s.heap) (hb : b < s.heap.size ∧ ¬ G.1 ≤ b) (hv : G.2.2.2.2 5 = b) {h : oH} {n t : Nat} (I : Inv h n t) {i : Nat} {x3 : Int32} (hx3 : x3.toInt = (i : Int)) (hi : i + 6 ≤ LL) (hL : LL ≤ 3072) (kont : ∀ (h' : oH) (n' : Nat), Inv h' n' (t + 1) → oS G (mL nm) p l e room_1 s m #[Value.ref b] below meth c (lw_Z below #[Value.ref b] s) 0 803 [some (.float (sv 105)), some (.ref 0), some (.ref 12), some (.int x3)] [] h') : oS G (mL nm) p l e room_1 s m #[Value.ref b] below meth c (lw_Z below #[Value.ref b] s) 0 410 [some (.float (sv 105)), some (.ref 0), some (.ref 12), some (.int x3)] [] h := by
  obtain ⟨r, h1, h2, n', q1, q2, I2⟩ := case_calls G I 
  have hs := I.1.1
  have l1 := q1.1
  have l2 := q2.1
  have hF2 := I2.le
  have h12 : 12 < h1.1 := Nat.lt_of_lt_of_le (q_lt hs (by decide)) l1
  refine r_aload_n C rfl rfl dL_law_410 ?_
  refine r_callV C q1 kv_X5_calls kn_X5_calls rfl dL_law_411 cl_L_49 ⟨Nat.le_of_ble_eq_true rfl, Nat.le_of_ble_eq_true rfl⟩ (by decide) rfl rfl (q_lt hs (by decide)) (Nat.le_trans l2 hF2) rfl (Nat.le_of_ble_eq_true rfl) ?_
  refine r_aload_n C rfl rfl dL_law_414 ?_
  refine r_callV C q2 kv_X6_calls kn_X6_calls rfl dL_law_415 cl_L_53 ⟨Nat.le_of_ble_eq_true rfl, Nat.le_of_ble_eq_true rfl⟩ (by decide) rfl rfl h12 hF2 rfl (Nat.le_of_ble_eq_true rfl) ?_
  refine t_icmp_eq C 803 (by decide) rfl rfl dL_law_418 (fun c418 => ?_) (fun c418 => absurd rfl c418)
  exact kont _ _ I2

set_option maxHeartbeats 4000000 in
set_option maxRecDepth 100000 in
theorem lw_round {G : oG} {nm : String} {p : Program} {l : Launch} {e : Env} {s : State} {m : MethodId} {below : List Frame} {meth : Method} {c : Code} {b LL : Nat} {xs : Nat → Int32} (C : oC G (mL nm) 0 83 p l room_1 s m #[Value.ref b] meth c) (hX : va_X b LL xs s s.heap) (hb : b < s.heap.size ∧ ¬ G.1 ≤ b) (hv : G.2.2.2.2 5 = b) {h : oH} {n t : Nat} (I : Inv h n t) {i : Nat} {x3 : Int32} (hx3 : x3.toInt = (i : Int)) (hi : i + 6 ≤ LL) (hL : LL ≤ 3072) (kont : ∀ (h' : oH) (n' : Nat), Inv h' n' (t + 1) → oS G (mL nm) p l e room_1 s m #[Value.ref b] below meth c (lw_Z below #[Value.ref b] s) 0 803 [some (.float (sv 105)), some (.ref 0), some (.ref 12), some (.int x3)] [] h') : oS G (mL nm) p l e room_1 s m #[Value.ref b] below meth c (lw_Z below #[Value.ref b] s) 0 423 [some (.float (sv 105)), some (.ref 0), some (.ref 12), some (.int x3)] [] h := by
  obtain ⟨r, h1, h2, n', q1, q2, I2⟩ := case_round G I (xs (i + 1)) (xs (i + 2))
  have hs := I.1.1
  have l1 := q1.1
  have l2 := q2.1
  have hF2 := I2.le
  have h12 : 12 < h1.1 := Nat.lt_of_lt_of_le (q_lt hs (by decide)) l1
  refine r_aload_n C rfl rfl dL_law_423 ?_
  refine r_aload_n C rfl rfl dL_law_424 ?_
  refine r_iload_n C rfl dL_law_425 ?_
  refine r_iconstv C 1 rfl dL_law_426 ?_
  refine r_iadd C dL_law_427 ?_
  refine r_sld C hX hb hv (i + 1) (by have t := (tA hx3 (show (1 : Int32).toInt = 1 from rfl) (by omega)); omega) (by omega) dL_law_428 ?_
  refine r_aload_n C rfl rfl dL_law_429 ?_
  refine r_iload_n C rfl dL_law_430 ?_
  refine r_iconstv C 2 rfl dL_law_431 ?_
  refine r_iadd C dL_law_432 ?_
  refine r_sld C hX hb hv (i + 2) (by have t := (tA hx3 (show (2 : Int32).toInt = 2 from rfl) (by omega)); omega) (by omega) dL_law_433 ?_
  refine r_callV C q1 kv_X5_round kn_X5_round rfl dL_law_434 cl_L_54 ⟨Nat.le_of_ble_eq_true rfl, Nat.le_of_ble_eq_true rfl⟩ (by decide) rfl rfl (q_lt hs (by decide)) (Nat.le_trans l2 hF2) rfl (Nat.le_of_ble_eq_true rfl) ?_
  refine r_aload_n C rfl rfl dL_law_437 ?_
  refine r_aload_n C rfl rfl dL_law_438 ?_
  refine r_iload_n C rfl dL_law_439 ?_
  refine r_iconstv C 1 rfl dL_law_440 ?_
  refine r_iadd C dL_law_441 ?_
  refine r_sld C hX hb hv (i + 1) (by have t := (tA hx3 (show (1 : Int32).toInt = 1 from rfl) (by omega)); omega) (by omega) dL_law_442 ?_
  refine r_aload_n C rfl rfl dL_law_443 ?_
  refine r_iload_n C rfl dL_law_444 ?_
  refine r_iconstv C 2 rfl dL_law_445 ?_
  refine r_iadd C dL_law_446 ?_
  refine r_sld C hX hb hv (i + 2) (by have t := (tA hx3 (show (2 : Int32).toInt = 2 from rfl) (by omega)); omega) (by omega) dL_law_447 ?_
  refine r_callV C q2 kv_X6_round kn_X6_round rfl dL_law_448 cl_L_57 ⟨Nat.le_of_ble_eq_true rfl, Nat.le_of_ble_eq_true rfl⟩ (by decide) rfl rfl h12 hF2 rfl (Nat.le_of_ble_eq_true rfl) ?_
  refine t_icmp_eq C 803 (by decide) rfl rfl dL_law_451 (fun c451 => ?_) (fun c451 => absurd rfl c451)
  exact kont _ _ I2

set_option maxHeartbeats 4000000 in
set_option maxRecDepth 100000 in
theorem lw_stop {G : oG} {nm : String} {p : Program} {l : Launch} {e : Env} {s : State} {m : MethodId} {below : List Frame} {meth : Method} {c : Code} {b LL : Nat} {xs : Nat → Int32} (C : oC G (mL nm) 0 83 p l room_1 s m #[Value.ref b] meth c) (hX : va_X b LL xs s s.heap) (hb : b < s.heap.size ∧ ¬ G.1 ≤ b) (hv : G.2.2.2.2 5 = b) {h : oH} {n t : Nat} (I : Inv h n t) {i : Nat} {x3 : Int32} (hx3 : x3.toInt = (i : Int)) (hi : i + 6 ≤ LL) (hL : LL ≤ 3072) (kont : ∀ (h' : oH) (n' : Nat), Inv h' n' (t + 1) → oS G (mL nm) p l e room_1 s m #[Value.ref b] below meth c (lw_Z below #[Value.ref b] s) 0 803 [some (.float (sv 105)), some (.ref 0), some (.ref 12), some (.int x3)] [] h') : oS G (mL nm) p l e room_1 s m #[Value.ref b] below meth c (lw_Z below #[Value.ref b] s) 0 456 [some (.float (sv 105)), some (.ref 0), some (.ref 12), some (.int x3)] [] h := by
  obtain ⟨r, h1, h2, n', q1, q2, I2⟩ := case_stop G I (xs (i + 1)) (xs (i + 2))
  have hs := I.1.1
  have l1 := q1.1
  have l2 := q2.1
  have hF2 := I2.le
  have h12 : 12 < h1.1 := Nat.lt_of_lt_of_le (q_lt hs (by decide)) l1
  refine r_aload_n C rfl rfl dL_law_456 ?_
  refine r_aload_n C rfl rfl dL_law_457 ?_
  refine r_iload_n C rfl dL_law_458 ?_
  refine r_iconstv C 1 rfl dL_law_459 ?_
  refine r_iadd C dL_law_460 ?_
  refine r_sld C hX hb hv (i + 1) (by have t := (tA hx3 (show (1 : Int32).toInt = 1 from rfl) (by omega)); omega) (by omega) dL_law_461 ?_
  refine r_aload_n C rfl rfl dL_law_462 ?_
  refine r_iload_n C rfl dL_law_463 ?_
  refine r_iconstv C 2 rfl dL_law_464 ?_
  refine r_iadd C dL_law_465 ?_
  refine r_sld C hX hb hv (i + 2) (by have t := (tA hx3 (show (2 : Int32).toInt = 2 from rfl) (by omega)); omega) (by omega) dL_law_466 ?_
  refine r_callV C q1 kv_X5_stop kn_X5_stop rfl dL_law_467 cl_L_58 ⟨Nat.le_of_ble_eq_true rfl, Nat.le_of_ble_eq_true rfl⟩ (by decide) rfl rfl (q_lt hs (by decide)) (Nat.le_trans l2 hF2) rfl (Nat.le_of_ble_eq_true rfl) ?_
  refine r_aload_n C rfl rfl dL_law_470 ?_
  refine r_aload_n C rfl rfl dL_law_471 ?_
  refine r_iload_n C rfl dL_law_472 ?_
  refine r_iconstv C 1 rfl dL_law_473 ?_
  refine r_iadd C dL_law_474 ?_
  refine r_sld C hX hb hv (i + 1) (by have t := (tA hx3 (show (1 : Int32).toInt = 1 from rfl) (by omega)); omega) (by omega) dL_law_475 ?_
  refine r_aload_n C rfl rfl dL_law_476 ?_
  refine r_iload_n C rfl dL_law_477 ?_
  refine r_iconstv C 2 rfl dL_law_478 ?_
  refine r_iadd C dL_law_479 ?_
  refine r_sld C hX hb hv (i + 2) (by have t := (tA hx3 (show (2 : Int32).toInt = 2 from rfl) (by omega)); omega) (by omega) dL_law_480 ?_
  refine r_callV C q2 kv_X6_stop kn_X6_stop rfl dL_law_481 cl_L_61 ⟨Nat.le_of_ble_eq_true rfl, Nat.le_of_ble_eq_true rfl⟩ (by decide) rfl rfl h12 hF2 rfl (Nat.le_of_ble_eq_true rfl) ?_
  refine t_icmp_eq C 803 (by decide) rfl rfl dL_law_484 (fun c484 => ?_) (fun c484 => absurd rfl c484)
  exact kont _ _ I2

set_option maxHeartbeats 4000000 in
set_option maxRecDepth 100000 in
theorem lw_fill {G : oG} {nm : String} {p : Program} {l : Launch} {e : Env} {s : State} {m : MethodId} {below : List Frame} {meth : Method} {c : Code} {b LL : Nat} {xs : Nat → Int32} (C : oC G (mL nm) 0 83 p l room_1 s m #[Value.ref b] meth c) (hX : va_X b LL xs s s.heap) (hb : b < s.heap.size ∧ ¬ G.1 ≤ b) (hv : G.2.2.2.2 5 = b) {h : oH} {n t : Nat} (I : Inv h n t) (hT : t ≤ 600) {i : Nat} {x3 : Int32} (hx3 : x3.toInt = (i : Int)) (hi : i + 6 ≤ LL) (hL : LL ≤ 3072) (kont : ∀ (h' : oH) (n' : Nat), Inv h' n' (t + 1) → oS G (mL nm) p l e room_1 s m #[Value.ref b] below meth c (lw_Z below #[Value.ref b] s) 0 803 [some (.float (sv 105)), some (.ref 0), some (.ref 12), some (.int x3)] [] h') : oS G (mL nm) p l e room_1 s m #[Value.ref b] below meth c (lw_Z below #[Value.ref b] s) 0 489 [some (.float (sv 105)), some (.ref 0), some (.ref 12), some (.int x3)] [] h := by
  obtain ⟨r, h1, h2, n', q1, q2, I2⟩ := case_fill G I hT (xs (i + 1)) (xs (i + 2))
  have hs := I.1.1
  have l1 := q1.1
  have l2 := q2.1
  have hF2 := I2.le
  have h12 : 12 < h1.1 := Nat.lt_of_lt_of_le (q_lt hs (by decide)) l1
  refine r_aload_n C rfl rfl dL_law_489 ?_
  refine r_aload_n C rfl rfl dL_law_490 ?_
  refine r_iload_n C rfl dL_law_491 ?_
  refine r_iconstv C 1 rfl dL_law_492 ?_
  refine r_iadd C dL_law_493 ?_
  refine r_sld C hX hb hv (i + 1) (by have t := (tA hx3 (show (1 : Int32).toInt = 1 from rfl) (by omega)); omega) (by omega) dL_law_494 ?_
  refine r_aload_n C rfl rfl dL_law_495 ?_
  refine r_iload_n C rfl dL_law_496 ?_
  refine r_iconstv C 2 rfl dL_law_497 ?_
  refine r_iadd C dL_law_498 ?_
  refine r_sld C hX hb hv (i + 2) (by have t := (tA hx3 (show (2 : Int32).toInt = 2 from rfl) (by omega)); omega) (by omega) dL_law_499 ?_
  refine r_callV C q1 kv_X5_fill kn_X5_fill rfl dL_law_500 cl_L_62 ⟨Nat.le_of_ble_eq_true rfl, Nat.le_of_ble_eq_true rfl⟩ (by decide) rfl rfl (q_lt hs (by decide)) (Nat.le_trans l2 hF2) rfl (Nat.le_of_ble_eq_true rfl) ?_
  refine r_aload_n C rfl rfl dL_law_503 ?_
  refine r_aload_n C rfl rfl dL_law_504 ?_
  refine r_iload_n C rfl dL_law_505 ?_
  refine r_iconstv C 1 rfl dL_law_506 ?_
  refine r_iadd C dL_law_507 ?_
  refine r_sld C hX hb hv (i + 1) (by have t := (tA hx3 (show (1 : Int32).toInt = 1 from rfl) (by omega)); omega) (by omega) dL_law_508 ?_
  refine r_aload_n C rfl rfl dL_law_509 ?_
  refine r_iload_n C rfl dL_law_510 ?_
  refine r_iconstv C 2 rfl dL_law_511 ?_
  refine r_iadd C dL_law_512 ?_
  refine r_sld C hX hb hv (i + 2) (by have t := (tA hx3 (show (2 : Int32).toInt = 2 from rfl) (by omega)); omega) (by omega) dL_law_513 ?_
  refine r_callV C q2 kv_X6_fill kn_X6_fill rfl dL_law_514 cl_L_65 ⟨Nat.le_of_ble_eq_true rfl, Nat.le_of_ble_eq_true rfl⟩ (by decide) rfl rfl h12 hF2 rfl (Nat.le_of_ble_eq_true rfl) ?_
  refine t_icmp_eq C 803 (by decide) rfl rfl dL_law_517 (fun c517 => ?_) (fun c517 => absurd rfl c517)
  exact kont _ _ I2

set_option maxHeartbeats 4000000 in
set_option maxRecDepth 100000 in
theorem lw_price {G : oG} {nm : String} {p : Program} {l : Launch} {e : Env} {s : State} {m : MethodId} {below : List Frame} {meth : Method} {c : Code} {b LL : Nat} {xs : Nat → Int32} (C : oC G (mL nm) 0 83 p l room_1 s m #[Value.ref b] meth c) (hX : va_X b LL xs s s.heap) (hb : b < s.heap.size ∧ ¬ G.1 ≤ b) (hv : G.2.2.2.2 5 = b) {h : oH} {n t : Nat} (I : Inv h n t) {i : Nat} {x3 : Int32} (hx3 : x3.toInt = (i : Int)) (hi : i + 6 ≤ LL) (hL : LL ≤ 3072) (kont : ∀ (h' : oH) (n' : Nat), Inv h' n' (t + 1) → oS G (mL nm) p l e room_1 s m #[Value.ref b] below meth c (lw_Z below #[Value.ref b] s) 0 803 [some (.float (sv 105)), some (.ref 0), some (.ref 12), some (.int x3)] [] h') : oS G (mL nm) p l e room_1 s m #[Value.ref b] below meth c (lw_Z below #[Value.ref b] s) 0 522 [some (.float (sv 105)), some (.ref 0), some (.ref 12), some (.int x3)] [] h := by
  obtain ⟨r, h1, h2, n', q1, q2, I2⟩ := case_price G I (xs (i + 1))
  have hs := I.1.1
  have l1 := q1.1
  have l2 := q2.1
  have hF2 := I2.le
  have h12 : 12 < h1.1 := Nat.lt_of_lt_of_le (q_lt hs (by decide)) l1
  refine r_aload_n C rfl rfl dL_law_522 ?_
  refine r_aload_n C rfl rfl dL_law_523 ?_
  refine r_iload_n C rfl dL_law_524 ?_
  refine r_iconstv C 1 rfl dL_law_525 ?_
  refine r_iadd C dL_law_526 ?_
  refine r_sld C hX hb hv (i + 1) (by have t := (tA hx3 (show (1 : Int32).toInt = 1 from rfl) (by omega)); omega) (by omega) dL_law_527 ?_
  refine r_callV C q1 kv_X5_price kn_X5_price rfl dL_law_528 cl_L_66 ⟨Nat.le_of_ble_eq_true rfl, Nat.le_of_ble_eq_true rfl⟩ (by decide) rfl rfl (q_lt hs (by decide)) (Nat.le_trans l2 hF2) rfl (Nat.le_of_ble_eq_true rfl) ?_
  refine r_aload_n C rfl rfl dL_law_531 ?_
  refine r_aload_n C rfl rfl dL_law_532 ?_
  refine r_iload_n C rfl dL_law_533 ?_
  refine r_iconstv C 1 rfl dL_law_534 ?_
  refine r_iadd C dL_law_535 ?_
  refine r_sld C hX hb hv (i + 1) (by have t := (tA hx3 (show (1 : Int32).toInt = 1 from rfl) (by omega)); omega) (by omega) dL_law_536 ?_
  refine r_callV C q2 kv_X6_price kn_X6_price rfl dL_law_537 cl_L_69 ⟨Nat.le_of_ble_eq_true rfl, Nat.le_of_ble_eq_true rfl⟩ (by decide) rfl rfl h12 hF2 rfl (Nat.le_of_ble_eq_true rfl) ?_
  refine t_icmp_eq C 803 (by decide) rfl rfl dL_law_540 (fun c540 => ?_) (fun c540 => absurd rfl c540)
  exact kont _ _ I2

set_option maxHeartbeats 4000000 in
set_option maxRecDepth 100000 in
theorem lw_feed {G : oG} {nm : String} {p : Program} {l : Launch} {e : Env} {s : State} {m : MethodId} {below : List Frame} {meth : Method} {c : Code} {b LL : Nat} {xs : Nat → Int32} (C : oC G (mL nm) 0 83 p l room_1 s m #[Value.ref b] meth c) (hX : va_X b LL xs s s.heap) (hb : b < s.heap.size ∧ ¬ G.1 ≤ b) (hv : G.2.2.2.2 5 = b) {h : oH} {n t : Nat} (I : Inv h n t) {i : Nat} {x3 : Int32} (hx3 : x3.toInt = (i : Int)) (hi : i + 6 ≤ LL) (hL : LL ≤ 3072) (kont : ∀ (h' : oH) (n' : Nat), Inv h' n' (t + 1) → oS G (mL nm) p l e room_1 s m #[Value.ref b] below meth c (lw_Z below #[Value.ref b] s) 0 803 [some (.float (sv 105)), some (.ref 0), some (.ref 12), some (.int x3)] [] h') : oS G (mL nm) p l e room_1 s m #[Value.ref b] below meth c (lw_Z below #[Value.ref b] s) 0 545 [some (.float (sv 105)), some (.ref 0), some (.ref 12), some (.int x3)] [] h := by
  obtain ⟨r, h1, h2, n', q1, q2, I2⟩ := case_feed G I (((xs (i + 1)).toInt64 <<< ((32 : Int32).toInt64 &&& 63)) ||| ((xs (i + 2)).toInt64 &&& 4294967295)) (xs (i + 3))
  have hs := I.1.1
  have l1 := q1.1
  have l2 := q2.1
  have hF2 := I2.le
  have h12 : 12 < h1.1 := Nat.lt_of_lt_of_le (q_lt hs (by decide)) l1
  refine r_aload_n C rfl rfl dL_law_545 ?_
  refine r_aload_n C rfl rfl dL_law_546 ?_
  refine r_iload_n C rfl dL_law_547 ?_
  refine r_iconstv C 1 rfl dL_law_548 ?_
  refine r_iadd C dL_law_549 ?_
  refine r_sld C hX hb hv (i + 1) (by have t := (tA hx3 (show (1 : Int32).toInt = 1 from rfl) (by omega)); omega) (by omega) dL_law_550 ?_
  refine r_i2l C dL_law_551 ?_
  refine r_bipush C 32 rfl dL_law_552 ?_
  refine r_lshl C dL_law_554 ?_
  refine r_aload_n C rfl rfl dL_law_555 ?_
  refine r_iload_n C rfl dL_law_556 ?_
  refine r_iconstv C 2 rfl dL_law_557 ?_
  refine r_iadd C dL_law_558 ?_
  refine r_sld C hX hb hv (i + 2) (by have t := (tA hx3 (show (2 : Int32).toInt = 2 from rfl) (by omega)); omega) (by omega) dL_law_559 ?_
  refine r_i2l C dL_law_560 ?_
  refine r_ldc2 C _ ll_L_70 dL_law_561 ?_
  refine r_land C dL_law_564 ?_
  refine r_lor C dL_law_565 ?_
  refine r_aload_n C rfl rfl dL_law_566 ?_
  refine r_iload_n C rfl dL_law_567 ?_
  refine r_iconstv C 3 rfl dL_law_568 ?_
  refine r_iadd C dL_law_569 ?_
  refine r_sld C hX hb hv (i + 3) (by have t := (tA hx3 (show (3 : Int32).toInt = 3 from rfl) (by omega)); omega) (by omega) dL_law_570 ?_
  refine r_callV C q1 kv_X5_feed kn_X5_feed rfl dL_law_571 cl_L_72 ⟨Nat.le_of_ble_eq_true rfl, Nat.le_of_ble_eq_true rfl⟩ (by decide) rfl rfl (q_lt hs (by decide)) (Nat.le_trans l2 hF2) rfl (Nat.le_of_ble_eq_true rfl) ?_
  refine r_aload_n C rfl rfl dL_law_574 ?_
  refine r_aload_n C rfl rfl dL_law_575 ?_
  refine r_iload_n C rfl dL_law_576 ?_
  refine r_iconstv C 1 rfl dL_law_577 ?_
  refine r_iadd C dL_law_578 ?_
  refine r_sld C hX hb hv (i + 1) (by have t := (tA hx3 (show (1 : Int32).toInt = 1 from rfl) (by omega)); omega) (by omega) dL_law_579 ?_
  refine r_i2l C dL_law_580 ?_
  refine r_bipush C 32 rfl dL_law_581 ?_
  refine r_lshl C dL_law_583 ?_
  refine r_aload_n C rfl rfl dL_law_584 ?_
  refine r_iload_n C rfl dL_law_585 ?_
  refine r_iconstv C 2 rfl dL_law_586 ?_
  refine r_iadd C dL_law_587 ?_
  refine r_sld C hX hb hv (i + 2) (by have t := (tA hx3 (show (2 : Int32).toInt = 2 from rfl) (by omega)); omega) (by omega) dL_law_588 ?_
  refine r_i2l C dL_law_589 ?_
  refine r_ldc2 C _ ll_L_70 dL_law_590 ?_
  refine r_land C dL_law_593 ?_
  refine r_lor C dL_law_594 ?_
  refine r_aload_n C rfl rfl dL_law_595 ?_
  refine r_iload_n C rfl dL_law_596 ?_
  refine r_iconstv C 3 rfl dL_law_597 ?_
  refine r_iadd C dL_law_598 ?_
  refine r_sld C hX hb hv (i + 3) (by have t := (tA hx3 (show (3 : Int32).toInt = 3 from rfl) (by omega)); omega) (by omega) dL_law_599 ?_
  refine r_callV C q2 kv_X6_feed kn_X6_feed rfl dL_law_600 cl_L_76 ⟨Nat.le_of_ble_eq_true rfl, Nat.le_of_ble_eq_true rfl⟩ (by decide) rfl rfl h12 hF2 rfl (Nat.le_of_ble_eq_true rfl) ?_
  refine t_icmp_eq C 803 (by decide) rfl rfl dL_law_603 (fun c603 => ?_) (fun c603 => absurd rfl c603)
  exact kont _ _ I2

set_option maxHeartbeats 4000000 in
set_option maxRecDepth 100000 in
theorem lw_plans {G : oG} {nm : String} {p : Program} {l : Launch} {e : Env} {s : State} {m : MethodId} {below : List Frame} {meth : Method} {c : Code} {b LL : Nat} {xs : Nat → Int32} (C : oC G (mL nm) 0 83 p l room_1 s m #[Value.ref b] meth c) (hX : va_X b LL xs s s.heap) (hb : b < s.heap.size ∧ ¬ G.1 ≤ b) (hv : G.2.2.2.2 5 = b) {h : oH} {n t : Nat} (I : Inv h n t) {i : Nat} {x3 : Int32} (hx3 : x3.toInt = (i : Int)) (hi : i + 6 ≤ LL) (hL : LL ≤ 3072) (kont : ∀ (h' : oH) (n' : Nat), Inv h' n' (t + 1) → oS G (mL nm) p l e room_1 s m #[Value.ref b] below meth c (lw_Z below #[Value.ref b] s) 0 803 [some (.float (sv 105)), some (.ref 0), some (.ref 12), some (.int x3)] [] h') : oS G (mL nm) p l e room_1 s m #[Value.ref b] below meth c (lw_Z below #[Value.ref b] s) 0 608 [some (.float (sv 105)), some (.ref 0), some (.ref 12), some (.int x3)] [] h := by
  obtain ⟨r, h1, h2, n', q1, q2, I2⟩ := case_plans G I 
  have hs := I.1.1
  have l1 := q1.1
  have l2 := q2.1
  have hF2 := I2.le
  have h12 : 12 < h1.1 := Nat.lt_of_lt_of_le (q_lt hs (by decide)) l1
  refine r_aload_n C rfl rfl dL_law_608 ?_
  refine r_callV C q1 kv_X5_plans kn_X5_plans rfl dL_law_609 cl_L_77 ⟨Nat.le_of_ble_eq_true rfl, Nat.le_of_ble_eq_true rfl⟩ (by decide) rfl rfl (q_lt hs (by decide)) (Nat.le_trans l2 hF2) rfl (Nat.le_of_ble_eq_true rfl) ?_
  refine r_aload_n C rfl rfl dL_law_612 ?_
  refine r_callV C q2 kv_X6_plans kn_X6_plans rfl dL_law_613 cl_L_80 ⟨Nat.le_of_ble_eq_true rfl, Nat.le_of_ble_eq_true rfl⟩ (by decide) rfl rfl h12 hF2 rfl (Nat.le_of_ble_eq_true rfl) ?_
  refine t_icmp_eq C 803 (by decide) rfl rfl dL_law_616 (fun c616 => ?_) (fun c616 => absurd rfl c616)
  exact kont _ _ I2

set_option maxHeartbeats 4000000 in
set_option maxRecDepth 100000 in
theorem lw_fault {G : oG} {nm : String} {p : Program} {l : Launch} {e : Env} {s : State} {m : MethodId} {below : List Frame} {meth : Method} {c : Code} {b LL : Nat} {xs : Nat → Int32} (C : oC G (mL nm) 0 83 p l room_1 s m #[Value.ref b] meth c) (hX : va_X b LL xs s s.heap) (hb : b < s.heap.size ∧ ¬ G.1 ≤ b) (hv : G.2.2.2.2 5 = b) {h : oH} {n t : Nat} (I : Inv h n t) {i : Nat} {x3 : Int32} (hx3 : x3.toInt = (i : Int)) (hi : i + 6 ≤ LL) (hL : LL ≤ 3072) (kont : ∀ (h' : oH) (n' : Nat), Inv h' n' (t + 1) → oS G (mL nm) p l e room_1 s m #[Value.ref b] below meth c (lw_Z below #[Value.ref b] s) 0 803 [some (.float (sv 105)), some (.ref 0), some (.ref 12), some (.int x3)] [] h') : oS G (mL nm) p l e room_1 s m #[Value.ref b] below meth c (lw_Z below #[Value.ref b] s) 0 621 [some (.float (sv 105)), some (.ref 0), some (.ref 12), some (.int x3)] [] h := by
  obtain ⟨r, h1, h2, n', q1, q2, I2⟩ := case_fault G I 
  have hs := I.1.1
  have l1 := q1.1
  have l2 := q2.1
  have hF2 := I2.le
  have h12 : 12 < h1.1 := Nat.lt_of_lt_of_le (q_lt hs (by decide)) l1
  refine r_aload_n C rfl rfl dL_law_621 ?_
  refine r_callV C q1 kv_X5_fault kn_X5_fault rfl dL_law_622 cl_L_81 ⟨Nat.le_of_ble_eq_true rfl, Nat.le_of_ble_eq_true rfl⟩ (by decide) rfl rfl (q_lt hs (by decide)) (Nat.le_trans l2 hF2) rfl (Nat.le_of_ble_eq_true rfl) ?_
  refine r_aload_n C rfl rfl dL_law_625 ?_
  refine r_callV C q2 kv_X6_fault kn_X6_fault rfl dL_law_626 cl_L_84 ⟨Nat.le_of_ble_eq_true rfl, Nat.le_of_ble_eq_true rfl⟩ (by decide) rfl rfl h12 hF2 rfl (Nat.le_of_ble_eq_true rfl) ?_
  refine t_icmp_eq C 803 (by decide) rfl rfl dL_law_629 (fun c629 => ?_) (fun c629 => absurd rfl c629)
  exact kont _ _ I2

set_option maxHeartbeats 4000000 in
set_option maxRecDepth 100000 in
theorem lw_quote {G : oG} {nm : String} {p : Program} {l : Launch} {e : Env} {s : State} {m : MethodId} {below : List Frame} {meth : Method} {c : Code} {b LL : Nat} {xs : Nat → Int32} (C : oC G (mL nm) 0 83 p l room_1 s m #[Value.ref b] meth c) (hX : va_X b LL xs s s.heap) (hb : b < s.heap.size ∧ ¬ G.1 ≤ b) (hv : G.2.2.2.2 5 = b) {h : oH} {n t : Nat} (I : Inv h n t) {i : Nat} {x3 : Int32} (hx3 : x3.toInt = (i : Int)) (hi : i + 6 ≤ LL) (hL : LL ≤ 3072) (kont : ∀ (h' : oH) (n' : Nat), Inv h' n' (t + 1) → oS G (mL nm) p l e room_1 s m #[Value.ref b] below meth c (lw_Z below #[Value.ref b] s) 0 803 [some (.float (sv 105)), some (.ref 0), some (.ref 12), some (.int x3)] [] h') : oS G (mL nm) p l e room_1 s m #[Value.ref b] below meth c (lw_Z below #[Value.ref b] s) 0 634 [some (.float (sv 105)), some (.ref 0), some (.ref 12), some (.int x3)] [] h := by
  obtain ⟨r, h1, h2, n', q1, q2, I2⟩ := case_quote G I (xs (i + 1)) (xs (i + 2))
  have hs := I.1.1
  have l1 := q1.1
  have l2 := q2.1
  have hF2 := I2.le
  have h12 : 12 < h1.1 := Nat.lt_of_lt_of_le (q_lt hs (by decide)) l1
  refine r_aload_n C rfl rfl dL_law_634 ?_
  refine r_aload_n C rfl rfl dL_law_635 ?_
  refine r_iload_n C rfl dL_law_636 ?_
  refine r_iconstv C 1 rfl dL_law_637 ?_
  refine r_iadd C dL_law_638 ?_
  refine r_sld C hX hb hv (i + 1) (by have t := (tA hx3 (show (1 : Int32).toInt = 1 from rfl) (by omega)); omega) (by omega) dL_law_639 ?_
  refine r_aload_n C rfl rfl dL_law_640 ?_
  refine r_iload_n C rfl dL_law_641 ?_
  refine r_iconstv C 2 rfl dL_law_642 ?_
  refine r_iadd C dL_law_643 ?_
  refine r_sld C hX hb hv (i + 2) (by have t := (tA hx3 (show (2 : Int32).toInt = 2 from rfl) (by omega)); omega) (by omega) dL_law_644 ?_
  refine r_callV C q1 kv_X5_quote kn_X5_quote rfl dL_law_645 cl_L_85 ⟨Nat.le_of_ble_eq_true rfl, Nat.le_of_ble_eq_true rfl⟩ (by decide) rfl rfl (q_lt hs (by decide)) (Nat.le_trans l2 hF2) rfl (Nat.le_of_ble_eq_true rfl) ?_
  refine r_aload_n C rfl rfl dL_law_648 ?_
  refine r_aload_n C rfl rfl dL_law_649 ?_
  refine r_iload_n C rfl dL_law_650 ?_
  refine r_iconstv C 1 rfl dL_law_651 ?_
  refine r_iadd C dL_law_652 ?_
  refine r_sld C hX hb hv (i + 1) (by have t := (tA hx3 (show (1 : Int32).toInt = 1 from rfl) (by omega)); omega) (by omega) dL_law_653 ?_
  refine r_aload_n C rfl rfl dL_law_654 ?_
  refine r_iload_n C rfl dL_law_655 ?_
  refine r_iconstv C 2 rfl dL_law_656 ?_
  refine r_iadd C dL_law_657 ?_
  refine r_sld C hX hb hv (i + 2) (by have t := (tA hx3 (show (2 : Int32).toInt = 2 from rfl) (by omega)); omega) (by omega) dL_law_658 ?_
  refine r_callV C q2 kv_X6_quote kn_X6_quote rfl dL_law_659 cl_L_88 ⟨Nat.le_of_ble_eq_true rfl, Nat.le_of_ble_eq_true rfl⟩ (by decide) rfl rfl h12 hF2 rfl (Nat.le_of_ble_eq_true rfl) ?_
  refine t_icmp_eq C 803 (by decide) rfl rfl dL_law_662 (fun c662 => ?_) (fun c662 => absurd rfl c662)
  exact kont _ _ I2

set_option maxHeartbeats 4000000 in
set_option maxRecDepth 100000 in
theorem lw_kind {G : oG} {nm : String} {p : Program} {l : Launch} {e : Env} {s : State} {m : MethodId} {below : List Frame} {meth : Method} {c : Code} {b LL : Nat} {xs : Nat → Int32} (C : oC G (mL nm) 0 83 p l room_1 s m #[Value.ref b] meth c) (hX : va_X b LL xs s s.heap) (hb : b < s.heap.size ∧ ¬ G.1 ≤ b) (hv : G.2.2.2.2 5 = b) {h : oH} {n t : Nat} (I : Inv h n t) {i : Nat} {x3 : Int32} (hx3 : x3.toInt = (i : Int)) (hi : i + 6 ≤ LL) (hL : LL ≤ 3072) (kont : ∀ (h' : oH) (n' : Nat), Inv h' n' (t + 1) → oS G (mL nm) p l e room_1 s m #[Value.ref b] below meth c (lw_Z below #[Value.ref b] s) 0 803 [some (.float (sv 105)), some (.ref 0), some (.ref 12), some (.int x3)] [] h') : oS G (mL nm) p l e room_1 s m #[Value.ref b] below meth c (lw_Z below #[Value.ref b] s) 0 667 [some (.float (sv 105)), some (.ref 0), some (.ref 12), some (.int x3)] [] h := by
  obtain ⟨r, h1, h2, n', q1, q2, I2⟩ := case_kind G I (xs (i + 1))
  have hs := I.1.1
  have l1 := q1.1
  have l2 := q2.1
  have hF2 := I2.le
  have h12 : 12 < h1.1 := Nat.lt_of_lt_of_le (q_lt hs (by decide)) l1
  refine r_aload_n C rfl rfl dL_law_667 ?_
  refine r_aload_n C rfl rfl dL_law_668 ?_
  refine r_iload_n C rfl dL_law_669 ?_
  refine r_iconstv C 1 rfl dL_law_670 ?_
  refine r_iadd C dL_law_671 ?_
  refine r_sld C hX hb hv (i + 1) (by have t := (tA hx3 (show (1 : Int32).toInt = 1 from rfl) (by omega)); omega) (by omega) dL_law_672 ?_
  refine r_callV C q1 kv_X5_kind kn_X5_kind rfl dL_law_673 cl_L_89 ⟨Nat.le_of_ble_eq_true rfl, Nat.le_of_ble_eq_true rfl⟩ (by decide) rfl rfl (q_lt hs (by decide)) (Nat.le_trans l2 hF2) rfl (Nat.le_of_ble_eq_true rfl) ?_
  refine r_aload_n C rfl rfl dL_law_676 ?_
  refine r_aload_n C rfl rfl dL_law_677 ?_
  refine r_iload_n C rfl dL_law_678 ?_
  refine r_iconstv C 1 rfl dL_law_679 ?_
  refine r_iadd C dL_law_680 ?_
  refine r_sld C hX hb hv (i + 1) (by have t := (tA hx3 (show (1 : Int32).toInt = 1 from rfl) (by omega)); omega) (by omega) dL_law_681 ?_
  refine r_callV C q2 kv_X6_kind kn_X6_kind rfl dL_law_682 cl_L_92 ⟨Nat.le_of_ble_eq_true rfl, Nat.le_of_ble_eq_true rfl⟩ (by decide) rfl rfl h12 hF2 rfl (Nat.le_of_ble_eq_true rfl) ?_
  refine t_icmp_eq C 803 (by decide) rfl rfl dL_law_685 (fun c685 => ?_) (fun c685 => absurd rfl c685)
  exact kont _ _ I2

set_option maxHeartbeats 4000000 in
set_option maxRecDepth 100000 in
theorem lw_as {G : oG} {nm : String} {p : Program} {l : Launch} {e : Env} {s : State} {m : MethodId} {below : List Frame} {meth : Method} {c : Code} {b LL : Nat} {xs : Nat → Int32} (C : oC G (mL nm) 0 83 p l room_1 s m #[Value.ref b] meth c) (hX : va_X b LL xs s s.heap) (hb : b < s.heap.size ∧ ¬ G.1 ≤ b) (hv : G.2.2.2.2 5 = b) {h : oH} {n t : Nat} (I : Inv h n t) {i : Nat} {x3 : Int32} (hx3 : x3.toInt = (i : Int)) (hi : i + 6 ≤ LL) (hL : LL ≤ 3072) (kont : ∀ (h' : oH) (n' : Nat), Inv h' n' (t + 1) → oS G (mL nm) p l e room_1 s m #[Value.ref b] below meth c (lw_Z below #[Value.ref b] s) 0 803 [some (.float (sv 105)), some (.ref 0), some (.ref 12), some (.int x3)] [] h') : oS G (mL nm) p l e room_1 s m #[Value.ref b] below meth c (lw_Z below #[Value.ref b] s) 0 690 [some (.float (sv 105)), some (.ref 0), some (.ref 12), some (.int x3)] [] h := by
  obtain ⟨r, h1, h2, n', q1, q2, I2⟩ := case_as G I (xs (i + 1)) (xs (i + 2))
  have hs := I.1.1
  have l1 := q1.1
  have l2 := q2.1
  have hF2 := I2.le
  have h12 : 12 < h1.1 := Nat.lt_of_lt_of_le (q_lt hs (by decide)) l1
  refine r_aload_n C rfl rfl dL_law_690 ?_
  refine r_aload_n C rfl rfl dL_law_691 ?_
  refine r_iload_n C rfl dL_law_692 ?_
  refine r_iconstv C 1 rfl dL_law_693 ?_
  refine r_iadd C dL_law_694 ?_
  refine r_sld C hX hb hv (i + 1) (by have t := (tA hx3 (show (1 : Int32).toInt = 1 from rfl) (by omega)); omega) (by omega) dL_law_695 ?_
  refine r_aload_n C rfl rfl dL_law_696 ?_
  refine r_iload_n C rfl dL_law_697 ?_
  refine r_iconstv C 2 rfl dL_law_698 ?_
  refine r_iadd C dL_law_699 ?_
  refine r_sld C hX hb hv (i + 2) (by have t := (tA hx3 (show (2 : Int32).toInt = 2 from rfl) (by omega)); omega) (by omega) dL_law_700 ?_
  refine r_callV C q1 kv_X5_as kn_X5_as rfl dL_law_701 cl_L_93 ⟨Nat.le_of_ble_eq_true rfl, Nat.le_of_ble_eq_true rfl⟩ (by decide) rfl rfl (q_lt hs (by decide)) (Nat.le_trans l2 hF2) rfl (Nat.le_of_ble_eq_true rfl) ?_
  refine r_aload_n C rfl rfl dL_law_704 ?_
  refine r_aload_n C rfl rfl dL_law_705 ?_
  refine r_iload_n C rfl dL_law_706 ?_
  refine r_iconstv C 1 rfl dL_law_707 ?_
  refine r_iadd C dL_law_708 ?_
  refine r_sld C hX hb hv (i + 1) (by have t := (tA hx3 (show (1 : Int32).toInt = 1 from rfl) (by omega)); omega) (by omega) dL_law_709 ?_
  refine r_aload_n C rfl rfl dL_law_710 ?_
  refine r_iload_n C rfl dL_law_711 ?_
  refine r_iconstv C 2 rfl dL_law_712 ?_
  refine r_iadd C dL_law_713 ?_
  refine r_sld C hX hb hv (i + 2) (by have t := (tA hx3 (show (2 : Int32).toInt = 2 from rfl) (by omega)); omega) (by omega) dL_law_714 ?_
  refine r_callV C q2 kv_X6_as kn_X6_as rfl dL_law_715 cl_L_96 ⟨Nat.le_of_ble_eq_true rfl, Nat.le_of_ble_eq_true rfl⟩ (by decide) rfl rfl h12 hF2 rfl (Nat.le_of_ble_eq_true rfl) ?_
  refine t_icmp_eq C 803 (by decide) rfl rfl dL_law_718 (fun c718 => ?_) (fun c718 => absurd rfl c718)
  exact kont _ _ I2

set_option maxHeartbeats 4000000 in
set_option maxRecDepth 100000 in
theorem lw_ask {G : oG} {nm : String} {p : Program} {l : Launch} {e : Env} {s : State} {m : MethodId} {below : List Frame} {meth : Method} {c : Code} {b LL : Nat} {xs : Nat → Int32} (C : oC G (mL nm) 0 83 p l room_1 s m #[Value.ref b] meth c) (hX : va_X b LL xs s s.heap) (hb : b < s.heap.size ∧ ¬ G.1 ≤ b) (hv : G.2.2.2.2 5 = b) {h : oH} {n t : Nat} (I : Inv h n t) {i : Nat} {x3 : Int32} (hx3 : x3.toInt = (i : Int)) (hi : i + 6 ≤ LL) (hL : LL ≤ 3072) (kont : ∀ (h' : oH) (n' : Nat), Inv h' n' (t + 1) → oS G (mL nm) p l e room_1 s m #[Value.ref b] below meth c (lw_Z below #[Value.ref b] s) 0 803 [some (.float (sv 105)), some (.ref 0), some (.ref 12), some (.int x3)] [] h') : oS G (mL nm) p l e room_1 s m #[Value.ref b] below meth c (lw_Z below #[Value.ref b] s) 0 723 [some (.float (sv 105)), some (.ref 0), some (.ref 12), some (.int x3)] [] h := by
  obtain ⟨r, h1, h2, n', q1, q2, I2⟩ := case_ask G I (xs (i + 1)) (xs (i + 2))
  have hs := I.1.1
  have l1 := q1.1
  have l2 := q2.1
  have hF2 := I2.le
  have h12 : 12 < h1.1 := Nat.lt_of_lt_of_le (q_lt hs (by decide)) l1
  refine r_aload_n C rfl rfl dL_law_723 ?_
  refine r_aload_n C rfl rfl dL_law_724 ?_
  refine r_iload_n C rfl dL_law_725 ?_
  refine r_iconstv C 1 rfl dL_law_726 ?_
  refine r_iadd C dL_law_727 ?_
  refine r_sld C hX hb hv (i + 1) (by have t := (tA hx3 (show (1 : Int32).toInt = 1 from rfl) (by omega)); omega) (by omega) dL_law_728 ?_
  refine r_aload_n C rfl rfl dL_law_729 ?_
  refine r_iload_n C rfl dL_law_730 ?_
  refine r_iconstv C 2 rfl dL_law_731 ?_
  refine r_iadd C dL_law_732 ?_
  refine r_sld C hX hb hv (i + 2) (by have t := (tA hx3 (show (2 : Int32).toInt = 2 from rfl) (by omega)); omega) (by omega) dL_law_733 ?_
  refine r_callV C q1 kv_X5_ask kn_X5_ask rfl dL_law_734 cl_L_97 ⟨Nat.le_of_ble_eq_true rfl, Nat.le_of_ble_eq_true rfl⟩ (by decide) rfl rfl (q_lt hs (by decide)) (Nat.le_trans l2 hF2) rfl (Nat.le_of_ble_eq_true rfl) ?_
  refine r_aload_n C rfl rfl dL_law_737 ?_
  refine r_aload_n C rfl rfl dL_law_738 ?_
  refine r_iload_n C rfl dL_law_739 ?_
  refine r_iconstv C 1 rfl dL_law_740 ?_
  refine r_iadd C dL_law_741 ?_
  refine r_sld C hX hb hv (i + 1) (by have t := (tA hx3 (show (1 : Int32).toInt = 1 from rfl) (by omega)); omega) (by omega) dL_law_742 ?_
  refine r_aload_n C rfl rfl dL_law_743 ?_
  refine r_iload_n C rfl dL_law_744 ?_
  refine r_iconstv C 2 rfl dL_law_745 ?_
  refine r_iadd C dL_law_746 ?_
  refine r_sld C hX hb hv (i + 2) (by have t := (tA hx3 (show (2 : Int32).toInt = 2 from rfl) (by omega)); omega) (by omega) dL_law_747 ?_
  refine r_callV C q2 kv_X6_ask kn_X6_ask rfl dL_law_748 cl_L_100 ⟨Nat.le_of_ble_eq_true rfl, Nat.le_of_ble_eq_true rfl⟩ (by decide) rfl rfl h12 hF2 rfl (Nat.le_of_ble_eq_true rfl) ?_
  refine t_icmp_eq C 803 (by decide) rfl rfl dL_law_751 (fun c751 => ?_) (fun c751 => absurd rfl c751)
  exact kont _ _ I2

set_option maxHeartbeats 4000000 in
set_option maxRecDepth 100000 in
theorem lw_trace {G : oG} {nm : String} {p : Program} {l : Launch} {e : Env} {s : State} {m : MethodId} {below : List Frame} {meth : Method} {c : Code} {b LL : Nat} {xs : Nat → Int32} (C : oC G (mL nm) 0 83 p l room_1 s m #[Value.ref b] meth c) (hX : va_X b LL xs s s.heap) (hb : b < s.heap.size ∧ ¬ G.1 ≤ b) (hv : G.2.2.2.2 5 = b) {h : oH} {n t : Nat} (I : Inv h n t) {i : Nat} {x3 : Int32} (hx3 : x3.toInt = (i : Int)) (hi : i + 6 ≤ LL) (hL : LL ≤ 3072) (kont : ∀ (h' : oH) (n' : Nat), Inv h' n' (t + 1) → oS G (mL nm) p l e room_1 s m #[Value.ref b] below meth c (lw_Z below #[Value.ref b] s) 0 803 [some (.float (sv 105)), some (.ref 0), some (.ref 12), some (.int x3)] [] h') : oS G (mL nm) p l e room_1 s m #[Value.ref b] below meth c (lw_Z below #[Value.ref b] s) 0 756 [some (.float (sv 105)), some (.ref 0), some (.ref 12), some (.int x3)] [] h := by
  obtain ⟨r, h1, h2, n', q1, q2, I2⟩ := case_trace G I (xs (i + 1))
  have hs := I.1.1
  have l1 := q1.1
  have l2 := q2.1
  have hF2 := I2.le
  have h12 : 12 < h1.1 := Nat.lt_of_lt_of_le (q_lt hs (by decide)) l1
  refine r_aload_n C rfl rfl dL_law_756 ?_
  refine r_aload_n C rfl rfl dL_law_757 ?_
  refine r_iload_n C rfl dL_law_758 ?_
  refine r_iconstv C 1 rfl dL_law_759 ?_
  refine r_iadd C dL_law_760 ?_
  refine r_sld C hX hb hv (i + 1) (by have t := (tA hx3 (show (1 : Int32).toInt = 1 from rfl) (by omega)); omega) (by omega) dL_law_761 ?_
  refine r_callV C q1 kv_X5_trace kn_X5_trace rfl dL_law_762 cl_L_101 ⟨Nat.le_of_ble_eq_true rfl, Nat.le_of_ble_eq_true rfl⟩ (by decide) rfl rfl (q_lt hs (by decide)) (Nat.le_trans l2 hF2) rfl (Nat.le_of_ble_eq_true rfl) ?_
  refine r_aload_n C rfl rfl dL_law_765 ?_
  refine r_aload_n C rfl rfl dL_law_766 ?_
  refine r_iload_n C rfl dL_law_767 ?_
  refine r_iconstv C 1 rfl dL_law_768 ?_
  refine r_iadd C dL_law_769 ?_
  refine r_sld C hX hb hv (i + 1) (by have t := (tA hx3 (show (1 : Int32).toInt = 1 from rfl) (by omega)); omega) (by omega) dL_law_770 ?_
  refine r_callV C q2 kv_X6_trace kn_X6_trace rfl dL_law_771 cl_L_104 ⟨Nat.le_of_ble_eq_true rfl, Nat.le_of_ble_eq_true rfl⟩ (by decide) rfl rfl h12 hF2 rfl (Nat.le_of_ble_eq_true rfl) ?_
  refine t_icmp_eq C 803 (by decide) rfl rfl dL_law_774 (fun c774 => ?_) (fun c774 => absurd rfl c774)
  exact kont _ _ I2

set_option maxHeartbeats 4000000 in
set_option maxRecDepth 100000 in
theorem lw_count {G : oG} {nm : String} {p : Program} {l : Launch} {e : Env} {s : State} {m : MethodId} {below : List Frame} {meth : Method} {c : Code} {b LL : Nat} {xs : Nat → Int32} (C : oC G (mL nm) 0 83 p l room_1 s m #[Value.ref b] meth c) (hX : va_X b LL xs s s.heap) (hb : b < s.heap.size ∧ ¬ G.1 ≤ b) (hv : G.2.2.2.2 5 = b) {h : oH} {n t : Nat} (I : Inv h n t) {i : Nat} {x3 : Int32} (hx3 : x3.toInt = (i : Int)) (hi : i + 6 ≤ LL) (hL : LL ≤ 3072) (kont : ∀ (h' : oH) (n' : Nat), Inv h' n' (t + 1) → oS G (mL nm) p l e room_1 s m #[Value.ref b] below meth c (lw_Z below #[Value.ref b] s) 0 803 [some (.float (sv 105)), some (.ref 0), some (.ref 12), some (.int x3)] [] h') : oS G (mL nm) p l e room_1 s m #[Value.ref b] below meth c (lw_Z below #[Value.ref b] s) 0 779 [some (.float (sv 105)), some (.ref 0), some (.ref 12), some (.int x3)] [] h := by
  obtain ⟨r, h1, h2, n', q1, q2, I2⟩ := case_count G I (xs (i + 1))
  have hs := I.1.1
  have l1 := q1.1
  have l2 := q2.1
  have hF2 := I2.le
  have h12 : 12 < h1.1 := Nat.lt_of_lt_of_le (q_lt hs (by decide)) l1
  refine r_aload_n C rfl rfl dL_law_779 ?_
  refine r_aload_n C rfl rfl dL_law_780 ?_
  refine r_iload_n C rfl dL_law_781 ?_
  refine r_iconstv C 1 rfl dL_law_782 ?_
  refine r_iadd C dL_law_783 ?_
  refine r_sld C hX hb hv (i + 1) (by have t := (tA hx3 (show (1 : Int32).toInt = 1 from rfl) (by omega)); omega) (by omega) dL_law_784 ?_
  refine r_callV C q1 kv_X5_count kn_X5_count rfl dL_law_785 cl_L_105 ⟨Nat.le_of_ble_eq_true rfl, Nat.le_of_ble_eq_true rfl⟩ (by decide) rfl rfl (q_lt hs (by decide)) (Nat.le_trans l2 hF2) rfl (Nat.le_of_ble_eq_true rfl) ?_
  refine r_aload_n C rfl rfl dL_law_788 ?_
  refine r_aload_n C rfl rfl dL_law_789 ?_
  refine r_iload_n C rfl dL_law_790 ?_
  refine r_iconstv C 1 rfl dL_law_791 ?_
  refine r_iadd C dL_law_792 ?_
  refine r_sld C hX hb hv (i + 1) (by have t := (tA hx3 (show (1 : Int32).toInt = 1 from rfl) (by omega)); omega) (by omega) dL_law_793 ?_
  refine r_callV C q2 kv_X6_count kn_X6_count rfl dL_law_794 cl_L_109 ⟨Nat.le_of_ble_eq_true rfl, Nat.le_of_ble_eq_true rfl⟩ (by decide) rfl rfl h12 hF2 rfl (Nat.le_of_ble_eq_true rfl) ?_
  refine r_lcmp C dL_law_797 ?_
  refine t_lcmp_eq C 803 (by decide) rfl rfl dL_law_798 (fun c798 => ?_) (fun c798 => absurd rfl c798)
  exact kont _ _ I2

set_option maxHeartbeats 4000000 in
set_option maxRecDepth 100000 in
theorem lw_step {G : oG} {nm : String} {p : Program} {l : Launch} {e : Env} {s : State} {m : MethodId} {below : List Frame} {meth : Method} {c : Code} {b LL : Nat} {xs : Nat → Int32} (C : oC G (mL nm) 0 83 p l room_1 s m #[Value.ref b] meth c) (hX : va_X b LL xs s s.heap) (hb : b < s.heap.size ∧ ¬ G.1 ≤ b) (hv : G.2.2.2.2 5 = b) {h : oH} {n t : Nat} (I : Inv h n t) (hT : t ≤ 600) {i : Nat} {x3 : Int32} (hx3 : x3.toInt = (i : Int)) (hi : i + 6 ≤ LL) (hL : LL ≤ 3072) (kont : ∀ (h' : oH) (n' : Nat), Inv h' n' (t + 1) → oS G (mL nm) p l e room_1 s m #[Value.ref b] below meth c (lw_Z below #[Value.ref b] s) 0 803 [some (.float (sv 105)), some (.ref 0), some (.ref 12), some (.int x3)] [] h') : oS G (mL nm) p l e room_1 s m #[Value.ref b] below meth c (lw_Z below #[Value.ref b] s) 0 27 [some (.float (sv 105)), some (.ref 0), some (.ref 12), some (.int x3)] [] h := by
  have hs := I.1.1
  have hr := and31 (xs i)
  rcases (show (xs i &&& 31).toInt = 0 ∨ (xs i &&& 31).toInt = 1 ∨ (xs i &&& 31).toInt = 2 ∨ (xs i &&& 31).toInt = 3 ∨ (xs i &&& 31).toInt = 4 ∨ (xs i &&& 31).toInt = 5 ∨ (xs i &&& 31).toInt = 6 ∨ (xs i &&& 31).toInt = 7 ∨ (xs i &&& 31).toInt = 8 ∨ (xs i &&& 31).toInt = 9 ∨ (xs i &&& 31).toInt = 10 ∨ (xs i &&& 31).toInt = 11 ∨ (xs i &&& 31).toInt = 12 ∨ (xs i &&& 31).toInt = 13 ∨ (xs i &&& 31).toInt = 14 ∨ (xs i &&& 31).toInt = 15 ∨ (xs i &&& 31).toInt = 16 ∨ (xs i &&& 31).toInt = 17 ∨ (xs i &&& 31).toInt = 18 ∨ (xs i &&& 31).toInt = 19 ∨ (xs i &&& 31).toInt = 20 ∨ (xs i &&& 31).toInt = 21 ∨ 21 < (xs i &&& 31).toInt by omega) with hk | hk | hk | hk | hk | hk | hk | hk | hk | hk | hk | hk | hk | hk | hk | hk | hk | hk | hk | hk | hk | hk | hk
  · refine r_aload_n C rfl rfl dL_law_27 ?_
    refine r_iload_n C rfl dL_law_28 ?_
    refine r_sld C hX hb hv (i) (by have t := hx3; omega) (by omega) dL_law_29 ?_
    refine r_bipush C 31 rfl dL_law_30 ?_
    refine r_iand C dL_law_32 ?_
    refine r_tableIn C 136 (by rw [hk]; decide) (by rw [hk]; decide) (by rw [hk]; rfl) (by decide) dL_law_33 ?_
    exact lw_house C hX hb hv I hx3 hi hL kont
  · refine r_aload_n C rfl rfl dL_law_27 ?_
    refine r_iload_n C rfl dL_law_28 ?_
    refine r_sld C hX hb hv (i) (by have t := hx3; omega) (by omega) dL_law_29 ?_
    refine r_bipush C 31 rfl dL_law_30 ?_
    refine r_iand C dL_law_32 ?_
    refine r_tableIn C 179 (by rw [hk]; decide) (by rw [hk]; decide) (by rw [hk]; rfl) (by decide) dL_law_33 ?_
    exact lw_prior C hX hb hv I hx3 hi hL kont
  · refine r_aload_n C rfl rfl dL_law_27 ?_
    refine r_iload_n C rfl dL_law_28 ?_
    refine r_sld C hX hb hv (i) (by have t := hx3; omega) (by omega) dL_law_29 ?_
    refine r_bipush C 31 rfl dL_law_30 ?_
    refine r_iand C dL_law_32 ?_
    refine r_tableIn C 242 (by rw [hk]; decide) (by rw [hk]; decide) (by rw [hk]; rfl) (by decide) dL_law_33 ?_
    exact lw_day C hX hb hv I hT hx3 hi hL kont
  · refine r_aload_n C rfl rfl dL_law_27 ?_
    refine r_iload_n C rfl dL_law_28 ?_
    refine r_sld C hX hb hv (i) (by have t := hx3; omega) (by omega) dL_law_29 ?_
    refine r_bipush C 31 rfl dL_law_30 ?_
    refine r_iand C dL_law_32 ?_
    refine r_tableIn C 265 (by rw [hk]; decide) (by rw [hk]; decide) (by rw [hk]; rfl) (by decide) dL_law_33 ?_
    exact lw_look C hX hb hv I hx3 hi hL kont
  · refine r_aload_n C rfl rfl dL_law_27 ?_
    refine r_iload_n C rfl dL_law_28 ?_
    refine r_sld C hX hb hv (i) (by have t := hx3; omega) (by omega) dL_law_29 ?_
    refine r_bipush C 31 rfl dL_law_30 ?_
    refine r_iand C dL_law_32 ?_
    refine r_tableIn C 298 (by rw [hk]; decide) (by rw [hk]; decide) (by rw [hk]; rfl) (by decide) dL_law_33 ?_
    exact lw_told C hX hb hv I hx3 hi hL kont
  · refine r_aload_n C rfl rfl dL_law_27 ?_
    refine r_iload_n C rfl dL_law_28 ?_
    refine r_sld C hX hb hv (i) (by have t := hx3; omega) (by omega) dL_law_29 ?_
    refine r_bipush C 31 rfl dL_law_30 ?_
    refine r_iand C dL_law_32 ?_
    refine r_tableIn C 331 (by rw [hk]; decide) (by rw [hk]; decide) (by rw [hk]; rfl) (by decide) dL_law_33 ?_
    exact lw_lasts C hX hb hv I hx3 hi hL kont
  · refine r_aload_n C rfl rfl dL_law_27 ?_
    refine r_iload_n C rfl dL_law_28 ?_
    refine r_sld C hX hb hv (i) (by have t := hx3; omega) (by omega) dL_law_29 ?_
    refine r_bipush C 31 rfl dL_law_30 ?_
    refine r_iand C dL_law_32 ?_
    refine r_tableIn C 364 (by rw [hk]; decide) (by rw [hk]; decide) (by rw [hk]; rfl) (by decide) dL_law_33 ?_
    exact lw_stock C hX hb hv I hx3 hi hL kont
  · refine r_aload_n C rfl rfl dL_law_27 ?_
    refine r_iload_n C rfl dL_law_28 ?_
    refine r_sld C hX hb hv (i) (by have t := hx3; omega) (by omega) dL_law_29 ?_
    refine r_bipush C 31 rfl dL_law_30 ?_
    refine r_iand C dL_law_32 ?_
    refine r_tableIn C 387 (by rw [hk]; decide) (by rw [hk]; decide) (by rw [hk]; rfl) (by decide) dL_law_33 ?_
    exact lw_lorry C hX hb hv I hx3 hi hL kont
  · refine r_aload_n C rfl rfl dL_law_27 ?_
    refine r_iload_n C rfl dL_law_28 ?_
    refine r_sld C hX hb hv (i) (by have t := hx3; omega) (by omega) dL_law_29 ?_
    refine r_bipush C 31 rfl dL_law_30 ?_
    refine r_iand C dL_law_32 ?_
    refine r_tableIn C 410 (by rw [hk]; decide) (by rw [hk]; decide) (by rw [hk]; rfl) (by decide) dL_law_33 ?_
    exact lw_calls C hX hb hv I hx3 hi hL kont
  · refine r_aload_n C rfl rfl dL_law_27 ?_
    refine r_iload_n C rfl dL_law_28 ?_
    refine r_sld C hX hb hv (i) (by have t := hx3; omega) (by omega) dL_law_29 ?_
    refine r_bipush C 31 rfl dL_law_30 ?_
    refine r_iand C dL_law_32 ?_
    refine r_tableIn C 423 (by rw [hk]; decide) (by rw [hk]; decide) (by rw [hk]; rfl) (by decide) dL_law_33 ?_
    exact lw_round C hX hb hv I hx3 hi hL kont
  · refine r_aload_n C rfl rfl dL_law_27 ?_
    refine r_iload_n C rfl dL_law_28 ?_
    refine r_sld C hX hb hv (i) (by have t := hx3; omega) (by omega) dL_law_29 ?_
    refine r_bipush C 31 rfl dL_law_30 ?_
    refine r_iand C dL_law_32 ?_
    refine r_tableIn C 456 (by rw [hk]; decide) (by rw [hk]; decide) (by rw [hk]; rfl) (by decide) dL_law_33 ?_
    exact lw_stop C hX hb hv I hx3 hi hL kont
  · refine r_aload_n C rfl rfl dL_law_27 ?_
    refine r_iload_n C rfl dL_law_28 ?_
    refine r_sld C hX hb hv (i) (by have t := hx3; omega) (by omega) dL_law_29 ?_
    refine r_bipush C 31 rfl dL_law_30 ?_
    refine r_iand C dL_law_32 ?_
    refine r_tableIn C 489 (by rw [hk]; decide) (by rw [hk]; decide) (by rw [hk]; rfl) (by decide) dL_law_33 ?_
    exact lw_fill C hX hb hv I hT hx3 hi hL kont
  · refine r_aload_n C rfl rfl dL_law_27 ?_
    refine r_iload_n C rfl dL_law_28 ?_
    refine r_sld C hX hb hv (i) (by have t := hx3; omega) (by omega) dL_law_29 ?_
    refine r_bipush C 31 rfl dL_law_30 ?_
    refine r_iand C dL_law_32 ?_
    refine r_tableIn C 522 (by rw [hk]; decide) (by rw [hk]; decide) (by rw [hk]; rfl) (by decide) dL_law_33 ?_
    exact lw_price C hX hb hv I hx3 hi hL kont
  · refine r_aload_n C rfl rfl dL_law_27 ?_
    refine r_iload_n C rfl dL_law_28 ?_
    refine r_sld C hX hb hv (i) (by have t := hx3; omega) (by omega) dL_law_29 ?_
    refine r_bipush C 31 rfl dL_law_30 ?_
    refine r_iand C dL_law_32 ?_
    refine r_tableIn C 545 (by rw [hk]; decide) (by rw [hk]; decide) (by rw [hk]; rfl) (by decide) dL_law_33 ?_
    exact lw_feed C hX hb hv I hx3 hi hL kont
  · refine r_aload_n C rfl rfl dL_law_27 ?_
    refine r_iload_n C rfl dL_law_28 ?_
    refine r_sld C hX hb hv (i) (by have t := hx3; omega) (by omega) dL_law_29 ?_
    refine r_bipush C 31 rfl dL_law_30 ?_
    refine r_iand C dL_law_32 ?_
    refine r_tableIn C 608 (by rw [hk]; decide) (by rw [hk]; decide) (by rw [hk]; rfl) (by decide) dL_law_33 ?_
    exact lw_plans C hX hb hv I hx3 hi hL kont
  · refine r_aload_n C rfl rfl dL_law_27 ?_
    refine r_iload_n C rfl dL_law_28 ?_
    refine r_sld C hX hb hv (i) (by have t := hx3; omega) (by omega) dL_law_29 ?_
    refine r_bipush C 31 rfl dL_law_30 ?_
    refine r_iand C dL_law_32 ?_
    refine r_tableIn C 621 (by rw [hk]; decide) (by rw [hk]; decide) (by rw [hk]; rfl) (by decide) dL_law_33 ?_
    exact lw_fault C hX hb hv I hx3 hi hL kont
  · refine r_aload_n C rfl rfl dL_law_27 ?_
    refine r_iload_n C rfl dL_law_28 ?_
    refine r_sld C hX hb hv (i) (by have t := hx3; omega) (by omega) dL_law_29 ?_
    refine r_bipush C 31 rfl dL_law_30 ?_
    refine r_iand C dL_law_32 ?_
    refine r_tableIn C 634 (by rw [hk]; decide) (by rw [hk]; decide) (by rw [hk]; rfl) (by decide) dL_law_33 ?_
    exact lw_quote C hX hb hv I hx3 hi hL kont
  · refine r_aload_n C rfl rfl dL_law_27 ?_
    refine r_iload_n C rfl dL_law_28 ?_
    refine r_sld C hX hb hv (i) (by have t := hx3; omega) (by omega) dL_law_29 ?_
    refine r_bipush C 31 rfl dL_law_30 ?_
    refine r_iand C dL_law_32 ?_
    refine r_tableIn C 667 (by rw [hk]; decide) (by rw [hk]; decide) (by rw [hk]; rfl) (by decide) dL_law_33 ?_
    exact lw_kind C hX hb hv I hx3 hi hL kont
  · refine r_aload_n C rfl rfl dL_law_27 ?_
    refine r_iload_n C rfl dL_law_28 ?_
    refine r_sld C hX hb hv (i) (by have t := hx3; omega) (by omega) dL_law_29 ?_
    refine r_bipush C 31 rfl dL_law_30 ?_
    refine r_iand C dL_law_32 ?_
    refine r_tableIn C 690 (by rw [hk]; decide) (by rw [hk]; decide) (by rw [hk]; rfl) (by decide) dL_law_33 ?_
    exact lw_as C hX hb hv I hx3 hi hL kont
  · refine r_aload_n C rfl rfl dL_law_27 ?_
    refine r_iload_n C rfl dL_law_28 ?_
    refine r_sld C hX hb hv (i) (by have t := hx3; omega) (by omega) dL_law_29 ?_
    refine r_bipush C 31 rfl dL_law_30 ?_
    refine r_iand C dL_law_32 ?_
    refine r_tableIn C 723 (by rw [hk]; decide) (by rw [hk]; decide) (by rw [hk]; rfl) (by decide) dL_law_33 ?_
    exact lw_ask C hX hb hv I hx3 hi hL kont
  · refine r_aload_n C rfl rfl dL_law_27 ?_
    refine r_iload_n C rfl dL_law_28 ?_
    refine r_sld C hX hb hv (i) (by have t := hx3; omega) (by omega) dL_law_29 ?_
    refine r_bipush C 31 rfl dL_law_30 ?_
    refine r_iand C dL_law_32 ?_
    refine r_tableIn C 756 (by rw [hk]; decide) (by rw [hk]; decide) (by rw [hk]; rfl) (by decide) dL_law_33 ?_
    exact lw_trace C hX hb hv I hx3 hi hL kont
  · refine r_aload_n C rfl rfl dL_law_27 ?_
    refine r_iload_n C rfl dL_law_28 ?_
    refine r_sld C hX hb hv (i) (by have t := hx3; omega) (by omega) dL_law_29 ?_
    refine r_bipush C 31 rfl dL_law_30 ?_
    refine r_iand C dL_law_32 ?_
    refine r_tableIn C 779 (by rw [hk]; decide) (by rw [hk]; decide) (by rw [hk]; rfl) (by decide) dL_law_33 ?_
    exact lw_count C hX hb hv I hx3 hi hL kont
  · refine r_aload_n C rfl rfl dL_law_27 ?_
    refine r_iload_n C rfl dL_law_28 ?_
    refine r_sld C hX hb hv (i) (by have t := hx3; omega) (by omega) dL_law_29 ?_
    refine r_bipush C 31 rfl dL_law_30 ?_
    refine r_iand C dL_law_32 ?_
    refine r_tableOut C 803 (by omega) (by decide) dL_law_33 ?_
    exact kont _ _ (I.mono (Nat.le_succ t))

set_option maxHeartbeats 4000000 in
set_option maxRecDepth 100000 in
theorem lw_loop {G : oG} {nm : String} {p : Program} {l : Launch} {e : Env} {s : State} {m : MethodId} {below : List Frame} {meth : Method} {c : Code} {b LL : Nat} {xs : Nat → Int32} (C : oC G (mL nm) 0 83 p l room_1 s m #[Value.ref b] meth c) (hX : va_X b LL xs s s.heap) (hb : b < s.heap.size ∧ ¬ G.1 ≤ b) (hv : G.2.2.2.2 5 = b) (hG : G.1 = s.heap.size) (hL : LL ≤ 3072) : ∀ (k t : Nat) {h : oH} {n : Nat} {x3 : Int32}, t + k = 513 → Inv h n t → x3.toInt = ((6 * t : Nat) : Int) → 6 * t ≤ LL → oS G (mL nm) p l e room_1 s m #[Value.ref b] below meth c (lw_Z below #[Value.ref b] s) 0 18 [some (.float (sv 105)), some (.ref 0), some (.ref 12), some (.int x3)] [] h := by
  have hLL : (Int32.ofNat LL).toInt = (LL : Int) := kI_t (k := LL) (by omega)
  intro k
  induction k with
  | zero =>
    intro t h n x3 htk I hx3 hl
    omega
  | succ k ih =>
    intro t h n x3 htk I hx3 hl
    have hs := I.1.1
    by_cases hc : 6 * t + 6 ≤ LL
    · refine r_iload_n C rfl dL_law_18 ?_
      refine r_aload_n C rfl rfl dL_law_19 ?_
      refine r_slen C hX hb hv dL_law_20 ?_
      refine r_bipush C 6 rfl dL_law_21 ?_
      refine r_isub C dL_law_23 ?_
      refine t_icmp_gt C 809 (by decide) hx3 (tS hLL (show (6 : Int32).toInt = 6 from rfl) (by omega)) dL_law_24 (fun c24 => absurd c24 (by omega)) (fun c24 => ?_)
      refine lw_step C hX hb hv I (by omega) hx3 hc hL (fun h2 n2 I2 => ?_)
      refine r_iinc C rfl rfl (Nat.le_of_ble_eq_true rfl) dL_law_803 ?_
      refine r_goto C 18 (by decide) dL_law_806 ?_
      exact ih (t + 1) (by omega) I2 (by have u := tA hx3 (show (Int32.ofInt 6).toInt = 6 from rfl) (by omega); omega) (by omega)
    · refine r_iload_n C rfl dL_law_18 ?_
      refine r_aload_n C rfl rfl dL_law_19 ?_
      refine r_slen C hX hb hv dL_law_20 ?_
      refine r_bipush C 6 rfl dL_law_21 ?_
      refine r_isub C dL_law_23 ?_
      refine t_icmp_gt C 809 (by decide) hx3 (tS hLL (show (6 : Int32).toInt = 6 from rfl) (by omega)) dL_law_24 (fun c24 => ?_) (fun c24 => absurd c24 (by omega))
      refine r_iconstv C 1 rfl dL_law_809 ?_
      exact r_lawret C hG dL_law_810 I.le

