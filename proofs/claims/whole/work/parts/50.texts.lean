/-! texts -/
set_option maxRecDepth 100000 in
theorem fl_J0_9 : Cond.fieldLink RJ0 9 "java/lang/String" "value" "[B" ∈ oWL := (oWL_t (n := 1048) rfl rfl)
set_option maxRecDepth 100000 in
theorem fl_J0_15 : Cond.fieldLink RJ0 15 "java/lang/String" "coder" "B" ∈ oWL := (oWL_t (n := 1049) rfl rfl)
set_option maxRecDepth 100000 in
theorem fl_J0_38 : Cond.fieldLink RJ0 38 "java/lang/String" "COMPACT_STRINGS" "Z" ∈ oWL := (oWL_t (n := 500) rfl rfl)
set_option maxRecDepth 100000 in
theorem fl_J0_1053 : Cond.fieldLink RJ0 1053 "jdk/internal/util/Preconditions" "SIOOBE_FORMATTER" "Ljava/util/function/BiFunction;" ∈ oWL := (oWL_t (n := 516) rfl rfl)
section OTEXT
variable {G : oG} {M : oM} {p : Program} {l : Launch} {e : Env} {R : Room} {s : State} {m : MethodId} {args : Array Value} {below : List Frame} {meth : Method} {c : Code} {Z : State → Prop} {n0 nF pc : Nat} {L : List (Option Value)} {S : List Value} {h : oH}
def slen (k : Nat) : Nat := [5, 3, 3, 4].getD k 0
def sbyt (k j : Nat) : Int32 := ([[104, 111, 117, 115, 101], [100, 97, 121], [99, 97, 112], [112, 97, 105, 100]].getD k []).getD j 0
def sv (k : Nat) : UInt32 := UInt32.ofNat k
theorem oV_k {k : Nat} (hk : k < 4) : oV G (.float (sv k)) = .ref (G.2.2.2.1 k) := by
  match k, hk with
  | 0, _ => rfl
  | 1, _ => rfl
  | 2, _ => rfl
  | 3, _ => rfl
  | n + 4, hk => omega
theorem oV_a {k : Nat} (hk : k < 4) : oV G (.float (sv (100 + k))) = .ref (G.2.2.2.2 k) := by
  match k, hk with
  | 0, _ => rfl
  | 1, _ => rfl
  | 2, _ => rfl
  | 3, _ => rfl
  | n + 4, hk => omega
theorem r_ldcS0 (C : oC G M n0 nF p l R s m args meth c) (hc : M.1.cls = RX3) (hd : decode M.2.1 pc = .ok (.ldc 104, 2)) (k : oS G M p l e R s m args below meth c Z n0 (pc + 2) L (.float (sv 0) :: S) h) : oS G M p l e R s m args below meth c Z n0 pc L S h := fun H locs ls i1 i2 i3 i4 i5 => by
  have k1 := k H locs ls i1 i2 i3 i4 i5
  obtain ⟨x1, x2, -, -, x5, -, -, -, -, -, hXR, -⟩ := C
  rw [hc] at x5
  exact va_ldcS x1 x2 x5 hXR.1 hd k1
theorem r_ldcS1 (C : oC G M n0 nF p l R s m args meth c) (hc : M.1.cls = RX3) (hd : decode M.2.1 pc = .ok (.ldc 110, 2)) (k : oS G M p l e R s m args below meth c Z n0 (pc + 2) L (.float (sv 1) :: S) h) : oS G M p l e R s m args below meth c Z n0 pc L S h := fun H locs ls i1 i2 i3 i4 i5 => by
  have k1 := k H locs ls i1 i2 i3 i4 i5
  obtain ⟨x1, x2, -, -, x5, -, -, -, -, -, hXR, -⟩ := C
  rw [hc] at x5
  exact va_ldcS x1 x2 x5 hXR.2.1 hd k1
theorem r_ldcS2 (C : oC G M n0 nF p l R s m args meth c) (hc : M.1.cls = RX3) (hd : decode M.2.1 pc = .ok (.ldc 112, 2)) (k : oS G M p l e R s m args below meth c Z n0 (pc + 2) L (.float (sv 2) :: S) h) : oS G M p l e R s m args below meth c Z n0 pc L S h := fun H locs ls i1 i2 i3 i4 i5 => by
  have k1 := k H locs ls i1 i2 i3 i4 i5
  obtain ⟨x1, x2, -, -, x5, -, -, -, -, -, hXR, -⟩ := C
  rw [hc] at x5
  exact va_ldcS x1 x2 x5 hXR.2.2.1 hd k1
theorem r_ldcS3 (C : oC G M n0 nF p l R s m args meth c) (hc : M.1.cls = RX3) (hd : decode M.2.1 pc = .ok (.ldc 114, 2)) (k : oS G M p l e R s m args below meth c Z n0 (pc + 2) L (.float (sv 3) :: S) h) : oS G M p l e R s m args below meth c Z n0 pc L S h := fun H locs ls i1 i2 i3 i4 i5 => by
  have k1 := k H locs ls i1 i2 i3 i4 i5
  obtain ⟨x1, x2, -, -, x5, -, -, -, -, -, hXR, -⟩ := C
  rw [hc] at x5
  exact va_ldcS x1 x2 x5 hXR.2.2.2.1 hd k1
theorem r_strV (C : oC G M n0 nF p l R s m args meth c) {k : Nat} (hk : k < 4) (hd : decode M.2.1 pc = .ok (.getfield 9, 3)) (hc : M.1.cls = RJ0) (kk : oS G M p l e R s m args below meth c Z n0 (pc + 3) L (.float (sv (100 + k)) :: S) h) : oS G M p l e R s m args below meth c Z n0 pc L (.float (sv k) :: S) h := fun H locs ls i1 i2 i3 i4 i5 => by
  have k1 := kk H locs ls i1 i2 i3 i4 i5
  obtain ⟨x1, x2, -, -, x5, x6, -, -, -, hX, -⟩ := C
  rw [hc] at x5
  rw [List.map_cons, oV_a hk] at k1
  rw [List.map_cons, oV_k hk]
  exact vk_getf x1 x2 (hX.1.1 k hk).2.2.1 i1 x5 (x6 _ fl_J0_9) (fun _ q => q) hd k1
theorem r_strC (C : oC G M n0 nF p l R s m args meth c) {k : Nat} (hk : k < 4) (hd : decode M.2.1 pc = .ok (.getfield 15, 3)) (hc : M.1.cls = RJ0) (kk : oS G M p l e R s m args below meth c Z n0 (pc + 3) L (.int 0 :: S) h) : oS G M p l e R s m args below meth c Z n0 pc L (.float (sv k) :: S) h := fun H locs ls i1 i2 i3 i4 i5 => by
  have k1 := kk H locs ls i1 i2 i3 i4 i5
  obtain ⟨x1, x2, -, -, x5, x6, -, -, -, hX, -⟩ := C
  rw [hc] at x5
  rw [List.map_cons, oV_k hk]
  exact vk_getf x1 x2 (hX.1.1 k hk).2.1 i1 x5 (x6 _ fl_J0_15) (fun _ q => q) hd k1
theorem r_gs1 (C : oC G M n0 nF p l R s m args meth c) (hd : decode M.2.1 pc = .ok (.getstatic 38, 3)) (hc : M.1.cls = RJ0) (kk : oS G M p l e R s m args below meth c Z n0 (pc + 3) L (.int 1 :: S) h) : oS G M p l e R s m args below meth c Z n0 pc L S h := fun H locs ls i1 i2 i3 i4 i5 => by
  have k1 := kk H locs ls i1 i2 i3 i4 i5
  obtain ⟨x1, x2, -, -, x5, x6, -, -, -, hX, -⟩ := C
  rw [hc] at x5
  exact va_gets x1 x2 hX.2.1 i1 x5 (x6 _ fl_J0_38) (fun _ q => q) hd k1
theorem r_tlen (C : oC G M n0 nF p l R s m args meth c) {k : Nat} (hk : k < 4) (hd : decode M.2.1 pc = .ok (.arraylength, 1)) (kk : oS G M p l e R s m args below meth c Z n0 (pc + 1) L (.int (Int32.ofNat (slen k)) :: S) h) : oS G M p l e R s m args below meth c Z n0 pc L (.float (sv (100 + k)) :: S) h := fun H locs ls i1 i2 i3 i4 i5 => by
  have k1 := kk H locs ls i1 i2 i3 i4 i5
  obtain ⟨x1, x2, -, -, -, -, -, -, -, hX, -⟩ := C
  rw [List.map_cons, oV_a hk]
  exact va_tlen x1 x2 (hX.1.1 k hk).2.2.2 i1 rfl hd k1
theorem r_tbl (C : oC G M n0 nF p l R s m args meth c) {k : Nat} (hk : k < 4) {i : Int32} (j : Nat) (hi : i.toInt = (j : Int)) (hj : j < slen k) (hd : decode M.2.1 pc = .ok (.baload, 1)) (kk : oS G M p l e R s m args below meth c Z n0 (pc + 1) L (.int (sbyt k j) :: S) h) : oS G M p l e R s m args below meth c Z n0 pc L (.int i :: .float (sv (100 + k)) :: S) h := fun H locs ls i1 i2 i3 i4 i5 => by
  have k1 := kk H locs ls i1 i2 i3 i4 i5
  obtain ⟨x1, x2, -, -, -, -, -, -, -, hX, -⟩ := C
  have e0 : i.toNatClampNeg = j := by
    show i.toInt.toNat = j
    omega
  rw [List.map_cons, List.map_cons, oV_a hk]
  refine va_tb x1 x2 (hX.1.1 k hk).2.2.2 i1 ?_ (by rw [e0]; rfl) hd k1
  intro q
  rcases q with q | q
  · have := Int32.lt_iff_toInt_lt.mp q
    have e1 : (0 : Int32).toInt = 0 := rfl
    omega
  · rw [e0] at q
    have : [5, 3, 3, 4].getD k 0 = slen k := rfl
    omega
theorem r_callVS (C : oC G M n0 nF p l R s m args meth c) {N : oM} {as' : List Value} {k n idx : Nat} {r : Option Value} {h' : oH} {S0 : List Value} (sp : oSp G N (.float (sv k) :: as') h r h') (hN : oMv N) (hn : oN N n) (hl : as'.length = n) (hd : decode M.2.1 pc = .ok (.invokevirtual idx, 3)) (hw : Cond.methodLink M.1.cls idx N.1 ∈ oWL) (hft : oFit M N) (hcl : N.1.cls = "java/lang/String") (hk : k < 4) (hF : h'.1 ≤ nF) (hst : S0 = as'.reverse ++ .float (sv k) :: S) (hcat : (S.map fun v => v.category).sum ≤ 8) (kk : oS G M p l e R s m args below meth c Z n0 (pc + 3) L (r.toList ++ S) h') : oS G M p l e R s m args below meth c Z n0 pc L S0 h := fun H locs ls i1 i2 i3 i4 i5 => by
  obtain ⟨hle, hM⟩ := sp
  have hrep := C.rep i1 i2 i3
  obtain ⟨x1, x2, x3, x4, x5, x6, -, x8, hK, hX, hXR, xB, xf, xl, xc, xs⟩ := C
  have hsl := sl_mono hle
  have hsl0 := sl_mono i4
  have hslF := sl_mono hF
  refine o_back (mc := h'.1 - h.1) (ms := sl h'.1 - sl h.1) (rest := S.map (oV G)) (A1 := fun _ => True) (va_runV (b := G.2.2.2.1 k) (As := as'.map (oV G)) ⟨x1, x2, x4, x5, x6⟩ (hM l) ⟨callB_of n x6 (oW_gin hN.1.1) rfl rfl rfl (x6 _ hN.1.1.2.1) (x6 _ hw) ⟨hN.1.1.2.2.1, hN.1.1.2.2.2, hn⟩ (oFitR hft xf xl), x6 _ hN.1.2, x6 _ hN.2⟩ ⟨oPre (.float (sv k) :: as') h, ?_, fun U hU hW => ⟨?_, hrep U hU hW⟩⟩ rfl (by rw [List.length_map]; exact hl) i5.1 (by rw [hst, List.map_append, List.map_reverse, List.map_cons, oV_k hk]) (lv_room (by rw [cat_eq]; exact hcat)) hd ⟨call_b i4 hle hF xc, call_b hsl0 hsl hslF xs⟩) i1 ?_
  · have hr := vk_recv hX.1 hk i1
    rw [hcl]
    exact hr
  · rw [List.map_cons, oV_k hk]
  · intro H1 locs1 q1 q2 q3
    have k1 := kk H1 locs1 ls q1 q2 q3 (Nat.le_trans i4 hle) i5
    rw [call_n i4 hle, call_n hsl0 hsl, rt_map]
    exact k1
def upG (G : oG) (t : Nat) : oG := (G.1, G.2.1, G.2.2.1, G.2.2.2.1, fun k => if k = 4 then t else G.2.2.2.2 k)
theorem oC.up (C : oC G M n0 nF p l R s m args meth c) (t : Nat) : oC (upG G t) M n0 nF p l R s m args meth c := by
  obtain ⟨x1, x2, x3, x4, x5, x6, x7, x8, hK, hX, hXR, xB, xf, xl, xc, xs⟩ := C
  refine ⟨x1, x2, x3, x4, x5, x6, x7, x8, hK, ⟨⟨fun i hi => ?_, hX.1.2⟩, hX.2⟩, hXR, xB, xf, xl, xc, xs⟩
  have q := hX.1.1 i hi
  refine ⟨q.1, q.2.1, ?_, ?_⟩
  · show va_OF _ _ _ (.ref (if i = 4 then t else G.2.2.2.2 i)) _ _ _ _
    rw [if_neg (by omega)]
    exact q.2.2.1
  · show va_T _ (if i = 4 then t else G.2.2.2.2 i) _ _ _ _ _
    rw [if_neg (by omega)]
    exact q.2.2.2
theorem r_dn {t : Nat} (k : oS G M p l e R s m args below meth c Z n0 pc [] S h) (hS : S.map (oV G) = S.map (oV (upG G t))) : oS (upG G t) M p l e R s m args below meth c Z n0 pc L S h := fun H locs ls i1 i2 i3 i4 i5 => by
  have k1 := k H locs ls i1 i2 i3 i4 ⟨i5.1, i5.2.1, fun i v q => by cases q⟩
  rw [← hS]
  exact k1
theorem r_gsN (C : oC G M n0 nF p l R s m args meth c) (hd : decode M.2.1 pc = .ok (.getstatic 1053, 3)) (hc : M.1.cls = RJ0) (hS : ∀ t, S.map (oV (upG G t)) = S.map (oV G)) (kN : oS G M p l e R s m args below meth c Z n0 (pc + 3) [] (.null :: S) h) (kR : ∀ t, oS (upG G t) M p l e R s m args below meth c Z n0 (pc + 3) [] (.float (sv 104) :: S) h) : oS G M p l e R s m args below meth c Z n0 pc L S h := fun H locs ls i1 i2 i3 i4 i5 => by
  have k1 := kN H locs ls i1 i2 i3 i4 ⟨i5.1, i5.2.1, fun i v q => by cases q⟩
  obtain ⟨x1, x2, -, -, x5, x6, -, -, -, hX, -⟩ := C
  rw [hc] at x5
  rcases hX.2.2 with q | ⟨t, q⟩
  · exact va_gets x1 x2 q i1 x5 (x6 _ fl_J0_1053) (fun _ q => q) hd k1
  · have k2 := kR t H locs ls i1 i2 i3 i4 ⟨i5.1, i5.2.1, fun i v q => by cases q⟩
    rw [List.map_cons, hS t] at k2
    exact va_gets x1 x2 q i1 x5 (x6 _ fl_J0_1053) (fun _ q => q) hd k2
end OTEXT
set_option maxHeartbeats 4000000 in
set_option maxRecDepth 100000 in
theorem sp_ckN (G : oG) {h : oH} (x y : Int32) {j n : Nat} (hx : x.toInt = (j : Int)) (hy : y.toInt = (n : Int)) (hj : j < n) : oSp G mJ3_checkIndex_8e157 [.int x, .int y, .null] h (some (.int x)) h := by
  refine oSp.intro [some (.int x), some (.int y), some (.null)] rfl (Nat.le_of_ble_eq_true rfl) (plainFor_of_name (by decide +kernel)) (Nat.le_refl _) ?_
  intro p l e R s m args below meth c C
  refine r_iload_n C rfl dJ3_checkIndex_8e157_0 ?_
  refine t_if_lt C 9 (by decide) hx dJ3_checkIndex_8e157_1 (fun c1 => ?_) (fun c1 => ?_)
  · first
    | (exfalso; omega)
  · first
    | (exfalso; omega)
    |  (refine r_iload_n C rfl dJ3_checkIndex_8e157_4 ?_
        refine r_iload_n C rfl dJ3_checkIndex_8e157_5 ?_
        refine t_icmp_lt C 16 (by decide) hx hy dJ3_checkIndex_8e157_6 (fun c6 => ?_) (fun c6 => ?_)
        · first
          | (exfalso; omega)
          |  (refine r_iload_n C rfl dJ3_checkIndex_8e157_16 ?_
              exact r_iret C dJ3_checkIndex_8e157_17 rfl (Nat.le_refl _) rfl rfl)
        · first
          | (exfalso; omega))

set_option maxHeartbeats 4000000 in
set_option maxRecDepth 100000 in
theorem sp_ckR (G : oG) {h : oH} (x y : Int32) {j n : Nat} (hx : x.toInt = (j : Int)) (hy : y.toInt = (n : Int)) (hj : j < n) : oSp G mJ3_checkIndex_8e157 [.int x, .int y, .float (sv 104)] h (some (.int x)) h := by
  refine oSp.intro [some (.int x), some (.int y), some (.float (sv 104))] rfl (Nat.le_of_ble_eq_true rfl) (plainFor_of_name (by decide +kernel)) (Nat.le_refl _) ?_
  intro p l e R s m args below meth c C
  refine r_iload_n C rfl dJ3_checkIndex_8e157_0 ?_
  refine t_if_lt C 9 (by decide) hx dJ3_checkIndex_8e157_1 (fun c1 => ?_) (fun c1 => ?_)
  · first
    | (exfalso; omega)
  · first
    | (exfalso; omega)
    |  (refine r_iload_n C rfl dJ3_checkIndex_8e157_4 ?_
        refine r_iload_n C rfl dJ3_checkIndex_8e157_5 ?_
        refine t_icmp_lt C 16 (by decide) hx hy dJ3_checkIndex_8e157_6 (fun c6 => ?_) (fun c6 => ?_)
        · first
          | (exfalso; omega)
          |  (refine r_iload_n C rfl dJ3_checkIndex_8e157_16 ?_
              exact r_iret C dJ3_checkIndex_8e157_17 rfl (Nat.le_refl _) rfl rfl)
        · first
          | (exfalso; omega))

set_option maxHeartbeats 4000000 in
set_option maxRecDepth 100000 in
theorem sp_ci (G : oG) {h : oH} (x y : Int32) {j n : Nat} (hx : x.toInt = (j : Int)) (hy : y.toInt = (n : Int)) (hj : j < n) : oSp G mJ0_checkIndex_df160 [.int x, .int y] h none h := by
  refine oSp.intro [some (.int x), some (.int y)] rfl (Nat.le_of_ble_eq_true rfl) (plainFor_of_name (by decide +kernel)) (Nat.le_refl _) ?_
  intro p l e R s m args below meth c C
  refine r_iload_n C rfl dJ0_checkIndex_df160_0 ?_
  refine r_iload_n C rfl dJ0_checkIndex_df160_1 ?_
  refine r_gsN C dJ0_checkIndex_df160_2 rfl (fun t => rfl) ?_ (fun t => ?_)
  · refine r_callS C (sp_ckN G x y hx hy hj) ks_J3_checkIndex_8e157 kn_J3_checkIndex_8e157 rfl dJ0_checkIndex_df160_5 cl_J0_1059 ⟨Nat.le_of_ble_eq_true rfl, Nat.le_of_ble_eq_true rfl⟩ (Nat.le_refl _) rfl (Nat.le_of_ble_eq_true rfl) ?_
    refine r_pop C rfl dJ0_checkIndex_df160_8 ?_
    exact r_vret C dJ0_checkIndex_df160_9 rfl (Nat.le_refl _) rfl
  · have C2 := C.up t
    refine r_callS C2 (sp_ckR (upG G t) x y hx hy hj) ks_J3_checkIndex_8e157 kn_J3_checkIndex_8e157 rfl dJ0_checkIndex_df160_5 cl_J0_1059 ⟨Nat.le_of_ble_eq_true rfl, Nat.le_of_ble_eq_true rfl⟩ (Nat.le_refl _) rfl (Nat.le_of_ble_eq_true rfl) ?_
    refine r_pop C2 rfl dJ0_checkIndex_df160_8 ?_
    exact r_dn (r_vret C dJ0_checkIndex_df160_9 rfl (Nat.le_refl _) rfl) rfl

theorem sl_t {k : Nat} (hk : k < 4) : (Int32.ofNat (slen k)).toInt = ((slen k : Nat) : Int) := by
  match k, hk with
  | 0, _ => rfl
  | 1, _ => rfl
  | 2, _ => rfl
  | 3, _ => rfl
  | n + 4, hk => omega
set_option maxHeartbeats 4000000 in
set_option maxRecDepth 100000 in
theorem sp_coder (G : oG) {h : oH} {kk : Nat} (hk : kk < 4) : oSp G mJ0_coder_7d493 [.float (sv kk)] h (some (.int 0)) h := by
  refine oSp.intro [some (.float (sv kk))] rfl (Nat.le_of_ble_eq_true rfl) (plainFor_of_name (by decide +kernel)) (Nat.le_refl _) ?_
  intro p l e R s m args below meth c C
  refine r_gs1 C dJ0_coder_7d493_0 rfl ?_
  refine t_if_eq C 13 (by decide) (show (1 : Int32).toInt = 1 from rfl) dJ0_coder_7d493_3 (fun c3 => absurd c3 (by decide)) (fun c3 => ?_)
  refine r_aload_n C rfl rfl dJ0_coder_7d493_6 ?_
  refine r_strC C hk dJ0_coder_7d493_7 rfl ?_
  refine r_goto C 14 (by decide) dJ0_coder_7d493_10 ?_
  exact r_zret C dJ0_coder_7d493_14 rfl rfl (Nat.le_refl _) rfl rfl

set_option maxHeartbeats 4000000 in
set_option maxRecDepth 100000 in
theorem sp_isl (G : oG) {h : oH} {kk : Nat} (hk : kk < 4) : oSp G mJ0_isLatin1_aae02 [.float (sv kk)] h (some (.int 1)) h := by
  refine oSp.intro [some (.float (sv kk))] rfl (Nat.le_of_ble_eq_true rfl) (plainFor_of_name (by decide +kernel)) (Nat.le_refl _) ?_
  intro p l e R s m args below meth c C
  refine r_gs1 C dJ0_isLatin1_aae02_0 rfl ?_
  refine t_if_eq C 17 (by decide) (show (1 : Int32).toInt = 1 from rfl) dJ0_isLatin1_aae02_3 (fun c3 => absurd c3 (by decide)) (fun c3 => ?_)
  refine r_aload_n C rfl rfl dJ0_isLatin1_aae02_6 ?_
  refine r_strC C hk dJ0_isLatin1_aae02_7 rfl ?_
  refine t_if_ne C 17 (by decide) (show (0 : Int32).toInt = 0 from rfl) dJ0_isLatin1_aae02_10 (fun c10 => absurd c10 (by decide)) (fun c10 => ?_)
  refine r_iconstv C 1 rfl dJ0_isLatin1_aae02_13 ?_
  refine r_goto C 18 (by decide) dJ0_isLatin1_aae02_14 ?_
  exact r_zret C dJ0_isLatin1_aae02_18 rfl rfl (Nat.le_refl _) rfl rfl

set_option maxHeartbeats 4000000 in
set_option maxRecDepth 100000 in
theorem sp_slen (G : oG) {h : oH} {kk : Nat} (hk : kk < 4) : oSp G mJ0_length_8abf5 [.float (sv kk)] h (some (.int (Int32.ofNat (slen kk) >>> ((0 : Int32) &&& 31)))) h := by
  have hsl : (Int32.ofNat (slen kk)).toInt = ((slen kk : Nat) : Int) := sl_t hk
  refine oSp.intro [some (.float (sv kk))] rfl (Nat.le_of_ble_eq_true rfl) (plainFor_of_name (by decide +kernel)) (Nat.le_refl _) ?_
  intro p l e R s m args below meth c C
  refine r_aload_n C rfl rfl dJ0_length_8abf5_0 ?_
  refine r_strV C hk dJ0_length_8abf5_1 rfl ?_
  refine r_tlen C hk dJ0_length_8abf5_4 ?_
  refine r_aload_n C rfl rfl dJ0_length_8abf5_5 ?_
  refine r_callVS C (sp_coder G hk) kv_J0_coder_7d493 kn_J0_coder_7d493 rfl dJ0_length_8abf5_6 cl_J0_335 ⟨Nat.le_of_ble_eq_true rfl, Nat.le_of_ble_eq_true rfl⟩ rfl hk (Nat.le_refl _) rfl (Nat.le_of_ble_eq_true rfl) ?_
  refine r_ishr C dJ0_length_8abf5_9 ?_
  exact r_iret C dJ0_length_8abf5_10 rfl (Nat.le_refl _) rfl rfl

def sch (k j : Nat) : Int32 := ((sbyt k j &&& 255).toUInt32 % 65536).toInt32
theorem sch_i {P : Nat → Nat → Prop} (h : (∀ j, j < 5 → P 0 j) ∧ (∀ j, j < 3 → P 1 j) ∧ (∀ j, j < 3 → P 2 j) ∧ (∀ j, j < 4 → P 3 j)) {k j : Nat} (hk : k < 4) (hj : j < slen k) : P k j := by
  match k, hk with
  | 0, _ => exact h.1 j hj
  | 1, _ => exact h.2.1 j hj
  | 2, _ => exact h.2.2.1 j hj
  | 3, _ => exact h.2.2.2 j hj
  | n + 4, hk => omega
theorem nl5 {P : Nat → Prop} (h : P 0 ∧ P 1 ∧ P 2 ∧ P 3 ∧ P 4) : ∀ j, j < 5 → P j := fun j hj => by
  match j, hj with
  | 0, _ => exact h.1
  | 1, _ => exact h.2.1
  | 2, _ => exact h.2.2.1
  | 3, _ => exact h.2.2.2.1
  | 4, _ => exact h.2.2.2.2
  | n + 5, hj => omega
theorem nl4 {P : Nat → Prop} (h : P 0 ∧ P 1 ∧ P 2 ∧ P 3) : ∀ j, j < 4 → P j := fun j hj => by
  match j, hj with
  | 0, _ => exact h.1
  | 1, _ => exact h.2.1
  | 2, _ => exact h.2.2.1
  | 3, _ => exact h.2.2.2
  | n + 4, hj => omega
theorem nl3 {P : Nat → Prop} (h : P 0 ∧ P 1 ∧ P 2) : ∀ j, j < 3 → P j := fun j hj => by
  match j, hj with
  | 0, _ => exact h.1
  | 1, _ => exact h.2.1
  | 2, _ => exact h.2.2
  | n + 3, hj => omega
theorem sch_e {k j : Nat} (hk : k < 4) (hj : j < slen k) : sch k j = sbyt k j ∧ narrow .char (.int (sch k j)) = .int (sch k j) := sch_i (P := fun k j => sch k j = sbyt k j ∧ narrow .char (.int (sch k j)) = .int (sch k j)) ⟨nl5 (by decide), nl3 (by decide), nl3 (by decide), nl4 (by decide)⟩ hk hj
theorem sch_n {k j : Nat} (hk : k < 4) (hj : j < slen k) : narrow .char (.int (sch k j)) = .int (sch k j) := (sch_e hk hj).2
set_option maxHeartbeats 4000000 in
set_option maxRecDepth 100000 in
theorem sp_lch (G : oG) {h : oH} {kk : Nat} (hk : kk < 4) (x : Int32) {j : Nat} (hx : x.toInt = (j : Int)) (hj : j < slen kk) : oSp G mJ1_charAt_3b067 [.float (sv (100 + kk)), .int x] h (some (.int (sch kk j))) h := by
  have hsl : (Int32.ofNat (slen kk)).toInt = ((slen kk : Nat) : Int) := sl_t hk
  refine oSp.intro [some (.float (sv (100 + kk))), some (.int x)] rfl (Nat.le_of_ble_eq_true rfl) (plainFor_of_name (by decide +kernel)) (Nat.le_refl _) ?_
  intro p l e R s m args below meth c C
  refine r_iload_n C rfl dJ1_charAt_3b067_0 ?_
  refine r_aload_n C rfl rfl dJ1_charAt_3b067_1 ?_
  refine r_tlen C hk dJ1_charAt_3b067_2 ?_
  refine r_callS C (sp_ci G _ _ hx hsl hj) ks_J0_checkIndex_df160 kn_J0_checkIndex_df160 rfl dJ1_charAt_3b067_3 cl_J1_9 ⟨Nat.le_of_ble_eq_true rfl, Nat.le_of_ble_eq_true rfl⟩ (Nat.le_refl _) rfl (Nat.le_of_ble_eq_true rfl) ?_
  refine r_aload_n C rfl rfl dJ1_charAt_3b067_6 ?_
  refine r_iload_n C rfl dJ1_charAt_3b067_7 ?_
  refine r_tbl C hk (j) hx hj dJ1_charAt_3b067_8 ?_
  refine r_sipush C 255 rfl dJ1_charAt_3b067_9 ?_
  refine r_iand C dJ1_charAt_3b067_12 ?_
  refine r_i2c C dJ1_charAt_3b067_13 ?_
  exact r_zret C dJ1_charAt_3b067_14 rfl (sch_n hk hj) (Nat.le_refl _) rfl rfl

set_option maxHeartbeats 4000000 in
set_option maxRecDepth 100000 in
theorem sp_chr (G : oG) {h : oH} {kk : Nat} (hk : kk < 4) (x : Int32) {j : Nat} (hx : x.toInt = (j : Int)) (hj : j < slen kk) : oSp G mJ0_charAt_5068e [.float (sv kk), .int x] h (some (.int (sch kk j))) h := by
  refine oSp.intro [some (.float (sv kk)), some (.int x)] rfl (Nat.le_of_ble_eq_true rfl) (plainFor_of_name (by decide +kernel)) (Nat.le_refl _) ?_
  intro p l e R s m args below meth c C
  refine r_aload_n C rfl rfl dJ0_charAt_5068e_0 ?_
  refine r_callVS C (sp_isl G hk) kv_J0_isLatin1_aae02 kn_J0_isLatin1_aae02 rfl dJ0_charAt_5068e_1 cl_J0_492 ⟨Nat.le_of_ble_eq_true rfl, Nat.le_of_ble_eq_true rfl⟩ rfl hk (Nat.le_refl _) rfl (Nat.le_of_ble_eq_true rfl) ?_
  refine t_if_eq C 16 (by decide) (show (1 : Int32).toInt = 1 from rfl) dJ0_charAt_5068e_4 (fun c4 => absurd c4 (by decide)) (fun c4 => ?_)
  refine r_aload_n C rfl rfl dJ0_charAt_5068e_7 ?_
  refine r_strV C hk dJ0_charAt_5068e_8 rfl ?_
  refine r_iload_n C rfl dJ0_charAt_5068e_11 ?_
  refine r_callS C (sp_lch G hk _ hx hj) ks_J1_charAt_3b067 kn_J1_charAt_3b067 rfl dJ0_charAt_5068e_12 cl_J0_495 ⟨Nat.le_of_ble_eq_true rfl, Nat.le_of_ble_eq_true rfl⟩ (Nat.le_refl _) rfl (Nat.le_of_ble_eq_true rfl) ?_
  exact r_zret C dJ0_charAt_5068e_15 rfl (sch_n hk hj) (Nat.le_refl _) rfl rfl

