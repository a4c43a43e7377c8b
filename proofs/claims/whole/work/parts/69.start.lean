/-! the whole: from the law's entry -/
def tmS (i : Nat) : Term := Term.string RX3 ([104, 110, 112, 114].getD i 0)
set_option maxRecDepth 100000 in
theorem st_ex {A : Array Value} {s : State} (hgv : (Jvm.Cond.and given_1 narrow_1).before A s = true) : ∀ i : Nat, i < 4 → (Cond.exactly (tmS i) "java/lang/String").before A s = true := by
  have hs := flat_of_before _ hgv
  intro i hi
  match i, hi with
  | 0, _ => exact hs (Cond.exactly (Term.string "OilRound$PlanText" 104) "java/lang/String") (by decide +kernel)
  | 1, _ => exact hs (Cond.exactly (Term.string "OilRound$PlanText" 110) "java/lang/String") (by decide +kernel)
  | 2, _ => exact hs (Cond.exactly (Term.string "OilRound$PlanText" 112) "java/lang/String") (by decide +kernel)
  | 3, _ => exact hs (Cond.exactly (Term.string "OilRound$PlanText" 114) "java/lang/String") (by decide +kernel)
  | k + 4, hk => exact absurd hk (by omega)
set_option maxRecDepth 100000 in
theorem st_co {A : Array Value} {s : State} (hgv : (Jvm.Cond.and given_1 narrow_1).before A s = true) : ∀ i : Nat, i < 4 → (Cond.eq (.field (tmS i) "java/lang/String" "coder" "B") (.int 0)).before A s = true := by
  have hs := flat_of_before _ hgv
  intro i hi
  match i, hi with
  | 0, _ => exact hs (Cond.eq (.field (Term.string "OilRound$PlanText" 104) "java/lang/String" "coder" "B") (.int 0)) (by decide +kernel)
  | 1, _ => exact hs (Cond.eq (.field (Term.string "OilRound$PlanText" 110) "java/lang/String" "coder" "B") (.int 0)) (by decide +kernel)
  | 2, _ => exact hs (Cond.eq (.field (Term.string "OilRound$PlanText" 112) "java/lang/String" "coder" "B") (.int 0)) (by decide +kernel)
  | 3, _ => exact hs (Cond.eq (.field (Term.string "OilRound$PlanText" 114) "java/lang/String" "coder" "B") (.int 0)) (by decide +kernel)
  | k + 4, hk => exact absurd hk (by omega)
set_option maxRecDepth 100000 in
theorem st_ar {A : Array Value} {s : State} (hgv : (Jvm.Cond.and given_1 narrow_1).before A s = true) : ∀ i : Nat, i < 4 → (Cond.arrayOf (.field (tmS i) "java/lang/String" "value" "[B") .byte).before A s = true := by
  have hs := flat_of_before _ hgv
  intro i hi
  match i, hi with
  | 0, _ => exact hs (Cond.arrayOf (.field (Term.string "OilRound$PlanText" 104) "java/lang/String" "value" "[B") .byte) (by decide +kernel)
  | 1, _ => exact hs (Cond.arrayOf (.field (Term.string "OilRound$PlanText" 110) "java/lang/String" "value" "[B") .byte) (by decide +kernel)
  | 2, _ => exact hs (Cond.arrayOf (.field (Term.string "OilRound$PlanText" 112) "java/lang/String" "value" "[B") .byte) (by decide +kernel)
  | 3, _ => exact hs (Cond.arrayOf (.field (Term.string "OilRound$PlanText" 114) "java/lang/String" "value" "[B") .byte) (by decide +kernel)
  | k + 4, hk => exact absurd hk (by omega)
set_option maxRecDepth 100000 in
theorem st_le {A : Array Value} {s : State} (hgv : (Jvm.Cond.and given_1 narrow_1).before A s = true) : ∀ i : Nat, i < 4 → (Cond.eq (.length (.field (tmS i) "java/lang/String" "value" "[B")) (.int (Int32.ofNat ([5, 3, 3, 4].getD i 0)))).before A s = true := by
  have hs := flat_of_before _ hgv
  intro i hi
  match i, hi with
  | 0, _ => exact hs (Cond.eq (.length (.field (Term.string "OilRound$PlanText" 104) "java/lang/String" "value" "[B")) (.int 5)) (by decide +kernel)
  | 1, _ => exact hs (Cond.eq (.length (.field (Term.string "OilRound$PlanText" 110) "java/lang/String" "value" "[B")) (.int 3)) (by decide +kernel)
  | 2, _ => exact hs (Cond.eq (.length (.field (Term.string "OilRound$PlanText" 112) "java/lang/String" "value" "[B")) (.int 3)) (by decide +kernel)
  | 3, _ => exact hs (Cond.eq (.length (.field (Term.string "OilRound$PlanText" 114) "java/lang/String" "value" "[B")) (.int 4)) (by decide +kernel)
  | k + 4, hk => exact absurd hk (by omega)
set_option maxRecDepth 100000 in
theorem st_el {A : Array Value} {s : State} (hgv : (Jvm.Cond.and given_1 narrow_1).before A s = true) : ∀ i : Nat, i < 4 → ∀ j : Nat, j < [5, 3, 3, 4].getD i 0 → (Cond.eq (.elem (.field (tmS i) "java/lang/String" "value" "[B") (.int (Int32.ofNat j))) (.int (([[104, 111, 117, 115, 101], [100, 97, 121], [99, 97, 112], [112, 97, 105, 100]].getD i []).getD j 0))).before A s = true := by
  have hs := flat_of_before _ hgv
  intro i hi j hj
  match i, hi, j, hj with
  | 0, _, 0, _ => exact hs (Cond.eq (.elem (.field (Term.string "OilRound$PlanText" 104) "java/lang/String" "value" "[B") (.int 0)) (.int 104)) (by decide +kernel)
  | 0, _, 1, _ => exact hs (Cond.eq (.elem (.field (Term.string "OilRound$PlanText" 104) "java/lang/String" "value" "[B") (.int 1)) (.int 111)) (by decide +kernel)
  | 0, _, 2, _ => exact hs (Cond.eq (.elem (.field (Term.string "OilRound$PlanText" 104) "java/lang/String" "value" "[B") (.int 2)) (.int 117)) (by decide +kernel)
  | 0, _, 3, _ => exact hs (Cond.eq (.elem (.field (Term.string "OilRound$PlanText" 104) "java/lang/String" "value" "[B") (.int 3)) (.int 115)) (by decide +kernel)
  | 0, _, 4, _ => exact hs (Cond.eq (.elem (.field (Term.string "OilRound$PlanText" 104) "java/lang/String" "value" "[B") (.int 4)) (.int 101)) (by decide +kernel)
  | 0, _, j + 5, hj => exact absurd (show j + 5 < 5 from hj) (by omega)
  | 1, _, 0, _ => exact hs (Cond.eq (.elem (.field (Term.string "OilRound$PlanText" 110) "java/lang/String" "value" "[B") (.int 0)) (.int 100)) (by decide +kernel)
  | 1, _, 1, _ => exact hs (Cond.eq (.elem (.field (Term.string "OilRound$PlanText" 110) "java/lang/String" "value" "[B") (.int 1)) (.int 97)) (by decide +kernel)
  | 1, _, 2, _ => exact hs (Cond.eq (.elem (.field (Term.string "OilRound$PlanText" 110) "java/lang/String" "value" "[B") (.int 2)) (.int 121)) (by decide +kernel)
  | 1, _, j + 3, hj => exact absurd (show j + 3 < 3 from hj) (by omega)
  | 2, _, 0, _ => exact hs (Cond.eq (.elem (.field (Term.string "OilRound$PlanText" 112) "java/lang/String" "value" "[B") (.int 0)) (.int 99)) (by decide +kernel)
  | 2, _, 1, _ => exact hs (Cond.eq (.elem (.field (Term.string "OilRound$PlanText" 112) "java/lang/String" "value" "[B") (.int 1)) (.int 97)) (by decide +kernel)
  | 2, _, 2, _ => exact hs (Cond.eq (.elem (.field (Term.string "OilRound$PlanText" 112) "java/lang/String" "value" "[B") (.int 2)) (.int 112)) (by decide +kernel)
  | 2, _, j + 3, hj => exact absurd (show j + 3 < 3 from hj) (by omega)
  | 3, _, 0, _ => exact hs (Cond.eq (.elem (.field (Term.string "OilRound$PlanText" 114) "java/lang/String" "value" "[B") (.int 0)) (.int 112)) (by decide +kernel)
  | 3, _, 1, _ => exact hs (Cond.eq (.elem (.field (Term.string "OilRound$PlanText" 114) "java/lang/String" "value" "[B") (.int 1)) (.int 97)) (by decide +kernel)
  | 3, _, 2, _ => exact hs (Cond.eq (.elem (.field (Term.string "OilRound$PlanText" 114) "java/lang/String" "value" "[B") (.int 2)) (.int 105)) (by decide +kernel)
  | 3, _, 3, _ => exact hs (Cond.eq (.elem (.field (Term.string "OilRound$PlanText" 114) "java/lang/String" "value" "[B") (.int 3)) (.int 100)) (by decide +kernel)
  | 3, _, j + 4, hj => exact absurd (show j + 4 < 4 from hj) (by omega)
  | k + 4, hk, _, _ => exact absurd hk (by omega)
set_option maxRecDepth 100000 in
theorem st_ne {A : Array Value} {s : State} (hgv : (Jvm.Cond.and given_1 narrow_1).before A s = true) : ∀ i j : Nat, i < 4 → j < 4 → i ≠ j → (Cond.not (Cond.eq (tmS i) (tmS j))).before A s = true ∨ (Cond.not (Cond.eq (tmS j) (tmS i))).before A s = true := by
  have hs := flat_of_before _ hgv
  intro i j hi hj hij
  match i, hi, j, hj with
  | 0, _, 0, _ => exact absurd rfl hij
  | 0, _, 1, _ => exact Or.inl (hs (Cond.not (Cond.eq (Term.string "OilRound$PlanText" 104) (Term.string "OilRound$PlanText" 110))) (by decide +kernel))
  | 0, _, 2, _ => exact Or.inl (hs (Cond.not (Cond.eq (Term.string "OilRound$PlanText" 104) (Term.string "OilRound$PlanText" 112))) (by decide +kernel))
  | 0, _, 3, _ => exact Or.inl (hs (Cond.not (Cond.eq (Term.string "OilRound$PlanText" 104) (Term.string "OilRound$PlanText" 114))) (by decide +kernel))
  | 0, _, j + 4, hj => exact absurd hj (by omega)
  | 1, _, 0, _ => exact Or.inr (hs (Cond.not (Cond.eq (Term.string "OilRound$PlanText" 104) (Term.string "OilRound$PlanText" 110))) (by decide +kernel))
  | 1, _, 1, _ => exact absurd rfl hij
  | 1, _, 2, _ => exact Or.inl (hs (Cond.not (Cond.eq (Term.string "OilRound$PlanText" 110) (Term.string "OilRound$PlanText" 112))) (by decide +kernel))
  | 1, _, 3, _ => exact Or.inl (hs (Cond.not (Cond.eq (Term.string "OilRound$PlanText" 110) (Term.string "OilRound$PlanText" 114))) (by decide +kernel))
  | 1, _, j + 4, hj => exact absurd hj (by omega)
  | 2, _, 0, _ => exact Or.inr (hs (Cond.not (Cond.eq (Term.string "OilRound$PlanText" 104) (Term.string "OilRound$PlanText" 112))) (by decide +kernel))
  | 2, _, 1, _ => exact Or.inr (hs (Cond.not (Cond.eq (Term.string "OilRound$PlanText" 110) (Term.string "OilRound$PlanText" 112))) (by decide +kernel))
  | 2, _, 2, _ => exact absurd rfl hij
  | 2, _, 3, _ => exact Or.inl (hs (Cond.not (Cond.eq (Term.string "OilRound$PlanText" 112) (Term.string "OilRound$PlanText" 114))) (by decide +kernel))
  | 2, _, j + 4, hj => exact absurd hj (by omega)
  | 3, _, 0, _ => exact Or.inr (hs (Cond.not (Cond.eq (Term.string "OilRound$PlanText" 104) (Term.string "OilRound$PlanText" 114))) (by decide +kernel))
  | 3, _, 1, _ => exact Or.inr (hs (Cond.not (Cond.eq (Term.string "OilRound$PlanText" 110) (Term.string "OilRound$PlanText" 114))) (by decide +kernel))
  | 3, _, 2, _ => exact Or.inr (hs (Cond.not (Cond.eq (Term.string "OilRound$PlanText" 112) (Term.string "OilRound$PlanText" 114))) (by decide +kernel))
  | 3, _, 3, _ => exact absurd rfl hij
  | 3, _, j + 4, hj => exact absurd hj (by omega)
  | k + 4, hk, _, _ => exact absurd hk (by omega)
theorem st_K {A : Array Value} {s : State} (hw : ∀ w ∈ oWL, w.before A s = true) (hao : (Cond.arrayOver (.object "OilRound$House")).before A s = true) : ∃ (D : va_G) (ar : Nat → ClassId), va_K D vwCl [(ar 0, .int), (ar 1, .byte), (ar 2, .boolean), (ar 3, .object "OilRound$House")] s := by
  obtain ⟨a0, i0, e0⟩ := u_known (T := TX0) (N := 2) hw inlX0 (hw _ in_X0)
  obtain ⟨a1, i1, e1⟩ := u_known (T := TX1) (N := 15) hw inlX1 (hw _ in_X1)
  obtain ⟨a2, i2, e2⟩ := u_known (T := TX2) (N := 3) hw inlX2 (hw _ in_X2)
  obtain ⟨a3, i3, e3⟩ := u_known (T := TX3) (N := 12) hw inlX3 (hw _ in_X3)
  obtain ⟨a4, i4, e4⟩ := u_known (T := TX4) (N := 7) hw inlX4 (hw _ in_X4)
  obtain ⟨a5, i5, e5⟩ := u_known (T := TX5) (N := 14) hw inlX5 (hw _ in_X5)
  obtain ⟨a6, i6, e6⟩ := u_known (T := TX6) (N := 45) hw inlX6 (hw _ in_X6)
  obtain ⟨ci, ki, pi, fi, gi, ti⟩ := Cond.arrayClass_spec (hw _ ac_int)
  obtain ⟨cb, kb, pb, fb, gb, tb⟩ := Cond.arrayClass_spec (hw _ ac_byte)
  obtain ⟨cz, kz, pz, fz, gz, tz⟩ := Cond.arrayClass_spec (hw _ ac_boolean)
  obtain ⟨ph, ch, kh, fh, -, gh, th, nh⟩ := Cond.arrayOver_spec hao
  refine ⟨(fun k => [a0, a1, a2, a3, a4, a5, a6].getD k a0, fun k j => [i0 j, i1 j, i2 j, i3 j, i4 j, i5 j, i6 j].getD k 0), fun k => [ci, cb, cz, ch].getD k ci, fun k q hq => ?_, fun k q hq => ?_⟩
  · match k, hq with
    | 0, hq => cases hq; exact e0
    | 1, hq => cases hq; exact e1
    | 2, hq => cases hq; exact e2
    | 3, hq => cases hq; exact e3
    | 4, hq => cases hq; exact e4
    | 5, hq => cases hq; exact e5
    | 6, hq => cases hq; exact e6
    | k + 7, hq => cases hq
  · match k, hq with
    | 0, hq => cases hq; exact ⟨fun n z => ⟨fun k h => (by cases h), ki, gi, pi, ti⟩, fi⟩
    | 1, hq => cases hq; exact ⟨fun n z => ⟨fun k h => (by cases h), kb, gb, pb, tb⟩, fb⟩
    | 2, hq => cases hq; exact ⟨fun n z => ⟨fun k h => (by cases h), kz, gz, pz, tz⟩, fz⟩
    | 3, hq => cases hq; exact ⟨fun n z => ⟨fun k h => (by cases h), kh, gh, ph, th⟩, kh, ph, gh, th, fh, nh⟩
    | k + 4, hq => cases hq
set_option maxHeartbeats 4000000 in
set_option maxRecDepth 100000 in
theorem whole_start {p : Program} {e : Env} {s : State} {m : MethodId} {below : List Frame} {meth : Method} {c : Code} (l : Launch) (hflags : l.flags = flags0) {b L : Nat} {xs : Nat → Int32} (hL : L ≤ 3072) (C0 : lw_At p s m meth c b L xs) : W p l e room_1 s m #[Value.ref b] below meth c s.heap [] 0 0 (lw_Z below #[Value.ref b] s) (entryFrame m ([Value.ref b] : List Value).toArray 4) := by
  obtain ⟨hx, hbc, hr, hml, hown, hts, hX, hbl, hlocks, hgv⟩ := C0
  have hw : ∀ w ∈ oWL, w.before #[Value.ref b] s = true := fun w q => hts w (List.mem_filter.mp q).1
  have hfl := flat_of_before _ hgv
  have hao := hts (.arrayOver (.object "OilRound$House")) (by decide +kernel)
  obtain ⟨D, ar, hK⟩ := st_K hw hao
  have hA : ∀ a : Nat, a < s.heap.size → ¬ (s.heap.size ≤ a) := fun a q => by omega
  obtain ⟨adK, adV, hS, hE⟩ := vk_Sof (A := fun q => s.heap.size ≤ q) (N := 4) (tm := tmS) (len := [5, 3, 3, 4]) (byt := [[104, 111, 117, 115, 101], [100, 97, 121], [99, 97, 112], [112, 97, 105, 100]]) (by decide) (st_ex hgv) (st_co hgv) (st_ar hgv) (st_le hgv) (st_el hgv) (st_ne hgv) hA
  have hZ : va_Z "java/lang/String" "COMPACT_STRINGS" "Z" (.int 1) (fun q => s.heap.size ≤ q) s s.heap := va_Zof (hts (.laysStatic "java/lang/String" "COMPACT_STRINGS" "Z") (by decide +kernel)) (hts (.initialized "java/lang/String") (by decide +kernel)) (va_eqi (hfl (Cond.eq (.static "java/lang/String" "COMPACT_STRINGS" "Z") (.int 1)) (by decide +kernel))) hA
  have hZq : va_Zq "jdk/internal/util/Preconditions" "SIOOBE_FORMATTER" "Ljava/util/function/BiFunction;" (fun q => s.heap.size ≤ q) s s.heap := va_Zqof (hts (.laysStatic "jdk/internal/util/Preconditions" "SIOOBE_FORMATTER" "Ljava/util/function/BiFunction;") (by decide +kernel)) (hts (.initialized "jdk/internal/util/Preconditions") (by decide +kernel)) (hfl (Cond.isRef (.static "jdk/internal/util/Preconditions" "SIOOBE_FORMATTER" "Ljava/util/function/BiFunction;")) (by decide +kernel)) hA
  have hR0 : vk_R RX3 104 "house" (adK 0) s := vk_R.of (hts (.stringRef "OilRound$PlanText" 104 "house") (by decide +kernel)) (hE 0 (by decide))
  have hR1 : vk_R RX3 110 "day" (adK 1) s := vk_R.of (hts (.stringRef "OilRound$PlanText" 110 "day") (by decide +kernel)) (hE 1 (by decide))
  have hR2 : vk_R RX3 112 "cap" (adK 2) s := vk_R.of (hts (.stringRef "OilRound$PlanText" 112 "cap") (by decide +kernel)) (hE 2 (by decide))
  have hR3 : vk_R RX3 114 "paid" (adK 3) s := vk_R.of (hts (.stringRef "OilRound$PlanText" 114 "paid") (by decide +kernel)) (hE 3 (by decide))
  have hN : ∀ q ∈ oNestL, va_Nw (.methodLinkNest q.1 q.2.1 q.2.2 "OilRound") s := by
    intro q hq
    rcases List.mem_cons.mp hq with e | hq
    · rw [e]
      exact va_Nw.of rfl (hts (.methodLinkNest "OilRound" 17 ⟨"OilRound$Route", "<init>", "()V"⟩ "OilRound") (by decide +kernel))
    rcases List.mem_cons.mp hq with e | hq
    · rw [e]
      exact va_Nw.of rfl (hts (.methodLinkNest "OilRound" 24 ⟨"OilRound$PlanText", "<init>", "()V"⟩ "OilRound") (by decide +kernel))
    rcases List.mem_cons.mp hq with e | hq
    · rw [e]
      exact va_Nw.of rfl (hts (.methodLinkNest "OilRound" 31 ⟨"OilRound$Asks", "<init>", "()V"⟩ "OilRound") (by decide +kernel))
    rcases List.mem_cons.mp hq with e | hq
    · rw [e]
      exact va_Nw.of rfl (hts (.methodLinkNest "OilRound$House" 11 ⟨"OilRound$Plan", "<init>", "()V"⟩ "OilRound") (by decide +kernel))
    rcases List.mem_cons.mp hq with e | hq
    · rw [e]
      exact va_Nw.of rfl (hts (.methodLinkNest "OilRound$Route" 50 ⟨"OilRound", "houseIn", "([LOilRound$House;I)LOilRound$House;"⟩ "OilRound") (by decide +kernel))
    rcases List.mem_cons.mp hq with e | hq
    · rw [e]
      exact va_Nw.of rfl (hts (.methodLinkNest "OilRound$Route" 78 ⟨"OilRound", "isOutside", "(III)Z"⟩ "OilRound") (by decide +kernel))
    rcases List.mem_cons.mp hq with e | hq
    · rw [e]
      exact va_Nw.of rfl (hts (.methodLinkNest "OilRound$PlanText" 79 ⟨"OilRound", "houseIn", "([LOilRound$House;I)LOilRound$House;"⟩ "OilRound") (by decide +kernel))
    · cases hq
  obtain ⟨G, hGd⟩ : ∃ G : oG, G = (s.heap.size, D, ar, adK, fun k => if k = 5 then b else adV k) := ⟨_, rfl⟩
  have hG1 : G.1 = s.heap.size := by rw [hGd]
  have hv : G.2.2.2.2 5 = b := by rw [hGd]; rfl
  have hXX : oX G s s.heap := by
    rw [hGd]
    refine ⟨⟨fun i hi => ?_, hS.2⟩, hZ, hZq⟩
    have q := hS.1 i hi
    refine ⟨q.1, q.2.1, ?_, ?_⟩
    · show va_OF _ _ _ (.ref (if i = 5 then b else adV i)) _ _ _ _
      rw [if_neg (by omega)]
      exact q.2.2.1
    · show va_T _ (if i = 5 then b else adV i) _ _ _ _ _
      rw [if_neg (by omega)]
      exact q.2.2.2
  have hXR : oXR G s := by
    rw [hGd]
    exact ⟨hR0, hR1, hR2, hR3, va_AO.of hao, hN⟩
  have hKK : va_K G.2.1 vwCl (oTys G) s := by
    rw [hGd]
    exact hK
  have hsl := sl83
  have C : oC G (mL meth.name) 0 83 p l room_1 s m #[Value.ref b] meth c := ⟨hx, hbc, hr, hml, hown, hw, hlocks, rfl, hKK, hXX, hXR, by rw [hG1]; exact Nat.le_refl _, Nat.le_refl 13, Nat.le_refl 474, (show 83 ≤ 600000 by decide), Nat.le_trans (Nat.sub_le _ _) hsl⟩
  have hb : b < s.heap.size ∧ ¬ G.1 ≤ b := ⟨hbl, by rw [hG1]; omega⟩
  have main : oS G (mL meth.name) p l e room_1 s m #[Value.ref b] below meth c (lw_Z below #[Value.ref b] s) 0 0 [some (.float (sv 105)), none, none, none] [] q1 := by
    refine r_new C (ci := 5) dL_law_0 (by decide) rfl ck_L_7 in_X5 iz_X5 (Nat.le_of_ble_eq_true rfl) ?_
    refine oS_h (h2 := q2) rfl ?_
    refine r_dup C rfl dL_law_3 ?_
    refine r_callI C (sp_mk_X5_init G) ki_X5_init rfl rfl kn_X5_init rfl dL_law_4 cl_L_9 ⟨Nat.le_of_ble_eq_true rfl, Nat.le_of_ble_eq_true rfl⟩ (Nat.le_of_ble_eq_true rfl) rfl (Nat.le_of_ble_eq_true rfl) ?_
    refine r_astore_n C rfl rfl (Nat.le_of_ble_eq_true rfl) dL_law_7 ?_
    refine r_new C (ci := 6) dL_law_8 (by decide) rfl ck_L_10 in_X6 iz_X6 (Nat.le_of_ble_eq_true rfl) ?_
    refine oS_h (h2 := q49) rfl ?_
    refine r_dup C rfl dL_law_11 ?_
    refine r_callI C (sp_mk_X6_init G) ki_X6_init rfl rfl kn_X6_init rfl dL_law_12 cl_L_12 ⟨Nat.le_of_ble_eq_true rfl, Nat.le_of_ble_eq_true rfl⟩ (Nat.le_of_ble_eq_true rfl) rfl (Nat.le_of_ble_eq_true rfl) ?_
    refine r_astore_n C rfl rfl (Nat.le_of_ble_eq_true rfl) dL_law_15 ?_
    refine r_iconstv C 0 rfl dL_law_16 ?_
    refine r_istore_n C rfl (Nat.le_of_ble_eq_true rfl) dL_law_17 ?_
    exact lw_loop C hX hb hv hG1 hL 513 0 rfl inv0 rfl (Nat.zero_le _)
  have hent := oEnt_ok G (as := [.float (sv 105)]) (n := 4) (by decide)
  have e1 : [Value.float (sv 105)].map (oV G) = [Value.ref b] := by
    show [oV G (.float (sv 105))] = _
    rw [oV_5, hv]
  rw [e1] at hent
  have k := main s.heap [] _ va_S.rf (fun k q hq => by cases hq) hG1.symm (Nat.le_refl 0) hent
  rw [lg_entry_eq]
  exact k
