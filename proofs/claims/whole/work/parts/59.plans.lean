/-! plans, by numbers -/
def ei (T : Nat → Int) (z q : Nat) : Nat → Nat
  | 0 => q
  | i + 1 => xE T z (ei T z q i)
abbrev Pl : Type := Nat × Int32 × Int32 × Int32
abbrev kE (T : Nat → Int) (z q i : Nat) : Nat := xK T z (ei T z q i)
abbrev vE (T : Nat → Int) (z q i : Nat) : Int := xV T z (ei T z q i)
def okP (T : Nat → Int) (z n q : Nat) (x : Pl) (r : Nat) : Prop := kE T z q 0 = 1 ∧ kE T z q 1 = 5 ∧ x.1 < n ∧ vE T z q 1 = (x.1 : Int) ∧ ((kE T z q 2 = 2 ∧ kE T z q 3 = 6 ∧ x.2 = (0, 0, 0) ∧ r = ei T z q 4) ∨ (kE T z q 2 = 3 ∧ kE T z q 3 = 5 ∧ kE T z q 4 = 6 ∧ x.2 = (1, 0, oI (vE T z q 3)) ∧ r = ei T z q 5) ∨ (kE T z q 2 = 4 ∧ kE T z q 3 = 5 ∧ kE T z q 4 = 7 ∧ kE T z q 5 = 5 ∧ kE T z q 6 = 6 ∧ x.2 = (2, oI (vE T z q 3), oI (vE T z q 5)) ∧ r = ei T z q 7))
def fa (T : Nat → Int) (z q i : Nat) (f s : Nat) : Prop := f = 1 ∧ s = xS T z (ei T z q i)
def flP (T : Nat → Int) (z n q : Nat) (f s : Nat) : Prop := (kE T z q 0 ≠ 1 ∧ fa T z q 0 f s) ∨ (kE T z q 0 = 1 ∧ kE T z q 1 ≠ 5 ∧ fa T z q 1 f s) ∨ (kE T z q 0 = 1 ∧ kE T z q 1 = 5 ∧ ¬ vE T z q 1 < n ∧ f = 2 ∧ s = xS T z (ei T z q 1)) ∨ (kE T z q 0 = 1 ∧ kE T z q 1 = 5 ∧ vE T z q 1 < n ∧ ((¬ (2 ≤ kE T z q 2 ∧ kE T z q 2 ≤ 4) ∧ fa T z q 2 f s) ∨ (kE T z q 2 = 2 ∧ kE T z q 3 ≠ 6 ∧ fa T z q 3 f s) ∨ (kE T z q 2 = 3 ∧ kE T z q 3 ≠ 5 ∧ fa T z q 3 f s) ∨ (kE T z q 2 = 3 ∧ kE T z q 3 = 5 ∧ kE T z q 4 ≠ 6 ∧ fa T z q 4 f s) ∨ (kE T z q 2 = 4 ∧ kE T z q 3 ≠ 5 ∧ fa T z q 3 f s) ∨ (kE T z q 2 = 4 ∧ kE T z q 3 = 5 ∧ kE T z q 4 ≠ 7 ∧ fa T z q 4 f s) ∨ (kE T z q 2 = 4 ∧ kE T z q 3 = 5 ∧ kE T z q 4 = 7 ∧ kE T z q 5 ≠ 5 ∧ fa T z q 5 f s) ∨ (kE T z q 2 = 4 ∧ kE T z q 3 = 5 ∧ kE T z q 4 = 7 ∧ kE T z q 5 = 5 ∧ kE T z q 6 ≠ 6 ∧ fa T z q 6 f s)))
theorem xV_b {T : Nat → Int} {z q : Nat} (h : q ≤ z) (k : xK T z q = 5) : 0 ≤ xV T z q ∧ xV T z q ≤ 99999 := by
  have h1 := xKR (T := T) h
  have h2 := h1.2.2.2.2.2.2.1 (h1.2.1.mpr k)
  have hb := nv_b (T := T) (s := xS T z q) (xE T z q - xS T z q) (by omega) (fun j hj => h2.2.2 (xS T z q + j) (by omega) (by omega))
  have hp := p10 (xE T z q - xS T z q) (by omega)
  unfold xV
  omega
theorem one_ex {T : Nat → Int} {z n q : Nat} (hq : q ≤ z) : (∃ x r, okP T z n q x r) ∨ ∃ f s, flP T z n q f s := by
  by_cases k0 : kE T z q 0 = 1
  · by_cases k1 : kE T z q 1 = 5
    · have hq1 : ei T z q 1 ≤ z := (xE_w (T := T) hq).2.1
      have hv := xV_b hq1 k1
      by_cases v1 : vE T z q 1 < n
      · have hv1 : vE T z q 1 = ((vE T z q 1).toNat : Int) := by
          have : 0 ≤ vE T z q 1 := hv.1
          omega
        have hvn : (vE T z q 1).toNat < n := by omega
        by_cases k2 : kE T z q 2 = 2
        · by_cases k3 : kE T z q 3 = 6
          · exact Or.inl ⟨((vE T z q 1).toNat, 0, 0, 0), _, k0, k1, hvn, hv1, Or.inl ⟨k2, k3, rfl, rfl⟩⟩
          · exact Or.inr ⟨1, _, Or.inr (Or.inr (Or.inr ⟨k0, k1, v1, Or.inr (Or.inl ⟨k2, k3, rfl, rfl⟩)⟩))⟩
        · by_cases k2b : kE T z q 2 = 3
          · by_cases k3 : kE T z q 3 = 5
            · by_cases k4 : kE T z q 4 = 6
              · exact Or.inl ⟨((vE T z q 1).toNat, 1, 0, oI (vE T z q 3)), _, k0, k1, hvn, hv1, Or.inr (Or.inl ⟨k2b, k3, k4, rfl, rfl⟩)⟩
              · exact Or.inr ⟨1, _, Or.inr (Or.inr (Or.inr ⟨k0, k1, v1, Or.inr (Or.inr (Or.inr (Or.inl ⟨k2b, k3, k4, rfl, rfl⟩)))⟩))⟩
            · exact Or.inr ⟨1, _, Or.inr (Or.inr (Or.inr ⟨k0, k1, v1, Or.inr (Or.inr (Or.inl ⟨k2b, k3, rfl, rfl⟩))⟩))⟩
          · by_cases k2c : kE T z q 2 = 4
            · by_cases k3 : kE T z q 3 = 5
              · by_cases k4 : kE T z q 4 = 7
                · by_cases k5 : kE T z q 5 = 5
                  · by_cases k6 : kE T z q 6 = 6
                    · exact Or.inl ⟨((vE T z q 1).toNat, 2, oI (vE T z q 3), oI (vE T z q 5)), _, k0, k1, hvn, hv1, Or.inr (Or.inr ⟨k2c, k3, k4, k5, k6, rfl, rfl⟩)⟩
                    · exact Or.inr ⟨1, _, Or.inr (Or.inr (Or.inr ⟨k0, k1, v1, Or.inr (Or.inr (Or.inr (Or.inr (Or.inr (Or.inr (Or.inr ⟨k2c, k3, k4, k5, k6, rfl, rfl⟩))))))⟩))⟩
                  · exact Or.inr ⟨1, _, Or.inr (Or.inr (Or.inr ⟨k0, k1, v1, Or.inr (Or.inr (Or.inr (Or.inr (Or.inr (Or.inr (Or.inl ⟨k2c, k3, k4, k5, rfl, rfl⟩))))))⟩))⟩
                · exact Or.inr ⟨1, _, Or.inr (Or.inr (Or.inr ⟨k0, k1, v1, Or.inr (Or.inr (Or.inr (Or.inr (Or.inr (Or.inl ⟨k2c, k3, k4, rfl, rfl⟩)))))⟩))⟩
              · exact Or.inr ⟨1, _, Or.inr (Or.inr (Or.inr ⟨k0, k1, v1, Or.inr (Or.inr (Or.inr (Or.inr (Or.inl ⟨k2c, k3, rfl, rfl⟩))))⟩))⟩
            · exact Or.inr ⟨1, _, Or.inr (Or.inr (Or.inr ⟨k0, k1, v1, Or.inl ⟨by omega, rfl, rfl⟩⟩))⟩
      · exact Or.inr ⟨2, _, Or.inr (Or.inr (Or.inl ⟨k0, k1, v1, rfl, rfl⟩))⟩
    · exact Or.inr ⟨1, _, Or.inr (Or.inl ⟨k0, k1, rfl, rfl⟩)⟩
  · exact Or.inr ⟨1, _, Or.inl ⟨k0, rfl, rfl⟩⟩
theorem ei_z {T : Nat → Int} {z q : Nat} (hq : q ≤ z) : ∀ i, ei T z q i ≤ z
  | 0 => hq
  | i + 1 => (xE_w (T := T) (ei_z hq i)).2.1
theorem ei_l {T : Nat → Int} {z q : Nat} (hq : q ≤ z) (i : Nat) : ei T z q i ≤ ei T z q (i + 1) := by
  have h1 := xS_w (T := T) (ei_z (T := T) hq i)
  have h2 := xE_w (T := T) (ei_z (T := T) hq i)
  show _ ≤ xE T z _
  omega
theorem ei_s {T : Nat → Int} {z q : Nat} (hq : q ≤ z) (i : Nat) (k : kE T z q i ≠ 0) : ei T z q i < ei T z q (i + 1) := by
  have h1 := xS_w (T := T) (ei_z (T := T) hq i)
  have h2 := xE_w (T := T) (ei_z (T := T) hq i)
  have h3 := (xKR (T := T) (ei_z (T := T) hq i)).2.2.2.2.2.2.2.2 k
  show _ < xE T z _
  omega
theorem xK_len {T : Nat → Int} {z q k : Nat} (h : q ≤ z) (hk : k < 4) (e : xK T z q = k + 1) : xE T z q = xS T z q + slen k := by
  have h1 := xKR (T := T) h
  by_cases h2 : xR T z q = 2
  · have h3 := h1.2.2.2.2.1 h2
    have h4 := nmK_c T (xS T z q) (xE T z q)
    rw [← h3.2.2.2, e] at h4
    have : nmB T (xS T z q) (xE T z q) k = true := by
      rcases h4 with ⟨a, b⟩ | ⟨a, b⟩ | ⟨a, b⟩ | ⟨a, b⟩ | ⟨a, b⟩
      · rw [show k = 0 by omega]; exact b
      · rw [show k = 1 by omega]; exact b
      · rw [show k = 2 by omega]; exact b
      · rw [show k = 3 by omega]; exact b
      · omega
    exact (nmB_i.mp this).1
  · have := h1.2.2.2.2.2.1 h2
    omega
theorem okP_len {T : Nat → Int} {z n q r : Nat} {x : Pl} (hq : q ≤ z) (h : okP T z n q x r) : q + 8 ≤ r ∧ r ≤ z := by
  obtain ⟨k0, k1, -, -, h⟩ := h
  have e0 : ei T z q 1 = xS T z q + 5 := xK_len (k := 0) hq (by decide) k0
  have w0 := xS_w (T := T) hq
  have s1 : ei T z q 1 < ei T z q 2 := ei_s (T := T) hq 1 (by omega)
  have s0 : q ≤ xS T z q := w0.1
  rcases h with ⟨k2, k3, -, rfl⟩ | ⟨k2, k3, k4, -, rfl⟩ | ⟨k2, k3, k4, k5, k6, -, rfl⟩
  · have s2 : ei T z q 2 < ei T z q 3 := ei_s (T := T) hq 2 (by omega)
    have s3 : ei T z q 3 < ei T z q 4 := ei_s (T := T) hq 3 (by omega)
    exact ⟨by omega, ei_z hq 4⟩
  · have s2 : ei T z q 2 < ei T z q 3 := ei_s (T := T) hq 2 (by omega)
    have s3 : ei T z q 3 < ei T z q 4 := ei_s (T := T) hq 3 (by omega)
    have s4 : ei T z q 4 < ei T z q 5 := ei_s (T := T) hq 4 (by omega)
    exact ⟨by omega, ei_z hq 5⟩
  · have s2 : ei T z q 2 < ei T z q 3 := ei_s (T := T) hq 2 (by omega)
    have s3 : ei T z q 3 < ei T z q 4 := ei_s (T := T) hq 3 (by omega)
    have s4 : ei T z q 4 < ei T z q 5 := ei_s (T := T) hq 4 (by omega)
    have s5 : ei T z q 5 < ei T z q 6 := ei_s (T := T) hq 5 (by omega)
    have s6 : ei T z q 6 < ei T z q 7 := ei_s (T := T) hq 6 (by omega)
    exact ⟨by omega, ei_z hq 7⟩
def Prs (T : Nat → Int) (z n : Nat) : List Pl → Option (Nat × Nat) → Nat → Prop
  | [], r, q => match r with
    | none => xK T z q = 0
    | some p => xK T z q ≠ 0 ∧ flP T z n q p.1 p.2
  | x :: L, r, q => ∃ q', okP T z n q x q' ∧ Prs T z n L r q'
theorem Prs_ex {T : Nat → Int} {z n : Nat} : ∀ k q, q ≤ z → z - q ≤ k → ∃ L r, Prs T z n L r q ∧ q + 8 * L.length ≤ z
  | 0, q, hq, hk => by
    by_cases k0 : xK T z q = 0
    · exact ⟨[], none, k0, by simpa using hq⟩
    · have := (xKR (T := T) hq).2.2.2.2.2.2.2.2 k0
      have := xS_w (T := T) hq
      omega
  | k + 1, q, hq, hk => by
    by_cases k0 : xK T z q = 0
    · exact ⟨[], none, k0, by simpa using hq⟩
    · rcases one_ex (T := T) (n := n) hq with ⟨x, r, h⟩ | ⟨f, s, h⟩
      · have hl := okP_len hq h
        obtain ⟨L, o, h1, h2⟩ := Prs_ex (T := T) (n := n) k r hl.2 (by omega)
        refine ⟨x :: L, o, ⟨r, h, h1⟩, ?_⟩
        rw [List.length_cons]
        omega
      · exact ⟨[], some (f, s), ⟨k0, h⟩, by simpa using hq⟩
