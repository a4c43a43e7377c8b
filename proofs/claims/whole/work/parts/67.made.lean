/-! the two objects are made -/
def q1 : oH := ((0, fun _ _ => 0, fun _ _ => 0, fun _ _ => none) : oH)
def q2 : oH := hAl q1
def q3 : oH := hAl q2
def q4 : oH := sR q3 0 0 (some 1)
def q5 : oH := hAl q4
def q6 : oH := hAl q5
def q7 : oH := sR q6 2 0 (some 3)
def q8 : oH := hAl q7
def q9 : oH := sR q8 2 1 (some 4)
def q10 : oH := hAl q9
def q11 : oH := sR q10 2 2 (some 5)
def q12 : oH := hAl q11
def q13 : oH := sR q12 2 3 (some 6)
def q14 : oH := hAl q13
def q15 : oH := sR q14 2 4 (some 7)
def q16 : oH := sI q15 2 5 0
def q17 : oH := sI q16 2 6 0
def q18 : oH := sR q17 0 1 (some 2)
def q19 : oH := hAl q18
def q20 : oH := hAl q19
def q21 : oH := sR q20 8 0 (some 9)
def q22 : oH := sI q21 8 1 0
def q23 : oH := sI q22 8 2 0
def q24 : oH := sI q23 8 3 0
def q25 : oH := sI q24 8 4 0
def q26 : oH := sI q25 8 5 0
def q27 : oH := sI q26 8 6 0
def q28 : oH := sI q27 8 7 0
def q29 : oH := sR q28 8 8 none
def q30 : oH := sI q29 8 9 0
def q31 : oH := sI q30 8 10 0
def q32 : oH := sI q31 8 11 0
def q33 : oH := sR q32 0 2 (some 8)
def q34 : oH := hAl q33
def q35 : oH := hAl q34
def q36 : oH := sR q35 10 0 (some 11)
def q37 : oH := sI q36 10 1 0
def q38 : oH := sR q37 0 3 (some 10)
def q39 : oH := sI q38 0 4 0
def q40 : oH := sI q39 0 5 0
def q41 : oH := sI q40 0 6 3
def q42 : oH := sI q41 0 7 20
def q43 : oH := sI q42 0 8 3000
def q44 : oH := sI q43 0 9 100
def q45 : oH := sI q44 0 10 0
def q46 : oH := sJ q45 0 11 0
def q47 : oH := sJ q46 0 12 0
def q48 : oH := sJ q47 0 13 0
def q49 : oH := hAl q48
def q50 : oH := hAl q49
def q51 : oH := sR q50 12 2 (some 13)
def q52 : oH := hAl q51
def q53 : oH := sR q52 12 3 (some 14)
def q54 : oH := hAl q53
def q55 : oH := sR q54 12 4 (some 15)
def q56 : oH := hAl q55
def q57 : oH := sR q56 12 5 (some 16)
def q58 : oH := hAl q57
def q59 : oH := sR q58 12 6 (some 17)
def q60 : oH := hAl q59
def q61 : oH := sR q60 12 7 (some 18)
def q62 : oH := hAl q61
def q63 : oH := sR q62 12 8 (some 19)
def q64 : oH := hAl q63
def q65 : oH := sR q64 12 9 (some 20)
def q66 : oH := hAl q65
def q67 : oH := sR q66 12 10 (some 21)
def q68 : oH := hAl q67
def q69 : oH := sR q68 12 11 (some 22)
def q70 : oH := hAl q69
def q71 : oH := sR q70 12 12 (some 23)
def q72 : oH := hAl q71
def q73 : oH := sR q72 12 13 (some 24)
def q74 : oH := hAl q73
def q75 : oH := sR q74 12 14 (some 25)
def q76 : oH := hAl q75
def q77 : oH := sR q76 12 15 (some 26)
def q78 : oH := sI q77 12 17 3
def q79 : oH := sI q78 12 18 20
def q80 : oH := sI q79 12 20 3000
def q81 : oH := sI q80 12 21 100
def q82 : oH := hAl q81
def q83 : oH := sR q82 12 25 (some 27)
def q84 : oH := hAl q83
def q85 : oH := sR q84 12 27 (some 28)
def q86 : oH := hAl q85
def q87 : oH := sR q86 12 28 (some 29)
def q88 : oH := hAl q87
def q89 : oH := sR q88 12 39 (some 30)
def q90 : oH := hAl q89
def q91 : oH := sR q90 12 40 (some 31)
def q92 : oH := hAl q91
def q93 : oH := sR q92 12 41 (some 32)
def q94 : oH := hAl q93
def q95 : oH := sR q94 12 42 (some 33)
def q96 : oH := hAl q95
def q97 : oH := sR q96 12 43 (some 34)
set_option maxHeartbeats 4000000 in
set_option maxRecDepth 100000 in
theorem sp_mk_X4_init (G : oG) : oSp G mX4_init [.ref 2] q5 none q17 := by
  refine oSp.intro [some (.ref 2)] rfl (Nat.le_of_ble_eq_true rfl) (plainFor_of_name (by decide +kernel)) (Nat.le_of_ble_eq_true rfl) ?_
  intro p l e R s m args below meth c C
  refine r_aload_n C rfl rfl dX4_init_0 ?_
  refine r_objInit C dX4_init_1 cl_X4_3 oi_in oi_co (Nat.le_of_ble_eq_true rfl) (Nat.le_of_ble_eq_true rfl) ?_
  refine r_aload_n C rfl rfl dX4_init_4 ?_
  refine r_bipush C 8 rfl dX4_init_5 ?_
  refine r_newarr C dX4_init_7 rfl ac_int (j := 0) rfl rfl (n := 8) rfl (by decide) rfl (by decide) (Nat.le_of_ble_eq_true rfl) ?_
  refine oS_h (h2 := q6) rfl ?_
  refine r_putR C (some 3) rfl dX4_init_9 fl_X4_9 rfl rfl (Nat.le_of_ble_eq_true rfl) (Or.inr ⟨rfl, rfl, rfl⟩) ?_
  refine oS_h (h2 := q7) rfl ?_
  refine r_aload_n C rfl rfl dX4_init_12 ?_
  refine r_bipush C 9 rfl dX4_init_13 ?_
  refine r_newarr C dX4_init_15 rfl ac_int (j := 0) rfl rfl (n := 9) rfl (by decide) rfl (by decide) (Nat.le_of_ble_eq_true rfl) ?_
  refine oS_h (h2 := q8) rfl ?_
  refine r_putR C (some 4) rfl dX4_init_17 fl_X4_15 rfl rfl (Nat.le_of_ble_eq_true rfl) (Or.inr ⟨rfl, rfl, rfl⟩) ?_
  refine oS_h (h2 := q9) rfl ?_
  refine r_aload_n C rfl rfl dX4_init_20 ?_
  refine r_bipush C 9 rfl dX4_init_21 ?_
  refine r_newarr C dX4_init_23 rfl ac_int (j := 0) rfl rfl (n := 9) rfl (by decide) rfl (by decide) (Nat.le_of_ble_eq_true rfl) ?_
  refine oS_h (h2 := q10) rfl ?_
  refine r_putR C (some 5) rfl dX4_init_25 fl_X4_18 rfl rfl (Nat.le_of_ble_eq_true rfl) (Or.inr ⟨rfl, rfl, rfl⟩) ?_
  refine oS_h (h2 := q11) rfl ?_
  refine r_aload_n C rfl rfl dX4_init_28 ?_
  refine r_bipush C 8 rfl dX4_init_29 ?_
  refine r_newarr C dX4_init_31 rfl ac_int (j := 0) rfl rfl (n := 8) rfl (by decide) rfl (by decide) (Nat.le_of_ble_eq_true rfl) ?_
  refine oS_h (h2 := q12) rfl ?_
  refine r_putR C (some 6) rfl dX4_init_33 fl_X4_21 rfl rfl (Nat.le_of_ble_eq_true rfl) (Or.inr ⟨rfl, rfl, rfl⟩) ?_
  refine oS_h (h2 := q13) rfl ?_
  refine r_aload_n C rfl rfl dX4_init_36 ?_
  refine r_sipush C 2304 rfl dX4_init_37 ?_
  refine r_newarr C dX4_init_40 rfl ac_int (j := 0) rfl rfl (n := 2304) rfl (by decide) rfl (by decide) (Nat.le_of_ble_eq_true rfl) ?_
  refine oS_h (h2 := q14) rfl ?_
  refine r_putR C (some 7) rfl dX4_init_42 fl_X4_24 rfl rfl (Nat.le_of_ble_eq_true rfl) (Or.inr ⟨rfl, rfl, rfl⟩) ?_
  refine oS_h (h2 := q15) rfl ?_
  refine r_aload_n C rfl rfl dX4_init_45 ?_
  refine r_iconstv C 0 rfl dX4_init_46 ?_
  refine r_putI C dX4_init_47 fl_X4_27 rfl (Nat.le_of_ble_eq_true rfl) (Or.inl rfl) ?_
  refine oS_h (h2 := q16) rfl ?_
  refine r_aload_n C rfl rfl dX4_init_50 ?_
  refine r_iconstv C 0 rfl dX4_init_51 ?_
  refine r_putI C dX4_init_52 fl_X4_31 rfl (Nat.le_of_ble_eq_true rfl) (Or.inl rfl) ?_
  refine oS_h (h2 := q17) rfl ?_
  exact r_vret C dX4_init_55 rfl (Nat.le_refl _) rfl

set_option maxHeartbeats 4000000 in
set_option maxRecDepth 100000 in
theorem sp_mk_X3_init (G : oG) : oSp G mX3_init [.ref 8] q19 none q32 := by
  refine oSp.intro [some (.ref 8)] rfl (Nat.le_of_ble_eq_true rfl) (plainFor_of_name (by decide +kernel)) (Nat.le_of_ble_eq_true rfl) ?_
  intro p l e R s m args below meth c C
  refine r_aload_n C rfl rfl dX3_init_0 ?_
  refine r_objInit C dX3_init_1 cl_X3_3 oi_in oi_co (Nat.le_of_ble_eq_true rfl) (Nat.le_of_ble_eq_true rfl) ?_
  refine r_aload_n C rfl rfl dX3_init_4 ?_
  refine r_sipush C 300 rfl dX3_init_5 ?_
  refine r_newarr C dX3_init_8 rfl ac_byte (j := 1) rfl rfl (n := 300) rfl (by decide) rfl (by decide) (Nat.le_of_ble_eq_true rfl) ?_
  refine oS_h (h2 := q20) rfl ?_
  refine r_putR C (some 9) rfl dX3_init_10 fl_X3_11 rfl rfl (Nat.le_of_ble_eq_true rfl) (Or.inr ⟨rfl, rfl, rfl⟩) ?_
  refine oS_h (h2 := q21) rfl ?_
  refine r_aload_n C rfl rfl dX3_init_13 ?_
  refine r_iconstv C 0 rfl dX3_init_14 ?_
  refine r_putI C dX3_init_15 fl_X3_15 rfl (Nat.le_of_ble_eq_true rfl) (Or.inl rfl) ?_
  refine oS_h (h2 := q22) rfl ?_
  refine r_aload_n C rfl rfl dX3_init_18 ?_
  refine r_iconstv C 0 rfl dX3_init_19 ?_
  refine r_putI C dX3_init_20 fl_X3_19 rfl (Nat.le_of_ble_eq_true rfl) (Or.inl rfl) ?_
  refine oS_h (h2 := q23) rfl ?_
  refine r_aload_n C rfl rfl dX3_init_23 ?_
  refine r_iconstv C 0 rfl dX3_init_24 ?_
  refine r_putI C dX3_init_25 fl_X3_22 rfl (Nat.le_of_ble_eq_true rfl) (Or.inl rfl) ?_
  refine oS_h (h2 := q24) rfl ?_
  refine r_aload_n C rfl rfl dX3_init_28 ?_
  refine r_iconstv C 0 rfl dX3_init_29 ?_
  refine r_putI C dX3_init_30 fl_X3_25 rfl (Nat.le_of_ble_eq_true rfl) (Or.inl rfl) ?_
  refine oS_h (h2 := q25) rfl ?_
  refine r_aload_n C rfl rfl dX3_init_33 ?_
  refine r_iconstv C 0 rfl dX3_init_34 ?_
  refine r_putI C dX3_init_35 fl_X3_28 rfl (Nat.le_of_ble_eq_true rfl) (Or.inl rfl) ?_
  refine oS_h (h2 := q26) rfl ?_
  refine r_aload_n C rfl rfl dX3_init_38 ?_
  refine r_iconstv C 0 rfl dX3_init_39 ?_
  refine r_putI C dX3_init_40 fl_X3_31 rfl (Nat.le_of_ble_eq_true rfl) (Or.inl rfl) ?_
  refine oS_h (h2 := q27) rfl ?_
  refine r_aload_n C rfl rfl dX3_init_43 ?_
  refine r_iconstv C 0 rfl dX3_init_44 ?_
  refine r_putI C dX3_init_45 fl_X3_34 rfl (Nat.le_of_ble_eq_true rfl) (Or.inl rfl) ?_
  refine oS_h (h2 := q28) rfl ?_
  refine r_aload_n C rfl rfl dX3_init_48 ?_
  refine r_null C dX3_init_49 ?_
  refine r_putR C none rfl dX3_init_50 fl_X3_37 rfl rfl (Nat.le_of_ble_eq_true rfl) (Or.inl rfl) ?_
  refine oS_h (h2 := q29) rfl ?_
  refine r_aload_n C rfl rfl dX3_init_53 ?_
  refine r_iconstv C 0 rfl dX3_init_54 ?_
  refine r_putI C dX3_init_55 fl_X3_41 rfl (Nat.le_of_ble_eq_true rfl) (Or.inl rfl) ?_
  refine oS_h (h2 := q30) rfl ?_
  refine r_aload_n C rfl rfl dX3_init_58 ?_
  refine r_iconstv C 0 rfl dX3_init_59 ?_
  refine r_putI C dX3_init_60 fl_X3_44 rfl (Nat.le_of_ble_eq_true rfl) (Or.inl rfl) ?_
  refine oS_h (h2 := q31) rfl ?_
  refine r_aload_n C rfl rfl dX3_init_63 ?_
  refine r_iconstv C 0 rfl dX3_init_64 ?_
  refine r_putI C dX3_init_65 fl_X3_47 rfl (Nat.le_of_ble_eq_true rfl) (Or.inl rfl) ?_
  refine oS_h (h2 := q32) rfl ?_
  exact r_vret C dX3_init_68 rfl (Nat.le_refl _) rfl

set_option maxHeartbeats 4000000 in
set_option maxRecDepth 100000 in
theorem sp_mk_X0_init (G : oG) : oSp G mX0_init [.ref 10] q34 none q37 := by
  refine oSp.intro [some (.ref 10)] rfl (Nat.le_of_ble_eq_true rfl) (plainFor_of_name (by decide +kernel)) (Nat.le_of_ble_eq_true rfl) ?_
  intro p l e R s m args below meth c C
  refine r_aload_n C rfl rfl dX0_init_0 ?_
  refine r_objInit C dX0_init_1 cl_X0_3 oi_in oi_co (Nat.le_of_ble_eq_true rfl) (Nat.le_of_ble_eq_true rfl) ?_
  refine r_aload_n C rfl rfl dX0_init_4 ?_
  refine r_bipush C 16 rfl dX0_init_5 ?_
  refine r_newarr C dX0_init_7 rfl ac_int (j := 0) rfl rfl (n := 16) rfl (by decide) rfl (by decide) (Nat.le_of_ble_eq_true rfl) ?_
  refine oS_h (h2 := q35) rfl ?_
  refine r_putR C (some 11) rfl dX0_init_9 fl_X0_9 rfl rfl (Nat.le_of_ble_eq_true rfl) (Or.inr ⟨rfl, rfl, rfl⟩) ?_
  refine oS_h (h2 := q36) rfl ?_
  refine r_aload_n C rfl rfl dX0_init_12 ?_
  refine r_iconstv C 0 rfl dX0_init_13 ?_
  refine r_putI C dX0_init_14 fl_X0_15 rfl (Nat.le_of_ble_eq_true rfl) (Or.inl rfl) ?_
  refine oS_h (h2 := q37) rfl ?_
  exact r_vret C dX0_init_17 rfl (Nat.le_refl _) rfl

set_option maxHeartbeats 4000000 in
set_option maxRecDepth 100000 in
theorem sp_mk_X5_init (G : oG) : oSp G mX5_init [.ref 0] q2 none q48 := by
  refine oSp.intro [some (.ref 0)] rfl (Nat.le_of_ble_eq_true rfl) (plainFor_of_name (by decide +kernel)) (Nat.le_of_ble_eq_true rfl) ?_
  intro p l e R s m args below meth c C
  refine r_aload_n C rfl rfl dX5_init_0 ?_
  refine r_objInit C dX5_init_1 cl_X5_1 oi_in oi_co (Nat.le_of_ble_eq_true rfl) (Nat.le_of_ble_eq_true rfl) ?_
  refine r_aload_n C rfl rfl dX5_init_4 ?_
  refine r_bipush C 24 rfl dX5_init_5 ?_
  refine r_anewarr C dX5_init_7 ck_X5_9 (n := 24) rfl (by decide) rfl (Nat.le_of_ble_eq_true rfl) ?_
  refine oS_h (h2 := q3) rfl ?_
  refine r_putR C (some 1) rfl dX5_init_10 fl_X5_11 rfl rfl (Nat.le_of_ble_eq_true rfl) (Or.inr ⟨rfl, rfl, rfl⟩) ?_
  refine oS_h (h2 := q4) rfl ?_
  refine r_aload_n C rfl rfl dX5_init_13 ?_
  refine r_new C (ci := 4) dX5_init_14 (by decide) rfl ck_X5_15 in_X4 iz_X4 (Nat.le_of_ble_eq_true rfl) ?_
  refine oS_h (h2 := q5) rfl ?_
  refine r_dup C rfl dX5_init_17 ?_
  refine r_callIN C (sp_mk_X4_init G) ki_X4_init rfl rfl kn_X4_init rfl dX5_init_18 nl_X5_17 ⟨Nat.le_of_ble_eq_true rfl, Nat.le_of_ble_eq_true rfl⟩ (Nat.le_of_ble_eq_true rfl) rfl (Nat.le_of_ble_eq_true rfl) ?_
  refine r_putR C (some 2) rfl dX5_init_21 fl_X5_18 rfl rfl (Nat.le_of_ble_eq_true rfl) (Or.inr ⟨rfl, rfl, rfl⟩) ?_
  refine oS_h (h2 := q18) rfl ?_
  refine r_aload_n C rfl rfl dX5_init_24 ?_
  refine r_new C (ci := 3) dX5_init_25 (by decide) rfl ck_X5_22 in_X3 iz_X3 (Nat.le_of_ble_eq_true rfl) ?_
  refine oS_h (h2 := q19) rfl ?_
  refine r_dup C rfl dX5_init_28 ?_
  refine r_callIN C (sp_mk_X3_init G) ki_X3_init rfl rfl kn_X3_init rfl dX5_init_29 nl_X5_24 ⟨Nat.le_of_ble_eq_true rfl, Nat.le_of_ble_eq_true rfl⟩ (Nat.le_of_ble_eq_true rfl) rfl (Nat.le_of_ble_eq_true rfl) ?_
  refine r_putR C (some 8) rfl dX5_init_32 fl_X5_25 rfl rfl (Nat.le_of_ble_eq_true rfl) (Or.inr ⟨rfl, rfl, rfl⟩) ?_
  refine oS_h (h2 := q33) rfl ?_
  refine r_aload_n C rfl rfl dX5_init_35 ?_
  refine r_new C (ci := 0) dX5_init_36 (by decide) rfl ck_X5_29 in_X0 iz_X0 (Nat.le_of_ble_eq_true rfl) ?_
  refine oS_h (h2 := q34) rfl ?_
  refine r_dup C rfl dX5_init_39 ?_
  refine r_callIN C (sp_mk_X0_init G) ki_X0_init rfl rfl kn_X0_init rfl dX5_init_40 nl_X5_31 ⟨Nat.le_of_ble_eq_true rfl, Nat.le_of_ble_eq_true rfl⟩ (Nat.le_of_ble_eq_true rfl) rfl (Nat.le_of_ble_eq_true rfl) ?_
  refine r_putR C (some 10) rfl dX5_init_43 fl_X5_32 rfl rfl (Nat.le_of_ble_eq_true rfl) (Or.inr ⟨rfl, rfl, rfl⟩) ?_
  refine oS_h (h2 := q38) rfl ?_
  refine r_aload_n C rfl rfl dX5_init_46 ?_
  refine r_iconstv C 0 rfl dX5_init_47 ?_
  refine r_putI C dX5_init_48 fl_X5_36 rfl (Nat.le_of_ble_eq_true rfl) (Or.inl rfl) ?_
  refine oS_h (h2 := q39) rfl ?_
  refine r_aload_n C rfl rfl dX5_init_51 ?_
  refine r_iconstv C 0 rfl dX5_init_52 ?_
  refine r_putI C dX5_init_53 fl_X5_40 rfl (Nat.le_of_ble_eq_true rfl) (Or.inl rfl) ?_
  refine oS_h (h2 := q40) rfl ?_
  refine r_aload_n C rfl rfl dX5_init_56 ?_
  refine r_iconstv C 3 rfl dX5_init_57 ?_
  refine r_putI C dX5_init_58 fl_X5_43 rfl (Nat.le_of_ble_eq_true rfl) (Or.inl rfl) ?_
  refine oS_h (h2 := q41) rfl ?_
  refine r_aload_n C rfl rfl dX5_init_61 ?_
  refine r_bipush C 20 rfl dX5_init_62 ?_
  refine r_putI C dX5_init_64 fl_X5_46 rfl (Nat.le_of_ble_eq_true rfl) (Or.inl rfl) ?_
  refine oS_h (h2 := q42) rfl ?_
  refine r_aload_n C rfl rfl dX5_init_67 ?_
  refine r_sipush C 3000 rfl dX5_init_68 ?_
  refine r_putI C dX5_init_71 fl_X5_49 rfl (Nat.le_of_ble_eq_true rfl) (Or.inl rfl) ?_
  refine oS_h (h2 := q43) rfl ?_
  refine r_aload_n C rfl rfl dX5_init_74 ?_
  refine r_bipush C 100 rfl dX5_init_75 ?_
  refine r_putI C dX5_init_77 fl_X5_52 rfl (Nat.le_of_ble_eq_true rfl) (Or.inl rfl) ?_
  refine oS_h (h2 := q44) rfl ?_
  refine r_aload_n C rfl rfl dX5_init_80 ?_
  refine r_iconstv C 0 rfl dX5_init_81 ?_
  refine r_putI C dX5_init_82 fl_X5_55 rfl (Nat.le_of_ble_eq_true rfl) (Or.inl rfl) ?_
  refine oS_h (h2 := q45) rfl ?_
  refine r_aload_n C rfl rfl dX5_init_85 ?_
  refine r_lconst C 0 rfl dX5_init_86 ?_
  refine r_putJ C dX5_init_87 fl_X5_58 rfl (Nat.le_of_ble_eq_true rfl) (Or.inl rfl) ?_
  refine oS_h (h2 := q46) rfl ?_
  refine r_aload_n C rfl rfl dX5_init_90 ?_
  refine r_lconst C 0 rfl dX5_init_91 ?_
  refine r_putJ C dX5_init_92 fl_X5_62 rfl (Nat.le_of_ble_eq_true rfl) (Or.inl rfl) ?_
  refine oS_h (h2 := q47) rfl ?_
  refine r_aload_n C rfl rfl dX5_init_95 ?_
  refine r_lconst C 0 rfl dX5_init_96 ?_
  refine r_putJ C dX5_init_97 fl_X5_65 rfl (Nat.le_of_ble_eq_true rfl) (Or.inl rfl) ?_
  refine oS_h (h2 := q48) rfl ?_
  exact r_vret C dX5_init_100 rfl (Nat.le_refl _) rfl

set_option maxHeartbeats 4000000 in
set_option maxRecDepth 100000 in
theorem sp_mk_X6_init (G : oG) : oSp G mX6_init [.ref 12] q49 none q97 := by
  refine oSp.intro [some (.ref 12)] rfl (Nat.le_of_ble_eq_true rfl) (plainFor_of_name (by decide +kernel)) (Nat.le_of_ble_eq_true rfl) ?_
  intro p l e R s m args below meth c C
  refine r_aload_n C rfl rfl dX6_init_0 ?_
  refine r_objInit C dX6_init_1 cl_X6_1 oi_in oi_co (Nat.le_of_ble_eq_true rfl) (Nat.le_of_ble_eq_true rfl) ?_
  refine r_aload_n C rfl rfl dX6_init_4 ?_
  refine r_bipush C 24 rfl dX6_init_5 ?_
  refine r_newarr C dX6_init_7 rfl ac_int (j := 0) rfl rfl (n := 24) rfl (by decide) rfl (by decide) (Nat.le_of_ble_eq_true rfl) ?_
  refine oS_h (h2 := q50) rfl ?_
  refine r_putR C (some 13) rfl dX6_init_9 fl_X6_7 rfl rfl (Nat.le_of_ble_eq_true rfl) (Or.inr ⟨rfl, rfl, rfl⟩) ?_
  refine oS_h (h2 := q51) rfl ?_
  refine r_aload_n C rfl rfl dX6_init_12 ?_
  refine r_bipush C 24 rfl dX6_init_13 ?_
  refine r_newarr C dX6_init_15 rfl ac_int (j := 0) rfl rfl (n := 24) rfl (by decide) rfl (by decide) (Nat.le_of_ble_eq_true rfl) ?_
  refine oS_h (h2 := q52) rfl ?_
  refine r_putR C (some 14) rfl dX6_init_17 fl_X6_13 rfl rfl (Nat.le_of_ble_eq_true rfl) (Or.inr ⟨rfl, rfl, rfl⟩) ?_
  refine oS_h (h2 := q53) rfl ?_
  refine r_aload_n C rfl rfl dX6_init_20 ?_
  refine r_bipush C 24 rfl dX6_init_21 ?_
  refine r_newarr C dX6_init_23 rfl ac_int (j := 0) rfl rfl (n := 24) rfl (by decide) rfl (by decide) (Nat.le_of_ble_eq_true rfl) ?_
  refine oS_h (h2 := q54) rfl ?_
  refine r_putR C (some 15) rfl dX6_init_25 fl_X6_16 rfl rfl (Nat.le_of_ble_eq_true rfl) (Or.inr ⟨rfl, rfl, rfl⟩) ?_
  refine oS_h (h2 := q55) rfl ?_
  refine r_aload_n C rfl rfl dX6_init_28 ?_
  refine r_bipush C 96 rfl dX6_init_29 ?_
  refine r_newarr C dX6_init_31 rfl ac_int (j := 0) rfl rfl (n := 96) rfl (by decide) rfl (by decide) (Nat.le_of_ble_eq_true rfl) ?_
  refine oS_h (h2 := q56) rfl ?_
  refine r_putR C (some 16) rfl dX6_init_33 fl_X6_19 rfl rfl (Nat.le_of_ble_eq_true rfl) (Or.inr ⟨rfl, rfl, rfl⟩) ?_
  refine oS_h (h2 := q57) rfl ?_
  refine r_aload_n C rfl rfl dX6_init_36 ?_
  refine r_bipush C 24 rfl dX6_init_37 ?_
  refine r_newarr C dX6_init_39 rfl ac_int (j := 0) rfl rfl (n := 24) rfl (by decide) rfl (by decide) (Nat.le_of_ble_eq_true rfl) ?_
  refine oS_h (h2 := q58) rfl ?_
  refine r_putR C (some 17) rfl dX6_init_41 fl_X6_22 rfl rfl (Nat.le_of_ble_eq_true rfl) (Or.inr ⟨rfl, rfl, rfl⟩) ?_
  refine oS_h (h2 := q59) rfl ?_
  refine r_aload_n C rfl rfl dX6_init_44 ?_
  refine r_bipush C 24 rfl dX6_init_45 ?_
  refine r_newarr C dX6_init_47 rfl ac_int (j := 0) rfl rfl (n := 24) rfl (by decide) rfl (by decide) (Nat.le_of_ble_eq_true rfl) ?_
  refine oS_h (h2 := q60) rfl ?_
  refine r_putR C (some 18) rfl dX6_init_49 fl_X6_25 rfl rfl (Nat.le_of_ble_eq_true rfl) (Or.inr ⟨rfl, rfl, rfl⟩) ?_
  refine oS_h (h2 := q61) rfl ?_
  refine r_aload_n C rfl rfl dX6_init_52 ?_
  refine r_bipush C 24 rfl dX6_init_53 ?_
  refine r_newarr C dX6_init_55 rfl ac_int (j := 0) rfl rfl (n := 24) rfl (by decide) rfl (by decide) (Nat.le_of_ble_eq_true rfl) ?_
  refine oS_h (h2 := q62) rfl ?_
  refine r_putR C (some 19) rfl dX6_init_57 fl_X6_28 rfl rfl (Nat.le_of_ble_eq_true rfl) (Or.inr ⟨rfl, rfl, rfl⟩) ?_
  refine oS_h (h2 := q63) rfl ?_
  refine r_aload_n C rfl rfl dX6_init_60 ?_
  refine r_bipush C 24 rfl dX6_init_61 ?_
  refine r_newarr C dX6_init_63 rfl ac_int (j := 0) rfl rfl (n := 24) rfl (by decide) rfl (by decide) (Nat.le_of_ble_eq_true rfl) ?_
  refine oS_h (h2 := q64) rfl ?_
  refine r_putR C (some 20) rfl dX6_init_65 fl_X6_31 rfl rfl (Nat.le_of_ble_eq_true rfl) (Or.inr ⟨rfl, rfl, rfl⟩) ?_
  refine oS_h (h2 := q65) rfl ?_
  refine r_aload_n C rfl rfl dX6_init_68 ?_
  refine r_bipush C 24 rfl dX6_init_69 ?_
  refine r_newarr C dX6_init_71 rfl ac_boolean (j := 2) rfl rfl (n := 24) rfl (by decide) rfl (by decide) (Nat.le_of_ble_eq_true rfl) ?_
  refine oS_h (h2 := q66) rfl ?_
  refine r_putR C (some 21) rfl dX6_init_73 fl_X6_34 rfl rfl (Nat.le_of_ble_eq_true rfl) (Or.inr ⟨rfl, rfl, rfl⟩) ?_
  refine oS_h (h2 := q67) rfl ?_
  refine r_aload_n C rfl rfl dX6_init_76 ?_
  refine r_bipush C 24 rfl dX6_init_77 ?_
  refine r_newarr C dX6_init_79 rfl ac_int (j := 0) rfl rfl (n := 24) rfl (by decide) rfl (by decide) (Nat.le_of_ble_eq_true rfl) ?_
  refine oS_h (h2 := q68) rfl ?_
  refine r_putR C (some 22) rfl dX6_init_81 fl_X6_38 rfl rfl (Nat.le_of_ble_eq_true rfl) (Or.inr ⟨rfl, rfl, rfl⟩) ?_
  refine oS_h (h2 := q69) rfl ?_
  refine r_aload_n C rfl rfl dX6_init_84 ?_
  refine r_bipush C 24 rfl dX6_init_85 ?_
  refine r_newarr C dX6_init_87 rfl ac_int (j := 0) rfl rfl (n := 24) rfl (by decide) rfl (by decide) (Nat.le_of_ble_eq_true rfl) ?_
  refine oS_h (h2 := q70) rfl ?_
  refine r_putR C (some 23) rfl dX6_init_89 fl_X6_41 rfl rfl (Nat.le_of_ble_eq_true rfl) (Or.inr ⟨rfl, rfl, rfl⟩) ?_
  refine oS_h (h2 := q71) rfl ?_
  refine r_aload_n C rfl rfl dX6_init_92 ?_
  refine r_bipush C 24 rfl dX6_init_93 ?_
  refine r_newarr C dX6_init_95 rfl ac_int (j := 0) rfl rfl (n := 24) rfl (by decide) rfl (by decide) (Nat.le_of_ble_eq_true rfl) ?_
  refine oS_h (h2 := q72) rfl ?_
  refine r_putR C (some 24) rfl dX6_init_97 fl_X6_44 rfl rfl (Nat.le_of_ble_eq_true rfl) (Or.inr ⟨rfl, rfl, rfl⟩) ?_
  refine oS_h (h2 := q73) rfl ?_
  refine r_aload_n C rfl rfl dX6_init_100 ?_
  refine r_bipush C 24 rfl dX6_init_101 ?_
  refine r_newarr C dX6_init_103 rfl ac_int (j := 0) rfl rfl (n := 24) rfl (by decide) rfl (by decide) (Nat.le_of_ble_eq_true rfl) ?_
  refine oS_h (h2 := q74) rfl ?_
  refine r_putR C (some 25) rfl dX6_init_105 fl_X6_47 rfl rfl (Nat.le_of_ble_eq_true rfl) (Or.inr ⟨rfl, rfl, rfl⟩) ?_
  refine oS_h (h2 := q75) rfl ?_
  refine r_aload_n C rfl rfl dX6_init_108 ?_
  refine r_bipush C 24 rfl dX6_init_109 ?_
  refine r_newarr C dX6_init_111 rfl ac_int (j := 0) rfl rfl (n := 24) rfl (by decide) rfl (by decide) (Nat.le_of_ble_eq_true rfl) ?_
  refine oS_h (h2 := q76) rfl ?_
  refine r_putR C (some 26) rfl dX6_init_113 fl_X6_50 rfl rfl (Nat.le_of_ble_eq_true rfl) (Or.inr ⟨rfl, rfl, rfl⟩) ?_
  refine oS_h (h2 := q77) rfl ?_
  refine r_aload_n C rfl rfl dX6_init_116 ?_
  refine r_iconstv C 3 rfl dX6_init_117 ?_
  refine r_putI C dX6_init_118 fl_X6_53 rfl (Nat.le_of_ble_eq_true rfl) (Or.inl rfl) ?_
  refine oS_h (h2 := q78) rfl ?_
  refine r_aload_n C rfl rfl dX6_init_121 ?_
  refine r_bipush C 20 rfl dX6_init_122 ?_
  refine r_putI C dX6_init_124 fl_X6_57 rfl (Nat.le_of_ble_eq_true rfl) (Or.inl rfl) ?_
  refine oS_h (h2 := q79) rfl ?_
  refine r_aload_n C rfl rfl dX6_init_127 ?_
  refine r_sipush C 3000 rfl dX6_init_128 ?_
  refine r_putI C dX6_init_131 fl_X6_60 rfl (Nat.le_of_ble_eq_true rfl) (Or.inl rfl) ?_
  refine oS_h (h2 := q80) rfl ?_
  refine r_aload_n C rfl rfl dX6_init_134 ?_
  refine r_bipush C 100 rfl dX6_init_135 ?_
  refine r_putI C dX6_init_137 fl_X6_63 rfl (Nat.le_of_ble_eq_true rfl) (Or.inl rfl) ?_
  refine oS_h (h2 := q81) rfl ?_
  refine r_aload_n C rfl rfl dX6_init_140 ?_
  refine r_bipush C 8 rfl dX6_init_141 ?_
  refine r_newarr C dX6_init_143 rfl ac_int (j := 0) rfl rfl (n := 8) rfl (by decide) rfl (by decide) (Nat.le_of_ble_eq_true rfl) ?_
  refine oS_h (h2 := q82) rfl ?_
  refine r_putR C (some 27) rfl dX6_init_145 fl_X6_66 rfl rfl (Nat.le_of_ble_eq_true rfl) (Or.inr ⟨rfl, rfl, rfl⟩) ?_
  refine oS_h (h2 := q83) rfl ?_
  refine r_aload_n C rfl rfl dX6_init_148 ?_
  refine r_sipush C 2048 rfl dX6_init_149 ?_
  refine r_newarr C dX6_init_152 rfl ac_int (j := 0) rfl rfl (n := 2048) rfl (by decide) rfl (by decide) (Nat.le_of_ble_eq_true rfl) ?_
  refine oS_h (h2 := q84) rfl ?_
  refine r_putR C (some 28) rfl dX6_init_154 fl_X6_69 rfl rfl (Nat.le_of_ble_eq_true rfl) (Or.inr ⟨rfl, rfl, rfl⟩) ?_
  refine oS_h (h2 := q85) rfl ?_
  refine r_aload_n C rfl rfl dX6_init_157 ?_
  refine r_sipush C 300 rfl dX6_init_158 ?_
  refine r_newarr C dX6_init_161 rfl ac_int (j := 0) rfl rfl (n := 300) rfl (by decide) rfl (by decide) (Nat.le_of_ble_eq_true rfl) ?_
  refine oS_h (h2 := q86) rfl ?_
  refine r_putR C (some 29) rfl dX6_init_163 fl_X6_72 rfl rfl (Nat.le_of_ble_eq_true rfl) (Or.inr ⟨rfl, rfl, rfl⟩) ?_
  refine oS_h (h2 := q87) rfl ?_
  refine r_aload_n C rfl rfl dX6_init_166 ?_
  refine r_bipush C 40 rfl dX6_init_167 ?_
  refine r_newarr C dX6_init_169 rfl ac_int (j := 0) rfl rfl (n := 40) rfl (by decide) rfl (by decide) (Nat.le_of_ble_eq_true rfl) ?_
  refine oS_h (h2 := q88) rfl ?_
  refine r_putR C (some 30) rfl dX6_init_171 fl_X6_75 rfl rfl (Nat.le_of_ble_eq_true rfl) (Or.inr ⟨rfl, rfl, rfl⟩) ?_
  refine oS_h (h2 := q89) rfl ?_
  refine r_aload_n C rfl rfl dX6_init_174 ?_
  refine r_bipush C 40 rfl dX6_init_175 ?_
  refine r_newarr C dX6_init_177 rfl ac_int (j := 0) rfl rfl (n := 40) rfl (by decide) rfl (by decide) (Nat.le_of_ble_eq_true rfl) ?_
  refine oS_h (h2 := q90) rfl ?_
  refine r_putR C (some 31) rfl dX6_init_179 fl_X6_78 rfl rfl (Nat.le_of_ble_eq_true rfl) (Or.inr ⟨rfl, rfl, rfl⟩) ?_
  refine oS_h (h2 := q91) rfl ?_
  refine r_aload_n C rfl rfl dX6_init_182 ?_
  refine r_bipush C 40 rfl dX6_init_183 ?_
  refine r_newarr C dX6_init_185 rfl ac_int (j := 0) rfl rfl (n := 40) rfl (by decide) rfl (by decide) (Nat.le_of_ble_eq_true rfl) ?_
  refine oS_h (h2 := q92) rfl ?_
  refine r_putR C (some 32) rfl dX6_init_187 fl_X6_81 rfl rfl (Nat.le_of_ble_eq_true rfl) (Or.inr ⟨rfl, rfl, rfl⟩) ?_
  refine oS_h (h2 := q93) rfl ?_
  refine r_aload_n C rfl rfl dX6_init_190 ?_
  refine r_bipush C 40 rfl dX6_init_191 ?_
  refine r_newarr C dX6_init_193 rfl ac_int (j := 0) rfl rfl (n := 40) rfl (by decide) rfl (by decide) (Nat.le_of_ble_eq_true rfl) ?_
  refine oS_h (h2 := q94) rfl ?_
  refine r_putR C (some 33) rfl dX6_init_195 fl_X6_84 rfl rfl (Nat.le_of_ble_eq_true rfl) (Or.inr ⟨rfl, rfl, rfl⟩) ?_
  refine oS_h (h2 := q95) rfl ?_
  refine r_aload_n C rfl rfl dX6_init_198 ?_
  refine r_bipush C 16 rfl dX6_init_199 ?_
  refine r_newarr C dX6_init_201 rfl ac_int (j := 0) rfl rfl (n := 16) rfl (by decide) rfl (by decide) (Nat.le_of_ble_eq_true rfl) ?_
  refine oS_h (h2 := q96) rfl ?_
  refine r_putR C (some 34) rfl dX6_init_203 fl_X6_87 rfl rfl (Nat.le_of_ble_eq_true rfl) (Or.inr ⟨rfl, rfl, rfl⟩) ?_
  refine oS_h (h2 := q97) rfl ?_
  exact r_vret C dX6_init_206 rfl (Nat.le_refl _) rfl

