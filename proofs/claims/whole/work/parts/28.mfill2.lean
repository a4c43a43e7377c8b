/-! a fill, the reference: the way in -/
def ra (h : oH) (q : Int32) : oH := sI h 12 19 (hI h 12 19 - q)
def rb (h : oH) (q : Int32) : oH := sJ h 12 23 (hJ h 12 23 + q.toInt64)
def rc (h : oH) (x : Int32) : oH := sJ h 12 24 (hJ h 12 24 + x.toInt64)
def rp (h : oH) (i : Nat) (q : Int32) : oH := sI h 25 i (hI h 25 i - mnM q (hI h 25 i))
set_option maxHeartbeats 4000000 in
set_option maxRecDepth 100000 in
theorem m_fillA (G : oG) {h : oH} (hs : oSh h) {n : Nat} (hn : (hI h 12 1).toInt = (n : Int)) (hn24 : n ≤ 24) (v : Int32) {i : Nat} (hi : i < n) (hv : v.toInt = (i : Int)) (q : Int32) (hq : 0 ≤ q.toInt ∧ q.toInt ≤ (hI h 15 i).toInt) (hd : q.toInt ≤ (hI h 12 19).toInt) (hp : (hI h 24 i).toInt = 2) {hf : oH} (hle : hf.1 = h.1) (K : ∀ (p : Program) (l : Launch) (e : Env) (R : Room) (s : State) (m : MethodId) (args : Array Value) (below : List Frame) (meth : Method) (c : Code) (_ : oC G mX6_fill h.1 hf.1 p l R s m args meth c), oS G mX6_fill p l e R s m args below meth c (oZ G below args s h.1 hf.1 (some (.int (costM (sI h 12 0 0) i q))) hf) h.1 111 [some (.ref 12), some (.int v), some (.int q), some (.int (costM (sI h 12 0 0) i q)), none, none, none, none] [] (rc (rb (ra (rp (sI h 12 0 0) i q) q) q) (costM (sI h 12 0 0) i q))) : oSp G mX6_fill [.ref 12, .int v, .int q] h (some (.int (costM (sI h 12 0 0) i q))) hf := by
  refine oSp.intro [some (.ref 12), some (.int v), some (.int q), none, none, none, none, none] rfl (Nat.le_of_ble_eq_true rfl) (plainFor_of_name (by decide +kernel)) (by omega) ?_
  intro p l e R s m args below meth c C
  refine r_aload_n C rfl rfl dX6_fill_0 ?_
  refine r_iconstv C 0 rfl dX6_fill_1 ?_
  refine r_putI C dX6_fill_2 fl_X6_90 rfl (q_lt hs (by decide)) (Or.inl rfl) ?_
  refine r_aload_n C rfl rfl dX6_fill_5 ?_
  refine r_iload_n C rfl dX6_fill_6 ?_
  refine r_callV C (sp_isHouse G (by exact hs) (by exact hn) hn24 _) kv_X6_isHouse kn_X6_isHouse rfl dX6_fill_7 cl_X6_108 ⟨Nat.le_of_ble_eq_true rfl, Nat.le_of_ble_eq_true rfl⟩ (by decide) rfl rfl (q_lt hs (by decide)) (by show h.1 ≤ hf.1; omega) rfl (Nat.le_of_ble_eq_true rfl) ?_
  refine t_ifb_eq C 29 (by decide) dX6_fill_10 (fun c10 => ?_) (fun c10 => ?_)
  · first
    | (exfalso; omega)
    |  (refine r_ldc C _ lc_X6_106 dX6_fill_29 ?_
        exact r_iret C dX6_fill_31 rfl (by show h.1 ≤ hf.1; omega) rfl rfl)
  · first
    | (exfalso; omega)
    |  (refine r_iload_n C rfl dX6_fill_13 ?_
        refine r_i2l C dX6_fill_14 ?_
        refine r_lconst C 0 rfl dX6_fill_15 ?_
        refine r_aload_n C rfl rfl dX6_fill_16 ?_
        refine r_getO C dX6_fill_17 fl_X6_16 rfl rfl (q_lt hs (by decide)) (sh_12_4 hs) ?_
        refine r_iload_n C rfl dX6_fill_20 ?_
        refine r_iald C (i) (by have t := hv; omega) (by omega) dX6_fill_21 rfl (q_lt hs (by decide)) ?_
        refine r_i2l C dX6_fill_22 ?_
        refine r_callS C (sp_in G (tI2L rfl) (show (0 : Int64).toInt = 0 from rfl) (tI2L (show (hI (sI h 12 0 0) 15 i).toInt = (hI h 15 i).toInt from rfl))) ks_X6_in kn_X6_in rfl dX6_fill_23 cl_X6_96 ⟨Nat.le_of_ble_eq_true rfl, Nat.le_of_ble_eq_true rfl⟩ (by show h.1 ≤ hf.1; omega) rfl (Nat.le_of_ble_eq_true rfl) ?_
        refine t_ifb_ne C 32 (by decide) dX6_fill_26 (fun c26 => ?_) (fun c26 => ?_)
        · first
          | (exfalso; omega)
          |  (refine r_iload_n C rfl dX6_fill_32 ?_
              refine r_aload_n C rfl rfl dX6_fill_33 ?_
              refine r_getI C dX6_fill_34 fl_X6_134 rfl (q_lt hs (by decide)) ?_
              refine t_icmp_le C 43 (by decide) rfl (show (hI (sI h 12 0 0) 12 19).toInt = (hI h 12 19).toInt from rfl) dX6_fill_37 (fun c37 => ?_) (fun c37 => ?_)
              · first
                | (exfalso; omega)
                |  (refine r_aload_n C rfl rfl dX6_fill_43 ?_
                    refine r_iload_n C rfl dX6_fill_44 ?_
                    refine r_iload_n C rfl dX6_fill_45 ?_
                    refine r_callV C (sp_costM G (by exact hs) _ hv (by omega) _) kv_X6_cost kn_X6_cost rfl dX6_fill_46 cl_X6_184 ⟨Nat.le_of_ble_eq_true rfl, Nat.le_of_ble_eq_true rfl⟩ (by decide) rfl rfl (q_lt hs (by decide)) (by show h.1 ≤ hf.1; omega) rfl (Nat.le_of_ble_eq_true rfl) ?_
                    refine r_istore_n C rfl (Nat.le_of_ble_eq_true rfl) dX6_fill_49 ?_
                    refine r_aload_n C rfl rfl dX6_fill_50 ?_
                    refine r_getO C dX6_fill_51 fl_X6_44 rfl rfl (q_lt hs (by decide)) (sh_12_13 hs) ?_
                    refine r_iload_n C rfl dX6_fill_54 ?_
                    refine r_iald C (i) (by have t := hv; omega) (by omega) dX6_fill_55 rfl (q_lt hs (by decide)) ?_
                    refine r_iconstv C 2 rfl dX6_fill_56 ?_
                    refine t_icmp_ne C 79 (by decide) (show (hI (sI h 12 0 0) 24 i).toInt = (hI h 24 i).toInt from rfl) (show (2 : Int32).toInt = 2 from rfl) dX6_fill_57 (fun c57 => ?_) (fun c57 => ?_)
                    · first
                      | (exfalso; omega)
                      |  (refine r_aload_n C rfl rfl dX6_fill_79 ?_
                          refine r_dup C rfl dX6_fill_80 ?_
                          refine r_getI C dX6_fill_81 fl_X6_134 rfl (q_lt hs (by decide)) ?_
                          refine r_iload_n C rfl dX6_fill_84 ?_
                          refine r_isub C dX6_fill_85 ?_
                          refine r_putI C dX6_fill_86 fl_X6_134 rfl (q_lt hs (by decide)) (Or.inl rfl) ?_
                          refine r_aload_n C rfl rfl dX6_fill_89 ?_
                          refine r_dup C rfl dX6_fill_90 ?_
                          refine r_getJ C dX6_fill_91 fl_X6_187 rfl (q_lt hs (by decide)) ?_
                          refine r_iload_n C rfl dX6_fill_94 ?_
                          refine r_i2l C dX6_fill_95 ?_
                          refine r_ladd C dX6_fill_96 ?_
                          refine r_putJ C dX6_fill_97 fl_X6_187 rfl (q_lt hs (by decide)) (Or.inl rfl) ?_
                          refine r_aload_n C rfl rfl dX6_fill_100 ?_
                          refine r_dup C rfl dX6_fill_101 ?_
                          refine r_getJ C dX6_fill_102 fl_X6_190 rfl (q_lt hs (by decide)) ?_
                          refine r_iload_n C rfl dX6_fill_105 ?_
                          refine r_i2l C dX6_fill_106 ?_
                          refine r_ladd C dX6_fill_107 ?_
                          refine r_putJ C dX6_fill_108 fl_X6_190 rfl (q_lt hs (by decide)) (Or.inl rfl) ?_
                          exact K _ _ _ _ _ _ _ _ _ _ C)
                    · first
                      | (exfalso; omega)
                      |  (refine r_aload_n C rfl rfl dX6_fill_60 ?_
                          refine r_getO C dX6_fill_61 fl_X6_47 rfl rfl (q_lt hs (by decide)) (sh_12_14 hs) ?_
                          refine r_iload_n C rfl dX6_fill_64 ?_
                          refine r_dup2 C rfl rfl dX6_fill_65 ?_
                          refine r_iald C (i) (by have t := hv; omega) (by omega) dX6_fill_66 rfl (q_lt hs (by decide)) ?_
                          refine r_iload_n C rfl dX6_fill_67 ?_
                          refine r_aload_n C rfl rfl dX6_fill_68 ?_
                          refine r_getO C dX6_fill_69 fl_X6_47 rfl rfl (q_lt hs (by decide)) (sh_12_14 hs) ?_
                          refine r_iload_n C rfl dX6_fill_72 ?_
                          refine r_iald C (i) (by have t := hv; omega) (by omega) dX6_fill_73 rfl (q_lt hs (by decide)) ?_
                          refine r_callS C (sp_least G _ _) ks_X6_least kn_X6_least rfl dX6_fill_74 cl_X6_176 ⟨Nat.le_of_ble_eq_true rfl, Nat.le_of_ble_eq_true rfl⟩ (by show h.1 ≤ hf.1; omega) rfl (Nat.le_of_ble_eq_true rfl) ?_
                          refine r_isub C dX6_fill_77 ?_
                          refine r_iast C (i) (by have t := hv; omega) (by omega) dX6_fill_78 rfl (q_lt hs (by decide)) ?_
                          refine r_aload_n C rfl rfl dX6_fill_79 ?_
                          refine r_dup C rfl dX6_fill_80 ?_
                          refine r_getI C dX6_fill_81 fl_X6_134 rfl (q_lt hs (by decide)) ?_
                          refine r_iload_n C rfl dX6_fill_84 ?_
                          refine r_isub C dX6_fill_85 ?_
                          refine r_putI C dX6_fill_86 fl_X6_134 rfl (q_lt hs (by decide)) (Or.inl rfl) ?_
                          refine r_aload_n C rfl rfl dX6_fill_89 ?_
                          refine r_dup C rfl dX6_fill_90 ?_
                          refine r_getJ C dX6_fill_91 fl_X6_187 rfl (q_lt hs (by decide)) ?_
                          refine r_iload_n C rfl dX6_fill_94 ?_
                          refine r_i2l C dX6_fill_95 ?_
                          refine r_ladd C dX6_fill_96 ?_
                          refine r_putJ C dX6_fill_97 fl_X6_187 rfl (q_lt hs (by decide)) (Or.inl rfl) ?_
                          refine r_aload_n C rfl rfl dX6_fill_100 ?_
                          refine r_dup C rfl dX6_fill_101 ?_
                          refine r_getJ C dX6_fill_102 fl_X6_190 rfl (q_lt hs (by decide)) ?_
                          refine r_iload_n C rfl dX6_fill_105 ?_
                          refine r_i2l C dX6_fill_106 ?_
                          refine r_ladd C dX6_fill_107 ?_
                          refine r_putJ C dX6_fill_108 fl_X6_190 rfl (q_lt hs (by decide)) (Or.inl rfl) ?_
                          exact K _ _ _ _ _ _ _ _ _ _ C))
              · first
                | (exfalso; omega)
                |  (refine r_ldc C _ lc_X6_112 dX6_fill_40 ?_
                    exact r_iret C dX6_fill_42 rfl (by show h.1 ≤ hf.1; omega) rfl rfl))
        · first
          | (exfalso; omega)
          |  (refine r_ldc C _ lc_X6_106 dX6_fill_29 ?_
              exact r_iret C dX6_fill_31 rfl (by show h.1 ≤ hf.1; omega) rfl rfl))

set_option maxHeartbeats 4000000 in
set_option maxRecDepth 100000 in
theorem m_fillB (G : oG) {h : oH} (hs : oSh h) {n : Nat} (hn : (hI h 12 1).toInt = (n : Int)) (hn24 : n ≤ 24) (v : Int32) {i : Nat} (hi : i < n) (hv : v.toInt = (i : Int)) (q : Int32) (hq : 0 ≤ q.toInt ∧ q.toInt ≤ (hI h 15 i).toInt) (hd : q.toInt ≤ (hI h 12 19).toInt) (hp : ¬ (hI h 24 i).toInt = 2) {hf : oH} (hle : hf.1 = h.1) (K : ∀ (p : Program) (l : Launch) (e : Env) (R : Room) (s : State) (m : MethodId) (args : Array Value) (below : List Frame) (meth : Method) (c : Code) (_ : oC G mX6_fill h.1 hf.1 p l R s m args meth c), oS G mX6_fill p l e R s m args below meth c (oZ G below args s h.1 hf.1 (some (.int (costM (sI h 12 0 0) i q))) hf) h.1 111 [some (.ref 12), some (.int v), some (.int q), some (.int (costM (sI h 12 0 0) i q)), none, none, none, none] [] (rc (rb (ra (sI h 12 0 0) q) q) (costM (sI h 12 0 0) i q))) : oSp G mX6_fill [.ref 12, .int v, .int q] h (some (.int (costM (sI h 12 0 0) i q))) hf := by
  refine oSp.intro [some (.ref 12), some (.int v), some (.int q), none, none, none, none, none] rfl (Nat.le_of_ble_eq_true rfl) (plainFor_of_name (by decide +kernel)) (by omega) ?_
  intro p l e R s m args below meth c C
  refine r_aload_n C rfl rfl dX6_fill_0 ?_
  refine r_iconstv C 0 rfl dX6_fill_1 ?_
  refine r_putI C dX6_fill_2 fl_X6_90 rfl (q_lt hs (by decide)) (Or.inl rfl) ?_
  refine r_aload_n C rfl rfl dX6_fill_5 ?_
  refine r_iload_n C rfl dX6_fill_6 ?_
  refine r_callV C (sp_isHouse G (by exact hs) (by exact hn) hn24 _) kv_X6_isHouse kn_X6_isHouse rfl dX6_fill_7 cl_X6_108 ⟨Nat.le_of_ble_eq_true rfl, Nat.le_of_ble_eq_true rfl⟩ (by decide) rfl rfl (q_lt hs (by decide)) (by show h.1 ≤ hf.1; omega) rfl (Nat.le_of_ble_eq_true rfl) ?_
  refine t_ifb_eq C 29 (by decide) dX6_fill_10 (fun c10 => ?_) (fun c10 => ?_)
  · first
    | (exfalso; omega)
    |  (refine r_ldc C _ lc_X6_106 dX6_fill_29 ?_
        exact r_iret C dX6_fill_31 rfl (by show h.1 ≤ hf.1; omega) rfl rfl)
  · first
    | (exfalso; omega)
    |  (refine r_iload_n C rfl dX6_fill_13 ?_
        refine r_i2l C dX6_fill_14 ?_
        refine r_lconst C 0 rfl dX6_fill_15 ?_
        refine r_aload_n C rfl rfl dX6_fill_16 ?_
        refine r_getO C dX6_fill_17 fl_X6_16 rfl rfl (q_lt hs (by decide)) (sh_12_4 hs) ?_
        refine r_iload_n C rfl dX6_fill_20 ?_
        refine r_iald C (i) (by have t := hv; omega) (by omega) dX6_fill_21 rfl (q_lt hs (by decide)) ?_
        refine r_i2l C dX6_fill_22 ?_
        refine r_callS C (sp_in G (tI2L rfl) (show (0 : Int64).toInt = 0 from rfl) (tI2L (show (hI (sI h 12 0 0) 15 i).toInt = (hI h 15 i).toInt from rfl))) ks_X6_in kn_X6_in rfl dX6_fill_23 cl_X6_96 ⟨Nat.le_of_ble_eq_true rfl, Nat.le_of_ble_eq_true rfl⟩ (by show h.1 ≤ hf.1; omega) rfl (Nat.le_of_ble_eq_true rfl) ?_
        refine t_ifb_ne C 32 (by decide) dX6_fill_26 (fun c26 => ?_) (fun c26 => ?_)
        · first
          | (exfalso; omega)
          |  (refine r_iload_n C rfl dX6_fill_32 ?_
              refine r_aload_n C rfl rfl dX6_fill_33 ?_
              refine r_getI C dX6_fill_34 fl_X6_134 rfl (q_lt hs (by decide)) ?_
              refine t_icmp_le C 43 (by decide) rfl (show (hI (sI h 12 0 0) 12 19).toInt = (hI h 12 19).toInt from rfl) dX6_fill_37 (fun c37 => ?_) (fun c37 => ?_)
              · first
                | (exfalso; omega)
                |  (refine r_aload_n C rfl rfl dX6_fill_43 ?_
                    refine r_iload_n C rfl dX6_fill_44 ?_
                    refine r_iload_n C rfl dX6_fill_45 ?_
                    refine r_callV C (sp_costM G (by exact hs) _ hv (by omega) _) kv_X6_cost kn_X6_cost rfl dX6_fill_46 cl_X6_184 ⟨Nat.le_of_ble_eq_true rfl, Nat.le_of_ble_eq_true rfl⟩ (by decide) rfl rfl (q_lt hs (by decide)) (by show h.1 ≤ hf.1; omega) rfl (Nat.le_of_ble_eq_true rfl) ?_
                    refine r_istore_n C rfl (Nat.le_of_ble_eq_true rfl) dX6_fill_49 ?_
                    refine r_aload_n C rfl rfl dX6_fill_50 ?_
                    refine r_getO C dX6_fill_51 fl_X6_44 rfl rfl (q_lt hs (by decide)) (sh_12_13 hs) ?_
                    refine r_iload_n C rfl dX6_fill_54 ?_
                    refine r_iald C (i) (by have t := hv; omega) (by omega) dX6_fill_55 rfl (q_lt hs (by decide)) ?_
                    refine r_iconstv C 2 rfl dX6_fill_56 ?_
                    refine t_icmp_ne C 79 (by decide) (show (hI (sI h 12 0 0) 24 i).toInt = (hI h 24 i).toInt from rfl) (show (2 : Int32).toInt = 2 from rfl) dX6_fill_57 (fun c57 => ?_) (fun c57 => ?_)
                    · first
                      | (exfalso; omega)
                      |  (refine r_aload_n C rfl rfl dX6_fill_79 ?_
                          refine r_dup C rfl dX6_fill_80 ?_
                          refine r_getI C dX6_fill_81 fl_X6_134 rfl (q_lt hs (by decide)) ?_
                          refine r_iload_n C rfl dX6_fill_84 ?_
                          refine r_isub C dX6_fill_85 ?_
                          refine r_putI C dX6_fill_86 fl_X6_134 rfl (q_lt hs (by decide)) (Or.inl rfl) ?_
                          refine r_aload_n C rfl rfl dX6_fill_89 ?_
                          refine r_dup C rfl dX6_fill_90 ?_
                          refine r_getJ C dX6_fill_91 fl_X6_187 rfl (q_lt hs (by decide)) ?_
                          refine r_iload_n C rfl dX6_fill_94 ?_
                          refine r_i2l C dX6_fill_95 ?_
                          refine r_ladd C dX6_fill_96 ?_
                          refine r_putJ C dX6_fill_97 fl_X6_187 rfl (q_lt hs (by decide)) (Or.inl rfl) ?_
                          refine r_aload_n C rfl rfl dX6_fill_100 ?_
                          refine r_dup C rfl dX6_fill_101 ?_
                          refine r_getJ C dX6_fill_102 fl_X6_190 rfl (q_lt hs (by decide)) ?_
                          refine r_iload_n C rfl dX6_fill_105 ?_
                          refine r_i2l C dX6_fill_106 ?_
                          refine r_ladd C dX6_fill_107 ?_
                          refine r_putJ C dX6_fill_108 fl_X6_190 rfl (q_lt hs (by decide)) (Or.inl rfl) ?_
                          exact K _ _ _ _ _ _ _ _ _ _ C)
                    · first
                      | (exfalso; omega)
                      |  (refine r_aload_n C rfl rfl dX6_fill_60 ?_
                          refine r_getO C dX6_fill_61 fl_X6_47 rfl rfl (q_lt hs (by decide)) (sh_12_14 hs) ?_
                          refine r_iload_n C rfl dX6_fill_64 ?_
                          refine r_dup2 C rfl rfl dX6_fill_65 ?_
                          refine r_iald C (i) (by have t := hv; omega) (by omega) dX6_fill_66 rfl (q_lt hs (by decide)) ?_
                          refine r_iload_n C rfl dX6_fill_67 ?_
                          refine r_aload_n C rfl rfl dX6_fill_68 ?_
                          refine r_getO C dX6_fill_69 fl_X6_47 rfl rfl (q_lt hs (by decide)) (sh_12_14 hs) ?_
                          refine r_iload_n C rfl dX6_fill_72 ?_
                          refine r_iald C (i) (by have t := hv; omega) (by omega) dX6_fill_73 rfl (q_lt hs (by decide)) ?_
                          refine r_callS C (sp_least G _ _) ks_X6_least kn_X6_least rfl dX6_fill_74 cl_X6_176 ⟨Nat.le_of_ble_eq_true rfl, Nat.le_of_ble_eq_true rfl⟩ (by show h.1 ≤ hf.1; omega) rfl (Nat.le_of_ble_eq_true rfl) ?_
                          refine r_isub C dX6_fill_77 ?_
                          refine r_iast C (i) (by have t := hv; omega) (by omega) dX6_fill_78 rfl (q_lt hs (by decide)) ?_
                          refine r_aload_n C rfl rfl dX6_fill_79 ?_
                          refine r_dup C rfl dX6_fill_80 ?_
                          refine r_getI C dX6_fill_81 fl_X6_134 rfl (q_lt hs (by decide)) ?_
                          refine r_iload_n C rfl dX6_fill_84 ?_
                          refine r_isub C dX6_fill_85 ?_
                          refine r_putI C dX6_fill_86 fl_X6_134 rfl (q_lt hs (by decide)) (Or.inl rfl) ?_
                          refine r_aload_n C rfl rfl dX6_fill_89 ?_
                          refine r_dup C rfl dX6_fill_90 ?_
                          refine r_getJ C dX6_fill_91 fl_X6_187 rfl (q_lt hs (by decide)) ?_
                          refine r_iload_n C rfl dX6_fill_94 ?_
                          refine r_i2l C dX6_fill_95 ?_
                          refine r_ladd C dX6_fill_96 ?_
                          refine r_putJ C dX6_fill_97 fl_X6_187 rfl (q_lt hs (by decide)) (Or.inl rfl) ?_
                          refine r_aload_n C rfl rfl dX6_fill_100 ?_
                          refine r_dup C rfl dX6_fill_101 ?_
                          refine r_getJ C dX6_fill_102 fl_X6_190 rfl (q_lt hs (by decide)) ?_
                          refine r_iload_n C rfl dX6_fill_105 ?_
                          refine r_i2l C dX6_fill_106 ?_
                          refine r_ladd C dX6_fill_107 ?_
                          refine r_putJ C dX6_fill_108 fl_X6_190 rfl (q_lt hs (by decide)) (Or.inl rfl) ?_
                          exact K _ _ _ _ _ _ _ _ _ _ C))
              · first
                | (exfalso; omega)
                |  (refine r_ldc C _ lc_X6_112 dX6_fill_40 ?_
                    exact r_iret C dX6_fill_42 rfl (by show h.1 ≤ hf.1; omega) rfl rfl))
        · first
          | (exfalso; omega)
          |  (refine r_ldc C _ lc_X6_106 dX6_fill_29 ?_
              exact r_iret C dX6_fill_31 rfl (by show h.1 ≤ hf.1; omega) rfl rfl))

set_option maxHeartbeats 4000000 in
set_option maxRecDepth 100000 in
theorem m_fillD (G : oG) {h : oH} (hs : oSh h) {n : Nat} (hn : (hI h 12 1).toInt = (n : Int)) (hn24 : n ≤ 24) (v : Int32) {i : Nat} (hi : i < n) (hv : v.toInt = (i : Int)) (q : Int32) (hq : 0 ≤ q.toInt ∧ q.toInt ≤ (hI h 15 i).toInt) (hd : ¬ q.toInt ≤ (hI h 12 19).toInt) : oSp G mX6_fill [.ref 12, .int v, .int q] h (some (.int (-1000002))) (sI h 12 0 0) := by
  refine oSp.intro [some (.ref 12), some (.int v), some (.int q), none, none, none, none, none] rfl (Nat.le_of_ble_eq_true rfl) (plainFor_of_name (by decide +kernel)) (Nat.le_refl _) ?_
  intro p l e R s m args below meth c C
  refine r_aload_n C rfl rfl dX6_fill_0 ?_
  refine r_iconstv C 0 rfl dX6_fill_1 ?_
  refine r_putI C dX6_fill_2 fl_X6_90 rfl (q_lt hs (by decide)) (Or.inl rfl) ?_
  refine r_aload_n C rfl rfl dX6_fill_5 ?_
  refine r_iload_n C rfl dX6_fill_6 ?_
  refine r_callV C (sp_isHouse G (by exact hs) (by exact hn) hn24 _) kv_X6_isHouse kn_X6_isHouse rfl dX6_fill_7 cl_X6_108 ⟨Nat.le_of_ble_eq_true rfl, Nat.le_of_ble_eq_true rfl⟩ (by decide) rfl rfl (q_lt hs (by decide)) (Nat.le_refl _) rfl (Nat.le_of_ble_eq_true rfl) ?_
  refine t_ifb_eq C 29 (by decide) dX6_fill_10 (fun c10 => ?_) (fun c10 => ?_)
  · first
    | (exfalso; omega)
    |  (refine r_ldc C _ lc_X6_106 dX6_fill_29 ?_
        exact r_iret C dX6_fill_31 rfl (Nat.le_refl _) rfl rfl)
  · first
    | (exfalso; omega)
    |  (refine r_iload_n C rfl dX6_fill_13 ?_
        refine r_i2l C dX6_fill_14 ?_
        refine r_lconst C 0 rfl dX6_fill_15 ?_
        refine r_aload_n C rfl rfl dX6_fill_16 ?_
        refine r_getO C dX6_fill_17 fl_X6_16 rfl rfl (q_lt hs (by decide)) (sh_12_4 hs) ?_
        refine r_iload_n C rfl dX6_fill_20 ?_
        refine r_iald C (i) (by have t := hv; omega) (by omega) dX6_fill_21 rfl (q_lt hs (by decide)) ?_
        refine r_i2l C dX6_fill_22 ?_
        refine r_callS C (sp_in G (tI2L rfl) (show (0 : Int64).toInt = 0 from rfl) (tI2L (show (hI (sI h 12 0 0) 15 i).toInt = (hI h 15 i).toInt from rfl))) ks_X6_in kn_X6_in rfl dX6_fill_23 cl_X6_96 ⟨Nat.le_of_ble_eq_true rfl, Nat.le_of_ble_eq_true rfl⟩ (Nat.le_refl _) rfl (Nat.le_of_ble_eq_true rfl) ?_
        refine t_ifb_ne C 32 (by decide) dX6_fill_26 (fun c26 => ?_) (fun c26 => ?_)
        · first
          | (exfalso; omega)
          |  (refine r_iload_n C rfl dX6_fill_32 ?_
              refine r_aload_n C rfl rfl dX6_fill_33 ?_
              refine r_getI C dX6_fill_34 fl_X6_134 rfl (q_lt hs (by decide)) ?_
              refine t_icmp_le C 43 (by decide) rfl (show (hI (sI h 12 0 0) 12 19).toInt = (hI h 12 19).toInt from rfl) dX6_fill_37 (fun c37 => ?_) (fun c37 => ?_)
              · first
                | (exfalso; omega)
                |  (exact absurd trivial hd)
              · first
                | (exfalso; omega)
                |  (refine r_ldc C _ lc_X6_112 dX6_fill_40 ?_
                    exact r_iret C dX6_fill_42 rfl (Nat.le_refl _) rfl rfl))
        · first
          | (exfalso; omega)
          |  (refine r_ldc C _ lc_X6_106 dX6_fill_29 ?_
              exact r_iret C dX6_fill_31 rfl (Nat.le_refl _) rfl rfl))

set_option maxHeartbeats 4000000 in
set_option maxRecDepth 100000 in
theorem m_fillX (G : oG) {h : oH} (hs : oSh h) {n : Nat} (hn : (hI h 12 1).toInt = (n : Int)) (hn24 : n ≤ 24) (v : Int32) {i : Nat} (hi : i < n) (hv : v.toInt = (i : Int)) (q : Int32) (hq : ¬ (0 ≤ q.toInt ∧ q.toInt ≤ (hI h 15 i).toInt)) : oSp G mX6_fill [.ref 12, .int v, .int q] h (some (.int (-1000001))) (sI h 12 0 0) := by
  refine oSp.intro [some (.ref 12), some (.int v), some (.int q), none, none, none, none, none] rfl (Nat.le_of_ble_eq_true rfl) (plainFor_of_name (by decide +kernel)) (Nat.le_refl _) ?_
  intro p l e R s m args below meth c C
  refine r_aload_n C rfl rfl dX6_fill_0 ?_
  refine r_iconstv C 0 rfl dX6_fill_1 ?_
  refine r_putI C dX6_fill_2 fl_X6_90 rfl (q_lt hs (by decide)) (Or.inl rfl) ?_
  refine r_aload_n C rfl rfl dX6_fill_5 ?_
  refine r_iload_n C rfl dX6_fill_6 ?_
  refine r_callV C (sp_isHouse G (by exact hs) (by exact hn) hn24 _) kv_X6_isHouse kn_X6_isHouse rfl dX6_fill_7 cl_X6_108 ⟨Nat.le_of_ble_eq_true rfl, Nat.le_of_ble_eq_true rfl⟩ (by decide) rfl rfl (q_lt hs (by decide)) (Nat.le_refl _) rfl (Nat.le_of_ble_eq_true rfl) ?_
  refine t_ifb_eq C 29 (by decide) dX6_fill_10 (fun c10 => ?_) (fun c10 => ?_)
  · first
    | (exfalso; omega)
    |  (refine r_ldc C _ lc_X6_106 dX6_fill_29 ?_
        exact r_iret C dX6_fill_31 rfl (Nat.le_refl _) rfl rfl)
  · first
    | (exfalso; omega)
    |  (refine r_iload_n C rfl dX6_fill_13 ?_
        refine r_i2l C dX6_fill_14 ?_
        refine r_lconst C 0 rfl dX6_fill_15 ?_
        refine r_aload_n C rfl rfl dX6_fill_16 ?_
        refine r_getO C dX6_fill_17 fl_X6_16 rfl rfl (q_lt hs (by decide)) (sh_12_4 hs) ?_
        refine r_iload_n C rfl dX6_fill_20 ?_
        refine r_iald C (i) (by have t := hv; omega) (by omega) dX6_fill_21 rfl (q_lt hs (by decide)) ?_
        refine r_i2l C dX6_fill_22 ?_
        refine r_callS C (sp_in G (tI2L rfl) (show (0 : Int64).toInt = 0 from rfl) (tI2L (show (hI (sI h 12 0 0) 15 i).toInt = (hI h 15 i).toInt from rfl))) ks_X6_in kn_X6_in rfl dX6_fill_23 cl_X6_96 ⟨Nat.le_of_ble_eq_true rfl, Nat.le_of_ble_eq_true rfl⟩ (Nat.le_refl _) rfl (Nat.le_of_ble_eq_true rfl) ?_
        refine t_ifb_ne C 32 (by decide) dX6_fill_26 (fun c26 => ?_) (fun c26 => ?_)
        · first
          | (exfalso; omega)
          |  (exact absurd trivial hq)
        · first
          | (exfalso; omega)
          |  (refine r_ldc C _ lc_X6_106 dX6_fill_29 ?_
              exact r_iret C dX6_fill_31 rfl (Nat.le_refl _) rfl rfl))

set_option maxHeartbeats 4000000 in
set_option maxRecDepth 100000 in
theorem m_fillN (G : oG) {h : oH} (hs : oSh h) {n : Nat} (hn : (hI h 12 1).toInt = (n : Int)) (hn24 : n ≤ 24) (v : Int32) (hv : ¬ (0 ≤ v.toInt ∧ v.toInt < n)) (q : Int32) : oSp G mX6_fill [.ref 12, .int v, .int q] h (some (.int (-1000001))) (sI h 12 0 0) := by
  refine oSp.intro [some (.ref 12), some (.int v), some (.int q), none, none, none, none, none] rfl (Nat.le_of_ble_eq_true rfl) (plainFor_of_name (by decide +kernel)) (Nat.le_refl _) ?_
  intro p l e R s m args below meth c C
  refine r_aload_n C rfl rfl dX6_fill_0 ?_
  refine r_iconstv C 0 rfl dX6_fill_1 ?_
  refine r_putI C dX6_fill_2 fl_X6_90 rfl (q_lt hs (by decide)) (Or.inl rfl) ?_
  refine r_aload_n C rfl rfl dX6_fill_5 ?_
  refine r_iload_n C rfl dX6_fill_6 ?_
  refine r_callV C (sp_isHouse G (by exact hs) (by exact hn) hn24 _) kv_X6_isHouse kn_X6_isHouse rfl dX6_fill_7 cl_X6_108 ⟨Nat.le_of_ble_eq_true rfl, Nat.le_of_ble_eq_true rfl⟩ (by decide) rfl rfl (q_lt hs (by decide)) (Nat.le_refl _) rfl (Nat.le_of_ble_eq_true rfl) ?_
  refine t_ifb_eq C 29 (by decide) dX6_fill_10 (fun c10 => ?_) (fun c10 => ?_)
  · first
    | (exfalso; omega)
    |  (refine r_ldc C _ lc_X6_106 dX6_fill_29 ?_
        exact r_iret C dX6_fill_31 rfl (Nat.le_refl _) rfl rfl)
  · first
    | (exfalso; omega)
    |  (exact absurd trivial hv)

