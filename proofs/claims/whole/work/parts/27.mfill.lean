/-! a fill, the reference -/
def mk4 (h : oH) (i : Nat) (A B C D : Int32) : oH := sI (sI (sI (sI h 16 (4 * i) A) 16 (4 * i + 1) B) 16 (4 * i + 2) C) 16 (4 * i + 3) D
set_option maxHeartbeats 4000000 in
set_option maxRecDepth 100000 in
theorem sp_mkA (G : oG) {h : oH} (hs : oSh h) (v q : Int32) {i : Nat} (hv : v.toInt = (i : Int)) (hi : i < 24) (hs0 : 0 < (hI h 22 i).toInt) (hk : 0 < (hI h 23 i).toInt) : oSp G mX6_makeNarrower [.ref 12, .int v, .int q] h none (mk4 h i (aN (hI h 16 (4 * i)) (cN (hI h 16 (4 * i)) (hI h 16 (4 * i + 1)) (hI h 16 (4 * i + 2)) q (hI h 22 i) (hI h 23 i)) (mxM (hI h 16 (4 * i + 1)) (mnM (hI h 16 (4 * i + 3)) (cutM (q - (hI h 22 i) * (hI h 16 (4 * i))) (hI h 23 i)))) q (hI h 22 i) (hI h 23 i)) (mnM (mxM (hI h 16 (4 * i + 1)) (mnM (hI h 16 (4 * i + 3)) (cutM (q - (hI h 22 i) * (hI h 16 (4 * i))) (hI h 23 i)))) (mxM (hI h 16 (4 * i + 1)) (rupM (q - (hI h 22 i) * (cN (hI h 16 (4 * i)) (hI h 16 (4 * i + 1)) (hI h 16 (4 * i + 2)) q (hI h 22 i) (hI h 23 i))) (hI h 23 i)))) (cN (hI h 16 (4 * i)) (hI h 16 (4 * i + 1)) (hI h 16 (4 * i + 2)) q (hI h 22 i) (hI h 23 i)) (mxM (hI h 16 (4 * i + 1)) (mnM (hI h 16 (4 * i + 3)) (cutM (q - (hI h 22 i) * (hI h 16 (4 * i))) (hI h 23 i))))) := by
  refine oSp.intro [some (.ref 12), some (.int v), some (.int q), none, none, none, none, none, none] rfl (Nat.le_of_ble_eq_true rfl) (plainFor_of_name (by decide +kernel)) (Nat.le_refl _) ?_
  intro p l e R s m args below meth c C
  refine r_aload_n C rfl rfl dX6_makeNarrower_0 ?_
  refine r_getO C dX6_makeNarrower_1 fl_X6_38 rfl rfl (q_lt hs (by decide)) (sh_12_11 hs) ?_
  refine r_iload_n C rfl dX6_makeNarrower_4 ?_
  refine r_iald C (i) (by have t := hv; omega) (by omega) dX6_makeNarrower_5 rfl (q_lt hs (by decide)) ?_
  refine r_istore_n C rfl (Nat.le_of_ble_eq_true rfl) dX6_makeNarrower_6 ?_
  refine r_aload_n C rfl rfl dX6_makeNarrower_7 ?_
  refine r_getO C dX6_makeNarrower_8 fl_X6_41 rfl rfl (q_lt hs (by decide)) (sh_12_12 hs) ?_
  refine r_iload_n C rfl dX6_makeNarrower_11 ?_
  refine r_iald C (i) (by have t := hv; omega) (by omega) dX6_makeNarrower_12 rfl (q_lt hs (by decide)) ?_
  refine r_istore C rfl (Nat.le_of_ble_eq_true rfl) dX6_makeNarrower_13 ?_
  refine r_aload_n C rfl rfl dX6_makeNarrower_15 ?_
  refine r_getO C dX6_makeNarrower_16 fl_X6_19 rfl rfl (q_lt hs (by decide)) (sh_12_5 hs) ?_
  refine r_iconstv C 4 rfl dX6_makeNarrower_19 ?_
  refine r_iload_n C rfl dX6_makeNarrower_20 ?_
  refine r_imul C dX6_makeNarrower_21 ?_
  refine r_iald C ((4) * (i)) (by have t := (tM (show (4 : Int32).toInt = 4 from rfl) hv (by omega)); omega) (by omega) dX6_makeNarrower_22 rfl (q_lt hs (by decide)) ?_
  refine r_istore C rfl (Nat.le_of_ble_eq_true rfl) dX6_makeNarrower_23 ?_
  refine r_aload_n C rfl rfl dX6_makeNarrower_25 ?_
  refine r_getO C dX6_makeNarrower_26 fl_X6_19 rfl rfl (q_lt hs (by decide)) (sh_12_5 hs) ?_
  refine r_iconstv C 4 rfl dX6_makeNarrower_29 ?_
  refine r_iload_n C rfl dX6_makeNarrower_30 ?_
  refine r_imul C dX6_makeNarrower_31 ?_
  refine r_iconstv C 1 rfl dX6_makeNarrower_32 ?_
  refine r_iadd C dX6_makeNarrower_33 ?_
  refine r_iald C (((4) * (i)) + (1)) (by have t := (tA (tM (show (4 : Int32).toInt = 4 from rfl) hv (by omega)) (show (1 : Int32).toInt = 1 from rfl) (by omega)); omega) (by omega) dX6_makeNarrower_34 rfl (q_lt hs (by decide)) ?_
  refine r_istore C rfl (Nat.le_of_ble_eq_true rfl) dX6_makeNarrower_35 ?_
  refine r_aload_n C rfl rfl dX6_makeNarrower_37 ?_
  refine r_getO C dX6_makeNarrower_38 fl_X6_19 rfl rfl (q_lt hs (by decide)) (sh_12_5 hs) ?_
  refine r_iconstv C 4 rfl dX6_makeNarrower_41 ?_
  refine r_iload_n C rfl dX6_makeNarrower_42 ?_
  refine r_imul C dX6_makeNarrower_43 ?_
  refine r_iconstv C 2 rfl dX6_makeNarrower_44 ?_
  refine r_iadd C dX6_makeNarrower_45 ?_
  refine r_iald C (((4) * (i)) + (2)) (by have t := (tA (tM (show (4 : Int32).toInt = 4 from rfl) hv (by omega)) (show (2 : Int32).toInt = 2 from rfl) (by omega)); omega) (by omega) dX6_makeNarrower_46 rfl (q_lt hs (by decide)) ?_
  refine r_istore C rfl (Nat.le_of_ble_eq_true rfl) dX6_makeNarrower_47 ?_
  refine r_aload_n C rfl rfl dX6_makeNarrower_49 ?_
  refine r_getO C dX6_makeNarrower_50 fl_X6_19 rfl rfl (q_lt hs (by decide)) (sh_12_5 hs) ?_
  refine r_iconstv C 4 rfl dX6_makeNarrower_53 ?_
  refine r_iload_n C rfl dX6_makeNarrower_54 ?_
  refine r_imul C dX6_makeNarrower_55 ?_
  refine r_iconstv C 3 rfl dX6_makeNarrower_56 ?_
  refine r_iadd C dX6_makeNarrower_57 ?_
  refine r_iald C (((4) * (i)) + (3)) (by have t := (tA (tM (show (4 : Int32).toInt = 4 from rfl) hv (by omega)) (show (3 : Int32).toInt = 3 from rfl) (by omega)); omega) (by omega) dX6_makeNarrower_58 rfl (q_lt hs (by decide)) ?_
  refine r_istore C rfl (Nat.le_of_ble_eq_true rfl) dX6_makeNarrower_59 ?_
  refine r_iload C rfl dX6_makeNarrower_61 ?_
  refine r_iload C rfl dX6_makeNarrower_63 ?_
  refine r_iload_n C rfl dX6_makeNarrower_65 ?_
  refine r_iload C rfl dX6_makeNarrower_66 ?_
  refine r_iload C rfl dX6_makeNarrower_68 ?_
  refine r_imul C dX6_makeNarrower_70 ?_
  refine r_isub C dX6_makeNarrower_71 ?_
  refine r_iload_n C rfl dX6_makeNarrower_72 ?_
  refine r_callS C (sp_cutM G _ _ (fun w => by rw [w] at hs0; exact absurd hs0 (by decide))) ks_X6_cut kn_X6_cut rfl dX6_makeNarrower_73 cl_X6_173 ⟨Nat.le_of_ble_eq_true rfl, Nat.le_of_ble_eq_true rfl⟩ (Nat.le_refl _) rfl (Nat.le_of_ble_eq_true rfl) ?_
  refine r_callS C (sp_least G _ _) ks_X6_least kn_X6_least rfl dX6_makeNarrower_76 cl_X6_176 ⟨Nat.le_of_ble_eq_true rfl, Nat.le_of_ble_eq_true rfl⟩ (Nat.le_refl _) rfl (Nat.le_of_ble_eq_true rfl) ?_
  refine r_callS C (sp_most G _ _) ks_X6_most kn_X6_most rfl dX6_makeNarrower_79 cl_X6_178 ⟨Nat.le_of_ble_eq_true rfl, Nat.le_of_ble_eq_true rfl⟩ (Nat.le_refl _) rfl (Nat.le_of_ble_eq_true rfl) ?_
  refine r_istore C rfl (Nat.le_of_ble_eq_true rfl) dX6_makeNarrower_82 ?_
  refine r_iload C rfl dX6_makeNarrower_84 ?_
  refine t_if_le C 112 (by decide) rfl dX6_makeNarrower_86 (fun c86 => ?_) (fun c86 => ?_)
  · first
    | (exfalso; omega)
    |  (refine r_iload C rfl dX6_makeNarrower_112 ?_
        refine r_iload C rfl dX6_makeNarrower_114 ?_
        refine r_iload_n C rfl dX6_makeNarrower_116 ?_
        refine r_iload C rfl dX6_makeNarrower_117 ?_
        refine r_iload C rfl dX6_makeNarrower_119 ?_
        refine r_imul C dX6_makeNarrower_121 ?_
        refine r_isub C dX6_makeNarrower_122 ?_
        refine r_iload_n C rfl dX6_makeNarrower_123 ?_
        refine r_callS C (sp_rupM G _ _ (fun w => by rw [w] at hs0; exact absurd hs0 (by decide))) ks_X6_roundedUp kn_X6_roundedUp rfl dX6_makeNarrower_124 cl_X6_181 ⟨Nat.le_of_ble_eq_true rfl, Nat.le_of_ble_eq_true rfl⟩ (Nat.le_refl _) rfl (Nat.le_of_ble_eq_true rfl) ?_
        refine r_callS C (sp_most G _ _) ks_X6_most kn_X6_most rfl dX6_makeNarrower_127 cl_X6_178 ⟨Nat.le_of_ble_eq_true rfl, Nat.le_of_ble_eq_true rfl⟩ (Nat.le_refl _) rfl (Nat.le_of_ble_eq_true rfl) ?_
        refine r_callS C (sp_least G _ _) ks_X6_least kn_X6_least rfl dX6_makeNarrower_130 cl_X6_176 ⟨Nat.le_of_ble_eq_true rfl, Nat.le_of_ble_eq_true rfl⟩ (Nat.le_refl _) rfl (Nat.le_of_ble_eq_true rfl) ?_
        refine r_istore C rfl (Nat.le_of_ble_eq_true rfl) dX6_makeNarrower_133 ?_
        refine r_iload C rfl dX6_makeNarrower_135 ?_
        refine t_if_le C 163 (by decide) rfl dX6_makeNarrower_137 (fun c137 => ?_) (fun c137 => ?_)
        · first
          | (exfalso; omega)
          |  (refine r_aload_n C rfl rfl dX6_makeNarrower_163 ?_
              refine r_getO C dX6_makeNarrower_164 fl_X6_19 rfl rfl (q_lt hs (by decide)) (sh_12_5 hs) ?_
              refine r_iconstv C 4 rfl dX6_makeNarrower_167 ?_
              refine r_iload_n C rfl dX6_makeNarrower_168 ?_
              refine r_imul C dX6_makeNarrower_169 ?_
              refine r_iload C rfl dX6_makeNarrower_170 ?_
              refine r_iast C ((4) * (i)) (by have t := (tM (show (4 : Int32).toInt = 4 from rfl) hv (by omega)); omega) (by omega) dX6_makeNarrower_172 rfl (q_lt hs (by decide)) ?_
              refine r_aload_n C rfl rfl dX6_makeNarrower_173 ?_
              refine r_getO C dX6_makeNarrower_174 fl_X6_19 rfl rfl (q_lt hs (by decide)) (sh_12_5 hs) ?_
              refine r_iconstv C 4 rfl dX6_makeNarrower_177 ?_
              refine r_iload_n C rfl dX6_makeNarrower_178 ?_
              refine r_imul C dX6_makeNarrower_179 ?_
              refine r_iconstv C 1 rfl dX6_makeNarrower_180 ?_
              refine r_iadd C dX6_makeNarrower_181 ?_
              refine r_iload C rfl dX6_makeNarrower_182 ?_
              refine r_iast C (((4) * (i)) + (1)) (by have t := (tA (tM (show (4 : Int32).toInt = 4 from rfl) hv (by omega)) (show (1 : Int32).toInt = 1 from rfl) (by omega)); omega) (by omega) dX6_makeNarrower_184 rfl (q_lt hs (by decide)) ?_
              refine r_aload_n C rfl rfl dX6_makeNarrower_185 ?_
              refine r_getO C dX6_makeNarrower_186 fl_X6_19 rfl rfl (q_lt hs (by decide)) (sh_12_5 hs) ?_
              refine r_iconstv C 4 rfl dX6_makeNarrower_189 ?_
              refine r_iload_n C rfl dX6_makeNarrower_190 ?_
              refine r_imul C dX6_makeNarrower_191 ?_
              refine r_iconstv C 2 rfl dX6_makeNarrower_192 ?_
              refine r_iadd C dX6_makeNarrower_193 ?_
              refine r_iload C rfl dX6_makeNarrower_194 ?_
              refine r_iast C (((4) * (i)) + (2)) (by have t := (tA (tM (show (4 : Int32).toInt = 4 from rfl) hv (by omega)) (show (2 : Int32).toInt = 2 from rfl) (by omega)); omega) (by omega) dX6_makeNarrower_196 rfl (q_lt hs (by decide)) ?_
              refine r_aload_n C rfl rfl dX6_makeNarrower_197 ?_
              refine r_getO C dX6_makeNarrower_198 fl_X6_19 rfl rfl (q_lt hs (by decide)) (sh_12_5 hs) ?_
              refine r_iconstv C 4 rfl dX6_makeNarrower_201 ?_
              refine r_iload_n C rfl dX6_makeNarrower_202 ?_
              refine r_imul C dX6_makeNarrower_203 ?_
              refine r_iconstv C 3 rfl dX6_makeNarrower_204 ?_
              refine r_iadd C dX6_makeNarrower_205 ?_
              refine r_iload C rfl dX6_makeNarrower_206 ?_
              refine r_iast C (((4) * (i)) + (3)) (by have t := (tA (tM (show (4 : Int32).toInt = 4 from rfl) hv (by omega)) (show (3 : Int32).toInt = 3 from rfl) (by omega)); omega) (by omega) dX6_makeNarrower_208 rfl (q_lt hs (by decide)) ?_
              exact r_vret C dX6_makeNarrower_209 rfl (Nat.le_refl _) rfl)
        · first
          | (exfalso; omega)
          |  (refine r_iload C rfl dX6_makeNarrower_140 ?_
              refine r_iload C rfl dX6_makeNarrower_142 ?_
              refine r_iload_n C rfl dX6_makeNarrower_144 ?_
              refine r_iload_n C rfl dX6_makeNarrower_145 ?_
              refine r_iload C rfl dX6_makeNarrower_146 ?_
              refine r_imul C dX6_makeNarrower_148 ?_
              refine r_isub C dX6_makeNarrower_149 ?_
              refine r_iload C rfl dX6_makeNarrower_150 ?_
              refine r_callS C (sp_rupM G _ _ (fun w => by have z := c137; rw [w] at z; exact absurd z (by decide))) ks_X6_roundedUp kn_X6_roundedUp rfl dX6_makeNarrower_152 cl_X6_181 ⟨Nat.le_of_ble_eq_true rfl, Nat.le_of_ble_eq_true rfl⟩ (Nat.le_refl _) rfl (Nat.le_of_ble_eq_true rfl) ?_
              refine r_callS C (sp_most G _ _) ks_X6_most kn_X6_most rfl dX6_makeNarrower_155 cl_X6_178 ⟨Nat.le_of_ble_eq_true rfl, Nat.le_of_ble_eq_true rfl⟩ (Nat.le_refl _) rfl (Nat.le_of_ble_eq_true rfl) ?_
              refine r_callS C (sp_least G _ _) ks_X6_least kn_X6_least rfl dX6_makeNarrower_158 cl_X6_176 ⟨Nat.le_of_ble_eq_true rfl, Nat.le_of_ble_eq_true rfl⟩ (Nat.le_refl _) rfl (Nat.le_of_ble_eq_true rfl) ?_
              refine r_istore C rfl (Nat.le_of_ble_eq_true rfl) dX6_makeNarrower_161 ?_
              refine r_aload_n C rfl rfl dX6_makeNarrower_163 ?_
              refine r_getO C dX6_makeNarrower_164 fl_X6_19 rfl rfl (q_lt hs (by decide)) (sh_12_5 hs) ?_
              refine r_iconstv C 4 rfl dX6_makeNarrower_167 ?_
              refine r_iload_n C rfl dX6_makeNarrower_168 ?_
              refine r_imul C dX6_makeNarrower_169 ?_
              refine r_iload C rfl dX6_makeNarrower_170 ?_
              refine r_iast C ((4) * (i)) (by have t := (tM (show (4 : Int32).toInt = 4 from rfl) hv (by omega)); omega) (by omega) dX6_makeNarrower_172 rfl (q_lt hs (by decide)) ?_
              refine r_aload_n C rfl rfl dX6_makeNarrower_173 ?_
              refine r_getO C dX6_makeNarrower_174 fl_X6_19 rfl rfl (q_lt hs (by decide)) (sh_12_5 hs) ?_
              refine r_iconstv C 4 rfl dX6_makeNarrower_177 ?_
              refine r_iload_n C rfl dX6_makeNarrower_178 ?_
              refine r_imul C dX6_makeNarrower_179 ?_
              refine r_iconstv C 1 rfl dX6_makeNarrower_180 ?_
              refine r_iadd C dX6_makeNarrower_181 ?_
              refine r_iload C rfl dX6_makeNarrower_182 ?_
              refine r_iast C (((4) * (i)) + (1)) (by have t := (tA (tM (show (4 : Int32).toInt = 4 from rfl) hv (by omega)) (show (1 : Int32).toInt = 1 from rfl) (by omega)); omega) (by omega) dX6_makeNarrower_184 rfl (q_lt hs (by decide)) ?_
              refine r_aload_n C rfl rfl dX6_makeNarrower_185 ?_
              refine r_getO C dX6_makeNarrower_186 fl_X6_19 rfl rfl (q_lt hs (by decide)) (sh_12_5 hs) ?_
              refine r_iconstv C 4 rfl dX6_makeNarrower_189 ?_
              refine r_iload_n C rfl dX6_makeNarrower_190 ?_
              refine r_imul C dX6_makeNarrower_191 ?_
              refine r_iconstv C 2 rfl dX6_makeNarrower_192 ?_
              refine r_iadd C dX6_makeNarrower_193 ?_
              refine r_iload C rfl dX6_makeNarrower_194 ?_
              refine r_iast C (((4) * (i)) + (2)) (by have t := (tA (tM (show (4 : Int32).toInt = 4 from rfl) hv (by omega)) (show (2 : Int32).toInt = 2 from rfl) (by omega)); omega) (by omega) dX6_makeNarrower_196 rfl (q_lt hs (by decide)) ?_
              refine r_aload_n C rfl rfl dX6_makeNarrower_197 ?_
              refine r_getO C dX6_makeNarrower_198 fl_X6_19 rfl rfl (q_lt hs (by decide)) (sh_12_5 hs) ?_
              refine r_iconstv C 4 rfl dX6_makeNarrower_201 ?_
              refine r_iload_n C rfl dX6_makeNarrower_202 ?_
              refine r_imul C dX6_makeNarrower_203 ?_
              refine r_iconstv C 3 rfl dX6_makeNarrower_204 ?_
              refine r_iadd C dX6_makeNarrower_205 ?_
              refine r_iload C rfl dX6_makeNarrower_206 ?_
              refine r_iast C (((4) * (i)) + (3)) (by have t := (tA (tM (show (4 : Int32).toInt = 4 from rfl) hv (by omega)) (show (3 : Int32).toInt = 3 from rfl) (by omega)); omega) (by omega) dX6_makeNarrower_208 rfl (q_lt hs (by decide)) ?_
              exact r_vret C dX6_makeNarrower_209 rfl (Nat.le_refl _) rfl))
  · first
    | (exfalso; omega)
    |  (refine r_iload C rfl dX6_makeNarrower_89 ?_
        refine r_iload C rfl dX6_makeNarrower_91 ?_
        refine r_iload_n C rfl dX6_makeNarrower_93 ?_
        refine r_iload_n C rfl dX6_makeNarrower_94 ?_
        refine r_iload C rfl dX6_makeNarrower_95 ?_
        refine r_imul C dX6_makeNarrower_97 ?_
        refine r_isub C dX6_makeNarrower_98 ?_
        refine r_iload C rfl dX6_makeNarrower_99 ?_
        refine r_callS C (sp_cutM G _ _ (fun w => by have z := c86; rw [w] at z; exact absurd z (by decide))) ks_X6_cut kn_X6_cut rfl dX6_makeNarrower_101 cl_X6_173 ⟨Nat.le_of_ble_eq_true rfl, Nat.le_of_ble_eq_true rfl⟩ (Nat.le_refl _) rfl (Nat.le_of_ble_eq_true rfl) ?_
        refine r_callS C (sp_least G _ _) ks_X6_least kn_X6_least rfl dX6_makeNarrower_104 cl_X6_176 ⟨Nat.le_of_ble_eq_true rfl, Nat.le_of_ble_eq_true rfl⟩ (Nat.le_refl _) rfl (Nat.le_of_ble_eq_true rfl) ?_
        refine r_callS C (sp_most G _ _) ks_X6_most kn_X6_most rfl dX6_makeNarrower_107 cl_X6_178 ⟨Nat.le_of_ble_eq_true rfl, Nat.le_of_ble_eq_true rfl⟩ (Nat.le_refl _) rfl (Nat.le_of_ble_eq_true rfl) ?_
        refine r_istore C rfl (Nat.le_of_ble_eq_true rfl) dX6_makeNarrower_110 ?_
        refine r_iload C rfl dX6_makeNarrower_112 ?_
        refine r_iload C rfl dX6_makeNarrower_114 ?_
        refine r_iload_n C rfl dX6_makeNarrower_116 ?_
        refine r_iload C rfl dX6_makeNarrower_117 ?_
        refine r_iload C rfl dX6_makeNarrower_119 ?_
        refine r_imul C dX6_makeNarrower_121 ?_
        refine r_isub C dX6_makeNarrower_122 ?_
        refine r_iload_n C rfl dX6_makeNarrower_123 ?_
        refine r_callS C (sp_rupM G _ _ (fun w => by rw [w] at hs0; exact absurd hs0 (by decide))) ks_X6_roundedUp kn_X6_roundedUp rfl dX6_makeNarrower_124 cl_X6_181 ⟨Nat.le_of_ble_eq_true rfl, Nat.le_of_ble_eq_true rfl⟩ (Nat.le_refl _) rfl (Nat.le_of_ble_eq_true rfl) ?_
        refine r_callS C (sp_most G _ _) ks_X6_most kn_X6_most rfl dX6_makeNarrower_127 cl_X6_178 ⟨Nat.le_of_ble_eq_true rfl, Nat.le_of_ble_eq_true rfl⟩ (Nat.le_refl _) rfl (Nat.le_of_ble_eq_true rfl) ?_
        refine r_callS C (sp_least G _ _) ks_X6_least kn_X6_least rfl dX6_makeNarrower_130 cl_X6_176 ⟨Nat.le_of_ble_eq_true rfl, Nat.le_of_ble_eq_true rfl⟩ (Nat.le_refl _) rfl (Nat.le_of_ble_eq_true rfl) ?_
        refine r_istore C rfl (Nat.le_of_ble_eq_true rfl) dX6_makeNarrower_133 ?_
        refine r_iload C rfl dX6_makeNarrower_135 ?_
        refine t_if_le C 163 (by decide) rfl dX6_makeNarrower_137 (fun c137 => ?_) (fun c137 => ?_)
        · first
          | (exfalso; omega)
          |  (refine r_aload_n C rfl rfl dX6_makeNarrower_163 ?_
              refine r_getO C dX6_makeNarrower_164 fl_X6_19 rfl rfl (q_lt hs (by decide)) (sh_12_5 hs) ?_
              refine r_iconstv C 4 rfl dX6_makeNarrower_167 ?_
              refine r_iload_n C rfl dX6_makeNarrower_168 ?_
              refine r_imul C dX6_makeNarrower_169 ?_
              refine r_iload C rfl dX6_makeNarrower_170 ?_
              refine r_iast C ((4) * (i)) (by have t := (tM (show (4 : Int32).toInt = 4 from rfl) hv (by omega)); omega) (by omega) dX6_makeNarrower_172 rfl (q_lt hs (by decide)) ?_
              refine r_aload_n C rfl rfl dX6_makeNarrower_173 ?_
              refine r_getO C dX6_makeNarrower_174 fl_X6_19 rfl rfl (q_lt hs (by decide)) (sh_12_5 hs) ?_
              refine r_iconstv C 4 rfl dX6_makeNarrower_177 ?_
              refine r_iload_n C rfl dX6_makeNarrower_178 ?_
              refine r_imul C dX6_makeNarrower_179 ?_
              refine r_iconstv C 1 rfl dX6_makeNarrower_180 ?_
              refine r_iadd C dX6_makeNarrower_181 ?_
              refine r_iload C rfl dX6_makeNarrower_182 ?_
              refine r_iast C (((4) * (i)) + (1)) (by have t := (tA (tM (show (4 : Int32).toInt = 4 from rfl) hv (by omega)) (show (1 : Int32).toInt = 1 from rfl) (by omega)); omega) (by omega) dX6_makeNarrower_184 rfl (q_lt hs (by decide)) ?_
              refine r_aload_n C rfl rfl dX6_makeNarrower_185 ?_
              refine r_getO C dX6_makeNarrower_186 fl_X6_19 rfl rfl (q_lt hs (by decide)) (sh_12_5 hs) ?_
              refine r_iconstv C 4 rfl dX6_makeNarrower_189 ?_
              refine r_iload_n C rfl dX6_makeNarrower_190 ?_
              refine r_imul C dX6_makeNarrower_191 ?_
              refine r_iconstv C 2 rfl dX6_makeNarrower_192 ?_
              refine r_iadd C dX6_makeNarrower_193 ?_
              refine r_iload C rfl dX6_makeNarrower_194 ?_
              refine r_iast C (((4) * (i)) + (2)) (by have t := (tA (tM (show (4 : Int32).toInt = 4 from rfl) hv (by omega)) (show (2 : Int32).toInt = 2 from rfl) (by omega)); omega) (by omega) dX6_makeNarrower_196 rfl (q_lt hs (by decide)) ?_
              refine r_aload_n C rfl rfl dX6_makeNarrower_197 ?_
              refine r_getO C dX6_makeNarrower_198 fl_X6_19 rfl rfl (q_lt hs (by decide)) (sh_12_5 hs) ?_
              refine r_iconstv C 4 rfl dX6_makeNarrower_201 ?_
              refine r_iload_n C rfl dX6_makeNarrower_202 ?_
              refine r_imul C dX6_makeNarrower_203 ?_
              refine r_iconstv C 3 rfl dX6_makeNarrower_204 ?_
              refine r_iadd C dX6_makeNarrower_205 ?_
              refine r_iload C rfl dX6_makeNarrower_206 ?_
              refine r_iast C (((4) * (i)) + (3)) (by have t := (tA (tM (show (4 : Int32).toInt = 4 from rfl) hv (by omega)) (show (3 : Int32).toInt = 3 from rfl) (by omega)); omega) (by omega) dX6_makeNarrower_208 rfl (q_lt hs (by decide)) ?_
              exact r_vret C dX6_makeNarrower_209 rfl (Nat.le_refl _) rfl)
        · first
          | (exfalso; omega)
          |  (refine r_iload C rfl dX6_makeNarrower_140 ?_
              refine r_iload C rfl dX6_makeNarrower_142 ?_
              refine r_iload_n C rfl dX6_makeNarrower_144 ?_
              refine r_iload_n C rfl dX6_makeNarrower_145 ?_
              refine r_iload C rfl dX6_makeNarrower_146 ?_
              refine r_imul C dX6_makeNarrower_148 ?_
              refine r_isub C dX6_makeNarrower_149 ?_
              refine r_iload C rfl dX6_makeNarrower_150 ?_
              refine r_callS C (sp_rupM G _ _ (fun w => by have z := c137; rw [w] at z; exact absurd z (by decide))) ks_X6_roundedUp kn_X6_roundedUp rfl dX6_makeNarrower_152 cl_X6_181 ⟨Nat.le_of_ble_eq_true rfl, Nat.le_of_ble_eq_true rfl⟩ (Nat.le_refl _) rfl (Nat.le_of_ble_eq_true rfl) ?_
              refine r_callS C (sp_most G _ _) ks_X6_most kn_X6_most rfl dX6_makeNarrower_155 cl_X6_178 ⟨Nat.le_of_ble_eq_true rfl, Nat.le_of_ble_eq_true rfl⟩ (Nat.le_refl _) rfl (Nat.le_of_ble_eq_true rfl) ?_
              refine r_callS C (sp_least G _ _) ks_X6_least kn_X6_least rfl dX6_makeNarrower_158 cl_X6_176 ⟨Nat.le_of_ble_eq_true rfl, Nat.le_of_ble_eq_true rfl⟩ (Nat.le_refl _) rfl (Nat.le_of_ble_eq_true rfl) ?_
              refine r_istore C rfl (Nat.le_of_ble_eq_true rfl) dX6_makeNarrower_161 ?_
              refine r_aload_n C rfl rfl dX6_makeNarrower_163 ?_
              refine r_getO C dX6_makeNarrower_164 fl_X6_19 rfl rfl (q_lt hs (by decide)) (sh_12_5 hs) ?_
              refine r_iconstv C 4 rfl dX6_makeNarrower_167 ?_
              refine r_iload_n C rfl dX6_makeNarrower_168 ?_
              refine r_imul C dX6_makeNarrower_169 ?_
              refine r_iload C rfl dX6_makeNarrower_170 ?_
              refine r_iast C ((4) * (i)) (by have t := (tM (show (4 : Int32).toInt = 4 from rfl) hv (by omega)); omega) (by omega) dX6_makeNarrower_172 rfl (q_lt hs (by decide)) ?_
              refine r_aload_n C rfl rfl dX6_makeNarrower_173 ?_
              refine r_getO C dX6_makeNarrower_174 fl_X6_19 rfl rfl (q_lt hs (by decide)) (sh_12_5 hs) ?_
              refine r_iconstv C 4 rfl dX6_makeNarrower_177 ?_
              refine r_iload_n C rfl dX6_makeNarrower_178 ?_
              refine r_imul C dX6_makeNarrower_179 ?_
              refine r_iconstv C 1 rfl dX6_makeNarrower_180 ?_
              refine r_iadd C dX6_makeNarrower_181 ?_
              refine r_iload C rfl dX6_makeNarrower_182 ?_
              refine r_iast C (((4) * (i)) + (1)) (by have t := (tA (tM (show (4 : Int32).toInt = 4 from rfl) hv (by omega)) (show (1 : Int32).toInt = 1 from rfl) (by omega)); omega) (by omega) dX6_makeNarrower_184 rfl (q_lt hs (by decide)) ?_
              refine r_aload_n C rfl rfl dX6_makeNarrower_185 ?_
              refine r_getO C dX6_makeNarrower_186 fl_X6_19 rfl rfl (q_lt hs (by decide)) (sh_12_5 hs) ?_
              refine r_iconstv C 4 rfl dX6_makeNarrower_189 ?_
              refine r_iload_n C rfl dX6_makeNarrower_190 ?_
              refine r_imul C dX6_makeNarrower_191 ?_
              refine r_iconstv C 2 rfl dX6_makeNarrower_192 ?_
              refine r_iadd C dX6_makeNarrower_193 ?_
              refine r_iload C rfl dX6_makeNarrower_194 ?_
              refine r_iast C (((4) * (i)) + (2)) (by have t := (tA (tM (show (4 : Int32).toInt = 4 from rfl) hv (by omega)) (show (2 : Int32).toInt = 2 from rfl) (by omega)); omega) (by omega) dX6_makeNarrower_196 rfl (q_lt hs (by decide)) ?_
              refine r_aload_n C rfl rfl dX6_makeNarrower_197 ?_
              refine r_getO C dX6_makeNarrower_198 fl_X6_19 rfl rfl (q_lt hs (by decide)) (sh_12_5 hs) ?_
              refine r_iconstv C 4 rfl dX6_makeNarrower_201 ?_
              refine r_iload_n C rfl dX6_makeNarrower_202 ?_
              refine r_imul C dX6_makeNarrower_203 ?_
              refine r_iconstv C 3 rfl dX6_makeNarrower_204 ?_
              refine r_iadd C dX6_makeNarrower_205 ?_
              refine r_iload C rfl dX6_makeNarrower_206 ?_
              refine r_iast C (((4) * (i)) + (3)) (by have t := (tA (tM (show (4 : Int32).toInt = 4 from rfl) hv (by omega)) (show (3 : Int32).toInt = 3 from rfl) (by omega)); omega) (by omega) dX6_makeNarrower_208 rfl (q_lt hs (by decide)) ?_
              exact r_vret C dX6_makeNarrower_209 rfl (Nat.le_refl _) rfl))

set_option maxHeartbeats 4000000 in
set_option maxRecDepth 100000 in
theorem sp_mkB (G : oG) {h : oH} (hs : oSh h) (v q : Int32) {i : Nat} (hv : v.toInt = (i : Int)) (hi : i < 24) (hs0 : 0 < (hI h 22 i).toInt) (hk : ¬ 0 < (hI h 23 i).toInt) : oSp G mX6_makeNarrower [.ref 12, .int v, .int q] h none (mk4 h i (aN (hI h 16 (4 * i)) (cN (hI h 16 (4 * i)) (hI h 16 (4 * i + 1)) (hI h 16 (4 * i + 2)) q (hI h 22 i) (hI h 23 i)) (hI h 16 (4 * i + 3)) q (hI h 22 i) (hI h 23 i)) (hI h 16 (4 * i + 1)) (cN (hI h 16 (4 * i)) (hI h 16 (4 * i + 1)) (hI h 16 (4 * i + 2)) q (hI h 22 i) (hI h 23 i)) (hI h 16 (4 * i + 3))) := by
  refine oSp.intro [some (.ref 12), some (.int v), some (.int q), none, none, none, none, none, none] rfl (Nat.le_of_ble_eq_true rfl) (plainFor_of_name (by decide +kernel)) (Nat.le_refl _) ?_
  intro p l e R s m args below meth c C
  refine r_aload_n C rfl rfl dX6_makeNarrower_0 ?_
  refine r_getO C dX6_makeNarrower_1 fl_X6_38 rfl rfl (q_lt hs (by decide)) (sh_12_11 hs) ?_
  refine r_iload_n C rfl dX6_makeNarrower_4 ?_
  refine r_iald C (i) (by have t := hv; omega) (by omega) dX6_makeNarrower_5 rfl (q_lt hs (by decide)) ?_
  refine r_istore_n C rfl (Nat.le_of_ble_eq_true rfl) dX6_makeNarrower_6 ?_
  refine r_aload_n C rfl rfl dX6_makeNarrower_7 ?_
  refine r_getO C dX6_makeNarrower_8 fl_X6_41 rfl rfl (q_lt hs (by decide)) (sh_12_12 hs) ?_
  refine r_iload_n C rfl dX6_makeNarrower_11 ?_
  refine r_iald C (i) (by have t := hv; omega) (by omega) dX6_makeNarrower_12 rfl (q_lt hs (by decide)) ?_
  refine r_istore C rfl (Nat.le_of_ble_eq_true rfl) dX6_makeNarrower_13 ?_
  refine r_aload_n C rfl rfl dX6_makeNarrower_15 ?_
  refine r_getO C dX6_makeNarrower_16 fl_X6_19 rfl rfl (q_lt hs (by decide)) (sh_12_5 hs) ?_
  refine r_iconstv C 4 rfl dX6_makeNarrower_19 ?_
  refine r_iload_n C rfl dX6_makeNarrower_20 ?_
  refine r_imul C dX6_makeNarrower_21 ?_
  refine r_iald C ((4) * (i)) (by have t := (tM (show (4 : Int32).toInt = 4 from rfl) hv (by omega)); omega) (by omega) dX6_makeNarrower_22 rfl (q_lt hs (by decide)) ?_
  refine r_istore C rfl (Nat.le_of_ble_eq_true rfl) dX6_makeNarrower_23 ?_
  refine r_aload_n C rfl rfl dX6_makeNarrower_25 ?_
  refine r_getO C dX6_makeNarrower_26 fl_X6_19 rfl rfl (q_lt hs (by decide)) (sh_12_5 hs) ?_
  refine r_iconstv C 4 rfl dX6_makeNarrower_29 ?_
  refine r_iload_n C rfl dX6_makeNarrower_30 ?_
  refine r_imul C dX6_makeNarrower_31 ?_
  refine r_iconstv C 1 rfl dX6_makeNarrower_32 ?_
  refine r_iadd C dX6_makeNarrower_33 ?_
  refine r_iald C (((4) * (i)) + (1)) (by have t := (tA (tM (show (4 : Int32).toInt = 4 from rfl) hv (by omega)) (show (1 : Int32).toInt = 1 from rfl) (by omega)); omega) (by omega) dX6_makeNarrower_34 rfl (q_lt hs (by decide)) ?_
  refine r_istore C rfl (Nat.le_of_ble_eq_true rfl) dX6_makeNarrower_35 ?_
  refine r_aload_n C rfl rfl dX6_makeNarrower_37 ?_
  refine r_getO C dX6_makeNarrower_38 fl_X6_19 rfl rfl (q_lt hs (by decide)) (sh_12_5 hs) ?_
  refine r_iconstv C 4 rfl dX6_makeNarrower_41 ?_
  refine r_iload_n C rfl dX6_makeNarrower_42 ?_
  refine r_imul C dX6_makeNarrower_43 ?_
  refine r_iconstv C 2 rfl dX6_makeNarrower_44 ?_
  refine r_iadd C dX6_makeNarrower_45 ?_
  refine r_iald C (((4) * (i)) + (2)) (by have t := (tA (tM (show (4 : Int32).toInt = 4 from rfl) hv (by omega)) (show (2 : Int32).toInt = 2 from rfl) (by omega)); omega) (by omega) dX6_makeNarrower_46 rfl (q_lt hs (by decide)) ?_
  refine r_istore C rfl (Nat.le_of_ble_eq_true rfl) dX6_makeNarrower_47 ?_
  refine r_aload_n C rfl rfl dX6_makeNarrower_49 ?_
  refine r_getO C dX6_makeNarrower_50 fl_X6_19 rfl rfl (q_lt hs (by decide)) (sh_12_5 hs) ?_
  refine r_iconstv C 4 rfl dX6_makeNarrower_53 ?_
  refine r_iload_n C rfl dX6_makeNarrower_54 ?_
  refine r_imul C dX6_makeNarrower_55 ?_
  refine r_iconstv C 3 rfl dX6_makeNarrower_56 ?_
  refine r_iadd C dX6_makeNarrower_57 ?_
  refine r_iald C (((4) * (i)) + (3)) (by have t := (tA (tM (show (4 : Int32).toInt = 4 from rfl) hv (by omega)) (show (3 : Int32).toInt = 3 from rfl) (by omega)); omega) (by omega) dX6_makeNarrower_58 rfl (q_lt hs (by decide)) ?_
  refine r_istore C rfl (Nat.le_of_ble_eq_true rfl) dX6_makeNarrower_59 ?_
  refine r_iload C rfl dX6_makeNarrower_61 ?_
  refine r_iload C rfl dX6_makeNarrower_63 ?_
  refine r_iload_n C rfl dX6_makeNarrower_65 ?_
  refine r_iload C rfl dX6_makeNarrower_66 ?_
  refine r_iload C rfl dX6_makeNarrower_68 ?_
  refine r_imul C dX6_makeNarrower_70 ?_
  refine r_isub C dX6_makeNarrower_71 ?_
  refine r_iload_n C rfl dX6_makeNarrower_72 ?_
  refine r_callS C (sp_cutM G _ _ (fun w => by rw [w] at hs0; exact absurd hs0 (by decide))) ks_X6_cut kn_X6_cut rfl dX6_makeNarrower_73 cl_X6_173 ⟨Nat.le_of_ble_eq_true rfl, Nat.le_of_ble_eq_true rfl⟩ (Nat.le_refl _) rfl (Nat.le_of_ble_eq_true rfl) ?_
  refine r_callS C (sp_least G _ _) ks_X6_least kn_X6_least rfl dX6_makeNarrower_76 cl_X6_176 ⟨Nat.le_of_ble_eq_true rfl, Nat.le_of_ble_eq_true rfl⟩ (Nat.le_refl _) rfl (Nat.le_of_ble_eq_true rfl) ?_
  refine r_callS C (sp_most G _ _) ks_X6_most kn_X6_most rfl dX6_makeNarrower_79 cl_X6_178 ⟨Nat.le_of_ble_eq_true rfl, Nat.le_of_ble_eq_true rfl⟩ (Nat.le_refl _) rfl (Nat.le_of_ble_eq_true rfl) ?_
  refine r_istore C rfl (Nat.le_of_ble_eq_true rfl) dX6_makeNarrower_82 ?_
  refine r_iload C rfl dX6_makeNarrower_84 ?_
  refine t_if_le C 112 (by decide) rfl dX6_makeNarrower_86 (fun c86 => ?_) (fun c86 => ?_)
  · first
    | (exfalso; omega)
    |  (refine r_iload C rfl dX6_makeNarrower_112 ?_
        refine r_iload C rfl dX6_makeNarrower_114 ?_
        refine r_iload_n C rfl dX6_makeNarrower_116 ?_
        refine r_iload C rfl dX6_makeNarrower_117 ?_
        refine r_iload C rfl dX6_makeNarrower_119 ?_
        refine r_imul C dX6_makeNarrower_121 ?_
        refine r_isub C dX6_makeNarrower_122 ?_
        refine r_iload_n C rfl dX6_makeNarrower_123 ?_
        refine r_callS C (sp_rupM G _ _ (fun w => by rw [w] at hs0; exact absurd hs0 (by decide))) ks_X6_roundedUp kn_X6_roundedUp rfl dX6_makeNarrower_124 cl_X6_181 ⟨Nat.le_of_ble_eq_true rfl, Nat.le_of_ble_eq_true rfl⟩ (Nat.le_refl _) rfl (Nat.le_of_ble_eq_true rfl) ?_
        refine r_callS C (sp_most G _ _) ks_X6_most kn_X6_most rfl dX6_makeNarrower_127 cl_X6_178 ⟨Nat.le_of_ble_eq_true rfl, Nat.le_of_ble_eq_true rfl⟩ (Nat.le_refl _) rfl (Nat.le_of_ble_eq_true rfl) ?_
        refine r_callS C (sp_least G _ _) ks_X6_least kn_X6_least rfl dX6_makeNarrower_130 cl_X6_176 ⟨Nat.le_of_ble_eq_true rfl, Nat.le_of_ble_eq_true rfl⟩ (Nat.le_refl _) rfl (Nat.le_of_ble_eq_true rfl) ?_
        refine r_istore C rfl (Nat.le_of_ble_eq_true rfl) dX6_makeNarrower_133 ?_
        refine r_iload C rfl dX6_makeNarrower_135 ?_
        refine t_if_le C 163 (by decide) rfl dX6_makeNarrower_137 (fun c137 => ?_) (fun c137 => ?_)
        · first
          | (exfalso; omega)
          |  (refine r_aload_n C rfl rfl dX6_makeNarrower_163 ?_
              refine r_getO C dX6_makeNarrower_164 fl_X6_19 rfl rfl (q_lt hs (by decide)) (sh_12_5 hs) ?_
              refine r_iconstv C 4 rfl dX6_makeNarrower_167 ?_
              refine r_iload_n C rfl dX6_makeNarrower_168 ?_
              refine r_imul C dX6_makeNarrower_169 ?_
              refine r_iload C rfl dX6_makeNarrower_170 ?_
              refine r_iast C ((4) * (i)) (by have t := (tM (show (4 : Int32).toInt = 4 from rfl) hv (by omega)); omega) (by omega) dX6_makeNarrower_172 rfl (q_lt hs (by decide)) ?_
              refine r_aload_n C rfl rfl dX6_makeNarrower_173 ?_
              refine r_getO C dX6_makeNarrower_174 fl_X6_19 rfl rfl (q_lt hs (by decide)) (sh_12_5 hs) ?_
              refine r_iconstv C 4 rfl dX6_makeNarrower_177 ?_
              refine r_iload_n C rfl dX6_makeNarrower_178 ?_
              refine r_imul C dX6_makeNarrower_179 ?_
              refine r_iconstv C 1 rfl dX6_makeNarrower_180 ?_
              refine r_iadd C dX6_makeNarrower_181 ?_
              refine r_iload C rfl dX6_makeNarrower_182 ?_
              refine r_iast C (((4) * (i)) + (1)) (by have t := (tA (tM (show (4 : Int32).toInt = 4 from rfl) hv (by omega)) (show (1 : Int32).toInt = 1 from rfl) (by omega)); omega) (by omega) dX6_makeNarrower_184 rfl (q_lt hs (by decide)) ?_
              refine r_aload_n C rfl rfl dX6_makeNarrower_185 ?_
              refine r_getO C dX6_makeNarrower_186 fl_X6_19 rfl rfl (q_lt hs (by decide)) (sh_12_5 hs) ?_
              refine r_iconstv C 4 rfl dX6_makeNarrower_189 ?_
              refine r_iload_n C rfl dX6_makeNarrower_190 ?_
              refine r_imul C dX6_makeNarrower_191 ?_
              refine r_iconstv C 2 rfl dX6_makeNarrower_192 ?_
              refine r_iadd C dX6_makeNarrower_193 ?_
              refine r_iload C rfl dX6_makeNarrower_194 ?_
              refine r_iast C (((4) * (i)) + (2)) (by have t := (tA (tM (show (4 : Int32).toInt = 4 from rfl) hv (by omega)) (show (2 : Int32).toInt = 2 from rfl) (by omega)); omega) (by omega) dX6_makeNarrower_196 rfl (q_lt hs (by decide)) ?_
              refine r_aload_n C rfl rfl dX6_makeNarrower_197 ?_
              refine r_getO C dX6_makeNarrower_198 fl_X6_19 rfl rfl (q_lt hs (by decide)) (sh_12_5 hs) ?_
              refine r_iconstv C 4 rfl dX6_makeNarrower_201 ?_
              refine r_iload_n C rfl dX6_makeNarrower_202 ?_
              refine r_imul C dX6_makeNarrower_203 ?_
              refine r_iconstv C 3 rfl dX6_makeNarrower_204 ?_
              refine r_iadd C dX6_makeNarrower_205 ?_
              refine r_iload C rfl dX6_makeNarrower_206 ?_
              refine r_iast C (((4) * (i)) + (3)) (by have t := (tA (tM (show (4 : Int32).toInt = 4 from rfl) hv (by omega)) (show (3 : Int32).toInt = 3 from rfl) (by omega)); omega) (by omega) dX6_makeNarrower_208 rfl (q_lt hs (by decide)) ?_
              exact r_vret C dX6_makeNarrower_209 rfl (Nat.le_refl _) rfl)
        · first
          | (exfalso; omega)
          |  (refine r_iload C rfl dX6_makeNarrower_140 ?_
              refine r_iload C rfl dX6_makeNarrower_142 ?_
              refine r_iload_n C rfl dX6_makeNarrower_144 ?_
              refine r_iload_n C rfl dX6_makeNarrower_145 ?_
              refine r_iload C rfl dX6_makeNarrower_146 ?_
              refine r_imul C dX6_makeNarrower_148 ?_
              refine r_isub C dX6_makeNarrower_149 ?_
              refine r_iload C rfl dX6_makeNarrower_150 ?_
              refine r_callS C (sp_rupM G _ _ (fun w => by have z := c137; rw [w] at z; exact absurd z (by decide))) ks_X6_roundedUp kn_X6_roundedUp rfl dX6_makeNarrower_152 cl_X6_181 ⟨Nat.le_of_ble_eq_true rfl, Nat.le_of_ble_eq_true rfl⟩ (Nat.le_refl _) rfl (Nat.le_of_ble_eq_true rfl) ?_
              refine r_callS C (sp_most G _ _) ks_X6_most kn_X6_most rfl dX6_makeNarrower_155 cl_X6_178 ⟨Nat.le_of_ble_eq_true rfl, Nat.le_of_ble_eq_true rfl⟩ (Nat.le_refl _) rfl (Nat.le_of_ble_eq_true rfl) ?_
              refine r_callS C (sp_least G _ _) ks_X6_least kn_X6_least rfl dX6_makeNarrower_158 cl_X6_176 ⟨Nat.le_of_ble_eq_true rfl, Nat.le_of_ble_eq_true rfl⟩ (Nat.le_refl _) rfl (Nat.le_of_ble_eq_true rfl) ?_
              refine r_istore C rfl (Nat.le_of_ble_eq_true rfl) dX6_makeNarrower_161 ?_
              refine r_aload_n C rfl rfl dX6_makeNarrower_163 ?_
              refine r_getO C dX6_makeNarrower_164 fl_X6_19 rfl rfl (q_lt hs (by decide)) (sh_12_5 hs) ?_
              refine r_iconstv C 4 rfl dX6_makeNarrower_167 ?_
              refine r_iload_n C rfl dX6_makeNarrower_168 ?_
              refine r_imul C dX6_makeNarrower_169 ?_
              refine r_iload C rfl dX6_makeNarrower_170 ?_
              refine r_iast C ((4) * (i)) (by have t := (tM (show (4 : Int32).toInt = 4 from rfl) hv (by omega)); omega) (by omega) dX6_makeNarrower_172 rfl (q_lt hs (by decide)) ?_
              refine r_aload_n C rfl rfl dX6_makeNarrower_173 ?_
              refine r_getO C dX6_makeNarrower_174 fl_X6_19 rfl rfl (q_lt hs (by decide)) (sh_12_5 hs) ?_
              refine r_iconstv C 4 rfl dX6_makeNarrower_177 ?_
              refine r_iload_n C rfl dX6_makeNarrower_178 ?_
              refine r_imul C dX6_makeNarrower_179 ?_
              refine r_iconstv C 1 rfl dX6_makeNarrower_180 ?_
              refine r_iadd C dX6_makeNarrower_181 ?_
              refine r_iload C rfl dX6_makeNarrower_182 ?_
              refine r_iast C (((4) * (i)) + (1)) (by have t := (tA (tM (show (4 : Int32).toInt = 4 from rfl) hv (by omega)) (show (1 : Int32).toInt = 1 from rfl) (by omega)); omega) (by omega) dX6_makeNarrower_184 rfl (q_lt hs (by decide)) ?_
              refine r_aload_n C rfl rfl dX6_makeNarrower_185 ?_
              refine r_getO C dX6_makeNarrower_186 fl_X6_19 rfl rfl (q_lt hs (by decide)) (sh_12_5 hs) ?_
              refine r_iconstv C 4 rfl dX6_makeNarrower_189 ?_
              refine r_iload_n C rfl dX6_makeNarrower_190 ?_
              refine r_imul C dX6_makeNarrower_191 ?_
              refine r_iconstv C 2 rfl dX6_makeNarrower_192 ?_
              refine r_iadd C dX6_makeNarrower_193 ?_
              refine r_iload C rfl dX6_makeNarrower_194 ?_
              refine r_iast C (((4) * (i)) + (2)) (by have t := (tA (tM (show (4 : Int32).toInt = 4 from rfl) hv (by omega)) (show (2 : Int32).toInt = 2 from rfl) (by omega)); omega) (by omega) dX6_makeNarrower_196 rfl (q_lt hs (by decide)) ?_
              refine r_aload_n C rfl rfl dX6_makeNarrower_197 ?_
              refine r_getO C dX6_makeNarrower_198 fl_X6_19 rfl rfl (q_lt hs (by decide)) (sh_12_5 hs) ?_
              refine r_iconstv C 4 rfl dX6_makeNarrower_201 ?_
              refine r_iload_n C rfl dX6_makeNarrower_202 ?_
              refine r_imul C dX6_makeNarrower_203 ?_
              refine r_iconstv C 3 rfl dX6_makeNarrower_204 ?_
              refine r_iadd C dX6_makeNarrower_205 ?_
              refine r_iload C rfl dX6_makeNarrower_206 ?_
              refine r_iast C (((4) * (i)) + (3)) (by have t := (tA (tM (show (4 : Int32).toInt = 4 from rfl) hv (by omega)) (show (3 : Int32).toInt = 3 from rfl) (by omega)); omega) (by omega) dX6_makeNarrower_208 rfl (q_lt hs (by decide)) ?_
              exact r_vret C dX6_makeNarrower_209 rfl (Nat.le_refl _) rfl))
  · first
    | (exfalso; omega)
    |  (refine r_iload C rfl dX6_makeNarrower_89 ?_
        refine r_iload C rfl dX6_makeNarrower_91 ?_
        refine r_iload_n C rfl dX6_makeNarrower_93 ?_
        refine r_iload_n C rfl dX6_makeNarrower_94 ?_
        refine r_iload C rfl dX6_makeNarrower_95 ?_
        refine r_imul C dX6_makeNarrower_97 ?_
        refine r_isub C dX6_makeNarrower_98 ?_
        refine r_iload C rfl dX6_makeNarrower_99 ?_
        refine r_callS C (sp_cutM G _ _ (fun w => by have z := c86; rw [w] at z; exact absurd z (by decide))) ks_X6_cut kn_X6_cut rfl dX6_makeNarrower_101 cl_X6_173 ⟨Nat.le_of_ble_eq_true rfl, Nat.le_of_ble_eq_true rfl⟩ (Nat.le_refl _) rfl (Nat.le_of_ble_eq_true rfl) ?_
        refine r_callS C (sp_least G _ _) ks_X6_least kn_X6_least rfl dX6_makeNarrower_104 cl_X6_176 ⟨Nat.le_of_ble_eq_true rfl, Nat.le_of_ble_eq_true rfl⟩ (Nat.le_refl _) rfl (Nat.le_of_ble_eq_true rfl) ?_
        refine r_callS C (sp_most G _ _) ks_X6_most kn_X6_most rfl dX6_makeNarrower_107 cl_X6_178 ⟨Nat.le_of_ble_eq_true rfl, Nat.le_of_ble_eq_true rfl⟩ (Nat.le_refl _) rfl (Nat.le_of_ble_eq_true rfl) ?_
        refine r_istore C rfl (Nat.le_of_ble_eq_true rfl) dX6_makeNarrower_110 ?_
        refine r_iload C rfl dX6_makeNarrower_112 ?_
        refine r_iload C rfl dX6_makeNarrower_114 ?_
        refine r_iload_n C rfl dX6_makeNarrower_116 ?_
        refine r_iload C rfl dX6_makeNarrower_117 ?_
        refine r_iload C rfl dX6_makeNarrower_119 ?_
        refine r_imul C dX6_makeNarrower_121 ?_
        refine r_isub C dX6_makeNarrower_122 ?_
        refine r_iload_n C rfl dX6_makeNarrower_123 ?_
        refine r_callS C (sp_rupM G _ _ (fun w => by rw [w] at hs0; exact absurd hs0 (by decide))) ks_X6_roundedUp kn_X6_roundedUp rfl dX6_makeNarrower_124 cl_X6_181 ⟨Nat.le_of_ble_eq_true rfl, Nat.le_of_ble_eq_true rfl⟩ (Nat.le_refl _) rfl (Nat.le_of_ble_eq_true rfl) ?_
        refine r_callS C (sp_most G _ _) ks_X6_most kn_X6_most rfl dX6_makeNarrower_127 cl_X6_178 ⟨Nat.le_of_ble_eq_true rfl, Nat.le_of_ble_eq_true rfl⟩ (Nat.le_refl _) rfl (Nat.le_of_ble_eq_true rfl) ?_
        refine r_callS C (sp_least G _ _) ks_X6_least kn_X6_least rfl dX6_makeNarrower_130 cl_X6_176 ⟨Nat.le_of_ble_eq_true rfl, Nat.le_of_ble_eq_true rfl⟩ (Nat.le_refl _) rfl (Nat.le_of_ble_eq_true rfl) ?_
        refine r_istore C rfl (Nat.le_of_ble_eq_true rfl) dX6_makeNarrower_133 ?_
        refine r_iload C rfl dX6_makeNarrower_135 ?_
        refine t_if_le C 163 (by decide) rfl dX6_makeNarrower_137 (fun c137 => ?_) (fun c137 => ?_)
        · first
          | (exfalso; omega)
          |  (refine r_aload_n C rfl rfl dX6_makeNarrower_163 ?_
              refine r_getO C dX6_makeNarrower_164 fl_X6_19 rfl rfl (q_lt hs (by decide)) (sh_12_5 hs) ?_
              refine r_iconstv C 4 rfl dX6_makeNarrower_167 ?_
              refine r_iload_n C rfl dX6_makeNarrower_168 ?_
              refine r_imul C dX6_makeNarrower_169 ?_
              refine r_iload C rfl dX6_makeNarrower_170 ?_
              refine r_iast C ((4) * (i)) (by have t := (tM (show (4 : Int32).toInt = 4 from rfl) hv (by omega)); omega) (by omega) dX6_makeNarrower_172 rfl (q_lt hs (by decide)) ?_
              refine r_aload_n C rfl rfl dX6_makeNarrower_173 ?_
              refine r_getO C dX6_makeNarrower_174 fl_X6_19 rfl rfl (q_lt hs (by decide)) (sh_12_5 hs) ?_
              refine r_iconstv C 4 rfl dX6_makeNarrower_177 ?_
              refine r_iload_n C rfl dX6_makeNarrower_178 ?_
              refine r_imul C dX6_makeNarrower_179 ?_
              refine r_iconstv C 1 rfl dX6_makeNarrower_180 ?_
              refine r_iadd C dX6_makeNarrower_181 ?_
              refine r_iload C rfl dX6_makeNarrower_182 ?_
              refine r_iast C (((4) * (i)) + (1)) (by have t := (tA (tM (show (4 : Int32).toInt = 4 from rfl) hv (by omega)) (show (1 : Int32).toInt = 1 from rfl) (by omega)); omega) (by omega) dX6_makeNarrower_184 rfl (q_lt hs (by decide)) ?_
              refine r_aload_n C rfl rfl dX6_makeNarrower_185 ?_
              refine r_getO C dX6_makeNarrower_186 fl_X6_19 rfl rfl (q_lt hs (by decide)) (sh_12_5 hs) ?_
              refine r_iconstv C 4 rfl dX6_makeNarrower_189 ?_
              refine r_iload_n C rfl dX6_makeNarrower_190 ?_
              refine r_imul C dX6_makeNarrower_191 ?_
              refine r_iconstv C 2 rfl dX6_makeNarrower_192 ?_
              refine r_iadd C dX6_makeNarrower_193 ?_
              refine r_iload C rfl dX6_makeNarrower_194 ?_
              refine r_iast C (((4) * (i)) + (2)) (by have t := (tA (tM (show (4 : Int32).toInt = 4 from rfl) hv (by omega)) (show (2 : Int32).toInt = 2 from rfl) (by omega)); omega) (by omega) dX6_makeNarrower_196 rfl (q_lt hs (by decide)) ?_
              refine r_aload_n C rfl rfl dX6_makeNarrower_197 ?_
              refine r_getO C dX6_makeNarrower_198 fl_X6_19 rfl rfl (q_lt hs (by decide)) (sh_12_5 hs) ?_
              refine r_iconstv C 4 rfl dX6_makeNarrower_201 ?_
              refine r_iload_n C rfl dX6_makeNarrower_202 ?_
              refine r_imul C dX6_makeNarrower_203 ?_
              refine r_iconstv C 3 rfl dX6_makeNarrower_204 ?_
              refine r_iadd C dX6_makeNarrower_205 ?_
              refine r_iload C rfl dX6_makeNarrower_206 ?_
              refine r_iast C (((4) * (i)) + (3)) (by have t := (tA (tM (show (4 : Int32).toInt = 4 from rfl) hv (by omega)) (show (3 : Int32).toInt = 3 from rfl) (by omega)); omega) (by omega) dX6_makeNarrower_208 rfl (q_lt hs (by decide)) ?_
              exact r_vret C dX6_makeNarrower_209 rfl (Nat.le_refl _) rfl)
        · first
          | (exfalso; omega)
          |  (refine r_iload C rfl dX6_makeNarrower_140 ?_
              refine r_iload C rfl dX6_makeNarrower_142 ?_
              refine r_iload_n C rfl dX6_makeNarrower_144 ?_
              refine r_iload_n C rfl dX6_makeNarrower_145 ?_
              refine r_iload C rfl dX6_makeNarrower_146 ?_
              refine r_imul C dX6_makeNarrower_148 ?_
              refine r_isub C dX6_makeNarrower_149 ?_
              refine r_iload C rfl dX6_makeNarrower_150 ?_
              refine r_callS C (sp_rupM G _ _ (fun w => by have z := c137; rw [w] at z; exact absurd z (by decide))) ks_X6_roundedUp kn_X6_roundedUp rfl dX6_makeNarrower_152 cl_X6_181 ⟨Nat.le_of_ble_eq_true rfl, Nat.le_of_ble_eq_true rfl⟩ (Nat.le_refl _) rfl (Nat.le_of_ble_eq_true rfl) ?_
              refine r_callS C (sp_most G _ _) ks_X6_most kn_X6_most rfl dX6_makeNarrower_155 cl_X6_178 ⟨Nat.le_of_ble_eq_true rfl, Nat.le_of_ble_eq_true rfl⟩ (Nat.le_refl _) rfl (Nat.le_of_ble_eq_true rfl) ?_
              refine r_callS C (sp_least G _ _) ks_X6_least kn_X6_least rfl dX6_makeNarrower_158 cl_X6_176 ⟨Nat.le_of_ble_eq_true rfl, Nat.le_of_ble_eq_true rfl⟩ (Nat.le_refl _) rfl (Nat.le_of_ble_eq_true rfl) ?_
              refine r_istore C rfl (Nat.le_of_ble_eq_true rfl) dX6_makeNarrower_161 ?_
              refine r_aload_n C rfl rfl dX6_makeNarrower_163 ?_
              refine r_getO C dX6_makeNarrower_164 fl_X6_19 rfl rfl (q_lt hs (by decide)) (sh_12_5 hs) ?_
              refine r_iconstv C 4 rfl dX6_makeNarrower_167 ?_
              refine r_iload_n C rfl dX6_makeNarrower_168 ?_
              refine r_imul C dX6_makeNarrower_169 ?_
              refine r_iload C rfl dX6_makeNarrower_170 ?_
              refine r_iast C ((4) * (i)) (by have t := (tM (show (4 : Int32).toInt = 4 from rfl) hv (by omega)); omega) (by omega) dX6_makeNarrower_172 rfl (q_lt hs (by decide)) ?_
              refine r_aload_n C rfl rfl dX6_makeNarrower_173 ?_
              refine r_getO C dX6_makeNarrower_174 fl_X6_19 rfl rfl (q_lt hs (by decide)) (sh_12_5 hs) ?_
              refine r_iconstv C 4 rfl dX6_makeNarrower_177 ?_
              refine r_iload_n C rfl dX6_makeNarrower_178 ?_
              refine r_imul C dX6_makeNarrower_179 ?_
              refine r_iconstv C 1 rfl dX6_makeNarrower_180 ?_
              refine r_iadd C dX6_makeNarrower_181 ?_
              refine r_iload C rfl dX6_makeNarrower_182 ?_
              refine r_iast C (((4) * (i)) + (1)) (by have t := (tA (tM (show (4 : Int32).toInt = 4 from rfl) hv (by omega)) (show (1 : Int32).toInt = 1 from rfl) (by omega)); omega) (by omega) dX6_makeNarrower_184 rfl (q_lt hs (by decide)) ?_
              refine r_aload_n C rfl rfl dX6_makeNarrower_185 ?_
              refine r_getO C dX6_makeNarrower_186 fl_X6_19 rfl rfl (q_lt hs (by decide)) (sh_12_5 hs) ?_
              refine r_iconstv C 4 rfl dX6_makeNarrower_189 ?_
              refine r_iload_n C rfl dX6_makeNarrower_190 ?_
              refine r_imul C dX6_makeNarrower_191 ?_
              refine r_iconstv C 2 rfl dX6_makeNarrower_192 ?_
              refine r_iadd C dX6_makeNarrower_193 ?_
              refine r_iload C rfl dX6_makeNarrower_194 ?_
              refine r_iast C (((4) * (i)) + (2)) (by have t := (tA (tM (show (4 : Int32).toInt = 4 from rfl) hv (by omega)) (show (2 : Int32).toInt = 2 from rfl) (by omega)); omega) (by omega) dX6_makeNarrower_196 rfl (q_lt hs (by decide)) ?_
              refine r_aload_n C rfl rfl dX6_makeNarrower_197 ?_
              refine r_getO C dX6_makeNarrower_198 fl_X6_19 rfl rfl (q_lt hs (by decide)) (sh_12_5 hs) ?_
              refine r_iconstv C 4 rfl dX6_makeNarrower_201 ?_
              refine r_iload_n C rfl dX6_makeNarrower_202 ?_
              refine r_imul C dX6_makeNarrower_203 ?_
              refine r_iconstv C 3 rfl dX6_makeNarrower_204 ?_
              refine r_iadd C dX6_makeNarrower_205 ?_
              refine r_iload C rfl dX6_makeNarrower_206 ?_
              refine r_iast C (((4) * (i)) + (3)) (by have t := (tA (tM (show (4 : Int32).toInt = 4 from rfl) hv (by omega)) (show (3 : Int32).toInt = 3 from rfl) (by omega)); omega) (by omega) dX6_makeNarrower_208 rfl (q_lt hs (by decide)) ?_
              exact r_vret C dX6_makeNarrower_209 rfl (Nat.le_refl _) rfl))

def k1 (h : oH) (i : Nat) : oH := sI h 19 i (hI h 19 i + 1)
def k2 (h : oH) (i : Nat) : oH := sI h 17 i (hI h 15 i)
def k3 (h : oH) (i : Nat) : oH := sI h 18 i (hI h 15 i)
def k5 (h : oH) (i : Nat) : oH := sI (sI (k3 (k2 (k1 h i) i) i) 22 i 0) 23 i 0
set_option maxHeartbeats 4000000 in
set_option maxRecDepth 100000 in
theorem ft_n (G : oG) {p : Program} {l : Launch} {e : Env} {R : Room} {s : State} {m : MethodId} {args : Array Value} {below : List Frame} {meth : Method} {c : Code} {n0 nF : Nat} {h : oH} (hs : oSh h) {v q x sd kd : Int32} {x6 x7 : Option Value} {i : Nat} (hv : v.toInt = (i : Int)) (hi : i < 24) (C : oC G mX6_fill n0 nF p l R s m args meth c) (hF : h.1 ≤ nF) (d : ¬ ((hI h 20 i).toInt = 0 ∧ q.toInt < (hI h 15 i).toInt ∧ 0 < sd.toInt)) : oS G mX6_fill p l e R s m args below meth c (oZ G below args s n0 nF (some (.int x)) (k5 h i)) n0 266 [some (.ref 12), some (.int v), some (.int q), some (.int x), some (.int sd), some (.int kd), x6, x7] [] h := by
  refine r_aload_n C rfl rfl dX6_fill_266 ?_
  refine r_getO C dX6_fill_267 fl_X6_31 rfl rfl (q_lt hs (by decide)) (sh_12_9 hs) ?_
  refine r_iload_n C rfl dX6_fill_270 ?_
  refine r_iald C (i) (by have t := hv; omega) (by omega) dX6_fill_271 rfl (q_lt hs (by decide)) ?_
  refine t_if_ne C 296 (by decide) rfl dX6_fill_272 (fun c272 => ?_) (fun c272 => ?_)
  · first
    | (exfalso; omega)
    |  (refine r_aload_n C rfl rfl dX6_fill_296 ?_
        refine r_getO C dX6_fill_297 fl_X6_28 rfl rfl (q_lt hs (by decide)) (sh_12_8 hs) ?_
        refine r_iload_n C rfl dX6_fill_300 ?_
        refine r_dup2 C rfl rfl dX6_fill_301 ?_
        refine r_iald C (i) (by have t := hv; omega) (by omega) dX6_fill_302 rfl (q_lt hs (by decide)) ?_
        refine r_iconstv C 1 rfl dX6_fill_303 ?_
        refine r_iadd C dX6_fill_304 ?_
        refine r_iast C (i) (by have t := hv; omega) (by omega) dX6_fill_305 rfl (q_lt hs (by decide)) ?_
        refine r_aload_n C rfl rfl dX6_fill_306 ?_
        refine r_getO C dX6_fill_307 fl_X6_22 rfl rfl (q_lt hs (by decide)) (sh_12_6 hs) ?_
        refine r_iload_n C rfl dX6_fill_310 ?_
        refine r_aload_n C rfl rfl dX6_fill_311 ?_
        refine r_getO C dX6_fill_312 fl_X6_16 rfl rfl (q_lt hs (by decide)) (sh_12_4 hs) ?_
        refine r_iload_n C rfl dX6_fill_315 ?_
        refine r_iald C (i) (by have t := hv; omega) (by omega) dX6_fill_316 rfl (q_lt hs (by decide)) ?_
        refine r_iast C (i) (by have t := hv; omega) (by omega) dX6_fill_317 rfl (q_lt hs (by decide)) ?_
        refine r_aload_n C rfl rfl dX6_fill_318 ?_
        refine r_getO C dX6_fill_319 fl_X6_25 rfl rfl (q_lt hs (by decide)) (sh_12_7 hs) ?_
        refine r_iload_n C rfl dX6_fill_322 ?_
        refine r_aload_n C rfl rfl dX6_fill_323 ?_
        refine r_getO C dX6_fill_324 fl_X6_16 rfl rfl (q_lt hs (by decide)) (sh_12_4 hs) ?_
        refine r_iload_n C rfl dX6_fill_327 ?_
        refine r_iald C (i) (by have t := hv; omega) (by omega) dX6_fill_328 rfl (q_lt hs (by decide)) ?_
        refine r_iast C (i) (by have t := hv; omega) (by omega) dX6_fill_329 rfl (q_lt hs (by decide)) ?_
        refine r_aload_n C rfl rfl dX6_fill_330 ?_
        refine r_getO C dX6_fill_331 fl_X6_38 rfl rfl (q_lt hs (by decide)) (sh_12_11 hs) ?_
        refine r_iload_n C rfl dX6_fill_334 ?_
        refine r_iconstv C 0 rfl dX6_fill_335 ?_
        refine r_iast C (i) (by have t := hv; omega) (by omega) dX6_fill_336 rfl (q_lt hs (by decide)) ?_
        refine r_aload_n C rfl rfl dX6_fill_337 ?_
        refine r_getO C dX6_fill_338 fl_X6_41 rfl rfl (q_lt hs (by decide)) (sh_12_12 hs) ?_
        refine r_iload_n C rfl dX6_fill_341 ?_
        refine r_iconstv C 0 rfl dX6_fill_342 ?_
        refine r_iast C (i) (by have t := hv; omega) (by omega) dX6_fill_343 rfl (q_lt hs (by decide)) ?_
        refine r_iload_n C rfl dX6_fill_344 ?_
        exact r_iret C dX6_fill_345 rfl hF rfl rfl)
  · first
    | (exfalso; omega)
    |  (refine r_iload_n C rfl dX6_fill_275 ?_
        refine r_aload_n C rfl rfl dX6_fill_276 ?_
        refine r_getO C dX6_fill_277 fl_X6_16 rfl rfl (q_lt hs (by decide)) (sh_12_4 hs) ?_
        refine r_iload_n C rfl dX6_fill_280 ?_
        refine r_iald C (i) (by have t := hv; omega) (by omega) dX6_fill_281 rfl (q_lt hs (by decide)) ?_
        refine t_icmp_ge C 296 (by decide) rfl rfl dX6_fill_282 (fun c282 => ?_) (fun c282 => ?_)
        · first
          | (exfalso; omega)
          |  (refine r_aload_n C rfl rfl dX6_fill_296 ?_
              refine r_getO C dX6_fill_297 fl_X6_28 rfl rfl (q_lt hs (by decide)) (sh_12_8 hs) ?_
              refine r_iload_n C rfl dX6_fill_300 ?_
              refine r_dup2 C rfl rfl dX6_fill_301 ?_
              refine r_iald C (i) (by have t := hv; omega) (by omega) dX6_fill_302 rfl (q_lt hs (by decide)) ?_
              refine r_iconstv C 1 rfl dX6_fill_303 ?_
              refine r_iadd C dX6_fill_304 ?_
              refine r_iast C (i) (by have t := hv; omega) (by omega) dX6_fill_305 rfl (q_lt hs (by decide)) ?_
              refine r_aload_n C rfl rfl dX6_fill_306 ?_
              refine r_getO C dX6_fill_307 fl_X6_22 rfl rfl (q_lt hs (by decide)) (sh_12_6 hs) ?_
              refine r_iload_n C rfl dX6_fill_310 ?_
              refine r_aload_n C rfl rfl dX6_fill_311 ?_
              refine r_getO C dX6_fill_312 fl_X6_16 rfl rfl (q_lt hs (by decide)) (sh_12_4 hs) ?_
              refine r_iload_n C rfl dX6_fill_315 ?_
              refine r_iald C (i) (by have t := hv; omega) (by omega) dX6_fill_316 rfl (q_lt hs (by decide)) ?_
              refine r_iast C (i) (by have t := hv; omega) (by omega) dX6_fill_317 rfl (q_lt hs (by decide)) ?_
              refine r_aload_n C rfl rfl dX6_fill_318 ?_
              refine r_getO C dX6_fill_319 fl_X6_25 rfl rfl (q_lt hs (by decide)) (sh_12_7 hs) ?_
              refine r_iload_n C rfl dX6_fill_322 ?_
              refine r_aload_n C rfl rfl dX6_fill_323 ?_
              refine r_getO C dX6_fill_324 fl_X6_16 rfl rfl (q_lt hs (by decide)) (sh_12_4 hs) ?_
              refine r_iload_n C rfl dX6_fill_327 ?_
              refine r_iald C (i) (by have t := hv; omega) (by omega) dX6_fill_328 rfl (q_lt hs (by decide)) ?_
              refine r_iast C (i) (by have t := hv; omega) (by omega) dX6_fill_329 rfl (q_lt hs (by decide)) ?_
              refine r_aload_n C rfl rfl dX6_fill_330 ?_
              refine r_getO C dX6_fill_331 fl_X6_38 rfl rfl (q_lt hs (by decide)) (sh_12_11 hs) ?_
              refine r_iload_n C rfl dX6_fill_334 ?_
              refine r_iconstv C 0 rfl dX6_fill_335 ?_
              refine r_iast C (i) (by have t := hv; omega) (by omega) dX6_fill_336 rfl (q_lt hs (by decide)) ?_
              refine r_aload_n C rfl rfl dX6_fill_337 ?_
              refine r_getO C dX6_fill_338 fl_X6_41 rfl rfl (q_lt hs (by decide)) (sh_12_12 hs) ?_
              refine r_iload_n C rfl dX6_fill_341 ?_
              refine r_iconstv C 0 rfl dX6_fill_342 ?_
              refine r_iast C (i) (by have t := hv; omega) (by omega) dX6_fill_343 rfl (q_lt hs (by decide)) ?_
              refine r_iload_n C rfl dX6_fill_344 ?_
              exact r_iret C dX6_fill_345 rfl hF rfl rfl)
        · first
          | (exfalso; omega)
          |  (refine r_iload C rfl dX6_fill_285 ?_
              refine t_if_le C 296 (by decide) rfl dX6_fill_287 (fun c287 => ?_) (fun c287 => ?_)
              · first
                | (exfalso; omega)
                |  (refine r_aload_n C rfl rfl dX6_fill_296 ?_
                    refine r_getO C dX6_fill_297 fl_X6_28 rfl rfl (q_lt hs (by decide)) (sh_12_8 hs) ?_
                    refine r_iload_n C rfl dX6_fill_300 ?_
                    refine r_dup2 C rfl rfl dX6_fill_301 ?_
                    refine r_iald C (i) (by have t := hv; omega) (by omega) dX6_fill_302 rfl (q_lt hs (by decide)) ?_
                    refine r_iconstv C 1 rfl dX6_fill_303 ?_
                    refine r_iadd C dX6_fill_304 ?_
                    refine r_iast C (i) (by have t := hv; omega) (by omega) dX6_fill_305 rfl (q_lt hs (by decide)) ?_
                    refine r_aload_n C rfl rfl dX6_fill_306 ?_
                    refine r_getO C dX6_fill_307 fl_X6_22 rfl rfl (q_lt hs (by decide)) (sh_12_6 hs) ?_
                    refine r_iload_n C rfl dX6_fill_310 ?_
                    refine r_aload_n C rfl rfl dX6_fill_311 ?_
                    refine r_getO C dX6_fill_312 fl_X6_16 rfl rfl (q_lt hs (by decide)) (sh_12_4 hs) ?_
                    refine r_iload_n C rfl dX6_fill_315 ?_
                    refine r_iald C (i) (by have t := hv; omega) (by omega) dX6_fill_316 rfl (q_lt hs (by decide)) ?_
                    refine r_iast C (i) (by have t := hv; omega) (by omega) dX6_fill_317 rfl (q_lt hs (by decide)) ?_
                    refine r_aload_n C rfl rfl dX6_fill_318 ?_
                    refine r_getO C dX6_fill_319 fl_X6_25 rfl rfl (q_lt hs (by decide)) (sh_12_7 hs) ?_
                    refine r_iload_n C rfl dX6_fill_322 ?_
                    refine r_aload_n C rfl rfl dX6_fill_323 ?_
                    refine r_getO C dX6_fill_324 fl_X6_16 rfl rfl (q_lt hs (by decide)) (sh_12_4 hs) ?_
                    refine r_iload_n C rfl dX6_fill_327 ?_
                    refine r_iald C (i) (by have t := hv; omega) (by omega) dX6_fill_328 rfl (q_lt hs (by decide)) ?_
                    refine r_iast C (i) (by have t := hv; omega) (by omega) dX6_fill_329 rfl (q_lt hs (by decide)) ?_
                    refine r_aload_n C rfl rfl dX6_fill_330 ?_
                    refine r_getO C dX6_fill_331 fl_X6_38 rfl rfl (q_lt hs (by decide)) (sh_12_11 hs) ?_
                    refine r_iload_n C rfl dX6_fill_334 ?_
                    refine r_iconstv C 0 rfl dX6_fill_335 ?_
                    refine r_iast C (i) (by have t := hv; omega) (by omega) dX6_fill_336 rfl (q_lt hs (by decide)) ?_
                    refine r_aload_n C rfl rfl dX6_fill_337 ?_
                    refine r_getO C dX6_fill_338 fl_X6_41 rfl rfl (q_lt hs (by decide)) (sh_12_12 hs) ?_
                    refine r_iload_n C rfl dX6_fill_341 ?_
                    refine r_iconstv C 0 rfl dX6_fill_342 ?_
                    refine r_iast C (i) (by have t := hv; omega) (by omega) dX6_fill_343 rfl (q_lt hs (by decide)) ?_
                    refine r_iload_n C rfl dX6_fill_344 ?_
                    exact r_iret C dX6_fill_345 rfl hF rfl rfl)
              · first
                | (exfalso; omega)
                |  (refine r_aload_n C rfl rfl dX6_fill_290 ?_
                    refine r_iload_n C rfl dX6_fill_291 ?_
                    refine r_iload_n C rfl dX6_fill_292 ?_
                    refine r_callV C (absurd trivial d) kv_X6_makeNarrower kn_X6_makeNarrower rfl dX6_fill_293 cl_X6_193 ⟨Nat.le_of_ble_eq_true rfl, Nat.le_of_ble_eq_true rfl⟩ (by decide) rfl rfl (q_lt hs (by decide)) hF rfl (Nat.le_of_ble_eq_true rfl) ?_
                    refine r_aload_n C rfl rfl dX6_fill_296 ?_
                    refine r_getO C dX6_fill_297 fl_X6_28 rfl rfl (q_lt hs (by decide)) (sh_12_8 hs) ?_
                    refine r_iload_n C rfl dX6_fill_300 ?_
                    refine r_dup2 C rfl rfl dX6_fill_301 ?_
                    refine r_iald C (i) (by have t := hv; omega) (by omega) dX6_fill_302 rfl (q_lt hs (by decide)) ?_
                    refine r_iconstv C 1 rfl dX6_fill_303 ?_
                    refine r_iadd C dX6_fill_304 ?_
                    refine r_iast C (i) (by have t := hv; omega) (by omega) dX6_fill_305 rfl (q_lt hs (by decide)) ?_
                    refine r_aload_n C rfl rfl dX6_fill_306 ?_
                    refine r_getO C dX6_fill_307 fl_X6_22 rfl rfl (q_lt hs (by decide)) (sh_12_6 hs) ?_
                    refine r_iload_n C rfl dX6_fill_310 ?_
                    refine r_aload_n C rfl rfl dX6_fill_311 ?_
                    refine r_getO C dX6_fill_312 fl_X6_16 rfl rfl (q_lt hs (by decide)) (sh_12_4 hs) ?_
                    refine r_iload_n C rfl dX6_fill_315 ?_
                    refine r_iald C (i) (by have t := hv; omega) (by omega) dX6_fill_316 rfl (q_lt hs (by decide)) ?_
                    refine r_iast C (i) (by have t := hv; omega) (by omega) dX6_fill_317 rfl (q_lt hs (by decide)) ?_
                    refine r_aload_n C rfl rfl dX6_fill_318 ?_
                    refine r_getO C dX6_fill_319 fl_X6_25 rfl rfl (q_lt hs (by decide)) (sh_12_7 hs) ?_
                    refine r_iload_n C rfl dX6_fill_322 ?_
                    refine r_aload_n C rfl rfl dX6_fill_323 ?_
                    refine r_getO C dX6_fill_324 fl_X6_16 rfl rfl (q_lt hs (by decide)) (sh_12_4 hs) ?_
                    refine r_iload_n C rfl dX6_fill_327 ?_
                    refine r_iald C (i) (by have t := hv; omega) (by omega) dX6_fill_328 rfl (q_lt hs (by decide)) ?_
                    refine r_iast C (i) (by have t := hv; omega) (by omega) dX6_fill_329 rfl (q_lt hs (by decide)) ?_
                    refine r_aload_n C rfl rfl dX6_fill_330 ?_
                    refine r_getO C dX6_fill_331 fl_X6_38 rfl rfl (q_lt hs (by decide)) (sh_12_11 hs) ?_
                    refine r_iload_n C rfl dX6_fill_334 ?_
                    refine r_iconstv C 0 rfl dX6_fill_335 ?_
                    refine r_iast C (i) (by have t := hv; omega) (by omega) dX6_fill_336 rfl (q_lt hs (by decide)) ?_
                    refine r_aload_n C rfl rfl dX6_fill_337 ?_
                    refine r_getO C dX6_fill_338 fl_X6_41 rfl rfl (q_lt hs (by decide)) (sh_12_12 hs) ?_
                    refine r_iload_n C rfl dX6_fill_341 ?_
                    refine r_iconstv C 0 rfl dX6_fill_342 ?_
                    refine r_iast C (i) (by have t := hv; omega) (by omega) dX6_fill_343 rfl (q_lt hs (by decide)) ?_
                    refine r_iload_n C rfl dX6_fill_344 ?_
                    exact r_iret C dX6_fill_345 rfl hF rfl rfl)))

set_option maxHeartbeats 4000000 in
set_option maxRecDepth 100000 in
theorem ft_z (G : oG) {p : Program} {l : Launch} {e : Env} {R : Room} {s : State} {m : MethodId} {args : Array Value} {below : List Frame} {meth : Method} {c : Code} {n0 nF : Nat} {h : oH} (hs : oSh h) {v q x sd kd : Int32} {x6 x7 : Option Value} {i : Nat} (hv : v.toInt = (i : Int)) (hi : i < 24) (C : oC G mX6_fill n0 nF p l R s m args meth c) (hF : h.1 ≤ nF)  : oS G mX6_fill p l e R s m args below meth c (oZ G below args s n0 nF (some (.int x)) (k5 h i)) n0 296 [some (.ref 12), some (.int v), some (.int q), some (.int x), some (.int sd), some (.int kd), x6, x7] [] h := by
  refine r_aload_n C rfl rfl dX6_fill_296 ?_
  refine r_getO C dX6_fill_297 fl_X6_28 rfl rfl (q_lt hs (by decide)) (sh_12_8 hs) ?_
  refine r_iload_n C rfl dX6_fill_300 ?_
  refine r_dup2 C rfl rfl dX6_fill_301 ?_
  refine r_iald C (i) (by have t := hv; omega) (by omega) dX6_fill_302 rfl (q_lt hs (by decide)) ?_
  refine r_iconstv C 1 rfl dX6_fill_303 ?_
  refine r_iadd C dX6_fill_304 ?_
  refine r_iast C (i) (by have t := hv; omega) (by omega) dX6_fill_305 rfl (q_lt hs (by decide)) ?_
  refine r_aload_n C rfl rfl dX6_fill_306 ?_
  refine r_getO C dX6_fill_307 fl_X6_22 rfl rfl (q_lt hs (by decide)) (sh_12_6 hs) ?_
  refine r_iload_n C rfl dX6_fill_310 ?_
  refine r_aload_n C rfl rfl dX6_fill_311 ?_
  refine r_getO C dX6_fill_312 fl_X6_16 rfl rfl (q_lt hs (by decide)) (sh_12_4 hs) ?_
  refine r_iload_n C rfl dX6_fill_315 ?_
  refine r_iald C (i) (by have t := hv; omega) (by omega) dX6_fill_316 rfl (q_lt hs (by decide)) ?_
  refine r_iast C (i) (by have t := hv; omega) (by omega) dX6_fill_317 rfl (q_lt hs (by decide)) ?_
  refine r_aload_n C rfl rfl dX6_fill_318 ?_
  refine r_getO C dX6_fill_319 fl_X6_25 rfl rfl (q_lt hs (by decide)) (sh_12_7 hs) ?_
  refine r_iload_n C rfl dX6_fill_322 ?_
  refine r_aload_n C rfl rfl dX6_fill_323 ?_
  refine r_getO C dX6_fill_324 fl_X6_16 rfl rfl (q_lt hs (by decide)) (sh_12_4 hs) ?_
  refine r_iload_n C rfl dX6_fill_327 ?_
  refine r_iald C (i) (by have t := hv; omega) (by omega) dX6_fill_328 rfl (q_lt hs (by decide)) ?_
  refine r_iast C (i) (by have t := hv; omega) (by omega) dX6_fill_329 rfl (q_lt hs (by decide)) ?_
  refine r_aload_n C rfl rfl dX6_fill_330 ?_
  refine r_getO C dX6_fill_331 fl_X6_38 rfl rfl (q_lt hs (by decide)) (sh_12_11 hs) ?_
  refine r_iload_n C rfl dX6_fill_334 ?_
  refine r_iconstv C 0 rfl dX6_fill_335 ?_
  refine r_iast C (i) (by have t := hv; omega) (by omega) dX6_fill_336 rfl (q_lt hs (by decide)) ?_
  refine r_aload_n C rfl rfl dX6_fill_337 ?_
  refine r_getO C dX6_fill_338 fl_X6_41 rfl rfl (q_lt hs (by decide)) (sh_12_12 hs) ?_
  refine r_iload_n C rfl dX6_fill_341 ?_
  refine r_iconstv C 0 rfl dX6_fill_342 ?_
  refine r_iast C (i) (by have t := hv; omega) (by omega) dX6_fill_343 rfl (q_lt hs (by decide)) ?_
  refine r_iload_n C rfl dX6_fill_344 ?_
  exact r_iret C dX6_fill_345 rfl hF rfl rfl

set_option maxHeartbeats 4000000 in
set_option maxRecDepth 100000 in
theorem ft_y (G : oG) {p : Program} {l : Launch} {e : Env} {R : Room} {s : State} {m : MethodId} {args : Array Value} {below : List Frame} {meth : Method} {c : Code} {n0 nF : Nat} {h : oH} (hs : oSh h) {v q x sd kd : Int32} {x6 x7 : Option Value} {i : Nat} (hv : v.toInt = (i : Int)) (hi : i < 24) (C : oC G mX6_fill n0 nF p l R s m args meth c) (hF : h.1 ≤ nF) (d : (hI h 20 i).toInt = 0 ∧ q.toInt < (hI h 15 i).toInt ∧ 0 < sd.toInt) {h1 : oH} (hs1 : oSh h1) (e1 : h1.1 = h.1) (sp : oSp G mX6_makeNarrower [.ref 12, .int v, .int q] h none h1) : oS G mX6_fill p l e R s m args below meth c (oZ G below args s n0 nF (some (.int x)) (k5 h1 i)) n0 266 [some (.ref 12), some (.int v), some (.int q), some (.int x), some (.int sd), some (.int kd), x6, x7] [] h := by
  refine r_aload_n C rfl rfl dX6_fill_266 ?_
  refine r_getO C dX6_fill_267 fl_X6_31 rfl rfl (q_lt hs (by decide)) (sh_12_9 hs) ?_
  refine r_iload_n C rfl dX6_fill_270 ?_
  refine r_iald C (i) (by have t := hv; omega) (by omega) dX6_fill_271 rfl (q_lt hs (by decide)) ?_
  refine t_if_ne C 296 (by decide) rfl dX6_fill_272 (fun c272 => ?_) (fun c272 => ?_)
  · first
    | (exfalso; omega)
    |  (exact ft_z G hs1 hv hi C (by rw [e1]; exact hF))
  · first
    | (exfalso; omega)
    |  (refine r_iload_n C rfl dX6_fill_275 ?_
        refine r_aload_n C rfl rfl dX6_fill_276 ?_
        refine r_getO C dX6_fill_277 fl_X6_16 rfl rfl (q_lt hs (by decide)) (sh_12_4 hs) ?_
        refine r_iload_n C rfl dX6_fill_280 ?_
        refine r_iald C (i) (by have t := hv; omega) (by omega) dX6_fill_281 rfl (q_lt hs (by decide)) ?_
        refine t_icmp_ge C 296 (by decide) rfl rfl dX6_fill_282 (fun c282 => ?_) (fun c282 => ?_)
        · first
          | (exfalso; omega)
          |  (exact ft_z G hs1 hv hi C (by rw [e1]; exact hF))
        · first
          | (exfalso; omega)
          |  (refine r_iload C rfl dX6_fill_285 ?_
              refine t_if_le C 296 (by decide) rfl dX6_fill_287 (fun c287 => ?_) (fun c287 => ?_)
              · first
                | (exfalso; omega)
                |  (exact ft_z G hs1 hv hi C (by rw [e1]; exact hF))
              · first
                | (exfalso; omega)
                |  (refine r_aload_n C rfl rfl dX6_fill_290 ?_
                    refine r_iload_n C rfl dX6_fill_291 ?_
                    refine r_iload_n C rfl dX6_fill_292 ?_
                    refine r_callV C sp kv_X6_makeNarrower kn_X6_makeNarrower rfl dX6_fill_293 cl_X6_193 ⟨Nat.le_of_ble_eq_true rfl, Nat.le_of_ble_eq_true rfl⟩ (by decide) rfl rfl (q_lt hs (by decide)) (by rw [e1]; exact hF) rfl (Nat.le_of_ble_eq_true rfl) ?_
                    exact ft_z G hs1 hv hi C (by rw [e1]; exact hF))))

set_option maxHeartbeats 4000000 in
set_option maxRecDepth 100000 in
theorem fm_o (G : oG) {p : Program} {l : Launch} {e : Env} {R : Room} {s : State} {m : MethodId} {args : Array Value} {below : List Frame} {meth : Method} {c : Code} {n0 nF : Nat} {Z : State → Prop} {h : oH} (hs : oSh h) {v q x : Int32} {i : Nat} (hv : v.toInt = (i : Int)) (hi : i < 24) (C : oC G mX6_fill n0 nF p l R s m args meth c) (hF : h.1 ≤ nF) (d : ¬ (q.toInt ≤ (hI h 22 i * hI h 16 (4 * i + 2) + hI h 23 i * hI h 16 (4 * i + 3)).toInt)) (du : ¬ (q.toInt < (hI h 22 i * hI h 16 (4 * i) + hI h 23 i * hI h 16 (4 * i + 1)).toInt)) (K : ∀ x6 x7, oS G mX6_fill p l e R s m args below meth c Z n0 266 [some (.ref 12), some (.int v), some (.int q), some (.int x), some (.int (hI h 22 i)), some (.int (hI h 23 i)), x6, x7] [] (sI (sI h 20 i 1) 21 i 1)) : oS G mX6_fill p l e R s m args below meth c (Z) n0 111 [some (.ref 12), some (.int v), some (.int q), some (.int x), none, none, none, none] [] h := by
  refine r_aload_n C rfl rfl dX6_fill_111 ?_
  refine r_getO C dX6_fill_112 fl_X6_38 rfl rfl (q_lt hs (by decide)) (sh_12_11 hs) ?_
  refine r_iload_n C rfl dX6_fill_115 ?_
  refine r_iald C (i) (by have t := hv; omega) (by omega) dX6_fill_116 rfl (q_lt hs (by decide)) ?_
  refine r_istore C rfl (Nat.le_of_ble_eq_true rfl) dX6_fill_117 ?_
  refine r_aload_n C rfl rfl dX6_fill_119 ?_
  refine r_getO C dX6_fill_120 fl_X6_41 rfl rfl (q_lt hs (by decide)) (sh_12_12 hs) ?_
  refine r_iload_n C rfl dX6_fill_123 ?_
  refine r_iald C (i) (by have t := hv; omega) (by omega) dX6_fill_124 rfl (q_lt hs (by decide)) ?_
  refine r_istore C rfl (Nat.le_of_ble_eq_true rfl) dX6_fill_125 ?_
  refine r_iload_n C rfl dX6_fill_127 ?_
  refine r_iload C rfl dX6_fill_128 ?_
  refine r_aload_n C rfl rfl dX6_fill_130 ?_
  refine r_getO C dX6_fill_131 fl_X6_19 rfl rfl (q_lt hs (by decide)) (sh_12_5 hs) ?_
  refine r_iconstv C 4 rfl dX6_fill_134 ?_
  refine r_iload_n C rfl dX6_fill_135 ?_
  refine r_imul C dX6_fill_136 ?_
  refine r_iconstv C 2 rfl dX6_fill_137 ?_
  refine r_iadd C dX6_fill_138 ?_
  refine r_iald C (((4) * (i)) + (2)) (by have t := (tA (tM (show (4 : Int32).toInt = 4 from rfl) hv (by omega)) (show (2 : Int32).toInt = 2 from rfl) (by omega)); omega) (by omega) dX6_fill_139 rfl (q_lt hs (by decide)) ?_
  refine r_imul C dX6_fill_140 ?_
  refine r_iload C rfl dX6_fill_141 ?_
  refine r_aload_n C rfl rfl dX6_fill_143 ?_
  refine r_getO C dX6_fill_144 fl_X6_19 rfl rfl (q_lt hs (by decide)) (sh_12_5 hs) ?_
  refine r_iconstv C 4 rfl dX6_fill_147 ?_
  refine r_iload_n C rfl dX6_fill_148 ?_
  refine r_imul C dX6_fill_149 ?_
  refine r_iconstv C 3 rfl dX6_fill_150 ?_
  refine r_iadd C dX6_fill_151 ?_
  refine r_iald C (((4) * (i)) + (3)) (by have t := (tA (tM (show (4 : Int32).toInt = 4 from rfl) hv (by omega)) (show (3 : Int32).toInt = 3 from rfl) (by omega)); omega) (by omega) dX6_fill_152 rfl (q_lt hs (by decide)) ?_
  refine r_imul C dX6_fill_153 ?_
  refine r_iadd C dX6_fill_154 ?_
  refine j_icmp_le0 C 162 (by decide) rfl rfl rfl dX6_fill_155 dX6_fill_158 dX6_fill_159 dX6_fill_162 ?_
  refine r_istore C rfl (Nat.le_of_ble_eq_true rfl) dX6_fill_163 ?_
  refine r_iload_n C rfl dX6_fill_165 ?_
  refine r_iload C rfl dX6_fill_166 ?_
  refine r_aload_n C rfl rfl dX6_fill_168 ?_
  refine r_getO C dX6_fill_169 fl_X6_19 rfl rfl (q_lt hs (by decide)) (sh_12_5 hs) ?_
  refine r_iconstv C 4 rfl dX6_fill_172 ?_
  refine r_iload_n C rfl dX6_fill_173 ?_
  refine r_imul C dX6_fill_174 ?_
  refine r_iald C ((4) * (i)) (by have t := (tM (show (4 : Int32).toInt = 4 from rfl) hv (by omega)); omega) (by omega) dX6_fill_175 rfl (q_lt hs (by decide)) ?_
  refine r_imul C dX6_fill_176 ?_
  refine r_iload C rfl dX6_fill_177 ?_
  refine r_aload_n C rfl rfl dX6_fill_179 ?_
  refine r_getO C dX6_fill_180 fl_X6_19 rfl rfl (q_lt hs (by decide)) (sh_12_5 hs) ?_
  refine r_iconstv C 4 rfl dX6_fill_183 ?_
  refine r_iload_n C rfl dX6_fill_184 ?_
  refine r_imul C dX6_fill_185 ?_
  refine r_iconstv C 1 rfl dX6_fill_186 ?_
  refine r_iadd C dX6_fill_187 ?_
  refine r_iald C (((4) * (i)) + (1)) (by have t := (tA (tM (show (4 : Int32).toInt = 4 from rfl) hv (by omega)) (show (1 : Int32).toInt = 1 from rfl) (by omega)); omega) (by omega) dX6_fill_188 rfl (q_lt hs (by decide)) ?_
  refine r_imul C dX6_fill_189 ?_
  refine r_iadd C dX6_fill_190 ?_
  refine t_icmp_ge C 208 (by decide) rfl rfl dX6_fill_191 (fun c191 => ?_) (fun c191 => ?_)
  · first
    | (exfalso; omega)
    |  (refine r_iconstv C 0 rfl dX6_fill_208 ?_
        refine r_istore C rfl (Nat.le_of_ble_eq_true rfl) dX6_fill_209 ?_
        refine r_aload_n C rfl rfl dX6_fill_211 ?_
        refine r_getO C dX6_fill_212 fl_X6_31 rfl rfl (q_lt hs (by decide)) (sh_12_9 hs) ?_
        refine r_iload_n C rfl dX6_fill_215 ?_
        refine r_iload C rfl dX6_fill_216 ?_
        refine t_ifb_eq C 225 (by decide) dX6_fill_218 (fun c218 => ?_) (fun c218 => ?_)
        · first
          | (exfalso; omega)
          |  (refine r_iload C rfl dX6_fill_225 ?_
              refine t_if_eq C 234 (by decide) (show (0 : Int32).toInt = 0 from rfl) dX6_fill_227 (fun c227 => ?_) (fun c227 => absurd c227 (by decide))
              refine r_iconstv C 0 rfl dX6_fill_234 ?_
              refine r_iast C (i) (by have t := hv; omega) (by omega) dX6_fill_235 rfl (q_lt hs (by decide)) ?_
              refine r_aload_n C rfl rfl dX6_fill_236 ?_
              refine r_getO C dX6_fill_237 fl_X6_34 rfl rfl (q_lt hs (by decide)) (sh_12_10 hs) ?_
              refine r_iload_n C rfl dX6_fill_240 ?_
              refine r_aload_n C rfl rfl dX6_fill_241 ?_
              refine r_getO C dX6_fill_242 fl_X6_34 rfl rfl (q_lt hs (by decide)) (sh_12_10 hs) ?_
              refine r_iload_n C rfl dX6_fill_245 ?_
              refine r_zald C (i) (by have t := hv; omega) (by omega) dX6_fill_246 rfl (q_lt hs (by decide)) ?_
              refine t_if_ne C 260 (by decide) rfl dX6_fill_247 (fun c247 => ?_) (fun c247 => ?_)
              · first
                | (exfalso; omega)
                |  (refine r_iconstv C 1 rfl dX6_fill_260 ?_
                    refine r_goto C 265 (by decide) dX6_fill_261 ?_
                    refine r_zast C (i) (1) (by first | rfl | (rw [b1_t (by omega)]; rfl) | (rw [b1_f (by omega)]; rfl)) (by have t := hv; omega) (by omega) dX6_fill_265 rfl (q_lt hs (by decide)) ?_
                    exact K _ _)
              · first
                | (exfalso; omega)
                |  (refine r_iload C rfl dX6_fill_250 ?_
                    refine t_ifb_ne C 260 (by decide) dX6_fill_252 (fun c252 => absurd c252 c218) (fun c252 => ?_)
                    refine r_iload C rfl dX6_fill_255 ?_
                    refine j_if_eq0 C 264 (by decide) rfl (show (0 : Int32).toInt = 0 from rfl) dX6_fill_257 dX6_fill_260 dX6_fill_261 dX6_fill_264 ?_
                    refine r_zast C (i) (1) (by first | rfl | (rw [b1_t (by omega)]; rfl) | (rw [b1_f (by omega)]; rfl)) (by have t := hv; omega) (by omega) dX6_fill_265 rfl (q_lt hs (by decide)) ?_
                    exact K _ _))
        · first
          | (exfalso; omega)
          |  (refine r_iconstv C 1 rfl dX6_fill_221 ?_
              refine r_goto C 235 (by decide) dX6_fill_222 ?_
              refine r_iast C (i) (by have t := hv; omega) (by omega) dX6_fill_235 rfl (q_lt hs (by decide)) ?_
              refine r_aload_n C rfl rfl dX6_fill_236 ?_
              refine r_getO C dX6_fill_237 fl_X6_34 rfl rfl (q_lt hs (by decide)) (sh_12_10 hs) ?_
              refine r_iload_n C rfl dX6_fill_240 ?_
              refine r_aload_n C rfl rfl dX6_fill_241 ?_
              refine r_getO C dX6_fill_242 fl_X6_34 rfl rfl (q_lt hs (by decide)) (sh_12_10 hs) ?_
              refine r_iload_n C rfl dX6_fill_245 ?_
              refine r_zald C (i) (by have t := hv; omega) (by omega) dX6_fill_246 rfl (q_lt hs (by decide)) ?_
              refine t_if_ne C 260 (by decide) rfl dX6_fill_247 (fun c247 => ?_) (fun c247 => ?_)
              · first
                | (exfalso; omega)
                |  (refine r_iconstv C 1 rfl dX6_fill_260 ?_
                    refine r_goto C 265 (by decide) dX6_fill_261 ?_
                    refine r_zast C (i) (1) (by first | rfl | (rw [b1_t (by omega)]; rfl) | (rw [b1_f (by omega)]; rfl)) (by have t := hv; omega) (by omega) dX6_fill_265 rfl (q_lt hs (by decide)) ?_
                    exact K _ _)
              · first
                | (exfalso; omega)
                |  (refine r_iload C rfl dX6_fill_250 ?_
                    refine t_ifb_ne C 260 (by decide) dX6_fill_252 (fun c252 => ?_) (fun c252 => absurd c218 c252)
                    refine r_iconstv C 1 rfl dX6_fill_260 ?_
                    refine r_goto C 265 (by decide) dX6_fill_261 ?_
                    refine r_zast C (i) (1) (by first | rfl | (rw [b1_t (by omega)]; rfl) | (rw [b1_f (by omega)]; rfl)) (by have t := hv; omega) (by omega) dX6_fill_265 rfl (q_lt hs (by decide)) ?_
                    exact K _ _)))
  · first
    | (exfalso; omega)
    |  (refine r_iload_n C rfl dX6_fill_194 ?_
        refine r_aload_n C rfl rfl dX6_fill_195 ?_
        refine r_getO C dX6_fill_196 fl_X6_16 rfl rfl (q_lt hs (by decide)) (sh_12_4 hs) ?_
        refine r_iload_n C rfl dX6_fill_199 ?_
        refine r_iald C (i) (by have t := hv; omega) (by omega) dX6_fill_200 rfl (q_lt hs (by decide)) ?_
        refine j_icmp_ge0 C 208 (by decide) rfl rfl rfl dX6_fill_201 dX6_fill_204 dX6_fill_205 dX6_fill_208 ?_
        refine r_istore C rfl (Nat.le_of_ble_eq_true rfl) dX6_fill_209 ?_
        refine r_aload_n C rfl rfl dX6_fill_211 ?_
        refine r_getO C dX6_fill_212 fl_X6_31 rfl rfl (q_lt hs (by decide)) (sh_12_9 hs) ?_
        refine r_iload_n C rfl dX6_fill_215 ?_
        refine r_iload C rfl dX6_fill_216 ?_
        refine t_ifb_eq C 225 (by decide) dX6_fill_218 (fun c218 => ?_) (fun c218 => ?_)
        · first
          | (exfalso; omega)
          |  (refine r_iload C rfl dX6_fill_225 ?_
              refine t_ifb_eq C 234 (by decide) dX6_fill_227 (fun c227 => ?_) (fun c227 => ?_)
              · first
                | (exfalso; omega)
                |  (refine r_iconstv C 0 rfl dX6_fill_234 ?_
                    refine r_iast C (i) (by have t := hv; omega) (by omega) dX6_fill_235 rfl (q_lt hs (by decide)) ?_
                    refine r_aload_n C rfl rfl dX6_fill_236 ?_
                    refine r_getO C dX6_fill_237 fl_X6_34 rfl rfl (q_lt hs (by decide)) (sh_12_10 hs) ?_
                    refine r_iload_n C rfl dX6_fill_240 ?_
                    refine r_aload_n C rfl rfl dX6_fill_241 ?_
                    refine r_getO C dX6_fill_242 fl_X6_34 rfl rfl (q_lt hs (by decide)) (sh_12_10 hs) ?_
                    refine r_iload_n C rfl dX6_fill_245 ?_
                    refine r_zald C (i) (by have t := hv; omega) (by omega) dX6_fill_246 rfl (q_lt hs (by decide)) ?_
                    refine t_if_ne C 260 (by decide) rfl dX6_fill_247 (fun c247 => ?_) (fun c247 => ?_)
                    · first
                      | (exfalso; omega)
                      |  (refine r_iconstv C 1 rfl dX6_fill_260 ?_
                          refine r_goto C 265 (by decide) dX6_fill_261 ?_
                          refine r_zast C (i) (1) (by first | rfl | (rw [b1_t (by omega)]; rfl) | (rw [b1_f (by omega)]; rfl)) (by have t := hv; omega) (by omega) dX6_fill_265 rfl (q_lt hs (by decide)) ?_
                          exact K _ _)
                    · first
                      | (exfalso; omega)
                      |  (refine r_iload C rfl dX6_fill_250 ?_
                          refine t_ifb_ne C 260 (by decide) dX6_fill_252 (fun c252 => absurd c252 c218) (fun c252 => ?_)
                          refine r_iload C rfl dX6_fill_255 ?_
                          refine j_ifb C 264 (by decide) rfl dX6_fill_257 dX6_fill_260 dX6_fill_261 dX6_fill_264 ?_
                          refine r_zast C (i) (1) (by first | rfl | (rw [b1_t (by omega)]; rfl) | (rw [b1_f (by omega)]; rfl)) (by have t := hv; omega) (by omega) dX6_fill_265 rfl (q_lt hs (by decide)) ?_
                          exact K _ _))
              · first
                | (exfalso; omega)
                |  (refine r_iconstv C 2 rfl dX6_fill_230 ?_
                    refine r_goto C 235 (by decide) dX6_fill_231 ?_
                    refine r_iast C (i) (by have t := hv; omega) (by omega) dX6_fill_235 rfl (q_lt hs (by decide)) ?_
                    refine r_aload_n C rfl rfl dX6_fill_236 ?_
                    refine r_getO C dX6_fill_237 fl_X6_34 rfl rfl (q_lt hs (by decide)) (sh_12_10 hs) ?_
                    refine r_iload_n C rfl dX6_fill_240 ?_
                    refine r_aload_n C rfl rfl dX6_fill_241 ?_
                    refine r_getO C dX6_fill_242 fl_X6_34 rfl rfl (q_lt hs (by decide)) (sh_12_10 hs) ?_
                    refine r_iload_n C rfl dX6_fill_245 ?_
                    refine r_zald C (i) (by have t := hv; omega) (by omega) dX6_fill_246 rfl (q_lt hs (by decide)) ?_
                    refine t_if_ne C 260 (by decide) rfl dX6_fill_247 (fun c247 => ?_) (fun c247 => ?_)
                    · first
                      | (exfalso; omega)
                      |  (refine r_iconstv C 1 rfl dX6_fill_260 ?_
                          refine r_goto C 265 (by decide) dX6_fill_261 ?_
                          refine r_zast C (i) (1) (by first | rfl | (rw [b1_t (by omega)]; rfl) | (rw [b1_f (by omega)]; rfl)) (by have t := hv; omega) (by omega) dX6_fill_265 rfl (q_lt hs (by decide)) ?_
                          exact K _ _)
                    · first
                      | (exfalso; omega)
                      |  (refine r_iload C rfl dX6_fill_250 ?_
                          refine t_ifb_ne C 260 (by decide) dX6_fill_252 (fun c252 => absurd c252 c218) (fun c252 => ?_)
                          refine r_iload C rfl dX6_fill_255 ?_
                          refine j_ifb C 264 (by decide) rfl dX6_fill_257 dX6_fill_260 dX6_fill_261 dX6_fill_264 ?_
                          refine r_zast C (i) (1) (by first | rfl | (rw [b1_t (by omega)]; rfl) | (rw [b1_f (by omega)]; rfl)) (by have t := hv; omega) (by omega) dX6_fill_265 rfl (q_lt hs (by decide)) ?_
                          exact K _ _)))
        · first
          | (exfalso; omega)
          |  (refine r_iconstv C 1 rfl dX6_fill_221 ?_
              refine r_goto C 235 (by decide) dX6_fill_222 ?_
              refine r_iast C (i) (by have t := hv; omega) (by omega) dX6_fill_235 rfl (q_lt hs (by decide)) ?_
              refine r_aload_n C rfl rfl dX6_fill_236 ?_
              refine r_getO C dX6_fill_237 fl_X6_34 rfl rfl (q_lt hs (by decide)) (sh_12_10 hs) ?_
              refine r_iload_n C rfl dX6_fill_240 ?_
              refine r_aload_n C rfl rfl dX6_fill_241 ?_
              refine r_getO C dX6_fill_242 fl_X6_34 rfl rfl (q_lt hs (by decide)) (sh_12_10 hs) ?_
              refine r_iload_n C rfl dX6_fill_245 ?_
              refine r_zald C (i) (by have t := hv; omega) (by omega) dX6_fill_246 rfl (q_lt hs (by decide)) ?_
              refine t_if_ne C 260 (by decide) rfl dX6_fill_247 (fun c247 => ?_) (fun c247 => ?_)
              · first
                | (exfalso; omega)
                |  (refine r_iconstv C 1 rfl dX6_fill_260 ?_
                    refine r_goto C 265 (by decide) dX6_fill_261 ?_
                    refine r_zast C (i) (1) (by first | rfl | (rw [b1_t (by omega)]; rfl) | (rw [b1_f (by omega)]; rfl)) (by have t := hv; omega) (by omega) dX6_fill_265 rfl (q_lt hs (by decide)) ?_
                    exact K _ _)
              · first
                | (exfalso; omega)
                |  (refine r_iload C rfl dX6_fill_250 ?_
                    refine t_ifb_ne C 260 (by decide) dX6_fill_252 (fun c252 => ?_) (fun c252 => absurd c218 c252)
                    refine r_iconstv C 1 rfl dX6_fill_260 ?_
                    refine r_goto C 265 (by decide) dX6_fill_261 ?_
                    refine r_zast C (i) (1) (by first | rfl | (rw [b1_t (by omega)]; rfl) | (rw [b1_f (by omega)]; rfl)) (by have t := hv; omega) (by omega) dX6_fill_265 rfl (q_lt hs (by decide)) ?_
                    exact K _ _)))

set_option maxHeartbeats 4000000 in
set_option maxRecDepth 100000 in
theorem fm_u (G : oG) {p : Program} {l : Launch} {e : Env} {R : Room} {s : State} {m : MethodId} {args : Array Value} {below : List Frame} {meth : Method} {c : Code} {n0 nF : Nat} {Z : State → Prop} {h : oH} (hs : oSh h) {v q x : Int32} {i : Nat} (hv : v.toInt = (i : Int)) (hi : i < 24) (C : oC G mX6_fill n0 nF p l R s m args meth c) (hF : h.1 ≤ nF) (d : (q.toInt ≤ (hI h 22 i * hI h 16 (4 * i + 2) + hI h 23 i * hI h 16 (4 * i + 3)).toInt)) (du : (q.toInt < (hI h 22 i * hI h 16 (4 * i) + hI h 23 i * hI h 16 (4 * i + 1)).toInt)) (dh : (q.toInt < (hI h 15 i).toInt)) (K : ∀ x6 x7, oS G mX6_fill p l e R s m args below meth c Z n0 266 [some (.ref 12), some (.int v), some (.int q), some (.int x), some (.int (hI h 22 i)), some (.int (hI h 23 i)), x6, x7] [] (sI (sI h 20 i 2) 21 i 1)) : oS G mX6_fill p l e R s m args below meth c (Z) n0 111 [some (.ref 12), some (.int v), some (.int q), some (.int x), none, none, none, none] [] h := by
  refine r_aload_n C rfl rfl dX6_fill_111 ?_
  refine r_getO C dX6_fill_112 fl_X6_38 rfl rfl (q_lt hs (by decide)) (sh_12_11 hs) ?_
  refine r_iload_n C rfl dX6_fill_115 ?_
  refine r_iald C (i) (by have t := hv; omega) (by omega) dX6_fill_116 rfl (q_lt hs (by decide)) ?_
  refine r_istore C rfl (Nat.le_of_ble_eq_true rfl) dX6_fill_117 ?_
  refine r_aload_n C rfl rfl dX6_fill_119 ?_
  refine r_getO C dX6_fill_120 fl_X6_41 rfl rfl (q_lt hs (by decide)) (sh_12_12 hs) ?_
  refine r_iload_n C rfl dX6_fill_123 ?_
  refine r_iald C (i) (by have t := hv; omega) (by omega) dX6_fill_124 rfl (q_lt hs (by decide)) ?_
  refine r_istore C rfl (Nat.le_of_ble_eq_true rfl) dX6_fill_125 ?_
  refine r_iload_n C rfl dX6_fill_127 ?_
  refine r_iload C rfl dX6_fill_128 ?_
  refine r_aload_n C rfl rfl dX6_fill_130 ?_
  refine r_getO C dX6_fill_131 fl_X6_19 rfl rfl (q_lt hs (by decide)) (sh_12_5 hs) ?_
  refine r_iconstv C 4 rfl dX6_fill_134 ?_
  refine r_iload_n C rfl dX6_fill_135 ?_
  refine r_imul C dX6_fill_136 ?_
  refine r_iconstv C 2 rfl dX6_fill_137 ?_
  refine r_iadd C dX6_fill_138 ?_
  refine r_iald C (((4) * (i)) + (2)) (by have t := (tA (tM (show (4 : Int32).toInt = 4 from rfl) hv (by omega)) (show (2 : Int32).toInt = 2 from rfl) (by omega)); omega) (by omega) dX6_fill_139 rfl (q_lt hs (by decide)) ?_
  refine r_imul C dX6_fill_140 ?_
  refine r_iload C rfl dX6_fill_141 ?_
  refine r_aload_n C rfl rfl dX6_fill_143 ?_
  refine r_getO C dX6_fill_144 fl_X6_19 rfl rfl (q_lt hs (by decide)) (sh_12_5 hs) ?_
  refine r_iconstv C 4 rfl dX6_fill_147 ?_
  refine r_iload_n C rfl dX6_fill_148 ?_
  refine r_imul C dX6_fill_149 ?_
  refine r_iconstv C 3 rfl dX6_fill_150 ?_
  refine r_iadd C dX6_fill_151 ?_
  refine r_iald C (((4) * (i)) + (3)) (by have t := (tA (tM (show (4 : Int32).toInt = 4 from rfl) hv (by omega)) (show (3 : Int32).toInt = 3 from rfl) (by omega)); omega) (by omega) dX6_fill_152 rfl (q_lt hs (by decide)) ?_
  refine r_imul C dX6_fill_153 ?_
  refine r_iadd C dX6_fill_154 ?_
  refine j_icmp_le0 C 162 (by decide) rfl rfl rfl dX6_fill_155 dX6_fill_158 dX6_fill_159 dX6_fill_162 ?_
  refine r_istore C rfl (Nat.le_of_ble_eq_true rfl) dX6_fill_163 ?_
  refine r_iload_n C rfl dX6_fill_165 ?_
  refine r_iload C rfl dX6_fill_166 ?_
  refine r_aload_n C rfl rfl dX6_fill_168 ?_
  refine r_getO C dX6_fill_169 fl_X6_19 rfl rfl (q_lt hs (by decide)) (sh_12_5 hs) ?_
  refine r_iconstv C 4 rfl dX6_fill_172 ?_
  refine r_iload_n C rfl dX6_fill_173 ?_
  refine r_imul C dX6_fill_174 ?_
  refine r_iald C ((4) * (i)) (by have t := (tM (show (4 : Int32).toInt = 4 from rfl) hv (by omega)); omega) (by omega) dX6_fill_175 rfl (q_lt hs (by decide)) ?_
  refine r_imul C dX6_fill_176 ?_
  refine r_iload C rfl dX6_fill_177 ?_
  refine r_aload_n C rfl rfl dX6_fill_179 ?_
  refine r_getO C dX6_fill_180 fl_X6_19 rfl rfl (q_lt hs (by decide)) (sh_12_5 hs) ?_
  refine r_iconstv C 4 rfl dX6_fill_183 ?_
  refine r_iload_n C rfl dX6_fill_184 ?_
  refine r_imul C dX6_fill_185 ?_
  refine r_iconstv C 1 rfl dX6_fill_186 ?_
  refine r_iadd C dX6_fill_187 ?_
  refine r_iald C (((4) * (i)) + (1)) (by have t := (tA (tM (show (4 : Int32).toInt = 4 from rfl) hv (by omega)) (show (1 : Int32).toInt = 1 from rfl) (by omega)); omega) (by omega) dX6_fill_188 rfl (q_lt hs (by decide)) ?_
  refine r_imul C dX6_fill_189 ?_
  refine r_iadd C dX6_fill_190 ?_
  refine t_icmp_ge C 208 (by decide) rfl rfl dX6_fill_191 (fun c191 => ?_) (fun c191 => ?_)
  · first
    | (exfalso; omega)
    |  (refine r_iconstv C 0 rfl dX6_fill_208 ?_
        refine r_istore C rfl (Nat.le_of_ble_eq_true rfl) dX6_fill_209 ?_
        refine r_aload_n C rfl rfl dX6_fill_211 ?_
        refine r_getO C dX6_fill_212 fl_X6_31 rfl rfl (q_lt hs (by decide)) (sh_12_9 hs) ?_
        refine r_iload_n C rfl dX6_fill_215 ?_
        refine r_iload C rfl dX6_fill_216 ?_
        refine t_ifb_eq C 225 (by decide) dX6_fill_218 (fun c218 => ?_) (fun c218 => ?_)
        · first
          | (exfalso; omega)
          |  (refine r_iload C rfl dX6_fill_225 ?_
              refine t_if_eq C 234 (by decide) (show (0 : Int32).toInt = 0 from rfl) dX6_fill_227 (fun c227 => ?_) (fun c227 => absurd c227 (by decide))
              refine r_iconstv C 0 rfl dX6_fill_234 ?_
              refine r_iast C (i) (by have t := hv; omega) (by omega) dX6_fill_235 rfl (q_lt hs (by decide)) ?_
              refine r_aload_n C rfl rfl dX6_fill_236 ?_
              refine r_getO C dX6_fill_237 fl_X6_34 rfl rfl (q_lt hs (by decide)) (sh_12_10 hs) ?_
              refine r_iload_n C rfl dX6_fill_240 ?_
              refine r_aload_n C rfl rfl dX6_fill_241 ?_
              refine r_getO C dX6_fill_242 fl_X6_34 rfl rfl (q_lt hs (by decide)) (sh_12_10 hs) ?_
              refine r_iload_n C rfl dX6_fill_245 ?_
              refine r_zald C (i) (by have t := hv; omega) (by omega) dX6_fill_246 rfl (q_lt hs (by decide)) ?_
              refine t_if_ne C 260 (by decide) rfl dX6_fill_247 (fun c247 => ?_) (fun c247 => ?_)
              · first
                | (exfalso; omega)
                |  (refine r_iconstv C 1 rfl dX6_fill_260 ?_
                    refine r_goto C 265 (by decide) dX6_fill_261 ?_
                    refine r_zast C (i) (1) (by first | rfl | (rw [b1_t (by omega)]; rfl) | (rw [b1_f (by omega)]; rfl)) (by have t := hv; omega) (by omega) dX6_fill_265 rfl (q_lt hs (by decide)) ?_
                    exact K _ _)
              · first
                | (exfalso; omega)
                |  (refine r_iload C rfl dX6_fill_250 ?_
                    refine t_ifb_ne C 260 (by decide) dX6_fill_252 (fun c252 => absurd c252 c218) (fun c252 => ?_)
                    refine r_iload C rfl dX6_fill_255 ?_
                    refine j_if_eq0 C 264 (by decide) rfl (show (0 : Int32).toInt = 0 from rfl) dX6_fill_257 dX6_fill_260 dX6_fill_261 dX6_fill_264 ?_
                    refine r_zast C (i) (1) (by first | rfl | (rw [b1_t (by omega)]; rfl) | (rw [b1_f (by omega)]; rfl)) (by have t := hv; omega) (by omega) dX6_fill_265 rfl (q_lt hs (by decide)) ?_
                    exact K _ _))
        · first
          | (exfalso; omega)
          |  (refine r_iconstv C 1 rfl dX6_fill_221 ?_
              refine r_goto C 235 (by decide) dX6_fill_222 ?_
              refine r_iast C (i) (by have t := hv; omega) (by omega) dX6_fill_235 rfl (q_lt hs (by decide)) ?_
              refine r_aload_n C rfl rfl dX6_fill_236 ?_
              refine r_getO C dX6_fill_237 fl_X6_34 rfl rfl (q_lt hs (by decide)) (sh_12_10 hs) ?_
              refine r_iload_n C rfl dX6_fill_240 ?_
              refine r_aload_n C rfl rfl dX6_fill_241 ?_
              refine r_getO C dX6_fill_242 fl_X6_34 rfl rfl (q_lt hs (by decide)) (sh_12_10 hs) ?_
              refine r_iload_n C rfl dX6_fill_245 ?_
              refine r_zald C (i) (by have t := hv; omega) (by omega) dX6_fill_246 rfl (q_lt hs (by decide)) ?_
              refine t_if_ne C 260 (by decide) rfl dX6_fill_247 (fun c247 => ?_) (fun c247 => ?_)
              · first
                | (exfalso; omega)
                |  (refine r_iconstv C 1 rfl dX6_fill_260 ?_
                    refine r_goto C 265 (by decide) dX6_fill_261 ?_
                    refine r_zast C (i) (1) (by first | rfl | (rw [b1_t (by omega)]; rfl) | (rw [b1_f (by omega)]; rfl)) (by have t := hv; omega) (by omega) dX6_fill_265 rfl (q_lt hs (by decide)) ?_
                    exact K _ _)
              · first
                | (exfalso; omega)
                |  (refine r_iload C rfl dX6_fill_250 ?_
                    refine t_ifb_ne C 260 (by decide) dX6_fill_252 (fun c252 => ?_) (fun c252 => absurd c218 c252)
                    refine r_iconstv C 1 rfl dX6_fill_260 ?_
                    refine r_goto C 265 (by decide) dX6_fill_261 ?_
                    refine r_zast C (i) (1) (by first | rfl | (rw [b1_t (by omega)]; rfl) | (rw [b1_f (by omega)]; rfl)) (by have t := hv; omega) (by omega) dX6_fill_265 rfl (q_lt hs (by decide)) ?_
                    exact K _ _)))
  · first
    | (exfalso; omega)
    |  (refine r_iload_n C rfl dX6_fill_194 ?_
        refine r_aload_n C rfl rfl dX6_fill_195 ?_
        refine r_getO C dX6_fill_196 fl_X6_16 rfl rfl (q_lt hs (by decide)) (sh_12_4 hs) ?_
        refine r_iload_n C rfl dX6_fill_199 ?_
        refine r_iald C (i) (by have t := hv; omega) (by omega) dX6_fill_200 rfl (q_lt hs (by decide)) ?_
        refine j_icmp_ge0 C 208 (by decide) rfl rfl rfl dX6_fill_201 dX6_fill_204 dX6_fill_205 dX6_fill_208 ?_
        refine r_istore C rfl (Nat.le_of_ble_eq_true rfl) dX6_fill_209 ?_
        refine r_aload_n C rfl rfl dX6_fill_211 ?_
        refine r_getO C dX6_fill_212 fl_X6_31 rfl rfl (q_lt hs (by decide)) (sh_12_9 hs) ?_
        refine r_iload_n C rfl dX6_fill_215 ?_
        refine r_iload C rfl dX6_fill_216 ?_
        refine t_ifb_eq C 225 (by decide) dX6_fill_218 (fun c218 => ?_) (fun c218 => ?_)
        · first
          | (exfalso; omega)
          |  (refine r_iload C rfl dX6_fill_225 ?_
              refine t_ifb_eq C 234 (by decide) dX6_fill_227 (fun c227 => ?_) (fun c227 => ?_)
              · first
                | (exfalso; omega)
                |  (refine r_iconstv C 0 rfl dX6_fill_234 ?_
                    refine r_iast C (i) (by have t := hv; omega) (by omega) dX6_fill_235 rfl (q_lt hs (by decide)) ?_
                    refine r_aload_n C rfl rfl dX6_fill_236 ?_
                    refine r_getO C dX6_fill_237 fl_X6_34 rfl rfl (q_lt hs (by decide)) (sh_12_10 hs) ?_
                    refine r_iload_n C rfl dX6_fill_240 ?_
                    refine r_aload_n C rfl rfl dX6_fill_241 ?_
                    refine r_getO C dX6_fill_242 fl_X6_34 rfl rfl (q_lt hs (by decide)) (sh_12_10 hs) ?_
                    refine r_iload_n C rfl dX6_fill_245 ?_
                    refine r_zald C (i) (by have t := hv; omega) (by omega) dX6_fill_246 rfl (q_lt hs (by decide)) ?_
                    refine t_if_ne C 260 (by decide) rfl dX6_fill_247 (fun c247 => ?_) (fun c247 => ?_)
                    · first
                      | (exfalso; omega)
                      |  (refine r_iconstv C 1 rfl dX6_fill_260 ?_
                          refine r_goto C 265 (by decide) dX6_fill_261 ?_
                          refine r_zast C (i) (1) (by first | rfl | (rw [b1_t (by omega)]; rfl) | (rw [b1_f (by omega)]; rfl)) (by have t := hv; omega) (by omega) dX6_fill_265 rfl (q_lt hs (by decide)) ?_
                          exact K _ _)
                    · first
                      | (exfalso; omega)
                      |  (refine r_iload C rfl dX6_fill_250 ?_
                          refine t_ifb_ne C 260 (by decide) dX6_fill_252 (fun c252 => absurd c252 c218) (fun c252 => ?_)
                          refine r_iload C rfl dX6_fill_255 ?_
                          refine j_ifb C 264 (by decide) rfl dX6_fill_257 dX6_fill_260 dX6_fill_261 dX6_fill_264 ?_
                          refine r_zast C (i) (1) (by first | rfl | (rw [b1_t (by omega)]; rfl) | (rw [b1_f (by omega)]; rfl)) (by have t := hv; omega) (by omega) dX6_fill_265 rfl (q_lt hs (by decide)) ?_
                          exact K _ _))
              · first
                | (exfalso; omega)
                |  (refine r_iconstv C 2 rfl dX6_fill_230 ?_
                    refine r_goto C 235 (by decide) dX6_fill_231 ?_
                    refine r_iast C (i) (by have t := hv; omega) (by omega) dX6_fill_235 rfl (q_lt hs (by decide)) ?_
                    refine r_aload_n C rfl rfl dX6_fill_236 ?_
                    refine r_getO C dX6_fill_237 fl_X6_34 rfl rfl (q_lt hs (by decide)) (sh_12_10 hs) ?_
                    refine r_iload_n C rfl dX6_fill_240 ?_
                    refine r_aload_n C rfl rfl dX6_fill_241 ?_
                    refine r_getO C dX6_fill_242 fl_X6_34 rfl rfl (q_lt hs (by decide)) (sh_12_10 hs) ?_
                    refine r_iload_n C rfl dX6_fill_245 ?_
                    refine r_zald C (i) (by have t := hv; omega) (by omega) dX6_fill_246 rfl (q_lt hs (by decide)) ?_
                    refine t_if_ne C 260 (by decide) rfl dX6_fill_247 (fun c247 => ?_) (fun c247 => ?_)
                    · first
                      | (exfalso; omega)
                      |  (refine r_iconstv C 1 rfl dX6_fill_260 ?_
                          refine r_goto C 265 (by decide) dX6_fill_261 ?_
                          refine r_zast C (i) (1) (by first | rfl | (rw [b1_t (by omega)]; rfl) | (rw [b1_f (by omega)]; rfl)) (by have t := hv; omega) (by omega) dX6_fill_265 rfl (q_lt hs (by decide)) ?_
                          exact K _ _)
                    · first
                      | (exfalso; omega)
                      |  (refine r_iload C rfl dX6_fill_250 ?_
                          refine t_ifb_ne C 260 (by decide) dX6_fill_252 (fun c252 => absurd c252 c218) (fun c252 => ?_)
                          refine r_iload C rfl dX6_fill_255 ?_
                          refine j_ifb C 264 (by decide) rfl dX6_fill_257 dX6_fill_260 dX6_fill_261 dX6_fill_264 ?_
                          refine r_zast C (i) (1) (by first | rfl | (rw [b1_t (by omega)]; rfl) | (rw [b1_f (by omega)]; rfl)) (by have t := hv; omega) (by omega) dX6_fill_265 rfl (q_lt hs (by decide)) ?_
                          exact K _ _)))
        · first
          | (exfalso; omega)
          |  (refine r_iconstv C 1 rfl dX6_fill_221 ?_
              refine r_goto C 235 (by decide) dX6_fill_222 ?_
              refine r_iast C (i) (by have t := hv; omega) (by omega) dX6_fill_235 rfl (q_lt hs (by decide)) ?_
              refine r_aload_n C rfl rfl dX6_fill_236 ?_
              refine r_getO C dX6_fill_237 fl_X6_34 rfl rfl (q_lt hs (by decide)) (sh_12_10 hs) ?_
              refine r_iload_n C rfl dX6_fill_240 ?_
              refine r_aload_n C rfl rfl dX6_fill_241 ?_
              refine r_getO C dX6_fill_242 fl_X6_34 rfl rfl (q_lt hs (by decide)) (sh_12_10 hs) ?_
              refine r_iload_n C rfl dX6_fill_245 ?_
              refine r_zald C (i) (by have t := hv; omega) (by omega) dX6_fill_246 rfl (q_lt hs (by decide)) ?_
              refine t_if_ne C 260 (by decide) rfl dX6_fill_247 (fun c247 => ?_) (fun c247 => ?_)
              · first
                | (exfalso; omega)
                |  (refine r_iconstv C 1 rfl dX6_fill_260 ?_
                    refine r_goto C 265 (by decide) dX6_fill_261 ?_
                    refine r_zast C (i) (1) (by first | rfl | (rw [b1_t (by omega)]; rfl) | (rw [b1_f (by omega)]; rfl)) (by have t := hv; omega) (by omega) dX6_fill_265 rfl (q_lt hs (by decide)) ?_
                    exact K _ _)
              · first
                | (exfalso; omega)
                |  (refine r_iload C rfl dX6_fill_250 ?_
                    refine t_ifb_ne C 260 (by decide) dX6_fill_252 (fun c252 => ?_) (fun c252 => absurd c218 c252)
                    refine r_iconstv C 1 rfl dX6_fill_260 ?_
                    refine r_goto C 265 (by decide) dX6_fill_261 ?_
                    refine r_zast C (i) (1) (by first | rfl | (rw [b1_t (by omega)]; rfl) | (rw [b1_f (by omega)]; rfl)) (by have t := hv; omega) (by omega) dX6_fill_265 rfl (q_lt hs (by decide)) ?_
                    exact K _ _)))

set_option maxHeartbeats 4000000 in
set_option maxRecDepth 100000 in
theorem fm_w (G : oG) {p : Program} {l : Launch} {e : Env} {R : Room} {s : State} {m : MethodId} {args : Array Value} {below : List Frame} {meth : Method} {c : Code} {n0 nF : Nat} {Z : State → Prop} {h : oH} (hs : oSh h) {v q x : Int32} {i : Nat} (hv : v.toInt = (i : Int)) (hi : i < 24) (C : oC G mX6_fill n0 nF p l R s m args meth c) (hF : h.1 ≤ nF) (d : (q.toInt ≤ (hI h 22 i * hI h 16 (4 * i + 2) + hI h 23 i * hI h 16 (4 * i + 3)).toInt)) (du : ¬ ((q.toInt < (hI h 22 i * hI h 16 (4 * i) + hI h 23 i * hI h 16 (4 * i + 1)).toInt) ∧ (q.toInt < (hI h 15 i).toInt))) (dw : ¬ (hI (sI h 20 i 0) 21 i).toInt = 0) (K : ∀ x6 x7, oS G mX6_fill p l e R s m args below meth c Z n0 266 [some (.ref 12), some (.int v), some (.int q), some (.int x), some (.int (hI h 22 i)), some (.int (hI h 23 i)), x6, x7] [] (sI (sI h 20 i 0) 21 i 1)) : oS G mX6_fill p l e R s m args below meth c (Z) n0 111 [some (.ref 12), some (.int v), some (.int q), some (.int x), none, none, none, none] [] h := by
  refine r_aload_n C rfl rfl dX6_fill_111 ?_
  refine r_getO C dX6_fill_112 fl_X6_38 rfl rfl (q_lt hs (by decide)) (sh_12_11 hs) ?_
  refine r_iload_n C rfl dX6_fill_115 ?_
  refine r_iald C (i) (by have t := hv; omega) (by omega) dX6_fill_116 rfl (q_lt hs (by decide)) ?_
  refine r_istore C rfl (Nat.le_of_ble_eq_true rfl) dX6_fill_117 ?_
  refine r_aload_n C rfl rfl dX6_fill_119 ?_
  refine r_getO C dX6_fill_120 fl_X6_41 rfl rfl (q_lt hs (by decide)) (sh_12_12 hs) ?_
  refine r_iload_n C rfl dX6_fill_123 ?_
  refine r_iald C (i) (by have t := hv; omega) (by omega) dX6_fill_124 rfl (q_lt hs (by decide)) ?_
  refine r_istore C rfl (Nat.le_of_ble_eq_true rfl) dX6_fill_125 ?_
  refine r_iload_n C rfl dX6_fill_127 ?_
  refine r_iload C rfl dX6_fill_128 ?_
  refine r_aload_n C rfl rfl dX6_fill_130 ?_
  refine r_getO C dX6_fill_131 fl_X6_19 rfl rfl (q_lt hs (by decide)) (sh_12_5 hs) ?_
  refine r_iconstv C 4 rfl dX6_fill_134 ?_
  refine r_iload_n C rfl dX6_fill_135 ?_
  refine r_imul C dX6_fill_136 ?_
  refine r_iconstv C 2 rfl dX6_fill_137 ?_
  refine r_iadd C dX6_fill_138 ?_
  refine r_iald C (((4) * (i)) + (2)) (by have t := (tA (tM (show (4 : Int32).toInt = 4 from rfl) hv (by omega)) (show (2 : Int32).toInt = 2 from rfl) (by omega)); omega) (by omega) dX6_fill_139 rfl (q_lt hs (by decide)) ?_
  refine r_imul C dX6_fill_140 ?_
  refine r_iload C rfl dX6_fill_141 ?_
  refine r_aload_n C rfl rfl dX6_fill_143 ?_
  refine r_getO C dX6_fill_144 fl_X6_19 rfl rfl (q_lt hs (by decide)) (sh_12_5 hs) ?_
  refine r_iconstv C 4 rfl dX6_fill_147 ?_
  refine r_iload_n C rfl dX6_fill_148 ?_
  refine r_imul C dX6_fill_149 ?_
  refine r_iconstv C 3 rfl dX6_fill_150 ?_
  refine r_iadd C dX6_fill_151 ?_
  refine r_iald C (((4) * (i)) + (3)) (by have t := (tA (tM (show (4 : Int32).toInt = 4 from rfl) hv (by omega)) (show (3 : Int32).toInt = 3 from rfl) (by omega)); omega) (by omega) dX6_fill_152 rfl (q_lt hs (by decide)) ?_
  refine r_imul C dX6_fill_153 ?_
  refine r_iadd C dX6_fill_154 ?_
  refine j_icmp_le0 C 162 (by decide) rfl rfl rfl dX6_fill_155 dX6_fill_158 dX6_fill_159 dX6_fill_162 ?_
  refine r_istore C rfl (Nat.le_of_ble_eq_true rfl) dX6_fill_163 ?_
  refine r_iload_n C rfl dX6_fill_165 ?_
  refine r_iload C rfl dX6_fill_166 ?_
  refine r_aload_n C rfl rfl dX6_fill_168 ?_
  refine r_getO C dX6_fill_169 fl_X6_19 rfl rfl (q_lt hs (by decide)) (sh_12_5 hs) ?_
  refine r_iconstv C 4 rfl dX6_fill_172 ?_
  refine r_iload_n C rfl dX6_fill_173 ?_
  refine r_imul C dX6_fill_174 ?_
  refine r_iald C ((4) * (i)) (by have t := (tM (show (4 : Int32).toInt = 4 from rfl) hv (by omega)); omega) (by omega) dX6_fill_175 rfl (q_lt hs (by decide)) ?_
  refine r_imul C dX6_fill_176 ?_
  refine r_iload C rfl dX6_fill_177 ?_
  refine r_aload_n C rfl rfl dX6_fill_179 ?_
  refine r_getO C dX6_fill_180 fl_X6_19 rfl rfl (q_lt hs (by decide)) (sh_12_5 hs) ?_
  refine r_iconstv C 4 rfl dX6_fill_183 ?_
  refine r_iload_n C rfl dX6_fill_184 ?_
  refine r_imul C dX6_fill_185 ?_
  refine r_iconstv C 1 rfl dX6_fill_186 ?_
  refine r_iadd C dX6_fill_187 ?_
  refine r_iald C (((4) * (i)) + (1)) (by have t := (tA (tM (show (4 : Int32).toInt = 4 from rfl) hv (by omega)) (show (1 : Int32).toInt = 1 from rfl) (by omega)); omega) (by omega) dX6_fill_188 rfl (q_lt hs (by decide)) ?_
  refine r_imul C dX6_fill_189 ?_
  refine r_iadd C dX6_fill_190 ?_
  refine t_icmp_ge C 208 (by decide) rfl rfl dX6_fill_191 (fun c191 => ?_) (fun c191 => ?_)
  · first
    | (exfalso; omega)
    |  (refine r_iconstv C 0 rfl dX6_fill_208 ?_
        refine r_istore C rfl (Nat.le_of_ble_eq_true rfl) dX6_fill_209 ?_
        refine r_aload_n C rfl rfl dX6_fill_211 ?_
        refine r_getO C dX6_fill_212 fl_X6_31 rfl rfl (q_lt hs (by decide)) (sh_12_9 hs) ?_
        refine r_iload_n C rfl dX6_fill_215 ?_
        refine r_iload C rfl dX6_fill_216 ?_
        refine t_ifb_eq C 225 (by decide) dX6_fill_218 (fun c218 => ?_) (fun c218 => ?_)
        · first
          | (exfalso; omega)
          |  (refine r_iload C rfl dX6_fill_225 ?_
              refine t_if_eq C 234 (by decide) (show (0 : Int32).toInt = 0 from rfl) dX6_fill_227 (fun c227 => ?_) (fun c227 => absurd c227 (by decide))
              refine r_iconstv C 0 rfl dX6_fill_234 ?_
              refine r_iast C (i) (by have t := hv; omega) (by omega) dX6_fill_235 rfl (q_lt hs (by decide)) ?_
              refine r_aload_n C rfl rfl dX6_fill_236 ?_
              refine r_getO C dX6_fill_237 fl_X6_34 rfl rfl (q_lt hs (by decide)) (sh_12_10 hs) ?_
              refine r_iload_n C rfl dX6_fill_240 ?_
              refine r_aload_n C rfl rfl dX6_fill_241 ?_
              refine r_getO C dX6_fill_242 fl_X6_34 rfl rfl (q_lt hs (by decide)) (sh_12_10 hs) ?_
              refine r_iload_n C rfl dX6_fill_245 ?_
              refine r_zald C (i) (by have t := hv; omega) (by omega) dX6_fill_246 rfl (q_lt hs (by decide)) ?_
              refine t_if_ne C 260 (by decide) rfl dX6_fill_247 (fun c247 => ?_) (fun c247 => ?_)
              · first
                | (exfalso; omega)
                |  (refine r_iconstv C 1 rfl dX6_fill_260 ?_
                    refine r_goto C 265 (by decide) dX6_fill_261 ?_
                    refine r_zast C (i) (1) (by first | rfl | (rw [b1_t (by omega)]; rfl) | (rw [b1_f (by omega)]; rfl)) (by have t := hv; omega) (by omega) dX6_fill_265 rfl (q_lt hs (by decide)) ?_
                    exact K _ _)
              · first
                | (exfalso; omega)
                |  (refine r_iload C rfl dX6_fill_250 ?_
                    refine t_ifb_ne C 260 (by decide) dX6_fill_252 (fun c252 => absurd c252 c218) (fun c252 => ?_)
                    refine r_iload C rfl dX6_fill_255 ?_
                    refine j_if_eq0 C 264 (by decide) rfl (show (0 : Int32).toInt = 0 from rfl) dX6_fill_257 dX6_fill_260 dX6_fill_261 dX6_fill_264 ?_
                    refine r_zast C (i) (1) (by first | rfl | (rw [b1_t (by omega)]; rfl) | (rw [b1_f (by omega)]; rfl)) (by have t := hv; omega) (by omega) dX6_fill_265 rfl (q_lt hs (by decide)) ?_
                    exact K _ _))
        · first
          | (exfalso; omega)
          |  (refine r_iconstv C 1 rfl dX6_fill_221 ?_
              refine r_goto C 235 (by decide) dX6_fill_222 ?_
              refine r_iast C (i) (by have t := hv; omega) (by omega) dX6_fill_235 rfl (q_lt hs (by decide)) ?_
              refine r_aload_n C rfl rfl dX6_fill_236 ?_
              refine r_getO C dX6_fill_237 fl_X6_34 rfl rfl (q_lt hs (by decide)) (sh_12_10 hs) ?_
              refine r_iload_n C rfl dX6_fill_240 ?_
              refine r_aload_n C rfl rfl dX6_fill_241 ?_
              refine r_getO C dX6_fill_242 fl_X6_34 rfl rfl (q_lt hs (by decide)) (sh_12_10 hs) ?_
              refine r_iload_n C rfl dX6_fill_245 ?_
              refine r_zald C (i) (by have t := hv; omega) (by omega) dX6_fill_246 rfl (q_lt hs (by decide)) ?_
              refine t_if_ne C 260 (by decide) rfl dX6_fill_247 (fun c247 => ?_) (fun c247 => ?_)
              · first
                | (exfalso; omega)
                |  (refine r_iconstv C 1 rfl dX6_fill_260 ?_
                    refine r_goto C 265 (by decide) dX6_fill_261 ?_
                    refine r_zast C (i) (1) (by first | rfl | (rw [b1_t (by omega)]; rfl) | (rw [b1_f (by omega)]; rfl)) (by have t := hv; omega) (by omega) dX6_fill_265 rfl (q_lt hs (by decide)) ?_
                    exact K _ _)
              · first
                | (exfalso; omega)
                |  (refine r_iload C rfl dX6_fill_250 ?_
                    refine t_ifb_ne C 260 (by decide) dX6_fill_252 (fun c252 => ?_) (fun c252 => absurd c218 c252)
                    refine r_iconstv C 1 rfl dX6_fill_260 ?_
                    refine r_goto C 265 (by decide) dX6_fill_261 ?_
                    refine r_zast C (i) (1) (by first | rfl | (rw [b1_t (by omega)]; rfl) | (rw [b1_f (by omega)]; rfl)) (by have t := hv; omega) (by omega) dX6_fill_265 rfl (q_lt hs (by decide)) ?_
                    exact K _ _)))
  · first
    | (exfalso; omega)
    |  (refine r_iload_n C rfl dX6_fill_194 ?_
        refine r_aload_n C rfl rfl dX6_fill_195 ?_
        refine r_getO C dX6_fill_196 fl_X6_16 rfl rfl (q_lt hs (by decide)) (sh_12_4 hs) ?_
        refine r_iload_n C rfl dX6_fill_199 ?_
        refine r_iald C (i) (by have t := hv; omega) (by omega) dX6_fill_200 rfl (q_lt hs (by decide)) ?_
        refine j_icmp_ge0 C 208 (by decide) rfl rfl rfl dX6_fill_201 dX6_fill_204 dX6_fill_205 dX6_fill_208 ?_
        refine r_istore C rfl (Nat.le_of_ble_eq_true rfl) dX6_fill_209 ?_
        refine r_aload_n C rfl rfl dX6_fill_211 ?_
        refine r_getO C dX6_fill_212 fl_X6_31 rfl rfl (q_lt hs (by decide)) (sh_12_9 hs) ?_
        refine r_iload_n C rfl dX6_fill_215 ?_
        refine r_iload C rfl dX6_fill_216 ?_
        refine t_ifb_eq C 225 (by decide) dX6_fill_218 (fun c218 => ?_) (fun c218 => ?_)
        · first
          | (exfalso; omega)
          |  (refine r_iload C rfl dX6_fill_225 ?_
              refine t_ifb_eq C 234 (by decide) dX6_fill_227 (fun c227 => ?_) (fun c227 => ?_)
              · first
                | (exfalso; omega)
                |  (refine r_iconstv C 0 rfl dX6_fill_234 ?_
                    refine r_iast C (i) (by have t := hv; omega) (by omega) dX6_fill_235 rfl (q_lt hs (by decide)) ?_
                    refine r_aload_n C rfl rfl dX6_fill_236 ?_
                    refine r_getO C dX6_fill_237 fl_X6_34 rfl rfl (q_lt hs (by decide)) (sh_12_10 hs) ?_
                    refine r_iload_n C rfl dX6_fill_240 ?_
                    refine r_aload_n C rfl rfl dX6_fill_241 ?_
                    refine r_getO C dX6_fill_242 fl_X6_34 rfl rfl (q_lt hs (by decide)) (sh_12_10 hs) ?_
                    refine r_iload_n C rfl dX6_fill_245 ?_
                    refine r_zald C (i) (by have t := hv; omega) (by omega) dX6_fill_246 rfl (q_lt hs (by decide)) ?_
                    refine t_if_ne C 260 (by decide) rfl dX6_fill_247 (fun c247 => ?_) (fun c247 => ?_)
                    · first
                      | (exfalso; omega)
                      |  (refine r_iconstv C 1 rfl dX6_fill_260 ?_
                          refine r_goto C 265 (by decide) dX6_fill_261 ?_
                          refine r_zast C (i) (1) (by first | rfl | (rw [b1_t (by omega)]; rfl) | (rw [b1_f (by omega)]; rfl)) (by have t := hv; omega) (by omega) dX6_fill_265 rfl (q_lt hs (by decide)) ?_
                          exact K _ _)
                    · first
                      | (exfalso; omega)
                      |  (refine r_iload C rfl dX6_fill_250 ?_
                          refine t_ifb_ne C 260 (by decide) dX6_fill_252 (fun c252 => absurd c252 c218) (fun c252 => ?_)
                          refine r_iload C rfl dX6_fill_255 ?_
                          refine j_ifb C 264 (by decide) rfl dX6_fill_257 dX6_fill_260 dX6_fill_261 dX6_fill_264 ?_
                          refine r_zast C (i) (1) (by first | rfl | (rw [b1_t (by omega)]; rfl) | (rw [b1_f (by omega)]; rfl)) (by have t := hv; omega) (by omega) dX6_fill_265 rfl (q_lt hs (by decide)) ?_
                          exact K _ _))
              · first
                | (exfalso; omega)
                |  (refine r_iconstv C 2 rfl dX6_fill_230 ?_
                    refine r_goto C 235 (by decide) dX6_fill_231 ?_
                    refine r_iast C (i) (by have t := hv; omega) (by omega) dX6_fill_235 rfl (q_lt hs (by decide)) ?_
                    refine r_aload_n C rfl rfl dX6_fill_236 ?_
                    refine r_getO C dX6_fill_237 fl_X6_34 rfl rfl (q_lt hs (by decide)) (sh_12_10 hs) ?_
                    refine r_iload_n C rfl dX6_fill_240 ?_
                    refine r_aload_n C rfl rfl dX6_fill_241 ?_
                    refine r_getO C dX6_fill_242 fl_X6_34 rfl rfl (q_lt hs (by decide)) (sh_12_10 hs) ?_
                    refine r_iload_n C rfl dX6_fill_245 ?_
                    refine r_zald C (i) (by have t := hv; omega) (by omega) dX6_fill_246 rfl (q_lt hs (by decide)) ?_
                    refine t_if_ne C 260 (by decide) rfl dX6_fill_247 (fun c247 => ?_) (fun c247 => ?_)
                    · first
                      | (exfalso; omega)
                      |  (refine r_iconstv C 1 rfl dX6_fill_260 ?_
                          refine r_goto C 265 (by decide) dX6_fill_261 ?_
                          refine r_zast C (i) (1) (by first | rfl | (rw [b1_t (by omega)]; rfl) | (rw [b1_f (by omega)]; rfl)) (by have t := hv; omega) (by omega) dX6_fill_265 rfl (q_lt hs (by decide)) ?_
                          exact K _ _)
                    · first
                      | (exfalso; omega)
                      |  (refine r_iload C rfl dX6_fill_250 ?_
                          refine t_ifb_ne C 260 (by decide) dX6_fill_252 (fun c252 => absurd c252 c218) (fun c252 => ?_)
                          refine r_iload C rfl dX6_fill_255 ?_
                          refine j_ifb C 264 (by decide) rfl dX6_fill_257 dX6_fill_260 dX6_fill_261 dX6_fill_264 ?_
                          refine r_zast C (i) (1) (by first | rfl | (rw [b1_t (by omega)]; rfl) | (rw [b1_f (by omega)]; rfl)) (by have t := hv; omega) (by omega) dX6_fill_265 rfl (q_lt hs (by decide)) ?_
                          exact K _ _)))
        · first
          | (exfalso; omega)
          |  (refine r_iconstv C 1 rfl dX6_fill_221 ?_
              refine r_goto C 235 (by decide) dX6_fill_222 ?_
              refine r_iast C (i) (by have t := hv; omega) (by omega) dX6_fill_235 rfl (q_lt hs (by decide)) ?_
              refine r_aload_n C rfl rfl dX6_fill_236 ?_
              refine r_getO C dX6_fill_237 fl_X6_34 rfl rfl (q_lt hs (by decide)) (sh_12_10 hs) ?_
              refine r_iload_n C rfl dX6_fill_240 ?_
              refine r_aload_n C rfl rfl dX6_fill_241 ?_
              refine r_getO C dX6_fill_242 fl_X6_34 rfl rfl (q_lt hs (by decide)) (sh_12_10 hs) ?_
              refine r_iload_n C rfl dX6_fill_245 ?_
              refine r_zald C (i) (by have t := hv; omega) (by omega) dX6_fill_246 rfl (q_lt hs (by decide)) ?_
              refine t_if_ne C 260 (by decide) rfl dX6_fill_247 (fun c247 => ?_) (fun c247 => ?_)
              · first
                | (exfalso; omega)
                |  (refine r_iconstv C 1 rfl dX6_fill_260 ?_
                    refine r_goto C 265 (by decide) dX6_fill_261 ?_
                    refine r_zast C (i) (1) (by first | rfl | (rw [b1_t (by omega)]; rfl) | (rw [b1_f (by omega)]; rfl)) (by have t := hv; omega) (by omega) dX6_fill_265 rfl (q_lt hs (by decide)) ?_
                    exact K _ _)
              · first
                | (exfalso; omega)
                |  (refine r_iload C rfl dX6_fill_250 ?_
                    refine t_ifb_ne C 260 (by decide) dX6_fill_252 (fun c252 => ?_) (fun c252 => absurd c218 c252)
                    refine r_iconstv C 1 rfl dX6_fill_260 ?_
                    refine r_goto C 265 (by decide) dX6_fill_261 ?_
                    refine r_zast C (i) (1) (by first | rfl | (rw [b1_t (by omega)]; rfl) | (rw [b1_f (by omega)]; rfl)) (by have t := hv; omega) (by omega) dX6_fill_265 rfl (q_lt hs (by decide)) ?_
                    exact K _ _)))

set_option maxHeartbeats 4000000 in
set_option maxRecDepth 100000 in
theorem fm_n (G : oG) {p : Program} {l : Launch} {e : Env} {R : Room} {s : State} {m : MethodId} {args : Array Value} {below : List Frame} {meth : Method} {c : Code} {n0 nF : Nat} {Z : State → Prop} {h : oH} (hs : oSh h) {v q x : Int32} {i : Nat} (hv : v.toInt = (i : Int)) (hi : i < 24) (C : oC G mX6_fill n0 nF p l R s m args meth c) (hF : h.1 ≤ nF) (d : (q.toInt ≤ (hI h 22 i * hI h 16 (4 * i + 2) + hI h 23 i * hI h 16 (4 * i + 3)).toInt)) (du : ¬ ((q.toInt < (hI h 22 i * hI h 16 (4 * i) + hI h 23 i * hI h 16 (4 * i + 1)).toInt) ∧ (q.toInt < (hI h 15 i).toInt))) (dw : (hI (sI h 20 i 0) 21 i).toInt = 0) (K : ∀ x6 x7, oS G mX6_fill p l e R s m args below meth c Z n0 266 [some (.ref 12), some (.int v), some (.int q), some (.int x), some (.int (hI h 22 i)), some (.int (hI h 23 i)), x6, x7] [] (sI (sI h 20 i 0) 21 i 0)) : oS G mX6_fill p l e R s m args below meth c (Z) n0 111 [some (.ref 12), some (.int v), some (.int q), some (.int x), none, none, none, none] [] h := by
  refine r_aload_n C rfl rfl dX6_fill_111 ?_
  refine r_getO C dX6_fill_112 fl_X6_38 rfl rfl (q_lt hs (by decide)) (sh_12_11 hs) ?_
  refine r_iload_n C rfl dX6_fill_115 ?_
  refine r_iald C (i) (by have t := hv; omega) (by omega) dX6_fill_116 rfl (q_lt hs (by decide)) ?_
  refine r_istore C rfl (Nat.le_of_ble_eq_true rfl) dX6_fill_117 ?_
  refine r_aload_n C rfl rfl dX6_fill_119 ?_
  refine r_getO C dX6_fill_120 fl_X6_41 rfl rfl (q_lt hs (by decide)) (sh_12_12 hs) ?_
  refine r_iload_n C rfl dX6_fill_123 ?_
  refine r_iald C (i) (by have t := hv; omega) (by omega) dX6_fill_124 rfl (q_lt hs (by decide)) ?_
  refine r_istore C rfl (Nat.le_of_ble_eq_true rfl) dX6_fill_125 ?_
  refine r_iload_n C rfl dX6_fill_127 ?_
  refine r_iload C rfl dX6_fill_128 ?_
  refine r_aload_n C rfl rfl dX6_fill_130 ?_
  refine r_getO C dX6_fill_131 fl_X6_19 rfl rfl (q_lt hs (by decide)) (sh_12_5 hs) ?_
  refine r_iconstv C 4 rfl dX6_fill_134 ?_
  refine r_iload_n C rfl dX6_fill_135 ?_
  refine r_imul C dX6_fill_136 ?_
  refine r_iconstv C 2 rfl dX6_fill_137 ?_
  refine r_iadd C dX6_fill_138 ?_
  refine r_iald C (((4) * (i)) + (2)) (by have t := (tA (tM (show (4 : Int32).toInt = 4 from rfl) hv (by omega)) (show (2 : Int32).toInt = 2 from rfl) (by omega)); omega) (by omega) dX6_fill_139 rfl (q_lt hs (by decide)) ?_
  refine r_imul C dX6_fill_140 ?_
  refine r_iload C rfl dX6_fill_141 ?_
  refine r_aload_n C rfl rfl dX6_fill_143 ?_
  refine r_getO C dX6_fill_144 fl_X6_19 rfl rfl (q_lt hs (by decide)) (sh_12_5 hs) ?_
  refine r_iconstv C 4 rfl dX6_fill_147 ?_
  refine r_iload_n C rfl dX6_fill_148 ?_
  refine r_imul C dX6_fill_149 ?_
  refine r_iconstv C 3 rfl dX6_fill_150 ?_
  refine r_iadd C dX6_fill_151 ?_
  refine r_iald C (((4) * (i)) + (3)) (by have t := (tA (tM (show (4 : Int32).toInt = 4 from rfl) hv (by omega)) (show (3 : Int32).toInt = 3 from rfl) (by omega)); omega) (by omega) dX6_fill_152 rfl (q_lt hs (by decide)) ?_
  refine r_imul C dX6_fill_153 ?_
  refine r_iadd C dX6_fill_154 ?_
  refine j_icmp_le0 C 162 (by decide) rfl rfl rfl dX6_fill_155 dX6_fill_158 dX6_fill_159 dX6_fill_162 ?_
  refine r_istore C rfl (Nat.le_of_ble_eq_true rfl) dX6_fill_163 ?_
  refine r_iload_n C rfl dX6_fill_165 ?_
  refine r_iload C rfl dX6_fill_166 ?_
  refine r_aload_n C rfl rfl dX6_fill_168 ?_
  refine r_getO C dX6_fill_169 fl_X6_19 rfl rfl (q_lt hs (by decide)) (sh_12_5 hs) ?_
  refine r_iconstv C 4 rfl dX6_fill_172 ?_
  refine r_iload_n C rfl dX6_fill_173 ?_
  refine r_imul C dX6_fill_174 ?_
  refine r_iald C ((4) * (i)) (by have t := (tM (show (4 : Int32).toInt = 4 from rfl) hv (by omega)); omega) (by omega) dX6_fill_175 rfl (q_lt hs (by decide)) ?_
  refine r_imul C dX6_fill_176 ?_
  refine r_iload C rfl dX6_fill_177 ?_
  refine r_aload_n C rfl rfl dX6_fill_179 ?_
  refine r_getO C dX6_fill_180 fl_X6_19 rfl rfl (q_lt hs (by decide)) (sh_12_5 hs) ?_
  refine r_iconstv C 4 rfl dX6_fill_183 ?_
  refine r_iload_n C rfl dX6_fill_184 ?_
  refine r_imul C dX6_fill_185 ?_
  refine r_iconstv C 1 rfl dX6_fill_186 ?_
  refine r_iadd C dX6_fill_187 ?_
  refine r_iald C (((4) * (i)) + (1)) (by have t := (tA (tM (show (4 : Int32).toInt = 4 from rfl) hv (by omega)) (show (1 : Int32).toInt = 1 from rfl) (by omega)); omega) (by omega) dX6_fill_188 rfl (q_lt hs (by decide)) ?_
  refine r_imul C dX6_fill_189 ?_
  refine r_iadd C dX6_fill_190 ?_
  refine t_icmp_ge C 208 (by decide) rfl rfl dX6_fill_191 (fun c191 => ?_) (fun c191 => ?_)
  · first
    | (exfalso; omega)
    |  (refine r_iconstv C 0 rfl dX6_fill_208 ?_
        refine r_istore C rfl (Nat.le_of_ble_eq_true rfl) dX6_fill_209 ?_
        refine r_aload_n C rfl rfl dX6_fill_211 ?_
        refine r_getO C dX6_fill_212 fl_X6_31 rfl rfl (q_lt hs (by decide)) (sh_12_9 hs) ?_
        refine r_iload_n C rfl dX6_fill_215 ?_
        refine r_iload C rfl dX6_fill_216 ?_
        refine t_ifb_eq C 225 (by decide) dX6_fill_218 (fun c218 => ?_) (fun c218 => ?_)
        · first
          | (exfalso; omega)
          |  (refine r_iload C rfl dX6_fill_225 ?_
              refine t_if_eq C 234 (by decide) (show (0 : Int32).toInt = 0 from rfl) dX6_fill_227 (fun c227 => ?_) (fun c227 => absurd c227 (by decide))
              refine r_iconstv C 0 rfl dX6_fill_234 ?_
              refine r_iast C (i) (by have t := hv; omega) (by omega) dX6_fill_235 rfl (q_lt hs (by decide)) ?_
              refine r_aload_n C rfl rfl dX6_fill_236 ?_
              refine r_getO C dX6_fill_237 fl_X6_34 rfl rfl (q_lt hs (by decide)) (sh_12_10 hs) ?_
              refine r_iload_n C rfl dX6_fill_240 ?_
              refine r_aload_n C rfl rfl dX6_fill_241 ?_
              refine r_getO C dX6_fill_242 fl_X6_34 rfl rfl (q_lt hs (by decide)) (sh_12_10 hs) ?_
              refine r_iload_n C rfl dX6_fill_245 ?_
              refine r_zald C (i) (by have t := hv; omega) (by omega) dX6_fill_246 rfl (q_lt hs (by decide)) ?_
              refine t_if_ne C 260 (by decide) rfl dX6_fill_247 (fun c247 => ?_) (fun c247 => ?_)
              · first
                | (exfalso; omega)
                |  (refine r_iconstv C 1 rfl dX6_fill_260 ?_
                    refine r_goto C 265 (by decide) dX6_fill_261 ?_
                    refine r_zast C (i) (0) (by first | rfl | (rw [b1_t (by omega)]; rfl) | (rw [b1_f (by omega)]; rfl)) (by have t := hv; omega) (by omega) dX6_fill_265 rfl (q_lt hs (by decide)) ?_
                    exact K _ _)
              · first
                | (exfalso; omega)
                |  (refine r_iload C rfl dX6_fill_250 ?_
                    refine t_ifb_ne C 260 (by decide) dX6_fill_252 (fun c252 => absurd c252 c218) (fun c252 => ?_)
                    refine r_iload C rfl dX6_fill_255 ?_
                    refine j_if_eq0 C 264 (by decide) rfl (show (0 : Int32).toInt = 0 from rfl) dX6_fill_257 dX6_fill_260 dX6_fill_261 dX6_fill_264 ?_
                    refine r_zast C (i) (0) (by first | rfl | (rw [b1_t (by omega)]; rfl) | (rw [b1_f (by omega)]; rfl)) (by have t := hv; omega) (by omega) dX6_fill_265 rfl (q_lt hs (by decide)) ?_
                    exact K _ _))
        · first
          | (exfalso; omega)
          |  (refine r_iconstv C 1 rfl dX6_fill_221 ?_
              refine r_goto C 235 (by decide) dX6_fill_222 ?_
              refine r_iast C (i) (by have t := hv; omega) (by omega) dX6_fill_235 rfl (q_lt hs (by decide)) ?_
              refine r_aload_n C rfl rfl dX6_fill_236 ?_
              refine r_getO C dX6_fill_237 fl_X6_34 rfl rfl (q_lt hs (by decide)) (sh_12_10 hs) ?_
              refine r_iload_n C rfl dX6_fill_240 ?_
              refine r_aload_n C rfl rfl dX6_fill_241 ?_
              refine r_getO C dX6_fill_242 fl_X6_34 rfl rfl (q_lt hs (by decide)) (sh_12_10 hs) ?_
              refine r_iload_n C rfl dX6_fill_245 ?_
              refine r_zald C (i) (by have t := hv; omega) (by omega) dX6_fill_246 rfl (q_lt hs (by decide)) ?_
              refine t_if_ne C 260 (by decide) rfl dX6_fill_247 (fun c247 => ?_) (fun c247 => ?_)
              · first
                | (exfalso; omega)
                |  (refine r_iconstv C 1 rfl dX6_fill_260 ?_
                    refine r_goto C 265 (by decide) dX6_fill_261 ?_
                    refine r_zast C (i) (0) (by first | rfl | (rw [b1_t (by omega)]; rfl) | (rw [b1_f (by omega)]; rfl)) (by have t := hv; omega) (by omega) dX6_fill_265 rfl (q_lt hs (by decide)) ?_
                    exact K _ _)
              · first
                | (exfalso; omega)
                |  (refine r_iload C rfl dX6_fill_250 ?_
                    refine t_ifb_ne C 260 (by decide) dX6_fill_252 (fun c252 => ?_) (fun c252 => absurd c218 c252)
                    refine r_iconstv C 1 rfl dX6_fill_260 ?_
                    refine r_goto C 265 (by decide) dX6_fill_261 ?_
                    refine r_zast C (i) (0) (by first | rfl | (rw [b1_t (by omega)]; rfl) | (rw [b1_f (by omega)]; rfl)) (by have t := hv; omega) (by omega) dX6_fill_265 rfl (q_lt hs (by decide)) ?_
                    exact K _ _)))
  · first
    | (exfalso; omega)
    |  (refine r_iload_n C rfl dX6_fill_194 ?_
        refine r_aload_n C rfl rfl dX6_fill_195 ?_
        refine r_getO C dX6_fill_196 fl_X6_16 rfl rfl (q_lt hs (by decide)) (sh_12_4 hs) ?_
        refine r_iload_n C rfl dX6_fill_199 ?_
        refine r_iald C (i) (by have t := hv; omega) (by omega) dX6_fill_200 rfl (q_lt hs (by decide)) ?_
        refine j_icmp_ge0 C 208 (by decide) rfl rfl rfl dX6_fill_201 dX6_fill_204 dX6_fill_205 dX6_fill_208 ?_
        refine r_istore C rfl (Nat.le_of_ble_eq_true rfl) dX6_fill_209 ?_
        refine r_aload_n C rfl rfl dX6_fill_211 ?_
        refine r_getO C dX6_fill_212 fl_X6_31 rfl rfl (q_lt hs (by decide)) (sh_12_9 hs) ?_
        refine r_iload_n C rfl dX6_fill_215 ?_
        refine r_iload C rfl dX6_fill_216 ?_
        refine t_ifb_eq C 225 (by decide) dX6_fill_218 (fun c218 => ?_) (fun c218 => ?_)
        · first
          | (exfalso; omega)
          |  (refine r_iload C rfl dX6_fill_225 ?_
              refine t_ifb_eq C 234 (by decide) dX6_fill_227 (fun c227 => ?_) (fun c227 => ?_)
              · first
                | (exfalso; omega)
                |  (refine r_iconstv C 0 rfl dX6_fill_234 ?_
                    refine r_iast C (i) (by have t := hv; omega) (by omega) dX6_fill_235 rfl (q_lt hs (by decide)) ?_
                    refine r_aload_n C rfl rfl dX6_fill_236 ?_
                    refine r_getO C dX6_fill_237 fl_X6_34 rfl rfl (q_lt hs (by decide)) (sh_12_10 hs) ?_
                    refine r_iload_n C rfl dX6_fill_240 ?_
                    refine r_aload_n C rfl rfl dX6_fill_241 ?_
                    refine r_getO C dX6_fill_242 fl_X6_34 rfl rfl (q_lt hs (by decide)) (sh_12_10 hs) ?_
                    refine r_iload_n C rfl dX6_fill_245 ?_
                    refine r_zald C (i) (by have t := hv; omega) (by omega) dX6_fill_246 rfl (q_lt hs (by decide)) ?_
                    refine t_if_ne C 260 (by decide) rfl dX6_fill_247 (fun c247 => ?_) (fun c247 => ?_)
                    · first
                      | (exfalso; omega)
                      |  (refine r_iconstv C 1 rfl dX6_fill_260 ?_
                          refine r_goto C 265 (by decide) dX6_fill_261 ?_
                          refine r_zast C (i) (0) (by first | rfl | (rw [b1_t (by omega)]; rfl) | (rw [b1_f (by omega)]; rfl)) (by have t := hv; omega) (by omega) dX6_fill_265 rfl (q_lt hs (by decide)) ?_
                          exact K _ _)
                    · first
                      | (exfalso; omega)
                      |  (refine r_iload C rfl dX6_fill_250 ?_
                          refine t_ifb_ne C 260 (by decide) dX6_fill_252 (fun c252 => absurd c252 c218) (fun c252 => ?_)
                          refine r_iload C rfl dX6_fill_255 ?_
                          refine j_ifb C 264 (by decide) rfl dX6_fill_257 dX6_fill_260 dX6_fill_261 dX6_fill_264 ?_
                          refine r_zast C (i) (0) (by first | rfl | (rw [b1_t (by omega)]; rfl) | (rw [b1_f (by omega)]; rfl)) (by have t := hv; omega) (by omega) dX6_fill_265 rfl (q_lt hs (by decide)) ?_
                          exact K _ _))
              · first
                | (exfalso; omega)
                |  (refine r_iconstv C 2 rfl dX6_fill_230 ?_
                    refine r_goto C 235 (by decide) dX6_fill_231 ?_
                    refine r_iast C (i) (by have t := hv; omega) (by omega) dX6_fill_235 rfl (q_lt hs (by decide)) ?_
                    refine r_aload_n C rfl rfl dX6_fill_236 ?_
                    refine r_getO C dX6_fill_237 fl_X6_34 rfl rfl (q_lt hs (by decide)) (sh_12_10 hs) ?_
                    refine r_iload_n C rfl dX6_fill_240 ?_
                    refine r_aload_n C rfl rfl dX6_fill_241 ?_
                    refine r_getO C dX6_fill_242 fl_X6_34 rfl rfl (q_lt hs (by decide)) (sh_12_10 hs) ?_
                    refine r_iload_n C rfl dX6_fill_245 ?_
                    refine r_zald C (i) (by have t := hv; omega) (by omega) dX6_fill_246 rfl (q_lt hs (by decide)) ?_
                    refine t_if_ne C 260 (by decide) rfl dX6_fill_247 (fun c247 => ?_) (fun c247 => ?_)
                    · first
                      | (exfalso; omega)
                      |  (refine r_iconstv C 1 rfl dX6_fill_260 ?_
                          refine r_goto C 265 (by decide) dX6_fill_261 ?_
                          refine r_zast C (i) (0) (by first | rfl | (rw [b1_t (by omega)]; rfl) | (rw [b1_f (by omega)]; rfl)) (by have t := hv; omega) (by omega) dX6_fill_265 rfl (q_lt hs (by decide)) ?_
                          exact K _ _)
                    · first
                      | (exfalso; omega)
                      |  (refine r_iload C rfl dX6_fill_250 ?_
                          refine t_ifb_ne C 260 (by decide) dX6_fill_252 (fun c252 => absurd c252 c218) (fun c252 => ?_)
                          refine r_iload C rfl dX6_fill_255 ?_
                          refine j_ifb C 264 (by decide) rfl dX6_fill_257 dX6_fill_260 dX6_fill_261 dX6_fill_264 ?_
                          refine r_zast C (i) (0) (by first | rfl | (rw [b1_t (by omega)]; rfl) | (rw [b1_f (by omega)]; rfl)) (by have t := hv; omega) (by omega) dX6_fill_265 rfl (q_lt hs (by decide)) ?_
                          exact K _ _)))
        · first
          | (exfalso; omega)
          |  (refine r_iconstv C 1 rfl dX6_fill_221 ?_
              refine r_goto C 235 (by decide) dX6_fill_222 ?_
              refine r_iast C (i) (by have t := hv; omega) (by omega) dX6_fill_235 rfl (q_lt hs (by decide)) ?_
              refine r_aload_n C rfl rfl dX6_fill_236 ?_
              refine r_getO C dX6_fill_237 fl_X6_34 rfl rfl (q_lt hs (by decide)) (sh_12_10 hs) ?_
              refine r_iload_n C rfl dX6_fill_240 ?_
              refine r_aload_n C rfl rfl dX6_fill_241 ?_
              refine r_getO C dX6_fill_242 fl_X6_34 rfl rfl (q_lt hs (by decide)) (sh_12_10 hs) ?_
              refine r_iload_n C rfl dX6_fill_245 ?_
              refine r_zald C (i) (by have t := hv; omega) (by omega) dX6_fill_246 rfl (q_lt hs (by decide)) ?_
              refine t_if_ne C 260 (by decide) rfl dX6_fill_247 (fun c247 => ?_) (fun c247 => ?_)
              · first
                | (exfalso; omega)
                |  (refine r_iconstv C 1 rfl dX6_fill_260 ?_
                    refine r_goto C 265 (by decide) dX6_fill_261 ?_
                    refine r_zast C (i) (0) (by first | rfl | (rw [b1_t (by omega)]; rfl) | (rw [b1_f (by omega)]; rfl)) (by have t := hv; omega) (by omega) dX6_fill_265 rfl (q_lt hs (by decide)) ?_
                    exact K _ _)
              · first
                | (exfalso; omega)
                |  (refine r_iload C rfl dX6_fill_250 ?_
                    refine t_ifb_ne C 260 (by decide) dX6_fill_252 (fun c252 => ?_) (fun c252 => absurd c218 c252)
                    refine r_iconstv C 1 rfl dX6_fill_260 ?_
                    refine r_goto C 265 (by decide) dX6_fill_261 ?_
                    refine r_zast C (i) (0) (by first | rfl | (rw [b1_t (by omega)]; rfl) | (rw [b1_f (by omega)]; rfl)) (by have t := hv; omega) (by omega) dX6_fill_265 rfl (q_lt hs (by decide)) ?_
                    exact K _ _)))

