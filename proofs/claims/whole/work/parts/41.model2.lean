theorem g_X11_said {s : Int → Int → Int} {Q : Option jV → (Int → Int → Int) → Prop} {v1 v2 v3 : Int} (v : (jr32 v1 ∧ (0 ≤ s 146 1 ∧ s 146 1 ≤ 1000) ∧ ((¬ (0 ≤ v1 ∧ v1 ≤ s 146 1 - 1) → Q (some (jI (-2))) s) ∧ (0 ≤ v1 ∧ v1 ≤ s 146 1 - 1 → (jr32 v2 ∧ (0 ≤ s 146 2 ∧ s 146 2 ≤ 1000) ∧ ((¬ (0 ≤ v2 ∧ v2 ≤ s 146 2 - 1) → Q (some (jI (-2))) s) ∧ (0 ≤ v2 ∧ v2 ≤ s 146 2 - 1 → (jr32 v3 ∧ ((¬ (0 ≤ v3 ∧ v3 ≤ s 146 2 - 1) → Q (some (jI (-2))) s) ∧ (0 ≤ v3 ∧ v3 ≤ s 146 2 - 1 → ((v2 ≠ v3 → (jr32 (s 146 4) ∧ (((s 146 4) ≠ 40 → ((0 ≤ (s 146 4) ∧ (s 146 4) < 40) ∧ Q (some (jI ((s 146 4) + 1))) (w2 (w2 (w2 (w2 s 159 (s 146 4) v1) 160 (s 146 4) v2) 161 (s 146 4) v3) 146 4 ((s 146 4) + 1)))) ∧ ((s 146 4) = 40 → Q (some (jI (-4))) s)))) ∧ (v2 = v3 → Q (some (jI (-2))) s)))))))))))) : kR mX11_said [jR 143, jI v1, jI v2, jI v3] s Q := by
  show kK mX11_said 0 [jR 143, jI v1, jI v2, jI v3] [] s Q
  obtain ⟨a1, a2, v⟩ := v
  refine k_aload_n dX11_said_0 rfl ?_
  refine k_iconst dX11_said_1 ?_
  refine k_iload_n dX11_said_2 rfl ?_
  refine k_invV [jI 1, jI v1] [] dX11_said_3 cm_X11_is ml_X11_136 im_X11_is se_X11_is rfl sh_143 (by decide) rfl rfl (sp_X11_is s 1 v1 (by decide) a1 a2) ?_
  obtain ⟨vt, vf⟩ := v
  refine k_ifb_eq 32 dX11_said_6 rfl (fun c3 => ?_) (fun c3 => ?_)
  · have v := vt c3
    refine k_bipush dX11_said_32 rfl ?_
    exact k_ireturn (st := []) dX11_said_34 rfl v
  · have v := vf c3
    obtain ⟨a4, a5, v⟩ := v
    refine k_aload_n dX11_said_9 rfl ?_
    refine k_iconst dX11_said_10 ?_
    refine k_iload_n dX11_said_11 rfl ?_
    refine k_invV [jI 2, jI v2] [] dX11_said_12 cm_X11_is ml_X11_136 im_X11_is se_X11_is rfl sh_143 (by decide) rfl rfl (sp_X11_is s 2 v2 (by decide) a4 a5) ?_
    obtain ⟨vt, vf⟩ := v
    refine k_ifb_eq 32 dX11_said_15 rfl (fun c6 => ?_) (fun c6 => ?_)
    · have v := vt c6
      refine k_bipush dX11_said_32 rfl ?_
      exact k_ireturn (st := []) dX11_said_34 rfl v
    · have v := vf c6
      obtain ⟨a7, v⟩ := v
      refine k_aload_n dX11_said_18 rfl ?_
      refine k_iconst dX11_said_19 ?_
      refine k_iload_n dX11_said_20 rfl ?_
      refine k_invV [jI 2, jI v3] [] dX11_said_21 cm_X11_is ml_X11_136 im_X11_is se_X11_is rfl sh_143 (by decide) rfl rfl (sp_X11_is s 2 v3 (by decide) a7 a5) ?_
      obtain ⟨vt, vf⟩ := v
      refine k_ifb_eq 32 dX11_said_24 rfl (fun c8 => ?_) (fun c8 => ?_)
      · have v := vt c8
        refine k_bipush dX11_said_32 rfl ?_
        exact k_ireturn (st := []) dX11_said_34 rfl v
      · have v := vf c8
        refine k_iload_n dX11_said_27 rfl ?_
        refine k_iload_n dX11_said_28 rfl ?_
        obtain ⟨vt, vf⟩ := v
        refine k_icmp_ne 35 dX11_said_29 rfl a4 a7 (fun c9 => ?_) (fun c9 => ?_)
        · have v := vt c9
          obtain ⟨a10, v⟩ := v
          refine k_aload_n dX11_said_35 rfl ?_
          refine k_getr dX11_said_36 fl_X11_16 sh_143 (by decide) rfl ?_
          refine k_iconst dX11_said_39 ?_
          refine k_iald 6 dX11_said_40 sh_146 (by decide) rfl (by decide) (by decide) ?_
          refine k_bipush dX11_said_41 rfl ?_
          obtain ⟨vt, vf⟩ := v
          refine k_icmp_ne 49 dX11_said_43 rfl a10 (by decide) (fun c11 => ?_) (fun c11 => ?_)
          · have v := vt c11
            obtain ⟨a12, v⟩ := v
            refine k_aload_n dX11_said_49 rfl ?_
            refine k_getr dX11_said_50 fl_X11_55 sh_143 (by decide) rfl ?_
            refine k_aload_n dX11_said_53 rfl ?_
            refine k_getr dX11_said_54 fl_X11_16 sh_143 (by decide) rfl ?_
            refine k_iconst dX11_said_57 ?_
            refine k_iald 6 dX11_said_58 sh_146 (by decide) rfl (by decide) (by decide) ?_
            refine k_iload_n dX11_said_59 rfl ?_
            refine k_iast 40 dX11_said_60 sh_159 (by decide) rfl (by decide) a12 ?_
            refine k_aload_n dX11_said_61 rfl ?_
            refine k_getr dX11_said_62 fl_X11_58 sh_143 (by decide) rfl ?_
            refine k_aload_n dX11_said_65 rfl ?_
            refine k_getr dX11_said_66 fl_X11_16 sh_143 (by decide) rfl ?_
            refine k_iconst dX11_said_69 ?_
            refine k_iald 6 dX11_said_70 sh_146 (by decide) rfl (by decide) (by decide) ?_
            rw [show ((w2 s 159 (s 146 4) v1) 146 4) = (s 146 4) from by rw [w2_k (by omega)]]
            refine k_iload_n dX11_said_71 rfl ?_
            refine k_iast 40 dX11_said_72 sh_160 (by decide) rfl (by decide) a12 ?_
            refine k_aload_n dX11_said_73 rfl ?_
            refine k_getr dX11_said_74 fl_X11_61 sh_143 (by decide) rfl ?_
            refine k_aload_n dX11_said_77 rfl ?_
            refine k_getr dX11_said_78 fl_X11_16 sh_143 (by decide) rfl ?_
            refine k_iconst dX11_said_81 ?_
            refine k_iald 6 dX11_said_82 sh_146 (by decide) rfl (by decide) (by decide) ?_
            rw [show ((w2 (w2 s 159 (s 146 4) v1) 160 (s 146 4) v2) 146 4) = (s 146 4) from by rw [w2_k (by omega), w2_k (by omega)]]
            refine k_iload_n dX11_said_83 rfl ?_
            refine k_iast 40 dX11_said_84 sh_161 (by decide) rfl (by decide) a12 ?_
            refine k_aload_n dX11_said_85 rfl ?_
            refine k_getr dX11_said_86 fl_X11_16 sh_143 (by decide) rfl ?_
            refine k_iconst dX11_said_89 ?_
            refine k_dup2 dX11_said_90 rfl ?_
            refine k_iald 6 dX11_said_91 sh_146 (by decide) rfl (by decide) (by decide) ?_
            rw [show ((w2 (w2 (w2 s 159 (s 146 4) v1) 160 (s 146 4) v2) 161 (s 146 4) v3) 146 4) = (s 146 4) from by rw [w2_k (by omega), w2_k (by omega), w2_k (by omega)]]
            refine k_iconst dX11_said_92 ?_
            refine k_iadd dX11_said_93 ?_
            refine k_iast 6 dX11_said_94 sh_146 (by decide) rfl (by decide) (by decide) ?_
            refine k_aload_n dX11_said_95 rfl ?_
            refine k_getr dX11_said_96 fl_X11_16 sh_143 (by decide) rfl ?_
            refine k_iconst dX11_said_99 ?_
            refine k_iald 6 dX11_said_100 sh_146 (by decide) rfl (by decide) (by decide) ?_
            rw [show ((w2 (w2 (w2 (w2 s 159 (s 146 4) v1) 160 (s 146 4) v2) 161 (s 146 4) v3) 146 4 ((s 146 4) + 1)) 146 4) = ((s 146 4) + 1) from by rw [w2_s]]
            exact k_ireturn (st := []) dX11_said_101 rfl v
          · have v := vf c11
            refine k_bipush dX11_said_46 rfl ?_
            exact k_ireturn (st := []) dX11_said_48 rfl v
        · have v := vf c9
          refine k_bipush dX11_said_32 rfl ?_
          exact k_ireturn (st := []) dX11_said_34 rfl v
theorem g_X11_kin {s : Int → Int → Int} {Q : Option jV → (Int → Int → Int) → Prop} {v1 v2 : Int} (v : (jr32 v1 ∧ jr64 v1 ∧ ((¬ (0 ≤ v1 ∧ v1 ≤ 5) → Q (some (jI (-2))) s) ∧ (0 ≤ v1 ∧ v1 ≤ 5 → (jr32 v2 ∧ jr64 v2 ∧ ((0 ≤ v2 ∧ v2 ≤ 63 → ((0 ≤ v1 ∧ v1 < 6) ∧ Q (some (jI (s 163 v1))) (w2 s 163 v1 v2))) ∧ (¬ (0 ≤ v2 ∧ v2 ≤ 63) → Q (some (jI (-2))) s))))))) : kR mX11_kin [jR 143, jI v1, jI v2] s Q := by
  show kK mX11_kin 0 [jR 143, jI v1, jI v2, jU] [] s Q
  obtain ⟨a1, a2, v⟩ := v
  refine k_iload_n dX11_kin_0 rfl ?_
  refine k_i2l dX11_kin_1 a1 ?_
  refine k_lconst 0 dX11_kin_2 rfl ?_
  refine k_ldc2 (5) (5) dX11_kin_3 kl_X11_219 rfl ?_
  refine k_invS [jL v1, jL 0, jL 5] [] dX11_kin_6 cm_X11_in ml_X11_120 st_X11_in rfl rfl (sp_X11_in s v1 0 5 a2 (by decide) (by decide)) ?_
  obtain ⟨vt, vf⟩ := v
  refine k_ifb_eq 24 dX11_kin_9 rfl (fun c3 => ?_) (fun c3 => ?_)
  · have v := vt c3
    refine k_bipush dX11_kin_24 rfl ?_
    exact k_ireturn (st := []) dX11_kin_26 rfl v
  · have v := vf c3
    obtain ⟨a4, a5, v⟩ := v
    refine k_iload_n dX11_kin_12 rfl ?_
    refine k_i2l dX11_kin_13 a4 ?_
    refine k_lconst 0 dX11_kin_14 rfl ?_
    refine k_ldc2 (63) (63) dX11_kin_15 kl_X11_221 rfl ?_
    refine k_invS [jL v2, jL 0, jL 63] [] dX11_kin_18 cm_X11_in ml_X11_120 st_X11_in rfl rfl (sp_X11_in s v2 0 63 a5 (by decide) (by decide)) ?_
    obtain ⟨vt, vf⟩ := v
    refine k_ifb_ne 27 dX11_kin_21 rfl (fun c6 => ?_) (fun c6 => ?_)
    · have v := vt c6
      obtain ⟨a7, v⟩ := v
      refine k_aload_n dX11_kin_27 rfl ?_
      refine k_getr dX11_kin_28 fl_X11_67 sh_143 (by decide) rfl ?_
      refine k_iload_n dX11_kin_31 rfl ?_
      refine k_iald 6 dX11_kin_32 sh_163 (by decide) rfl (by decide) a7 ?_
      refine k_istore_n [jR 143, jI v1, jI v2, jI (s 163 v1)] dX11_kin_33 rfl rfl ?_
      refine k_aload_n dX11_kin_34 rfl ?_
      refine k_getr dX11_kin_35 fl_X11_67 sh_143 (by decide) rfl ?_
      refine k_iload_n dX11_kin_38 rfl ?_
      refine k_iload_n dX11_kin_39 rfl ?_
      refine k_iast 6 dX11_kin_40 sh_163 (by decide) rfl (by decide) a7 ?_
      refine k_iload_n dX11_kin_41 rfl ?_
      exact k_ireturn (st := []) dX11_kin_42 rfl v
    · have v := vf c6
      refine k_bipush dX11_kin_24 rfl ?_
      exact k_ireturn (st := []) dX11_kin_26 rfl v
theorem g_X11_question {s : Int → Int → Int} {Q : Option jV → (Int → Int → Int) → Prop} {v1 v2 v3 v4 v5 : Int} (v : (jr32 v1 ∧ jr64 v1 ∧ ((¬ (1 ≤ v1 ∧ v1 ≤ 30) → Q (some (jI (-2))) s) ∧ (1 ≤ v1 ∧ v1 ≤ 30 → (jr32 v2 ∧ ((¬ (0 ≤ v2 ∧ v2 ≤ 100) → Q (some (jI (-2))) s) ∧ (0 ≤ v2 ∧ v2 ≤ 100 → (jr32 v3 ∧ ((¬ (0 ≤ v3 ∧ v3 ≤ 100) → Q (some (jI (-2))) s) ∧ (0 ≤ v3 ∧ v3 ≤ 100 → (jr32 v4 ∧ ((¬ (0 ≤ v4 ∧ v4 ≤ 100) → Q (some (jI (-2))) s) ∧ (0 ≤ v4 ∧ v4 ≤ 100 → (jr32 v5 ∧ ((0 ≤ v5 ∧ v5 ≤ 100 → (jr32 (s 146 5) ∧ (((s 146 5) ≠ 6 → ((0 ≤ (s 146 5) ∧ (s 146 5) < 6) ∧ (0 ≤ (4 * (s 146 5)) ∧ (4 * (s 146 5)) < 24) ∧ (0 ≤ ((4 * (s 146 5)) + 1) ∧ ((4 * (s 146 5)) + 1) < 24) ∧ (0 ≤ ((4 * (s 146 5)) + 2) ∧ ((4 * (s 146 5)) + 2) < 24) ∧ (0 ≤ ((4 * (s 146 5)) + 3) ∧ ((4 * (s 146 5)) + 3) < 24) ∧ Q (some (jI (s 146 5))) (w2 (w2 (w2 (w2 (w2 (w2 s 167 (s 146 5) v1) 168 (4 * (s 146 5)) v2) 168 ((4 * (s 146 5)) + 1) v3) 168 ((4 * (s 146 5)) + 2) v4) 168 ((4 * (s 146 5)) + 3) v5) 146 5 ((s 146 5) + 1)))) ∧ ((s 146 5) = 6 → Q (some (jI (-4))) s)))) ∧ (¬ (0 ≤ v5 ∧ v5 ≤ 100) → Q (some (jI (-2))) s)))))))))))))))) : kR mX11_question [jR 143, jI v1, jI v2, jI v3, jI v4, jI v5] s Q := by
  show kK mX11_question 0 [jR 143, jI v1, jI v2, jI v3, jI v4, jI v5, jU] [] s Q
  obtain ⟨a1, a2, v⟩ := v
  refine k_iload_n dX11_question_0 rfl ?_
  refine k_i2l dX11_question_1 a1 ?_
  refine k_lconst 1 dX11_question_2 rfl ?_
  refine k_ldc2 (30) (30) dX11_question_3 kl_X11_236 rfl ?_
  refine k_invS [jL v1, jL 1, jL 30] [] dX11_question_6 cm_X11_in ml_X11_120 st_X11_in rfl rfl (sp_X11_in s v1 1 30 a2 (by decide) (by decide)) ?_
  obtain ⟨vt, vf⟩ := v
  refine k_ifb_eq 42 dX11_question_9 rfl (fun c3 => ?_) (fun c3 => ?_)
  · have v := vt c3
    refine k_bipush dX11_question_42 rfl ?_
    exact k_ireturn (st := []) dX11_question_44 rfl v
  · have v := vf c3
    obtain ⟨a4, v⟩ := v
    refine k_iload_n dX11_question_12 rfl ?_
    refine k_invS [jI v2] [] dX11_question_13 cm_X11_isShare ml_X11_238 st_X11_isShare rfl rfl (sp_X11_isShare s v2 a4) ?_
    obtain ⟨vt, vf⟩ := v
    refine k_ifb_eq 42 dX11_question_16 rfl (fun c5 => ?_) (fun c5 => ?_)
    · have v := vt c5
      refine k_bipush dX11_question_42 rfl ?_
      exact k_ireturn (st := []) dX11_question_44 rfl v
    · have v := vf c5
      obtain ⟨a6, v⟩ := v
      refine k_iload_n dX11_question_19 rfl ?_
      refine k_invS [jI v3] [] dX11_question_20 cm_X11_isShare ml_X11_238 st_X11_isShare rfl rfl (sp_X11_isShare s v3 a6) ?_
      obtain ⟨vt, vf⟩ := v
      refine k_ifb_eq 42 dX11_question_23 rfl (fun c7 => ?_) (fun c7 => ?_)
      · have v := vt c7
        refine k_bipush dX11_question_42 rfl ?_
        exact k_ireturn (st := []) dX11_question_44 rfl v
      · have v := vf c7
        obtain ⟨a8, v⟩ := v
        refine k_iload dX11_question_26 rfl ?_
        refine k_invS [jI v4] [] dX11_question_28 cm_X11_isShare ml_X11_238 st_X11_isShare rfl rfl (sp_X11_isShare s v4 a8) ?_
        obtain ⟨vt, vf⟩ := v
        refine k_ifb_eq 42 dX11_question_31 rfl (fun c9 => ?_) (fun c9 => ?_)
        · have v := vt c9
          refine k_bipush dX11_question_42 rfl ?_
          exact k_ireturn (st := []) dX11_question_44 rfl v
        · have v := vf c9
          obtain ⟨a10, v⟩ := v
          refine k_iload dX11_question_34 rfl ?_
          refine k_invS [jI v5] [] dX11_question_36 cm_X11_isShare ml_X11_238 st_X11_isShare rfl rfl (sp_X11_isShare s v5 a10) ?_
          obtain ⟨vt, vf⟩ := v
          refine k_ifb_ne 45 dX11_question_39 rfl (fun c11 => ?_) (fun c11 => ?_)
          · have v := vt c11
            obtain ⟨a12, v⟩ := v
            refine k_aload_n dX11_question_45 rfl ?_
            refine k_getr dX11_question_46 fl_X11_16 sh_143 (by decide) rfl ?_
            refine k_iconst dX11_question_49 ?_
            refine k_iald 6 dX11_question_50 sh_146 (by decide) rfl (by decide) (by decide) ?_
            refine k_bipush dX11_question_51 rfl ?_
            obtain ⟨vt, vf⟩ := v
            refine k_icmp_ne 59 dX11_question_53 rfl a12 (by decide) (fun c13 => ?_) (fun c13 => ?_)
            · have v := vt c13
              obtain ⟨a14, a15, a16, a17, a18, v⟩ := v
              refine k_aload_n dX11_question_59 rfl ?_
              refine k_getr dX11_question_60 fl_X11_16 sh_143 (by decide) rfl ?_
              refine k_iconst dX11_question_63 ?_
              refine k_iald 6 dX11_question_64 sh_146 (by decide) rfl (by decide) (by decide) ?_
              refine k_istore [jR 143, jI v1, jI v2, jI v3, jI v4, jI v5, jI (s 146 5)] dX11_question_65 rfl rfl ?_
              refine k_aload_n dX11_question_67 rfl ?_
              refine k_getr dX11_question_68 fl_X11_79 sh_143 (by decide) rfl ?_
              refine k_iload dX11_question_71 rfl ?_
              refine k_iload_n dX11_question_73 rfl ?_
              refine k_iast 6 dX11_question_74 sh_167 (by decide) rfl (by decide) a14 ?_
              refine k_aload_n dX11_question_75 rfl ?_
              refine k_getr dX11_question_76 fl_X11_82 sh_143 (by decide) rfl ?_
              refine k_iconst dX11_question_79 ?_
              refine k_iload dX11_question_80 rfl ?_
              refine k_imul dX11_question_82 ?_
              refine k_iload_n dX11_question_83 rfl ?_
              refine k_iast 24 dX11_question_84 sh_168 (by decide) rfl (by decide) a15 ?_
              refine k_aload_n dX11_question_85 rfl ?_
              refine k_getr dX11_question_86 fl_X11_82 sh_143 (by decide) rfl ?_
              refine k_iconst dX11_question_89 ?_
              refine k_iload dX11_question_90 rfl ?_
              refine k_imul dX11_question_92 ?_
              refine k_iconst dX11_question_93 ?_
              refine k_iadd dX11_question_94 ?_
              refine k_iload_n dX11_question_95 rfl ?_
              refine k_iast 24 dX11_question_96 sh_168 (by decide) rfl (by decide) a16 ?_
              refine k_aload_n dX11_question_97 rfl ?_
              refine k_getr dX11_question_98 fl_X11_82 sh_143 (by decide) rfl ?_
              refine k_iconst dX11_question_101 ?_
              refine k_iload dX11_question_102 rfl ?_
              refine k_imul dX11_question_104 ?_
              refine k_iconst dX11_question_105 ?_
              refine k_iadd dX11_question_106 ?_
              refine k_iload dX11_question_107 rfl ?_
              refine k_iast 24 dX11_question_109 sh_168 (by decide) rfl (by decide) a17 ?_
              refine k_aload_n dX11_question_110 rfl ?_
              refine k_getr dX11_question_111 fl_X11_82 sh_143 (by decide) rfl ?_
              refine k_iconst dX11_question_114 ?_
              refine k_iload dX11_question_115 rfl ?_
              refine k_imul dX11_question_117 ?_
              refine k_iconst dX11_question_118 ?_
              refine k_iadd dX11_question_119 ?_
              refine k_iload dX11_question_120 rfl ?_
              refine k_iast 24 dX11_question_122 sh_168 (by decide) rfl (by decide) a18 ?_
              refine k_aload_n dX11_question_123 rfl ?_
              refine k_iconst dX11_question_124 ?_
              refine k_invV [jI 5] [] dX11_question_125 cm_X11_next ml_X11_128 im_X11_next se_X11_next rfl sh_143 (by decide) rfl rfl (sp_X11_next (w2 (w2 (w2 (w2 (w2 s 167 (s 146 5) v1) 168 (4 * (s 146 5)) v2) 168 ((4 * (s 146 5)) + 1) v3) 168 ((4 * (s 146 5)) + 2) v4) 168 ((4 * (s 146 5)) + 3) v5) 5 (by decide)) ?_
              exact k_ireturn (st := []) dX11_question_128 rfl v
            · have v := vf c13
              refine k_bipush dX11_question_56 rfl ?_
              exact k_ireturn (st := []) dX11_question_58 rfl v
          · have v := vf c11
            refine k_bipush dX11_question_42 rfl ?_
            exact k_ireturn (st := []) dX11_question_44 rfl v
theorem g_X11_count {s : Int → Int → Int} {Q : Option jV → (Int → Int → Int) → Prop} {v1 : Int} (v : (jr32 v1 ∧ jr64 v1 ∧ ((¬ (0 ≤ v1 ∧ v1 ≤ 5) → Q (some (jI (-2))) s) ∧ (0 ≤ v1 ∧ v1 ≤ 5 → ((0 ≤ v1 ∧ v1 < 6) ∧ Q (some (jI (s 146 v1))) s))))) : kR mX11_count [jR 143, jI v1] s Q := by
  show kK mX11_count 0 [jR 143, jI v1] [] s Q
  obtain ⟨a1, a2, v⟩ := v
  refine k_iload_n dX11_count_0 rfl ?_
  refine k_i2l dX11_count_1 a1 ?_
  refine k_lconst 0 dX11_count_2 rfl ?_
  refine k_ldc2 (5) (5) dX11_count_3 kl_X11_219 rfl ?_
  refine k_invS [jL v1, jL 0, jL 5] [] dX11_count_6 cm_X11_in ml_X11_120 st_X11_in rfl rfl (sp_X11_in s v1 0 5 a2 (by decide) (by decide)) ?_
  obtain ⟨vt, vf⟩ := v
  refine k_ifb_eq 21 dX11_count_9 rfl (fun c3 => ?_) (fun c3 => ?_)
  · have v := vt c3
    refine k_bipush dX11_count_21 rfl ?_
    exact k_ireturn (st := []) dX11_count_23 rfl v
  · have v := vf c3
    obtain ⟨a4, v⟩ := v
    refine k_aload_n dX11_count_12 rfl ?_
    refine k_getr dX11_count_13 fl_X11_16 sh_143 (by decide) rfl ?_
    refine k_iload_n dX11_count_16 rfl ?_
    refine k_iald 6 dX11_count_17 sh_146 (by decide) rfl (by decide) a4 ?_
    refine k_goto 23 dX11_count_18 rfl ?_
    exact k_ireturn (st := []) dX11_count_23 rfl v
theorem g_X11_sign {s : Int → Int → Int} {Q : Option jV → (Int → Int → Int) → Prop} {v1 : Int} (v : (jr32 v1 ∧ ((v1 ≠ 0 → ((v1 ≠ 1 → ((v1 ≠ 2 → Q (some (jI (-2))) s) ∧ (v1 = 2 → Q (some (jI (s 145 1))) s))) ∧ (v1 = 1 → Q (some (jI (s 145 0))) s))) ∧ (v1 = 0 → (jr32 (s 145 0) ∧ (((s 145 0) ≤ 0 → Q (some (jI 0)) s) ∧ (¬ ((s 145 0) ≤ 0) → Q (some (jI 1)) s))))))) : kR mX11_sign [jR 143, jI v1] s Q := by
  show kK mX11_sign 0 [jR 143, jI v1] [] s Q
  obtain ⟨a1, v⟩ := v
  refine k_iload_n dX11_sign_0 rfl ?_
  obtain ⟨vt, vf⟩ := v
  refine k_if_ne 21 dX11_sign_1 rfl a1 (fun c2 => ?_) (fun c2 => ?_)
  · have v := vt c2
    refine k_iload_n dX11_sign_21 rfl ?_
    refine k_iconst dX11_sign_22 ?_
    obtain ⟨vt, vf⟩ := v
    refine k_icmp_ne 35 dX11_sign_23 rfl a1 (by decide) (fun c3 => ?_) (fun c3 => ?_)
    · have v := vt c3
      refine k_iload_n dX11_sign_35 rfl ?_
      refine k_iconst dX11_sign_36 ?_
      obtain ⟨vt, vf⟩ := v
      refine k_icmp_ne 49 dX11_sign_37 rfl a1 (by decide) (fun c4 => ?_) (fun c4 => ?_)
      · have v := vt c4
        refine k_bipush dX11_sign_49 rfl ?_
        exact k_ireturn (st := []) dX11_sign_51 rfl v
      · have v := vf c4
        refine k_aload_n dX11_sign_40 rfl ?_
        refine k_getr dX11_sign_41 fl_X11_13 sh_143 (by decide) rfl ?_
        refine k_iconst dX11_sign_44 ?_
        refine k_iald 15 dX11_sign_45 sh_145 (by decide) rfl (by decide) (by decide) ?_
        refine k_goto 51 dX11_sign_46 rfl ?_
        exact k_ireturn (st := []) dX11_sign_51 rfl v
    · have v := vf c3
      refine k_aload_n dX11_sign_26 rfl ?_
      refine k_getr dX11_sign_27 fl_X11_13 sh_143 (by decide) rfl ?_
      refine k_iconst dX11_sign_30 ?_
      refine k_iald 15 dX11_sign_31 sh_145 (by decide) rfl (by decide) (by decide) ?_
      refine k_goto 51 dX11_sign_32 rfl ?_
      exact k_ireturn (st := []) dX11_sign_51 rfl v
  · have v := vf c2
    obtain ⟨a5, v⟩ := v
    refine k_aload_n dX11_sign_4 rfl ?_
    refine k_getr dX11_sign_5 fl_X11_13 sh_143 (by decide) rfl ?_
    refine k_iconst dX11_sign_8 ?_
    refine k_iald 15 dX11_sign_9 sh_145 (by decide) rfl (by decide) (by decide) ?_
    obtain ⟨vt, vf⟩ := v
    refine k_if_le 17 dX11_sign_10 rfl a5 (fun c6 => ?_) (fun c6 => ?_)
    · have v := vt c6
      refine k_iconst dX11_sign_17 ?_
      refine k_goto 51 dX11_sign_18 rfl ?_
      exact k_ireturn (st := []) dX11_sign_51 rfl v
    · have v := vf c6
      refine k_iconst dX11_sign_13 ?_
      refine k_goto 51 dX11_sign_14 rfl ?_
      exact k_ireturn (st := []) dX11_sign_51 rfl v
theorem g_X11_limb {s : Int → Int → Int} {Q : Option jV → (Int → Int → Int) → Prop} {v1 v2 : Int} (v : (jr32 v1 ∧ jr64 v1 ∧ ((¬ (0 ≤ v1 ∧ v1 ≤ 1) → Q (some (jI (-2))) s) ∧ (0 ≤ v1 ∧ v1 ≤ 1 → (jr32 v2 ∧ ((0 ≤ v2 → ((0 ≤ v1 ∧ v1 < 15) ∧ jr32 (s 145 v1) ∧ (((s 145 v1) ≤ v2 → Q (some (jI (-1))) s) ∧ (¬ ((s 145 v1) ≤ v2) → ((0 ≤ ((50 * v1) + v2) ∧ ((50 * v1) + v2) < 750) ∧ Q (some (jI (s 144 ((50 * v1) + v2)))) s))))) ∧ (¬ (0 ≤ v2) → Q (some (jI (-2))) s))))))) : kR mX11_limb [jR 143, jI v1, jI v2] s Q := by
  show kK mX11_limb 0 [jR 143, jI v1, jI v2] [] s Q
  obtain ⟨a1, a2, v⟩ := v
  refine k_iload_n dX11_limb_0 rfl ?_
  refine k_i2l dX11_limb_1 a1 ?_
  refine k_lconst 0 dX11_limb_2 rfl ?_
  refine k_lconst 1 dX11_limb_3 rfl ?_
  refine k_invS [jL v1, jL 0, jL 1] [] dX11_limb_4 cm_X11_in ml_X11_120 st_X11_in rfl rfl (sp_X11_in s v1 0 1 a2 (by decide) (by decide)) ?_
  obtain ⟨vt, vf⟩ := v
  refine k_ifb_eq 14 dX11_limb_7 rfl (fun c3 => ?_) (fun c3 => ?_)
  · have v := vt c3
    refine k_bipush dX11_limb_14 rfl ?_
    exact k_ireturn (st := []) dX11_limb_16 rfl v
  · have v := vf c3
    obtain ⟨a4, v⟩ := v
    refine k_iload_n dX11_limb_10 rfl ?_
    obtain ⟨vt, vf⟩ := v
    refine k_if_ge 17 dX11_limb_11 rfl a4 (fun c5 => ?_) (fun c5 => ?_)
    · have v := vt c5
      obtain ⟨a6, a7, v⟩ := v
      refine k_iload_n dX11_limb_17 rfl ?_
      refine k_aload_n dX11_limb_18 rfl ?_
      refine k_getr dX11_limb_19 fl_X11_13 sh_143 (by decide) rfl ?_
      refine k_iload_n dX11_limb_22 rfl ?_
      refine k_iald 15 dX11_limb_23 sh_145 (by decide) rfl (by decide) a6 ?_
      obtain ⟨vt, vf⟩ := v
      refine k_icmp_ge 41 dX11_limb_24 rfl a4 a7 (fun c8 => ?_) (fun c8 => ?_)
      · have v := vt c8
        refine k_iconst dX11_limb_41 ?_
        exact k_ireturn (st := []) dX11_limb_42 rfl v
      · have v := vf c8
        obtain ⟨a9, v⟩ := v
        refine k_aload_n dX11_limb_27 rfl ?_
        refine k_getr dX11_limb_28 fl_X11_7 sh_143 (by decide) rfl ?_
        refine k_bipush dX11_limb_31 rfl ?_
        refine k_iload_n dX11_limb_33 rfl ?_
        refine k_imul dX11_limb_34 ?_
        refine k_iload_n dX11_limb_35 rfl ?_
        refine k_iadd dX11_limb_36 ?_
        refine k_iald 750 dX11_limb_37 sh_144 (by decide) rfl (by decide) a9 ?_
        refine k_goto 42 dX11_limb_38 rfl ?_
        exact k_ireturn (st := []) dX11_limb_42 rfl v
    · have v := vf c5
      refine k_bipush dX11_limb_14 rfl ?_
      exact k_ireturn (st := []) dX11_limb_16 rfl v
theorem sp_X11_said (s : Int → Int → Int) (v1 v2 v3 : Int) (h1 : jr32 v1) (h2 : jr32 v2) (h3 : jr32 v3) (hw : WM s) (hn : 0 ≤ s 146 4 ∧ s 146 4 ≤ 40) : kR mX11_said [jR 143, jI v1, jI v2, jI v3] s (fun r s' => ∃ y, r = some (jI y) ∧ jg3 ((0 ≤ v1 ∧ v1 ≤ s 146 1 - 1) ∧ (0 ≤ v2 ∧ v2 ≤ s 146 2 - 1) ∧ (0 ≤ v3 ∧ v3 ≤ s 146 2 - 1) ∧ v2 ≠ v3) (40 ≤ s 146 4) (-2) (s 146 4 + 1) s (w2 (w2 (w2 (w2 s 159 (s 146 4) v1) 160 (s 146 4) v2) 161 (s 146 4) v3) 146 4 (s 146 4 + 1)) y s') := by
  obtain ⟨-, n1, n2, -⟩ := hw
  exact g_X11_said ⟨h1, ⟨by omega, by omega⟩, fun c => ⟨_, rfl, Or.inl ⟨fun q => c q.1, rfl, rfl⟩⟩, fun c => ⟨h2, ⟨by omega, by omega⟩, fun c2 => ⟨_, rfl, Or.inl ⟨fun q => c2 q.2.1, rfl, rfl⟩⟩, fun c2 => ⟨h3, fun c3 => ⟨_, rfl, Or.inl ⟨fun q => c3 q.2.2.1, rfl, rfl⟩⟩, fun c3 => ⟨fun c4 => ⟨⟨by omega, by omega⟩, fun c5 => ⟨⟨by omega, by omega⟩, _, rfl, Or.inr (Or.inr ⟨⟨c, c2, c3, c4⟩, by omega, rfl, rfl⟩)⟩, fun c5 => ⟨_, rfl, Or.inr (Or.inl ⟨⟨c, c2, c3, c4⟩, by omega, rfl, rfl⟩)⟩⟩, fun c4 => ⟨_, rfl, Or.inl ⟨fun q => q.2.2.2 c4, rfl, rfl⟩⟩⟩⟩⟩⟩
theorem sp_X11_kin (s : Int → Int → Int) (v1 v2 : Int) (h1 : jr32 v1) (h2 : jr32 v2) : kR mX11_kin [jR 143, jI v1, jI v2] s (fun r s' => ∃ y, r = some (jI y) ∧ jg3 ((0 ≤ v1 ∧ v1 ≤ 5) ∧ (0 ≤ v2 ∧ v2 ≤ 63)) False (-2) (s 163 v1) s (w2 s 163 v1 v2) y s') :=
  g_X11_kin ⟨h1, j3264 h1, fun c => ⟨_, rfl, Or.inl ⟨fun q => c q.1, rfl, rfl⟩⟩, fun c => ⟨h2, j3264 h2, fun c2 => ⟨⟨by omega, by omega⟩, _, rfl, Or.inr (Or.inr ⟨⟨c, c2⟩, id, rfl, rfl⟩)⟩, fun c2 => ⟨_, rfl, Or.inl ⟨fun q => c2 q.2, rfl, rfl⟩⟩⟩⟩
theorem sp_X11_question (s : Int → Int → Int) (v1 v2 v3 v4 v5 : Int) (h1 : jr32 v1) (h2 : jr32 v2) (h3 : jr32 v3) (h4 : jr32 v4) (h5 : jr32 v5) (hn : 0 ≤ s 146 5 ∧ s 146 5 ≤ 6) : kR mX11_question [jR 143, jI v1, jI v2, jI v3, jI v4, jI v5] s (fun r s' => ∃ y, r = some (jI y) ∧ jg3 ((1 ≤ v1 ∧ v1 ≤ 30) ∧ (0 ≤ v2 ∧ v2 ≤ 100) ∧ (0 ≤ v3 ∧ v3 ≤ 100) ∧ (0 ≤ v4 ∧ v4 ≤ 100) ∧ (0 ≤ v5 ∧ v5 ≤ 100)) (6 ≤ s 146 5) (-2) (s 146 5) s (w2 (w2 (w2 (w2 (w2 (w2 s 167 (s 146 5) v1) 168 (4 * s 146 5) v2) 168 (4 * s 146 5 + 1) v3) 168 (4 * s 146 5 + 2) v4) 168 (4 * s 146 5 + 3) v5) 146 5 (s 146 5 + 1)) y s') :=
  g_X11_question ⟨h1, j3264 h1, fun c => ⟨_, rfl, Or.inl ⟨fun q => c q.1, rfl, rfl⟩⟩, fun c => ⟨h2, fun c2 => ⟨_, rfl, Or.inl ⟨fun q => c2 q.2.1, rfl, rfl⟩⟩, fun c2 => ⟨h3, fun c3 => ⟨_, rfl, Or.inl ⟨fun q => c3 q.2.2.1, rfl, rfl⟩⟩, fun c3 => ⟨h4, fun c4 => ⟨_, rfl, Or.inl ⟨fun q => c4 q.2.2.2.1, rfl, rfl⟩⟩, fun c4 => ⟨h5, fun c5 => ⟨⟨by omega, by omega⟩, fun c6 => ⟨⟨by omega, by omega⟩, ⟨by omega, by omega⟩, ⟨by omega, by omega⟩, ⟨by omega, by omega⟩, ⟨by omega, by omega⟩, _, rfl, Or.inr (Or.inr ⟨⟨c, c2, c3, c4, c5⟩, by omega, rfl, rfl⟩)⟩, fun c6 => ⟨_, rfl, Or.inr (Or.inl ⟨⟨c, c2, c3, c4, c5⟩, by omega, rfl, rfl⟩)⟩⟩, fun c5 => ⟨_, rfl, Or.inl ⟨fun q => c5 q.2.2.2.2, rfl, rfl⟩⟩⟩⟩⟩⟩⟩
