theorem g_X10_chance {s : Int → Int → Int} {Q : Option jV → (Int → Int → Int) → Prop} {v1 v2 v3 : Int} (v : (jr32 v1 ∧ (WC s) ∧ ((¬ (0 ≤ v1 ∧ v1 ≤ s 2 10 - 1) → Q (some (jI (-2))) s) ∧ (0 ≤ v1 ∧ v1 ≤ s 2 10 - 1 → (jr32 v2 ∧ ((¬ (0 ≤ v2 ∧ v2 ≤ 3) → Q (some (jI (-2))) s) ∧ (0 ≤ v2 ∧ v2 ≤ 3 → (jr32 v3 ∧ ((0 ≤ v3 ∧ v3 ≤ 1 → ((DD s) ∧ (0 ≤ v1 ∧ v1 ≤ 100) ∧ kK mX10_chance 83 [jR 1, jU, jU, jI v3, jI (sg (s 146 3) (fun l => jbo (s 151 (s 153 l) = v2 ∧ s 150 (s 153 l) = 1))), jI (sg (s 146 3) (fun l => jbo (s 151 (s 153 l) = v2 ∧ s 150 (s 153 l) = 2))), jU, jI ((sg (s 146 3) (fun l => jbo ((s 151 (s 153 l) = v2 ∧ s 150 (s 153 l) = 1) ∧ 0 < stc s l v1))) + (sg (s 146 3) (fun l => jbo ((s 151 (s 153 l) = v2 ∧ s 150 (s 153 l) = 2) ∧ 0 < stc s l v1)))), jL 0, jU, jI (sg (s 146 3) (fun l => jbo ((s 151 (s 153 l) = v2 ∧ s 150 (s 153 l) = 1) ∧ 0 < stc s l v1))), jU] [] s Q)) ∧ (¬ (0 ≤ v3 ∧ v3 ≤ 1) → Q (some (jI (-2))) s)))))))))) : kR mX10_chance [jR 1, jI v1, jI v2, jI v3] s Q := by
  show kK mX10_chance 0 [jR 1, jI v1, jI v2, jI v3, jU, jU, jU, jU, jU, jU, jU, jU] [] s Q
  obtain ⟨a1, a2, v⟩ := v
  refine k_aload_n dX10_chance_0 rfl ?_
  refine k_iload_n dX10_chance_1 rfl ?_
  refine k_invV [jI v1] [] dX10_chance_2 cm_X10_isWord ml_X10_126 im_X10_isWord se_X10_isWord rfl sh_1 (by decide) rfl rfl (sp_X10_isWord s v1 a1 a2) ?_
  obtain ⟨vt, vf⟩ := v
  refine k_ifb_eq 24 dX10_chance_5 rfl (fun c3 => ?_) (fun c3 => ?_)
  · have v := vt c3
    refine k_bipush dX10_chance_24 rfl ?_
    exact k_ireturn (st := []) dX10_chance_26 rfl v
  · have v := vf c3
    obtain ⟨a4, v⟩ := v
    refine k_iload_n dX10_chance_8 rfl ?_
    refine k_invS [jI v2] [] dX10_chance_9 cm_X10_isGift ml_X10_132 st_X10_isGift rfl rfl (sp_X10_isGift s v2 a4) ?_
    obtain ⟨vt, vf⟩ := v
    refine k_ifb_eq 24 dX10_chance_12 rfl (fun c5 => ?_) (fun c5 => ?_)
    · have v := vt c5
      refine k_bipush dX10_chance_24 rfl ?_
      exact k_ireturn (st := []) dX10_chance_26 rfl v
    · have v := vf c5
      obtain ⟨a6, v⟩ := v
      refine k_iload_n dX10_chance_15 rfl ?_
      refine k_iconst dX10_chance_16 ?_
      refine k_iconst dX10_chance_17 ?_
      refine k_invS [jI v3, jI 0, jI 1] [] dX10_chance_18 cm_X10_within ml_X10_92 st_X10_within rfl rfl (sp_X10_within s v3 0 1 a6 (by decide) (by decide)) ?_
      obtain ⟨vt, vf⟩ := v
      refine k_ifb_ne 27 dX10_chance_21 rfl (fun c7 => ?_) (fun c7 => ?_)
      · have v := vt c7
        obtain ⟨a8, a9, v⟩ := v
        refine k_aload_n dX10_chance_27 rfl ?_
        refine k_getr dX10_chance_28 fl_X10_10 sh_1 (by decide) rfl ?_
        refine k_iconst dX10_chance_31 ?_
        refine k_iload_n dX10_chance_32 rfl ?_
        refine k_invV [jI 1, jI v2] [] dX10_chance_33 cm_X3_lettersOn ml_X10_201 im_X3_lettersOn se_X3_lettersOn rfl sh_2 (by decide) rfl rfl (sp_X3_lettersOn s 1 v2 a8 (by decide) a4) ?_
        refine k_istore [jR 1, jI v1, jI v2, jI v3, jI (sg (s 146 3) (fun l => jbo (s 151 (s 153 l) = v2 ∧ s 150 (s 153 l) = 1))), jU, jU, jU, jU, jU, jU, jU] dX10_chance_36 rfl rfl ?_
        refine k_aload_n dX10_chance_38 rfl ?_
        refine k_getr dX10_chance_39 fl_X10_10 sh_1 (by decide) rfl ?_
        refine k_iconst dX10_chance_42 ?_
        refine k_iload_n dX10_chance_43 rfl ?_
        refine k_invV [jI 2, jI v2] [] dX10_chance_44 cm_X3_lettersOn ml_X10_201 im_X3_lettersOn se_X3_lettersOn rfl sh_2 (by decide) rfl rfl (sp_X3_lettersOn s 2 v2 a8 (by decide) a4) ?_
        refine k_istore [jR 1, jI v1, jI v2, jI v3, jI (sg (s 146 3) (fun l => jbo (s 151 (s 153 l) = v2 ∧ s 150 (s 153 l) = 1))), jI (sg (s 146 3) (fun l => jbo (s 151 (s 153 l) = v2 ∧ s 150 (s 153 l) = 2))), jU, jU, jU, jU, jU, jU] dX10_chance_47 rfl rfl ?_
        refine k_aload_n dX10_chance_49 rfl ?_
        refine k_getr dX10_chance_50 fl_X10_10 sh_1 (by decide) rfl ?_
        refine k_iload_n dX10_chance_53 rfl ?_
        refine k_iconst dX10_chance_54 ?_
        refine k_iload_n dX10_chance_55 rfl ?_
        refine k_invV [jI v1, jI 1, jI v2] [] dX10_chance_56 cm_X3_lettersWith ml_X10_204 im_X3_lettersWith se_X3_lettersWith rfl sh_2 (by decide) rfl rfl (sp_X3_lettersWith s v1 1 v2 a8 a9 (by decide) a4) ?_
        refine k_istore [jR 1, jI v1, jI v2, jI v3, jI (sg (s 146 3) (fun l => jbo (s 151 (s 153 l) = v2 ∧ s 150 (s 153 l) = 1))), jI (sg (s 146 3) (fun l => jbo (s 151 (s 153 l) = v2 ∧ s 150 (s 153 l) = 2))), jI (sg (s 146 3) (fun l => jbo ((s 151 (s 153 l) = v2 ∧ s 150 (s 153 l) = 1) ∧ 0 < stc s l v1))), jU, jU, jU, jU, jU] dX10_chance_59 rfl rfl ?_
        refine k_iload dX10_chance_61 rfl ?_
        refine k_aload_n dX10_chance_63 rfl ?_
        refine k_getr dX10_chance_64 fl_X10_10 sh_1 (by decide) rfl ?_
        refine k_iload_n dX10_chance_67 rfl ?_
        refine k_iconst dX10_chance_68 ?_
        refine k_iload_n dX10_chance_69 rfl ?_
        refine k_invV [jI v1, jI 2, jI v2] [jI (sg (s 146 3) (fun l => jbo ((s 151 (s 153 l) = v2 ∧ s 150 (s 153 l) = 1) ∧ 0 < stc s l v1)))] dX10_chance_70 cm_X3_lettersWith ml_X10_204 im_X3_lettersWith se_X3_lettersWith rfl sh_2 (by decide) rfl rfl (sp_X3_lettersWith s v1 2 v2 a8 a9 (by decide) a4) ?_
        refine k_iadd dX10_chance_73 ?_
        refine k_istore [jR 1, jI v1, jI v2, jI v3, jI (sg (s 146 3) (fun l => jbo (s 151 (s 153 l) = v2 ∧ s 150 (s 153 l) = 1))), jI (sg (s 146 3) (fun l => jbo (s 151 (s 153 l) = v2 ∧ s 150 (s 153 l) = 2))), jI (sg (s 146 3) (fun l => jbo ((s 151 (s 153 l) = v2 ∧ s 150 (s 153 l) = 1) ∧ 0 < stc s l v1))), jI ((sg (s 146 3) (fun l => jbo ((s 151 (s 153 l) = v2 ∧ s 150 (s 153 l) = 1) ∧ 0 < stc s l v1))) + (sg (s 146 3) (fun l => jbo ((s 151 (s 153 l) = v2 ∧ s 150 (s 153 l) = 2) ∧ 0 < stc s l v1)))), jU, jU, jU, jU] dX10_chance_74 rfl rfl ?_
        refine k_lconst 0 dX10_chance_76 rfl ?_
        refine k_lstore [jR 1, jI v1, jI v2, jI v3, jI (sg (s 146 3) (fun l => jbo (s 151 (s 153 l) = v2 ∧ s 150 (s 153 l) = 1))), jI (sg (s 146 3) (fun l => jbo (s 151 (s 153 l) = v2 ∧ s 150 (s 153 l) = 2))), jI (sg (s 146 3) (fun l => jbo ((s 151 (s 153 l) = v2 ∧ s 150 (s 153 l) = 1) ∧ 0 < stc s l v1))), jI ((sg (s 146 3) (fun l => jbo ((s 151 (s 153 l) = v2 ∧ s 150 (s 153 l) = 1) ∧ 0 < stc s l v1))) + (sg (s 146 3) (fun l => jbo ((s 151 (s 153 l) = v2 ∧ s 150 (s 153 l) = 2) ∧ 0 < stc s l v1)))), jL 0, jU, jU, jU] dX10_chance_77 rfl rfl ?_
        refine k_iload dX10_chance_79 rfl ?_
        refine k_istore [jR 1, jI v1, jI v2, jI v3, jI (sg (s 146 3) (fun l => jbo (s 151 (s 153 l) = v2 ∧ s 150 (s 153 l) = 1))), jI (sg (s 146 3) (fun l => jbo (s 151 (s 153 l) = v2 ∧ s 150 (s 153 l) = 2))), jI (sg (s 146 3) (fun l => jbo ((s 151 (s 153 l) = v2 ∧ s 150 (s 153 l) = 1) ∧ 0 < stc s l v1))), jI ((sg (s 146 3) (fun l => jbo ((s 151 (s 153 l) = v2 ∧ s 150 (s 153 l) = 1) ∧ 0 < stc s l v1))) + (sg (s 146 3) (fun l => jbo ((s 151 (s 153 l) = v2 ∧ s 150 (s 153 l) = 2) ∧ 0 < stc s l v1)))), jL 0, jU, jI (sg (s 146 3) (fun l => jbo ((s 151 (s 153 l) = v2 ∧ s 150 (s 153 l) = 1) ∧ 0 < stc s l v1))), jU] dX10_chance_81 rfl rfl ?_
        refine k_drop [jR 1, jU, jU, jI v3, jI (sg (s 146 3) (fun l => jbo (s 151 (s 153 l) = v2 ∧ s 150 (s 153 l) = 1))), jI (sg (s 146 3) (fun l => jbo (s 151 (s 153 l) = v2 ∧ s 150 (s 153 l) = 2))), jU, jI ((sg (s 146 3) (fun l => jbo ((s 151 (s 153 l) = v2 ∧ s 150 (s 153 l) = 1) ∧ 0 < stc s l v1))) + (sg (s 146 3) (fun l => jbo ((s 151 (s 153 l) = v2 ∧ s 150 (s 153 l) = 2) ∧ 0 < stc s l v1)))), jL 0, jU, jI (sg (s 146 3) (fun l => jbo ((s 151 (s 153 l) = v2 ∧ s 150 (s 153 l) = 1) ∧ 0 < stc s l v1))), jU] ⟨Or.inr rfl, Or.inl rfl, Or.inl rfl, Or.inr rfl, Or.inr rfl, Or.inr rfl, Or.inl rfl, Or.inr rfl, Or.inr rfl, Or.inr rfl, Or.inr rfl, Or.inr rfl, trivial⟩ ?_
        exact v
      · have v := vf c7
        refine k_bipush dX10_chance_24 rfl ?_
        exact k_ireturn (st := []) dX10_chance_26 rfl v
theorem g_X10_chance_83 {s : Int → Int → Int} {Q : Option jV → (Int → Int → Int) → Prop} {v3 v4 v5 v7 v8 v10 : Int} (v : (jr32 v10 ∧ jr32 v7 ∧ ((v7 < v10 → ((0 ≤ (v4 + v5) ∧ (v4 + v5) ≤ 30) ∧ jr32 v3 ∧ ((v3 ≠ 1 → ((0 ≤ v8 ∧ v8 ≤ 9223372036854775807) ∧ (0 < (cb (v4 + v5) v7) ∧ (cb (v4 + v5) v7) ≤ 9223372036854775807) ∧ (∀ (s10 : Int → Int → Int), (frm fcP s s10 ∧ FC s10 v8 (cb (v4 + v5) v7)) → Q (some (jI 1)) s10))) ∧ (v3 = 1 → (jr32 (s 2 10) ∧ jr64 (v8 * (s 2 10)) ∧ jr64 (cb (v4 + v5) v7) ∧ (0 ≤ (min (v8 * (s 2 10)) (cb (v4 + v5) v7)) ∧ (min (v8 * (s 2 10)) (cb (v4 + v5) v7)) ≤ 9223372036854775807) ∧ (0 < (cb (v4 + v5) v7) ∧ (cb (v4 + v5) v7) ≤ 9223372036854775807) ∧ (∀ (s18 : Int → Int → Int), (frm fcP s s18 ∧ FC s18 (min (v8 * (s 2 10)) (cb (v4 + v5) v7)) (cb (v4 + v5) v7)) → Q (some (jI 1)) s18)))))) ∧ (¬ (v7 < v10) → ((0 ≤ v4 ∧ v4 ≤ 30) ∧ (0 ≤ v5 ∧ v5 ≤ 30) ∧ jr32 (v7 - v10) ∧ kK mX10_chance 83 [jR 1, jU, jU, jI v3, jI v4, jI v5, jU, jI v7, jL (v8 + ((cb v4 v10) * (cb v5 (v7 - v10)))), jU, jI (v10 + 1), jU] [] s Q))))) : kK mX10_chance 83 [jR 1, jU, jU, jI v3, jI v4, jI v5, jU, jI v7, jL v8, jU, jI v10, jU] [] s Q := by
  obtain ⟨a1, a2, v⟩ := v
  refine k_iload dX10_chance_83 rfl ?_
  refine k_iload dX10_chance_85 rfl ?_
  obtain ⟨vt, vf⟩ := v
  refine k_icmp_gt 119 dX10_chance_87 rfl a1 a2 (fun c3 => ?_) (fun c3 => ?_)
  · have v := vt c3
    obtain ⟨a4, a5, v⟩ := v
    refine k_iload dX10_chance_119 rfl ?_
    refine k_iload dX10_chance_121 rfl ?_
    refine k_iadd dX10_chance_123 ?_
    refine k_iload dX10_chance_124 rfl ?_
    refine k_invS [jI (v4 + v5), jI v7] [] dX10_chance_126 cm_X10_choices ml_X10_207 st_X10_choices rfl rfl (sp_X10_choices s (v4 + v5) v7 a4 a2) ?_
    refine k_lstore [jR 1, jU, jU, jI v3, jI v4, jI v5, jU, jI v7, jL v8, jU, jL (cb (v4 + v5) v7), jU] dX10_chance_129 rfl rfl ?_
    refine k_iload_n dX10_chance_131 rfl ?_
    refine k_iconst dX10_chance_132 ?_
    obtain ⟨vt, vf⟩ := v
    refine k_icmp_ne 154 dX10_chance_133 rfl a5 (by decide) (fun c6 => ?_) (fun c6 => ?_)
    · have v := vt c6
      obtain ⟨a7, a8, v⟩ := v
      refine k_aload_n dX10_chance_154 rfl ?_
      refine k_getr dX10_chance_155 fl_X10_84 sh_1 (by decide) rfl ?_
      refine k_lload dX10_chance_158 rfl ?_
      refine k_lload dX10_chance_160 rfl ?_
      refine k_invVR [jL v8, jL (cb (v4 + v5) v7)] [] dX10_chance_162 cm_X5_put ml_X10_150 im_X5_put se_X5_put rfl sh_138 (by decide) rfl rfl (sp_X5_put s v8 (cb (v4 + v5) v7) a7 a8) (fun _ s10 q11 => ?_)
      obtain ⟨rfl, q11⟩ := q11
      have v := v s10 q11
      refine k_iconst dX10_chance_165 ?_
      exact k_ireturn (st := []) dX10_chance_166 rfl v
    · have v := vf c6
      obtain ⟨a12, a13, a14, a15, a16, v⟩ := v
      refine k_lload dX10_chance_136 rfl ?_
      refine k_aload_n dX10_chance_138 rfl ?_
      refine k_getr dX10_chance_139 fl_X10_10 sh_1 (by decide) rfl ?_
      refine k_geti 10 dX10_chance_142 fl_X10_176 sh_2 (by decide) rfl rfl ?_
      refine k_i2l dX10_chance_145 a12 ?_
      refine k_lmul dX10_chance_146 ?_
      refine k_lload dX10_chance_147 rfl ?_
      refine k_mminL dX10_chance_149 ml_X10_210 mw_mminL.1 mw_mminL.2.1 mw_mminL.2.2 rfl a13 a14 ?_
      refine k_lstore [jR 1, jU, jU, jI v3, jI v4, jI v5, jU, jI v7, jL (min (v8 * (s 2 10)) (cb (v4 + v5) v7)), jU, jL (cb (v4 + v5) v7), jU] dX10_chance_152 rfl rfl ?_
      refine k_aload_n dX10_chance_154 rfl ?_
      refine k_getr dX10_chance_155 fl_X10_84 sh_1 (by decide) rfl ?_
      refine k_lload dX10_chance_158 rfl ?_
      refine k_lload dX10_chance_160 rfl ?_
      refine k_invVR [jL (min (v8 * (s 2 10)) (cb (v4 + v5) v7)), jL (cb (v4 + v5) v7)] [] dX10_chance_162 cm_X5_put ml_X10_150 im_X5_put se_X5_put rfl sh_138 (by decide) rfl rfl (sp_X5_put s (min (v8 * (s 2 10)) (cb (v4 + v5) v7)) (cb (v4 + v5) v7) a15 a16) (fun _ s18 q19 => ?_)
      obtain ⟨rfl, q19⟩ := q19
      have v := v s18 q19
      refine k_iconst dX10_chance_165 ?_
      exact k_ireturn (st := []) dX10_chance_166 rfl v
  · have v := vf c3
    obtain ⟨a20, a21, a22, v⟩ := v
    refine k_lload dX10_chance_90 rfl ?_
    refine k_iload dX10_chance_92 rfl ?_
    refine k_iload dX10_chance_94 rfl ?_
    refine k_invS [jI v4, jI v10] [jL v8] dX10_chance_96 cm_X10_choices ml_X10_207 st_X10_choices rfl rfl (sp_X10_choices s v4 v10 a20 a1) ?_
    refine k_iload dX10_chance_99 rfl ?_
    refine k_iload dX10_chance_101 rfl ?_
    refine k_iload dX10_chance_103 rfl ?_
    refine k_isub dX10_chance_105 ?_
    refine k_invS [jI v5, jI (v7 - v10)] [jL (cb v4 v10), jL v8] dX10_chance_106 cm_X10_choices ml_X10_207 st_X10_choices rfl rfl (sp_X10_choices s v5 (v7 - v10) a21 a22) ?_
    refine k_lmul dX10_chance_109 ?_
    refine k_ladd dX10_chance_110 ?_
    refine k_lstore [jR 1, jU, jU, jI v3, jI v4, jI v5, jU, jI v7, jL (v8 + ((cb v4 v10) * (cb v5 (v7 - v10)))), jU, jI v10, jU] dX10_chance_111 rfl rfl ?_
    refine k_iinc [jR 1, jU, jU, jI v3, jI v4, jI v5, jU, jI v7, jL (v8 + ((cb v4 v10) * (cb v5 (v7 - v10)))), jU, jI (v10 + 1), jU] dX10_chance_113 rfl rfl rfl ?_
    refine k_goto 83 dX10_chance_116 rfl ?_
    exact v
theorem g_X11_chance {s : Int → Int → Int} {Q : Option jV → (Int → Int → Int) → Prop} {v1 v2 v3 : Int} (v : ((DD s) ∧ jr32 v1 ∧ jr32 v2 ∧ ((¬ ((0 ≤ v1 ∧ v1 ≤ s 146 0 - 1) ∧ 0 ≤ v2 ∧ v2 ≤ 3) → Q (some (jI (-2))) s) ∧ ((0 ≤ v1 ∧ v1 ≤ s 146 0 - 1) ∧ 0 ≤ v2 ∧ v2 ≤ 3 → (jr32 v3 ∧ jr64 v3 ∧ ((0 ≤ v3 ∧ v3 ≤ 1 → kK mX11_chance 72 [jR 143, jU, jU, jI v3, jI (sg (s 146 3) (fun l => jbo ((s 151 (s 153 l) = v2 ∧ s 150 (s 153 l) = 1) ∧ (0 = (0 : Int) ∨ 0 < stc s l v1)))), jU, jI (sg (s 146 3) (fun l => jbo ((s 151 (s 153 l) = v2 ∧ s 150 (s 153 l) = 2) ∧ (0 = (0 : Int) ∨ 0 < stc s l v1)))), jI ((sg (s 146 3) (fun l => jbo ((s 151 (s 153 l) = v2 ∧ s 150 (s 153 l) = 1) ∧ (1 = (0 : Int) ∨ 0 < stc s l v1)))) + (sg (s 146 3) (fun l => jbo ((s 151 (s 153 l) = v2 ∧ s 150 (s 153 l) = 2) ∧ (1 = (0 : Int) ∨ 0 < stc s l v1))))), jL 0, jU, jI (sg (s 146 3) (fun l => jbo ((s 151 (s 153 l) = v2 ∧ s 150 (s 153 l) = 1) ∧ (1 = (0 : Int) ∨ 0 < stc s l v1)))), jU, jU, jU] [] s Q) ∧ (¬ (0 ≤ v3 ∧ v3 ≤ 1) → Q (some (jI (-2))) s))))))) : kR mX11_chance [jR 143, jI v1, jI v2, jI v3] s Q := by
  show kK mX11_chance 0 [jR 143, jI v1, jI v2, jI v3, jU, jU, jU, jU, jU, jU, jU, jU, jU, jU] [] s Q
  obtain ⟨a1, a2, a3, v⟩ := v
  refine k_aload_n dX11_chance_0 rfl ?_
  refine k_iload_n dX11_chance_1 rfl ?_
  refine k_iload_n dX11_chance_2 rfl ?_
  refine k_invV [jI v1, jI v2] [] dX11_chance_3 cm_X11_isAbout ml_X11_191 im_X11_isAbout se_X11_isAbout rfl sh_143 (by decide) rfl rfl (sp_X11_isAbout s v1 v2 a1 a2 a3) ?_
  obtain ⟨vt, vf⟩ := v
  refine k_ifb_eq 19 dX11_chance_6 rfl (fun c4 => ?_) (fun c4 => ?_)
  · have v := vt c4
    refine k_bipush dX11_chance_19 rfl ?_
    exact k_ireturn (st := []) dX11_chance_21 rfl v
  · have v := vf c4
    obtain ⟨a5, a6, v⟩ := v
    refine k_iload_n dX11_chance_9 rfl ?_
    refine k_i2l dX11_chance_10 a5 ?_
    refine k_lconst 0 dX11_chance_11 rfl ?_
    refine k_lconst 1 dX11_chance_12 rfl ?_
    refine k_invS [jL v3, jL 0, jL 1] [] dX11_chance_13 cm_X11_in ml_X11_120 st_X11_in rfl rfl (sp_X11_in s v3 0 1 a6 (by decide) (by decide)) ?_
    obtain ⟨vt, vf⟩ := v
    refine k_ifb_ne 22 dX11_chance_16 rfl (fun c7 => ?_) (fun c7 => ?_)
    · have v := vt c7
      refine k_aload_n dX11_chance_22 rfl ?_
      refine k_iload_n dX11_chance_23 rfl ?_
      refine k_iload_n dX11_chance_24 rfl ?_
      refine k_iconst dX11_chance_25 ?_
      refine k_iconst dX11_chance_26 ?_
      refine k_invV [jI v1, jI v2, jI 1, jI 0] [] dX11_chance_27 cm_X11_lettersOf ml_X11_194 im_X11_lettersOf se_X11_lettersOf rfl sh_143 (by decide) rfl rfl (sp_X11_lettersOf s v1 v2 1 0 a1 a2 a3 (by decide) (by decide)) ?_
      refine k_istore [jR 143, jI v1, jI v2, jI v3, jI (sg (s 146 3) (fun l => jbo ((s 151 (s 153 l) = v2 ∧ s 150 (s 153 l) = 1) ∧ (0 = (0 : Int) ∨ 0 < stc s l v1)))), jU, jU, jU, jU, jU, jU, jU, jU, jU] dX11_chance_30 rfl rfl ?_
      refine k_aload_n dX11_chance_32 rfl ?_
      refine k_iload_n dX11_chance_33 rfl ?_
      refine k_iload_n dX11_chance_34 rfl ?_
      refine k_iconst dX11_chance_35 ?_
      refine k_iconst dX11_chance_36 ?_
      refine k_invV [jI v1, jI v2, jI 1, jI 1] [] dX11_chance_37 cm_X11_lettersOf ml_X11_194 im_X11_lettersOf se_X11_lettersOf rfl sh_143 (by decide) rfl rfl (sp_X11_lettersOf s v1 v2 1 1 a1 a2 a3 (by decide) (by decide)) ?_
      refine k_istore [jR 143, jI v1, jI v2, jI v3, jI (sg (s 146 3) (fun l => jbo ((s 151 (s 153 l) = v2 ∧ s 150 (s 153 l) = 1) ∧ (0 = (0 : Int) ∨ 0 < stc s l v1)))), jI (sg (s 146 3) (fun l => jbo ((s 151 (s 153 l) = v2 ∧ s 150 (s 153 l) = 1) ∧ (1 = (0 : Int) ∨ 0 < stc s l v1)))), jU, jU, jU, jU, jU, jU, jU, jU] dX11_chance_40 rfl rfl ?_
      refine k_aload_n dX11_chance_42 rfl ?_
      refine k_iload_n dX11_chance_43 rfl ?_
      refine k_iload_n dX11_chance_44 rfl ?_
      refine k_iconst dX11_chance_45 ?_
      refine k_iconst dX11_chance_46 ?_
      refine k_invV [jI v1, jI v2, jI 2, jI 0] [] dX11_chance_47 cm_X11_lettersOf ml_X11_194 im_X11_lettersOf se_X11_lettersOf rfl sh_143 (by decide) rfl rfl (sp_X11_lettersOf s v1 v2 2 0 a1 a2 a3 (by decide) (by decide)) ?_
      refine k_istore [jR 143, jI v1, jI v2, jI v3, jI (sg (s 146 3) (fun l => jbo ((s 151 (s 153 l) = v2 ∧ s 150 (s 153 l) = 1) ∧ (0 = (0 : Int) ∨ 0 < stc s l v1)))), jI (sg (s 146 3) (fun l => jbo ((s 151 (s 153 l) = v2 ∧ s 150 (s 153 l) = 1) ∧ (1 = (0 : Int) ∨ 0 < stc s l v1)))), jI (sg (s 146 3) (fun l => jbo ((s 151 (s 153 l) = v2 ∧ s 150 (s 153 l) = 2) ∧ (0 = (0 : Int) ∨ 0 < stc s l v1)))), jU, jU, jU, jU, jU, jU, jU] dX11_chance_50 rfl rfl ?_
      refine k_iload dX11_chance_52 rfl ?_
      refine k_aload_n dX11_chance_54 rfl ?_
      refine k_iload_n dX11_chance_55 rfl ?_
      refine k_iload_n dX11_chance_56 rfl ?_
      refine k_iconst dX11_chance_57 ?_
      refine k_iconst dX11_chance_58 ?_
      refine k_invV [jI v1, jI v2, jI 2, jI 1] [jI (sg (s 146 3) (fun l => jbo ((s 151 (s 153 l) = v2 ∧ s 150 (s 153 l) = 1) ∧ (1 = (0 : Int) ∨ 0 < stc s l v1))))] dX11_chance_59 cm_X11_lettersOf ml_X11_194 im_X11_lettersOf se_X11_lettersOf rfl sh_143 (by decide) rfl rfl (sp_X11_lettersOf s v1 v2 2 1 a1 a2 a3 (by decide) (by decide)) ?_
      refine k_iadd dX11_chance_62 ?_
      refine k_istore [jR 143, jI v1, jI v2, jI v3, jI (sg (s 146 3) (fun l => jbo ((s 151 (s 153 l) = v2 ∧ s 150 (s 153 l) = 1) ∧ (0 = (0 : Int) ∨ 0 < stc s l v1)))), jI (sg (s 146 3) (fun l => jbo ((s 151 (s 153 l) = v2 ∧ s 150 (s 153 l) = 1) ∧ (1 = (0 : Int) ∨ 0 < stc s l v1)))), jI (sg (s 146 3) (fun l => jbo ((s 151 (s 153 l) = v2 ∧ s 150 (s 153 l) = 2) ∧ (0 = (0 : Int) ∨ 0 < stc s l v1)))), jI ((sg (s 146 3) (fun l => jbo ((s 151 (s 153 l) = v2 ∧ s 150 (s 153 l) = 1) ∧ (1 = (0 : Int) ∨ 0 < stc s l v1)))) + (sg (s 146 3) (fun l => jbo ((s 151 (s 153 l) = v2 ∧ s 150 (s 153 l) = 2) ∧ (1 = (0 : Int) ∨ 0 < stc s l v1))))), jU, jU, jU, jU, jU, jU] dX11_chance_63 rfl rfl ?_
      refine k_lconst 0 dX11_chance_65 rfl ?_
      refine k_lstore [jR 143, jI v1, jI v2, jI v3, jI (sg (s 146 3) (fun l => jbo ((s 151 (s 153 l) = v2 ∧ s 150 (s 153 l) = 1) ∧ (0 = (0 : Int) ∨ 0 < stc s l v1)))), jI (sg (s 146 3) (fun l => jbo ((s 151 (s 153 l) = v2 ∧ s 150 (s 153 l) = 1) ∧ (1 = (0 : Int) ∨ 0 < stc s l v1)))), jI (sg (s 146 3) (fun l => jbo ((s 151 (s 153 l) = v2 ∧ s 150 (s 153 l) = 2) ∧ (0 = (0 : Int) ∨ 0 < stc s l v1)))), jI ((sg (s 146 3) (fun l => jbo ((s 151 (s 153 l) = v2 ∧ s 150 (s 153 l) = 1) ∧ (1 = (0 : Int) ∨ 0 < stc s l v1)))) + (sg (s 146 3) (fun l => jbo ((s 151 (s 153 l) = v2 ∧ s 150 (s 153 l) = 2) ∧ (1 = (0 : Int) ∨ 0 < stc s l v1))))), jL 0, jU, jU, jU, jU, jU] dX11_chance_66 rfl rfl ?_
      refine k_iload dX11_chance_68 rfl ?_
      refine k_istore [jR 143, jI v1, jI v2, jI v3, jI (sg (s 146 3) (fun l => jbo ((s 151 (s 153 l) = v2 ∧ s 150 (s 153 l) = 1) ∧ (0 = (0 : Int) ∨ 0 < stc s l v1)))), jI (sg (s 146 3) (fun l => jbo ((s 151 (s 153 l) = v2 ∧ s 150 (s 153 l) = 1) ∧ (1 = (0 : Int) ∨ 0 < stc s l v1)))), jI (sg (s 146 3) (fun l => jbo ((s 151 (s 153 l) = v2 ∧ s 150 (s 153 l) = 2) ∧ (0 = (0 : Int) ∨ 0 < stc s l v1)))), jI ((sg (s 146 3) (fun l => jbo ((s 151 (s 153 l) = v2 ∧ s 150 (s 153 l) = 1) ∧ (1 = (0 : Int) ∨ 0 < stc s l v1)))) + (sg (s 146 3) (fun l => jbo ((s 151 (s 153 l) = v2 ∧ s 150 (s 153 l) = 2) ∧ (1 = (0 : Int) ∨ 0 < stc s l v1))))), jL 0, jU, jI (sg (s 146 3) (fun l => jbo ((s 151 (s 153 l) = v2 ∧ s 150 (s 153 l) = 1) ∧ (1 = (0 : Int) ∨ 0 < stc s l v1)))), jU, jU, jU] dX11_chance_70 rfl rfl ?_
      refine k_drop [jR 143, jU, jU, jI v3, jI (sg (s 146 3) (fun l => jbo ((s 151 (s 153 l) = v2 ∧ s 150 (s 153 l) = 1) ∧ (0 = (0 : Int) ∨ 0 < stc s l v1)))), jU, jI (sg (s 146 3) (fun l => jbo ((s 151 (s 153 l) = v2 ∧ s 150 (s 153 l) = 2) ∧ (0 = (0 : Int) ∨ 0 < stc s l v1)))), jI ((sg (s 146 3) (fun l => jbo ((s 151 (s 153 l) = v2 ∧ s 150 (s 153 l) = 1) ∧ (1 = (0 : Int) ∨ 0 < stc s l v1)))) + (sg (s 146 3) (fun l => jbo ((s 151 (s 153 l) = v2 ∧ s 150 (s 153 l) = 2) ∧ (1 = (0 : Int) ∨ 0 < stc s l v1))))), jL 0, jU, jI (sg (s 146 3) (fun l => jbo ((s 151 (s 153 l) = v2 ∧ s 150 (s 153 l) = 1) ∧ (1 = (0 : Int) ∨ 0 < stc s l v1)))), jU, jU, jU] ⟨Or.inr rfl, Or.inl rfl, Or.inl rfl, Or.inr rfl, Or.inr rfl, Or.inl rfl, Or.inr rfl, Or.inr rfl, Or.inr rfl, Or.inr rfl, Or.inr rfl, Or.inr rfl, Or.inr rfl, Or.inr rfl, trivial⟩ ?_
      exact v
    · have v := vf c7
      refine k_bipush dX11_chance_19 rfl ?_
      exact k_ireturn (st := []) dX11_chance_21 rfl v
theorem g_X11_chance_72 {s : Int → Int → Int} {Q : Option jV → (Int → Int → Int) → Prop} {v3 v4 v6 v7 v8 v10 : Int} (v : (jr32 v10 ∧ jr32 v7 ∧ ((v7 < v10 → ((0 ≤ (v4 + v6) ∧ (v4 + v6) ≤ 30) ∧ jr32 v3 ∧ ((v3 ≠ 0 → (jr32 (s 146 0) ∧ jr64 (v8 * (s 146 0)) ∧ jr64 (cb (v4 + v6) v7) ∧ (((v8 * (s 146 0)) ≤ (cb (v4 + v6) v7) → ((0 ≤ (v8 * (s 146 0)) ∧ (v8 * (s 146 0)) ≤ 9223372036854775807) ∧ (0 < (cb (v4 + v6) v7) ∧ (cb (v4 + v6) v7) ≤ 9223372036854775807) ∧ (∀ (y13 : Int) (s14 : Int → Int → Int), (y13 = 1 ∧ RF (fun q => 0 ≤ q ∧ q ≤ 4) s s14 ∧ RG s14 0 ((v8 * (s 146 0)) / gc (v8 * (s 146 0)) (cb (v4 + v6) v7)) ∧ RG s14 1 ((cb (v4 + v6) v7) / gc (v8 * (s 146 0)) (cb (v4 + v6) v7))) → Q (some (jI y13)) s14))) ∧ (¬ ((v8 * (s 146 0)) ≤ (cb (v4 + v6) v7)) → (∀ (y16 : Int) (s17 : Int → Int → Int), (y16 = 1 ∧ RF (fun q => 0 ≤ q ∧ q ≤ 4) s s17 ∧ RG s17 0 (1 / gc 1 1) ∧ RG s17 1 (1 / gc 1 1)) → Q (some (jI y16)) s17))))) ∧ (v3 = 0 → (jr64 v8 ∧ jr64 (cb (v4 + v6) v7) ∧ ((v8 ≤ (cb (v4 + v6) v7) → ((0 ≤ v8 ∧ v8 ≤ 9223372036854775807) ∧ (0 < (cb (v4 + v6) v7) ∧ (cb (v4 + v6) v7) ≤ 9223372036854775807) ∧ (∀ (y24 : Int) (s25 : Int → Int → Int), (y24 = 1 ∧ RF (fun q => 0 ≤ q ∧ q ≤ 4) s s25 ∧ RG s25 0 (v8 / gc v8 (cb (v4 + v6) v7)) ∧ RG s25 1 ((cb (v4 + v6) v7) / gc v8 (cb (v4 + v6) v7))) → Q (some (jI y24)) s25))) ∧ (¬ (v8 ≤ (cb (v4 + v6) v7)) → (∀ (y27 : Int) (s28 : Int → Int → Int), (y27 = 1 ∧ RF (fun q => 0 ≤ q ∧ q ≤ 4) s s28 ∧ RG s28 0 (1 / gc 1 1) ∧ RG s28 1 (1 / gc 1 1)) → Q (some (jI y27)) s28)))))))) ∧ (¬ (v7 < v10) → ((0 ≤ v4 ∧ v4 ≤ 30) ∧ (0 ≤ v6 ∧ v6 ≤ 30) ∧ jr32 (v7 - v10) ∧ kK mX11_chance 72 [jR 143, jU, jU, jI v3, jI v4, jU, jI v6, jI v7, jL (v8 + ((cb v4 v10) * (cb v6 (v7 - v10)))), jU, jI (v10 + 1), jU, jU, jU] [] s Q))))) : kK mX11_chance 72 [jR 143, jU, jU, jI v3, jI v4, jU, jI v6, jI v7, jL v8, jU, jI v10, jU, jU, jU] [] s Q := by
  obtain ⟨a1, a2, v⟩ := v
  refine k_iload dX11_chance_72 rfl ?_
  refine k_iload dX11_chance_74 rfl ?_
  obtain ⟨vt, vf⟩ := v
  refine k_icmp_gt 108 dX11_chance_76 rfl a1 a2 (fun c3 => ?_) (fun c3 => ?_)
  · have v := vt c3
    obtain ⟨a4, a5, v⟩ := v
    refine k_iload dX11_chance_108 rfl ?_
    refine k_iload dX11_chance_110 rfl ?_
    refine k_iadd dX11_chance_112 ?_
    refine k_iload dX11_chance_113 rfl ?_
    refine k_invS [jI (v4 + v6), jI v7] [] dX11_chance_115 cm_X11_ways ml_X11_198 st_X11_ways rfl rfl (sp_X11_ways s (v4 + v6) v7 a4 a2) ?_
    refine k_lstore [jR 143, jU, jU, jI v3, jI v4, jU, jI v6, jI v7, jL v8, jU, jL (cb (v4 + v6) v7), jU, jU, jU] dX11_chance_118 rfl rfl ?_
    refine k_iload_n dX11_chance_120 rfl ?_
    obtain ⟨vt, vf⟩ := v
    refine k_if_ne 129 dX11_chance_121 rfl a5 (fun c6 => ?_) (fun c6 => ?_)
    · have v := vt c6
      obtain ⟨a7, a8, a9, v⟩ := v
      refine k_lload dX11_chance_129 rfl ?_
      refine k_aload_n dX11_chance_131 rfl ?_
      refine k_getr dX11_chance_132 fl_X11_16 sh_143 (by decide) rfl ?_
      refine k_iconst dX11_chance_135 ?_
      refine k_iald 6 dX11_chance_136 sh_146 (by decide) rfl (by decide) (by decide) ?_
      refine k_i2l dX11_chance_137 a7 ?_
      refine k_lmul dX11_chance_138 ?_
      refine k_lstore [jR 143, jU, jU, jI v3, jI v4, jU, jI v6, jI v7, jL v8, jU, jL (cb (v4 + v6) v7), jU, jL (v8 * (s 146 0)), jU] dX11_chance_139 rfl rfl ?_
      refine k_lload dX11_chance_141 rfl ?_
      refine k_lload dX11_chance_143 rfl ?_
      obtain ⟨vt, vf⟩ := v
      refine k_lcmp_if_le 158 dX11_chance_145 dX11_chance_146 rfl a8 a9 (fun c10 => ?_) (fun c10 => ?_)
      · have v := vt c10
        obtain ⟨a11, a12, v⟩ := v
        refine k_aload_n dX11_chance_158 rfl ?_
        refine k_lload dX11_chance_159 rfl ?_
        refine k_lload dX11_chance_161 rfl ?_
        refine k_invVR [jL (v8 * (s 146 0)), jL (cb (v4 + v6) v7)] [] dX11_chance_163 cm_X11_told ml_X11_163 im_X11_told se_X11_told rfl sh_143 (by decide) rfl rfl (sp_X11_told s (v8 * (s 146 0)) (cb (v4 + v6) v7) a11 a12) (fun _ s14 q15 => ?_)
        obtain ⟨y13, rfl, q15⟩ := q15
        have v := v y13 s14 q15
        exact k_ireturn (st := []) dX11_chance_166 rfl v
      · have v := vf c10
        refine k_aload_n dX11_chance_149 rfl ?_
        refine k_lconst 1 dX11_chance_150 rfl ?_
        refine k_lconst 1 dX11_chance_151 rfl ?_
        refine k_invVR [jL 1, jL 1] [] dX11_chance_152 cm_X11_told ml_X11_163 im_X11_told se_X11_told rfl sh_143 (by decide) rfl rfl (sp_X11_told s 1 1 (by decide) (by decide)) (fun _ s17 q18 => ?_)
        obtain ⟨y16, rfl, q18⟩ := q18
        have v := v y16 s17 q18
        refine k_goto 166 dX11_chance_155 rfl ?_
        exact k_ireturn (st := []) dX11_chance_166 rfl v
    · have v := vf c6
      obtain ⟨a19, a20, v⟩ := v
      refine k_lload dX11_chance_124 rfl ?_
      refine k_goto 139 dX11_chance_126 rfl ?_
      refine k_lstore [jR 143, jU, jU, jI v3, jI v4, jU, jI v6, jI v7, jL v8, jU, jL (cb (v4 + v6) v7), jU, jL v8, jU] dX11_chance_139 rfl rfl ?_
      refine k_lload dX11_chance_141 rfl ?_
      refine k_lload dX11_chance_143 rfl ?_
      obtain ⟨vt, vf⟩ := v
      refine k_lcmp_if_le 158 dX11_chance_145 dX11_chance_146 rfl a19 a20 (fun c21 => ?_) (fun c21 => ?_)
      · have v := vt c21
        obtain ⟨a22, a23, v⟩ := v
        refine k_aload_n dX11_chance_158 rfl ?_
        refine k_lload dX11_chance_159 rfl ?_
        refine k_lload dX11_chance_161 rfl ?_
        refine k_invVR [jL v8, jL (cb (v4 + v6) v7)] [] dX11_chance_163 cm_X11_told ml_X11_163 im_X11_told se_X11_told rfl sh_143 (by decide) rfl rfl (sp_X11_told s v8 (cb (v4 + v6) v7) a22 a23) (fun _ s25 q26 => ?_)
        obtain ⟨y24, rfl, q26⟩ := q26
        have v := v y24 s25 q26
        exact k_ireturn (st := []) dX11_chance_166 rfl v
      · have v := vf c21
        refine k_aload_n dX11_chance_149 rfl ?_
        refine k_lconst 1 dX11_chance_150 rfl ?_
        refine k_lconst 1 dX11_chance_151 rfl ?_
        refine k_invVR [jL 1, jL 1] [] dX11_chance_152 cm_X11_told ml_X11_163 im_X11_told se_X11_told rfl sh_143 (by decide) rfl rfl (sp_X11_told s 1 1 (by decide) (by decide)) (fun _ s28 q29 => ?_)
        obtain ⟨y27, rfl, q29⟩ := q29
        have v := v y27 s28 q29
        refine k_goto 166 dX11_chance_155 rfl ?_
        exact k_ireturn (st := []) dX11_chance_166 rfl v
  · have v := vf c3
    obtain ⟨a30, a31, a32, v⟩ := v
    refine k_lload dX11_chance_79 rfl ?_
    refine k_iload dX11_chance_81 rfl ?_
    refine k_iload dX11_chance_83 rfl ?_
    refine k_invS [jI v4, jI v10] [jL v8] dX11_chance_85 cm_X11_ways ml_X11_198 st_X11_ways rfl rfl (sp_X11_ways s v4 v10 a30 a1) ?_
    refine k_iload dX11_chance_88 rfl ?_
    refine k_iload dX11_chance_90 rfl ?_
    refine k_iload dX11_chance_92 rfl ?_
    refine k_isub dX11_chance_94 ?_
    refine k_invS [jI v6, jI (v7 - v10)] [jL (cb v4 v10), jL v8] dX11_chance_95 cm_X11_ways ml_X11_198 st_X11_ways rfl rfl (sp_X11_ways s v6 (v7 - v10) a31 a32) ?_
    refine k_lmul dX11_chance_98 ?_
    refine k_ladd dX11_chance_99 ?_
    refine k_lstore [jR 143, jU, jU, jI v3, jI v4, jU, jI v6, jI v7, jL (v8 + ((cb v4 v10) * (cb v6 (v7 - v10)))), jU, jI v10, jU, jU, jU] dX11_chance_100 rfl rfl ?_
    refine k_iinc [jR 143, jU, jU, jI v3, jI v4, jU, jI v6, jI v7, jL (v8 + ((cb v4 v10) * (cb v6 (v7 - v10)))), jU, jI (v10 + 1), jU, jU, jU] dX11_chance_102 rfl rfl rfl ?_
    refine k_goto 72 dX11_chance_105 rfl ?_
    exact v
def lo (s : Int → Int → Int) (g w : Int) : Int := sg (s 146 3) (fun l => jbo (s 151 (s 153 l) = g ∧ s 150 (s 153 l) = w))
def lw (s : Int → Int → Int) (x g w : Int) : Int := sg (s 146 3) (fun l => jbo ((s 151 (s 153 l) = g ∧ s 150 (s 153 l) = w) ∧ 0 < stc s l x))
theorem lo_fr {s s' : Int → Int → Int} (f : ∀ k, 146 ≤ k → k ≤ 156 → s' k = s k) : lo s' = lo s := by
  funext g w
  unfold lo
  rw [f 146 (by omega) (by omega), f 150 (by omega) (by omega), f 151 (by omega) (by omega), f 153 (by omega) (by omega)]
theorem lw_fr {s s' : Int → Int → Int} (f : ∀ k, 146 ≤ k → k ≤ 156 → s' k = s k) : lw s' = lw s := by
  funext x g w
  unfold lw stc
  rw [f 146 (by omega) (by omega), f 150 (by omega) (by omega), f 151 (by omega) (by omega), f 153 (by omega) (by omega), f 155 (by omega) (by omega), f 156 (by omega) (by omega)]
theorem lo_b {s : Int → Int → Int} (d : DD s) (x g : Int) : (0 ≤ lw s x g 1 ∧ lw s x g 1 ≤ lo s g 1) ∧ (0 ≤ lw s x g 2 ∧ lw s x g 2 ≤ lo s g 2) ∧ lo s g 1 + lo s g 2 ≤ 30 := by
  obtain ⟨e0, e1, e2, e3⟩ := d.cnt
  have a : ∀ w, 0 ≤ lw s x g w ∧ lw s x g w ≤ lo s g w := fun w => ⟨sg_nn (fun l _ _ => (jbo_01' _).1), sg_le (fun l _ _ => jbo_le (fun q => q.1))⟩
  refine ⟨a 1, a 2, ?_⟩
  have b := sg_add (s 146 3) (fun l => jbo (s 151 (s 153 l) = g ∧ s 150 (s 153 l) = 1)) (fun l => jbo (s 151 (s 153 l) = g ∧ s 150 (s 153 l) = 2))
  have c := sg_b (n := s 146 3) (f := fun l => jbo (s 151 (s 153 l) = g ∧ s 150 (s 153 l) = 1) + jbo (s 151 (s 153 l) = g ∧ s 150 (s 153 l) = 2)) (a := 0) (b := 1) e3.2.1 (fun l _ _ => by
    have h1 := jbo_01' (s 151 (s 153 l) = g ∧ s 150 (s 153 l) = 1)
    have h2 := jbo_01' (s 151 (s 153 l) = g ∧ s 150 (s 153 l) = 2)
    by_cases q : s 151 (s 153 l) = g ∧ s 150 (s 153 l) = 1
    · rw [jbo_f (p := s 151 (s 153 l) = g ∧ s 150 (s 153 l) = 2) (fun c => by have := c.2; have := q.2; omega)]; omega
    · rw [jbo_f q]; omega)
  unfold lo
  omega
def chV (h g x w : Int) : Int := sg (w + 1 - x) (fun j => cb h (x + j) * cb g (w - (x + j)))
def chZ (a3 n V A : Int) : Int := if a3 = 0 then V else min (V * n) A
theorem gc_self {a : Int} (h : 0 ≤ a) : gc a a = a := by
  obtain ⟨m, rfl⟩ := nat_of h
  rw [gc_n, Nat.gcd_self]
theorem sp_X10_chl {s : Int → Int → Int} (a3 h g x y n : Int) (hn : s 2 10 = n) (n0 : 0 ≤ n ∧ n ≤ 8) (h3 : jr32 a3) (c3 : 0 ≤ a3 ∧ a3 ≤ 1) (b1 : 0 ≤ x ∧ x ≤ h) (b2 : 0 ≤ y ∧ y ≤ g) (b3 : h + g ≤ 30) (Q : Option jV → (Int → Int → Int) → Prop) (fin : ∀ s1, frm fcP s s1 → FC s1 (chZ a3 n (chV h g x (x + y)) (cb (h + g) (x + y))) (cb (h + g) (x + y)) → Q (some (jI 1)) s1) : kK mX10_chance 83 [jR 1, jU, jU, jI a3, jI h, jI g, jU, jI (x + y), jL 0, jU, jI x, jU] [] s Q := by
  have p1 := cb_p (n := h + g) (k := x + y) (by omega) (by omega)
  have p2 := cb_b (n := h + g) (k := x + y) (by omega)
  have key : ∀ i, i ≤ y + 1 → 0 ≤ i → kK mX10_chance 83 [jR 1, jU, jU, jI a3, jI h, jI g, jU, jI (x + y), jL (sg i (fun j => cb h (x + j) * cb g (x + y - (x + j)))), jU, jI (x + i), jU] [] s Q := by
    refine lp_up _ _ (fun i hi ih i0 => ?_)
    have vb := vnd_le (h := h) (g := g) (x := x) (w := x + y) (by omega) (by omega) b1.1 i i0 (by omega)
    refine g_X10_chance_83 ⟨by unfold jr32; omega, by unfold jr32; omega, fun q => ?_, fun q => ⟨by omega, by omega, by unfold jr32; omega, ?_⟩⟩
    · have ev : sg i (fun j => cb h (x + j) * cb g (x + y - (x + j))) = chV h g x (x + y) := by
        unfold chV
        rw [show x + y + 1 - x = i by omega]
      rw [ev] at vb ⊢
      rw [hn]
      have m0 := Int.mul_nonneg vb.1 n0.1
      have m1 : chV h g x (x + y) * n ≤ 1073741824 * 8 := Int.mul_le_mul (by omega) n0.2 n0.1 (by omega)
      refine ⟨by omega, h3, fun q2 => ⟨by omega, by omega, fun s1 q3 => fin s1 q3.1 ?_⟩, fun q2 => ⟨by unfold jr32; omega, by unfold jr64; omega, by unfold jr64; omega, by omega, by omega, fun s1 q3 => fin s1 q3.1 ?_⟩⟩
      · unfold chZ
        rw [if_pos (by omega)]
        exact q3.2
      · unfold chZ
        rw [if_neg (by omega)]
        exact q3.2
    · have := ih (by omega) (by omega)
      rw [sg_s i0] at this
      rw [show x + i + 1 = x + (i + 1) by omega]
      exact this
  have := key 0 (by omega) (by omega)
  rw [Int.add_zero] at this
  exact this
theorem sp_X11_chl {s : Int → Int → Int} (a3 h g x y n : Int) (hn : s 146 0 = n) (n0 : 0 ≤ n ∧ n ≤ 8) (h3 : jr32 a3) (c3 : 0 ≤ a3 ∧ a3 ≤ 1) (b1 : 0 ≤ x ∧ x ≤ h) (b2 : 0 ≤ y ∧ y ≤ g) (b3 : h + g ≤ 30) (Q : Option jV → (Int → Int → Int) → Prop) (fin : ∀ s1, RF (fun q => 0 ≤ q ∧ q ≤ 4) s s1 → RG s1 0 (chZ a3 n (chV h g x (x + y)) (cb (h + g) (x + y)) / gc (chZ a3 n (chV h g x (x + y)) (cb (h + g) (x + y))) (cb (h + g) (x + y))) → RG s1 1 (cb (h + g) (x + y) / gc (chZ a3 n (chV h g x (x + y)) (cb (h + g) (x + y))) (cb (h + g) (x + y))) → Q (some (jI 1)) s1) : kK mX11_chance 72 [jR 143, jU, jU, jI a3, jI h, jU, jI g, jI (x + y), jL 0, jU, jI x, jU, jU, jU] [] s Q := by
  have p1 := cb_p (n := h + g) (k := x + y) (by omega) (by omega)
  have p2 := cb_b (n := h + g) (k := x + y) (by omega)
  have key : ∀ i, i ≤ y + 1 → 0 ≤ i → kK mX11_chance 72 [jR 143, jU, jU, jI a3, jI h, jU, jI g, jI (x + y), jL (sg i (fun j => cb h (x + j) * cb g (x + y - (x + j)))), jU, jI (x + i), jU, jU, jU] [] s Q := by
    refine lp_up _ _ (fun i hi ih i0 => ?_)
    have vb := vnd_le (h := h) (g := g) (x := x) (w := x + y) (by omega) (by omega) b1.1 i i0 (by omega)
    refine g_X11_chance_72 ⟨by unfold jr32; omega, by unfold jr32; omega, fun q => ?_, fun q => ⟨by omega, by omega, by unfold jr32; omega, ?_⟩⟩
    · have ev : sg i (fun j => cb h (x + j) * cb g (x + y - (x + j))) = chV h g x (x + y) := by
        unfold chV
        rw [show x + y + 1 - x = i by omega]
      rw [ev] at vb ⊢
      rw [hn]
      have m0 := Int.mul_nonneg vb.1 n0.1
      have m1 : chV h g x (x + y) * n ≤ 1073741824 * 8 := Int.mul_le_mul (by omega) n0.2 n0.1 (by omega)
      refine ⟨by omega, h3, fun q2 => ⟨by unfold jr32; omega, by unfold jr64; omega, by unfold jr64; omega, fun q3 => ⟨by omega, by omega, fun y1 s1 q4 => ?_⟩, fun q3 y1 s1 q4 => ?_⟩, fun q2 => ⟨by unfold jr64; omega, by unfold jr64; omega, fun q3 => ⟨by omega, by omega, fun y1 s1 q4 => ?_⟩, fun q3 => by omega⟩⟩
      · have z : chZ a3 n (chV h g x (x + y)) (cb (h + g) (x + y)) = chV h g x (x + y) * n := by
          unfold chZ; rw [if_neg (by omega)]; omega
        rw [q4.1]
        exact fin s1 q4.2.1 (by rw [z]; exact q4.2.2.1) (by rw [z]; exact q4.2.2.2)
      · have z : chZ a3 n (chV h g x (x + y)) (cb (h + g) (x + y)) = cb (h + g) (x + y) := by
          unfold chZ; rw [if_neg (by omega)]; omega
        have o : cb (h + g) (x + y) / gc (cb (h + g) (x + y)) (cb (h + g) (x + y)) = 1 / gc 1 1 := by
          rw [gc_self (by omega), Int.ediv_self (by omega)]; rfl
        rw [q4.1]
        exact fin s1 q4.2.1 (by rw [z, o]; exact q4.2.2.1) (by rw [z, o]; exact q4.2.2.2)
      · have z : chZ a3 n (chV h g x (x + y)) (cb (h + g) (x + y)) = chV h g x (x + y) := by
          unfold chZ; rw [if_pos (by omega)]
        rw [q4.1]
        exact fin s1 q4.2.1 (by rw [z]; exact q4.2.2.1) (by rw [z]; exact q4.2.2.2)
    · have := ih (by omega) (by omega)
      rw [sg_s i0] at this
      rw [show x + i + 1 = x + (i + 1) by omega]
      exact this
  have := key 0 (by omega) (by omega)
  rw [Int.add_zero] at this
  exact this
theorem op_chance {S0 : Int → Int} {s : Int → Int → Int} (hI : Inv S0 s) (a1 a2 a3 : Int) (h1 : jr32 a1) (h2 : jr32 a2) (h3 : jr32 a3) : jop mX10_chance mX11_chance [jI a1, jI a2, jI a3] S0 s := by
  have hd := hI.dd
  obtain ⟨e0, e1, e2, e3⟩ := hd.cnt
  by_cases c : ((0 ≤ a1 ∧ a1 ≤ s 146 0 - 1) ∧ 0 ≤ a2 ∧ a2 ≤ 3) ∧ 0 ≤ a3 ∧ a3 ≤ 1
  · obtain ⟨⟨c1, c2⟩, c3⟩ := c
    obtain ⟨b1, b2, b3⟩ := lo_b hd a1 a2
    refine jop.f _ _ hI (g_X10_chance ⟨h1, hd.wc, fun q => absurd c1 (by omega), fun _ => ⟨h2, fun q => absurd c2 q, fun _ => ⟨h3, fun _ => ⟨hd, by omega, sp_X10_chl (s := s) a3 (lo s a2 1) (lo s a2 2) (lw s a1 a2 1) (lw s a1 a2 2) (s 146 0) e0.1 (by omega) h3 c3 b1 b2 b3 _ (fun s1 f g => ⟨rfl, fc_of (frm.rf (P := ofP)) f (fun _ e => e), g⟩)⟩, fun q => absurd c3 q⟩⟩⟩) (fun s1 f => ?_) trivial
    have d1 := hI.ofd f
    have fk : ∀ k, 146 ≤ k → k ≤ 156 → s1 k = s k := fun k k0 k1 => f k (fun c => by unfold ofP jtmp jpers at c; omega)
    have k146 : s1 146 = s 146 := fk 146 (by omega) (by omega)
    have l1 : ∀ w z : Int, z = 0 → sg (s1 146 3) (fun l => jbo ((s1 151 (s1 153 l) = a2 ∧ s1 150 (s1 153 l) = w) ∧ (z = 0 ∨ 0 < stc s1 l a1))) = lo s a2 w := fun w z hz => by
      rw [← lo_fr fk]
      exact sg_c (fun l _ _ => jbo_c ⟨fun q => q.1, fun q => ⟨q, Or.inl hz⟩⟩)
    have l2 : ∀ w z : Int, z = 1 → sg (s1 146 3) (fun l => jbo ((s1 151 (s1 153 l) = a2 ∧ s1 150 (s1 153 l) = w) ∧ (z = 0 ∨ 0 < stc s1 l a1))) = lw s a1 a2 w := fun w z hz => by
      rw [← lw_fr fk]
      exact sg_c (fun l _ _ => jbo_c ⟨fun q => ⟨q.1, q.2.resolve_left (by omega)⟩, fun q => ⟨q.1, Or.inr q.2⟩⟩)
    refine g_X11_chance ⟨d1, h1, h2, fun q => absurd ⟨by rw [k146]; exact c1, c2⟩ q, fun _ => ⟨h3, j3264 h3, fun _ => ?_, fun q => absurd c3 q⟩⟩
    rw [l1 1 0 rfl, l1 2 0 rfl, l2 1 1 rfl, l2 2 1 rfl]
    exact sp_X11_chl (s := s1) a3 (lo s a2 1) (lo s a2 2) (lw s a1 a2 1) (lw s a1 a2 2) (s 146 0) (by rw [k146]) (by omega) h3 c3 b1 b2 b3 _ (fun s2 f2 g0 g1 => ⟨rfl, rf_mf f2, g0, g1⟩)
  · exact jop.q (y := -2) hI (by decide) (g_X10_chance ⟨h1, hd.wc, fun _ => ⟨rfl, rfl⟩, fun c1 => ⟨h2, fun _ => ⟨rfl, rfl⟩, fun c2 => ⟨h3, fun c3 => absurd ⟨⟨by omega, c2⟩, c3⟩ c, fun _ => ⟨rfl, rfl⟩⟩⟩⟩)
      (g_X11_chance ⟨hd, h1, h2, fun _ => ⟨rfl, rfl⟩, fun c1 => ⟨h3, j3264 h3, fun c3 => absurd ⟨c1, c3⟩ c, fun _ => ⟨rfl, rfl⟩⟩⟩)
