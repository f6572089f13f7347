theorem g_X11_lowers {s : Int → Int → Int} {Q : Option jV → (Int → Int → Int) → Prop} (v : (jr32 (s 145 0) ∧ (((s 145 0) ≠ 0 → kK mX11_lowers 16 [jR 143, jU] [] s Q) ∧ ((s 145 0) = 0 → (∀ (s4 : Int → Int → Int), (RF (fun q => q = 1) s s4 ∧ RG s4 1 1) → Q none s4))))) : kR mX11_lowers [jR 143] s Q := by
  show kK mX11_lowers 0 [jR 143, jU] [] s Q
  obtain ⟨a1, v⟩ := v
  refine k_aload_n dX11_lowers_0 rfl ?_
  refine k_getr dX11_lowers_1 fl_X11_13 sh_143 (by decide) rfl ?_
  refine k_iconst dX11_lowers_4 ?_
  refine k_iald 15 dX11_lowers_5 sh_145 (by decide) rfl (by decide) (by decide) ?_
  obtain ⟨vt, vf⟩ := v
  refine k_if_ne 16 dX11_lowers_6 rfl a1 (fun c2 => ?_) (fun c2 => ?_)
  · have v := vt c2
    exact v
  · have v := vf c2
    refine k_aload_n dX11_lowers_9 rfl ?_
    refine k_iconst dX11_lowers_10 ?_
    refine k_lconst 1 dX11_lowers_11 rfl ?_
    refine k_invVR [jI 1, jL 1] [] dX11_lowers_12 cm_X11_sets ml_X11_85 im_X11_sets se_X11_sets rfl sh_143 (by decide) rfl rfl (sp_X11_sets s 1 1 (by decide) (by decide)) (fun _ s4 q5 => ?_)
    obtain ⟨rfl, q5⟩ := q5
    have v := v s4 q5
    exact k_return (st := []) dX11_lowers_15 rfl v
theorem g_X11_lowers_16 {s : Int → Int → Int} {Q : Option jV → (Int → Int → Int) → Prop} (v : ((RG s 0 (rv s 0)) ∧ ((¬ (rv s 0 % 2 = 0) → (∀ (s4 : Int → Int → Int), (RF (fun q => q = 2) s s4 ∧ RG s4 2 (rv s 0)) → ((RG s4 1 (rv s4 1)) ∧ (∀ (s8 : Int → Int → Int), (RF (fun q => q = 3) s4 s8 ∧ RG s8 3 (rv s4 1)) → kK mX11_lowers 57 [jR 143, jU] [] s8 Q)))) ∧ (rv s 0 % 2 = 0 → ((RG s 1 (rv s 1)) ∧ ((¬ (rv s 1 % 2 = 0) → (∀ (s13 : Int → Int → Int), (RF (fun q => q = 2) s s13 ∧ RG s13 2 (rv s 0)) → ((RG s13 1 (rv s13 1)) ∧ (∀ (s17 : Int → Int → Int), (RF (fun q => q = 3) s13 s17 ∧ RG s17 3 (rv s13 1)) → kK mX11_lowers 57 [jR 143, jU] [] s17 Q)))) ∧ (rv s 1 % 2 = 0 → (∀ (s20 : Int → Int → Int), (RF (fun q => q = 0) s s20 ∧ RG s20 0 (rv s 0 / 2)) → ((RG s20 1 (rv s20 1)) ∧ (∀ (s24 : Int → Int → Int), (RF (fun q => q = 1) s20 s24 ∧ RG s24 1 (rv s20 1 / 2)) → kK mX11_lowers 16 [jR 143, jU] [] s24 Q)))))))))) : kK mX11_lowers 16 [jR 143, jU] [] s Q := by
  obtain ⟨a1, v⟩ := v
  refine k_aload_n dX11_lowers_16 rfl ?_
  refine k_iconst dX11_lowers_17 ?_
  refine k_invV [jI 0] [] dX11_lowers_18 cm_X11_isEven ml_X11_100 im_X11_isEven se_X11_isEven rfl sh_143 (by decide) rfl rfl (sp_X11_isEven s 0 (by decide) a1) ?_
  obtain ⟨vt, vf⟩ := v
  refine k_ifb_eq 45 dX11_lowers_21 rfl (fun c2 => ?_) (fun c2 => ?_)
  · have v := vt c2
    refine k_aload_n dX11_lowers_45 rfl ?_
    refine k_iconst dX11_lowers_46 ?_
    refine k_iconst dX11_lowers_47 ?_
    refine k_invVR [jI 2, jI 0] [] dX11_lowers_48 cm_X11_takes ml_X11_95 im_X11_takes se_X11_takes rfl sh_143 (by decide) rfl rfl (sp_X11_takes s 2 0 (by decide) a1) (fun _ s4 q5 => ?_)
    obtain ⟨rfl, q5⟩ := q5
    have v := v s4 q5
    obtain ⟨a6, v⟩ := v
    refine k_aload_n dX11_lowers_51 rfl ?_
    refine k_iconst dX11_lowers_52 ?_
    refine k_iconst dX11_lowers_53 ?_
    refine k_invVR [jI 3, jI 1] [] dX11_lowers_54 cm_X11_takes ml_X11_95 im_X11_takes se_X11_takes rfl sh_143 (by decide) rfl rfl (sp_X11_takes s4 3 1 (by decide) a6) (fun _ s8 q9 => ?_)
    obtain ⟨rfl, q9⟩ := q9
    have v := v s8 q9
    exact v
  · have v := vf c2
    obtain ⟨a10, v⟩ := v
    refine k_aload_n dX11_lowers_24 rfl ?_
    refine k_iconst dX11_lowers_25 ?_
    refine k_invV [jI 1] [] dX11_lowers_26 cm_X11_isEven ml_X11_100 im_X11_isEven se_X11_isEven rfl sh_143 (by decide) rfl rfl (sp_X11_isEven s 1 (by decide) a10) ?_
    obtain ⟨vt, vf⟩ := v
    refine k_ifb_eq 45 dX11_lowers_29 rfl (fun c11 => ?_) (fun c11 => ?_)
    · have v := vt c11
      refine k_aload_n dX11_lowers_45 rfl ?_
      refine k_iconst dX11_lowers_46 ?_
      refine k_iconst dX11_lowers_47 ?_
      refine k_invVR [jI 2, jI 0] [] dX11_lowers_48 cm_X11_takes ml_X11_95 im_X11_takes se_X11_takes rfl sh_143 (by decide) rfl rfl (sp_X11_takes s 2 0 (by decide) a1) (fun _ s13 q14 => ?_)
      obtain ⟨rfl, q14⟩ := q14
      have v := v s13 q14
      obtain ⟨a15, v⟩ := v
      refine k_aload_n dX11_lowers_51 rfl ?_
      refine k_iconst dX11_lowers_52 ?_
      refine k_iconst dX11_lowers_53 ?_
      refine k_invVR [jI 3, jI 1] [] dX11_lowers_54 cm_X11_takes ml_X11_95 im_X11_takes se_X11_takes rfl sh_143 (by decide) rfl rfl (sp_X11_takes s13 3 1 (by decide) a15) (fun _ s17 q18 => ?_)
      obtain ⟨rfl, q18⟩ := q18
      have v := v s17 q18
      exact v
    · have v := vf c11
      refine k_aload_n dX11_lowers_32 rfl ?_
      refine k_iconst dX11_lowers_33 ?_
      refine k_invVR [jI 0] [] dX11_lowers_34 cm_X11_halves ml_X11_104 im_X11_halves se_X11_halves rfl sh_143 (by decide) rfl rfl (sp_X11_halves s 0 (by decide) a1) (fun _ s20 q21 => ?_)
      obtain ⟨rfl, q21⟩ := q21
      have v := v s20 q21
      obtain ⟨a22, v⟩ := v
      refine k_aload_n dX11_lowers_37 rfl ?_
      refine k_iconst dX11_lowers_38 ?_
      refine k_invVR [jI 1] [] dX11_lowers_39 cm_X11_halves ml_X11_104 im_X11_halves se_X11_halves rfl sh_143 (by decide) rfl rfl (sp_X11_halves s20 1 (by decide) a22) (fun _ s24 q25 => ?_)
      obtain ⟨rfl, q25⟩ := q25
      have v := v s24 q25
      refine k_goto 16 dX11_lowers_42 rfl ?_
      exact v
theorem g_X11_lowers_57 {s : Int → Int → Int} {Q : Option jV → (Int → Int → Int) → Prop} (v : (jr32 (s 145 2) ∧ (((s 145 2) ≤ 0 → ((RG s 0 (rv s 0)) ∧ (RG s 3 (rv s 3)) ∧ (rv s 3 % 2 = 1) ∧ (∃ X, 0 ≤ X ∧ rv s 0 = X * rv s 3) ∧ (∀ (s8 : Int → Int → Int), (RF (fun q => q = 0 ∨ q = 4) s s8 ∧ ∀ X, rv s 0 = X * rv s 3 → RG s8 0 X) → ((RG s8 1 (rv s8 1)) ∧ (RG s8 3 (rv s8 3)) ∧ (rv s8 3 % 2 = 1) ∧ (∃ X, 0 ≤ X ∧ rv s8 1 = X * rv s8 3) ∧ (∀ (s15 : Int → Int → Int), (RF (fun q => q = 1 ∨ q = 4) s8 s15 ∧ ∀ X, rv s8 1 = X * rv s8 3 → RG s15 1 X) → Q none s15))))) ∧ (¬ ((s 145 2) ≤ 0) → kK mX11_lowers 66 [jR 143, jU] [] s Q)))) : kK mX11_lowers 57 [jR 143, jU] [] s Q := by
  obtain ⟨a1, v⟩ := v
  refine k_aload_n dX11_lowers_57 rfl ?_
  refine k_getr dX11_lowers_58 fl_X11_13 sh_143 (by decide) rfl ?_
  refine k_iconst dX11_lowers_61 ?_
  refine k_iald 15 dX11_lowers_62 sh_145 (by decide) rfl (by decide) (by decide) ?_
  obtain ⟨vt, vf⟩ := v
  refine k_if_le 145 dX11_lowers_63 rfl a1 (fun c2 => ?_) (fun c2 => ?_)
  · have v := vt c2
    obtain ⟨a3, a4, a5, a6, v⟩ := v
    refine k_aload_n dX11_lowers_145 rfl ?_
    refine k_iconst dX11_lowers_146 ?_
    refine k_invVR [jI 0] [] dX11_lowers_147 cm_X11_parts ml_X11_114 im_X11_parts se_X11_parts rfl sh_143 (by decide) rfl rfl (sp_X11_parts s 0 (by decide) a3 a4 a5 a6) (fun _ s8 q9 => ?_)
    obtain ⟨rfl, q9⟩ := q9
    have v := v s8 q9
    obtain ⟨a10, a11, a12, a13, v⟩ := v
    refine k_aload_n dX11_lowers_150 rfl ?_
    refine k_iconst dX11_lowers_151 ?_
    refine k_invVR [jI 1] [] dX11_lowers_152 cm_X11_parts ml_X11_114 im_X11_parts se_X11_parts rfl sh_143 (by decide) rfl rfl (sp_X11_parts s8 1 (by decide) a10 a11 a12 a13) (fun _ s15 q16 => ?_)
    obtain ⟨rfl, q16⟩ := q16
    have v := v s15 q16
    exact k_return (st := []) dX11_lowers_155 rfl v
  · have v := vf c2
    exact v
theorem g_X11_lowers_66 {s : Int → Int → Int} {Q : Option jV → (Int → Int → Int) → Prop} (v : ((RG s 2 (rv s 2)) ∧ ((¬ (rv s 2 % 2 = 0) → kK mX11_lowers 82 [jR 143, jU] [] s Q) ∧ (rv s 2 % 2 = 0 → (∀ (s4 : Int → Int → Int), (RF (fun q => q = 2) s s4 ∧ RG s4 2 (rv s 2 / 2)) → kK mX11_lowers 66 [jR 143, jU] [] s4 Q))))) : kK mX11_lowers 66 [jR 143, jU] [] s Q := by
  obtain ⟨a1, v⟩ := v
  refine k_aload_n dX11_lowers_66 rfl ?_
  refine k_iconst dX11_lowers_67 ?_
  refine k_invV [jI 2] [] dX11_lowers_68 cm_X11_isEven ml_X11_100 im_X11_isEven se_X11_isEven rfl sh_143 (by decide) rfl rfl (sp_X11_isEven s 2 (by decide) a1) ?_
  obtain ⟨vt, vf⟩ := v
  refine k_ifb_eq 82 dX11_lowers_71 rfl (fun c2 => ?_) (fun c2 => ?_)
  · have v := vt c2
    exact v
  · have v := vf c2
    refine k_aload_n dX11_lowers_74 rfl ?_
    refine k_iconst dX11_lowers_75 ?_
    refine k_invVR [jI 2] [] dX11_lowers_76 cm_X11_halves ml_X11_104 im_X11_halves se_X11_halves rfl sh_143 (by decide) rfl rfl (sp_X11_halves s 2 (by decide) a1) (fun _ s4 q5 => ?_)
    obtain ⟨rfl, q5⟩ := q5
    have v := v s4 q5
    refine k_goto 66 dX11_lowers_79 rfl ?_
    exact v
theorem g_X11_lowers_82 {s : Int → Int → Int} {Q : Option jV → (Int → Int → Int) → Prop} (v : ((RG s 3 (rv s 3)) ∧ ((¬ (rv s 3 % 2 = 0) → ((RG s 2 (rv s 2)) ∧ (∀ (y4 : Int) (s5 : Int → Int → Int), (((y4 < 0 ↔ rv s 2 < rv s 3) ∧ (0 < y4 ↔ rv s 3 < rv s 2) ∧ jr32 y4) ∧ s5 = s) → (jr32 y4 ∧ ((y4 < 0 → ((RG s5 3 (rv s5 3)) ∧ (RG s5 (5 - 3) (rv s5 (5 - 3))) ∧ (rv s5 (5 - 3) ≤ rv s5 3) ∧ (∀ (s13 : Int → Int → Int), (RF (fun q => q = 3) s5 s13 ∧ RG s13 3 (rv s5 3 - rv s5 (5 - 3))) → (jr32 (s13 145 3) ∧ (((s13 145 3) ≠ 0 → kK mX11_lowers 57 [jR 143, jU] [] s13 Q) ∧ ((s13 145 3) = 0 → ((RG s13 2 (rv s13 2)) ∧ (∀ (s19 : Int → Int → Int), (RF (fun q => q = 3) s13 s19 ∧ RG s19 3 (rv s13 2)) → (∀ (s22 : Int → Int → Int), (RF (fun q => q = 2) s19 s22 ∧ RG s22 2 0) → kK mX11_lowers 57 [jR 143, jU] [] s22 Q))))))))) ∧ (¬ (y4 < 0) → ((RG s5 2 (rv s5 2)) ∧ (RG s5 (5 - 2) (rv s5 (5 - 2))) ∧ (rv s5 (5 - 2) ≤ rv s5 2) ∧ (∀ (s28 : Int → Int → Int), (RF (fun q => q = 2) s5 s28 ∧ RG s28 2 (rv s5 2 - rv s5 (5 - 2))) → (jr32 (s28 145 3) ∧ (((s28 145 3) ≠ 0 → kK mX11_lowers 57 [jR 143, jU] [] s28 Q) ∧ ((s28 145 3) = 0 → ((RG s28 2 (rv s28 2)) ∧ (∀ (s34 : Int → Int → Int), (RF (fun q => q = 3) s28 s34 ∧ RG s34 3 (rv s28 2)) → (∀ (s37 : Int → Int → Int), (RF (fun q => q = 2) s34 s37 ∧ RG s37 2 0) → kK mX11_lowers 57 [jR 143, jU] [] s37 Q)))))))))))))) ∧ (rv s 3 % 2 = 0 → (∀ (s40 : Int → Int → Int), (RF (fun q => q = 3) s s40 ∧ RG s40 3 (rv s 3 / 2)) → kK mX11_lowers 82 [jR 143, jU] [] s40 Q))))) : kK mX11_lowers 82 [jR 143, jU] [] s Q := by
  obtain ⟨a1, v⟩ := v
  refine k_aload_n dX11_lowers_82 rfl ?_
  refine k_iconst dX11_lowers_83 ?_
  refine k_invV [jI 3] [] dX11_lowers_84 cm_X11_isEven ml_X11_100 im_X11_isEven se_X11_isEven rfl sh_143 (by decide) rfl rfl (sp_X11_isEven s 3 (by decide) a1) ?_
  obtain ⟨vt, vf⟩ := v
  refine k_ifb_eq 98 dX11_lowers_87 rfl (fun c2 => ?_) (fun c2 => ?_)
  · have v := vt c2
    obtain ⟨a3, v⟩ := v
    refine k_aload_n dX11_lowers_98 rfl ?_
    refine k_iconst dX11_lowers_99 ?_
    refine k_iconst dX11_lowers_100 ?_
    refine k_invVR [jI 2, jI 3] [] dX11_lowers_101 cm_X11_against ml_X11_107 im_X11_against se_X11_against rfl sh_143 (by decide) rfl rfl (sp_X11_against s 2 3 (by decide) (by decide) a3 a1) (fun _ s5 q6 => ?_)
    obtain ⟨y4, rfl, q6⟩ := q6
    have v := v y4 s5 q6
    obtain ⟨a7, v⟩ := v
    obtain ⟨vt, vf⟩ := v
    refine k_if_lt 111 dX11_lowers_104 rfl a7 (fun c8 => ?_) (fun c8 => ?_)
    · have v := vt c8
      obtain ⟨a9, a10, a11, v⟩ := v
      refine k_iconst dX11_lowers_111 ?_
      refine k_istore_n [jR 143, jI 3] dX11_lowers_112 rfl rfl ?_
      refine k_aload_n dX11_lowers_113 rfl ?_
      refine k_iload_n dX11_lowers_114 rfl ?_
      refine k_iconst dX11_lowers_115 ?_
      refine k_iload_n dX11_lowers_116 rfl ?_
      refine k_isub dX11_lowers_117 ?_
      refine k_invVR [jI 3, jI (5 - 3)] [] dX11_lowers_118 cm_X11_lessens ml_X11_111 im_X11_lessens se_X11_lessens rfl sh_143 (by decide) rfl rfl (sp_X11_lessens s5 3 (5 - 3) (by decide) a9 a10 a11) (fun _ s13 q14 => ?_)
      obtain ⟨rfl, q14⟩ := q14
      have v := v s13 q14
      obtain ⟨a15, v⟩ := v
      refine k_aload_n dX11_lowers_121 rfl ?_
      refine k_getr dX11_lowers_122 fl_X11_13 sh_143 (by decide) rfl ?_
      refine k_iconst dX11_lowers_125 ?_
      refine k_iald 15 dX11_lowers_126 sh_145 (by decide) rfl (by decide) (by decide) ?_
      obtain ⟨vt, vf⟩ := v
      refine k_if_ne 142 dX11_lowers_127 rfl a15 (fun c16 => ?_) (fun c16 => ?_)
      · have v := vt c16
        refine k_goto 57 dX11_lowers_142 rfl ?_
        refine k_drop [jR 143, jU] ⟨Or.inr rfl, Or.inl rfl, trivial⟩ ?_
        exact v
      · have v := vf c16
        obtain ⟨a17, v⟩ := v
        refine k_aload_n dX11_lowers_130 rfl ?_
        refine k_iconst dX11_lowers_131 ?_
        refine k_iconst dX11_lowers_132 ?_
        refine k_invVR [jI 3, jI 2] [] dX11_lowers_133 cm_X11_takes ml_X11_95 im_X11_takes se_X11_takes rfl sh_143 (by decide) rfl rfl (sp_X11_takes s13 3 2 (by decide) a17) (fun _ s19 q20 => ?_)
        obtain ⟨rfl, q20⟩ := q20
        have v := v s19 q20
        refine k_aload_n dX11_lowers_136 rfl ?_
        refine k_iconst dX11_lowers_137 ?_
        refine k_lconst 0 dX11_lowers_138 rfl ?_
        refine k_invVR [jI 2, jL 0] [] dX11_lowers_139 cm_X11_sets ml_X11_85 im_X11_sets se_X11_sets rfl sh_143 (by decide) rfl rfl (sp_X11_sets s19 2 0 (by decide) (by decide)) (fun _ s22 q23 => ?_)
        obtain ⟨rfl, q23⟩ := q23
        have v := v s22 q23
        refine k_goto 57 dX11_lowers_142 rfl ?_
        refine k_drop [jR 143, jU] ⟨Or.inr rfl, Or.inl rfl, trivial⟩ ?_
        exact v
    · have v := vf c8
      obtain ⟨a24, a25, a26, v⟩ := v
      refine k_iconst dX11_lowers_107 ?_
      refine k_goto 112 dX11_lowers_108 rfl ?_
      refine k_istore_n [jR 143, jI 2] dX11_lowers_112 rfl rfl ?_
      refine k_aload_n dX11_lowers_113 rfl ?_
      refine k_iload_n dX11_lowers_114 rfl ?_
      refine k_iconst dX11_lowers_115 ?_
      refine k_iload_n dX11_lowers_116 rfl ?_
      refine k_isub dX11_lowers_117 ?_
      refine k_invVR [jI 2, jI (5 - 2)] [] dX11_lowers_118 cm_X11_lessens ml_X11_111 im_X11_lessens se_X11_lessens rfl sh_143 (by decide) rfl rfl (sp_X11_lessens s5 2 (5 - 2) (by decide) a24 a25 a26) (fun _ s28 q29 => ?_)
      obtain ⟨rfl, q29⟩ := q29
      have v := v s28 q29
      obtain ⟨a30, v⟩ := v
      refine k_aload_n dX11_lowers_121 rfl ?_
      refine k_getr dX11_lowers_122 fl_X11_13 sh_143 (by decide) rfl ?_
      refine k_iconst dX11_lowers_125 ?_
      refine k_iald 15 dX11_lowers_126 sh_145 (by decide) rfl (by decide) (by decide) ?_
      obtain ⟨vt, vf⟩ := v
      refine k_if_ne 142 dX11_lowers_127 rfl a30 (fun c31 => ?_) (fun c31 => ?_)
      · have v := vt c31
        refine k_goto 57 dX11_lowers_142 rfl ?_
        refine k_drop [jR 143, jU] ⟨Or.inr rfl, Or.inl rfl, trivial⟩ ?_
        exact v
      · have v := vf c31
        obtain ⟨a32, v⟩ := v
        refine k_aload_n dX11_lowers_130 rfl ?_
        refine k_iconst dX11_lowers_131 ?_
        refine k_iconst dX11_lowers_132 ?_
        refine k_invVR [jI 3, jI 2] [] dX11_lowers_133 cm_X11_takes ml_X11_95 im_X11_takes se_X11_takes rfl sh_143 (by decide) rfl rfl (sp_X11_takes s28 3 2 (by decide) a32) (fun _ s34 q35 => ?_)
        obtain ⟨rfl, q35⟩ := q35
        have v := v s34 q35
        refine k_aload_n dX11_lowers_136 rfl ?_
        refine k_iconst dX11_lowers_137 ?_
        refine k_lconst 0 dX11_lowers_138 rfl ?_
        refine k_invVR [jI 2, jL 0] [] dX11_lowers_139 cm_X11_sets ml_X11_85 im_X11_sets se_X11_sets rfl sh_143 (by decide) rfl rfl (sp_X11_sets s34 2 0 (by decide) (by decide)) (fun _ s37 q38 => ?_)
        obtain ⟨rfl, q38⟩ := q38
        have v := v s37 q38
        refine k_goto 57 dX11_lowers_142 rfl ?_
        refine k_drop [jR 143, jU] ⟨Or.inr rfl, Or.inl rfl, trivial⟩ ?_
        exact v
  · have v := vf c2
    refine k_aload_n dX11_lowers_90 rfl ?_
    refine k_iconst dX11_lowers_91 ?_
    refine k_invVR [jI 3] [] dX11_lowers_92 cm_X11_halves ml_X11_104 im_X11_halves se_X11_halves rfl sh_143 (by decide) rfl rfl (sp_X11_halves s 3 (by decide) a1) (fun _ s40 q41 => ?_)
    obtain ⟨rfl, q41⟩ := q41
    have v := v s40 q41
    refine k_goto 82 dX11_lowers_95 rfl ?_
    exact v
theorem dvd_half {e u : Int} (he : e % 2 = 1) (hu : u % 2 = 0) : e ∣ u / 2 ↔ e ∣ u := by
  constructor
  · intro h
    obtain ⟨k, hk⟩ := h
    exact ⟨2 * k, by rw [show e * (2 * k) = 2 * (e * k) by grind, ← hk]; omega⟩
  · intro h
    obtain ⟨k, hk⟩ := h
    have e1 : e = 2 * (e / 2) + 1 := by omega
    have e2 : e * k = 2 * (e / 2 * k) + k := by
      generalize e / 2 = c at e1 ⊢
      rw [e1]
      grind
    have k2 : k = 2 * (k / 2) := by omega
    refine ⟨k / 2, ?_⟩
    have : e * k = 2 * (e * (k / 2)) := by
      generalize k / 2 = c at k2 ⊢
      rw [k2]
      grind
    omega
theorem dvd_sb {e u v : Int} : (e ∣ u ∧ e ∣ v - u) ↔ (e ∣ u ∧ e ∣ v) :=
  ⟨fun h => ⟨h.1, by have := Int.dvd_add h.2 h.1; rwa [Int.sub_add_cancel] at this⟩, fun h => ⟨h.1, Int.dvd_sub h.2 h.1⟩⟩
theorem dvd_sb2 {e u v : Int} : (e ∣ u - v ∧ e ∣ v) ↔ (e ∣ u ∧ e ∣ v) :=
  ⟨fun h => ⟨by have := Int.dvd_add h.1 h.2; rwa [Int.sub_add_cancel] at this, h.2⟩, fun h => ⟨Int.dvd_sub h.1 h.2, h.2⟩⟩
def lwP (q : Int) : Prop := 0 ≤ q ∧ q ≤ 4
def LW (s : Int → Int → Int) (a b u v : Int) : Prop := RG s 0 a ∧ RG s 1 b ∧ RG s 2 u ∧ RG s 3 v ∧ 0 < v ∧ (u = 0 → v % 2 = 1) ∧ ∀ e : Int, e % 2 = 1 → ((e ∣ u ∧ e ∣ v) ↔ (e ∣ a ∧ e ∣ b))
def LWE (s : Int → Int → Int) (a b : Int) (o : Option jV) (s' : Int → Int → Int) : Prop := o = none ∧ RF lwP s s' ∧ ∃ X Y D, RG s' 0 X ∧ RG s' 1 Y ∧ 0 < D ∧ X * D = a ∧ Y * D = b ∧ ∀ e : Nat, e ∣ X.toNat → e ∣ Y.toNat → e = 1
theorem lw_cop {a b v X Y : Int} (hv : 0 < v) (ha : a = v * X) (hb : b = v * Y) (hX : 0 ≤ X) (hY : 0 ≤ Y) (ho : v % 2 = 1) (nb : ¬ (a % 2 = 0 ∧ b % 2 = 0)) (he : ∀ e : Int, e % 2 = 1 → (e ∣ a ∧ e ∣ b) → e ∣ v) : ∀ e : Nat, e ∣ X.toNat → e ∣ Y.toNat → e = 1 := by
  intro e h1 h2
  obtain ⟨k, hk⟩ := h1
  obtain ⟨m, hm⟩ := h2
  have hk' : X = (e : Int) * (k : Int) := by rw [← Int.natCast_mul]; omega
  have hm' : Y = (e : Int) * (m : Int) := by rw [← Int.natCast_mul]; omega
  have eo : (e : Int) % 2 = 1 := by
    by_cases x : (e : Int) % 2 = 1
    · exact x
    · exfalso
      obtain ⟨c, hc⟩ : ∃ c : Int, (e : Int) = 2 * c := ⟨(e : Int) / 2, by omega⟩
      apply nb
      rw [ha, hb, hk', hm', hc, show v * (2 * c * (k : Int)) = 2 * (v * c * k) by grind, show v * (2 * c * (m : Int)) = 2 * (v * c * m) by grind]
      omega
  have ev : ((e : Int) * v) % 2 = 1 := by
    have e1 : (e : Int) = 2 * ((e : Int) / 2) + 1 := by omega
    have : (e : Int) * v = 2 * ((e : Int) / 2 * v) + v := by
      generalize (e : Int) / 2 = c at e1 ⊢
      rw [e1]
      grind
    omega
  have d := he _ ev ⟨⟨k, by rw [ha, hk']; grind⟩, ⟨m, by rw [hb, hm']; grind⟩⟩
  obtain ⟨c, hc⟩ := d
  have one : (1 : Int) = (e : Int) * c := by
    refine Int.eq_of_mul_eq_mul_left (show v ≠ 0 by omega) ?_
    rw [Int.mul_one, show v * ((e : Int) * c) = (e : Int) * v * c by grind]
    exact hc
  have : (e : Int) ∣ ((1 : Nat) : Int) := ⟨c, one⟩
  exact Nat.dvd_one.mp (Int.natCast_dvd_natCast.mp this)
theorem lw_57 {s : Int → Int → Int} {a b : Int} (nb : ¬ (a % 2 = 0 ∧ b % 2 = 0)) : ∀ (n : Nat) (s1 : Int → Int → Int) (u v : Int), u + v < n → LW s1 a b u v → RF lwP s s1 → kK mX11_lowers 57 [jR 143, jU] [] s1 (LWE s a b) := by
  intro n
  induction n with
  | zero =>
    intro s1 u v hn l f
    have := l.2.2.1.b
    have := l.2.2.2.1.b
    omega
  | succ n ih =>
    intro s1 u v hn l f
    obtain ⟨h0, h1, h2, h3, v0, hz, he⟩ := l
    have w2 := h2.1.1
    have b0 := h0.b
    have b1 := h1.b
    have b2 := h2.b
    refine g_X11_lowers_57 ⟨by unfold jr32; omega, fun q => ?_, fun q => ?_⟩
    · have u0 : u = 0 := h2.w0.1 (by omega)
      subst u0
      have vo := hz rfl
      have dv := (he v vo).1 ⟨⟨0, by rw [Int.mul_zero]⟩, Int.dvd_refl v⟩
      obtain ⟨⟨X, hX⟩, ⟨Y, hY⟩⟩ := dv
      have nn : ∀ X a : Int, 0 ≤ a → a = v * X → 0 ≤ X := fun X a a0 e => by
        by_cases x : 0 ≤ X
        · exact x
        · have := Int.mul_le_mul_of_nonneg_left (show X ≤ -1 by omega) (show 0 ≤ v by omega)
          omega
      have X0 := nn X a b0.1 hX
      have Y0 := nn Y b b1.1 hY
      refine ⟨h0.me, h3.me, by rw [h3.rv]; exact vo, ⟨X, X0, by rw [h0.rv, h3.rv, Int.mul_comm]; exact hX⟩, fun s8 q8 => ?_⟩
      have h18 := h1.fr q8.1 (by omega)
      have h38 := h3.fr q8.1 (by omega)
      refine ⟨h18.me, h38.me, by rw [h38.rv]; exact vo, ⟨Y, Y0, by rw [h18.rv, h38.rv, Int.mul_comm]; exact hY⟩, fun s15 q15 => ⟨rfl, (f.tr (q8.1.wk (fun q e => by unfold lwP; omega))).tr (q15.1.wk (fun q e => by unfold lwP; omega)), X, Y, v, (q8.2 X (by rw [h0.rv, h3.rv, Int.mul_comm]; exact hX)).fr q15.1 (by omega), q15.2 Y (by rw [h18.rv, h38.rv, Int.mul_comm]; exact hY), v0, by rw [Int.mul_comm]; exact hX.symm, by rw [Int.mul_comm]; exact hY.symm, lw_cop v0 hX hY X0 Y0 vo nb (fun e eo ed => ((he e eo).2 ed).2)⟩⟩
    · have u0 : 0 < u := by
        by_cases x : u = 0
        · have := h2.w0.2 x; omega
        · omega
      have k82 : ∀ (m : Nat) (s2 : Int → Int → Int) (u1 v1 : Int), v1 < m → u1 % 2 = 1 → u1 ≤ u → v1 ≤ v → LW s2 a b u1 v1 → RF lwP s s2 → kK mX11_lowers 82 [jR 143, jU] [] s2 (LWE s a b) := by
        intro m
        induction m with
        | zero => intro s2 u1 v1 hm _ _ _ l _; have := l.2.2.2.2.1; omega
        | succ m jh =>
          intro s2 u1 v1 hm uo ul vl' l f2
          obtain ⟨g0, g1, g2, g3, v10, hz1, he1⟩ := l
          have c2 := g2.b
          refine g_X11_lowers_82 ⟨g3.me, fun q2 => ⟨g2.me, fun y4 s5 q5 => ?_⟩, fun q2 s40 q40 => ?_⟩
          · obtain ⟨⟨y1, y2, y3⟩, rfl⟩ := q5
            rw [g3.rv] at q2
            rw [g2.rv, g3.rv] at y1 y2
            rw [show (5 - 3 : Int) = 2 from rfl, show (5 - 2 : Int) = 3 from rfl]
            refine ⟨y3, fun q6 => ⟨g3.me, g2.me, by rw [g2.rv, g3.rv]; omega, fun s13 q13 => ?_⟩, fun q6 => ⟨g2.me, g3.me, by rw [g2.rv, g3.rv]; omega, fun s28 q28 => ?_⟩⟩
            · rw [g2.rv, g3.rv] at q13
              have w3 := q13.2.1.1
              refine ⟨by unfold jr32; omega, fun _ => ?_, fun q7 => ?_⟩
              · refine ih s13 u1 (v1 - u1) (by omega) ⟨g0.fr q13.1 (by omega), g1.fr q13.1 (by omega), g2.fr q13.1 (by omega), q13.2, by omega, fun c => by omega, fun e eo => dvd_sb.trans (he1 e eo)⟩ (f2.tr (q13.1.wk (fun q e => by unfold lwP; omega)))
              · have := q13.2.w0.1 q7; omega
            · rw [g2.rv, g3.rv] at q28
              have g3' := g3.fr q28.1 (by omega)
              have w3 := g3'.1.1
              refine ⟨by unfold jr32; omega, fun _ => ?_, fun q7 => ?_⟩
              · refine ih s28 (u1 - v1) v1 (by omega) ⟨g0.fr q28.1 (by omega), g1.fr q28.1 (by omega), q28.2, g3', v10, fun c => by omega, fun e eo => dvd_sb2.trans (he1 e eo)⟩ (f2.tr (q28.1.wk (fun q e => by unfold lwP; omega)))
              · have := g3'.w0.1 q7; omega
          · rw [g3.rv] at q2 q40
            refine jh s40 u1 (v1 / 2) (by omega) uo ul (by omega) ⟨g0.fr q40.1 (by omega), g1.fr q40.1 (by omega), g2.fr q40.1 (by omega), q40.2, by omega, fun c => by omega, fun e eo => ?_⟩ (f2.tr (q40.1.wk (fun q e => by unfold lwP; omega)))
            rw [dvd_half eo q2]
            exact he1 e eo
      have k66 : ∀ (m : Nat) (s2 : Int → Int → Int) (u1 : Int), u1 < m → 0 < u1 → u1 ≤ u → LW s2 a b u1 v → RF lwP s s2 → kK mX11_lowers 66 [jR 143, jU] [] s2 (LWE s a b) := by
        intro m
        induction m with
        | zero => intro s2 u1 hm _ _ _ _; omega
        | succ m jh =>
          intro s2 u1 hm u10 ul l f2
          obtain ⟨g0, g1, g2, g3, v10, hz1, he1⟩ := id l
          refine g_X11_lowers_66 ⟨g2.me, fun q2 => ?_, fun q2 s4 q4 => ?_⟩
          · rw [g2.rv] at q2
            exact k82 (v.toNat + 1) s2 u1 v (by omega) (by omega) ul (by omega) l f2
          · rw [g2.rv] at q2 q4
            refine jh s4 (u1 / 2) (by omega) (by omega) (by omega) ⟨g0.fr q4.1 (by omega), g1.fr q4.1 (by omega), q4.2, g3.fr q4.1 (by omega), v10, fun c => by omega, fun e eo => ?_⟩ (f2.tr (q4.1.wk (fun q e => by unfold lwP; omega)))
            rw [dvd_half eo q2]
            exact he1 e eo
      exact k66 (u.toNat + 1) s1 u (by omega) u0 (by omega) ⟨h0, h1, h2, h3, v0, hz, he⟩ f
theorem sp_X11_lowers (s : Int → Int → Int) (h0 : RG s 0 (rv s 0)) (h1 : RG s 1 (rv s 1)) (hb : 0 < rv s 1) : kR mX11_lowers [jR 143] s (fun o s' => o = none ∧ RF (fun q => 0 ≤ q ∧ q ≤ 4) s s' ∧ RG s' 0 (rv s 0 / gc (rv s 0) (rv s 1)) ∧ RG s' 1 (rv s 1 / gc (rv s 0) (rv s 1))) := by
  have b0 := h0.b
  have w0 := h0.1.1
  refine g_X11_lowers ⟨by unfold jr32; omega, fun q => ?_, fun q s4 q4 => ?_⟩
  · have k16 : ∀ (n : Nat) (s1 : Int → Int → Int) (a b d : Int), a < n → RG s1 0 a → RG s1 1 b → 0 < a → 0 < b → 0 < d → a * d = rv s 0 → b * d = rv s 1 → RF lwP s s1 → kK mX11_lowers 16 [jR 143, jU] [] s1 (fun o s' => o = none ∧ RF (fun q => 0 ≤ q ∧ q ≤ 4) s s' ∧ RG s' 0 (rv s 0 / gc (rv s 0) (rv s 1)) ∧ RG s' 1 (rv s 1 / gc (rv s 0) (rv s 1))) := by
      intro n
      induction n with
      | zero => intro s1 a b d hn _ _ a0 _ _ _ _ _; omega
      | succ n ih =>
        intro s1 a b d hn g0 g1 a0 b0 d0 ea eb f
        have fin : ¬ (a % 2 = 0 ∧ b % 2 = 0) → ∀ s2, RG s2 0 a → RG s2 1 b → RG s2 2 a → RG s2 3 b → RF lwP s s2 → kK mX11_lowers 57 [jR 143, jU] [] s2 (fun o s' => o = none ∧ RF (fun q => 0 ≤ q ∧ q ≤ 4) s s' ∧ RG s' 0 (rv s 0 / gc (rv s 0) (rv s 1)) ∧ RG s' 1 (rv s 1 / gc (rv s 0) (rv s 1))) := fun nb s2 x0 x1 x2 x3 f2 =>
          kK.mono (lw_57 nb ((a + b).toNat + 1) s2 a b (by omega) ⟨x0, x1, x2, x3, b0, fun c => by omega, fun e _ => Iff.rfl⟩ f2) (fun o s' q => by
            obtain ⟨q1, q2, X, Y, D, y0, y1, D0, eX, eY, cp⟩ := q
            have hX := y0.b
            have hY := y1.b
            obtain ⟨z1, z2⟩ := gc_uq (a := rv s 0) (b := rv s 1) (x := X) (y := Y) (d := D * d) hX.1 hY.1 (Int.mul_pos D0 d0) (by rw [← Int.mul_assoc, eX, ea]) (by rw [← Int.mul_assoc, eY, eb]) cp
            rw [← z1, ← z2]
            exact ⟨q1, q2, y0, y1⟩)
        refine g_X11_lowers_16 ⟨g0.me, fun q2 s3 q3 => ?_, fun q2 => ⟨g1.me, fun q3 s3 q4 => ?_, fun q3 s20 q20 => ?_⟩⟩
        · rw [g0.rv] at q2 q3
          have y1 := g1.fr q3.1 (by omega)
          refine ⟨y1.me, fun s8 q8 => ?_⟩
          rw [y1.rv] at q8
          exact fin (fun c => q2 c.1) s8 ((g0.fr q3.1 (by omega)).fr q8.1 (by omega)) (y1.fr q8.1 (by omega)) (q3.2.fr q8.1 (by omega)) q8.2 ((f.tr (q3.1.wk (fun q e => by unfold lwP; omega))).tr (q8.1.wk (fun q e => by unfold lwP; omega)))
        · rw [g0.rv] at q4
          rw [g1.rv] at q3
          have y1 := g1.fr q4.1 (by omega)
          refine ⟨y1.me, fun s8 q8 => ?_⟩
          rw [y1.rv] at q8
          exact fin (fun c => q3 c.2) s8 ((g0.fr q4.1 (by omega)).fr q8.1 (by omega)) (y1.fr q8.1 (by omega)) (q4.2.fr q8.1 (by omega)) q8.2 ((f.tr (q4.1.wk (fun q e => by unfold lwP; omega))).tr (q8.1.wk (fun q e => by unfold lwP; omega)))
        · rw [g0.rv] at q2 q20
          rw [g1.rv] at q3
          have y1 := g1.fr q20.1 (by omega)
          refine ⟨y1.me, fun s24 q24 => ?_⟩
          rw [y1.rv] at q24
          have ha : a = a / 2 * 2 := by omega
          have hb2 : b = b / 2 * 2 := by omega
          exact ih s24 (a / 2) (b / 2) (2 * d) (by omega) (q20.2.fr q24.1 (by omega)) q24.2 (by omega) (by omega) (by omega) (by rw [← Int.mul_assoc, ← ha]; exact ea) (by rw [← Int.mul_assoc, ← hb2]; exact eb) ((f.tr (q20.1.wk (fun q e => by unfold lwP; omega))).tr (q24.1.wk (fun q e => by unfold lwP; omega)))
    have a0 : 0 < rv s 0 := by
      by_cases x : rv s 0 = 0
      · exact absurd (h0.w0.2 x) q
      · omega
    exact k16 ((rv s 0).toNat + 1) s (rv s 0) (rv s 1) 1 (by omega) h0 h1 a0 hb (by omega) (by omega) (by omega) RF.rf
  · have a0 : rv s 0 = 0 := h0.w0.1 q
    have e1 : gc (rv s 0) (rv s 1) = rv s 1 := by rw [a0]; exact gc_0l (by omega)
    refine ⟨rfl, q4.1.wk (fun q e => by omega), ?_, ?_⟩
    · have := h0.fr q4.1 (by omega)
      rw [a0] at this
      rw [e1, a0, Int.zero_ediv]
      exact this
    · rw [e1, Int.ediv_self (show rv s 1 ≠ 0 by omega)]
      exact q4.2
theorem g_X11_told {s : Int → Int → Int} {Q : Option jV → (Int → Int → Int) → Prop} {v1 v3 : Int} (v : ((0 ≤ v1 ∧ v1 ≤ 9223372036854775807) ∧ (∀ (s3 : Int → Int → Int), (RF (fun q => q = 0) s s3 ∧ RG s3 0 v1) → ((0 ≤ v3 ∧ v3 ≤ 9223372036854775807) ∧ (∀ (s7 : Int → Int → Int), (RF (fun q => q = 1) s3 s7 ∧ RG s7 1 v3) → ((RG s7 0 (rv s7 0)) ∧ (RG s7 1 (rv s7 1)) ∧ (0 < rv s7 1) ∧ (∀ (s13 : Int → Int → Int), (RF (fun q => 0 ≤ q ∧ q ≤ 4) s7 s13 ∧ RG s13 0 (rv s7 0 / gc (rv s7 0) (rv s7 1)) ∧ RG s13 1 (rv s7 1 / gc (rv s7 0) (rv s7 1))) → Q (some (jI 1)) s13))))))) : kR mX11_told [jR 143, jL v1, jL v3] s Q := by
  show kK mX11_told 0 [jR 143, jL v1, jU, jL v3, jU] [] s Q
  obtain ⟨a1, v⟩ := v
  refine k_aload_n dX11_told_0 rfl ?_
  refine k_iconst dX11_told_1 ?_
  refine k_lload_n dX11_told_2 rfl ?_
  refine k_invVR [jI 0, jL v1] [] dX11_told_3 cm_X11_sets ml_X11_85 im_X11_sets se_X11_sets rfl sh_143 (by decide) rfl rfl (sp_X11_sets s 0 v1 (by decide) a1) (fun _ s3 q4 => ?_)
  obtain ⟨rfl, q4⟩ := q4
  have v := v s3 q4
  obtain ⟨a5, v⟩ := v
  refine k_aload_n dX11_told_6 rfl ?_
  refine k_iconst dX11_told_7 ?_
  refine k_lload_n dX11_told_8 rfl ?_
  refine k_invVR [jI 1, jL v3] [] dX11_told_9 cm_X11_sets ml_X11_85 im_X11_sets se_X11_sets rfl sh_143 (by decide) rfl rfl (sp_X11_sets s3 1 v3 (by decide) a5) (fun _ s7 q8 => ?_)
  obtain ⟨rfl, q8⟩ := q8
  have v := v s7 q8
  obtain ⟨a9, a10, a11, v⟩ := v
  refine k_aload_n dX11_told_12 rfl ?_
  refine k_invVR [] [] dX11_told_13 cm_X11_lowers ml_X11_117 im_X11_lowers se_X11_lowers rfl sh_143 (by decide) rfl rfl (sp_X11_lowers s7 a9 a10 a11) (fun _ s13 q14 => ?_)
  obtain ⟨rfl, q14⟩ := q14
  have v := v s13 q14
  refine k_iconst dX11_told_16 ?_
  exact k_ireturn (st := []) dX11_told_17 rfl v
theorem sp_X11_told (s : Int → Int → Int) (a b : Int) (ha : 0 ≤ a ∧ a ≤ 9223372036854775807) (hb : 0 < b ∧ b ≤ 9223372036854775807) : kR mX11_told [jR 143, jL a, jL b] s (fun o s' => ∃ y, o = some (jI y) ∧ y = 1 ∧ RF (fun q => 0 ≤ q ∧ q ≤ 4) s s' ∧ RG s' 0 (a / gc a b) ∧ RG s' 1 (b / gc a b)) := by
  refine g_X11_told ⟨ha, fun s3 q3 => ⟨by omega, fun s7 q7 => ?_⟩⟩
  have y0 := q3.2.fr q7.1 (by omega)
  refine ⟨y0.me, q7.2.me, by rw [q7.2.rv]; omega, fun s13 q13 => ⟨1, rfl, rfl, ((q3.1.wk (fun q e => by omega)).tr (q7.1.wk (fun q e => by omega))).tr q13.1, ?_⟩⟩
  rw [y0.rv, q7.2.rv] at q13
  exact q13.2
