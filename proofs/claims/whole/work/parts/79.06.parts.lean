theorem g_X11_parts {s : Int → Int → Int} {Q : Option jV → (Int → Int → Int) → Prop} {v1 : Int} (v : kK mX11_parts 4 [jR 143, jI v1, jI 1, jI 0, jU, jU, jU, jU, jU, jU, jU, jU, jU] [] s Q) : kR mX11_parts [jR 143, jI v1] s Q := by
  show kK mX11_parts 0 [jR 143, jI v1, jU, jU, jU, jU, jU, jU, jU, jU, jU, jU, jU] [] s Q
  refine k_iconst dX11_parts_0 ?_
  refine k_istore_n [jR 143, jI v1, jI 1, jU, jU, jU, jU, jU, jU, jU, jU, jU, jU] dX11_parts_1 rfl rfl ?_
  refine k_iconst dX11_parts_2 ?_
  refine k_istore_n [jR 143, jI v1, jI 1, jI 0, jU, jU, jU, jU, jU, jU, jU, jU, jU] dX11_parts_3 rfl rfl ?_
  exact v
theorem g_X11_parts_4 {s : Int → Int → Int} {Q : Option jV → (Int → Int → Int) → Prop} {v1 v2 v3 : Int} (v : (jr32 v3 ∧ ((5 ≤ v3 → ((0 ≤ v1 ∧ v1 < 15) ∧ kK mX11_parts 40 [jR 143, jI v1, jI v2, jI (s 145 v1), jI 0, jU, jU, jU, jU, jU, jU, jU, jU] [] s Q)) ∧ (¬ (5 ≤ v3) → kK mX11_parts 4 [jR 143, jI v1, jI (v2 * (2 - ((s 144 150) * v2))), jI (v3 + 1), jU, jU, jU, jU, jU, jU, jU, jU, jU] [] s Q)))) : kK mX11_parts 4 [jR 143, jI v1, jI v2, jI v3, jU, jU, jU, jU, jU, jU, jU, jU, jU] [] s Q := by
  obtain ⟨a1, v⟩ := v
  refine k_iload_n dX11_parts_4 rfl ?_
  refine k_iconst dX11_parts_5 ?_
  obtain ⟨vt, vf⟩ := v
  refine k_icmp_ge 30 dX11_parts_6 rfl a1 (by decide) (fun c2 => ?_) (fun c2 => ?_)
  · have v := vt c2
    obtain ⟨a3, v⟩ := v
    refine k_aload_n dX11_parts_30 rfl ?_
    refine k_getr dX11_parts_31 fl_X11_13 sh_143 (by decide) rfl ?_
    refine k_iload_n dX11_parts_34 rfl ?_
    refine k_iald 15 dX11_parts_35 sh_145 (by decide) rfl (by decide) a3 ?_
    refine k_istore_n [jR 143, jI v1, jI v2, jI (s 145 v1), jU, jU, jU, jU, jU, jU, jU, jU, jU] dX11_parts_36 rfl rfl ?_
    refine k_iconst dX11_parts_37 ?_
    refine k_istore [jR 143, jI v1, jI v2, jI (s 145 v1), jI 0, jU, jU, jU, jU, jU, jU, jU, jU] dX11_parts_38 rfl rfl ?_
    exact v
  · have v := vf c2
    refine k_iload_n dX11_parts_9 rfl ?_
    refine k_iconst dX11_parts_10 ?_
    refine k_aload_n dX11_parts_11 rfl ?_
    refine k_getr dX11_parts_12 fl_X11_7 sh_143 (by decide) rfl ?_
    refine k_sipush dX11_parts_15 rfl ?_
    refine k_iald 750 dX11_parts_18 sh_144 (by decide) rfl (by decide) (by decide) ?_
    refine k_iload_n dX11_parts_19 rfl ?_
    refine k_imul dX11_parts_20 ?_
    refine k_isub dX11_parts_21 ?_
    refine k_imul dX11_parts_22 ?_
    refine k_istore_n [jR 143, jI v1, jI (v2 * (2 - ((s 144 150) * v2))), jI v3, jU, jU, jU, jU, jU, jU, jU, jU, jU] dX11_parts_23 rfl rfl ?_
    refine k_iinc [jR 143, jI v1, jI (v2 * (2 - ((s 144 150) * v2))), jI (v3 + 1), jU, jU, jU, jU, jU, jU, jU, jU, jU] dX11_parts_24 rfl rfl rfl ?_
    refine k_goto 4 dX11_parts_27 rfl ?_
    exact v
theorem g_X11_parts_40 {s : Int → Int → Int} {Q : Option jV → (Int → Int → Int) → Prop} {v1 v2 v3 v4 : Int} (v : (jr32 v4 ∧ jr32 v3 ∧ ((v3 ≤ v4 → kK mX11_parts 195 [jR 143, jI v1, jU, jI v3, jI 0, jU, jU, jU, jU, jU, jU, jU, jU] [] s Q) ∧ (¬ (v3 ≤ v4) → ((0 ≤ ((50 * v1) + v4) ∧ ((50 * v1) + v4) < 750) ∧ kK mX11_parts 71 [jR 143, jI v1, jI v2, jI v3, jI v4, jI (((s 144 ((50 * v1) + v4)) * v2) % 1073741824), jL 0, jU, jI 0, jU, jU, jU, jU] [] s Q))))) : kK mX11_parts 40 [jR 143, jI v1, jI v2, jI v3, jI v4, jU, jU, jU, jU, jU, jU, jU, jU] [] s Q := by
  obtain ⟨a1, a2, v⟩ := v
  refine k_iload dX11_parts_40 rfl ?_
  refine k_iload_n dX11_parts_42 rfl ?_
  obtain ⟨vt, vf⟩ := v
  refine k_icmp_ge 192 dX11_parts_43 rfl a1 a2 (fun c3 => ?_) (fun c3 => ?_)
  · have v := vt c3
    refine k_iconst dX11_parts_192 ?_
    refine k_istore [jR 143, jI v1, jI v2, jI v3, jI 0, jU, jU, jU, jU, jU, jU, jU, jU] dX11_parts_193 rfl rfl ?_
    refine k_drop [jR 143, jI v1, jU, jI v3, jI 0, jU, jU, jU, jU, jU, jU, jU, jU] ⟨Or.inr rfl, Or.inr rfl, Or.inl rfl, Or.inr rfl, Or.inr rfl, Or.inr rfl, Or.inr rfl, Or.inr rfl, Or.inr rfl, Or.inr rfl, Or.inr rfl, Or.inr rfl, Or.inr rfl, trivial⟩ ?_
    exact v
  · have v := vf c3
    obtain ⟨a4, v⟩ := v
    refine k_aload_n dX11_parts_46 rfl ?_
    refine k_getr dX11_parts_47 fl_X11_7 sh_143 (by decide) rfl ?_
    refine k_bipush dX11_parts_50 rfl ?_
    refine k_iload_n dX11_parts_52 rfl ?_
    refine k_imul dX11_parts_53 ?_
    refine k_iload dX11_parts_54 rfl ?_
    refine k_iadd dX11_parts_56 ?_
    refine k_iald 750 dX11_parts_57 sh_144 (by decide) rfl (by decide) a4 ?_
    refine k_iload_n dX11_parts_58 rfl ?_
    refine k_imul dX11_parts_59 ?_
    refine k_ldc (1073741823) (1073741823) dX11_parts_60 ki_X11_99 rfl ?_
    refine k_andM dX11_parts_62 ?_
    refine k_istore [jR 143, jI v1, jI v2, jI v3, jI v4, jI (((s 144 ((50 * v1) + v4)) * v2) % 1073741824), jU, jU, jU, jU, jU, jU, jU] dX11_parts_63 rfl rfl ?_
    refine k_lconst 0 dX11_parts_65 rfl ?_
    refine k_lstore [jR 143, jI v1, jI v2, jI v3, jI v4, jI (((s 144 ((50 * v1) + v4)) * v2) % 1073741824), jL 0, jU, jU, jU, jU, jU, jU] dX11_parts_66 rfl rfl ?_
    refine k_iconst dX11_parts_68 ?_
    refine k_istore [jR 143, jI v1, jI v2, jI v3, jI v4, jI (((s 144 ((50 * v1) + v4)) * v2) % 1073741824), jL 0, jU, jI 0, jU, jU, jU, jU] dX11_parts_69 rfl rfl ?_
    exact v
theorem g_X11_parts_195 {s : Int → Int → Int} {Q : Option jV → (Int → Int → Int) → Prop} {v1 v3 v4 : Int} (v : (jr32 v4 ∧ jr32 v3 ∧ ((v3 ≤ v4 → ((0 ≤ v1 ∧ v1 < 15) ∧ (PG s v1 (rv s v1)) ∧ (∀ (s7 : Int → Int → Int), (RF (fun q => q = v1) s s7 ∧ RG s7 v1 (rv s v1)) → Q none s7))) ∧ (¬ (v3 ≤ v4) → ((0 ≤ (200 + v4) ∧ (200 + v4) < 750) ∧ (0 ≤ ((50 * v1) + v4) ∧ ((50 * v1) + v4) < 750) ∧ kK mX11_parts 195 [jR 143, jI v1, jU, jI v3, jI (v4 + 1), jU, jU, jU, jU, jU, jU, jU, jU] [] (w2 s 144 ((50 * v1) + v4) (s 144 (200 + v4))) Q))))) : kK mX11_parts 195 [jR 143, jI v1, jU, jI v3, jI v4, jU, jU, jU, jU, jU, jU, jU, jU] [] s Q := by
  obtain ⟨a1, a2, v⟩ := v
  refine k_iload dX11_parts_195 rfl ?_
  refine k_iload_n dX11_parts_197 rfl ?_
  obtain ⟨vt, vf⟩ := v
  refine k_icmp_ge 230 dX11_parts_198 rfl a1 a2 (fun c3 => ?_) (fun c3 => ?_)
  · have v := vt c3
    obtain ⟨a4, a5, v⟩ := v
    refine k_aload_n dX11_parts_230 rfl ?_
    refine k_iload_n dX11_parts_231 rfl ?_
    refine k_invVR [jI v1] [] dX11_parts_232 cm_X11_trims ml_X11_91 im_X11_trims se_X11_trims rfl sh_143 (by decide) rfl rfl (sp_X11_trims s v1 a4 a5) (fun _ s7 q8 => ?_)
    obtain ⟨rfl, q8⟩ := q8
    have v := v s7 q8
    exact k_return (st := []) dX11_parts_235 rfl v
  · have v := vf c3
    obtain ⟨a9, a10, v⟩ := v
    refine k_aload_n dX11_parts_201 rfl ?_
    refine k_getr dX11_parts_202 fl_X11_7 sh_143 (by decide) rfl ?_
    refine k_bipush dX11_parts_205 rfl ?_
    refine k_iload_n dX11_parts_207 rfl ?_
    refine k_imul dX11_parts_208 ?_
    refine k_iload dX11_parts_209 rfl ?_
    refine k_iadd dX11_parts_211 ?_
    refine k_aload_n dX11_parts_212 rfl ?_
    refine k_getr dX11_parts_213 fl_X11_7 sh_143 (by decide) rfl ?_
    refine k_sipush dX11_parts_216 rfl ?_
    refine k_iload dX11_parts_219 rfl ?_
    refine k_iadd dX11_parts_221 ?_
    refine k_iald 750 dX11_parts_222 sh_144 (by decide) rfl (by decide) a9 ?_
    refine k_iast 750 dX11_parts_223 sh_144 (by decide) rfl (by decide) a10 ?_
    refine k_iinc [jR 143, jI v1, jU, jI v3, jI (v4 + 1), jU, jU, jU, jU, jU, jU, jU, jU] dX11_parts_224 rfl rfl rfl ?_
    refine k_goto 195 dX11_parts_227 rfl ?_
    exact v
theorem g_X11_parts_71 {s : Int → Int → Int} {Q : Option jV → (Int → Int → Int) → Prop} {v1 v2 v3 v4 v5 v6 v8 : Int} (v : (jr32 (v4 + v8) ∧ jr32 v3 ∧ ((v3 ≤ (v4 + v8) → ((0 ≤ (200 + v4) ∧ (200 + v4) < 750) ∧ kK mX11_parts 40 [jR 143, jI v1, jI v2, jI v3, jI (v4 + 1), jU, jU, jU, jU, jU, jU, jU, jU] [] (w2 s 144 (200 + v4) v5) Q)) ∧ (¬ (v3 ≤ (v4 + v8)) → (jr32 v8 ∧ jr32 (s 145 3) ∧ (((s 145 3) ≤ v8 → ((0 ≤ (((50 * v1) + v4) + v8) ∧ (((50 * v1) + v4) + v8) < 750) ∧ jr32 (s 144 (((50 * v1) + v4) + v8)) ∧ jr64 (((s 144 (((50 * v1) + v4) + v8)) - 0) - v6) ∧ kK mX11_parts 71 [jR 143, jI v1, jI v2, jI v3, jI v4, jI v5, jL (-((((s 144 (((50 * v1) + v4) + v8)) - 0) - v6) / 2 ^ Int.toNat 30)), jU, jI (v8 + 1), jU, jU, jU, jU] [] (w2 s 144 (((50 * v1) + v4) + v8) ((((s 144 (((50 * v1) + v4) + v8)) - 0) - v6) % 1073741824)) Q)) ∧ (¬ ((s 145 3) ≤ v8) → (jr32 v5 ∧ (0 ≤ (150 + v8) ∧ (150 + v8) < 750) ∧ jr32 (s 144 (150 + v8)) ∧ (0 ≤ (((50 * v1) + v4) + v8) ∧ (((50 * v1) + v4) + v8) < 750) ∧ jr32 (s 144 (((50 * v1) + v4) + v8)) ∧ jr64 (((s 144 (((50 * v1) + v4) + v8)) - (v5 * (s 144 (150 + v8)))) - v6) ∧ kK mX11_parts 71 [jR 143, jI v1, jI v2, jI v3, jI v4, jI v5, jL (-((((s 144 (((50 * v1) + v4) + v8)) - (v5 * (s 144 (150 + v8)))) - v6) / 2 ^ Int.toNat 30)), jU, jI (v8 + 1), jU, jU, jU, jU] [] (w2 s 144 (((50 * v1) + v4) + v8) ((((s 144 (((50 * v1) + v4) + v8)) - (v5 * (s 144 (150 + v8)))) - v6) % 1073741824)) Q)))))))) : kK mX11_parts 71 [jR 143, jI v1, jI v2, jI v3, jI v4, jI v5, jL v6, jU, jI v8, jU, jU, jU, jU] [] s Q := by
  obtain ⟨a1, a2, v⟩ := v
  refine k_iload dX11_parts_71 rfl ?_
  refine k_iload dX11_parts_73 rfl ?_
  refine k_iadd dX11_parts_75 ?_
  refine k_iload_n dX11_parts_76 rfl ?_
  obtain ⟨vt, vf⟩ := v
  refine k_icmp_ge 173 dX11_parts_77 rfl a1 a2 (fun c3 => ?_) (fun c3 => ?_)
  · have v := vt c3
    obtain ⟨a4, v⟩ := v
    refine k_aload_n dX11_parts_173 rfl ?_
    refine k_getr dX11_parts_174 fl_X11_7 sh_143 (by decide) rfl ?_
    refine k_sipush dX11_parts_177 rfl ?_
    refine k_iload dX11_parts_180 rfl ?_
    refine k_iadd dX11_parts_182 ?_
    refine k_iload dX11_parts_183 rfl ?_
    refine k_iast 750 dX11_parts_185 sh_144 (by decide) rfl (by decide) a4 ?_
    refine k_iinc [jR 143, jI v1, jI v2, jI v3, jI (v4 + 1), jI v5, jL v6, jU, jI v8, jU, jU, jU, jU] dX11_parts_186 rfl rfl rfl ?_
    refine k_goto 40 dX11_parts_189 rfl ?_
    refine k_drop [jR 143, jI v1, jI v2, jI v3, jI (v4 + 1), jU, jU, jU, jU, jU, jU, jU, jU] ⟨Or.inr rfl, Or.inr rfl, Or.inr rfl, Or.inr rfl, Or.inr rfl, Or.inl rfl, Or.inl rfl, Or.inr rfl, Or.inl rfl, Or.inr rfl, Or.inr rfl, Or.inr rfl, Or.inr rfl, trivial⟩ ?_
    exact v
  · have v := vf c3
    obtain ⟨a5, a6, v⟩ := v
    refine k_iload dX11_parts_80 rfl ?_
    refine k_aload_n dX11_parts_82 rfl ?_
    refine k_getr dX11_parts_83 fl_X11_13 sh_143 (by decide) rfl ?_
    refine k_iconst dX11_parts_86 ?_
    refine k_iald 15 dX11_parts_87 sh_145 (by decide) rfl (by decide) (by decide) ?_
    obtain ⟨vt, vf⟩ := v
    refine k_icmp_ge 110 dX11_parts_88 rfl a5 a6 (fun c7 => ?_) (fun c7 => ?_)
    · have v := vt c7
      obtain ⟨a8, a9, a10, v⟩ := v
      refine k_lconst 0 dX11_parts_110 rfl ?_
      refine k_lstore [jR 143, jI v1, jI v2, jI v3, jI v4, jI v5, jL v6, jU, jI v8, jL 0, jU, jU, jU] dX11_parts_111 rfl rfl ?_
      refine k_aload_n dX11_parts_113 rfl ?_
      refine k_getr dX11_parts_114 fl_X11_7 sh_143 (by decide) rfl ?_
      refine k_bipush dX11_parts_117 rfl ?_
      refine k_iload_n dX11_parts_119 rfl ?_
      refine k_imul dX11_parts_120 ?_
      refine k_iload dX11_parts_121 rfl ?_
      refine k_iadd dX11_parts_123 ?_
      refine k_iload dX11_parts_124 rfl ?_
      refine k_iadd dX11_parts_126 ?_
      refine k_iald 750 dX11_parts_127 sh_144 (by decide) rfl (by decide) a8 ?_
      refine k_i2l dX11_parts_128 a9 ?_
      refine k_lload dX11_parts_129 rfl ?_
      refine k_lsub dX11_parts_131 ?_
      refine k_lload dX11_parts_132 rfl ?_
      refine k_lsub dX11_parts_134 ?_
      refine k_lstore [jR 143, jI v1, jI v2, jI v3, jI v4, jI v5, jL v6, jU, jI v8, jL 0, jU, jL (((s 144 (((50 * v1) + v4) + v8)) - 0) - v6), jU] dX11_parts_135 rfl rfl ?_
      refine k_aload_n dX11_parts_137 rfl ?_
      refine k_getr dX11_parts_138 fl_X11_7 sh_143 (by decide) rfl ?_
      refine k_bipush dX11_parts_141 rfl ?_
      refine k_iload_n dX11_parts_143 rfl ?_
      refine k_imul dX11_parts_144 ?_
      refine k_iload dX11_parts_145 rfl ?_
      refine k_iadd dX11_parts_147 ?_
      refine k_iload dX11_parts_148 rfl ?_
      refine k_iadd dX11_parts_150 ?_
      refine k_lload dX11_parts_151 rfl ?_
      refine k_ldc2 (1073741823) (1073741823) dX11_parts_153 kl_X11_89 rfl ?_
      refine k_andML dX11_parts_156 ?_
      refine k_l2i dX11_parts_157 ?_
      refine k_iast 750 dX11_parts_158 sh_144 (by decide) rfl (by decide) a8 ?_
      refine k_lload dX11_parts_159 rfl ?_
      refine k_bipush dX11_parts_161 rfl ?_
      refine k_shrL dX11_parts_163 a10 (by decide) ?_
      refine k_lneg dX11_parts_164 ?_
      refine k_lstore [jR 143, jI v1, jI v2, jI v3, jI v4, jI v5, jL (-((((s 144 (((50 * v1) + v4) + v8)) - 0) - v6) / 2 ^ Int.toNat 30)), jU, jI v8, jL 0, jU, jL (((s 144 (((50 * v1) + v4) + v8)) - 0) - v6), jU] dX11_parts_165 rfl rfl ?_
      refine k_iinc [jR 143, jI v1, jI v2, jI v3, jI v4, jI v5, jL (-((((s 144 (((50 * v1) + v4) + v8)) - 0) - v6) / 2 ^ Int.toNat 30)), jU, jI (v8 + 1), jL 0, jU, jL (((s 144 (((50 * v1) + v4) + v8)) - 0) - v6), jU] dX11_parts_167 rfl rfl rfl ?_
      refine k_goto 71 dX11_parts_170 rfl ?_
      refine k_drop [jR 143, jI v1, jI v2, jI v3, jI v4, jI v5, jL (-((((s 144 (((50 * v1) + v4) + v8)) - 0) - v6) / 2 ^ Int.toNat 30)), jU, jI (v8 + 1), jU, jU, jU, jU] ⟨Or.inr rfl, Or.inr rfl, Or.inr rfl, Or.inr rfl, Or.inr rfl, Or.inr rfl, Or.inr rfl, Or.inr rfl, Or.inr rfl, Or.inl rfl, Or.inr rfl, Or.inl rfl, Or.inr rfl, trivial⟩ ?_
      exact v
    · have v := vf c7
      obtain ⟨a11, a12, a13, a14, a15, a16, v⟩ := v
      refine k_iload dX11_parts_91 rfl ?_
      refine k_i2l dX11_parts_93 a11 ?_
      refine k_aload_n dX11_parts_94 rfl ?_
      refine k_getr dX11_parts_95 fl_X11_7 sh_143 (by decide) rfl ?_
      refine k_sipush dX11_parts_98 rfl ?_
      refine k_iload dX11_parts_101 rfl ?_
      refine k_iadd dX11_parts_103 ?_
      refine k_iald 750 dX11_parts_104 sh_144 (by decide) rfl (by decide) a12 ?_
      refine k_i2l dX11_parts_105 a13 ?_
      refine k_lmul dX11_parts_106 ?_
      refine k_goto 111 dX11_parts_107 rfl ?_
      refine k_lstore [jR 143, jI v1, jI v2, jI v3, jI v4, jI v5, jL v6, jU, jI v8, jL (v5 * (s 144 (150 + v8))), jU, jU, jU] dX11_parts_111 rfl rfl ?_
      refine k_aload_n dX11_parts_113 rfl ?_
      refine k_getr dX11_parts_114 fl_X11_7 sh_143 (by decide) rfl ?_
      refine k_bipush dX11_parts_117 rfl ?_
      refine k_iload_n dX11_parts_119 rfl ?_
      refine k_imul dX11_parts_120 ?_
      refine k_iload dX11_parts_121 rfl ?_
      refine k_iadd dX11_parts_123 ?_
      refine k_iload dX11_parts_124 rfl ?_
      refine k_iadd dX11_parts_126 ?_
      refine k_iald 750 dX11_parts_127 sh_144 (by decide) rfl (by decide) a14 ?_
      refine k_i2l dX11_parts_128 a15 ?_
      refine k_lload dX11_parts_129 rfl ?_
      refine k_lsub dX11_parts_131 ?_
      refine k_lload dX11_parts_132 rfl ?_
      refine k_lsub dX11_parts_134 ?_
      refine k_lstore [jR 143, jI v1, jI v2, jI v3, jI v4, jI v5, jL v6, jU, jI v8, jL (v5 * (s 144 (150 + v8))), jU, jL (((s 144 (((50 * v1) + v4) + v8)) - (v5 * (s 144 (150 + v8)))) - v6), jU] dX11_parts_135 rfl rfl ?_
      refine k_aload_n dX11_parts_137 rfl ?_
      refine k_getr dX11_parts_138 fl_X11_7 sh_143 (by decide) rfl ?_
      refine k_bipush dX11_parts_141 rfl ?_
      refine k_iload_n dX11_parts_143 rfl ?_
      refine k_imul dX11_parts_144 ?_
      refine k_iload dX11_parts_145 rfl ?_
      refine k_iadd dX11_parts_147 ?_
      refine k_iload dX11_parts_148 rfl ?_
      refine k_iadd dX11_parts_150 ?_
      refine k_lload dX11_parts_151 rfl ?_
      refine k_ldc2 (1073741823) (1073741823) dX11_parts_153 kl_X11_89 rfl ?_
      refine k_andML dX11_parts_156 ?_
      refine k_l2i dX11_parts_157 ?_
      refine k_iast 750 dX11_parts_158 sh_144 (by decide) rfl (by decide) a14 ?_
      refine k_lload dX11_parts_159 rfl ?_
      refine k_bipush dX11_parts_161 rfl ?_
      refine k_shrL dX11_parts_163 a16 (by decide) ?_
      refine k_lneg dX11_parts_164 ?_
      refine k_lstore [jR 143, jI v1, jI v2, jI v3, jI v4, jI v5, jL (-((((s 144 (((50 * v1) + v4) + v8)) - (v5 * (s 144 (150 + v8)))) - v6) / 2 ^ Int.toNat 30)), jU, jI v8, jL (v5 * (s 144 (150 + v8))), jU, jL (((s 144 (((50 * v1) + v4) + v8)) - (v5 * (s 144 (150 + v8)))) - v6), jU] dX11_parts_165 rfl rfl ?_
      refine k_iinc [jR 143, jI v1, jI v2, jI v3, jI v4, jI v5, jL (-((((s 144 (((50 * v1) + v4) + v8)) - (v5 * (s 144 (150 + v8)))) - v6) / 2 ^ Int.toNat 30)), jU, jI (v8 + 1), jL (v5 * (s 144 (150 + v8))), jU, jL (((s 144 (((50 * v1) + v4) + v8)) - (v5 * (s 144 (150 + v8)))) - v6), jU] dX11_parts_167 rfl rfl rfl ?_
      refine k_goto 71 dX11_parts_170 rfl ?_
      refine k_drop [jR 143, jI v1, jI v2, jI v3, jI v4, jI v5, jL (-((((s 144 (((50 * v1) + v4) + v8)) - (v5 * (s 144 (150 + v8)))) - v6) / 2 ^ Int.toNat 30)), jU, jI (v8 + 1), jU, jU, jU, jU] ⟨Or.inr rfl, Or.inr rfl, Or.inr rfl, Or.inr rfl, Or.inr rfl, Or.inr rfl, Or.inr rfl, Or.inr rfl, Or.inr rfl, Or.inl rfl, Or.inr rfl, Or.inl rfl, Or.inr rfl, trivial⟩ ?_
      exact v
theorem RF.w4p {P : Int → Prop} {s : Int → Int → Int} {r k v : Int} (h : 0 ≤ k ∧ k < 50) (hp : P r) : RF P s (w2 s 144 (50 * r + k) v) := (RF.w4 h).wk (fun q e => by rw [e]; exact hp)
/-- Newton's step for an inverse -/
theorem nw_st {T t a e : Int} (h : 1 - T * t = a * e) : 1 - T * (t * (2 - T * t)) = (a * a) * (e * e) := by
  rw [show 1 - T * (t * (2 - T * t)) = (1 - T * t) * (1 - T * t) by grind, h]
  grind
def pw2 : Nat → Int
  | 0 => 2
  | k + 1 => pw2 k * pw2 k
/-- the quotient's digit -/
theorem qd_ok {T0 t e f Y m2 : Int} (h : 1 - T0 * t = 4294967296 * e) (hf : f = T0 * (Y % 1073741824) + 1073741824 * m2) : f * t % 1073741824 = Y % 1073741824 := by
  have y0 := Int.emod_nonneg Y (show (1073741824 : Int) ≠ 0 by decide)
  have y1 := Int.emod_lt_of_pos Y (show (0 : Int) < 1073741824 by decide)
  generalize Y % 1073741824 = x at hf y0 y1 ⊢
  have : f * t = x + 1073741824 * (m2 * t - 4 * e * x) := by
    have h2 : T0 * t = 1 - 4294967296 * e := by omega
    rw [hf]
    have : (T0 * x + 1073741824 * m2) * t = x * (T0 * t) + 1073741824 * (m2 * t) := by grind
    rw [this, h2]
    grind
  rw [this]
  omega
theorem sp_X11_parts (s : Int → Int → Int) (r : Int) (hr : (0 ≤ r ∧ r < 15) ∧ r ≠ 3 ∧ r ≠ 4) (h : RG s r (rv s r)) (ht : RG s 3 (rv s 3)) (ho : rv s 3 % 2 = 1) (hx : ∃ X, 0 ≤ X ∧ rv s r = X * rv s 3) : kR mX11_parts [jR 143, jI r] s (fun o s' => o = none ∧ RF (fun q => q = r ∨ q = 4) s s' ∧ ∀ X, rv s r = X * rv s 3 → RG s' r X) := by
  obtain ⟨X, hX0, hX⟩ := hx
  obtain ⟨r1, r3, r4⟩ := hr
  have tb := ht.b
  have T1 : 1 ≤ rv s 3 := by omega
  refine kK.mono (?_ : kR mX11_parts [jR 143, jI r] s (fun o s' => o = none ∧ RF (fun q => q = r ∨ q = 4) s s' ∧ RG s' r X)) (fun o s' q => ⟨q.1, q.2.1, fun X' hX' => by
    have : X' = X := Int.eq_of_mul_eq_mul_right (show rv s 3 ≠ 0 by omega) (hX'.symm.trans hX)
    rw [this]; exact q.2.2⟩)
  have vw := h.1.vw
  have hb := h.b
  obtain ⟨⟨a, b, c, d⟩, -⟩ := id h
  obtain ⟨⟨a3, b3, c3, d3⟩, -⟩ := id ht
  have e150 : s 144 150 = rg s 3 0 := rfl
  -- the copying back
  have k195 : ∀ i, i ≤ s 145 r → 0 ≤ i → ∀ s1, s1 145 r = s 145 r → (∀ j, 0 ≤ j → j < s 145 r → 0 ≤ rg s1 4 j ∧ rg s1 4 j < 1073741824) → vl (s 145 r) (rg s1 4) = X → (∀ j, 0 ≤ j → j < i → rg s1 r j = rg s1 4 j) → (∀ j, s 145 r ≤ j → j < 50 → rg s1 r j = 0) → RF (fun q => q = r ∨ q = 4) s s1 → kK mX11_parts 195 [jR 143, jI r, jU, jI (s 145 r), jI i, jU, jU, jU, jU, jU, jU, jU, jU] [] s1 (fun o s' => o = none ∧ RF (fun q => q = r ∨ q = 4) s s' ∧ RG s' r X) := by
    refine lp_up _ _ (fun i hi ih i0 s1 w dg4 v4 eq z f => ?_)
    refine g_X11_parts_195 ⟨by unfold jr32; omega, by unfold jr32; omega, fun q => ⟨r1, ?_⟩, fun q => ⟨by omega, by omega, ?_⟩⟩
    · have ei : i = s 145 r := by omega
      rw [ei] at eq
      have p : PG s1 r X := by
        refine ⟨by rw [w]; exact a, fun j j0 j1 => ?_, by rw [w]; exact z, ?_⟩
        · by_cases x : j < s 145 r
          · rw [eq j j0 x]; exact dg4 j j0 x
          · rw [z j (by omega) j1]; omega
        · rw [vl_z0 a.1 a.2 z, vl_c _ a.1 eq, v4]
      refine ⟨by rw [p.rv]; exact p, fun s2 q3 => ?_⟩
      rw [p.rv] at q3
      exact ⟨rfl, f.tr (q3.1.wk (fun q e => Or.inl e)), q3.2⟩
    · have o4 : ∀ v, ∀ j, 0 ≤ j → j < 50 → rg (w2 s1 144 (50 * r + i) v) 4 j = rg s1 4 j := fun v j j0 j1 => ((RF.w4 (s := s1) (r := r) (k := i) (v := v) (by omega)).2 4 (fun e => r4 e.symm)).2 j j0 j1
      rw [show s1 144 (200 + i) = rg s1 4 i from rfl]
      refine ih (by omega) (by omega) _ (by rw [w2_k (by omega)]; exact w) (fun j j0 j1 => by rw [o4 _ j j0 (by omega)]; exact dg4 j j0 j1) (by rw [vl_c _ a.1 (fun j j0 j1 => o4 _ j j0 (by omega))]; exact v4) (fun j j0 j1 => ?_) (fun j j0 j1 => ?_) (f.tr (RF.w4p (by omega) (Or.inl rfl)))
      · rw [o4 _ j j0 (by omega), rg_w]
        by_cases x : j = i
        · rw [if_pos x, x]
        · rw [if_neg x]; exact eq j j0 (by omega)
      · rw [rg_w, if_neg (by omega)]; exact z j j0 j1
  -- the division proper
  have k40 : ∀ t e, 1 - rg s 3 0 * t = 4294967296 * e → ∀ i, i ≤ s 145 r → 0 ≤ i → ∀ s1 Y, 0 ≤ Y → s1 145 r = s 145 r → (∀ j, 0 ≤ j → j < i → 0 ≤ rg s1 4 j ∧ rg s1 4 j < 1073741824) → X = vl i (rg s1 4) + Y * bp i → dgt 50 (rg s1 r) → (∀ j, s 145 r ≤ j → j < 50 → rg s1 r j = 0) → vl 50 (rg s1 r) = rv s 3 * Y * bp i → RF (fun q => q = r ∨ q = 4) s s1 → kK mX11_parts 40 [jR 143, jI r, jI t, jI (s 145 r), jI i, jU, jU, jU, jU, jU, jU, jU, jU] [] s1 (fun o s' => o = none ∧ RF (fun q => q = r ∨ q = 4) s s' ∧ RG s' r X) := by
    intro t e he
    refine lp_up _ _ (fun i hi ih i0 s1 Y Y0 w dg4 hXv dg z vv f => ?_)
    have pi := bp_pos i
    have TY : 0 ≤ rv s 3 * Y := Int.mul_nonneg (by omega) Y0
    refine g_X11_parts_40 ⟨by unfold jr32; omega, by unfold jr32; omega, fun q => ?_, fun q => ⟨by omega, ?_⟩⟩
    · have ei : i = s 145 r := by omega
      have vb := vl_b (f := rg s1 r) (s 145 r) a.1 (dg.le a.2)
      rw [← vl_z0 a.1 a.2 z, vv, ei] at vb
      rw [ei] at pi
      have Y00 : Y = 0 := by
        by_cases x : Y = 0
        · exact x
        · have h1 := Int.mul_le_mul_of_nonneg_left (show 1 ≤ Y by omega) (show 0 ≤ rv s 3 by omega)
          have := Int.mul_le_mul_of_nonneg_right (show 1 ≤ rv s 3 * Y by omega) (show 0 ≤ bp (s 145 r) by omega)
          omega
      rw [Y00, ei] at hXv
      rw [ei] at dg4
      exact k195 0 a.1 (by omega) s1 w dg4 (by rw [hXv]; omega) (fun j j0 j1 => by omega) z f
    · -- the digit
      have s2 := vl_2 (rg s1 r) i0 (50 - i) (by omega)
      rw [show i + (50 - i) = 50 by omega, vv] at s2
      have lo := vl_b (f := rg s1 r) i i0 (dg.le (by omega))
      have lo0 : vl i (rg s1 r) = 0 := by
        have e1 : vl i (rg s1 r) = bp i * (rv s 3 * Y - vl (50 - i) (fun j => rg s1 r (i + j))) := by
          rw [Int.mul_sub, Int.mul_comm (bp i) (rv s 3 * Y)]; omega
        have : bp i * (rv s 3 * Y - vl (50 - i) (fun j => rg s1 r (i + j))) < bp i * 1 := by omega
        have l1 := Int.lt_of_mul_lt_mul_left this (by omega)
        have l2 : 0 ≤ rv s 3 * Y - vl (50 - i) (fun j => rg s1 r (i + j)) := by
          by_cases x : 0 ≤ rv s 3 * Y - vl (50 - i) (fun j => rg s1 r (i + j))
          · exact x
          · have := Int.mul_le_mul_of_nonneg_left (show rv s 3 * Y - vl (50 - i) (fun j => rg s1 r (i + j)) ≤ -1 by omega) (show 0 ≤ bp i by omega)
            omega
        rw [e1, show rv s 3 * Y - vl (50 - i) (fun j => rg s1 r (i + j)) = 0 by omega, Int.mul_zero]
      have U : vl (50 - i) (fun j => rg s1 r (i + j)) = rv s 3 * Y := by
        rw [lo0, Int.zero_add, Int.mul_comm] at s2
        exact (Int.eq_of_mul_eq_mul_left (show bp i ≠ 0 by omega) s2).symm
      have fi : ∃ m2, rg s1 r i = rg s 3 0 * (Y % 1073741824) + 1073741824 * m2 := by
        have l1 := vl_l (fun j => rg s1 r (i + j)) (m := 49 - i) (by omega)
        rw [show 49 - i + 1 = 50 - i by omega, U, Int.add_zero] at l1
        have l2 := vl_l (rg s 3) (m := 49) (by omega)
        rw [show (49 : Int) + 1 = 50 from rfl, d3] at l2
        have yy : Y = Y % 1073741824 + 1073741824 * (Y / 1073741824) := by omega
        generalize vl (49 - i) (fun j => rg s1 r (i + (1 + j))) = u1 at l1
        generalize vl 49 (fun j => rg s 3 (1 + j)) = u2 at l2
        refine ⟨rg s 3 0 * (Y / 1073741824) + u2 * Y - u1, ?_⟩
        have l3 : rg s1 r i = rv s 3 * Y - 1073741824 * u1 := by omega
        rw [l3, l2]
        generalize Y % 1073741824 = x at yy ⊢
        generalize Y / 1073741824 = y at yy ⊢
        rw [yy]
        grind
      obtain ⟨m2, fi⟩ := fi
      have q1 : s1 144 (50 * r + i) * t % 1073741824 = Y % 1073741824 := qd_ok he fi
      rw [q1]
      have x0 := Int.emod_nonneg Y (show (1073741824 : Int) ≠ 0 by decide)
      have x1 := Int.emod_lt_of_pos Y (show (0 : Int) < 1073741824 by decide)
      have yd : Y = Y % 1073741824 + 1073741824 * (Y / 1073741824) := by omega
      have y0 : 0 ≤ Y / 1073741824 := by omega
      -- the inner loop
      have inner : ∀ k, k ≤ s 145 r - i → 0 ≤ k → ∀ s2 o, (0 ≤ o ∧ o ≤ 1073741824) → s2 145 r = s 145 r → (∀ j, (j < i ∨ i + k ≤ j) → rg s2 r j = rg s1 r j) → (∀ j, 0 ≤ j → j < k → 0 ≤ rg s2 r (i + j) ∧ rg s2 r (i + j) < 1073741824) → vl k (fun j => rg s2 r (i + j)) = vl k (fun j => rg s1 r (i + j)) - Y % 1073741824 * vl k (rg s 3) + o * bp k → RF (fun q => q = r) s1 s2 → kK mX11_parts 71 [jR 143, jI r, jI t, jI (s 145 r), jI i, jI (Y % 1073741824), jL o, jU, jI k, jU, jU, jU, jU] [] s2 (fun o s' => o = none ∧ RF (fun q => q = r ∨ q = 4) s s' ∧ RG s' r X) := by
        refine lp_up _ _ (fun k hk jh k0 s2 o ho2 w2e un nd vk f2 => ?_)
        have fs2 : RF (fun q => q = r ∨ q = 4) s s2 := f.tr (f2.wk (fun q e => Or.inl e))
        obtain ⟨w3, g3⟩ := fs2.2 3 (by omega)
        refine g_X11_parts_71 ?_
        rw [w3, show 50 * r + i + k = 50 * r + (i + k) by omega, show s2 144 (50 * r + (i + k)) = rg s2 r (i + k) from rfl, show s2 144 (150 + k) = rg s2 3 k from rfl, un (i + k) (by omega)]
        refine ⟨by unfold jr32; omega, by unfold jr32; omega, fun q2 => ⟨by omega, ?_⟩, fun q2 => ⟨by unfold jr32; omega, by unfold jr32; omega, fun q3 => ?_, fun q3 => ?_⟩⟩
        · -- all subtracted
          have ek : k = s 145 r - i := by omega
          have pk := bp_pos k
          have nb := vl_b (f := fun j => rg s2 r (i + j)) k k0 nd
          have uk : vl k (fun j => rg s1 r (i + j)) = rv s 3 * Y := by
            rw [← U, vl_z0 (f := fun j => rg s1 r (i + j)) (n := k) (m := 50 - i) k0 (by omega) (fun j j0 j1 => z (i + j) (by omega) (by omega))]
          have fin : vl k (fun j => rg s2 r (i + j)) = rv s 3 * (Y / 1073741824) * 1073741824 := by
            have ub := vl_b (f := fun j => rg s1 r (i + j)) k k0 (fun j j0 j1 => dg (i + j) (by omega) (by omega))
            rw [uk] at ub
            have dif : rv s 3 * Y - Y % 1073741824 * vl k (rg s 3) = rv s 3 * (Y / 1073741824) * 1073741824 := by
              by_cases x : Y = 0
              · rw [x]; simp
              · have l1 := Int.mul_le_mul_of_nonneg_left (show 1 ≤ Y by omega) (show 0 ≤ rv s 3 by omega)
                have := ht.wle k0 (by omega)
                rw [ht.vk this (by omega)]
                generalize Y % 1073741824 = x at yd ⊢
                generalize Y / 1073741824 = y at yd ⊢
                rw [yd]
                grind
            have nn : 0 ≤ rv s 3 * (Y / 1073741824) := Int.mul_nonneg (by omega) y0
            have o0 : o = 0 := by
              by_cases x : o = 0
              · exact x
              · have := Int.mul_le_mul_of_nonneg_right (show 1 ≤ o by omega) (show 0 ≤ bp k by omega)
                omega
            rw [vk, uk, o0, dif]; omega
          have r50 : vl 50 (rg s2 r) = rv s 3 * (Y / 1073741824) * bp (i + 1) := by
            have t2 := vl_2 (rg s2 r) i0 (50 - i) (by omega)
            rw [show i + (50 - i) = 50 by omega, vl_c (f := rg s2 r) (g := rg s1 r) i i0 (fun j j0 j1 => un j (by omega)), lo0, vl_z0 (f := fun j => rg s2 r (i + j)) (n := k) (m := 50 - i) k0 (by omega) (fun j j0 j1 => by rw [un (i + j) (by omega)]; exact z (i + j) (by omega) (by omega)), fin] at t2
            rw [t2, bp_s i0]
            grind
          have o4 : ∀ j, 0 ≤ j → j < 50 → rg s2 4 j = rg s1 4 j := (f2.2 4 (by omega)).2
          have or : ∀ v j, 0 ≤ j → j < 50 → rg (w2 s2 144 (50 * 4 + i) v) r j = rg s2 r j := fun v j j0 j1 => ((RF.w4 (s := s2) (r := 4) (k := i) (v := v) (by omega)).2 r r4).2 j j0 j1
          rw [show 200 + i = 50 * 4 + i by omega]
          refine ih (by omega) (by omega) _ (Y / 1073741824) y0 (by rw [w2_k (by omega)]; exact w2e) (fun j j0 j1 => ?_) ?_ (fun j j0 j1 => ?_) (fun j j0 j1 => ?_) (by rw [vl_c 50 (by omega) (fun j j0 j1 => or _ j j0 j1)]; exact r50) (fs2.tr (RF.w4p (by omega) (Or.inr rfl)))
          · rw [rg_w]
            by_cases x : j = i
            · rw [if_pos x]; omega
            · rw [if_neg x, o4 j j0 (by omega)]; exact dg4 j j0 (by omega)
          · rw [vl_s i0, rg_w, if_pos rfl, bp_s i0, vl_c (g := rg s1 4) i i0 (fun j j0 j1 => by rw [rg_w, if_neg (by omega), o4 j j0 (by omega)]), Int.add_assoc, dm_mul]
            exact hXv
          · rw [or _ j j0 j1]
            by_cases x : j < i
            · rw [un j (by omega)]; exact dg j j0 j1
            · by_cases x2 : j < i + k
              · have := nd (j - i) (by omega) (by omega)
                rw [show i + (j - i) = j by omega] at this
                exact this
              · rw [un j (by omega)]; exact dg j j0 j1
          · rw [or _ j (by omega) j1, un j (by omega)]; exact z j j0 j1
        · -- above the divisor's digits
          have dk := dg (i + k) (by omega) (by omega)
          have tk : rg s 3 k = 0 := c3 k q3 (by omega)
          refine ⟨by omega, by unfold jr32; omega, by unfold jr64; omega, ?_⟩
          rw [show (2 : Int) ^ Int.toNat 30 = 1073741824 from rfl]
          have hv : (rg s1 r (i + k) - 0 - o) % 1073741824 = rg s1 r (i + k) - Y % 1073741824 * rg s 3 k - o + -((rg s1 r (i + k) - 0 - o) / 1073741824) * 1073741824 := by
            rw [tk, Int.mul_zero]; omega
          generalize hn : (rg s1 r (i + k) - 0 - o) % 1073741824 = n at hv ⊢
          generalize ho3 : -((rg s1 r (i + k) - 0 - o) / 1073741824) = o2 at hv ⊢
          refine jh (by omega) (by omega) _ o2 (by omega) (by rw [w2_k (by omega)]; exact w2e) (fun j hj => by rw [rg_w, if_neg (by omega)]; exact un j (by omega)) (fun j j0 j1 => ?_) ?_ (f2.tr (RF.w4 (by omega)))
          · rw [rg_w]
            by_cases x : i + j = i + k
            · rw [if_pos x]; omega
            · rw [if_neg x]; exact nd j j0 (by omega)
          · rw [vl_s k0, vl_s k0, vl_s k0, bp_s k0, vl_c (f := fun j => rg (w2 s2 144 (50 * r + (i + k)) n) r (i + j)) (g := fun j => rg s2 r (i + j)) k k0 (fun j j0 j1 => by rw [rg_w, if_neg (by omega)]), rg_w, if_pos rfl, vk, hv]
            grind
        · rw [g3 k k0 (by omega)]
          have dk := dg (i + k) (by omega) (by omega)
          have tk := b3 k k0 (by omega)
          have p0 := Int.mul_nonneg x0 tk.1
          have p1 : Y % 1073741824 * rg s 3 k ≤ 1073741823 * 1073741823 := Int.mul_le_mul (by omega) (by omega) tk.1 (by omega)
          generalize hp : Y % 1073741824 * rg s 3 k = p at p0 p1 ⊢
          refine ⟨by unfold jr32; omega, by omega, by unfold jr32; omega, by omega, by unfold jr32; omega, by unfold jr64; omega, ?_⟩
          rw [show (2 : Int) ^ Int.toNat 30 = 1073741824 from rfl]
          have hv : (rg s1 r (i + k) - p - o) % 1073741824 = rg s1 r (i + k) - p - o + -((rg s1 r (i + k) - p - o) / 1073741824) * 1073741824 := by omega
          have ob : 0 ≤ -((rg s1 r (i + k) - p - o) / 1073741824) ∧ -((rg s1 r (i + k) - p - o) / 1073741824) ≤ 1073741824 := by omega
          generalize hn : (rg s1 r (i + k) - p - o) % 1073741824 = n at hv ⊢
          generalize ho3 : -((rg s1 r (i + k) - p - o) / 1073741824) = o2 at hv ob ⊢
          refine jh (by omega) (by omega) _ o2 ob (by rw [w2_k (by omega)]; exact w2e) (fun j hj => by rw [rg_w, if_neg (by omega)]; exact un j (by omega)) (fun j j0 j1 => ?_) ?_ (f2.tr (RF.w4 (by omega)))
          · rw [rg_w]
            by_cases x : i + j = i + k
            · rw [if_pos x]; omega
            · rw [if_neg x]; exact nd j j0 (by omega)
          · rw [vl_s k0, vl_s k0, vl_s k0, bp_s k0, vl_c (f := fun j => rg (w2 s2 144 (50 * r + (i + k)) n) r (i + j)) (g := fun j => rg s2 r (i + j)) k k0 (fun j j0 j1 => by rw [rg_w, if_neg (by omega)]), rg_w, if_pos rfl, vk, hv, ← hp]
            grind
      exact inner 0 (by omega) (by omega) s1 0 (by omega) w (fun j _ => rfl) (fun j j0 j1 => by omega) (by simp only [vl_0]; omega) RF.rf
  -- the inverse
  refine g_X11_parts ?_
  have k4 : ∀ k, k ≤ 5 → 0 ≤ k → ∀ t e, 1 - rg s 3 0 * t = pw2 k.toNat * e → kK mX11_parts 4 [jR 143, jI r, jI t, jI k, jU, jU, jU, jU, jU, jU, jU, jU, jU] [] s (fun o s' => o = none ∧ RF (fun q => q = r ∨ q = 4) s s' ∧ RG s' r X) := by
    refine lp_up 5 _ (fun k hk ih k0 t e he => ?_)
    refine g_X11_parts_4 ⟨by unfold jr32; omega, fun q => ⟨r1, ?_⟩, fun q => ?_⟩
    · rw [show k = 5 by omega, show pw2 (Int.toNat 5) = 4294967296 from rfl] at he
      refine k40 t e he 0 a.1 (by omega) s X hX0 rfl (fun j j0 j1 => by omega) (by rw [vl_0, bp_0]; omega) b c ?_ RF.rf
      rw [bp_0, Int.mul_one, Int.mul_comm, ← hX]; rfl
    · rw [e150]
      refine ih (by omega) (by omega) _ (e * e) ?_
      rw [show (k + 1).toNat = k.toNat + 1 by omega]
      exact nw_st he
  have od : rg s 3 0 % 2 = 1 := by
    have l := vl_l (rg s 3) (m := 49) (by omega)
    rw [show (49 : Int) + 1 = 50 from rfl, d3] at l
    omega
  exact k4 0 (by omega) (by omega) 1 ((1 - rg s 3 0) / 2) (by show 1 - rg s 3 0 * 1 = 2 * ((1 - rg s 3 0) / 2); omega)
