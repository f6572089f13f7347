theorem g_X11_mixed {s : Int → Int → Int} {Q : Option jV → (Int → Int → Int) → Prop} {v0 x v3 v4 : Int} {li : Int} {len : Nat} (hs : jsh x = hI len) (hx : 0 < x ∧ x ≤ 168) (hl : (len : Int) = li) (hlen : len < 2147483648) (v : kK mX11_mixed 6 [jU, jU, jR x, jI v3, jI v4, jL v0, jU, jI 0] [] s Q) : kR mX11_mixed [jL v0, jR x, jI v3, jI v4] s Q := by
  show kK mX11_mixed 0 [jL v0, jU, jR x, jI v3, jI v4, jU, jU, jU] [] s Q
  refine k_lload_n dX11_mixed_0 rfl ?_
  refine k_lstore [jL v0, jU, jR x, jI v3, jI v4, jL v0, jU, jU] dX11_mixed_1 rfl rfl ?_
  refine k_iconst dX11_mixed_3 ?_
  refine k_istore [jL v0, jU, jR x, jI v3, jI v4, jL v0, jU, jI 0] dX11_mixed_4 rfl rfl ?_
  refine k_drop [jU, jU, jR x, jI v3, jI v4, jL v0, jU, jI 0] ⟨Or.inl rfl, Or.inr rfl, Or.inr rfl, Or.inr rfl, Or.inr rfl, Or.inr rfl, Or.inr rfl, Or.inr rfl, trivial⟩ ?_
  exact v
theorem g_X11_mixed_6 {s : Int → Int → Int} {Q : Option jV → (Int → Int → Int) → Prop} {v3 v4 v5 v7 x : Int} {li : Int} {len : Nat} (hs : jsh x = hI len) (hx : 0 < x ∧ x ≤ 168) (hl : (len : Int) = li) (hlen : len < 2147483648) (v : (jr32 v7 ∧ jr32 v4 ∧ ((v4 ≤ v7 → Q (some (jL v5)) s) ∧ (¬ (v4 ≤ v7) → ((0 ≤ (v3 + v7) ∧ (v3 + v7) < li) ∧ jr32 (s x (v3 + v7)) ∧ kK mX11_mixed 6 [jU, jU, jR x, jI v3, jI v4, jL ((31 * v5) + (s x (v3 + v7))), jU, jI (v7 + 1)] [] s Q))))) : kK mX11_mixed 6 [jU, jU, jR x, jI v3, jI v4, jL v5, jU, jI v7] [] s Q := by
  obtain ⟨a1, a2, v⟩ := v
  refine k_iload dX11_mixed_6 rfl ?_
  refine k_iload dX11_mixed_8 rfl ?_
  obtain ⟨vt, vf⟩ := v
  refine k_icmp_ge 35 dX11_mixed_10 rfl a1 a2 (fun c3 => ?_) (fun c3 => ?_)
  · have v := vt c3
    refine k_lload dX11_mixed_35 rfl ?_
    exact k_lreturn (st := []) dX11_mixed_37 rfl v
  · have v := vf c3
    obtain ⟨a4, a5, v⟩ := v
    refine k_ldc2 (31) (31) dX11_mixed_13 kl_X11_254 rfl ?_
    refine k_lload dX11_mixed_16 rfl ?_
    refine k_lmul dX11_mixed_18 ?_
    refine k_aload_n dX11_mixed_19 rfl ?_
    refine k_iload_n dX11_mixed_20 rfl ?_
    refine k_iload dX11_mixed_21 rfl ?_
    refine k_iadd dX11_mixed_23 ?_
    refine k_iald li dX11_mixed_24 hs hx hl hlen a4 ?_
    refine k_i2l dX11_mixed_25 a5 ?_
    refine k_ladd dX11_mixed_26 ?_
    refine k_lstore [jU, jU, jR x, jI v3, jI v4, jL ((31 * v5) + (s x (v3 + v7))), jU, jI v7] dX11_mixed_27 rfl rfl ?_
    refine k_iinc [jU, jU, jR x, jI v3, jI v4, jL ((31 * v5) + (s x (v3 + v7))), jU, jI (v7 + 1)] dX11_mixed_29 rfl rfl rfl ?_
    refine k_goto 6 dX11_mixed_32 rfl ?_
    exact v
theorem sp_X11_mixed (li : Int) (s : Int → Int → Int) (h x o n : Int) (hn : 0 ≤ n ∧ 0 ≤ o ∧ o + n ≤ li) (hr : ∀ i, 0 ≤ i → i < n → jr32 (s x (o + i))) {len : Nat} (hs : jsh x = hI len) (hx : 0 < x ∧ x ≤ 168) (hl : (len : Int) = li) (hlen : len < 2147483648) : kM mX11_mixed [jL h, jR x, jI o, jI n] s (some (jL (dg n (fun k => s x (o + k)) h))) s := by
  refine g_X11_mixed hs hx hl hlen ?_
  have key : ∀ i, i ≤ n → 0 ≤ i → kK mX11_mixed 6 [jU, jU, jR x, jI o, jI n, jL (dg i (fun k => s x (o + k)) h), jU, jI i] [] s (fun r s' => r = some (jL (dg n (fun k => s x (o + k)) h)) ∧ s' = s) := by
    refine lp_up _ _ (fun i hi ih i0 => ?_)
    refine g_X11_mixed_6 hs hx hl hlen ⟨by unfold jr32; omega, by unfold jr32; omega, fun q => ⟨by rw [show i = n by omega], rfl⟩, fun q => ⟨by omega, hr i i0 (by omega), ?_⟩⟩
    have := ih (by omega) (by omega)
    rw [dg_s i0] at this
    exact this
  exact key 0 (by omega) (by omega)
theorem sp_X11_sign (s : Int → Int → Int) (w : Int) (p : PD s) (hw : 0 ≤ w ∧ w ≤ 2) : kM mX11_sign [jR 143, jI w] s (some (jI (sgv s w))) s := by
  obtain ⟨S0, hI⟩ := p
  obtain ⟨⟨e1, b1⟩, ⟨e2, b2⟩, -⟩ := hI.2.2.2.2.2.2.1
  unfold sgv
  refine g_X11_sign ⟨by unfold jr32; omega, fun c => ⟨fun c2 => ⟨fun c3 => by omega, fun c3 => ⟨by rw [if_neg c, show w - 1 = 1 by omega], rfl⟩⟩, fun c2 => ⟨by rw [if_neg c, show w - 1 = 0 by omega], rfl⟩⟩, fun c => ⟨by unfold jr32; omega, fun q => ⟨?_, rfl⟩, fun q => ⟨?_, rfl⟩⟩⟩
  · rw [if_pos c]; exact jbf0 (by omega)
  · rw [if_pos c]; exact jbf1 (by omega)
theorem g_X11_digest {s : Int → Int → Int} {Q : Option jV → (Int → Int → Int) → Prop} (v : ((∀ i, 0 ≤ i → i < 6 → jr32 (s 146 (0 + i))) ∧ kK mX11_digest 16 [jR 143, jL (dg 6 (fun k => s 146 (0 + k)) 479), jU, jI 0] [] s Q)) : kR mX11_digest [jR 143] s Q := by
  show kK mX11_digest 0 [jR 143, jU, jU, jU] [] s Q
  obtain ⟨a1, v⟩ := v
  refine k_ldc2 (479) (479) dX11_digest_0 kl_X11_256 rfl ?_
  refine k_aload_n dX11_digest_3 rfl ?_
  refine k_getr dX11_digest_4 fl_X11_16 sh_143 (by decide) rfl ?_
  refine k_iconst dX11_digest_7 ?_
  refine k_bipush dX11_digest_8 rfl ?_
  refine k_invS [jL 479, jR 146, jI 0, jI 6] [] dX11_digest_10 cm_X11_mixed ml_X11_258 st_X11_mixed rfl rfl (sp_X11_mixed 6 s 479 146 0 6 (by decide) a1 sh_146 (by decide) rfl (by decide)) ?_
  refine k_lstore_n [jR 143, jL (dg 6 (fun k => s 146 (0 + k)) 479), jU, jU] dX11_digest_13 rfl rfl ?_
  refine k_iconst dX11_digest_14 ?_
  refine k_istore_n [jR 143, jL (dg 6 (fun k => s 146 (0 + k)) 479), jU, jI 0] dX11_digest_15 rfl rfl ?_
  exact v
theorem g_X11_digest_16 {s : Int → Int → Int} {Q : Option jV → (Int → Int → Int) → Prop} {v1 v3 : Int} (v : (jr32 v3 ∧ jr32 (s 146 0) ∧ (((s 146 0) ≤ v3 → (((0 : Int) ≤ (s 146 1) ∧ (0 : Int) ≤ 0 ∧ 0 + (s 146 1) ≤ 6) ∧ (∀ i, 0 ≤ i → i < (s 146 1) → jr32 (s 149 (0 + i))) ∧ kK mX11_digest 76 [jR 143, jL (dg (s 146 1) (fun k => s 149 (0 + k)) v1), jU, jI 0] [] s Q)) ∧ (¬ ((s 146 0) ≤ v3) → ((0 ≤ v3 ∧ v3 < 8) ∧ jr32 (s 147 v3) ∧ jr32 (s 148 v3) ∧ kK mX11_digest 16 [jR 143, jL ((31 * ((31 * v1) + (s 147 v3))) + (s 148 v3)), jU, jI (v3 + 1)] [] s Q))))) : kK mX11_digest 16 [jR 143, jL v1, jU, jI v3] [] s Q := by
  obtain ⟨a1, a2, v⟩ := v
  refine k_iload_n dX11_digest_16 rfl ?_
  refine k_aload_n dX11_digest_17 rfl ?_
  refine k_getr dX11_digest_18 fl_X11_16 sh_143 (by decide) rfl ?_
  refine k_iconst dX11_digest_21 ?_
  refine k_iald 6 dX11_digest_22 sh_146 (by decide) rfl (by decide) (by decide) ?_
  obtain ⟨vt, vf⟩ := v
  refine k_icmp_ge 58 dX11_digest_23 rfl a1 a2 (fun c3 => ?_) (fun c3 => ?_)
  · have v := vt c3
    obtain ⟨a4, a5, v⟩ := v
    refine k_lload_n dX11_digest_58 rfl ?_
    refine k_aload_n dX11_digest_59 rfl ?_
    refine k_getr dX11_digest_60 fl_X11_25 sh_143 (by decide) rfl ?_
    refine k_iconst dX11_digest_63 ?_
    refine k_aload_n dX11_digest_64 rfl ?_
    refine k_getr dX11_digest_65 fl_X11_16 sh_143 (by decide) rfl ?_
    refine k_iconst dX11_digest_68 ?_
    refine k_iald 6 dX11_digest_69 sh_146 (by decide) rfl (by decide) (by decide) ?_
    refine k_invS [jL v1, jR 149, jI 0, jI (s 146 1)] [] dX11_digest_70 cm_X11_mixed ml_X11_258 st_X11_mixed rfl rfl (sp_X11_mixed 6 s v1 149 0 (s 146 1) a4 a5 sh_149 (by decide) rfl (by decide)) ?_
    refine k_lstore_n [jR 143, jL (dg (s 146 1) (fun k => s 149 (0 + k)) v1), jU, jI v3] dX11_digest_73 rfl rfl ?_
    refine k_iconst dX11_digest_74 ?_
    refine k_istore_n [jR 143, jL (dg (s 146 1) (fun k => s 149 (0 + k)) v1), jU, jI 0] dX11_digest_75 rfl rfl ?_
    exact v
  · have v := vf c3
    obtain ⟨a6, a7, a8, v⟩ := v
    refine k_ldc2 (31) (31) dX11_digest_26 kl_X11_254 rfl ?_
    refine k_ldc2 (31) (31) dX11_digest_29 kl_X11_254 rfl ?_
    refine k_lload_n dX11_digest_32 rfl ?_
    refine k_lmul dX11_digest_33 ?_
    refine k_aload_n dX11_digest_34 rfl ?_
    refine k_getr dX11_digest_35 fl_X11_19 sh_143 (by decide) rfl ?_
    refine k_iload_n dX11_digest_38 rfl ?_
    refine k_iald 8 dX11_digest_39 sh_147 (by decide) rfl (by decide) a6 ?_
    refine k_i2l dX11_digest_40 a7 ?_
    refine k_ladd dX11_digest_41 ?_
    refine k_lmul dX11_digest_42 ?_
    refine k_aload_n dX11_digest_43 rfl ?_
    refine k_getr dX11_digest_44 fl_X11_22 sh_143 (by decide) rfl ?_
    refine k_iload_n dX11_digest_47 rfl ?_
    refine k_iald 8 dX11_digest_48 sh_148 (by decide) rfl (by decide) a6 ?_
    refine k_i2l dX11_digest_49 a8 ?_
    refine k_ladd dX11_digest_50 ?_
    refine k_lstore_n [jR 143, jL ((31 * ((31 * v1) + (s 147 v3))) + (s 148 v3)), jU, jI v3] dX11_digest_51 rfl rfl ?_
    refine k_iinc [jR 143, jL ((31 * ((31 * v1) + (s 147 v3))) + (s 148 v3)), jU, jI (v3 + 1)] dX11_digest_52 rfl rfl rfl ?_
    refine k_goto 16 dX11_digest_55 rfl ?_
    exact v
theorem g_X11_digest_76 {s : Int → Int → Int} {Q : Option jV → (Int → Int → Int) → Prop} {v1 v3 : Int} (v : (jr32 v3 ∧ jr32 (s 146 2) ∧ (((s 146 2) ≤ v3 → kK mX11_digest 120 [jR 143, jL v1, jU, jI 0] [] s Q) ∧ (¬ ((s 146 2) ≤ v3) → ((0 ≤ v3 ∧ v3 < 8) ∧ jr32 (s 150 v3) ∧ jr32 (s 151 v3) ∧ kK mX11_digest 76 [jR 143, jL ((31 * ((31 * v1) + (s 150 v3))) + (s 151 v3)), jU, jI (v3 + 1)] [] s Q))))) : kK mX11_digest 76 [jR 143, jL v1, jU, jI v3] [] s Q := by
  obtain ⟨a1, a2, v⟩ := v
  refine k_iload_n dX11_digest_76 rfl ?_
  refine k_aload_n dX11_digest_77 rfl ?_
  refine k_getr dX11_digest_78 fl_X11_16 sh_143 (by decide) rfl ?_
  refine k_iconst dX11_digest_81 ?_
  refine k_iald 6 dX11_digest_82 sh_146 (by decide) rfl (by decide) (by decide) ?_
  obtain ⟨vt, vf⟩ := v
  refine k_icmp_ge 118 dX11_digest_83 rfl a1 a2 (fun c3 => ?_) (fun c3 => ?_)
  · have v := vt c3
    refine k_iconst dX11_digest_118 ?_
    refine k_istore_n [jR 143, jL v1, jU, jI 0] dX11_digest_119 rfl rfl ?_
    exact v
  · have v := vf c3
    obtain ⟨a4, a5, a6, v⟩ := v
    refine k_ldc2 (31) (31) dX11_digest_86 kl_X11_254 rfl ?_
    refine k_ldc2 (31) (31) dX11_digest_89 kl_X11_254 rfl ?_
    refine k_lload_n dX11_digest_92 rfl ?_
    refine k_lmul dX11_digest_93 ?_
    refine k_aload_n dX11_digest_94 rfl ?_
    refine k_getr dX11_digest_95 fl_X11_28 sh_143 (by decide) rfl ?_
    refine k_iload_n dX11_digest_98 rfl ?_
    refine k_iald 8 dX11_digest_99 sh_150 (by decide) rfl (by decide) a4 ?_
    refine k_i2l dX11_digest_100 a5 ?_
    refine k_ladd dX11_digest_101 ?_
    refine k_lmul dX11_digest_102 ?_
    refine k_aload_n dX11_digest_103 rfl ?_
    refine k_getr dX11_digest_104 fl_X11_31 sh_143 (by decide) rfl ?_
    refine k_iload_n dX11_digest_107 rfl ?_
    refine k_iald 8 dX11_digest_108 sh_151 (by decide) rfl (by decide) a4 ?_
    refine k_i2l dX11_digest_109 a6 ?_
    refine k_ladd dX11_digest_110 ?_
    refine k_lstore_n [jR 143, jL ((31 * ((31 * v1) + (s 150 v3))) + (s 151 v3)), jU, jI v3] dX11_digest_111 rfl rfl ?_
    refine k_iinc [jR 143, jL ((31 * ((31 * v1) + (s 150 v3))) + (s 151 v3)), jU, jI (v3 + 1)] dX11_digest_112 rfl rfl rfl ?_
    refine k_goto 76 dX11_digest_115 rfl ?_
    exact v
theorem g_X11_digest_120 {s : Int → Int → Int} {Q : Option jV → (Int → Int → Int) → Prop} {v1 v3 : Int} (v : (jr32 v3 ∧ jr32 (s 146 3) ∧ (((s 146 3) ≤ v3 → ((∀ i, 0 ≤ i → i < 4 → jr32 (s 157 (0 + i))) ∧ kK mX11_digest 218 [jR 143, jL (dg 4 (fun k => s 157 (0 + k)) v1), jU, jI 0] [] s Q)) ∧ (¬ ((s 146 3) ≤ v3) → ((0 ≤ v3 ∧ v3 < 30) ∧ jr32 (s 152 v3) ∧ jr32 (s 153 v3) ∧ jr32 (s 154 v3) ∧ jr32 (s 155 v3) ∧ ((0 : Int) ≤ (s 155 v3) ∧ (0 : Int) ≤ (8 * v3) ∧ (8 * v3) + (s 155 v3) ≤ 240) ∧ (∀ i, 0 ≤ i → i < (s 155 v3) → jr32 (s 156 ((8 * v3) + i))) ∧ kK mX11_digest 120 [jR 143, jL (dg (s 155 v3) (fun k => s 156 ((8 * v3) + k)) ((31 * ((31 * ((31 * ((31 * v1) + (s 152 v3))) + (s 153 v3))) + (s 154 v3))) + (s 155 v3))), jU, jI (v3 + 1)] [] s Q))))) : kK mX11_digest 120 [jR 143, jL v1, jU, jI v3] [] s Q := by
  obtain ⟨a1, a2, v⟩ := v
  refine k_iload_n dX11_digest_120 rfl ?_
  refine k_aload_n dX11_digest_121 rfl ?_
  refine k_getr dX11_digest_122 fl_X11_16 sh_143 (by decide) rfl ?_
  refine k_iconst dX11_digest_125 ?_
  refine k_iald 6 dX11_digest_126 sh_146 (by decide) rfl (by decide) (by decide) ?_
  obtain ⟨vt, vf⟩ := v
  refine k_icmp_ge 205 dX11_digest_127 rfl a1 a2 (fun c3 => ?_) (fun c3 => ?_)
  · have v := vt c3
    obtain ⟨a4, v⟩ := v
    refine k_lload_n dX11_digest_205 rfl ?_
    refine k_aload_n dX11_digest_206 rfl ?_
    refine k_getr dX11_digest_207 fl_X11_49 sh_143 (by decide) rfl ?_
    refine k_iconst dX11_digest_210 ?_
    refine k_iconst dX11_digest_211 ?_
    refine k_invS [jL v1, jR 157, jI 0, jI 4] [] dX11_digest_212 cm_X11_mixed ml_X11_258 st_X11_mixed rfl rfl (sp_X11_mixed 4 s v1 157 0 4 (by decide) a4 sh_157 (by decide) rfl (by decide)) ?_
    refine k_lstore_n [jR 143, jL (dg 4 (fun k => s 157 (0 + k)) v1), jU, jI v3] dX11_digest_215 rfl rfl ?_
    refine k_iconst dX11_digest_216 ?_
    refine k_istore_n [jR 143, jL (dg 4 (fun k => s 157 (0 + k)) v1), jU, jI 0] dX11_digest_217 rfl rfl ?_
    exact v
  · have v := vf c3
    obtain ⟨a5, a6, a7, a8, a9, a10, a11, v⟩ := v
    refine k_ldc2 (31) (31) dX11_digest_130 kl_X11_254 rfl ?_
    refine k_ldc2 (31) (31) dX11_digest_133 kl_X11_254 rfl ?_
    refine k_ldc2 (31) (31) dX11_digest_136 kl_X11_254 rfl ?_
    refine k_ldc2 (31) (31) dX11_digest_139 kl_X11_254 rfl ?_
    refine k_lload_n dX11_digest_142 rfl ?_
    refine k_lmul dX11_digest_143 ?_
    refine k_aload_n dX11_digest_144 rfl ?_
    refine k_getr dX11_digest_145 fl_X11_34 sh_143 (by decide) rfl ?_
    refine k_iload_n dX11_digest_148 rfl ?_
    refine k_iald 30 dX11_digest_149 sh_152 (by decide) rfl (by decide) a5 ?_
    refine k_i2l dX11_digest_150 a6 ?_
    refine k_ladd dX11_digest_151 ?_
    refine k_lmul dX11_digest_152 ?_
    refine k_aload_n dX11_digest_153 rfl ?_
    refine k_getr dX11_digest_154 fl_X11_37 sh_143 (by decide) rfl ?_
    refine k_iload_n dX11_digest_157 rfl ?_
    refine k_iald 30 dX11_digest_158 sh_153 (by decide) rfl (by decide) a5 ?_
    refine k_i2l dX11_digest_159 a7 ?_
    refine k_ladd dX11_digest_160 ?_
    refine k_lmul dX11_digest_161 ?_
    refine k_aload_n dX11_digest_162 rfl ?_
    refine k_getr dX11_digest_163 fl_X11_40 sh_143 (by decide) rfl ?_
    refine k_iload_n dX11_digest_166 rfl ?_
    refine k_iald 30 dX11_digest_167 sh_154 (by decide) rfl (by decide) a5 ?_
    refine k_i2l dX11_digest_168 a8 ?_
    refine k_ladd dX11_digest_169 ?_
    refine k_lmul dX11_digest_170 ?_
    refine k_aload_n dX11_digest_171 rfl ?_
    refine k_getr dX11_digest_172 fl_X11_43 sh_143 (by decide) rfl ?_
    refine k_iload_n dX11_digest_175 rfl ?_
    refine k_iald 30 dX11_digest_176 sh_155 (by decide) rfl (by decide) a5 ?_
    refine k_i2l dX11_digest_177 a9 ?_
    refine k_ladd dX11_digest_178 ?_
    refine k_lstore_n [jR 143, jL ((31 * ((31 * ((31 * ((31 * v1) + (s 152 v3))) + (s 153 v3))) + (s 154 v3))) + (s 155 v3)), jU, jI v3] dX11_digest_179 rfl rfl ?_
    refine k_lload_n dX11_digest_180 rfl ?_
    refine k_aload_n dX11_digest_181 rfl ?_
    refine k_getr dX11_digest_182 fl_X11_46 sh_143 (by decide) rfl ?_
    refine k_bipush dX11_digest_185 rfl ?_
    refine k_iload_n dX11_digest_187 rfl ?_
    refine k_imul dX11_digest_188 ?_
    refine k_aload_n dX11_digest_189 rfl ?_
    refine k_getr dX11_digest_190 fl_X11_43 sh_143 (by decide) rfl ?_
    refine k_iload_n dX11_digest_193 rfl ?_
    refine k_iald 30 dX11_digest_194 sh_155 (by decide) rfl (by decide) a5 ?_
    refine k_invS [jL ((31 * ((31 * ((31 * ((31 * v1) + (s 152 v3))) + (s 153 v3))) + (s 154 v3))) + (s 155 v3)), jR 156, jI (8 * v3), jI (s 155 v3)] [] dX11_digest_195 cm_X11_mixed ml_X11_258 st_X11_mixed rfl rfl (sp_X11_mixed 240 s ((31 * ((31 * ((31 * ((31 * v1) + (s 152 v3))) + (s 153 v3))) + (s 154 v3))) + (s 155 v3)) 156 (8 * v3) (s 155 v3) a10 a11 sh_156 (by decide) rfl (by decide)) ?_
    refine k_lstore_n [jR 143, jL (dg (s 155 v3) (fun k => s 156 ((8 * v3) + k)) ((31 * ((31 * ((31 * ((31 * v1) + (s 152 v3))) + (s 153 v3))) + (s 154 v3))) + (s 155 v3))), jU, jI v3] dX11_digest_198 rfl rfl ?_
    refine k_iinc [jR 143, jL (dg (s 155 v3) (fun k => s 156 ((8 * v3) + k)) ((31 * ((31 * ((31 * ((31 * v1) + (s 152 v3))) + (s 153 v3))) + (s 154 v3))) + (s 155 v3))), jU, jI (v3 + 1)] dX11_digest_199 rfl rfl rfl ?_
    refine k_goto 120 dX11_digest_202 rfl ?_
    exact v
theorem g_X11_digest_218 {s : Int → Int → Int} {Q : Option jV → (Int → Int → Int) → Prop} {v1 v3 : Int} (v : (jr32 v3 ∧ jr32 (s 146 4) ∧ (((s 146 4) ≤ v3 → ((∀ i, 0 ≤ i → i < 6 → jr32 (s 163 (0 + i))) ∧ kK mX11_digest 286 [jR 143, jL (dg 6 (fun k => s 163 (0 + k)) v1), jU, jI 0] [] s Q)) ∧ (¬ ((s 146 4) ≤ v3) → ((0 ≤ v3 ∧ v3 < 40) ∧ jr32 (s 159 v3) ∧ jr32 (s 160 v3) ∧ jr32 (s 161 v3) ∧ kK mX11_digest 218 [jR 143, jL ((31 * ((31 * ((31 * v1) + (s 159 v3))) + (s 160 v3))) + (s 161 v3)), jU, jI (v3 + 1)] [] s Q))))) : kK mX11_digest 218 [jR 143, jL v1, jU, jI v3] [] s Q := by
  obtain ⟨a1, a2, v⟩ := v
  refine k_iload_n dX11_digest_218 rfl ?_
  refine k_aload_n dX11_digest_219 rfl ?_
  refine k_getr dX11_digest_220 fl_X11_16 sh_143 (by decide) rfl ?_
  refine k_iconst dX11_digest_223 ?_
  refine k_iald 6 dX11_digest_224 sh_146 (by decide) rfl (by decide) (by decide) ?_
  obtain ⟨vt, vf⟩ := v
  refine k_icmp_ge 272 dX11_digest_225 rfl a1 a2 (fun c3 => ?_) (fun c3 => ?_)
  · have v := vt c3
    obtain ⟨a4, v⟩ := v
    refine k_lload_n dX11_digest_272 rfl ?_
    refine k_aload_n dX11_digest_273 rfl ?_
    refine k_getr dX11_digest_274 fl_X11_67 sh_143 (by decide) rfl ?_
    refine k_iconst dX11_digest_277 ?_
    refine k_bipush dX11_digest_278 rfl ?_
    refine k_invS [jL v1, jR 163, jI 0, jI 6] [] dX11_digest_280 cm_X11_mixed ml_X11_258 st_X11_mixed rfl rfl (sp_X11_mixed 6 s v1 163 0 6 (by decide) a4 sh_163 (by decide) rfl (by decide)) ?_
    refine k_lstore_n [jR 143, jL (dg 6 (fun k => s 163 (0 + k)) v1), jU, jI v3] dX11_digest_283 rfl rfl ?_
    refine k_iconst dX11_digest_284 ?_
    refine k_istore_n [jR 143, jL (dg 6 (fun k => s 163 (0 + k)) v1), jU, jI 0] dX11_digest_285 rfl rfl ?_
    exact v
  · have v := vf c3
    obtain ⟨a5, a6, a7, a8, v⟩ := v
    refine k_ldc2 (31) (31) dX11_digest_228 kl_X11_254 rfl ?_
    refine k_ldc2 (31) (31) dX11_digest_231 kl_X11_254 rfl ?_
    refine k_ldc2 (31) (31) dX11_digest_234 kl_X11_254 rfl ?_
    refine k_lload_n dX11_digest_237 rfl ?_
    refine k_lmul dX11_digest_238 ?_
    refine k_aload_n dX11_digest_239 rfl ?_
    refine k_getr dX11_digest_240 fl_X11_55 sh_143 (by decide) rfl ?_
    refine k_iload_n dX11_digest_243 rfl ?_
    refine k_iald 40 dX11_digest_244 sh_159 (by decide) rfl (by decide) a5 ?_
    refine k_i2l dX11_digest_245 a6 ?_
    refine k_ladd dX11_digest_246 ?_
    refine k_lmul dX11_digest_247 ?_
    refine k_aload_n dX11_digest_248 rfl ?_
    refine k_getr dX11_digest_249 fl_X11_58 sh_143 (by decide) rfl ?_
    refine k_iload_n dX11_digest_252 rfl ?_
    refine k_iald 40 dX11_digest_253 sh_160 (by decide) rfl (by decide) a5 ?_
    refine k_i2l dX11_digest_254 a7 ?_
    refine k_ladd dX11_digest_255 ?_
    refine k_lmul dX11_digest_256 ?_
    refine k_aload_n dX11_digest_257 rfl ?_
    refine k_getr dX11_digest_258 fl_X11_61 sh_143 (by decide) rfl ?_
    refine k_iload_n dX11_digest_261 rfl ?_
    refine k_iald 40 dX11_digest_262 sh_161 (by decide) rfl (by decide) a5 ?_
    refine k_i2l dX11_digest_263 a8 ?_
    refine k_ladd dX11_digest_264 ?_
    refine k_lstore_n [jR 143, jL ((31 * ((31 * ((31 * v1) + (s 159 v3))) + (s 160 v3))) + (s 161 v3)), jU, jI v3] dX11_digest_265 rfl rfl ?_
    refine k_iinc [jR 143, jL ((31 * ((31 * ((31 * v1) + (s 159 v3))) + (s 160 v3))) + (s 161 v3)), jU, jI (v3 + 1)] dX11_digest_266 rfl rfl rfl ?_
    refine k_goto 218 dX11_digest_269 rfl ?_
    exact v
theorem g_X11_digest_286 {s : Int → Int → Int} {Q : Option jV → (Int → Int → Int) → Prop} {v1 v3 : Int} (v : (jr32 v3 ∧ jr32 (s 146 5) ∧ (((s 146 5) ≤ v3 → ((SO s) ∧ (leOK (s 146 2) (-1) 0) ∧ (∀ (y6 : Int) (s7 : Int → Int → Int), (y6 = GT s (s 146 2) (-1) 0 0 ∧ frm (fun k => k = 162) s s7 ∧ ∀ set, 0 ≤ set → set < 2 ^ (s 146 2).toNat → s7 162 set = GT s (s 146 2) (-1) 0 set) → (jr32 y6 ∧ kK mX11_digest 343 [jR 143, jL ((31 * v1) + y6), jU, jI 0] [] s7 Q)))) ∧ (¬ ((s 146 5) ≤ v3) → ((0 ≤ v3 ∧ v3 < 6) ∧ jr32 (s 167 v3) ∧ ((0 : Int) ≤ 4 ∧ (0 : Int) ≤ (4 * v3) ∧ (4 * v3) + 4 ≤ 24) ∧ (∀ i, 0 ≤ i → i < 4 → jr32 (s 168 ((4 * v3) + i))) ∧ kK mX11_digest 286 [jR 143, jL (dg 4 (fun k => s 168 ((4 * v3) + k)) ((31 * v1) + (s 167 v3))), jU, jI (v3 + 1)] [] s Q))))) : kK mX11_digest 286 [jR 143, jL v1, jU, jI v3] [] s Q := by
  obtain ⟨a1, a2, v⟩ := v
  refine k_iload_n dX11_digest_286 rfl ?_
  refine k_aload_n dX11_digest_287 rfl ?_
  refine k_getr dX11_digest_288 fl_X11_16 sh_143 (by decide) rfl ?_
  refine k_iconst dX11_digest_291 ?_
  refine k_iald 6 dX11_digest_292 sh_146 (by decide) rfl (by decide) (by decide) ?_
  obtain ⟨vt, vf⟩ := v
  refine k_icmp_ge 327 dX11_digest_293 rfl a1 a2 (fun c3 => ?_) (fun c3 => ?_)
  · have v := vt c3
    obtain ⟨a4, a5, v⟩ := v
    refine k_ldc2 (31) (31) dX11_digest_327 kl_X11_254 rfl ?_
    refine k_lload_n dX11_digest_330 rfl ?_
    refine k_lmul dX11_digest_331 ?_
    refine k_aload_n dX11_digest_332 rfl ?_
    refine k_iconst dX11_digest_333 ?_
    refine k_iconst dX11_digest_334 ?_
    refine k_invVR [jI (-1), jI 0] [jL (31 * v1)] dX11_digest_335 cm_X11_orders ml_X11_216 im_X11_orders se_X11_orders rfl sh_143 (by decide) rfl rfl (sp_X11_orders s (-1) 0 a4 a5) (fun _ s7 q8 => ?_)
    obtain ⟨y6, rfl, q8⟩ := q8
    have v := v y6 s7 q8
    obtain ⟨a9, v⟩ := v
    refine k_i2l dX11_digest_338 a9 ?_
    refine k_ladd dX11_digest_339 ?_
    refine k_lstore_n [jR 143, jL ((31 * v1) + y6), jU, jI v3] dX11_digest_340 rfl rfl ?_
    refine k_iconst dX11_digest_341 ?_
    refine k_istore_n [jR 143, jL ((31 * v1) + y6), jU, jI 0] dX11_digest_342 rfl rfl ?_
    exact v
  · have v := vf c3
    obtain ⟨a10, a11, a12, a13, v⟩ := v
    refine k_ldc2 (31) (31) dX11_digest_296 kl_X11_254 rfl ?_
    refine k_lload_n dX11_digest_299 rfl ?_
    refine k_lmul dX11_digest_300 ?_
    refine k_aload_n dX11_digest_301 rfl ?_
    refine k_getr dX11_digest_302 fl_X11_79 sh_143 (by decide) rfl ?_
    refine k_iload_n dX11_digest_305 rfl ?_
    refine k_iald 6 dX11_digest_306 sh_167 (by decide) rfl (by decide) a10 ?_
    refine k_i2l dX11_digest_307 a11 ?_
    refine k_ladd dX11_digest_308 ?_
    refine k_aload_n dX11_digest_309 rfl ?_
    refine k_getr dX11_digest_310 fl_X11_82 sh_143 (by decide) rfl ?_
    refine k_iconst dX11_digest_313 ?_
    refine k_iload_n dX11_digest_314 rfl ?_
    refine k_imul dX11_digest_315 ?_
    refine k_iconst dX11_digest_316 ?_
    refine k_invS [jL ((31 * v1) + (s 167 v3)), jR 168, jI (4 * v3), jI 4] [] dX11_digest_317 cm_X11_mixed ml_X11_258 st_X11_mixed rfl rfl (sp_X11_mixed 24 s ((31 * v1) + (s 167 v3)) 168 (4 * v3) 4 a12 a13 sh_168 (by decide) rfl (by decide)) ?_
    refine k_lstore_n [jR 143, jL (dg 4 (fun k => s 168 ((4 * v3) + k)) ((31 * v1) + (s 167 v3))), jU, jI v3] dX11_digest_320 rfl rfl ?_
    refine k_iinc [jR 143, jL (dg 4 (fun k => s 168 ((4 * v3) + k)) ((31 * v1) + (s 167 v3))), jU, jI (v3 + 1)] dX11_digest_321 rfl rfl rfl ?_
    refine k_goto 286 dX11_digest_324 rfl ?_
    exact v
theorem g_X11_digest_343 {s : Int → Int → Int} {Q : Option jV → (Int → Int → Int) → Prop} {v1 v3 : Int} (v : (jr32 v3 ∧ ((3 ≤ v3 → (((0 : Int) ≤ (s 145 0) ∧ (0 : Int) ≤ 0 ∧ 0 + (s 145 0) ≤ 750) ∧ (∀ i, 0 ≤ i → i < (s 145 0) → jr32 (s 144 (0 + i))) ∧ ((0 : Int) ≤ (s 145 1) ∧ (0 : Int) ≤ 50 ∧ 50 + (s 145 1) ≤ 750) ∧ (∀ i, 0 ≤ i → i < (s 145 1) → jr32 (s 144 (50 + i))) ∧ Q (some (jL (dg (s 145 1) (fun k => s 144 (50 + k)) (dg (s 145 0) (fun k => s 144 (0 + k)) v1)))) s)) ∧ (¬ (3 ≤ v3) → ((PD s) ∧ (0 ≤ v3 ∧ v3 ≤ 2) ∧ jr32 (sgv s v3) ∧ kK mX11_digest 343 [jR 143, jL ((31 * v1) + (sgv s v3)), jU, jI (v3 + 1)] [] s Q))))) : kK mX11_digest 343 [jR 143, jL v1, jU, jI v3] [] s Q := by
  obtain ⟨a1, v⟩ := v
  refine k_iload_n dX11_digest_343 rfl ?_
  refine k_iconst dX11_digest_344 ?_
  obtain ⟨vt, vf⟩ := v
  refine k_icmp_ge 367 dX11_digest_345 rfl a1 (by decide) (fun c2 => ?_) (fun c2 => ?_)
  · have v := vt c2
    obtain ⟨a3, a4, a5, a6, v⟩ := v
    refine k_lload_n dX11_digest_367 rfl ?_
    refine k_aload_n dX11_digest_368 rfl ?_
    refine k_getr dX11_digest_369 fl_X11_7 sh_143 (by decide) rfl ?_
    refine k_iconst dX11_digest_372 ?_
    refine k_aload_n dX11_digest_373 rfl ?_
    refine k_getr dX11_digest_374 fl_X11_13 sh_143 (by decide) rfl ?_
    refine k_iconst dX11_digest_377 ?_
    refine k_iald 15 dX11_digest_378 sh_145 (by decide) rfl (by decide) (by decide) ?_
    refine k_invS [jL v1, jR 144, jI 0, jI (s 145 0)] [] dX11_digest_379 cm_X11_mixed ml_X11_258 st_X11_mixed rfl rfl (sp_X11_mixed 750 s v1 144 0 (s 145 0) a3 a4 sh_144 (by decide) rfl (by decide)) ?_
    refine k_lstore_n [jR 143, jL (dg (s 145 0) (fun k => s 144 (0 + k)) v1), jU, jI v3] dX11_digest_382 rfl rfl ?_
    refine k_lload_n dX11_digest_383 rfl ?_
    refine k_aload_n dX11_digest_384 rfl ?_
    refine k_getr dX11_digest_385 fl_X11_7 sh_143 (by decide) rfl ?_
    refine k_bipush dX11_digest_388 rfl ?_
    refine k_aload_n dX11_digest_390 rfl ?_
    refine k_getr dX11_digest_391 fl_X11_13 sh_143 (by decide) rfl ?_
    refine k_iconst dX11_digest_394 ?_
    refine k_iald 15 dX11_digest_395 sh_145 (by decide) rfl (by decide) (by decide) ?_
    refine k_invS [jL (dg (s 145 0) (fun k => s 144 (0 + k)) v1), jR 144, jI 50, jI (s 145 1)] [] dX11_digest_396 cm_X11_mixed ml_X11_258 st_X11_mixed rfl rfl (sp_X11_mixed 750 s (dg (s 145 0) (fun k => s 144 (0 + k)) v1) 144 50 (s 145 1) a5 a6 sh_144 (by decide) rfl (by decide)) ?_
    exact k_lreturn (st := []) dX11_digest_399 rfl v
  · have v := vf c2
    obtain ⟨a7, a8, a9, v⟩ := v
    refine k_ldc2 (31) (31) dX11_digest_348 kl_X11_254 rfl ?_
    refine k_lload_n dX11_digest_351 rfl ?_
    refine k_lmul dX11_digest_352 ?_
    refine k_aload_n dX11_digest_353 rfl ?_
    refine k_iload_n dX11_digest_354 rfl ?_
    refine k_invV [jI v3] [jL (31 * v1)] dX11_digest_355 cm_X11_sign ml_X11_262 im_X11_sign se_X11_sign rfl sh_143 (by decide) rfl rfl (sp_X11_sign s v3 a7 a8) ?_
    refine k_i2l dX11_digest_358 a9 ?_
    refine k_ladd dX11_digest_359 ?_
    refine k_lstore_n [jR 143, jL ((31 * v1) + (sgv s v3)), jU, jI v3] dX11_digest_360 rfl rfl ?_
    refine k_iinc [jR 143, jL ((31 * v1) + (sgv s v3)), jU, jI (v3 + 1)] dX11_digest_361 rfl rfl rfl ?_
    refine k_goto 343 dX11_digest_364 rfl ?_
    exact v
