theorem g_X10_digestOfRow {s : Int → Int → Int} {Q : Option jV → (Int → Int → Int) → Prop} {v0 x v3 : Int} {li : Int} {len : Nat} (hs : jsh x = hI len) (hx : 0 < x ∧ x ≤ 168) (hl : (len : Int) = li) (hlen : len < 2147483648) (v : kK mX10_digestOfRow 6 [jU, jU, jR x, jI v3, jL v0, jU, jI 0] [] s Q) : kR mX10_digestOfRow [jL v0, jR x, jI v3] s Q := by
  show kK mX10_digestOfRow 0 [jL v0, jU, jR x, jI v3, jU, jU, jU] [] s Q
  refine k_lload_n dX10_digestOfRow_0 rfl ?_
  refine k_lstore [jL v0, jU, jR x, jI v3, jL v0, jU, jU] dX10_digestOfRow_1 rfl rfl ?_
  refine k_iconst dX10_digestOfRow_3 ?_
  refine k_istore [jL v0, jU, jR x, jI v3, jL v0, jU, jI 0] dX10_digestOfRow_4 rfl rfl ?_
  refine k_drop [jU, jU, jR x, jI v3, jL v0, jU, jI 0] ⟨Or.inl rfl, Or.inr rfl, Or.inr rfl, Or.inr rfl, Or.inr rfl, Or.inr rfl, Or.inr rfl, trivial⟩ ?_
  exact v
theorem g_X10_digestOfRow_6 {s : Int → Int → Int} {Q : Option jV → (Int → Int → Int) → Prop} {v3 v4 v6 x : Int} {li : Int} {len : Nat} (hs : jsh x = hI len) (hx : 0 < x ∧ x ≤ 168) (hl : (len : Int) = li) (hlen : len < 2147483648) (v : (jr32 v6 ∧ jr32 v3 ∧ ((v3 ≤ v6 → Q (some (jL v4)) s) ∧ (¬ (v3 ≤ v6) → (jr32 li ∧ ((li ≤ v6 → Q (some (jL v4)) s) ∧ (¬ (li ≤ v6) → ((0 ≤ v6 ∧ v6 < li) ∧ jr32 (s x v6) ∧ kK mX10_digestOfRow 6 [jU, jU, jR x, jI v3, jL ((31 * v4) + (s x v6)), jU, jI (v6 + 1)] [] s Q)))))))) : kK mX10_digestOfRow 6 [jU, jU, jR x, jI v3, jL v4, jU, jI v6] [] s Q := by
  obtain ⟨a1, a2, v⟩ := v
  refine k_iload dX10_digestOfRow_6 rfl ?_
  refine k_iload_n dX10_digestOfRow_8 rfl ?_
  obtain ⟨vt, vf⟩ := v
  refine k_icmp_ge 39 dX10_digestOfRow_9 rfl a1 a2 (fun c3 => ?_) (fun c3 => ?_)
  · have v := vt c3
    refine k_lload dX10_digestOfRow_39 rfl ?_
    exact k_lreturn (st := []) dX10_digestOfRow_41 rfl v
  · have v := vf c3
    obtain ⟨a4, v⟩ := v
    refine k_iload dX10_digestOfRow_12 rfl ?_
    refine k_aload_n dX10_digestOfRow_14 rfl ?_
    refine k_alenI li dX10_digestOfRow_15 hs hx hl ?_
    obtain ⟨vt, vf⟩ := v
    refine k_icmp_ge 39 dX10_digestOfRow_16 rfl a1 a4 (fun c5 => ?_) (fun c5 => ?_)
    · have v := vt c5
      refine k_lload dX10_digestOfRow_39 rfl ?_
      exact k_lreturn (st := []) dX10_digestOfRow_41 rfl v
    · have v := vf c5
      obtain ⟨a6, a7, v⟩ := v
      refine k_ldc2 (31) (31) dX10_digestOfRow_19 kl_X10_307 rfl ?_
      refine k_lload dX10_digestOfRow_22 rfl ?_
      refine k_lmul dX10_digestOfRow_24 ?_
      refine k_aload_n dX10_digestOfRow_25 rfl ?_
      refine k_iload dX10_digestOfRow_26 rfl ?_
      refine k_iald li dX10_digestOfRow_28 hs hx hl hlen a6 ?_
      refine k_i2l dX10_digestOfRow_29 a7 ?_
      refine k_ladd dX10_digestOfRow_30 ?_
      refine k_lstore [jU, jU, jR x, jI v3, jL ((31 * v4) + (s x v6)), jU, jI v6] dX10_digestOfRow_31 rfl rfl ?_
      refine k_iinc [jU, jU, jR x, jI v3, jL ((31 * v4) + (s x v6)), jU, jI (v6 + 1)] dX10_digestOfRow_33 rfl rfl rfl ?_
      refine k_goto 6 dX10_digestOfRow_36 rfl ?_
      exact v
theorem sp_X10_digestOfRow (li : Int) (s : Int → Int → Int) (h x n : Int) (hn : 0 ≤ n ∧ n ≤ li) (hr : ∀ i, 0 ≤ i → i < n → jr32 (s x i)) {len : Nat} (hs : jsh x = hI len) (hx : 0 < x ∧ x ≤ 168) (hl : (len : Int) = li) (hlen : len < 2147483648) : kM mX10_digestOfRow [jL h, jR x, jI n] s (some (jL (dg n (s x) h))) s := by
  refine g_X10_digestOfRow hs hx hl hlen ?_
  have key : ∀ i, i ≤ n → 0 ≤ i → kK mX10_digestOfRow 6 [jU, jU, jR x, jI n, jL (dg i (s x) h), jU, jI i] [] s (fun r s' => r = some (jL (dg n (s x) h)) ∧ s' = s) := by
    refine lp_up _ _ (fun i hi ih i0 => ?_)
    refine g_X10_digestOfRow_6 hs hx hl hlen ⟨by unfold jr32; omega, by unfold jr32; omega, fun q => ⟨by rw [show i = n by omega], rfl⟩, fun q => ⟨by unfold jr32; omega, fun q2 => by omega, fun q2 => ⟨by omega, hr i i0 (by omega), ?_⟩⟩⟩
    have := ih (by omega) (by omega)
    rw [dg_s i0] at this
    exact this
  exact key 0 (by omega) (by omega)
theorem g_X3_digestInto {s : Int → Int → Int} {Q : Option jV → (Int → Int → Int) → Prop} {v1 : Int} (v : kK mX3_digestInto 5 [jR 2, jU, jU, jL v1, jU, jI 0] [] s Q) : kR mX3_digestInto [jR 2, jL v1] s Q := by
  show kK mX3_digestInto 0 [jR 2, jL v1, jU, jU, jU, jU] [] s Q
  refine k_lload_n dX3_digestInto_0 rfl ?_
  refine k_lstore_n [jR 2, jL v1, jU, jL v1, jU, jU] dX3_digestInto_1 rfl rfl ?_
  refine k_iconst dX3_digestInto_2 ?_
  refine k_istore [jR 2, jL v1, jU, jL v1, jU, jI 0] dX3_digestInto_3 rfl rfl ?_
  refine k_drop [jR 2, jU, jU, jL v1, jU, jI 0] ⟨Or.inr rfl, Or.inl rfl, Or.inr rfl, Or.inr rfl, Or.inr rfl, Or.inr rfl, trivial⟩ ?_
  exact v
theorem g_X3_digestInto_5 {s : Int → Int → Int} {Q : Option jV → (Int → Int → Int) → Prop} {v3 v5 : Int} (v : (jr32 v5 ∧ jr32 (s 2 10) ∧ (((s 2 10) ≤ v5 → ((0 ≤ (s 2 11) ∧ (s 2 11) ≤ 6) ∧ (∀ i, 0 ≤ i → i < (s 2 11) → jr32 (s 5 i)) ∧ kK mX3_digestInto 66 [jR 2, jU, jU, jL (dg (s 2 11) (s 5) v3), jU, jI 0] [] s Q)) ∧ (¬ ((s 2 10) ≤ v5) → ((0 ≤ v5 ∧ v5 < 8) ∧ jr32 (s 3 v5) ∧ jr32 (s 4 v5) ∧ kK mX3_digestInto 5 [jR 2, jU, jU, jL ((31 * ((31 * v3) + (s 3 v5))) + (s 4 v5)), jU, jI (v5 + 1)] [] s Q))))) : kK mX3_digestInto 5 [jR 2, jU, jU, jL v3, jU, jI v5] [] s Q := by
  obtain ⟨a1, a2, v⟩ := v
  refine k_iload dX3_digestInto_5 rfl ?_
  refine k_aload_n dX3_digestInto_7 rfl ?_
  refine k_geti 10 dX3_digestInto_8 fl_X3_44 sh_2 (by decide) rfl rfl ?_
  obtain ⟨vt, vf⟩ := v
  refine k_icmp_ge 50 dX3_digestInto_11 rfl a1 a2 (fun c3 => ?_) (fun c3 => ?_)
  · have v := vt c3
    obtain ⟨a4, a5, v⟩ := v
    refine k_lload_n dX3_digestInto_50 rfl ?_
    refine k_aload_n dX3_digestInto_51 rfl ?_
    refine k_getr dX3_digestInto_52 fl_X3_18 sh_2 (by decide) rfl ?_
    refine k_aload_n dX3_digestInto_55 rfl ?_
    refine k_geti 11 dX3_digestInto_56 fl_X3_48 sh_2 (by decide) rfl rfl ?_
    refine k_invSN [jL v3, jR 5, jI (s 2 11)] [] dX3_digestInto_59 cm_X10_digestOfRow ml_X3_67 st_X10_digestOfRow rfl rfl (sp_X10_digestOfRow 6 s v3 5 (s 2 11) a4 a5 sh_5 (by decide) rfl (by decide)) ?_
    refine k_lstore_n [jR 2, jU, jU, jL (dg (s 2 11) (s 5) v3), jU, jI v5] dX3_digestInto_62 rfl rfl ?_
    refine k_iconst dX3_digestInto_63 ?_
    refine k_istore [jR 2, jU, jU, jL (dg (s 2 11) (s 5) v3), jU, jI 0] dX3_digestInto_64 rfl rfl ?_
    exact v
  · have v := vf c3
    obtain ⟨a6, a7, a8, v⟩ := v
    refine k_ldc2 (31) (31) dX3_digestInto_14 kl_X3_65 rfl ?_
    refine k_lload_n dX3_digestInto_17 rfl ?_
    refine k_lmul dX3_digestInto_18 ?_
    refine k_aload_n dX3_digestInto_19 rfl ?_
    refine k_getr dX3_digestInto_20 fl_X3_9 sh_2 (by decide) rfl ?_
    refine k_iload dX3_digestInto_23 rfl ?_
    refine k_iald 8 dX3_digestInto_25 sh_3 (by decide) rfl (by decide) a6 ?_
    refine k_i2l dX3_digestInto_26 a7 ?_
    refine k_ladd dX3_digestInto_27 ?_
    refine k_lstore_n [jR 2, jU, jU, jL ((31 * v3) + (s 3 v5)), jU, jI v5] dX3_digestInto_28 rfl rfl ?_
    refine k_ldc2 (31) (31) dX3_digestInto_29 kl_X3_65 rfl ?_
    refine k_lload_n dX3_digestInto_32 rfl ?_
    refine k_lmul dX3_digestInto_33 ?_
    refine k_aload_n dX3_digestInto_34 rfl ?_
    refine k_getr dX3_digestInto_35 fl_X3_15 sh_2 (by decide) rfl ?_
    refine k_iload dX3_digestInto_38 rfl ?_
    refine k_iald 8 dX3_digestInto_40 sh_4 (by decide) rfl (by decide) a6 ?_
    refine k_i2l dX3_digestInto_41 a8 ?_
    refine k_ladd dX3_digestInto_42 ?_
    refine k_lstore_n [jR 2, jU, jU, jL ((31 * ((31 * v3) + (s 3 v5))) + (s 4 v5)), jU, jI v5] dX3_digestInto_43 rfl rfl ?_
    refine k_iinc [jR 2, jU, jU, jL ((31 * ((31 * v3) + (s 3 v5))) + (s 4 v5)), jU, jI (v5 + 1)] dX3_digestInto_44 rfl rfl rfl ?_
    refine k_goto 5 dX3_digestInto_47 rfl ?_
    exact v
theorem g_X3_digestInto_66 {s : Int → Int → Int} {Q : Option jV → (Int → Int → Int) → Prop} {v3 v5 : Int} (v : (jr32 v5 ∧ jr32 (s 2 12) ∧ (((s 2 12) ≤ v5 → kK mX3_digestInto 114 [jR 2, jU, jU, jL v3, jU, jI 0] [] s Q) ∧ (¬ ((s 2 12) ≤ v5) → ((0 ≤ v5 ∧ v5 < 8) ∧ jr32 (s 6 v5) ∧ jr32 (s 7 v5) ∧ kK mX3_digestInto 66 [jR 2, jU, jU, jL ((31 * ((31 * v3) + (s 6 v5))) + (s 7 v5)), jU, jI (v5 + 1)] [] s Q))))) : kK mX3_digestInto 66 [jR 2, jU, jU, jL v3, jU, jI v5] [] s Q := by
  obtain ⟨a1, a2, v⟩ := v
  refine k_iload dX3_digestInto_66 rfl ?_
  refine k_aload_n dX3_digestInto_68 rfl ?_
  refine k_geti 12 dX3_digestInto_69 fl_X3_51 sh_2 (by decide) rfl rfl ?_
  obtain ⟨vt, vf⟩ := v
  refine k_icmp_ge 111 dX3_digestInto_72 rfl a1 a2 (fun c3 => ?_) (fun c3 => ?_)
  · have v := vt c3
    refine k_iconst dX3_digestInto_111 ?_
    refine k_istore [jR 2, jU, jU, jL v3, jU, jI 0] dX3_digestInto_112 rfl rfl ?_
    exact v
  · have v := vf c3
    obtain ⟨a4, a5, a6, v⟩ := v
    refine k_ldc2 (31) (31) dX3_digestInto_75 kl_X3_65 rfl ?_
    refine k_lload_n dX3_digestInto_78 rfl ?_
    refine k_lmul dX3_digestInto_79 ?_
    refine k_aload_n dX3_digestInto_80 rfl ?_
    refine k_getr dX3_digestInto_81 fl_X3_21 sh_2 (by decide) rfl ?_
    refine k_iload dX3_digestInto_84 rfl ?_
    refine k_iald 8 dX3_digestInto_86 sh_6 (by decide) rfl (by decide) a4 ?_
    refine k_i2l dX3_digestInto_87 a5 ?_
    refine k_ladd dX3_digestInto_88 ?_
    refine k_lstore_n [jR 2, jU, jU, jL ((31 * v3) + (s 6 v5)), jU, jI v5] dX3_digestInto_89 rfl rfl ?_
    refine k_ldc2 (31) (31) dX3_digestInto_90 kl_X3_65 rfl ?_
    refine k_lload_n dX3_digestInto_93 rfl ?_
    refine k_lmul dX3_digestInto_94 ?_
    refine k_aload_n dX3_digestInto_95 rfl ?_
    refine k_getr dX3_digestInto_96 fl_X3_24 sh_2 (by decide) rfl ?_
    refine k_iload dX3_digestInto_99 rfl ?_
    refine k_iald 8 dX3_digestInto_101 sh_7 (by decide) rfl (by decide) a4 ?_
    refine k_i2l dX3_digestInto_102 a6 ?_
    refine k_ladd dX3_digestInto_103 ?_
    refine k_lstore_n [jR 2, jU, jU, jL ((31 * ((31 * v3) + (s 6 v5))) + (s 7 v5)), jU, jI v5] dX3_digestInto_104 rfl rfl ?_
    refine k_iinc [jR 2, jU, jU, jL ((31 * ((31 * v3) + (s 6 v5))) + (s 7 v5)), jU, jI (v5 + 1)] dX3_digestInto_105 rfl rfl rfl ?_
    refine k_goto 66 dX3_digestInto_108 rfl ?_
    exact v
theorem g_X3_digestInto_114 {s : Int → Int → Int} {Q : Option jV → (Int → Int → Int) → Prop} {v3 v5 : Int} (v : (jr32 v5 ∧ jr32 (s 2 13) ∧ (((s 2 13) ≤ v5 → Q (some (jL v3)) s) ∧ (¬ ((s 2 13) ≤ v5) → ((0 ≤ v5 ∧ v5 < 30) ∧ jr32 (s 8 v5) ∧ jr32 (s 9 v5) ∧ jr32 (s 10 v5) ∧ jr32 (s 11 v5) ∧ (0 ≤ (s 11 v5) ∧ (s 11 v5) ≤ 8) ∧ (∀ i, 0 ≤ i → i < (s 11 v5) → jr32 (s (13 + v5) i)) ∧ kK mX3_digestInto 114 [jR 2, jU, jU, jL (dg (s 11 v5) (s (13 + v5)) ((31 * ((31 * ((31 * ((31 * v3) + (s 8 v5))) + (s 9 v5))) + (s 10 v5))) + (s 11 v5))), jU, jI (v5 + 1)] [] s Q))))) : kK mX3_digestInto 114 [jR 2, jU, jU, jL v3, jU, jI v5] [] s Q := by
  obtain ⟨a1, a2, v⟩ := v
  refine k_iload dX3_digestInto_114 rfl ?_
  refine k_aload_n dX3_digestInto_116 rfl ?_
  refine k_geti 13 dX3_digestInto_117 fl_X3_54 sh_2 (by decide) rfl rfl ?_
  obtain ⟨vt, vf⟩ := v
  refine k_icmp_ge 208 dX3_digestInto_120 rfl a1 a2 (fun c3 => ?_) (fun c3 => ?_)
  · have v := vt c3
    refine k_lload_n dX3_digestInto_208 rfl ?_
    exact k_lreturn (st := []) dX3_digestInto_209 rfl v
  · have v := vf c3
    obtain ⟨a4, a5, a6, a7, a8, a9, a10, v⟩ := v
    refine k_ldc2 (31) (31) dX3_digestInto_123 kl_X3_65 rfl ?_
    refine k_lload_n dX3_digestInto_126 rfl ?_
    refine k_lmul dX3_digestInto_127 ?_
    refine k_aload_n dX3_digestInto_128 rfl ?_
    refine k_getr dX3_digestInto_129 fl_X3_27 sh_2 (by decide) rfl ?_
    refine k_iload dX3_digestInto_132 rfl ?_
    refine k_iald 30 dX3_digestInto_134 sh_8 (by decide) rfl (by decide) a4 ?_
    refine k_i2l dX3_digestInto_135 a5 ?_
    refine k_ladd dX3_digestInto_136 ?_
    refine k_lstore_n [jR 2, jU, jU, jL ((31 * v3) + (s 8 v5)), jU, jI v5] dX3_digestInto_137 rfl rfl ?_
    refine k_ldc2 (31) (31) dX3_digestInto_138 kl_X3_65 rfl ?_
    refine k_lload_n dX3_digestInto_141 rfl ?_
    refine k_lmul dX3_digestInto_142 ?_
    refine k_aload_n dX3_digestInto_143 rfl ?_
    refine k_getr dX3_digestInto_144 fl_X3_30 sh_2 (by decide) rfl ?_
    refine k_iload dX3_digestInto_147 rfl ?_
    refine k_iald 30 dX3_digestInto_149 sh_9 (by decide) rfl (by decide) a4 ?_
    refine k_i2l dX3_digestInto_150 a6 ?_
    refine k_ladd dX3_digestInto_151 ?_
    refine k_lstore_n [jR 2, jU, jU, jL ((31 * ((31 * v3) + (s 8 v5))) + (s 9 v5)), jU, jI v5] dX3_digestInto_152 rfl rfl ?_
    refine k_ldc2 (31) (31) dX3_digestInto_153 kl_X3_65 rfl ?_
    refine k_lload_n dX3_digestInto_156 rfl ?_
    refine k_lmul dX3_digestInto_157 ?_
    refine k_aload_n dX3_digestInto_158 rfl ?_
    refine k_getr dX3_digestInto_159 fl_X3_33 sh_2 (by decide) rfl ?_
    refine k_iload dX3_digestInto_162 rfl ?_
    refine k_iald 30 dX3_digestInto_164 sh_10 (by decide) rfl (by decide) a4 ?_
    refine k_i2l dX3_digestInto_165 a7 ?_
    refine k_ladd dX3_digestInto_166 ?_
    refine k_lstore_n [jR 2, jU, jU, jL ((31 * ((31 * ((31 * v3) + (s 8 v5))) + (s 9 v5))) + (s 10 v5)), jU, jI v5] dX3_digestInto_167 rfl rfl ?_
    refine k_ldc2 (31) (31) dX3_digestInto_168 kl_X3_65 rfl ?_
    refine k_lload_n dX3_digestInto_171 rfl ?_
    refine k_lmul dX3_digestInto_172 ?_
    refine k_aload_n dX3_digestInto_173 rfl ?_
    refine k_getr dX3_digestInto_174 fl_X3_36 sh_2 (by decide) rfl ?_
    refine k_iload dX3_digestInto_177 rfl ?_
    refine k_iald 30 dX3_digestInto_179 sh_11 (by decide) rfl (by decide) a4 ?_
    refine k_i2l dX3_digestInto_180 a8 ?_
    refine k_ladd dX3_digestInto_181 ?_
    refine k_lstore_n [jR 2, jU, jU, jL ((31 * ((31 * ((31 * ((31 * v3) + (s 8 v5))) + (s 9 v5))) + (s 10 v5))) + (s 11 v5)), jU, jI v5] dX3_digestInto_182 rfl rfl ?_
    refine k_lload_n dX3_digestInto_183 rfl ?_
    refine k_aload_n dX3_digestInto_184 rfl ?_
    refine k_getr dX3_digestInto_185 fl_X3_41 sh_2 (by decide) rfl ?_
    refine k_iload dX3_digestInto_188 rfl ?_
    refine k_aald 30 dX3_digestInto_190 sh_12 (Or.inl rfl) (by decide) rfl (by decide) rfl a4 ?_
    refine k_aload_n dX3_digestInto_191 rfl ?_
    refine k_getr dX3_digestInto_192 fl_X3_36 sh_2 (by decide) rfl ?_
    refine k_iload dX3_digestInto_195 rfl ?_
    refine k_iald 30 dX3_digestInto_197 sh_11 (by decide) rfl (by decide) a4 ?_
    refine k_invSN [jL ((31 * ((31 * ((31 * ((31 * v3) + (s 8 v5))) + (s 9 v5))) + (s 10 v5))) + (s 11 v5)), jR (13 + v5), jI (s 11 v5)] [] dX3_digestInto_198 cm_X10_digestOfRow ml_X3_67 st_X10_digestOfRow rfl rfl (sp_X10_digestOfRow 8 s ((31 * ((31 * ((31 * ((31 * v3) + (s 8 v5))) + (s 9 v5))) + (s 10 v5))) + (s 11 v5)) (13 + v5) (s 11 v5) a9 a10 (sr_12 v5 a4) ⟨by have := a4; omega, by have := a4; omega⟩ rfl (by decide)) ?_
    refine k_lstore_n [jR 2, jU, jU, jL (dg (s 11 v5) (s (13 + v5)) ((31 * ((31 * ((31 * ((31 * v3) + (s 8 v5))) + (s 9 v5))) + (s 10 v5))) + (s 11 v5))), jU, jI v5] dX3_digestInto_201 rfl rfl ?_
    refine k_iinc [jR 2, jU, jU, jL (dg (s 11 v5) (s (13 + v5)) ((31 * ((31 * ((31 * ((31 * v3) + (s 8 v5))) + (s 9 v5))) + (s 10 v5))) + (s 11 v5))), jU, jI (v5 + 1)] dX3_digestInto_202 rfl rfl rfl ?_
    refine k_goto 114 dX3_digestInto_205 rfl ?_
    exact v
theorem g_X6_digestInto {s : Int → Int → Int} {Q : Option jV → (Int → Int → Int) → Prop} {v1 : Int} (v : kK mX6_digestInto 5 [jR 97, jU, jU, jL v1, jU, jI 0] [] s Q) : kR mX6_digestInto [jR 97, jL v1] s Q := by
  show kK mX6_digestInto 0 [jR 97, jL v1, jU, jU, jU, jU] [] s Q
  refine k_lload_n dX6_digestInto_0 rfl ?_
  refine k_lstore_n [jR 97, jL v1, jU, jL v1, jU, jU] dX6_digestInto_1 rfl rfl ?_
  refine k_iconst dX6_digestInto_2 ?_
  refine k_istore [jR 97, jL v1, jU, jL v1, jU, jI 0] dX6_digestInto_3 rfl rfl ?_
  refine k_drop [jR 97, jU, jU, jL v1, jU, jI 0] ⟨Or.inr rfl, Or.inl rfl, Or.inr rfl, Or.inr rfl, Or.inr rfl, Or.inr rfl, trivial⟩ ?_
  exact v
theorem g_X6_digestInto_5 {s : Int → Int → Int} {Q : Option jV → (Int → Int → Int) → Prop} {v3 v5 : Int} (v : (jr32 v5 ∧ jr32 (s 97 3) ∧ (((s 97 3) ≤ v5 → Q (some (jL v3)) s) ∧ (¬ ((s 97 3) ≤ v5) → ((0 ≤ v5 ∧ v5 < 40) ∧ jr32 (s 98 v5) ∧ jr32 (s 99 v5) ∧ jr32 (s 100 v5) ∧ kK mX6_digestInto 5 [jR 97, jU, jU, jL ((31 * ((31 * ((31 * v3) + (s 98 v5))) + (s 99 v5))) + (s 100 v5)), jU, jI (v5 + 1)] [] s Q))))) : kK mX6_digestInto 5 [jR 97, jU, jU, jL v3, jU, jI v5] [] s Q := by
  obtain ⟨a1, a2, v⟩ := v
  refine k_iload dX6_digestInto_5 rfl ?_
  refine k_aload_n dX6_digestInto_7 rfl ?_
  refine k_geti 3 dX6_digestInto_8 fl_X6_32 sh_97 (by decide) rfl rfl ?_
  obtain ⟨vt, vf⟩ := v
  refine k_icmp_ge 65 dX6_digestInto_11 rfl a1 a2 (fun c3 => ?_) (fun c3 => ?_)
  · have v := vt c3
    refine k_lload_n dX6_digestInto_65 rfl ?_
    exact k_lreturn (st := []) dX6_digestInto_66 rfl v
  · have v := vf c3
    obtain ⟨a4, a5, a6, a7, v⟩ := v
    refine k_ldc2 (31) (31) dX6_digestInto_14 kl_X6_58 rfl ?_
    refine k_lload_n dX6_digestInto_17 rfl ?_
    refine k_lmul dX6_digestInto_18 ?_
    refine k_aload_n dX6_digestInto_19 rfl ?_
    refine k_getr dX6_digestInto_20 fl_X6_9 sh_97 (by decide) rfl ?_
    refine k_iload dX6_digestInto_23 rfl ?_
    refine k_iald 40 dX6_digestInto_25 sh_98 (by decide) rfl (by decide) a4 ?_
    refine k_i2l dX6_digestInto_26 a5 ?_
    refine k_ladd dX6_digestInto_27 ?_
    refine k_lstore_n [jR 97, jU, jU, jL ((31 * v3) + (s 98 v5)), jU, jI v5] dX6_digestInto_28 rfl rfl ?_
    refine k_ldc2 (31) (31) dX6_digestInto_29 kl_X6_58 rfl ?_
    refine k_lload_n dX6_digestInto_32 rfl ?_
    refine k_lmul dX6_digestInto_33 ?_
    refine k_aload_n dX6_digestInto_34 rfl ?_
    refine k_getr dX6_digestInto_35 fl_X6_15 sh_97 (by decide) rfl ?_
    refine k_iload dX6_digestInto_38 rfl ?_
    refine k_iald 40 dX6_digestInto_40 sh_99 (by decide) rfl (by decide) a4 ?_
    refine k_i2l dX6_digestInto_41 a6 ?_
    refine k_ladd dX6_digestInto_42 ?_
    refine k_lstore_n [jR 97, jU, jU, jL ((31 * ((31 * v3) + (s 98 v5))) + (s 99 v5)), jU, jI v5] dX6_digestInto_43 rfl rfl ?_
    refine k_ldc2 (31) (31) dX6_digestInto_44 kl_X6_58 rfl ?_
    refine k_lload_n dX6_digestInto_47 rfl ?_
    refine k_lmul dX6_digestInto_48 ?_
    refine k_aload_n dX6_digestInto_49 rfl ?_
    refine k_getr dX6_digestInto_50 fl_X6_18 sh_97 (by decide) rfl ?_
    refine k_iload dX6_digestInto_53 rfl ?_
    refine k_iald 40 dX6_digestInto_55 sh_100 (by decide) rfl (by decide) a4 ?_
    refine k_i2l dX6_digestInto_56 a7 ?_
    refine k_ladd dX6_digestInto_57 ?_
    refine k_lstore_n [jR 97, jU, jU, jL ((31 * ((31 * ((31 * v3) + (s 98 v5))) + (s 99 v5))) + (s 100 v5)), jU, jI v5] dX6_digestInto_58 rfl rfl ?_
    refine k_iinc [jR 97, jU, jU, jL ((31 * ((31 * ((31 * v3) + (s 98 v5))) + (s 99 v5))) + (s 100 v5)), jU, jI (v5 + 1)] dX6_digestInto_59 rfl rfl rfl ?_
    refine k_goto 5 dX6_digestInto_62 rfl ?_
    exact v
theorem g_X4_digestInto {s : Int → Int → Int} {Q : Option jV → (Int → Int → Int) → Prop} {v1 : Int} (v : kK mX4_digestInto 5 [jR 124, jU, jU, jL v1, jU, jI 0] [] s Q) : kR mX4_digestInto [jR 124, jL v1] s Q := by
  show kK mX4_digestInto 0 [jR 124, jL v1, jU, jU, jU, jU] [] s Q
  refine k_lload_n dX4_digestInto_0 rfl ?_
  refine k_lstore_n [jR 124, jL v1, jU, jL v1, jU, jU] dX4_digestInto_1 rfl rfl ?_
  refine k_iconst dX4_digestInto_2 ?_
  refine k_istore [jR 124, jL v1, jU, jL v1, jU, jI 0] dX4_digestInto_3 rfl rfl ?_
  refine k_drop [jR 124, jU, jU, jL v1, jU, jI 0] ⟨Or.inr rfl, Or.inl rfl, Or.inr rfl, Or.inr rfl, Or.inr rfl, Or.inr rfl, trivial⟩ ?_
  exact v
theorem g_X4_digestInto_5 {s : Int → Int → Int} {Q : Option jV → (Int → Int → Int) → Prop} {v3 v5 : Int} (v : (jr32 v5 ∧ jr32 (s 124 3) ∧ (((s 124 3) ≤ v5 → Q (some (jL v3)) s) ∧ (¬ ((s 124 3) ≤ v5) → ((0 ≤ v5 ∧ v5 < 6) ∧ jr32 (s 125 v5) ∧ (∀ i, 0 ≤ i → i < 4 → jr32 (s (127 + v5) i)) ∧ kK mX4_digestInto 5 [jR 124, jU, jU, jL (dg 4 (s (127 + v5)) ((31 * v3) + (s 125 v5))), jU, jI (v5 + 1)] [] s Q))))) : kK mX4_digestInto 5 [jR 124, jU, jU, jL v3, jU, jI v5] [] s Q := by
  obtain ⟨a1, a2, v⟩ := v
  refine k_iload dX4_digestInto_5 rfl ?_
  refine k_aload_n dX4_digestInto_7 rfl ?_
  refine k_geti 3 dX4_digestInto_8 fl_X4_28 sh_124 (by decide) rfl rfl ?_
  obtain ⟨vt, vf⟩ := v
  refine k_icmp_ge 48 dX4_digestInto_11 rfl a1 a2 (fun c3 => ?_) (fun c3 => ?_)
  · have v := vt c3
    refine k_lload_n dX4_digestInto_48 rfl ?_
    exact k_lreturn (st := []) dX4_digestInto_49 rfl v
  · have v := vf c3
    obtain ⟨a4, a5, a6, v⟩ := v
    refine k_ldc2 (31) (31) dX4_digestInto_14 kl_X4_60 rfl ?_
    refine k_lload_n dX4_digestInto_17 rfl ?_
    refine k_lmul dX4_digestInto_18 ?_
    refine k_aload_n dX4_digestInto_19 rfl ?_
    refine k_getr dX4_digestInto_20 fl_X4_9 sh_124 (by decide) rfl ?_
    refine k_iload dX4_digestInto_23 rfl ?_
    refine k_iald 6 dX4_digestInto_25 sh_125 (by decide) rfl (by decide) a4 ?_
    refine k_i2l dX4_digestInto_26 a5 ?_
    refine k_ladd dX4_digestInto_27 ?_
    refine k_lstore_n [jR 124, jU, jU, jL ((31 * v3) + (s 125 v5)), jU, jI v5] dX4_digestInto_28 rfl rfl ?_
    refine k_lload_n dX4_digestInto_29 rfl ?_
    refine k_aload_n dX4_digestInto_30 rfl ?_
    refine k_getr dX4_digestInto_31 fl_X4_17 sh_124 (by decide) rfl ?_
    refine k_iload dX4_digestInto_34 rfl ?_
    refine k_aald 6 dX4_digestInto_36 sh_126 (Or.inl rfl) (by decide) rfl (by decide) rfl a4 ?_
    refine k_iconst dX4_digestInto_37 ?_
    refine k_invSN [jL ((31 * v3) + (s 125 v5)), jR (127 + v5), jI 4] [] dX4_digestInto_38 cm_X10_digestOfRow ml_X4_62 st_X10_digestOfRow rfl rfl (sp_X10_digestOfRow 4 s ((31 * v3) + (s 125 v5)) (127 + v5) 4 (by decide) a6 (sr_126 v5 a4) ⟨by have := a4; omega, by have := a4; omega⟩ rfl (by decide)) ?_
    refine k_lstore_n [jR 124, jU, jU, jL (dg 4 (s (127 + v5)) ((31 * v3) + (s 125 v5))), jU, jI v5] dX4_digestInto_41 rfl rfl ?_
    refine k_iinc [jR 124, jU, jU, jL (dg 4 (s (127 + v5)) ((31 * v3) + (s 125 v5))), jU, jI (v5 + 1)] dX4_digestInto_42 rfl rfl rfl ?_
    refine k_goto 5 dX4_digestInto_45 rfl ?_
    exact v
theorem sp_X3_digestInto (s : Int → Int → Int) (h : Int) (d : DD s) : kM mX3_digestInto [jR 2, jL h] s (some (jL (dgD s h))) s := by
  obtain ⟨e0, e1, e2, e3⟩ := d.cnt
  refine g_X3_digestInto ?_
  have k3 : ∀ h i, i ≤ s 146 3 → 0 ≤ i → kK mX3_digestInto 114 [jR 2, jU, jU, jL (dgl s i h), jU, jI i] [] s (fun r s' => r = some (jL (dgl s (s 146 3) h)) ∧ s' = s) := by
    intro h
    refine lp_up _ _ (fun i hi ih i0 => ?_)
    refine g_X3_digestInto_114 ⟨by unfold jr32; omega, by unfold jr32; omega, fun q => ⟨by rw [show i = s 146 3 by omega], rfl⟩, fun q => ?_⟩
    obtain ⟨f1, f2, f3, f4⟩ := d.let i0 (by omega)
    rw [f1.1, f2.1, f3.1, f4.1]
    refine ⟨by omega, by unfold jr32; omega, by unfold jr32; omega, by unfold jr32; omega, by unfold jr32; omega, by omega, fun j j0 j1 => ?_, ?_⟩
    · obtain ⟨t1, t2, t3⟩ := d.txt i0 (by omega) j0 j1
      unfold jr32; omega
    · have := ih (by omega) (by omega)
      rw [show dgl s (i + 1) h = dg (s 155 i) (fun k => s 156 (8 * i + k)) (31 * (31 * (31 * (31 * dgl s i h + s 152 i) + s 153 i) + s 154 i) + s 155 i) from fo_s i0 _ _] at this
      rw [dg_c (g := fun k => s 156 (8 * i + k)) (fun j j0 j1 => (d.txt i0 (by omega) j0 j1).1)]
      exact this
  have k2 : ∀ h i, i ≤ s 146 2 → 0 ≤ i → kK mX3_digestInto 66 [jR 2, jU, jU, jL (dgp s i h), jU, jI i] [] s (fun r s' => r = some (jL (dgl s (s 146 3) (dgp s (s 146 2) h))) ∧ s' = s) := by
    intro h
    refine lp_up _ _ (fun i hi ih i0 => ?_)
    refine g_X3_digestInto_66 ⟨by unfold jr32; omega, by unfold jr32; omega, fun q => ?_, fun q => ?_⟩
    · rw [show i = s 146 2 by omega]
      exact k3 _ 0 (by omega) (by omega)
    · obtain ⟨p1, p2⟩ := d.pup i0 (by omega)
      rw [p1.1, p2.1]
      refine ⟨by omega, by unfold jr32; omega, by unfold jr32; omega, ?_⟩
      have := ih (by omega) (by omega)
      rw [show dgp s (i + 1) h = 31 * (31 * dgp s i h + s 150 i) + s 151 i from fo_s i0 _ _] at this
      exact this
  have k1 : ∀ i, i ≤ s 146 0 → 0 ≤ i → kK mX3_digestInto 5 [jR 2, jU, jU, jL (dgw s i h), jU, jI i] [] s (fun r s' => r = some (jL (dgD s h)) ∧ s' = s) := by
    refine lp_up _ _ (fun i hi ih i0 => ?_)
    refine g_X3_digestInto_5 ⟨by unfold jr32; omega, by unfold jr32; omega, fun q => ⟨by omega, fun j j0 j1 => ?_, ?_⟩, fun q => ?_⟩
    · have := d.hnd (w := j) j0 (by omega)
      unfold jr32; omega
    · rw [show i = s 146 0 by omega, e1.1, dg_c (g := s 149) (fun j j0 j1 => (d.hnd j0 j1).1)]
      exact k2 _ 0 (by omega) (by omega)
    · obtain ⟨p1, p2⟩ := d.wrd (w := i) i0 (by omega)
      rw [p1.1, p2.1]
      refine ⟨by omega, by unfold jr32; omega, by unfold jr32; omega, ?_⟩
      have := ih (by omega) (by omega)
      rw [show dgw s (i + 1) h = 31 * (31 * dgw s i h + s 147 i) + s 148 i from fo_s i0 _ _] at this
      exact this
  exact k1 0 (by omega) (by omega)
theorem sp_X6_digestInto (s : Int → Int → Int) (h : Int) (d : DD s) (c : IC s) : kM mX6_digestInto [jR 97, jL h] s (some (jL (dgs s (s 146 4) h))) s := by
  obtain ⟨e0, e1, e2, e3⟩ := d.cnt
  obtain ⟨c1, c2, c3, c4, -⟩ := c
  refine g_X6_digestInto ?_
  have key : ∀ i, i ≤ s 146 4 → 0 ≤ i → kK mX6_digestInto 5 [jR 97, jU, jU, jL (dgs s i h), jU, jI i] [] s (fun r s' => r = some (jL (dgs s (s 146 4) h)) ∧ s' = s) := by
    refine lp_up _ _ (fun i hi ih i0 => ?_)
    refine g_X6_digestInto_5 ⟨by unfold jr32; omega, by unfold jr32; omega, fun q => ⟨by rw [show i = s 146 4 by omega], rfl⟩, fun q => ?_⟩
    have a1 := c3.1 i i0 (by omega)
    have a2 := c3.2.1 i i0 (by omega)
    have a3 := c3.2.2 i i0 (by omega)
    have b1 := c4.1 i i0 (by omega)
    have b2 := c4.2.1 i i0 (by omega)
    have b3 := c4.2.2 i i0 (by omega)
    rw [a1, a2, a3]
    refine ⟨by omega, by unfold jr32; omega, by unfold jr32; omega, by unfold jr32; omega, ?_⟩
    have := ih (by omega) (by omega)
    rw [show dgs s (i + 1) h = 31 * (31 * (31 * dgs s i h + s 159 i) + s 160 i) + s 161 i from fo_s i0 _ _] at this
    exact this
  exact key 0 (by omega) (by omega)
theorem sp_X4_digestInto (s : Int → Int → Int) (h : Int) (c : IE s) : kM mX4_digestInto [jR 124, jL h] s (some (jL (dgf s (s 146 5) h))) s := by
  obtain ⟨c1, c2, ⟨c3, c3'⟩, c4⟩ := c
  refine g_X4_digestInto ?_
  have key : ∀ i, i ≤ s 146 5 → 0 ≤ i → kK mX4_digestInto 5 [jR 124, jU, jU, jL (dgf s i h), jU, jI i] [] s (fun r s' => r = some (jL (dgf s (s 146 5) h)) ∧ s' = s) := by
    refine lp_up _ _ (fun i hi ih i0 => ?_)
    refine g_X4_digestInto_5 ⟨by unfold jr32; omega, by unfold jr32; omega, fun q => ⟨by rw [show i = s 146 5 by omega], rfl⟩, fun q => ?_⟩
    have a1 := c3 i i0 (by omega)
    have a2 := c3' i i0 (by omega)
    rw [a1, dg_c (g := fun g => s 168 (4 * i + g)) (fun j j0 j1 => (c4 i j i0 (by omega) j0 j1).1)]
    refine ⟨by omega, by unfold jr32; omega, fun j j0 j1 => ?_, ?_⟩
    · have := c4 i j i0 (by omega) j0 j1
      unfold jr32; omega
    · have := ih (by omega) (by omega)
      rw [show dgf s (i + 1) h = dg 4 (fun g => s 168 (4 * i + g)) (31 * dgf s i h + s 167 i) from fo_s i0 _ _] at this
      exact this
  exact key 0 (by omega) (by omega)
