def PD (s : Int → Int → Int) : Prop := ∃ S0, Inv S0 s
def sgv (s : Int → Int → Int) (w : Int) : Int := if w = 0 then jbo (¬ s 145 0 = 0) else s 145 (w - 1)
theorem sp_X10_count (s : Int → Int → Int) (w : Int) (p : PD s) (hw : 0 ≤ w ∧ w ≤ 5) : kM mX10_count [jR 1, jI w] s (some (jI (s 146 w))) s := by
  obtain ⟨S0, hI⟩ := p
  have e := hI.2.1.2.1
  have i := hI.2.2.2.1
  have j := hI.2.2.2.2.2.1
  refine g_X10_count ⟨by unfold jr32; omega, ?_, ?_, ?_, ?_, ?_, ?_, fun q => by omega⟩
  · rintro rfl; exact ⟨by rw [e.1], rfl⟩
  · rintro rfl; exact ⟨by rw [e.2.1], rfl⟩
  · rintro rfl; exact ⟨by rw [e.2.2.1], rfl⟩
  · rintro rfl; exact ⟨by rw [e.2.2.2], rfl⟩
  · rintro rfl; exact ⟨by rw [i.1], rfl⟩
  · rintro rfl; exact ⟨by rw [j.1], rfl⟩
theorem sp_X10_sign (s : Int → Int → Int) (w : Int) (p : PD s) (hw : 0 ≤ w ∧ w ≤ 2) : kM mX10_sign [jR 1, jI w] s (some (jI (sgv s w))) s := by
  obtain ⟨S0, hI⟩ := p
  obtain ⟨⟨e1, b1⟩, ⟨e2, b2⟩, -⟩ := hI.2.2.2.2.2.2.1
  unfold sgv
  refine g_X10_sign ⟨by unfold jr32; omega, fun _ => ⟨fun c => ⟨fun c2 => ⟨by rw [if_neg c, e2, show w - 1 = 1 by omega], rfl⟩, fun c2 => ⟨by rw [if_neg c, e1, show w - 1 = 0 by omega], rfl⟩⟩, fun c => ⟨by rw [e1]; unfold jr32; omega, fun q => ⟨?_, rfl⟩, fun q => ⟨?_, rfl⟩⟩⟩, fun q => absurd hw q⟩
  · rw [if_pos c]; exact jbf1 (by omega)
  · rw [if_pos c]; exact jbf0 (by omega)
theorem sp_X10_order (s : Int → Int → Int) (w : Int) (p : PD s) (hw : w = -1) : kR mX10_order [jR 1, jI w] s (fun r s' => ∃ y, r = some (jI y) ∧ y = GT s (s 146 2) (-1) 0 0 ∧ frm fwP s s' ∧ A0 s') := by
  subst hw
  obtain ⟨S0, hI⟩ := p
  have hs := hI.soc
  obtain ⟨e0, e1, e2, e3⟩ := hI.dd.cnt
  exact g_X10_order ⟨by decide, fun _ => ⟨hs, e2.1, Or.inl rfl, fun y s1 q => ⟨fun q2 => absurd rfl q2, fun _ => ⟨y, rfl, by rw [q.1, GT_l e2.2.1 (-1) 0], q.2.1, q.2.2.1.1⟩⟩⟩, fun q => absurd rfl q⟩
theorem g_X10_digest {s : Int → Int → Int} {Q : Option jV → (Int → Int → Int) → Prop} (v : kK mX10_digest 6 [jR 1, jL 479, jU, jI 0] [] s Q) : kR mX10_digest [jR 1] s Q := by
  show kK mX10_digest 0 [jR 1, jU, jU, jU] [] s Q
  refine k_ldc2 (479) (479) dX10_digest_0 kl_X10_305 rfl ?_
  refine k_lstore_n [jR 1, jL 479, jU, jU] dX10_digest_3 rfl rfl ?_
  refine k_iconst dX10_digest_4 ?_
  refine k_istore_n [jR 1, jL 479, jU, jI 0] dX10_digest_5 rfl rfl ?_
  exact v
theorem g_X10_digest_6 {s : Int → Int → Int} {Q : Option jV → (Int → Int → Int) → Prop} {v1 v3 : Int} (v : (jr32 v3 ∧ ((5 < v3 → ((DD s) ∧ (∀ i, 0 ≤ i → i < 4 → jr32 (s 70 i)) ∧ (IC s) ∧ (∀ i, 0 ≤ i → i < 6 → jr32 (s 121 i)) ∧ (IE s) ∧ (PD s) ∧ (∀ (y9 : Int) (s10 : Int → Int → Int), (y9 = GT s (s 146 2) (-1) 0 0 ∧ frm fwP s s10 ∧ A0 s10) → (jr32 y9 ∧ kK mX10_digest 96 [jR 1, jL ((31 * (dgf s (s 146 5) (dg 6 (s 121) (dgs s (s 146 4) (dg 4 (s 70) (dgD s v1)))))) + y9), jU, jI 0] [] s10 Q)))) ∧ (¬ (5 < v3) → ((PD s) ∧ (0 ≤ v3 ∧ v3 ≤ 5) ∧ jr32 (s 146 v3) ∧ kK mX10_digest 6 [jR 1, jL ((31 * v1) + (s 146 v3)), jU, jI (v3 + 1)] [] s Q))))) : kK mX10_digest 6 [jR 1, jL v1, jU, jI v3] [] s Q := by
  obtain ⟨a1, v⟩ := v
  refine k_iload_n dX10_digest_6 rfl ?_
  refine k_iconst dX10_digest_7 ?_
  obtain ⟨vt, vf⟩ := v
  refine k_icmp_gt 30 dX10_digest_8 rfl a1 (by decide) (fun c2 => ?_) (fun c2 => ?_)
  · have v := vt c2
    obtain ⟨a3, a4, a5, a6, a7, a8, v⟩ := v
    refine k_aload_n dX10_digest_30 rfl ?_
    refine k_getr dX10_digest_31 fl_X10_10 sh_1 (by decide) rfl ?_
    refine k_lload_n dX10_digest_34 rfl ?_
    refine k_invV [jL v1] [] dX10_digest_35 cm_X3_digestInto ml_X10_312 im_X3_digestInto se_X3_digestInto rfl sh_2 (by decide) rfl rfl (sp_X3_digestInto s v1 a3) ?_
    refine k_lstore_n [jR 1, jL (dgD s v1), jU, jI v3] dX10_digest_38 rfl rfl ?_
    refine k_lload_n dX10_digest_39 rfl ?_
    refine k_aload_n dX10_digest_40 rfl ?_
    refine k_getr dX10_digest_41 fl_X10_25 sh_1 (by decide) rfl ?_
    refine k_iconst dX10_digest_44 ?_
    refine k_invS [jL (dgD s v1), jR 70, jI 4] [] dX10_digest_45 cm_X10_digestOfRow ml_X10_316 st_X10_digestOfRow rfl rfl (sp_X10_digestOfRow 4 s (dgD s v1) 70 4 (by decide) a4 sh_70 (by decide) rfl (by decide)) ?_
    refine k_lstore_n [jR 1, jL (dg 4 (s 70) (dgD s v1)), jU, jI v3] dX10_digest_48 rfl rfl ?_
    refine k_aload_n dX10_digest_49 rfl ?_
    refine k_getr dX10_digest_50 fl_X10_61 sh_1 (by decide) rfl ?_
    refine k_lload_n dX10_digest_53 rfl ?_
    refine k_invV [jL (dg 4 (s 70) (dgD s v1))] [] dX10_digest_54 cm_X6_digestInto ml_X10_320 im_X6_digestInto se_X6_digestInto rfl sh_97 (by decide) rfl rfl (sp_X6_digestInto s (dg 4 (s 70) (dgD s v1)) a3 a5) ?_
    refine k_lstore_n [jR 1, jL (dgs s (s 146 4) (dg 4 (s 70) (dgD s v1))), jU, jI v3] dX10_digest_57 rfl rfl ?_
    refine k_lload_n dX10_digest_58 rfl ?_
    refine k_aload_n dX10_digest_59 rfl ?_
    refine k_getr dX10_digest_60 fl_X10_68 sh_1 (by decide) rfl ?_
    refine k_getr dX10_digest_63 fl_X10_253 sh_120 (by decide) rfl ?_
    refine k_bipush dX10_digest_66 rfl ?_
    refine k_invS [jL (dgs s (s 146 4) (dg 4 (s 70) (dgD s v1))), jR 121, jI 6] [] dX10_digest_68 cm_X10_digestOfRow ml_X10_316 st_X10_digestOfRow rfl rfl (sp_X10_digestOfRow 6 s (dgs s (s 146 4) (dg 4 (s 70) (dgD s v1))) 121 6 (by decide) a6 sh_121 (by decide) rfl (by decide)) ?_
    refine k_lstore_n [jR 1, jL (dg 6 (s 121) (dgs s (s 146 4) (dg 4 (s 70) (dgD s v1)))), jU, jI v3] dX10_digest_71 rfl rfl ?_
    refine k_aload_n dX10_digest_72 rfl ?_
    refine k_getr dX10_digest_73 fl_X10_77 sh_1 (by decide) rfl ?_
    refine k_lload_n dX10_digest_76 rfl ?_
    refine k_invV [jL (dg 6 (s 121) (dgs s (s 146 4) (dg 4 (s 70) (dgD s v1))))] [] dX10_digest_77 cm_X4_digestInto ml_X10_321 im_X4_digestInto se_X4_digestInto rfl sh_124 (by decide) rfl rfl (sp_X4_digestInto s (dg 6 (s 121) (dgs s (s 146 4) (dg 4 (s 70) (dgD s v1)))) a7) ?_
    refine k_lstore_n [jR 1, jL (dgf s (s 146 5) (dg 6 (s 121) (dgs s (s 146 4) (dg 4 (s 70) (dgD s v1))))), jU, jI v3] dX10_digest_80 rfl rfl ?_
    refine k_ldc2 (31) (31) dX10_digest_81 kl_X10_307 rfl ?_
    refine k_lload_n dX10_digest_84 rfl ?_
    refine k_lmul dX10_digest_85 ?_
    refine k_aload_n dX10_digest_86 rfl ?_
    refine k_iconst dX10_digest_87 ?_
    refine k_invVR [jI (-1)] [jL (31 * (dgf s (s 146 5) (dg 6 (s 121) (dgs s (s 146 4) (dg 4 (s 70) (dgD s v1))))))] dX10_digest_88 cm_X10_order ml_X10_322 im_X10_order se_X10_order rfl sh_1 (by decide) rfl rfl (sp_X10_order s (-1) a8 (by decide)) (fun _ s10 q11 => ?_)
    obtain ⟨y9, rfl, q11⟩ := q11
    have v := v y9 s10 q11
    obtain ⟨a12, v⟩ := v
    refine k_i2l dX10_digest_91 a12 ?_
    refine k_ladd dX10_digest_92 ?_
    refine k_lstore_n [jR 1, jL ((31 * (dgf s (s 146 5) (dg 6 (s 121) (dgs s (s 146 4) (dg 4 (s 70) (dgD s v1)))))) + y9), jU, jI v3] dX10_digest_93 rfl rfl ?_
    refine k_iconst dX10_digest_94 ?_
    refine k_istore_n [jR 1, jL ((31 * (dgf s (s 146 5) (dg 6 (s 121) (dgs s (s 146 4) (dg 4 (s 70) (dgD s v1)))))) + y9), jU, jI 0] dX10_digest_95 rfl rfl ?_
    exact v
  · have v := vf c2
    obtain ⟨a13, a14, a15, v⟩ := v
    refine k_ldc2 (31) (31) dX10_digest_11 kl_X10_307 rfl ?_
    refine k_lload_n dX10_digest_14 rfl ?_
    refine k_lmul dX10_digest_15 ?_
    refine k_aload_n dX10_digest_16 rfl ?_
    refine k_iload_n dX10_digest_17 rfl ?_
    refine k_invV [jI v3] [jL (31 * v1)] dX10_digest_18 cm_X10_count ml_X10_309 im_X10_count se_X10_count rfl sh_1 (by decide) rfl rfl (sp_X10_count s v3 a13 a14) ?_
    refine k_i2l dX10_digest_21 a15 ?_
    refine k_ladd dX10_digest_22 ?_
    refine k_lstore_n [jR 1, jL ((31 * v1) + (s 146 v3)), jU, jI v3] dX10_digest_23 rfl rfl ?_
    refine k_iinc [jR 1, jL ((31 * v1) + (s 146 v3)), jU, jI (v3 + 1)] dX10_digest_24 rfl rfl rfl ?_
    refine k_goto 6 dX10_digest_27 rfl ?_
    exact v
theorem g_X10_digest_96 {s : Int → Int → Int} {Q : Option jV → (Int → Int → Int) → Prop} {v1 v3 : Int} (v : (jr32 v3 ∧ ((2 < v3 → ((0 ≤ (s 139 1) ∧ (s 139 1) ≤ 16) ∧ (∀ i, 0 ≤ i → i < (s 139 1) → jr32 (s 140 i)) ∧ (0 ≤ (s 141 1) ∧ (s 141 1) ≤ 16) ∧ (∀ i, 0 ≤ i → i < (s 141 1) → jr32 (s 142 i)) ∧ Q (some (jL (dg (s 141 1) (s 142) (dg (s 139 1) (s 140) v1)))) s)) ∧ (¬ (2 < v3) → ((PD s) ∧ (0 ≤ v3 ∧ v3 ≤ 2) ∧ jr32 (sgv s v3) ∧ kK mX10_digest 96 [jR 1, jL ((31 * v1) + (sgv s v3)), jU, jI (v3 + 1)] [] s Q))))) : kK mX10_digest 96 [jR 1, jL v1, jU, jI v3] [] s Q := by
  obtain ⟨a1, v⟩ := v
  refine k_iload_n dX10_digest_96 rfl ?_
  refine k_iconst dX10_digest_97 ?_
  obtain ⟨vt, vf⟩ := v
  refine k_icmp_gt 120 dX10_digest_98 rfl a1 (by decide) (fun c2 => ?_) (fun c2 => ?_)
  · have v := vt c2
    obtain ⟨a3, a4, a5, a6, v⟩ := v
    refine k_lload_n dX10_digest_120 rfl ?_
    refine k_aload_n dX10_digest_121 rfl ?_
    refine k_getr dX10_digest_122 fl_X10_84 sh_1 (by decide) rfl ?_
    refine k_getr dX10_digest_125 fl_X10_289 sh_138 (by decide) rfl ?_
    refine k_getr dX10_digest_128 fl_X10_298 sh_139 (by decide) rfl ?_
    refine k_aload_n dX10_digest_131 rfl ?_
    refine k_getr dX10_digest_132 fl_X10_84 sh_1 (by decide) rfl ?_
    refine k_getr dX10_digest_135 fl_X10_289 sh_138 (by decide) rfl ?_
    refine k_geti 1 dX10_digest_138 fl_X10_292 sh_139 (by decide) rfl rfl ?_
    refine k_invS [jL v1, jR 140, jI (s 139 1)] [] dX10_digest_141 cm_X10_digestOfRow ml_X10_316 st_X10_digestOfRow rfl rfl (sp_X10_digestOfRow 16 s v1 140 (s 139 1) a3 a4 sh_140 (by decide) rfl (by decide)) ?_
    refine k_lstore_n [jR 1, jL (dg (s 139 1) (s 140) v1), jU, jI v3] dX10_digest_144 rfl rfl ?_
    refine k_lload_n dX10_digest_145 rfl ?_
    refine k_aload_n dX10_digest_146 rfl ?_
    refine k_getr dX10_digest_147 fl_X10_84 sh_1 (by decide) rfl ?_
    refine k_getr dX10_digest_150 fl_X10_295 sh_138 (by decide) rfl ?_
    refine k_getr dX10_digest_153 fl_X10_298 sh_141 (by decide) rfl ?_
    refine k_aload_n dX10_digest_156 rfl ?_
    refine k_getr dX10_digest_157 fl_X10_84 sh_1 (by decide) rfl ?_
    refine k_getr dX10_digest_160 fl_X10_295 sh_138 (by decide) rfl ?_
    refine k_geti 1 dX10_digest_163 fl_X10_292 sh_141 (by decide) rfl rfl ?_
    refine k_invS [jL (dg (s 139 1) (s 140) v1), jR 142, jI (s 141 1)] [] dX10_digest_166 cm_X10_digestOfRow ml_X10_316 st_X10_digestOfRow rfl rfl (sp_X10_digestOfRow 16 s (dg (s 139 1) (s 140) v1) 142 (s 141 1) a5 a6 sh_142 (by decide) rfl (by decide)) ?_
    exact k_lreturn (st := []) dX10_digest_169 rfl v
  · have v := vf c2
    obtain ⟨a7, a8, a9, v⟩ := v
    refine k_ldc2 (31) (31) dX10_digest_101 kl_X10_307 rfl ?_
    refine k_lload_n dX10_digest_104 rfl ?_
    refine k_lmul dX10_digest_105 ?_
    refine k_aload_n dX10_digest_106 rfl ?_
    refine k_iload_n dX10_digest_107 rfl ?_
    refine k_invV [jI v3] [jL (31 * v1)] dX10_digest_108 cm_X10_sign ml_X10_325 im_X10_sign se_X10_sign rfl sh_1 (by decide) rfl rfl (sp_X10_sign s v3 a7 a8) ?_
    refine k_i2l dX10_digest_111 a9 ?_
    refine k_ladd dX10_digest_112 ?_
    refine k_lstore_n [jR 1, jL ((31 * v1) + (sgv s v3)), jU, jI v3] dX10_digest_113 rfl rfl ?_
    refine k_iinc [jR 1, jL ((31 * v1) + (sgv s v3)), jU, jI (v3 + 1)] dX10_digest_114 rfl rfl rfl ?_
    refine k_goto 96 dX10_digest_117 rfl ?_
    exact v
