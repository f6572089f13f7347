theorem g_X11_weighs {s : Int → Int → Int} {Q : Option jV → (Int → Int → Int) → Prop} {v1 : Int} (v : kK mX11_weighs 2 [jR 143, jI v1, jI 0, jU, jU] [] s Q) : kR mX11_weighs [jR 143, jI v1] s Q := by
  show kK mX11_weighs 0 [jR 143, jI v1, jU, jU, jU] [] s Q
  refine k_iconst dX11_weighs_0 ?_
  refine k_istore_n [jR 143, jI v1, jI 0, jU, jU] dX11_weighs_1 rfl rfl ?_
  exact v
theorem g_X11_weighs_2 {s : Int → Int → Int} {Q : Option jV → (Int → Int → Int) → Prop} {v1 v2 : Int} (v : (jr32 v2 ∧ ((4 ≤ v2 → Q none s) ∧ (¬ (4 ≤ v2) → ((0 ≤ v2 ∧ v2 < 4) ∧ jr32 (s 157 v2) ∧ (0 ≤ (7 + v2) ∧ (7 + v2) < 15) ∧ (0 ≤ (s 157 v2) ∧ (s 157 v2) ≤ 9223372036854775807) ∧ (∀ (s8 : Int → Int → Int), (RF (fun q => q = (7 + v2)) s s8 ∧ RG s8 (7 + v2) (s 157 v2)) → ((0 ≤ (11 + v2) ∧ (11 + v2) < 15) ∧ (∀ (s12 : Int → Int → Int), (RF (fun q => q = (11 + v2)) s8 s12 ∧ RG s12 (11 + v2) 1) → kK mX11_weighs 33 [jR 143, jI v1, jI v2, jI 0, jU] [] s12 Q)))))))) : kK mX11_weighs 2 [jR 143, jI v1, jI v2, jU, jU] [] s Q := by
  obtain ⟨a1, v⟩ := v
  refine k_iload_n dX11_weighs_2 rfl ?_
  refine k_iconst dX11_weighs_3 ?_
  obtain ⟨vt, vf⟩ := v
  refine k_icmp_ge 137 dX11_weighs_4 rfl a1 (by decide) (fun c2 => ?_) (fun c2 => ?_)
  · have v := vt c2
    exact k_return (st := []) dX11_weighs_137 rfl v
  · have v := vf c2
    obtain ⟨a3, a4, a5, a6, v⟩ := v
    refine k_aload_n dX11_weighs_7 rfl ?_
    refine k_bipush dX11_weighs_8 rfl ?_
    refine k_iload_n dX11_weighs_10 rfl ?_
    refine k_iadd dX11_weighs_11 ?_
    refine k_aload_n dX11_weighs_12 rfl ?_
    refine k_getr dX11_weighs_13 fl_X11_49 sh_143 (by decide) rfl ?_
    refine k_iload_n dX11_weighs_16 rfl ?_
    refine k_iald 4 dX11_weighs_17 sh_157 (by decide) rfl (by decide) a3 ?_
    refine k_i2l dX11_weighs_18 a4 ?_
    refine k_invVR [jI (7 + v2), jL (s 157 v2)] [] dX11_weighs_19 cm_X11_sets ml_X11_85 im_X11_sets se_X11_sets rfl sh_143 (by decide) rfl rfl (sp_X11_sets s (7 + v2) (s 157 v2) a5 a6) (fun _ s8 q9 => ?_)
    obtain ⟨rfl, q9⟩ := q9
    have v := v s8 q9
    obtain ⟨a10, v⟩ := v
    refine k_aload_n dX11_weighs_22 rfl ?_
    refine k_bipush dX11_weighs_23 rfl ?_
    refine k_iload_n dX11_weighs_25 rfl ?_
    refine k_iadd dX11_weighs_26 ?_
    refine k_lconst 1 dX11_weighs_27 rfl ?_
    refine k_invVR [jI (11 + v2), jL 1] [] dX11_weighs_28 cm_X11_sets ml_X11_85 im_X11_sets se_X11_sets rfl sh_143 (by decide) rfl rfl (sp_X11_sets s8 (11 + v2) 1 a10 (by decide)) (fun _ s12 q13 => ?_)
    obtain ⟨rfl, q13⟩ := q13
    have v := v s12 q13
    refine k_iconst dX11_weighs_31 ?_
    refine k_istore_n [jR 143, jI v1, jI v2, jI 0, jU] dX11_weighs_32 rfl rfl ?_
    exact v
theorem g_X11_weighs_33 {s : Int → Int → Int} {Q : Option jV → (Int → Int → Int) → Prop} {v1 v2 v3 : Int} (v : (jr32 v3 ∧ jr32 (s 146 3) ∧ (((s 146 3) ≤ v3 → kK mX11_weighs 2 [jR 143, jI v1, jI (v2 + 1), jU, jU] [] s Q) ∧ (¬ ((s 146 3) ≤ v3) → kK mX11_weighs 46 [jR 143, jI v1, jI v2, jI v3, jI 0] [] s Q)))) : kK mX11_weighs 33 [jR 143, jI v1, jI v2, jI v3, jU] [] s Q := by
  obtain ⟨a1, a2, v⟩ := v
  refine k_iload_n dX11_weighs_33 rfl ?_
  refine k_aload_n dX11_weighs_34 rfl ?_
  refine k_getr dX11_weighs_35 fl_X11_16 sh_143 (by decide) rfl ?_
  refine k_iconst dX11_weighs_38 ?_
  refine k_iald 6 dX11_weighs_39 sh_146 (by decide) rfl (by decide) (by decide) ?_
  obtain ⟨vt, vf⟩ := v
  refine k_icmp_ge 131 dX11_weighs_40 rfl a1 a2 (fun c3 => ?_) (fun c3 => ?_)
  · have v := vt c3
    refine k_iinc [jR 143, jI v1, jI (v2 + 1), jI v3, jU] dX11_weighs_131 rfl rfl rfl ?_
    refine k_goto 2 dX11_weighs_134 rfl ?_
    refine k_drop [jR 143, jI v1, jI (v2 + 1), jU, jU] ⟨Or.inr rfl, Or.inr rfl, Or.inr rfl, Or.inl rfl, Or.inr rfl, trivial⟩ ?_
    exact v
  · have v := vf c3
    refine k_iconst dX11_weighs_43 ?_
    refine k_istore [jR 143, jI v1, jI v2, jI v3, jI 0] dX11_weighs_44 rfl rfl ?_
    exact v
theorem g_X11_weighs_46 {s : Int → Int → Int} {Q : Option jV → (Int → Int → Int) → Prop} {v1 v2 v3 v4 : Int} (v : ((0 ≤ v3 ∧ v3 < 30) ∧ jr32 v4 ∧ jr32 (s 155 v3) ∧ (((s 155 v3) ≤ v4 → kK mX11_weighs 33 [jR 143, jI v1, jI v2, jI (v3 + 1), jU] [] s Q) ∧ (¬ ((s 155 v3) ≤ v4) → (jr32 (s 153 v3) ∧ jr32 v1 ∧ (((s 153 v3) ≠ v1 → kK mX11_weighs 33 [jR 143, jI v1, jI v2, jI (v3 + 1), jU] [] s Q) ∧ ((s 153 v3) = v1 → ((0 ≤ ((8 * v3) + v4) ∧ ((8 * v3) + v4) < 240) ∧ (DD s) ∧ (0 ≤ (s 152 v3) ∧ (s 152 v3) < s 146 1) ∧ jr32 (s 156 ((8 * v3) + v4)) ∧ jr32 v2 ∧ (0 ≤ (7 + v2) ∧ (7 + v2) < 15) ∧ (1 ≤ (1 + ucm s (s 152 v3) (s 156 ((8 * v3) + v4)) v2 v1) ∧ (1 + ucm s (s 152 v3) (s 156 ((8 * v3) + v4)) v2 v1) ≤ 1000) ∧ (RG s (7 + v2) (rv s (7 + v2))) ∧ (rv s (7 + v2) * (1 + ucm s (s 152 v3) (s 156 ((8 * v3) + v4)) v2 v1) < bp 49) ∧ (∀ (s18 : Int → Int → Int), (RF (fun q => q = (7 + v2)) s s18 ∧ RG s18 (7 + v2) (rv s (7 + v2) * (1 + ucm s (s 152 v3) (s 156 ((8 * v3) + v4)) v2 v1))) → ((DD s18) ∧ (0 ≤ (s18 152 v3) ∧ (s18 152 v3) < s18 146 1) ∧ (0 ≤ (11 + v2) ∧ (11 + v2) < 15) ∧ (1 ≤ (s18 146 0 + ucm s18 (s18 152 v3) (-1) v2 v1) ∧ (s18 146 0 + ucm s18 (s18 152 v3) (-1) v2 v1) ≤ 1000) ∧ (RG s18 (11 + v2) (rv s18 (11 + v2))) ∧ (rv s18 (11 + v2) * (s18 146 0 + ucm s18 (s18 152 v3) (-1) v2 v1) < bp 49) ∧ (∀ (s27 : Int → Int → Int), (RF (fun q => q = (11 + v2)) s18 s27 ∧ RG s27 (11 + v2) (rv s18 (11 + v2) * (s18 146 0 + ucm s18 (s18 152 v3) (-1) v2 v1))) → kK mX11_weighs 46 [jR 143, jI v1, jI v2, jI v3, jI (v4 + 1)] [] s27 Q))))))))))) : kK mX11_weighs 46 [jR 143, jI v1, jI v2, jI v3, jI v4] [] s Q := by
  obtain ⟨a1, a2, a3, v⟩ := v
  refine k_iload dX11_weighs_46 rfl ?_
  refine k_aload_n dX11_weighs_48 rfl ?_
  refine k_getr dX11_weighs_49 fl_X11_43 sh_143 (by decide) rfl ?_
  refine k_iload_n dX11_weighs_52 rfl ?_
  refine k_iald 30 dX11_weighs_53 sh_155 (by decide) rfl (by decide) a1 ?_
  obtain ⟨vt, vf⟩ := v
  refine k_icmp_ge 125 dX11_weighs_54 rfl a2 a3 (fun c4 => ?_) (fun c4 => ?_)
  · have v := vt c4
    refine k_iinc [jR 143, jI v1, jI v2, jI (v3 + 1), jI v4] dX11_weighs_125 rfl rfl rfl ?_
    refine k_goto 33 dX11_weighs_128 rfl ?_
    refine k_drop [jR 143, jI v1, jI v2, jI (v3 + 1), jU] ⟨Or.inr rfl, Or.inr rfl, Or.inr rfl, Or.inr rfl, Or.inl rfl, trivial⟩ ?_
    exact v
  · have v := vf c4
    obtain ⟨a5, a6, v⟩ := v
    refine k_aload_n dX11_weighs_57 rfl ?_
    refine k_getr dX11_weighs_58 fl_X11_37 sh_143 (by decide) rfl ?_
    refine k_iload_n dX11_weighs_61 rfl ?_
    refine k_iald 30 dX11_weighs_62 sh_153 (by decide) rfl (by decide) a1 ?_
    refine k_iload_n dX11_weighs_63 rfl ?_
    obtain ⟨vt, vf⟩ := v
    refine k_icmp_ne 125 dX11_weighs_64 rfl a5 a6 (fun c7 => ?_) (fun c7 => ?_)
    · have v := vt c7
      refine k_iinc [jR 143, jI v1, jI v2, jI (v3 + 1), jI v4] dX11_weighs_125 rfl rfl rfl ?_
      refine k_goto 33 dX11_weighs_128 rfl ?_
      refine k_drop [jR 143, jI v1, jI v2, jI (v3 + 1), jU] ⟨Or.inr rfl, Or.inr rfl, Or.inr rfl, Or.inr rfl, Or.inl rfl, trivial⟩ ?_
      exact v
    · have v := vf c7
      obtain ⟨a8, a9, a10, a11, a12, a13, a14, a15, a16, v⟩ := v
      refine k_aload_n dX11_weighs_67 rfl ?_
      refine k_bipush dX11_weighs_68 rfl ?_
      refine k_iload_n dX11_weighs_70 rfl ?_
      refine k_iadd dX11_weighs_71 ?_
      refine k_aload_n dX11_weighs_72 rfl ?_
      refine k_aload_n dX11_weighs_73 rfl ?_
      refine k_getr dX11_weighs_74 fl_X11_34 sh_143 (by decide) rfl ?_
      refine k_iload_n dX11_weighs_77 rfl ?_
      refine k_iald 30 dX11_weighs_78 sh_152 (by decide) rfl (by decide) a1 ?_
      refine k_aload_n dX11_weighs_79 rfl ?_
      refine k_getr dX11_weighs_80 fl_X11_46 sh_143 (by decide) rfl ?_
      refine k_bipush dX11_weighs_83 rfl ?_
      refine k_iload_n dX11_weighs_85 rfl ?_
      refine k_imul dX11_weighs_86 ?_
      refine k_iload dX11_weighs_87 rfl ?_
      refine k_iadd dX11_weighs_89 ?_
      refine k_iald 240 dX11_weighs_90 sh_156 (by decide) rfl (by decide) a8 ?_
      refine k_iload_n dX11_weighs_91 rfl ?_
      refine k_iload_n dX11_weighs_92 rfl ?_
      refine k_invV [jI (s 152 v3), jI (s 156 ((8 * v3) + v4)), jI v2, jI v1] [jI (7 + v2), jR 143] dX11_weighs_93 cm_X11_meanUp ml_X11_156 im_X11_meanUp se_X11_meanUp rfl sh_143 (by decide) rfl rfl (sp_X11_meanUp s (s 152 v3) (s 156 ((8 * v3) + v4)) v2 v1 a9 a10 a11 a12 a6) ?_
      refine k_invVR [jI (7 + v2), jI (1 + ucm s (s 152 v3) (s 156 ((8 * v3) + v4)) v2 v1)] [] dX11_weighs_96 cm_X11_times ml_X11_167 im_X11_times se_X11_times rfl sh_143 (by decide) rfl rfl (sp_X11_times s (7 + v2) (1 + ucm s (s 152 v3) (s 156 ((8 * v3) + v4)) v2 v1) a13 a14 a15 a16) (fun _ s18 q19 => ?_)
      obtain ⟨rfl, q19⟩ := q19
      have v := v s18 q19
      obtain ⟨a20, a21, a22, a23, a24, a25, v⟩ := v
      refine k_aload_n dX11_weighs_99 rfl ?_
      refine k_bipush dX11_weighs_100 rfl ?_
      refine k_iload_n dX11_weighs_102 rfl ?_
      refine k_iadd dX11_weighs_103 ?_
      refine k_aload_n dX11_weighs_104 rfl ?_
      refine k_aload_n dX11_weighs_105 rfl ?_
      refine k_getr dX11_weighs_106 fl_X11_34 sh_143 (by decide) rfl ?_
      refine k_iload_n dX11_weighs_109 rfl ?_
      refine k_iald 30 dX11_weighs_110 sh_152 (by decide) rfl (by decide) a1 ?_
      refine k_iload_n dX11_weighs_111 rfl ?_
      refine k_iload_n dX11_weighs_112 rfl ?_
      refine k_invV [jI (s18 152 v3), jI v2, jI v1] [jI (11 + v2), jR 143] dX11_weighs_113 cm_X11_meanDown ml_X11_159 im_X11_meanDown se_X11_meanDown rfl sh_143 (by decide) rfl rfl (sp_X11_meanDown s18 (s18 152 v3) v2 v1 a20 a21 a12 a6) ?_
      refine k_invVR [jI (11 + v2), jI (s18 146 0 + ucm s18 (s18 152 v3) (-1) v2 v1)] [] dX11_weighs_116 cm_X11_times ml_X11_167 im_X11_times se_X11_times rfl sh_143 (by decide) rfl rfl (sp_X11_times s18 (11 + v2) (s18 146 0 + ucm s18 (s18 152 v3) (-1) v2 v1) a22 a23 a24 a25) (fun _ s27 q28 => ?_)
      obtain ⟨rfl, q28⟩ := q28
      have v := v s27 q28
      refine k_iinc [jR 143, jI v1, jI v2, jI v3, jI (v4 + 1)] dX11_weighs_119 rfl rfl rfl ?_
      refine k_goto 46 dX11_weighs_122 rfl ?_
      exact v
theorem g_X11_shares {s : Int → Int → Int} {Q : Option jV → (Int → Int → Int) → Prop} {v1 v2 : Int} (v : (((0 ≤ v1 ∧ v1 < 15) ∧ (0 ≤ (7 + v2) ∧ (7 + v2) < 15) ∧ v1 ≠ (7 + v2)) ∧ (RG s (7 + v2) (rv s (7 + v2))) ∧ (∀ (s4 : Int → Int → Int), (RF (fun q => q = v1) s s4 ∧ RG s4 v1 (rv s (7 + v2))) → kK mX11_shares 11 [jR 143, jI v1, jI v2, jI 0] [] s4 Q))) : kR mX11_shares [jR 143, jI v1, jI v2] s Q := by
  show kK mX11_shares 0 [jR 143, jI v1, jI v2, jU] [] s Q
  obtain ⟨a1, a2, v⟩ := v
  refine k_aload_n dX11_shares_0 rfl ?_
  refine k_iload_n dX11_shares_1 rfl ?_
  refine k_bipush dX11_shares_2 rfl ?_
  refine k_iload_n dX11_shares_4 rfl ?_
  refine k_iadd dX11_shares_5 ?_
  refine k_invVR [jI v1, jI (7 + v2)] [] dX11_shares_6 cm_X11_takes ml_X11_95 im_X11_takes se_X11_takes rfl sh_143 (by decide) rfl rfl (sp_X11_takes s v1 (7 + v2) a1 a2) (fun _ s4 q5 => ?_)
  obtain ⟨rfl, q5⟩ := q5
  have v := v s4 q5
  refine k_iconst dX11_shares_9 ?_
  refine k_istore_n [jR 143, jI v1, jI v2, jI 0] dX11_shares_10 rfl rfl ?_
  exact v
theorem g_X11_shares_11 {s : Int → Int → Int} {Q : Option jV → (Int → Int → Int) → Prop} {v1 v2 v3 : Int} (v : (jr32 v3 ∧ ((4 ≤ v3 → Q none s) ∧ (¬ (4 ≤ v3) → (jr32 v2 ∧ ((v3 = v2 → kK mX11_shares 11 [jR 143, jI v1, jI v2, jI (v3 + 1)] [] s Q) ∧ (¬ (v3 = v2) → (((0 ≤ v1 ∧ v1 < 15) ∧ (0 ≤ (11 + v3) ∧ (11 + v3) < 15) ∧ v1 ≠ (11 + v3) ∧ v1 ≠ 4 ∧ (11 + v3) ≠ 4) ∧ (RG s v1 (rv s v1)) ∧ (RG s (11 + v3) (rv s (11 + v3))) ∧ (rv s v1 < bp 25 ∧ rv s (11 + v3) < bp 25) ∧ (∀ (s10 : Int → Int → Int), (RF (fun q => q = v1 ∨ q = 4) s s10 ∧ RG s10 v1 (rv s v1 * rv s (11 + v3))) → kK mX11_shares 11 [jR 143, jI v1, jI v2, jI (v3 + 1)] [] s10 Q))))))))) : kK mX11_shares 11 [jR 143, jI v1, jI v2, jI v3] [] s Q := by
  obtain ⟨a1, v⟩ := v
  refine k_iload_n dX11_shares_11 rfl ?_
  refine k_iconst dX11_shares_12 ?_
  obtain ⟨vt, vf⟩ := v
  refine k_icmp_ge 36 dX11_shares_13 rfl a1 (by decide) (fun c2 => ?_) (fun c2 => ?_)
  · have v := vt c2
    exact k_return (st := []) dX11_shares_36 rfl v
  · have v := vf c2
    obtain ⟨a3, v⟩ := v
    refine k_iload_n dX11_shares_16 rfl ?_
    refine k_iload_n dX11_shares_17 rfl ?_
    obtain ⟨vt, vf⟩ := v
    refine k_icmp_eq 30 dX11_shares_18 rfl a1 a3 (fun c4 => ?_) (fun c4 => ?_)
    · have v := vt c4
      refine k_iinc [jR 143, jI v1, jI v2, jI (v3 + 1)] dX11_shares_30 rfl rfl rfl ?_
      refine k_goto 11 dX11_shares_33 rfl ?_
      exact v
    · have v := vf c4
      obtain ⟨a5, a6, a7, a8, v⟩ := v
      refine k_aload_n dX11_shares_21 rfl ?_
      refine k_iload_n dX11_shares_22 rfl ?_
      refine k_bipush dX11_shares_23 rfl ?_
      refine k_iload_n dX11_shares_25 rfl ?_
      refine k_iadd dX11_shares_26 ?_
      refine k_invVR [jI v1, jI (11 + v3)] [] dX11_shares_27 cm_X11_multiplies ml_X11_170 im_X11_multiplies se_X11_multiplies rfl sh_143 (by decide) rfl rfl (sp_X11_multiplies s v1 (11 + v3) a5 a6 a7 a8) (fun _ s10 q11 => ?_)
      obtain ⟨rfl, q11⟩ := q11
      have v := v s10 q11
      refine k_iinc [jR 143, jI v1, jI v2, jI (v3 + 1)] dX11_shares_30 rfl rfl rfl ?_
      refine k_goto 11 dX11_shares_33 rfl ?_
      exact v
def wgP (q : Int) : Prop := 7 ≤ q ∧ q ≤ 14
theorem sp_X11_weighs (s : Int → Int → Int) (p : Int) (hp : TFp s p) : kR mX11_weighs [jR 143, jI p] s (fun o s' => o = none ∧ RF wgP s s' ∧ ∀ g, 0 ≤ g → g < 4 → RG s' (7 + g) (upr s p g) ∧ RG s' (11 + g) (dnr s p g)) := by
  obtain ⟨⟨d, ib⟩, hp, h12⟩ := hp
  obtain ⟨e0, e1, e2, e3⟩ := d.cnt
  refine g_X11_weighs ?_
  have kg : ∀ g, g ≤ 4 → 0 ≤ g → ∀ s1, RF wgP s s1 → (∀ g', 0 ≤ g' → g' < g → RG s1 (7 + g') (upr s p g') ∧ RG s1 (11 + g') (dnr s p g')) → kK mX11_weighs 2 [jR 143, jI p, jI g, jU, jU] [] s1 (fun o s' => o = none ∧ RF wgP s s' ∧ ∀ g, 0 ≤ g → g < 4 → RG s' (7 + g) (upr s p g) ∧ RG s' (11 + g) (dnr s p g)) := by
    refine lp_up 4 _ (fun g hg ih g0 s1 f1 b1 => ?_)
    refine g_X11_weighs_2 ?_
    rw [f1.1 157 (by omega) (by omega)]
    refine ⟨by unfold jr32; omega, fun q => ⟨rfl, f1, fun g' a0 a1 => b1 g' a0 (by omega)⟩, fun q => ?_⟩
    have w := ib.2 g g0 (by omega)
    refine ⟨by omega, by unfold jr32; omega, by omega, by omega, fun s8 q8 => ⟨by omega, fun s12 q12 => ?_⟩⟩
    have f12 : RF wgP s s12 := (f1.tr (q8.1.wk (fun q e => by unfold wgP; omega))).tr (q12.1.wk (fun q e => by unfold wgP; omega))
    have kl : ∀ n, n ≤ s 146 3 → 0 ≤ n → ∀ s2, RF wgP s s2 → (∀ g', 0 ≤ g' → g' < g → RG s2 (7 + g') (upr s p g') ∧ RG s2 (11 + g') (dnr s p g')) → RG s2 (7 + g) (pp s p (fup s p g) n (s 157 g)) → RG s2 (11 + g) (pp s p (fdn s p g) n 1) → kK mX11_weighs 33 [jR 143, jI p, jI g, jI n, jU] [] s2 (fun o s' => o = none ∧ RF wgP s s' ∧ ∀ g, 0 ≤ g → g < 4 → RG s' (7 + g) (upr s p g) ∧ RG s' (11 + g) (dnr s p g)) := by
      refine lp_up _ _ (fun n hn jh n0 s2 f2 b2 u2 v2 => ?_)
      refine g_X11_weighs_33 ?_
      rw [f2.1 146 (by omega) (by omega)]
      refine ⟨by unfold jr32; omega, by unfold jr32; omega, fun q => ?_, fun q => ?_⟩
      · have en : n = s 146 3 := by omega
        rw [en] at u2 v2
        refine ih (by omega) (by omega) s2 f2 (fun g' a0 a1 => ?_)
        by_cases e : g' = g
        · rw [e]; exact ⟨u2, v2⟩
        · exact b2 g' a0 (by omega)
      · obtain ⟨x1, x2, x3, x4⟩ := d.let n0 (show n < s 146 3 by omega)
        have le := wfn_le d p n0 (show n < s 146 3 by omega)
        have wn := wfn_n d p n n0 (by omega)
        have pu := pp_b d (p := p) (f := fup s p g) (A := 9) (M := 248) (by decide) (by decide) (fun l k l0 l1 _ k0 k1 => by have := (fac_r d (p := p) l0 l1 k0 k1 g).1; omega) (v := s 157 g) w n n0 (by omega)
        have pv := pp_b d (p := p) (f := fdn s p g) (A := 9) (M := 248) (by decide) (by decide) (fun l k l0 l1 _ k0 k1 => (fac_r d (p := p) l0 l1 k0 k1 g).2) (v := 1) (by decide) n n0 (by omega)
        have kk : ∀ k, k ≤ s 155 n → 0 ≤ k → (k = 0 ∨ s 153 n = p) → ∀ s3, RF wgP s s3 → (∀ g', 0 ≤ g' → g' < g → RG s3 (7 + g') (upr s p g') ∧ RG s3 (11 + g') (dnr s p g')) → RG s3 (7 + g) (fo k (fun k v => v * fup s p g n k) (pp s p (fup s p g) n (s 157 g))) → RG s3 (11 + g) (fo k (fun k v => v * fdn s p g n k) (pp s p (fdn s p g) n 1)) → kK mX11_weighs 46 [jR 143, jI p, jI g, jI n, jI k] [] s3 (fun o s' => o = none ∧ RF wgP s s' ∧ ∀ g, 0 ≤ g → g < 4 → RG s' (7 + g) (upr s p g) ∧ RG s' (11 + g) (dnr s p g)) := by
          refine lp_up _ _ (fun k hk kh k0 kp s3 f3 b3 u3 v3 => ?_)
          have nx : (s 153 n = p → k = s 155 n) → (s 153 n ≠ p → k = 0) → kK mX11_weighs 33 [jR 143, jI p, jI g, jI (n + 1), jU] [] s3 (fun o s' => o = none ∧ RF wgP s s' ∧ ∀ g, 0 ≤ g → g < 4 → RG s' (7 + g) (upr s p g) ∧ RG s' (11 + g) (dnr s p g)) := fun c1 c2 => by
            refine jh (by omega) (by omega) s3 f3 b3 ?_ ?_
            · rw [pp_s s p _ n0]
              unfold ppl
              by_cases c : s 153 n = p
              · rw [if_pos c, ← c1 c]; exact u3
              · rw [if_neg c]
                rw [c2 c, fo_0] at u3
                exact u3
            · rw [pp_s s p _ n0]
              unfold ppl
              by_cases c : s 153 n = p
              · rw [if_pos c, ← c1 c]; exact v3
              · rw [if_neg c]
                rw [c2 c, fo_0] at v3
                exact v3
          have c3 : ∀ k, k ≠ 144 → k ≠ 145 → s3 k = s k := f3.1
          refine g_X11_weighs_46 ?_
          rw [c3 155 (by omega) (by omega), c3 153 (by omega) (by omega), c3 152 (by omega) (by omega), c3 156 (by omega) (by omega), c3 146 (by omega) (by omega)]
          refine ⟨by omega, by unfold jr32; omega, by unfold jr32; omega, fun q3 => nx (fun _ => by omega) (fun c => kp.resolve_right c), fun q3 => ⟨by unfold jr32; omega, hp, fun c => nx (fun e => absurd e c) (fun e => kp.resolve_right e), fun c => ?_⟩⟩
          have dd3 : DD s3 := d.fr (fun k hk => c3 k (by omega) (by omega))
          obtain ⟨-, t2, t3⟩ := d.txt n0 (show n < s 146 3 by omega) k0 (show k < s 155 n by omega)
          have fr := fac_r d (p := p) n0 (show n < s 146 3 by omega) k0 (show k < s 155 n by omega) g
          have eu3 : ucm s3 = ucm s := ucm_fr (fun k hk => c3 k (by omega) (by omega))
          have lec := le.2 c
          have pc := pow_c (M := 248) (a := wfn s p n + (k + 1)) (b := 12) (by decide) (by omega)
          rw [show Int.toNat 12 = 12 from rfl] at pc
          have nb := n12b
          have b49 : bp 4 ≤ bp 49 := bp_le (by omega)
          have bu := fo_b (f := fun k => fup s p g n k) (A := 9) (M := 248) (c := wfn s p n) (by decide) (by decide) wn (k + 1) (by omega) (fun i i0 i1 => by have := (fac_r d (p := p) n0 (show n < s 146 3 by omega) i0 (show i < s 155 n by omega) g).1; omega) _ pu
          have bv2 := fo_b (f := fun k => fdn s p g n k) (A := 9) (M := 248) (c := wfn s p n) (by decide) (by decide) wn (k + 1) (by omega) (fun i i0 i1 => (fac_r d (p := p) n0 (show n < s 146 3 by omega) i0 (show i < s 155 n by omega) g).2) _ pv
          rw [fo_s k0] at bu bv2
          rw [eu3]
          have m1 : 1 + ucm s (s 152 n) (s 156 (8 * n + k)) g p = fup s p g n k := rfl
          rw [m1, u3.rv]
          refine ⟨by omega, dd3, by omega, by unfold jr32; omega, by unfold jr32; omega, by omega, by omega, u3, by omega, fun s14 q14 => ?_⟩
          have c14 : ∀ k, k ≠ 144 → k ≠ 145 → s14 k = s k := fun k h1 h2 => (q14.1.1 k h1 h2).trans (c3 k h1 h2)
          have dd14 : DD s14 := d.fr (fun k hk => c14 k (by omega) (by omega))
          have eu14 : ucm s14 = ucm s := ucm_fr (fun k hk => c14 k (by omega) (by omega))
          have v14 := v3.fr q14.1 (by omega)
          rw [c14 152 (by omega) (by omega), c14 146 (by omega) (by omega), eu14]
          have m2 : s 146 0 + ucm s (s 152 n) (-1) g p = fdn s p g n k := rfl
          rw [m2, v14.rv]
          refine ⟨dd14, by omega, by omega, by omega, v14, by omega, fun s19 q19 => ?_⟩
          refine kh (by omega) (by omega) (Or.inr c) s19 ((f3.tr (q14.1.wk (fun q e => by unfold wgP; omega))).tr (q19.1.wk (fun q e => by unfold wgP; omega))) (fun g' a0 a1 => ?_) ?_ ?_
          · have bb := b3 g' a0 a1
            exact ⟨(bb.1.fr q14.1 (by omega)).fr q19.1 (by omega), (bb.2.fr q14.1 (by omega)).fr q19.1 (by omega)⟩
          · rw [fo_s k0]
            exact q14.2.fr q19.1 (by omega)
          · rw [fo_s k0]
            exact q19.2
        exact kk 0 x4.2.1 (by omega) (Or.inl rfl) s2 f2 b2 u2 v2
    refine kl 0 e3.2.1 (by omega) s12 f12 (fun g' a0 a1 => ?_) (q8.2.fr q12.1 (by omega)) q12.2
    have bb := b1 g' a0 a1
    exact ⟨(bb.1.fr q8.1 (by omega)).fr q12.1 (by omega), (bb.2.fr q8.1 (by omega)).fr q12.1 (by omega)⟩
  exact kg 0 (by omega) (by omega) s RF.rf (fun g' a0 a1 => by omega)
def SHp (s : Int → Int → Int) (r g : Int) : Prop := (r = 5 ∨ r = 6) ∧ (0 ≤ g ∧ g < 4) ∧ ∀ k, 0 ≤ k → k < 4 → (RG s (7 + k) (rv s (7 + k)) ∧ rv s (7 + k) < bp 4) ∧ RG s (11 + k) (rv s (11 + k)) ∧ rv s (11 + k) < bp 4
theorem sp_X11_shares (s : Int → Int → Int) (r g : Int) (hp : SHp s r g) : kR mX11_shares [jR 143, jI r, jI g] s (fun o s' => o = none ∧ RF (fun q => q = r ∨ q = 4) s s' ∧ RG s' r (fo 4 (fun k v => if k = g then v else v * rv s (11 + k)) (rv s (7 + g)))) := by
  obtain ⟨hr, hg, hk⟩ := hp
  refine g_X11_shares ⟨⟨by omega, by omega, by omega⟩, (hk g hg.1 hg.2).1.1, fun s4 q4 => ?_⟩
  have key : ∀ k, k ≤ 4 → 0 ≤ k → ∀ s1, RF (fun q => q = r ∨ q = 4) s s1 → RG s1 r (fo k (fun k v => if k = g then v else v * rv s (11 + k)) (rv s (7 + g))) → fo k (fun k v => if k = g then v else v * rv s (11 + k)) (rv s (7 + g)) < bp (4 * (k + 1)) → kK mX11_shares 11 [jR 143, jI r, jI g, jI k] [] s1 (fun o s' => o = none ∧ RF (fun q => q = r ∨ q = 4) s s' ∧ RG s' r (fo 4 (fun k v => if k = g then v else v * rv s (11 + k)) (rv s (7 + g)))) := by
    refine lp_up 4 _ (fun k hk4 ih k0 s1 f1 b1 w1 => ?_)
    refine g_X11_shares_11 ⟨by unfold jr32; omega, fun q => ⟨rfl, f1, by rw [show (4 : Int) = k by omega]; exact b1⟩, fun q => ⟨by unfold jr32; omega, fun c => ?_, fun c => ?_⟩⟩
    · refine ih (by omega) (by omega) s1 f1 ?_ ?_
      · rw [fo_s k0, if_pos c]; exact b1
      · rw [fo_s k0, if_pos c]
        have := bp_le (show 4 * (k + 1) ≤ 4 * (k + 1 + 1) by omega)
        omega
    · obtain ⟨-, d1, d2⟩ := hk k k0 (by omega)
      have d3 := d1.fr f1 (by omega)
      have ev := b1.rv
      have ed := d3.rv
      have b0 := b1.b
      have d0 := d3.b
      have le1 := bp_le (show 4 * (k + 1) ≤ 25 by omega)
      have le2 := bp_le (show (4 : Int) ≤ 25 by omega)
      rw [ev, ed]
      refine ⟨by omega, b1, d3, by omega, fun s6 q6 => ih (by omega) (by omega) s6 (f1.tr q6.1) ?_ ?_⟩
      · rw [fo_s k0, if_neg c]; exact q6.2
      · rw [fo_s k0, if_neg c, show 4 * (k + 1 + 1) = 4 * (k + 1) + 4 by omega, bp_add (by omega) 4 (by omega)]
        have p4 := bp_pos 4
        by_cases z : rv s (11 + k) = 0
        · rw [z, Int.mul_zero]
          have := bp_pos (4 * (k + 1))
          have := Int.mul_pos (show 0 < bp (4 * (k + 1)) by omega) (show 0 < bp 4 by omega)
          omega
        · have a := Int.mul_lt_mul_of_pos_right w1 (show 0 < rv s (11 + k) by omega)
          have b := Int.mul_le_mul_of_nonneg_left (show rv s (11 + k) ≤ bp 4 by omega) (show 0 ≤ bp (4 * (k + 1)) by have := bp_pos (4 * (k + 1)); omega)
          omega
  exact key 0 (by omega) (by omega) s4 (q4.1.wk (fun q e => Or.inl e)) q4.2 (hk g hg.1 hg.2).1.2
theorem g_X11_odds {s : Int → Int → Int} {Q : Option jV → (Int → Int → Int) → Prop} {v1 v2 : Int} (v : (jr32 v1 ∧ (0 ≤ s 146 2 ∧ s 146 2 ≤ 1000) ∧ ((¬ (0 ≤ v1 ∧ v1 ≤ s 146 2 - 1) → Q (some (jI (-2))) s) ∧ (0 ≤ v1 ∧ v1 ≤ s 146 2 - 1 → (jr32 v2 ∧ ((0 ≤ v2 ∧ v2 ≤ 3 → ((DD s) ∧ jr32 (wf s v1) ∧ (((wf s v1) ≤ 12 → ((TFp s v1) ∧ (∀ (s11 : Int → Int → Int), (RF wgP s s11 ∧ ∀ g, 0 ≤ g → g < 4 → RG s11 (7 + g) (upr s v1 g) ∧ RG s11 (11 + g) (dnr s v1 g)) → (∀ (s14 : Int → Int → Int), (RF (fun q => q = 5) s11 s14 ∧ RG s14 5 0) → kK mX11_odds 45 [jR 143, jU, jI v2, jI 0] [] s14 Q)))) ∧ (¬ ((wf s v1) ≤ 12) → Q (some (jI (-3))) s)))) ∧ (¬ (0 ≤ v2 ∧ v2 ≤ 3) → Q (some (jI (-2))) s))))))) : kR mX11_odds [jR 143, jI v1, jI v2] s Q := by
  show kK mX11_odds 0 [jR 143, jI v1, jI v2, jU] [] s Q
  obtain ⟨a1, a2, v⟩ := v
  refine k_aload_n dX11_odds_0 rfl ?_
  refine k_iconst dX11_odds_1 ?_
  refine k_iload_n dX11_odds_2 rfl ?_
  refine k_invV [jI 2, jI v1] [] dX11_odds_3 cm_X11_is ml_X11_136 im_X11_is se_X11_is rfl sh_143 (by decide) rfl rfl (sp_X11_is s 2 v1 (by decide) a1 a2) ?_
  obtain ⟨vt, vf⟩ := v
  refine k_ifb_eq 16 dX11_odds_6 rfl (fun c3 => ?_) (fun c3 => ?_)
  · have v := vt c3
    refine k_bipush dX11_odds_16 rfl ?_
    exact k_ireturn (st := []) dX11_odds_18 rfl v
  · have v := vf c3
    obtain ⟨a4, v⟩ := v
    refine k_iload_n dX11_odds_9 rfl ?_
    refine k_invS [jI v2] [] dX11_odds_10 cm_X11_isGift ml_X11_142 st_X11_isGift rfl rfl (sp_X11_isGift s v2 a4) ?_
    obtain ⟨vt, vf⟩ := v
    refine k_ifb_ne 19 dX11_odds_13 rfl (fun c5 => ?_) (fun c5 => ?_)
    · have v := vt c5
      obtain ⟨a6, a7, v⟩ := v
      refine k_aload_n dX11_odds_19 rfl ?_
      refine k_iload_n dX11_odds_20 rfl ?_
      refine k_invV [jI v1] [] dX11_odds_21 cm_X11_wordsOf ml_X11_173 im_X11_wordsOf se_X11_wordsOf rfl sh_143 (by decide) rfl rfl (sp_X11_wordsOf s v1 a6 a1) ?_
      refine k_bipush dX11_odds_24 rfl ?_
      obtain ⟨vt, vf⟩ := v
      refine k_icmp_le 32 dX11_odds_26 rfl a7 (by decide) (fun c8 => ?_) (fun c8 => ?_)
      · have v := vt c8
        obtain ⟨a9, v⟩ := v
        refine k_aload_n dX11_odds_32 rfl ?_
        refine k_iload_n dX11_odds_33 rfl ?_
        refine k_invVR [jI v1] [] dX11_odds_34 cm_X11_weighs ml_X11_176 im_X11_weighs se_X11_weighs rfl sh_143 (by decide) rfl rfl (sp_X11_weighs s v1 a9) (fun _ s11 q12 => ?_)
        obtain ⟨rfl, q12⟩ := q12
        have v := v s11 q12
        refine k_aload_n dX11_odds_37 rfl ?_
        refine k_iconst dX11_odds_38 ?_
        refine k_lconst 0 dX11_odds_39 rfl ?_
        refine k_invVR [jI 5, jL 0] [] dX11_odds_40 cm_X11_sets ml_X11_85 im_X11_sets se_X11_sets rfl sh_143 (by decide) rfl rfl (sp_X11_sets s11 5 0 (by decide) (by decide)) (fun _ s14 q15 => ?_)
        obtain ⟨rfl, q15⟩ := q15
        have v := v s14 q15
        refine k_iconst dX11_odds_43 ?_
        refine k_istore_n [jR 143, jI v1, jI v2, jI 0] dX11_odds_44 rfl rfl ?_
        refine k_drop [jR 143, jU, jI v2, jI 0] ⟨Or.inr rfl, Or.inl rfl, Or.inr rfl, Or.inr rfl, trivial⟩ ?_
        exact v
      · have v := vf c8
        refine k_bipush dX11_odds_29 rfl ?_
        exact k_ireturn (st := []) dX11_odds_31 rfl v
    · have v := vf c5
      refine k_bipush dX11_odds_16 rfl ?_
      exact k_ireturn (st := []) dX11_odds_18 rfl v
theorem g_X11_odds_45 {s : Int → Int → Int} {Q : Option jV → (Int → Int → Int) → Prop} {v2 v3 : Int} (v : (jr32 v3 ∧ ((4 ≤ v3 → ((SHp s 6 v2) ∧ (∀ (s5 : Int → Int → Int), (RF (fun q => q = 6 ∨ q = 4) s s5 ∧ RG s5 6 (fo 4 (fun k v => if k = v2 then v else v * rv s (11 + k)) (rv s (7 + v2)))) → ((RG s5 6 (rv s5 6)) ∧ (∀ (s9 : Int → Int → Int), (RF (fun q => q = 0) s5 s9 ∧ RG s9 0 (rv s5 6)) → ((RG s9 5 (rv s9 5)) ∧ (∀ (s13 : Int → Int → Int), (RF (fun q => q = 1) s9 s13 ∧ RG s13 1 (rv s9 5)) → ((RG s13 0 (rv s13 0)) ∧ (RG s13 1 (rv s13 1)) ∧ (0 < rv s13 1) ∧ (∀ (s19 : Int → Int → Int), (RF (fun q => 0 ≤ q ∧ q ≤ 4) s13 s19 ∧ RG s19 0 (rv s13 0 / gc (rv s13 0) (rv s13 1)) ∧ RG s19 1 (rv s13 1 / gc (rv s13 0) (rv s13 1))) → Q (some (jI 1)) s19))))))))) ∧ (¬ (4 ≤ v3) → ((SHp s 6 v3) ∧ (∀ (s23 : Int → Int → Int), (RF (fun q => q = 6 ∨ q = 4) s s23 ∧ RG s23 6 (fo 4 (fun k v => if k = v3 then v else v * rv s (11 + k)) (rv s (7 + v3)))) → ((RG s23 5 (rv s23 5)) ∧ (RG s23 6 (rv s23 6)) ∧ (rv s23 5 < bp 49 ∧ rv s23 6 < bp 49) ∧ (∀ (s29 : Int → Int → Int), (RF (fun q => q = 5) s23 s29 ∧ RG s29 5 (rv s23 5 + rv s23 6)) → kK mX11_odds 45 [jR 143, jU, jI v2, jI (v3 + 1)] [] s29 Q)))))))) : kK mX11_odds 45 [jR 143, jU, jI v2, jI v3] [] s Q := by
  obtain ⟨a1, v⟩ := v
  refine k_iload_n dX11_odds_45 rfl ?_
  refine k_iconst dX11_odds_46 ?_
  obtain ⟨vt, vf⟩ := v
  refine k_icmp_ge 70 dX11_odds_47 rfl a1 (by decide) (fun c2 => ?_) (fun c2 => ?_)
  · have v := vt c2
    obtain ⟨a3, v⟩ := v
    refine k_aload_n dX11_odds_70 rfl ?_
    refine k_bipush dX11_odds_71 rfl ?_
    refine k_iload_n dX11_odds_73 rfl ?_
    refine k_invVR [jI 6, jI v2] [] dX11_odds_74 cm_X11_shares ml_X11_179 im_X11_shares se_X11_shares rfl sh_143 (by decide) rfl rfl (sp_X11_shares s 6 v2 a3) (fun _ s5 q6 => ?_)
    obtain ⟨rfl, q6⟩ := q6
    have v := v s5 q6
    obtain ⟨a7, v⟩ := v
    refine k_aload_n dX11_odds_77 rfl ?_
    refine k_iconst dX11_odds_78 ?_
    refine k_bipush dX11_odds_79 rfl ?_
    refine k_invVR [jI 0, jI 6] [] dX11_odds_81 cm_X11_takes ml_X11_95 im_X11_takes se_X11_takes rfl sh_143 (by decide) rfl rfl (sp_X11_takes s5 0 6 (by decide) a7) (fun _ s9 q10 => ?_)
    obtain ⟨rfl, q10⟩ := q10
    have v := v s9 q10
    obtain ⟨a11, v⟩ := v
    refine k_aload_n dX11_odds_84 rfl ?_
    refine k_iconst dX11_odds_85 ?_
    refine k_iconst dX11_odds_86 ?_
    refine k_invVR [jI 1, jI 5] [] dX11_odds_87 cm_X11_takes ml_X11_95 im_X11_takes se_X11_takes rfl sh_143 (by decide) rfl rfl (sp_X11_takes s9 1 5 (by decide) a11) (fun _ s13 q14 => ?_)
    obtain ⟨rfl, q14⟩ := q14
    have v := v s13 q14
    obtain ⟨a15, a16, a17, v⟩ := v
    refine k_aload_n dX11_odds_90 rfl ?_
    refine k_invVR [] [] dX11_odds_91 cm_X11_lowers ml_X11_117 im_X11_lowers se_X11_lowers rfl sh_143 (by decide) rfl rfl (sp_X11_lowers s13 a15 a16 a17) (fun _ s19 q20 => ?_)
    obtain ⟨rfl, q20⟩ := q20
    have v := v s19 q20
    refine k_iconst dX11_odds_94 ?_
    exact k_ireturn (st := []) dX11_odds_95 rfl v
  · have v := vf c2
    obtain ⟨a21, v⟩ := v
    refine k_aload_n dX11_odds_50 rfl ?_
    refine k_bipush dX11_odds_51 rfl ?_
    refine k_iload_n dX11_odds_53 rfl ?_
    refine k_invVR [jI 6, jI v3] [] dX11_odds_54 cm_X11_shares ml_X11_179 im_X11_shares se_X11_shares rfl sh_143 (by decide) rfl rfl (sp_X11_shares s 6 v3 a21) (fun _ s23 q24 => ?_)
    obtain ⟨rfl, q24⟩ := q24
    have v := v s23 q24
    obtain ⟨a25, a26, a27, v⟩ := v
    refine k_aload_n dX11_odds_57 rfl ?_
    refine k_iconst dX11_odds_58 ?_
    refine k_bipush dX11_odds_59 rfl ?_
    refine k_invVR [jI 5, jI 6] [] dX11_odds_61 cm_X11_adds ml_X11_182 im_X11_adds se_X11_adds rfl sh_143 (by decide) rfl rfl (sp_X11_adds s23 5 6 (by decide) a25 a26 a27) (fun _ s29 q30 => ?_)
    obtain ⟨rfl, q30⟩ := q30
    have v := v s29 q30
    refine k_iinc [jR 143, jU, jI v2, jI (v3 + 1)] dX11_odds_64 rfl rfl rfl ?_
    refine k_goto 45 dX11_odds_67 rfl ?_
    exact v
theorem g_X11_likeliest {s : Int → Int → Int} {Q : Option jV → (Int → Int → Int) → Prop} {v1 : Int} (v : (jr32 v1 ∧ (0 ≤ s 146 2 ∧ s 146 2 ≤ 1000) ∧ ((0 ≤ v1 ∧ v1 ≤ s 146 2 - 1 → ((DD s) ∧ jr32 (wf s v1) ∧ (((wf s v1) ≤ 12 → ((TFp s v1) ∧ (∀ (s9 : Int → Int → Int), (RF wgP s s9 ∧ ∀ g, 0 ≤ g → g < 4 → RG s9 (7 + g) (upr s v1 g) ∧ RG s9 (11 + g) (dnr s v1 g)) → ((SHp s9 5 0) ∧ (∀ (s13 : Int → Int → Int), (RF (fun q => q = 5 ∨ q = 4) s9 s13 ∧ RG s13 5 (fo 4 (fun k v => if k = 0 then v else v * rv s9 (11 + k)) (rv s9 (7 + 0)))) → kK mX11_likeliest 40 [jR 143, jU, jI 0, jI 1] [] s13 Q))))) ∧ (¬ ((wf s v1) ≤ 12) → Q (some (jI (-3))) s)))) ∧ (¬ (0 ≤ v1 ∧ v1 ≤ s 146 2 - 1) → Q (some (jI (-2))) s)))) : kR mX11_likeliest [jR 143, jI v1] s Q := by
  show kK mX11_likeliest 0 [jR 143, jI v1, jU, jU] [] s Q
  obtain ⟨a1, a2, v⟩ := v
  refine k_aload_n dX11_likeliest_0 rfl ?_
  refine k_iconst dX11_likeliest_1 ?_
  refine k_iload_n dX11_likeliest_2 rfl ?_
  refine k_invV [jI 2, jI v1] [] dX11_likeliest_3 cm_X11_is ml_X11_136 im_X11_is se_X11_is rfl sh_143 (by decide) rfl rfl (sp_X11_is s 2 v1 (by decide) a1 a2) ?_
  obtain ⟨vt, vf⟩ := v
  refine k_ifb_ne 12 dX11_likeliest_6 rfl (fun c3 => ?_) (fun c3 => ?_)
  · have v := vt c3
    obtain ⟨a4, a5, v⟩ := v
    refine k_aload_n dX11_likeliest_12 rfl ?_
    refine k_iload_n dX11_likeliest_13 rfl ?_
    refine k_invV [jI v1] [] dX11_likeliest_14 cm_X11_wordsOf ml_X11_173 im_X11_wordsOf se_X11_wordsOf rfl sh_143 (by decide) rfl rfl (sp_X11_wordsOf s v1 a4 a1) ?_
    refine k_bipush dX11_likeliest_17 rfl ?_
    obtain ⟨vt, vf⟩ := v
    refine k_icmp_le 25 dX11_likeliest_19 rfl a5 (by decide) (fun c6 => ?_) (fun c6 => ?_)
    · have v := vt c6
      obtain ⟨a7, v⟩ := v
      refine k_aload_n dX11_likeliest_25 rfl ?_
      refine k_iload_n dX11_likeliest_26 rfl ?_
      refine k_invVR [jI v1] [] dX11_likeliest_27 cm_X11_weighs ml_X11_176 im_X11_weighs se_X11_weighs rfl sh_143 (by decide) rfl rfl (sp_X11_weighs s v1 a7) (fun _ s9 q10 => ?_)
      obtain ⟨rfl, q10⟩ := q10
      have v := v s9 q10
      obtain ⟨a11, v⟩ := v
      refine k_iconst dX11_likeliest_30 ?_
      refine k_istore_n [jR 143, jI v1, jI 0, jU] dX11_likeliest_31 rfl rfl ?_
      refine k_aload_n dX11_likeliest_32 rfl ?_
      refine k_iconst dX11_likeliest_33 ?_
      refine k_iconst dX11_likeliest_34 ?_
      refine k_invVR [jI 5, jI 0] [] dX11_likeliest_35 cm_X11_shares ml_X11_179 im_X11_shares se_X11_shares rfl sh_143 (by decide) rfl rfl (sp_X11_shares s9 5 0 a11) (fun _ s13 q14 => ?_)
      obtain ⟨rfl, q14⟩ := q14
      have v := v s13 q14
      refine k_iconst dX11_likeliest_38 ?_
      refine k_istore_n [jR 143, jI v1, jI 0, jI 1] dX11_likeliest_39 rfl rfl ?_
      refine k_drop [jR 143, jU, jI 0, jI 1] ⟨Or.inr rfl, Or.inl rfl, Or.inr rfl, Or.inr rfl, trivial⟩ ?_
      exact v
    · have v := vf c6
      refine k_bipush dX11_likeliest_22 rfl ?_
      exact k_ireturn (st := []) dX11_likeliest_24 rfl v
  · have v := vf c3
    refine k_bipush dX11_likeliest_9 rfl ?_
    exact k_ireturn (st := []) dX11_likeliest_11 rfl v
theorem g_X11_likeliest_40 {s : Int → Int → Int} {Q : Option jV → (Int → Int → Int) → Prop} {v2 v3 : Int} (v : (jr32 v3 ∧ ((4 ≤ v3 → Q (some (jI v2)) s) ∧ (¬ (4 ≤ v3) → ((SHp s 6 v3) ∧ (∀ (s5 : Int → Int → Int), (RF (fun q => q = 6 ∨ q = 4) s s5 ∧ RG s5 6 (fo 4 (fun k v => if k = v3 then v else v * rv s (11 + k)) (rv s (7 + v3)))) → ((RG s5 6 (rv s5 6)) ∧ (RG s5 5 (rv s5 5)) ∧ (∀ (y9 : Int) (s10 : Int → Int → Int), (((y9 < 0 ↔ rv s5 6 < rv s5 5) ∧ (0 < y9 ↔ rv s5 5 < rv s5 6) ∧ jr32 y9) ∧ s10 = s5) → (jr32 y9 ∧ ((y9 ≤ 0 → kK mX11_likeliest 40 [jR 143, jU, jI v2, jI (v3 + 1)] [] s10 Q) ∧ (¬ (y9 ≤ 0) → ((RG s10 6 (rv s10 6)) ∧ (∀ (s16 : Int → Int → Int), (RF (fun q => q = 5) s10 s16 ∧ RG s16 5 (rv s10 6)) → kK mX11_likeliest 40 [jR 143, jU, jI v3, jI (v3 + 1)] [] s16 Q))))))))))))) : kK mX11_likeliest 40 [jR 143, jU, jI v2, jI v3] [] s Q := by
  obtain ⟨a1, v⟩ := v
  refine k_iload_n dX11_likeliest_40 rfl ?_
  refine k_iconst dX11_likeliest_41 ?_
  obtain ⟨vt, vf⟩ := v
  refine k_icmp_ge 77 dX11_likeliest_42 rfl a1 (by decide) (fun c2 => ?_) (fun c2 => ?_)
  · have v := vt c2
    refine k_iload_n dX11_likeliest_77 rfl ?_
    exact k_ireturn (st := []) dX11_likeliest_78 rfl v
  · have v := vf c2
    obtain ⟨a3, v⟩ := v
    refine k_aload_n dX11_likeliest_45 rfl ?_
    refine k_bipush dX11_likeliest_46 rfl ?_
    refine k_iload_n dX11_likeliest_48 rfl ?_
    refine k_invVR [jI 6, jI v3] [] dX11_likeliest_49 cm_X11_shares ml_X11_179 im_X11_shares se_X11_shares rfl sh_143 (by decide) rfl rfl (sp_X11_shares s 6 v3 a3) (fun _ s5 q6 => ?_)
    obtain ⟨rfl, q6⟩ := q6
    have v := v s5 q6
    obtain ⟨a7, a8, v⟩ := v
    refine k_aload_n dX11_likeliest_52 rfl ?_
    refine k_bipush dX11_likeliest_53 rfl ?_
    refine k_iconst dX11_likeliest_55 ?_
    refine k_invVR [jI 6, jI 5] [] dX11_likeliest_56 cm_X11_against ml_X11_107 im_X11_against se_X11_against rfl sh_143 (by decide) rfl rfl (sp_X11_against s5 6 5 (by decide) (by decide) a7 a8) (fun _ s10 q11 => ?_)
    obtain ⟨y9, rfl, q11⟩ := q11
    have v := v y9 s10 q11
    obtain ⟨a12, v⟩ := v
    obtain ⟨vt, vf⟩ := v
    refine k_if_le 71 dX11_likeliest_59 rfl a12 (fun c13 => ?_) (fun c13 => ?_)
    · have v := vt c13
      refine k_iinc [jR 143, jU, jI v2, jI (v3 + 1)] dX11_likeliest_71 rfl rfl rfl ?_
      refine k_goto 40 dX11_likeliest_74 rfl ?_
      exact v
    · have v := vf c13
      obtain ⟨a14, v⟩ := v
      refine k_iload_n dX11_likeliest_62 rfl ?_
      refine k_istore_n [jR 143, jU, jI v3, jI v3] dX11_likeliest_63 rfl rfl ?_
      refine k_aload_n dX11_likeliest_64 rfl ?_
      refine k_iconst dX11_likeliest_65 ?_
      refine k_bipush dX11_likeliest_66 rfl ?_
      refine k_invVR [jI 5, jI 6] [] dX11_likeliest_68 cm_X11_takes ml_X11_95 im_X11_takes se_X11_takes rfl sh_143 (by decide) rfl rfl (sp_X11_takes s10 5 6 (by decide) a14) (fun _ s16 q17 => ?_)
      obtain ⟨rfl, q17⟩ := q17
      have v := v s16 q17
      refine k_iinc [jR 143, jU, jI v3, jI (v3 + 1)] dX11_likeliest_71 rfl rfl rfl ?_
      refine k_goto 40 dX11_likeliest_74 rfl ?_
      exact v
theorem sh_p {s s1 : Int → Int → Int} {p r g : Int} (hp : TFp s p) (hr : r = 5 ∨ r = 6) (hg : 0 ≤ g ∧ g < 4) (h : ∀ g, 0 ≤ g → g < 4 → RG s1 (7 + g) (upr s p g) ∧ RG s1 (11 + g) (dnr s p g)) : SHp s1 r g ∧ fo 4 (fun k v => if k = g then v else v * rv s1 (11 + k)) (rv s1 (7 + g)) = shr s p g := by
  obtain ⟨⟨d, ib⟩, -, h12⟩ := hp
  obtain ⟨e0, e1, e2, e3⟩ := d.cnt
  refine ⟨⟨hr, hg, fun k k0 k1 => ?_⟩, ?_⟩
  · obtain ⟨x1, x2⟩ := h k k0 k1
    obtain ⟨y1, y2⟩ := upr_b d ib (p := p) (g := k) ⟨k0, k1⟩ h12
    rw [x1.rv, x2.rv]
    exact ⟨⟨x1, y1.2⟩, x2, y2.2⟩
  · rw [shr_ud s p g e3.2.1, (h g hg.1 hg.2).1.rv]
    exact fo_c (fun k k0 k1 v => by rw [(h k k0 k1).2.rv])
theorem shr_fr {s s' : Int → Int → Int} (f : ∀ k, 146 ≤ k → k ≤ 157 → s' k = s k) (p : Int) : shr s' p = shr s p := by
  funext g
  have eu : ucm s' = ucm s := ucm_fr (fun k hk => f k hk.1 (by omega))
  have ef : fcl s' p g = fcl s p g := by
    funext l k
    unfold fcl fup fdn
    rw [eu, f 146 (by omega) (by omega), f 152 (by omega) (by omega), f 156 (by omega) (by omega)]
  unfold shr pp ppl
  rw [ef, f 146 (by omega) (by omega), f 153 (by omega) (by omega), f 155 (by omega) (by omega), f 157 (by omega) (by omega)]
theorem wf_fr {s s' : Int → Int → Int} (f : ∀ k, 146 ≤ k → k ≤ 157 → s' k = s k) (p : Int) : wf s' p = wf s p := by
  unfold wf wfn
  rw [f 146 (by omega) (by omega), f 153 (by omega) (by omega), f 155 (by omega) (by omega)]
theorem cf_of (k : Int) (h : cfP k) : ofP k := Or.inl (by unfold cfP tlP at h; unfold jtmp jpers; omega)
theorem op_odds {S0 : Int → Int} {s : Int → Int → Int} (hI : Inv S0 s) (a1 a2 : Int) (h1 : jr32 a1) (h2 : jr32 a2) : jop mX10_odds mX11_odds [jI a1, jI a2] S0 s := by
  have d := hI.dd
  have ib := hI.2.2.1
  obtain ⟨e0, e1, e2, e3⟩ := d.cnt
  have wb := wf_b d a1
  by_cases c : (0 ≤ a1 ∧ a1 ≤ s 146 2 - 1) ∧ 0 ≤ a2 ∧ a2 ≤ 3
  · obtain ⟨c1, c2⟩ := c
    by_cases h12 : wf s a1 ≤ 12
    · have tf : TFp s a1 := ⟨⟨d, ib⟩, h1, h12⟩
      have sb : ∀ g, 0 ≤ g → g < 4 → 1 ≤ shr s a1 g ∧ shr s a1 g < bp 13 := fun g g0 g1 => shr_b d ib ⟨g0, g1⟩ h12
      have s4 : 1 ≤ sg 4 (shr s a1) := by
        have := sg_ge (n := 4) (k := 0) (f := shr s a1) (fun i i0 i1 => by have := sb i i0 i1; omega) (by omega) (by omega)
        have := sb 0 (by omega) (by omega)
        omega
      refine jop.f (shr s a1 a2 / gc (shr s a1 a2) (sg 4 (shr s a1))) (sg 4 (shr s a1) / gc (shr s a1 a2) (sg 4 (shr s a1))) hI (g_X10_odds ⟨h1, d.wc, fun q => absurd c1 (by omega), fun _ => ⟨h2, fun _ => ⟨d, by unfold jr32; omega, fun _ => ⟨tf, fun s10 q10 => ⟨by omega, ?_, fun s15 q15 => ?_⟩⟩, fun q => absurd h12 q⟩, fun q => absurd c2 q⟩⟩) (fun s1 f => ?_) trivial
      · obtain ⟨f10, b10, w10⟩ := q10
        have bg := b10 a2 c2.1 (by omega)
        have x := sb a2 c2.1 (by omega)
        unfold PBp
        rw [bg.bv, w10.bv]
        exact ⟨⟨by unfold xyP; omega, by unfold xyP; omega, by unfold xyP; omega⟩, bg, w10, x.1, s4, shr_SM d ib ⟨c2.1, by omega⟩⟩
      · obtain ⟨f10, b10, w10⟩ := q10
        have bg := b10 a2 c2.1 (by omega)
        rw [bg.bv, w10.bv] at q15
        exact ⟨rfl, fc_of f10 q15.1 cf_of, q15.2⟩
      · have fk : ∀ k, 146 ≤ k → k ≤ 157 → s1 k = s k := fun k k0 k1 => f k (fun c => by unfold ofP jtmp jpers at c; omega)
        have k146 := fk 146 (by omega) (by omega)
        have d1 : DD s1 := hI.ofd f
        have ib1 : IB s1 := ib.k (f 70 (fun c => by unfold ofP jtmp jpers at c; omega)) (fk 157 (by omega) (by omega))
        have tf1 : TFp s1 a1 := ⟨⟨d1, ib1⟩, h1, by rw [wf_fr fk]; exact h12⟩
        have es : shr s1 a1 = shr s a1 := shr_fr fk a1
        refine g_X11_odds ⟨h1, by rw [k146]; omega, fun q => absurd (by rw [k146]; exact c1) q, fun _ => ⟨h2, fun _ => ⟨d1, by rw [wf_fr fk]; unfold jr32; omega, fun _ => ⟨tf1, fun s9 q9 s12 q12 => ?_⟩, fun q => absurd (by rw [wf_fr fk]; exact h12) q⟩, fun q => absurd c2 q⟩⟩
        have b49 : bp 13 ≤ bp 16 := bp_le (by omega)
        have b16 : bp 16 ≤ bp 49 := bp_le (by omega)
        have b14 : bp 13 * 1073741824 ≤ bp 16 := by
          rw [← bp_s (by omega)]
          exact bp_le (by omega)
        have p13 := bp_pos 13
        have key : ∀ g, g ≤ 4 → 0 ≤ g → ∀ s2, RF (fun q => 4 ≤ q) s1 s2 → (∀ g, 0 ≤ g → g < 4 → RG s2 (7 + g) (upr s1 a1 g) ∧ RG s2 (11 + g) (dnr s1 a1 g)) → RG s2 5 (sg g (shr s a1)) → kK mX11_odds 45 [jR 143, jU, jI a2, jI g] [] s2 (fun r s' => r = some (jI 1) ∧ frm (fun k => k = 144 ∨ k = 145 ∨ jtmp k) s1 s' ∧ RG s' 0 (shr s a1 a2 / gc (shr s a1 a2) (sg 4 (shr s a1))) ∧ RG s' 1 (sg 4 (shr s a1) / gc (shr s a1 a2) (sg 4 (shr s a1)))) := by
          refine lp_up 4 _ (fun g hg ih g0 s2 f2 b2 w2' => ?_)
          refine g_X11_odds_45 ⟨by unfold jr32; omega, fun q => ?_, fun q => ?_⟩
          · obtain ⟨sp, ev⟩ := sh_p tf1 (r := 6) (g := a2) (Or.inr rfl) ⟨c2.1, by omega⟩ b2
            rw [es] at ev
            refine ⟨sp, fun s4 q4 => ?_⟩
            rw [ev] at q4
            have r6 := q4.2.rv
            have w4 := w2'.fr q4.1 (by omega)
            rw [r6]
            refine ⟨q4.2, fun s8 q8 => ?_⟩
            have w8 := w4.fr q8.1 (by omega)
            rw [w8.rv]
            refine ⟨w8, fun s12 q12 => ?_⟩
            have z0 := q8.2.fr q12.1 (by omega)
            rw [z0.rv, q12.2.rv, show g = 4 by omega]
            rw [show g = 4 by omega] at q12
            refine ⟨z0, q12.2, by omega, fun s18 q18 => ⟨rfl, rf_mf (P := fun _ => True) ((((f2.wk (fun _ _ => trivial)).tr (q4.1.wk (fun _ _ => trivial))).tr (q8.1.wk (fun _ _ => trivial))).tr ((q12.1.wk (fun _ _ => trivial)).tr (q18.1.wk (fun _ _ => trivial)))), q18.2.1, q18.2.2⟩⟩
          · obtain ⟨sp, ev⟩ := sh_p tf1 (r := 6) (g := g) (Or.inr rfl) ⟨g0, by omega⟩ b2
            rw [es] at ev
            refine ⟨sp, fun s21 q21 => ?_⟩
            rw [ev] at q21
            have w21 := w2'.fr q21.1 (by omega)
            rw [w21.rv, q21.2.rv]
            have sum := sg_b (n := g) (f := shr s a1) (a := 0) (b := bp 13) g0 (fun i i0 i1 => by have := sb i i0 (by omega); omega)
            have sum2 : g * bp 13 ≤ 4 * bp 13 := Int.mul_le_mul_of_nonneg_right hg (by omega)
            have x := sb g g0 (by omega)
            refine ⟨w21, q21.2, by omega, fun s24 q24 => ?_⟩
            refine ih (by omega) (by omega) s24 ((f2.tr (q21.1.wk (fun q e => by omega))).tr (q24.1.wk (fun q e => by omega))) (fun g' a0 a1 => ?_) (by rw [sg_s g0]; exact q24.2)
            obtain ⟨y1, y2⟩ := b2 g' a0 a1
            exact ⟨(y1.fr q21.1 (by omega)).fr q24.1 (by omega), (y2.fr q21.1 (by omega)).fr q24.1 (by omega)⟩
        refine key 0 (by omega) (by omega) s12 ((q9.1.wk (fun q e => by unfold wgP at e; omega)).tr (q12.1.wk (fun q e => by omega))) (fun g g0 g1 => ?_) (by rw [sg_0]; exact q12.2)
        obtain ⟨y1, y2⟩ := q9.2 g g0 g1
        exact ⟨y1.fr q12.1 (by omega), y2.fr q12.1 (by omega)⟩
    · exact jop.q (y := -3) hI (by decide) (g_X10_odds ⟨h1, d.wc, fun q => absurd c1 (by omega), fun _ => ⟨h2, fun _ => ⟨d, by unfold jr32; omega, fun q => absurd q h12, fun _ => ⟨rfl, rfl⟩⟩, fun q => absurd c2 q⟩⟩)
        (g_X11_odds ⟨h1, by omega, fun q => absurd c1 q, fun _ => ⟨h2, fun _ => ⟨d, by unfold jr32; omega, fun q => absurd q h12, fun _ => ⟨rfl, rfl⟩⟩, fun q => absurd c2 q⟩⟩)
  · exact jop.q (y := -2) hI (by decide) (g_X10_odds ⟨h1, d.wc, fun _ => ⟨rfl, rfl⟩, fun c1 => ⟨h2, fun c2 => absurd ⟨by omega, c2⟩ c, fun _ => ⟨rfl, rfl⟩⟩⟩)
      (g_X11_odds ⟨h1, by omega, fun _ => ⟨rfl, rfl⟩, fun c1 => ⟨h2, fun c2 => absurd ⟨c1, c2⟩ c, fun _ => ⟨rfl, rfl⟩⟩⟩)
theorem grt_c {f g : Int → Int} : ∀ n, 0 ≤ n → (∀ i, 0 ≤ i → i ≤ n → f i = g i) → grt f n = grt g n := by
  refine in_up _ (fun _ => rfl) (fun n hn ih e => ?_)
  have i := ih (fun i i0 i1 => e i i0 (by omega))
  have b := grt_b g n hn
  rw [grt_s f hn, grt_s g hn, i, e _ b.1 (by omega), e (1 + n) (by omega) (by omega)]
/-- what is left as it was in the invariant's cells but the registers above the fraction's -/
theorem IF.regs {s s' : Int → Int → Int} (h : IF s) (f : RF (fun q => 4 ≤ q) s s') : IF s' := by
  have e0 := f.2 0 (by omega)
  have e1 := f.2 1 (by omega)
  obtain ⟨⟨h1, h1a, h1b⟩, ⟨h2, h2a, h2b⟩, h3, h4, h5, h6⟩ := h
  have r0 : ∀ i, 0 ≤ i → i < 50 → s' 144 i = s 144 i := fun i i0 i1 => by
    have := e0.2 i i0 i1
    unfold rg at this
    rw [show 50 * 0 + i = i by omega] at this
    exact this
  have r1 : ∀ i, 0 ≤ i → i < 50 → s' 144 (50 + i) = s 144 (50 + i) := fun i i0 i1 => by
    have := e1.2 i i0 i1
    unfold rg at this
    rw [show 50 * 1 + i = 50 + i by omega] at this
    exact this
  have c : ∀ k, 139 ≤ k → k ≤ 142 → s' k = s k := fun k k0 k1 => f.1 k (by omega) (by omega)
  unfold IF
  rw [c 139 (by omega) (by omega), c 140 (by omega) (by omega), c 141 (by omega) (by omega), c 142 (by omega) (by omega), e0.1, e1.1]
  exact ⟨⟨h1, h1a, h1b⟩, ⟨h2, h2a, h2b⟩, fun i i0 i1 => by rw [r0 i i0 (by omega)]; exact h3 i i0 i1, fun i i0 i1 => (h4 i i0 i1).trans (r1 i i0 (by omega)).symm, fun i i0 i1 => by rw [r0 i i0 (by omega)]; exact h5 i i0 i1, fun i i0 i1 => by
    have := h6 i i0 i1
    show 0 ≤ s' 144 (50 + i) ∧ s' 144 (50 + i) ≤ 1073741823
    rw [r1 i i0 (by omega)]
    exact this⟩
theorem op_likeliest {S0 : Int → Int} {s : Int → Int → Int} (hI : Inv S0 s) (a1 : Int) (h1 : jr32 a1) : jop mX10_likeliest mX11_likeliest [jI a1] S0 s := by
  have d := hI.dd
  have ib := hI.2.2.1
  obtain ⟨e0, e1, e2, e3⟩ := d.cnt
  have wb := wf_b d a1
  by_cases c1 : 0 ≤ a1 ∧ a1 ≤ s 146 2 - 1
  · by_cases h12 : wf s a1 ≤ 12
    · have tf : TFp s a1 := ⟨⟨d, ib⟩, h1, h12⟩
      have gb := grt_b (shr s a1) 3 (by omega)
      refine jop.rr (fun y => y = grt (shr s a1) 3) (fun s1 => frm cfP s s1) (fun a b p q => p.trans q.symm) (fun a p => by rw [p]; unfold jr32; omega) (fun s1 f => (f 0 (by unfold cfP tlP; omega)).trans hI.1) (g_X10_likeliest ⟨h1, d.wc, fun _ => ⟨d, by unfold jr32; omega, fun _ => ⟨tf, fun s8 q8 => ⟨fun g g0 g1 => (q8.2.1 g g0 g1).me, _, rfl, ?_, q8.1⟩⟩, fun q => absurd h12 q⟩, fun q => absurd c1 (by omega)⟩) (fun s1 f => ?_)
      · exact grt_c 3 (by omega) (fun i i0 i1 => (q8.2.1 i i0 (by omega)).bv)
      · have i1 : Inv S0 s1 := hI.fr (fun k hk => f k (fun c => hk (by unfold cfP tlP at c; unfold jtmp jpers; omega)))
        have fk : ∀ k, 146 ≤ k → k ≤ 157 → s1 k = s k := fun k k0 k1 => f k (by unfold cfP tlP; omega)
        have k146 := fk 146 (by omega) (by omega)
        have tf1 : TFp s1 a1 := ⟨⟨i1.dd, i1.2.2.1⟩, h1, by rw [wf_fr fk]; exact h12⟩
        have es : shr s1 a1 = shr s a1 := shr_fr fk a1
        refine g_X11_likeliest ⟨h1, by rw [k146]; omega, fun _ => ⟨i1.dd, by rw [wf_fr fk]; unfold jr32; omega, fun _ => ⟨tf1, fun s7 q7 => ?_⟩, fun q => absurd (by rw [wf_fr fk]; exact h12) q⟩, fun q => absurd (by rw [k146]; exact c1) q⟩
        have fin : ∀ s2, RF (fun q => 4 ≤ q) s1 s2 → Inv S0 s2 := fun s2 f2 => i1.frac (fun k hk => f2.1 k (fun c => hk (Or.inr (Or.inl c))) (fun c => hk (Or.inr (Or.inr c)))) (IF.regs i1.2.2.2.2.2.2.1 f2)
        have key : ∀ n, n ≤ 3 → 0 ≤ n → ∀ s2, RF (fun q => 4 ≤ q) s1 s2 → (∀ g, 0 ≤ g → g < 4 → RG s2 (7 + g) (upr s1 a1 g) ∧ RG s2 (11 + g) (dnr s1 a1 g)) → RG s2 5 (shr s a1 (grt (shr s a1) n)) → kK mX11_likeliest 40 [jR 143, jU, jI (grt (shr s a1) n), jI (1 + n)] [] s2 (fun r s' => ∃ y, r = some (jI y) ∧ y = grt (shr s a1) 3 ∧ Inv S0 s') := by
          refine lp_up 3 _ (fun n hn ih n0 s2 f2 b2 w2' => ?_)
          refine g_X11_likeliest_40 ⟨by unfold jr32; omega, fun q => ⟨_, rfl, by rw [show n = 3 by omega], fin s2 f2⟩, fun q => ?_⟩
          obtain ⟨sp, ev⟩ := sh_p tf1 (r := 6) (g := 1 + n) (Or.inr rfl) ⟨by omega, by omega⟩ b2
          rw [es] at ev
          refine ⟨sp, fun s4 q4 => ?_⟩
          rw [ev] at q4
          have w4 := w2'.fr q4.1 (by omega)
          refine ⟨q4.2.me, w4.me, fun y s9 q9 => ?_⟩
          obtain ⟨⟨y1, y2, y3⟩, rfl⟩ := q9
          rw [q4.2.rv, w4.rv] at y1 y2
          have f4 : RF (fun q => 4 ≤ q) s1 s9 := f2.tr (q4.1.wk (fun q e => by omega))
          have b4 : ∀ g, 0 ≤ g → g < 4 → RG s9 (7 + g) (upr s1 a1 g) ∧ RG s9 (11 + g) (dnr s1 a1 g) := fun g g0 g1 => by
            obtain ⟨z1, z2⟩ := b2 g g0 g1
            exact ⟨z1.fr q4.1 (by omega), z2.fr q4.1 (by omega)⟩
          refine ⟨y3, fun c => ?_, fun c => ⟨q4.2.me, fun s15 q15 => ?_⟩⟩
          · have := ih (by omega) (by omega) s9 f4 b4
            rw [grt_s _ n0, if_neg (by omega)] at this
            rw [Int.add_assoc]
            exact this w4
          · rw [q4.2.rv] at q15
            have := ih (by omega) (by omega) s15 (f4.tr (q15.1.wk (fun q e => by omega))) (fun g g0 g1 => by
              obtain ⟨z1, z2⟩ := b4 g g0 g1
              exact ⟨z1.fr q15.1 (by omega), z2.fr q15.1 (by omega)⟩)
            rw [grt_s _ n0, if_pos (by omega)] at this
            rw [Int.add_assoc]
            exact this q15.2
        obtain ⟨sp, ev⟩ := sh_p tf1 (r := 5) (g := 0) (Or.inl rfl) ⟨by omega, by omega⟩ q7.2
        rw [es] at ev
        refine ⟨sp, fun s10 q10 => ?_⟩
        rw [ev] at q10
        exact key 0 (by omega) (by omega) s10 ((q7.1.wk (fun q e => by unfold wgP at e; omega)).tr (q10.1.wk (fun q e => by omega))) (fun g g0 g1 => by
          obtain ⟨z1, z2⟩ := q7.2 g g0 g1
          exact ⟨z1.fr q10.1 (by omega), z2.fr q10.1 (by omega)⟩) q10.2
    · exact jop.q (y := -3) hI (by decide) (g_X10_likeliest ⟨h1, d.wc, fun _ => ⟨d, by unfold jr32; omega, fun q => absurd q h12, fun _ => ⟨rfl, rfl⟩⟩, fun q => absurd c1 (by omega)⟩)
        (g_X11_likeliest ⟨h1, by omega, fun _ => ⟨d, by unfold jr32; omega, fun q => absurd q h12, fun _ => ⟨rfl, rfl⟩⟩, fun q => absurd c1 q⟩)
  · exact jop.q (y := -2) hI (by decide) (g_X10_likeliest ⟨h1, d.wc, fun c => absurd (by omega) c1, fun _ => ⟨rfl, rfl⟩⟩)
      (g_X11_likeliest ⟨h1, by omega, fun c => absurd c c1, fun _ => ⟨rfl, rfl⟩⟩)
