theorem g_X11_times {s : Int → Int → Int} {Q : Option jV → (Int → Int → Int) → Prop} {v1 v2 : Int} (v : kK mX11_times 5 [jR 143, jI v1, jI v2, jL 0, jU, jI 0, jU, jU] [] s Q) : kR mX11_times [jR 143, jI v1, jI v2] s Q := by
  show kK mX11_times 0 [jR 143, jI v1, jI v2, jU, jU, jU, jU, jU] [] s Q
  refine k_lconst 0 dX11_times_0 rfl ?_
  refine k_lstore_n [jR 143, jI v1, jI v2, jL 0, jU, jU, jU, jU] dX11_times_1 rfl rfl ?_
  refine k_iconst dX11_times_2 ?_
  refine k_istore [jR 143, jI v1, jI v2, jL 0, jU, jI 0, jU, jU] dX11_times_3 rfl rfl ?_
  exact v
theorem g_X11_times_5 {s : Int → Int → Int} {Q : Option jV → (Int → Int → Int) → Prop} {v1 v2 v3 v5 : Int} (v : ((0 ≤ v1 ∧ v1 < 15) ∧ jr32 v5 ∧ jr32 (s 145 v1) ∧ (((s 145 v1) ≤ v5 → (jr64 v3 ∧ ((v3 ≤ 0 → ((PG s v1 (rv s v1)) ∧ (∀ (s9 : Int → Int → Int), (RF (fun q => q = v1) s s9 ∧ RG s9 v1 (rv s v1)) → Q none s9))) ∧ (¬ (v3 ≤ 0) → ((0 ≤ ((50 * v1) + (s 145 v1)) ∧ ((50 * v1) + (s 145 v1)) < 750) ∧ (PG (w2 (w2 s 144 ((50 * v1) + (s 145 v1)) v3) 145 v1 ((s 145 v1) + 1)) v1 (rv (w2 (w2 s 144 ((50 * v1) + (s 145 v1)) v3) 145 v1 ((s 145 v1) + 1)) v1)) ∧ (∀ (s14 : Int → Int → Int), (RF (fun q => q = v1) (w2 (w2 s 144 ((50 * v1) + (s 145 v1)) v3) 145 v1 ((s 145 v1) + 1)) s14 ∧ RG s14 v1 (rv (w2 (w2 s 144 ((50 * v1) + (s 145 v1)) v3) 145 v1 ((s 145 v1) + 1)) v1)) → Q none s14)))))) ∧ (¬ ((s 145 v1) ≤ v5) → ((0 ≤ ((50 * v1) + v5) ∧ ((50 * v1) + v5) < 750) ∧ jr32 (s 144 ((50 * v1) + v5)) ∧ jr32 v2 ∧ jr64 (((s 144 ((50 * v1) + v5)) * v2) + v3) ∧ kK mX11_times 5 [jR 143, jI v1, jI v2, jL ((((s 144 ((50 * v1) + v5)) * v2) + v3) / 2 ^ Int.toNat 30), jU, jI (v5 + 1), jU, jU] [] (w2 s 144 ((50 * v1) + v5) ((((s 144 ((50 * v1) + v5)) * v2) + v3) % 1073741824)) Q))))) : kK mX11_times 5 [jR 143, jI v1, jI v2, jL v3, jU, jI v5, jU, jU] [] s Q := by
  obtain ⟨a1, a2, a3, v⟩ := v
  refine k_iload dX11_times_5 rfl ?_
  refine k_aload_n dX11_times_7 rfl ?_
  refine k_getr dX11_times_8 fl_X11_13 sh_143 (by decide) rfl ?_
  refine k_iload_n dX11_times_11 rfl ?_
  refine k_iald 15 dX11_times_12 sh_145 (by decide) rfl (by decide) a1 ?_
  obtain ⟨vt, vf⟩ := v
  refine k_icmp_ge 67 dX11_times_13 rfl a2 a3 (fun c4 => ?_) (fun c4 => ?_)
  · have v := vt c4
    obtain ⟨a5, v⟩ := v
    refine k_lload_n dX11_times_67 rfl ?_
    refine k_lconst 0 dX11_times_68 rfl ?_
    obtain ⟨vt, vf⟩ := v
    refine k_lcmp_if_le 101 dX11_times_69 dX11_times_70 rfl a5 (by decide) (fun c6 => ?_) (fun c6 => ?_)
    · have v := vt c6
      obtain ⟨a7, v⟩ := v
      refine k_aload_n dX11_times_101 rfl ?_
      refine k_iload_n dX11_times_102 rfl ?_
      refine k_invVR [jI v1] [] dX11_times_103 cm_X11_trims ml_X11_91 im_X11_trims se_X11_trims rfl sh_143 (by decide) rfl rfl (sp_X11_trims s v1 a1 a7) (fun _ s9 q10 => ?_)
      obtain ⟨rfl, q10⟩ := q10
      have v := v s9 q10
      exact k_return (st := []) dX11_times_106 rfl v
    · have v := vf c6
      obtain ⟨a11, a12, v⟩ := v
      refine k_aload_n dX11_times_73 rfl ?_
      refine k_getr dX11_times_74 fl_X11_7 sh_143 (by decide) rfl ?_
      refine k_bipush dX11_times_77 rfl ?_
      refine k_iload_n dX11_times_79 rfl ?_
      refine k_imul dX11_times_80 ?_
      refine k_aload_n dX11_times_81 rfl ?_
      refine k_getr dX11_times_82 fl_X11_13 sh_143 (by decide) rfl ?_
      refine k_iload_n dX11_times_85 rfl ?_
      refine k_iald 15 dX11_times_86 sh_145 (by decide) rfl (by decide) a1 ?_
      refine k_iadd dX11_times_87 ?_
      refine k_lload_n dX11_times_88 rfl ?_
      refine k_l2i dX11_times_89 ?_
      refine k_iast 750 dX11_times_90 sh_144 (by decide) rfl (by decide) a11 ?_
      refine k_aload_n dX11_times_91 rfl ?_
      refine k_getr dX11_times_92 fl_X11_13 sh_143 (by decide) rfl ?_
      refine k_iload_n dX11_times_95 rfl ?_
      refine k_dup2 dX11_times_96 rfl ?_
      refine k_iald 15 dX11_times_97 sh_145 (by decide) rfl (by decide) a1 ?_
      rw [show ((w2 s 144 ((50 * v1) + (s 145 v1)) v3) 145 v1) = (s 145 v1) from by rw [w2_k (by omega)]]
      refine k_iconst dX11_times_98 ?_
      refine k_iadd dX11_times_99 ?_
      refine k_iast 15 dX11_times_100 sh_145 (by decide) rfl (by decide) a1 ?_
      refine k_aload_n dX11_times_101 rfl ?_
      refine k_iload_n dX11_times_102 rfl ?_
      refine k_invVR [jI v1] [] dX11_times_103 cm_X11_trims ml_X11_91 im_X11_trims se_X11_trims rfl sh_143 (by decide) rfl rfl (sp_X11_trims (w2 (w2 s 144 ((50 * v1) + (s 145 v1)) v3) 145 v1 ((s 145 v1) + 1)) v1 a1 a12) (fun _ s14 q15 => ?_)
      obtain ⟨rfl, q15⟩ := q15
      have v := v s14 q15
      exact k_return (st := []) dX11_times_106 rfl v
  · have v := vf c4
    obtain ⟨a16, a17, a18, a19, v⟩ := v
    refine k_aload_n dX11_times_16 rfl ?_
    refine k_getr dX11_times_17 fl_X11_7 sh_143 (by decide) rfl ?_
    refine k_bipush dX11_times_20 rfl ?_
    refine k_iload_n dX11_times_22 rfl ?_
    refine k_imul dX11_times_23 ?_
    refine k_iload dX11_times_24 rfl ?_
    refine k_iadd dX11_times_26 ?_
    refine k_iald 750 dX11_times_27 sh_144 (by decide) rfl (by decide) a16 ?_
    refine k_i2l dX11_times_28 a17 ?_
    refine k_iload_n dX11_times_29 rfl ?_
    refine k_i2l dX11_times_30 a18 ?_
    refine k_lmul dX11_times_31 ?_
    refine k_lload_n dX11_times_32 rfl ?_
    refine k_ladd dX11_times_33 ?_
    refine k_lstore [jR 143, jI v1, jI v2, jL v3, jU, jI v5, jL (((s 144 ((50 * v1) + v5)) * v2) + v3), jU] dX11_times_34 rfl rfl ?_
    refine k_aload_n dX11_times_36 rfl ?_
    refine k_getr dX11_times_37 fl_X11_7 sh_143 (by decide) rfl ?_
    refine k_bipush dX11_times_40 rfl ?_
    refine k_iload_n dX11_times_42 rfl ?_
    refine k_imul dX11_times_43 ?_
    refine k_iload dX11_times_44 rfl ?_
    refine k_iadd dX11_times_46 ?_
    refine k_lload dX11_times_47 rfl ?_
    refine k_ldc2 (1073741823) (1073741823) dX11_times_49 kl_X11_89 rfl ?_
    refine k_andML dX11_times_52 ?_
    refine k_l2i dX11_times_53 ?_
    refine k_iast 750 dX11_times_54 sh_144 (by decide) rfl (by decide) a16 ?_
    refine k_lload dX11_times_55 rfl ?_
    refine k_bipush dX11_times_57 rfl ?_
    refine k_shrL dX11_times_59 a19 (by decide) ?_
    refine k_lstore_n [jR 143, jI v1, jI v2, jL ((((s 144 ((50 * v1) + v5)) * v2) + v3) / 2 ^ Int.toNat 30), jU, jI v5, jL (((s 144 ((50 * v1) + v5)) * v2) + v3), jU] dX11_times_60 rfl rfl ?_
    refine k_iinc [jR 143, jI v1, jI v2, jL ((((s 144 ((50 * v1) + v5)) * v2) + v3) / 2 ^ Int.toNat 30), jU, jI (v5 + 1), jL (((s 144 ((50 * v1) + v5)) * v2) + v3), jU] dX11_times_61 rfl rfl rfl ?_
    refine k_goto 5 dX11_times_64 rfl ?_
    refine k_drop [jR 143, jI v1, jI v2, jL ((((s 144 ((50 * v1) + v5)) * v2) + v3) / 2 ^ Int.toNat 30), jU, jI (v5 + 1), jU, jU] ⟨Or.inr rfl, Or.inr rfl, Or.inr rfl, Or.inr rfl, Or.inr rfl, Or.inr rfl, Or.inl rfl, Or.inr rfl, trivial⟩ ?_
    exact v
theorem g_X11_adds {s : Int → Int → Int} {Q : Option jV → (Int → Int → Int) → Prop} {v1 v2 : Int} (v : ((0 ≤ v1 ∧ v1 < 15) ∧ (0 ≤ v2 ∧ v2 < 15) ∧ jr32 (s 145 v1) ∧ jr32 (s 145 v2) ∧ (((s 145 v1) ≤ (s 145 v2) → kK mX11_adds 37 [jR 143, jI v1, jI v2, jI 0, jI (s 145 v2), jI 0, jU] [] s Q) ∧ (¬ ((s 145 v1) ≤ (s 145 v2)) → kK mX11_adds 37 [jR 143, jI v1, jI v2, jI 0, jI (s 145 v1), jI 0, jU] [] s Q)))) : kR mX11_adds [jR 143, jI v1, jI v2] s Q := by
  show kK mX11_adds 0 [jR 143, jI v1, jI v2, jU, jU, jU, jU] [] s Q
  obtain ⟨a1, a2, a3, a4, v⟩ := v
  refine k_iconst dX11_adds_0 ?_
  refine k_istore_n [jR 143, jI v1, jI v2, jI 0, jU, jU, jU] dX11_adds_1 rfl rfl ?_
  refine k_aload_n dX11_adds_2 rfl ?_
  refine k_getr dX11_adds_3 fl_X11_13 sh_143 (by decide) rfl ?_
  refine k_iload_n dX11_adds_6 rfl ?_
  refine k_iald 15 dX11_adds_7 sh_145 (by decide) rfl (by decide) a1 ?_
  refine k_aload_n dX11_adds_8 rfl ?_
  refine k_getr dX11_adds_9 fl_X11_13 sh_143 (by decide) rfl ?_
  refine k_iload_n dX11_adds_12 rfl ?_
  refine k_iald 15 dX11_adds_13 sh_145 (by decide) rfl (by decide) a2 ?_
  obtain ⟨vt, vf⟩ := v
  refine k_icmp_le 26 dX11_adds_14 rfl a3 a4 (fun c5 => ?_) (fun c5 => ?_)
  · have v := vt c5
    refine k_aload_n dX11_adds_26 rfl ?_
    refine k_getr dX11_adds_27 fl_X11_13 sh_143 (by decide) rfl ?_
    refine k_iload_n dX11_adds_30 rfl ?_
    refine k_iald 15 dX11_adds_31 sh_145 (by decide) rfl (by decide) a2 ?_
    refine k_istore [jR 143, jI v1, jI v2, jI 0, jI (s 145 v2), jU, jU] dX11_adds_32 rfl rfl ?_
    refine k_iconst dX11_adds_34 ?_
    refine k_istore [jR 143, jI v1, jI v2, jI 0, jI (s 145 v2), jI 0, jU] dX11_adds_35 rfl rfl ?_
    exact v
  · have v := vf c5
    refine k_aload_n dX11_adds_17 rfl ?_
    refine k_getr dX11_adds_18 fl_X11_13 sh_143 (by decide) rfl ?_
    refine k_iload_n dX11_adds_21 rfl ?_
    refine k_iald 15 dX11_adds_22 sh_145 (by decide) rfl (by decide) a1 ?_
    refine k_goto 32 dX11_adds_23 rfl ?_
    refine k_istore [jR 143, jI v1, jI v2, jI 0, jI (s 145 v1), jU, jU] dX11_adds_32 rfl rfl ?_
    refine k_iconst dX11_adds_34 ?_
    refine k_istore [jR 143, jI v1, jI v2, jI 0, jI (s 145 v1), jI 0, jU] dX11_adds_35 rfl rfl ?_
    exact v
theorem g_X11_adds_37 {s : Int → Int → Int} {Q : Option jV → (Int → Int → Int) → Prop} {v1 v2 v3 v4 v5 : Int} (v : (jr32 v5 ∧ jr32 v4 ∧ ((v4 ≤ v5 → ((0 ≤ ((50 * v1) + v4) ∧ ((50 * v1) + v4) < 750) ∧ (0 ≤ v1 ∧ v1 < 15) ∧ (PG (w2 (w2 s 144 ((50 * v1) + v4) v3) 145 v1 (v4 + v3)) v1 (rv (w2 (w2 s 144 ((50 * v1) + v4) v3) 145 v1 (v4 + v3)) v1)) ∧ (∀ (s8 : Int → Int → Int), (RF (fun q => q = v1) (w2 (w2 s 144 ((50 * v1) + v4) v3) 145 v1 (v4 + v3)) s8 ∧ RG s8 v1 (rv (w2 (w2 s 144 ((50 * v1) + v4) v3) 145 v1 (v4 + v3)) v1)) → Q none s8))) ∧ (¬ (v4 ≤ v5) → ((0 ≤ ((50 * v1) + v5) ∧ ((50 * v1) + v5) < 750) ∧ (0 ≤ ((50 * v2) + v5) ∧ ((50 * v2) + v5) < 750) ∧ (0 ≤ (((s 144 ((50 * v1) + v5)) + (s 144 ((50 * v2) + v5))) + v3) ∧ (((s 144 ((50 * v1) + v5)) + (s 144 ((50 * v2) + v5))) + v3) ≤ 2147483647) ∧ kK mX11_adds 37 [jR 143, jI v1, jI v2, jI ((((s 144 ((50 * v1) + v5)) + (s 144 ((50 * v2) + v5))) + v3) / 2 ^ Int.toNat 30), jI v4, jI (v5 + 1), jU] [] (w2 s 144 ((50 * v1) + v5) ((((s 144 ((50 * v1) + v5)) + (s 144 ((50 * v2) + v5))) + v3) % 1073741824)) Q))))) : kK mX11_adds 37 [jR 143, jI v1, jI v2, jI v3, jI v4, jI v5, jU] [] s Q := by
  obtain ⟨a1, a2, v⟩ := v
  refine k_iload dX11_adds_37 rfl ?_
  refine k_iload dX11_adds_39 rfl ?_
  obtain ⟨vt, vf⟩ := v
  refine k_icmp_ge 102 dX11_adds_41 rfl a1 a2 (fun c3 => ?_) (fun c3 => ?_)
  · have v := vt c3
    obtain ⟨a4, a5, a6, v⟩ := v
    refine k_aload_n dX11_adds_102 rfl ?_
    refine k_getr dX11_adds_103 fl_X11_7 sh_143 (by decide) rfl ?_
    refine k_bipush dX11_adds_106 rfl ?_
    refine k_iload_n dX11_adds_108 rfl ?_
    refine k_imul dX11_adds_109 ?_
    refine k_iload dX11_adds_110 rfl ?_
    refine k_iadd dX11_adds_112 ?_
    refine k_iload_n dX11_adds_113 rfl ?_
    refine k_iast 750 dX11_adds_114 sh_144 (by decide) rfl (by decide) a4 ?_
    refine k_aload_n dX11_adds_115 rfl ?_
    refine k_getr dX11_adds_116 fl_X11_13 sh_143 (by decide) rfl ?_
    refine k_iload_n dX11_adds_119 rfl ?_
    refine k_iload dX11_adds_120 rfl ?_
    refine k_iload_n dX11_adds_122 rfl ?_
    refine k_iadd dX11_adds_123 ?_
    refine k_iast 15 dX11_adds_124 sh_145 (by decide) rfl (by decide) a5 ?_
    refine k_aload_n dX11_adds_125 rfl ?_
    refine k_iload_n dX11_adds_126 rfl ?_
    refine k_invVR [jI v1] [] dX11_adds_127 cm_X11_trims ml_X11_91 im_X11_trims se_X11_trims rfl sh_143 (by decide) rfl rfl (sp_X11_trims (w2 (w2 s 144 ((50 * v1) + v4) v3) 145 v1 (v4 + v3)) v1 a5 a6) (fun _ s8 q9 => ?_)
    obtain ⟨rfl, q9⟩ := q9
    have v := v s8 q9
    exact k_return (st := []) dX11_adds_130 rfl v
  · have v := vf c3
    obtain ⟨a10, a11, a12, v⟩ := v
    refine k_aload_n dX11_adds_44 rfl ?_
    refine k_getr dX11_adds_45 fl_X11_7 sh_143 (by decide) rfl ?_
    refine k_bipush dX11_adds_48 rfl ?_
    refine k_iload_n dX11_adds_50 rfl ?_
    refine k_imul dX11_adds_51 ?_
    refine k_iload dX11_adds_52 rfl ?_
    refine k_iadd dX11_adds_54 ?_
    refine k_iald 750 dX11_adds_55 sh_144 (by decide) rfl (by decide) a10 ?_
    refine k_aload_n dX11_adds_56 rfl ?_
    refine k_getr dX11_adds_57 fl_X11_7 sh_143 (by decide) rfl ?_
    refine k_bipush dX11_adds_60 rfl ?_
    refine k_iload_n dX11_adds_62 rfl ?_
    refine k_imul dX11_adds_63 ?_
    refine k_iload dX11_adds_64 rfl ?_
    refine k_iadd dX11_adds_66 ?_
    refine k_iald 750 dX11_adds_67 sh_144 (by decide) rfl (by decide) a11 ?_
    refine k_iadd dX11_adds_68 ?_
    refine k_iload_n dX11_adds_69 rfl ?_
    refine k_iadd dX11_adds_70 ?_
    refine k_istore [jR 143, jI v1, jI v2, jI v3, jI v4, jI v5, jI (((s 144 ((50 * v1) + v5)) + (s 144 ((50 * v2) + v5))) + v3)] dX11_adds_71 rfl rfl ?_
    refine k_aload_n dX11_adds_73 rfl ?_
    refine k_getr dX11_adds_74 fl_X11_7 sh_143 (by decide) rfl ?_
    refine k_bipush dX11_adds_77 rfl ?_
    refine k_iload_n dX11_adds_79 rfl ?_
    refine k_imul dX11_adds_80 ?_
    refine k_iload dX11_adds_81 rfl ?_
    refine k_iadd dX11_adds_83 ?_
    refine k_iload dX11_adds_84 rfl ?_
    refine k_ldc (1073741823) (1073741823) dX11_adds_86 ki_X11_99 rfl ?_
    refine k_andM dX11_adds_88 ?_
    refine k_iast 750 dX11_adds_89 sh_144 (by decide) rfl (by decide) a10 ?_
    refine k_iload dX11_adds_90 rfl ?_
    refine k_bipush dX11_adds_92 rfl ?_
    refine k_ushr dX11_adds_94 a12 (by decide) ?_
    refine k_istore_n [jR 143, jI v1, jI v2, jI ((((s 144 ((50 * v1) + v5)) + (s 144 ((50 * v2) + v5))) + v3) / 2 ^ Int.toNat 30), jI v4, jI v5, jI (((s 144 ((50 * v1) + v5)) + (s 144 ((50 * v2) + v5))) + v3)] dX11_adds_95 rfl rfl ?_
    refine k_iinc [jR 143, jI v1, jI v2, jI ((((s 144 ((50 * v1) + v5)) + (s 144 ((50 * v2) + v5))) + v3) / 2 ^ Int.toNat 30), jI v4, jI (v5 + 1), jI (((s 144 ((50 * v1) + v5)) + (s 144 ((50 * v2) + v5))) + v3)] dX11_adds_96 rfl rfl rfl ?_
    refine k_goto 37 dX11_adds_99 rfl ?_
    refine k_drop [jR 143, jI v1, jI v2, jI ((((s 144 ((50 * v1) + v5)) + (s 144 ((50 * v2) + v5))) + v3) / 2 ^ Int.toNat 30), jI v4, jI (v5 + 1), jU] ⟨Or.inr rfl, Or.inr rfl, Or.inr rfl, Or.inr rfl, Or.inr rfl, Or.inr rfl, Or.inl rfl, trivial⟩ ?_
    exact v
theorem g_X11_multiplies {s : Int → Int → Int} {Q : Option jV → (Int → Int → Int) → Prop} {v1 v2 : Int} (v : (∀ (s2 : Int → Int → Int), (RF (fun q => q = 4) s s2 ∧ RG s2 4 0) → kK mX11_multiplies 8 [jR 143, jI v1, jI v2, jI 0, jU, jU, jU, jU, jU, jU, jU] [] s2 Q)) : kR mX11_multiplies [jR 143, jI v1, jI v2] s Q := by
  show kK mX11_multiplies 0 [jR 143, jI v1, jI v2, jU, jU, jU, jU, jU, jU, jU, jU] [] s Q
  refine k_aload_n dX11_multiplies_0 rfl ?_
  refine k_iconst dX11_multiplies_1 ?_
  refine k_lconst 0 dX11_multiplies_2 rfl ?_
  refine k_invVR [jI 4, jL 0] [] dX11_multiplies_3 cm_X11_sets ml_X11_85 im_X11_sets se_X11_sets rfl sh_143 (by decide) rfl rfl (sp_X11_sets s 4 0 (by decide) (by decide)) (fun _ s2 q3 => ?_)
  obtain ⟨rfl, q3⟩ := q3
  have v := v s2 q3
  refine k_iconst dX11_multiplies_6 ?_
  refine k_istore_n [jR 143, jI v1, jI v2, jI 0, jU, jU, jU, jU, jU, jU, jU] dX11_multiplies_7 rfl rfl ?_
  exact v
theorem g_X11_multiplies_8 {s : Int → Int → Int} {Q : Option jV → (Int → Int → Int) → Prop} {v1 v2 v3 : Int} (v : ((0 ≤ v1 ∧ v1 < 15) ∧ jr32 v3 ∧ jr32 (s 145 v1) ∧ (((s 145 v1) ≤ v3 → ((0 ≤ v2 ∧ v2 < 15) ∧ (PG (w2 s 145 4 ((s 145 v1) + (s 145 v2))) 4 (rv (w2 s 145 4 ((s 145 v1) + (s 145 v2))) 4)) ∧ (∀ (s8 : Int → Int → Int), (RF (fun q => q = 4) (w2 s 145 4 ((s 145 v1) + (s 145 v2))) s8 ∧ RG s8 4 (rv (w2 s 145 4 ((s 145 v1) + (s 145 v2))) 4)) → (((0 ≤ v1 ∧ v1 < 15) ∧ (0 ≤ (4 : Int) ∧ (4 : Int) < 15) ∧ v1 ≠ (4 : Int)) ∧ (RG s8 4 (rv s8 4)) ∧ (∀ (s13 : Int → Int → Int), (RF (fun q => q = v1) s8 s13 ∧ RG s13 v1 (rv s8 4)) → Q none s13))))) ∧ (¬ ((s 145 v1) ≤ v3) → kK mX11_multiplies 24 [jR 143, jI v1, jI v2, jI v3, jL 0, jU, jI 0, jU, jU, jU, jU] [] s Q)))) : kK mX11_multiplies 8 [jR 143, jI v1, jI v2, jI v3, jU, jU, jU, jU, jU, jU, jU] [] s Q := by
  obtain ⟨a1, a2, a3, v⟩ := v
  refine k_iload_n dX11_multiplies_8 rfl ?_
  refine k_aload_n dX11_multiplies_9 rfl ?_
  refine k_getr dX11_multiplies_10 fl_X11_13 sh_143 (by decide) rfl ?_
  refine k_iload_n dX11_multiplies_13 rfl ?_
  refine k_iald 15 dX11_multiplies_14 sh_145 (by decide) rfl (by decide) a1 ?_
  obtain ⟨vt, vf⟩ := v
  refine k_icmp_ge 146 dX11_multiplies_15 rfl a2 a3 (fun c4 => ?_) (fun c4 => ?_)
  · have v := vt c4
    obtain ⟨a5, a6, v⟩ := v
    refine k_aload_n dX11_multiplies_146 rfl ?_
    refine k_getr dX11_multiplies_147 fl_X11_13 sh_143 (by decide) rfl ?_
    refine k_iconst dX11_multiplies_150 ?_
    refine k_aload_n dX11_multiplies_151 rfl ?_
    refine k_getr dX11_multiplies_152 fl_X11_13 sh_143 (by decide) rfl ?_
    refine k_iload_n dX11_multiplies_155 rfl ?_
    refine k_iald 15 dX11_multiplies_156 sh_145 (by decide) rfl (by decide) a1 ?_
    refine k_aload_n dX11_multiplies_157 rfl ?_
    refine k_getr dX11_multiplies_158 fl_X11_13 sh_143 (by decide) rfl ?_
    refine k_iload_n dX11_multiplies_161 rfl ?_
    refine k_iald 15 dX11_multiplies_162 sh_145 (by decide) rfl (by decide) a5 ?_
    refine k_iadd dX11_multiplies_163 ?_
    refine k_iast 15 dX11_multiplies_164 sh_145 (by decide) rfl (by decide) (by decide) ?_
    refine k_aload_n dX11_multiplies_165 rfl ?_
    refine k_iconst dX11_multiplies_166 ?_
    refine k_invVR [jI 4] [] dX11_multiplies_167 cm_X11_trims ml_X11_91 im_X11_trims se_X11_trims rfl sh_143 (by decide) rfl rfl (sp_X11_trims (w2 s 145 4 ((s 145 v1) + (s 145 v2))) 4 (by decide) a6) (fun _ s8 q9 => ?_)
    obtain ⟨rfl, q9⟩ := q9
    have v := v s8 q9
    obtain ⟨a10, a11, v⟩ := v
    refine k_aload_n dX11_multiplies_170 rfl ?_
    refine k_iload_n dX11_multiplies_171 rfl ?_
    refine k_iconst dX11_multiplies_172 ?_
    refine k_invVR [jI v1, jI 4] [] dX11_multiplies_173 cm_X11_takes ml_X11_95 im_X11_takes se_X11_takes rfl sh_143 (by decide) rfl rfl (sp_X11_takes s8 v1 4 a10 a11) (fun _ s13 q14 => ?_)
    obtain ⟨rfl, q14⟩ := q14
    have v := v s13 q14
    exact k_return (st := []) dX11_multiplies_176 rfl v
  · have v := vf c4
    refine k_lconst 0 dX11_multiplies_18 rfl ?_
    refine k_lstore [jR 143, jI v1, jI v2, jI v3, jL 0, jU, jU, jU, jU, jU, jU] dX11_multiplies_19 rfl rfl ?_
    refine k_iconst dX11_multiplies_21 ?_
    refine k_istore [jR 143, jI v1, jI v2, jI v3, jL 0, jU, jI 0, jU, jU, jU, jU] dX11_multiplies_22 rfl rfl ?_
    exact v
theorem g_X11_multiplies_24 {s : Int → Int → Int} {Q : Option jV → (Int → Int → Int) → Prop} {v1 v2 v3 v4 v6 : Int} (v : ((0 ≤ v2 ∧ v2 < 15) ∧ jr32 v6 ∧ jr32 (s 145 v2) ∧ ((v6 < (s 145 v2) → (((s 145 v2) ≤ v6 → ((0 ≤ ((200 + v3) + v6) ∧ ((200 + v3) + v6) < 750) ∧ jr32 (s 144 ((200 + v3) + v6)) ∧ jr64 (((s 144 ((200 + v3) + v6)) + 0) + v4) ∧ kK mX11_multiplies 24 [jR 143, jI v1, jI v2, jI v3, jL ((((s 144 ((200 + v3) + v6)) + 0) + v4) / 2 ^ Int.toNat 30), jU, jI (v6 + 1), jU, jU, jU, jU] [] (w2 s 144 ((200 + v3) + v6) ((((s 144 ((200 + v3) + v6)) + 0) + v4) % 1073741824)) Q)) ∧ (¬ ((s 145 v2) ≤ v6) → ((0 ≤ ((50 * v1) + v3) ∧ ((50 * v1) + v3) < 750) ∧ jr32 (s 144 ((50 * v1) + v3)) ∧ (0 ≤ ((50 * v2) + v6) ∧ ((50 * v2) + v6) < 750) ∧ jr32 (s 144 ((50 * v2) + v6)) ∧ (0 ≤ ((200 + v3) + v6) ∧ ((200 + v3) + v6) < 750) ∧ jr32 (s 144 ((200 + v3) + v6)) ∧ jr64 (((s 144 ((200 + v3) + v6)) + ((s 144 ((50 * v1) + v3)) * (s 144 ((50 * v2) + v6)))) + v4) ∧ kK mX11_multiplies 24 [jR 143, jI v1, jI v2, jI v3, jL ((((s 144 ((200 + v3) + v6)) + ((s 144 ((50 * v1) + v3)) * (s 144 ((50 * v2) + v6)))) + v4) / 2 ^ Int.toNat 30), jU, jI (v6 + 1), jU, jU, jU, jU] [] (w2 s 144 ((200 + v3) + v6) ((((s 144 ((200 + v3) + v6)) + ((s 144 ((50 * v1) + v3)) * (s 144 ((50 * v2) + v6)))) + v4) % 1073741824)) Q)))) ∧ (¬ (v6 < (s 145 v2)) → (jr64 v4 ∧ ((v4 ≤ 0 → kK mX11_multiplies 8 [jR 143, jI v1, jI v2, jI (v3 + 1), jU, jU, jU, jU, jU, jU, jU] [] s Q) ∧ (¬ (v4 ≤ 0) → (((s 145 v2) ≤ v6 → ((0 ≤ ((200 + v3) + v6) ∧ ((200 + v3) + v6) < 750) ∧ jr32 (s 144 ((200 + v3) + v6)) ∧ jr64 (((s 144 ((200 + v3) + v6)) + 0) + v4) ∧ kK mX11_multiplies 24 [jR 143, jI v1, jI v2, jI v3, jL ((((s 144 ((200 + v3) + v6)) + 0) + v4) / 2 ^ Int.toNat 30), jU, jI (v6 + 1), jU, jU, jU, jU] [] (w2 s 144 ((200 + v3) + v6) ((((s 144 ((200 + v3) + v6)) + 0) + v4) % 1073741824)) Q)) ∧ (¬ ((s 145 v2) ≤ v6) → ((0 ≤ ((50 * v1) + v3) ∧ ((50 * v1) + v3) < 750) ∧ jr32 (s 144 ((50 * v1) + v3)) ∧ (0 ≤ ((50 * v2) + v6) ∧ ((50 * v2) + v6) < 750) ∧ jr32 (s 144 ((50 * v2) + v6)) ∧ (0 ≤ ((200 + v3) + v6) ∧ ((200 + v3) + v6) < 750) ∧ jr32 (s 144 ((200 + v3) + v6)) ∧ jr64 (((s 144 ((200 + v3) + v6)) + ((s 144 ((50 * v1) + v3)) * (s 144 ((50 * v2) + v6)))) + v4) ∧ kK mX11_multiplies 24 [jR 143, jI v1, jI v2, jI v3, jL ((((s 144 ((200 + v3) + v6)) + ((s 144 ((50 * v1) + v3)) * (s 144 ((50 * v2) + v6)))) + v4) / 2 ^ Int.toNat 30), jU, jI (v6 + 1), jU, jU, jU, jU] [] (w2 s 144 ((200 + v3) + v6) ((((s 144 ((200 + v3) + v6)) + ((s 144 ((50 * v1) + v3)) * (s 144 ((50 * v2) + v6)))) + v4) % 1073741824)) Q)))))))))) : kK mX11_multiplies 24 [jR 143, jI v1, jI v2, jI v3, jL v4, jU, jI v6, jU, jU, jU, jU] [] s Q := by
  obtain ⟨a1, a2, a3, v⟩ := v
  refine k_iload dX11_multiplies_24 rfl ?_
  refine k_aload_n dX11_multiplies_26 rfl ?_
  refine k_getr dX11_multiplies_27 fl_X11_13 sh_143 (by decide) rfl ?_
  refine k_iload_n dX11_multiplies_30 rfl ?_
  refine k_iald 15 dX11_multiplies_31 sh_145 (by decide) rfl (by decide) a1 ?_
  obtain ⟨vt, vf⟩ := v
  refine k_icmp_lt 42 dX11_multiplies_32 rfl a2 a3 (fun c4 => ?_) (fun c4 => ?_)
  · have v := vt c4
    refine k_iload dX11_multiplies_42 rfl ?_
    refine k_aload_n dX11_multiplies_44 rfl ?_
    refine k_getr dX11_multiplies_45 fl_X11_13 sh_143 (by decide) rfl ?_
    refine k_iload_n dX11_multiplies_48 rfl ?_
    refine k_iald 15 dX11_multiplies_49 sh_145 (by decide) rfl (by decide) a1 ?_
    obtain ⟨vt, vf⟩ := v
    refine k_icmp_ge 82 dX11_multiplies_50 rfl a2 a3 (fun c5 => ?_) (fun c5 => ?_)
    · have v := vt c5
      obtain ⟨a6, a7, a8, v⟩ := v
      refine k_lconst 0 dX11_multiplies_82 rfl ?_
      refine k_lstore [jR 143, jI v1, jI v2, jI v3, jL v4, jU, jI v6, jL 0, jU, jU, jU] dX11_multiplies_83 rfl rfl ?_
      refine k_aload_n dX11_multiplies_85 rfl ?_
      refine k_getr dX11_multiplies_86 fl_X11_7 sh_143 (by decide) rfl ?_
      refine k_sipush dX11_multiplies_89 rfl ?_
      refine k_iload_n dX11_multiplies_92 rfl ?_
      refine k_iadd dX11_multiplies_93 ?_
      refine k_iload dX11_multiplies_94 rfl ?_
      refine k_iadd dX11_multiplies_96 ?_
      refine k_iald 750 dX11_multiplies_97 sh_144 (by decide) rfl (by decide) a6 ?_
      refine k_i2l dX11_multiplies_98 a7 ?_
      refine k_lload dX11_multiplies_99 rfl ?_
      refine k_ladd dX11_multiplies_101 ?_
      refine k_lload dX11_multiplies_102 rfl ?_
      refine k_ladd dX11_multiplies_104 ?_
      refine k_lstore [jR 143, jI v1, jI v2, jI v3, jL v4, jU, jI v6, jL 0, jU, jL (((s 144 ((200 + v3) + v6)) + 0) + v4), jU] dX11_multiplies_105 rfl rfl ?_
      refine k_aload_n dX11_multiplies_107 rfl ?_
      refine k_getr dX11_multiplies_108 fl_X11_7 sh_143 (by decide) rfl ?_
      refine k_sipush dX11_multiplies_111 rfl ?_
      refine k_iload_n dX11_multiplies_114 rfl ?_
      refine k_iadd dX11_multiplies_115 ?_
      refine k_iload dX11_multiplies_116 rfl ?_
      refine k_iadd dX11_multiplies_118 ?_
      refine k_lload dX11_multiplies_119 rfl ?_
      refine k_ldc2 (1073741823) (1073741823) dX11_multiplies_121 kl_X11_89 rfl ?_
      refine k_andML dX11_multiplies_124 ?_
      refine k_l2i dX11_multiplies_125 ?_
      refine k_iast 750 dX11_multiplies_126 sh_144 (by decide) rfl (by decide) a6 ?_
      refine k_lload dX11_multiplies_127 rfl ?_
      refine k_bipush dX11_multiplies_129 rfl ?_
      refine k_shrL dX11_multiplies_131 a8 (by decide) ?_
      refine k_lstore [jR 143, jI v1, jI v2, jI v3, jL ((((s 144 ((200 + v3) + v6)) + 0) + v4) / 2 ^ Int.toNat 30), jU, jI v6, jL 0, jU, jL (((s 144 ((200 + v3) + v6)) + 0) + v4), jU] dX11_multiplies_132 rfl rfl ?_
      refine k_iinc [jR 143, jI v1, jI v2, jI v3, jL ((((s 144 ((200 + v3) + v6)) + 0) + v4) / 2 ^ Int.toNat 30), jU, jI (v6 + 1), jL 0, jU, jL (((s 144 ((200 + v3) + v6)) + 0) + v4), jU] dX11_multiplies_134 rfl rfl rfl ?_
      refine k_goto 24 dX11_multiplies_137 rfl ?_
      refine k_drop [jR 143, jI v1, jI v2, jI v3, jL ((((s 144 ((200 + v3) + v6)) + 0) + v4) / 2 ^ Int.toNat 30), jU, jI (v6 + 1), jU, jU, jU, jU] ⟨Or.inr rfl, Or.inr rfl, Or.inr rfl, Or.inr rfl, Or.inr rfl, Or.inr rfl, Or.inr rfl, Or.inl rfl, Or.inr rfl, Or.inl rfl, Or.inr rfl, trivial⟩ ?_
      exact v
    · have v := vf c5
      obtain ⟨a9, a10, a11, a12, a13, a14, a15, v⟩ := v
      refine k_aload_n dX11_multiplies_53 rfl ?_
      refine k_getr dX11_multiplies_54 fl_X11_7 sh_143 (by decide) rfl ?_
      refine k_bipush dX11_multiplies_57 rfl ?_
      refine k_iload_n dX11_multiplies_59 rfl ?_
      refine k_imul dX11_multiplies_60 ?_
      refine k_iload_n dX11_multiplies_61 rfl ?_
      refine k_iadd dX11_multiplies_62 ?_
      refine k_iald 750 dX11_multiplies_63 sh_144 (by decide) rfl (by decide) a9 ?_
      refine k_i2l dX11_multiplies_64 a10 ?_
      refine k_aload_n dX11_multiplies_65 rfl ?_
      refine k_getr dX11_multiplies_66 fl_X11_7 sh_143 (by decide) rfl ?_
      refine k_bipush dX11_multiplies_69 rfl ?_
      refine k_iload_n dX11_multiplies_71 rfl ?_
      refine k_imul dX11_multiplies_72 ?_
      refine k_iload dX11_multiplies_73 rfl ?_
      refine k_iadd dX11_multiplies_75 ?_
      refine k_iald 750 dX11_multiplies_76 sh_144 (by decide) rfl (by decide) a11 ?_
      refine k_i2l dX11_multiplies_77 a12 ?_
      refine k_lmul dX11_multiplies_78 ?_
      refine k_goto 83 dX11_multiplies_79 rfl ?_
      refine k_lstore [jR 143, jI v1, jI v2, jI v3, jL v4, jU, jI v6, jL ((s 144 ((50 * v1) + v3)) * (s 144 ((50 * v2) + v6))), jU, jU, jU] dX11_multiplies_83 rfl rfl ?_
      refine k_aload_n dX11_multiplies_85 rfl ?_
      refine k_getr dX11_multiplies_86 fl_X11_7 sh_143 (by decide) rfl ?_
      refine k_sipush dX11_multiplies_89 rfl ?_
      refine k_iload_n dX11_multiplies_92 rfl ?_
      refine k_iadd dX11_multiplies_93 ?_
      refine k_iload dX11_multiplies_94 rfl ?_
      refine k_iadd dX11_multiplies_96 ?_
      refine k_iald 750 dX11_multiplies_97 sh_144 (by decide) rfl (by decide) a13 ?_
      refine k_i2l dX11_multiplies_98 a14 ?_
      refine k_lload dX11_multiplies_99 rfl ?_
      refine k_ladd dX11_multiplies_101 ?_
      refine k_lload dX11_multiplies_102 rfl ?_
      refine k_ladd dX11_multiplies_104 ?_
      refine k_lstore [jR 143, jI v1, jI v2, jI v3, jL v4, jU, jI v6, jL ((s 144 ((50 * v1) + v3)) * (s 144 ((50 * v2) + v6))), jU, jL (((s 144 ((200 + v3) + v6)) + ((s 144 ((50 * v1) + v3)) * (s 144 ((50 * v2) + v6)))) + v4), jU] dX11_multiplies_105 rfl rfl ?_
      refine k_aload_n dX11_multiplies_107 rfl ?_
      refine k_getr dX11_multiplies_108 fl_X11_7 sh_143 (by decide) rfl ?_
      refine k_sipush dX11_multiplies_111 rfl ?_
      refine k_iload_n dX11_multiplies_114 rfl ?_
      refine k_iadd dX11_multiplies_115 ?_
      refine k_iload dX11_multiplies_116 rfl ?_
      refine k_iadd dX11_multiplies_118 ?_
      refine k_lload dX11_multiplies_119 rfl ?_
      refine k_ldc2 (1073741823) (1073741823) dX11_multiplies_121 kl_X11_89 rfl ?_
      refine k_andML dX11_multiplies_124 ?_
      refine k_l2i dX11_multiplies_125 ?_
      refine k_iast 750 dX11_multiplies_126 sh_144 (by decide) rfl (by decide) a13 ?_
      refine k_lload dX11_multiplies_127 rfl ?_
      refine k_bipush dX11_multiplies_129 rfl ?_
      refine k_shrL dX11_multiplies_131 a15 (by decide) ?_
      refine k_lstore [jR 143, jI v1, jI v2, jI v3, jL ((((s 144 ((200 + v3) + v6)) + ((s 144 ((50 * v1) + v3)) * (s 144 ((50 * v2) + v6)))) + v4) / 2 ^ Int.toNat 30), jU, jI v6, jL ((s 144 ((50 * v1) + v3)) * (s 144 ((50 * v2) + v6))), jU, jL (((s 144 ((200 + v3) + v6)) + ((s 144 ((50 * v1) + v3)) * (s 144 ((50 * v2) + v6)))) + v4), jU] dX11_multiplies_132 rfl rfl ?_
      refine k_iinc [jR 143, jI v1, jI v2, jI v3, jL ((((s 144 ((200 + v3) + v6)) + ((s 144 ((50 * v1) + v3)) * (s 144 ((50 * v2) + v6)))) + v4) / 2 ^ Int.toNat 30), jU, jI (v6 + 1), jL ((s 144 ((50 * v1) + v3)) * (s 144 ((50 * v2) + v6))), jU, jL (((s 144 ((200 + v3) + v6)) + ((s 144 ((50 * v1) + v3)) * (s 144 ((50 * v2) + v6)))) + v4), jU] dX11_multiplies_134 rfl rfl rfl ?_
      refine k_goto 24 dX11_multiplies_137 rfl ?_
      refine k_drop [jR 143, jI v1, jI v2, jI v3, jL ((((s 144 ((200 + v3) + v6)) + ((s 144 ((50 * v1) + v3)) * (s 144 ((50 * v2) + v6)))) + v4) / 2 ^ Int.toNat 30), jU, jI (v6 + 1), jU, jU, jU, jU] ⟨Or.inr rfl, Or.inr rfl, Or.inr rfl, Or.inr rfl, Or.inr rfl, Or.inr rfl, Or.inr rfl, Or.inl rfl, Or.inr rfl, Or.inl rfl, Or.inr rfl, trivial⟩ ?_
      exact v
  · have v := vf c4
    obtain ⟨a16, v⟩ := v
    refine k_lload dX11_multiplies_35 rfl ?_
    refine k_lconst 0 dX11_multiplies_37 rfl ?_
    obtain ⟨vt, vf⟩ := v
    refine k_lcmp_if_le 140 dX11_multiplies_38 dX11_multiplies_39 rfl a16 (by decide) (fun c17 => ?_) (fun c17 => ?_)
    · have v := vt c17
      refine k_iinc [jR 143, jI v1, jI v2, jI (v3 + 1), jL v4, jU, jI v6, jU, jU, jU, jU] dX11_multiplies_140 rfl rfl rfl ?_
      refine k_goto 8 dX11_multiplies_143 rfl ?_
      refine k_drop [jR 143, jI v1, jI v2, jI (v3 + 1), jU, jU, jU, jU, jU, jU, jU] ⟨Or.inr rfl, Or.inr rfl, Or.inr rfl, Or.inr rfl, Or.inl rfl, Or.inr rfl, Or.inl rfl, Or.inr rfl, Or.inr rfl, Or.inr rfl, Or.inr rfl, trivial⟩ ?_
      exact v
    · have v := vf c17
      refine k_iload dX11_multiplies_42 rfl ?_
      refine k_aload_n dX11_multiplies_44 rfl ?_
      refine k_getr dX11_multiplies_45 fl_X11_13 sh_143 (by decide) rfl ?_
      refine k_iload_n dX11_multiplies_48 rfl ?_
      refine k_iald 15 dX11_multiplies_49 sh_145 (by decide) rfl (by decide) a1 ?_
      obtain ⟨vt, vf⟩ := v
      refine k_icmp_ge 82 dX11_multiplies_50 rfl a2 a3 (fun c18 => ?_) (fun c18 => ?_)
      · have v := vt c18
        obtain ⟨a19, a20, a21, v⟩ := v
        refine k_lconst 0 dX11_multiplies_82 rfl ?_
        refine k_lstore [jR 143, jI v1, jI v2, jI v3, jL v4, jU, jI v6, jL 0, jU, jU, jU] dX11_multiplies_83 rfl rfl ?_
        refine k_aload_n dX11_multiplies_85 rfl ?_
        refine k_getr dX11_multiplies_86 fl_X11_7 sh_143 (by decide) rfl ?_
        refine k_sipush dX11_multiplies_89 rfl ?_
        refine k_iload_n dX11_multiplies_92 rfl ?_
        refine k_iadd dX11_multiplies_93 ?_
        refine k_iload dX11_multiplies_94 rfl ?_
        refine k_iadd dX11_multiplies_96 ?_
        refine k_iald 750 dX11_multiplies_97 sh_144 (by decide) rfl (by decide) a19 ?_
        refine k_i2l dX11_multiplies_98 a20 ?_
        refine k_lload dX11_multiplies_99 rfl ?_
        refine k_ladd dX11_multiplies_101 ?_
        refine k_lload dX11_multiplies_102 rfl ?_
        refine k_ladd dX11_multiplies_104 ?_
        refine k_lstore [jR 143, jI v1, jI v2, jI v3, jL v4, jU, jI v6, jL 0, jU, jL (((s 144 ((200 + v3) + v6)) + 0) + v4), jU] dX11_multiplies_105 rfl rfl ?_
        refine k_aload_n dX11_multiplies_107 rfl ?_
        refine k_getr dX11_multiplies_108 fl_X11_7 sh_143 (by decide) rfl ?_
        refine k_sipush dX11_multiplies_111 rfl ?_
        refine k_iload_n dX11_multiplies_114 rfl ?_
        refine k_iadd dX11_multiplies_115 ?_
        refine k_iload dX11_multiplies_116 rfl ?_
        refine k_iadd dX11_multiplies_118 ?_
        refine k_lload dX11_multiplies_119 rfl ?_
        refine k_ldc2 (1073741823) (1073741823) dX11_multiplies_121 kl_X11_89 rfl ?_
        refine k_andML dX11_multiplies_124 ?_
        refine k_l2i dX11_multiplies_125 ?_
        refine k_iast 750 dX11_multiplies_126 sh_144 (by decide) rfl (by decide) a19 ?_
        refine k_lload dX11_multiplies_127 rfl ?_
        refine k_bipush dX11_multiplies_129 rfl ?_
        refine k_shrL dX11_multiplies_131 a21 (by decide) ?_
        refine k_lstore [jR 143, jI v1, jI v2, jI v3, jL ((((s 144 ((200 + v3) + v6)) + 0) + v4) / 2 ^ Int.toNat 30), jU, jI v6, jL 0, jU, jL (((s 144 ((200 + v3) + v6)) + 0) + v4), jU] dX11_multiplies_132 rfl rfl ?_
        refine k_iinc [jR 143, jI v1, jI v2, jI v3, jL ((((s 144 ((200 + v3) + v6)) + 0) + v4) / 2 ^ Int.toNat 30), jU, jI (v6 + 1), jL 0, jU, jL (((s 144 ((200 + v3) + v6)) + 0) + v4), jU] dX11_multiplies_134 rfl rfl rfl ?_
        refine k_goto 24 dX11_multiplies_137 rfl ?_
        refine k_drop [jR 143, jI v1, jI v2, jI v3, jL ((((s 144 ((200 + v3) + v6)) + 0) + v4) / 2 ^ Int.toNat 30), jU, jI (v6 + 1), jU, jU, jU, jU] ⟨Or.inr rfl, Or.inr rfl, Or.inr rfl, Or.inr rfl, Or.inr rfl, Or.inr rfl, Or.inr rfl, Or.inl rfl, Or.inr rfl, Or.inl rfl, Or.inr rfl, trivial⟩ ?_
        exact v
      · have v := vf c18
        obtain ⟨a22, a23, a24, a25, a26, a27, a28, v⟩ := v
        refine k_aload_n dX11_multiplies_53 rfl ?_
        refine k_getr dX11_multiplies_54 fl_X11_7 sh_143 (by decide) rfl ?_
        refine k_bipush dX11_multiplies_57 rfl ?_
        refine k_iload_n dX11_multiplies_59 rfl ?_
        refine k_imul dX11_multiplies_60 ?_
        refine k_iload_n dX11_multiplies_61 rfl ?_
        refine k_iadd dX11_multiplies_62 ?_
        refine k_iald 750 dX11_multiplies_63 sh_144 (by decide) rfl (by decide) a22 ?_
        refine k_i2l dX11_multiplies_64 a23 ?_
        refine k_aload_n dX11_multiplies_65 rfl ?_
        refine k_getr dX11_multiplies_66 fl_X11_7 sh_143 (by decide) rfl ?_
        refine k_bipush dX11_multiplies_69 rfl ?_
        refine k_iload_n dX11_multiplies_71 rfl ?_
        refine k_imul dX11_multiplies_72 ?_
        refine k_iload dX11_multiplies_73 rfl ?_
        refine k_iadd dX11_multiplies_75 ?_
        refine k_iald 750 dX11_multiplies_76 sh_144 (by decide) rfl (by decide) a24 ?_
        refine k_i2l dX11_multiplies_77 a25 ?_
        refine k_lmul dX11_multiplies_78 ?_
        refine k_goto 83 dX11_multiplies_79 rfl ?_
        refine k_lstore [jR 143, jI v1, jI v2, jI v3, jL v4, jU, jI v6, jL ((s 144 ((50 * v1) + v3)) * (s 144 ((50 * v2) + v6))), jU, jU, jU] dX11_multiplies_83 rfl rfl ?_
        refine k_aload_n dX11_multiplies_85 rfl ?_
        refine k_getr dX11_multiplies_86 fl_X11_7 sh_143 (by decide) rfl ?_
        refine k_sipush dX11_multiplies_89 rfl ?_
        refine k_iload_n dX11_multiplies_92 rfl ?_
        refine k_iadd dX11_multiplies_93 ?_
        refine k_iload dX11_multiplies_94 rfl ?_
        refine k_iadd dX11_multiplies_96 ?_
        refine k_iald 750 dX11_multiplies_97 sh_144 (by decide) rfl (by decide) a26 ?_
        refine k_i2l dX11_multiplies_98 a27 ?_
        refine k_lload dX11_multiplies_99 rfl ?_
        refine k_ladd dX11_multiplies_101 ?_
        refine k_lload dX11_multiplies_102 rfl ?_
        refine k_ladd dX11_multiplies_104 ?_
        refine k_lstore [jR 143, jI v1, jI v2, jI v3, jL v4, jU, jI v6, jL ((s 144 ((50 * v1) + v3)) * (s 144 ((50 * v2) + v6))), jU, jL (((s 144 ((200 + v3) + v6)) + ((s 144 ((50 * v1) + v3)) * (s 144 ((50 * v2) + v6)))) + v4), jU] dX11_multiplies_105 rfl rfl ?_
        refine k_aload_n dX11_multiplies_107 rfl ?_
        refine k_getr dX11_multiplies_108 fl_X11_7 sh_143 (by decide) rfl ?_
        refine k_sipush dX11_multiplies_111 rfl ?_
        refine k_iload_n dX11_multiplies_114 rfl ?_
        refine k_iadd dX11_multiplies_115 ?_
        refine k_iload dX11_multiplies_116 rfl ?_
        refine k_iadd dX11_multiplies_118 ?_
        refine k_lload dX11_multiplies_119 rfl ?_
        refine k_ldc2 (1073741823) (1073741823) dX11_multiplies_121 kl_X11_89 rfl ?_
        refine k_andML dX11_multiplies_124 ?_
        refine k_l2i dX11_multiplies_125 ?_
        refine k_iast 750 dX11_multiplies_126 sh_144 (by decide) rfl (by decide) a26 ?_
        refine k_lload dX11_multiplies_127 rfl ?_
        refine k_bipush dX11_multiplies_129 rfl ?_
        refine k_shrL dX11_multiplies_131 a28 (by decide) ?_
        refine k_lstore [jR 143, jI v1, jI v2, jI v3, jL ((((s 144 ((200 + v3) + v6)) + ((s 144 ((50 * v1) + v3)) * (s 144 ((50 * v2) + v6)))) + v4) / 2 ^ Int.toNat 30), jU, jI v6, jL ((s 144 ((50 * v1) + v3)) * (s 144 ((50 * v2) + v6))), jU, jL (((s 144 ((200 + v3) + v6)) + ((s 144 ((50 * v1) + v3)) * (s 144 ((50 * v2) + v6)))) + v4), jU] dX11_multiplies_132 rfl rfl ?_
        refine k_iinc [jR 143, jI v1, jI v2, jI v3, jL ((((s 144 ((200 + v3) + v6)) + ((s 144 ((50 * v1) + v3)) * (s 144 ((50 * v2) + v6)))) + v4) / 2 ^ Int.toNat 30), jU, jI (v6 + 1), jL ((s 144 ((50 * v1) + v3)) * (s 144 ((50 * v2) + v6))), jU, jL (((s 144 ((200 + v3) + v6)) + ((s 144 ((50 * v1) + v3)) * (s 144 ((50 * v2) + v6)))) + v4), jU] dX11_multiplies_134 rfl rfl rfl ?_
        refine k_goto 24 dX11_multiplies_137 rfl ?_
        refine k_drop [jR 143, jI v1, jI v2, jI v3, jL ((((s 144 ((200 + v3) + v6)) + ((s 144 ((50 * v1) + v3)) * (s 144 ((50 * v2) + v6)))) + v4) / 2 ^ Int.toNat 30), jU, jI (v6 + 1), jU, jU, jU, jU] ⟨Or.inr rfl, Or.inr rfl, Or.inr rfl, Or.inr rfl, Or.inr rfl, Or.inr rfl, Or.inr rfl, Or.inl rfl, Or.inr rfl, Or.inl rfl, Or.inr rfl, trivial⟩ ?_
        exact v
theorem sp_X11_times (s : Int → Int → Int) (r b : Int) (hr : 0 ≤ r ∧ r < 15) (hb : 1 ≤ b ∧ b ≤ 1000) (h : RG s r (rv s r)) (hN : rv s r * b < bp 49) : kR mX11_times [jR 143, jI r, jI b] s (fun o s' => o = none ∧ RF (fun q => q = r) s s' ∧ RG s' r (rv s r * b)) := by
  have vw := h.1.vw
  have hb0 := h.b
  obtain ⟨⟨a, bb, c, d⟩, -⟩ := id h
  refine g_X11_times ?_
  have key : ∀ k, k ≤ s 145 r → 0 ≤ k → ∀ s1 t, (0 ≤ t ∧ t ≤ b) → (∀ i, 0 ≤ i → i < k → 0 ≤ rg s1 r i ∧ rg s1 r i < 1073741824) → vl k (rg s1 r) + t * bp k = vl k (rg s r) * b → (∀ i, k ≤ i → rg s1 r i = rg s r i) → s1 145 r = s 145 r → RF (fun q => q = r) s s1 → kK mX11_times 5 [jR 143, jI r, jI b, jL t, jU, jI k, jU, jU] [] s1 (fun o s' => o = none ∧ RF (fun q => q = r) s s' ∧ RG s' r (rv s r * b)) := by
    refine lp_up _ _ (fun k hk ih k0 s1 t ht e v z w f => ?_)
    refine g_X11_times_5 ?_
    rw [w, show s1 144 (50 * r + k) = rg s1 r k from rfl, z k (Int.le_refl _)]
    refine ⟨hr, by unfold jr32; omega, by unfold jr32; omega, fun q => ⟨by unfold jr64; omega, fun q2 => ?_, fun q2 => ⟨?_, ?_⟩⟩, fun q => ?_⟩
    · have kw : k = s 145 r := by omega
      have t0 : t = 0 := by omega
      rw [kw, t0, vw, Int.zero_mul, Int.add_zero] at v
      have dg : dgt 50 (rg s1 r) := fun i i0 i1 => by
        by_cases x : i < k
        · exact e i i0 x
        · rw [z i (by omega)]; exact bb i i0 i1
      have zz : ∀ i, s 145 r ≤ i → i < 50 → rg s1 r i = 0 := fun i i0 i1 => by rw [z i (by omega)]; exact c i i0 i1
      have p : PG s1 r (rv s r * b) := ⟨by rw [w]; exact a, dg, by rw [w]; exact zz, by rw [vl_z0 a.1 a.2 zz, v]⟩
      refine ⟨by rw [p.rv]; exact p, fun s2 q3 => ?_⟩
      rw [p.rv] at q3
      exact ⟨rfl, f.tr q3.1, q3.2⟩
    · have kw : k = s 145 r := by omega
      rw [kw, vw] at v
      have := Int.mul_le_mul_of_nonneg_right (show 1 ≤ t by omega) (show 0 ≤ bp (s 145 r) by have := bp_pos (s 145 r); omega)
      have vb := vl_b (f := rg s1 r) (s 145 r) a.1 (fun i i0 i1 => e i i0 (by omega))
      have w49 : s 145 r < 49 := by
        by_cases x : s 145 r < 49
        · exact x
        · have := bp_le (show 49 ≤ s 145 r by omega); omega
      omega
    · have kw : k = s 145 r := by omega
      rw [kw, vw] at v
      have := Int.mul_le_mul_of_nonneg_right (show 1 ≤ t by omega) (show 0 ≤ bp (s 145 r) by have := bp_pos (s 145 r); omega)
      have vb := vl_b (f := rg s1 r) (s 145 r) a.1 (fun i i0 i1 => e i i0 (by omega))
      have w49 : s 145 r < 49 := by
        by_cases x : s 145 r < 49
        · exact x
        · have := bp_le (show 49 ≤ s 145 r by omega); omega
      have rgx : ∀ i, rg (w2 (w2 s1 144 (50 * r + s 145 r) t) 145 r (s 145 r + 1)) r i = if i = s 145 r then t else rg s1 r i := fun i => by rw [rg_5, rg_w]
      have wx : w2 (w2 s1 144 (50 * r + s 145 r) t) 145 r (s 145 r + 1) 145 r = s 145 r + 1 := w2_s _ _ _ _
      have zz : ∀ i, s 145 r + 1 ≤ i → i < 50 → rg (w2 (w2 s1 144 (50 * r + s 145 r) t) 145 r (s 145 r + 1)) r i = 0 := fun i i0 i1 => by
        rw [rgx, if_neg (by omega), z i (by omega)]; exact c i (by omega) i1
      have p : PG (w2 (w2 s1 144 (50 * r + s 145 r) t) 145 r (s 145 r + 1)) r (rv s r * b) := by
        refine ⟨by rw [wx]; omega, fun i i0 i1 => ?_, by rw [wx]; exact zz, ?_⟩
        · rw [rgx]
          by_cases x : i = s 145 r
          · rw [if_pos x]; omega
          · rw [if_neg x]
            by_cases y : i < k
            · exact e i i0 y
            · rw [z i (by omega)]; exact bb i i0 i1
        · rw [vl_z0 (by omega) (show s 145 r + 1 ≤ 50 by omega) zz, vl_s a.1, rgx, if_pos rfl, vl_c (g := rg s1 r) (s 145 r) a.1 (fun i i0 i1 => by rw [rgx, if_neg (by omega)]), v]
      refine ⟨by rw [p.rv]; exact p, fun s2 q3 => ?_⟩
      rw [p.rv] at q3
      exact ⟨rfl, (f.tr ((RF.w4 (by omega)).tr RF.w5)).tr q3.1, q3.2⟩
    · have bk := bb k k0 (by omega)
      have p0 := Int.mul_nonneg bk.1 (show 0 ≤ b by omega)
      have p1 : rg s r k * b ≤ 1073741823 * b := Int.mul_le_mul_of_nonneg_right (by omega) (by omega)
      refine ⟨by omega, by unfold jr32; omega, by unfold jr32; omega, by unfold jr64; omega, ?_⟩
      rw [show (2 : Int) ^ Int.toNat 30 = 1073741824 from rfl]
      have cb : 0 ≤ (rg s r k * b + t) / 1073741824 ∧ (rg s r k * b + t) / 1073741824 ≤ b := by omega
      refine ih (by omega) (by omega) _ _ cb (fun i i0 i1 => ?_) ?_ (fun i i0 => ?_) (by rw [w2_k (by omega)]; exact w) (f.tr (RF.w4 (by omega)))
      · rw [rg_w]
        by_cases x : i = k
        · rw [if_pos x]; omega
        · rw [if_neg x]; exact e i i0 (by omega)
      · rw [vl_s k0, vl_s k0, bp_s k0, rg_w, if_pos rfl, vl_c (g := rg s1 r) k k0 (fun i i0 i1 => by rw [rg_w, if_neg (by omega)]), Int.add_assoc, dm_mul, Int.add_mul, Int.add_mul, ← v]
        grind
      · rw [rg_w, if_neg (by omega)]; exact z i (by omega)
  exact key 0 a.1 (by omega) s 0 (by omega) (fun i i0 i1 => by omega) (by simp only [vl_0]; omega) (fun i _ => rfl) rfl RF.rf
theorem sp_X11_adds (s : Int → Int → Int) (r o : Int) (hr : (0 ≤ r ∧ r < 15) ∧ (0 ≤ o ∧ o < 15) ∧ r ≠ o) (h : RG s r (rv s r)) (g : RG s o (rv s o)) (hN : rv s r < bp 49 ∧ rv s o < bp 49) : kR mX11_adds [jR 143, jI r, jI o] s (fun u s' => u = none ∧ RF (fun q => q = r) s s' ∧ RG s' r (rv s r + rv s o)) := by
  obtain ⟨h1, h2, h3⟩ := hr
  have wr := h.wle (by omega) hN.1
  have wo := g.wle (by omega) hN.2
  obtain ⟨⟨a, bb, c, d⟩, -⟩ := id h
  obtain ⟨⟨a', bb', c', d'⟩, -⟩ := id g
  have main : ∀ n, (0 ≤ n ∧ n ≤ 49) → s 145 r ≤ n → s 145 o ≤ n → kK mX11_adds 37 [jR 143, jI r, jI o, jI 0, jI n, jI 0, jU] [] s (fun u s' => u = none ∧ RF (fun q => q = r) s s' ∧ RG s' r (rv s r + rv s o)) := fun n n49 n1 n2 => by
    have vr := h.vk n1 (by omega)
    have vo := g.vk n2 (by omega)
    have key : ∀ k, k ≤ n → 0 ≤ k → ∀ s1 t, (0 ≤ t ∧ t ≤ 1) → (∀ i, 0 ≤ i → i < k → 0 ≤ rg s1 r i ∧ rg s1 r i < 1073741824) → vl k (rg s1 r) + t * bp k = vl k (rg s r) + vl k (rg s o) → (∀ i, k ≤ i → rg s1 r i = rg s r i) → RF (fun q => q = r) s s1 → kK mX11_adds 37 [jR 143, jI r, jI o, jI t, jI n, jI k, jU] [] s1 (fun u s' => u = none ∧ RF (fun q => q = r) s s' ∧ RG s' r (rv s r + rv s o)) := by
      refine lp_up _ _ (fun k hk ih k0 s1 t ht e v z f => ?_)
      obtain ⟨f1, f2⟩ := f.2 o (fun c => h3 c.symm)
      refine g_X11_adds_37 ?_
      rw [show s1 144 (50 * r + k) = rg s1 r k from rfl, show s1 144 (50 * o + k) = rg s1 o k from rfl, z k (Int.le_refl _)]
      refine ⟨by unfold jr32; omega, by unfold jr32; omega, fun q => ?_, fun q => ?_⟩
      · have kn : k = n := by omega
        rw [kn, vr, vo] at v
        have rgx : ∀ i, rg (w2 (w2 s1 144 (50 * r + n) t) 145 r (n + t)) r i = if i = n then t else rg s1 r i := fun i => by rw [rg_5, rg_w]
        have wx : w2 (w2 s1 144 (50 * r + n) t) 145 r (n + t) 145 r = n + t := w2_s _ _ _ _
        have zz : ∀ i, n + t ≤ i → i < 50 → rg (w2 (w2 s1 144 (50 * r + n) t) 145 r (n + t)) r i = 0 := fun i i0 i1 => by
          rw [rgx]
          by_cases x : i = n
          · rw [if_pos x]; omega
          · rw [if_neg x, z i (by omega)]; exact c i (by omega) i1
        have zz2 : ∀ i, n + 1 ≤ i → i < 50 → rg (w2 (w2 s1 144 (50 * r + n) t) 145 r (n + t)) r i = 0 := fun i i0 i1 => zz i (by omega) i1
        have p : PG (w2 (w2 s1 144 (50 * r + n) t) 145 r (n + t)) r (rv s r + rv s o) := by
          refine ⟨by rw [wx]; omega, fun i i0 i1 => ?_, by rw [wx]; exact zz, ?_⟩
          · rw [rgx]
            by_cases x : i = n
            · rw [if_pos x]; omega
            · rw [if_neg x]
              by_cases y : i < k
              · exact e i i0 y
              · rw [z i (by omega)]; exact bb i i0 i1
          · rw [vl_z0 (by omega) (show n + 1 ≤ 50 by omega) zz2, vl_s n49.1, rgx, if_pos rfl, vl_c (g := rg s1 r) n n49.1 (fun i i0 i1 => by rw [rgx, if_neg (by omega)]), v]
        refine ⟨by omega, h1, by rw [p.rv]; exact p, fun s2 q3 => ?_⟩
        rw [p.rv] at q3
        exact ⟨rfl, (f.tr ((RF.w4 (by omega)).tr RF.w5)).tr q3.1, q3.2⟩
      · rw [f2 k k0 (by omega)]
        have bk := bb k k0 (by omega)
        have bk' := bb' k k0 (by omega)
        refine ⟨by omega, by omega, by omega, ?_⟩
        rw [show (2 : Int) ^ Int.toNat 30 = 1073741824 from rfl]
        refine ih (by omega) (by omega) _ _ (by omega) (fun i i0 i1 => ?_) ?_ (fun i i0 => ?_) (f.tr (RF.w4 (by omega)))
        · rw [rg_w]
          by_cases x : i = k
          · rw [if_pos x]; omega
          · rw [if_neg x]; exact e i i0 (by omega)
        · rw [vl_s k0, vl_s k0, vl_s k0, bp_s k0, rg_w, if_pos rfl, vl_c (g := rg s1 r) k k0 (fun i i0 i1 => by rw [rg_w, if_neg (by omega)]), Int.add_assoc, dm_mul, Int.add_mul, Int.add_mul]
          omega
        · rw [rg_w, if_neg (by omega)]; exact z i (by omega)
    exact key 0 n49.1 (by omega) s 0 (by omega) (fun i i0 i1 => by omega) (by simp only [vl_0]; omega) (fun i _ => rfl) RF.rf
  exact g_X11_adds ⟨h1, h2, by unfold jr32; omega, by unfold jr32; omega, fun q => main _ (by omega) q (Int.le_refl _), fun q => main _ (by omega) (Int.le_refl _) (by omega)⟩
theorem sp_X11_multiplies (s : Int → Int → Int) (r o : Int) (hr : (0 ≤ r ∧ r < 15) ∧ (0 ≤ o ∧ o < 15) ∧ r ≠ o ∧ r ≠ 4 ∧ o ≠ 4) (h : RG s r (rv s r)) (g : RG s o (rv s o)) (hN : rv s r < bp 25 ∧ rv s o < bp 25) : kR mX11_multiplies [jR 143, jI r, jI o] s (fun u s' => u = none ∧ RF (fun q => q = r ∨ q = 4) s s' ∧ RG s' r (rv s r * rv s o)) := by
  obtain ⟨h1, h2, h3, h4, h5⟩ := hr
  have wr := h.wle (by omega) hN.1
  have wo := g.wle (by omega) hN.2
  have hv := h.1.vw
  have gv := g.1.vw
  obtain ⟨⟨a, bb, c, d⟩, -⟩ := id h
  obtain ⟨⟨a', bb', c', d'⟩, -⟩ := id g
  refine g_X11_multiplies ?_
  intro s0 q0
  obtain ⟨f0, z0⟩ := q0
  have key : ∀ i, i ≤ s 145 r → 0 ≤ i → ∀ s1, RF (fun q => q = 4) s s1 → dgt 50 (rg s1 4) → (∀ j, i + s 145 o ≤ j → j < 50 → rg s1 4 j = 0) → vl 50 (rg s1 4) = vl i (rg s r) * rv s o → kK mX11_multiplies 8 [jR 143, jI r, jI o, jI i, jU, jU, jU, jU, jU, jU, jU] [] s1 (fun u s' => u = none ∧ RF (fun q => q = r ∨ q = 4) s s' ∧ RG s' r (rv s r * rv s o)) := by
    refine lp_up _ _ (fun i hi ih i0 s1 f1 dg z v => ?_)
    obtain ⟨r1, r2⟩ := f1.2 r h4
    obtain ⟨o1, o2⟩ := f1.2 o h5
    refine g_X11_multiplies_8 ?_
    rw [r1, o1]
    refine ⟨h1, by unfold jr32; omega, by unfold jr32; omega, fun q => ⟨h2, ?_⟩, fun q => ?_⟩
    · have ei : i = s 145 r := by omega
      rw [ei, hv] at v
      rw [ei] at z
      have wx : w2 s1 145 4 (s 145 r + s 145 o) 145 4 = s 145 r + s 145 o := w2_s _ _ _ _
      have p : PG (w2 s1 145 4 (s 145 r + s 145 o)) 4 (rv s r * rv s o) := ⟨by rw [wx]; omega, by rw [rg_5]; exact dg, by rw [wx, rg_5]; exact z, by rw [rg_5]; exact v⟩
      refine ⟨by rw [p.rv]; exact p, fun s8 q8 => ?_⟩
      rw [p.rv] at q8
      refine ⟨⟨h1, by omega, h4⟩, q8.2.me, fun s13 q13 => ⟨rfl, ((f1.tr (RF.w5.tr q8.1)).wk (fun q e => Or.inr e)).tr (q13.1.wk (fun q e => Or.inl e)), ?_⟩⟩
      have e := q8.2.rv
      rw [e] at q13
      exact q13.2
    · have bi := bb i i0 (by omega)
      have inner : ∀ k, k ≤ s 145 o + 1 → 0 ≤ k → ∀ s2 t, (0 ≤ t ∧ t < 1073741824) → (k = s 145 o + 1 → t = 0) → RF (fun q => q = 4) s1 s2 → (∀ j, (j < i ∨ i + k ≤ j) → rg s2 4 j = rg s1 4 j) → (∀ j, 0 ≤ j → j < k → 0 ≤ rg s2 4 (i + j) ∧ rg s2 4 (i + j) < 1073741824) → vl k (fun j => rg s2 4 (i + j)) + t * bp k = vl k (fun j => rg s1 4 (i + j)) + rg s r i * vl k (rg s o) → kK mX11_multiplies 24 [jR 143, jI r, jI o, jI i, jL t, jU, jI k, jU, jU, jU, jU] [] s2 (fun u s' => u = none ∧ RF (fun q => q = r ∨ q = 4) s s' ∧ RG s' r (rv s r * rv s o)) := by
        refine lp_up _ _ (fun k hk jh k0 s2 t ht tk f2 un dn sm => ?_)
        have f12 : RF (fun q => q = 4) s s2 := f1.tr f2
        obtain ⟨r3, r4⟩ := f12.2 r h4
        obtain ⟨o3, o4⟩ := f12.2 o h5
        have st : ∀ by2, (0 ≤ by2 ∧ by2 ≤ 1073741823 * 1073741823) → by2 = rg s r i * rg s o k → (k = s 145 o → by2 = 0 ∧ rg s1 4 (i + k) = 0) → k ≤ s 145 o → kK mX11_multiplies 24 [jR 143, jI r, jI o, jI i, jL ((rg s1 4 (i + k) + by2 + t) / 1073741824), jU, jI (k + 1), jU, jU, jU, jU] [] (w2 s2 144 (50 * 4 + (i + k)) ((rg s1 4 (i + k) + by2 + t) % 1073741824)) (fun u s' => u = none ∧ RF (fun q => q = r ∨ q = 4) s s' ∧ RG s' r (rv s r * rv s o)) := fun by2 hb eb last kw => by
          have dk := dg (i + k) (by omega) (by omega)
          refine jh (by omega) (by omega) _ _ (by omega) (fun e => ?_) (f2.tr (RF.w4 (by omega))) (fun j hj => by rw [rg_w, if_neg (by omega)]; exact un j (by omega)) (fun j j0 j1 => ?_) ?_
          · have l := last (by omega)
            rw [l.1, l.2]
            omega
          · rw [rg_w]
            by_cases x : i + j = i + k
            · rw [if_pos x]; omega
            · rw [if_neg x]; exact dn j j0 (by omega)
          · rw [vl_s k0, vl_s k0, vl_s k0, bp_s k0, vl_c (f := fun j => rg (w2 s2 144 (50 * 4 + (i + k)) ((rg s1 4 (i + k) + by2 + t) % 1073741824)) 4 (i + j)) (g := fun j => rg s2 4 (i + j)) k k0 (fun j j0 j1 => by rw [rg_w, if_neg (by omega)]), rg_w, if_pos rfl, Int.add_assoc, dm_mul, Int.add_mul, Int.add_mul, Int.mul_add, eb]
            have : rg s r i * rg s o k * bp k = rg s r i * (rg s o k * bp k) := Int.mul_assoc _ _ _
            omega
        refine g_X11_multiplies_24 ?_
        rw [o3, show 200 + i + k = 50 * 4 + (i + k) by omega, show s2 144 (50 * 4 + (i + k)) = rg s2 4 (i + k) from rfl, show s2 144 (50 * r + i) = rg s2 r i from rfl, show s2 144 (50 * o + k) = rg s2 o k from rfl, un (i + k) (by omega), show (2 : Int) ^ Int.toNat 30 = 1073741824 from rfl]
        refine ⟨h2, by unfold jr32; omega, by unfold jr32; omega, fun q2 => ⟨fun q3 => by omega, fun q3 => ?_⟩, fun q2 => ⟨by unfold jr64; omega, fun q3 => ?_, fun q3 => ⟨fun q4 => ?_, fun q4 => by omega⟩⟩⟩
        · rw [r4 i i0 (by omega), o4 k k0 (by omega)]
          have bk := bb' k k0 (by omega)
          have dk := dg (i + k) (by omega) (by omega)
          have p0 := Int.mul_nonneg bi.1 bk.1
          have p1 : rg s r i * rg s o k ≤ 1073741823 * 1073741823 := Int.mul_le_mul (by omega) (by omega) bk.1 (by omega)
          exact ⟨by omega, by unfold jr32; omega, by omega, by unfold jr32; omega, by omega, by unfold jr32; omega, by unfold jr64; omega, st _ ⟨p0, p1⟩ rfl (fun e => by omega) (by omega)⟩
        · -- the row is taken in
          have t0 : t = 0 := by omega
          rw [t0, Int.zero_mul, Int.add_zero] at sm
          have vo := g.vk (w := k) (by omega) (by omega)
          rw [vo] at sm
          refine ih (by omega) (by omega) s2 f12 (fun j j0 j1 => ?_) (fun j j0 j1 => ?_) ?_
          · by_cases x : j < i
            · rw [un j (by omega)]; exact dg j j0 j1
            · by_cases y : j < i + k
              · have := dn (j - i) (by omega) (by omega)
                rw [show i + (j - i) = j by omega] at this
                exact this
              · rw [un j (by omega)]; exact dg j j0 j1
          · rw [un j (by omega)]; exact z j (by omega) j1
          · have s50 := vl_2 (rg s2 4) i0 (50 - i) (by omega)
            have t50 := vl_2 (rg s1 4) i0 (50 - i) (by omega)
            have s51 := vl_2 (fun j => rg s2 4 (i + j)) k0 (50 - i - k) (by omega)
            have t51 := vl_2 (fun j => rg s1 4 (i + j)) k0 (50 - i - k) (by omega)
            rw [show i + (50 - i) = 50 by omega] at s50 t50
            rw [show k + (50 - i - k) = 50 - i by omega] at s51 t51
            rw [vl_c (f := rg s2 4) (g := rg s1 4) i i0 (fun j j0 j1 => un j (by omega)), s51, vl_c (f := fun j => rg s2 4 (i + (k + j))) (g := fun j => rg s1 4 (i + (k + j))) (50 - i - k) (by omega) (fun j j0 j1 => un _ (by omega)), sm] at s50
            rw [s50, vl_s i0, Int.add_mul, ← v, t50, t51]
            grind
        · have hz : rg s1 4 (i + k) = 0 := z (i + k) (by omega) (by omega)
          have ez : rg s o k = 0 := c' k q4 (by omega)
          rw [hz]
          have := st 0 (by omega) (by rw [ez, Int.mul_zero]) (fun e => ⟨rfl, hz⟩) (by
            by_cases x : k = s 145 o + 1
            · have := tk x; omega
            · omega)
          rw [hz] at this
          exact ⟨by omega, by decide, by unfold jr64; omega, this⟩
      exact inner 0 (by omega) (by omega) s1 0 (by omega) (fun e => by omega) RF.rf (fun j _ => rfl) (fun j j0 j1 => by omega) (by simp only [vl_0]; omega)
  obtain ⟨z1, z2⟩ := z0
  refine key 0 a.1 (by omega) s0 f0 z1.2.1 (fun j j0 j1 => ?_) (by rw [vl_0, Int.zero_mul]; exact z1.2.2.2)
  have w0 : s0 145 4 = 0 := (show RG s0 4 0 from ⟨z1, z2⟩).w0.2 rfl
  exact z1.2.2.1 j (by omega) j1
