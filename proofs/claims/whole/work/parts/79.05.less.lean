theorem g_X11_lessens {s : Int → Int → Int} {Q : Option jV → (Int → Int → Int) → Prop} {v1 v2 : Int} (v : kK mX11_lessens 5 [jR 143, jI v1, jI v2, jI 0, jI 0, jU] [] s Q) : kR mX11_lessens [jR 143, jI v1, jI v2] s Q := by
  show kK mX11_lessens 0 [jR 143, jI v1, jI v2, jU, jU, jU] [] s Q
  refine k_iconst dX11_lessens_0 ?_
  refine k_istore_n [jR 143, jI v1, jI v2, jI 0, jU, jU] dX11_lessens_1 rfl rfl ?_
  refine k_iconst dX11_lessens_2 ?_
  refine k_istore [jR 143, jI v1, jI v2, jI 0, jI 0, jU] dX11_lessens_3 rfl rfl ?_
  exact v
theorem g_X11_lessens_5 {s : Int → Int → Int} {Q : Option jV → (Int → Int → Int) → Prop} {v1 v2 v3 v4 : Int} (v : ((0 ≤ v1 ∧ v1 < 15) ∧ jr32 v4 ∧ jr32 (s 145 v1) ∧ (((s 145 v1) ≤ v4 → ((PG s v1 (rv s v1)) ∧ (∀ (s7 : Int → Int → Int), (RF (fun q => q = v1) s s7 ∧ RG s7 v1 (rv s v1)) → Q none s7))) ∧ (¬ ((s 145 v1) ≤ v4) → ((0 ≤ ((50 * v1) + v4) ∧ ((50 * v1) + v4) < 750) ∧ (0 ≤ ((50 * v2) + v4) ∧ ((50 * v2) + v4) < 750) ∧ jr32 (((s 144 ((50 * v1) + v4)) - (s 144 ((50 * v2) + v4))) - v3) ∧ ((0 ≤ (((s 144 ((50 * v1) + v4)) - (s 144 ((50 * v2) + v4))) - v3) → kK mX11_lessens 5 [jR 143, jI v1, jI v2, jI 0, jI (v4 + 1), jU] [] (w2 s 144 ((50 * v1) + v4) ((((s 144 ((50 * v1) + v4)) - (s 144 ((50 * v2) + v4))) - v3) % 1073741824)) Q) ∧ (¬ (0 ≤ (((s 144 ((50 * v1) + v4)) - (s 144 ((50 * v2) + v4))) - v3)) → kK mX11_lessens 5 [jR 143, jI v1, jI v2, jI 1, jI (v4 + 1), jU] [] (w2 s 144 ((50 * v1) + v4) ((((s 144 ((50 * v1) + v4)) - (s 144 ((50 * v2) + v4))) - v3) % 1073741824)) Q))))))) : kK mX11_lessens 5 [jR 143, jI v1, jI v2, jI v3, jI v4, jU] [] s Q := by
  obtain ⟨a1, a2, a3, v⟩ := v
  refine k_iload dX11_lessens_5 rfl ?_
  refine k_aload_n dX11_lessens_7 rfl ?_
  refine k_getr dX11_lessens_8 fl_X11_13 sh_143 (by decide) rfl ?_
  refine k_iload_n dX11_lessens_11 rfl ?_
  refine k_iald 15 dX11_lessens_12 sh_145 (by decide) rfl (by decide) a1 ?_
  obtain ⟨vt, vf⟩ := v
  refine k_icmp_ge 79 dX11_lessens_13 rfl a2 a3 (fun c4 => ?_) (fun c4 => ?_)
  · have v := vt c4
    obtain ⟨a5, v⟩ := v
    refine k_aload_n dX11_lessens_79 rfl ?_
    refine k_iload_n dX11_lessens_80 rfl ?_
    refine k_invVR [jI v1] [] dX11_lessens_81 cm_X11_trims ml_X11_91 im_X11_trims se_X11_trims rfl sh_143 (by decide) rfl rfl (sp_X11_trims s v1 a1 a5) (fun _ s7 q8 => ?_)
    obtain ⟨rfl, q8⟩ := q8
    have v := v s7 q8
    exact k_return (st := []) dX11_lessens_84 rfl v
  · have v := vf c4
    obtain ⟨a9, a10, a11, v⟩ := v
    refine k_aload_n dX11_lessens_16 rfl ?_
    refine k_getr dX11_lessens_17 fl_X11_7 sh_143 (by decide) rfl ?_
    refine k_bipush dX11_lessens_20 rfl ?_
    refine k_iload_n dX11_lessens_22 rfl ?_
    refine k_imul dX11_lessens_23 ?_
    refine k_iload dX11_lessens_24 rfl ?_
    refine k_iadd dX11_lessens_26 ?_
    refine k_iald 750 dX11_lessens_27 sh_144 (by decide) rfl (by decide) a9 ?_
    refine k_aload_n dX11_lessens_28 rfl ?_
    refine k_getr dX11_lessens_29 fl_X11_7 sh_143 (by decide) rfl ?_
    refine k_bipush dX11_lessens_32 rfl ?_
    refine k_iload_n dX11_lessens_34 rfl ?_
    refine k_imul dX11_lessens_35 ?_
    refine k_iload dX11_lessens_36 rfl ?_
    refine k_iadd dX11_lessens_38 ?_
    refine k_iald 750 dX11_lessens_39 sh_144 (by decide) rfl (by decide) a10 ?_
    refine k_isub dX11_lessens_40 ?_
    refine k_iload_n dX11_lessens_41 rfl ?_
    refine k_isub dX11_lessens_42 ?_
    refine k_istore [jR 143, jI v1, jI v2, jI v3, jI v4, jI (((s 144 ((50 * v1) + v4)) - (s 144 ((50 * v2) + v4))) - v3)] dX11_lessens_43 rfl rfl ?_
    refine k_aload_n dX11_lessens_45 rfl ?_
    refine k_getr dX11_lessens_46 fl_X11_7 sh_143 (by decide) rfl ?_
    refine k_bipush dX11_lessens_49 rfl ?_
    refine k_iload_n dX11_lessens_51 rfl ?_
    refine k_imul dX11_lessens_52 ?_
    refine k_iload dX11_lessens_53 rfl ?_
    refine k_iadd dX11_lessens_55 ?_
    refine k_iload dX11_lessens_56 rfl ?_
    refine k_ldc (1073741823) (1073741823) dX11_lessens_58 ki_X11_99 rfl ?_
    refine k_andM dX11_lessens_60 ?_
    refine k_iast 750 dX11_lessens_61 sh_144 (by decide) rfl (by decide) a9 ?_
    refine k_iload dX11_lessens_62 rfl ?_
    obtain ⟨vt, vf⟩ := v
    refine k_if_ge 71 dX11_lessens_64 rfl a11 (fun c12 => ?_) (fun c12 => ?_)
    · have v := vt c12
      refine k_iconst dX11_lessens_71 ?_
      refine k_istore_n [jR 143, jI v1, jI v2, jI 0, jI v4, jI (((s 144 ((50 * v1) + v4)) - (s 144 ((50 * v2) + v4))) - v3)] dX11_lessens_72 rfl rfl ?_
      refine k_iinc [jR 143, jI v1, jI v2, jI 0, jI (v4 + 1), jI (((s 144 ((50 * v1) + v4)) - (s 144 ((50 * v2) + v4))) - v3)] dX11_lessens_73 rfl rfl rfl ?_
      refine k_goto 5 dX11_lessens_76 rfl ?_
      refine k_drop [jR 143, jI v1, jI v2, jI 0, jI (v4 + 1), jU] ⟨Or.inr rfl, Or.inr rfl, Or.inr rfl, Or.inr rfl, Or.inr rfl, Or.inl rfl, trivial⟩ ?_
      exact v
    · have v := vf c12
      refine k_iconst dX11_lessens_67 ?_
      refine k_goto 72 dX11_lessens_68 rfl ?_
      refine k_istore_n [jR 143, jI v1, jI v2, jI 1, jI v4, jI (((s 144 ((50 * v1) + v4)) - (s 144 ((50 * v2) + v4))) - v3)] dX11_lessens_72 rfl rfl ?_
      refine k_iinc [jR 143, jI v1, jI v2, jI 1, jI (v4 + 1), jI (((s 144 ((50 * v1) + v4)) - (s 144 ((50 * v2) + v4))) - v3)] dX11_lessens_73 rfl rfl rfl ?_
      refine k_goto 5 dX11_lessens_76 rfl ?_
      refine k_drop [jR 143, jI v1, jI v2, jI 1, jI (v4 + 1), jU] ⟨Or.inr rfl, Or.inr rfl, Or.inr rfl, Or.inr rfl, Or.inr rfl, Or.inl rfl, trivial⟩ ?_
      exact v
theorem g_X11_against {s : Int → Int → Int} {Q : Option jV → (Int → Int → Int) → Prop} {v1 v2 : Int} (v : ((0 ≤ v1 ∧ v1 < 15) ∧ (0 ≤ v2 ∧ v2 < 15) ∧ jr32 (s 145 v1) ∧ jr32 (s 145 v2) ∧ (((s 145 v1) = (s 145 v2) → kK mX11_against 45 [jR 143, jI v1, jI v2, jI ((s 145 v1) - 1)] [] s Q) ∧ (¬ ((s 145 v1) = (s 145 v2)) → (((s 145 v2) ≤ (s 145 v1) → Q (some (jI 1)) s) ∧ (¬ ((s 145 v2) ≤ (s 145 v1)) → Q (some (jI (-1))) s)))))) : kR mX11_against [jR 143, jI v1, jI v2] s Q := by
  show kK mX11_against 0 [jR 143, jI v1, jI v2, jU] [] s Q
  obtain ⟨a1, a2, a3, a4, v⟩ := v
  refine k_aload_n dX11_against_0 rfl ?_
  refine k_getr dX11_against_1 fl_X11_13 sh_143 (by decide) rfl ?_
  refine k_iload_n dX11_against_4 rfl ?_
  refine k_iald 15 dX11_against_5 sh_145 (by decide) rfl (by decide) a1 ?_
  refine k_aload_n dX11_against_6 rfl ?_
  refine k_getr dX11_against_7 fl_X11_13 sh_143 (by decide) rfl ?_
  refine k_iload_n dX11_against_10 rfl ?_
  refine k_iald 15 dX11_against_11 sh_145 (by decide) rfl (by decide) a2 ?_
  obtain ⟨vt, vf⟩ := v
  refine k_icmp_eq 36 dX11_against_12 rfl a3 a4 (fun c5 => ?_) (fun c5 => ?_)
  · have v := vt c5
    refine k_aload_n dX11_against_36 rfl ?_
    refine k_getr dX11_against_37 fl_X11_13 sh_143 (by decide) rfl ?_
    refine k_iload_n dX11_against_40 rfl ?_
    refine k_iald 15 dX11_against_41 sh_145 (by decide) rfl (by decide) a1 ?_
    refine k_iconst dX11_against_42 ?_
    refine k_isub dX11_against_43 ?_
    refine k_istore_n [jR 143, jI v1, jI v2, jI ((s 145 v1) - 1)] dX11_against_44 rfl rfl ?_
    exact v
  · have v := vf c5
    refine k_aload_n dX11_against_15 rfl ?_
    refine k_getr dX11_against_16 fl_X11_13 sh_143 (by decide) rfl ?_
    refine k_iload_n dX11_against_19 rfl ?_
    refine k_iald 15 dX11_against_20 sh_145 (by decide) rfl (by decide) a1 ?_
    refine k_aload_n dX11_against_21 rfl ?_
    refine k_getr dX11_against_22 fl_X11_13 sh_143 (by decide) rfl ?_
    refine k_iload_n dX11_against_25 rfl ?_
    refine k_iald 15 dX11_against_26 sh_145 (by decide) rfl (by decide) a2 ?_
    obtain ⟨vt, vf⟩ := v
    refine k_icmp_ge 34 dX11_against_27 rfl a3 a4 (fun c6 => ?_) (fun c6 => ?_)
    · have v := vt c6
      refine k_iconst dX11_against_34 ?_
      exact k_ireturn (st := []) dX11_against_35 rfl v
    · have v := vf c6
      refine k_iconst dX11_against_30 ?_
      refine k_goto 35 dX11_against_31 rfl ?_
      exact k_ireturn (st := []) dX11_against_35 rfl v
theorem g_X11_against_45 {s : Int → Int → Int} {Q : Option jV → (Int → Int → Int) → Prop} {v1 v2 v3 : Int} (v : (jr32 v3 ∧ ((v3 < 0 → Q (some (jI 0)) s) ∧ (¬ (v3 < 0) → ((0 ≤ ((50 * v1) + v3) ∧ ((50 * v1) + v3) < 750) ∧ (0 ≤ ((50 * v2) + v3) ∧ ((50 * v2) + v3) < 750) ∧ jr32 (s 144 ((50 * v1) + v3)) ∧ jr32 (s 144 ((50 * v2) + v3)) ∧ (((s 144 ((50 * v1) + v3)) = (s 144 ((50 * v2) + v3)) → kK mX11_against 45 [jR 143, jI v1, jI v2, jI (v3 + (-1))] [] s Q) ∧ (¬ ((s 144 ((50 * v1) + v3)) = (s 144 ((50 * v2) + v3))) → (((s 144 ((50 * v2) + v3)) ≤ (s 144 ((50 * v1) + v3)) → Q (some (jI 1)) s) ∧ (¬ ((s 144 ((50 * v2) + v3)) ≤ (s 144 ((50 * v1) + v3))) → Q (some (jI (-1))) s))))))))) : kK mX11_against 45 [jR 143, jI v1, jI v2, jI v3] [] s Q := by
  obtain ⟨a1, v⟩ := v
  refine k_iload_n dX11_against_45 rfl ?_
  obtain ⟨vt, vf⟩ := v
  refine k_if_lt 111 dX11_against_46 rfl a1 (fun c2 => ?_) (fun c2 => ?_)
  · have v := vt c2
    refine k_iconst dX11_against_111 ?_
    exact k_ireturn (st := []) dX11_against_112 rfl v
  · have v := vf c2
    obtain ⟨a3, a4, a5, a6, v⟩ := v
    refine k_aload_n dX11_against_49 rfl ?_
    refine k_getr dX11_against_50 fl_X11_7 sh_143 (by decide) rfl ?_
    refine k_bipush dX11_against_53 rfl ?_
    refine k_iload_n dX11_against_55 rfl ?_
    refine k_imul dX11_against_56 ?_
    refine k_iload_n dX11_against_57 rfl ?_
    refine k_iadd dX11_against_58 ?_
    refine k_iald 750 dX11_against_59 sh_144 (by decide) rfl (by decide) a3 ?_
    refine k_aload_n dX11_against_60 rfl ?_
    refine k_getr dX11_against_61 fl_X11_7 sh_143 (by decide) rfl ?_
    refine k_bipush dX11_against_64 rfl ?_
    refine k_iload_n dX11_against_66 rfl ?_
    refine k_imul dX11_against_67 ?_
    refine k_iload_n dX11_against_68 rfl ?_
    refine k_iadd dX11_against_69 ?_
    refine k_iald 750 dX11_against_70 sh_144 (by decide) rfl (by decide) a4 ?_
    obtain ⟨vt, vf⟩ := v
    refine k_icmp_eq 105 dX11_against_71 rfl a5 a6 (fun c7 => ?_) (fun c7 => ?_)
    · have v := vt c7
      refine k_iinc [jR 143, jI v1, jI v2, jI (v3 + (-1))] dX11_against_105 rfl rfl rfl ?_
      refine k_goto 45 dX11_against_108 rfl ?_
      exact v
    · have v := vf c7
      refine k_aload_n dX11_against_74 rfl ?_
      refine k_getr dX11_against_75 fl_X11_7 sh_143 (by decide) rfl ?_
      refine k_bipush dX11_against_78 rfl ?_
      refine k_iload_n dX11_against_80 rfl ?_
      refine k_imul dX11_against_81 ?_
      refine k_iload_n dX11_against_82 rfl ?_
      refine k_iadd dX11_against_83 ?_
      refine k_iald 750 dX11_against_84 sh_144 (by decide) rfl (by decide) a3 ?_
      refine k_aload_n dX11_against_85 rfl ?_
      refine k_getr dX11_against_86 fl_X11_7 sh_143 (by decide) rfl ?_
      refine k_bipush dX11_against_89 rfl ?_
      refine k_iload_n dX11_against_91 rfl ?_
      refine k_imul dX11_against_92 ?_
      refine k_iload_n dX11_against_93 rfl ?_
      refine k_iadd dX11_against_94 ?_
      refine k_iald 750 dX11_against_95 sh_144 (by decide) rfl (by decide) a4 ?_
      obtain ⟨vt, vf⟩ := v
      refine k_icmp_ge 103 dX11_against_96 rfl a5 a6 (fun c8 => ?_) (fun c8 => ?_)
      · have v := vt c8
        refine k_iconst dX11_against_103 ?_
        exact k_ireturn (st := []) dX11_against_104 rfl v
      · have v := vf c8
        refine k_iconst dX11_against_99 ?_
        refine k_goto 104 dX11_against_100 rfl ?_
        exact k_ireturn (st := []) dX11_against_104 rfl v
theorem RG.vk {s : Int → Int → Int} {r N w : Int} (h : RG s r N) (h1 : s 145 r ≤ w) (h2 : w ≤ 50) : vl w (rg s r) = N := by
  rw [vl_z0 h.1.1.1 h1 (fun i i0 i1 => h.1.2.2.1 i i0 (by omega))]
  exact h.1.vw
theorem sp_X11_lessens (s : Int → Int → Int) (r o : Int) (hr : (0 ≤ r ∧ r < 15) ∧ (0 ≤ o ∧ o < 15) ∧ r ≠ o) (h : RG s r (rv s r)) (g : RG s o (rv s o)) (hle : rv s o ≤ rv s r) : kR mX11_lessens [jR 143, jI r, jI o] s (fun u s' => u = none ∧ RF (fun q => q = r) s s' ∧ RG s' r (rv s r - rv s o)) := by
  obtain ⟨h1, h2, h3⟩ := hr
  have vw := h.1.vw
  have hb := h.b
  have gb := g.b
  have wo := g.wle h.1.1.1 (by omega)
  have vo := g.vk wo h.1.1.2
  obtain ⟨⟨a, b, c, d⟩, -⟩ := id h
  have bo := g.1.2.1
  refine g_X11_lessens ?_
  have key : ∀ k, k ≤ s 145 r → 0 ≤ k → ∀ s1 t, (0 ≤ t ∧ t ≤ 1) → (∀ i, 0 ≤ i → i < k → 0 ≤ rg s1 r i ∧ rg s1 r i < 1073741824) → vl k (rg s1 r) = vl k (rg s r) - vl k (rg s o) + t * bp k → (∀ i, k ≤ i → rg s1 r i = rg s r i) → s1 145 r = s 145 r → RF (fun q => q = r) s s1 → kK mX11_lessens 5 [jR 143, jI r, jI o, jI t, jI k, jU] [] s1 (fun u s' => u = none ∧ RF (fun q => q = r) s s' ∧ RG s' r (rv s r - rv s o)) := by
    refine lp_up _ _ (fun k hk ih k0 s1 t ht e v z w f => ?_)
    obtain ⟨f1, f2⟩ := f.2 o (fun c => h3 c.symm)
    refine g_X11_lessens_5 ?_
    rw [w, show s1 144 (50 * r + k) = rg s1 r k from rfl, show s1 144 (50 * o + k) = rg s1 o k from rfl, z k (by omega)]
    refine ⟨h1, by unfold jr32; omega, by unfold jr32; omega, fun q => ?_, fun q => ?_⟩
    · have kw : k = s 145 r := by omega
      rw [kw, vw, vo] at v
      have dg : dgt 50 (rg s1 r) := fun i i0 i1 => by
        by_cases x : i < k
        · exact e i i0 x
        · rw [z i (by omega)]; exact b i i0 i1
      have zz : ∀ i, s 145 r ≤ i → i < 50 → rg s1 r i = 0 := fun i i0 i1 => by rw [z i (by omega)]; exact c i i0 i1
      have vb := vl_b (f := rg s1 r) (s 145 r) a.1 (dg.le a.2)
      have t0 : t = 0 := by
        by_cases x : t = 0
        · exact x
        · rw [show t = 1 by omega] at v; omega
      rw [t0] at v
      have p : PG s1 r (rv s r - rv s o) := ⟨by rw [w]; exact a, dg, by rw [w]; exact zz, by rw [vl_z0 a.1 a.2 zz]; omega⟩
      refine ⟨by rw [p.rv]; exact p, fun s2 q3 => ?_⟩
      rw [p.rv] at q3
      exact ⟨rfl, f.tr q3.1, q3.2⟩
    · rw [f2 k k0 (by omega)]
      have bk := b k k0 (by omega)
      have bok := bo k k0 (by omega)
      have st : ∀ t2, (0 ≤ t2 ∧ t2 ≤ 1) → rg s r k - rg s o k - t = (rg s r k - rg s o k - t) % 1073741824 - t2 * 1073741824 → kK mX11_lessens 5 [jR 143, jI r, jI o, jI t2, jI (k + 1), jU] [] (w2 s1 144 (50 * r + k) ((rg s r k - rg s o k - t) % 1073741824)) (fun u s' => u = none ∧ RF (fun q => q = r) s s' ∧ RG s' r (rv s r - rv s o)) := fun t2 ht2 hv => by
        refine ih (by omega) (by omega) _ t2 ht2 (fun i i0 i1 => ?_) ?_ (fun i i0 => ?_) (by rw [w2_k (by omega)]; exact w) (f.tr (RF.w4 (by omega)))
        · rw [rg_w]
          by_cases x : i = k
          · rw [if_pos x]; omega
          · rw [if_neg x]; exact e i i0 (by omega)
        · rw [vl_s k0, vl_s k0, vl_s k0, bp_s k0, rg_w, if_pos rfl, vl_c (g := rg s1 r) k k0 (fun i i0 i1 => by rw [rg_w, if_neg (by omega)]), v]
          generalize (rg s r k - rg s o k - t) % 1073741824 = n at hv ⊢
          have : n = rg s r k - rg s o k - t + t2 * 1073741824 := by omega
          rw [this]
          grind
        · rw [rg_w, if_neg (by omega)]; exact z i (by omega)
      exact ⟨by omega, by omega, by unfold jr32; omega, fun c0 => st 0 (by omega) (by omega), fun c0 => st 1 (by omega) (by omega)⟩
  exact key 0 (by omega) (by omega) s 0 (by omega) (fun i i0 i1 => by omega) (by rw [vl_0, vl_0]; omega) (fun i _ => rfl) rfl RF.rf
theorem cmp_vl {f g : Int → Int} {w k : Int} (hk : 0 ≤ k ∧ k < w) (df : dgt w f) (dg : dgt w g) (e : ∀ i, k < i → i < w → f i = g i) (h : f k < g k) : vl w f < vl w g := by
  have a := vl_2 f (i := k + 1) (by omega) (w - (k + 1)) (by omega)
  have b := vl_2 g (i := k + 1) (by omega) (w - (k + 1)) (by omega)
  rw [show k + 1 + (w - (k + 1)) = w by omega] at a b
  rw [vl_c (f := fun j => f (k + 1 + j)) (g := fun j => g (k + 1 + j)) (w - (k + 1)) (by omega) (fun i i0 i1 => e _ (by omega) (by omega)), vl_s hk.1] at a
  rw [vl_s hk.1] at b
  have c := vl_b k hk.1 (df.le (by omega))
  have d := vl_b k hk.1 (dg.le (by omega))
  have p := bp_pos k
  have := Int.mul_le_mul_of_nonneg_right (show f k + 1 ≤ g k by omega) (show (0 : Int) ≤ bp k by omega)
  rw [Int.add_mul] at this
  omega
theorem sp_X11_against (s : Int → Int → Int) (r o : Int) (h1 : 0 ≤ r ∧ r < 15) (h2 : 0 ≤ o ∧ o < 15) (h : RG s r (rv s r)) (g : RG s o (rv s o)) : kR mX11_against [jR 143, jI r, jI o] s (fun u s' => ∃ y, u = some (jI y) ∧ ((y < 0 ↔ rv s r < rv s o) ∧ (0 < y ↔ rv s o < rv s r) ∧ jr32 y) ∧ s' = s) := by
  have hb := h.b
  have gb := g.b
  have hw := h.1.vw
  have gw := g.1.vw
  obtain ⟨⟨a, b, c, d⟩, m⟩ := id h
  obtain ⟨⟨a', b', c', d'⟩, m'⟩ := id g
  refine g_X11_against ⟨h1, h2, by unfold jr32; omega, by unfold jr32; omega, fun q => ?_, fun q => ⟨fun q2 => ⟨1, rfl, ?_, rfl⟩, fun q2 => ⟨-1, rfl, ?_, rfl⟩⟩⟩
  · rw [← q] at gw a' gb
    have key : ∀ k, -1 ≤ k → k < s 145 r → (∀ i, k < i → i < s 145 r → rg s r i = rg s o i) → kK mX11_against 45 [jR 143, jI r, jI o, jI k] [] s (fun u s' => ∃ y, u = some (jI y) ∧ ((y < 0 ↔ rv s r < rv s o) ∧ (0 < y ↔ rv s o < rv s r) ∧ jr32 y) ∧ s' = s) := by
      refine lp_dn (-1) _ (fun k hk ih k1 e => ?_)
      refine g_X11_against_45 ?_
      rw [show s 144 (50 * r + k) = rg s r k from rfl, show s 144 (50 * o + k) = rg s o k from rfl]
      refine ⟨by unfold jr32; omega, fun q2 => ?_, fun q2 => ?_⟩
      · have : rv s r = rv s o := by rw [← hw, ← gw]; exact vl_c _ a.1 (fun i i0 i1 => e i (by omega) i1)
        exact ⟨0, rfl, ⟨by omega, by omega, by decide⟩, rfl⟩
      · have bk := b k (by omega) (by omega)
        have bk' := b' k (by omega) (by omega)
        refine ⟨by omega, by omega, by unfold jr32; omega, by unfold jr32; omega, fun q3 => ?_, fun q3 => ⟨fun q4 => ?_, fun q4 => ?_⟩⟩
        · rw [show k + -1 = k - 1 by omega]
          refine ih (by omega) (by omega) (fun i i0 i1 => ?_)
          by_cases x : i = k
          · rw [x]; exact q3
          · exact e i (by omega) i1
        · have := cmp_vl (f := rg s o) (g := rg s r) (w := s 145 r) (k := k) (by omega) (b'.le a.2) (b.le a.2) (fun i i0 i1 => (e i i0 i1).symm) (by omega)
          rw [hw, gw] at this
          exact ⟨1, rfl, ⟨by omega, by omega, by decide⟩, rfl⟩
        · have := cmp_vl (f := rg s r) (g := rg s o) (w := s 145 r) (k := k) (by omega) (b.le a.2) (b'.le a.2) e (by omega)
          rw [hw, gw] at this
          exact ⟨-1, rfl, ⟨by omega, by omega, by decide⟩, rfl⟩
    exact key _ (by omega) (by omega) (fun i i0 i1 => by omega)
  · have := bp_le (show s 145 o ≤ s 145 r - 1 by omega)
    have : bp (s 145 r - 1) ≤ rv s r := m.resolve_left (by omega)
    exact ⟨by omega, by omega, by decide⟩
  · have := bp_le (show s 145 r ≤ s 145 o - 1 by omega)
    have : bp (s 145 o - 1) ≤ rv s o := m'.resolve_left (by omega)
    exact ⟨by omega, by omega, by decide⟩
