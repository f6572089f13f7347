theorem g_X10_asIn {s : Int → Int → Int} {Q : Option jV → (Int → Int → Int) → Prop} {v1 v2 v3 : Int} (v : (jr32 v1 ∧ ((¬ (0 ≤ v1 ∧ v1 ≤ 9) → Q (some (jI (-2))) s) ∧ (0 ≤ v1 ∧ v1 ≤ 9 → (jr32 v2 ∧ ((¬ (0 ≤ v2 ∧ v2 ≤ 39) → Q (some (jI (-2))) s) ∧ (0 ≤ v2 ∧ v2 ≤ 39 → (jr32 v3 ∧ ((0 ≤ v3 ∧ v3 ≤ 39 → ((DD s) ∧ (∀ (s9 : Int → Int → Int), (frm (fun k => k = 84) s s9 ∧ ∀ i, 0 ≤ i → i < 10 → s9 84 i = yc s v2 (-1) i) → ((DD s9) ∧ (∀ (s13 : Int → Int → Int), (frm (fun k => k = 85) s9 s13 ∧ ∀ i, 0 ≤ i → i < 10 → s13 85 i = yc s9 v3 (-1) i) → (jr32 (sg (9 + 1) (s13 84)) ∧ (((sg (9 + 1) (s13 84)) = 0 → Q (some (jI (-3))) s13) ∧ (¬ ((sg (9 + 1) (s13 84)) = 0) → (jr32 (sg (9 + 1) (s13 85)) ∧ (((sg (9 + 1) (s13 85)) ≠ 0 → ((0 ≤ v1 ∧ v1 ≤ 9) ∧ (∀ k, 0 ≤ k → k ≤ 10 → 0 ≤ sg k (s13 84) ∧ sg k (s13 84) ≤ 240) ∧ (∀ k, 0 ≤ k → k ≤ 10 → 0 ≤ sg k (s13 85) ∧ sg k (s13 85) ≤ 240) ∧ (∀ (y22 : Int) (s23 : Int → Int → Int), (fstk 10 (fun v => v = 9 ∨ sg (v1 + 1) (s13 84) * sg 10 (s13 85) ≤ sg (v + 1) (s13 85) * sg 10 (s13 84)) y22 ∧ s23 = s13) → Q (some (jI y22)) s23))) ∧ ((sg (9 + 1) (s13 85)) = 0 → Q (some (jI (-3))) s13))))))))))) ∧ (¬ (0 ≤ v3 ∧ v3 ≤ 39) → Q (some (jI (-2))) s)))))))))) : kR mX10_asIn [jR 1, jI v1, jI v2, jI v3] s Q := by
  show kK mX10_asIn 0 [jR 1, jI v1, jI v2, jI v3] [] s Q
  obtain ⟨a1, v⟩ := v
  refine k_iload_n dX10_asIn_0 rfl ?_
  refine k_invS [jI v1] [] dX10_asIn_1 cm_X10_isRank ml_X10_88 st_X10_isRank rfl rfl (sp_X10_isRank s v1 a1) ?_
  obtain ⟨vt, vf⟩ := v
  refine k_ifb_eq 21 dX10_asIn_4 rfl (fun c2 => ?_) (fun c2 => ?_)
  · have v := vt c2
    refine k_bipush dX10_asIn_21 rfl ?_
    exact k_ireturn (st := []) dX10_asIn_23 rfl v
  · have v := vf c2
    obtain ⟨a3, v⟩ := v
    refine k_iload_n dX10_asIn_7 rfl ?_
    refine k_invS [jI v2] [] dX10_asIn_8 cm_X10_isYear ml_X10_116 st_X10_isYear rfl rfl (sp_X10_isYear s v2 a3) ?_
    obtain ⟨vt, vf⟩ := v
    refine k_ifb_eq 21 dX10_asIn_11 rfl (fun c4 => ?_) (fun c4 => ?_)
    · have v := vt c4
      refine k_bipush dX10_asIn_21 rfl ?_
      exact k_ireturn (st := []) dX10_asIn_23 rfl v
    · have v := vf c4
      obtain ⟨a5, v⟩ := v
      refine k_iload_n dX10_asIn_14 rfl ?_
      refine k_invS [jI v3] [] dX10_asIn_15 cm_X10_isYear ml_X10_116 st_X10_isYear rfl rfl (sp_X10_isYear s v3 a5) ?_
      obtain ⟨vt, vf⟩ := v
      refine k_ifb_ne 24 dX10_asIn_18 rfl (fun c6 => ?_) (fun c6 => ?_)
      · have v := vt c6
        obtain ⟨a7, v⟩ := v
        refine k_aload_n dX10_asIn_24 rfl ?_
        refine k_getr dX10_asIn_25 fl_X10_47 sh_1 (by decide) rfl ?_
        refine k_aload_n dX10_asIn_28 rfl ?_
        refine k_getr dX10_asIn_29 fl_X10_47 sh_1 (by decide) rfl ?_
        refine k_getr dX10_asIn_32 fl_X10_180 sh_83 (by decide) rfl ?_
        refine k_iload_n dX10_asIn_35 rfl ?_
        refine k_iconst dX10_asIn_36 ?_
        refine k_invVR [jR 84, jI v2, jI (-1)] [] dX10_asIn_37 cm_X9_take ml_X10_183 im_X9_take se_X9_take rfl sh_83 (by decide) rfl rfl (sp_X9_take s 84 v2 (-1) a7 a3 (by decide) (by decide) sh_84 (by decide)) (fun _ s9 q10 => ?_)
        obtain ⟨rfl, q10⟩ := q10
        have v := v s9 q10
        obtain ⟨a11, v⟩ := v
        refine k_aload_n dX10_asIn_40 rfl ?_
        refine k_getr dX10_asIn_41 fl_X10_47 sh_1 (by decide) rfl ?_
        refine k_aload_n dX10_asIn_44 rfl ?_
        refine k_getr dX10_asIn_45 fl_X10_47 sh_1 (by decide) rfl ?_
        refine k_getr dX10_asIn_48 fl_X10_195 sh_83 (by decide) rfl ?_
        refine k_iload_n dX10_asIn_51 rfl ?_
        refine k_iconst dX10_asIn_52 ?_
        refine k_invVR [jR 85, jI v3, jI (-1)] [] dX10_asIn_53 cm_X9_take ml_X10_183 im_X9_take se_X9_take rfl sh_83 (by decide) rfl rfl (sp_X9_take s9 85 v3 (-1) a11 a5 (by decide) (by decide) sh_85 (by decide)) (fun _ s13 q14 => ?_)
        obtain ⟨rfl, q14⟩ := q14
        have v := v s13 q14
        obtain ⟨a15, v⟩ := v
        refine k_aload_n dX10_asIn_56 rfl ?_
        refine k_getr dX10_asIn_57 fl_X10_47 sh_1 (by decide) rfl ?_
        refine k_aload_n dX10_asIn_60 rfl ?_
        refine k_getr dX10_asIn_61 fl_X10_47 sh_1 (by decide) rfl ?_
        refine k_getr dX10_asIn_64 fl_X10_180 sh_83 (by decide) rfl ?_
        refine k_bipush dX10_asIn_67 rfl ?_
        refine k_invV [jR 84, jI 9] [] dX10_asIn_69 cm_X9_wordsUpTo ml_X10_187 im_X9_wordsUpTo se_X9_wordsUpTo rfl sh_83 (by decide) rfl rfl (sp_X9_wordsUpTo s13 84 9 (by decide) sh_84 (by decide)) ?_
        obtain ⟨vt, vf⟩ := v
        refine k_if_eq 94 dX10_asIn_72 rfl a15 (fun c16 => ?_) (fun c16 => ?_)
        · have v := vt c16
          refine k_bipush dX10_asIn_94 rfl ?_
          exact k_ireturn (st := []) dX10_asIn_96 rfl v
        · have v := vf c16
          obtain ⟨a17, v⟩ := v
          refine k_aload_n dX10_asIn_75 rfl ?_
          refine k_getr dX10_asIn_76 fl_X10_47 sh_1 (by decide) rfl ?_
          refine k_aload_n dX10_asIn_79 rfl ?_
          refine k_getr dX10_asIn_80 fl_X10_47 sh_1 (by decide) rfl ?_
          refine k_getr dX10_asIn_83 fl_X10_195 sh_83 (by decide) rfl ?_
          refine k_bipush dX10_asIn_86 rfl ?_
          refine k_invV [jR 85, jI 9] [] dX10_asIn_88 cm_X9_wordsUpTo ml_X10_187 im_X9_wordsUpTo se_X9_wordsUpTo rfl sh_83 (by decide) rfl rfl (sp_X9_wordsUpTo s13 85 9 (by decide) sh_85 (by decide)) ?_
          obtain ⟨vt, vf⟩ := v
          refine k_if_ne 97 dX10_asIn_91 rfl a17 (fun c18 => ?_) (fun c18 => ?_)
          · have v := vt c18
            obtain ⟨a19, a20, a21, v⟩ := v
            refine k_aload_n dX10_asIn_97 rfl ?_
            refine k_getr dX10_asIn_98 fl_X10_47 sh_1 (by decide) rfl ?_
            refine k_iload_n dX10_asIn_101 rfl ?_
            refine k_invVR [jI v1] [] dX10_asIn_102 cm_X9_rankInSecond ml_X10_198 im_X9_rankInSecond se_X9_rankInSecond rfl sh_83 (by decide) rfl rfl (sp_X9_rankInSecond s13 v1 a19 a20 a21) (fun _ s23 q24 => ?_)
            obtain ⟨y22, rfl, q24⟩ := q24
            have v := v y22 s23 q24
            exact k_ireturn (st := []) dX10_asIn_105 rfl v
          · have v := vf c18
            refine k_bipush dX10_asIn_94 rfl ?_
            exact k_ireturn (st := []) dX10_asIn_96 rfl v
      · have v := vf c6
        refine k_bipush dX10_asIn_21 rfl ?_
        exact k_ireturn (st := []) dX10_asIn_23 rfl v
theorem g_X11_asIn {s : Int → Int → Int} {Q : Option jV → (Int → Int → Int) → Prop} {v1 v2 v3 : Int} (v : (jr32 v1 ∧ jr64 v1 ∧ ((¬ (0 ≤ v1 ∧ v1 ≤ 9) → Q (some (jI (-2))) s) ∧ (0 ≤ v1 ∧ v1 ≤ 9 → (jr32 v2 ∧ ((¬ (0 ≤ v2 ∧ v2 ≤ 39) → Q (some (jI (-2))) s) ∧ (0 ≤ v2 ∧ v2 ≤ 39 → (jr32 v3 ∧ ((0 ≤ v3 ∧ v3 ≤ 39 → ((DD s) ∧ jr32 (wlp s (s 146 3) v2 (-1) 9) ∧ (((wlp s (s 146 3) v2 (-1) 9) = 0 → Q (some (jI (-3))) s) ∧ (¬ ((wlp s (s 146 3) v2 (-1) 9) = 0) → (jr32 (wlp s (s 146 3) v3 (-1) 9) ∧ (((wlp s (s 146 3) v3 (-1) 9) ≠ 0 → kK mX11_asIn 74 [jR 143, jU, jU, jI v3, jI (wlp s (s 146 3) v2 (-1) 9), jI (wlp s (s 146 3) v3 (-1) 9), jI (wlp s (s 146 3) v2 (-1) v1), jI 0] [] s Q) ∧ ((wlp s (s 146 3) v3 (-1) 9) = 0 → Q (some (jI (-3))) s))))))) ∧ (¬ (0 ≤ v3 ∧ v3 ≤ 39) → Q (some (jI (-2))) s)))))))))) : kR mX11_asIn [jR 143, jI v1, jI v2, jI v3] s Q := by
  show kK mX11_asIn 0 [jR 143, jI v1, jI v2, jI v3, jU, jU, jU, jU] [] s Q
  obtain ⟨a1, a2, v⟩ := v
  refine k_iload_n dX11_asIn_0 rfl ?_
  refine k_i2l dX11_asIn_1 a1 ?_
  refine k_lconst 0 dX11_asIn_2 rfl ?_
  refine k_ldc2 (9) (9) dX11_asIn_3 kl_X11_124 rfl ?_
  refine k_invS [jL v1, jL 0, jL 9] [] dX11_asIn_6 cm_X11_in ml_X11_120 st_X11_in rfl rfl (sp_X11_in s v1 0 9 a2 (by decide) (by decide)) ?_
  obtain ⟨vt, vf⟩ := v
  refine k_ifb_eq 26 dX11_asIn_9 rfl (fun c3 => ?_) (fun c3 => ?_)
  · have v := vt c3
    refine k_bipush dX11_asIn_26 rfl ?_
    exact k_ireturn (st := []) dX11_asIn_28 rfl v
  · have v := vf c3
    obtain ⟨a4, v⟩ := v
    refine k_iload_n dX11_asIn_12 rfl ?_
    refine k_invS [jI v2] [] dX11_asIn_13 cm_X11_isYear ml_X11_185 st_X11_isYear rfl rfl (sp_X11_isYear s v2 a4) ?_
    obtain ⟨vt, vf⟩ := v
    refine k_ifb_eq 26 dX11_asIn_16 rfl (fun c5 => ?_) (fun c5 => ?_)
    · have v := vt c5
      refine k_bipush dX11_asIn_26 rfl ?_
      exact k_ireturn (st := []) dX11_asIn_28 rfl v
    · have v := vf c5
      obtain ⟨a6, v⟩ := v
      refine k_iload_n dX11_asIn_19 rfl ?_
      refine k_invS [jI v3] [] dX11_asIn_20 cm_X11_isYear ml_X11_185 st_X11_isYear rfl rfl (sp_X11_isYear s v3 a6) ?_
      obtain ⟨vt, vf⟩ := v
      refine k_ifb_ne 29 dX11_asIn_23 rfl (fun c7 => ?_) (fun c7 => ?_)
      · have v := vt c7
        obtain ⟨a8, a9, v⟩ := v
        refine k_aload_n dX11_asIn_29 rfl ?_
        refine k_iload_n dX11_asIn_30 rfl ?_
        refine k_iconst dX11_asIn_31 ?_
        refine k_bipush dX11_asIn_32 rfl ?_
        refine k_invV [jI v2, jI (-1), jI 9] [] dX11_asIn_34 cm_X11_wordsIn ml_X11_188 im_X11_wordsIn se_X11_wordsIn rfl sh_143 (by decide) rfl rfl (sp_X11_wordsIn s v2 (-1) 9 a8 a4 (by decide) (by decide)) ?_
        refine k_istore [jR 143, jI v1, jI v2, jI v3, jI (wlp s (s 146 3) v2 (-1) 9), jU, jU, jU] dX11_asIn_37 rfl rfl ?_
        refine k_aload_n dX11_asIn_39 rfl ?_
        refine k_iload_n dX11_asIn_40 rfl ?_
        refine k_iconst dX11_asIn_41 ?_
        refine k_bipush dX11_asIn_42 rfl ?_
        refine k_invV [jI v3, jI (-1), jI 9] [] dX11_asIn_44 cm_X11_wordsIn ml_X11_188 im_X11_wordsIn se_X11_wordsIn rfl sh_143 (by decide) rfl rfl (sp_X11_wordsIn s v3 (-1) 9 a8 a6 (by decide) (by decide)) ?_
        refine k_istore [jR 143, jI v1, jI v2, jI v3, jI (wlp s (s 146 3) v2 (-1) 9), jI (wlp s (s 146 3) v3 (-1) 9), jU, jU] dX11_asIn_47 rfl rfl ?_
        refine k_iload dX11_asIn_49 rfl ?_
        obtain ⟨vt, vf⟩ := v
        refine k_if_eq 59 dX11_asIn_51 rfl a9 (fun c10 => ?_) (fun c10 => ?_)
        · have v := vt c10
          refine k_bipush dX11_asIn_59 rfl ?_
          exact k_ireturn (st := []) dX11_asIn_61 rfl v
        · have v := vf c10
          obtain ⟨a11, v⟩ := v
          refine k_iload dX11_asIn_54 rfl ?_
          obtain ⟨vt, vf⟩ := v
          refine k_if_ne 62 dX11_asIn_56 rfl a11 (fun c12 => ?_) (fun c12 => ?_)
          · have v := vt c12
            refine k_aload_n dX11_asIn_62 rfl ?_
            refine k_iload_n dX11_asIn_63 rfl ?_
            refine k_iconst dX11_asIn_64 ?_
            refine k_iload_n dX11_asIn_65 rfl ?_
            refine k_invV [jI v2, jI (-1), jI v1] [] dX11_asIn_66 cm_X11_wordsIn ml_X11_188 im_X11_wordsIn se_X11_wordsIn rfl sh_143 (by decide) rfl rfl (sp_X11_wordsIn s v2 (-1) v1 a8 a4 (by decide) a1) ?_
            refine k_istore [jR 143, jI v1, jI v2, jI v3, jI (wlp s (s 146 3) v2 (-1) 9), jI (wlp s (s 146 3) v3 (-1) 9), jI (wlp s (s 146 3) v2 (-1) v1), jU] dX11_asIn_69 rfl rfl ?_
            refine k_iconst dX11_asIn_71 ?_
            refine k_istore [jR 143, jI v1, jI v2, jI v3, jI (wlp s (s 146 3) v2 (-1) 9), jI (wlp s (s 146 3) v3 (-1) 9), jI (wlp s (s 146 3) v2 (-1) v1), jI 0] dX11_asIn_72 rfl rfl ?_
            refine k_drop [jR 143, jU, jU, jI v3, jI (wlp s (s 146 3) v2 (-1) 9), jI (wlp s (s 146 3) v3 (-1) 9), jI (wlp s (s 146 3) v2 (-1) v1), jI 0] ⟨Or.inr rfl, Or.inl rfl, Or.inl rfl, Or.inr rfl, Or.inr rfl, Or.inr rfl, Or.inr rfl, Or.inr rfl, trivial⟩ ?_
            exact v
          · have v := vf c12
            refine k_bipush dX11_asIn_59 rfl ?_
            exact k_ireturn (st := []) dX11_asIn_61 rfl v
      · have v := vf c7
        refine k_bipush dX11_asIn_26 rfl ?_
        exact k_ireturn (st := []) dX11_asIn_28 rfl v
theorem g_X11_asIn_74 {s : Int → Int → Int} {Q : Option jV → (Int → Int → Int) → Prop} {v3 v4 v5 v6 v7 : Int} (v : ((DD s) ∧ jr32 v3 ∧ jr32 v7 ∧ jr32 ((wlp s (s 146 3) v3 (-1) v7) * v4) ∧ jr32 (v6 * v5) ∧ (((v6 * v5) ≤ ((wlp s (s 146 3) v3 (-1) v7) * v4) → Q (some (jI v7)) s) ∧ (¬ ((v6 * v5) ≤ ((wlp s (s 146 3) v3 (-1) v7) * v4)) → kK mX11_asIn 74 [jR 143, jU, jU, jI v3, jI v4, jI v5, jI v6, jI (v7 + 1)] [] s Q)))) : kK mX11_asIn 74 [jR 143, jU, jU, jI v3, jI v4, jI v5, jI v6, jI v7] [] s Q := by
  obtain ⟨a1, a2, a3, a4, a5, v⟩ := v
  refine k_aload_n dX11_asIn_74 rfl ?_
  refine k_iload_n dX11_asIn_75 rfl ?_
  refine k_iconst dX11_asIn_76 ?_
  refine k_iload dX11_asIn_77 rfl ?_
  refine k_invV [jI v3, jI (-1), jI v7] [] dX11_asIn_79 cm_X11_wordsIn ml_X11_188 im_X11_wordsIn se_X11_wordsIn rfl sh_143 (by decide) rfl rfl (sp_X11_wordsIn s v3 (-1) v7 a1 a2 (by decide) a3) ?_
  refine k_iload dX11_asIn_82 rfl ?_
  refine k_imul dX11_asIn_84 ?_
  refine k_iload dX11_asIn_85 rfl ?_
  refine k_iload dX11_asIn_87 rfl ?_
  refine k_imul dX11_asIn_89 ?_
  obtain ⟨vt, vf⟩ := v
  refine k_icmp_ge 99 dX11_asIn_90 rfl a4 a5 (fun c6 => ?_) (fun c6 => ?_)
  · have v := vt c6
    refine k_iload dX11_asIn_99 rfl ?_
    exact k_ireturn (st := []) dX11_asIn_101 rfl v
  · have v := vf c6
    refine k_iinc [jR 143, jU, jU, jI v3, jI v4, jI v5, jI v6, jI (v7 + 1)] dX11_asIn_93 rfl rfl rfl ?_
    refine k_goto 74 dX11_asIn_96 rfl ?_
    exact v
theorem jbo_le {p q : Prop} [Decidable p] [Decidable q] (h : p → q) : jbo p ≤ jbo q := by
  by_cases hp : p
  · rw [jbo_t hp, jbo_t (h hp)]; omega
  · rw [jbo_f hp]; exact (jbo_01' q).1
theorem fstk.cg2 {n : Int} {P R : Int → Prop} {r : Int} (h : fstk n P r) (e : ∀ k, 0 ≤ k → k < n → (P k ↔ R k)) : fstk n R r := by
  rcases h with ⟨h1, h2⟩ | ⟨h1, h2, h3, h4⟩
  · exact Or.inl ⟨h1, fun k k0 k1 q => h2 k k0 k1 ((e k k0 k1).2 q)⟩
  · exact Or.inr ⟨h1, h2, (e r h1 h2).1 h3, fun k k0 k1 q => h4 k k0 k1 ((e k k0 (by omega)).2 q)⟩
theorem wlp_b {s : Int → Int → Int} (d : DD s) (y h r : Int) : 0 ≤ wlp s (s 146 3) y h r ∧ wlp s (s 146 3) y h r ≤ 240 := by
  obtain ⟨e0, e1, e2, e3⟩ := d.cnt
  have := sg_b (f := fun l => if s 154 l = y ∧ (h = -1 ∨ s 152 l = h) then sg (s 155 l) (fun k => jbo (s 147 (s 156 (8 * l + k)) ≤ r)) else 0) (a := 0) (b := 8) e3.2.1 (fun l l0 l1 => by
    obtain ⟨-, -, -, f4⟩ := d.let l0 l1
    have := sg_b (f := fun k => jbo (s 147 (s 156 (8 * l + k)) ≤ r)) (a := 0) (b := 1) f4.2.1 (fun j _ _ => jbo_01' _)
    by_cases c : s 154 l = y ∧ (h = -1 ∨ s 152 l = h)
    · rw [if_pos c]; omega
    · rw [if_neg c]; omega)
  unfold wlp; omega
theorem wlp_m {s : Int → Int → Int} {n y h r t : Int} (q : r ≤ t) : wlp s n y h r ≤ wlp s n y h t := by
  refine sg_le (fun l _ _ => ?_)
  by_cases c : s 154 l = y ∧ (h = -1 ∨ s 152 l = h)
  · rw [if_pos c, if_pos c]; exact sg_le (fun k _ _ => jbo_le (fun p => by omega))
  · rw [if_neg c, if_neg c]; exact Int.le_refl 0
theorem wlp_fr {s s' : Int → Int → Int} (f : ∀ k, (146 ≤ k ∧ k ≤ 156) → s' k = s k) : wlp s' = wlp s := by
  funext n y h r
  unfold wlp
  rw [f 147 (by omega), f 152 (by omega), f 154 (by omega), f 155 (by omega), f 156 (by omega)]
theorem yc_fr {s s' : Int → Int → Int} (f : ∀ k, (146 ≤ k ∧ k ≤ 156) → s' k = s k) : yc s' = yc s := by
  funext y h r
  unfold yc ycp
  rw [f 146 (by omega), f 147 (by omega), f 152 (by omega), f 154 (by omega), f 155 (by omega), f 156 (by omega)]
theorem yc_b {s : Int → Int → Int} (d : DD s) (y h : Int) (k : Int) (k0 : 0 ≤ k) (k1 : k ≤ 10) : 0 ≤ sg k (yc s y h) ∧ sg k (yc s y h) ≤ 240 := by
  by_cases e : k = 0
  · subst e; rw [sg_0]; omega
  · have := wlp_b d y h (k - 1)
    rw [wlp_yc d (r := k - 1) (by omega), show k - 1 + 1 = k by omega] at this
    exact this
theorem jr_mul {a b : Int} (a0 : 0 ≤ a) (a1 : a ≤ 240) (b0 : 0 ≤ b) (b1 : b ≤ 240) : jr32 (a * b) := by
  have x := Int.mul_nonneg a0 b0
  have y := Int.mul_le_mul a1 b1 b0 (by omega : (0 : Int) ≤ 240)
  unfold jr32; omega
theorem Inv.t84 {S0 : Int → Int} {s s' : Int → Int → Int} (h : Inv S0 s) (f : frm (fun k => k = 84 ∨ k = 85) s s') : Inv S0 s' := h.fr (fun k hk => f k (fun e => hk (by unfold jtmp jpers; omega)))
theorem op_asIn {S0 : Int → Int} {s : Int → Int → Int} (hI : Inv S0 s) (a1 a2 a3 : Int) (h1 : jr32 a1) (h2 : jr32 a2) (h3 : jr32 a3) : jop mX10_asIn mX11_asIn [jI a1, jI a2, jI a3] S0 s := by
  have hd := hI.dd
  by_cases c : (0 ≤ a1 ∧ a1 ≤ 9) ∧ (0 ≤ a2 ∧ a2 ≤ 39) ∧ 0 ≤ a3 ∧ a3 ≤ 39
  · obtain ⟨c1, c2, c3⟩ := c
    have b1 := yc_b hd a2 (-1)
    have b2 := yc_b hd a3 (-1)
    have q1 := b1 10 (by omega) (by omega)
    have q2 := b2 10 (by omega) (by omega)
    have q3 := b1 (a1 + 1) (by omega) (by omega)
    refine jop.rr (fun y => ((sg 10 (yc s a2 (-1)) = 0 ∨ sg 10 (yc s a3 (-1)) = 0) ∧ y = -3) ∨ (sg 10 (yc s a2 (-1)) ≠ 0 ∧ sg 10 (yc s a3 (-1)) ≠ 0 ∧ fstk 10 (fun v => v = 9 ∨ sg (a1 + 1) (yc s a2 (-1)) * sg 10 (yc s a3 (-1)) ≤ sg (v + 1) (yc s a3 (-1)) * sg 10 (yc s a2 (-1))) y)) (fun s1 => frm (fun k => k = 84 ∨ k = 85) s s1) (fun a b p q => ?_) (fun a p => ?_) (fun s1 h => (hI.t84 h).1) (g_X10_asIn ⟨h1, fun q => absurd c1 q, fun _ => ⟨h2, fun q => absurd c2 q, fun _ => ⟨h3, fun _ => ⟨hd, fun s9 q9 => ⟨hd.fr (fun k hk => q9.1 k (by omega)), fun s13 q13 => ?_⟩⟩, fun q => absurd c3 q⟩⟩⟩) (fun s1 h => ?_)
    · rcases p with ⟨p1, p2⟩ | ⟨p1, p2, p3⟩ <;> rcases q with ⟨r1, r2⟩ | ⟨r1, r2, r3⟩
      · omega
      · exact absurd p1 (by omega)
      · exact absurd r1 (by omega)
      · exact p3.uniq r3
    · rcases p with ⟨p1, p2⟩ | ⟨p1, p2, p3⟩
      · rw [p2]; decide
      · exact p3.rng (by omega)
    · have e84 : ∀ k, 0 ≤ k → k ≤ 10 → sg k (s13 84) = sg k (yc s a2 (-1)) := fun k k0 k1 => sg_c (fun i i0 i1 => by rw [q13.1 84 (by omega), q9.2 i i0 (by omega)])
      have e85 : ∀ k, 0 ≤ k → k ≤ 10 → sg k (s13 85) = sg k (yc s a3 (-1)) := fun k k0 k1 => sg_c (fun i i0 i1 => by rw [q13.2 i i0 (by omega), yc_fr (fun k hk => q9.1 k (by omega))])
      have f13 : frm (fun k => k = 84 ∨ k = 85) s s13 := fun k hk => by rw [q13.1 k (by omega), q9.1 k (by omega)]
      rw [show (9 + 1 : Int) = 10 from rfl, e84 10 (by omega) (by omega), e85 10 (by omega) (by omega)]
      refine ⟨by unfold jr32; omega, fun z => ⟨-3, rfl, Or.inl ⟨Or.inl z, rfl⟩, f13⟩, fun z => ⟨by unfold jr32; omega, fun z2 => ⟨c1, fun k k0 k1 => by rw [e84 k k0 k1]; exact b1 k k0 k1, fun k k0 k1 => by rw [e85 k k0 k1]; exact b2 k k0 k1, fun y s2 q => ⟨y, rfl, Or.inr ⟨z, z2, q.1.cg2 (fun k k0 k1 => ?_)⟩, by rw [q.2]; exact f13⟩⟩, fun z2 => ⟨-3, rfl, Or.inl ⟨Or.inr z2, rfl⟩, f13⟩⟩⟩
      rw [e84 (a1 + 1) (by omega) (by omega), e85 (k + 1) (by omega) (by omega)]
    · have i1 := hI.t84 h
      have d1 := i1.dd
      have w : ∀ y r, 0 ≤ r → wlp s1 (s1 146 3) y (-1) r = sg (r + 1) (yc s y (-1)) := fun y r hr => by
        rw [wlp_fr (fun k hk => h k (by omega)), h 146 (by omega)]; exact wlp_yc hd hr
      refine g_X11_asIn ⟨h1, j3264 h1, fun q => absurd c1 q, fun _ => ⟨h2, fun q => absurd c2 q, fun _ => ⟨h3, fun _ => ?_, fun q => absurd c3 q⟩⟩⟩
      rw [w a2 9 (by omega), w a3 9 (by omega), w a2 a1 c1.1, show (9 + 1 : Int) = 10 from rfl]
      refine ⟨d1, by unfold jr32; omega, fun z => ⟨-3, rfl, Or.inl ⟨Or.inl z, rfl⟩, i1⟩, fun z => ⟨by unfold jr32; omega, fun z2 => ?_, fun z2 => ⟨-3, rfl, Or.inl ⟨Or.inr z2, rfl⟩, i1⟩⟩⟩
      have mono : sg (a1 + 1) (yc s a2 (-1)) ≤ sg 10 (yc s a2 (-1)) := by
        have := wlp_m (s := s) (n := s 146 3) (y := a2) (h := -1) (r := a1) (t := 9) (by omega)
        rw [wlp_yc hd c1.1, wlp_yc hd (by omega)] at this
        exact this
      have key : ∀ v, v ≤ 9 → 0 ≤ v → (∀ k, 0 ≤ k → k < v → ¬ (k = 9 ∨ sg (a1 + 1) (yc s a2 (-1)) * sg 10 (yc s a3 (-1)) ≤ sg (k + 1) (yc s a3 (-1)) * sg 10 (yc s a2 (-1)))) → kK mX11_asIn 74 [jR 143, jU, jU, jI a3, jI (sg 10 (yc s a2 (-1))), jI (sg 10 (yc s a3 (-1))), jI (sg (a1 + 1) (yc s a2 (-1))), jI v] [] s1 (fun r s' => ∃ y, r = some (jI y) ∧ (((sg 10 (yc s a2 (-1)) = 0 ∨ sg 10 (yc s a3 (-1)) = 0) ∧ y = -3) ∨ (sg 10 (yc s a2 (-1)) ≠ 0 ∧ sg 10 (yc s a3 (-1)) ≠ 0 ∧ fstk 10 (fun v => v = 9 ∨ sg (a1 + 1) (yc s a2 (-1)) * sg 10 (yc s a3 (-1)) ≤ sg (v + 1) (yc s a3 (-1)) * sg 10 (yc s a2 (-1))) y)) ∧ Inv S0 s') := by
        refine lp_up _ _ (fun v hv ih v0 hn => ?_)
        have q4 := b2 (v + 1) (by omega) (by omega)
        refine g_X11_asIn_74 ?_
        rw [w a3 v v0]
        refine ⟨d1, h3, by unfold jr32; omega, jr_mul q4.1 q4.2 q1.1 q1.2, jr_mul q3.1 q3.2 q2.1 q2.2, fun q => ⟨v, rfl, Or.inr ⟨z, z2, Or.inr ⟨v0, by omega, Or.inr q, hn⟩⟩, i1⟩, fun q => ?_⟩
        have v9 : v < 9 := by
          by_cases e : v = 9
          · subst e
            refine absurd ?_ q
            rw [show (9 + 1 : Int) = 10 from rfl, Int.mul_comm (sg 10 (yc s a3 (-1)))]
            exact Int.mul_le_mul_of_nonneg_right mono q2.1
          · omega
        refine ih v9 (by omega) (fun k k0 k1 p => ?_)
        by_cases e : k = v
        · subst e
          exact p.elim (fun p => by omega) q
        · exact hn k k0 (by omega) p
      exact key 0 (by omega) (by omega) (fun k k0 k1 => by omega)
  · exact jop.q (y := -2) hI (by decide) (g_X10_asIn ⟨h1, fun _ => ⟨rfl, rfl⟩, fun c1 => ⟨h2, fun _ => ⟨rfl, rfl⟩, fun c2 => ⟨h3, fun c3 => absurd ⟨c1, c2, c3⟩ c, fun _ => ⟨rfl, rfl⟩⟩⟩⟩)
      (g_X11_asIn ⟨h1, j3264 h1, fun _ => ⟨rfl, rfl⟩, fun c1 => ⟨h2, fun _ => ⟨rfl, rfl⟩, fun c2 => ⟨h3, fun c3 => absurd ⟨c1, c2, c3⟩ c, fun _ => ⟨rfl, rfl⟩⟩⟩⟩)
