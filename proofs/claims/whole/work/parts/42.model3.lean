theorem g_X11_stands {s : Int → Int → Int} {Q : Option jV → (Int → Int → Int) → Prop} {v1 v2 : Int} (v : kK mX11_stands 5 [jR 143, jI v1, jI v2, jI 0, jI 0] [] s Q) : kR mX11_stands [jR 143, jI v1, jI v2] s Q := by
  show kK mX11_stands 0 [jR 143, jI v1, jI v2, jU, jU] [] s Q
  refine k_iconst dX11_stands_0 ?_
  refine k_istore_n [jR 143, jI v1, jI v2, jI 0, jU] dX11_stands_1 rfl rfl ?_
  refine k_iconst dX11_stands_2 ?_
  refine k_istore [jR 143, jI v1, jI v2, jI 0, jI 0] dX11_stands_3 rfl rfl ?_
  exact v
theorem g_X11_stands_5 {s : Int → Int → Int} {Q : Option jV → (Int → Int → Int) → Prop} {v1 v2 v3 v4 : Int} (v : ((0 ≤ v1 ∧ v1 < 30) ∧ jr32 v4 ∧ jr32 (s 155 v1) ∧ (((s 155 v1) ≤ v4 → Q (some (jI v3)) s) ∧ (¬ ((s 155 v1) ≤ v4) → (jr32 v2 ∧ ((v2 = (-1) → kK mX11_stands 5 [jR 143, jI v1, jI v2, jI (v3 + 1), jI (v4 + 1)] [] s Q) ∧ (¬ (v2 = (-1)) → ((0 ≤ ((8 * v1) + v4) ∧ ((8 * v1) + v4) < 240) ∧ jr32 (s 156 ((8 * v1) + v4)) ∧ (((s 156 ((8 * v1) + v4)) ≠ v2 → kK mX11_stands 5 [jR 143, jI v1, jI v2, jI (v3 + 0), jI (v4 + 1)] [] s Q) ∧ ((s 156 ((8 * v1) + v4)) = v2 → kK mX11_stands 5 [jR 143, jI v1, jI v2, jI (v3 + 1), jI (v4 + 1)] [] s Q)))))))))) : kK mX11_stands 5 [jR 143, jI v1, jI v2, jI v3, jI v4] [] s Q := by
  obtain ⟨a1, a2, a3, v⟩ := v
  refine k_iload dX11_stands_5 rfl ?_
  refine k_aload_n dX11_stands_7 rfl ?_
  refine k_getr dX11_stands_8 fl_X11_43 sh_143 (by decide) rfl ?_
  refine k_iload_n dX11_stands_11 rfl ?_
  refine k_iald 30 dX11_stands_12 sh_155 (by decide) rfl (by decide) a1 ?_
  obtain ⟨vt, vf⟩ := v
  refine k_icmp_ge 51 dX11_stands_13 rfl a2 a3 (fun c4 => ?_) (fun c4 => ?_)
  · have v := vt c4
    refine k_iload_n dX11_stands_51 rfl ?_
    exact k_ireturn (st := []) dX11_stands_52 rfl v
  · have v := vf c4
    obtain ⟨a5, v⟩ := v
    refine k_iload_n dX11_stands_16 rfl ?_
    refine k_iload_n dX11_stands_17 rfl ?_
    refine k_iconst dX11_stands_18 ?_
    obtain ⟨vt, vf⟩ := v
    refine k_icmp_eq 38 dX11_stands_19 rfl a5 (by decide) (fun c6 => ?_) (fun c6 => ?_)
    · have v := vt c6
      refine k_iconst dX11_stands_38 ?_
      refine k_goto 43 dX11_stands_39 rfl ?_
      refine k_iadd dX11_stands_43 ?_
      refine k_istore_n [jR 143, jI v1, jI v2, jI (v3 + 1), jI v4] dX11_stands_44 rfl rfl ?_
      refine k_iinc [jR 143, jI v1, jI v2, jI (v3 + 1), jI (v4 + 1)] dX11_stands_45 rfl rfl rfl ?_
      refine k_goto 5 dX11_stands_48 rfl ?_
      exact v
    · have v := vf c6
      obtain ⟨a7, a8, v⟩ := v
      refine k_aload_n dX11_stands_22 rfl ?_
      refine k_getr dX11_stands_23 fl_X11_46 sh_143 (by decide) rfl ?_
      refine k_bipush dX11_stands_26 rfl ?_
      refine k_iload_n dX11_stands_28 rfl ?_
      refine k_imul dX11_stands_29 ?_
      refine k_iload dX11_stands_30 rfl ?_
      refine k_iadd dX11_stands_32 ?_
      refine k_iald 240 dX11_stands_33 sh_156 (by decide) rfl (by decide) a7 ?_
      refine k_iload_n dX11_stands_34 rfl ?_
      obtain ⟨vt, vf⟩ := v
      refine k_icmp_ne 42 dX11_stands_35 rfl a8 a5 (fun c9 => ?_) (fun c9 => ?_)
      · have v := vt c9
        refine k_iconst dX11_stands_42 ?_
        refine k_iadd dX11_stands_43 ?_
        refine k_istore_n [jR 143, jI v1, jI v2, jI (v3 + 0), jI v4] dX11_stands_44 rfl rfl ?_
        refine k_iinc [jR 143, jI v1, jI v2, jI (v3 + 0), jI (v4 + 1)] dX11_stands_45 rfl rfl rfl ?_
        refine k_goto 5 dX11_stands_48 rfl ?_
        exact v
      · have v := vf c9
        refine k_iconst dX11_stands_38 ?_
        refine k_goto 43 dX11_stands_39 rfl ?_
        refine k_iadd dX11_stands_43 ?_
        refine k_istore_n [jR 143, jI v1, jI v2, jI (v3 + 1), jI v4] dX11_stands_44 rfl rfl ?_
        refine k_iinc [jR 143, jI v1, jI v2, jI (v3 + 1), jI (v4 + 1)] dX11_stands_45 rfl rfl rfl ?_
        refine k_goto 5 dX11_stands_48 rfl ?_
        exact v
theorem sp_X11_stands (s : Int → Int → Int) (l w : Int) (h : DD s) (hl : 0 ≤ l ∧ l < s 146 3) (hw : jr32 w) : kM mX11_stands [jR 143, jI l, jI w] s (some (jI (stc s l w))) s := by
  obtain ⟨e0, e1, e2, e3⟩ := h.cnt
  obtain ⟨-, -, -, f4⟩ := h.let hl.1 hl.2
  refine g_X11_stands ?_
  have key : ∀ i, i ≤ s 155 l → 0 ≤ i → kK mX11_stands 5 [jR 143, jI l, jI w, jI (sg i (fun k => jbo (w = -1 ∨ s 156 (8 * l + k) = w))), jI i] [] s (fun r s' => r = some (jI (stc s l w)) ∧ s' = s) := by
    refine lp_up _ _ (fun i hi ih h0 => ?_)
    refine g_X11_stands_5 ⟨by omega, by unfold jr32; omega, by unfold jr32; omega, fun c => ?_, fun c => ⟨hw, fun c2 => ?_, fun c2 => ⟨by omega, ?_, fun c3 => ?_, fun c3 => ?_⟩⟩⟩
    · rw [show i = s 155 l by omega]; exact ⟨rfl, rfl⟩
    · have := ih (by omega) (by omega)
      rw [sg_s h0, jbo_t (Or.inl c2)] at this
      exact this
    · obtain ⟨t1, t2, t3⟩ := h.txt hl.1 hl.2 h0 (by omega)
      unfold jr32; omega
    · have := ih (by omega) (by omega)
      rw [sg_s h0, jbo_f (fun q => q.elim c2 c3)] at this
      exact this
    · have := ih (by omega) (by omega)
      rw [sg_s h0, jbo_t (Or.inr c3)] at this
      exact this
  exact key 0 (by omega) (by omega)
theorem g_X11_isAbout {s : Int → Int → Int} {Q : Option jV → (Int → Int → Int) → Prop} {v1 v2 : Int} (v : (jr32 v1 ∧ (0 ≤ s 146 0 ∧ s 146 0 ≤ 1000) ∧ ((¬ (0 ≤ v1 ∧ v1 ≤ s 146 0 - 1) → Q (some (jI 0)) s) ∧ (0 ≤ v1 ∧ v1 ≤ s 146 0 - 1 → (jr32 v2 ∧ ((¬ (0 ≤ v2 ∧ v2 ≤ 3) → Q (some (jI 0)) s) ∧ (0 ≤ v2 ∧ v2 ≤ 3 → Q (some (jI 1)) s))))))) : kR mX11_isAbout [jR 143, jI v1, jI v2] s Q := by
  show kK mX11_isAbout 0 [jR 143, jI v1, jI v2] [] s Q
  obtain ⟨a1, a2, v⟩ := v
  refine k_aload_n dX11_isAbout_0 rfl ?_
  refine k_iconst dX11_isAbout_1 ?_
  refine k_iload_n dX11_isAbout_2 rfl ?_
  refine k_invV [jI 0, jI v1] [] dX11_isAbout_3 cm_X11_is ml_X11_136 im_X11_is se_X11_is rfl sh_143 (by decide) rfl rfl (sp_X11_is s 0 v1 (by decide) a1 a2) ?_
  obtain ⟨vt, vf⟩ := v
  refine k_ifb_eq 20 dX11_isAbout_6 rfl (fun c3 => ?_) (fun c3 => ?_)
  · have v := vt c3
    refine k_iconst dX11_isAbout_20 ?_
    exact k_zreturn (st := []) dX11_isAbout_21 rfl (Or.inl rfl) v
  · have v := vf c3
    obtain ⟨a4, v⟩ := v
    refine k_iload_n dX11_isAbout_9 rfl ?_
    refine k_invS [jI v2] [] dX11_isAbout_10 cm_X11_isGift ml_X11_142 st_X11_isGift rfl rfl (sp_X11_isGift s v2 a4) ?_
    obtain ⟨vt, vf⟩ := v
    refine k_ifb_eq 20 dX11_isAbout_13 rfl (fun c5 => ?_) (fun c5 => ?_)
    · have v := vt c5
      refine k_iconst dX11_isAbout_20 ?_
      exact k_zreturn (st := []) dX11_isAbout_21 rfl (Or.inl rfl) v
    · have v := vf c5
      refine k_iconst dX11_isAbout_16 ?_
      refine k_goto 21 dX11_isAbout_17 rfl ?_
      exact k_zreturn (st := []) dX11_isAbout_21 rfl (Or.inr rfl) v
theorem sp_X11_isAbout (s : Int → Int → Int) (w g : Int) (h : DD s) (hw : jr32 w) (hg : jr32 g) : kM mX11_isAbout [jR 143, jI w, jI g] s (some (jI (jbo ((0 ≤ w ∧ w ≤ s 146 0 - 1) ∧ 0 ≤ g ∧ g ≤ 3)))) s := by
  obtain ⟨e0, e1, e2, e3⟩ := h.cnt
  exact g_X11_isAbout ⟨hw, by omega, fun c => ⟨jbf0 (fun q => c q.1), rfl⟩, fun c => ⟨hg, fun c2 => ⟨jbf0 (fun q => c2 q.2), rfl⟩, fun c2 => ⟨jbf1 ⟨c, c2⟩, rfl⟩⟩⟩
theorem g_X11_lettersOf {s : Int → Int → Int} {Q : Option jV → (Int → Int → Int) → Prop} {v1 v2 v3 v4 : Int} (v : kK mX11_lettersOf 6 [jR 143, jI v1, jI v2, jI v3, jI v4, jI 0, jI 0, jU] [] s Q) : kR mX11_lettersOf [jR 143, jI v1, jI v2, jI v3, jI v4] s Q := by
  show kK mX11_lettersOf 0 [jR 143, jI v1, jI v2, jI v3, jI v4, jU, jU, jU] [] s Q
  refine k_iconst dX11_lettersOf_0 ?_
  refine k_istore [jR 143, jI v1, jI v2, jI v3, jI v4, jI 0, jU, jU] dX11_lettersOf_1 rfl rfl ?_
  refine k_iconst dX11_lettersOf_3 ?_
  refine k_istore [jR 143, jI v1, jI v2, jI v3, jI v4, jI 0, jI 0, jU] dX11_lettersOf_4 rfl rfl ?_
  exact v
theorem g_X11_lettersOf_6 {s : Int → Int → Int} {Q : Option jV → (Int → Int → Int) → Prop} {v1 v2 v3 v4 v5 v6 : Int} (v : (jr32 v6 ∧ jr32 (s 146 3) ∧ (((s 146 3) ≤ v6 → Q (some (jI v5)) s) ∧ (¬ ((s 146 3) ≤ v6) → ((0 ≤ v6 ∧ v6 < 30) ∧ (0 ≤ (s 153 v6) ∧ (s 153 v6) < 8) ∧ jr32 (s 151 (s 153 v6)) ∧ jr32 v2 ∧ (((s 151 (s 153 v6)) ≠ v2 → kK mX11_lettersOf 6 [jR 143, jI v1, jI v2, jI v3, jI v4, jI (v5 + 0), jI (v6 + 1), jU] [] s Q) ∧ ((s 151 (s 153 v6)) = v2 → (jr32 (s 150 (s 153 v6)) ∧ jr32 v3 ∧ (((s 150 (s 153 v6)) ≠ v3 → kK mX11_lettersOf 6 [jR 143, jI v1, jI v2, jI v3, jI v4, jI (v5 + 0), jI (v6 + 1), jU] [] s Q) ∧ ((s 150 (s 153 v6)) = v3 → (jr32 v4 ∧ ((v4 = 0 → kK mX11_lettersOf 6 [jR 143, jI v1, jI v2, jI v3, jI v4, jI (v5 + 1), jI (v6 + 1), jU] [] s Q) ∧ (¬ (v4 = 0) → ((DD s) ∧ (0 ≤ v6 ∧ v6 < s 146 3) ∧ jr32 v1 ∧ jr32 (stc s v6 v1) ∧ (((stc s v6 v1) ≤ 0 → kK mX11_lettersOf 6 [jR 143, jI v1, jI v2, jI v3, jI v4, jI (v5 + 0), jI (v6 + 1), jU] [] s Q) ∧ (¬ ((stc s v6 v1) ≤ 0) → kK mX11_lettersOf 6 [jR 143, jI v1, jI v2, jI v3, jI v4, jI (v5 + 1), jI (v6 + 1), jU] [] s Q)))))))))))))))) : kK mX11_lettersOf 6 [jR 143, jI v1, jI v2, jI v3, jI v4, jI v5, jI v6, jU] [] s Q := by
  obtain ⟨a1, a2, v⟩ := v
  refine k_iload dX11_lettersOf_6 rfl ?_
  refine k_aload_n dX11_lettersOf_8 rfl ?_
  refine k_getr dX11_lettersOf_9 fl_X11_16 sh_143 (by decide) rfl ?_
  refine k_iconst dX11_lettersOf_12 ?_
  refine k_iald 6 dX11_lettersOf_13 sh_146 (by decide) rfl (by decide) (by decide) ?_
  obtain ⟨vt, vf⟩ := v
  refine k_icmp_ge 92 dX11_lettersOf_14 rfl a1 a2 (fun c3 => ?_) (fun c3 => ?_)
  · have v := vt c3
    refine k_iload dX11_lettersOf_92 rfl ?_
    exact k_ireturn (st := []) dX11_lettersOf_94 rfl v
  · have v := vf c3
    obtain ⟨a4, a5, a6, a7, v⟩ := v
    refine k_aload_n dX11_lettersOf_17 rfl ?_
    refine k_getr dX11_lettersOf_18 fl_X11_31 sh_143 (by decide) rfl ?_
    refine k_aload_n dX11_lettersOf_21 rfl ?_
    refine k_getr dX11_lettersOf_22 fl_X11_37 sh_143 (by decide) rfl ?_
    refine k_iload dX11_lettersOf_25 rfl ?_
    refine k_iald 30 dX11_lettersOf_27 sh_153 (by decide) rfl (by decide) a4 ?_
    refine k_iald 8 dX11_lettersOf_28 sh_151 (by decide) rfl (by decide) a5 ?_
    refine k_iload_n dX11_lettersOf_29 rfl ?_
    obtain ⟨vt, vf⟩ := v
    refine k_icmp_ne 53 dX11_lettersOf_30 rfl a6 a7 (fun c8 => ?_) (fun c8 => ?_)
    · have v := vt c8
      refine k_iconst dX11_lettersOf_53 ?_
      refine k_istore [jR 143, jI v1, jI v2, jI v3, jI v4, jI v5, jI v6, jI 0] dX11_lettersOf_54 rfl rfl ?_
      refine k_iload dX11_lettersOf_56 rfl ?_
      refine k_iload dX11_lettersOf_58 rfl ?_
      refine k_if_eq 82 dX11_lettersOf_60 rfl (by decide) (fun _ => ?_) (fun c => absurd c (by decide))
      refine k_iconst dX11_lettersOf_82 ?_
      refine k_iadd dX11_lettersOf_83 ?_
      refine k_istore [jR 143, jI v1, jI v2, jI v3, jI v4, jI (v5 + 0), jI v6, jI 0] dX11_lettersOf_84 rfl rfl ?_
      refine k_iinc [jR 143, jI v1, jI v2, jI v3, jI v4, jI (v5 + 0), jI (v6 + 1), jI 0] dX11_lettersOf_86 rfl rfl rfl ?_
      refine k_goto 6 dX11_lettersOf_89 rfl ?_
      refine k_drop [jR 143, jI v1, jI v2, jI v3, jI v4, jI (v5 + 0), jI (v6 + 1), jU] ⟨Or.inr rfl, Or.inr rfl, Or.inr rfl, Or.inr rfl, Or.inr rfl, Or.inr rfl, Or.inr rfl, Or.inl rfl, trivial⟩ ?_
      exact v
    · have v := vf c8
      obtain ⟨a9, a10, v⟩ := v
      refine k_aload_n dX11_lettersOf_33 rfl ?_
      refine k_getr dX11_lettersOf_34 fl_X11_28 sh_143 (by decide) rfl ?_
      refine k_aload_n dX11_lettersOf_37 rfl ?_
      refine k_getr dX11_lettersOf_38 fl_X11_37 sh_143 (by decide) rfl ?_
      refine k_iload dX11_lettersOf_41 rfl ?_
      refine k_iald 30 dX11_lettersOf_43 sh_153 (by decide) rfl (by decide) a4 ?_
      refine k_iald 8 dX11_lettersOf_44 sh_150 (by decide) rfl (by decide) a5 ?_
      refine k_iload_n dX11_lettersOf_45 rfl ?_
      obtain ⟨vt, vf⟩ := v
      refine k_icmp_ne 53 dX11_lettersOf_46 rfl a9 a10 (fun c11 => ?_) (fun c11 => ?_)
      · have v := vt c11
        refine k_iconst dX11_lettersOf_53 ?_
        refine k_istore [jR 143, jI v1, jI v2, jI v3, jI v4, jI v5, jI v6, jI 0] dX11_lettersOf_54 rfl rfl ?_
        refine k_iload dX11_lettersOf_56 rfl ?_
        refine k_iload dX11_lettersOf_58 rfl ?_
        refine k_if_eq 82 dX11_lettersOf_60 rfl (by decide) (fun _ => ?_) (fun c => absurd c (by decide))
        refine k_iconst dX11_lettersOf_82 ?_
        refine k_iadd dX11_lettersOf_83 ?_
        refine k_istore [jR 143, jI v1, jI v2, jI v3, jI v4, jI (v5 + 0), jI v6, jI 0] dX11_lettersOf_84 rfl rfl ?_
        refine k_iinc [jR 143, jI v1, jI v2, jI v3, jI v4, jI (v5 + 0), jI (v6 + 1), jI 0] dX11_lettersOf_86 rfl rfl rfl ?_
        refine k_goto 6 dX11_lettersOf_89 rfl ?_
        refine k_drop [jR 143, jI v1, jI v2, jI v3, jI v4, jI (v5 + 0), jI (v6 + 1), jU] ⟨Or.inr rfl, Or.inr rfl, Or.inr rfl, Or.inr rfl, Or.inr rfl, Or.inr rfl, Or.inr rfl, Or.inl rfl, trivial⟩ ?_
        exact v
      · have v := vf c11
        obtain ⟨a12, v⟩ := v
        refine k_iconst dX11_lettersOf_49 ?_
        refine k_goto 54 dX11_lettersOf_50 rfl ?_
        refine k_istore [jR 143, jI v1, jI v2, jI v3, jI v4, jI v5, jI v6, jI 1] dX11_lettersOf_54 rfl rfl ?_
        refine k_iload dX11_lettersOf_56 rfl ?_
        refine k_iload dX11_lettersOf_58 rfl ?_
        refine k_if_eq 82 dX11_lettersOf_60 rfl (by decide) (fun c => absurd c (by decide)) (fun _ => ?_)
        refine k_iload dX11_lettersOf_63 rfl ?_
        obtain ⟨vt, vf⟩ := v
        refine k_if_eq 78 dX11_lettersOf_65 rfl a12 (fun c13 => ?_) (fun c13 => ?_)
        · have v := vt c13
          refine k_iconst dX11_lettersOf_78 ?_
          refine k_goto 83 dX11_lettersOf_79 rfl ?_
          refine k_iadd dX11_lettersOf_83 ?_
          refine k_istore [jR 143, jI v1, jI v2, jI v3, jI v4, jI (v5 + 1), jI v6, jI 1] dX11_lettersOf_84 rfl rfl ?_
          refine k_iinc [jR 143, jI v1, jI v2, jI v3, jI v4, jI (v5 + 1), jI (v6 + 1), jI 1] dX11_lettersOf_86 rfl rfl rfl ?_
          refine k_goto 6 dX11_lettersOf_89 rfl ?_
          refine k_drop [jR 143, jI v1, jI v2, jI v3, jI v4, jI (v5 + 1), jI (v6 + 1), jU] ⟨Or.inr rfl, Or.inr rfl, Or.inr rfl, Or.inr rfl, Or.inr rfl, Or.inr rfl, Or.inr rfl, Or.inl rfl, trivial⟩ ?_
          exact v
        · have v := vf c13
          obtain ⟨a14, a15, a16, a17, v⟩ := v
          refine k_aload_n dX11_lettersOf_68 rfl ?_
          refine k_iload dX11_lettersOf_69 rfl ?_
          refine k_iload_n dX11_lettersOf_71 rfl ?_
          refine k_invV [jI v6, jI v1] [jI v5] dX11_lettersOf_72 cm_X11_stands ml_X11_145 im_X11_stands se_X11_stands rfl sh_143 (by decide) rfl rfl (sp_X11_stands s v6 v1 a14 a15 a16) ?_
          obtain ⟨vt, vf⟩ := v
          refine k_if_le 82 dX11_lettersOf_75 rfl a17 (fun c18 => ?_) (fun c18 => ?_)
          · have v := vt c18
            refine k_iconst dX11_lettersOf_82 ?_
            refine k_iadd dX11_lettersOf_83 ?_
            refine k_istore [jR 143, jI v1, jI v2, jI v3, jI v4, jI (v5 + 0), jI v6, jI 1] dX11_lettersOf_84 rfl rfl ?_
            refine k_iinc [jR 143, jI v1, jI v2, jI v3, jI v4, jI (v5 + 0), jI (v6 + 1), jI 1] dX11_lettersOf_86 rfl rfl rfl ?_
            refine k_goto 6 dX11_lettersOf_89 rfl ?_
            refine k_drop [jR 143, jI v1, jI v2, jI v3, jI v4, jI (v5 + 0), jI (v6 + 1), jU] ⟨Or.inr rfl, Or.inr rfl, Or.inr rfl, Or.inr rfl, Or.inr rfl, Or.inr rfl, Or.inr rfl, Or.inl rfl, trivial⟩ ?_
            exact v
          · have v := vf c18
            refine k_iconst dX11_lettersOf_78 ?_
            refine k_goto 83 dX11_lettersOf_79 rfl ?_
            refine k_iadd dX11_lettersOf_83 ?_
            refine k_istore [jR 143, jI v1, jI v2, jI v3, jI v4, jI (v5 + 1), jI v6, jI 1] dX11_lettersOf_84 rfl rfl ?_
            refine k_iinc [jR 143, jI v1, jI v2, jI v3, jI v4, jI (v5 + 1), jI (v6 + 1), jI 1] dX11_lettersOf_86 rfl rfl rfl ?_
            refine k_goto 6 dX11_lettersOf_89 rfl ?_
            refine k_drop [jR 143, jI v1, jI v2, jI v3, jI v4, jI (v5 + 1), jI (v6 + 1), jU] ⟨Or.inr rfl, Or.inr rfl, Or.inr rfl, Or.inr rfl, Or.inr rfl, Or.inr rfl, Or.inr rfl, Or.inl rfl, trivial⟩ ?_
            exact v
theorem sp_X11_lettersOf (s : Int → Int → Int) (x g w c : Int) (h : DD s) (hx : jr32 x) (hg : jr32 g) (hw : jr32 w) (hc : jr32 c) : kM mX11_lettersOf [jR 143, jI x, jI g, jI w, jI c] s (some (jI (sg (s 146 3) (fun l => jbo ((s 151 (s 153 l) = g ∧ s 150 (s 153 l) = w) ∧ (c = 0 ∨ 0 < stc s l x)))))) s := by
  obtain ⟨e0, e1, e2, e3⟩ := h.cnt
  refine g_X11_lettersOf ?_
  have key : ∀ i, i ≤ s 146 3 → 0 ≤ i → kK mX11_lettersOf 6 [jR 143, jI x, jI g, jI w, jI c, jI (sg i (fun l => jbo ((s 151 (s 153 l) = g ∧ s 150 (s 153 l) = w) ∧ (c = 0 ∨ 0 < stc s l x)))), jI i, jU] [] s (fun r s' => r = some (jI (sg (s 146 3) (fun l => jbo ((s 151 (s 153 l) = g ∧ s 150 (s 153 l) = w) ∧ (c = 0 ∨ 0 < stc s l x))))) ∧ s' = s) := by
    refine lp_up _ _ (fun i hi ih h0 => ?_)
    refine g_X11_lettersOf_6 ⟨by unfold jr32; omega, by unfold jr32; omega, fun q => ?_, fun q => ?_⟩
    · rw [show i = s 146 3 by omega]; exact ⟨rfl, rfl⟩
    · obtain ⟨-, f2, -, f4⟩ := h.let h0 (by omega)
      obtain ⟨p1, p2⟩ := h.pup f2.2.1 f2.2.2
      have no : ∀ p : ¬ ((s 151 (s 153 i) = g ∧ s 150 (s 153 i) = w) ∧ (c = 0 ∨ 0 < stc s i x)), kK mX11_lettersOf 6 [jR 143, jI x, jI g, jI w, jI c, jI (sg i (fun l => jbo ((s 151 (s 153 l) = g ∧ s 150 (s 153 l) = w) ∧ (c = 0 ∨ 0 < stc s l x))) + 0), jI (i + 1), jU] [] s (fun r s' => r = some (jI (sg (s 146 3) (fun l => jbo ((s 151 (s 153 l) = g ∧ s 150 (s 153 l) = w) ∧ (c = 0 ∨ 0 < stc s l x))))) ∧ s' = s) := fun p => by
        have := ih (by omega) (by omega)
        rw [sg_s h0, jbo_f p] at this
        exact this
      have yes : ∀ p : ((s 151 (s 153 i) = g ∧ s 150 (s 153 i) = w) ∧ (c = 0 ∨ 0 < stc s i x)), kK mX11_lettersOf 6 [jR 143, jI x, jI g, jI w, jI c, jI (sg i (fun l => jbo ((s 151 (s 153 l) = g ∧ s 150 (s 153 l) = w) ∧ (c = 0 ∨ 0 < stc s l x))) + 1), jI (i + 1), jU] [] s (fun r s' => r = some (jI (sg (s 146 3) (fun l => jbo ((s 151 (s 153 l) = g ∧ s 150 (s 153 l) = w) ∧ (c = 0 ∨ 0 < stc s l x))))) ∧ s' = s) := fun p => by
        have := ih (by omega) (by omega)
        rw [sg_s h0, jbo_t p] at this
        exact this
      refine ⟨by omega, by omega, by unfold jr32; omega, hg, fun c2 => no (fun q => c2 q.1.1), fun c2 => ⟨by unfold jr32; omega, hw, fun c3 => no (fun q => c3 q.1.2), fun c3 => ⟨hc, fun c4 => yes ⟨⟨c2, c3⟩, Or.inl c4⟩, fun c4 => ⟨h, by omega, hx, ?_, fun c5 => no (fun q => q.2.elim c4 (by omega)), fun c5 => yes ⟨⟨c2, c3⟩, Or.inr (by omega)⟩⟩⟩⟩⟩
      have := sg_b (f := fun k => jbo (x = -1 ∨ s 156 (8 * i + k) = x)) (a := 0) (b := 1) f4.2.1 (fun j _ _ => jbo_01' _)
      show jr32 (sg (s 155 i) _)
      unfold jr32; omega
  exact key 0 (by omega) (by omega)
theorem g_X11_about {s : Int → Int → Int} {Q : Option jV → (Int → Int → Int) → Prop} {v1 v2 v3 : Int} (v : ((DD s) ∧ jr32 v1 ∧ jr32 v2 ∧ ((¬ ((0 ≤ v1 ∧ v1 ≤ s 146 0 - 1) ∧ 0 ≤ v2 ∧ v2 ≤ 3) → Q (some (jI (-2))) s) ∧ ((0 ≤ v1 ∧ v1 ≤ s 146 0 - 1) ∧ 0 ≤ v2 ∧ v2 ≤ 3 → (jr32 v3 ∧ jr64 v3 ∧ ((¬ (0 ≤ v3 ∧ v3 ≤ 3) → Q (some (jI (-2))) s) ∧ (0 ≤ v3 ∧ v3 ≤ 3 → ((0 ≤ v3 ∧ v3 ≤ 2147483647) ∧ jr32 (v3 % 2) ∧ (((v3 % 2) ≠ 1 → (jr32 (1 + (v3 / 2)) ∧ Q (some (jI (sg (s 146 3) (fun l => jbo ((s 151 (s 153 l) = v2 ∧ s 150 (s 153 l) = (1 + (v3 / 2))) ∧ (0 = (0 : Int) ∨ 0 < stc s l v1)))))) s)) ∧ ((v3 % 2) = 1 → (jr32 (1 + (v3 / 2)) ∧ Q (some (jI (sg (s 146 3) (fun l => jbo ((s 151 (s 153 l) = v2 ∧ s 150 (s 153 l) = (1 + (v3 / 2))) ∧ (1 = (0 : Int) ∨ 0 < stc s l v1)))))) s))))))))))) : kR mX11_about [jR 143, jI v1, jI v2, jI v3] s Q := by
  show kK mX11_about 0 [jR 143, jI v1, jI v2, jI v3] [] s Q
  obtain ⟨a1, a2, a3, v⟩ := v
  refine k_aload_n dX11_about_0 rfl ?_
  refine k_iload_n dX11_about_1 rfl ?_
  refine k_iload_n dX11_about_2 rfl ?_
  refine k_invV [jI v1, jI v2] [] dX11_about_3 cm_X11_isAbout ml_X11_191 im_X11_isAbout se_X11_isAbout rfl sh_143 (by decide) rfl rfl (sp_X11_isAbout s v1 v2 a1 a2 a3) ?_
  obtain ⟨vt, vf⟩ := v
  refine k_ifb_eq 47 dX11_about_6 rfl (fun c4 => ?_) (fun c4 => ?_)
  · have v := vt c4
    refine k_bipush dX11_about_47 rfl ?_
    exact k_ireturn (st := []) dX11_about_49 rfl v
  · have v := vf c4
    obtain ⟨a5, a6, v⟩ := v
    refine k_iload_n dX11_about_9 rfl ?_
    refine k_i2l dX11_about_10 a5 ?_
    refine k_lconst 0 dX11_about_11 rfl ?_
    refine k_ldc2 (3) (3) dX11_about_12 kl_X11_134 rfl ?_
    refine k_invS [jL v3, jL 0, jL 3] [] dX11_about_15 cm_X11_in ml_X11_120 st_X11_in rfl rfl (sp_X11_in s v3 0 3 a6 (by decide) (by decide)) ?_
    obtain ⟨vt, vf⟩ := v
    refine k_ifb_eq 47 dX11_about_18 rfl (fun c7 => ?_) (fun c7 => ?_)
    · have v := vt c7
      refine k_bipush dX11_about_47 rfl ?_
      exact k_ireturn (st := []) dX11_about_49 rfl v
    · have v := vf c7
      obtain ⟨a8, a9, v⟩ := v
      refine k_aload_n dX11_about_21 rfl ?_
      refine k_iload_n dX11_about_22 rfl ?_
      refine k_iload_n dX11_about_23 rfl ?_
      refine k_iconst dX11_about_24 ?_
      refine k_iload_n dX11_about_25 rfl ?_
      refine k_iconst dX11_about_26 ?_
      refine k_idiv dX11_about_27 ⟨a8, by decide⟩ ?_
      refine k_iadd dX11_about_28 ?_
      refine k_iload_n dX11_about_29 rfl ?_
      refine k_iconst dX11_about_30 ?_
      refine k_irem dX11_about_31 ⟨a8, by decide⟩ ?_
      refine k_iconst dX11_about_32 ?_
      obtain ⟨vt, vf⟩ := v
      refine k_icmp_ne 40 dX11_about_33 rfl a9 (by decide) (fun c10 => ?_) (fun c10 => ?_)
      · have v := vt c10
        obtain ⟨a11, v⟩ := v
        refine k_iconst dX11_about_40 ?_
        refine k_invV [jI v1, jI v2, jI (1 + (v3 / 2)), jI 0] [] dX11_about_41 cm_X11_lettersOf ml_X11_194 im_X11_lettersOf se_X11_lettersOf rfl sh_143 (by decide) rfl rfl (sp_X11_lettersOf s v1 v2 (1 + (v3 / 2)) 0 a1 a2 a3 a11 (by decide)) ?_
        refine k_goto 49 dX11_about_44 rfl ?_
        exact k_ireturn (st := []) dX11_about_49 rfl v
      · have v := vf c10
        obtain ⟨a12, v⟩ := v
        refine k_iconst dX11_about_36 ?_
        refine k_goto 41 dX11_about_37 rfl ?_
        refine k_invV [jI v1, jI v2, jI (1 + (v3 / 2)), jI 1] [] dX11_about_41 cm_X11_lettersOf ml_X11_194 im_X11_lettersOf se_X11_lettersOf rfl sh_143 (by decide) rfl rfl (sp_X11_lettersOf s v1 v2 (1 + (v3 / 2)) 1 a1 a2 a3 a12 (by decide)) ?_
        refine k_goto 49 dX11_about_44 rfl ?_
        exact k_ireturn (st := []) dX11_about_49 rfl v
theorem g_X11_slip {s : Int → Int → Int} {Q : Option jV → (Int → Int → Int) → Prop} {v1 : Int} (v : (jr32 v1 ∧ (0 ≤ s 146 3 ∧ s 146 3 ≤ 1000) ∧ ((0 ≤ v1 ∧ v1 ≤ s 146 3 - 1 → kK mX11_slip 14 [jR 143, jI v1, jI 0] [] s Q) ∧ (¬ (0 ≤ v1 ∧ v1 ≤ s 146 3 - 1) → Q (some (jI (-2))) s)))) : kR mX11_slip [jR 143, jI v1] s Q := by
  show kK mX11_slip 0 [jR 143, jI v1, jU] [] s Q
  obtain ⟨a1, a2, v⟩ := v
  refine k_aload_n dX11_slip_0 rfl ?_
  refine k_iconst dX11_slip_1 ?_
  refine k_iload_n dX11_slip_2 rfl ?_
  refine k_invV [jI 3, jI v1] [] dX11_slip_3 cm_X11_is ml_X11_136 im_X11_is se_X11_is rfl sh_143 (by decide) rfl rfl (sp_X11_is s 3 v1 (by decide) a1 a2) ?_
  obtain ⟨vt, vf⟩ := v
  refine k_ifb_ne 12 dX11_slip_6 rfl (fun c3 => ?_) (fun c3 => ?_)
  · have v := vt c3
    refine k_iconst dX11_slip_12 ?_
    refine k_istore_n [jR 143, jI v1, jI 0] dX11_slip_13 rfl rfl ?_
    exact v
  · have v := vf c3
    refine k_bipush dX11_slip_9 rfl ?_
    exact k_ireturn (st := []) dX11_slip_11 rfl v
theorem g_X11_slip_14 {s : Int → Int → Int} {Q : Option jV → (Int → Int → Int) → Prop} {v1 v2 : Int} (v : ((0 ≤ v1 ∧ v1 < 30) ∧ jr32 v2 ∧ jr32 (s 155 v1) ∧ (((s 155 v1) ≤ v2 → Q (some (jI (-1))) s) ∧ (¬ ((s 155 v1) ≤ v2) → ((0 ≤ ((8 * v1) + v2) ∧ ((8 * v1) + v2) < 240) ∧ (0 ≤ (s 156 ((8 * v1) + v2)) ∧ (s 156 ((8 * v1) + v2)) < 8) ∧ (0 ≤ (s 153 v1) ∧ (s 153 v1) < 8) ∧ jr32 ((s 148 (s 156 ((8 * v1) + v2))) + (s 150 (s 153 v1))) ∧ ((((s 148 (s 156 ((8 * v1) + v2))) + (s 150 (s 153 v1))) ≠ 3 → kK mX11_slip 14 [jR 143, jI v1, jI (v2 + 1)] [] s Q) ∧ (((s 148 (s 156 ((8 * v1) + v2))) + (s 150 (s 153 v1))) = 3 → (jr32 (s 148 (s 156 ((8 * v1) + v2))) ∧ (((s 148 (s 156 ((8 * v1) + v2))) ≤ 0 → kK mX11_slip 14 [jR 143, jI v1, jI (v2 + 1)] [] s Q) ∧ (¬ ((s 148 (s 156 ((8 * v1) + v2))) ≤ 0) → Q (some (jI v2)) s)))))))))) : kK mX11_slip 14 [jR 143, jI v1, jI v2] [] s Q := by
  obtain ⟨a1, a2, a3, v⟩ := v
  refine k_iload_n dX11_slip_14 rfl ?_
  refine k_aload_n dX11_slip_15 rfl ?_
  refine k_getr dX11_slip_16 fl_X11_43 sh_143 (by decide) rfl ?_
  refine k_iload_n dX11_slip_19 rfl ?_
  refine k_iald 30 dX11_slip_20 sh_155 (by decide) rfl (by decide) a1 ?_
  obtain ⟨vt, vf⟩ := v
  refine k_icmp_ge 83 dX11_slip_21 rfl a2 a3 (fun c4 => ?_) (fun c4 => ?_)
  · have v := vt c4
    refine k_iconst dX11_slip_83 ?_
    exact k_ireturn (st := []) dX11_slip_84 rfl v
  · have v := vf c4
    obtain ⟨a5, a6, a7, a8, v⟩ := v
    refine k_aload_n dX11_slip_24 rfl ?_
    refine k_getr dX11_slip_25 fl_X11_22 sh_143 (by decide) rfl ?_
    refine k_aload_n dX11_slip_28 rfl ?_
    refine k_getr dX11_slip_29 fl_X11_46 sh_143 (by decide) rfl ?_
    refine k_bipush dX11_slip_32 rfl ?_
    refine k_iload_n dX11_slip_34 rfl ?_
    refine k_imul dX11_slip_35 ?_
    refine k_iload_n dX11_slip_36 rfl ?_
    refine k_iadd dX11_slip_37 ?_
    refine k_iald 240 dX11_slip_38 sh_156 (by decide) rfl (by decide) a5 ?_
    refine k_iald 8 dX11_slip_39 sh_148 (by decide) rfl (by decide) a6 ?_
    refine k_aload_n dX11_slip_40 rfl ?_
    refine k_getr dX11_slip_41 fl_X11_28 sh_143 (by decide) rfl ?_
    refine k_aload_n dX11_slip_44 rfl ?_
    refine k_getr dX11_slip_45 fl_X11_37 sh_143 (by decide) rfl ?_
    refine k_iload_n dX11_slip_48 rfl ?_
    refine k_iald 30 dX11_slip_49 sh_153 (by decide) rfl (by decide) a1 ?_
    refine k_iald 8 dX11_slip_50 sh_150 (by decide) rfl (by decide) a7 ?_
    refine k_iadd dX11_slip_51 ?_
    refine k_iconst dX11_slip_52 ?_
    obtain ⟨vt, vf⟩ := v
    refine k_icmp_ne 77 dX11_slip_53 rfl a8 (by decide) (fun c9 => ?_) (fun c9 => ?_)
    · have v := vt c9
      refine k_iinc [jR 143, jI v1, jI (v2 + 1)] dX11_slip_77 rfl rfl rfl ?_
      refine k_goto 14 dX11_slip_80 rfl ?_
      exact v
    · have v := vf c9
      obtain ⟨a10, v⟩ := v
      refine k_aload_n dX11_slip_56 rfl ?_
      refine k_getr dX11_slip_57 fl_X11_22 sh_143 (by decide) rfl ?_
      refine k_aload_n dX11_slip_60 rfl ?_
      refine k_getr dX11_slip_61 fl_X11_46 sh_143 (by decide) rfl ?_
      refine k_bipush dX11_slip_64 rfl ?_
      refine k_iload_n dX11_slip_66 rfl ?_
      refine k_imul dX11_slip_67 ?_
      refine k_iload_n dX11_slip_68 rfl ?_
      refine k_iadd dX11_slip_69 ?_
      refine k_iald 240 dX11_slip_70 sh_156 (by decide) rfl (by decide) a5 ?_
      refine k_iald 8 dX11_slip_71 sh_148 (by decide) rfl (by decide) a6 ?_
      obtain ⟨vt, vf⟩ := v
      refine k_if_le 77 dX11_slip_72 rfl a10 (fun c11 => ?_) (fun c11 => ?_)
      · have v := vt c11
        refine k_iinc [jR 143, jI v1, jI (v2 + 1)] dX11_slip_77 rfl rfl rfl ?_
        refine k_goto 14 dX11_slip_80 rfl ?_
        exact v
      · have v := vf c11
        refine k_iload_n dX11_slip_75 rfl ?_
        exact k_ireturn (st := []) dX11_slip_76 rfl v
theorem g_X11_usesOf {s : Int → Int → Int} {Q : Option jV → (Int → Int → Int) → Prop} {v1 v2 v3 v4 : Int} (v : kK mX11_usesOf 6 [jR 143, jI v1, jI v2, jI v3, jI v4, jI 0, jI 0, jU] [] s Q) : kR mX11_usesOf [jR 143, jI v1, jI v2, jI v3, jI v4] s Q := by
  show kK mX11_usesOf 0 [jR 143, jI v1, jI v2, jI v3, jI v4, jU, jU, jU] [] s Q
  refine k_iconst dX11_usesOf_0 ?_
  refine k_istore [jR 143, jI v1, jI v2, jI v3, jI v4, jI 0, jU, jU] dX11_usesOf_1 rfl rfl ?_
  refine k_iconst dX11_usesOf_3 ?_
  refine k_istore [jR 143, jI v1, jI v2, jI v3, jI v4, jI 0, jI 0, jU] dX11_usesOf_4 rfl rfl ?_
  exact v
theorem g_X11_usesOf_6 {s : Int → Int → Int} {Q : Option jV → (Int → Int → Int) → Prop} {v1 v2 v3 v4 v5 v6 : Int} (v : (jr32 v6 ∧ jr32 (s 146 3) ∧ (((s 146 3) ≤ v6 → Q (some (jI v5)) s) ∧ (¬ ((s 146 3) ≤ v6) → ((0 ≤ v6 ∧ v6 < 30) ∧ jr32 (s 152 v6) ∧ jr32 v1 ∧ (((s 152 v6) = v1 → (jr32 (s 153 v6) ∧ jr32 v4 ∧ (((s 153 v6) = v4 → kK mX11_usesOf 6 [jR 143, jI v1, jI v2, jI v3, jI v4, jI v5, jI (v6 + 1), jU] [] s Q) ∧ (¬ ((s 153 v6) = v4) → ((0 ≤ (s 153 v6) ∧ (s 153 v6) < 8) ∧ jr32 (s 151 (s 153 v6)) ∧ jr32 v3 ∧ (((s 151 (s 153 v6)) ≠ v3 → kK mX11_usesOf 6 [jR 143, jI v1, jI v2, jI v3, jI v4, jI v5, jI (v6 + 1), jU] [] s Q) ∧ ((s 151 (s 153 v6)) = v3 → ((DD s) ∧ (0 ≤ v6 ∧ v6 < s 146 3) ∧ jr32 v2 ∧ kK mX11_usesOf 6 [jR 143, jI v1, jI v2, jI v3, jI v4, jI (v5 + (stc s v6 v2)), jI (v6 + 1), jU] [] s Q)))))))) ∧ (¬ ((s 152 v6) = v1) → ((0 ≤ v1 ∧ v1 < 6) ∧ jr32 (s 149 v1) ∧ (((s 152 v6) ≠ (s 149 v1) → kK mX11_usesOf 6 [jR 143, jI v1, jI v2, jI v3, jI v4, jI v5, jI (v6 + 1), jU] [] s Q) ∧ ((s 152 v6) = (s 149 v1) → (jr32 (s 153 v6) ∧ jr32 v4 ∧ (((s 153 v6) = v4 → kK mX11_usesOf 6 [jR 143, jI v1, jI v2, jI v3, jI v4, jI v5, jI (v6 + 1), jU] [] s Q) ∧ (¬ ((s 153 v6) = v4) → ((0 ≤ (s 153 v6) ∧ (s 153 v6) < 8) ∧ jr32 (s 151 (s 153 v6)) ∧ jr32 v3 ∧ (((s 151 (s 153 v6)) ≠ v3 → kK mX11_usesOf 6 [jR 143, jI v1, jI v2, jI v3, jI v4, jI v5, jI (v6 + 1), jU] [] s Q) ∧ ((s 151 (s 153 v6)) = v3 → ((DD s) ∧ (0 ≤ v6 ∧ v6 < s 146 3) ∧ jr32 v2 ∧ kK mX11_usesOf 6 [jR 143, jI v1, jI v2, jI v3, jI v4, jI (v5 + (stc s v6 v2)), jI (v6 + 1), jU] [] s Q))))))))))))))))) : kK mX11_usesOf 6 [jR 143, jI v1, jI v2, jI v3, jI v4, jI v5, jI v6, jU] [] s Q := by
  obtain ⟨a1, a2, v⟩ := v
  refine k_iload dX11_usesOf_6 rfl ?_
  refine k_aload_n dX11_usesOf_8 rfl ?_
  refine k_getr dX11_usesOf_9 fl_X11_16 sh_143 (by decide) rfl ?_
  refine k_iconst dX11_usesOf_12 ?_
  refine k_iald 6 dX11_usesOf_13 sh_146 (by decide) rfl (by decide) (by decide) ?_
  obtain ⟨vt, vf⟩ := v
  refine k_icmp_ge 102 dX11_usesOf_14 rfl a1 a2 (fun c3 => ?_) (fun c3 => ?_)
  · have v := vt c3
    refine k_iload dX11_usesOf_102 rfl ?_
    exact k_ireturn (st := []) dX11_usesOf_104 rfl v
  · have v := vf c3
    obtain ⟨a4, a5, a6, v⟩ := v
    refine k_aload_n dX11_usesOf_17 rfl ?_
    refine k_getr dX11_usesOf_18 fl_X11_34 sh_143 (by decide) rfl ?_
    refine k_iload dX11_usesOf_21 rfl ?_
    refine k_iald 30 dX11_usesOf_23 sh_152 (by decide) rfl (by decide) a4 ?_
    refine k_iload_n dX11_usesOf_24 rfl ?_
    obtain ⟨vt, vf⟩ := v
    refine k_icmp_eq 44 dX11_usesOf_25 rfl a5 a6 (fun c7 => ?_) (fun c7 => ?_)
    · have v := vt c7
      obtain ⟨a8, a9, v⟩ := v
      refine k_iconst dX11_usesOf_44 ?_
      refine k_goto 49 dX11_usesOf_45 rfl ?_
      refine k_istore [jR 143, jI v1, jI v2, jI v3, jI v4, jI v5, jI v6, jI 1] dX11_usesOf_49 rfl rfl ?_
      refine k_iload dX11_usesOf_51 rfl ?_
      refine k_if_eq 96 dX11_usesOf_53 rfl (by decide) (fun c => absurd c (by decide)) (fun _ => ?_)
      refine k_aload_n dX11_usesOf_56 rfl ?_
      refine k_getr dX11_usesOf_57 fl_X11_37 sh_143 (by decide) rfl ?_
      refine k_iload dX11_usesOf_60 rfl ?_
      refine k_iald 30 dX11_usesOf_62 sh_153 (by decide) rfl (by decide) a4 ?_
      refine k_iload dX11_usesOf_63 rfl ?_
      obtain ⟨vt, vf⟩ := v
      refine k_icmp_eq 96 dX11_usesOf_65 rfl a8 a9 (fun c10 => ?_) (fun c10 => ?_)
      · have v := vt c10
        refine k_iinc [jR 143, jI v1, jI v2, jI v3, jI v4, jI v5, jI (v6 + 1), jI 1] dX11_usesOf_96 rfl rfl rfl ?_
        refine k_goto 6 dX11_usesOf_99 rfl ?_
        refine k_drop [jR 143, jI v1, jI v2, jI v3, jI v4, jI v5, jI (v6 + 1), jU] ⟨Or.inr rfl, Or.inr rfl, Or.inr rfl, Or.inr rfl, Or.inr rfl, Or.inr rfl, Or.inr rfl, Or.inl rfl, trivial⟩ ?_
        exact v
      · have v := vf c10
        obtain ⟨a11, a12, a13, v⟩ := v
        refine k_aload_n dX11_usesOf_68 rfl ?_
        refine k_getr dX11_usesOf_69 fl_X11_31 sh_143 (by decide) rfl ?_
        refine k_aload_n dX11_usesOf_72 rfl ?_
        refine k_getr dX11_usesOf_73 fl_X11_37 sh_143 (by decide) rfl ?_
        refine k_iload dX11_usesOf_76 rfl ?_
        refine k_iald 30 dX11_usesOf_78 sh_153 (by decide) rfl (by decide) a4 ?_
        refine k_iald 8 dX11_usesOf_79 sh_151 (by decide) rfl (by decide) a11 ?_
        refine k_iload_n dX11_usesOf_80 rfl ?_
        obtain ⟨vt, vf⟩ := v
        refine k_icmp_ne 96 dX11_usesOf_81 rfl a12 a13 (fun c14 => ?_) (fun c14 => ?_)
        · have v := vt c14
          refine k_iinc [jR 143, jI v1, jI v2, jI v3, jI v4, jI v5, jI (v6 + 1), jI 1] dX11_usesOf_96 rfl rfl rfl ?_
          refine k_goto 6 dX11_usesOf_99 rfl ?_
          refine k_drop [jR 143, jI v1, jI v2, jI v3, jI v4, jI v5, jI (v6 + 1), jU] ⟨Or.inr rfl, Or.inr rfl, Or.inr rfl, Or.inr rfl, Or.inr rfl, Or.inr rfl, Or.inr rfl, Or.inl rfl, trivial⟩ ?_
          exact v
        · have v := vf c14
          obtain ⟨a15, a16, a17, v⟩ := v
          refine k_iload dX11_usesOf_84 rfl ?_
          refine k_aload_n dX11_usesOf_86 rfl ?_
          refine k_iload dX11_usesOf_87 rfl ?_
          refine k_iload_n dX11_usesOf_89 rfl ?_
          refine k_invV [jI v6, jI v2] [jI v5] dX11_usesOf_90 cm_X11_stands ml_X11_145 im_X11_stands se_X11_stands rfl sh_143 (by decide) rfl rfl (sp_X11_stands s v6 v2 a15 a16 a17) ?_
          refine k_iadd dX11_usesOf_93 ?_
          refine k_istore [jR 143, jI v1, jI v2, jI v3, jI v4, jI (v5 + (stc s v6 v2)), jI v6, jI 1] dX11_usesOf_94 rfl rfl ?_
          refine k_iinc [jR 143, jI v1, jI v2, jI v3, jI v4, jI (v5 + (stc s v6 v2)), jI (v6 + 1), jI 1] dX11_usesOf_96 rfl rfl rfl ?_
          refine k_goto 6 dX11_usesOf_99 rfl ?_
          refine k_drop [jR 143, jI v1, jI v2, jI v3, jI v4, jI (v5 + (stc s v6 v2)), jI (v6 + 1), jU] ⟨Or.inr rfl, Or.inr rfl, Or.inr rfl, Or.inr rfl, Or.inr rfl, Or.inr rfl, Or.inr rfl, Or.inl rfl, trivial⟩ ?_
          exact v
    · have v := vf c7
      obtain ⟨a18, a19, v⟩ := v
      refine k_aload_n dX11_usesOf_28 rfl ?_
      refine k_getr dX11_usesOf_29 fl_X11_34 sh_143 (by decide) rfl ?_
      refine k_iload dX11_usesOf_32 rfl ?_
      refine k_iald 30 dX11_usesOf_34 sh_152 (by decide) rfl (by decide) a4 ?_
      refine k_aload_n dX11_usesOf_35 rfl ?_
      refine k_getr dX11_usesOf_36 fl_X11_25 sh_143 (by decide) rfl ?_
      refine k_iload_n dX11_usesOf_39 rfl ?_
      refine k_iald 6 dX11_usesOf_40 sh_149 (by decide) rfl (by decide) a18 ?_
      obtain ⟨vt, vf⟩ := v
      refine k_icmp_ne 48 dX11_usesOf_41 rfl a5 a19 (fun c20 => ?_) (fun c20 => ?_)
      · have v := vt c20
        refine k_iconst dX11_usesOf_48 ?_
        refine k_istore [jR 143, jI v1, jI v2, jI v3, jI v4, jI v5, jI v6, jI 0] dX11_usesOf_49 rfl rfl ?_
        refine k_iload dX11_usesOf_51 rfl ?_
        refine k_if_eq 96 dX11_usesOf_53 rfl (by decide) (fun _ => ?_) (fun c => absurd c (by decide))
        refine k_iinc [jR 143, jI v1, jI v2, jI v3, jI v4, jI v5, jI (v6 + 1), jI 0] dX11_usesOf_96 rfl rfl rfl ?_
        refine k_goto 6 dX11_usesOf_99 rfl ?_
        refine k_drop [jR 143, jI v1, jI v2, jI v3, jI v4, jI v5, jI (v6 + 1), jU] ⟨Or.inr rfl, Or.inr rfl, Or.inr rfl, Or.inr rfl, Or.inr rfl, Or.inr rfl, Or.inr rfl, Or.inl rfl, trivial⟩ ?_
        exact v
      · have v := vf c20
        obtain ⟨a21, a22, v⟩ := v
        refine k_iconst dX11_usesOf_44 ?_
        refine k_goto 49 dX11_usesOf_45 rfl ?_
        refine k_istore [jR 143, jI v1, jI v2, jI v3, jI v4, jI v5, jI v6, jI 1] dX11_usesOf_49 rfl rfl ?_
        refine k_iload dX11_usesOf_51 rfl ?_
        refine k_if_eq 96 dX11_usesOf_53 rfl (by decide) (fun c => absurd c (by decide)) (fun _ => ?_)
        refine k_aload_n dX11_usesOf_56 rfl ?_
        refine k_getr dX11_usesOf_57 fl_X11_37 sh_143 (by decide) rfl ?_
        refine k_iload dX11_usesOf_60 rfl ?_
        refine k_iald 30 dX11_usesOf_62 sh_153 (by decide) rfl (by decide) a4 ?_
        refine k_iload dX11_usesOf_63 rfl ?_
        obtain ⟨vt, vf⟩ := v
        refine k_icmp_eq 96 dX11_usesOf_65 rfl a21 a22 (fun c23 => ?_) (fun c23 => ?_)
        · have v := vt c23
          refine k_iinc [jR 143, jI v1, jI v2, jI v3, jI v4, jI v5, jI (v6 + 1), jI 1] dX11_usesOf_96 rfl rfl rfl ?_
          refine k_goto 6 dX11_usesOf_99 rfl ?_
          refine k_drop [jR 143, jI v1, jI v2, jI v3, jI v4, jI v5, jI (v6 + 1), jU] ⟨Or.inr rfl, Or.inr rfl, Or.inr rfl, Or.inr rfl, Or.inr rfl, Or.inr rfl, Or.inr rfl, Or.inl rfl, trivial⟩ ?_
          exact v
        · have v := vf c23
          obtain ⟨a24, a25, a26, v⟩ := v
          refine k_aload_n dX11_usesOf_68 rfl ?_
          refine k_getr dX11_usesOf_69 fl_X11_31 sh_143 (by decide) rfl ?_
          refine k_aload_n dX11_usesOf_72 rfl ?_
          refine k_getr dX11_usesOf_73 fl_X11_37 sh_143 (by decide) rfl ?_
          refine k_iload dX11_usesOf_76 rfl ?_
          refine k_iald 30 dX11_usesOf_78 sh_153 (by decide) rfl (by decide) a4 ?_
          refine k_iald 8 dX11_usesOf_79 sh_151 (by decide) rfl (by decide) a24 ?_
          refine k_iload_n dX11_usesOf_80 rfl ?_
          obtain ⟨vt, vf⟩ := v
          refine k_icmp_ne 96 dX11_usesOf_81 rfl a25 a26 (fun c27 => ?_) (fun c27 => ?_)
          · have v := vt c27
            refine k_iinc [jR 143, jI v1, jI v2, jI v3, jI v4, jI v5, jI (v6 + 1), jI 1] dX11_usesOf_96 rfl rfl rfl ?_
            refine k_goto 6 dX11_usesOf_99 rfl ?_
            refine k_drop [jR 143, jI v1, jI v2, jI v3, jI v4, jI v5, jI (v6 + 1), jU] ⟨Or.inr rfl, Or.inr rfl, Or.inr rfl, Or.inr rfl, Or.inr rfl, Or.inr rfl, Or.inr rfl, Or.inl rfl, trivial⟩ ?_
            exact v
          · have v := vf c27
            obtain ⟨a28, a29, a30, v⟩ := v
            refine k_iload dX11_usesOf_84 rfl ?_
            refine k_aload_n dX11_usesOf_86 rfl ?_
            refine k_iload dX11_usesOf_87 rfl ?_
            refine k_iload_n dX11_usesOf_89 rfl ?_
            refine k_invV [jI v6, jI v2] [jI v5] dX11_usesOf_90 cm_X11_stands ml_X11_145 im_X11_stands se_X11_stands rfl sh_143 (by decide) rfl rfl (sp_X11_stands s v6 v2 a28 a29 a30) ?_
            refine k_iadd dX11_usesOf_93 ?_
            refine k_istore [jR 143, jI v1, jI v2, jI v3, jI v4, jI (v5 + (stc s v6 v2)), jI v6, jI 1] dX11_usesOf_94 rfl rfl ?_
            refine k_iinc [jR 143, jI v1, jI v2, jI v3, jI v4, jI (v5 + (stc s v6 v2)), jI (v6 + 1), jI 1] dX11_usesOf_96 rfl rfl rfl ?_
            refine k_goto 6 dX11_usesOf_99 rfl ?_
            refine k_drop [jR 143, jI v1, jI v2, jI v3, jI v4, jI (v5 + (stc s v6 v2)), jI (v6 + 1), jU] ⟨Or.inr rfl, Or.inr rfl, Or.inr rfl, Or.inr rfl, Or.inr rfl, Or.inr rfl, Or.inr rfl, Or.inl rfl, trivial⟩ ?_
            exact v
theorem sp_X11_usesOf (s : Int → Int → Int) (x w g wo : Int) (h : DD s) (hx : 0 ≤ x ∧ x < s 146 1) (hw : jr32 w) (hg : jr32 g) (ho : jr32 wo) : kM mX11_usesOf [jR 143, jI x, jI w, jI g, jI wo] s (some (jI (ucm s x w g wo))) s := by
  obtain ⟨e0, e1, e2, e3⟩ := h.cnt
  obtain ⟨hk1, hk2, hk3⟩ := h.hnd hx.1 hx.2
  refine g_X11_usesOf ?_
  have key : ∀ i, i ≤ s 146 3 → 0 ≤ i → kK mX11_usesOf 6 [jR 143, jI x, jI w, jI g, jI wo, jI (sg i (fun l => if (s 152 l = x ∨ s 152 l = s 149 x) ∧ s 153 l ≠ wo ∧ s 151 (s 153 l) = g then stc s l w else 0)), jI i, jU] [] s (fun r s' => r = some (jI (ucm s x w g wo)) ∧ s' = s) := by
    refine lp_up _ _ (fun i hi ih h0 => ?_)
    refine g_X11_usesOf_6 ⟨by unfold jr32; omega, by unfold jr32; omega, fun q => ?_, fun q => ?_⟩
    · rw [show i = s 146 3 by omega]; exact ⟨rfl, rfl⟩
    · obtain ⟨f1, f2, -, f4⟩ := h.let h0 (by omega)
      obtain ⟨p1, p2⟩ := h.pup f2.2.1 f2.2.2
      have no : ¬ ((s 152 i = x ∨ s 152 i = s 149 x) ∧ s 153 i ≠ wo ∧ s 151 (s 153 i) = g) → kK mX11_usesOf 6 [jR 143, jI x, jI w, jI g, jI wo, jI (sg i (fun l => if (s 152 l = x ∨ s 152 l = s 149 x) ∧ s 153 l ≠ wo ∧ s 151 (s 153 l) = g then stc s l w else 0)), jI (i + 1), jU] [] s (fun r s' => r = some (jI (ucm s x w g wo)) ∧ s' = s) := fun p => by
        have := ih (by omega) (by omega)
        rw [sg_s h0, if_neg p, Int.add_zero] at this
        exact this
      have yes : ((s 152 i = x ∨ s 152 i = s 149 x) ∧ s 153 i ≠ wo ∧ s 151 (s 153 i) = g) → kK mX11_usesOf 6 [jR 143, jI x, jI w, jI g, jI wo, jI (sg i (fun l => if (s 152 l = x ∨ s 152 l = s 149 x) ∧ s 153 l ≠ wo ∧ s 151 (s 153 l) = g then stc s l w else 0) + stc s i w), jI (i + 1), jU] [] s (fun r s' => r = some (jI (ucm s x w g wo)) ∧ s' = s) := fun p => by
        have := ih (by omega) (by omega)
        rw [sg_s h0, if_pos p] at this
        exact this
      exact ⟨by omega, by unfold jr32; omega, by unfold jr32; omega,
        fun c => ⟨by unfold jr32; omega, ho, fun c2 => no (fun q => q.2.1 c2), fun c2 => ⟨by omega, by unfold jr32; omega, hg, fun c3 => no (fun q => c3 q.2.2), fun c3 => ⟨h, by omega, hw, yes ⟨Or.inl c, c2, c3⟩⟩⟩⟩,
        fun c => ⟨by omega, by unfold jr32; omega, fun c1 => no (fun q => q.1.elim c c1), fun c1 => ⟨by unfold jr32; omega, ho, fun c2 => no (fun q => q.2.1 c2), fun c2 => ⟨by omega, by unfold jr32; omega, hg, fun c3 => no (fun q => c3 q.2.2), fun c3 => ⟨h, by omega, hw, yes ⟨Or.inr c1, c2, c3⟩⟩⟩⟩⟩⟩
  exact key 0 (by omega) (by omega)
