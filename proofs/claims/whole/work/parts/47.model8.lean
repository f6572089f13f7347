theorem g_X11_wordsIn {s : Int → Int → Int} {Q : Option jV → (Int → Int → Int) → Prop} {v1 v2 v3 : Int} (v : kK mX11_wordsIn 6 [jR 143, jI v1, jI v2, jI v3, jI 0, jI 0, jU, jU] [] s Q) : kR mX11_wordsIn [jR 143, jI v1, jI v2, jI v3] s Q := by
  show kK mX11_wordsIn 0 [jR 143, jI v1, jI v2, jI v3, jU, jU, jU, jU] [] s Q
  refine k_iconst dX11_wordsIn_0 ?_
  refine k_istore [jR 143, jI v1, jI v2, jI v3, jI 0, jU, jU, jU] dX11_wordsIn_1 rfl rfl ?_
  refine k_iconst dX11_wordsIn_3 ?_
  refine k_istore [jR 143, jI v1, jI v2, jI v3, jI 0, jI 0, jU, jU] dX11_wordsIn_4 rfl rfl ?_
  exact v
theorem g_X11_wordsIn_6 {s : Int → Int → Int} {Q : Option jV → (Int → Int → Int) → Prop} {v1 v2 v3 v4 v5 : Int} (v : (jr32 v5 ∧ jr32 (s 146 3) ∧ (((s 146 3) ≤ v5 → Q (some (jI v4)) s) ∧ (¬ ((s 146 3) ≤ v5) → kK mX11_wordsIn 20 [jR 143, jI v1, jI v2, jI v3, jI v4, jI v5, jI 0, jU] [] s Q)))) : kK mX11_wordsIn 6 [jR 143, jI v1, jI v2, jI v3, jI v4, jI v5, jU, jU] [] s Q := by
  obtain ⟨a1, a2, v⟩ := v
  refine k_iload dX11_wordsIn_6 rfl ?_
  refine k_aload_n dX11_wordsIn_8 rfl ?_
  refine k_getr dX11_wordsIn_9 fl_X11_16 sh_143 (by decide) rfl ?_
  refine k_iconst dX11_wordsIn_12 ?_
  refine k_iald 6 dX11_wordsIn_13 sh_146 (by decide) rfl (by decide) (by decide) ?_
  obtain ⟨vt, vf⟩ := v
  refine k_icmp_ge 115 dX11_wordsIn_14 rfl a1 a2 (fun c3 => ?_) (fun c3 => ?_)
  · have v := vt c3
    refine k_iload dX11_wordsIn_115 rfl ?_
    exact k_ireturn (st := []) dX11_wordsIn_117 rfl v
  · have v := vf c3
    refine k_iconst dX11_wordsIn_17 ?_
    refine k_istore [jR 143, jI v1, jI v2, jI v3, jI v4, jI v5, jI 0, jU] dX11_wordsIn_18 rfl rfl ?_
    exact v
theorem g_X11_wordsIn_20 {s : Int → Int → Int} {Q : Option jV → (Int → Int → Int) → Prop} {v1 v2 v3 v4 v5 v6 : Int} (v : ((0 ≤ v5 ∧ v5 < 30) ∧ jr32 v6 ∧ jr32 (s 155 v5) ∧ (((s 155 v5) ≤ v6 → kK mX11_wordsIn 6 [jR 143, jI v1, jI v2, jI v3, jI v4, jI (v5 + 1), jU, jU] [] s Q) ∧ (¬ ((s 155 v5) ≤ v6) → (jr32 (s 154 v5) ∧ jr32 v1 ∧ (((s 154 v5) ≠ v1 → kK mX11_wordsIn 20 [jR 143, jI v1, jI v2, jI v3, jI (v4 + 0), jI v5, jI (v6 + 1), jU] [] s Q) ∧ ((s 154 v5) = v1 → (jr32 v2 ∧ ((v2 = (-1) → ((0 ≤ ((8 * v5) + v6) ∧ ((8 * v5) + v6) < 240) ∧ (0 ≤ (s 156 ((8 * v5) + v6)) ∧ (s 156 ((8 * v5) + v6)) < 8) ∧ jr32 (s 147 (s 156 ((8 * v5) + v6))) ∧ jr32 v3 ∧ ((v3 < (s 147 (s 156 ((8 * v5) + v6))) → kK mX11_wordsIn 20 [jR 143, jI v1, jI v2, jI v3, jI (v4 + 0), jI v5, jI (v6 + 1), jU] [] s Q) ∧ (¬ (v3 < (s 147 (s 156 ((8 * v5) + v6)))) → kK mX11_wordsIn 20 [jR 143, jI v1, jI v2, jI v3, jI (v4 + 1), jI v5, jI (v6 + 1), jU] [] s Q)))) ∧ (¬ (v2 = (-1)) → (jr32 (s 152 v5) ∧ (((s 152 v5) ≠ v2 → kK mX11_wordsIn 20 [jR 143, jI v1, jI v2, jI v3, jI (v4 + 0), jI v5, jI (v6 + 1), jU] [] s Q) ∧ ((s 152 v5) = v2 → ((0 ≤ ((8 * v5) + v6) ∧ ((8 * v5) + v6) < 240) ∧ (0 ≤ (s 156 ((8 * v5) + v6)) ∧ (s 156 ((8 * v5) + v6)) < 8) ∧ jr32 (s 147 (s 156 ((8 * v5) + v6))) ∧ jr32 v3 ∧ ((v3 < (s 147 (s 156 ((8 * v5) + v6))) → kK mX11_wordsIn 20 [jR 143, jI v1, jI v2, jI v3, jI (v4 + 0), jI v5, jI (v6 + 1), jU] [] s Q) ∧ (¬ (v3 < (s 147 (s 156 ((8 * v5) + v6)))) → kK mX11_wordsIn 20 [jR 143, jI v1, jI v2, jI v3, jI (v4 + 1), jI v5, jI (v6 + 1), jU] [] s Q)))))))))))))))) : kK mX11_wordsIn 20 [jR 143, jI v1, jI v2, jI v3, jI v4, jI v5, jI v6, jU] [] s Q := by
  obtain ⟨a1, a2, a3, v⟩ := v
  refine k_iload dX11_wordsIn_20 rfl ?_
  refine k_aload_n dX11_wordsIn_22 rfl ?_
  refine k_getr dX11_wordsIn_23 fl_X11_43 sh_143 (by decide) rfl ?_
  refine k_iload dX11_wordsIn_26 rfl ?_
  refine k_iald 30 dX11_wordsIn_28 sh_155 (by decide) rfl (by decide) a1 ?_
  obtain ⟨vt, vf⟩ := v
  refine k_icmp_ge 109 dX11_wordsIn_29 rfl a2 a3 (fun c4 => ?_) (fun c4 => ?_)
  · have v := vt c4
    refine k_iinc [jR 143, jI v1, jI v2, jI v3, jI v4, jI (v5 + 1), jI v6, jU] dX11_wordsIn_109 rfl rfl rfl ?_
    refine k_goto 6 dX11_wordsIn_112 rfl ?_
    refine k_drop [jR 143, jI v1, jI v2, jI v3, jI v4, jI (v5 + 1), jU, jU] ⟨Or.inr rfl, Or.inr rfl, Or.inr rfl, Or.inr rfl, Or.inr rfl, Or.inr rfl, Or.inl rfl, Or.inr rfl, trivial⟩ ?_
    exact v
  · have v := vf c4
    obtain ⟨a5, a6, v⟩ := v
    refine k_aload_n dX11_wordsIn_32 rfl ?_
    refine k_getr dX11_wordsIn_33 fl_X11_40 sh_143 (by decide) rfl ?_
    refine k_iload dX11_wordsIn_36 rfl ?_
    refine k_iald 30 dX11_wordsIn_38 sh_154 (by decide) rfl (by decide) a1 ?_
    refine k_iload_n dX11_wordsIn_39 rfl ?_
    obtain ⟨vt, vf⟩ := v
    refine k_icmp_ne 63 dX11_wordsIn_40 rfl a5 a6 (fun c7 => ?_) (fun c7 => ?_)
    · have v := vt c7
      refine k_iconst dX11_wordsIn_63 ?_
      refine k_istore [jR 143, jI v1, jI v2, jI v3, jI v4, jI v5, jI v6, jI 0] dX11_wordsIn_64 rfl rfl ?_
      refine k_iload dX11_wordsIn_66 rfl ?_
      refine k_iload dX11_wordsIn_68 rfl ?_
      refine k_if_eq 99 dX11_wordsIn_70 rfl (by decide) (fun _ => ?_) (fun c => absurd c (by decide))
      refine k_iconst dX11_wordsIn_99 ?_
      refine k_iadd dX11_wordsIn_100 ?_
      refine k_istore [jR 143, jI v1, jI v2, jI v3, jI (v4 + 0), jI v5, jI v6, jI 0] dX11_wordsIn_101 rfl rfl ?_
      refine k_iinc [jR 143, jI v1, jI v2, jI v3, jI (v4 + 0), jI v5, jI (v6 + 1), jI 0] dX11_wordsIn_103 rfl rfl rfl ?_
      refine k_goto 20 dX11_wordsIn_106 rfl ?_
      refine k_drop [jR 143, jI v1, jI v2, jI v3, jI (v4 + 0), jI v5, jI (v6 + 1), jU] ⟨Or.inr rfl, Or.inr rfl, Or.inr rfl, Or.inr rfl, Or.inr rfl, Or.inr rfl, Or.inr rfl, Or.inl rfl, trivial⟩ ?_
      exact v
    · have v := vf c7
      obtain ⟨a8, v⟩ := v
      refine k_iload_n dX11_wordsIn_43 rfl ?_
      refine k_iconst dX11_wordsIn_44 ?_
      obtain ⟨vt, vf⟩ := v
      refine k_icmp_eq 59 dX11_wordsIn_45 rfl a8 (by decide) (fun c9 => ?_) (fun c9 => ?_)
      · have v := vt c9
        obtain ⟨a10, a11, a12, a13, v⟩ := v
        refine k_iconst dX11_wordsIn_59 ?_
        refine k_goto 64 dX11_wordsIn_60 rfl ?_
        refine k_istore [jR 143, jI v1, jI v2, jI v3, jI v4, jI v5, jI v6, jI 1] dX11_wordsIn_64 rfl rfl ?_
        refine k_iload dX11_wordsIn_66 rfl ?_
        refine k_iload dX11_wordsIn_68 rfl ?_
        refine k_if_eq 99 dX11_wordsIn_70 rfl (by decide) (fun c => absurd c (by decide)) (fun _ => ?_)
        refine k_aload_n dX11_wordsIn_73 rfl ?_
        refine k_getr dX11_wordsIn_74 fl_X11_19 sh_143 (by decide) rfl ?_
        refine k_aload_n dX11_wordsIn_77 rfl ?_
        refine k_getr dX11_wordsIn_78 fl_X11_46 sh_143 (by decide) rfl ?_
        refine k_bipush dX11_wordsIn_81 rfl ?_
        refine k_iload dX11_wordsIn_83 rfl ?_
        refine k_imul dX11_wordsIn_85 ?_
        refine k_iload dX11_wordsIn_86 rfl ?_
        refine k_iadd dX11_wordsIn_88 ?_
        refine k_iald 240 dX11_wordsIn_89 sh_156 (by decide) rfl (by decide) a10 ?_
        refine k_iald 8 dX11_wordsIn_90 sh_147 (by decide) rfl (by decide) a11 ?_
        refine k_iload_n dX11_wordsIn_91 rfl ?_
        obtain ⟨vt, vf⟩ := v
        refine k_icmp_gt 99 dX11_wordsIn_92 rfl a12 a13 (fun c14 => ?_) (fun c14 => ?_)
        · have v := vt c14
          refine k_iconst dX11_wordsIn_99 ?_
          refine k_iadd dX11_wordsIn_100 ?_
          refine k_istore [jR 143, jI v1, jI v2, jI v3, jI (v4 + 0), jI v5, jI v6, jI 1] dX11_wordsIn_101 rfl rfl ?_
          refine k_iinc [jR 143, jI v1, jI v2, jI v3, jI (v4 + 0), jI v5, jI (v6 + 1), jI 1] dX11_wordsIn_103 rfl rfl rfl ?_
          refine k_goto 20 dX11_wordsIn_106 rfl ?_
          refine k_drop [jR 143, jI v1, jI v2, jI v3, jI (v4 + 0), jI v5, jI (v6 + 1), jU] ⟨Or.inr rfl, Or.inr rfl, Or.inr rfl, Or.inr rfl, Or.inr rfl, Or.inr rfl, Or.inr rfl, Or.inl rfl, trivial⟩ ?_
          exact v
        · have v := vf c14
          refine k_iconst dX11_wordsIn_95 ?_
          refine k_goto 100 dX11_wordsIn_96 rfl ?_
          refine k_iadd dX11_wordsIn_100 ?_
          refine k_istore [jR 143, jI v1, jI v2, jI v3, jI (v4 + 1), jI v5, jI v6, jI 1] dX11_wordsIn_101 rfl rfl ?_
          refine k_iinc [jR 143, jI v1, jI v2, jI v3, jI (v4 + 1), jI v5, jI (v6 + 1), jI 1] dX11_wordsIn_103 rfl rfl rfl ?_
          refine k_goto 20 dX11_wordsIn_106 rfl ?_
          refine k_drop [jR 143, jI v1, jI v2, jI v3, jI (v4 + 1), jI v5, jI (v6 + 1), jU] ⟨Or.inr rfl, Or.inr rfl, Or.inr rfl, Or.inr rfl, Or.inr rfl, Or.inr rfl, Or.inr rfl, Or.inl rfl, trivial⟩ ?_
          exact v
      · have v := vf c9
        obtain ⟨a15, v⟩ := v
        refine k_aload_n dX11_wordsIn_48 rfl ?_
        refine k_getr dX11_wordsIn_49 fl_X11_34 sh_143 (by decide) rfl ?_
        refine k_iload dX11_wordsIn_52 rfl ?_
        refine k_iald 30 dX11_wordsIn_54 sh_152 (by decide) rfl (by decide) a1 ?_
        refine k_iload_n dX11_wordsIn_55 rfl ?_
        obtain ⟨vt, vf⟩ := v
        refine k_icmp_ne 63 dX11_wordsIn_56 rfl a15 a8 (fun c16 => ?_) (fun c16 => ?_)
        · have v := vt c16
          refine k_iconst dX11_wordsIn_63 ?_
          refine k_istore [jR 143, jI v1, jI v2, jI v3, jI v4, jI v5, jI v6, jI 0] dX11_wordsIn_64 rfl rfl ?_
          refine k_iload dX11_wordsIn_66 rfl ?_
          refine k_iload dX11_wordsIn_68 rfl ?_
          refine k_if_eq 99 dX11_wordsIn_70 rfl (by decide) (fun _ => ?_) (fun c => absurd c (by decide))
          refine k_iconst dX11_wordsIn_99 ?_
          refine k_iadd dX11_wordsIn_100 ?_
          refine k_istore [jR 143, jI v1, jI v2, jI v3, jI (v4 + 0), jI v5, jI v6, jI 0] dX11_wordsIn_101 rfl rfl ?_
          refine k_iinc [jR 143, jI v1, jI v2, jI v3, jI (v4 + 0), jI v5, jI (v6 + 1), jI 0] dX11_wordsIn_103 rfl rfl rfl ?_
          refine k_goto 20 dX11_wordsIn_106 rfl ?_
          refine k_drop [jR 143, jI v1, jI v2, jI v3, jI (v4 + 0), jI v5, jI (v6 + 1), jU] ⟨Or.inr rfl, Or.inr rfl, Or.inr rfl, Or.inr rfl, Or.inr rfl, Or.inr rfl, Or.inr rfl, Or.inl rfl, trivial⟩ ?_
          exact v
        · have v := vf c16
          obtain ⟨a17, a18, a19, a20, v⟩ := v
          refine k_iconst dX11_wordsIn_59 ?_
          refine k_goto 64 dX11_wordsIn_60 rfl ?_
          refine k_istore [jR 143, jI v1, jI v2, jI v3, jI v4, jI v5, jI v6, jI 1] dX11_wordsIn_64 rfl rfl ?_
          refine k_iload dX11_wordsIn_66 rfl ?_
          refine k_iload dX11_wordsIn_68 rfl ?_
          refine k_if_eq 99 dX11_wordsIn_70 rfl (by decide) (fun c => absurd c (by decide)) (fun _ => ?_)
          refine k_aload_n dX11_wordsIn_73 rfl ?_
          refine k_getr dX11_wordsIn_74 fl_X11_19 sh_143 (by decide) rfl ?_
          refine k_aload_n dX11_wordsIn_77 rfl ?_
          refine k_getr dX11_wordsIn_78 fl_X11_46 sh_143 (by decide) rfl ?_
          refine k_bipush dX11_wordsIn_81 rfl ?_
          refine k_iload dX11_wordsIn_83 rfl ?_
          refine k_imul dX11_wordsIn_85 ?_
          refine k_iload dX11_wordsIn_86 rfl ?_
          refine k_iadd dX11_wordsIn_88 ?_
          refine k_iald 240 dX11_wordsIn_89 sh_156 (by decide) rfl (by decide) a17 ?_
          refine k_iald 8 dX11_wordsIn_90 sh_147 (by decide) rfl (by decide) a18 ?_
          refine k_iload_n dX11_wordsIn_91 rfl ?_
          obtain ⟨vt, vf⟩ := v
          refine k_icmp_gt 99 dX11_wordsIn_92 rfl a19 a20 (fun c21 => ?_) (fun c21 => ?_)
          · have v := vt c21
            refine k_iconst dX11_wordsIn_99 ?_
            refine k_iadd dX11_wordsIn_100 ?_
            refine k_istore [jR 143, jI v1, jI v2, jI v3, jI (v4 + 0), jI v5, jI v6, jI 1] dX11_wordsIn_101 rfl rfl ?_
            refine k_iinc [jR 143, jI v1, jI v2, jI v3, jI (v4 + 0), jI v5, jI (v6 + 1), jI 1] dX11_wordsIn_103 rfl rfl rfl ?_
            refine k_goto 20 dX11_wordsIn_106 rfl ?_
            refine k_drop [jR 143, jI v1, jI v2, jI v3, jI (v4 + 0), jI v5, jI (v6 + 1), jU] ⟨Or.inr rfl, Or.inr rfl, Or.inr rfl, Or.inr rfl, Or.inr rfl, Or.inr rfl, Or.inr rfl, Or.inl rfl, trivial⟩ ?_
            exact v
          · have v := vf c21
            refine k_iconst dX11_wordsIn_95 ?_
            refine k_goto 100 dX11_wordsIn_96 rfl ?_
            refine k_iadd dX11_wordsIn_100 ?_
            refine k_istore [jR 143, jI v1, jI v2, jI v3, jI (v4 + 1), jI v5, jI v6, jI 1] dX11_wordsIn_101 rfl rfl ?_
            refine k_iinc [jR 143, jI v1, jI v2, jI v3, jI (v4 + 1), jI v5, jI (v6 + 1), jI 1] dX11_wordsIn_103 rfl rfl rfl ?_
            refine k_goto 20 dX11_wordsIn_106 rfl ?_
            refine k_drop [jR 143, jI v1, jI v2, jI v3, jI (v4 + 1), jI v5, jI (v6 + 1), jU] ⟨Or.inr rfl, Or.inr rfl, Or.inr rfl, Or.inr rfl, Or.inr rfl, Or.inr rfl, Or.inr rfl, Or.inl rfl, trivial⟩ ?_
            exact v
def wlp (s : Int → Int → Int) (n y h r : Int) : Int := sg n (fun l => if s 154 l = y ∧ (h = -1 ∨ s 152 l = h) then sg (s 155 l) (fun k => jbo (s 147 (s 156 (8 * l + k)) ≤ r)) else 0)
theorem sp_X11_wordsIn (s : Int → Int → Int) (y h r : Int) (d : DD s) (hy : jr32 y) (hh : jr32 h) (hr : jr32 r) : kM mX11_wordsIn [jR 143, jI y, jI h, jI r] s (some (jI (wlp s (s 146 3) y h r))) s := by
  obtain ⟨e0, e1, e2, e3⟩ := d.cnt
  refine g_X11_wordsIn ?_
  have key : ∀ l, l ≤ s 146 3 → 0 ≤ l → kK mX11_wordsIn 6 [jR 143, jI y, jI h, jI r, jI (wlp s l y h r), jI l, jU, jU] [] s (fun r' s' => r' = some (jI (wlp s (s 146 3) y h r)) ∧ s' = s) := by
    refine lp_up _ _ (fun l hl ih l0 => ?_)
    refine g_X11_wordsIn_6 ⟨by unfold jr32; omega, by unfold jr32; omega, fun q => ⟨by rw [show l = s 146 3 by omega], rfl⟩, fun q => ?_⟩
    obtain ⟨f1, f2, f3, f4⟩ := d.let l0 (by omega)
    have inner : ∀ k, k ≤ s 155 l → 0 ≤ k → kK mX11_wordsIn 20 [jR 143, jI y, jI h, jI r, jI (wlp s l y h r + if s 154 l = y ∧ (h = -1 ∨ s 152 l = h) then sg k (fun k => jbo (s 147 (s 156 (8 * l + k)) ≤ r)) else 0), jI l, jI k, jU] [] s (fun r' s' => r' = some (jI (wlp s (s 146 3) y h r)) ∧ s' = s) := by
      refine lp_up _ _ (fun k hk jh k0 => ?_)
      refine g_X11_wordsIn_20 ⟨by omega, by unfold jr32; omega, by unfold jr32; omega, fun q2 => ?_, fun q2 => ?_⟩
      · have := ih (by omega) (by omega)
        rw [show wlp s (l + 1) y h r = wlp s l y h r + if s 154 l = y ∧ (h = -1 ∨ s 152 l = h) then sg (s 155 l) (fun k => jbo (s 147 (s 156 (8 * l + k)) ≤ r)) else 0 from sg_s l0 _] at this
        rw [show k = s 155 l by omega]
        exact this
      · obtain ⟨t1, t2, t3⟩ := d.txt l0 (by omega) k0 (by omega)
        obtain ⟨w1, -⟩ := d.wrd t2 t3
        have nx := jh (by omega) (by omega)
        rw [sg_s k0] at nx
        have no : ¬ (s 154 l = y ∧ (h = -1 ∨ s 152 l = h)) → kK mX11_wordsIn 20 [jR 143, jI y, jI h, jI r, jI ((wlp s l y h r + if s 154 l = y ∧ (h = -1 ∨ s 152 l = h) then sg k (fun k => jbo (s 147 (s 156 (8 * l + k)) ≤ r)) else 0) + 0), jI l, jI (k + 1), jU] [] s (fun r' s' => r' = some (jI (wlp s (s 146 3) y h r)) ∧ s' = s) := fun p => by
          rw [if_neg p] at nx ⊢
          rw [show wlp s l y h r + 0 + 0 = wlp s l y h r + 0 by omega]
          exact nx
        have yes : (s 154 l = y ∧ (h = -1 ∨ s 152 l = h)) → ((r < s 147 (s 156 (8 * l + k)) → kK mX11_wordsIn 20 [jR 143, jI y, jI h, jI r, jI ((wlp s l y h r + if s 154 l = y ∧ (h = -1 ∨ s 152 l = h) then sg k (fun k => jbo (s 147 (s 156 (8 * l + k)) ≤ r)) else 0) + 0), jI l, jI (k + 1), jU] [] s (fun r' s' => r' = some (jI (wlp s (s 146 3) y h r)) ∧ s' = s)) ∧ (¬ (r < s 147 (s 156 (8 * l + k))) → kK mX11_wordsIn 20 [jR 143, jI y, jI h, jI r, jI ((wlp s l y h r + if s 154 l = y ∧ (h = -1 ∨ s 152 l = h) then sg k (fun k => jbo (s 147 (s 156 (8 * l + k)) ≤ r)) else 0) + 1), jI l, jI (k + 1), jU] [] s (fun r' s' => r' = some (jI (wlp s (s 146 3) y h r)) ∧ s' = s))) := fun p => by
          rw [if_pos p] at nx ⊢
          refine ⟨fun c => ?_, fun c => ?_⟩
          · rw [jbo_f (by omega)] at nx
            rw [Int.add_assoc]; exact nx
          · rw [jbo_t (by omega)] at nx
            rw [Int.add_assoc]; exact nx
        exact ⟨by unfold jr32; omega, hy, fun a => no (fun q => a q.1), fun a => ⟨hh, fun b => ⟨by omega, by omega, by unfold jr32; omega, hr, yes ⟨a, Or.inl b⟩⟩, fun b => ⟨by unfold jr32; omega, fun c => no (fun q => q.2.elim b c), fun c => ⟨by omega, by omega, by unfold jr32; omega, hr, yes ⟨a, Or.inr c⟩⟩⟩⟩⟩
    have := inner 0 (by omega) (by omega)
    rw [sg_0] at this
    have e : (wlp s l y h r + if s 154 l = y ∧ (h = -1 ∨ s 152 l = h) then 0 else 0) = wlp s l y h r := by
      by_cases p : s 154 l = y ∧ (h = -1 ∨ s 152 l = h)
      · rw [if_pos p, Int.add_zero]
      · rw [if_neg p, Int.add_zero]
    rw [e] at this
    exact this
  exact key 0 (by omega) (by omega)
