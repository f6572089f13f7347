theorem g_X7_longestRun {s : Int → Int → Int} {Q : Option jV → (Int → Int → Int) → Prop} {v1 v2 : Int} (v : kK mX7_longestRun 5 [jR 86, jI v1, jI v2, jI 0, jI 1, jU, jU] [] s Q) : kR mX7_longestRun [jR 86, jI v1, jI v2] s Q := by
  show kK mX7_longestRun 0 [jR 86, jI v1, jI v2, jU, jU, jU, jU] [] s Q
  refine k_iconst dX7_longestRun_0 ?_
  refine k_istore_n [jR 86, jI v1, jI v2, jI 0, jU, jU, jU] dX7_longestRun_1 rfl rfl ?_
  refine k_iconst dX7_longestRun_2 ?_
  refine k_istore [jR 86, jI v1, jI v2, jI 0, jI 1, jU, jU] dX7_longestRun_3 rfl rfl ?_
  exact v
theorem g_X7_longestRun_5 {s : Int → Int → Int} {Q : Option jV → (Int → Int → Int) → Prop} {v1 v2 v3 v4 : Int} (v : ((0 ≤ v1 ∧ v1 < 30) ∧ jr32 v4 ∧ jr32 (s 11 v1) ∧ (((s 11 v1) < v4 → Q (some (jI v3)) s) ∧ (¬ ((s 11 v1) < v4) → kK mX7_longestRun 22 [jR 86, jI v1, jI v2, jI v3, jI v4, jI 1, jU] [] s Q)))) : kK mX7_longestRun 5 [jR 86, jI v1, jI v2, jI v3, jI v4, jU, jU] [] s Q := by
  obtain ⟨a1, a2, a3, v⟩ := v
  refine k_iload dX7_longestRun_5 rfl ?_
  refine k_aload_n dX7_longestRun_7 rfl ?_
  refine k_getr dX7_longestRun_8 fl_X7_16 sh_86 (by decide) rfl ?_
  refine k_getr dX7_longestRun_11 fl_X7_20 sh_2 (by decide) rfl ?_
  refine k_iload_n dX7_longestRun_14 rfl ?_
  refine k_iald 30 dX7_longestRun_15 sh_11 (by decide) rfl (by decide) a1 ?_
  obtain ⟨vt, vf⟩ := v
  refine k_icmp_gt 136 dX7_longestRun_16 rfl a2 a3 (fun c4 => ?_) (fun c4 => ?_)
  · have v := vt c4
    refine k_iload_n dX7_longestRun_136 rfl ?_
    exact k_ireturn (st := []) dX7_longestRun_137 rfl v
  · have v := vf c4
    refine k_iconst dX7_longestRun_19 ?_
    refine k_istore [jR 86, jI v1, jI v2, jI v3, jI v4, jI 1, jU] dX7_longestRun_20 rfl rfl ?_
    exact v
theorem g_X7_longestRun_22 {s : Int → Int → Int} {Q : Option jV → (Int → Int → Int) → Prop} {v1 v2 v3 v4 v5 : Int} (v : ((0 ≤ v2 ∧ v2 < 30) ∧ jr32 v5 ∧ jr32 (s 11 v2) ∧ (((s 11 v2) < v5 → kK mX7_longestRun 5 [jR 86, jI v1, jI v2, jI v3, jI (v4 + 1), jU, jU] [] s Q) ∧ (¬ ((s 11 v2) < v5) → ((0 ≤ v1 ∧ v1 < 30) ∧ (0 ≤ (v4 - 1) ∧ (v4 - 1) < 8) ∧ (0 ≤ (v5 - 1) ∧ (v5 - 1) < 8) ∧ jr32 (s (13 + v1) (v4 - 1)) ∧ jr32 (s (13 + v2) (v5 - 1)) ∧ (((s (13 + v1) (v4 - 1)) ≠ (s (13 + v2) (v5 - 1)) → ((0 ≤ v4 ∧ v4 < 9) ∧ (0 ≤ v5 ∧ v5 < 9) ∧ jr32 v3 ∧ kK mX7_longestRun 22 [jR 86, jI v1, jI v2, jI (max v3 0), jI v4, jI (v5 + 1), jU] [] (w2 s (88 + v4) v5 0) Q)) ∧ ((s (13 + v1) (v4 - 1)) = (s (13 + v2) (v5 - 1)) → ((0 ≤ v4 ∧ v4 < 9) ∧ (0 ≤ (v4 - 1) ∧ (v4 - 1) < 9) ∧ (0 ≤ (v5 - 1) ∧ (v5 - 1) < 9) ∧ (0 ≤ v5 ∧ v5 < 9) ∧ jr32 v3 ∧ jr32 ((s (88 + (v4 - 1)) (v5 - 1)) + 1) ∧ kK mX7_longestRun 22 [jR 86, jI v1, jI v2, jI (max v3 ((s (88 + (v4 - 1)) (v5 - 1)) + 1)), jI v4, jI (v5 + 1), jU] [] (w2 s (88 + v4) v5 ((s (88 + (v4 - 1)) (v5 - 1)) + 1)) Q)))))))) : kK mX7_longestRun 22 [jR 86, jI v1, jI v2, jI v3, jI v4, jI v5, jU] [] s Q := by
  obtain ⟨a1, a2, a3, v⟩ := v
  refine k_iload dX7_longestRun_22 rfl ?_
  refine k_aload_n dX7_longestRun_24 rfl ?_
  refine k_getr dX7_longestRun_25 fl_X7_16 sh_86 (by decide) rfl ?_
  refine k_getr dX7_longestRun_28 fl_X7_20 sh_2 (by decide) rfl ?_
  refine k_iload_n dX7_longestRun_31 rfl ?_
  refine k_iald 30 dX7_longestRun_32 sh_11 (by decide) rfl (by decide) a1 ?_
  obtain ⟨vt, vf⟩ := v
  refine k_icmp_gt 130 dX7_longestRun_33 rfl a2 a3 (fun c4 => ?_) (fun c4 => ?_)
  · have v := vt c4
    refine k_iinc [jR 86, jI v1, jI v2, jI v3, jI (v4 + 1), jI v5, jU] dX7_longestRun_130 rfl rfl rfl ?_
    refine k_goto 5 dX7_longestRun_133 rfl ?_
    refine k_drop [jR 86, jI v1, jI v2, jI v3, jI (v4 + 1), jU, jU] ⟨Or.inr rfl, Or.inr rfl, Or.inr rfl, Or.inr rfl, Or.inr rfl, Or.inl rfl, Or.inr rfl, trivial⟩ ?_
    exact v
  · have v := vf c4
    obtain ⟨a5, a6, a7, a8, a9, v⟩ := v
    refine k_aload_n dX7_longestRun_36 rfl ?_
    refine k_getr dX7_longestRun_37 fl_X7_16 sh_86 (by decide) rfl ?_
    refine k_getr dX7_longestRun_40 fl_X7_26 sh_2 (by decide) rfl ?_
    refine k_iload_n dX7_longestRun_43 rfl ?_
    refine k_aald 30 dX7_longestRun_44 sh_12 (Or.inl rfl) (by decide) rfl (by decide) rfl a5 ?_
    refine k_iload dX7_longestRun_45 rfl ?_
    refine k_iconst dX7_longestRun_47 ?_
    refine k_isub dX7_longestRun_48 ?_
    refine k_iald 8 dX7_longestRun_49 (sr_12 v1 a5) ⟨by have := a5; omega, by have := a5; omega⟩ rfl (by decide) a6 ?_
    refine k_aload_n dX7_longestRun_50 rfl ?_
    refine k_getr dX7_longestRun_51 fl_X7_16 sh_86 (by decide) rfl ?_
    refine k_getr dX7_longestRun_54 fl_X7_26 sh_2 (by decide) rfl ?_
    refine k_iload_n dX7_longestRun_57 rfl ?_
    refine k_aald 30 dX7_longestRun_58 sh_12 (Or.inl rfl) (by decide) rfl (by decide) rfl a1 ?_
    refine k_iload dX7_longestRun_59 rfl ?_
    refine k_iconst dX7_longestRun_61 ?_
    refine k_isub dX7_longestRun_62 ?_
    refine k_iald 8 dX7_longestRun_63 (sr_12 v2 a1) ⟨by have := a1; omega, by have := a1; omega⟩ rfl (by decide) a7 ?_
    obtain ⟨vt, vf⟩ := v
    refine k_icmp_ne 71 dX7_longestRun_64 rfl a8 a9 (fun c10 => ?_) (fun c10 => ?_)
    · have v := vt c10
      obtain ⟨a11, a12, a13, v⟩ := v
      refine k_iconst dX7_longestRun_71 ?_
      refine k_istore [jR 86, jI v1, jI v2, jI v3, jI v4, jI v5, jI 0] dX7_longestRun_72 rfl rfl ?_
      refine k_aload_n dX7_longestRun_74 rfl ?_
      refine k_getr dX7_longestRun_75 fl_X7_11 sh_86 (by decide) rfl ?_
      refine k_iload dX7_longestRun_78 rfl ?_
      refine k_aald 9 dX7_longestRun_80 sh_87 (Or.inl rfl) (by decide) rfl (by decide) rfl a11 ?_
      refine k_iload dX7_longestRun_81 rfl ?_
      refine k_iload dX7_longestRun_83 rfl ?_
      refine k_if_eq 107 dX7_longestRun_85 rfl (by decide) (fun _ => ?_) (fun c => absurd c (by decide))
      refine k_iconst dX7_longestRun_107 ?_
      refine k_iast 9 dX7_longestRun_108 (sr_87 v4 a11) ⟨by have := a11; omega, by have := a11; omega⟩ rfl (by decide) a12 ?_
      refine k_iload_n dX7_longestRun_109 rfl ?_
      refine k_aload_n dX7_longestRun_110 rfl ?_
      refine k_getr dX7_longestRun_111 fl_X7_11 sh_86 (by decide) rfl ?_
      refine k_iload dX7_longestRun_114 rfl ?_
      refine k_aald 9 dX7_longestRun_116 sh_87 (Or.inl rfl) (by decide) rfl (by decide) rfl a11 ?_
      refine k_iload dX7_longestRun_117 rfl ?_
      refine k_iald 9 dX7_longestRun_119 (sr_87 v4 a11) ⟨by have := a11; omega, by have := a11; omega⟩ rfl (by decide) a12 ?_
      rw [show ((w2 s (88 + v4) v5 0) (88 + v4) v5) = 0 from by rw [w2_s]]
      refine k_mmaxI dX7_longestRun_120 ml_X7_29 mw_mmaxI.1 mw_mmaxI.2.1 mw_mmaxI.2.2 rfl a13 (by decide) ?_
      refine k_istore_n [jR 86, jI v1, jI v2, jI (max v3 0), jI v4, jI v5, jI 0] dX7_longestRun_123 rfl rfl ?_
      refine k_iinc [jR 86, jI v1, jI v2, jI (max v3 0), jI v4, jI (v5 + 1), jI 0] dX7_longestRun_124 rfl rfl rfl ?_
      refine k_goto 22 dX7_longestRun_127 rfl ?_
      refine k_drop [jR 86, jI v1, jI v2, jI (max v3 0), jI v4, jI (v5 + 1), jU] ⟨Or.inr rfl, Or.inr rfl, Or.inr rfl, Or.inr rfl, Or.inr rfl, Or.inr rfl, Or.inl rfl, trivial⟩ ?_
      exact v
    · have v := vf c10
      obtain ⟨a14, a15, a16, a17, a18, a19, v⟩ := v
      refine k_iconst dX7_longestRun_67 ?_
      refine k_goto 72 dX7_longestRun_68 rfl ?_
      refine k_istore [jR 86, jI v1, jI v2, jI v3, jI v4, jI v5, jI 1] dX7_longestRun_72 rfl rfl ?_
      refine k_aload_n dX7_longestRun_74 rfl ?_
      refine k_getr dX7_longestRun_75 fl_X7_11 sh_86 (by decide) rfl ?_
      refine k_iload dX7_longestRun_78 rfl ?_
      refine k_aald 9 dX7_longestRun_80 sh_87 (Or.inl rfl) (by decide) rfl (by decide) rfl a14 ?_
      refine k_iload dX7_longestRun_81 rfl ?_
      refine k_iload dX7_longestRun_83 rfl ?_
      refine k_if_eq 107 dX7_longestRun_85 rfl (by decide) (fun c => absurd c (by decide)) (fun _ => ?_)
      refine k_aload_n dX7_longestRun_88 rfl ?_
      refine k_getr dX7_longestRun_89 fl_X7_11 sh_86 (by decide) rfl ?_
      refine k_iload dX7_longestRun_92 rfl ?_
      refine k_iconst dX7_longestRun_94 ?_
      refine k_isub dX7_longestRun_95 ?_
      refine k_aald 9 dX7_longestRun_96 sh_87 (Or.inl rfl) (by decide) rfl (by decide) rfl a15 ?_
      refine k_iload dX7_longestRun_97 rfl ?_
      refine k_iconst dX7_longestRun_99 ?_
      refine k_isub dX7_longestRun_100 ?_
      refine k_iald 9 dX7_longestRun_101 (sr_87 (v4 - 1) a15) ⟨by have := a15; omega, by have := a15; omega⟩ rfl (by decide) a16 ?_
      refine k_iconst dX7_longestRun_102 ?_
      refine k_iadd dX7_longestRun_103 ?_
      refine k_goto 108 dX7_longestRun_104 rfl ?_
      refine k_iast 9 dX7_longestRun_108 (sr_87 v4 a14) ⟨by have := a14; omega, by have := a14; omega⟩ rfl (by decide) a17 ?_
      refine k_iload_n dX7_longestRun_109 rfl ?_
      refine k_aload_n dX7_longestRun_110 rfl ?_
      refine k_getr dX7_longestRun_111 fl_X7_11 sh_86 (by decide) rfl ?_
      refine k_iload dX7_longestRun_114 rfl ?_
      refine k_aald 9 dX7_longestRun_116 sh_87 (Or.inl rfl) (by decide) rfl (by decide) rfl a14 ?_
      refine k_iload dX7_longestRun_117 rfl ?_
      refine k_iald 9 dX7_longestRun_119 (sr_87 v4 a14) ⟨by have := a14; omega, by have := a14; omega⟩ rfl (by decide) a17 ?_
      rw [show ((w2 s (88 + v4) v5 ((s (88 + (v4 - 1)) (v5 - 1)) + 1)) (88 + v4) v5) = ((s (88 + (v4 - 1)) (v5 - 1)) + 1) from by rw [w2_s]]
      refine k_mmaxI dX7_longestRun_120 ml_X7_29 mw_mmaxI.1 mw_mmaxI.2.1 mw_mmaxI.2.2 rfl a18 a19 ?_
      refine k_istore_n [jR 86, jI v1, jI v2, jI (max v3 ((s (88 + (v4 - 1)) (v5 - 1)) + 1)), jI v4, jI v5, jI 1] dX7_longestRun_123 rfl rfl ?_
      refine k_iinc [jR 86, jI v1, jI v2, jI (max v3 ((s (88 + (v4 - 1)) (v5 - 1)) + 1)), jI v4, jI (v5 + 1), jI 1] dX7_longestRun_124 rfl rfl rfl ?_
      refine k_goto 22 dX7_longestRun_127 rfl ?_
      refine k_drop [jR 86, jI v1, jI v2, jI (max v3 ((s (88 + (v4 - 1)) (v5 - 1)) + 1)), jI v4, jI (v5 + 1), jU] ⟨Or.inr rfl, Or.inr rfl, Or.inr rfl, Or.inr rfl, Or.inr rfl, Or.inr rfl, Or.inl rfl, trivial⟩ ?_
      exact v
theorem sp_X7_longestRun (s0 : Int → Int → Int) (a b : Int) (h : DD s0) (g : AL s0) (ha : 0 ≤ a ∧ a < s0 146 3) (hb : 0 ≤ b ∧ b < s0 146 3) : kR mX7_longestRun [jR 86, jI a, jI b] s0 (fun r s' => ∃ y, r = some (jI y) ∧ lrun s0 a b y ∧ AL s' ∧ frm alP s0 s') := by
  obtain ⟨-, -, -, e3⟩ := h.cnt
  obtain ⟨-, -, -, fa⟩ := h.let ha.1 ha.2
  obtain ⟨-, -, -, fb⟩ := h.let hb.1 hb.2
  have cz : ∀ s, frm alP s0 s → s 11 = s0 11 := fun s f => f 11 (by unfold alP; omega)
  have ct : ∀ s, frm alP s0 s → ∀ l i, 0 ≤ l → l < s0 146 3 → 0 ≤ i → i < s0 155 l → s (13 + l) i = s0 156 (8 * l + i) := fun s f l i l0 l1 i0 i1 => by
    rw [f (13 + l) (by unfold alP; omega)]; exact (h.txt l0 l1 i0 i1).1
  have tr : ∀ l i, 0 ≤ l → l < s0 146 3 → 0 ≤ i → i < s0 155 l → jr32 (s0 156 (8 * l + i)) := fun l i l0 l1 i0 i1 => by
    have := h.txt l0 l1 i0 i1
    have := h.cnt
    unfold jr32; omega
  refine g_X7_longestRun ?_
  have key : ∀ i, i ≤ s0 155 a + 1 → 1 ≤ i → ∀ s m, frm alP s0 s → AL s → (∃ i k, rn (fun t => s0 156 (8 * a + t)) (fun t => s0 156 (8 * b + t)) (s0 155 a) (s0 155 b) i k m) → (∀ i' j', 0 ≤ i' → i' < i → 0 ≤ j' → j' ≤ s0 155 b → cend (fun t => s0 156 (8 * a + t)) (fun t => s0 156 (8 * b + t)) (s0 155 a) (s0 155 b) i' j' (s (88 + i') j') ∧ s (88 + i') j' ≤ m) → kK mX7_longestRun 5 [jR 86, jI a, jI b, jI m, jI i, jU, jU] [] s (fun r s' => ∃ y, r = some (jI y) ∧ lrun s0 a b y ∧ AL s' ∧ frm alP s0 s') := by
    refine lp_up _ _ (fun i hi ih h0 s m fs gs hm hc => ?_)
    refine g_X7_longestRun_5 ⟨by omega, by unfold jr32; omega, by rw [cz s fs, fa.1]; unfold jr32; omega, fun q => ⟨m, rfl, ?_, gs, fs⟩, fun q => ?_⟩
    · rw [cz s fs, fa.1] at q
      exact lgst_of (f := fun i j => s (88 + i) j) hm (fun i' j' h1 h2 h3 h4 => hc i' j' h1 (by omega) h3 h4)
    · rw [cz s fs, fa.1] at q
      have inner : ∀ j, j ≤ s0 155 b + 1 → 1 ≤ j → ∀ s m, frm alP s0 s → AL s → (∃ i k, rn (fun t => s0 156 (8 * a + t)) (fun t => s0 156 (8 * b + t)) (s0 155 a) (s0 155 b) i k m) → (∀ i' j', 0 ≤ i' → (i' < i ∨ i' = i ∧ j' < j) → 0 ≤ j' → j' ≤ s0 155 b → cend (fun t => s0 156 (8 * a + t)) (fun t => s0 156 (8 * b + t)) (s0 155 a) (s0 155 b) i' j' (s (88 + i') j') ∧ s (88 + i') j' ≤ m) → kK mX7_longestRun 22 [jR 86, jI a, jI b, jI m, jI i, jI j, jU] [] s (fun r s' => ∃ y, r = some (jI y) ∧ lrun s0 a b y ∧ AL s' ∧ frm alP s0 s') := by
        refine lp_up _ _ (fun j hj jh j0 s m fs gs hm hc => ?_)
        refine g_X7_longestRun_22 ⟨by omega, by unfold jr32; omega, by rw [cz s fs, fb.1]; unfold jr32; omega, fun q2 => ?_, fun q2 => ?_⟩
        · rw [cz s fs, fb.1] at q2
          exact ih (by omega) (by omega) s m fs gs hm (fun i' j' h1 h2 h3 h4 => hc i' j' h1 (by omega) h3 h4)
        · rw [cz s fs, fb.1] at q2
          rw [ct s fs a (i - 1) ha.1 ha.2 (by omega) (by omega), ct s fs b (j - 1) hb.1 hb.2 (by omega) (by omega)]
          have mr : 0 ≤ m ∧ m ≤ 8 := by obtain ⟨_, _, r, -⟩ := hm; omega
          have step : ∀ v, cend (fun t => s0 156 (8 * a + t)) (fun t => s0 156 (8 * b + t)) (s0 155 a) (s0 155 b) i j v → kK mX7_longestRun 22 [jR 86, jI a, jI b, jI (max m v), jI i, jI (j + 1), jU] [] (w2 s (88 + i) j v) (fun r s' => ∃ y, r = some (jI y) ∧ lrun s0 a b y ∧ AL s' ∧ frm alP s0 s') := fun v hv => by
            have rd : ∀ i' j', (i' = i → j' ≠ j) → w2 s (88 + i) j v (88 + i') j' = s (88 + i') j' := fun i' j' e => by
              by_cases e2 : i' = i
              · rw [e2, w2_i (e e2)]
              · rw [w2_k (by omega)]
            refine jh (by omega) (by omega) _ _ (fs.s2 (by unfold alP; omega)) (fun t t0 t1 => ?_) ?_ (fun i' j' h1 h2 h3 h4 => ?_)
            · rw [w2_k (by omega), rd t 0 (fun _ => by omega)]; exact gs t t0 t1
            · by_cases e : m ≤ v
              · rw [show max m v = v by omega]; exact ⟨_, _, hv.1⟩
              · rw [show max m v = m by omega]; exact hm
            · by_cases e : i' = i ∧ j' = j
              · rw [e.1, e.2, w2_s]; exact ⟨hv, by omega⟩
              · rw [rd i' j' (fun e1 e2 => e ⟨e1, e2⟩)]
                have := hc i' j' h1 (by omega) h3 h4
                exact ⟨this.1, by omega⟩
          refine ⟨by omega, by omega, by omega, tr a _ ha.1 ha.2 (by omega) (by omega), tr b _ hb.1 hb.2 (by omega) (by omega), fun c => ⟨by omega, by omega, by unfold jr32; omega, step 0 (cend_ne h0 (by omega) j0 (by omega) c)⟩, fun c => ?_⟩
          have pc := (hc (i - 1) (j - 1) (by omega) (by omega) (by omega) (by omega)).1
          have pb := pc.1.1
          exact ⟨by omega, by omega, by omega, by omega, by unfold jr32; omega, by unfold jr32; omega, step _ (cend_eq (by omega) (by omega) pc c)⟩
      exact inner 1 (by omega) (by omega) s m fs gs hm (fun i' j' h1 h2 h3 h4 => by
        by_cases e : i' < i
        · exact hc i' j' h1 e h3 h4
        · have e1 : j' = 0 := by omega
          rw [e1, (gs i' h1 (by omega)).2]
          exact ⟨cend_0 h1 (by omega) (by omega) (by omega) (Or.inr rfl), by obtain ⟨_, _, r, -⟩ := hm; omega⟩)
  refine key 1 (by omega) (by omega) s0 0 frm.rf g ⟨0, 0, by omega, fun t t0 t1 => by omega⟩ (fun i' j' h1 h2 h3 h4 => ?_)
  rw [show i' = 0 by omega, show (88 + 0 : Int) = 88 by omega, (g j' h3 (by omega)).1]
  exact ⟨cend_0 (by omega) (by omega) h3 h4 (Or.inl rfl), by omega⟩
theorem g_X7_mostInOrder {s : Int → Int → Int} {Q : Option jV → (Int → Int → Int) → Prop} {v1 v2 : Int} (v : kK mX7_mostInOrder 2 [jR 86, jI v1, jI v2, jI 1, jU, jU] [] s Q) : kR mX7_mostInOrder [jR 86, jI v1, jI v2] s Q := by
  show kK mX7_mostInOrder 0 [jR 86, jI v1, jI v2, jU, jU, jU] [] s Q
  refine k_iconst dX7_mostInOrder_0 ?_
  refine k_istore_n [jR 86, jI v1, jI v2, jI 1, jU, jU] dX7_mostInOrder_1 rfl rfl ?_
  exact v
theorem g_X7_mostInOrder_2 {s : Int → Int → Int} {Q : Option jV → (Int → Int → Int) → Prop} {v1 v2 v3 : Int} (v : ((0 ≤ v1 ∧ v1 < 30) ∧ jr32 v3 ∧ jr32 (s 11 v1) ∧ (((s 11 v1) < v3 → ((0 ≤ (s 11 v1) ∧ (s 11 v1) < 9) ∧ (0 ≤ v2 ∧ v2 < 30) ∧ (0 ≤ (s 11 v2) ∧ (s 11 v2) < 9) ∧ Q (some (jI (s (88 + (s 11 v1)) (s 11 v2)))) s)) ∧ (¬ ((s 11 v1) < v3) → kK mX7_mostInOrder 18 [jR 86, jI v1, jI v2, jI v3, jI 1, jU] [] s Q)))) : kK mX7_mostInOrder 2 [jR 86, jI v1, jI v2, jI v3, jU, jU] [] s Q := by
  obtain ⟨a1, a2, a3, v⟩ := v
  refine k_iload_n dX7_mostInOrder_2 rfl ?_
  refine k_aload_n dX7_mostInOrder_3 rfl ?_
  refine k_getr dX7_mostInOrder_4 fl_X7_16 sh_86 (by decide) rfl ?_
  refine k_getr dX7_mostInOrder_7 fl_X7_20 sh_2 (by decide) rfl ?_
  refine k_iload_n dX7_mostInOrder_10 rfl ?_
  refine k_iald 30 dX7_mostInOrder_11 sh_11 (by decide) rfl (by decide) a1 ?_
  obtain ⟨vt, vf⟩ := v
  refine k_icmp_gt 138 dX7_mostInOrder_12 rfl a2 a3 (fun c4 => ?_) (fun c4 => ?_)
  · have v := vt c4
    obtain ⟨a5, a6, a7, v⟩ := v
    refine k_aload_n dX7_mostInOrder_138 rfl ?_
    refine k_getr dX7_mostInOrder_139 fl_X7_11 sh_86 (by decide) rfl ?_
    refine k_aload_n dX7_mostInOrder_142 rfl ?_
    refine k_getr dX7_mostInOrder_143 fl_X7_16 sh_86 (by decide) rfl ?_
    refine k_getr dX7_mostInOrder_146 fl_X7_20 sh_2 (by decide) rfl ?_
    refine k_iload_n dX7_mostInOrder_149 rfl ?_
    refine k_iald 30 dX7_mostInOrder_150 sh_11 (by decide) rfl (by decide) a1 ?_
    refine k_aald 9 dX7_mostInOrder_151 sh_87 (Or.inl rfl) (by decide) rfl (by decide) rfl a5 ?_
    refine k_aload_n dX7_mostInOrder_152 rfl ?_
    refine k_getr dX7_mostInOrder_153 fl_X7_16 sh_86 (by decide) rfl ?_
    refine k_getr dX7_mostInOrder_156 fl_X7_20 sh_2 (by decide) rfl ?_
    refine k_iload_n dX7_mostInOrder_159 rfl ?_
    refine k_iald 30 dX7_mostInOrder_160 sh_11 (by decide) rfl (by decide) a6 ?_
    refine k_iald 9 dX7_mostInOrder_161 (sr_87 (s 11 v1) a5) ⟨by have := a5; omega, by have := a5; omega⟩ rfl (by decide) a7 ?_
    exact k_ireturn (st := []) dX7_mostInOrder_162 rfl v
  · have v := vf c4
    refine k_iconst dX7_mostInOrder_15 ?_
    refine k_istore [jR 86, jI v1, jI v2, jI v3, jI 1, jU] dX7_mostInOrder_16 rfl rfl ?_
    exact v
theorem g_X7_mostInOrder_18 {s : Int → Int → Int} {Q : Option jV → (Int → Int → Int) → Prop} {v1 v2 v3 v4 : Int} (v : ((0 ≤ v2 ∧ v2 < 30) ∧ jr32 v4 ∧ jr32 (s 11 v2) ∧ (((s 11 v2) < v4 → kK mX7_mostInOrder 2 [jR 86, jI v1, jI v2, jI (v3 + 1), jU, jU] [] s Q) ∧ (¬ ((s 11 v2) < v4) → ((0 ≤ v1 ∧ v1 < 30) ∧ (0 ≤ (v3 - 1) ∧ (v3 - 1) < 8) ∧ (0 ≤ (v4 - 1) ∧ (v4 - 1) < 8) ∧ jr32 (s (13 + v1) (v3 - 1)) ∧ jr32 (s (13 + v2) (v4 - 1)) ∧ (((s (13 + v1) (v3 - 1)) ≠ (s (13 + v2) (v4 - 1)) → ((0 ≤ v3 ∧ v3 < 9) ∧ (0 ≤ (v3 - 1) ∧ (v3 - 1) < 9) ∧ (0 ≤ v4 ∧ v4 < 9) ∧ (0 ≤ (v4 - 1) ∧ (v4 - 1) < 9) ∧ jr32 (s (88 + (v3 - 1)) v4) ∧ jr32 (s (88 + v3) (v4 - 1)) ∧ kK mX7_mostInOrder 18 [jR 86, jI v1, jI v2, jI v3, jI (v4 + 1), jU] [] (w2 s (88 + v3) v4 (max (s (88 + (v3 - 1)) v4) (s (88 + v3) (v4 - 1)))) Q)) ∧ ((s (13 + v1) (v3 - 1)) = (s (13 + v2) (v4 - 1)) → ((0 ≤ v3 ∧ v3 < 9) ∧ (0 ≤ (v3 - 1) ∧ (v3 - 1) < 9) ∧ (0 ≤ (v4 - 1) ∧ (v4 - 1) < 9) ∧ (0 ≤ v4 ∧ v4 < 9) ∧ kK mX7_mostInOrder 18 [jR 86, jI v1, jI v2, jI v3, jI (v4 + 1), jU] [] (w2 s (88 + v3) v4 ((s (88 + (v3 - 1)) (v4 - 1)) + 1)) Q)))))))) : kK mX7_mostInOrder 18 [jR 86, jI v1, jI v2, jI v3, jI v4, jU] [] s Q := by
  obtain ⟨a1, a2, a3, v⟩ := v
  refine k_iload dX7_mostInOrder_18 rfl ?_
  refine k_aload_n dX7_mostInOrder_20 rfl ?_
  refine k_getr dX7_mostInOrder_21 fl_X7_16 sh_86 (by decide) rfl ?_
  refine k_getr dX7_mostInOrder_24 fl_X7_20 sh_2 (by decide) rfl ?_
  refine k_iload_n dX7_mostInOrder_27 rfl ?_
  refine k_iald 30 dX7_mostInOrder_28 sh_11 (by decide) rfl (by decide) a1 ?_
  obtain ⟨vt, vf⟩ := v
  refine k_icmp_gt 132 dX7_mostInOrder_29 rfl a2 a3 (fun c4 => ?_) (fun c4 => ?_)
  · have v := vt c4
    refine k_iinc [jR 86, jI v1, jI v2, jI (v3 + 1), jI v4, jU] dX7_mostInOrder_132 rfl rfl rfl ?_
    refine k_goto 2 dX7_mostInOrder_135 rfl ?_
    refine k_drop [jR 86, jI v1, jI v2, jI (v3 + 1), jU, jU] ⟨Or.inr rfl, Or.inr rfl, Or.inr rfl, Or.inr rfl, Or.inl rfl, Or.inr rfl, trivial⟩ ?_
    exact v
  · have v := vf c4
    obtain ⟨a5, a6, a7, a8, a9, v⟩ := v
    refine k_aload_n dX7_mostInOrder_32 rfl ?_
    refine k_getr dX7_mostInOrder_33 fl_X7_16 sh_86 (by decide) rfl ?_
    refine k_getr dX7_mostInOrder_36 fl_X7_26 sh_2 (by decide) rfl ?_
    refine k_iload_n dX7_mostInOrder_39 rfl ?_
    refine k_aald 30 dX7_mostInOrder_40 sh_12 (Or.inl rfl) (by decide) rfl (by decide) rfl a5 ?_
    refine k_iload_n dX7_mostInOrder_41 rfl ?_
    refine k_iconst dX7_mostInOrder_42 ?_
    refine k_isub dX7_mostInOrder_43 ?_
    refine k_iald 8 dX7_mostInOrder_44 (sr_12 v1 a5) ⟨by have := a5; omega, by have := a5; omega⟩ rfl (by decide) a6 ?_
    refine k_aload_n dX7_mostInOrder_45 rfl ?_
    refine k_getr dX7_mostInOrder_46 fl_X7_16 sh_86 (by decide) rfl ?_
    refine k_getr dX7_mostInOrder_49 fl_X7_26 sh_2 (by decide) rfl ?_
    refine k_iload_n dX7_mostInOrder_52 rfl ?_
    refine k_aald 30 dX7_mostInOrder_53 sh_12 (Or.inl rfl) (by decide) rfl (by decide) rfl a1 ?_
    refine k_iload dX7_mostInOrder_54 rfl ?_
    refine k_iconst dX7_mostInOrder_56 ?_
    refine k_isub dX7_mostInOrder_57 ?_
    refine k_iald 8 dX7_mostInOrder_58 (sr_12 v2 a1) ⟨by have := a1; omega, by have := a1; omega⟩ rfl (by decide) a7 ?_
    obtain ⟨vt, vf⟩ := v
    refine k_icmp_ne 66 dX7_mostInOrder_59 rfl a8 a9 (fun c10 => ?_) (fun c10 => ?_)
    · have v := vt c10
      obtain ⟨a11, a12, a13, a14, a15, a16, v⟩ := v
      refine k_iconst dX7_mostInOrder_66 ?_
      refine k_istore [jR 86, jI v1, jI v2, jI v3, jI v4, jI 0] dX7_mostInOrder_67 rfl rfl ?_
      refine k_aload_n dX7_mostInOrder_69 rfl ?_
      refine k_getr dX7_mostInOrder_70 fl_X7_11 sh_86 (by decide) rfl ?_
      refine k_iload_n dX7_mostInOrder_73 rfl ?_
      refine k_aald 9 dX7_mostInOrder_74 sh_87 (Or.inl rfl) (by decide) rfl (by decide) rfl a11 ?_
      refine k_iload dX7_mostInOrder_75 rfl ?_
      refine k_iload dX7_mostInOrder_77 rfl ?_
      refine k_if_eq 100 dX7_mostInOrder_79 rfl (by decide) (fun _ => ?_) (fun c => absurd c (by decide))
      refine k_aload_n dX7_mostInOrder_100 rfl ?_
      refine k_getr dX7_mostInOrder_101 fl_X7_11 sh_86 (by decide) rfl ?_
      refine k_iload_n dX7_mostInOrder_104 rfl ?_
      refine k_iconst dX7_mostInOrder_105 ?_
      refine k_isub dX7_mostInOrder_106 ?_
      refine k_aald 9 dX7_mostInOrder_107 sh_87 (Or.inl rfl) (by decide) rfl (by decide) rfl a12 ?_
      refine k_iload dX7_mostInOrder_108 rfl ?_
      refine k_iald 9 dX7_mostInOrder_110 (sr_87 (v3 - 1) a12) ⟨by have := a12; omega, by have := a12; omega⟩ rfl (by decide) a13 ?_
      refine k_aload_n dX7_mostInOrder_111 rfl ?_
      refine k_getr dX7_mostInOrder_112 fl_X7_11 sh_86 (by decide) rfl ?_
      refine k_iload_n dX7_mostInOrder_115 rfl ?_
      refine k_aald 9 dX7_mostInOrder_116 sh_87 (Or.inl rfl) (by decide) rfl (by decide) rfl a11 ?_
      refine k_iload dX7_mostInOrder_117 rfl ?_
      refine k_iconst dX7_mostInOrder_119 ?_
      refine k_isub dX7_mostInOrder_120 ?_
      refine k_iald 9 dX7_mostInOrder_121 (sr_87 v3 a11) ⟨by have := a11; omega, by have := a11; omega⟩ rfl (by decide) a14 ?_
      refine k_mmaxI dX7_mostInOrder_122 ml_X7_29 mw_mmaxI.1 mw_mmaxI.2.1 mw_mmaxI.2.2 rfl a15 a16 ?_
      refine k_iast 9 dX7_mostInOrder_125 (sr_87 v3 a11) ⟨by have := a11; omega, by have := a11; omega⟩ rfl (by decide) a13 ?_
      refine k_iinc [jR 86, jI v1, jI v2, jI v3, jI (v4 + 1), jI 0] dX7_mostInOrder_126 rfl rfl rfl ?_
      refine k_goto 18 dX7_mostInOrder_129 rfl ?_
      refine k_drop [jR 86, jI v1, jI v2, jI v3, jI (v4 + 1), jU] ⟨Or.inr rfl, Or.inr rfl, Or.inr rfl, Or.inr rfl, Or.inr rfl, Or.inl rfl, trivial⟩ ?_
      exact v
    · have v := vf c10
      obtain ⟨a17, a18, a19, a20, v⟩ := v
      refine k_iconst dX7_mostInOrder_62 ?_
      refine k_goto 67 dX7_mostInOrder_63 rfl ?_
      refine k_istore [jR 86, jI v1, jI v2, jI v3, jI v4, jI 1] dX7_mostInOrder_67 rfl rfl ?_
      refine k_aload_n dX7_mostInOrder_69 rfl ?_
      refine k_getr dX7_mostInOrder_70 fl_X7_11 sh_86 (by decide) rfl ?_
      refine k_iload_n dX7_mostInOrder_73 rfl ?_
      refine k_aald 9 dX7_mostInOrder_74 sh_87 (Or.inl rfl) (by decide) rfl (by decide) rfl a17 ?_
      refine k_iload dX7_mostInOrder_75 rfl ?_
      refine k_iload dX7_mostInOrder_77 rfl ?_
      refine k_if_eq 100 dX7_mostInOrder_79 rfl (by decide) (fun c => absurd c (by decide)) (fun _ => ?_)
      refine k_aload_n dX7_mostInOrder_82 rfl ?_
      refine k_getr dX7_mostInOrder_83 fl_X7_11 sh_86 (by decide) rfl ?_
      refine k_iload_n dX7_mostInOrder_86 rfl ?_
      refine k_iconst dX7_mostInOrder_87 ?_
      refine k_isub dX7_mostInOrder_88 ?_
      refine k_aald 9 dX7_mostInOrder_89 sh_87 (Or.inl rfl) (by decide) rfl (by decide) rfl a18 ?_
      refine k_iload dX7_mostInOrder_90 rfl ?_
      refine k_iconst dX7_mostInOrder_92 ?_
      refine k_isub dX7_mostInOrder_93 ?_
      refine k_iald 9 dX7_mostInOrder_94 (sr_87 (v3 - 1) a18) ⟨by have := a18; omega, by have := a18; omega⟩ rfl (by decide) a19 ?_
      refine k_iconst dX7_mostInOrder_95 ?_
      refine k_iadd dX7_mostInOrder_96 ?_
      refine k_goto 125 dX7_mostInOrder_97 rfl ?_
      refine k_iast 9 dX7_mostInOrder_125 (sr_87 v3 a17) ⟨by have := a17; omega, by have := a17; omega⟩ rfl (by decide) a20 ?_
      refine k_iinc [jR 86, jI v1, jI v2, jI v3, jI (v4 + 1), jI 1] dX7_mostInOrder_126 rfl rfl rfl ?_
      refine k_goto 18 dX7_mostInOrder_129 rfl ?_
      refine k_drop [jR 86, jI v1, jI v2, jI v3, jI (v4 + 1), jU] ⟨Or.inr rfl, Or.inr rfl, Or.inr rfl, Or.inr rfl, Or.inr rfl, Or.inl rfl, trivial⟩ ?_
      exact v
theorem sp_X7_mostInOrder (s0 : Int → Int → Int) (a b : Int) (h : DD s0) (g : AL s0) (ha : 0 ≤ a ∧ a < s0 146 3) (hb : 0 ≤ b ∧ b < s0 146 3) : kR mX7_mostInOrder [jR 86, jI a, jI b] s0 (fun r s' => ∃ y, r = some (jI y) ∧ y = lcz (fun t => s0 156 (8 * a + t)) (fun t => s0 156 (8 * b + t)) (s0 155 a) (s0 155 b) ∧ AL s' ∧ frm alP s0 s') := by
  obtain ⟨-, -, -, e3⟩ := h.cnt
  obtain ⟨-, -, -, fa⟩ := h.let ha.1 ha.2
  obtain ⟨-, -, -, fb⟩ := h.let hb.1 hb.2
  have cz : ∀ s, frm alP s0 s → s 11 = s0 11 := fun s f => f 11 (by unfold alP; omega)
  have ct : ∀ s, frm alP s0 s → ∀ l i, 0 ≤ l → l < s0 146 3 → 0 ≤ i → i < s0 155 l → s (13 + l) i = s0 156 (8 * l + i) := fun s f l i l0 l1 i0 i1 => by
    rw [f (13 + l) (by unfold alP; omega)]; exact (h.txt l0 l1 i0 i1).1
  have tr : ∀ l i, 0 ≤ l → l < s0 146 3 → 0 ≤ i → i < s0 155 l → jr32 (s0 156 (8 * l + i)) := fun l i l0 l1 i0 i1 => by
    have := h.txt l0 l1 i0 i1
    have := h.cnt
    unfold jr32; omega
  refine g_X7_mostInOrder ?_
  generalize hA : (fun t => s0 156 (8 * a + t)) = A
  generalize hB : (fun t => s0 156 (8 * b + t)) = B
  have aA : ∀ i, s0 156 (8 * a + i) = A i := fun i => by rw [← hA]
  have aB : ∀ i, s0 156 (8 * b + i) = B i := fun i => by rw [← hB]
  have key : ∀ i, i ≤ s0 155 a + 1 → 1 ≤ i → ∀ s, frm alP s0 s → AL s → (∀ i' j', 0 ≤ i' → i' < i → 0 ≤ j' → j' ≤ s0 155 b → s (88 + i') j' = lcz A B i' j') → kK mX7_mostInOrder 2 [jR 86, jI a, jI b, jI i, jU, jU] [] s (fun r s' => ∃ y, r = some (jI y) ∧ y = lcz A B (s0 155 a) (s0 155 b) ∧ AL s' ∧ frm alP s0 s') := by
    refine lp_up _ _ (fun i hi ih h0 s fs gs hc => ?_)
    refine g_X7_mostInOrder_2 ⟨by omega, by unfold jr32; omega, by rw [cz s fs, fa.1]; unfold jr32; omega, fun q => ?_, fun q => ?_⟩
    · rw [cz s fs, fa.1] at q
      rw [cz s fs, fa.1, fb.1]
      exact ⟨by omega, by omega, by omega, _, rfl, hc _ _ (by omega) (by omega) (by omega) (by omega), gs, fs⟩
    · rw [cz s fs, fa.1] at q
      have inner : ∀ j, j ≤ s0 155 b + 1 → 1 ≤ j → ∀ s, frm alP s0 s → AL s → (∀ i' j', 0 ≤ i' → (i' < i ∨ i' = i ∧ j' < j) → 0 ≤ j' → j' ≤ s0 155 b → s (88 + i') j' = lcz A B i' j') → kK mX7_mostInOrder 18 [jR 86, jI a, jI b, jI i, jI j, jU] [] s (fun r s' => ∃ y, r = some (jI y) ∧ y = lcz A B (s0 155 a) (s0 155 b) ∧ AL s' ∧ frm alP s0 s') := by
        refine lp_up _ _ (fun j hj jh j0 s fs gs hc => ?_)
        refine g_X7_mostInOrder_18 ⟨by omega, by unfold jr32; omega, by rw [cz s fs, fb.1]; unfold jr32; omega, fun q2 => ?_, fun q2 => ?_⟩
        · rw [cz s fs, fb.1] at q2
          exact ih (by omega) (by omega) s fs gs (fun i' j' h1 h2 h3 h4 => hc i' j' h1 (by omega) h3 h4)
        · rw [cz s fs, fb.1] at q2
          rw [ct s fs a (i - 1) ha.1 ha.2 (by omega) (by omega), ct s fs b (j - 1) hb.1 hb.2 (by omega) (by omega)]
          have step : kK mX7_mostInOrder 18 [jR 86, jI a, jI b, jI i, jI (j + 1), jU] [] (w2 s (88 + i) j (lcz A B i j)) (fun r s' => ∃ y, r = some (jI y) ∧ y = lcz A B (s0 155 a) (s0 155 b) ∧ AL s' ∧ frm alP s0 s') := by
            have rd : ∀ v i' j', (i' = i → j' ≠ j) → w2 s (88 + i) j v (88 + i') j' = s (88 + i') j' := fun v i' j' e => by
              by_cases e2 : i' = i
              · rw [e2, w2_i (e e2)]
              · rw [w2_k (by omega)]
            refine jh (by omega) (by omega) _ (fs.s2 (by unfold alP; omega)) (fun t t0 t1 => ?_) (fun i' j' h1 h2 h3 h4 => ?_)
            · rw [w2_k (by omega), rd _ t 0 (fun _ => by omega)]; exact gs t t0 t1
            · by_cases e : i' = i ∧ j' = j
              · rw [e.1, e.2, w2_s]
              · rw [rd _ i' j' (fun e1 e2 => e ⟨e1, e2⟩)]
                exact hc i' j' h1 (by omega) h3 h4
          have r1 := hc (i - 1) j (by omega) (by omega) (by omega) (by omega)
          have r2 := hc i (j - 1) (by omega) (by omega) (by omega) (by omega)
          have r3 := hc (i - 1) (j - 1) (by omega) (by omega) (by omega) (by omega)
          have b1 := lcz_b (A := A) (B := B) (i := i - 1) (j := j) (by omega)
          have b2 := lcz_b (A := A) (B := B) (i := i) (j := j - 1) (by omega)
          rw [r1, r2, r3]
          rw [lcz_s (A := A) (B := B) (i := i) (j := j) h0 j0] at step
          refine ⟨by omega, by omega, by omega, tr a _ ha.1 ha.2 (by omega) (by omega), tr b _ hb.1 hb.2 (by omega) (by omega), fun c => ⟨by omega, by omega, by omega, by omega, by unfold jr32; omega, by unfold jr32; omega, ?_⟩, fun c => ⟨by omega, by omega, by omega, by omega, ?_⟩⟩
          · rw [aA, aB] at c
            rw [if_neg c] at step
            exact step
          · rw [aA, aB] at c
            rw [if_pos c] at step
            exact step
      exact inner 1 (by omega) (by omega) s fs gs (fun i' j' h1 h2 h3 h4 => by
        by_cases e : i' < i
        · exact hc i' j' h1 e h3 h4
        · have e1 : j' = 0 := by omega
          rw [e1, (gs i' h1 (by omega)).2, lcz_0 (Or.inr rfl)])
  refine key 1 (by omega) (by omega) s0 frm.rf g (fun i' j' h1 h2 h3 h4 => ?_)
  rw [show i' = 0 by omega, show (88 + 0 : Int) = 88 by omega, (g j' h3 (by omega)).1, lcz_0 (Or.inl rfl)]
theorem g_X7_leftFrom {s : Int → Int → Int} {Q : Option jV → (Int → Int → Int) → Prop} {v1 v2 : Int} (v : kK mX7_leftFrom 10 [jR 86, jI v1, jU, jI (-1), jI (v2 - 1), jI 0, jU, jU] [] s Q) : kR mX7_leftFrom [jR 86, jI v1, jI v2] s Q := by
  show kK mX7_leftFrom 0 [jR 86, jI v1, jI v2, jU, jU, jU, jU, jU] [] s Q
  refine k_iconst dX7_leftFrom_0 ?_
  refine k_istore_n [jR 86, jI v1, jI v2, jI (-1), jU, jU, jU, jU] dX7_leftFrom_1 rfl rfl ?_
  refine k_iload_n dX7_leftFrom_2 rfl ?_
  refine k_iconst dX7_leftFrom_3 ?_
  refine k_isub dX7_leftFrom_4 ?_
  refine k_istore [jR 86, jI v1, jI v2, jI (-1), jI (v2 - 1), jU, jU, jU] dX7_leftFrom_5 rfl rfl ?_
  refine k_iconst dX7_leftFrom_7 ?_
  refine k_istore [jR 86, jI v1, jI v2, jI (-1), jI (v2 - 1), jI 0, jU, jU] dX7_leftFrom_8 rfl rfl ?_
  refine k_drop [jR 86, jI v1, jU, jI (-1), jI (v2 - 1), jI 0, jU, jU] ⟨Or.inr rfl, Or.inr rfl, Or.inl rfl, Or.inr rfl, Or.inr rfl, Or.inr rfl, Or.inr rfl, Or.inr rfl, trivial⟩ ?_
  exact v
theorem g_X7_leftFrom_10 {s : Int → Int → Int} {Q : Option jV → (Int → Int → Int) → Prop} {v1 v3 v4 v5 : Int} (v : (jr32 v5 ∧ jr32 (s 2 13) ∧ (((s 2 13) ≤ v5 → Q (some (jI v3)) s) ∧ (¬ ((s 2 13) ≤ v5) → ((0 ≤ v5 ∧ v5 < 30) ∧ (0 ≤ v1 ∧ v1 < 30) ∧ jr32 (s 10 v5) ∧ jr32 (s 10 v1) ∧ (((s 10 v1) ≤ (s 10 v5) → kK mX7_leftFrom 10 [jR 86, jI v1, jU, jI v3, jI v4, jI (v5 + 1), jU, jU] [] s Q) ∧ (¬ ((s 10 v1) ≤ (s 10 v5)) → (jr32 (s 8 v5) ∧ jr32 (s 8 v1) ∧ (((s 8 v5) ≠ (s 8 v1) → kK mX7_leftFrom 10 [jR 86, jI v1, jU, jI v3, jI v4, jI (v5 + 1), jU, jU] [] s Q) ∧ ((s 8 v5) = (s 8 v1) → ((DD s) ∧ (AL s) ∧ (0 ≤ v1 ∧ v1 < s 146 3) ∧ (0 ≤ v5 ∧ v5 < s 146 3) ∧ (∀ (y16 : Int) (s17 : Int → Int → Int), (lrun s v1 v5 y16 ∧ AL s17 ∧ frm alP s s17) → (jr32 y16 ∧ jr32 v4 ∧ ((y16 ≤ v4 → kK mX7_leftFrom 10 [jR 86, jI v1, jU, jI v3, jI v4, jI (v5 + 1), jU, jU] [] s17 Q) ∧ (¬ (y16 ≤ v4) → kK mX7_leftFrom 10 [jR 86, jI v1, jU, jI v5, jI y16, jI (v5 + 1), jU, jU] [] s17 Q))))))))))))))) : kK mX7_leftFrom 10 [jR 86, jI v1, jU, jI v3, jI v4, jI v5, jU, jU] [] s Q := by
  obtain ⟨a1, a2, v⟩ := v
  refine k_iload dX7_leftFrom_10 rfl ?_
  refine k_aload_n dX7_leftFrom_12 rfl ?_
  refine k_getr dX7_leftFrom_13 fl_X7_16 sh_86 (by decide) rfl ?_
  refine k_geti 13 dX7_leftFrom_16 fl_X7_35 sh_2 (by decide) rfl rfl ?_
  obtain ⟨vt, vf⟩ := v
  refine k_icmp_ge 107 dX7_leftFrom_19 rfl a1 a2 (fun c3 => ?_) (fun c3 => ?_)
  · have v := vt c3
    refine k_iload_n dX7_leftFrom_107 rfl ?_
    exact k_ireturn (st := []) dX7_leftFrom_108 rfl v
  · have v := vf c3
    obtain ⟨a4, a5, a6, a7, v⟩ := v
    refine k_aload_n dX7_leftFrom_22 rfl ?_
    refine k_getr dX7_leftFrom_23 fl_X7_16 sh_86 (by decide) rfl ?_
    refine k_getr dX7_leftFrom_26 fl_X7_39 sh_2 (by decide) rfl ?_
    refine k_iload dX7_leftFrom_29 rfl ?_
    refine k_iald 30 dX7_leftFrom_31 sh_10 (by decide) rfl (by decide) a4 ?_
    refine k_aload_n dX7_leftFrom_32 rfl ?_
    refine k_getr dX7_leftFrom_33 fl_X7_16 sh_86 (by decide) rfl ?_
    refine k_getr dX7_leftFrom_36 fl_X7_39 sh_2 (by decide) rfl ?_
    refine k_iload_n dX7_leftFrom_39 rfl ?_
    refine k_iald 30 dX7_leftFrom_40 sh_10 (by decide) rfl (by decide) a5 ?_
    obtain ⟨vt, vf⟩ := v
    refine k_icmp_ge 48 dX7_leftFrom_41 rfl a6 a7 (fun c8 => ?_) (fun c8 => ?_)
    · have v := vt c8
      refine k_iconst dX7_leftFrom_48 ?_
      refine k_istore [jR 86, jI v1, jU, jI v3, jI v4, jI v5, jI 0, jU] dX7_leftFrom_49 rfl rfl ?_
      refine k_iload dX7_leftFrom_51 rfl ?_
      refine k_if_eq 101 dX7_leftFrom_53 rfl (by decide) (fun _ => ?_) (fun c => absurd c (by decide))
      refine k_iinc [jR 86, jI v1, jU, jI v3, jI v4, jI (v5 + 1), jI 0, jU] dX7_leftFrom_101 rfl rfl rfl ?_
      refine k_goto 10 dX7_leftFrom_104 rfl ?_
      refine k_drop [jR 86, jI v1, jU, jI v3, jI v4, jI (v5 + 1), jU, jU] ⟨Or.inr rfl, Or.inr rfl, Or.inr rfl, Or.inr rfl, Or.inr rfl, Or.inr rfl, Or.inl rfl, Or.inr rfl, trivial⟩ ?_
      exact v
    · have v := vf c8
      obtain ⟨a9, a10, v⟩ := v
      refine k_iconst dX7_leftFrom_44 ?_
      refine k_goto 49 dX7_leftFrom_45 rfl ?_
      refine k_istore [jR 86, jI v1, jU, jI v3, jI v4, jI v5, jI 1, jU] dX7_leftFrom_49 rfl rfl ?_
      refine k_iload dX7_leftFrom_51 rfl ?_
      refine k_if_eq 101 dX7_leftFrom_53 rfl (by decide) (fun c => absurd c (by decide)) (fun _ => ?_)
      refine k_aload_n dX7_leftFrom_56 rfl ?_
      refine k_getr dX7_leftFrom_57 fl_X7_16 sh_86 (by decide) rfl ?_
      refine k_getr dX7_leftFrom_60 fl_X7_42 sh_2 (by decide) rfl ?_
      refine k_iload dX7_leftFrom_63 rfl ?_
      refine k_iald 30 dX7_leftFrom_65 sh_8 (by decide) rfl (by decide) a4 ?_
      refine k_aload_n dX7_leftFrom_66 rfl ?_
      refine k_getr dX7_leftFrom_67 fl_X7_16 sh_86 (by decide) rfl ?_
      refine k_getr dX7_leftFrom_70 fl_X7_42 sh_2 (by decide) rfl ?_
      refine k_iload_n dX7_leftFrom_73 rfl ?_
      refine k_iald 30 dX7_leftFrom_74 sh_8 (by decide) rfl (by decide) a5 ?_
      obtain ⟨vt, vf⟩ := v
      refine k_icmp_ne 101 dX7_leftFrom_75 rfl a9 a10 (fun c11 => ?_) (fun c11 => ?_)
      · have v := vt c11
        refine k_iinc [jR 86, jI v1, jU, jI v3, jI v4, jI (v5 + 1), jI 1, jU] dX7_leftFrom_101 rfl rfl rfl ?_
        refine k_goto 10 dX7_leftFrom_104 rfl ?_
        refine k_drop [jR 86, jI v1, jU, jI v3, jI v4, jI (v5 + 1), jU, jU] ⟨Or.inr rfl, Or.inr rfl, Or.inr rfl, Or.inr rfl, Or.inr rfl, Or.inr rfl, Or.inl rfl, Or.inr rfl, trivial⟩ ?_
        exact v
      · have v := vf c11
        obtain ⟨a12, a13, a14, a15, v⟩ := v
        refine k_aload_n dX7_leftFrom_78 rfl ?_
        refine k_iload_n dX7_leftFrom_79 rfl ?_
        refine k_iload dX7_leftFrom_80 rfl ?_
        refine k_invVR [jI v1, jI v5] [] dX7_leftFrom_82 cm_X7_longestRun ml_X7_45 im_X7_longestRun se_X7_longestRun rfl sh_86 (by decide) rfl rfl (sp_X7_longestRun s v1 v5 a12 a13 a14 a15) (fun _ s17 q18 => ?_)
        obtain ⟨y16, rfl, q18⟩ := q18
        have v := v y16 s17 q18
        obtain ⟨a19, a20, v⟩ := v
        refine k_istore [jR 86, jI v1, jU, jI v3, jI v4, jI v5, jI 1, jI y16] dX7_leftFrom_85 rfl rfl ?_
        refine k_iload dX7_leftFrom_87 rfl ?_
        refine k_iload dX7_leftFrom_89 rfl ?_
        obtain ⟨vt, vf⟩ := v
        refine k_icmp_le 101 dX7_leftFrom_91 rfl a19 a20 (fun c21 => ?_) (fun c21 => ?_)
        · have v := vt c21
          refine k_iinc [jR 86, jI v1, jU, jI v3, jI v4, jI (v5 + 1), jI 1, jI y16] dX7_leftFrom_101 rfl rfl rfl ?_
          refine k_goto 10 dX7_leftFrom_104 rfl ?_
          refine k_drop [jR 86, jI v1, jU, jI v3, jI v4, jI (v5 + 1), jU, jU] ⟨Or.inr rfl, Or.inr rfl, Or.inr rfl, Or.inr rfl, Or.inr rfl, Or.inr rfl, Or.inl rfl, Or.inl rfl, trivial⟩ ?_
          exact v
        · have v := vf c21
          refine k_iload dX7_leftFrom_94 rfl ?_
          refine k_istore [jR 86, jI v1, jU, jI v3, jI y16, jI v5, jI 1, jI y16] dX7_leftFrom_96 rfl rfl ?_
          refine k_iload dX7_leftFrom_98 rfl ?_
          refine k_istore_n [jR 86, jI v1, jU, jI v5, jI y16, jI v5, jI 1, jI y16] dX7_leftFrom_100 rfl rfl ?_
          refine k_iinc [jR 86, jI v1, jU, jI v5, jI y16, jI (v5 + 1), jI 1, jI y16] dX7_leftFrom_101 rfl rfl rfl ?_
          refine k_goto 10 dX7_leftFrom_104 rfl ?_
          refine k_drop [jR 86, jI v1, jU, jI v5, jI y16, jI (v5 + 1), jU, jU] ⟨Or.inr rfl, Or.inr rfl, Or.inr rfl, Or.inr rfl, Or.inr rfl, Or.inr rfl, Or.inl rfl, Or.inl rfl, trivial⟩ ?_
          exact v
theorem g_X10_like {s : Int → Int → Int} {Q : Option jV → (Int → Int → Int) → Prop} {v1 v2 v3 : Int} (v : (jr32 v1 ∧ (WC s) ∧ ((¬ (0 ≤ v1 ∧ v1 ≤ s 2 13 - 1) → Q (some (jI (-2))) s) ∧ (0 ≤ v1 ∧ v1 ≤ s 2 13 - 1 → (jr32 v2 ∧ ((¬ (0 ≤ v2 ∧ v2 ≤ s 2 13 - 1) → Q (some (jI (-2))) s) ∧ (0 ≤ v2 ∧ v2 ≤ s 2 13 - 1 → ((v1 = v2 → Q (some (jI (-2))) s) ∧ (¬ (v1 = v2) → (jr32 v3 ∧ ((0 ≤ v3 ∧ v3 ≤ 1 → ((v3 ≠ 0 → ((DD s) ∧ (AL s) ∧ (0 ≤ v1 ∧ v1 < s 146 3) ∧ (0 ≤ v2 ∧ v2 < s 146 3) ∧ (∀ (y14 : Int) (s15 : Int → Int → Int), (y14 = lcz (fun t => s 156 (8 * v1 + t)) (fun t => s 156 (8 * v2 + t)) (s 155 v1) (s 155 v2) ∧ AL s15 ∧ frm alP s s15) → Q (some (jI y14)) s15))) ∧ (v3 = 0 → ((DD s) ∧ (AL s) ∧ (0 ≤ v1 ∧ v1 < s 146 3) ∧ (0 ≤ v2 ∧ v2 < s 146 3) ∧ (∀ (y21 : Int) (s22 : Int → Int → Int), (lrun s v1 v2 y21 ∧ AL s22 ∧ frm alP s s22) → Q (some (jI y21)) s22))))) ∧ (¬ (0 ≤ v3 ∧ v3 ≤ 1) → Q (some (jI (-2))) s)))))))))))) : kR mX10_like [jR 1, jI v1, jI v2, jI v3] s Q := by
  show kK mX10_like 0 [jR 1, jI v1, jI v2, jI v3] [] s Q
  obtain ⟨a1, a2, v⟩ := v
  refine k_aload_n dX10_like_0 rfl ?_
  refine k_iload_n dX10_like_1 rfl ?_
  refine k_invV [jI v1] [] dX10_like_2 cm_X10_isLetter ml_X10_123 im_X10_isLetter se_X10_isLetter rfl sh_1 (by decide) rfl rfl (sp_X10_isLetter s v1 a1 a2) ?_
  obtain ⟨vt, vf⟩ := v
  refine k_ifb_eq 30 dX10_like_5 rfl (fun c3 => ?_) (fun c3 => ?_)
  · have v := vt c3
    refine k_bipush dX10_like_30 rfl ?_
    exact k_ireturn (st := []) dX10_like_32 rfl v
  · have v := vf c3
    obtain ⟨a4, v⟩ := v
    refine k_aload_n dX10_like_8 rfl ?_
    refine k_iload_n dX10_like_9 rfl ?_
    refine k_invV [jI v2] [] dX10_like_10 cm_X10_isLetter ml_X10_123 im_X10_isLetter se_X10_isLetter rfl sh_1 (by decide) rfl rfl (sp_X10_isLetter s v2 a4 a2) ?_
    obtain ⟨vt, vf⟩ := v
    refine k_ifb_eq 30 dX10_like_13 rfl (fun c5 => ?_) (fun c5 => ?_)
    · have v := vt c5
      refine k_bipush dX10_like_30 rfl ?_
      exact k_ireturn (st := []) dX10_like_32 rfl v
    · have v := vf c5
      refine k_iload_n dX10_like_16 rfl ?_
      refine k_iload_n dX10_like_17 rfl ?_
      obtain ⟨vt, vf⟩ := v
      refine k_icmp_eq 30 dX10_like_18 rfl a1 a4 (fun c6 => ?_) (fun c6 => ?_)
      · have v := vt c6
        refine k_bipush dX10_like_30 rfl ?_
        exact k_ireturn (st := []) dX10_like_32 rfl v
      · have v := vf c6
        obtain ⟨a7, v⟩ := v
        refine k_iload_n dX10_like_21 rfl ?_
        refine k_iconst dX10_like_22 ?_
        refine k_iconst dX10_like_23 ?_
        refine k_invS [jI v3, jI 0, jI 1] [] dX10_like_24 cm_X10_within ml_X10_92 st_X10_within rfl rfl (sp_X10_within s v3 0 1 a7 (by decide) (by decide)) ?_
        obtain ⟨vt, vf⟩ := v
        refine k_ifb_ne 33 dX10_like_27 rfl (fun c8 => ?_) (fun c8 => ?_)
        · have v := vt c8
          refine k_iload_n dX10_like_33 rfl ?_
          obtain ⟨vt, vf⟩ := v
          refine k_if_ne 49 dX10_like_34 rfl a7 (fun c9 => ?_) (fun c9 => ?_)
          · have v := vt c9
            obtain ⟨a10, a11, a12, a13, v⟩ := v
            refine k_aload_n dX10_like_49 rfl ?_
            refine k_getr dX10_like_50 fl_X10_54 sh_1 (by decide) rfl ?_
            refine k_iload_n dX10_like_53 rfl ?_
            refine k_iload_n dX10_like_54 rfl ?_
            refine k_invVR [jI v1, jI v2] [] dX10_like_55 cm_X7_mostInOrder ml_X10_219 im_X7_mostInOrder se_X7_mostInOrder rfl sh_86 (by decide) rfl rfl (sp_X7_mostInOrder s v1 v2 a10 a11 a12 a13) (fun _ s15 q16 => ?_)
            obtain ⟨y14, rfl, q16⟩ := q16
            have v := v y14 s15 q16
            exact k_ireturn (st := []) dX10_like_58 rfl v
          · have v := vf c9
            obtain ⟨a17, a18, a19, a20, v⟩ := v
            refine k_aload_n dX10_like_37 rfl ?_
            refine k_getr dX10_like_38 fl_X10_54 sh_1 (by decide) rfl ?_
            refine k_iload_n dX10_like_41 rfl ?_
            refine k_iload_n dX10_like_42 rfl ?_
            refine k_invVR [jI v1, jI v2] [] dX10_like_43 cm_X7_longestRun ml_X10_216 im_X7_longestRun se_X7_longestRun rfl sh_86 (by decide) rfl rfl (sp_X7_longestRun s v1 v2 a17 a18 a19 a20) (fun _ s22 q23 => ?_)
            obtain ⟨y21, rfl, q23⟩ := q23
            have v := v y21 s22 q23
            refine k_goto 58 dX10_like_46 rfl ?_
            exact k_ireturn (st := []) dX10_like_58 rfl v
        · have v := vf c8
          refine k_bipush dX10_like_30 rfl ?_
          exact k_ireturn (st := []) dX10_like_32 rfl v
theorem sp_X7_leftFrom (s0 : Int → Int → Int) (l r : Int) (h : DD s0) (g : AL s0) (hl : 0 ≤ l ∧ l < s0 146 3) (hr : 1 ≤ r ∧ r ≤ 8) : kR mX7_leftFrom [jR 86, jI l, jI r] s0 (fun r' s' => ∃ y, r' = some (jI y) ∧ (∃ m, lfr s0 l (r - 1) (s0 146 3) y m) ∧ AL s' ∧ frm alP s0 s') := by
  obtain ⟨-, e1, -, e3⟩ := h.cnt
  obtain ⟨fl, -, fy, -⟩ := h.let hl.1 hl.2
  refine g_X7_leftFrom ?_
  have key : ∀ i, i ≤ s0 146 3 → 0 ≤ i → ∀ s f m, frm alP s0 s → AL s → lfr s0 l (r - 1) i f m → 0 ≤ m ∧ m ≤ 8 → kK mX7_leftFrom 10 [jR 86, jI l, jU, jI f, jI m, jI i, jU, jU] [] s (fun r' s' => ∃ y, r' = some (jI y) ∧ (∃ m, lfr s0 l (r - 1) (s0 146 3) y m) ∧ AL s' ∧ frm alP s0 s') := by
    refine lp_up _ _ (fun i hi ih h0 s f m fs gs hc hm => ?_)
    have c2 : s 2 = s0 2 := fs 2 (by unfold alP; omega)
    have c8 : s 8 = s0 8 := fs 8 (by unfold alP; omega)
    have c10 : s 10 = s0 10 := fs 10 (by unfold alP; omega)
    have c146 : s 146 = s0 146 := fs 146 (by unfold alP; omega)
    refine g_X7_leftFrom_10 ⟨by unfold jr32; omega, by rw [c2]; unfold jr32; omega, fun q => ⟨f, rfl, ⟨m, ?_⟩, gs, fs⟩, fun q => ?_⟩
    · rw [c2] at q
      rw [show s0 146 3 = i by omega]; exact hc
    · rw [c2] at q
      obtain ⟨gl, -, gy, -⟩ := h.let (l := i) h0 (by omega)
      rw [c8, c10, c146]
      refine ⟨by omega, by omega, by unfold jr32; omega, by unfold jr32; omega, fun c => ih (by omega) (by omega) s f m fs gs (hc.no (fun q => by have := q.1; omega)) hm, fun c => ⟨by unfold jr32; omega, by unfold jr32; omega, fun d => ih (by omega) (by omega) s f m fs gs (hc.no (fun q => by have := q.2; omega)) hm, fun d => ⟨h.al fs, gs, by omega, by omega, fun y s2 q2 => ?_⟩⟩⟩
      obtain ⟨q2, q3, q4⟩ := q2
      have q2' : lrun s0 l i y := by
        unfold lrun at q2 ⊢
        rw [fs 155 (by unfold alP; omega), fs 156 (by unfold alP; omega)] at q2; exact q2
      have yr := q2'.rng
      have la := (h.let hl.1 hl.2).2.2.2
      exact ⟨by unfold jr32; omega, by unfold jr32; omega, fun c4 => ih (by omega) (by omega) s2 f m (fs.tr q4) q3 (hc.le q2' c4) hm, fun c4 => ih (by omega) (by omega) s2 i y (fs.tr q4) q3 (hc.gt h0 ⟨by omega, by omega⟩ q2' (by omega)) (by omega)⟩
  exact key 0 (by omega) (by omega) s0 (-1) (r - 1) frm.rf g ⟨fun o y o0 o1 => by omega, Or.inl ⟨rfl, rfl⟩⟩ (by omega)
theorem g_X10_left {s : Int → Int → Int} {Q : Option jV → (Int → Int → Int) → Prop} {v1 v2 : Int} (v : (jr32 v1 ∧ (WC s) ∧ ((¬ (0 ≤ v1 ∧ v1 ≤ s 2 13 - 1) → Q (some (jI (-2))) s) ∧ (0 ≤ v1 ∧ v1 ≤ s 2 13 - 1 → (jr32 v2 ∧ ((1 ≤ v2 ∧ v2 ≤ 8 → ((DD s) ∧ (AL s) ∧ (0 ≤ v1 ∧ v1 < s 146 3) ∧ (1 ≤ v2 ∧ v2 ≤ 8) ∧ (∀ (y10 : Int) (s11 : Int → Int → Int), ((∃ m, lfr s v1 (v2 - 1) (s 146 3) y10 m) ∧ AL s11 ∧ frm alP s s11) → Q (some (jI y10)) s11))) ∧ (¬ (1 ≤ v2 ∧ v2 ≤ 8) → Q (some (jI (-2))) s))))))) : kR mX10_left [jR 1, jI v1, jI v2] s Q := by
  show kK mX10_left 0 [jR 1, jI v1, jI v2] [] s Q
  obtain ⟨a1, a2, v⟩ := v
  refine k_aload_n dX10_left_0 rfl ?_
  refine k_iload_n dX10_left_1 rfl ?_
  refine k_invV [jI v1] [] dX10_left_2 cm_X10_isLetter ml_X10_123 im_X10_isLetter se_X10_isLetter rfl sh_1 (by decide) rfl rfl (sp_X10_isLetter s v1 a1 a2) ?_
  obtain ⟨vt, vf⟩ := v
  refine k_ifb_eq 18 dX10_left_5 rfl (fun c3 => ?_) (fun c3 => ?_)
  · have v := vt c3
    refine k_bipush dX10_left_18 rfl ?_
    exact k_ireturn (st := []) dX10_left_20 rfl v
  · have v := vf c3
    obtain ⟨a4, v⟩ := v
    refine k_iload_n dX10_left_8 rfl ?_
    refine k_iconst dX10_left_9 ?_
    refine k_bipush dX10_left_10 rfl ?_
    refine k_invS [jI v2, jI 1, jI 8] [] dX10_left_12 cm_X10_within ml_X10_92 st_X10_within rfl rfl (sp_X10_within s v2 1 8 a4 (by decide) (by decide)) ?_
    obtain ⟨vt, vf⟩ := v
    refine k_ifb_ne 21 dX10_left_15 rfl (fun c5 => ?_) (fun c5 => ?_)
    · have v := vt c5
      obtain ⟨a6, a7, a8, a9, v⟩ := v
      refine k_aload_n dX10_left_21 rfl ?_
      refine k_getr dX10_left_22 fl_X10_54 sh_1 (by decide) rfl ?_
      refine k_iload_n dX10_left_25 rfl ?_
      refine k_iload_n dX10_left_26 rfl ?_
      refine k_invVR [jI v1, jI v2] [] dX10_left_27 cm_X7_leftFrom ml_X10_222 im_X7_leftFrom se_X7_leftFrom rfl sh_86 (by decide) rfl rfl (sp_X7_leftFrom s v1 v2 a6 a7 a8 a9) (fun _ s11 q12 => ?_)
      obtain ⟨y10, rfl, q12⟩ := q12
      have v := v y10 s11 q12
      exact k_ireturn (st := []) dX10_left_30 rfl v
    · have v := vf c5
      refine k_bipush dX10_left_18 rfl ?_
      exact k_ireturn (st := []) dX10_left_20 rfl v
