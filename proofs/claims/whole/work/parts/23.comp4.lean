theorem g_X7_longestRun {s : Int → Int → Int} {Q : Option jV → (Int → Int → Int) → Prop} {v1 v2 : Int} (v : kK mX7_longestRun 5 [jR 86, jI v1, jI v2, jI 0, jI 1, jU, jU] [] s Q) : kR mX7_longestRun [jR 86, jI v1, jI v2] s Q := by
  show kK mX7_longestRun 0 [jR 86, jI v1, jI v2, jU, jU, jU, jU] [] s Q
  refine k_iconst dX7_longestRun_0 ?_
  refine k_istore_n [jR 86, jI v1, jI v2, jI 0, jU, jU, jU] dX7_longestRun_1 rfl rfl ?_
  refine k_iconst dX7_longestRun_2 ?_
  refine k_istore [jR 86, jI v1, jI v2, jI 0, jI 1, jU, jU] dX7_longestRun_3 rfl rfl ?_
  exact v
theorem g_X7_longestRun_5 {s : Int → Int → Int} {Q : Option jV → (Int → Int → Int) → Prop} {v1 v2 v3 v4 : Int} (v : ((0 ≤ v1 ∧ v1 < 30) ∧ jr32 v4 ∧ jr32 (s 11 v1) ∧ (((s 11 v1) < v4 → Q (some (jI v3)) s) ∧ (¬ ((s 11 v1) < v4) → kK mX7_longestRun 22 [jR 86, jI v1, jI v2, jI v3, jI v4, jI 1, jU] [] s Q)))) : kK mX7_longestRun 5 [jR 86, jI v1, jI v2, jI v3, jI v4, jU, jU] [] s Q := by
  obtain ⟨a1, a2, a3, v⟩ := v
  refine k_iload dX7_longestRun_5 rfl ?_
  refine k_aload_n dX7_longestRun_7 rfl ?_
  refine k_getr dX7_longestRun_8 fl_X7_16 sh_86 (by decide) rfl ?_
  refine k_getr dX7_longestRun_11 fl_X7_20 sh_2 (by decide) rfl ?_
  refine k_iload_n dX7_longestRun_14 rfl ?_
  refine k_iald 30 dX7_longestRun_15 sh_11 (by decide) rfl (by decide) a1 ?_
  obtain ⟨vt, vf⟩ := v
  refine k_icmp_gt 136 dX7_longestRun_16 rfl a2 a3 (fun c4 => ?_) (fun c4 => ?_)
  · have v := vt c4
    refine k_iload_n dX7_longestRun_136 rfl ?_
    exact k_ireturn (st := []) dX7_longestRun_137 rfl v
  · have v := vf c4
    refine k_iconst dX7_longestRun_19 ?_
    refine k_istore [jR 86, jI v1, jI v2, jI v3, jI v4, jI 1, jU] dX7_longestRun_20 rfl rfl ?_
    exact v
theorem g_X7_longestRun_22 {s : Int → Int → Int} {Q : Option jV → (Int → Int → Int) → Prop} {v1 v2 v3 v4 v5 : Int} (v : ((0 ≤ v2 ∧ v2 < 30) ∧ jr32 v5 ∧ jr32 (s 11 v2) ∧ (((s 11 v2) < v5 → kK mX7_longestRun 5 [jR 86, jI v1, jI v2, jI v3, jI (v4 + 1), jU, jU] [] s Q) ∧ (¬ ((s 11 v2) < v5) → ((0 ≤ v1 ∧ v1 < 30) ∧ (0 ≤ (v4 - 1) ∧ (v4 - 1) < 8) ∧ (0 ≤ (v5 - 1) ∧ (v5 - 1) < 8) ∧ jr32 (s (13 + v1) (v4 - 1)) ∧ jr32 (s (13 + v2) (v5 - 1)) ∧ (((s (13 + v1) (v4 - 1)) ≠ (s (13 + v2) (v5 - 1)) → ((0 ≤ v4 ∧ v4 < 9) ∧ (0 ≤ v5 ∧ v5 < 9) ∧ jr32 v3 ∧ kK mX7_longestRun 22 [jR 86, jI v1, jI v2, jI (max v3 0), jI v4, jI (v5 + 1), jU] [] (w2 s (88 + v4) v5 0) Q)) ∧ ((s (13 + v1) (v4 - 1)) = (s (13 + v2) (v5 - 1)) → ((0 ≤ v4 ∧ v4 < 9) ∧ (0 ≤ (v4 - 1) ∧ (v4 - 1) < 9) ∧ (0 ≤ (v5 - 1) ∧ (v5 - 1) < 9) ∧ (0 ≤ v5 ∧ v5 < 9) ∧ jr32 v3 ∧ jr32 ((s (88 + (v4 - 1)) (v5 - 1)) + 1) ∧ kK mX7_longestRun 22 [jR 86, jI v1, jI v2, jI (max v3 ((s (88 + (v4 - 1)) (v5 - 1)) + 1)), jI v4, jI (v5 + 1), jU] [] (w2 s (88 + v4) v5 ((s (88 + (v4 - 1)) (v5 - 1)) + 1)) Q)))))))) : kK mX7_longestRun 22 [jR 86, jI v1, jI v2, jI v3, jI v4, jI v5, jU] [] s Q := by
  obtain ⟨a1, a2, a3, v⟩ := v
  refine k_iload dX7_longestRun_22 rfl ?_
  refine k_aload_n dX7_longestRun_24 rfl ?_
  refine k_getr dX7_longestRun_25 fl_X7_16 sh_86 (by decide) rfl ?_
  refine k_getr dX7_longestRun_28 fl_X7_20 sh_2 (by decide) rfl ?_
  refine k_iload_n dX7_longestRun_31 rfl ?_
  refine k_iald 30 dX7_longestRun_32 sh_11 (by decide) rfl (by decide) a1 ?_
  obtain ⟨vt, vf⟩ := v
  refine k_icmp_gt 130 dX7_longestRun_33 rfl a2 a3 (fun c4 => ?_) (fun c4 => ?_)
  · have v := vt c4
    refine k_iinc [jR 86, jI v1, jI v2, jI v3, jI (v4 + 1), jI v5, jU] dX7_longestRun_130 rfl rfl rfl ?_
    refine k_goto 5 dX7_longestRun_133 rfl ?_
    refine k_drop [jR 86, jI v1, jI v2, jI v3, jI (v4 + 1), jU, jU] ⟨Or.inr rfl, Or.inr rfl, Or.inr rfl, Or.inr rfl, Or.inr rfl, Or.inl rfl, Or.inr rfl, trivial⟩ ?_
    exact v
  · have v := vf c4
    obtain ⟨a5, a6, a7, a8, a9, v⟩ := v
    refine k_aload_n dX7_longestRun_36 rfl ?_
    refine k_getr dX7_longestRun_37 fl_X7_16 sh_86 (by decide) rfl ?_
    refine k_getr dX7_longestRun_40 fl_X7_26 sh_2 (by decide) rfl ?_
    refine k_iload_n dX7_longestRun_43 rfl ?_
    refine k_aald 30 dX7_longestRun_44 sh_12 (Or.inl rfl) (by decide) rfl (by decide) rfl a5 ?_
    refine k_iload dX7_longestRun_45 rfl ?_
    refine k_iconst dX7_longestRun_47 ?_
    refine k_isub dX7_longestRun_48 ?_
    refine k_iald 8 dX7_longestRun_49 (sr_12 v1 a5) ⟨by have := a5; omega, by have := a5; omega⟩ rfl (by decide) a6 ?_
    refine k_aload_n dX7_longestRun_50 rfl ?_
    refine k_getr dX7_longestRun_51 fl_X7_16 sh_86 (by decide) rfl ?_
    refine k_getr dX7_longestRun_54 fl_X7_26 sh_2 (by decide) rfl ?_
    refine k_iload_n dX7_longestRun_57 rfl ?_
    refine k_aald 30 dX7_longestRun_58 sh_12 (Or.inl rfl) (by decide) rfl (by decide) rfl a1 ?_
    refine k_iload dX7_longestRun_59 rfl ?_
    refine k_iconst dX7_longestRun_61 ?_
    refine k_isub dX7_longestRun_62 ?_
    refine k_iald 8 dX7_longestRun_63 (sr_12 v2 a1) ⟨by have := a1; omega, by have := a1; omega⟩ rfl (by decide) a7 ?_
    obtain ⟨vt, vf⟩ := v
    refine k_icmp_ne 71 dX7_longestRun_64 rfl a8 a9 (fun c10 => ?_) (fun c10 => ?_)
    · have v := vt c10
      obtain ⟨a11, a12, a13, v⟩ := v
      refine k_iconst dX7_longestRun_71 ?_
      refine k_istore [jR 86, jI v1, jI v2, jI v3, jI v4, jI v5, jI 0] dX7_longestRun_72 rfl rfl ?_
      refine k_aload_n dX7_longestRun_74 rfl ?_
      refine k_getr dX7_longestRun_75 fl_X7_11 sh_86 (by decide) rfl ?_
      refine k_iload dX7_longestRun_78 rfl ?_
      refine k_aald 9 dX7_longestRun_80 sh_87 (Or.inl rfl) (by decide) rfl (by decide) rfl a11 ?_
      refine k_iload dX7_longestRun_81 rfl ?_
      refine k_iload dX7_longestRun_83 rfl ?_
      refine k_if_eq 107 dX7_longestRun_85 rfl (by decide) (fun _ => ?_) (fun c => absurd c (by decide))
      refine k_iconst dX7_longestRun_107 ?_
      refine k_iast 9 dX7_longestRun_108 (sr_87 v4 a11) ⟨by have := a11; omega, by have := a11; omega⟩ rfl (by decide) a12 ?_
      refine k_iload_n dX7_longestRun_109 rfl ?_
      refine k_aload_n dX7_longestRun_110 rfl ?_
      refine k_getr dX7_longestRun_111 fl_X7_11 sh_86 (by decide) rfl ?_
      refine k_iload dX7_longestRun_114 rfl ?_
      refine k_aald 9 dX7_longestRun_116 sh_87 (Or.inl rfl) (by decide) rfl (by decide) rfl a11 ?_
      refine k_iload dX7_longestRun_117 rfl ?_
      refine k_iald 9 dX7_longestRun_119 (sr_87 v4 a11) ⟨by have := a11; omega, by have := a11; omega⟩ rfl (by decide) a12 ?_
      rw [show ((w2 s (88 + v4) v5 0) (88 + v4) v5) = 0 from by rw [w2_s]]
      refine k_mmaxI dX7_longestRun_120 ml_X7_29 mw_mmaxI.1 mw_mmaxI.2.1 mw_mmaxI.2.2 rfl a13 (by decide) ?_
      refine k_istore_n [jR 86, jI v1, jI v2, jI (max v3 0), jI v4, jI v5, jI 0] dX7_longestRun_123 rfl rfl ?_
      refine k_iinc [jR 86, jI v1, jI v2, jI (max v3 0), jI v4, jI (v5 + 1), jI 0] dX7_longestRun_124 rfl rfl rfl ?_
      refine k_goto 22 dX7_longestRun_127 rfl ?_
      refine k_drop [jR 86, jI v1, jI v2, jI (max v3 0), jI v4, jI (v5 + 1), jU] ⟨Or.inr rfl, Or.inr rfl, Or.inr rfl, Or.inr rfl, Or.inr rfl, Or.inr rfl, Or.inl rfl, trivial⟩ ?_
      exact v
    · have v := vf c10
      obtain ⟨a14, a15, a16, a17, a18, a19, v⟩ := v
      refine k_iconst dX7_longestRun_67 ?_
      refine k_goto 72 dX7_longestRun_68 rfl ?_
      refine k_istore [jR 86, jI v1, jI v2, jI v3, jI v4, jI v5, jI 1] dX7_longestRun_72 rfl rfl ?_
      refine k_aload_n dX7_longestRun_74 rfl ?_
      refine k_getr dX7_longestRun_75 fl_X7_11 sh_86 (by decide) rfl ?_
      refine k_iload dX7_longestRun_78 rfl ?_
      refine k_aald 9 dX7_longestRun_80 sh_87 (Or.inl rfl) (by decide) rfl (by decide) rfl a14 ?_
      refine k_iload dX7_longestRun_81 rfl ?_
      refine k_iload dX7_longestRun_83 rfl ?_
      refine k_if_eq 107 dX7_longestRun_85 rfl (by decide) (fun c => absurd c (by decide)) (fun _ => ?_)
      refine k_aload_n dX7_longestRun_88 rfl ?_
      refine k_getr dX7_longestRun_89 fl_X7_11 sh_86 (by decide) rfl ?_
      refine k_iload dX7_longestRun_92 rfl ?_
      refine k_iconst dX7_longestRun_94 ?_
      refine k_isub dX7_longestRun_95 ?_
      refine k_aald 9 dX7_longestRun_96 sh_87 (Or.inl rfl) (by decide) rfl (by decide) rfl a15 ?_
      refine k_iload dX7_longestRun_97 rfl ?_
      refine k_iconst dX7_longestRun_99 ?_
      refine k_isub dX7_longestRun_100 ?_
      refine k_iald 9 dX7_longestRun_101 (sr_87 (v4 - 1) a15) ⟨by have := a15; omega, by have := a15; omega⟩ rfl (by decide) a16 ?_
      refine k_iconst dX7_longestRun_102 ?_
      refine k_iadd dX7_longestRun_103 ?_
      refine k_goto 108 dX7_longestRun_104 rfl ?_
      refine k_iast 9 dX7_longestRun_108 (sr_87 v4 a14) ⟨by have := a14; omega, by have := a14; omega⟩ rfl (by decide) a17 ?_
      refine k_iload_n dX7_longestRun_109 rfl ?_
      refine k_aload_n dX7_longestRun_110 rfl ?_
      refine k_getr dX7_longestRun_111 fl_X7_11 sh_86 (by decide) rfl ?_
      refine k_iload dX7_longestRun_114 rfl ?_
      refine k_aald 9 dX7_longestRun_116 sh_87 (Or.inl rfl) (by decide) rfl (by decide) rfl a14 ?_
      refine k_iload dX7_longestRun_117 rfl ?_
      refine k_iald 9 dX7_longestRun_119 (sr_87 v4 a14) ⟨by have := a14; omega, by have := a14; omega⟩ rfl (by decide) a17 ?_
      rw [show ((w2 s (88 + v4) v5 ((s (88 + (v4 - 1)) (v5 - 1)) + 1)) (88 + v4) v5) = ((s (88 + (v4 - 1)) (v5 - 1)) + 1) from by rw [w2_s]]
      refine k_mmaxI dX7_longestRun_120 ml_X7_29 mw_mmaxI.1 mw_mmaxI.2.1 mw_mmaxI.2.2 rfl a18 a19 ?_
      refine k_istore_n [jR 86, jI v1, jI v2, jI (max v3 ((s (88 + (v4 - 1)) (v5 - 1)) + 1)), jI v4, jI v5, jI 1] dX7_longestRun_123 rfl rfl ?_
      refine k_iinc [jR 86, jI v1, jI v2, jI (max v3 ((s (88 + (v4 - 1)) (v5 - 1)) + 1)), jI v4, jI (v5 + 1), jI 1] dX7_longestRun_124 rfl rfl rfl ?_
      refine k_goto 22 dX7_longestRun_127 rfl ?_
      refine k_drop [jR 86, jI v1, jI v2, jI (max v3 ((s (88 + (v4 - 1)) (v5 - 1)) + 1)), jI v4, jI (v5 + 1), jU] ⟨Or.inr rfl, Or.inr rfl, Or.inr rfl, Or.inr rfl, Or.inr rfl, Or.inr rfl, Or.inl rfl, trivial⟩ ?_
      exact v
theorem sp_X7_longestRun (s0 : Int → Int → Int) (a b : Int) (h : DD s0) (g : AL s0) (ha : 0 ≤ a ∧ a < s0 146 3) (hb : 0 ≤ b ∧ b < s0 146 3) : kR mX7_longestRun [jR 86, jI a, jI b] s0 (fun r s' => ∃ y, r = some (jI y) ∧ lrun s0 a b y ∧ AL s' ∧ frm alP s0 s') := by
  obtain ⟨-, -, -, e3⟩ := h.cnt
  obtain ⟨-, -, -, fa⟩ := h.let ha.1 ha.2
  obtain ⟨-, -, -, fb⟩ := h.let hb.1 hb.2
  have cz : ∀ s, frm alP s0 s → s 11 = s0 11 := fun s f => f 11 (by unfold alP; omega)
  have ct : ∀ s, frm alP s0 s → ∀ l i, 0 ≤ l → l < s0 146 3 → 0 ≤ i → i < s0 155 l → s (13 + l) i = s0 156 (8 * l + i) := fun s f l i l0 l1 i0 i1 => by
    rw [f (13 + l) (by unfold alP; omega)]; exact (h.txt l0 l1 i0 i1).1
  have tr : ∀ l i, 0 ≤ l → l < s0 146 3 → 0 ≤ i → i < s0 155 l → jr32 (s0 156 (8 * l + i)) := fun l i l0 l1 i0 i1 => by
    have := h.txt l0 l1 i0 i1
    have := h.cnt
    unfold jr32; omega
  refine g_X7_longestRun ?_
  have key : ∀ i, i ≤ s0 155 a + 1 → 1 ≤ i → ∀ s m, frm alP s0 s → AL s → (∃ i k, rn (fun t => s0 156 (8 * a + t)) (fun t => s0 156 (8 * b + t)) (s0 155 a) (s0 155 b) i k m) → (∀ i' j', 0 ≤ i' → i' < i → 0 ≤ j' → j' ≤ s0 155 b → cend (fun t => s0 156 (8 * a + t)) (fun t => s0 156 (8 * b + t)) (s0 155 a) (s0 155 b) i' j' (s (88 + i') j') ∧ s (88 + i') j' ≤ m) → kK mX7_longestRun 5 [jR 86, jI a, jI b, jI m, jI i, jU, jU] [] s (fun r s' => ∃ y, r = some (jI y) ∧ lrun s0 a b y ∧ AL s' ∧ frm alP s0 s') := by
    refine lp_up _ _ (fun i hi ih h0 s m fs gs hm hc => ?_)
    refine g_X7_longestRun_5 ⟨by omega, by unfold jr32; omega, by rw [cz s fs, fa.1]; unfold jr32; omega, fun q => ⟨m, rfl, ?_, gs, fs⟩, fun q => ?_⟩
    · rw [cz s fs, fa.1] at q
      exact lgst_of (f := fun i j => s (88 + i) j) hm (fun i' j' h1 h2 h3 h4 => hc i' j' h1 (by omega) h3 h4)
    · rw [cz s fs, fa.1] at q
      have inner : ∀ j, j ≤ s0 155 b + 1 → 1 ≤ j → ∀ s m, frm alP s0 s → AL s → (∃ i k, rn (fun t => s0 156 (8 * a + t)) (fun t => s0 156 (8 * b + t)) (s0 155 a) (s0 155 b) i k m) → (∀ i' j', 0 ≤ i' → (i' < i ∨ i' = i ∧ j' < j) → 0 ≤ j' → j' ≤ s0 155 b → cend (fun t => s0 156 (8 * a + t)) (fun t => s0 156 (8 * b + t)) (s0 155 a) (s0 155 b) i' j' (s (88 + i') j') ∧ s (88 + i') j' ≤ m) → kK mX7_longestRun 22 [jR 86, jI a, jI b, jI m, jI i, jI j, jU] [] s (fun r s' => ∃ y, r = some (jI y) ∧ lrun s0 a b y ∧ AL s' ∧ frm alP s0 s') := by
        refine lp_up _ _ (fun j hj jh j0 s m fs gs hm hc => ?_)
        refine g_X7_longestRun_22 ⟨by omega, by unfold jr32; omega, by rw [cz s fs, fb.1]; unfold jr32; omega, fun q2 => ?_, fun q2 => ?_⟩
        · rw [cz s fs, fb.1] at q2
          exact ih (by omega) (by omega) s m fs gs hm (fun i' j' h1 h2 h3 h4 => hc i' j' h1 (by omega) h3 h4)
        · rw [cz s fs, fb.1] at q2
          rw [ct s fs a (i - 1) ha.1 ha.2 (by omega) (by omega), ct s fs b (j - 1) hb.1 hb.2 (by omega) (by omega)]
          have mr : 0 ≤ m ∧ m ≤ 8 := by obtain ⟨_, _, r, -⟩ := hm; omega
          have step : ∀ v, cend (fun t => s0 156 (8 * a + t)) (fun t => s0 156 (8 * b + t)) (s0 155 a) (s0 155 b) i j v → kK mX7_longestRun 22 [jR 86, jI a, jI b, jI (max m v), jI i, jI (j + 1), jU] [] (w2 s (88 + i) j v) (fun r s' => ∃ y, r = some (jI y) ∧ lrun s0 a b y ∧ AL s' ∧ frm alP s0 s') := fun v hv => by
            have rd : ∀ i' j', (i' = i → j' ≠ j) → w2 s (88 + i) j v (88 + i') j' = s (88 + i') j' := fun i' j' e => by
              by_cases e2 : i' = i
              · rw [e2, w2_i (e e2)]
              · rw [w2_k (by omega)]
            refine jh (by omega) (by omega) _ _ (fs.s2 (by unfold alP; omega)) (fun t t0 t1 => ?_) ?_ (fun i' j' h1 h2 h3 h4 => ?_)
            · rw [w2_k (by omega), rd t 0 (fun _ => by omega)]; exact gs t t0 t1
            · by_cases e : m ≤ v
              · rw [show max m v = v by omega]; exact ⟨_, _, hv.1⟩
              · rw [show max m v = m by omega]; exact hm
            · by_cases e : i' = i ∧ j' = j
              · rw [e.1, e.2, w2_s]; exact ⟨hv, by omega⟩
              · rw [rd i' j' (fun e1 e2 => e ⟨e1, e2⟩)]
                have := hc i' j' h1 (by omega) h3 h4
                exact ⟨this.1, by omega⟩
          refine ⟨by omega, by omega, by omega, tr a _ ha.1 ha.2 (by omega) (by omega), tr b _ hb.1 hb.2 (by omega) (by omega), fun c => ⟨by omega, by omega, by unfold jr32; omega, step 0 (cend_ne h0 (by omega) j0 (by omega) c)⟩, fun c => ?_⟩
          have pc := (hc (i - 1) (j - 1) (by omega) (by omega) (by omega) (by omega)).1
          have pb := pc.1.1
          exact ⟨by omega, by omega, by omega, by omega, by unfold jr32; omega, by unfold jr32; omega, step _ (cend_eq (by omega) (by omega) pc c)⟩
      exact inner 1 (by omega) (by omega) s m fs gs hm (fun i' j' h1 h2 h3 h4 => by
        by_cases e : i' < i
        · exact hc i' j' h1 e h3 h4
        · have e1 : j' = 0 := by omega
          rw [e1, (gs i' h1 (by omega)).2]
          exact ⟨cend_0 h1 (by omega) (by omega) (by omega) (Or.inr rfl), by obtain ⟨_, _, r, -⟩ := hm; omega⟩)
  refine key 1 (by omega) (by omega) s0 0 frm.rf g ⟨0, 0, by omega, fun t t0 t1 => by omega⟩ (fun i' j' h1 h2 h3 h4 => ?_)
  rw [show i' = 0 by omega, show (88 + 0 : Int) = 88 by omega, (g j' h3 (by omega)).1]
  exact ⟨cend_0 (by omega) (by omega) h3 h4 (Or.inl rfl), by omega⟩
