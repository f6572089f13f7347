theorem g_X11_runOf {s : Int → Int → Int} {Q : Option jV → (Int → Int → Int) → Prop} {v1 v2 : Int} (v : kK mX11_runOf 5 [jR 143, jI v1, jI v2, jI 0, jI 0, jU, jU] [] s Q) : kR mX11_runOf [jR 143, jI v1, jI v2] s Q := by
  show kK mX11_runOf 0 [jR 143, jI v1, jI v2, jU, jU, jU, jU] [] s Q
  refine k_iconst dX11_runOf_0 ?_
  refine k_istore_n [jR 143, jI v1, jI v2, jI 0, jU, jU, jU] dX11_runOf_1 rfl rfl ?_
  refine k_iconst dX11_runOf_2 ?_
  refine k_istore [jR 143, jI v1, jI v2, jI 0, jI 0, jU, jU] dX11_runOf_3 rfl rfl ?_
  exact v
theorem g_X11_runOf_5 {s : Int → Int → Int} {Q : Option jV → (Int → Int → Int) → Prop} {v1 v2 v3 v4 : Int} (v : ((0 ≤ v1 ∧ v1 < 30) ∧ jr32 v4 ∧ jr32 (s 155 v1) ∧ (((s 155 v1) ≤ v4 → Q (some (jI v3)) s) ∧ (¬ ((s 155 v1) ≤ v4) → kK mX11_runOf 19 [jR 143, jI v1, jI v2, jI v3, jI v4, jI 0, jU] [] s Q)))) : kK mX11_runOf 5 [jR 143, jI v1, jI v2, jI v3, jI v4, jU, jU] [] s Q := by
  obtain ⟨a1, a2, a3, v⟩ := v
  refine k_iload dX11_runOf_5 rfl ?_
  refine k_aload_n dX11_runOf_7 rfl ?_
  refine k_getr dX11_runOf_8 fl_X11_43 sh_143 (by decide) rfl ?_
  refine k_iload_n dX11_runOf_11 rfl ?_
  refine k_iald 30 dX11_runOf_12 sh_155 (by decide) rfl (by decide) a1 ?_
  obtain ⟨vt, vf⟩ := v
  refine k_icmp_ge 125 dX11_runOf_13 rfl a2 a3 (fun c4 => ?_) (fun c4 => ?_)
  · have v := vt c4
    refine k_iload_n dX11_runOf_125 rfl ?_
    exact k_ireturn (st := []) dX11_runOf_126 rfl v
  · have v := vf c4
    refine k_iconst dX11_runOf_16 ?_
    refine k_istore [jR 143, jI v1, jI v2, jI v3, jI v4, jI 0, jU] dX11_runOf_17 rfl rfl ?_
    exact v
theorem g_X11_runOf_19 {s : Int → Int → Int} {Q : Option jV → (Int → Int → Int) → Prop} {v1 v2 v3 v4 v5 : Int} (v : ((0 ≤ v2 ∧ v2 < 30) ∧ jr32 v5 ∧ jr32 (s 155 v2) ∧ (((s 155 v2) ≤ v5 → kK mX11_runOf 5 [jR 143, jI v1, jI v2, jI v3, jI (v4 + 1), jU, jU] [] s Q) ∧ (¬ ((s 155 v2) ≤ v5) → kK mX11_runOf 33 [jR 143, jI v1, jI v2, jI v3, jI v4, jI v5, jI 0] [] s Q)))) : kK mX11_runOf 19 [jR 143, jI v1, jI v2, jI v3, jI v4, jI v5, jU] [] s Q := by
  obtain ⟨a1, a2, a3, v⟩ := v
  refine k_iload dX11_runOf_19 rfl ?_
  refine k_aload_n dX11_runOf_21 rfl ?_
  refine k_getr dX11_runOf_22 fl_X11_43 sh_143 (by decide) rfl ?_
  refine k_iload_n dX11_runOf_25 rfl ?_
  refine k_iald 30 dX11_runOf_26 sh_155 (by decide) rfl (by decide) a1 ?_
  obtain ⟨vt, vf⟩ := v
  refine k_icmp_ge 119 dX11_runOf_27 rfl a2 a3 (fun c4 => ?_) (fun c4 => ?_)
  · have v := vt c4
    refine k_iinc [jR 143, jI v1, jI v2, jI v3, jI (v4 + 1), jI v5, jU] dX11_runOf_119 rfl rfl rfl ?_
    refine k_goto 5 dX11_runOf_122 rfl ?_
    refine k_drop [jR 143, jI v1, jI v2, jI v3, jI (v4 + 1), jU, jU] ⟨Or.inr rfl, Or.inr rfl, Or.inr rfl, Or.inr rfl, Or.inr rfl, Or.inl rfl, Or.inr rfl, trivial⟩ ?_
    exact v
  · have v := vf c4
    refine k_iconst dX11_runOf_30 ?_
    refine k_istore [jR 143, jI v1, jI v2, jI v3, jI v4, jI v5, jI 0] dX11_runOf_31 rfl rfl ?_
    exact v
theorem g_X11_runOf_33 {s : Int → Int → Int} {Q : Option jV → (Int → Int → Int) → Prop} {v1 v2 v3 v4 v5 v6 : Int} (v : ((0 ≤ v1 ∧ v1 < 30) ∧ jr32 (v4 + v6) ∧ jr32 (s 155 v1) ∧ (((s 155 v1) ≤ (v4 + v6) → (jr32 v6 ∧ jr32 v3 ∧ ((v6 ≤ v3 → kK mX11_runOf 19 [jR 143, jI v1, jI v2, jI v3, jI v4, jI (v5 + 1), jU] [] s Q) ∧ (¬ (v6 ≤ v3) → kK mX11_runOf 19 [jR 143, jI v1, jI v2, jI v6, jI v4, jI (v5 + 1), jU] [] s Q)))) ∧ (¬ ((s 155 v1) ≤ (v4 + v6)) → ((0 ≤ v2 ∧ v2 < 30) ∧ jr32 (v5 + v6) ∧ jr32 (s 155 v2) ∧ (((s 155 v2) ≤ (v5 + v6) → (jr32 v6 ∧ jr32 v3 ∧ ((v6 ≤ v3 → kK mX11_runOf 19 [jR 143, jI v1, jI v2, jI v3, jI v4, jI (v5 + 1), jU] [] s Q) ∧ (¬ (v6 ≤ v3) → kK mX11_runOf 19 [jR 143, jI v1, jI v2, jI v6, jI v4, jI (v5 + 1), jU] [] s Q)))) ∧ (¬ ((s 155 v2) ≤ (v5 + v6)) → ((0 ≤ (((8 * v1) + v4) + v6) ∧ (((8 * v1) + v4) + v6) < 240) ∧ (0 ≤ (((8 * v2) + v5) + v6) ∧ (((8 * v2) + v5) + v6) < 240) ∧ jr32 (s 156 (((8 * v1) + v4) + v6)) ∧ jr32 (s 156 (((8 * v2) + v5) + v6)) ∧ (((s 156 (((8 * v1) + v4) + v6)) ≠ (s 156 (((8 * v2) + v5) + v6)) → (jr32 v6 ∧ jr32 v3 ∧ ((v6 ≤ v3 → kK mX11_runOf 19 [jR 143, jI v1, jI v2, jI v3, jI v4, jI (v5 + 1), jU] [] s Q) ∧ (¬ (v6 ≤ v3) → kK mX11_runOf 19 [jR 143, jI v1, jI v2, jI v6, jI v4, jI (v5 + 1), jU] [] s Q)))) ∧ ((s 156 (((8 * v1) + v4) + v6)) = (s 156 (((8 * v2) + v5) + v6)) → kK mX11_runOf 33 [jR 143, jI v1, jI v2, jI v3, jI v4, jI v5, jI (v6 + 1)] [] s Q)))))))))) : kK mX11_runOf 33 [jR 143, jI v1, jI v2, jI v3, jI v4, jI v5, jI v6] [] s Q := by
  obtain ⟨a1, a2, a3, v⟩ := v
  refine k_iload dX11_runOf_33 rfl ?_
  refine k_iload dX11_runOf_35 rfl ?_
  refine k_iadd dX11_runOf_37 ?_
  refine k_aload_n dX11_runOf_38 rfl ?_
  refine k_getr dX11_runOf_39 fl_X11_43 sh_143 (by decide) rfl ?_
  refine k_iload_n dX11_runOf_42 rfl ?_
  refine k_iald 30 dX11_runOf_43 sh_155 (by decide) rfl (by decide) a1 ?_
  obtain ⟨vt, vf⟩ := v
  refine k_icmp_ge 100 dX11_runOf_44 rfl a2 a3 (fun c4 => ?_) (fun c4 => ?_)
  · have v := vt c4
    obtain ⟨a5, a6, v⟩ := v
    refine k_iload dX11_runOf_100 rfl ?_
    refine k_iload_n dX11_runOf_102 rfl ?_
    obtain ⟨vt, vf⟩ := v
    refine k_icmp_le 111 dX11_runOf_103 rfl a5 a6 (fun c7 => ?_) (fun c7 => ?_)
    · have v := vt c7
      refine k_iload_n dX11_runOf_111 rfl ?_
      refine k_istore_n [jR 143, jI v1, jI v2, jI v3, jI v4, jI v5, jI v6] dX11_runOf_112 rfl rfl ?_
      refine k_iinc [jR 143, jI v1, jI v2, jI v3, jI v4, jI (v5 + 1), jI v6] dX11_runOf_113 rfl rfl rfl ?_
      refine k_goto 19 dX11_runOf_116 rfl ?_
      refine k_drop [jR 143, jI v1, jI v2, jI v3, jI v4, jI (v5 + 1), jU] ⟨Or.inr rfl, Or.inr rfl, Or.inr rfl, Or.inr rfl, Or.inr rfl, Or.inr rfl, Or.inl rfl, trivial⟩ ?_
      exact v
    · have v := vf c7
      refine k_iload dX11_runOf_106 rfl ?_
      refine k_goto 112 dX11_runOf_108 rfl ?_
      refine k_istore_n [jR 143, jI v1, jI v2, jI v6, jI v4, jI v5, jI v6] dX11_runOf_112 rfl rfl ?_
      refine k_iinc [jR 143, jI v1, jI v2, jI v6, jI v4, jI (v5 + 1), jI v6] dX11_runOf_113 rfl rfl rfl ?_
      refine k_goto 19 dX11_runOf_116 rfl ?_
      refine k_drop [jR 143, jI v1, jI v2, jI v6, jI v4, jI (v5 + 1), jU] ⟨Or.inr rfl, Or.inr rfl, Or.inr rfl, Or.inr rfl, Or.inr rfl, Or.inr rfl, Or.inl rfl, trivial⟩ ?_
      exact v
  · have v := vf c4
    obtain ⟨a8, a9, a10, v⟩ := v
    refine k_iload dX11_runOf_47 rfl ?_
    refine k_iload dX11_runOf_49 rfl ?_
    refine k_iadd dX11_runOf_51 ?_
    refine k_aload_n dX11_runOf_52 rfl ?_
    refine k_getr dX11_runOf_53 fl_X11_43 sh_143 (by decide) rfl ?_
    refine k_iload_n dX11_runOf_56 rfl ?_
    refine k_iald 30 dX11_runOf_57 sh_155 (by decide) rfl (by decide) a8 ?_
    obtain ⟨vt, vf⟩ := v
    refine k_icmp_ge 100 dX11_runOf_58 rfl a9 a10 (fun c11 => ?_) (fun c11 => ?_)
    · have v := vt c11
      obtain ⟨a12, a13, v⟩ := v
      refine k_iload dX11_runOf_100 rfl ?_
      refine k_iload_n dX11_runOf_102 rfl ?_
      obtain ⟨vt, vf⟩ := v
      refine k_icmp_le 111 dX11_runOf_103 rfl a12 a13 (fun c14 => ?_) (fun c14 => ?_)
      · have v := vt c14
        refine k_iload_n dX11_runOf_111 rfl ?_
        refine k_istore_n [jR 143, jI v1, jI v2, jI v3, jI v4, jI v5, jI v6] dX11_runOf_112 rfl rfl ?_
        refine k_iinc [jR 143, jI v1, jI v2, jI v3, jI v4, jI (v5 + 1), jI v6] dX11_runOf_113 rfl rfl rfl ?_
        refine k_goto 19 dX11_runOf_116 rfl ?_
        refine k_drop [jR 143, jI v1, jI v2, jI v3, jI v4, jI (v5 + 1), jU] ⟨Or.inr rfl, Or.inr rfl, Or.inr rfl, Or.inr rfl, Or.inr rfl, Or.inr rfl, Or.inl rfl, trivial⟩ ?_
        exact v
      · have v := vf c14
        refine k_iload dX11_runOf_106 rfl ?_
        refine k_goto 112 dX11_runOf_108 rfl ?_
        refine k_istore_n [jR 143, jI v1, jI v2, jI v6, jI v4, jI v5, jI v6] dX11_runOf_112 rfl rfl ?_
        refine k_iinc [jR 143, jI v1, jI v2, jI v6, jI v4, jI (v5 + 1), jI v6] dX11_runOf_113 rfl rfl rfl ?_
        refine k_goto 19 dX11_runOf_116 rfl ?_
        refine k_drop [jR 143, jI v1, jI v2, jI v6, jI v4, jI (v5 + 1), jU] ⟨Or.inr rfl, Or.inr rfl, Or.inr rfl, Or.inr rfl, Or.inr rfl, Or.inr rfl, Or.inl rfl, trivial⟩ ?_
        exact v
    · have v := vf c11
      obtain ⟨a15, a16, a17, a18, v⟩ := v
      refine k_aload_n dX11_runOf_61 rfl ?_
      refine k_getr dX11_runOf_62 fl_X11_46 sh_143 (by decide) rfl ?_
      refine k_bipush dX11_runOf_65 rfl ?_
      refine k_iload_n dX11_runOf_67 rfl ?_
      refine k_imul dX11_runOf_68 ?_
      refine k_iload dX11_runOf_69 rfl ?_
      refine k_iadd dX11_runOf_71 ?_
      refine k_iload dX11_runOf_72 rfl ?_
      refine k_iadd dX11_runOf_74 ?_
      refine k_iald 240 dX11_runOf_75 sh_156 (by decide) rfl (by decide) a15 ?_
      refine k_aload_n dX11_runOf_76 rfl ?_
      refine k_getr dX11_runOf_77 fl_X11_46 sh_143 (by decide) rfl ?_
      refine k_bipush dX11_runOf_80 rfl ?_
      refine k_iload_n dX11_runOf_82 rfl ?_
      refine k_imul dX11_runOf_83 ?_
      refine k_iload dX11_runOf_84 rfl ?_
      refine k_iadd dX11_runOf_86 ?_
      refine k_iload dX11_runOf_87 rfl ?_
      refine k_iadd dX11_runOf_89 ?_
      refine k_iald 240 dX11_runOf_90 sh_156 (by decide) rfl (by decide) a16 ?_
      obtain ⟨vt, vf⟩ := v
      refine k_icmp_ne 100 dX11_runOf_91 rfl a17 a18 (fun c19 => ?_) (fun c19 => ?_)
      · have v := vt c19
        obtain ⟨a20, a21, v⟩ := v
        refine k_iload dX11_runOf_100 rfl ?_
        refine k_iload_n dX11_runOf_102 rfl ?_
        obtain ⟨vt, vf⟩ := v
        refine k_icmp_le 111 dX11_runOf_103 rfl a20 a21 (fun c22 => ?_) (fun c22 => ?_)
        · have v := vt c22
          refine k_iload_n dX11_runOf_111 rfl ?_
          refine k_istore_n [jR 143, jI v1, jI v2, jI v3, jI v4, jI v5, jI v6] dX11_runOf_112 rfl rfl ?_
          refine k_iinc [jR 143, jI v1, jI v2, jI v3, jI v4, jI (v5 + 1), jI v6] dX11_runOf_113 rfl rfl rfl ?_
          refine k_goto 19 dX11_runOf_116 rfl ?_
          refine k_drop [jR 143, jI v1, jI v2, jI v3, jI v4, jI (v5 + 1), jU] ⟨Or.inr rfl, Or.inr rfl, Or.inr rfl, Or.inr rfl, Or.inr rfl, Or.inr rfl, Or.inl rfl, trivial⟩ ?_
          exact v
        · have v := vf c22
          refine k_iload dX11_runOf_106 rfl ?_
          refine k_goto 112 dX11_runOf_108 rfl ?_
          refine k_istore_n [jR 143, jI v1, jI v2, jI v6, jI v4, jI v5, jI v6] dX11_runOf_112 rfl rfl ?_
          refine k_iinc [jR 143, jI v1, jI v2, jI v6, jI v4, jI (v5 + 1), jI v6] dX11_runOf_113 rfl rfl rfl ?_
          refine k_goto 19 dX11_runOf_116 rfl ?_
          refine k_drop [jR 143, jI v1, jI v2, jI v6, jI v4, jI (v5 + 1), jU] ⟨Or.inr rfl, Or.inr rfl, Or.inr rfl, Or.inr rfl, Or.inr rfl, Or.inr rfl, Or.inl rfl, trivial⟩ ?_
          exact v
      · have v := vf c19
        refine k_iinc [jR 143, jI v1, jI v2, jI v3, jI v4, jI v5, jI (v6 + 1)] dX11_runOf_94 rfl rfl rfl ?_
        refine k_goto 33 dX11_runOf_97 rfl ?_
        exact v
theorem sp_X11_runOf (s : Int → Int → Int) (a b : Int) (h : DD s) (ha : 0 ≤ a ∧ a < s 146 3) (hb : 0 ≤ b ∧ b < s 146 3) : kR mX11_runOf [jR 143, jI a, jI b] s (fun r s' => ∃ y, r = some (jI y) ∧ lrun s a b y ∧ s' = s) := by
  obtain ⟨-, -, -, e3⟩ := h.cnt
  obtain ⟨-, -, -, fa⟩ := h.let ha.1 ha.2
  obtain ⟨-, -, -, fb⟩ := h.let hb.1 hb.2
  have tr : ∀ l i, 0 ≤ l → l < s 146 3 → 0 ≤ i → i < s 155 l → jr32 (s 156 (8 * l + i)) := fun l i l0 l1 i0 i1 => by
    have := h.txt l0 l1 i0 i1
    have := h.cnt
    unfold jr32; omega
  refine g_X11_runOf ?_
  have key : ∀ i, i ≤ s 155 a → 0 ≤ i → ∀ m, (∃ i k, rn (fun t => s 156 (8 * a + t)) (fun t => s 156 (8 * b + t)) (s 155 a) (s 155 b) i k m) → (∀ i' k' n, i' < i → rn (fun t => s 156 (8 * a + t)) (fun t => s 156 (8 * b + t)) (s 155 a) (s 155 b) i' k' n → n ≤ m) → kK mX11_runOf 5 [jR 143, jI a, jI b, jI m, jI i, jU, jU] [] s (fun r s' => ∃ y, r = some (jI y) ∧ lrun s a b y ∧ s' = s) := by
    refine lp_up _ _ (fun i hi ih h0 m hm hc => ?_)
    refine g_X11_runOf_5 ⟨by omega, by unfold jr32; omega, by unfold jr32; omega, fun q => ⟨m, rfl, ⟨hm, fun i' k' n r => ?_⟩, rfl⟩, fun q => ?_⟩
    · have r1 := r.1
      obtain ⟨_, _, r2⟩ := hm
      have r3 := r2.1
      by_cases e : i' < i
      · exact hc i' k' n e r
      · omega
    · have inner : ∀ k, k ≤ s 155 b → 0 ≤ k → ∀ m, (∃ i k, rn (fun t => s 156 (8 * a + t)) (fun t => s 156 (8 * b + t)) (s 155 a) (s 155 b) i k m) → (∀ i' k' n, (i' < i ∨ i' = i ∧ k' < k) → rn (fun t => s 156 (8 * a + t)) (fun t => s 156 (8 * b + t)) (s 155 a) (s 155 b) i' k' n → n ≤ m) → kK mX11_runOf 19 [jR 143, jI a, jI b, jI m, jI i, jI k, jU] [] s (fun r s' => ∃ y, r = some (jI y) ∧ lrun s a b y ∧ s' = s) := by
        refine lp_up _ _ (fun k hk jh j0 m hm hc => ?_)
        refine g_X11_runOf_19 ⟨by omega, by unfold jr32; omega, by unfold jr32; omega, fun q2 => ?_, fun q2 => ?_⟩
        · refine ih (by omega) (by omega) m hm (fun i' k' n e r => ?_)
          have r1 := r.1
          obtain ⟨_, _, r2⟩ := hm
          have r3 := r2.1
          by_cases e2 : i' < i ∨ i' = i ∧ k' < k
          · exact hc i' k' n e2 r
          · omega
        · have mr : 0 ≤ m ∧ m ≤ 8 := by obtain ⟨_, _, r, -⟩ := hm; omega
          have fin : ∀ n, rn (fun t => s 156 (8 * a + t)) (fun t => s 156 (8 * b + t)) (s 155 a) (s 155 b) i k n → (∀ n', rn (fun t => s 156 (8 * a + t)) (fun t => s 156 (8 * b + t)) (s 155 a) (s 155 b) i k n' → n' ≤ n) → (jr32 n ∧ jr32 m ∧ (n ≤ m → kK mX11_runOf 19 [jR 143, jI a, jI b, jI m, jI i, jI (k + 1), jU] [] s (fun r s' => ∃ y, r = some (jI y) ∧ lrun s a b y ∧ s' = s)) ∧ (¬ n ≤ m → kK mX11_runOf 19 [jR 143, jI a, jI b, jI n, jI i, jI (k + 1), jU] [] s (fun r s' => ∃ y, r = some (jI y) ∧ lrun s a b y ∧ s' = s))) := fun n hn hx => by
            have n1 := hn.1
            refine ⟨by unfold jr32; omega, by unfold jr32; omega, fun c => jh (by omega) (by omega) m hm (fun i' k' n' e r => ?_), fun c => jh (by omega) (by omega) n ⟨_, _, hn⟩ (fun i' k' n' e r => ?_)⟩
            · by_cases e2 : i' = i ∧ k' = k
              · rw [e2.1, e2.2] at r
                have := hx n' r; omega
              · exact hc i' k' n' (by omega) r
            · by_cases e2 : i' = i ∧ k' = k
              · rw [e2.1, e2.2] at r
                exact hx n' r
              · have := hc i' k' n' (by omega) r; omega
          have run : ∀ n, n ≤ s 155 a - i → rn (fun t => s 156 (8 * a + t)) (fun t => s 156 (8 * b + t)) (s 155 a) (s 155 b) i k n → kK mX11_runOf 33 [jR 143, jI a, jI b, jI m, jI i, jI k, jI n] [] s (fun r s' => ∃ y, r = some (jI y) ∧ lrun s a b y ∧ s' = s) := by
            refine lp_up _ _ (fun n hn nh hr => ?_)
            have r1 := hr.1
            refine g_X11_runOf_33 ⟨by omega, by unfold jr32; omega, by unfold jr32; omega, fun q3 => fin n hr (fun n' r' => by have := r'.1; omega), fun q3 => ⟨by omega, by unfold jr32; omega, by unfold jr32; omega, fun q4 => fin n hr (fun n' r' => by have := r'.1; omega), fun q4 => ?_⟩⟩
            rw [show 8 * a + i + n = 8 * a + (i + n) by omega, show 8 * b + k + n = 8 * b + (k + n) by omega]
            refine ⟨by omega, by omega, tr a _ ha.1 ha.2 (by omega) (by omega), tr b _ hb.1 hb.2 (by omega) (by omega), fun c => fin n hr (fun n' r' => ?_), fun c => nh (by omega) ⟨by omega, fun t t0 t1 => ?_⟩⟩
            · by_cases e : n' ≤ n
              · exact e
              · exact absurd (r'.2 n (by omega) (by omega)) c
            · by_cases e : t = n
              · rw [e]; exact c
              · exact hr.2 t t0 (by omega)
          exact run 0 (by omega) ⟨by omega, fun t t0 t1 => by omega⟩
      exact inner 0 (by omega) (by omega) m hm (fun i' k' n e r => by
        have r1 := r.1
        exact hc i' k' n (by omega) r)
  exact key 0 (by omega) (by omega) 0 ⟨0, 0, by omega, fun t t0 t1 => by omega⟩ (fun i' k' n e r => by have := r.1; omega)
theorem g_X11_greater {s : Int → Int → Int} {Q : Option jV → (Int → Int → Int) → Prop} {v0 v1 : Int} (v : (jr32 v0 ∧ jr32 v1 ∧ ((v0 ≤ v1 → Q (some (jI v1)) s) ∧ (¬ (v0 ≤ v1) → Q (some (jI v0)) s)))) : kR mX11_greater [jI v0, jI v1] s Q := by
  show kK mX11_greater 0 [jI v0, jI v1] [] s Q
  obtain ⟨a1, a2, v⟩ := v
  refine k_iload_n dX11_greater_0 rfl ?_
  refine k_iload_n dX11_greater_1 rfl ?_
  obtain ⟨vt, vf⟩ := v
  refine k_icmp_le 9 dX11_greater_2 rfl a1 a2 (fun c3 => ?_) (fun c3 => ?_)
  · have v := vt c3
    refine k_iload_n dX11_greater_9 rfl ?_
    exact k_ireturn (st := []) dX11_greater_10 rfl v
  · have v := vf c3
    refine k_iload_n dX11_greater_5 rfl ?_
    refine k_goto 10 dX11_greater_6 rfl ?_
    exact k_ireturn (st := []) dX11_greater_10 rfl v
theorem sp_X11_greater (s : Int → Int → Int) (a b : Int) (ha : jr32 a) (hb : jr32 b) : kM mX11_greater [jI a, jI b] s (some (jI (max a b))) s :=
  g_X11_greater ⟨ha, hb, fun c => ⟨by rw [show max a b = b by omega], rfl⟩, fun c => ⟨by rw [show max a b = a by omega], rfl⟩⟩
theorem g_X11_likeOf {s : Int → Int → Int} {Q : Option jV → (Int → Int → Int) → Prop} {v1 v2 : Int} (v : kK mX11_likeOf 2 [jR 143, jI v1, jI v2, jI 0, jU, jU, jU] [] s Q) : kR mX11_likeOf [jR 143, jI v1, jI v2] s Q := by
  show kK mX11_likeOf 0 [jR 143, jI v1, jI v2, jU, jU, jU, jU] [] s Q
  refine k_iconst dX11_likeOf_0 ?_
  refine k_istore_n [jR 143, jI v1, jI v2, jI 0, jU, jU, jU] dX11_likeOf_1 rfl rfl ?_
  exact v
theorem g_X11_likeOf_2 {s : Int → Int → Int} {Q : Option jV → (Int → Int → Int) → Prop} {v1 v2 v3 : Int} (v : ((0 ≤ v1 ∧ v1 < 30) ∧ jr32 v3 ∧ jr32 (s 155 v1) ∧ (((s 155 v1) < v3 → ((0 ≤ v2 ∧ v2 < 30) ∧ (0 ≤ ((9 * (s 155 v1)) + (s 155 v2)) ∧ ((9 * (s 155 v1)) + (s 155 v2)) < 81) ∧ Q (some (jI (s 158 ((9 * (s 155 v1)) + (s 155 v2))))) s)) ∧ (¬ ((s 155 v1) < v3) → kK mX11_likeOf 15 [jR 143, jI v1, jI v2, jI v3, jI 0, jU, jU] [] s Q)))) : kK mX11_likeOf 2 [jR 143, jI v1, jI v2, jI v3, jU, jU, jU] [] s Q := by
  obtain ⟨a1, a2, a3, v⟩ := v
  refine k_iload_n dX11_likeOf_2 rfl ?_
  refine k_aload_n dX11_likeOf_3 rfl ?_
  refine k_getr dX11_likeOf_4 fl_X11_43 sh_143 (by decide) rfl ?_
  refine k_iload_n dX11_likeOf_7 rfl ?_
  refine k_iald 30 dX11_likeOf_8 sh_155 (by decide) rfl (by decide) a1 ?_
  obtain ⟨vt, vf⟩ := v
  refine k_icmp_gt 160 dX11_likeOf_9 rfl a2 a3 (fun c4 => ?_) (fun c4 => ?_)
  · have v := vt c4
    obtain ⟨a5, a6, v⟩ := v
    refine k_aload_n dX11_likeOf_160 rfl ?_
    refine k_getr dX11_likeOf_161 fl_X11_52 sh_143 (by decide) rfl ?_
    refine k_bipush dX11_likeOf_164 rfl ?_
    refine k_aload_n dX11_likeOf_166 rfl ?_
    refine k_getr dX11_likeOf_167 fl_X11_43 sh_143 (by decide) rfl ?_
    refine k_iload_n dX11_likeOf_170 rfl ?_
    refine k_iald 30 dX11_likeOf_171 sh_155 (by decide) rfl (by decide) a1 ?_
    refine k_imul dX11_likeOf_172 ?_
    refine k_aload_n dX11_likeOf_173 rfl ?_
    refine k_getr dX11_likeOf_174 fl_X11_43 sh_143 (by decide) rfl ?_
    refine k_iload_n dX11_likeOf_177 rfl ?_
    refine k_iald 30 dX11_likeOf_178 sh_155 (by decide) rfl (by decide) a5 ?_
    refine k_iadd dX11_likeOf_179 ?_
    refine k_iald 81 dX11_likeOf_180 sh_158 (by decide) rfl (by decide) a6 ?_
    exact k_ireturn (st := []) dX11_likeOf_181 rfl v
  · have v := vf c4
    refine k_iconst dX11_likeOf_12 ?_
    refine k_istore [jR 143, jI v1, jI v2, jI v3, jI 0, jU, jU] dX11_likeOf_13 rfl rfl ?_
    exact v
theorem g_X11_likeOf_15 {s : Int → Int → Int} {Q : Option jV → (Int → Int → Int) → Prop} {v1 v2 v3 v4 : Int} (v : ((0 ≤ v2 ∧ v2 < 30) ∧ jr32 v4 ∧ jr32 (s 155 v2) ∧ (((s 155 v2) < v4 → kK mX11_likeOf 2 [jR 143, jI v1, jI v2, jI (v3 + 1), jU, jU, jU] [] s Q) ∧ (¬ ((s 155 v2) < v4) → (jr32 v3 ∧ ((v3 ≤ 0 → ((0 ≤ ((9 * v3) + v4) ∧ ((9 * v3) + v4) < 81) ∧ kK mX11_likeOf 15 [jR 143, jI v1, jI v2, jI v3, jI (v4 + 1), jU, jU] [] (w2 s 158 ((9 * v3) + v4) 0) Q)) ∧ (¬ (v3 ≤ 0) → ((v4 ≤ 0 → ((0 ≤ ((9 * v3) + v4) ∧ ((9 * v3) + v4) < 81) ∧ kK mX11_likeOf 15 [jR 143, jI v1, jI v2, jI v3, jI (v4 + 1), jU, jU] [] (w2 s 158 ((9 * v3) + v4) 0) Q)) ∧ (¬ (v4 ≤ 0) → ((0 ≤ (((8 * v1) + v3) - 1) ∧ (((8 * v1) + v3) - 1) < 240) ∧ (0 ≤ (((8 * v2) + v4) - 1) ∧ (((8 * v2) + v4) - 1) < 240) ∧ jr32 (s 156 (((8 * v1) + v3) - 1)) ∧ jr32 (s 156 (((8 * v2) + v4) - 1)) ∧ (((s 156 (((8 * v1) + v3) - 1)) ≠ (s 156 (((8 * v2) + v4) - 1)) → ((0 ≤ (((9 * v3) + v4) - 9) ∧ (((9 * v3) + v4) - 9) < 81) ∧ (0 ≤ (((9 * v3) + v4) - 1) ∧ (((9 * v3) + v4) - 1) < 81) ∧ jr32 (s 158 (((9 * v3) + v4) - 9)) ∧ jr32 (s 158 (((9 * v3) + v4) - 1)) ∧ (0 ≤ ((9 * v3) + v4) ∧ ((9 * v3) + v4) < 81) ∧ kK mX11_likeOf 15 [jR 143, jI v1, jI v2, jI v3, jI (v4 + 1), jU, jU] [] (w2 s 158 ((9 * v3) + v4) (max (s 158 (((9 * v3) + v4) - 9)) (s 158 (((9 * v3) + v4) - 1)))) Q)) ∧ ((s 156 (((8 * v1) + v3) - 1)) = (s 156 (((8 * v2) + v4) - 1)) → ((0 ≤ (((9 * v3) + v4) - 10) ∧ (((9 * v3) + v4) - 10) < 81) ∧ (0 ≤ ((9 * v3) + v4) ∧ ((9 * v3) + v4) < 81) ∧ kK mX11_likeOf 15 [jR 143, jI v1, jI v2, jI v3, jI (v4 + 1), jU, jU] [] (w2 s 158 ((9 * v3) + v4) ((s 158 (((9 * v3) + v4) - 10)) + 1)) Q))))))))))))) : kK mX11_likeOf 15 [jR 143, jI v1, jI v2, jI v3, jI v4, jU, jU] [] s Q := by
  obtain ⟨a1, a2, a3, v⟩ := v
  refine k_iload dX11_likeOf_15 rfl ?_
  refine k_aload_n dX11_likeOf_17 rfl ?_
  refine k_getr dX11_likeOf_18 fl_X11_43 sh_143 (by decide) rfl ?_
  refine k_iload_n dX11_likeOf_21 rfl ?_
  refine k_iald 30 dX11_likeOf_22 sh_155 (by decide) rfl (by decide) a1 ?_
  obtain ⟨vt, vf⟩ := v
  refine k_icmp_gt 154 dX11_likeOf_23 rfl a2 a3 (fun c4 => ?_) (fun c4 => ?_)
  · have v := vt c4
    refine k_iinc [jR 143, jI v1, jI v2, jI (v3 + 1), jI v4, jU, jU] dX11_likeOf_154 rfl rfl rfl ?_
    refine k_goto 2 dX11_likeOf_157 rfl ?_
    refine k_drop [jR 143, jI v1, jI v2, jI (v3 + 1), jU, jU, jU] ⟨Or.inr rfl, Or.inr rfl, Or.inr rfl, Or.inr rfl, Or.inl rfl, Or.inr rfl, Or.inr rfl, trivial⟩ ?_
    exact v
  · have v := vf c4
    obtain ⟨a5, v⟩ := v
    refine k_iconst dX11_likeOf_26 ?_
    refine k_istore [jR 143, jI v1, jI v2, jI v3, jI v4, jI 0, jU] dX11_likeOf_27 rfl rfl ?_
    refine k_iload_n dX11_likeOf_29 rfl ?_
    obtain ⟨vt, vf⟩ := v
    refine k_if_le 134 dX11_likeOf_30 rfl a5 (fun c6 => ?_) (fun c6 => ?_)
    · have v := vt c6
      obtain ⟨a7, v⟩ := v
      refine k_aload_n dX11_likeOf_134 rfl ?_
      refine k_getr dX11_likeOf_135 fl_X11_52 sh_143 (by decide) rfl ?_
      refine k_bipush dX11_likeOf_138 rfl ?_
      refine k_iload_n dX11_likeOf_140 rfl ?_
      refine k_imul dX11_likeOf_141 ?_
      refine k_iload dX11_likeOf_142 rfl ?_
      refine k_iadd dX11_likeOf_144 ?_
      refine k_iload dX11_likeOf_145 rfl ?_
      refine k_iast 81 dX11_likeOf_147 sh_158 (by decide) rfl (by decide) a7 ?_
      refine k_iinc [jR 143, jI v1, jI v2, jI v3, jI (v4 + 1), jI 0, jU] dX11_likeOf_148 rfl rfl rfl ?_
      refine k_goto 15 dX11_likeOf_151 rfl ?_
      refine k_drop [jR 143, jI v1, jI v2, jI v3, jI (v4 + 1), jU, jU] ⟨Or.inr rfl, Or.inr rfl, Or.inr rfl, Or.inr rfl, Or.inr rfl, Or.inl rfl, Or.inr rfl, trivial⟩ ?_
      exact v
    · have v := vf c6
      refine k_iload dX11_likeOf_33 rfl ?_
      obtain ⟨vt, vf⟩ := v
      refine k_if_le 134 dX11_likeOf_35 rfl a2 (fun c8 => ?_) (fun c8 => ?_)
      · have v := vt c8
        obtain ⟨a9, v⟩ := v
        refine k_aload_n dX11_likeOf_134 rfl ?_
        refine k_getr dX11_likeOf_135 fl_X11_52 sh_143 (by decide) rfl ?_
        refine k_bipush dX11_likeOf_138 rfl ?_
        refine k_iload_n dX11_likeOf_140 rfl ?_
        refine k_imul dX11_likeOf_141 ?_
        refine k_iload dX11_likeOf_142 rfl ?_
        refine k_iadd dX11_likeOf_144 ?_
        refine k_iload dX11_likeOf_145 rfl ?_
        refine k_iast 81 dX11_likeOf_147 sh_158 (by decide) rfl (by decide) a9 ?_
        refine k_iinc [jR 143, jI v1, jI v2, jI v3, jI (v4 + 1), jI 0, jU] dX11_likeOf_148 rfl rfl rfl ?_
        refine k_goto 15 dX11_likeOf_151 rfl ?_
        refine k_drop [jR 143, jI v1, jI v2, jI v3, jI (v4 + 1), jU, jU] ⟨Or.inr rfl, Or.inr rfl, Or.inr rfl, Or.inr rfl, Or.inr rfl, Or.inl rfl, Or.inr rfl, trivial⟩ ?_
        exact v
      · have v := vf c8
        obtain ⟨a10, a11, a12, a13, v⟩ := v
        refine k_aload_n dX11_likeOf_38 rfl ?_
        refine k_getr dX11_likeOf_39 fl_X11_46 sh_143 (by decide) rfl ?_
        refine k_bipush dX11_likeOf_42 rfl ?_
        refine k_iload_n dX11_likeOf_44 rfl ?_
        refine k_imul dX11_likeOf_45 ?_
        refine k_iload_n dX11_likeOf_46 rfl ?_
        refine k_iadd dX11_likeOf_47 ?_
        refine k_iconst dX11_likeOf_48 ?_
        refine k_isub dX11_likeOf_49 ?_
        refine k_iald 240 dX11_likeOf_50 sh_156 (by decide) rfl (by decide) a10 ?_
        refine k_aload_n dX11_likeOf_51 rfl ?_
        refine k_getr dX11_likeOf_52 fl_X11_46 sh_143 (by decide) rfl ?_
        refine k_bipush dX11_likeOf_55 rfl ?_
        refine k_iload_n dX11_likeOf_57 rfl ?_
        refine k_imul dX11_likeOf_58 ?_
        refine k_iload dX11_likeOf_59 rfl ?_
        refine k_iadd dX11_likeOf_61 ?_
        refine k_iconst dX11_likeOf_62 ?_
        refine k_isub dX11_likeOf_63 ?_
        refine k_iald 240 dX11_likeOf_64 sh_156 (by decide) rfl (by decide) a11 ?_
        obtain ⟨vt, vf⟩ := v
        refine k_icmp_ne 72 dX11_likeOf_65 rfl a12 a13 (fun c14 => ?_) (fun c14 => ?_)
        · have v := vt c14
          obtain ⟨a15, a16, a17, a18, a19, v⟩ := v
          refine k_iconst dX11_likeOf_72 ?_
          refine k_istore [jR 143, jI v1, jI v2, jI v3, jI v4, jI 0, jI 0] dX11_likeOf_73 rfl rfl ?_
          refine k_iload dX11_likeOf_75 rfl ?_
          refine k_if_eq 100 dX11_likeOf_77 rfl (by decide) (fun _ => ?_) (fun c => absurd c (by decide))
          refine k_aload_n dX11_likeOf_100 rfl ?_
          refine k_getr dX11_likeOf_101 fl_X11_52 sh_143 (by decide) rfl ?_
          refine k_bipush dX11_likeOf_104 rfl ?_
          refine k_iload_n dX11_likeOf_106 rfl ?_
          refine k_imul dX11_likeOf_107 ?_
          refine k_iload dX11_likeOf_108 rfl ?_
          refine k_iadd dX11_likeOf_110 ?_
          refine k_bipush dX11_likeOf_111 rfl ?_
          refine k_isub dX11_likeOf_113 ?_
          refine k_iald 81 dX11_likeOf_114 sh_158 (by decide) rfl (by decide) a15 ?_
          refine k_aload_n dX11_likeOf_115 rfl ?_
          refine k_getr dX11_likeOf_116 fl_X11_52 sh_143 (by decide) rfl ?_
          refine k_bipush dX11_likeOf_119 rfl ?_
          refine k_iload_n dX11_likeOf_121 rfl ?_
          refine k_imul dX11_likeOf_122 ?_
          refine k_iload dX11_likeOf_123 rfl ?_
          refine k_iadd dX11_likeOf_125 ?_
          refine k_iconst dX11_likeOf_126 ?_
          refine k_isub dX11_likeOf_127 ?_
          refine k_iald 81 dX11_likeOf_128 sh_158 (by decide) rfl (by decide) a16 ?_
          refine k_invS [jI (s 158 (((9 * v3) + v4) - 9)), jI (s 158 (((9 * v3) + v4) - 1))] [] dX11_likeOf_129 cm_X11_greater ml_X11_202 st_X11_greater rfl rfl (sp_X11_greater s (s 158 (((9 * v3) + v4) - 9)) (s 158 (((9 * v3) + v4) - 1)) a17 a18) ?_
          refine k_istore [jR 143, jI v1, jI v2, jI v3, jI v4, jI (max (s 158 (((9 * v3) + v4) - 9)) (s 158 (((9 * v3) + v4) - 1))), jI 0] dX11_likeOf_132 rfl rfl ?_
          refine k_aload_n dX11_likeOf_134 rfl ?_
          refine k_getr dX11_likeOf_135 fl_X11_52 sh_143 (by decide) rfl ?_
          refine k_bipush dX11_likeOf_138 rfl ?_
          refine k_iload_n dX11_likeOf_140 rfl ?_
          refine k_imul dX11_likeOf_141 ?_
          refine k_iload dX11_likeOf_142 rfl ?_
          refine k_iadd dX11_likeOf_144 ?_
          refine k_iload dX11_likeOf_145 rfl ?_
          refine k_iast 81 dX11_likeOf_147 sh_158 (by decide) rfl (by decide) a19 ?_
          refine k_iinc [jR 143, jI v1, jI v2, jI v3, jI (v4 + 1), jI (max (s 158 (((9 * v3) + v4) - 9)) (s 158 (((9 * v3) + v4) - 1))), jI 0] dX11_likeOf_148 rfl rfl rfl ?_
          refine k_goto 15 dX11_likeOf_151 rfl ?_
          refine k_drop [jR 143, jI v1, jI v2, jI v3, jI (v4 + 1), jU, jU] ⟨Or.inr rfl, Or.inr rfl, Or.inr rfl, Or.inr rfl, Or.inr rfl, Or.inl rfl, Or.inl rfl, trivial⟩ ?_
          exact v
        · have v := vf c14
          obtain ⟨a20, a21, v⟩ := v
          refine k_iconst dX11_likeOf_68 ?_
          refine k_goto 73 dX11_likeOf_69 rfl ?_
          refine k_istore [jR 143, jI v1, jI v2, jI v3, jI v4, jI 0, jI 1] dX11_likeOf_73 rfl rfl ?_
          refine k_iload dX11_likeOf_75 rfl ?_
          refine k_if_eq 100 dX11_likeOf_77 rfl (by decide) (fun c => absurd c (by decide)) (fun _ => ?_)
          refine k_aload_n dX11_likeOf_80 rfl ?_
          refine k_getr dX11_likeOf_81 fl_X11_52 sh_143 (by decide) rfl ?_
          refine k_bipush dX11_likeOf_84 rfl ?_
          refine k_iload_n dX11_likeOf_86 rfl ?_
          refine k_imul dX11_likeOf_87 ?_
          refine k_iload dX11_likeOf_88 rfl ?_
          refine k_iadd dX11_likeOf_90 ?_
          refine k_bipush dX11_likeOf_91 rfl ?_
          refine k_isub dX11_likeOf_93 ?_
          refine k_iald 81 dX11_likeOf_94 sh_158 (by decide) rfl (by decide) a20 ?_
          refine k_iconst dX11_likeOf_95 ?_
          refine k_iadd dX11_likeOf_96 ?_
          refine k_goto 132 dX11_likeOf_97 rfl ?_
          refine k_istore [jR 143, jI v1, jI v2, jI v3, jI v4, jI ((s 158 (((9 * v3) + v4) - 10)) + 1), jI 1] dX11_likeOf_132 rfl rfl ?_
          refine k_aload_n dX11_likeOf_134 rfl ?_
          refine k_getr dX11_likeOf_135 fl_X11_52 sh_143 (by decide) rfl ?_
          refine k_bipush dX11_likeOf_138 rfl ?_
          refine k_iload_n dX11_likeOf_140 rfl ?_
          refine k_imul dX11_likeOf_141 ?_
          refine k_iload dX11_likeOf_142 rfl ?_
          refine k_iadd dX11_likeOf_144 ?_
          refine k_iload dX11_likeOf_145 rfl ?_
          refine k_iast 81 dX11_likeOf_147 sh_158 (by decide) rfl (by decide) a21 ?_
          refine k_iinc [jR 143, jI v1, jI v2, jI v3, jI (v4 + 1), jI ((s 158 (((9 * v3) + v4) - 10)) + 1), jI 1] dX11_likeOf_148 rfl rfl rfl ?_
          refine k_goto 15 dX11_likeOf_151 rfl ?_
          refine k_drop [jR 143, jI v1, jI v2, jI v3, jI (v4 + 1), jU, jU] ⟨Or.inr rfl, Or.inr rfl, Or.inr rfl, Or.inr rfl, Or.inr rfl, Or.inl rfl, Or.inl rfl, trivial⟩ ?_
          exact v
theorem g_X11_left {s : Int → Int → Int} {Q : Option jV → (Int → Int → Int) → Prop} {v1 v2 : Int} (v : (jr32 v1 ∧ (0 ≤ s 146 3 ∧ s 146 3 ≤ 1000) ∧ ((¬ (0 ≤ v1 ∧ v1 ≤ s 146 3 - 1) → Q (some (jI (-2))) s) ∧ (0 ≤ v1 ∧ v1 ≤ s 146 3 - 1 → (jr32 v2 ∧ jr64 v2 ∧ ((1 ≤ v2 ∧ v2 ≤ 8 → kK mX11_left 34 [jR 143, jI v1, jU, jI (-1), jI (v2 - 1), jI 0] [] s Q) ∧ (¬ (1 ≤ v2 ∧ v2 ≤ 8) → Q (some (jI (-2))) s))))))) : kR mX11_left [jR 143, jI v1, jI v2] s Q := by
  show kK mX11_left 0 [jR 143, jI v1, jI v2, jU, jU, jU] [] s Q
  obtain ⟨a1, a2, v⟩ := v
  refine k_aload_n dX11_left_0 rfl ?_
  refine k_iconst dX11_left_1 ?_
  refine k_iload_n dX11_left_2 rfl ?_
  refine k_invV [jI 3, jI v1] [] dX11_left_3 cm_X11_is ml_X11_136 im_X11_is se_X11_is rfl sh_143 (by decide) rfl rfl (sp_X11_is s 3 v1 (by decide) a1 a2) ?_
  obtain ⟨vt, vf⟩ := v
  refine k_ifb_eq 21 dX11_left_6 rfl (fun c3 => ?_) (fun c3 => ?_)
  · have v := vt c3
    refine k_bipush dX11_left_21 rfl ?_
    exact k_ireturn (st := []) dX11_left_23 rfl v
  · have v := vf c3
    obtain ⟨a4, a5, v⟩ := v
    refine k_iload_n dX11_left_9 rfl ?_
    refine k_i2l dX11_left_10 a4 ?_
    refine k_lconst 1 dX11_left_11 rfl ?_
    refine k_ldc2 (8) (8) dX11_left_12 kl_X11_211 rfl ?_
    refine k_invS [jL v2, jL 1, jL 8] [] dX11_left_15 cm_X11_in ml_X11_120 st_X11_in rfl rfl (sp_X11_in s v2 1 8 a5 (by decide) (by decide)) ?_
    obtain ⟨vt, vf⟩ := v
    refine k_ifb_ne 24 dX11_left_18 rfl (fun c6 => ?_) (fun c6 => ?_)
    · have v := vt c6
      refine k_iconst dX11_left_24 ?_
      refine k_istore_n [jR 143, jI v1, jI v2, jI (-1), jU, jU] dX11_left_25 rfl rfl ?_
      refine k_iload_n dX11_left_26 rfl ?_
      refine k_iconst dX11_left_27 ?_
      refine k_isub dX11_left_28 ?_
      refine k_istore [jR 143, jI v1, jI v2, jI (-1), jI (v2 - 1), jU] dX11_left_29 rfl rfl ?_
      refine k_iconst dX11_left_31 ?_
      refine k_istore [jR 143, jI v1, jI v2, jI (-1), jI (v2 - 1), jI 0] dX11_left_32 rfl rfl ?_
      refine k_drop [jR 143, jI v1, jU, jI (-1), jI (v2 - 1), jI 0] ⟨Or.inr rfl, Or.inr rfl, Or.inl rfl, Or.inr rfl, Or.inr rfl, Or.inr rfl, trivial⟩ ?_
      exact v
    · have v := vf c6
      refine k_bipush dX11_left_21 rfl ?_
      exact k_ireturn (st := []) dX11_left_23 rfl v
theorem g_X11_left_34 {s : Int → Int → Int} {Q : Option jV → (Int → Int → Int) → Prop} {v1 v3 v4 v5 : Int} (v : (jr32 v5 ∧ jr32 (s 146 3) ∧ (((s 146 3) ≤ v5 → Q (some (jI v3)) s) ∧ (¬ ((s 146 3) ≤ v5) → ((0 ≤ v5 ∧ v5 < 30) ∧ (0 ≤ v1 ∧ v1 < 30) ∧ jr32 (s 152 v5) ∧ jr32 (s 152 v1) ∧ (((s 152 v5) ≠ (s 152 v1) → kK mX11_left 34 [jR 143, jI v1, jU, jI v3, jI v4, jI (v5 + 1)] [] s Q) ∧ ((s 152 v5) = (s 152 v1) → (jr32 (s 154 v5) ∧ jr32 (s 154 v1) ∧ (((s 154 v1) ≤ (s 154 v5) → kK mX11_left 34 [jR 143, jI v1, jU, jI v3, jI v4, jI (v5 + 1)] [] s Q) ∧ (¬ ((s 154 v1) ≤ (s 154 v5)) → ((DD s) ∧ (0 ≤ v1 ∧ v1 < s 146 3) ∧ (0 ≤ v5 ∧ v5 < s 146 3) ∧ (∀ (y15 : Int) (s16 : Int → Int → Int), (lrun s v1 v5 y15 ∧ s16 = s) → (jr32 y15 ∧ jr32 v4 ∧ ((y15 ≤ v4 → kK mX11_left 34 [jR 143, jI v1, jU, jI v3, jI v4, jI (v5 + 1)] [] s16 Q) ∧ (¬ (y15 ≤ v4) → ((DD s16) ∧ (0 ≤ v1 ∧ v1 < s16 146 3) ∧ (0 ≤ v5 ∧ v5 < s16 146 3) ∧ (∀ (y24 : Int) (s25 : Int → Int → Int), (lrun s16 v1 v5 y24 ∧ s25 = s16) → kK mX11_left 34 [jR 143, jI v1, jU, jI v5, jI y24, jI (v5 + 1)] [] s25 Q))))))))))))))))) : kK mX11_left 34 [jR 143, jI v1, jU, jI v3, jI v4, jI v5] [] s Q := by
  obtain ⟨a1, a2, v⟩ := v
  refine k_iload dX11_left_34 rfl ?_
  refine k_aload_n dX11_left_36 rfl ?_
  refine k_getr dX11_left_37 fl_X11_16 sh_143 (by decide) rfl ?_
  refine k_iconst dX11_left_40 ?_
  refine k_iald 6 dX11_left_41 sh_146 (by decide) rfl (by decide) (by decide) ?_
  obtain ⟨vt, vf⟩ := v
  refine k_icmp_ge 107 dX11_left_42 rfl a1 a2 (fun c3 => ?_) (fun c3 => ?_)
  · have v := vt c3
    refine k_iload_n dX11_left_107 rfl ?_
    exact k_ireturn (st := []) dX11_left_108 rfl v
  · have v := vf c3
    obtain ⟨a4, a5, a6, a7, v⟩ := v
    refine k_aload_n dX11_left_45 rfl ?_
    refine k_getr dX11_left_46 fl_X11_34 sh_143 (by decide) rfl ?_
    refine k_iload dX11_left_49 rfl ?_
    refine k_iald 30 dX11_left_51 sh_152 (by decide) rfl (by decide) a4 ?_
    refine k_aload_n dX11_left_52 rfl ?_
    refine k_getr dX11_left_53 fl_X11_34 sh_143 (by decide) rfl ?_
    refine k_iload_n dX11_left_56 rfl ?_
    refine k_iald 30 dX11_left_57 sh_152 (by decide) rfl (by decide) a5 ?_
    obtain ⟨vt, vf⟩ := v
    refine k_icmp_ne 101 dX11_left_58 rfl a6 a7 (fun c8 => ?_) (fun c8 => ?_)
    · have v := vt c8
      refine k_iinc [jR 143, jI v1, jU, jI v3, jI v4, jI (v5 + 1)] dX11_left_101 rfl rfl rfl ?_
      refine k_goto 34 dX11_left_104 rfl ?_
      exact v
    · have v := vf c8
      obtain ⟨a9, a10, v⟩ := v
      refine k_aload_n dX11_left_61 rfl ?_
      refine k_getr dX11_left_62 fl_X11_40 sh_143 (by decide) rfl ?_
      refine k_iload dX11_left_65 rfl ?_
      refine k_iald 30 dX11_left_67 sh_154 (by decide) rfl (by decide) a4 ?_
      refine k_aload_n dX11_left_68 rfl ?_
      refine k_getr dX11_left_69 fl_X11_40 sh_143 (by decide) rfl ?_
      refine k_iload_n dX11_left_72 rfl ?_
      refine k_iald 30 dX11_left_73 sh_154 (by decide) rfl (by decide) a5 ?_
      obtain ⟨vt, vf⟩ := v
      refine k_icmp_ge 101 dX11_left_74 rfl a9 a10 (fun c11 => ?_) (fun c11 => ?_)
      · have v := vt c11
        refine k_iinc [jR 143, jI v1, jU, jI v3, jI v4, jI (v5 + 1)] dX11_left_101 rfl rfl rfl ?_
        refine k_goto 34 dX11_left_104 rfl ?_
        exact v
      · have v := vf c11
        obtain ⟨a12, a13, a14, v⟩ := v
        refine k_aload_n dX11_left_77 rfl ?_
        refine k_iload_n dX11_left_78 rfl ?_
        refine k_iload dX11_left_79 rfl ?_
        refine k_invVR [jI v1, jI v5] [] dX11_left_81 cm_X11_runOf ml_X11_205 im_X11_runOf se_X11_runOf rfl sh_143 (by decide) rfl rfl (sp_X11_runOf s v1 v5 a12 a13 a14) (fun _ s16 q17 => ?_)
        obtain ⟨y15, rfl, q17⟩ := q17
        have v := v y15 s16 q17
        obtain ⟨a18, a19, v⟩ := v
        refine k_iload dX11_left_84 rfl ?_
        obtain ⟨vt, vf⟩ := v
        refine k_icmp_le 101 dX11_left_86 rfl a18 a19 (fun c20 => ?_) (fun c20 => ?_)
        · have v := vt c20
          refine k_iinc [jR 143, jI v1, jU, jI v3, jI v4, jI (v5 + 1)] dX11_left_101 rfl rfl rfl ?_
          refine k_goto 34 dX11_left_104 rfl ?_
          exact v
        · have v := vf c20
          obtain ⟨a21, a22, a23, v⟩ := v
          refine k_iload dX11_left_89 rfl ?_
          refine k_istore_n [jR 143, jI v1, jU, jI v5, jI v4, jI v5] dX11_left_91 rfl rfl ?_
          refine k_aload_n dX11_left_92 rfl ?_
          refine k_iload_n dX11_left_93 rfl ?_
          refine k_iload dX11_left_94 rfl ?_
          refine k_invVR [jI v1, jI v5] [] dX11_left_96 cm_X11_runOf ml_X11_205 im_X11_runOf se_X11_runOf rfl sh_143 (by decide) rfl rfl (sp_X11_runOf s16 v1 v5 a21 a22 a23) (fun _ s25 q26 => ?_)
          obtain ⟨y24, rfl, q26⟩ := q26
          have v := v y24 s25 q26
          refine k_istore [jR 143, jI v1, jU, jI v5, jI y24, jI v5] dX11_left_99 rfl rfl ?_
          refine k_iinc [jR 143, jI v1, jU, jI v5, jI y24, jI (v5 + 1)] dX11_left_101 rfl rfl rfl ?_
          refine k_goto 34 dX11_left_104 rfl ?_
          exact v
theorem sp_X11_likeOf (s0 : Int → Int → Int) (a b : Int) (h : DD s0) (ha : 0 ≤ a ∧ a < s0 146 3) (hb : 0 ≤ b ∧ b < s0 146 3) : kR mX11_likeOf [jR 143, jI a, jI b] s0 (fun r s' => ∃ y, r = some (jI y) ∧ y = lcz (fun t => s0 156 (8 * a + t)) (fun t => s0 156 (8 * b + t)) (s0 155 a) (s0 155 b) ∧ frm (fun k => k = 158) s0 s') := by
  obtain ⟨-, -, -, e3⟩ := h.cnt
  obtain ⟨-, -, -, fa⟩ := h.let ha.1 ha.2
  obtain ⟨-, -, -, fb⟩ := h.let hb.1 hb.2
  have tr : ∀ l i, 0 ≤ l → l < s0 146 3 → 0 ≤ i → i < s0 155 l → jr32 (s0 156 (8 * l + i)) := fun l i l0 l1 i0 i1 => by
    have := h.txt l0 l1 i0 i1
    have := h.cnt
    unfold jr32; omega
  refine g_X11_likeOf ?_
  generalize hA : (fun t => s0 156 (8 * a + t)) = A
  generalize hB : (fun t => s0 156 (8 * b + t)) = B
  have aA : ∀ i, s0 156 (8 * a + i) = A i := fun i => by rw [← hA]
  have aB : ∀ i, s0 156 (8 * b + i) = B i := fun i => by rw [← hB]
  have key : ∀ i, i ≤ s0 155 a + 1 → 0 ≤ i → ∀ s, frm (fun k => k = 158) s0 s → (∀ i' j', 0 ≤ i' → i' < i → 0 ≤ j' → j' ≤ s0 155 b → s 158 (9 * i' + j') = lcz A B i' j') → kK mX11_likeOf 2 [jR 143, jI a, jI b, jI i, jU, jU, jU] [] s (fun r s' => ∃ y, r = some (jI y) ∧ y = lcz A B (s0 155 a) (s0 155 b) ∧ frm (fun k => k = 158) s0 s') := by
    refine lp_up _ _ (fun i hi ih h0 s fs hc => ?_)
    have c155 : s 155 = s0 155 := fs 155 (by omega)
    refine g_X11_likeOf_2 ⟨by omega, by unfold jr32; omega, by rw [c155]; unfold jr32; omega, fun q => ?_, fun q => ?_⟩
    · rw [c155] at q
      rw [c155]
      exact ⟨by omega, by omega, _, rfl, hc _ _ (by omega) (by omega) (by omega) (by omega), fs⟩
    · rw [c155] at q
      have inner : ∀ j, j ≤ s0 155 b + 1 → 0 ≤ j → ∀ s, frm (fun k => k = 158) s0 s → (∀ i' j', 0 ≤ i' → (i' < i ∨ i' = i ∧ j' < j) → 0 ≤ j' → j' ≤ s0 155 b → s 158 (9 * i' + j') = lcz A B i' j') → kK mX11_likeOf 15 [jR 143, jI a, jI b, jI i, jI j, jU, jU] [] s (fun r s' => ∃ y, r = some (jI y) ∧ y = lcz A B (s0 155 a) (s0 155 b) ∧ frm (fun k => k = 158) s0 s') := by
        refine lp_up _ _ (fun j hj jh j0 s fs hc => ?_)
        have c155 : s 155 = s0 155 := fs 155 (by omega)
        have c156 : s 156 = s0 156 := fs 156 (by omega)
        refine g_X11_likeOf_15 ⟨by omega, by unfold jr32; omega, by rw [c155]; unfold jr32; omega, fun q2 => ?_, fun q2 => ?_⟩
        · rw [c155] at q2
          exact ih (by omega) (by omega) s fs (fun i' j' h1 h2 h3 h4 => hc i' j' h1 (by omega) h3 h4)
        · rw [c155] at q2
          have step : kK mX11_likeOf 15 [jR 143, jI a, jI b, jI i, jI (j + 1), jU, jU] [] (w2 s 158 (9 * i + j) (lcz A B i j)) (fun r s' => ∃ y, r = some (jI y) ∧ y = lcz A B (s0 155 a) (s0 155 b) ∧ frm (fun k => k = 158) s0 s') := by
            refine jh (by omega) (by omega) _ (fs.s2 rfl) (fun i' j' h1 h2 h3 h4 => ?_)
            by_cases e : i' = i ∧ j' = j
            · rw [e.1, e.2, w2_s]
            · rw [w2_i (by omega)]
              exact hc i' j' h1 (by omega) h3 h4
          refine ⟨by unfold jr32; omega, fun c => ?_, fun c => ⟨fun c2 => ?_, fun c2 => ?_⟩⟩
          · rw [lcz_0 (Or.inl (by omega))] at step
            exact ⟨by omega, step⟩
          · rw [lcz_0 (Or.inr (by omega))] at step
            exact ⟨by omega, step⟩
          · have r1 := hc (i - 1) j (by omega) (by omega) (by omega) (by omega)
            have r2 := hc i (j - 1) (by omega) (by omega) (by omega) (by omega)
            have r3 := hc (i - 1) (j - 1) (by omega) (by omega) (by omega) (by omega)
            have b1 := lcz_b (A := A) (B := B) (i := i - 1) (j := j) (by omega)
            have b2 := lcz_b (A := A) (B := B) (i := i) (j := j - 1) (by omega)
            rw [c156, show 8 * a + i - 1 = 8 * a + (i - 1) by omega, show 8 * b + j - 1 = 8 * b + (j - 1) by omega, show 9 * i + j - 9 = 9 * (i - 1) + j by omega, show 9 * i + j - 1 = 9 * i + (j - 1) by omega, show 9 * i + j - 10 = 9 * (i - 1) + (j - 1) by omega, r1, r2, r3]
            rw [lcz_s (A := A) (B := B) (i := i) (j := j) (by omega) (by omega)] at step
            refine ⟨by omega, by omega, tr a _ ha.1 ha.2 (by omega) (by omega), tr b _ hb.1 hb.2 (by omega) (by omega), fun c => ⟨by omega, by omega, by unfold jr32; omega, by unfold jr32; omega, by omega, ?_⟩, fun c => ⟨by omega, by omega, ?_⟩⟩
            · rw [aA, aB] at c
              rw [if_neg c] at step
              exact step
            · rw [aA, aB] at c
              rw [if_pos c] at step
              exact step
      exact inner 0 (by omega) (by omega) s fs (fun i' j' h1 h2 h3 h4 => hc i' j' h1 (by omega) h3 h4)
  exact key 0 (by omega) (by omega) s0 frm.rf (fun i' j' h1 h2 h3 h4 => by omega)
theorem g_X11_like {s : Int → Int → Int} {Q : Option jV → (Int → Int → Int) → Prop} {v1 v2 v3 : Int} (v : (jr32 v1 ∧ (0 ≤ s 146 3 ∧ s 146 3 ≤ 1000) ∧ ((¬ (0 ≤ v1 ∧ v1 ≤ s 146 3 - 1) → Q (some (jI (-2))) s) ∧ (0 ≤ v1 ∧ v1 ≤ s 146 3 - 1 → (jr32 v2 ∧ ((¬ (0 ≤ v2 ∧ v2 ≤ s 146 3 - 1) → Q (some (jI (-2))) s) ∧ (0 ≤ v2 ∧ v2 ≤ s 146 3 - 1 → ((v1 = v2 → Q (some (jI (-2))) s) ∧ (¬ (v1 = v2) → (jr32 v3 ∧ jr64 v3 ∧ ((0 ≤ v3 ∧ v3 ≤ 1 → ((v3 ≠ 0 → ((DD s) ∧ (0 ≤ v1 ∧ v1 < s 146 3) ∧ (0 ≤ v2 ∧ v2 < s 146 3) ∧ (∀ (y14 : Int) (s15 : Int → Int → Int), (y14 = lcz (fun t => s 156 (8 * v1 + t)) (fun t => s 156 (8 * v2 + t)) (s 155 v1) (s 155 v2) ∧ frm (fun k => k = 158) s s15) → Q (some (jI y14)) s15))) ∧ (v3 = 0 → ((DD s) ∧ (0 ≤ v1 ∧ v1 < s 146 3) ∧ (0 ≤ v2 ∧ v2 < s 146 3) ∧ (∀ (y20 : Int) (s21 : Int → Int → Int), (lrun s v1 v2 y20 ∧ s21 = s) → Q (some (jI y20)) s21))))) ∧ (¬ (0 ≤ v3 ∧ v3 ≤ 1) → Q (some (jI (-2))) s)))))))))))) : kR mX11_like [jR 143, jI v1, jI v2, jI v3] s Q := by
  show kK mX11_like 0 [jR 143, jI v1, jI v2, jI v3] [] s Q
  obtain ⟨a1, a2, v⟩ := v
  refine k_aload_n dX11_like_0 rfl ?_
  refine k_iconst dX11_like_1 ?_
  refine k_iload_n dX11_like_2 rfl ?_
  refine k_invV [jI 3, jI v1] [] dX11_like_3 cm_X11_is ml_X11_136 im_X11_is se_X11_is rfl sh_143 (by decide) rfl rfl (sp_X11_is s 3 v1 (by decide) a1 a2) ?_
  obtain ⟨vt, vf⟩ := v
  refine k_ifb_eq 33 dX11_like_6 rfl (fun c3 => ?_) (fun c3 => ?_)
  · have v := vt c3
    refine k_bipush dX11_like_33 rfl ?_
    exact k_ireturn (st := []) dX11_like_35 rfl v
  · have v := vf c3
    obtain ⟨a4, v⟩ := v
    refine k_aload_n dX11_like_9 rfl ?_
    refine k_iconst dX11_like_10 ?_
    refine k_iload_n dX11_like_11 rfl ?_
    refine k_invV [jI 3, jI v2] [] dX11_like_12 cm_X11_is ml_X11_136 im_X11_is se_X11_is rfl sh_143 (by decide) rfl rfl (sp_X11_is s 3 v2 (by decide) a4 a2) ?_
    obtain ⟨vt, vf⟩ := v
    refine k_ifb_eq 33 dX11_like_15 rfl (fun c5 => ?_) (fun c5 => ?_)
    · have v := vt c5
      refine k_bipush dX11_like_33 rfl ?_
      exact k_ireturn (st := []) dX11_like_35 rfl v
    · have v := vf c5
      refine k_iload_n dX11_like_18 rfl ?_
      refine k_iload_n dX11_like_19 rfl ?_
      obtain ⟨vt, vf⟩ := v
      refine k_icmp_eq 33 dX11_like_20 rfl a1 a4 (fun c6 => ?_) (fun c6 => ?_)
      · have v := vt c6
        refine k_bipush dX11_like_33 rfl ?_
        exact k_ireturn (st := []) dX11_like_35 rfl v
      · have v := vf c6
        obtain ⟨a7, a8, v⟩ := v
        refine k_iload_n dX11_like_23 rfl ?_
        refine k_i2l dX11_like_24 a7 ?_
        refine k_lconst 0 dX11_like_25 rfl ?_
        refine k_lconst 1 dX11_like_26 rfl ?_
        refine k_invS [jL v3, jL 0, jL 1] [] dX11_like_27 cm_X11_in ml_X11_120 st_X11_in rfl rfl (sp_X11_in s v3 0 1 a8 (by decide) (by decide)) ?_
        obtain ⟨vt, vf⟩ := v
        refine k_ifb_ne 36 dX11_like_30 rfl (fun c9 => ?_) (fun c9 => ?_)
        · have v := vt c9
          refine k_iload_n dX11_like_36 rfl ?_
          obtain ⟨vt, vf⟩ := v
          refine k_if_ne 49 dX11_like_37 rfl a7 (fun c10 => ?_) (fun c10 => ?_)
          · have v := vt c10
            obtain ⟨a11, a12, a13, v⟩ := v
            refine k_aload_n dX11_like_49 rfl ?_
            refine k_iload_n dX11_like_50 rfl ?_
            refine k_iload_n dX11_like_51 rfl ?_
            refine k_invVR [jI v1, jI v2] [] dX11_like_52 cm_X11_likeOf ml_X11_208 im_X11_likeOf se_X11_likeOf rfl sh_143 (by decide) rfl rfl (sp_X11_likeOf s v1 v2 a11 a12 a13) (fun _ s15 q16 => ?_)
            obtain ⟨y14, rfl, q16⟩ := q16
            have v := v y14 s15 q16
            exact k_ireturn (st := []) dX11_like_55 rfl v
          · have v := vf c10
            obtain ⟨a17, a18, a19, v⟩ := v
            refine k_aload_n dX11_like_40 rfl ?_
            refine k_iload_n dX11_like_41 rfl ?_
            refine k_iload_n dX11_like_42 rfl ?_
            refine k_invVR [jI v1, jI v2] [] dX11_like_43 cm_X11_runOf ml_X11_205 im_X11_runOf se_X11_runOf rfl sh_143 (by decide) rfl rfl (sp_X11_runOf s v1 v2 a17 a18 a19) (fun _ s21 q22 => ?_)
            obtain ⟨y20, rfl, q22⟩ := q22
            have v := v y20 s21 q22
            refine k_goto 55 dX11_like_46 rfl ?_
            exact k_ireturn (st := []) dX11_like_55 rfl v
        · have v := vf c9
          refine k_bipush dX11_like_33 rfl ?_
          exact k_ireturn (st := []) dX11_like_35 rfl v
