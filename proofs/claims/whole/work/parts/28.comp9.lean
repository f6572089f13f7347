theorem g_X9_takeLetter {s : Int → Int → Int} {Q : Option jV → (Int → Int → Int) → Prop} {x v2 : Int} (hs : jsh x = hI 10) (hx : 0 < x ∧ x ≤ 168) (v : kK mX9_takeLetter 2 [jR 83, jR x, jI v2, jI 0] [] s Q) : kR mX9_takeLetter [jR 83, jR x, jI v2] s Q := by
  show kK mX9_takeLetter 0 [jR 83, jR x, jI v2, jU] [] s Q
  refine k_iconst dX9_takeLetter_0 ?_
  refine k_istore_n [jR 83, jR x, jI v2, jI 0] dX9_takeLetter_1 rfl rfl ?_
  exact v
theorem g_X9_takeLetter_2 {s : Int → Int → Int} {Q : Option jV → (Int → Int → Int) → Prop} {v2 v3 x : Int} (hs : jsh x = hI 10) (hx : 0 < x ∧ x ≤ 168) (v : ((0 ≤ v2 ∧ v2 < 30) ∧ jr32 v3 ∧ jr32 (s 11 v2) ∧ (((s 11 v2) ≤ v3 → Q none s) ∧ (¬ ((s 11 v2) ≤ v3) → ((0 ≤ v3 ∧ v3 < 8) ∧ (0 ≤ (s (13 + v2) v3) ∧ (s (13 + v2) v3) < 8) ∧ (0 ≤ (s 3 (s (13 + v2) v3)) ∧ (s 3 (s (13 + v2) v3)) < 10) ∧ kK mX9_takeLetter 2 [jR 83, jR x, jI v2, jI (v3 + 1)] [] (w2 s x (s 3 (s (13 + v2) v3)) ((s x (s 3 (s (13 + v2) v3))) + 1)) Q))))) : kK mX9_takeLetter 2 [jR 83, jR x, jI v2, jI v3] [] s Q := by
  obtain ⟨a1, a2, a3, v⟩ := v
  refine k_iload_n dX9_takeLetter_2 rfl ?_
  refine k_aload_n dX9_takeLetter_3 rfl ?_
  refine k_getr dX9_takeLetter_4 fl_X9_18 sh_83 (by decide) rfl ?_
  refine k_getr dX9_takeLetter_7 fl_X9_43 sh_2 (by decide) rfl ?_
  refine k_iload_n dX9_takeLetter_10 rfl ?_
  refine k_iald 30 dX9_takeLetter_11 sh_11 (by decide) rfl (by decide) a1 ?_
  obtain ⟨vt, vf⟩ := v
  refine k_icmp_ge 46 dX9_takeLetter_12 rfl a2 a3 (fun c4 => ?_) (fun c4 => ?_)
  · have v := vt c4
    exact k_return (st := []) dX9_takeLetter_46 rfl v
  · have v := vf c4
    obtain ⟨a5, a6, a7, v⟩ := v
    refine k_aload_n dX9_takeLetter_15 rfl ?_
    refine k_aload_n dX9_takeLetter_16 rfl ?_
    refine k_getr dX9_takeLetter_17 fl_X9_18 sh_83 (by decide) rfl ?_
    refine k_getr dX9_takeLetter_20 fl_X9_46 sh_2 (by decide) rfl ?_
    refine k_aload_n dX9_takeLetter_23 rfl ?_
    refine k_getr dX9_takeLetter_24 fl_X9_18 sh_83 (by decide) rfl ?_
    refine k_getr dX9_takeLetter_27 fl_X9_49 sh_2 (by decide) rfl ?_
    refine k_iload_n dX9_takeLetter_30 rfl ?_
    refine k_aald 30 dX9_takeLetter_31 sh_12 (Or.inl rfl) (by decide) rfl (by decide) rfl a1 ?_
    refine k_iload_n dX9_takeLetter_32 rfl ?_
    refine k_iald 8 dX9_takeLetter_33 (sr_12 v2 a1) ⟨by have := a1; omega, by have := a1; omega⟩ rfl (by decide) a5 ?_
    refine k_iald 8 dX9_takeLetter_34 sh_3 (by decide) rfl (by decide) a6 ?_
    refine k_dup2 dX9_takeLetter_35 rfl ?_
    refine k_iald 10 dX9_takeLetter_36 hs hx rfl (by decide) a7 ?_
    refine k_iconst dX9_takeLetter_37 ?_
    refine k_iadd dX9_takeLetter_38 ?_
    refine k_iast 10 dX9_takeLetter_39 hs hx rfl (by decide) a7 ?_
    refine k_iinc [jR 83, jR x, jI v2, jI (v3 + 1)] dX9_takeLetter_40 rfl rfl rfl ?_
    refine k_goto 2 dX9_takeLetter_43 rfl ?_
    exact v
theorem g_X9_wordsUpTo {s : Int → Int → Int} {Q : Option jV → (Int → Int → Int) → Prop} {x v2 : Int} (hs : jsh x = hI 10) (hx : 0 < x ∧ x ≤ 168) (v : kK mX9_wordsUpTo 5 [jU, jR x, jI v2, jI 0, jI 0] [] s Q) : kR mX9_wordsUpTo [jR 83, jR x, jI v2] s Q := by
  show kK mX9_wordsUpTo 0 [jR 83, jR x, jI v2, jU, jU] [] s Q
  refine k_iconst dX9_wordsUpTo_0 ?_
  refine k_istore_n [jR 83, jR x, jI v2, jI 0, jU] dX9_wordsUpTo_1 rfl rfl ?_
  refine k_iconst dX9_wordsUpTo_2 ?_
  refine k_istore [jR 83, jR x, jI v2, jI 0, jI 0] dX9_wordsUpTo_3 rfl rfl ?_
  refine k_drop [jU, jR x, jI v2, jI 0, jI 0] ⟨Or.inl rfl, Or.inr rfl, Or.inr rfl, Or.inr rfl, Or.inr rfl, trivial⟩ ?_
  exact v
theorem g_X9_wordsUpTo_5 {s : Int → Int → Int} {Q : Option jV → (Int → Int → Int) → Prop} {v2 v3 v4 x : Int} (hs : jsh x = hI 10) (hx : 0 < x ∧ x ≤ 168) (v : (jr32 v4 ∧ jr32 v2 ∧ ((v2 < v4 → Q (some (jI v3)) s) ∧ (¬ (v2 < v4) → ((10 ≤ v4 → Q (some (jI v3)) s) ∧ (¬ (10 ≤ v4) → ((0 ≤ v4 ∧ v4 < 10) ∧ kK mX9_wordsUpTo 5 [jU, jR x, jI v2, jI (v3 + (s x v4)), jI (v4 + 1)] [] s Q))))))) : kK mX9_wordsUpTo 5 [jU, jR x, jI v2, jI v3, jI v4] [] s Q := by
  obtain ⟨a1, a2, v⟩ := v
  refine k_iload dX9_wordsUpTo_5 rfl ?_
  refine k_iload_n dX9_wordsUpTo_7 rfl ?_
  obtain ⟨vt, vf⟩ := v
  refine k_icmp_gt 31 dX9_wordsUpTo_8 rfl a1 a2 (fun c3 => ?_) (fun c3 => ?_)
  · have v := vt c3
    refine k_iload_n dX9_wordsUpTo_31 rfl ?_
    exact k_ireturn (st := []) dX9_wordsUpTo_32 rfl v
  · have v := vf c3
    refine k_iload dX9_wordsUpTo_11 rfl ?_
    refine k_aload_n dX9_wordsUpTo_13 rfl ?_
    refine k_alenI 10 dX9_wordsUpTo_14 hs hx rfl ?_
    obtain ⟨vt, vf⟩ := v
    refine k_icmp_ge 31 dX9_wordsUpTo_15 rfl a1 (by decide) (fun c4 => ?_) (fun c4 => ?_)
    · have v := vt c4
      refine k_iload_n dX9_wordsUpTo_31 rfl ?_
      exact k_ireturn (st := []) dX9_wordsUpTo_32 rfl v
    · have v := vf c4
      obtain ⟨a5, v⟩ := v
      refine k_iload_n dX9_wordsUpTo_18 rfl ?_
      refine k_aload_n dX9_wordsUpTo_19 rfl ?_
      refine k_iload dX9_wordsUpTo_20 rfl ?_
      refine k_iald 10 dX9_wordsUpTo_22 hs hx rfl (by decide) a5 ?_
      refine k_iadd dX9_wordsUpTo_23 ?_
      refine k_istore_n [jU, jR x, jI v2, jI (v3 + (s x v4)), jI v4] dX9_wordsUpTo_24 rfl rfl ?_
      refine k_iinc [jU, jR x, jI v2, jI (v3 + (s x v4)), jI (v4 + 1)] dX9_wordsUpTo_25 rfl rfl rfl ?_
      refine k_goto 5 dX9_wordsUpTo_28 rfl ?_
      exact v
theorem g_X9_sumOfRanks {s : Int → Int → Int} {Q : Option jV → (Int → Int → Int) → Prop} {x : Int} (hs : jsh x = hI 10) (hx : 0 < x ∧ x ≤ 168) (v : kK mX9_sumOfRanks 4 [jU, jR x, jI 0, jI 0] [] s Q) : kR mX9_sumOfRanks [jR 83, jR x] s Q := by
  show kK mX9_sumOfRanks 0 [jR 83, jR x, jU, jU] [] s Q
  refine k_iconst dX9_sumOfRanks_0 ?_
  refine k_istore_n [jR 83, jR x, jI 0, jU] dX9_sumOfRanks_1 rfl rfl ?_
  refine k_iconst dX9_sumOfRanks_2 ?_
  refine k_istore_n [jR 83, jR x, jI 0, jI 0] dX9_sumOfRanks_3 rfl rfl ?_
  refine k_drop [jU, jR x, jI 0, jI 0] ⟨Or.inl rfl, Or.inr rfl, Or.inr rfl, Or.inr rfl, trivial⟩ ?_
  exact v
theorem g_X9_sumOfRanks_4 {s : Int → Int → Int} {Q : Option jV → (Int → Int → Int) → Prop} {v2 v3 x : Int} (hs : jsh x = hI 10) (hx : 0 < x ∧ x ≤ 168) (v : (jr32 v3 ∧ ((10 ≤ v3 → Q (some (jI v2)) s) ∧ (¬ (10 ≤ v3) → ((0 ≤ v3 ∧ v3 < 10) ∧ kK mX9_sumOfRanks 4 [jU, jR x, jI (v2 + (v3 * (s x v3))), jI (v3 + 1)] [] s Q))))) : kK mX9_sumOfRanks 4 [jU, jR x, jI v2, jI v3] [] s Q := by
  obtain ⟨a1, v⟩ := v
  refine k_iload_n dX9_sumOfRanks_4 rfl ?_
  refine k_aload_n dX9_sumOfRanks_5 rfl ?_
  refine k_alenI 10 dX9_sumOfRanks_6 hs hx rfl ?_
  obtain ⟨vt, vf⟩ := v
  refine k_icmp_ge 24 dX9_sumOfRanks_7 rfl a1 (by decide) (fun c2 => ?_) (fun c2 => ?_)
  · have v := vt c2
    refine k_iload_n dX9_sumOfRanks_24 rfl ?_
    exact k_ireturn (st := []) dX9_sumOfRanks_25 rfl v
  · have v := vf c2
    obtain ⟨a3, v⟩ := v
    refine k_iload_n dX9_sumOfRanks_10 rfl ?_
    refine k_iload_n dX9_sumOfRanks_11 rfl ?_
    refine k_aload_n dX9_sumOfRanks_12 rfl ?_
    refine k_iload_n dX9_sumOfRanks_13 rfl ?_
    refine k_iald 10 dX9_sumOfRanks_14 hs hx rfl (by decide) a3 ?_
    refine k_imul dX9_sumOfRanks_15 ?_
    refine k_iadd dX9_sumOfRanks_16 ?_
    refine k_istore_n [jU, jR x, jI (v2 + (v3 * (s x v3))), jI v3] dX9_sumOfRanks_17 rfl rfl ?_
    refine k_iinc [jU, jR x, jI (v2 + (v3 * (s x v3))), jI (v3 + 1)] dX9_sumOfRanks_18 rfl rfl rfl ?_
    refine k_goto 4 dX9_sumOfRanks_21 rfl ?_
    exact v
def tky (s : Int → Int → Int) (x l n : Int) : Int → Int → Int := fun k i => if k = x then s k i + sg n (fun j => jbo (s 147 (s 156 (8 * l + j)) = i)) else s k i
theorem sp_X9_takeLetter (s : Int → Int → Int) (x l : Int) (h : DD s) (hl : 0 ≤ l ∧ l < s 146 3) (hd : 84 ≤ x ∧ x ≤ 85) (hs : jsh x = hI 10) (hx : 0 < x ∧ x ≤ 168) : kM mX9_takeLetter [jR 83, jR x, jI l] s none (tky s x l (s 155 l)) := by
  obtain ⟨e0, e1, e2, e3⟩ := h.cnt
  obtain ⟨-, -, -, f4⟩ := h.let hl.1 hl.2
  refine g_X9_takeLetter hs hx ?_
  have key : ∀ j, j ≤ s 155 l → 0 ≤ j → kK mX9_takeLetter 2 [jR 83, jR x, jI l, jI j] [] (tky s x l j) (fun r s' => r = none ∧ s' = tky s x l (s 155 l)) := by
    refine lp_up _ _ (fun j hj ih j0 => ?_)
    have k : ∀ k, k ≠ x → tky s x l j k = s k := fun k hk => by
      funext i
      unfold tky
      rw [if_neg hk]
    refine g_X9_takeLetter_2 hs hx ?_
    rw [k 11 (by omega), k (13 + l) (by omega), k 3 (by omega)]
    refine ⟨by omega, by unfold jr32; omega, by unfold jr32; omega, fun q => ⟨rfl, by rw [show j = s 155 l by omega]⟩, fun q => ?_⟩
    obtain ⟨t1, t2, t3⟩ := h.txt hl.1 hl.2 j0 (by omega)
    obtain ⟨w1, -⟩ := h.wrd t2 t3
    rw [t1, w1.1]
    refine ⟨by omega, by omega, by omega, ?_⟩
    have e : w2 (tky s x l j) x (s 147 (s 156 (8 * l + j))) (tky s x l j x (s 147 (s 156 (8 * l + j))) + 1) = tky s x l (j + 1) := by
      funext k2 i
      by_cases c : k2 = x
      · subst c
        have u : ∀ n i, tky s k2 l n k2 i = s k2 i + sg n (fun j => jbo (s 147 (s 156 (8 * l + j)) = i)) := fun n i => by
          unfold tky
          rw [if_pos rfl]
        rw [w2_e, u, u, u, sg_s j0]
        by_cases d : i = s 147 (s 156 (8 * l + j))
        · rw [if_pos d, jbo_t d.symm, d]; omega
        · rw [if_neg d, jbo_f (fun q => d q.symm)]; omega
      · rw [w2_k c, k k2 c]
        unfold tky
        rw [if_neg c]
    rw [e]
    exact ih (by omega) (by omega)
  have := key 0 (by omega) (by omega)
  have e : tky s x l 0 = s := by
    funext k i
    unfold tky
    rw [sg_0]
    by_cases c : k = x
    · rw [if_pos c]; omega
    · rw [if_neg c]
  rw [e] at this
  exact this
theorem sp_X9_wordsUpTo (s : Int → Int → Int) (x w : Int) (hw : 0 ≤ w ∧ w ≤ 9) (hs : jsh x = hI 10) (hx : 0 < x ∧ x ≤ 168) : kM mX9_wordsUpTo [jR 83, jR x, jI w] s (some (jI (sg (w + 1) (s x)))) s := by
  refine g_X9_wordsUpTo hs hx ?_
  have key : ∀ i, i ≤ w + 1 → 0 ≤ i → kK mX9_wordsUpTo 5 [jU, jR x, jI w, jI (sg i (s x)), jI i] [] s (fun r s' => r = some (jI (sg (w + 1) (s x))) ∧ s' = s) := by
    refine lp_up _ _ (fun i hi ih i0 => ?_)
    refine g_X9_wordsUpTo_5 hs hx ⟨by unfold jr32; omega, by unfold jr32; omega, fun q => ⟨by rw [show i = w + 1 by omega], rfl⟩, fun q => ⟨fun q2 => by omega, fun q2 => ⟨by omega, ?_⟩⟩⟩
    have := ih (by omega) (by omega)
    rw [sg_s i0] at this
    exact this
  exact key 0 (by omega) (by omega)
theorem sp_X9_sumOfRanks (s : Int → Int → Int) (x : Int) (hs : jsh x = hI 10) (hx : 0 < x ∧ x ≤ 168) : kM mX9_sumOfRanks [jR 83, jR x] s (some (jI (sg 10 (fun r => r * s x r)))) s := by
  refine g_X9_sumOfRanks hs hx ?_
  have key : ∀ i, i ≤ 10 → 0 ≤ i → kK mX9_sumOfRanks 4 [jU, jR x, jI (sg i (fun r => r * s x r)), jI i] [] s (fun r s' => r = some (jI (sg 10 (fun r => r * s x r))) ∧ s' = s) := by
    refine lp_up _ _ (fun i hi ih i0 => ?_)
    refine g_X9_sumOfRanks_4 hs hx ⟨by unfold jr32; omega, fun q => ⟨by rw [show i = 10 by omega], rfl⟩, fun q => ⟨by omega, ?_⟩⟩
    have := ih (by omega) (by omega)
    rw [sg_s i0] at this
    exact this
  exact key 0 (by omega) (by omega)
theorem g_X9_take {s : Int → Int → Int} {Q : Option jV → (Int → Int → Int) → Prop} {x v2 v3 : Int} (hs : jsh x = hI 10) (hx : 0 < x ∧ x ≤ 168) (v : kK mX9_take 8 [jR 83, jR x, jI v2, jI v3, jI 0, jU] [] (fl s x 10 0) Q) : kR mX9_take [jR 83, jR x, jI v2, jI v3] s Q := by
  show kK mX9_take 0 [jR 83, jR x, jI v2, jI v3, jU, jU] [] s Q
  refine k_aload_n dX9_take_0 rfl ?_
  refine k_iconst dX9_take_1 ?_
  refine k_invS [jR x, jI 0] [] dX9_take_2 cm_J7_fill_53178 ml_X9_22 st_J7_fill_53178 rfl rfl (sp_J7_fill 10 s x 0 hs hx rfl (by decide)) ?_
  refine k_iconst dX9_take_5 ?_
  refine k_istore [jR 83, jR x, jI v2, jI v3, jI 0, jU] dX9_take_6 rfl rfl ?_
  exact v
theorem g_X9_take_8 {s : Int → Int → Int} {Q : Option jV → (Int → Int → Int) → Prop} {v2 v3 v4 x : Int} (hs : jsh x = hI 10) (hx : 0 < x ∧ x ≤ 168) (v : (jr32 v4 ∧ jr32 (s 2 13) ∧ (((s 2 13) ≤ v4 → Q none s) ∧ (¬ ((s 2 13) ≤ v4) → (jr32 v3 ∧ ((v3 = (-1) → ((0 ≤ v4 ∧ v4 < 30) ∧ jr32 (s 10 v4) ∧ jr32 v2 ∧ (((s 10 v4) ≠ v2 → kK mX9_take 8 [jR 83, jR x, jI v2, jI v3, jI (v4 + 1), jU] [] s Q) ∧ ((s 10 v4) = v2 → ((DD s) ∧ (0 ≤ v4 ∧ v4 < s 146 3) ∧ (84 ≤ x ∧ x ≤ 85) ∧ kK mX9_take 8 [jR 83, jR x, jI v2, jI v3, jI (v4 + 1), jU] [] (tky s x v4 (s 155 v4)) Q))))) ∧ (¬ (v3 = (-1)) → ((0 ≤ v4 ∧ v4 < 30) ∧ jr32 (s 8 v4) ∧ (((s 8 v4) ≠ v3 → kK mX9_take 8 [jR 83, jR x, jI v2, jI v3, jI (v4 + 1), jU] [] s Q) ∧ ((s 8 v4) = v3 → (jr32 (s 10 v4) ∧ jr32 v2 ∧ (((s 10 v4) ≠ v2 → kK mX9_take 8 [jR 83, jR x, jI v2, jI v3, jI (v4 + 1), jU] [] s Q) ∧ ((s 10 v4) = v2 → ((DD s) ∧ (0 ≤ v4 ∧ v4 < s 146 3) ∧ (84 ≤ x ∧ x ≤ 85) ∧ kK mX9_take 8 [jR 83, jR x, jI v2, jI v3, jI (v4 + 1), jU] [] (tky s x v4 (s 155 v4)) Q)))))))))))))) : kK mX9_take 8 [jR 83, jR x, jI v2, jI v3, jI v4, jU] [] s Q := by
  obtain ⟨a1, a2, v⟩ := v
  refine k_iload dX9_take_8 rfl ?_
  refine k_aload_n dX9_take_10 rfl ?_
  refine k_getr dX9_take_11 fl_X9_18 sh_83 (by decide) rfl ?_
  refine k_geti 13 dX9_take_14 fl_X9_28 sh_2 (by decide) rfl rfl ?_
  obtain ⟨vt, vf⟩ := v
  refine k_icmp_ge 78 dX9_take_17 rfl a1 a2 (fun c3 => ?_) (fun c3 => ?_)
  · have v := vt c3
    exact k_return (st := []) dX9_take_78 rfl v
  · have v := vf c3
    obtain ⟨a4, v⟩ := v
    refine k_iload_n dX9_take_20 rfl ?_
    refine k_iconst dX9_take_21 ?_
    obtain ⟨vt, vf⟩ := v
    refine k_icmp_eq 39 dX9_take_22 rfl a4 (by decide) (fun c5 => ?_) (fun c5 => ?_)
    · have v := vt c5
      obtain ⟨a6, a7, a8, v⟩ := v
      refine k_iconst dX9_take_39 ?_
      refine k_goto 44 dX9_take_40 rfl ?_
      refine k_istore [jR 83, jR x, jI v2, jI v3, jI v4, jI 1] dX9_take_44 rfl rfl ?_
      refine k_iload dX9_take_46 rfl ?_
      refine k_if_eq 72 dX9_take_48 rfl (by decide) (fun c => absurd c (by decide)) (fun _ => ?_)
      refine k_aload_n dX9_take_51 rfl ?_
      refine k_getr dX9_take_52 fl_X9_18 sh_83 (by decide) rfl ?_
      refine k_getr dX9_take_55 fl_X9_37 sh_2 (by decide) rfl ?_
      refine k_iload dX9_take_58 rfl ?_
      refine k_iald 30 dX9_take_60 sh_10 (by decide) rfl (by decide) a6 ?_
      refine k_iload_n dX9_take_61 rfl ?_
      obtain ⟨vt, vf⟩ := v
      refine k_icmp_ne 72 dX9_take_62 rfl a7 a8 (fun c9 => ?_) (fun c9 => ?_)
      · have v := vt c9
        refine k_iinc [jR 83, jR x, jI v2, jI v3, jI (v4 + 1), jI 1] dX9_take_72 rfl rfl rfl ?_
        refine k_goto 8 dX9_take_75 rfl ?_
        refine k_drop [jR 83, jR x, jI v2, jI v3, jI (v4 + 1), jU] ⟨Or.inr rfl, Or.inr rfl, Or.inr rfl, Or.inr rfl, Or.inr rfl, Or.inl rfl, trivial⟩ ?_
        exact v
      · have v := vf c9
        obtain ⟨a10, a11, a12, v⟩ := v
        refine k_aload_n dX9_take_65 rfl ?_
        refine k_aload_n dX9_take_66 rfl ?_
        refine k_iload dX9_take_67 rfl ?_
        refine k_invV [jR x, jI v4] [] dX9_take_69 cm_X9_takeLetter ml_X9_40 im_X9_takeLetter se_X9_takeLetter rfl sh_83 (by decide) rfl rfl (sp_X9_takeLetter s x v4 a10 a11 a12 hs hx) ?_
        refine k_iinc [jR 83, jR x, jI v2, jI v3, jI (v4 + 1), jI 1] dX9_take_72 rfl rfl rfl ?_
        refine k_goto 8 dX9_take_75 rfl ?_
        refine k_drop [jR 83, jR x, jI v2, jI v3, jI (v4 + 1), jU] ⟨Or.inr rfl, Or.inr rfl, Or.inr rfl, Or.inr rfl, Or.inr rfl, Or.inl rfl, trivial⟩ ?_
        exact v
    · have v := vf c5
      obtain ⟨a13, a14, v⟩ := v
      refine k_aload_n dX9_take_25 rfl ?_
      refine k_getr dX9_take_26 fl_X9_18 sh_83 (by decide) rfl ?_
      refine k_getr dX9_take_29 fl_X9_34 sh_2 (by decide) rfl ?_
      refine k_iload dX9_take_32 rfl ?_
      refine k_iald 30 dX9_take_34 sh_8 (by decide) rfl (by decide) a13 ?_
      refine k_iload_n dX9_take_35 rfl ?_
      obtain ⟨vt, vf⟩ := v
      refine k_icmp_ne 43 dX9_take_36 rfl a14 a4 (fun c15 => ?_) (fun c15 => ?_)
      · have v := vt c15
        refine k_iconst dX9_take_43 ?_
        refine k_istore [jR 83, jR x, jI v2, jI v3, jI v4, jI 0] dX9_take_44 rfl rfl ?_
        refine k_iload dX9_take_46 rfl ?_
        refine k_if_eq 72 dX9_take_48 rfl (by decide) (fun _ => ?_) (fun c => absurd c (by decide))
        refine k_iinc [jR 83, jR x, jI v2, jI v3, jI (v4 + 1), jI 0] dX9_take_72 rfl rfl rfl ?_
        refine k_goto 8 dX9_take_75 rfl ?_
        refine k_drop [jR 83, jR x, jI v2, jI v3, jI (v4 + 1), jU] ⟨Or.inr rfl, Or.inr rfl, Or.inr rfl, Or.inr rfl, Or.inr rfl, Or.inl rfl, trivial⟩ ?_
        exact v
      · have v := vf c15
        obtain ⟨a16, a17, v⟩ := v
        refine k_iconst dX9_take_39 ?_
        refine k_goto 44 dX9_take_40 rfl ?_
        refine k_istore [jR 83, jR x, jI v2, jI v3, jI v4, jI 1] dX9_take_44 rfl rfl ?_
        refine k_iload dX9_take_46 rfl ?_
        refine k_if_eq 72 dX9_take_48 rfl (by decide) (fun c => absurd c (by decide)) (fun _ => ?_)
        refine k_aload_n dX9_take_51 rfl ?_
        refine k_getr dX9_take_52 fl_X9_18 sh_83 (by decide) rfl ?_
        refine k_getr dX9_take_55 fl_X9_37 sh_2 (by decide) rfl ?_
        refine k_iload dX9_take_58 rfl ?_
        refine k_iald 30 dX9_take_60 sh_10 (by decide) rfl (by decide) a13 ?_
        refine k_iload_n dX9_take_61 rfl ?_
        obtain ⟨vt, vf⟩ := v
        refine k_icmp_ne 72 dX9_take_62 rfl a16 a17 (fun c18 => ?_) (fun c18 => ?_)
        · have v := vt c18
          refine k_iinc [jR 83, jR x, jI v2, jI v3, jI (v4 + 1), jI 1] dX9_take_72 rfl rfl rfl ?_
          refine k_goto 8 dX9_take_75 rfl ?_
          refine k_drop [jR 83, jR x, jI v2, jI v3, jI (v4 + 1), jU] ⟨Or.inr rfl, Or.inr rfl, Or.inr rfl, Or.inr rfl, Or.inr rfl, Or.inl rfl, trivial⟩ ?_
          exact v
        · have v := vf c18
          obtain ⟨a19, a20, a21, v⟩ := v
          refine k_aload_n dX9_take_65 rfl ?_
          refine k_aload_n dX9_take_66 rfl ?_
          refine k_iload dX9_take_67 rfl ?_
          refine k_invV [jR x, jI v4] [] dX9_take_69 cm_X9_takeLetter ml_X9_40 im_X9_takeLetter se_X9_takeLetter rfl sh_83 (by decide) rfl rfl (sp_X9_takeLetter s x v4 a19 a20 a21 hs hx) ?_
          refine k_iinc [jR 83, jR x, jI v2, jI v3, jI (v4 + 1), jI 1] dX9_take_72 rfl rfl rfl ?_
          refine k_goto 8 dX9_take_75 rfl ?_
          refine k_drop [jR 83, jR x, jI v2, jI v3, jI (v4 + 1), jU] ⟨Or.inr rfl, Or.inr rfl, Or.inr rfl, Or.inr rfl, Or.inr rfl, Or.inl rfl, trivial⟩ ?_
          exact v
/-- how many words of a rank stand in the first letters of a year (and hand, −1: any) -/
def ycp (s : Int → Int → Int) (n y h r : Int) : Int := sg n (fun l => if s 154 l = y ∧ (h = -1 ∨ s 152 l = h) then sg (s 155 l) (fun j => jbo (s 147 (s 156 (8 * l + j)) = r)) else 0)
def yc (s : Int → Int → Int) (y h r : Int) : Int := ycp s (s 146 3) y h r
theorem sp_X9_take (s0 : Int → Int → Int) (x y h : Int) (d : DD s0) (hy : jr32 y) (hh : jr32 h) (hd : 84 ≤ x ∧ x ≤ 85) (hs : jsh x = hI 10) (hx : 0 < x ∧ x ≤ 168) : kR mX9_take [jR 83, jR x, jI y, jI h] s0 (fun r s' => r = none ∧ frm (fun k => k = x) s0 s' ∧ ∀ i, 0 ≤ i → i < 10 → s' x i = yc s0 y h i) := by
  obtain ⟨e0, e1, e2, e3⟩ := d.cnt
  refine g_X9_take hs hx ?_
  have key : ∀ n, n ≤ s0 146 3 → 0 ≤ n → ∀ s, frm (fun k => k = x) s0 s → (∀ i, 0 ≤ i → i < 10 → s x i = ycp s0 n y h i) → kK mX9_take 8 [jR 83, jR x, jI y, jI h, jI n, jU] [] s (fun r s' => r = none ∧ frm (fun k => k = x) s0 s' ∧ ∀ i, 0 ≤ i → i < 10 → s' x i = yc s0 y h i) := by
    refine lp_up _ _ (fun n hn ih n0 s fs hc => ?_)
    have c : ∀ k, (k < 84 ∨ 85 < k) → s k = s0 k := fun k hk => fs k (by omega)
    refine g_X9_take_8 hs hx ?_
    rw [c 2 (by omega), c 8 (by omega), c 10 (by omega), c 146 (by omega), c 155 (by omega)]
    refine ⟨by unfold jr32; omega, by unfold jr32; omega, fun q => ⟨rfl, fs, fun i i0 i1 => by rw [hc i i0 i1]; unfold yc; rw [show s0 146 3 = n by omega]⟩, fun q => ?_⟩
    obtain ⟨f1, f2, f3, f4⟩ := d.let n0 (by omega)
    rw [f1.1, f3.1]
    have no : ¬ (s0 154 n = y ∧ (h = -1 ∨ s0 152 n = h)) → kK mX9_take 8 [jR 83, jR x, jI y, jI h, jI (n + 1), jU] [] s (fun r s' => r = none ∧ frm (fun k => k = x) s0 s' ∧ ∀ i, 0 ≤ i → i < 10 → s' x i = yc s0 y h i) := fun p => by
      refine ih (by omega) (by omega) s fs (fun i i0 i1 => ?_)
      rw [hc i i0 i1]
      unfold ycp
      rw [sg_s n0, if_neg p, Int.add_zero]
    have yes : (s0 154 n = y ∧ (h = -1 ∨ s0 152 n = h)) → (DD s ∧ (0 ≤ n ∧ n < s0 146 3) ∧ (84 ≤ x ∧ x ≤ 85) ∧ kK mX9_take 8 [jR 83, jR x, jI y, jI h, jI (n + 1), jU] [] (tky s x n (s0 155 n)) (fun r s' => r = none ∧ frm (fun k => k = x) s0 s' ∧ ∀ i, 0 ≤ i → i < 10 → s' x i = yc s0 y h i)) := fun p => by
      refine ⟨d.fr (fun k hk => c k (by omega)), by omega, hd, ih (by omega) (by omega) _ (fun k hk => ?_) (fun i i0 i1 => ?_)⟩
      · funext j
        unfold tky
        rw [if_neg hk, fs k hk]
      · unfold tky
        rw [if_pos rfl, hc i i0 i1, c 147 (by omega), c 156 (by omega)]
        unfold ycp
        rw [sg_s n0, if_pos p]
    refine ⟨hh, fun a => ⟨by omega, by unfold jr32; omega, hy, fun b => no (fun q => b q.1), fun b => yes ⟨b, Or.inl a⟩⟩, fun a => ⟨by omega, by unfold jr32; omega, fun b => no (fun q => q.2.elim a b), fun b => ⟨by unfold jr32; omega, hy, fun e => no (fun q => e q.1), fun e => yes ⟨e, Or.inr b⟩⟩⟩⟩
  exact key 0 (by omega) (by omega) _ (fun k hk => fl_k hk) (fun i i0 i1 => by rw [fl_s i0 i1]; exact (sg_0 _).symm)
theorem g_X9_rankInSecond {s : Int → Int → Int} {Q : Option jV → (Int → Int → Int) → Prop} {v1 : Int} (v : ((0 ≤ v1 ∧ v1 ≤ 9) ∧ kK mX9_rankInSecond 36 [jR 83, jU, jI (sg (v1 + 1) (s 84)), jI (sg (9 + 1) (s 84)), jI (sg (9 + 1) (s 85)), jI 0] [] s Q)) : kR mX9_rankInSecond [jR 83, jI v1] s Q := by
  show kK mX9_rankInSecond 0 [jR 83, jI v1, jU, jU, jU, jU] [] s Q
  obtain ⟨a1, v⟩ := v
  refine k_aload_n dX9_rankInSecond_0 rfl ?_
  refine k_aload_n dX9_rankInSecond_1 rfl ?_
  refine k_getr dX9_rankInSecond_2 fl_X9_9 sh_83 (by decide) rfl ?_
  refine k_iload_n dX9_rankInSecond_5 rfl ?_
  refine k_invV [jR 84, jI v1] [] dX9_rankInSecond_6 cm_X9_wordsUpTo ml_X9_53 im_X9_wordsUpTo se_X9_wordsUpTo rfl sh_83 (by decide) rfl rfl (sp_X9_wordsUpTo s 84 v1 a1 sh_84 (by decide)) ?_
  refine k_istore_n [jR 83, jI v1, jI (sg (v1 + 1) (s 84)), jU, jU, jU] dX9_rankInSecond_9 rfl rfl ?_
  refine k_aload_n dX9_rankInSecond_10 rfl ?_
  refine k_aload_n dX9_rankInSecond_11 rfl ?_
  refine k_getr dX9_rankInSecond_12 fl_X9_9 sh_83 (by decide) rfl ?_
  refine k_bipush dX9_rankInSecond_15 rfl ?_
  refine k_invV [jR 84, jI 9] [] dX9_rankInSecond_17 cm_X9_wordsUpTo ml_X9_53 im_X9_wordsUpTo se_X9_wordsUpTo rfl sh_83 (by decide) rfl rfl (sp_X9_wordsUpTo s 84 9 (by decide) sh_84 (by decide)) ?_
  refine k_istore_n [jR 83, jI v1, jI (sg (v1 + 1) (s 84)), jI (sg (9 + 1) (s 84)), jU, jU] dX9_rankInSecond_20 rfl rfl ?_
  refine k_aload_n dX9_rankInSecond_21 rfl ?_
  refine k_aload_n dX9_rankInSecond_22 rfl ?_
  refine k_getr dX9_rankInSecond_23 fl_X9_15 sh_83 (by decide) rfl ?_
  refine k_bipush dX9_rankInSecond_26 rfl ?_
  refine k_invV [jR 85, jI 9] [] dX9_rankInSecond_28 cm_X9_wordsUpTo ml_X9_53 im_X9_wordsUpTo se_X9_wordsUpTo rfl sh_83 (by decide) rfl rfl (sp_X9_wordsUpTo s 85 9 (by decide) sh_85 (by decide)) ?_
  refine k_istore [jR 83, jI v1, jI (sg (v1 + 1) (s 84)), jI (sg (9 + 1) (s 84)), jI (sg (9 + 1) (s 85)), jU] dX9_rankInSecond_31 rfl rfl ?_
  refine k_iconst dX9_rankInSecond_33 ?_
  refine k_istore [jR 83, jI v1, jI (sg (v1 + 1) (s 84)), jI (sg (9 + 1) (s 84)), jI (sg (9 + 1) (s 85)), jI 0] dX9_rankInSecond_34 rfl rfl ?_
  refine k_drop [jR 83, jU, jI (sg (v1 + 1) (s 84)), jI (sg (9 + 1) (s 84)), jI (sg (9 + 1) (s 85)), jI 0] ⟨Or.inr rfl, Or.inl rfl, Or.inr rfl, Or.inr rfl, Or.inr rfl, Or.inr rfl, trivial⟩ ?_
  exact v
theorem g_X9_rankInSecond_36 {s : Int → Int → Int} {Q : Option jV → (Int → Int → Int) → Prop} {v2 v3 v4 v5 : Int} (v : (jr32 v5 ∧ ((9 ≤ v5 → Q (some (jI v5)) s) ∧ (¬ (9 ≤ v5) → ((0 ≤ v5 ∧ v5 ≤ 9) ∧ jr32 ((sg (v5 + 1) (s 85)) * v3) ∧ jr32 (v2 * v4) ∧ (((v2 * v4) ≤ ((sg (v5 + 1) (s 85)) * v3) → Q (some (jI v5)) s) ∧ (¬ ((v2 * v4) ≤ ((sg (v5 + 1) (s 85)) * v3)) → kK mX9_rankInSecond 36 [jR 83, jU, jI v2, jI v3, jI v4, jI (v5 + 1)] [] s Q))))))) : kK mX9_rankInSecond 36 [jR 83, jU, jI v2, jI v3, jI v4, jI v5] [] s Q := by
  obtain ⟨a1, v⟩ := v
  refine k_iload dX9_rankInSecond_36 rfl ?_
  refine k_bipush dX9_rankInSecond_38 rfl ?_
  obtain ⟨vt, vf⟩ := v
  refine k_icmp_ge 68 dX9_rankInSecond_40 rfl a1 (by decide) (fun c2 => ?_) (fun c2 => ?_)
  · have v := vt c2
    refine k_iload dX9_rankInSecond_68 rfl ?_
    exact k_ireturn (st := []) dX9_rankInSecond_70 rfl v
  · have v := vf c2
    obtain ⟨a3, a4, a5, v⟩ := v
    refine k_aload_n dX9_rankInSecond_43 rfl ?_
    refine k_aload_n dX9_rankInSecond_44 rfl ?_
    refine k_getr dX9_rankInSecond_45 fl_X9_15 sh_83 (by decide) rfl ?_
    refine k_iload dX9_rankInSecond_48 rfl ?_
    refine k_invV [jR 85, jI v5] [] dX9_rankInSecond_50 cm_X9_wordsUpTo ml_X9_53 im_X9_wordsUpTo se_X9_wordsUpTo rfl sh_83 (by decide) rfl rfl (sp_X9_wordsUpTo s 85 v5 a3 sh_85 (by decide)) ?_
    refine k_iload_n dX9_rankInSecond_53 rfl ?_
    refine k_imul dX9_rankInSecond_54 ?_
    refine k_iload_n dX9_rankInSecond_55 rfl ?_
    refine k_iload dX9_rankInSecond_56 rfl ?_
    refine k_imul dX9_rankInSecond_58 ?_
    obtain ⟨vt, vf⟩ := v
    refine k_icmp_ge 68 dX9_rankInSecond_59 rfl a4 a5 (fun c6 => ?_) (fun c6 => ?_)
    · have v := vt c6
      refine k_iload dX9_rankInSecond_68 rfl ?_
      exact k_ireturn (st := []) dX9_rankInSecond_70 rfl v
    · have v := vf c6
      refine k_iinc [jR 83, jU, jI v2, jI v3, jI v4, jI (v5 + 1)] dX9_rankInSecond_62 rfl rfl rfl ?_
      refine k_goto 36 dX9_rankInSecond_65 rfl ?_
      exact v
theorem sp_X9_rankInSecond (s : Int → Int → Int) (r : Int) (hr : 0 ≤ r ∧ r ≤ 9) (h1 : ∀ k, 0 ≤ k → k ≤ 10 → 0 ≤ sg k (s 84) ∧ sg k (s 84) ≤ 240) (h2 : ∀ k, 0 ≤ k → k ≤ 10 → 0 ≤ sg k (s 85) ∧ sg k (s 85) ≤ 240) : kR mX9_rankInSecond [jR 83, jI r] s (fun r' s' => ∃ y, r' = some (jI y) ∧ fstk 10 (fun v => v = 9 ∨ sg (r + 1) (s 84) * sg 10 (s 85) ≤ sg (v + 1) (s 85) * sg 10 (s 84)) y ∧ s' = s) := by
  refine g_X9_rankInSecond ⟨hr, ?_⟩
  rw [show (9 + 1 : Int) = 10 by omega]
  have pr : ∀ a b : Int, 0 ≤ a → a ≤ 240 → 0 ≤ b → b ≤ 240 → jr32 (a * b) := fun a b a0 a1 b0 b1 => by
    have x := Int.mul_nonneg a0 b0
    have y := Int.mul_le_mul a1 b1 b0 (by omega : (0 : Int) ≤ 240)
    unfold jr32; omega
  have q1 := h1 10 (by omega) (by omega)
  have q2 := h2 10 (by omega) (by omega)
  have q3 := h1 (r + 1) (by omega) (by omega)
  have key : ∀ v, v ≤ 9 → 0 ≤ v → (∀ k, 0 ≤ k → k < v → ¬ (k = 9 ∨ sg (r + 1) (s 84) * sg 10 (s 85) ≤ sg (k + 1) (s 85) * sg 10 (s 84))) → kK mX9_rankInSecond 36 [jR 83, jU, jI (sg (r + 1) (s 84)), jI (sg 10 (s 84)), jI (sg 10 (s 85)), jI v] [] s (fun r' s' => ∃ y, r' = some (jI y) ∧ fstk 10 (fun v => v = 9 ∨ sg (r + 1) (s 84) * sg 10 (s 85) ≤ sg (v + 1) (s 85) * sg 10 (s 84)) y ∧ s' = s) := by
    refine lp_up _ _ (fun v hv ih v0 hn => ?_)
    have q4 := h2 (v + 1) (by omega) (by omega)
    refine g_X9_rankInSecond_36 ⟨by unfold jr32; omega, fun q => ⟨v, rfl, Or.inr ⟨v0, by omega, Or.inl (by omega), hn⟩, rfl⟩, fun q => ⟨by omega, pr _ _ q4.1 q4.2 q1.1 q1.2, pr _ _ q3.1 q3.2 q2.1 q2.2, fun c => ⟨v, rfl, Or.inr ⟨v0, by omega, Or.inr c, hn⟩, rfl⟩, fun c => ih (by omega) (by omega) (fun k k0 k1 p => ?_)⟩⟩
    by_cases e : k = v
    · subst e
      exact p.elim (fun p => by omega) c
    · exact hn k k0 (by omega) p
  exact key 0 (by omega) (by omega) (fun k k0 k1 => by omega)
