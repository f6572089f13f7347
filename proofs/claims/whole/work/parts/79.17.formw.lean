theorem g_X4_hundreds {s : Int → Int → Int} {Q : Option jV → (Int → Int → Int) → Prop} {v0 : Int} (v : kK mX4_hundreds 4 [jI v0, jL 1, jU, jI 0] [] s Q) : kR mX4_hundreds [jI v0] s Q := by
  show kK mX4_hundreds 0 [jI v0, jU, jU, jU] [] s Q
  refine k_lconst 1 dX4_hundreds_0 rfl ?_
  refine k_lstore_n [jI v0, jL 1, jU, jU] dX4_hundreds_1 rfl rfl ?_
  refine k_iconst dX4_hundreds_2 ?_
  refine k_istore_n [jI v0, jL 1, jU, jI 0] dX4_hundreds_3 rfl rfl ?_
  exact v
theorem g_X4_hundreds_4 {s : Int → Int → Int} {Q : Option jV → (Int → Int → Int) → Prop} {v0 v1 v3 : Int} (v : (jr32 v3 ∧ jr32 v0 ∧ ((v0 ≤ v3 → Q (some (jL v1)) s) ∧ (¬ (v0 ≤ v3) → kK mX4_hundreds 4 [jI v0, jL (v1 * 100), jU, jI (v3 + 1)] [] s Q)))) : kK mX4_hundreds 4 [jI v0, jL v1, jU, jI v3] [] s Q := by
  obtain ⟨a1, a2, v⟩ := v
  refine k_iload_n dX4_hundreds_4 rfl ?_
  refine k_iload_n dX4_hundreds_5 rfl ?_
  obtain ⟨vt, vf⟩ := v
  refine k_icmp_ge 21 dX4_hundreds_6 rfl a1 a2 (fun c3 => ?_) (fun c3 => ?_)
  · have v := vt c3
    refine k_lload_n dX4_hundreds_21 rfl ?_
    exact k_lreturn (st := []) dX4_hundreds_22 rfl v
  · have v := vf c3
    refine k_lload_n dX4_hundreds_9 rfl ?_
    refine k_ldc2 (100) (100) dX4_hundreds_10 kl_X4_52 rfl ?_
    refine k_lmul dX4_hundreds_13 ?_
    refine k_lstore_n [jI v0, jL (v1 * 100), jU, jI v3] dX4_hundreds_14 rfl rfl ?_
    refine k_iinc [jI v0, jL (v1 * 100), jU, jI (v3 + 1)] dX4_hundreds_15 rfl rfl rfl ?_
    refine k_goto 4 dX4_hundreds_18 rfl ?_
    exact v
theorem g_X4_ask {s : Int → Int → Int} {Q : Option jV → (Int → Int → Int) → Prop} {v1 v2 : Int} (v : kK mX4_ask 2 [jR 124, jI v1, jI v2, jI 0, jU] [] s Q) : kR mX4_ask [jR 124, jI v1, jI v2] s Q := by
  show kK mX4_ask 0 [jR 124, jI v1, jI v2, jU, jU] [] s Q
  refine k_iconst dX4_ask_0 ?_
  refine k_istore_n [jR 124, jI v1, jI v2, jI 0, jU] dX4_ask_1 rfl rfl ?_
  exact v
theorem g_X4_ask_2 {s : Int → Int → Int} {Q : Option jV → (Int → Int → Int) → Prop} {v1 v2 v3 : Int} (v : (jr32 v3 ∧ ((4 ≤ v3 → Q none s) ∧ (¬ (4 ≤ v3) → kK mX4_ask 10 [jR 124, jI v1, jI v2, jI v3, jI 0] [] s Q)))) : kK mX4_ask 2 [jR 124, jI v1, jI v2, jI v3, jU] [] s Q := by
  obtain ⟨a1, v⟩ := v
  refine k_iload_n dX4_ask_2 rfl ?_
  refine k_iconst dX4_ask_3 ?_
  obtain ⟨vt, vf⟩ := v
  refine k_icmp_ge 82 dX4_ask_4 rfl a1 (by decide) (fun c2 => ?_) (fun c2 => ?_)
  · have v := vt c2
    exact k_return (st := []) dX4_ask_82 rfl v
  · have v := vf c2
    refine k_iconst dX4_ask_7 ?_
    refine k_istore [jR 124, jI v1, jI v2, jI v3, jI 0] dX4_ask_8 rfl rfl ?_
    exact v
theorem g_X4_ask_10 {s : Int → Int → Int} {Q : Option jV → (Int → Int → Int) → Prop} {v1 v2 v3 v4 : Int} (v : (jr32 v4 ∧ jr32 v2 ∧ ((v2 ≤ v4 → kK mX4_ask 2 [jR 124, jI v1, jI v2, jI (v3 + 1), jU] [] s Q) ∧ (¬ (v2 ≤ v4) → ((0 ≤ v3 ∧ v3 < 4) ∧ (0 ≤ v4 ∧ v4 < 64) ∧ (0 ≤ v1 ∧ v1 < 6) ∧ jr32 (s (127 + v1) v3) ∧ (0 ≤ (v2 + v4) ∧ (v2 + v4) < 64) ∧ jr32 (100 - (s (127 + v1) v3)) ∧ kK mX4_ask 10 [jR 124, jI v1, jI v2, jI v3, jI (v4 + 1)] [] (w2 (w2 s (134 + v3) (v2 + v4) ((s (134 + v3) v4) * (s (127 + v1) v3))) (134 + v3) v4 (((w2 s (134 + v3) (v2 + v4) ((s (134 + v3) v4) * (s (127 + v1) v3))) (134 + v3) v4) * (100 - (s (127 + v1) v3)))) Q))))) : kK mX4_ask 10 [jR 124, jI v1, jI v2, jI v3, jI v4] [] s Q := by
  obtain ⟨a1, a2, v⟩ := v
  refine k_iload dX4_ask_10 rfl ?_
  refine k_iload_n dX4_ask_12 rfl ?_
  obtain ⟨vt, vf⟩ := v
  refine k_icmp_ge 76 dX4_ask_13 rfl a1 a2 (fun c3 => ?_) (fun c3 => ?_)
  · have v := vt c3
    refine k_iinc [jR 124, jI v1, jI v2, jI (v3 + 1), jI v4] dX4_ask_76 rfl rfl rfl ?_
    refine k_goto 2 dX4_ask_79 rfl ?_
    refine k_drop [jR 124, jI v1, jI v2, jI (v3 + 1), jU] ⟨Or.inr rfl, Or.inr rfl, Or.inr rfl, Or.inr rfl, Or.inl rfl, trivial⟩ ?_
    exact v
  · have v := vf c3
    obtain ⟨a4, a5, a6, a7, a8, a9, v⟩ := v
    refine k_aload_n dX4_ask_16 rfl ?_
    refine k_getr dX4_ask_17 fl_X4_22 sh_124 (by decide) rfl ?_
    refine k_iload_n dX4_ask_20 rfl ?_
    refine k_aald 4 dX4_ask_21 sh_133 (Or.inr (Or.inl rfl)) (by decide) rfl (by decide) rfl a4 ?_
    refine k_iload_n dX4_ask_22 rfl ?_
    refine k_iload dX4_ask_23 rfl ?_
    refine k_iadd dX4_ask_25 ?_
    refine k_aload_n dX4_ask_26 rfl ?_
    refine k_getr dX4_ask_27 fl_X4_22 sh_124 (by decide) rfl ?_
    refine k_iload_n dX4_ask_30 rfl ?_
    refine k_aald 4 dX4_ask_31 sh_133 (Or.inr (Or.inl rfl)) (by decide) rfl (by decide) rfl a4 ?_
    refine k_iload dX4_ask_32 rfl ?_
    refine k_lald 64 dX4_ask_34 (sr_133 v3 a4) ⟨by have := a4; omega, by have := a4; omega⟩ rfl (by decide) a5 ?_
    refine k_aload_n dX4_ask_35 rfl ?_
    refine k_getr dX4_ask_36 fl_X4_17 sh_124 (by decide) rfl ?_
    refine k_iload_n dX4_ask_39 rfl ?_
    refine k_aald 6 dX4_ask_40 sh_126 (Or.inl rfl) (by decide) rfl (by decide) rfl a6 ?_
    refine k_iload_n dX4_ask_41 rfl ?_
    refine k_iald 4 dX4_ask_42 (sr_126 v1 a6) ⟨by have := a6; omega, by have := a6; omega⟩ rfl (by decide) a4 ?_
    refine k_i2l dX4_ask_43 a7 ?_
    refine k_lmul dX4_ask_44 ?_
    refine k_last 64 dX4_ask_45 (sr_133 v3 a4) ⟨by have := a4; omega, by have := a4; omega⟩ rfl (by decide) a8 ?_
    refine k_aload_n dX4_ask_46 rfl ?_
    refine k_getr dX4_ask_47 fl_X4_22 sh_124 (by decide) rfl ?_
    refine k_iload_n dX4_ask_50 rfl ?_
    refine k_aald 4 dX4_ask_51 sh_133 (Or.inr (Or.inl rfl)) (by decide) rfl (by decide) rfl a4 ?_
    refine k_iload dX4_ask_52 rfl ?_
    refine k_dup2 dX4_ask_54 rfl ?_
    refine k_lald 64 dX4_ask_55 (sr_133 v3 a4) ⟨by have := a4; omega, by have := a4; omega⟩ rfl (by decide) a5 ?_
    refine k_bipush dX4_ask_56 rfl ?_
    refine k_aload_n dX4_ask_58 rfl ?_
    refine k_getr dX4_ask_59 fl_X4_17 sh_124 (by decide) rfl ?_
    refine k_iload_n dX4_ask_62 rfl ?_
    refine k_aald 6 dX4_ask_63 sh_126 (Or.inl rfl) (by decide) rfl (by decide) rfl a6 ?_
    refine k_iload_n dX4_ask_64 rfl ?_
    refine k_iald 4 dX4_ask_65 (sr_126 v1 a6) ⟨by have := a6; omega, by have := a6; omega⟩ rfl (by decide) a4 ?_
    rw [show ((w2 s (134 + v3) (v2 + v4) ((s (134 + v3) v4) * (s (127 + v1) v3))) (127 + v1) v3) = (s (127 + v1) v3) from by rw [w2_k (by omega)]]
    refine k_isub dX4_ask_66 ?_
    refine k_i2l dX4_ask_67 a9 ?_
    refine k_lmul dX4_ask_68 ?_
    refine k_last 64 dX4_ask_69 (sr_133 v3 a4) ⟨by have := a4; omega, by have := a4; omega⟩ rfl (by decide) a5 ?_
    refine k_iinc [jR 124, jI v1, jI v2, jI v3, jI (v4 + 1)] dX4_ask_70 rfl rfl rfl ?_
    refine k_goto 10 dX4_ask_73 rfl ?_
    exact v
theorem sp_X4_hundreds (s : Int → Int → Int) (n : Int) (h : 0 ≤ n ∧ n ≤ 6) : kM mX4_hundreds [jI n] s (some (jL (100 ^ n.toNat))) s := by
  refine g_X4_hundreds ?_
  have key : ∀ i, i ≤ n → 0 ≤ i → kK mX4_hundreds 4 [jI n, jL (100 ^ i.toNat), jU, jI i] [] s (fun r s' => r = some (jL (100 ^ n.toNat)) ∧ s' = s) := by
    refine lp_up _ _ (fun i hi ih i0 => ?_)
    refine g_X4_hundreds_4 ⟨by unfold jr32; omega, by unfold jr32; omega, fun q => ⟨by rw [show i = n by omega], rfl⟩, fun q => ?_⟩
    have := ih (by omega) (by omega)
    rw [show (i + 1).toNat = i.toNat + 1 by omega, Int.pow_succ] at this
    exact this
  exact key 0 (by omega) (by omega)
def anP (k : Int) : Prop := 134 ≤ k ∧ k ≤ 137
theorem sp_X4_ask (s : Int → Int → Int) (a R : Int) (ha : 0 ≤ a ∧ a < 6) (hR : 1 ≤ R ∧ R + R ≤ 64) (hy : ∀ g, 0 ≤ g → g < 4 → 0 ≤ s (127 + a) g ∧ s (127 + a) g ≤ 100) : kR mX4_ask [jR 124, jI a, jI R] s (fun o s' => o = none ∧ frm anP s s' ∧ ∀ g, 0 ≤ g → g < 4 → ∀ row, 0 ≤ row → row < R → s' (134 + g) row = s (134 + g) row * (100 - s (127 + a) g) ∧ s' (134 + g) (R + row) = s (134 + g) row * s (127 + a) g) := by
  refine g_X4_ask ?_
  have key : ∀ g, g ≤ 4 → 0 ≤ g → ∀ s1, frm anP s s1 → (∀ g', 0 ≤ g' → g' < g → ∀ row, 0 ≤ row → row < R → s1 (134 + g') row = s (134 + g') row * (100 - s (127 + a) g') ∧ s1 (134 + g') (R + row) = s (134 + g') row * s (127 + a) g') → (∀ g', g ≤ g' → g' < 4 → s1 (134 + g') = s (134 + g')) → kK mX4_ask 2 [jR 124, jI a, jI R, jI g, jU] [] s1 (fun o s' => o = none ∧ frm anP s s' ∧ ∀ g, 0 ≤ g → g < 4 → ∀ row, 0 ≤ row → row < R → s' (134 + g) row = s (134 + g) row * (100 - s (127 + a) g) ∧ s' (134 + g) (R + row) = s (134 + g) row * s (127 + a) g) := by
    refine lp_up 4 _ (fun g hg ih g0 s1 f1 d1 u1 => ?_)
    refine g_X4_ask_2 ⟨by unfold jr32; omega, fun q => ⟨rfl, f1, fun g' a1 a2 => d1 g' a1 (by omega)⟩, fun q => ?_⟩
    have inner : ∀ r, r ≤ R → 0 ≤ r → ∀ s2, frm (fun k => k = 134 + g) s1 s2 → (∀ row, 0 ≤ row → row < r → s2 (134 + g) row = s (134 + g) row * (100 - s (127 + a) g) ∧ s2 (134 + g) (R + row) = s (134 + g) row * s (127 + a) g) → (∀ row, r ≤ row → row < R → s2 (134 + g) row = s (134 + g) row) → kK mX4_ask 10 [jR 124, jI a, jI R, jI g, jI r] [] s2 (fun o s' => o = none ∧ frm anP s s' ∧ ∀ g, 0 ≤ g → g < 4 → ∀ row, 0 ≤ row → row < R → s' (134 + g) row = s (134 + g) row * (100 - s (127 + a) g) ∧ s' (134 + g) (R + row) = s (134 + g) row * s (127 + a) g) := by
      refine lp_up _ _ (fun r hr jh r0 s2 f2 d2 u2 => ?_)
      have fs : frm anP s s2 := fun k hk => by
        unfold anP at hk
        rw [f2 k (by omega), f1 k (by unfold anP; omega)]
      have c127 : s2 (127 + a) = s (127 + a) := fs _ (by unfold anP; omega)
      refine g_X4_ask_10 ?_
      rw [c127]
      have y := hy g g0 (by omega)
      refine ⟨by unfold jr32; omega, by unfold jr32; omega, fun q2 => ?_, fun q2 => ⟨by omega, by omega, ha, by unfold jr32; omega, by omega, by unfold jr32; omega, ?_⟩⟩
      · refine ih (by omega) (by omega) s2 fs (fun g' a1 a2 row b1 b2 => ?_) (fun g' a1 a2 => by rw [f2 _ (by omega)]; exact u1 g' (by omega) a2)
        by_cases e : g' = g
        · rw [e]; exact d2 row b1 (by omega)
        · rw [f2 (134 + g') (by omega)]; exact d1 g' a1 (by omega) row b1 b2
      · rw [w2_i (show r ≠ R + r by omega), u2 r (Int.le_refl _) (by omega)]
        refine jh (by omega) (by omega) _ ((f2.s2 rfl).s2 rfl) (fun row b1 b2 => ?_) (fun row b1 b2 => ?_)
        · by_cases e : row = r
          · rw [e, w2_s, w2_i (by omega), w2_s]
            exact ⟨rfl, rfl⟩
          · rw [w2_i (by omega), w2_i (by omega), w2_i (by omega), w2_i (by omega)]
            exact d2 row b1 (by omega)
        · rw [w2_i (by omega), w2_i (by omega)]
          exact u2 row (by omega) b2
    exact inner 0 (by omega) (by omega) s1 frm.rf (fun row b1 b2 => by omega) (fun row b1 b2 => by rw [u1 g (Int.le_refl _) (by omega)])
  exact key 0 (by omega) (by omega) s frm.rf (fun g' a1 a2 => by omega) (fun g' _ _ => rfl)
theorem g_X4_guessedRight {s : Int → Int → Int} {Q : Option jV → (Int → Int → Int) → Prop} {v1 : Int} (v : kK mX4_guessedRight 4 [jR 124, jI v1, jI 1, jI 0, jU, jU, jU, jU, jU] [] s Q) : kR mX4_guessedRight [jR 124, jI v1] s Q := by
  show kK mX4_guessedRight 0 [jR 124, jI v1, jU, jU, jU, jU, jU, jU, jU] [] s Q
  refine k_iconst dX4_guessedRight_0 ?_
  refine k_istore_n [jR 124, jI v1, jI 1, jU, jU, jU, jU, jU, jU] dX4_guessedRight_1 rfl rfl ?_
  refine k_iconst dX4_guessedRight_2 ?_
  refine k_istore_n [jR 124, jI v1, jI 1, jI 0, jU, jU, jU, jU, jU] dX4_guessedRight_3 rfl rfl ?_
  exact v
theorem g_X4_guessedRight_4 {s : Int → Int → Int} {Q : Option jV → (Int → Int → Int) → Prop} {v1 v2 v3 : Int} (v : (jr32 v3 ∧ ((4 ≤ v3 → kK mX4_guessedRight 32 [jR 124, jI v1, jI v2, jI 0, jU, jU, jU, jU, jU] [] s Q) ∧ (¬ (4 ≤ v3) → ((0 ≤ v3 ∧ v3 < 4) ∧ jr32 (s 70 v3) ∧ kK mX4_guessedRight 4 [jR 124, jI v1, jI v2, jI (v3 + 1), jU, jU, jU, jU, jU] [] (w2 s (134 + v3) 0 (s 70 v3)) Q))))) : kK mX4_guessedRight 4 [jR 124, jI v1, jI v2, jI v3, jU, jU, jU, jU, jU] [] s Q := by
  obtain ⟨a1, v⟩ := v
  refine k_iload_n dX4_guessedRight_4 rfl ?_
  refine k_iconst dX4_guessedRight_5 ?_
  obtain ⟨vt, vf⟩ := v
  refine k_icmp_ge 30 dX4_guessedRight_6 rfl a1 (by decide) (fun c2 => ?_) (fun c2 => ?_)
  · have v := vt c2
    refine k_iconst dX4_guessedRight_30 ?_
    refine k_istore_n [jR 124, jI v1, jI v2, jI 0, jU, jU, jU, jU, jU] dX4_guessedRight_31 rfl rfl ?_
    exact v
  · have v := vf c2
    obtain ⟨a3, a4, v⟩ := v
    refine k_aload_n dX4_guessedRight_9 rfl ?_
    refine k_getr dX4_guessedRight_10 fl_X4_22 sh_124 (by decide) rfl ?_
    refine k_iload_n dX4_guessedRight_13 rfl ?_
    refine k_aald 4 dX4_guessedRight_14 sh_133 (Or.inr (Or.inl rfl)) (by decide) rfl (by decide) rfl a3 ?_
    refine k_iconst dX4_guessedRight_15 ?_
    refine k_aload_n dX4_guessedRight_16 rfl ?_
    refine k_getr dX4_guessedRight_17 fl_X4_25 sh_124 (by decide) rfl ?_
    refine k_iload_n dX4_guessedRight_20 rfl ?_
    refine k_iald 4 dX4_guessedRight_21 sh_70 (by decide) rfl (by decide) a3 ?_
    refine k_i2l dX4_guessedRight_22 a4 ?_
    refine k_last 64 dX4_guessedRight_23 (sr_133 v3 a3) ⟨by have := a3; omega, by have := a3; omega⟩ rfl (by decide) (by decide) ?_
    refine k_iinc [jR 124, jI v1, jI v2, jI (v3 + 1), jU, jU, jU, jU, jU] dX4_guessedRight_24 rfl rfl rfl ?_
    refine k_goto 4 dX4_guessedRight_27 rfl ?_
    exact v
theorem g_X4_guessedRight_32 {s : Int → Int → Int} {Q : Option jV → (Int → Int → Int) → Prop} {v1 v2 v3 : Int} (v : (jr32 v3 ∧ jr32 (s 124 3) ∧ (((s 124 3) ≤ v3 → kK mX4_guessedRight 70 [jR 124, jU, jI v2, jL 0, jU, jI 0, jU, jU, jU] [] s Q) ∧ (¬ ((s 124 3) ≤ v3) → ((0 ≤ v3 ∧ v3 ≤ 31) ∧ jr32 v1 ∧ jr32 ((v1 / 2 ^ Int.toNat v3) % 2) ∧ ((((v1 / 2 ^ Int.toNat v3) % 2) ≠ 1 → kK mX4_guessedRight 32 [jR 124, jI v1, jI v2, jI (v3 + 1), jU, jU, jU, jU, jU] [] s Q) ∧ (((v1 / 2 ^ Int.toNat v3) % 2) = 1 → ((0 ≤ v3 ∧ v3 < 6) ∧ (1 ≤ v2 ∧ v2 + v2 ≤ 64) ∧ (∀ g, 0 ≤ g → g < 4 → 0 ≤ s (127 + v3) g ∧ s (127 + v3) g ≤ 100) ∧ (∀ (s12 : Int → Int → Int), (frm anP s s12 ∧ ∀ g, 0 ≤ g → g < 4 → ∀ row, 0 ≤ row → row < v2 → s12 (134 + g) row = s (134 + g) row * (100 - s (127 + v3) g) ∧ s12 (134 + g) (v2 + row) = s (134 + g) row * s (127 + v3) g) → kK mX4_guessedRight 32 [jR 124, jI v1, jI (v2 * 2), jI (v3 + 1), jU, jU, jU, jU, jU] [] s12 Q))))))))) : kK mX4_guessedRight 32 [jR 124, jI v1, jI v2, jI v3, jU, jU, jU, jU, jU] [] s Q := by
  obtain ⟨a1, a2, v⟩ := v
  refine k_iload_n dX4_guessedRight_32 rfl ?_
  refine k_aload_n dX4_guessedRight_33 rfl ?_
  refine k_geti 3 dX4_guessedRight_34 fl_X4_28 sh_124 (by decide) rfl rfl ?_
  obtain ⟨vt, vf⟩ := v
  refine k_icmp_ge 65 dX4_guessedRight_37 rfl a1 a2 (fun c3 => ?_) (fun c3 => ?_)
  · have v := vt c3
    refine k_lconst 0 dX4_guessedRight_65 rfl ?_
    refine k_lstore_n [jR 124, jI v1, jI v2, jL 0, jU, jU, jU, jU, jU] dX4_guessedRight_66 rfl rfl ?_
    refine k_iconst dX4_guessedRight_67 ?_
    refine k_istore [jR 124, jI v1, jI v2, jL 0, jU, jI 0, jU, jU, jU] dX4_guessedRight_68 rfl rfl ?_
    refine k_drop [jR 124, jU, jI v2, jL 0, jU, jI 0, jU, jU, jU] ⟨Or.inr rfl, Or.inl rfl, Or.inr rfl, Or.inr rfl, Or.inr rfl, Or.inr rfl, Or.inr rfl, Or.inr rfl, Or.inr rfl, trivial⟩ ?_
    exact v
  · have v := vf c3
    obtain ⟨a4, a5, a6, v⟩ := v
    refine k_iload_n dX4_guessedRight_40 rfl ?_
    refine k_iload_n dX4_guessedRight_41 rfl ?_
    refine k_shr dX4_guessedRight_42 a5 a4 ?_
    refine k_iconst dX4_guessedRight_43 ?_
    refine k_and1 dX4_guessedRight_44 ?_
    refine k_iconst dX4_guessedRight_45 ?_
    obtain ⟨vt, vf⟩ := v
    refine k_icmp_ne 59 dX4_guessedRight_46 rfl a6 (by decide) (fun c7 => ?_) (fun c7 => ?_)
    · have v := vt c7
      refine k_iinc [jR 124, jI v1, jI v2, jI (v3 + 1), jU, jU, jU, jU, jU] dX4_guessedRight_59 rfl rfl rfl ?_
      refine k_goto 32 dX4_guessedRight_62 rfl ?_
      exact v
    · have v := vf c7
      obtain ⟨a8, a9, a10, v⟩ := v
      refine k_aload_n dX4_guessedRight_49 rfl ?_
      refine k_iload_n dX4_guessedRight_50 rfl ?_
      refine k_iload_n dX4_guessedRight_51 rfl ?_
      refine k_invVR [jI v3, jI v2] [] dX4_guessedRight_52 cm_X4_ask ml_X4_32 im_X4_ask se_X4_ask rfl sh_124 (by decide) rfl rfl (sp_X4_ask s v3 v2 a8 a9 a10) (fun _ s12 q13 => ?_)
      obtain ⟨rfl, q13⟩ := q13
      have v := v s12 q13
      refine k_iload_n dX4_guessedRight_55 rfl ?_
      refine k_iconst dX4_guessedRight_56 ?_
      refine k_imul dX4_guessedRight_57 ?_
      refine k_istore_n [jR 124, jI v1, jI (v2 * 2), jI v3, jU, jU, jU, jU, jU] dX4_guessedRight_58 rfl rfl ?_
      refine k_iinc [jR 124, jI v1, jI (v2 * 2), jI (v3 + 1), jU, jU, jU, jU, jU] dX4_guessedRight_59 rfl rfl rfl ?_
      refine k_goto 32 dX4_guessedRight_62 rfl ?_
      exact v
theorem g_X4_guessedRight_70 {s : Int → Int → Int} {Q : Option jV → (Int → Int → Int) → Prop} {v2 v3 v5 : Int} (v : (jr32 v5 ∧ jr32 v2 ∧ ((v2 ≤ v5 → Q (some (jL v3)) s) ∧ (¬ (v2 ≤ v5) → kK mX4_guessedRight 82 [jR 124, jU, jI v2, jL v3, jU, jI v5, jL 0, jU, jI 0] [] s Q)))) : kK mX4_guessedRight 70 [jR 124, jU, jI v2, jL v3, jU, jI v5, jU, jU, jU] [] s Q := by
  obtain ⟨a1, a2, v⟩ := v
  refine k_iload dX4_guessedRight_70 rfl ?_
  refine k_iload_n dX4_guessedRight_72 rfl ?_
  obtain ⟨vt, vf⟩ := v
  refine k_icmp_ge 122 dX4_guessedRight_73 rfl a1 a2 (fun c3 => ?_) (fun c3 => ?_)
  · have v := vt c3
    refine k_lload_n dX4_guessedRight_122 rfl ?_
    exact k_lreturn (st := []) dX4_guessedRight_123 rfl v
  · have v := vf c3
    refine k_lconst 0 dX4_guessedRight_76 rfl ?_
    refine k_lstore [jR 124, jU, jI v2, jL v3, jU, jI v5, jL 0, jU, jU] dX4_guessedRight_77 rfl rfl ?_
    refine k_iconst dX4_guessedRight_79 ?_
    refine k_istore [jR 124, jU, jI v2, jL v3, jU, jI v5, jL 0, jU, jI 0] dX4_guessedRight_80 rfl rfl ?_
    exact v
theorem g_X4_guessedRight_82 {s : Int → Int → Int} {Q : Option jV → (Int → Int → Int) → Prop} {v2 v3 v5 v6 v8 : Int} (v : (jr32 v8 ∧ ((4 ≤ v8 → kK mX4_guessedRight 70 [jR 124, jU, jI v2, jL (v3 + v6), jU, jI (v5 + 1), jU, jU, jU] [] s Q) ∧ (¬ (4 ≤ v8) → ((0 ≤ v8 ∧ v8 < 4) ∧ (0 ≤ v5 ∧ v5 < 64) ∧ jr64 v6 ∧ jr64 (s (134 + v8) v5) ∧ kK mX4_guessedRight 82 [jR 124, jU, jI v2, jL v3, jU, jI v5, jL (max v6 (s (134 + v8) v5)), jU, jI (v8 + 1)] [] s Q))))) : kK mX4_guessedRight 82 [jR 124, jU, jI v2, jL v3, jU, jI v5, jL v6, jU, jI v8] [] s Q := by
  obtain ⟨a1, v⟩ := v
  refine k_iload dX4_guessedRight_82 rfl ?_
  refine k_iconst dX4_guessedRight_84 ?_
  obtain ⟨vt, vf⟩ := v
  refine k_icmp_ge 111 dX4_guessedRight_85 rfl a1 (by decide) (fun c2 => ?_) (fun c2 => ?_)
  · have v := vt c2
    refine k_lload_n dX4_guessedRight_111 rfl ?_
    refine k_lload dX4_guessedRight_112 rfl ?_
    refine k_ladd dX4_guessedRight_114 ?_
    refine k_lstore_n [jR 124, jU, jI v2, jL (v3 + v6), jU, jI v5, jL v6, jU, jI v8] dX4_guessedRight_115 rfl rfl ?_
    refine k_iinc [jR 124, jU, jI v2, jL (v3 + v6), jU, jI (v5 + 1), jL v6, jU, jI v8] dX4_guessedRight_116 rfl rfl rfl ?_
    refine k_goto 70 dX4_guessedRight_119 rfl ?_
    refine k_drop [jR 124, jU, jI v2, jL (v3 + v6), jU, jI (v5 + 1), jU, jU, jU] ⟨Or.inr rfl, Or.inr rfl, Or.inr rfl, Or.inr rfl, Or.inr rfl, Or.inr rfl, Or.inl rfl, Or.inr rfl, Or.inl rfl, trivial⟩ ?_
    exact v
  · have v := vf c2
    obtain ⟨a3, a4, a5, a6, v⟩ := v
    refine k_lload dX4_guessedRight_88 rfl ?_
    refine k_aload_n dX4_guessedRight_90 rfl ?_
    refine k_getr dX4_guessedRight_91 fl_X4_22 sh_124 (by decide) rfl ?_
    refine k_iload dX4_guessedRight_94 rfl ?_
    refine k_aald 4 dX4_guessedRight_96 sh_133 (Or.inr (Or.inl rfl)) (by decide) rfl (by decide) rfl a3 ?_
    refine k_iload dX4_guessedRight_97 rfl ?_
    refine k_lald 64 dX4_guessedRight_99 (sr_133 v8 a3) ⟨by have := a3; omega, by have := a3; omega⟩ rfl (by decide) a4 ?_
    refine k_mmaxL dX4_guessedRight_100 ml_X4_36 mw_mmaxL.1 mw_mmaxL.2.1 mw_mmaxL.2.2 rfl a5 a6 ?_
    refine k_lstore [jR 124, jU, jI v2, jL v3, jU, jI v5, jL (max v6 (s (134 + v8) v5)), jU, jI v8] dX4_guessedRight_103 rfl rfl ?_
    refine k_iinc [jR 124, jU, jI v2, jL v3, jU, jI v5, jL (max v6 (s (134 + v8) v5)), jU, jI (v8 + 1)] dX4_guessedRight_105 rfl rfl rfl ?_
    refine k_goto 82 dX4_guessedRight_108 rfl ?_
    exact v
theorem g_X4_allGuesses {s : Int → Int → Int} {Q : Option jV → (Int → Int → Int) → Prop} {v1 : Int} (v : kK mX4_allGuesses 5 [jR 124, jI v1, jL 0, jU, jI 0] [] s Q) : kR mX4_allGuesses [jR 124, jI v1] s Q := by
  show kK mX4_allGuesses 0 [jR 124, jI v1, jU, jU, jU] [] s Q
  refine k_lconst 0 dX4_allGuesses_0 rfl ?_
  refine k_lstore_n [jR 124, jI v1, jL 0, jU, jU] dX4_allGuesses_1 rfl rfl ?_
  refine k_iconst dX4_allGuesses_2 ?_
  refine k_istore [jR 124, jI v1, jL 0, jU, jI 0] dX4_allGuesses_3 rfl rfl ?_
  exact v
theorem g_X4_allGuesses_5 {s : Int → Int → Int} {Q : Option jV → (Int → Int → Int) → Prop} {v1 v2 v4 : Int} (v : (jr32 v4 ∧ ((4 ≤ v4 → ((0 ≤ v1 ∧ v1 < 1073741824) ∧ (0 ≤ (bc v1) ∧ (bc v1) ≤ 6) ∧ Q (some (jL (v2 * ((100 : Int) ^ Int.toNat (bc v1))))) s)) ∧ (¬ (4 ≤ v4) → ((0 ≤ v4 ∧ v4 < 4) ∧ jr32 (s 70 v4) ∧ kK mX4_allGuesses 5 [jR 124, jI v1, jL (v2 + (s 70 v4)), jU, jI (v4 + 1)] [] s Q))))) : kK mX4_allGuesses 5 [jR 124, jI v1, jL v2, jU, jI v4] [] s Q := by
  obtain ⟨a1, v⟩ := v
  refine k_iload dX4_allGuesses_5 rfl ?_
  refine k_iconst dX4_allGuesses_7 ?_
  obtain ⟨vt, vf⟩ := v
  refine k_icmp_ge 28 dX4_allGuesses_8 rfl a1 (by decide) (fun c2 => ?_) (fun c2 => ?_)
  · have v := vt c2
    obtain ⟨a3, a4, v⟩ := v
    refine k_lload_n dX4_allGuesses_28 rfl ?_
    refine k_iload_n dX4_allGuesses_29 rfl ?_
    refine k_invS [jI v1] [jL v2] dX4_allGuesses_30 cm_J6_bitCount_0f7a4 ml_X4_42 st_J6_bitCount_0f7a4 rfl rfl (sp_J6_bitCount s v1 a3) ?_
    refine k_invS [jI (bc v1)] [jL v2] dX4_allGuesses_33 cm_X4_hundreds ml_X4_48 st_X4_hundreds rfl rfl (sp_X4_hundreds s (bc v1) a4) ?_
    refine k_lmul dX4_allGuesses_36 ?_
    exact k_lreturn (st := []) dX4_allGuesses_37 rfl v
  · have v := vf c2
    obtain ⟨a5, a6, v⟩ := v
    refine k_lload_n dX4_allGuesses_11 rfl ?_
    refine k_aload_n dX4_allGuesses_12 rfl ?_
    refine k_getr dX4_allGuesses_13 fl_X4_25 sh_124 (by decide) rfl ?_
    refine k_iload dX4_allGuesses_16 rfl ?_
    refine k_iald 4 dX4_allGuesses_18 sh_70 (by decide) rfl (by decide) a5 ?_
    refine k_i2l dX4_allGuesses_19 a6 ?_
    refine k_ladd dX4_allGuesses_20 ?_
    refine k_lstore_n [jR 124, jI v1, jL (v2 + (s 70 v4)), jU, jI v4] dX4_allGuesses_21 rfl rfl ?_
    refine k_iinc [jR 124, jI v1, jL (v2 + (s 70 v4)), jU, jI (v4 + 1)] dX4_allGuesses_22 rfl rfl rfl ?_
    refine k_goto 5 dX4_allGuesses_25 rfl ?_
    exact v
theorem g_X4_minutesOf {s : Int → Int → Int} {Q : Option jV → (Int → Int → Int) → Prop} {v1 : Int} (v : kK mX4_minutesOf 4 [jR 124, jI v1, jI 0, jI 0] [] s Q) : kR mX4_minutesOf [jR 124, jI v1] s Q := by
  show kK mX4_minutesOf 0 [jR 124, jI v1, jU, jU] [] s Q
  refine k_iconst dX4_minutesOf_0 ?_
  refine k_istore_n [jR 124, jI v1, jI 0, jU] dX4_minutesOf_1 rfl rfl ?_
  refine k_iconst dX4_minutesOf_2 ?_
  refine k_istore_n [jR 124, jI v1, jI 0, jI 0] dX4_minutesOf_3 rfl rfl ?_
  exact v
theorem g_X4_minutesOf_4 {s : Int → Int → Int} {Q : Option jV → (Int → Int → Int) → Prop} {v1 v2 v3 : Int} (v : (jr32 v3 ∧ jr32 (s 124 3) ∧ (((s 124 3) ≤ v3 → Q (some (jI v2)) s) ∧ (¬ ((s 124 3) ≤ v3) → ((0 ≤ v3 ∧ v3 ≤ 31) ∧ jr32 v1 ∧ jr32 ((v1 / 2 ^ Int.toNat v3) % 2) ∧ ((((v1 / 2 ^ Int.toNat v3) % 2) ≠ 1 → kK mX4_minutesOf 4 [jR 124, jI v1, jI v2, jI (v3 + 1)] [] s Q) ∧ (((v1 / 2 ^ Int.toNat v3) % 2) = 1 → ((0 ≤ v3 ∧ v3 < 6) ∧ kK mX4_minutesOf 4 [jR 124, jI v1, jI (v2 + (s 125 v3)), jI (v3 + 1)] [] s Q)))))))) : kK mX4_minutesOf 4 [jR 124, jI v1, jI v2, jI v3] [] s Q := by
  obtain ⟨a1, a2, v⟩ := v
  refine k_iload_n dX4_minutesOf_4 rfl ?_
  refine k_aload_n dX4_minutesOf_5 rfl ?_
  refine k_geti 3 dX4_minutesOf_6 fl_X4_28 sh_124 (by decide) rfl rfl ?_
  obtain ⟨vt, vf⟩ := v
  refine k_icmp_ge 36 dX4_minutesOf_9 rfl a1 a2 (fun c3 => ?_) (fun c3 => ?_)
  · have v := vt c3
    refine k_iload_n dX4_minutesOf_36 rfl ?_
    exact k_ireturn (st := []) dX4_minutesOf_37 rfl v
  · have v := vf c3
    obtain ⟨a4, a5, a6, v⟩ := v
    refine k_iload_n dX4_minutesOf_12 rfl ?_
    refine k_iload_n dX4_minutesOf_13 rfl ?_
    refine k_shr dX4_minutesOf_14 a5 a4 ?_
    refine k_iconst dX4_minutesOf_15 ?_
    refine k_and1 dX4_minutesOf_16 ?_
    refine k_iconst dX4_minutesOf_17 ?_
    obtain ⟨vt, vf⟩ := v
    refine k_icmp_ne 30 dX4_minutesOf_18 rfl a6 (by decide) (fun c7 => ?_) (fun c7 => ?_)
    · have v := vt c7
      refine k_iinc [jR 124, jI v1, jI v2, jI (v3 + 1)] dX4_minutesOf_30 rfl rfl rfl ?_
      refine k_goto 4 dX4_minutesOf_33 rfl ?_
      exact v
    · have v := vf c7
      obtain ⟨a8, v⟩ := v
      refine k_iload_n dX4_minutesOf_21 rfl ?_
      refine k_aload_n dX4_minutesOf_22 rfl ?_
      refine k_getr dX4_minutesOf_23 fl_X4_9 sh_124 (by decide) rfl ?_
      refine k_iload_n dX4_minutesOf_26 rfl ?_
      refine k_iald 6 dX4_minutesOf_27 sh_125 (by decide) rfl (by decide) a8 ?_
      refine k_iadd dX4_minutesOf_28 ?_
      refine k_istore_n [jR 124, jI v1, jI (v2 + (s 125 v3)), jI v3] dX4_minutesOf_29 rfl rfl ?_
      refine k_iinc [jR 124, jI v1, jI (v2 + (s 125 v3)), jI (v3 + 1)] dX4_minutesOf_30 rfl rfl rfl ?_
      refine k_goto 4 dX4_minutesOf_33 rfl ?_
      exact v
def FQc (s : Int → Int → Int) : Prop := fQ s ∧ IE s ∧ IB s
theorem FQc.of {S0 : Int → Int} {s : Int → Int → Int} (h : Inv S0 s) : FQc s := by
  have he := h.2.2.2.2.2.1
  have hb := h.2.2.1
  exact ⟨⟨he.2.1, fun q g q0 q1 g0 g1 => (he.2.2.2 q g q0 q1 g0 g1).2, fun g g0 g1 => hb.2 g g0 (by omega)⟩, he, hb⟩
theorem FQc.fr {s s' : Int → Int → Int} (h : FQc s) (f : ∀ k, (124 ≤ k ∧ k ≤ 132) ∨ k = 70 ∨ k = 146 ∨ k = 157 ∨ k = 167 ∨ k = 168 → s' k = s k) : FQc s' := by
  obtain ⟨h1, h2, h3⟩ := h
  refine ⟨?_, h2.k (by rw [f 124 (by omega)]) (by rw [f 146 (by omega)]) (f _ (by omega)) (f _ (by omega)) (f _ (by omega)) (fun a _ _ => f _ (by omega)), h3.k (f _ (by omega)) (f _ (by omega))⟩
  unfold fQ fy at h1 ⊢
  rw [f 146 (by omega), f 157 (by omega), f 168 (by omega)]
  exact h1
theorem fca_fr {s s' : Int → Int → Int} (f157 : s' 157 = s 157) (f168 : s' 168 = s 168) (S : Int) : ∀ m, fcaN s' S m = fcaN s S m
  | 0 => by funext row g; show s' 157 g = s 157 g; rw [f157]
  | m + 1 => by
    funext row g
    rw [fcaN, fcaN, fca_fr f157 f168 S m]
    unfold fy
    rw [f168]
theorem fmx_fo (v : Int → Int) : fo 4 (fun g m => max m (v g)) 0 = fmx v := rfl
theorem sp_X4_guessedRight (s : Int → Int → Int) (S : Int) (h : FQc s) (hS : 0 ≤ S ∧ S < 64) : kR mX4_guessedRight [jR 124, jI S] s (fun o s' => ∃ y, o = some (jL y) ∧ y = fGR s S ∧ frm anP s s') := by
  obtain ⟨hq, he, hb⟩ := id h
  have hn := hq.1
  refine g_X4_guessedRight ?_
  -- the sum
  have k70 : ∀ s1, frm anP s s1 → (∀ g, 0 ≤ g → g < 4 → ∀ row, 0 ≤ row → row < fR S (s 146 5) → s1 (134 + g) row = fca s S (s 146 5) row g) → fR S (s 146 5) ≤ 64 → kK mX4_guessedRight 70 [jR 124, jU, jI (fR S (s 146 5)), jL 0, jU, jI 0, jU, jU, jU] [] s1 (fun o s' => ∃ y, o = some (jL y) ∧ y = fGR s S ∧ frm anP s s') := fun s1 f1 d1 r64 => by
    have rp := fR_pos S (s 146 5)
    have key : ∀ r, r ≤ fR S (s 146 5) → 0 ≤ r → kK mX4_guessedRight 70 [jR 124, jU, jI (fR S (s 146 5)), jL (sg r (fun row => fmx (fca s S (s 146 5) row))), jU, jI r, jU, jU, jU] [] s1 (fun o s' => ∃ y, o = some (jL y) ∧ y = fGR s S ∧ frm anP s s') := by
      refine lp_up _ _ (fun r hr ih r0 => ?_)
      refine g_X4_guessedRight_70 ⟨by unfold jr32; omega, by unfold jr32; omega, fun q => ⟨_, rfl, by unfold fGR; rw [show r = fR S (s 146 5) by omega], f1⟩, fun q => ?_⟩
      have cb := c100 hq.1.1 hq.1.2
      have vb : ∀ g, 0 ≤ g → g < 4 → 0 ≤ fca s S (s 146 5) r g ∧ fca s S (s 146 5) r g ≤ 9000000000000 := fun g g0 g1 => by
        have := fca_nn hq S (s 146 5) hq.1.1 (Int.le_refl _) r g g0 g1
        omega
      have inner : ∀ g, g ≤ 4 → 0 ≤ g → (0 ≤ fo g (fun g m => max m (fca s S (s 146 5) r g)) 0 ∧ fo g (fun g m => max m (fca s S (s 146 5) r g)) 0 ≤ 9000000000000) → kK mX4_guessedRight 82 [jR 124, jU, jI (fR S (s 146 5)), jL (sg r (fun row => fmx (fca s S (s 146 5) row))), jU, jI r, jL (fo g (fun g m => max m (fca s S (s 146 5) r g)) 0), jU, jI g] [] s1 (fun o s' => ∃ y, o = some (jL y) ∧ y = fGR s S ∧ frm anP s s') := by
        refine lp_up 4 _ (fun g hg jh g0 mb => ?_)
        refine g_X4_guessedRight_82 ⟨by unfold jr32; omega, fun q2 => ?_, fun q2 => ?_⟩
        · have := ih (by omega) (by omega)
          rw [sg_s r0] at this
          rw [show g = 4 by omega, fmx_fo]
          exact this
        · rw [d1 g g0 (by omega) r r0 (by omega)]
          have v := vb g g0 (by omega)
          have := jh (by omega) (by omega)
          rw [fo_s g0] at this
          exact ⟨by omega, by omega, by unfold jr64; omega, by unfold jr64; omega, this (by omega)⟩
      exact inner 0 (by omega) (by omega) (by rw [fo_0]; omega)
    exact key 0 (by omega) (by omega)
  -- the questions
  have k32 : ∀ m, m ≤ s 146 5 → 0 ≤ m → ∀ s1, frm anP s s1 → (∀ g, 0 ≤ g → g < 4 → ∀ row, 0 ≤ row → row < fR S m → s1 (134 + g) row = fca s S m row g) → kK mX4_guessedRight 32 [jR 124, jI S, jI (fR S m), jI m, jU, jU, jU, jU, jU] [] s1 (fun o s' => ∃ y, o = some (jL y) ∧ y = fGR s S ∧ frm anP s s') := by
    refine lp_up _ _ (fun m hm ih m0 s1 f1 d1 => ?_)
    have r64 : ∀ i, 0 ≤ i → i ≤ s 146 5 → fR S i ≤ 64 := fun i i0 i1 => by
      have := sgb_le2 S i i0
      have : (2 : Int) ^ (sg i (bt S)).toNat ≤ 2 ^ 6 := ipow_le (by decide) (by omega)
      have e : (2 : Int) ^ 6 = 64 := rfl
      unfold fR; omega
    refine g_X4_guessedRight_32 ?_
    rw [f1 124 (by unfold anP; omega), he.1, show S / 2 ^ m.toNat % 2 = bt S m from rfl]
    have b01 := bt_01 S m
    refine ⟨by unfold jr32; omega, by unfold jr32; omega, fun q => ?_, fun q => ⟨by omega, by unfold jr32; omega, by unfold jr32; omega, fun c => ?_, fun c => ?_⟩⟩
    · have em : m = s 146 5 := by omega
      rw [em] at d1 ⊢
      exact k70 s1 f1 d1 (r64 _ (by omega) (Int.le_refl _))
    · have := ih (by omega) (by omega) s1 f1 (fun g g0 g1 row r0 r1 => ?_)
      · rw [fR_s S m0, if_neg c] at this
        exact this
      · rw [fR_s S m0, if_neg c] at r1
        rw [fca_s s S m0, if_neg c]
        exact d1 g g0 g1 row r0 r1
    · have rr := r64 (m + 1) (by omega) (by omega)
      have rp := fR_pos S m
      have ex := fR_s S m0
      rw [if_pos c] at ex
      have y : ∀ g, 0 ≤ g → g < 4 → s1 (127 + m) g = fy s m g ∧ 0 ≤ fy s m g ∧ fy s m g ≤ 100 := fun g g0 g1 => by
        have := he.2.2.2 m g m0 (by omega) g0 g1
        rw [f1 (127 + m) (by unfold anP; omega)]
        unfold fy
        exact this
      refine ⟨by omega, by omega, fun g g0 g1 => by rw [(y g g0 g1).1]; exact (y g g0 g1).2, fun s2 q2 => ?_⟩
      have := ih (by omega) (by omega) s2 (f1.tr q2.1) (fun g g0 g1 row r0 r1 => ?_)
      · rw [ex] at this
        rw [show fR S m * 2 = fR S m + fR S m by omega]
        exact this
      · rw [ex] at r1
        rw [fca_s s S m0, if_pos c]
        by_cases d : row < fR S m
        · rw [if_pos d, (q2.2 g g0 g1 row r0 d).1, (y g g0 g1).1, d1 g g0 g1 row r0 d]
        · have := (q2.2 g g0 g1 (row - fR S m) (by omega) (by omega)).2
          rw [show fR S m + (row - fR S m) = row by omega] at this
          rw [if_neg d, this, (y g g0 g1).1, d1 g g0 g1 (row - fR S m) (by omega) (by omega)]
  -- the weights
  have k4 : ∀ g, g ≤ 4 → 0 ≤ g → ∀ s1, frm anP s s1 → (∀ g', 0 ≤ g' → g' < g → s1 (134 + g') 0 = s 157 g') → kK mX4_guessedRight 4 [jR 124, jI S, jI 1, jI g, jU, jU, jU, jU, jU] [] s1 (fun o s' => ∃ y, o = some (jL y) ∧ y = fGR s S ∧ frm anP s s') := by
    refine lp_up 4 _ (fun g hg ih g0 s1 f1 d1 => ?_)
    refine g_X4_guessedRight_4 ?_
    rw [f1 70 (by unfold anP; omega)]
    refine ⟨by unfold jr32; omega, fun q => ?_, fun q => ?_⟩
    · refine k32 0 hq.1.1 (by omega) s1 f1 (fun g' a0 a1 row r0 r1 => ?_)
      have : fR S 0 = 1 := rfl
      rw [show row = 0 by omega]
      exact d1 g' a0 (by omega)
    · have w := hb.1 g g0 (by omega)
      have w2' := hb.2 g g0 (by omega)
      rw [w]
      refine ⟨by omega, by unfold jr32; omega, ih (by omega) (by omega) _ (f1.s2 (by unfold anP; omega)) (fun g' a0 a1 => ?_)⟩
      by_cases e : g' = g
      · rw [e, w2_s]
      · rw [w2_k (by omega)]; exact d1 g' a0 (by omega)
  exact k4 0 (by omega) (by omega) s frm.rf (fun g' a0 a1 => by omega)
theorem sp_X4_allGuesses (s : Int → Int → Int) (S : Int) (h : FQc s) (hS : 0 ≤ S ∧ S < 64) : kM mX4_allGuesses [jR 124, jI S] s (some (jL (fW s * 100 ^ (bc S).toNat))) s := by
  obtain ⟨hq, he, hb⟩ := id h
  refine g_X4_allGuesses ?_
  have b6 := bc_6 hS
  have w : ∀ g, 0 ≤ g → g < 4 → s 70 g = s 157 g ∧ jr32 (s 157 g) := fun g g0 g1 => ⟨hb.1 g g0 (by omega), by have := hb.2 g g0 (by omega); unfold jr32; omega⟩
  have key : ∀ g, g ≤ 4 → 0 ≤ g → kK mX4_allGuesses 5 [jR 124, jI S, jL (sg g (s 157)), jU, jI g] [] s (fun r s' => r = some (jL (fW s * 100 ^ (bc S).toNat)) ∧ s' = s) := by
    refine lp_up 4 _ (fun g hg ih g0 => ?_)
    refine g_X4_allGuesses_5 ⟨by unfold jr32; omega, fun q => ⟨by omega, b6, ?_, rfl⟩, fun q => ?_⟩
    · rw [show g = 4 by omega, show sg 4 (s 157) = 0 + s 157 0 + s 157 1 + s 157 2 + s 157 3 from rfl, Int.zero_add]; rfl
    · rw [(w g g0 (by omega)).1]
      have := ih (by omega) (by omega)
      rw [sg_s g0] at this
      exact ⟨by omega, (w g g0 (by omega)).2, this⟩
  exact key 0 (by omega) (by omega)
def fMi (s : Int → Int → Int) (S : Int) : Int := sg (s 146 5) (fun q => if bt S q = 1 then s 167 q else 0)
theorem sp_X4_minutesOf (s : Int → Int → Int) (S : Int) (h : FQc s) (hS : 0 ≤ S ∧ S < 64) : kM mX4_minutesOf [jR 124, jI S] s (some (jI (fMi s S))) s := by
  obtain ⟨hq, he, hb⟩ := id h
  refine g_X4_minutesOf ?_
  have key : ∀ m, m ≤ s 146 5 → 0 ≤ m → kK mX4_minutesOf 4 [jR 124, jI S, jI (sg m (fun q => if bt S q = 1 then s 167 q else 0)), jI m] [] s (fun r s' => r = some (jI (fMi s S)) ∧ s' = s) := by
    refine lp_up _ _ (fun m hm ih m0 => ?_)
    have b01 := bt_01 S m
    refine g_X4_minutesOf_4 ?_
    rw [he.1, show S / 2 ^ m.toNat % 2 = bt S m from rfl]
    have hn := hq.1
    refine ⟨by unfold jr32; omega, by unfold jr32; omega, fun q => ⟨by rw [show m = s 146 5 by omega]; rfl, rfl⟩, fun q => ⟨by omega, by unfold jr32; omega, by unfold jr32; omega, fun c => ?_, fun c => ⟨by omega, ?_⟩⟩⟩
    · have := ih (by omega) (by omega)
      rw [sg_s m0, if_neg c, Int.add_zero] at this
      exact this
    · have := ih (by omega) (by omega)
      rw [sg_s m0, if_pos c, ← he.2.2.1.1 m m0 (by omega)] at this
      exact this
  exact key 0 hq.1.1 (by omega)
theorem g_X11_tellsOf {s : Int → Int → Int} {Q : Option jV → (Int → Int → Int) → Prop} {v1 : Int} (v : kK mX11_tellsOf 5 [jR 143, jI v1, jL 0, jU, jI 0, jU, jU, jU, jU, jU, jU, jU, jU] [] s Q) : kR mX11_tellsOf [jR 143, jI v1] s Q := by
  show kK mX11_tellsOf 0 [jR 143, jI v1, jU, jU, jU, jU, jU, jU, jU, jU, jU, jU, jU] [] s Q
  refine k_lconst 0 dX11_tellsOf_0 rfl ?_
  refine k_lstore_n [jR 143, jI v1, jL 0, jU, jU, jU, jU, jU, jU, jU, jU, jU, jU] dX11_tellsOf_1 rfl rfl ?_
  refine k_iconst dX11_tellsOf_2 ?_
  refine k_istore [jR 143, jI v1, jL 0, jU, jI 0, jU, jU, jU, jU, jU, jU, jU, jU] dX11_tellsOf_3 rfl rfl ?_
  exact v
theorem g_X11_tellsOf_5 {s : Int → Int → Int} {Q : Option jV → (Int → Int → Int) → Prop} {v1 v2 v4 : Int} (v : ((0 ≤ (s 146 5) ∧ (s 146 5) ≤ 31) ∧ jr32 v4 ∧ jr32 ((1 : Int) * 2 ^ Int.toNat (s 146 5)) ∧ ((((1 : Int) * 2 ^ Int.toNat (s 146 5)) ≤ v4 → Q (some (jL v2)) s) ∧ (¬ (((1 : Int) * 2 ^ Int.toNat (s 146 5)) ≤ v4) → kK mX11_tellsOf 24 [jR 143, jI v1, jL v2, jU, jI v4, jL 0, jU, jI 0, jU, jU, jU, jU, jU] [] s Q)))) : kK mX11_tellsOf 5 [jR 143, jI v1, jL v2, jU, jI v4, jU, jU, jU, jU, jU, jU, jU, jU] [] s Q := by
  obtain ⟨a1, a2, a3, v⟩ := v
  refine k_iload dX11_tellsOf_5 rfl ?_
  refine k_iconst dX11_tellsOf_7 ?_
  refine k_aload_n dX11_tellsOf_8 rfl ?_
  refine k_getr dX11_tellsOf_9 fl_X11_16 sh_143 (by decide) rfl ?_
  refine k_iconst dX11_tellsOf_12 ?_
  refine k_iald 6 dX11_tellsOf_13 sh_146 (by decide) rfl (by decide) (by decide) ?_
  refine k_shl dX11_tellsOf_14 a1 ?_
  obtain ⟨vt, vf⟩ := v
  refine k_icmp_ge 180 dX11_tellsOf_15 rfl a2 a3 (fun c4 => ?_) (fun c4 => ?_)
  · have v := vt c4
    refine k_lload_n dX11_tellsOf_180 rfl ?_
    exact k_lreturn (st := []) dX11_tellsOf_181 rfl v
  · have v := vf c4
    refine k_lconst 0 dX11_tellsOf_18 rfl ?_
    refine k_lstore [jR 143, jI v1, jL v2, jU, jI v4, jL 0, jU, jU, jU, jU, jU, jU, jU] dX11_tellsOf_19 rfl rfl ?_
    refine k_iconst dX11_tellsOf_21 ?_
    refine k_istore [jR 143, jI v1, jL v2, jU, jI v4, jL 0, jU, jI 0, jU, jU, jU, jU, jU] dX11_tellsOf_22 rfl rfl ?_
    exact v
theorem g_X11_tellsOf_24 {s : Int → Int → Int} {Q : Option jV → (Int → Int → Int) → Prop} {v1 v2 v4 v5 v7 : Int} (v : (jr32 v7 ∧ ((4 ≤ v7 → kK mX11_tellsOf 5 [jR 143, jI v1, jL (v2 + v5), jU, jI (v4 + 1), jU, jU, jU, jU, jU, jU, jU, jU] [] s Q) ∧ (¬ (4 ≤ v7) → ((0 ≤ v7 ∧ v7 < 4) ∧ jr32 (s 157 v7) ∧ kK mX11_tellsOf 43 [jR 143, jI v1, jL v2, jU, jI v4, jL v5, jU, jI v7, jL (s 157 v7), jU, jI 0, jU, jU] [] s Q))))) : kK mX11_tellsOf 24 [jR 143, jI v1, jL v2, jU, jI v4, jL v5, jU, jI v7, jU, jU, jU, jU, jU] [] s Q := by
  obtain ⟨a1, v⟩ := v
  refine k_iload dX11_tellsOf_24 rfl ?_
  refine k_iconst dX11_tellsOf_26 ?_
  obtain ⟨vt, vf⟩ := v
  refine k_icmp_ge 169 dX11_tellsOf_27 rfl a1 (by decide) (fun c2 => ?_) (fun c2 => ?_)
  · have v := vt c2
    refine k_lload_n dX11_tellsOf_169 rfl ?_
    refine k_lload dX11_tellsOf_170 rfl ?_
    refine k_ladd dX11_tellsOf_172 ?_
    refine k_lstore_n [jR 143, jI v1, jL (v2 + v5), jU, jI v4, jL v5, jU, jI v7, jU, jU, jU, jU, jU] dX11_tellsOf_173 rfl rfl ?_
    refine k_iinc [jR 143, jI v1, jL (v2 + v5), jU, jI (v4 + 1), jL v5, jU, jI v7, jU, jU, jU, jU, jU] dX11_tellsOf_174 rfl rfl rfl ?_
    refine k_goto 5 dX11_tellsOf_177 rfl ?_
    refine k_drop [jR 143, jI v1, jL (v2 + v5), jU, jI (v4 + 1), jU, jU, jU, jU, jU, jU, jU, jU] ⟨Or.inr rfl, Or.inr rfl, Or.inr rfl, Or.inr rfl, Or.inr rfl, Or.inl rfl, Or.inr rfl, Or.inl rfl, Or.inr rfl, Or.inr rfl, Or.inr rfl, Or.inr rfl, Or.inr rfl, trivial⟩ ?_
    exact v
  · have v := vf c2
    obtain ⟨a3, a4, v⟩ := v
    refine k_aload_n dX11_tellsOf_30 rfl ?_
    refine k_getr dX11_tellsOf_31 fl_X11_49 sh_143 (by decide) rfl ?_
    refine k_iload dX11_tellsOf_34 rfl ?_
    refine k_iald 4 dX11_tellsOf_36 sh_157 (by decide) rfl (by decide) a3 ?_
    refine k_i2l dX11_tellsOf_37 a4 ?_
    refine k_lstore [jR 143, jI v1, jL v2, jU, jI v4, jL v5, jU, jI v7, jL (s 157 v7), jU, jU, jU, jU] dX11_tellsOf_38 rfl rfl ?_
    refine k_iconst dX11_tellsOf_40 ?_
    refine k_istore [jR 143, jI v1, jL v2, jU, jI v4, jL v5, jU, jI v7, jL (s 157 v7), jU, jI 0, jU, jU] dX11_tellsOf_41 rfl rfl ?_
    exact v
theorem g_X11_tellsOf_43 {s : Int → Int → Int} {Q : Option jV → (Int → Int → Int) → Prop} {v1 v2 v4 v5 v7 v8 v10 : Int} (v : (jr32 v10 ∧ jr32 (s 146 5) ∧ (((s 146 5) ≤ v10 → (jr64 v8 ∧ jr64 v5 ∧ ((v8 ≤ v5 → kK mX11_tellsOf 24 [jR 143, jI v1, jL v2, jU, jI v4, jL v5, jU, jI (v7 + 1), jU, jU, jU, jU, jU] [] s Q) ∧ (¬ (v8 ≤ v5) → kK mX11_tellsOf 24 [jR 143, jI v1, jL v2, jU, jI v4, jL v8, jU, jI (v7 + 1), jU, jU, jU, jU, jU] [] s Q)))) ∧ (¬ ((s 146 5) ≤ v10) → ((0 ≤ v10 ∧ v10 ≤ 31) ∧ jr32 v4 ∧ jr32 ((v4 / 2 ^ Int.toNat v10) % 2) ∧ ((((v4 / 2 ^ Int.toNat v10) % 2) ≠ 1 → (jr32 v1 ∧ jr32 ((v1 / 2 ^ Int.toNat v10) % 2) ∧ ((((v1 / 2 ^ Int.toNat v10) % 2) ≠ 0 → ((0 ≤ ((4 * v10) + v7) ∧ ((4 * v10) + v7) < 24) ∧ jr32 (100 - (s 168 ((4 * v10) + v7))) ∧ kK mX11_tellsOf 43 [jR 143, jI v1, jL v2, jU, jI v4, jL v5, jU, jI v7, jL (v8 * (100 - (s 168 ((4 * v10) + v7)))), jU, jI (v10 + 1), jU, jU] [] s Q)) ∧ (((v1 / 2 ^ Int.toNat v10) % 2) = 0 → kK mX11_tellsOf 43 [jR 143, jI v1, jL v2, jU, jI v4, jL v5, jU, jI v7, jL (v8 * 0), jU, jI (v10 + 1), jU, jU] [] s Q)))) ∧ (((v4 / 2 ^ Int.toNat v10) % 2) = 1 → (jr32 v1 ∧ jr32 ((v1 / 2 ^ Int.toNat v10) % 2) ∧ ((((v1 / 2 ^ Int.toNat v10) % 2) ≠ 0 → ((0 ≤ ((4 * v10) + v7) ∧ ((4 * v10) + v7) < 24) ∧ jr32 (s 168 ((4 * v10) + v7)) ∧ kK mX11_tellsOf 43 [jR 143, jI v1, jL v2, jU, jI v4, jL v5, jU, jI v7, jL (v8 * (s 168 ((4 * v10) + v7))), jU, jI (v10 + 1), jU, jU] [] s Q)) ∧ (((v1 / 2 ^ Int.toNat v10) % 2) = 0 → kK mX11_tellsOf 43 [jR 143, jI v1, jL v2, jU, jI v4, jL v5, jU, jI v7, jL (v8 * 100), jU, jI (v10 + 1), jU, jU] [] s Q)))))))))) : kK mX11_tellsOf 43 [jR 143, jI v1, jL v2, jU, jI v4, jL v5, jU, jI v7, jL v8, jU, jI v10, jU, jU] [] s Q := by
  obtain ⟨a1, a2, v⟩ := v
  refine k_iload dX11_tellsOf_43 rfl ?_
  refine k_aload_n dX11_tellsOf_45 rfl ?_
  refine k_getr dX11_tellsOf_46 fl_X11_16 sh_143 (by decide) rfl ?_
  refine k_iconst dX11_tellsOf_49 ?_
  refine k_iald 6 dX11_tellsOf_50 sh_146 (by decide) rfl (by decide) (by decide) ?_
  obtain ⟨vt, vf⟩ := v
  refine k_icmp_ge 146 dX11_tellsOf_51 rfl a1 a2 (fun c3 => ?_) (fun c3 => ?_)
  · have v := vt c3
    obtain ⟨a4, a5, v⟩ := v
    refine k_lload dX11_tellsOf_146 rfl ?_
    refine k_lload dX11_tellsOf_148 rfl ?_
    obtain ⟨vt, vf⟩ := v
    refine k_lcmp_if_le 159 dX11_tellsOf_150 dX11_tellsOf_151 rfl a4 a5 (fun c6 => ?_) (fun c6 => ?_)
    · have v := vt c6
      refine k_lload dX11_tellsOf_159 rfl ?_
      refine k_lstore [jR 143, jI v1, jL v2, jU, jI v4, jL v5, jU, jI v7, jL v8, jU, jI v10, jU, jU] dX11_tellsOf_161 rfl rfl ?_
      refine k_iinc [jR 143, jI v1, jL v2, jU, jI v4, jL v5, jU, jI (v7 + 1), jL v8, jU, jI v10, jU, jU] dX11_tellsOf_163 rfl rfl rfl ?_
      refine k_goto 24 dX11_tellsOf_166 rfl ?_
      refine k_drop [jR 143, jI v1, jL v2, jU, jI v4, jL v5, jU, jI (v7 + 1), jU, jU, jU, jU, jU] ⟨Or.inr rfl, Or.inr rfl, Or.inr rfl, Or.inr rfl, Or.inr rfl, Or.inr rfl, Or.inr rfl, Or.inr rfl, Or.inl rfl, Or.inr rfl, Or.inl rfl, Or.inr rfl, Or.inr rfl, trivial⟩ ?_
      exact v
    · have v := vf c6
      refine k_lload dX11_tellsOf_154 rfl ?_
      refine k_goto 161 dX11_tellsOf_156 rfl ?_
      refine k_lstore [jR 143, jI v1, jL v2, jU, jI v4, jL v8, jU, jI v7, jL v8, jU, jI v10, jU, jU] dX11_tellsOf_161 rfl rfl ?_
      refine k_iinc [jR 143, jI v1, jL v2, jU, jI v4, jL v8, jU, jI (v7 + 1), jL v8, jU, jI v10, jU, jU] dX11_tellsOf_163 rfl rfl rfl ?_
      refine k_goto 24 dX11_tellsOf_166 rfl ?_
      refine k_drop [jR 143, jI v1, jL v2, jU, jI v4, jL v8, jU, jI (v7 + 1), jU, jU, jU, jU, jU] ⟨Or.inr rfl, Or.inr rfl, Or.inr rfl, Or.inr rfl, Or.inr rfl, Or.inr rfl, Or.inr rfl, Or.inr rfl, Or.inl rfl, Or.inr rfl, Or.inl rfl, Or.inr rfl, Or.inr rfl, trivial⟩ ?_
      exact v
  · have v := vf c3
    obtain ⟨a7, a8, a9, v⟩ := v
    refine k_iload dX11_tellsOf_54 rfl ?_
    refine k_iload dX11_tellsOf_56 rfl ?_
    refine k_shr dX11_tellsOf_58 a8 a7 ?_
    refine k_iconst dX11_tellsOf_59 ?_
    refine k_and1 dX11_tellsOf_60 ?_
    refine k_iconst dX11_tellsOf_61 ?_
    obtain ⟨vt, vf⟩ := v
    refine k_icmp_ne 69 dX11_tellsOf_62 rfl a9 (by decide) (fun c10 => ?_) (fun c10 => ?_)
    · have v := vt c10
      obtain ⟨a11, a12, v⟩ := v
      refine k_iconst dX11_tellsOf_69 ?_
      refine k_istore [jR 143, jI v1, jL v2, jU, jI v4, jL v5, jU, jI v7, jL v8, jU, jI v10, jI 0, jU] dX11_tellsOf_70 rfl rfl ?_
      refine k_iload_n dX11_tellsOf_72 rfl ?_
      refine k_iload dX11_tellsOf_73 rfl ?_
      refine k_shr dX11_tellsOf_75 a11 a7 ?_
      refine k_iconst dX11_tellsOf_76 ?_
      refine k_and1 dX11_tellsOf_77 ?_
      obtain ⟨vt, vf⟩ := v
      refine k_if_ne 95 dX11_tellsOf_78 rfl a12 (fun c13 => ?_) (fun c13 => ?_)
      · have v := vt c13
        obtain ⟨a14, a15, v⟩ := v
        refine k_iload dX11_tellsOf_95 rfl ?_
        refine k_if_eq 115 dX11_tellsOf_97 rfl (by decide) (fun _ => ?_) (fun c => absurd c (by decide))
        refine k_bipush dX11_tellsOf_115 rfl ?_
        refine k_aload_n dX11_tellsOf_117 rfl ?_
        refine k_getr dX11_tellsOf_118 fl_X11_82 sh_143 (by decide) rfl ?_
        refine k_iconst dX11_tellsOf_121 ?_
        refine k_iload dX11_tellsOf_122 rfl ?_
        refine k_imul dX11_tellsOf_124 ?_
        refine k_iload dX11_tellsOf_125 rfl ?_
        refine k_iadd dX11_tellsOf_127 ?_
        refine k_iald 24 dX11_tellsOf_128 sh_168 (by decide) rfl (by decide) a14 ?_
        refine k_isub dX11_tellsOf_129 ?_
        refine k_istore [jR 143, jI v1, jL v2, jU, jI v4, jL v5, jU, jI v7, jL v8, jU, jI v10, jI 0, jI (100 - (s 168 ((4 * v10) + v7)))] dX11_tellsOf_130 rfl rfl ?_
        refine k_lload dX11_tellsOf_132 rfl ?_
        refine k_iload dX11_tellsOf_134 rfl ?_
        refine k_i2l dX11_tellsOf_136 a15 ?_
        refine k_lmul dX11_tellsOf_137 ?_
        refine k_lstore [jR 143, jI v1, jL v2, jU, jI v4, jL v5, jU, jI v7, jL (v8 * (100 - (s 168 ((4 * v10) + v7)))), jU, jI v10, jI 0, jI (100 - (s 168 ((4 * v10) + v7)))] dX11_tellsOf_138 rfl rfl ?_
        refine k_iinc [jR 143, jI v1, jL v2, jU, jI v4, jL v5, jU, jI v7, jL (v8 * (100 - (s 168 ((4 * v10) + v7)))), jU, jI (v10 + 1), jI 0, jI (100 - (s 168 ((4 * v10) + v7)))] dX11_tellsOf_140 rfl rfl rfl ?_
        refine k_goto 43 dX11_tellsOf_143 rfl ?_
        refine k_drop [jR 143, jI v1, jL v2, jU, jI v4, jL v5, jU, jI v7, jL (v8 * (100 - (s 168 ((4 * v10) + v7)))), jU, jI (v10 + 1), jU, jU] ⟨Or.inr rfl, Or.inr rfl, Or.inr rfl, Or.inr rfl, Or.inr rfl, Or.inr rfl, Or.inr rfl, Or.inr rfl, Or.inr rfl, Or.inr rfl, Or.inr rfl, Or.inl rfl, Or.inl rfl, trivial⟩ ?_
        exact v
      · have v := vf c13
        refine k_iload dX11_tellsOf_81 rfl ?_
        refine k_if_eq 91 dX11_tellsOf_83 rfl (by decide) (fun _ => ?_) (fun c => absurd c (by decide))
        refine k_iconst dX11_tellsOf_91 ?_
        refine k_goto 130 dX11_tellsOf_92 rfl ?_
        refine k_istore [jR 143, jI v1, jL v2, jU, jI v4, jL v5, jU, jI v7, jL v8, jU, jI v10, jI 0, jI 0] dX11_tellsOf_130 rfl rfl ?_
        refine k_lload dX11_tellsOf_132 rfl ?_
        refine k_iload dX11_tellsOf_134 rfl ?_
        refine k_i2l dX11_tellsOf_136 (by decide) ?_
        refine k_lmul dX11_tellsOf_137 ?_
        refine k_lstore [jR 143, jI v1, jL v2, jU, jI v4, jL v5, jU, jI v7, jL (v8 * 0), jU, jI v10, jI 0, jI 0] dX11_tellsOf_138 rfl rfl ?_
        refine k_iinc [jR 143, jI v1, jL v2, jU, jI v4, jL v5, jU, jI v7, jL (v8 * 0), jU, jI (v10 + 1), jI 0, jI 0] dX11_tellsOf_140 rfl rfl rfl ?_
        refine k_goto 43 dX11_tellsOf_143 rfl ?_
        refine k_drop [jR 143, jI v1, jL v2, jU, jI v4, jL v5, jU, jI v7, jL (v8 * 0), jU, jI (v10 + 1), jU, jU] ⟨Or.inr rfl, Or.inr rfl, Or.inr rfl, Or.inr rfl, Or.inr rfl, Or.inr rfl, Or.inr rfl, Or.inr rfl, Or.inr rfl, Or.inr rfl, Or.inr rfl, Or.inl rfl, Or.inl rfl, trivial⟩ ?_
        exact v
    · have v := vf c10
      obtain ⟨a16, a17, v⟩ := v
      refine k_iconst dX11_tellsOf_65 ?_
      refine k_goto 70 dX11_tellsOf_66 rfl ?_
      refine k_istore [jR 143, jI v1, jL v2, jU, jI v4, jL v5, jU, jI v7, jL v8, jU, jI v10, jI 1, jU] dX11_tellsOf_70 rfl rfl ?_
      refine k_iload_n dX11_tellsOf_72 rfl ?_
      refine k_iload dX11_tellsOf_73 rfl ?_
      refine k_shr dX11_tellsOf_75 a16 a7 ?_
      refine k_iconst dX11_tellsOf_76 ?_
      refine k_and1 dX11_tellsOf_77 ?_
      obtain ⟨vt, vf⟩ := v
      refine k_if_ne 95 dX11_tellsOf_78 rfl a17 (fun c18 => ?_) (fun c18 => ?_)
      · have v := vt c18
        obtain ⟨a19, a20, v⟩ := v
        refine k_iload dX11_tellsOf_95 rfl ?_
        refine k_if_eq 115 dX11_tellsOf_97 rfl (by decide) (fun c => absurd c (by decide)) (fun _ => ?_)
        refine k_aload_n dX11_tellsOf_100 rfl ?_
        refine k_getr dX11_tellsOf_101 fl_X11_82 sh_143 (by decide) rfl ?_
        refine k_iconst dX11_tellsOf_104 ?_
        refine k_iload dX11_tellsOf_105 rfl ?_
        refine k_imul dX11_tellsOf_107 ?_
        refine k_iload dX11_tellsOf_108 rfl ?_
        refine k_iadd dX11_tellsOf_110 ?_
        refine k_iald 24 dX11_tellsOf_111 sh_168 (by decide) rfl (by decide) a19 ?_
        refine k_goto 130 dX11_tellsOf_112 rfl ?_
        refine k_istore [jR 143, jI v1, jL v2, jU, jI v4, jL v5, jU, jI v7, jL v8, jU, jI v10, jI 1, jI (s 168 ((4 * v10) + v7))] dX11_tellsOf_130 rfl rfl ?_
        refine k_lload dX11_tellsOf_132 rfl ?_
        refine k_iload dX11_tellsOf_134 rfl ?_
        refine k_i2l dX11_tellsOf_136 a20 ?_
        refine k_lmul dX11_tellsOf_137 ?_
        refine k_lstore [jR 143, jI v1, jL v2, jU, jI v4, jL v5, jU, jI v7, jL (v8 * (s 168 ((4 * v10) + v7))), jU, jI v10, jI 1, jI (s 168 ((4 * v10) + v7))] dX11_tellsOf_138 rfl rfl ?_
        refine k_iinc [jR 143, jI v1, jL v2, jU, jI v4, jL v5, jU, jI v7, jL (v8 * (s 168 ((4 * v10) + v7))), jU, jI (v10 + 1), jI 1, jI (s 168 ((4 * v10) + v7))] dX11_tellsOf_140 rfl rfl rfl ?_
        refine k_goto 43 dX11_tellsOf_143 rfl ?_
        refine k_drop [jR 143, jI v1, jL v2, jU, jI v4, jL v5, jU, jI v7, jL (v8 * (s 168 ((4 * v10) + v7))), jU, jI (v10 + 1), jU, jU] ⟨Or.inr rfl, Or.inr rfl, Or.inr rfl, Or.inr rfl, Or.inr rfl, Or.inr rfl, Or.inr rfl, Or.inr rfl, Or.inr rfl, Or.inr rfl, Or.inr rfl, Or.inl rfl, Or.inl rfl, trivial⟩ ?_
        exact v
      · have v := vf c18
        refine k_iload dX11_tellsOf_81 rfl ?_
        refine k_if_eq 91 dX11_tellsOf_83 rfl (by decide) (fun c => absurd c (by decide)) (fun _ => ?_)
        refine k_bipush dX11_tellsOf_86 rfl ?_
        refine k_goto 130 dX11_tellsOf_88 rfl ?_
        refine k_istore [jR 143, jI v1, jL v2, jU, jI v4, jL v5, jU, jI v7, jL v8, jU, jI v10, jI 1, jI 100] dX11_tellsOf_130 rfl rfl ?_
        refine k_lload dX11_tellsOf_132 rfl ?_
        refine k_iload dX11_tellsOf_134 rfl ?_
        refine k_i2l dX11_tellsOf_136 (by decide) ?_
        refine k_lmul dX11_tellsOf_137 ?_
        refine k_lstore [jR 143, jI v1, jL v2, jU, jI v4, jL v5, jU, jI v7, jL (v8 * 100), jU, jI v10, jI 1, jI 100] dX11_tellsOf_138 rfl rfl ?_
        refine k_iinc [jR 143, jI v1, jL v2, jU, jI v4, jL v5, jU, jI v7, jL (v8 * 100), jU, jI (v10 + 1), jI 1, jI 100] dX11_tellsOf_140 rfl rfl rfl ?_
        refine k_goto 43 dX11_tellsOf_143 rfl ?_
        refine k_drop [jR 143, jI v1, jL v2, jU, jI v4, jL v5, jU, jI v7, jL (v8 * 100), jU, jI (v10 + 1), jU, jU] ⟨Or.inr rfl, Or.inr rfl, Or.inr rfl, Or.inr rfl, Or.inr rfl, Or.inr rfl, Or.inr rfl, Or.inr rfl, Or.inr rfl, Or.inr rfl, Or.inr rfl, Or.inl rfl, Or.inl rfl, trivial⟩ ?_
        exact v
theorem g_X11_wholeOf {s : Int → Int → Int} {Q : Option jV → (Int → Int → Int) → Prop} (v : (jr32 ((((s 157 0) + (s 157 1)) + (s 157 2)) + (s 157 3)) ∧ kK mX11_wholeOf 31 [jR 143, jL ((((s 157 0) + (s 157 1)) + (s 157 2)) + (s 157 3)), jU, jI 0] [] s Q)) : kR mX11_wholeOf [jR 143] s Q := by
  show kK mX11_wholeOf 0 [jR 143, jU, jU, jU] [] s Q
  obtain ⟨a1, v⟩ := v
  refine k_aload_n dX11_wholeOf_0 rfl ?_
  refine k_getr dX11_wholeOf_1 fl_X11_49 sh_143 (by decide) rfl ?_
  refine k_iconst dX11_wholeOf_4 ?_
  refine k_iald 4 dX11_wholeOf_5 sh_157 (by decide) rfl (by decide) (by decide) ?_
  refine k_aload_n dX11_wholeOf_6 rfl ?_
  refine k_getr dX11_wholeOf_7 fl_X11_49 sh_143 (by decide) rfl ?_
  refine k_iconst dX11_wholeOf_10 ?_
  refine k_iald 4 dX11_wholeOf_11 sh_157 (by decide) rfl (by decide) (by decide) ?_
  refine k_iadd dX11_wholeOf_12 ?_
  refine k_aload_n dX11_wholeOf_13 rfl ?_
  refine k_getr dX11_wholeOf_14 fl_X11_49 sh_143 (by decide) rfl ?_
  refine k_iconst dX11_wholeOf_17 ?_
  refine k_iald 4 dX11_wholeOf_18 sh_157 (by decide) rfl (by decide) (by decide) ?_
  refine k_iadd dX11_wholeOf_19 ?_
  refine k_aload_n dX11_wholeOf_20 rfl ?_
  refine k_getr dX11_wholeOf_21 fl_X11_49 sh_143 (by decide) rfl ?_
  refine k_iconst dX11_wholeOf_24 ?_
  refine k_iald 4 dX11_wholeOf_25 sh_157 (by decide) rfl (by decide) (by decide) ?_
  refine k_iadd dX11_wholeOf_26 ?_
  refine k_i2l dX11_wholeOf_27 a1 ?_
  refine k_lstore_n [jR 143, jL ((((s 157 0) + (s 157 1)) + (s 157 2)) + (s 157 3)), jU, jU] dX11_wholeOf_28 rfl rfl ?_
  refine k_iconst dX11_wholeOf_29 ?_
  refine k_istore_n [jR 143, jL ((((s 157 0) + (s 157 1)) + (s 157 2)) + (s 157 3)), jU, jI 0] dX11_wholeOf_30 rfl rfl ?_
  exact v
theorem g_X11_wholeOf_31 {s : Int → Int → Int} {Q : Option jV → (Int → Int → Int) → Prop} {v1 v3 : Int} (v : (jr32 v3 ∧ jr32 (s 146 5) ∧ (((s 146 5) ≤ v3 → Q (some (jL v1)) s) ∧ (¬ ((s 146 5) ≤ v3) → kK mX11_wholeOf 31 [jR 143, jL (v1 * 100), jU, jI (v3 + 1)] [] s Q)))) : kK mX11_wholeOf 31 [jR 143, jL v1, jU, jI v3] [] s Q := by
  obtain ⟨a1, a2, v⟩ := v
  refine k_iload_n dX11_wholeOf_31 rfl ?_
  refine k_aload_n dX11_wholeOf_32 rfl ?_
  refine k_getr dX11_wholeOf_33 fl_X11_16 sh_143 (by decide) rfl ?_
  refine k_iconst dX11_wholeOf_36 ?_
  refine k_iald 6 dX11_wholeOf_37 sh_146 (by decide) rfl (by decide) (by decide) ?_
  obtain ⟨vt, vf⟩ := v
  refine k_icmp_ge 53 dX11_wholeOf_38 rfl a1 a2 (fun c3 => ?_) (fun c3 => ?_)
  · have v := vt c3
    refine k_lload_n dX11_wholeOf_53 rfl ?_
    exact k_lreturn (st := []) dX11_wholeOf_54 rfl v
  · have v := vf c3
    refine k_lload_n dX11_wholeOf_41 rfl ?_
    refine k_ldc2 (100) (100) dX11_wholeOf_42 kl_X11_234 rfl ?_
    refine k_lmul dX11_wholeOf_45 ?_
    refine k_lstore_n [jR 143, jL (v1 * 100), jU, jI v3] dX11_wholeOf_46 rfl rfl ?_
    refine k_iinc [jR 143, jL (v1 * 100), jU, jI (v3 + 1)] dX11_wholeOf_47 rfl rfl rfl ?_
    refine k_goto 31 dX11_wholeOf_50 rfl ?_
    exact v
theorem g_X11_minutesOf {s : Int → Int → Int} {Q : Option jV → (Int → Int → Int) → Prop} {v1 : Int} (v : kK mX11_minutesOf 4 [jR 143, jI v1, jI 0, jI 0] [] s Q) : kR mX11_minutesOf [jR 143, jI v1] s Q := by
  show kK mX11_minutesOf 0 [jR 143, jI v1, jU, jU] [] s Q
  refine k_iconst dX11_minutesOf_0 ?_
  refine k_istore_n [jR 143, jI v1, jI 0, jU] dX11_minutesOf_1 rfl rfl ?_
  refine k_iconst dX11_minutesOf_2 ?_
  refine k_istore_n [jR 143, jI v1, jI 0, jI 0] dX11_minutesOf_3 rfl rfl ?_
  exact v
theorem g_X11_minutesOf_4 {s : Int → Int → Int} {Q : Option jV → (Int → Int → Int) → Prop} {v1 v2 v3 : Int} (v : (jr32 v3 ∧ jr32 (s 146 5) ∧ (((s 146 5) ≤ v3 → Q (some (jI v2)) s) ∧ (¬ ((s 146 5) ≤ v3) → ((0 ≤ v3 ∧ v3 ≤ 31) ∧ jr32 v1 ∧ jr32 ((v1 / 2 ^ Int.toNat v3) % 2) ∧ ((((v1 / 2 ^ Int.toNat v3) % 2) ≠ 1 → kK mX11_minutesOf 4 [jR 143, jI v1, jI (v2 + 0), jI (v3 + 1)] [] s Q) ∧ (((v1 / 2 ^ Int.toNat v3) % 2) = 1 → ((0 ≤ v3 ∧ v3 < 6) ∧ kK mX11_minutesOf 4 [jR 143, jI v1, jI (v2 + (s 167 v3)), jI (v3 + 1)] [] s Q)))))))) : kK mX11_minutesOf 4 [jR 143, jI v1, jI v2, jI v3] [] s Q := by
  obtain ⟨a1, a2, v⟩ := v
  refine k_iload_n dX11_minutesOf_4 rfl ?_
  refine k_aload_n dX11_minutesOf_5 rfl ?_
  refine k_getr dX11_minutesOf_6 fl_X11_16 sh_143 (by decide) rfl ?_
  refine k_iconst dX11_minutesOf_9 ?_
  refine k_iald 6 dX11_minutesOf_10 sh_146 (by decide) rfl (by decide) (by decide) ?_
  obtain ⟨vt, vf⟩ := v
  refine k_icmp_ge 42 dX11_minutesOf_11 rfl a1 a2 (fun c3 => ?_) (fun c3 => ?_)
  · have v := vt c3
    refine k_iload_n dX11_minutesOf_42 rfl ?_
    exact k_ireturn (st := []) dX11_minutesOf_43 rfl v
  · have v := vf c3
    obtain ⟨a4, a5, a6, v⟩ := v
    refine k_iload_n dX11_minutesOf_14 rfl ?_
    refine k_iload_n dX11_minutesOf_15 rfl ?_
    refine k_iload_n dX11_minutesOf_16 rfl ?_
    refine k_shr dX11_minutesOf_17 a5 a4 ?_
    refine k_iconst dX11_minutesOf_18 ?_
    refine k_and1 dX11_minutesOf_19 ?_
    refine k_iconst dX11_minutesOf_20 ?_
    obtain ⟨vt, vf⟩ := v
    refine k_icmp_ne 33 dX11_minutesOf_21 rfl a6 (by decide) (fun c7 => ?_) (fun c7 => ?_)
    · have v := vt c7
      refine k_iconst dX11_minutesOf_33 ?_
      refine k_iadd dX11_minutesOf_34 ?_
      refine k_istore_n [jR 143, jI v1, jI (v2 + 0), jI v3] dX11_minutesOf_35 rfl rfl ?_
      refine k_iinc [jR 143, jI v1, jI (v2 + 0), jI (v3 + 1)] dX11_minutesOf_36 rfl rfl rfl ?_
      refine k_goto 4 dX11_minutesOf_39 rfl ?_
      exact v
    · have v := vf c7
      obtain ⟨a8, v⟩ := v
      refine k_aload_n dX11_minutesOf_24 rfl ?_
      refine k_getr dX11_minutesOf_25 fl_X11_79 sh_143 (by decide) rfl ?_
      refine k_iload_n dX11_minutesOf_28 rfl ?_
      refine k_iald 6 dX11_minutesOf_29 sh_167 (by decide) rfl (by decide) a8 ?_
      refine k_goto 34 dX11_minutesOf_30 rfl ?_
      refine k_iadd dX11_minutesOf_34 ?_
      refine k_istore_n [jR 143, jI v1, jI (v2 + (s 167 v3)), jI v3] dX11_minutesOf_35 rfl rfl ?_
      refine k_iinc [jR 143, jI v1, jI (v2 + (s 167 v3)), jI (v3 + 1)] dX11_minutesOf_36 rfl rfl rfl ?_
      refine k_goto 4 dX11_minutesOf_39 rfl ?_
      exact v
theorem sp_X11_tellsOf (s : Int → Int → Int) (S : Int) (hq : fQ s) (hS : 0 ≤ S ∧ S < 64) : kM mX11_tellsOf [jR 143, jI S] s (some (jL (fTO s S))) s := by
  have hn := hq.1
  have pn := p2_pos (s 146 5)
  have p64 : (2 : Int) ^ (s 146 5).toNat ≤ 64 := by
    have : (2 : Int) ^ (s 146 5).toNat ≤ 2 ^ 6 := ipow_le (by decide) (by omega)
    have e : (2 : Int) ^ 6 = 64 := rfl
    omega
  refine g_X11_tellsOf ?_
  have cb := c100 hn.1 hn.2
  have k5 : ∀ a, a ≤ 2 ^ (s 146 5).toNat → 0 ≤ a → kK mX11_tellsOf 5 [jR 143, jI S, jL (sg a (fun a => fmx (ftv s S a (s 146 5)))), jU, jI a, jU, jU, jU, jU, jU, jU, jU, jU] [] s (fun r s' => r = some (jL (fTO s S)) ∧ s' = s) := by
    refine lp_up _ _ (fun a ha ih a0 => ?_)
    refine g_X11_tellsOf_5 ?_
    rw [Int.one_mul]
    refine ⟨by omega, by unfold jr32; omega, by unfold jr32; omega, fun q => ⟨by rw [show a = 2 ^ (s 146 5).toNat by omega]; rfl, rfl⟩, fun q => ?_⟩
    have k24 : ∀ g, g ≤ 4 → 0 ≤ g → (0 ≤ fo g (fun g m => max m (ftv s S a (s 146 5) g)) 0 ∧ fo g (fun g m => max m (ftv s S a (s 146 5) g)) 0 ≤ 9000000000000) → kK mX11_tellsOf 24 [jR 143, jI S, jL (sg a (fun a => fmx (ftv s S a (s 146 5)))), jU, jI a, jL (fo g (fun g m => max m (ftv s S a (s 146 5) g)) 0), jU, jI g, jU, jU, jU, jU, jU] [] s (fun r s' => r = some (jL (fTO s S)) ∧ s' = s) := by
      refine lp_up 4 _ (fun g hg jh g0 mb => ?_)
      refine g_X11_tellsOf_24 ⟨by unfold jr32; omega, fun q2 => ?_, fun q2 => ⟨by omega, by have := hq.2.2 g g0 (by omega); unfold jr32; omega, ?_⟩⟩
      · have := ih (by omega) (by omega)
        rw [sg_s a0] at this
        rw [show g = 4 by omega, fmx_fo]
        exact this
      · have k43 : ∀ m, m ≤ s 146 5 → 0 ≤ m → kK mX11_tellsOf 43 [jR 143, jI S, jL (sg a (fun a => fmx (ftv s S a (s 146 5)))), jU, jI a, jL (fo g (fun g m => max m (ftv s S a (s 146 5) g)) 0), jU, jI g, jL (ftv s S a m g), jU, jI m, jU, jU] [] s (fun r s' => r = some (jL (fTO s S)) ∧ s' = s) := by
          refine lp_up _ _ (fun m hm kh m0 => ?_)
          have vb := ftv_b hq S a (g := g) ⟨g0, by omega⟩ m m0 hm
          have cm := c100 m0 (by omega)
          have b1 := bt_01 S m
          have b2 := bt_01 a m
          refine g_X11_tellsOf_43 ?_
          rw [show S / 2 ^ m.toNat % 2 = bt S m from rfl, show a / 2 ^ m.toNat % 2 = bt a m from rfl, show s 168 (4 * m + g) = fy s m g from rfl]
          refine ⟨by unfold jr32; omega, by unfold jr32; omega, fun q3 => ⟨by unfold jr64; omega, by unfold jr64; omega, fun q4 => ?_, fun q4 => ?_⟩, fun q3 => ⟨by omega, by unfold jr32; omega, by unfold jr32; omega, ?_⟩⟩
          · have em : m = s 146 5 := by omega
            rw [em] at q4 vb
            have := jh (by omega) (by omega)
            rw [fo_s g0, show max (fo g (fun g m => max m (ftv s S a (s 146 5) g)) 0) (ftv s S a (s 146 5) g) = fo g (fun g m => max m (ftv s S a (s 146 5) g)) 0 by omega] at this
            exact this mb
          · have em : m = s 146 5 := by omega
            rw [em] at q4 vb ⊢
            have := jh (by omega) (by omega)
            rw [fo_s g0, show max (fo g (fun g m => max m (ftv s S a (s 146 5) g)) 0) (ftv s S a (s 146 5) g) = ftv s S a (s 146 5) g by omega] at this
            exact this (by omega)
          · have y := hq.2.1 m g m0 (by omega) g0 (by omega)
            have nx := kh (by omega) (by omega)
            rw [ftv_s s S a m0] at nx
            unfold fsh at nx
            refine ⟨fun c => ⟨by unfold jr32; omega, by unfold jr32; omega, fun d => ⟨by omega, by unfold jr32; omega, ?_⟩, fun d => ?_⟩, fun c => ⟨by unfold jr32; omega, by unfold jr32; omega, fun d => ⟨by omega, by unfold jr32; omega, ?_⟩, fun d => ?_⟩⟩
            · rw [if_neg d, if_neg c] at nx; exact nx
            · rw [if_pos d, if_neg c] at nx; exact nx
            · rw [if_neg d, if_pos c] at nx; exact nx
            · rw [if_pos d, if_pos c] at nx; exact nx
        exact k43 0 hn.1 (by omega)
    exact k24 0 (by omega) (by omega) (by rw [fo_0]; omega)
  exact k5 0 (by omega) (by omega)
theorem sp_X11_wholeOf (s : Int → Int → Int) (hq : fQ s) : kM mX11_wholeOf [jR 143] s (some (jL (fW s * 100 ^ (s 146 5).toNat))) s := by
  have hn := hq.1
  have wb := fW_b hq
  refine g_X11_wholeOf ⟨by show jr32 (fW s); unfold jr32; omega, ?_⟩
  have key : ∀ i, i ≤ s 146 5 → 0 ≤ i → kK mX11_wholeOf 31 [jR 143, jL (fW s * 100 ^ i.toNat), jU, jI i] [] s (fun r s' => r = some (jL (fW s * 100 ^ (s 146 5).toNat)) ∧ s' = s) := by
    refine lp_up _ _ (fun i hi ih i0 => ?_)
    refine g_X11_wholeOf_31 ⟨by unfold jr32; omega, by unfold jr32; omega, fun q => ⟨by rw [show i = s 146 5 by omega], rfl⟩, fun q => ?_⟩
    have := ih (by omega) (by omega)
    rw [show (i + 1).toNat = i.toNat + 1 by omega, Int.pow_succ, ← Int.mul_assoc] at this
    exact this
  have := key 0 hn.1 (by omega)
  rw [show (100 : Int) ^ Int.toNat 0 = 1 from rfl, Int.mul_one] at this
  exact this
theorem sp_X11_minutesOf (s : Int → Int → Int) (S : Int) (hq : fQ s) (hS : 0 ≤ S ∧ S < 64) : kM mX11_minutesOf [jR 143, jI S] s (some (jI (fMi s S))) s := by
  have hn := hq.1
  refine g_X11_minutesOf ?_
  have key : ∀ m, m ≤ s 146 5 → 0 ≤ m → kK mX11_minutesOf 4 [jR 143, jI S, jI (sg m (fun q => if bt S q = 1 then s 167 q else 0)), jI m] [] s (fun r s' => r = some (jI (fMi s S)) ∧ s' = s) := by
    refine lp_up _ _ (fun m hm ih m0 => ?_)
    have b01 := bt_01 S m
    refine g_X11_minutesOf_4 ?_
    rw [show S / 2 ^ m.toNat % 2 = bt S m from rfl]
    refine ⟨by unfold jr32; omega, by unfold jr32; omega, fun q => ⟨by rw [show m = s 146 5 by omega]; rfl, rfl⟩, fun q => ⟨by omega, by unfold jr32; omega, by unfold jr32; omega, fun c => ?_, fun c => ⟨by omega, ?_⟩⟩⟩
    · have := ih (by omega) (by omega)
      rw [sg_s m0, if_neg c] at this
      exact this
    · have := ih (by omega) (by omega)
      rw [sg_s m0, if_pos c] at this
      exact this
  exact key 0 hn.1 (by omega)
