theorem g_X0_restOf {s : Int → Int → Int} {Q : Option jV → (Int → Int → Int) → Prop} {x v1 : Int} (hb : jBig x) (v : kK mX0_restOf 10 [jR x, jI v1, jL 0, jU, jI ((s x 1) - 1)] [] s Q) : kR mX0_restOf [jR x, jI v1] s Q := by
  show kK mX0_restOf 0 [jR x, jI v1, jU, jU, jU] [] s Q
  refine k_lconst 0 dX0_restOf_0 rfl ?_
  refine k_lstore_n [jR x, jI v1, jL 0, jU, jU] dX0_restOf_1 rfl rfl ?_
  refine k_aload_n dX0_restOf_2 rfl ?_
  refine k_geti 1 dX0_restOf_3 fl_X0_13 hb.1 (jbr0 hb) rfl rfl ?_
  refine k_iconst dX0_restOf_6 ?_
  refine k_isub dX0_restOf_7 ?_
  refine k_istore [jR x, jI v1, jL 0, jU, jI ((s x 1) - 1)] dX0_restOf_8 rfl rfl ?_
  exact v
theorem g_X0_restOf_10 {s : Int → Int → Int} {Q : Option jV → (Int → Int → Int) → Prop} {v1 v2 v4 x : Int} (hb : jBig x) (v : (jr32 v4 ∧ ((v4 < 0 → Q (some (jI v2)) s) ∧ (¬ (v4 < 0) → (jr32 v1 ∧ ((v1 ≤ 0 → Q (some (jI v2)) s) ∧ (¬ (v1 ≤ 0) → ((0 ≤ v4 ∧ v4 < 16) ∧ jr32 (s (x + 1) v4) ∧ ((v2 * 2 ^ Int.toNat 30) % 1073741824 = 0) ∧ (0 ≤ (s (x + 1) v4) ∧ (s (x + 1) v4) < 1073741824) ∧ ((0 ≤ ((v2 * 2 ^ Int.toNat 30) + (s (x + 1) v4)) ∧ ((v2 * 2 ^ Int.toNat 30) + (s (x + 1) v4)) ≤ 9223372036854775807) ∧ (0 < v1 ∧ v1 ≤ 9223372036854775807)) ∧ kK mX0_restOf 10 [jR x, jI v1, jL (((v2 * 2 ^ Int.toNat 30) + (s (x + 1) v4)) % v1), jU, jI (v4 + (-1))] [] s Q)))))))) : kK mX0_restOf 10 [jR x, jI v1, jL v2, jU, jI v4] [] s Q := by
  obtain ⟨a1, v⟩ := v
  refine k_iload dX0_restOf_10 rfl ?_
  obtain ⟨vt, vf⟩ := v
  refine k_if_lt 42 dX0_restOf_12 rfl a1 (fun c2 => ?_) (fun c2 => ?_)
  · have v := vt c2
    refine k_lload_n dX0_restOf_42 rfl ?_
    refine k_l2i dX0_restOf_43 ?_
    exact k_ireturn (st := []) dX0_restOf_44 rfl v
  · have v := vf c2
    obtain ⟨a3, v⟩ := v
    refine k_iload_n dX0_restOf_15 rfl ?_
    obtain ⟨vt, vf⟩ := v
    refine k_if_le 42 dX0_restOf_16 rfl a3 (fun c4 => ?_) (fun c4 => ?_)
    · have v := vt c4
      refine k_lload_n dX0_restOf_42 rfl ?_
      refine k_l2i dX0_restOf_43 ?_
      exact k_ireturn (st := []) dX0_restOf_44 rfl v
    · have v := vf c4
      obtain ⟨a5, a6, a7, a8, a9, v⟩ := v
      refine k_lload_n dX0_restOf_19 rfl ?_
      refine k_bipush dX0_restOf_20 rfl ?_
      refine k_shlL dX0_restOf_22 (by decide) ?_
      refine k_aload_n dX0_restOf_23 rfl ?_
      refine k_getr dX0_restOf_24 fl_X0_9 hb.1 (jbr0 hb) rfl ?_
      refine k_iload dX0_restOf_27 rfl ?_
      refine k_iald 16 dX0_restOf_29 hb.2.1 (jbr2 hb) rfl (by decide) a5 ?_
      refine k_i2l dX0_restOf_30 a6 ?_
      refine k_lorS dX0_restOf_31 a7 a8 ?_
      refine k_iload_n dX0_restOf_32 rfl ?_
      refine k_i2l dX0_restOf_33 a3 ?_
      refine k_lrem dX0_restOf_34 a9 ?_
      refine k_lstore_n [jR x, jI v1, jL (((v2 * 2 ^ Int.toNat 30) + (s (x + 1) v4)) % v1), jU, jI v4] dX0_restOf_35 rfl rfl ?_
      refine k_iinc [jR x, jI v1, jL (((v2 * 2 ^ Int.toNat 30) + (s (x + 1) v4)) % v1), jU, jI (v4 + (-1))] dX0_restOf_36 rfl rfl rfl ?_
      refine k_goto 10 dX0_restOf_39 rfl ?_
      exact v
theorem g_X0_divide {s : Int → Int → Int} {Q : Option jV → (Int → Int → Int) → Prop} {x v1 : Int} (hb : jBig x) (v : kK mX0_divide 10 [jR x, jI v1, jL 0, jU, jI ((s x 1) - 1)] [] s Q) : kR mX0_divide [jR x, jI v1] s Q := by
  show kK mX0_divide 0 [jR x, jI v1, jU, jU, jU] [] s Q
  refine k_lconst 0 dX0_divide_0 rfl ?_
  refine k_lstore_n [jR x, jI v1, jL 0, jU, jU] dX0_divide_1 rfl rfl ?_
  refine k_aload_n dX0_divide_2 rfl ?_
  refine k_geti 1 dX0_divide_3 fl_X0_13 hb.1 (jbr0 hb) rfl rfl ?_
  refine k_iconst dX0_divide_6 ?_
  refine k_isub dX0_divide_7 ?_
  refine k_istore [jR x, jI v1, jL 0, jU, jI ((s x 1) - 1)] dX0_divide_8 rfl rfl ?_
  exact v
theorem g_X0_divide_10 {s : Int → Int → Int} {Q : Option jV → (Int → Int → Int) → Prop} {v1 v2 v4 x : Int} (hb : jBig x) (v : (jr32 v4 ∧ ((v4 < 0 → kK mX0_divide 56 [jR x, jU, jU, jU, jU] [] s Q) ∧ (¬ (v4 < 0) → (jr32 v1 ∧ ((v1 ≤ 0 → kK mX0_divide 56 [jR x, jU, jU, jU, jU] [] s Q) ∧ (¬ (v1 ≤ 0) → ((0 ≤ v4 ∧ v4 < 16) ∧ jr32 (s (x + 1) v4) ∧ ((v2 * 2 ^ Int.toNat 30) % 1073741824 = 0) ∧ (0 ≤ (s (x + 1) v4) ∧ (s (x + 1) v4) < 1073741824) ∧ ((0 ≤ ((v2 * 2 ^ Int.toNat 30) + (s (x + 1) v4)) ∧ ((v2 * 2 ^ Int.toNat 30) + (s (x + 1) v4)) ≤ 9223372036854775807) ∧ (0 < v1 ∧ v1 ≤ 9223372036854775807)) ∧ kK mX0_divide 10 [jR x, jI v1, jL (((v2 * 2 ^ Int.toNat 30) + (s (x + 1) v4)) % v1), jU, jI (v4 + (-1))] [] (w2 s (x + 1) v4 (((v2 * 2 ^ Int.toNat 30) + (s (x + 1) v4)) / v1)) Q)))))))) : kK mX0_divide 10 [jR x, jI v1, jL v2, jU, jI v4] [] s Q := by
  obtain ⟨a1, v⟩ := v
  refine k_iload dX0_divide_10 rfl ?_
  obtain ⟨vt, vf⟩ := v
  refine k_if_lt 56 dX0_divide_12 rfl a1 (fun c2 => ?_) (fun c2 => ?_)
  · have v := vt c2
    refine k_drop [jR x, jU, jU, jU, jU] ⟨Or.inr rfl, Or.inl rfl, Or.inl rfl, Or.inr rfl, Or.inl rfl, trivial⟩ ?_
    exact v
  · have v := vf c2
    obtain ⟨a3, v⟩ := v
    refine k_iload_n dX0_divide_15 rfl ?_
    obtain ⟨vt, vf⟩ := v
    refine k_if_le 56 dX0_divide_16 rfl a3 (fun c4 => ?_) (fun c4 => ?_)
    · have v := vt c4
      refine k_drop [jR x, jU, jU, jU, jU] ⟨Or.inr rfl, Or.inl rfl, Or.inl rfl, Or.inr rfl, Or.inl rfl, trivial⟩ ?_
      exact v
    · have v := vf c4
      obtain ⟨a5, a6, a7, a8, a9, v⟩ := v
      refine k_lload_n dX0_divide_19 rfl ?_
      refine k_bipush dX0_divide_20 rfl ?_
      refine k_shlL dX0_divide_22 (by decide) ?_
      refine k_aload_n dX0_divide_23 rfl ?_
      refine k_getr dX0_divide_24 fl_X0_9 hb.1 (jbr0 hb) rfl ?_
      refine k_iload dX0_divide_27 rfl ?_
      refine k_iald 16 dX0_divide_29 hb.2.1 (jbr2 hb) rfl (by decide) a5 ?_
      refine k_i2l dX0_divide_30 a6 ?_
      refine k_lorS dX0_divide_31 a7 a8 ?_
      refine k_lstore_n [jR x, jI v1, jL ((v2 * 2 ^ Int.toNat 30) + (s (x + 1) v4)), jU, jI v4] dX0_divide_32 rfl rfl ?_
      refine k_aload_n dX0_divide_33 rfl ?_
      refine k_getr dX0_divide_34 fl_X0_9 hb.1 (jbr0 hb) rfl ?_
      refine k_iload dX0_divide_37 rfl ?_
      refine k_lload_n dX0_divide_39 rfl ?_
      refine k_iload_n dX0_divide_40 rfl ?_
      refine k_i2l dX0_divide_41 a3 ?_
      refine k_ldiv dX0_divide_42 a9 ?_
      refine k_l2i dX0_divide_43 ?_
      refine k_iast 16 dX0_divide_44 hb.2.1 (jbr1 hb) rfl (by decide) a5 ?_
      refine k_lload_n dX0_divide_45 rfl ?_
      refine k_iload_n dX0_divide_46 rfl ?_
      refine k_i2l dX0_divide_47 a3 ?_
      refine k_lrem dX0_divide_48 a9 ?_
      refine k_lstore_n [jR x, jI v1, jL (((v2 * 2 ^ Int.toNat 30) + (s (x + 1) v4)) % v1), jU, jI v4] dX0_divide_49 rfl rfl ?_
      refine k_iinc [jR x, jI v1, jL (((v2 * 2 ^ Int.toNat 30) + (s (x + 1) v4)) % v1), jU, jI (v4 + (-1))] dX0_divide_50 rfl rfl rfl ?_
      refine k_goto 10 dX0_divide_53 rfl ?_
      exact v
theorem g_X0_divide_56 {s : Int → Int → Int} {Q : Option jV → (Int → Int → Int) → Prop} {x : Int} (hb : jBig x) (v : (jr32 (s x 1) ∧ (((s x 1) ≤ 0 → Q none s) ∧ (¬ ((s x 1) ≤ 0) → ((0 ≤ ((s x 1) - 1) ∧ ((s x 1) - 1) < 16) ∧ jr32 (s (x + 1) ((s x 1) - 1)) ∧ (((s (x + 1) ((s x 1) - 1)) ≠ 0 → Q none s) ∧ ((s (x + 1) ((s x 1) - 1)) = 0 → kK mX0_divide 56 [jR x, jU, jU, jU, jU] [] (w2 s x 1 ((s x 1) - 1)) Q))))))) : kK mX0_divide 56 [jR x, jU, jU, jU, jU] [] s Q := by
  obtain ⟨a1, v⟩ := v
  refine k_aload_n dX0_divide_56 rfl ?_
  refine k_geti 1 dX0_divide_57 fl_X0_13 hb.1 (jbr0 hb) rfl rfl ?_
  obtain ⟨vt, vf⟩ := v
  refine k_if_le 90 dX0_divide_60 rfl a1 (fun c2 => ?_) (fun c2 => ?_)
  · have v := vt c2
    exact k_return (st := []) dX0_divide_90 rfl v
  · have v := vf c2
    obtain ⟨a3, a4, v⟩ := v
    refine k_aload_n dX0_divide_63 rfl ?_
    refine k_getr dX0_divide_64 fl_X0_9 hb.1 (jbr0 hb) rfl ?_
    refine k_aload_n dX0_divide_67 rfl ?_
    refine k_geti 1 dX0_divide_68 fl_X0_13 hb.1 (jbr0 hb) rfl rfl ?_
    refine k_iconst dX0_divide_71 ?_
    refine k_isub dX0_divide_72 ?_
    refine k_iald 16 dX0_divide_73 hb.2.1 (jbr2 hb) rfl (by decide) a3 ?_
    obtain ⟨vt, vf⟩ := v
    refine k_if_ne 90 dX0_divide_74 rfl a4 (fun c5 => ?_) (fun c5 => ?_)
    · have v := vt c5
      exact k_return (st := []) dX0_divide_90 rfl v
    · have v := vf c5
      refine k_aload_n dX0_divide_77 rfl ?_
      refine k_dup dX0_divide_78 rfl ?_
      refine k_geti 1 dX0_divide_79 fl_X0_13 hb.1 (jbr0 hb) rfl rfl ?_
      refine k_iconst dX0_divide_82 ?_
      refine k_isub dX0_divide_83 ?_
      refine k_put 1 dX0_divide_84 ct_X0 (by decide) fw_X0_13 rfl rfl hb.1 (jbr hb) rfl rfl ?_
      refine k_goto 56 dX0_divide_87 rfl ?_
      exact v
theorem g_X0_copy {s : Int → Int → Int} {Q : Option jV → (Int → Int → Int) → Prop} {x y : Int} (hb : jBig x) (hc : jBig y) (v : Q none (wrow (w2 s x 1 (s y 1)) (x + 1) (y + 1))) : kR mX0_copy [jR x, jR y] s Q := by
  show kK mX0_copy 0 [jR x, jR y] [] s Q
  refine k_aload_n dX0_copy_0 rfl ?_
  refine k_aload_n dX0_copy_1 rfl ?_
  refine k_geti 1 dX0_copy_2 fl_X0_13 hc.1 (jbr0 hc) rfl rfl ?_
  refine k_put 1 dX0_copy_5 ct_X0 (by decide) fw_X0_13 rfl rfl hb.1 (jbr hb) rfl rfl ?_
  refine k_aload_n dX0_copy_8 rfl ?_
  refine k_getr dX0_copy_9 fl_X0_9 hc.1 (jbr0 hc) rfl ?_
  refine k_iconst dX0_copy_12 ?_
  refine k_aload_n dX0_copy_13 rfl ?_
  refine k_getr dX0_copy_14 fl_X0_9 hb.1 (jbr0 hb) rfl ?_
  refine k_iconst dX0_copy_17 ?_
  refine k_bipush dX0_copy_18 rfl ?_
  refine k_copy 16 dX0_copy_20 ml_X0_21 rfl (jbr1 hc) (jbr1 hb) hc.2.1 hb.2.1 (by decide) rfl ?_
  exact k_return (st := []) dX0_copy_23 rfl v
def upv (s : Int → Int → Int) (x n i : Int) : Int := vl (n - i) (fun j => s (x + 1) (i + j))
theorem upv_s (s : Int → Int → Int) (x : Int) {n i : Int} (h : i < n) : upv s x n i = s (x + 1) i + 1073741824 * upv s x n (i + 1) := by
  have l := vl_l (fun j => s (x + 1) (i + j)) (m := n - (i + 1)) (by omega)
  rw [show n - (i + 1) + 1 = n - i by omega, Int.add_zero] at l
  unfold upv
  rw [l]
  congr 1
  congr 1
  exact vl_c _ (by omega) (fun j _ _ => by rw [show i + (1 + j) = i + 1 + j by omega])
theorem upv_0 (s : Int → Int → Int) (x : Int) {n : Int} (h : 0 ≤ n) : upv s x n 0 = vl n (s (x + 1)) := by
  unfold upv
  rw [Int.sub_zero]
  exact vl_c _ h (fun j _ _ => by rw [Int.zero_add])
theorem upv_n (s : Int → Int → Int) (x n : Int) : upv s x n n = 0 := by
  unfold upv
  rw [show n - n = 0 by omega, vl_0]
theorem md_st {u d f : Int} : (u % d * 1073741824 + f) % d = (f + 1073741824 * u) % d := by
  have := Int.emod_add_mul_ediv u d
  have e : f + 1073741824 * u = (u % d * 1073741824 + f) + d * (1073741824 * (u / d)) := by
    generalize u % d = r at this ⊢
    generalize u / d = q at this ⊢
    rw [← this]
    grind
  rw [e, Int.add_mul_emod_self_left]
theorem dv_st {u d f : Int} (hd : 0 < d) : (f + 1073741824 * u) / d = (u % d * 1073741824 + f) / d + 1073741824 * (u / d) := by
  have := Int.emod_add_mul_ediv u d
  have e : f + 1073741824 * u = (u % d * 1073741824 + f) + d * (1073741824 * (u / d)) := by
    generalize u % d = r at this ⊢
    generalize u / d = q at this ⊢
    rw [← this]
    grind
  rw [e, Int.add_mul_ediv_left _ _ (by omega)]
theorem sp_X0_restOf (s : Int → Int → Int) (x d : Int) (hb : jBig x) (h : BG s x (bv s x)) (hd : 1 ≤ d ∧ d ≤ 2147483647) : kM mX0_restOf [jR x, jI d] s (some (jI (bv s x % d))) s := by
  obtain ⟨a1, a2, a3, a4⟩ := h
  refine g_X0_restOf hb ?_
  have key : ∀ i, -1 ≤ i → i < s x 1 → kK mX0_restOf 10 [jR x, jI d, jL (upv s x (s x 1) (i + 1) % d), jU, jI i] [] s (fun r s' => r = some (jI (bv s x % d)) ∧ s' = s) := by
    refine lp_dn (-1) _ (fun i hi ih i1 => ?_)
    refine g_X0_restOf_10 hb ⟨by unfold jr32; omega, fun q => ⟨?_, rfl⟩, fun q => ?_⟩
    · rw [show i + 1 = 0 by omega, upv_0 s x a1.1]; rfl
    · have dg := a2 i (by omega) i1
      have r0 := Int.emod_nonneg (upv s x (s x 1) (i + 1)) (show d ≠ 0 by omega)
      have r1 := Int.emod_lt_of_pos (upv s x (s x 1) (i + 1)) (show 0 < d by omega)
      rw [show (2 : Int) ^ Int.toNat 30 = 1073741824 from rfl]
      refine ⟨by unfold jr32; omega, fun q2 => by omega, fun _ => ⟨by omega, by unfold jr32; omega, by omega, dg, ⟨by omega, by omega⟩, ?_⟩⟩
      have := ih (by omega) (by omega)
      rw [show i - 1 + 1 = i by omega, upv_s s x i1, ← md_st] at this
      rw [show i + -1 = i - 1 by omega]
      exact this
  have := key (s x 1 - 1) (by omega) (by omega)
  rw [show s x 1 - 1 + 1 = s x 1 by omega, upv_n, Int.zero_emod] at this
  exact this
theorem sp_X0_divide (s : Int → Int → Int) (x d : Int) (hb : jBig x) (h : BG s x (bv s x)) (hd : 1 ≤ d ∧ d ≤ 2147483647) : kR mX0_divide [jR x, jI d] s (fun r s' => r = none ∧ frm (bxP x) s s' ∧ BG s' x (bv s x / d)) := by
  obtain ⟨a1, a2, a3, a4⟩ := h
  refine g_X0_divide hb ?_
  have k56 : ∀ w, 0 ≤ w → w ≤ 16 → ∀ s1, frm (bxP x) s s1 → s1 x 1 = w → dgt w (s1 (x + 1)) → vl w (s1 (x + 1)) = bv s x / d → kK mX0_divide 56 [jR x, jU, jU, jU, jU] [] s1 (fun r s' => r = none ∧ frm (bxP x) s s' ∧ BG s' x (bv s x / d)) := by
    refine lp_dn 0 _ (fun w hw ih w16 s1 f1 e dg v => ?_)
    refine g_X0_divide_56 hb ?_
    rw [e]
    refine ⟨by unfold jr32; omega, fun q => ⟨rfl, f1, by rw [e]; omega, by rw [e]; exact dg, by rw [e]; exact v, Or.inl (by omega)⟩, fun q => ?_⟩
    have top := dg (w - 1) (by omega) (by omega)
    have s2 := vl_s (n := w - 1) (by omega) (s1 (x + 1))
    rw [show w - 1 + 1 = w by omega] at s2
    have lo := vl_b (f := s1 (x + 1)) (w - 1) (by omega) (dg.le (by omega))
    refine ⟨by omega, by unfold jr32; omega, fun q2 => ⟨rfl, f1, by rw [e]; omega, by rw [e]; exact dg, by rw [e]; exact v, Or.inr ?_⟩, fun q2 => ?_⟩
    · rw [e, ← v, s2]
      have p := bp_pos (w - 1)
      have := Int.mul_le_mul_of_nonneg_right (show 1 ≤ s1 (x + 1) (w - 1) by omega) (show 0 ≤ bp (w - 1) by omega)
      omega
    · rw [q2, Int.zero_mul, Int.add_zero] at s2
      have ex : w2 s1 x 1 (w - 1) (x + 1) = s1 (x + 1) := w2_k (by omega)
      exact ih (by omega) (by omega) _ (f1.s2 (Or.inl rfl)) (w2_s _ _ _ _) (by rw [ex]; exact dg.le (by omega)) (by rw [ex, ← s2]; exact v)
  have key : ∀ i, -1 ≤ i → i < s x 1 → ∀ s1, frm (bxP x) s s1 → s1 x 1 = s x 1 → (∀ j, j ≤ i → s1 (x + 1) j = s (x + 1) j) → (∀ j, i < j → j < s x 1 → 0 ≤ s1 (x + 1) j ∧ s1 (x + 1) j < 1073741824) → upv s1 x (s x 1) (i + 1) = upv s x (s x 1) (i + 1) / d → kK mX0_divide 10 [jR x, jI d, jL (upv s x (s x 1) (i + 1) % d), jU, jI i] [] s1 (fun r s' => r = none ∧ frm (bxP x) s s' ∧ BG s' x (bv s x / d)) := by
    refine lp_dn (-1) _ (fun i hi ih i1 s1 f1 w un dg v => ?_)
    have fin : i < 0 → kK mX0_divide 56 [jR x, jU, jU, jU, jU] [] s1 (fun r s' => r = none ∧ frm (bxP x) s s' ∧ BG s' x (bv s x / d)) := fun q => by
      rw [show i + 1 = 0 by omega, upv_0 s1 x a1.1, upv_0 s x a1.1] at v
      exact k56 (s x 1) a1.1 a1.2 s1 f1 w (fun j j0 j1 => dg j (by omega) j1) v
    refine g_X0_divide_10 hb ⟨by unfold jr32; omega, fin, fun q => ?_⟩
    have dgi := a2 i (by omega) i1
    have r0 := Int.emod_nonneg (upv s x (s x 1) (i + 1)) (show d ≠ 0 by omega)
    have r1 := Int.emod_lt_of_pos (upv s x (s x 1) (i + 1)) (show 0 < d by omega)
    rw [show (2 : Int) ^ Int.toNat 30 = 1073741824 from rfl, un i (Int.le_refl _)]
    refine ⟨by unfold jr32; omega, fun q2 => by omega, fun _ => ⟨by omega, by unfold jr32; omega, by omega, dgi, ⟨by omega, by omega⟩, ?_⟩⟩
    have qb : 0 ≤ (upv s x (s x 1) (i + 1) % d * 1073741824 + s (x + 1) i) / d ∧ (upv s x (s x 1) (i + 1) % d * 1073741824 + s (x + 1) i) / d < 1073741824 := by
      refine ⟨Int.ediv_nonneg (by omega) (by omega), ?_⟩
      rw [Int.ediv_lt_iff_lt_mul (by omega)]
      have := Int.mul_le_mul_of_nonneg_right (show upv s x (s x 1) (i + 1) % d + 1 ≤ d by omega) (show (0 : Int) ≤ 1073741824 by omega)
      omega
    have nx := ih (by omega) (by omega) (w2 s1 (x + 1) i ((upv s x (s x 1) (i + 1) % d * 1073741824 + s (x + 1) i) / d)) (f1.s2 (Or.inr rfl)) (by rw [w2_k (by omega)]; exact w) (fun j j1 => by rw [w2_i (by omega)]; exact un j (by omega)) (fun j j0 j1 => ?_) ?_
    · rw [show i - 1 + 1 = i by omega, upv_s s x i1, ← md_st] at nx
      rw [show i + -1 = i - 1 by omega]
      exact nx
    · rw [w2_e]
      by_cases c : j = i
      · rw [if_pos c]; exact qb
      · rw [if_neg c]; exact dg j (by omega) j1
    · rw [show i - 1 + 1 = i by omega, upv_s _ x i1, upv_s s x i1, dv_st (by omega), w2_s, ← v]
      congr 1
      congr 1
      exact vl_c _ (by omega) (fun j j0 _ => by rw [w2_i (by omega)])
  have := key (s x 1 - 1) (by omega) (by omega) s frm.rf rfl (fun j _ => rfl) (fun j j0 j1 => by omega) (by rw [show s x 1 - 1 + 1 = s x 1 by omega, upv_n, Int.zero_ediv])
  rw [show s x 1 - 1 + 1 = s x 1 by omega, upv_n, Int.zero_emod] at this
  exact this
theorem sp_X0_copy (s : Int → Int → Int) (x y : Int) (hb : jBig x) (hc : jBig y) (hxy : xyP x y) (g : BG s y (bv s y)) : kR mX0_copy [jR x, jR y] s (fun r s' => r = none ∧ frm (bxP x) s s' ∧ BG s' x (bv s y)) := by
  obtain ⟨n1, n2, n3⟩ := hxy
  refine g_X0_copy hb hc ⟨rfl, fun k hk => ?_, ?_⟩
  · unfold bxP at hk
    funext i
    unfold wrow
    rw [if_neg (by omega), w2_k (by omega)]
  · have e1 : wrow (w2 s x 1 (s y 1)) (x + 1) (y + 1) x 1 = s y 1 := by
      unfold wrow
      rw [if_neg (by omega), w2_s]
    have e2 : wrow (w2 s x 1 (s y 1)) (x + 1) (y + 1) (x + 1) = s (y + 1) := by
      funext i
      unfold wrow
      rw [if_pos rfl, w2_k (by omega)]
    unfold BG
    rw [e1, e2]
    exact g
theorem g_X5_putBig {s : Int → Int → Int} {Q : Option jV → (Int → Int → Int) → Prop} {x y : Int} (hb : jBig x) (hc : jBig y) (v : ((xyP 139 x) ∧ (BG s x (bv s x)) ∧ (∀ (s4 : Int → Int → Int), (frm (bxP 139) s s4 ∧ BG s4 139 (bv s x)) → ((xyP 141 y) ∧ (BG s4 y (bv s4 y)) ∧ (∀ (s9 : Int → Int → Int), (frm (bxP 141) s4 s9 ∧ BG s9 141 (bv s4 y)) → kK mX5_putBig 18 [jR 138, jU, jU, jI 2, jU, jU] [] s9 Q))))) : kR mX5_putBig [jR 138, jR x, jR y] s Q := by
  show kK mX5_putBig 0 [jR 138, jR x, jR y, jU, jU, jU] [] s Q
  obtain ⟨a1, a2, v⟩ := v
  refine k_aload_n dX5_putBig_0 rfl ?_
  refine k_getr dX5_putBig_1 fl_X5_12 sh_138 (by decide) rfl ?_
  refine k_aload_n dX5_putBig_4 rfl ?_
  refine k_invVR [jR x] [] dX5_putBig_5 cm_X0_copy ml_X5_29 im_X0_copy se_X0_copy rfl sh_139 (by decide) rfl rfl (sp_X0_copy s 139 x bg_139 hb a1 a2) (fun _ s4 q5 => ?_)
  obtain ⟨rfl, q5⟩ := q5
  have v := v s4 q5
  obtain ⟨a6, a7, v⟩ := v
  refine k_aload_n dX5_putBig_8 rfl ?_
  refine k_getr dX5_putBig_9 fl_X5_18 sh_138 (by decide) rfl ?_
  refine k_aload_n dX5_putBig_12 rfl ?_
  refine k_invVR [jR y] [] dX5_putBig_13 cm_X0_copy ml_X5_29 im_X0_copy se_X0_copy rfl sh_141 (by decide) rfl rfl (sp_X0_copy s4 141 y bg_141 hc a6 a7) (fun _ s9 q10 => ?_)
  obtain ⟨rfl, q10⟩ := q10
  have v := v s9 q10
  refine k_iconst dX5_putBig_16 ?_
  refine k_istore_n [jR 138, jR x, jR y, jI 2, jU, jU] dX5_putBig_17 rfl rfl ?_
  refine k_drop [jR 138, jU, jU, jI 2, jU, jU] ⟨Or.inr rfl, Or.inl rfl, Or.inl rfl, Or.inr rfl, Or.inr rfl, Or.inr rfl, trivial⟩ ?_
  exact v
theorem g_X5_putBig_18 {s : Int → Int → Int} {Q : Option jV → (Int → Int → Int) → Prop} {v3 x y : Int} (hb : jBig x) (hc : jBig y) (v : (jr32 v3 ∧ ((248 < v3 → Q none s) ∧ (¬ (248 < v3) → kK mX5_putBig 33 [jR 138, jU, jU, jI v3, jI 480, jI 0] [] s Q)))) : kK mX5_putBig 18 [jR 138, jU, jU, jI v3, jU, jU] [] s Q := by
  obtain ⟨a1, v⟩ := v
  refine k_iload_n dX5_putBig_18 rfl ?_
  refine k_sipush dX5_putBig_19 rfl ?_
  obtain ⟨vt, vf⟩ := v
  refine k_icmp_gt 90 dX5_putBig_22 rfl a1 (by decide) (fun c2 => ?_) (fun c2 => ?_)
  · have v := vt c2
    exact k_return (st := []) dX5_putBig_90 rfl v
  · have v := vf c2
    refine k_sipush dX5_putBig_25 rfl ?_
    refine k_istore [jR 138, jU, jU, jI v3, jI 480, jU] dX5_putBig_28 rfl rfl ?_
    refine k_iconst dX5_putBig_30 ?_
    refine k_istore [jR 138, jU, jU, jI v3, jI 480, jI 0] dX5_putBig_31 rfl rfl ?_
    exact v
theorem g_X5_putBig_33 {s : Int → Int → Int} {Q : Option jV → (Int → Int → Int) → Prop} {v3 v4 v5 x y : Int} (hb : jBig x) (hc : jBig y) (v : (jr32 v5 ∧ jr32 v4 ∧ ((v4 ≤ v5 → kK mX5_putBig 18 [jR 138, jU, jU, jI (v3 + 1), jU, jU] [] s Q) ∧ (¬ (v4 ≤ v5) → ((BG s 139 (bv s 139)) ∧ (1 ≤ v3 ∧ v3 ≤ 2147483647) ∧ jr32 (bv s 139 % v3) ∧ (((bv s 139 % v3) ≠ 0 → kK mX5_putBig 18 [jR 138, jU, jU, jI (v3 + 1), jU, jU] [] s Q) ∧ ((bv s 139 % v3) = 0 → ((BG s 141 (bv s 141)) ∧ jr32 (bv s 141 % v3) ∧ (((bv s 141 % v3) ≠ 0 → kK mX5_putBig 18 [jR 138, jU, jU, jI (v3 + 1), jU, jU] [] s Q) ∧ ((bv s 141 % v3) = 0 → (∀ (s12 : Int → Int → Int), (frm (bxP 139) s s12 ∧ BG s12 139 (bv s 139 / v3)) → ((BG s12 141 (bv s12 141)) ∧ (∀ (s16 : Int → Int → Int), (frm (bxP 141) s12 s16 ∧ BG s16 141 (bv s12 141 / v3)) → kK mX5_putBig 33 [jR 138, jU, jU, jI v3, jI v4, jI (v5 + 1)] [] s16 Q))))))))))))) : kK mX5_putBig 33 [jR 138, jU, jU, jI v3, jI v4, jI v5] [] s Q := by
  obtain ⟨a1, a2, v⟩ := v
  refine k_iload dX5_putBig_33 rfl ?_
  refine k_iload dX5_putBig_35 rfl ?_
  obtain ⟨vt, vf⟩ := v
  refine k_icmp_ge 84 dX5_putBig_37 rfl a1 a2 (fun c3 => ?_) (fun c3 => ?_)
  · have v := vt c3
    refine k_iinc [jR 138, jU, jU, jI (v3 + 1), jI v4, jI v5] dX5_putBig_84 rfl rfl rfl ?_
    refine k_goto 18 dX5_putBig_87 rfl ?_
    refine k_drop [jR 138, jU, jU, jI (v3 + 1), jU, jU] ⟨Or.inr rfl, Or.inr rfl, Or.inr rfl, Or.inr rfl, Or.inl rfl, Or.inl rfl, trivial⟩ ?_
    exact v
  · have v := vf c3
    obtain ⟨a4, a5, a6, v⟩ := v
    refine k_aload_n dX5_putBig_40 rfl ?_
    refine k_getr dX5_putBig_41 fl_X5_12 sh_138 (by decide) rfl ?_
    refine k_iload_n dX5_putBig_44 rfl ?_
    refine k_invV [jI v3] [] dX5_putBig_45 cm_X0_restOf ml_X5_33 im_X0_restOf se_X0_restOf rfl sh_139 (by decide) rfl rfl (sp_X0_restOf s 139 v3 bg_139 a4 a5) ?_
    obtain ⟨vt, vf⟩ := v
    refine k_if_ne 84 dX5_putBig_48 rfl a6 (fun c7 => ?_) (fun c7 => ?_)
    · have v := vt c7
      refine k_iinc [jR 138, jU, jU, jI (v3 + 1), jI v4, jI v5] dX5_putBig_84 rfl rfl rfl ?_
      refine k_goto 18 dX5_putBig_87 rfl ?_
      refine k_drop [jR 138, jU, jU, jI (v3 + 1), jU, jU] ⟨Or.inr rfl, Or.inr rfl, Or.inr rfl, Or.inr rfl, Or.inl rfl, Or.inl rfl, trivial⟩ ?_
      exact v
    · have v := vf c7
      obtain ⟨a8, a9, v⟩ := v
      refine k_aload_n dX5_putBig_51 rfl ?_
      refine k_getr dX5_putBig_52 fl_X5_18 sh_138 (by decide) rfl ?_
      refine k_iload_n dX5_putBig_55 rfl ?_
      refine k_invV [jI v3] [] dX5_putBig_56 cm_X0_restOf ml_X5_33 im_X0_restOf se_X0_restOf rfl sh_141 (by decide) rfl rfl (sp_X0_restOf s 141 v3 bg_141 a8 a5) ?_
      obtain ⟨vt, vf⟩ := v
      refine k_if_ne 84 dX5_putBig_59 rfl a9 (fun c10 => ?_) (fun c10 => ?_)
      · have v := vt c10
        refine k_iinc [jR 138, jU, jU, jI (v3 + 1), jI v4, jI v5] dX5_putBig_84 rfl rfl rfl ?_
        refine k_goto 18 dX5_putBig_87 rfl ?_
        refine k_drop [jR 138, jU, jU, jI (v3 + 1), jU, jU] ⟨Or.inr rfl, Or.inr rfl, Or.inr rfl, Or.inr rfl, Or.inl rfl, Or.inl rfl, trivial⟩ ?_
        exact v
      · have v := vf c10
        refine k_aload_n dX5_putBig_62 rfl ?_
        refine k_getr dX5_putBig_63 fl_X5_12 sh_138 (by decide) rfl ?_
        refine k_iload_n dX5_putBig_66 rfl ?_
        refine k_invVR [jI v3] [] dX5_putBig_67 cm_X0_divide ml_X5_37 im_X0_divide se_X0_divide rfl sh_139 (by decide) rfl rfl (sp_X0_divide s 139 v3 bg_139 a4 a5) (fun _ s12 q13 => ?_)
        obtain ⟨rfl, q13⟩ := q13
        have v := v s12 q13
        obtain ⟨a14, v⟩ := v
        refine k_aload_n dX5_putBig_70 rfl ?_
        refine k_getr dX5_putBig_71 fl_X5_18 sh_138 (by decide) rfl ?_
        refine k_iload_n dX5_putBig_74 rfl ?_
        refine k_invVR [jI v3] [] dX5_putBig_75 cm_X0_divide ml_X5_37 im_X0_divide se_X0_divide rfl sh_141 (by decide) rfl rfl (sp_X0_divide s12 141 v3 bg_141 a14 a5) (fun _ s16 q17 => ?_)
        obtain ⟨rfl, q17⟩ := q17
        have v := v s16 q17
        refine k_iinc [jR 138, jU, jU, jI v3, jI v4, jI (v5 + 1)] dX5_putBig_78 rfl rfl rfl ?_
        refine k_goto 33 dX5_putBig_81 rfl ?_
        exact v
theorem ipow_b {a b : Int} (ha : 1 ≤ a) (h : a ≤ b) : ∀ n : Nat, a ^ n ≤ b ^ n
  | 0 => by rw [Int.pow_zero, Int.pow_zero]; exact Int.le_refl _
  | n + 1 => by
    have i := ipow_b ha h n
    have p : 0 < a ^ n := Int.pow_pos (by omega)
    rw [Int.pow_succ, Int.pow_succ]
    exact Int.mul_le_mul i h (by omega) (by omega)
theorem bp16_2 : bp 16 = 2 ^ 480 := by decide +kernel
/-- no divisor without one of 248 at most -/
def SM (N : Nat) : Prop := ∀ e : Nat, 1 < e → e ∣ N → ∃ d, 1 < d ∧ d ≤ 248 ∧ d ∣ e
theorem SM_1 : SM 1 := fun e he h => by
  have := Nat.dvd_one.mp h
  omega
theorem SM_s {a : Nat} (h0 : 0 < a) (h : a ≤ 248) : SM a := fun e he hd => ⟨e, he, Nat.le_trans (Nat.le_of_dvd h0 hd) h, Nat.dvd_refl e⟩
theorem SM_m {a b : Nat} (ha : SM a) (hb : SM b) : SM (a * b) := fun e he hd => by
  by_cases c : Nat.gcd e a = 1
  · exact hb e he (Nat.Coprime.dvd_of_dvd_mul_left c hd)
  · have g0 : 0 < Nat.gcd e a := Nat.gcd_pos_of_pos_left _ (by omega)
    obtain ⟨d, d1, d2, d3⟩ := ha (Nat.gcd e a) (by omega) (Nat.gcd_dvd_right e a)
    exact ⟨d, d1, d2, Nat.dvd_trans d3 (Nat.gcd_dvd_left e a)⟩
def PBp (s : Int → Int → Int) (x y : Int) : Prop := (xyP 139 x ∧ xyP 141 y ∧ xyP 139 y) ∧ BG s x (bv s x) ∧ BG s y (bv s y) ∧ 1 ≤ bv s x ∧ 1 ≤ bv s y ∧ SM (bv s x).toNat
theorem sp_X5_putBig (s : Int → Int → Int) (x y : Int) (hb : jBig x) (hc : jBig y) (hp : PBp s x y) : kR mX5_putBig [jR 138, jR x, jR y] s (fun r s' => r = none ∧ frm fcP s s' ∧ FC s' (bv s x) (bv s y)) := by
  obtain ⟨⟨n1, n2, n3⟩, gx, gy, px, py, sm⟩ := hp
  have ax := gx.b
  have bx : bv s x < bp 16 := by
    have := bp_le gx.1.2
    omega
  refine g_X5_putBig hb hc ⟨n1, gx, fun s4 q4 => ?_⟩
  have ey : s4 y = s y := q4.1 y (by unfold bxP; unfold xyP at n3; omega)
  have ey1 : s4 (y + 1) = s (y + 1) := q4.1 (y + 1) (by unfold bxP; unfold xyP at n3; omega)
  have gy4 : BG s4 y (bv s y) := gy.fr ey ey1
  refine ⟨n2, gy4.me, fun s9 q9 => ?_⟩
  have ev : bv s4 y = bv s y := gy4.bv
  rw [ev] at q9
  have f9 : frm fcP s s9 := fun k hk => by
    unfold fcP at hk
    rw [q9.1 k (by unfold bxP; omega), q4.1 k (by unfold bxP; omega)]
  have g139 : BG s9 139 (bv s x) := q4.2.fr (q9.1 139 (by unfold bxP; omega)) (q9.1 _ (by unfold bxP; omega))
  have key : ∀ f, f ≤ 249 → 2 ≤ f → ∀ s1 a b D, frm fcP s s1 → BG s1 139 a → BG s1 141 b → 0 < D → a * D = bv s x → b * D = bv s y → (∀ e : Int, 2 ≤ e → e < f → ¬ (a % e = 0 ∧ b % e = 0)) → kK mX5_putBig 18 [jR 138, jU, jU, jI f, jU, jU] [] s1 (fun r s' => r = none ∧ frm fcP s s' ∧ FC s' (bv s x) (bv s y)) := by
    refine lp_up 249 _ (fun f hf ih f2 s1 a b D f1 ga gb D0 ea eb cop => ?_)
    refine g_X5_putBig_18 hb hc ⟨by unfold jr32; omega, fun q => ⟨rfl, f1, ?_⟩, fun q => ?_⟩
    · have a0 := ga.b
      have b0 := gb.b
      have a1 : 1 ≤ a := by
        by_cases c : a = 0
        · rw [c, Int.zero_mul] at ea; omega
        · omega
      obtain ⟨z1, z2⟩ := gc_uq (a := bv s x) (b := bv s y) (x := a) (y := b) (d := D) a0.1 b0.1 D0 ea eb (fun e h1 h2 => by
        by_cases e1 : e = 1
        · exact e1
        · exfalso
          have e0 : e ≠ 0 := fun c => by
            subst c
            have := Nat.eq_zero_of_zero_dvd h1
            omega
          have eA : e ∣ (bv s x).toNat := by
            obtain ⟨k, hk⟩ := h1
            obtain ⟨m, hm⟩ := nat_of (show 0 ≤ D by omega)
            have ha : a = ((e * k : Nat) : Int) := by omega
            refine ⟨k * m, ?_⟩
            rw [← ea, ha, hm, ← Int.natCast_mul, Int.toNat_natCast, Nat.mul_assoc]
          obtain ⟨d, d1, d2, d3⟩ := sm e (by omega) eA
          have dv : ∀ z : Int, 0 ≤ z → d ∣ z.toNat → z % (d : Int) = 0 := fun z z0 hz => by
            obtain ⟨k, hk⟩ := hz
            have : z = (d : Int) * (k : Int) := by rw [← Int.natCast_mul]; omega
            rw [this]
            exact Int.mul_emod_right _ _
          exact cop (d : Int) (by omega) (by omega) ⟨dv a a0.1 (Nat.dvd_trans d3 h1), dv b b0.1 (Nat.dvd_trans d3 h2)⟩)
      unfold FC
      rw [← z1, ← z2]
      exact ⟨ga, gb⟩
    · have k33 : ∀ i, i ≤ 480 → 0 ≤ i → ∀ s2 a2 b2 E, frm fcP s s2 → BG s2 139 a2 → BG s2 141 b2 → 0 < E → a2 * E = bv s x → b2 * E = bv s y → (∀ e : Int, 2 ≤ e → e < f → ¬ (a2 % e = 0 ∧ b2 % e = 0)) → a2 * f ^ i.toNat ≤ bv s x → kK mX5_putBig 33 [jR 138, jU, jU, jI f, jI 480, jI i] [] s2 (fun r s' => r = none ∧ frm fcP s s' ∧ FC s' (bv s x) (bv s y)) := by
        refine lp_up 480 _ (fun i hi jh i0 s2 a2 b2 E f2' ga2 gb2 E0 ea2 eb2 cop2 pw => ?_)
        have a0 := ga2.b
        have a1 : 1 ≤ a2 := by
          by_cases c : a2 = 0
          · rw [c, Int.zero_mul] at ea2; omega
          · omega
        have ev1 : bv s2 139 = a2 := ga2.bv
        have ev2 : bv s2 141 = b2 := gb2.bv
        have nxt : ¬ (a2 % f = 0 ∧ b2 % f = 0) → kK mX5_putBig 18 [jR 138, jU, jU, jI (f + 1), jU, jU] [] s2 (fun r s' => r = none ∧ frm fcP s s' ∧ FC s' (bv s x) (bv s y)) := fun nd => by
          refine ih (by omega) (by omega) s2 a2 b2 E f2' ga2 gb2 E0 ea2 eb2 (fun e e0 e1 => ?_)
          by_cases c : e = f
          · rw [c]; exact nd
          · exact cop2 e e0 (by omega)
        refine g_X5_putBig_33 hb hc ?_
        rw [ev1, ev2]
        have m0 := Int.emod_nonneg a2 (show f ≠ 0 by omega)
        have m1 := Int.emod_lt_of_pos a2 (show 0 < f by omega)
        have m2 := Int.emod_nonneg b2 (show f ≠ 0 by omega)
        have m3 := Int.emod_lt_of_pos b2 (show 0 < f by omega)
        refine ⟨by unfold jr32; omega, by decide, fun q2 => ?_, fun q2 => ⟨ga2, by omega, by unfold jr32; omega, fun q3 => nxt (fun c => q3 c.1), fun q3 => ⟨gb2, by unfold jr32; omega, fun q4 => nxt (fun c => q4 c.2), fun q4 s12 q12 => ?_⟩⟩⟩
        · exfalso
          have e : i = 480 := by omega
          rw [e, show Int.toNat 480 = 480 from rfl] at pw
          have b := ipow_b (a := 2) (b := f) (by decide) f2 480
          have c := Int.mul_le_mul_of_nonneg_right a1 (show 0 ≤ f ^ 480 by
            have : 0 < f ^ 480 := Int.pow_pos (by omega)
            omega)
          rw [bp16_2] at bx
          omega
        · have gb12 : BG s12 141 b2 := gb2.fr (q12.1 141 (by unfold bxP; omega)) (q12.1 _ (by unfold bxP; omega))
          have ev3 : bv s12 141 = b2 := gb12.bv
          refine ⟨gb12.me, fun s16 q16 => ?_⟩
          rw [ev3] at q16
          have da : a2 / f * f = a2 := by
            have := Int.emod_add_mul_ediv a2 f
            rw [q3, Int.mul_comm] at this
            omega
          have db : b2 / f * f = b2 := by
            have := Int.emod_add_mul_ediv b2 f
            rw [q4, Int.mul_comm] at this
            omega
          refine jh (by omega) (by omega) s16 (a2 / f) (b2 / f) (f * E) (fun k hk => ?_) (q12.2.fr (q16.1 139 (by unfold bxP; omega)) (q16.1 _ (by unfold bxP; omega))) q16.2 (Int.mul_pos (by omega) E0) (by rw [← Int.mul_assoc, da]; exact ea2) (by rw [← Int.mul_assoc, db]; exact eb2) (fun e e0 e1 c => cop2 e e0 e1 ⟨?_, ?_⟩) ?_
          · unfold fcP at hk
            rw [q16.1 k (by unfold bxP; omega), q12.1 k (by unfold bxP; omega), f2' k (by unfold fcP; omega)]
          · rw [← da]
            exact Int.emod_eq_zero_of_dvd (Int.dvd_trans (Int.dvd_of_emod_eq_zero c.1) (Int.dvd_mul_right _ _))
          · rw [← db]
            exact Int.emod_eq_zero_of_dvd (Int.dvd_trans (Int.dvd_of_emod_eq_zero c.2) (Int.dvd_mul_right _ _))
          · rw [show (i + 1).toNat = i.toNat + 1 by omega, Int.pow_succ, show a2 / f * (f ^ i.toNat * f) = (a2 / f * f) * f ^ i.toNat by grind, da]
            exact pw
      have aA : a ≤ bv s x := by
        have := Int.mul_le_mul_of_nonneg_left (show 1 ≤ D by omega) ga.b.1
        omega
      exact k33 0 (by omega) (by omega) s1 a b D f1 ga gb D0 ea eb cop (by rw [show Int.toNat 0 = 0 from rfl, Int.pow_zero]; omega)
  exact key 2 (by omega) (by omega) s9 (bv s x) (bv s y) 1 f9 g139 q9.2 (by omega) (by omega) (by omega) (fun e e0 e1 => by omega)
