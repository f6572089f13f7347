theorem g_J6_numberOfTrailingZeros_0f7a4 {s : Int → Int → Int} {Q : Option jV → (Int → Int → Int) → Prop} {v0 : Int} (v : ((1 ≤ v0 ∧ v0 < 256) ∧ jr32 ((2 : Int) ^ Int.toNat (tz v0) - 1) ∧ ((0 < ((2 : Int) ^ Int.toNat (tz v0) - 1) → ((((2 : Int) ^ Int.toNat (tz v0) - 1) ≤ 65536 → kK mJ6_numberOfTrailingZeros_0f7a4 34 [jI ((2 : Int) ^ Int.toNat (tz v0) - 1), jI 1] [] s Q) ∧ (¬ (((2 : Int) ^ Int.toNat (tz v0) - 1) ≤ 65536) → ((0 ≤ ((2 : Int) ^ Int.toNat (tz v0) - 1) ∧ ((2 : Int) ^ Int.toNat (tz v0) - 1) ≤ 2147483647) ∧ kK mJ6_numberOfTrailingZeros_0f7a4 34 [jI (((2 : Int) ^ Int.toNat (tz v0) - 1) / 2 ^ Int.toNat 16), jI (1 + 16)] [] s Q)))) ∧ (¬ (0 < ((2 : Int) ^ Int.toNat (tz v0) - 1)) → ((0 ≤ ((2 : Int) ^ Int.toNat (tz v0) - 1)) ∧ Q (some (jI (jand ((2 : Int) ^ Int.toNat (tz v0) - 1) 32))) s))))) : kR mJ6_numberOfTrailingZeros_0f7a4 [jI v0] s Q := by
  show kK mJ6_numberOfTrailingZeros_0f7a4 0 [jI v0, jU] [] s Q
  obtain ⟨a1, a2, v⟩ := v
  refine k_iload_n dJ6_numberOfTrailingZeros_0f7a4_0 rfl ?_
  refine k_iconst dJ6_numberOfTrailingZeros_0f7a4_1 ?_
  refine k_not dJ6_numberOfTrailingZeros_0f7a4_2 ?_
  refine k_iload_n dJ6_numberOfTrailingZeros_0f7a4_3 rfl ?_
  refine k_iconst dJ6_numberOfTrailingZeros_0f7a4_4 ?_
  refine k_isub dJ6_numberOfTrailingZeros_0f7a4_5 ?_
  refine k_iand _ dJ6_numberOfTrailingZeros_0f7a4_6 (jtz32 a1) ?_
  refine k_istore_n [jI ((2 : Int) ^ Int.toNat (tz v0) - 1), jU] dJ6_numberOfTrailingZeros_0f7a4_7 rfl rfl ?_
  refine k_iload_n dJ6_numberOfTrailingZeros_0f7a4_8 rfl ?_
  obtain ⟨vt, vf⟩ := v
  refine k_if_gt 17 dJ6_numberOfTrailingZeros_0f7a4_9 rfl a2 (fun c3 => ?_) (fun c3 => ?_)
  · have v := vt c3
    refine k_iconst dJ6_numberOfTrailingZeros_0f7a4_17 ?_
    refine k_istore_n [jI ((2 : Int) ^ Int.toNat (tz v0) - 1), jI 1] dJ6_numberOfTrailingZeros_0f7a4_18 rfl rfl ?_
    refine k_iload_n dJ6_numberOfTrailingZeros_0f7a4_19 rfl ?_
    refine k_ldcw (65536) (65536) dJ6_numberOfTrailingZeros_0f7a4_20 ki_J6_264 rfl ?_
    obtain ⟨vt, vf⟩ := v
    refine k_icmp_le 34 dJ6_numberOfTrailingZeros_0f7a4_23 rfl a2 (by decide) (fun c4 => ?_) (fun c4 => ?_)
    · have v := vt c4
      exact v
    · have v := vf c4
      obtain ⟨a5, v⟩ := v
      refine k_iinc [jI ((2 : Int) ^ Int.toNat (tz v0) - 1), jI (1 + 16)] dJ6_numberOfTrailingZeros_0f7a4_26 rfl rfl rfl ?_
      refine k_iload_n dJ6_numberOfTrailingZeros_0f7a4_29 rfl ?_
      refine k_bipush dJ6_numberOfTrailingZeros_0f7a4_30 rfl ?_
      refine k_ushr dJ6_numberOfTrailingZeros_0f7a4_32 a5 (by decide) ?_
      refine k_istore_n [jI (((2 : Int) ^ Int.toNat (tz v0) - 1) / 2 ^ Int.toNat 16), jI (1 + 16)] dJ6_numberOfTrailingZeros_0f7a4_33 rfl rfl ?_
      exact v
  · have v := vf c3
    obtain ⟨a6, v⟩ := v
    refine k_iload_n dJ6_numberOfTrailingZeros_0f7a4_12 rfl ?_
    refine k_bipush dJ6_numberOfTrailingZeros_0f7a4_13 rfl ?_
    refine k_and dJ6_numberOfTrailingZeros_0f7a4_15 a6 (by decide) ?_
    exact k_ireturn (st := []) dJ6_numberOfTrailingZeros_0f7a4_16 rfl v
theorem g_J6_numberOfTrailingZeros_0f7a4_34 {s : Int → Int → Int} {Q : Option jV → (Int → Int → Int) → Prop} {v0 v1 : Int} (v : (jr32 v0 ∧ ((v0 ≤ 256 → kK mJ6_numberOfTrailingZeros_0f7a4 49 [jI v0, jI v1] [] s Q) ∧ (¬ (v0 ≤ 256) → ((0 ≤ v0 ∧ v0 ≤ 2147483647) ∧ kK mJ6_numberOfTrailingZeros_0f7a4 49 [jI (v0 / 2 ^ Int.toNat 8), jI (v1 + 8)] [] s Q))))) : kK mJ6_numberOfTrailingZeros_0f7a4 34 [jI v0, jI v1] [] s Q := by
  obtain ⟨a1, v⟩ := v
  refine k_iload_n dJ6_numberOfTrailingZeros_0f7a4_34 rfl ?_
  refine k_sipush dJ6_numberOfTrailingZeros_0f7a4_35 rfl ?_
  obtain ⟨vt, vf⟩ := v
  refine k_icmp_le 49 dJ6_numberOfTrailingZeros_0f7a4_38 rfl a1 (by decide) (fun c2 => ?_) (fun c2 => ?_)
  · have v := vt c2
    exact v
  · have v := vf c2
    obtain ⟨a3, v⟩ := v
    refine k_iinc [jI v0, jI (v1 + 8)] dJ6_numberOfTrailingZeros_0f7a4_41 rfl rfl rfl ?_
    refine k_iload_n dJ6_numberOfTrailingZeros_0f7a4_44 rfl ?_
    refine k_bipush dJ6_numberOfTrailingZeros_0f7a4_45 rfl ?_
    refine k_ushr dJ6_numberOfTrailingZeros_0f7a4_47 a3 (by decide) ?_
    refine k_istore_n [jI (v0 / 2 ^ Int.toNat 8), jI (v1 + 8)] dJ6_numberOfTrailingZeros_0f7a4_48 rfl rfl ?_
    exact v
theorem g_J6_numberOfTrailingZeros_0f7a4_49 {s : Int → Int → Int} {Q : Option jV → (Int → Int → Int) → Prop} {v0 v1 : Int} (v : (jr32 v0 ∧ ((v0 ≤ 16 → kK mJ6_numberOfTrailingZeros_0f7a4 62 [jI v0, jI v1] [] s Q) ∧ (¬ (v0 ≤ 16) → ((0 ≤ v0 ∧ v0 ≤ 2147483647) ∧ kK mJ6_numberOfTrailingZeros_0f7a4 62 [jI (v0 / 2 ^ Int.toNat 4), jI (v1 + 4)] [] s Q))))) : kK mJ6_numberOfTrailingZeros_0f7a4 49 [jI v0, jI v1] [] s Q := by
  obtain ⟨a1, v⟩ := v
  refine k_iload_n dJ6_numberOfTrailingZeros_0f7a4_49 rfl ?_
  refine k_bipush dJ6_numberOfTrailingZeros_0f7a4_50 rfl ?_
  obtain ⟨vt, vf⟩ := v
  refine k_icmp_le 62 dJ6_numberOfTrailingZeros_0f7a4_52 rfl a1 (by decide) (fun c2 => ?_) (fun c2 => ?_)
  · have v := vt c2
    exact v
  · have v := vf c2
    obtain ⟨a3, v⟩ := v
    refine k_iinc [jI v0, jI (v1 + 4)] dJ6_numberOfTrailingZeros_0f7a4_55 rfl rfl rfl ?_
    refine k_iload_n dJ6_numberOfTrailingZeros_0f7a4_58 rfl ?_
    refine k_iconst dJ6_numberOfTrailingZeros_0f7a4_59 ?_
    refine k_ushr dJ6_numberOfTrailingZeros_0f7a4_60 a3 (by decide) ?_
    refine k_istore_n [jI (v0 / 2 ^ Int.toNat 4), jI (v1 + 4)] dJ6_numberOfTrailingZeros_0f7a4_61 rfl rfl ?_
    exact v
theorem g_J6_numberOfTrailingZeros_0f7a4_62 {s : Int → Int → Int} {Q : Option jV → (Int → Int → Int) → Prop} {v0 v1 : Int} (v : (jr32 v0 ∧ ((v0 ≤ 4 → kK mJ6_numberOfTrailingZeros_0f7a4 74 [jI v0, jI v1] [] s Q) ∧ (¬ (v0 ≤ 4) → ((0 ≤ v0 ∧ v0 ≤ 2147483647) ∧ kK mJ6_numberOfTrailingZeros_0f7a4 74 [jI (v0 / 2 ^ Int.toNat 2), jI (v1 + 2)] [] s Q))))) : kK mJ6_numberOfTrailingZeros_0f7a4 62 [jI v0, jI v1] [] s Q := by
  obtain ⟨a1, v⟩ := v
  refine k_iload_n dJ6_numberOfTrailingZeros_0f7a4_62 rfl ?_
  refine k_iconst dJ6_numberOfTrailingZeros_0f7a4_63 ?_
  obtain ⟨vt, vf⟩ := v
  refine k_icmp_le 74 dJ6_numberOfTrailingZeros_0f7a4_64 rfl a1 (by decide) (fun c2 => ?_) (fun c2 => ?_)
  · have v := vt c2
    exact v
  · have v := vf c2
    obtain ⟨a3, v⟩ := v
    refine k_iinc [jI v0, jI (v1 + 2)] dJ6_numberOfTrailingZeros_0f7a4_67 rfl rfl rfl ?_
    refine k_iload_n dJ6_numberOfTrailingZeros_0f7a4_70 rfl ?_
    refine k_iconst dJ6_numberOfTrailingZeros_0f7a4_71 ?_
    refine k_ushr dJ6_numberOfTrailingZeros_0f7a4_72 a3 (by decide) ?_
    refine k_istore_n [jI (v0 / 2 ^ Int.toNat 2), jI (v1 + 2)] dJ6_numberOfTrailingZeros_0f7a4_73 rfl rfl ?_
    exact v
theorem g_J6_numberOfTrailingZeros_0f7a4_74 {s : Int → Int → Int} {Q : Option jV → (Int → Int → Int) → Prop} {v0 v1 : Int} (v : ((0 ≤ v0 ∧ v0 ≤ 2147483647) ∧ Q (some (jI (v1 + (v0 / 2 ^ Int.toNat 1)))) s)) : kK mJ6_numberOfTrailingZeros_0f7a4 74 [jI v0, jI v1] [] s Q := by
  obtain ⟨a1, v⟩ := v
  refine k_iload_n dJ6_numberOfTrailingZeros_0f7a4_74 rfl ?_
  refine k_iload_n dJ6_numberOfTrailingZeros_0f7a4_75 rfl ?_
  refine k_iconst dJ6_numberOfTrailingZeros_0f7a4_76 ?_
  refine k_ushr dJ6_numberOfTrailingZeros_0f7a4_77 a1 (by decide) ?_
  refine k_iadd dJ6_numberOfTrailingZeros_0f7a4_78 ?_
  exact k_ireturn (st := []) dJ6_numberOfTrailingZeros_0f7a4_79 rfl v
theorem sp_J6_ntz (s : Int → Int → Int) (x : Int) (h : 1 ≤ x ∧ x < 256) : kM mJ6_numberOfTrailingZeros_0f7a4 [jI x] s (some (jI (tz x))) s := by
  have hz := (tz_f h).1
  refine g_J6_numberOfTrailingZeros_0f7a4 ⟨h, ?_⟩
  have : tz x = 0 ∨ tz x = 1 ∨ tz x = 2 ∨ tz x = 3 ∨ tz x = 4 ∨ tz x = 5 ∨ tz x = 6 ∨ tz x = 7 := by omega
  rcases this with e | e | e | e | e | e | e | e <;> rw [e] <;> simp [jr32, jand] <;> refine g_J6_numberOfTrailingZeros_0f7a4_34 ?_ <;> simp [jr32] <;> refine g_J6_numberOfTrailingZeros_0f7a4_49 ?_ <;> simp [jr32] <;> refine g_J6_numberOfTrailingZeros_0f7a4_62 ?_ <;> simp [jr32] <;> refine g_J6_numberOfTrailingZeros_0f7a4_74 ?_ <;> simp [jr32]
theorem g_X6_takeAhead {s : Int → Int → Int} {Q : Option jV → (Int → Int → Int) → Prop} {v1 : Int} (v : kK mX6_takeAhead 2 [jR 97, jI v1, jI 0, jU, jU] [] s Q) : kR mX6_takeAhead [jR 97, jI v1] s Q := by
  show kK mX6_takeAhead 0 [jR 97, jI v1, jU, jU, jU] [] s Q
  refine k_iconst dX6_takeAhead_0 ?_
  refine k_istore_n [jR 97, jI v1, jI 0, jU, jU] dX6_takeAhead_1 rfl rfl ?_
  exact v
theorem g_X6_takeAhead_2 {s : Int → Int → Int} {Q : Option jV → (Int → Int → Int) → Prop} {v1 v2 : Int} (v : (jr32 v2 ∧ jr32 v1 ∧ ((v1 ≤ v2 → Q none s) ∧ (¬ (v1 ≤ v2) → kK mX6_takeAhead 9 [jR 97, jI v1, jI v2, jI 1, jU] [] s Q)))) : kK mX6_takeAhead 2 [jR 97, jI v1, jI v2, jU, jU] [] s Q := by
  obtain ⟨a1, a2, v⟩ := v
  refine k_iload_n dX6_takeAhead_2 rfl ?_
  refine k_iload_n dX6_takeAhead_3 rfl ?_
  obtain ⟨vt, vf⟩ := v
  refine k_icmp_ge 64 dX6_takeAhead_4 rfl a1 a2 (fun c3 => ?_) (fun c3 => ?_)
  · have v := vt c3
    exact k_return (st := []) dX6_takeAhead_64 rfl v
  · have v := vf c3
    refine k_iconst dX6_takeAhead_7 ?_
    refine k_istore_n [jR 97, jI v1, jI v2, jI 1, jU] dX6_takeAhead_8 rfl rfl ?_
    exact v
theorem g_X6_takeAhead_9 {s : Int → Int → Int} {Q : Option jV → (Int → Int → Int) → Prop} {v1 v2 v3 : Int} (v : ((0 ≤ v1 ∧ v1 ≤ 31) ∧ jr32 v3 ∧ jr32 ((1 : Int) * 2 ^ Int.toNat v1) ∧ ((((1 : Int) * 2 ^ Int.toNat v1) ≤ v3 → kK mX6_takeAhead 2 [jR 97, jI v1, jI (v2 + 1), jU, jU] [] s Q) ∧ (¬ (((1 : Int) * 2 ^ Int.toNat v1) ≤ v3) → ((1 ≤ v3 ∧ v3 < 256) ∧ (0 ≤ v2 ∧ v2 < 8) ∧ (0 ≤ v3) ∧ (0 ≤ (v3 - 1)) ∧ (0 ≤ (jand v3 (v3 - 1)) ∧ (jand v3 (v3 - 1)) < 256) ∧ (0 ≤ (tz v3) ∧ (tz v3) < 8) ∧ (0 ≤ v3 ∧ v3 < 256) ∧ kK mX6_takeAhead 9 [jR 97, jI v1, jI v2, jI (v3 + 1), jU] [] (w2 s (111 + v2) v3 ((s (111 + v2) (jand v3 (v3 - 1))) + (s (102 + (tz v3)) v2))) Q))))) : kK mX6_takeAhead 9 [jR 97, jI v1, jI v2, jI v3, jU] [] s Q := by
  obtain ⟨a1, a2, a3, v⟩ := v
  refine k_iload_n dX6_takeAhead_9 rfl ?_
  refine k_iconst dX6_takeAhead_10 ?_
  refine k_iload_n dX6_takeAhead_11 rfl ?_
  refine k_shl dX6_takeAhead_12 a1 ?_
  obtain ⟨vt, vf⟩ := v
  refine k_icmp_ge 58 dX6_takeAhead_13 rfl a2 a3 (fun c4 => ?_) (fun c4 => ?_)
  · have v := vt c4
    refine k_iinc [jR 97, jI v1, jI (v2 + 1), jI v3, jU] dX6_takeAhead_58 rfl rfl rfl ?_
    refine k_goto 2 dX6_takeAhead_61 rfl ?_
    refine k_drop [jR 97, jI v1, jI (v2 + 1), jU, jU] ⟨Or.inr rfl, Or.inr rfl, Or.inr rfl, Or.inl rfl, Or.inr rfl, trivial⟩ ?_
    exact v
  · have v := vf c4
    obtain ⟨a5, a6, a7, a8, a9, a10, a11, v⟩ := v
    refine k_iload_n dX6_takeAhead_16 rfl ?_
    refine k_invS [jI v3] [] dX6_takeAhead_17 cm_J6_numberOfTrailingZeros_0f7a4 ml_X6_49 st_J6_numberOfTrailingZeros_0f7a4 rfl rfl (sp_J6_ntz s v3 a5) ?_
    refine k_istore [jR 97, jI v1, jI v2, jI v3, jI (tz v3)] dX6_takeAhead_20 rfl rfl ?_
    refine k_aload_n dX6_takeAhead_22 rfl ?_
    refine k_getr dX6_takeAhead_23 fl_X6_26 sh_97 (by decide) rfl ?_
    refine k_iload_n dX6_takeAhead_26 rfl ?_
    refine k_aald 8 dX6_takeAhead_27 sh_110 (Or.inl rfl) (by decide) rfl (by decide) rfl a6 ?_
    refine k_iload_n dX6_takeAhead_28 rfl ?_
    refine k_aload_n dX6_takeAhead_29 rfl ?_
    refine k_getr dX6_takeAhead_30 fl_X6_26 sh_97 (by decide) rfl ?_
    refine k_iload_n dX6_takeAhead_33 rfl ?_
    refine k_aald 8 dX6_takeAhead_34 sh_110 (Or.inl rfl) (by decide) rfl (by decide) rfl a6 ?_
    refine k_iload_n dX6_takeAhead_35 rfl ?_
    refine k_iload_n dX6_takeAhead_36 rfl ?_
    refine k_iconst dX6_takeAhead_37 ?_
    refine k_isub dX6_takeAhead_38 ?_
    refine k_and dX6_takeAhead_39 a7 a8 ?_
    refine k_iald 256 dX6_takeAhead_40 (sr_110 v2 a6) ⟨by have := a6; omega, by have := a6; omega⟩ rfl (by decide) a9 ?_
    refine k_aload_n dX6_takeAhead_41 rfl ?_
    refine k_getr dX6_takeAhead_42 fl_X6_23 sh_97 (by decide) rfl ?_
    refine k_iload dX6_takeAhead_45 rfl ?_
    refine k_aald 8 dX6_takeAhead_47 sh_101 (Or.inl rfl) (by decide) rfl (by decide) rfl a10 ?_
    refine k_iload_n dX6_takeAhead_48 rfl ?_
    refine k_iald 8 dX6_takeAhead_49 (sr_101 (tz v3) a10) ⟨by have := a10; omega, by have := a10; omega⟩ rfl (by decide) a6 ?_
    refine k_iadd dX6_takeAhead_50 ?_
    refine k_iast 256 dX6_takeAhead_51 (sr_110 v2 a6) ⟨by have := a6; omega, by have := a6; omega⟩ rfl (by decide) a11 ?_
    refine k_iinc [jR 97, jI v1, jI v2, jI (v3 + 1), jI (tz v3)] dX6_takeAhead_52 rfl rfl rfl ?_
    refine k_goto 9 dX6_takeAhead_55 rfl ?_
    refine k_drop [jR 97, jI v1, jI v2, jI (v3 + 1), jU] ⟨Or.inr rfl, Or.inr rfl, Or.inr rfl, Or.inr rfl, Or.inl rfl, trivial⟩ ?_
    exact v
theorem sp_X6_takeAhead (s0 : Int → Int → Int) (n : Int) (h : SOC s0) (hn : n = s0 146 2) : kR mX6_takeAhead [jR 97, jI n] s0 (fun r s' => r = none ∧ frm ahP s0 s' ∧ AH s0 s') := by
  subst hn
  have so := h.so
  have p2 := p2_256 so.1.1 so.1.2
  have n8 := so.1
  refine g_X6_takeAhead ?_
  have key : ∀ p, p ≤ s0 146 2 → 0 ≤ p → ∀ s, frm ahP s0 s → A0 s → (∀ p' set, 0 ≤ p' → p' < p → 0 ≤ set → set < 2 ^ (s0 146 2).toNat → s (111 + p') set = ahm s0 p' set) → kK mX6_takeAhead 2 [jR 97, jI (s0 146 2), jI p, jU, jU] [] s (fun r s' => r = none ∧ frm ahP s0 s' ∧ AH s0 s') := by
    refine lp_up _ _ (fun p hp ih h0 s fs gs hc => ?_)
    refine g_X6_takeAhead_2 ⟨by unfold jr32; omega, by unfold jr32; omega, fun q => ⟨rfl, fs, gs, fun p' set a b c d => hc p' set a (by omega) c d⟩, fun q => ?_⟩
    have inner : ∀ r, r ≤ 2 ^ (s0 146 2).toNat → 1 ≤ r → ∀ s, frm ahP s0 s → A0 s → (∀ p' set, 0 ≤ p' → (p' < p ∨ p' = p ∧ set < r) → 0 ≤ set → set < 2 ^ (s0 146 2).toNat → s (111 + p') set = ahm s0 p' set) → kK mX6_takeAhead 9 [jR 97, jI (s0 146 2), jI p, jI r, jU] [] s (fun r s' => r = none ∧ frm ahP s0 s' ∧ AH s0 s') := by
      refine lp_up _ _ (fun r hr jh r0 s fs gs hc => ?_)
      refine g_X6_takeAhead_9 ?_
      rw [Int.one_mul]
      refine ⟨by omega, by unfold jr32; omega, by unfold jr32; omega, fun q2 => ih (by omega) (by omega) s fs gs (fun p' set a b c d => hc p' set a (by omega) c d), fun q2 => ?_⟩
      obtain ⟨z1, z2, z3⟩ := tz_f (a := r) ⟨r0, by omega⟩
      have zo := (bt_off (a := r) (by omega) z1 z2).1
      have zp := p2_pos (tz r)
      rw [z3]
      refine ⟨by omega, by omega, by omega, by omega, by omega, by omega, by omega, ?_⟩
      rw [hc p (r - 2 ^ (tz r).toNat) h0 (by omega) (by omega) (by omega), fs (102 + tz r) (by unfold ahP; omega), h.2.1.2.2.2.2.2 (tz r) p (by omega) (by omega) (by omega) (by omega), ← ahm_st so (by omega) z1 z2]
      refine jh (by omega) (by omega) _ (fs.s2 (by unfold ahP; omega)) (fun t t0 t1 => ?_) (fun p' set a b c d => ?_)
      · by_cases e : t = p
        · rw [e, w2_i (by omega)]; exact gs p (by omega) (by omega)
        · rw [w2_k (by omega)]; exact gs t t0 t1
      · by_cases e : p' = p
        · rw [e]
          by_cases e2 : set = r
          · rw [e2, w2_s]
          · rw [w2_i e2]; exact hc p set h0 (by omega) c d
        · rw [w2_k (by omega)]; exact hc p' set a (by omega) c d
    exact inner 1 (by have := p2_pos (s0 146 2); omega) (by omega) s fs gs (fun p' set a b c d => by
      by_cases e : p' < p
      · exact hc p' set a e c d
      · rw [show set = 0 by omega, gs p' a (by omega), ahm_0])
  exact key 0 (by omega) (by omega) s0 frm.rf h.2.2 (fun p' set a b => by omega)
theorem g_X6_againstFirst {s : Int → Int → Int} {Q : Option jV → (Int → Int → Int) → Prop} {v1 v2 : Int} (v : ((0 ≤ v1 ∧ v1 ≤ 31) ∧ (0 ≤ v2 ∧ v2 < 256) ∧ (0 ≤ v1 ∧ v1 < 8) ∧ (0 ≤ (v2 - v2 / 2 ^ Int.toNat v1 % 2 * 2 ^ Int.toNat v1) ∧ (v2 - v2 / 2 ^ Int.toNat v1 % 2 * 2 ^ Int.toNat v1) < 256) ∧ Q (some (jI ((s (111 + v1) (v2 - v2 / 2 ^ Int.toNat v1 % 2 * 2 ^ Int.toNat v1)) + (s 119 (v2 - v2 / 2 ^ Int.toNat v1 % 2 * 2 ^ Int.toNat v1))))) s)) : kR mX6_againstFirst [jR 97, jI v1, jI v2] s Q := by
  show kK mX6_againstFirst 0 [jR 97, jI v1, jI v2, jU] [] s Q
  obtain ⟨a1, a2, a3, a4, v⟩ := v
  refine k_iload_n dX6_againstFirst_0 rfl ?_
  refine k_iconst dX6_againstFirst_1 ?_
  refine k_iload_n dX6_againstFirst_2 rfl ?_
  refine k_shl dX6_againstFirst_3 a1 ?_
  refine k_iconst dX6_againstFirst_4 ?_
  refine k_not dX6_againstFirst_5 ?_
  refine k_andn dX6_againstFirst_6 a2 a3 ?_
  refine k_istore_n [jR 97, jI v1, jI v2, jI (v2 - v2 / 2 ^ Int.toNat v1 % 2 * 2 ^ Int.toNat v1)] dX6_againstFirst_7 rfl rfl ?_
  refine k_aload_n dX6_againstFirst_8 rfl ?_
  refine k_getr dX6_againstFirst_9 fl_X6_26 sh_97 (by decide) rfl ?_
  refine k_iload_n dX6_againstFirst_12 rfl ?_
  refine k_aald 8 dX6_againstFirst_13 sh_110 (Or.inl rfl) (by decide) rfl (by decide) rfl a3 ?_
  refine k_iload_n dX6_againstFirst_14 rfl ?_
  refine k_iald 256 dX6_againstFirst_15 (sr_110 v1 a3) ⟨by have := a3; omega, by have := a3; omega⟩ rfl (by decide) a4 ?_
  refine k_aload_n dX6_againstFirst_16 rfl ?_
  refine k_getr dX6_againstFirst_17 fl_X6_29 sh_97 (by decide) rfl ?_
  refine k_iload_n dX6_againstFirst_20 rfl ?_
  refine k_iald 256 dX6_againstFirst_21 sh_119 (by decide) rfl (by decide) a4 ?_
  refine k_iadd dX6_againstFirst_22 ?_
  exact k_ireturn (st := []) dX6_againstFirst_23 rfl v
theorem sp_X6_againstFirst (s : Int → Int → Int) (x set : Int) (hx : 0 ≤ x ∧ x < 8) (hs : 0 ≤ set ∧ set < 256) (hb : bt set x = 1) : kM mX6_againstFirst [jR 97, jI x, jI set] s (some (jI (s (111 + x) (set - 2 ^ x.toNat) + s 119 (set - 2 ^ x.toNat)))) s := by
  have b := (bt_off hs hx hb).1
  have bp := p2_pos x
  have e : set - set / 2 ^ x.toNat % 2 * 2 ^ x.toNat = set - 2 ^ x.toNat := by
    unfold bt at hb
    rw [hb, Int.one_mul]
  refine g_X6_againstFirst ?_
  rw [e]
  exact ⟨by omega, hs, hx, by omega, rfl, rfl⟩
theorem g_X6_fewestAgainst {s : Int → Int → Int} {Q : Option jV → (Int → Int → Int) → Prop} {v1 v2 v3 : Int} (v : ((SOC s) ∧ (v1 = s 146 2) ∧ (∀ (s4 : Int → Int → Int), (frm ahP s s4 ∧ AH s s4) → kK mX6_fewestAgainst 15 [jR 97, jI v1, jI v2, jI v3, jI 1, jU, jU] [] (w2 s4 119 0 0) Q))) : kR mX6_fewestAgainst [jR 97, jI v1, jI v2, jI v3] s Q := by
  show kK mX6_fewestAgainst 0 [jR 97, jI v1, jI v2, jI v3, jU, jU, jU] [] s Q
  obtain ⟨a1, a2, v⟩ := v
  refine k_aload_n dX6_fewestAgainst_0 rfl ?_
  refine k_iload_n dX6_fewestAgainst_1 rfl ?_
  refine k_invVR [jI v1] [] dX6_fewestAgainst_2 cm_X6_takeAhead ml_X6_36 im_X6_takeAhead se_X6_takeAhead rfl sh_97 (by decide) rfl rfl (sp_X6_takeAhead s v1 a1 a2) (fun _ s4 q5 => ?_)
  obtain ⟨rfl, q5⟩ := q5
  have v := v s4 q5
  refine k_aload_n dX6_fewestAgainst_5 rfl ?_
  refine k_getr dX6_fewestAgainst_6 fl_X6_29 sh_97 (by decide) rfl ?_
  refine k_iconst dX6_fewestAgainst_9 ?_
  refine k_iconst dX6_fewestAgainst_10 ?_
  refine k_iast 256 dX6_fewestAgainst_11 sh_119 (by decide) rfl (by decide) (by decide) ?_
  refine k_iconst dX6_fewestAgainst_12 ?_
  refine k_istore [jR 97, jI v1, jI v2, jI v3, jI 1, jU, jU] dX6_fewestAgainst_13 rfl rfl ?_
  exact v
theorem g_X6_fewestAgainst_15 {s : Int → Int → Int} {Q : Option jV → (Int → Int → Int) → Prop} {v1 v2 v3 v4 : Int} (v : ((0 ≤ v1 ∧ v1 ≤ 31) ∧ jr32 v4 ∧ jr32 ((1 : Int) * 2 ^ Int.toNat v1) ∧ ((((1 : Int) * 2 ^ Int.toNat v1) ≤ v4 → ((0 ≤ (((1 : Int) * 2 ^ Int.toNat v1) - 1) ∧ (((1 : Int) * 2 ^ Int.toNat v1) - 1) < 256) ∧ Q (some (jI (s 119 (((1 : Int) * 2 ^ Int.toNat v1) - 1)))) s)) ∧ (¬ (((1 : Int) * 2 ^ Int.toNat v1) ≤ v4) → ((0 ≤ v4 ∧ v4 < 256) ∧ kK mX6_fewestAgainst 35 [jR 97, jI v1, jI v2, jI v3, jI v4, jI 0, jU] [] (w2 s 119 v4 41) Q))))) : kK mX6_fewestAgainst 15 [jR 97, jI v1, jI v2, jI v3, jI v4, jU, jU] [] s Q := by
  obtain ⟨a1, a2, a3, v⟩ := v
  refine k_iload dX6_fewestAgainst_15 rfl ?_
  refine k_iconst dX6_fewestAgainst_17 ?_
  refine k_iload_n dX6_fewestAgainst_18 rfl ?_
  refine k_shl dX6_fewestAgainst_19 a1 ?_
  obtain ⟨vt, vf⟩ := v
  refine k_icmp_ge 117 dX6_fewestAgainst_20 rfl a2 a3 (fun c4 => ?_) (fun c4 => ?_)
  · have v := vt c4
    obtain ⟨a5, v⟩ := v
    refine k_aload_n dX6_fewestAgainst_117 rfl ?_
    refine k_getr dX6_fewestAgainst_118 fl_X6_29 sh_97 (by decide) rfl ?_
    refine k_iconst dX6_fewestAgainst_121 ?_
    refine k_iload_n dX6_fewestAgainst_122 rfl ?_
    refine k_shl dX6_fewestAgainst_123 a1 ?_
    refine k_iconst dX6_fewestAgainst_124 ?_
    refine k_isub dX6_fewestAgainst_125 ?_
    refine k_iald 256 dX6_fewestAgainst_126 sh_119 (by decide) rfl (by decide) a5 ?_
    exact k_ireturn (st := []) dX6_fewestAgainst_127 rfl v
  · have v := vf c4
    obtain ⟨a6, v⟩ := v
    refine k_aload_n dX6_fewestAgainst_23 rfl ?_
    refine k_getr dX6_fewestAgainst_24 fl_X6_29 sh_97 (by decide) rfl ?_
    refine k_iload dX6_fewestAgainst_27 rfl ?_
    refine k_bipush dX6_fewestAgainst_29 rfl ?_
    refine k_iast 256 dX6_fewestAgainst_31 sh_119 (by decide) rfl (by decide) a6 ?_
    refine k_iconst dX6_fewestAgainst_32 ?_
    refine k_istore [jR 97, jI v1, jI v2, jI v3, jI v4, jI 0, jU] dX6_fewestAgainst_33 rfl rfl ?_
    exact v
theorem g_X6_fewestAgainst_35 {s : Int → Int → Int} {Q : Option jV → (Int → Int → Int) → Prop} {v1 v2 v3 v4 v5 : Int} (v : (jr32 v5 ∧ jr32 v1 ∧ ((v1 ≤ v5 → kK mX6_fewestAgainst 15 [jR 97, jI v1, jI v2, jI v3, jI (v4 + 1), jU, jU] [] s Q) ∧ (¬ (v1 ≤ v5) → (jr32 v2 ∧ ((v5 ≠ v2 → ((0 ≤ v5 ∧ v5 ≤ 31) ∧ jr32 v4 ∧ jr32 ((v4 / 2 ^ Int.toNat v5) % 2) ∧ ((((v4 / 2 ^ Int.toNat v5) % 2) ≠ 1 → kK mX6_fewestAgainst 35 [jR 97, jI v1, jI v2, jI v3, jI v4, jI (v5 + 1), jU] [] s Q) ∧ (((v4 / 2 ^ Int.toNat v5) % 2) = 1 → ((0 ≤ v4 ∧ v4 < 256) ∧ (0 ≤ v5 ∧ v5 < 8) ∧ (bt v4 v5 = 1) ∧ jr32 (s 119 v4) ∧ jr32 (s (111 + v5) (v4 - 2 ^ Int.toNat v5) + s 119 (v4 - 2 ^ Int.toNat v5)) ∧ kK mX6_fewestAgainst 35 [jR 97, jI v1, jI v2, jI v3, jI v4, jI (v5 + 1), jU] [] (w2 s 119 v4 (min (s 119 v4) (s (111 + v5) (v4 - 2 ^ Int.toNat v5) + s 119 (v4 - 2 ^ Int.toNat v5)))) Q))))) ∧ (v5 = v2 → ((0 ≤ v3 ∧ v3 ≤ 31) ∧ jr32 v4 ∧ jr32 ((v4 / 2 ^ Int.toNat v3) % 2) ∧ ((((v4 / 2 ^ Int.toNat v3) % 2) ≠ 1 → ((0 ≤ v5 ∧ v5 ≤ 31) ∧ jr32 ((v4 / 2 ^ Int.toNat v5) % 2) ∧ ((((v4 / 2 ^ Int.toNat v5) % 2) ≠ 1 → kK mX6_fewestAgainst 35 [jR 97, jI v1, jI v2, jI v3, jI v4, jI (v5 + 1), jU] [] s Q) ∧ (((v4 / 2 ^ Int.toNat v5) % 2) = 1 → ((0 ≤ v4 ∧ v4 < 256) ∧ (0 ≤ v5 ∧ v5 < 8) ∧ (bt v4 v5 = 1) ∧ jr32 (s 119 v4) ∧ jr32 (s (111 + v5) (v4 - 2 ^ Int.toNat v5) + s 119 (v4 - 2 ^ Int.toNat v5)) ∧ kK mX6_fewestAgainst 35 [jR 97, jI v1, jI v2, jI v3, jI v4, jI (v5 + 1), jU] [] (w2 s 119 v4 (min (s 119 v4) (s (111 + v5) (v4 - 2 ^ Int.toNat v5) + s 119 (v4 - 2 ^ Int.toNat v5)))) Q))))) ∧ (((v4 / 2 ^ Int.toNat v3) % 2) = 1 → ((0 ≤ v5 ∧ v5 ≤ 31) ∧ jr32 ((v4 / 2 ^ Int.toNat v5) % 2) ∧ ((((v4 / 2 ^ Int.toNat v5) % 2) ≠ 1 → kK mX6_fewestAgainst 35 [jR 97, jI v1, jI v2, jI v3, jI v4, jI (v5 + 1), jU] [] s Q) ∧ (((v4 / 2 ^ Int.toNat v5) % 2) = 1 → kK mX6_fewestAgainst 35 [jR 97, jI v1, jI v2, jI v3, jI v4, jI (v5 + 1), jU] [] s Q))))))))))))) : kK mX6_fewestAgainst 35 [jR 97, jI v1, jI v2, jI v3, jI v4, jI v5, jU] [] s Q := by
  obtain ⟨a1, a2, v⟩ := v
  refine k_iload dX6_fewestAgainst_35 rfl ?_
  refine k_iload_n dX6_fewestAgainst_37 rfl ?_
  obtain ⟨vt, vf⟩ := v
  refine k_icmp_ge 111 dX6_fewestAgainst_38 rfl a1 a2 (fun c3 => ?_) (fun c3 => ?_)
  · have v := vt c3
    refine k_iinc [jR 97, jI v1, jI v2, jI v3, jI (v4 + 1), jI v5, jU] dX6_fewestAgainst_111 rfl rfl rfl ?_
    refine k_goto 15 dX6_fewestAgainst_114 rfl ?_
    refine k_drop [jR 97, jI v1, jI v2, jI v3, jI (v4 + 1), jU, jU] ⟨Or.inr rfl, Or.inr rfl, Or.inr rfl, Or.inr rfl, Or.inr rfl, Or.inl rfl, Or.inr rfl, trivial⟩ ?_
    exact v
  · have v := vf c3
    obtain ⟨a4, v⟩ := v
    refine k_iload dX6_fewestAgainst_41 rfl ?_
    refine k_iload_n dX6_fewestAgainst_43 rfl ?_
    obtain ⟨vt, vf⟩ := v
    refine k_icmp_ne 61 dX6_fewestAgainst_44 rfl a1 a4 (fun c5 => ?_) (fun c5 => ?_)
    · have v := vt c5
      obtain ⟨a6, a7, a8, v⟩ := v
      refine k_iconst dX6_fewestAgainst_61 ?_
      refine k_istore [jR 97, jI v1, jI v2, jI v3, jI v4, jI v5, jI 0] dX6_fewestAgainst_62 rfl rfl ?_
      refine k_iload dX6_fewestAgainst_64 rfl ?_
      refine k_iload dX6_fewestAgainst_66 rfl ?_
      refine k_shr dX6_fewestAgainst_68 a7 a6 ?_
      refine k_iconst dX6_fewestAgainst_69 ?_
      refine k_and1 dX6_fewestAgainst_70 ?_
      refine k_iconst dX6_fewestAgainst_71 ?_
      obtain ⟨vt, vf⟩ := v
      refine k_icmp_ne 105 dX6_fewestAgainst_72 rfl a8 (by decide) (fun c9 => ?_) (fun c9 => ?_)
      · have v := vt c9
        refine k_iinc [jR 97, jI v1, jI v2, jI v3, jI v4, jI (v5 + 1), jI 0] dX6_fewestAgainst_105 rfl rfl rfl ?_
        refine k_goto 35 dX6_fewestAgainst_108 rfl ?_
        refine k_drop [jR 97, jI v1, jI v2, jI v3, jI v4, jI (v5 + 1), jU] ⟨Or.inr rfl, Or.inr rfl, Or.inr rfl, Or.inr rfl, Or.inr rfl, Or.inr rfl, Or.inl rfl, trivial⟩ ?_
        exact v
      · have v := vf c9
        obtain ⟨a10, a11, a12, a13, a14, v⟩ := v
        refine k_iload dX6_fewestAgainst_75 rfl ?_
        refine k_if_ne 105 dX6_fewestAgainst_77 rfl (by decide) (fun c => absurd c (by decide)) (fun _ => ?_)
        refine k_aload_n dX6_fewestAgainst_80 rfl ?_
        refine k_getr dX6_fewestAgainst_81 fl_X6_29 sh_97 (by decide) rfl ?_
        refine k_iload dX6_fewestAgainst_84 rfl ?_
        refine k_aload_n dX6_fewestAgainst_86 rfl ?_
        refine k_getr dX6_fewestAgainst_87 fl_X6_29 sh_97 (by decide) rfl ?_
        refine k_iload dX6_fewestAgainst_90 rfl ?_
        refine k_iald 256 dX6_fewestAgainst_92 sh_119 (by decide) rfl (by decide) a10 ?_
        refine k_aload_n dX6_fewestAgainst_93 rfl ?_
        refine k_iload dX6_fewestAgainst_94 rfl ?_
        refine k_iload dX6_fewestAgainst_96 rfl ?_
        refine k_invV [jI v5, jI v4] [jI (s 119 v4), jI v4, jR 119] dX6_fewestAgainst_98 cm_X6_againstFirst ml_X6_40 im_X6_againstFirst se_X6_againstFirst rfl sh_97 (by decide) rfl rfl (sp_X6_againstFirst s v5 v4 a11 a10 a12) ?_
        refine k_mminI dX6_fewestAgainst_101 ml_X6_44 mw_mminI.1 mw_mminI.2.1 mw_mminI.2.2 rfl a13 a14 ?_
        refine k_iast 256 dX6_fewestAgainst_104 sh_119 (by decide) rfl (by decide) a10 ?_
        refine k_iinc [jR 97, jI v1, jI v2, jI v3, jI v4, jI (v5 + 1), jI 0] dX6_fewestAgainst_105 rfl rfl rfl ?_
        refine k_goto 35 dX6_fewestAgainst_108 rfl ?_
        refine k_drop [jR 97, jI v1, jI v2, jI v3, jI v4, jI (v5 + 1), jU] ⟨Or.inr rfl, Or.inr rfl, Or.inr rfl, Or.inr rfl, Or.inr rfl, Or.inr rfl, Or.inl rfl, trivial⟩ ?_
        exact v
    · have v := vf c5
      obtain ⟨a15, a16, a17, v⟩ := v
      refine k_iload dX6_fewestAgainst_47 rfl ?_
      refine k_iload_n dX6_fewestAgainst_49 rfl ?_
      refine k_shr dX6_fewestAgainst_50 a16 a15 ?_
      refine k_iconst dX6_fewestAgainst_51 ?_
      refine k_and1 dX6_fewestAgainst_52 ?_
      refine k_iconst dX6_fewestAgainst_53 ?_
      obtain ⟨vt, vf⟩ := v
      refine k_icmp_ne 61 dX6_fewestAgainst_54 rfl a17 (by decide) (fun c18 => ?_) (fun c18 => ?_)
      · have v := vt c18
        obtain ⟨a19, a20, v⟩ := v
        refine k_iconst dX6_fewestAgainst_61 ?_
        refine k_istore [jR 97, jI v1, jI v2, jI v3, jI v4, jI v5, jI 0] dX6_fewestAgainst_62 rfl rfl ?_
        refine k_iload dX6_fewestAgainst_64 rfl ?_
        refine k_iload dX6_fewestAgainst_66 rfl ?_
        refine k_shr dX6_fewestAgainst_68 a16 a19 ?_
        refine k_iconst dX6_fewestAgainst_69 ?_
        refine k_and1 dX6_fewestAgainst_70 ?_
        refine k_iconst dX6_fewestAgainst_71 ?_
        obtain ⟨vt, vf⟩ := v
        refine k_icmp_ne 105 dX6_fewestAgainst_72 rfl a20 (by decide) (fun c21 => ?_) (fun c21 => ?_)
        · have v := vt c21
          refine k_iinc [jR 97, jI v1, jI v2, jI v3, jI v4, jI (v5 + 1), jI 0] dX6_fewestAgainst_105 rfl rfl rfl ?_
          refine k_goto 35 dX6_fewestAgainst_108 rfl ?_
          refine k_drop [jR 97, jI v1, jI v2, jI v3, jI v4, jI (v5 + 1), jU] ⟨Or.inr rfl, Or.inr rfl, Or.inr rfl, Or.inr rfl, Or.inr rfl, Or.inr rfl, Or.inl rfl, trivial⟩ ?_
          exact v
        · have v := vf c21
          obtain ⟨a22, a23, a24, a25, a26, v⟩ := v
          refine k_iload dX6_fewestAgainst_75 rfl ?_
          refine k_if_ne 105 dX6_fewestAgainst_77 rfl (by decide) (fun c => absurd c (by decide)) (fun _ => ?_)
          refine k_aload_n dX6_fewestAgainst_80 rfl ?_
          refine k_getr dX6_fewestAgainst_81 fl_X6_29 sh_97 (by decide) rfl ?_
          refine k_iload dX6_fewestAgainst_84 rfl ?_
          refine k_aload_n dX6_fewestAgainst_86 rfl ?_
          refine k_getr dX6_fewestAgainst_87 fl_X6_29 sh_97 (by decide) rfl ?_
          refine k_iload dX6_fewestAgainst_90 rfl ?_
          refine k_iald 256 dX6_fewestAgainst_92 sh_119 (by decide) rfl (by decide) a22 ?_
          refine k_aload_n dX6_fewestAgainst_93 rfl ?_
          refine k_iload dX6_fewestAgainst_94 rfl ?_
          refine k_iload dX6_fewestAgainst_96 rfl ?_
          refine k_invV [jI v5, jI v4] [jI (s 119 v4), jI v4, jR 119] dX6_fewestAgainst_98 cm_X6_againstFirst ml_X6_40 im_X6_againstFirst se_X6_againstFirst rfl sh_97 (by decide) rfl rfl (sp_X6_againstFirst s v5 v4 a23 a22 a24) ?_
          refine k_mminI dX6_fewestAgainst_101 ml_X6_44 mw_mminI.1 mw_mminI.2.1 mw_mminI.2.2 rfl a25 a26 ?_
          refine k_iast 256 dX6_fewestAgainst_104 sh_119 (by decide) rfl (by decide) a22 ?_
          refine k_iinc [jR 97, jI v1, jI v2, jI v3, jI v4, jI (v5 + 1), jI 0] dX6_fewestAgainst_105 rfl rfl rfl ?_
          refine k_goto 35 dX6_fewestAgainst_108 rfl ?_
          refine k_drop [jR 97, jI v1, jI v2, jI v3, jI v4, jI (v5 + 1), jU] ⟨Or.inr rfl, Or.inr rfl, Or.inr rfl, Or.inr rfl, Or.inr rfl, Or.inr rfl, Or.inl rfl, trivial⟩ ?_
          exact v
      · have v := vf c18
        obtain ⟨a27, a28, v⟩ := v
        refine k_iconst dX6_fewestAgainst_57 ?_
        refine k_goto 62 dX6_fewestAgainst_58 rfl ?_
        refine k_istore [jR 97, jI v1, jI v2, jI v3, jI v4, jI v5, jI 1] dX6_fewestAgainst_62 rfl rfl ?_
        refine k_iload dX6_fewestAgainst_64 rfl ?_
        refine k_iload dX6_fewestAgainst_66 rfl ?_
        refine k_shr dX6_fewestAgainst_68 a16 a27 ?_
        refine k_iconst dX6_fewestAgainst_69 ?_
        refine k_and1 dX6_fewestAgainst_70 ?_
        refine k_iconst dX6_fewestAgainst_71 ?_
        obtain ⟨vt, vf⟩ := v
        refine k_icmp_ne 105 dX6_fewestAgainst_72 rfl a28 (by decide) (fun c29 => ?_) (fun c29 => ?_)
        · have v := vt c29
          refine k_iinc [jR 97, jI v1, jI v2, jI v3, jI v4, jI (v5 + 1), jI 1] dX6_fewestAgainst_105 rfl rfl rfl ?_
          refine k_goto 35 dX6_fewestAgainst_108 rfl ?_
          refine k_drop [jR 97, jI v1, jI v2, jI v3, jI v4, jI (v5 + 1), jU] ⟨Or.inr rfl, Or.inr rfl, Or.inr rfl, Or.inr rfl, Or.inr rfl, Or.inr rfl, Or.inl rfl, trivial⟩ ?_
          exact v
        · have v := vf c29
          refine k_iload dX6_fewestAgainst_75 rfl ?_
          refine k_if_ne 105 dX6_fewestAgainst_77 rfl (by decide) (fun _ => ?_) (fun c => absurd c (by decide))
          refine k_iinc [jR 97, jI v1, jI v2, jI v3, jI v4, jI (v5 + 1), jI 1] dX6_fewestAgainst_105 rfl rfl rfl ?_
          refine k_goto 35 dX6_fewestAgainst_108 rfl ?_
          refine k_drop [jR 97, jI v1, jI v2, jI v3, jI v4, jI (v5 + 1), jU] ⟨Or.inr rfl, Or.inr rfl, Or.inr rfl, Or.inr rfl, Or.inr rfl, Or.inr rfl, Or.inl rfl, trivial⟩ ?_
          exact v
theorem sp_X6_fewestAgainst (s0 : Int → Int → Int) (n l e : Int) (h : SOC s0) (hn : n = s0 146 2) (hle : leOK (s0 146 2) l e) : kR mX6_fewestAgainst [jR 97, jI n, jI l, jI e] s0 (fun r s' => ∃ y, r = some (jI y) ∧ y = GT s0 (s0 146 2) l e 0 ∧ frm fwP s0 s' ∧ FW s0 l e s') := by
  subst hn
  have so := h.so
  have p2 := p2_256 so.1.1 so.1.2
  have pp := p2_pos (s0 146 2)
  have n8 := so.1
  refine g_X6_fewestAgainst ⟨h, rfl, fun s1 q1 => ?_⟩
  obtain ⟨f1, a1⟩ := q1
  have gb := GT_b so hle
  have gc := czs_b so
  have key : ∀ r, r ≤ 2 ^ (s0 146 2).toNat → 1 ≤ r → ∀ s, frm fwP s0 s → AH s0 s → (∀ set, 0 ≤ set → set < r → s 119 set = GT s0 (s0 146 2) l e (2 ^ (s0 146 2).toNat - 1 - set)) → kK mX6_fewestAgainst 15 [jR 97, jI (s0 146 2), jI l, jI e, jI r, jU, jU] [] s (fun r s' => ∃ y, r = some (jI y) ∧ y = GT s0 (s0 146 2) l e 0 ∧ frm fwP s0 s' ∧ FW s0 l e s') := by
    refine lp_up _ _ (fun r hr ih r0 s fs gs hc => ?_)
    refine g_X6_fewestAgainst_15 ?_
    rw [Int.one_mul]
    refine ⟨by omega, by unfold jr32; omega, by unfold jr32; omega, fun q => ⟨by omega, _, rfl, ?_, fs, gs, fun set a b => hc set a (by omega)⟩, fun q => ⟨by omega, ?_⟩⟩
    · rw [hc _ (by omega) (by omega)]
      rw [show 2 ^ (s0 146 2).toNat - 1 - (2 ^ (s0 146 2).toNat - 1) = (0 : Int) by omega]
    · have r1 : r < 2 ^ (s0 146 2).toNat := by omega
      have inner : ∀ x, x ≤ s0 146 2 → 0 ≤ x → ∀ s, frm fwP s0 s → AH s0 s → (∀ set, 0 ≤ set → set < r → s 119 set = GT s0 (s0 146 2) l e (2 ^ (s0 146 2).toNat - 1 - set)) → s 119 r = mf x 41 (fun x => decide (bt r x = 1 ∧ ¬ (x = l ∧ bt r e = 1))) (fun x => ahm s0 x (r - 2 ^ x.toNat) + GT s0 (s0 146 2) l e (2 ^ (s0 146 2).toNat - 1 - (r - 2 ^ x.toNat))) → kK mX6_fewestAgainst 35 [jR 97, jI (s0 146 2), jI l, jI e, jI r, jI x, jU] [] s (fun r s' => ∃ y, r = some (jI y) ∧ y = GT s0 (s0 146 2) l e 0 ∧ frm fwP s0 s' ∧ FW s0 l e s') := by
        refine lp_up _ _ (fun x hx jh x0 s fs gs hc hm => ?_)
        have c0 : 0 ≤ s 119 r ∧ s 119 r ≤ 41 := by
          obtain ⟨m1, m2, m3⟩ := mf_f (n := x) (c := 41) (P := (fun x => decide (bt r x = 1 ∧ ¬ (x = l ∧ bt r e = 1)))) (f := (fun x => ahm s0 x (r - 2 ^ x.toNat) + GT s0 (s0 146 2) l e (2 ^ (s0 146 2).toNat - 1 - (r - 2 ^ x.toNat)))) x0
          rw [hm]
          refine ⟨?_, m1⟩
          rcases m3 with m3 | ⟨k, k0, k1, k2, k3⟩
          · omega
          · have b1 := (of_decide_eq_true k2).1
            have b2 := (bt_off (a := r) (by omega) (k := k) (by omega) b1).1
            have b3 := p2_pos k
            have := (ahm_b so k (r - 2 ^ k.toNat)).1
            have := (gb (2 ^ (s0 146 2).toNat - 1 - (r - 2 ^ k.toNat)) (by omega) (by omega)).1
            omega
        refine g_X6_fewestAgainst_35 ⟨by unfold jr32; omega, by unfold jr32; omega, fun q => ?_, fun q => ?_⟩
        · refine ih (by omega) (by omega) s fs gs (fun set a b => ?_)
          by_cases e1 : set = r
          · rw [e1, hm, show x = s0 146 2 by omega]
            exact GT_cm so hle r0 r1 _ (fun x _ _ => decide_eq_true_iff) _ (fun x _ _ _ => rfl)
          · exact hc set a (by omega)
        · have no : ¬ (bt r x = 1 ∧ ¬ (x = l ∧ bt r e = 1)) → kK mX6_fewestAgainst 35 [jR 97, jI (s0 146 2), jI l, jI e, jI r, jI (x + 1), jU] [] s (fun r s' => ∃ y, r = some (jI y) ∧ y = GT s0 (s0 146 2) l e 0 ∧ frm fwP s0 s' ∧ FW s0 l e s') := fun p => jh (by omega) (by omega) s fs gs hc (by rw [mf_s x0, if_neg (fun q => p (of_decide_eq_true q))]; exact hm)
          have yes : ∀ p : (bt r x = 1 ∧ ¬ (x = l ∧ bt r e = 1)), jr32 (s (111 + x) (r - 2 ^ x.toNat) + s 119 (r - 2 ^ x.toNat)) ∧ kK mX6_fewestAgainst 35 [jR 97, jI (s0 146 2), jI l, jI e, jI r, jI (x + 1), jU] [] (w2 s 119 r (min (s 119 r) (s (111 + x) (r - 2 ^ x.toNat) + s 119 (r - 2 ^ x.toNat)))) (fun r s' => ∃ y, r = some (jI y) ∧ y = GT s0 (s0 146 2) l e 0 ∧ frm fwP s0 s' ∧ FW s0 l e s') := fun p => by
            have b2 := (bt_off (a := r) (by omega) (k := x) (by omega) p.1).1
            have b3 := p2_pos x
            have b4 := ahm_b so x (r - 2 ^ x.toNat)
            have b5 := gb (2 ^ (s0 146 2).toNat - 1 - (r - 2 ^ x.toNat)) (by omega) (by omega)
            have b6 := gc (2 ^ (s0 146 2).toNat - 1 - (r - 2 ^ x.toNat))
            rw [gs.2 x (r - 2 ^ x.toNat) x0 (by omega) (by omega) (by omega), hc (r - 2 ^ x.toNat) (by omega) (by omega)]
            refine ⟨by unfold jr32; omega, jh (by omega) (by omega) _ (fs.s2 (by unfold fwP; omega)) ⟨fun t t0 t1 => by rw [w2_k (by omega)]; exact gs.1 t t0 t1, fun t set a b c d => by rw [w2_k (by omega)]; exact gs.2 t set a b c d⟩ (fun set a b => by rw [w2_i (by omega)]; exact hc set a b) ?_⟩
            rw [w2_s, mf_s x0, if_pos (decide_eq_true p), ← hm]
          refine ⟨?_, fun d => ⟨by omega, by unfold jr32; omega, by unfold jr32; have := bt_01 r x; unfold bt at this; omega, fun d2 => no (fun p => d2 p.1), fun d2 => ⟨by omega, by omega, d2, by unfold jr32; omega, yes ⟨d2, fun q => d q.1⟩⟩⟩, fun d => ⟨?_, by unfold jr32; omega, by unfold jr32; have := bt_01 r e; unfold bt at this; omega, fun d3 => ⟨by omega, by unfold jr32; have := bt_01 r x; unfold bt at this; omega, fun d2 => no (fun p => d2 p.1), fun d2 => ⟨by omega, by omega, d2, by unfold jr32; omega, yes ⟨d2, fun q => d3 q.2⟩⟩⟩, fun d3 => ⟨by omega, by unfold jr32; have := bt_01 r x; unfold bt at this; omega, fun d2 => no (fun p => d2 p.1), fun d2 => no (fun p => p.2 ⟨d, d3⟩)⟩⟩⟩
          · unfold jr32; rcases hle with hle | hle <;> omega
          · rcases hle with hle | hle <;> omega
      exact inner 0 (by omega) (by omega) _ (fs.s2 (by unfold fwP; omega)) ⟨fun t t0 t1 => by rw [w2_k (by omega)]; exact gs.1 t t0 t1, fun t set a b c d => by rw [w2_k (by omega)]; exact gs.2 t set a b c d⟩ (fun set a b => by rw [w2_i (by omega)]; exact hc set a b) (by rw [w2_s, mf_0])
  refine key 1 (by omega) (by omega) _ ((f1.wk (fun k hk => by unfold ahP at hk; unfold fwP; omega)).s2 (by unfold fwP; omega)) ⟨fun t t0 t1 => by rw [w2_k (by omega)]; exact a1.1 t t0 t1, fun t set a b c d => by rw [w2_k (by omega)]; exact a1.2 t set a b c d⟩ (fun set a b => ?_)
  rw [show set = 0 by omega, w2_s, show 2 ^ (s0 146 2).toNat - 1 - (0 : Int) = 2 ^ (s0 146 2).toNat - 1 by omega, GT_all]
theorem g_X6_firstOf {s : Int → Int → Int} {Q : Option jV → (Int → Int → Int) → Prop} {v1 v2 : Int} (v : kK mX6_firstOf 2 [jR 97, jI v1, jI v2, jI 0] [] s Q) : kR mX6_firstOf [jR 97, jI v1, jI v2] s Q := by
  show kK mX6_firstOf 0 [jR 97, jI v1, jI v2, jU] [] s Q
  refine k_iconst dX6_firstOf_0 ?_
  refine k_istore_n [jR 97, jI v1, jI v2, jI 0] dX6_firstOf_1 rfl rfl ?_
  exact v
theorem g_X6_firstOf_2 {s : Int → Int → Int} {Q : Option jV → (Int → Int → Int) → Prop} {v1 v2 v3 : Int} (v : (jr32 v3 ∧ jr32 (v1 - 1) ∧ (((v1 - 1) ≤ v3 → Q (some (jI v3)) s) ∧ (¬ ((v1 - 1) ≤ v3) → ((0 ≤ v3 ∧ v3 ≤ 31) ∧ jr32 v2 ∧ jr32 ((v2 / 2 ^ Int.toNat v3) % 2) ∧ ((((v2 / 2 ^ Int.toNat v3) % 2) = 0 → kK mX6_firstOf 2 [jR 97, jI v1, jI v2, jI (v3 + 1)] [] s Q) ∧ (¬ (((v2 / 2 ^ Int.toNat v3) % 2) = 0) → ((0 ≤ v3 ∧ v3 < 8) ∧ (0 ≤ v2 ∧ v2 < 256) ∧ (bt v2 v3 = 1) ∧ jr32 (s (111 + v3) (v2 - 2 ^ Int.toNat v3) + s 119 (v2 - 2 ^ Int.toNat v3)) ∧ jr32 (s 119 v2) ∧ (((s (111 + v3) (v2 - 2 ^ Int.toNat v3) + s 119 (v2 - 2 ^ Int.toNat v3)) ≤ (s 119 v2) → Q (some (jI v3)) s) ∧ (¬ ((s (111 + v3) (v2 - 2 ^ Int.toNat v3) + s 119 (v2 - 2 ^ Int.toNat v3)) ≤ (s 119 v2)) → kK mX6_firstOf 2 [jR 97, jI v1, jI v2, jI (v3 + 1)] [] s Q)))))))))) : kK mX6_firstOf 2 [jR 97, jI v1, jI v2, jI v3] [] s Q := by
  obtain ⟨a1, a2, v⟩ := v
  refine k_iload_n dX6_firstOf_2 rfl ?_
  refine k_iload_n dX6_firstOf_3 rfl ?_
  refine k_iconst dX6_firstOf_4 ?_
  refine k_isub dX6_firstOf_5 ?_
  obtain ⟨vt, vf⟩ := v
  refine k_icmp_ge 38 dX6_firstOf_6 rfl a1 a2 (fun c3 => ?_) (fun c3 => ?_)
  · have v := vt c3
    refine k_iload_n dX6_firstOf_38 rfl ?_
    exact k_ireturn (st := []) dX6_firstOf_39 rfl v
  · have v := vf c3
    obtain ⟨a4, a5, a6, v⟩ := v
    refine k_iload_n dX6_firstOf_9 rfl ?_
    refine k_iload_n dX6_firstOf_10 rfl ?_
    refine k_shr dX6_firstOf_11 a5 a4 ?_
    refine k_iconst dX6_firstOf_12 ?_
    refine k_and1 dX6_firstOf_13 ?_
    obtain ⟨vt, vf⟩ := v
    refine k_if_eq 32 dX6_firstOf_14 rfl a6 (fun c7 => ?_) (fun c7 => ?_)
    · have v := vt c7
      refine k_iinc [jR 97, jI v1, jI v2, jI (v3 + 1)] dX6_firstOf_32 rfl rfl rfl ?_
      refine k_goto 2 dX6_firstOf_35 rfl ?_
      exact v
    · have v := vf c7
      obtain ⟨a8, a9, a10, a11, a12, v⟩ := v
      refine k_aload_n dX6_firstOf_17 rfl ?_
      refine k_iload_n dX6_firstOf_18 rfl ?_
      refine k_iload_n dX6_firstOf_19 rfl ?_
      refine k_invV [jI v3, jI v2] [] dX6_firstOf_20 cm_X6_againstFirst ml_X6_40 im_X6_againstFirst se_X6_againstFirst rfl sh_97 (by decide) rfl rfl (sp_X6_againstFirst s v3 v2 a8 a9 a10) ?_
      refine k_aload_n dX6_firstOf_23 rfl ?_
      refine k_getr dX6_firstOf_24 fl_X6_29 sh_97 (by decide) rfl ?_
      refine k_iload_n dX6_firstOf_27 rfl ?_
      refine k_iald 256 dX6_firstOf_28 sh_119 (by decide) rfl (by decide) a9 ?_
      obtain ⟨vt, vf⟩ := v
      refine k_icmp_le 38 dX6_firstOf_29 rfl a11 a12 (fun c13 => ?_) (fun c13 => ?_)
      · have v := vt c13
        refine k_iload_n dX6_firstOf_38 rfl ?_
        exact k_ireturn (st := []) dX6_firstOf_39 rfl v
      · have v := vf c13
        refine k_iinc [jR 97, jI v1, jI v2, jI (v3 + 1)] dX6_firstOf_32 rfl rfl rfl ?_
        refine k_goto 2 dX6_firstOf_35 rfl ?_
        exact v
theorem sp_X6_firstOf (s : Int → Int → Int) (n set : Int) (hn : 0 ≤ n ∧ n ≤ 8) (hs : 0 ≤ set ∧ set < 256) (hv : ∀ x, 0 ≤ x → x < n → bt set x = 1 → jr32 (s (111 + x) (set - 2 ^ x.toNat) + s 119 (set - 2 ^ x.toNat))) (hv2 : jr32 (s 119 set)) (he : ∃ x, 0 ≤ x ∧ x < n ∧ bt set x = 1 ∧ s (111 + x) (set - 2 ^ x.toNat) + s 119 (set - 2 ^ x.toNat) ≤ s 119 set) : kR mX6_firstOf [jR 97, jI n, jI set] s (fun r s' => ∃ y, r = some (jI y) ∧ (fstk n (fun x => bt set x = 1 ∧ s (111 + x) (set - 2 ^ x.toNat) + s 119 (set - 2 ^ x.toNat) ≤ s 119 set) y ∧ 0 ≤ y) ∧ s' = s) := by
  refine g_X6_firstOf ?_
  obtain ⟨w, w0, w1, w2, w3⟩ := he
  have key : ∀ x, x ≤ n - 1 → 0 ≤ x → (∀ k, 0 ≤ k → k < x → ¬ (bt set k = 1 ∧ s (111 + k) (set - 2 ^ k.toNat) + s 119 (set - 2 ^ k.toNat) ≤ s 119 set)) → kK mX6_firstOf 2 [jR 97, jI n, jI set, jI x] [] s (fun r s' => ∃ y, r = some (jI y) ∧ (fstk n (fun x => bt set x = 1 ∧ s (111 + x) (set - 2 ^ x.toNat) + s 119 (set - 2 ^ x.toNat) ≤ s 119 set) y ∧ 0 ≤ y) ∧ s' = s) := by
    refine lp_up _ _ (fun x hx ih x0 hk => ?_)
    have nx : ¬ (bt set x = 1 ∧ s (111 + x) (set - 2 ^ x.toNat) + s 119 (set - 2 ^ x.toNat) ≤ s 119 set) → ∀ k, 0 ≤ k → k < x + 1 → ¬ (bt set k = 1 ∧ s (111 + k) (set - 2 ^ k.toNat) + s 119 (set - 2 ^ k.toNat) ≤ s 119 set) := fun p k k0 k1 => by
      by_cases e : k = x
      · rw [e]; exact p
      · exact hk k k0 (by omega)
    refine g_X6_firstOf_2 ⟨by unfold jr32; omega, by unfold jr32; omega, fun q => ⟨x, rfl, ⟨Or.inr ⟨x0, by omega, ?_, hk⟩, x0⟩, rfl⟩, fun q => ⟨by omega, by unfold jr32; omega, by unfold jr32; have := bt_01 set x; unfold bt at this; omega, fun c => ih (by omega) (by omega) (nx (fun p => by have := p.1; unfold bt at this; omega)), fun c => ?_⟩⟩
    · by_cases e : w = x
      · rw [← e]; exact ⟨w2, w3⟩
      · exact absurd ⟨w2, w3⟩ (hk w w0 (by omega))
    · have b1 : bt set x = 1 := (bt_01 set x).resolve_left c
      exact ⟨by omega, hs, b1, hv x x0 (by omega) b1, hv2, fun d => ⟨x, rfl, ⟨Or.inr ⟨x0, by omega, ⟨b1, d⟩, hk⟩, x0⟩, rfl⟩, fun d => ih (by omega) (by omega) (nx (fun p => d p.2))⟩
  exact key 0 (by omega) (by omega) (fun k k0 k1 => by omega)
theorem g_X6_pupilInPlace {s : Int → Int → Int} {Q : Option jV → (Int → Int → Int) → Prop} {v1 v2 : Int} (v : ((0 ≤ v1 ∧ v1 ≤ 31) ∧ kK mX6_pupilInPlace 12 [jR 97, jI v1, jI v2, jI (((1 : Int) * 2 ^ Int.toNat v1) - 1), jI (-1), jI 0] [] s Q)) : kR mX6_pupilInPlace [jR 97, jI v1, jI v2] s Q := by
  show kK mX6_pupilInPlace 0 [jR 97, jI v1, jI v2, jU, jU, jU] [] s Q
  obtain ⟨a1, v⟩ := v
  refine k_iconst dX6_pupilInPlace_0 ?_
  refine k_iload_n dX6_pupilInPlace_1 rfl ?_
  refine k_shl dX6_pupilInPlace_2 a1 ?_
  refine k_iconst dX6_pupilInPlace_3 ?_
  refine k_isub dX6_pupilInPlace_4 ?_
  refine k_istore_n [jR 97, jI v1, jI v2, jI (((1 : Int) * 2 ^ Int.toNat v1) - 1), jU, jU] dX6_pupilInPlace_5 rfl rfl ?_
  refine k_iconst dX6_pupilInPlace_6 ?_
  refine k_istore [jR 97, jI v1, jI v2, jI (((1 : Int) * 2 ^ Int.toNat v1) - 1), jI (-1), jU] dX6_pupilInPlace_7 rfl rfl ?_
  refine k_iconst dX6_pupilInPlace_9 ?_
  refine k_istore [jR 97, jI v1, jI v2, jI (((1 : Int) * 2 ^ Int.toNat v1) - 1), jI (-1), jI 0] dX6_pupilInPlace_10 rfl rfl ?_
  exact v
theorem g_X6_pupilInPlace_12 {s : Int → Int → Int} {Q : Option jV → (Int → Int → Int) → Prop} {v1 v2 v3 v4 v5 : Int} (v : (jr32 v5 ∧ jr32 v2 ∧ ((v2 < v5 → Q (some (jI v4)) s) ∧ (¬ (v2 < v5) → ((0 ≤ v1 ∧ v1 ≤ 8) ∧ (0 ≤ v3 ∧ v3 < 256) ∧ (∀ x, 0 ≤ x → x < v1 → bt v3 x = 1 → jr32 (s (111 + x) (v3 - 2 ^ x.toNat) + s 119 (v3 - 2 ^ x.toNat))) ∧ jr32 (s 119 v3) ∧ (∃ x, 0 ≤ x ∧ x < v1 ∧ bt v3 x = 1 ∧ s (111 + x) (v3 - 2 ^ x.toNat) + s 119 (v3 - 2 ^ x.toNat) ≤ s 119 v3) ∧ (∀ (y9 : Int) (s10 : Int → Int → Int), ((fstk v1 (fun x => bt v3 x = 1 ∧ s (111 + x) (v3 - 2 ^ x.toNat) + s 119 (v3 - 2 ^ x.toNat) ≤ s 119 v3) y9 ∧ 0 ≤ y9) ∧ s10 = s) → ((0 ≤ y9 ∧ y9 ≤ 31) ∧ (0 ≤ y9 ∧ y9 < 8) ∧ kK mX6_pupilInPlace 12 [jR 97, jI v1, jI v2, jI (v3 - v3 / 2 ^ Int.toNat y9 % 2 * 2 ^ Int.toNat y9), jI y9, jI (v5 + 1)] [] s10 Q))))))) : kK mX6_pupilInPlace 12 [jR 97, jI v1, jI v2, jI v3, jI v4, jI v5] [] s Q := by
  obtain ⟨a1, a2, v⟩ := v
  refine k_iload dX6_pupilInPlace_12 rfl ?_
  refine k_iload_n dX6_pupilInPlace_14 rfl ?_
  obtain ⟨vt, vf⟩ := v
  refine k_icmp_gt 41 dX6_pupilInPlace_15 rfl a1 a2 (fun c3 => ?_) (fun c3 => ?_)
  · have v := vt c3
    refine k_iload dX6_pupilInPlace_41 rfl ?_
    exact k_ireturn (st := []) dX6_pupilInPlace_43 rfl v
  · have v := vf c3
    obtain ⟨a4, a5, a6, a7, a8, v⟩ := v
    refine k_aload_n dX6_pupilInPlace_18 rfl ?_
    refine k_iload_n dX6_pupilInPlace_19 rfl ?_
    refine k_iload_n dX6_pupilInPlace_20 rfl ?_
    refine k_invVR [jI v1, jI v3] [] dX6_pupilInPlace_21 cm_X6_firstOf ml_X6_55 im_X6_firstOf se_X6_firstOf rfl sh_97 (by decide) rfl rfl (sp_X6_firstOf s v1 v3 a4 a5 a6 a7 a8) (fun _ s10 q11 => ?_)
    obtain ⟨y9, rfl, q11⟩ := q11
    have v := v y9 s10 q11
    obtain ⟨a12, a13, v⟩ := v
    refine k_istore [jR 97, jI v1, jI v2, jI v3, jI y9, jI v5] dX6_pupilInPlace_24 rfl rfl ?_
    refine k_iload_n dX6_pupilInPlace_26 rfl ?_
    refine k_iconst dX6_pupilInPlace_27 ?_
    refine k_iload dX6_pupilInPlace_28 rfl ?_
    refine k_shl dX6_pupilInPlace_30 a12 ?_
    refine k_iconst dX6_pupilInPlace_31 ?_
    refine k_not dX6_pupilInPlace_32 ?_
    refine k_andn dX6_pupilInPlace_33 a5 a13 ?_
    refine k_istore_n [jR 97, jI v1, jI v2, jI (v3 - v3 / 2 ^ Int.toNat y9 % 2 * 2 ^ Int.toNat y9), jI y9, jI v5] dX6_pupilInPlace_34 rfl rfl ?_
    refine k_iinc [jR 97, jI v1, jI v2, jI (v3 - v3 / 2 ^ Int.toNat y9 % 2 * 2 ^ Int.toNat y9), jI y9, jI (v5 + 1)] dX6_pupilInPlace_35 rfl rfl rfl ?_
    refine k_goto 12 dX6_pupilInPlace_38 rfl ?_
    exact v
theorem sp_X6_pupilInPlace (s : Int → Int → Int) (n w : Int) (h : SOC s) (hn : n = s 146 2) (hf : FW s (-1) (-1) s) (hw : 0 ≤ w ∧ w < s 146 2) : kR mX6_pupilInPlace [jR 97, jI n, jI w] s (fun r s' => ∃ y, r = some (jI y) ∧ (∃ set, plc s (w + 1).toNat set y) ∧ s' = s) := by
  subst hn
  have so := h.so
  have p2 := p2_256 so.1.1 so.1.2
  have n8 := so.1
  refine g_X6_pupilInPlace ⟨by omega, ?_⟩
  rw [Int.one_mul]
  have key : ∀ k, k ≤ w + 1 → 0 ≤ k → ∀ a b, plc s k.toNat a b → jr32 b → kK mX6_pupilInPlace 12 [jR 97, jI (s 146 2), jI w, jI (2 ^ (s 146 2).toNat - 1 - a), jI b, jI k] [] s (fun r s' => ∃ y, r = some (jI y) ∧ (∃ set, plc s (w + 1).toNat set y) ∧ s' = s) := by
    refine lp_up _ _ (fun k hk ih k0 a b hp hb => ?_)
    refine g_X6_pupilInPlace_12 ⟨by unfold jr32; omega, by unfold jr32; omega, fun q => ⟨b, rfl, ⟨a, by rw [show w + 1 = k by omega]; exact hp⟩, rfl⟩, fun q => ?_⟩
    obtain ⟨ra, rb⟩ := plc_ok so hp (by omega)
    obtain ⟨na, x, x0, x1, x2, x3⟩ := plc_nx so hp (by omega)
    have hq : 0 ≤ 2 ^ (s 146 2).toNat - 1 - a ∧ 2 ^ (s 146 2).toNat - 1 - a < 2 ^ (s 146 2).toNat := by omega
    have back : 2 ^ (s 146 2).toNat - 1 - (2 ^ (s 146 2).toNat - 1 - a) = a := by omega
    have r119 : s 119 (2 ^ (s 146 2).toNat - 1 - a) = GT s (s 146 2) (-1) 0 a := by rw [hf.2 _ hq.1 hq.2, back, GT_l n8.1 (-1) 0]
    have cnd : ∀ y, 0 ≤ y → y < s 146 2 → (bt (2 ^ (s 146 2).toNat - 1 - a) y = 1 ↔ bt a y = 0) := fun y y0 y1 => by
      rw [(bt_cm n8.2 ra ⟨y0, y1⟩).1]; omega
    have rsum : ∀ y, 0 ≤ y → y < s 146 2 → bt a y = 0 → s (111 + y) (2 ^ (s 146 2).toNat - 1 - a - 2 ^ y.toNat) + s 119 (2 ^ (s 146 2).toNat - 1 - a - 2 ^ y.toNat) = agn s y a + GT s (s 146 2) (-1) 0 (a + 2 ^ y.toNat) := fun y y0 y1 y2 => by
      have y3 := (cnd y y0 y1).2 y2
      have y4 := (bt_off (a := 2 ^ (s 146 2).toNat - 1 - a) (by omega) (k := y) (by omega) y3).1
      have y5 := p2_pos y
      rw [hf.1.2 y _ y0 y1 (by omega) (by omega), hf.2 _ (by omega) (by omega), ahm_ag so hq ⟨y0, y1⟩ y3, back, GT_l n8.1 (-1) 0, show 2 ^ (s 146 2).toNat - 1 - (2 ^ (s 146 2).toNat - 1 - a - 2 ^ y.toNat) = a + 2 ^ y.toNat by omega]
    have gb := GT_b so (l := -1) (e := 0) (Or.inl rfl)
    have gc := czs_b so
    have up : ∀ y, 0 ≤ y → y < s 146 2 → bt a y = 0 → a + 2 ^ y.toNat < 2 ^ (s 146 2).toNat := fun y y0 y1 y2 => (bt_cm n8.2 ra ⟨y0, y1⟩).2 y2
    refine ⟨by omega, by omega, fun y y0 y1 y2 => ?_, ?_, ⟨x, x0, x1, (cnd x x0 x1).2 x2, ?_⟩, fun y s1 q1 => ?_⟩
    · have y3 := (cnd y y0 y1).1 y2
      have := up y y0 y1 y3
      have := p2_pos y
      rw [rsum y y0 y1 y3]
      have := agn_b so y a
      have := gb (a + 2 ^ y.toNat) (by omega) (by omega)
      have := gc (a + 2 ^ y.toNat)
      unfold jr32; omega
    · rw [r119]
      have := gb a (by omega) (by omega)
      have := gc a
      unfold jr32; omega
    · rw [rsum x x0 x1 x2, r119, x3]; exact Int.le_refl _
    · obtain ⟨⟨q1, q2⟩, rfl⟩ := q1
      have q3 : fstk (s1 146 2) (fun x => bt a x = 0 ∧ agn s1 x a + GT s1 (s1 146 2) (-1) 0 (a + 2 ^ x.toNat) = GT s1 (s1 146 2) (-1) 0 a) y := q1.cg (fun z z0 z1 => by
        constructor
        · intro c
          have z3 := (cnd z z0 z1).1 c.1
          have z4 := c.2
          rw [rsum z z0 z1 z3, r119] at z4
          have := pick_le so (l := -1) (e := 0) (set := a) ra.1 na ⟨z0, z1⟩ (decide_eq_true ⟨z3, Or.inl (by omega)⟩)
          exact ⟨z3, by omega⟩
        · intro c
          refine ⟨(cnd z z0 z1).2 c.1, ?_⟩
          rw [rsum z z0 z1 c.1, r119, c.2]; exact Int.le_refl _)
      have yr : y < s1 146 2 ∧ bt a y = 0 := by
        rcases q3 with ⟨q4, -⟩ | ⟨-, q4, q5, -⟩
        · omega
        · exact ⟨q4, q5.1⟩
      have y3 := (cnd y q2 yr.1).2 yr.2
      refine ⟨by omega, by omega, ?_⟩
      have e1 : 2 ^ (s1 146 2).toNat - 1 - a - (2 ^ (s1 146 2).toNat - 1 - a) / 2 ^ y.toNat % 2 * 2 ^ y.toNat = 2 ^ (s1 146 2).toNat - 1 - (a + 2 ^ y.toNat) := by
        unfold bt at y3
        rw [y3]; omega
      rw [e1]
      exact ih (by omega) (by omega) _ _ (by rw [show (k + 1).toNat = k.toNat + 1 by omega]; exact ⟨a, b, hp, q3, rfl⟩) (by unfold jr32; omega)
  have := key 0 (by omega) (by omega) 0 (-1) ⟨rfl, rfl⟩ (by decide)
  rw [show 2 ^ (s 146 2).toNat - 1 - (0 : Int) = 2 ^ (s 146 2).toNat - 1 by omega] at this
  exact this
theorem g_X10_order {s : Int → Int → Int} {Q : Option jV → (Int → Int → Int) → Prop} {v1 : Int} (v : (jr32 v1 ∧ ((v1 = (-1) → ((SOC s) ∧ ((s 2 12) = s 146 2) ∧ (leOK (s 146 2) (-1) (-1)) ∧ (∀ (y6 : Int) (s7 : Int → Int → Int), (y6 = GT s (s 146 2) (-1) (-1) 0 ∧ frm fwP s s7 ∧ FW s (-1) (-1) s7) → ((v1 ≠ (-1) → ((SOC s7) ∧ ((s7 2 12) = s7 146 2) ∧ (FW s7 (-1) (-1) s7) ∧ (0 ≤ v1 ∧ v1 < s7 146 2) ∧ (∀ (y14 : Int) (s15 : Int → Int → Int), ((∃ set, plc s7 (v1 + 1).toNat set y14) ∧ s15 = s7) → Q (some (jI y14)) s15))) ∧ (v1 = (-1) → Q (some (jI y6)) s7))))) ∧ (¬ (v1 = (-1)) → ((WC s) ∧ ((0 ≤ v1 ∧ v1 ≤ s 2 12 - 1 → ((SOC s) ∧ ((s 2 12) = s 146 2) ∧ (leOK (s 146 2) (-1) (-1)) ∧ (∀ (y22 : Int) (s23 : Int → Int → Int), (y22 = GT s (s 146 2) (-1) (-1) 0 ∧ frm fwP s s23 ∧ FW s (-1) (-1) s23) → ((v1 ≠ (-1) → ((SOC s23) ∧ ((s23 2 12) = s23 146 2) ∧ (FW s23 (-1) (-1) s23) ∧ (0 ≤ v1 ∧ v1 < s23 146 2) ∧ (∀ (y30 : Int) (s31 : Int → Int → Int), ((∃ set, plc s23 (v1 + 1).toNat set y30) ∧ s31 = s23) → Q (some (jI y30)) s31))) ∧ (v1 = (-1) → Q (some (jI y22)) s23))))) ∧ (¬ (0 ≤ v1 ∧ v1 ≤ s 2 12 - 1) → Q (some (jI (-10))) s))))))) : kR mX10_order [jR 1, jI v1] s Q := by
  show kK mX10_order 0 [jR 1, jI v1, jU] [] s Q
  obtain ⟨a1, v⟩ := v
  refine k_iload_n dX10_order_0 rfl ?_
  refine k_iconst dX10_order_1 ?_
  obtain ⟨vt, vf⟩ := v
  refine k_icmp_eq 16 dX10_order_2 rfl a1 (by decide) (fun c2 => ?_) (fun c2 => ?_)
  · have v := vt c2
    obtain ⟨a3, a4, a5, v⟩ := v
    refine k_aload_n dX10_order_16 rfl ?_
    refine k_getr dX10_order_17 fl_X10_61 sh_1 (by decide) rfl ?_
    refine k_aload_n dX10_order_20 rfl ?_
    refine k_getr dX10_order_21 fl_X10_10 sh_1 (by decide) rfl ?_
    refine k_geti 12 dX10_order_24 fl_X10_244 sh_2 (by decide) rfl rfl ?_
    refine k_iconst dX10_order_27 ?_
    refine k_iconst dX10_order_28 ?_
    refine k_invVR [jI (s 2 12), jI (-1), jI (-1)] [] dX10_order_29 cm_X6_fewestAgainst ml_X10_247 im_X6_fewestAgainst se_X6_fewestAgainst rfl sh_97 (by decide) rfl rfl (sp_X6_fewestAgainst s (s 2 12) (-1) (-1) a3 a4 a5) (fun _ s7 q8 => ?_)
    obtain ⟨y6, rfl, q8⟩ := q8
    have v := v y6 s7 q8
    refine k_istore_n [jR 1, jI v1, jI y6] dX10_order_32 rfl rfl ?_
    refine k_iload_n dX10_order_33 rfl ?_
    refine k_iconst dX10_order_34 ?_
    obtain ⟨vt, vf⟩ := v
    refine k_icmp_ne 42 dX10_order_35 rfl a1 (by decide) (fun c9 => ?_) (fun c9 => ?_)
    · have v := vt c9
      obtain ⟨a10, a11, a12, a13, v⟩ := v
      refine k_aload_n dX10_order_42 rfl ?_
      refine k_getr dX10_order_43 fl_X10_61 sh_1 (by decide) rfl ?_
      refine k_aload_n dX10_order_46 rfl ?_
      refine k_getr dX10_order_47 fl_X10_10 sh_1 (by decide) rfl ?_
      refine k_geti 12 dX10_order_50 fl_X10_244 sh_2 (by decide) rfl rfl ?_
      refine k_iload_n dX10_order_53 rfl ?_
      refine k_invVR [jI (s7 2 12), jI v1] [] dX10_order_54 cm_X6_pupilInPlace ml_X10_250 im_X6_pupilInPlace se_X6_pupilInPlace rfl sh_97 (by decide) rfl rfl (sp_X6_pupilInPlace s7 (s7 2 12) v1 a10 a11 a12 a13) (fun _ s15 q16 => ?_)
      obtain ⟨y14, rfl, q16⟩ := q16
      have v := v y14 s15 q16
      exact k_ireturn (st := []) dX10_order_57 rfl v
    · have v := vf c9
      refine k_iload_n dX10_order_38 rfl ?_
      refine k_goto 57 dX10_order_39 rfl ?_
      exact k_ireturn (st := []) dX10_order_57 rfl v
  · have v := vf c2
    obtain ⟨a17, v⟩ := v
    refine k_aload_n dX10_order_5 rfl ?_
    refine k_iload_n dX10_order_6 rfl ?_
    refine k_invV [jI v1] [] dX10_order_7 cm_X10_isPupil ml_X10_110 im_X10_isPupil se_X10_isPupil rfl sh_1 (by decide) rfl rfl (sp_X10_isPupil s v1 a1 a17) ?_
    obtain ⟨vt, vf⟩ := v
    refine k_ifb_ne 16 dX10_order_10 rfl (fun c18 => ?_) (fun c18 => ?_)
    · have v := vt c18
      obtain ⟨a19, a20, a21, v⟩ := v
      refine k_aload_n dX10_order_16 rfl ?_
      refine k_getr dX10_order_17 fl_X10_61 sh_1 (by decide) rfl ?_
      refine k_aload_n dX10_order_20 rfl ?_
      refine k_getr dX10_order_21 fl_X10_10 sh_1 (by decide) rfl ?_
      refine k_geti 12 dX10_order_24 fl_X10_244 sh_2 (by decide) rfl rfl ?_
      refine k_iconst dX10_order_27 ?_
      refine k_iconst dX10_order_28 ?_
      refine k_invVR [jI (s 2 12), jI (-1), jI (-1)] [] dX10_order_29 cm_X6_fewestAgainst ml_X10_247 im_X6_fewestAgainst se_X6_fewestAgainst rfl sh_97 (by decide) rfl rfl (sp_X6_fewestAgainst s (s 2 12) (-1) (-1) a19 a20 a21) (fun _ s23 q24 => ?_)
      obtain ⟨y22, rfl, q24⟩ := q24
      have v := v y22 s23 q24
      refine k_istore_n [jR 1, jI v1, jI y22] dX10_order_32 rfl rfl ?_
      refine k_iload_n dX10_order_33 rfl ?_
      refine k_iconst dX10_order_34 ?_
      obtain ⟨vt, vf⟩ := v
      refine k_icmp_ne 42 dX10_order_35 rfl a1 (by decide) (fun c25 => ?_) (fun c25 => ?_)
      · have v := vt c25
        obtain ⟨a26, a27, a28, a29, v⟩ := v
        refine k_aload_n dX10_order_42 rfl ?_
        refine k_getr dX10_order_43 fl_X10_61 sh_1 (by decide) rfl ?_
        refine k_aload_n dX10_order_46 rfl ?_
        refine k_getr dX10_order_47 fl_X10_10 sh_1 (by decide) rfl ?_
        refine k_geti 12 dX10_order_50 fl_X10_244 sh_2 (by decide) rfl rfl ?_
        refine k_iload_n dX10_order_53 rfl ?_
        refine k_invVR [jI (s23 2 12), jI v1] [] dX10_order_54 cm_X6_pupilInPlace ml_X10_250 im_X6_pupilInPlace se_X6_pupilInPlace rfl sh_97 (by decide) rfl rfl (sp_X6_pupilInPlace s23 (s23 2 12) v1 a26 a27 a28 a29) (fun _ s31 q32 => ?_)
        obtain ⟨y30, rfl, q32⟩ := q32
        have v := v y30 s31 q32
        exact k_ireturn (st := []) dX10_order_57 rfl v
      · have v := vf c25
        refine k_iload_n dX10_order_38 rfl ?_
        refine k_goto 57 dX10_order_39 rfl ?_
        exact k_ireturn (st := []) dX10_order_57 rfl v
    · have v := vf c18
      refine k_bipush dX10_order_13 rfl ?_
      exact k_ireturn (st := []) dX10_order_15 rfl v
theorem g_X10_sure {s : Int → Int → Int} {Q : Option jV → (Int → Int → Int) → Prop} {v1 v2 : Int} (v : (jr32 v1 ∧ (WC s) ∧ ((¬ (0 ≤ v1 ∧ v1 ≤ s 2 12 - 1) → Q (some (jI (-2))) s) ∧ (0 ≤ v1 ∧ v1 ≤ s 2 12 - 1 → (jr32 v2 ∧ ((¬ (0 ≤ v2 ∧ v2 ≤ s 2 12 - 1) → Q (some (jI (-2))) s) ∧ (0 ≤ v2 ∧ v2 ≤ s 2 12 - 1 → ((v1 ≠ v2 → ((SOC s) ∧ ((s 2 12) = s 146 2) ∧ (leOK (s 146 2) (-1) (-1)) ∧ (∀ (y10 : Int) (s11 : Int → Int → Int), (y10 = GT s (s 146 2) (-1) (-1) 0 ∧ frm fwP s s11 ∧ FW s (-1) (-1) s11) → ((SOC s11) ∧ ((s11 2 12) = s11 146 2) ∧ (leOK (s11 146 2) v1 v2) ∧ (∀ (y16 : Int) (s17 : Int → Int → Int), (y16 = GT s11 (s11 146 2) v1 v2 0 ∧ frm fwP s11 s17 ∧ FW s11 v1 v2 s17) → (jr32 y16 ∧ jr32 y10 ∧ ((y16 ≤ y10 → Q (some (jI 0)) s17) ∧ (¬ (y16 ≤ y10) → Q (some (jI 1)) s17)))))))) ∧ (v1 = v2 → Q (some (jI (-2))) s))))))))) : kR mX10_sure [jR 1, jI v1, jI v2] s Q := by
  show kK mX10_sure 0 [jR 1, jI v1, jI v2, jU] [] s Q
  obtain ⟨a1, a2, v⟩ := v
  refine k_aload_n dX10_sure_0 rfl ?_
  refine k_iload_n dX10_sure_1 rfl ?_
  refine k_invV [jI v1] [] dX10_sure_2 cm_X10_isPupil ml_X10_110 im_X10_isPupil se_X10_isPupil rfl sh_1 (by decide) rfl rfl (sp_X10_isPupil s v1 a1 a2) ?_
  obtain ⟨vt, vf⟩ := v
  refine k_ifb_eq 21 dX10_sure_5 rfl (fun c3 => ?_) (fun c3 => ?_)
  · have v := vt c3
    refine k_bipush dX10_sure_21 rfl ?_
    exact k_ireturn (st := []) dX10_sure_23 rfl v
  · have v := vf c3
    obtain ⟨a4, v⟩ := v
    refine k_aload_n dX10_sure_8 rfl ?_
    refine k_iload_n dX10_sure_9 rfl ?_
    refine k_invV [jI v2] [] dX10_sure_10 cm_X10_isPupil ml_X10_110 im_X10_isPupil se_X10_isPupil rfl sh_1 (by decide) rfl rfl (sp_X10_isPupil s v2 a4 a2) ?_
    obtain ⟨vt, vf⟩ := v
    refine k_ifb_eq 21 dX10_sure_13 rfl (fun c5 => ?_) (fun c5 => ?_)
    · have v := vt c5
      refine k_bipush dX10_sure_21 rfl ?_
      exact k_ireturn (st := []) dX10_sure_23 rfl v
    · have v := vf c5
      refine k_iload_n dX10_sure_16 rfl ?_
      refine k_iload_n dX10_sure_17 rfl ?_
      obtain ⟨vt, vf⟩ := v
      refine k_icmp_ne 24 dX10_sure_18 rfl a1 a4 (fun c6 => ?_) (fun c6 => ?_)
      · have v := vt c6
        obtain ⟨a7, a8, a9, v⟩ := v
        refine k_aload_n dX10_sure_24 rfl ?_
        refine k_getr dX10_sure_25 fl_X10_61 sh_1 (by decide) rfl ?_
        refine k_aload_n dX10_sure_28 rfl ?_
        refine k_getr dX10_sure_29 fl_X10_10 sh_1 (by decide) rfl ?_
        refine k_geti 12 dX10_sure_32 fl_X10_244 sh_2 (by decide) rfl rfl ?_
        refine k_iconst dX10_sure_35 ?_
        refine k_iconst dX10_sure_36 ?_
        refine k_invVR [jI (s 2 12), jI (-1), jI (-1)] [] dX10_sure_37 cm_X6_fewestAgainst ml_X10_247 im_X6_fewestAgainst se_X6_fewestAgainst rfl sh_97 (by decide) rfl rfl (sp_X6_fewestAgainst s (s 2 12) (-1) (-1) a7 a8 a9) (fun _ s11 q12 => ?_)
        obtain ⟨y10, rfl, q12⟩ := q12
        have v := v y10 s11 q12
        obtain ⟨a13, a14, a15, v⟩ := v
        refine k_istore_n [jR 1, jI v1, jI v2, jI y10] dX10_sure_40 rfl rfl ?_
        refine k_aload_n dX10_sure_41 rfl ?_
        refine k_getr dX10_sure_42 fl_X10_61 sh_1 (by decide) rfl ?_
        refine k_aload_n dX10_sure_45 rfl ?_
        refine k_getr dX10_sure_46 fl_X10_10 sh_1 (by decide) rfl ?_
        refine k_geti 12 dX10_sure_49 fl_X10_244 sh_2 (by decide) rfl rfl ?_
        refine k_iload_n dX10_sure_52 rfl ?_
        refine k_iload_n dX10_sure_53 rfl ?_
        refine k_invVR [jI (s11 2 12), jI v1, jI v2] [] dX10_sure_54 cm_X6_fewestAgainst ml_X10_247 im_X6_fewestAgainst se_X6_fewestAgainst rfl sh_97 (by decide) rfl rfl (sp_X6_fewestAgainst s11 (s11 2 12) v1 v2 a13 a14 a15) (fun _ s17 q18 => ?_)
        obtain ⟨y16, rfl, q18⟩ := q18
        have v := v y16 s17 q18
        obtain ⟨a19, a20, v⟩ := v
        refine k_iload_n dX10_sure_57 rfl ?_
        obtain ⟨vt, vf⟩ := v
        refine k_icmp_le 65 dX10_sure_58 rfl a19 a20 (fun c21 => ?_) (fun c21 => ?_)
        · have v := vt c21
          refine k_iconst dX10_sure_65 ?_
          exact k_ireturn (st := []) dX10_sure_66 rfl v
        · have v := vf c21
          refine k_iconst dX10_sure_61 ?_
          refine k_goto 66 dX10_sure_62 rfl ?_
          exact k_ireturn (st := []) dX10_sure_66 rfl v
      · have v := vf c6
        refine k_bipush dX10_sure_21 rfl ?_
        exact k_ireturn (st := []) dX10_sure_23 rfl v
