theorem g_J6_numberOfTrailingZeros_0f7a4 {s : Int → Int → Int} {Q : Option jV → (Int → Int → Int) → Prop} {v0 : Int} (v : ((1 ≤ v0 ∧ v0 < 256) ∧ jr32 ((2 : Int) ^ Int.toNat (tz v0) - 1) ∧ ((0 < ((2 : Int) ^ Int.toNat (tz v0) - 1) → ((((2 : Int) ^ Int.toNat (tz v0) - 1) ≤ 65536 → kK mJ6_numberOfTrailingZeros_0f7a4 34 [jI ((2 : Int) ^ Int.toNat (tz v0) - 1), jI 1] [] s Q) ∧ (¬ (((2 : Int) ^ Int.toNat (tz v0) - 1) ≤ 65536) → ((0 ≤ ((2 : Int) ^ Int.toNat (tz v0) - 1) ∧ ((2 : Int) ^ Int.toNat (tz v0) - 1) ≤ 2147483647) ∧ kK mJ6_numberOfTrailingZeros_0f7a4 34 [jI (((2 : Int) ^ Int.toNat (tz v0) - 1) / 2 ^ Int.toNat 16), jI (1 + 16)] [] s Q)))) ∧ (¬ (0 < ((2 : Int) ^ Int.toNat (tz v0) - 1)) → ((0 ≤ ((2 : Int) ^ Int.toNat (tz v0) - 1)) ∧ Q (some (jI (jand ((2 : Int) ^ Int.toNat (tz v0) - 1) 32))) s))))) : kR mJ6_numberOfTrailingZeros_0f7a4 [jI v0] s Q := by
  show kK mJ6_numberOfTrailingZeros_0f7a4 0 [jI v0, jU] [] s Q
  obtain ⟨a1, a2, v⟩ := v
  refine k_iload_n dJ6_numberOfTrailingZeros_0f7a4_0 rfl ?_
  refine k_iconst dJ6_numberOfTrailingZeros_0f7a4_1 ?_
  refine k_not dJ6_numberOfTrailingZeros_0f7a4_2 ?_
  refine k_iload_n dJ6_numberOfTrailingZeros_0f7a4_3 rfl ?_
  refine k_iconst dJ6_numberOfTrailingZeros_0f7a4_4 ?_
  refine k_isub dJ6_numberOfTrailingZeros_0f7a4_5 ?_
  refine k_iand _ dJ6_numberOfTrailingZeros_0f7a4_6 (jtz32 a1) ?_
  refine k_istore_n [jI ((2 : Int) ^ Int.toNat (tz v0) - 1), jU] dJ6_numberOfTrailingZeros_0f7a4_7 rfl rfl ?_
  refine k_iload_n dJ6_numberOfTrailingZeros_0f7a4_8 rfl ?_
  obtain ⟨vt, vf⟩ := v
  refine k_if_gt 17 dJ6_numberOfTrailingZeros_0f7a4_9 rfl a2 (fun c3 => ?_) (fun c3 => ?_)
  · have v := vt c3
    refine k_iconst dJ6_numberOfTrailingZeros_0f7a4_17 ?_
    refine k_istore_n [jI ((2 : Int) ^ Int.toNat (tz v0) - 1), jI 1] dJ6_numberOfTrailingZeros_0f7a4_18 rfl rfl ?_
    refine k_iload_n dJ6_numberOfTrailingZeros_0f7a4_19 rfl ?_
    refine k_ldcw (65536) (65536) dJ6_numberOfTrailingZeros_0f7a4_20 ki_J6_264 rfl ?_
    obtain ⟨vt, vf⟩ := v
    refine k_icmp_le 34 dJ6_numberOfTrailingZeros_0f7a4_23 rfl a2 (by decide) (fun c4 => ?_) (fun c4 => ?_)
    · have v := vt c4
      exact v
    · have v := vf c4
      obtain ⟨a5, v⟩ := v
      refine k_iinc [jI ((2 : Int) ^ Int.toNat (tz v0) - 1), jI (1 + 16)] dJ6_numberOfTrailingZeros_0f7a4_26 rfl rfl rfl ?_
      refine k_iload_n dJ6_numberOfTrailingZeros_0f7a4_29 rfl ?_
      refine k_bipush dJ6_numberOfTrailingZeros_0f7a4_30 rfl ?_
      refine k_ushr dJ6_numberOfTrailingZeros_0f7a4_32 a5 (by decide) ?_
      refine k_istore_n [jI (((2 : Int) ^ Int.toNat (tz v0) - 1) / 2 ^ Int.toNat 16), jI (1 + 16)] dJ6_numberOfTrailingZeros_0f7a4_33 rfl rfl ?_
      exact v
  · have v := vf c3
    obtain ⟨a6, v⟩ := v
    refine k_iload_n dJ6_numberOfTrailingZeros_0f7a4_12 rfl ?_
    refine k_bipush dJ6_numberOfTrailingZeros_0f7a4_13 rfl ?_
    refine k_and dJ6_numberOfTrailingZeros_0f7a4_15 a6 (by decide) ?_
    exact k_ireturn (st := []) dJ6_numberOfTrailingZeros_0f7a4_16 rfl v
theorem g_J6_numberOfTrailingZeros_0f7a4_34 {s : Int → Int → Int} {Q : Option jV → (Int → Int → Int) → Prop} {v0 v1 : Int} (v : (jr32 v0 ∧ ((v0 ≤ 256 → kK mJ6_numberOfTrailingZeros_0f7a4 49 [jI v0, jI v1] [] s Q) ∧ (¬ (v0 ≤ 256) → ((0 ≤ v0 ∧ v0 ≤ 2147483647) ∧ kK mJ6_numberOfTrailingZeros_0f7a4 49 [jI (v0 / 2 ^ Int.toNat 8), jI (v1 + 8)] [] s Q))))) : kK mJ6_numberOfTrailingZeros_0f7a4 34 [jI v0, jI v1] [] s Q := by
  obtain ⟨a1, v⟩ := v
  refine k_iload_n dJ6_numberOfTrailingZeros_0f7a4_34 rfl ?_
  refine k_sipush dJ6_numberOfTrailingZeros_0f7a4_35 rfl ?_
  obtain ⟨vt, vf⟩ := v
  refine k_icmp_le 49 dJ6_numberOfTrailingZeros_0f7a4_38 rfl a1 (by decide) (fun c2 => ?_) (fun c2 => ?_)
  · have v := vt c2
    exact v
  · have v := vf c2
    obtain ⟨a3, v⟩ := v
    refine k_iinc [jI v0, jI (v1 + 8)] dJ6_numberOfTrailingZeros_0f7a4_41 rfl rfl rfl ?_
    refine k_iload_n dJ6_numberOfTrailingZeros_0f7a4_44 rfl ?_
    refine k_bipush dJ6_numberOfTrailingZeros_0f7a4_45 rfl ?_
    refine k_ushr dJ6_numberOfTrailingZeros_0f7a4_47 a3 (by decide) ?_
    refine k_istore_n [jI (v0 / 2 ^ Int.toNat 8), jI (v1 + 8)] dJ6_numberOfTrailingZeros_0f7a4_48 rfl rfl ?_
    exact v
theorem g_J6_numberOfTrailingZeros_0f7a4_49 {s : Int → Int → Int} {Q : Option jV → (Int → Int → Int) → Prop} {v0 v1 : Int} (v : (jr32 v0 ∧ ((v0 ≤ 16 → kK mJ6_numberOfTrailingZeros_0f7a4 62 [jI v0, jI v1] [] s Q) ∧ (¬ (v0 ≤ 16) → ((0 ≤ v0 ∧ v0 ≤ 2147483647) ∧ kK mJ6_numberOfTrailingZeros_0f7a4 62 [jI (v0 / 2 ^ Int.toNat 4), jI (v1 + 4)] [] s Q))))) : kK mJ6_numberOfTrailingZeros_0f7a4 49 [jI v0, jI v1] [] s Q := by
  obtain ⟨a1, v⟩ := v
  refine k_iload_n dJ6_numberOfTrailingZeros_0f7a4_49 rfl ?_
  refine k_bipush dJ6_numberOfTrailingZeros_0f7a4_50 rfl ?_
  obtain ⟨vt, vf⟩ := v
  refine k_icmp_le 62 dJ6_numberOfTrailingZeros_0f7a4_52 rfl a1 (by decide) (fun c2 => ?_) (fun c2 => ?_)
  · have v := vt c2
    exact v
  · have v := vf c2
    obtain ⟨a3, v⟩ := v
    refine k_iinc [jI v0, jI (v1 + 4)] dJ6_numberOfTrailingZeros_0f7a4_55 rfl rfl rfl ?_
    refine k_iload_n dJ6_numberOfTrailingZeros_0f7a4_58 rfl ?_
    refine k_iconst dJ6_numberOfTrailingZeros_0f7a4_59 ?_
    refine k_ushr dJ6_numberOfTrailingZeros_0f7a4_60 a3 (by decide) ?_
    refine k_istore_n [jI (v0 / 2 ^ Int.toNat 4), jI (v1 + 4)] dJ6_numberOfTrailingZeros_0f7a4_61 rfl rfl ?_
    exact v
theorem g_J6_numberOfTrailingZeros_0f7a4_62 {s : Int → Int → Int} {Q : Option jV → (Int → Int → Int) → Prop} {v0 v1 : Int} (v : (jr32 v0 ∧ ((v0 ≤ 4 → kK mJ6_numberOfTrailingZeros_0f7a4 74 [jI v0, jI v1] [] s Q) ∧ (¬ (v0 ≤ 4) → ((0 ≤ v0 ∧ v0 ≤ 2147483647) ∧ kK mJ6_numberOfTrailingZeros_0f7a4 74 [jI (v0 / 2 ^ Int.toNat 2), jI (v1 + 2)] [] s Q))))) : kK mJ6_numberOfTrailingZeros_0f7a4 62 [jI v0, jI v1] [] s Q := by
  obtain ⟨a1, v⟩ := v
  refine k_iload_n dJ6_numberOfTrailingZeros_0f7a4_62 rfl ?_
  refine k_iconst dJ6_numberOfTrailingZeros_0f7a4_63 ?_
  obtain ⟨vt, vf⟩ := v
  refine k_icmp_le 74 dJ6_numberOfTrailingZeros_0f7a4_64 rfl a1 (by decide) (fun c2 => ?_) (fun c2 => ?_)
  · have v := vt c2
    exact v
  · have v := vf c2
    obtain ⟨a3, v⟩ := v
    refine k_iinc [jI v0, jI (v1 + 2)] dJ6_numberOfTrailingZeros_0f7a4_67 rfl rfl rfl ?_
    refine k_iload_n dJ6_numberOfTrailingZeros_0f7a4_70 rfl ?_
    refine k_iconst dJ6_numberOfTrailingZeros_0f7a4_71 ?_
    refine k_ushr dJ6_numberOfTrailingZeros_0f7a4_72 a3 (by decide) ?_
    refine k_istore_n [jI (v0 / 2 ^ Int.toNat 2), jI (v1 + 2)] dJ6_numberOfTrailingZeros_0f7a4_73 rfl rfl ?_
    exact v
theorem g_J6_numberOfTrailingZeros_0f7a4_74 {s : Int → Int → Int} {Q : Option jV → (Int → Int → Int) → Prop} {v0 v1 : Int} (v : ((0 ≤ v0 ∧ v0 ≤ 2147483647) ∧ Q (some (jI (v1 + (v0 / 2 ^ Int.toNat 1)))) s)) : kK mJ6_numberOfTrailingZeros_0f7a4 74 [jI v0, jI v1] [] s Q := by
  obtain ⟨a1, v⟩ := v
  refine k_iload_n dJ6_numberOfTrailingZeros_0f7a4_74 rfl ?_
  refine k_iload_n dJ6_numberOfTrailingZeros_0f7a4_75 rfl ?_
  refine k_iconst dJ6_numberOfTrailingZeros_0f7a4_76 ?_
  refine k_ushr dJ6_numberOfTrailingZeros_0f7a4_77 a1 (by decide) ?_
  refine k_iadd dJ6_numberOfTrailingZeros_0f7a4_78 ?_
  exact k_ireturn (st := []) dJ6_numberOfTrailingZeros_0f7a4_79 rfl v
theorem sp_J6_ntz (s : Int → Int → Int) (x : Int) (h : 1 ≤ x ∧ x < 256) : kM mJ6_numberOfTrailingZeros_0f7a4 [jI x] s (some (jI (tz x))) s := by
  have hz := (tz_f h).1
  refine g_J6_numberOfTrailingZeros_0f7a4 ⟨h, ?_⟩
  have : tz x = 0 ∨ tz x = 1 ∨ tz x = 2 ∨ tz x = 3 ∨ tz x = 4 ∨ tz x = 5 ∨ tz x = 6 ∨ tz x = 7 := by omega
  rcases this with e | e | e | e | e | e | e | e <;> rw [e] <;> simp [jr32, jand] <;> refine g_J6_numberOfTrailingZeros_0f7a4_34 ?_ <;> simp [jr32] <;> refine g_J6_numberOfTrailingZeros_0f7a4_49 ?_ <;> simp [jr32] <;> refine g_J6_numberOfTrailingZeros_0f7a4_62 ?_ <;> simp [jr32] <;> refine g_J6_numberOfTrailingZeros_0f7a4_74 ?_ <;> simp [jr32]
theorem g_X6_takeAhead {s : Int → Int → Int} {Q : Option jV → (Int → Int → Int) → Prop} {v1 : Int} (v : kK mX6_takeAhead 2 [jR 97, jI v1, jI 0, jU, jU] [] s Q) : kR mX6_takeAhead [jR 97, jI v1] s Q := by
  show kK mX6_takeAhead 0 [jR 97, jI v1, jU, jU, jU] [] s Q
  refine k_iconst dX6_takeAhead_0 ?_
  refine k_istore_n [jR 97, jI v1, jI 0, jU, jU] dX6_takeAhead_1 rfl rfl ?_
  exact v
theorem g_X6_takeAhead_2 {s : Int → Int → Int} {Q : Option jV → (Int → Int → Int) → Prop} {v1 v2 : Int} (v : (jr32 v2 ∧ jr32 v1 ∧ ((v1 ≤ v2 → Q none s) ∧ (¬ (v1 ≤ v2) → kK mX6_takeAhead 9 [jR 97, jI v1, jI v2, jI 1, jU] [] s Q)))) : kK mX6_takeAhead 2 [jR 97, jI v1, jI v2, jU, jU] [] s Q := by
  obtain ⟨a1, a2, v⟩ := v
  refine k_iload_n dX6_takeAhead_2 rfl ?_
  refine k_iload_n dX6_takeAhead_3 rfl ?_
  obtain ⟨vt, vf⟩ := v
  refine k_icmp_ge 64 dX6_takeAhead_4 rfl a1 a2 (fun c3 => ?_) (fun c3 => ?_)
  · have v := vt c3
    exact k_return (st := []) dX6_takeAhead_64 rfl v
  · have v := vf c3
    refine k_iconst dX6_takeAhead_7 ?_
    refine k_istore_n [jR 97, jI v1, jI v2, jI 1, jU] dX6_takeAhead_8 rfl rfl ?_
    exact v
theorem g_X6_takeAhead_9 {s : Int → Int → Int} {Q : Option jV → (Int → Int → Int) → Prop} {v1 v2 v3 : Int} (v : ((0 ≤ v1 ∧ v1 ≤ 31) ∧ jr32 v3 ∧ jr32 (1 * 2 ^ Int.toNat v1) ∧ (((1 * 2 ^ Int.toNat v1) ≤ v3 → kK mX6_takeAhead 2 [jR 97, jI v1, jI (v2 + 1), jU, jU] [] s Q) ∧ (¬ ((1 * 2 ^ Int.toNat v1) ≤ v3) → ((1 ≤ v3 ∧ v3 < 256) ∧ (0 ≤ v2 ∧ v2 < 8) ∧ (0 ≤ v3) ∧ (0 ≤ (v3 - 1)) ∧ (0 ≤ (jand v3 (v3 - 1)) ∧ (jand v3 (v3 - 1)) < 256) ∧ (0 ≤ (tz v3) ∧ (tz v3) < 8) ∧ (0 ≤ v3 ∧ v3 < 256) ∧ kK mX6_takeAhead 9 [jR 97, jI v1, jI v2, jI (v3 + 1), jU] [] (w2 s (111 + v2) v3 ((s (111 + v2) (jand v3 (v3 - 1))) + (s (102 + (tz v3)) v2))) Q))))) : kK mX6_takeAhead 9 [jR 97, jI v1, jI v2, jI v3, jU] [] s Q := by
  obtain ⟨a1, a2, a3, v⟩ := v
  refine k_iload_n dX6_takeAhead_9 rfl ?_
  refine k_iconst dX6_takeAhead_10 ?_
  refine k_iload_n dX6_takeAhead_11 rfl ?_
  refine k_shl dX6_takeAhead_12 a1 ?_
  obtain ⟨vt, vf⟩ := v
  refine k_icmp_ge 58 dX6_takeAhead_13 rfl a2 a3 (fun c4 => ?_) (fun c4 => ?_)
  · have v := vt c4
    refine k_iinc [jR 97, jI v1, jI (v2 + 1), jI v3, jU] dX6_takeAhead_58 rfl rfl rfl ?_
    refine k_goto 2 dX6_takeAhead_61 rfl ?_
    refine k_drop [jR 97, jI v1, jI (v2 + 1), jU, jU] ⟨Or.inr rfl, Or.inr rfl, Or.inr rfl, Or.inl rfl, Or.inr rfl, trivial⟩ ?_
    exact v
  · have v := vf c4
    obtain ⟨a5, a6, a7, a8, a9, a10, a11, v⟩ := v
    refine k_iload_n dX6_takeAhead_16 rfl ?_
    refine k_invS [jI v3] [] dX6_takeAhead_17 cm_J6_numberOfTrailingZeros_0f7a4 ml_X6_49 st_J6_numberOfTrailingZeros_0f7a4 rfl rfl (sp_J6_ntz s v3 a5) ?_
    refine k_istore [jR 97, jI v1, jI v2, jI v3, jI (tz v3)] dX6_takeAhead_20 rfl rfl ?_
    refine k_aload_n dX6_takeAhead_22 rfl ?_
    refine k_getr dX6_takeAhead_23 fl_X6_26 sh_97 (by decide) rfl ?_
    refine k_iload_n dX6_takeAhead_26 rfl ?_
    refine k_aald 8 dX6_takeAhead_27 sh_110 (Or.inl rfl) (by decide) rfl (by decide) rfl a6 ?_
    refine k_iload_n dX6_takeAhead_28 rfl ?_
    refine k_aload_n dX6_takeAhead_29 rfl ?_
    refine k_getr dX6_takeAhead_30 fl_X6_26 sh_97 (by decide) rfl ?_
    refine k_iload_n dX6_takeAhead_33 rfl ?_
    refine k_aald 8 dX6_takeAhead_34 sh_110 (Or.inl rfl) (by decide) rfl (by decide) rfl a6 ?_
    refine k_iload_n dX6_takeAhead_35 rfl ?_
    refine k_iload_n dX6_takeAhead_36 rfl ?_
    refine k_iconst dX6_takeAhead_37 ?_
    refine k_isub dX6_takeAhead_38 ?_
    refine k_and dX6_takeAhead_39 a7 a8 ?_
    refine k_iald 256 dX6_takeAhead_40 (sr_110 v2 a6) ⟨by have := a6; omega, by have := a6; omega⟩ rfl (by decide) a9 ?_
    refine k_aload_n dX6_takeAhead_41 rfl ?_
    refine k_getr dX6_takeAhead_42 fl_X6_23 sh_97 (by decide) rfl ?_
    refine k_iload dX6_takeAhead_45 rfl ?_
    refine k_aald 8 dX6_takeAhead_47 sh_101 (Or.inl rfl) (by decide) rfl (by decide) rfl a10 ?_
    refine k_iload_n dX6_takeAhead_48 rfl ?_
    refine k_iald 8 dX6_takeAhead_49 (sr_101 (tz v3) a10) ⟨by have := a10; omega, by have := a10; omega⟩ rfl (by decide) a6 ?_
    refine k_iadd dX6_takeAhead_50 ?_
    refine k_iast 256 dX6_takeAhead_51 (sr_110 v2 a6) ⟨by have := a6; omega, by have := a6; omega⟩ rfl (by decide) a11 ?_
    refine k_iinc [jR 97, jI v1, jI v2, jI (v3 + 1), jI (tz v3)] dX6_takeAhead_52 rfl rfl rfl ?_
    refine k_goto 9 dX6_takeAhead_55 rfl ?_
    refine k_drop [jR 97, jI v1, jI v2, jI (v3 + 1), jU] ⟨Or.inr rfl, Or.inr rfl, Or.inr rfl, Or.inr rfl, Or.inl rfl, trivial⟩ ?_
    exact v
theorem g_X6_againstFirst {s : Int → Int → Int} {Q : Option jV → (Int → Int → Int) → Prop} {v1 v2 : Int} (v : ((0 ≤ v1 ∧ v1 ≤ 31) ∧ (0 ≤ v2 ∧ v2 < 256) ∧ (0 ≤ v1 ∧ v1 < 8) ∧ (0 ≤ (v2 - v2 / 2 ^ Int.toNat v1 % 2 * 2 ^ Int.toNat v1) ∧ (v2 - v2 / 2 ^ Int.toNat v1 % 2 * 2 ^ Int.toNat v1) < 256) ∧ Q (some (jI ((s (111 + v1) (v2 - v2 / 2 ^ Int.toNat v1 % 2 * 2 ^ Int.toNat v1)) + (s 119 (v2 - v2 / 2 ^ Int.toNat v1 % 2 * 2 ^ Int.toNat v1))))) s)) : kR mX6_againstFirst [jR 97, jI v1, jI v2] s Q := by
  show kK mX6_againstFirst 0 [jR 97, jI v1, jI v2, jU] [] s Q
  obtain ⟨a1, a2, a3, a4, v⟩ := v
  refine k_iload_n dX6_againstFirst_0 rfl ?_
  refine k_iconst dX6_againstFirst_1 ?_
  refine k_iload_n dX6_againstFirst_2 rfl ?_
  refine k_shl dX6_againstFirst_3 a1 ?_
  refine k_iconst dX6_againstFirst_4 ?_
  refine k_not dX6_againstFirst_5 ?_
  refine k_andn dX6_againstFirst_6 a2 a3 ?_
  refine k_istore_n [jR 97, jI v1, jI v2, jI (v2 - v2 / 2 ^ Int.toNat v1 % 2 * 2 ^ Int.toNat v1)] dX6_againstFirst_7 rfl rfl ?_
  refine k_aload_n dX6_againstFirst_8 rfl ?_
  refine k_getr dX6_againstFirst_9 fl_X6_26 sh_97 (by decide) rfl ?_
  refine k_iload_n dX6_againstFirst_12 rfl ?_
  refine k_aald 8 dX6_againstFirst_13 sh_110 (Or.inl rfl) (by decide) rfl (by decide) rfl a3 ?_
  refine k_iload_n dX6_againstFirst_14 rfl ?_
  refine k_iald 256 dX6_againstFirst_15 (sr_110 v1 a3) ⟨by have := a3; omega, by have := a3; omega⟩ rfl (by decide) a4 ?_
  refine k_aload_n dX6_againstFirst_16 rfl ?_
  refine k_getr dX6_againstFirst_17 fl_X6_29 sh_97 (by decide) rfl ?_
  refine k_iload_n dX6_againstFirst_20 rfl ?_
  refine k_iald 256 dX6_againstFirst_21 sh_119 (by decide) rfl (by decide) a4 ?_
  refine k_iadd dX6_againstFirst_22 ?_
  exact k_ireturn (st := []) dX6_againstFirst_23 rfl v
theorem g_X6_fewestAgainst {s : Int → Int → Int} {Q : Option jV → (Int → Int → Int) → Prop} {v1 v2 v3 : Int} (v : ((SOC s) ∧ (v1 = s 146 2) ∧ (∀ (s4 : Int → Int → Int), (frm ahP s s4 ∧ AH s s4) → kK mX6_fewestAgainst 15 [jR 97, jI v1, jI v2, jI v3, jI 1, jU, jU] [] (w2 s4 119 0 0) Q))) : kR mX6_fewestAgainst [jR 97, jI v1, jI v2, jI v3] s Q := by
  show kK mX6_fewestAgainst 0 [jR 97, jI v1, jI v2, jI v3, jU, jU, jU] [] s Q
  obtain ⟨a1, a2, v⟩ := v
  refine k_aload_n dX6_fewestAgainst_0 rfl ?_
  refine k_iload_n dX6_fewestAgainst_1 rfl ?_
  refine k_invVR [jI v1] [] dX6_fewestAgainst_2 cm_X6_takeAhead ml_X6_36 im_X6_takeAhead se_X6_takeAhead rfl sh_97 (by decide) rfl rfl (sp_X6_takeAhead s v1 a1 a2) (fun _ s4 q5 => ?_)
  obtain ⟨rfl, q5⟩ := q5
  have v := v s4 q5
  refine k_aload_n dX6_fewestAgainst_5 rfl ?_
  refine k_getr dX6_fewestAgainst_6 fl_X6_29 sh_97 (by decide) rfl ?_
  refine k_iconst dX6_fewestAgainst_9 ?_
  refine k_iconst dX6_fewestAgainst_10 ?_
  refine k_iast 256 dX6_fewestAgainst_11 sh_119 (by decide) rfl (by decide) (by decide) ?_
  refine k_iconst dX6_fewestAgainst_12 ?_
  refine k_istore [jR 97, jI v1, jI v2, jI v3, jI 1, jU, jU] dX6_fewestAgainst_13 rfl rfl ?_
  exact v
theorem g_X6_fewestAgainst_15 {s : Int → Int → Int} {Q : Option jV → (Int → Int → Int) → Prop} {v1 v2 v3 v4 : Int} (v : ((0 ≤ v1 ∧ v1 ≤ 31) ∧ jr32 v4 ∧ jr32 (1 * 2 ^ Int.toNat v1) ∧ (((1 * 2 ^ Int.toNat v1) ≤ v4 → ((0 ≤ ((1 * 2 ^ Int.toNat v1) - 1) ∧ ((1 * 2 ^ Int.toNat v1) - 1) < 256) ∧ Q (some (jI (s 119 ((1 * 2 ^ Int.toNat v1) - 1)))) s)) ∧ (¬ ((1 * 2 ^ Int.toNat v1) ≤ v4) → ((0 ≤ v4 ∧ v4 < 256) ∧ kK mX6_fewestAgainst 35 [jR 97, jI v1, jI v2, jI v3, jI v4, jI 0, jU] [] (w2 s 119 v4 41) Q))))) : kK mX6_fewestAgainst 15 [jR 97, jI v1, jI v2, jI v3, jI v4, jU, jU] [] s Q := by
  obtain ⟨a1, a2, a3, v⟩ := v
  refine k_iload dX6_fewestAgainst_15 rfl ?_
  refine k_iconst dX6_fewestAgainst_17 ?_
  refine k_iload_n dX6_fewestAgainst_18 rfl ?_
  refine k_shl dX6_fewestAgainst_19 a1 ?_
  obtain ⟨vt, vf⟩ := v
  refine k_icmp_ge 117 dX6_fewestAgainst_20 rfl a2 a3 (fun c4 => ?_) (fun c4 => ?_)
  · have v := vt c4
    obtain ⟨a5, v⟩ := v
    refine k_aload_n dX6_fewestAgainst_117 rfl ?_
    refine k_getr dX6_fewestAgainst_118 fl_X6_29 sh_97 (by decide) rfl ?_
    refine k_iconst dX6_fewestAgainst_121 ?_
    refine k_iload_n dX6_fewestAgainst_122 rfl ?_
    refine k_shl dX6_fewestAgainst_123 a1 ?_
    refine k_iconst dX6_fewestAgainst_124 ?_
    refine k_isub dX6_fewestAgainst_125 ?_
    refine k_iald 256 dX6_fewestAgainst_126 sh_119 (by decide) rfl (by decide) a5 ?_
    exact k_ireturn (st := []) dX6_fewestAgainst_127 rfl v
  · have v := vf c4
    obtain ⟨a6, v⟩ := v
    refine k_aload_n dX6_fewestAgainst_23 rfl ?_
    refine k_getr dX6_fewestAgainst_24 fl_X6_29 sh_97 (by decide) rfl ?_
    refine k_iload dX6_fewestAgainst_27 rfl ?_
    refine k_bipush dX6_fewestAgainst_29 rfl ?_
    refine k_iast 256 dX6_fewestAgainst_31 sh_119 (by decide) rfl (by decide) a6 ?_
    refine k_iconst dX6_fewestAgainst_32 ?_
    refine k_istore [jR 97, jI v1, jI v2, jI v3, jI v4, jI 0, jU] dX6_fewestAgainst_33 rfl rfl ?_
    exact v
theorem g_X6_fewestAgainst_35 {s : Int → Int → Int} {Q : Option jV → (Int → Int → Int) → Prop} {v1 v2 v3 v4 v5 : Int} (v : (jr32 v5 ∧ jr32 v1 ∧ ((v1 ≤ v5 → kK mX6_fewestAgainst 15 [jR 97, jI v1, jI v2, jI v3, jI (v4 + 1), jU, jU] [] s Q) ∧ (¬ (v1 ≤ v5) → (jr32 v2 ∧ ((v5 ≠ v2 → ((0 ≤ v5 ∧ v5 ≤ 31) ∧ jr32 v4 ∧ jr32 ((v4 / 2 ^ Int.toNat v5) % 2) ∧ ((((v4 / 2 ^ Int.toNat v5) % 2) ≠ 1 → kK mX6_fewestAgainst 35 [jR 97, jI v1, jI v2, jI v3, jI v4, jI (v5 + 1), jU] [] s Q) ∧ (((v4 / 2 ^ Int.toNat v5) % 2) = 1 → ((0 ≤ v4 ∧ v4 < 256) ∧ (0 ≤ v5 ∧ v5 < 8) ∧ (bt v4 v5 = 1) ∧ jr32 (s 119 v4) ∧ jr32 (s (111 + v5) (v4 - 2 ^ Int.toNat v5) + s 119 (v4 - 2 ^ Int.toNat v5)) ∧ kK mX6_fewestAgainst 35 [jR 97, jI v1, jI v2, jI v3, jI v4, jI (v5 + 1), jU] [] (w2 s 119 v4 (min (s 119 v4) (s (111 + v5) (v4 - 2 ^ Int.toNat v5) + s 119 (v4 - 2 ^ Int.toNat v5)))) Q))))) ∧ (v5 = v2 → ((0 ≤ v3 ∧ v3 ≤ 31) ∧ jr32 v4 ∧ jr32 ((v4 / 2 ^ Int.toNat v3) % 2) ∧ ((((v4 / 2 ^ Int.toNat v3) % 2) ≠ 1 → ((0 ≤ v5 ∧ v5 ≤ 31) ∧ jr32 ((v4 / 2 ^ Int.toNat v5) % 2) ∧ ((((v4 / 2 ^ Int.toNat v5) % 2) ≠ 1 → kK mX6_fewestAgainst 35 [jR 97, jI v1, jI v2, jI v3, jI v4, jI (v5 + 1), jU] [] s Q) ∧ (((v4 / 2 ^ Int.toNat v5) % 2) = 1 → ((0 ≤ v4 ∧ v4 < 256) ∧ (0 ≤ v5 ∧ v5 < 8) ∧ (bt v4 v5 = 1) ∧ jr32 (s 119 v4) ∧ jr32 (s (111 + v5) (v4 - 2 ^ Int.toNat v5) + s 119 (v4 - 2 ^ Int.toNat v5)) ∧ kK mX6_fewestAgainst 35 [jR 97, jI v1, jI v2, jI v3, jI v4, jI (v5 + 1), jU] [] (w2 s 119 v4 (min (s 119 v4) (s (111 + v5) (v4 - 2 ^ Int.toNat v5) + s 119 (v4 - 2 ^ Int.toNat v5)))) Q))))) ∧ (((v4 / 2 ^ Int.toNat v3) % 2) = 1 → ((0 ≤ v5 ∧ v5 ≤ 31) ∧ jr32 ((v4 / 2 ^ Int.toNat v5) % 2) ∧ ((((v4 / 2 ^ Int.toNat v5) % 2) ≠ 1 → kK mX6_fewestAgainst 35 [jR 97, jI v1, jI v2, jI v3, jI v4, jI (v5 + 1), jU] [] s Q) ∧ (((v4 / 2 ^ Int.toNat v5) % 2) = 1 → kK mX6_fewestAgainst 35 [jR 97, jI v1, jI v2, jI v3, jI v4, jI (v5 + 1), jU] [] s Q))))))))))))) : kK mX6_fewestAgainst 35 [jR 97, jI v1, jI v2, jI v3, jI v4, jI v5, jU] [] s Q := by
  obtain ⟨a1, a2, v⟩ := v
  refine k_iload dX6_fewestAgainst_35 rfl ?_
  refine k_iload_n dX6_fewestAgainst_37 rfl ?_
  obtain ⟨vt, vf⟩ := v
  refine k_icmp_ge 111 dX6_fewestAgainst_38 rfl a1 a2 (fun c3 => ?_) (fun c3 => ?_)
  · have v := vt c3
    refine k_iinc [jR 97, jI v1, jI v2, jI v3, jI (v4 + 1), jI v5, jU] dX6_fewestAgainst_111 rfl rfl rfl ?_
    refine k_goto 15 dX6_fewestAgainst_114 rfl ?_
    refine k_drop [jR 97, jI v1, jI v2, jI v3, jI (v4 + 1), jU, jU] ⟨Or.inr rfl, Or.inr rfl, Or.inr rfl, Or.inr rfl, Or.inr rfl, Or.inl rfl, Or.inr rfl, trivial⟩ ?_
    exact v
  · have v := vf c3
    obtain ⟨a4, v⟩ := v
    refine k_iload dX6_fewestAgainst_41 rfl ?_
    refine k_iload_n dX6_fewestAgainst_43 rfl ?_
    obtain ⟨vt, vf⟩ := v
    refine k_icmp_ne 61 dX6_fewestAgainst_44 rfl a1 a4 (fun c5 => ?_) (fun c5 => ?_)
    · have v := vt c5
      obtain ⟨a6, a7, a8, v⟩ := v
      refine k_iconst dX6_fewestAgainst_61 ?_
      refine k_istore [jR 97, jI v1, jI v2, jI v3, jI v4, jI v5, jI 0] dX6_fewestAgainst_62 rfl rfl ?_
      refine k_iload dX6_fewestAgainst_64 rfl ?_
      refine k_iload dX6_fewestAgainst_66 rfl ?_
      refine k_shr dX6_fewestAgainst_68 a7 a6 ?_
      refine k_iconst dX6_fewestAgainst_69 ?_
      refine k_and1 dX6_fewestAgainst_70 ?_
      refine k_iconst dX6_fewestAgainst_71 ?_
      obtain ⟨vt, vf⟩ := v
      refine k_icmp_ne 105 dX6_fewestAgainst_72 rfl a8 (by decide) (fun c9 => ?_) (fun c9 => ?_)
      · have v := vt c9
        refine k_iinc [jR 97, jI v1, jI v2, jI v3, jI v4, jI (v5 + 1), jI 0] dX6_fewestAgainst_105 rfl rfl rfl ?_
        refine k_goto 35 dX6_fewestAgainst_108 rfl ?_
        refine k_drop [jR 97, jI v1, jI v2, jI v3, jI v4, jI (v5 + 1), jU] ⟨Or.inr rfl, Or.inr rfl, Or.inr rfl, Or.inr rfl, Or.inr rfl, Or.inr rfl, Or.inl rfl, trivial⟩ ?_
        exact v
      · have v := vf c9
        obtain ⟨a10, a11, a12, a13, a14, v⟩ := v
        refine k_iload dX6_fewestAgainst_75 rfl ?_
        refine k_if_ne 105 dX6_fewestAgainst_77 rfl (by decide) (fun c => absurd c (by decide)) (fun _ => ?_)
        refine k_aload_n dX6_fewestAgainst_80 rfl ?_
        refine k_getr dX6_fewestAgainst_81 fl_X6_29 sh_97 (by decide) rfl ?_
        refine k_iload dX6_fewestAgainst_84 rfl ?_
        refine k_aload_n dX6_fewestAgainst_86 rfl ?_
        refine k_getr dX6_fewestAgainst_87 fl_X6_29 sh_97 (by decide) rfl ?_
        refine k_iload dX6_fewestAgainst_90 rfl ?_
        refine k_iald 256 dX6_fewestAgainst_92 sh_119 (by decide) rfl (by decide) a10 ?_
        refine k_aload_n dX6_fewestAgainst_93 rfl ?_
        refine k_iload dX6_fewestAgainst_94 rfl ?_
        refine k_iload dX6_fewestAgainst_96 rfl ?_
        refine k_invV [jI v5, jI v4] [jI (s 119 v4), jI v4, jR 119] dX6_fewestAgainst_98 cm_X6_againstFirst ml_X6_40 im_X6_againstFirst se_X6_againstFirst rfl sh_97 (by decide) rfl rfl (sp_X6_againstFirst s v5 v4 a11 a10 a12) ?_
        refine k_mminI dX6_fewestAgainst_101 ml_X6_44 mw_mminI.1 mw_mminI.2.1 mw_mminI.2.2 rfl a13 a14 ?_
        refine k_iast 256 dX6_fewestAgainst_104 sh_119 (by decide) rfl (by decide) a10 ?_
        refine k_iinc [jR 97, jI v1, jI v2, jI v3, jI v4, jI (v5 + 1), jI 0] dX6_fewestAgainst_105 rfl rfl rfl ?_
        refine k_goto 35 dX6_fewestAgainst_108 rfl ?_
        refine k_drop [jR 97, jI v1, jI v2, jI v3, jI v4, jI (v5 + 1), jU] ⟨Or.inr rfl, Or.inr rfl, Or.inr rfl, Or.inr rfl, Or.inr rfl, Or.inr rfl, Or.inl rfl, trivial⟩ ?_
        exact v
    · have v := vf c5
      obtain ⟨a15, a16, a17, v⟩ := v
      refine k_iload dX6_fewestAgainst_47 rfl ?_
      refine k_iload_n dX6_fewestAgainst_49 rfl ?_
      refine k_shr dX6_fewestAgainst_50 a16 a15 ?_
      refine k_iconst dX6_fewestAgainst_51 ?_
      refine k_and1 dX6_fewestAgainst_52 ?_
      refine k_iconst dX6_fewestAgainst_53 ?_
      obtain ⟨vt, vf⟩ := v
      refine k_icmp_ne 61 dX6_fewestAgainst_54 rfl a17 (by decide) (fun c18 => ?_) (fun c18 => ?_)
      · have v := vt c18
        obtain ⟨a19, a20, v⟩ := v
        refine k_iconst dX6_fewestAgainst_61 ?_
        refine k_istore [jR 97, jI v1, jI v2, jI v3, jI v4, jI v5, jI 0] dX6_fewestAgainst_62 rfl rfl ?_
        refine k_iload dX6_fewestAgainst_64 rfl ?_
        refine k_iload dX6_fewestAgainst_66 rfl ?_
        refine k_shr dX6_fewestAgainst_68 a16 a19 ?_
        refine k_iconst dX6_fewestAgainst_69 ?_
        refine k_and1 dX6_fewestAgainst_70 ?_
        refine k_iconst dX6_fewestAgainst_71 ?_
        obtain ⟨vt, vf⟩ := v
        refine k_icmp_ne 105 dX6_fewestAgainst_72 rfl a20 (by decide) (fun c21 => ?_) (fun c21 => ?_)
        · have v := vt c21
          refine k_iinc [jR 97, jI v1, jI v2, jI v3, jI v4, jI (v5 + 1), jI 0] dX6_fewestAgainst_105 rfl rfl rfl ?_
          refine k_goto 35 dX6_fewestAgainst_108 rfl ?_
          refine k_drop [jR 97, jI v1, jI v2, jI v3, jI v4, jI (v5 + 1), jU] ⟨Or.inr rfl, Or.inr rfl, Or.inr rfl, Or.inr rfl, Or.inr rfl, Or.inr rfl, Or.inl rfl, trivial⟩ ?_
          exact v
        · have v := vf c21
          obtain ⟨a22, a23, a24, a25, a26, v⟩ := v
          refine k_iload dX6_fewestAgainst_75 rfl ?_
          refine k_if_ne 105 dX6_fewestAgainst_77 rfl (by decide) (fun c => absurd c (by decide)) (fun _ => ?_)
          refine k_aload_n dX6_fewestAgainst_80 rfl ?_
          refine k_getr dX6_fewestAgainst_81 fl_X6_29 sh_97 (by decide) rfl ?_
          refine k_iload dX6_fewestAgainst_84 rfl ?_
          refine k_aload_n dX6_fewestAgainst_86 rfl ?_
          refine k_getr dX6_fewestAgainst_87 fl_X6_29 sh_97 (by decide) rfl ?_
          refine k_iload dX6_fewestAgainst_90 rfl ?_
          refine k_iald 256 dX6_fewestAgainst_92 sh_119 (by decide) rfl (by decide) a22 ?_
          refine k_aload_n dX6_fewestAgainst_93 rfl ?_
          refine k_iload dX6_fewestAgainst_94 rfl ?_
          refine k_iload dX6_fewestAgainst_96 rfl ?_
          refine k_invV [jI v5, jI v4] [jI (s 119 v4), jI v4, jR 119] dX6_fewestAgainst_98 cm_X6_againstFirst ml_X6_40 im_X6_againstFirst se_X6_againstFirst rfl sh_97 (by decide) rfl rfl (sp_X6_againstFirst s v5 v4 a23 a22 a24) ?_
          refine k_mminI dX6_fewestAgainst_101 ml_X6_44 mw_mminI.1 mw_mminI.2.1 mw_mminI.2.2 rfl a25 a26 ?_
          refine k_iast 256 dX6_fewestAgainst_104 sh_119 (by decide) rfl (by decide) a22 ?_
          refine k_iinc [jR 97, jI v1, jI v2, jI v3, jI v4, jI (v5 + 1), jI 0] dX6_fewestAgainst_105 rfl rfl rfl ?_
          refine k_goto 35 dX6_fewestAgainst_108 rfl ?_
          refine k_drop [jR 97, jI v1, jI v2, jI v3, jI v4, jI (v5 + 1), jU] ⟨Or.inr rfl, Or.inr rfl, Or.inr rfl, Or.inr rfl, Or.inr rfl, Or.inr rfl, Or.inl rfl, trivial⟩ ?_
          exact v
      · have v := vf c18
        obtain ⟨a27, a28, v⟩ := v
        refine k_iconst dX6_fewestAgainst_57 ?_
        refine k_goto 62 dX6_fewestAgainst_58 rfl ?_
        refine k_istore [jR 97, jI v1, jI v2, jI v3, jI v4, jI v5, jI 1] dX6_fewestAgainst_62 rfl rfl ?_
        refine k_iload dX6_fewestAgainst_64 rfl ?_
        refine k_iload dX6_fewestAgainst_66 rfl ?_
        refine k_shr dX6_fewestAgainst_68 a16 a27 ?_
        refine k_iconst dX6_fewestAgainst_69 ?_
        refine k_and1 dX6_fewestAgainst_70 ?_
        refine k_iconst dX6_fewestAgainst_71 ?_
        obtain ⟨vt, vf⟩ := v
        refine k_icmp_ne 105 dX6_fewestAgainst_72 rfl a28 (by decide) (fun c29 => ?_) (fun c29 => ?_)
        · have v := vt c29
          refine k_iinc [jR 97, jI v1, jI v2, jI v3, jI v4, jI (v5 + 1), jI 1] dX6_fewestAgainst_105 rfl rfl rfl ?_
          refine k_goto 35 dX6_fewestAgainst_108 rfl ?_
          refine k_drop [jR 97, jI v1, jI v2, jI v3, jI v4, jI (v5 + 1), jU] ⟨Or.inr rfl, Or.inr rfl, Or.inr rfl, Or.inr rfl, Or.inr rfl, Or.inr rfl, Or.inl rfl, trivial⟩ ?_
          exact v
        · have v := vf c29
          refine k_iload dX6_fewestAgainst_75 rfl ?_
          refine k_if_ne 105 dX6_fewestAgainst_77 rfl (by decide) (fun _ => ?_) (fun c => absurd c (by decide))
          refine k_iinc [jR 97, jI v1, jI v2, jI v3, jI v4, jI (v5 + 1), jI 1] dX6_fewestAgainst_105 rfl rfl rfl ?_
          refine k_goto 35 dX6_fewestAgainst_108 rfl ?_
          refine k_drop [jR 97, jI v1, jI v2, jI v3, jI v4, jI (v5 + 1), jU] ⟨Or.inr rfl, Or.inr rfl, Or.inr rfl, Or.inr rfl, Or.inr rfl, Or.inr rfl, Or.inl rfl, trivial⟩ ?_
          exact v
theorem g_X6_firstOf {s : Int → Int → Int} {Q : Option jV → (Int → Int → Int) → Prop} {v1 v2 : Int} (v : kK mX6_firstOf 2 [jR 97, jI v1, jI v2, jI 0] [] s Q) : kR mX6_firstOf [jR 97, jI v1, jI v2] s Q := by
  show kK mX6_firstOf 0 [jR 97, jI v1, jI v2, jU] [] s Q
  refine k_iconst dX6_firstOf_0 ?_
  refine k_istore_n [jR 97, jI v1, jI v2, jI 0] dX6_firstOf_1 rfl rfl ?_
  exact v
theorem g_X6_firstOf_2 {s : Int → Int → Int} {Q : Option jV → (Int → Int → Int) → Prop} {v1 v2 v3 : Int} (v : (jr32 v3 ∧ jr32 (v1 - 1) ∧ (((v1 - 1) ≤ v3 → Q (some (jI v3)) s) ∧ (¬ ((v1 - 1) ≤ v3) → ((0 ≤ v3 ∧ v3 ≤ 31) ∧ jr32 v2 ∧ jr32 ((v2 / 2 ^ Int.toNat v3) % 2) ∧ ((((v2 / 2 ^ Int.toNat v3) % 2) = 0 → kK mX6_firstOf 2 [jR 97, jI v1, jI v2, jI (v3 + 1)] [] s Q) ∧ (¬ (((v2 / 2 ^ Int.toNat v3) % 2) = 0) → ((0 ≤ v3 ∧ v3 < 8) ∧ (0 ≤ v2 ∧ v2 < 256) ∧ (bt v2 v3 = 1) ∧ jr32 (s (111 + v3) (v2 - 2 ^ Int.toNat v3) + s 119 (v2 - 2 ^ Int.toNat v3)) ∧ jr32 (s 119 v2) ∧ (((s (111 + v3) (v2 - 2 ^ Int.toNat v3) + s 119 (v2 - 2 ^ Int.toNat v3)) ≤ (s 119 v2) → Q (some (jI v3)) s) ∧ (¬ ((s (111 + v3) (v2 - 2 ^ Int.toNat v3) + s 119 (v2 - 2 ^ Int.toNat v3)) ≤ (s 119 v2)) → kK mX6_firstOf 2 [jR 97, jI v1, jI v2, jI (v3 + 1)] [] s Q)))))))))) : kK mX6_firstOf 2 [jR 97, jI v1, jI v2, jI v3] [] s Q := by
  obtain ⟨a1, a2, v⟩ := v
  refine k_iload_n dX6_firstOf_2 rfl ?_
  refine k_iload_n dX6_firstOf_3 rfl ?_
  refine k_iconst dX6_firstOf_4 ?_
  refine k_isub dX6_firstOf_5 ?_
  obtain ⟨vt, vf⟩ := v
  refine k_icmp_ge 38 dX6_firstOf_6 rfl a1 a2 (fun c3 => ?_) (fun c3 => ?_)
  · have v := vt c3
    refine k_iload_n dX6_firstOf_38 rfl ?_
    exact k_ireturn (st := []) dX6_firstOf_39 rfl v
  · have v := vf c3
    obtain ⟨a4, a5, a6, v⟩ := v
    refine k_iload_n dX6_firstOf_9 rfl ?_
    refine k_iload_n dX6_firstOf_10 rfl ?_
    refine k_shr dX6_firstOf_11 a5 a4 ?_
    refine k_iconst dX6_firstOf_12 ?_
    refine k_and1 dX6_firstOf_13 ?_
    obtain ⟨vt, vf⟩ := v
    refine k_if_eq 32 dX6_firstOf_14 rfl a6 (fun c7 => ?_) (fun c7 => ?_)
    · have v := vt c7
      refine k_iinc [jR 97, jI v1, jI v2, jI (v3 + 1)] dX6_firstOf_32 rfl rfl rfl ?_
      refine k_goto 2 dX6_firstOf_35 rfl ?_
      exact v
    · have v := vf c7
      obtain ⟨a8, a9, a10, a11, a12, v⟩ := v
      refine k_aload_n dX6_firstOf_17 rfl ?_
      refine k_iload_n dX6_firstOf_18 rfl ?_
      refine k_iload_n dX6_firstOf_19 rfl ?_
      refine k_invV [jI v3, jI v2] [] dX6_firstOf_20 cm_X6_againstFirst ml_X6_40 im_X6_againstFirst se_X6_againstFirst rfl sh_97 (by decide) rfl rfl (sp_X6_againstFirst s v3 v2 a8 a9 a10) ?_
      refine k_aload_n dX6_firstOf_23 rfl ?_
      refine k_getr dX6_firstOf_24 fl_X6_29 sh_97 (by decide) rfl ?_
      refine k_iload_n dX6_firstOf_27 rfl ?_
      refine k_iald 256 dX6_firstOf_28 sh_119 (by decide) rfl (by decide) a9 ?_
      obtain ⟨vt, vf⟩ := v
      refine k_icmp_le 38 dX6_firstOf_29 rfl a11 a12 (fun c13 => ?_) (fun c13 => ?_)
      · have v := vt c13
        refine k_iload_n dX6_firstOf_38 rfl ?_
        exact k_ireturn (st := []) dX6_firstOf_39 rfl v
      · have v := vf c13
        refine k_iinc [jR 97, jI v1, jI v2, jI (v3 + 1)] dX6_firstOf_32 rfl rfl rfl ?_
        refine k_goto 2 dX6_firstOf_35 rfl ?_
        exact v
