theorem g_X11_againstNext {s : Int → Int → Int} {Q : Option jV → (Int → Int → Int) → Prop} {v1 v2 : Int} (v : kK mX11_againstNext 5 [jR 143, jI v1, jI v2, jI 0, jI 0] [] s Q) : kR mX11_againstNext [jR 143, jI v1, jI v2] s Q := by
  show kK mX11_againstNext 0 [jR 143, jI v1, jI v2, jU, jU] [] s Q
  refine k_iconst dX11_againstNext_0 ?_
  refine k_istore_n [jR 143, jI v1, jI v2, jI 0, jU] dX11_againstNext_1 rfl rfl ?_
  refine k_iconst dX11_againstNext_2 ?_
  refine k_istore [jR 143, jI v1, jI v2, jI 0, jI 0] dX11_againstNext_3 rfl rfl ?_
  exact v
theorem g_X11_againstNext_5 {s : Int → Int → Int} {Q : Option jV → (Int → Int → Int) → Prop} {v1 v2 v3 v4 : Int} (v : (jr32 v4 ∧ jr32 (s 146 4) ∧ (((s 146 4) ≤ v4 → Q (some (jI v3)) s) ∧ (¬ ((s 146 4) ≤ v4) → ((0 ≤ v4 ∧ v4 < 40) ∧ jr32 (s 161 v4) ∧ jr32 v1 ∧ (((s 161 v4) ≠ v1 → kK mX11_againstNext 5 [jR 143, jI v1, jI v2, jI (v3 + 0), jI (v4 + 1)] [] s Q) ∧ ((s 161 v4) = v1 → ((0 ≤ (s 160 v4) ∧ (s 160 v4) ≤ 31) ∧ jr32 v2 ∧ jr32 ((v2 / 2 ^ Int.toNat (s 160 v4)) % 2) ∧ ((((v2 / 2 ^ Int.toNat (s 160 v4)) % 2) ≠ 0 → kK mX11_againstNext 5 [jR 143, jI v1, jI v2, jI (v3 + 0), jI (v4 + 1)] [] s Q) ∧ (((v2 / 2 ^ Int.toNat (s 160 v4)) % 2) = 0 → kK mX11_againstNext 5 [jR 143, jI v1, jI v2, jI (v3 + 1), jI (v4 + 1)] [] s Q)))))))))) : kK mX11_againstNext 5 [jR 143, jI v1, jI v2, jI v3, jI v4] [] s Q := by
  obtain ⟨a1, a2, v⟩ := v
  refine k_iload dX11_againstNext_5 rfl ?_
  refine k_aload_n dX11_againstNext_7 rfl ?_
  refine k_getr dX11_againstNext_8 fl_X11_16 sh_143 (by decide) rfl ?_
  refine k_iconst dX11_againstNext_11 ?_
  refine k_iald 6 dX11_againstNext_12 sh_146 (by decide) rfl (by decide) (by decide) ?_
  obtain ⟨vt, vf⟩ := v
  refine k_icmp_ge 55 dX11_againstNext_13 rfl a1 a2 (fun c3 => ?_) (fun c3 => ?_)
  · have v := vt c3
    refine k_iload_n dX11_againstNext_55 rfl ?_
    exact k_ireturn (st := []) dX11_againstNext_56 rfl v
  · have v := vf c3
    obtain ⟨a4, a5, a6, v⟩ := v
    refine k_iload_n dX11_againstNext_16 rfl ?_
    refine k_aload_n dX11_againstNext_17 rfl ?_
    refine k_getr dX11_againstNext_18 fl_X11_61 sh_143 (by decide) rfl ?_
    refine k_iload dX11_againstNext_21 rfl ?_
    refine k_iald 40 dX11_againstNext_23 sh_161 (by decide) rfl (by decide) a4 ?_
    refine k_iload_n dX11_againstNext_24 rfl ?_
    obtain ⟨vt, vf⟩ := v
    refine k_icmp_ne 46 dX11_againstNext_25 rfl a5 a6 (fun c7 => ?_) (fun c7 => ?_)
    · have v := vt c7
      refine k_iconst dX11_againstNext_46 ?_
      refine k_iadd dX11_againstNext_47 ?_
      refine k_istore_n [jR 143, jI v1, jI v2, jI (v3 + 0), jI v4] dX11_againstNext_48 rfl rfl ?_
      refine k_iinc [jR 143, jI v1, jI v2, jI (v3 + 0), jI (v4 + 1)] dX11_againstNext_49 rfl rfl rfl ?_
      refine k_goto 5 dX11_againstNext_52 rfl ?_
      exact v
    · have v := vf c7
      obtain ⟨a8, a9, a10, v⟩ := v
      refine k_iload_n dX11_againstNext_28 rfl ?_
      refine k_aload_n dX11_againstNext_29 rfl ?_
      refine k_getr dX11_againstNext_30 fl_X11_58 sh_143 (by decide) rfl ?_
      refine k_iload dX11_againstNext_33 rfl ?_
      refine k_iald 40 dX11_againstNext_35 sh_160 (by decide) rfl (by decide) a4 ?_
      refine k_shr dX11_againstNext_36 a9 a8 ?_
      refine k_iconst dX11_againstNext_37 ?_
      refine k_and1 dX11_againstNext_38 ?_
      obtain ⟨vt, vf⟩ := v
      refine k_if_ne 46 dX11_againstNext_39 rfl a10 (fun c11 => ?_) (fun c11 => ?_)
      · have v := vt c11
        refine k_iconst dX11_againstNext_46 ?_
        refine k_iadd dX11_againstNext_47 ?_
        refine k_istore_n [jR 143, jI v1, jI v2, jI (v3 + 0), jI v4] dX11_againstNext_48 rfl rfl ?_
        refine k_iinc [jR 143, jI v1, jI v2, jI (v3 + 0), jI (v4 + 1)] dX11_againstNext_49 rfl rfl rfl ?_
        refine k_goto 5 dX11_againstNext_52 rfl ?_
        exact v
      · have v := vf c11
        refine k_iconst dX11_againstNext_42 ?_
        refine k_goto 47 dX11_againstNext_43 rfl ?_
        refine k_iadd dX11_againstNext_47 ?_
        refine k_istore_n [jR 143, jI v1, jI v2, jI (v3 + 1), jI v4] dX11_againstNext_48 rfl rfl ?_
        refine k_iinc [jR 143, jI v1, jI v2, jI (v3 + 1), jI (v4 + 1)] dX11_againstNext_49 rfl rfl rfl ?_
        refine k_goto 5 dX11_againstNext_52 rfl ?_
        exact v
theorem sp_X11_againstNext (s : Int → Int → Int) (x set : Int) (so : SO s) (hx : jr32 x) (hs : jr32 set) : kM mX11_againstNext [jR 143, jI x, jI set] s (some (jI (agn s x set))) s := by
  have n8 := so.1
  have m40 := so.2.1
  refine g_X11_againstNext ?_
  have key : ∀ i, i ≤ s 146 4 → 0 ≤ i → kK mX11_againstNext 5 [jR 143, jI x, jI set, jI (sg i (fun j => jbo (s 161 j = x ∧ bt set (s 160 j) = 0))), jI i] [] s (fun r s' => r = some (jI (agn s x set)) ∧ s' = s) := by
    refine lp_up _ _ (fun i hi ih h0 => ?_)
    refine g_X11_againstNext_5 ⟨by unfold jr32; omega, by unfold jr32; omega, fun c => ?_, fun c => ?_⟩
    · rw [show i = s 146 4 by omega]; exact ⟨rfl, rfl⟩
    · obtain ⟨a1, a2, a3⟩ := so.2.2 i h0 (by omega)
      have no : ¬ (s 161 i = x ∧ bt set (s 160 i) = 0) → kK mX11_againstNext 5 [jR 143, jI x, jI set, jI (sg i (fun j => jbo (s 161 j = x ∧ bt set (s 160 j) = 0)) + 0), jI (i + 1)] [] s (fun r s' => r = some (jI (agn s x set)) ∧ s' = s) := fun p => by
        have := ih (by omega) (by omega)
        rw [sg_s h0, jbo_f p] at this
        exact this
      refine ⟨by omega, by unfold jr32; omega, hx, fun d => no (fun q => d q.1), fun d => ⟨by omega, hs, by unfold jr32; have := bt_01 set (s 160 i); unfold bt at this; omega, fun d2 => no (fun q => d2 q.2), fun d2 => ?_⟩⟩
      have := ih (by omega) (by omega)
      rw [sg_s h0, jbo_t ⟨d, d2⟩] at this
      exact this
  exact key 0 (by omega) (by omega)
theorem g_X11_orders {s : Int → Int → Int} {Q : Option jV → (Int → Int → Int) → Prop} {v1 v2 : Int} (v : ((0 ≤ (s 146 2) ∧ (s 146 2) ≤ 31) ∧ kK mX11_orders 14 [jR 143, jI v1, jI v2, jI (((1 : Int) * 2 ^ Int.toNat (s 146 2)) - 1), jI (((1 : Int) * 2 ^ Int.toNat (s 146 2)) - 1), jU, jU, jU] [] s Q)) : kR mX11_orders [jR 143, jI v1, jI v2] s Q := by
  show kK mX11_orders 0 [jR 143, jI v1, jI v2, jU, jU, jU, jU, jU] [] s Q
  obtain ⟨a1, v⟩ := v
  refine k_iconst dX11_orders_0 ?_
  refine k_aload_n dX11_orders_1 rfl ?_
  refine k_getr dX11_orders_2 fl_X11_16 sh_143 (by decide) rfl ?_
  refine k_iconst dX11_orders_5 ?_
  refine k_iald 6 dX11_orders_6 sh_146 (by decide) rfl (by decide) (by decide) ?_
  refine k_shl dX11_orders_7 a1 ?_
  refine k_iconst dX11_orders_8 ?_
  refine k_isub dX11_orders_9 ?_
  refine k_istore_n [jR 143, jI v1, jI v2, jI (((1 : Int) * 2 ^ Int.toNat (s 146 2)) - 1), jU, jU, jU, jU] dX11_orders_10 rfl rfl ?_
  refine k_iload_n dX11_orders_11 rfl ?_
  refine k_istore [jR 143, jI v1, jI v2, jI (((1 : Int) * 2 ^ Int.toNat (s 146 2)) - 1), jI (((1 : Int) * 2 ^ Int.toNat (s 146 2)) - 1), jU, jU, jU] dX11_orders_12 rfl rfl ?_
  exact v
theorem g_X11_orders_14 {s : Int → Int → Int} {Q : Option jV → (Int → Int → Int) → Prop} {v1 v2 v3 v4 : Int} (v : (jr32 v4 ∧ ((v4 < 0 → Q (some (jI (s 162 0))) s) ∧ (¬ (v4 < 0) → (jr32 v3 ∧ ((v4 ≠ v3 → ((0 ≤ v4 ∧ v4 < 256) ∧ kK mX11_orders 42 [jR 143, jI v1, jI v2, jI v3, jI v4, jI 0, jU, jU] [] (w2 s 162 v4 1000) Q)) ∧ (v4 = v3 → ((0 ≤ v4 ∧ v4 < 256) ∧ kK mX11_orders 42 [jR 143, jI v1, jI v2, jI v3, jI v4, jI 0, jU, jU] [] (w2 s 162 v4 0) Q)))))))) : kK mX11_orders 14 [jR 143, jI v1, jI v2, jI v3, jI v4, jU, jU, jU] [] s Q := by
  obtain ⟨a1, v⟩ := v
  refine k_iload dX11_orders_14 rfl ?_
  obtain ⟨vt, vf⟩ := v
  refine k_if_lt 163 dX11_orders_16 rfl a1 (fun c2 => ?_) (fun c2 => ?_)
  · have v := vt c2
    refine k_aload_n dX11_orders_163 rfl ?_
    refine k_getr dX11_orders_164 fl_X11_64 sh_143 (by decide) rfl ?_
    refine k_iconst dX11_orders_167 ?_
    refine k_iald 256 dX11_orders_168 sh_162 (by decide) rfl (by decide) (by decide) ?_
    exact k_ireturn (st := []) dX11_orders_169 rfl v
  · have v := vf c2
    obtain ⟨a3, v⟩ := v
    refine k_aload_n dX11_orders_19 rfl ?_
    refine k_getr dX11_orders_20 fl_X11_64 sh_143 (by decide) rfl ?_
    refine k_iload dX11_orders_23 rfl ?_
    refine k_iload dX11_orders_25 rfl ?_
    refine k_iload_n dX11_orders_27 rfl ?_
    obtain ⟨vt, vf⟩ := v
    refine k_icmp_ne 35 dX11_orders_28 rfl a1 a3 (fun c4 => ?_) (fun c4 => ?_)
    · have v := vt c4
      obtain ⟨a5, v⟩ := v
      refine k_sipush dX11_orders_35 rfl ?_
      refine k_iast 256 dX11_orders_38 sh_162 (by decide) rfl (by decide) a5 ?_
      refine k_iconst dX11_orders_39 ?_
      refine k_istore [jR 143, jI v1, jI v2, jI v3, jI v4, jI 0, jU, jU] dX11_orders_40 rfl rfl ?_
      exact v
    · have v := vf c4
      obtain ⟨a6, v⟩ := v
      refine k_iconst dX11_orders_31 ?_
      refine k_goto 38 dX11_orders_32 rfl ?_
      refine k_iast 256 dX11_orders_38 sh_162 (by decide) rfl (by decide) a6 ?_
      refine k_iconst dX11_orders_39 ?_
      refine k_istore [jR 143, jI v1, jI v2, jI v3, jI v4, jI 0, jU, jU] dX11_orders_40 rfl rfl ?_
      exact v
theorem g_X11_orders_42 {s : Int → Int → Int} {Q : Option jV → (Int → Int → Int) → Prop} {v1 v2 v3 v4 v5 : Int} (v : (jr32 v5 ∧ jr32 (s 146 2) ∧ (((s 146 2) ≤ v5 → kK mX11_orders 14 [jR 143, jI v1, jI v2, jI v3, jI (v4 + (-1)), jU, jU, jU] [] s Q) ∧ (¬ ((s 146 2) ≤ v5) → ((0 ≤ v5 ∧ v5 ≤ 31) ∧ jr32 v4 ∧ jr32 ((v4 / 2 ^ Int.toNat v5) % 2) ∧ ((((v4 / 2 ^ Int.toNat v5) % 2) ≠ 0 → ((0 ≤ v4 ∧ v4 < 256) ∧ jr32 (s 162 v4) ∧ (((s 162 v4) ≤ 1000 → kK mX11_orders 42 [jR 143, jI v1, jI v2, jI v3, jI v4, jI (v5 + 1), jU, jU] [] (w2 s 162 v4 (s 162 v4)) Q) ∧ (¬ ((s 162 v4) ≤ 1000) → kK mX11_orders 42 [jR 143, jI v1, jI v2, jI v3, jI v4, jI (v5 + 1), jU, jU] [] (w2 s 162 v4 1000) Q)))) ∧ (((v4 / 2 ^ Int.toNat v5) % 2) = 0 → (jr32 v1 ∧ ((v5 ≠ v1 → ((SO s) ∧ (0 ≤ v4) ∧ (0 ≤ ((1 : Int) * 2 ^ Int.toNat v5)) ∧ (0 ≤ (jor v4 ((1 : Int) * 2 ^ Int.toNat v5)) ∧ (jor v4 ((1 : Int) * 2 ^ Int.toNat v5)) < 256) ∧ (0 ≤ v4 ∧ v4 < 256) ∧ jr32 ((agn s v5 v4) + (s 162 (jor v4 ((1 : Int) * 2 ^ Int.toNat v5)))) ∧ jr32 (s 162 v4) ∧ (((s 162 v4) ≤ ((agn s v5 v4) + (s 162 (jor v4 ((1 : Int) * 2 ^ Int.toNat v5)))) → kK mX11_orders 42 [jR 143, jI v1, jI v2, jI v3, jI v4, jI (v5 + 1), jU, jU] [] (w2 s 162 v4 (s 162 v4)) Q) ∧ (¬ ((s 162 v4) ≤ ((agn s v5 v4) + (s 162 (jor v4 ((1 : Int) * 2 ^ Int.toNat v5))))) → kK mX11_orders 42 [jR 143, jI v1, jI v2, jI v3, jI v4, jI (v5 + 1), jU, jU] [] (w2 s 162 v4 ((agn s v5 v4) + (s 162 (jor v4 ((1 : Int) * 2 ^ Int.toNat v5))))) Q)))) ∧ (v5 = v1 → ((0 ≤ v2 ∧ v2 ≤ 31) ∧ jr32 ((v4 / 2 ^ Int.toNat v2) % 2) ∧ ((((v4 / 2 ^ Int.toNat v2) % 2) ≠ 1 → ((0 ≤ v4 ∧ v4 < 256) ∧ jr32 (s 162 v4) ∧ (((s 162 v4) ≤ 1000 → kK mX11_orders 42 [jR 143, jI v1, jI v2, jI v3, jI v4, jI (v5 + 1), jU, jU] [] (w2 s 162 v4 (s 162 v4)) Q) ∧ (¬ ((s 162 v4) ≤ 1000) → kK mX11_orders 42 [jR 143, jI v1, jI v2, jI v3, jI v4, jI (v5 + 1), jU, jU] [] (w2 s 162 v4 1000) Q)))) ∧ (((v4 / 2 ^ Int.toNat v2) % 2) = 1 → ((SO s) ∧ (0 ≤ v4) ∧ (0 ≤ ((1 : Int) * 2 ^ Int.toNat v5)) ∧ (0 ≤ (jor v4 ((1 : Int) * 2 ^ Int.toNat v5)) ∧ (jor v4 ((1 : Int) * 2 ^ Int.toNat v5)) < 256) ∧ (0 ≤ v4 ∧ v4 < 256) ∧ jr32 ((agn s v5 v4) + (s 162 (jor v4 ((1 : Int) * 2 ^ Int.toNat v5)))) ∧ jr32 (s 162 v4) ∧ (((s 162 v4) ≤ ((agn s v5 v4) + (s 162 (jor v4 ((1 : Int) * 2 ^ Int.toNat v5)))) → kK mX11_orders 42 [jR 143, jI v1, jI v2, jI v3, jI v4, jI (v5 + 1), jU, jU] [] (w2 s 162 v4 (s 162 v4)) Q) ∧ (¬ ((s 162 v4) ≤ ((agn s v5 v4) + (s 162 (jor v4 ((1 : Int) * 2 ^ Int.toNat v5))))) → kK mX11_orders 42 [jR 143, jI v1, jI v2, jI v3, jI v4, jI (v5 + 1), jU, jU] [] (w2 s 162 v4 ((agn s v5 v4) + (s 162 (jor v4 ((1 : Int) * 2 ^ Int.toNat v5))))) Q)))))))))))))))) : kK mX11_orders 42 [jR 143, jI v1, jI v2, jI v3, jI v4, jI v5, jU, jU] [] s Q := by
  obtain ⟨a1, a2, v⟩ := v
  refine k_iload dX11_orders_42 rfl ?_
  refine k_aload_n dX11_orders_44 rfl ?_
  refine k_getr dX11_orders_45 fl_X11_16 sh_143 (by decide) rfl ?_
  refine k_iconst dX11_orders_48 ?_
  refine k_iald 6 dX11_orders_49 sh_146 (by decide) rfl (by decide) (by decide) ?_
  obtain ⟨vt, vf⟩ := v
  refine k_icmp_ge 157 dX11_orders_50 rfl a1 a2 (fun c3 => ?_) (fun c3 => ?_)
  · have v := vt c3
    refine k_iinc [jR 143, jI v1, jI v2, jI v3, jI (v4 + (-1)), jI v5, jU, jU] dX11_orders_157 rfl rfl rfl ?_
    refine k_goto 14 dX11_orders_160 rfl ?_
    refine k_drop [jR 143, jI v1, jI v2, jI v3, jI (v4 + (-1)), jU, jU, jU] ⟨Or.inr rfl, Or.inr rfl, Or.inr rfl, Or.inr rfl, Or.inr rfl, Or.inl rfl, Or.inr rfl, Or.inr rfl, trivial⟩ ?_
    exact v
  · have v := vf c3
    obtain ⟨a4, a5, a6, v⟩ := v
    refine k_iload dX11_orders_53 rfl ?_
    refine k_iload dX11_orders_55 rfl ?_
    refine k_shr dX11_orders_57 a5 a4 ?_
    refine k_iconst dX11_orders_58 ?_
    refine k_and1 dX11_orders_59 ?_
    obtain ⟨vt, vf⟩ := v
    refine k_if_ne 83 dX11_orders_60 rfl a6 (fun c7 => ?_) (fun c7 => ?_)
    · have v := vt c7
      obtain ⟨a8, a9, v⟩ := v
      refine k_iconst dX11_orders_83 ?_
      refine k_istore [jR 143, jI v1, jI v2, jI v3, jI v4, jI v5, jI 0, jU] dX11_orders_84 rfl rfl ?_
      refine k_iload dX11_orders_86 rfl ?_
      refine k_if_eq 115 dX11_orders_88 rfl (by decide) (fun _ => ?_) (fun c => absurd c (by decide))
      refine k_sipush dX11_orders_115 rfl ?_
      refine k_istore [jR 143, jI v1, jI v2, jI v3, jI v4, jI v5, jI 0, jI 1000] dX11_orders_118 rfl rfl ?_
      refine k_aload_n dX11_orders_120 rfl ?_
      refine k_getr dX11_orders_121 fl_X11_64 sh_143 (by decide) rfl ?_
      refine k_iload dX11_orders_124 rfl ?_
      refine k_iload dX11_orders_126 rfl ?_
      refine k_aload_n dX11_orders_128 rfl ?_
      refine k_getr dX11_orders_129 fl_X11_64 sh_143 (by decide) rfl ?_
      refine k_iload dX11_orders_132 rfl ?_
      refine k_iald 256 dX11_orders_134 sh_162 (by decide) rfl (by decide) a8 ?_
      obtain ⟨vt, vf⟩ := v
      refine k_icmp_ge 143 dX11_orders_135 rfl (by decide) a9 (fun c10 => ?_) (fun c10 => ?_)
      · have v := vt c10
        refine k_aload_n dX11_orders_143 rfl ?_
        refine k_getr dX11_orders_144 fl_X11_64 sh_143 (by decide) rfl ?_
        refine k_iload dX11_orders_147 rfl ?_
        refine k_iald 256 dX11_orders_149 sh_162 (by decide) rfl (by decide) a8 ?_
        refine k_iast 256 dX11_orders_150 sh_162 (by decide) rfl (by decide) a8 ?_
        refine k_iinc [jR 143, jI v1, jI v2, jI v3, jI v4, jI (v5 + 1), jI 0, jI 1000] dX11_orders_151 rfl rfl rfl ?_
        refine k_goto 42 dX11_orders_154 rfl ?_
        refine k_drop [jR 143, jI v1, jI v2, jI v3, jI v4, jI (v5 + 1), jU, jU] ⟨Or.inr rfl, Or.inr rfl, Or.inr rfl, Or.inr rfl, Or.inr rfl, Or.inr rfl, Or.inl rfl, Or.inl rfl, trivial⟩ ?_
        exact v
      · have v := vf c10
        refine k_iload dX11_orders_138 rfl ?_
        refine k_goto 150 dX11_orders_140 rfl ?_
        refine k_iast 256 dX11_orders_150 sh_162 (by decide) rfl (by decide) a8 ?_
        refine k_iinc [jR 143, jI v1, jI v2, jI v3, jI v4, jI (v5 + 1), jI 0, jI 1000] dX11_orders_151 rfl rfl rfl ?_
        refine k_goto 42 dX11_orders_154 rfl ?_
        refine k_drop [jR 143, jI v1, jI v2, jI v3, jI v4, jI (v5 + 1), jU, jU] ⟨Or.inr rfl, Or.inr rfl, Or.inr rfl, Or.inr rfl, Or.inr rfl, Or.inr rfl, Or.inl rfl, Or.inl rfl, trivial⟩ ?_
        exact v
    · have v := vf c7
      obtain ⟨a11, v⟩ := v
      refine k_iload dX11_orders_63 rfl ?_
      refine k_iload_n dX11_orders_65 rfl ?_
      obtain ⟨vt, vf⟩ := v
      refine k_icmp_ne 79 dX11_orders_66 rfl a1 a11 (fun c12 => ?_) (fun c12 => ?_)
      · have v := vt c12
        obtain ⟨a13, a14, a15, a16, a17, a18, a19, v⟩ := v
        refine k_iconst dX11_orders_79 ?_
        refine k_goto 84 dX11_orders_80 rfl ?_
        refine k_istore [jR 143, jI v1, jI v2, jI v3, jI v4, jI v5, jI 1, jU] dX11_orders_84 rfl rfl ?_
        refine k_iload dX11_orders_86 rfl ?_
        refine k_if_eq 115 dX11_orders_88 rfl (by decide) (fun c => absurd c (by decide)) (fun _ => ?_)
        refine k_aload_n dX11_orders_91 rfl ?_
        refine k_iload dX11_orders_92 rfl ?_
        refine k_iload dX11_orders_94 rfl ?_
        refine k_invV [jI v5, jI v4] [] dX11_orders_96 cm_X11_againstNext ml_X11_213 im_X11_againstNext se_X11_againstNext rfl sh_143 (by decide) rfl rfl (sp_X11_againstNext s v5 v4 a13 a1 a5) ?_
        refine k_aload_n dX11_orders_99 rfl ?_
        refine k_getr dX11_orders_100 fl_X11_64 sh_143 (by decide) rfl ?_
        refine k_iload dX11_orders_103 rfl ?_
        refine k_iconst dX11_orders_105 ?_
        refine k_iload dX11_orders_106 rfl ?_
        refine k_shl dX11_orders_108 a4 ?_
        refine k_or dX11_orders_109 a14 a15 ?_
        refine k_iald 256 dX11_orders_110 sh_162 (by decide) rfl (by decide) a16 ?_
        refine k_iadd dX11_orders_111 ?_
        refine k_goto 118 dX11_orders_112 rfl ?_
        refine k_istore [jR 143, jI v1, jI v2, jI v3, jI v4, jI v5, jI 1, jI ((agn s v5 v4) + (s 162 (jor v4 ((1 : Int) * 2 ^ Int.toNat v5))))] dX11_orders_118 rfl rfl ?_
        refine k_aload_n dX11_orders_120 rfl ?_
        refine k_getr dX11_orders_121 fl_X11_64 sh_143 (by decide) rfl ?_
        refine k_iload dX11_orders_124 rfl ?_
        refine k_iload dX11_orders_126 rfl ?_
        refine k_aload_n dX11_orders_128 rfl ?_
        refine k_getr dX11_orders_129 fl_X11_64 sh_143 (by decide) rfl ?_
        refine k_iload dX11_orders_132 rfl ?_
        refine k_iald 256 dX11_orders_134 sh_162 (by decide) rfl (by decide) a17 ?_
        obtain ⟨vt, vf⟩ := v
        refine k_icmp_ge 143 dX11_orders_135 rfl a18 a19 (fun c20 => ?_) (fun c20 => ?_)
        · have v := vt c20
          refine k_aload_n dX11_orders_143 rfl ?_
          refine k_getr dX11_orders_144 fl_X11_64 sh_143 (by decide) rfl ?_
          refine k_iload dX11_orders_147 rfl ?_
          refine k_iald 256 dX11_orders_149 sh_162 (by decide) rfl (by decide) a17 ?_
          refine k_iast 256 dX11_orders_150 sh_162 (by decide) rfl (by decide) a17 ?_
          refine k_iinc [jR 143, jI v1, jI v2, jI v3, jI v4, jI (v5 + 1), jI 1, jI ((agn s v5 v4) + (s 162 (jor v4 ((1 : Int) * 2 ^ Int.toNat v5))))] dX11_orders_151 rfl rfl rfl ?_
          refine k_goto 42 dX11_orders_154 rfl ?_
          refine k_drop [jR 143, jI v1, jI v2, jI v3, jI v4, jI (v5 + 1), jU, jU] ⟨Or.inr rfl, Or.inr rfl, Or.inr rfl, Or.inr rfl, Or.inr rfl, Or.inr rfl, Or.inl rfl, Or.inl rfl, trivial⟩ ?_
          exact v
        · have v := vf c20
          refine k_iload dX11_orders_138 rfl ?_
          refine k_goto 150 dX11_orders_140 rfl ?_
          refine k_iast 256 dX11_orders_150 sh_162 (by decide) rfl (by decide) a17 ?_
          refine k_iinc [jR 143, jI v1, jI v2, jI v3, jI v4, jI (v5 + 1), jI 1, jI ((agn s v5 v4) + (s 162 (jor v4 ((1 : Int) * 2 ^ Int.toNat v5))))] dX11_orders_151 rfl rfl rfl ?_
          refine k_goto 42 dX11_orders_154 rfl ?_
          refine k_drop [jR 143, jI v1, jI v2, jI v3, jI v4, jI (v5 + 1), jU, jU] ⟨Or.inr rfl, Or.inr rfl, Or.inr rfl, Or.inr rfl, Or.inr rfl, Or.inr rfl, Or.inl rfl, Or.inl rfl, trivial⟩ ?_
          exact v
      · have v := vf c12
        obtain ⟨a21, a22, v⟩ := v
        refine k_iload dX11_orders_69 rfl ?_
        refine k_iload_n dX11_orders_71 rfl ?_
        refine k_shr dX11_orders_72 a5 a21 ?_
        refine k_iconst dX11_orders_73 ?_
        refine k_and1 dX11_orders_74 ?_
        refine k_iconst dX11_orders_75 ?_
        obtain ⟨vt, vf⟩ := v
        refine k_icmp_ne 83 dX11_orders_76 rfl a22 (by decide) (fun c23 => ?_) (fun c23 => ?_)
        · have v := vt c23
          obtain ⟨a24, a25, v⟩ := v
          refine k_iconst dX11_orders_83 ?_
          refine k_istore [jR 143, jI v1, jI v2, jI v3, jI v4, jI v5, jI 0, jU] dX11_orders_84 rfl rfl ?_
          refine k_iload dX11_orders_86 rfl ?_
          refine k_if_eq 115 dX11_orders_88 rfl (by decide) (fun _ => ?_) (fun c => absurd c (by decide))
          refine k_sipush dX11_orders_115 rfl ?_
          refine k_istore [jR 143, jI v1, jI v2, jI v3, jI v4, jI v5, jI 0, jI 1000] dX11_orders_118 rfl rfl ?_
          refine k_aload_n dX11_orders_120 rfl ?_
          refine k_getr dX11_orders_121 fl_X11_64 sh_143 (by decide) rfl ?_
          refine k_iload dX11_orders_124 rfl ?_
          refine k_iload dX11_orders_126 rfl ?_
          refine k_aload_n dX11_orders_128 rfl ?_
          refine k_getr dX11_orders_129 fl_X11_64 sh_143 (by decide) rfl ?_
          refine k_iload dX11_orders_132 rfl ?_
          refine k_iald 256 dX11_orders_134 sh_162 (by decide) rfl (by decide) a24 ?_
          obtain ⟨vt, vf⟩ := v
          refine k_icmp_ge 143 dX11_orders_135 rfl (by decide) a25 (fun c26 => ?_) (fun c26 => ?_)
          · have v := vt c26
            refine k_aload_n dX11_orders_143 rfl ?_
            refine k_getr dX11_orders_144 fl_X11_64 sh_143 (by decide) rfl ?_
            refine k_iload dX11_orders_147 rfl ?_
            refine k_iald 256 dX11_orders_149 sh_162 (by decide) rfl (by decide) a24 ?_
            refine k_iast 256 dX11_orders_150 sh_162 (by decide) rfl (by decide) a24 ?_
            refine k_iinc [jR 143, jI v1, jI v2, jI v3, jI v4, jI (v5 + 1), jI 0, jI 1000] dX11_orders_151 rfl rfl rfl ?_
            refine k_goto 42 dX11_orders_154 rfl ?_
            refine k_drop [jR 143, jI v1, jI v2, jI v3, jI v4, jI (v5 + 1), jU, jU] ⟨Or.inr rfl, Or.inr rfl, Or.inr rfl, Or.inr rfl, Or.inr rfl, Or.inr rfl, Or.inl rfl, Or.inl rfl, trivial⟩ ?_
            exact v
          · have v := vf c26
            refine k_iload dX11_orders_138 rfl ?_
            refine k_goto 150 dX11_orders_140 rfl ?_
            refine k_iast 256 dX11_orders_150 sh_162 (by decide) rfl (by decide) a24 ?_
            refine k_iinc [jR 143, jI v1, jI v2, jI v3, jI v4, jI (v5 + 1), jI 0, jI 1000] dX11_orders_151 rfl rfl rfl ?_
            refine k_goto 42 dX11_orders_154 rfl ?_
            refine k_drop [jR 143, jI v1, jI v2, jI v3, jI v4, jI (v5 + 1), jU, jU] ⟨Or.inr rfl, Or.inr rfl, Or.inr rfl, Or.inr rfl, Or.inr rfl, Or.inr rfl, Or.inl rfl, Or.inl rfl, trivial⟩ ?_
            exact v
        · have v := vf c23
          obtain ⟨a27, a28, a29, a30, a31, a32, a33, v⟩ := v
          refine k_iconst dX11_orders_79 ?_
          refine k_goto 84 dX11_orders_80 rfl ?_
          refine k_istore [jR 143, jI v1, jI v2, jI v3, jI v4, jI v5, jI 1, jU] dX11_orders_84 rfl rfl ?_
          refine k_iload dX11_orders_86 rfl ?_
          refine k_if_eq 115 dX11_orders_88 rfl (by decide) (fun c => absurd c (by decide)) (fun _ => ?_)
          refine k_aload_n dX11_orders_91 rfl ?_
          refine k_iload dX11_orders_92 rfl ?_
          refine k_iload dX11_orders_94 rfl ?_
          refine k_invV [jI v5, jI v4] [] dX11_orders_96 cm_X11_againstNext ml_X11_213 im_X11_againstNext se_X11_againstNext rfl sh_143 (by decide) rfl rfl (sp_X11_againstNext s v5 v4 a27 a1 a5) ?_
          refine k_aload_n dX11_orders_99 rfl ?_
          refine k_getr dX11_orders_100 fl_X11_64 sh_143 (by decide) rfl ?_
          refine k_iload dX11_orders_103 rfl ?_
          refine k_iconst dX11_orders_105 ?_
          refine k_iload dX11_orders_106 rfl ?_
          refine k_shl dX11_orders_108 a4 ?_
          refine k_or dX11_orders_109 a28 a29 ?_
          refine k_iald 256 dX11_orders_110 sh_162 (by decide) rfl (by decide) a30 ?_
          refine k_iadd dX11_orders_111 ?_
          refine k_goto 118 dX11_orders_112 rfl ?_
          refine k_istore [jR 143, jI v1, jI v2, jI v3, jI v4, jI v5, jI 1, jI ((agn s v5 v4) + (s 162 (jor v4 ((1 : Int) * 2 ^ Int.toNat v5))))] dX11_orders_118 rfl rfl ?_
          refine k_aload_n dX11_orders_120 rfl ?_
          refine k_getr dX11_orders_121 fl_X11_64 sh_143 (by decide) rfl ?_
          refine k_iload dX11_orders_124 rfl ?_
          refine k_iload dX11_orders_126 rfl ?_
          refine k_aload_n dX11_orders_128 rfl ?_
          refine k_getr dX11_orders_129 fl_X11_64 sh_143 (by decide) rfl ?_
          refine k_iload dX11_orders_132 rfl ?_
          refine k_iald 256 dX11_orders_134 sh_162 (by decide) rfl (by decide) a31 ?_
          obtain ⟨vt, vf⟩ := v
          refine k_icmp_ge 143 dX11_orders_135 rfl a32 a33 (fun c34 => ?_) (fun c34 => ?_)
          · have v := vt c34
            refine k_aload_n dX11_orders_143 rfl ?_
            refine k_getr dX11_orders_144 fl_X11_64 sh_143 (by decide) rfl ?_
            refine k_iload dX11_orders_147 rfl ?_
            refine k_iald 256 dX11_orders_149 sh_162 (by decide) rfl (by decide) a31 ?_
            refine k_iast 256 dX11_orders_150 sh_162 (by decide) rfl (by decide) a31 ?_
            refine k_iinc [jR 143, jI v1, jI v2, jI v3, jI v4, jI (v5 + 1), jI 1, jI ((agn s v5 v4) + (s 162 (jor v4 ((1 : Int) * 2 ^ Int.toNat v5))))] dX11_orders_151 rfl rfl rfl ?_
            refine k_goto 42 dX11_orders_154 rfl ?_
            refine k_drop [jR 143, jI v1, jI v2, jI v3, jI v4, jI (v5 + 1), jU, jU] ⟨Or.inr rfl, Or.inr rfl, Or.inr rfl, Or.inr rfl, Or.inr rfl, Or.inr rfl, Or.inl rfl, Or.inl rfl, trivial⟩ ?_
            exact v
          · have v := vf c34
            refine k_iload dX11_orders_138 rfl ?_
            refine k_goto 150 dX11_orders_140 rfl ?_
            refine k_iast 256 dX11_orders_150 sh_162 (by decide) rfl (by decide) a31 ?_
            refine k_iinc [jR 143, jI v1, jI v2, jI v3, jI v4, jI (v5 + 1), jI 1, jI ((agn s v5 v4) + (s 162 (jor v4 ((1 : Int) * 2 ^ Int.toNat v5))))] dX11_orders_151 rfl rfl rfl ?_
            refine k_goto 42 dX11_orders_154 rfl ?_
            refine k_drop [jR 143, jI v1, jI v2, jI v3, jI v4, jI (v5 + 1), jU, jU] ⟨Or.inr rfl, Or.inr rfl, Or.inr rfl, Or.inr rfl, Or.inr rfl, Or.inr rfl, Or.inl rfl, Or.inl rfl, trivial⟩ ?_
            exact v
theorem w2_same (s : Int → Int → Int) (k i : Int) : w2 s k i (s k i) = s := by
  funext k' i'
  by_cases e : k' = k
  · subst e
    rw [w2_e]
    by_cases e2 : i' = i
    · rw [if_pos e2, e2]
    · rw [if_neg e2]
  · rw [w2_k e]
theorem sp_X11_orders (s0 : Int → Int → Int) (l e : Int) (so : SO s0) (hle : leOK (s0 146 2) l e) : kR mX11_orders [jR 143, jI l, jI e] s0 (fun r s' => ∃ y, r = some (jI y) ∧ y = GT s0 (s0 146 2) l e 0 ∧ frm (fun k => k = 162) s0 s' ∧ ∀ set, 0 ≤ set → set < 2 ^ (s0 146 2).toNat → s' 162 set = GT s0 (s0 146 2) l e set) := by
  have p2 := p2_256 so.1.1 so.1.2
  have pp := p2_pos (s0 146 2)
  have n8 := so.1
  have gb := GT_b so hle
  have gc := czs_b so
  refine g_X11_orders ⟨by omega, ?_⟩
  rw [Int.one_mul]
  have c146 : ∀ s, frm (fun k => k = 162) s0 s → s 146 = s0 146 := fun s f => f 146 (by omega)
  have sos : ∀ s, frm (fun k => k = 162) s0 s → SO s := fun s f => by
    unfold SO
    rw [f 146 (by omega), f 160 (by omega), f 161 (by omega)]; exact so
  have ags : ∀ s, frm (fun k => k = 162) s0 s → agn s = agn s0 := fun s f => agn_fr (fun k hk => f k (by omega))
  have key : ∀ v, -1 ≤ v → v ≤ 2 ^ (s0 146 2).toNat - 1 → ∀ s, frm (fun k => k = 162) s0 s → (∀ set, v < set → set < 2 ^ (s0 146 2).toNat → s 162 set = GT s0 (s0 146 2) l e set) → kK mX11_orders 14 [jR 143, jI l, jI e, jI (2 ^ (s0 146 2).toNat - 1), jI v, jU, jU, jU] [] s (fun r s' => ∃ y, r = some (jI y) ∧ y = GT s0 (s0 146 2) l e 0 ∧ frm (fun k => k = 162) s0 s' ∧ ∀ set, 0 ≤ set → set < 2 ^ (s0 146 2).toNat → s' 162 set = GT s0 (s0 146 2) l e set) := by
    refine lp_dn (-1) _ (fun v hv ih hv2 s fs hc => ?_)
    have inner : ∀ x, x ≤ s0 146 2 → 0 ≤ x → 0 ≤ v → ∀ s, frm (fun k => k = 162) s0 s → (∀ set, v < set → set < 2 ^ (s0 146 2).toNat → s 162 set = GT s0 (s0 146 2) l e set) → (v = 2 ^ (s0 146 2).toNat - 1 ∧ s 162 v = 0) ∨ (v < 2 ^ (s0 146 2).toNat - 1 ∧ s 162 v = mf x 1000 (mayx l e v) (fun x => agn s0 x v + GT s0 (s0 146 2) l e (v + 2 ^ x.toNat))) → kK mX11_orders 42 [jR 143, jI l, jI e, jI (2 ^ (s0 146 2).toNat - 1), jI v, jI x, jU, jU] [] s (fun r s' => ∃ y, r = some (jI y) ∧ y = GT s0 (s0 146 2) l e 0 ∧ frm (fun k => k = 162) s0 s' ∧ ∀ set, 0 ≤ set → set < 2 ^ (s0 146 2).toNat → s' 162 set = GT s0 (s0 146 2) l e set) := by
      refine lp_up _ _ (fun x hx jh x0 v0 s fs hc hm => ?_)
      have up : ∀ k, 0 ≤ k → k < s0 146 2 → bt v k = 0 → v + 2 ^ k.toNat < 2 ^ (s0 146 2).toNat := fun k k0 k1 k2 => (bt_cm n8.2 (a := v) (by omega) ⟨k0, k1⟩).2 k2
      have c0 : 0 ≤ s 162 v ∧ s 162 v ≤ 1000 := by
        rcases hm with ⟨-, hm⟩ | ⟨hv3, hm⟩
        · omega
        · obtain ⟨m1, m2, m3⟩ := mf_f (n := x) (c := 1000) (P := mayx l e v) (f := (fun x => agn s0 x v + GT s0 (s0 146 2) l e (v + 2 ^ x.toNat))) x0
          rw [hm]
          refine ⟨?_, m1⟩
          rcases m3 with m3 | ⟨k, k0, k1, k2, k3⟩
          · omega
          · have b1 := (of_decide_eq_true k2).1
            have b2 := up k k0 (by omega) b1
            have b3 := p2_pos k
            have := (agn_b so k v).1
            have := (gb (v + 2 ^ k.toNat) (by omega) (by omega)).1
            omega
      refine g_X11_orders_42 ?_
      rw [c146 s fs]
      refine ⟨by unfold jr32; omega, by unfold jr32; omega, fun q => ?_, fun q => ?_⟩
      · rw [show v + -1 = v - 1 by omega]
        refine ih (by omega) (by omega) s fs (fun set a b => ?_)
        by_cases e1 : set = v
        · rw [e1]
          rcases hm with ⟨hm1, hm⟩ | ⟨hv3, hm⟩
          · rw [hm, hm1, GT_all]
          · rw [hm, GT_rec n8 v0 hv3, show x = s0 146 2 by omega]
        · exact hc set (by omega) b
      · have no : mayx l e v x ≠ true → kK mX11_orders 42 [jR 143, jI l, jI e, jI (2 ^ (s0 146 2).toNat - 1), jI v, jI (x + 1), jU, jU] [] s (fun r s' => ∃ y, r = some (jI y) ∧ y = GT s0 (s0 146 2) l e 0 ∧ frm (fun k => k = 162) s0 s' ∧ ∀ set, 0 ≤ set → set < 2 ^ (s0 146 2).toNat → s' 162 set = GT s0 (s0 146 2) l e set) := fun p => jh (by omega) (by omega) v0 s fs hc (hm.imp id (fun hm => ⟨hm.1, by rw [mf_s x0, if_neg p]; exact hm.2⟩))
        have stay : mayx l e v x ≠ true → ((0 ≤ v ∧ v < 256) ∧ jr32 (s 162 v) ∧ ((s 162 v) ≤ 1000 → kK mX11_orders 42 [jR 143, jI l, jI e, jI (2 ^ (s0 146 2).toNat - 1), jI v, jI (x + 1), jU, jU] [] (w2 s 162 v (s 162 v)) (fun r s' => ∃ y, r = some (jI y) ∧ y = GT s0 (s0 146 2) l e 0 ∧ frm (fun k => k = 162) s0 s' ∧ ∀ set, 0 ≤ set → set < 2 ^ (s0 146 2).toNat → s' 162 set = GT s0 (s0 146 2) l e set)) ∧ (¬ ((s 162 v) ≤ 1000) → kK mX11_orders 42 [jR 143, jI l, jI e, jI (2 ^ (s0 146 2).toNat - 1), jI v, jI (x + 1), jU, jU] [] (w2 s 162 v 1000) (fun r s' => ∃ y, r = some (jI y) ∧ y = GT s0 (s0 146 2) l e 0 ∧ frm (fun k => k = 162) s0 s' ∧ ∀ set, 0 ≤ set → set < 2 ^ (s0 146 2).toNat → s' 162 set = GT s0 (s0 146 2) l e set))) := fun p => ⟨by omega, by unfold jr32; omega, fun _ => by rw [w2_same]; exact no p, fun c => absurd c0.2 c⟩
        have yes : bt v x = 0 → mayx l e v x = true → (SO s ∧ 0 ≤ v ∧ 0 ≤ (1 : Int) * 2 ^ x.toNat ∧ (0 ≤ jor v ((1 : Int) * 2 ^ x.toNat) ∧ jor v ((1 : Int) * 2 ^ x.toNat) < 256) ∧ (0 ≤ v ∧ v < 256) ∧ jr32 (agn s x v + s 162 (jor v ((1 : Int) * 2 ^ x.toNat))) ∧ jr32 (s 162 v) ∧ (s 162 v ≤ agn s x v + s 162 (jor v ((1 : Int) * 2 ^ x.toNat)) → kK mX11_orders 42 [jR 143, jI l, jI e, jI (2 ^ (s0 146 2).toNat - 1), jI v, jI (x + 1), jU, jU] [] (w2 s 162 v (s 162 v)) (fun r s' => ∃ y, r = some (jI y) ∧ y = GT s0 (s0 146 2) l e 0 ∧ frm (fun k => k = 162) s0 s' ∧ ∀ set, 0 ≤ set → set < 2 ^ (s0 146 2).toNat → s' 162 set = GT s0 (s0 146 2) l e set)) ∧ (¬ s 162 v ≤ agn s x v + s 162 (jor v ((1 : Int) * 2 ^ x.toNat)) → kK mX11_orders 42 [jR 143, jI l, jI e, jI (2 ^ (s0 146 2).toNat - 1), jI v, jI (x + 1), jU, jU] [] (w2 s 162 v (agn s x v + s 162 (jor v ((1 : Int) * 2 ^ x.toNat)))) (fun r s' => ∃ y, r = some (jI y) ∧ y = GT s0 (s0 146 2) l e 0 ∧ frm (fun k => k = 162) s0 s' ∧ ∀ set, 0 ≤ set → set < 2 ^ (s0 146 2).toNat → s' 162 set = GT s0 (s0 146 2) l e set))) := fun b1 p => by
          have b2 := up x x0 (by omega) b1
          have b3 := p2_pos x
          have b4 := agn_b so x v
          have b5 := gb (v + 2 ^ x.toNat) (by omega) (by omega)
          have b6 := gc (v + 2 ^ x.toNat)
          rw [Int.one_mul, (bt_on (a := v) (by omega) (k := x) (by omega) b1).1, ags s fs, hc (v + 2 ^ x.toNat) (by omega) (by omega)]
          have hm2 : v < 2 ^ (s0 146 2).toNat - 1 ∧ s 162 v = mf x 1000 (mayx l e v) (fun x => agn s0 x v + GT s0 (s0 146 2) l e (v + 2 ^ x.toNat)) := by
            rcases hm with ⟨hm, -⟩ | hm
            · omega
            · exact hm
          refine ⟨sos s fs, v0, by omega, by omega, by omega, by unfold jr32; omega, by unfold jr32; omega, fun d => ?_, fun d => ?_⟩
          · rw [w2_same]
            exact jh (by omega) (by omega) v0 s fs hc (Or.inr ⟨hm2.1, by rw [mf_s x0, if_pos p, ← hm2.2]; omega⟩)
          · exact jh (by omega) (by omega) v0 _ (fs.s2 rfl) (fun set a b => by rw [w2_i (by omega)]; exact hc set a b) (Or.inr ⟨hm2.1, by rw [w2_s, mf_s x0, if_pos p, ← hm2.2]; omega⟩)
        refine ⟨by omega, by unfold jr32; omega, by unfold jr32; have := bt_01 v x; unfold bt at this; omega, fun c => stay (fun p => c (of_decide_eq_true p).1), fun c => ⟨?_, fun d => yes c (decide_eq_true ⟨c, Or.inl d⟩), fun d => ⟨?_, by unfold jr32; have := bt_01 v e; unfold bt at this; omega, fun d2 => stay (fun p => (of_decide_eq_true p).2.elim (fun q => q d) d2), fun d2 => yes c (decide_eq_true ⟨c, Or.inr d2⟩)⟩⟩⟩
        · unfold jr32; rcases hle with hle | hle <;> omega
        · rcases hle with hle | hle <;> omega
    refine g_X11_orders_14 ⟨by unfold jr32; omega, fun q => ⟨_, rfl, hc 0 (by omega) (by omega), fs, fun set a b => hc set (by omega) b⟩, fun q => ⟨by unfold jr32; omega, fun c => ⟨by omega, ?_⟩, fun c => ⟨by omega, ?_⟩⟩⟩
    · exact inner 0 (by omega) (by omega) (by omega) _ (fs.s2 rfl) (fun set a b => by rw [w2_i (by omega)]; exact hc set a b) (Or.inr ⟨by omega, by rw [w2_s, mf_0]⟩)
    · exact inner 0 (by omega) (by omega) (by omega) _ (fs.s2 rfl) (fun set a b => by rw [w2_i (by omega)]; exact hc set a b) (Or.inl ⟨c, by rw [w2_s]⟩)
  exact key _ (by omega) (by omega) s0 frm.rf (fun set a b => by omega)
theorem g_X11_order {s : Int → Int → Int} {Q : Option jV → (Int → Int → Int) → Prop} {v1 : Int} (v : (jr32 v1 ∧ ((v1 = (-1) → ((SO s) ∧ (leOK (s 146 2) (-1) 0) ∧ (∀ (y5 : Int) (s6 : Int → Int → Int), (y5 = GT s (s 146 2) (-1) 0 0 ∧ frm (fun k => k = 162) s s6 ∧ ∀ set, 0 ≤ set → set < 2 ^ (s 146 2).toNat → s6 162 set = GT s (s 146 2) (-1) 0 set) → ((v1 ≠ (-1) → kK mX11_order 39 [jR 143, jI v1, jU, jI 0, jI (-1), jI 0, jU, jU] [] s6 Q) ∧ (v1 = (-1) → Q (some (jI y5)) s6))))) ∧ (¬ (v1 = (-1)) → ((0 ≤ s 146 2 ∧ s 146 2 ≤ 1000) ∧ ((0 ≤ v1 ∧ v1 ≤ s 146 2 - 1 → ((SO s) ∧ (leOK (s 146 2) (-1) 0) ∧ (∀ (y13 : Int) (s14 : Int → Int → Int), (y13 = GT s (s 146 2) (-1) 0 0 ∧ frm (fun k => k = 162) s s14 ∧ ∀ set, 0 ≤ set → set < 2 ^ (s 146 2).toNat → s14 162 set = GT s (s 146 2) (-1) 0 set) → ((v1 ≠ (-1) → kK mX11_order 39 [jR 143, jI v1, jU, jI 0, jI (-1), jI 0, jU, jU] [] s14 Q) ∧ (v1 = (-1) → Q (some (jI y13)) s14))))) ∧ (¬ (0 ≤ v1 ∧ v1 ≤ s 146 2 - 1) → Q (some (jI (-10))) s))))))) : kR mX11_order [jR 143, jI v1] s Q := by
  show kK mX11_order 0 [jR 143, jI v1, jU, jU, jU, jU, jU, jU] [] s Q
  obtain ⟨a1, v⟩ := v
  refine k_iload_n dX11_order_0 rfl ?_
  refine k_iconst dX11_order_1 ?_
  obtain ⟨vt, vf⟩ := v
  refine k_icmp_eq 17 dX11_order_2 rfl a1 (by decide) (fun c2 => ?_) (fun c2 => ?_)
  · have v := vt c2
    obtain ⟨a3, a4, v⟩ := v
    refine k_aload_n dX11_order_17 rfl ?_
    refine k_iconst dX11_order_18 ?_
    refine k_iconst dX11_order_19 ?_
    refine k_invVR [jI (-1), jI 0] [] dX11_order_20 cm_X11_orders ml_X11_216 im_X11_orders se_X11_orders rfl sh_143 (by decide) rfl rfl (sp_X11_orders s (-1) 0 a3 a4) (fun _ s6 q7 => ?_)
    obtain ⟨y5, rfl, q7⟩ := q7
    have v := v y5 s6 q7
    refine k_istore_n [jR 143, jI v1, jI y5, jU, jU, jU, jU, jU] dX11_order_23 rfl rfl ?_
    refine k_iload_n dX11_order_24 rfl ?_
    refine k_iconst dX11_order_25 ?_
    obtain ⟨vt, vf⟩ := v
    refine k_icmp_ne 31 dX11_order_26 rfl a1 (by decide) (fun c8 => ?_) (fun c8 => ?_)
    · have v := vt c8
      refine k_iconst dX11_order_31 ?_
      refine k_istore_n [jR 143, jI v1, jI y5, jI 0, jU, jU, jU, jU] dX11_order_32 rfl rfl ?_
      refine k_iconst dX11_order_33 ?_
      refine k_istore [jR 143, jI v1, jI y5, jI 0, jI (-1), jU, jU, jU] dX11_order_34 rfl rfl ?_
      refine k_iconst dX11_order_36 ?_
      refine k_istore [jR 143, jI v1, jI y5, jI 0, jI (-1), jI 0, jU, jU] dX11_order_37 rfl rfl ?_
      refine k_drop [jR 143, jI v1, jU, jI 0, jI (-1), jI 0, jU, jU] ⟨Or.inr rfl, Or.inr rfl, Or.inl rfl, Or.inr rfl, Or.inr rfl, Or.inr rfl, Or.inr rfl, Or.inr rfl, trivial⟩ ?_
      exact v
    · have v := vf c8
      refine k_iload_n dX11_order_29 rfl ?_
      exact k_ireturn (st := []) dX11_order_30 rfl v
  · have v := vf c2
    obtain ⟨a9, v⟩ := v
    refine k_aload_n dX11_order_5 rfl ?_
    refine k_iconst dX11_order_6 ?_
    refine k_iload_n dX11_order_7 rfl ?_
    refine k_invV [jI 2, jI v1] [] dX11_order_8 cm_X11_is ml_X11_136 im_X11_is se_X11_is rfl sh_143 (by decide) rfl rfl (sp_X11_is s 2 v1 (by decide) a1 a9) ?_
    obtain ⟨vt, vf⟩ := v
    refine k_ifb_ne 17 dX11_order_11 rfl (fun c10 => ?_) (fun c10 => ?_)
    · have v := vt c10
      obtain ⟨a11, a12, v⟩ := v
      refine k_aload_n dX11_order_17 rfl ?_
      refine k_iconst dX11_order_18 ?_
      refine k_iconst dX11_order_19 ?_
      refine k_invVR [jI (-1), jI 0] [] dX11_order_20 cm_X11_orders ml_X11_216 im_X11_orders se_X11_orders rfl sh_143 (by decide) rfl rfl (sp_X11_orders s (-1) 0 a11 a12) (fun _ s14 q15 => ?_)
      obtain ⟨y13, rfl, q15⟩ := q15
      have v := v y13 s14 q15
      refine k_istore_n [jR 143, jI v1, jI y13, jU, jU, jU, jU, jU] dX11_order_23 rfl rfl ?_
      refine k_iload_n dX11_order_24 rfl ?_
      refine k_iconst dX11_order_25 ?_
      obtain ⟨vt, vf⟩ := v
      refine k_icmp_ne 31 dX11_order_26 rfl a1 (by decide) (fun c16 => ?_) (fun c16 => ?_)
      · have v := vt c16
        refine k_iconst dX11_order_31 ?_
        refine k_istore_n [jR 143, jI v1, jI y13, jI 0, jU, jU, jU, jU] dX11_order_32 rfl rfl ?_
        refine k_iconst dX11_order_33 ?_
        refine k_istore [jR 143, jI v1, jI y13, jI 0, jI (-1), jU, jU, jU] dX11_order_34 rfl rfl ?_
        refine k_iconst dX11_order_36 ?_
        refine k_istore [jR 143, jI v1, jI y13, jI 0, jI (-1), jI 0, jU, jU] dX11_order_37 rfl rfl ?_
        refine k_drop [jR 143, jI v1, jU, jI 0, jI (-1), jI 0, jU, jU] ⟨Or.inr rfl, Or.inr rfl, Or.inl rfl, Or.inr rfl, Or.inr rfl, Or.inr rfl, Or.inr rfl, Or.inr rfl, trivial⟩ ?_
        exact v
      · have v := vf c16
        refine k_iload_n dX11_order_29 rfl ?_
        exact k_ireturn (st := []) dX11_order_30 rfl v
    · have v := vf c10
      refine k_bipush dX11_order_14 rfl ?_
      exact k_ireturn (st := []) dX11_order_16 rfl v
theorem g_X11_order_39 {s : Int → Int → Int} {Q : Option jV → (Int → Int → Int) → Prop} {v1 v3 v4 v5 : Int} (v : (jr32 v5 ∧ jr32 v1 ∧ ((v1 < v5 → Q (some (jI v4)) s) ∧ (¬ (v1 < v5) → kK mX11_order 58 [jR 143, jI v1, jU, jI v3, jI (-1), jI v5, jI ((s 146 2) - 1), jU] [] s Q)))) : kK mX11_order 39 [jR 143, jI v1, jU, jI v3, jI v4, jI v5, jU, jU] [] s Q := by
  obtain ⟨a1, a2, v⟩ := v
  refine k_iload dX11_order_39 rfl ?_
  refine k_iload_n dX11_order_41 rfl ?_
  obtain ⟨vt, vf⟩ := v
  refine k_icmp_gt 140 dX11_order_42 rfl a1 a2 (fun c3 => ?_) (fun c3 => ?_)
  · have v := vt c3
    refine k_iload dX11_order_140 rfl ?_
    exact k_ireturn (st := []) dX11_order_142 rfl v
  · have v := vf c3
    refine k_iconst dX11_order_45 ?_
    refine k_istore [jR 143, jI v1, jU, jI v3, jI (-1), jI v5, jU, jU] dX11_order_46 rfl rfl ?_
    refine k_aload_n dX11_order_48 rfl ?_
    refine k_getr dX11_order_49 fl_X11_16 sh_143 (by decide) rfl ?_
    refine k_iconst dX11_order_52 ?_
    refine k_iald 6 dX11_order_53 sh_146 (by decide) rfl (by decide) (by decide) ?_
    refine k_iconst dX11_order_54 ?_
    refine k_isub dX11_order_55 ?_
    refine k_istore [jR 143, jI v1, jU, jI v3, jI (-1), jI v5, jI ((s 146 2) - 1), jU] dX11_order_56 rfl rfl ?_
    exact v
theorem g_X11_order_58 {s : Int → Int → Int} {Q : Option jV → (Int → Int → Int) → Prop} {v1 v3 v4 v5 v6 : Int} (v : (jr32 v6 ∧ ((v6 < 0 → ((0 ≤ v4 ∧ v4 ≤ 31) ∧ (0 ≤ v3) ∧ (0 ≤ ((1 : Int) * 2 ^ Int.toNat v4)) ∧ kK mX11_order 39 [jR 143, jI v1, jU, jI (jor v3 ((1 : Int) * 2 ^ Int.toNat v4)), jI v4, jI (v5 + 1), jU, jU] [] s Q)) ∧ (¬ (v6 < 0) → ((0 ≤ v6 ∧ v6 ≤ 31) ∧ jr32 v3 ∧ jr32 ((v3 / 2 ^ Int.toNat v6) % 2) ∧ ((((v3 / 2 ^ Int.toNat v6) % 2) ≠ 0 → kK mX11_order 58 [jR 143, jI v1, jU, jI v3, jI v4, jI v5, jI (v6 + (-1)), jU] [] s Q) ∧ (((v3 / 2 ^ Int.toNat v6) % 2) = 0 → ((SO s) ∧ (0 ≤ v3) ∧ (0 ≤ ((1 : Int) * 2 ^ Int.toNat v6)) ∧ (0 ≤ (jor v3 ((1 : Int) * 2 ^ Int.toNat v6)) ∧ (jor v3 ((1 : Int) * 2 ^ Int.toNat v6)) < 256) ∧ (0 ≤ v3 ∧ v3 < 256) ∧ jr32 ((agn s v6 v3) + (s 162 (jor v3 ((1 : Int) * 2 ^ Int.toNat v6)))) ∧ jr32 (s 162 v3) ∧ ((((agn s v6 v3) + (s 162 (jor v3 ((1 : Int) * 2 ^ Int.toNat v6)))) ≠ (s 162 v3) → kK mX11_order 58 [jR 143, jI v1, jU, jI v3, jI v4, jI v5, jI (v6 + (-1)), jU] [] s Q) ∧ (((agn s v6 v3) + (s 162 (jor v3 ((1 : Int) * 2 ^ Int.toNat v6)))) = (s 162 v3) → kK mX11_order 58 [jR 143, jI v1, jU, jI v3, jI v6, jI v5, jI (v6 + (-1)), jU] [] s Q)))))))))) : kK mX11_order 58 [jR 143, jI v1, jU, jI v3, jI v4, jI v5, jI v6, jU] [] s Q := by
  obtain ⟨a1, v⟩ := v
  refine k_iload dX11_order_58 rfl ?_
  obtain ⟨vt, vf⟩ := v
  refine k_if_lt 127 dX11_order_60 rfl a1 (fun c2 => ?_) (fun c2 => ?_)
  · have v := vt c2
    obtain ⟨a3, a4, a5, v⟩ := v
    refine k_iload_n dX11_order_127 rfl ?_
    refine k_iconst dX11_order_128 ?_
    refine k_iload dX11_order_129 rfl ?_
    refine k_shl dX11_order_131 a3 ?_
    refine k_or dX11_order_132 a4 a5 ?_
    refine k_istore_n [jR 143, jI v1, jU, jI (jor v3 ((1 : Int) * 2 ^ Int.toNat v4)), jI v4, jI v5, jI v6, jU] dX11_order_133 rfl rfl ?_
    refine k_iinc [jR 143, jI v1, jU, jI (jor v3 ((1 : Int) * 2 ^ Int.toNat v4)), jI v4, jI (v5 + 1), jI v6, jU] dX11_order_134 rfl rfl rfl ?_
    refine k_goto 39 dX11_order_137 rfl ?_
    refine k_drop [jR 143, jI v1, jU, jI (jor v3 ((1 : Int) * 2 ^ Int.toNat v4)), jI v4, jI (v5 + 1), jU, jU] ⟨Or.inr rfl, Or.inr rfl, Or.inr rfl, Or.inr rfl, Or.inr rfl, Or.inr rfl, Or.inl rfl, Or.inr rfl, trivial⟩ ?_
    exact v
  · have v := vf c2
    obtain ⟨a6, a7, a8, v⟩ := v
    refine k_iload_n dX11_order_63 rfl ?_
    refine k_iload dX11_order_64 rfl ?_
    refine k_shr dX11_order_66 a7 a6 ?_
    refine k_iconst dX11_order_67 ?_
    refine k_and1 dX11_order_68 ?_
    obtain ⟨vt, vf⟩ := v
    refine k_if_ne 104 dX11_order_69 rfl a8 (fun c9 => ?_) (fun c9 => ?_)
    · have v := vt c9
      refine k_iconst dX11_order_104 ?_
      refine k_istore [jR 143, jI v1, jU, jI v3, jI v4, jI v5, jI v6, jI 0] dX11_order_105 rfl rfl ?_
      refine k_iload dX11_order_107 rfl ?_
      refine k_if_eq 117 dX11_order_109 rfl (by decide) (fun _ => ?_) (fun c => absurd c (by decide))
      refine k_iload dX11_order_117 rfl ?_
      refine k_istore [jR 143, jI v1, jU, jI v3, jI v4, jI v5, jI v6, jI 0] dX11_order_119 rfl rfl ?_
      refine k_iinc [jR 143, jI v1, jU, jI v3, jI v4, jI v5, jI (v6 + (-1)), jI 0] dX11_order_121 rfl rfl rfl ?_
      refine k_goto 58 dX11_order_124 rfl ?_
      refine k_drop [jR 143, jI v1, jU, jI v3, jI v4, jI v5, jI (v6 + (-1)), jU] ⟨Or.inr rfl, Or.inr rfl, Or.inr rfl, Or.inr rfl, Or.inr rfl, Or.inr rfl, Or.inr rfl, Or.inl rfl, trivial⟩ ?_
      exact v
    · have v := vf c9
      obtain ⟨a10, a11, a12, a13, a14, a15, a16, v⟩ := v
      refine k_aload_n dX11_order_72 rfl ?_
      refine k_iload dX11_order_73 rfl ?_
      refine k_iload_n dX11_order_75 rfl ?_
      refine k_invV [jI v6, jI v3] [] dX11_order_76 cm_X11_againstNext ml_X11_213 im_X11_againstNext se_X11_againstNext rfl sh_143 (by decide) rfl rfl (sp_X11_againstNext s v6 v3 a10 a1 a7) ?_
      refine k_aload_n dX11_order_79 rfl ?_
      refine k_getr dX11_order_80 fl_X11_64 sh_143 (by decide) rfl ?_
      refine k_iload_n dX11_order_83 rfl ?_
      refine k_iconst dX11_order_84 ?_
      refine k_iload dX11_order_85 rfl ?_
      refine k_shl dX11_order_87 a6 ?_
      refine k_or dX11_order_88 a11 a12 ?_
      refine k_iald 256 dX11_order_89 sh_162 (by decide) rfl (by decide) a13 ?_
      refine k_iadd dX11_order_90 ?_
      refine k_aload_n dX11_order_91 rfl ?_
      refine k_getr dX11_order_92 fl_X11_64 sh_143 (by decide) rfl ?_
      refine k_iload_n dX11_order_95 rfl ?_
      refine k_iald 256 dX11_order_96 sh_162 (by decide) rfl (by decide) a14 ?_
      obtain ⟨vt, vf⟩ := v
      refine k_icmp_ne 104 dX11_order_97 rfl a15 a16 (fun c17 => ?_) (fun c17 => ?_)
      · have v := vt c17
        refine k_iconst dX11_order_104 ?_
        refine k_istore [jR 143, jI v1, jU, jI v3, jI v4, jI v5, jI v6, jI 0] dX11_order_105 rfl rfl ?_
        refine k_iload dX11_order_107 rfl ?_
        refine k_if_eq 117 dX11_order_109 rfl (by decide) (fun _ => ?_) (fun c => absurd c (by decide))
        refine k_iload dX11_order_117 rfl ?_
        refine k_istore [jR 143, jI v1, jU, jI v3, jI v4, jI v5, jI v6, jI 0] dX11_order_119 rfl rfl ?_
        refine k_iinc [jR 143, jI v1, jU, jI v3, jI v4, jI v5, jI (v6 + (-1)), jI 0] dX11_order_121 rfl rfl rfl ?_
        refine k_goto 58 dX11_order_124 rfl ?_
        refine k_drop [jR 143, jI v1, jU, jI v3, jI v4, jI v5, jI (v6 + (-1)), jU] ⟨Or.inr rfl, Or.inr rfl, Or.inr rfl, Or.inr rfl, Or.inr rfl, Or.inr rfl, Or.inr rfl, Or.inl rfl, trivial⟩ ?_
        exact v
      · have v := vf c17
        refine k_iconst dX11_order_100 ?_
        refine k_goto 105 dX11_order_101 rfl ?_
        refine k_istore [jR 143, jI v1, jU, jI v3, jI v4, jI v5, jI v6, jI 1] dX11_order_105 rfl rfl ?_
        refine k_iload dX11_order_107 rfl ?_
        refine k_if_eq 117 dX11_order_109 rfl (by decide) (fun c => absurd c (by decide)) (fun _ => ?_)
        refine k_iload dX11_order_112 rfl ?_
        refine k_goto 119 dX11_order_114 rfl ?_
        refine k_istore [jR 143, jI v1, jU, jI v3, jI v6, jI v5, jI v6, jI 1] dX11_order_119 rfl rfl ?_
        refine k_iinc [jR 143, jI v1, jU, jI v3, jI v6, jI v5, jI (v6 + (-1)), jI 1] dX11_order_121 rfl rfl rfl ?_
        refine k_goto 58 dX11_order_124 rfl ?_
        refine k_drop [jR 143, jI v1, jU, jI v3, jI v6, jI v5, jI (v6 + (-1)), jU] ⟨Or.inr rfl, Or.inr rfl, Or.inr rfl, Or.inr rfl, Or.inr rfl, Or.inr rfl, Or.inr rfl, Or.inl rfl, trivial⟩ ?_
        exact v
theorem g_X11_sure {s : Int → Int → Int} {Q : Option jV → (Int → Int → Int) → Prop} {v1 v2 : Int} (v : (jr32 v1 ∧ (0 ≤ s 146 2 ∧ s 146 2 ≤ 1000) ∧ ((¬ (0 ≤ v1 ∧ v1 ≤ s 146 2 - 1) → Q (some (jI (-2))) s) ∧ (0 ≤ v1 ∧ v1 ≤ s 146 2 - 1 → (jr32 v2 ∧ ((¬ (0 ≤ v2 ∧ v2 ≤ s 146 2 - 1) → Q (some (jI (-2))) s) ∧ (0 ≤ v2 ∧ v2 ≤ s 146 2 - 1 → ((v1 ≠ v2 → ((SO s) ∧ (leOK (s 146 2) (-1) 0) ∧ (∀ (y9 : Int) (s10 : Int → Int → Int), (y9 = GT s (s 146 2) (-1) 0 0 ∧ frm (fun k => k = 162) s s10 ∧ ∀ set, 0 ≤ set → set < 2 ^ (s 146 2).toNat → s10 162 set = GT s (s 146 2) (-1) 0 set) → ((SO s10) ∧ (leOK (s10 146 2) v1 v2) ∧ (∀ (y14 : Int) (s15 : Int → Int → Int), (y14 = GT s10 (s10 146 2) v1 v2 0 ∧ frm (fun k => k = 162) s10 s15 ∧ ∀ set, 0 ≤ set → set < 2 ^ (s10 146 2).toNat → s15 162 set = GT s10 (s10 146 2) v1 v2 set) → (jr32 y14 ∧ jr32 y9 ∧ ((y14 ≤ y9 → Q (some (jI 0)) s15) ∧ (¬ (y14 ≤ y9) → Q (some (jI 1)) s15)))))))) ∧ (v1 = v2 → Q (some (jI (-2))) s))))))))) : kR mX11_sure [jR 143, jI v1, jI v2] s Q := by
  show kK mX11_sure 0 [jR 143, jI v1, jI v2, jU] [] s Q
  obtain ⟨a1, a2, v⟩ := v
  refine k_aload_n dX11_sure_0 rfl ?_
  refine k_iconst dX11_sure_1 ?_
  refine k_iload_n dX11_sure_2 rfl ?_
  refine k_invV [jI 2, jI v1] [] dX11_sure_3 cm_X11_is ml_X11_136 im_X11_is se_X11_is rfl sh_143 (by decide) rfl rfl (sp_X11_is s 2 v1 (by decide) a1 a2) ?_
  obtain ⟨vt, vf⟩ := v
  refine k_ifb_eq 23 dX11_sure_6 rfl (fun c3 => ?_) (fun c3 => ?_)
  · have v := vt c3
    refine k_bipush dX11_sure_23 rfl ?_
    exact k_ireturn (st := []) dX11_sure_25 rfl v
  · have v := vf c3
    obtain ⟨a4, v⟩ := v
    refine k_aload_n dX11_sure_9 rfl ?_
    refine k_iconst dX11_sure_10 ?_
    refine k_iload_n dX11_sure_11 rfl ?_
    refine k_invV [jI 2, jI v2] [] dX11_sure_12 cm_X11_is ml_X11_136 im_X11_is se_X11_is rfl sh_143 (by decide) rfl rfl (sp_X11_is s 2 v2 (by decide) a4 a2) ?_
    obtain ⟨vt, vf⟩ := v
    refine k_ifb_eq 23 dX11_sure_15 rfl (fun c5 => ?_) (fun c5 => ?_)
    · have v := vt c5
      refine k_bipush dX11_sure_23 rfl ?_
      exact k_ireturn (st := []) dX11_sure_25 rfl v
    · have v := vf c5
      refine k_iload_n dX11_sure_18 rfl ?_
      refine k_iload_n dX11_sure_19 rfl ?_
      obtain ⟨vt, vf⟩ := v
      refine k_icmp_ne 26 dX11_sure_20 rfl a1 a4 (fun c6 => ?_) (fun c6 => ?_)
      · have v := vt c6
        obtain ⟨a7, a8, v⟩ := v
        refine k_aload_n dX11_sure_26 rfl ?_
        refine k_iconst dX11_sure_27 ?_
        refine k_iconst dX11_sure_28 ?_
        refine k_invVR [jI (-1), jI 0] [] dX11_sure_29 cm_X11_orders ml_X11_216 im_X11_orders se_X11_orders rfl sh_143 (by decide) rfl rfl (sp_X11_orders s (-1) 0 a7 a8) (fun _ s10 q11 => ?_)
        obtain ⟨y9, rfl, q11⟩ := q11
        have v := v y9 s10 q11
        obtain ⟨a12, a13, v⟩ := v
        refine k_istore_n [jR 143, jI v1, jI v2, jI y9] dX11_sure_32 rfl rfl ?_
        refine k_aload_n dX11_sure_33 rfl ?_
        refine k_iload_n dX11_sure_34 rfl ?_
        refine k_iload_n dX11_sure_35 rfl ?_
        refine k_invVR [jI v1, jI v2] [] dX11_sure_36 cm_X11_orders ml_X11_216 im_X11_orders se_X11_orders rfl sh_143 (by decide) rfl rfl (sp_X11_orders s10 v1 v2 a12 a13) (fun _ s15 q16 => ?_)
        obtain ⟨y14, rfl, q16⟩ := q16
        have v := v y14 s15 q16
        obtain ⟨a17, a18, v⟩ := v
        refine k_iload_n dX11_sure_39 rfl ?_
        obtain ⟨vt, vf⟩ := v
        refine k_icmp_le 47 dX11_sure_40 rfl a17 a18 (fun c19 => ?_) (fun c19 => ?_)
        · have v := vt c19
          refine k_iconst dX11_sure_47 ?_
          exact k_ireturn (st := []) dX11_sure_48 rfl v
        · have v := vf c19
          refine k_iconst dX11_sure_43 ?_
          refine k_goto 48 dX11_sure_44 rfl ?_
          exact k_ireturn (st := []) dX11_sure_48 rfl v
      · have v := vf c6
        refine k_bipush dX11_sure_23 rfl ?_
        exact k_ireturn (st := []) dX11_sure_25 rfl v
