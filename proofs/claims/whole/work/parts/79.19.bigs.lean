theorem g_X0_multiply {s : Int → Int → Int} {Q : Option jV → (Int → Int → Int) → Prop} {x v1 : Int} (hb : jBig x) (v : kK mX0_multiply 5 [jR x, jL v1, jU, jL 0, jU, jI 0] [] s Q) : kR mX0_multiply [jR x, jL v1] s Q := by
  show kK mX0_multiply 0 [jR x, jL v1, jU, jU, jU, jU] [] s Q
  refine k_lconst 0 dX0_multiply_0 rfl ?_
  refine k_lstore_n [jR x, jL v1, jU, jL 0, jU, jU] dX0_multiply_1 rfl rfl ?_
  refine k_iconst dX0_multiply_2 ?_
  refine k_istore [jR x, jL v1, jU, jL 0, jU, jI 0] dX0_multiply_3 rfl rfl ?_
  exact v
theorem g_X0_multiply_5 {s : Int → Int → Int} {Q : Option jV → (Int → Int → Int) → Prop} {v1 v3 v5 x : Int} (hb : jBig x) (v : (jr32 v5 ∧ jr32 (s x 1) ∧ (((s x 1) ≤ v5 → ((CO s x v3) ∧ (∀ (s6 : Int → Int → Int), (frm (fun k => k = x ∨ k = x + 1) s s6 ∧ BG s6 x (coT s x v3)) → Q none s6))) ∧ (¬ ((s x 1) ≤ v5) → ((0 ≤ v5 ∧ v5 < 16) ∧ jr32 (s (x + 1) v5) ∧ jr64 (v3 + ((s (x + 1) v5) * v1)) ∧ kK mX0_multiply 5 [jR x, jL v1, jU, jL ((v3 + ((s (x + 1) v5) * v1)) / 2 ^ Int.toNat 30), jU, jI (v5 + 1)] [] (w2 s (x + 1) v5 ((v3 + ((s (x + 1) v5) * v1)) % 1073741824)) Q))))) : kK mX0_multiply 5 [jR x, jL v1, jU, jL v3, jU, jI v5] [] s Q := by
  obtain ⟨a1, a2, v⟩ := v
  refine k_iload dX0_multiply_5 rfl ?_
  refine k_aload_n dX0_multiply_7 rfl ?_
  refine k_geti 1 dX0_multiply_8 fl_X0_13 hb.1 (jbr0 hb) rfl rfl ?_
  obtain ⟨vt, vf⟩ := v
  refine k_icmp_ge 51 dX0_multiply_11 rfl a1 a2 (fun c3 => ?_) (fun c3 => ?_)
  · have v := vt c3
    obtain ⟨a4, v⟩ := v
    refine k_aload_n dX0_multiply_51 rfl ?_
    refine k_lload_n dX0_multiply_52 rfl ?_
    refine k_invVR [jL v3] [] dX0_multiply_53 cm_X0_carryOn ml_X0_17 im_X0_carryOn se_X0_carryOn rfl hb.1 (jbr0 hb) rfl rfl (sp_X0_carryOn s x v3 hb a4) (fun _ s6 q7 => ?_)
    obtain ⟨rfl, q7⟩ := q7
    have v := v s6 q7
    exact k_return (st := []) dX0_multiply_56 rfl v
  · have v := vf c3
    obtain ⟨a8, a9, a10, v⟩ := v
    refine k_lload_n dX0_multiply_14 rfl ?_
    refine k_aload_n dX0_multiply_15 rfl ?_
    refine k_getr dX0_multiply_16 fl_X0_9 hb.1 (jbr0 hb) rfl ?_
    refine k_iload dX0_multiply_19 rfl ?_
    refine k_iald 16 dX0_multiply_21 hb.2.1 (jbr2 hb) rfl (by decide) a8 ?_
    refine k_i2l dX0_multiply_22 a9 ?_
    refine k_lload_n dX0_multiply_23 rfl ?_
    refine k_lmul dX0_multiply_24 ?_
    refine k_ladd dX0_multiply_25 ?_
    refine k_lstore_n [jR x, jL v1, jU, jL (v3 + ((s (x + 1) v5) * v1)), jU, jI v5] dX0_multiply_26 rfl rfl ?_
    refine k_aload_n dX0_multiply_27 rfl ?_
    refine k_getr dX0_multiply_28 fl_X0_9 hb.1 (jbr0 hb) rfl ?_
    refine k_iload dX0_multiply_31 rfl ?_
    refine k_lload_n dX0_multiply_33 rfl ?_
    refine k_ldc2 (1073741823) (1073741823) dX0_multiply_34 kl_X0_27 rfl ?_
    refine k_andML dX0_multiply_37 ?_
    refine k_l2i dX0_multiply_38 ?_
    refine k_iast 16 dX0_multiply_39 hb.2.1 (jbr1 hb) rfl (by decide) a8 ?_
    refine k_lload_n dX0_multiply_40 rfl ?_
    refine k_bipush dX0_multiply_41 rfl ?_
    refine k_shrL dX0_multiply_43 a10 (by decide) ?_
    refine k_lstore_n [jR x, jL v1, jU, jL ((v3 + ((s (x + 1) v5) * v1)) / 2 ^ Int.toNat 30), jU, jI v5] dX0_multiply_44 rfl rfl ?_
    refine k_iinc [jR x, jL v1, jU, jL ((v3 + ((s (x + 1) v5) * v1)) / 2 ^ Int.toNat 30), jU, jI (v5 + 1)] dX0_multiply_45 rfl rfl rfl ?_
    refine k_goto 5 dX0_multiply_48 rfl ?_
    exact v
theorem g_X0_add {s : Int → Int → Int} {Q : Option jV → (Int → Int → Int) → Prop} {x y : Int} (hb : jBig x) (hc : jBig y) (v : kK mX0_add 0 [jR x, jR y, jU, jU, jU] [] s Q) : kR mX0_add [jR x, jR y] s Q := by
  show kK mX0_add 0 [jR x, jR y, jU, jU, jU] [] s Q
  exact v
theorem g_X0_add_0 {s : Int → Int → Int} {Q : Option jV → (Int → Int → Int) → Prop} {x y : Int} (hb : jBig x) (hc : jBig y) (v : (jr32 (s x 1) ∧ jr32 (s y 1) ∧ (((s y 1) ≤ (s x 1) → kK mX0_add 39 [jR x, jR y, jL 0, jU, jI 0] [] s Q) ∧ (¬ ((s y 1) ≤ (s x 1)) → ((0 ≤ (s x 1) ∧ (s x 1) < 16) ∧ kK mX0_add 0 [jR x, jR y, jU, jU, jU] [] (w2 (w2 s (x + 1) (s x 1) 0) x 1 (((w2 s (x + 1) (s x 1) 0) x 1) + 1)) Q))))) : kK mX0_add 0 [jR x, jR y, jU, jU, jU] [] s Q := by
  obtain ⟨a1, a2, v⟩ := v
  refine k_aload_n dX0_add_0 rfl ?_
  refine k_geti 1 dX0_add_1 fl_X0_13 hb.1 (jbr0 hb) rfl rfl ?_
  refine k_aload_n dX0_add_4 rfl ?_
  refine k_geti 1 dX0_add_5 fl_X0_13 hc.1 (jbr0 hc) rfl rfl ?_
  obtain ⟨vt, vf⟩ := v
  refine k_icmp_ge 34 dX0_add_8 rfl a1 a2 (fun c3 => ?_) (fun c3 => ?_)
  · have v := vt c3
    refine k_lconst 0 dX0_add_34 rfl ?_
    refine k_lstore_n [jR x, jR y, jL 0, jU, jU] dX0_add_35 rfl rfl ?_
    refine k_iconst dX0_add_36 ?_
    refine k_istore [jR x, jR y, jL 0, jU, jI 0] dX0_add_37 rfl rfl ?_
    exact v
  · have v := vf c3
    obtain ⟨a4, v⟩ := v
    refine k_aload_n dX0_add_11 rfl ?_
    refine k_getr dX0_add_12 fl_X0_9 hb.1 (jbr0 hb) rfl ?_
    refine k_aload_n dX0_add_15 rfl ?_
    refine k_geti 1 dX0_add_16 fl_X0_13 hb.1 (jbr0 hb) rfl rfl ?_
    refine k_iconst dX0_add_19 ?_
    refine k_iast 16 dX0_add_20 hb.2.1 (jbr1 hb) rfl (by decide) a4 ?_
    refine k_aload_n dX0_add_21 rfl ?_
    refine k_dup dX0_add_22 rfl ?_
    refine k_geti 1 dX0_add_23 fl_X0_13 hb.1 (jbr0 hb) rfl rfl ?_
    refine k_iconst dX0_add_26 ?_
    refine k_iadd dX0_add_27 ?_
    refine k_put 1 dX0_add_28 ct_X0 (by decide) fw_X0_13 rfl rfl hb.1 (jbr hb) rfl rfl ?_
    refine k_goto 0 dX0_add_31 rfl ?_
    exact v
theorem g_X0_add_39 {s : Int → Int → Int} {Q : Option jV → (Int → Int → Int) → Prop} {v2 v4 x y : Int} (hb : jBig x) (hc : jBig y) (v : (jr32 v4 ∧ jr32 (s x 1) ∧ (((s x 1) ≤ v4 → ((CO s x v2) ∧ (∀ (s6 : Int → Int → Int), (frm (fun k => k = x ∨ k = x + 1) s s6 ∧ BG s6 x (coT s x v2)) → Q none s6))) ∧ (¬ ((s x 1) ≤ v4) → ((0 ≤ v4 ∧ v4 < 16) ∧ jr32 (s (x + 1) v4) ∧ jr32 (s y 1) ∧ (((s y 1) ≤ v4 → (jr64 (v2 + ((s (x + 1) v4) + 0)) ∧ kK mX0_add 39 [jR x, jR y, jL ((v2 + ((s (x + 1) v4) + 0)) / 2 ^ Int.toNat 30), jU, jI (v4 + 1)] [] (w2 s (x + 1) v4 ((v2 + ((s (x + 1) v4) + 0)) % 1073741824)) Q)) ∧ (¬ ((s y 1) ≤ v4) → (jr32 (s (y + 1) v4) ∧ jr64 (v2 + ((s (x + 1) v4) + (s (y + 1) v4))) ∧ kK mX0_add 39 [jR x, jR y, jL ((v2 + ((s (x + 1) v4) + (s (y + 1) v4))) / 2 ^ Int.toNat 30), jU, jI (v4 + 1)] [] (w2 s (x + 1) v4 ((v2 + ((s (x + 1) v4) + (s (y + 1) v4))) % 1073741824)) Q)))))))) : kK mX0_add 39 [jR x, jR y, jL v2, jU, jI v4] [] s Q := by
  obtain ⟨a1, a2, v⟩ := v
  refine k_iload dX0_add_39 rfl ?_
  refine k_aload_n dX0_add_41 rfl ?_
  refine k_geti 1 dX0_add_42 fl_X0_13 hb.1 (jbr0 hb) rfl rfl ?_
  obtain ⟨vt, vf⟩ := v
  refine k_icmp_ge 105 dX0_add_45 rfl a1 a2 (fun c3 => ?_) (fun c3 => ?_)
  · have v := vt c3
    obtain ⟨a4, v⟩ := v
    refine k_aload_n dX0_add_105 rfl ?_
    refine k_lload_n dX0_add_106 rfl ?_
    refine k_invVR [jL v2] [] dX0_add_107 cm_X0_carryOn ml_X0_17 im_X0_carryOn se_X0_carryOn rfl hb.1 (jbr0 hb) rfl rfl (sp_X0_carryOn s x v2 hb a4) (fun _ s6 q7 => ?_)
    obtain ⟨rfl, q7⟩ := q7
    have v := v s6 q7
    exact k_return (st := []) dX0_add_110 rfl v
  · have v := vf c3
    obtain ⟨a8, a9, a10, v⟩ := v
    refine k_lload_n dX0_add_48 rfl ?_
    refine k_aload_n dX0_add_49 rfl ?_
    refine k_getr dX0_add_50 fl_X0_9 hb.1 (jbr0 hb) rfl ?_
    refine k_iload dX0_add_53 rfl ?_
    refine k_iald 16 dX0_add_55 hb.2.1 (jbr2 hb) rfl (by decide) a8 ?_
    refine k_i2l dX0_add_56 a9 ?_
    refine k_iload dX0_add_57 rfl ?_
    refine k_aload_n dX0_add_59 rfl ?_
    refine k_geti 1 dX0_add_60 fl_X0_13 hc.1 (jbr0 hc) rfl rfl ?_
    obtain ⟨vt, vf⟩ := v
    refine k_icmp_ge 77 dX0_add_63 rfl a1 a10 (fun c11 => ?_) (fun c11 => ?_)
    · have v := vt c11
      obtain ⟨a12, v⟩ := v
      refine k_lconst 0 dX0_add_77 rfl ?_
      refine k_ladd dX0_add_78 ?_
      refine k_ladd dX0_add_79 ?_
      refine k_lstore_n [jR x, jR y, jL (v2 + ((s (x + 1) v4) + 0)), jU, jI v4] dX0_add_80 rfl rfl ?_
      refine k_aload_n dX0_add_81 rfl ?_
      refine k_getr dX0_add_82 fl_X0_9 hb.1 (jbr0 hb) rfl ?_
      refine k_iload dX0_add_85 rfl ?_
      refine k_lload_n dX0_add_87 rfl ?_
      refine k_ldc2 (1073741823) (1073741823) dX0_add_88 kl_X0_27 rfl ?_
      refine k_andML dX0_add_91 ?_
      refine k_l2i dX0_add_92 ?_
      refine k_iast 16 dX0_add_93 hb.2.1 (jbr1 hb) rfl (by decide) a8 ?_
      refine k_lload_n dX0_add_94 rfl ?_
      refine k_bipush dX0_add_95 rfl ?_
      refine k_shrL dX0_add_97 a12 (by decide) ?_
      refine k_lstore_n [jR x, jR y, jL ((v2 + ((s (x + 1) v4) + 0)) / 2 ^ Int.toNat 30), jU, jI v4] dX0_add_98 rfl rfl ?_
      refine k_iinc [jR x, jR y, jL ((v2 + ((s (x + 1) v4) + 0)) / 2 ^ Int.toNat 30), jU, jI (v4 + 1)] dX0_add_99 rfl rfl rfl ?_
      refine k_goto 39 dX0_add_102 rfl ?_
      exact v
    · have v := vf c11
      obtain ⟨a13, a14, v⟩ := v
      refine k_aload_n dX0_add_66 rfl ?_
      refine k_getr dX0_add_67 fl_X0_9 hc.1 (jbr0 hc) rfl ?_
      refine k_iload dX0_add_70 rfl ?_
      refine k_iald 16 dX0_add_72 hc.2.1 (jbr2 hc) rfl (by decide) a8 ?_
      refine k_i2l dX0_add_73 a13 ?_
      refine k_goto 78 dX0_add_74 rfl ?_
      refine k_ladd dX0_add_78 ?_
      refine k_ladd dX0_add_79 ?_
      refine k_lstore_n [jR x, jR y, jL (v2 + ((s (x + 1) v4) + (s (y + 1) v4))), jU, jI v4] dX0_add_80 rfl rfl ?_
      refine k_aload_n dX0_add_81 rfl ?_
      refine k_getr dX0_add_82 fl_X0_9 hb.1 (jbr0 hb) rfl ?_
      refine k_iload dX0_add_85 rfl ?_
      refine k_lload_n dX0_add_87 rfl ?_
      refine k_ldc2 (1073741823) (1073741823) dX0_add_88 kl_X0_27 rfl ?_
      refine k_andML dX0_add_91 ?_
      refine k_l2i dX0_add_92 ?_
      refine k_iast 16 dX0_add_93 hb.2.1 (jbr1 hb) rfl (by decide) a8 ?_
      refine k_lload_n dX0_add_94 rfl ?_
      refine k_bipush dX0_add_95 rfl ?_
      refine k_shrL dX0_add_97 a14 (by decide) ?_
      refine k_lstore_n [jR x, jR y, jL ((v2 + ((s (x + 1) v4) + (s (y + 1) v4))) / 2 ^ Int.toNat 30), jU, jI v4] dX0_add_98 rfl rfl ?_
      refine k_iinc [jR x, jR y, jL ((v2 + ((s (x + 1) v4) + (s (y + 1) v4))) / 2 ^ Int.toNat 30), jU, jI (v4 + 1)] dX0_add_99 rfl rfl rfl ?_
      refine k_goto 39 dX0_add_102 rfl ?_
      exact v
theorem g_X0_isAbove {s : Int → Int → Int} {Q : Option jV → (Int → Int → Int) → Prop} {x y : Int} (hb : jBig x) (hc : jBig y) (v : (jr32 (s x 1) ∧ jr32 (s y 1) ∧ (((s x 1) = (s y 1) → kK mX0_isAbove 35 [jR x, jR y, jI ((s x 1) - 1)] [] s Q) ∧ (¬ ((s x 1) = (s y 1)) → (((s x 1) ≤ (s y 1) → Q (some (jI 0)) s) ∧ (¬ ((s x 1) ≤ (s y 1)) → Q (some (jI 1)) s)))))) : kR mX0_isAbove [jR x, jR y] s Q := by
  show kK mX0_isAbove 0 [jR x, jR y, jU] [] s Q
  obtain ⟨a1, a2, v⟩ := v
  refine k_aload_n dX0_isAbove_0 rfl ?_
  refine k_geti 1 dX0_isAbove_1 fl_X0_13 hb.1 (jbr0 hb) rfl rfl ?_
  refine k_aload_n dX0_isAbove_4 rfl ?_
  refine k_geti 1 dX0_isAbove_5 fl_X0_13 hc.1 (jbr0 hc) rfl rfl ?_
  obtain ⟨vt, vf⟩ := v
  refine k_icmp_eq 28 dX0_isAbove_8 rfl a1 a2 (fun c3 => ?_) (fun c3 => ?_)
  · have v := vt c3
    refine k_aload_n dX0_isAbove_28 rfl ?_
    refine k_geti 1 dX0_isAbove_29 fl_X0_13 hb.1 (jbr0 hb) rfl rfl ?_
    refine k_iconst dX0_isAbove_32 ?_
    refine k_isub dX0_isAbove_33 ?_
    refine k_istore_n [jR x, jR y, jI ((s x 1) - 1)] dX0_isAbove_34 rfl rfl ?_
    exact v
  · have v := vf c3
    refine k_aload_n dX0_isAbove_11 rfl ?_
    refine k_geti 1 dX0_isAbove_12 fl_X0_13 hb.1 (jbr0 hb) rfl rfl ?_
    refine k_aload_n dX0_isAbove_15 rfl ?_
    refine k_geti 1 dX0_isAbove_16 fl_X0_13 hc.1 (jbr0 hc) rfl rfl ?_
    obtain ⟨vt, vf⟩ := v
    refine k_icmp_le 26 dX0_isAbove_19 rfl a1 a2 (fun c4 => ?_) (fun c4 => ?_)
    · have v := vt c4
      refine k_iconst dX0_isAbove_26 ?_
      exact k_zreturn (st := []) dX0_isAbove_27 rfl (Or.inl rfl) v
    · have v := vf c4
      refine k_iconst dX0_isAbove_22 ?_
      refine k_goto 27 dX0_isAbove_23 rfl ?_
      exact k_zreturn (st := []) dX0_isAbove_27 rfl (Or.inr rfl) v
theorem g_X0_isAbove_35 {s : Int → Int → Int} {Q : Option jV → (Int → Int → Int) → Prop} {v2 x y : Int} (hb : jBig x) (hc : jBig y) (v : (jr32 v2 ∧ ((v2 < 0 → Q (some (jI 0)) s) ∧ (¬ (v2 < 0) → ((0 ≤ v2 ∧ v2 < 16) ∧ jr32 (s (x + 1) v2) ∧ jr32 (s (y + 1) v2) ∧ (((s (x + 1) v2) = (s (y + 1) v2) → kK mX0_isAbove 35 [jR x, jR y, jI (v2 + (-1))] [] s Q) ∧ (¬ ((s (x + 1) v2) = (s (y + 1) v2)) → (((s (x + 1) v2) ≤ (s (y + 1) v2) → Q (some (jI 0)) s) ∧ (¬ ((s (x + 1) v2) ≤ (s (y + 1) v2)) → Q (some (jI 1)) s))))))))) : kK mX0_isAbove 35 [jR x, jR y, jI v2] [] s Q := by
  obtain ⟨a1, v⟩ := v
  refine k_iload_n dX0_isAbove_35 rfl ?_
  obtain ⟨vt, vf⟩ := v
  refine k_if_lt 81 dX0_isAbove_36 rfl a1 (fun c2 => ?_) (fun c2 => ?_)
  · have v := vt c2
    refine k_iconst dX0_isAbove_81 ?_
    exact k_zreturn (st := []) dX0_isAbove_82 rfl (Or.inl rfl) v
  · have v := vf c2
    obtain ⟨a3, a4, a5, v⟩ := v
    refine k_aload_n dX0_isAbove_39 rfl ?_
    refine k_getr dX0_isAbove_40 fl_X0_9 hb.1 (jbr0 hb) rfl ?_
    refine k_iload_n dX0_isAbove_43 rfl ?_
    refine k_iald 16 dX0_isAbove_44 hb.2.1 (jbr2 hb) rfl (by decide) a3 ?_
    refine k_aload_n dX0_isAbove_45 rfl ?_
    refine k_getr dX0_isAbove_46 fl_X0_9 hc.1 (jbr0 hc) rfl ?_
    refine k_iload_n dX0_isAbove_49 rfl ?_
    refine k_iald 16 dX0_isAbove_50 hc.2.1 (jbr2 hc) rfl (by decide) a3 ?_
    obtain ⟨vt, vf⟩ := v
    refine k_icmp_eq 75 dX0_isAbove_51 rfl a4 a5 (fun c6 => ?_) (fun c6 => ?_)
    · have v := vt c6
      refine k_iinc [jR x, jR y, jI (v2 + (-1))] dX0_isAbove_75 rfl rfl rfl ?_
      refine k_goto 35 dX0_isAbove_78 rfl ?_
      exact v
    · have v := vf c6
      refine k_aload_n dX0_isAbove_54 rfl ?_
      refine k_getr dX0_isAbove_55 fl_X0_9 hb.1 (jbr0 hb) rfl ?_
      refine k_iload_n dX0_isAbove_58 rfl ?_
      refine k_iald 16 dX0_isAbove_59 hb.2.1 (jbr2 hb) rfl (by decide) a3 ?_
      refine k_aload_n dX0_isAbove_60 rfl ?_
      refine k_getr dX0_isAbove_61 fl_X0_9 hc.1 (jbr0 hc) rfl ?_
      refine k_iload_n dX0_isAbove_64 rfl ?_
      refine k_iald 16 dX0_isAbove_65 hc.2.1 (jbr2 hc) rfl (by decide) a3 ?_
      obtain ⟨vt, vf⟩ := v
      refine k_icmp_le 73 dX0_isAbove_66 rfl a4 a5 (fun c7 => ?_) (fun c7 => ?_)
      · have v := vt c7
        refine k_iconst dX0_isAbove_73 ?_
        exact k_zreturn (st := []) dX0_isAbove_74 rfl (Or.inl rfl) v
      · have v := vf c7
        refine k_iconst dX0_isAbove_69 ?_
        refine k_goto 74 dX0_isAbove_70 rfl ?_
        exact k_zreturn (st := []) dX0_isAbove_74 rfl (Or.inr rfl) v
def bv (s : Int → Int → Int) (x : Int) : Int := vl (s x 1) (s (x + 1))
theorem BG.bv {s : Int → Int → Int} {x N : Int} (h : BG s x N) : bv s x = N := h.2.2.1
theorem BG.me {s : Int → Int → Int} {x N : Int} (h : BG s x N) : BG s x (vl (s x 1) (s (x + 1))) := by rw [h.2.2.1]; exact h
def bxP (x k : Int) : Prop := k = x ∨ k = x + 1
theorem sp_X0_multiply (s : Int → Int → Int) (x f : Int) (hb : jBig x) (h : BG s x (bv s x)) (hf : 1 ≤ f ∧ f ≤ 4294967295) (hN : bv s x * f < bp 16) : kR mX0_multiply [jR x, jL f] s (fun r s' => r = none ∧ frm (bxP x) s s' ∧ BG s' x (bv s x * f)) := by
  have hN0 := h.b
  obtain ⟨a1, a2, a3, a4⟩ := h
  refine g_X0_multiply hb ?_
  have key : ∀ i, i ≤ s x 1 → 0 ≤ i → ∀ s1 c, (0 ≤ c ∧ c ≤ f) → s1 x 1 = s x 1 → (∀ j, 0 ≤ j → j < i → 0 ≤ s1 (x + 1) j ∧ s1 (x + 1) j < 1073741824) → (∀ j, i ≤ j → s1 (x + 1) j = s (x + 1) j) → vl i (s1 (x + 1)) + c * bp i = vl i (s (x + 1)) * f → frm (bxP x) s s1 → kK mX0_multiply 5 [jR x, jL f, jU, jL c, jU, jI i] [] s1 (fun r s' => r = none ∧ frm (bxP x) s s' ∧ BG s' x (bv s x * f)) := by
    refine lp_up _ _ (fun i hi ih i0 s1 c hc w dg un sm fr => ?_)
    refine g_X0_multiply_5 hb ?_
    rw [w]
    refine ⟨by unfold jr32; omega, by unfold jr32; omega, fun q => ?_, fun q => ?_⟩
    · have ei : i = s x 1 := by omega
      rw [ei] at sm dg
      have t : coT s1 x c = bv s x * f := by
        unfold coT
        rw [w, sm]; rfl
      have m1 := Int.mul_le_mul_of_nonneg_left hf.1 hN0.1
      refine ⟨⟨by rw [w]; exact a1, by rw [w]; exact dg, by omega, by rw [t]; exact hN, ?_⟩, fun s5 q5 => ⟨rfl, fr.tr (fun k hk => q5.1 k hk), by rw [← t]; exact q5.2⟩⟩
      rw [w, t]
      exact a4.imp id (fun y => by omega)
    · have d := a2 i i0 (by omega)
      rw [un i (Int.le_refl _)]
      have p0 := Int.mul_nonneg d.1 (show 0 ≤ f by omega)
      have p1 : s (x + 1) i * f ≤ 1073741823 * f := Int.mul_le_mul_of_nonneg_right (by omega) (by omega)
      refine ⟨by omega, by unfold jr32; omega, by unfold jr64; omega, ?_⟩
      rw [show (2 : Int) ^ Int.toNat 30 = 1073741824 from rfl]
      have cb : 0 ≤ (c + s (x + 1) i * f) / 1073741824 ∧ (c + s (x + 1) i * f) / 1073741824 ≤ f := by omega
      refine ih (by omega) (by omega) _ _ cb (by rw [w2_k (by omega)]; exact w) (fun j j0 j1 => ?_) (fun j j0 => by rw [w2_i (by omega)]; exact un j (by omega)) ?_ (fr.s2 (Or.inr rfl))
      · rw [w2_e]
        by_cases e : j = i
        · rw [if_pos e]; omega
        · rw [if_neg e]; exact dg j j0 (by omega)
      · rw [vl_s i0, vl_s i0, w2_s, vl_c (g := s1 (x + 1)) i i0 (fun j j0 j1 => by rw [w2_i (by omega)]), bp_s i0, Int.add_assoc, dm_mul, Int.add_mul, Int.add_mul, ← Int.add_assoc, sm]
        grind
  exact key 0 a1.1 (by omega) s 0 (by omega) rfl (fun j j0 j1 => by omega) (fun j _ => rfl) (by simp only [vl_0]; omega) frm.rf
def xyP (x y : Int) : Prop := x ≠ y ∧ x ≠ y + 1 ∧ x + 1 ≠ y
theorem sp_X0_add (s : Int → Int → Int) (x y : Int) (hb : jBig x) (hc : jBig y) (hxy : xyP x y) (h : BG s x (bv s x)) (g : BG s y (bv s y)) (hN : bv s x + bv s y < bp 16) : kR mX0_add [jR x, jR y] s (fun r s' => r = none ∧ frm (bxP x) s s' ∧ BG s' x (bv s x + bv s y)) := by
  have hN0 := h.b
  have gN0 := g.b
  obtain ⟨n1, n2, n3⟩ := hxy
  obtain ⟨a1, a2, a3, a4⟩ := h
  obtain ⟨b1, b2, b3, b4⟩ := g
  refine g_X0_add hb hc ?_
  have k39 : ∀ s0, frm (bxP x) s s0 → s y 1 ≤ s0 x 1 → (0 ≤ s0 x 1 ∧ s0 x 1 ≤ 16) → dgt (s0 x 1) (s0 (x + 1)) → vl (s0 x 1) (s0 (x + 1)) = bv s x → (s0 x 1 = 0 ∨ bp (s0 x 1 - 1) ≤ bv s x + bv s y) → kK mX0_add 39 [jR x, jR y, jL 0, jU, jI 0] [] s0 (fun r s' => r = none ∧ frm (bxP x) s s' ∧ BG s' x (bv s x + bv s y)) := fun s0 f0 le w16 dg0 v0 mn => by
    have key : ∀ i, i ≤ s0 x 1 → 0 ≤ i → ∀ s1 c, (0 ≤ c ∧ c ≤ 1) → s1 x 1 = s0 x 1 → (∀ j, 0 ≤ j → j < i → 0 ≤ s1 (x + 1) j ∧ s1 (x + 1) j < 1073741824) → (∀ j, i ≤ j → s1 (x + 1) j = s0 (x + 1) j) → vl i (s1 (x + 1)) + c * bp i = vl i (s0 (x + 1)) + vl i (fun j => if j < s y 1 then s (y + 1) j else 0) → frm (bxP x) s s1 → kK mX0_add 39 [jR x, jR y, jL c, jU, jI i] [] s1 (fun r s' => r = none ∧ frm (bxP x) s s' ∧ BG s' x (bv s x + bv s y)) := by
      refine lp_up _ _ (fun i hi ih i0 s1 c hc2 w dg un sm fr => ?_)
      have cy : s1 y = s y := fr y (by unfold bxP; omega)
      have cy1 : s1 (y + 1) = s (y + 1) := fr (y + 1) (by unfold bxP; omega)
      refine g_X0_add_39 hb hc ?_
      rw [w, cy, cy1]
      refine ⟨by unfold jr32; omega, by unfold jr32; omega, fun q => ?_, fun q => ?_⟩
      · have ei : i = s0 x 1 := by omega
        have vy : vl i (fun j => if j < s y 1 then s (y + 1) j else 0) = bv s y := by
          rw [ei, vl_z0 (f := fun j => if j < s y 1 then s (y + 1) j else 0) b1.1 le (fun j j0 _ => if_neg (by omega))]
          exact vl_c _ b1.1 (fun j _ j1 => if_pos j1)
        rw [vy, ei, v0] at sm
        rw [ei] at dg
        have t : coT s1 x c = bv s x + bv s y := by
          unfold coT
          rw [w, sm]
        exact ⟨⟨by rw [w]; exact w16, by rw [w]; exact dg, by omega, by rw [t]; exact hN, by rw [w, t]; exact mn⟩, fun s5 q5 => ⟨rfl, fr.tr (fun k hk => q5.1 k hk), by rw [← t]; exact q5.2⟩⟩
      · have d := dg0 i i0 (by omega)
        rw [un i (Int.le_refl _)]
        have st : ∀ z, (0 ≤ z ∧ z < 1073741824) → z = (if i < s y 1 then s (y + 1) i else 0) → kK mX0_add 39 [jR x, jR y, jL ((c + (s0 (x + 1) i + z)) / 1073741824), jU, jI (i + 1)] [] (w2 s1 (x + 1) i ((c + (s0 (x + 1) i + z)) % 1073741824)) (fun r s' => r = none ∧ frm (bxP x) s s' ∧ BG s' x (bv s x + bv s y)) := fun z hz ez => by
          refine ih (by omega) (by omega) _ _ (by omega) (by rw [w2_k (by omega)]; exact w) (fun j j0 j1 => ?_) (fun j j0 => by rw [w2_i (by omega)]; exact un j (by omega)) ?_ (fr.s2 (Or.inr rfl))
          · rw [w2_e]
            by_cases e : j = i
            · rw [if_pos e]; omega
            · rw [if_neg e]; exact dg j j0 (by omega)
          · rw [vl_s i0, vl_s i0, vl_s i0, w2_s, vl_c (g := s1 (x + 1)) i i0 (fun j j0 j1 => by rw [w2_i (by omega)]), bp_s i0, Int.add_assoc, dm_mul, ← ez]
            have e2 : (c + (s0 (x + 1) i + z)) * bp i = c * bp i + s0 (x + 1) i * bp i + z * bp i := by rw [Int.add_mul, Int.add_mul]; omega
            rw [e2]; omega
        rw [show (2 : Int) ^ Int.toNat 30 = 1073741824 from rfl]
        refine ⟨by omega, by unfold jr32; omega, by unfold jr32; omega, fun q2 => ⟨by unfold jr64; omega, st 0 (by omega) (by rw [if_neg (by omega)])⟩, fun q2 => ?_⟩
        have e := b2 i i0 (by omega)
        exact ⟨by unfold jr32; omega, by unfold jr64; omega, st _ e (by rw [if_pos (by omega)])⟩
    exact key 0 w16.1 (by omega) s0 0 (by omega) rfl (fun j j0 j1 => by omega) (fun j _ => rfl) (by simp only [vl_0]; omega) f0
  have k0 : ∀ n, n ≤ max (s x 1) (s y 1) → s x 1 ≤ n → ∀ s0, frm (bxP x) s s0 → s0 x 1 = n → dgt n (s0 (x + 1)) → vl n (s0 (x + 1)) = bv s x → kK mX0_add 0 [jR x, jR y, jU, jU, jU] [] s0 (fun r s' => r = none ∧ frm (bxP x) s s' ∧ BG s' x (bv s x + bv s y)) := by
    refine lp_up _ _ (fun n hn ih n0 s0 f0 w dg v0 => ?_)
    have cy : s0 y = s y := f0 y (by unfold bxP; omega)
    refine g_X0_add_0 hb hc ?_
    rw [cy, w]
    refine ⟨by unfold jr32; omega, by unfold jr32; omega, fun q => k39 s0 f0 (by omega) (by omega) (by rw [w]; exact dg) (by rw [w]; exact v0) ?_, fun q => ⟨by omega, ?_⟩⟩
    · rw [w]
      by_cases e : n = s x 1
      · rw [e]
        exact a4.imp id (fun z => by omega)
      · rw [show n = s y 1 by omega]
        exact b4.imp id (fun z => by omega)
    · rw [w2_k (show x ≠ x + 1 by omega), w]
      have ex : w2 (w2 s0 (x + 1) n 0) x 1 (n + 1) (x + 1) = fun i => if i = n then 0 else s0 (x + 1) i := by
        rw [w2_k (by omega)]; funext i; rw [w2_e]
      refine ih (by omega) (by omega) _ ((f0.s2 (Or.inr rfl)).s2 (Or.inl rfl)) (w2_s _ _ _ _) ?_ ?_
      · rw [ex]
        intro i i0 i1
        show 0 ≤ (if i = n then (0 : Int) else s0 (x + 1) i) ∧ (if i = n then (0 : Int) else s0 (x + 1) i) < 1073741824
        by_cases c : i = n
        · rw [if_pos c]; omega
        · rw [if_neg c]; exact dg i i0 (by omega)
      · rw [ex, vl_s (by omega), if_pos rfl, vl_c (f := fun i => if i = n then 0 else s0 (x + 1) i) (g := s0 (x + 1)) n (by omega) (fun i i0 i1 => by rw [if_neg (by omega)]), v0]
        omega
  exact k0 (s x 1) (by omega) (Int.le_refl _) s frm.rf rfl a2 rfl
theorem sp_X0_isAbove (s : Int → Int → Int) (x y : Int) (hb : jBig x) (hc : jBig y) (h : BG s x (bv s x)) (g : BG s y (bv s y)) : kM mX0_isAbove [jR x, jR y] s (some (jI (jbo (bv s y < bv s x)))) s := by
  have hN0 := h.b
  have gN0 := g.b
  obtain ⟨a1, a2, a3, a4⟩ := h
  obtain ⟨b1, b2, b3, b4⟩ := g
  refine g_X0_isAbove hb hc ⟨by unfold jr32; omega, by unfold jr32; omega, fun q => ?_, fun q => ⟨fun q2 => ?_, fun q2 => ?_⟩⟩
  · have key : ∀ k, -1 ≤ k → k < s x 1 → (∀ i, k < i → i < s x 1 → s (x + 1) i = s (y + 1) i) → kK mX0_isAbove 35 [jR x, jR y, jI k] [] s (fun r s' => r = some (jI (jbo (bv s y < bv s x))) ∧ s' = s) := by
      refine lp_dn (-1) _ (fun k hk ih k1 e => ?_)
      refine g_X0_isAbove_35 hb hc ⟨by unfold jr32; omega, fun q2 => ?_, fun q2 => ?_⟩
      · have : bv s x = bv s y := by
          unfold bv
          rw [← q]
          exact vl_c _ a1.1 (fun i i0 i1 => e i (by omega) i1)
        exact ⟨by rw [jbo_f (by omega)], rfl⟩
      · have d := a2 k (by omega) (by omega)
        have d' := b2 k (by omega) (by omega)
        refine ⟨by omega, by unfold jr32; omega, by unfold jr32; omega, fun q3 => ?_, fun q3 => ⟨fun q4 => ?_, fun q4 => ?_⟩⟩
        · rw [show k + -1 = k - 1 by omega]
          refine ih (by omega) (by omega) (fun i i0 i1 => ?_)
          by_cases c : i = k
          · rw [c]; exact q3
          · exact e i (by omega) i1
        · have := cmp_vl (f := s (x + 1)) (g := s (y + 1)) (w := s x 1) (k := k) (by omega) a2 (by rw [q]; exact b2) e (by omega)
          have e2 : vl (s x 1) (s (y + 1)) = bv s y := by rw [q]; rfl
          rw [e2] at this
          exact ⟨by rw [jbo_f (by unfold bv at *; omega)], rfl⟩
        · have := cmp_vl (f := s (y + 1)) (g := s (x + 1)) (w := s x 1) (k := k) (by omega) (by rw [q]; exact b2) a2 (fun i i0 i1 => (e i i0 i1).symm) (by omega)
          have e2 : vl (s x 1) (s (y + 1)) = bv s y := by rw [q]; rfl
          rw [e2] at this
          exact ⟨by rw [jbo_t (by unfold bv at *; omega)], rfl⟩
    exact key _ (by omega) (by omega) (fun i i0 i1 => by omega)
  · have := bp_le (show s x 1 ≤ s y 1 - 1 by omega)
    have := b4.resolve_left (by omega)
    exact ⟨by rw [jbo_f (by omega)], rfl⟩
  · have := bp_le (show s y 1 ≤ s x 1 - 1 by omega)
    have := a4.resolve_left (by omega)
    exact ⟨by rw [jbo_t (by omega)], rfl⟩
