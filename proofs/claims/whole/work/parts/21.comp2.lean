theorem g_X6_add {s : Int → Int → Int} {Q : Option jV → (Int → Int → Int) → Prop} {v1 v2 v3 : Int} (v : (jr32 (s 97 3) ∧ (((s 97 3) < 40 → ((0 ≤ (s 97 3) ∧ (s 97 3) < 40) ∧ (0 ≤ v2 ∧ v2 < 8) ∧ (0 ≤ v3 ∧ v3 < 8) ∧ Q (some (jI ((s 97 3) + 1))) (w2 (w2 (w2 (w2 (w2 s 98 (s 97 3) v1) 99 (s 97 3) v2) 100 (s 97 3) v3) (102 + v2) v3 ((s (102 + v2) v3) + 1)) 97 3 ((s 97 3) + 1)))) ∧ (¬ ((s 97 3) < 40) → Q (some (jI (-4))) s)))) : kR mX6_add [jR 97, jI v1, jI v2, jI v3] s Q := by
  show kK mX6_add 0 [jR 97, jI v1, jI v2, jI v3] [] s Q
  obtain ⟨a1, v⟩ := v
  refine k_aload_n dX6_add_0 rfl ?_
  refine k_geti 3 dX6_add_1 fl_X6_32 sh_97 (by decide) rfl rfl ?_
  refine k_bipush dX6_add_4 rfl ?_
  obtain ⟨vt, vf⟩ := v
  refine k_icmp_lt 12 dX6_add_6 rfl a1 (by decide) (fun c2 => ?_) (fun c2 => ?_)
  · have v := vt c2
    obtain ⟨a3, a4, a5, v⟩ := v
    refine k_aload_n dX6_add_12 rfl ?_
    refine k_getr dX6_add_13 fl_X6_9 sh_97 (by decide) rfl ?_
    refine k_aload_n dX6_add_16 rfl ?_
    refine k_geti 3 dX6_add_17 fl_X6_32 sh_97 (by decide) rfl rfl ?_
    refine k_iload_n dX6_add_20 rfl ?_
    refine k_iast 40 dX6_add_21 sh_98 (by decide) rfl (by decide) a3 ?_
    refine k_aload_n dX6_add_22 rfl ?_
    refine k_getr dX6_add_23 fl_X6_15 sh_97 (by decide) rfl ?_
    refine k_aload_n dX6_add_26 rfl ?_
    refine k_geti 3 dX6_add_27 fl_X6_32 sh_97 (by decide) rfl rfl ?_
    rw [show ((w2 s 98 (s 97 3) v1) 97 3) = (s 97 3) from by rw [w2_k (by omega)]]
    refine k_iload_n dX6_add_30 rfl ?_
    refine k_iast 40 dX6_add_31 sh_99 (by decide) rfl (by decide) a3 ?_
    refine k_aload_n dX6_add_32 rfl ?_
    refine k_getr dX6_add_33 fl_X6_18 sh_97 (by decide) rfl ?_
    refine k_aload_n dX6_add_36 rfl ?_
    refine k_geti 3 dX6_add_37 fl_X6_32 sh_97 (by decide) rfl rfl ?_
    rw [show ((w2 (w2 s 98 (s 97 3) v1) 99 (s 97 3) v2) 97 3) = (s 97 3) from by rw [w2_k (by omega), w2_k (by omega)]]
    refine k_iload_n dX6_add_40 rfl ?_
    refine k_iast 40 dX6_add_41 sh_100 (by decide) rfl (by decide) a3 ?_
    refine k_aload_n dX6_add_42 rfl ?_
    refine k_getr dX6_add_43 fl_X6_23 sh_97 (by decide) rfl ?_
    refine k_iload_n dX6_add_46 rfl ?_
    refine k_aald 8 dX6_add_47 sh_101 (Or.inl rfl) (by decide) rfl (by decide) rfl a4 ?_
    refine k_iload_n dX6_add_48 rfl ?_
    refine k_dup2 dX6_add_49 rfl ?_
    refine k_iald 8 dX6_add_50 (sr_101 v2 a4) ⟨by have := a4; omega, by have := a4; omega⟩ rfl (by decide) a5 ?_
    rw [show ((w2 (w2 (w2 s 98 (s 97 3) v1) 99 (s 97 3) v2) 100 (s 97 3) v3) (102 + v2) v3) = (s (102 + v2) v3) from by rw [w2_k (by omega), w2_k (by omega), w2_k (by omega)]]
    refine k_iconst dX6_add_51 ?_
    refine k_iadd dX6_add_52 ?_
    refine k_iast 8 dX6_add_53 (sr_101 v2 a4) ⟨by have := a4; omega, by have := a4; omega⟩ rfl (by decide) a5 ?_
    refine k_aload_n dX6_add_54 rfl ?_
    refine k_dup dX6_add_55 rfl ?_
    refine k_geti 3 dX6_add_56 fl_X6_32 sh_97 (by decide) rfl rfl ?_
    rw [show ((w2 (w2 (w2 (w2 s 98 (s 97 3) v1) 99 (s 97 3) v2) 100 (s 97 3) v3) (102 + v2) v3 ((s (102 + v2) v3) + 1)) 97 3) = (s 97 3) from by rw [w2_k (by omega), w2_k (by omega), w2_k (by omega), w2_k (by omega)]]
    refine k_iconst dX6_add_59 ?_
    refine k_iadd dX6_add_60 ?_
    refine k_put 3 dX6_add_61 ct_X6 (by decide) fw_X6_32 rfl rfl sh_97 (by decide) rfl rfl ?_
    refine k_aload_n dX6_add_64 rfl ?_
    refine k_geti 3 dX6_add_65 fl_X6_32 sh_97 (by decide) rfl rfl ?_
    rw [show ((w2 (w2 (w2 (w2 (w2 s 98 (s 97 3) v1) 99 (s 97 3) v2) 100 (s 97 3) v3) (102 + v2) v3 ((s (102 + v2) v3) + 1)) 97 3 ((s 97 3) + 1)) 97 3) = ((s 97 3) + 1) from by rw [w2_s]]
    exact k_ireturn (st := []) dX6_add_68 rfl v
  · have v := vf c2
    refine k_bipush dX6_add_9 rfl ?_
    exact k_ireturn (st := []) dX6_add_11 rfl v
theorem sp_X6_add (s : Int → Int → Int) (v1 v2 v3 : Int) (hn : 0 ≤ s 97 3 ∧ s 97 3 ≤ 40) (h2 : 0 ≤ v2 ∧ v2 < 8) (h3 : 0 ≤ v3 ∧ v3 < 8) : kR mX6_add [jR 97, jI v1, jI v2, jI v3] s (fun r s' => ∃ y, r = some (jI y) ∧ ((40 ≤ s 97 3 ∧ y = -4 ∧ s' = s) ∨ (s 97 3 < 40 ∧ y = s 97 3 + 1 ∧ s' = w2 (w2 (w2 (w2 (w2 s 98 (s 97 3) v1) 99 (s 97 3) v2) 100 (s 97 3) v3) (102 + v2) v3 (s (102 + v2) v3 + 1)) 97 3 (s 97 3 + 1)))) := by
  exact g_X6_add ⟨⟨by omega, by omega⟩, fun c => ⟨⟨by omega, by omega⟩, h2, h3, _, rfl, Or.inr ⟨c, rfl, rfl⟩⟩, fun c => ⟨_, rfl, Or.inl ⟨by omega, rfl, rfl⟩⟩⟩
theorem g_X4_add {s : Int → Int → Int} {Q : Option jV → (Int → Int → Int) → Prop} {v1 v2 v3 v4 v5 : Int} (v : (jr32 (s 124 3) ∧ (((s 124 3) < 6 → ((0 ≤ (s 124 3) ∧ (s 124 3) < 6) ∧ Q (some (jI (s 124 3))) (w2 (w2 (w2 (w2 (w2 (w2 s 125 (s 124 3) v1) (127 + (s 124 3)) 0 v2) (127 + (s 124 3)) 1 v3) (127 + (s 124 3)) 2 v4) (127 + (s 124 3)) 3 v5) 124 3 ((s 124 3) + 1)))) ∧ (¬ ((s 124 3) < 6) → Q (some (jI (-4))) s)))) : kR mX4_add [jR 124, jI v1, jI v2, jI v3, jI v4, jI v5] s Q := by
  show kK mX4_add 0 [jR 124, jI v1, jI v2, jI v3, jI v4, jI v5] [] s Q
  obtain ⟨a1, v⟩ := v
  refine k_aload_n dX4_add_0 rfl ?_
  refine k_geti 3 dX4_add_1 fl_X4_28 sh_124 (by decide) rfl rfl ?_
  refine k_bipush dX4_add_4 rfl ?_
  obtain ⟨vt, vf⟩ := v
  refine k_icmp_lt 12 dX4_add_6 rfl a1 (by decide) (fun c2 => ?_) (fun c2 => ?_)
  · have v := vt c2
    obtain ⟨a3, v⟩ := v
    refine k_aload_n dX4_add_12 rfl ?_
    refine k_getr dX4_add_13 fl_X4_9 sh_124 (by decide) rfl ?_
    refine k_aload_n dX4_add_16 rfl ?_
    refine k_geti 3 dX4_add_17 fl_X4_28 sh_124 (by decide) rfl rfl ?_
    refine k_iload_n dX4_add_20 rfl ?_
    refine k_iast 6 dX4_add_21 sh_125 (by decide) rfl (by decide) a3 ?_
    refine k_aload_n dX4_add_22 rfl ?_
    refine k_getr dX4_add_23 fl_X4_17 sh_124 (by decide) rfl ?_
    refine k_aload_n dX4_add_26 rfl ?_
    refine k_geti 3 dX4_add_27 fl_X4_28 sh_124 (by decide) rfl rfl ?_
    rw [show ((w2 s 125 (s 124 3) v1) 124 3) = (s 124 3) from by rw [w2_k (by omega)]]
    refine k_aald 6 dX4_add_30 sh_126 (Or.inl rfl) (by decide) rfl (by decide) rfl a3 ?_
    refine k_iconst dX4_add_31 ?_
    refine k_iload_n dX4_add_32 rfl ?_
    refine k_iast 4 dX4_add_33 (sr_126 (s 124 3) a3) ⟨by have := a3; omega, by have := a3; omega⟩ rfl (by decide) (by decide) ?_
    refine k_aload_n dX4_add_34 rfl ?_
    refine k_getr dX4_add_35 fl_X4_17 sh_124 (by decide) rfl ?_
    refine k_aload_n dX4_add_38 rfl ?_
    refine k_geti 3 dX4_add_39 fl_X4_28 sh_124 (by decide) rfl rfl ?_
    rw [show ((w2 (w2 s 125 (s 124 3) v1) (127 + (s 124 3)) 0 v2) 124 3) = (s 124 3) from by rw [w2_k (by omega), w2_k (by omega)]]
    refine k_aald 6 dX4_add_42 sh_126 (Or.inl rfl) (by decide) rfl (by decide) rfl a3 ?_
    refine k_iconst dX4_add_43 ?_
    refine k_iload_n dX4_add_44 rfl ?_
    refine k_iast 4 dX4_add_45 (sr_126 (s 124 3) a3) ⟨by have := a3; omega, by have := a3; omega⟩ rfl (by decide) (by decide) ?_
    refine k_aload_n dX4_add_46 rfl ?_
    refine k_getr dX4_add_47 fl_X4_17 sh_124 (by decide) rfl ?_
    refine k_aload_n dX4_add_50 rfl ?_
    refine k_geti 3 dX4_add_51 fl_X4_28 sh_124 (by decide) rfl rfl ?_
    rw [show ((w2 (w2 (w2 s 125 (s 124 3) v1) (127 + (s 124 3)) 0 v2) (127 + (s 124 3)) 1 v3) 124 3) = (s 124 3) from by rw [w2_k (by omega), w2_k (by omega), w2_k (by omega)]]
    refine k_aald 6 dX4_add_54 sh_126 (Or.inl rfl) (by decide) rfl (by decide) rfl a3 ?_
    refine k_iconst dX4_add_55 ?_
    refine k_iload dX4_add_56 rfl ?_
    refine k_iast 4 dX4_add_58 (sr_126 (s 124 3) a3) ⟨by have := a3; omega, by have := a3; omega⟩ rfl (by decide) (by decide) ?_
    refine k_aload_n dX4_add_59 rfl ?_
    refine k_getr dX4_add_60 fl_X4_17 sh_124 (by decide) rfl ?_
    refine k_aload_n dX4_add_63 rfl ?_
    refine k_geti 3 dX4_add_64 fl_X4_28 sh_124 (by decide) rfl rfl ?_
    rw [show ((w2 (w2 (w2 (w2 s 125 (s 124 3) v1) (127 + (s 124 3)) 0 v2) (127 + (s 124 3)) 1 v3) (127 + (s 124 3)) 2 v4) 124 3) = (s 124 3) from by rw [w2_k (by omega), w2_k (by omega), w2_k (by omega), w2_k (by omega)]]
    refine k_aald 6 dX4_add_67 sh_126 (Or.inl rfl) (by decide) rfl (by decide) rfl a3 ?_
    refine k_iconst dX4_add_68 ?_
    refine k_iload dX4_add_69 rfl ?_
    refine k_iast 4 dX4_add_71 (sr_126 (s 124 3) a3) ⟨by have := a3; omega, by have := a3; omega⟩ rfl (by decide) (by decide) ?_
    refine k_aload_n dX4_add_72 rfl ?_
    refine k_dup dX4_add_73 rfl ?_
    refine k_geti 3 dX4_add_74 fl_X4_28 sh_124 (by decide) rfl rfl ?_
    rw [show ((w2 (w2 (w2 (w2 (w2 s 125 (s 124 3) v1) (127 + (s 124 3)) 0 v2) (127 + (s 124 3)) 1 v3) (127 + (s 124 3)) 2 v4) (127 + (s 124 3)) 3 v5) 124 3) = (s 124 3) from by rw [w2_k (by omega), w2_k (by omega), w2_k (by omega), w2_k (by omega), w2_k (by omega)]]
    refine k_dup_x1 dX4_add_77 rfl ?_
    refine k_iconst dX4_add_78 ?_
    refine k_iadd dX4_add_79 ?_
    refine k_put 3 dX4_add_80 ct_X4 (by decide) fw_X4_28 rfl rfl sh_124 (by decide) rfl rfl ?_
    exact k_ireturn (st := []) dX4_add_83 rfl v
  · have v := vf c2
    refine k_bipush dX4_add_9 rfl ?_
    exact k_ireturn (st := []) dX4_add_11 rfl v
theorem sp_X4_add (s : Int → Int → Int) (v1 v2 v3 v4 v5 : Int) (hn : 0 ≤ s 124 3 ∧ s 124 3 ≤ 6) : kR mX4_add [jR 124, jI v1, jI v2, jI v3, jI v4, jI v5] s (fun r s' => ∃ y, r = some (jI y) ∧ ((6 ≤ s 124 3 ∧ y = -4 ∧ s' = s) ∨ (s 124 3 < 6 ∧ y = s 124 3 ∧ s' = w2 (w2 (w2 (w2 (w2 (w2 s 125 (s 124 3) v1) (127 + s 124 3) 0 v2) (127 + s 124 3) 1 v3) (127 + s 124 3) 2 v4) (127 + s 124 3) 3 v5) 124 3 (s 124 3 + 1)))) := by
  refine g_X4_add ⟨⟨by omega, by omega⟩, fun c => ?_, fun c => ⟨_, rfl, Or.inl ⟨by omega, rfl, rfl⟩⟩⟩
  exact ⟨⟨by omega, by omega⟩, _, rfl, Or.inr ⟨c, rfl, rfl⟩⟩
theorem g_X10_said {s : Int → Int → Int} {Q : Option jV → (Int → Int → Int) → Prop} {v1 v2 v3 : Int} (v : (jr32 v1 ∧ (WC s) ∧ ((¬ (0 ≤ v1 ∧ v1 ≤ s 2 11 - 1) → Q (some (jI (-2))) s) ∧ (0 ≤ v1 ∧ v1 ≤ s 2 11 - 1 → (jr32 v2 ∧ ((¬ (0 ≤ v2 ∧ v2 ≤ s 2 12 - 1) → Q (some (jI (-2))) s) ∧ (0 ≤ v2 ∧ v2 ≤ s 2 12 - 1 → (jr32 v3 ∧ ((¬ (0 ≤ v3 ∧ v3 ≤ s 2 12 - 1) → Q (some (jI (-2))) s) ∧ (0 ≤ v3 ∧ v3 ≤ s 2 12 - 1 → ((v2 ≠ v3 → ((0 ≤ s 97 3 ∧ s 97 3 ≤ 40) ∧ (0 ≤ v2 ∧ v2 < 8) ∧ (0 ≤ v3 ∧ v3 < 8) ∧ (∀ (y12 : Int) (s13 : Int → Int → Int), ((40 ≤ s 97 3 ∧ y12 = -4 ∧ s13 = s) ∨ (s 97 3 < 40 ∧ y12 = s 97 3 + 1 ∧ s13 = w2 (w2 (w2 (w2 (w2 s 98 (s 97 3) v1) 99 (s 97 3) v2) 100 (s 97 3) v3) (102 + v2) v3 (s (102 + v2) v3 + 1)) 97 3 (s 97 3 + 1))) → Q (some (jI y12)) s13))) ∧ (v2 = v3 → Q (some (jI (-2))) s)))))))))))) : kR mX10_said [jR 1, jI v1, jI v2, jI v3] s Q := by
  show kK mX10_said 0 [jR 1, jI v1, jI v2, jI v3] [] s Q
  obtain ⟨a1, a2, v⟩ := v
  refine k_aload_n dX10_said_0 rfl ?_
  refine k_iload_n dX10_said_1 rfl ?_
  refine k_invV [jI v1] [] dX10_said_2 cm_X10_isHand ml_X10_100 im_X10_isHand se_X10_isHand rfl sh_1 (by decide) rfl rfl (sp_X10_isHand s v1 a1 a2) ?_
  obtain ⟨vt, vf⟩ := v
  refine k_ifb_eq 29 dX10_said_5 rfl (fun c3 => ?_) (fun c3 => ?_)
  · have v := vt c3
    refine k_bipush dX10_said_29 rfl ?_
    exact k_ireturn (st := []) dX10_said_31 rfl v
  · have v := vf c3
    obtain ⟨a4, v⟩ := v
    refine k_aload_n dX10_said_8 rfl ?_
    refine k_iload_n dX10_said_9 rfl ?_
    refine k_invV [jI v2] [] dX10_said_10 cm_X10_isPupil ml_X10_110 im_X10_isPupil se_X10_isPupil rfl sh_1 (by decide) rfl rfl (sp_X10_isPupil s v2 a4 a2) ?_
    obtain ⟨vt, vf⟩ := v
    refine k_ifb_eq 29 dX10_said_13 rfl (fun c5 => ?_) (fun c5 => ?_)
    · have v := vt c5
      refine k_bipush dX10_said_29 rfl ?_
      exact k_ireturn (st := []) dX10_said_31 rfl v
    · have v := vf c5
      obtain ⟨a6, v⟩ := v
      refine k_aload_n dX10_said_16 rfl ?_
      refine k_iload_n dX10_said_17 rfl ?_
      refine k_invV [jI v3] [] dX10_said_18 cm_X10_isPupil ml_X10_110 im_X10_isPupil se_X10_isPupil rfl sh_1 (by decide) rfl rfl (sp_X10_isPupil s v3 a6 a2) ?_
      obtain ⟨vt, vf⟩ := v
      refine k_ifb_eq 29 dX10_said_21 rfl (fun c7 => ?_) (fun c7 => ?_)
      · have v := vt c7
        refine k_bipush dX10_said_29 rfl ?_
        exact k_ireturn (st := []) dX10_said_31 rfl v
      · have v := vf c7
        refine k_iload_n dX10_said_24 rfl ?_
        refine k_iload_n dX10_said_25 rfl ?_
        obtain ⟨vt, vf⟩ := v
        refine k_icmp_ne 32 dX10_said_26 rfl a4 a6 (fun c8 => ?_) (fun c8 => ?_)
        · have v := vt c8
          obtain ⟨a9, a10, a11, v⟩ := v
          refine k_aload_n dX10_said_32 rfl ?_
          refine k_getr dX10_said_33 fl_X10_61 sh_1 (by decide) rfl ?_
          refine k_iload_n dX10_said_36 rfl ?_
          refine k_iload_n dX10_said_37 rfl ?_
          refine k_iload_n dX10_said_38 rfl ?_
          refine k_invVR [jI v1, jI v2, jI v3] [] dX10_said_39 cm_X6_add ml_X10_241 im_X6_add se_X6_add rfl sh_97 (by decide) rfl rfl (sp_X6_add s v1 v2 v3 a9 a10 a11) (fun _ s13 q14 => ?_)
          obtain ⟨y12, rfl, q14⟩ := q14
          have v := v y12 s13 q14
          exact k_ireturn (st := []) dX10_said_42 rfl v
        · have v := vf c8
          refine k_bipush dX10_said_29 rfl ?_
          exact k_ireturn (st := []) dX10_said_31 rfl v
theorem g_X10_kin {s : Int → Int → Int} {Q : Option jV → (Int → Int → Int) → Prop} {v1 v2 : Int} (v : (jr32 v1 ∧ ((¬ (0 ≤ v1 ∧ v1 ≤ 5) → Q (some (jI (-2))) s) ∧ (0 ≤ v1 ∧ v1 ≤ 5 → (jr32 v2 ∧ ((0 ≤ v2 ∧ v2 ≤ 63 → ((0 ≤ v1 ∧ v1 < 6) ∧ Q (some (jI (s 121 v1))) (w2 s 121 v1 v2))) ∧ (¬ (0 ≤ v2 ∧ v2 ≤ 63) → Q (some (jI (-2))) s))))))) : kR mX10_kin [jR 1, jI v1, jI v2] s Q := by
  show kK mX10_kin 0 [jR 1, jI v1, jI v2, jU] [] s Q
  obtain ⟨a1, v⟩ := v
  refine k_iload_n dX10_kin_0 rfl ?_
  refine k_iconst dX10_kin_1 ?_
  refine k_iconst dX10_kin_2 ?_
  refine k_invS [jI v1, jI 0, jI 5] [] dX10_kin_3 cm_X10_within ml_X10_92 st_X10_within rfl rfl (sp_X10_within s v1 0 5 a1 (by decide) (by decide)) ?_
  obtain ⟨vt, vf⟩ := v
  refine k_ifb_eq 19 dX10_kin_6 rfl (fun c2 => ?_) (fun c2 => ?_)
  · have v := vt c2
    refine k_bipush dX10_kin_19 rfl ?_
    exact k_ireturn (st := []) dX10_kin_21 rfl v
  · have v := vf c2
    obtain ⟨a3, v⟩ := v
    refine k_iload_n dX10_kin_9 rfl ?_
    refine k_iconst dX10_kin_10 ?_
    refine k_bipush dX10_kin_11 rfl ?_
    refine k_invS [jI v2, jI 0, jI 63] [] dX10_kin_13 cm_X10_within ml_X10_92 st_X10_within rfl rfl (sp_X10_within s v2 0 63 a3 (by decide) (by decide)) ?_
    obtain ⟨vt, vf⟩ := v
    refine k_ifb_ne 22 dX10_kin_16 rfl (fun c4 => ?_) (fun c4 => ?_)
    · have v := vt c4
      obtain ⟨a5, v⟩ := v
      refine k_aload_n dX10_kin_22 rfl ?_
      refine k_getr dX10_kin_23 fl_X10_68 sh_1 (by decide) rfl ?_
      refine k_getr dX10_kin_26 fl_X10_253 sh_120 (by decide) rfl ?_
      refine k_iload_n dX10_kin_29 rfl ?_
      refine k_iald 6 dX10_kin_30 sh_121 (by decide) rfl (by decide) a5 ?_
      refine k_istore_n [jR 1, jI v1, jI v2, jI (s 121 v1)] dX10_kin_31 rfl rfl ?_
      refine k_aload_n dX10_kin_32 rfl ?_
      refine k_getr dX10_kin_33 fl_X10_68 sh_1 (by decide) rfl ?_
      refine k_getr dX10_kin_36 fl_X10_253 sh_120 (by decide) rfl ?_
      refine k_iload_n dX10_kin_39 rfl ?_
      refine k_iload_n dX10_kin_40 rfl ?_
      refine k_iast 6 dX10_kin_41 sh_121 (by decide) rfl (by decide) a5 ?_
      refine k_iload_n dX10_kin_42 rfl ?_
      exact k_ireturn (st := []) dX10_kin_43 rfl v
    · have v := vf c4
      refine k_bipush dX10_kin_19 rfl ?_
      exact k_ireturn (st := []) dX10_kin_21 rfl v
theorem g_X10_question {s : Int → Int → Int} {Q : Option jV → (Int → Int → Int) → Prop} {v1 v2 v3 v4 v5 : Int} (v : (jr32 v1 ∧ ((¬ (1 ≤ v1 ∧ v1 ≤ 30) → Q (some (jI (-2))) s) ∧ (1 ≤ v1 ∧ v1 ≤ 30 → (jr32 v2 ∧ ((¬ (0 ≤ v2 ∧ v2 ≤ 100) → Q (some (jI (-2))) s) ∧ (0 ≤ v2 ∧ v2 ≤ 100 → (jr32 v3 ∧ ((¬ (0 ≤ v3 ∧ v3 ≤ 100) → Q (some (jI (-2))) s) ∧ (0 ≤ v3 ∧ v3 ≤ 100 → (jr32 v4 ∧ ((¬ (0 ≤ v4 ∧ v4 ≤ 100) → Q (some (jI (-2))) s) ∧ (0 ≤ v4 ∧ v4 ≤ 100 → (jr32 v5 ∧ ((0 ≤ v5 ∧ v5 ≤ 100 → ((0 ≤ s 124 3 ∧ s 124 3 ≤ 6) ∧ (∀ (y12 : Int) (s13 : Int → Int → Int), ((6 ≤ s 124 3 ∧ y12 = -4 ∧ s13 = s) ∨ (s 124 3 < 6 ∧ y12 = s 124 3 ∧ s13 = w2 (w2 (w2 (w2 (w2 (w2 s 125 (s 124 3) v1) (127 + s 124 3) 0 v2) (127 + s 124 3) 1 v3) (127 + s 124 3) 2 v4) (127 + s 124 3) 3 v5) 124 3 (s 124 3 + 1))) → Q (some (jI y12)) s13))) ∧ (¬ (0 ≤ v5 ∧ v5 ≤ 100) → Q (some (jI (-2))) s)))))))))))))))) : kR mX10_question [jR 1, jI v1, jI v2, jI v3, jI v4, jI v5] s Q := by
  show kK mX10_question 0 [jR 1, jI v1, jI v2, jI v3, jI v4, jI v5] [] s Q
  obtain ⟨a1, v⟩ := v
  refine k_iload_n dX10_question_0 rfl ?_
  refine k_iconst dX10_question_1 ?_
  refine k_bipush dX10_question_2 rfl ?_
  refine k_invS [jI v1, jI 1, jI 30] [] dX10_question_4 cm_X10_within ml_X10_92 st_X10_within rfl rfl (sp_X10_within s v1 1 30 a1 (by decide) (by decide)) ?_
  obtain ⟨vt, vf⟩ := v
  refine k_ifb_eq 40 dX10_question_7 rfl (fun c2 => ?_) (fun c2 => ?_)
  · have v := vt c2
    refine k_bipush dX10_question_40 rfl ?_
    exact k_ireturn (st := []) dX10_question_42 rfl v
  · have v := vf c2
    obtain ⟨a3, v⟩ := v
    refine k_iload_n dX10_question_10 rfl ?_
    refine k_invS [jI v2] [] dX10_question_11 cm_X10_isPercent ml_X10_270 st_X10_isPercent rfl rfl (sp_X10_isPercent s v2 a3) ?_
    obtain ⟨vt, vf⟩ := v
    refine k_ifb_eq 40 dX10_question_14 rfl (fun c4 => ?_) (fun c4 => ?_)
    · have v := vt c4
      refine k_bipush dX10_question_40 rfl ?_
      exact k_ireturn (st := []) dX10_question_42 rfl v
    · have v := vf c4
      obtain ⟨a5, v⟩ := v
      refine k_iload_n dX10_question_17 rfl ?_
      refine k_invS [jI v3] [] dX10_question_18 cm_X10_isPercent ml_X10_270 st_X10_isPercent rfl rfl (sp_X10_isPercent s v3 a5) ?_
      obtain ⟨vt, vf⟩ := v
      refine k_ifb_eq 40 dX10_question_21 rfl (fun c6 => ?_) (fun c6 => ?_)
      · have v := vt c6
        refine k_bipush dX10_question_40 rfl ?_
        exact k_ireturn (st := []) dX10_question_42 rfl v
      · have v := vf c6
        obtain ⟨a7, v⟩ := v
        refine k_iload dX10_question_24 rfl ?_
        refine k_invS [jI v4] [] dX10_question_26 cm_X10_isPercent ml_X10_270 st_X10_isPercent rfl rfl (sp_X10_isPercent s v4 a7) ?_
        obtain ⟨vt, vf⟩ := v
        refine k_ifb_eq 40 dX10_question_29 rfl (fun c8 => ?_) (fun c8 => ?_)
        · have v := vt c8
          refine k_bipush dX10_question_40 rfl ?_
          exact k_ireturn (st := []) dX10_question_42 rfl v
        · have v := vf c8
          obtain ⟨a9, v⟩ := v
          refine k_iload dX10_question_32 rfl ?_
          refine k_invS [jI v5] [] dX10_question_34 cm_X10_isPercent ml_X10_270 st_X10_isPercent rfl rfl (sp_X10_isPercent s v5 a9) ?_
          obtain ⟨vt, vf⟩ := v
          refine k_ifb_ne 43 dX10_question_37 rfl (fun c10 => ?_) (fun c10 => ?_)
          · have v := vt c10
            obtain ⟨a11, v⟩ := v
            refine k_aload_n dX10_question_43 rfl ?_
            refine k_getr dX10_question_44 fl_X10_77 sh_1 (by decide) rfl ?_
            refine k_iload_n dX10_question_47 rfl ?_
            refine k_iload_n dX10_question_48 rfl ?_
            refine k_iload_n dX10_question_49 rfl ?_
            refine k_iload dX10_question_50 rfl ?_
            refine k_iload dX10_question_52 rfl ?_
            refine k_invVR [jI v1, jI v2, jI v3, jI v4, jI v5] [] dX10_question_54 cm_X4_add ml_X10_273 im_X4_add se_X4_add rfl sh_124 (by decide) rfl rfl (sp_X4_add s v1 v2 v3 v4 v5 a11) (fun _ s13 q14 => ?_)
            obtain ⟨y12, rfl, q14⟩ := q14
            have v := v y12 s13 q14
            exact k_ireturn (st := []) dX10_question_57 rfl v
          · have v := vf c10
            refine k_bipush dX10_question_40 rfl ?_
            exact k_ireturn (st := []) dX10_question_42 rfl v
theorem g_X10_count {s : Int → Int → Int} {Q : Option jV → (Int → Int → Int) → Prop} {v1 : Int} (v : (jr32 v1 ∧ ((v1 = 0 → Q (some (jI (s 2 10))) s) ∧ (v1 = 1 → Q (some (jI (s 2 11))) s) ∧ (v1 = 2 → Q (some (jI (s 2 12))) s) ∧ (v1 = 3 → Q (some (jI (s 2 13))) s) ∧ (v1 = 4 → Q (some (jI (s 97 3))) s) ∧ (v1 = 5 → Q (some (jI (s 124 3))) s) ∧ ((v1 < 0 ∨ 5 < v1) → Q (some (jI (-2))) s)))) : kR mX10_count [jR 1, jI v1] s Q := by
  show kK mX10_count 0 [jR 1, jI v1] [] s Q
  obtain ⟨a1, v⟩ := v
  refine k_iload_n dX10_count_0 rfl ?_
  obtain ⟨w3, w4, w5, w6, w7, w8, w9⟩ := v
  rcases (show v1 = 0 ∨ v1 = 1 ∨ v1 = 2 ∨ v1 = 3 ∨ v1 = 4 ∨ v1 = 5 ∨ (v1 < 0 ∨ 5 < v1) by omega) with c2 | c2 | c2 | c2 | c2 | c2 | c2
  · refine k_tswC 0 40 dX10_count_1 a1 (by omega) (by decide) rfl rfl ?_
    have v := w3 c2
    refine k_aload_n dX10_count_40 rfl ?_
    refine k_getr dX10_count_41 fl_X10_10 sh_1 (by decide) rfl ?_
    refine k_geti 10 dX10_count_44 fl_X10_176 sh_2 (by decide) rfl rfl ?_
    exact k_ireturn (st := []) dX10_count_47 rfl v
  · refine k_tswC 1 48 dX10_count_1 a1 (by omega) (by decide) rfl rfl ?_
    have v := w4 c2
    refine k_aload_n dX10_count_48 rfl ?_
    refine k_getr dX10_count_49 fl_X10_10 sh_1 (by decide) rfl ?_
    refine k_geti 11 dX10_count_52 fl_X10_301 sh_2 (by decide) rfl rfl ?_
    exact k_ireturn (st := []) dX10_count_55 rfl v
  · refine k_tswC 2 56 dX10_count_1 a1 (by omega) (by decide) rfl rfl ?_
    have v := w5 c2
    refine k_aload_n dX10_count_56 rfl ?_
    refine k_getr dX10_count_57 fl_X10_10 sh_1 (by decide) rfl ?_
    refine k_geti 12 dX10_count_60 fl_X10_244 sh_2 (by decide) rfl rfl ?_
    exact k_ireturn (st := []) dX10_count_63 rfl v
  · refine k_tswC 3 64 dX10_count_1 a1 (by omega) (by decide) rfl rfl ?_
    have v := w6 c2
    refine k_aload_n dX10_count_64 rfl ?_
    refine k_getr dX10_count_65 fl_X10_10 sh_1 (by decide) rfl ?_
    refine k_geti 13 dX10_count_68 fl_X10_256 sh_2 (by decide) rfl rfl ?_
    exact k_ireturn (st := []) dX10_count_71 rfl v
  · refine k_tswC 4 72 dX10_count_1 a1 (by omega) (by decide) rfl rfl ?_
    have v := w7 c2
    refine k_aload_n dX10_count_72 rfl ?_
    refine k_getr dX10_count_73 fl_X10_61 sh_1 (by decide) rfl ?_
    refine k_geti 3 dX10_count_76 fl_X10_304 sh_97 (by decide) rfl rfl ?_
    exact k_ireturn (st := []) dX10_count_79 rfl v
  · refine k_tswC 5 80 dX10_count_1 a1 (by omega) (by decide) rfl rfl ?_
    have v := w8 c2
    refine k_aload_n dX10_count_80 rfl ?_
    refine k_getr dX10_count_81 fl_X10_77 sh_1 (by decide) rfl ?_
    refine k_geti 3 dX10_count_84 fl_X10_276 sh_124 (by decide) rfl rfl ?_
    exact k_ireturn (st := []) dX10_count_87 rfl v
  · refine k_tswD 88 dX10_count_1 a1 c2 rfl ?_
    have v := w9 c2
    refine k_bipush dX10_count_88 rfl ?_
    exact k_ireturn (st := []) dX10_count_90 rfl v
theorem g_X10_sign {s : Int → Int → Int} {Q : Option jV → (Int → Int → Int) → Prop} {v1 : Int} (v : (jr32 v1 ∧ ((0 ≤ v1 ∧ v1 ≤ 2 → ((v1 ≠ 0 → ((v1 ≠ 1 → Q (some (jI (s 141 1))) s) ∧ (v1 = 1 → Q (some (jI (s 139 1))) s))) ∧ (v1 = 0 → (jr32 (s 139 1) ∧ (((s 139 1) ≠ 0 → Q (some (jI 1)) s) ∧ ((s 139 1) = 0 → Q (some (jI 0)) s)))))) ∧ (¬ (0 ≤ v1 ∧ v1 ≤ 2) → Q (some (jI (-2))) s)))) : kR mX10_sign [jR 1, jI v1] s Q := by
  show kK mX10_sign 0 [jR 1, jI v1] [] s Q
  obtain ⟨a1, v⟩ := v
  refine k_iload_n dX10_sign_0 rfl ?_
  refine k_iconst dX10_sign_1 ?_
  refine k_iconst dX10_sign_2 ?_
  refine k_invS [jI v1, jI 0, jI 2] [] dX10_sign_3 cm_X10_within ml_X10_92 st_X10_within rfl rfl (sp_X10_within s v1 0 2 a1 (by decide) (by decide)) ?_
  obtain ⟨vt, vf⟩ := v
  refine k_ifb_ne 12 dX10_sign_6 rfl (fun c2 => ?_) (fun c2 => ?_)
  · have v := vt c2
    refine k_iload_n dX10_sign_12 rfl ?_
    obtain ⟨vt, vf⟩ := v
    refine k_if_ne 35 dX10_sign_13 rfl a1 (fun c3 => ?_) (fun c3 => ?_)
    · have v := vt c3
      refine k_iload_n dX10_sign_35 rfl ?_
      refine k_iconst dX10_sign_36 ?_
      obtain ⟨vt, vf⟩ := v
      refine k_icmp_ne 53 dX10_sign_37 rfl a1 (by decide) (fun c4 => ?_) (fun c4 => ?_)
      · have v := vt c4
        refine k_aload_n dX10_sign_53 rfl ?_
        refine k_getr dX10_sign_54 fl_X10_84 sh_1 (by decide) rfl ?_
        refine k_getr dX10_sign_57 fl_X10_295 sh_138 (by decide) rfl ?_
        refine k_geti 1 dX10_sign_60 fl_X10_292 sh_141 (by decide) rfl rfl ?_
        exact k_ireturn (st := []) dX10_sign_63 rfl v
      · have v := vf c4
        refine k_aload_n dX10_sign_40 rfl ?_
        refine k_getr dX10_sign_41 fl_X10_84 sh_1 (by decide) rfl ?_
        refine k_getr dX10_sign_44 fl_X10_289 sh_138 (by decide) rfl ?_
        refine k_geti 1 dX10_sign_47 fl_X10_292 sh_139 (by decide) rfl rfl ?_
        refine k_goto 63 dX10_sign_50 rfl ?_
        exact k_ireturn (st := []) dX10_sign_63 rfl v
    · have v := vf c3
      obtain ⟨a5, v⟩ := v
      refine k_aload_n dX10_sign_16 rfl ?_
      refine k_getr dX10_sign_17 fl_X10_84 sh_1 (by decide) rfl ?_
      refine k_getr dX10_sign_20 fl_X10_289 sh_138 (by decide) rfl ?_
      refine k_geti 1 dX10_sign_23 fl_X10_292 sh_139 (by decide) rfl rfl ?_
      obtain ⟨vt, vf⟩ := v
      refine k_if_ne 33 dX10_sign_26 rfl a5 (fun c6 => ?_) (fun c6 => ?_)
      · have v := vt c6
        refine k_iconst dX10_sign_33 ?_
        exact k_ireturn (st := []) dX10_sign_34 rfl v
      · have v := vf c6
        refine k_iconst dX10_sign_29 ?_
        refine k_goto 34 dX10_sign_30 rfl ?_
        exact k_ireturn (st := []) dX10_sign_34 rfl v
  · have v := vf c2
    refine k_bipush dX10_sign_9 rfl ?_
    exact k_ireturn (st := []) dX10_sign_11 rfl v
theorem g_X10_limb {s : Int → Int → Int} {Q : Option jV → (Int → Int → Int) → Prop} {v1 v2 : Int} (v : (jr32 v1 ∧ ((¬ (0 ≤ v1 ∧ v1 ≤ 1) → Q (some (jI (-2))) s) ∧ (0 ≤ v1 ∧ v1 ≤ 1 → (jr32 v2 ∧ ((0 ≤ v2 → ((v1 ≠ 0 → (jr32 (s 141 1) ∧ (((s 141 1) ≤ v2 → Q (some (jI (-1))) s) ∧ (¬ ((s 141 1) ≤ v2) → ((0 ≤ v2 ∧ v2 < 16) ∧ Q (some (jI (s 142 v2))) s))))) ∧ (v1 = 0 → (jr32 (s 139 1) ∧ (((s 139 1) ≤ v2 → Q (some (jI (-1))) s) ∧ (¬ ((s 139 1) ≤ v2) → ((0 ≤ v2 ∧ v2 < 16) ∧ Q (some (jI (s 140 v2))) s))))))) ∧ (¬ (0 ≤ v2) → Q (some (jI (-2))) s))))))) : kR mX10_limb [jR 1, jI v1, jI v2] s Q := by
  show kK mX10_limb 0 [jR 1, jI v1, jI v2, jU] [] s Q
  obtain ⟨a1, v⟩ := v
  refine k_iload_n dX10_limb_0 rfl ?_
  refine k_iconst dX10_limb_1 ?_
  refine k_iconst dX10_limb_2 ?_
  refine k_invS [jI v1, jI 0, jI 1] [] dX10_limb_3 cm_X10_within ml_X10_92 st_X10_within rfl rfl (sp_X10_within s v1 0 1 a1 (by decide) (by decide)) ?_
  obtain ⟨vt, vf⟩ := v
  refine k_ifb_eq 13 dX10_limb_6 rfl (fun c2 => ?_) (fun c2 => ?_)
  · have v := vt c2
    refine k_bipush dX10_limb_13 rfl ?_
    exact k_ireturn (st := []) dX10_limb_15 rfl v
  · have v := vf c2
    obtain ⟨a3, v⟩ := v
    refine k_iload_n dX10_limb_9 rfl ?_
    obtain ⟨vt, vf⟩ := v
    refine k_if_ge 16 dX10_limb_10 rfl a3 (fun c4 => ?_) (fun c4 => ?_)
    · have v := vt c4
      refine k_iload_n dX10_limb_16 rfl ?_
      obtain ⟨vt, vf⟩ := v
      refine k_if_ne 30 dX10_limb_17 rfl a1 (fun c5 => ?_) (fun c5 => ?_)
      · have v := vt c5
        obtain ⟨a6, v⟩ := v
        refine k_aload_n dX10_limb_30 rfl ?_
        refine k_getr dX10_limb_31 fl_X10_84 sh_1 (by decide) rfl ?_
        refine k_getr dX10_limb_34 fl_X10_295 sh_138 (by decide) rfl ?_
        refine k_astore_n [jR 1, jI v1, jI v2, jR 141] dX10_limb_37 rfl rfl ?_
        refine k_iload_n dX10_limb_38 rfl ?_
        refine k_aload_n dX10_limb_39 rfl ?_
        refine k_geti 1 dX10_limb_40 fl_X10_292 sh_141 (by decide) rfl rfl ?_
        obtain ⟨vt, vf⟩ := v
        refine k_icmp_ge 55 dX10_limb_43 rfl a3 a6 (fun c7 => ?_) (fun c7 => ?_)
        · have v := vt c7
          refine k_iconst dX10_limb_55 ?_
          exact k_ireturn (st := []) dX10_limb_56 rfl v
        · have v := vf c7
          obtain ⟨a8, v⟩ := v
          refine k_aload_n dX10_limb_46 rfl ?_
          refine k_getr dX10_limb_47 fl_X10_298 sh_141 (by decide) rfl ?_
          refine k_iload_n dX10_limb_50 rfl ?_
          refine k_iald 16 dX10_limb_51 sh_142 (by decide) rfl (by decide) a8 ?_
          refine k_goto 56 dX10_limb_52 rfl ?_
          exact k_ireturn (st := []) dX10_limb_56 rfl v
      · have v := vf c5
        obtain ⟨a9, v⟩ := v
        refine k_aload_n dX10_limb_20 rfl ?_
        refine k_getr dX10_limb_21 fl_X10_84 sh_1 (by decide) rfl ?_
        refine k_getr dX10_limb_24 fl_X10_289 sh_138 (by decide) rfl ?_
        refine k_goto 37 dX10_limb_27 rfl ?_
        refine k_astore_n [jR 1, jI v1, jI v2, jR 139] dX10_limb_37 rfl rfl ?_
        refine k_iload_n dX10_limb_38 rfl ?_
        refine k_aload_n dX10_limb_39 rfl ?_
        refine k_geti 1 dX10_limb_40 fl_X10_292 sh_139 (by decide) rfl rfl ?_
        obtain ⟨vt, vf⟩ := v
        refine k_icmp_ge 55 dX10_limb_43 rfl a3 a9 (fun c10 => ?_) (fun c10 => ?_)
        · have v := vt c10
          refine k_iconst dX10_limb_55 ?_
          exact k_ireturn (st := []) dX10_limb_56 rfl v
        · have v := vf c10
          obtain ⟨a11, v⟩ := v
          refine k_aload_n dX10_limb_46 rfl ?_
          refine k_getr dX10_limb_47 fl_X10_298 sh_139 (by decide) rfl ?_
          refine k_iload_n dX10_limb_50 rfl ?_
          refine k_iald 16 dX10_limb_51 sh_140 (by decide) rfl (by decide) a11 ?_
          refine k_goto 56 dX10_limb_52 rfl ?_
          exact k_ireturn (st := []) dX10_limb_56 rfl v
    · have v := vf c4
      refine k_bipush dX10_limb_13 rfl ?_
      exact k_ireturn (st := []) dX10_limb_15 rfl v
theorem sp_X10_said (s : Int → Int → Int) (v1 v2 v3 : Int) (h1 : jr32 v1) (h2 : jr32 v2) (h3 : jr32 v3) (hw : WC s) (hn : 0 ≤ s 97 3 ∧ s 97 3 ≤ 40) : kR mX10_said [jR 1, jI v1, jI v2, jI v3] s (fun r s' => ∃ y, r = some (jI y) ∧ jg3 ((0 ≤ v1 ∧ v1 ≤ s 2 11 - 1) ∧ (0 ≤ v2 ∧ v2 ≤ s 2 12 - 1) ∧ (0 ≤ v3 ∧ v3 ≤ s 2 12 - 1) ∧ v2 ≠ v3) (40 ≤ s 97 3) (-2) (s 97 3 + 1) s (w2 (w2 (w2 (w2 (w2 s 98 (s 97 3) v1) 99 (s 97 3) v2) 100 (s 97 3) v3) (102 + v2) v3 (s (102 + v2) v3 + 1)) 97 3 (s 97 3 + 1)) y s') := by
  have hP := hw.2.2.1
  exact g_X10_said ⟨h1, hw, fun c => ⟨_, rfl, Or.inl ⟨fun q => c q.1, rfl, rfl⟩⟩, fun c => ⟨h2, fun c2 => ⟨_, rfl, Or.inl ⟨fun q => c2 q.2.1, rfl, rfl⟩⟩, fun c2 => ⟨h3, fun c3 => ⟨_, rfl, Or.inl ⟨fun q => c3 q.2.2.1, rfl, rfl⟩⟩, fun c3 => ⟨fun c4 => ⟨hn, ⟨by omega, by omega⟩, ⟨by omega, by omega⟩, fun y s9 q => ⟨_, rfl, q.elim (fun q => Or.inr (Or.inl ⟨⟨c, c2, c3, c4⟩, q⟩)) (fun q => Or.inr (Or.inr ⟨⟨c, c2, c3, c4⟩, by omega, q.2⟩))⟩⟩, fun c4 => ⟨_, rfl, Or.inl ⟨fun q => q.2.2.2 c4, rfl, rfl⟩⟩⟩⟩⟩⟩
theorem sp_X10_kin (s : Int → Int → Int) (v1 v2 : Int) (h1 : jr32 v1) (h2 : jr32 v2) : kR mX10_kin [jR 1, jI v1, jI v2] s (fun r s' => ∃ y, r = some (jI y) ∧ jg3 ((0 ≤ v1 ∧ v1 ≤ 5) ∧ (0 ≤ v2 ∧ v2 ≤ 63)) False (-2) (s 121 v1) s (w2 s 121 v1 v2) y s') :=
  g_X10_kin ⟨h1, fun c => ⟨_, rfl, Or.inl ⟨fun q => c q.1, rfl, rfl⟩⟩, fun c => ⟨h2, fun c2 => ⟨⟨by omega, by omega⟩, _, rfl, Or.inr (Or.inr ⟨⟨c, c2⟩, id, rfl, rfl⟩)⟩, fun c2 => ⟨_, rfl, Or.inl ⟨fun q => c2 q.2, rfl, rfl⟩⟩⟩⟩
theorem sp_X10_question (s : Int → Int → Int) (v1 v2 v3 v4 v5 : Int) (h1 : jr32 v1) (h2 : jr32 v2) (h3 : jr32 v3) (h4 : jr32 v4) (h5 : jr32 v5) (hn : 0 ≤ s 124 3 ∧ s 124 3 ≤ 6) : kR mX10_question [jR 1, jI v1, jI v2, jI v3, jI v4, jI v5] s (fun r s' => ∃ y, r = some (jI y) ∧ jg3 ((1 ≤ v1 ∧ v1 ≤ 30) ∧ (0 ≤ v2 ∧ v2 ≤ 100) ∧ (0 ≤ v3 ∧ v3 ≤ 100) ∧ (0 ≤ v4 ∧ v4 ≤ 100) ∧ (0 ≤ v5 ∧ v5 ≤ 100)) (6 ≤ s 124 3) (-2) (s 124 3) s (w2 (w2 (w2 (w2 (w2 (w2 s 125 (s 124 3) v1) (127 + s 124 3) 0 v2) (127 + s 124 3) 1 v3) (127 + s 124 3) 2 v4) (127 + s 124 3) 3 v5) 124 3 (s 124 3 + 1)) y s') :=
  g_X10_question ⟨h1, fun c => ⟨_, rfl, Or.inl ⟨fun q => c q.1, rfl, rfl⟩⟩, fun c => ⟨h2, fun c2 => ⟨_, rfl, Or.inl ⟨fun q => c2 q.2.1, rfl, rfl⟩⟩, fun c2 => ⟨h3, fun c3 => ⟨_, rfl, Or.inl ⟨fun q => c3 q.2.2.1, rfl, rfl⟩⟩, fun c3 => ⟨h4, fun c4 => ⟨_, rfl, Or.inl ⟨fun q => c4 q.2.2.2.1, rfl, rfl⟩⟩, fun c4 => ⟨h5, fun c5 => ⟨hn, fun y s9 q => ⟨_, rfl, q.elim (fun q => Or.inr (Or.inl ⟨⟨c, c2, c3, c4, c5⟩, q⟩)) (fun q => Or.inr (Or.inr ⟨⟨c, c2, c3, c4, c5⟩, by omega, q.2⟩))⟩⟩, fun c5 => ⟨_, rfl, Or.inl ⟨fun q => c5 q.2.2.2.2, rfl, rfl⟩⟩⟩⟩⟩⟩⟩
