theorem g_X10_within {s : Int → Int → Int} {Q : Option jV → (Int → Int → Int) → Prop} {v0 v1 v2 : Int} (v : (jr32 v0 ∧ jr32 v1 ∧ ((v0 < v1 → Q (some (jI 0)) s) ∧ (¬ (v0 < v1) → (jr32 v2 ∧ ((v2 < v0 → Q (some (jI 0)) s) ∧ (¬ (v2 < v0) → Q (some (jI 1)) s))))))) : kR mX10_within [jI v0, jI v1, jI v2] s Q := by
  show kK mX10_within 0 [jI v0, jI v1, jI v2] [] s Q
  obtain ⟨a1, a2, v⟩ := v
  refine k_iload_n dX10_within_0 rfl ?_
  refine k_iload_n dX10_within_1 rfl ?_
  obtain ⟨vt, vf⟩ := v
  refine k_icmp_lt 14 dX10_within_2 rfl a1 a2 (fun c3 => ?_) (fun c3 => ?_)
  · have v := vt c3
    refine k_iconst dX10_within_14 ?_
    exact k_zreturn (st := []) dX10_within_15 rfl (Or.inl rfl) v
  · have v := vf c3
    obtain ⟨a4, v⟩ := v
    refine k_iload_n dX10_within_5 rfl ?_
    refine k_iload_n dX10_within_6 rfl ?_
    obtain ⟨vt, vf⟩ := v
    refine k_icmp_gt 14 dX10_within_7 rfl a1 a4 (fun c5 => ?_) (fun c5 => ?_)
    · have v := vt c5
      refine k_iconst dX10_within_14 ?_
      exact k_zreturn (st := []) dX10_within_15 rfl (Or.inl rfl) v
    · have v := vf c5
      refine k_iconst dX10_within_10 ?_
      refine k_goto 15 dX10_within_11 rfl ?_
      exact k_zreturn (st := []) dX10_within_15 rfl (Or.inr rfl) v
theorem sp_X10_within (s : Int → Int → Int) (n lo hi : Int) (h0 : jr32 n) (h1 : jr32 lo) (h2 : jr32 hi) : kM mX10_within [jI n, jI lo, jI hi] s (some (jI (jbo (lo ≤ n ∧ n ≤ hi)))) s :=
  g_X10_within ⟨h0, h1, fun c => ⟨jbf0 (by omega), rfl⟩, fun c => ⟨h2, fun c2 => ⟨jbf0 (by omega), rfl⟩, fun c2 => ⟨jbf1 ⟨by omega, by omega⟩, rfl⟩⟩⟩
theorem g_X10_isRank {s : Int → Int → Int} {Q : Option jV → (Int → Int → Int) → Prop} {v0 : Int} (v : (jr32 v0 ∧ Q (some (jI (jbo (0 ≤ v0 ∧ v0 ≤ 9)))) s)) : kR mX10_isRank [jI v0] s Q := by
  show kK mX10_isRank 0 [jI v0] [] s Q
  obtain ⟨a1, v⟩ := v
  refine k_iload_n dX10_isRank_0 rfl ?_
  refine k_iconst dX10_isRank_1 ?_
  refine k_bipush dX10_isRank_2 rfl ?_
  refine k_invS [jI v0, jI 0, jI 9] [] dX10_isRank_4 cm_X10_within ml_X10_92 st_X10_within rfl rfl (sp_X10_within s v0 0 9 a1 (by decide) (by decide)) ?_
  exact k_zreturn (st := []) dX10_isRank_7 rfl (jbo_01 _) v
theorem sp_X10_isRank (s : Int → Int → Int) (v0 : Int) (h : jr32 v0) : kM mX10_isRank [jI v0] s (some (jI (jbo (0 ≤ v0 ∧ v0 ≤ 9)))) s := g_X10_isRank ⟨h, rfl, rfl⟩
theorem g_X10_isYear {s : Int → Int → Int} {Q : Option jV → (Int → Int → Int) → Prop} {v0 : Int} (v : (jr32 v0 ∧ Q (some (jI (jbo (0 ≤ v0 ∧ v0 ≤ 39)))) s)) : kR mX10_isYear [jI v0] s Q := by
  show kK mX10_isYear 0 [jI v0] [] s Q
  obtain ⟨a1, v⟩ := v
  refine k_iload_n dX10_isYear_0 rfl ?_
  refine k_iconst dX10_isYear_1 ?_
  refine k_bipush dX10_isYear_2 rfl ?_
  refine k_invS [jI v0, jI 0, jI 39] [] dX10_isYear_4 cm_X10_within ml_X10_92 st_X10_within rfl rfl (sp_X10_within s v0 0 39 a1 (by decide) (by decide)) ?_
  exact k_zreturn (st := []) dX10_isYear_7 rfl (jbo_01 _) v
theorem sp_X10_isYear (s : Int → Int → Int) (v0 : Int) (h : jr32 v0) : kM mX10_isYear [jI v0] s (some (jI (jbo (0 ≤ v0 ∧ v0 ≤ 39)))) s := g_X10_isYear ⟨h, rfl, rfl⟩
theorem g_X10_isGift {s : Int → Int → Int} {Q : Option jV → (Int → Int → Int) → Prop} {v0 : Int} (v : (jr32 v0 ∧ Q (some (jI (jbo (0 ≤ v0 ∧ v0 ≤ 3)))) s)) : kR mX10_isGift [jI v0] s Q := by
  show kK mX10_isGift 0 [jI v0] [] s Q
  obtain ⟨a1, v⟩ := v
  refine k_iload_n dX10_isGift_0 rfl ?_
  refine k_iconst dX10_isGift_1 ?_
  refine k_iconst dX10_isGift_2 ?_
  refine k_invS [jI v0, jI 0, jI 3] [] dX10_isGift_3 cm_X10_within ml_X10_92 st_X10_within rfl rfl (sp_X10_within s v0 0 3 a1 (by decide) (by decide)) ?_
  exact k_zreturn (st := []) dX10_isGift_6 rfl (jbo_01 _) v
theorem sp_X10_isGift (s : Int → Int → Int) (v0 : Int) (h : jr32 v0) : kM mX10_isGift [jI v0] s (some (jI (jbo (0 ≤ v0 ∧ v0 ≤ 3)))) s := g_X10_isGift ⟨h, rfl, rfl⟩
theorem g_X10_isPercent {s : Int → Int → Int} {Q : Option jV → (Int → Int → Int) → Prop} {v0 : Int} (v : (jr32 v0 ∧ Q (some (jI (jbo (0 ≤ v0 ∧ v0 ≤ 100)))) s)) : kR mX10_isPercent [jI v0] s Q := by
  show kK mX10_isPercent 0 [jI v0] [] s Q
  obtain ⟨a1, v⟩ := v
  refine k_iload_n dX10_isPercent_0 rfl ?_
  refine k_iconst dX10_isPercent_1 ?_
  refine k_bipush dX10_isPercent_2 rfl ?_
  refine k_invS [jI v0, jI 0, jI 100] [] dX10_isPercent_4 cm_X10_within ml_X10_92 st_X10_within rfl rfl (sp_X10_within s v0 0 100 a1 (by decide) (by decide)) ?_
  exact k_zreturn (st := []) dX10_isPercent_7 rfl (jbo_01 _) v
theorem sp_X10_isPercent (s : Int → Int → Int) (v0 : Int) (h : jr32 v0) : kM mX10_isPercent [jI v0] s (some (jI (jbo (0 ≤ v0 ∧ v0 ≤ 100)))) s := g_X10_isPercent ⟨h, rfl, rfl⟩
theorem g_X10_isWord {s : Int → Int → Int} {Q : Option jV → (Int → Int → Int) → Prop} {v1 : Int} (v : (jr32 v1 ∧ jr32 ((s 2 10) - 1) ∧ Q (some (jI (jbo (0 ≤ v1 ∧ v1 ≤ ((s 2 10) - 1))))) s)) : kR mX10_isWord [jR 1, jI v1] s Q := by
  show kK mX10_isWord 0 [jR 1, jI v1] [] s Q
  obtain ⟨a1, a2, v⟩ := v
  refine k_iload_n dX10_isWord_0 rfl ?_
  refine k_iconst dX10_isWord_1 ?_
  refine k_aload_n dX10_isWord_2 rfl ?_
  refine k_getr dX10_isWord_3 fl_X10_10 sh_1 (by decide) rfl ?_
  refine k_geti 10 dX10_isWord_6 fl_X10_176 sh_2 (by decide) rfl rfl ?_
  refine k_iconst dX10_isWord_9 ?_
  refine k_isub dX10_isWord_10 ?_
  refine k_invS [jI v1, jI 0, jI ((s 2 10) - 1)] [] dX10_isWord_11 cm_X10_within ml_X10_92 st_X10_within rfl rfl (sp_X10_within s v1 0 ((s 2 10) - 1) a1 (by decide) a2) ?_
  exact k_zreturn (st := []) dX10_isWord_14 rfl (jbo_01 _) v
theorem sp_X10_isWord (s : Int → Int → Int) (v1 : Int) (h : jr32 v1) (hw : WC s) : kM mX10_isWord [jR 1, jI v1] s (some (jI (jbo (0 ≤ v1 ∧ v1 ≤ s 2 10 - 1)))) s := by
  obtain ⟨a1, a2, a3, a4, -⟩ := hw
  exact g_X10_isWord ⟨h, ⟨by omega, by omega⟩, rfl, rfl⟩
theorem g_X10_isHand {s : Int → Int → Int} {Q : Option jV → (Int → Int → Int) → Prop} {v1 : Int} (v : (jr32 v1 ∧ jr32 ((s 2 11) - 1) ∧ Q (some (jI (jbo (0 ≤ v1 ∧ v1 ≤ ((s 2 11) - 1))))) s)) : kR mX10_isHand [jR 1, jI v1] s Q := by
  show kK mX10_isHand 0 [jR 1, jI v1] [] s Q
  obtain ⟨a1, a2, v⟩ := v
  refine k_iload_n dX10_isHand_0 rfl ?_
  refine k_iconst dX10_isHand_1 ?_
  refine k_aload_n dX10_isHand_2 rfl ?_
  refine k_getr dX10_isHand_3 fl_X10_10 sh_1 (by decide) rfl ?_
  refine k_geti 11 dX10_isHand_6 fl_X10_301 sh_2 (by decide) rfl rfl ?_
  refine k_iconst dX10_isHand_9 ?_
  refine k_isub dX10_isHand_10 ?_
  refine k_invS [jI v1, jI 0, jI ((s 2 11) - 1)] [] dX10_isHand_11 cm_X10_within ml_X10_92 st_X10_within rfl rfl (sp_X10_within s v1 0 ((s 2 11) - 1) a1 (by decide) a2) ?_
  exact k_zreturn (st := []) dX10_isHand_14 rfl (jbo_01 _) v
theorem sp_X10_isHand (s : Int → Int → Int) (v1 : Int) (h : jr32 v1) (hw : WC s) : kM mX10_isHand [jR 1, jI v1] s (some (jI (jbo (0 ≤ v1 ∧ v1 ≤ s 2 11 - 1)))) s := by
  obtain ⟨a1, a2, a3, a4, -⟩ := hw
  exact g_X10_isHand ⟨h, ⟨by omega, by omega⟩, rfl, rfl⟩
theorem g_X10_isPupil {s : Int → Int → Int} {Q : Option jV → (Int → Int → Int) → Prop} {v1 : Int} (v : (jr32 v1 ∧ jr32 ((s 2 12) - 1) ∧ Q (some (jI (jbo (0 ≤ v1 ∧ v1 ≤ ((s 2 12) - 1))))) s)) : kR mX10_isPupil [jR 1, jI v1] s Q := by
  show kK mX10_isPupil 0 [jR 1, jI v1] [] s Q
  obtain ⟨a1, a2, v⟩ := v
  refine k_iload_n dX10_isPupil_0 rfl ?_
  refine k_iconst dX10_isPupil_1 ?_
  refine k_aload_n dX10_isPupil_2 rfl ?_
  refine k_getr dX10_isPupil_3 fl_X10_10 sh_1 (by decide) rfl ?_
  refine k_geti 12 dX10_isPupil_6 fl_X10_244 sh_2 (by decide) rfl rfl ?_
  refine k_iconst dX10_isPupil_9 ?_
  refine k_isub dX10_isPupil_10 ?_
  refine k_invS [jI v1, jI 0, jI ((s 2 12) - 1)] [] dX10_isPupil_11 cm_X10_within ml_X10_92 st_X10_within rfl rfl (sp_X10_within s v1 0 ((s 2 12) - 1) a1 (by decide) a2) ?_
  exact k_zreturn (st := []) dX10_isPupil_14 rfl (jbo_01 _) v
theorem sp_X10_isPupil (s : Int → Int → Int) (v1 : Int) (h : jr32 v1) (hw : WC s) : kM mX10_isPupil [jR 1, jI v1] s (some (jI (jbo (0 ≤ v1 ∧ v1 ≤ s 2 12 - 1)))) s := by
  obtain ⟨a1, a2, a3, a4, -⟩ := hw
  exact g_X10_isPupil ⟨h, ⟨by omega, by omega⟩, rfl, rfl⟩
theorem g_X10_isLetter {s : Int → Int → Int} {Q : Option jV → (Int → Int → Int) → Prop} {v1 : Int} (v : (jr32 v1 ∧ jr32 ((s 2 13) - 1) ∧ Q (some (jI (jbo (0 ≤ v1 ∧ v1 ≤ ((s 2 13) - 1))))) s)) : kR mX10_isLetter [jR 1, jI v1] s Q := by
  show kK mX10_isLetter 0 [jR 1, jI v1] [] s Q
  obtain ⟨a1, a2, v⟩ := v
  refine k_iload_n dX10_isLetter_0 rfl ?_
  refine k_iconst dX10_isLetter_1 ?_
  refine k_aload_n dX10_isLetter_2 rfl ?_
  refine k_getr dX10_isLetter_3 fl_X10_10 sh_1 (by decide) rfl ?_
  refine k_geti 13 dX10_isLetter_6 fl_X10_256 sh_2 (by decide) rfl rfl ?_
  refine k_iconst dX10_isLetter_9 ?_
  refine k_isub dX10_isLetter_10 ?_
  refine k_invS [jI v1, jI 0, jI ((s 2 13) - 1)] [] dX10_isLetter_11 cm_X10_within ml_X10_92 st_X10_within rfl rfl (sp_X10_within s v1 0 ((s 2 13) - 1) a1 (by decide) a2) ?_
  exact k_zreturn (st := []) dX10_isLetter_14 rfl (jbo_01 _) v
theorem sp_X10_isLetter (s : Int → Int → Int) (v1 : Int) (h : jr32 v1) (hw : WC s) : kM mX10_isLetter [jR 1, jI v1] s (some (jI (jbo (0 ≤ v1 ∧ v1 ≤ s 2 13 - 1)))) s := by
  obtain ⟨a1, a2, a3, a4, -⟩ := hw
  exact g_X10_isLetter ⟨h, ⟨by omega, by omega⟩, rfl, rfl⟩
theorem g_X3_addWord {s : Int → Int → Int} {Q : Option jV → (Int → Int → Int) → Prop} {v1 v2 : Int} (v : (jr32 (s 2 10) ∧ (((s 2 10) < 8 → ((0 ≤ (s 2 10) ∧ (s 2 10) < 8) ∧ Q (some (jI (s 2 10))) (w2 (w2 (w2 s 3 (s 2 10) v1) 4 (s 2 10) v2) 2 10 ((s 2 10) + 1)))) ∧ (¬ ((s 2 10) < 8) → Q (some (jI (-4))) s)))) : kR mX3_addWord [jR 2, jI v1, jI v2] s Q := by
  show kK mX3_addWord 0 [jR 2, jI v1, jI v2] [] s Q
  obtain ⟨a1, v⟩ := v
  refine k_aload_n dX3_addWord_0 rfl ?_
  refine k_geti 10 dX3_addWord_1 fl_X3_44 sh_2 (by decide) rfl rfl ?_
  refine k_bipush dX3_addWord_4 rfl ?_
  obtain ⟨vt, vf⟩ := v
  refine k_icmp_lt 12 dX3_addWord_6 rfl a1 (by decide) (fun c2 => ?_) (fun c2 => ?_)
  · have v := vt c2
    obtain ⟨a3, v⟩ := v
    refine k_aload_n dX3_addWord_12 rfl ?_
    refine k_getr dX3_addWord_13 fl_X3_9 sh_2 (by decide) rfl ?_
    refine k_aload_n dX3_addWord_16 rfl ?_
    refine k_geti 10 dX3_addWord_17 fl_X3_44 sh_2 (by decide) rfl rfl ?_
    refine k_iload_n dX3_addWord_20 rfl ?_
    refine k_iast 8 dX3_addWord_21 sh_3 (by decide) rfl (by decide) a3 ?_
    refine k_aload_n dX3_addWord_22 rfl ?_
    refine k_getr dX3_addWord_23 fl_X3_15 sh_2 (by decide) rfl ?_
    refine k_aload_n dX3_addWord_26 rfl ?_
    refine k_geti 10 dX3_addWord_27 fl_X3_44 sh_2 (by decide) rfl rfl ?_
    rw [show ((w2 s 3 (s 2 10) v1) 2 10) = (s 2 10) from by rw [w2_k (by omega)]]
    refine k_iload_n dX3_addWord_30 rfl ?_
    refine k_iast 8 dX3_addWord_31 sh_4 (by decide) rfl (by decide) a3 ?_
    refine k_aload_n dX3_addWord_32 rfl ?_
    refine k_dup dX3_addWord_33 rfl ?_
    refine k_geti 10 dX3_addWord_34 fl_X3_44 sh_2 (by decide) rfl rfl ?_
    rw [show ((w2 (w2 s 3 (s 2 10) v1) 4 (s 2 10) v2) 2 10) = (s 2 10) from by rw [w2_k (by omega), w2_k (by omega)]]
    refine k_dup_x1 dX3_addWord_37 rfl ?_
    refine k_iconst dX3_addWord_38 ?_
    refine k_iadd dX3_addWord_39 ?_
    refine k_put 10 dX3_addWord_40 ct_X3 (by decide) fw_X3_44 rfl rfl sh_2 (by decide) rfl rfl ?_
    exact k_ireturn (st := []) dX3_addWord_43 rfl v
  · have v := vf c2
    refine k_bipush dX3_addWord_9 rfl ?_
    exact k_ireturn (st := []) dX3_addWord_11 rfl v
theorem g_X3_addHand {s : Int → Int → Int} {Q : Option jV → (Int → Int → Int) → Prop} {v1 : Int} (v : (jr32 (s 2 11) ∧ (((s 2 11) < 6 → ((0 ≤ (s 2 11) ∧ (s 2 11) < 6) ∧ Q (some (jI (s 2 11))) (w2 (w2 s 5 (s 2 11) v1) 2 11 ((s 2 11) + 1)))) ∧ (¬ ((s 2 11) < 6) → Q (some (jI (-4))) s)))) : kR mX3_addHand [jR 2, jI v1] s Q := by
  show kK mX3_addHand 0 [jR 2, jI v1] [] s Q
  obtain ⟨a1, v⟩ := v
  refine k_aload_n dX3_addHand_0 rfl ?_
  refine k_geti 11 dX3_addHand_1 fl_X3_48 sh_2 (by decide) rfl rfl ?_
  refine k_bipush dX3_addHand_4 rfl ?_
  obtain ⟨vt, vf⟩ := v
  refine k_icmp_lt 12 dX3_addHand_6 rfl a1 (by decide) (fun c2 => ?_) (fun c2 => ?_)
  · have v := vt c2
    obtain ⟨a3, v⟩ := v
    refine k_aload_n dX3_addHand_12 rfl ?_
    refine k_getr dX3_addHand_13 fl_X3_18 sh_2 (by decide) rfl ?_
    refine k_aload_n dX3_addHand_16 rfl ?_
    refine k_geti 11 dX3_addHand_17 fl_X3_48 sh_2 (by decide) rfl rfl ?_
    refine k_iload_n dX3_addHand_20 rfl ?_
    refine k_iast 6 dX3_addHand_21 sh_5 (by decide) rfl (by decide) a3 ?_
    refine k_aload_n dX3_addHand_22 rfl ?_
    refine k_dup dX3_addHand_23 rfl ?_
    refine k_geti 11 dX3_addHand_24 fl_X3_48 sh_2 (by decide) rfl rfl ?_
    rw [show ((w2 s 5 (s 2 11) v1) 2 11) = (s 2 11) from by rw [w2_k (by omega)]]
    refine k_dup_x1 dX3_addHand_27 rfl ?_
    refine k_iconst dX3_addHand_28 ?_
    refine k_iadd dX3_addHand_29 ?_
    refine k_put 11 dX3_addHand_30 ct_X3 (by decide) fw_X3_48 rfl rfl sh_2 (by decide) rfl rfl ?_
    exact k_ireturn (st := []) dX3_addHand_33 rfl v
  · have v := vf c2
    refine k_bipush dX3_addHand_9 rfl ?_
    exact k_ireturn (st := []) dX3_addHand_11 rfl v
theorem g_X3_addPupil {s : Int → Int → Int} {Q : Option jV → (Int → Int → Int) → Prop} {v1 v2 : Int} (v : (jr32 (s 2 12) ∧ (((s 2 12) < 8 → ((0 ≤ (s 2 12) ∧ (s 2 12) < 8) ∧ Q (some (jI (s 2 12))) (w2 (w2 (w2 s 6 (s 2 12) v1) 7 (s 2 12) v2) 2 12 ((s 2 12) + 1)))) ∧ (¬ ((s 2 12) < 8) → Q (some (jI (-4))) s)))) : kR mX3_addPupil [jR 2, jI v1, jI v2] s Q := by
  show kK mX3_addPupil 0 [jR 2, jI v1, jI v2] [] s Q
  obtain ⟨a1, v⟩ := v
  refine k_aload_n dX3_addPupil_0 rfl ?_
  refine k_geti 12 dX3_addPupil_1 fl_X3_51 sh_2 (by decide) rfl rfl ?_
  refine k_bipush dX3_addPupil_4 rfl ?_
  obtain ⟨vt, vf⟩ := v
  refine k_icmp_lt 12 dX3_addPupil_6 rfl a1 (by decide) (fun c2 => ?_) (fun c2 => ?_)
  · have v := vt c2
    obtain ⟨a3, v⟩ := v
    refine k_aload_n dX3_addPupil_12 rfl ?_
    refine k_getr dX3_addPupil_13 fl_X3_21 sh_2 (by decide) rfl ?_
    refine k_aload_n dX3_addPupil_16 rfl ?_
    refine k_geti 12 dX3_addPupil_17 fl_X3_51 sh_2 (by decide) rfl rfl ?_
    refine k_iload_n dX3_addPupil_20 rfl ?_
    refine k_iast 8 dX3_addPupil_21 sh_6 (by decide) rfl (by decide) a3 ?_
    refine k_aload_n dX3_addPupil_22 rfl ?_
    refine k_getr dX3_addPupil_23 fl_X3_24 sh_2 (by decide) rfl ?_
    refine k_aload_n dX3_addPupil_26 rfl ?_
    refine k_geti 12 dX3_addPupil_27 fl_X3_51 sh_2 (by decide) rfl rfl ?_
    rw [show ((w2 s 6 (s 2 12) v1) 2 12) = (s 2 12) from by rw [w2_k (by omega)]]
    refine k_iload_n dX3_addPupil_30 rfl ?_
    refine k_iast 8 dX3_addPupil_31 sh_7 (by decide) rfl (by decide) a3 ?_
    refine k_aload_n dX3_addPupil_32 rfl ?_
    refine k_dup dX3_addPupil_33 rfl ?_
    refine k_geti 12 dX3_addPupil_34 fl_X3_51 sh_2 (by decide) rfl rfl ?_
    rw [show ((w2 (w2 s 6 (s 2 12) v1) 7 (s 2 12) v2) 2 12) = (s 2 12) from by rw [w2_k (by omega), w2_k (by omega)]]
    refine k_dup_x1 dX3_addPupil_37 rfl ?_
    refine k_iconst dX3_addPupil_38 ?_
    refine k_iadd dX3_addPupil_39 ?_
    refine k_put 12 dX3_addPupil_40 ct_X3 (by decide) fw_X3_51 rfl rfl sh_2 (by decide) rfl rfl ?_
    exact k_ireturn (st := []) dX3_addPupil_43 rfl v
  · have v := vf c2
    refine k_bipush dX3_addPupil_9 rfl ?_
    exact k_ireturn (st := []) dX3_addPupil_11 rfl v
theorem g_X3_addLetter {s : Int → Int → Int} {Q : Option jV → (Int → Int → Int) → Prop} {v1 v2 v3 : Int} (v : (jr32 (s 2 13) ∧ (((s 2 13) < 30 → ((0 ≤ (s 2 13) ∧ (s 2 13) < 30) ∧ Q (some (jI (s 2 13))) (w2 (w2 (w2 (w2 s 8 (s 2 13) v1) 9 (s 2 13) v2) 10 (s 2 13) v3) 2 13 ((s 2 13) + 1)))) ∧ (¬ ((s 2 13) < 30) → Q (some (jI (-4))) s)))) : kR mX3_addLetter [jR 2, jI v1, jI v2, jI v3] s Q := by
  show kK mX3_addLetter 0 [jR 2, jI v1, jI v2, jI v3] [] s Q
  obtain ⟨a1, v⟩ := v
  refine k_aload_n dX3_addLetter_0 rfl ?_
  refine k_geti 13 dX3_addLetter_1 fl_X3_54 sh_2 (by decide) rfl rfl ?_
  refine k_bipush dX3_addLetter_4 rfl ?_
  obtain ⟨vt, vf⟩ := v
  refine k_icmp_lt 12 dX3_addLetter_6 rfl a1 (by decide) (fun c2 => ?_) (fun c2 => ?_)
  · have v := vt c2
    obtain ⟨a3, v⟩ := v
    refine k_aload_n dX3_addLetter_12 rfl ?_
    refine k_getr dX3_addLetter_13 fl_X3_27 sh_2 (by decide) rfl ?_
    refine k_aload_n dX3_addLetter_16 rfl ?_
    refine k_geti 13 dX3_addLetter_17 fl_X3_54 sh_2 (by decide) rfl rfl ?_
    refine k_iload_n dX3_addLetter_20 rfl ?_
    refine k_iast 30 dX3_addLetter_21 sh_8 (by decide) rfl (by decide) a3 ?_
    refine k_aload_n dX3_addLetter_22 rfl ?_
    refine k_getr dX3_addLetter_23 fl_X3_30 sh_2 (by decide) rfl ?_
    refine k_aload_n dX3_addLetter_26 rfl ?_
    refine k_geti 13 dX3_addLetter_27 fl_X3_54 sh_2 (by decide) rfl rfl ?_
    rw [show ((w2 s 8 (s 2 13) v1) 2 13) = (s 2 13) from by rw [w2_k (by omega)]]
    refine k_iload_n dX3_addLetter_30 rfl ?_
    refine k_iast 30 dX3_addLetter_31 sh_9 (by decide) rfl (by decide) a3 ?_
    refine k_aload_n dX3_addLetter_32 rfl ?_
    refine k_getr dX3_addLetter_33 fl_X3_33 sh_2 (by decide) rfl ?_
    refine k_aload_n dX3_addLetter_36 rfl ?_
    refine k_geti 13 dX3_addLetter_37 fl_X3_54 sh_2 (by decide) rfl rfl ?_
    rw [show ((w2 (w2 s 8 (s 2 13) v1) 9 (s 2 13) v2) 2 13) = (s 2 13) from by rw [w2_k (by omega), w2_k (by omega)]]
    refine k_iload_n dX3_addLetter_40 rfl ?_
    refine k_iast 30 dX3_addLetter_41 sh_10 (by decide) rfl (by decide) a3 ?_
    refine k_aload_n dX3_addLetter_42 rfl ?_
    refine k_dup dX3_addLetter_43 rfl ?_
    refine k_geti 13 dX3_addLetter_44 fl_X3_54 sh_2 (by decide) rfl rfl ?_
    rw [show ((w2 (w2 (w2 s 8 (s 2 13) v1) 9 (s 2 13) v2) 10 (s 2 13) v3) 2 13) = (s 2 13) from by rw [w2_k (by omega), w2_k (by omega), w2_k (by omega)]]
    refine k_dup_x1 dX3_addLetter_47 rfl ?_
    refine k_iconst dX3_addLetter_48 ?_
    refine k_iadd dX3_addLetter_49 ?_
    refine k_put 13 dX3_addLetter_50 ct_X3 (by decide) fw_X3_54 rfl rfl sh_2 (by decide) rfl rfl ?_
    exact k_ireturn (st := []) dX3_addLetter_53 rfl v
  · have v := vf c2
    refine k_bipush dX3_addLetter_9 rfl ?_
    exact k_ireturn (st := []) dX3_addLetter_11 rfl v
theorem g_X3_addToLetter {s : Int → Int → Int} {Q : Option jV → (Int → Int → Int) → Prop} {v1 v2 : Int} (v : ((0 ≤ v1 ∧ v1 < 30) ∧ jr32 (s 11 v1) ∧ (((s 11 v1) < 8 → ((0 ≤ (s 11 v1) ∧ (s 11 v1) < 8) ∧ Q (some (jI ((s 11 v1) + 1))) (w2 (w2 s (13 + v1) (s 11 v1) v2) 11 v1 ((s 11 v1) + 1)))) ∧ (¬ ((s 11 v1) < 8) → Q (some (jI (-4))) s)))) : kR mX3_addToLetter [jR 2, jI v1, jI v2] s Q := by
  show kK mX3_addToLetter 0 [jR 2, jI v1, jI v2] [] s Q
  obtain ⟨a1, a2, v⟩ := v
  refine k_aload_n dX3_addToLetter_0 rfl ?_
  refine k_getr dX3_addToLetter_1 fl_X3_36 sh_2 (by decide) rfl ?_
  refine k_iload_n dX3_addToLetter_4 rfl ?_
  refine k_iald 30 dX3_addToLetter_5 sh_11 (by decide) rfl (by decide) a1 ?_
  refine k_bipush dX3_addToLetter_6 rfl ?_
  obtain ⟨vt, vf⟩ := v
  refine k_icmp_lt 14 dX3_addToLetter_8 rfl a2 (by decide) (fun c3 => ?_) (fun c3 => ?_)
  · have v := vt c3
    obtain ⟨a4, v⟩ := v
    refine k_aload_n dX3_addToLetter_14 rfl ?_
    refine k_getr dX3_addToLetter_15 fl_X3_41 sh_2 (by decide) rfl ?_
    refine k_iload_n dX3_addToLetter_18 rfl ?_
    refine k_aald 30 dX3_addToLetter_19 sh_12 (Or.inl rfl) (by decide) rfl (by decide) rfl a1 ?_
    refine k_aload_n dX3_addToLetter_20 rfl ?_
    refine k_getr dX3_addToLetter_21 fl_X3_36 sh_2 (by decide) rfl ?_
    refine k_iload_n dX3_addToLetter_24 rfl ?_
    refine k_iald 30 dX3_addToLetter_25 sh_11 (by decide) rfl (by decide) a1 ?_
    refine k_iload_n dX3_addToLetter_26 rfl ?_
    refine k_iast 8 dX3_addToLetter_27 (sr_12 v1 a1) ⟨by have := a1; omega, by have := a1; omega⟩ rfl (by decide) a4 ?_
    refine k_aload_n dX3_addToLetter_28 rfl ?_
    refine k_getr dX3_addToLetter_29 fl_X3_36 sh_2 (by decide) rfl ?_
    refine k_iload_n dX3_addToLetter_32 rfl ?_
    refine k_dup2 dX3_addToLetter_33 rfl ?_
    refine k_iald 30 dX3_addToLetter_34 sh_11 (by decide) rfl (by decide) a1 ?_
    rw [show ((w2 s (13 + v1) (s 11 v1) v2) 11 v1) = (s 11 v1) from by rw [w2_k (by omega)]]
    refine k_iconst dX3_addToLetter_35 ?_
    refine k_iadd dX3_addToLetter_36 ?_
    refine k_iast 30 dX3_addToLetter_37 sh_11 (by decide) rfl (by decide) a1 ?_
    refine k_aload_n dX3_addToLetter_38 rfl ?_
    refine k_getr dX3_addToLetter_39 fl_X3_36 sh_2 (by decide) rfl ?_
    refine k_iload_n dX3_addToLetter_42 rfl ?_
    refine k_iald 30 dX3_addToLetter_43 sh_11 (by decide) rfl (by decide) a1 ?_
    rw [show ((w2 (w2 s (13 + v1) (s 11 v1) v2) 11 v1 ((s 11 v1) + 1)) 11 v1) = ((s 11 v1) + 1) from by rw [w2_s]]
    exact k_ireturn (st := []) dX3_addToLetter_44 rfl v
  · have v := vf c3
    refine k_bipush dX3_addToLetter_11 rfl ?_
    exact k_ireturn (st := []) dX3_addToLetter_13 rfl v
theorem sp_X3_addWord (s : Int → Int → Int) (v1 v2 : Int) (hw : WC s) : kR mX3_addWord [jR 2, jI v1, jI v2] s (fun r s' => ∃ y, r = some (jI y) ∧ ((8 ≤ s 2 10 ∧ y = -4 ∧ s' = s) ∨ (s 2 10 < 8 ∧ y = s 2 10 ∧ s' = w2 (w2 (w2 s 3 (s 2 10) v1) 4 (s 2 10) v2) 2 10 (s 2 10 + 1)))) := by
  obtain ⟨a1, -⟩ := hw
  exact g_X3_addWord ⟨⟨by omega, by omega⟩, fun c => ⟨⟨by omega, by omega⟩, _, rfl, Or.inr ⟨c, rfl, rfl⟩⟩, fun c => ⟨_, rfl, Or.inl ⟨by omega, rfl, rfl⟩⟩⟩
theorem sp_X3_addHand (s : Int → Int → Int) (v1 : Int) (hw : WC s) : kR mX3_addHand [jR 2, jI v1] s (fun r s' => ∃ y, r = some (jI y) ∧ ((6 ≤ s 2 11 ∧ y = -4 ∧ s' = s) ∨ (s 2 11 < 6 ∧ y = s 2 11 ∧ s' = w2 (w2 s 5 (s 2 11) v1) 2 11 (s 2 11 + 1)))) := by
  obtain ⟨-, a1, -⟩ := hw
  exact g_X3_addHand ⟨⟨by omega, by omega⟩, fun c => ⟨⟨by omega, by omega⟩, _, rfl, Or.inr ⟨c, rfl, rfl⟩⟩, fun c => ⟨_, rfl, Or.inl ⟨by omega, rfl, rfl⟩⟩⟩
theorem sp_X3_addPupil (s : Int → Int → Int) (v1 v2 : Int) (hw : WC s) : kR mX3_addPupil [jR 2, jI v1, jI v2] s (fun r s' => ∃ y, r = some (jI y) ∧ ((8 ≤ s 2 12 ∧ y = -4 ∧ s' = s) ∨ (s 2 12 < 8 ∧ y = s 2 12 ∧ s' = w2 (w2 (w2 s 6 (s 2 12) v1) 7 (s 2 12) v2) 2 12 (s 2 12 + 1)))) := by
  obtain ⟨-, -, a1, -⟩ := hw
  exact g_X3_addPupil ⟨⟨by omega, by omega⟩, fun c => ⟨⟨by omega, by omega⟩, _, rfl, Or.inr ⟨c, rfl, rfl⟩⟩, fun c => ⟨_, rfl, Or.inl ⟨by omega, rfl, rfl⟩⟩⟩
theorem sp_X3_addLetter (s : Int → Int → Int) (v1 v2 v3 : Int) (hw : WC s) : kR mX3_addLetter [jR 2, jI v1, jI v2, jI v3] s (fun r s' => ∃ y, r = some (jI y) ∧ ((30 ≤ s 2 13 ∧ y = -4 ∧ s' = s) ∨ (s 2 13 < 30 ∧ y = s 2 13 ∧ s' = w2 (w2 (w2 (w2 s 8 (s 2 13) v1) 9 (s 2 13) v2) 10 (s 2 13) v3) 2 13 (s 2 13 + 1)))) := by
  obtain ⟨-, -, -, a1, -⟩ := hw
  exact g_X3_addLetter ⟨⟨by omega, by omega⟩, fun c => ⟨⟨by omega, by omega⟩, _, rfl, Or.inr ⟨c, rfl, rfl⟩⟩, fun c => ⟨_, rfl, Or.inl ⟨by omega, rfl, rfl⟩⟩⟩
theorem sp_X3_addToLetter (s : Int → Int → Int) (v1 v2 : Int) (hw : WC s) (h : 0 ≤ v1 ∧ v1 < s 2 13) : kR mX3_addToLetter [jR 2, jI v1, jI v2] s (fun r s' => ∃ y, r = some (jI y) ∧ ((8 ≤ s 11 v1 ∧ y = -4 ∧ s' = s) ∨ (s 11 v1 < 8 ∧ y = s 11 v1 + 1 ∧ s' = w2 (w2 s (13 + v1) (s 11 v1) v2) 11 v1 (s 11 v1 + 1)))) := by
  obtain ⟨-, -, -, a1, -, -, -, -, -, -, -, -, a2, -⟩ := hw
  have a3 := a2 v1 h.1 h.2
  have e : w2 s (13 + v1) (s 11 v1) v2 11 v1 = s 11 v1 := by rw [w2_k (by omega)]
  exact g_X3_addToLetter ⟨⟨by omega, by omega⟩, ⟨by omega, by omega⟩, fun c => ⟨⟨by omega, by omega⟩, _, rfl, Or.inr ⟨c, rfl, rfl⟩⟩, fun c => ⟨_, rfl, Or.inl ⟨by omega, rfl, rfl⟩⟩⟩
theorem g_X10_word {s : Int → Int → Int} {Q : Option jV → (Int → Int → Int) → Prop} {v1 v2 : Int} (v : (jr32 v1 ∧ ((¬ (0 ≤ v1 ∧ v1 ≤ 9) → Q (some (jI (-2))) s) ∧ (0 ≤ v1 ∧ v1 ≤ 9 → (jr32 v2 ∧ ((0 ≤ v2 ∧ v2 ≤ 2 → ((WC s) ∧ (∀ (y6 : Int) (s7 : Int → Int → Int), ((8 ≤ s 2 10 ∧ y6 = -4 ∧ s7 = s) ∨ (s 2 10 < 8 ∧ y6 = s 2 10 ∧ s7 = w2 (w2 (w2 s 3 (s 2 10) v1) 4 (s 2 10) v2) 2 10 (s 2 10 + 1))) → Q (some (jI y6)) s7))) ∧ (¬ (0 ≤ v2 ∧ v2 ≤ 2) → Q (some (jI (-2))) s))))))) : kR mX10_word [jR 1, jI v1, jI v2] s Q := by
  show kK mX10_word 0 [jR 1, jI v1, jI v2] [] s Q
  obtain ⟨a1, v⟩ := v
  refine k_iload_n dX10_word_0 rfl ?_
  refine k_invS [jI v1] [] dX10_word_1 cm_X10_isRank ml_X10_88 st_X10_isRank rfl rfl (sp_X10_isRank s v1 a1) ?_
  obtain ⟨vt, vf⟩ := v
  refine k_ifb_eq 16 dX10_word_4 rfl (fun c2 => ?_) (fun c2 => ?_)
  · have v := vt c2
    refine k_bipush dX10_word_16 rfl ?_
    exact k_ireturn (st := []) dX10_word_18 rfl v
  · have v := vf c2
    obtain ⟨a3, v⟩ := v
    refine k_iload_n dX10_word_7 rfl ?_
    refine k_iconst dX10_word_8 ?_
    refine k_iconst dX10_word_9 ?_
    refine k_invS [jI v2, jI 0, jI 2] [] dX10_word_10 cm_X10_within ml_X10_92 st_X10_within rfl rfl (sp_X10_within s v2 0 2 a3 (by decide) (by decide)) ?_
    obtain ⟨vt, vf⟩ := v
    refine k_ifb_ne 19 dX10_word_13 rfl (fun c4 => ?_) (fun c4 => ?_)
    · have v := vt c4
      obtain ⟨a5, v⟩ := v
      refine k_aload_n dX10_word_19 rfl ?_
      refine k_getr dX10_word_20 fl_X10_10 sh_1 (by decide) rfl ?_
      refine k_iload_n dX10_word_23 rfl ?_
      refine k_iload_n dX10_word_24 rfl ?_
      refine k_invVR [jI v1, jI v2] [] dX10_word_25 cm_X3_addWord ml_X10_96 im_X3_addWord se_X3_addWord rfl sh_2 (by decide) rfl rfl (sp_X3_addWord s v1 v2 a5) (fun _ s7 q8 => ?_)
      obtain ⟨y6, rfl, q8⟩ := q8
      have v := v y6 s7 q8
      exact k_ireturn (st := []) dX10_word_28 rfl v
    · have v := vf c4
      refine k_bipush dX10_word_16 rfl ?_
      exact k_ireturn (st := []) dX10_word_18 rfl v
theorem g_X10_hand {s : Int → Int → Int} {Q : Option jV → (Int → Int → Int) → Prop} {v1 : Int} (v : (jr32 v1 ∧ ((v1 = (-1) → ((WC s) ∧ (∀ (y4 : Int) (s5 : Int → Int → Int), ((6 ≤ s 2 11 ∧ y4 = -4 ∧ s5 = s) ∨ (s 2 11 < 6 ∧ y4 = s 2 11 ∧ s5 = w2 (w2 s 5 (s 2 11) v1) 2 11 (s 2 11 + 1))) → Q (some (jI y4)) s5))) ∧ (¬ (v1 = (-1)) → ((WC s) ∧ ((0 ≤ v1 ∧ v1 ≤ s 2 11 - 1 → (∀ (y9 : Int) (s10 : Int → Int → Int), ((6 ≤ s 2 11 ∧ y9 = -4 ∧ s10 = s) ∨ (s 2 11 < 6 ∧ y9 = s 2 11 ∧ s10 = w2 (w2 s 5 (s 2 11) v1) 2 11 (s 2 11 + 1))) → Q (some (jI y9)) s10)) ∧ (¬ (0 ≤ v1 ∧ v1 ≤ s 2 11 - 1) → Q (some (jI (-2))) s))))))) : kR mX10_hand [jR 1, jI v1] s Q := by
  show kK mX10_hand 0 [jR 1, jI v1] [] s Q
  obtain ⟨a1, v⟩ := v
  refine k_iload_n dX10_hand_0 rfl ?_
  refine k_iconst dX10_hand_1 ?_
  obtain ⟨vt, vf⟩ := v
  refine k_icmp_eq 16 dX10_hand_2 rfl a1 (by decide) (fun c2 => ?_) (fun c2 => ?_)
  · have v := vt c2
    obtain ⟨a3, v⟩ := v
    refine k_aload_n dX10_hand_16 rfl ?_
    refine k_getr dX10_hand_17 fl_X10_10 sh_1 (by decide) rfl ?_
    refine k_iload_n dX10_hand_20 rfl ?_
    refine k_invVR [jI v1] [] dX10_hand_21 cm_X3_addHand ml_X10_103 im_X3_addHand se_X3_addHand rfl sh_2 (by decide) rfl rfl (sp_X3_addHand s v1 a3) (fun _ s5 q6 => ?_)
    obtain ⟨y4, rfl, q6⟩ := q6
    have v := v y4 s5 q6
    exact k_ireturn (st := []) dX10_hand_24 rfl v
  · have v := vf c2
    obtain ⟨a7, v⟩ := v
    refine k_aload_n dX10_hand_5 rfl ?_
    refine k_iload_n dX10_hand_6 rfl ?_
    refine k_invV [jI v1] [] dX10_hand_7 cm_X10_isHand ml_X10_100 im_X10_isHand se_X10_isHand rfl sh_1 (by decide) rfl rfl (sp_X10_isHand s v1 a1 a7) ?_
    obtain ⟨vt, vf⟩ := v
    refine k_ifb_ne 16 dX10_hand_10 rfl (fun c8 => ?_) (fun c8 => ?_)
    · have v := vt c8
      refine k_aload_n dX10_hand_16 rfl ?_
      refine k_getr dX10_hand_17 fl_X10_10 sh_1 (by decide) rfl ?_
      refine k_iload_n dX10_hand_20 rfl ?_
      refine k_invVR [jI v1] [] dX10_hand_21 cm_X3_addHand ml_X10_103 im_X3_addHand se_X3_addHand rfl sh_2 (by decide) rfl rfl (sp_X3_addHand s v1 a7) (fun _ s10 q11 => ?_)
      obtain ⟨y9, rfl, q11⟩ := q11
      have v := v y9 s10 q11
      exact k_ireturn (st := []) dX10_hand_24 rfl v
    · have v := vf c8
      refine k_bipush dX10_hand_13 rfl ?_
      exact k_ireturn (st := []) dX10_hand_15 rfl v
theorem g_X10_pupil {s : Int → Int → Int} {Q : Option jV → (Int → Int → Int) → Prop} {v1 v2 : Int} (v : (jr32 v1 ∧ ((¬ (1 ≤ v1 ∧ v1 ≤ 2) → Q (some (jI (-2))) s) ∧ (1 ≤ v1 ∧ v1 ≤ 2 → (jr32 v2 ∧ (((-1) ≤ v2 ∧ v2 ≤ 3 → ((WC s) ∧ (∀ (y6 : Int) (s7 : Int → Int → Int), ((8 ≤ s 2 12 ∧ y6 = -4 ∧ s7 = s) ∨ (s 2 12 < 8 ∧ y6 = s 2 12 ∧ s7 = w2 (w2 (w2 s 6 (s 2 12) v1) 7 (s 2 12) v2) 2 12 (s 2 12 + 1))) → Q (some (jI y6)) s7))) ∧ (¬ ((-1) ≤ v2 ∧ v2 ≤ 3) → Q (some (jI (-2))) s))))))) : kR mX10_pupil [jR 1, jI v1, jI v2] s Q := by
  show kK mX10_pupil 0 [jR 1, jI v1, jI v2] [] s Q
  obtain ⟨a1, v⟩ := v
  refine k_iload_n dX10_pupil_0 rfl ?_
  refine k_iconst dX10_pupil_1 ?_
  refine k_iconst dX10_pupil_2 ?_
  refine k_invS [jI v1, jI 1, jI 2] [] dX10_pupil_3 cm_X10_within ml_X10_92 st_X10_within rfl rfl (sp_X10_within s v1 1 2 a1 (by decide) (by decide)) ?_
  obtain ⟨vt, vf⟩ := v
  refine k_ifb_eq 18 dX10_pupil_6 rfl (fun c2 => ?_) (fun c2 => ?_)
  · have v := vt c2
    refine k_bipush dX10_pupil_18 rfl ?_
    exact k_ireturn (st := []) dX10_pupil_20 rfl v
  · have v := vf c2
    obtain ⟨a3, v⟩ := v
    refine k_iload_n dX10_pupil_9 rfl ?_
    refine k_iconst dX10_pupil_10 ?_
    refine k_iconst dX10_pupil_11 ?_
    refine k_invS [jI v2, jI (-1), jI 3] [] dX10_pupil_12 cm_X10_within ml_X10_92 st_X10_within rfl rfl (sp_X10_within s v2 (-1) 3 a3 (by decide) (by decide)) ?_
    obtain ⟨vt, vf⟩ := v
    refine k_ifb_ne 21 dX10_pupil_15 rfl (fun c4 => ?_) (fun c4 => ?_)
    · have v := vt c4
      obtain ⟨a5, v⟩ := v
      refine k_aload_n dX10_pupil_21 rfl ?_
      refine k_getr dX10_pupil_22 fl_X10_10 sh_1 (by decide) rfl ?_
      refine k_iload_n dX10_pupil_25 rfl ?_
      refine k_iload_n dX10_pupil_26 rfl ?_
      refine k_invVR [jI v1, jI v2] [] dX10_pupil_27 cm_X3_addPupil ml_X10_107 im_X3_addPupil se_X3_addPupil rfl sh_2 (by decide) rfl rfl (sp_X3_addPupil s v1 v2 a5) (fun _ s7 q8 => ?_)
      obtain ⟨y6, rfl, q8⟩ := q8
      have v := v y6 s7 q8
      exact k_ireturn (st := []) dX10_pupil_30 rfl v
    · have v := vf c4
      refine k_bipush dX10_pupil_18 rfl ?_
      exact k_ireturn (st := []) dX10_pupil_20 rfl v
theorem g_X10_became {s : Int → Int → Int} {Q : Option jV → (Int → Int → Int) → Prop} {v1 v2 : Int} (v : (jr32 v1 ∧ (WC s) ∧ ((¬ (0 ≤ v1 ∧ v1 ≤ s 2 12 - 1) → Q (some (jI (-10))) s) ∧ (0 ≤ v1 ∧ v1 ≤ s 2 12 - 1 → (jr32 v2 ∧ (((-1) ≤ v2 ∧ v2 ≤ 3 → ((0 ≤ v1 ∧ v1 < 8) ∧ Q (some (jI (s 7 v1))) (w2 s 7 v1 v2))) ∧ (¬ ((-1) ≤ v2 ∧ v2 ≤ 3) → Q (some (jI (-10))) s))))))) : kR mX10_became [jR 1, jI v1, jI v2] s Q := by
  show kK mX10_became 0 [jR 1, jI v1, jI v2, jU] [] s Q
  obtain ⟨a1, a2, v⟩ := v
  refine k_aload_n dX10_became_0 rfl ?_
  refine k_iload_n dX10_became_1 rfl ?_
  refine k_invV [jI v1] [] dX10_became_2 cm_X10_isPupil ml_X10_110 im_X10_isPupil se_X10_isPupil rfl sh_1 (by decide) rfl rfl (sp_X10_isPupil s v1 a1 a2) ?_
  obtain ⟨vt, vf⟩ := v
  refine k_ifb_eq 17 dX10_became_5 rfl (fun c3 => ?_) (fun c3 => ?_)
  · have v := vt c3
    refine k_bipush dX10_became_17 rfl ?_
    exact k_ireturn (st := []) dX10_became_19 rfl v
  · have v := vf c3
    obtain ⟨a4, v⟩ := v
    refine k_iload_n dX10_became_8 rfl ?_
    refine k_iconst dX10_became_9 ?_
    refine k_iconst dX10_became_10 ?_
    refine k_invS [jI v2, jI (-1), jI 3] [] dX10_became_11 cm_X10_within ml_X10_92 st_X10_within rfl rfl (sp_X10_within s v2 (-1) 3 a4 (by decide) (by decide)) ?_
    obtain ⟨vt, vf⟩ := v
    refine k_ifb_ne 20 dX10_became_14 rfl (fun c5 => ?_) (fun c5 => ?_)
    · have v := vt c5
      obtain ⟨a6, v⟩ := v
      refine k_aload_n dX10_became_20 rfl ?_
      refine k_getr dX10_became_21 fl_X10_10 sh_1 (by decide) rfl ?_
      refine k_getr dX10_became_24 fl_X10_113 sh_2 (by decide) rfl ?_
      refine k_iload_n dX10_became_27 rfl ?_
      refine k_iald 8 dX10_became_28 sh_7 (by decide) rfl (by decide) a6 ?_
      refine k_istore_n [jR 1, jI v1, jI v2, jI (s 7 v1)] dX10_became_29 rfl rfl ?_
      refine k_aload_n dX10_became_30 rfl ?_
      refine k_getr dX10_became_31 fl_X10_10 sh_1 (by decide) rfl ?_
      refine k_getr dX10_became_34 fl_X10_113 sh_2 (by decide) rfl ?_
      refine k_iload_n dX10_became_37 rfl ?_
      refine k_iload_n dX10_became_38 rfl ?_
      refine k_iast 8 dX10_became_39 sh_7 (by decide) rfl (by decide) a6 ?_
      refine k_iload_n dX10_became_40 rfl ?_
      exact k_ireturn (st := []) dX10_became_41 rfl v
    · have v := vf c5
      refine k_bipush dX10_became_17 rfl ?_
      exact k_ireturn (st := []) dX10_became_19 rfl v
theorem g_X10_letter {s : Int → Int → Int} {Q : Option jV → (Int → Int → Int) → Prop} {v1 v2 v3 : Int} (v : (jr32 v1 ∧ (WC s) ∧ ((¬ (0 ≤ v1 ∧ v1 ≤ s 2 11 - 1) → Q (some (jI (-2))) s) ∧ (0 ≤ v1 ∧ v1 ≤ s 2 11 - 1 → (jr32 v2 ∧ ((¬ (0 ≤ v2 ∧ v2 ≤ s 2 12 - 1) → Q (some (jI (-2))) s) ∧ (0 ≤ v2 ∧ v2 ≤ s 2 12 - 1 → (jr32 v3 ∧ ((0 ≤ v3 ∧ v3 ≤ 39 → (∀ (y8 : Int) (s9 : Int → Int → Int), ((30 ≤ s 2 13 ∧ y8 = -4 ∧ s9 = s) ∨ (s 2 13 < 30 ∧ y8 = s 2 13 ∧ s9 = w2 (w2 (w2 (w2 s 8 (s 2 13) v1) 9 (s 2 13) v2) 10 (s 2 13) v3) 2 13 (s 2 13 + 1))) → Q (some (jI y8)) s9)) ∧ (¬ (0 ≤ v3 ∧ v3 ≤ 39) → Q (some (jI (-2))) s)))))))))) : kR mX10_letter [jR 1, jI v1, jI v2, jI v3] s Q := by
  show kK mX10_letter 0 [jR 1, jI v1, jI v2, jI v3] [] s Q
  obtain ⟨a1, a2, v⟩ := v
  refine k_aload_n dX10_letter_0 rfl ?_
  refine k_iload_n dX10_letter_1 rfl ?_
  refine k_invV [jI v1] [] dX10_letter_2 cm_X10_isHand ml_X10_100 im_X10_isHand se_X10_isHand rfl sh_1 (by decide) rfl rfl (sp_X10_isHand s v1 a1 a2) ?_
  obtain ⟨vt, vf⟩ := v
  refine k_ifb_eq 23 dX10_letter_5 rfl (fun c3 => ?_) (fun c3 => ?_)
  · have v := vt c3
    refine k_bipush dX10_letter_23 rfl ?_
    exact k_ireturn (st := []) dX10_letter_25 rfl v
  · have v := vf c3
    obtain ⟨a4, v⟩ := v
    refine k_aload_n dX10_letter_8 rfl ?_
    refine k_iload_n dX10_letter_9 rfl ?_
    refine k_invV [jI v2] [] dX10_letter_10 cm_X10_isPupil ml_X10_110 im_X10_isPupil se_X10_isPupil rfl sh_1 (by decide) rfl rfl (sp_X10_isPupil s v2 a4 a2) ?_
    obtain ⟨vt, vf⟩ := v
    refine k_ifb_eq 23 dX10_letter_13 rfl (fun c5 => ?_) (fun c5 => ?_)
    · have v := vt c5
      refine k_bipush dX10_letter_23 rfl ?_
      exact k_ireturn (st := []) dX10_letter_25 rfl v
    · have v := vf c5
      obtain ⟨a6, v⟩ := v
      refine k_iload_n dX10_letter_16 rfl ?_
      refine k_invS [jI v3] [] dX10_letter_17 cm_X10_isYear ml_X10_116 st_X10_isYear rfl rfl (sp_X10_isYear s v3 a6) ?_
      obtain ⟨vt, vf⟩ := v
      refine k_ifb_ne 26 dX10_letter_20 rfl (fun c7 => ?_) (fun c7 => ?_)
      · have v := vt c7
        refine k_aload_n dX10_letter_26 rfl ?_
        refine k_getr dX10_letter_27 fl_X10_10 sh_1 (by decide) rfl ?_
        refine k_iload_n dX10_letter_30 rfl ?_
        refine k_iload_n dX10_letter_31 rfl ?_
        refine k_iload_n dX10_letter_32 rfl ?_
        refine k_invVR [jI v1, jI v2, jI v3] [] dX10_letter_33 cm_X3_addLetter ml_X10_119 im_X3_addLetter se_X3_addLetter rfl sh_2 (by decide) rfl rfl (sp_X3_addLetter s v1 v2 v3 a2) (fun _ s9 q10 => ?_)
        obtain ⟨y8, rfl, q10⟩ := q10
        have v := v y8 s9 q10
        exact k_ireturn (st := []) dX10_letter_36 rfl v
      · have v := vf c7
        refine k_bipush dX10_letter_23 rfl ?_
        exact k_ireturn (st := []) dX10_letter_25 rfl v
theorem g_X10_write {s : Int → Int → Int} {Q : Option jV → (Int → Int → Int) → Prop} {v1 v2 : Int} (v : (jr32 v1 ∧ (WC s) ∧ ((¬ (0 ≤ v1 ∧ v1 ≤ s 2 13 - 1) → Q (some (jI (-2))) s) ∧ (0 ≤ v1 ∧ v1 ≤ s 2 13 - 1 → (jr32 v2 ∧ ((0 ≤ v2 ∧ v2 ≤ s 2 10 - 1 → ((0 ≤ v1 ∧ v1 < s 2 13) ∧ (∀ (y7 : Int) (s8 : Int → Int → Int), ((8 ≤ s 11 v1 ∧ y7 = -4 ∧ s8 = s) ∨ (s 11 v1 < 8 ∧ y7 = s 11 v1 + 1 ∧ s8 = w2 (w2 s (13 + v1) (s 11 v1) v2) 11 v1 (s 11 v1 + 1))) → Q (some (jI y7)) s8))) ∧ (¬ (0 ≤ v2 ∧ v2 ≤ s 2 10 - 1) → Q (some (jI (-2))) s))))))) : kR mX10_write [jR 1, jI v1, jI v2] s Q := by
  show kK mX10_write 0 [jR 1, jI v1, jI v2] [] s Q
  obtain ⟨a1, a2, v⟩ := v
  refine k_aload_n dX10_write_0 rfl ?_
  refine k_iload_n dX10_write_1 rfl ?_
  refine k_invV [jI v1] [] dX10_write_2 cm_X10_isLetter ml_X10_123 im_X10_isLetter se_X10_isLetter rfl sh_1 (by decide) rfl rfl (sp_X10_isLetter s v1 a1 a2) ?_
  obtain ⟨vt, vf⟩ := v
  refine k_ifb_eq 16 dX10_write_5 rfl (fun c3 => ?_) (fun c3 => ?_)
  · have v := vt c3
    refine k_bipush dX10_write_16 rfl ?_
    exact k_ireturn (st := []) dX10_write_18 rfl v
  · have v := vf c3
    obtain ⟨a4, v⟩ := v
    refine k_aload_n dX10_write_8 rfl ?_
    refine k_iload_n dX10_write_9 rfl ?_
    refine k_invV [jI v2] [] dX10_write_10 cm_X10_isWord ml_X10_126 im_X10_isWord se_X10_isWord rfl sh_1 (by decide) rfl rfl (sp_X10_isWord s v2 a4 a2) ?_
    obtain ⟨vt, vf⟩ := v
    refine k_ifb_ne 19 dX10_write_13 rfl (fun c5 => ?_) (fun c5 => ?_)
    · have v := vt c5
      obtain ⟨a6, v⟩ := v
      refine k_aload_n dX10_write_19 rfl ?_
      refine k_getr dX10_write_20 fl_X10_10 sh_1 (by decide) rfl ?_
      refine k_iload_n dX10_write_23 rfl ?_
      refine k_iload_n dX10_write_24 rfl ?_
      refine k_invVR [jI v1, jI v2] [] dX10_write_25 cm_X3_addToLetter ml_X10_129 im_X3_addToLetter se_X3_addToLetter rfl sh_2 (by decide) rfl rfl (sp_X3_addToLetter s v1 v2 a2 a6) (fun _ s8 q9 => ?_)
      obtain ⟨y7, rfl, q9⟩ := q9
      have v := v y7 s8 q9
      exact k_ireturn (st := []) dX10_write_28 rfl v
    · have v := vf c5
      refine k_bipush dX10_write_16 rfl ?_
      exact k_ireturn (st := []) dX10_write_18 rfl v
theorem g_X10_weight {s : Int → Int → Int} {Q : Option jV → (Int → Int → Int) → Prop} {v1 v2 : Int} (v : (jr32 v1 ∧ ((¬ (0 ≤ v1 ∧ v1 ≤ 3) → Q (some (jI (-2))) s) ∧ (0 ≤ v1 ∧ v1 ≤ 3 → (jr32 v2 ∧ ((1 ≤ v2 ∧ v2 ≤ 9 → ((0 ≤ v1 ∧ v1 < 4) ∧ Q (some (jI (s 70 v1))) (w2 s 70 v1 v2))) ∧ (¬ (1 ≤ v2 ∧ v2 ≤ 9) → Q (some (jI (-2))) s))))))) : kR mX10_weight [jR 1, jI v1, jI v2] s Q := by
  show kK mX10_weight 0 [jR 1, jI v1, jI v2, jU] [] s Q
  obtain ⟨a1, v⟩ := v
  refine k_iload_n dX10_weight_0 rfl ?_
  refine k_invS [jI v1] [] dX10_weight_1 cm_X10_isGift ml_X10_132 st_X10_isGift rfl rfl (sp_X10_isGift s v1 a1) ?_
  obtain ⟨vt, vf⟩ := v
  refine k_ifb_eq 17 dX10_weight_4 rfl (fun c2 => ?_) (fun c2 => ?_)
  · have v := vt c2
    refine k_bipush dX10_weight_17 rfl ?_
    exact k_ireturn (st := []) dX10_weight_19 rfl v
  · have v := vf c2
    obtain ⟨a3, v⟩ := v
    refine k_iload_n dX10_weight_7 rfl ?_
    refine k_iconst dX10_weight_8 ?_
    refine k_bipush dX10_weight_9 rfl ?_
    refine k_invS [jI v2, jI 1, jI 9] [] dX10_weight_11 cm_X10_within ml_X10_92 st_X10_within rfl rfl (sp_X10_within s v2 1 9 a3 (by decide) (by decide)) ?_
    obtain ⟨vt, vf⟩ := v
    refine k_ifb_ne 20 dX10_weight_14 rfl (fun c4 => ?_) (fun c4 => ?_)
    · have v := vt c4
      obtain ⟨a5, v⟩ := v
      refine k_aload_n dX10_weight_20 rfl ?_
      refine k_getr dX10_weight_21 fl_X10_25 sh_1 (by decide) rfl ?_
      refine k_iload_n dX10_weight_24 rfl ?_
      refine k_iald 4 dX10_weight_25 sh_70 (by decide) rfl (by decide) a5 ?_
      refine k_istore_n [jR 1, jI v1, jI v2, jI (s 70 v1)] dX10_weight_26 rfl rfl ?_
      refine k_aload_n dX10_weight_27 rfl ?_
      refine k_getr dX10_weight_28 fl_X10_25 sh_1 (by decide) rfl ?_
      refine k_iload_n dX10_weight_31 rfl ?_
      refine k_iload_n dX10_weight_32 rfl ?_
      refine k_iast 4 dX10_weight_33 sh_70 (by decide) rfl (by decide) a5 ?_
      refine k_iload_n dX10_weight_34 rfl ?_
      exact k_ireturn (st := []) dX10_weight_35 rfl v
    · have v := vf c4
      refine k_bipush dX10_weight_17 rfl ?_
      exact k_ireturn (st := []) dX10_weight_19 rfl v
theorem sp_X10_word (s : Int → Int → Int) (v1 v2 : Int) (h1 : jr32 v1) (h2 : jr32 v2) (hw : WC s) : kR mX10_word [jR 1, jI v1, jI v2] s (fun r s' => ∃ y, r = some (jI y) ∧ jg3 ((0 ≤ v1 ∧ v1 ≤ 9) ∧ (0 ≤ v2 ∧ v2 ≤ 2)) (8 ≤ s 2 10) (-2) (s 2 10) s (w2 (w2 (w2 s 3 (s 2 10) v1) 4 (s 2 10) v2) 2 10 (s 2 10 + 1)) y s') :=
  g_X10_word ⟨h1, fun c => ⟨_, rfl, Or.inl ⟨fun q => c q.1, rfl, rfl⟩⟩, fun c => ⟨h2, fun c2 => ⟨hw, fun y s7 q => ⟨_, rfl, q.elim (fun q => Or.inr (Or.inl ⟨⟨c, c2⟩, q⟩)) (fun q => Or.inr (Or.inr ⟨⟨c, c2⟩, by omega, q.2⟩))⟩⟩, fun c2 => ⟨_, rfl, Or.inl ⟨fun q => c2 q.2, rfl, rfl⟩⟩⟩⟩
theorem sp_X10_hand (s : Int → Int → Int) (v1 : Int) (h1 : jr32 v1) (hw : WC s) : kR mX10_hand [jR 1, jI v1] s (fun r s' => ∃ y, r = some (jI y) ∧ jg3 (-1 ≤ v1 ∧ v1 ≤ s 2 11 - 1) (6 ≤ s 2 11) (-2) (s 2 11) s (w2 (w2 s 5 (s 2 11) v1) 2 11 (s 2 11 + 1)) y s') := by
  have hH := hw.2.1
  exact g_X10_hand ⟨h1, fun c => ⟨hw, fun y s5 q => ⟨_, rfl, q.elim (fun q => Or.inr (Or.inl ⟨⟨by omega, by omega⟩, q⟩)) (fun q => Or.inr (Or.inr ⟨⟨by omega, by omega⟩, by omega, q.2⟩))⟩⟩, fun c => ⟨hw, fun c2 y s5 q => ⟨_, rfl, q.elim (fun q => Or.inr (Or.inl ⟨⟨by omega, by omega⟩, q⟩)) (fun q => Or.inr (Or.inr ⟨⟨by omega, by omega⟩, by omega, q.2⟩))⟩, fun c2 => ⟨_, rfl, Or.inl ⟨by omega, rfl, rfl⟩⟩⟩⟩
theorem sp_X10_pupil (s : Int → Int → Int) (v1 v2 : Int) (h1 : jr32 v1) (h2 : jr32 v2) (hw : WC s) : kR mX10_pupil [jR 1, jI v1, jI v2] s (fun r s' => ∃ y, r = some (jI y) ∧ jg3 ((1 ≤ v1 ∧ v1 ≤ 2) ∧ (-1 ≤ v2 ∧ v2 ≤ 3)) (8 ≤ s 2 12) (-2) (s 2 12) s (w2 (w2 (w2 s 6 (s 2 12) v1) 7 (s 2 12) v2) 2 12 (s 2 12 + 1)) y s') :=
  g_X10_pupil ⟨h1, fun c => ⟨_, rfl, Or.inl ⟨fun q => c q.1, rfl, rfl⟩⟩, fun c => ⟨h2, fun c2 => ⟨hw, fun y s7 q => ⟨_, rfl, q.elim (fun q => Or.inr (Or.inl ⟨⟨c, c2⟩, q⟩)) (fun q => Or.inr (Or.inr ⟨⟨c, c2⟩, by omega, q.2⟩))⟩⟩, fun c2 => ⟨_, rfl, Or.inl ⟨fun q => c2 q.2, rfl, rfl⟩⟩⟩⟩
theorem sp_X10_became (s : Int → Int → Int) (v1 v2 : Int) (h1 : jr32 v1) (h2 : jr32 v2) (hw : WC s) : kR mX10_became [jR 1, jI v1, jI v2] s (fun r s' => ∃ y, r = some (jI y) ∧ jg3 ((0 ≤ v1 ∧ v1 ≤ s 2 12 - 1) ∧ (-1 ≤ v2 ∧ v2 ≤ 3)) False (-10) (s 7 v1) s (w2 s 7 v1 v2) y s') := by
  have hP := hw.2.2.1
  exact g_X10_became ⟨h1, hw, fun c => ⟨_, rfl, Or.inl ⟨fun q => c q.1, rfl, rfl⟩⟩, fun c => ⟨h2, fun c2 => ⟨⟨by omega, by omega⟩, _, rfl, Or.inr (Or.inr ⟨⟨c, c2⟩, id, rfl, rfl⟩)⟩, fun c2 => ⟨_, rfl, Or.inl ⟨fun q => c2 q.2, rfl, rfl⟩⟩⟩⟩
theorem sp_X10_letter (s : Int → Int → Int) (v1 v2 v3 : Int) (h1 : jr32 v1) (h2 : jr32 v2) (h3 : jr32 v3) (hw : WC s) : kR mX10_letter [jR 1, jI v1, jI v2, jI v3] s (fun r s' => ∃ y, r = some (jI y) ∧ jg3 ((0 ≤ v1 ∧ v1 ≤ s 2 11 - 1) ∧ (0 ≤ v2 ∧ v2 ≤ s 2 12 - 1) ∧ (0 ≤ v3 ∧ v3 ≤ 39)) (30 ≤ s 2 13) (-2) (s 2 13) s (w2 (w2 (w2 (w2 s 8 (s 2 13) v1) 9 (s 2 13) v2) 10 (s 2 13) v3) 2 13 (s 2 13 + 1)) y s') :=
  g_X10_letter ⟨h1, hw, fun c => ⟨_, rfl, Or.inl ⟨fun q => c q.1, rfl, rfl⟩⟩, fun c => ⟨h2, fun c2 => ⟨_, rfl, Or.inl ⟨fun q => c2 q.2.1, rfl, rfl⟩⟩, fun c2 => ⟨h3, fun c3 y s9 q => ⟨_, rfl, q.elim (fun q => Or.inr (Or.inl ⟨⟨c, c2, c3⟩, q⟩)) (fun q => Or.inr (Or.inr ⟨⟨c, c2, c3⟩, by omega, q.2⟩))⟩, fun c3 => ⟨_, rfl, Or.inl ⟨fun q => c3 q.2.2, rfl, rfl⟩⟩⟩⟩⟩
theorem sp_X10_write (s : Int → Int → Int) (v1 v2 : Int) (h1 : jr32 v1) (h2 : jr32 v2) (hw : WC s) : kR mX10_write [jR 1, jI v1, jI v2] s (fun r s' => ∃ y, r = some (jI y) ∧ jg3 ((0 ≤ v1 ∧ v1 ≤ s 2 13 - 1) ∧ (0 ≤ v2 ∧ v2 ≤ s 2 10 - 1)) (8 ≤ s 11 v1) (-2) (s 11 v1 + 1) s (w2 (w2 s (13 + v1) (s 11 v1) v2) 11 v1 (s 11 v1 + 1)) y s') :=
  g_X10_write ⟨h1, hw, fun c => ⟨_, rfl, Or.inl ⟨fun q => c q.1, rfl, rfl⟩⟩, fun c => ⟨h2, fun c2 => ⟨⟨by omega, by omega⟩, fun y s7 q => ⟨_, rfl, q.elim (fun q => Or.inr (Or.inl ⟨⟨c, c2⟩, q⟩)) (fun q => Or.inr (Or.inr ⟨⟨c, c2⟩, by omega, q.2⟩))⟩⟩, fun c2 => ⟨_, rfl, Or.inl ⟨fun q => c2 q.2, rfl, rfl⟩⟩⟩⟩
theorem sp_X10_weight (s : Int → Int → Int) (v1 v2 : Int) (h1 : jr32 v1) (h2 : jr32 v2) : kR mX10_weight [jR 1, jI v1, jI v2] s (fun r s' => ∃ y, r = some (jI y) ∧ jg3 ((0 ≤ v1 ∧ v1 ≤ 3) ∧ (1 ≤ v2 ∧ v2 ≤ 9)) False (-2) (s 70 v1) s (w2 s 70 v1 v2) y s') :=
  g_X10_weight ⟨h1, fun c => ⟨_, rfl, Or.inl ⟨fun q => c q.1, rfl, rfl⟩⟩, fun c => ⟨h2, fun c2 => ⟨⟨by omega, by omega⟩, _, rfl, Or.inr (Or.inr ⟨⟨c, c2⟩, id, rfl, rfl⟩)⟩, fun c2 => ⟨_, rfl, Or.inl ⟨fun q => c2 q.2, rfl, rfl⟩⟩⟩⟩
