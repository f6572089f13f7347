theorem g_X11_in {s : Int → Int → Int} {Q : Option jV → (Int → Int → Int) → Prop} {v0 v2 v4 : Int} (v : (jr64 v0 ∧ jr64 v2 ∧ ((v0 < v2 → Q (some (jI 0)) s) ∧ (¬ (v0 < v2) → (jr64 v4 ∧ ((v4 < v0 → Q (some (jI 0)) s) ∧ (¬ (v4 < v0) → Q (some (jI 1)) s))))))) : kR mX11_in [jL v0, jL v2, jL v4] s Q := by
  show kK mX11_in 0 [jL v0, jU, jL v2, jU, jL v4, jU] [] s Q
  obtain ⟨a1, a2, v⟩ := v
  refine k_lload_n dX11_in_0 rfl ?_
  refine k_lload_n dX11_in_1 rfl ?_
  obtain ⟨vt, vf⟩ := v
  refine k_lcmp_if_lt 17 dX11_in_2 dX11_in_3 rfl a1 a2 (fun c3 => ?_) (fun c3 => ?_)
  · have v := vt c3
    refine k_iconst dX11_in_17 ?_
    exact k_zreturn (st := []) dX11_in_18 rfl (Or.inl rfl) v
  · have v := vf c3
    obtain ⟨a4, v⟩ := v
    refine k_lload_n dX11_in_6 rfl ?_
    refine k_lload dX11_in_7 rfl ?_
    obtain ⟨vt, vf⟩ := v
    refine k_lcmp_if_gt 17 dX11_in_9 dX11_in_10 rfl a1 a4 (fun c5 => ?_) (fun c5 => ?_)
    · have v := vt c5
      refine k_iconst dX11_in_17 ?_
      exact k_zreturn (st := []) dX11_in_18 rfl (Or.inl rfl) v
    · have v := vf c5
      refine k_iconst dX11_in_13 ?_
      refine k_goto 18 dX11_in_14 rfl ?_
      exact k_zreturn (st := []) dX11_in_18 rfl (Or.inr rfl) v
theorem sp_X11_in (s : Int → Int → Int) (n lo hi : Int) (h0 : jr64 n) (h1 : jr64 lo) (h2 : jr64 hi) : kM mX11_in [jL n, jL lo, jL hi] s (some (jI (jbo (lo ≤ n ∧ n ≤ hi)))) s :=
  g_X11_in ⟨h0, h1, fun c => ⟨jbf0 (by omega), rfl⟩, fun c => ⟨h2, fun c2 => ⟨jbf0 (by omega), rfl⟩, fun c2 => ⟨jbf1 ⟨by omega, by omega⟩, rfl⟩⟩⟩
theorem g_X11_is {s : Int → Int → Int} {Q : Option jV → (Int → Int → Int) → Prop} {v1 v2 : Int} (v : (jr32 v2 ∧ (0 ≤ v1 ∧ v1 < 6) ∧ jr32 ((s 146 v1) - 1) ∧ jr64 v2 ∧ jr64 ((s 146 v1) - 1) ∧ Q (some (jI (jbo (0 ≤ v2 ∧ v2 ≤ ((s 146 v1) - 1))))) s)) : kR mX11_is [jR 143, jI v1, jI v2] s Q := by
  show kK mX11_is 0 [jR 143, jI v1, jI v2] [] s Q
  obtain ⟨a1, a2, a3, a4, a5, v⟩ := v
  refine k_iload_n dX11_is_0 rfl ?_
  refine k_i2l dX11_is_1 a1 ?_
  refine k_lconst 0 dX11_is_2 rfl ?_
  refine k_aload_n dX11_is_3 rfl ?_
  refine k_getr dX11_is_4 fl_X11_16 sh_143 (by decide) rfl ?_
  refine k_iload_n dX11_is_7 rfl ?_
  refine k_iald 6 dX11_is_8 sh_146 (by decide) rfl (by decide) a2 ?_
  refine k_iconst dX11_is_9 ?_
  refine k_isub dX11_is_10 ?_
  refine k_i2l dX11_is_11 a3 ?_
  refine k_invS [jL v2, jL 0, jL ((s 146 v1) - 1)] [] dX11_is_12 cm_X11_in ml_X11_120 st_X11_in rfl rfl (sp_X11_in s v2 0 ((s 146 v1) - 1) a4 (by decide) a5) ?_
  exact k_zreturn (st := []) dX11_is_15 rfl (jbo_01 _) v
theorem j3264 {x : Int} (h : jr32 x) : jr64 x := ⟨by have := h.1; omega, by have := h.2; omega⟩
theorem sp_X11_is (s : Int → Int → Int) (c i : Int) (hc : 0 ≤ c ∧ c < 6) (hi : jr32 i) (h : 0 ≤ s 146 c ∧ s 146 c ≤ 1000) : kM mX11_is [jR 143, jI c, jI i] s (some (jI (jbo (0 ≤ i ∧ i ≤ s 146 c - 1)))) s :=
  g_X11_is ⟨hi, hc, ⟨by omega, by omega⟩, j3264 hi, ⟨by omega, by omega⟩, rfl, rfl⟩
theorem g_X11_next {s : Int → Int → Int} {Q : Option jV → (Int → Int → Int) → Prop} {v1 : Int} (v : ((0 ≤ v1 ∧ v1 < 6) ∧ Q (some (jI (((s 146 v1) + 1) - 1))) (w2 s 146 v1 ((s 146 v1) + 1)))) : kR mX11_next [jR 143, jI v1] s Q := by
  show kK mX11_next 0 [jR 143, jI v1] [] s Q
  obtain ⟨a1, v⟩ := v
  refine k_aload_n dX11_next_0 rfl ?_
  refine k_getr dX11_next_1 fl_X11_16 sh_143 (by decide) rfl ?_
  refine k_iload_n dX11_next_4 rfl ?_
  refine k_dup2 dX11_next_5 rfl ?_
  refine k_iald 6 dX11_next_6 sh_146 (by decide) rfl (by decide) a1 ?_
  refine k_iconst dX11_next_7 ?_
  refine k_iadd dX11_next_8 ?_
  refine k_iast 6 dX11_next_9 sh_146 (by decide) rfl (by decide) a1 ?_
  refine k_aload_n dX11_next_10 rfl ?_
  refine k_getr dX11_next_11 fl_X11_16 sh_143 (by decide) rfl ?_
  refine k_iload_n dX11_next_14 rfl ?_
  refine k_iald 6 dX11_next_15 sh_146 (by decide) rfl (by decide) a1 ?_
  rw [show ((w2 s 146 v1 ((s 146 v1) + 1)) 146 v1) = ((s 146 v1) + 1) from by rw [w2_s]]
  refine k_iconst dX11_next_16 ?_
  refine k_isub dX11_next_17 ?_
  exact k_ireturn (st := []) dX11_next_18 rfl v
theorem sp_X11_next (s : Int → Int → Int) (c : Int) (hc : 0 ≤ c ∧ c < 6) : kM mX11_next [jR 143, jI c] s (some (jI (s 146 c))) (w2 s 146 c (s 146 c + 1)) :=
  g_X11_next ⟨hc, by rw [show s 146 c + 1 - 1 = s 146 c by omega], rfl⟩
theorem g_X11_isGift {s : Int → Int → Int} {Q : Option jV → (Int → Int → Int) → Prop} {v0 : Int} (v : (jr32 v0 ∧ jr64 v0 ∧ Q (some (jI (jbo (0 ≤ v0 ∧ v0 ≤ 3)))) s)) : kR mX11_isGift [jI v0] s Q := by
  show kK mX11_isGift 0 [jI v0] [] s Q
  obtain ⟨a1, a2, v⟩ := v
  refine k_iload_n dX11_isGift_0 rfl ?_
  refine k_i2l dX11_isGift_1 a1 ?_
  refine k_lconst 0 dX11_isGift_2 rfl ?_
  refine k_ldc2 (3) (3) dX11_isGift_3 kl_X11_134 rfl ?_
  refine k_invS [jL v0, jL 0, jL 3] [] dX11_isGift_6 cm_X11_in ml_X11_120 st_X11_in rfl rfl (sp_X11_in s v0 0 3 a2 (by decide) (by decide)) ?_
  exact k_zreturn (st := []) dX11_isGift_9 rfl (jbo_01 _) v
theorem sp_X11_isGift (s : Int → Int → Int) (v0 : Int) (h : jr32 v0) : kM mX11_isGift [jI v0] s (some (jI (jbo (0 ≤ v0 ∧ v0 ≤ 3)))) s := g_X11_isGift ⟨h, j3264 h, rfl, rfl⟩
theorem g_X11_isYear {s : Int → Int → Int} {Q : Option jV → (Int → Int → Int) → Prop} {v0 : Int} (v : (jr32 v0 ∧ jr64 v0 ∧ Q (some (jI (jbo (0 ≤ v0 ∧ v0 ≤ 39)))) s)) : kR mX11_isYear [jI v0] s Q := by
  show kK mX11_isYear 0 [jI v0] [] s Q
  obtain ⟨a1, a2, v⟩ := v
  refine k_iload_n dX11_isYear_0 rfl ?_
  refine k_i2l dX11_isYear_1 a1 ?_
  refine k_lconst 0 dX11_isYear_2 rfl ?_
  refine k_ldc2 (39) (39) dX11_isYear_3 kl_X11_140 rfl ?_
  refine k_invS [jL v0, jL 0, jL 39] [] dX11_isYear_6 cm_X11_in ml_X11_120 st_X11_in rfl rfl (sp_X11_in s v0 0 39 a2 (by decide) (by decide)) ?_
  exact k_zreturn (st := []) dX11_isYear_9 rfl (jbo_01 _) v
theorem sp_X11_isYear (s : Int → Int → Int) (v0 : Int) (h : jr32 v0) : kM mX11_isYear [jI v0] s (some (jI (jbo (0 ≤ v0 ∧ v0 ≤ 39)))) s := g_X11_isYear ⟨h, j3264 h, rfl, rfl⟩
theorem g_X11_isShare {s : Int → Int → Int} {Q : Option jV → (Int → Int → Int) → Prop} {v0 : Int} (v : (jr32 v0 ∧ jr64 v0 ∧ Q (some (jI (jbo (0 ≤ v0 ∧ v0 ≤ 100)))) s)) : kR mX11_isShare [jI v0] s Q := by
  show kK mX11_isShare 0 [jI v0] [] s Q
  obtain ⟨a1, a2, v⟩ := v
  refine k_iload_n dX11_isShare_0 rfl ?_
  refine k_i2l dX11_isShare_1 a1 ?_
  refine k_lconst 0 dX11_isShare_2 rfl ?_
  refine k_ldc2 (100) (100) dX11_isShare_3 kl_X11_234 rfl ?_
  refine k_invS [jL v0, jL 0, jL 100] [] dX11_isShare_6 cm_X11_in ml_X11_120 st_X11_in rfl rfl (sp_X11_in s v0 0 100 a2 (by decide) (by decide)) ?_
  exact k_zreturn (st := []) dX11_isShare_9 rfl (jbo_01 _) v
theorem sp_X11_isShare (s : Int → Int → Int) (v0 : Int) (h : jr32 v0) : kM mX11_isShare [jI v0] s (some (jI (jbo (0 ≤ v0 ∧ v0 ≤ 100)))) s := g_X11_isShare ⟨h, j3264 h, rfl, rfl⟩
theorem g_X11_word {s : Int → Int → Int} {Q : Option jV → (Int → Int → Int) → Prop} {v1 v2 : Int} (v : (jr32 v1 ∧ jr64 v1 ∧ ((¬ (0 ≤ v1 ∧ v1 ≤ 9) → Q (some (jI (-2))) s) ∧ (0 ≤ v1 ∧ v1 ≤ 9 → (jr32 v2 ∧ jr64 v2 ∧ ((0 ≤ v2 ∧ v2 ≤ 2 → (jr32 (s 146 0) ∧ (((s 146 0) ≠ 8 → ((0 ≤ (s 146 0) ∧ (s 146 0) < 8) ∧ Q (some (jI (s 146 0))) (w2 (w2 (w2 s 147 (s 146 0) v1) 148 (s 146 0) v2) 146 0 ((s 146 0) + 1)))) ∧ ((s 146 0) = 8 → Q (some (jI (-4))) s)))) ∧ (¬ (0 ≤ v2 ∧ v2 ≤ 2) → Q (some (jI (-2))) s))))))) : kR mX11_word [jR 143, jI v1, jI v2] s Q := by
  show kK mX11_word 0 [jR 143, jI v1, jI v2] [] s Q
  obtain ⟨a1, a2, v⟩ := v
  refine k_iload_n dX11_word_0 rfl ?_
  refine k_i2l dX11_word_1 a1 ?_
  refine k_lconst 0 dX11_word_2 rfl ?_
  refine k_ldc2 (9) (9) dX11_word_3 kl_X11_124 rfl ?_
  refine k_invS [jL v1, jL 0, jL 9] [] dX11_word_6 cm_X11_in ml_X11_120 st_X11_in rfl rfl (sp_X11_in s v1 0 9 a2 (by decide) (by decide)) ?_
  obtain ⟨vt, vf⟩ := v
  refine k_ifb_eq 24 dX11_word_9 rfl (fun c3 => ?_) (fun c3 => ?_)
  · have v := vt c3
    refine k_bipush dX11_word_24 rfl ?_
    exact k_ireturn (st := []) dX11_word_26 rfl v
  · have v := vf c3
    obtain ⟨a4, a5, v⟩ := v
    refine k_iload_n dX11_word_12 rfl ?_
    refine k_i2l dX11_word_13 a4 ?_
    refine k_lconst 0 dX11_word_14 rfl ?_
    refine k_ldc2 (2) (2) dX11_word_15 kl_X11_126 rfl ?_
    refine k_invS [jL v2, jL 0, jL 2] [] dX11_word_18 cm_X11_in ml_X11_120 st_X11_in rfl rfl (sp_X11_in s v2 0 2 a5 (by decide) (by decide)) ?_
    obtain ⟨vt, vf⟩ := v
    refine k_ifb_ne 27 dX11_word_21 rfl (fun c6 => ?_) (fun c6 => ?_)
    · have v := vt c6
      obtain ⟨a7, v⟩ := v
      refine k_aload_n dX11_word_27 rfl ?_
      refine k_getr dX11_word_28 fl_X11_16 sh_143 (by decide) rfl ?_
      refine k_iconst dX11_word_31 ?_
      refine k_iald 6 dX11_word_32 sh_146 (by decide) rfl (by decide) (by decide) ?_
      refine k_bipush dX11_word_33 rfl ?_
      obtain ⟨vt, vf⟩ := v
      refine k_icmp_ne 41 dX11_word_35 rfl a7 (by decide) (fun c8 => ?_) (fun c8 => ?_)
      · have v := vt c8
        obtain ⟨a9, v⟩ := v
        refine k_aload_n dX11_word_41 rfl ?_
        refine k_getr dX11_word_42 fl_X11_19 sh_143 (by decide) rfl ?_
        refine k_aload_n dX11_word_45 rfl ?_
        refine k_getr dX11_word_46 fl_X11_16 sh_143 (by decide) rfl ?_
        refine k_iconst dX11_word_49 ?_
        refine k_iald 6 dX11_word_50 sh_146 (by decide) rfl (by decide) (by decide) ?_
        refine k_iload_n dX11_word_51 rfl ?_
        refine k_iast 8 dX11_word_52 sh_147 (by decide) rfl (by decide) a9 ?_
        refine k_aload_n dX11_word_53 rfl ?_
        refine k_getr dX11_word_54 fl_X11_22 sh_143 (by decide) rfl ?_
        refine k_aload_n dX11_word_57 rfl ?_
        refine k_getr dX11_word_58 fl_X11_16 sh_143 (by decide) rfl ?_
        refine k_iconst dX11_word_61 ?_
        refine k_iald 6 dX11_word_62 sh_146 (by decide) rfl (by decide) (by decide) ?_
        rw [show ((w2 s 147 (s 146 0) v1) 146 0) = (s 146 0) from by rw [w2_k (by omega)]]
        refine k_iload_n dX11_word_63 rfl ?_
        refine k_iast 8 dX11_word_64 sh_148 (by decide) rfl (by decide) a9 ?_
        refine k_aload_n dX11_word_65 rfl ?_
        refine k_iconst dX11_word_66 ?_
        refine k_invV [jI 0] [] dX11_word_67 cm_X11_next ml_X11_128 im_X11_next se_X11_next rfl sh_143 (by decide) rfl rfl (sp_X11_next (w2 (w2 s 147 (s 146 0) v1) 148 (s 146 0) v2) 0 (by decide)) ?_
        exact k_ireturn (st := []) dX11_word_70 rfl v
      · have v := vf c8
        refine k_bipush dX11_word_38 rfl ?_
        exact k_ireturn (st := []) dX11_word_40 rfl v
    · have v := vf c6
      refine k_bipush dX11_word_24 rfl ?_
      exact k_ireturn (st := []) dX11_word_26 rfl v
theorem g_X11_hand {s : Int → Int → Int} {Q : Option jV → (Int → Int → Int) → Prop} {v1 : Int} (v : (jr32 v1 ∧ jr32 ((s 146 1) - 1) ∧ jr64 v1 ∧ jr64 ((s 146 1) - 1) ∧ (((-1) ≤ v1 ∧ v1 ≤ ((s 146 1) - 1) → (jr32 (s 146 1) ∧ (((s 146 1) ≠ 6 → ((0 ≤ (s 146 1) ∧ (s 146 1) < 6) ∧ Q (some (jI (s 146 1))) (w2 (w2 s 149 (s 146 1) v1) 146 1 ((s 146 1) + 1)))) ∧ ((s 146 1) = 6 → Q (some (jI (-4))) s)))) ∧ (¬ ((-1) ≤ v1 ∧ v1 ≤ ((s 146 1) - 1)) → Q (some (jI (-2))) s)))) : kR mX11_hand [jR 143, jI v1] s Q := by
  show kK mX11_hand 0 [jR 143, jI v1] [] s Q
  obtain ⟨a1, a2, a3, a4, v⟩ := v
  refine k_iload_n dX11_hand_0 rfl ?_
  refine k_i2l dX11_hand_1 a1 ?_
  refine k_ldc2 (-1) (-1) dX11_hand_2 kl_X11_132 rfl ?_
  refine k_aload_n dX11_hand_5 rfl ?_
  refine k_getr dX11_hand_6 fl_X11_16 sh_143 (by decide) rfl ?_
  refine k_iconst dX11_hand_9 ?_
  refine k_iald 6 dX11_hand_10 sh_146 (by decide) rfl (by decide) (by decide) ?_
  refine k_iconst dX11_hand_11 ?_
  refine k_isub dX11_hand_12 ?_
  refine k_i2l dX11_hand_13 a2 ?_
  refine k_invS [jL v1, jL (-1), jL ((s 146 1) - 1)] [] dX11_hand_14 cm_X11_in ml_X11_120 st_X11_in rfl rfl (sp_X11_in s v1 (-1) ((s 146 1) - 1) a3 (by decide) a4) ?_
  obtain ⟨vt, vf⟩ := v
  refine k_ifb_ne 23 dX11_hand_17 rfl (fun c5 => ?_) (fun c5 => ?_)
  · have v := vt c5
    obtain ⟨a6, v⟩ := v
    refine k_aload_n dX11_hand_23 rfl ?_
    refine k_getr dX11_hand_24 fl_X11_16 sh_143 (by decide) rfl ?_
    refine k_iconst dX11_hand_27 ?_
    refine k_iald 6 dX11_hand_28 sh_146 (by decide) rfl (by decide) (by decide) ?_
    refine k_bipush dX11_hand_29 rfl ?_
    obtain ⟨vt, vf⟩ := v
    refine k_icmp_ne 37 dX11_hand_31 rfl a6 (by decide) (fun c7 => ?_) (fun c7 => ?_)
    · have v := vt c7
      obtain ⟨a8, v⟩ := v
      refine k_aload_n dX11_hand_37 rfl ?_
      refine k_getr dX11_hand_38 fl_X11_25 sh_143 (by decide) rfl ?_
      refine k_aload_n dX11_hand_41 rfl ?_
      refine k_getr dX11_hand_42 fl_X11_16 sh_143 (by decide) rfl ?_
      refine k_iconst dX11_hand_45 ?_
      refine k_iald 6 dX11_hand_46 sh_146 (by decide) rfl (by decide) (by decide) ?_
      refine k_iload_n dX11_hand_47 rfl ?_
      refine k_iast 6 dX11_hand_48 sh_149 (by decide) rfl (by decide) a8 ?_
      refine k_aload_n dX11_hand_49 rfl ?_
      refine k_iconst dX11_hand_50 ?_
      refine k_invV [jI 1] [] dX11_hand_51 cm_X11_next ml_X11_128 im_X11_next se_X11_next rfl sh_143 (by decide) rfl rfl (sp_X11_next (w2 s 149 (s 146 1) v1) 1 (by decide)) ?_
      exact k_ireturn (st := []) dX11_hand_54 rfl v
    · have v := vf c7
      refine k_bipush dX11_hand_34 rfl ?_
      exact k_ireturn (st := []) dX11_hand_36 rfl v
  · have v := vf c5
    refine k_bipush dX11_hand_20 rfl ?_
    exact k_ireturn (st := []) dX11_hand_22 rfl v
theorem g_X11_pupil {s : Int → Int → Int} {Q : Option jV → (Int → Int → Int) → Prop} {v1 v2 : Int} (v : (jr32 v1 ∧ jr64 v1 ∧ ((¬ (1 ≤ v1 ∧ v1 ≤ 2) → Q (some (jI (-2))) s) ∧ (1 ≤ v1 ∧ v1 ≤ 2 → (jr32 v2 ∧ jr64 v2 ∧ (((-1) ≤ v2 ∧ v2 ≤ 3 → (jr32 (s 146 2) ∧ (((s 146 2) ≠ 8 → ((0 ≤ (s 146 2) ∧ (s 146 2) < 8) ∧ Q (some (jI (s 146 2))) (w2 (w2 (w2 s 150 (s 146 2) v1) 151 (s 146 2) v2) 146 2 ((s 146 2) + 1)))) ∧ ((s 146 2) = 8 → Q (some (jI (-4))) s)))) ∧ (¬ ((-1) ≤ v2 ∧ v2 ≤ 3) → Q (some (jI (-2))) s))))))) : kR mX11_pupil [jR 143, jI v1, jI v2] s Q := by
  show kK mX11_pupil 0 [jR 143, jI v1, jI v2] [] s Q
  obtain ⟨a1, a2, v⟩ := v
  refine k_iload_n dX11_pupil_0 rfl ?_
  refine k_i2l dX11_pupil_1 a1 ?_
  refine k_lconst 1 dX11_pupil_2 rfl ?_
  refine k_ldc2 (2) (2) dX11_pupil_3 kl_X11_126 rfl ?_
  refine k_invS [jL v1, jL 1, jL 2] [] dX11_pupil_6 cm_X11_in ml_X11_120 st_X11_in rfl rfl (sp_X11_in s v1 1 2 a2 (by decide) (by decide)) ?_
  obtain ⟨vt, vf⟩ := v
  refine k_ifb_eq 26 dX11_pupil_9 rfl (fun c3 => ?_) (fun c3 => ?_)
  · have v := vt c3
    refine k_bipush dX11_pupil_26 rfl ?_
    exact k_ireturn (st := []) dX11_pupil_28 rfl v
  · have v := vf c3
    obtain ⟨a4, a5, v⟩ := v
    refine k_iload_n dX11_pupil_12 rfl ?_
    refine k_i2l dX11_pupil_13 a4 ?_
    refine k_ldc2 (-1) (-1) dX11_pupil_14 kl_X11_132 rfl ?_
    refine k_ldc2 (3) (3) dX11_pupil_17 kl_X11_134 rfl ?_
    refine k_invS [jL v2, jL (-1), jL 3] [] dX11_pupil_20 cm_X11_in ml_X11_120 st_X11_in rfl rfl (sp_X11_in s v2 (-1) 3 a5 (by decide) (by decide)) ?_
    obtain ⟨vt, vf⟩ := v
    refine k_ifb_ne 29 dX11_pupil_23 rfl (fun c6 => ?_) (fun c6 => ?_)
    · have v := vt c6
      obtain ⟨a7, v⟩ := v
      refine k_aload_n dX11_pupil_29 rfl ?_
      refine k_getr dX11_pupil_30 fl_X11_16 sh_143 (by decide) rfl ?_
      refine k_iconst dX11_pupil_33 ?_
      refine k_iald 6 dX11_pupil_34 sh_146 (by decide) rfl (by decide) (by decide) ?_
      refine k_bipush dX11_pupil_35 rfl ?_
      obtain ⟨vt, vf⟩ := v
      refine k_icmp_ne 43 dX11_pupil_37 rfl a7 (by decide) (fun c8 => ?_) (fun c8 => ?_)
      · have v := vt c8
        obtain ⟨a9, v⟩ := v
        refine k_aload_n dX11_pupil_43 rfl ?_
        refine k_getr dX11_pupil_44 fl_X11_28 sh_143 (by decide) rfl ?_
        refine k_aload_n dX11_pupil_47 rfl ?_
        refine k_getr dX11_pupil_48 fl_X11_16 sh_143 (by decide) rfl ?_
        refine k_iconst dX11_pupil_51 ?_
        refine k_iald 6 dX11_pupil_52 sh_146 (by decide) rfl (by decide) (by decide) ?_
        refine k_iload_n dX11_pupil_53 rfl ?_
        refine k_iast 8 dX11_pupil_54 sh_150 (by decide) rfl (by decide) a9 ?_
        refine k_aload_n dX11_pupil_55 rfl ?_
        refine k_getr dX11_pupil_56 fl_X11_31 sh_143 (by decide) rfl ?_
        refine k_aload_n dX11_pupil_59 rfl ?_
        refine k_getr dX11_pupil_60 fl_X11_16 sh_143 (by decide) rfl ?_
        refine k_iconst dX11_pupil_63 ?_
        refine k_iald 6 dX11_pupil_64 sh_146 (by decide) rfl (by decide) (by decide) ?_
        rw [show ((w2 s 150 (s 146 2) v1) 146 2) = (s 146 2) from by rw [w2_k (by omega)]]
        refine k_iload_n dX11_pupil_65 rfl ?_
        refine k_iast 8 dX11_pupil_66 sh_151 (by decide) rfl (by decide) a9 ?_
        refine k_aload_n dX11_pupil_67 rfl ?_
        refine k_iconst dX11_pupil_68 ?_
        refine k_invV [jI 2] [] dX11_pupil_69 cm_X11_next ml_X11_128 im_X11_next se_X11_next rfl sh_143 (by decide) rfl rfl (sp_X11_next (w2 (w2 s 150 (s 146 2) v1) 151 (s 146 2) v2) 2 (by decide)) ?_
        exact k_ireturn (st := []) dX11_pupil_72 rfl v
      · have v := vf c8
        refine k_bipush dX11_pupil_40 rfl ?_
        exact k_ireturn (st := []) dX11_pupil_42 rfl v
    · have v := vf c6
      refine k_bipush dX11_pupil_26 rfl ?_
      exact k_ireturn (st := []) dX11_pupil_28 rfl v
theorem g_X11_became {s : Int → Int → Int} {Q : Option jV → (Int → Int → Int) → Prop} {v1 v2 : Int} (v : (jr32 v1 ∧ (0 ≤ s 146 2 ∧ s 146 2 ≤ 1000) ∧ ((¬ (0 ≤ v1 ∧ v1 ≤ s 146 2 - 1) → Q (some (jI (-10))) s) ∧ (0 ≤ v1 ∧ v1 ≤ s 146 2 - 1 → (jr32 v2 ∧ jr64 v2 ∧ (((-1) ≤ v2 ∧ v2 ≤ 3 → ((0 ≤ v1 ∧ v1 < 8) ∧ Q (some (jI (s 151 v1))) (w2 s 151 v1 v2))) ∧ (¬ ((-1) ≤ v2 ∧ v2 ≤ 3) → Q (some (jI (-10))) s))))))) : kR mX11_became [jR 143, jI v1, jI v2] s Q := by
  show kK mX11_became 0 [jR 143, jI v1, jI v2, jU] [] s Q
  obtain ⟨a1, a2, v⟩ := v
  refine k_aload_n dX11_became_0 rfl ?_
  refine k_iconst dX11_became_1 ?_
  refine k_iload_n dX11_became_2 rfl ?_
  refine k_invV [jI 2, jI v1] [] dX11_became_3 cm_X11_is ml_X11_136 im_X11_is se_X11_is rfl sh_143 (by decide) rfl rfl (sp_X11_is s 2 v1 (by decide) a1 a2) ?_
  obtain ⟨vt, vf⟩ := v
  refine k_ifb_eq 23 dX11_became_6 rfl (fun c3 => ?_) (fun c3 => ?_)
  · have v := vt c3
    refine k_bipush dX11_became_23 rfl ?_
    exact k_ireturn (st := []) dX11_became_25 rfl v
  · have v := vf c3
    obtain ⟨a4, a5, v⟩ := v
    refine k_iload_n dX11_became_9 rfl ?_
    refine k_i2l dX11_became_10 a4 ?_
    refine k_ldc2 (-1) (-1) dX11_became_11 kl_X11_132 rfl ?_
    refine k_ldc2 (3) (3) dX11_became_14 kl_X11_134 rfl ?_
    refine k_invS [jL v2, jL (-1), jL 3] [] dX11_became_17 cm_X11_in ml_X11_120 st_X11_in rfl rfl (sp_X11_in s v2 (-1) 3 a5 (by decide) (by decide)) ?_
    obtain ⟨vt, vf⟩ := v
    refine k_ifb_ne 26 dX11_became_20 rfl (fun c6 => ?_) (fun c6 => ?_)
    · have v := vt c6
      obtain ⟨a7, v⟩ := v
      refine k_aload_n dX11_became_26 rfl ?_
      refine k_getr dX11_became_27 fl_X11_31 sh_143 (by decide) rfl ?_
      refine k_iload_n dX11_became_30 rfl ?_
      refine k_iald 8 dX11_became_31 sh_151 (by decide) rfl (by decide) a7 ?_
      refine k_istore_n [jR 143, jI v1, jI v2, jI (s 151 v1)] dX11_became_32 rfl rfl ?_
      refine k_aload_n dX11_became_33 rfl ?_
      refine k_getr dX11_became_34 fl_X11_31 sh_143 (by decide) rfl ?_
      refine k_iload_n dX11_became_37 rfl ?_
      refine k_iload_n dX11_became_38 rfl ?_
      refine k_iast 8 dX11_became_39 sh_151 (by decide) rfl (by decide) a7 ?_
      refine k_iload_n dX11_became_40 rfl ?_
      exact k_ireturn (st := []) dX11_became_41 rfl v
    · have v := vf c6
      refine k_bipush dX11_became_23 rfl ?_
      exact k_ireturn (st := []) dX11_became_25 rfl v
theorem g_X11_letter {s : Int → Int → Int} {Q : Option jV → (Int → Int → Int) → Prop} {v1 v2 v3 : Int} (v : (jr32 v1 ∧ (0 ≤ s 146 1 ∧ s 146 1 ≤ 1000) ∧ ((¬ (0 ≤ v1 ∧ v1 ≤ s 146 1 - 1) → Q (some (jI (-2))) s) ∧ (0 ≤ v1 ∧ v1 ≤ s 146 1 - 1 → (jr32 v2 ∧ (0 ≤ s 146 2 ∧ s 146 2 ≤ 1000) ∧ ((¬ (0 ≤ v2 ∧ v2 ≤ s 146 2 - 1) → Q (some (jI (-2))) s) ∧ (0 ≤ v2 ∧ v2 ≤ s 146 2 - 1 → (jr32 v3 ∧ jr64 v3 ∧ ((0 ≤ v3 ∧ v3 ≤ 39 → (jr32 (s 146 3) ∧ (((s 146 3) ≠ 30 → ((0 ≤ (s 146 3) ∧ (s 146 3) < 30) ∧ Q (some (jI (s 146 3))) (w2 (w2 (w2 (w2 (w2 s 152 (s 146 3) v1) 153 (s 146 3) v2) 154 (s 146 3) v3) 155 (s 146 3) 0) 146 3 ((s 146 3) + 1)))) ∧ ((s 146 3) = 30 → Q (some (jI (-4))) s)))) ∧ (¬ (0 ≤ v3 ∧ v3 ≤ 39) → Q (some (jI (-2))) s)))))))))) : kR mX11_letter [jR 143, jI v1, jI v2, jI v3] s Q := by
  show kK mX11_letter 0 [jR 143, jI v1, jI v2, jI v3] [] s Q
  obtain ⟨a1, a2, v⟩ := v
  refine k_aload_n dX11_letter_0 rfl ?_
  refine k_iconst dX11_letter_1 ?_
  refine k_iload_n dX11_letter_2 rfl ?_
  refine k_invV [jI 1, jI v1] [] dX11_letter_3 cm_X11_is ml_X11_136 im_X11_is se_X11_is rfl sh_143 (by decide) rfl rfl (sp_X11_is s 1 v1 (by decide) a1 a2) ?_
  obtain ⟨vt, vf⟩ := v
  refine k_ifb_eq 30 dX11_letter_6 rfl (fun c3 => ?_) (fun c3 => ?_)
  · have v := vt c3
    refine k_bipush dX11_letter_30 rfl ?_
    exact k_ireturn (st := []) dX11_letter_32 rfl v
  · have v := vf c3
    obtain ⟨a4, a5, v⟩ := v
    refine k_aload_n dX11_letter_9 rfl ?_
    refine k_iconst dX11_letter_10 ?_
    refine k_iload_n dX11_letter_11 rfl ?_
    refine k_invV [jI 2, jI v2] [] dX11_letter_12 cm_X11_is ml_X11_136 im_X11_is se_X11_is rfl sh_143 (by decide) rfl rfl (sp_X11_is s 2 v2 (by decide) a4 a5) ?_
    obtain ⟨vt, vf⟩ := v
    refine k_ifb_eq 30 dX11_letter_15 rfl (fun c6 => ?_) (fun c6 => ?_)
    · have v := vt c6
      refine k_bipush dX11_letter_30 rfl ?_
      exact k_ireturn (st := []) dX11_letter_32 rfl v
    · have v := vf c6
      obtain ⟨a7, a8, v⟩ := v
      refine k_iload_n dX11_letter_18 rfl ?_
      refine k_i2l dX11_letter_19 a7 ?_
      refine k_lconst 0 dX11_letter_20 rfl ?_
      refine k_ldc2 (39) (39) dX11_letter_21 kl_X11_140 rfl ?_
      refine k_invS [jL v3, jL 0, jL 39] [] dX11_letter_24 cm_X11_in ml_X11_120 st_X11_in rfl rfl (sp_X11_in s v3 0 39 a8 (by decide) (by decide)) ?_
      obtain ⟨vt, vf⟩ := v
      refine k_ifb_ne 33 dX11_letter_27 rfl (fun c9 => ?_) (fun c9 => ?_)
      · have v := vt c9
        obtain ⟨a10, v⟩ := v
        refine k_aload_n dX11_letter_33 rfl ?_
        refine k_getr dX11_letter_34 fl_X11_16 sh_143 (by decide) rfl ?_
        refine k_iconst dX11_letter_37 ?_
        refine k_iald 6 dX11_letter_38 sh_146 (by decide) rfl (by decide) (by decide) ?_
        refine k_bipush dX11_letter_39 rfl ?_
        obtain ⟨vt, vf⟩ := v
        refine k_icmp_ne 47 dX11_letter_41 rfl a10 (by decide) (fun c11 => ?_) (fun c11 => ?_)
        · have v := vt c11
          obtain ⟨a12, v⟩ := v
          refine k_aload_n dX11_letter_47 rfl ?_
          refine k_getr dX11_letter_48 fl_X11_34 sh_143 (by decide) rfl ?_
          refine k_aload_n dX11_letter_51 rfl ?_
          refine k_getr dX11_letter_52 fl_X11_16 sh_143 (by decide) rfl ?_
          refine k_iconst dX11_letter_55 ?_
          refine k_iald 6 dX11_letter_56 sh_146 (by decide) rfl (by decide) (by decide) ?_
          refine k_iload_n dX11_letter_57 rfl ?_
          refine k_iast 30 dX11_letter_58 sh_152 (by decide) rfl (by decide) a12 ?_
          refine k_aload_n dX11_letter_59 rfl ?_
          refine k_getr dX11_letter_60 fl_X11_37 sh_143 (by decide) rfl ?_
          refine k_aload_n dX11_letter_63 rfl ?_
          refine k_getr dX11_letter_64 fl_X11_16 sh_143 (by decide) rfl ?_
          refine k_iconst dX11_letter_67 ?_
          refine k_iald 6 dX11_letter_68 sh_146 (by decide) rfl (by decide) (by decide) ?_
          rw [show ((w2 s 152 (s 146 3) v1) 146 3) = (s 146 3) from by rw [w2_k (by omega)]]
          refine k_iload_n dX11_letter_69 rfl ?_
          refine k_iast 30 dX11_letter_70 sh_153 (by decide) rfl (by decide) a12 ?_
          refine k_aload_n dX11_letter_71 rfl ?_
          refine k_getr dX11_letter_72 fl_X11_40 sh_143 (by decide) rfl ?_
          refine k_aload_n dX11_letter_75 rfl ?_
          refine k_getr dX11_letter_76 fl_X11_16 sh_143 (by decide) rfl ?_
          refine k_iconst dX11_letter_79 ?_
          refine k_iald 6 dX11_letter_80 sh_146 (by decide) rfl (by decide) (by decide) ?_
          rw [show ((w2 (w2 s 152 (s 146 3) v1) 153 (s 146 3) v2) 146 3) = (s 146 3) from by rw [w2_k (by omega), w2_k (by omega)]]
          refine k_iload_n dX11_letter_81 rfl ?_
          refine k_iast 30 dX11_letter_82 sh_154 (by decide) rfl (by decide) a12 ?_
          refine k_aload_n dX11_letter_83 rfl ?_
          refine k_getr dX11_letter_84 fl_X11_43 sh_143 (by decide) rfl ?_
          refine k_aload_n dX11_letter_87 rfl ?_
          refine k_getr dX11_letter_88 fl_X11_16 sh_143 (by decide) rfl ?_
          refine k_iconst dX11_letter_91 ?_
          refine k_iald 6 dX11_letter_92 sh_146 (by decide) rfl (by decide) (by decide) ?_
          rw [show ((w2 (w2 (w2 s 152 (s 146 3) v1) 153 (s 146 3) v2) 154 (s 146 3) v3) 146 3) = (s 146 3) from by rw [w2_k (by omega), w2_k (by omega), w2_k (by omega)]]
          refine k_iconst dX11_letter_93 ?_
          refine k_iast 30 dX11_letter_94 sh_155 (by decide) rfl (by decide) a12 ?_
          refine k_aload_n dX11_letter_95 rfl ?_
          refine k_iconst dX11_letter_96 ?_
          refine k_invV [jI 3] [] dX11_letter_97 cm_X11_next ml_X11_128 im_X11_next se_X11_next rfl sh_143 (by decide) rfl rfl (sp_X11_next (w2 (w2 (w2 (w2 s 152 (s 146 3) v1) 153 (s 146 3) v2) 154 (s 146 3) v3) 155 (s 146 3) 0) 3 (by decide)) ?_
          exact k_ireturn (st := []) dX11_letter_100 rfl v
        · have v := vf c11
          refine k_bipush dX11_letter_44 rfl ?_
          exact k_ireturn (st := []) dX11_letter_46 rfl v
      · have v := vf c9
        refine k_bipush dX11_letter_30 rfl ?_
        exact k_ireturn (st := []) dX11_letter_32 rfl v
theorem g_X11_write {s : Int → Int → Int} {Q : Option jV → (Int → Int → Int) → Prop} {v1 v2 : Int} (v : (jr32 v1 ∧ (0 ≤ s 146 3 ∧ s 146 3 ≤ 1000) ∧ ((¬ (0 ≤ v1 ∧ v1 ≤ s 146 3 - 1) → Q (some (jI (-2))) s) ∧ (0 ≤ v1 ∧ v1 ≤ s 146 3 - 1 → (jr32 v2 ∧ (0 ≤ s 146 0 ∧ s 146 0 ≤ 1000) ∧ ((0 ≤ v2 ∧ v2 ≤ s 146 0 - 1 → ((0 ≤ v1 ∧ v1 < 30) ∧ jr32 (s 155 v1) ∧ (((s 155 v1) ≠ 8 → ((0 ≤ ((8 * v1) + (s 155 v1)) ∧ ((8 * v1) + (s 155 v1)) < 240) ∧ Q (some (jI ((s 155 v1) + 1))) (w2 (w2 s 156 ((8 * v1) + (s 155 v1)) v2) 155 v1 ((s 155 v1) + 1)))) ∧ ((s 155 v1) = 8 → Q (some (jI (-4))) s)))) ∧ (¬ (0 ≤ v2 ∧ v2 ≤ s 146 0 - 1) → Q (some (jI (-2))) s))))))) : kR mX11_write [jR 143, jI v1, jI v2] s Q := by
  show kK mX11_write 0 [jR 143, jI v1, jI v2] [] s Q
  obtain ⟨a1, a2, v⟩ := v
  refine k_aload_n dX11_write_0 rfl ?_
  refine k_iconst dX11_write_1 ?_
  refine k_iload_n dX11_write_2 rfl ?_
  refine k_invV [jI 3, jI v1] [] dX11_write_3 cm_X11_is ml_X11_136 im_X11_is se_X11_is rfl sh_143 (by decide) rfl rfl (sp_X11_is s 3 v1 (by decide) a1 a2) ?_
  obtain ⟨vt, vf⟩ := v
  refine k_ifb_eq 18 dX11_write_6 rfl (fun c3 => ?_) (fun c3 => ?_)
  · have v := vt c3
    refine k_bipush dX11_write_18 rfl ?_
    exact k_ireturn (st := []) dX11_write_20 rfl v
  · have v := vf c3
    obtain ⟨a4, a5, v⟩ := v
    refine k_aload_n dX11_write_9 rfl ?_
    refine k_iconst dX11_write_10 ?_
    refine k_iload_n dX11_write_11 rfl ?_
    refine k_invV [jI 0, jI v2] [] dX11_write_12 cm_X11_is ml_X11_136 im_X11_is se_X11_is rfl sh_143 (by decide) rfl rfl (sp_X11_is s 0 v2 (by decide) a4 a5) ?_
    obtain ⟨vt, vf⟩ := v
    refine k_ifb_ne 21 dX11_write_15 rfl (fun c6 => ?_) (fun c6 => ?_)
    · have v := vt c6
      obtain ⟨a7, a8, v⟩ := v
      refine k_aload_n dX11_write_21 rfl ?_
      refine k_getr dX11_write_22 fl_X11_43 sh_143 (by decide) rfl ?_
      refine k_iload_n dX11_write_25 rfl ?_
      refine k_iald 30 dX11_write_26 sh_155 (by decide) rfl (by decide) a7 ?_
      refine k_bipush dX11_write_27 rfl ?_
      obtain ⟨vt, vf⟩ := v
      refine k_icmp_ne 35 dX11_write_29 rfl a8 (by decide) (fun c9 => ?_) (fun c9 => ?_)
      · have v := vt c9
        obtain ⟨a10, v⟩ := v
        refine k_aload_n dX11_write_35 rfl ?_
        refine k_getr dX11_write_36 fl_X11_46 sh_143 (by decide) rfl ?_
        refine k_bipush dX11_write_39 rfl ?_
        refine k_iload_n dX11_write_41 rfl ?_
        refine k_imul dX11_write_42 ?_
        refine k_aload_n dX11_write_43 rfl ?_
        refine k_getr dX11_write_44 fl_X11_43 sh_143 (by decide) rfl ?_
        refine k_iload_n dX11_write_47 rfl ?_
        refine k_iald 30 dX11_write_48 sh_155 (by decide) rfl (by decide) a7 ?_
        refine k_iadd dX11_write_49 ?_
        refine k_iload_n dX11_write_50 rfl ?_
        refine k_iast 240 dX11_write_51 sh_156 (by decide) rfl (by decide) a10 ?_
        refine k_aload_n dX11_write_52 rfl ?_
        refine k_getr dX11_write_53 fl_X11_43 sh_143 (by decide) rfl ?_
        refine k_iload_n dX11_write_56 rfl ?_
        refine k_dup2 dX11_write_57 rfl ?_
        refine k_iald 30 dX11_write_58 sh_155 (by decide) rfl (by decide) a7 ?_
        rw [show ((w2 s 156 ((8 * v1) + (s 155 v1)) v2) 155 v1) = (s 155 v1) from by rw [w2_k (by omega)]]
        refine k_iconst dX11_write_59 ?_
        refine k_iadd dX11_write_60 ?_
        refine k_iast 30 dX11_write_61 sh_155 (by decide) rfl (by decide) a7 ?_
        refine k_aload_n dX11_write_62 rfl ?_
        refine k_getr dX11_write_63 fl_X11_43 sh_143 (by decide) rfl ?_
        refine k_iload_n dX11_write_66 rfl ?_
        refine k_iald 30 dX11_write_67 sh_155 (by decide) rfl (by decide) a7 ?_
        rw [show ((w2 (w2 s 156 ((8 * v1) + (s 155 v1)) v2) 155 v1 ((s 155 v1) + 1)) 155 v1) = ((s 155 v1) + 1) from by rw [w2_s]]
        exact k_ireturn (st := []) dX11_write_68 rfl v
      · have v := vf c9
        refine k_bipush dX11_write_32 rfl ?_
        exact k_ireturn (st := []) dX11_write_34 rfl v
    · have v := vf c6
      refine k_bipush dX11_write_18 rfl ?_
      exact k_ireturn (st := []) dX11_write_20 rfl v
theorem g_X11_weight {s : Int → Int → Int} {Q : Option jV → (Int → Int → Int) → Prop} {v1 v2 : Int} (v : (jr32 v1 ∧ ((¬ (0 ≤ v1 ∧ v1 ≤ 3) → Q (some (jI (-2))) s) ∧ (0 ≤ v1 ∧ v1 ≤ 3 → (jr32 v2 ∧ jr64 v2 ∧ ((1 ≤ v2 ∧ v2 ≤ 9 → ((0 ≤ v1 ∧ v1 < 4) ∧ Q (some (jI (s 157 v1))) (w2 s 157 v1 v2))) ∧ (¬ (1 ≤ v2 ∧ v2 ≤ 9) → Q (some (jI (-2))) s))))))) : kR mX11_weight [jR 143, jI v1, jI v2] s Q := by
  show kK mX11_weight 0 [jR 143, jI v1, jI v2, jU] [] s Q
  obtain ⟨a1, v⟩ := v
  refine k_iload_n dX11_weight_0 rfl ?_
  refine k_invS [jI v1] [] dX11_weight_1 cm_X11_isGift ml_X11_142 st_X11_isGift rfl rfl (sp_X11_isGift s v1 a1) ?_
  obtain ⟨vt, vf⟩ := v
  refine k_ifb_eq 19 dX11_weight_4 rfl (fun c2 => ?_) (fun c2 => ?_)
  · have v := vt c2
    refine k_bipush dX11_weight_19 rfl ?_
    exact k_ireturn (st := []) dX11_weight_21 rfl v
  · have v := vf c2
    obtain ⟨a3, a4, v⟩ := v
    refine k_iload_n dX11_weight_7 rfl ?_
    refine k_i2l dX11_weight_8 a3 ?_
    refine k_lconst 1 dX11_weight_9 rfl ?_
    refine k_ldc2 (9) (9) dX11_weight_10 kl_X11_124 rfl ?_
    refine k_invS [jL v2, jL 1, jL 9] [] dX11_weight_13 cm_X11_in ml_X11_120 st_X11_in rfl rfl (sp_X11_in s v2 1 9 a4 (by decide) (by decide)) ?_
    obtain ⟨vt, vf⟩ := v
    refine k_ifb_ne 22 dX11_weight_16 rfl (fun c5 => ?_) (fun c5 => ?_)
    · have v := vt c5
      obtain ⟨a6, v⟩ := v
      refine k_aload_n dX11_weight_22 rfl ?_
      refine k_getr dX11_weight_23 fl_X11_49 sh_143 (by decide) rfl ?_
      refine k_iload_n dX11_weight_26 rfl ?_
      refine k_iald 4 dX11_weight_27 sh_157 (by decide) rfl (by decide) a6 ?_
      refine k_istore_n [jR 143, jI v1, jI v2, jI (s 157 v1)] dX11_weight_28 rfl rfl ?_
      refine k_aload_n dX11_weight_29 rfl ?_
      refine k_getr dX11_weight_30 fl_X11_49 sh_143 (by decide) rfl ?_
      refine k_iload_n dX11_weight_33 rfl ?_
      refine k_iload_n dX11_weight_34 rfl ?_
      refine k_iast 4 dX11_weight_35 sh_157 (by decide) rfl (by decide) a6 ?_
      refine k_iload_n dX11_weight_36 rfl ?_
      exact k_ireturn (st := []) dX11_weight_37 rfl v
    · have v := vf c5
      refine k_bipush dX11_weight_19 rfl ?_
      exact k_ireturn (st := []) dX11_weight_21 rfl v
theorem sp_X11_word (s : Int → Int → Int) (v1 v2 : Int) (h1 : jr32 v1) (h2 : jr32 v2) (hw : WM s) : kR mX11_word [jR 143, jI v1, jI v2] s (fun r s' => ∃ y, r = some (jI y) ∧ jg3 ((0 ≤ v1 ∧ v1 ≤ 9) ∧ (0 ≤ v2 ∧ v2 ≤ 2)) (8 ≤ s 146 0) (-2) (s 146 0) s (w2 (w2 (w2 s 147 (s 146 0) v1) 148 (s 146 0) v2) 146 0 (s 146 0 + 1)) y s') := by
  have hn := hw.1
  exact g_X11_word ⟨h1, j3264 h1, fun c => ⟨_, rfl, Or.inl ⟨fun q => c q.1, rfl, rfl⟩⟩, fun c => ⟨h2, j3264 h2, fun c2 => ⟨⟨by omega, by omega⟩, fun c3 => ⟨⟨by omega, by omega⟩, _, rfl, Or.inr (Or.inr ⟨⟨c, c2⟩, by omega, rfl, rfl⟩)⟩, fun c3 => ⟨_, rfl, Or.inr (Or.inl ⟨⟨c, c2⟩, by omega, rfl, rfl⟩)⟩⟩, fun c2 => ⟨_, rfl, Or.inl ⟨fun q => c2 q.2, rfl, rfl⟩⟩⟩⟩
theorem sp_X11_hand (s : Int → Int → Int) (v1 : Int) (h1 : jr32 v1) (hw : WM s) : kR mX11_hand [jR 143, jI v1] s (fun r s' => ∃ y, r = some (jI y) ∧ jg3 (-1 ≤ v1 ∧ v1 ≤ s 146 1 - 1) (6 ≤ s 146 1) (-2) (s 146 1) s (w2 (w2 s 149 (s 146 1) v1) 146 1 (s 146 1 + 1)) y s') := by
  have hn := hw.2.1
  exact g_X11_hand ⟨h1, ⟨by omega, by omega⟩, j3264 h1, ⟨by omega, by omega⟩, fun c => ⟨⟨by omega, by omega⟩, fun c3 => ⟨⟨by omega, by omega⟩, _, rfl, Or.inr (Or.inr ⟨c, by omega, rfl, rfl⟩)⟩, fun c3 => ⟨_, rfl, Or.inr (Or.inl ⟨c, by omega, rfl, rfl⟩)⟩⟩, fun c => ⟨_, rfl, Or.inl ⟨c, rfl, rfl⟩⟩⟩
theorem sp_X11_pupil (s : Int → Int → Int) (v1 v2 : Int) (h1 : jr32 v1) (h2 : jr32 v2) (hw : WM s) : kR mX11_pupil [jR 143, jI v1, jI v2] s (fun r s' => ∃ y, r = some (jI y) ∧ jg3 ((1 ≤ v1 ∧ v1 ≤ 2) ∧ (-1 ≤ v2 ∧ v2 ≤ 3)) (8 ≤ s 146 2) (-2) (s 146 2) s (w2 (w2 (w2 s 150 (s 146 2) v1) 151 (s 146 2) v2) 146 2 (s 146 2 + 1)) y s') := by
  have hn := hw.2.2.1
  exact g_X11_pupil ⟨h1, j3264 h1, fun c => ⟨_, rfl, Or.inl ⟨fun q => c q.1, rfl, rfl⟩⟩, fun c => ⟨h2, j3264 h2, fun c2 => ⟨⟨by omega, by omega⟩, fun c3 => ⟨⟨by omega, by omega⟩, _, rfl, Or.inr (Or.inr ⟨⟨c, c2⟩, by omega, rfl, rfl⟩)⟩, fun c3 => ⟨_, rfl, Or.inr (Or.inl ⟨⟨c, c2⟩, by omega, rfl, rfl⟩)⟩⟩, fun c2 => ⟨_, rfl, Or.inl ⟨fun q => c2 q.2, rfl, rfl⟩⟩⟩⟩
theorem sp_X11_became (s : Int → Int → Int) (v1 v2 : Int) (h1 : jr32 v1) (h2 : jr32 v2) (hw : WM s) : kR mX11_became [jR 143, jI v1, jI v2] s (fun r s' => ∃ y, r = some (jI y) ∧ jg3 ((0 ≤ v1 ∧ v1 ≤ s 146 2 - 1) ∧ (-1 ≤ v2 ∧ v2 ≤ 3)) False (-10) (s 151 v1) s (w2 s 151 v1 v2) y s') := by
  have hn := hw.2.2.1
  exact g_X11_became ⟨h1, ⟨by omega, by omega⟩, fun c => ⟨_, rfl, Or.inl ⟨fun q => c q.1, rfl, rfl⟩⟩, fun c => ⟨h2, j3264 h2, fun c2 => ⟨⟨by omega, by omega⟩, _, rfl, Or.inr (Or.inr ⟨⟨c, c2⟩, id, rfl, rfl⟩)⟩, fun c2 => ⟨_, rfl, Or.inl ⟨fun q => c2 q.2, rfl, rfl⟩⟩⟩⟩
theorem sp_X11_letter (s : Int → Int → Int) (v1 v2 v3 : Int) (h1 : jr32 v1) (h2 : jr32 v2) (h3 : jr32 v3) (hw : WM s) : kR mX11_letter [jR 143, jI v1, jI v2, jI v3] s (fun r s' => ∃ y, r = some (jI y) ∧ jg3 ((0 ≤ v1 ∧ v1 ≤ s 146 1 - 1) ∧ (0 ≤ v2 ∧ v2 ≤ s 146 2 - 1) ∧ (0 ≤ v3 ∧ v3 ≤ 39)) (30 ≤ s 146 3) (-2) (s 146 3) s (w2 (w2 (w2 (w2 (w2 s 152 (s 146 3) v1) 153 (s 146 3) v2) 154 (s 146 3) v3) 155 (s 146 3) 0) 146 3 (s 146 3 + 1)) y s') := by
  obtain ⟨-, n1, n2, n3, -⟩ := hw
  exact g_X11_letter ⟨h1, ⟨by omega, by omega⟩, fun c => ⟨_, rfl, Or.inl ⟨fun q => c q.1, rfl, rfl⟩⟩, fun c => ⟨h2, ⟨by omega, by omega⟩, fun c2 => ⟨_, rfl, Or.inl ⟨fun q => c2 q.2.1, rfl, rfl⟩⟩, fun c2 => ⟨h3, j3264 h3, fun c3 => ⟨⟨by omega, by omega⟩, fun c4 => ⟨⟨by omega, by omega⟩, _, rfl, Or.inr (Or.inr ⟨⟨c, c2, c3⟩, by omega, rfl, rfl⟩)⟩, fun c4 => ⟨_, rfl, Or.inr (Or.inl ⟨⟨c, c2, c3⟩, by omega, rfl, rfl⟩)⟩⟩, fun c3 => ⟨_, rfl, Or.inl ⟨fun q => c3 q.2.2, rfl, rfl⟩⟩⟩⟩⟩
theorem sp_X11_write (s : Int → Int → Int) (v1 v2 : Int) (h1 : jr32 v1) (h2 : jr32 v2) (hw : WM s) : kR mX11_write [jR 143, jI v1, jI v2] s (fun r s' => ∃ y, r = some (jI y) ∧ jg3 ((0 ≤ v1 ∧ v1 ≤ s 146 3 - 1) ∧ (0 ≤ v2 ∧ v2 ≤ s 146 0 - 1)) (8 ≤ s 155 v1) (-2) (s 155 v1 + 1) s (w2 (w2 s 156 (8 * v1 + s 155 v1) v2) 155 v1 (s 155 v1 + 1)) y s') := by
  obtain ⟨n0, -, -, n3, -, -, -, -, -, -, -, -, hl, -⟩ := hw
  exact g_X11_write ⟨h1, ⟨by omega, by omega⟩, fun c => ⟨_, rfl, Or.inl ⟨fun q => c q.1, rfl, rfl⟩⟩, fun c => ⟨h2, ⟨by omega, by omega⟩, fun c2 => by
    have := hl v1 c.1 (by omega)
    exact ⟨⟨by omega, by omega⟩, ⟨by omega, by omega⟩, fun c3 => ⟨⟨by omega, by omega⟩, _, rfl, Or.inr (Or.inr ⟨⟨c, c2⟩, by omega, rfl, rfl⟩)⟩, fun c3 => ⟨_, rfl, Or.inr (Or.inl ⟨⟨c, c2⟩, by omega, rfl, rfl⟩)⟩⟩, fun c2 => ⟨_, rfl, Or.inl ⟨fun q => c2 q.2, rfl, rfl⟩⟩⟩⟩
theorem sp_X11_weight (s : Int → Int → Int) (v1 v2 : Int) (h1 : jr32 v1) (h2 : jr32 v2) : kR mX11_weight [jR 143, jI v1, jI v2] s (fun r s' => ∃ y, r = some (jI y) ∧ jg3 ((0 ≤ v1 ∧ v1 ≤ 3) ∧ (1 ≤ v2 ∧ v2 ≤ 9)) False (-2) (s 157 v1) s (w2 s 157 v1 v2) y s') :=
  g_X11_weight ⟨h1, fun c => ⟨_, rfl, Or.inl ⟨fun q => c q.1, rfl, rfl⟩⟩, fun c => ⟨h2, j3264 h2, fun c2 => ⟨⟨by omega, by omega⟩, _, rfl, Or.inr (Or.inr ⟨⟨c, c2⟩, id, rfl, rfl⟩)⟩, fun c2 => ⟨_, rfl, Or.inl ⟨fun q => c2 q.2, rfl, rfl⟩⟩⟩⟩
