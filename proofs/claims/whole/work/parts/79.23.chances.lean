theorem g_X1_wordsFor {s : Int → Int → Int} {Q : Option jV → (Int → Int → Int) → Prop} {v1 : Int} (v : kK mX1_wordsFor 4 [jR 71, jI v1, jI 0, jI 0] [] s Q) : kR mX1_wordsFor [jR 71, jI v1] s Q := by
  show kK mX1_wordsFor 0 [jR 71, jI v1, jU, jU] [] s Q
  refine k_iconst dX1_wordsFor_0 ?_
  refine k_istore_n [jR 71, jI v1, jI 0, jU] dX1_wordsFor_1 rfl rfl ?_
  refine k_iconst dX1_wordsFor_2 ?_
  refine k_istore_n [jR 71, jI v1, jI 0, jI 0] dX1_wordsFor_3 rfl rfl ?_
  exact v
theorem g_X1_wordsFor_4 {s : Int → Int → Int} {Q : Option jV → (Int → Int → Int) → Prop} {v1 v2 v3 : Int} (v : (jr32 v3 ∧ jr32 (s 2 13) ∧ (((s 2 13) ≤ v3 → Q (some (jI v2)) s) ∧ (¬ ((s 2 13) ≤ v3) → ((0 ≤ v3 ∧ v3 < 30) ∧ jr32 (s 9 v3) ∧ jr32 v1 ∧ (((s 9 v3) ≠ v1 → kK mX1_wordsFor 4 [jR 71, jI v1, jI v2, jI (v3 + 1)] [] s Q) ∧ ((s 9 v3) = v1 → kK mX1_wordsFor 4 [jR 71, jI v1, jI (v2 + (s 11 v3)), jI (v3 + 1)] [] s Q))))))) : kK mX1_wordsFor 4 [jR 71, jI v1, jI v2, jI v3] [] s Q := by
  obtain ⟨a1, a2, v⟩ := v
  refine k_iload_n dX1_wordsFor_4 rfl ?_
  refine k_aload_n dX1_wordsFor_5 rfl ?_
  refine k_getr dX1_wordsFor_6 fl_X1_22 sh_71 (by decide) rfl ?_
  refine k_geti 13 dX1_wordsFor_9 fl_X1_34 sh_2 (by decide) rfl rfl ?_
  obtain ⟨vt, vf⟩ := v
  refine k_icmp_ge 46 dX1_wordsFor_12 rfl a1 a2 (fun c3 => ?_) (fun c3 => ?_)
  · have v := vt c3
    refine k_iload_n dX1_wordsFor_46 rfl ?_
    exact k_ireturn (st := []) dX1_wordsFor_47 rfl v
  · have v := vf c3
    obtain ⟨a4, a5, a6, v⟩ := v
    refine k_aload_n dX1_wordsFor_15 rfl ?_
    refine k_getr dX1_wordsFor_16 fl_X1_22 sh_71 (by decide) rfl ?_
    refine k_getr dX1_wordsFor_19 fl_X1_40 sh_2 (by decide) rfl ?_
    refine k_iload_n dX1_wordsFor_22 rfl ?_
    refine k_iald 30 dX1_wordsFor_23 sh_9 (by decide) rfl (by decide) a4 ?_
    refine k_iload_n dX1_wordsFor_24 rfl ?_
    obtain ⟨vt, vf⟩ := v
    refine k_icmp_ne 40 dX1_wordsFor_25 rfl a5 a6 (fun c7 => ?_) (fun c7 => ?_)
    · have v := vt c7
      refine k_iinc [jR 71, jI v1, jI v2, jI (v3 + 1)] dX1_wordsFor_40 rfl rfl rfl ?_
      refine k_goto 4 dX1_wordsFor_43 rfl ?_
      exact v
    · have v := vf c7
      refine k_iload_n dX1_wordsFor_28 rfl ?_
      refine k_aload_n dX1_wordsFor_29 rfl ?_
      refine k_getr dX1_wordsFor_30 fl_X1_22 sh_71 (by decide) rfl ?_
      refine k_getr dX1_wordsFor_33 fl_X1_43 sh_2 (by decide) rfl ?_
      refine k_iload_n dX1_wordsFor_36 rfl ?_
      refine k_iald 30 dX1_wordsFor_37 sh_11 (by decide) rfl (by decide) a4 ?_
      refine k_iadd dX1_wordsFor_38 ?_
      refine k_istore_n [jR 71, jI v1, jI (v2 + (s 11 v3)), jI v3] dX1_wordsFor_39 rfl rfl ?_
      refine k_iinc [jR 71, jI v1, jI (v2 + (s 11 v3)), jI (v3 + 1)] dX1_wordsFor_40 rfl rfl rfl ?_
      refine k_goto 4 dX1_wordsFor_43 rfl ?_
      exact v
theorem g_X11_wordsOf {s : Int → Int → Int} {Q : Option jV → (Int → Int → Int) → Prop} {v1 : Int} (v : kK mX11_wordsOf 4 [jR 143, jI v1, jI 0, jI 0] [] s Q) : kR mX11_wordsOf [jR 143, jI v1] s Q := by
  show kK mX11_wordsOf 0 [jR 143, jI v1, jU, jU] [] s Q
  refine k_iconst dX11_wordsOf_0 ?_
  refine k_istore_n [jR 143, jI v1, jI 0, jU] dX11_wordsOf_1 rfl rfl ?_
  refine k_iconst dX11_wordsOf_2 ?_
  refine k_istore_n [jR 143, jI v1, jI 0, jI 0] dX11_wordsOf_3 rfl rfl ?_
  exact v
theorem g_X11_wordsOf_4 {s : Int → Int → Int} {Q : Option jV → (Int → Int → Int) → Prop} {v1 v2 v3 : Int} (v : (jr32 v3 ∧ jr32 (s 146 3) ∧ (((s 146 3) ≤ v3 → Q (some (jI v2)) s) ∧ (¬ ((s 146 3) ≤ v3) → ((0 ≤ v3 ∧ v3 < 30) ∧ jr32 (s 153 v3) ∧ jr32 v1 ∧ (((s 153 v3) ≠ v1 → kK mX11_wordsOf 4 [jR 143, jI v1, jI (v2 + 0), jI (v3 + 1)] [] s Q) ∧ ((s 153 v3) = v1 → kK mX11_wordsOf 4 [jR 143, jI v1, jI (v2 + (s 155 v3)), jI (v3 + 1)] [] s Q))))))) : kK mX11_wordsOf 4 [jR 143, jI v1, jI v2, jI v3] [] s Q := by
  obtain ⟨a1, a2, v⟩ := v
  refine k_iload_n dX11_wordsOf_4 rfl ?_
  refine k_aload_n dX11_wordsOf_5 rfl ?_
  refine k_getr dX11_wordsOf_6 fl_X11_16 sh_143 (by decide) rfl ?_
  refine k_iconst dX11_wordsOf_9 ?_
  refine k_iald 6 dX11_wordsOf_10 sh_146 (by decide) rfl (by decide) (by decide) ?_
  obtain ⟨vt, vf⟩ := v
  refine k_icmp_ge 43 dX11_wordsOf_11 rfl a1 a2 (fun c3 => ?_) (fun c3 => ?_)
  · have v := vt c3
    refine k_iload_n dX11_wordsOf_43 rfl ?_
    exact k_ireturn (st := []) dX11_wordsOf_44 rfl v
  · have v := vf c3
    obtain ⟨a4, a5, a6, v⟩ := v
    refine k_iload_n dX11_wordsOf_14 rfl ?_
    refine k_aload_n dX11_wordsOf_15 rfl ?_
    refine k_getr dX11_wordsOf_16 fl_X11_37 sh_143 (by decide) rfl ?_
    refine k_iload_n dX11_wordsOf_19 rfl ?_
    refine k_iald 30 dX11_wordsOf_20 sh_153 (by decide) rfl (by decide) a4 ?_
    refine k_iload_n dX11_wordsOf_21 rfl ?_
    obtain ⟨vt, vf⟩ := v
    refine k_icmp_ne 34 dX11_wordsOf_22 rfl a5 a6 (fun c7 => ?_) (fun c7 => ?_)
    · have v := vt c7
      refine k_iconst dX11_wordsOf_34 ?_
      refine k_iadd dX11_wordsOf_35 ?_
      refine k_istore_n [jR 143, jI v1, jI (v2 + 0), jI v3] dX11_wordsOf_36 rfl rfl ?_
      refine k_iinc [jR 143, jI v1, jI (v2 + 0), jI (v3 + 1)] dX11_wordsOf_37 rfl rfl rfl ?_
      refine k_goto 4 dX11_wordsOf_40 rfl ?_
      exact v
    · have v := vf c7
      refine k_aload_n dX11_wordsOf_25 rfl ?_
      refine k_getr dX11_wordsOf_26 fl_X11_43 sh_143 (by decide) rfl ?_
      refine k_iload_n dX11_wordsOf_29 rfl ?_
      refine k_iald 30 dX11_wordsOf_30 sh_155 (by decide) rfl (by decide) a4 ?_
      refine k_goto 35 dX11_wordsOf_31 rfl ?_
      refine k_iadd dX11_wordsOf_35 ?_
      refine k_istore_n [jR 143, jI v1, jI (v2 + (s 155 v3)), jI v3] dX11_wordsOf_36 rfl rfl ?_
      refine k_iinc [jR 143, jI v1, jI (v2 + (s 155 v3)), jI (v3 + 1)] dX11_wordsOf_37 rfl rfl rfl ?_
      refine k_goto 4 dX11_wordsOf_40 rfl ?_
      exact v
theorem g_X1_factorOf {s : Int → Int → Int} {Q : Option jV → (Int → Int → Int) → Prop} {v1 v2 v3 : Int} (v : ((0 ≤ v1 ∧ v1 < 6) ∧ (0 ≤ v2 ∧ v2 < 8) ∧ (0 ≤ v3 ∧ v3 < 4) ∧ (-1 ≤ s 5 v1 ∧ s 5 v1 < 6) ∧ jr32 (1 + us s v1 v2 v3) ∧ kK mX1_factorOf 15 [jR 71, jI v1, jU, jI v3, jL (1 + us s v1 v2 v3), jU, jI 0] [] s Q)) : kR mX1_factorOf [jR 71, jI v1, jI v2, jI v3] s Q := by
  show kK mX1_factorOf 0 [jR 71, jI v1, jI v2, jI v3, jU, jU, jU] [] s Q
  obtain ⟨a1, a2, a3, a4, a5, v⟩ := v
  refine k_aload_n dX1_factorOf_0 rfl ?_
  refine k_getr dX1_factorOf_1 fl_X1_26 sh_71 (by decide) rfl ?_
  refine k_iload_n dX1_factorOf_4 rfl ?_
  refine k_iload_n dX1_factorOf_5 rfl ?_
  refine k_iload_n dX1_factorOf_6 rfl ?_
  refine k_invV [jI v1, jI v2, jI v3] [] dX1_factorOf_7 cm_X8_meantAbove ml_X1_77 im_X8_meantAbove se_X8_meantAbove rfl sh_43 (by decide) rfl rfl (sp_X8_meantAbove s v1 v2 v3 a1 a2 a3 a4 a5) ?_
  refine k_lstore [jR 71, jI v1, jI v2, jI v3, jL (1 + us s v1 v2 v3), jU, jU] dX1_factorOf_10 rfl rfl ?_
  refine k_iconst dX1_factorOf_12 ?_
  refine k_istore [jR 71, jI v1, jI v2, jI v3, jL (1 + us s v1 v2 v3), jU, jI 0] dX1_factorOf_13 rfl rfl ?_
  refine k_drop [jR 71, jI v1, jU, jI v3, jL (1 + us s v1 v2 v3), jU, jI 0] ⟨Or.inr rfl, Or.inr rfl, Or.inl rfl, Or.inr rfl, Or.inr rfl, Or.inr rfl, Or.inr rfl, trivial⟩ ?_
  exact v
theorem g_X1_factorOf_15 {s : Int → Int → Int} {Q : Option jV → (Int → Int → Int) → Prop} {v1 v3 v4 v6 : Int} (v : (jr32 v6 ∧ ((4 ≤ v6 → Q (some (jL v4)) s) ∧ (¬ (4 ≤ v6) → (jr32 v3 ∧ ((v6 = v3 → kK mX1_factorOf 15 [jR 71, jI v1, jU, jI v3, jL v4, jU, jI (v6 + 1)] [] s Q) ∧ (¬ (v6 = v3) → ((0 ≤ v1 ∧ v1 < 6) ∧ (0 ≤ v6 ∧ v6 < 4) ∧ (-1 ≤ s 5 v1 ∧ s 5 v1 < 6) ∧ jr32 (s 2 10 + ua s v1 v6) ∧ kK mX1_factorOf 15 [jR 71, jI v1, jU, jI v3, jL (v4 * (s 2 10 + ua s v1 v6)), jU, jI (v6 + 1)] [] s Q)))))))) : kK mX1_factorOf 15 [jR 71, jI v1, jU, jI v3, jL v4, jU, jI v6] [] s Q := by
  obtain ⟨a1, v⟩ := v
  refine k_iload dX1_factorOf_15 rfl ?_
  refine k_iconst dX1_factorOf_17 ?_
  obtain ⟨vt, vf⟩ := v
  refine k_icmp_ge 48 dX1_factorOf_18 rfl a1 (by decide) (fun c2 => ?_) (fun c2 => ?_)
  · have v := vt c2
    refine k_lload dX1_factorOf_48 rfl ?_
    exact k_lreturn (st := []) dX1_factorOf_50 rfl v
  · have v := vf c2
    obtain ⟨a3, v⟩ := v
    refine k_iload dX1_factorOf_21 rfl ?_
    refine k_iload_n dX1_factorOf_23 rfl ?_
    obtain ⟨vt, vf⟩ := v
    refine k_icmp_eq 42 dX1_factorOf_24 rfl a1 a3 (fun c4 => ?_) (fun c4 => ?_)
    · have v := vt c4
      refine k_iinc [jR 71, jI v1, jU, jI v3, jL v4, jU, jI (v6 + 1)] dX1_factorOf_42 rfl rfl rfl ?_
      refine k_goto 15 dX1_factorOf_45 rfl ?_
      exact v
    · have v := vf c4
      obtain ⟨a5, a6, a7, a8, v⟩ := v
      refine k_lload dX1_factorOf_27 rfl ?_
      refine k_aload_n dX1_factorOf_29 rfl ?_
      refine k_getr dX1_factorOf_30 fl_X1_26 sh_71 (by decide) rfl ?_
      refine k_iload_n dX1_factorOf_33 rfl ?_
      refine k_iload dX1_factorOf_34 rfl ?_
      refine k_invV [jI v1, jI v6] [jL v4] dX1_factorOf_36 cm_X8_meantBelow ml_X1_80 im_X8_meantBelow se_X8_meantBelow rfl sh_43 (by decide) rfl rfl (sp_X8_meantBelow s v1 v6 a5 a6 a7 a8) ?_
      refine k_lmul dX1_factorOf_39 ?_
      refine k_lstore [jR 71, jI v1, jU, jI v3, jL (v4 * (s 2 10 + ua s v1 v6)), jU, jI v6] dX1_factorOf_40 rfl rfl ?_
      refine k_iinc [jR 71, jI v1, jU, jI v3, jL (v4 * (s 2 10 + ua s v1 v6)), jU, jI (v6 + 1)] dX1_factorOf_42 rfl rfl rfl ?_
      refine k_goto 15 dX1_factorOf_45 rfl ?_
      exact v
theorem sp_X1_wordsFor (s : Int → Int → Int) (p : Int) (d : DD s) (hp : jr32 p) : kM mX1_wordsFor [jR 71, jI p] s (some (jI (wf s p))) s := by
  obtain ⟨e0, e1, e2, e3⟩ := d.cnt
  refine g_X1_wordsFor ?_
  have key : ∀ n, n ≤ s 146 3 → 0 ≤ n → kK mX1_wordsFor 4 [jR 71, jI p, jI (wfn s p n), jI n] [] s (fun r s' => r = some (jI (wf s p)) ∧ s' = s) := by
    refine lp_up _ _ (fun n hn ih n0 => ?_)
    refine g_X1_wordsFor_4 ⟨by unfold jr32; omega, by unfold jr32; omega, fun q => ⟨by rw [show n = s 146 3 by omega]; rfl, rfl⟩, fun q => ?_⟩
    obtain ⟨f1, f2, f3, f4⟩ := d.let n0 (by omega)
    have nx := ih (by omega) (by omega)
    rw [wfn_s s p n0] at nx
    rw [f2.1, f4.1]
    refine ⟨by omega, by unfold jr32; omega, hp, fun c => ?_, fun c => ?_⟩
    · rw [if_neg c, Int.add_zero] at nx; exact nx
    · rw [if_pos c] at nx; exact nx
  exact key 0 e3.2.1 (by omega)
theorem sp_X11_wordsOf (s : Int → Int → Int) (p : Int) (d : DD s) (hp : jr32 p) : kM mX11_wordsOf [jR 143, jI p] s (some (jI (wf s p))) s := by
  obtain ⟨e0, e1, e2, e3⟩ := d.cnt
  refine g_X11_wordsOf ?_
  have key : ∀ n, n ≤ s 146 3 → 0 ≤ n → kK mX11_wordsOf 4 [jR 143, jI p, jI (wfn s p n), jI n] [] s (fun r s' => r = some (jI (wf s p)) ∧ s' = s) := by
    refine lp_up _ _ (fun n hn ih n0 => ?_)
    refine g_X11_wordsOf_4 ⟨by unfold jr32; omega, by unfold jr32; omega, fun q => ⟨by rw [show n = s 146 3 by omega]; rfl, rfl⟩, fun q => ?_⟩
    obtain ⟨f1, f2, f3, f4⟩ := d.let n0 (by omega)
    have nx := ih (by omega) (by omega)
    rw [wfn_s s p n0] at nx
    refine ⟨by omega, by unfold jr32; omega, hp, fun c => ?_, fun c => ?_⟩
    · rw [if_neg c] at nx; exact nx
    · rw [if_pos c] at nx; exact nx
  exact key 0 e3.2.1 (by omega)
def facc (s : Int → Int → Int) (h w g : Int) : Int := fo 4 (fun o v => if o = g then v else v * (s 2 10 + ua s h o)) (1 + us s h w g)
def FAp (s : Int → Int → Int) (h w g : Int) : Prop := ((0 ≤ h ∧ h < 6) ∧ (0 ≤ w ∧ w < 8) ∧ (0 ≤ g ∧ g < 4) ∧ -1 ≤ s 5 h ∧ s 5 h < 6) ∧ jr32 (1 + us s h w g) ∧ ∀ o, 0 ≤ o → o < 4 → jr32 (s 2 10 + ua s h o)
theorem sp_X1_factorOf (s : Int → Int → Int) (h w g : Int) (hp : FAp s h w g) : kM mX1_factorOf [jR 71, jI h, jI w, jI g] s (some (jL (facc s h w g))) s := by
  obtain ⟨⟨h1, h2, h3, h4⟩, h5, h6⟩ := hp
  refine g_X1_factorOf ⟨h1, h2, h3, h4, h5, ?_⟩
  have key : ∀ o, o ≤ 4 → 0 ≤ o → kK mX1_factorOf 15 [jR 71, jI h, jU, jI g, jL (fo o (fun o v => if o = g then v else v * (s 2 10 + ua s h o)) (1 + us s h w g)), jU, jI o] [] s (fun r s' => r = some (jL (facc s h w g)) ∧ s' = s) := by
    refine lp_up 4 _ (fun o ho ih o0 => ?_)
    have nx : o < 4 → _ := fun q => ih q (by omega)
    refine g_X1_factorOf_15 ⟨by unfold jr32; omega, fun q => ⟨by rw [show o = 4 by omega]; rfl, rfl⟩, fun q => ⟨by unfold jr32; omega, fun c => ?_, fun c => ⟨h1, by omega, h4, h6 o o0 (by omega), ?_⟩⟩⟩
    · have := nx (by omega)
      rw [fo_s o0, if_pos c] at this
      exact this
    · have := nx (by omega)
      rw [fo_s o0, if_neg c] at this
      exact this
  exact key 0 (by omega) (by omega)
theorem g_X1_takeLetter {s : Int → Int → Int} {Q : Option jV → (Int → Int → Int) → Prop} {v1 : Int} (v : ((0 ≤ v1 ∧ v1 < 30) ∧ kK mX1_takeLetter 12 [jR 71, jI v1, jI (s 8 v1), jI 0, jU] [] s Q)) : kR mX1_takeLetter [jR 71, jI v1] s Q := by
  show kK mX1_takeLetter 0 [jR 71, jI v1, jU, jU, jU] [] s Q
  obtain ⟨a1, v⟩ := v
  refine k_aload_n dX1_takeLetter_0 rfl ?_
  refine k_getr dX1_takeLetter_1 fl_X1_22 sh_71 (by decide) rfl ?_
  refine k_getr dX1_takeLetter_4 fl_X1_63 sh_2 (by decide) rfl ?_
  refine k_iload_n dX1_takeLetter_7 rfl ?_
  refine k_iald 30 dX1_takeLetter_8 sh_8 (by decide) rfl (by decide) a1 ?_
  refine k_istore_n [jR 71, jI v1, jI (s 8 v1), jU, jU] dX1_takeLetter_9 rfl rfl ?_
  refine k_iconst dX1_takeLetter_10 ?_
  refine k_istore_n [jR 71, jI v1, jI (s 8 v1), jI 0, jU] dX1_takeLetter_11 rfl rfl ?_
  exact v
theorem g_X1_takeLetter_12 {s : Int → Int → Int} {Q : Option jV → (Int → Int → Int) → Prop} {v1 v2 v3 : Int} (v : ((0 ≤ v1 ∧ v1 < 30) ∧ jr32 v3 ∧ jr32 (s 11 v1) ∧ (((s 11 v1) ≤ v3 → Q none s) ∧ (¬ ((s 11 v1) ≤ v3) → kK mX1_takeLetter 28 [jR 71, jI v1, jI v2, jI v3, jI 0] [] s Q)))) : kK mX1_takeLetter 12 [jR 71, jI v1, jI v2, jI v3, jU] [] s Q := by
  obtain ⟨a1, a2, a3, v⟩ := v
  refine k_iload_n dX1_takeLetter_12 rfl ?_
  refine k_aload_n dX1_takeLetter_13 rfl ?_
  refine k_getr dX1_takeLetter_14 fl_X1_22 sh_71 (by decide) rfl ?_
  refine k_getr dX1_takeLetter_17 fl_X1_43 sh_2 (by decide) rfl ?_
  refine k_iload_n dX1_takeLetter_20 rfl ?_
  refine k_iald 30 dX1_takeLetter_21 sh_11 (by decide) rfl (by decide) a1 ?_
  obtain ⟨vt, vf⟩ := v
  refine k_icmp_ge 74 dX1_takeLetter_22 rfl a2 a3 (fun c4 => ?_) (fun c4 => ?_)
  · have v := vt c4
    exact k_return (st := []) dX1_takeLetter_74 rfl v
  · have v := vf c4
    refine k_iconst dX1_takeLetter_25 ?_
    refine k_istore [jR 71, jI v1, jI v2, jI v3, jI 0] dX1_takeLetter_26 rfl rfl ?_
    exact v
theorem g_X1_takeLetter_28 {s : Int → Int → Int} {Q : Option jV → (Int → Int → Int) → Prop} {v1 v2 v3 v4 : Int} (v : (jr32 v4 ∧ ((4 ≤ v4 → kK mX1_takeLetter 12 [jR 71, jI v1, jI v2, jI (v3 + 1), jU] [] s Q) ∧ (¬ (4 ≤ v4) → ((0 ≤ v4 ∧ v4 < 4) ∧ (0 ≤ v1 ∧ v1 < 30) ∧ (0 ≤ v3 ∧ v3 < 8) ∧ (FAp s v2 (s (13 + v1) v3) v4) ∧ (BG s (75 + 2 * v4) (bv s (75 + 2 * v4))) ∧ (1 ≤ (facc s v2 (s (13 + v1) v3) v4) ∧ (facc s v2 (s (13 + v1) v3) v4) ≤ 4294967295) ∧ (bv s (75 + 2 * v4) * (facc s v2 (s (13 + v1) v3) v4) < bp 16) ∧ (∀ (s11 : Int → Int → Int), (frm (bxP (75 + 2 * v4)) s s11 ∧ BG s11 (75 + 2 * v4) (bv s (75 + 2 * v4) * (facc s v2 (s (13 + v1) v3) v4))) → kK mX1_takeLetter 28 [jR 71, jI v1, jI v2, jI v3, jI (v4 + 1)] [] s11 Q)))))) : kK mX1_takeLetter 28 [jR 71, jI v1, jI v2, jI v3, jI v4] [] s Q := by
  obtain ⟨a1, v⟩ := v
  refine k_iload dX1_takeLetter_28 rfl ?_
  refine k_iconst dX1_takeLetter_30 ?_
  obtain ⟨vt, vf⟩ := v
  refine k_icmp_ge 68 dX1_takeLetter_31 rfl a1 (by decide) (fun c2 => ?_) (fun c2 => ?_)
  · have v := vt c2
    refine k_iinc [jR 71, jI v1, jI v2, jI (v3 + 1), jI v4] dX1_takeLetter_68 rfl rfl rfl ?_
    refine k_goto 12 dX1_takeLetter_71 rfl ?_
    refine k_drop [jR 71, jI v1, jI v2, jI (v3 + 1), jU] ⟨Or.inr rfl, Or.inr rfl, Or.inr rfl, Or.inr rfl, Or.inl rfl, trivial⟩ ?_
    exact v
  · have v := vf c2
    obtain ⟨a3, a4, a5, a6, a7, a8, a9, v⟩ := v
    refine k_aload_n dX1_takeLetter_34 rfl ?_
    refine k_getr dX1_takeLetter_35 fl_X1_11 sh_71 (by decide) rfl ?_
    refine k_iload dX1_takeLetter_38 rfl ?_
    refine k_aald 4 dX1_takeLetter_40 sh_72 (Or.inr (Or.inr rfl)) (by decide) rfl (by decide) rfl a3 ?_
    refine k_aload_n dX1_takeLetter_41 rfl ?_
    refine k_iload_n dX1_takeLetter_42 rfl ?_
    refine k_aload_n dX1_takeLetter_43 rfl ?_
    refine k_getr dX1_takeLetter_44 fl_X1_22 sh_71 (by decide) rfl ?_
    refine k_getr dX1_takeLetter_47 fl_X1_66 sh_2 (by decide) rfl ?_
    refine k_iload_n dX1_takeLetter_50 rfl ?_
    refine k_aald 30 dX1_takeLetter_51 sh_12 (Or.inl rfl) (by decide) rfl (by decide) rfl a4 ?_
    refine k_iload_n dX1_takeLetter_52 rfl ?_
    refine k_iald 8 dX1_takeLetter_53 (sr_12 v1 a4) ⟨by have := a4; omega, by have := a4; omega⟩ rfl (by decide) a5 ?_
    refine k_iload dX1_takeLetter_54 rfl ?_
    refine k_invV [jI v2, jI (s (13 + v1) v3), jI v4] [jR (75 + 2 * v4)] dX1_takeLetter_56 cm_X1_factorOf ml_X1_70 im_X1_factorOf se_X1_factorOf rfl sh_71 (by decide) rfl rfl (sp_X1_factorOf s v2 (s (13 + v1) v3) v4 a6) ?_
    refine k_invVR [jL (facc s v2 (s (13 + v1) v3) v4)] [] dX1_takeLetter_59 cm_X0_multiply ml_X1_74 im_X0_multiply se_X0_multiply rfl (sb_72 v4 a3).1 (jbr0 (sb_72 v4 a3)) rfl rfl (sp_X0_multiply s (75 + 2 * v4) (facc s v2 (s (13 + v1) v3) v4) (sb_72 v4 a3) a7 a8 a9) (fun _ s11 q12 => ?_)
    obtain ⟨rfl, q12⟩ := q12
    have v := v s11 q12
    refine k_iinc [jR 71, jI v1, jI v2, jI v3, jI (v4 + 1)] dX1_takeLetter_62 rfl rfl rfl ?_
    refine k_goto 28 dX1_takeLetter_65 rfl ?_
    exact v
def chP (k : Int) : Prop := 75 ≤ k ∧ k ≤ 82
def TLq (s : Int → Int → Int) : Prop := ∀ h w g, 0 ≤ h → h < s 146 1 → 0 ≤ w → w < 8 → 0 ≤ g → g < 4 → (0 ≤ us s h w g ∧ us s h w g ≤ 240) ∧ 0 ≤ ua s h g ∧ ua s h g ≤ 240
def TKp (s : Int → Int → Int) (l : Int) : Prop := DD s ∧ TLq s ∧ (0 ≤ l ∧ l < s 146 3) ∧ ∃ c, (0 ≤ c ∧ c + s 155 l ≤ 12) ∧ ∀ g, 0 ≤ g → g < 4 → BG s (75 + 2 * g) (bv s (75 + 2 * g)) ∧ 1 ≤ bv s (75 + 2 * g) ∧ bv s (75 + 2 * g) ≤ 9 * 4294967295 ^ c.toNat
theorem facc_r {s : Int → Int → Int} (d : DD s) (t : TLq s) {l k g : Int} (l0 : 0 ≤ l) (l1 : l < s 146 3) (k0 : 0 ≤ k) (k1 : k < s 155 l) (hg : 0 ≤ g ∧ g < 4) : FAp s (s 152 l) (s 156 (8 * l + k)) g ∧ 1 ≤ facc s (s 152 l) (s 156 (8 * l + k)) g ∧ facc s (s 152 l) (s 156 (8 * l + k)) g ≤ 4294967295 := by
  obtain ⟨e0, e1, e2, e3⟩ := d.cnt
  obtain ⟨f1, -⟩ := d.let l0 l1
  obtain ⟨-, t2, t3⟩ := d.txt l0 l1 k0 k1
  obtain ⟨n1, n2, n3⟩ := d.hnd f1.2.1 f1.2.2
  have r : ∀ o, 0 ≤ o → o < 4 → 1 ≤ s 2 10 + ua s (s 152 l) o ∧ s 2 10 + ua s (s 152 l) o ≤ 248 := fun o o0 o1 => by
    have := (t (s 152 l) 0 o f1.2.1 f1.2.2 (by omega) (by omega) o0 o1).2
    omega
  have u := (t (s 152 l) (s 156 (8 * l + k)) g f1.2.1 f1.2.2 t2 (by omega) hg.1 hg.2).1
  refine ⟨⟨⟨by omega, by omega, hg, by omega, by omega⟩, by unfold jr32; omega, fun o o0 o1 => by have := r o o0 o1; unfold jr32; omega⟩, ?_⟩
  unfold facc
  rw [fo4_m]
  exact m4_b (by omega) (r 0 (by omega) (by omega)) (r 1 (by omega) (by omega)) (r 2 (by omega) (by omega)) (r 3 (by omega) (by omega)) hg
theorem ua_fr {s s' : Int → Int → Int} (f : frm chP s s') : ua s' = ua s := by
  funext h g
  unfold ua
  rw [f 5 (by unfold chP; omega), f 69 (by unfold chP; omega)]
theorem us_fr {s s' : Int → Int → Int} (f : frm chP s s') {h w g : Int} (hh : 0 ≤ h ∧ h < 6) (h5 : -1 ≤ s 5 h ∧ s 5 h < 6) (hg : 0 ≤ g ∧ g < 4) : us s' h w g = us s h w g := by
  unfold us
  rw [f 5 (by unfold chP; omega), f (45 + (h * 4 + g)) (by unfold chP; omega)]
  by_cases y : s 5 h = -1
  · rw [if_pos y, if_pos y]
  · rw [if_neg y, if_neg y, f (45 + (s 5 h * 4 + g)) (by unfold chP; omega)]
theorem facc_fr {s s' : Int → Int → Int} (f : frm chP s s') {h w g : Int} (hh : 0 ≤ h ∧ h < 6) (h5 : -1 ≤ s 5 h ∧ s 5 h < 6) (hg : 0 ≤ g ∧ g < 4) : facc s' h w g = facc s h w g := by
  unfold facc
  rw [us_fr f hh h5 hg, ua_fr f, f 2 (by unfold chP; omega)]
theorem TLq.fr {s s' : Int → Int → Int} (t : TLq s) (d : DD s) (f : frm chP s s') : TLq s' := fun h w g h0 h1 w0 w1 g0 g1 => by
  have e146 : s' 146 = s 146 := f 146 (by unfold chP; omega)
  rw [e146] at h1
  obtain ⟨e0, e1, e2, e3⟩ := d.cnt
  obtain ⟨n1, n2, n3⟩ := d.hnd h0 h1
  rw [us_fr f (by omega) (by omega) ⟨g0, g1⟩, ua_fr f]
  exact t h w g h0 h1 w0 w1 g0 g1
theorem sp_X1_takeLetter (s : Int → Int → Int) (l : Int) (hp : TKp s l) : kR mX1_takeLetter [jR 71, jI l] s (fun r s' => r = none ∧ frm chP s s' ∧ ∀ g, 0 ≤ g → g < 4 → BG s' (75 + 2 * g) (fo (s 155 l) (fun k v => v * facc s (s 152 l) (s 156 (8 * l + k)) g) (bv s (75 + 2 * g)))) := by
  obtain ⟨d, t, hl, c, hc, hB⟩ := hp
  obtain ⟨e0, e1, e2, e3⟩ := d.cnt
  obtain ⟨f1, f2, f3, f4⟩ := d.let hl.1 hl.2
  obtain ⟨n1, n2, n3⟩ := d.hnd f1.2.1 f1.2.2
  refine g_X1_takeLetter ⟨by omega, ?_⟩
  rw [f1.1]
  have pb : ∀ g, 0 ≤ g → g < 4 → ∀ k, 0 ≤ k → k ≤ s 155 l → 1 ≤ fo k (fun k v => v * facc s (s 152 l) (s 156 (8 * l + k)) g) (bv s (75 + 2 * g)) ∧ fo k (fun k v => v * facc s (s 152 l) (s 156 (8 * l + k)) g) (bv s (75 + 2 * g)) ≤ 9 * 4294967295 ^ (c + k).toNat := fun g g0 g1 k k0 k1 =>
    fo_b (f := fun k => facc s (s 152 l) (s 156 (8 * l + k)) g) (A := 9) (M := 4294967295) (c := c) (by decide) (by decide) hc.1 k k0 (fun i i0 i1 => (facc_r d t hl.1 hl.2 i0 (by omega) ⟨g0, g1⟩).2) _ (hB g g0 g1).2
  have b13 : bp 13 ≤ bp 16 := bp_le (by omega)
  have key : ∀ k, k ≤ s 155 l → 0 ≤ k → ∀ s1, frm chP s s1 → (∀ g, 0 ≤ g → g < 4 → BG s1 (75 + 2 * g) (fo k (fun k v => v * facc s (s 152 l) (s 156 (8 * l + k)) g) (bv s (75 + 2 * g)))) → kK mX1_takeLetter 12 [jR 71, jI l, jI (s 152 l), jI k, jU] [] s1 (fun r s' => r = none ∧ frm chP s s' ∧ ∀ g, 0 ≤ g → g < 4 → BG s' (75 + 2 * g) (fo (s 155 l) (fun k v => v * facc s (s 152 l) (s 156 (8 * l + k)) g) (bv s (75 + 2 * g)))) := by
    refine lp_up _ _ (fun k hk ih k0 s1 fr1 b1 => ?_)
    refine g_X1_takeLetter_12 ?_
    rw [fr1 11 (by unfold chP; omega), f4.1]
    refine ⟨by omega, by unfold jr32; omega, by unfold jr32; omega, fun q => ⟨rfl, fr1, fun g g0 g1 => by rw [show s 155 l = k by omega]; exact b1 g g0 g1⟩, fun q => ?_⟩
    obtain ⟨t1, t2, t3⟩ := d.txt hl.1 hl.2 k0 (by omega)
    have inner : ∀ g, g ≤ 4 → 0 ≤ g → ∀ s2, frm chP s s2 → (∀ g', 0 ≤ g' → g' < g → BG s2 (75 + 2 * g') (fo (k + 1) (fun k v => v * facc s (s 152 l) (s 156 (8 * l + k)) g') (bv s (75 + 2 * g')))) → (∀ g', g ≤ g' → g' < 4 → BG s2 (75 + 2 * g') (fo k (fun k v => v * facc s (s 152 l) (s 156 (8 * l + k)) g') (bv s (75 + 2 * g')))) → kK mX1_takeLetter 28 [jR 71, jI l, jI (s 152 l), jI k, jI g] [] s2 (fun r s' => r = none ∧ frm chP s s' ∧ ∀ g, 0 ≤ g → g < 4 → BG s' (75 + 2 * g) (fo (s 155 l) (fun k v => v * facc s (s 152 l) (s 156 (8 * l + k)) g) (bv s (75 + 2 * g)))) := by
      refine lp_up 4 _ (fun g hg jh g0 s2 fr2 dn un => ?_)
      refine g_X1_takeLetter_28 ?_
      rw [fr2 (13 + l) (by unfold chP; omega), t1]
      refine ⟨by unfold jr32; omega, fun q2 => ih (by omega) (by omega) s2 fr2 (fun g' a0 a1 => dn g' a0 (by omega)), fun q2 => ?_⟩
      have hg4 : 0 ≤ g ∧ g < 4 := ⟨g0, by omega⟩
      have fc : facc s2 (s 152 l) (s 156 (8 * l + k)) g = facc s (s 152 l) (s 156 (8 * l + k)) g := facc_fr fr2 (by omega) (by omega) hg4
      obtain ⟨fa, fb⟩ := facc_r d t hl.1 hl.2 k0 (show k < s 155 l by omega) hg4
      have fa2 : FAp s2 (s 152 l) (s 156 (8 * l + k)) g := by
        obtain ⟨x1, x2, x3⟩ := fa
        refine ⟨by rw [fr2 5 (by unfold chP; omega)]; exact x1, by rw [us_fr fr2 (by omega) (by omega) hg4]; exact x2, fun o o0 o1 => ?_⟩
        rw [fr2 2 (by unfold chP; omega), ua_fr fr2]
        exact x3 o o0 o1
      have bg := un g (Int.le_refl _) (by omega)
      have ev := bg.bv
      have pk := pb g g0 (by omega) k k0 hk
      have pk1 := pb g g0 (by omega) (k + 1) (by omega) (by omega)
      rw [fo_s k0] at pk1
      have pc := pow_c (M := 4294967295) (a := c + (k + 1)) (b := 12) (by decide) (by omega)
      rw [show Int.toNat 12 = 12 from rfl] at pc
      have n := n12
      rw [ev, fc]
      refine ⟨hg4, by omega, by omega, fa2, bg, fb, by omega, fun s10 q10 => ?_⟩
      refine jh (by omega) (by omega) s10 (fun k hk => by unfold chP at hk; rw [q10.1 k (by unfold bxP; omega), fr2 k (by unfold chP; omega)]) (fun g' a0 a1 => ?_) (fun g' a0 a1 => ?_)
      · by_cases e : g' = g
        · rw [e, fo_s k0]
          exact q10.2
        · exact (dn g' a0 (by omega)).fr (q10.1 _ (by unfold bxP; omega)) (q10.1 _ (by unfold bxP; omega))
      · exact (un g' (by omega) a1).fr (q10.1 _ (by unfold bxP; omega)) (q10.1 _ (by unfold bxP; omega))
    exact inner 0 (by omega) (by omega) s1 fr1 (fun g' a0 a1 => by omega) (fun g' a0 a1 => b1 g' (by omega) a1)
  refine key 0 f4.2.1 (by omega) s frm.rf (fun g g0 g1 => ?_)
  rw [fo_0]
  exact (hB g g0 g1).1
theorem g_X1_takeFor {s : Int → Int → Int} {Q : Option jV → (Int → Int → Int) → Prop} {v1 : Int} (v : ((DD s) ∧ jr32 v1 ∧ (∀ (s4 : Int → Int → Int), (frm tlP s s4 ∧ TL s v1 s4) → kK mX1_takeFor 10 [jR 71, jI v1, jI 0] [] s4 Q))) : kR mX1_takeFor [jR 71, jI v1] s Q := by
  show kK mX1_takeFor 0 [jR 71, jI v1, jU] [] s Q
  obtain ⟨a1, a2, v⟩ := v
  refine k_aload_n dX1_takeFor_0 rfl ?_
  refine k_getr dX1_takeFor_1 fl_X1_26 sh_71 (by decide) rfl ?_
  refine k_iload_n dX1_takeFor_4 rfl ?_
  refine k_invVR [jI v1] [] dX1_takeFor_5 cm_X8_takeAllBut ml_X1_46 im_X8_takeAllBut se_X8_takeAllBut rfl sh_43 (by decide) rfl rfl (sp_X8_takeAllBut s v1 a1 a2) (fun _ s4 q5 => ?_)
  obtain ⟨rfl, q5⟩ := q5
  have v := v s4 q5
  refine k_iconst dX1_takeFor_8 ?_
  refine k_istore_n [jR 71, jI v1, jI 0] dX1_takeFor_9 rfl rfl ?_
  exact v
theorem g_X1_takeFor_10 {s : Int → Int → Int} {Q : Option jV → (Int → Int → Int) → Prop} {v1 v2 : Int} (v : (jr32 v2 ∧ ((4 ≤ v2 → kK mX1_takeFor 39 [jR 71, jI v1, jI 0] [] s Q) ∧ (¬ (4 ≤ v2) → ((0 ≤ v2 ∧ v2 < 4) ∧ jr32 (s 70 v2) ∧ (0 ≤ (s 70 v2) ∧ (s 70 v2) ≤ 9223372036854775807) ∧ (∀ (s7 : Int → Int → Int), (frm (fun k => k = (75 + 2 * v2) ∨ k = (75 + 2 * v2) + 1) s s7 ∧ BG s7 (75 + 2 * v2) (s 70 v2)) → kK mX1_takeFor 10 [jR 71, jI v1, jI (v2 + 1)] [] s7 Q)))))) : kK mX1_takeFor 10 [jR 71, jI v1, jI v2] [] s Q := by
  obtain ⟨a1, v⟩ := v
  refine k_iload_n dX1_takeFor_10 rfl ?_
  refine k_iconst dX1_takeFor_11 ?_
  obtain ⟨vt, vf⟩ := v
  refine k_icmp_ge 37 dX1_takeFor_12 rfl a1 (by decide) (fun c2 => ?_) (fun c2 => ?_)
  · have v := vt c2
    refine k_iconst dX1_takeFor_37 ?_
    refine k_istore_n [jR 71, jI v1, jI 0] dX1_takeFor_38 rfl rfl ?_
    exact v
  · have v := vf c2
    obtain ⟨a3, a4, a5, v⟩ := v
    refine k_aload_n dX1_takeFor_15 rfl ?_
    refine k_getr dX1_takeFor_16 fl_X1_11 sh_71 (by decide) rfl ?_
    refine k_iload_n dX1_takeFor_19 rfl ?_
    refine k_aald 4 dX1_takeFor_20 sh_72 (Or.inr (Or.inr rfl)) (by decide) rfl (by decide) rfl a3 ?_
    refine k_aload_n dX1_takeFor_21 rfl ?_
    refine k_getr dX1_takeFor_22 fl_X1_30 sh_71 (by decide) rfl ?_
    refine k_iload_n dX1_takeFor_25 rfl ?_
    refine k_iald 4 dX1_takeFor_26 sh_70 (by decide) rfl (by decide) a3 ?_
    refine k_i2l dX1_takeFor_27 a4 ?_
    refine k_invVR [jL (s 70 v2)] [] dX1_takeFor_28 cm_X0_put ml_X1_52 im_X0_put se_X0_put rfl (sb_72 v2 a3).1 (jbr0 (sb_72 v2 a3)) rfl rfl (sp_X0_put s (75 + 2 * v2) (s 70 v2) (sb_72 v2 a3) a5) (fun _ s7 q8 => ?_)
    obtain ⟨rfl, q8⟩ := q8
    have v := v s7 q8
    refine k_iinc [jR 71, jI v1, jI (v2 + 1)] dX1_takeFor_31 rfl rfl rfl ?_
    refine k_goto 10 dX1_takeFor_34 rfl ?_
    exact v
theorem g_X1_takeFor_39 {s : Int → Int → Int} {Q : Option jV → (Int → Int → Int) → Prop} {v1 v2 : Int} (v : (jr32 v2 ∧ jr32 (s 2 13) ∧ (((s 2 13) ≤ v2 → (∀ (s5 : Int → Int → Int), (frm (fun k => k = 73 ∨ k = 73 + 1) s s5 ∧ BG s5 73 0) → kK mX1_takeFor 84 [jR 71, jU, jI 0] [] s5 Q)) ∧ (¬ ((s 2 13) ≤ v2) → ((0 ≤ v2 ∧ v2 < 30) ∧ jr32 (s 9 v2) ∧ jr32 v1 ∧ (((s 9 v2) ≠ v1 → kK mX1_takeFor 39 [jR 71, jI v1, jI (v2 + 1)] [] s Q) ∧ ((s 9 v2) = v1 → ((TKp s v2) ∧ (∀ (s13 : Int → Int → Int), (frm chP s s13 ∧ ∀ g, 0 ≤ g → g < 4 → BG s13 (75 + 2 * g) (fo (s 155 v2) (fun k v => v * facc s (s 152 v2) (s 156 (8 * v2 + k)) g) (bv s (75 + 2 * g)))) → kK mX1_takeFor 39 [jR 71, jI v1, jI (v2 + 1)] [] s13 Q))))))))) : kK mX1_takeFor 39 [jR 71, jI v1, jI v2] [] s Q := by
  obtain ⟨a1, a2, v⟩ := v
  refine k_iload_n dX1_takeFor_39 rfl ?_
  refine k_aload_n dX1_takeFor_40 rfl ?_
  refine k_getr dX1_takeFor_41 fl_X1_22 sh_71 (by decide) rfl ?_
  refine k_geti 13 dX1_takeFor_44 fl_X1_34 sh_2 (by decide) rfl rfl ?_
  obtain ⟨vt, vf⟩ := v
  refine k_icmp_ge 74 dX1_takeFor_47 rfl a1 a2 (fun c3 => ?_) (fun c3 => ?_)
  · have v := vt c3
    refine k_aload_n dX1_takeFor_74 rfl ?_
    refine k_getr dX1_takeFor_75 fl_X1_18 sh_71 (by decide) rfl ?_
    refine k_lconst 0 dX1_takeFor_78 rfl ?_
    refine k_invVR [jL 0] [] dX1_takeFor_79 cm_X0_put ml_X1_52 im_X0_put se_X0_put rfl sh_73 (by decide) rfl rfl (sp_X0_put s 73 0 bg_73 (by decide)) (fun _ s5 q6 => ?_)
    obtain ⟨rfl, q6⟩ := q6
    have v := v s5 q6
    refine k_iconst dX1_takeFor_82 ?_
    refine k_istore_n [jR 71, jI v1, jI 0] dX1_takeFor_83 rfl rfl ?_
    refine k_drop [jR 71, jU, jI 0] ⟨Or.inr rfl, Or.inl rfl, Or.inr rfl, trivial⟩ ?_
    exact v
  · have v := vf c3
    obtain ⟨a7, a8, a9, v⟩ := v
    refine k_aload_n dX1_takeFor_50 rfl ?_
    refine k_getr dX1_takeFor_51 fl_X1_22 sh_71 (by decide) rfl ?_
    refine k_getr dX1_takeFor_54 fl_X1_40 sh_2 (by decide) rfl ?_
    refine k_iload_n dX1_takeFor_57 rfl ?_
    refine k_iald 30 dX1_takeFor_58 sh_9 (by decide) rfl (by decide) a7 ?_
    refine k_iload_n dX1_takeFor_59 rfl ?_
    obtain ⟨vt, vf⟩ := v
    refine k_icmp_ne 68 dX1_takeFor_60 rfl a8 a9 (fun c10 => ?_) (fun c10 => ?_)
    · have v := vt c10
      refine k_iinc [jR 71, jI v1, jI (v2 + 1)] dX1_takeFor_68 rfl rfl rfl ?_
      refine k_goto 39 dX1_takeFor_71 rfl ?_
      exact v
    · have v := vf c10
      obtain ⟨a11, v⟩ := v
      refine k_aload_n dX1_takeFor_63 rfl ?_
      refine k_iload_n dX1_takeFor_64 rfl ?_
      refine k_invVR [jI v2] [] dX1_takeFor_65 cm_X1_takeLetter ml_X1_56 im_X1_takeLetter se_X1_takeLetter rfl sh_71 (by decide) rfl rfl (sp_X1_takeLetter s v2 a11) (fun _ s13 q14 => ?_)
      obtain ⟨rfl, q14⟩ := q14
      have v := v s13 q14
      refine k_iinc [jR 71, jI v1, jI (v2 + 1)] dX1_takeFor_68 rfl rfl rfl ?_
      refine k_goto 39 dX1_takeFor_71 rfl ?_
      exact v
theorem g_X1_takeFor_84 {s : Int → Int → Int} {Q : Option jV → (Int → Int → Int) → Prop} {v2 : Int} (v : (jr32 v2 ∧ ((4 ≤ v2 → Q none s) ∧ (¬ (4 ≤ v2) → ((0 ≤ v2 ∧ v2 < 4) ∧ (xyP 73 (75 + 2 * v2)) ∧ (BG s 73 (bv s 73)) ∧ (BG s (75 + 2 * v2) (bv s (75 + 2 * v2))) ∧ (bv s 73 + bv s (75 + 2 * v2) < bp 16) ∧ (∀ (s9 : Int → Int → Int), (frm (bxP 73) s s9 ∧ BG s9 73 (bv s 73 + bv s (75 + 2 * v2))) → kK mX1_takeFor 84 [jR 71, jU, jI (v2 + 1)] [] s9 Q)))))) : kK mX1_takeFor 84 [jR 71, jU, jI v2] [] s Q := by
  obtain ⟨a1, v⟩ := v
  refine k_iload_n dX1_takeFor_84 rfl ?_
  refine k_iconst dX1_takeFor_85 ?_
  obtain ⟨vt, vf⟩ := v
  refine k_icmp_ge 108 dX1_takeFor_86 rfl a1 (by decide) (fun c2 => ?_) (fun c2 => ?_)
  · have v := vt c2
    exact k_return (st := []) dX1_takeFor_108 rfl v
  · have v := vf c2
    obtain ⟨a3, a4, a5, a6, a7, v⟩ := v
    refine k_aload_n dX1_takeFor_89 rfl ?_
    refine k_getr dX1_takeFor_90 fl_X1_18 sh_71 (by decide) rfl ?_
    refine k_aload_n dX1_takeFor_93 rfl ?_
    refine k_getr dX1_takeFor_94 fl_X1_11 sh_71 (by decide) rfl ?_
    refine k_iload_n dX1_takeFor_97 rfl ?_
    refine k_aald 4 dX1_takeFor_98 sh_72 (Or.inr (Or.inr rfl)) (by decide) rfl (by decide) rfl a3 ?_
    refine k_invVR [jR (75 + 2 * v2)] [] dX1_takeFor_99 cm_X0_add ml_X1_59 im_X0_add se_X0_add rfl sh_73 (by decide) rfl rfl (sp_X0_add s 73 (75 + 2 * v2) bg_73 (sb_72 v2 a3) a4 a5 a6 a7) (fun _ s9 q10 => ?_)
    obtain ⟨rfl, q10⟩ := q10
    have v := v s9 q10
    refine k_iinc [jR 71, jU, jI (v2 + 1)] dX1_takeFor_102 rfl rfl rfl ?_
    refine k_goto 84 dX1_takeFor_105 rfl ?_
    exact v
theorem g_X1_greatest {s : Int → Int → Int} {Q : Option jV → (Int → Int → Int) → Prop} (v : kK mX1_greatest 4 [jR 71, jI 0, jI 1] [] s Q) : kR mX1_greatest [jR 71] s Q := by
  show kK mX1_greatest 0 [jR 71, jU, jU] [] s Q
  refine k_iconst dX1_greatest_0 ?_
  refine k_istore_n [jR 71, jI 0, jU] dX1_greatest_1 rfl rfl ?_
  refine k_iconst dX1_greatest_2 ?_
  refine k_istore_n [jR 71, jI 0, jI 1] dX1_greatest_3 rfl rfl ?_
  exact v
theorem g_X1_greatest_4 {s : Int → Int → Int} {Q : Option jV → (Int → Int → Int) → Prop} {v1 v2 : Int} (v : (jr32 v2 ∧ ((4 ≤ v2 → Q (some (jI v1)) s) ∧ (¬ (4 ≤ v2) → ((0 ≤ v2 ∧ v2 < 4) ∧ (0 ≤ v1 ∧ v1 < 4) ∧ (BG s (75 + 2 * v2) (bv s (75 + 2 * v2))) ∧ (BG s (75 + 2 * v1) (bv s (75 + 2 * v1))) ∧ ((¬ (bv s (75 + 2 * v1) < bv s (75 + 2 * v2)) → kK mX1_greatest 4 [jR 71, jI v1, jI (v2 + 1)] [] s Q) ∧ (bv s (75 + 2 * v1) < bv s (75 + 2 * v2) → kK mX1_greatest 4 [jR 71, jI v2, jI (v2 + 1)] [] s Q))))))) : kK mX1_greatest 4 [jR 71, jI v1, jI v2] [] s Q := by
  obtain ⟨a1, v⟩ := v
  refine k_iload_n dX1_greatest_4 rfl ?_
  refine k_iconst dX1_greatest_5 ?_
  obtain ⟨vt, vf⟩ := v
  refine k_icmp_ge 35 dX1_greatest_6 rfl a1 (by decide) (fun c2 => ?_) (fun c2 => ?_)
  · have v := vt c2
    refine k_iload_n dX1_greatest_35 rfl ?_
    exact k_ireturn (st := []) dX1_greatest_36 rfl v
  · have v := vf c2
    obtain ⟨a3, a4, a5, a6, v⟩ := v
    refine k_aload_n dX1_greatest_9 rfl ?_
    refine k_getr dX1_greatest_10 fl_X1_11 sh_71 (by decide) rfl ?_
    refine k_iload_n dX1_greatest_13 rfl ?_
    refine k_aald 4 dX1_greatest_14 sh_72 (Or.inr (Or.inr rfl)) (by decide) rfl (by decide) rfl a3 ?_
    refine k_aload_n dX1_greatest_15 rfl ?_
    refine k_getr dX1_greatest_16 fl_X1_11 sh_71 (by decide) rfl ?_
    refine k_iload_n dX1_greatest_19 rfl ?_
    refine k_aald 4 dX1_greatest_20 sh_72 (Or.inr (Or.inr rfl)) (by decide) rfl (by decide) rfl a4 ?_
    refine k_invV [jR (75 + 2 * v1)] [] dX1_greatest_21 cm_X0_isAbove ml_X1_84 im_X0_isAbove se_X0_isAbove rfl (sb_72 v2 a3).1 (jbr0 (sb_72 v2 a3)) rfl rfl (sp_X0_isAbove s (75 + 2 * v2) (75 + 2 * v1) (sb_72 v2 a3) (sb_72 v1 a4) a5 a6) ?_
    obtain ⟨vt, vf⟩ := v
    refine k_ifb_eq 29 dX1_greatest_24 rfl (fun c7 => ?_) (fun c7 => ?_)
    · have v := vt c7
      refine k_iinc [jR 71, jI v1, jI (v2 + 1)] dX1_greatest_29 rfl rfl rfl ?_
      refine k_goto 4 dX1_greatest_32 rfl ?_
      exact v
    · have v := vf c7
      refine k_iload_n dX1_greatest_27 rfl ?_
      refine k_istore_n [jR 71, jI v2, jI v2] dX1_greatest_28 rfl rfl ?_
      refine k_iinc [jR 71, jI v2, jI (v2 + 1)] dX1_greatest_29 rfl rfl rfl ?_
      refine k_goto 4 dX1_greatest_32 rfl ?_
      exact v
def cfP (k : Int) : Prop := tlP k ∨ (73 ≤ k ∧ k ≤ 82)
def TFp (s : Int → Int → Int) (p : Int) : Prop := (DD s ∧ IB s) ∧ jr32 p ∧ wf s p ≤ 12
theorem sp_X1_takeFor (s : Int → Int → Int) (p : Int) (hp : TFp s p) : kR mX1_takeFor [jR 71, jI p] s (fun r s' => r = none ∧ frm cfP s s' ∧ (∀ g, 0 ≤ g → g < 4 → BG s' (75 + 2 * g) (shr s p g)) ∧ BG s' 73 (sg 4 (shr s p))) := by
  obtain ⟨⟨d, ib⟩, hp, h12⟩ := hp
  obtain ⟨e0, e1, e2, e3⟩ := d.cnt
  refine g_X1_takeFor ⟨d, hp, fun s4 q4 => ?_⟩
  obtain ⟨f4, t4⟩ := q4
  -- the sum
  have k84 : ∀ g, g ≤ 4 → 0 ≤ g → ∀ s1, frm cfP s s1 → (∀ g, 0 ≤ g → g < 4 → BG s1 (75 + 2 * g) (shr s p g)) → BG s1 73 (sg g (shr s p)) → kK mX1_takeFor 84 [jR 71, jU, jI g] [] s1 (fun r s' => r = none ∧ frm cfP s s' ∧ (∀ g, 0 ≤ g → g < 4 → BG s' (75 + 2 * g) (shr s p g)) ∧ BG s' 73 (sg 4 (shr s p))) := by
    refine lp_up 4 _ (fun g hg ih g0 s1 f1 b1 w1 => ?_)
    refine g_X1_takeFor_84 ⟨by unfold jr32; omega, fun q => ⟨rfl, f1, b1, by rw [show (4 : Int) = g by omega]; exact w1⟩, fun q => ?_⟩
    have bg := b1 g g0 (by omega)
    have ev := bg.bv
    have ew := w1.bv
    have sb := shr_b d ib (p := p) (g := g) ⟨g0, by omega⟩ h12
    have sum := sg_b (n := g) (f := shr s p) (a := 0) (b := bp 13) g0 (fun i i0 i1 => by have := shr_b d ib (p := p) (g := i) ⟨i0, by omega⟩ h12; omega)
    have sum2 : g * bp 13 ≤ 3 * bp 13 := Int.mul_le_mul_of_nonneg_right (by omega) (by have := bp_pos 13; omega)
    have b14 : bp 13 * 1073741824 ≤ bp 16 := by
      rw [← bp_s (by omega)]
      exact bp_le (by omega)
    have p13 := bp_pos 13
    rw [ev, ew]
    refine ⟨by omega, by unfold xyP; omega, w1, bg, by omega, fun s9 q9 => ?_⟩
    refine ih (by omega) (by omega) s9 (fun k hk => by
      rw [q9.1 k (fun c => hk (Or.inr (by unfold bxP at c; omega))), f1 k hk]) (fun g' a0 a1 => (b1 g' a0 a1).fr (q9.1 _ (by unfold bxP; omega)) (q9.1 _ (by unfold bxP; omega))) ?_
    rw [sg_s g0]
    exact q9.2
  -- the letters
  have k39 : ∀ n, n ≤ s 146 3 → 0 ≤ n → ∀ s1, frm cfP s s1 → frm (fun k => 73 ≤ k ∧ k ≤ 82) s4 s1 → (∀ g, 0 ≤ g → g < 4 → BG s1 (75 + 2 * g) (pp s p (fcl s p g) n (s 157 g))) → kK mX1_takeFor 39 [jR 71, jI p, jI n] [] s1 (fun r s' => r = none ∧ frm cfP s s' ∧ (∀ g, 0 ≤ g → g < 4 → BG s' (75 + 2 * g) (shr s p g)) ∧ BG s' 73 (sg 4 (shr s p))) := by
    refine lp_up _ _ (fun n hn ih n0 s1 f1 f41 b1 => ?_)
    have c2 : s1 2 = s 2 := f1 2 (by unfold cfP tlP; omega)
    have c9 : s1 9 = s 9 := f1 9 (by unfold cfP tlP; omega)
    refine g_X1_takeFor_39 ?_
    rw [c2, c9]
    refine ⟨by unfold jr32; omega, by unfold jr32; omega, fun q s5 q5 => ?_, fun q => ?_⟩
    · have en : n = s 146 3 := by omega
      rw [en] at b1
      refine k84 0 (by omega) (by omega) s5 (fun k hk => by rw [q5.1 k (fun c => hk (Or.inr (by omega))), f1 k hk]) (fun g g0 g1 => (b1 g g0 g1).fr (q5.1 _ (by omega)) (q5.1 _ (by omega))) ?_
      rw [sg_0]
      exact q5.2
    · obtain ⟨x1, x2, x3, x4⟩ := d.let n0 (by omega)
      have le := wfn_le d p n0 (show n < s 146 3 by omega)
      rw [x2.1]
      refine ⟨by omega, by unfold jr32; omega, hp, fun c => ?_, fun c => ⟨?_, fun s12 q12 => ?_⟩⟩
      · refine ih (by omega) (by omega) s1 f1 f41 (fun g g0 g1 => ?_)
        rw [pp_s s p _ n0]
        unfold ppl
        rw [if_neg c]
        exact b1 g g0 g1
      · have cc : ∀ k, (146 ≤ k ∧ k ≤ 156) ∨ (2 ≤ k ∧ k ≤ 42) → s1 k = s k := fun k hk => f1 k (by unfold cfP tlP; omega)
        have eu : ∀ h w g, 0 ≤ h → h < s 146 1 → 0 ≤ w → w < 8 → 0 ≤ g → g < 4 → us s1 h w g = ucm s h w g p ∧ ua s1 h g = ucm s h (-1) g p := fun h w g h0 h1 w0 w1 g0 g1 => by
          obtain ⟨m1, m2, m3⟩ := d.hnd h0 h1
          have k5 : s4 5 = s 5 := f4 5 (by unfold tlP; omega)
          have u1 : us s1 h w g = us s4 h w g := by
            unfold us
            rw [f41 5 (by omega), f41 (45 + (h * 4 + g)) (by omega), k5, m1]
            by_cases y : s 149 h = -1
            · rw [if_pos y, if_pos y]
            · rw [if_neg y, if_neg y, f41 (45 + (s 149 h * 4 + g)) (by omega)]
          have u2 : ua s1 h g = ua s4 h g := by
            unfold ua
            rw [f41 5 (by omega), f41 69 (by omega)]
          rw [u1, u2]
          exact ⟨us_ucm d f4 t4 ⟨h0, h1⟩ ⟨w0, w1⟩ ⟨g0, g1⟩, ua_ucm d f4 t4 ⟨h0, h1⟩ ⟨g0, g1⟩⟩
        refine ⟨d.fr (fun k hk => cc k (by omega)), fun h w g h0 h1 w0 w1 g0 g1 => ?_, by rw [cc 146 (by omega)]; omega, wfn s p n, ?_, fun g g0 g1 => ?_⟩
        · rw [cc 146 (by omega)] at h1
          obtain ⟨u1, u2⟩ := eu h w g h0 h1 w0 w1 g0 g1
          rw [u1, u2]
          exact ⟨ucm_b d h w g p, ucm_b d h (-1) g p⟩
        · rw [cc 155 (by omega)]
          have := le.2 c
          have := wfn_n d p n n0 (by omega)
          omega
        · have bg := b1 g g0 g1
          have ev := bg.bv
          rw [ev]
          exact ⟨bg, pp_b d (p := p) (f := fcl s p g) (A := 9) (M := 4294967295) (by decide) (by decide) (fun l k l0 l1 _ k0 k1 => fcl_r d l0 l1 k0 k1 ⟨g0, g1⟩) (v := s 157 g) (ib.2 g g0 (by omega)) n n0 (by omega)⟩
      · have cc : ∀ k, (146 ≤ k ∧ k ≤ 156) ∨ (2 ≤ k ∧ k ≤ 42) → s1 k = s k := fun k hk => f1 k (by unfold cfP tlP; omega)
        refine ih (by omega) (by omega) s12 (fun k hk => by rw [q12.1 k (fun c => hk (Or.inr (by unfold chP at c; omega))), f1 k hk]) (fun k hk => by rw [q12.1 k (by unfold chP; omega), f41 k hk]) (fun g g0 g1 => ?_)
        have b12 := q12.2 g g0 g1
        have ev := (b1 g g0 g1).bv
        rw [ev, cc 155 (by omega), cc 152 (by omega), cc 156 (by omega)] at b12
        rw [pp_s s p _ n0]
        unfold ppl
        rw [if_pos c]
        have e : fo (s 155 n) (fun k v => v * fcl s p g n k) (pp s p (fcl s p g) n (s 157 g)) = fo (s 155 n) (fun k v => v * facc s1 (s 152 n) (s 156 (8 * n + k)) g) (pp s p (fcl s p g) n (s 157 g)) := fo_c (fun k k0 k1 a => by
          obtain ⟨-, t2, t3⟩ := d.txt n0 (show n < s 146 3 by omega) k0 k1
          obtain ⟨m1, m2, m3⟩ := d.hnd x1.2.1 x1.2.2
          have k5 : s4 5 = s 5 := f4 5 (by unfold tlP; omega)
          have u1 : us s1 (s 152 n) (s 156 (8 * n + k)) g = ucm s (s 152 n) (s 156 (8 * n + k)) g p := by
            rw [← us_ucm d f4 t4 ⟨x1.2.1, x1.2.2⟩ ⟨t2, by omega⟩ ⟨g0, g1⟩]
            unfold us
            rw [f41 5 (by omega), f41 (45 + (s 152 n * 4 + g)) (by omega), k5, m1]
            by_cases y : s 149 (s 152 n) = -1
            · rw [if_pos y, if_pos y]
            · rw [if_neg y, if_neg y, f41 (45 + (s 149 (s 152 n) * 4 + g)) (by omega)]
          have ef : facc s1 (s 152 n) (s 156 (8 * n + k)) g = fcl s p g n k := by
            unfold facc fcl
            rw [u1]
            refine fo_c (fun o o0 o1 v => ?_)
            have u2 : ua s1 (s 152 n) o = ucm s (s 152 n) (-1) o p := by
              rw [← ua_ucm d f4 t4 ⟨x1.2.1, x1.2.2⟩ ⟨o0, o1⟩]
              unfold ua
              rw [f41 5 (by omega), f41 69 (by omega)]
            rw [u2, c2, e0.1]; rfl
          rw [ef])
        rw [e]
        exact b12
  -- the weights
  have k10 : ∀ g, g ≤ 4 → 0 ≤ g → ∀ s1, frm (fun k => 73 ≤ k ∧ k ≤ 82) s4 s1 → (∀ g', 0 ≤ g' → g' < g → BG s1 (75 + 2 * g') (s 157 g')) → kK mX1_takeFor 10 [jR 71, jI p, jI g] [] s1 (fun r s' => r = none ∧ frm cfP s s' ∧ (∀ g, 0 ≤ g → g < 4 → BG s' (75 + 2 * g) (shr s p g)) ∧ BG s' 73 (sg 4 (shr s p))) := by
    refine lp_up 4 _ (fun g hg ih g0 s1 f1 b1 => ?_)
    refine g_X1_takeFor_10 ?_
    rw [f1 70 (by omega), f4 70 (by unfold tlP; omega)]
    refine ⟨by unfold jr32; omega, fun q => ?_, fun q => ?_⟩
    · refine k39 0 e3.2.1 (by omega) s1 (fun k hk => ?_) f1 (fun g' a0 a1 => b1 g' a0 (by omega))
      unfold cfP at hk
      rw [f1 k (fun c => hk (Or.inr c)), f4 k (fun c => hk (Or.inl c))]
    · have w := ib.1 g g0 (by omega)
      have w2' := ib.2 g g0 (by omega)
      rw [w]
      refine ⟨by omega, by unfold jr32; omega, by omega, fun s7 q7 => ih (by omega) (by omega) s7 (fun k hk => by rw [q7.1 k (by omega), f1 k hk]) (fun g' a0 a1 => ?_)⟩
      by_cases e : g' = g
      · rw [e]; exact q7.2
      · exact (b1 g' a0 (by omega)).fr (q7.1 _ (by omega)) (q7.1 _ (by omega))
  exact k10 0 (by omega) (by omega) s4 frm.rf (fun g' a0 a1 => by omega)
theorem sp_X1_greatest (s : Int → Int → Int) (h : ∀ g, 0 ≤ g → g < 4 → BG s (75 + 2 * g) (bv s (75 + 2 * g))) : kM mX1_greatest [jR 71] s (some (jI (grt (fun g => bv s (75 + 2 * g)) 3))) s := by
  refine g_X1_greatest ?_
  have key : ∀ n, n ≤ 3 → 0 ≤ n → kK mX1_greatest 4 [jR 71, jI (grt (fun g => bv s (75 + 2 * g)) n), jI (1 + n)] [] s (fun r s' => r = some (jI (grt (fun g => bv s (75 + 2 * g)) 3)) ∧ s' = s) := by
    refine lp_up 3 _ (fun n hn ih n0 => ?_)
    have gb := grt_b (fun g => bv s (75 + 2 * g)) n n0
    refine g_X1_greatest_4 ⟨by unfold jr32; omega, fun q => ⟨by rw [show n = 3 by omega], rfl⟩, fun q => ⟨by omega, by omega, h _ (by omega) (by omega), h _ (by omega) (by omega), fun c => ?_, fun c => ?_⟩⟩
    · have := ih (by omega) (by omega)
      rw [grt_s _ n0, if_neg c, ← Int.add_assoc] at this
      exact this
    · have := ih (by omega) (by omega)
      rw [grt_s _ n0, if_pos c, ← Int.add_assoc] at this
      exact this
  exact key 0 (by omega) (by omega)
theorem g_X10_odds {s : Int → Int → Int} {Q : Option jV → (Int → Int → Int) → Prop} {v1 v2 : Int} (v : (jr32 v1 ∧ (WC s) ∧ ((¬ (0 ≤ v1 ∧ v1 ≤ s 2 12 - 1) → Q (some (jI (-2))) s) ∧ (0 ≤ v1 ∧ v1 ≤ s 2 12 - 1 → (jr32 v2 ∧ ((0 ≤ v2 ∧ v2 ≤ 3 → ((DD s) ∧ jr32 (wf s v1) ∧ (((wf s v1) ≤ 12 → ((TFp s v1) ∧ (∀ (s11 : Int → Int → Int), (frm cfP s s11 ∧ (∀ g, 0 ≤ g → g < 4 → BG s11 (75 + 2 * g) (shr s v1 g)) ∧ BG s11 73 (sg 4 (shr s v1))) → ((0 ≤ v2 ∧ v2 < 4) ∧ (PBp s11 (75 + 2 * v2) 73) ∧ (∀ (s16 : Int → Int → Int), (frm fcP s11 s16 ∧ FC s16 (bv s11 (75 + 2 * v2)) (bv s11 73)) → Q (some (jI 1)) s16))))) ∧ (¬ ((wf s v1) ≤ 12) → Q (some (jI (-3))) s)))) ∧ (¬ (0 ≤ v2 ∧ v2 ≤ 3) → Q (some (jI (-2))) s))))))) : kR mX10_odds [jR 1, jI v1, jI v2] s Q := by
  show kK mX10_odds 0 [jR 1, jI v1, jI v2] [] s Q
  obtain ⟨a1, a2, v⟩ := v
  refine k_aload_n dX10_odds_0 rfl ?_
  refine k_iload_n dX10_odds_1 rfl ?_
  refine k_invV [jI v1] [] dX10_odds_2 cm_X10_isPupil ml_X10_110 im_X10_isPupil se_X10_isPupil rfl sh_1 (by decide) rfl rfl (sp_X10_isPupil s v1 a1 a2) ?_
  obtain ⟨vt, vf⟩ := v
  refine k_ifb_eq 15 dX10_odds_5 rfl (fun c3 => ?_) (fun c3 => ?_)
  · have v := vt c3
    refine k_bipush dX10_odds_15 rfl ?_
    exact k_ireturn (st := []) dX10_odds_17 rfl v
  · have v := vf c3
    obtain ⟨a4, v⟩ := v
    refine k_iload_n dX10_odds_8 rfl ?_
    refine k_invS [jI v2] [] dX10_odds_9 cm_X10_isGift ml_X10_132 st_X10_isGift rfl rfl (sp_X10_isGift s v2 a4) ?_
    obtain ⟨vt, vf⟩ := v
    refine k_ifb_ne 18 dX10_odds_12 rfl (fun c5 => ?_) (fun c5 => ?_)
    · have v := vt c5
      obtain ⟨a6, a7, v⟩ := v
      refine k_aload_n dX10_odds_18 rfl ?_
      refine k_getr dX10_odds_19 fl_X10_40 sh_1 (by decide) rfl ?_
      refine k_iload_n dX10_odds_22 rfl ?_
      refine k_invV [jI v1] [] dX10_odds_23 cm_X1_wordsFor ml_X10_154 im_X1_wordsFor se_X1_wordsFor rfl sh_71 (by decide) rfl rfl (sp_X1_wordsFor s v1 a6 a1) ?_
      refine k_bipush dX10_odds_26 rfl ?_
      obtain ⟨vt, vf⟩ := v
      refine k_icmp_le 34 dX10_odds_28 rfl a7 (by decide) (fun c8 => ?_) (fun c8 => ?_)
      · have v := vt c8
        obtain ⟨a9, v⟩ := v
        refine k_aload_n dX10_odds_34 rfl ?_
        refine k_getr dX10_odds_35 fl_X10_40 sh_1 (by decide) rfl ?_
        refine k_iload_n dX10_odds_38 rfl ?_
        refine k_invVR [jI v1] [] dX10_odds_39 cm_X1_takeFor ml_X10_157 im_X1_takeFor se_X1_takeFor rfl sh_71 (by decide) rfl rfl (sp_X1_takeFor s v1 a9) (fun _ s11 q12 => ?_)
        obtain ⟨rfl, q12⟩ := q12
        have v := v s11 q12
        obtain ⟨a13, a14, v⟩ := v
        refine k_aload_n dX10_odds_42 rfl ?_
        refine k_getr dX10_odds_43 fl_X10_84 sh_1 (by decide) rfl ?_
        refine k_aload_n dX10_odds_46 rfl ?_
        refine k_getr dX10_odds_47 fl_X10_40 sh_1 (by decide) rfl ?_
        refine k_getr dX10_odds_50 fl_X10_160 sh_71 (by decide) rfl ?_
        refine k_iload_n dX10_odds_53 rfl ?_
        refine k_aald 4 dX10_odds_54 sh_72 (Or.inr (Or.inr rfl)) (by decide) rfl (by decide) rfl a13 ?_
        refine k_aload_n dX10_odds_55 rfl ?_
        refine k_getr dX10_odds_56 fl_X10_40 sh_1 (by decide) rfl ?_
        refine k_getr dX10_odds_59 fl_X10_164 sh_71 (by decide) rfl ?_
        refine k_invVR [jR (75 + 2 * v2), jR 73] [] dX10_odds_62 cm_X5_putBig ml_X10_168 im_X5_putBig se_X5_putBig rfl sh_138 (by decide) rfl rfl (sp_X5_putBig s11 (75 + 2 * v2) 73 (sb_72 v2 a13) bg_73 a14) (fun _ s16 q17 => ?_)
        obtain ⟨rfl, q17⟩ := q17
        have v := v s16 q17
        refine k_iconst dX10_odds_65 ?_
        exact k_ireturn (st := []) dX10_odds_66 rfl v
      · have v := vf c8
        refine k_bipush dX10_odds_31 rfl ?_
        exact k_ireturn (st := []) dX10_odds_33 rfl v
    · have v := vf c5
      refine k_bipush dX10_odds_15 rfl ?_
      exact k_ireturn (st := []) dX10_odds_17 rfl v
theorem g_X10_likeliest {s : Int → Int → Int} {Q : Option jV → (Int → Int → Int) → Prop} {v1 : Int} (v : (jr32 v1 ∧ (WC s) ∧ ((0 ≤ v1 ∧ v1 ≤ s 2 12 - 1 → ((DD s) ∧ jr32 (wf s v1) ∧ (((wf s v1) ≤ 12 → ((TFp s v1) ∧ (∀ (s9 : Int → Int → Int), (frm cfP s s9 ∧ (∀ g, 0 ≤ g → g < 4 → BG s9 (75 + 2 * g) (shr s v1 g)) ∧ BG s9 73 (sg 4 (shr s v1))) → ((∀ g, 0 ≤ g → g < 4 → BG s9 (75 + 2 * g) (bv s9 (75 + 2 * g))) ∧ Q (some (jI (grt (fun g => bv s9 (75 + 2 * g)) 3))) s9)))) ∧ (¬ ((wf s v1) ≤ 12) → Q (some (jI (-3))) s)))) ∧ (¬ (0 ≤ v1 ∧ v1 ≤ s 2 12 - 1) → Q (some (jI (-2))) s)))) : kR mX10_likeliest [jR 1, jI v1] s Q := by
  show kK mX10_likeliest 0 [jR 1, jI v1] [] s Q
  obtain ⟨a1, a2, v⟩ := v
  refine k_aload_n dX10_likeliest_0 rfl ?_
  refine k_iload_n dX10_likeliest_1 rfl ?_
  refine k_invV [jI v1] [] dX10_likeliest_2 cm_X10_isPupil ml_X10_110 im_X10_isPupil se_X10_isPupil rfl sh_1 (by decide) rfl rfl (sp_X10_isPupil s v1 a1 a2) ?_
  obtain ⟨vt, vf⟩ := v
  refine k_ifb_ne 11 dX10_likeliest_5 rfl (fun c3 => ?_) (fun c3 => ?_)
  · have v := vt c3
    obtain ⟨a4, a5, v⟩ := v
    refine k_aload_n dX10_likeliest_11 rfl ?_
    refine k_getr dX10_likeliest_12 fl_X10_40 sh_1 (by decide) rfl ?_
    refine k_iload_n dX10_likeliest_15 rfl ?_
    refine k_invV [jI v1] [] dX10_likeliest_16 cm_X1_wordsFor ml_X10_154 im_X1_wordsFor se_X1_wordsFor rfl sh_71 (by decide) rfl rfl (sp_X1_wordsFor s v1 a4 a1) ?_
    refine k_bipush dX10_likeliest_19 rfl ?_
    obtain ⟨vt, vf⟩ := v
    refine k_icmp_le 27 dX10_likeliest_21 rfl a5 (by decide) (fun c6 => ?_) (fun c6 => ?_)
    · have v := vt c6
      obtain ⟨a7, v⟩ := v
      refine k_aload_n dX10_likeliest_27 rfl ?_
      refine k_getr dX10_likeliest_28 fl_X10_40 sh_1 (by decide) rfl ?_
      refine k_iload_n dX10_likeliest_31 rfl ?_
      refine k_invVR [jI v1] [] dX10_likeliest_32 cm_X1_takeFor ml_X10_157 im_X1_takeFor se_X1_takeFor rfl sh_71 (by decide) rfl rfl (sp_X1_takeFor s v1 a7) (fun _ s9 q10 => ?_)
      obtain ⟨rfl, q10⟩ := q10
      have v := v s9 q10
      obtain ⟨a11, v⟩ := v
      refine k_aload_n dX10_likeliest_35 rfl ?_
      refine k_getr dX10_likeliest_36 fl_X10_40 sh_1 (by decide) rfl ?_
      refine k_invV [] [] dX10_likeliest_39 cm_X1_greatest ml_X10_172 im_X1_greatest se_X1_greatest rfl sh_71 (by decide) rfl rfl (sp_X1_greatest s9 a11) ?_
      exact k_ireturn (st := []) dX10_likeliest_42 rfl v
    · have v := vf c6
      refine k_bipush dX10_likeliest_24 rfl ?_
      exact k_ireturn (st := []) dX10_likeliest_26 rfl v
  · have v := vf c3
    refine k_bipush dX10_likeliest_8 rfl ?_
    exact k_ireturn (st := []) dX10_likeliest_10 rfl v
