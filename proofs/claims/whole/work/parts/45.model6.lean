theorem g_X11_isUse {s : Int → Int → Int} {Q : Option jV → (Int → Int → Int) → Prop} {v1 v2 v3 : Int} (v : (jr32 v1 ∧ (0 ≤ s 146 1 ∧ s 146 1 ≤ 1000) ∧ ((¬ (0 ≤ v1 ∧ v1 ≤ s 146 1 - 1) → Q (some (jI 0)) s) ∧ (0 ≤ v1 ∧ v1 ≤ s 146 1 - 1 → (jr32 v2 ∧ (0 ≤ s 146 0 ∧ s 146 0 ≤ 1000) ∧ ((¬ (0 ≤ v2 ∧ v2 ≤ s 146 0 - 1) → Q (some (jI 0)) s) ∧ (0 ≤ v2 ∧ v2 ≤ s 146 0 - 1 → (jr32 v3 ∧ ((¬ (0 ≤ v3 ∧ v3 ≤ 3) → Q (some (jI 0)) s) ∧ (0 ≤ v3 ∧ v3 ≤ 3 → Q (some (jI 1)) s)))))))))) : kR mX11_isUse [jR 143, jI v1, jI v2, jI v3] s Q := by
  show kK mX11_isUse 0 [jR 143, jI v1, jI v2, jI v3] [] s Q
  obtain ⟨a1, a2, v⟩ := v
  refine k_aload_n dX11_isUse_0 rfl ?_
  refine k_iconst dX11_isUse_1 ?_
  refine k_iload_n dX11_isUse_2 rfl ?_
  refine k_invV [jI 1, jI v1] [] dX11_isUse_3 cm_X11_is ml_X11_136 im_X11_is se_X11_is rfl sh_143 (by decide) rfl rfl (sp_X11_is s 1 v1 (by decide) a1 a2) ?_
  obtain ⟨vt, vf⟩ := v
  refine k_ifb_eq 29 dX11_isUse_6 rfl (fun c3 => ?_) (fun c3 => ?_)
  · have v := vt c3
    refine k_iconst dX11_isUse_29 ?_
    exact k_zreturn (st := []) dX11_isUse_30 rfl (Or.inl rfl) v
  · have v := vf c3
    obtain ⟨a4, a5, v⟩ := v
    refine k_aload_n dX11_isUse_9 rfl ?_
    refine k_iconst dX11_isUse_10 ?_
    refine k_iload_n dX11_isUse_11 rfl ?_
    refine k_invV [jI 0, jI v2] [] dX11_isUse_12 cm_X11_is ml_X11_136 im_X11_is se_X11_is rfl sh_143 (by decide) rfl rfl (sp_X11_is s 0 v2 (by decide) a4 a5) ?_
    obtain ⟨vt, vf⟩ := v
    refine k_ifb_eq 29 dX11_isUse_15 rfl (fun c6 => ?_) (fun c6 => ?_)
    · have v := vt c6
      refine k_iconst dX11_isUse_29 ?_
      exact k_zreturn (st := []) dX11_isUse_30 rfl (Or.inl rfl) v
    · have v := vf c6
      obtain ⟨a7, v⟩ := v
      refine k_iload_n dX11_isUse_18 rfl ?_
      refine k_invS [jI v3] [] dX11_isUse_19 cm_X11_isGift ml_X11_142 st_X11_isGift rfl rfl (sp_X11_isGift s v3 a7) ?_
      obtain ⟨vt, vf⟩ := v
      refine k_ifb_eq 29 dX11_isUse_22 rfl (fun c8 => ?_) (fun c8 => ?_)
      · have v := vt c8
        refine k_iconst dX11_isUse_29 ?_
        exact k_zreturn (st := []) dX11_isUse_30 rfl (Or.inl rfl) v
      · have v := vf c8
        refine k_iconst dX11_isUse_25 ?_
        refine k_goto 30 dX11_isUse_26 rfl ?_
        exact k_zreturn (st := []) dX11_isUse_30 rfl (Or.inr rfl) v
theorem sp_X11_isUse (s : Int → Int → Int) (h w g : Int) (d : DD s) (hh : jr32 h) (hw : jr32 w) (hg : jr32 g) : kM mX11_isUse [jR 143, jI h, jI w, jI g] s (some (jI (jbo ((0 ≤ h ∧ h ≤ s 146 1 - 1) ∧ (0 ≤ w ∧ w ≤ s 146 0 - 1) ∧ 0 ≤ g ∧ g ≤ 3)))) s := by
  obtain ⟨e0, e1, e2, e3⟩ := d.cnt
  exact g_X11_isUse ⟨hh, by omega, fun c => ⟨jbf0 (fun q => c q.1), rfl⟩, fun c => ⟨hw, by omega, fun c2 => ⟨jbf0 (fun q => c2 q.2.1), rfl⟩, fun c2 => ⟨hg, fun c3 => ⟨jbf0 (fun q => c3 q.2.2), rfl⟩, fun c3 => ⟨jbf1 ⟨c, c2, c3⟩, rfl⟩⟩⟩⟩
theorem g_X11_uses {s : Int → Int → Int} {Q : Option jV → (Int → Int → Int) → Prop} {v1 v2 v3 : Int} (v : ((DD s) ∧ jr32 v1 ∧ jr32 v2 ∧ jr32 v3 ∧ ((¬ ((0 ≤ v1 ∧ v1 ≤ s 146 1 - 1) ∧ (0 ≤ v2 ∧ v2 ≤ s 146 0 - 1) ∧ 0 ≤ v3 ∧ v3 ≤ 3) → Q (some (jI (-2))) s) ∧ ((0 ≤ v1 ∧ v1 ≤ s 146 1 - 1) ∧ (0 ≤ v2 ∧ v2 ≤ s 146 0 - 1) ∧ 0 ≤ v3 ∧ v3 ≤ 3 → ((0 ≤ v1 ∧ v1 < s 146 1) ∧ Q (some (jI (ucm s v1 v2 v3 (-1)))) s))))) : kR mX11_uses [jR 143, jI v1, jI v2, jI v3] s Q := by
  show kK mX11_uses 0 [jR 143, jI v1, jI v2, jI v3] [] s Q
  obtain ⟨a1, a2, a3, a4, v⟩ := v
  refine k_aload_n dX11_uses_0 rfl ?_
  refine k_iload_n dX11_uses_1 rfl ?_
  refine k_iload_n dX11_uses_2 rfl ?_
  refine k_iload_n dX11_uses_3 rfl ?_
  refine k_invV [jI v1, jI v2, jI v3] [] dX11_uses_4 cm_X11_isUse ml_X11_148 im_X11_isUse se_X11_isUse rfl sh_143 (by decide) rfl rfl (sp_X11_isUse s v1 v2 v3 a1 a2 a3 a4) ?_
  obtain ⟨vt, vf⟩ := v
  refine k_ifb_eq 21 dX11_uses_7 rfl (fun c5 => ?_) (fun c5 => ?_)
  · have v := vt c5
    refine k_bipush dX11_uses_21 rfl ?_
    exact k_ireturn (st := []) dX11_uses_23 rfl v
  · have v := vf c5
    obtain ⟨a6, v⟩ := v
    refine k_aload_n dX11_uses_10 rfl ?_
    refine k_iload_n dX11_uses_11 rfl ?_
    refine k_iload_n dX11_uses_12 rfl ?_
    refine k_iload_n dX11_uses_13 rfl ?_
    refine k_iconst dX11_uses_14 ?_
    refine k_invV [jI v1, jI v2, jI v3, jI (-1)] [] dX11_uses_15 cm_X11_usesOf ml_X11_152 im_X11_usesOf se_X11_usesOf rfl sh_143 (by decide) rfl rfl (sp_X11_usesOf s v1 v2 v3 (-1) a1 a6 a3 a4 (by decide)) ?_
    refine k_goto 23 dX11_uses_18 rfl ?_
    exact k_ireturn (st := []) dX11_uses_23 rfl v
theorem g_X11_meanUp {s : Int → Int → Int} {Q : Option jV → (Int → Int → Int) → Prop} {v1 v2 v3 v4 : Int} (v : ((DD s) ∧ (0 ≤ v1 ∧ v1 < s 146 1) ∧ jr32 v2 ∧ jr32 v3 ∧ jr32 v4 ∧ Q (some (jI (1 + (ucm s v1 v2 v3 v4)))) s)) : kR mX11_meanUp [jR 143, jI v1, jI v2, jI v3, jI v4] s Q := by
  show kK mX11_meanUp 0 [jR 143, jI v1, jI v2, jI v3, jI v4] [] s Q
  obtain ⟨a1, a2, a3, a4, a5, v⟩ := v
  refine k_iconst dX11_meanUp_0 ?_
  refine k_aload_n dX11_meanUp_1 rfl ?_
  refine k_iload_n dX11_meanUp_2 rfl ?_
  refine k_iload_n dX11_meanUp_3 rfl ?_
  refine k_iload_n dX11_meanUp_4 rfl ?_
  refine k_iload dX11_meanUp_5 rfl ?_
  refine k_invV [jI v1, jI v2, jI v3, jI v4] [jI 1] dX11_meanUp_7 cm_X11_usesOf ml_X11_152 im_X11_usesOf se_X11_usesOf rfl sh_143 (by decide) rfl rfl (sp_X11_usesOf s v1 v2 v3 v4 a1 a2 a3 a4 a5) ?_
  refine k_iadd dX11_meanUp_10 ?_
  exact k_ireturn (st := []) dX11_meanUp_11 rfl v
theorem sp_X11_meanUp (s : Int → Int → Int) (h w g u : Int) (d : DD s) (hh : 0 ≤ h ∧ h < s 146 1) (hw : jr32 w) (hg : jr32 g) (hu : jr32 u) : kM mX11_meanUp [jR 143, jI h, jI w, jI g, jI u] s (some (jI (1 + ucm s h w g u))) s := g_X11_meanUp ⟨d, hh, hw, hg, hu, rfl, rfl⟩
theorem g_X11_meanDown {s : Int → Int → Int} {Q : Option jV → (Int → Int → Int) → Prop} {v1 v2 v3 : Int} (v : ((DD s) ∧ (0 ≤ v1 ∧ v1 < s 146 1) ∧ jr32 v2 ∧ jr32 v3 ∧ Q (some (jI ((s 146 0) + (ucm s v1 (-1) v2 v3)))) s)) : kR mX11_meanDown [jR 143, jI v1, jI v2, jI v3] s Q := by
  show kK mX11_meanDown 0 [jR 143, jI v1, jI v2, jI v3] [] s Q
  obtain ⟨a1, a2, a3, a4, v⟩ := v
  refine k_aload_n dX11_meanDown_0 rfl ?_
  refine k_getr dX11_meanDown_1 fl_X11_16 sh_143 (by decide) rfl ?_
  refine k_iconst dX11_meanDown_4 ?_
  refine k_iald 6 dX11_meanDown_5 sh_146 (by decide) rfl (by decide) (by decide) ?_
  refine k_aload_n dX11_meanDown_6 rfl ?_
  refine k_iload_n dX11_meanDown_7 rfl ?_
  refine k_iconst dX11_meanDown_8 ?_
  refine k_iload_n dX11_meanDown_9 rfl ?_
  refine k_iload_n dX11_meanDown_10 rfl ?_
  refine k_invV [jI v1, jI (-1), jI v2, jI v3] [jI (s 146 0)] dX11_meanDown_11 cm_X11_usesOf ml_X11_152 im_X11_usesOf se_X11_usesOf rfl sh_143 (by decide) rfl rfl (sp_X11_usesOf s v1 (-1) v2 v3 a1 a2 (by decide) a3 a4) ?_
  refine k_iadd dX11_meanDown_14 ?_
  exact k_ireturn (st := []) dX11_meanDown_15 rfl v
theorem sp_X11_meanDown (s : Int → Int → Int) (h g u : Int) (d : DD s) (hh : 0 ≤ h ∧ h < s 146 1) (hg : jr32 g) (hu : jr32 u) : kM mX11_meanDown [jR 143, jI h, jI g, jI u] s (some (jI (s 146 0 + ucm s h (-1) g u))) s := g_X11_meanDown ⟨d, hh, hg, hu, rfl, rfl⟩
