def ofP (k : Int) : Prop := jtmp k ∨ (139 ≤ k ∧ k ≤ 142)
def ogP (k : Int) : Prop := ofP k ∨ k = 144 ∨ k = 145
theorem Inv.frac {S0 : Int → Int} {s s' : Int → Int → Int} (h : Inv S0 s) (f : frm ogP s s') (g : IF s') : Inv S0 s' := by
  have k : ∀ k, jpers k → ¬ (139 ≤ k ∧ k ≤ 142) → k ≠ 144 → k ≠ 145 → s' k = s k := fun k h1 h2 h3 h4 => f k (fun c => by
    unfold ogP ofP jtmp at c
    rcases c with (c | c) | c | c
    · exact c h1
    · exact h2 c
    · exact h3 c
    · exact h4 c)
  obtain ⟨h0, ha, hb, hc, hd, he, hf, hg⟩ := h
  have kk : ∀ k, ((0 ≤ k ∧ k ≤ 42) ∨ k = 70 ∨ (88 ≤ k ∧ k ≤ 109) ∨ (111 ≤ k ∧ k ≤ 118) ∨ k = 121 ∨ (124 ≤ k ∧ k ≤ 132) ∨ (146 ≤ k ∧ k ≤ 157) ∨ (159 ≤ k ∧ k ≤ 161) ∨ k = 163 ∨ k = 167 ∨ k = 168) → s' k = s k := fun q hq => k q (by unfold jpers; omega) (by omega) (by omega) (by omega)
  exact ⟨(kk 0 (by omega)).trans h0, DD.fr ha (fun q hq => kk q (by omega)), hb.k (kk _ (by omega)) (kk _ (by omega)),
    hc.k (by rw [kk 97 (by omega)]) (by rw [kk 146 (by omega)]) (by rw [kk 146 (by omega)]; exact Int.le_refl _) (kk _ (by omega)) (kk _ (by omega)) (kk _ (by omega)) (kk _ (by omega)) (kk _ (by omega)) (kk _ (by omega)) (fun a a1 a2 => kk _ (by omega)),
    hd.k (kk _ (by omega)) (kk _ (by omega)),
    he.k (by rw [kk 124 (by omega)]) (by rw [kk 146 (by omega)]) (kk _ (by omega)) (kk _ (by omega)) (kk _ (by omega)) (fun a a1 a2 => kk _ (by omega)),
    g,
    hg.k (fun a a1 a2 => kk _ (by omega)) (fun a a1 a2 => kk _ (by omega))⟩
theorem Inv.ofd {S0 : Int → Int} {s s' : Int → Int → Int} (h : Inv S0 s) (f : frm ofP s s') : DD s' := h.dd.fr (fun k hk => f k (fun c => by unfold ofP jtmp jpers at c; omega))
/-- a call that answers 1 and leaves a fraction -/
theorem jop.f {mc mm : jM} {As : List jV} {S0 : Int → Int} {s : Int → Int → Int} (x y : Int) (hI : Inv S0 s) (hc : kR mc (jR 1 :: As) s (fun r s1 => r = some (jI 1) ∧ frm ofP s s1 ∧ BG s1 139 x ∧ BG s1 141 y)) (hm : ∀ s1, frm ofP s s1 → kR mm (jR 143 :: As) s1 (fun r s2 => r = some (jI 1) ∧ frm (fun k => k = 144 ∨ k = 145 ∨ jtmp k) s1 s2 ∧ RG s2 0 x ∧ RG s2 1 y)) (hmc : True) : jop mc mm As S0 s :=
  kK.mono hc (fun r s1 q => by
    obtain ⟨rfl, f, b1, b2⟩ := q
    have z : s1 0 = S0 := (f 0 (fun c => by unfold ofP jtmp jpers at c; omega)).trans hI.1
    refine ⟨1, rfl, z, kK.mono (hm s1 f) (fun r s2 q => ?_)⟩
    obtain ⟨rfl, g, g1, g2⟩ := q
    have kb : ∀ k, 139 ≤ k → k ≤ 142 → s2 k = s1 k := fun k k0 k1 => g k (fun c => by unfold jtmp jpers at c; omega)
    refine ⟨1, rfl, rfl, by decide, hI.frac (fun k hk => ?_) (IF_of (b1.fr (kb _ (by omega) (by omega)) (kb _ (by omega) (by omega))) (b2.fr (kb _ (by omega) (by omega)) (kb _ (by omega) (by omega))) g1 g2)⟩
    rw [g k (fun c => hk (c.elim (fun c => Or.inr (Or.inl c)) (fun c => c.elim (fun c => Or.inr (Or.inr c)) (fun c => Or.inl (Or.inl c))))), f k (fun c => hk (Or.inl c))])
theorem g_X10_bounds {s : Int → Int → Int} {Q : Option jV → (Int → Int → Int) → Prop} {v1 v2 v3 v4 : Int} (v : (jr32 v1 ∧ ((¬ (1 ≤ v1 ∧ v1 ≤ 9999) → Q (some (jI (-2))) s) ∧ (1 ≤ v1 ∧ v1 ≤ 9999 → (jr32 v2 ∧ ((¬ (0 ≤ v2 ∧ v2 ≤ v1) → Q (some (jI (-2))) s) ∧ (0 ≤ v2 ∧ v2 ≤ v1 → (jr32 v3 ∧ ((¬ (0 ≤ v3 ∧ v3 ≤ v2) → Q (some (jI (-2))) s) ∧ (0 ≤ v3 ∧ v3 ≤ v2 → (jr32 v4 ∧ ((0 ≤ v4 ∧ v4 ≤ 1 → ((v4 ≠ 0 → (jr32 ((v3 + v1) - v2) ∧ (0 ≤ ((v3 + v1) - v2) ∧ ((v3 + v1) - v2) ≤ 9223372036854775807) ∧ (0 < v1 ∧ v1 ≤ 9223372036854775807) ∧ (∀ (s14 : Int → Int → Int), (frm fcP s s14 ∧ FC s14 ((v3 + v1) - v2) v1) → Q (some (jI 1)) s14))) ∧ (v4 = 0 → ((0 ≤ v3 ∧ v3 ≤ 9223372036854775807) ∧ (0 < v1 ∧ v1 ≤ 9223372036854775807) ∧ (∀ (s19 : Int → Int → Int), (frm fcP s s19 ∧ FC s19 v3 v1) → Q (some (jI 1)) s19))))) ∧ (¬ (0 ≤ v4 ∧ v4 ≤ 1) → Q (some (jI (-2))) s))))))))))))) : kR mX10_bounds [jR 1, jI v1, jI v2, jI v3, jI v4] s Q := by
  show kK mX10_bounds 0 [jR 1, jI v1, jI v2, jI v3, jI v4] [] s Q
  obtain ⟨a1, v⟩ := v
  refine k_iload_n dX10_bounds_0 rfl ?_
  refine k_iconst dX10_bounds_1 ?_
  refine k_sipush dX10_bounds_2 rfl ?_
  refine k_invS [jI v1, jI 1, jI 9999] [] dX10_bounds_5 cm_X10_within ml_X10_92 st_X10_within rfl rfl (sp_X10_within s v1 1 9999 a1 (by decide) (by decide)) ?_
  obtain ⟨vt, vf⟩ := v
  refine k_ifb_eq 39 dX10_bounds_8 rfl (fun c2 => ?_) (fun c2 => ?_)
  · have v := vt c2
    refine k_bipush dX10_bounds_39 rfl ?_
    exact k_ireturn (st := []) dX10_bounds_41 rfl v
  · have v := vf c2
    obtain ⟨a3, v⟩ := v
    refine k_iload_n dX10_bounds_11 rfl ?_
    refine k_iconst dX10_bounds_12 ?_
    refine k_iload_n dX10_bounds_13 rfl ?_
    refine k_invS [jI v2, jI 0, jI v1] [] dX10_bounds_14 cm_X10_within ml_X10_92 st_X10_within rfl rfl (sp_X10_within s v2 0 v1 a3 (by decide) a1) ?_
    obtain ⟨vt, vf⟩ := v
    refine k_ifb_eq 39 dX10_bounds_17 rfl (fun c4 => ?_) (fun c4 => ?_)
    · have v := vt c4
      refine k_bipush dX10_bounds_39 rfl ?_
      exact k_ireturn (st := []) dX10_bounds_41 rfl v
    · have v := vf c4
      obtain ⟨a5, v⟩ := v
      refine k_iload_n dX10_bounds_20 rfl ?_
      refine k_iconst dX10_bounds_21 ?_
      refine k_iload_n dX10_bounds_22 rfl ?_
      refine k_invS [jI v3, jI 0, jI v2] [] dX10_bounds_23 cm_X10_within ml_X10_92 st_X10_within rfl rfl (sp_X10_within s v3 0 v2 a5 (by decide) a3) ?_
      obtain ⟨vt, vf⟩ := v
      refine k_ifb_eq 39 dX10_bounds_26 rfl (fun c6 => ?_) (fun c6 => ?_)
      · have v := vt c6
        refine k_bipush dX10_bounds_39 rfl ?_
        exact k_ireturn (st := []) dX10_bounds_41 rfl v
      · have v := vf c6
        obtain ⟨a7, v⟩ := v
        refine k_iload dX10_bounds_29 rfl ?_
        refine k_iconst dX10_bounds_31 ?_
        refine k_iconst dX10_bounds_32 ?_
        refine k_invS [jI v4, jI 0, jI 1] [] dX10_bounds_33 cm_X10_within ml_X10_92 st_X10_within rfl rfl (sp_X10_within s v4 0 1 a7 (by decide) (by decide)) ?_
        obtain ⟨vt, vf⟩ := v
        refine k_ifb_ne 42 dX10_bounds_36 rfl (fun c8 => ?_) (fun c8 => ?_)
        · have v := vt c8
          refine k_aload_n dX10_bounds_42 rfl ?_
          refine k_getr dX10_bounds_43 fl_X10_84 sh_1 (by decide) rfl ?_
          refine k_iload dX10_bounds_46 rfl ?_
          obtain ⟨vt, vf⟩ := v
          refine k_if_ne 56 dX10_bounds_48 rfl a7 (fun c9 => ?_) (fun c9 => ?_)
          · have v := vt c9
            obtain ⟨a10, a11, a12, v⟩ := v
            refine k_iload_n dX10_bounds_56 rfl ?_
            refine k_iload_n dX10_bounds_57 rfl ?_
            refine k_iadd dX10_bounds_58 ?_
            refine k_iload_n dX10_bounds_59 rfl ?_
            refine k_isub dX10_bounds_60 ?_
            refine k_i2l dX10_bounds_61 a10 ?_
            refine k_iload_n dX10_bounds_62 rfl ?_
            refine k_i2l dX10_bounds_63 a1 ?_
            refine k_invVR [jL ((v3 + v1) - v2), jL v1] [] dX10_bounds_64 cm_X5_put ml_X10_150 im_X5_put se_X5_put rfl sh_138 (by decide) rfl rfl (sp_X5_put s ((v3 + v1) - v2) v1 a11 a12) (fun _ s14 q15 => ?_)
            obtain ⟨rfl, q15⟩ := q15
            have v := v s14 q15
            refine k_iconst dX10_bounds_67 ?_
            exact k_ireturn (st := []) dX10_bounds_68 rfl v
          · have v := vf c9
            obtain ⟨a16, a17, v⟩ := v
            refine k_iload_n dX10_bounds_51 rfl ?_
            refine k_i2l dX10_bounds_52 a5 ?_
            refine k_goto 62 dX10_bounds_53 rfl ?_
            refine k_iload_n dX10_bounds_62 rfl ?_
            refine k_i2l dX10_bounds_63 a1 ?_
            refine k_invVR [jL v3, jL v1] [] dX10_bounds_64 cm_X5_put ml_X10_150 im_X5_put se_X5_put rfl sh_138 (by decide) rfl rfl (sp_X5_put s v3 v1 a16 a17) (fun _ s19 q20 => ?_)
            obtain ⟨rfl, q20⟩ := q20
            have v := v s19 q20
            refine k_iconst dX10_bounds_67 ?_
            exact k_ireturn (st := []) dX10_bounds_68 rfl v
        · have v := vf c8
          refine k_bipush dX10_bounds_39 rfl ?_
          exact k_ireturn (st := []) dX10_bounds_41 rfl v
theorem g_X11_bounds {s : Int → Int → Int} {Q : Option jV → (Int → Int → Int) → Prop} {v1 v2 v3 v4 : Int} (v : (jr32 v1 ∧ jr64 v1 ∧ ((¬ (1 ≤ v1 ∧ v1 ≤ 9999) → Q (some (jI (-2))) s) ∧ (1 ≤ v1 ∧ v1 ≤ 9999 → (jr32 v2 ∧ jr64 v2 ∧ ((¬ (0 ≤ v2 ∧ v2 ≤ v1) → Q (some (jI (-2))) s) ∧ (0 ≤ v2 ∧ v2 ≤ v1 → (jr32 v3 ∧ jr64 v3 ∧ ((¬ (0 ≤ v3 ∧ v3 ≤ v2) → Q (some (jI (-2))) s) ∧ (0 ≤ v3 ∧ v3 ≤ v2 → (jr32 v4 ∧ jr64 v4 ∧ ((0 ≤ v4 ∧ v4 ≤ 1 → ((v4 ≠ 0 → (jr32 ((v3 + v1) - v2) ∧ (0 ≤ ((v3 + v1) - v2) ∧ ((v3 + v1) - v2) ≤ 9223372036854775807) ∧ (0 < v1 ∧ v1 ≤ 9223372036854775807) ∧ (∀ (y17 : Int) (s18 : Int → Int → Int), (y17 = 1 ∧ RF (fun q => 0 ≤ q ∧ q ≤ 4) s s18 ∧ RG s18 0 (((v3 + v1) - v2) / gc ((v3 + v1) - v2) v1) ∧ RG s18 1 (v1 / gc ((v3 + v1) - v2) v1)) → Q (some (jI y17)) s18))) ∧ (v4 = 0 → ((0 ≤ v3 ∧ v3 ≤ 9223372036854775807) ∧ (0 < v1 ∧ v1 ≤ 9223372036854775807) ∧ (∀ (y22 : Int) (s23 : Int → Int → Int), (y22 = 1 ∧ RF (fun q => 0 ≤ q ∧ q ≤ 4) s s23 ∧ RG s23 0 (v3 / gc v3 v1) ∧ RG s23 1 (v1 / gc v3 v1)) → Q (some (jI y22)) s23))))) ∧ (¬ (0 ≤ v4 ∧ v4 ≤ 1) → Q (some (jI (-2))) s))))))))))))) : kR mX11_bounds [jR 143, jI v1, jI v2, jI v3, jI v4] s Q := by
  show kK mX11_bounds 0 [jR 143, jI v1, jI v2, jI v3, jI v4] [] s Q
  obtain ⟨a1, a2, v⟩ := v
  refine k_iload_n dX11_bounds_0 rfl ?_
  refine k_i2l dX11_bounds_1 a1 ?_
  refine k_lconst 1 dX11_bounds_2 rfl ?_
  refine k_ldc2 (9999) (9999) dX11_bounds_3 kl_X11_232 rfl ?_
  refine k_invS [jL v1, jL 1, jL 9999] [] dX11_bounds_6 cm_X11_in ml_X11_120 st_X11_in rfl rfl (sp_X11_in s v1 1 9999 a2 (by decide) (by decide)) ?_
  obtain ⟨vt, vf⟩ := v
  refine k_ifb_eq 45 dX11_bounds_9 rfl (fun c3 => ?_) (fun c3 => ?_)
  · have v := vt c3
    refine k_bipush dX11_bounds_45 rfl ?_
    exact k_ireturn (st := []) dX11_bounds_47 rfl v
  · have v := vf c3
    obtain ⟨a4, a5, v⟩ := v
    refine k_iload_n dX11_bounds_12 rfl ?_
    refine k_i2l dX11_bounds_13 a4 ?_
    refine k_lconst 0 dX11_bounds_14 rfl ?_
    refine k_iload_n dX11_bounds_15 rfl ?_
    refine k_i2l dX11_bounds_16 a1 ?_
    refine k_invS [jL v2, jL 0, jL v1] [] dX11_bounds_17 cm_X11_in ml_X11_120 st_X11_in rfl rfl (sp_X11_in s v2 0 v1 a5 (by decide) a2) ?_
    obtain ⟨vt, vf⟩ := v
    refine k_ifb_eq 45 dX11_bounds_20 rfl (fun c6 => ?_) (fun c6 => ?_)
    · have v := vt c6
      refine k_bipush dX11_bounds_45 rfl ?_
      exact k_ireturn (st := []) dX11_bounds_47 rfl v
    · have v := vf c6
      obtain ⟨a7, a8, v⟩ := v
      refine k_iload_n dX11_bounds_23 rfl ?_
      refine k_i2l dX11_bounds_24 a7 ?_
      refine k_lconst 0 dX11_bounds_25 rfl ?_
      refine k_iload_n dX11_bounds_26 rfl ?_
      refine k_i2l dX11_bounds_27 a4 ?_
      refine k_invS [jL v3, jL 0, jL v2] [] dX11_bounds_28 cm_X11_in ml_X11_120 st_X11_in rfl rfl (sp_X11_in s v3 0 v2 a8 (by decide) a5) ?_
      obtain ⟨vt, vf⟩ := v
      refine k_ifb_eq 45 dX11_bounds_31 rfl (fun c9 => ?_) (fun c9 => ?_)
      · have v := vt c9
        refine k_bipush dX11_bounds_45 rfl ?_
        exact k_ireturn (st := []) dX11_bounds_47 rfl v
      · have v := vf c9
        obtain ⟨a10, a11, v⟩ := v
        refine k_iload dX11_bounds_34 rfl ?_
        refine k_i2l dX11_bounds_36 a10 ?_
        refine k_lconst 0 dX11_bounds_37 rfl ?_
        refine k_lconst 1 dX11_bounds_38 rfl ?_
        refine k_invS [jL v4, jL 0, jL 1] [] dX11_bounds_39 cm_X11_in ml_X11_120 st_X11_in rfl rfl (sp_X11_in s v4 0 1 a11 (by decide) (by decide)) ?_
        obtain ⟨vt, vf⟩ := v
        refine k_ifb_ne 48 dX11_bounds_42 rfl (fun c12 => ?_) (fun c12 => ?_)
        · have v := vt c12
          refine k_aload_n dX11_bounds_48 rfl ?_
          refine k_iload dX11_bounds_49 rfl ?_
          obtain ⟨vt, vf⟩ := v
          refine k_if_ne 59 dX11_bounds_51 rfl a10 (fun c13 => ?_) (fun c13 => ?_)
          · have v := vt c13
            obtain ⟨a14, a15, a16, v⟩ := v
            refine k_iload_n dX11_bounds_59 rfl ?_
            refine k_iload_n dX11_bounds_60 rfl ?_
            refine k_iadd dX11_bounds_61 ?_
            refine k_iload_n dX11_bounds_62 rfl ?_
            refine k_isub dX11_bounds_63 ?_
            refine k_i2l dX11_bounds_64 a14 ?_
            refine k_iload_n dX11_bounds_65 rfl ?_
            refine k_i2l dX11_bounds_66 a1 ?_
            refine k_invVR [jL ((v3 + v1) - v2), jL v1] [] dX11_bounds_67 cm_X11_told ml_X11_163 im_X11_told se_X11_told rfl sh_143 (by decide) rfl rfl (sp_X11_told s ((v3 + v1) - v2) v1 a15 a16) (fun _ s18 q19 => ?_)
            obtain ⟨y17, rfl, q19⟩ := q19
            have v := v y17 s18 q19
            exact k_ireturn (st := []) dX11_bounds_70 rfl v
          · have v := vf c13
            obtain ⟨a20, a21, v⟩ := v
            refine k_iload_n dX11_bounds_54 rfl ?_
            refine k_i2l dX11_bounds_55 a7 ?_
            refine k_goto 65 dX11_bounds_56 rfl ?_
            refine k_iload_n dX11_bounds_65 rfl ?_
            refine k_i2l dX11_bounds_66 a1 ?_
            refine k_invVR [jL v3, jL v1] [] dX11_bounds_67 cm_X11_told ml_X11_163 im_X11_told se_X11_told rfl sh_143 (by decide) rfl rfl (sp_X11_told s v3 v1 a20 a21) (fun _ s23 q24 => ?_)
            obtain ⟨y22, rfl, q24⟩ := q24
            have v := v y22 s23 q24
            exact k_ireturn (st := []) dX11_bounds_70 rfl v
        · have v := vf c12
          refine k_bipush dX11_bounds_45 rfl ?_
          exact k_ireturn (st := []) dX11_bounds_47 rfl v
theorem g_X10_means {s : Int → Int → Int} {Q : Option jV → (Int → Int → Int) → Prop} {v1 v2 v3 : Int} (v : (jr32 v1 ∧ (WC s) ∧ ((¬ (0 ≤ v1 ∧ v1 ≤ s 2 11 - 1) → Q (some (jI (-2))) s) ∧ (0 ≤ v1 ∧ v1 ≤ s 2 11 - 1 → (jr32 v2 ∧ ((¬ (0 ≤ v2 ∧ v2 ≤ s 2 10 - 1) → Q (some (jI (-2))) s) ∧ (0 ≤ v2 ∧ v2 ≤ s 2 10 - 1 → (jr32 v3 ∧ ((0 ≤ v3 ∧ v3 ≤ 3 → ((DD s) ∧ (∀ (s10 : Int → Int → Int), (frm tlP s s10 ∧ TL s (-1) s10) → ((0 ≤ v1 ∧ v1 < 6) ∧ (0 ≤ v2 ∧ v2 < 8) ∧ (0 ≤ v3 ∧ v3 < 4) ∧ (-1 ≤ s10 5 v1 ∧ s10 5 v1 < 6) ∧ jr32 (1 + us s10 v1 v2 v3) ∧ jr32 (s10 2 10 + ua s10 v1 v3) ∧ (0 ≤ (1 + us s10 v1 v2 v3) ∧ (1 + us s10 v1 v2 v3) ≤ 9223372036854775807) ∧ (0 < (s10 2 10 + ua s10 v1 v3) ∧ (s10 2 10 + ua s10 v1 v3) ≤ 9223372036854775807) ∧ (∀ (s21 : Int → Int → Int), (frm fcP s10 s21 ∧ FC s21 (1 + us s10 v1 v2 v3) (s10 2 10 + ua s10 v1 v3)) → Q (some (jI 1)) s21))))) ∧ (¬ (0 ≤ v3 ∧ v3 ≤ 3) → Q (some (jI (-2))) s)))))))))) : kR mX10_means [jR 1, jI v1, jI v2, jI v3] s Q := by
  show kK mX10_means 0 [jR 1, jI v1, jI v2, jI v3] [] s Q
  obtain ⟨a1, a2, v⟩ := v
  refine k_aload_n dX10_means_0 rfl ?_
  refine k_iload_n dX10_means_1 rfl ?_
  refine k_invV [jI v1] [] dX10_means_2 cm_X10_isHand ml_X10_100 im_X10_isHand se_X10_isHand rfl sh_1 (by decide) rfl rfl (sp_X10_isHand s v1 a1 a2) ?_
  obtain ⟨vt, vf⟩ := v
  refine k_ifb_eq 23 dX10_means_5 rfl (fun c3 => ?_) (fun c3 => ?_)
  · have v := vt c3
    refine k_bipush dX10_means_23 rfl ?_
    exact k_ireturn (st := []) dX10_means_25 rfl v
  · have v := vf c3
    obtain ⟨a4, v⟩ := v
    refine k_aload_n dX10_means_8 rfl ?_
    refine k_iload_n dX10_means_9 rfl ?_
    refine k_invV [jI v2] [] dX10_means_10 cm_X10_isWord ml_X10_126 im_X10_isWord se_X10_isWord rfl sh_1 (by decide) rfl rfl (sp_X10_isWord s v2 a4 a2) ?_
    obtain ⟨vt, vf⟩ := v
    refine k_ifb_eq 23 dX10_means_13 rfl (fun c5 => ?_) (fun c5 => ?_)
    · have v := vt c5
      refine k_bipush dX10_means_23 rfl ?_
      exact k_ireturn (st := []) dX10_means_25 rfl v
    · have v := vf c5
      obtain ⟨a6, v⟩ := v
      refine k_iload_n dX10_means_16 rfl ?_
      refine k_invS [jI v3] [] dX10_means_17 cm_X10_isGift ml_X10_132 st_X10_isGift rfl rfl (sp_X10_isGift s v3 a6) ?_
      obtain ⟨vt, vf⟩ := v
      refine k_ifb_ne 26 dX10_means_20 rfl (fun c7 => ?_) (fun c7 => ?_)
      · have v := vt c7
        obtain ⟨a8, v⟩ := v
        refine k_aload_n dX10_means_26 rfl ?_
        refine k_getr dX10_means_27 fl_X10_21 sh_1 (by decide) rfl ?_
        refine k_iconst dX10_means_30 ?_
        refine k_invVR [jI (-1)] [] dX10_means_31 cm_X8_takeAllBut ml_X10_135 im_X8_takeAllBut se_X8_takeAllBut rfl sh_43 (by decide) rfl rfl (sp_X8_takeAllBut s (-1) a8 (by decide)) (fun _ s10 q11 => ?_)
        obtain ⟨rfl, q11⟩ := q11
        have v := v s10 q11
        obtain ⟨a12, a13, a14, a15, a16, a17, a18, a19, v⟩ := v
        refine k_aload_n dX10_means_34 rfl ?_
        refine k_getr dX10_means_35 fl_X10_84 sh_1 (by decide) rfl ?_
        refine k_aload_n dX10_means_38 rfl ?_
        refine k_getr dX10_means_39 fl_X10_21 sh_1 (by decide) rfl ?_
        refine k_iload_n dX10_means_42 rfl ?_
        refine k_iload_n dX10_means_43 rfl ?_
        refine k_iload_n dX10_means_44 rfl ?_
        refine k_invV [jI v1, jI v2, jI v3] [jR 138] dX10_means_45 cm_X8_meantAbove ml_X10_142 im_X8_meantAbove se_X8_meantAbove rfl sh_43 (by decide) rfl rfl (sp_X8_meantAbove s10 v1 v2 v3 a12 a13 a14 a15 a16) ?_
        refine k_aload_n dX10_means_48 rfl ?_
        refine k_getr dX10_means_49 fl_X10_21 sh_1 (by decide) rfl ?_
        refine k_iload_n dX10_means_52 rfl ?_
        refine k_iload_n dX10_means_53 rfl ?_
        refine k_invV [jI v1, jI v3] [jL (1 + us s10 v1 v2 v3), jR 138] dX10_means_54 cm_X8_meantBelow ml_X10_146 im_X8_meantBelow se_X8_meantBelow rfl sh_43 (by decide) rfl rfl (sp_X8_meantBelow s10 v1 v3 a12 a14 a15 a17) ?_
        refine k_invVR [jL (1 + us s10 v1 v2 v3), jL (s10 2 10 + ua s10 v1 v3)] [] dX10_means_57 cm_X5_put ml_X10_150 im_X5_put se_X5_put rfl sh_138 (by decide) rfl rfl (sp_X5_put s10 (1 + us s10 v1 v2 v3) (s10 2 10 + ua s10 v1 v3) a18 a19) (fun _ s21 q22 => ?_)
        obtain ⟨rfl, q22⟩ := q22
        have v := v s21 q22
        refine k_iconst dX10_means_60 ?_
        exact k_ireturn (st := []) dX10_means_61 rfl v
      · have v := vf c7
        refine k_bipush dX10_means_23 rfl ?_
        exact k_ireturn (st := []) dX10_means_25 rfl v
theorem g_X11_means {s : Int → Int → Int} {Q : Option jV → (Int → Int → Int) → Prop} {v1 v2 v3 : Int} (v : ((DD s) ∧ jr32 v1 ∧ jr32 v2 ∧ jr32 v3 ∧ ((¬ ((0 ≤ v1 ∧ v1 ≤ s 146 1 - 1) ∧ (0 ≤ v2 ∧ v2 ≤ s 146 0 - 1) ∧ 0 ≤ v3 ∧ v3 ≤ 3) → Q (some (jI (-2))) s) ∧ ((0 ≤ v1 ∧ v1 ≤ s 146 1 - 1) ∧ (0 ≤ v2 ∧ v2 ≤ s 146 0 - 1) ∧ 0 ≤ v3 ∧ v3 ≤ 3 → ((0 ≤ v1 ∧ v1 < s 146 1) ∧ jr32 (1 + ucm s v1 v2 v3 (-1)) ∧ jr32 (s 146 0 + ucm s v1 (-1) v3 (-1)) ∧ (0 ≤ (1 + ucm s v1 v2 v3 (-1)) ∧ (1 + ucm s v1 v2 v3 (-1)) ≤ 9223372036854775807) ∧ (0 < (s 146 0 + ucm s v1 (-1) v3 (-1)) ∧ (s 146 0 + ucm s v1 (-1) v3 (-1)) ≤ 9223372036854775807) ∧ (∀ (y11 : Int) (s12 : Int → Int → Int), (y11 = 1 ∧ RF (fun q => 0 ≤ q ∧ q ≤ 4) s s12 ∧ RG s12 0 ((1 + ucm s v1 v2 v3 (-1)) / gc (1 + ucm s v1 v2 v3 (-1)) (s 146 0 + ucm s v1 (-1) v3 (-1))) ∧ RG s12 1 ((s 146 0 + ucm s v1 (-1) v3 (-1)) / gc (1 + ucm s v1 v2 v3 (-1)) (s 146 0 + ucm s v1 (-1) v3 (-1)))) → Q (some (jI y11)) s12)))))) : kR mX11_means [jR 143, jI v1, jI v2, jI v3] s Q := by
  show kK mX11_means 0 [jR 143, jI v1, jI v2, jI v3] [] s Q
  obtain ⟨a1, a2, a3, a4, v⟩ := v
  refine k_aload_n dX11_means_0 rfl ?_
  refine k_iload_n dX11_means_1 rfl ?_
  refine k_iload_n dX11_means_2 rfl ?_
  refine k_iload_n dX11_means_3 rfl ?_
  refine k_invV [jI v1, jI v2, jI v3] [] dX11_means_4 cm_X11_isUse ml_X11_148 im_X11_isUse se_X11_isUse rfl sh_143 (by decide) rfl rfl (sp_X11_isUse s v1 v2 v3 a1 a2 a3 a4) ?_
  obtain ⟨vt, vf⟩ := v
  refine k_ifb_eq 34 dX11_means_7 rfl (fun c5 => ?_) (fun c5 => ?_)
  · have v := vt c5
    refine k_bipush dX11_means_34 rfl ?_
    exact k_ireturn (st := []) dX11_means_36 rfl v
  · have v := vf c5
    obtain ⟨a6, a7, a8, a9, a10, v⟩ := v
    refine k_aload_n dX11_means_10 rfl ?_
    refine k_aload_n dX11_means_11 rfl ?_
    refine k_iload_n dX11_means_12 rfl ?_
    refine k_iload_n dX11_means_13 rfl ?_
    refine k_iload_n dX11_means_14 rfl ?_
    refine k_iconst dX11_means_15 ?_
    refine k_invV [jI v1, jI v2, jI v3, jI (-1)] [jR 143] dX11_means_16 cm_X11_meanUp ml_X11_156 im_X11_meanUp se_X11_meanUp rfl sh_143 (by decide) rfl rfl (sp_X11_meanUp s v1 v2 v3 (-1) a1 a6 a3 a4 (by decide)) ?_
    refine k_i2l dX11_means_19 a7 ?_
    refine k_aload_n dX11_means_20 rfl ?_
    refine k_iload_n dX11_means_21 rfl ?_
    refine k_iload_n dX11_means_22 rfl ?_
    refine k_iconst dX11_means_23 ?_
    refine k_invV [jI v1, jI v3, jI (-1)] [jL (1 + ucm s v1 v2 v3 (-1)), jR 143] dX11_means_24 cm_X11_meanDown ml_X11_159 im_X11_meanDown se_X11_meanDown rfl sh_143 (by decide) rfl rfl (sp_X11_meanDown s v1 v3 (-1) a1 a6 a4 (by decide)) ?_
    refine k_i2l dX11_means_27 a8 ?_
    refine k_invVR [jL (1 + ucm s v1 v2 v3 (-1)), jL (s 146 0 + ucm s v1 (-1) v3 (-1))] [] dX11_means_28 cm_X11_told ml_X11_163 im_X11_told se_X11_told rfl sh_143 (by decide) rfl rfl (sp_X11_told s (1 + ucm s v1 v2 v3 (-1)) (s 146 0 + ucm s v1 (-1) v3 (-1)) a9 a10) (fun _ s12 q13 => ?_)
    obtain ⟨y11, rfl, q13⟩ := q13
    have v := v y11 s12 q13
    refine k_goto 36 dX11_means_31 rfl ?_
    exact k_ireturn (st := []) dX11_means_36 rfl v
theorem g_X10_year {s : Int → Int → Int} {Q : Option jV → (Int → Int → Int) → Prop} {v1 v2 : Int} (v : (jr32 v1 ∧ ((¬ (0 ≤ v1 ∧ v1 ≤ 39) → Q (some (jI (-2))) s) ∧ (0 ≤ v1 ∧ v1 ≤ 39 → (jr32 v2 ∧ ((v2 = (-1) → ((DD s) ∧ (∀ (s7 : Int → Int → Int), (frm (fun k => k = 84) s s7 ∧ ∀ i, 0 ≤ i → i < 10 → s7 84 i = yc s v1 v2 i) → (jr32 (sg (9 + 1) (s7 84)) ∧ (((sg (9 + 1) (s7 84)) ≠ 0 → (jr32 (sg 10 (fun r => r * s7 84 r)) ∧ (0 ≤ (sg 10 (fun r => r * s7 84 r)) ∧ (sg 10 (fun r => r * s7 84 r)) ≤ 9223372036854775807) ∧ (0 < (sg (9 + 1) (s7 84)) ∧ (sg (9 + 1) (s7 84)) ≤ 9223372036854775807) ∧ (∀ (s15 : Int → Int → Int), (frm fcP s7 s15 ∧ FC s15 (sg 10 (fun r => r * s7 84 r)) (sg (9 + 1) (s7 84))) → Q (some (jI 1)) s15))) ∧ ((sg (9 + 1) (s7 84)) = 0 → Q (some (jI (-3))) s7)))))) ∧ (¬ (v2 = (-1)) → ((WC s) ∧ ((0 ≤ v2 ∧ v2 ≤ s 2 11 - 1 → ((DD s) ∧ (∀ (s21 : Int → Int → Int), (frm (fun k => k = 84) s s21 ∧ ∀ i, 0 ≤ i → i < 10 → s21 84 i = yc s v1 v2 i) → (jr32 (sg (9 + 1) (s21 84)) ∧ (((sg (9 + 1) (s21 84)) ≠ 0 → (jr32 (sg 10 (fun r => r * s21 84 r)) ∧ (0 ≤ (sg 10 (fun r => r * s21 84 r)) ∧ (sg 10 (fun r => r * s21 84 r)) ≤ 9223372036854775807) ∧ (0 < (sg (9 + 1) (s21 84)) ∧ (sg (9 + 1) (s21 84)) ≤ 9223372036854775807) ∧ (∀ (s29 : Int → Int → Int), (frm fcP s21 s29 ∧ FC s29 (sg 10 (fun r => r * s21 84 r)) (sg (9 + 1) (s21 84))) → Q (some (jI 1)) s29))) ∧ ((sg (9 + 1) (s21 84)) = 0 → Q (some (jI (-3))) s21)))))) ∧ (¬ (0 ≤ v2 ∧ v2 ≤ s 2 11 - 1) → Q (some (jI (-2))) s)))))))))) : kR mX10_year [jR 1, jI v1, jI v2] s Q := by
  show kK mX10_year 0 [jR 1, jI v1, jI v2, jU] [] s Q
  obtain ⟨a1, v⟩ := v
  refine k_iload_n dX10_year_0 rfl ?_
  refine k_invS [jI v1] [] dX10_year_1 cm_X10_isYear ml_X10_116 st_X10_isYear rfl rfl (sp_X10_isYear s v1 a1) ?_
  obtain ⟨vt, vf⟩ := v
  refine k_ifb_eq 20 dX10_year_4 rfl (fun c2 => ?_) (fun c2 => ?_)
  · have v := vt c2
    refine k_bipush dX10_year_20 rfl ?_
    exact k_ireturn (st := []) dX10_year_22 rfl v
  · have v := vf c2
    obtain ⟨a3, v⟩ := v
    refine k_iload_n dX10_year_7 rfl ?_
    refine k_iconst dX10_year_8 ?_
    obtain ⟨vt, vf⟩ := v
    refine k_icmp_eq 23 dX10_year_9 rfl a3 (by decide) (fun c4 => ?_) (fun c4 => ?_)
    · have v := vt c4
      obtain ⟨a5, v⟩ := v
      refine k_aload_n dX10_year_23 rfl ?_
      refine k_getr dX10_year_24 fl_X10_47 sh_1 (by decide) rfl ?_
      refine k_aload_n dX10_year_27 rfl ?_
      refine k_getr dX10_year_28 fl_X10_47 sh_1 (by decide) rfl ?_
      refine k_getr dX10_year_31 fl_X10_180 sh_83 (by decide) rfl ?_
      refine k_iload_n dX10_year_34 rfl ?_
      refine k_iload_n dX10_year_35 rfl ?_
      refine k_invVR [jR 84, jI v1, jI v2] [] dX10_year_36 cm_X9_take ml_X10_183 im_X9_take se_X9_take rfl sh_83 (by decide) rfl rfl (sp_X9_take s 84 v1 v2 a5 a1 a3 (by decide) sh_84 (by decide)) (fun _ s7 q8 => ?_)
      obtain ⟨rfl, q8⟩ := q8
      have v := v s7 q8
      obtain ⟨a9, v⟩ := v
      refine k_aload_n dX10_year_39 rfl ?_
      refine k_getr dX10_year_40 fl_X10_47 sh_1 (by decide) rfl ?_
      refine k_aload_n dX10_year_43 rfl ?_
      refine k_getr dX10_year_44 fl_X10_47 sh_1 (by decide) rfl ?_
      refine k_getr dX10_year_47 fl_X10_180 sh_83 (by decide) rfl ?_
      refine k_bipush dX10_year_50 rfl ?_
      refine k_invV [jR 84, jI 9] [] dX10_year_52 cm_X9_wordsUpTo ml_X10_187 im_X9_wordsUpTo se_X9_wordsUpTo rfl sh_83 (by decide) rfl rfl (sp_X9_wordsUpTo s7 84 9 (by decide) sh_84 (by decide)) ?_
      refine k_istore_n [jR 1, jI v1, jI v2, jI (sg (9 + 1) (s7 84))] dX10_year_55 rfl rfl ?_
      refine k_iload_n dX10_year_56 rfl ?_
      obtain ⟨vt, vf⟩ := v
      refine k_if_ne 63 dX10_year_57 rfl a9 (fun c10 => ?_) (fun c10 => ?_)
      · have v := vt c10
        obtain ⟨a11, a12, a13, v⟩ := v
        refine k_aload_n dX10_year_63 rfl ?_
        refine k_getr dX10_year_64 fl_X10_84 sh_1 (by decide) rfl ?_
        refine k_aload_n dX10_year_67 rfl ?_
        refine k_getr dX10_year_68 fl_X10_47 sh_1 (by decide) rfl ?_
        refine k_aload_n dX10_year_71 rfl ?_
        refine k_getr dX10_year_72 fl_X10_47 sh_1 (by decide) rfl ?_
        refine k_getr dX10_year_75 fl_X10_180 sh_83 (by decide) rfl ?_
        refine k_invV [jR 84] [jR 138] dX10_year_78 cm_X9_sumOfRanks ml_X10_191 im_X9_sumOfRanks se_X9_sumOfRanks rfl sh_83 (by decide) rfl rfl (sp_X9_sumOfRanks s7 84 sh_84 (by decide)) ?_
        refine k_i2l dX10_year_81 a11 ?_
        refine k_iload_n dX10_year_82 rfl ?_
        refine k_i2l dX10_year_83 a9 ?_
        refine k_invVR [jL (sg 10 (fun r => r * s7 84 r)), jL (sg (9 + 1) (s7 84))] [] dX10_year_84 cm_X5_put ml_X10_150 im_X5_put se_X5_put rfl sh_138 (by decide) rfl rfl (sp_X5_put s7 (sg 10 (fun r => r * s7 84 r)) (sg (9 + 1) (s7 84)) a12 a13) (fun _ s15 q16 => ?_)
        obtain ⟨rfl, q16⟩ := q16
        have v := v s15 q16
        refine k_iconst dX10_year_87 ?_
        exact k_ireturn (st := []) dX10_year_88 rfl v
      · have v := vf c10
        refine k_bipush dX10_year_60 rfl ?_
        exact k_ireturn (st := []) dX10_year_62 rfl v
    · have v := vf c4
      obtain ⟨a17, v⟩ := v
      refine k_aload_n dX10_year_12 rfl ?_
      refine k_iload_n dX10_year_13 rfl ?_
      refine k_invV [jI v2] [] dX10_year_14 cm_X10_isHand ml_X10_100 im_X10_isHand se_X10_isHand rfl sh_1 (by decide) rfl rfl (sp_X10_isHand s v2 a3 a17) ?_
      obtain ⟨vt, vf⟩ := v
      refine k_ifb_ne 23 dX10_year_17 rfl (fun c18 => ?_) (fun c18 => ?_)
      · have v := vt c18
        obtain ⟨a19, v⟩ := v
        refine k_aload_n dX10_year_23 rfl ?_
        refine k_getr dX10_year_24 fl_X10_47 sh_1 (by decide) rfl ?_
        refine k_aload_n dX10_year_27 rfl ?_
        refine k_getr dX10_year_28 fl_X10_47 sh_1 (by decide) rfl ?_
        refine k_getr dX10_year_31 fl_X10_180 sh_83 (by decide) rfl ?_
        refine k_iload_n dX10_year_34 rfl ?_
        refine k_iload_n dX10_year_35 rfl ?_
        refine k_invVR [jR 84, jI v1, jI v2] [] dX10_year_36 cm_X9_take ml_X10_183 im_X9_take se_X9_take rfl sh_83 (by decide) rfl rfl (sp_X9_take s 84 v1 v2 a19 a1 a3 (by decide) sh_84 (by decide)) (fun _ s21 q22 => ?_)
        obtain ⟨rfl, q22⟩ := q22
        have v := v s21 q22
        obtain ⟨a23, v⟩ := v
        refine k_aload_n dX10_year_39 rfl ?_
        refine k_getr dX10_year_40 fl_X10_47 sh_1 (by decide) rfl ?_
        refine k_aload_n dX10_year_43 rfl ?_
        refine k_getr dX10_year_44 fl_X10_47 sh_1 (by decide) rfl ?_
        refine k_getr dX10_year_47 fl_X10_180 sh_83 (by decide) rfl ?_
        refine k_bipush dX10_year_50 rfl ?_
        refine k_invV [jR 84, jI 9] [] dX10_year_52 cm_X9_wordsUpTo ml_X10_187 im_X9_wordsUpTo se_X9_wordsUpTo rfl sh_83 (by decide) rfl rfl (sp_X9_wordsUpTo s21 84 9 (by decide) sh_84 (by decide)) ?_
        refine k_istore_n [jR 1, jI v1, jI v2, jI (sg (9 + 1) (s21 84))] dX10_year_55 rfl rfl ?_
        refine k_iload_n dX10_year_56 rfl ?_
        obtain ⟨vt, vf⟩ := v
        refine k_if_ne 63 dX10_year_57 rfl a23 (fun c24 => ?_) (fun c24 => ?_)
        · have v := vt c24
          obtain ⟨a25, a26, a27, v⟩ := v
          refine k_aload_n dX10_year_63 rfl ?_
          refine k_getr dX10_year_64 fl_X10_84 sh_1 (by decide) rfl ?_
          refine k_aload_n dX10_year_67 rfl ?_
          refine k_getr dX10_year_68 fl_X10_47 sh_1 (by decide) rfl ?_
          refine k_aload_n dX10_year_71 rfl ?_
          refine k_getr dX10_year_72 fl_X10_47 sh_1 (by decide) rfl ?_
          refine k_getr dX10_year_75 fl_X10_180 sh_83 (by decide) rfl ?_
          refine k_invV [jR 84] [jR 138] dX10_year_78 cm_X9_sumOfRanks ml_X10_191 im_X9_sumOfRanks se_X9_sumOfRanks rfl sh_83 (by decide) rfl rfl (sp_X9_sumOfRanks s21 84 sh_84 (by decide)) ?_
          refine k_i2l dX10_year_81 a25 ?_
          refine k_iload_n dX10_year_82 rfl ?_
          refine k_i2l dX10_year_83 a23 ?_
          refine k_invVR [jL (sg 10 (fun r => r * s21 84 r)), jL (sg (9 + 1) (s21 84))] [] dX10_year_84 cm_X5_put ml_X10_150 im_X5_put se_X5_put rfl sh_138 (by decide) rfl rfl (sp_X5_put s21 (sg 10 (fun r => r * s21 84 r)) (sg (9 + 1) (s21 84)) a26 a27) (fun _ s29 q30 => ?_)
          obtain ⟨rfl, q30⟩ := q30
          have v := v s29 q30
          refine k_iconst dX10_year_87 ?_
          exact k_ireturn (st := []) dX10_year_88 rfl v
        · have v := vf c24
          refine k_bipush dX10_year_60 rfl ?_
          exact k_ireturn (st := []) dX10_year_62 rfl v
      · have v := vf c18
        refine k_bipush dX10_year_20 rfl ?_
        exact k_ireturn (st := []) dX10_year_22 rfl v
theorem g_X11_year {s : Int → Int → Int} {Q : Option jV → (Int → Int → Int) → Prop} {v1 v2 : Int} (v : (jr32 v1 ∧ ((¬ (0 ≤ v1 ∧ v1 ≤ 39) → Q (some (jI (-2))) s) ∧ (0 ≤ v1 ∧ v1 ≤ 39 → (jr32 v2 ∧ ((v2 = (-1) → ((DD s) ∧ kK mX11_year 39 [jR 143, jI v1, jI v2, jI (wlp s (s 146 3) v1 v2 9), jI 0, jI 0] [] s Q)) ∧ (¬ (v2 = (-1)) → ((0 ≤ s 146 1 ∧ s 146 1 ≤ 1000) ∧ ((0 ≤ v2 ∧ v2 ≤ s 146 1 - 1 → ((DD s) ∧ kK mX11_year 39 [jR 143, jI v1, jI v2, jI (wlp s (s 146 3) v1 v2 9), jI 0, jI 0] [] s Q)) ∧ (¬ (0 ≤ v2 ∧ v2 ≤ s 146 1 - 1) → Q (some (jI (-2))) s)))))))))) : kR mX11_year [jR 143, jI v1, jI v2] s Q := by
  show kK mX11_year 0 [jR 143, jI v1, jI v2, jU, jU, jU] [] s Q
  obtain ⟨a1, v⟩ := v
  refine k_iload_n dX11_year_0 rfl ?_
  refine k_invS [jI v1] [] dX11_year_1 cm_X11_isYear ml_X11_185 st_X11_isYear rfl rfl (sp_X11_isYear s v1 a1) ?_
  obtain ⟨vt, vf⟩ := v
  refine k_ifb_eq 21 dX11_year_4 rfl (fun c2 => ?_) (fun c2 => ?_)
  · have v := vt c2
    refine k_bipush dX11_year_21 rfl ?_
    exact k_ireturn (st := []) dX11_year_23 rfl v
  · have v := vf c2
    obtain ⟨a3, v⟩ := v
    refine k_iload_n dX11_year_7 rfl ?_
    refine k_iconst dX11_year_8 ?_
    obtain ⟨vt, vf⟩ := v
    refine k_icmp_eq 24 dX11_year_9 rfl a3 (by decide) (fun c4 => ?_) (fun c4 => ?_)
    · have v := vt c4
      obtain ⟨a5, v⟩ := v
      refine k_aload_n dX11_year_24 rfl ?_
      refine k_iload_n dX11_year_25 rfl ?_
      refine k_iload_n dX11_year_26 rfl ?_
      refine k_bipush dX11_year_27 rfl ?_
      refine k_invV [jI v1, jI v2, jI 9] [] dX11_year_29 cm_X11_wordsIn ml_X11_188 im_X11_wordsIn se_X11_wordsIn rfl sh_143 (by decide) rfl rfl (sp_X11_wordsIn s v1 v2 9 a5 a1 a3 (by decide)) ?_
      refine k_istore_n [jR 143, jI v1, jI v2, jI (wlp s (s 146 3) v1 v2 9), jU, jU] dX11_year_32 rfl rfl ?_
      refine k_iconst dX11_year_33 ?_
      refine k_istore [jR 143, jI v1, jI v2, jI (wlp s (s 146 3) v1 v2 9), jI 0, jU] dX11_year_34 rfl rfl ?_
      refine k_iconst dX11_year_36 ?_
      refine k_istore [jR 143, jI v1, jI v2, jI (wlp s (s 146 3) v1 v2 9), jI 0, jI 0] dX11_year_37 rfl rfl ?_
      exact v
    · have v := vf c4
      obtain ⟨a6, v⟩ := v
      refine k_aload_n dX11_year_12 rfl ?_
      refine k_iconst dX11_year_13 ?_
      refine k_iload_n dX11_year_14 rfl ?_
      refine k_invV [jI 1, jI v2] [] dX11_year_15 cm_X11_is ml_X11_136 im_X11_is se_X11_is rfl sh_143 (by decide) rfl rfl (sp_X11_is s 1 v2 (by decide) a3 a6) ?_
      obtain ⟨vt, vf⟩ := v
      refine k_ifb_ne 24 dX11_year_18 rfl (fun c7 => ?_) (fun c7 => ?_)
      · have v := vt c7
        obtain ⟨a8, v⟩ := v
        refine k_aload_n dX11_year_24 rfl ?_
        refine k_iload_n dX11_year_25 rfl ?_
        refine k_iload_n dX11_year_26 rfl ?_
        refine k_bipush dX11_year_27 rfl ?_
        refine k_invV [jI v1, jI v2, jI 9] [] dX11_year_29 cm_X11_wordsIn ml_X11_188 im_X11_wordsIn se_X11_wordsIn rfl sh_143 (by decide) rfl rfl (sp_X11_wordsIn s v1 v2 9 a8 a1 a3 (by decide)) ?_
        refine k_istore_n [jR 143, jI v1, jI v2, jI (wlp s (s 146 3) v1 v2 9), jU, jU] dX11_year_32 rfl rfl ?_
        refine k_iconst dX11_year_33 ?_
        refine k_istore [jR 143, jI v1, jI v2, jI (wlp s (s 146 3) v1 v2 9), jI 0, jU] dX11_year_34 rfl rfl ?_
        refine k_iconst dX11_year_36 ?_
        refine k_istore [jR 143, jI v1, jI v2, jI (wlp s (s 146 3) v1 v2 9), jI 0, jI 0] dX11_year_37 rfl rfl ?_
        exact v
      · have v := vf c7
        refine k_bipush dX11_year_21 rfl ?_
        exact k_ireturn (st := []) dX11_year_23 rfl v
theorem g_X11_year_39 {s : Int → Int → Int} {Q : Option jV → (Int → Int → Int) → Prop} {v1 v2 v3 v4 v5 : Int} (v : (jr32 v5 ∧ ((9 ≤ v5 → (jr32 v3 ∧ ((v3 ≠ 0 → (jr32 v4 ∧ (0 ≤ v4 ∧ v4 ≤ 9223372036854775807) ∧ (0 < v3 ∧ v3 ≤ 9223372036854775807) ∧ (∀ (y8 : Int) (s9 : Int → Int → Int), (y8 = 1 ∧ RF (fun q => 0 ≤ q ∧ q ≤ 4) s s9 ∧ RG s9 0 (v4 / gc v4 v3) ∧ RG s9 1 (v3 / gc v4 v3)) → Q (some (jI y8)) s9))) ∧ (v3 = 0 → Q (some (jI (-3))) s)))) ∧ (¬ (9 ≤ v5) → ((DD s) ∧ jr32 v1 ∧ jr32 v2 ∧ kK mX11_year 39 [jR 143, jI v1, jI v2, jI v3, jI (v4 + (v3 - (wlp s (s 146 3) v1 v2 v5))), jI (v5 + 1)] [] s Q))))) : kK mX11_year 39 [jR 143, jI v1, jI v2, jI v3, jI v4, jI v5] [] s Q := by
  obtain ⟨a1, v⟩ := v
  refine k_iload dX11_year_39 rfl ?_
  refine k_bipush dX11_year_41 rfl ?_
  obtain ⟨vt, vf⟩ := v
  refine k_icmp_ge 67 dX11_year_43 rfl a1 (by decide) (fun c2 => ?_) (fun c2 => ?_)
  · have v := vt c2
    obtain ⟨a3, v⟩ := v
    refine k_iload_n dX11_year_67 rfl ?_
    obtain ⟨vt, vf⟩ := v
    refine k_if_ne 76 dX11_year_68 rfl a3 (fun c4 => ?_) (fun c4 => ?_)
    · have v := vt c4
      obtain ⟨a5, a6, a7, v⟩ := v
      refine k_aload_n dX11_year_76 rfl ?_
      refine k_iload dX11_year_77 rfl ?_
      refine k_i2l dX11_year_79 a5 ?_
      refine k_iload_n dX11_year_80 rfl ?_
      refine k_i2l dX11_year_81 a3 ?_
      refine k_invVR [jL v4, jL v3] [] dX11_year_82 cm_X11_told ml_X11_163 im_X11_told se_X11_told rfl sh_143 (by decide) rfl rfl (sp_X11_told s v4 v3 a6 a7) (fun _ s9 q10 => ?_)
      obtain ⟨y8, rfl, q10⟩ := q10
      have v := v y8 s9 q10
      exact k_ireturn (st := []) dX11_year_85 rfl v
    · have v := vf c4
      refine k_bipush dX11_year_71 rfl ?_
      refine k_goto 85 dX11_year_73 rfl ?_
      exact k_ireturn (st := []) dX11_year_85 rfl v
  · have v := vf c2
    obtain ⟨a11, a12, a13, v⟩ := v
    refine k_iload dX11_year_46 rfl ?_
    refine k_iload_n dX11_year_48 rfl ?_
    refine k_aload_n dX11_year_49 rfl ?_
    refine k_iload_n dX11_year_50 rfl ?_
    refine k_iload_n dX11_year_51 rfl ?_
    refine k_iload dX11_year_52 rfl ?_
    refine k_invV [jI v1, jI v2, jI v5] [jI v3, jI v4] dX11_year_54 cm_X11_wordsIn ml_X11_188 im_X11_wordsIn se_X11_wordsIn rfl sh_143 (by decide) rfl rfl (sp_X11_wordsIn s v1 v2 v5 a11 a12 a13 a1) ?_
    refine k_isub dX11_year_57 ?_
    refine k_iadd dX11_year_58 ?_
    refine k_istore [jR 143, jI v1, jI v2, jI v3, jI (v4 + (v3 - (wlp s (s 146 3) v1 v2 v5))), jI v5] dX11_year_59 rfl rfl ?_
    refine k_iinc [jR 143, jI v1, jI v2, jI v3, jI (v4 + (v3 - (wlp s (s 146 3) v1 v2 v5))), jI (v5 + 1)] dX11_year_61 rfl rfl rfl ?_
    refine k_goto 39 dX11_year_64 rfl ?_
    exact v
theorem rf_mf {P : Int → Prop} {s1 s2 : Int → Int → Int} (h : RF P s1 s2) : frm (fun k => k = 144 ∨ k = 145 ∨ jtmp k) s1 s2 := fun k hk => h.1 k (fun e => hk (Or.inl e)) (fun e => hk (Or.inr (Or.inl e)))
theorem fc_of {s s1 s2 : Int → Int → Int} {P : Int → Prop} (f : frm P s s1) (g : frm fcP s1 s2) (h : ∀ k, P k → ofP k) : frm ofP s s2 := fun k hk => by
  rw [g k (fun c => hk (Or.inr c)), f k (fun c => hk (h k c))]
theorem op_bounds {S0 : Int → Int} {s : Int → Int → Int} (hI : Inv S0 s) (a1 a2 a3 a4 : Int) (h1 : jr32 a1) (h2 : jr32 a2) (h3 : jr32 a3) (h4 : jr32 a4) : jop mX10_bounds mX11_bounds [jI a1, jI a2, jI a3, jI a4] S0 s := by
  by_cases c : (1 ≤ a1 ∧ a1 ≤ 9999) ∧ (0 ≤ a2 ∧ a2 ≤ a1) ∧ (0 ≤ a3 ∧ a3 ≤ a2) ∧ 0 ≤ a4 ∧ a4 ≤ 1
  · obtain ⟨c1, c2, c3, c4⟩ := c
    have rf : ∀ s1 : Int → Int → Int, frm ofP s1 s1 := fun _ => frm.rf
    by_cases z : a4 = 0
    · refine jop.f (a3 / gc a3 a1) (a1 / gc a3 a1) hI (g_X10_bounds ⟨h1, fun q => absurd c1 q, fun _ => ⟨h2, fun q => absurd c2 q, fun _ => ⟨h3, fun q => absurd c3 q, fun _ => ⟨h4, fun _ => ⟨fun q => absurd z q, fun _ => ⟨by omega, by omega, fun s1 q => ⟨rfl, fc_of (rf s) q.1 (fun _ e => e), q.2⟩⟩⟩, fun q => absurd c4 q⟩⟩⟩⟩) (fun s1 f => ?_) trivial
      exact g_X11_bounds ⟨h1, j3264 h1, fun q => absurd c1 q, fun _ => ⟨h2, j3264 h2, fun q => absurd c2 q, fun _ => ⟨h3, j3264 h3, fun q => absurd c3 q, fun _ => ⟨h4, j3264 h4, fun _ => ⟨fun q => absurd z q, fun _ => ⟨by omega, by omega, fun y s2 q => ⟨by rw [q.1], rf_mf q.2.1, q.2.2⟩⟩⟩, fun q => absurd c4 q⟩⟩⟩⟩
    · refine jop.f ((a3 + a1 - a2) / gc (a3 + a1 - a2) a1) (a1 / gc (a3 + a1 - a2) a1) hI (g_X10_bounds ⟨h1, fun q => absurd c1 q, fun _ => ⟨h2, fun q => absurd c2 q, fun _ => ⟨h3, fun q => absurd c3 q, fun _ => ⟨h4, fun _ => ⟨fun _ => ⟨by unfold jr32; omega, by omega, by omega, fun s1 q => ⟨rfl, fc_of (rf s) q.1 (fun _ e => e), q.2⟩⟩, fun q => absurd q z⟩, fun q => absurd c4 q⟩⟩⟩⟩) (fun s1 f => ?_) trivial
      exact g_X11_bounds ⟨h1, j3264 h1, fun q => absurd c1 q, fun _ => ⟨h2, j3264 h2, fun q => absurd c2 q, fun _ => ⟨h3, j3264 h3, fun q => absurd c3 q, fun _ => ⟨h4, j3264 h4, fun _ => ⟨fun _ => ⟨by unfold jr32; omega, by omega, by omega, fun y s2 q => ⟨by rw [q.1], rf_mf q.2.1, q.2.2⟩⟩, fun q => absurd q z⟩, fun q => absurd c4 q⟩⟩⟩⟩
  · exact jop.q (y := -2) hI (by decide) (g_X10_bounds ⟨h1, fun _ => ⟨rfl, rfl⟩, fun c1 => ⟨h2, fun _ => ⟨rfl, rfl⟩, fun c2 => ⟨h3, fun _ => ⟨rfl, rfl⟩, fun c3 => ⟨h4, fun c4 => absurd ⟨c1, c2, c3, c4⟩ c, fun _ => ⟨rfl, rfl⟩⟩⟩⟩⟩)
      (g_X11_bounds ⟨h1, j3264 h1, fun _ => ⟨rfl, rfl⟩, fun c1 => ⟨h2, j3264 h2, fun _ => ⟨rfl, rfl⟩, fun c2 => ⟨h3, j3264 h3, fun _ => ⟨rfl, rfl⟩, fun c3 => ⟨h4, j3264 h4, fun c4 => absurd ⟨c1, c2, c3, c4⟩ c, fun _ => ⟨rfl, rfl⟩⟩⟩⟩⟩)
theorem tl_of (k : Int) (h : tlP k) : ofP k := Or.inl (by unfold tlP at h; unfold jtmp jpers; omega)
theorem op_means {S0 : Int → Int} {s : Int → Int → Int} (hI : Inv S0 s) (a1 a2 a3 : Int) (h1 : jr32 a1) (h2 : jr32 a2) (h3 : jr32 a3) : jop mX10_means mX11_means [jI a1, jI a2, jI a3] S0 s := by
  have hd := hI.dd
  obtain ⟨e0, e1, e2, e3⟩ := hd.cnt
  by_cases c : (0 ≤ a1 ∧ a1 ≤ s 146 1 - 1) ∧ (0 ≤ a2 ∧ a2 ≤ s 146 0 - 1) ∧ 0 ≤ a3 ∧ a3 ≤ 3
  · obtain ⟨c1, c2, c3⟩ := c
    obtain ⟨k1, k2, k3⟩ := hd.hnd (w := a1) (by omega) (by omega)
    have ub := ucm_b hd a1 a2 a3 (-1)
    have ua2 := ucm_b hd a1 (-1) a3 (-1)
    refine jop.f ((1 + ucm s a1 a2 a3 (-1)) / gc (1 + ucm s a1 a2 a3 (-1)) (s 146 0 + ucm s a1 (-1) a3 (-1))) ((s 146 0 + ucm s a1 (-1) a3 (-1)) / gc (1 + ucm s a1 a2 a3 (-1)) (s 146 0 + ucm s a1 (-1) a3 (-1))) hI (g_X10_means ⟨h1, hd.wc, fun q => absurd c1 (by omega), fun _ => ⟨h2, fun q => absurd c2 (by omega), fun _ => ⟨h3, fun _ => ⟨hd, fun s10 q => ?_⟩, fun q => absurd c3 q⟩⟩⟩) (fun s1 f => ?_) trivial
    · rw [us_ucm hd q.1 q.2 (by omega) (by omega) (by omega), ua_ucm hd q.1 q.2 (by omega) (by omega), q.1 5 (by unfold tlP; omega), q.1 2 (by unfold tlP; omega), e0.1, k1]
      exact ⟨by omega, by omega, by omega, by omega, by unfold jr32; omega, by unfold jr32; omega, by omega, by omega, fun s2 q2 => ⟨rfl, fc_of q.1 q2.1 tl_of, q2.2⟩⟩
    · have d1 := hI.ofd f
      have k146 : s1 146 = s 146 := f 146 (fun c => by unfold ofP jtmp jpers at c; omega)
      have eu : ucm s1 = ucm s := ucm_fr (fun k hk => f k (fun c => by unfold ofP jtmp jpers at c; omega))
      refine g_X11_means ?_
      rw [k146, eu]
      exact ⟨d1, h1, h2, h3, fun q => absurd ⟨c1, c2, c3⟩ q, fun _ => ⟨by omega, by unfold jr32; omega, by unfold jr32; omega, by omega, by omega, fun y s2 q => ⟨by rw [q.1], rf_mf q.2.1, q.2.2⟩⟩⟩
  · exact jop.q (y := -2) hI (by decide) (g_X10_means ⟨h1, hd.wc, fun _ => ⟨rfl, rfl⟩, fun c1 => ⟨h2, fun _ => ⟨rfl, rfl⟩, fun c2 => ⟨h3, fun c3 => absurd ⟨by omega, by omega, c3⟩ c, fun _ => ⟨rfl, rfl⟩⟩⟩⟩) (g_X11_means ⟨hd, h1, h2, h3, fun _ => ⟨rfl, rfl⟩, fun q => absurd q c⟩)
theorem yc_0 {s : Int → Int → Int} (y h r : Int) : 0 ≤ yc s y h r := sg_nn (fun l _ _ => by
  by_cases c : s 154 l = y ∧ (h = -1 ∨ s 152 l = h)
  · rw [if_pos c]; exact sg_nn (fun j _ _ => (jbo_01' _).1)
  · rw [if_neg c]; exact Int.le_refl 0)
theorem yc_s {s : Int → Int → Int} (d : DD s) (y h : Int) : 0 ≤ sg 10 (fun r => r * yc s y h r) ∧ sg 10 (fun r => r * yc s y h r) ≤ 2160 := by
  have a : 0 ≤ sg 10 (fun r => r * yc s y h r) := sg_nn (fun r r0 _ => Int.mul_nonneg r0 (yc_0 y h r))
  have b : sg 10 (fun r => r * yc s y h r) ≤ sg 10 (fun r => 9 * yc s y h r) := sg_le (fun r _ r1 => Int.mul_le_mul_of_nonneg_right (by omega) (yc_0 y h r))
  rw [sg_mul] at b
  have := yc_b d y h 10 (by omega) (by omega)
  omega
theorem abel (c : Int → Int) : ∀ m, 0 ≤ m → sg m (fun r => sg (r + 1) c) = m * sg m c - sg m (fun r => r * c r) := by
  refine in_up _ (by simp only [sg_0]; omega) (fun m hm ih => ?_)
  rw [sg_s hm, sg_s hm (fun r => r * c r), ih, sg_s hm c]
  grind
theorem sp_X10_year {s : Int → Int → Int} (hd : DD s) (a1 a2 : Int) (h1 : jr32 a1) (h2 : jr32 a2) (c1 : 0 ≤ a1 ∧ a1 ≤ 39) (c2 : a2 = -1 ∨ (0 ≤ a2 ∧ a2 ≤ s 146 1 - 1)) (Q : Option jV → (Int → Int → Int) → Prop) (z : sg 10 (yc s a1 a2) = 0 → ∀ s7, frm (fun k => k = 84) s s7 → Q (some (jI (-3))) s7) (nz : sg 10 (yc s a1 a2) ≠ 0 → ∀ s7, frm ofP s s7 → FC s7 (sg 10 (fun r => r * yc s a1 a2 r)) (sg 10 (yc s a1 a2)) → Q (some (jI 1)) s7) : kR mX10_year [jR 1, jI a1, jI a2] s Q := by
  obtain ⟨e0, e1, e2, e3⟩ := hd.cnt
  have yb := yc_b hd a1 a2 10 (by omega) (by omega)
  have ys := yc_s hd a1 a2
  have T : ∀ s7, (frm (fun k => k = 84) s s7 ∧ ∀ i, 0 ≤ i → i < 10 → s7 84 i = yc s a1 a2 i) → (jr32 (sg (9 + 1) (s7 84)) ∧ (((sg (9 + 1) (s7 84)) ≠ 0 → (jr32 (sg 10 (fun r => r * s7 84 r)) ∧ (0 ≤ (sg 10 (fun r => r * s7 84 r)) ∧ (sg 10 (fun r => r * s7 84 r)) ≤ 9223372036854775807) ∧ (0 < (sg (9 + 1) (s7 84)) ∧ (sg (9 + 1) (s7 84)) ≤ 9223372036854775807) ∧ (∀ (s15 : Int → Int → Int), (frm fcP s7 s15 ∧ FC s15 (sg 10 (fun r => r * s7 84 r)) (sg (9 + 1) (s7 84))) → Q (some (jI 1)) s15))) ∧ ((sg (9 + 1) (s7 84)) = 0 → Q (some (jI (-3))) s7))) := fun s7 q7 => by
    have x1 : sg (9 + 1) (s7 84) = sg 10 (yc s a1 a2) := sg_c (fun i i0 i1 => q7.2 i i0 i1)
    have x2 : sg 10 (fun r => r * s7 84 r) = sg 10 (fun r => r * yc s a1 a2 r) := sg_c (fun i i0 i1 => by rw [q7.2 i i0 i1])
    rw [x1, x2]
    exact ⟨by unfold jr32; omega, fun q => ⟨by unfold jr32; omega, by omega, by omega, fun s15 q15 => nz q s15 (fc_of q7.1 q15.1 (fun k e => Or.inl (by unfold jtmp jpers; omega))) q15.2⟩, fun q => z q s7 q7.1⟩
  refine g_X10_year ⟨h1, fun q => absurd c1 q, fun _ => ⟨h2, fun _ => ⟨hd, T⟩, fun q => ⟨hd.wc, fun _ => ⟨hd, T⟩, fun q2 => ?_⟩⟩⟩
  omega
theorem sp_X11_year {s : Int → Int → Int} (hd : DD s) (a1 a2 : Int) (h1 : jr32 a1) (h2 : jr32 a2) (c1 : 0 ≤ a1 ∧ a1 ≤ 39) (c2 : a2 = -1 ∨ (0 ≤ a2 ∧ a2 ≤ s 146 1 - 1)) (Q : Option jV → (Int → Int → Int) → Prop) (z : sg 10 (yc s a1 a2) = 0 → Q (some (jI (-3))) s) (nz : sg 10 (yc s a1 a2) ≠ 0 → ∀ s7, RF (fun q => 0 ≤ q ∧ q ≤ 4) s s7 → RG s7 0 (sg 10 (fun r => r * yc s a1 a2 r) / gc (sg 10 (fun r => r * yc s a1 a2 r)) (sg 10 (yc s a1 a2))) → RG s7 1 (sg 10 (yc s a1 a2) / gc (sg 10 (fun r => r * yc s a1 a2 r)) (sg 10 (yc s a1 a2))) → Q (some (jI 1)) s7) : kR mX11_year [jR 143, jI a1, jI a2] s Q := by
  obtain ⟨e0, e1, e2, e3⟩ := hd.cnt
  have yb := yc_b hd a1 a2 10 (by omega) (by omega)
  have ys := yc_s hd a1 a2
  have w : ∀ r, 0 ≤ r → wlp s (s 146 3) a1 a2 r = sg (r + 1) (yc s a1 a2) := fun r hr => wlp_yc hd hr
  have L : kK mX11_year 39 [jR 143, jI a1, jI a2, jI (wlp s (s 146 3) a1 a2 9), jI 0, jI 0] [] s Q := by
    rw [w 9 (by omega), show (9 + 1 : Int) = 10 from rfl]
    have key : ∀ i, i ≤ 9 → 0 ≤ i → kK mX11_year 39 [jR 143, jI a1, jI a2, jI (sg 10 (yc s a1 a2)), jI (sg i (fun r => sg 10 (yc s a1 a2) - sg (r + 1) (yc s a1 a2))), jI i] [] s Q := by
      refine lp_up 9 _ (fun i hi ih i0 => ?_)
      refine g_X11_year_39 ⟨by unfold jr32; omega, fun q => ?_, fun q => ⟨hd, h1, h2, ?_⟩⟩
      · have i9 : i = 9 := by omega
        have ev : sg i (fun r => sg 10 (yc s a1 a2) - sg (r + 1) (yc s a1 a2)) = sg 10 (fun r => r * yc s a1 a2 r) := by
          have x1 := abel (yc s a1 a2) 9 (by omega)
          have x2 := sg_add 9 (fun r => sg 10 (yc s a1 a2) - sg (r + 1) (yc s a1 a2)) (fun r => sg (r + 1) (yc s a1 a2))
          have x3 : sg 9 (fun r => sg 10 (yc s a1 a2) - sg (r + 1) (yc s a1 a2) + sg (r + 1) (yc s a1 a2)) = 9 * sg 10 (yc s a1 a2) := by
            have := sg_b (n := 9) (f := fun r => sg 10 (yc s a1 a2) - sg (r + 1) (yc s a1 a2) + sg (r + 1) (yc s a1 a2)) (a := sg 10 (yc s a1 a2)) (b := sg 10 (yc s a1 a2)) (by omega) (fun j _ _ => by omega)
            omega
          have x4 := sg_s (n := 9) (by omega) (yc s a1 a2)
          have x5 := sg_s (n := 9) (by omega) (fun r => r * yc s a1 a2 r)
          rw [show (9 + 1 : Int) = 10 from rfl] at x4 x5
          rw [i9]
          omega
        rw [ev]
        exact ⟨by unfold jr32; omega, fun q2 => ⟨by unfold jr32; omega, by omega, by omega, fun y s9 q9 => by rw [q9.1]; exact nz q2 s9 q9.2.1 q9.2.2.1 q9.2.2.2⟩, fun q2 => z q2⟩
      · have := ih (by omega) (by omega)
        rw [sg_s i0] at this
        rw [w i i0]
        exact this
    exact key 0 (by omega) (by omega)
  refine g_X11_year ⟨h1, fun q => absurd c1 q, fun _ => ⟨h2, fun _ => ⟨hd, L⟩, fun q => ⟨by omega, fun _ => ⟨hd, L⟩, fun q2 => ?_⟩⟩⟩
  omega
theorem op_year {S0 : Int → Int} {s : Int → Int → Int} (hI : Inv S0 s) (a1 a2 : Int) (h1 : jr32 a1) (h2 : jr32 a2) : jop mX10_year mX11_year [jI a1, jI a2] S0 s := by
  have hd := hI.dd
  obtain ⟨e0, e1, e2, e3⟩ := hd.cnt
  by_cases c : (0 ≤ a1 ∧ a1 ≤ 39) ∧ (a2 = -1 ∨ (0 ≤ a2 ∧ a2 ≤ s 146 1 - 1))
  · obtain ⟨c1, c2⟩ := c
    by_cases z : sg 10 (yc s a1 a2) = 0
    · refine jop.rr (fun y => y = -3) (fun s1 => frm (fun k => k = 84) s s1) (fun a b p q => p.trans q.symm) (fun a h => by rw [h]; decide) (fun s1 h => (h 0 (by omega)).trans hI.1) (sp_X10_year hd a1 a2 h1 h2 c1 c2 _ (fun _ s7 f => ⟨-3, rfl, rfl, f⟩) (fun q => absurd z q)) (fun s1 f => ?_)
      have i1 := hI.t84 (f.wk (fun k e => Or.inl e))
      have ey : yc s1 = yc s := yc_fr (fun k hk => f k (by omega))
      exact sp_X11_year i1.dd a1 a2 h1 h2 c1 (by rw [f 146 (by omega)]; exact c2) _ (fun _ => ⟨-3, rfl, rfl, i1⟩) (fun q => absurd (by rw [ey]; exact z) q)
    · refine jop.f (sg 10 (fun r => r * yc s a1 a2 r) / gc (sg 10 (fun r => r * yc s a1 a2 r)) (sg 10 (yc s a1 a2))) (sg 10 (yc s a1 a2) / gc (sg 10 (fun r => r * yc s a1 a2 r)) (sg 10 (yc s a1 a2))) hI (sp_X10_year hd a1 a2 h1 h2 c1 c2 _ (fun q => absurd q z) (fun _ s7 f g => ⟨rfl, f, g⟩)) (fun s1 f => ?_) trivial
      have fk : ∀ k, 146 ≤ k → k ≤ 156 → s1 k = s k := fun k k0 k1 => f k (fun c => by unfold ofP jtmp jpers at c; omega)
      have ey : yc s1 = yc s := yc_fr (fun k hk => fk k hk.1 hk.2)
      refine sp_X11_year (hI.ofd f) a1 a2 h1 h2 c1 (by rw [fk 146 (by omega) (by omega)]; exact c2) _ (fun q => absurd (by rw [ey] at q; exact q) z) (fun _ s7 f7 g1 g2 => ?_)
      rw [ey] at g1 g2
      exact ⟨rfl, rf_mf f7, g1, g2⟩
  · refine jop.q (y := -2) hI (by decide) (g_X10_year ⟨h1, fun _ => ⟨rfl, rfl⟩, fun c1 => ⟨h2, fun c2 => absurd ⟨c1, Or.inl c2⟩ c, fun c2 => ⟨hd.wc, fun c3 => absurd ⟨c1, Or.inr (by omega)⟩ c, fun _ => ⟨rfl, rfl⟩⟩⟩⟩)
      (g_X11_year ⟨h1, fun _ => ⟨rfl, rfl⟩, fun c1 => ⟨h2, fun c2 => absurd ⟨c1, Or.inl c2⟩ c, fun c2 => ⟨by omega, fun c3 => absurd ⟨c1, Or.inr c3⟩ c, fun _ => ⟨rfl, rfl⟩⟩⟩⟩)
