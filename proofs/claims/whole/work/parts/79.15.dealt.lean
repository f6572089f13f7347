theorem g_X11_mayRead {s : Int → Int → Int} {Q : Option jV → (Int → Int → Int) → Prop} {v1 v2 : Int} (v : ((0 ≤ v1 ∧ v1 < 6) ∧ (0 ≤ v2 ∧ v2 < 30) ∧ (0 ≤ (s 152 v2) ∧ (s 152 v2) ≤ 31) ∧ jr32 (s 163 v1) ∧ jr32 (((s 163 v1) / 2 ^ Int.toNat (s 152 v2)) % 2) ∧ (((((s 163 v1) / 2 ^ Int.toNat (s 152 v2)) % 2) ≠ 0 → Q (some (jI 0)) s) ∧ ((((s 163 v1) / 2 ^ Int.toNat (s 152 v2)) % 2) = 0 → Q (some (jI 1)) s)))) : kR mX11_mayRead [jR 143, jI v1, jI v2] s Q := by
  show kK mX11_mayRead 0 [jR 143, jI v1, jI v2] [] s Q
  obtain ⟨a1, a2, a3, a4, a5, v⟩ := v
  refine k_aload_n dX11_mayRead_0 rfl ?_
  refine k_getr dX11_mayRead_1 fl_X11_67 sh_143 (by decide) rfl ?_
  refine k_iload_n dX11_mayRead_4 rfl ?_
  refine k_iald 6 dX11_mayRead_5 sh_163 (by decide) rfl (by decide) a1 ?_
  refine k_aload_n dX11_mayRead_6 rfl ?_
  refine k_getr dX11_mayRead_7 fl_X11_34 sh_143 (by decide) rfl ?_
  refine k_iload_n dX11_mayRead_10 rfl ?_
  refine k_iald 30 dX11_mayRead_11 sh_152 (by decide) rfl (by decide) a2 ?_
  refine k_shr dX11_mayRead_12 a4 a3 ?_
  refine k_iconst dX11_mayRead_13 ?_
  refine k_and1 dX11_mayRead_14 ?_
  obtain ⟨vt, vf⟩ := v
  refine k_if_ne 22 dX11_mayRead_15 rfl a5 (fun c6 => ?_) (fun c6 => ?_)
  · have v := vt c6
    refine k_iconst dX11_mayRead_22 ?_
    exact k_zreturn (st := []) dX11_mayRead_23 rfl (Or.inl rfl) v
  · have v := vf c6
    refine k_iconst dX11_mayRead_18 ?_
    refine k_goto 23 dX11_mayRead_19 rfl ?_
    exact k_zreturn (st := []) dX11_mayRead_23 rfl (Or.inr rfl) v
theorem g_X11_isFree {s : Int → Int → Int} {Q : Option jV → (Int → Int → Int) → Prop} {v1 : Int} (v : kK mX11_isFree 4 [jR 143, jI v1, jI 1, jI 0] [] s Q) : kR mX11_isFree [jR 143, jI v1] s Q := by
  show kK mX11_isFree 0 [jR 143, jI v1, jU, jU] [] s Q
  refine k_iconst dX11_isFree_0 ?_
  refine k_istore_n [jR 143, jI v1, jI 1, jU] dX11_isFree_1 rfl rfl ?_
  refine k_iconst dX11_isFree_2 ?_
  refine k_istore_n [jR 143, jI v1, jI 1, jI 0] dX11_isFree_3 rfl rfl ?_
  exact v
theorem g_X11_isFree_4 {s : Int → Int → Int} {Q : Option jV → (Int → Int → Int) → Prop} {v1 v2 v3 : Int} (v : (jr32 v3 ∧ jr32 v1 ∧ ((v1 ≤ v3 → ((v2 = 0 ∨ v2 = 1) ∧ Q (some (jI v2)) s)) ∧ (¬ (v1 ≤ v3) → (jr32 v2 ∧ ((v2 = 0 → kK mX11_isFree 4 [jR 143, jI v1, jI 0, jI (v3 + 1)] [] s Q) ∧ (¬ (v2 = 0) → ((0 ≤ v3 ∧ v3 < 6) ∧ (0 ≤ v1 ∧ v1 < 6) ∧ jr32 (s 165 v3) ∧ jr32 (s 165 v1) ∧ (((s 165 v3) = (s 165 v1) → kK mX11_isFree 4 [jR 143, jI v1, jI 0, jI (v3 + 1)] [] s Q) ∧ (¬ ((s 165 v3) = (s 165 v1)) → kK mX11_isFree 4 [jR 143, jI v1, jI 1, jI (v3 + 1)] [] s Q)))))))))) : kK mX11_isFree 4 [jR 143, jI v1, jI v2, jI v3] [] s Q := by
  obtain ⟨a1, a2, v⟩ := v
  refine k_iload_n dX11_isFree_4 rfl ?_
  refine k_iload_n dX11_isFree_5 rfl ?_
  obtain ⟨vt, vf⟩ := v
  refine k_icmp_ge 40 dX11_isFree_6 rfl a1 a2 (fun c3 => ?_) (fun c3 => ?_)
  · have v := vt c3
    obtain ⟨a4, v⟩ := v
    refine k_iload_n dX11_isFree_40 rfl ?_
    exact k_zreturn (st := []) dX11_isFree_41 rfl a4 v
  · have v := vf c3
    obtain ⟨a5, v⟩ := v
    refine k_iload_n dX11_isFree_9 rfl ?_
    obtain ⟨vt, vf⟩ := v
    refine k_if_eq 32 dX11_isFree_10 rfl a5 (fun c6 => ?_) (fun c6 => ?_)
    · have v := vt c6
      refine k_iconst dX11_isFree_32 ?_
      refine k_istore_n [jR 143, jI v1, jI 0, jI v3] dX11_isFree_33 rfl rfl ?_
      refine k_iinc [jR 143, jI v1, jI 0, jI (v3 + 1)] dX11_isFree_34 rfl rfl rfl ?_
      refine k_goto 4 dX11_isFree_37 rfl ?_
      exact v
    · have v := vf c6
      obtain ⟨a7, a8, a9, a10, v⟩ := v
      refine k_aload_n dX11_isFree_13 rfl ?_
      refine k_getr dX11_isFree_14 fl_X11_73 sh_143 (by decide) rfl ?_
      refine k_iload_n dX11_isFree_17 rfl ?_
      refine k_iald 6 dX11_isFree_18 sh_165 (by decide) rfl (by decide) a7 ?_
      refine k_aload_n dX11_isFree_19 rfl ?_
      refine k_getr dX11_isFree_20 fl_X11_73 sh_143 (by decide) rfl ?_
      refine k_iload_n dX11_isFree_23 rfl ?_
      refine k_iald 6 dX11_isFree_24 sh_165 (by decide) rfl (by decide) a8 ?_
      obtain ⟨vt, vf⟩ := v
      refine k_icmp_eq 32 dX11_isFree_25 rfl a9 a10 (fun c11 => ?_) (fun c11 => ?_)
      · have v := vt c11
        refine k_iconst dX11_isFree_32 ?_
        refine k_istore_n [jR 143, jI v1, jI 0, jI v3] dX11_isFree_33 rfl rfl ?_
        refine k_iinc [jR 143, jI v1, jI 0, jI (v3 + 1)] dX11_isFree_34 rfl rfl rfl ?_
        refine k_goto 4 dX11_isFree_37 rfl ?_
        exact v
      · have v := vf c11
        refine k_iconst dX11_isFree_28 ?_
        refine k_goto 33 dX11_isFree_29 rfl ?_
        refine k_istore_n [jR 143, jI v1, jI 1, jI v3] dX11_isFree_33 rfl rfl ?_
        refine k_iinc [jR 143, jI v1, jI 1, jI (v3 + 1)] dX11_isFree_34 rfl rfl rfl ?_
        refine k_goto 4 dX11_isFree_37 rfl ?_
        exact v
theorem sp_X11_mayRead (s : Int → Int → Int) (r l : Int) (hr : 0 ≤ r ∧ r < 6) (hl : 0 ≤ l ∧ l < 30) (h8 : 0 ≤ s 152 l ∧ s 152 l ≤ 31) (hk : jr32 (s 163 r)) : kM mX11_mayRead [jR 143, jI r, jI l] s (some (jI (jbo (bt (s 163 r) (s 152 l) = 0)))) s := by
  have b1 := bt_01 (s 163 r) (s 152 l)
  unfold bt at b1
  refine g_X11_mayRead ⟨hr, hl, h8, hk, by unfold jr32; omega, fun q => ⟨by rw [jbo_f (p := bt (s 163 r) (s 152 l) = 0) q], rfl⟩, fun q => ⟨by rw [jbo_t (p := bt (s 163 r) (s 152 l) = 0) q], rfl⟩⟩
def frE (s : Int → Int → Int) (a : Int) : Prop := ∀ j, 0 ≤ j → j < a → s 165 j ≠ s 165 a
theorem sp_X11_isFree (s : Int → Int → Int) (a : Int) (ha : 0 ≤ a ∧ a < 6) (hj : ∀ j, 0 ≤ j → j ≤ a → jr32 (s 165 j)) : kR mX11_isFree [jR 143, jI a] s (fun o s' => ∃ y, o = some (jI y) ∧ (y = 0 ∨ y = 1) ∧ (y = 1 ↔ frE s a) ∧ s' = s) := by
  refine g_X11_isFree ?_
  have key : ∀ i, i ≤ a → 0 ≤ i → ∀ f, (f = 0 ∨ f = 1) → (f = 1 ↔ ∀ j, 0 ≤ j → j < i → s 165 j ≠ s 165 a) → kK mX11_isFree 4 [jR 143, jI a, jI f, jI i] [] s (fun o s' => ∃ y, o = some (jI y) ∧ (y = 0 ∨ y = 1) ∧ (y = 1 ↔ frE s a) ∧ s' = s) := by
    refine lp_up _ _ (fun i hi ih i0 f hf h => ?_)
    refine g_X11_isFree_4 ⟨by unfold jr32; omega, by unfold jr32; omega, fun q => ⟨hf, f, rfl, hf, ?_, rfl⟩, fun q => ⟨by unfold jr32; omega, fun q2 => ?_, fun q2 => ⟨by omega, ha, hj i i0 hi, hj a (by omega) (Int.le_refl _), fun q3 => ?_, fun q3 => ?_⟩⟩⟩
    · have e : i = a := by omega
      rw [e] at h
      exact h
    · refine ih (by omega) (by omega) 0 (Or.inl rfl) ⟨fun c => by omega, fun c => ?_⟩
      have := h.2 (fun j j0 j1 => c j j0 (by omega))
      omega
    · exact ih (by omega) (by omega) 0 (Or.inl rfl) ⟨fun c => by omega, fun c => absurd q3 (c i i0 (by omega))⟩
    · have h1 := h.1 (by omega)
      refine ih (by omega) (by omega) 1 (Or.inr rfl) ⟨fun _ j j0 j1 => ?_, fun _ => rfl⟩
      by_cases e : j = i
      · rw [e]; exact q3
      · exact h1 j j0 (by omega)
  exact key 0 ha.1 (by omega) 1 (Or.inr rfl) ⟨fun _ j j0 j1 => by omega, fun _ => rfl⟩
theorem g_X11_deals {s : Int → Int → Int} {Q : Option jV → (Int → Int → Int) → Prop} {v1 : Int} (v : kK mX11_deals 11 [jR 143, jI v1, jI 0, jI 0, jU] [] (w2 s 165 0 (-1)) Q) : kR mX11_deals [jR 143, jI v1] s Q := by
  show kK mX11_deals 0 [jR 143, jI v1, jU, jU, jU] [] s Q
  refine k_iconst dX11_deals_0 ?_
  refine k_istore_n [jR 143, jI v1, jI 0, jU, jU] dX11_deals_1 rfl rfl ?_
  refine k_iconst dX11_deals_2 ?_
  refine k_istore_n [jR 143, jI v1, jI 0, jI 0, jU] dX11_deals_3 rfl rfl ?_
  refine k_aload_n dX11_deals_4 rfl ?_
  refine k_getr dX11_deals_5 fl_X11_73 sh_143 (by decide) rfl ?_
  refine k_iconst dX11_deals_8 ?_
  refine k_iconst dX11_deals_9 ?_
  refine k_iast 6 dX11_deals_10 sh_165 (by decide) rfl (by decide) (by decide) ?_
  exact v
theorem g_X11_deals_11 {s : Int → Int → Int} {Q : Option jV → (Int → Int → Int) → Prop} {v1 v2 v3 : Int} (v : (jr32 v3 ∧ ((v3 < 0 → Q (some (jI v2)) s) ∧ (¬ (v3 < 0) → ((0 ≤ v3 ∧ v3 < 6) ∧ jr32 ((s 165 v3) + 1) ∧ ((((s 165 v3) + 1) ≠ 6 → ((∀ j, 0 ≤ j → j ≤ v3 → jr32 ((w2 s 165 v3 ((s 165 v3) + 1)) 165 j)) ∧ (∀ (y7 : Int) (s8 : Int → Int → Int), ((y7 = 0 ∨ y7 = 1) ∧ (y7 = 1 ↔ frE (w2 s 165 v3 ((s 165 v3) + 1)) v3) ∧ s8 = (w2 s 165 v3 ((s 165 v3) + 1))) → (jr32 y7 ∧ ((y7 = 0 → kK mX11_deals 11 [jR 143, jI v1, jI v2, jI v3, jU] [] s8 Q) ∧ (¬ (y7 = 0) → ((0 ≤ (s8 165 v3) ∧ (s8 165 v3) < 6) ∧ (0 ≤ (s8 164 v3) ∧ (s8 164 v3) < 30) ∧ (0 ≤ s8 152 (s8 164 v3) ∧ s8 152 (s8 164 v3) ≤ 31) ∧ jr32 (s8 163 (s8 165 v3)) ∧ ((¬ (bt (s8 163 (s8 165 v3)) (s8 152 (s8 164 v3)) = 0) → kK mX11_deals 11 [jR 143, jI v1, jI v2, jI v3, jU] [] s8 Q) ∧ (bt (s8 163 (s8 165 v3)) (s8 152 (s8 164 v3)) = 0 → (jr32 (v3 + 1) ∧ jr32 v1 ∧ ((v1 ≤ (v3 + 1) → kK mX11_deals 92 [jR 143, jI v1, jI v2, jI v3, jI 0] [] s8 Q) ∧ (¬ (v1 ≤ (v3 + 1)) → ((0 ≤ (v3 + 1) ∧ (v3 + 1) < 6) ∧ kK mX11_deals 11 [jR 143, jI v1, jI v2, jI (v3 + 1), jU] [] (w2 s8 165 (v3 + 1) (-1)) Q))))))))))))) ∧ (((s 165 v3) + 1) = 6 → kK mX11_deals 11 [jR 143, jI v1, jI v2, jI (v3 + (-1)), jU] [] (w2 s 165 v3 ((s 165 v3) + 1)) Q))))))) : kK mX11_deals 11 [jR 143, jI v1, jI v2, jI v3, jU] [] s Q := by
  obtain ⟨a1, v⟩ := v
  refine k_iload_n dX11_deals_11 rfl ?_
  obtain ⟨vt, vf⟩ := v
  refine k_if_lt 128 dX11_deals_12 rfl a1 (fun c2 => ?_) (fun c2 => ?_)
  · have v := vt c2
    refine k_iload_n dX11_deals_128 rfl ?_
    exact k_ireturn (st := []) dX11_deals_129 rfl v
  · have v := vf c2
    obtain ⟨a3, a4, v⟩ := v
    refine k_aload_n dX11_deals_15 rfl ?_
    refine k_getr dX11_deals_16 fl_X11_73 sh_143 (by decide) rfl ?_
    refine k_iload_n dX11_deals_19 rfl ?_
    refine k_dup2 dX11_deals_20 rfl ?_
    refine k_iald 6 dX11_deals_21 sh_165 (by decide) rfl (by decide) a3 ?_
    refine k_iconst dX11_deals_22 ?_
    refine k_iadd dX11_deals_23 ?_
    refine k_iast 6 dX11_deals_24 sh_165 (by decide) rfl (by decide) a3 ?_
    refine k_aload_n dX11_deals_25 rfl ?_
    refine k_getr dX11_deals_26 fl_X11_73 sh_143 (by decide) rfl ?_
    refine k_iload_n dX11_deals_29 rfl ?_
    refine k_iald 6 dX11_deals_30 sh_165 (by decide) rfl (by decide) a3 ?_
    rw [show ((w2 s 165 v3 ((s 165 v3) + 1)) 165 v3) = ((s 165 v3) + 1) from by rw [w2_s]]
    refine k_bipush dX11_deals_31 rfl ?_
    obtain ⟨vt, vf⟩ := v
    refine k_icmp_ne 42 dX11_deals_33 rfl a4 (by decide) (fun c5 => ?_) (fun c5 => ?_)
    · have v := vt c5
      obtain ⟨a6, v⟩ := v
      refine k_aload_n dX11_deals_42 rfl ?_
      refine k_iload_n dX11_deals_43 rfl ?_
      refine k_invVR [jI v3] [] dX11_deals_44 cm_X11_isFree ml_X11_223 im_X11_isFree se_X11_isFree rfl sh_143 (by decide) rfl rfl (sp_X11_isFree (w2 s 165 v3 ((s 165 v3) + 1)) v3 a3 a6) (fun _ s8 q9 => ?_)
      obtain ⟨y7, rfl, q9⟩ := q9
      have v := v y7 s8 q9
      obtain ⟨a10, v⟩ := v
      obtain ⟨vt, vf⟩ := v
      refine k_if_eq 11 dX11_deals_47 rfl a10 (fun c11 => ?_) (fun c11 => ?_)
      · have v := vt c11
        exact v
      · have v := vf c11
        obtain ⟨a12, a13, a14, a15, v⟩ := v
        refine k_aload_n dX11_deals_50 rfl ?_
        refine k_aload_n dX11_deals_51 rfl ?_
        refine k_getr dX11_deals_52 fl_X11_73 sh_143 (by decide) rfl ?_
        refine k_iload_n dX11_deals_55 rfl ?_
        refine k_iald 6 dX11_deals_56 sh_165 (by decide) rfl (by decide) a3 ?_
        refine k_aload_n dX11_deals_57 rfl ?_
        refine k_getr dX11_deals_58 fl_X11_70 sh_143 (by decide) rfl ?_
        refine k_iload_n dX11_deals_61 rfl ?_
        refine k_iald 6 dX11_deals_62 sh_164 (by decide) rfl (by decide) a3 ?_
        refine k_invV [jI (s8 165 v3), jI (s8 164 v3)] [] dX11_deals_63 cm_X11_mayRead ml_X11_226 im_X11_mayRead se_X11_mayRead rfl sh_143 (by decide) rfl rfl (sp_X11_mayRead s8 (s8 165 v3) (s8 164 v3) a12 a13 a14 a15) ?_
        obtain ⟨vt, vf⟩ := v
        refine k_ifb_eq 11 dX11_deals_66 rfl (fun c16 => ?_) (fun c16 => ?_)
        · have v := vt c16
          exact v
        · have v := vf c16
          obtain ⟨a17, a18, v⟩ := v
          refine k_iload_n dX11_deals_69 rfl ?_
          refine k_iconst dX11_deals_70 ?_
          refine k_iadd dX11_deals_71 ?_
          refine k_iload_n dX11_deals_72 rfl ?_
          obtain ⟨vt, vf⟩ := v
          refine k_icmp_ge 89 dX11_deals_73 rfl a17 a18 (fun c19 => ?_) (fun c19 => ?_)
          · have v := vt c19
            refine k_iconst dX11_deals_89 ?_
            refine k_istore [jR 143, jI v1, jI v2, jI v3, jI 0] dX11_deals_90 rfl rfl ?_
            exact v
          · have v := vf c19
            obtain ⟨a20, v⟩ := v
            refine k_iinc [jR 143, jI v1, jI v2, jI (v3 + 1), jU] dX11_deals_76 rfl rfl rfl ?_
            refine k_aload_n dX11_deals_79 rfl ?_
            refine k_getr dX11_deals_80 fl_X11_73 sh_143 (by decide) rfl ?_
            refine k_iload_n dX11_deals_83 rfl ?_
            refine k_iconst dX11_deals_84 ?_
            refine k_iast 6 dX11_deals_85 sh_165 (by decide) rfl (by decide) a20 ?_
            refine k_goto 11 dX11_deals_86 rfl ?_
            exact v
    · have v := vf c5
      refine k_iinc [jR 143, jI v1, jI v2, jI (v3 + (-1)), jU] dX11_deals_36 rfl rfl rfl ?_
      refine k_goto 11 dX11_deals_39 rfl ?_
      exact v
theorem g_X11_deals_92 {s : Int → Int → Int} {Q : Option jV → (Int → Int → Int) → Prop} {v1 v2 v3 v4 : Int} (v : (jr32 v4 ∧ jr32 v1 ∧ ((v1 ≤ v4 → kK mX11_deals 11 [jR 143, jI v1, jI (v2 + 1), jI v3, jU] [] s Q) ∧ (¬ (v1 ≤ v4) → (jr32 v2 ∧ ((v2 ≠ 0 → kK mX11_deals 11 [jR 143, jI v1, jI (v2 + 1), jI v3, jU] [] s Q) ∧ (v2 = 0 → ((0 ≤ v4 ∧ v4 < 6) ∧ kK mX11_deals 92 [jR 143, jI v1, jI v2, jI v3, jI (v4 + 1)] [] (w2 s 166 v4 (s 165 v4)) Q)))))))) : kK mX11_deals 92 [jR 143, jI v1, jI v2, jI v3, jI v4] [] s Q := by
  obtain ⟨a1, a2, v⟩ := v
  refine k_iload dX11_deals_92 rfl ?_
  refine k_iload_n dX11_deals_94 rfl ?_
  obtain ⟨vt, vf⟩ := v
  refine k_icmp_ge 122 dX11_deals_95 rfl a1 a2 (fun c3 => ?_) (fun c3 => ?_)
  · have v := vt c3
    refine k_iinc [jR 143, jI v1, jI (v2 + 1), jI v3, jI v4] dX11_deals_122 rfl rfl rfl ?_
    refine k_goto 11 dX11_deals_125 rfl ?_
    refine k_drop [jR 143, jI v1, jI (v2 + 1), jI v3, jU] ⟨Or.inr rfl, Or.inr rfl, Or.inr rfl, Or.inr rfl, Or.inl rfl, trivial⟩ ?_
    exact v
  · have v := vf c3
    obtain ⟨a4, v⟩ := v
    refine k_iload_n dX11_deals_98 rfl ?_
    obtain ⟨vt, vf⟩ := v
    refine k_if_ne 122 dX11_deals_99 rfl a4 (fun c5 => ?_) (fun c5 => ?_)
    · have v := vt c5
      refine k_iinc [jR 143, jI v1, jI (v2 + 1), jI v3, jI v4] dX11_deals_122 rfl rfl rfl ?_
      refine k_goto 11 dX11_deals_125 rfl ?_
      refine k_drop [jR 143, jI v1, jI (v2 + 1), jI v3, jU] ⟨Or.inr rfl, Or.inr rfl, Or.inr rfl, Or.inr rfl, Or.inl rfl, trivial⟩ ?_
      exact v
    · have v := vf c5
      obtain ⟨a6, v⟩ := v
      refine k_aload_n dX11_deals_102 rfl ?_
      refine k_getr dX11_deals_103 fl_X11_76 sh_143 (by decide) rfl ?_
      refine k_iload dX11_deals_106 rfl ?_
      refine k_aload_n dX11_deals_108 rfl ?_
      refine k_getr dX11_deals_109 fl_X11_73 sh_143 (by decide) rfl ?_
      refine k_iload dX11_deals_112 rfl ?_
      refine k_iald 6 dX11_deals_114 sh_165 (by decide) rfl (by decide) a6 ?_
      refine k_iast 6 dX11_deals_115 sh_166 (by decide) rfl (by decide) a6 ?_
      refine k_iinc [jR 143, jI v1, jI v2, jI v3, jI (v4 + 1)] dX11_deals_116 rfl rfl rfl ?_
      refine k_goto 92 dX11_deals_119 rfl ?_
      exact v
def hm (s : Int → Int → Int) (r i : Int) : Int := bt (s 163 r) (s 152 (s 164 i))
def drP (k : Int) : Prop := k = 165 ∨ k = 166
def DLp (s : Int → Int → Int) (n : Int) : Prop := (1 ≤ n ∧ n ≤ 6) ∧ (∀ i, 0 ≤ i → i < n → (0 ≤ s 164 i ∧ s 164 i < 30) ∧ 0 ≤ s 152 (s 164 i) ∧ s 152 (s 164 i) ≤ 31) ∧ ∀ r, 0 ≤ r → r < 6 → jr32 (s 163 r)
def RV (Y : Int → Int) (a t : Int) : Prop := (∀ j, 0 ≤ j → j < a → 0 ≤ Y j ∧ Y j < 6) ∧ t = tk Y a ∧ (0 ≤ t ∧ t < 64) ∧ ∀ r, 0 ≤ r → r < 6 → (bt t r = 1 ↔ ∃ j, (0 ≤ j ∧ j < a) ∧ Y j = r)
theorem RV.c {Y Z : Int → Int} {a t : Int} (h : RV Y a t) (e : ∀ j, 0 ≤ j → j < a → Z j = Y j) : RV Z a t := by
  obtain ⟨h1, h2, h3, h4⟩ := h
  refine ⟨fun j j0 j1 => by rw [e j j0 j1]; exact h1 j j0 j1, h2.trans (tk_c (fun j j0 j1 => (e j j0 j1).symm)), h3, fun r r0 r1 => (h4 r r0 r1).trans ?_⟩
  constructor
  · intro ⟨j, hj, hr⟩
    exact ⟨j, hj, by rw [e j hj.1 hj.2]; exact hr⟩
  · intro ⟨j, hj, hr⟩
    exact ⟨j, hj, by rw [← e j hj.1 hj.2]; exact hr⟩
theorem RV.x {Y Z : Int → Int} {a t r : Int} (h : RV Y a t) (ha : 0 ≤ a) (e : ∀ j, 0 ≤ j → j < a → Z j = Y j) (ez : Z a = r) (hr : 0 ≤ r ∧ r < 6) (hb : bt t r = 0) : RV Z (a + 1) (t + 2 ^ r.toNat) := by
  obtain ⟨h1, h2, h3, h4⟩ := h.c e
  have b := bt_on (a := t) (by omega) (k := r) (by omega) hb
  have b2 := bc_on h3 hr hb
  have b3 := p2_pos r
  refine ⟨fun j j0 j1 => ?_, by rw [tk_s Z ha, ← h2, ez], by omega, fun q q0 q1 => ?_⟩
  · by_cases c : j = a
    · rw [c, ez]; exact hr
    · exact h1 j j0 (by omega)
  · rw [b.2 q q0 (by omega)]
    by_cases c : q = r
    · rw [if_pos c]
      exact ⟨fun _ => ⟨a, by omega, by rw [ez, c]⟩, fun _ => rfl⟩
    · rw [if_neg c, h4 q q0 q1]
      constructor
      · intro ⟨j, hj, hq⟩
        exact ⟨j, by omega, hq⟩
      · intro ⟨j, hj, hq⟩
        refine ⟨j, ⟨hj.1, ?_⟩, hq⟩
        by_cases d : j = a
        · rw [d, ez] at hq; exact absurd hq.symm c
        · omega
/-- in how many ways with a later reader -/
def DLc (h : Int → Int → Int) (n : Int) (k : Nat) (t c : Int) : Int := sg 6 (wt h n (wd h n k) k t) - sg (c + 1) (wt h n (wd h n k) k t)
theorem DLc_5 (h : Int → Int → Int) (n : Int) (k : Nat) (t : Int) : DLc h n k t 5 = 0 := by
  unfold DLc
  rw [show (5 : Int) + 1 = 6 from rfl]; omega
theorem DLc_s (h : Int → Int → Int) (n : Int) (k : Nat) (t : Int) {c : Int} (hc : -1 ≤ c) : DLc h n k t c = wt h n (wd h n k) k t (c + 1) + DLc h n k t (c + 1) := by
  unfold DLc
  rw [sg_s (n := c + 1) (by omega)]; omega
theorem DLc_n (h : Int → Int → Int) (n : Int) (k : Nat) (t : Int) {c : Int} (h0 : -1 ≤ c) (h1 : c ≤ 5) : 0 ≤ DLc h n k t c := by
  unfold DLc
  have a := sg_2 (wt h n (wd h n k) k t) (a := c + 1) (by omega) (5 - c) (by omega)
  rw [show c + 1 + (5 - c) = 6 by omega] at a
  have := sg_nn (n := 5 - c) (f := fun j => wt h n (wd h n k) k t (c + 1 + j)) (fun j _ _ => wt_nn _ _ _)
  omega
theorem DLc_0 (h : Int → Int → Int) (n : Int) (k : Nat) (t : Int) : DLc h n k t (-1) = wd h n (k + 1) t := by
  unfold DLc
  rw [show (-1 : Int) + 1 = 0 from rfl, sg_0, Int.sub_zero]; rfl
def GDc (h : Int → Int → Int) (n a : Int) (k : Nat) (t c : Int) (Y : Int → Int) : Prop := (c < Y a ∧ Y a < 6 ∧ 0 < wt h n (wd h n k) k t (Y a) ∧ ∀ r, c < r → r < Y a → ¬ 0 < wt h n (wd h n k) k t r) ∧ ∀ i, a < i → i < n → fstk 6 (fun r => 0 < wt h n (wd h n (n - 1 - i).toNat) (n - 1 - i).toNat (tk Y i) r) (Y i) ∧ 0 ≤ Y i
theorem GDc.c {h : Int → Int → Int} {n a : Int} {k : Nat} {t c : Int} {Y Z : Int → Int} (g : GDc h n a k t c Y) (ha : 0 ≤ a ∧ a < n) (e : ∀ j, 0 ≤ j → j < n → Z j = Y j) : GDc h n a k t c Z := by
  obtain ⟨g1, g2⟩ := g
  refine ⟨by rw [e a ha.1 ha.2]; exact g1, fun i i0 i1 => ?_⟩
  rw [e i (by omega) i1, tk_c (i := i) (fun j j0 j1 => e j j0 (by omega))]
  exact g2 i i0 i1
/-- what becomes of the first row -/
def FIr (h : Int → Int → Int) (n a : Int) (k : Nat) (t c f d : Int) (s1 s2 : Int → Int → Int) : Prop := ((0 < f ∨ d = 0) → ∀ j, 0 ≤ j → j < n → s2 166 j = s1 166 j) ∧ (f = 0 → 0 < d → (∀ j, 0 ≤ j → j < a → s2 166 j = s1 165 j) ∧ GDc h n a k t c (s2 166))
theorem dl_main {s0 : Int → Int → Int} {n : Int} (hp : DLp s0 n) (Q : Option jV → (Int → Int → Int) → Prop) : ∀ (k : Nat) (a : Int), a + k + 1 = n → 0 ≤ a → ∀ c, c ≤ 5 → -1 ≤ c → ∀ s1 t f, frm drP s0 s1 → RV (s1 165) a t → s1 165 a = c → 0 ≤ f → f + DLc (hm s0) n k t c ≤ 100000 →
    (∀ s2, frm drP s0 s2 → (∀ j, 0 ≤ j → j < a → s2 165 j = s1 165 j) → FIr (hm s0) n a k t c f (DLc (hm s0) n k t c) s1 s2 → kK mX11_deals 11 [jR 143, jI n, jI (f + DLc (hm s0) n k t c), jI (a - 1), jU] [] s2 Q) → kK mX11_deals 11 [jR 143, jI n, jI f, jI a, jU] [] s1 Q := by
  obtain ⟨n6, lv, kv⟩ := hp
  intro k
  induction k with
  | zero =>
    intro a ea a0
    refine lp_up 5 _ (fun c hc ih c0 s1 t f fr rv hca f0 fb cont => ?_)
    have dn := DLc_n (hm s0) n 0 t c0 hc
    refine g_X11_deals_11 ?_
    rw [hca]
    refine ⟨by unfold jr32; omega, fun q => by omega, fun _ => ⟨by omega, by unfold jr32; omega, fun q6 => ?_, fun q6 => ?_⟩⟩
    · -- a reader more
      have ds := DLc_s (hm s0) n 0 t c0
      have dn1 := DLc_n (hm s0) n 0 t (c := c + 1) (by omega) (by omega)
      have tn := wt_nn (h := hm s0) (n := n) 0 t (c + 1)
      have fA : frm drP s0 (w2 s1 165 a (c + 1)) := fr.s2 (Or.inl rfl)
      have nxt : ∀ s3, frm drP s0 s3 → (∀ j, 0 ≤ j → j < a → s3 165 j = s1 165 j) → s3 165 a = c + 1 → FIr (hm s0) n a 0 t c f (wt (hm s0) n (wd (hm s0) n 0) 0 t (c + 1)) s1 s3 → kK mX11_deals 11 [jR 143, jI n, jI (f + wt (hm s0) n (wd (hm s0) n 0) 0 t (c + 1)), jI a, jU] [] s3 Q := fun s3 f3 e3 z3 fi3 => by
        refine ih (by omega) (by omega) s3 t _ f3 (rv.c e3) z3 (by omega) (by omega) (fun s2 f2 e2 fi2 => ?_)
        have := cont s2 f2 (fun j j0 j1 => (e2 j j0 j1).trans (e3 j j0 j1)) ⟨fun x j j0 j1 => ?_, fun x y => ?_⟩
        · rw [ds, ← Int.add_assoc] at this
          exact this
        · rw [fi2.1 (by omega) j j0 j1, fi3.1 (by omega) j j0 j1]
        · by_cases z : wt (hm s0) n (wd (hm s0) n 0) 0 t (c + 1) = 0
          · obtain ⟨y1, y2, y3⟩ := fi2.2 (by omega) (by omega)
            obtain ⟨y21, y22, y23, y24⟩ := y2
            refine ⟨fun j j0 j1 => (y1 j j0 j1).trans (e3 j j0 j1), ⟨by omega, y22, y23, fun r r0 r1 => ?_⟩, y3⟩
            by_cases w : r = c + 1
            · rw [w]; omega
            · exact y24 r (by omega) r1
          · obtain ⟨y1, y2⟩ := fi3.2 x (by omega)
            have eq := fi2.1 (Or.inl (by omega))
            exact ⟨fun j j0 j1 => (eq j j0 (by omega)).trans (y1 j j0 j1), y2.c (by omega) eq⟩
      have sA : ∀ j, 0 ≤ j → j < a → w2 s1 165 a (c + 1) 165 j = s1 165 j := fun j j0 j1 => w2_i (by omega)
      have sAa : w2 s1 165 a (c + 1) 165 a = c + 1 := w2_s _ _ _ _
      have s66 : w2 s1 165 a (c + 1) 166 = s1 166 := w2_k (by omega)
      have zero : wt (hm s0) n (wd (hm s0) n 0) 0 t (c + 1) = 0 → kK mX11_deals 11 [jR 143, jI n, jI f, jI a, jU] [] (w2 s1 165 a (c + 1)) Q := fun z => by
        have := nxt _ fA sA sAa ⟨fun _ j _ _ => by rw [s66], fun _ y => by omega⟩
        rw [z, Int.add_zero] at this
        exact this
      obtain ⟨rv1, rv2, rv3, rv4⟩ := id rv
      have b01 := bt_01 t (c + 1)
      have bx := rv4 (c + 1) (by omega) (by omega)
      refine ⟨fun j j0 j1 => ?_, fun y s8 q8 => ?_⟩
      · by_cases x : j = a
        · rw [x, sAa]; unfold jr32; omega
        · rw [sA j j0 (by omega)]
          have := rv1 j j0 (by omega)
          unfold jr32; omega
      · obtain ⟨qy, qf, rfl⟩ := q8
        have free : y = 1 ↔ bt t (c + 1) = 0 := by
          rw [qf]
          unfold frE
          rw [sAa]
          constructor
          · intro u
            rcases b01 with x | x
            · exact x
            · obtain ⟨j, hj, hr⟩ := bx.1 x
              have := u j hj.1 hj.2
              rw [sA j hj.1 hj.2] at this
              exact absurd hr this
          · intro u j j0 j1 v
            rw [sA j j0 j1] at v
            have := bx.2 ⟨j, ⟨j0, j1⟩, v⟩
            omega
        have g152 : w2 s1 165 a (c + 1) 152 = s0 152 := fA 152 (by unfold drP; omega)
        have g163 : w2 s1 165 a (c + 1) 163 = s0 163 := fA 163 (by unfold drP; omega)
        have g164 : w2 s1 165 a (c + 1) 164 = s0 164 := fA 164 (by unfold drP; omega)
        rw [sAa, g152, g163, g164]
        have la := lv a a0 (by omega)
        refine ⟨by unfold jr32; omega, fun qy0 => zero ?_, fun qy0 => ⟨by omega, la.1, la.2, kv _ (by omega) (by omega), fun qk => zero ?_, fun qk => ?_⟩⟩
        · unfold wt
          rw [if_neg (fun u => by have := free.2 u.2; omega)]
        · unfold wt
          rw [if_neg (fun u => qk (by have := u.1; rw [show n - 1 - ((0 : Nat) : Int) = a by omega] at this; exact this))]
        · have bz : bt t (c + 1) = 0 := free.1 (by omega)
          have wv : wt (hm s0) n (wd (hm s0) n 0) 0 t (c + 1) = wd (hm s0) n 0 (t + 2 ^ (c + 1).toNat) := by
            unfold wt
            rw [if_pos ⟨by rw [show n - 1 - ((0 : Nat) : Int) = a by omega]; exact qk, bz⟩]
          have w1 : wt (hm s0) n (wd (hm s0) n 0) 0 t (c + 1) = 1 := wv
          rw [w1] at nxt
          refine ⟨by unfold jr32; omega, by unfold jr32; omega, fun _ => ?_, fun q => by omega⟩
          by_cases f00 : f = 0
          · have l92 : ∀ j, j ≤ n → 0 ≤ j → ∀ s3, frm (fun k => k = 166) (w2 s1 165 a (c + 1)) s3 → (∀ m, 0 ≤ m → m < j → s3 166 m = w2 s1 165 a (c + 1) 165 m) → kK mX11_deals 92 [jR 143, jI n, jI f, jI a, jI j] [] s3 Q := by
              refine lp_up _ _ (fun j hj jh j0 s3 f3 e3 => ?_)
              have c165 : s3 165 = w2 s1 165 a (c + 1) 165 := f3 165 (by omega)
              refine g_X11_deals_92 ⟨by unfold jr32; omega, by unfold jr32; omega, fun q => ?_, fun q => ⟨by unfold jr32; omega, fun q2 => absurd f00 q2, fun _ => ⟨by omega, ?_⟩⟩⟩
              · refine nxt s3 (fun k hk => by rw [f3 k (fun e => hk (by unfold drP; omega)), fA k hk]) (fun m m0 m1 => by rw [c165]; exact sA m m0 m1) (by rw [c165]; exact sAa) ⟨fun x => by omega, fun _ _ => ⟨fun m m0 m1 => (e3 m m0 (by omega)).trans (sA m m0 m1), ⟨?_, fun i i0 i1 => by omega⟩⟩⟩
                rw [e3 a a0 (by omega), sAa, w1]
                exact ⟨by omega, by omega, by omega, fun r r0 r1 => by omega⟩
              · refine jh (by omega) (by omega) _ (f3.s2 rfl) (fun m m0 m1 => ?_)
                rw [w2_e]
                by_cases x : m = j
                · rw [if_pos x, x, c165]
                · rw [if_neg x]; exact e3 m m0 (by omega)
            exact l92 0 (by omega) (by omega) _ frm.rf (fun m m0 m1 => by omega)
          · refine g_X11_deals_92 ⟨by decide, by unfold jr32; omega, fun q => by omega, fun _ => ⟨by unfold jr32; omega, fun _ => ?_, fun q => absurd q f00⟩⟩
            exact nxt _ fA sA sAa ⟨fun _ j _ _ => by rw [s66], fun x => absurd x f00⟩
    · -- no reader left
      have c5 : c = 5 := by omega
      have z : DLc (hm s0) n 0 t c = 0 := by rw [c5]; exact DLc_5 _ _ _ _
      rw [z, Int.add_zero] at cont
      rw [show a + -1 = a - 1 by omega]
      exact cont _ (fr.s2 (Or.inl rfl)) (fun j j0 j1 => w2_i (by omega)) ⟨fun _ j _ _ => by rw [w2_k (by omega)], fun _ y => by omega⟩
  | succ k kih =>
    intro a ea a0
    refine lp_up 5 _ (fun c hc ih c0 s1 t f fr rv hca f0 fb cont => ?_)
    have dn := DLc_n (hm s0) n (k + 1) t c0 hc
    refine g_X11_deals_11 ?_
    rw [hca]
    refine ⟨by unfold jr32; omega, fun q => by omega, fun _ => ⟨by omega, by unfold jr32; omega, fun q6 => ?_, fun q6 => ?_⟩⟩
    · -- a reader more
      have ds := DLc_s (hm s0) n (k + 1) t c0
      have dn1 := DLc_n (hm s0) n (k + 1) t (c := c + 1) (by omega) (by omega)
      have tn := wt_nn (h := hm s0) (n := n) (k + 1) t (c + 1)
      have fA : frm drP s0 (w2 s1 165 a (c + 1)) := fr.s2 (Or.inl rfl)
      have nxt : ∀ s3, frm drP s0 s3 → (∀ j, 0 ≤ j → j < a → s3 165 j = s1 165 j) → s3 165 a = c + 1 → FIr (hm s0) n a (k + 1) t c f (wt (hm s0) n (wd (hm s0) n (k + 1)) (k + 1) t (c + 1)) s1 s3 → kK mX11_deals 11 [jR 143, jI n, jI (f + wt (hm s0) n (wd (hm s0) n (k + 1)) (k + 1) t (c + 1)), jI a, jU] [] s3 Q := fun s3 f3 e3 z3 fi3 => by
        refine ih (by omega) (by omega) s3 t _ f3 (rv.c e3) z3 (by omega) (by omega) (fun s2 f2 e2 fi2 => ?_)
        have := cont s2 f2 (fun j j0 j1 => (e2 j j0 j1).trans (e3 j j0 j1)) ⟨fun x j j0 j1 => ?_, fun x y => ?_⟩
        · rw [ds, ← Int.add_assoc] at this
          exact this
        · rw [fi2.1 (by omega) j j0 j1, fi3.1 (by omega) j j0 j1]
        · by_cases z : wt (hm s0) n (wd (hm s0) n (k + 1)) (k + 1) t (c + 1) = 0
          · obtain ⟨y1, y2, y3⟩ := fi2.2 (by omega) (by omega)
            obtain ⟨y21, y22, y23, y24⟩ := y2
            refine ⟨fun j j0 j1 => (y1 j j0 j1).trans (e3 j j0 j1), ⟨by omega, y22, y23, fun r r0 r1 => ?_⟩, y3⟩
            by_cases w : r = c + 1
            · rw [w]; omega
            · exact y24 r (by omega) r1
          · obtain ⟨y1, y2⟩ := fi3.2 x (by omega)
            have eq := fi2.1 (Or.inl (by omega))
            exact ⟨fun j j0 j1 => (eq j j0 (by omega)).trans (y1 j j0 j1), y2.c (by omega) eq⟩
      have sA : ∀ j, 0 ≤ j → j < a → w2 s1 165 a (c + 1) 165 j = s1 165 j := fun j j0 j1 => w2_i (by omega)
      have sAa : w2 s1 165 a (c + 1) 165 a = c + 1 := w2_s _ _ _ _
      have s66 : w2 s1 165 a (c + 1) 166 = s1 166 := w2_k (by omega)
      have zero : wt (hm s0) n (wd (hm s0) n (k + 1)) (k + 1) t (c + 1) = 0 → kK mX11_deals 11 [jR 143, jI n, jI f, jI a, jU] [] (w2 s1 165 a (c + 1)) Q := fun z => by
        have := nxt _ fA sA sAa ⟨fun _ j _ _ => by rw [s66], fun _ y => by omega⟩
        rw [z, Int.add_zero] at this
        exact this
      obtain ⟨rv1, rv2, rv3, rv4⟩ := id rv
      have b01 := bt_01 t (c + 1)
      have bx := rv4 (c + 1) (by omega) (by omega)
      refine ⟨fun j j0 j1 => ?_, fun y s8 q8 => ?_⟩
      · by_cases x : j = a
        · rw [x, sAa]; unfold jr32; omega
        · rw [sA j j0 (by omega)]
          have := rv1 j j0 (by omega)
          unfold jr32; omega
      · obtain ⟨qy, qf, rfl⟩ := q8
        have free : y = 1 ↔ bt t (c + 1) = 0 := by
          rw [qf]
          unfold frE
          rw [sAa]
          constructor
          · intro u
            rcases b01 with x | x
            · exact x
            · obtain ⟨j, hj, hr⟩ := bx.1 x
              have := u j hj.1 hj.2
              rw [sA j hj.1 hj.2] at this
              exact absurd hr this
          · intro u j j0 j1 v
            rw [sA j j0 j1] at v
            have := bx.2 ⟨j, ⟨j0, j1⟩, v⟩
            omega
        have g152 : w2 s1 165 a (c + 1) 152 = s0 152 := fA 152 (by unfold drP; omega)
        have g163 : w2 s1 165 a (c + 1) 163 = s0 163 := fA 163 (by unfold drP; omega)
        have g164 : w2 s1 165 a (c + 1) 164 = s0 164 := fA 164 (by unfold drP; omega)
        rw [sAa, g152, g163, g164]
        have la := lv a a0 (by omega)
        refine ⟨by unfold jr32; omega, fun qy0 => zero ?_, fun qy0 => ⟨by omega, la.1, la.2, kv _ (by omega) (by omega), fun qk => zero ?_, fun qk => ?_⟩⟩
        · unfold wt
          rw [if_neg (fun u => by have := free.2 u.2; omega)]
        · unfold wt
          rw [if_neg (fun u => qk (by have := u.1; rw [show n - 1 - ((k + 1 : Nat) : Int) = a by omega] at this; exact this))]
        · have bz : bt t (c + 1) = 0 := free.1 (by omega)
          have wv : wt (hm s0) n (wd (hm s0) n (k + 1)) (k + 1) t (c + 1) = wd (hm s0) n (k + 1) (t + 2 ^ (c + 1).toNat) := by
            unfold wt
            rw [if_pos ⟨by rw [show n - 1 - ((k + 1 : Nat) : Int) = a by omega]; exact qk, bz⟩]
          have w1 : wt (hm s0) n (wd (hm s0) n (k + 1)) (k + 1) t (c + 1) = DLc (hm s0) n k (t + 2 ^ (c + 1).toNat) (-1) := by rw [wv, DLc_0]
          rw [w1] at nxt ds tn
          refine ⟨by unfold jr32; omega, by unfold jr32; omega, fun q => by omega, fun _ => ⟨by omega, ?_⟩⟩
          have z4 : ∀ j, 0 ≤ j → j < a → w2 (w2 s1 165 a (c + 1)) 165 (a + 1) (-1) 165 j = s1 165 j := fun j j0 j1 => by rw [w2_i (by omega)]; exact sA j j0 j1
          have z4a : w2 (w2 s1 165 a (c + 1)) 165 (a + 1) (-1) 165 a = c + 1 := by rw [w2_i (by omega)]; exact sAa
          have rv4' : RV (w2 (w2 s1 165 a (c + 1)) 165 (a + 1) (-1) 165) (a + 1) (t + 2 ^ (c + 1).toNat) := rv.x a0 z4 z4a (by omega) bz
          have z66 : w2 (w2 s1 165 a (c + 1)) 165 (a + 1) (-1) 166 = s1 166 := by rw [w2_k (by omega)]; exact s66
          refine kih (a + 1) (by omega) (by omega) (-1) (by omega) (by omega) _ _ f (fA.s2 (Or.inl rfl)) rv4' (w2_s _ _ _ _) f0 (by omega) (fun s2 f2 e2 fi2 => ?_)
          rw [show a + 1 - 1 = a by omega]
          refine nxt s2 f2 (fun j j0 j1 => (e2 j j0 (by omega)).trans (z4 j j0 j1)) ((e2 a a0 (by omega)).trans z4a) ⟨fun x j j0 j1 => by rw [fi2.1 x j j0 j1, z66], fun x y => ?_⟩
          obtain ⟨y1, y2, y3⟩ := fi2.2 x y
          have ya : s2 166 a = c + 1 := (y1 a a0 (by omega)).trans z4a
          refine ⟨fun j j0 j1 => (y1 j j0 (by omega)).trans (z4 j j0 j1), ⟨by rw [ya, w1]; exact ⟨by omega, by omega, y, fun r r0 r1 => by omega⟩, fun i i0 i1 => ?_⟩⟩
          by_cases x1 : i = a + 1
          · obtain ⟨y21, y22, y23, y24⟩ := y2
            have te : tk (s2 166) (a + 1) = t + 2 ^ (c + 1).toNat := by rw [tk_c y1]; exact rv4'.2.1.symm
            rw [x1, te, show (n - 1 - (a + 1)).toNat = k by omega]
            exact ⟨Or.inr ⟨by omega, y22, y23, fun r r0 r1 => y24 r (by omega) r1⟩, by omega⟩
          · exact y3 i (by omega) i1
    · -- no reader left
      have c5 : c = 5 := by omega
      have z : DLc (hm s0) n (k + 1) t c = 0 := by rw [c5]; exact DLc_5 _ _ _ _
      rw [z, Int.add_zero] at cont
      rw [show a + -1 = a - 1 by omega]
      exact cont _ (fr.s2 (Or.inl rfl)) (fun j j0 j1 => w2_i (by omega)) ⟨fun _ j _ _ => by rw [w2_k (by omega)], fun _ y => by omega⟩
theorem sp_X11_deals (s : Int → Int → Int) (n : Int) (hp : DLp s n) : kR mX11_deals [jR 143, jI n] s (fun o s' => ∃ y, o = some (jI y) ∧ y = wd (hm s) n n.toNat 0 ∧ frm drP s s' ∧ (0 < wd (hm s) n n.toNat 0 → FDD (hm s) n n (s' 166))) := by
  have n6 := hp.1
  have en : n.toNat = (n - 1).toNat + 1 := by omega
  have w0 := DLc_0 (hm s) n (n - 1).toNat 0
  rw [← en] at w0
  have wb := wd_6 (h := hm s) (n := n) (k := n.toNat) (by omega) 0
  refine g_X11_deals ?_
  refine dl_main hp _ (n - 1).toNat 0 (by omega) (by omega) (-1) (by omega) (by omega) _ 0 0 (frm.wr (Or.inl rfl)) ⟨fun j j0 j1 => by omega, rfl, by omega, fun r r0 r1 => ?_⟩ (w2_s _ _ _ _) (by omega) (by rw [w0]; omega) (fun s2 f2 e2 fi2 => ?_)
  · constructor
    · intro u
      have : bt 0 r = 0 := bt_z (by omega) (by have := p2_pos r; omega)
      omega
    · intro ⟨j, hj, _⟩; omega
  · rw [w0] at fi2 ⊢
    refine g_X11_deals_11 ⟨by decide, fun _ => ⟨_, rfl, by omega, fun k hk => by rw [f2 k hk], fun wp => ?_⟩, fun q => absurd (by decide) q⟩
    obtain ⟨-, ⟨y1, y2, y3, y4⟩, y5⟩ := fi2.2 rfl wp
    intro i i0 i1
    by_cases x : i = 0
    · rw [x, show (n - 1 - 0).toNat = (n - 1).toNat by omega]
      exact ⟨Or.inr ⟨by omega, y2, y3, fun r r0 r1 => y4 r (by omega) r1⟩, by omega⟩
    · exact y5 i (by omega) i1
theorem g_X11_dealt {s : Int → Int → Int} {Q : Option jV → (Int → Int → Int) → Prop} {v1 v2 : Int} (v : (jr32 v1 ∧ ((v1 < 1 → Q (some (jI (-10))) s) ∧ (¬ (v1 < 1) → ((0 ≤ (s 146 3) ∧ (s 146 3) ≤ 31) ∧ jr32 (v1 / 2 ^ Int.toNat (s 146 3)) ∧ (((v1 / 2 ^ Int.toNat (s 146 3)) = 0 → kK mX11_dealt 27 [jR 143, jI v1, jI v2, jI 0, jI (-1), jI 0] [] s Q) ∧ (¬ ((v1 / 2 ^ Int.toNat (s 146 3)) = 0) → Q (some (jI (-10))) s))))))) : kR mX11_dealt [jR 143, jI v1, jI v2] s Q := by
  show kK mX11_dealt 0 [jR 143, jI v1, jI v2, jU, jU, jU] [] s Q
  obtain ⟨a1, v⟩ := v
  refine k_iload_n dX11_dealt_0 rfl ?_
  refine k_iconst dX11_dealt_1 ?_
  obtain ⟨vt, vf⟩ := v
  refine k_icmp_lt 16 dX11_dealt_2 rfl a1 (by decide) (fun c2 => ?_) (fun c2 => ?_)
  · have v := vt c2
    refine k_bipush dX11_dealt_16 rfl ?_
    exact k_ireturn (st := []) dX11_dealt_18 rfl v
  · have v := vf c2
    obtain ⟨a3, a4, v⟩ := v
    refine k_iload_n dX11_dealt_5 rfl ?_
    refine k_aload_n dX11_dealt_6 rfl ?_
    refine k_getr dX11_dealt_7 fl_X11_16 sh_143 (by decide) rfl ?_
    refine k_iconst dX11_dealt_10 ?_
    refine k_iald 6 dX11_dealt_11 sh_146 (by decide) rfl (by decide) (by decide) ?_
    refine k_shr dX11_dealt_12 a1 a3 ?_
    obtain ⟨vt, vf⟩ := v
    refine k_if_eq 19 dX11_dealt_13 rfl a4 (fun c5 => ?_) (fun c5 => ?_)
    · have v := vt c5
      refine k_iconst dX11_dealt_19 ?_
      refine k_istore_n [jR 143, jI v1, jI v2, jI 0, jU, jU] dX11_dealt_20 rfl rfl ?_
      refine k_iconst dX11_dealt_21 ?_
      refine k_istore [jR 143, jI v1, jI v2, jI 0, jI (-1), jU] dX11_dealt_22 rfl rfl ?_
      refine k_iconst dX11_dealt_24 ?_
      refine k_istore [jR 143, jI v1, jI v2, jI 0, jI (-1), jI 0] dX11_dealt_25 rfl rfl ?_
      exact v
    · have v := vf c5
      refine k_bipush dX11_dealt_16 rfl ?_
      exact k_ireturn (st := []) dX11_dealt_18 rfl v
theorem g_X11_dealt_27 {s : Int → Int → Int} {Q : Option jV → (Int → Int → Int) → Prop} {v1 v2 v3 v4 v5 : Int} (v : (jr32 v5 ∧ jr32 (s 146 3) ∧ (((s 146 3) ≤ v5 → (jr32 v2 ∧ ((v2 = (-1) → ((DLp s v3) ∧ (∀ (y7 : Int) (s8 : Int → Int → Int), (y7 = wd (hm s) v3 v3.toNat 0 ∧ frm drP s s8 ∧ (0 < wd (hm s) v3 v3.toNat 0 → FDD (hm s) v3 v3 (s8 166))) → ((v2 ≠ (-1) → (jr32 y7 ∧ ((y7 ≠ 0 → ((0 ≤ v4 ∧ v4 < 6) ∧ Q (some (jI (s8 166 v4))) s8)) ∧ (y7 = 0 → Q (some (jI (-1))) s8)))) ∧ (v2 = (-1) → Q (some (jI y7)) s8))))) ∧ (¬ (v2 = (-1)) → (jr32 v4 ∧ ((v4 ≠ (-1) → ((DLp s v3) ∧ (∀ (y17 : Int) (s18 : Int → Int → Int), (y17 = wd (hm s) v3 v3.toNat 0 ∧ frm drP s s18 ∧ (0 < wd (hm s) v3 v3.toNat 0 → FDD (hm s) v3 v3 (s18 166))) → ((v2 ≠ (-1) → (jr32 y17 ∧ ((y17 ≠ 0 → ((0 ≤ v4 ∧ v4 < 6) ∧ Q (some (jI (s18 166 v4))) s18)) ∧ (y17 = 0 → Q (some (jI (-1))) s18)))) ∧ (v2 = (-1) → Q (some (jI y17)) s18))))) ∧ (v4 = (-1) → Q (some (jI (-10))) s))))))) ∧ (¬ ((s 146 3) ≤ v5) → ((0 ≤ v5 ∧ v5 ≤ 31) ∧ jr32 v1 ∧ jr32 ((v1 / 2 ^ Int.toNat v5) % 2) ∧ ((((v1 / 2 ^ Int.toNat v5) % 2) ≠ 1 → kK mX11_dealt 27 [jR 143, jI v1, jI v2, jI v3, jI v4, jI (v5 + 1)] [] s Q) ∧ (((v1 / 2 ^ Int.toNat v5) % 2) = 1 → (jr32 v3 ∧ ((v3 ≠ 6 → (jr32 v2 ∧ ((v5 ≠ v2 → ((0 ≤ v3 ∧ v3 < 6) ∧ kK mX11_dealt 27 [jR 143, jI v1, jI v2, jI (v3 + 1), jI v4, jI (v5 + 1)] [] (w2 s 164 v3 v5) Q)) ∧ (v5 = v2 → ((0 ≤ v3 ∧ v3 < 6) ∧ kK mX11_dealt 27 [jR 143, jI v1, jI v2, jI (v3 + 1), jI v3, jI (v5 + 1)] [] (w2 s 164 v3 v5) Q))))) ∧ (v3 = 6 → Q (some (jI (-10))) s)))))))))) : kK mX11_dealt 27 [jR 143, jI v1, jI v2, jI v3, jI v4, jI v5] [] s Q := by
  obtain ⟨a1, a2, v⟩ := v
  refine k_iload dX11_dealt_27 rfl ?_
  refine k_aload_n dX11_dealt_29 rfl ?_
  refine k_getr dX11_dealt_30 fl_X11_16 sh_143 (by decide) rfl ?_
  refine k_iconst dX11_dealt_33 ?_
  refine k_iald 6 dX11_dealt_34 sh_146 (by decide) rfl (by decide) (by decide) ?_
  obtain ⟨vt, vf⟩ := v
  refine k_icmp_ge 88 dX11_dealt_35 rfl a1 a2 (fun c3 => ?_) (fun c3 => ?_)
  · have v := vt c3
    obtain ⟨a4, v⟩ := v
    refine k_iload_n dX11_dealt_88 rfl ?_
    refine k_iconst dX11_dealt_89 ?_
    obtain ⟨vt, vf⟩ := v
    refine k_icmp_eq 102 dX11_dealt_90 rfl a4 (by decide) (fun c5 => ?_) (fun c5 => ?_)
    · have v := vt c5
      obtain ⟨a6, v⟩ := v
      refine k_aload_n dX11_dealt_102 rfl ?_
      refine k_iload_n dX11_dealt_103 rfl ?_
      refine k_invVR [jI v3] [] dX11_dealt_104 cm_X11_deals ml_X11_229 im_X11_deals se_X11_deals rfl sh_143 (by decide) rfl rfl (sp_X11_deals s v3 a6) (fun _ s8 q9 => ?_)
      obtain ⟨y7, rfl, q9⟩ := q9
      have v := v y7 s8 q9
      refine k_istore [jR 143, jI v1, jI v2, jI v3, jI v4, jI y7] dX11_dealt_107 rfl rfl ?_
      refine k_iload_n dX11_dealt_109 rfl ?_
      refine k_iconst dX11_dealt_110 ?_
      obtain ⟨vt, vf⟩ := v
      refine k_icmp_ne 119 dX11_dealt_111 rfl a4 (by decide) (fun c10 => ?_) (fun c10 => ?_)
      · have v := vt c10
        obtain ⟨a11, v⟩ := v
        refine k_iload dX11_dealt_119 rfl ?_
        obtain ⟨vt, vf⟩ := v
        refine k_if_ne 128 dX11_dealt_121 rfl a11 (fun c12 => ?_) (fun c12 => ?_)
        · have v := vt c12
          obtain ⟨a13, v⟩ := v
          refine k_aload_n dX11_dealt_128 rfl ?_
          refine k_getr dX11_dealt_129 fl_X11_76 sh_143 (by decide) rfl ?_
          refine k_iload dX11_dealt_132 rfl ?_
          refine k_iald 6 dX11_dealt_134 sh_166 (by decide) rfl (by decide) a13 ?_
          exact k_ireturn (st := []) dX11_dealt_135 rfl v
        · have v := vf c12
          refine k_iconst dX11_dealt_124 ?_
          refine k_goto 135 dX11_dealt_125 rfl ?_
          exact k_ireturn (st := []) dX11_dealt_135 rfl v
      · have v := vf c10
        refine k_iload dX11_dealt_114 rfl ?_
        refine k_goto 135 dX11_dealt_116 rfl ?_
        exact k_ireturn (st := []) dX11_dealt_135 rfl v
    · have v := vf c5
      obtain ⟨a14, v⟩ := v
      refine k_iload dX11_dealt_93 rfl ?_
      refine k_iconst dX11_dealt_95 ?_
      obtain ⟨vt, vf⟩ := v
      refine k_icmp_ne 102 dX11_dealt_96 rfl a14 (by decide) (fun c15 => ?_) (fun c15 => ?_)
      · have v := vt c15
        obtain ⟨a16, v⟩ := v
        refine k_aload_n dX11_dealt_102 rfl ?_
        refine k_iload_n dX11_dealt_103 rfl ?_
        refine k_invVR [jI v3] [] dX11_dealt_104 cm_X11_deals ml_X11_229 im_X11_deals se_X11_deals rfl sh_143 (by decide) rfl rfl (sp_X11_deals s v3 a16) (fun _ s18 q19 => ?_)
        obtain ⟨y17, rfl, q19⟩ := q19
        have v := v y17 s18 q19
        refine k_istore [jR 143, jI v1, jI v2, jI v3, jI v4, jI y17] dX11_dealt_107 rfl rfl ?_
        refine k_iload_n dX11_dealt_109 rfl ?_
        refine k_iconst dX11_dealt_110 ?_
        obtain ⟨vt, vf⟩ := v
        refine k_icmp_ne 119 dX11_dealt_111 rfl a4 (by decide) (fun c20 => ?_) (fun c20 => ?_)
        · have v := vt c20
          obtain ⟨a21, v⟩ := v
          refine k_iload dX11_dealt_119 rfl ?_
          obtain ⟨vt, vf⟩ := v
          refine k_if_ne 128 dX11_dealt_121 rfl a21 (fun c22 => ?_) (fun c22 => ?_)
          · have v := vt c22
            obtain ⟨a23, v⟩ := v
            refine k_aload_n dX11_dealt_128 rfl ?_
            refine k_getr dX11_dealt_129 fl_X11_76 sh_143 (by decide) rfl ?_
            refine k_iload dX11_dealt_132 rfl ?_
            refine k_iald 6 dX11_dealt_134 sh_166 (by decide) rfl (by decide) a23 ?_
            exact k_ireturn (st := []) dX11_dealt_135 rfl v
          · have v := vf c22
            refine k_iconst dX11_dealt_124 ?_
            refine k_goto 135 dX11_dealt_125 rfl ?_
            exact k_ireturn (st := []) dX11_dealt_135 rfl v
        · have v := vf c20
          refine k_iload dX11_dealt_114 rfl ?_
          refine k_goto 135 dX11_dealt_116 rfl ?_
          exact k_ireturn (st := []) dX11_dealt_135 rfl v
      · have v := vf c15
        refine k_bipush dX11_dealt_99 rfl ?_
        exact k_ireturn (st := []) dX11_dealt_101 rfl v
  · have v := vf c3
    obtain ⟨a24, a25, a26, v⟩ := v
    refine k_iload_n dX11_dealt_38 rfl ?_
    refine k_iload dX11_dealt_39 rfl ?_
    refine k_shr dX11_dealt_41 a25 a24 ?_
    refine k_iconst dX11_dealt_42 ?_
    refine k_and1 dX11_dealt_43 ?_
    refine k_iconst dX11_dealt_44 ?_
    obtain ⟨vt, vf⟩ := v
    refine k_icmp_ne 82 dX11_dealt_45 rfl a26 (by decide) (fun c27 => ?_) (fun c27 => ?_)
    · have v := vt c27
      refine k_iinc [jR 143, jI v1, jI v2, jI v3, jI v4, jI (v5 + 1)] dX11_dealt_82 rfl rfl rfl ?_
      refine k_goto 27 dX11_dealt_85 rfl ?_
      exact v
    · have v := vf c27
      obtain ⟨a28, v⟩ := v
      refine k_iload_n dX11_dealt_48 rfl ?_
      refine k_bipush dX11_dealt_49 rfl ?_
      obtain ⟨vt, vf⟩ := v
      refine k_icmp_ne 57 dX11_dealt_51 rfl a28 (by decide) (fun c29 => ?_) (fun c29 => ?_)
      · have v := vt c29
        obtain ⟨a30, v⟩ := v
        refine k_iload dX11_dealt_57 rfl ?_
        refine k_iload_n dX11_dealt_59 rfl ?_
        obtain ⟨vt, vf⟩ := v
        refine k_icmp_ne 67 dX11_dealt_60 rfl a1 a30 (fun c31 => ?_) (fun c31 => ?_)
        · have v := vt c31
          obtain ⟨a32, v⟩ := v
          refine k_iload dX11_dealt_67 rfl ?_
          refine k_istore [jR 143, jI v1, jI v2, jI v3, jI v4, jI v5] dX11_dealt_69 rfl rfl ?_
          refine k_aload_n dX11_dealt_71 rfl ?_
          refine k_getr dX11_dealt_72 fl_X11_70 sh_143 (by decide) rfl ?_
          refine k_iload_n dX11_dealt_75 rfl ?_
          refine k_iload dX11_dealt_76 rfl ?_
          refine k_iast 6 dX11_dealt_78 sh_164 (by decide) rfl (by decide) a32 ?_
          refine k_iinc [jR 143, jI v1, jI v2, jI (v3 + 1), jI v4, jI v5] dX11_dealt_79 rfl rfl rfl ?_
          refine k_iinc [jR 143, jI v1, jI v2, jI (v3 + 1), jI v4, jI (v5 + 1)] dX11_dealt_82 rfl rfl rfl ?_
          refine k_goto 27 dX11_dealt_85 rfl ?_
          exact v
        · have v := vf c31
          obtain ⟨a33, v⟩ := v
          refine k_iload_n dX11_dealt_63 rfl ?_
          refine k_goto 69 dX11_dealt_64 rfl ?_
          refine k_istore [jR 143, jI v1, jI v2, jI v3, jI v3, jI v5] dX11_dealt_69 rfl rfl ?_
          refine k_aload_n dX11_dealt_71 rfl ?_
          refine k_getr dX11_dealt_72 fl_X11_70 sh_143 (by decide) rfl ?_
          refine k_iload_n dX11_dealt_75 rfl ?_
          refine k_iload dX11_dealt_76 rfl ?_
          refine k_iast 6 dX11_dealt_78 sh_164 (by decide) rfl (by decide) a33 ?_
          refine k_iinc [jR 143, jI v1, jI v2, jI (v3 + 1), jI v3, jI v5] dX11_dealt_79 rfl rfl rfl ?_
          refine k_iinc [jR 143, jI v1, jI v2, jI (v3 + 1), jI v3, jI (v5 + 1)] dX11_dealt_82 rfl rfl rfl ?_
          refine k_goto 27 dX11_dealt_85 rfl ?_
          exact v
      · have v := vf c29
        refine k_bipush dX11_dealt_54 rfl ?_
        exact k_ireturn (st := []) dX11_dealt_56 rfl v
theorem FDD.cg {h h' : Int → Int → Int} {n m : Int} {Y : Int → Int} (f : FDD h n m Y) (hm : m ≤ n) (e : ∀ r i, 0 ≤ r → r < 6 → 0 ≤ i → i < n → h r i = h' r i) : FDD h' n m Y := fun i i0 i1 => by
  obtain ⟨f1, f2⟩ := f i i0 i1
  refine ⟨f1.cg2 (fun r r0 r1 => ?_), f2⟩
  have we : wt h n (wd h n (n - 1 - i).toNat) (n - 1 - i).toNat (tk Y i) r = wt h' n (wd h' n (n - 1 - i).toNat) (n - 1 - i).toNat (tk Y i) r := by
    unfold wt
    rw [e r _ r0 r1 (by omega) (by omega), wd_c e _ (by omega)]
  rw [we]
def dlW (s : Int → Int → Int) (L : Int) : Int := wd (dlh s L) (dln s L) (dln s L).toNat 0
def dlR (s : Int → Int → Int) (L w y : Int) : Prop := (w = -1 ∧ y = dlW s L) ∨ (w ≠ -1 ∧ ((dlW s L = 0 ∧ y = -1) ∨ (0 < dlW s L ∧ ∃ Y, FDD (dlh s L) (dln s L) (sg w (bt L) + 1) Y ∧ y = Y (sg w (bt L)))))
theorem dlR.uq {s : Int → Int → Int} {L w a b : Int} (h : dlR s L w a) (g : dlR s L w b) : a = b := by
  rcases h with ⟨h1, h2⟩ | ⟨h1, h2⟩ <;> rcases g with ⟨g1, g2⟩ | ⟨g1, g2⟩
  · omega
  · exact absurd h1 g1
  · exact absurd g1 h1
  · rcases h2 with ⟨h3, h4⟩ | ⟨h3, Y, h4, h5⟩ <;> rcases g2 with ⟨g3, g4⟩ | ⟨g3, Z, g4, g5⟩
    · omega
    · omega
    · omega
    · have nn := sgb_nn L (n := w)
      rw [h5, g5]
      exact FDD.uq _ (by omega) h4 g4 _ nn (by omega)
theorem dlR.rg {s : Int → Int → Int} {L w y : Int} (h : dlR s L w y) (h6 : dln s L ≤ 6) : jr32 y := by
  have wb := wd_6 (h := dlh s L) (n := dln s L) (k := (dln s L).toNat) (by omega) 0
  rcases h with ⟨h1, h2⟩ | ⟨h1, ⟨h3, h4⟩ | ⟨h3, Y, h4, h5⟩⟩
  · rw [h2]; unfold dlW jr32; omega
  · rw [h4]; decide
  · have nn := sgb_nn L (n := w)
    rw [h5]
    exact (h4 _ nn (by omega)).1.rng (by omega)
def dlB (s : Int → Int → Int) (L w : Int) : Prop := 6 < dln s L ∨ (w ≠ -1 ∧ ¬ ((0 ≤ w ∧ w < s 146 3) ∧ bt L w = 1))
theorem dln_w {s : Int → Int → Int} {L w : Int} (h0 : 0 ≤ w) (h1 : w < s 146 3) (hb : bt L w = 1) : sg w (bt L) + 1 ≤ dln s L := by
  have a := sgb_s L h0
  have b := sgb_le L (n := w + 1) (by omega) (s 146 3 - (w + 1)) (by omega)
  rw [show w + 1 + (s 146 3 - (w + 1)) = s 146 3 by omega] at b
  unfold dln
  omega
theorem dl_cls {s s' : Int → Int → Int} {L w y : Int} (h : dlT s L) (h6 : dln s L ≤ 6) (hw : w ≠ -1) (hb : (0 ≤ w ∧ w < s 146 3) ∧ bt L w = 1) (f : frm wfP s s') (e120 : s' 120 3 = dln s L) (e122 : ∀ i, 0 ≤ i → i < dln s L → s' 122 i = lf L (s 146 3) i) (r : RIR s' w y) : dlR s L w y := by
  obtain ⟨d, hi, -⟩ := id h
  have e : ∀ r i, 0 ≤ r → r < 6 → 0 ≤ i → i < dln s L → hs s' r i = dlh s L r i := fun r i r0 r1 i0 i1 => by
    have lb := h.l i0 i1
    unfold hs dlh
    rw [f 121 (by unfold wfP; omega), f 8 (by unfold wfP; omega), e122 i i0 i1, hi.1 r r0 r1, (d.let lb.1 lb.2).1.1]
  have n0 : 0 ≤ dln s L := sgb_nn L
  have ew : wd (hs s') (dln s L) (dln s L).toNat 0 = dlW s L := wd_c e _ (by omega) 0
  unfold RIR at r
  rw [e120, ew] at r
  rcases r with r | ⟨r1, Y, i, ri, rw1, rn, rf, ry⟩
  · exact Or.inr ⟨hw, Or.inl r⟩
  · have nn := sgb_nn L (n := w)
    have lt := dln_w hb.1.1 hb.1.2 hb.2
    have c3 := d.cnt.2.2.2.2
    have is : i = sg w (bt L) := by
      by_cases x : i < sg w (bt L)
      · have a := lf_k L (n := w) hb.1.1 x (s 146 3 - w) (by omega)
        rw [show w + (s 146 3 - w) = s 146 3 by omega] at a
        have b := lf_b L w hb.1.1 i ri.1 x
        rw [e122 i ri.1 ri.2] at rw1
        omega
      · by_cases y : sg w (bt L) < i
        · have := rn _ nn y
          rw [e122 _ nn (by omega), lf_h L hb.1.1 hb.1.2 hb.2] at this
          exact absurd rfl this
        · omega
    rw [is] at rf ry
    exact Or.inr ⟨hw, Or.inr ⟨r1, Y, rf.cg (by omega) e, ry⟩⟩
theorem sp_dealt_m {s : Int → Int → Int} {L w : Int} (h : dlT s L) (hw : jr32 w) (Q : Option jV → (Int → Int → Int) → Prop) (bad : dlB s L w → ∀ s1, frm (fun k => k = 164) s s1 → Q (some (jI (-10))) s1) (good : ¬ dlB s L w → ∀ y s1, frm (fun k => k = 164 ∨ k = 165 ∨ k = 166) s s1 → dlR s L w y → Q (some (jI y)) s1) : kK mX11_dealt 27 [jR 143, jI L, jI w, jI 0, jI (-1), jI 0] [] s Q := by
  obtain ⟨d, hi, hL⟩ := id h
  have lr := h.r
  have c3 := d.cnt.2.2.2.2
  have fin : ∀ s1 o, frm (fun k => k = 164) s s1 → dln s L ≤ 6 → (∀ i, 0 ≤ i → i < dln s L → s1 164 i = lf L (s 146 3) i) → ¬ dlB s L w → (w ≠ -1 → o = sg w (bt L)) → ((DLp s1 (dln s L)) ∧ (∀ (y7 : Int) (s8 : Int → Int → Int), (y7 = wd (hm s1) (dln s L) (dln s L).toNat 0 ∧ frm drP s1 s8 ∧ (0 < wd (hm s1) (dln s L) (dln s L).toNat 0 → FDD (hm s1) (dln s L) (dln s L) (s8 166))) → ((w ≠ (-1) → (jr32 y7 ∧ ((y7 ≠ 0 → ((0 ≤ o ∧ o < 6) ∧ Q (some (jI (s8 166 o))) s8)) ∧ (y7 = 0 → Q (some (jI (-1))) s8)))) ∧ (w = (-1) → Q (some (jI y7)) s8)))) := fun s1 o f1 h6 l1 nb ho => by
    have e : ∀ r i, 0 ≤ r → r < 6 → 0 ≤ i → i < dln s L → hm s1 r i = dlh s L r i := fun r i r0 r1 i0 i1 => by
      unfold hm dlh
      rw [f1 163 (by omega), f1 152 (by omega), l1 i i0 i1]
    have n0 : 0 ≤ dln s L := sgb_nn L
    have n1 : 1 ≤ dln s L := by
      by_cases x : dln s L = 0
      · exfalso
        -- some bit is set
        have := h.cn
        rw [x] at this
        have z : ∀ l, 0 ≤ l → l < 30 → bt L l = 0 := fun l l0 l1 => by
          have := sg_ge (n := 30) (k := l) (f := bt L) (fun i _ _ => by have := bt_01 L i; omega) l0 l1
          have := bt_01 L l
          unfold bc at *
          omega
        have low : ∀ m : Int, 0 ≤ m → m ≤ 30 → L % 2 ^ m.toNat = 0 := by
          refine in_up _ (fun _ => ?_) (fun m hm ih hm30 => ?_)
          · show L % 1 = 0; omega
          · have a := ih (by omega)
            have b := z m hm (by omega)
            unfold bt at b
            have p := p2_pos m
            rw [show (m + 1).toNat = m.toNat + 1 by omega, Int.pow_succ]
            have c1 := Int.emod_add_mul_ediv L (2 ^ m.toNat)
            rw [a] at c1
            have c2 : L / 2 ^ m.toNat = 2 * (L / 2 ^ m.toNat / 2) := by omega
            have c4 : L = 2 ^ m.toNat * 2 * (L / 2 ^ m.toNat / 2) := by
              rw [Int.mul_assoc, ← c2]; omega
            generalize L / 2 ^ m.toNat / 2 = u at c4
            rw [c4]
            exact Int.mul_emod_right _ _
        have := low 30 (by omega) (by omega)
        rw [show (2 : Int) ^ Int.toNat 30 = 1073741824 from rfl] at this
        omega
      · omega
    have ew : wd (hm s1) (dln s L) (dln s L).toNat 0 = dlW s L := wd_c e _ (by omega) 0
    have wb := wd_6 (h := dlh s L) (n := dln s L) (k := (dln s L).toNat) (by omega) 0
    rw [ew]
    refine ⟨⟨by omega, fun i i0 i1 => ?_, fun r r0 r1 => ?_⟩, fun y s8 q => ?_⟩
    · have lb := h.l i0 i1
      obtain ⟨x1, -⟩ := d.let lb.1 lb.2
      rw [l1 i i0 i1, f1 152 (by omega)]
      have := d.cnt.2.1
      omega
    · rw [f1 163 (by omega)]
      have := hi.2 r r0 r1
      unfold jr32; omega
    · obtain ⟨q1, q2, q3⟩ := q
      have f8 : frm (fun k => k = 164 ∨ k = 165 ∨ k = 166) s s8 := fun k hk => by rw [q2 k (by unfold drP; omega), f1 k (by omega)]
      refine ⟨fun qw => ⟨by unfold dlW at q1; unfold jr32; omega, fun q4 => ?_, fun q4 => good nb _ s8 f8 (Or.inr ⟨qw, Or.inl ⟨by omega, rfl⟩⟩)⟩, fun qw => good nb _ s8 f8 (Or.inl ⟨qw, q1⟩)⟩
      have ok : (0 ≤ w ∧ w < s 146 3) ∧ bt L w = 1 := by
        by_cases x : (0 ≤ w ∧ w < s 146 3) ∧ bt L w = 1
        · exact x
        · exact absurd (Or.inr ⟨qw, x⟩) nb
      have nn := sgb_nn L (n := w)
      have lt := dln_w ok.1.1 ok.1.2 ok.2
      have ho := ho qw
      subst ho
      have wp : 0 < dlW s L := by unfold dlW at q1 ⊢; omega
      have fd := (q3 wp).cg (Int.le_refl _) e
      exact ⟨by omega, good nb _ s8 f8 (Or.inr ⟨qw, Or.inr ⟨wp, _, fun i i0 i1 => fd i i0 (by omega), rfl⟩⟩)⟩
  have key : ∀ l, l ≤ s 146 3 → 0 ≤ l → ∀ s1 o, frm (fun k => k = 164) s s1 → sg l (bt L) ≤ 6 → (∀ i, 0 ≤ i → i < sg l (bt L) → s1 164 i = lf L l i) → (((0 ≤ w ∧ w < l) ∧ bt L w = 1) → o = sg w (bt L)) → (¬ ((0 ≤ w ∧ w < l) ∧ bt L w = 1) → o = -1) → kK mX11_dealt 27 [jR 143, jI L, jI w, jI (sg l (bt L)), jI o, jI l] [] s1 Q := by
    refine lp_up _ _ (fun l hl ih l0 s1 o f1 m6 l1 o1 o2 => ?_)
    have c146 : s1 146 = s 146 := f1 146 (by omega)
    have b01 := bt_01 L l
    have nn := sgb_nn L (n := l)
    have nx := sgb_s L l0
    refine g_X11_dealt_27 ?_
    rw [c146, show L / 2 ^ l.toNat % 2 = bt L l from rfl]
    refine ⟨by unfold jr32; omega, by unfold jr32; omega, fun q => ?_, fun q => ?_⟩
    · have el : l = s 146 3 := by omega
      rw [el] at m6 l1 o1 o2 ⊢
      have nbw : w = -1 → ¬ dlB s L w := fun e c => by
        rcases c with c | c
        · unfold dln at c; omega
        · exact c.1 e
      refine ⟨hw, fun qw => fin s1 o f1 m6 l1 (nbw qw) (fun c => absurd qw c), fun qw => ?_⟩
      by_cases ok : (0 ≤ w ∧ w < s 146 3) ∧ bt L w = 1
      · have oe := o1 ok
        have nw := sgb_nn L (n := w)
        refine ⟨by have := dln_w ok.1.1 ok.1.2 ok.2; unfold dln at this; unfold jr32; omega, fun _ => fin s1 o f1 m6 l1 (fun c => ?_) (fun _ => oe), fun c => by omega⟩
        rcases c with c | c
        · unfold dln at c; omega
        · exact c.2 ok
      · have oe := o2 ok
        exact ⟨by rw [oe]; decide, fun c => absurd oe c, fun _ => bad (Or.inr ⟨qw, ok⟩) s1 f1⟩
    · refine ⟨by omega, by unfold jr32; omega, by unfold jr32; omega, fun c => ?_, fun c => ⟨by unfold jr32; omega, fun m5 => ⟨hw, fun qw => ⟨by omega, ?_⟩, fun qw => ⟨by omega, ?_⟩⟩, fun m5 => bad (Or.inl ?_) s1 f1⟩⟩
      · have := ih (by omega) (by omega) s1 o f1 (by omega) (fun i i0 i1 => ?_) (fun p => ?_) (fun p => ?_)
        · rw [nx, show bt L l = 0 by omega, Int.add_zero] at this
          exact this
        · rw [lf_s L l0, if_neg (fun p => c p.1)]
          exact l1 i i0 (by omega)
        · refine o1 ⟨⟨p.1.1, ?_⟩, p.2⟩
          by_cases x : w = l
          · rw [x] at p; exact absurd p.2 c
          · omega
        · exact o2 (fun u => p ⟨⟨u.1.1, by omega⟩, u.2⟩)
      · have := ih (by omega) (by omega) _ o (f1.s2 (i := sg l (bt L)) (v := l) rfl) (by omega) (fun i i0 i1 => ?_) (fun p => o1 ⟨⟨p.1.1, by omega⟩, p.2⟩) (fun p => o2 (fun u => p ⟨⟨u.1.1, by omega⟩, u.2⟩))
        · rw [nx, c] at this
          exact this
        · rw [w2_e, lf_s L l0]
          by_cases x : i = sg l (bt L)
          · rw [if_pos x, if_pos ⟨c, x⟩]
          · rw [if_neg x, if_neg (fun p => x p.2)]
            exact l1 i i0 (by omega)
      · have := ih (by omega) (by omega) _ (sg l (bt L)) (f1.s2 (i := sg l (bt L)) (v := l) rfl) (by omega) (fun i i0 i1 => ?_) (fun p => by rw [← qw]) (fun p => absurd ⟨⟨by omega, by omega⟩, by rw [← qw]; exact c⟩ p)
        · rw [nx, c] at this
          exact this
        · rw [w2_e, lf_s L l0]
          by_cases x : i = sg l (bt L)
          · rw [if_pos x, if_pos ⟨c, x⟩]
          · rw [if_neg x, if_neg (fun p => x p.2)]
            exact l1 i i0 (by omega)
      · have := sgb_le L (n := l + 1) (by omega) (s 146 3 - (l + 1)) (by omega)
        rw [show l + 1 + (s 146 3 - (l + 1)) = s 146 3 by omega] at this
        unfold dln
        omega
  have := key 0 (by omega) (by omega) s (-1) frm.rf (by rw [sg_0]; omega) (fun i i0 i1 => by rw [sg_0] at i1; omega) (fun p => by omega) (fun _ => rfl)
  rw [sg_0] at this
  exact this
theorem op_dealt {S0 : Int → Int} {s : Int → Int → Int} (hI : Inv S0 s) (a1 a2 : Int) (h1 : jr32 a1) (h2 : jr32 a2) : jop mX10_dealt mX11_dealt [jI a1, jI a2] S0 s := by
  have hd := hI.dd
  obtain ⟨e0, e1, e2, e3⟩ := hd.cnt
  have p30 : (2 : Int) ^ (s 146 3).toNat ≤ 1073741824 := by
    have : (2 : Int) ^ (s 146 3).toNat ≤ 2 ^ 30 := ipow_le (by decide) (by omega)
    have e : (2 : Int) ^ 30 = 1073741824 := rfl
    omega
  have pp := p2_pos (s 146 3)
  have dq : ∀ x : Int, 1 ≤ x → (x / 2 ^ (s 146 3).toNat = 0 ↔ x < 2 ^ (s 146 3).toNat) := fun x x1 => by
    constructor
    · intro c
      have := Int.emod_add_mul_ediv x (2 ^ (s 146 3).toNat)
      have := Int.emod_lt_of_pos x (show 0 < (2 : Int) ^ (s 146 3).toNat by omega)
      rw [c] at *
      omega
    · intro c
      exact Int.ediv_eq_zero_of_lt (by omega) c
  by_cases c : 1 ≤ a1 ∧ a1 < 2 ^ (s 146 3).toNat
  · have h : dlT s a1 := ⟨hd, hI.2.2.2.2.1, c⟩
    have lr := h.r
    have n0 : 0 ≤ dln s a1 := sgb_nn a1
    have nb30 : dln s a1 ≤ 30 := by
      have := sg_b (n := s 146 3) (f := bt a1) (a := 0) (b := 1) e3.2.1 (fun i _ _ => by have := bt_01 a1 i; omega)
      unfold dln; omega
    have hbc := h.cn
    have dv : ∀ s1 : Int → Int → Int, s1 146 = s 146 → jr32 (a1 / 2 ^ (s1 146 3).toNat) := fun s1 e => by
      rw [e, (dq a1 c.1).2 c.2]; decide
    have model : ∀ s1, frm wfP s s1 → ∀ Q : Option jV → (Int → Int → Int) → Prop, (dlB s a1 a2 → ∀ s2, frm (fun k => k = 164 ∨ k = 165 ∨ k = 166) s1 s2 → Q (some (jI (-10))) s2) → (¬ dlB s a1 a2 → ∀ y s2, frm (fun k => k = 164 ∨ k = 165 ∨ k = 166) s1 s2 → dlR s a1 a2 y → Q (some (jI y)) s2) → kR mX11_dealt [jR 143, jI a1, jI a2] s1 Q := fun s1 f1 Q qb qg => by
      have k146 : s1 146 = s 146 := f1 146 (by unfold wfP; omega)
      have en : dln s1 a1 = dln s a1 := by unfold dln; rw [k146]
      have eh : dlh s1 a1 = dlh s a1 := by funext r i; unfold dlh; rw [k146, f1 163 (by unfold wfP; omega), f1 152 (by unfold wfP; omega)]
      have eb : dlB s1 a1 a2 ↔ dlB s a1 a2 := by unfold dlB; rw [en, k146]
      have er : ∀ y, dlR s1 a1 a2 y ↔ dlR s a1 a2 y := fun y => by unfold dlR dlW; rw [en, eh]
      have d1 : dlT s1 a1 := ⟨hd.fr (fun k hk => f1 k (by unfold wfP; omega)), (hI.2.2.2.2.1).k (f1 121 (by unfold wfP; omega)) (f1 163 (by unfold wfP; omega)), by rw [k146]; exact c⟩
      refine g_X11_dealt ⟨h1, fun q => by omega, fun _ => ⟨by rw [k146]; omega, dv s1 k146, fun _ => ?_, fun q => absurd (by rw [k146]; exact (dq a1 c.1).2 c.2) q⟩⟩
      exact sp_dealt_m d1 h2 Q (fun b s2 f2 => qb (eb.1 b) s2 (f2.wk (fun k e => Or.inl e))) (fun b y s2 f2 r => qg (fun u => b (eb.2 u)) y s2 f2 ((er y).1 r))
    have tmp : ∀ s1 s2 : Int → Int → Int, frm wfP s s1 → frm (fun k => k = 164 ∨ k = 165 ∨ k = 166) s1 s2 → Inv S0 s2 := fun s1 s2 f1 f2 => hI.fr (fun k hk => by
      unfold jtmp jpers at hk
      rw [f2 k (by omega), f1 k (by unfold wfP; omega)])
    have z0 : ∀ s1 : Int → Int → Int, frm wfP s s1 → s1 0 = S0 := fun s1 f1 => (f1 0 (by unfold wfP; omega)).trans hI.1
    by_cases b : dlB s a1 a2
    · refine jop.rr (fun y => y = -10) (fun s1 => s1 = s) (fun a b p q => p.trans q.symm) (fun a h => by rw [h]; decide) (fun s1 h => by rw [h]; exact hI.1) ?_ (fun s1 h1' => ?_)
      · refine g_X10_dealt ?_
        rw [e3.1, Int.one_mul, hbc]
        refine ⟨by omega, h1, by unfold jr32; omega, fun q => ⟨-10, rfl, rfl, rfl⟩, fun _ => ⟨by omega, by unfold jr32; omega, fun q6 => ⟨h2, fun qw => ?_, fun qw => ⟨hd.wc, fun _ => ⟨-10, rfl, rfl, rfl⟩, fun qr => ⟨by omega, ?_, fun qb => ?_, fun _ => ⟨-10, rfl, rfl, rfl⟩⟩⟩⟩, fun _ => ⟨-10, rfl, rfl, rfl⟩⟩⟩
        · exfalso
          rcases b with b | b
          · omega
          · exact b.1 qw
        · have := bt_01 a1 a2
          unfold bt at this
          unfold jr32; omega
        · exfalso
          rcases b with b | b
          · omega
          · refine b.2 ⟨by omega, ?_⟩
            have := bt_01 a1 a2
            unfold bt at this ⊢
            omega
      · subst h1'
        exact model s1 frm.rf _ (fun _ s2 f2 => ⟨-10, rfl, rfl, tmp s1 s2 frm.rf f2⟩) (fun nb => absurd b nb)
    · have h6 : dln s a1 ≤ 6 := by
        by_cases x : dln s a1 ≤ 6
        · exact x
        · exact absurd (Or.inl (by omega)) b
      refine jop.rr (dlR s a1 a2) (frm wfP s) (fun a b p q => p.uq q) (fun a p => p.rg h6) z0 ?_ (fun s1 f1 => model s1 f1 _ (fun u => absurd u b) (fun _ y s2 f2 r => ⟨y, rfl, r, tmp s1 s2 f1 f2⟩))
      refine g_X10_dealt ?_
      rw [e3.1, Int.one_mul, hbc]
      have eW : ∀ s13, frm wfP s s13 → (∀ i, 0 ≤ i → i < dln s a1 → s13 122 i = lf a1 (s 146 3) i) → wd (hs s13) (dln s a1) (dln s a1).toNat 0 = dlW s a1 := fun s13 f13 l13 => wd_c (fun r i r0 r1 i0 i1 => by
        have lb := h.l i0 i1
        unfold hs dlh
        rw [f13 121 (by unfold wfP; omega), f13 8 (by unfold wfP; omega), l13 i i0 i1, (hI.2.2.2.2.1).1 r r0 r1, (hd.let lb.1 lb.2).1.1]) _ (by omega) 0
      refine ⟨by omega, h1, by unfold jr32; omega, fun q => absurd (by omega) q, fun _ => ⟨by omega, by unfold jr32; omega, fun q6 => ⟨h2, fun qw => ⟨h, h6, fun y s13 q13 => ⟨fun u => absurd qw u, fun _ => ⟨y, rfl, Or.inl ⟨qw, by rw [q13.1]; exact eW s13 q13.2.1 q13.2.2.2.1⟩, q13.2.1⟩⟩⟩, fun qw => ⟨hd.wc, fun qr => ?_, fun qr => ⟨by omega, ?_, fun qb => ⟨h, h6, fun y s13 q13 => ⟨fun u => ?_, fun u => absurd u qw⟩⟩, fun qb => ?_⟩⟩⟩, fun q => by omega⟩⟩
      · exfalso
        exact b (Or.inr ⟨qw, fun u => qr (by omega)⟩)
      · have := bt_01 a1 a2
        unfold bt at this
        unfold jr32; omega
      · have ok : (0 ≤ a2 ∧ a2 < s 146 3) ∧ bt a1 a2 = 1 := by
          have := bt_01 a1 a2
          refine ⟨by omega, ?_⟩
          unfold bt at this ⊢
          omega
        have nn := sgb_nn a1 (n := a2)
        have lt := dln_w ok.1.1 ok.1.2 ok.2
        obtain ⟨y1, y2, y3, y4, y5⟩ := q13
        refine ⟨y5, ⟨sg a2 (bt a1), by omega, by rw [y4 _ nn (by omega)]; exact lf_h a1 ok.1.1 ok.1.2 ok.2⟩, fun y' s2 q2 => ?_⟩
        obtain ⟨q2, rfl⟩ := q2
        exact ⟨y', rfl, dl_cls h h6 qw ok y2 y3 y4 q2, y2⟩
      · exfalso
        refine b (Or.inr ⟨qw, fun u => ?_⟩)
        have := u.2
        unfold bt at this
        omega
  · refine jop.q (y := -10) hI (by decide) ?_ (g_X11_dealt ⟨h1, fun _ => ⟨rfl, rfl⟩, fun q => ⟨by omega, ?_, fun q2 => ?_, fun _ => ⟨rfl, rfl⟩⟩⟩)
    · refine g_X10_dealt ?_
      rw [e3.1, Int.one_mul]
      exact ⟨by omega, h1, by unfold jr32; omega, fun _ => ⟨rfl, rfl⟩, fun q => absurd (by omega) c⟩
    · have a := Int.ediv_nonneg (show 0 ≤ a1 by omega) (show (0 : Int) ≤ 2 ^ (s 146 3).toNat by omega)
      have b := Int.ediv_le_self (2 ^ (s 146 3).toNat) (show 0 ≤ a1 by omega)
      unfold jr32 at h1 ⊢; omega
    · exact absurd ⟨by omega, (dq a1 (by omega)).1 q2⟩ c
