theorem g_X2_canRead {s : Int → Int → Int} {Q : Option jV → (Int → Int → Int) → Prop} {v1 v2 v3 : Int} (v : ((0 ≤ v1 ∧ v1 < 6) ∧ (0 ≤ v2 ∧ v2 < 30) ∧ (0 ≤ (s 8 v2) ∧ (s 8 v2) ≤ 31) ∧ jr32 (s 121 v1) ∧ jr32 (((s 121 v1) / 2 ^ Int.toNat (s 8 v2)) % 2) ∧ (((((s 121 v1) / 2 ^ Int.toNat (s 8 v2)) % 2) ≠ 1 → ((0 ≤ v1 ∧ v1 ≤ 31) ∧ jr32 v3 ∧ jr32 ((v3 / 2 ^ Int.toNat v1) % 2) ∧ ((((v3 / 2 ^ Int.toNat v1) % 2) ≠ 0 → Q (some (jI 0)) s) ∧ (((v3 / 2 ^ Int.toNat v1) % 2) = 0 → Q (some (jI 1)) s)))) ∧ ((((s 121 v1) / 2 ^ Int.toNat (s 8 v2)) % 2) = 1 → Q (some (jI 0)) s)))) : kR mX2_canRead [jR 120, jI v1, jI v2, jI v3] s Q := by
  show kK mX2_canRead 0 [jR 120, jI v1, jI v2, jI v3, jU] [] s Q
  obtain ⟨a1, a2, a3, a4, a5, v⟩ := v
  refine k_aload_n dX2_canRead_0 rfl ?_
  refine k_getr dX2_canRead_1 fl_X2_9 sh_120 (by decide) rfl ?_
  refine k_iload_n dX2_canRead_4 rfl ?_
  refine k_iald 6 dX2_canRead_5 sh_121 (by decide) rfl (by decide) a1 ?_
  refine k_aload_n dX2_canRead_6 rfl ?_
  refine k_getr dX2_canRead_7 fl_X2_21 sh_120 (by decide) rfl ?_
  refine k_getr dX2_canRead_10 fl_X2_46 sh_2 (by decide) rfl ?_
  refine k_iload_n dX2_canRead_13 rfl ?_
  refine k_iald 30 dX2_canRead_14 sh_8 (by decide) rfl (by decide) a2 ?_
  refine k_shr dX2_canRead_15 a4 a3 ?_
  refine k_iconst dX2_canRead_16 ?_
  refine k_and1 dX2_canRead_17 ?_
  refine k_iconst dX2_canRead_18 ?_
  obtain ⟨vt, vf⟩ := v
  refine k_icmp_ne 26 dX2_canRead_19 rfl a5 (by decide) (fun c6 => ?_) (fun c6 => ?_)
  · have v := vt c6
    obtain ⟨a7, a8, a9, v⟩ := v
    refine k_iconst dX2_canRead_26 ?_
    refine k_istore [jR 120, jI v1, jI v2, jI v3, jI 0] dX2_canRead_27 rfl rfl ?_
    refine k_iload dX2_canRead_29 rfl ?_
    refine k_if_ne 46 dX2_canRead_31 rfl (by decide) (fun c => absurd c (by decide)) (fun _ => ?_)
    refine k_iload_n dX2_canRead_34 rfl ?_
    refine k_iload_n dX2_canRead_35 rfl ?_
    refine k_shr dX2_canRead_36 a8 a7 ?_
    refine k_iconst dX2_canRead_37 ?_
    refine k_and1 dX2_canRead_38 ?_
    obtain ⟨vt, vf⟩ := v
    refine k_if_ne 46 dX2_canRead_39 rfl a9 (fun c10 => ?_) (fun c10 => ?_)
    · have v := vt c10
      refine k_iconst dX2_canRead_46 ?_
      exact k_zreturn (st := []) dX2_canRead_47 rfl (Or.inl rfl) v
    · have v := vf c10
      refine k_iconst dX2_canRead_42 ?_
      refine k_goto 47 dX2_canRead_43 rfl ?_
      exact k_zreturn (st := []) dX2_canRead_47 rfl (Or.inr rfl) v
  · have v := vf c6
    refine k_iconst dX2_canRead_22 ?_
    refine k_goto 27 dX2_canRead_23 rfl ?_
    refine k_istore [jR 120, jI v1, jI v2, jI v3, jI 1] dX2_canRead_27 rfl rfl ?_
    refine k_iload dX2_canRead_29 rfl ?_
    refine k_if_ne 46 dX2_canRead_31 rfl (by decide) (fun _ => ?_) (fun c => absurd c (by decide))
    refine k_iconst dX2_canRead_46 ?_
    exact k_zreturn (st := []) dX2_canRead_47 rfl (Or.inl rfl) v
theorem sp_X2_canRead (s : Int → Int → Int) (r l t : Int) (hr : 0 ≤ r ∧ r < 6) (hl : 0 ≤ l ∧ l < 30) (h8 : 0 ≤ s 8 l ∧ s 8 l ≤ 31) (hk : jr32 (s 121 r)) (ht : jr32 t) : kM mX2_canRead [jR 120, jI r, jI l, jI t] s (some (jI (jbo (bt (s 121 r) (s 8 l) = 0 ∧ bt t r = 0)))) s := by
  have b1 := bt_01 (s 121 r) (s 8 l)
  have b2 := bt_01 t r
  unfold bt at b1 b2
  refine g_X2_canRead ⟨hr, hl, h8, hk, by unfold jr32; omega, fun q => ⟨by omega, ht, by unfold jr32; omega, fun q2 => ⟨by rw [jbo_f (fun c => q2 c.2)], rfl⟩, fun q2 => ⟨by rw [jbo_t ⟨by unfold bt; omega, q2⟩], rfl⟩⟩, fun q => ⟨by rw [jbo_f (fun c => by have := c.1; unfold bt at this; omega)], rfl⟩⟩
theorem g_X2_waysBehind {s : Int → Int → Int} {Q : Option jV → (Int → Int → Int) → Prop} {v1 : Int} (v : ((0 ≤ v1 ∧ v1 < 1073741824) ∧ jr32 (bc v1) ∧ jr32 (s 120 3) ∧ (((bc v1) < (s 120 3) → kK mX2_waysBehind 32 [jR 120, jI v1, jI (bc v1), jI 0, jI 0] [] s Q) ∧ (¬ ((bc v1) < (s 120 3)) → (((bc v1) ≠ (s 120 3) → Q (some (jI 0)) s) ∧ ((bc v1) = (s 120 3) → Q (some (jI 1)) s)))))) : kR mX2_waysBehind [jR 120, jI v1] s Q := by
  show kK mX2_waysBehind 0 [jR 120, jI v1, jU, jU, jU] [] s Q
  obtain ⟨a1, a2, a3, v⟩ := v
  refine k_iload_n dX2_waysBehind_0 rfl ?_
  refine k_invS [jI v1] [] dX2_waysBehind_1 cm_J6_bitCount_0f7a4 ml_X2_37 st_J6_bitCount_0f7a4 rfl rfl (sp_J6_bitCount s v1 a1) ?_
  refine k_istore_n [jR 120, jI v1, jI (bc v1), jU, jU] dX2_waysBehind_4 rfl rfl ?_
  refine k_iload_n dX2_waysBehind_5 rfl ?_
  refine k_aload_n dX2_waysBehind_6 rfl ?_
  refine k_geti 3 dX2_waysBehind_7 fl_X2_25 sh_120 (by decide) rfl rfl ?_
  obtain ⟨vt, vf⟩ := v
  refine k_icmp_lt 27 dX2_waysBehind_10 rfl a2 a3 (fun c4 => ?_) (fun c4 => ?_)
  · have v := vt c4
    refine k_iconst dX2_waysBehind_27 ?_
    refine k_istore_n [jR 120, jI v1, jI (bc v1), jI 0, jU] dX2_waysBehind_28 rfl rfl ?_
    refine k_iconst dX2_waysBehind_29 ?_
    refine k_istore [jR 120, jI v1, jI (bc v1), jI 0, jI 0] dX2_waysBehind_30 rfl rfl ?_
    exact v
  · have v := vf c4
    refine k_iload_n dX2_waysBehind_13 rfl ?_
    refine k_aload_n dX2_waysBehind_14 rfl ?_
    refine k_geti 3 dX2_waysBehind_15 fl_X2_25 sh_120 (by decide) rfl rfl ?_
    obtain ⟨vt, vf⟩ := v
    refine k_icmp_ne 25 dX2_waysBehind_18 rfl a2 a3 (fun c5 => ?_) (fun c5 => ?_)
    · have v := vt c5
      refine k_iconst dX2_waysBehind_25 ?_
      exact k_ireturn (st := []) dX2_waysBehind_26 rfl v
    · have v := vf c5
      refine k_iconst dX2_waysBehind_21 ?_
      refine k_goto 26 dX2_waysBehind_22 rfl ?_
      exact k_ireturn (st := []) dX2_waysBehind_26 rfl v
theorem g_X2_waysBehind_32 {s : Int → Int → Int} {Q : Option jV → (Int → Int → Int) → Prop} {v1 v2 v3 v4 : Int} (v : (jr32 v4 ∧ ((6 ≤ v4 → Q (some (jI v3)) s) ∧ (¬ (6 ≤ v4) → ((0 ≤ v2 ∧ v2 < 6) ∧ (0 ≤ v4 ∧ v4 < 6) ∧ (0 ≤ (s 122 v2) ∧ (s 122 v2) < 30) ∧ (0 ≤ s 8 (s 122 v2) ∧ s 8 (s 122 v2) ≤ 31) ∧ jr32 (s 121 v4) ∧ jr32 v1 ∧ ((¬ (bt (s 121 v4) (s 8 (s 122 v2)) = 0 ∧ bt v1 v4 = 0) → kK mX2_waysBehind 32 [jR 120, jI v1, jI v2, jI v3, jI (v4 + 1)] [] s Q) ∧ (bt (s 121 v4) (s 8 (s 122 v2)) = 0 ∧ bt v1 v4 = 0 → ((0 ≤ v4 ∧ v4 ≤ 31) ∧ (0 ≤ v1) ∧ (0 ≤ ((1 : Int) * 2 ^ Int.toNat v4)) ∧ (0 ≤ (jor v1 ((1 : Int) * 2 ^ Int.toNat v4)) ∧ (jor v1 ((1 : Int) * 2 ^ Int.toNat v4)) < 64) ∧ kK mX2_waysBehind 32 [jR 120, jI v1, jI v2, jI (v3 + (s 123 (jor v1 ((1 : Int) * 2 ^ Int.toNat v4)))), jI (v4 + 1)] [] s Q)))))))) : kK mX2_waysBehind 32 [jR 120, jI v1, jI v2, jI v3, jI v4] [] s Q := by
  obtain ⟨a1, v⟩ := v
  refine k_iload dX2_waysBehind_32 rfl ?_
  refine k_bipush dX2_waysBehind_34 rfl ?_
  obtain ⟨vt, vf⟩ := v
  refine k_icmp_ge 75 dX2_waysBehind_36 rfl a1 (by decide) (fun c2 => ?_) (fun c2 => ?_)
  · have v := vt c2
    refine k_iload_n dX2_waysBehind_75 rfl ?_
    exact k_ireturn (st := []) dX2_waysBehind_76 rfl v
  · have v := vf c2
    obtain ⟨a3, a4, a5, a6, a7, a8, v⟩ := v
    refine k_aload_n dX2_waysBehind_39 rfl ?_
    refine k_iload dX2_waysBehind_40 rfl ?_
    refine k_aload_n dX2_waysBehind_42 rfl ?_
    refine k_getr dX2_waysBehind_43 fl_X2_15 sh_120 (by decide) rfl ?_
    refine k_iload_n dX2_waysBehind_46 rfl ?_
    refine k_iald 6 dX2_waysBehind_47 sh_122 (by decide) rfl (by decide) a3 ?_
    refine k_iload_n dX2_waysBehind_48 rfl ?_
    refine k_invV [jI v4, jI (s 122 v2), jI v1] [] dX2_waysBehind_49 cm_X2_canRead ml_X2_42 im_X2_canRead se_X2_canRead rfl sh_120 (by decide) rfl rfl (sp_X2_canRead s v4 (s 122 v2) v1 a4 a5 a6 a7 a8) ?_
    obtain ⟨vt, vf⟩ := v
    refine k_ifb_eq 69 dX2_waysBehind_52 rfl (fun c9 => ?_) (fun c9 => ?_)
    · have v := vt c9
      refine k_iinc [jR 120, jI v1, jI v2, jI v3, jI (v4 + 1)] dX2_waysBehind_69 rfl rfl rfl ?_
      refine k_goto 32 dX2_waysBehind_72 rfl ?_
      exact v
    · have v := vf c9
      obtain ⟨a10, a11, a12, a13, v⟩ := v
      refine k_iload_n dX2_waysBehind_55 rfl ?_
      refine k_aload_n dX2_waysBehind_56 rfl ?_
      refine k_getr dX2_waysBehind_57 fl_X2_18 sh_120 (by decide) rfl ?_
      refine k_iload_n dX2_waysBehind_60 rfl ?_
      refine k_iconst dX2_waysBehind_61 ?_
      refine k_iload dX2_waysBehind_62 rfl ?_
      refine k_shl dX2_waysBehind_64 a10 ?_
      refine k_or dX2_waysBehind_65 a11 a12 ?_
      refine k_iald 64 dX2_waysBehind_66 sh_123 (by decide) rfl (by decide) a13 ?_
      refine k_iadd dX2_waysBehind_67 ?_
      refine k_istore_n [jR 120, jI v1, jI v2, jI (v3 + (s 123 (jor v1 ((1 : Int) * 2 ^ Int.toNat v4)))), jI v4] dX2_waysBehind_68 rfl rfl ?_
      refine k_iinc [jR 120, jI v1, jI v2, jI (v3 + (s 123 (jor v1 ((1 : Int) * 2 ^ Int.toNat v4)))), jI (v4 + 1)] dX2_waysBehind_69 rfl rfl rfl ?_
      refine k_goto 32 dX2_waysBehind_72 rfl ?_
      exact v
theorem g_X2_firstReader {s : Int → Int → Int} {Q : Option jV → (Int → Int → Int) → Prop} {v1 v2 : Int} (v : kK mX2_firstReader 2 [jR 120, jI v1, jI v2, jI 0] [] s Q) : kR mX2_firstReader [jR 120, jI v1, jI v2] s Q := by
  show kK mX2_firstReader 0 [jR 120, jI v1, jI v2, jU] [] s Q
  refine k_iconst dX2_firstReader_0 ?_
  refine k_istore_n [jR 120, jI v1, jI v2, jI 0] dX2_firstReader_1 rfl rfl ?_
  exact v
theorem g_X2_firstReader_2 {s : Int → Int → Int} {Q : Option jV → (Int → Int → Int) → Prop} {v1 v2 v3 : Int} (v : (jr32 v3 ∧ ((6 ≤ v3 → Q (some (jI (-1))) s) ∧ (¬ (6 ≤ v3) → ((0 ≤ v3 ∧ v3 < 6) ∧ (0 ≤ v1 ∧ v1 < 30) ∧ (0 ≤ s 8 v1 ∧ s 8 v1 ≤ 31) ∧ jr32 (s 121 v3) ∧ jr32 v2 ∧ ((¬ (bt (s 121 v3) (s 8 v1) = 0 ∧ bt v2 v3 = 0) → kK mX2_firstReader 2 [jR 120, jI v1, jI v2, jI (v3 + 1)] [] s Q) ∧ (bt (s 121 v3) (s 8 v1) = 0 ∧ bt v2 v3 = 0 → ((0 ≤ v3 ∧ v3 ≤ 31) ∧ (0 ≤ v2) ∧ (0 ≤ ((1 : Int) * 2 ^ Int.toNat v3)) ∧ (0 ≤ (jor v2 ((1 : Int) * 2 ^ Int.toNat v3)) ∧ (jor v2 ((1 : Int) * 2 ^ Int.toNat v3)) < 64) ∧ jr32 (s 123 (jor v2 ((1 : Int) * 2 ^ Int.toNat v3))) ∧ (((s 123 (jor v2 ((1 : Int) * 2 ^ Int.toNat v3))) ≤ 0 → kK mX2_firstReader 2 [jR 120, jI v1, jI v2, jI (v3 + 1)] [] s Q) ∧ (¬ ((s 123 (jor v2 ((1 : Int) * 2 ^ Int.toNat v3))) ≤ 0) → Q (some (jI v3)) s)))))))))) : kK mX2_firstReader 2 [jR 120, jI v1, jI v2, jI v3] [] s Q := by
  obtain ⟨a1, v⟩ := v
  refine k_iload_n dX2_firstReader_2 rfl ?_
  refine k_bipush dX2_firstReader_3 rfl ?_
  obtain ⟨vt, vf⟩ := v
  refine k_icmp_ge 39 dX2_firstReader_5 rfl a1 (by decide) (fun c2 => ?_) (fun c2 => ?_)
  · have v := vt c2
    refine k_iconst dX2_firstReader_39 ?_
    exact k_ireturn (st := []) dX2_firstReader_40 rfl v
  · have v := vf c2
    obtain ⟨a3, a4, a5, a6, a7, v⟩ := v
    refine k_aload_n dX2_firstReader_8 rfl ?_
    refine k_iload_n dX2_firstReader_9 rfl ?_
    refine k_iload_n dX2_firstReader_10 rfl ?_
    refine k_iload_n dX2_firstReader_11 rfl ?_
    refine k_invV [jI v3, jI v1, jI v2] [] dX2_firstReader_12 cm_X2_canRead ml_X2_42 im_X2_canRead se_X2_canRead rfl sh_120 (by decide) rfl rfl (sp_X2_canRead s v3 v1 v2 a3 a4 a5 a6 a7) ?_
    obtain ⟨vt, vf⟩ := v
    refine k_ifb_eq 33 dX2_firstReader_15 rfl (fun c8 => ?_) (fun c8 => ?_)
    · have v := vt c8
      refine k_iinc [jR 120, jI v1, jI v2, jI (v3 + 1)] dX2_firstReader_33 rfl rfl rfl ?_
      refine k_goto 2 dX2_firstReader_36 rfl ?_
      exact v
    · have v := vf c8
      obtain ⟨a9, a10, a11, a12, a13, v⟩ := v
      refine k_aload_n dX2_firstReader_18 rfl ?_
      refine k_getr dX2_firstReader_19 fl_X2_18 sh_120 (by decide) rfl ?_
      refine k_iload_n dX2_firstReader_22 rfl ?_
      refine k_iconst dX2_firstReader_23 ?_
      refine k_iload_n dX2_firstReader_24 rfl ?_
      refine k_shl dX2_firstReader_25 a9 ?_
      refine k_or dX2_firstReader_26 a10 a11 ?_
      refine k_iald 64 dX2_firstReader_27 sh_123 (by decide) rfl (by decide) a12 ?_
      obtain ⟨vt, vf⟩ := v
      refine k_if_le 33 dX2_firstReader_28 rfl a13 (fun c14 => ?_) (fun c14 => ?_)
      · have v := vt c14
        refine k_iinc [jR 120, jI v1, jI v2, jI (v3 + 1)] dX2_firstReader_33 rfl rfl rfl ?_
        refine k_goto 2 dX2_firstReader_36 rfl ?_
        exact v
      · have v := vf c14
        refine k_iload_n dX2_firstReader_31 rfl ?_
        exact k_ireturn (st := []) dX2_firstReader_32 rfl v
def WBp (s : Int → Int → Int) : Prop := (0 ≤ s 120 3 ∧ s 120 3 ≤ 6) ∧ (∀ i, 0 ≤ i → i < s 120 3 → (0 ≤ s 122 i ∧ s 122 i < 30) ∧ 0 ≤ s 8 (s 122 i) ∧ s 8 (s 122 i) ≤ 31) ∧ ∀ r, 0 ≤ r → r < 6 → jr32 (s 121 r)
def hs (s : Int → Int → Int) (r i : Int) : Int := bt (s 121 r) (s 8 (s 122 i))
def wbt (s : Int → Int → Int) (t r : Int) : Int := if hs s r (bc t) = 0 ∧ bt t r = 0 then s 123 (t + 2 ^ r.toNat) else 0
def wbv (s : Int → Int → Int) (t : Int) : Int := if bc t < s 120 3 then sg 6 (wbt s t) else jbo (bc t = s 120 3)
theorem sp_X2_waysBehind (s : Int → Int → Int) (t : Int) (ht : 0 ≤ t ∧ t < 64) (hp : WBp s) : kM mX2_waysBehind [jR 120, jI t] s (some (jI (wbv s t))) s := by
  obtain ⟨p1, p2, p3⟩ := hp
  have b6 := bc_6 ht
  refine g_X2_waysBehind ⟨by omega, by unfold jr32; omega, by unfold jr32; omega, fun q => ?_, fun q => ⟨fun q2 => ⟨by unfold wbv; rw [if_neg q, jbo_f q2], rfl⟩, fun q2 => ⟨by unfold wbv; rw [if_neg q, jbo_t q2], rfl⟩⟩⟩
  have ev : wbv s t = sg 6 (wbt s t) := if_pos q
  obtain ⟨l1, l2⟩ := p2 (bc t) b6.1 q
  rw [ev]
  have key : ∀ r, r ≤ 6 → 0 ≤ r → kK mX2_waysBehind 32 [jR 120, jI t, jI (bc t), jI (sg r (wbt s t)), jI r] [] s (fun o s' => o = some (jI (sg 6 (wbt s t))) ∧ s' = s) := by
    refine lp_up 6 _ (fun r hr ih r0 => ?_)
    refine g_X2_waysBehind_32 ⟨by unfold jr32; omega, fun q2 => ⟨by rw [show r = 6 by omega], rfl⟩, fun q2 => ⟨by omega, by omega, l1, l2, p3 r r0 (by omega), by unfold jr32; omega, fun c => ?_, fun c => ?_⟩⟩
    · have := ih (by omega) (by omega)
      rw [sg_s r0, show wbt s t r = 0 from if_neg c, Int.add_zero] at this
      exact this
    · have b := bt_on (a := t) (by omega) (k := r) (by omega) c.2
      have b2 := bc_on ht (r := r) (by omega) c.2
      have b3 := p2_pos r
      rw [Int.one_mul, b.1]
      have := ih (by omega) (by omega)
      rw [sg_s r0, show wbt s t r = s 123 (t + 2 ^ r.toNat) from if_pos c] at this
      exact ⟨by omega, ht.1, by omega, by omega, this⟩
  exact key 0 (by omega) (by omega)
def frR (s : Int → Int → Int) (l t r : Int) : Prop := (bt (s 121 r) (s 8 l) = 0 ∧ bt t r = 0) ∧ 0 < s 123 (t + 2 ^ r.toNat)
theorem sp_X2_firstReader (s : Int → Int → Int) (l t : Int) (hl : (0 ≤ l ∧ l < 30) ∧ 0 ≤ s 8 l ∧ s 8 l ≤ 31) (ht : 0 ≤ t ∧ t < 64) (hk : ∀ r, 0 ≤ r → r < 6 → jr32 (s 121 r)) (hw : ∀ u, 0 ≤ u → u < 64 → jr32 (s 123 u)) : kR mX2_firstReader [jR 120, jI l, jI t] s (fun o s' => ∃ y, o = some (jI y) ∧ fstk 6 (frR s l t) y ∧ s' = s) := by
  refine g_X2_firstReader ?_
  have key : ∀ r, r ≤ 6 → 0 ≤ r → (∀ k, 0 ≤ k → k < r → ¬ frR s l t k) → kK mX2_firstReader 2 [jR 120, jI l, jI t, jI r] [] s (fun o s' => ∃ y, o = some (jI y) ∧ fstk 6 (frR s l t) y ∧ s' = s) := by
    refine lp_up 6 _ (fun r hr ih r0 hn => ?_)
    have nx : ¬ frR s l t r → ∀ k, 0 ≤ k → k < r + 1 → ¬ frR s l t k := fun p k k0 k1 => by
      by_cases e : k = r
      · rw [e]; exact p
      · exact hn k k0 (by omega)
    refine g_X2_firstReader_2 ⟨by unfold jr32; omega, fun q => ⟨-1, rfl, Or.inl ⟨rfl, fun k k0 k1 => hn k k0 (by omega)⟩, rfl⟩, fun q => ⟨by omega, hl.1, hl.2, hk r r0 (by omega), by unfold jr32; omega, fun c => ih (by omega) (by omega) (nx (fun p => c p.1)), fun c => ?_⟩⟩
    have b := bt_on (a := t) (by omega) (k := r) (by omega) c.2
    have b2 := bc_on ht (r := r) (by omega) c.2
    have b3 := p2_pos r
    rw [Int.one_mul, b.1]
    exact ⟨by omega, ht.1, by omega, by omega, hw _ (by omega) (by omega), fun q2 => ih (by omega) (by omega) (nx (fun p => by have := p.2; omega)), fun q2 => ⟨r, rfl, Or.inr ⟨r0, by omega, ⟨c, by omega⟩, hn⟩, rfl⟩⟩
  exact key 0 (by omega) (by omega) (fun k k0 k1 => by omega)
theorem g_X2_waysOf {s : Int → Int → Int} {Q : Option jV → (Int → Int → Int) → Prop} {v1 : Int} (v : kK mX2_waysOf 7 [jR 120, jI v1, jI 0] [] (w2 s 120 3 0) Q) : kR mX2_waysOf [jR 120, jI v1] s Q := by
  show kK mX2_waysOf 0 [jR 120, jI v1, jU] [] s Q
  refine k_aload_n dX2_waysOf_0 rfl ?_
  refine k_iconst dX2_waysOf_1 ?_
  refine k_put 3 dX2_waysOf_2 ct_X2 (by decide) fw_X2_25 rfl rfl sh_120 (by decide) rfl rfl ?_
  refine k_iconst dX2_waysOf_5 ?_
  refine k_istore_n [jR 120, jI v1, jI 0] dX2_waysOf_6 rfl rfl ?_
  exact v
theorem g_X2_waysOf_7 {s : Int → Int → Int} {Q : Option jV → (Int → Int → Int) → Prop} {v1 v2 : Int} (v : (jr32 v2 ∧ jr32 (s 2 13) ∧ (((s 2 13) ≤ v2 → kK mX2_waysOf 65 [jR 120, jU, jI 63] [] s Q) ∧ (¬ ((s 2 13) ≤ v2) → ((0 ≤ v2 ∧ v2 ≤ 31) ∧ jr32 v1 ∧ jr32 ((v1 / 2 ^ Int.toNat v2) % 2) ∧ ((((v1 / 2 ^ Int.toNat v2) % 2) ≠ 1 → kK mX2_waysOf 7 [jR 120, jI v1, jI (v2 + 1)] [] s Q) ∧ (((v1 / 2 ^ Int.toNat v2) % 2) = 1 → (jr32 (s 120 3) ∧ ((6 ≤ (s 120 3) → kK mX2_waysOf 7 [jR 120, jI v1, jI (v2 + 1)] [] s Q) ∧ (¬ (6 ≤ (s 120 3)) → ((0 ≤ (s 120 3) ∧ (s 120 3) < 6) ∧ kK mX2_waysOf 7 [jR 120, jI v1, jI (v2 + 1)] [] (w2 (w2 s 122 (s 120 3) v2) 120 3 ((s 120 3) + 1)) Q))))))))))) : kK mX2_waysOf 7 [jR 120, jI v1, jI v2] [] s Q := by
  obtain ⟨a1, a2, v⟩ := v
  refine k_iload_n dX2_waysOf_7 rfl ?_
  refine k_aload_n dX2_waysOf_8 rfl ?_
  refine k_getr dX2_waysOf_9 fl_X2_21 sh_120 (by decide) rfl ?_
  refine k_geti 13 dX2_waysOf_12 fl_X2_29 sh_2 (by decide) rfl rfl ?_
  obtain ⟨vt, vf⟩ := v
  refine k_icmp_ge 62 dX2_waysOf_15 rfl a1 a2 (fun c3 => ?_) (fun c3 => ?_)
  · have v := vt c3
    refine k_bipush dX2_waysOf_62 rfl ?_
    refine k_istore_n [jR 120, jI v1, jI 63] dX2_waysOf_64 rfl rfl ?_
    refine k_drop [jR 120, jU, jI 63] ⟨Or.inr rfl, Or.inl rfl, Or.inr rfl, trivial⟩ ?_
    exact v
  · have v := vf c3
    obtain ⟨a4, a5, a6, v⟩ := v
    refine k_iload_n dX2_waysOf_18 rfl ?_
    refine k_iload_n dX2_waysOf_19 rfl ?_
    refine k_shr dX2_waysOf_20 a5 a4 ?_
    refine k_iconst dX2_waysOf_21 ?_
    refine k_and1 dX2_waysOf_22 ?_
    refine k_iconst dX2_waysOf_23 ?_
    obtain ⟨vt, vf⟩ := v
    refine k_icmp_ne 56 dX2_waysOf_24 rfl a6 (by decide) (fun c7 => ?_) (fun c7 => ?_)
    · have v := vt c7
      refine k_iinc [jR 120, jI v1, jI (v2 + 1)] dX2_waysOf_56 rfl rfl rfl ?_
      refine k_goto 7 dX2_waysOf_59 rfl ?_
      exact v
    · have v := vf c7
      obtain ⟨a8, v⟩ := v
      refine k_aload_n dX2_waysOf_27 rfl ?_
      refine k_geti 3 dX2_waysOf_28 fl_X2_25 sh_120 (by decide) rfl rfl ?_
      refine k_bipush dX2_waysOf_31 rfl ?_
      obtain ⟨vt, vf⟩ := v
      refine k_icmp_ge 56 dX2_waysOf_33 rfl a8 (by decide) (fun c9 => ?_) (fun c9 => ?_)
      · have v := vt c9
        refine k_iinc [jR 120, jI v1, jI (v2 + 1)] dX2_waysOf_56 rfl rfl rfl ?_
        refine k_goto 7 dX2_waysOf_59 rfl ?_
        exact v
      · have v := vf c9
        obtain ⟨a10, v⟩ := v
        refine k_aload_n dX2_waysOf_36 rfl ?_
        refine k_getr dX2_waysOf_37 fl_X2_15 sh_120 (by decide) rfl ?_
        refine k_aload_n dX2_waysOf_40 rfl ?_
        refine k_geti 3 dX2_waysOf_41 fl_X2_25 sh_120 (by decide) rfl rfl ?_
        refine k_iload_n dX2_waysOf_44 rfl ?_
        refine k_iast 6 dX2_waysOf_45 sh_122 (by decide) rfl (by decide) a10 ?_
        refine k_aload_n dX2_waysOf_46 rfl ?_
        refine k_dup dX2_waysOf_47 rfl ?_
        refine k_geti 3 dX2_waysOf_48 fl_X2_25 sh_120 (by decide) rfl rfl ?_
        rw [show ((w2 s 122 (s 120 3) v2) 120 3) = (s 120 3) from by rw [w2_k (by omega)]]
        refine k_iconst dX2_waysOf_51 ?_
        refine k_iadd dX2_waysOf_52 ?_
        refine k_put 3 dX2_waysOf_53 ct_X2 (by decide) fw_X2_25 rfl rfl sh_120 (by decide) rfl rfl ?_
        refine k_iinc [jR 120, jI v1, jI (v2 + 1)] dX2_waysOf_56 rfl rfl rfl ?_
        refine k_goto 7 dX2_waysOf_59 rfl ?_
        exact v
theorem g_X2_waysOf_65 {s : Int → Int → Int} {Q : Option jV → (Int → Int → Int) → Prop} {v2 : Int} (v : (jr32 v2 ∧ ((v2 < 0 → Q (some (jI (s 123 0))) s) ∧ (¬ (v2 < 0) → ((0 ≤ v2 ∧ v2 < 64) ∧ (WBp s) ∧ kK mX2_waysOf 65 [jR 120, jU, jI (v2 + (-1))] [] (w2 s 123 v2 (wbv s v2)) Q))))) : kK mX2_waysOf 65 [jR 120, jU, jI v2] [] s Q := by
  obtain ⟨a1, v⟩ := v
  refine k_iload_n dX2_waysOf_65 rfl ?_
  obtain ⟨vt, vf⟩ := v
  refine k_if_lt 86 dX2_waysOf_66 rfl a1 (fun c2 => ?_) (fun c2 => ?_)
  · have v := vt c2
    refine k_aload_n dX2_waysOf_86 rfl ?_
    refine k_getr dX2_waysOf_87 fl_X2_18 sh_120 (by decide) rfl ?_
    refine k_iconst dX2_waysOf_90 ?_
    refine k_iald 64 dX2_waysOf_91 sh_123 (by decide) rfl (by decide) (by decide) ?_
    exact k_ireturn (st := []) dX2_waysOf_92 rfl v
  · have v := vf c2
    obtain ⟨a3, a4, v⟩ := v
    refine k_aload_n dX2_waysOf_69 rfl ?_
    refine k_getr dX2_waysOf_70 fl_X2_18 sh_120 (by decide) rfl ?_
    refine k_iload_n dX2_waysOf_73 rfl ?_
    refine k_aload_n dX2_waysOf_74 rfl ?_
    refine k_iload_n dX2_waysOf_75 rfl ?_
    refine k_invV [jI v2] [jI v2, jR 123] dX2_waysOf_76 cm_X2_waysBehind ml_X2_33 im_X2_waysBehind se_X2_waysBehind rfl sh_120 (by decide) rfl rfl (sp_X2_waysBehind s v2 a3 a4) ?_
    refine k_iast 64 dX2_waysOf_79 sh_123 (by decide) rfl (by decide) a3 ?_
    refine k_iinc [jR 120, jU, jI (v2 + (-1))] dX2_waysOf_80 rfl rfl rfl ?_
    refine k_goto 65 dX2_waysOf_83 rfl ?_
    exact v
def wfP (k : Int) : Prop := k = 120 ∨ k = 122 ∨ k = 123
def TW (s : Int → Int → Int) : Prop := WBp s ∧ ∀ t, 0 ≤ t → t < 64 → (bc t ≤ s 120 3 → s 123 t = wd (hs s) (s 120 3) (s 120 3 - bc t).toNat t) ∧ 0 ≤ s 123 t ∧ s 123 t ≤ 46656
theorem sp_X2_waysOf (s : Int → Int → Int) (L : Int) (h : dlT s L) (h6 : dln s L ≤ 6) : kR mX2_waysOf [jR 120, jI L] s (fun o s' => ∃ y, o = some (jI y) ∧ y = wd (hs s') (dln s L) (dln s L).toNat 0 ∧ frm wfP s s' ∧ s' 120 3 = dln s L ∧ (∀ i, 0 ≤ i → i < dln s L → s' 122 i = lf L (s 146 3) i) ∧ TW s') := by
  obtain ⟨d, hi, hL⟩ := id h
  obtain ⟨e0, e1, e2, e3⟩ := d.cnt
  have lr := h.r
  have n0 : 0 ≤ dln s L := sgb_nn L
  refine g_X2_waysOf ?_
  have k65 : ∀ s1, frm wfP s s1 → s1 120 3 = dln s L → (∀ i, 0 ≤ i → i < dln s L → s1 122 i = lf L (s 146 3) i) → kK mX2_waysOf 65 [jR 120, jU, jI 63] [] s1 (fun o s' => ∃ y, o = some (jI y) ∧ y = wd (hs s') (dln s L) (dln s L).toNat 0 ∧ frm wfP s s' ∧ s' 120 3 = dln s L ∧ (∀ i, 0 ≤ i → i < dln s L → s' 122 i = lf L (s 146 3) i) ∧ TW s') := fun s1 f1 w1 l1 => by
    have wp : WBp s1 := by
      refine ⟨by rw [w1]; omega, fun i i0 i1 => ?_, fun r r0 r1 => ?_⟩
      · rw [w1] at i1
        have lb := h.l i0 i1
        obtain ⟨x1, -⟩ := d.let lb.1 lb.2
        rw [l1 i i0 i1, f1 8 (by unfold wfP; omega)]
        omega
      · rw [f1 121 (by unfold wfP; omega), hi.1 r r0 r1]
        have := hi.2 r r0 r1
        unfold jr32; omega
    have key : ∀ t, -1 ≤ t → t ≤ 63 → ∀ s2, frm (fun k => k = 123) s1 s2 → (∀ u, t < u → u < 64 → (bc u ≤ dln s L → s2 123 u = wd (hs s1) (dln s L) (dln s L - bc u).toNat u) ∧ 0 ≤ s2 123 u ∧ s2 123 u ≤ 46656) → kK mX2_waysOf 65 [jR 120, jU, jI t] [] s2 (fun o s' => ∃ y, o = some (jI y) ∧ y = wd (hs s') (dln s L) (dln s L).toNat 0 ∧ frm wfP s s' ∧ s' 120 3 = dln s L ∧ (∀ i, 0 ≤ i → i < dln s L → s' 122 i = lf L (s 146 3) i) ∧ TW s') := by
      refine lp_dn (-1) _ (fun t ht ih t63 s2 f2 tb => ?_)
      have c120 : s2 120 = s1 120 := f2 120 (by omega)
      have c122 : s2 122 = s1 122 := f2 122 (by omega)
      have c121 : s2 121 = s1 121 := f2 121 (by omega)
      have c8 : s2 8 = s1 8 := f2 8 (by omega)
      have eh : hs s2 = hs s1 := by funext r i; unfold hs; rw [c121, c8, c122]
      have wp2 : WBp s2 := by unfold WBp; rw [c120, c121, c122, c8]; exact wp
      refine g_X2_waysOf_65 ⟨by unfold jr32; omega, fun q => ?_, fun q => ⟨by omega, wp2, ?_⟩⟩
      · have tb' := tb 0 (by omega) (by omega)
        rw [bc_0, Int.sub_zero] at tb'
        refine ⟨_, rfl, by rw [eh]; exact tb'.1 n0, fun k hk => by rw [f2 k (fun c => hk (by unfold wfP; omega)), f1 k hk], by rw [c120]; exact w1, fun i i0 i1 => by rw [c122]; exact l1 i i0 i1, wp2, fun u u0 u1 => ?_⟩
        rw [c120, w1, eh]
        exact tb u (by omega) u1
      · rw [show t + -1 = t - 1 by omega]
        have b6 := bc_6 (t := t) (by omega)
        have val : (bc t ≤ dln s L → wbv s2 t = wd (hs s1) (dln s L) (dln s L - bc t).toNat t) ∧ 0 ≤ wbv s2 t ∧ wbv s2 t ≤ 46656 := by
          unfold wbv
          rw [c120, w1]
          by_cases c1 : bc t < dln s L
          · rw [if_pos c1]
            have en : (dln s L - bc t).toNat = (dln s L - bc t - 1).toNat + 1 := by omega
            have ew : sg 6 (wbt s2 t) = wd (hs s1) (dln s L) (dln s L - bc t).toNat t := by
              rw [en]
              show _ = sg 6 (wt (hs s1) (dln s L) (wd (hs s1) (dln s L) (dln s L - bc t - 1).toNat) (dln s L - bc t - 1).toNat t)
              refine sg_c (fun r r0 r1 => ?_)
              unfold wbt wt
              rw [eh, show dln s L - 1 - (((dln s L - bc t - 1).toNat : Nat) : Int) = bc t by omega]
              by_cases c2 : hs s1 r (bc t) = 0 ∧ bt t r = 0
              · rw [if_pos c2, if_pos c2]
                have b2 := bc_on (t := t) (by omega) (r := r) (by omega) c2.2
                have b3 := p2_pos r
                have := (tb (t + 2 ^ r.toNat) (by omega) (by omega)).1 (by omega)
                rw [this, b2.2, show dln s L - (bc t + 1) = dln s L - bc t - 1 by omega]
              · rw [if_neg c2, if_neg c2]
            have := wd_6 (h := hs s1) (n := dln s L) (k := (dln s L - bc t).toNat) (by omega) t
            rw [ew]
            exact ⟨fun _ => rfl, this⟩
          · rw [if_neg c1]
            by_cases c2 : bc t = dln s L
            · rw [jbo_t c2, c2, show (dln s L - dln s L).toNat = 0 by omega]
              exact ⟨fun _ => rfl, by omega, by omega⟩
            · rw [jbo_f c2]
              exact ⟨fun c => by omega, by omega, by omega⟩
        refine ih (by omega) (by omega) _ (f2.s2 rfl) (fun u u0 u1 => ?_)
        rw [w2_e]
        by_cases c : u = t
        · rw [if_pos c, c]; exact val
        · rw [if_neg c]; exact tb u (by omega) u1
    exact key 63 (by omega) (by omega) s1 frm.rf (fun u u0 u1 => by omega)
  have k7 : ∀ l, l ≤ s 146 3 → 0 ≤ l → ∀ s1, frm wfP s s1 → s1 120 3 = sg l (bt L) → (∀ i, 0 ≤ i → i < sg l (bt L) → s1 122 i = lf L l i) → kK mX2_waysOf 7 [jR 120, jI L, jI l] [] s1 (fun o s' => ∃ y, o = some (jI y) ∧ y = wd (hs s') (dln s L) (dln s L).toNat 0 ∧ frm wfP s s' ∧ s' 120 3 = dln s L ∧ (∀ i, 0 ≤ i → i < dln s L → s' 122 i = lf L (s 146 3) i) ∧ TW s') := by
    refine lp_up _ _ (fun l hl ih l0 s1 f1 w1 l1 => ?_)
    have c2 : s1 2 = s 2 := f1 2 (by unfold wfP; omega)
    refine g_X2_waysOf_7 ?_
    rw [c2, e3.1, w1, show L / 2 ^ l.toNat % 2 = bt L l from rfl]
    have b01 := bt_01 L l
    have nn := sgb_nn L (n := l)
    have nx := sgb_s L l0
    refine ⟨by unfold jr32; omega, by unfold jr32; omega, fun q => ?_, fun q => ?_⟩
    · have el : l = s 146 3 := by omega
      rw [el] at w1 l1
      exact k65 s1 f1 w1 l1
    · have le := sgb_le L (n := l + 1) (by omega) (s 146 3 - (l + 1)) (by omega)
      rw [show l + 1 + (s 146 3 - (l + 1)) = s 146 3 by omega] at le
      have le2 : sg (l + 1) (bt L) ≤ 6 := Int.le_trans le h6
      refine ⟨by omega, by unfold jr32; omega, by unfold jr32; omega, fun c => ?_, fun c => ⟨by unfold jr32; omega, fun q2 => by omega, fun q2 => ⟨by omega, ?_⟩⟩⟩
      · refine ih (by omega) (by omega) s1 f1 (by rw [w1]; omega) (fun i i0 i1 => ?_)
        rw [lf_s L l0, if_neg (fun p => c p.1)]
        exact l1 i i0 (by omega)
      · refine ih (by omega) (by omega) _ ((f1.s2 (by unfold wfP; omega)).s2 (by unfold wfP; omega)) (by rw [w2_s]; omega) (fun i i0 i1 => ?_)
        rw [w2_k (by omega), w2_e, lf_s L l0]
        by_cases e : i = sg l (bt L)
        · rw [if_pos e, if_pos ⟨c, e⟩]
        · rw [if_neg e, if_neg (fun p => e p.2)]
          exact l1 i i0 (by omega)
  exact k7 0 e3.2.1 (by omega) _ (frm.wr (by unfold wfP; omega)) (by rw [w2_s, sg_0]) (fun i i0 i1 => by rw [sg_0] at i1; omega)
theorem g_X2_readerInFirst {s : Int → Int → Int} {Q : Option jV → (Int → Int → Int) → Prop} {v1 : Int} (v : kK mX2_readerInFirst 4 [jR 120, jI v1, jI 0, jI 0, jU] [] s Q) : kR mX2_readerInFirst [jR 120, jI v1] s Q := by
  show kK mX2_readerInFirst 0 [jR 120, jI v1, jU, jU, jU] [] s Q
  refine k_iconst dX2_readerInFirst_0 ?_
  refine k_istore_n [jR 120, jI v1, jI 0, jU, jU] dX2_readerInFirst_1 rfl rfl ?_
  refine k_iconst dX2_readerInFirst_2 ?_
  refine k_istore_n [jR 120, jI v1, jI 0, jI 0, jU] dX2_readerInFirst_3 rfl rfl ?_
  exact v
theorem g_X2_readerInFirst_4 {s : Int → Int → Int} {Q : Option jV → (Int → Int → Int) → Prop} {v1 v2 v3 : Int} (v : (jr32 v3 ∧ jr32 (s 120 3) ∧ (((s 120 3) ≤ v3 → Q (some (jI (-1))) s) ∧ (¬ ((s 120 3) ≤ v3) → ((0 ≤ v3 ∧ v3 < 6) ∧ ((0 ≤ (s 122 v3) ∧ (s 122 v3) < 30) ∧ 0 ≤ s 8 (s 122 v3) ∧ s 8 (s 122 v3) ≤ 31) ∧ (0 ≤ v2 ∧ v2 < 64) ∧ (∀ r, 0 ≤ r → r < 6 → jr32 (s 121 r)) ∧ (∀ u, 0 ≤ u → u < 64 → jr32 (s 123 u)) ∧ (∀ (y9 : Int) (s10 : Int → Int → Int), (fstk 6 (frR s (s 122 v3) v2) y9 ∧ s10 = s) → (jr32 y9 ∧ ((y9 = (-1) → Q (some (jI y9)) s10) ∧ (¬ (y9 = (-1)) → (jr32 (s10 122 v3) ∧ jr32 v1 ∧ (((s10 122 v3) ≠ v1 → ((0 ≤ y9 ∧ y9 ≤ 31) ∧ (0 ≤ v2) ∧ (0 ≤ ((1 : Int) * 2 ^ Int.toNat y9)) ∧ kK mX2_readerInFirst 4 [jR 120, jI v1, jI (jor v2 ((1 : Int) * 2 ^ Int.toNat y9)), jI (v3 + 1), jU] [] s10 Q)) ∧ ((s10 122 v3) = v1 → Q (some (jI y9)) s10)))))))))))) : kK mX2_readerInFirst 4 [jR 120, jI v1, jI v2, jI v3, jU] [] s Q := by
  obtain ⟨a1, a2, v⟩ := v
  refine k_iload_n dX2_readerInFirst_4 rfl ?_
  refine k_aload_n dX2_readerInFirst_5 rfl ?_
  refine k_geti 3 dX2_readerInFirst_6 fl_X2_25 sh_120 (by decide) rfl rfl ?_
  obtain ⟨vt, vf⟩ := v
  refine k_icmp_ge 57 dX2_readerInFirst_9 rfl a1 a2 (fun c3 => ?_) (fun c3 => ?_)
  · have v := vt c3
    refine k_iconst dX2_readerInFirst_57 ?_
    exact k_ireturn (st := []) dX2_readerInFirst_58 rfl v
  · have v := vf c3
    obtain ⟨a4, a5, a6, a7, a8, v⟩ := v
    refine k_aload_n dX2_readerInFirst_12 rfl ?_
    refine k_aload_n dX2_readerInFirst_13 rfl ?_
    refine k_getr dX2_readerInFirst_14 fl_X2_15 sh_120 (by decide) rfl ?_
    refine k_iload_n dX2_readerInFirst_17 rfl ?_
    refine k_iald 6 dX2_readerInFirst_18 sh_122 (by decide) rfl (by decide) a4 ?_
    refine k_iload_n dX2_readerInFirst_19 rfl ?_
    refine k_invVR [jI (s 122 v3), jI v2] [] dX2_readerInFirst_20 cm_X2_firstReader ml_X2_49 im_X2_firstReader se_X2_firstReader rfl sh_120 (by decide) rfl rfl (sp_X2_firstReader s (s 122 v3) v2 a5 a6 a7 a8) (fun _ s10 q11 => ?_)
    obtain ⟨y9, rfl, q11⟩ := q11
    have v := v y9 s10 q11
    obtain ⟨a12, v⟩ := v
    refine k_istore [jR 120, jI v1, jI v2, jI v3, jI y9] dX2_readerInFirst_23 rfl rfl ?_
    refine k_iload dX2_readerInFirst_25 rfl ?_
    refine k_iconst dX2_readerInFirst_27 ?_
    obtain ⟨vt, vf⟩ := v
    refine k_icmp_eq 41 dX2_readerInFirst_28 rfl a12 (by decide) (fun c13 => ?_) (fun c13 => ?_)
    · have v := vt c13
      refine k_iload dX2_readerInFirst_41 rfl ?_
      exact k_ireturn (st := []) dX2_readerInFirst_43 rfl v
    · have v := vf c13
      obtain ⟨a14, a15, v⟩ := v
      refine k_aload_n dX2_readerInFirst_31 rfl ?_
      refine k_getr dX2_readerInFirst_32 fl_X2_15 sh_120 (by decide) rfl ?_
      refine k_iload_n dX2_readerInFirst_35 rfl ?_
      refine k_iald 6 dX2_readerInFirst_36 sh_122 (by decide) rfl (by decide) a4 ?_
      refine k_iload_n dX2_readerInFirst_37 rfl ?_
      obtain ⟨vt, vf⟩ := v
      refine k_icmp_ne 44 dX2_readerInFirst_38 rfl a14 a15 (fun c16 => ?_) (fun c16 => ?_)
      · have v := vt c16
        obtain ⟨a17, a18, a19, v⟩ := v
        refine k_iload_n dX2_readerInFirst_44 rfl ?_
        refine k_iconst dX2_readerInFirst_45 ?_
        refine k_iload dX2_readerInFirst_46 rfl ?_
        refine k_shl dX2_readerInFirst_48 a17 ?_
        refine k_or dX2_readerInFirst_49 a18 a19 ?_
        refine k_istore_n [jR 120, jI v1, jI (jor v2 ((1 : Int) * 2 ^ Int.toNat y9)), jI v3, jI y9] dX2_readerInFirst_50 rfl rfl ?_
        refine k_iinc [jR 120, jI v1, jI (jor v2 ((1 : Int) * 2 ^ Int.toNat y9)), jI (v3 + 1), jI y9] dX2_readerInFirst_51 rfl rfl rfl ?_
        refine k_goto 4 dX2_readerInFirst_54 rfl ?_
        refine k_drop [jR 120, jI v1, jI (jor v2 ((1 : Int) * 2 ^ Int.toNat y9)), jI (v3 + 1), jU] ⟨Or.inr rfl, Or.inr rfl, Or.inr rfl, Or.inr rfl, Or.inl rfl, trivial⟩ ?_
        exact v
      · have v := vf c16
        refine k_iload dX2_readerInFirst_41 rfl ?_
        exact k_ireturn (st := []) dX2_readerInFirst_43 rfl v
def RIR (s : Int → Int → Int) (w y : Int) : Prop := (wd (hs s) (s 120 3) (s 120 3).toNat 0 = 0 ∧ y = -1) ∨ (0 < wd (hs s) (s 120 3) (s 120 3).toNat 0 ∧ ∃ Y i, (0 ≤ i ∧ i < s 120 3) ∧ s 122 i = w ∧ (∀ j, 0 ≤ j → j < i → s 122 j ≠ w) ∧ FDD (hs s) (s 120 3) (i + 1) Y ∧ y = Y i)
theorem sg_p0 {n : Int} {f : Int → Int} (hn : 0 ≤ n) (h : ∀ i, 0 ≤ i → i < n → ¬ 0 < f i) (g : ∀ i, 0 ≤ i → i < n → 0 ≤ f i) : sg n f = 0 := sg_zero (fun i i0 i1 => by have := h i i0 i1; have := g i i0 i1; omega)
theorem sp_X2_readerInFirst (s : Int → Int → Int) (w : Int) (h : TW s) (hw : jr32 w) (he : ∃ i, (0 ≤ i ∧ i < s 120 3) ∧ s 122 i = w) : kR mX2_readerInFirst [jR 120, jI w] s (fun o s' => ∃ y, o = some (jI y) ∧ RIR s w y ∧ s' = s) := by
  obtain ⟨⟨p1, p2, p3⟩, tb⟩ := h
  obtain ⟨i0, hi0, hw0⟩ := he
  refine g_X2_readerInFirst ?_
  have key : ∀ i, i ≤ s 120 3 → 0 ≤ i → ∀ Y : Int → Int, FDD (hs s) (s 120 3) i Y → (0 ≤ tk Y i ∧ tk Y i < 64) → bc (tk Y i) = i → (∀ j, 0 ≤ j → j < i → s 122 j ≠ w) → (i = 0 ∨ (0 < wd (hs s) (s 120 3) (s 120 3).toNat 0 ∧ 0 < wd (hs s) (s 120 3) (s 120 3 - i).toNat (tk Y i))) → kK mX2_readerInFirst 4 [jR 120, jI w, jI (tk Y i), jI i, jU] [] s (fun o s' => ∃ y, o = some (jI y) ∧ RIR s w y ∧ s' = s) := by
    refine lp_up _ _ (fun i hi ih ii Y fd ht hb hn hp => ?_)
    refine g_X2_readerInFirst_4 ⟨by unfold jr32; omega, by unfold jr32; omega, fun q => ?_, fun q => ?_⟩
    · exact absurd hw0 (hn i0 hi0.1 (by omega))
    · obtain ⟨l1, l2⟩ := p2 i ii (by omega)
      refine ⟨by omega, ⟨l1, l2⟩, ht, p3, fun u u0 u1 => by have := (tb u u0 u1).2; unfold jr32; omega, fun y s2 qy => ?_⟩
      obtain ⟨qy, rfl⟩ := qy
      -- the greedy choice
      have en : (s2 120 3 - i).toNat = (s2 120 3 - 1 - i).toNat + 1 := by omega
      have fy : fstk 6 (fun r => 0 < wt (hs s2) (s2 120 3) (wd (hs s2) (s2 120 3) (s2 120 3 - 1 - i).toNat) (s2 120 3 - 1 - i).toNat (tk Y i) r) y := by
        refine qy.cg2 (fun r r0 r1 => ?_)
        unfold frR wt
        rw [show s2 120 3 - 1 - (((s2 120 3 - 1 - i).toNat : Nat) : Int) = i by omega]
        constructor
        · intro c
          rw [if_pos (show hs s2 r i = 0 ∧ bt (tk Y i) r = 0 from c.1)]
          have b2 := bc_on ht (r := r) (by omega) c.1.2
          have b3 := p2_pos r
          have := (tb (tk Y i + 2 ^ r.toNat) (by omega) (by omega)).1 (by omega)
          rw [b2.2, hb, show s2 120 3 - (i + 1) = s2 120 3 - 1 - i by omega] at this
          rw [← this]; exact c.2
        · intro c
          by_cases d : hs s2 r i = 0 ∧ bt (tk Y i) r = 0
          · rw [if_pos d] at c
            have b2 := bc_on ht (r := r) (by omega) d.2
            have b3 := p2_pos r
            have := (tb (tk Y i + 2 ^ r.toNat) (by omega) (by omega)).1 (by omega)
            rw [b2.2, hb, show s2 120 3 - (i + 1) = s2 120 3 - 1 - i by omega] at this
            rw [← this] at c
            exact ⟨d, c⟩
          · rw [if_neg d] at c; omega
      have wsum : wd (hs s2) (s2 120 3) (s2 120 3 - i).toNat (tk Y i) = sg 6 (wt (hs s2) (s2 120 3) (wd (hs s2) (s2 120 3) (s2 120 3 - 1 - i).toNat) (s2 120 3 - 1 - i).toNat (tk Y i)) := by rw [en]; rfl
      have yr := fy.rng (by omega)
      refine ⟨yr, fun q2 => ⟨y, rfl, Or.inl ⟨?_, q2⟩, rfl⟩, fun q2 => ?_⟩
      · have none : ∀ r, 0 ≤ r → r < 6 → ¬ 0 < wt (hs s2) (s2 120 3) (wd (hs s2) (s2 120 3) (s2 120 3 - 1 - i).toNat) (s2 120 3 - 1 - i).toNat (tk Y i) r := by
          rcases fy with ⟨-, f2⟩ | ⟨f1, -⟩
          · exact f2
          · omega
        have z := wsum.trans (sg_p0 (by omega) none (fun r _ _ => wt_nn _ _ _))
        rcases hp with hp | ⟨-, hp⟩
        · subst hp
          rw [Int.sub_zero] at z
          exact z
        · omega
      · have yy : 0 ≤ y ∧ y < 6 ∧ 0 < wt (hs s2) (s2 120 3) (wd (hs s2) (s2 120 3) (s2 120 3 - 1 - i).toNat) (s2 120 3 - 1 - i).toNat (tk Y i) y := by
          rcases fy with ⟨f1, -⟩ | ⟨f1, f2, f3, -⟩
          · exact absurd f1 q2
          · exact ⟨f1, f2, f3⟩
        have wpos : 0 < wd (hs s2) (s2 120 3) (s2 120 3 - i).toNat (tk Y i) := by
          rw [wsum]
          have := sg_ge (n := 6) (k := y) (f := wt (hs s2) (s2 120 3) (wd (hs s2) (s2 120 3) (s2 120 3 - 1 - i).toNat) (s2 120 3 - 1 - i).toNat (tk Y i)) (fun r _ _ => wt_nn _ _ _) yy.1 yy.2.1
          omega
        have wall : 0 < wd (hs s2) (s2 120 3) (s2 120 3).toNat 0 := by
          rcases hp with hp | ⟨hp, -⟩
          · subst hp
            rw [Int.sub_zero] at wpos
            exact wpos
          · exact hp
        have cond : hs s2 y i = 0 ∧ bt (tk Y i) y = 0 := by
          have c := yy.2.2
          unfold wt at c
          rw [show s2 120 3 - 1 - (((s2 120 3 - 1 - i).toNat : Nat) : Int) = i by omega] at c
          by_cases d : hs s2 y i = 0 ∧ bt (tk Y i) y = 0
          · exact d
          · rw [if_neg d] at c; omega
        have wnx : 0 < wd (hs s2) (s2 120 3) (s2 120 3 - 1 - i).toNat (tk Y i + 2 ^ y.toNat) := by
          have c := yy.2.2
          unfold wt at c
          rw [show s2 120 3 - 1 - (((s2 120 3 - 1 - i).toNat : Nat) : Int) = i by omega, if_pos cond] at c
          exact c
        have b := bt_on (a := tk Y i) (by omega) (k := y) (by omega) cond.2
        have b2 := bc_on ht (r := y) (by omega) cond.2
        have b3 := p2_pos y
        -- the row, one longer
        have eZ : ∀ j, 0 ≤ j → j < i → (fun j => if j = i then y else Y j) j = Y j := fun j _ j1 => if_neg (by omega)
        have tZ : tk (fun j => if j = i then y else Y j) i = tk Y i := tk_c eZ
        have Zi : (fun j => if j = i then y else Y j) i = y := if_pos rfl
        have tZ1 : tk (fun j => if j = i then y else Y j) (i + 1) = tk Y i + 2 ^ y.toNat := by rw [tk_s _ ii, tZ, if_pos rfl]
        have fdZ : FDD (hs s2) (s2 120 3) (i + 1) (fun j => if j = i then y else Y j) := fun j j0 j1 => by
          by_cases c : j = i
          · rw [c, tZ, Zi]
            exact ⟨fy, yy.1⟩
          · rw [eZ j j0 (by omega), tk_c (i := j) (fun m m0 m1 => eZ m m0 (by omega))]
            exact fd j j0 (by omega)
        refine ⟨by unfold jr32; omega, hw, fun q3 => ⟨by omega, ht.1, by omega, ?_⟩, fun q3 => ⟨y, rfl, Or.inr ⟨wall, _, i, ⟨ii, by omega⟩, q3, hn, fdZ, Zi.symm⟩, rfl⟩⟩
        have nx := ih (by omega) (by omega) _ fdZ (by rw [tZ1]; omega) (by rw [tZ1, b2.2, hb]) (fun j j0 j1 => ?_) (Or.inr ⟨wall, by rw [tZ1, show s2 120 3 - (i + 1) = s2 120 3 - 1 - i by omega]; exact wnx⟩)
        · rw [tZ1] at nx
          rw [Int.one_mul, b.1]
          exact nx
        · by_cases c : j = i
          · rw [c]; exact q3
          · exact hn j j0 (by omega)
  exact key 0 p1.1 (by omega) (fun _ => 0) (fun i i0 i1 => by omega) (by show 0 ≤ (0 : Int) ∧ (0 : Int) < 64; omega) bc_0 (fun j j0 j1 => by omega) (Or.inl rfl)
theorem g_X10_dealt {s : Int → Int → Int} {Q : Option jV → (Int → Int → Int) → Prop} {v1 v2 : Int} (v : ((0 ≤ (s 2 13) ∧ (s 2 13) ≤ 31) ∧ jr32 v1 ∧ jr32 (((1 : Int) * 2 ^ Int.toNat (s 2 13)) - 1) ∧ ((¬ (1 ≤ v1 ∧ v1 ≤ (((1 : Int) * 2 ^ Int.toNat (s 2 13)) - 1)) → Q (some (jI (-10))) s) ∧ (1 ≤ v1 ∧ v1 ≤ (((1 : Int) * 2 ^ Int.toNat (s 2 13)) - 1) → ((0 ≤ v1 ∧ v1 < 1073741824) ∧ jr32 (bc v1) ∧ (((bc v1) ≤ 6 → (jr32 v2 ∧ ((v2 = (-1) → ((dlT s v1) ∧ (dln s v1 ≤ 6) ∧ (∀ (y12 : Int) (s13 : Int → Int → Int), (y12 = wd (hs s13) (dln s v1) (dln s v1).toNat 0 ∧ frm wfP s s13 ∧ s13 120 3 = dln s v1 ∧ (∀ i, 0 ≤ i → i < dln s v1 → s13 122 i = lf v1 (s 146 3) i) ∧ TW s13) → ((v2 ≠ (-1) → ((TW s13) ∧ (∃ i, (0 ≤ i ∧ i < s13 120 3) ∧ s13 122 i = v2) ∧ (∀ (y18 : Int) (s19 : Int → Int → Int), (RIR s13 v2 y18 ∧ s19 = s13) → Q (some (jI y18)) s19))) ∧ (v2 = (-1) → Q (some (jI y12)) s13))))) ∧ (¬ (v2 = (-1)) → ((WC s) ∧ ((¬ (0 ≤ v2 ∧ v2 ≤ s 2 13 - 1) → Q (some (jI (-10))) s) ∧ (0 ≤ v2 ∧ v2 ≤ s 2 13 - 1 → ((0 ≤ v2 ∧ v2 ≤ 31) ∧ jr32 ((v1 / 2 ^ Int.toNat v2) % 2) ∧ ((((v1 / 2 ^ Int.toNat v2) % 2) ≠ 0 → ((dlT s v1) ∧ (dln s v1 ≤ 6) ∧ (∀ (y28 : Int) (s29 : Int → Int → Int), (y28 = wd (hs s29) (dln s v1) (dln s v1).toNat 0 ∧ frm wfP s s29 ∧ s29 120 3 = dln s v1 ∧ (∀ i, 0 ≤ i → i < dln s v1 → s29 122 i = lf v1 (s 146 3) i) ∧ TW s29) → ((v2 ≠ (-1) → ((TW s29) ∧ (∃ i, (0 ≤ i ∧ i < s29 120 3) ∧ s29 122 i = v2) ∧ (∀ (y34 : Int) (s35 : Int → Int → Int), (RIR s29 v2 y34 ∧ s35 = s29) → Q (some (jI y34)) s35))) ∧ (v2 = (-1) → Q (some (jI y28)) s29))))) ∧ (((v1 / 2 ^ Int.toNat v2) % 2) = 0 → Q (some (jI (-10))) s)))))))))) ∧ (¬ ((bc v1) ≤ 6) → Q (some (jI (-10))) s))))))) : kR mX10_dealt [jR 1, jI v1, jI v2] s Q := by
  show kK mX10_dealt 0 [jR 1, jI v1, jI v2, jU] [] s Q
  obtain ⟨a1, a2, a3, v⟩ := v
  refine k_iload_n dX10_dealt_0 rfl ?_
  refine k_iconst dX10_dealt_1 ?_
  refine k_iconst dX10_dealt_2 ?_
  refine k_aload_n dX10_dealt_3 rfl ?_
  refine k_getr dX10_dealt_4 fl_X10_10 sh_1 (by decide) rfl ?_
  refine k_geti 13 dX10_dealt_7 fl_X10_256 sh_2 (by decide) rfl rfl ?_
  refine k_shl dX10_dealt_10 a1 ?_
  refine k_iconst dX10_dealt_11 ?_
  refine k_isub dX10_dealt_12 ?_
  refine k_invS [jI v1, jI 1, jI (((1 : Int) * 2 ^ Int.toNat (s 2 13)) - 1)] [] dX10_dealt_13 cm_X10_within ml_X10_92 st_X10_within rfl rfl (sp_X10_within s v1 1 (((1 : Int) * 2 ^ Int.toNat (s 2 13)) - 1) a2 (by decide) a3) ?_
  obtain ⟨vt, vf⟩ := v
  refine k_ifb_eq 28 dX10_dealt_16 rfl (fun c4 => ?_) (fun c4 => ?_)
  · have v := vt c4
    refine k_bipush dX10_dealt_28 rfl ?_
    exact k_ireturn (st := []) dX10_dealt_30 rfl v
  · have v := vf c4
    obtain ⟨a5, a6, v⟩ := v
    refine k_iload_n dX10_dealt_19 rfl ?_
    refine k_invS [jI v1] [] dX10_dealt_20 cm_J6_bitCount_0f7a4 ml_X10_259 st_J6_bitCount_0f7a4 rfl rfl (sp_J6_bitCount s v1 a5) ?_
    refine k_bipush dX10_dealt_23 rfl ?_
    obtain ⟨vt, vf⟩ := v
    refine k_icmp_le 31 dX10_dealt_25 rfl a6 (by decide) (fun c7 => ?_) (fun c7 => ?_)
    · have v := vt c7
      obtain ⟨a8, v⟩ := v
      refine k_iload_n dX10_dealt_31 rfl ?_
      refine k_iconst dX10_dealt_32 ?_
      obtain ⟨vt, vf⟩ := v
      refine k_icmp_eq 55 dX10_dealt_33 rfl a8 (by decide) (fun c9 => ?_) (fun c9 => ?_)
      · have v := vt c9
        obtain ⟨a10, a11, v⟩ := v
        refine k_aload_n dX10_dealt_55 rfl ?_
        refine k_getr dX10_dealt_56 fl_X10_68 sh_1 (by decide) rfl ?_
        refine k_iload_n dX10_dealt_59 rfl ?_
        refine k_invVR [jI v1] [] dX10_dealt_60 cm_X2_waysOf ml_X10_264 im_X2_waysOf se_X2_waysOf rfl sh_120 (by decide) rfl rfl (sp_X2_waysOf s v1 a10 a11) (fun _ s13 q14 => ?_)
        obtain ⟨y12, rfl, q14⟩ := q14
        have v := v y12 s13 q14
        refine k_istore_n [jR 1, jI v1, jI v2, jI y12] dX10_dealt_63 rfl rfl ?_
        refine k_iload_n dX10_dealt_64 rfl ?_
        refine k_iconst dX10_dealt_65 ?_
        obtain ⟨vt, vf⟩ := v
        refine k_icmp_ne 73 dX10_dealt_66 rfl a8 (by decide) (fun c15 => ?_) (fun c15 => ?_)
        · have v := vt c15
          obtain ⟨a16, a17, v⟩ := v
          refine k_aload_n dX10_dealt_73 rfl ?_
          refine k_getr dX10_dealt_74 fl_X10_68 sh_1 (by decide) rfl ?_
          refine k_iload_n dX10_dealt_77 rfl ?_
          refine k_invVR [jI v2] [] dX10_dealt_78 cm_X2_readerInFirst ml_X10_267 im_X2_readerInFirst se_X2_readerInFirst rfl sh_120 (by decide) rfl rfl (sp_X2_readerInFirst s13 v2 a16 a8 a17) (fun _ s19 q20 => ?_)
          obtain ⟨y18, rfl, q20⟩ := q20
          have v := v y18 s19 q20
          exact k_ireturn (st := []) dX10_dealt_81 rfl v
        · have v := vf c15
          refine k_iload_n dX10_dealt_69 rfl ?_
          refine k_goto 81 dX10_dealt_70 rfl ?_
          exact k_ireturn (st := []) dX10_dealt_81 rfl v
      · have v := vf c9
        obtain ⟨a21, v⟩ := v
        refine k_aload_n dX10_dealt_36 rfl ?_
        refine k_iload_n dX10_dealt_37 rfl ?_
        refine k_invV [jI v2] [] dX10_dealt_38 cm_X10_isLetter ml_X10_123 im_X10_isLetter se_X10_isLetter rfl sh_1 (by decide) rfl rfl (sp_X10_isLetter s v2 a8 a21) ?_
        obtain ⟨vt, vf⟩ := v
        refine k_ifb_eq 52 dX10_dealt_41 rfl (fun c22 => ?_) (fun c22 => ?_)
        · have v := vt c22
          refine k_bipush dX10_dealt_52 rfl ?_
          exact k_ireturn (st := []) dX10_dealt_54 rfl v
        · have v := vf c22
          obtain ⟨a23, a24, v⟩ := v
          refine k_iload_n dX10_dealt_44 rfl ?_
          refine k_iload_n dX10_dealt_45 rfl ?_
          refine k_shr dX10_dealt_46 a2 a23 ?_
          refine k_iconst dX10_dealt_47 ?_
          refine k_and1 dX10_dealt_48 ?_
          obtain ⟨vt, vf⟩ := v
          refine k_if_ne 55 dX10_dealt_49 rfl a24 (fun c25 => ?_) (fun c25 => ?_)
          · have v := vt c25
            obtain ⟨a26, a27, v⟩ := v
            refine k_aload_n dX10_dealt_55 rfl ?_
            refine k_getr dX10_dealt_56 fl_X10_68 sh_1 (by decide) rfl ?_
            refine k_iload_n dX10_dealt_59 rfl ?_
            refine k_invVR [jI v1] [] dX10_dealt_60 cm_X2_waysOf ml_X10_264 im_X2_waysOf se_X2_waysOf rfl sh_120 (by decide) rfl rfl (sp_X2_waysOf s v1 a26 a27) (fun _ s29 q30 => ?_)
            obtain ⟨y28, rfl, q30⟩ := q30
            have v := v y28 s29 q30
            refine k_istore_n [jR 1, jI v1, jI v2, jI y28] dX10_dealt_63 rfl rfl ?_
            refine k_iload_n dX10_dealt_64 rfl ?_
            refine k_iconst dX10_dealt_65 ?_
            obtain ⟨vt, vf⟩ := v
            refine k_icmp_ne 73 dX10_dealt_66 rfl a8 (by decide) (fun c31 => ?_) (fun c31 => ?_)
            · have v := vt c31
              obtain ⟨a32, a33, v⟩ := v
              refine k_aload_n dX10_dealt_73 rfl ?_
              refine k_getr dX10_dealt_74 fl_X10_68 sh_1 (by decide) rfl ?_
              refine k_iload_n dX10_dealt_77 rfl ?_
              refine k_invVR [jI v2] [] dX10_dealt_78 cm_X2_readerInFirst ml_X10_267 im_X2_readerInFirst se_X2_readerInFirst rfl sh_120 (by decide) rfl rfl (sp_X2_readerInFirst s29 v2 a32 a8 a33) (fun _ s35 q36 => ?_)
              obtain ⟨y34, rfl, q36⟩ := q36
              have v := v y34 s35 q36
              exact k_ireturn (st := []) dX10_dealt_81 rfl v
            · have v := vf c31
              refine k_iload_n dX10_dealt_69 rfl ?_
              refine k_goto 81 dX10_dealt_70 rfl ?_
              exact k_ireturn (st := []) dX10_dealt_81 rfl v
          · have v := vf c25
            refine k_bipush dX10_dealt_52 rfl ?_
            exact k_ireturn (st := []) dX10_dealt_54 rfl v
    · have v := vf c7
      refine k_bipush dX10_dealt_28 rfl ?_
      exact k_ireturn (st := []) dX10_dealt_30 rfl v
