/-! a fold over pairs; what a hand says -/

def fpN (F : Int → Int × Int → Int × Int) (p : Int × Int) : Nat → Int × Int
  | 0 => p
  | k + 1 => F (k : Int) (fpN F p k)
def fp (n : Int) (F : Int → Int × Int → Int × Int) (p : Int × Int) : Int × Int := fpN F p n.toNat
theorem fp_0 (F : Int → Int × Int → Int × Int) (p : Int × Int) : fp 0 F p = p := rfl
theorem fp_s {n : Int} (h : 0 ≤ n) (F : Int → Int × Int → Int × Int) (p : Int × Int) : fp (n + 1) F p = F n (fp n F p) := by
  unfold fp
  rw [show (n + 1).toNat = n.toNat + 1 by omega, fpN, show ((n.toNat : Nat) : Int) = n by omega]
theorem fp_ok {I : Int × Int → Prop} {F : Int → Int × Int → Int × Int} {m : Int} (h : ∀ i p, 0 ≤ i → i < m → I p → I (F i p)) {p : Int × Int} (hp : I p) : ∀ n, 0 ≤ n → n ≤ m → I (fp n F p) := by
  refine in_up _ (fun _ => by rw [fp_0]; exact hp) (fun n hn ih hm => ?_)
  rw [fp_s hn]
  exact h n _ hn (by omega) (ih (by omega))
def sy (mu : Int → Int → Int) (md : Int → Int) (w a b : Int) (p : Int × Int) : Int × Int := if (mu w a * md b - mu w b * md a) * p.2 ≤ p.1 * (md a * md b) then p else (mu w a * md b - mu w b * md a, md a * md b)
def syA (mu : Int → Int → Int) (md : Int → Int) (w a : Int) (p : Int × Int) : Int × Int := fp 4 (sy mu md w a) p
def syW (mu : Int → Int → Int) (md : Int → Int) (w : Int) (p : Int × Int) : Int × Int := fp 4 (syA mu md w) p
def syI (p : Int × Int) : Prop := (0 ≤ p.1 ∧ p.1 ≤ 61504) ∧ 1 ≤ p.2 ∧ p.2 ≤ 61504
def syR (mu : Int → Int → Int) (md : Int → Int) (n : Int) : Prop := (∀ w a, 0 ≤ w → w < n → 0 ≤ a → a < 4 → 1 ≤ mu w a ∧ mu w a ≤ 248) ∧ ∀ a, 0 ≤ a → a < 4 → 1 ≤ md a ∧ md a ≤ 248
theorem pr248 {x y : Int} (hx : 1 ≤ x ∧ x ≤ 248) (hy : 1 ≤ y ∧ y ≤ 248) : 1 ≤ x * y ∧ x * y ≤ 61504 := by
  have a := Int.mul_le_mul_of_nonneg_right hx.1 (show 0 ≤ y by omega)
  have b := Int.mul_le_mul_of_nonneg_right hx.2 (show 0 ≤ y by omega)
  omega
theorem sy_b {u d v o : Int} (hp : syI (u, d)) (hv : -61504 ≤ v ∧ v ≤ 61504) (ho : 1 ≤ o ∧ o ≤ 61504) : jr64 (v * d) ∧ jr64 (u * o) ∧ (¬ v * d ≤ u * o → 1 ≤ v) := by
  obtain ⟨⟨h1, h2⟩, h3, h4⟩ := hp
  dsimp only at h1 h2 h3 h4
  have a := Int.mul_le_mul_of_nonneg_right hv.1 (show 0 ≤ d by omega)
  have b := Int.mul_le_mul_of_nonneg_right hv.2 (show 0 ≤ d by omega)
  have c := Int.mul_nonneg h1 (show 0 ≤ o by omega)
  have e := Int.mul_le_mul_of_nonneg_right h2 (show 0 ≤ o by omega)
  refine ⟨by unfold jr64; omega, by unfold jr64; omega, fun q => ?_⟩
  by_cases x : 1 ≤ v
  · exact x
  · have := Int.mul_le_mul_of_nonneg_right (show v ≤ 0 by omega) (show 0 ≤ d by omega)
    omega
theorem sy_r {mu : Int → Int → Int} {md : Int → Int} {n w a b : Int} (h : syR mu md n) (hw : 0 ≤ w ∧ w < n) (ha : 0 ≤ a ∧ a < 4) (hb : 0 ≤ b ∧ b < 4) : (-61504 ≤ mu w a * md b - mu w b * md a ∧ mu w a * md b - mu w b * md a ≤ 61504) ∧ 1 ≤ md a * md b ∧ md a * md b ≤ 61504 := by
  have p1 := pr248 (h.1 w a hw.1 hw.2 ha.1 ha.2) (h.2 b hb.1 hb.2)
  have p2 := pr248 (h.1 w b hw.1 hw.2 hb.1 hb.2) (h.2 a ha.1 ha.2)
  have p3 := pr248 (h.2 a ha.1 ha.2) (h.2 b hb.1 hb.2)
  omega
theorem sy_ok {mu : Int → Int → Int} {md : Int → Int} {n w a b : Int} (h : syR mu md n) (hw : 0 ≤ w ∧ w < n) (ha : 0 ≤ a ∧ a < 4) (hb : 0 ≤ b ∧ b < 4) {p : Int × Int} (hp : syI p) : syI (sy mu md w a b p) := by
  obtain ⟨r1, r2⟩ := sy_r h hw ha hb
  unfold sy
  by_cases c : (mu w a * md b - mu w b * md a) * p.2 ≤ p.1 * (md a * md b)
  · rw [if_pos c]; exact hp
  · rw [if_neg c]
    have := (sy_b (u := p.1) (d := p.2) hp r1 r2).2.2 c
    exact ⟨⟨by show 0 ≤ mu w a * md b - mu w b * md a; omega, r1.2⟩, r2⟩
theorem syA_ok {mu : Int → Int → Int} {md : Int → Int} {n w a : Int} (h : syR mu md n) (hw : 0 ≤ w ∧ w < n) (ha : 0 ≤ a ∧ a < 4) {p : Int × Int} (hp : syI p) : syI (syA mu md w a p) := fp_ok (m := 4) (fun i p i0 i1 hp => sy_ok h hw ha ⟨i0, i1⟩ hp) hp 4 (by omega) (by omega)
theorem syW_ok {mu : Int → Int → Int} {md : Int → Int} {n w : Int} (h : syR mu md n) (hw : 0 ≤ w ∧ w < n) {p : Int × Int} (hp : syI p) : syI (syW mu md w p) := fp_ok (m := 4) (fun i p i0 i1 hp => syA_ok h hw ⟨i0, i1⟩ hp) hp 4 (by omega) (by omega)
/-- what a hand says, by its meanings -/
def syP (mu : Int → Int → Int) (md : Int → Int) (n : Int) : Int × Int := fp n (syW mu md) (0, 1)
theorem syP_ok {mu : Int → Int → Int} {md : Int → Int} {n : Int} (h : syR mu md n) (hn : 0 ≤ n) : syI (syP mu md n) := fp_ok (m := n) (fun i p i0 i1 hp => syW_ok h ⟨i0, i1⟩ hp) (by unfold syI; decide) n hn (Int.le_refl n)
def smu (s : Int → Int → Int) (h w a : Int) : Int := 1 + ucm s h w a (-1)
def smd (s : Int → Int → Int) (h a : Int) : Int := s 146 0 + ucm s h (-1) a (-1)
theorem syR_of {s : Int → Int → Int} (d : DD s) (h : Int) (hz : s 146 0 ≠ 0) : syR (smu s h) (smd s h) (s 146 0) := by
  obtain ⟨e0, -⟩ := d.cnt
  refine ⟨fun w a _ _ _ _ => ?_, fun a _ _ => ?_⟩
  · have := ucm_b d h w a (-1); unfold smu; omega
  · have := ucm_b d h (-1) a (-1); unfold smd; omega
theorem g_X10_says {s : Int → Int → Int} {Q : Option jV → (Int → Int → Int) → Prop} {v1 : Int} (v : (jr32 v1 ∧ (WC s) ∧ ((0 ≤ v1 ∧ v1 ≤ s 2 11 - 1 → (jr32 (s 2 10) ∧ (((s 2 10) ≠ 0 → ((DD s) ∧ (∀ (s8 : Int → Int → Int), (frm tlP s s8 ∧ TL s (-1) s8) → kK mX10_says 40 [jR 1, jI v1, jL 0, jU, jL 1, jU, jI 0, jU, jU, jU, jU, jU, jU, jU, jU] [] s8 Q))) ∧ ((s 2 10) = 0 → Q (some (jI (-3))) s)))) ∧ (¬ (0 ≤ v1 ∧ v1 ≤ s 2 11 - 1) → Q (some (jI (-2))) s)))) : kR mX10_says [jR 1, jI v1] s Q := by
  show kK mX10_says 0 [jR 1, jI v1, jU, jU, jU, jU, jU, jU, jU, jU, jU, jU, jU, jU, jU] [] s Q
  obtain ⟨a1, a2, v⟩ := v
  refine k_aload_n dX10_says_0 rfl ?_
  refine k_iload_n dX10_says_1 rfl ?_
  refine k_invV [jI v1] [] dX10_says_2 cm_X10_isHand ml_X10_100 im_X10_isHand se_X10_isHand rfl sh_1 (by decide) rfl rfl (sp_X10_isHand s v1 a1 a2) ?_
  obtain ⟨vt, vf⟩ := v
  refine k_ifb_ne 11 dX10_says_5 rfl (fun c3 => ?_) (fun c3 => ?_)
  · have v := vt c3
    obtain ⟨a4, v⟩ := v
    refine k_aload_n dX10_says_11 rfl ?_
    refine k_getr dX10_says_12 fl_X10_10 sh_1 (by decide) rfl ?_
    refine k_geti 10 dX10_says_15 fl_X10_176 sh_2 (by decide) rfl rfl ?_
    obtain ⟨vt, vf⟩ := v
    refine k_if_ne 24 dX10_says_18 rfl a4 (fun c5 => ?_) (fun c5 => ?_)
    · have v := vt c5
      obtain ⟨a6, v⟩ := v
      refine k_aload_n dX10_says_24 rfl ?_
      refine k_getr dX10_says_25 fl_X10_21 sh_1 (by decide) rfl ?_
      refine k_iconst dX10_says_28 ?_
      refine k_invVR [jI (-1)] [] dX10_says_29 cm_X8_takeAllBut ml_X10_135 im_X8_takeAllBut se_X8_takeAllBut rfl sh_43 (by decide) rfl rfl (sp_X8_takeAllBut s (-1) a6 (by decide)) (fun _ s8 q9 => ?_)
      obtain ⟨rfl, q9⟩ := q9
      have v := v s8 q9
      refine k_lconst 0 dX10_says_32 rfl ?_
      refine k_lstore_n [jR 1, jI v1, jL 0, jU, jU, jU, jU, jU, jU, jU, jU, jU, jU, jU, jU] dX10_says_33 rfl rfl ?_
      refine k_lconst 1 dX10_says_34 rfl ?_
      refine k_lstore [jR 1, jI v1, jL 0, jU, jL 1, jU, jU, jU, jU, jU, jU, jU, jU, jU, jU] dX10_says_35 rfl rfl ?_
      refine k_iconst dX10_says_37 ?_
      refine k_istore [jR 1, jI v1, jL 0, jU, jL 1, jU, jI 0, jU, jU, jU, jU, jU, jU, jU, jU] dX10_says_38 rfl rfl ?_
      exact v
    · have v := vf c5
      refine k_bipush dX10_says_21 rfl ?_
      exact k_ireturn (st := []) dX10_says_23 rfl v
  · have v := vf c3
    refine k_bipush dX10_says_8 rfl ?_
    exact k_ireturn (st := []) dX10_says_10 rfl v
theorem g_X10_says_40 {s : Int → Int → Int} {Q : Option jV → (Int → Int → Int) → Prop} {v1 v2 v4 v6 : Int} (v : (jr32 v6 ∧ jr32 (s 2 10) ∧ (((s 2 10) ≤ v6 → ((0 ≤ v2 ∧ v2 ≤ 9223372036854775807) ∧ (0 < v4 ∧ v4 ≤ 9223372036854775807) ∧ (∀ (s7 : Int → Int → Int), (frm fcP s s7 ∧ FC s7 v2 v4) → Q (some (jI 1)) s7))) ∧ (¬ ((s 2 10) ≤ v6) → kK mX10_says 55 [jR 1, jI v1, jL v2, jU, jL v4, jU, jI v6, jI 0, jU, jU, jU, jU, jU, jU, jU] [] s Q)))) : kK mX10_says 40 [jR 1, jI v1, jL v2, jU, jL v4, jU, jI v6, jU, jU, jU, jU, jU, jU, jU, jU] [] s Q := by
  obtain ⟨a1, a2, v⟩ := v
  refine k_iload dX10_says_40 rfl ?_
  refine k_aload_n dX10_says_42 rfl ?_
  refine k_getr dX10_says_43 fl_X10_10 sh_1 (by decide) rfl ?_
  refine k_geti 10 dX10_says_46 fl_X10_176 sh_2 (by decide) rfl rfl ?_
  obtain ⟨vt, vf⟩ := v
  refine k_icmp_ge 171 dX10_says_49 rfl a1 a2 (fun c3 => ?_) (fun c3 => ?_)
  · have v := vt c3
    obtain ⟨a4, a5, v⟩ := v
    refine k_aload_n dX10_says_171 rfl ?_
    refine k_getr dX10_says_172 fl_X10_84 sh_1 (by decide) rfl ?_
    refine k_lload_n dX10_says_175 rfl ?_
    refine k_lload dX10_says_176 rfl ?_
    refine k_invVR [jL v2, jL v4] [] dX10_says_178 cm_X5_put ml_X10_150 im_X5_put se_X5_put rfl sh_138 (by decide) rfl rfl (sp_X5_put s v2 v4 a4 a5) (fun _ s7 q8 => ?_)
    obtain ⟨rfl, q8⟩ := q8
    have v := v s7 q8
    refine k_iconst dX10_says_181 ?_
    exact k_ireturn (st := []) dX10_says_182 rfl v
  · have v := vf c3
    refine k_iconst dX10_says_52 ?_
    refine k_istore [jR 1, jI v1, jL v2, jU, jL v4, jU, jI v6, jI 0, jU, jU, jU, jU, jU, jU, jU] dX10_says_53 rfl rfl ?_
    exact v
theorem g_X10_says_55 {s : Int → Int → Int} {Q : Option jV → (Int → Int → Int) → Prop} {v1 v2 v4 v6 v7 : Int} (v : (jr32 v7 ∧ ((4 ≤ v7 → kK mX10_says 40 [jR 1, jI v1, jL v2, jU, jL v4, jU, jI (v6 + 1), jU, jU, jU, jU, jU, jU, jU, jU] [] s Q) ∧ (¬ (4 ≤ v7) → kK mX10_says 64 [jR 1, jI v1, jL v2, jU, jL v4, jU, jI v6, jI v7, jI 0, jU, jU, jU, jU, jU, jU] [] s Q)))) : kK mX10_says 55 [jR 1, jI v1, jL v2, jU, jL v4, jU, jI v6, jI v7, jU, jU, jU, jU, jU, jU, jU] [] s Q := by
  obtain ⟨a1, v⟩ := v
  refine k_iload dX10_says_55 rfl ?_
  refine k_iconst dX10_says_57 ?_
  obtain ⟨vt, vf⟩ := v
  refine k_icmp_ge 165 dX10_says_58 rfl a1 (by decide) (fun c2 => ?_) (fun c2 => ?_)
  · have v := vt c2
    refine k_iinc [jR 1, jI v1, jL v2, jU, jL v4, jU, jI (v6 + 1), jI v7, jU, jU, jU, jU, jU, jU, jU] dX10_says_165 rfl rfl rfl ?_
    refine k_goto 40 dX10_says_168 rfl ?_
    refine k_drop [jR 1, jI v1, jL v2, jU, jL v4, jU, jI (v6 + 1), jU, jU, jU, jU, jU, jU, jU, jU] ⟨Or.inr rfl, Or.inr rfl, Or.inr rfl, Or.inr rfl, Or.inr rfl, Or.inr rfl, Or.inr rfl, Or.inl rfl, Or.inr rfl, Or.inr rfl, Or.inr rfl, Or.inr rfl, Or.inr rfl, Or.inr rfl, Or.inr rfl, trivial⟩ ?_
    exact v
  · have v := vf c2
    refine k_iconst dX10_says_61 ?_
    refine k_istore [jR 1, jI v1, jL v2, jU, jL v4, jU, jI v6, jI v7, jI 0, jU, jU, jU, jU, jU, jU] dX10_says_62 rfl rfl ?_
    exact v
theorem g_X10_says_64 {s : Int → Int → Int} {Q : Option jV → (Int → Int → Int) → Prop} {v1 v2 v4 v6 v7 v8 : Int} (v : (jr32 v8 ∧ ((4 ≤ v8 → kK mX10_says 55 [jR 1, jI v1, jL v2, jU, jL v4, jU, jI v6, jI (v7 + 1), jU, jU, jU, jU, jU, jU, jU] [] s Q) ∧ (¬ (4 ≤ v8) → ((0 ≤ v1 ∧ v1 < 6) ∧ (0 ≤ v7 ∧ v7 < 4) ∧ (-1 ≤ s 5 v1 ∧ s 5 v1 < 6) ∧ jr32 (s 2 10 + ua s v1 v7) ∧ (0 ≤ v8 ∧ v8 < 4) ∧ jr32 (s 2 10 + ua s v1 v8) ∧ (0 ≤ v6 ∧ v6 < 8) ∧ jr32 (1 + us s v1 v6 v7) ∧ jr32 (1 + us s v1 v6 v8) ∧ jr64 ((((1 + us s v1 v6 v7) * (s 2 10 + ua s v1 v8)) - ((1 + us s v1 v6 v8) * (s 2 10 + ua s v1 v7))) * v4) ∧ jr64 ((v2 * (s 2 10 + ua s v1 v7)) * (s 2 10 + ua s v1 v8)) ∧ ((((((1 + us s v1 v6 v7) * (s 2 10 + ua s v1 v8)) - ((1 + us s v1 v6 v8) * (s 2 10 + ua s v1 v7))) * v4) ≤ ((v2 * (s 2 10 + ua s v1 v7)) * (s 2 10 + ua s v1 v8)) → kK mX10_says 64 [jR 1, jI v1, jL v2, jU, jL v4, jU, jI v6, jI v7, jI (v8 + 1), jU, jU, jU, jU, jU, jU] [] s Q) ∧ (¬ (((((1 + us s v1 v6 v7) * (s 2 10 + ua s v1 v8)) - ((1 + us s v1 v6 v8) * (s 2 10 + ua s v1 v7))) * v4) ≤ ((v2 * (s 2 10 + ua s v1 v7)) * (s 2 10 + ua s v1 v8))) → kK mX10_says 64 [jR 1, jI v1, jL (((1 + us s v1 v6 v7) * (s 2 10 + ua s v1 v8)) - ((1 + us s v1 v6 v8) * (s 2 10 + ua s v1 v7))), jU, jL ((s 2 10 + ua s v1 v7) * (s 2 10 + ua s v1 v8)), jU, jI v6, jI v7, jI (v8 + 1), jU, jU, jU, jU, jU, jU] [] s Q))))))) : kK mX10_says 64 [jR 1, jI v1, jL v2, jU, jL v4, jU, jI v6, jI v7, jI v8, jU, jU, jU, jU, jU, jU] [] s Q := by
  obtain ⟨a1, v⟩ := v
  refine k_iload dX10_says_64 rfl ?_
  refine k_iconst dX10_says_66 ?_
  obtain ⟨vt, vf⟩ := v
  refine k_icmp_ge 159 dX10_says_67 rfl a1 (by decide) (fun c2 => ?_) (fun c2 => ?_)
  · have v := vt c2
    refine k_iinc [jR 1, jI v1, jL v2, jU, jL v4, jU, jI v6, jI (v7 + 1), jI v8, jU, jU, jU, jU, jU, jU] dX10_says_159 rfl rfl rfl ?_
    refine k_goto 55 dX10_says_162 rfl ?_
    refine k_drop [jR 1, jI v1, jL v2, jU, jL v4, jU, jI v6, jI (v7 + 1), jU, jU, jU, jU, jU, jU, jU] ⟨Or.inr rfl, Or.inr rfl, Or.inr rfl, Or.inr rfl, Or.inr rfl, Or.inr rfl, Or.inr rfl, Or.inr rfl, Or.inl rfl, Or.inr rfl, Or.inr rfl, Or.inr rfl, Or.inr rfl, Or.inr rfl, Or.inr rfl, trivial⟩ ?_
    exact v
  · have v := vf c2
    obtain ⟨a3, a4, a5, a6, a7, a8, a9, a10, a11, a12, a13, v⟩ := v
    refine k_aload_n dX10_says_70 rfl ?_
    refine k_getr dX10_says_71 fl_X10_21 sh_1 (by decide) rfl ?_
    refine k_iload_n dX10_says_74 rfl ?_
    refine k_iload dX10_says_75 rfl ?_
    refine k_invV [jI v1, jI v7] [] dX10_says_77 cm_X8_meantBelow ml_X10_146 im_X8_meantBelow se_X8_meantBelow rfl sh_43 (by decide) rfl rfl (sp_X8_meantBelow s v1 v7 a3 a4 a5 a6) ?_
    refine k_lstore [jR 1, jI v1, jL v2, jU, jL v4, jU, jI v6, jI v7, jI v8, jL (s 2 10 + ua s v1 v7), jU, jU, jU, jU, jU] dX10_says_80 rfl rfl ?_
    refine k_aload_n dX10_says_82 rfl ?_
    refine k_getr dX10_says_83 fl_X10_21 sh_1 (by decide) rfl ?_
    refine k_iload_n dX10_says_86 rfl ?_
    refine k_iload dX10_says_87 rfl ?_
    refine k_invV [jI v1, jI v8] [] dX10_says_89 cm_X8_meantBelow ml_X10_146 im_X8_meantBelow se_X8_meantBelow rfl sh_43 (by decide) rfl rfl (sp_X8_meantBelow s v1 v8 a3 a7 a5 a8) ?_
    refine k_lstore [jR 1, jI v1, jL v2, jU, jL v4, jU, jI v6, jI v7, jI v8, jL (s 2 10 + ua s v1 v7), jU, jL (s 2 10 + ua s v1 v8), jU, jU, jU] dX10_says_92 rfl rfl ?_
    refine k_aload_n dX10_says_94 rfl ?_
    refine k_getr dX10_says_95 fl_X10_21 sh_1 (by decide) rfl ?_
    refine k_iload_n dX10_says_98 rfl ?_
    refine k_iload dX10_says_99 rfl ?_
    refine k_iload dX10_says_101 rfl ?_
    refine k_invV [jI v1, jI v6, jI v7] [] dX10_says_103 cm_X8_meantAbove ml_X10_142 im_X8_meantAbove se_X8_meantAbove rfl sh_43 (by decide) rfl rfl (sp_X8_meantAbove s v1 v6 v7 a3 a9 a4 a5 a10) ?_
    refine k_lload dX10_says_106 rfl ?_
    refine k_lmul dX10_says_108 ?_
    refine k_aload_n dX10_says_109 rfl ?_
    refine k_getr dX10_says_110 fl_X10_21 sh_1 (by decide) rfl ?_
    refine k_iload_n dX10_says_113 rfl ?_
    refine k_iload dX10_says_114 rfl ?_
    refine k_iload dX10_says_116 rfl ?_
    refine k_invV [jI v1, jI v6, jI v8] [jL ((1 + us s v1 v6 v7) * (s 2 10 + ua s v1 v8))] dX10_says_118 cm_X8_meantAbove ml_X10_142 im_X8_meantAbove se_X8_meantAbove rfl sh_43 (by decide) rfl rfl (sp_X8_meantAbove s v1 v6 v8 a3 a9 a7 a5 a11) ?_
    refine k_lload dX10_says_121 rfl ?_
    refine k_lmul dX10_says_123 ?_
    refine k_lsub dX10_says_124 ?_
    refine k_lstore [jR 1, jI v1, jL v2, jU, jL v4, jU, jI v6, jI v7, jI v8, jL (s 2 10 + ua s v1 v7), jU, jL (s 2 10 + ua s v1 v8), jU, jL (((1 + us s v1 v6 v7) * (s 2 10 + ua s v1 v8)) - ((1 + us s v1 v6 v8) * (s 2 10 + ua s v1 v7))), jU] dX10_says_125 rfl rfl ?_
    refine k_lload dX10_says_127 rfl ?_
    refine k_lload dX10_says_129 rfl ?_
    refine k_lmul dX10_says_131 ?_
    refine k_lload_n dX10_says_132 rfl ?_
    refine k_lload dX10_says_133 rfl ?_
    refine k_lmul dX10_says_135 ?_
    refine k_lload dX10_says_136 rfl ?_
    refine k_lmul dX10_says_138 ?_
    obtain ⟨vt, vf⟩ := v
    refine k_lcmp_if_le 153 dX10_says_139 dX10_says_140 rfl a12 a13 (fun c14 => ?_) (fun c14 => ?_)
    · have v := vt c14
      refine k_iinc [jR 1, jI v1, jL v2, jU, jL v4, jU, jI v6, jI v7, jI (v8 + 1), jL (s 2 10 + ua s v1 v7), jU, jL (s 2 10 + ua s v1 v8), jU, jL (((1 + us s v1 v6 v7) * (s 2 10 + ua s v1 v8)) - ((1 + us s v1 v6 v8) * (s 2 10 + ua s v1 v7))), jU] dX10_says_153 rfl rfl rfl ?_
      refine k_goto 64 dX10_says_156 rfl ?_
      refine k_drop [jR 1, jI v1, jL v2, jU, jL v4, jU, jI v6, jI v7, jI (v8 + 1), jU, jU, jU, jU, jU, jU] ⟨Or.inr rfl, Or.inr rfl, Or.inr rfl, Or.inr rfl, Or.inr rfl, Or.inr rfl, Or.inr rfl, Or.inr rfl, Or.inr rfl, Or.inl rfl, Or.inr rfl, Or.inl rfl, Or.inr rfl, Or.inl rfl, Or.inr rfl, trivial⟩ ?_
      exact v
    · have v := vf c14
      refine k_lload dX10_says_143 rfl ?_
      refine k_lstore_n [jR 1, jI v1, jL (((1 + us s v1 v6 v7) * (s 2 10 + ua s v1 v8)) - ((1 + us s v1 v6 v8) * (s 2 10 + ua s v1 v7))), jU, jL v4, jU, jI v6, jI v7, jI v8, jL (s 2 10 + ua s v1 v7), jU, jL (s 2 10 + ua s v1 v8), jU, jL (((1 + us s v1 v6 v7) * (s 2 10 + ua s v1 v8)) - ((1 + us s v1 v6 v8) * (s 2 10 + ua s v1 v7))), jU] dX10_says_145 rfl rfl ?_
      refine k_lload dX10_says_146 rfl ?_
      refine k_lload dX10_says_148 rfl ?_
      refine k_lmul dX10_says_150 ?_
      refine k_lstore [jR 1, jI v1, jL (((1 + us s v1 v6 v7) * (s 2 10 + ua s v1 v8)) - ((1 + us s v1 v6 v8) * (s 2 10 + ua s v1 v7))), jU, jL ((s 2 10 + ua s v1 v7) * (s 2 10 + ua s v1 v8)), jU, jI v6, jI v7, jI v8, jL (s 2 10 + ua s v1 v7), jU, jL (s 2 10 + ua s v1 v8), jU, jL (((1 + us s v1 v6 v7) * (s 2 10 + ua s v1 v8)) - ((1 + us s v1 v6 v8) * (s 2 10 + ua s v1 v7))), jU] dX10_says_151 rfl rfl ?_
      refine k_iinc [jR 1, jI v1, jL (((1 + us s v1 v6 v7) * (s 2 10 + ua s v1 v8)) - ((1 + us s v1 v6 v8) * (s 2 10 + ua s v1 v7))), jU, jL ((s 2 10 + ua s v1 v7) * (s 2 10 + ua s v1 v8)), jU, jI v6, jI v7, jI (v8 + 1), jL (s 2 10 + ua s v1 v7), jU, jL (s 2 10 + ua s v1 v8), jU, jL (((1 + us s v1 v6 v7) * (s 2 10 + ua s v1 v8)) - ((1 + us s v1 v6 v8) * (s 2 10 + ua s v1 v7))), jU] dX10_says_153 rfl rfl rfl ?_
      refine k_goto 64 dX10_says_156 rfl ?_
      refine k_drop [jR 1, jI v1, jL (((1 + us s v1 v6 v7) * (s 2 10 + ua s v1 v8)) - ((1 + us s v1 v6 v8) * (s 2 10 + ua s v1 v7))), jU, jL ((s 2 10 + ua s v1 v7) * (s 2 10 + ua s v1 v8)), jU, jI v6, jI v7, jI (v8 + 1), jU, jU, jU, jU, jU, jU] ⟨Or.inr rfl, Or.inr rfl, Or.inr rfl, Or.inr rfl, Or.inr rfl, Or.inr rfl, Or.inr rfl, Or.inr rfl, Or.inr rfl, Or.inl rfl, Or.inr rfl, Or.inl rfl, Or.inr rfl, Or.inl rfl, Or.inr rfl, trivial⟩ ?_
      exact v
theorem g_X11_says {s : Int → Int → Int} {Q : Option jV → (Int → Int → Int) → Prop} {v1 : Int} (v : (jr32 v1 ∧ (0 ≤ s 146 1 ∧ s 146 1 ≤ 1000) ∧ ((0 ≤ v1 ∧ v1 ≤ s 146 1 - 1 → (jr32 (s 146 0) ∧ (((s 146 0) ≠ 0 → kK mX11_says 32 [jR 143, jI v1, jL 0, jU, jL 1, jU, jI 0, jU, jU, jU, jU, jU, jU] [] s Q) ∧ ((s 146 0) = 0 → Q (some (jI (-3))) s)))) ∧ (¬ (0 ≤ v1 ∧ v1 ≤ s 146 1 - 1) → Q (some (jI (-2))) s)))) : kR mX11_says [jR 143, jI v1] s Q := by
  show kK mX11_says 0 [jR 143, jI v1, jU, jU, jU, jU, jU, jU, jU, jU, jU, jU, jU] [] s Q
  obtain ⟨a1, a2, v⟩ := v
  refine k_aload_n dX11_says_0 rfl ?_
  refine k_iconst dX11_says_1 ?_
  refine k_iload_n dX11_says_2 rfl ?_
  refine k_invV [jI 1, jI v1] [] dX11_says_3 cm_X11_is ml_X11_136 im_X11_is se_X11_is rfl sh_143 (by decide) rfl rfl (sp_X11_is s 1 v1 (by decide) a1 a2) ?_
  obtain ⟨vt, vf⟩ := v
  refine k_ifb_ne 12 dX11_says_6 rfl (fun c3 => ?_) (fun c3 => ?_)
  · have v := vt c3
    obtain ⟨a4, v⟩ := v
    refine k_aload_n dX11_says_12 rfl ?_
    refine k_getr dX11_says_13 fl_X11_16 sh_143 (by decide) rfl ?_
    refine k_iconst dX11_says_16 ?_
    refine k_iald 6 dX11_says_17 sh_146 (by decide) rfl (by decide) (by decide) ?_
    obtain ⟨vt, vf⟩ := v
    refine k_if_ne 24 dX11_says_18 rfl a4 (fun c5 => ?_) (fun c5 => ?_)
    · have v := vt c5
      refine k_lconst 0 dX11_says_24 rfl ?_
      refine k_lstore_n [jR 143, jI v1, jL 0, jU, jU, jU, jU, jU, jU, jU, jU, jU, jU] dX11_says_25 rfl rfl ?_
      refine k_lconst 1 dX11_says_26 rfl ?_
      refine k_lstore [jR 143, jI v1, jL 0, jU, jL 1, jU, jU, jU, jU, jU, jU, jU, jU] dX11_says_27 rfl rfl ?_
      refine k_iconst dX11_says_29 ?_
      refine k_istore [jR 143, jI v1, jL 0, jU, jL 1, jU, jI 0, jU, jU, jU, jU, jU, jU] dX11_says_30 rfl rfl ?_
      exact v
    · have v := vf c5
      refine k_bipush dX11_says_21 rfl ?_
      exact k_ireturn (st := []) dX11_says_23 rfl v
  · have v := vf c3
    refine k_bipush dX11_says_9 rfl ?_
    exact k_ireturn (st := []) dX11_says_11 rfl v
theorem g_X11_says_32 {s : Int → Int → Int} {Q : Option jV → (Int → Int → Int) → Prop} {v1 v2 v4 v6 : Int} (v : (jr32 v6 ∧ jr32 (s 146 0) ∧ (((s 146 0) ≤ v6 → ((0 ≤ v2 ∧ v2 ≤ 9223372036854775807) ∧ (0 < v4 ∧ v4 ≤ 9223372036854775807) ∧ (∀ (y6 : Int) (s7 : Int → Int → Int), (y6 = 1 ∧ RF (fun q => 0 ≤ q ∧ q ≤ 4) s s7 ∧ RG s7 0 (v2 / gc v2 v4) ∧ RG s7 1 (v4 / gc v2 v4)) → Q (some (jI y6)) s7))) ∧ (¬ ((s 146 0) ≤ v6) → kK mX11_says 46 [jR 143, jI v1, jL v2, jU, jL v4, jU, jI v6, jI 0, jU, jU, jU, jU, jU] [] s Q)))) : kK mX11_says 32 [jR 143, jI v1, jL v2, jU, jL v4, jU, jI v6, jU, jU, jU, jU, jU, jU] [] s Q := by
  obtain ⟨a1, a2, v⟩ := v
  refine k_iload dX11_says_32 rfl ?_
  refine k_aload_n dX11_says_34 rfl ?_
  refine k_getr dX11_says_35 fl_X11_16 sh_143 (by decide) rfl ?_
  refine k_iconst dX11_says_38 ?_
  refine k_iald 6 dX11_says_39 sh_146 (by decide) rfl (by decide) (by decide) ?_
  obtain ⟨vt, vf⟩ := v
  refine k_icmp_ge 165 dX11_says_40 rfl a1 a2 (fun c3 => ?_) (fun c3 => ?_)
  · have v := vt c3
    obtain ⟨a4, a5, v⟩ := v
    refine k_aload_n dX11_says_165 rfl ?_
    refine k_lload_n dX11_says_166 rfl ?_
    refine k_lload dX11_says_167 rfl ?_
    refine k_invVR [jL v2, jL v4] [] dX11_says_169 cm_X11_told ml_X11_163 im_X11_told se_X11_told rfl sh_143 (by decide) rfl rfl (sp_X11_told s v2 v4 a4 a5) (fun _ s7 q8 => ?_)
    obtain ⟨y6, rfl, q8⟩ := q8
    have v := v y6 s7 q8
    exact k_ireturn (st := []) dX11_says_172 rfl v
  · have v := vf c3
    refine k_iconst dX11_says_43 ?_
    refine k_istore [jR 143, jI v1, jL v2, jU, jL v4, jU, jI v6, jI 0, jU, jU, jU, jU, jU] dX11_says_44 rfl rfl ?_
    exact v
theorem g_X11_says_46 {s : Int → Int → Int} {Q : Option jV → (Int → Int → Int) → Prop} {v1 v2 v4 v6 v7 : Int} (v : (jr32 v7 ∧ ((4 ≤ v7 → kK mX11_says 32 [jR 143, jI v1, jL v2, jU, jL v4, jU, jI (v6 + 1), jU, jU, jU, jU, jU, jU] [] s Q) ∧ (¬ (4 ≤ v7) → kK mX11_says 55 [jR 143, jI v1, jL v2, jU, jL v4, jU, jI v6, jI v7, jI 0, jU, jU, jU, jU] [] s Q)))) : kK mX11_says 46 [jR 143, jI v1, jL v2, jU, jL v4, jU, jI v6, jI v7, jU, jU, jU, jU, jU] [] s Q := by
  obtain ⟨a1, v⟩ := v
  refine k_iload dX11_says_46 rfl ?_
  refine k_iconst dX11_says_48 ?_
  obtain ⟨vt, vf⟩ := v
  refine k_icmp_ge 159 dX11_says_49 rfl a1 (by decide) (fun c2 => ?_) (fun c2 => ?_)
  · have v := vt c2
    refine k_iinc [jR 143, jI v1, jL v2, jU, jL v4, jU, jI (v6 + 1), jI v7, jU, jU, jU, jU, jU] dX11_says_159 rfl rfl rfl ?_
    refine k_goto 32 dX11_says_162 rfl ?_
    refine k_drop [jR 143, jI v1, jL v2, jU, jL v4, jU, jI (v6 + 1), jU, jU, jU, jU, jU, jU] ⟨Or.inr rfl, Or.inr rfl, Or.inr rfl, Or.inr rfl, Or.inr rfl, Or.inr rfl, Or.inr rfl, Or.inl rfl, Or.inr rfl, Or.inr rfl, Or.inr rfl, Or.inr rfl, Or.inr rfl, trivial⟩ ?_
    exact v
  · have v := vf c2
    refine k_iconst dX11_says_52 ?_
    refine k_istore [jR 143, jI v1, jL v2, jU, jL v4, jU, jI v6, jI v7, jI 0, jU, jU, jU, jU] dX11_says_53 rfl rfl ?_
    exact v
theorem g_X11_says_55 {s : Int → Int → Int} {Q : Option jV → (Int → Int → Int) → Prop} {v1 v2 v4 v6 v7 v8 : Int} (v : (jr32 v8 ∧ ((4 ≤ v8 → kK mX11_says 46 [jR 143, jI v1, jL v2, jU, jL v4, jU, jI v6, jI (v7 + 1), jU, jU, jU, jU, jU] [] s Q) ∧ (¬ (4 ≤ v8) → ((DD s) ∧ (0 ≤ v1 ∧ v1 < s 146 1) ∧ jr32 v7 ∧ jr32 (s 146 0 + ucm s v1 (-1) v7 (-1)) ∧ jr32 (s 146 0 + ucm s v1 (-1) v8 (-1)) ∧ jr32 v6 ∧ jr32 (1 + ucm s v1 v6 v7 (-1)) ∧ jr32 (1 + ucm s v1 v6 v8 (-1)) ∧ jr64 ((((1 + ucm s v1 v6 v7 (-1)) * (s 146 0 + ucm s v1 (-1) v8 (-1))) - ((1 + ucm s v1 v6 v8 (-1)) * (s 146 0 + ucm s v1 (-1) v7 (-1)))) * v4) ∧ jr64 (v2 * ((s 146 0 + ucm s v1 (-1) v7 (-1)) * (s 146 0 + ucm s v1 (-1) v8 (-1)))) ∧ ((((((1 + ucm s v1 v6 v7 (-1)) * (s 146 0 + ucm s v1 (-1) v8 (-1))) - ((1 + ucm s v1 v6 v8 (-1)) * (s 146 0 + ucm s v1 (-1) v7 (-1)))) * v4) ≤ (v2 * ((s 146 0 + ucm s v1 (-1) v7 (-1)) * (s 146 0 + ucm s v1 (-1) v8 (-1)))) → kK mX11_says 55 [jR 143, jI v1, jL v2, jU, jL v4, jU, jI v6, jI v7, jI (v8 + 1), jU, jU, jU, jU] [] s Q) ∧ (¬ (((((1 + ucm s v1 v6 v7 (-1)) * (s 146 0 + ucm s v1 (-1) v8 (-1))) - ((1 + ucm s v1 v6 v8 (-1)) * (s 146 0 + ucm s v1 (-1) v7 (-1)))) * v4) ≤ (v2 * ((s 146 0 + ucm s v1 (-1) v7 (-1)) * (s 146 0 + ucm s v1 (-1) v8 (-1))))) → kK mX11_says 55 [jR 143, jI v1, jL (((1 + ucm s v1 v6 v7 (-1)) * (s 146 0 + ucm s v1 (-1) v8 (-1))) - ((1 + ucm s v1 v6 v8 (-1)) * (s 146 0 + ucm s v1 (-1) v7 (-1)))), jU, jL ((s 146 0 + ucm s v1 (-1) v7 (-1)) * (s 146 0 + ucm s v1 (-1) v8 (-1))), jU, jI v6, jI v7, jI (v8 + 1), jU, jU, jU, jU] [] s Q))))))) : kK mX11_says 55 [jR 143, jI v1, jL v2, jU, jL v4, jU, jI v6, jI v7, jI v8, jU, jU, jU, jU] [] s Q := by
  obtain ⟨a1, v⟩ := v
  refine k_iload dX11_says_55 rfl ?_
  refine k_iconst dX11_says_57 ?_
  obtain ⟨vt, vf⟩ := v
  refine k_icmp_ge 153 dX11_says_58 rfl a1 (by decide) (fun c2 => ?_) (fun c2 => ?_)
  · have v := vt c2
    refine k_iinc [jR 143, jI v1, jL v2, jU, jL v4, jU, jI v6, jI (v7 + 1), jI v8, jU, jU, jU, jU] dX11_says_153 rfl rfl rfl ?_
    refine k_goto 46 dX11_says_156 rfl ?_
    refine k_drop [jR 143, jI v1, jL v2, jU, jL v4, jU, jI v6, jI (v7 + 1), jU, jU, jU, jU, jU] ⟨Or.inr rfl, Or.inr rfl, Or.inr rfl, Or.inr rfl, Or.inr rfl, Or.inr rfl, Or.inr rfl, Or.inr rfl, Or.inl rfl, Or.inr rfl, Or.inr rfl, Or.inr rfl, Or.inr rfl, trivial⟩ ?_
    exact v
  · have v := vf c2
    obtain ⟨a3, a4, a5, a6, a7, a8, a9, a10, a11, a12, v⟩ := v
    refine k_aload_n dX11_says_61 rfl ?_
    refine k_iload_n dX11_says_62 rfl ?_
    refine k_iload dX11_says_63 rfl ?_
    refine k_iconst dX11_says_65 ?_
    refine k_invV [jI v1, jI v7, jI (-1)] [] dX11_says_66 cm_X11_meanDown ml_X11_159 im_X11_meanDown se_X11_meanDown rfl sh_143 (by decide) rfl rfl (sp_X11_meanDown s v1 v7 (-1) a3 a4 a5 (by decide)) ?_
    refine k_i2l dX11_says_69 a6 ?_
    refine k_aload_n dX11_says_70 rfl ?_
    refine k_iload_n dX11_says_71 rfl ?_
    refine k_iload dX11_says_72 rfl ?_
    refine k_iconst dX11_says_74 ?_
    refine k_invV [jI v1, jI v8, jI (-1)] [jL (s 146 0 + ucm s v1 (-1) v7 (-1))] dX11_says_75 cm_X11_meanDown ml_X11_159 im_X11_meanDown se_X11_meanDown rfl sh_143 (by decide) rfl rfl (sp_X11_meanDown s v1 v8 (-1) a3 a4 a1 (by decide)) ?_
    refine k_i2l dX11_says_78 a7 ?_
    refine k_lmul dX11_says_79 ?_
    refine k_lstore [jR 143, jI v1, jL v2, jU, jL v4, jU, jI v6, jI v7, jI v8, jL ((s 146 0 + ucm s v1 (-1) v7 (-1)) * (s 146 0 + ucm s v1 (-1) v8 (-1))), jU, jU, jU] dX11_says_80 rfl rfl ?_
    refine k_aload_n dX11_says_82 rfl ?_
    refine k_iload_n dX11_says_83 rfl ?_
    refine k_iload dX11_says_84 rfl ?_
    refine k_iload dX11_says_86 rfl ?_
    refine k_iconst dX11_says_88 ?_
    refine k_invV [jI v1, jI v6, jI v7, jI (-1)] [] dX11_says_89 cm_X11_meanUp ml_X11_156 im_X11_meanUp se_X11_meanUp rfl sh_143 (by decide) rfl rfl (sp_X11_meanUp s v1 v6 v7 (-1) a3 a4 a8 a5 (by decide)) ?_
    refine k_i2l dX11_says_92 a9 ?_
    refine k_aload_n dX11_says_93 rfl ?_
    refine k_iload_n dX11_says_94 rfl ?_
    refine k_iload dX11_says_95 rfl ?_
    refine k_iconst dX11_says_97 ?_
    refine k_invV [jI v1, jI v8, jI (-1)] [jL (1 + ucm s v1 v6 v7 (-1))] dX11_says_98 cm_X11_meanDown ml_X11_159 im_X11_meanDown se_X11_meanDown rfl sh_143 (by decide) rfl rfl (sp_X11_meanDown s v1 v8 (-1) a3 a4 a1 (by decide)) ?_
    refine k_i2l dX11_says_101 a7 ?_
    refine k_lmul dX11_says_102 ?_
    refine k_aload_n dX11_says_103 rfl ?_
    refine k_iload_n dX11_says_104 rfl ?_
    refine k_iload dX11_says_105 rfl ?_
    refine k_iload dX11_says_107 rfl ?_
    refine k_iconst dX11_says_109 ?_
    refine k_invV [jI v1, jI v6, jI v8, jI (-1)] [jL ((1 + ucm s v1 v6 v7 (-1)) * (s 146 0 + ucm s v1 (-1) v8 (-1)))] dX11_says_110 cm_X11_meanUp ml_X11_156 im_X11_meanUp se_X11_meanUp rfl sh_143 (by decide) rfl rfl (sp_X11_meanUp s v1 v6 v8 (-1) a3 a4 a8 a1 (by decide)) ?_
    refine k_i2l dX11_says_113 a10 ?_
    refine k_aload_n dX11_says_114 rfl ?_
    refine k_iload_n dX11_says_115 rfl ?_
    refine k_iload dX11_says_116 rfl ?_
    refine k_iconst dX11_says_118 ?_
    refine k_invV [jI v1, jI v7, jI (-1)] [jL (1 + ucm s v1 v6 v8 (-1)), jL ((1 + ucm s v1 v6 v7 (-1)) * (s 146 0 + ucm s v1 (-1) v8 (-1)))] dX11_says_119 cm_X11_meanDown ml_X11_159 im_X11_meanDown se_X11_meanDown rfl sh_143 (by decide) rfl rfl (sp_X11_meanDown s v1 v7 (-1) a3 a4 a5 (by decide)) ?_
    refine k_i2l dX11_says_122 a6 ?_
    refine k_lmul dX11_says_123 ?_
    refine k_lsub dX11_says_124 ?_
    refine k_lstore [jR 143, jI v1, jL v2, jU, jL v4, jU, jI v6, jI v7, jI v8, jL ((s 146 0 + ucm s v1 (-1) v7 (-1)) * (s 146 0 + ucm s v1 (-1) v8 (-1))), jU, jL (((1 + ucm s v1 v6 v7 (-1)) * (s 146 0 + ucm s v1 (-1) v8 (-1))) - ((1 + ucm s v1 v6 v8 (-1)) * (s 146 0 + ucm s v1 (-1) v7 (-1)))), jU] dX11_says_125 rfl rfl ?_
    refine k_lload dX11_says_127 rfl ?_
    refine k_lload dX11_says_129 rfl ?_
    refine k_lmul dX11_says_131 ?_
    refine k_lload_n dX11_says_132 rfl ?_
    refine k_lload dX11_says_133 rfl ?_
    refine k_lmul dX11_says_135 ?_
    obtain ⟨vt, vf⟩ := v
    refine k_lcmp_if_le 147 dX11_says_136 dX11_says_137 rfl a11 a12 (fun c13 => ?_) (fun c13 => ?_)
    · have v := vt c13
      refine k_iinc [jR 143, jI v1, jL v2, jU, jL v4, jU, jI v6, jI v7, jI (v8 + 1), jL ((s 146 0 + ucm s v1 (-1) v7 (-1)) * (s 146 0 + ucm s v1 (-1) v8 (-1))), jU, jL (((1 + ucm s v1 v6 v7 (-1)) * (s 146 0 + ucm s v1 (-1) v8 (-1))) - ((1 + ucm s v1 v6 v8 (-1)) * (s 146 0 + ucm s v1 (-1) v7 (-1)))), jU] dX11_says_147 rfl rfl rfl ?_
      refine k_goto 55 dX11_says_150 rfl ?_
      refine k_drop [jR 143, jI v1, jL v2, jU, jL v4, jU, jI v6, jI v7, jI (v8 + 1), jU, jU, jU, jU] ⟨Or.inr rfl, Or.inr rfl, Or.inr rfl, Or.inr rfl, Or.inr rfl, Or.inr rfl, Or.inr rfl, Or.inr rfl, Or.inr rfl, Or.inl rfl, Or.inr rfl, Or.inl rfl, Or.inr rfl, trivial⟩ ?_
      exact v
    · have v := vf c13
      refine k_lload dX11_says_140 rfl ?_
      refine k_lstore_n [jR 143, jI v1, jL (((1 + ucm s v1 v6 v7 (-1)) * (s 146 0 + ucm s v1 (-1) v8 (-1))) - ((1 + ucm s v1 v6 v8 (-1)) * (s 146 0 + ucm s v1 (-1) v7 (-1)))), jU, jL v4, jU, jI v6, jI v7, jI v8, jL ((s 146 0 + ucm s v1 (-1) v7 (-1)) * (s 146 0 + ucm s v1 (-1) v8 (-1))), jU, jL (((1 + ucm s v1 v6 v7 (-1)) * (s 146 0 + ucm s v1 (-1) v8 (-1))) - ((1 + ucm s v1 v6 v8 (-1)) * (s 146 0 + ucm s v1 (-1) v7 (-1)))), jU] dX11_says_142 rfl rfl ?_
      refine k_lload dX11_says_143 rfl ?_
      refine k_lstore [jR 143, jI v1, jL (((1 + ucm s v1 v6 v7 (-1)) * (s 146 0 + ucm s v1 (-1) v8 (-1))) - ((1 + ucm s v1 v6 v8 (-1)) * (s 146 0 + ucm s v1 (-1) v7 (-1)))), jU, jL ((s 146 0 + ucm s v1 (-1) v7 (-1)) * (s 146 0 + ucm s v1 (-1) v8 (-1))), jU, jI v6, jI v7, jI v8, jL ((s 146 0 + ucm s v1 (-1) v7 (-1)) * (s 146 0 + ucm s v1 (-1) v8 (-1))), jU, jL (((1 + ucm s v1 v6 v7 (-1)) * (s 146 0 + ucm s v1 (-1) v8 (-1))) - ((1 + ucm s v1 v6 v8 (-1)) * (s 146 0 + ucm s v1 (-1) v7 (-1)))), jU] dX11_says_145 rfl rfl ?_
      refine k_iinc [jR 143, jI v1, jL (((1 + ucm s v1 v6 v7 (-1)) * (s 146 0 + ucm s v1 (-1) v8 (-1))) - ((1 + ucm s v1 v6 v8 (-1)) * (s 146 0 + ucm s v1 (-1) v7 (-1)))), jU, jL ((s 146 0 + ucm s v1 (-1) v7 (-1)) * (s 146 0 + ucm s v1 (-1) v8 (-1))), jU, jI v6, jI v7, jI (v8 + 1), jL ((s 146 0 + ucm s v1 (-1) v7 (-1)) * (s 146 0 + ucm s v1 (-1) v8 (-1))), jU, jL (((1 + ucm s v1 v6 v7 (-1)) * (s 146 0 + ucm s v1 (-1) v8 (-1))) - ((1 + ucm s v1 v6 v8 (-1)) * (s 146 0 + ucm s v1 (-1) v7 (-1)))), jU] dX11_says_147 rfl rfl rfl ?_
      refine k_goto 55 dX11_says_150 rfl ?_
      refine k_drop [jR 143, jI v1, jL (((1 + ucm s v1 v6 v7 (-1)) * (s 146 0 + ucm s v1 (-1) v8 (-1))) - ((1 + ucm s v1 v6 v8 (-1)) * (s 146 0 + ucm s v1 (-1) v7 (-1)))), jU, jL ((s 146 0 + ucm s v1 (-1) v7 (-1)) * (s 146 0 + ucm s v1 (-1) v8 (-1))), jU, jI v6, jI v7, jI (v8 + 1), jU, jU, jU, jU] ⟨Or.inr rfl, Or.inr rfl, Or.inr rfl, Or.inr rfl, Or.inr rfl, Or.inr rfl, Or.inr rfl, Or.inr rfl, Or.inr rfl, Or.inl rfl, Or.inr rfl, Or.inl rfl, Or.inr rfl, trivial⟩ ?_
      exact v
theorem sp_X10_sayl {s s8 : Int → Int → Int} (hd : DD s) (a1 : Int) (c1 : 0 ≤ a1 ∧ a1 ≤ s 146 1 - 1) (hz : s 146 0 ≠ 0) (q8 : frm tlP s s8 ∧ TL s (-1) s8) (Q : Option jV → (Int → Int → Int) → Prop) (fin : ∀ s9, frm fcP s8 s9 → FC s9 (fp (s 146 0) (syW (smu s a1) (smd s a1)) (0, 1)).1 (fp (s 146 0) (syW (smu s a1) (smd s a1)) (0, 1)).2 → Q (some (jI 1)) s9) : kK mX10_says 40 [jR 1, jI a1, jL 0, jU, jL 1, jU, jI 0, jU, jU, jU, jU, jU, jU, jU, jU] [] s8 Q := by
  have R := syR_of hd a1 hz
  obtain ⟨e0, e1, e2, e3⟩ := hd.cnt
  obtain ⟨k1, k2, k3⟩ := hd.hnd (w := a1) (by omega) (by omega)
  have t0 : s8 2 10 = s 146 0 := by rw [q8.1 2 (by unfold tlP; omega), e0.1]
  have t5 : s8 5 a1 = s 149 a1 := by rw [q8.1 5 (by unfold tlP; omega), k1]
  have kW : ∀ w, w ≤ s 146 0 → 0 ≤ w → kK mX10_says 40 [jR 1, jI a1, jL (fp w (syW (smu s a1) (smd s a1)) (0, 1)).1, jU, jL (fp w (syW (smu s a1) (smd s a1)) (0, 1)).2, jU, jI w, jU, jU, jU, jU, jU, jU, jU, jU] [] s8 Q := by
    refine lp_up _ _ (fun w hw ih w0 => ?_)
    have okW : syI (fp w (syW (smu s a1) (smd s a1)) (0, 1)) := fp_ok (m := s 146 0) (fun i p i0 i1 hp => syW_ok R ⟨i0, i1⟩ hp) (by unfold syI; decide) w w0 hw
    refine g_X10_says_40 ?_
    rw [t0]
    refine ⟨by unfold jr32; omega, by unfold jr32; omega, fun q => ?_, fun q => ?_⟩
    · rw [show w = s 146 0 by omega] at okW ⊢
      obtain ⟨o1, o2⟩ := okW
      exact ⟨by omega, by omega, fun s9 q9 => fin s9 q9.1 q9.2⟩
    have kA : ∀ a, a ≤ 4 → 0 ≤ a → kK mX10_says 55 [jR 1, jI a1, jL (fp a (syA (smu s a1) (smd s a1) w) (fp w (syW (smu s a1) (smd s a1)) (0, 1))).1, jU, jL (fp a (syA (smu s a1) (smd s a1) w) (fp w (syW (smu s a1) (smd s a1)) (0, 1))).2, jU, jI w, jI a, jU, jU, jU, jU, jU, jU, jU] [] s8 Q := by
      refine lp_up _ _ (fun a ha jh a0 => ?_)
      have okA : syI (fp a (syA (smu s a1) (smd s a1) w) (fp w (syW (smu s a1) (smd s a1)) (0, 1))) := fp_ok (m := 4) (fun i p i0 i1 hp => syA_ok R (by omega) ⟨i0, i1⟩ hp) okW a a0 ha
      refine g_X10_says_55 ⟨by unfold jr32; omega, fun q2 => ?_, fun q2 => ?_⟩
      · have := ih (by omega) (by omega)
        rw [fp_s w0] at this
        rw [show a = 4 by omega]
        exact this
      · have kB : ∀ b, b ≤ 4 → 0 ≤ b → kK mX10_says 64 [jR 1, jI a1, jL (fp b (sy (smu s a1) (smd s a1) w a) (fp a (syA (smu s a1) (smd s a1) w) (fp w (syW (smu s a1) (smd s a1)) (0, 1)))).1, jU, jL (fp b (sy (smu s a1) (smd s a1) w a) (fp a (syA (smu s a1) (smd s a1) w) (fp w (syW (smu s a1) (smd s a1)) (0, 1)))).2, jU, jI w, jI a, jI b, jU, jU, jU, jU, jU, jU] [] s8 Q := by
          refine lp_up _ _ (fun b hb kh b0 => ?_)
          refine g_X10_says_64 ⟨by unfold jr32; omega, fun q3 => ?_, fun q3 => ?_⟩
          · have := jh (by omega) (by omega)
            rw [fp_s a0] at this
            rw [show b = 4 by omega]
            exact this
          · have okB : syI (fp b (sy (smu s a1) (smd s a1) w a) (fp a (syA (smu s a1) (smd s a1) w) (fp w (syW (smu s a1) (smd s a1)) (0, 1)))) := fp_ok (m := 4) (fun i p i0 i1 hp => sy_ok R (by omega) (by omega) ⟨i0, i1⟩ hp) okA b b0 hb
            have nx := kh (by omega) (by omega)
            rw [fp_s b0] at nx
            generalize fp b (sy (smu s a1) (smd s a1) w a) (fp a (syA (smu s a1) (smd s a1) w) (fp w (syW (smu s a1) (smd s a1)) (0, 1))) = p at okB nx ⊢
            obtain ⟨u, d⟩ := p
            obtain ⟨r1, r2⟩ := sy_r (w := w) (a := a) (b := b) R (by omega) (by omega) (by omega)
            obtain ⟨b1, b2, b3⟩ := sy_b okB r1 r2
            unfold sy at nx
            have m1 : 1 + us s8 a1 w a = smu s a1 w a := by rw [us_ucm hd q8.1 q8.2 (by omega) (by omega) (by omega)]; rfl
            have m2 : 1 + us s8 a1 w b = smu s a1 w b := by rw [us_ucm hd q8.1 q8.2 (by omega) (by omega) (by omega)]; rfl
            have m3 : s8 2 10 + ua s8 a1 a = smd s a1 a := by rw [t0, ua_ucm hd q8.1 q8.2 (by omega) (by omega)]; rfl
            have m4 : s8 2 10 + ua s8 a1 b = smd s a1 b := by rw [t0, ua_ucm hd q8.1 q8.2 (by omega) (by omega)]; rfl
            rw [m1, m2, m3, m4, t5, Int.mul_assoc u]
            dsimp only at nx
            have l1 := R.1 w a w0 (by omega) a0 (by omega)
            have l2 := R.1 w b w0 (by omega) b0 (by omega)
            have l3 := R.2 a a0 (by omega)
            have l4 := R.2 b b0 (by omega)
            refine ⟨by omega, by omega, by omega, by unfold jr32; omega, by omega, by unfold jr32; omega, by omega, by unfold jr32; omega, by unfold jr32; omega, b1, b2, fun q4 => ?_, fun q4 => ?_⟩
            · rw [if_pos q4] at nx
              exact nx
            · rw [if_neg q4] at nx
              exact nx
        exact kB 0 (by omega) (by omega)
    exact kA 0 (by omega) (by omega)
  exact kW 0 (by omega) (by omega)
theorem sp_X11_sayl {s : Int → Int → Int} (hd : DD s) (a1 : Int) (c1 : 0 ≤ a1 ∧ a1 ≤ s 146 1 - 1) (hz : s 146 0 ≠ 0) (Q : Option jV → (Int → Int → Int) → Prop) (fin : ∀ s9, RF (fun q => 0 ≤ q ∧ q ≤ 4) s s9 → RG s9 0 ((fp (s 146 0) (syW (smu s a1) (smd s a1)) (0, 1)).1 / gc (fp (s 146 0) (syW (smu s a1) (smd s a1)) (0, 1)).1 (fp (s 146 0) (syW (smu s a1) (smd s a1)) (0, 1)).2) → RG s9 1 ((fp (s 146 0) (syW (smu s a1) (smd s a1)) (0, 1)).2 / gc (fp (s 146 0) (syW (smu s a1) (smd s a1)) (0, 1)).1 (fp (s 146 0) (syW (smu s a1) (smd s a1)) (0, 1)).2) → Q (some (jI 1)) s9) : kK mX11_says 32 [jR 143, jI a1, jL 0, jU, jL 1, jU, jI 0, jU, jU, jU, jU, jU, jU] [] s Q := by
  have R := syR_of hd a1 hz
  obtain ⟨e0, e1, e2, e3⟩ := hd.cnt

  have kW : ∀ w, w ≤ s 146 0 → 0 ≤ w → kK mX11_says 32 [jR 143, jI a1, jL (fp w (syW (smu s a1) (smd s a1)) (0, 1)).1, jU, jL (fp w (syW (smu s a1) (smd s a1)) (0, 1)).2, jU, jI w, jU, jU, jU, jU, jU, jU] [] s Q := by
    refine lp_up _ _ (fun w hw ih w0 => ?_)
    have okW : syI (fp w (syW (smu s a1) (smd s a1)) (0, 1)) := fp_ok (m := s 146 0) (fun i p i0 i1 hp => syW_ok R ⟨i0, i1⟩ hp) (by unfold syI; decide) w w0 hw
    refine g_X11_says_32 ?_
    refine ⟨by unfold jr32; omega, by unfold jr32; omega, fun q => ?_, fun q => ?_⟩
    · rw [show w = s 146 0 by omega] at okW ⊢
      obtain ⟨o1, o2⟩ := okW
      exact ⟨by omega, by omega, fun y s9 q9 => by rw [q9.1]; exact fin s9 q9.2.1 q9.2.2.1 q9.2.2.2⟩
    have kA : ∀ a, a ≤ 4 → 0 ≤ a → kK mX11_says 46 [jR 143, jI a1, jL (fp a (syA (smu s a1) (smd s a1) w) (fp w (syW (smu s a1) (smd s a1)) (0, 1))).1, jU, jL (fp a (syA (smu s a1) (smd s a1) w) (fp w (syW (smu s a1) (smd s a1)) (0, 1))).2, jU, jI w, jI a, jU, jU, jU, jU, jU] [] s Q := by
      refine lp_up _ _ (fun a ha jh a0 => ?_)
      have okA : syI (fp a (syA (smu s a1) (smd s a1) w) (fp w (syW (smu s a1) (smd s a1)) (0, 1))) := fp_ok (m := 4) (fun i p i0 i1 hp => syA_ok R (by omega) ⟨i0, i1⟩ hp) okW a a0 ha
      refine g_X11_says_46 ⟨by unfold jr32; omega, fun q2 => ?_, fun q2 => ?_⟩
      · have := ih (by omega) (by omega)
        rw [fp_s w0] at this
        rw [show a = 4 by omega]
        exact this
      · have kB : ∀ b, b ≤ 4 → 0 ≤ b → kK mX11_says 55 [jR 143, jI a1, jL (fp b (sy (smu s a1) (smd s a1) w a) (fp a (syA (smu s a1) (smd s a1) w) (fp w (syW (smu s a1) (smd s a1)) (0, 1)))).1, jU, jL (fp b (sy (smu s a1) (smd s a1) w a) (fp a (syA (smu s a1) (smd s a1) w) (fp w (syW (smu s a1) (smd s a1)) (0, 1)))).2, jU, jI w, jI a, jI b, jU, jU, jU, jU] [] s Q := by
          refine lp_up _ _ (fun b hb kh b0 => ?_)
          refine g_X11_says_55 ⟨by unfold jr32; omega, fun q3 => ?_, fun q3 => ?_⟩
          · have := jh (by omega) (by omega)
            rw [fp_s a0] at this
            rw [show b = 4 by omega]
            exact this
          · have okB : syI (fp b (sy (smu s a1) (smd s a1) w a) (fp a (syA (smu s a1) (smd s a1) w) (fp w (syW (smu s a1) (smd s a1)) (0, 1)))) := fp_ok (m := 4) (fun i p i0 i1 hp => sy_ok R (by omega) (by omega) ⟨i0, i1⟩ hp) okA b b0 hb
            have nx := kh (by omega) (by omega)
            rw [fp_s b0] at nx
            generalize fp b (sy (smu s a1) (smd s a1) w a) (fp a (syA (smu s a1) (smd s a1) w) (fp w (syW (smu s a1) (smd s a1)) (0, 1))) = p at okB nx ⊢
            obtain ⟨u, d⟩ := p
            obtain ⟨r1, r2⟩ := sy_r (w := w) (a := a) (b := b) R (by omega) (by omega) (by omega)
            obtain ⟨b1, b2, b3⟩ := sy_b okB r1 r2
            unfold sy at nx
            have m1 : 1 + ucm s a1 w a (-1) = smu s a1 w a := rfl
            have m2 : 1 + ucm s a1 w b (-1) = smu s a1 w b := rfl
            have m3 : s 146 0 + ucm s a1 (-1) a (-1) = smd s a1 a := rfl
            have m4 : s 146 0 + ucm s a1 (-1) b (-1) = smd s a1 b := rfl
            rw [m1, m2, m3, m4]
            dsimp only at nx
            have l1 := R.1 w a w0 (by omega) a0 (by omega)
            have l2 := R.1 w b w0 (by omega) b0 (by omega)
            have l3 := R.2 a a0 (by omega)
            have l4 := R.2 b b0 (by omega)
            refine ⟨hd, by omega, by unfold jr32; omega, by unfold jr32; omega, by unfold jr32; omega, by unfold jr32; omega, by unfold jr32; omega, by unfold jr32; omega, b1, b2, fun q4 => ?_, fun q4 => ?_⟩
            · rw [if_pos q4] at nx
              exact nx
            · rw [if_neg q4] at nx
              exact nx
        exact kB 0 (by omega) (by omega)
    exact kA 0 (by omega) (by omega)
  exact kW 0 (by omega) (by omega)
theorem op_says {S0 : Int → Int} {s : Int → Int → Int} (hI : Inv S0 s) (a1 : Int) (h1 : jr32 a1) : jop mX10_says mX11_says [jI a1] S0 s := by
  have hd := hI.dd
  obtain ⟨e0, e1, e2, e3⟩ := hd.cnt
  by_cases c : 0 ≤ a1 ∧ a1 ≤ s 146 1 - 1
  · by_cases z : s 146 0 = 0
    · exact jop.q (y := -3) hI (by decide) (g_X10_says ⟨h1, hd.wc, fun _ => ⟨by unfold jr32; omega, fun q => absurd (by omega) q, fun _ => ⟨rfl, rfl⟩⟩, fun q => absurd (by omega) q⟩) (g_X11_says ⟨h1, by omega, fun _ => ⟨by unfold jr32; omega, fun q => absurd z q, fun _ => ⟨rfl, rfl⟩⟩, fun q => absurd c q⟩)
    · refine jop.f _ _ hI (g_X10_says ⟨h1, hd.wc, fun _ => ⟨by unfold jr32; omega, fun _ => ⟨hd, fun s8 q8 => sp_X10_sayl hd a1 c z q8 _ (fun s9 f9 g9 => ⟨rfl, fc_of q8.1 f9 tl_of, g9⟩)⟩, fun q => absurd (by omega) z⟩, fun q => absurd (by omega) q⟩) (fun s1 f => ?_) trivial
      have d1 := hI.ofd f
      have fk : ∀ k, 146 ≤ k → k ≤ 156 → s1 k = s k := fun k k0 k1 => f k (fun c => by unfold ofP jtmp jpers at c; omega)
      have k146 : s1 146 = s 146 := fk 146 (by omega) (by omega)
      have eu : ucm s1 = ucm s := ucm_fr (fun k hk => fk k hk.1 hk.2)
      have eu1 : smu s1 a1 = smu s a1 := by funext w a; unfold smu; rw [eu]
      have eu2 : smd s1 a1 = smd s a1 := by funext a; unfold smd; rw [eu, k146]
      refine g_X11_says ⟨h1, by rw [k146]; omega, fun _ => ⟨by rw [k146]; unfold jr32; omega, fun _ => sp_X11_sayl d1 a1 (by rw [k146]; exact c) (by rw [k146]; exact z) _ (fun s9 f9 g0 g1 => ?_), fun q => absurd (by rw [k146] at q; exact q) z⟩, fun q => absurd (by rw [k146]; exact c) q⟩
      rw [k146, eu1, eu2] at g0 g1
      exact ⟨rfl, rf_mf f9, g0, g1⟩
  · exact jop.q (y := -2) hI (by decide) (g_X10_says ⟨h1, hd.wc, fun q => absurd (by omega) c, fun _ => ⟨rfl, rfl⟩⟩) (g_X11_says ⟨h1, by omega, fun q => absurd q c, fun _ => ⟨rfl, rfl⟩⟩)
