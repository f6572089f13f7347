theorem g_X11_trims {s : Int → Int → Int} {Q : Option jV → (Int → Int → Int) → Prop} {v1 : Int} (v : kK mX11_trims 0 [jR 143, jI v1] [] s Q) : kR mX11_trims [jR 143, jI v1] s Q := by
  show kK mX11_trims 0 [jR 143, jI v1] [] s Q
  exact v
theorem g_X11_trims_0 {s : Int → Int → Int} {Q : Option jV → (Int → Int → Int) → Prop} {v1 : Int} (v : ((0 ≤ v1 ∧ v1 < 15) ∧ jr32 (s 145 v1) ∧ (((s 145 v1) ≤ 0 → Q none s) ∧ (¬ ((s 145 v1) ≤ 0) → ((0 ≤ (((50 * v1) + (s 145 v1)) - 1) ∧ (((50 * v1) + (s 145 v1)) - 1) < 750) ∧ jr32 (s 144 (((50 * v1) + (s 145 v1)) - 1)) ∧ (((s 144 (((50 * v1) + (s 145 v1)) - 1)) ≠ 0 → Q none s) ∧ ((s 144 (((50 * v1) + (s 145 v1)) - 1)) = 0 → kK mX11_trims 0 [jR 143, jI v1] [] (w2 s 145 v1 ((s 145 v1) - 1)) Q))))))) : kK mX11_trims 0 [jR 143, jI v1] [] s Q := by
  obtain ⟨a1, a2, v⟩ := v
  refine k_aload_n dX11_trims_0 rfl ?_
  refine k_getr dX11_trims_1 fl_X11_13 sh_143 (by decide) rfl ?_
  refine k_iload_n dX11_trims_4 rfl ?_
  refine k_iald 15 dX11_trims_5 sh_145 (by decide) rfl (by decide) a1 ?_
  obtain ⟨vt, vf⟩ := v
  refine k_if_le 43 dX11_trims_6 rfl a2 (fun c3 => ?_) (fun c3 => ?_)
  · have v := vt c3
    exact k_return (st := []) dX11_trims_43 rfl v
  · have v := vf c3
    obtain ⟨a4, a5, v⟩ := v
    refine k_aload_n dX11_trims_9 rfl ?_
    refine k_getr dX11_trims_10 fl_X11_7 sh_143 (by decide) rfl ?_
    refine k_bipush dX11_trims_13 rfl ?_
    refine k_iload_n dX11_trims_15 rfl ?_
    refine k_imul dX11_trims_16 ?_
    refine k_aload_n dX11_trims_17 rfl ?_
    refine k_getr dX11_trims_18 fl_X11_13 sh_143 (by decide) rfl ?_
    refine k_iload_n dX11_trims_21 rfl ?_
    refine k_iald 15 dX11_trims_22 sh_145 (by decide) rfl (by decide) a1 ?_
    refine k_iadd dX11_trims_23 ?_
    refine k_iconst dX11_trims_24 ?_
    refine k_isub dX11_trims_25 ?_
    refine k_iald 750 dX11_trims_26 sh_144 (by decide) rfl (by decide) a4 ?_
    obtain ⟨vt, vf⟩ := v
    refine k_if_ne 43 dX11_trims_27 rfl a5 (fun c6 => ?_) (fun c6 => ?_)
    · have v := vt c6
      exact k_return (st := []) dX11_trims_43 rfl v
    · have v := vf c6
      refine k_aload_n dX11_trims_30 rfl ?_
      refine k_getr dX11_trims_31 fl_X11_13 sh_143 (by decide) rfl ?_
      refine k_iload_n dX11_trims_34 rfl ?_
      refine k_dup2 dX11_trims_35 rfl ?_
      refine k_iald 15 dX11_trims_36 sh_145 (by decide) rfl (by decide) a1 ?_
      refine k_iconst dX11_trims_37 ?_
      refine k_isub dX11_trims_38 ?_
      refine k_iast 15 dX11_trims_39 sh_145 (by decide) rfl (by decide) a1 ?_
      refine k_goto 0 dX11_trims_40 rfl ?_
      exact v
/-! the reference's registers: how one goes through a write -/
def rv (s : Int → Int → Int) (r : Int) : Int := vl 50 (rg s r)
theorem PG.rv {s : Int → Int → Int} {r N : Int} (h : PG s r N) : rv s r = N := h.2.2.2
theorem RG.rv {s : Int → Int → Int} {r N : Int} (h : RG s r N) : rv s r = N := h.1.2.2.2
theorem RG.me {s : Int → Int → Int} {r N : Int} (h : RG s r N) : RG s r (vl 50 (rg s r)) := by rw [h.1.2.2.2]; exact h
theorem RG.b {s : Int → Int → Int} {r N : Int} (h : RG s r N) : 0 ≤ N ∧ N < bp (s 145 r) := h.1.b
theorem rg_w (s : Int → Int → Int) (r k v i : Int) : rg (w2 s 144 (50 * r + k) v) r i = if i = k then v else rg s r i := by
  unfold rg
  rw [w2_e]
  by_cases c : i = k
  · rw [if_pos c, if_pos (by omega)]
  · rw [if_neg c, if_neg (by omega)]
theorem rg_5 (s : Int → Int → Int) (r v : Int) : rg (w2 s 145 r v) = rg s := by
  funext q i
  unfold rg
  rw [w2_k (by omega)]
theorem RF.w4 {s : Int → Int → Int} {r k v : Int} (h : 0 ≤ k ∧ k < 50) : RF (fun q => q = r) s (w2 s 144 (50 * r + k) v) :=
  ⟨fun a h1 _ => w2_k h1, fun q hq => ⟨by rw [w2_k (by omega)], fun i i0 i1 => by unfold rg; rw [w2_i (by omega)]⟩⟩
theorem RF.w5 {s : Int → Int → Int} {r v : Int} : RF (fun q => q = r) s (w2 s 145 r v) :=
  ⟨fun a _ h1 => w2_k h1, fun q hq => ⟨w2_i hq, fun i _ _ => by rw [rg_5]⟩⟩
theorem jor_hi {x p : Int} (hx : 0 ≤ x ∧ x < 536870912) (hp : 0 ≤ p) : jor x (p * 536870912) = x + p * 536870912 := by
  obtain ⟨m, rfl⟩ := nat_of hx.1
  obtain ⟨q, rfl⟩ := nat_of hp
  unfold jor
  rw [Int.toNat_natCast, show ((q : Int) * 536870912).toNat = 2 ^ 29 * q by omega, Nat.or_comm, ← Nat.two_pow_add_eq_or_of_lt (show m < 2 ^ 29 by omega) q]
  omega
theorem sp_X11_trims (s : Int → Int → Int) (r : Int) (hr : 0 ≤ r ∧ r < 15) (h : PG s r (rv s r)) : kR mX11_trims [jR 143, jI r] s (fun o s' => o = none ∧ RF (fun q => q = r) s s' ∧ RG s' r (rv s r)) := by
  refine g_X11_trims ?_
  have key : ∀ w, 0 ≤ w → ∀ s1, s1 145 r = w → PG s1 r (rv s r) → RF (fun q => q = r) s s1 → kK mX11_trims 0 [jR 143, jI r] [] s1 (fun o s' => o = none ∧ RF (fun q => q = r) s s' ∧ RG s' r (rv s r)) := by
    refine lp_dn 0 _ (fun w hw ih s1 e p f => ?_)
    have vw := p.vw
    obtain ⟨a, b, c, d⟩ := id p
    refine g_X11_trims_0 ?_
    rw [show 50 * r + s1 145 r - 1 = 50 * r + (w - 1) by omega, show s1 144 (50 * r + (w - 1)) = rg s1 r (w - 1) from rfl, e]
    rw [e] at a c vw
    refine ⟨hr, by unfold jr32; omega, fun q => ⟨rfl, f, p, Or.inl (by omega)⟩, fun q => ?_⟩
    have bw := b (w - 1) (by omega) (by omega)
    refine ⟨by omega, by unfold jr32; omega, fun z => ⟨rfl, f, p, Or.inr ?_⟩, fun z => ?_⟩
    · rw [e, ← vw]
      have s2 := vl_s (n := w - 1) (by omega) (rg s1 r)
      rw [show w - 1 + 1 = w by omega] at s2
      have v0 := vl_b (f := rg s1 r) (w - 1) (by omega) (b.le (by omega))
      have p2 := bp_pos (w - 1)
      have := Int.mul_le_mul_of_nonneg_right (show 1 ≤ rg s1 r (w - 1) by omega) (show 0 ≤ bp (w - 1) by omega)
      omega
    · refine ih (by omega) _ (w2_s _ _ _ _) ⟨by rw [w2_s]; omega, by rw [rg_5]; exact b, fun i i0 i1 => ?_, by rw [rg_5]; exact d⟩ (f.tr RF.w5)
      rw [w2_s] at i0
      rw [rg_5]
      by_cases x : i = w - 1
      · rw [x]; exact z
      · exact c i (by omega) i1
  exact key _ h.1.1 s rfl h RF.rf
theorem g_X11_sets {s : Int → Int → Int} {Q : Option jV → (Int → Int → Int) → Prop} {v1 v2 : Int} (v : kK mX11_sets 3 [jR 143, jI v1, jL v2, jU, jI 0] [] s Q) : kR mX11_sets [jR 143, jI v1, jL v2] s Q := by
  show kK mX11_sets 0 [jR 143, jI v1, jL v2, jU, jU] [] s Q
  refine k_iconst dX11_sets_0 ?_
  refine k_istore [jR 143, jI v1, jL v2, jU, jI 0] dX11_sets_1 rfl rfl ?_
  exact v
theorem g_X11_sets_3 {s : Int → Int → Int} {Q : Option jV → (Int → Int → Int) → Prop} {v1 v2 v4 : Int} (v : (jr32 v4 ∧ ((50 ≤ v4 → ((0 ≤ v1 ∧ v1 < 15) ∧ (PG (w2 s 145 v1 3) v1 (rv (w2 s 145 v1 3) v1)) ∧ (∀ (s6 : Int → Int → Int), (RF (fun q => q = v1) (w2 s 145 v1 3) s6 ∧ RG s6 v1 (rv (w2 s 145 v1 3) v1)) → Q none s6))) ∧ (¬ (50 ≤ v4) → ((3 ≤ v4 → ((0 ≤ ((50 * v1) + v4) ∧ ((50 * v1) + v4) < 750) ∧ kK mX11_sets 3 [jR 143, jI v1, jL v2, jU, jI (v4 + 1)] [] (w2 s 144 ((50 * v1) + v4) 0) Q)) ∧ (¬ (3 ≤ v4) → ((0 ≤ (30 * v4) ∧ (30 * v4) ≤ 63) ∧ jr64 v2 ∧ (0 ≤ ((50 * v1) + v4) ∧ ((50 * v1) + v4) < 750) ∧ kK mX11_sets 3 [jR 143, jI v1, jL v2, jU, jI (v4 + 1)] [] (w2 s 144 ((50 * v1) + v4) ((v2 / 2 ^ Int.toNat (30 * v4)) % 1073741824)) Q))))))) : kK mX11_sets 3 [jR 143, jI v1, jL v2, jU, jI v4] [] s Q := by
  obtain ⟨a1, v⟩ := v
  refine k_iload dX11_sets_3 rfl ?_
  refine k_bipush dX11_sets_5 rfl ?_
  obtain ⟨vt, vf⟩ := v
  refine k_icmp_ge 50 dX11_sets_7 rfl a1 (by decide) (fun c2 => ?_) (fun c2 => ?_)
  · have v := vt c2
    obtain ⟨a3, a4, v⟩ := v
    refine k_aload_n dX11_sets_50 rfl ?_
    refine k_getr dX11_sets_51 fl_X11_13 sh_143 (by decide) rfl ?_
    refine k_iload_n dX11_sets_54 rfl ?_
    refine k_iconst dX11_sets_55 ?_
    refine k_iast 15 dX11_sets_56 sh_145 (by decide) rfl (by decide) a3 ?_
    refine k_aload_n dX11_sets_57 rfl ?_
    refine k_iload_n dX11_sets_58 rfl ?_
    refine k_invVR [jI v1] [] dX11_sets_59 cm_X11_trims ml_X11_91 im_X11_trims se_X11_trims rfl sh_143 (by decide) rfl rfl (sp_X11_trims (w2 s 145 v1 3) v1 a3 a4) (fun _ s6 q7 => ?_)
    obtain ⟨rfl, q7⟩ := q7
    have v := v s6 q7
    exact k_return (st := []) dX11_sets_62 rfl v
  · have v := vf c2
    refine k_aload_n dX11_sets_10 rfl ?_
    refine k_getr dX11_sets_11 fl_X11_7 sh_143 (by decide) rfl ?_
    refine k_bipush dX11_sets_14 rfl ?_
    refine k_iload_n dX11_sets_16 rfl ?_
    refine k_imul dX11_sets_17 ?_
    refine k_iload dX11_sets_18 rfl ?_
    refine k_iadd dX11_sets_20 ?_
    refine k_iload dX11_sets_21 rfl ?_
    refine k_iconst dX11_sets_23 ?_
    obtain ⟨vt, vf⟩ := v
    refine k_icmp_ge 42 dX11_sets_24 rfl a1 (by decide) (fun c8 => ?_) (fun c8 => ?_)
    · have v := vt c8
      obtain ⟨a9, v⟩ := v
      refine k_iconst dX11_sets_42 ?_
      refine k_iast 750 dX11_sets_43 sh_144 (by decide) rfl (by decide) a9 ?_
      refine k_iinc [jR 143, jI v1, jL v2, jU, jI (v4 + 1)] dX11_sets_44 rfl rfl rfl ?_
      refine k_goto 3 dX11_sets_47 rfl ?_
      exact v
    · have v := vf c8
      obtain ⟨a10, a11, a12, v⟩ := v
      refine k_lload_n dX11_sets_27 rfl ?_
      refine k_bipush dX11_sets_28 rfl ?_
      refine k_iload dX11_sets_30 rfl ?_
      refine k_imul dX11_sets_32 ?_
      refine k_shrL dX11_sets_33 a11 a10 ?_
      refine k_ldc2 (1073741823) (1073741823) dX11_sets_34 kl_X11_89 rfl ?_
      refine k_andML dX11_sets_37 ?_
      refine k_l2i dX11_sets_38 ?_
      refine k_goto 43 dX11_sets_39 rfl ?_
      refine k_iast 750 dX11_sets_43 sh_144 (by decide) rfl (by decide) a12 ?_
      refine k_iinc [jR 143, jI v1, jL v2, jU, jI (v4 + 1)] dX11_sets_44 rfl rfl rfl ?_
      refine k_goto 3 dX11_sets_47 rfl ?_
      exact v
theorem g_X11_takes {s : Int → Int → Int} {Q : Option jV → (Int → Int → Int) → Prop} {v1 v2 : Int} (v : kK mX11_takes 2 [jR 143, jI v1, jI v2, jI 0] [] s Q) : kR mX11_takes [jR 143, jI v1, jI v2] s Q := by
  show kK mX11_takes 0 [jR 143, jI v1, jI v2, jU] [] s Q
  refine k_iconst dX11_takes_0 ?_
  refine k_istore_n [jR 143, jI v1, jI v2, jI 0] dX11_takes_1 rfl rfl ?_
  exact v
theorem g_X11_takes_2 {s : Int → Int → Int} {Q : Option jV → (Int → Int → Int) → Prop} {v1 v2 v3 : Int} (v : (jr32 v3 ∧ ((50 ≤ v3 → ((0 ≤ v2 ∧ v2 < 15) ∧ (0 ≤ v1 ∧ v1 < 15) ∧ Q none (w2 s 145 v1 (s 145 v2)))) ∧ (¬ (50 ≤ v3) → ((0 ≤ ((50 * v2) + v3) ∧ ((50 * v2) + v3) < 750) ∧ (0 ≤ ((50 * v1) + v3) ∧ ((50 * v1) + v3) < 750) ∧ kK mX11_takes 2 [jR 143, jI v1, jI v2, jI (v3 + 1)] [] (w2 s 144 ((50 * v1) + v3) (s 144 ((50 * v2) + v3))) Q))))) : kK mX11_takes 2 [jR 143, jI v1, jI v2, jI v3] [] s Q := by
  obtain ⟨a1, v⟩ := v
  refine k_iload_n dX11_takes_2 rfl ?_
  refine k_bipush dX11_takes_3 rfl ?_
  obtain ⟨vt, vf⟩ := v
  refine k_icmp_ge 36 dX11_takes_5 rfl a1 (by decide) (fun c2 => ?_) (fun c2 => ?_)
  · have v := vt c2
    obtain ⟨a3, a4, v⟩ := v
    refine k_aload_n dX11_takes_36 rfl ?_
    refine k_getr dX11_takes_37 fl_X11_13 sh_143 (by decide) rfl ?_
    refine k_iload_n dX11_takes_40 rfl ?_
    refine k_aload_n dX11_takes_41 rfl ?_
    refine k_getr dX11_takes_42 fl_X11_13 sh_143 (by decide) rfl ?_
    refine k_iload_n dX11_takes_45 rfl ?_
    refine k_iald 15 dX11_takes_46 sh_145 (by decide) rfl (by decide) a3 ?_
    refine k_iast 15 dX11_takes_47 sh_145 (by decide) rfl (by decide) a4 ?_
    exact k_return (st := []) dX11_takes_48 rfl v
  · have v := vf c2
    obtain ⟨a5, a6, v⟩ := v
    refine k_aload_n dX11_takes_8 rfl ?_
    refine k_getr dX11_takes_9 fl_X11_7 sh_143 (by decide) rfl ?_
    refine k_bipush dX11_takes_12 rfl ?_
    refine k_iload_n dX11_takes_14 rfl ?_
    refine k_imul dX11_takes_15 ?_
    refine k_iload_n dX11_takes_16 rfl ?_
    refine k_iadd dX11_takes_17 ?_
    refine k_aload_n dX11_takes_18 rfl ?_
    refine k_getr dX11_takes_19 fl_X11_7 sh_143 (by decide) rfl ?_
    refine k_bipush dX11_takes_22 rfl ?_
    refine k_iload_n dX11_takes_24 rfl ?_
    refine k_imul dX11_takes_25 ?_
    refine k_iload_n dX11_takes_26 rfl ?_
    refine k_iadd dX11_takes_27 ?_
    refine k_iald 750 dX11_takes_28 sh_144 (by decide) rfl (by decide) a5 ?_
    refine k_iast 750 dX11_takes_29 sh_144 (by decide) rfl (by decide) a6 ?_
    refine k_iinc [jR 143, jI v1, jI v2, jI (v3 + 1)] dX11_takes_30 rfl rfl rfl ?_
    refine k_goto 2 dX11_takes_33 rfl ?_
    exact v
def dig3 (v i : Int) : Int := if i < 3 then v / 2 ^ Int.toNat (30 * i) % 1073741824 else 0
theorem dig3_v {v : Int} (h : 0 ≤ v ∧ v ≤ 9223372036854775807) : vl 3 (dig3 v) = v := by
  have e : vl 3 (dig3 v) = ((0 + dig3 v 0 * 1) + dig3 v 1 * 1073741824) + dig3 v 2 * 1152921504606846976 := rfl
  have e0 : dig3 v 0 = v / 1 % 1073741824 := rfl
  have e1 : dig3 v 1 = v / 1073741824 % 1073741824 := rfl
  have e2 : dig3 v 2 = v / 1152921504606846976 % 1073741824 := rfl
  rw [e, e0, e1, e2]; omega
theorem sp_X11_sets (s : Int → Int → Int) (r v : Int) (hr : 0 ≤ r ∧ r < 15) (hv : 0 ≤ v ∧ v ≤ 9223372036854775807) : kR mX11_sets [jR 143, jI r, jL v] s (fun o s' => o = none ∧ RF (fun q => q = r) s s' ∧ RG s' r v) := by
  refine g_X11_sets ?_
  have key : ∀ k, k ≤ 50 → 0 ≤ k → ∀ s1, (∀ i, 0 ≤ i → i < k → rg s1 r i = dig3 v i) → RF (fun q => q = r) s s1 → kK mX11_sets 3 [jR 143, jI r, jL v, jU, jI k] [] s1 (fun o s' => o = none ∧ RF (fun q => q = r) s s' ∧ RG s' r v) := by
    refine lp_up 50 _ (fun k hk ih k0 s1 e f => ?_)
    have st : ∀ d, d = dig3 v k → k < 50 → kK mX11_sets 3 [jR 143, jI r, jL v, jU, jI (k + 1)] [] (w2 s1 144 (50 * r + k) d) (fun o s' => o = none ∧ RF (fun q => q = r) s s' ∧ RG s' r v) := fun d hd hk2 => by
      refine ih hk2 (by omega) _ (fun i i0 i1 => ?_) (f.tr (RF.w4 ⟨k0, hk2⟩))
      rw [rg_w]
      by_cases c : i = k
      · rw [if_pos c, c, hd]
      · rw [if_neg c]; exact e i i0 (by omega)
    refine g_X11_sets_3 ⟨by unfold jr32; omega, fun q => ⟨hr, ?_⟩, fun q => ⟨fun q2 => ⟨by omega, st 0 ?_ (by omega)⟩, fun q2 => ⟨by omega, by unfold jr64; omega, by omega, st _ ?_ (by omega)⟩⟩⟩
    · have e50 : ∀ i, 0 ≤ i → i < 50 → rg (w2 s1 145 r 3) r i = dig3 v i := fun i i0 i1 => by rw [rg_5]; exact e i i0 (by omega)
      have dg : dgt 50 (dig3 v) := fun i _ _ => by
        unfold dig3
        by_cases c : i < 3
        · rw [if_pos c]; omega
        · rw [if_neg c]; omega
      have vv : vl 50 (rg (w2 s1 145 r 3) r) = v := by
        rw [vl_c 50 (by omega) e50, vl_z0 (f := dig3 v) (n := 3) (m := 50) (by omega) (by omega) (fun i i0 _ => if_neg (by omega)), dig3_v hv]
      have p : PG (w2 s1 145 r 3) r v := ⟨by rw [w2_s]; omega, fun i i0 i1 => by rw [e50 i i0 i1]; exact dg i i0 i1, fun i i0 i1 => by rw [w2_s] at i0; rw [e50 i (by omega) i1]; exact if_neg (by omega), vv⟩
      refine ⟨by rw [p.rv]; exact p, fun s2 q3 => ?_⟩
      rw [p.rv] at q3
      exact ⟨rfl, (f.tr RF.w5).tr q3.1, q3.2⟩
    · unfold dig3; rw [if_neg (by omega)]
    · unfold dig3; rw [if_pos (by omega)]
  exact key 0 (by omega) (by omega) s (fun i i0 i1 => by omega) RF.rf
theorem sp_X11_takes (s : Int → Int → Int) (r o : Int) (hr : (0 ≤ r ∧ r < 15) ∧ (0 ≤ o ∧ o < 15) ∧ r ≠ o) (h : RG s o (rv s o)) : kR mX11_takes [jR 143, jI r, jI o] s (fun u s' => u = none ∧ RF (fun q => q = r) s s' ∧ RG s' r (rv s o)) := by
  obtain ⟨h1, h2, h3⟩ := hr
  refine g_X11_takes ?_
  have key : ∀ k, k ≤ 50 → 0 ≤ k → ∀ s1, (∀ i, 0 ≤ i → i < k → rg s1 r i = rg s o i) → RF (fun q => q = r) s s1 → kK mX11_takes 2 [jR 143, jI r, jI o, jI k] [] s1 (fun u s' => u = none ∧ RF (fun q => q = r) s s' ∧ RG s' r (rv s o)) := by
    refine lp_up 50 _ (fun k hk ih k0 s1 e f => ?_)
    obtain ⟨f1, f2⟩ := f.2 o (fun c => h3 c.symm)
    refine g_X11_takes_2 ⟨by unfold jr32; omega, fun q => ⟨h2, h1, rfl, f.tr RF.w5, ?_⟩, fun q => ⟨by omega, by omega, ?_⟩⟩
    · rw [f1]
      obtain ⟨⟨a, b, c, d⟩, m⟩ := h
      have e50 : ∀ i, 0 ≤ i → i < 50 → rg (w2 s1 145 r (s 145 o)) r i = rg s o i := fun i i0 i1 => by rw [rg_5]; exact e i i0 (by omega)
      exact ⟨⟨by rw [w2_s]; exact a, fun i i0 i1 => by rw [e50 i i0 i1]; exact b i i0 i1, fun i i0 i1 => by rw [w2_s] at i0; rw [e50 i (by omega) i1]; exact c i i0 i1, by rw [vl_c 50 (by omega) e50]; exact d⟩, by rw [w2_s]; exact m⟩
    · refine ih (by omega) (by omega) _ (fun i i0 i1 => ?_) (f.tr (RF.w4 (by omega)))
      rw [rg_w]
      by_cases c : i = k
      · rw [if_pos c, c]; exact f2 k k0 (by omega)
      · rw [if_neg c]; exact e i i0 (by omega)
  exact key 0 (by omega) (by omega) s (fun i i0 i1 => by omega) RF.rf
theorem g_X11_isEven {s : Int → Int → Int} {Q : Option jV → (Int → Int → Int) → Prop} {v1 : Int} (v : ((0 ≤ (50 * v1) ∧ (50 * v1) < 750) ∧ jr32 ((s 144 (50 * v1)) % 2) ∧ ((((s 144 (50 * v1)) % 2) ≠ 0 → Q (some (jI 0)) s) ∧ (((s 144 (50 * v1)) % 2) = 0 → Q (some (jI 1)) s)))) : kR mX11_isEven [jR 143, jI v1] s Q := by
  show kK mX11_isEven 0 [jR 143, jI v1] [] s Q
  obtain ⟨a1, a2, v⟩ := v
  refine k_aload_n dX11_isEven_0 rfl ?_
  refine k_getr dX11_isEven_1 fl_X11_7 sh_143 (by decide) rfl ?_
  refine k_bipush dX11_isEven_4 rfl ?_
  refine k_iload_n dX11_isEven_6 rfl ?_
  refine k_imul dX11_isEven_7 ?_
  refine k_iald 750 dX11_isEven_8 sh_144 (by decide) rfl (by decide) a1 ?_
  refine k_iconst dX11_isEven_9 ?_
  refine k_and1 dX11_isEven_10 ?_
  obtain ⟨vt, vf⟩ := v
  refine k_if_ne 18 dX11_isEven_11 rfl a2 (fun c3 => ?_) (fun c3 => ?_)
  · have v := vt c3
    refine k_iconst dX11_isEven_18 ?_
    exact k_zreturn (st := []) dX11_isEven_19 rfl (Or.inl rfl) v
  · have v := vf c3
    refine k_iconst dX11_isEven_14 ?_
    refine k_goto 19 dX11_isEven_15 rfl ?_
    exact k_zreturn (st := []) dX11_isEven_19 rfl (Or.inr rfl) v
theorem g_X11_halves {s : Int → Int → Int} {Q : Option jV → (Int → Int → Int) → Prop} {v1 : Int} (v : kK mX11_halves 2 [jR 143, jI v1, jI 0, jU] [] s Q) : kR mX11_halves [jR 143, jI v1] s Q := by
  show kK mX11_halves 0 [jR 143, jI v1, jU, jU] [] s Q
  refine k_iconst dX11_halves_0 ?_
  refine k_istore_n [jR 143, jI v1, jI 0, jU] dX11_halves_1 rfl rfl ?_
  exact v
theorem g_X11_halves_2 {s : Int → Int → Int} {Q : Option jV → (Int → Int → Int) → Prop} {v1 v2 : Int} (v : ((0 ≤ v1 ∧ v1 < 15) ∧ jr32 v2 ∧ jr32 (s 145 v1) ∧ (((s 145 v1) ≤ v2 → ((PG s v1 (rv s v1)) ∧ (∀ (s7 : Int → Int → Int), (RF (fun q => q = v1) s s7 ∧ RG s7 v1 (rv s v1)) → Q none s7))) ∧ (¬ ((s 145 v1) ≤ v2) → (jr32 (v2 + 1) ∧ (((s 145 v1) ≤ (v2 + 1) → ((0 ≤ ((50 * v1) + v2) ∧ ((50 * v1) + v2) < 750) ∧ jr32 (s 144 ((50 * v1) + v2)) ∧ (0 ≤ ((s 144 ((50 * v1) + v2)) / 2 ^ Int.toNat 1)) ∧ (0 ≤ ((0 : Int) * 2 ^ Int.toNat 29)) ∧ kK mX11_halves 2 [jR 143, jI v1, jI (v2 + 1), jU] [] (w2 s 144 ((50 * v1) + v2) (jor ((s 144 ((50 * v1) + v2)) / 2 ^ Int.toNat 1) ((0 : Int) * 2 ^ Int.toNat 29))) Q)) ∧ (¬ ((s 145 v1) ≤ (v2 + 1)) → ((0 ≤ (((50 * v1) + v2) + 1) ∧ (((50 * v1) + v2) + 1) < 750) ∧ (0 ≤ ((50 * v1) + v2) ∧ ((50 * v1) + v2) < 750) ∧ jr32 (s 144 ((50 * v1) + v2)) ∧ (0 ≤ ((s 144 ((50 * v1) + v2)) / 2 ^ Int.toNat 1)) ∧ (0 ≤ (((s 144 (((50 * v1) + v2) + 1)) % 2) * 2 ^ Int.toNat 29)) ∧ kK mX11_halves 2 [jR 143, jI v1, jI (v2 + 1), jU] [] (w2 s 144 ((50 * v1) + v2) (jor ((s 144 ((50 * v1) + v2)) / 2 ^ Int.toNat 1) (((s 144 (((50 * v1) + v2) + 1)) % 2) * 2 ^ Int.toNat 29))) Q)))))))) : kK mX11_halves 2 [jR 143, jI v1, jI v2, jU] [] s Q := by
  obtain ⟨a1, a2, a3, v⟩ := v
  refine k_iload_n dX11_halves_2 rfl ?_
  refine k_aload_n dX11_halves_3 rfl ?_
  refine k_getr dX11_halves_4 fl_X11_13 sh_143 (by decide) rfl ?_
  refine k_iload_n dX11_halves_7 rfl ?_
  refine k_iald 15 dX11_halves_8 sh_145 (by decide) rfl (by decide) a1 ?_
  obtain ⟨vt, vf⟩ := v
  refine k_icmp_ge 79 dX11_halves_9 rfl a2 a3 (fun c4 => ?_) (fun c4 => ?_)
  · have v := vt c4
    obtain ⟨a5, v⟩ := v
    refine k_aload_n dX11_halves_79 rfl ?_
    refine k_iload_n dX11_halves_80 rfl ?_
    refine k_invVR [jI v1] [] dX11_halves_81 cm_X11_trims ml_X11_91 im_X11_trims se_X11_trims rfl sh_143 (by decide) rfl rfl (sp_X11_trims s v1 a1 a5) (fun _ s7 q8 => ?_)
    obtain ⟨rfl, q8⟩ := q8
    have v := v s7 q8
    exact k_return (st := []) dX11_halves_84 rfl v
  · have v := vf c4
    obtain ⟨a9, v⟩ := v
    refine k_iload_n dX11_halves_12 rfl ?_
    refine k_iconst dX11_halves_13 ?_
    refine k_iadd dX11_halves_14 ?_
    refine k_aload_n dX11_halves_15 rfl ?_
    refine k_getr dX11_halves_16 fl_X11_13 sh_143 (by decide) rfl ?_
    refine k_iload_n dX11_halves_19 rfl ?_
    refine k_iald 15 dX11_halves_20 sh_145 (by decide) rfl (by decide) a1 ?_
    obtain ⟨vt, vf⟩ := v
    refine k_icmp_ge 42 dX11_halves_21 rfl a9 a3 (fun c10 => ?_) (fun c10 => ?_)
    · have v := vt c10
      obtain ⟨a11, a12, a13, a14, v⟩ := v
      refine k_iconst dX11_halves_42 ?_
      refine k_istore_n [jR 143, jI v1, jI v2, jI 0] dX11_halves_43 rfl rfl ?_
      refine k_aload_n dX11_halves_44 rfl ?_
      refine k_getr dX11_halves_45 fl_X11_7 sh_143 (by decide) rfl ?_
      refine k_bipush dX11_halves_48 rfl ?_
      refine k_iload_n dX11_halves_50 rfl ?_
      refine k_imul dX11_halves_51 ?_
      refine k_iload_n dX11_halves_52 rfl ?_
      refine k_iadd dX11_halves_53 ?_
      refine k_aload_n dX11_halves_54 rfl ?_
      refine k_getr dX11_halves_55 fl_X11_7 sh_143 (by decide) rfl ?_
      refine k_bipush dX11_halves_58 rfl ?_
      refine k_iload_n dX11_halves_60 rfl ?_
      refine k_imul dX11_halves_61 ?_
      refine k_iload_n dX11_halves_62 rfl ?_
      refine k_iadd dX11_halves_63 ?_
      refine k_iald 750 dX11_halves_64 sh_144 (by decide) rfl (by decide) a11 ?_
      refine k_iconst dX11_halves_65 ?_
      refine k_shr dX11_halves_66 a12 (by decide) ?_
      refine k_iload_n dX11_halves_67 rfl ?_
      refine k_bipush dX11_halves_68 rfl ?_
      refine k_shl dX11_halves_70 (by decide) ?_
      refine k_or dX11_halves_71 a13 a14 ?_
      refine k_iast 750 dX11_halves_72 sh_144 (by decide) rfl (by decide) a11 ?_
      refine k_iinc [jR 143, jI v1, jI (v2 + 1), jI 0] dX11_halves_73 rfl rfl rfl ?_
      refine k_goto 2 dX11_halves_76 rfl ?_
      refine k_drop [jR 143, jI v1, jI (v2 + 1), jU] ⟨Or.inr rfl, Or.inr rfl, Or.inr rfl, Or.inl rfl, trivial⟩ ?_
      exact v
    · have v := vf c10
      obtain ⟨a15, a16, a17, a18, a19, v⟩ := v
      refine k_aload_n dX11_halves_24 rfl ?_
      refine k_getr dX11_halves_25 fl_X11_7 sh_143 (by decide) rfl ?_
      refine k_bipush dX11_halves_28 rfl ?_
      refine k_iload_n dX11_halves_30 rfl ?_
      refine k_imul dX11_halves_31 ?_
      refine k_iload_n dX11_halves_32 rfl ?_
      refine k_iadd dX11_halves_33 ?_
      refine k_iconst dX11_halves_34 ?_
      refine k_iadd dX11_halves_35 ?_
      refine k_iald 750 dX11_halves_36 sh_144 (by decide) rfl (by decide) a15 ?_
      refine k_iconst dX11_halves_37 ?_
      refine k_and1 dX11_halves_38 ?_
      refine k_goto 43 dX11_halves_39 rfl ?_
      refine k_istore_n [jR 143, jI v1, jI v2, jI ((s 144 (((50 * v1) + v2) + 1)) % 2)] dX11_halves_43 rfl rfl ?_
      refine k_aload_n dX11_halves_44 rfl ?_
      refine k_getr dX11_halves_45 fl_X11_7 sh_143 (by decide) rfl ?_
      refine k_bipush dX11_halves_48 rfl ?_
      refine k_iload_n dX11_halves_50 rfl ?_
      refine k_imul dX11_halves_51 ?_
      refine k_iload_n dX11_halves_52 rfl ?_
      refine k_iadd dX11_halves_53 ?_
      refine k_aload_n dX11_halves_54 rfl ?_
      refine k_getr dX11_halves_55 fl_X11_7 sh_143 (by decide) rfl ?_
      refine k_bipush dX11_halves_58 rfl ?_
      refine k_iload_n dX11_halves_60 rfl ?_
      refine k_imul dX11_halves_61 ?_
      refine k_iload_n dX11_halves_62 rfl ?_
      refine k_iadd dX11_halves_63 ?_
      refine k_iald 750 dX11_halves_64 sh_144 (by decide) rfl (by decide) a16 ?_
      refine k_iconst dX11_halves_65 ?_
      refine k_shr dX11_halves_66 a17 (by decide) ?_
      refine k_iload_n dX11_halves_67 rfl ?_
      refine k_bipush dX11_halves_68 rfl ?_
      refine k_shl dX11_halves_70 (by decide) ?_
      refine k_or dX11_halves_71 a18 a19 ?_
      refine k_iast 750 dX11_halves_72 sh_144 (by decide) rfl (by decide) a16 ?_
      refine k_iinc [jR 143, jI v1, jI (v2 + 1), jI ((s 144 (((50 * v1) + v2) + 1)) % 2)] dX11_halves_73 rfl rfl rfl ?_
      refine k_goto 2 dX11_halves_76 rfl ?_
      refine k_drop [jR 143, jI v1, jI (v2 + 1), jU] ⟨Or.inr rfl, Or.inr rfl, Or.inr rfl, Or.inl rfl, trivial⟩ ?_
      exact v
theorem sp_X11_isEven (s : Int → Int → Int) (r : Int) (hr : 0 ≤ r ∧ r < 15) (h : RG s r (rv s r)) : kM mX11_isEven [jR 143, jI r] s (some (jI (jbo (rv s r % 2 = 0)))) s := by
  have e : s 144 (50 * r) = rg s r 0 := by unfold rg; rw [Int.add_zero]
  have l := vl_l (rg s r) (m := 49) (by omega)
  have : rv s r % 2 = s 144 (50 * r) % 2 := by
    rw [e]
    show vl (49 + 1) (rg s r) % 2 = _
    rw [l]; omega
  refine g_X11_isEven ⟨by omega, by unfold jr32; omega, fun q => ⟨by rw [jbo_f (by omega)], rfl⟩, fun q => ⟨by rw [jbo_t (by omega)], rfl⟩⟩
def par2 (s : Int → Int → Int) (r k : Int) : Int := if k < s 145 r then rg s r k % 2 else 0
theorem sp_X11_halves (s : Int → Int → Int) (r : Int) (hr : 0 ≤ r ∧ r < 15) (h : RG s r (rv s r)) : kR mX11_halves [jR 143, jI r] s (fun o s' => o = none ∧ RF (fun q => q = r) s s' ∧ RG s' r (rv s r / 2)) := by
  have vw := h.1.vw
  obtain ⟨⟨a, b, c, d⟩, -⟩ := id h
  refine g_X11_halves ?_
  have p01 : ∀ k, 0 ≤ par2 s r k ∧ par2 s r k ≤ 1 := fun k => by
    unfold par2
    by_cases x : k < s 145 r
    · rw [if_pos x]; omega
    · rw [if_neg x]; omega
  have key : ∀ k, k ≤ s 145 r → 0 ≤ k → ∀ s1, (∀ i, 0 ≤ i → i < k → rg s1 r i = rg s r i / 2 + par2 s r (i + 1) * 536870912) → (∀ i, k ≤ i → rg s1 r i = rg s r i) → s1 145 r = s 145 r → RF (fun q => q = r) s s1 → kK mX11_halves 2 [jR 143, jI r, jI k, jU] [] s1 (fun o s' => o = none ∧ RF (fun q => q = r) s s' ∧ RG s' r (rv s r / 2)) := by
    refine lp_up _ _ (fun k hk ih k0 s1 e g w f => ?_)
    refine g_X11_halves_2 ?_
    rw [w, show s1 144 (50 * r + k) = rg s1 r k from rfl, show 50 * r + k + 1 = 50 * r + (k + 1) by omega, show s1 144 (50 * r + (k + 1)) = rg s1 r (k + 1) from rfl, g k (by omega), g (k + 1) (by omega), show (2 : Int) ^ Int.toNat 1 = 2 from rfl, show (2 : Int) ^ Int.toNat 29 = 536870912 from rfl]
    have st : k < s 145 r → ∀ p, p = par2 s r (k + 1) → kK mX11_halves 2 [jR 143, jI r, jI (k + 1), jU] [] (w2 s1 144 (50 * r + k) (jor (rg s r k / 2) (p * 536870912))) (fun o s' => o = none ∧ RF (fun q => q = r) s s' ∧ RG s' r (rv s r / 2)) := fun k1 p hp => by
      have bk := b k k0 (by omega)
      have := p01 (k + 1)
      rw [jor_hi (by omega) (by omega), hp]
      refine ih k1 (by omega) _ (fun i i0 i1 => ?_) (fun i i0 => ?_) (by rw [w2_k (by omega)]; exact w) (f.tr (RF.w4 (by omega)))
      · rw [rg_w]
        by_cases x : i = k
        · rw [if_pos x, x]
        · rw [if_neg x]; exact e i i0 (by omega)
      · rw [rg_w, if_neg (by omega)]; exact g i (by omega)
    refine ⟨hr, by unfold jr32; omega, by unfold jr32; omega, fun q => ?_, fun q => ⟨by unfold jr32; omega, fun q2 => ?_, fun q2 => ?_⟩⟩
    · have kw : k = s 145 r := by omega
      have sum : ∀ m, 0 ≤ m → m ≤ k → 2 * vl m (rg s1 r) + rg s r 0 % 2 = vl m (rg s r) + par2 s r m * bp m := by
        refine in_up _ (fun hm => ?_) (fun m hm jh hm1 => ?_)
        · rw [vl_0, vl_0, bp_0]
          unfold par2
          by_cases x : 0 < s 145 r
          · rw [if_pos x]; omega
          · rw [if_neg x, c 0 (by omega) (by omega)]; omega
        · have i1 := jh (by omega)
          have em := e m hm (by omega)
          rw [vl_s hm, vl_s hm, bp_s hm, em]
          have pm : par2 s r m = rg s r m % 2 := if_pos (by omega)
          rw [pm] at i1
          have t : rg s r m = 2 * (rg s r m / 2) + rg s r m % 2 := by omega
          generalize rg s r m / 2 = u at t ⊢
          generalize rg s r m % 2 = z at t i1
          rw [t]
          grind
      have fin := sum k k0 (by omega)
      have pk : par2 s r k = 0 := if_neg (by omega)
      rw [pk, kw, vw] at fin
      have dg : dgt 50 (rg s1 r) := fun i i0 i1 => by
        by_cases x : i < k
        · have := b i i0 i1
          have := p01 (i + 1)
          rw [e i i0 x]; omega
        · rw [g i (by omega)]; exact b i i0 i1
      have z : ∀ i, s 145 r ≤ i → i < 50 → rg s1 r i = 0 := fun i i0 i1 => by rw [g i (by omega)]; exact c i i0 i1
      have p : PG s1 r (rv s r / 2) := ⟨by rw [w]; exact a, dg, by rw [w]; exact z, by rw [vl_z0 a.1 a.2 z]; omega⟩
      refine ⟨by rw [p.rv]; exact p, fun s2 q3 => ?_⟩
      rw [p.rv] at q3
      exact ⟨rfl, f.tr q3.1, q3.2⟩
    · have bk := b k k0 (by omega)
      refine ⟨by omega, by unfold jr32; omega, by omega, by omega, st (by omega) 0 ?_⟩
      unfold par2; rw [if_neg (by omega)]
    · have bk := b k k0 (by omega)
      have bk1 := b (k + 1) (by omega) (by omega)
      refine ⟨by omega, by omega, by unfold jr32; omega, by omega, by omega, st (by omega) _ ?_⟩
      unfold par2; rw [if_pos (by omega)]
  exact key 0 (by omega) (by omega) s (fun i i0 i1 => by omega) (fun i _ => rfl) rfl RF.rf
