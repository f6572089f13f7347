/-! the greatest common divisor -/
def gc (a b : Int) : Int := ((Nat.gcd a.toNat b.toNat : Nat) : Int)
theorem nat_of {a : Int} (h : 0 ≤ a) : ∃ m : Nat, a = (m : Int) := ⟨a.toNat, by omega⟩
theorem gc_n (m n : Nat) : gc (m : Int) (n : Int) = ((Nat.gcd m n : Nat) : Int) := by
  unfold gc
  rw [Int.toNat_natCast, Int.toNat_natCast]
theorem gc_0 {a : Int} (h : 0 ≤ a) : gc a 0 = a := by
  obtain ⟨m, rfl⟩ := nat_of h
  have := gc_n m 0
  rw [Nat.gcd_zero_right] at this
  exact this
theorem gc_0l {a : Int} (h : 0 ≤ a) : gc 0 a = a := by
  obtain ⟨m, rfl⟩ := nat_of h
  have := gc_n 0 m
  rw [Nat.gcd_zero_left] at this
  exact this
theorem gc_comm (a b : Int) : gc a b = gc b a := by
  unfold gc
  rw [Nat.gcd_comm]
theorem gc_rec {a b : Int} (h : 0 ≤ a) (g : 0 ≤ b) : gc a b = gc b (a % b) := by
  obtain ⟨m, rfl⟩ := nat_of h
  obtain ⟨n, rfl⟩ := nat_of g
  rw [show ((m : Int) % (n : Int)) = ((m % n : Nat) : Int) from rfl, gc_n, gc_n, Nat.gcd_comm, Nat.gcd_rec, Nat.gcd_comm]
theorem gc_pos {a b : Int} (g : 0 < b) : 1 ≤ gc a b := by
  unfold gc
  have : 0 < Nat.gcd a.toNat b.toNat := Nat.gcd_pos_of_pos_right _ (by omega)
  omega
theorem gc_div {a b : Int} (h : 0 ≤ a) (g : 0 < b) : a / gc a b * gc a b = a ∧ b / gc a b * gc a b = b ∧ 0 ≤ a / gc a b ∧ 1 ≤ b / gc a b := by
  have p := gc_pos (a := a) g
  obtain ⟨m, rfl⟩ := nat_of h
  obtain ⟨n, rfl⟩ := nat_of (show 0 ≤ b by omega)
  rw [gc_n] at p ⊢
  have e1 : m / Nat.gcd m n * Nat.gcd m n = m := Nat.div_mul_cancel (Nat.gcd_dvd_left m n)
  have e2 : n / Nat.gcd m n * Nat.gcd m n = n := Nat.div_mul_cancel (Nat.gcd_dvd_right m n)
  rw [show ((m : Int) / ((Nat.gcd m n : Nat) : Int)) = ((m / Nat.gcd m n : Nat) : Int) from rfl, show ((n : Int) / ((Nat.gcd m n : Nat) : Int)) = ((n / Nat.gcd m n : Nat) : Int) from rfl]
  refine ⟨by rw [← Int.natCast_mul, e1], by rw [← Int.natCast_mul, e2], by generalize m / Nat.gcd m n = u; omega, ?_⟩
  by_cases c : n / Nat.gcd m n = 0
  · rw [c, Nat.zero_mul] at e2; omega
  · generalize n / Nat.gcd m n = u at c ⊢
    omega
/-- lowest terms are one -/
theorem gc_uq {a b x y d : Int} (hx : 0 ≤ x) (hy : 0 ≤ y) (hd : 0 < d) (e1 : x * d = a) (e2 : y * d = b) (h : ∀ e : Nat, e ∣ x.toNat → e ∣ y.toNat → e = 1) : x = a / gc a b ∧ y = b / gc a b := by
  obtain ⟨m, rfl⟩ := nat_of hx
  obtain ⟨n, rfl⟩ := nat_of hy
  obtain ⟨k, rfl⟩ := nat_of (show 0 ≤ d by omega)
  rw [← Int.natCast_mul] at e1 e2
  subst e1 e2
  rw [Int.toNat_natCast, Int.toNat_natCast] at h
  have g : Nat.gcd m n = 1 := h _ (Nat.gcd_dvd_left m n) (Nat.gcd_dvd_right m n)
  rw [gc_n, Nat.gcd_mul_right, g, Nat.one_mul]
  have k0 : 0 < k := by omega
  refine ⟨?_, ?_⟩
  · show (m : Int) = ((m * k / k : Nat) : Int)
    rw [Nat.mul_div_cancel _ k0]
  · show (n : Int) = ((n * k / k : Nat) : Int)
    rw [Nat.mul_div_cancel _ k0]
theorem g_X0_carryOn {s : Int → Int → Int} {Q : Option jV → (Int → Int → Int) → Prop} {x v1 : Int} (hb : jBig x) (v : kK mX0_carryOn 2 [jR x, jU, jU, jL v1, jU] [] s Q) : kR mX0_carryOn [jR x, jL v1] s Q := by
  show kK mX0_carryOn 0 [jR x, jL v1, jU, jU, jU] [] s Q
  refine k_lload_n dX0_carryOn_0 rfl ?_
  refine k_lstore_n [jR x, jL v1, jU, jL v1, jU] dX0_carryOn_1 rfl rfl ?_
  refine k_drop [jR x, jU, jU, jL v1, jU] ⟨Or.inr rfl, Or.inl rfl, Or.inr rfl, Or.inr rfl, Or.inr rfl, trivial⟩ ?_
  exact v
theorem g_X0_carryOn_2 {s : Int → Int → Int} {Q : Option jV → (Int → Int → Int) → Prop} {v3 x : Int} (hb : jBig x) (v : (jr64 v3 ∧ ((v3 ≤ 0 → Q none s) ∧ (¬ (v3 ≤ 0) → (jr32 (s x 1) ∧ ((16 ≤ (s x 1) → Q none s) ∧ (¬ (16 ≤ (s x 1)) → ((0 ≤ (s x 1) ∧ (s x 1) < 16) ∧ kK mX0_carryOn 2 [jR x, jU, jU, jL (v3 / 2 ^ Int.toNat 30), jU] [] (w2 (w2 s (x + 1) (s x 1) (v3 % 1073741824)) x 1 (((w2 s (x + 1) (s x 1) (v3 % 1073741824)) x 1) + 1)) Q)))))))) : kK mX0_carryOn 2 [jR x, jU, jU, jL v3, jU] [] s Q := by
  obtain ⟨a1, v⟩ := v
  refine k_lload_n dX0_carryOn_2 rfl ?_
  refine k_lconst 0 dX0_carryOn_3 rfl ?_
  obtain ⟨vt, vf⟩ := v
  refine k_lcmp_if_le 50 dX0_carryOn_4 dX0_carryOn_5 rfl a1 (by decide) (fun c2 => ?_) (fun c2 => ?_)
  · have v := vt c2
    exact k_return (st := []) dX0_carryOn_50 rfl v
  · have v := vf c2
    obtain ⟨a3, v⟩ := v
    refine k_aload_n dX0_carryOn_8 rfl ?_
    refine k_geti 1 dX0_carryOn_9 fl_X0_13 hb.1 (jbr0 hb) rfl rfl ?_
    refine k_bipush dX0_carryOn_12 rfl ?_
    obtain ⟨vt, vf⟩ := v
    refine k_icmp_ge 50 dX0_carryOn_14 rfl a3 (by decide) (fun c4 => ?_) (fun c4 => ?_)
    · have v := vt c4
      exact k_return (st := []) dX0_carryOn_50 rfl v
    · have v := vf c4
      obtain ⟨a5, v⟩ := v
      refine k_aload_n dX0_carryOn_17 rfl ?_
      refine k_getr dX0_carryOn_18 fl_X0_9 hb.1 (jbr0 hb) rfl ?_
      refine k_aload_n dX0_carryOn_21 rfl ?_
      refine k_geti 1 dX0_carryOn_22 fl_X0_13 hb.1 (jbr0 hb) rfl rfl ?_
      refine k_lload_n dX0_carryOn_25 rfl ?_
      refine k_ldc2 (1073741823) (1073741823) dX0_carryOn_26 kl_X0_27 rfl ?_
      refine k_andML dX0_carryOn_29 ?_
      refine k_l2i dX0_carryOn_30 ?_
      refine k_iast 16 dX0_carryOn_31 hb.2.1 (jbr1 hb) rfl (by decide) a5 ?_
      refine k_aload_n dX0_carryOn_32 rfl ?_
      refine k_dup dX0_carryOn_33 rfl ?_
      refine k_geti 1 dX0_carryOn_34 fl_X0_13 hb.1 (jbr0 hb) rfl rfl ?_
      refine k_iconst dX0_carryOn_37 ?_
      refine k_iadd dX0_carryOn_38 ?_
      refine k_put 1 dX0_carryOn_39 ct_X0 (by decide) fw_X0_13 rfl rfl hb.1 (jbr hb) rfl rfl ?_
      refine k_lload_n dX0_carryOn_42 rfl ?_
      refine k_bipush dX0_carryOn_43 rfl ?_
      refine k_shrL dX0_carryOn_45 a1 (by decide) ?_
      refine k_lstore_n [jR x, jU, jU, jL (v3 / 2 ^ Int.toNat 30), jU] dX0_carryOn_46 rfl rfl ?_
      refine k_goto 2 dX0_carryOn_47 rfl ?_
      exact v
theorem dm_mul (c p : Int) : (c % 1073741824) * p + (c / 1073741824) * (p * 1073741824) = c * p := by
  have e : c = c % 1073741824 + 1073741824 * (c / 1073741824) := by omega
  generalize c % 1073741824 = u at e ⊢
  generalize c / 1073741824 = w at e ⊢
  subst e
  grind
def coT (s : Int → Int → Int) (x c : Int) : Int := vl (s x 1) (s (x + 1)) + c * bp (s x 1)
def CO (s : Int → Int → Int) (x c : Int) : Prop := (0 ≤ s x 1 ∧ s x 1 ≤ 16) ∧ dgt (s x 1) (s (x + 1)) ∧ (0 ≤ c ∧ c ≤ 9223372036854775807) ∧ coT s x c < bp 16 ∧ (s x 1 = 0 ∨ bp (s x 1 - 1) ≤ coT s x c)
theorem BG.b {s : Int → Int → Int} {x N : Int} (h : BG s x N) : 0 ≤ N ∧ N < bp (s x 1) := by
  have := vl_b (f := s (x + 1)) (s x 1) h.1.1 h.2.1
  rw [h.2.2.1] at this
  exact this
theorem BG.fr {s s' : Int → Int → Int} {x N : Int} (h : BG s x N) (e1 : s' x = s x) (e2 : s' (x + 1) = s (x + 1)) : BG s' x N := by
  unfold BG at h ⊢
  rw [e1, e2]; exact h
theorem sp_X0_carryOn (s : Int → Int → Int) (x c : Int) (hb : jBig x) (co : CO s x c) : kR mX0_carryOn [jR x, jL c] s (fun r s' => r = none ∧ frm (fun k => k = x ∨ k = x + 1) s s' ∧ BG s' x (coT s x c)) := by
  refine g_X0_carryOn hb ?_
  have key : ∀ n, n ≤ 16 → ∀ s1 d, s1 x 1 = n → CO s1 x d → coT s1 x d = coT s x c → frm (fun k => k = x ∨ k = x + 1) s s1 → kK mX0_carryOn 2 [jR x, jU, jU, jL d, jU] [] s1 (fun r s' => r = none ∧ frm (fun k => k = x ∨ k = x + 1) s s' ∧ BG s' x (coT s x c)) := by
    refine lp_up 16 _ (fun n hn ih s1 d e co t f => ?_)
    obtain ⟨a1, a2, a3, a4, a5⟩ := co
    have p := bp_pos (s1 x 1)
    have vb := vl_b (f := s1 (x + 1)) (s1 x 1) a1.1 a2
    refine g_X0_carryOn_2 hb ⟨by unfold jr64; omega, fun q => ⟨rfl, f, ?_⟩, fun q => ⟨by unfold jr32; omega, fun q2 => ?_, fun q2 => ⟨by omega, ?_⟩⟩⟩
    · have d0 : d = 0 := by omega
      subst d0
      rw [← t]
      exact ⟨a1, a2, by unfold coT; rw [Int.zero_mul, Int.add_zero], a5⟩
    · exfalso
      have := Int.mul_le_mul_of_nonneg_right (show 1 ≤ d by omega) (show (0 : Int) ≤ bp (s1 x 1) by omega)
      unfold coT at a4
      rw [show s1 x 1 = 16 by omega] at a4 this vb
      omega
    · rw [show (2 : Int) ^ Int.toNat 30 = 1073741824 from rfl]
      have w1 : w2 (w2 s1 (x + 1) (s1 x 1) (d % 1073741824)) x 1 ((w2 s1 (x + 1) (s1 x 1) (d % 1073741824)) x 1 + 1) x 1 = n + 1 := by
        rw [w2_s, w2_k (by omega), e]
      have w3 : w2 (w2 s1 (x + 1) (s1 x 1) (d % 1073741824)) x 1 ((w2 s1 (x + 1) (s1 x 1) (d % 1073741824)) x 1 + 1) (x + 1) = fun i => if i = n then d % 1073741824 else s1 (x + 1) i := by
        rw [w2_k (by omega), e]; funext i; rw [w2_e]
      have v1 : vl (n + 1) (fun i => if i = n then d % 1073741824 else s1 (x + 1) i) = vl n (s1 (x + 1)) + d % 1073741824 * bp n := by
        rw [vl_s (by omega), if_pos rfl, vl_c (f := fun i => if i = n then d % 1073741824 else s1 (x + 1) i) (g := s1 (x + 1)) n (by omega) (fun i i0 i1 => by rw [if_neg (by omega)])]
      have t2 : coT (w2 (w2 s1 (x + 1) (s1 x 1) (d % 1073741824)) x 1 ((w2 s1 (x + 1) (s1 x 1) (d % 1073741824)) x 1 + 1)) x (d / 1073741824) = coT s1 x d := by
        unfold coT
        rw [w1, w3, v1, e, bp_s (by omega), Int.add_assoc, dm_mul]
      refine ih (by omega) _ _ w1 ⟨by rw [w1]; omega, ?_, by omega, by rw [t2]; exact a4, Or.inr ?_⟩ (t2.trans t) (fun k hk => ?_)
      · rw [w1, w3]
        intro i i0 i1
        show 0 ≤ (if i = n then d % 1073741824 else s1 (x + 1) i) ∧ (if i = n then d % 1073741824 else s1 (x + 1) i) < 1073741824
        by_cases c : i = n
        · rw [if_pos c]; omega
        · rw [if_neg c]; exact a2 i i0 (by omega)
      · rw [w1, t2, show n + 1 - 1 = n by omega]
        have := Int.mul_le_mul_of_nonneg_right (show 1 ≤ d by omega) (show (0 : Int) ≤ bp (s1 x 1) by omega)
        unfold coT
        rw [e] at this vb ⊢
        omega
      · rw [w2_k (by omega), w2_k (by omega), f k hk]
  exact key (s x 1) co.1.2 s c rfl co rfl frm.rf
theorem g_X0_put {s : Int → Int → Int} {Q : Option jV → (Int → Int → Int) → Prop} {x v1 : Int} (hb : jBig x) (v : ((CO (w2 s x 1 0) x v1) ∧ (∀ (s3 : Int → Int → Int), (frm (fun k => k = x ∨ k = x + 1) (w2 s x 1 0) s3 ∧ BG s3 x (coT (w2 s x 1 0) x v1)) → Q none s3))) : kR mX0_put [jR x, jL v1] s Q := by
  show kK mX0_put 0 [jR x, jL v1, jU] [] s Q
  obtain ⟨a1, v⟩ := v
  refine k_aload_n dX0_put_0 rfl ?_
  refine k_iconst dX0_put_1 ?_
  refine k_put 1 dX0_put_2 ct_X0 (by decide) fw_X0_13 rfl rfl hb.1 (jbr hb) rfl rfl ?_
  refine k_aload_n dX0_put_5 rfl ?_
  refine k_lload_n dX0_put_6 rfl ?_
  refine k_invVR [jL v1] [] dX0_put_7 cm_X0_carryOn ml_X0_17 im_X0_carryOn se_X0_carryOn rfl hb.1 (jbr0 hb) rfl rfl (sp_X0_carryOn (w2 s x 1 0) x v1 hb a1) (fun _ s3 q4 => ?_)
  obtain ⟨rfl, q4⟩ := q4
  have v := v s3 q4
  exact k_return (st := []) dX0_put_10 rfl v
theorem sp_X0_put (s : Int → Int → Int) (x c : Int) (hb : jBig x) (hc : 0 ≤ c ∧ c ≤ 9223372036854775807) : kR mX0_put [jR x, jL c] s (fun r s' => r = none ∧ frm (fun k => k = x ∨ k = x + 1) s s' ∧ BG s' x c) := by
  refine g_X0_put hb ?_
  have z : w2 s x 1 0 x 1 = 0 := w2_s s x 1 0
  have t : coT (w2 s x 1 0) x c = c := by unfold coT; rw [z, vl_0, bp_0]; omega
  have b16 : (9223372036854775807 : Int) < bp 16 := by
    have : bp 3 ≤ bp 16 := bp_le (by omega)
    have : bp 3 = 1237940039285380274899124224 := rfl
    omega
  exact ⟨⟨by rw [z]; omega, by rw [z]; exact fun i i0 i1 => by omega, hc, by rw [t]; omega, Or.inl z⟩, fun s2 q => ⟨rfl, fun k hk => by rw [q.1 k hk, w2_k (by omega)], t ▸ q.2⟩⟩
theorem g_X5_commonOf {s : Int → Int → Int} {Q : Option jV → (Int → Int → Int) → Prop} {v0 v2 : Int} (v : kK mX5_commonOf 9 [jU, jU, jU, jU, jL v2, jU, jL v0, jU, jI 0, jU, jU] [] s Q) : kR mX5_commonOf [jL v0, jL v2] s Q := by
  show kK mX5_commonOf 0 [jL v0, jU, jL v2, jU, jU, jU, jU, jU, jU, jU, jU] [] s Q
  refine k_lload_n dX5_commonOf_0 rfl ?_
  refine k_lstore [jL v0, jU, jL v2, jU, jL v2, jU, jU, jU, jU, jU, jU] dX5_commonOf_1 rfl rfl ?_
  refine k_lload_n dX5_commonOf_3 rfl ?_
  refine k_lstore [jL v0, jU, jL v2, jU, jL v2, jU, jL v0, jU, jU, jU, jU] dX5_commonOf_4 rfl rfl ?_
  refine k_iconst dX5_commonOf_6 ?_
  refine k_istore [jL v0, jU, jL v2, jU, jL v2, jU, jL v0, jU, jI 0, jU, jU] dX5_commonOf_7 rfl rfl ?_
  refine k_drop [jU, jU, jU, jU, jL v2, jU, jL v0, jU, jI 0, jU, jU] ⟨Or.inl rfl, Or.inr rfl, Or.inl rfl, Or.inr rfl, Or.inr rfl, Or.inr rfl, Or.inr rfl, Or.inr rfl, Or.inr rfl, Or.inr rfl, Or.inr rfl, trivial⟩ ?_
  exact v
theorem g_X5_commonOf_9 {s : Int → Int → Int} {Q : Option jV → (Int → Int → Int) → Prop} {v4 v6 v8 : Int} (v : (jr32 v8 ∧ ((200 ≤ v8 → Q (some (jL v4)) s) ∧ (¬ (200 ≤ v8) → (jr64 v6 ∧ ((v6 = 0 → Q (some (jL v4)) s) ∧ (¬ (v6 = 0) → (((0 ≤ v4 ∧ v4 ≤ 9223372036854775807) ∧ (0 < v6 ∧ v6 ≤ 9223372036854775807)) ∧ kK mX5_commonOf 9 [jU, jU, jU, jU, jL v6, jU, jL (v4 % v6), jU, jI (v8 + 1), jU, jU] [] s Q)))))))) : kK mX5_commonOf 9 [jU, jU, jU, jU, jL v4, jU, jL v6, jU, jI v8, jU, jU] [] s Q := by
  obtain ⟨a1, v⟩ := v
  refine k_iload dX5_commonOf_9 rfl ?_
  refine k_sipush dX5_commonOf_11 rfl ?_
  obtain ⟨vt, vf⟩ := v
  refine k_icmp_ge 45 dX5_commonOf_14 rfl a1 (by decide) (fun c2 => ?_) (fun c2 => ?_)
  · have v := vt c2
    refine k_lload dX5_commonOf_45 rfl ?_
    exact k_lreturn (st := []) dX5_commonOf_47 rfl v
  · have v := vf c2
    obtain ⟨a3, v⟩ := v
    refine k_lload dX5_commonOf_17 rfl ?_
    refine k_lconst 0 dX5_commonOf_19 rfl ?_
    obtain ⟨vt, vf⟩ := v
    refine k_lcmp_if_eq 45 dX5_commonOf_20 dX5_commonOf_21 rfl a3 (by decide) (fun c4 => ?_) (fun c4 => ?_)
    · have v := vt c4
      refine k_lload dX5_commonOf_45 rfl ?_
      exact k_lreturn (st := []) dX5_commonOf_47 rfl v
    · have v := vf c4
      obtain ⟨a5, v⟩ := v
      refine k_lload dX5_commonOf_24 rfl ?_
      refine k_lload dX5_commonOf_26 rfl ?_
      refine k_lrem dX5_commonOf_28 a5 ?_
      refine k_lstore [jU, jU, jU, jU, jL v4, jU, jL v6, jU, jI v8, jL (v4 % v6), jU] dX5_commonOf_29 rfl rfl ?_
      refine k_lload dX5_commonOf_31 rfl ?_
      refine k_lstore [jU, jU, jU, jU, jL v6, jU, jL v6, jU, jI v8, jL (v4 % v6), jU] dX5_commonOf_33 rfl rfl ?_
      refine k_lload dX5_commonOf_35 rfl ?_
      refine k_lstore [jU, jU, jU, jU, jL v6, jU, jL (v4 % v6), jU, jI v8, jL (v4 % v6), jU] dX5_commonOf_37 rfl rfl ?_
      refine k_iinc [jU, jU, jU, jU, jL v6, jU, jL (v4 % v6), jU, jI (v8 + 1), jL (v4 % v6), jU] dX5_commonOf_39 rfl rfl rfl ?_
      refine k_goto 9 dX5_commonOf_42 rfl ?_
      refine k_drop [jU, jU, jU, jU, jL v6, jU, jL (v4 % v6), jU, jI (v8 + 1), jU, jU] ⟨Or.inr rfl, Or.inr rfl, Or.inr rfl, Or.inr rfl, Or.inr rfl, Or.inr rfl, Or.inr rfl, Or.inr rfl, Or.inr rfl, Or.inl rfl, Or.inr rfl, trivial⟩ ?_
      exact v
theorem sp_X5_commonOf (s : Int → Int → Int) (a b : Int) (ha : 0 ≤ a ∧ a ≤ 9223372036854775807) (hb : 0 ≤ b ∧ b ≤ 9223372036854775807) : kM mX5_commonOf [jL a, jL b] s (some (jL (gc a b))) s := by
  refine g_X5_commonOf ?_
  have two : ∀ x y : Int, 0 ≤ x → 0 < y → y ≤ x → 2 * (x % y) < x := fun x y h1 h2 h3 => by
    have m1 := Int.emod_nonneg x (show y ≠ 0 by omega)
    have m2 := Int.emod_lt_of_pos x h2
    have m3 := Int.emod_add_mul_ediv x y
    have m4 : 1 ≤ x / y := by
      by_cases c : 1 ≤ x / y
      · exact c
      · have : y * (x / y) ≤ y * 0 := Int.mul_le_mul_of_nonneg_left (by omega) (by omega)
        omega
    have : y * 1 ≤ y * (x / y) := Int.mul_le_mul_of_nonneg_left m4 (by omega)
    omega
  have key : ∀ (j : Nat) (x y t : Int), (0 ≤ x ∧ x ≤ 9223372036854775807) → (0 ≤ y ∧ y ≤ 9223372036854775807) → y < 2 ^ j → 0 ≤ t → t + 2 * j ≤ 200 → gc x y = gc a b → kK mX5_commonOf 9 [jU, jU, jU, jU, jL x, jU, jL y, jU, jI t, jU, jU] [] s (fun r s' => r = some (jL (gc a b)) ∧ s' = s) := by
    intro j
    induction j with
    | zero =>
      intro x y t hx hy hj t0 t1 e
      have y0 : y = 0 := by omega
      subst y0
      rw [gc_0 hx.1] at e
      exact g_X5_commonOf_9 ⟨by unfold jr32; omega, fun _ => ⟨by rw [e], rfl⟩, fun _ => ⟨by decide, fun _ => ⟨by rw [e], rfl⟩, fun q => absurd rfl q⟩⟩
    | succ j ih =>
      intro x y t hx hy hj t0 t1 e
      refine g_X5_commonOf_9 ⟨by unfold jr32; omega, fun q => by omega, fun _ => ⟨by unfold jr64; omega, fun q => ?_, fun q => ⟨by omega, ?_⟩⟩⟩
      · subst q
        rw [gc_0 hx.1] at e
        exact ⟨by rw [e], rfl⟩
      · have m1 := Int.emod_nonneg x (show y ≠ 0 by omega)
        have m2 := Int.emod_lt_of_pos x (show 0 < y by omega)
        have e2 : gc y (x % y) = gc a b := by rw [← gc_rec hx.1 hy.1]; exact e
        refine g_X5_commonOf_9 ⟨by unfold jr32; omega, fun q => by omega, fun _ => ⟨by unfold jr64; omega, fun q => ?_, fun q => ⟨by omega, ?_⟩⟩⟩
        · rw [q, gc_0 hy.1] at e2
          exact ⟨by rw [e2], rfl⟩
        · have m3 := Int.emod_nonneg y (show x % y ≠ 0 by omega)
          have m4 := two y (x % y) hy.1 (by omega) (by omega)
          have m5 := Int.emod_lt_of_pos y (show 0 < x % y by omega)
          have e3 : gc (x % y) (y % (x % y)) = gc a b := by rw [← gc_rec hy.1 m1]; exact e2
          rw [Int.pow_succ] at hj
          exact ih _ _ _ (by omega) (by omega) (by omega) (by omega) (by omega) e3
  exact key 63 b a 0 hb ha (by have : (2 : Int) ^ 63 = 9223372036854775808 := rfl; omega) (by omega) (by omega) (gc_comm b a)
theorem g_X5_put {s : Int → Int → Int} {Q : Option jV → (Int → Int → Int) → Prop} {v1 v3 : Int} (v : ((0 ≤ v1 ∧ v1 ≤ 9223372036854775807) ∧ (0 ≤ v3 ∧ v3 ≤ 9223372036854775807) ∧ jr64 (gc v1 v3) ∧ (((gc v1 v3) ≤ 0 → Q none s) ∧ (¬ ((gc v1 v3) ≤ 0) → (((0 ≤ v1 ∧ v1 ≤ 9223372036854775807) ∧ (0 < (gc v1 v3) ∧ (gc v1 v3) ≤ 9223372036854775807)) ∧ (0 ≤ (v1 / (gc v1 v3)) ∧ (v1 / (gc v1 v3)) ≤ 9223372036854775807) ∧ (∀ (s8 : Int → Int → Int), (frm (fun k => k = 139 ∨ k = 139 + 1) s s8 ∧ BG s8 139 (v1 / (gc v1 v3))) → (((0 ≤ v3 ∧ v3 ≤ 9223372036854775807) ∧ (0 < (gc v1 v3) ∧ (gc v1 v3) ≤ 9223372036854775807)) ∧ (0 ≤ (v3 / (gc v1 v3)) ∧ (v3 / (gc v1 v3)) ≤ 9223372036854775807) ∧ (∀ (s13 : Int → Int → Int), (frm (fun k => k = 141 ∨ k = 141 + 1) s8 s13 ∧ BG s13 141 (v3 / (gc v1 v3))) → Q none s13)))))))) : kR mX5_put [jR 138, jL v1, jL v3] s Q := by
  show kK mX5_put 0 [jR 138, jL v1, jU, jL v3, jU, jU, jU] [] s Q
  obtain ⟨a1, a2, a3, v⟩ := v
  refine k_lload_n dX5_put_0 rfl ?_
  refine k_lload_n dX5_put_1 rfl ?_
  refine k_invS [jL v1, jL v3] [] dX5_put_2 cm_X5_commonOf ml_X5_25 st_X5_commonOf rfl rfl (sp_X5_commonOf s v1 v3 a1 a2) ?_
  refine k_lstore [jR 138, jL v1, jU, jL v3, jU, jL (gc v1 v3), jU] dX5_put_5 rfl rfl ?_
  refine k_lload dX5_put_7 rfl ?_
  refine k_lconst 0 dX5_put_9 rfl ?_
  obtain ⟨vt, vf⟩ := v
  refine k_lcmp_if_le 36 dX5_put_10 dX5_put_11 rfl a3 (by decide) (fun c4 => ?_) (fun c4 => ?_)
  · have v := vt c4
    exact k_return (st := []) dX5_put_36 rfl v
  · have v := vf c4
    obtain ⟨a5, a6, v⟩ := v
    refine k_aload_n dX5_put_14 rfl ?_
    refine k_getr dX5_put_15 fl_X5_12 sh_138 (by decide) rfl ?_
    refine k_lload_n dX5_put_18 rfl ?_
    refine k_lload dX5_put_19 rfl ?_
    refine k_ldiv dX5_put_21 a5 ?_
    refine k_invVR [jL (v1 / (gc v1 v3))] [] dX5_put_22 cm_X0_put ml_X5_21 im_X0_put se_X0_put rfl sh_139 (by decide) rfl rfl (sp_X0_put s 139 (v1 / (gc v1 v3)) bg_139 a6) (fun _ s8 q9 => ?_)
    obtain ⟨rfl, q9⟩ := q9
    have v := v s8 q9
    obtain ⟨a10, a11, v⟩ := v
    refine k_aload_n dX5_put_25 rfl ?_
    refine k_getr dX5_put_26 fl_X5_18 sh_138 (by decide) rfl ?_
    refine k_lload_n dX5_put_29 rfl ?_
    refine k_lload dX5_put_30 rfl ?_
    refine k_ldiv dX5_put_32 a10 ?_
    refine k_invVR [jL (v3 / (gc v1 v3))] [] dX5_put_33 cm_X0_put ml_X5_21 im_X0_put se_X0_put rfl sh_141 (by decide) rfl rfl (sp_X0_put s8 141 (v3 / (gc v1 v3)) bg_141 a11) (fun _ s13 q14 => ?_)
    obtain ⟨rfl, q14⟩ := q14
    have v := v s13 q14
    exact k_return (st := []) dX5_put_36 rfl v
/-- the class's fraction -/
def FC (s : Int → Int → Int) (a b : Int) : Prop := BG s 139 (a / gc a b) ∧ BG s 141 (b / gc a b)
def fcP (k : Int) : Prop := 139 ≤ k ∧ k ≤ 142
theorem sp_X5_put (s : Int → Int → Int) (a b : Int) (ha : 0 ≤ a ∧ a ≤ 9223372036854775807) (hb : 0 < b ∧ b ≤ 9223372036854775807) : kR mX5_put [jR 138, jL a, jL b] s (fun r s' => r = none ∧ frm fcP s s' ∧ FC s' a b) := by
  have p := gc_pos (a := a) hb.1
  obtain ⟨d1, d2, d3, d4⟩ := gc_div ha.1 hb.1
  have u : ∀ x : Int, 0 ≤ x → x ≤ x * gc a b := fun x hx => by
    have := Int.mul_le_mul_of_nonneg_left p hx
    omega
  have u1 := u _ d3
  have u2 := u (b / gc a b) (by omega)
  have gb : gc a b ≤ b := by
    have := Int.mul_le_mul_of_nonneg_right d4 (show 0 ≤ gc a b by omega)
    omega
  refine g_X5_put ⟨ha, by omega, by unfold jr64; omega, fun q => by omega, fun q => ⟨⟨ha, by omega⟩, by omega, fun s4 q4 => ⟨⟨by omega, by omega⟩, by omega, fun s8 q8 => ⟨rfl, fun k hk => ?_, ?_, q8.2⟩⟩⟩⟩
  · unfold fcP at hk
    rw [q8.1 k (by omega), q4.1 k (by omega)]
  · exact q4.2.fr (q8.1 _ (by omega)) (q8.1 _ (by omega))
