/-! in how many ways some can be chosen of so many -/
def cbN : Nat → Nat → Nat
  | _, 0 => 1
  | 0, _ + 1 => 0
  | n + 1, k + 1 => cbN n k + cbN n (k + 1)
theorem cbN_0 (n : Nat) : cbN n 0 = 1 := by cases n <;> rfl
theorem cbN_ab : ∀ n k : Nat, (k + 1) * cbN (n + 1) (k + 1) = (n + 1) * cbN n k
  | 0, 0 => rfl
  | 0, k + 1 => by
    show (k + 1 + 1) * (cbN 0 (k + 1) + cbN 0 (k + 1 + 1)) = (0 + 1) * cbN 0 (k + 1)
    show (k + 1 + 1) * (0 + 0) = (0 + 1) * 0
    omega
  | n + 1, 0 => by
    have ih := cbN_ab n 0
    show (0 + 1) * (cbN (n + 1) 0 + cbN (n + 1) (0 + 1)) = (n + 1 + 1) * cbN (n + 1) 0
    rw [cbN_0] at ih ⊢
    omega
  | n + 1, k + 1 => by
    have i1 := cbN_ab n k
    have i2 := cbN_ab n (k + 1)
    show (k + 1 + 1) * (cbN (n + 1) (k + 1) + cbN (n + 1) (k + 1 + 1)) = (n + 1 + 1) * cbN (n + 1) (k + 1)
    have e : cbN (n + 1) (k + 1) = cbN n k + cbN n (k + 1) := rfl
    generalize cbN (n + 1) (k + 1) = x at *
    generalize cbN (n + 1) (k + 1 + 1) = y at *
    have : (k + 1 + 1) * (x + y) = (k + 1) * x + x + (k + 1 + 1) * y := by grind
    rw [this, i1, i2]
    subst e
    grind
theorem cbN_z : ∀ n k : Nat, n < k → cbN n k = 0
  | 0, k + 1, _ => rfl
  | n + 1, k + 1, h => by
    show cbN n k + cbN n (k + 1) = 0
    rw [cbN_z n k (by omega), cbN_z n (k + 1) (by omega)]
theorem cbN_p : ∀ n k : Nat, k ≤ n → 1 ≤ cbN n k
  | n, 0, _ => by rw [cbN_0]; omega
  | n + 1, k + 1, h => by
    have := cbN_p n k (by omega)
    show 1 ≤ cbN n k + cbN n (k + 1)
    omega
theorem cbN_b : ∀ n k : Nat, cbN n k ≤ 2 ^ n
  | n, 0 => by rw [cbN_0]; exact Nat.pos_of_ne_zero (by have := Nat.pow_pos (n := n) (show 0 < 2 by decide); omega)
  | 0, k + 1 => by show 0 ≤ 2 ^ 0; omega
  | n + 1, k + 1 => by
    have a := cbN_b n k
    have b := cbN_b n (k + 1)
    show cbN n k + cbN n (k + 1) ≤ 2 ^ (n + 1)
    rw [Nat.pow_succ]
    omega
def cb (n k : Int) : Int := if k < 0 then 0 else ((cbN n.toNat k.toNat : Nat) : Int)
theorem cb_neg {n k : Int} (h : k < 0) : cb n k = 0 := if_pos h
theorem cb_n (n k : Nat) : cb (n : Int) (k : Int) = ((cbN n k : Nat) : Int) := by
  unfold cb
  rw [if_neg (by omega), Int.toNat_natCast, Int.toNat_natCast]
theorem cb_nn (n k : Int) : 0 ≤ cb n k := by
  unfold cb
  by_cases c : k < 0
  · rw [if_pos c]; omega
  · rw [if_neg c]; omega
theorem cb_z {n k : Int} (hn : 0 ≤ n) (h : n < k) : cb n k = 0 := by
  obtain ⟨m, rfl⟩ := nat_of hn
  obtain ⟨j, rfl⟩ := nat_of (show 0 ≤ k by omega)
  rw [cb_n, cbN_z m j (by omega)]
  rfl
theorem cb_p {n k : Int} (hk : 0 ≤ k) (h : k ≤ n) : 1 ≤ cb n k := by
  obtain ⟨m, rfl⟩ := nat_of (show 0 ≤ n by omega)
  obtain ⟨j, rfl⟩ := nat_of hk
  rw [cb_n]
  have := cbN_p m j (by omega)
  omega
theorem cb_b {n k : Int} (hn : 0 ≤ n ∧ n ≤ 30) : cb n k ≤ 1073741824 := by
  by_cases c : k < 0
  · rw [cb_neg c]; omega
  · obtain ⟨m, rfl⟩ := nat_of hn.1
    obtain ⟨j, rfl⟩ := nat_of (show 0 ≤ k by omega)
    rw [cb_n]
    have a := cbN_b m j
    have b : 2 ^ m ≤ 2 ^ 30 := Nat.pow_le_pow_right (by decide) (by omega)
    omega
theorem cb_0 (n : Int) : cb n 0 = 1 := by
  unfold cb
  rw [if_neg (by omega), show Int.toNat 0 = 0 from rfl, cbN_0]; rfl
theorem cb_ps {n : Int} (hn : 0 ≤ n) (k : Int) : cb (n + 1) k = cb n k + cb n (k - 1) := by
  obtain ⟨m, rfl⟩ := nat_of hn
  by_cases c : k < 0
  · rw [cb_neg c, cb_neg c, cb_neg (by omega)]; rfl
  · obtain ⟨j, rfl⟩ := nat_of (show 0 ≤ k by omega)
    cases j with
    | zero => rw [show ((0 : Nat) : Int) = 0 from rfl, cb_0, cb_0, cb_neg (by omega)]; rfl
    | succ j =>
      rw [show ((j + 1 : Nat) : Int) - 1 = (j : Int) by omega, show (m : Int) + 1 = ((m + 1 : Nat) : Int) by omega, cb_n, cb_n, cb_n]
      show ((cbN m j + cbN m (j + 1) : Nat) : Int) = _
      omega
theorem cb_ab {n k : Int} (hn : 0 ≤ n) (hk : 0 ≤ k) : (k + 1) * cb (n + 1) (k + 1) = (n + 1) * cb n k := by
  obtain ⟨m, rfl⟩ := nat_of hn
  obtain ⟨j, rfl⟩ := nat_of hk
  rw [show (m : Int) + 1 = ((m + 1 : Nat) : Int) by omega, show (j : Int) + 1 = ((j + 1 : Nat) : Int) by omega, cb_n, cb_n, ← Int.natCast_mul, ← Int.natCast_mul, cbN_ab]
theorem cb_up {n k : Int} (hn : 0 ≤ n) (hk : 0 ≤ k) : cb n k * (n - k) = cb n (k + 1) * (k + 1) := by
  have a := cb_ab hn hk
  rw [cb_ps hn, show k + 1 - 1 = k by omega] at a
  grind
theorem sg_2 (f : Int → Int) {a : Int} (ha : 0 ≤ a) : ∀ b, 0 ≤ b → sg (a + b) f = sg a f + sg b (fun j => f (a + j)) := by
  refine in_up _ (by rw [Int.add_zero, sg_0, Int.add_zero]) (fun b hb ih => ?_)
  rw [← Int.add_assoc, sg_s (by omega), ih, sg_s hb, Int.add_assoc]
/-- so many of the ones, the rest of the others -/
theorem vnd {g : Int} (hg : 0 ≤ g) : ∀ h, 0 ≤ h → ∀ w, -1 ≤ w → sg (w + 1) (fun k => cb h k * cb g (w - k)) = cb (h + g) w := by
  refine in_up _ (fun w hw => ?_) (fun h hh ih w hw => ?_)
  · by_cases c : w = -1
    · rw [c, cb_neg (by omega)]; rfl
    · have := sg_2 (fun k => cb 0 k * cb g (w - k)) (a := 1) (by omega) w (by omega)
      rw [show w + 1 = 1 + w by omega, this, sg_zero (n := w) (fun j j0 j1 => by rw [cb_z (by omega) (by omega), Int.zero_mul]), show (1 : Int) = 0 + 1 from rfl, sg_s (by omega), sg_0, cb_0, Int.sub_zero, Int.zero_add, Int.one_mul, Int.add_zero, Int.zero_add]
  · have e : sg (w + 1) (fun k => cb (h + 1) k * cb g (w - k)) = sg (w + 1) (fun k => cb h k * cb g (w - k)) + sg (w + 1) (fun k => cb h (k - 1) * cb g (w - k)) := by
      rw [← sg_add]
      exact sg_c (fun k _ _ => by rw [cb_ps hh, Int.add_mul])
    rw [e, ih w hw, show h + 1 + g = h + g + 1 by omega, cb_ps (show 0 ≤ h + g by omega)]
    by_cases c : w = -1
    · rw [c, cb_neg (show (-1 : Int) - 1 < 0 by omega)]; rfl
    · have s2 := sg_2 (fun k => cb h (k - 1) * cb g (w - k)) (a := 1) (by omega) w (by omega)
      have s1 : sg 1 (fun k => cb h (k - 1) * cb g (w - k)) = 0 := by
        rw [show (1 : Int) = 0 + 1 from rfl, sg_s (by omega), sg_0, cb_neg (by omega), Int.zero_mul]; rfl
      have i2 := ih (w - 1) (by omega)
      rw [show w - 1 + 1 = w by omega] at i2
      rw [show w + 1 = 1 + w by omega, s2, s1, Int.zero_add, ← i2]
      congr 1
      exact sg_c (fun k _ _ => by rw [show 1 + k - 1 = k by omega, show w - (1 + k) = w - 1 - k by omega])
/-- the last ways are no more than all -/
theorem vnd_le {h g x w : Int} (hh : 0 ≤ h) (hg : 0 ≤ g) (hx : 0 ≤ x) : ∀ i, 0 ≤ i → x + i ≤ w + 1 → 0 ≤ sg i (fun j => cb h (x + j) * cb g (w - (x + j))) ∧ sg i (fun j => cb h (x + j) * cb g (w - (x + j))) ≤ cb (h + g) w := fun i hi hw => by
  have nn : ∀ k, 0 ≤ cb h k * cb g (w - k) := fun k => Int.mul_nonneg (cb_nn _ _) (cb_nn _ _)
  have a := vnd hg h hh w (by omega)
  have b := sg_2 (fun k => cb h k * cb g (w - k)) (a := x + i) (by omega) (w + 1 - (x + i)) (by omega)
  have c := sg_2 (fun k => cb h k * cb g (w - k)) (a := x) hx i hi
  rw [show x + i + (w + 1 - (x + i)) = w + 1 by omega, a] at b
  have d := sg_nn (n := x) (f := fun k => cb h k * cb g (w - k)) (fun k _ _ => nn k)
  have e := sg_nn (n := w + 1 - (x + i)) (f := fun j => cb h (x + i + j) * cb g (w - (x + i + j))) (fun k _ _ => nn _)
  have f := sg_nn (n := i) (f := fun j => cb h (x + j) * cb g (w - (x + j))) (fun k _ _ => nn _)
  omega
theorem g_X10_choices {s : Int → Int → Int} {Q : Option jV → (Int → Int → Int) → Prop} {v0 v1 : Int} (v : (jr32 v1 ∧ ((v1 < 0 → Q (some (jL 0)) s) ∧ (¬ (v1 < 0) → (jr32 v0 ∧ ((v1 ≤ v0 → kK mX10_choices 16 [jI v0, jI v1, jL 1, jU, jI 1] [] s Q) ∧ (¬ (v1 ≤ v0) → Q (some (jL 0)) s))))))) : kR mX10_choices [jI v0, jI v1] s Q := by
  show kK mX10_choices 0 [jI v0, jI v1, jU, jU, jU] [] s Q
  obtain ⟨a1, v⟩ := v
  refine k_iload_n dX10_choices_0 rfl ?_
  obtain ⟨vt, vf⟩ := v
  refine k_if_lt 9 dX10_choices_1 rfl a1 (fun c2 => ?_) (fun c2 => ?_)
  · have v := vt c2
    refine k_lconst 0 dX10_choices_9 rfl ?_
    exact k_lreturn (st := []) dX10_choices_10 rfl v
  · have v := vf c2
    obtain ⟨a3, v⟩ := v
    refine k_iload_n dX10_choices_4 rfl ?_
    refine k_iload_n dX10_choices_5 rfl ?_
    obtain ⟨vt, vf⟩ := v
    refine k_icmp_le 11 dX10_choices_6 rfl a1 a3 (fun c4 => ?_) (fun c4 => ?_)
    · have v := vt c4
      refine k_lconst 1 dX10_choices_11 rfl ?_
      refine k_lstore_n [jI v0, jI v1, jL 1, jU, jU] dX10_choices_12 rfl rfl ?_
      refine k_iconst dX10_choices_13 ?_
      refine k_istore [jI v0, jI v1, jL 1, jU, jI 1] dX10_choices_14 rfl rfl ?_
      exact v
    · have v := vf c4
      refine k_lconst 0 dX10_choices_9 rfl ?_
      exact k_lreturn (st := []) dX10_choices_10 rfl v
theorem g_X10_choices_16 {s : Int → Int → Int} {Q : Option jV → (Int → Int → Int) → Prop} {v0 v1 v2 v4 : Int} (v : (jr32 v4 ∧ jr32 v1 ∧ ((v1 < v4 → Q (some (jL v2)) s) ∧ (¬ (v1 < v4) → (jr32 ((v0 - v1) + v4) ∧ ((0 ≤ (v2 * ((v0 - v1) + v4)) ∧ (v2 * ((v0 - v1) + v4)) ≤ 9223372036854775807) ∧ (0 < v4 ∧ v4 ≤ 9223372036854775807)) ∧ kK mX10_choices 16 [jI v0, jI v1, jL ((v2 * ((v0 - v1) + v4)) / v4), jU, jI (v4 + 1)] [] s Q))))) : kK mX10_choices 16 [jI v0, jI v1, jL v2, jU, jI v4] [] s Q := by
  obtain ⟨a1, a2, v⟩ := v
  refine k_iload dX10_choices_16 rfl ?_
  refine k_iload_n dX10_choices_18 rfl ?_
  obtain ⟨vt, vf⟩ := v
  refine k_icmp_gt 42 dX10_choices_19 rfl a1 a2 (fun c3 => ?_) (fun c3 => ?_)
  · have v := vt c3
    refine k_lload_n dX10_choices_42 rfl ?_
    exact k_lreturn (st := []) dX10_choices_43 rfl v
  · have v := vf c3
    obtain ⟨a4, a5, v⟩ := v
    refine k_lload_n dX10_choices_22 rfl ?_
    refine k_iload_n dX10_choices_23 rfl ?_
    refine k_iload_n dX10_choices_24 rfl ?_
    refine k_isub dX10_choices_25 ?_
    refine k_iload dX10_choices_26 rfl ?_
    refine k_iadd dX10_choices_28 ?_
    refine k_i2l dX10_choices_29 a4 ?_
    refine k_lmul dX10_choices_30 ?_
    refine k_iload dX10_choices_31 rfl ?_
    refine k_i2l dX10_choices_33 a1 ?_
    refine k_ldiv dX10_choices_34 a5 ?_
    refine k_lstore_n [jI v0, jI v1, jL ((v2 * ((v0 - v1) + v4)) / v4), jU, jI v4] dX10_choices_35 rfl rfl ?_
    refine k_iinc [jI v0, jI v1, jL ((v2 * ((v0 - v1) + v4)) / v4), jU, jI (v4 + 1)] dX10_choices_36 rfl rfl rfl ?_
    refine k_goto 16 dX10_choices_39 rfl ?_
    exact v
theorem g_X11_ways {s : Int → Int → Int} {Q : Option jV → (Int → Int → Int) → Prop} {v0 v1 : Int} (v : (jr32 v1 ∧ ((v1 < 0 → Q (some (jL 0)) s) ∧ (¬ (v1 < 0) → (jr32 v0 ∧ ((v1 ≤ v0 → kK mX11_ways 16 [jI v0, jI v1, jL 1, jU, jI 0] [] s Q) ∧ (¬ (v1 ≤ v0) → Q (some (jL 0)) s))))))) : kR mX11_ways [jI v0, jI v1] s Q := by
  show kK mX11_ways 0 [jI v0, jI v1, jU, jU, jU] [] s Q
  obtain ⟨a1, v⟩ := v
  refine k_iload_n dX11_ways_0 rfl ?_
  obtain ⟨vt, vf⟩ := v
  refine k_if_lt 9 dX11_ways_1 rfl a1 (fun c2 => ?_) (fun c2 => ?_)
  · have v := vt c2
    refine k_lconst 0 dX11_ways_9 rfl ?_
    exact k_lreturn (st := []) dX11_ways_10 rfl v
  · have v := vf c2
    obtain ⟨a3, v⟩ := v
    refine k_iload_n dX11_ways_4 rfl ?_
    refine k_iload_n dX11_ways_5 rfl ?_
    obtain ⟨vt, vf⟩ := v
    refine k_icmp_le 11 dX11_ways_6 rfl a1 a3 (fun c4 => ?_) (fun c4 => ?_)
    · have v := vt c4
      refine k_lconst 1 dX11_ways_11 rfl ?_
      refine k_lstore_n [jI v0, jI v1, jL 1, jU, jU] dX11_ways_12 rfl rfl ?_
      refine k_iconst dX11_ways_13 ?_
      refine k_istore [jI v0, jI v1, jL 1, jU, jI 0] dX11_ways_14 rfl rfl ?_
      exact v
    · have v := vf c4
      refine k_lconst 0 dX11_ways_9 rfl ?_
      exact k_lreturn (st := []) dX11_ways_10 rfl v
theorem g_X11_ways_16 {s : Int → Int → Int} {Q : Option jV → (Int → Int → Int) → Prop} {v0 v1 v2 v4 : Int} (v : (jr32 v4 ∧ jr32 v1 ∧ ((v1 ≤ v4 → Q (some (jL v2)) s) ∧ (¬ (v1 ≤ v4) → (jr32 (v0 - v4) ∧ jr32 (v4 + 1) ∧ ((0 ≤ (v2 * (v0 - v4)) ∧ (v2 * (v0 - v4)) ≤ 9223372036854775807) ∧ (0 < (v4 + 1) ∧ (v4 + 1) ≤ 9223372036854775807)) ∧ kK mX11_ways 16 [jI v0, jI v1, jL ((v2 * (v0 - v4)) / (v4 + 1)), jU, jI (v4 + 1)] [] s Q))))) : kK mX11_ways 16 [jI v0, jI v1, jL v2, jU, jI v4] [] s Q := by
  obtain ⟨a1, a2, v⟩ := v
  refine k_iload dX11_ways_16 rfl ?_
  refine k_iload_n dX11_ways_18 rfl ?_
  obtain ⟨vt, vf⟩ := v
  refine k_icmp_ge 42 dX11_ways_19 rfl a1 a2 (fun c3 => ?_) (fun c3 => ?_)
  · have v := vt c3
    refine k_lload_n dX11_ways_42 rfl ?_
    exact k_lreturn (st := []) dX11_ways_43 rfl v
  · have v := vf c3
    obtain ⟨a4, a5, a6, v⟩ := v
    refine k_lload_n dX11_ways_22 rfl ?_
    refine k_iload_n dX11_ways_23 rfl ?_
    refine k_iload dX11_ways_24 rfl ?_
    refine k_isub dX11_ways_26 ?_
    refine k_i2l dX11_ways_27 a4 ?_
    refine k_lmul dX11_ways_28 ?_
    refine k_iload dX11_ways_29 rfl ?_
    refine k_iconst dX11_ways_31 ?_
    refine k_iadd dX11_ways_32 ?_
    refine k_i2l dX11_ways_33 a5 ?_
    refine k_ldiv dX11_ways_34 a6 ?_
    refine k_lstore_n [jI v0, jI v1, jL ((v2 * (v0 - v4)) / (v4 + 1)), jU, jI v4] dX11_ways_35 rfl rfl ?_
    refine k_iinc [jI v0, jI v1, jL ((v2 * (v0 - v4)) / (v4 + 1)), jU, jI (v4 + 1)] dX11_ways_36 rfl rfl rfl ?_
    refine k_goto 16 dX11_ways_39 rfl ?_
    exact v
theorem sp_X10_choices (s : Int → Int → Int) (n k : Int) (hn : 0 ≤ n ∧ n ≤ 30) (hk : jr32 k) : kM mX10_choices [jI n, jI k] s (some (jL (cb n k))) s := by
  refine g_X10_choices ⟨hk, fun q => ⟨by rw [cb_neg q], rfl⟩, fun q => ⟨by unfold jr32; omega, fun q2 => ?_, fun q2 => ⟨by rw [cb_z hn.1 (by omega)], rfl⟩⟩⟩
  have key : ∀ i, i ≤ k + 1 → 1 ≤ i → kK mX10_choices 16 [jI n, jI k, jL (cb (n - k + (i - 1)) (i - 1)), jU, jI i] [] s (fun r s' => r = some (jL (cb n k)) ∧ s' = s) := by
    refine lp_up _ _ (fun i hi ih i1 => ?_)
    refine g_X10_choices_16 ⟨by unfold jr32; omega, hk, fun q3 => ⟨by rw [show i - 1 = k by omega, show n - k + k = n by omega], rfl⟩, fun q3 => ?_⟩
    have ab := cb_ab (n := n - k + (i - 1)) (k := i - 1) (by omega) (by omega)
    rw [show n - k + (i - 1) + 1 = n - k + i by omega, show i - 1 + 1 = i by omega] at ab
    have b0 := cb_nn (n - k + (i - 1)) (i - 1)
    have b1 := cb_b (n := n - k + (i - 1)) (k := i - 1) (by omega)
    have p0 := Int.mul_nonneg b0 (show 0 ≤ n - k + i by omega)
    have p1 : cb (n - k + (i - 1)) (i - 1) * (n - k + i) ≤ 1073741824 * 30 := Int.mul_le_mul b1 (by omega) (by omega) (by omega)
    refine ⟨by unfold jr32; omega, ⟨by omega, by omega⟩, ?_⟩
    have e : cb (n - k + (i - 1)) (i - 1) * (n - k + i) / i = cb (n - k + i) i := by
      rw [Int.mul_comm, ← ab, Int.mul_comm]
      exact Int.mul_ediv_cancel _ (by omega)
    rw [e]
    have := ih (by omega) (by omega)
    rw [show i + 1 - 1 = i by omega] at this
    exact this
  have := key 1 (by omega) (by omega)
  rw [show (1 : Int) - 1 = 0 from rfl, cb_0] at this
  exact this
theorem sp_X11_ways (s : Int → Int → Int) (n k : Int) (hn : 0 ≤ n ∧ n ≤ 30) (hk : jr32 k) : kM mX11_ways [jI n, jI k] s (some (jL (cb n k))) s := by
  refine g_X11_ways ⟨hk, fun q => ⟨by rw [cb_neg q], rfl⟩, fun q => ⟨by unfold jr32; omega, fun q2 => ?_, fun q2 => ⟨by rw [cb_z hn.1 (by omega)], rfl⟩⟩⟩
  have key : ∀ i, i ≤ k → 0 ≤ i → kK mX11_ways 16 [jI n, jI k, jL (cb n i), jU, jI i] [] s (fun r s' => r = some (jL (cb n k)) ∧ s' = s) := by
    refine lp_up _ _ (fun i hi ih i0 => ?_)
    refine g_X11_ways_16 ⟨by unfold jr32; omega, hk, fun q3 => ⟨by rw [show i = k by omega], rfl⟩, fun q3 => ?_⟩
    have up := cb_up (n := n) (k := i) (by omega) i0
    have b0 := cb_nn n i
    have b1 := cb_b (n := n) (k := i) hn
    have p0 := Int.mul_nonneg b0 (show 0 ≤ n - i by omega)
    have p1 : cb n i * (n - i) ≤ 1073741824 * 30 := Int.mul_le_mul b1 (by omega) (by omega) (by omega)
    refine ⟨by unfold jr32; omega, by unfold jr32; omega, ⟨by omega, by omega⟩, ?_⟩
    have e : cb n i * (n - i) / (i + 1) = cb n (i + 1) := by
      rw [up]
      exact Int.mul_ediv_cancel _ (by omega)
    rw [e]
    exact ih (by omega) (by omega)
  have := key 0 (by omega) (by omega)
  rw [cb_0] at this
  exact this
