theorem g_X11_mixed {s : Int → Int → Int} {Q : Option jV → (Int → Int → Int) → Prop} {v0 x v3 v4 : Int} {li : Int} {len : Nat} (hs : jsh x = hI len) (hx : 0 < x ∧ x ≤ 168) (hl : (len : Int) = li) (hlen : len < 2147483648) (v : kK mX11_mixed 6 [jU, jU, jR x, jI v3, jI v4, jL v0, jU, jI 0] [] s Q) : kR mX11_mixed [jL v0, jR x, jI v3, jI v4] s Q := by
  show kK mX11_mixed 0 [jL v0, jU, jR x, jI v3, jI v4, jU, jU, jU] [] s Q
  refine k_lload_n dX11_mixed_0 rfl ?_
  refine k_lstore [jL v0, jU, jR x, jI v3, jI v4, jL v0, jU, jU] dX11_mixed_1 rfl rfl ?_
  refine k_iconst dX11_mixed_3 ?_
  refine k_istore [jL v0, jU, jR x, jI v3, jI v4, jL v0, jU, jI 0] dX11_mixed_4 rfl rfl ?_
  refine k_drop [jU, jU, jR x, jI v3, jI v4, jL v0, jU, jI 0] ⟨Or.inl rfl, Or.inr rfl, Or.inr rfl, Or.inr rfl, Or.inr rfl, Or.inr rfl, Or.inr rfl, Or.inr rfl, trivial⟩ ?_
  exact v
theorem g_X11_mixed_6 {s : Int → Int → Int} {Q : Option jV → (Int → Int → Int) → Prop} {v3 v4 v5 v7 x : Int} {li : Int} {len : Nat} (hs : jsh x = hI len) (hx : 0 < x ∧ x ≤ 168) (hl : (len : Int) = li) (hlen : len < 2147483648) (v : (jr32 v7 ∧ jr32 v4 ∧ ((v4 ≤ v7 → Q (some (jL v5)) s) ∧ (¬ (v4 ≤ v7) → ((0 ≤ (v3 + v7) ∧ (v3 + v7) < li) ∧ jr32 (s x (v3 + v7)) ∧ kK mX11_mixed 6 [jU, jU, jR x, jI v3, jI v4, jL ((31 * v5) + (s x (v3 + v7))), jU, jI (v7 + 1)] [] s Q))))) : kK mX11_mixed 6 [jU, jU, jR x, jI v3, jI v4, jL v5, jU, jI v7] [] s Q := by
  obtain ⟨a1, a2, v⟩ := v
  refine k_iload dX11_mixed_6 rfl ?_
  refine k_iload dX11_mixed_8 rfl ?_
  obtain ⟨vt, vf⟩ := v
  refine k_icmp_ge 35 dX11_mixed_10 rfl a1 a2 (fun c3 => ?_) (fun c3 => ?_)
  · have v := vt c3
    refine k_lload dX11_mixed_35 rfl ?_
    exact k_lreturn (st := []) dX11_mixed_37 rfl v
  · have v := vf c3
    obtain ⟨a4, a5, v⟩ := v
    refine k_ldc2 (31) (31) dX11_mixed_13 kl_X11_254 rfl ?_
    refine k_lload dX11_mixed_16 rfl ?_
    refine k_lmul dX11_mixed_18 ?_
    refine k_aload_n dX11_mixed_19 rfl ?_
    refine k_iload_n dX11_mixed_20 rfl ?_
    refine k_iload dX11_mixed_21 rfl ?_
    refine k_iadd dX11_mixed_23 ?_
    refine k_iald li dX11_mixed_24 hs hx hl hlen a4 ?_
    refine k_i2l dX11_mixed_25 a5 ?_
    refine k_ladd dX11_mixed_26 ?_
    refine k_lstore [jU, jU, jR x, jI v3, jI v4, jL ((31 * v5) + (s x (v3 + v7))), jU, jI v7] dX11_mixed_27 rfl rfl ?_
    refine k_iinc [jU, jU, jR x, jI v3, jI v4, jL ((31 * v5) + (s x (v3 + v7))), jU, jI (v7 + 1)] dX11_mixed_29 rfl rfl rfl ?_
    refine k_goto 6 dX11_mixed_32 rfl ?_
    exact v
theorem sp_X11_mixed (li : Int) (s : Int → Int → Int) (h x o n : Int) (hn : 0 ≤ n ∧ 0 ≤ o ∧ o + n ≤ li) (hr : ∀ i, 0 ≤ i → i < n → jr32 (s x (o + i))) {len : Nat} (hs : jsh x = hI len) (hx : 0 < x ∧ x ≤ 168) (hl : (len : Int) = li) (hlen : len < 2147483648) : kM mX11_mixed [jL h, jR x, jI o, jI n] s (some (jL (dg n (fun k => s x (o + k)) h))) s := by
  refine g_X11_mixed hs hx hl hlen ?_
  have key : ∀ i, i ≤ n → 0 ≤ i → kK mX11_mixed 6 [jU, jU, jR x, jI o, jI n, jL (dg i (fun k => s x (o + k)) h), jU, jI i] [] s (fun r s' => r = some (jL (dg n (fun k => s x (o + k)) h)) ∧ s' = s) := by
    refine lp_up _ _ (fun i hi ih i0 => ?_)
    refine g_X11_mixed_6 hs hx hl hlen ⟨by unfold jr32; omega, by unfold jr32; omega, fun q => ⟨by rw [show i = n by omega], rfl⟩, fun q => ⟨by omega, hr i i0 (by omega), ?_⟩⟩
    have := ih (by omega) (by omega)
    rw [dg_s i0] at this
    exact this
  exact key 0 (by omega) (by omega)
