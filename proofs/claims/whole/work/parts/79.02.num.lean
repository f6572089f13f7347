/-! whole numbers as rows of digits to the base 2^30 -/
theorem in_up (M : Int → Prop) (h0 : M 0) (hs : ∀ n, 0 ≤ n → M n → M (n + 1)) : ∀ n, 0 ≤ n → M n := lp_dn 0 M (fun l hl ih => by
  by_cases e : l = 0
  · rw [e]; exact h0
  · have := hs (l - 1) (by omega) (ih (by omega))
    rw [show l - 1 + 1 = l by omega] at this
    exact this)
def bp (n : Int) : Int := 1073741824 ^ n.toNat
theorem bp_0 : bp 0 = 1 := rfl
theorem bp_s {n : Int} (h : 0 ≤ n) : bp (n + 1) = bp n * 1073741824 := by
  unfold bp
  rw [show (n + 1).toNat = n.toNat + 1 by omega, Int.pow_succ]
theorem bp_pos (n : Int) : 1 ≤ bp n := by
  have : (0 : Int) < 1073741824 ^ n.toNat := Int.pow_pos (by decide)
  unfold bp; omega
theorem bp_add {a : Int} (h : 0 ≤ a) : ∀ b, 0 ≤ b → bp (a + b) = bp a * bp b := by
  refine in_up _ (by rw [Int.add_zero, bp_0, Int.mul_one]) (fun n hn ih => ?_)
  rw [← Int.add_assoc, bp_s (by omega), bp_s hn, ih, Int.mul_assoc]
theorem bp_le {a b : Int} (g : a ≤ b) : bp a ≤ bp b := by
  by_cases h : 0 ≤ a
  · have e := bp_add (a := a) h (b - a) (by omega)
    rw [show a + (b - a) = b by omega] at e
    have h1 := bp_pos a
    have h2 := bp_pos (b - a)
    have := Int.mul_le_mul_of_nonneg_left h2 (show (0 : Int) ≤ bp a by omega)
    rw [e]; omega
  · have h1 := bp_pos b
    have : bp a = 1 := by unfold bp; rw [show a.toNat = 0 by omega]; rfl
    omega
def vlN (f : Int → Int) : Nat → Int
  | 0 => 0
  | k + 1 => vlN f k + f (k : Int) * 1073741824 ^ k
def vl (n : Int) (f : Int → Int) : Int := vlN f n.toNat
theorem vl_0 (f : Int → Int) : vl 0 f = 0 := rfl
theorem vl_s {n : Int} (h : 0 ≤ n) (f : Int → Int) : vl (n + 1) f = vl n f + f n * bp n := by
  unfold vl bp
  rw [show (n + 1).toNat = n.toNat + 1 by omega, vlN, show ((n.toNat : Nat) : Int) = n by omega]
theorem vl_c {f g : Int → Int} : ∀ n, 0 ≤ n → (∀ i, 0 ≤ i → i < n → f i = g i) → vl n f = vl n g := by
  refine in_up _ (fun _ => rfl) (fun n hn ih h => ?_)
  rw [vl_s hn, vl_s hn, ih (fun i i0 i1 => h i i0 (by omega)), h n hn (by omega)]
def dgt (n : Int) (f : Int → Int) : Prop := ∀ i, 0 ≤ i → i < n → 0 ≤ f i ∧ f i < 1073741824
theorem dgt.le {n m : Int} {f : Int → Int} (h : dgt n f) (g : m ≤ n) : dgt m f := fun i i0 i1 => h i i0 (by omega)
theorem mul_lt_bp {a b : Int} (n : Int) (h0 : 0 ≤ a) (h1 : a < 1073741824) (h : b < bp n) : b + a * bp n < bp n * 1073741824 := by
  have p := bp_pos n
  have := Int.mul_le_mul_of_nonneg_right (show a ≤ 1073741823 by omega) (show (0 : Int) ≤ bp n by omega)
  omega
theorem vl_b {f : Int → Int} : ∀ n, 0 ≤ n → dgt n f → 0 ≤ vl n f ∧ vl n f < bp n := by
  refine in_up _ (fun _ => by rw [vl_0, bp_0]; omega) (fun n hn ih h => ?_)
  have i1 := ih (h.le (by omega))
  have d := h n hn (by omega)
  have p := bp_pos n
  have := Int.mul_nonneg d.1 (show (0 : Int) ≤ bp n by omega)
  have := mul_lt_bp n d.1 d.2 i1.2
  rw [vl_s hn, bp_s hn]
  omega
theorem vl_z {f : Int → Int} {n : Int} (hn : 0 ≤ n) : ∀ m, 0 ≤ m → (∀ i, n ≤ i → i < n + m → f i = 0) → vl (n + m) f = vl n f := by
  refine in_up _ (fun _ => by rw [Int.add_zero]) (fun m hm ih h => ?_)
  rw [← Int.add_assoc, vl_s (by omega), ih (fun i i0 i1 => h i i0 (by omega)), h (n + m) (by omega) (by omega), Int.zero_mul, Int.add_zero]
theorem vl_z0 {f : Int → Int} {n m : Int} (hn : 0 ≤ n) (hm : n ≤ m) (h : ∀ i, n ≤ i → i < m → f i = 0) : vl m f = vl n f := by
  have := vl_z (f := f) hn (m - n) (by omega) (fun i i0 i1 => h i i0 (by omega))
  rw [show n + (m - n) = m by omega] at this
  exact this
/-- a row in two -/
theorem vl_2 (f : Int → Int) {i : Int} (hi : 0 ≤ i) : ∀ m, 0 ≤ m → vl (i + m) f = vl i f + bp i * vl m (fun j => f (i + j)) := by
  refine in_up _ (by rw [Int.add_zero, vl_0, Int.mul_zero, Int.add_zero]) (fun m hm ih => ?_)
  rw [← Int.add_assoc, vl_s (by omega), ih, vl_s hm, bp_add hi m hm, Int.mul_add]
  rw [show f (i + m) * (bp i * bp m) = bp i * (f (i + m) * bp m) by grind]
  omega
/-- its lowest digit, and the rest -/
theorem vl_l (f : Int → Int) {m : Int} (hm : 0 ≤ m) : vl (m + 1) f = f 0 + 1073741824 * vl m (fun j => f (1 + j)) := by
  have h := vl_2 f (i := 1) (by omega) m hm
  have e : vl 1 f = f 0 := by
    have := vl_s (n := 0) (by omega) f
    rw [vl_0, bp_0] at this
    show vl (0 + 1) f = f 0
    rw [this]; omega
  rw [show m + 1 = 1 + m by omega, h, e, show bp 1 = 1073741824 from rfl]
/-- the digits of a number are its own -/
theorem vl_d {f g : Int → Int} : ∀ n, 0 ≤ n → dgt n f → dgt n g → vl n f = vl n g → ∀ i, 0 ≤ i → i < n → f i = g i := by
  refine in_up _ (fun _ _ _ i i0 i1 => by omega) (fun n hn ih hf hg e i i0 i1 => ?_)
  rw [vl_s hn, vl_s hn] at e
  have a := vl_b n hn (hf.le (by omega))
  have b := vl_b n hn (hg.le (by omega))
  have c : f n = g n := by
    have p := bp_pos n
    by_cases c1 : f n < g n
    · have := Int.mul_le_mul_of_nonneg_right (show f n + 1 ≤ g n by omega) (show (0 : Int) ≤ bp n by omega)
      rw [Int.add_mul] at this; omega
    · by_cases c2 : g n < f n
      · have := Int.mul_le_mul_of_nonneg_right (show g n + 1 ≤ f n by omega) (show (0 : Int) ≤ bp n by omega)
        rw [Int.add_mul] at this; omega
      · omega
  by_cases d : i = n
  · rw [d]; exact c
  · rw [c] at e
    exact ih (hf.le (by omega)) (hg.le (by omega)) (by omega) i i0 (by omega)
theorem vl_w {n m : Int} {f g : Int → Int} (hn : 0 ≤ n) (hm : 0 ≤ m) (df : dgt n f) (dg : dgt m g) (wf : n = 0 ∨ bp (n - 1) ≤ vl n f) (wg : m = 0 ∨ bp (m - 1) ≤ vl m g) (e : vl n f = vl m g) : n = m := by
  have a := vl_b n hn df
  have b := vl_b m hm dg
  by_cases c : n < m
  · have := bp_le (show n ≤ m - 1 by omega); omega
  · by_cases d : m < n
    · have := bp_le (show m ≤ n - 1 by omega); omega
    · omega
/-! the reference's registers (row 144, widths 145), the class's numbers -/
def rg (s : Int → Int → Int) (r : Int) : Int → Int := fun i => s 144 (50 * r + i)
def PG (s : Int → Int → Int) (r N : Int) : Prop := (0 ≤ s 145 r ∧ s 145 r ≤ 50) ∧ dgt 50 (rg s r) ∧ (∀ i, s 145 r ≤ i → i < 50 → rg s r i = 0) ∧ vl 50 (rg s r) = N
def RG (s : Int → Int → Int) (r N : Int) : Prop := PG s r N ∧ (s 145 r = 0 ∨ bp (s 145 r - 1) ≤ N)
def BG (s : Int → Int → Int) (x N : Int) : Prop := (0 ≤ s x 1 ∧ s x 1 ≤ 16) ∧ dgt (s x 1) (s (x + 1)) ∧ vl (s x 1) (s (x + 1)) = N ∧ (s x 1 = 0 ∨ bp (s x 1 - 1) ≤ N)
def RF (P : Int → Prop) (s s' : Int → Int → Int) : Prop := (∀ k, k ≠ 144 → k ≠ 145 → s' k = s k) ∧ ∀ q, ¬ P q → s' 145 q = s 145 q ∧ ∀ i, 0 ≤ i → i < 50 → rg s' q i = rg s q i
theorem RF.rf {P : Int → Prop} {s : Int → Int → Int} : RF P s s := ⟨fun _ _ _ => rfl, fun _ _ => ⟨rfl, fun _ _ _ => rfl⟩⟩
theorem RF.tr {P : Int → Prop} {s1 s2 s3 : Int → Int → Int} (h : RF P s1 s2) (g : RF P s2 s3) : RF P s1 s3 := ⟨fun k a b => (g.1 k a b).trans (h.1 k a b), fun q hq => ⟨(g.2 q hq).1.trans (h.2 q hq).1, fun i i0 i1 => ((g.2 q hq).2 i i0 i1).trans ((h.2 q hq).2 i i0 i1)⟩⟩
theorem RF.wk {P R : Int → Prop} {s1 s2 : Int → Int → Int} (h : RF P s1 s2) (e : ∀ k, P k → R k) : RF R s1 s2 := ⟨h.1, fun q hq => h.2 q (fun c => hq (e q c))⟩
theorem RF.frm {P : Int → Prop} {s1 s2 : Int → Int → Int} (h : RF P s1 s2) : frm (fun k => k = 144 ∨ k = 145) s1 s2 := fun k hk => h.1 k (fun e => hk (Or.inl e)) (fun e => hk (Or.inr e))
theorem PG.vw {s : Int → Int → Int} {r N : Int} (h : PG s r N) : vl (s 145 r) (rg s r) = N := by
  obtain ⟨a, b, c, d⟩ := h
  rw [← vl_z0 a.1 a.2 c]; exact d
theorem PG.b {s : Int → Int → Int} {r N : Int} (h : PG s r N) : 0 ≤ N ∧ N < bp (s 145 r) := by
  have := vl_b (f := rg s r) (s 145 r) h.1.1 (h.2.1.le h.1.2)
  rw [h.vw] at this
  exact this
theorem PG.fr {P : Int → Prop} {s s' : Int → Int → Int} {r N : Int} (h : PG s r N) (f : RF P s s') (g : ¬ P r) : PG s' r N := by
  obtain ⟨e1, e2⟩ := f.2 r g
  obtain ⟨a, b, c, d⟩ := h
  unfold PG
  rw [e1]
  exact ⟨a, fun i i0 i1 => by rw [e2 i i0 i1]; exact b i i0 i1, fun i i0 i1 => by rw [e2 i (by omega) i1]; exact c i i0 i1, by rw [vl_c 50 (by omega) e2]; exact d⟩
theorem RG.fr {P : Int → Prop} {s s' : Int → Int → Int} {r N : Int} (h : RG s r N) (f : RF P s s') (g : ¬ P r) : RG s' r N := ⟨h.1.fr f g, by rw [(f.2 r g).1]; exact h.2⟩
theorem RG.w0 {s : Int → Int → Int} {r N : Int} (h : RG s r N) : s 145 r = 0 ↔ N = 0 := by
  constructor
  · intro e
    have := h.1.vw
    rw [e, vl_0] at this
    exact this.symm
  · intro e
    rcases h.2 with c | c
    · exact c
    · have := bp_pos (s 145 r - 1); omega
theorem RG.wle {s : Int → Int → Int} {r N m : Int} (h : RG s r N) (hm : 0 ≤ m) (g : N < bp m) : s 145 r ≤ m := by
  rcases h.2 with c | c
  · omega
  · by_cases e : s 145 r ≤ m
    · exact e
    · have := bp_le (show m ≤ s 145 r - 1 by omega); omega
/-- what the fraction's cells hold on both sides -/
theorem IF_of {s : Int → Int → Int} {a b : Int} (h1 : BG s 139 a) (h2 : BG s 141 b) (g1 : RG s 0 a) (g2 : RG s 1 b) : IF s := by
  have key : ∀ x r N, BG s x N → RG s r N → (s x 1 = s 145 r ∧ 0 ≤ s 145 r ∧ s 145 r ≤ 16) ∧ eqr (s 145 r) (s (x + 1)) (rg s r) ∧ inr (s 145 r) 0 1073741823 (rg s r) := fun x r N h g => by
    obtain ⟨a1, a2, a3, a4⟩ := h
    have v := g.1.vw
    have dg := g.1.2.1.le g.1.1.2
    have e : s x 1 = s 145 r := vl_w a1.1 g.1.1.1 a2 dg (by rw [a3]; exact a4) (by rw [v]; exact g.2) (by rw [a3, v])
    rw [e] at a1 a2 a3
    exact ⟨⟨e, a1⟩, vl_d _ a1.1 a2 dg (by rw [a3, v]), fun i i0 i1 => by have := dg i i0 i1; omega⟩
  obtain ⟨x1, x2, x3⟩ := key 139 0 a h1 g1
  obtain ⟨y1, y2, y3⟩ := key 141 1 b h2 g2
  have e : rg s 0 = s 144 := by funext i; unfold rg; rw [show 50 * 0 + i = i by omega]
  have e1 : rg s 1 = fun i => s 144 (50 + i) := by funext i; unfold rg; rw [show 50 * 1 + i = 50 + i by omega]
  rw [e, show (139 : Int) + 1 = 140 from rfl] at x2
  rw [e] at x3
  rw [e1, show (141 : Int) + 1 = 142 from rfl] at y2
  rw [e1] at y3
  exact ⟨x1, y1, x2, y2, x3, y3⟩
