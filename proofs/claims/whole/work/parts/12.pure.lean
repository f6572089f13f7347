/-! plain facts: loops by their counters, sums, ranges -/
theorem lp_up (n : Int) (M : Int → Prop) (h : ∀ l, l ≤ n → (l < n → M (l + 1)) → M l) : ∀ l, l ≤ n → M l := by
  have key : ∀ (k : Nat) (l : Int), l ≤ n → n - l ≤ k → M l := by
    intro k
    induction k with
    | zero => intro l h1 h2; exact h l h1 (fun h3 => by omega)
    | succ k ih => intro l h1 h2; exact h l h1 (fun h3 => ih (l + 1) (by omega) (by omega))
  intro l hl
  exact key (n - l).toNat l hl (by omega)
theorem lp_dn (n : Int) (M : Int → Prop) (h : ∀ l, n ≤ l → (n < l → M (l - 1)) → M l) : ∀ l, n ≤ l → M l := by
  have key : ∀ (k : Nat) (l : Int), n ≤ l → l - n ≤ k → M l := by
    intro k
    induction k with
    | zero => intro l h1 h2; exact h l h1 (fun h3 => by omega)
    | succ k ih => intro l h1 h2; exact h l h1 (fun h3 => ih (l - 1) (by omega) (by omega))
  intro l hl
  exact key (l - n).toNat l hl (by omega)
/-- a loop by a measure that falls -/
theorem lp_ms {α : Type} (μ : α → Int) (I M : α → Prop) (h : ∀ a, I a → (∀ b, I b → 0 ≤ μ b → μ b < μ a → M b) → M a) : ∀ a, I a → 0 ≤ μ a → M a := by
  have key : ∀ (k : Nat) (a : α), I a → μ a < k → M a := by
    intro k
    induction k with
    | zero => intro a h1 h2; exact h a h1 (fun b hb h0 hl => by omega)
    | succ k ih => intro a h1 h2; exact h a h1 (fun b hb h0 hl => ih b hb (by omega))
  intro a h1 h2
  exact key ((μ a).toNat + 1) a h1 (by omega)
def sgN : Nat → (Int → Int) → Int
  | 0, _ => 0
  | n + 1, f => sgN n f + f (n : Int)
/-- f 0 + .. + f (n - 1) -/
def sg (n : Int) (f : Int → Int) : Int := sgN n.toNat f
theorem sg_0 (f : Int → Int) : sg 0 f = 0 := rfl
theorem sg_s {n : Int} (h : 0 ≤ n) (f : Int → Int) : sg (n + 1) f = sg n f + f n := by
  unfold sg
  rw [show (n + 1).toNat = n.toNat + 1 by omega]
  show sgN n.toNat f + f ((n.toNat : Nat) : Int) = _
  rw [show ((n.toNat : Nat) : Int) = n by omega]
theorem sgN_c : ∀ {n : Nat} {f g : Int → Int}, (∀ i : Int, 0 ≤ i → i < n → f i = g i) → sgN n f = sgN n g
  | 0, _, _, _ => rfl
  | n + 1, f, g, h => by
    show sgN n f + f n = sgN n g + g n
    rw [sgN_c (fun i h0 h1 => h i h0 (by omega)), h n (by omega) (by omega)]
theorem sg_c {n : Int} {f g : Int → Int} (h : ∀ i : Int, 0 ≤ i → i < n → f i = g i) : sg n f = sg n g := sgN_c (fun i h0 h1 => h i h0 (by omega))
theorem sgN_b : ∀ {n : Nat} {f : Int → Int} {a b : Int}, (∀ i : Int, 0 ≤ i → i < n → a ≤ f i ∧ f i ≤ b) → n * a ≤ sgN n f ∧ sgN n f ≤ n * b
  | 0, _, _, _, _ => by simp [sgN]
  | n + 1, f, a, b, h => by
    have h1 := sgN_b (n := n) (f := f) (a := a) (b := b) (fun i h0 h1 => h i h0 (by omega))
    have h2 := h n (by omega) (by omega)
    show ((n + 1 : Nat) : Int) * a ≤ sgN n f + f n ∧ sgN n f + f n ≤ ((n + 1 : Nat) : Int) * b
    rw [Int.natCast_add, Int.add_mul, Int.add_mul]
    simp only [Int.natCast_one, Int.one_mul]
    omega
/-- a sum's bounds -/
theorem sg_b {n : Int} {f : Int → Int} {a b : Int} (h0 : 0 ≤ n) (h : ∀ i : Int, 0 ≤ i → i < n → a ≤ f i ∧ f i ≤ b) : n * a ≤ sg n f ∧ sg n f ≤ n * b := by
  have := sgN_b (n := n.toNat) (f := f) (a := a) (b := b) (fun i h1 h2 => h i h1 (by omega))
  rw [show ((n.toNat : Nat) : Int) = n by omega] at this
  exact this
theorem sgN_add : ∀ (n : Nat) (f g : Int → Int), sgN n (fun i => f i + g i) = sgN n f + sgN n g
  | 0, _, _ => rfl
  | n + 1, f, g => by
    show sgN n (fun i => f i + g i) + (f n + g n) = (sgN n f + f n) + (sgN n g + g n)
    rw [sgN_add n f g]; omega
theorem sg_add (n : Int) (f g : Int → Int) : sg n (fun i => f i + g i) = sg n f + sg n g := sgN_add _ f g
theorem sgN_mul : ∀ (n : Nat) (f : Int → Int) (c : Int), sgN n (fun i => c * f i) = c * sgN n f
  | 0, _, c => by simp [sgN]
  | n + 1, f, c => by
    show sgN n (fun i => c * f i) + c * f n = c * (sgN n f + f n)
    rw [sgN_mul n f c, Int.mul_add]
theorem sg_mul (n : Int) (f : Int → Int) (c : Int) : sg n (fun i => c * f i) = c * sg n f := sgN_mul _ f c
theorem sg_zero {n : Int} {f : Int → Int} (h : ∀ i : Int, 0 ≤ i → i < n → f i = 0) : sg n f = 0 := by
  by_cases h0 : 0 ≤ n
  · have := sg_b (f := f) (a := 0) (b := 0) h0 (fun i h1 h2 => by rw [h i h1 h2]; omega)
    omega
  · unfold sg
    rw [show n.toNat = 0 by omega]
    rfl
theorem sgN_swap : ∀ (n m : Nat) (f : Int → Int → Int), sgN n (fun i => sgN m (fun j => f i j)) = sgN m (fun j => sgN n (fun i => f i j))
  | 0, m, f => by
    have : ∀ m : Nat, sgN m (fun _ => 0) = 0 := fun m => by
      induction m with
      | zero => rfl
      | succ m ih => show sgN m _ + 0 = 0; rw [ih]; rfl
    exact (this m).symm
  | n + 1, m, f => by
    show sgN n (fun i => sgN m (fun j => f i j)) + sgN m (fun j => f n j) = sgN m (fun j => sgN n (fun i => f i j) + f n j)
    rw [sgN_swap n m f, sgN_add]
theorem sg_swap (n m : Int) (f : Int → Int → Int) : sg n (fun i => sg m (fun j => f i j)) = sg m (fun j => sg n (fun i => f i j)) := sgN_swap _ _ f
def eqr (n : Int) (f g : Int → Int) : Prop := ∀ i, 0 ≤ i → i < n → f i = g i
def inr (n lo hi : Int) (f : Int → Int) : Prop := ∀ i, 0 ≤ i → i < n → lo ≤ f i ∧ f i ≤ hi
theorem w2_s (s : Int → Int → Int) (k i v : Int) : w2 s k i v k i = v := by simp [w2]
theorem w2_k {s : Int → Int → Int} {k i v k' : Int} (h : k' ≠ k) : w2 s k i v k' = s k' := by funext i'; simp [w2, h]
theorem w2_i {s : Int → Int → Int} {k i v i' : Int} (h : i' ≠ i) : w2 s k i v k i' = s k i' := by simp [w2, h]
theorem w2_e (s : Int → Int → Int) (k i v i' : Int) : w2 s k i v k i' = if i' = i then v else s k i' := by simp [w2]
