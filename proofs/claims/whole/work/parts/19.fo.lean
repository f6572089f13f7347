/-! folds over rows -/
def foN (F : Int → Int → Int) (h : Int) : Nat → Int
  | 0 => h
  | k + 1 => F (k : Int) (foN F h k)
def fo (n : Int) (F : Int → Int → Int) (h : Int) : Int := foN F h n.toNat
theorem fo_0 (F : Int → Int → Int) (h : Int) : fo 0 F h = h := rfl
theorem fo_s {n : Int} (h0 : 0 ≤ n) (F : Int → Int → Int) (h : Int) : fo (n + 1) F h = F n (fo n F h) := by
  unfold fo
  rw [show (n + 1).toNat = n.toNat + 1 by omega, foN, show ((n.toNat : Nat) : Int) = n by omega]
theorem foN_c {F G : Int → Int → Int} {h : Int} : ∀ {n : Nat}, (∀ i : Int, 0 ≤ i → i < n → ∀ a, F i a = G i a) → foN F h n = foN G h n
  | 0, _ => rfl
  | n + 1, e => by
    rw [foN, foN, foN_c (n := n) (fun i i0 i1 => e i i0 (by omega)), e n (by omega) (by omega)]
theorem fo_c {n : Int} {F G : Int → Int → Int} {h : Int} (e : ∀ i : Int, 0 ≤ i → i < n → ∀ a, F i a = G i a) : fo n F h = fo n G h := foN_c (fun i i0 i1 => e i i0 (by omega))
def dg (n : Int) (f : Int → Int) (h : Int) : Int := fo n (fun i a => 31 * a + f i) h
theorem dg_0 (f : Int → Int) (h : Int) : dg 0 f h = h := rfl
theorem dg_s {n : Int} (h0 : 0 ≤ n) (f : Int → Int) (h : Int) : dg (n + 1) f h = 31 * dg n f h + f n := fo_s h0 _ _
theorem dg_c {n : Int} {f g : Int → Int} {h : Int} (e : ∀ i : Int, 0 ≤ i → i < n → f i = g i) : dg n f h = dg n g h := fo_c (fun i i0 i1 a => by rw [e i i0 i1])
def dgw (s : Int → Int → Int) (n h : Int) : Int := fo n (fun i a => 31 * (31 * a + s 147 i) + s 148 i) h
def dgp (s : Int → Int → Int) (n h : Int) : Int := fo n (fun i a => 31 * (31 * a + s 150 i) + s 151 i) h
def dgl (s : Int → Int → Int) (n h : Int) : Int := fo n (fun l a => dg (s 155 l) (fun k => s 156 (8 * l + k)) (31 * (31 * (31 * (31 * a + s 152 l) + s 153 l) + s 154 l) + s 155 l)) h
def dgs (s : Int → Int → Int) (n h : Int) : Int := fo n (fun k a => 31 * (31 * (31 * a + s 159 k) + s 160 k) + s 161 k) h
def dgf (s : Int → Int → Int) (n h : Int) : Int := fo n (fun q a => dg 4 (fun g => s 168 (4 * q + g)) (31 * a + s 167 q)) h
def dgD (s : Int → Int → Int) (h : Int) : Int := dgl s (s 146 3) (dgp s (s 146 2) (dg (s 146 1) (s 149) (dgw s (s 146 0) h)))
