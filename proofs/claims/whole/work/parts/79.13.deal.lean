/-! letters dealt: the told ones in a row, in how many ways from some on, the first way -/
def lfN (L : Int) : Nat → Int → Int
  | 0 => fun _ => 0
  | k + 1 => fun i => if bt L (k : Int) = 1 ∧ i = sg (k : Int) (bt L) then (k : Int) else lfN L k i
def lf (L n : Int) : Int → Int := lfN L n.toNat
theorem lf_s (L : Int) {n : Int} (h : 0 ≤ n) (i : Int) : lf L (n + 1) i = if bt L n = 1 ∧ i = sg n (bt L) then n else lf L n i := by
  unfold lf
  rw [show (n + 1).toNat = n.toNat + 1 by omega, lfN, show ((n.toNat : Nat) : Int) = n by omega]
theorem sgb_s (L : Int) {n : Int} (h : 0 ≤ n) : sg (n + 1) (bt L) = sg n (bt L) + bt L n := sg_s h _
theorem sgb_nn (L : Int) {n : Int} : 0 ≤ sg n (bt L) := sg_nn (fun i _ _ => by have := bt_01 L i; omega)
theorem sgb_le (L : Int) {n : Int} (h : 0 ≤ n) : ∀ m, 0 ≤ m → sg n (bt L) ≤ sg (n + m) (bt L) := by
  refine in_up _ (by rw [Int.add_zero]; exact Int.le_refl _) (fun m hm ih => ?_)
  rw [← Int.add_assoc, sgb_s L (by omega)]
  have := bt_01 L (n + m)
  omega
theorem lf_b (L : Int) : ∀ n, 0 ≤ n → ∀ i, 0 ≤ i → i < sg n (bt L) → 0 ≤ lf L n i ∧ lf L n i < n := by
  refine in_up _ (fun i i0 i1 => by rw [sg_0] at i1; omega) (fun n hn ih i i0 i1 => ?_)
  rw [lf_s L hn]
  by_cases c : bt L n = 1 ∧ i = sg n (bt L)
  · rw [if_pos c]; omega
  · rw [if_neg c]
    rw [sgb_s L hn] at i1
    have := bt_01 L n
    have := ih i i0 (by omega)
    omega
theorem lf_k (L : Int) {n : Int} (hn : 0 ≤ n) {i : Int} (hi : i < sg n (bt L)) : ∀ m, 0 ≤ m → lf L (n + m) i = lf L n i := by
  refine in_up _ (by rw [Int.add_zero]) (fun m hm ih => ?_)
  have := sgb_le L hn m hm
  rw [← Int.add_assoc, lf_s L (by omega), if_neg (by omega), ih]
theorem lf_h (L : Int) {n l : Int} (h0 : 0 ≤ l) (h1 : l < n) (hb : bt L l = 1) : lf L n (sg l (bt L)) = l := by
  have a := lf_s L h0 (sg l (bt L))
  rw [if_pos ⟨hb, rfl⟩] at a
  have b := lf_k L (n := l + 1) (by omega) (i := sg l (bt L)) (by rw [sgb_s L h0]; omega) (n - (l + 1)) (by omega)
  rw [show l + 1 + (n - (l + 1)) = n by omega, a] at b
  exact b
theorem ipow_le {a : Int} (ha : 1 ≤ a) {m n : Nat} (h : m ≤ n) : a ^ m ≤ a ^ n := by
  obtain ⟨d, rfl⟩ : ∃ d, n = m + d := ⟨n - m, by omega⟩
  rw [Int.pow_add]
  have p : 0 < a ^ m := Int.pow_pos (by omega)
  have q : 0 < a ^ d := Int.pow_pos (by omega)
  have := Int.mul_le_mul_of_nonneg_left (show 1 ≤ a ^ d by omega) (show 0 ≤ a ^ m by omega)
  omega
def wt (h : Int → Int → Int) (n : Int) (w : Int → Int) (k : Nat) (t r : Int) : Int := if h r (n - 1 - k) = 0 ∧ bt t r = 0 then w (t + 2 ^ r.toNat) else 0
def wd (h : Int → Int → Int) (n : Int) : Nat → Int → Int
  | 0 => fun _ => 1
  | k + 1 => fun t => sg 6 (wt h n (wd h n k) k t)
theorem wd_b {h : Int → Int → Int} {n : Int} : ∀ (k : Nat) (t : Int), 0 ≤ wd h n k t ∧ wd h n k t ≤ 6 ^ k
  | 0, t => by show 0 ≤ (1 : Int) ∧ (1 : Int) ≤ 6 ^ 0; omega
  | k + 1, t => by
    have := sg_b (n := 6) (f := wt h n (wd h n k) k t) (a := 0) (b := 6 ^ k) (by omega) (fun r _ _ => by
      have p := wd_b (h := h) (n := n) k (t + 2 ^ r.toNat)
      unfold wt
      by_cases c : h r (n - 1 - k) = 0 ∧ bt t r = 0
      · rw [if_pos c]; exact p
      · rw [if_neg c]; omega)
    show 0 ≤ sg 6 (wt h n (wd h n k) k t) ∧ sg 6 (wt h n (wd h n k) k t) ≤ 6 ^ (k + 1)
    rw [Int.pow_succ]
    omega
theorem wt_nn {h : Int → Int → Int} {n : Int} (k : Nat) (t r : Int) : 0 ≤ wt h n (wd h n k) k t r := by
  unfold wt
  by_cases c : h r (n - 1 - k) = 0 ∧ bt t r = 0
  · rw [if_pos c]; exact (wd_b k _).1
  · rw [if_neg c]; exact Int.le_refl 0
theorem wd_6 {h : Int → Int → Int} {n : Int} {k : Nat} (hk : k ≤ 6) (t : Int) : 0 ≤ wd h n k t ∧ wd h n k t ≤ 46656 := by
  have a := wd_b (h := h) (n := n) k t
  have b : (6 : Int) ^ k ≤ 6 ^ 6 := ipow_le (by decide) hk
  have c : (6 : Int) ^ 6 = 46656 := rfl
  omega
theorem wd_c {h h' : Int → Int → Int} {n : Int} (e : ∀ r i, 0 ≤ r → r < 6 → 0 ≤ i → i < n → h r i = h' r i) : ∀ (k : Nat), (k : Int) ≤ n → ∀ t, wd h n k t = wd h' n k t
  | 0, _, _ => rfl
  | k + 1, hk, t => by
    have ih := wd_c e k (by omega)
    show sg 6 (wt h n (wd h n k) k t) = sg 6 (wt h' n (wd h' n k) k t)
    refine sg_c (fun r r0 r1 => ?_)
    unfold wt
    rw [e r _ r0 r1 (by omega) (by omega), ih]
def tk (Y : Int → Int) (i : Int) : Int := sg i (fun j => 2 ^ (Y j).toNat)
def FDD (h : Int → Int → Int) (n m : Int) (Y : Int → Int) : Prop := ∀ i, 0 ≤ i → i < m → fstk 6 (fun r => 0 < wt h n (wd h n (n - 1 - i).toNat) (n - 1 - i).toNat (tk Y i) r) (Y i) ∧ 0 ≤ Y i
theorem tk_c {Y Z : Int → Int} {i : Int} (h : ∀ j, 0 ≤ j → j < i → Y j = Z j) : tk Y i = tk Z i := sg_c (fun j j0 j1 => by rw [h j j0 j1])
theorem tk_s (Y : Int → Int) {i : Int} (h : 0 ≤ i) : tk Y (i + 1) = tk Y i + 2 ^ (Y i).toNat := sg_s h _
theorem FDD.uq {h : Int → Int → Int} {n : Int} {Y Z : Int → Int} : ∀ m, 0 ≤ m → FDD h n m Y → FDD h n m Z → ∀ i, 0 ≤ i → i < m → Y i = Z i := by
  refine in_up _ (fun _ _ i i0 i1 => by omega) (fun m hm ih y z i i0 i1 => ?_)
  have e := ih (fun i i0 i1 => y i i0 (by omega)) (fun i i0 i1 => z i i0 (by omega))
  by_cases c : i = m
  · rw [c]
    have a := (y m hm (by omega)).1
    have b := (z m hm (by omega)).1
    rw [← tk_c e] at b
    exact a.uniq b
  · exact e i i0 (by omega)
/-! sets of readers -/
theorem tb_on : ∀ a, a < 64 → ∀ k, k < 6 → a / 2 ^ k % 2 = 0 → (a + 2 ^ k < 64 ∧ pcN (a + 2 ^ k) = pcN a + 1) := by decide +kernel
theorem tb_b : ∀ a, a < 64 → pcN a ≤ 6 := by decide +kernel
theorem bc_s (n : Nat) (h : n < 64) : bc (n : Int) = ((pcN n : Nat) : Int) := by
  rw [bc_4 (by omega), show (n : Int) % 256 = (n : Int) by omega, show (n : Int) / 256 % 256 = 0 by omega, show (n : Int) / 65536 % 256 = 0 by omega, show (n : Int) / 16777216 = 0 by omega, show pcb 0 = 0 from rfl]
  unfold pcb pcN
  omega
theorem bc_on {t r : Int} (ht : 0 ≤ t ∧ t < 64) (hr : 0 ≤ r ∧ r < 6) (h : bt t r = 0) : t + 2 ^ r.toNat < 64 ∧ bc (t + 2 ^ r.toNat) = bc t + 1 := by
  obtain ⟨a, rfl⟩ := nat_of ht.1
  obtain ⟨k, rfl⟩ := nat_of hr.1
  rw [bt_n] at h
  obtain ⟨h1, h2⟩ := tb_on a (by omega) k (by omega) (by omega)
  rw [p2n, ← Int.natCast_add, bc_s _ h1, bc_s a (by omega)]
  omega
theorem bc_6 {t : Int} (ht : 0 ≤ t ∧ t < 64) : 0 ≤ bc t ∧ bc t ≤ 6 := by
  obtain ⟨a, rfl⟩ := nat_of ht.1
  have := tb_b a (by omega)
  rw [bc_s a (by omega)]
  omega
theorem bc_0 : bc 0 = 0 := by
  have := bc_s 0 (by decide)
  exact this
/-- the told letters in a row: how many, and the kin's bits -/
def dln (s : Int → Int → Int) (L : Int) : Int := sg (s 146 3) (bt L)
def dlh (s : Int → Int → Int) (L r i : Int) : Int := bt (s 163 r) (s 152 (lf L (s 146 3) i))
def dlT (s : Int → Int → Int) (L : Int) : Prop := DD s ∧ ID s ∧ (1 ≤ L ∧ L < 2 ^ (s 146 3).toNat)
theorem dlT.l {s : Int → Int → Int} {L i : Int} (h : dlT s L) (i0 : 0 ≤ i) (i1 : i < dln s L) : 0 ≤ lf L (s 146 3) i ∧ lf L (s 146 3) i < s 146 3 := lf_b L (s 146 3) h.1.cnt.2.2.2.2.1 i i0 i1
theorem dlT.r {s : Int → Int → Int} {L : Int} (h : dlT s L) : 1 ≤ L ∧ L < 1073741824 := by
  have c := h.1.cnt.2.2.2.2
  have : (2 : Int) ^ (s 146 3).toNat ≤ 2 ^ 30 := ipow_le (by decide) (by omega)
  have e : (2 : Int) ^ 30 = 1073741824 := rfl
  have := h.2.2
  omega
theorem dlT.cn {s : Int → Int → Int} {L : Int} (h : dlT s L) : bc L = dln s L := by
  have c := h.1.cnt.2.2.2.2
  unfold bc dln
  have a := sg_2 (bt L) (a := s 146 3) c.1 (30 - s 146 3) (by omega)
  rw [show s 146 3 + (30 - s 146 3) = 30 by omega] at a
  rw [a, sg_zero (n := 30 - s 146 3) (fun j j0 j1 => bt_z (by have := h.2.2; omega) ?_), Int.add_zero]
  have : (2 : Int) ^ (s 146 3).toNat ≤ 2 ^ (s 146 3 + j).toNat := ipow_le (by decide) (by omega)
  have := h.2.2
  omega
