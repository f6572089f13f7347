/-! the longest common run of two rows, and the most that stand in one order in both -/
def rn (A B : Int → Int) (la lb i k n : Int) : Prop := (0 ≤ i ∧ 0 ≤ k ∧ 0 ≤ n ∧ i + n ≤ la ∧ k + n ≤ lb) ∧ ∀ t, 0 ≤ t → t < n → A (i + t) = B (k + t)
def lgst (A B : Int → Int) (la lb y : Int) : Prop := (∃ i k, rn A B la lb i k y) ∧ ∀ i k n, rn A B la lb i k n → n ≤ y
theorem lgst.uniq {A B : Int → Int} {la lb x y : Int} (h : lgst A B la lb x) (g : lgst A B la lb y) : x = y := by
  obtain ⟨⟨i, k, h1⟩, h2⟩ := h
  obtain ⟨⟨i', k', g1⟩, g2⟩ := g
  have := h2 _ _ _ g1
  have := g2 _ _ _ h1
  omega
theorem lgst.rng {A B : Int → Int} {la lb x : Int} (h : lgst A B la lb x) : 0 ≤ x ∧ x ≤ la := by
  obtain ⟨⟨i, k, h1, -⟩, -⟩ := h
  omega
def cend (A B : Int → Int) (la lb i j c : Int) : Prop := rn A B la lb (i - c) (j - c) c ∧ ∀ n, rn A B la lb (i - n) (j - n) n → n ≤ c
theorem cend_0 {A B : Int → Int} {la lb i j : Int} (h1 : 0 ≤ i) (h2 : i ≤ la) (h3 : 0 ≤ j) (h4 : j ≤ lb) (h : i = 0 ∨ j = 0) : cend A B la lb i j 0 :=
  ⟨⟨by omega, fun t a b => by omega⟩, fun n q => by have := q.1; omega⟩
theorem cend_ne {A B : Int → Int} {la lb i j : Int} (h1 : 1 ≤ i) (h2 : i ≤ la) (h3 : 1 ≤ j) (h4 : j ≤ lb) (h : A (i - 1) ≠ B (j - 1)) : cend A B la lb i j 0 :=
  ⟨⟨by omega, fun t a b => by omega⟩, fun n q => by
    by_cases e : n ≤ 0
    · exact e
    · have := q.2 (n - 1) (by omega) (by omega)
      rw [show i - n + (n - 1) = i - 1 by omega, show j - n + (n - 1) = j - 1 by omega] at this
      exact absurd this h⟩
theorem cend_eq {A B : Int → Int} {la lb i j c : Int} (h2 : i ≤ la) (h4 : j ≤ lb) (g : cend A B la lb (i - 1) (j - 1) c) (h : A (i - 1) = B (j - 1)) : cend A B la lb i j (c + 1) := by
  obtain ⟨⟨g1, g2⟩, g3⟩ := g
  refine ⟨⟨by omega, fun t a b => ?_⟩, fun n q => ?_⟩
  · by_cases e : t = c
    · rw [e, show i - (c + 1) + c = i - 1 by omega, show j - (c + 1) + c = j - 1 by omega]; exact h
    · have := g2 t a (by omega)
      rw [show i - 1 - c + t = i - (c + 1) + t by omega, show j - 1 - c + t = j - (c + 1) + t by omega] at this
      exact this
  · by_cases e : n ≤ 0
    · omega
    · have := g3 (n - 1) ⟨by have := q.1; omega, fun t a b => by
        have := q.2 t a (by omega)
        rw [show i - 1 - (n - 1) + t = i - n + t by omega, show j - 1 - (n - 1) + t = j - n + t by omega]
        exact this⟩
      omega
theorem lgst_of {A B : Int → Int} {la lb m : Int} {f : Int → Int → Int} (h0 : ∃ i k, rn A B la lb i k m) (h : ∀ i j, 0 ≤ i → i ≤ la → 0 ≤ j → j ≤ lb → cend A B la lb i j (f i j) ∧ f i j ≤ m) : lgst A B la lb m :=
  ⟨h0, fun i k n q => by
    obtain ⟨c, d⟩ := h (i + n) (k + n) (by have := q.1; omega) (by have := q.1; omega) (by have := q.1; omega) (by have := q.1; omega)
    have := c.2 n (by rw [show i + n - n = i by omega, show k + n - n = k by omega]; exact q)
    omega⟩
/-- the most in order, by how many of the one and of the other -/
def lcs (A B : Int → Int) : Nat → Nat → Int
  | 0, _ => 0
  | _ + 1, 0 => 0
  | i + 1, j + 1 => if A (i : Int) = B (j : Int) then lcs A B i j + 1 else max (lcs A B i (j + 1)) (lcs A B (i + 1) j)
def lcz (A B : Int → Int) (i j : Int) : Int := lcs A B i.toNat j.toNat
theorem lcz_0 {A B : Int → Int} {i j : Int} (h : i = 0 ∨ j = 0) : lcz A B i j = 0 := by
  unfold lcz
  rcases h with rfl | rfl
  · show lcs A B 0 _ = 0
    unfold lcs; rfl
  · show lcs A B _ 0 = 0
    cases i.toNat <;> (unfold lcs; rfl)
theorem lcz_s {A B : Int → Int} {i j : Int} (h1 : 1 ≤ i) (h2 : 1 ≤ j) : lcz A B i j = if A (i - 1) = B (j - 1) then lcz A B (i - 1) (j - 1) + 1 else max (lcz A B (i - 1) j) (lcz A B i (j - 1)) := by
  unfold lcz
  rw [show i.toNat = (i - 1).toNat + 1 by omega, show j.toNat = (j - 1).toNat + 1 by omega]
  rw [lcs]
  rw [show ((i - 1).toNat : Int) = i - 1 by omega, show ((j - 1).toNat : Int) = j - 1 by omega]
theorem lcs_b {A B : Int → Int} : ∀ i j : Nat, 0 ≤ lcs A B i j ∧ lcs A B i j ≤ i
  | 0, j => by unfold lcs; omega
  | i + 1, 0 => by unfold lcs; omega
  | i + 1, j + 1 => by
    rw [lcs]
    have h1 := lcs_b (A := A) (B := B) i j
    have h2 := lcs_b (A := A) (B := B) i (j + 1)
    have h3 := lcs_b (A := A) (B := B) (i + 1) j
    by_cases e : A (i : Int) = B (j : Int)
    · rw [if_pos e]; omega
    · rw [if_neg e]; omega
theorem lcz_b {A B : Int → Int} {i j : Int} (h : 0 ≤ i) : 0 ≤ lcz A B i j ∧ lcz A B i j ≤ i := by
  have := lcs_b (A := A) (B := B) i.toNat j.toNat
  unfold lcz; omega
def lrun (s : Int → Int → Int) (a b y : Int) : Prop := lgst (fun t => s 156 (8 * a + t)) (fun t => s 156 (8 * b + t)) (s 155 a) (s 155 b) y
def AL (s : Int → Int → Int) : Prop := ∀ j, 0 ≤ j → j < 9 → s 88 j = 0 ∧ s (88 + j) 0 = 0
def alP (k : Int) : Prop := 89 ≤ k ∧ k ≤ 96
theorem DD.al {s s' : Int → Int → Int} (h : DD s) (f : frm alP s s') : DD s' := h.fr (fun k hk => f k (by unfold alP; omega))
theorem lrun.al {s s' : Int → Int → Int} {a b y : Int} (h : lrun s a b y) (f : frm alP s s') : lrun s' a b y := by
  unfold lrun at h ⊢
  rw [f 155 (by unfold alP; omega), f 156 (by unfold alP; omega)]; exact h
theorem Inv.al {S0 : Int → Int} {s s' : Int → Int → Int} (h : Inv S0 s) (f : frm alP s s') (g : AL s') : Inv S0 s' := by
  have k : ∀ k, ¬ (89 ≤ k ∧ k ≤ 96) → s' k = s k := fun k hk => f k hk
  obtain ⟨h0, ha, hb, hc, hd, he, hf, hg⟩ := h
  exact ⟨(k 0 (by omega)).trans h0, DD.al ha f, hb.k (k _ (by omega)) (k _ (by omega)),
    hc.k (by rw [k 97 (by omega)]) (by rw [k 146 (by omega)]) (by rw [k 146 (by omega)]; exact Int.le_refl _) (k _ (by omega)) (k _ (by omega)) (k _ (by omega)) (k _ (by omega)) (k _ (by omega)) (k _ (by omega)) (fun a a1 a2 => k _ (by omega)),
    hd.k (k _ (by omega)) (k _ (by omega)),
    he.k (by rw [k 124 (by omega)]) (by rw [k 146 (by omega)]) (k _ (by omega)) (k _ (by omega)) (k _ (by omega)) (fun a a1 a2 => k _ (by omega)),
    hf.k (by rw [k 139 (by omega)]) (by rw [k 141 (by omega)]) (k _ (by omega)) (k _ (by omega)) (k _ (by omega)) (by rw [k 145 (by omega)]) (by rw [k 145 (by omega)]),
    g, fun p p0 p1 => by rw [k (111 + p) (by omega)]; exact hg.2 p p0 p1⟩
/-- an earlier letter by the same hand -/
def earl (s : Int → Int → Int) (l o : Int) : Prop := s 154 o < s 154 l ∧ s 152 o = s 152 l
/-- of the first letters, the one that has most in a run with a letter, and how much -/
def lfr (s : Int → Int → Int) (l r n f m : Int) : Prop :=
  (∀ o y, 0 ≤ o → o < n → earl s l o → lrun s l o y → y ≤ m) ∧ ((f = -1 ∧ m = r) ∨ ((0 ≤ f ∧ f < n) ∧ earl s l f ∧ lrun s l f m ∧ r < m ∧ ∀ o y, 0 ≤ o → o < f → earl s l o → lrun s l o y → y < m))
theorem lfr.uniq {s : Int → Int → Int} {l r n f m f' m' : Int} (h : lfr s l r n f m) (g : lfr s l r n f' m') : f = f' := by
  obtain ⟨h0, h⟩ := h
  obtain ⟨g0, g⟩ := g
  rcases h with ⟨h1, h2⟩ | ⟨h1, h2, h3, h4, h5⟩ <;> rcases g with ⟨g1, g2⟩ | ⟨g1, g2, g3, g4, g5⟩
  · omega
  · have := h0 _ _ g1.1 g1.2 g2 g3; omega
  · have := g0 _ _ h1.1 h1.2 h2 h3; omega
  · have a1 := h0 _ _ g1.1 g1.2 g2 g3
    have a2 := g0 _ _ h1.1 h1.2 h2 h3
    by_cases c : f < f'
    · have := g5 _ _ h1.1 c h2 h3; omega
    · by_cases d : f' < f
      · have := h5 _ _ g1.1 d g2 g3; omega
      · omega
theorem lfr.no {s : Int → Int → Int} {l r n f m : Int} (h : lfr s l r n f m) (c : ¬ earl s l n) : lfr s l r (n + 1) f m := by
  obtain ⟨h0, h⟩ := h
  refine ⟨fun o y o0 o1 o2 o3 => ?_, h.imp id (fun q => ⟨by omega, q.2⟩)⟩
  by_cases e : o = n
  · subst e; exact absurd o2 c
  · exact h0 o y o0 (by omega) o2 o3
theorem lfr.le {s : Int → Int → Int} {l r n f m y : Int} (h : lfr s l r n f m) (c : lrun s l n y) (d : y ≤ m) : lfr s l r (n + 1) f m := by
  obtain ⟨h0, h⟩ := h
  refine ⟨fun o y' o0 o1 o2 o3 => ?_, h.imp id (fun q => ⟨by omega, q.2⟩)⟩
  by_cases e : o = n
  · subst e; rw [lgst.uniq o3 c]; exact d
  · exact h0 o y' o0 (by omega) o2 o3
theorem lfr.gt {s : Int → Int → Int} {l r n f m y : Int} (h0' : 0 ≤ n) (h : lfr s l r n f m) (b : earl s l n) (c : lrun s l n y) (d : m < y) : lfr s l r (n + 1) n y := by
  obtain ⟨h0, h⟩ := h
  refine ⟨fun o y' o0 o1 o2 o3 => ?_, Or.inr ⟨by omega, b, c, ?_, fun o y' o0 o1 o2 o3 => ?_⟩⟩
  · by_cases e : o = n
    · subst e; rw [lgst.uniq o3 c]; exact Int.le_refl _
    · have := h0 o y' o0 (by omega) o2 o3; omega
  · rcases h with ⟨h1, h2⟩ | ⟨h1, h2, h3, h4, h5⟩ <;> omega
  · have := h0 o y' o0 o1 o2 o3; omega
theorem lfr.al {s s' : Int → Int → Int} {l o : Int} (f : frm alP s s') : (earl s' l o ↔ earl s l o) := by
  unfold earl
  rw [f 154 (by unfold alP; omega), f 152 (by unfold alP; omega)]
