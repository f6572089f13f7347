/-! what a walk wants to know of the drawer: both sides' tables are one, and their ranges -/
def DD (s : Int → Int → Int) : Prop := WM s ∧ IAq s
theorem Inv.dd {S0 : Int → Int} {s : Int → Int → Int} (h : Inv S0 s) : DD s := h.2.1
theorem DD.cnt {s : Int → Int → Int} (h : DD s) : (s 2 10 = s 146 0 ∧ 0 ≤ s 146 0 ∧ s 146 0 ≤ 8) ∧ (s 2 11 = s 146 1 ∧ 0 ≤ s 146 1 ∧ s 146 1 ≤ 6) ∧ (s 2 12 = s 146 2 ∧ 0 ≤ s 146 2 ∧ s 146 2 ≤ 8) ∧ s 2 13 = s 146 3 ∧ 0 ≤ s 146 3 ∧ s 146 3 ≤ 30 := by
  obtain ⟨⟨a1, a2, a3, a4, -⟩, ⟨c1, c2, c3, c4⟩, -⟩ := h
  exact ⟨⟨c1, a1⟩, ⟨c2, a2⟩, ⟨c3, a3⟩, c4, a4⟩
theorem DD.let {s : Int → Int → Int} (h : DD s) {l : Int} (h0 : 0 ≤ l) (h1 : l < s 146 3) : (s 8 l = s 152 l ∧ 0 ≤ s 152 l ∧ s 152 l < s 146 1) ∧ (s 9 l = s 153 l ∧ 0 ≤ s 153 l ∧ s 153 l < s 146 2) ∧ (s 10 l = s 154 l ∧ 0 ≤ s 154 l ∧ s 154 l ≤ 39) ∧ s 11 l = s 155 l ∧ 0 ≤ s 155 l ∧ s 155 l ≤ 8 := by
  obtain ⟨⟨-, -, -, -, -, -, -, -, -, b6, b7, b8, b9, -⟩, -, -, -, -, ⟨q1, q2, q3, q4⟩, -⟩ := h
  have := b6 l h0 h1
  have := b7 l h0 h1
  exact ⟨⟨q1 l h0 h1, by omega, by omega⟩, ⟨q2 l h0 h1, by omega, by omega⟩, ⟨q3 l h0 h1, b8 l h0 h1⟩, q4 l h0 h1, b9 l h0 h1⟩
theorem DD.pup {s : Int → Int → Int} (h : DD s) {p : Int} (h0 : 0 ≤ p) (h1 : p < s 146 2) : (s 6 p = s 150 p ∧ 1 ≤ s 150 p ∧ s 150 p ≤ 2) ∧ s 7 p = s 151 p ∧ -1 ≤ s 151 p ∧ s 151 p ≤ 3 := by
  obtain ⟨⟨-, -, -, -, -, -, -, b4, b5, -⟩, -, -, -, ⟨q1, q2⟩, -⟩ := h
  exact ⟨⟨q1 p h0 h1, b4 p h0 h1⟩, q2 p h0 h1, b5 p h0 h1⟩
theorem DD.wrd {s : Int → Int → Int} (h : DD s) {w : Int} (h0 : 0 ≤ w) (h1 : w < s 146 0) : (s 3 w = s 147 w ∧ 0 ≤ s 147 w ∧ s 147 w ≤ 9) ∧ s 4 w = s 148 w ∧ 0 ≤ s 148 w ∧ s 148 w ≤ 2 := by
  obtain ⟨⟨-, -, -, -, b1, b2, -⟩, -, ⟨q1, q2⟩, -⟩ := h
  exact ⟨⟨q1 w h0 h1, b1 w h0 h1⟩, q2 w h0 h1, b2 w h0 h1⟩
theorem DD.hnd {s : Int → Int → Int} (h : DD s) {w : Int} (h0 : 0 ≤ w) (h1 : w < s 146 1) : s 5 w = s 149 w ∧ -1 ≤ s 149 w ∧ s 149 w < w := by
  obtain ⟨⟨-, -, -, -, -, -, b3, -⟩, -, -, q, -⟩ := h
  exact ⟨q w h0 h1, b3 w h0 h1⟩
theorem DD.txt {s : Int → Int → Int} (h : DD s) {l p : Int} (h0 : 0 ≤ l) (h1 : l < s 146 3) (h2 : 0 ≤ p) (h3 : p < s 155 l) : s (13 + l) p = s 156 (8 * l + p) ∧ 0 ≤ s 156 (8 * l + p) ∧ s 156 (8 * l + p) < s 146 0 := by
  obtain ⟨⟨-, -, -, -, -, -, -, -, -, -, -, -, -, b⟩, -, -, -, -, -, q, -⟩ := h
  have : 0 ≤ s 156 (8 * l + p) ∧ s 156 (8 * l + p) ≤ s 146 0 - 1 := b l p h0 h1 h2 h3
  exact ⟨q l p h0 h1 h2 h3, this.1, by omega⟩
theorem DD.wc {s : Int → Int → Int} (h : DD s) : WC s := WC_of h.1 h.2
theorem DD.fr {s s' : Int → Int → Int} (h : DD s) (f : ∀ k, (2 ≤ k ∧ k ≤ 42) ∨ (146 ≤ k ∧ k ≤ 156) → s' k = s k) : DD s' :=
  IA.k h (fun i _ _ => by rw [f 2 (by omega)]) (fun a _ _ => f a (by omega)) (fun a _ _ => f _ (by omega)) (fun i _ _ => by rw [f 146 (by omega)]) (fun a _ _ => f a (by omega))
/-- how often a word (−1: any) stands in a letter -/
def stc (s : Int → Int → Int) (l w : Int) : Int := sg (s 155 l) (fun k => jbo (w = -1 ∨ s 156 (8 * l + k) = w))
/-- the first place that is marked, or −1 -/
def fstk (n : Int) (P : Int → Prop) (r : Int) : Prop := (r = -1 ∧ ∀ k, 0 ≤ k → k < n → ¬ P k) ∨ (0 ≤ r ∧ r < n ∧ P r ∧ ∀ k, 0 ≤ k → k < r → ¬ P k)
theorem fstk.uniq {n : Int} {P : Int → Prop} {a b : Int} (h : fstk n P a) (g : fstk n P b) : a = b := by
  rcases h with ⟨h1, h2⟩ | ⟨h1, h2, h3, h4⟩ <;> rcases g with ⟨g1, g2⟩ | ⟨g1, g2, g3, g4⟩
  · omega
  · exact absurd g3 (h2 b g1 g2)
  · exact absurd h3 (g2 a h1 h2)
  · have h5 : ¬ a < b := fun c => g4 a h1 c h3
    have h6 : ¬ b < a := fun c => h4 b g1 c g3
    omega
theorem fstk.rng {n : Int} {P : Int → Prop} {a : Int} (h : fstk n P a) (hn : n ≤ 1000) : jr32 a := by
  unfold jr32
  rcases h with ⟨h1, h2⟩ | ⟨h1, h2, h3, h4⟩ <;> omega
/-- both calls leave all as it was, and their answer is fixed by one condition -/
theorem jop.r {mc mm : jM} {As : List jV} {S0 : Int → Int} {s : Int → Int → Int} {R : Int → Prop} (hI : Inv S0 s) (hu : ∀ a b, R a → R b → a = b) (hy : ∀ a, R a → jr32 a) (hc : kR mc (jR 1 :: As) s (fun r s' => ∃ y, r = some (jI y) ∧ R y ∧ s' = s)) (hm : kR mm (jR 143 :: As) s (fun r s' => ∃ y, r = some (jI y) ∧ R y ∧ s' = s)) : jop mc mm As S0 s :=
  kK.mono hc (fun r s1 q => by
    obtain ⟨y, rfl, hy1, rfl⟩ := q
    exact ⟨y, rfl, hI.1, kK.mono hm (fun r s2 q => by
      obtain ⟨y2, rfl, hy2, rfl⟩ := q
      exact ⟨y2, rfl, hu _ _ hy2 hy1, hy _ hy1, hI⟩)⟩)
theorem sg_ge {n k : Int} {f : Int → Int} (hf : ∀ i, 0 ≤ i → i < n → 0 ≤ f i) (h0 : 0 ≤ k) (h1 : k < n) : f k ≤ sg n f := by
  have key : ∀ m, m ≤ n → 0 ≤ m → (0 ≤ sg m f ∧ (k < m → f k ≤ sg m f)) := by
    have := lp_dn 0 (fun m => m ≤ n → (0 ≤ sg m f ∧ (k < m → f k ≤ sg m f))) (fun m hm ih hn => by
      by_cases e : m = 0
      · subst e; exact ⟨by rw [sg_0]; omega, fun c => by omega⟩
      · have i := ih (by omega) (by omega)
        have hs := sg_s (n := m - 1) (by omega) f
        rw [show m - 1 + 1 = m by omega] at hs
        have hp := hf (m - 1) (by omega) (by omega)
        refine ⟨by omega, fun c => ?_⟩
        by_cases e2 : k = m - 1
        · subst e2; omega
        · have := i.2 (by omega); omega)
    exact fun m h1 h2 => this m h2 h1
  exact (key n (by omega) (by omega)).2 h1
theorem sg_nn {n : Int} {f : Int → Int} (hf : ∀ i, 0 ≤ i → i < n → 0 ≤ f i) : 0 ≤ sg n f := by
  by_cases h : 0 < n
  · exact Int.le_trans (hf 0 (by omega) h) (sg_ge hf (by omega) h)
  · unfold sg; rw [show n.toNat = 0 by omega]; exact Int.le_refl 0
theorem stc_01 {s : Int → Int → Int} (l w : Int) : 0 ≤ stc s l w := sg_nn (fun i _ _ => (jbo_01' _).1)
/-- both calls' answer is fixed by one condition; what the first leaves (P) is enough for the second -/
theorem jop.rr {mc mm : jM} {As : List jV} {S0 : Int → Int} {s : Int → Int → Int} (R : Int → Prop) (P : (Int → Int → Int) → Prop) (hu : ∀ a b, R a → R b → a = b) (hy : ∀ a, R a → jr32 a) (hP : ∀ s1, P s1 → s1 0 = S0) (hc : kR mc (jR 1 :: As) s (fun r s' => ∃ y, r = some (jI y) ∧ R y ∧ P s')) (hm : ∀ s1, P s1 → kR mm (jR 143 :: As) s1 (fun r s' => ∃ y, r = some (jI y) ∧ R y ∧ Inv S0 s')) : jop mc mm As S0 s :=
  kK.mono hc (fun r s1 q => by
    obtain ⟨y, rfl, hy1, hp⟩ := q
    exact ⟨y, rfl, hP s1 hp, kK.mono (hm s1 hp) (fun r s2 q => by
      obtain ⟨y2, rfl, hy2, hi⟩ := q
      exact ⟨y2, rfl, hu _ _ hy2 hy1, hy _ hy1, hi⟩)⟩)
