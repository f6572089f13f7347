/-! how the drawer's part of the invariant goes through what makes or changes something -/
theorem IA_word {s s' : Int → Int → Int} {a b : Int} (h : WM s ∧ IAq s) (hn : s 146 0 < 8) (ha : 0 ≤ a ∧ a ≤ 9) (hb : 0 ≤ b ∧ b ≤ 2) (e0 : s' 2 10 = s 146 0 + 1) (e1 : s' 2 11 = s 2 11) (e2 : s' 2 12 = s 2 12) (e3 : s' 2 13 = s 2 13) (f3 : s' 3 = fun i => if i = s 146 0 then a else s 3 i) (f4 : s' 4 = fun i => if i = s 146 0 then b else s 4 i) (k : ∀ a, 5 ≤ a → a ≤ 42 → s' a = s a)
    (m0 : s' 146 0 = s 146 0 + 1) (m1 : s' 146 1 = s 146 1) (m2 : s' 146 2 = s 146 2) (m3 : s' 146 3 = s 146 3) (g3 : s' 147 = fun i => if i = s 146 0 then a else s 147 i) (g4 : s' 148 = fun i => if i = s 146 0 then b else s 148 i) (g : ∀ a, 149 ≤ a → a ≤ 156 → s' a = s a) : WM s' ∧ IAq s' := by
  obtain ⟨hw, ⟨c1, c2, c3, c4⟩, ⟨q1, q2⟩, q3, q4, q5, q6, q7⟩ := h
  obtain ⟨a1, a2, a3, a4, b1, b2, b3, b4, b5, b6, b7, b8, b9, b10⟩ := hw
  unfold WM IAq
  rw [e0, e1, e2, e3, f3, f4, k 5 (by omega) (by omega), k 6 (by omega) (by omega), k 7 (by omega) (by omega), k 8 (by omega) (by omega), k 9 (by omega) (by omega), k 10 (by omega) (by omega), k 11 (by omega) (by omega), m0, m1, m2, m3, g3, g4,
    g 149 (by omega) (by omega), g 150 (by omega) (by omega), g 151 (by omega) (by omega), g 152 (by omega) (by omega), g 153 (by omega) (by omega), g 154 (by omega) (by omega), g 155 (by omega) (by omega), g 156 (by omega) (by omega)]
  refine ⟨⟨⟨by omega, by omega⟩, a2, a3, a4, fun i p q => ?_, fun i p q => ?_, b3, b4, b5, b6, b7, b8, b9, fun l p h1 h2 h3 h4 => ?_⟩, ⟨rfl, c2, c3, c4⟩, ⟨fun i p q => ?_, fun i p q => ?_⟩, q3, q4, q5, fun l p h1 h2 h3 h4 => ?_, q7⟩
  all_goals try dsimp only at *
  · by_cases hi : i = s 146 0
    · rw [if_pos hi]; exact ha
    · rw [if_neg hi]; exact b1 i p (by omega)
  · by_cases hi : i = s 146 0
    · rw [if_pos hi]; exact hb
    · rw [if_neg hi]; exact b2 i p (by omega)
  · have := b10 l p h1 h2 h3 h4
    exact ⟨this.1, by omega⟩
  · by_cases hi : i = s 146 0
    · rw [if_pos hi, if_pos hi]
    · rw [if_neg hi, if_neg hi]; exact q1 i p (by omega)
  · by_cases hi : i = s 146 0
    · rw [if_pos hi, if_pos hi]
    · rw [if_neg hi, if_neg hi]; exact q2 i p (by omega)
  · rw [k (13 + l) (by omega) (by omega)]; exact q6 l p h1 h2 h3 h4
theorem IA_hand {s s' : Int → Int → Int} {a : Int} (h : WM s ∧ IAq s) (hn : s 146 1 < 6) (ha : -1 ≤ a ∧ a ≤ s 146 1 - 1) (e0 : s' 2 10 = s 2 10) (e1 : s' 2 11 = s 146 1 + 1) (e2 : s' 2 12 = s 2 12) (e3 : s' 2 13 = s 2 13) (f5 : s' 5 = fun i => if i = s 146 1 then a else s 5 i) (k : ∀ a, 3 ≤ a → a ≤ 42 → a ≠ 5 → s' a = s a)
    (m0 : s' 146 0 = s 146 0) (m1 : s' 146 1 = s 146 1 + 1) (m2 : s' 146 2 = s 146 2) (m3 : s' 146 3 = s 146 3) (g5 : s' 149 = fun i => if i = s 146 1 then a else s 149 i) (g : ∀ a, 147 ≤ a → a ≤ 156 → a ≠ 149 → s' a = s a) : WM s' ∧ IAq s' := by
  obtain ⟨hw, ⟨c1, c2, c3, c4⟩, ⟨q1, q2⟩, q3, q4, q5, q6, q7⟩ := h
  obtain ⟨a1, a2, a3, a4, b1, b2, b3, b4, b5, b6, b7, b8, b9, b10⟩ := hw
  unfold WM IAq
  rw [e0, e1, e2, e3, f5, k 3 (by omega) (by omega) (by omega), k 4 (by omega) (by omega) (by omega), k 6 (by omega) (by omega) (by omega), k 7 (by omega) (by omega) (by omega), k 8 (by omega) (by omega) (by omega), k 9 (by omega) (by omega) (by omega), k 10 (by omega) (by omega) (by omega), k 11 (by omega) (by omega) (by omega), m0, m1, m2, m3, g5,
    g 147 (by omega) (by omega) (by omega), g 148 (by omega) (by omega) (by omega), g 150 (by omega) (by omega) (by omega), g 151 (by omega) (by omega) (by omega), g 152 (by omega) (by omega) (by omega), g 153 (by omega) (by omega) (by omega), g 154 (by omega) (by omega) (by omega), g 155 (by omega) (by omega) (by omega), g 156 (by omega) (by omega) (by omega)]
  refine ⟨⟨a1, ⟨by omega, by omega⟩, a3, a4, b1, b2, fun i p q => ?_, b4, b5, fun i p q => ?_, b7, b8, b9, b10⟩, ⟨c1, rfl, c3, c4⟩, ⟨q1, q2⟩, fun i p q => ?_, q4, q5, fun l p h1 h2 h3 h4 => ?_, q7⟩
  all_goals try dsimp only at *
  · by_cases hi : i = s 146 1
    · rw [if_pos hi]; omega
    · rw [if_neg hi]; exact b3 i p (by omega)
  · have := b6 i p q; omega
  · by_cases hi : i = s 146 1
    · rw [if_pos hi, if_pos hi]
    · rw [if_neg hi, if_neg hi]; exact q3 i p (by omega)
  · rw [k (13 + l) (by omega) (by omega) (by omega)]; exact q6 l p h1 h2 h3 h4
theorem IA_pupil {s s' : Int → Int → Int} {a b : Int} (h : WM s ∧ IAq s) (hn : s 146 2 < 8) (ha : 1 ≤ a ∧ a ≤ 2) (hb : -1 ≤ b ∧ b ≤ 3) (e0 : s' 2 10 = s 2 10) (e1 : s' 2 11 = s 2 11) (e2 : s' 2 12 = s 146 2 + 1) (e3 : s' 2 13 = s 2 13) (f6 : s' 6 = fun i => if i = s 146 2 then a else s 6 i) (f7 : s' 7 = fun i => if i = s 146 2 then b else s 7 i) (k : ∀ a, 3 ≤ a → a ≤ 42 → a ≠ 6 → a ≠ 7 → s' a = s a)
    (m0 : s' 146 0 = s 146 0) (m1 : s' 146 1 = s 146 1) (m2 : s' 146 2 = s 146 2 + 1) (m3 : s' 146 3 = s 146 3) (g6 : s' 150 = fun i => if i = s 146 2 then a else s 150 i) (g7 : s' 151 = fun i => if i = s 146 2 then b else s 151 i) (g : ∀ a, 147 ≤ a → a ≤ 156 → a ≠ 150 → a ≠ 151 → s' a = s a) : WM s' ∧ IAq s' := by
  obtain ⟨hw, ⟨c1, c2, c3, c4⟩, ⟨q1, q2⟩, q3, ⟨q41, q42⟩, q5, q6, q7⟩ := h
  obtain ⟨a1, a2, a3, a4, b1, b2, b3, b4, b5, b6, b7, b8, b9, b10⟩ := hw
  unfold WM IAq
  rw [e0, e1, e2, e3, f6, f7, k 3 (by omega) (by omega) (by omega) (by omega), k 4 (by omega) (by omega) (by omega) (by omega), k 5 (by omega) (by omega) (by omega) (by omega), k 8 (by omega) (by omega) (by omega) (by omega), k 9 (by omega) (by omega) (by omega) (by omega), k 10 (by omega) (by omega) (by omega) (by omega), k 11 (by omega) (by omega) (by omega) (by omega), m0, m1, m2, m3, g6, g7,
    g 147 (by omega) (by omega) (by omega) (by omega), g 148 (by omega) (by omega) (by omega) (by omega), g 149 (by omega) (by omega) (by omega) (by omega), g 152 (by omega) (by omega) (by omega) (by omega), g 153 (by omega) (by omega) (by omega) (by omega), g 154 (by omega) (by omega) (by omega) (by omega), g 155 (by omega) (by omega) (by omega) (by omega), g 156 (by omega) (by omega) (by omega) (by omega)]
  refine ⟨⟨a1, a2, ⟨by omega, by omega⟩, a4, b1, b2, b3, fun i p q => ?_, fun i p q => ?_, b6, fun i p q => ?_, b8, b9, b10⟩, ⟨c1, c2, rfl, c4⟩, ⟨q1, q2⟩, q3, ⟨fun i p q => ?_, fun i p q => ?_⟩, q5, fun l p h1 h2 h3 h4 => ?_, q7⟩
  all_goals try dsimp only at *
  · by_cases hi : i = s 146 2
    · rw [if_pos hi]; exact ha
    · rw [if_neg hi]; exact b4 i p (by omega)
  · by_cases hi : i = s 146 2
    · rw [if_pos hi]; exact hb
    · rw [if_neg hi]; exact b5 i p (by omega)
  · have := b7 i p q; omega
  · by_cases hi : i = s 146 2
    · rw [if_pos hi, if_pos hi]
    · rw [if_neg hi, if_neg hi]; exact q41 i p (by omega)
  · by_cases hi : i = s 146 2
    · rw [if_pos hi, if_pos hi]
    · rw [if_neg hi, if_neg hi]; exact q42 i p (by omega)
  · rw [k (13 + l) (by omega) (by omega) (by omega) (by omega)]; exact q6 l p h1 h2 h3 h4
theorem IA_became {s s' : Int → Int → Int} {a b : Int} (h : WM s ∧ IAq s) (ha : 0 ≤ a ∧ a ≤ s 146 2 - 1) (hb : -1 ≤ b ∧ b ≤ 3) (e : ∀ i, 10 ≤ i → i ≤ 13 → s' 2 i = s 2 i) (f7 : s' 7 = fun i => if i = a then b else s 7 i) (k : ∀ a, 3 ≤ a → a ≤ 42 → a ≠ 7 → s' a = s a) (g7 : s' 151 = fun i => if i = a then b else s 151 i) (g : ∀ a, 146 ≤ a → a ≤ 156 → a ≠ 151 → s' a = s a) : WM s' ∧ IAq s' := by
  obtain ⟨hw, ⟨c1, c2, c3, c4⟩, ⟨q1, q2⟩, q3, ⟨q41, q42⟩, q5, q6, q7⟩ := h
  obtain ⟨a1, a2, a3, a4, b1, b2, b3, b4, b5, b6, b7, b8, b9, b10⟩ := hw
  unfold WM IAq
  rw [e 10 (by omega) (by omega), e 11 (by omega) (by omega), e 12 (by omega) (by omega), e 13 (by omega) (by omega), f7, k 3 (by omega) (by omega) (by omega), k 4 (by omega) (by omega) (by omega), k 5 (by omega) (by omega) (by omega), k 6 (by omega) (by omega) (by omega), k 8 (by omega) (by omega) (by omega), k 9 (by omega) (by omega) (by omega), k 10 (by omega) (by omega) (by omega), k 11 (by omega) (by omega) (by omega), g7,
    g 146 (by omega) (by omega) (by omega), g 147 (by omega) (by omega) (by omega), g 148 (by omega) (by omega) (by omega), g 149 (by omega) (by omega) (by omega), g 150 (by omega) (by omega) (by omega), g 152 (by omega) (by omega) (by omega), g 153 (by omega) (by omega) (by omega), g 154 (by omega) (by omega) (by omega), g 155 (by omega) (by omega) (by omega), g 156 (by omega) (by omega) (by omega)]
  refine ⟨⟨a1, a2, a3, a4, b1, b2, b3, b4, fun i p q => ?_, b6, b7, b8, b9, b10⟩, ⟨c1, c2, c3, c4⟩, ⟨q1, q2⟩, q3, ⟨q41, fun i p q => ?_⟩, q5, fun l p h1 h2 h3 h4 => ?_, q7⟩
  all_goals try dsimp only at *
  · by_cases hi : i = a
    · rw [if_pos hi]; exact hb
    · rw [if_neg hi]; exact b5 i p q
  · by_cases hi : i = a
    · rw [if_pos hi, if_pos hi]
    · rw [if_neg hi, if_neg hi]; exact q42 i p q
  · rw [k (13 + l) (by omega) (by omega) (by omega)]; exact q6 l p h1 h2 h3 h4
theorem IA_letter {s s' : Int → Int → Int} {a b c : Int} (h : WM s ∧ IAq s) (hn : s 146 3 < 30) (ha : 0 ≤ a ∧ a ≤ s 146 1 - 1) (hb : 0 ≤ b ∧ b ≤ s 146 2 - 1) (hc : 0 ≤ c ∧ c ≤ 39) (e0 : s' 2 10 = s 2 10) (e1 : s' 2 11 = s 2 11) (e2 : s' 2 12 = s 2 12) (e3 : s' 2 13 = s 146 3 + 1) (f8 : s' 8 = fun i => if i = s 146 3 then a else s 8 i) (f9 : s' 9 = fun i => if i = s 146 3 then b else s 9 i) (f10 : s' 10 = fun i => if i = s 146 3 then c else s 10 i) (k : ∀ a, 3 ≤ a → a ≤ 42 → a ≠ 8 → a ≠ 9 → a ≠ 10 → s' a = s a)
    (m0 : s' 146 0 = s 146 0) (m1 : s' 146 1 = s 146 1) (m2 : s' 146 2 = s 146 2) (m3 : s' 146 3 = s 146 3 + 1) (g8 : s' 152 = fun i => if i = s 146 3 then a else s 152 i) (g9 : s' 153 = fun i => if i = s 146 3 then b else s 153 i) (g10 : s' 154 = fun i => if i = s 146 3 then c else s 154 i) (g11 : s' 155 = fun i => if i = s 146 3 then 0 else s 155 i) (g : ∀ a, 147 ≤ a → a ≤ 156 → (a < 152 ∨ 155 < a) → s' a = s a) : WM s' ∧ IAq s' := by
  obtain ⟨hw, ⟨c1, c2, c3, c4⟩, ⟨q1, q2⟩, q3, q4, ⟨q51, q52, q53, q54⟩, q6, q7⟩ := h
  obtain ⟨a1, a2, a3, a4, b1, b2, b3, b4, b5, b6, b7, b8, b9, b10⟩ := hw
  unfold WM IAq
  rw [e0, e1, e2, e3, f8, f9, f10, k 3 (by omega) (by omega) (by omega) (by omega) (by omega), k 4 (by omega) (by omega) (by omega) (by omega) (by omega), k 5 (by omega) (by omega) (by omega) (by omega) (by omega), k 6 (by omega) (by omega) (by omega) (by omega) (by omega), k 7 (by omega) (by omega) (by omega) (by omega) (by omega), k 11 (by omega) (by omega) (by omega) (by omega) (by omega), m0, m1, m2, m3, g8, g9, g10, g11,
    g 147 (by omega) (by omega) (by omega), g 148 (by omega) (by omega) (by omega), g 149 (by omega) (by omega) (by omega), g 150 (by omega) (by omega) (by omega), g 151 (by omega) (by omega) (by omega), g 156 (by omega) (by omega) (by omega)]
  refine ⟨⟨a1, a2, a3, ⟨by omega, by omega⟩, b1, b2, b3, b4, b5, fun i p q => ?_, fun i p q => ?_, fun i p q => ?_, fun i p q => ?_, fun l p h1 h2 h3 h4 => ?_⟩, ⟨c1, c2, c3, rfl⟩, ⟨q1, q2⟩, q3, q4, ⟨fun i p q => ?_, fun i p q => ?_, fun i p q => ?_, fun i p q => ?_⟩, fun l p h1 h2 h3 h4 => ?_, fun l h1 h2 => q7 l (by omega) h2⟩
  all_goals try dsimp only at *
  · by_cases hi : i = s 146 3
    · rw [if_pos hi]; exact ha
    · rw [if_neg hi]; exact b6 i p (by omega)
  · by_cases hi : i = s 146 3
    · rw [if_pos hi]; exact hb
    · rw [if_neg hi]; exact b7 i p (by omega)
  · by_cases hi : i = s 146 3
    · rw [if_pos hi]; exact hc
    · rw [if_neg hi]; exact b8 i p (by omega)
  · by_cases hi : i = s 146 3
    · rw [if_pos hi]; omega
    · rw [if_neg hi]; exact b9 i p (by omega)
  · by_cases hi : l = s 146 3
    · rw [if_pos hi] at h4; omega
    · rw [if_neg hi] at h4; exact b10 l p h1 (by omega) h3 h4
  · by_cases hi : i = s 146 3
    · rw [if_pos hi, if_pos hi]
    · rw [if_neg hi, if_neg hi]; exact q51 i p (by omega)
  · by_cases hi : i = s 146 3
    · rw [if_pos hi, if_pos hi]
    · rw [if_neg hi, if_neg hi]; exact q52 i p (by omega)
  · by_cases hi : i = s 146 3
    · rw [if_pos hi, if_pos hi]
    · rw [if_neg hi, if_neg hi]; exact q53 i p (by omega)
  · by_cases hi : i = s 146 3
    · rw [if_pos hi, hi]; exact q7 _ (by omega) (by omega)
    · rw [if_neg hi]; exact q54 i p (by omega)
  · by_cases hi : l = s 146 3
    · rw [if_pos hi] at h4; omega
    · rw [if_neg hi] at h4
      rw [k (13 + l) (by omega) (by omega) (by omega) (by omega) (by omega)]; exact q6 l p h1 (by omega) h3 h4
theorem IA_write {s s' : Int → Int → Int} {a b : Int} (h : WM s ∧ IAq s) (ha : 0 ≤ a ∧ a ≤ s 146 3 - 1) (hb : 0 ≤ b ∧ b ≤ s 146 0 - 1) (hl : s 155 a < 8) (e : ∀ i, 10 ≤ i → i ≤ 13 → s' 2 i = s 2 i) (k : ∀ a, 3 ≤ a → a ≤ 10 → s' a = s a) (f11 : s' 11 = fun i => if i = a then s 155 a + 1 else s 11 i) (ft : ∀ l p, 0 ≤ l → l < 30 → s' (13 + l) p = if l = a ∧ p = s 155 a then b else s (13 + l) p)
    (g : ∀ a, 146 ≤ a → a ≤ 154 → s' a = s a) (g11 : s' 155 = fun i => if i = a then s 155 a + 1 else s 155 i) (gt : s' 156 = fun i => if i = 8 * a + s 155 a then b else s 156 i) : WM s' ∧ IAq s' := by
  obtain ⟨hw, ⟨c1, c2, c3, c4⟩, ⟨q1, q2⟩, q3, q4, ⟨q51, q52, q53, q54⟩, q6, q7⟩ := h
  obtain ⟨a1, a2, a3, a4, b1, b2, b3, b4, b5, b6, b7, b8, b9, b10⟩ := hw
  unfold WM IAq
  rw [e 10 (by omega) (by omega), e 11 (by omega) (by omega), e 12 (by omega) (by omega), e 13 (by omega) (by omega), k 3 (by omega) (by omega), k 4 (by omega) (by omega), k 5 (by omega) (by omega), k 6 (by omega) (by omega), k 7 (by omega) (by omega), k 8 (by omega) (by omega), k 9 (by omega) (by omega), k 10 (by omega) (by omega), f11, g11, gt,
    g 146 (by omega) (by omega), g 147 (by omega) (by omega), g 148 (by omega) (by omega), g 149 (by omega) (by omega), g 150 (by omega) (by omega), g 151 (by omega) (by omega), g 152 (by omega) (by omega), g 153 (by omega) (by omega), g 154 (by omega) (by omega)]
  have hla := b9 a ha.1 (by omega)
  refine ⟨⟨a1, a2, a3, a4, b1, b2, b3, b4, b5, b6, b7, b8, fun i p q => ?_, fun l p h1 h2 h3 h4 => ?_⟩, ⟨c1, c2, c3, c4⟩, ⟨q1, q2⟩, q3, q4, ⟨q51, q52, q53, fun i p q => ?_⟩, fun l p h1 h2 h3 h4 => ?_, fun l h1 h2 => ?_⟩
  all_goals try dsimp only at *
  · by_cases hi : i = a
    · rw [if_pos hi]; omega
    · rw [if_neg hi]; exact b9 i p q
  · have hll := b9 l h1 h2
    by_cases hi : l = a
    · rw [if_pos hi] at h4
      by_cases hp : p = s 155 a
      · rw [if_pos (by omega)]; exact hb
      · rw [if_neg (by omega)]
        exact b10 l p h1 h2 h3 (by rw [hi]; omega)
    · rw [if_neg hi] at h4
      rw [if_neg (by omega)]
      exact b10 l p h1 h2 h3 h4
  · by_cases hi : i = a
    · rw [if_pos hi, if_pos hi]
    · rw [if_neg hi, if_neg hi]; exact q54 i p q
  · have hll := b9 l h1 h2
    rw [ft l p h1 (by omega)]
    by_cases hi : l = a
    · rw [if_pos hi] at h4
      by_cases hp : p = s 155 a
      · rw [if_pos ⟨hi, hp⟩, if_pos (by omega)]
      · rw [if_neg (fun q => hp q.2), if_neg (by omega)]
        exact q6 l p h1 h2 h3 (by rw [hi]; omega)
    · rw [if_neg hi] at h4
      rw [if_neg (fun q => hi q.1), if_neg (by omega)]
      exact q6 l p h1 h2 h3 h4
  · rw [if_neg (by omega)]; exact q7 l h1 h2
