/-! the invariant's parts keep when their cells keep -/
theorem IB.k {s s' : Int → Int → Int} (h : IB s) (e1 : s' 70 = s 70) (e2 : s' 157 = s 157) : IB s' := by unfold IB at h ⊢; rw [e1, e2]; exact h
theorem ID.k {s s' : Int → Int → Int} (h : ID s) (e1 : s' 121 = s 121) (e2 : s' 163 = s 163) : ID s' := by unfold ID at h ⊢; rw [e1, e2]; exact h
theorem IC.k {s s' : Int → Int → Int} (h : IC s) (e1 : s' 97 3 = s 97 3) (e2 : s' 146 4 = s 146 4) (e3 : s 146 2 ≤ s' 146 2) (e4 : s' 98 = s 98) (e5 : s' 99 = s 99) (e6 : s' 100 = s 100) (e7 : s' 159 = s 159) (e8 : s' 160 = s 160) (e9 : s' 161 = s 161) (e10 : ∀ a, 0 ≤ a → a < 8 → s' (102 + a) = s (102 + a)) : IC s' := by
  unfold IC at h ⊢
  rw [e1, e2, e4, e5, e6, e7, e8, e9]
  obtain ⟨c1, c2, c3, ⟨c41, c42, c43⟩, c5, c6⟩ := h
  refine ⟨c1, c2, c3, ⟨c41, fun i p q => ?_, fun i p q => ?_⟩, c5, fun a b a1 a2 a3 a4 => ?_⟩
  · have := c42 i p q; omega
  · have := c43 i p q; omega
  · rw [e10 a a1 a2]; exact c6 a b a1 a2 a3 a4
theorem IE.k {s s' : Int → Int → Int} (h : IE s) (e1 : s' 124 3 = s 124 3) (e2 : s' 146 5 = s 146 5) (e3 : s' 125 = s 125) (e4 : s' 167 = s 167) (e5 : s' 168 = s 168) (e6 : ∀ a, 0 ≤ a → a < 6 → s' (127 + a) = s (127 + a)) : IE s' := by
  unfold IE at h ⊢
  rw [e1, e2, e3, e4, e5]
  obtain ⟨i1, i2, i3, i4⟩ := h
  exact ⟨i1, i2, i3, fun q g a1 a2 a3 a4 => by rw [e6 q a1 (by omega)]; exact i4 q g a1 a2 a3 a4⟩
theorem IF.k {s s' : Int → Int → Int} (h : IF s) (e1 : s' 139 1 = s 139 1) (e2 : s' 141 1 = s 141 1) (e3 : s' 140 = s 140) (e4 : s' 142 = s 142) (e5 : s' 144 = s 144) (e6 : s' 145 0 = s 145 0) (e7 : s' 145 1 = s 145 1) : IF s' := by unfold IF at h ⊢; rw [e1, e2, e3, e4, e5, e6, e7]; exact h
theorem IG.k {s s' : Int → Int → Int} (h : IG s) (e1 : ∀ a, 0 ≤ a → a < 9 → s' (88 + a) = s (88 + a)) (e2 : ∀ a, 0 ≤ a → a < 8 → s' (111 + a) = s (111 + a)) : IG s' := by
  refine ⟨fun j a1 a2 => ?_, fun p a1 a2 => ?_⟩
  · have := e1 0 (by omega) (by omega)
    rw [e1 j a1 a2, show s' 88 = s 88 by exact this]; exact h.1 j a1 a2
  · rw [e2 p a1 a2]; exact h.2 p a1 a2
theorem IA.k {s s' : Int → Int → Int} (h : WM s ∧ IAq s) (e2 : ∀ i, 10 ≤ i → i ≤ 13 → s' 2 i = s 2 i) (e3 : ∀ a, 3 ≤ a → a ≤ 11 → s' a = s a) (e4 : ∀ a, 0 ≤ a → a < 30 → s' (13 + a) = s (13 + a)) (e5 : ∀ i, 0 ≤ i → i ≤ 3 → s' 146 i = s 146 i) (e6 : ∀ a, 147 ≤ a → a ≤ 156 → s' a = s a) : WM s' ∧ IAq s' := by
  obtain ⟨hw, q1, q2, q3, q4, q5, q6, q7⟩ := h
  have hL := hw.2.2.2.1.2
  unfold WM IAq
  unfold WM at hw
  rw [e2 10 (by omega) (by omega), e2 11 (by omega) (by omega), e2 12 (by omega) (by omega), e2 13 (by omega) (by omega), e5 0 (by omega) (by omega), e5 1 (by omega) (by omega), e5 2 (by omega) (by omega), e5 3 (by omega) (by omega),
    e3 3 (by omega) (by omega), e3 4 (by omega) (by omega), e3 5 (by omega) (by omega), e3 6 (by omega) (by omega), e3 7 (by omega) (by omega), e3 8 (by omega) (by omega), e3 9 (by omega) (by omega), e3 10 (by omega) (by omega), e3 11 (by omega) (by omega),
    e6 147 (by omega) (by omega), e6 148 (by omega) (by omega), e6 149 (by omega) (by omega), e6 150 (by omega) (by omega), e6 151 (by omega) (by omega), e6 152 (by omega) (by omega), e6 153 (by omega) (by omega), e6 154 (by omega) (by omega), e6 155 (by omega) (by omega), e6 156 (by omega) (by omega)]
  exact ⟨hw, q1, q2, q3, q4, q5, fun l p a1 a2 a3 a4 => by rw [e4 l a1 (by omega)]; exact q6 l p a1 a2 a3 a4, q7⟩
theorem jbf0 {p : Prop} [Decidable p] (h : ¬ p) : (some (jI 0) : Option jV) = some (jI (jbo p)) := by rw [jbo_f h]
theorem jbf1 {p : Prop} [Decidable p] (h : p) : (some (jI 1) : Option jV) = some (jI (jbo p)) := by rw [jbo_t h]
/-- a frame over the state: the cells outside P keep -/
def frm (P : Int → Prop) (s s' : Int → Int → Int) : Prop := ∀ k, ¬ P k → s' k = s k
theorem frm.rf {P : Int → Prop} {s : Int → Int → Int} : frm P s s := fun _ _ => rfl
theorem frm.tr {P : Int → Prop} {s1 s2 s3 : Int → Int → Int} (h : frm P s1 s2) (g : frm P s2 s3) : frm P s1 s3 := fun k hk => (g k hk).trans (h k hk)
theorem frm.wk {P R : Int → Prop} {s1 s2 : Int → Int → Int} (h : frm P s1 s2) (hPR : ∀ k, P k → R k) : frm R s1 s2 := fun k hk => h k (fun q => hk (hPR k q))
theorem frm.wr {P : Int → Prop} {s : Int → Int → Int} {k i v : Int} (h : P k) : frm P s (w2 s k i v) := fun k' hk => w2_k (fun e => hk (e ▸ h))
theorem frm.s2 {P : Int → Prop} {s0 s : Int → Int → Int} {k i v : Int} (g : frm P s0 s) (h : P k) : frm P s0 (w2 s k i v) := g.tr (frm.wr h)
/-- a pair of calls out of what each shows -/
theorem jop.of {mc mm : jM} {As : List jV} {S0 : Int → Int} {s : Int → Int → Int} {P : Int → (Int → Int → Int) → Prop} (hc : kR mc (jR 1 :: As) s (fun r s1 => ∃ y, r = some (jI y) ∧ P y s1)) (hm : ∀ y s1, P y s1 → s1 0 = S0 ∧ kR mm (jR 143 :: As) s1 (fun r2 s2 => ∃ y2, r2 = some (jI y2) ∧ y2 = y ∧ jr32 y ∧ Inv S0 s2)) : jop mc mm As S0 s :=
  kK.mono hc (fun r s1 q => by obtain ⟨y, rfl, q⟩ := q; exact ⟨y, rfl, (hm y s1 q).1, (hm y s1 q).2⟩)
theorem WM.k {s s' : Int → Int → Int} (h : WM s) (e : ∀ k, 146 ≤ k → k ≤ 156 → s' k = s k) : WM s' := by
  unfold WM at h ⊢
  rw [e 146 (by omega) (by omega), e 147 (by omega) (by omega), e 148 (by omega) (by omega), e 149 (by omega) (by omega), e 150 (by omega) (by omega), e 151 (by omega) (by omega), e 152 (by omega) (by omega), e 153 (by omega) (by omega), e 154 (by omega) (by omega), e 155 (by omega) (by omega), e 156 (by omega) (by omega)]
  exact h
/-- a call that is refused (bad), is full, or makes something -/
def jg3 (ok full : Prop) (bad n : Int) (s new : Int → Int → Int) (y : Int) (s' : Int → Int → Int) : Prop := (¬ ok ∧ y = bad ∧ s' = s) ∨ (ok ∧ full ∧ y = -4 ∧ s' = s) ∨ (ok ∧ ¬ full ∧ y = n ∧ s' = new)
theorem jop.g3 {mc mm : jM} {As : List jV} {S0 : Int → Int} {s new : Int → Int → Int} {new' : (Int → Int → Int) → Int → Int → Int} {ok full : Prop} {bad n : Int} (hI : Inv S0 s) (hS : ok → new 0 = s 0) (hb : jr32 bad) (hn : ok → ¬ full → jr32 n)
    (hc : kR mc (jR 1 :: As) s (fun r s1 => ∃ y, r = some (jI y) ∧ jg3 ok full bad n s new y s1))
    (hm : ∀ s1, s1 = s ∨ (ok ∧ ¬ full ∧ s1 = new) → kR mm (jR 143 :: As) s1 (fun r s2 => ∃ y, r = some (jI y) ∧ jg3 ok full bad n s1 (new' s1) y s2))
    (hN : ok → ¬ full → Inv S0 (new' new)) : jop mc mm As S0 s := by
  refine jop.of hc (fun y s1 q => ?_)
  rcases q with ⟨c, rfl, rfl⟩ | ⟨c, c2, rfl, rfl⟩ | ⟨c, c2, rfl, rfl⟩
  · refine ⟨hI.1, kK.mono (hm _ (Or.inl rfl)) (fun r s2 q2 => ?_)⟩
    obtain ⟨y2, rfl, q2⟩ := q2
    rcases q2 with ⟨d, rfl, rfl⟩ | ⟨d, d2, rfl, rfl⟩ | ⟨d, d2, rfl, rfl⟩
    · exact ⟨_, rfl, rfl, hb, hI⟩
    · exact absurd d c
    · exact absurd d c
  · refine ⟨hI.1, kK.mono (hm _ (Or.inl rfl)) (fun r s2 q2 => ?_)⟩
    obtain ⟨y2, rfl, q2⟩ := q2
    rcases q2 with ⟨d, rfl, rfl⟩ | ⟨d, d2, rfl, rfl⟩ | ⟨d, d2, rfl, rfl⟩
    · exact absurd c d
    · exact ⟨_, rfl, rfl, by decide, hI⟩
    · exact absurd c2 d2
  · refine ⟨(hS c).trans hI.1, kK.mono (hm _ (Or.inr ⟨c, c2, rfl⟩)) (fun r s2 q2 => ?_)⟩
    obtain ⟨y2, rfl, q2⟩ := q2
    rcases q2 with ⟨d, rfl, rfl⟩ | ⟨d, d2, rfl, rfl⟩ | ⟨d, d2, rfl, rfl⟩
    · exact absurd c d
    · exact absurd d2 c2
    · exact ⟨_, rfl, rfl, hn c c2, hN c c2⟩

/-- both calls leave all as it was -/
theorem jop.q {mc mm : jM} {As : List jV} {S0 : Int → Int} {s : Int → Int → Int} {y : Int} (hI : Inv S0 s) (hy : jr32 y) (hc : kM mc (jR 1 :: As) s (some (jI y)) s) (hm : kM mm (jR 143 :: As) s (some (jI y)) s) : jop mc mm As S0 s :=
  kK.mono hc (fun r s1 q => by
    obtain ⟨rfl, rfl⟩ := q
    exact ⟨y, rfl, hI.1, kK.mono hm (fun r s2 q => by
      obtain ⟨rfl, rfl⟩ := q
      exact ⟨y, rfl, rfl, hy, hI⟩)⟩)
/-- cells of which the invariant doesn't speak -/
def jtmp (k : Int) : Prop := ¬ jpers k
theorem Inv.fr {S0 : Int → Int} {s s' : Int → Int → Int} (h : Inv S0 s) (f : frm jtmp s s') : Inv S0 s' := h.keep (fun k hk => f k (fun q => q hk))
/-- both calls leave what the invariant speaks of -/
theorem jop.fr {mc mm : jM} {As : List jV} {S0 : Int → Int} {s : Int → Int → Int} {y : Int} (hI : Inv S0 s) (hy : jr32 y) (hc : kR mc (jR 1 :: As) s (fun r s1 => r = some (jI y) ∧ frm jtmp s s1)) (hm : ∀ s1, Inv S0 s1 → frm jtmp s s1 → kR mm (jR 143 :: As) s1 (fun r s2 => r = some (jI y) ∧ frm jtmp s1 s2)) : jop mc mm As S0 s :=
  kK.mono hc (fun r s1 q => by
    obtain ⟨rfl, f⟩ := q
    have h1 := hI.fr f
    exact ⟨y, rfl, h1.1, kK.mono (hm s1 h1 f) (fun r s2 q => by
      obtain ⟨rfl, g⟩ := q
      exact ⟨y, rfl, rfl, hy, h1.fr g⟩)⟩)
theorem jbo_cg {p q : Prop} [Decidable p] [Decidable q] (h : p ↔ q) : jbo p = jbo q := by
  by_cases hp : p
  · rw [jbo_t hp, jbo_t (h.1 hp)]
  · rw [jbo_f hp, jbo_f (fun c => hp (h.2 c))]
theorem jbo_01' (p : Prop) [Decidable p] : 0 ≤ jbo p ∧ jbo p ≤ 1 := by
  by_cases hp : p
  · rw [jbo_t hp]; omega
  · rw [jbo_f hp]; omega
