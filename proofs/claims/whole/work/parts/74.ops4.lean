theorem op_like {S0 : Int → Int} {s : Int → Int → Int} (hI : Inv S0 s) (a1 a2 a3 : Int) (h1 : jr32 a1) (h2 : jr32 a2) (h3 : jr32 a3) : jop mX10_like mX11_like [jI a1, jI a2, jI a3] S0 s := by
  have hd := hI.dd
  obtain ⟨e0, e1, e2, e3⟩ := hd.cnt
  have hg : AL s := hI.2.2.2.2.2.2.2.1
  by_cases c : ((0 ≤ a1 ∧ a1 ≤ s 146 3 - 1) ∧ (0 ≤ a2 ∧ a2 ≤ s 146 3 - 1) ∧ a1 ≠ a2) ∧ 0 ≤ a3 ∧ a3 ≤ 1
  · obtain ⟨⟨c1, c2, c3⟩, c4⟩ := c
    have P0 : ∀ s1, frm alP s s1 ∧ AL s1 → Inv S0 s1 := fun s1 h => hI.al h.1 h.2
    have c146 : ∀ s1, frm alP s s1 → s1 146 = s 146 := fun s1 f => f 146 (by unfold alP; omega)
    obtain ⟨-, -, -, fl⟩ := hd.let (l := a1) (by omega) (by omega)
    by_cases c0 : a3 = 0
    · refine jop.rr (lrun s a1 a2) (fun s1 => frm alP s s1 ∧ AL s1) (fun a b => lgst.uniq) (fun a h => by have := h.rng; unfold jr32; omega) (fun s1 h => (P0 s1 h).1) (g_X10_like ⟨h1, hd.wc, fun q => absurd (by omega) q, fun _ => ⟨h2, fun q => absurd (by omega) q, fun _ => ⟨fun q => absurd q c3, fun _ => ⟨h3, fun _ => ⟨fun q => absurd c0 q, fun _ => ⟨hd, hg, by omega, by omega, fun y s2 q => ⟨y, rfl, q.1, q.2.2, q.2.1⟩⟩⟩, fun q => absurd c4 q⟩⟩⟩⟩) (fun s1 h => ?_)
      have i1 := P0 s1 h
      rw [← c146 s1 h.1] at c1 c2 e3
      exact g_X11_like ⟨h1, by omega, fun q => absurd c1 q, fun _ => ⟨h2, fun q => absurd c2 q, fun _ => ⟨fun q => absurd q c3, fun _ => ⟨h3, j3264 h3, fun _ => ⟨fun q => absurd c0 q, fun _ => ⟨i1.dd, by omega, by omega, fun y s2 q => ⟨y, rfl, by
        have := q.1
        unfold lrun at this ⊢
        rw [h.1 155 (by unfold alP; omega), h.1 156 (by unfold alP; omega)] at this
        exact this, q.2 ▸ i1⟩⟩⟩, fun q => absurd c4 q⟩⟩⟩⟩
    · have br := lcz_b (A := fun t => s 156 (8 * a1 + t)) (B := fun t => s 156 (8 * a2 + t)) (i := s 155 a1) (j := s 155 a2) fl.2.1
      refine jop.rr (fun y => y = lcz (fun t => s 156 (8 * a1 + t)) (fun t => s 156 (8 * a2 + t)) (s 155 a1) (s 155 a2)) (fun s1 => frm alP s s1 ∧ AL s1) (fun a b p q => p.trans q.symm) (fun a h => by rw [h]; unfold jr32; omega) (fun s1 h => (P0 s1 h).1) (g_X10_like ⟨h1, hd.wc, fun q => absurd (by omega) q, fun _ => ⟨h2, fun q => absurd (by omega) q, fun _ => ⟨fun q => absurd q c3, fun _ => ⟨h3, fun _ => ⟨fun _ => ⟨hd, hg, by omega, by omega, fun y s2 q => ⟨y, rfl, q.1, q.2.2, q.2.1⟩⟩, fun q => absurd q c0⟩, fun q => absurd c4 q⟩⟩⟩⟩) (fun s1 h => ?_)
      have i1 := P0 s1 h
      rw [← c146 s1 h.1] at c1 c2 e3
      exact g_X11_like ⟨h1, by omega, fun q => absurd c1 q, fun _ => ⟨h2, fun q => absurd c2 q, fun _ => ⟨fun q => absurd q c3, fun _ => ⟨h3, j3264 h3, fun _ => ⟨fun _ => ⟨i1.dd, by omega, by omega, fun y s2 q => ⟨y, rfl, by
        have := q.1
        rw [h.1 155 (by unfold alP; omega), h.1 156 (by unfold alP; omega)] at this
        exact this, i1.fr (fun k hk => q.2 k (fun e => hk (by subst e; unfold jtmp jpers; omega)))⟩⟩, fun q => absurd q c0⟩, fun q => absurd c4 q⟩⟩⟩⟩
  · exact jop.q (y := -2) hI (by decide) (g_X10_like ⟨h1, hd.wc, fun _ => ⟨rfl, rfl⟩, fun c1 => ⟨h2, fun _ => ⟨rfl, rfl⟩, fun c2 => ⟨fun _ => ⟨rfl, rfl⟩, fun c3 => ⟨h3, fun c4 => absurd ⟨⟨by omega, by omega, c3⟩, c4⟩ c, fun _ => ⟨rfl, rfl⟩⟩⟩⟩⟩)
      (g_X11_like ⟨h1, by omega, fun _ => ⟨rfl, rfl⟩, fun c1 => ⟨h2, fun _ => ⟨rfl, rfl⟩, fun c2 => ⟨fun _ => ⟨rfl, rfl⟩, fun c3 => ⟨h3, j3264 h3, fun c4 => absurd ⟨⟨c1, c2, c3⟩, c4⟩ c, fun _ => ⟨rfl, rfl⟩⟩⟩⟩⟩)
theorem op_left {S0 : Int → Int} {s : Int → Int → Int} (hI : Inv S0 s) (a1 a2 : Int) (h1 : jr32 a1) (h2 : jr32 a2) : jop mX10_left mX11_left [jI a1, jI a2] S0 s := by
  have hd := hI.dd
  obtain ⟨e0, e1, e2, e3⟩ := hd.cnt
  have hg : AL s := hI.2.2.2.2.2.2.2.1
  by_cases c : (0 ≤ a1 ∧ a1 ≤ s 146 3 - 1) ∧ 1 ≤ a2 ∧ a2 ≤ 8
  · obtain ⟨c1, c2⟩ := c
    have P0 : ∀ s1, frm alP s s1 ∧ AL s1 → Inv S0 s1 := fun s1 h => hI.al h.1 h.2
    refine jop.rr (fun y => ∃ m, lfr s a1 (a2 - 1) (s 146 3) y m) (fun s1 => frm alP s s1 ∧ AL s1) (fun a b p q => by obtain ⟨_, p⟩ := p; obtain ⟨_, q⟩ := q; exact p.uniq q) (fun a h => by obtain ⟨m, -, h⟩ := h; unfold jr32; rcases h with h | h <;> omega) (fun s1 h => (P0 s1 h).1) (g_X10_left ⟨h1, hd.wc, fun q => absurd (by omega) q, fun _ => ⟨h2, fun _ => ⟨hd, hg, by omega, c2, fun y s2 q => ⟨y, rfl, q.1, q.2.2, q.2.1⟩⟩, fun q => absurd c2 q⟩⟩) (fun s1 h => ?_)
    have i1 := P0 s1 h
    have d1 := i1.dd
    have c146 : s1 146 = s 146 := h.1 146 (by unfold alP; omega)
    have c152 : s1 152 = s 152 := h.1 152 (by unfold alP; omega)
    have c154 : s1 154 = s 154 := h.1 154 (by unfold alP; omega)
    have c155 : s1 155 = s 155 := h.1 155 (by unfold alP; omega)
    have c156 : s1 156 = s 156 := h.1 156 (by unfold alP; omega)
    refine g_X11_left ⟨h1, by rw [c146]; omega, fun q => absurd (by rw [c146]; exact c1) q, fun _ => ⟨h2, j3264 h2, fun _ => ?_, fun q => absurd c2 q⟩⟩
    obtain ⟨fl, -, fy, fz⟩ := hd.let (l := a1) (by omega) (by omega)
    have key : ∀ i, i ≤ s 146 3 → 0 ≤ i → ∀ f m, lfr s a1 (a2 - 1) i f m → 0 ≤ m ∧ m ≤ 8 → kK mX11_left 34 [jR 143, jI a1, jU, jI f, jI m, jI i] [] s1 (fun r s' => ∃ y, r = some (jI y) ∧ (∃ m, lfr s a1 (a2 - 1) (s 146 3) y m) ∧ Inv S0 s') := by
      refine lp_up _ _ (fun i hi ih h0 f m hc hm => ?_)
      refine g_X11_left_34 ⟨by unfold jr32; omega, by rw [c146]; unfold jr32; omega, fun q => ⟨f, rfl, ⟨m, ?_⟩, i1⟩, fun q => ?_⟩
      · rw [c146] at q
        rw [show s 146 3 = i by omega]; exact hc
      · rw [c146] at q
        obtain ⟨gl, -, gy, -⟩ := hd.let (l := i) h0 (by omega)
        rw [c152, c154, c146]
        refine ⟨by omega, by omega, by unfold jr32; omega, by unfold jr32; omega, fun d => ih (by omega) (by omega) f m (hc.no (fun q => by have := q.2; omega)) hm, fun d => ⟨by unfold jr32; omega, by unfold jr32; omega, fun c => ih (by omega) (by omega) f m (hc.no (fun q => by have := q.1; omega)) hm, fun c => ⟨d1, by omega, by omega, fun y s2 q2 => ?_⟩⟩⟩
        obtain ⟨q2, rfl⟩ := q2
        unfold lrun at q2
        rw [c155, c156] at q2
        have yr := q2.rng
        refine ⟨by unfold jr32; omega, by unfold jr32; omega, fun c4 => ih (by omega) (by omega) f m (hc.le q2 c4) hm, fun c4 => ⟨d1, by rw [c146]; omega, by rw [c146]; omega, fun y3 s3 q3 => ?_⟩⟩
        obtain ⟨q3, rfl⟩ := q3
        unfold lrun at q3
        rw [c155, c156] at q3
        rw [lgst.uniq q3 q2]
        exact ih (by omega) (by omega) i y (hc.gt h0 ⟨by omega, by omega⟩ q2 (by omega)) (by omega)
    exact key 0 (by omega) (by omega) (-1) (a2 - 1) ⟨fun o y o0 o1 => by omega, Or.inl ⟨rfl, rfl⟩⟩ (by omega)
  · exact jop.q (y := -2) hI (by decide) (g_X10_left ⟨h1, hd.wc, fun _ => ⟨rfl, rfl⟩, fun c1 => ⟨h2, fun c2 => absurd ⟨by omega, c2⟩ c, fun _ => ⟨rfl, rfl⟩⟩⟩)
      (g_X11_left ⟨h1, by omega, fun _ => ⟨rfl, rfl⟩, fun c1 => ⟨h2, j3264 h2, fun c2 => absurd ⟨c1, c2⟩ c, fun _ => ⟨rfl, rfl⟩⟩⟩)
