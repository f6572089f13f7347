theorem onb {s : Int → Int → Int} (g w : Int) {n : Int} (h0 : 0 ≤ n) (h1 : n ≤ 1000) (P : Int → Prop) [DecidablePred P] : jr32 (sg n (fun l => jbo (P l))) := by
  have := sg_b (f := fun l => jbo (P l)) (a := 0) (b := 1) h0 (fun j _ _ => jbo_01' _)
  unfold jr32; omega
theorem op_about {S0 : Int → Int} {s : Int → Int → Int} (hI : Inv S0 s) (a1 a2 a3 : Int) (h1 : jr32 a1) (h2 : jr32 a2) (h3 : jr32 a3) : jop mX10_about mX11_about [jI a1, jI a2, jI a3] S0 s := by
  have hd := hI.dd
  obtain ⟨e0, e1, e2, e3⟩ := hd.cnt
  by_cases c : ((0 ≤ a1 ∧ a1 ≤ s 146 0 - 1) ∧ 0 ≤ a2 ∧ a2 ≤ 3) ∧ 0 ≤ a3 ∧ a3 ≤ 3
  · obtain ⟨⟨c1, c2⟩, c3⟩ := c
    have cases : a3 = 0 ∨ a3 = 1 ∨ a3 = 2 ∨ a3 = 3 := by omega
    have on : ∀ w z : Int, z = 0 → sg (s 146 3) (fun l => jbo ((s 151 (s 153 l) = a2 ∧ s 150 (s 153 l) = w) ∧ (z = 0 ∨ 0 < stc s l a1))) = sg (s 146 3) (fun l => jbo (s 151 (s 153 l) = a2 ∧ s 150 (s 153 l) = w)) := fun w z hz => sg_c (fun l _ _ => jbo_c ⟨fun q => q.1, fun q => ⟨q, Or.inl hz⟩⟩)
    have wi : ∀ w z : Int, z = 1 → sg (s 146 3) (fun l => jbo ((s 151 (s 153 l) = a2 ∧ s 150 (s 153 l) = w) ∧ (z = 0 ∨ 0 < stc s l a1))) = sg (s 146 3) (fun l => jbo ((s 151 (s 153 l) = a2 ∧ s 150 (s 153 l) = w) ∧ 0 < stc s l a1)) := fun w z hz => sg_c (fun l _ _ => jbo_c ⟨fun q => ⟨q.1, q.2.resolve_left (by omega)⟩, fun q => ⟨q.1, Or.inr q.2⟩⟩)
    rcases cases with rfl | rfl | rfl | rfl
    · exact jop.q (y := sg (s 146 3) (fun l => jbo (s 151 (s 153 l) = a2 ∧ s 150 (s 153 l) = 1))) hI (onb (s := s) 0 0 (by omega) (by omega) _) (g_X10_about ⟨h1, hd.wc, fun q => absurd c1 (by omega), fun _ => ⟨h2, fun q => absurd c2 q, fun _ => ⟨h3, fun _ => ⟨fun q => by omega, fun _ => ⟨by omega, by decide, fun q => absurd rfl q, fun _ => ⟨hd, rfl, rfl⟩⟩⟩, fun q => absurd c3 q⟩⟩⟩)
        (g_X11_about ⟨hd, h1, h2, fun q => absurd ⟨c1, c2⟩ q, fun _ => ⟨h3, by decide, fun q => absurd c3 q, fun _ => ⟨by omega, by decide, fun _ => ⟨by decide, by rw [on _ _ rfl]; rfl, rfl⟩, fun q => absurd q (by decide)⟩⟩⟩)
    · exact jop.q (y := sg (s 146 3) (fun l => jbo ((s 151 (s 153 l) = a2 ∧ s 150 (s 153 l) = 1) ∧ 0 < stc s l a1))) hI (onb (s := s) 0 0 (by omega) (by omega) _) (g_X10_about ⟨h1, hd.wc, fun q => absurd c1 (by omega), fun _ => ⟨h2, fun q => absurd c2 q, fun _ => ⟨h3, fun _ => ⟨fun q => by omega, fun _ => ⟨by omega, by decide, fun _ => ⟨hd, by omega, rfl, rfl⟩, fun q => absurd q (by decide)⟩⟩, fun q => absurd c3 q⟩⟩⟩)
        (g_X11_about ⟨hd, h1, h2, fun q => absurd ⟨c1, c2⟩ q, fun _ => ⟨h3, by decide, fun q => absurd c3 q, fun _ => ⟨by omega, by decide, fun q => absurd rfl q, fun _ => ⟨by decide, by rw [wi _ _ rfl]; rfl, rfl⟩⟩⟩⟩)
    · exact jop.q (y := sg (s 146 3) (fun l => jbo (s 151 (s 153 l) = a2 ∧ s 150 (s 153 l) = 2))) hI (onb (s := s) 0 0 (by omega) (by omega) _) (g_X10_about ⟨h1, hd.wc, fun q => absurd c1 (by omega), fun _ => ⟨h2, fun q => absurd c2 q, fun _ => ⟨h3, fun _ => ⟨fun _ => ⟨by omega, by decide, fun q => absurd rfl q, fun _ => ⟨hd, rfl, rfl⟩⟩, fun q => by omega⟩, fun q => absurd c3 q⟩⟩⟩)
        (g_X11_about ⟨hd, h1, h2, fun q => absurd ⟨c1, c2⟩ q, fun _ => ⟨h3, by decide, fun q => absurd c3 q, fun _ => ⟨by omega, by decide, fun _ => ⟨by decide, by rw [on _ _ rfl]; rfl, rfl⟩, fun q => absurd q (by decide)⟩⟩⟩)
    · exact jop.q (y := sg (s 146 3) (fun l => jbo ((s 151 (s 153 l) = a2 ∧ s 150 (s 153 l) = 2) ∧ 0 < stc s l a1))) hI (onb (s := s) 0 0 (by omega) (by omega) _) (g_X10_about ⟨h1, hd.wc, fun q => absurd c1 (by omega), fun _ => ⟨h2, fun q => absurd c2 q, fun _ => ⟨h3, fun _ => ⟨fun _ => ⟨by omega, by decide, fun _ => ⟨hd, by omega, rfl, rfl⟩, fun q => absurd q (by decide)⟩, fun q => by omega⟩, fun q => absurd c3 q⟩⟩⟩)
        (g_X11_about ⟨hd, h1, h2, fun q => absurd ⟨c1, c2⟩ q, fun _ => ⟨h3, by decide, fun q => absurd c3 q, fun _ => ⟨by omega, by decide, fun q => absurd rfl q, fun _ => ⟨by decide, by rw [wi _ _ rfl]; rfl, rfl⟩⟩⟩⟩)
  · exact jop.q (y := -2) hI (by decide) (g_X10_about ⟨h1, hd.wc, fun _ => ⟨rfl, rfl⟩, fun c1 => ⟨h2, fun _ => ⟨rfl, rfl⟩, fun c2 => ⟨h3, fun c3 => absurd ⟨⟨by omega, c2⟩, c3⟩ c, fun _ => ⟨rfl, rfl⟩⟩⟩⟩)
      (g_X11_about ⟨hd, h1, h2, fun _ => ⟨rfl, rfl⟩, fun c1 => ⟨h3, j3264 h3, fun _ => ⟨rfl, rfl⟩, fun c3 => absurd ⟨c1, c3⟩ c⟩⟩)
theorem op_slip {S0 : Int → Int} {s : Int → Int → Int} (hI : Inv S0 s) (a1 : Int) (h1 : jr32 a1) : jop mX10_slip mX11_slip [jI a1] S0 s := by
  have hd := hI.dd
  obtain ⟨e0, e1, e2, e3⟩ := hd.cnt
  by_cases c : 0 ≤ a1 ∧ a1 ≤ s 146 3 - 1
  · obtain ⟨-, f2, -, f4⟩ := hd.let (l := a1) (by omega) (by omega)
    obtain ⟨p1, -⟩ := hd.pup f2.2.1 f2.2.2
    have f9 : s 6 (s 9 a1) = s 150 (s 153 a1) := by rw [f2.1, p1.1]
    refine jop.r (R := fstk (s 155 a1) (fun k => s 148 (s 156 (8 * a1 + k)) ≠ 0 ∧ s 148 (s 156 (8 * a1 + k)) ≠ s 150 (s 153 a1))) hI (fun a b h g => h.uniq g) (fun a h => h.rng (by omega)) (g_X10_slip ⟨h1, hd.wc, fun _ => ⟨by omega, by omega, ?_⟩, fun q => absurd c (by omega)⟩) (g_X11_slip ⟨h1, by omega, fun _ => ?_, fun q => absurd c q⟩)
    · have key : ∀ i, i ≤ s 155 a1 → 0 ≤ i → (∀ k, 0 ≤ k → k < i → ¬ (s 148 (s 156 (8 * a1 + k)) ≠ 0 ∧ s 148 (s 156 (8 * a1 + k)) ≠ s 150 (s 153 a1))) → kK mX10_slip 31 [jR 1, jI a1, jI (s 6 (s 9 a1)), jI i, jU] [] s (fun r s' => ∃ y, r = some (jI y) ∧ fstk (s 155 a1) (fun k => s 148 (s 156 (8 * a1 + k)) ≠ 0 ∧ s 148 (s 156 (8 * a1 + k)) ≠ s 150 (s 153 a1)) y ∧ s' = s) := by
        refine lp_up _ _ (fun i hi ih h0 hn => ?_)
        refine g_X10_slip_31 ⟨by omega, by unfold jr32; omega, by unfold jr32; omega, fun q => ⟨_, rfl, Or.inl ⟨rfl, fun k k0 k1 => hn k k0 (by omega)⟩, rfl⟩, fun q => ?_⟩
        obtain ⟨t1, t2, t3⟩ := hd.txt c.1 (by omega) h0 (by omega)
        obtain ⟨-, w2⟩ := hd.wrd t2 t3
        have st : ∀ p : ¬ (s 148 (s 156 (8 * a1 + i)) ≠ 0 ∧ s 148 (s 156 (8 * a1 + i)) ≠ s 150 (s 153 a1)), ∀ k, 0 ≤ k → k < i + 1 → ¬ (s 148 (s 156 (8 * a1 + k)) ≠ 0 ∧ s 148 (s 156 (8 * a1 + k)) ≠ s 150 (s 153 a1)) := fun p k k0 k1 => by
          by_cases e : k = i
          · rw [e]; exact p
          · exact hn k k0 (by omega)
        rw [t1, w2.1, f9]
        rw [f9] at ih
        exact ⟨by omega, by omega, by unfold jr32; omega, fun q2 => ih (by omega) (by omega) (st (fun p => p.1 q2)), fun q2 => ⟨by unfold jr32; omega, fun q3 => ih (by omega) (by omega) (st (fun p => p.2 q3)), fun q3 => ⟨_, rfl, Or.inr ⟨h0, by omega, ⟨q2, q3⟩, hn⟩, rfl⟩⟩⟩
      exact key 0 (by omega) (by omega) (fun k k0 k1 => by omega)
    · have key : ∀ i, i ≤ s 155 a1 → 0 ≤ i → (∀ k, 0 ≤ k → k < i → ¬ (s 148 (s 156 (8 * a1 + k)) ≠ 0 ∧ s 148 (s 156 (8 * a1 + k)) ≠ s 150 (s 153 a1))) → kK mX11_slip 14 [jR 143, jI a1, jI i] [] s (fun r s' => ∃ y, r = some (jI y) ∧ fstk (s 155 a1) (fun k => s 148 (s 156 (8 * a1 + k)) ≠ 0 ∧ s 148 (s 156 (8 * a1 + k)) ≠ s 150 (s 153 a1)) y ∧ s' = s) := by
        refine lp_up _ _ (fun i hi ih h0 hn => ?_)
        refine g_X11_slip_14 ⟨by omega, by unfold jr32; omega, by unfold jr32; omega, fun q => ⟨_, rfl, Or.inl ⟨rfl, fun k k0 k1 => hn k k0 (by omega)⟩, rfl⟩, fun q => ?_⟩
        obtain ⟨t1, t2, t3⟩ := hd.txt c.1 (by omega) h0 (by omega)
        obtain ⟨-, w2⟩ := hd.wrd t2 t3
        have st : ∀ p : ¬ (s 148 (s 156 (8 * a1 + i)) ≠ 0 ∧ s 148 (s 156 (8 * a1 + i)) ≠ s 150 (s 153 a1)), ∀ k, 0 ≤ k → k < i + 1 → ¬ (s 148 (s 156 (8 * a1 + k)) ≠ 0 ∧ s 148 (s 156 (8 * a1 + k)) ≠ s 150 (s 153 a1)) := fun p k k0 k1 => by
          by_cases e : k = i
          · rw [e]; exact p
          · exact hn k k0 (by omega)
        exact ⟨by omega, by omega, by omega, by unfold jr32; omega, fun q2 => ih (by omega) (by omega) (st (by omega)), fun q2 => ⟨by unfold jr32; omega, fun q3 => ih (by omega) (by omega) (st (by omega)), fun q3 => ⟨_, rfl, Or.inr ⟨h0, by omega, by omega, hn⟩, rfl⟩⟩⟩
      exact key 0 (by omega) (by omega) (fun k k0 k1 => by omega)
  · exact jop.q (y := -2) hI (by decide) (g_X10_slip ⟨h1, hd.wc, fun q => absurd (by omega) c, fun _ => ⟨rfl, rfl⟩⟩) (g_X11_slip ⟨h1, by omega, fun q => absurd q c, fun _ => ⟨rfl, rfl⟩⟩)
