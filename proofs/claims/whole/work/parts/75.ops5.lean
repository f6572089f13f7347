theorem SO.fr {s s' : Int → Int → Int} (h : SO s) (f : ∀ k, k = 146 ∨ k = 160 ∨ k = 161 → s' k = s k) : SO s' := by
  unfold SO
  rw [f 146 (by omega), f 160 (by omega), f 161 (by omega)]; exact h
theorem Inv.t162 {S0 : Int → Int} {s s' : Int → Int → Int} (h : Inv S0 s) (f : frm (fun k => k = 162) s s') : Inv S0 s' := h.fr (fun k hk => f k (fun e => hk (by subst e; unfold jtmp jpers; omega)))
theorem GT_r {s : Int → Int → Int} (so : SO s) {l e : Int} (hle : leOK (s 146 2) l e) : 0 ≤ GT s (s 146 2) l e 0 ∧ GT s (s 146 2) l e 0 ≤ 40 := by
  have := GT_b so hle 0 (by omega) (by have := p2_pos (s 146 2); omega)
  have := czs_b so 0
  omega
theorem op_order {S0 : Int → Int} {s : Int → Int → Int} (hI : Inv S0 s) (a1 : Int) (h1 : jr32 a1) : jop mX10_order mX11_order [jI a1] S0 s := by
  have hd := hI.dd
  have hs := hI.soc
  have so := hs.so
  obtain ⟨e0, e1, e2, e3⟩ := hd.cnt
  have p2 := p2_256 so.1.1 so.1.2
  have pp := p2_pos (s 146 2)
  have n8 := so.1
  have fwk : ∀ s1, frm fwP s s1 → ∀ k, k = 146 ∨ k = 160 ∨ k = 161 → s1 k = s k := fun s1 f k hk => f k (by unfold fwP; omega)
  have iv : ∀ s1, frm fwP s s1 → A0 s1 → Inv S0 s1 := fun s1 f g => hI.fw f g
  have sc : ∀ s1, frm fwP s s1 → A0 s1 → SOC s1 := fun s1 f g => hs.fr (fun k hk => f k hk) g
  have c2 : ∀ s1, frm fwP s s1 → s1 2 = s 2 := fun s1 f => f 2 (by unfold fwP; omega)
  by_cases c : a1 = -1
  · subst c
    refine jop.rr (fun y => y = GT s (s 146 2) (-1) 0 0) (fun s1 => frm fwP s s1 ∧ A0 s1) (fun a b p q => p.trans q.symm) (fun a h => by have := GT_r so (l := -1) (e := 0) (Or.inl rfl); rw [h]; unfold jr32; omega) (fun s1 h => (iv s1 h.1 h.2).1) (g_X10_order ⟨by decide, fun _ => ⟨hs, e2.1, Or.inl rfl, fun y s1 q => ⟨fun q2 => absurd rfl q2, fun _ => ⟨y, rfl, by rw [q.1, GT_l n8.1 (-1) 0], q.2.1, q.2.2.1.1⟩⟩⟩, fun q => absurd rfl q⟩) (fun s1 h => ?_)
    have k := fwk s1 h.1
    refine g_X11_order ⟨by decide, fun _ => ⟨so.fr k, Or.inl rfl, fun y s2 q => ⟨fun q2 => absurd rfl q2, fun _ => ⟨y, rfl, ?_, (iv s1 h.1 h.2).t162 q.2.1⟩⟩⟩, fun q => absurd rfl q⟩
    rw [q.1, GT_fr k, k 146 (by omega)]
  · by_cases d : 0 ≤ a1 ∧ a1 ≤ s 146 2 - 1
    · refine jop.rr (fun y => ∃ set, plc s (a1 + 1).toNat set y) (fun s1 => frm fwP s s1 ∧ A0 s1) (fun a b p q => by obtain ⟨_, p⟩ := p; obtain ⟨_, q⟩ := q; exact (plc.uniq p q).2) (fun a h => ?_) (fun s1 h => (iv s1 h.1 h.2).1) (g_X10_order ⟨h1, fun q => absurd q c, fun _ => ⟨hd.wc, fun _ => ⟨hs, e2.1, Or.inl rfl, fun y s1 q => ⟨fun _ => ⟨sc s1 q.2.1 q.2.2.1.1, ?_, FW.fr q.2.1 q.2.2, ?_, fun y2 s2 q2 => ⟨y2, rfl, ?_, q2.2 ▸ q.2.1, q2.2 ▸ q.2.2.1.1⟩⟩, fun q2 => absurd q2 c⟩⟩, fun q => by omega⟩⟩) (fun s1 h => ?_)
      · obtain ⟨set, h⟩ := h
        rw [show (a1 + 1).toNat = a1.toNat + 1 by omega] at h
        obtain ⟨_, _, _, h, _⟩ := h
        rcases h with ⟨h, -⟩ | ⟨h, h2, -⟩
        · rw [h]; decide
        · unfold jr32; omega
      · rw [c2 s1 q.2.1, fwk s1 q.2.1 146 (by omega)]; exact e2.1
      · rw [fwk s1 q.2.1 146 (by omega)]; omega
      · obtain ⟨⟨set, q3⟩, -⟩ := q2
        rw [plc_fr (fwk s1 q.2.1)] at q3
        exact ⟨set, q3⟩
      · have k := fwk s1 h.1
        have i1 := iv s1 h.1 h.2
        have k146 := k 146 (by omega)
        refine g_X11_order ⟨h1, fun q => absurd q c, fun _ => ⟨by rw [k146]; omega, fun _ => ⟨so.fr k, Or.inl rfl, fun y s2 q => ⟨fun _ => ?_, fun q2 => absurd q2 c⟩⟩, fun q => absurd (by rw [k146]; exact d) q⟩⟩
        obtain ⟨-, f2, t2⟩ := q
        have i2 := i1.t162 f2
        have kk : ∀ k, k = 146 ∨ k = 160 ∨ k = 161 → s2 k = s k := fun q hq => (f2 q (by omega)).trans (k q hq)
        rw [GT_fr k, k146] at t2
        have so2 := so.fr kk
        have gb := GT_b so (l := -1) (e := 0) (Or.inl rfl)
        have gc := czs_b so
        have key : ∀ p, p ≤ a1 + 1 → 0 ≤ p → ∀ a b, plc s p.toNat a b → kK mX11_order 39 [jR 143, jI a1, jU, jI a, jI b, jI p, jU, jU] [] s2 (fun r s' => ∃ y, r = some (jI y) ∧ (∃ set, plc s (a1 + 1).toNat set y) ∧ Inv S0 s') := by
          refine lp_up _ _ (fun p hp ih p0 a b hq => ?_)
          refine g_X11_order_39 ⟨by unfold jr32; omega, h1, fun q => ⟨b, rfl, ⟨a, by rw [show a1 + 1 = p by omega]; exact hq⟩, i2⟩, fun q => ?_⟩
          rw [kk 146 (by omega)]
          obtain ⟨ra, rb⟩ := plc_ok so hq (by omega)
          obtain ⟨na, w, w0, w1, w2, w3⟩ := plc_nx so hq (by omega)
          have up : ∀ y, 0 ≤ y → y < s 146 2 → bt a y = 0 → a + 2 ^ y.toNat < 2 ^ (s 146 2).toNat := fun y y0 y1 y2 => (bt_cm n8.2 ra ⟨y0, y1⟩).2 y2
          have inner : ∀ x, -1 ≤ x → x ≤ s 146 2 - 1 → ∀ b, (b = -1 ∧ (∀ k, x < k → k < s 146 2 → ¬ (bt a k = 0 ∧ agn s k a + GT s (s 146 2) (-1) 0 (a + 2 ^ k.toNat) = GT s (s 146 2) (-1) 0 a))) ∨ (x < b ∧ b < s 146 2 ∧ (bt a b = 0 ∧ agn s b a + GT s (s 146 2) (-1) 0 (a + 2 ^ b.toNat) = GT s (s 146 2) (-1) 0 a) ∧ ∀ k, x < k → k < b → ¬ (bt a k = 0 ∧ agn s k a + GT s (s 146 2) (-1) 0 (a + 2 ^ k.toNat) = GT s (s 146 2) (-1) 0 a)) → kK mX11_order 58 [jR 143, jI a1, jU, jI a, jI b, jI p, jI x, jU] [] s2 (fun r s' => ∃ y, r = some (jI y) ∧ (∃ set, plc s (a1 + 1).toNat set y) ∧ Inv S0 s') := by
            refine lp_dn (-1) _ (fun x hx jh hx2 b hb => ?_)
            refine g_X11_order_58 ⟨by unfold jr32; omega, fun q3 => ?_, fun q3 => ?_⟩
            · have fb : fstk (s 146 2) (fun x => bt a x = 0 ∧ agn s x a + GT s (s 146 2) (-1) 0 (a + 2 ^ x.toNat) = GT s (s 146 2) (-1) 0 a) b ∧ 0 ≤ b := by
                rcases hb with ⟨hb, hb2⟩ | ⟨hb, hb2, hb3, hb4⟩
                · exact absurd ⟨w2, w3⟩ (hb2 w (by omega) w1)
                · exact ⟨Or.inr ⟨by omega, hb2, hb3, fun k k0 k1 => hb4 k (by omega) k1⟩, by omega⟩
              have fb2 : b < s 146 2 ∧ bt a b = 0 := by
                rcases fb.1 with ⟨fb1, -⟩ | ⟨-, fb1, fb3, -⟩
                · have := fb.2; omega
                · exact ⟨fb1, fb3.1⟩
              refine ⟨by omega, ra.1, by rw [Int.one_mul]; have := p2_pos b; omega, ?_⟩
              rw [Int.one_mul, (bt_on (a := a) (by omega) (k := b) (by omega) fb2.2).1]
              exact ih (by omega) (by omega) _ _ (by rw [show (p + 1).toNat = p.toNat + 1 by omega]; exact ⟨a, _, hq, fb.1, rfl⟩)
            · have no : ¬ (bt a x = 0 ∧ agn s x a + GT s (s 146 2) (-1) 0 (a + 2 ^ x.toNat) = GT s (s 146 2) (-1) 0 a) → kK mX11_order 58 [jR 143, jI a1, jU, jI a, jI b, jI p, jI (x + -1), jU] [] s2 (fun r s' => ∃ y, r = some (jI y) ∧ (∃ set, plc s (a1 + 1).toNat set y) ∧ Inv S0 s') := fun q4 => by
                rw [show x + -1 = x - 1 by omega]
                refine jh (by omega) (by omega) b (hb.imp (fun hb => ⟨hb.1, fun k k0 k1 => ?_⟩) (fun hb => ⟨by omega, hb.2.1, hb.2.2.1, fun k k0 k1 => ?_⟩))
                · by_cases e : k = x
                  · rw [e]; exact q4
                  · exact hb.2 k (by omega) k1
                · by_cases e : k = x
                  · rw [e]; exact q4
                  · exact hb.2.2.2 k (by omega) k1
              refine ⟨by omega, by unfold jr32; omega, by unfold jr32; have := bt_01 a x; unfold bt at this; omega, fun q4 => no (fun q5 => q4 q5.1), fun q4 => ?_⟩
              have b2 := up x (by omega) (by omega) q4
              have b3 := p2_pos x
              have b4 := agn_b so x a
              have b5 := gb (a + 2 ^ x.toNat) (by omega) (by omega)
              have b6 := gc (a + 2 ^ x.toNat)
              have b7 := gb a (by omega) (by omega)
              have b8 := gc a
              rw [Int.one_mul, (bt_on (a := a) (by omega) (k := x) (by omega) q4).1, agn_fr kk, t2 (a + 2 ^ x.toNat) (by omega) (by omega), t2 a (by omega) (by omega)]
              refine ⟨so2, by omega, by omega, by omega, by omega, by unfold jr32; omega, by unfold jr32; omega, fun q5 => no (fun q6 => q5 q6.2), fun q5 => ?_⟩
              rw [show x + -1 = x - 1 by omega]
              exact jh (by omega) (by omega) x (Or.inr ⟨by omega, by omega, ⟨q4, q5⟩, fun k k0 k1 => by omega⟩)
          exact inner (s 146 2 - 1) (by omega) (by omega) (-1) (Or.inl ⟨rfl, fun k k0 k1 => by omega⟩)
        exact key 0 (by omega) (by omega) 0 (-1) ⟨rfl, rfl⟩
    · exact jop.q (y := -10) hI (by decide) (g_X10_order ⟨h1, fun q => absurd q c, fun _ => ⟨hd.wc, fun q => absurd (by omega) d, fun _ => ⟨rfl, rfl⟩⟩⟩) (g_X11_order ⟨h1, fun q => absurd q c, fun _ => ⟨by omega, fun q => absurd q d, fun _ => ⟨rfl, rfl⟩⟩⟩)
theorem op_sure {S0 : Int → Int} {s : Int → Int → Int} (hI : Inv S0 s) (a1 a2 : Int) (h1 : jr32 a1) (h2 : jr32 a2) : jop mX10_sure mX11_sure [jI a1, jI a2] S0 s := by
  have hd := hI.dd
  have hs := hI.soc
  have so := hs.so
  obtain ⟨e0, e1, e2, e3⟩ := hd.cnt
  have n8 := so.1
  have fwk : ∀ s1, frm fwP s s1 → ∀ k, k = 146 ∨ k = 160 ∨ k = 161 → s1 k = s k := fun s1 f k hk => f k (by unfold fwP; omega)
  have iv : ∀ s1, frm fwP s s1 → A0 s1 → Inv S0 s1 := fun s1 f g => hI.fw f g
  have sc : ∀ s1, frm fwP s s1 → A0 s1 → SOC s1 := fun s1 f g => hs.fr (fun k hk => f k hk) g
  have c2 : ∀ s1, frm fwP s s1 → s1 2 = s 2 := fun s1 f => f 2 (by unfold fwP; omega)
  by_cases c : (0 ≤ a1 ∧ a1 ≤ s 146 2 - 1) ∧ (0 ≤ a2 ∧ a2 ≤ s 146 2 - 1) ∧ a1 ≠ a2
  · obtain ⟨d1, d2, d3⟩ := c
    have hle : leOK (s 146 2) a1 a2 := Or.inr ⟨by omega, by omega, by omega, by omega, d3⟩
    have r1 := GT_r so (l := -1) (e := 0) (Or.inl rfl)
    have r2 := GT_r so hle
    refine jop.rr (fun y => y = jbo (GT s (s 146 2) (-1) 0 0 < GT s (s 146 2) a1 a2 0)) (fun s1 => frm fwP s s1 ∧ A0 s1) (fun a b p q => p.trans q.symm) (fun a h => by rw [h]; have := jbo_01' (GT s (s 146 2) (-1) 0 0 < GT s (s 146 2) a1 a2 0); unfold jr32; omega) (fun s1 h => (iv s1 h.1 h.2).1) (g_X10_sure ⟨h1, hd.wc, fun q => absurd (by omega) q, fun _ => ⟨h2, fun q => absurd (by omega) q, fun _ => ⟨fun _ => ⟨hs, e2.1, Or.inl rfl, fun y s1 q => ?_⟩, fun q => absurd q d3⟩⟩⟩) (fun s1 h => ?_)
    · obtain ⟨q1, q2, q3⟩ := q
      have k := fwk s1 q2
      refine ⟨sc s1 q2 q3.1.1, by rw [c2 s1 q2, k 146 (by omega)]; exact e2.1, by rw [k 146 (by omega)]; exact hle, fun y2 s2 q4 => ?_⟩
      obtain ⟨q4, q5, q6⟩ := q4
      rw [GT_l n8.1 (-1) 0] at q1
      rw [GT_fr k, k 146 (by omega)] at q4
      exact ⟨by rw [q4]; unfold jr32; omega, by rw [q1]; unfold jr32; omega, fun q7 => ⟨_, rfl, by rw [jbo_f (by omega)], q2.tr q5, q6.1.1⟩, fun q7 => ⟨_, rfl, by rw [jbo_t (by omega)], q2.tr q5, q6.1.1⟩⟩
    · have k := fwk s1 h.1
      have i1 := iv s1 h.1 h.2
      have k146 := k 146 (by omega)
      refine g_X11_sure ⟨h1, by rw [k146]; omega, fun q => absurd (by rw [k146]; exact d1) q, fun _ => ⟨h2, fun q => absurd (by rw [k146]; exact d2) q, fun _ => ⟨fun _ => ⟨so.fr k, Or.inl rfl, fun y s2 q => ?_⟩, fun q => absurd q d3⟩⟩⟩
      obtain ⟨q1, q2, -⟩ := q
      have kk : ∀ k, k = 146 ∨ k = 160 ∨ k = 161 → s2 k = s k := fun q hq => (q2 q (by omega)).trans (k q hq)
      rw [GT_fr k, k146] at q1
      refine ⟨so.fr kk, by rw [kk 146 (by omega)]; exact hle, fun y2 s3 q4 => ?_⟩
      obtain ⟨q4, q5, -⟩ := q4
      rw [GT_fr kk, kk 146 (by omega)] at q4
      exact ⟨by rw [q4]; unfold jr32; omega, by rw [q1]; unfold jr32; omega, fun q7 => ⟨_, rfl, by rw [jbo_f (by omega)], (i1.t162 q2).t162 q5⟩, fun q7 => ⟨_, rfl, by rw [jbo_t (by omega)], (i1.t162 q2).t162 q5⟩⟩
  · exact jop.q (y := -2) hI (by decide) (g_X10_sure ⟨h1, hd.wc, fun _ => ⟨rfl, rfl⟩, fun c1 => ⟨h2, fun _ => ⟨rfl, rfl⟩, fun c3 => ⟨fun c4 => absurd ⟨by omega, by omega, c4⟩ c, fun _ => ⟨rfl, rfl⟩⟩⟩⟩) (g_X11_sure ⟨h1, by omega, fun _ => ⟨rfl, rfl⟩, fun c1 => ⟨h2, fun _ => ⟨rfl, rfl⟩, fun c3 => ⟨fun c4 => absurd ⟨c1, c3, c4⟩ c, fun _ => ⟨rfl, rfl⟩⟩⟩⟩)
