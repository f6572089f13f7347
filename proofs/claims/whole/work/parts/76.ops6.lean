theorem Inv.tl {S0 : Int → Int} {s s' : Int → Int → Int} (h : Inv S0 s) (f : frm tlP s s') : Inv S0 s' := h.fr (fun k hk => f k (fun e => hk (by unfold tlP at e; unfold jtmp jpers; omega)))
theorem ucm_fr {s s' : Int → Int → Int} (f : ∀ k, (146 ≤ k ∧ k ≤ 156) → s' k = s k) : ucm s' = ucm s := by
  funext x w g u
  unfold ucm stc
  rw [f 146 (by omega), f 149 (by omega), f 151 (by omega), f 152 (by omega), f 153 (by omega), f 155 (by omega), f 156 (by omega)]
theorem op_uses {S0 : Int → Int} {s : Int → Int → Int} (hI : Inv S0 s) (a1 a2 a3 : Int) (h1 : jr32 a1) (h2 : jr32 a2) (h3 : jr32 a3) : jop mX10_uses mX11_uses [jI a1, jI a2, jI a3] S0 s := by
  have hd := hI.dd
  obtain ⟨e0, e1, e2, e3⟩ := hd.cnt
  by_cases c : (0 ≤ a1 ∧ a1 ≤ s 146 1 - 1) ∧ (0 ≤ a2 ∧ a2 ≤ s 146 0 - 1) ∧ 0 ≤ a3 ∧ a3 ≤ 3
  · obtain ⟨c1, c2, c3⟩ := c
    obtain ⟨k1, k2, k3⟩ := hd.hnd (w := a1) (by omega) (by omega)
    refine jop.rr (fun y => y = ucm s a1 a2 a3 (-1)) (fun s1 => frm tlP s s1) (fun a b p q => p.trans q.symm) (fun a h => by have := ucm_b hd a1 a2 a3 (-1); rw [h]; unfold jr32; omega) (fun s1 h => (hI.tl h).1) (g_X10_uses ⟨h1, hd.wc, fun q => by omega, fun _ => ⟨h2, fun q => by omega, fun _ => ⟨h3, fun _ => ⟨hd, fun s1 q => ⟨by omega, by omega, by omega, by rw [q.1 5 (by unfold tlP; omega)]; omega, _, rfl, us_ucm hd q.1 q.2 (by omega) (by omega) (by omega), q.1⟩⟩, fun q => absurd c3 q⟩⟩⟩) (fun s1 h => ?_)
    have i1 := hI.tl h
    have k146 : s1 146 = s 146 := h 146 (by unfold tlP; omega)
    have eu : ucm s1 = ucm s := ucm_fr (fun k hk => h k (by unfold tlP; omega))
    exact g_X11_uses ⟨i1.dd, h1, h2, h3, fun q => absurd ⟨by rw [k146]; exact c1, by rw [k146]; exact c2, c3⟩ q, fun _ => ⟨by rw [k146]; omega, _, rfl, by rw [eu], i1⟩⟩
  · exact jop.q (y := -2) hI (by decide) (g_X10_uses ⟨h1, hd.wc, fun _ => ⟨rfl, rfl⟩, fun c1 => ⟨h2, fun _ => ⟨rfl, rfl⟩, fun c2 => ⟨h3, fun c3 => absurd ⟨by omega, by omega, c3⟩ c, fun _ => ⟨rfl, rfl⟩⟩⟩⟩) (g_X11_uses ⟨hd, h1, h2, h3, fun _ => ⟨rfl, rfl⟩, fun q => absurd q c⟩)
