def dgT (s : Int → Int → Int) : Int := 31 * dgf s (s 146 5) (dg 6 (s 163) (dgs s (s 146 4) (dg 4 (s 157) (dgD s (dg 6 (s 146) 479))))) + GT s (s 146 2) (-1) 0 0
def dgA (s : Int → Int → Int) : Int := dg (s 145 1) (fun k => s 144 (50 + k)) (dg (s 145 0) (s 144) (dg 3 (sgv s) (dgT s)))
theorem Inv.n6 {S0 : Int → Int} {s : Int → Int → Int} (h : Inv S0 s) {i : Int} (h0 : 0 ≤ i) (h1 : i < 6) : jr32 (s 146 i) := by
  obtain ⟨e0, e1, e2, e3⟩ := h.dd.cnt
  have e4 := h.2.2.2.1.2.1
  have e5 := h.2.2.2.2.2.1.2.1
  have : i = 0 ∨ i = 1 ∨ i = 2 ∨ i = 3 ∨ i = 4 ∨ i = 5 := by omega
  unfold jr32
  rcases this with rfl | rfl | rfl | rfl | rfl | rfl <;> omega
theorem Inv.sgr {S0 : Int → Int} {s : Int → Int → Int} (h : Inv S0 s) {i : Int} (h0 : 0 ≤ i) (h1 : i ≤ 2) : jr32 (sgv s i) := by
  obtain ⟨⟨e1, b1⟩, ⟨e2, b2⟩, -⟩ := h.2.2.2.2.2.2.1
  have := jbo_01' (¬ s 145 0 = 0)
  unfold sgv jr32
  by_cases c : i = 0
  · rw [if_pos c]; omega
  · rw [if_neg c]
    by_cases d : i = 1
    · rw [d, show (1 : Int) - 1 = 0 by omega]; omega
    · rw [show i - 1 = 1 by omega]; omega
theorem op_digest {S0 : Int → Int} {s : Int → Int → Int} (hI : Inv S0 s) : jopL mX10_digest mX11_digest [] S0 s := by
  have comp : kR mX10_digest [jR 1] s (fun r s1 => r = some (jL (dgA s)) ∧ frm fwP s s1 ∧ A0 s1) := by
    refine g_X10_digest ?_
    have k2 : ∀ s1, frm fwP s s1 → A0 s1 → ∀ i, i ≤ 3 → 0 ≤ i → kK mX10_digest 96 [jR 1, jL (dg i (sgv s) (dgT s)), jU, jI i] [] s1 (fun r s1 => r = some (jL (dgA s)) ∧ frm fwP s s1 ∧ A0 s1) := by
      intro s1 f g
      have i1 := hI.fw f g
      have c145 : s1 145 = s 145 := f 145 (by unfold fwP; omega)
      have c144 : s1 144 = s 144 := f 144 (by unfold fwP; omega)
      have sg : sgv s1 = sgv s := by funext w; unfold sgv; rw [c145]
      obtain ⟨⟨a1, a2⟩, ⟨a3, a4⟩, a5, a6, a7, a8⟩ := i1.2.2.2.2.2.2.1
      rw [c145] at a1 a2 a3 a4 a5 a6 a7 a8
      rw [c144] at a5 a6 a7 a8
      refine lp_up _ _ (fun i hi ih i0 => ?_)
      refine g_X10_digest_96 ?_
      rw [a1, a3, sg]
      refine ⟨by unfold jr32; omega, fun q => ⟨by omega, fun j j0 j1 => ?_, by omega, fun j j0 j1 => ?_, ?_, f, g⟩, fun q => ⟨⟨S0, i1⟩, by omega, hI.sgr i0 (by omega), ?_⟩⟩
      · have := a7 j j0 j1
        rw [a5 j j0 j1]; unfold jr32; omega
      · have : 0 ≤ s 144 (50 + j) ∧ s 144 (50 + j) ≤ 1073741823 := a8 j j0 j1
        rw [a6 j j0 j1]; show jr32 (s 144 (50 + j)); unfold jr32; omega
      · rw [dg_c a5, dg_c a6, show i = 3 by omega]; rfl
      · have := ih (by omega) (by omega)
        rw [dg_s i0] at this
        exact this
    have k1 : ∀ i, i ≤ 6 → 0 ≤ i → kK mX10_digest 6 [jR 1, jL (dg i (s 146) 479), jU, jI i] [] s (fun r s1 => r = some (jL (dgA s)) ∧ frm fwP s s1 ∧ A0 s1) := by
      refine lp_up _ _ (fun i hi ih i0 => ?_)
      refine g_X10_digest_6 ⟨by unfold jr32; omega, fun q => ?_, fun q => ⟨⟨S0, hI⟩, by omega, hI.n6 i0 (by omega), ?_⟩⟩
      · have b1 := hI.2.2.1
        have b2 := hI.2.2.2.2.1
        refine ⟨hI.dd, fun j j0 j1 => ?_, hI.2.2.2.1, fun j j0 j1 => ?_, hI.2.2.2.2.2.1, ⟨S0, hI⟩, fun y s1 q1 => ?_⟩
        · have := b1.2 j j0 j1
          rw [b1.1 j j0 j1]; unfold jr32; omega
        · have := b2.2 j j0 j1
          rw [b2.1 j j0 j1]; unfold jr32; omega
        · obtain ⟨q1, q2, q3⟩ := q1
          have r := GT_r hI.soc.so (l := -1) (e := 0) (Or.inl rfl)
          refine ⟨by rw [q1]; unfold jr32; omega, ?_⟩
          rw [dg_c b1.1, dg_c b2.1, q1, show i = 6 by omega]
          exact k2 s1 q2 q3 0 (by omega) (by omega)
      · have := ih (by omega) (by omega)
        rw [dg_s i0] at this
        exact this
    exact k1 0 (by omega) (by omega)
  refine kK.mono comp (fun r s1 q => ?_)
  obtain ⟨rfl, f, g⟩ := q
  have i1 := hI.fw f g
  refine ⟨_, rfl, i1.1, ?_⟩
  have k : ∀ k, ¬ (111 ≤ k ∧ k ≤ 119) → s1 k = s k := fun k hk => f k hk
  have eT : dgT s1 = dgT s := by
    unfold dgT dgf dgs dgD dgl dgp dgw
    rw [GT_fr (fun q hq => k q (by omega)), k 146 (by omega), k 147 (by omega), k 148 (by omega), k 149 (by omega), k 150 (by omega), k 151 (by omega), k 152 (by omega), k 153 (by omega), k 154 (by omega), k 155 (by omega), k 156 (by omega), k 157 (by omega), k 159 (by omega), k 160 (by omega), k 161 (by omega), k 163 (by omega), k 167 (by omega), k 168 (by omega)]
  have eS : sgv s1 = sgv s := by funext w; unfold sgv; rw [k 145 (by omega)]
  have eA : dgA s = dgA s1 := by
    unfold dgA
    rw [eT, eS, k 144 (by omega), k 145 (by omega)]
  rw [eA]
  clear eA eS eT k
  clear comp
  have d := i1.dd
  obtain ⟨e0, e1, e2, e3⟩ := d.cnt
  have b1 := i1.2.2.1
  have b2 := i1.2.2.2.2.1
  obtain ⟨c1, c2, c3, c4, -⟩ := i1.2.2.2.1
  obtain ⟨w1, w2', ⟨w3, w3'⟩, w4⟩ := i1.2.2.2.2.2.1
  obtain ⟨⟨a1, a2⟩, ⟨a3, a4⟩, a5, a6, a7, a8⟩ := i1.2.2.2.2.2.2.1
  have z : ∀ (n h : Int) (f : Int → Int), dg n (fun k => f (0 + k)) h = dg n f h := fun n h f => dg_c (fun i _ _ => by rw [Int.zero_add])
  have m6 : ∀ s2, frm (fun k => k = 162) s1 s2 → ∀ i, i ≤ 3 → 0 ≤ i → kK mX11_digest 343 [jR 143, jL (dg i (sgv s1) (dgT s1)), jU, jI i] [] s2 (fun r2 s2 => ∃ y2, r2 = some (jL y2) ∧ y2 = dgA s1 ∧ Inv S0 s2) := by
    intro s2 f2
    have i2 := i1.t162 f2
    have c145 : s2 145 = s1 145 := f2 145 (by omega)
    have c144 : s2 144 = s1 144 := f2 144 (by omega)
    have sg : sgv s2 = sgv s1 := by funext w; unfold sgv; rw [c145]
    refine lp_up _ _ (fun i hi ih i0 => ?_)
    refine g_X11_digest_343 ?_
    rw [c144, c145, sg, z _ _ (s1 144)]
    refine ⟨by unfold jr32; omega, fun q => ⟨by omega, fun j j0 j1 => ?_, by omega, fun j j0 j1 => ?_, _, rfl, ?_, i2⟩, fun q => ⟨⟨S0, i2⟩, by omega, i1.sgr i0 (by omega), ?_⟩⟩
    · have := a7 j j0 j1
      rw [Int.zero_add]; unfold jr32; omega
    · have : 0 ≤ s1 144 (50 + j) ∧ s1 144 (50 + j) ≤ 1073741823 := a8 j j0 j1
      unfold jr32; omega
    · rw [show i = 3 by omega]; rfl
    · have := ih (by omega) (by omega)
      rw [dg_s i0] at this
      exact this
  have m5 : ∀ h, 31 * dgf s1 (s1 146 5) h + GT s1 (s1 146 2) (-1) 0 0 = dgT s1 → ∀ i, i ≤ s1 146 5 → 0 ≤ i → kK mX11_digest 286 [jR 143, jL (dgf s1 i h), jU, jI i] [] s1 (fun r2 s2 => ∃ y2, r2 = some (jL y2) ∧ y2 = dgA s1 ∧ Inv S0 s2) := by
    intro h hh
    refine lp_up _ _ (fun i hi ih i0 => ?_)
    refine g_X11_digest_286 ⟨by unfold jr32; omega, by unfold jr32; omega, fun q => ⟨i1.soc.so, Or.inl rfl, fun y s2 q2 => ?_⟩, fun q => ?_⟩
    · obtain ⟨q1, q2, -⟩ := q2
      have r := GT_r i1.soc.so (l := -1) (e := 0) (Or.inl rfl)
      refine ⟨by rw [q1]; unfold jr32; omega, ?_⟩
      rw [q1, show i = s1 146 5 by omega, hh]
      exact m6 s2 q2 0 (by omega) (by omega)
    · have x1 := w3' i i0 (by omega)
      refine ⟨by omega, by unfold jr32; omega, by omega, fun j j0 j1 => ?_, ?_⟩
      · have := w4 i j i0 (by omega) j0 j1
        unfold jr32; omega
      · have := ih (by omega) (by omega)
        rw [show dgf s1 (i + 1) h = dg 4 (fun g => s1 168 (4 * i + g)) (31 * dgf s1 i h + s1 167 i) from fo_s i0 _ _] at this
        exact this
  have m4 : ∀ h, 31 * dgf s1 (s1 146 5) (dg 6 (s1 163) (dgs s1 (s1 146 4) h)) + GT s1 (s1 146 2) (-1) 0 0 = dgT s1 → ∀ i, i ≤ s1 146 4 → 0 ≤ i → kK mX11_digest 218 [jR 143, jL (dgs s1 i h), jU, jI i] [] s1 (fun r2 s2 => ∃ y2, r2 = some (jL y2) ∧ y2 = dgA s1 ∧ Inv S0 s2) := by
    intro h hh
    refine lp_up _ _ (fun i hi ih i0 => ?_)
    refine g_X11_digest_218 ?_
    rw [z _ _ (s1 163)]
    refine ⟨by unfold jr32; omega, by unfold jr32; omega, fun q => ⟨fun j j0 j1 => ?_, ?_⟩, fun q => ?_⟩
    · have := b2.2 j j0 j1
      rw [Int.zero_add]; unfold jr32; omega
    · rw [show i = s1 146 4 by omega]
      exact m5 _ hh 0 (by omega) (by omega)
    · have x1 := c4.1 i i0 (by omega)
      have x2 := c4.2.1 i i0 (by omega)
      have x3 := c4.2.2 i i0 (by omega)
      refine ⟨by omega, by unfold jr32; omega, by unfold jr32; omega, by unfold jr32; omega, ?_⟩
      have := ih (by omega) (by omega)
      rw [show dgs s1 (i + 1) h = 31 * (31 * (31 * dgs s1 i h + s1 159 i) + s1 160 i) + s1 161 i from fo_s i0 _ _] at this
      exact this
  have m3 : ∀ h, 31 * dgf s1 (s1 146 5) (dg 6 (s1 163) (dgs s1 (s1 146 4) (dg 4 (s1 157) (dgl s1 (s1 146 3) h)))) + GT s1 (s1 146 2) (-1) 0 0 = dgT s1 → ∀ i, i ≤ s1 146 3 → 0 ≤ i → kK mX11_digest 120 [jR 143, jL (dgl s1 i h), jU, jI i] [] s1 (fun r2 s2 => ∃ y2, r2 = some (jL y2) ∧ y2 = dgA s1 ∧ Inv S0 s2) := by
    intro h hh
    refine lp_up _ _ (fun i hi ih i0 => ?_)
    refine g_X11_digest_120 ?_
    rw [z _ _ (s1 157)]
    refine ⟨by unfold jr32; omega, by unfold jr32; omega, fun q => ⟨fun j j0 j1 => ?_, ?_⟩, fun q => ?_⟩
    · have := b1.2 j j0 j1
      rw [Int.zero_add]; unfold jr32; omega
    · rw [show i = s1 146 3 by omega]
      exact m4 _ hh 0 (by omega) (by omega)
    · obtain ⟨f1, f2, f3, f4⟩ := d.let i0 (by omega)
      refine ⟨by omega, by unfold jr32; omega, by unfold jr32; omega, by unfold jr32; omega, by unfold jr32; omega, by omega, fun j j0 j1 => ?_, ?_⟩
      · obtain ⟨t1, t2, t3⟩ := d.txt i0 (by omega) j0 j1
        unfold jr32; omega
      · have := ih (by omega) (by omega)
        rw [show dgl s1 (i + 1) h = dg (s1 155 i) (fun k => s1 156 (8 * i + k)) (31 * (31 * (31 * (31 * dgl s1 i h + s1 152 i) + s1 153 i) + s1 154 i) + s1 155 i) from fo_s i0 _ _] at this
        exact this
  have m2 : ∀ h, 31 * dgf s1 (s1 146 5) (dg 6 (s1 163) (dgs s1 (s1 146 4) (dg 4 (s1 157) (dgl s1 (s1 146 3) (dgp s1 (s1 146 2) h))))) + GT s1 (s1 146 2) (-1) 0 0 = dgT s1 → ∀ i, i ≤ s1 146 2 → 0 ≤ i → kK mX11_digest 76 [jR 143, jL (dgp s1 i h), jU, jI i] [] s1 (fun r2 s2 => ∃ y2, r2 = some (jL y2) ∧ y2 = dgA s1 ∧ Inv S0 s2) := by
    intro h hh
    refine lp_up _ _ (fun i hi ih i0 => ?_)
    refine g_X11_digest_76 ⟨by unfold jr32; omega, by unfold jr32; omega, fun q => ?_, fun q => ?_⟩
    · rw [show i = s1 146 2 by omega]
      exact m3 _ hh 0 (by omega) (by omega)
    · obtain ⟨p1, p2⟩ := d.pup i0 (by omega)
      refine ⟨by omega, by unfold jr32; omega, by unfold jr32; omega, ?_⟩
      have := ih (by omega) (by omega)
      rw [show dgp s1 (i + 1) h = 31 * (31 * dgp s1 i h + s1 150 i) + s1 151 i from fo_s i0 _ _] at this
      exact this
  have m1 : ∀ i, i ≤ s1 146 0 → 0 ≤ i → kK mX11_digest 16 [jR 143, jL (dgw s1 i (dg 6 (s1 146) 479)), jU, jI i] [] s1 (fun r2 s2 => ∃ y2, r2 = some (jL y2) ∧ y2 = dgA s1 ∧ Inv S0 s2) := by
    refine lp_up _ _ (fun i hi ih i0 => ?_)
    refine g_X11_digest_16 ?_
    rw [z _ _ (s1 149)]
    refine ⟨by unfold jr32; omega, by unfold jr32; omega, fun q => ⟨by omega, fun j j0 j1 => ?_, ?_⟩, fun q => ?_⟩
    · have := d.hnd (w := j) j0 (by omega)
      rw [Int.zero_add]; unfold jr32; omega
    · rw [show i = s1 146 0 by omega]
      exact m2 _ rfl 0 (by omega) (by omega)
    · obtain ⟨p1, p2⟩ := d.wrd (w := i) i0 (by omega)
      refine ⟨by omega, by unfold jr32; omega, by unfold jr32; omega, ?_⟩
      have := ih (by omega) (by omega)
      rw [show dgw s1 (i + 1) (dg 6 (s1 146) 479) = 31 * (31 * dgw s1 i (dg 6 (s1 146) 479) + s1 147 i) + s1 148 i from fo_s i0 _ _] at this
      exact this
  refine g_X11_digest ⟨fun j j0 j1 => by rw [Int.zero_add]; exact i1.n6 j0 j1, ?_⟩
  rw [z _ _ (s1 146)]
  exact m1 0 (by omega) (by omega)
