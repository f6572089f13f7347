theorem op_said {S0 : Int → Int} {s : Int → Int → Int} (hI : Inv S0 s) (a1 a2 a3 : Int) (h1 : jr32 a1) (h2 : jr32 a2) (h3 : jr32 a3) : jop mX10_said mX11_said [jI a1, jI a2, jI a3] S0 s := by
  have hw := hI.wm
  obtain ⟨i1, i2, i3, i4, i5, i6⟩ := hI.2.2.2.1
  have hc := sp_X10_said s a1 a2 a3 h1 h2 h3 hI.wc (by omega)
  rw [hI.2.1.2.1.2.1, hI.2.1.2.1.2.2.1, i1] at hc
  have hP := hw.2.2.1
  refine jop.g3 (new' := fun s1 => w2 (w2 (w2 (w2 s1 159 (s 146 4) a1) 160 (s 146 4) a2) 161 (s 146 4) a3) 146 4 (s 146 4 + 1)) hI (fun c => by rw [w2_k (by omega), w2_k (by omega), w2_k (by omega), w2_k (by omega), w2_k (by omega)]) (by decide) (fun _ _ => by unfold jr32; omega) hc (fun s1 h => ?_) (fun c d => ?_)
  · have hk : ∀ k, 143 ≤ k → s1 k = s k := by
      rcases h with rfl | ⟨c, _, rfl⟩
      · intros; rfl
      · intro k hk; rw [w2_k (by omega), w2_k (by omega), w2_k (by omega), w2_k (by omega), w2_k (by omega)]
    have hm := sp_X11_said s1 a1 a2 a3 h1 h2 h3 (hw.k (fun k a b => hk k (by omega))) (by rw [hk 146 (by omega)]; exact i2)
    rw [hk 146 (by omega)] at hm
    exact hm
  · obtain ⟨c1, c2, c3, c4⟩ := c
    have k : ∀ k, k ≠ 97 → k ≠ 98 → k ≠ 99 → k ≠ 100 → k ≠ 102 + a2 → k ≠ 146 → k ≠ 159 → k ≠ 160 → k ≠ 161 → w2 (w2 (w2 (w2 (w2 (w2 (w2 (w2 (w2 s 98 (s 146 4) a1) 99 (s 146 4) a2) 100 (s 146 4) a3) (102 + a2) a3 (s (102 + a2) a3 + 1)) 97 3 (s 146 4 + 1)) 159 (s 146 4) a1) 160 (s 146 4) a2) 161 (s 146 4) a3) 146 4 (s 146 4 + 1) k = s k := fun k p1 p2 p3 p4 p5 p6 p7 p8 p9 => by rw [w2_k p6, w2_k p9, w2_k p8, w2_k p7, w2_k p1, w2_k p5, w2_k p4, w2_k p3, w2_k p2]
    have k6 : ∀ i, i ≠ 4 → w2 (w2 (w2 (w2 (w2 (w2 (w2 (w2 (w2 s 98 (s 146 4) a1) 99 (s 146 4) a2) 100 (s 146 4) a3) (102 + a2) a3 (s (102 + a2) a3 + 1)) 97 3 (s 146 4 + 1)) 159 (s 146 4) a1) 160 (s 146 4) a2) 161 (s 146 4) a3) 146 4 (s 146 4 + 1) 146 i = s 146 i := fun i p => by
      rw [w2_i p, w2_k (by omega), w2_k (by omega), w2_k (by omega), w2_k (by omega), w2_k (by omega), w2_k (by omega), w2_k (by omega), w2_k (by omega)]
    have r97 : ∀ (x : Int → Int → Int), x = w2 (w2 (w2 (w2 s 98 (s 146 4) a1) 99 (s 146 4) a2) 100 (s 146 4) a3) (102 + a2) a3 (s (102 + a2) a3 + 1) → x 98 = (fun i => if i = s 146 4 then a1 else s 98 i) ∧ x 99 = (fun i => if i = s 146 4 then a2 else s 99 i) ∧ x 100 = (fun i => if i = s 146 4 then a3 else s 100 i) ∧ ∀ a b, 0 ≤ a → x (102 + a) b = if a = a2 ∧ b = a3 then s (102 + a2) a3 + 1 else s (102 + a) b := by
      intro x hx
      subst hx
      refine ⟨?_, ?_, ?_, fun a b ha => ?_⟩
      · funext i; rw [w2_k (by omega), w2_k (by omega), w2_k (by omega), w2_e]
      · funext i; rw [w2_k (by omega), w2_k (by omega), w2_e, w2_k (by omega)]
      · funext i; rw [w2_k (by omega), w2_e, w2_k (by omega), w2_k (by omega)]
      · by_cases e : a = a2
        · subst e
          rw [w2_e]
          by_cases e2 : b = a3
          · rw [if_pos e2, if_pos ⟨rfl, e2⟩]
          · rw [if_neg e2, if_neg (fun q => e2 q.2), w2_k (by omega), w2_k (by omega), w2_k (by omega)]
        · rw [if_neg (fun q => e q.1), w2_k (by omega), w2_k (by omega), w2_k (by omega), w2_k (by omega)]
    obtain ⟨r98, r99, r100, rov⟩ := r97 _ rfl
    obtain ⟨h0, ha, hb, -, hd, he, hf, hg⟩ := hI
    refine ⟨(k 0 (by omega) (by omega) (by omega) (by omega) (by omega) (by omega) (by omega) (by omega) (by omega)).trans h0,
      IA.k ha (fun i _ _ => by rw [k 2 (by omega) (by omega) (by omega) (by omega) (by omega) (by omega) (by omega) (by omega) (by omega)]) (fun a p q => k a (by omega) (by omega) (by omega) (by omega) (by omega) (by omega) (by omega) (by omega) (by omega)) (fun a p q => k _ (by omega) (by omega) (by omega) (by omega) (by omega) (by omega) (by omega) (by omega) (by omega)) (fun i _ _ => k6 i (by omega)) (fun a p q => if e : a = 146 then by
        subst e; omega else k a (by omega) (by omega) (by omega) (by omega) (by omega) (by omega) (by omega) (by omega) (by omega)),
      hb.k (k _ (by omega) (by omega) (by omega) (by omega) (by omega) (by omega) (by omega) (by omega) (by omega)) (k _ (by omega) (by omega) (by omega) (by omega) (by omega) (by omega) (by omega) (by omega) (by omega)), ?_,
      hd.k (k _ (by omega) (by omega) (by omega) (by omega) (by omega) (by omega) (by omega) (by omega) (by omega)) (k _ (by omega) (by omega) (by omega) (by omega) (by omega) (by omega) (by omega) (by omega) (by omega)),
      he.k (by rw [k 124 (by omega) (by omega) (by omega) (by omega) (by omega) (by omega) (by omega) (by omega) (by omega)]) (k6 5 (by omega)) (k _ (by omega) (by omega) (by omega) (by omega) (by omega) (by omega) (by omega) (by omega) (by omega)) (k _ (by omega) (by omega) (by omega) (by omega) (by omega) (by omega) (by omega) (by omega) (by omega)) (k _ (by omega) (by omega) (by omega) (by omega) (by omega) (by omega) (by omega) (by omega) (by omega)) (fun a a1 a2 => k _ (by omega) (by omega) (by omega) (by omega) (by omega) (by omega) (by omega) (by omega) (by omega)),
      hf.k (by rw [k 139 (by omega) (by omega) (by omega) (by omega) (by omega) (by omega) (by omega) (by omega) (by omega)]) (by rw [k 141 (by omega) (by omega) (by omega) (by omega) (by omega) (by omega) (by omega) (by omega) (by omega)]) (k _ (by omega) (by omega) (by omega) (by omega) (by omega) (by omega) (by omega) (by omega) (by omega)) (k _ (by omega) (by omega) (by omega) (by omega) (by omega) (by omega) (by omega) (by omega) (by omega)) (k _ (by omega) (by omega) (by omega) (by omega) (by omega) (by omega) (by omega) (by omega) (by omega)) (by rw [k 145 (by omega) (by omega) (by omega) (by omega) (by omega) (by omega) (by omega) (by omega) (by omega)]) (by rw [k 145 (by omega) (by omega) (by omega) (by omega) (by omega) (by omega) (by omega) (by omega) (by omega)]),
      hg.k (fun a a1 a2 => k _ (by omega) (by omega) (by omega) (by omega) (by omega) (by omega) (by omega) (by omega) (by omega)) (fun a a1 a2 => k _ (by omega) (by omega) (by omega) (by omega) (by omega) (by omega) (by omega) (by omega) (by omega))⟩
    unfold IC
    rw [w2_s, w2_k (show (97 : Int) ≠ 146 by omega), w2_k (show (97 : Int) ≠ 161 by omega), w2_k (show (97 : Int) ≠ 160 by omega), w2_k (show (97 : Int) ≠ 159 by omega), w2_s]
    rw [show w2 (w2 (w2 (w2 (w2 (w2 (w2 (w2 (w2 s 98 (s 146 4) a1) 99 (s 146 4) a2) 100 (s 146 4) a3) (102 + a2) a3 (s (102 + a2) a3 + 1)) 97 3 (s 146 4 + 1)) 159 (s 146 4) a1) 160 (s 146 4) a2) 161 (s 146 4) a3) 146 4 (s 146 4 + 1) 159 = (fun i => if i = s 146 4 then a1 else s 159 i) by
      funext i; rw [w2_k (by omega), w2_k (by omega), w2_k (by omega), w2_e, w2_k (by omega), w2_k (by omega), w2_k (by omega), w2_k (by omega), w2_k (by omega)]]
    rw [show w2 (w2 (w2 (w2 (w2 (w2 (w2 (w2 (w2 s 98 (s 146 4) a1) 99 (s 146 4) a2) 100 (s 146 4) a3) (102 + a2) a3 (s (102 + a2) a3 + 1)) 97 3 (s 146 4 + 1)) 159 (s 146 4) a1) 160 (s 146 4) a2) 161 (s 146 4) a3) 146 4 (s 146 4 + 1) 160 = (fun i => if i = s 146 4 then a2 else s 160 i) by
      funext i; rw [w2_k (by omega), w2_k (by omega), w2_e, w2_k (by omega), w2_k (by omega), w2_k (by omega), w2_k (by omega), w2_k (by omega), w2_k (by omega)]]
    rw [show w2 (w2 (w2 (w2 (w2 (w2 (w2 (w2 (w2 s 98 (s 146 4) a1) 99 (s 146 4) a2) 100 (s 146 4) a3) (102 + a2) a3 (s (102 + a2) a3 + 1)) 97 3 (s 146 4 + 1)) 159 (s 146 4) a1) 160 (s 146 4) a2) 161 (s 146 4) a3) 146 4 (s 146 4 + 1) 161 = (fun i => if i = s 146 4 then a3 else s 161 i) by
      funext i; rw [w2_k (by omega), w2_e, w2_k (by omega), w2_k (by omega), w2_k (by omega), w2_k (by omega), w2_k (by omega), w2_k (by omega), w2_k (by omega)]]
    rw [show w2 (w2 (w2 (w2 (w2 (w2 (w2 (w2 (w2 s 98 (s 146 4) a1) 99 (s 146 4) a2) 100 (s 146 4) a3) (102 + a2) a3 (s (102 + a2) a3 + 1)) 97 3 (s 146 4 + 1)) 159 (s 146 4) a1) 160 (s 146 4) a2) 161 (s 146 4) a3) 146 4 (s 146 4 + 1) 98 = (fun i => if i = s 146 4 then a1 else s 98 i) by
      rw [w2_k (by omega), w2_k (by omega), w2_k (by omega), w2_k (by omega), w2_k (by omega), r98]]
    rw [show w2 (w2 (w2 (w2 (w2 (w2 (w2 (w2 (w2 s 98 (s 146 4) a1) 99 (s 146 4) a2) 100 (s 146 4) a3) (102 + a2) a3 (s (102 + a2) a3 + 1)) 97 3 (s 146 4 + 1)) 159 (s 146 4) a1) 160 (s 146 4) a2) 161 (s 146 4) a3) 146 4 (s 146 4 + 1) 99 = (fun i => if i = s 146 4 then a2 else s 99 i) by
      rw [w2_k (by omega), w2_k (by omega), w2_k (by omega), w2_k (by omega), w2_k (by omega), r99]]
    rw [show w2 (w2 (w2 (w2 (w2 (w2 (w2 (w2 (w2 s 98 (s 146 4) a1) 99 (s 146 4) a2) 100 (s 146 4) a3) (102 + a2) a3 (s (102 + a2) a3 + 1)) 97 3 (s 146 4 + 1)) 159 (s 146 4) a1) 160 (s 146 4) a2) 161 (s 146 4) a3) 146 4 (s 146 4 + 1) 100 = (fun i => if i = s 146 4 then a3 else s 100 i) by
      rw [w2_k (by omega), w2_k (by omega), w2_k (by omega), w2_k (by omega), w2_k (by omega), r100]]
    rw [k6 2 (by omega)]
    refine ⟨rfl, by omega, ⟨fun i p q => ?_, fun i p q => ?_, fun i p q => ?_⟩, ⟨fun i p q => ?_, fun i p q => ?_, fun i p q => ?_⟩, fun i p q => ?_, fun a b p q p2 q2 => ?_⟩
    all_goals try dsimp only
    · by_cases e : i = s 146 4
      · rw [if_pos e, if_pos e]
      · rw [if_neg e, if_neg e]; exact i3.1 i p (by omega)
    · by_cases e : i = s 146 4
      · rw [if_pos e, if_pos e]
      · rw [if_neg e, if_neg e]; exact i3.2.1 i p (by omega)
    · by_cases e : i = s 146 4
      · rw [if_pos e, if_pos e]
      · rw [if_neg e, if_neg e]; exact i3.2.2 i p (by omega)
    · by_cases e : i = s 146 4
      · rw [if_pos e]; have := hw.2.1; omega
      · rw [if_neg e]; exact i4.1 i p (by omega)
    · by_cases e : i = s 146 4
      · rw [if_pos e]; omega
      · rw [if_neg e]; exact i4.2.1 i p (by omega)
    · by_cases e : i = s 146 4
      · rw [if_pos e]; omega
      · rw [if_neg e]; exact i4.2.2 i p (by omega)
    · by_cases e : i = s 146 4
      · rw [if_pos e, if_pos e]; exact c4
      · rw [if_neg e, if_neg e]; exact i5 i p (by omega)
    · rw [w2_k (by omega), w2_k (by omega), w2_k (by omega), w2_k (by omega), w2_k (by omega), rov a b p, sg_s (by omega)]
      rw [jbo_cg (q := a2 = a ∧ a3 = b) (by rw [if_pos rfl, if_pos rfl])]
      rw [sg_c (g := fun k => jbo (s 160 k = a ∧ s 161 k = b)) (fun i p q => jbo_cg (by rw [if_neg (by omega), if_neg (by omega)])), ← i6 a b p q p2 q2]
      by_cases e : a = a2 ∧ b = a3
      · obtain ⟨rfl, rfl⟩ := e
        rw [if_pos ⟨rfl, rfl⟩, jbo_t ⟨rfl, rfl⟩]
      · rw [if_neg e, jbo_f (fun q => e ⟨q.1.symm, q.2.symm⟩)]; omega
theorem op_kin {S0 : Int → Int} {s : Int → Int → Int} (hI : Inv S0 s) (a1 a2 : Int) (h1 : jr32 a1) (h2 : jr32 a2) : jop mX10_kin mX11_kin [jI a1, jI a2] S0 s := by
  have hb := hI.2.2.2.2.1
  have hc := sp_X10_kin s a1 a2 h1 h2
  have hc := kg3.cv hc (full' := False) (n' := s 163 a1) (new' := w2 s 121 a1 a2) (fun _ => Iff.rfl) (fun c => hb.1 a1 c.1.1 (by omega)) (fun _ => rfl)
  refine jop.g3 (new' := fun s1 => w2 s1 163 a1 a2) hI (fun _ => by funext i; simp [w2]) (by decide) (fun c _ => by have := hb.2 a1 c.1.1 (by omega); unfold jr32; omega) hc (fun s1 h => ?_) (fun c d => ?_)
  · have hk : s1 163 = s 163 := by
      rcases h with rfl | ⟨_, _, rfl⟩
      · rfl
      · rw [w2_k (by omega)]
    have hm := sp_X11_kin s1 a1 a2 h1 h2
    rw [hk] at hm
    exact hm
  · have k : ∀ k, k ≠ 121 → k ≠ 163 → w2 (w2 s 121 a1 a2) 163 a1 a2 k = s k := fun k p q => by rw [w2_k q, w2_k p]
    obtain ⟨h0, ha, hb', hc, hd, he, hf, hg⟩ := hI
    refine ⟨(k 0 (by omega) (by omega)).trans h0, IA.k ha (fun i _ _ => by rw [k 2 (by omega) (by omega)]) (fun a p q => k a (by omega) (by omega)) (fun a p q => k _ (by omega) (by omega)) (fun i _ _ => by rw [k 146 (by omega) (by omega)]) (fun a p q => k a (by omega) (by omega)),
      hb'.k (k _ (by omega) (by omega)) (k _ (by omega) (by omega)),
      hc.k (by rw [k 97 (by omega) (by omega)]) (by rw [k 146 (by omega) (by omega)]) (by rw [k 146 (by omega) (by omega)]; omega) (k _ (by omega) (by omega)) (k _ (by omega) (by omega)) (k _ (by omega) (by omega)) (k _ (by omega) (by omega)) (k _ (by omega) (by omega)) (k _ (by omega) (by omega)) (fun a a1 a2 => k _ (by omega) (by omega)),
      ⟨fun i p q => ?_, fun i p q => ?_⟩,
      he.k (by rw [k 124 (by omega) (by omega)]) (by rw [k 146 (by omega) (by omega)]) (k _ (by omega) (by omega)) (k _ (by omega) (by omega)) (k _ (by omega) (by omega)) (fun a a1 a2 => k _ (by omega) (by omega)),
      hf.k (by rw [k 139 (by omega) (by omega)]) (by rw [k 141 (by omega) (by omega)]) (k _ (by omega) (by omega)) (k _ (by omega) (by omega)) (k _ (by omega) (by omega)) (by rw [k 145 (by omega) (by omega)]) (by rw [k 145 (by omega) (by omega)]),
      hg.k (fun a a1 a2 => k _ (by omega) (by omega)) (fun a a1 a2 => k _ (by omega) (by omega))⟩
    · simp only [w2]
      by_cases e : i = a1
      · simp [e]
      · simp [e]; exact hd.1 i p q
    · simp only [w2]
      by_cases e : i = a1
      · simp [e]; exact c.2
      · simp [e]; exact hd.2 i p q
theorem op_question {S0 : Int → Int} {s : Int → Int → Int} (hI : Inv S0 s) (a1 a2 a3 a4 a5 : Int) (h1 : jr32 a1) (h2 : jr32 a2) (h3 : jr32 a3) (h4 : jr32 a4) (h5 : jr32 a5) : jop mX10_question mX11_question [jI a1, jI a2, jI a3, jI a4, jI a5] S0 s := by
  obtain ⟨i1, i2, ⟨i3, i3'⟩, i4⟩ := hI.2.2.2.2.2.1
  have hc := sp_X10_question s a1 a2 a3 a4 a5 h1 h2 h3 h4 h5 (by omega)
  rw [i1] at hc
  refine jop.g3 (new' := fun s1 => w2 (w2 (w2 (w2 (w2 (w2 s1 167 (s 146 5) a1) 168 (4 * s 146 5) a2) 168 (4 * s 146 5 + 1) a3) 168 (4 * s 146 5 + 2) a4) 168 (4 * s 146 5 + 3) a5) 146 5 (s 146 5 + 1)) hI (fun c => by rw [w2_k (by omega), w2_k (by omega), w2_k (by omega), w2_k (by omega), w2_k (by omega), w2_k (by omega)]) (by decide) (fun _ _ => by unfold jr32; omega) hc (fun s1 h => ?_) (fun c d => ?_)
  · have hk : ∀ k, 143 ≤ k → s1 k = s k := by
      rcases h with rfl | ⟨c, _, rfl⟩
      · intros; rfl
      · intro k hk; rw [w2_k (by omega), w2_k (by omega), w2_k (by omega), w2_k (by omega), w2_k (by omega), w2_k (by omega)]
    have hm := sp_X11_question s1 a1 a2 a3 a4 a5 h1 h2 h3 h4 h5 (by rw [hk 146 (by omega)]; exact i2)
    rw [hk 146 (by omega)] at hm
    exact hm
  · obtain ⟨c1, c2, c3, c4, c5⟩ := c
    generalize hx : w2 (w2 (w2 (w2 (w2 (w2 s 125 (s 146 5) a1) (127 + s 146 5) 0 a2) (127 + s 146 5) 1 a3) (127 + s 146 5) 2 a4) (127 + s 146 5) 3 a5) 124 3 (s 146 5 + 1) = x
    have xk : ∀ k, k ≠ 124 → k ≠ 125 → k ≠ 127 + s 146 5 → x k = s k := fun k p q r => by rw [← hx, w2_k p, w2_k r, w2_k r, w2_k r, w2_k r, w2_k q]
    have x124 : x 124 3 = s 146 5 + 1 := by rw [← hx, w2_s]
    have x125 : x 125 = fun i => if i = s 146 5 then a1 else s 125 i := by
      funext i
      rw [← hx, w2_k (by omega), w2_k (by omega), w2_k (by omega), w2_k (by omega), w2_k (by omega), w2_e]
    have x127 : ∀ q g, 0 ≤ q → q < 6 → 0 ≤ g → g < 4 → x (127 + q) g = if q = s 146 5 then (if g = 0 then a2 else if g = 1 then a3 else if g = 2 then a4 else a5) else s (127 + q) g := by
      intro q g h1 h2 h3 h4
      rw [← hx, w2_k (by omega)]
      by_cases e : q = s 146 5
      · rw [if_pos e, e, w2_e, w2_e, w2_e, w2_e, w2_k (by omega)]
        by_cases g0 : g = 0
        · subst g0; simp
        · by_cases g1 : g = 1
          · subst g1; simp
          · by_cases g2 : g = 2
            · subst g2; simp
            · rw [if_pos (show g = 3 by omega), if_neg g0, if_neg g1, if_neg g2]
      · rw [if_neg e, w2_k (by omega), w2_k (by omega), w2_k (by omega), w2_k (by omega), w2_k (by omega)]
    clear hx
    generalize hy : w2 (w2 (w2 (w2 (w2 (w2 x 167 (s 146 5) a1) 168 (4 * s 146 5) a2) 168 (4 * s 146 5 + 1) a3) 168 (4 * s 146 5 + 2) a4) 168 (4 * s 146 5 + 3) a5) 146 5 (s 146 5 + 1) = y
    have yk : ∀ k, k ≠ 146 → k ≠ 167 → k ≠ 168 → y k = x k := fun k p q r => by rw [← hy, w2_k p, w2_k r, w2_k r, w2_k r, w2_k r, w2_k q]
    have y146 : ∀ i, i ≠ 5 → y 146 i = x 146 i := fun i p => by rw [← hy, w2_i p, w2_k (by omega), w2_k (by omega), w2_k (by omega), w2_k (by omega), w2_k (by omega)]
    have y5 : y 146 5 = s 146 5 + 1 := by rw [← hy, w2_s]
    have y167 : y 167 = fun i => if i = s 146 5 then a1 else x 167 i := by
      funext i
      rw [← hy, w2_k (by omega), w2_k (by omega), w2_k (by omega), w2_k (by omega), w2_k (by omega), w2_e]
    have y168 : ∀ q g, 0 ≤ q → q < 6 → 0 ≤ g → g < 4 → y 168 (4 * q + g) = if q = s 146 5 then (if g = 0 then a2 else if g = 1 then a3 else if g = 2 then a4 else a5) else x 168 (4 * q + g) := by
      intro q g h1 h2 h3 h4
      rw [← hy, w2_k (by omega), w2_e, w2_e, w2_e, w2_e, w2_k (by omega)]
      by_cases e : q = s 146 5
      · rw [if_pos e, e]
        by_cases g0 : g = 0
        · subst g0; rw [if_neg (by omega), if_neg (by omega), if_neg (by omega), if_pos (by omega), if_pos rfl]
        · by_cases g1 : g = 1
          · subst g1; rw [if_neg (by omega), if_neg (by omega), if_pos (by omega), if_neg (by omega), if_pos rfl]
          · by_cases g2 : g = 2
            · subst g2; rw [if_neg (by omega), if_pos (by omega), if_neg (by omega), if_neg (by omega), if_pos rfl]
            · rw [if_pos (by omega), if_neg g0, if_neg g1, if_neg g2]
      · rw [if_neg e, if_neg (by omega), if_neg (by omega), if_neg (by omega), if_neg (by omega)]
    clear hy
    have k : ∀ k, k ≠ 124 → k ≠ 125 → k ≠ 127 + s 146 5 → k ≠ 146 → k ≠ 167 → k ≠ 168 → y k = s k := fun k p1 p2 p3 p4 p5 p6 => (yk k p4 p5 p6).trans (xk k p1 p2 p3)
    have k6 : ∀ i, i ≠ 5 → y 146 i = s 146 i := fun i p => by rw [y146 i p, xk 146 (by omega) (by omega) (by omega)]
    obtain ⟨h0, ha, hb, hc', hd, -, hf, hg⟩ := hI
    refine ⟨(k 0 (by omega) (by omega) (by omega) (by omega) (by omega) (by omega)).trans h0,
      IA.k ha (fun i _ _ => by rw [k 2 (by omega) (by omega) (by omega) (by omega) (by omega) (by omega)]) (fun a p q => k a (by omega) (by omega) (by omega) (by omega) (by omega) (by omega)) (fun a p q => k _ (by omega) (by omega) (by omega) (by omega) (by omega) (by omega)) (fun i _ _ => k6 i (by omega)) (fun a p q => k a (by omega) (by omega) (by omega) (by omega) (by omega) (by omega)),
      hb.k (k _ (by omega) (by omega) (by omega) (by omega) (by omega) (by omega)) (k _ (by omega) (by omega) (by omega) (by omega) (by omega) (by omega)),
      hc'.k (by rw [k 97 (by omega) (by omega) (by omega) (by omega) (by omega) (by omega)]) (k6 4 (by omega)) (by rw [k6 2 (by omega)]; omega) (k _ (by omega) (by omega) (by omega) (by omega) (by omega) (by omega)) (k _ (by omega) (by omega) (by omega) (by omega) (by omega) (by omega)) (k _ (by omega) (by omega) (by omega) (by omega) (by omega) (by omega)) (k _ (by omega) (by omega) (by omega) (by omega) (by omega) (by omega)) (k _ (by omega) (by omega) (by omega) (by omega) (by omega) (by omega)) (k _ (by omega) (by omega) (by omega) (by omega) (by omega) (by omega)) (fun a a1 a2 => k _ (by omega) (by omega) (by omega) (by omega) (by omega) (by omega)),
      hd.k (k _ (by omega) (by omega) (by omega) (by omega) (by omega) (by omega)) (k _ (by omega) (by omega) (by omega) (by omega) (by omega) (by omega)), ?_,
      hf.k (by rw [k 139 (by omega) (by omega) (by omega) (by omega) (by omega) (by omega)]) (by rw [k 141 (by omega) (by omega) (by omega) (by omega) (by omega) (by omega)]) (k _ (by omega) (by omega) (by omega) (by omega) (by omega) (by omega)) (k _ (by omega) (by omega) (by omega) (by omega) (by omega) (by omega)) (k _ (by omega) (by omega) (by omega) (by omega) (by omega) (by omega)) (by rw [k 145 (by omega) (by omega) (by omega) (by omega) (by omega) (by omega)]) (by rw [k 145 (by omega) (by omega) (by omega) (by omega) (by omega) (by omega)]),
      hg.k (fun a a1 a2 => k _ (by omega) (by omega) (by omega) (by omega) (by omega) (by omega)) (fun a a1 a2 => k _ (by omega) (by omega) (by omega) (by omega) (by omega) (by omega))⟩
    unfold IE
    rw [y5, yk 124 (by omega) (by omega) (by omega), x124, yk 125 (by omega) (by omega) (by omega), x125, y167, xk 167 (by omega) (by omega) (by omega)]
    refine ⟨rfl, by omega, ⟨fun i p q => ?_, fun i p q => ?_⟩, fun q g p q1 p2 q2 => ?_⟩
    · dsimp only
      by_cases e : i = s 146 5
      · rw [if_pos e, if_pos e]
      · rw [if_neg e, if_neg e]; exact i3 i p (by omega)
    · dsimp only
      by_cases e : i = s 146 5
      · rw [if_pos e]; exact c1
      · rw [if_neg e]; exact i3' i p (by omega)
    · rw [yk (127 + q) (by omega) (by omega) (by omega), x127 q g p (by omega) p2 q2, y168 q g p (by omega) p2 q2, xk 168 (by omega) (by omega) (by omega)]
      by_cases e : q = s 146 5
      · rw [if_pos e, if_pos e]
        refine ⟨rfl, ?_⟩
        by_cases g0 : g = 0
        · rw [if_pos g0]; exact c2
        · rw [if_neg g0]
          by_cases g1 : g = 1
          · rw [if_pos g1]; exact c3
          · rw [if_neg g1]
            by_cases g2 : g = 2
            · rw [if_pos g2]; exact c4
            · rw [if_neg g2]; exact c5
      · rw [if_neg e, if_neg e]; exact i4 q g p (by omega) p2 q2
theorem op_count {S0 : Int → Int} {s : Int → Int → Int} (hI : Inv S0 s) (a1 : Int) (h1 : jr32 a1) : jop mX10_count mX11_count [jI a1] S0 s := by
  have hw := hI.wm
  obtain ⟨⟨n0, n0'⟩, ⟨n1, n1'⟩, ⟨n2, n2'⟩, ⟨n3, n3'⟩, -⟩ := id hw
  have e := hI.2.1.2.1
  have i := hI.2.2.2.1
  have j := hI.2.2.2.2.2.1
  by_cases c : 0 ≤ a1 ∧ a1 ≤ 5
  · refine jop.q (y := s 146 a1) hI ?_ (g_X10_count ⟨h1, ?_, ?_, ?_, ?_, ?_, ?_, fun q => by omega⟩) (g_X11_count ⟨h1, j3264 h1, fun q => absurd c q, fun q => ⟨by omega, rfl, rfl⟩⟩)
    · have : a1 = 0 ∨ a1 = 1 ∨ a1 = 2 ∨ a1 = 3 ∨ a1 = 4 ∨ a1 = 5 := by omega
      have i2 := i.2.1
      have j2 := j.2.1
      unfold jr32
      rcases this with rfl | rfl | rfl | rfl | rfl | rfl <;> omega
    · rintro rfl; exact ⟨by rw [e.1], rfl⟩
    · rintro rfl; exact ⟨by rw [e.2.1], rfl⟩
    · rintro rfl; exact ⟨by rw [e.2.2.1], rfl⟩
    · rintro rfl; exact ⟨by rw [e.2.2.2], rfl⟩
    · rintro rfl; exact ⟨by rw [i.1], rfl⟩
    · rintro rfl; exact ⟨by rw [j.1], rfl⟩
  · exact jop.q (y := -2) hI (by decide) (g_X10_count ⟨h1, fun q => by omega, fun q => by omega, fun q => by omega, fun q => by omega, fun q => by omega, fun q => by omega, fun q => ⟨rfl, rfl⟩⟩) (g_X11_count ⟨h1, j3264 h1, fun q => ⟨rfl, rfl⟩, fun q => absurd q c⟩)
theorem op_sign {S0 : Int → Int} {s : Int → Int → Int} (hI : Inv S0 s) (a1 : Int) (h1 : jr32 a1) : jop mX10_sign mX11_sign [jI a1] S0 s := by
  obtain ⟨⟨e1, b1⟩, ⟨e2, b2⟩, -⟩ := hI.2.2.2.2.2.2.1
  by_cases c0 : a1 = 0
  · subst c0
    refine jop.q (y := jbo (¬ s 145 0 = 0)) hI (by have := jbo_01' (¬ s 145 0 = 0); unfold jr32; omega) (g_X10_sign ⟨h1, fun _ => ⟨fun q => absurd rfl q, fun _ => ⟨by rw [e1]; unfold jr32; omega, fun q => ⟨jbf1 (by omega), rfl⟩, fun q => ⟨jbf0 (by omega), rfl⟩⟩⟩, fun q => by omega⟩) (g_X11_sign ⟨h1, fun q => absurd rfl q, fun _ => ⟨by unfold jr32; omega, fun q => ⟨jbf0 (by omega), rfl⟩, fun q => ⟨jbf1 (by omega), rfl⟩⟩⟩)
  · by_cases c1 : a1 = 1
    · subst c1
      exact jop.q (y := s 145 0) hI (by unfold jr32; omega) (g_X10_sign ⟨h1, fun _ => ⟨fun _ => ⟨fun q => absurd rfl q, fun _ => ⟨by rw [e1], rfl⟩⟩, fun q => by omega⟩, fun q => by omega⟩) (g_X11_sign ⟨h1, fun q => ⟨fun q => absurd rfl q, fun _ => ⟨rfl, rfl⟩⟩, fun q => by omega⟩)
    · by_cases c2 : a1 = 2
      · subst c2
        exact jop.q (y := s 145 1) hI (by unfold jr32; omega) (g_X10_sign ⟨h1, fun _ => ⟨fun _ => ⟨fun _ => ⟨by rw [e2], rfl⟩, fun q => by omega⟩, fun q => by omega⟩, fun q => by omega⟩) (g_X11_sign ⟨h1, fun q => ⟨fun _ => ⟨fun q => absurd rfl q, fun _ => ⟨rfl, rfl⟩⟩, fun q => by omega⟩, fun q => by omega⟩)
      · exact jop.q (y := -2) hI (by decide) (g_X10_sign ⟨h1, fun q => by omega, fun _ => ⟨rfl, rfl⟩⟩) (g_X11_sign ⟨h1, fun q => ⟨fun _ => ⟨fun _ => ⟨rfl, rfl⟩, fun q => by omega⟩, fun q => by omega⟩, fun q => by omega⟩)
theorem op_limb {S0 : Int → Int} {s : Int → Int → Int} (hI : Inv S0 s) (a1 a2 : Int) (h1 : jr32 a1) (h2 : jr32 a2) : jop mX10_limb mX11_limb [jI a1, jI a2] S0 s := by
  obtain ⟨⟨e1, b1⟩, ⟨e2, b2⟩, f1, f2, g1, g2⟩ := hI.2.2.2.2.2.2.1
  by_cases c : (0 ≤ a1 ∧ a1 ≤ 1) ∧ 0 ≤ a2
  · obtain ⟨c1, c2⟩ := c
    by_cases c0 : a1 = 0
    · subst c0
      by_cases hk : s 145 0 ≤ a2
      · exact jop.q (y := -1) hI (by decide) (g_X10_limb ⟨h1, fun q => absurd c1 q, fun _ => ⟨h2, fun _ => ⟨fun q => absurd rfl q, fun _ => ⟨by rw [e1]; unfold jr32; omega, fun _ => ⟨rfl, rfl⟩, fun q => by omega⟩⟩, fun q => absurd c2 q⟩⟩) (g_X11_limb ⟨h1, j3264 h1, fun q => absurd c1 q, fun _ => ⟨h2, fun _ => ⟨by omega, by unfold jr32; omega, fun _ => ⟨rfl, rfl⟩, fun q => absurd hk q⟩, fun q => absurd c2 q⟩⟩)
      · have w := g1 a2 c2 (by omega)
        exact jop.q (y := s 144 a2) hI (by unfold jr32; omega) (g_X10_limb ⟨h1, fun q => absurd c1 q, fun _ => ⟨h2, fun _ => ⟨fun q => absurd rfl q, fun _ => ⟨by rw [e1]; unfold jr32; omega, fun q => by omega, fun q => ⟨by omega, by rw [f1 a2 c2 (by omega)], rfl⟩⟩⟩, fun q => absurd c2 q⟩⟩) (g_X11_limb ⟨h1, j3264 h1, fun q => absurd c1 q, fun _ => ⟨h2, fun _ => ⟨by omega, by unfold jr32; omega, fun q => absurd q hk, fun q => ⟨by omega, by rw [show (50 * 0 + a2 : Int) = a2 by omega], rfl⟩⟩, fun q => absurd c2 q⟩⟩)
    · have c3 : a1 = 1 := by omega
      subst c3
      by_cases hk : s 145 1 ≤ a2
      · exact jop.q (y := -1) hI (by decide) (g_X10_limb ⟨h1, fun q => absurd c1 q, fun _ => ⟨h2, fun _ => ⟨fun _ => ⟨by rw [e2]; unfold jr32; omega, fun _ => ⟨rfl, rfl⟩, fun q => by omega⟩, fun q => by omega⟩, fun q => absurd c2 q⟩⟩) (g_X11_limb ⟨h1, j3264 h1, fun q => absurd c1 q, fun _ => ⟨h2, fun _ => ⟨by omega, by unfold jr32; omega, fun _ => ⟨rfl, rfl⟩, fun q => absurd hk q⟩, fun q => absurd c2 q⟩⟩)
      · have w : 0 ≤ s 144 (50 + a2) ∧ s 144 (50 + a2) ≤ 1073741823 := g2 a2 c2 (by omega)
        exact jop.q (y := s 144 (50 + a2)) hI (by unfold jr32; omega) (g_X10_limb ⟨h1, fun q => absurd c1 q, fun _ => ⟨h2, fun _ => ⟨fun _ => ⟨by rw [e2]; unfold jr32; omega, fun q => by omega, fun q => ⟨by omega, by rw [f2 a2 c2 (by omega)], rfl⟩⟩, fun q => by omega⟩, fun q => absurd c2 q⟩⟩) (g_X11_limb ⟨h1, j3264 h1, fun q => absurd c1 q, fun _ => ⟨h2, fun _ => ⟨by omega, by unfold jr32; omega, fun q => absurd q hk, fun q => ⟨by omega, by rw [show (50 * 1 + a2 : Int) = 50 + a2 by omega], rfl⟩⟩, fun q => absurd c2 q⟩⟩)
  · exact jop.q (y := -2) hI (by decide) (g_X10_limb ⟨h1, fun q => ⟨rfl, rfl⟩, fun q => ⟨h2, fun q2 => absurd ⟨q, q2⟩ c, fun _ => ⟨rfl, rfl⟩⟩⟩) (g_X11_limb ⟨h1, j3264 h1, fun q => ⟨rfl, rfl⟩, fun q => ⟨h2, fun q2 => absurd ⟨q, q2⟩ c, fun _ => ⟨rfl, rfl⟩⟩⟩)
