theorem Inv.ia {S0 : Int → Int} {s s' : Int → Int → Int} (h : Inv S0 s) (ha : WM s' ∧ IAq s') (e2 : s 146 2 ≤ s' 146 2) (e4 : s' 146 4 = s 146 4) (e5 : s' 146 5 = s 146 5) (k : ∀ k, k = 0 ∨ (43 ≤ k ∧ k ≤ 145) ∨ 157 ≤ k → s' k = s k) : Inv S0 s' := by
  obtain ⟨h0, -, hb, hc, hd, he, hf, hg⟩ := h
  exact ⟨(k 0 (by omega)).trans h0, ha, hb.k (k _ (by omega)) (k _ (by omega)),
    hc.k (by rw [k 97 (by omega)]) e4 e2 (k _ (by omega)) (k _ (by omega)) (k _ (by omega)) (k _ (by omega)) (k _ (by omega)) (k _ (by omega)) (fun a a1 a2 => k _ (by omega)),
    hd.k (k _ (by omega)) (k _ (by omega)),
    he.k (by rw [k 124 (by omega)]) e5 (k _ (by omega)) (k _ (by omega)) (k _ (by omega)) (fun a a1 a2 => k _ (by omega)),
    hf.k (by rw [k 139 (by omega)]) (by rw [k 141 (by omega)]) (k _ (by omega)) (k _ (by omega)) (k _ (by omega)) (by rw [k 145 (by omega)]) (by rw [k 145 (by omega)]),
    hg.k (fun a a1 a2 => k _ (by omega)) (fun a a1 a2 => k _ (by omega))⟩
theorem jg3.cv {ok full full' : Prop} {bad n n' : Int} {s new new' s' : Int → Int → Int} {y : Int} (h : jg3 ok full bad n s new y s') (hf : ok → (full ↔ full')) (hn : ok → n = n') (hw : ok → new = new') : jg3 ok full' bad n' s new' y s' := by
  rcases h with h | ⟨c, d, h⟩ | ⟨c, d, h⟩
  · exact Or.inl h
  · exact Or.inr (Or.inl ⟨c, (hf c).1 d, h⟩)
  · exact Or.inr (Or.inr ⟨c, fun q => d ((hf c).2 q), hn c ▸ hw c ▸ h⟩)
theorem kg3.cv {m : jM} {As : List jV} {ok full full' : Prop} {bad n n' : Int} {s s0 new new' : Int → Int → Int} (h : kR m As s0 (fun r s' => ∃ y, r = some (jI y) ∧ jg3 ok full bad n s new y s')) (hf : ok → (full ↔ full')) (hn : ok → n = n') (hw : ok → new = new') : kR m As s0 (fun r s' => ∃ y, r = some (jI y) ∧ jg3 ok full' bad n' s new' y s') :=
  kK.mono h (fun r s1 q => by obtain ⟨y, rfl, q⟩ := q; exact ⟨y, rfl, q.cv hf hn hw⟩)
theorem op_word {S0 : Int → Int} {s : Int → Int → Int} (hI : Inv S0 s) (a1 a2 : Int) (h1 : jr32 a1) (h2 : jr32 a2) : jop mX10_word mX11_word [jI a1, jI a2] S0 s := by
  have hw := hI.wm
  have hc := sp_X10_word s a1 a2 h1 h2 hI.wc
  rw [hI.2.1.2.1.1] at hc
  refine jop.g3 (new' := fun s1 => w2 (w2 (w2 s1 147 (s 146 0) a1) 148 (s 146 0) a2) 146 0 (s 146 0 + 1)) hI (fun _ => by funext i; simp [w2]) (by decide) (fun _ _ => by have := hw.1; unfold jr32; omega) hc (fun s1 h => ?_) (fun c d => ?_)
  · have hk : ∀ k, 143 ≤ k → s1 k = s k := by
      rcases h with rfl | ⟨_, _, rfl⟩
      · intros; rfl
      · intro k hk; rw [w2_k (by omega), w2_k (by omega), w2_k (by omega)]
    have hm := sp_X11_word s1 a1 a2 h1 h2 (hw.k (fun k a b => hk k (by omega)))
    rw [hk 146 (by omega)] at hm
    exact hm
  · refine hI.ia (IA_word hI.2.1 (by omega) c.1 c.2 (by simp [w2]) (by simp [w2]) (by simp [w2]) (by simp [w2]) (by funext i; simp [w2]) (by funext i; simp [w2]) (fun a p q => ?_) (by simp [w2]) (by simp [w2]) (by simp [w2]) (by simp [w2]) (by funext i; simp [w2]) (by funext i; simp [w2]) (fun a p q => ?_)) (by simp [w2]) (by simp [w2]) (by simp [w2]) (fun k hk => ?_)
    · rw [w2_k (by omega), w2_k (by omega), w2_k (by omega), w2_k (by omega), w2_k (by omega), w2_k (by omega)]
    · rw [w2_k (by omega), w2_k (by omega), w2_k (by omega), w2_k (by omega), w2_k (by omega), w2_k (by omega)]
    · rw [w2_k (by omega), w2_k (by omega), w2_k (by omega), w2_k (by omega), w2_k (by omega), w2_k (by omega)]
theorem op_hand {S0 : Int → Int} {s : Int → Int → Int} (hI : Inv S0 s) (a1 : Int) (h1 : jr32 a1) : jop mX10_hand mX11_hand [jI a1] S0 s := by
  have hw := hI.wm
  have hc := sp_X10_hand s a1 h1 hI.wc
  rw [hI.2.1.2.1.2.1] at hc
  refine jop.g3 (new' := fun s1 => w2 (w2 s1 149 (s 146 1) a1) 146 1 (s 146 1 + 1)) hI (fun _ => by funext i; simp [w2]) (by decide) (fun _ _ => by have := hw.2.1; unfold jr32; omega) hc (fun s1 h => ?_) (fun c d => ?_)
  · have hk : ∀ k, 143 ≤ k → s1 k = s k := by
      rcases h with rfl | ⟨_, _, rfl⟩
      · intros; rfl
      · intro k hk; rw [w2_k (by omega), w2_k (by omega)]
    have hm := sp_X11_hand s1 a1 h1 (hw.k (fun k a b => hk k (by omega)))
    rw [hk 146 (by omega)] at hm
    exact hm
  · refine hI.ia (IA_hand hI.2.1 (by omega) c (by simp [w2]) (by simp [w2]) (by simp [w2]) (by simp [w2]) (by funext i; simp [w2]) (fun a p q r => ?_) (by simp [w2]) (by simp [w2]) (by simp [w2]) (by simp [w2]) (by funext i; simp [w2]) (fun a p q r => ?_)) (by simp [w2]) (by simp [w2]) (by simp [w2]) (fun k hk => ?_)
    · rw [w2_k (by omega), w2_k (by omega), w2_k (by omega), w2_k (by omega)]
    · rw [w2_k (by omega), w2_k (by omega), w2_k (by omega), w2_k (by omega)]
    · rw [w2_k (by omega), w2_k (by omega), w2_k (by omega), w2_k (by omega)]
theorem op_pupil {S0 : Int → Int} {s : Int → Int → Int} (hI : Inv S0 s) (a1 a2 : Int) (h1 : jr32 a1) (h2 : jr32 a2) : jop mX10_pupil mX11_pupil [jI a1, jI a2] S0 s := by
  have hw := hI.wm
  have hc := sp_X10_pupil s a1 a2 h1 h2 hI.wc
  rw [hI.2.1.2.1.2.2.1] at hc
  refine jop.g3 (new' := fun s1 => w2 (w2 (w2 s1 150 (s 146 2) a1) 151 (s 146 2) a2) 146 2 (s 146 2 + 1)) hI (fun _ => by funext i; simp [w2]) (by decide) (fun _ _ => by have := hw.2.2.1; unfold jr32; omega) hc (fun s1 h => ?_) (fun c d => ?_)
  · have hk : ∀ k, 143 ≤ k → s1 k = s k := by
      rcases h with rfl | ⟨_, _, rfl⟩
      · intros; rfl
      · intro k hk; rw [w2_k (by omega), w2_k (by omega), w2_k (by omega)]
    have hm := sp_X11_pupil s1 a1 a2 h1 h2 (hw.k (fun k a b => hk k (by omega)))
    rw [hk 146 (by omega)] at hm
    exact hm
  · refine hI.ia (IA_pupil hI.2.1 (by omega) c.1 c.2 (by simp [w2]) (by simp [w2]) (by simp [w2]) (by simp [w2]) (by funext i; simp [w2]) (by funext i; simp [w2]) (fun a p q r t => ?_) (by simp [w2]) (by simp [w2]) (by simp [w2]) (by simp [w2]) (by funext i; simp [w2]) (by funext i; simp [w2]) (fun a p q r t => ?_)) (by simp [w2]; omega) (by simp [w2]) (by simp [w2]) (fun k hk => ?_)
    · rw [w2_k (by omega), w2_k (by omega), w2_k (by omega), w2_k (by omega), w2_k (by omega), w2_k (by omega)]
    · rw [w2_k (by omega), w2_k (by omega), w2_k (by omega), w2_k (by omega), w2_k (by omega), w2_k (by omega)]
    · rw [w2_k (by omega), w2_k (by omega), w2_k (by omega), w2_k (by omega), w2_k (by omega), w2_k (by omega)]
theorem op_became {S0 : Int → Int} {s : Int → Int → Int} (hI : Inv S0 s) (a1 a2 : Int) (h1 : jr32 a1) (h2 : jr32 a2) : jop mX10_became mX11_became [jI a1, jI a2] S0 s := by
  have hw := hI.wm
  have hc := sp_X10_became s a1 a2 h1 h2 hI.wc
  rw [hI.2.1.2.1.2.2.1] at hc
  have e7 := hI.2.1.2.2.2.2.1.2
  have hc := kg3.cv hc (full' := False) (n' := s 151 a1) (new' := w2 s 7 a1 a2) (fun _ => Iff.rfl) (fun c => e7 a1 c.1.1 (by omega)) (fun _ => rfl)
  obtain ⟨-, -, -, -, -, -, -, -, b5, -⟩ := id hw
  refine jop.g3 (new' := fun s1 => w2 s1 151 a1 a2) hI (fun _ => by funext i; simp [w2]) (by decide) (fun c _ => by have := b5 a1 c.1.1 (by omega); unfold jr32; omega) hc (fun s1 h => ?_) (fun c d => ?_)
  · have hk : ∀ k, 143 ≤ k → s1 k = s k := by
      rcases h with rfl | ⟨_, _, rfl⟩
      · intros; rfl
      · intro k hk; rw [w2_k (by omega)]
    have hm := sp_X11_became s1 a1 a2 h1 h2 (hw.k (fun k a b => hk k (by omega)))
    rw [hk 146 (by omega), hk 151 (by omega)] at hm
    exact hm
  · refine hI.ia (IA_became hI.2.1 c.1 c.2 (fun i p q => by rw [w2_k (by omega), w2_k (by omega)]) (by funext i; simp [w2]) (fun a p q r => by rw [w2_k (by omega), w2_k (by omega)]) (by funext i; simp [w2]) (fun a p q r => by rw [w2_k (by omega), w2_k (by omega)])) (by simp [w2]) (by simp [w2]) (by simp [w2]) (fun k hk => by rw [w2_k (by omega), w2_k (by omega)])
theorem op_letter {S0 : Int → Int} {s : Int → Int → Int} (hI : Inv S0 s) (a1 a2 a3 : Int) (h1 : jr32 a1) (h2 : jr32 a2) (h3 : jr32 a3) : jop mX10_letter mX11_letter [jI a1, jI a2, jI a3] S0 s := by
  have hw := hI.wm
  have hc := sp_X10_letter s a1 a2 a3 h1 h2 h3 hI.wc
  rw [hI.2.1.2.1.2.1, hI.2.1.2.1.2.2.1, hI.2.1.2.1.2.2.2] at hc
  refine jop.g3 (new' := fun s1 => w2 (w2 (w2 (w2 (w2 s1 152 (s 146 3) a1) 153 (s 146 3) a2) 154 (s 146 3) a3) 155 (s 146 3) 0) 146 3 (s 146 3 + 1)) hI (fun _ => by funext i; simp [w2]) (by decide) (fun _ _ => by have := hw.2.2.2.1; unfold jr32; omega) hc (fun s1 h => ?_) (fun c d => ?_)
  · have hk : ∀ k, 143 ≤ k → s1 k = s k := by
      rcases h with rfl | ⟨_, _, rfl⟩
      · intros; rfl
      · intro k hk; rw [w2_k (by omega), w2_k (by omega), w2_k (by omega), w2_k (by omega)]
    have hm := sp_X11_letter s1 a1 a2 a3 h1 h2 h3 (hw.k (fun k a b => hk k (by omega)))
    rw [hk 146 (by omega)] at hm
    exact hm
  · refine hI.ia (IA_letter hI.2.1 (by omega) c.1 c.2.1 c.2.2 (by simp [w2]) (by simp [w2]) (by simp [w2]) (by simp [w2]) (by funext i; simp [w2]) (by funext i; simp [w2]) (by funext i; simp [w2]) (fun a p q r t u => ?_) (by simp [w2]) (by simp [w2]) (by simp [w2]) (by simp [w2]) (by funext i; simp [w2]) (by funext i; simp [w2]) (by funext i; simp [w2]) (by funext i; simp [w2]) (fun a p q r => ?_)) (by simp [w2]) (by simp [w2]) (by simp [w2]) (fun k hk => ?_)
    · rw [w2_k (by omega), w2_k (by omega), w2_k (by omega), w2_k (by omega), w2_k (by omega), w2_k (by omega), w2_k (by omega), w2_k (by omega), w2_k (by omega)]
    · rw [w2_k (by omega), w2_k (by omega), w2_k (by omega), w2_k (by omega), w2_k (by omega), w2_k (by omega), w2_k (by omega), w2_k (by omega), w2_k (by omega)]
    · rw [w2_k (by omega), w2_k (by omega), w2_k (by omega), w2_k (by omega), w2_k (by omega), w2_k (by omega), w2_k (by omega), w2_k (by omega), w2_k (by omega)]
theorem op_write {S0 : Int → Int} {s : Int → Int → Int} (hI : Inv S0 s) (a1 a2 : Int) (h1 : jr32 a1) (h2 : jr32 a2) : jop mX10_write mX11_write [jI a1, jI a2] S0 s := by
  have hw := hI.wm
  have hc := sp_X10_write s a1 a2 h1 h2 hI.wc
  rw [hI.2.1.2.1.1, hI.2.1.2.1.2.2.2] at hc
  have e11 := hI.2.1.2.2.2.2.2.1.2.2.2
  have hc := kg3.cv hc (full' := 8 ≤ s 155 a1) (n' := s 155 a1 + 1) (new' := w2 (w2 s (13 + a1) (s 155 a1) a2) 11 a1 (s 155 a1 + 1)) (fun c => by rw [e11 a1 c.1.1 (by omega)]) (fun c => by rw [e11 a1 c.1.1 (by omega)]) (fun c => by rw [e11 a1 c.1.1 (by omega)])
  obtain ⟨-, -, -, n3, -, -, -, -, -, -, -, -, b9, -⟩ := id hw
  refine jop.g3 (new' := fun s1 => w2 (w2 s1 156 (8 * a1 + s 155 a1) a2) 155 a1 (s 155 a1 + 1)) hI (fun c => by rw [w2_k (by omega), w2_k (by omega)]) (by decide) (fun c _ => by have := b9 a1 c.1.1 (by omega); unfold jr32; omega) hc (fun s1 h => ?_) (fun c d => ?_)
  · have hk : ∀ k, 143 ≤ k → s1 k = s k := by
      rcases h with rfl | ⟨c, _, rfl⟩
      · intros; rfl
      · intro k hk; rw [w2_k (by omega), w2_k (by omega)]
    have hm := sp_X11_write s1 a1 a2 h1 h2 (hw.k (fun k a b => hk k (by omega)))
    rw [hk 146 (by omega), hk 155 (by omega)] at hm
    exact hm
  · obtain ⟨⟨c1, c2⟩, c3⟩ := c
    refine hI.ia (IA_write hI.2.1 ⟨c1, c2⟩ c3 (by omega) (fun i p q => ?_) (fun a p q => ?_) ?_ (fun l p hl hl2 => ?_) (fun a p q => ?_) ?_ ?_) ?_ ?_ ?_ (fun k hk => ?_)
    · rw [w2_k (by omega), w2_k (by omega), w2_k (by omega), w2_k (by omega)]
    · rw [w2_k (by omega), w2_k (by omega), w2_k (by omega), w2_k (by omega)]
    · rw [w2_k (by omega), w2_k (by omega)]
      funext i
      rw [w2_e, w2_k (by omega)]
    · rw [w2_k (by omega), w2_k (by omega), w2_k (by omega)]
      by_cases e : l = a1
      · subst e
        rw [w2_e]
        by_cases e2 : p = s 155 l
        · rw [if_pos e2, if_pos ⟨rfl, e2⟩]
        · rw [if_neg e2, if_neg (fun q => e2 q.2)]
      · rw [w2_k (by omega), if_neg (fun q => e q.1)]
    · rw [w2_k (by omega), w2_k (by omega), w2_k (by omega), w2_k (by omega)]
    · funext i
      rw [w2_e, w2_k (by omega), w2_k (by omega), w2_k (by omega)]
    · rw [w2_k (by omega)]
      funext i
      rw [w2_e, w2_k (by omega), w2_k (by omega)]
    · rw [w2_k (by omega), w2_k (by omega), w2_k (by omega), w2_k (by omega)]; omega
    · rw [w2_k (by omega), w2_k (by omega), w2_k (by omega), w2_k (by omega)]
    · rw [w2_k (by omega), w2_k (by omega), w2_k (by omega), w2_k (by omega)]
    · rw [w2_k (by omega), w2_k (by omega), w2_k (by omega), w2_k (by omega)]
theorem op_weight {S0 : Int → Int} {s : Int → Int → Int} (hI : Inv S0 s) (a1 a2 : Int) (h1 : jr32 a1) (h2 : jr32 a2) : jop mX10_weight mX11_weight [jI a1, jI a2] S0 s := by
  have hb := hI.2.2.1
  have hc := sp_X10_weight s a1 a2 h1 h2
  have hc := kg3.cv hc (full' := False) (n' := s 157 a1) (new' := w2 s 70 a1 a2) (fun _ => Iff.rfl) (fun c => hb.1 a1 c.1.1 (by omega)) (fun _ => rfl)
  refine jop.g3 (new' := fun s1 => w2 s1 157 a1 a2) hI (fun _ => by funext i; simp [w2]) (by decide) (fun c _ => by have := hb.2 a1 c.1.1 (by omega); unfold jr32; omega) hc (fun s1 h => ?_) (fun c d => ?_)
  · have hk : s1 157 = s 157 := by
      rcases h with rfl | ⟨_, _, rfl⟩
      · rfl
      · rw [w2_k (by omega)]
    have hm := sp_X11_weight s1 a1 a2 h1 h2
    rw [hk] at hm
    exact hm
  · have k : ∀ k, k ≠ 70 → k ≠ 157 → w2 (w2 s 70 a1 a2) 157 a1 a2 k = s k := fun k p q => by rw [w2_k q, w2_k p]
    obtain ⟨h0, ha, -, hc, hd, he, hf, hg⟩ := hI
    refine ⟨(k 0 (by omega) (by omega)).trans h0, IA.k ha (fun i _ _ => by rw [k 2 (by omega) (by omega)]) (fun a p q => k a (by omega) (by omega)) (fun a p q => k _ (by omega) (by omega)) (fun i _ _ => by rw [k 146 (by omega) (by omega)]) (fun a p q => k a (by omega) (by omega)),
      ⟨fun i p q => ?_, fun i p q => ?_⟩,
      hc.k (by rw [k 97 (by omega) (by omega)]) (by rw [k 146 (by omega) (by omega)]) (by rw [k 146 (by omega) (by omega)]; omega) (k _ (by omega) (by omega)) (k _ (by omega) (by omega)) (k _ (by omega) (by omega)) (k _ (by omega) (by omega)) (k _ (by omega) (by omega)) (k _ (by omega) (by omega)) (fun a a1 a2 => k _ (by omega) (by omega)),
      hd.k (k _ (by omega) (by omega)) (k _ (by omega) (by omega)),
      he.k (by rw [k 124 (by omega) (by omega)]) (by rw [k 146 (by omega) (by omega)]) (k _ (by omega) (by omega)) (k _ (by omega) (by omega)) (k _ (by omega) (by omega)) (fun a a1 a2 => k _ (by omega) (by omega)),
      hf.k (by rw [k 139 (by omega) (by omega)]) (by rw [k 141 (by omega) (by omega)]) (k _ (by omega) (by omega)) (k _ (by omega) (by omega)) (k _ (by omega) (by omega)) (by rw [k 145 (by omega) (by omega)]) (by rw [k 145 (by omega) (by omega)]),
      hg.k (fun a a1 a2 => k _ (by omega) (by omega)) (fun a a1 a2 => k _ (by omega) (by omega))⟩
    · simp only [w2]
      by_cases e : i = a1
      · simp [e]
      · simp [e]; exact hb.1 i p q
    · simp only [w2]
      by_cases e : i = a1
      · simp [e]; exact c.2
      · simp [e]; exact hb.2 i p q
