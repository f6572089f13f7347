/-! the tally: how often a word (−1: any) stands in the letters of a hand for a gift, but in those of one pupil -/
/-- the uses of a word (−1: any) by a hand and its kin for a gift, but in the letters of one pupil -/
def ucm (s : Int → Int → Int) (x w g wo : Int) : Int := sg (s 146 3) (fun l => if (s 152 l = x ∨ s 152 l = s 149 x) ∧ s 153 l ≠ wo ∧ s 151 (s 153 l) = g then stc s l w else 0)
def fl (s : Int → Int → Int) (x n v : Int) : Int → Int → Int := fun k i => if k = x ∧ 0 ≤ i ∧ i < n then v else s k i
theorem fl_k {s : Int → Int → Int} {x n v k : Int} (h : k ≠ x) : fl s x n v k = s k := by
  funext i
  unfold fl
  rw [if_neg (fun q => h q.1)]
theorem fl_s {s : Int → Int → Int} {x n v i : Int} (h0 : 0 ≤ i) (h1 : i < n) : fl s x n v x i = v := by
  unfold fl
  rw [if_pos ⟨rfl, h0, h1⟩]
theorem fl_0 (s : Int → Int → Int) (x v : Int) : fl s x 0 v = s := by
  funext k i
  unfold fl
  rw [if_neg (by omega)]
theorem fl_st {s : Int → Int → Int} {x v j : Int} (h : 0 ≤ j) : w2 (fl s x j v) x j v = fl s x (j + 1) v := by
  funext k i
  by_cases e : k = x
  · subst e
    rw [w2_e]
    unfold fl
    by_cases e2 : i = j
    · rw [if_pos e2, if_pos ⟨rfl, by omega, by omega⟩]
    · rw [if_neg e2]
      by_cases e3 : 0 ≤ i ∧ i < j
      · rw [if_pos ⟨rfl, e3⟩, if_pos ⟨rfl, by omega, by omega⟩]
      · rw [if_neg (fun q => e3 q.2), if_neg (fun q => e3 ⟨q.2.1, by omega⟩)]
  · rw [w2_k e, fl_k e, fl_k e]
def tlp (s : Int → Int → Int) (n x w g u : Int) : Int := sg n (fun l => if s 152 l = x ∧ s 153 l ≠ u ∧ s 151 (s 153 l) = g then stc s l w else 0)
def tl (s : Int → Int → Int) (x w g u : Int) : Int := tlp s (s 146 3) x w g u
def tlP (k : Int) : Prop := 45 ≤ k ∧ k ≤ 69
def TLn (s : Int → Int → Int) (u n : Int) (s' : Int → Int → Int) : Prop := ∀ x g, 0 ≤ x → x < 6 → 0 ≤ g → g < 4 → (∀ w, 0 ≤ w → w < 8 → s' (45 + (x * 4 + g)) w = tlp s n x w g u) ∧ s' 69 (x * 4 + g) = tlp s n x (-1) g u
def TL (s : Int → Int → Int) (u : Int) (s' : Int → Int → Int) : Prop := TLn s u (s 146 3) s'
/-- a letter taken into a row of the tally -/
def tkn (s : Int → Int → Int) (l r n : Int) : Int → Int → Int := fun k i => if k = 45 + r then s k i + sg n (fun j => jbo (s 156 (8 * l + j) = i)) else if k = 69 ∧ i = r then s k i + n else s k i
theorem stc_w {s : Int → Int → Int} {l w : Int} (h : w ≠ -1) : stc s l w = sg (s 155 l) (fun j => jbo (s 156 (8 * l + j) = w)) := sg_c (fun j _ _ => jbo_c ⟨fun q => q.resolve_left h, Or.inr⟩)
theorem stc_a {s : Int → Int → Int} {l : Int} (h : 0 ≤ s 155 l) : stc s l (-1) = s 155 l := by
  have := sg_b (f := fun k => jbo ((-1 : Int) = -1 ∨ s 156 (8 * l + k) = -1)) (a := 1) (b := 1) h (fun j _ _ => by rw [jbo_t (Or.inl rfl)]; omega)
  unfold stc; omega
theorem stc_b {s : Int → Int → Int} {l w : Int} (h : 0 ≤ s 155 l) : 0 ≤ stc s l w ∧ stc s l w ≤ s 155 l := by
  have := sg_b (f := fun k => jbo (w = -1 ∨ s 156 (8 * l + k) = w)) (a := 0) (b := 1) h (fun j _ _ => jbo_01' _)
  unfold stc; omega
theorem ucm_tl {s : Int → Int → Int} (h : DD s) {x w g u : Int} (hx : 0 ≤ x ∧ x < s 146 1) : ucm s x w g u = tl s x w g u + if s 149 x = -1 then 0 else tl s (s 149 x) w g u := by
  obtain ⟨k1, k2, k3⟩ := h.hnd hx.1 hx.2
  by_cases c : s 149 x = -1
  · rw [if_pos c, Int.add_zero]
    refine sg_c (fun l l0 l1 => ?_)
    have := (h.let l0 l1).1
    by_cases d : s 152 l = x ∧ s 153 l ≠ u ∧ s 151 (s 153 l) = g
    · rw [if_pos d, if_pos ⟨Or.inl d.1, d.2⟩]
    · rw [if_neg d, if_neg (fun q => d ⟨q.1.resolve_right (by omega), q.2⟩)]
  · rw [if_neg c]
    unfold ucm tl tlp
    rw [← sg_add]
    refine sg_c (fun l l0 l1 => ?_)
    by_cases d2 : s 153 l ≠ u ∧ s 151 (s 153 l) = g
    · by_cases d : s 152 l = x
      · rw [if_pos ⟨Or.inl d, d2⟩, if_pos ⟨d, d2⟩, if_neg (fun q => by have := q.1; omega), Int.add_zero]
      · by_cases d3 : s 152 l = s 149 x
        · rw [if_pos ⟨Or.inr d3, d2⟩, if_neg (fun q => d q.1), if_pos ⟨d3, d2⟩, Int.zero_add]
        · rw [if_neg (fun q => q.1.elim d d3), if_neg (fun q => d q.1), if_neg (fun q => d3 q.1)]; rfl
    · rw [if_neg (fun q => d2 q.2), if_neg (fun q => d2 q.2), if_neg (fun q => d2 q.2)]; rfl
theorem tlp_s {s : Int → Int → Int} {n x w g u : Int} (h : 0 ≤ n) : tlp s (n + 1) x w g u = tlp s n x w g u + if s 152 n = x ∧ s 153 n ≠ u ∧ s 151 (s 153 n) = g then stc s n w else 0 := sg_s h _
theorem tl_b {s : Int → Int → Int} (h : DD s) (x w g u : Int) : 0 ≤ tl s x w g u ∧ tl s x w g u ≤ 240 := by
  obtain ⟨e0, e1, e2, e3⟩ := h.cnt
  have := sg_b (f := fun l => if s 152 l = x ∧ s 153 l ≠ u ∧ s 151 (s 153 l) = g then stc s l w else 0) (a := 0) (b := 8) e3.2.1 (fun l l0 l1 => by
    obtain ⟨-, -, -, f4⟩ := h.let l0 l1
    have := stc_b (w := w) f4.2.1
    by_cases c : s 152 l = x ∧ s 153 l ≠ u ∧ s 151 (s 153 l) = g
    · rw [if_pos c]; omega
    · rw [if_neg c]; omega)
  unfold tl tlp; omega
theorem ucm_b {s : Int → Int → Int} (h : DD s) (x w g u : Int) : 0 ≤ ucm s x w g u ∧ ucm s x w g u ≤ 240 := by
  obtain ⟨e0, e1, e2, e3⟩ := h.cnt
  have := sg_b (f := fun l => if (s 152 l = x ∨ s 152 l = s 149 x) ∧ s 153 l ≠ u ∧ s 151 (s 153 l) = g then stc s l w else 0) (a := 0) (b := 8) e3.2.1 (fun l l0 l1 => by
    obtain ⟨-, -, -, f4⟩ := h.let l0 l1
    have := stc_b (w := w) f4.2.1
    by_cases c : (s 152 l = x ∨ s 152 l = s 149 x) ∧ s 153 l ≠ u ∧ s 151 (s 153 l) = g
    · rw [if_pos c]; omega
    · rw [if_neg c]; omega)
  unfold ucm; omega
def us (s : Int → Int → Int) (h w g : Int) : Int := s (45 + (h * 4 + g)) w + if s 5 h = -1 then 0 else s (45 + (s 5 h * 4 + g)) w
def ua (s : Int → Int → Int) (h g : Int) : Int := s 69 (h * 4 + g) + if s 5 h = -1 then 0 else s 69 (s 5 h * 4 + g)
theorem us_ucm {s s1 : Int → Int → Int} {u h w g : Int} (d : DD s) (f : frm tlP s s1) (t : TL s u s1) (hh : 0 ≤ h ∧ h < s 146 1) (hw : 0 ≤ w ∧ w < 8) (hg : 0 ≤ g ∧ g < 4) : us s1 h w g = ucm s h w g u := by
  obtain ⟨e0, e1, e2, e3⟩ := d.cnt
  obtain ⟨k1, k2, k3⟩ := d.hnd hh.1 hh.2
  rw [ucm_tl d hh]
  unfold us
  rw [f 5 (by unfold tlP; omega), k1, (t h g hh.1 (by omega) hg.1 hg.2).1 w hw.1 hw.2]
  by_cases c : s 149 h = -1
  · rw [if_pos c, if_pos c]; rfl
  · rw [if_neg c, if_neg c, (t (s 149 h) g (by omega) (by omega) hg.1 hg.2).1 w hw.1 hw.2]; rfl
theorem ua_ucm {s s1 : Int → Int → Int} {u h g : Int} (d : DD s) (f : frm tlP s s1) (t : TL s u s1) (hh : 0 ≤ h ∧ h < s 146 1) (hg : 0 ≤ g ∧ g < 4) : ua s1 h g = ucm s h (-1) g u := by
  obtain ⟨e0, e1, e2, e3⟩ := d.cnt
  obtain ⟨k1, k2, k3⟩ := d.hnd hh.1 hh.2
  rw [ucm_tl d hh]
  unfold ua
  rw [f 5 (by unfold tlP; omega), k1, (t h g hh.1 (by omega) hg.1 hg.2).2]
  by_cases c : s 149 h = -1
  · rw [if_pos c, if_pos c]; rfl
  · rw [if_neg c, if_neg c, (t (s 149 h) g (by omega) (by omega) hg.1 hg.2).2]; rfl
