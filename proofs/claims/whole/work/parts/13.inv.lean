/-! THE INVARIANT between the landed class's cells (1 .. 142) and the reference's (143 .. 168) -/
/-- a drawer's words, hands, pupils, letters, as told -/
def dwf (nW nH nP nL : Int) (rank wab kin pab gift lh lp ly len : Int → Int) (txt : Int → Int → Int) : Prop :=
  (0 ≤ nW ∧ nW ≤ 8) ∧ (0 ≤ nH ∧ nH ≤ 6) ∧ (0 ≤ nP ∧ nP ≤ 8) ∧ (0 ≤ nL ∧ nL ≤ 30) ∧ inr nW 0 9 rank ∧ inr nW 0 2 wab ∧ (∀ i, 0 ≤ i → i < nH → -1 ≤ kin i ∧ kin i < i) ∧ inr nP 1 2 pab ∧ inr nP (-1) 3 gift ∧
  inr nL 0 (nH - 1) lh ∧ inr nL 0 (nP - 1) lp ∧ inr nL 0 39 ly ∧ inr nL 0 8 len ∧ (∀ l p, 0 ≤ l → l < nL → 0 ≤ p → p < len l → 0 ≤ txt l p ∧ txt l p ≤ nW - 1)
def WC (s : Int → Int → Int) : Prop := dwf (s 2 10) (s 2 11) (s 2 12) (s 2 13) (s 3) (s 4) (s 5) (s 6) (s 7) (s 8) (s 9) (s 10) (s 11) (fun l p => s (13 + l) p)
def WM (s : Int → Int → Int) : Prop := dwf (s 146 0) (s 146 1) (s 146 2) (s 146 3) (s 147) (s 148) (s 149) (s 150) (s 151) (s 152) (s 153) (s 154) (s 155) (fun l p => s 156 (8 * l + p))
def IAq (s : Int → Int → Int) : Prop :=
  (s 2 10 = s 146 0 ∧ s 2 11 = s 146 1 ∧ s 2 12 = s 146 2 ∧ s 2 13 = s 146 3) ∧ (eqr (s 146 0) (s 3) (s 147) ∧ eqr (s 146 0) (s 4) (s 148)) ∧ eqr (s 146 1) (s 5) (s 149) ∧ (eqr (s 146 2) (s 6) (s 150) ∧ eqr (s 146 2) (s 7) (s 151)) ∧
  (eqr (s 146 3) (s 8) (s 152) ∧ eqr (s 146 3) (s 9) (s 153) ∧ eqr (s 146 3) (s 10) (s 154) ∧ eqr (s 146 3) (s 11) (s 155)) ∧ (∀ l p, 0 ≤ l → l < s 146 3 → 0 ≤ p → p < s 155 l → s (13 + l) p = s 156 (8 * l + p)) ∧ ∀ l, s 146 3 ≤ l → l < 30 → s 11 l = 0
def IB (s : Int → Int → Int) : Prop := eqr 4 (s 70) (s 157) ∧ inr 4 1 9 (s 157)
def IC (s : Int → Int → Int) : Prop :=
  s 97 3 = s 146 4 ∧ (0 ≤ s 146 4 ∧ s 146 4 ≤ 40) ∧ (eqr (s 146 4) (s 98) (s 159) ∧ eqr (s 146 4) (s 99) (s 160) ∧ eqr (s 146 4) (s 100) (s 161)) ∧ (inr (s 146 4) 0 5 (s 159) ∧ inr (s 146 4) 0 (s 146 2 - 1) (s 160) ∧ inr (s 146 4) 0 (s 146 2 - 1) (s 161)) ∧ (∀ i, 0 ≤ i → i < s 146 4 → s 160 i ≠ s 161 i) ∧
  ∀ a b, 0 ≤ a → a < 8 → 0 ≤ b → b < 8 → s (102 + a) b = sg (s 146 4) (fun k => jbo (s 160 k = a ∧ s 161 k = b))
def ID (s : Int → Int → Int) : Prop := eqr 6 (s 121) (s 163) ∧ inr 6 0 63 (s 163)
def IE (s : Int → Int → Int) : Prop :=
  s 124 3 = s 146 5 ∧ (0 ≤ s 146 5 ∧ s 146 5 ≤ 6) ∧ (eqr (s 146 5) (s 125) (s 167) ∧ inr (s 146 5) 1 30 (s 167)) ∧ ∀ q g, 0 ≤ q → q < s 146 5 → 0 ≤ g → g < 4 → s (127 + q) g = s 168 (4 * q + g) ∧ 0 ≤ s 168 (4 * q + g) ∧ s 168 (4 * q + g) ≤ 100
def IF (s : Int → Int → Int) : Prop :=
  (s 139 1 = s 145 0 ∧ 0 ≤ s 145 0 ∧ s 145 0 ≤ 16) ∧ (s 141 1 = s 145 1 ∧ 0 ≤ s 145 1 ∧ s 145 1 ≤ 16) ∧ eqr (s 145 0) (s 140) (s 144) ∧ eqr (s 145 1) (s 142) (fun i => s 144 (50 + i)) ∧ inr (s 145 0) 0 1073741823 (s 144) ∧ inr (s 145 1) 0 1073741823 (fun i => s 144 (50 + i))
def IG (s : Int → Int → Int) : Prop := (∀ j, 0 ≤ j → j < 9 → s 88 j = 0 ∧ s (88 + j) 0 = 0) ∧ ∀ p, 0 ≤ p → p < 8 → s (111 + p) 0 = 0
def Inv (S0 : Int → Int) (s : Int → Int → Int) : Prop := s 0 = S0 ∧ (WM s ∧ IAq s) ∧ IB s ∧ IC s ∧ ID s ∧ IE s ∧ IF s ∧ IG s
/-- what a pair of calls must show: both answer alike, and the invariant holds again -/
def jop (mc mm : jM) (As : List jV) (S0 : Int → Int) (s : Int → Int → Int) : Prop :=
  kR mc (jR 1 :: As) s (fun r s1 => ∃ y, r = some (jI y) ∧ s1 0 = S0 ∧ kR mm (jR 143 :: As) s1 (fun r2 s2 => ∃ y2, r2 = some (jI y2) ∧ y2 = y ∧ jr32 y ∧ Inv S0 s2))
def jopL (mc mm : jM) (As : List jV) (S0 : Int → Int) (s : Int → Int → Int) : Prop :=
  kR mc (jR 1 :: As) s (fun r s1 => ∃ y, r = some (jL y) ∧ s1 0 = S0 ∧ kR mm (jR 143 :: As) s1 (fun r2 s2 => ∃ y2, r2 = some (jL y2) ∧ y2 = y ∧ Inv S0 s2))
theorem dwf.eq {nW nH nP nL nW' nH' nP' nL' : Int} {rank wab kin pab gift lh lp ly len rank' wab' kin' pab' gift' lh' lp' ly' len' : Int → Int} {txt txt' : Int → Int → Int} (h : dwf nW nH nP nL rank wab kin pab gift lh lp ly len txt)
    (e1 : nW' = nW) (e2 : nH' = nH) (e3 : nP' = nP) (e4 : nL' = nL) (f1 : eqr nW rank' rank) (f2 : eqr nW wab' wab) (f3 : eqr nH kin' kin) (f4 : eqr nP pab' pab) (f5 : eqr nP gift' gift) (f6 : eqr nL lh' lh) (f7 : eqr nL lp' lp) (f8 : eqr nL ly' ly) (f9 : eqr nL len' len)
    (f10 : ∀ l p, 0 ≤ l → l < nL → 0 ≤ p → p < len l → txt' l p = txt l p) : dwf nW' nH' nP' nL' rank' wab' kin' pab' gift' lh' lp' ly' len' txt' := by
  subst e1 e2 e3 e4
  obtain ⟨a1, a2, a3, a4, b1, b2, b3, b4, b5, b6, b7, b8, b9, b10⟩ := h
  refine ⟨a1, a2, a3, a4, fun i p q => ?_, fun i p q => ?_, fun i p q => ?_, fun i p q => ?_, fun i p q => ?_, fun i p q => ?_, fun i p q => ?_, fun i p q => ?_, fun i p q => ?_, fun l p h1 h2 h3 h4 => ?_⟩
  · rw [f1 i p q]; exact b1 i p q
  · rw [f2 i p q]; exact b2 i p q
  · rw [f3 i p q]; exact b3 i p q
  · rw [f4 i p q]; exact b4 i p q
  · rw [f5 i p q]; exact b5 i p q
  · rw [f6 i p q]; exact b6 i p q
  · rw [f7 i p q]; exact b7 i p q
  · rw [f8 i p q]; exact b8 i p q
  · rw [f9 i p q]; exact b9 i p q
  · rw [f9 l h1 h2] at h4
    rw [f10 l p h1 h2 h3 h4]; exact b10 l p h1 h2 h3 h4
theorem WC_of {s : Int → Int → Int} (h : WM s) (q : IAq s) : WC s := by
  obtain ⟨⟨c1, c2, c3, c4⟩, ⟨d1, d2⟩, d3, ⟨d4, d5⟩, ⟨d6, d7, d8, d9⟩, d10, -⟩ := q
  exact dwf.eq h c1 c2 c3 c4 d1 d2 d3 d4 d5 d6 d7 d8 d9 d10
theorem Inv.wc {S0 : Int → Int} {s : Int → Int → Int} (h : Inv S0 s) : WC s := WC_of h.2.1.1 h.2.1.2
theorem Inv.wm {S0 : Int → Int} {s : Int → Int → Int} (h : Inv S0 s) : WM s := h.2.1.1
/-- the cells of which the invariant speaks -/
def jpers (k : Int) : Prop := (0 ≤ k ∧ k ≤ 42) ∨ k = 70 ∨ (88 ≤ k ∧ k ≤ 109) ∨ (111 ≤ k ∧ k ≤ 118) ∨ k = 121 ∨ (124 ≤ k ∧ k ≤ 132) ∨ (139 ≤ k ∧ k ≤ 157) ∨ (159 ≤ k ∧ k ≤ 161) ∨ k = 163 ∨ k = 167 ∨ k = 168
theorem Inv.keep {S0 : Int → Int} {s s' : Int → Int → Int} (h : Inv S0 s) (f : ∀ k, jpers k → s' k = s k) : Inv S0 s' := by
  unfold Inv WM IAq IB IC ID IE IF IG at h ⊢
  have e0 := f 0 (by unfold jpers; omega)
  have e2 := f 2 (by unfold jpers; omega)
  have e3 := f 3 (by unfold jpers; omega)
  have e4 := f 4 (by unfold jpers; omega)
  have e5 := f 5 (by unfold jpers; omega)
  have e6 := f 6 (by unfold jpers; omega)
  have e7 := f 7 (by unfold jpers; omega)
  have e8 := f 8 (by unfold jpers; omega)
  have e9 := f 9 (by unfold jpers; omega)
  have e10 := f 10 (by unfold jpers; omega)
  have e11 := f 11 (by unfold jpers; omega)
  have e70 := f 70 (by unfold jpers; omega)
  have e88 := f 88 (by unfold jpers; omega)
  have e97 := f 97 (by unfold jpers; omega)
  have e98 := f 98 (by unfold jpers; omega)
  have e99 := f 99 (by unfold jpers; omega)
  have e100 := f 100 (by unfold jpers; omega)
  have e121 := f 121 (by unfold jpers; omega)
  have e124 := f 124 (by unfold jpers; omega)
  have e125 := f 125 (by unfold jpers; omega)
  have e139 := f 139 (by unfold jpers; omega)
  have e140 := f 140 (by unfold jpers; omega)
  have e141 := f 141 (by unfold jpers; omega)
  have e142 := f 142 (by unfold jpers; omega)
  have e144 := f 144 (by unfold jpers; omega)
  have e145 := f 145 (by unfold jpers; omega)
  have e146 := f 146 (by unfold jpers; omega)
  have e147 := f 147 (by unfold jpers; omega)
  have e148 := f 148 (by unfold jpers; omega)
  have e149 := f 149 (by unfold jpers; omega)
  have e150 := f 150 (by unfold jpers; omega)
  have e151 := f 151 (by unfold jpers; omega)
  have e152 := f 152 (by unfold jpers; omega)
  have e153 := f 153 (by unfold jpers; omega)
  have e154 := f 154 (by unfold jpers; omega)
  have e155 := f 155 (by unfold jpers; omega)
  have e156 := f 156 (by unfold jpers; omega)
  have e157 := f 157 (by unfold jpers; omega)
  have e159 := f 159 (by unfold jpers; omega)
  have e160 := f 160 (by unfold jpers; omega)
  have e161 := f 161 (by unfold jpers; omega)
  have e163 := f 163 (by unfold jpers; omega)
  have e167 := f 167 (by unfold jpers; omega)
  have e168 := f 168 (by unfold jpers; omega)
  rw [e0, e2, e3, e4, e5, e6, e7, e8, e9, e10, e11, e70, e88, e97, e98, e99, e100, e121, e124, e125, e139, e140, e141, e142, e144, e145, e146, e147, e148, e149, e150, e151, e152, e153, e154, e155, e156, e157, e159, e160, e161, e163, e167, e168]
  obtain ⟨h0, ⟨hw, q1, q2, q3, q4, q5, q6, q7⟩, hb, ⟨c1, c2, c3, c4, c5, c6⟩, hd, ⟨i1, i2, i3, i4⟩, hf, g1, g2⟩ := h
  refine ⟨h0, ⟨hw, q1, q2, q3, q4, q5, fun l p a1 a2 a3 a4 => ?_, q7⟩, hb, ⟨c1, c2, c3, c4, c5, fun a b a1 a2 a3 a4 => ?_⟩, hd, ⟨i1, i2, i3, fun q g a1 a2 a3 a4 => ?_⟩, hf, fun j a1 a2 => ?_, fun p a1 a2 => ?_⟩
  · have hL := hw.2.2.2.1.2
    rw [f (13 + l) (by unfold jpers; omega)]; exact q6 l p a1 a2 a3 a4
  · rw [f (102 + a) (by unfold jpers; omega)]; exact c6 a b a1 a2 a3 a4
  · rw [f (127 + q) (by unfold jpers; omega)]; exact i4 q g a1 a2 a3 a4
  · rw [f (88 + j) (by unfold jpers; omega)]; exact g1 j a1 a2
  · rw [f (111 + p) (by unfold jpers; omega)]; exact g2 p a1 a2
