/-! what all letters of a pupil say for a gift -/
def ppl (s : Int → Int → Int) (p : Int) (f : Int → Int → Int) (l v : Int) : Int := if s 153 l = p then fo (s 155 l) (fun k v => v * f l k) v else v
def pp (s : Int → Int → Int) (p : Int) (f : Int → Int → Int) (n v : Int) : Int := fo n (ppl s p f) v
theorem foN_pm (f g : Int → Int) : ∀ (n : Nat) (a b : Int), foN (fun k v => v * (f k * g k)) (a * b) n = foN (fun k v => v * f k) a n * foN (fun k v => v * g k) b n
  | 0, _, _ => rfl
  | n + 1, a, b => by
    rw [foN, foN, foN, foN_pm f g n a b]
    grind
theorem ppl_m (s : Int → Int → Int) (p : Int) (f g : Int → Int → Int) (l a b : Int) : ppl s p (fun l k => f l k * g l k) l (a * b) = ppl s p f l a * ppl s p g l b := by
  unfold ppl
  by_cases c : s 153 l = p
  · rw [if_pos c, if_pos c, if_pos c]
    exact foN_pm (f l) (g l) _ a b
  · rw [if_neg c, if_neg c, if_neg c]
theorem pp_s (s : Int → Int → Int) (p : Int) (f : Int → Int → Int) {n : Int} (h : 0 ≤ n) (v : Int) : pp s p f (n + 1) v = ppl s p f n (pp s p f n v) := fo_s h _ _
theorem pp_m (s : Int → Int → Int) (p : Int) (f g : Int → Int → Int) : ∀ n, 0 ≤ n → ∀ a b, pp s p (fun l k => f l k * g l k) n (a * b) = pp s p f n a * pp s p g n b := by
  refine in_up _ (fun _ _ => rfl) (fun n hn ih a b => ?_)
  rw [pp_s s p _ hn, pp_s s p _ hn, pp_s s p _ hn, ih, ppl_m]
theorem pp_1 (s : Int → Int → Int) (p : Int) : ∀ n, 0 ≤ n → pp s p (fun _ _ => 1) n 1 = 1 := by
  refine in_up _ rfl (fun n hn ih => ?_)
  rw [pp_s s p _ hn, ih]
  unfold ppl
  by_cases c : s 153 n = p
  · rw [if_pos c]
    have : ∀ m : Nat, foN (fun _ v => v * 1) (1 : Int) m = 1 := fun m => by
      induction m with
      | zero => rfl
      | succ m ih => rw [foN, ih]; rfl
    exact this _
  · rw [if_neg c]
theorem pp_c {s : Int → Int → Int} {p : Int} {f g : Int → Int → Int} : ∀ n, 0 ≤ n → (∀ l k, 0 ≤ l → l < n → s 153 l = p → 0 ≤ k → k < s 155 l → f l k = g l k) → ∀ v, pp s p f n v = pp s p g n v := by
  refine in_up _ (fun _ _ => rfl) (fun n hn ih e v => ?_)
  rw [pp_s s p _ hn, pp_s s p _ hn, ih (fun l k l0 l1 c k0 k1 => e l k l0 (by omega) c k0 k1)]
  unfold ppl
  by_cases c : s 153 n = p
  · rw [if_pos c, if_pos c]
    exact fo_c (fun k k0 k1 a => by rw [e n k hn (by omega) c k0 k1])
  · rw [if_neg c, if_neg c]
def wfn (s : Int → Int → Int) (p n : Int) : Int := sg n (fun l => if s 153 l = p then s 155 l else 0)
def wf (s : Int → Int → Int) (p : Int) : Int := wfn s p (s 146 3)
theorem fo_b {f : Int → Int} {A M c : Int} (hM : 1 ≤ M) (hA : 0 ≤ A) (hc : 0 ≤ c) : ∀ k, 0 ≤ k → (∀ i, 0 ≤ i → i < k → 1 ≤ f i ∧ f i ≤ M) → ∀ v, (1 ≤ v ∧ v ≤ A * M ^ c.toNat) → 1 ≤ fo k (fun i v => v * f i) v ∧ fo k (fun i v => v * f i) v ≤ A * M ^ (c + k).toNat := by
  refine in_up _ (fun _ v hv => by rw [fo_0, Int.add_zero]; exact hv) (fun k hk ih hf v hv => ?_)
  obtain ⟨i1, i2⟩ := ih (fun i i0 i1 => hf i i0 (by omega)) v hv
  have h := hf k hk (by omega)
  rw [fo_s hk, show (c + (k + 1)).toNat = (c + k).toNat + 1 by omega, Int.pow_succ, ← Int.mul_assoc]
  have a := Int.mul_le_mul i1 h.1 (by omega) (by omega)
  have b := Int.mul_le_mul i2 h.2 (by omega) (Int.mul_nonneg hA (by have : 0 < M ^ (c + k).toNat := Int.pow_pos (by omega); omega))
  omega
theorem wfn_s (s : Int → Int → Int) (p : Int) {n : Int} (h : 0 ≤ n) : wfn s p (n + 1) = wfn s p n + if s 153 n = p then s 155 n else 0 := sg_s h _
theorem wfn_n {s : Int → Int → Int} (d : DD s) (p : Int) : ∀ n, 0 ≤ n → n ≤ s 146 3 → 0 ≤ wfn s p n := by
  intro n n0 n1
  exact sg_nn (fun l l0 l1 => by
    obtain ⟨-, -, -, f4⟩ := d.let l0 (by omega)
    by_cases c : s 153 l = p
    · rw [if_pos c]; exact f4.2.1
    · rw [if_neg c]; omega)
theorem wfn_le {s : Int → Int → Int} (d : DD s) (p : Int) {n : Int} (n0 : 0 ≤ n) (n1 : n < s 146 3) : wfn s p n ≤ wf s p ∧ (s 153 n = p → wfn s p n + s 155 n ≤ wf s p) := by
  have sp := sg_2 (fun l => if s 153 l = p then s 155 l else 0) (a := n + 1) (by omega) (s 146 3 - (n + 1)) (by omega)
  rw [show n + 1 + (s 146 3 - (n + 1)) = s 146 3 by omega] at sp
  have nn : 0 ≤ sg (s 146 3 - (n + 1)) (fun j => if s 153 (n + 1 + j) = p then s 155 (n + 1 + j) else 0) := sg_nn (fun l l0 l1 => by
    obtain ⟨-, -, -, f4⟩ := d.let (l := n + 1 + l) (by omega) (by omega)
    by_cases c : s 153 (n + 1 + l) = p
    · rw [if_pos c]; exact f4.2.1
    · rw [if_neg c]; omega)
  have st := wfn_s s p n0
  obtain ⟨-, -, -, f4⟩ := d.let n0 n1
  unfold wf wfn at *
  rw [st] at sp
  by_cases c : s 153 n = p
  · rw [if_pos c] at sp
    exact ⟨by omega, fun _ => by omega⟩
  · rw [if_neg c] at sp
    exact ⟨by omega, fun e => absurd e c⟩
theorem wf_b {s : Int → Int → Int} (d : DD s) (p : Int) : 0 ≤ wf s p ∧ wf s p ≤ 240 := by
  obtain ⟨e0, e1, e2, e3⟩ := d.cnt
  have := sg_b (n := s 146 3) (f := fun l => if s 153 l = p then s 155 l else 0) (a := 0) (b := 8) e3.2.1 (fun l l0 l1 => by
    obtain ⟨-, -, -, f4⟩ := d.let l0 l1
    by_cases c : s 153 l = p
    · rw [if_pos c]; omega
    · rw [if_neg c]; omega)
  unfold wf wfn; omega
theorem pp_b {s : Int → Int → Int} (d : DD s) {p : Int} {f : Int → Int → Int} {A M : Int} (hM : 1 ≤ M) (hA : 0 ≤ A) (hf : ∀ l k, 0 ≤ l → l < s 146 3 → s 153 l = p → 0 ≤ k → k < s 155 l → 1 ≤ f l k ∧ f l k ≤ M) {v : Int} (hv : 1 ≤ v ∧ v ≤ A) : ∀ n, 0 ≤ n → n ≤ s 146 3 → 1 ≤ pp s p f n v ∧ pp s p f n v ≤ A * M ^ (wfn s p n).toNat := by
  refine in_up _ (fun _ => ?_) (fun n hn ih h1 => ?_)
  · show 1 ≤ v ∧ v ≤ A * M ^ (sg 0 _).toNat
    rw [sg_0, show Int.toNat 0 = 0 from rfl, Int.pow_zero, Int.mul_one]; exact hv
  · obtain ⟨-, -, -, f4⟩ := d.let hn (by omega)
    have i := ih (by omega)
    rw [pp_s s p f hn, wfn_s s p hn]
    unfold ppl
    by_cases c : s 153 n = p
    · rw [if_pos c, if_pos c]
      exact fo_b hM hA (wfn_n d p n hn (by omega)) (s 155 n) f4.2.1 (fun k k0 k1 => hf n k hn (by omega) c k0 k1) _ i
    · rw [if_neg c, if_neg c, Int.add_zero]; exact i
def fup (s : Int → Int → Int) (p g l k : Int) : Int := 1 + ucm s (s 152 l) (s 156 (8 * l + k)) g p
def fdn (s : Int → Int → Int) (p g l : Int) (_ : Int) : Int := s 146 0 + ucm s (s 152 l) (-1) g p
def fcl (s : Int → Int → Int) (p g l k : Int) : Int := fo 4 (fun o v => if o = g then v else v * fdn s p o l k) (fup s p g l k)
def shr (s : Int → Int → Int) (p g : Int) : Int := pp s p (fcl s p g) (s 146 3) (s 157 g)
def upr (s : Int → Int → Int) (p g : Int) : Int := pp s p (fup s p g) (s 146 3) (s 157 g)
def dnr (s : Int → Int → Int) (p g : Int) : Int := pp s p (fdn s p g) (s 146 3) 1
theorem if_mul (o g v x : Int) : (if o = g then v else v * x) = v * (if o = g then 1 else x) := by
  by_cases c : o = g
  · rw [if_pos c, if_pos c, Int.mul_one]
  · rw [if_neg c, if_neg c]
theorem fo4_m (g u : Int) (x : Int → Int) : fo 4 (fun o v => if o = g then v else v * x o) u = u * (if (0 : Int) = g then 1 else x 0) * (if (1 : Int) = g then 1 else x 1) * (if (2 : Int) = g then 1 else x 2) * (if (3 : Int) = g then 1 else x 3) := by
  have e : fo 4 (fun o v => if o = g then v else v * x o) u = fo 4 (fun o v => v * (if o = g then 1 else x o)) u := fo_c (fun i _ _ a => if_mul i g a (x i))
  rw [e]; rfl
/-- the class's products and the reference's are one -/
theorem shr_ud (s : Int → Int → Int) (p g : Int) (h : 0 ≤ s 146 3) : shr s p g = fo 4 (fun k v => if k = g then v else v * dnr s p k) (upr s p g) := by
  rw [fo4_m]
  have one : ∀ o, pp s p (fun l k => if o = g then 1 else fdn s p o l k) (s 146 3) 1 = if o = g then 1 else dnr s p o := fun o => by
    by_cases c : o = g
    · rw [if_pos c]
      have : (fun l k => if o = g then 1 else fdn s p o l k) = fun _ _ => (1 : Int) := by funext l k; rw [if_pos c]
      rw [this]; exact pp_1 s p _ h
    · rw [if_neg c]
      have : (fun l k => if o = g then 1 else fdn s p o l k) = fdn s p o := by funext l k; rw [if_neg c]
      rw [this]; rfl
  have ef : fcl s p g = fun l k => (((fup s p g l k * (if (0 : Int) = g then 1 else fdn s p 0 l k)) * (if (1 : Int) = g then 1 else fdn s p 1 l k)) * (if (2 : Int) = g then 1 else fdn s p 2 l k)) * (if (3 : Int) = g then 1 else fdn s p 3 l k) := by
    funext l k
    exact fo4_m g _ (fun o => fdn s p o l k)
  unfold shr
  rw [ef]
  have m1 := pp_m s p (fun l k => ((fup s p g l k * (if (0 : Int) = g then 1 else fdn s p 0 l k)) * (if (1 : Int) = g then 1 else fdn s p 1 l k)) * (if (2 : Int) = g then 1 else fdn s p 2 l k)) (fun l k => if (3 : Int) = g then 1 else fdn s p 3 l k) (s 146 3) h (s 157 g) 1
  have m2 := pp_m s p (fun l k => (fup s p g l k * (if (0 : Int) = g then 1 else fdn s p 0 l k)) * (if (1 : Int) = g then 1 else fdn s p 1 l k)) (fun l k => if (2 : Int) = g then 1 else fdn s p 2 l k) (s 146 3) h (s 157 g) 1
  have m3 := pp_m s p (fun l k => fup s p g l k * (if (0 : Int) = g then 1 else fdn s p 0 l k)) (fun l k => if (1 : Int) = g then 1 else fdn s p 1 l k) (s 146 3) h (s 157 g) 1
  have m4 := pp_m s p (fup s p g) (fun l k => if (0 : Int) = g then 1 else fdn s p 0 l k) (s 146 3) h (s 157 g) 1
  rw [Int.mul_one] at m1 m2 m3 m4
  rw [m1, m2, m3, m4, one 0, one 1, one 2, one 3]
  rfl
theorem n12 : 9 * (4294967295 : Int) ^ 12 < bp 13 := by decide +kernel
theorem n12b : 9 * (248 : Int) ^ 12 < bp 4 := by decide +kernel
/-- a word in a letter: there are words -/
theorem fac_r {s : Int → Int → Int} (d : DD s) {p l k : Int} (l0 : 0 ≤ l) (l1 : l < s 146 3) (k0 : 0 ≤ k) (k1 : k < s 155 l) (g : Int) : (1 ≤ fup s p g l k ∧ fup s p g l k ≤ 241) ∧ 1 ≤ fdn s p g l k ∧ fdn s p g l k ≤ 248 := by
  obtain ⟨e0, -⟩ := d.cnt
  obtain ⟨-, t2, t3⟩ := d.txt l0 l1 k0 k1
  have u := ucm_b d (s 152 l) (s 156 (8 * l + k)) g p
  have v := ucm_b d (s 152 l) (-1) g p
  unfold fup fdn
  omega
theorem m4_b {u a b c e g : Int} (hu : 1 ≤ u ∧ u ≤ 241) (ha : 1 ≤ a ∧ a ≤ 248) (hb : 1 ≤ b ∧ b ≤ 248) (hc : 1 ≤ c ∧ c ≤ 248) (he : 1 ≤ e ∧ e ≤ 248) (hg : 0 ≤ g ∧ g < 4) : 1 ≤ u * (if (0 : Int) = g then 1 else a) * (if (1 : Int) = g then 1 else b) * (if (2 : Int) = g then 1 else c) * (if (3 : Int) = g then 1 else e) ∧ u * (if (0 : Int) = g then 1 else a) * (if (1 : Int) = g then 1 else b) * (if (2 : Int) = g then 1 else c) * (if (3 : Int) = g then 1 else e) ≤ 4294967295 := by
  have k : ∀ x y A B : Int, (1 ≤ x ∧ x ≤ A) → (1 ≤ y ∧ y ≤ B) → 1 ≤ x * y ∧ x * y ≤ A * B := fun x y A B hx hy => by
    have p := Int.mul_le_mul hx.1 hy.1 (by omega) (by omega)
    have q := Int.mul_le_mul hx.2 hy.2 (by omega) (by omega)
    omega
  have cases : g = 0 ∨ g = 1 ∨ g = 2 ∨ g = 3 := by omega
  rcases cases with rfl | rfl | rfl | rfl
  · rw [if_pos rfl, if_neg (by omega), if_neg (by omega), if_neg (by omega), Int.mul_one]
    have := k _ _ _ _ (k _ _ _ _ (k u b _ _ hu hb) hc) he
    omega
  · rw [if_pos rfl, if_neg (by omega), if_neg (by omega), if_neg (by omega), Int.mul_one]
    have := k _ _ _ _ (k _ _ _ _ (k u a _ _ hu ha) hc) he
    omega
  · rw [if_pos rfl, if_neg (by omega), if_neg (by omega), if_neg (by omega), Int.mul_one]
    have := k _ _ _ _ (k _ _ _ _ (k u a _ _ hu ha) hb) he
    omega
  · rw [if_pos rfl, if_neg (by omega), if_neg (by omega), if_neg (by omega), Int.mul_one]
    have := k _ _ _ _ (k _ _ _ _ (k u a _ _ hu ha) hb) hc
    omega
theorem fcl_r {s : Int → Int → Int} (d : DD s) {p l k g : Int} (l0 : 0 ≤ l) (l1 : l < s 146 3) (k0 : 0 ≤ k) (k1 : k < s 155 l) (hg : 0 ≤ g ∧ g < 4) : 1 ≤ fcl s p g l k ∧ fcl s p g l k ≤ 4294967295 := by
  have f := fac_r d (p := p) l0 l1 k0 k1
  unfold fcl
  rw [fo4_m]
  exact m4_b (f g).1 (f 0).2 (f 1).2 (f 2).2 (f 3).2 hg
theorem pow_c {M a b : Int} (hM : 1 ≤ M) (h : a ≤ b) : M ^ a.toNat ≤ M ^ b.toNat := ipow_le hM (by omega)
theorem shr_b {s : Int → Int → Int} (d : DD s) (ib : IB s) {p g : Int} (hg : 0 ≤ g ∧ g < 4) (h12 : wf s p ≤ 12) : 1 ≤ shr s p g ∧ shr s p g < bp 13 := by
  obtain ⟨e0, e1, e2, e3⟩ := d.cnt
  have w := ib.2 g hg.1 (by omega)
  have := pp_b d (p := p) (f := fcl s p g) (A := 9) (M := 4294967295) (by decide) (by decide) (fun l k l0 l1 _ k0 k1 => fcl_r d l0 l1 k0 k1 hg) (v := s 157 g) w (s 146 3) e3.2.1 (Int.le_refl _)
  have a := pow_c (M := 4294967295) (a := wfn s p (s 146 3)) (b := 12) (by decide) h12
  rw [show Int.toNat 12 = 12 from rfl] at a
  have := n12
  unfold shr
  omega
theorem upr_b {s : Int → Int → Int} (d : DD s) (ib : IB s) {p g : Int} (hg : 0 ≤ g ∧ g < 4) (h12 : wf s p ≤ 12) : (1 ≤ upr s p g ∧ upr s p g < bp 4) ∧ 1 ≤ dnr s p g ∧ dnr s p g < bp 4 := by
  obtain ⟨e0, e1, e2, e3⟩ := d.cnt
  have w := ib.2 g hg.1 (by omega)
  have u := pp_b d (p := p) (f := fup s p g) (A := 9) (M := 248) (by decide) (by decide) (fun l k l0 l1 _ k0 k1 => by have := (fac_r d (p := p) l0 l1 k0 k1 g).1; omega) (v := s 157 g) w (s 146 3) e3.2.1 (Int.le_refl _)
  have v := pp_b d (p := p) (f := fdn s p g) (A := 9) (M := 248) (by decide) (by decide) (fun l k l0 l1 _ k0 k1 => (fac_r d (p := p) l0 l1 k0 k1 g).2) (v := 1) (by decide) (s 146 3) e3.2.1 (Int.le_refl _)
  have a := pow_c (M := 248) (a := wfn s p (s 146 3)) (b := 12) (by decide) h12
  rw [show Int.toNat 12 = 12 from rfl] at a
  have := n12b
  unfold upr dnr
  omega
/-- products of small factors -/
theorem SM_mI {a b : Int} (ha : 0 ≤ a) (hb : 0 ≤ b) (h : SM a.toNat) (g : SM b.toNat) : SM (a * b).toNat := by
  obtain ⟨m, rfl⟩ := nat_of ha
  obtain ⟨n, rfl⟩ := nat_of hb
  rw [← Int.natCast_mul, Int.toNat_natCast]
  rw [Int.toNat_natCast] at h g
  exact SM_m h g
theorem SM_sI {a : Int} (h : 1 ≤ a ∧ a ≤ 248) : SM a.toNat := SM_s (by omega) (by omega)
theorem fcl_SM {s : Int → Int → Int} (d : DD s) {p l k g : Int} (l0 : 0 ≤ l) (l1 : l < s 146 3) (k0 : 0 ≤ k) (k1 : k < s 155 l) : 1 ≤ fcl s p g l k ∧ SM (fcl s p g l k).toNat := by
  have f := fac_r d (p := p) l0 l1 k0 k1
  unfold fcl
  rw [fo4_m]
  have st : ∀ x o : Int, (1 ≤ x ∧ SM x.toNat) → 1 ≤ x * (if o = g then 1 else fdn s p o l k) ∧ SM (x * (if o = g then 1 else fdn s p o l k)).toNat := fun x o hx => by
    by_cases c : o = g
    · rw [if_pos c, Int.mul_one]; exact hx
    · rw [if_neg c]
      have := Int.mul_le_mul hx.1 (f o).2.1 (by omega) (by omega)
      exact ⟨by omega, SM_mI (by omega) (by have := (f o).2; omega) hx.2 (SM_sI (f o).2)⟩
  exact st _ 3 (st _ 2 (st _ 1 (st _ 0 ⟨(f g).1.1, SM_sI (by have := (f g).1; omega)⟩)))
theorem shr_SM {s : Int → Int → Int} (d : DD s) (ib : IB s) {p g : Int} (hg : 0 ≤ g ∧ g < 4) : SM (shr s p g).toNat := by
  obtain ⟨e0, e1, e2, e3⟩ := d.cnt
  have w := ib.2 g hg.1 (by omega)
  have key : ∀ n, 0 ≤ n → n ≤ s 146 3 → 1 ≤ pp s p (fcl s p g) n (s 157 g) ∧ SM (pp s p (fcl s p g) n (s 157 g)).toNat := by
    refine in_up _ (fun _ => ⟨w.1, SM_sI (a := s 157 g) (by omega)⟩) (fun n hn ih h1 => ?_)
    obtain ⟨-, -, -, f4⟩ := d.let hn (by omega)
    have i := ih (by omega)
    rw [pp_s s p _ hn]
    unfold ppl
    by_cases c : s 153 n = p
    · rw [if_pos c]
      have inner : ∀ k, 0 ≤ k → k ≤ s 155 n → 1 ≤ fo k (fun k v => v * fcl s p g n k) (pp s p (fcl s p g) n (s 157 g)) ∧ SM (fo k (fun k v => v * fcl s p g n k) (pp s p (fcl s p g) n (s 157 g))).toNat := by
        refine in_up _ (fun _ => by rw [fo_0]; exact i) (fun k hk jh h2 => ?_)
        have j := jh (by omega)
        have f := fcl_SM d (p := p) (l := n) (k := k) (g := g) hn (by omega) hk (by omega)
        rw [fo_s hk]
        have := Int.mul_le_mul j.1 f.1 (by omega) (by omega)
        exact ⟨by omega, SM_mI (by omega) (by omega) j.2 f.2⟩
      exact inner _ f4.2.1 (Int.le_refl _)
    · rw [if_neg c]; exact i
  exact (key _ e3.2.1 (Int.le_refl _)).2
/-- the first of the greatest -/
def grt (f : Int → Int) (n : Int) : Int := fo n (fun j b => if f b < f (1 + j) then 1 + j else b) 0
theorem grt_s (f : Int → Int) {n : Int} (h : 0 ≤ n) : grt f (n + 1) = if f (grt f n) < f (1 + n) then 1 + n else grt f n := fo_s h _ _
theorem grt_b (f : Int → Int) : ∀ n, 0 ≤ n → 0 ≤ grt f n ∧ grt f n ≤ n := by
  refine in_up _ (by show 0 ≤ (0 : Int) ∧ (0 : Int) ≤ 0; omega) (fun n hn ih => ?_)
  rw [grt_s f hn]
  by_cases c : f (grt f n) < f (1 + n)
  · rw [if_pos c]; omega
  · rw [if_neg c]; omega
