/-! forms: what answers tell -/
def fy (s : Int → Int → Int) (q g : Int) : Int := s 168 (4 * q + g)
def fsh (s : Int → Int → Int) (S a q g : Int) : Int := if bt S q = 0 then (if bt a q = 1 then 100 else 0) else if bt a q = 1 then fy s q g else 100 - fy s q g
def ftv (s : Int → Int → Int) (S a m g : Int) : Int := fo m (fun q v => v * fsh s S a q g) (s 157 g)
def fmx (v : Int → Int) : Int := max (max (max (max 0 (v 0)) (v 1)) (v 2)) (v 3)
def fTO (s : Int → Int → Int) (S : Int) : Int := sg (2 ^ (s 146 5).toNat) (fun a => fmx (ftv s S a (s 146 5)))
def fR (S m : Int) : Int := 2 ^ (sg m (bt S)).toNat
def fcaN (s : Int → Int → Int) (S : Int) : Nat → Int → Int → Int
  | 0 => fun _ g => s 157 g
  | m + 1 => fun row g => if bt S (m : Int) = 1 then (if row < fR S (m : Int) then fcaN s S m row g * (100 - fy s m g) else fcaN s S m (row - fR S (m : Int)) g * fy s m g) else fcaN s S m row g
def fca (s : Int → Int → Int) (S m : Int) : Int → Int → Int := fcaN s S m.toNat
theorem fca_s (s : Int → Int → Int) (S : Int) {m : Int} (h : 0 ≤ m) (row g : Int) : fca s S (m + 1) row g = if bt S m = 1 then (if row < fR S m then fca s S m row g * (100 - fy s m g) else fca s S m (row - fR S m) g * fy s m g) else fca s S m row g := by
  unfold fca
  rw [show (m + 1).toNat = m.toNat + 1 by omega, fcaN, show ((m.toNat : Nat) : Int) = m by omega]
def fGR (s : Int → Int → Int) (S : Int) : Int := sg (fR S (s 146 5)) (fun row => fmx (fca s S (s 146 5) row))
def fQ (s : Int → Int → Int) : Prop := (0 ≤ s 146 5 ∧ s 146 5 ≤ 6) ∧ (∀ q g, 0 ≤ q → q < s 146 5 → 0 ≤ g → g < 4 → 0 ≤ fy s q g ∧ fy s q g ≤ 100) ∧ ∀ g, 0 ≤ g → g < 4 → 1 ≤ s 157 g ∧ s 157 g ≤ 9
theorem p2_s {m : Int} (h : 0 ≤ m) : (2 : Int) ^ (m + 1).toNat = 2 ^ m.toNat + 2 ^ m.toNat := by
  rw [show (m + 1).toNat = m.toNat + 1 by omega, Int.pow_succ]; omega
theorem bt_lo {m a : Int} (hm : 0 ≤ m) (ha : 0 ≤ a ∧ a < 2 ^ m.toNat) : bt a m = 0 := bt_z ha.1 ha.2
theorem bt_hi {m a : Int} (hm : 0 ≤ m) (ha : 0 ≤ a ∧ a < 2 ^ m.toNat) : bt (2 ^ m.toNat + a) m = 1 := by
  have p := p2_pos m
  unfold bt
  have e : (2 ^ m.toNat + a) / 2 ^ m.toNat = 1 := by
    have := Int.add_mul_ediv_right a 1 (show (2 : Int) ^ m.toNat ≠ 0 by omega)
    rw [Int.one_mul, Int.ediv_eq_zero_of_lt ha.1 ha.2] at this
    rw [Int.add_comm]; omega
  rw [e]; rfl
theorem bt_up {m a q : Int} (ha : 0 ≤ a) (hq : 0 ≤ q ∧ q < m) : bt (2 ^ m.toNat + a) q = bt a q := by
  have e : (2 : Int) ^ m.toNat = 2 ^ q.toNat * (2 * 2 ^ (m - q - 1).toNat) := by
    rw [show m.toNat = q.toNat + ((m - q - 1).toNat + 1) by omega, Int.pow_add, Int.pow_succ, Int.mul_comm (2 ^ (m - q - 1).toNat) 2]
  have p := p2_pos q
  unfold bt
  rw [e]
  have := Int.add_mul_ediv_left a (2 * 2 ^ (m - q - 1).toNat) (show (2 : Int) ^ q.toNat ≠ 0 by omega)
  rw [Int.add_comm, this]
  omega
def hom (G : (Int → Int) → Int) : Prop := ∀ (v : Int → Int) (k : Int), 0 ≤ k → G (fun g => v g * k) = G v * k
theorem fmx_hom : hom fmx := fun v k hk => by
  have mm : ∀ a b : Int, max (a * k) (b * k) = max a b * k := fun a b => by
    by_cases c : a ≤ b
    · have := Int.mul_le_mul_of_nonneg_right c hk
      rw [show max a b = b by omega]; omega
    · have := Int.mul_le_mul_of_nonneg_right (show b ≤ a by omega) hk
      rw [show max a b = a by omega]; omega
  unfold fmx
  have z : (0 : Int) = 0 * k := by omega
  rw [← mm, ← mm, ← mm, ← mm, ← z]
theorem ftv_s (s : Int → Int → Int) (S a : Int) {m : Int} (h : 0 ≤ m) (g : Int) : ftv s S a (m + 1) g = ftv s S a m g * fsh s S a m g := fo_s h _ _
theorem ftv_up (s : Int → Int → Int) (S : Int) {m a : Int} (ha : 0 ≤ a) (g : Int) : ftv s S (2 ^ m.toNat + a) m g = ftv s S a m g := fo_c (fun q q0 q1 v => by
  unfold fsh
  rw [bt_up ha ⟨q0, q1⟩])
theorem sgb_le2 (S : Int) : ∀ m, 0 ≤ m → 0 ≤ sg m (bt S) ∧ sg m (bt S) ≤ m := by
  refine in_up _ (by rw [sg_0]; omega) (fun m hm ih => ?_)
  rw [sgb_s S hm]
  have := bt_01 S m
  omega
theorem fR_pos (S m : Int) : 1 ≤ fR S m := p2_pos _
theorem fR_s (S : Int) {m : Int} (h : 0 ≤ m) : fR S (m + 1) = if bt S m = 1 then fR S m + fR S m else fR S m := by
  unfold fR
  rw [sgb_s S h]
  have b := bt_01 S m
  by_cases c : bt S m = 1
  · rw [if_pos c, c]
    exact p2_s (sgb_le2 S m h).1
  · rw [if_neg c, show bt S m = 0 by omega, Int.add_zero]
/-- rows of answers, all of them against those that are asked -/
theorem ft_main (s : Int → Int → Int) (S : Int) : ∀ m, 0 ≤ m → ∀ G, hom G → sg (2 ^ m.toNat) (fun a => G (ftv s S a m)) = sg (fR S m) (fun row => G (fca s S m row)) * 100 ^ (m - sg m (bt S)).toNat := by
  refine in_up _ (fun G _ => ?_) (fun m hm ih G hG => ?_)
  · rw [show (2 : Int) ^ Int.toNat 0 = 1 from rfl, show fR S 0 = 1 from rfl, show (100 : Int) ^ ((0 : Int) - sg 0 (bt S)).toNat = 1 from rfl, Int.mul_one]
    rfl
  · have p := p2_pos m
    have cl := sgb_le2 S m hm
    have split := sg_2 (fun a => G (ftv s S a (m + 1))) (a := 2 ^ m.toNat) (by omega) (2 ^ m.toNat) (by omega)
    rw [← p2_s hm] at split
    have both : sg (2 ^ (m + 1).toNat) (fun a => G (ftv s S a (m + 1))) = sg (2 ^ m.toNat) (fun a => G (fun g => ftv s S a m g * (if bt S m = 0 then 0 else 100 - fy s m g)) + G (fun g => ftv s S a m g * (if bt S m = 0 then 100 else fy s m g))) := by
      rw [split, ← sg_add]
      refine sg_c (fun a a0 a1 => ?_)
      have e1 : ftv s S a (m + 1) = fun g => ftv s S a m g * (if bt S m = 0 then 0 else 100 - fy s m g) := by
        funext g
        rw [ftv_s s S a hm]
        unfold fsh
        have z := bt_lo hm ⟨a0, a1⟩
        rw [z, if_neg (show ¬ ((0 : Int) = 1) by omega), if_neg (show ¬ ((0 : Int) = 1) by omega)]
      have e2 : ftv s S (2 ^ m.toNat + a) (m + 1) = fun g => ftv s S a m g * (if bt S m = 0 then 100 else fy s m g) := by
        funext g
        rw [ftv_s s S _ hm, ftv_up s S a0]
        unfold fsh
        rw [bt_hi hm ⟨a0, a1⟩, if_pos rfl, if_pos rfl]
      rw [e1, e2]
    rw [both]
    have b := bt_01 S m
    rcases b with b | b
    · rw [fR_s S hm, if_neg (by omega), sgb_s S hm, b, Int.add_zero, show (m + 1 - sg m (bt S)).toNat = (m - sg m (bt S)).toNat + 1 by omega, Int.pow_succ]
      have e : sg (2 ^ m.toNat) (fun a => G (fun g => ftv s S a m g * (if (0 : Int) = 0 then 0 else 100 - fy s m g)) + G (fun g => ftv s S a m g * (if (0 : Int) = 0 then 100 else fy s m g))) = 100 * sg (2 ^ m.toNat) (fun a => G (ftv s S a m)) := by
        rw [← sg_mul]
        refine sg_c (fun a _ _ => ?_)
        have h0 := hG (ftv s S a m) 0 (by omega)
        have h1 := hG (ftv s S a m) 100 (by omega)
        have t0 : (fun g => ftv s S a m g * (if (0 : Int) = 0 then 0 else 100 - fy s m g)) = fun g => ftv s S a m g * 0 := by funext g; rw [if_pos rfl]
        have t1 : (fun g => ftv s S a m g * (if (0 : Int) = 0 then 100 else fy s m g)) = fun g => ftv s S a m g * 100 := by funext g; rw [if_pos rfl]
        have h0' : G (fun g => ftv s S a m g * 0) = 0 := by rw [h0]; omega
        rw [t0, t1, h0', h1]; omega
      rw [e, ih G hG]
      have e2 : sg (fR S m) (fun row => G (fca s S (m + 1) row)) = sg (fR S m) (fun row => G (fca s S m row)) := sg_c (fun row _ _ => by
        congr 1
        funext g
        rw [fca_s s S hm, if_neg (by omega)])
      rw [e2]
      grind
    · have G1 := ih (fun v => G (fun g => v g * (100 - fy s m g)) + G (fun g => v g * fy s m g)) (fun v k hk => by
        have h0 := hG (fun g => v g * (100 - fy s m g)) k hk
        have h1 := hG (fun g => v g * fy s m g) k hk
        have t0 : (fun g => v g * k * (100 - fy s m g)) = fun g => v g * (100 - fy s m g) * k := by funext g; grind
        have t1 : (fun g => v g * k * fy s m g) = fun g => v g * fy s m g * k := by funext g; grind
        show G (fun g => v g * k * (100 - fy s m g)) + G (fun g => v g * k * fy s m g) = (G (fun g => v g * (100 - fy s m g)) + G (fun g => v g * fy s m g)) * k
        rw [t0, t1, h0, h1, Int.add_mul])
      have e : sg (2 ^ m.toNat) (fun a => G (fun g => ftv s S a m g * (if bt S m = 0 then 0 else 100 - fy s m g)) + G (fun g => ftv s S a m g * (if bt S m = 0 then 100 else fy s m g))) = sg (2 ^ m.toNat) (fun a => G (fun g => ftv s S a m g * (100 - fy s m g)) + G (fun g => ftv s S a m g * fy s m g)) := sg_c (fun a _ _ => by
        rw [b]
        have t0 : (fun g => ftv s S a m g * (if (1 : Int) = 0 then 0 else 100 - fy s m g)) = fun g => ftv s S a m g * (100 - fy s m g) := by funext g; rw [if_neg (by omega)]
        have t1 : (fun g => ftv s S a m g * (if (1 : Int) = 0 then 100 else fy s m g)) = fun g => ftv s S a m g * fy s m g := by funext g; rw [if_neg (by omega)]
        rw [t0, t1])
      rw [e, G1, fR_s S hm, if_pos b, sgb_s S hm, b, show m + 1 - (sg m (bt S) + 1) = m - sg m (bt S) by omega]
      congr 1
      have rp := fR_pos S m
      rw [sg_2 (fun row => G (fca s S (m + 1) row)) (a := fR S m) (by omega) (fR S m) (by omega), ← sg_add]
      refine sg_c (fun row r0 r1 => ?_)
      have e1 : fca s S (m + 1) row = fun g => fca s S m row g * (100 - fy s m g) := by
        funext g
        rw [fca_s s S hm, if_pos b, if_pos r1]
      have e2 : fca s S (m + 1) (fR S m + row) = fun g => fca s S m row g * fy s m g := by
        funext g
        rw [fca_s s S hm, if_pos b, if_neg (by omega), show fR S m + row - fR S m = row by omega]
      rw [e1, e2]
theorem fTO_GR (s : Int → Int → Int) (S : Int) (h : 0 ≤ s 146 5) : fTO s S = fGR s S * 100 ^ (s 146 5 - sg (s 146 5) (bt S)).toNat := ft_main s S (s 146 5) h fmx fmx_hom
def fW (s : Int → Int → Int) : Int := s 157 0 + s 157 1 + s 157 2 + s 157 3
theorem fca_nn {s : Int → Int → Int} (h : fQ s) (S : Int) : ∀ m, 0 ≤ m → m ≤ s 146 5 → ∀ row g, 0 ≤ g → g < 4 → 0 ≤ fca s S m row g ∧ fca s S m row g ≤ 9 * 100 ^ m.toNat := by
  refine in_up _ (fun _ row g g0 g1 => ?_) (fun m hm ih hm1 row g g0 g1 => ?_)
  · have := h.2.2 g g0 g1
    show 0 ≤ s 157 g ∧ s 157 g ≤ 9 * 1
    omega
  · have y := h.2.1 m g hm (by omega) g0 g1
    rw [fca_s s S hm, show (m + 1).toNat = m.toNat + 1 by omega, Int.pow_succ]
    have k : ∀ x z : Int, 0 ≤ x ∧ x ≤ 9 * 100 ^ m.toNat → 0 ≤ z ∧ z ≤ 100 → 0 ≤ x * z ∧ x * z ≤ 9 * (100 ^ m.toNat * 100) := fun x z hx hz => by
      have a := Int.mul_nonneg hx.1 hz.1
      have b : x * z ≤ (9 * 100 ^ m.toNat) * 100 := Int.mul_le_mul hx.2 hz.2 hz.1 (by omega)
      omega
    by_cases c : bt S m = 1
    · rw [if_pos c]
      by_cases d : row < fR S m
      · rw [if_pos d]; exact k _ _ (ih (by omega) row g g0 g1) (by omega)
      · rw [if_neg d]; exact k _ _ (ih (by omega) (row - fR S m) g g0 g1) y
    · rw [if_neg c]
      have := ih (by omega) row g g0 g1
      omega
/-- all that rows weigh -/
theorem fca_t (s : Int → Int → Int) (S : Int) : ∀ m, 0 ≤ m → sg (fR S m) (fun row => fca s S m row 0 + fca s S m row 1 + fca s S m row 2 + fca s S m row 3) = fW s * 100 ^ (sg m (bt S)).toNat := by
  refine in_up _ ?_ (fun m hm ih => ?_)
  · rw [show fR S 0 = 1 from rfl, show (100 : Int) ^ (sg 0 (bt S)).toNat = 1 from rfl, Int.mul_one, show (1 : Int) = 0 + 1 from rfl, sg_s (by omega), sg_0, Int.zero_add]
    rfl
  · have rp := fR_pos S m
    have cl := sgb_le2 S m hm
    rcases bt_01 S m with b | b
    · rw [fR_s S hm, if_neg (by omega), sgb_s S hm, b, Int.add_zero, ← ih]
      exact sg_c (fun row _ _ => by rw [fca_s s S hm, fca_s s S hm, fca_s s S hm, fca_s s S hm, if_neg (by omega), if_neg (by omega), if_neg (by omega), if_neg (by omega)])
    · rw [fR_s S hm, if_pos b, sgb_s S hm, b, show (sg m (bt S) + 1).toNat = (sg m (bt S)).toNat + 1 by omega, Int.pow_succ, ← Int.mul_assoc, ← ih, sg_2 _ (a := fR S m) (by omega) (fR S m) (by omega), ← sg_add, Int.mul_comm, ← sg_mul]
      refine sg_c (fun row r0 r1 => ?_)
      have u : ∀ g, fca s S (m + 1) row g = fca s S m row g * (100 - fy s m g) := fun g => by rw [fca_s s S hm, if_pos b, if_pos r1]
      have v : ∀ g, fca s S (m + 1) (fR S m + row) g = fca s S m row g * fy s m g := fun g => by rw [fca_s s S hm, if_pos b, if_neg (by omega), show fR S m + row - fR S m = row by omega]
      rw [u, u, u, u, v, v, v, v]
      grind
theorem fGR_b {s : Int → Int → Int} (h : fQ s) (S : Int) : 0 ≤ fGR s S ∧ fGR s S ≤ fW s * 100 ^ (sg (s 146 5) (bt S)).toNat := by
  refine ⟨sg_nn (fun row _ _ => by unfold fmx; omega), ?_⟩
  rw [← fca_t s S (s 146 5) h.1.1]
  refine sg_le (fun row _ _ => ?_)
  have a := fca_nn h S (s 146 5) h.1.1 (Int.le_refl _) row 0 (by omega) (by omega)
  have b := fca_nn h S (s 146 5) h.1.1 (Int.le_refl _) row 1 (by omega) (by omega)
  have c := fca_nn h S (s 146 5) h.1.1 (Int.le_refl _) row 2 (by omega) (by omega)
  have d := fca_nn h S (s 146 5) h.1.1 (Int.le_refl _) row 3 (by omega) (by omega)
  unfold fmx
  omega
theorem fW_b {s : Int → Int → Int} (h : fQ s) : 4 ≤ fW s ∧ fW s ≤ 36 := by
  have a := h.2.2 0 (by omega) (by omega)
  have b := h.2.2 1 (by omega) (by omega)
  have c := h.2.2 2 (by omega) (by omega)
  have d := h.2.2 3 (by omega) (by omega)
  unfold fW; omega
theorem c100 {k : Int} (h0 : 0 ≤ k) (h1 : k ≤ 6) : 1 ≤ (100 : Int) ^ k.toNat ∧ (100 : Int) ^ k.toNat ≤ 1000000000000 := by
  have a : (100 : Int) ^ 0 ≤ 100 ^ k.toNat := ipow_le (by decide) (by omega)
  have b : (100 : Int) ^ k.toNat ≤ 100 ^ 6 := ipow_le (by decide) (by omega)
  have e : (100 : Int) ^ 6 = 1000000000000 := rfl
  have e0 : (100 : Int) ^ 0 = 1 := rfl
  omega
theorem c100_m {a b : Int} (ha : 0 ≤ a) (hb : 0 ≤ b) : (100 : Int) ^ a.toNat * 100 ^ b.toNat = 100 ^ (a + b).toNat := by
  rw [show (a + b).toNat = a.toNat + b.toNat by omega, Int.pow_add]
theorem ftv_b {s : Int → Int → Int} (h : fQ s) (S a : Int) {g : Int} (g0 : 0 ≤ g ∧ g < 4) : ∀ m, 0 ≤ m → m ≤ s 146 5 → 0 ≤ ftv s S a m g ∧ ftv s S a m g ≤ 9 * 100 ^ m.toNat := by
  refine in_up _ (fun _ => ?_) (fun m hm ih hm1 => ?_)
  · have := h.2.2 g g0.1 g0.2
    show 0 ≤ s 157 g ∧ s 157 g ≤ 9 * 1
    omega
  · have y := h.2.1 m g hm (by omega) g0.1 g0.2
    have i := ih (by omega)
    rw [ftv_s s S a hm, show (m + 1).toNat = m.toNat + 1 by omega, Int.pow_succ]
    have hz : 0 ≤ fsh s S a m g ∧ fsh s S a m g ≤ 100 := by
      unfold fsh
      by_cases c : bt S m = 0
      · rw [if_pos c]
        by_cases d : bt a m = 1
        · rw [if_pos d]; omega
        · rw [if_neg d]; omega
      · rw [if_neg c]
        by_cases d : bt a m = 1
        · rw [if_pos d]; omega
        · rw [if_neg d]; omega
    have a1 := Int.mul_nonneg i.1 hz.1
    have b : ftv s S a m g * fsh s S a m g ≤ (9 * 100 ^ m.toNat) * 100 := Int.mul_le_mul i.2 hz.2 hz.1 (by omega)
    omega
