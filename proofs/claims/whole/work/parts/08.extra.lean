/-! answers that are true or false; bits and shifts over whole numbers; Math's members; a copied array -/
def jbo (p : Prop) [Decidable p] : Int := if p then 1 else 0
theorem jbo_01 (p : Prop) [Decidable p] : jbo p = 0 ∨ jbo p = 1 := by unfold jbo; split <;> simp
theorem jbo_32 (p : Prop) [Decidable p] : jr32 (jbo p) := by unfold jbo; split <;> exact ⟨by omega, by omega⟩
theorem jbo_0 {p : Prop} [Decidable p] : jbo p = 0 ↔ ¬ p := by unfold jbo; split <;> simp_all
theorem jbo_t {p : Prop} [Decidable p] (h : p) : jbo p = 1 := if_pos h
theorem jbo_f {p : Prop} [Decidable p] (h : ¬ p) : jbo p = 0 := if_neg h
theorem jbo_c {p q : Prop} [Decidable p] [Decidable q] (h : p ↔ q) : jbo p = jbo q := by unfold jbo; simp only [h]
def jor (x y : Int) : Int := ((x.toNat ||| y.toNat : Nat) : Int)
def jand (x y : Int) : Int := ((x.toNat &&& y.toNat : Nat) : Int)
theorem js_l : ∀ k, k < 32 → ((Int32.ofInt ((k : Nat) : Int) &&& 31).toBitVec.smod 32).toNat = k := by decide +kernel
theorem js_tp : ∀ k, k < 32 → (Int32.ofInt (((2 ^ k : Nat)) : Int)).toBitVec = BitVec.twoPow 32 k := by decide +kernel
theorem js_L : ∀ k, k < 64 → (((Int32.ofInt ((k : Nat) : Int)).toInt64 &&& 63).toBitVec.smod 64).toNat = k := by decide +kernel
theorem js_tpL : ∀ k, k < 64 → (Int64.ofInt (((2 ^ k : Nat)) : Int)).toBitVec = BitVec.twoPow 64 k := by decide +kernel
theorem jshr32 {x y : Int} (hx : jr32 x) (hy : 0 ≤ y ∧ y ≤ 31) : Int32.ofInt x >>> (Int32.ofInt y &&& 31) = Int32.ofInt (x / 2 ^ y.toNat) := by
  obtain ⟨k, rfl⟩ : ∃ k : Nat, y = (k : Int) := ⟨y.toNat, by omega⟩
  have hk : k < 32 := by omega
  apply Int32.toInt_inj.mp
  have hp : (0 : Int) < 2 ^ k := Int.pow_pos (by decide)
  have h1 : x / 2 ^ k ≤ 2147483647 := by
    by_cases h0 : 0 ≤ x
    · exact Int.le_trans (Int.ediv_le_self _ h0) hx.2
    · have := Int.ediv_neg_of_neg_of_pos (by omega : x < 0) hp
      omega
  have h2 : -2147483648 ≤ x / 2 ^ k := by
    rw [Int.le_ediv_iff_mul_le hp]
    have : (1 : Int) ≤ 2 ^ k := hp
    have h3 : (-2147483648 : Int) * 2 ^ k ≤ -2147483648 * 1 := Int.mul_le_mul_of_nonpos_left (by decide) this
    have := hx.1
    omega
  rw [pk_shr _ _ k (js_l k hk), j32T hx, Int.toNat_natCast, j32T ⟨h2, h1⟩, Int.shiftRight_eq_div_pow]
  rw [Int.natCast_pow]
  rfl
theorem jshl32 (x : Int) {y : Int} (hy : 0 ≤ y ∧ y ≤ 31) : Int32.ofInt x <<< (Int32.ofInt y &&& 31) = Int32.ofInt (x * 2 ^ y.toNat) := by
  obtain ⟨k, rfl⟩ : ∃ k : Nat, y = (k : Int) := ⟨y.toNat, by omega⟩
  have hk : k < 32 := by omega
  apply Int32.toBitVec_inj.1
  show (Int32.ofInt x).toBitVec <<< ((Int32.ofInt (k : Int) &&& 31).toBitVec.smod 32).toNat = _
  rw [js_l k hk, Int.toNat_natCast, Int32.ofInt_mul, Int32.toBitVec_mul, BitVec.shiftLeft_eq_mul_twoPow, ← js_tp k hk, Int.natCast_pow]
  rfl
theorem jshr64 {x y : Int} (hx : jr64 x) (hy : 0 ≤ y ∧ y ≤ 63) : Int64.ofInt x >>> ((Int32.ofInt y).toInt64 &&& 63) = Int64.ofInt (x / 2 ^ y.toNat) := by
  obtain ⟨k, rfl⟩ : ∃ k : Nat, y = (k : Int) := ⟨y.toNat, by omega⟩
  have hk : k < 64 := by omega
  apply Int64.toInt_inj.mp
  have hp : (0 : Int) < 2 ^ k := Int.pow_pos (by decide)
  have h1 : x / 2 ^ k ≤ 9223372036854775807 := by
    by_cases h0 : 0 ≤ x
    · exact Int.le_trans (Int.ediv_le_self _ h0) hx.2
    · have := Int.ediv_neg_of_neg_of_pos (by omega : x < 0) hp
      omega
  have h2 : -9223372036854775808 ≤ x / 2 ^ k := by
    rw [Int.le_ediv_iff_mul_le hp]
    have : (1 : Int) ≤ 2 ^ k := hp
    have h3 : (-9223372036854775808 : Int) * 2 ^ k ≤ -9223372036854775808 * 1 := Int.mul_le_mul_of_nonpos_left (by decide) this
    have := hx.1
    omega
  have e : (Int64.ofInt x >>> ((Int32.ofInt (k : Int)).toInt64 &&& 63)).toInt = (Int64.ofInt x).toInt >>> k := by
    show ((Int64.ofInt x).toBitVec.sshiftRight (((Int32.ofInt (k : Int)).toInt64 &&& 63).toBitVec.smod 64).toNat).toInt = _
    rw [js_L k hk, BitVec.toInt_sshiftRight]
    rfl
  rw [e, j64T hx, Int.toNat_natCast, j64T ⟨h2, h1⟩, Int.shiftRight_eq_div_pow, Int.natCast_pow]
  rfl
theorem jshl64 (x : Int) {y : Int} (hy : 0 ≤ y ∧ y ≤ 63) : Int64.ofInt x <<< ((Int32.ofInt y).toInt64 &&& 63) = Int64.ofInt (x * 2 ^ y.toNat) := by
  obtain ⟨k, rfl⟩ : ∃ k : Nat, y = (k : Int) := ⟨y.toNat, by omega⟩
  have hk : k < 64 := by omega
  apply Int64.toBitVec_inj.1
  show (Int64.ofInt x).toBitVec <<< (((Int32.ofInt (k : Int)).toInt64 &&& 63).toBitVec.smod 64).toNat = _
  rw [js_L k hk, Int.toNat_natCast, Int64.ofInt_mul, Int64.toBitVec_mul, BitVec.shiftLeft_eq_mul_twoPow, ← js_tpL k hk, Int.natCast_pow]
  rfl
theorem jdvd {k m : Nat} (h : k ≤ m) : (2 : Int) ^ k ∣ ((2 ^ m : Nat) : Int) := by
  rw [show (2 : Int) ^ k = ((2 ^ k : Nat) : Int) by rw [Int.natCast_pow]; rfl]
  exact Int.natCast_dvd_natCast.mpr (Nat.pow_dvd_pow 2 h)
theorem jmask32 (x : Int) (k : Nat) (hk : k ≤ 31) {v : Int} (hv : v = 2 ^ k - 1) : Int32.ofInt x &&& Int32.ofInt v = Int32.ofInt (x % 2 ^ k) := by
  have e : (Int32.ofInt v).toBitVec.toNat = 2 ^ k - 1 := by
    subst hv
    have : ∀ k, k < 32 → (Int32.ofInt (2 ^ k - 1)).toBitVec.toNat = 2 ^ k - 1 := by decide +kernel
    exact this k (by omega)
  rw [pk_and _ k e]
  show Int32.ofNat _ = _
  rw [← Int32.ofInt_eq_ofNat]
  congr 1
  show (((BitVec.ofInt 32 x).toNat % 2 ^ k : Nat) : Int) = _
  rw [BitVec.toNat_ofInt, Int.natCast_emod, Int.toNat_of_nonneg (Int.emod_nonneg _ (by decide)), Int.natCast_pow]
  exact Int.emod_emod_of_dvd x (jdvd (by omega))
theorem jmask64 (x : Int) (k : Nat) (hk : k ≤ 63) {v : Int} (hv : v = 2 ^ k - 1) : Int64.ofInt x &&& Int64.ofInt v = Int64.ofInt (x % 2 ^ k) := by
  have e : (Int64.ofInt v).toBitVec.toNat = 2 ^ k - 1 := by
    subst hv
    have : ∀ k, k < 64 → (Int64.ofInt (2 ^ k - 1)).toBitVec.toNat = 2 ^ k - 1 := by decide +kernel
    exact this k (by omega)
  apply Int64.toBitVec_inj.1
  apply BitVec.eq_of_toNat_eq
  rw [Int64.toBitVec_and, BitVec.toNat_and, e, Nat.and_two_pow_sub_one_eq_mod]
  show (BitVec.ofInt 64 x).toNat % 2 ^ k = (BitVec.ofInt 64 (x % 2 ^ k)).toNat
  rw [BitVec.toNat_ofInt, BitVec.toNat_ofInt]
  have hd : (2 : Int) ^ k ∣ ((2 ^ 64 : Nat) : Int) := jdvd (by omega)
  have h3 : (x % 2 ^ k) % ((2 ^ 64 : Nat) : Int) = x % 2 ^ k := Int.emod_eq_of_lt (Int.emod_nonneg _ (by have : (0 : Int) < 2 ^ k := Int.pow_pos (by decide); omega)) (by
    have h4 : (0 : Int) < 2 ^ k := Int.pow_pos (by decide)
    have h5 := Int.emod_lt_of_pos x h4
    have h6 := Int.le_of_dvd (by decide) hd
    omega)
  rw [h3]
  have h7 : (((x % ((2 ^ 64 : Nat) : Int)).toNat % 2 ^ k : Nat) : Int) = x % 2 ^ k := by
    rw [Int.natCast_emod, Int.toNat_of_nonneg (Int.emod_nonneg _ (by decide)), Int.natCast_pow]
    exact Int.emod_emod_of_dvd x hd
  omega
theorem jor32 {x y : Int} (hx : 0 ≤ x) (hy : 0 ≤ y) : Int32.ofInt x ||| Int32.ofInt y = Int32.ofInt (jor x y) := by
  obtain ⟨a, rfl⟩ : ∃ a : Nat, x = (a : Int) := ⟨x.toNat, by omega⟩
  obtain ⟨b, rfl⟩ : ∃ b : Nat, y = (b : Int) := ⟨y.toNat, by omega⟩
  simp only [jor, Int.toNat_natCast, Int32.ofInt_eq_ofNat]
  apply Int32.toBitVec_inj.1
  show BitVec.ofNat 32 a ||| BitVec.ofNat 32 b = BitVec.ofNat 32 (a ||| b)
  apply BitVec.eq_of_getLsbD_eq
  intro i hi
  simp [hi]
theorem jand32 {x y : Int} (hx : 0 ≤ x) (hy : 0 ≤ y) : Int32.ofInt x &&& Int32.ofInt y = Int32.ofInt (jand x y) := by
  obtain ⟨a, rfl⟩ : ∃ a : Nat, x = (a : Int) := ⟨x.toNat, by omega⟩
  obtain ⟨b, rfl⟩ : ∃ b : Nat, y = (b : Int) := ⟨y.toNat, by omega⟩
  simp only [jand, Int.toNat_natCast, Int32.ofInt_eq_ofNat]
  apply Int32.toBitVec_inj.1
  show BitVec.ofNat 32 a &&& BitVec.ofNat 32 b = BitVec.ofNat 32 (a &&& b)
  apply BitVec.eq_of_getLsbD_eq
  intro i hi
  simp [hi]
theorem jnot32 (x : Int) : Int32.ofInt x ^^^ Int32.ofInt (-1) = Int32.ofInt (-1 - x) := by
  apply Int32.toBitVec_inj.1
  show (Int32.ofInt x).toBitVec ^^^ BitVec.allOnes 32 = (Int32.ofInt (-1 - x)).toBitVec
  rw [BitVec.xor_allOnes, BitVec.not_eq_neg_add, Int32.ofInt_sub, Int32.toBitVec_sub]
  show - (Int32.ofInt x).toBitVec - 1#32 = (-1#32) - (Int32.ofInt x).toBitVec
  rw [BitVec.sub_eq_add_neg, BitVec.sub_eq_add_neg, BitVec.add_comm]
theorem jandn32 {x f : Int} (hx : 0 ≤ x ∧ x < 256) (hf : 0 ≤ f ∧ f < 8) : Int32.ofInt x &&& Int32.ofInt (-1 - 2 ^ f.toNat) = Int32.ofInt (x - x / 2 ^ f.toNat % 2 * 2 ^ f.toNat) := by
  obtain ⟨a, rfl⟩ : ∃ a : Nat, x = (a : Int) := ⟨x.toNat, by omega⟩
  obtain ⟨k, rfl⟩ : ∃ k : Nat, f = (k : Int) := ⟨f.toNat, by omega⟩
  have : ∀ a, a < 256 → ∀ k, k < 8 → Int32.ofInt ((a : Nat) : Int) &&& Int32.ofInt (-1 - 2 ^ ((k : Nat) : Int).toNat) = Int32.ofInt ((a : Int) - (a : Int) / 2 ^ ((k : Nat) : Int).toNat % 2 * 2 ^ ((k : Nat) : Int).toNat) := by decide +kernel
  exact this a (by omega) k (by omega)
theorem jlor_sum {x y : Int} (k : Nat) (hk : k ≤ 62) (hx : x % 2 ^ k = 0) (hy : 0 ≤ y ∧ y < 2 ^ k) : Int64.ofInt x ||| Int64.ofInt y = Int64.ofInt (x + y) := by
  have hp : (0 : Int) < 2 ^ k := Int.pow_pos (by decide)
  apply Int64.toBitVec_inj.1
  rw [Int64.ofInt_add, Int64.toBitVec_add, Int64.toBitVec_or]
  refine (BitVec.add_eq_or_of_and_eq_zero _ _ ?_).symm
  apply BitVec.eq_of_toNat_eq
  rw [BitVec.toNat_and]
  show (BitVec.ofInt 64 x).toNat &&& (BitVec.ofInt 64 y).toNat = 0
  obtain ⟨b, rfl⟩ : ∃ b : Nat, y = (b : Int) := ⟨y.toNat, by omega⟩
  have hb : b < 2 ^ k := by
    have : (b : Int) < ((2 ^ k : Nat) : Int) := by rw [Int.natCast_pow]; exact hy.2
    exact Int.ofNat_lt.mp this
  rw [BitVec.toNat_ofInt, BitVec.toNat_ofInt]
  have hd : (2 : Int) ^ k ∣ ((2 ^ 64 : Nat) : Int) := jdvd (by omega)
  have h1 : (2 : Nat) ^ k ∣ (x % ((2 ^ 64 : Nat) : Int)).toNat := by
    have h2 : (2 : Int) ^ k ∣ x % ((2 ^ 64 : Nat) : Int) := by
      rw [Int.emod_def]
      exact Int.dvd_sub (Int.dvd_of_emod_eq_zero hx) (Int.dvd_trans hd (Int.dvd_mul_right _ _))
    exact Int.natCast_dvd_natCast.mp (by rw [Int.natCast_pow, Int.toNat_of_nonneg (Int.emod_nonneg _ (by decide))]; exact h2)
  obtain ⟨q, hq⟩ := h1
  rw [hq]
  apply Nat.eq_of_testBit_eq
  intro i
  rw [Nat.testBit_and, Nat.zero_testBit, Nat.testBit_two_pow_mul]
  by_cases hi : k ≤ i
  · have : (((b : Int) % ((2 ^ 64 : Nat) : Int)).toNat).testBit i = false := by
      apply Nat.testBit_lt_two_pow
      have h9 : ((b : Int) % ((2 ^ 64 : Nat) : Int)).toNat ≤ b := by
        have : (b : Int) % ((2 ^ 64 : Nat) : Int) = ((b % 2 ^ 64 : Nat) : Int) := by rw [Int.natCast_emod]
        rw [this, Int.toNat_natCast]
        exact Nat.mod_le _ _
      exact Nat.lt_of_le_of_lt h9 (Nat.lt_of_lt_of_le hb (Nat.pow_le_pow_right (by decide) hi))
    rw [this, Bool.and_false]
  · simp [hi]

theorem k_ifb_eq {me : jM} {pc : Nat} {ls st : List jV} {s : Int → Int → Int} {Q : Option jV → (Int → Int → Int) → Prop} {p : Prop} [Decidable p] {off : Int} (tgt : Nat) (hd : decode me.2.2.1 pc = .ok (.ifCond .eq off, 3)) (ht : (pc : Int) + off = (tgt : Int)) (kt : ¬ p → kK me tgt ls st s Q) (kf : p → kK me (pc + 3) ls st s Q) : kK me pc ls (jI (jbo p) :: st) s Q :=
  k_if_eq tgt hd ht (jbo_32 p) (fun q => kt (jbo_0.mp q)) (fun q => kf (Decidable.byContradiction fun q2 => q (jbo_0.mpr q2)))
theorem k_ifb_ne {me : jM} {pc : Nat} {ls st : List jV} {s : Int → Int → Int} {Q : Option jV → (Int → Int → Int) → Prop} {p : Prop} [Decidable p] {off : Int} (tgt : Nat) (hd : decode me.2.2.1 pc = .ok (.ifCond .ne off, 3)) (ht : (pc : Int) + off = (tgt : Int)) (kt : p → kK me tgt ls st s Q) (kf : ¬ p → kK me (pc + 3) ls st s Q) : kK me pc ls (jI (jbo p) :: st) s Q :=
  k_if_ne tgt hd ht (jbo_32 p) (fun q => kt (Decidable.byContradiction fun q2 => q (jbo_0.mpr q2))) (fun q => kf (jbo_0.mp q))
theorem k_shr {me : jM} {pc : Nat} {ls st : List jV} {s : Int → Int → Int} {Q : Option jV → (Int → Int → Int) → Prop} {x y : Int} (hd : decode me.2.2.1 pc = .ok (.ishr, 1)) (hx : jr32 x) (hy : 0 ≤ y ∧ y ≤ 31) (k : kK me (pc + 1) ls (jI (x / 2 ^ y.toNat) :: st) s Q) : kK me pc ls (jI y :: jI x :: st) s Q := k_ishr _ hd (jshr32 hx hy) k
theorem k_shl {me : jM} {pc : Nat} {ls st : List jV} {s : Int → Int → Int} {Q : Option jV → (Int → Int → Int) → Prop} {x y : Int} (hd : decode me.2.2.1 pc = .ok (.ishl, 1)) (hy : 0 ≤ y ∧ y ≤ 31) (k : kK me (pc + 1) ls (jI (x * 2 ^ y.toNat) :: st) s Q) : kK me pc ls (jI y :: jI x :: st) s Q := k_ishl _ hd (jshl32 x hy) k
theorem k_shrL {me : jM} {pc : Nat} {ls st : List jV} {s : Int → Int → Int} {Q : Option jV → (Int → Int → Int) → Prop} {x y : Int} (hd : decode me.2.2.1 pc = .ok (.lshr, 1)) (hx : jr64 x) (hy : 0 ≤ y ∧ y ≤ 63) (k : kK me (pc + 1) ls (jL (x / 2 ^ y.toNat) :: st) s Q) : kK me pc ls (jI y :: jL x :: st) s Q := k_lshr _ hd (jshr64 hx hy) k
theorem k_shlL {me : jM} {pc : Nat} {ls st : List jV} {s : Int → Int → Int} {Q : Option jV → (Int → Int → Int) → Prop} {x y : Int} (hd : decode me.2.2.1 pc = .ok (.lshl, 1)) (hy : 0 ≤ y ∧ y ≤ 63) (k : kK me (pc + 1) ls (jL (x * 2 ^ y.toNat) :: st) s Q) : kK me pc ls (jI y :: jL x :: st) s Q := k_lshl _ hd (jshl64 x hy) k
theorem k_and1 {me : jM} {pc : Nat} {ls st : List jV} {s : Int → Int → Int} {Q : Option jV → (Int → Int → Int) → Prop} {x : Int} (hd : decode me.2.2.1 pc = .ok (.iand, 1)) (k : kK me (pc + 1) ls (jI (x % 2) :: st) s Q) : kK me pc ls (jI 1 :: jI x :: st) s Q := k_iand _ hd (jmask32 x 1 (by decide) rfl) k
theorem k_and31 {me : jM} {pc : Nat} {ls st : List jV} {s : Int → Int → Int} {Q : Option jV → (Int → Int → Int) → Prop} {x : Int} (hd : decode me.2.2.1 pc = .ok (.iand, 1)) (k : kK me (pc + 1) ls (jI (x % 32) :: st) s Q) : kK me pc ls (jI 31 :: jI x :: st) s Q := k_iand _ hd (jmask32 x 5 (by decide) rfl) k
theorem k_andM {me : jM} {pc : Nat} {ls st : List jV} {s : Int → Int → Int} {Q : Option jV → (Int → Int → Int) → Prop} {x : Int} (hd : decode me.2.2.1 pc = .ok (.iand, 1)) (k : kK me (pc + 1) ls (jI (x % 1073741824) :: st) s Q) : kK me pc ls (jI 1073741823 :: jI x :: st) s Q := k_iand _ hd (jmask32 x 30 (by decide) rfl) k
theorem k_andML {me : jM} {pc : Nat} {ls st : List jV} {s : Int → Int → Int} {Q : Option jV → (Int → Int → Int) → Prop} {x : Int} (hd : decode me.2.2.1 pc = .ok (.land, 1)) (k : kK me (pc + 1) ls (jL (x % 1073741824) :: st) s Q) : kK me pc ls (jL 1073741823 :: jL x :: st) s Q := k_land _ hd (jmask64 x 30 (by decide) rfl) k
theorem k_or {me : jM} {pc : Nat} {ls st : List jV} {s : Int → Int → Int} {Q : Option jV → (Int → Int → Int) → Prop} {x y : Int} (hd : decode me.2.2.1 pc = .ok (.ior, 1)) (hx : 0 ≤ x) (hy : 0 ≤ y) (k : kK me (pc + 1) ls (jI (jor x y) :: st) s Q) : kK me pc ls (jI y :: jI x :: st) s Q := k_ior _ hd (jor32 hx hy) k
theorem k_and {me : jM} {pc : Nat} {ls st : List jV} {s : Int → Int → Int} {Q : Option jV → (Int → Int → Int) → Prop} {x y : Int} (hd : decode me.2.2.1 pc = .ok (.iand, 1)) (hx : 0 ≤ x) (hy : 0 ≤ y) (k : kK me (pc + 1) ls (jI (jand x y) :: st) s Q) : kK me pc ls (jI y :: jI x :: st) s Q := k_iand _ hd (jand32 hx hy) k
theorem k_not {me : jM} {pc : Nat} {ls st : List jV} {s : Int → Int → Int} {Q : Option jV → (Int → Int → Int) → Prop} {x : Int} (hd : decode me.2.2.1 pc = .ok (.ixor, 1)) (k : kK me (pc + 1) ls (jI (-1 - x) :: st) s Q) : kK me pc ls (jI (-1) :: jI x :: st) s Q := k_ixor _ hd (jnot32 x) k
theorem k_lorS {me : jM} {pc : Nat} {ls st : List jV} {s : Int → Int → Int} {Q : Option jV → (Int → Int → Int) → Prop} {x y : Int} (hd : decode me.2.2.1 pc = .ok (.lor, 1)) (hx : x % 1073741824 = 0) (hy : 0 ≤ y ∧ y < 1073741824) (k : kK me (pc + 1) ls (jL (x + y) :: st) s Q) : kK me pc ls (jL y :: jL x :: st) s Q := k_lor _ hd (jlor_sum 30 (by decide) hx hy) k

theorem j_mmaxI {me : jM} {pc : Nat} {ls st : List jV} {n : Nat} {h : Int → jE} {nc ns : Nat} {Q : Option jV → Nat → (Int → jE) → Prop} {x y : Int} {idx : Nat} (hd : decode me.2.2.1 pc = .ok (.invokestatic idx, 3)) (hw : Cond.methodLink me.1 idx Lib.Math.max.name ∈ jws) (hw2 : Cond.static Lib.Math.max.name ∈ jws) (hw3 : Cond.initialized "java/lang/Math" ∈ jws) (hw4 : Cond.code Lib.Math.max.name Lib.Math.max.code 2 (some .int) ∈ jws) (hb : (decide (1 ≤ me.2.2.2.2.2.frames) && (decide ((st.map jcat).sum + 13 ≤ me.2.2.2.2.2.locals) && (decide (nc ≤ me.2.2.2.2.2.cells) && decide (ns ≤ me.2.2.2.2.2.slots)))) = true) (hx : jr32 x) (hy : jr32 y) (k : jJ me (pc + 3) ls (jI (max x y) :: st) n h nc ns Q) : jJ me pc ls (jI y :: jI x :: st) n h nc ns Q := by
  intro p l e s m args below meth c base b D cA SC H locs lsS Z C G hW hS hl hZ
  simp only [Bool.and_eq_true, decide_eq_true_eq] at hb
  have hts := C.2.2.2.2.2.1
  refine va_mmax C.1 C.2.1 (by rw [C.2.2.1]; exact hl.1.symm) C.2.2.2.2.1 (hts _ hw) (hts _ hw2) (hts _ hw3) (hts _ hw4) hb.1 (by rw [jcat_sum]; exact hb.2.1) hb.2.2.1 hb.2.2.2 hd ?_
  have ee : (if Int32.ofInt x < Int32.ofInt y then Int32.ofInt y else Int32.ofInt x) = Int32.ofInt (max x y) := by
    simp only [j32_lt hx hy]
    split
    · congr 1; omega
    · congr 1; omega
  rw [ee]
  exact k p l e s m args below meth c base b D cA SC H locs lsS Z C G hW hS hl hZ
theorem k_mmaxI {me : jM} {pc : Nat} {ls st : List jV} {s : Int → Int → Int} {Q : Option jV → (Int → Int → Int) → Prop} {x y : Int} {idx : Nat} (hd : decode me.2.2.1 pc = .ok (.invokestatic idx, 3)) (hw : Cond.methodLink me.1 idx Lib.Math.max.name ∈ jws) (hw2 : Cond.static Lib.Math.max.name ∈ jws) (hw3 : Cond.initialized "java/lang/Math" ∈ jws) (hw4 : Cond.code Lib.Math.max.name Lib.Math.max.code 2 (some .int) ∈ jws) (hb : (decide (1 ≤ me.2.2.2.2.2.frames) && (decide ((st.map jcat).sum + 13 ≤ me.2.2.2.2.2.locals) && (decide (0 ≤ me.2.2.2.2.2.cells) && decide (0 ≤ me.2.2.2.2.2.slots)))) = true) (hx : jr32 x) (hy : jr32 y) (k : kK me (pc + 3) ls (jI (max x y) :: st) s Q) : kK me pc ls (jI y :: jI x :: st) s Q := j_mmaxI hd hw hw2 hw3 hw4 hb hx hy k
theorem j_mminI {me : jM} {pc : Nat} {ls st : List jV} {n : Nat} {h : Int → jE} {nc ns : Nat} {Q : Option jV → Nat → (Int → jE) → Prop} {x y : Int} {idx : Nat} (hd : decode me.2.2.1 pc = .ok (.invokestatic idx, 3)) (hw : Cond.methodLink me.1 idx Lib.Math.min.name ∈ jws) (hw2 : Cond.static Lib.Math.min.name ∈ jws) (hw3 : Cond.initialized "java/lang/Math" ∈ jws) (hw4 : Cond.code Lib.Math.min.name Lib.Math.min.code 2 (some .int) ∈ jws) (hb : (decide (1 ≤ me.2.2.2.2.2.frames) && (decide ((st.map jcat).sum + 13 ≤ me.2.2.2.2.2.locals) && (decide (nc ≤ me.2.2.2.2.2.cells) && decide (ns ≤ me.2.2.2.2.2.slots)))) = true) (hx : jr32 x) (hy : jr32 y) (k : jJ me (pc + 3) ls (jI (min x y) :: st) n h nc ns Q) : jJ me pc ls (jI y :: jI x :: st) n h nc ns Q := by
  intro p l e s m args below meth c base b D cA SC H locs lsS Z C G hW hS hl hZ
  simp only [Bool.and_eq_true, decide_eq_true_eq] at hb
  have hts := C.2.2.2.2.2.1
  refine va_mmin C.1 C.2.1 (by rw [C.2.2.1]; exact hl.1.symm) C.2.2.2.2.1 (hts _ hw) (hts _ hw2) (hts _ hw3) (hts _ hw4) hb.1 (by rw [jcat_sum]; exact hb.2.1) hb.2.2.1 hb.2.2.2 hd ?_
  have ee : (if Int32.ofInt y < Int32.ofInt x then Int32.ofInt y else Int32.ofInt x) = Int32.ofInt (min x y) := by
    simp only [j32_lt hy hx]
    split
    · congr 1; omega
    · congr 1; omega
  rw [ee]
  exact k p l e s m args below meth c base b D cA SC H locs lsS Z C G hW hS hl hZ
theorem k_mminI {me : jM} {pc : Nat} {ls st : List jV} {s : Int → Int → Int} {Q : Option jV → (Int → Int → Int) → Prop} {x y : Int} {idx : Nat} (hd : decode me.2.2.1 pc = .ok (.invokestatic idx, 3)) (hw : Cond.methodLink me.1 idx Lib.Math.min.name ∈ jws) (hw2 : Cond.static Lib.Math.min.name ∈ jws) (hw3 : Cond.initialized "java/lang/Math" ∈ jws) (hw4 : Cond.code Lib.Math.min.name Lib.Math.min.code 2 (some .int) ∈ jws) (hb : (decide (1 ≤ me.2.2.2.2.2.frames) && (decide ((st.map jcat).sum + 13 ≤ me.2.2.2.2.2.locals) && (decide (0 ≤ me.2.2.2.2.2.cells) && decide (0 ≤ me.2.2.2.2.2.slots)))) = true) (hx : jr32 x) (hy : jr32 y) (k : kK me (pc + 3) ls (jI (min x y) :: st) s Q) : kK me pc ls (jI y :: jI x :: st) s Q := j_mminI hd hw hw2 hw3 hw4 hb hx hy k
theorem j_mmaxL {me : jM} {pc : Nat} {ls st : List jV} {n : Nat} {h : Int → jE} {nc ns : Nat} {Q : Option jV → Nat → (Int → jE) → Prop} {x y : Int} {idx : Nat} (hd : decode me.2.2.1 pc = .ok (.invokestatic idx, 3)) (hw : Cond.methodLink me.1 idx Lib.MathLoose.max_long.x ∈ jws) (hw2 : Cond.static Lib.MathLoose.max_long.x ∈ jws) (hw3 : Cond.initialized "java/lang/Math" ∈ jws) (hw4 : Cond.code Lib.MathLoose.max_long.x Lib.MathLoose.max_long.code 4 (some .long) ∈ jws) (hb : (decide (1 ≤ me.2.2.2.2.2.frames) && (decide ((st.map jcat).sum + 15 ≤ me.2.2.2.2.2.locals) && (decide (nc ≤ me.2.2.2.2.2.cells) && decide (ns ≤ me.2.2.2.2.2.slots)))) = true) (hx : jr64 x) (hy : jr64 y) (k : jJ me (pc + 3) ls (jL (max x y) :: st) n h nc ns Q) : jJ me pc ls (jL y :: jL x :: st) n h nc ns Q := by
  intro p l e s m args below meth c base b D cA SC H locs lsS Z C G hW hS hl hZ
  simp only [Bool.and_eq_true, decide_eq_true_eq] at hb
  have hts := C.2.2.2.2.2.1
  refine va_mmax_long C.1 C.2.1 (by rw [C.2.2.1]; exact hl.1.symm) C.2.2.2.2.1 (hts _ hw) (hts _ hw2) (hts _ hw3) (hts _ hw4) hb.1 (by rw [jcat_sum]; exact hb.2.1) hb.2.2.1 hb.2.2.2 hd ?_
  have ee : (if Int64.ofInt y < Int64.ofInt x then Int64.ofInt x else Int64.ofInt y) = Int64.ofInt (max x y) := by
    simp only [j64_lt hy hx]
    split
    · congr 1; omega
    · congr 1; omega
  rw [ee]
  exact k p l e s m args below meth c base b D cA SC H locs lsS Z C G hW hS hl hZ
theorem k_mmaxL {me : jM} {pc : Nat} {ls st : List jV} {s : Int → Int → Int} {Q : Option jV → (Int → Int → Int) → Prop} {x y : Int} {idx : Nat} (hd : decode me.2.2.1 pc = .ok (.invokestatic idx, 3)) (hw : Cond.methodLink me.1 idx Lib.MathLoose.max_long.x ∈ jws) (hw2 : Cond.static Lib.MathLoose.max_long.x ∈ jws) (hw3 : Cond.initialized "java/lang/Math" ∈ jws) (hw4 : Cond.code Lib.MathLoose.max_long.x Lib.MathLoose.max_long.code 4 (some .long) ∈ jws) (hb : (decide (1 ≤ me.2.2.2.2.2.frames) && (decide ((st.map jcat).sum + 15 ≤ me.2.2.2.2.2.locals) && (decide (0 ≤ me.2.2.2.2.2.cells) && decide (0 ≤ me.2.2.2.2.2.slots)))) = true) (hx : jr64 x) (hy : jr64 y) (k : kK me (pc + 3) ls (jL (max x y) :: st) s Q) : kK me pc ls (jL y :: jL x :: st) s Q := j_mmaxL hd hw hw2 hw3 hw4 hb hx hy k
theorem j_mminL {me : jM} {pc : Nat} {ls st : List jV} {n : Nat} {h : Int → jE} {nc ns : Nat} {Q : Option jV → Nat → (Int → jE) → Prop} {x y : Int} {idx : Nat} (hd : decode me.2.2.1 pc = .ok (.invokestatic idx, 3)) (hw : Cond.methodLink me.1 idx Lib.MathLoose.min_long.x ∈ jws) (hw2 : Cond.static Lib.MathLoose.min_long.x ∈ jws) (hw3 : Cond.initialized "java/lang/Math" ∈ jws) (hw4 : Cond.code Lib.MathLoose.min_long.x Lib.MathLoose.min_long.code 4 (some .long) ∈ jws) (hb : (decide (1 ≤ me.2.2.2.2.2.frames) && (decide ((st.map jcat).sum + 15 ≤ me.2.2.2.2.2.locals) && (decide (nc ≤ me.2.2.2.2.2.cells) && decide (ns ≤ me.2.2.2.2.2.slots)))) = true) (hx : jr64 x) (hy : jr64 y) (k : jJ me (pc + 3) ls (jL (min x y) :: st) n h nc ns Q) : jJ me pc ls (jL y :: jL x :: st) n h nc ns Q := by
  intro p l e s m args below meth c base b D cA SC H locs lsS Z C G hW hS hl hZ
  simp only [Bool.and_eq_true, decide_eq_true_eq] at hb
  have hts := C.2.2.2.2.2.1
  refine va_mmin_long C.1 C.2.1 (by rw [C.2.2.1]; exact hl.1.symm) C.2.2.2.2.1 (hts _ hw) (hts _ hw2) (hts _ hw3) (hts _ hw4) hb.1 (by rw [jcat_sum]; exact hb.2.1) hb.2.2.1 hb.2.2.2 hd ?_
  have ee : (if Int64.ofInt y < Int64.ofInt x then Int64.ofInt y else Int64.ofInt x) = Int64.ofInt (min x y) := by
    simp only [j64_lt hy hx]
    split
    · congr 1; omega
    · congr 1; omega
  rw [ee]
  exact k p l e s m args below meth c base b D cA SC H locs lsS Z C G hW hS hl hZ
theorem k_mminL {me : jM} {pc : Nat} {ls st : List jV} {s : Int → Int → Int} {Q : Option jV → (Int → Int → Int) → Prop} {x y : Int} {idx : Nat} (hd : decode me.2.2.1 pc = .ok (.invokestatic idx, 3)) (hw : Cond.methodLink me.1 idx Lib.MathLoose.min_long.x ∈ jws) (hw2 : Cond.static Lib.MathLoose.min_long.x ∈ jws) (hw3 : Cond.initialized "java/lang/Math" ∈ jws) (hw4 : Cond.code Lib.MathLoose.min_long.x Lib.MathLoose.min_long.code 4 (some .long) ∈ jws) (hb : (decide (1 ≤ me.2.2.2.2.2.frames) && (decide ((st.map jcat).sum + 15 ≤ me.2.2.2.2.2.locals) && (decide (0 ≤ me.2.2.2.2.2.cells) && decide (0 ≤ me.2.2.2.2.2.slots)))) = true) (hx : jr64 x) (hy : jr64 y) (k : kK me (pc + 3) ls (jL (min x y) :: st) s Q) : kK me pc ls (jL y :: jL x :: st) s Q := j_mminL hd hw hw2 hw3 hw4 hb hx hy k
theorem mw_mmaxI : Cond.static Lib.Math.max.name ∈ jws ∧ Cond.initialized "java/lang/Math" ∈ jws ∧ Cond.code Lib.Math.max.name Lib.Math.max.code 2 (some .int) ∈ jws := ⟨st_J9_max_7cf53, jmem (i := 15) (by decide +kernel) rfl, jmem (i := 599) (by decide +kernel) rfl⟩
theorem mw_mminI : Cond.static Lib.Math.min.name ∈ jws ∧ Cond.initialized "java/lang/Math" ∈ jws ∧ Cond.code Lib.Math.min.name Lib.Math.min.code 2 (some .int) ∈ jws := ⟨st_J9_min_7cf53, jmem (i := 15) (by decide +kernel) rfl, jmem (i := 647) (by decide +kernel) rfl⟩
theorem mw_mmaxL : Cond.static Lib.MathLoose.max_long.x ∈ jws ∧ Cond.initialized "java/lang/Math" ∈ jws ∧ Cond.code Lib.MathLoose.max_long.x Lib.MathLoose.max_long.code 4 (some .long) ∈ jws := ⟨st_J9_max_f86c9, jmem (i := 15) (by decide +kernel) rfl, jmem (i := 724) (by decide +kernel) rfl⟩
theorem mw_mminL : Cond.static Lib.MathLoose.min_long.x ∈ jws ∧ Cond.initialized "java/lang/Math" ∈ jws ∧ Cond.code Lib.MathLoose.min_long.x Lib.MathLoose.min_long.code 4 (some .long) ∈ jws := ⟨st_J9_min_f86c9, jmem (i := 15) (by decide +kernel) rfl, jmem (i := 588) (by decide +kernel) rfl⟩
theorem j_copy {me : jM} {pc : Nat} {ls st : List jV} {n : Nat} {h : Int → jE} {nc ns : Nat} {Q : Option jV → Nat → (Int → jE) → Prop} {x y z : Int} {idx len : Nat} {f g : Int → Int} (hd : decode me.2.2.1 pc = .ok (.invokestatic idx, 3)) (hw : Cond.methodLink me.1 idx arraycopyName ∈ jws) (hb : (decide (1 ≤ me.2.2.2.2.2.frames) && decide ((st.map jcat).sum + 18 ≤ me.2.2.2.2.2.locals)) = true) (hx : 0 < x ∧ x ≤ n) (hy : 0 < y ∧ y ≤ n) (hf : h x = .inr (0, len, .inl f)) (hg : h y = .inr (0, len, .inl g)) (hlen : len ≤ 60000000) (hz : z = (len : Int)) (k : jJ me (pc + 3) ls st n (jup h y (.inr (0, len, .inl f))) nc ns Q) : jJ me pc ls (jI z :: jI 0 :: jR y :: jI 0 :: jR x :: st) n h nc ns Q := by
  intro p l e s m args below meth c base b D cA SC H locs lsS Z C G hW hS hl hZ
  subst hz
  simp only [Bool.and_eq_true, decide_eq_true_eq] at hb
  have hts := C.2.2.2.2.2.1
  have hr : jr32 (len : Int) := ⟨by omega, by omega⟩
  have hcl : (Int32.ofInt (len : Int)).toNatClampNeg = len := by
    have := Int32.toNatClampNeg_ofInt_of_le (n := (len : Int)) (by omega) (by omega)
    rw [this]; rfl
  have hn0 : ¬ Int32.ofInt (len : Int) < 0 := fun q => by
    have q : Int32.ofInt (len : Int) < Int32.ofInt 0 := q
    rw [j32_lt hr jr32_0] at q; omega
  have hc0 := hW.at hx.1 hx.2
  have hc1 := hW.at hy.1 hy.2
  rw [hf] at hc0
  rw [hg] at hc1
  intro T hT X
  have hc0 : H[jad base b x]? = some (vp_cell (cA 0) (len, .inl (fun i => Int32.ofInt (f i)))) := hc0
  have hc1 : H[jad base b y]? = some (vp_cell (cA 0) (len, .inl (fun i => Int32.ofInt (g i)))) := hc1
  obtain ⟨-, k0, hk0, cm0, hkk0⟩ := (G.1.2 0 _ rfl).1 len (fun j => .int (Int32.ofInt (f j)))
  obtain ⟨vm', X', step⟩ := X.arraycopy C.1 C.2.2.2.2.1 (hts _ hw) (hts _ nat_copy) (hts _ st_copy) (hts _ it_sys) (src := jad base b x) (dst := jad base b y) (cs := vp_cell (cA 0) (len, .inl (fun i => Int32.ofInt (f i)))) (cd := vp_cell (cA 0) (len, .inl (fun i => Int32.ofInt (g i)))) (srcPos := 0) (destPos := 0) (n := Int32.ofInt (len : Int)) (by rw [hT]; exact hc0) (by rw [hT]; exact hc1)
    (fun _ h => by cases h) (fun _ h => by cases h) (fun h => by cases h) (fun h => by cases h) hk0 hk0 hkk0 hkk0 (by simp [refKind]) (by decide) (by decide) hn0
    (by rw [j32T hr]; show ¬ (0 : Int32).toInt + _ > ((arrV (cA 0) len (fun j => .int (Int32.ofInt (f j)))).slots.size : Int); rw [arrV_size]; show ¬ (0 : Int) + _ > _; omega)
    (by rw [j32T hr]; show ¬ (0 : Int32).toInt + _ > ((arrV (cA 0) len (fun j => .int (Int32.ofInt (g j)))).slots.size : Int); rw [arrV_size]; show ¬ (0 : Int) + _ > _; omega)
    (fun vm₁ _ i hi => by
      have hi2 : i < len := by rw [hcl] at hi; exact hi
      have e : (vp_cell (cA 0) (len, .inl (fun i => Int32.ofInt (f i)))).slots.getD ((0 : Int32).toNatClampNeg + i) .null = .int (Int32.ofInt (f i)) := by
        show (arrV (cA 0) len (fun j => .int (Int32.ofInt (f j)))).slots.getD (0 + i) _ = _
        rw [Nat.zero_add, Array.getD_eq_getD_getElem?, arrV_read _ _ hi2]
        rfl
      refine ⟨?_, ?_⟩
      · rw [e]
        rfl
      · rw [e]
        exact trivial)
    (g := F0 m pc lsS (.int (Int32.ofInt (len : Int)) :: .int 0 :: .ref (jad base b y) :: .int 0 :: .ref (jad base b x) :: st.map (jvv base b))) rfl (by rw [C.2.2.1]; exact hl.1) (rest := st.map (jvv base b)) rfl (by rw [C.2.1]; exact hd) hb.1 (by show 2 * 0 + ((st.map (jvv base b)).map fun v => v.category).sum + (nativeFrameWords "java/lang/System" "arraycopy" 5 + 11) ≤ _; rw [jcat_sum]; have := hb.2; show 2 * 0 + _ + 18 ≤ _; omega)
  have e1 : copied (vp_cell (cA 0) (len, .inl (fun i => Int32.ofInt (f i)))) (vp_cell (cA 0) (len, .inl (fun i => Int32.ofInt (g i)))) 0 0 (Int32.ofInt (len : Int)) = vp_cell (cA 0) (len, .inl (va_cpy (fun i => Int32.ofInt (f i)) (fun i => Int32.ofInt (g i)) (0 : Int32).toNatClampNeg (0 : Int32).toNatClampNeg (Int32.ofInt (len : Int)).toNatClampNeg)) := va_copied (fun z => .int z) (cA 0) (cA 0) (fun i : Nat => Int32.ofInt (f i)) (fun i : Nat => Int32.ofInt (g i)) (sp := (0 : Int32).toNatClampNeg) (n := (Int32.ofInt (len : Int)).toNatClampNeg) (by rw [hcl]; show 0 + len ≤ len; omega)
  have e2 : vp_cell (cA 0) (len, .inl (va_cpy (fun i => Int32.ofInt (f i)) (fun i => Int32.ofInt (g i)) (0 : Int32).toNatClampNeg (0 : Int32).toNatClampNeg (Int32.ofInt (len : Int)).toNatClampNeg)) = vp_cell (cA 0) (len, .inl (fun i => Int32.ofInt (f i))) := by
    rw [hcl, vp_cell_i, vp_cell_i]
    show arrV _ _ _ = arrV _ _ _
    unfold arrV
    congr 1
    apply Array.ext
    · simp
    · intro j h1 h2
      have hj : j < len := by simpa using h1
      simp only [Array.getElem_ofFn, va_cpy]
      rw [if_pos ⟨Nat.zero_le _, by show j < 0 + len; omega⟩]
      show Value.int (Int32.ofInt (f ((0 + (j - 0) : Nat) : Int))) = _
      rw [Nat.zero_add, Nat.sub_zero]
  rw [e1, e2] at X' step
  have hlt : jad base b y < H.size := (Array.getElem?_eq_some_iff.mp hc1).1
  have hheap : ((T.setVm vm').setCell (jad base b y) (vp_cell (cA 0) (len, .inl (fun i => Int32.ofInt (f i))))).heap = H.setIfInBounds (jad base b y) (vp_cell (cA 0) (len, .inl (fun i => Int32.ofInt (f i)))) := by rw [← hT]; rfl
  have oq : ∀ q : Nat, q ≠ jad base b y → (H.setIfInBounds (jad base b y) (vp_cell (cA 0) (len, .inl (fun i => Int32.ofInt (f i)))))[q]? = H[q]? := fun q hq => by simp [Array.getElem?_setIfInBounds, Ne.symm hq]
  obtain ⟨t, a1, b1⟩ := k p l e s m args below meth c base b D cA SC _ _ lsS Z C G (hW.up G.2.1 hy.1 (by simp) oq (c := .inr (0, len, .inl f)) (show (H.setIfInBounds _ _)[jad base b y]? = some _ by simp [Array.getElem?_setIfInBounds, hlt])) ⟨by simp; exact hS.1, fun q g1 g2 => by
      rw [oq q (fun e => g2 (by rw [e]; exact jA hy.1))]
      exact hS.2.1 q g1 g2, fun q hq => by
      rcases List.mem_append.mp hq with h | h
      · exact hS.2.2 q h
      · obtain ⟨z, -, hz⟩ := List.mem_map.mp h
        rw [← hz]
        exact jA hy.1⟩ hl hZ _ hheap X'
  exact ⟨t, step t a1, b1⟩

