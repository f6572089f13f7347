theorem g_J6_bitCount_0f7a4 {s : Int → Int → Int} {Q : Option jV → (Int → Int → Int) → Prop} {v0 : Int} (v : ((0 ≤ v0 ∧ v0 ≤ 2147483647) ∧ (0 ≤ (v0 / 2 ^ Int.toNat 1)) ∧ kK mJ6_bitCount_0f7a4 10 [jI (v0 - (jand (v0 / 2 ^ Int.toNat 1) 1431655765))] [] s Q)) : kR mJ6_bitCount_0f7a4 [jI v0] s Q := by
  show kK mJ6_bitCount_0f7a4 0 [jI v0] [] s Q
  obtain ⟨a1, a2, v⟩ := v
  refine k_iload_n dJ6_bitCount_0f7a4_0 rfl ?_
  refine k_iload_n dJ6_bitCount_0f7a4_1 rfl ?_
  refine k_iconst dJ6_bitCount_0f7a4_2 ?_
  refine k_ushr dJ6_bitCount_0f7a4_3 a1 (by decide) ?_
  refine k_ldcw (1431655765) (1431655765) dJ6_bitCount_0f7a4_4 ki_J6_265 rfl ?_
  refine k_and dJ6_bitCount_0f7a4_7 a2 (by decide) ?_
  refine k_isub dJ6_bitCount_0f7a4_8 ?_
  refine k_istore_n [jI (v0 - (jand (v0 / 2 ^ Int.toNat 1) 1431655765))] dJ6_bitCount_0f7a4_9 rfl rfl ?_
  exact v
theorem g_J6_bitCount_0f7a4_10 {s : Int → Int → Int} {Q : Option jV → (Int → Int → Int) → Prop} {v0 : Int} (v : ((0 ≤ v0) ∧ (0 ≤ v0 ∧ v0 ≤ 2147483647) ∧ (0 ≤ (v0 / 2 ^ Int.toNat 2)) ∧ kK mJ6_bitCount_0f7a4 24 [jI ((jand v0 858993459) + (jand (v0 / 2 ^ Int.toNat 2) 858993459))] [] s Q)) : kK mJ6_bitCount_0f7a4 10 [jI v0] [] s Q := by
  obtain ⟨a1, a2, a3, v⟩ := v
  refine k_iload_n dJ6_bitCount_0f7a4_10 rfl ?_
  refine k_ldcw (858993459) (858993459) dJ6_bitCount_0f7a4_11 ki_J6_266 rfl ?_
  refine k_and dJ6_bitCount_0f7a4_14 a1 (by decide) ?_
  refine k_iload_n dJ6_bitCount_0f7a4_15 rfl ?_
  refine k_iconst dJ6_bitCount_0f7a4_16 ?_
  refine k_ushr dJ6_bitCount_0f7a4_17 a2 (by decide) ?_
  refine k_ldcw (858993459) (858993459) dJ6_bitCount_0f7a4_18 ki_J6_266 rfl ?_
  refine k_and dJ6_bitCount_0f7a4_21 a3 (by decide) ?_
  refine k_iadd dJ6_bitCount_0f7a4_22 ?_
  refine k_istore_n [jI ((jand v0 858993459) + (jand (v0 / 2 ^ Int.toNat 2) 858993459))] dJ6_bitCount_0f7a4_23 rfl rfl ?_
  exact v
theorem g_J6_bitCount_0f7a4_24 {s : Int → Int → Int} {Q : Option jV → (Int → Int → Int) → Prop} {v0 : Int} (v : ((0 ≤ v0 ∧ v0 ≤ 2147483647) ∧ (0 ≤ (v0 + (v0 / 2 ^ Int.toNat 4))) ∧ kK mJ6_bitCount_0f7a4 34 [jI (jand (v0 + (v0 / 2 ^ Int.toNat 4)) 252645135)] [] s Q)) : kK mJ6_bitCount_0f7a4 24 [jI v0] [] s Q := by
  obtain ⟨a1, a2, v⟩ := v
  refine k_iload_n dJ6_bitCount_0f7a4_24 rfl ?_
  refine k_iload_n dJ6_bitCount_0f7a4_25 rfl ?_
  refine k_iconst dJ6_bitCount_0f7a4_26 ?_
  refine k_ushr dJ6_bitCount_0f7a4_27 a1 (by decide) ?_
  refine k_iadd dJ6_bitCount_0f7a4_28 ?_
  refine k_ldcw (252645135) (252645135) dJ6_bitCount_0f7a4_29 ki_J6_267 rfl ?_
  refine k_and dJ6_bitCount_0f7a4_32 a2 (by decide) ?_
  refine k_istore_n [jI (jand (v0 + (v0 / 2 ^ Int.toNat 4)) 252645135)] dJ6_bitCount_0f7a4_33 rfl rfl ?_
  exact v
theorem g_J6_bitCount_0f7a4_34 {s : Int → Int → Int} {Q : Option jV → (Int → Int → Int) → Prop} {v0 : Int} (v : ((0 ≤ v0 ∧ v0 ≤ 2147483647) ∧ kK mJ6_bitCount_0f7a4 41 [jI (v0 + (v0 / 2 ^ Int.toNat 8))] [] s Q)) : kK mJ6_bitCount_0f7a4 34 [jI v0] [] s Q := by
  obtain ⟨a1, v⟩ := v
  refine k_iload_n dJ6_bitCount_0f7a4_34 rfl ?_
  refine k_iload_n dJ6_bitCount_0f7a4_35 rfl ?_
  refine k_bipush dJ6_bitCount_0f7a4_36 rfl ?_
  refine k_ushr dJ6_bitCount_0f7a4_38 a1 (by decide) ?_
  refine k_iadd dJ6_bitCount_0f7a4_39 ?_
  refine k_istore_n [jI (v0 + (v0 / 2 ^ Int.toNat 8))] dJ6_bitCount_0f7a4_40 rfl rfl ?_
  exact v
theorem g_J6_bitCount_0f7a4_41 {s : Int → Int → Int} {Q : Option jV → (Int → Int → Int) → Prop} {v0 : Int} (v : ((0 ≤ v0 ∧ v0 ≤ 2147483647) ∧ kK mJ6_bitCount_0f7a4 48 [jI (v0 + (v0 / 2 ^ Int.toNat 16))] [] s Q)) : kK mJ6_bitCount_0f7a4 41 [jI v0] [] s Q := by
  obtain ⟨a1, v⟩ := v
  refine k_iload_n dJ6_bitCount_0f7a4_41 rfl ?_
  refine k_iload_n dJ6_bitCount_0f7a4_42 rfl ?_
  refine k_bipush dJ6_bitCount_0f7a4_43 rfl ?_
  refine k_ushr dJ6_bitCount_0f7a4_45 a1 (by decide) ?_
  refine k_iadd dJ6_bitCount_0f7a4_46 ?_
  refine k_istore_n [jI (v0 + (v0 / 2 ^ Int.toNat 16))] dJ6_bitCount_0f7a4_47 rfl rfl ?_
  exact v
theorem g_J6_bitCount_0f7a4_48 {s : Int → Int → Int} {Q : Option jV → (Int → Int → Int) → Prop} {v0 : Int} (v : ((0 ≤ v0) ∧ Q (some (jI (jand v0 63))) s)) : kK mJ6_bitCount_0f7a4 48 [jI v0] [] s Q := by
  obtain ⟨a1, v⟩ := v
  refine k_iload_n dJ6_bitCount_0f7a4_48 rfl ?_
  refine k_bipush dJ6_bitCount_0f7a4_49 rfl ?_
  refine k_and dJ6_bitCount_0f7a4_51 a1 (by decide) ?_
  exact k_ireturn (st := []) dJ6_bitCount_0f7a4_52 rfl v
/-! how many bits are set -/
def bc (x : Int) : Int := sg 30 (bt x)
theorem and_sp {a b m n : Nat} (ha : a < 256) (hm : m < 256) : (a + 256 * b) &&& (m + 256 * n) = (a &&& m) + 256 * (b &&& n) := by
  have h1 : ((a + 256 * b) &&& (m + 256 * n)) % 2 ^ 8 = ((a + 256 * b) % 2 ^ 8) &&& ((m + 256 * n) % 2 ^ 8) := Nat.and_mod_two_pow
  have h2 : ((a + 256 * b) &&& (m + 256 * n)) / 2 ^ 8 = ((a + 256 * b) / 2 ^ 8) &&& ((m + 256 * n) / 2 ^ 8) := Nat.and_div_two_pow
  rw [show (a + 256 * b) % 2 ^ 8 = a by omega, show (m + 256 * n) % 2 ^ 8 = m by omega] at h1
  rw [show (a + 256 * b) / 2 ^ 8 = b by omega, show (m + 256 * n) / 2 ^ 8 = n by omega] at h2
  omega
theorem jand_sp {a b m n : Int} (ha : 0 ≤ a ∧ a < 256) (hm : 0 ≤ m ∧ m < 256) (hb : 0 ≤ b) (hn : 0 ≤ n) : jand (a + 256 * b) (m + 256 * n) = jand a m + 256 * jand b n := by
  unfold jand
  rw [show (a + 256 * b).toNat = a.toNat + 256 * b.toNat by omega, show (m + 256 * n).toNat = m.toNat + 256 * n.toNat by omega, and_sp (by omega) (by omega)]
  omega
theorem jand_n (a m : Nat) : jand (a : Int) (m : Int) = ((a &&& m : Nat) : Int) := by
  unfold jand
  rw [Int.toNat_natCast, Int.toNat_natCast]
theorem by_1 : ∀ b, b < 256 → ∀ c, c < 2 → (b / 2 + 128 * c) &&& 85 = (b / 2) &&& 85 := by decide +kernel
theorem by_2 : ∀ b, b < 256 → ∀ c, c < 4 → (b / 4 + 64 * c) &&& 51 = (b / 4) &&& 51 := by decide +kernel
def pcN (b : Nat) : Nat := b % 2 + b / 2 % 2 + b / 4 % 2 + b / 8 % 2 + b / 16 % 2 + b / 32 % 2 + b / 64 % 2 + b / 128 % 2
theorem by_3 : ∀ b, b < 256 → (((b / 2) &&& 85) ≤ b ∧ (((b - ((b / 2) &&& 85)) &&& 51) + (((b - ((b / 2) &&& 85)) / 4) &&& 51)) % 16 + (((b - ((b / 2) &&& 85)) &&& 51) + (((b - ((b / 2) &&& 85)) / 4) &&& 51)) / 16 = pcN b ∧ (((b - ((b / 2) &&& 85)) &&& 51) + (((b - ((b / 2) &&& 85)) / 4) &&& 51)) % 16 ≤ 4 ∧ (((b - ((b / 2) &&& 85)) &&& 51) + (((b - ((b / 2) &&& 85)) / 4) &&& 51)) / 16 ≤ 4) := by decide +kernel
theorem by_4 : ∀ b, b < 256 → b &&& 51 ≤ 51 := by decide +kernel
def by1 (b : Int) : Int := b - jand (b / 2) 85
def by2 (y : Int) : Int := jand y 51 + jand (y / 4) 51
def pcb (b : Int) : Int := b % 2 + b / 2 % 2 + b / 4 % 2 + b / 8 % 2 + b / 16 % 2 + b / 32 % 2 + b / 64 % 2 + b / 128 % 2
theorem by_f {b : Int} (h : 0 ≤ b ∧ b < 256) : (0 ≤ by1 b ∧ by1 b ≤ b) ∧ by2 (by1 b) % 16 + by2 (by1 b) / 16 = pcb b ∧ (0 ≤ by2 (by1 b) % 16 ∧ by2 (by1 b) % 16 ≤ 4) ∧ 0 ≤ by2 (by1 b) / 16 ∧ by2 (by1 b) / 16 ≤ 4 := by
  obtain ⟨n, rfl⟩ := nat_of h.1
  obtain ⟨h1, h2, h3, h4⟩ := by_3 n (by omega)
  have e1 : by1 (n : Int) = ((n - ((n / 2) &&& 85) : Nat) : Int) := by
    unfold by1
    rw [show (n : Int) / 2 = ((n / 2 : Nat) : Int) from rfl, show (85 : Int) = ((85 : Nat) : Int) from rfl, jand_n]
    omega
  have e2 : by2 (by1 (n : Int)) = ((((n - ((n / 2) &&& 85)) &&& 51) + (((n - ((n / 2) &&& 85)) / 4) &&& 51) : Nat) : Int) := by
    rw [e1]
    unfold by2
    rw [show ((n - ((n / 2) &&& 85) : Nat) : Int) / 4 = (((n - ((n / 2) &&& 85)) / 4 : Nat) : Int) from rfl, show (51 : Int) = ((51 : Nat) : Int) from rfl, jand_n, jand_n]
    omega
  have e3 : pcb (n : Int) = ((pcN n : Nat) : Int) := by
    unfold pcb pcN
    omega
  rw [e2, e3, e1]
  generalize ((n - ((n / 2) &&& 85)) &&& 51) + (((n - ((n / 2) &&& 85)) / 4) &&& 51) = z at *
  generalize (n / 2) &&& 85 = w at *
  omega
theorem by_c1 {b c : Int} (h : 0 ≤ b ∧ b < 256) (g : 0 ≤ c) : jand ((b + 256 * c) / 2 % 256) 85 = jand (b / 2) 85 := by
  obtain ⟨n, rfl⟩ := nat_of h.1
  obtain ⟨m, rfl⟩ := nat_of g
  have := by_1 n (by omega) (m % 2) (by omega)
  rw [show ((n : Int) + 256 * (m : Int)) / 2 % 256 = ((n / 2 + 128 * (m % 2) : Nat) : Int) by omega, show (n : Int) / 2 = ((n / 2 : Nat) : Int) from rfl, show (85 : Int) = ((85 : Nat) : Int) from rfl, jand_n, jand_n, this]
theorem by_c2 {b c : Int} (h : 0 ≤ b ∧ b < 256) (g : 0 ≤ c) : jand ((b + 256 * c) / 4 % 256) 51 = jand (b / 4) 51 := by
  obtain ⟨n, rfl⟩ := nat_of h.1
  obtain ⟨m, rfl⟩ := nat_of g
  have := by_2 n (by omega) (m % 4) (by omega)
  rw [show ((n : Int) + 256 * (m : Int)) / 4 % 256 = ((n / 4 + 64 * (m % 4) : Nat) : Int) by omega, show (n : Int) / 4 = ((n / 4 : Nat) : Int) from rfl, show (51 : Int) = ((51 : Nat) : Int) from rfl, jand_n, jand_n, this]
theorem jand_51 {b : Int} (h : 0 ≤ b ∧ b < 256) : 0 ≤ jand b 51 ∧ jand b 51 ≤ 51 := by
  obtain ⟨n, rfl⟩ := nat_of h.1
  rw [show (51 : Int) = ((51 : Nat) : Int) from rfl, jand_n]
  have := by_4 n (by omega)
  omega
theorem jand_nn (a b : Int) : 0 ≤ jand a b := by unfold jand; omega
/-- four bytes -/
def b4 (a b c d : Int) : Int := a + 256 * (b + 256 * (c + 256 * d))
theorem jand_4 {a b c d k : Int} (ha : 0 ≤ a ∧ a < 256) (hb : 0 ≤ b ∧ b < 256) (hc : 0 ≤ c ∧ c < 256) (hd : 0 ≤ d) (hk : 0 ≤ k ∧ k < 256) : jand (b4 a b c d) (b4 k k k k) = b4 (jand a k) (jand b k) (jand c k) (jand d k) := by
  unfold b4
  rw [jand_sp ha hk (by omega) (by omega), jand_sp hb hk (by omega) (by omega), jand_sp hc hk hd hk.1]
theorem b4_d {n : Int} (h : 0 ≤ n) : n = b4 (n % 256) (n / 256 % 256) (n / 65536 % 256) (n / 16777216) := by unfold b4; omega
theorem bt_8 {x : Int} (h : 0 ≤ x) {j : Int} (hj : 0 ≤ j) : bt x (8 + j) = bt (x / 256) j := by
  obtain ⟨n, rfl⟩ := nat_of h
  obtain ⟨k, rfl⟩ := nat_of hj
  rw [show (8 : Int) + (k : Int) = ((8 + k : Nat) : Int) by omega, show ((n : Int) / 256) = ((n / 256 : Nat) : Int) from rfl, bt_n, bt_n, Nat.pow_add, ← Nat.div_div_eq_div_mul]
theorem sg_8 (x : Int) : sg 8 (bt x) = pcb (x % 256) := by
  have e : sg 8 (bt x) = 0 + bt x 0 + bt x 1 + bt x 2 + bt x 3 + bt x 4 + bt x 5 + bt x 6 + bt x 7 := rfl
  have t : ∀ j : Int, bt x j = x / 2 ^ j.toNat % 2 := fun _ => rfl
  rw [e, t, t, t, t, t, t, t, t, show (2 : Int) ^ Int.toNat 0 = 1 from rfl, show (2 : Int) ^ Int.toNat 1 = 2 from rfl, show (2 : Int) ^ Int.toNat 2 = 4 from rfl, show (2 : Int) ^ Int.toNat 3 = 8 from rfl, show (2 : Int) ^ Int.toNat 4 = 16 from rfl, show (2 : Int) ^ Int.toNat 5 = 32 from rfl, show (2 : Int) ^ Int.toNat 6 = 64 from rfl, show (2 : Int) ^ Int.toNat 7 = 128 from rfl]
  unfold pcb
  rw [show x % 256 % 2 = x % 2 by omega, show x % 256 / 2 % 2 = x / 2 % 2 by omega, show x % 256 / 4 % 2 = x / 4 % 2 by omega, show x % 256 / 8 % 2 = x / 8 % 2 by omega, show x % 256 / 16 % 2 = x / 16 % 2 by omega, show x % 256 / 32 % 2 = x / 32 % 2 by omega, show x % 256 / 64 % 2 = x / 64 % 2 by omega, show x % 256 / 128 % 2 = x / 128 % 2 by omega]
  omega
theorem sg_8s {x : Int} (h : 0 ≤ x) {n : Int} (hn : 0 ≤ n) : sg (8 + n) (bt x) = pcb (x % 256) + sg n (bt (x / 256)) := by
  rw [sg_2 (bt x) (by omega) n hn, sg_8]
  congr 1
  exact sg_c (fun j j0 _ => bt_8 h j0)
theorem bt_z {x l : Int} (h : 0 ≤ x) (g : x < 2 ^ l.toNat) : bt x l = 0 := by
  unfold bt
  rw [Int.ediv_eq_zero_of_lt h g]; rfl
theorem bc_4 {x : Int} (h : 0 ≤ x ∧ x < 1073741824) : bc x = pcb (x % 256) + (pcb (x / 256 % 256) + (pcb (x / 65536 % 256) + pcb (x / 16777216))) := by
  have e1 : x / 256 / 256 = x / 65536 := by omega
  have e2 : x / 65536 / 256 = x / 16777216 := by omega
  have z : sg 6 (bt (x / 16777216)) = pcb (x / 16777216) := by
    have h8 := sg_8 (x / 16777216)
    have s7 : sg 8 (bt (x / 16777216)) = sg 6 (bt (x / 16777216)) + bt (x / 16777216) 6 + bt (x / 16777216) 7 := rfl
    rw [bt_z (l := 6) (by omega) (by show x / 16777216 < 64; omega), bt_z (l := 7) (by omega) (by show x / 16777216 < 128; omega), h8, show x / 16777216 % 256 = x / 16777216 by omega] at s7
    omega
  unfold bc
  have a1 := sg_8s h.1 (n := 22) (by omega)
  have a2 := sg_8s (x := x / 256) (by omega) (n := 14) (by omega)
  have a3 := sg_8s (x := x / 65536) (by omega) (n := 6) (by omega)
  rw [show (8 : Int) + 22 = 30 from rfl] at a1
  rw [show (8 : Int) + 14 = 22 from rfl, e1] at a2
  rw [show (8 : Int) + 6 = 14 from rfl, e2, z] at a3
  omega
theorem sp_J6_bitCount (s : Int → Int → Int) (x : Int) (h : 0 ≤ x ∧ x < 1073741824) : kM mJ6_bitCount_0f7a4 [jI x] s (some (jI (bc x))) s := by
  have h0 : 0 ≤ x % 256 ∧ x % 256 < 256 := by omega
  have h1 : 0 ≤ x / 256 % 256 ∧ x / 256 % 256 < 256 := by omega
  have h2 : 0 ≤ x / 65536 % 256 ∧ x / 65536 % 256 < 256 := by omega
  have h3 : 0 ≤ x / 16777216 ∧ x / 16777216 < 64 := by omega
  rw [bc_4 h]
  have hx := b4_d h.1
  generalize x % 256 = a at h0 hx ⊢
  generalize x / 256 % 256 = b at h1 hx ⊢
  generalize x / 65536 % 256 = c at h2 hx ⊢
  generalize x / 16777216 = d at h3 hx ⊢
  obtain ⟨fa1, fa2, fa3, fa4⟩ := by_f h0
  obtain ⟨fb1, fb2, fb3, fb4⟩ := by_f h1
  obtain ⟨fc1, fc2, fc3, fc4⟩ := by_f h2
  obtain ⟨fd1, fd2, fd3, fd4⟩ := by_f (b := d) (by omega)
  have k85 : (1431655765 : Int) = b4 85 85 85 85 := rfl
  have k51 : (858993459 : Int) = b4 51 51 51 51 := rfl
  have k15 : (252645135 : Int) = b4 15 15 15 15 := rfl
  -- pairs
  have s1 : x - jand (x / 2 ^ Int.toNat 1) 1431655765 = b4 (by1 a) (by1 b) (by1 c) (by1 d) := by
    rw [show (2 : Int) ^ Int.toNat 1 = 2 from rfl, k85]
    have e : x / 2 = b4 ((a + 256 * b) / 2 % 256) ((b + 256 * c) / 2 % 256) ((c + 256 * d) / 2 % 256) (d / 2) := by rw [hx]; unfold b4; omega
    rw [e, jand_4 (by omega) (by omega) (by omega) (by omega) (by omega), by_c1 h0 h1.1, by_c1 h1 h2.1, by_c1 h2 h3.1, hx]
    unfold b4 by1
    omega
  refine g_J6_bitCount_0f7a4 ?_
  rw [s1]
  generalize by1 a = ya at *
  generalize by1 b = yb at *
  generalize by1 c = yc at *
  generalize by1 d = yd at *
  have s2 : jand (b4 ya yb yc yd) 858993459 + jand (b4 ya yb yc yd / 2 ^ Int.toNat 2) 858993459 = b4 (by2 ya) (by2 yb) (by2 yc) (by2 yd) := by
    rw [show (2 : Int) ^ Int.toNat 2 = 4 from rfl, k51]
    have e : b4 ya yb yc yd / 4 = b4 ((ya + 256 * yb) / 4 % 256) ((yb + 256 * yc) / 4 % 256) ((yc + 256 * yd) / 4 % 256) (yd / 4) := by unfold b4; omega
    rw [e, jand_4 (by omega) (by omega) (by omega) (by omega) (by omega), jand_4 (by omega) (by omega) (by omega) (by omega) (by omega), by_c2 (by omega) (by omega), by_c2 (by omega) (by omega), by_c2 (by omega) (by omega)]
    unfold b4 by2
    omega
  refine ⟨by omega, by have := jand_nn (x / 2 ^ Int.toNat 1) 1431655765; rw [show (2 : Int) ^ Int.toNat 1 = 2 from rfl]; omega, g_J6_bitCount_0f7a4_10 ?_⟩
  rw [s2]
  generalize hza : by2 ya = za at *
  generalize hzb : by2 yb = zb at *
  generalize hzc : by2 yc = zc at *
  generalize hzd : by2 yd = zd at *
  refine ⟨by unfold b4; omega, by unfold b4; omega, by rw [show (2 : Int) ^ Int.toNat 2 = 4 from rfl]; unfold b4; omega, g_J6_bitCount_0f7a4_24 ?_⟩
  have n1 : ∀ n : Int, 0 ≤ n → jand n 15 = n % 16 := fun n hn => by
    obtain ⟨m, rfl⟩ := nat_of hn
    rw [show (15 : Int) = ((15 : Nat) : Int) from rfl, jand_n, show m &&& 15 = m % 2 ^ 4 from Nat.and_two_pow_sub_one_eq_mod m 4]
    omega
  have s3 : jand (b4 za zb zc zd + b4 za zb zc zd / 2 ^ Int.toNat 4) 252645135 = b4 (za % 16 + za / 16) (zb % 16 + zb / 16) (zc % 16 + zc / 16) (zd % 16 + zd / 16) := by
    rw [show (2 : Int) ^ Int.toNat 4 = 16 from rfl, k15]
    have e : b4 za zb zc zd + b4 za zb zc zd / 16 = b4 (za + za / 16 + 16 * (zb % 16)) (zb + zb / 16 + 16 * (zc % 16)) (zc + zc / 16 + 16 * (zd % 16)) (zd + zd / 16) := by unfold b4; omega
    rw [e, jand_4 (by omega) (by omega) (by omega) (by omega) (by omega), n1 _ (by omega), n1 _ (by omega), n1 _ (by omega), n1 _ (by omega)]
    unfold b4
    omega
  rw [s3, fa2, fb2, fc2, fd2]
  have ra : 0 ≤ pcb a ∧ pcb a ≤ 8 := by omega
  have rb : 0 ≤ pcb b ∧ pcb b ≤ 8 := by omega
  have rc : 0 ≤ pcb c ∧ pcb c ≤ 8 := by omega
  have rd : 0 ≤ pcb d ∧ pcb d ≤ 8 := by omega
  generalize pcb a = pa at *
  generalize pcb b = pb at *
  generalize pcb c = pc at *
  generalize pcb d = pd at *
  refine ⟨by unfold b4; omega, by rw [show (2 : Int) ^ Int.toNat 4 = 16 from rfl]; unfold b4; omega, g_J6_bitCount_0f7a4_34 ?_⟩
  have s4 : b4 pa pb pc pd + b4 pa pb pc pd / 2 ^ Int.toNat 8 = b4 (pa + pb) (pb + pc) (pc + pd) pd := by
    rw [show (2 : Int) ^ Int.toNat 8 = 256 from rfl]; unfold b4; omega
  rw [s4]
  refine ⟨by unfold b4; omega, g_J6_bitCount_0f7a4_41 ?_⟩
  have s5 : b4 (pa + pb) (pb + pc) (pc + pd) pd + b4 (pa + pb) (pb + pc) (pc + pd) pd / 2 ^ Int.toNat 16 = b4 (pa + pb + (pc + pd)) (pb + pc + pd) (pc + pd) pd := by
    rw [show (2 : Int) ^ Int.toNat 16 = 65536 from rfl]; unfold b4; omega
  rw [s5]
  refine ⟨by unfold b4; omega, g_J6_bitCount_0f7a4_48 ?_⟩
  have s6 : jand (b4 (pa + pb + (pc + pd)) (pb + pc + pd) (pc + pd) pd) 63 = pa + (pb + (pc + pd)) := by
    have n0 : 0 ≤ b4 (pa + pb + (pc + pd)) (pb + pc + pd) (pc + pd) pd := by unfold b4; omega
    have n2 : b4 (pa + pb + (pc + pd)) (pb + pc + pd) (pc + pd) pd % 64 = pa + (pb + (pc + pd)) := by unfold b4; omega
    obtain ⟨m, hm⟩ := nat_of n0
    rw [hm] at n2 ⊢
    rw [show (63 : Int) = ((63 : Nat) : Int) from rfl, jand_n, show m &&& 63 = m % 2 ^ 6 from Nat.and_two_pow_sub_one_eq_mod m 6]
    omega
  rw [s6]
  exact ⟨by unfold b4; omega, rfl, rfl⟩
