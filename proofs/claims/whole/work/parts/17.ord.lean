/-! sets as bits of a number below 256; the fewest against an order, as the reference fills its table -/
def bt (x i : Int) : Int := x / 2 ^ i.toNat % 2
theorem bt_01 (x i : Int) : bt x i = 0 ∨ bt x i = 1 := by unfold bt; omega
def tzN (n : Nat) : Nat := if n % 2 = 1 then 0 else if n / 2 % 2 = 1 then 1 else if n / 4 % 2 = 1 then 2 else if n / 8 % 2 = 1 then 3 else if n / 16 % 2 = 1 then 4 else if n / 32 % 2 = 1 then 5 else if n / 64 % 2 = 1 then 6 else 7
def tz (x : Int) : Int := (tzN x.toNat : Nat)
theorem tn_off : ∀ a, a < 256 → ∀ k, k < 8 → a / 2 ^ k % 2 = 1 → (2 ^ k ≤ a ∧ ∀ j, j < 8 → (a - 2 ^ k) / 2 ^ j % 2 = if j = k then 0 else a / 2 ^ j % 2) := by decide +kernel
theorem tn_on : ∀ a, a < 256 → ∀ k, k < 8 → a / 2 ^ k % 2 = 0 → (a ||| 2 ^ k = a + 2 ^ k ∧ ∀ j, j < 8 → (a + 2 ^ k) / 2 ^ j % 2 = if j = k then 1 else a / 2 ^ j % 2) := by decide +kernel
theorem tn_cm : ∀ n, n < 9 → ∀ a, a < 2 ^ n → ∀ k, k < n → ((2 ^ n - 1 - a) / 2 ^ k % 2 = 1 - a / 2 ^ k % 2 ∧ (a / 2 ^ k % 2 = 0 → a + 2 ^ k < 2 ^ n)) := by decide +kernel
theorem tn_ex : ∀ n, n < 9 → ∀ a, a < 2 ^ n - 1 → ∃ k, k < n ∧ a / 2 ^ k % 2 = 0 := by decide +kernel
theorem tn_tz : ∀ a, a < 256 → 1 ≤ a → (tzN a < 8 ∧ a / 2 ^ tzN a % 2 = 1 ∧ (a &&& (a - 1)) = a - 2 ^ tzN a) := by decide +kernel
theorem tn_pw : ∀ n, n < 9 → 1 ≤ 2 ^ n ∧ 2 ^ n ≤ 256 := by decide +kernel
theorem jtz32 {x : Int} (h : 1 ≤ x ∧ x < 256) : Int32.ofInt (-1 - x) &&& Int32.ofInt (x - 1) = Int32.ofInt (2 ^ (tz x).toNat - 1) := by
  obtain ⟨a, rfl⟩ : ∃ a : Nat, x = (a : Int) := ⟨x.toNat, by omega⟩
  have : ∀ a, a < 256 → 1 ≤ a → Int32.ofInt (-1 - ((a : Nat) : Int)) &&& Int32.ofInt ((a : Int) - 1) = Int32.ofInt (2 ^ (tz (a : Int)).toNat - 1) := by decide +kernel
  exact this a (by omega) (by omega)
theorem bt_n (a k : Nat) : bt (a : Int) (k : Int) = ((a / 2 ^ k % 2 : Nat) : Int) := by
  unfold bt
  rw [Int.toNat_natCast]
  simp
theorem p2n (k : Nat) : (2 : Int) ^ ((k : Int)).toNat = ((2 ^ k : Nat) : Int) := by
  rw [Int.toNat_natCast]; simp
theorem p2_pos (k : Int) : (1 : Int) ≤ 2 ^ k.toNat := by
  have : (0 : Int) < 2 ^ k.toNat := Int.pow_pos (by decide)
  omega
theorem p2_256 {n : Int} (h0 : 0 ≤ n) (h : n ≤ 8) : (2 : Int) ^ n.toNat ≤ 256 := by
  obtain ⟨a, rfl⟩ : ∃ a : Nat, n = (a : Int) := ⟨n.toNat, by omega⟩
  have := (tn_pw a (by omega)).2
  rw [p2n]; omega
theorem bt_off {a k : Int} (ha : 0 ≤ a ∧ a < 256) (hk : 0 ≤ k ∧ k < 8) (h : bt a k = 1) : 2 ^ k.toNat ≤ a ∧ ∀ j, 0 ≤ j → j < 8 → bt (a - 2 ^ k.toNat) j = if j = k then 0 else bt a j := by
  obtain ⟨x, rfl⟩ : ∃ x : Nat, a = (x : Int) := ⟨a.toNat, by omega⟩
  obtain ⟨y, rfl⟩ : ∃ y : Nat, k = (y : Int) := ⟨k.toNat, by omega⟩
  rw [bt_n] at h
  obtain ⟨h1, h2⟩ := tn_off x (by omega) y (by omega) (by omega)
  rw [p2n]
  refine ⟨by omega, fun j j0 j1 => ?_⟩
  obtain ⟨z, rfl⟩ : ∃ z : Nat, j = (z : Int) := ⟨j.toNat, by omega⟩
  rw [show (x : Int) - ((2 ^ y : Nat) : Int) = ((x - 2 ^ y : Nat) : Int) by omega, bt_n, bt_n, h2 z (by omega)]
  by_cases e : z = y
  · rw [if_pos e, if_pos (by omega)]; rfl
  · rw [if_neg e, if_neg (by omega)]
theorem bt_on {a k : Int} (ha : 0 ≤ a ∧ a < 256) (hk : 0 ≤ k ∧ k < 8) (h : bt a k = 0) : jor a (2 ^ k.toNat) = a + 2 ^ k.toNat ∧ ∀ j, 0 ≤ j → j < 8 → bt (a + 2 ^ k.toNat) j = if j = k then 1 else bt a j := by
  obtain ⟨x, rfl⟩ : ∃ x : Nat, a = (x : Int) := ⟨a.toNat, by omega⟩
  obtain ⟨y, rfl⟩ : ∃ y : Nat, k = (y : Int) := ⟨k.toNat, by omega⟩
  rw [bt_n] at h
  obtain ⟨h1, h2⟩ := tn_on x (by omega) y (by omega) (by omega)
  rw [p2n]
  refine ⟨?_, fun j j0 j1 => ?_⟩
  · unfold jor
    rw [Int.toNat_natCast, Int.toNat_natCast, h1]; simp
  · obtain ⟨z, rfl⟩ : ∃ z : Nat, j = (z : Int) := ⟨j.toNat, by omega⟩
    rw [show (x : Int) + ((2 ^ y : Nat) : Int) = ((x + 2 ^ y : Nat) : Int) by omega, bt_n, bt_n, h2 z (by omega)]
    by_cases e : z = y
    · rw [if_pos e, if_pos (by omega)]; rfl
    · rw [if_neg e, if_neg (by omega)]
theorem bt_cm {n a k : Int} (hn : n ≤ 8) (ha : 0 ≤ a ∧ a < 2 ^ n.toNat) (hk : 0 ≤ k ∧ k < n) : bt (2 ^ n.toNat - 1 - a) k = 1 - bt a k ∧ (bt a k = 0 → a + 2 ^ k.toNat < 2 ^ n.toNat) := by
  obtain ⟨m, rfl⟩ : ∃ m : Nat, n = (m : Int) := ⟨n.toNat, by omega⟩
  obtain ⟨x, rfl⟩ : ∃ x : Nat, a = (x : Int) := ⟨a.toNat, by omega⟩
  obtain ⟨y, rfl⟩ : ∃ y : Nat, k = (y : Int) := ⟨k.toNat, by omega⟩
  rw [p2n] at ha ⊢
  obtain ⟨h1, h2⟩ := tn_cm m (by omega) x (by omega) y (by omega)
  rw [p2n, bt_n]
  refine ⟨?_, fun c => ?_⟩
  · rw [show ((2 ^ m : Nat) : Int) - 1 - (x : Int) = ((2 ^ m - 1 - x : Nat) : Int) by omega, bt_n, h1]
    have : x / 2 ^ y % 2 < 2 := Nat.mod_lt _ (by decide)
    omega
  · have := h2 (by omega); omega
theorem bt_ex {n a : Int} (h0 : 0 ≤ n) (hn : n ≤ 8) (ha : 0 ≤ a ∧ a < 2 ^ n.toNat - 1) : ∃ k, 0 ≤ k ∧ k < n ∧ bt a k = 0 := by
  obtain ⟨m, rfl⟩ : ∃ m : Nat, n = (m : Int) := ⟨n.toNat, by omega⟩
  obtain ⟨x, rfl⟩ : ∃ x : Nat, a = (x : Int) := ⟨a.toNat, by omega⟩
  rw [p2n] at ha
  obtain ⟨k, h1, h2⟩ := tn_ex m (by omega) x (by omega)
  exact ⟨k, by omega, by omega, by rw [bt_n, h2]; rfl⟩
theorem tz_f {a : Int} (h : 1 ≤ a ∧ a < 256) : (0 ≤ tz a ∧ tz a < 8) ∧ bt a (tz a) = 1 ∧ jand a (a - 1) = a - 2 ^ (tz a).toNat := by
  obtain ⟨x, rfl⟩ : ∃ x : Nat, a = (x : Int) := ⟨a.toNat, by omega⟩
  obtain ⟨h1, h2, h3⟩ := tn_tz x (by omega) (by omega)
  have e : tz (x : Int) = ((tzN x : Nat) : Int) := by unfold tz; rw [Int.toNat_natCast]
  rw [e]
  refine ⟨by omega, by rw [bt_n, h2]; rfl, ?_⟩
  have b : bt (x : Int) ((tzN x : Nat) : Int) = 1 := by rw [bt_n, h2]; rfl
  have := (bt_off (a := (x : Int)) (by omega) (by omega) b).1
  unfold jand
  rw [p2n] at this ⊢
  rw [Int.toNat_natCast, show ((x : Int) - 1).toNat = x - 1 by omega, h3]
  omega
/-- the least of the marked ones, and of c -/
def mfN (c : Int) (P : Int → Bool) (f : Int → Int) : Nat → Int
  | 0 => c
  | k + 1 => if P (k : Int) = true then min (mfN c P f k) (f (k : Int)) else mfN c P f k
def mf (n c : Int) (P : Int → Bool) (f : Int → Int) : Int := mfN c P f n.toNat
theorem mf_0 (c : Int) (P : Int → Bool) (f : Int → Int) : mf 0 c P f = c := rfl
theorem mf_s {n : Int} (h : 0 ≤ n) (c : Int) (P : Int → Bool) (f : Int → Int) : mf (n + 1) c P f = if P n = true then min (mf n c P f) (f n) else mf n c P f := by
  unfold mf
  rw [show (n + 1).toNat = n.toNat + 1 by omega, mfN, show ((n.toNat : Nat) : Int) = n by omega]
theorem mfN_f {c : Int} {P : Int → Bool} {f : Int → Int} : ∀ n : Nat, mfN c P f n ≤ c ∧ (∀ k : Int, 0 ≤ k → k < n → P k = true → mfN c P f n ≤ f k) ∧ (mfN c P f n = c ∨ ∃ k : Int, 0 ≤ k ∧ k < n ∧ P k = true ∧ mfN c P f n = f k)
  | 0 => ⟨Int.le_refl _, fun k h0 h1 => by omega, Or.inl rfl⟩
  | n + 1 => by
    obtain ⟨h1, h2, h3⟩ := mfN_f (c := c) (P := P) (f := f) n
    rw [mfN]
    by_cases e : P (n : Int) = true
    · rw [if_pos e]
      refine ⟨by omega, fun k k0 k1 k2 => ?_, ?_⟩
      · by_cases e2 : k = n
        · rw [e2]; omega
        · have := h2 k k0 (by omega) k2; omega
      · by_cases e2 : mfN c P f n ≤ f (n : Int)
        · rw [show min (mfN c P f n) (f (n : Int)) = mfN c P f n by omega]
          exact h3.imp id (fun ⟨k, a, b, q⟩ => ⟨k, a, by omega, q⟩)
        · exact Or.inr ⟨n, by omega, by omega, e, by omega⟩
    · rw [if_neg e]
      refine ⟨h1, fun k k0 k1 k2 => ?_, h3.imp id (fun ⟨k, a, b, q⟩ => ⟨k, a, by omega, q⟩)⟩
      by_cases e2 : k = n
      · exact absurd (e2 ▸ k2) e
      · exact h2 k k0 (by omega) k2
theorem mf_f {n c : Int} {P : Int → Bool} {f : Int → Int} (h : 0 ≤ n) : mf n c P f ≤ c ∧ (∀ k : Int, 0 ≤ k → k < n → P k = true → mf n c P f ≤ f k) ∧ (mf n c P f = c ∨ ∃ k : Int, 0 ≤ k ∧ k < n ∧ P k = true ∧ mf n c P f = f k) := by
  have := mfN_f (c := c) (P := P) (f := f) n.toNat
  rw [show ((n.toNat : Nat) : Int) = n by omega] at this
  exact this
/-- two such leasts are one, if the same are marked and one of those is below both starts -/
theorem mf_eq {n c c' : Int} {P P' : Int → Bool} {f f' : Int → Int} (h : 0 ≤ n) (hp : ∀ k, 0 ≤ k → k < n → P k = P' k) (hf : ∀ k, 0 ≤ k → k < n → P k = true → f k = f' k) (he : c = c' ∨ ∃ k, 0 ≤ k ∧ k < n ∧ P k = true ∧ f k ≤ c ∧ f k ≤ c') : mf n c P f = mf n c' P' f' := by
  obtain ⟨a1, a2, a3⟩ := mf_f (c := c) (P := P) (f := f) h
  obtain ⟨b1, b2, b3⟩ := mf_f (c := c') (P := P') (f := f') h
  have u : ∀ k, 0 ≤ k → k < n → P k = true → mf n c' P' f' ≤ f k := fun k k0 k1 k2 => by
    rw [hf k k0 k1 k2]; exact b2 k k0 k1 (by rw [← hp k k0 k1]; exact k2)
  have w : ∀ k, 0 ≤ k → k < n → P' k = true → mf n c P f ≤ f' k := fun k k0 k1 k2 => by
    have k3 : P k = true := by rw [hp k k0 k1]; exact k2
    rw [← hf k k0 k1 k3]; exact a2 k k0 k1 k3
  have c1 : mf n c P f ≤ c' := by
    rcases he with he | ⟨k, k0, k1, k2, k3, k4⟩
    · omega
    · have := a2 k k0 k1 k2; omega
  have c2 : mf n c' P' f' ≤ c := by
    rcases he with he | ⟨k, k0, k1, k2, k3, k4⟩
    · omega
    · have := u k k0 k1 k2; omega
  have d1 : mf n c P f ≤ mf n c' P' f' := by
    rcases b3 with b3 | ⟨k, k0, k1, k2, k3⟩
    · omega
    · have := w k k0 k1 k2; omega
  have d2 : mf n c' P' f' ≤ mf n c P f := by
    rcases a3 with a3 | ⟨k, k0, k1, k2, k3⟩
    · omega
    · have := u k k0 k1 k2; omega
  omega
def agn (s : Int → Int → Int) (x set : Int) : Int := sg (s 146 4) (fun j => jbo (s 161 j = x ∧ bt set (s 160 j) = 0))
def ahm (s : Int → Int → Int) (x set : Int) : Int := sg (s 146 4) (fun j => jbo (s 161 j = x ∧ bt set (s 160 j) = 1))
def mayx (l e set : Int) : Int → Bool := fun x => decide (bt set x = 0 ∧ (x ≠ l ∨ bt set e = 1))
def tbN (s : Int → Int → Int) (n l e : Int) : Nat → Int → Int
  | 0 => fun _ => 0
  | k + 1 => fun set => if set = 2 ^ n.toNat - 1 - ((k + 1 : Nat) : Int) then mf n 1000 (mayx l e set) (fun x => agn s x set + tbN s n l e k (set + 2 ^ x.toNat)) else tbN s n l e k set
/-- the fewest that go against a row that goes on from a set, l not ahead of e -/
def GT (s : Int → Int → Int) (n l e set : Int) : Int := tbN s n l e (2 ^ n.toNat - 1) set
theorem tbN_st {s : Int → Int → Int} {n l e set : Int} {m : Nat} : ∀ k : Nat, set = 2 ^ n.toNat - 1 - (m : Int) → m ≤ k → tbN s n l e k set = tbN s n l e m set
  | 0, h, hk => by rw [show m = 0 by omega]
  | k + 1, h, hk => by
    by_cases e1 : m = k + 1
    · rw [e1]
    · show (if set = 2 ^ n.toNat - 1 - ((k + 1 : Nat) : Int) then _ else tbN s n l e k set) = _
      rw [if_neg (by omega)]
      exact tbN_st k h (by omega)
theorem p2c (n : Int) : (((2 ^ n.toNat - 1 : Nat)) : Int) = 2 ^ n.toNat - 1 := by
  have h1 := p2_pos n
  have h2 : ((2 ^ n.toNat : Nat) : Int) = 2 ^ n.toNat := by simp
  omega
theorem GT_all (s : Int → Int → Int) (n l e : Int) : GT s n l e (2 ^ n.toNat - 1) = 0 := by
  unfold GT
  rw [tbN_st (m := 0) _ (by omega) (by omega)]; rfl
theorem GT_rec {s : Int → Int → Int} {n l e set : Int} (hn : 0 ≤ n ∧ n ≤ 8) (h0 : 0 ≤ set) (h1 : set < 2 ^ n.toNat - 1) : GT s n l e set = mf n 1000 (mayx l e set) (fun x => agn s x set + GT s n l e (set + 2 ^ x.toNat)) := by
  have c := p2c n
  have hm : set = 2 ^ n.toNat - 1 - (((2 ^ n.toNat - 1 - set).toNat : Nat) : Int) := by omega
  obtain ⟨k, hk⟩ : ∃ k, (2 ^ n.toNat - 1 - set).toNat = k + 1 := ⟨(2 ^ n.toNat - 1 - set).toNat - 1, by omega⟩
  rw [hk] at hm
  show tbN s n l e (2 ^ n.toNat - 1) set = _
  rw [tbN_st (m := k + 1) _ hm (by omega)]
  show (if set = 2 ^ n.toNat - 1 - ((k + 1 : Nat) : Int) then _ else tbN s n l e k set) = _
  rw [if_pos hm]
  refine mf_eq hn.1 (fun x _ _ => rfl) (fun x x0 x1 x2 => ?_) (Or.inl rfl)
  have x3 := (of_decide_eq_true x2).1
  have x4 := (bt_cm hn.2 (a := set) (by omega) ⟨x0, x1⟩).2 x3
  have x5 := p2_pos x
  unfold GT
  rw [tbN_st (m := (2 ^ n.toNat - 1 - (set + 2 ^ x.toNat)).toNat) (2 ^ n.toNat - 1) (by omega) (by omega), tbN_st (m := (2 ^ n.toNat - 1 - (set + 2 ^ x.toNat)).toNat) k (by omega) (by omega)]
theorem sg_le {n : Int} {f g : Int → Int} (h : ∀ i, 0 ≤ i → i < n → f i ≤ g i) : sg n f ≤ sg n g := by
  have h1 := sg_nn (n := n) (f := fun i => g i + -1 * f i) (fun i i0 i1 => by have := h i i0 i1; omega)
  rw [sg_add, sg_mul] at h1
  omega
/-- what the invariant says of the sayings, as the orders want it -/
def SO (s : Int → Int → Int) : Prop := (0 ≤ s 146 2 ∧ s 146 2 ≤ 8) ∧ (0 ≤ s 146 4 ∧ s 146 4 ≤ 40) ∧ ∀ j, 0 ≤ j → j < s 146 4 → (0 ≤ s 160 j ∧ s 160 j < s 146 2) ∧ (0 ≤ s 161 j ∧ s 161 j < s 146 2) ∧ s 160 j ≠ s 161 j
theorem SO.of {s : Int → Int → Int} (h : DD s) (c : IC s) : SO s := by
  obtain ⟨-, -, e2, -⟩ := h.cnt
  obtain ⟨-, c2, -, ⟨-, c4, c5⟩, c6, -⟩ := c
  refine ⟨e2.2, c2, fun j j0 j1 => ⟨?_, ?_, c6 j j0 j1⟩⟩
  · have := c4 j j0 j1; omega
  · have := c5 j j0 j1; omega
def leOK (n l e : Int) : Prop := l = -1 ∨ (0 ≤ l ∧ l < n ∧ 0 ≤ e ∧ e < n ∧ l ≠ e)
theorem may_ex {n l e set : Int} (hn : 0 ≤ n ∧ n ≤ 8) (hle : leOK n l e) (h0 : 0 ≤ set) (h1 : set < 2 ^ n.toNat - 1) : ∃ x, 0 ≤ x ∧ x < n ∧ mayx l e set x = true := by
  obtain ⟨x, x0, x1, x2⟩ := bt_ex hn.1 hn.2 ⟨h0, h1⟩
  by_cases c : x = l
  · rcases hle with hle | ⟨l0, l1, e0, e1, e2⟩
    · omega
    · rcases bt_01 set e with d | d
      · exact ⟨e, e0, e1, decide_eq_true ⟨d, Or.inl (by omega)⟩⟩
      · exact ⟨x, x0, x1, decide_eq_true ⟨x2, Or.inr d⟩⟩
  · exact ⟨x, x0, x1, decide_eq_true ⟨x2, Or.inl c⟩⟩
def czs (s : Int → Int → Int) (set : Int) : Int := sg (s 146 4) (fun j => jbo (bt set (s 160 j) = 0 ∧ bt set (s 161 j) = 0))
theorem czs_b {s : Int → Int → Int} (h : SO s) (set : Int) : 0 ≤ czs s set ∧ czs s set ≤ 40 := by
  have := sg_b (f := fun j => jbo (bt set (s 160 j) = 0 ∧ bt set (s 161 j) = 0)) (a := 0) (b := 1) h.2.1.1 (fun j _ _ => jbo_01' _)
  have := h.2.1
  unfold czs; omega
theorem agn_b {s : Int → Int → Int} (h : SO s) (x set : Int) : 0 ≤ agn s x set ∧ agn s x set ≤ 40 := by
  have := sg_b (f := fun j => jbo (s 161 j = x ∧ bt set (s 160 j) = 0)) (a := 0) (b := 1) h.2.1.1 (fun j _ _ => jbo_01' _)
  have := h.2.1
  unfold agn; omega
theorem ahm_b {s : Int → Int → Int} (h : SO s) (x set : Int) : 0 ≤ ahm s x set ∧ ahm s x set ≤ 40 := by
  have := sg_b (f := fun j => jbo (s 161 j = x ∧ bt set (s 160 j) = 1)) (a := 0) (b := 1) h.2.1.1 (fun j _ _ => jbo_01' _)
  have := h.2.1
  unfold ahm; omega
theorem czs_st {s : Int → Int → Int} (h : SO s) {x set : Int} (hs : 0 ≤ set ∧ set < 256) (hx : 0 ≤ x ∧ x < 8) (hb : bt set x = 0) : agn s x set + czs s (set + 2 ^ x.toNat) ≤ czs s set := by
  unfold agn czs
  rw [← sg_add]
  refine sg_le (fun j j0 j1 => ?_)
  obtain ⟨a1, a2, a3⟩ := h.2.2 j j0 j1
  have hn := h.1
  have b := (bt_on hs hx hb).2
  by_cases c : s 161 j = x ∧ bt set (s 160 j) = 0
  · rw [jbo_t c, jbo_f (p := bt (set + 2 ^ x.toNat) (s 160 j) = 0 ∧ bt (set + 2 ^ x.toNat) (s 161 j) = 0) (fun q => by
      have := q.2
      rw [b _ a2.1 (by omega), if_pos c.1] at this
      omega), jbo_t ⟨c.2, by rw [c.1]; exact hb⟩]
    omega
  · rw [jbo_f c]
    by_cases d : bt (set + 2 ^ x.toNat) (s 160 j) = 0 ∧ bt (set + 2 ^ x.toNat) (s 161 j) = 0
    · obtain ⟨d1, d2⟩ := id d
      rw [b _ a1.1 (by omega)] at d1
      rw [b _ a2.1 (by omega)] at d2
      rw [jbo_t d, jbo_t ⟨by
        by_cases e : s 160 j = x
        · rw [if_pos e] at d1; omega
        · rw [if_neg e] at d1; exact d1, by
        by_cases e : s 161 j = x
        · rw [if_pos e] at d2; omega
        · rw [if_neg e] at d2; exact d2⟩]
      omega
    · rw [jbo_f d]
      have := jbo_01' (bt set (s 160 j) = 0 ∧ bt set (s 161 j) = 0)
      omega
theorem GT_b {s : Int → Int → Int} {l e : Int} (h : SO s) (hle : leOK (s 146 2) l e) : ∀ set, 0 ≤ set → set ≤ 2 ^ (s 146 2).toNat - 1 → 0 ≤ GT s (s 146 2) l e set ∧ GT s (s 146 2) l e set ≤ czs s set := by
  have hp := p2_256 h.1.1 h.1.2
  have := lp_ms (α := Int) (fun set => 2 ^ (s 146 2).toNat - 1 - set) (fun set => 0 ≤ set ∧ set ≤ 2 ^ (s 146 2).toNat - 1) (fun set => 0 ≤ GT s (s 146 2) l e set ∧ GT s (s 146 2) l e set ≤ czs s set) (fun set hs ih => ?_)
  · exact fun set h0 h1 => this set ⟨h0, h1⟩ (by omega)
  · by_cases c : set = 2 ^ (s 146 2).toNat - 1
    · rw [c, GT_all]; exact ⟨by omega, (czs_b h _).1⟩
    · have c1 : set < 2 ^ (s 146 2).toNat - 1 := by omega
      rw [GT_rec h.1 hs.1 c1]
      obtain ⟨f1, f2, f3⟩ := mf_f (n := s 146 2) (c := 1000) (P := mayx l e set) (f := fun x => agn s x set + GT s (s 146 2) l e (set + 2 ^ x.toNat)) h.1.1
      have nx : ∀ x, 0 ≤ x → x < s 146 2 → mayx l e set x = true → bt set x = 0 ∧ 0 ≤ GT s (s 146 2) l e (set + 2 ^ x.toNat) ∧ GT s (s 146 2) l e (set + 2 ^ x.toNat) ≤ czs s (set + 2 ^ x.toNat) := fun x x0 x1 x2 => by
        have x3 := (of_decide_eq_true x2).1
        have x4 := (bt_cm h.1.2 (a := set) (by omega) ⟨x0, x1⟩).2 x3
        have x5 := p2_pos x
        exact ⟨x3, ih _ ⟨by omega, by omega⟩ (by omega) (by omega)⟩
      refine ⟨?_, ?_⟩
      · rcases f3 with f3 | ⟨k, k0, k1, k2, k3⟩
        · omega
        · have := nx k k0 k1 k2
          have := (agn_b h k set).1
          omega
      · obtain ⟨x, x0, x1, x2⟩ := may_ex h.1 hle hs.1 c1
        obtain ⟨y1, y2, y3⟩ := nx x x0 x1 x2
        have y4 := f2 x x0 x1 x2
        have hn8 := h.1.2
        have y5 := czs_st h (set := set) (by omega) ⟨x0, by omega⟩ y1
        omega
theorem ahm_ag {s : Int → Int → Int} (h : SO s) {x r : Int} (hr : 0 ≤ r ∧ r < 2 ^ (s 146 2).toNat) (hx : 0 ≤ x ∧ x < s 146 2) (hb : bt r x = 1) : ahm s x (r - 2 ^ x.toNat) = agn s x (2 ^ (s 146 2).toNat - 1 - r) := by
  have hp := p2_256 h.1.1 h.1.2
  have hn := h.1
  refine sg_c (fun j j0 j1 => ?_)
  obtain ⟨a1, a2, a3⟩ := h.2.2 j j0 j1
  refine jbo_c ⟨fun q => ⟨q.1, ?_⟩, fun q => ⟨q.1, ?_⟩⟩
  · have := q.2
    rw [(bt_off (by omega) (by omega) hb).2 _ a1.1 (by omega), if_neg (by omega)] at this
    rw [(bt_cm hn.2 hr a1).1]; omega
  · have := q.2
    rw [(bt_off (by omega) (by omega) hb).2 _ a1.1 (by omega), if_neg (by omega)]
    rw [(bt_cm hn.2 hr a1).1] at this; omega
/-- the class's least over a set of those not placed yet is the reference's over the placed -/
theorem GT_cm {s : Int → Int → Int} {l e : Int} (h : SO s) (hle : leOK (s 146 2) l e) {r : Int} (h0 : 1 ≤ r) (h1 : r < 2 ^ (s 146 2).toNat) (P : Int → Bool) (hP : ∀ x, 0 ≤ x → x < s 146 2 → (P x = true ↔ bt r x = 1 ∧ ¬ (x = l ∧ bt r e = 1))) (f : Int → Int) (hf : ∀ x, 0 ≤ x → x < s 146 2 → P x = true → f x = ahm s x (r - 2 ^ x.toNat) + GT s (s 146 2) l e (2 ^ (s 146 2).toNat - 1 - (r - 2 ^ x.toNat))) : mf (s 146 2) 41 P f = GT s (s 146 2) l e (2 ^ (s 146 2).toNat - 1 - r) := by
  have hp := p2_256 h.1.1 h.1.2
  have hn := h.1
  rw [GT_rec h.1 (by omega) (by omega)]
  have same : ∀ x, 0 ≤ x → x < s 146 2 → P x = mayx l e (2 ^ (s 146 2).toNat - 1 - r) x := fun x x0 x1 => by
    have e1 := (bt_cm hn.2 (a := r) (by omega) ⟨x0, x1⟩).1
    have e2 : P x = true ↔ mayx l e (2 ^ (s 146 2).toNat - 1 - r) x = true := by
      rw [hP x x0 x1]
      unfold mayx
      rw [decide_eq_true_iff, e1]
      rcases hle with hle | ⟨l0, l1, e0, e3, e4⟩
      · constructor
        · intro q; exact ⟨by omega, Or.inl (by omega)⟩
        · intro q; exact ⟨by omega, by omega⟩
      · rw [(bt_cm hn.2 (a := r) (by omega) ⟨e0, e3⟩).1]
        have := bt_01 r e
        constructor
        · intro q; exact ⟨by omega, by omega⟩
        · intro q; exact ⟨by omega, by omega⟩
    cases hq : P x <;> cases hq2 : mayx l e (2 ^ (s 146 2).toNat - 1 - r) x <;> simp_all
  have fe : ∀ x, 0 ≤ x → x < s 146 2 → P x = true → f x = agn s x (2 ^ (s 146 2).toNat - 1 - r) + GT s (s 146 2) l e (2 ^ (s 146 2).toNat - 1 - r + 2 ^ x.toNat) := fun x x0 x1 x2 => by
    have x3 := ((hP x x0 x1).1 x2).1
    rw [hf x x0 x1 x2, ahm_ag h (by omega) ⟨x0, x1⟩ x3, show 2 ^ (s 146 2).toNat - 1 - (r - 2 ^ x.toNat) = 2 ^ (s 146 2).toNat - 1 - r + 2 ^ x.toNat by omega]
  refine mf_eq hn.1 same fe (Or.inr ?_)
  obtain ⟨x, x0, x1, x2⟩ := may_ex hn hle (set := 2 ^ (s 146 2).toNat - 1 - r) (by omega) (by omega)
  have x2' : P x = true := by rw [same x x0 x1]; exact x2
  have x3 := (of_decide_eq_true x2).1
  have x4 := (bt_cm hn.2 (a := 2 ^ (s 146 2).toNat - 1 - r) (by omega) ⟨x0, x1⟩).2 x3
  have x5 := p2_pos x
  have y1 := GT_b h hle (2 ^ (s 146 2).toNat - 1 - r + 2 ^ x.toNat) (by omega) (by omega)
  have y2 := czs_st h (set := 2 ^ (s 146 2).toNat - 1 - r) (by omega) ⟨x0, by omega⟩ x3
  have y3 := czs_b h (2 ^ (s 146 2).toNat - 1 - r)
  exact ⟨x, x0, x1, x2', by rw [fe x x0 x1 x2']; omega, by rw [fe x x0 x1 x2']; omega⟩
/-- the class's table of those ahead, a set at a time -/
theorem ahm_st {s : Int → Int → Int} (h : SO s) {p r z : Int} (hr : 0 ≤ r ∧ r < 256) (hz : 0 ≤ z ∧ z < 8) (hb : bt r z = 1) : ahm s p r = ahm s p (r - 2 ^ z.toNat) + sg (s 146 4) (fun k => jbo (s 160 k = z ∧ s 161 k = p)) := by
  unfold ahm
  rw [← sg_add]
  have hn := h.1
  refine sg_c (fun j j0 j1 => ?_)
  obtain ⟨a1, a2, a3⟩ := h.2.2 j j0 j1
  have b := (bt_off hr hz hb).2 _ a1.1 (by omega)
  by_cases c : s 161 j = p
  · by_cases d : s 160 j = z
    · rw [if_pos d] at b
      rw [jbo_t ⟨c, by rw [d]; exact hb⟩, jbo_f (fun q => by have := q.2; omega), jbo_t ⟨d, c⟩]; rfl
    · rw [if_neg d] at b
      rw [b, jbo_f (p := s 160 j = z ∧ s 161 j = p) (fun q => d q.1)]; omega
  · rw [jbo_f (fun q => c q.1), jbo_f (fun q => c q.1), jbo_f (fun q => c q.2)]; rfl
theorem ahm_0 (s : Int → Int → Int) (p : Int) : ahm s p 0 = 0 := sg_zero (fun j _ _ => jbo_f (fun q => by have := q.2; unfold bt at this; simp at this))
/-- the pupils in their places, one after another -/
def plc (s : Int → Int → Int) : Nat → Int → Int → Prop
  | 0 => fun set last => set = 0 ∧ last = -1
  | k + 1 => fun set last => ∃ set0 last0, plc s k set0 last0 ∧ fstk (s 146 2) (fun x => bt set0 x = 0 ∧ agn s x set0 + GT s (s 146 2) (-1) 0 (set0 + 2 ^ x.toNat) = GT s (s 146 2) (-1) 0 set0) last ∧ set = set0 + 2 ^ last.toNat
theorem plc.uniq {s : Int → Int → Int} : ∀ {k : Nat} {a b a' b' : Int}, plc s k a b → plc s k a' b' → a = a' ∧ b = b'
  | 0, a, b, a', b', h, g => by
    obtain ⟨h1, h2⟩ := h
    obtain ⟨g1, g2⟩ := g
    omega
  | k + 1, a, b, a', b', h, g => by
    obtain ⟨x, y, h1, h2, h3⟩ := h
    obtain ⟨x', y', g1, g2, g3⟩ := g
    obtain ⟨rfl, -⟩ := plc.uniq h1 g1
    have := h2.uniq g2
    subst this
    exact ⟨by rw [h3, g3], rfl⟩
def ahP (k : Int) : Prop := 111 ≤ k ∧ k ≤ 118
def fwP (k : Int) : Prop := 111 ≤ k ∧ k ≤ 119
def A0 (s : Int → Int → Int) : Prop := ∀ p, 0 ≤ p → p < 8 → s (111 + p) 0 = 0
def SOC (s : Int → Int → Int) : Prop := DD s ∧ IC s ∧ A0 s
theorem SOC.so {s : Int → Int → Int} (h : SOC s) : SO s := SO.of h.1 h.2.1
def AH (s s' : Int → Int → Int) : Prop := A0 s' ∧ ∀ p set, 0 ≤ p → p < s 146 2 → 0 ≤ set → set < 2 ^ (s 146 2).toNat → s' (111 + p) set = ahm s p set
def FW (s : Int → Int → Int) (l e : Int) (s' : Int → Int → Int) : Prop := AH s s' ∧ ∀ set, 0 ≤ set → set < 2 ^ (s 146 2).toNat → s' 119 set = GT s (s 146 2) l e (2 ^ (s 146 2).toNat - 1 - set)
theorem GT_fr {s s' : Int → Int → Int} (h : ∀ k, k = 146 ∨ k = 160 ∨ k = 161 → s' k = s k) (n l e : Int) : GT s' n l e = GT s n l e := by
  have a : ∀ x set, agn s' x set = agn s x set := fun x set => by
    unfold agn
    rw [h 146 (by omega), h 160 (by omega), h 161 (by omega)]
  have t : ∀ k, tbN s' n l e k = tbN s n l e k := fun k => by
    induction k with
    | zero => rfl
    | succ k ih =>
      funext set
      show (if _ then mf n 1000 (mayx l e set) (fun x => agn s' x set + tbN s' n l e k (set + 2 ^ x.toNat)) else tbN s' n l e k set) = (if _ then mf n 1000 (mayx l e set) (fun x => agn s x set + tbN s n l e k (set + 2 ^ x.toNat)) else tbN s n l e k set)
      rw [ih, show (fun x => agn s' x set + tbN s n l e k (set + 2 ^ x.toNat)) = (fun x => agn s x set + tbN s n l e k (set + 2 ^ x.toNat)) by funext x; rw [a]]
  funext set
  unfold GT
  rw [t]
theorem agn_fr {s s' : Int → Int → Int} (h : ∀ k, k = 146 ∨ k = 160 ∨ k = 161 → s' k = s k) : agn s' = agn s := by
  funext x set
  unfold agn
  rw [h 146 (by omega), h 160 (by omega), h 161 (by omega)]
theorem plc_fr {s s' : Int → Int → Int} (h : ∀ k, k = 146 ∨ k = 160 ∨ k = 161 → s' k = s k) : ∀ k, plc s' k = plc s k := fun k => by
  induction k with
  | zero => rfl
  | succ k ih =>
    funext a b
    show (∃ set0 last0, plc s' k set0 last0 ∧ fstk (s' 146 2) (fun x => bt set0 x = 0 ∧ agn s' x set0 + GT s' (s' 146 2) (-1) 0 (set0 + 2 ^ x.toNat) = GT s' (s' 146 2) (-1) 0 set0) b ∧ a = set0 + 2 ^ b.toNat) = _
    rw [ih, agn_fr h, GT_fr h, h 146 (by omega)]; rfl
theorem SOC.fr {s s' : Int → Int → Int} (h : SOC s) (f : ∀ k, ¬ fwP k → s' k = s k) (g : A0 s') : SOC s' := by
  have k : ∀ k, ¬ (111 ≤ k ∧ k ≤ 119) → s' k = s k := fun k hk => f k hk
  exact ⟨h.1.fr (fun q hq => k q (by omega)), h.2.1.k (by rw [k 97 (by omega)]) (by rw [k 146 (by omega)]) (by rw [k 146 (by omega)]; exact Int.le_refl _) (k _ (by omega)) (k _ (by omega)) (k _ (by omega)) (k _ (by omega)) (k _ (by omega)) (k _ (by omega)) (fun a a1 a2 => k _ (by omega)), g⟩
theorem Inv.soc {S0 : Int → Int} {s : Int → Int → Int} (h : Inv S0 s) : SOC s := ⟨h.dd, h.2.2.2.1, h.2.2.2.2.2.2.2.2⟩
theorem Inv.fw {S0 : Int → Int} {s s' : Int → Int → Int} (h : Inv S0 s) (f : frm fwP s s') (g : A0 s') : Inv S0 s' := by
  have k : ∀ k, ¬ (111 ≤ k ∧ k ≤ 119) → s' k = s k := fun k hk => f k hk
  obtain ⟨h0, ha, hb, hc, hd, he, hf, hg⟩ := h
  exact ⟨(k 0 (by omega)).trans h0, DD.fr ha (fun q hq => k q (by omega)), hb.k (k _ (by omega)) (k _ (by omega)),
    hc.k (by rw [k 97 (by omega)]) (by rw [k 146 (by omega)]) (by rw [k 146 (by omega)]; exact Int.le_refl _) (k _ (by omega)) (k _ (by omega)) (k _ (by omega)) (k _ (by omega)) (k _ (by omega)) (k _ (by omega)) (fun a a1 a2 => k _ (by omega)),
    hd.k (k _ (by omega)) (k _ (by omega)),
    he.k (by rw [k 124 (by omega)]) (by rw [k 146 (by omega)]) (k _ (by omega)) (k _ (by omega)) (k _ (by omega)) (fun a a1 a2 => k _ (by omega)),
    hf.k (by rw [k 139 (by omega)]) (by rw [k 141 (by omega)]) (k _ (by omega)) (k _ (by omega)) (k _ (by omega)) (by rw [k 145 (by omega)]) (by rw [k 145 (by omega)]),
    fun j j0 j1 => by rw [k 88 (by omega), k (88 + j) (by omega)]; exact hg.1 j j0 j1, g⟩
/-- how many are in a set -/
def pcn (n set : Int) : Int := sg n (fun x => bt set x)
theorem sg_dl {n x : Int} (h0 : 0 ≤ x) (h1 : x < n) : sg n (fun j => if j = x then 1 else 0) = 1 := by
  have key : ∀ m, x ≤ m → m < n → sg (m + 1) (fun j => if j = x then 1 else 0) = 1 := by
    have := lp_dn x (fun m => m < n → sg (m + 1) (fun j => if j = x then 1 else 0) = 1) (fun m hm ih hn => by
      rw [sg_s (by omega)]
      by_cases e : m = x
      · rw [if_pos e, sg_zero (fun i _ _ => by rw [if_neg (by omega)])]; rfl
      · have := ih (by omega) (by omega)
        rw [show m - 1 + 1 = m by omega] at this
        rw [this, if_neg e]; rfl)
    exact fun m h1 h2 => this m h1 h2
  have := key (n - 1) (by omega) (by omega)
  rw [show n - 1 + 1 = n by omega] at this
  exact this
theorem pcn_on {n set x : Int} (hn : n ≤ 8) (hs : 0 ≤ set ∧ set < 256) (hx : 0 ≤ x ∧ x < n) (hb : bt set x = 0) : pcn n (set + 2 ^ x.toNat) = pcn n set + 1 := by
  unfold pcn
  rw [← sg_dl hx.1 hx.2, ← sg_add]
  refine sg_c (fun j j0 j1 => ?_)
  rw [(bt_on hs (by omega) hb).2 j j0 (by omega)]
  by_cases e : j = x
  · rw [if_pos e, if_pos e, e, hb]; rfl
  · rw [if_neg e, if_neg e]; omega
theorem bt_0 (x : Int) : bt 0 x = 0 := by unfold bt; simp
theorem pcn_0 (n : Int) : pcn n 0 = 0 := sg_zero (fun j _ _ => bt_0 j)
theorem pcn_all {n : Int} (h0 : 0 ≤ n) (hn : n ≤ 8) : pcn n (2 ^ n.toNat - 1) = n := by
  have : ∀ j, 0 ≤ j → j < n → bt (2 ^ n.toNat - 1) j = 1 := fun j j0 j1 => by
    have := (bt_cm hn (a := 0) ⟨by omega, by have := p2_pos n; omega⟩ ⟨j0, j1⟩).1
    rw [bt_0, show (2 : Int) ^ n.toNat - 1 - 0 = 2 ^ n.toNat - 1 by omega] at this
    exact this
  have := sg_b (f := fun x => bt (2 ^ n.toNat - 1) x) (a := 1) (b := 1) h0 (fun j j0 j1 => by rw [this j j0 j1]; omega)
  unfold pcn; omega
/-- after so many places a set holds so many, and is none of all while places are left -/
theorem plc.pc {s : Int → Int → Int} (h : SO s) : ∀ {k : Nat} {a b : Int}, plc s k a b → (k : Int) ≤ s 146 2 → (∀ j : Nat, j < k → ∀ a b, plc s (j + 1) a b → 0 ≤ b) → (0 ≤ a ∧ a < 2 ^ (s 146 2).toNat) ∧ pcn (s 146 2) a = k
  | 0, a, b, q, hk, hj => by
    obtain ⟨rfl, -⟩ := q
    exact ⟨⟨by omega, by have := p2_pos (s 146 2); omega⟩, pcn_0 _⟩
  | k + 1, a, b, q, hk, hj => by
    have hb := hj k (by omega) a b q
    obtain ⟨a0, b0, q1, q2, rfl⟩ := q
    obtain ⟨r1, r2⟩ := plc.pc h q1 (by omega) (fun j hj2 => hj j (by omega))
    have hp := p2_256 h.1.1 h.1.2
    have hn := h.1
    rcases q2 with ⟨q2, -⟩ | ⟨q2, q3, ⟨q4, -⟩, -⟩
    · omega
    · have := (bt_cm hn.2 r1 ⟨q2, q3⟩).2 q4
      have := p2_pos b
      exact ⟨by omega, by rw [pcn_on hn.2 (by omega) ⟨q2, q3⟩ q4, r2]; omega⟩
theorem pick_ex {s : Int → Int → Int} {l e set : Int} (h : SO s) (hle : leOK (s 146 2) l e) (h0 : 0 ≤ set) (h1 : set < 2 ^ (s 146 2).toNat - 1) : ∃ x, 0 ≤ x ∧ x < s 146 2 ∧ mayx l e set x = true ∧ agn s x set + GT s (s 146 2) l e (set + 2 ^ x.toNat) = GT s (s 146 2) l e set := by
  obtain ⟨f1, f2, f3⟩ := mf_f (n := s 146 2) (c := 1000) (P := mayx l e set) (f := fun x => agn s x set + GT s (s 146 2) l e (set + 2 ^ x.toNat)) h.1.1
  rw [← GT_rec h.1 h0 h1] at f3
  rcases f3 with f3 | ⟨k, k0, k1, k2, k3⟩
  · have := GT_b h hle set h0 (by omega)
    have := czs_b h set
    omega
  · exact ⟨k, k0, k1, k2, k3.symm⟩
theorem pick_le {s : Int → Int → Int} {l e set x : Int} (h : SO s) (h0 : 0 ≤ set) (h1 : set < 2 ^ (s 146 2).toNat - 1) (hx : 0 ≤ x ∧ x < s 146 2) (hm : mayx l e set x = true) : GT s (s 146 2) l e set ≤ agn s x set + GT s (s 146 2) l e (set + 2 ^ x.toNat) := by
  obtain ⟨f1, f2, f3⟩ := mf_f (n := s 146 2) (c := 1000) (P := mayx l e set) (f := fun x => agn s x set + GT s (s 146 2) l e (set + 2 ^ x.toNat)) h.1.1
  rw [GT_rec h.1 h0 h1]
  exact f2 x hx.1 hx.2 hm
theorem fstk.cg {n : Int} {P P' : Int → Prop} {r : Int} (h : fstk n P r) (e : ∀ k, 0 ≤ k → k < n → (P k ↔ P' k)) : fstk n P' r := by
  rcases h with ⟨h1, h2⟩ | ⟨h1, h2, h3, h4⟩
  · exact Or.inl ⟨h1, fun k k0 k1 q => h2 k k0 k1 ((e k k0 k1).2 q)⟩
  · exact Or.inr ⟨h1, h2, (e r h1 h2).1 h3, fun k k0 k1 q => h4 k k0 k1 ((e k k0 (by omega)).2 q)⟩
theorem plc_ok {s : Int → Int → Int} (h : SO s) : ∀ {k : Nat} {a b : Int}, plc s k a b → (k : Int) ≤ s 146 2 → (0 ≤ a ∧ a < 2 ^ (s 146 2).toNat) ∧ pcn (s 146 2) a = k
  | 0, a, b, q, hk => by
    obtain ⟨rfl, -⟩ := q
    exact ⟨⟨by omega, by have := p2_pos (s 146 2); omega⟩, pcn_0 _⟩
  | k + 1, a, b, q, hk => by
    obtain ⟨a0, b0, q1, q2, rfl⟩ := q
    obtain ⟨r1, r2⟩ := plc_ok h q1 (by omega)
    have hp := p2_256 h.1.1 h.1.2
    have hn := h.1
    have na : a0 ≠ 2 ^ (s 146 2).toNat - 1 := fun e => by
      rw [e, pcn_all hn.1 hn.2] at r2; omega
    rcases q2 with ⟨-, q2⟩ | ⟨q2, q3, ⟨q4, -⟩, -⟩
    · obtain ⟨x, x0, x1, x2, x3⟩ := pick_ex h (l := -1) (e := 0) (Or.inl rfl) (set := a0) r1.1 (by omega)
      exact absurd ⟨(of_decide_eq_true x2).1, x3⟩ (q2 x x0 x1)
    · have := (bt_cm hn.2 r1 ⟨q2, q3⟩).2 q4
      have := p2_pos b
      exact ⟨by omega, by rw [pcn_on hn.2 (by omega) ⟨q2, q3⟩ q4, r2]; omega⟩
theorem plc_nx {s : Int → Int → Int} (h : SO s) {k : Nat} {a b : Int} (q : plc s k a b) (hk : (k : Int) < s 146 2) : a < 2 ^ (s 146 2).toNat - 1 ∧ ∃ x, 0 ≤ x ∧ x < s 146 2 ∧ bt a x = 0 ∧ agn s x a + GT s (s 146 2) (-1) 0 (a + 2 ^ x.toNat) = GT s (s 146 2) (-1) 0 a := by
  obtain ⟨r1, r2⟩ := plc_ok h q (by omega)
  have hn := h.1
  have na : a ≠ 2 ^ (s 146 2).toNat - 1 := fun e => by
    rw [e, pcn_all hn.1 hn.2] at r2; omega
  obtain ⟨x, x0, x1, x2, x3⟩ := pick_ex h (l := -1) (e := 0) (Or.inl rfl) (set := a) r1.1 (by omega)
  exact ⟨by omega, x, x0, x1, (of_decide_eq_true x2).1, x3⟩
theorem GT_l {s : Int → Int → Int} {n : Int} (hn : 0 ≤ n) (e e' : Int) : GT s n (-1) e = GT s n (-1) e' := by
  have t : ∀ k, tbN s n (-1) e k = tbN s n (-1) e' k := fun k => by
    induction k with
    | zero => rfl
    | succ k ih =>
      funext set
      show (if _ then mf n 1000 (mayx (-1) e set) (fun x => agn s x set + tbN s n (-1) e k (set + 2 ^ x.toNat)) else tbN s n (-1) e k set) = (if _ then mf n 1000 (mayx (-1) e' set) (fun x => agn s x set + tbN s n (-1) e' k (set + 2 ^ x.toNat)) else tbN s n (-1) e' k set)
      rw [ih, mf_eq hn (P' := mayx (-1) e' set) (f' := fun x => agn s x set + tbN s n (-1) e' k (set + 2 ^ x.toNat)) (c' := 1000) (fun x x0 x1 => by
        unfold mayx
        rw [decide_eq_decide]
        constructor
        · intro q; exact ⟨q.1, Or.inl (by omega)⟩
        · intro q; exact ⟨q.1, Or.inl (by omega)⟩) (fun x _ _ _ => rfl) (Or.inl rfl)]
  funext set
  unfold GT
  rw [t]
theorem FW.fr {s s' : Int → Int → Int} {l e : Int} (f : frm fwP s s') (h : FW s l e s') : FW s' l e s' := by
  have k : ∀ k, ¬ (111 ≤ k ∧ k ≤ 119) → s' k = s k := fun k hk => f k hk
  refine ⟨⟨h.1.1, fun p set a b c d => ?_⟩, fun set a b => ?_⟩
  · rw [k 146 (by omega)] at b d
    rw [h.1.2 p set a b c d]
    unfold ahm
    rw [k 146 (by omega), k 160 (by omega), k 161 (by omega)]
  · rw [k 146 (by omega)] at b ⊢
    rw [h.2 set a b, GT_fr (fun q hq => k q (by omega))]
