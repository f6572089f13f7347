/-! FROM THE CONSTRUCTORS' HEAP TO THE LAYOUT -/
def jceq (c c' : jE) : Prop := ∀ (base b : Nat) (cA : Nat → ClassId) (D : va_G) (a : Nat) (H : Heap), va_at D vwCl (a, jce base b cA c) H → va_at D vwCl (a, jce base b cA c') H
theorem jceq_e {c c' : jE} (h : c = c') : jceq c c' := fun _ _ _ _ _ _ q => h ▸ q
theorem arrV_c {cA : ClassId} {n : Nat} {f g : Nat → Value} (h : ∀ i, i < n → f i = g i) : arrV cA n f = arrV cA n g := by
  unfold arrV
  congr 1
  apply Array.ext
  · simp
  · intro j h1 h2
    have hj : j < n := by simpa using h1
    simp only [Array.getElem_ofFn]
    exact h j hj
theorem jcI {c c' : jE} {t n : Nat} (f g : Int → Int) (hc : c = .inr (t, n, .inl f)) (hc' : c' = .inr (t, n, .inl g)) (h : ∀ i : Int, 0 ≤ i → i < n → f i = g i) : jceq c c' := by
  subst hc
  subst hc'
  intro base b cA D a H q
  have q : H[a]? = some (arrV (cA t) n (fun i => .int (Int32.ofInt (f i)))) := q
  show H[a]? = some (arrV (cA t) n (fun i => .int (Int32.ofInt (g i))))
  rw [q, arrV_c (fun i hi => by rw [h i (by omega) (by omega)])]
theorem jcL {c c' : jE} {t n : Nat} (f g : Int → Int) (hc : c = .inr (t, n, .inr (.inl f))) (hc' : c' = .inr (t, n, .inr (.inl g))) (h : ∀ i : Int, 0 ≤ i → i < n → f i = g i) : jceq c c' := by
  subst hc
  subst hc'
  intro base b cA D a H q
  have q : H[a]? = some (arrV (cA t) n (fun i => .long (Int64.ofInt (f i)))) := q
  show H[a]? = some (arrV (cA t) n (fun i => .long (Int64.ofInt (g i))))
  rw [q, arrV_c (fun i hi => by rw [h i (by omega) (by omega)])]
theorem jcQ {c c' : jE} {t n : Nat} (f g : Int → Option Int) (hc : c = .inr (t, n, .inr (.inr f))) (hc' : c' = .inr (t, n, .inr (.inr g))) (h : ∀ i : Int, 0 ≤ i → i < n → f i = g i) : jceq c c' := by
  subst hc
  subst hc'
  intro base b cA D a H q
  have q : H[a]? = some (arrV (cA t) n (fun i => va_rf ((f i).map (jad base b)))) := q
  show H[a]? = some (arrV (cA t) n (fun i => va_rf ((g i).map (jad base b))))
  rw [q, arrV_c (fun i hi => by rw [h i (by omega) (by omega)])]
theorem j_relay {me : jM} {pc : Nat} {ls st : List jV} {n : Nat} {h h' : Int → jE} {nc ns : Nat} {Q : Option jV → Nat → (Int → jE) → Prop} (h0 : h' 0 = h 0) (hh : ∀ k : Nat, 0 < k → k ≤ n → jceq (h k) (h' k)) (k : jJ me pc ls st n h' nc ns Q) : jJ me pc ls st n h nc ns Q := by
  intro p l e s m args below meth c base b D cA SC H locs lsS Z C G hW hS hl hZ
  exact k p l e s m args below meth c base b D cA SC H locs lsS Z C G ⟨hW.1, h0.trans hW.2.1, fun k9 h8 h9 => hh k9 h8 h9 base b cA D _ H (hW.2.2 k9 h8 h9)⟩ hS hl hZ
/-- the law's script as numbers: its length, then its places -/
def scr (L : Nat) (xs : Nat → Int32) : Int → Int := fun i => if i ≤ 0 then (L : Int) else (xs (i - 1).toNat).toInt
theorem scr_r (L : Nat) (xs : Nat → Int32) (h : L ≤ 3072) (i : Int) : jr32 (scr L xs i) := by
  unfold scr
  split
  · exact ⟨by omega, by omega⟩
  · have h1 := Int32.le_toInt (xs (i - 1).toNat)
    have h2 := Int32.toInt_lt (xs (i - 1).toNat)
    exact ⟨by omega, by omega⟩
/-- what the cells hold behind the constructors, but for the reference's fraction -/
def s1f (S0 : Int → Int) : Int → Int → Int := fun k i => if k = 0 then S0 i else if k = 70 then 1 else if k = 157 then 1 else if k = 141 ∧ i = 1 then 1 else if k = 142 ∧ i = 0 then 1 else 0
def h0f (L : Nat) (xs : Nat → Int32) : Int → jE := fun _ => .inr (0, (scr L xs 0).toNat, .inl (fun i => scr L xs (i + 1)))
def hA (L : Nat) (xs : Nat → Int32) : Int → jE := H_X10_init (jup (h0f L xs) 1 (.inl (10, [jN, jN, jN, jN, jN, jN, jN, jN, jN, jN])))
def hB (L : Nat) (xs : Nat → Int32) : Int → jE := H_X11 (jup (hA L xs) 143 (.inl (11, [jN, jN, jN, jN, jN, jN, jN, jN, jN, jN, jN, jN, jN, jN, jN, jN, jN, jN, jN, jN, jN, jN, jN, jN, jN])))
set_option maxRecDepth 50000 in
theorem hb_1 (L : Nat) (xs : Nat → Int32) : jceq (hB L xs 1) (jlay (s1f (scr L xs)) 1) := by exact jceq_e rfl
set_option maxRecDepth 50000 in
theorem hb_2 (L : Nat) (xs : Nat → Int32) : jceq (hB L xs 2) (jlay (s1f (scr L xs)) 2) := by exact jceq_e rfl
set_option maxRecDepth 50000 in
theorem hb_3 (L : Nat) (xs : Nat → Int32) : jceq (hB L xs 3) (jlay (s1f (scr L xs)) 3) := by exact jcI _ _ rfl rfl (fun i a b => rfl)
set_option maxRecDepth 50000 in
theorem hb_4 (L : Nat) (xs : Nat → Int32) : jceq (hB L xs 4) (jlay (s1f (scr L xs)) 4) := by exact jcI _ _ rfl rfl (fun i a b => rfl)
set_option maxRecDepth 50000 in
theorem hb_5 (L : Nat) (xs : Nat → Int32) : jceq (hB L xs 5) (jlay (s1f (scr L xs)) 5) := by exact jcI _ _ rfl rfl (fun i a b => rfl)
set_option maxRecDepth 50000 in
theorem hb_6 (L : Nat) (xs : Nat → Int32) : jceq (hB L xs 6) (jlay (s1f (scr L xs)) 6) := by exact jcI _ _ rfl rfl (fun i a b => rfl)
set_option maxRecDepth 50000 in
theorem hb_7 (L : Nat) (xs : Nat → Int32) : jceq (hB L xs 7) (jlay (s1f (scr L xs)) 7) := by exact jcI _ _ rfl rfl (fun i a b => rfl)
set_option maxRecDepth 50000 in
theorem hb_8 (L : Nat) (xs : Nat → Int32) : jceq (hB L xs 8) (jlay (s1f (scr L xs)) 8) := by exact jcI _ _ rfl rfl (fun i a b => rfl)
set_option maxRecDepth 50000 in
theorem hb_9 (L : Nat) (xs : Nat → Int32) : jceq (hB L xs 9) (jlay (s1f (scr L xs)) 9) := by exact jcI _ _ rfl rfl (fun i a b => rfl)
set_option maxRecDepth 50000 in
theorem hb_10 (L : Nat) (xs : Nat → Int32) : jceq (hB L xs 10) (jlay (s1f (scr L xs)) 10) := by exact jcI _ _ rfl rfl (fun i a b => rfl)
set_option maxRecDepth 50000 in
theorem hb_11 (L : Nat) (xs : Nat → Int32) : jceq (hB L xs 11) (jlay (s1f (scr L xs)) 11) := by exact jcI _ _ rfl rfl (fun i a b => rfl)
set_option maxRecDepth 50000 in
theorem hb_12 (L : Nat) (xs : Nat → Int32) : jceq (hB L xs 12) (jlay (s1f (scr L xs)) 12) := by exact jcQ (fun i => if i < ((30 : Nat) : Int) then some (((11 : Nat) : Int) + 2 + i) else none) (fun i => some (13 + i)) rfl rfl (fun i a b => by rw [if_pos b]; congr 1)
set_option maxRecDepth 50000 in
theorem hb_13 (L : Nat) (xs : Nat → Int32) : jceq (hB L xs 13) (jlay (s1f (scr L xs)) 13) := by exact jcI _ _ rfl rfl (fun i a b => rfl)
set_option maxRecDepth 50000 in
theorem hb_14 (L : Nat) (xs : Nat → Int32) : jceq (hB L xs 14) (jlay (s1f (scr L xs)) 14) := by exact jcI _ _ rfl rfl (fun i a b => rfl)
set_option maxRecDepth 50000 in
theorem hb_15 (L : Nat) (xs : Nat → Int32) : jceq (hB L xs 15) (jlay (s1f (scr L xs)) 15) := by exact jcI _ _ rfl rfl (fun i a b => rfl)
set_option maxRecDepth 50000 in
theorem hb_16 (L : Nat) (xs : Nat → Int32) : jceq (hB L xs 16) (jlay (s1f (scr L xs)) 16) := by exact jcI _ _ rfl rfl (fun i a b => rfl)
set_option maxRecDepth 50000 in
theorem hb_17 (L : Nat) (xs : Nat → Int32) : jceq (hB L xs 17) (jlay (s1f (scr L xs)) 17) := by exact jcI _ _ rfl rfl (fun i a b => rfl)
set_option maxRecDepth 50000 in
theorem hb_18 (L : Nat) (xs : Nat → Int32) : jceq (hB L xs 18) (jlay (s1f (scr L xs)) 18) := by exact jcI _ _ rfl rfl (fun i a b => rfl)
set_option maxRecDepth 50000 in
theorem hb_19 (L : Nat) (xs : Nat → Int32) : jceq (hB L xs 19) (jlay (s1f (scr L xs)) 19) := by exact jcI _ _ rfl rfl (fun i a b => rfl)
set_option maxRecDepth 50000 in
theorem hb_20 (L : Nat) (xs : Nat → Int32) : jceq (hB L xs 20) (jlay (s1f (scr L xs)) 20) := by exact jcI _ _ rfl rfl (fun i a b => rfl)
set_option maxRecDepth 50000 in
theorem hb_21 (L : Nat) (xs : Nat → Int32) : jceq (hB L xs 21) (jlay (s1f (scr L xs)) 21) := by exact jcI _ _ rfl rfl (fun i a b => rfl)
set_option maxRecDepth 50000 in
theorem hb_22 (L : Nat) (xs : Nat → Int32) : jceq (hB L xs 22) (jlay (s1f (scr L xs)) 22) := by exact jcI _ _ rfl rfl (fun i a b => rfl)
set_option maxRecDepth 50000 in
theorem hb_23 (L : Nat) (xs : Nat → Int32) : jceq (hB L xs 23) (jlay (s1f (scr L xs)) 23) := by exact jcI _ _ rfl rfl (fun i a b => rfl)
set_option maxRecDepth 50000 in
theorem hb_24 (L : Nat) (xs : Nat → Int32) : jceq (hB L xs 24) (jlay (s1f (scr L xs)) 24) := by exact jcI _ _ rfl rfl (fun i a b => rfl)
set_option maxRecDepth 50000 in
theorem hb_25 (L : Nat) (xs : Nat → Int32) : jceq (hB L xs 25) (jlay (s1f (scr L xs)) 25) := by exact jcI _ _ rfl rfl (fun i a b => rfl)
set_option maxRecDepth 50000 in
theorem hb_26 (L : Nat) (xs : Nat → Int32) : jceq (hB L xs 26) (jlay (s1f (scr L xs)) 26) := by exact jcI _ _ rfl rfl (fun i a b => rfl)
set_option maxRecDepth 50000 in
theorem hb_27 (L : Nat) (xs : Nat → Int32) : jceq (hB L xs 27) (jlay (s1f (scr L xs)) 27) := by exact jcI _ _ rfl rfl (fun i a b => rfl)
set_option maxRecDepth 50000 in
theorem hb_28 (L : Nat) (xs : Nat → Int32) : jceq (hB L xs 28) (jlay (s1f (scr L xs)) 28) := by exact jcI _ _ rfl rfl (fun i a b => rfl)
set_option maxRecDepth 50000 in
theorem hb_29 (L : Nat) (xs : Nat → Int32) : jceq (hB L xs 29) (jlay (s1f (scr L xs)) 29) := by exact jcI _ _ rfl rfl (fun i a b => rfl)
set_option maxRecDepth 50000 in
theorem hb_30 (L : Nat) (xs : Nat → Int32) : jceq (hB L xs 30) (jlay (s1f (scr L xs)) 30) := by exact jcI _ _ rfl rfl (fun i a b => rfl)
set_option maxRecDepth 50000 in
theorem hb_31 (L : Nat) (xs : Nat → Int32) : jceq (hB L xs 31) (jlay (s1f (scr L xs)) 31) := by exact jcI _ _ rfl rfl (fun i a b => rfl)
set_option maxRecDepth 50000 in
theorem hb_32 (L : Nat) (xs : Nat → Int32) : jceq (hB L xs 32) (jlay (s1f (scr L xs)) 32) := by exact jcI _ _ rfl rfl (fun i a b => rfl)
set_option maxRecDepth 50000 in
theorem hb_33 (L : Nat) (xs : Nat → Int32) : jceq (hB L xs 33) (jlay (s1f (scr L xs)) 33) := by exact jcI _ _ rfl rfl (fun i a b => rfl)
set_option maxRecDepth 50000 in
theorem hb_34 (L : Nat) (xs : Nat → Int32) : jceq (hB L xs 34) (jlay (s1f (scr L xs)) 34) := by exact jcI _ _ rfl rfl (fun i a b => rfl)
set_option maxRecDepth 50000 in
theorem hb_35 (L : Nat) (xs : Nat → Int32) : jceq (hB L xs 35) (jlay (s1f (scr L xs)) 35) := by exact jcI _ _ rfl rfl (fun i a b => rfl)
set_option maxRecDepth 50000 in
theorem hb_36 (L : Nat) (xs : Nat → Int32) : jceq (hB L xs 36) (jlay (s1f (scr L xs)) 36) := by exact jcI _ _ rfl rfl (fun i a b => rfl)
set_option maxRecDepth 50000 in
theorem hb_37 (L : Nat) (xs : Nat → Int32) : jceq (hB L xs 37) (jlay (s1f (scr L xs)) 37) := by exact jcI _ _ rfl rfl (fun i a b => rfl)
set_option maxRecDepth 50000 in
theorem hb_38 (L : Nat) (xs : Nat → Int32) : jceq (hB L xs 38) (jlay (s1f (scr L xs)) 38) := by exact jcI _ _ rfl rfl (fun i a b => rfl)
set_option maxRecDepth 50000 in
theorem hb_39 (L : Nat) (xs : Nat → Int32) : jceq (hB L xs 39) (jlay (s1f (scr L xs)) 39) := by exact jcI _ _ rfl rfl (fun i a b => rfl)
set_option maxRecDepth 50000 in
theorem hb_40 (L : Nat) (xs : Nat → Int32) : jceq (hB L xs 40) (jlay (s1f (scr L xs)) 40) := by exact jcI _ _ rfl rfl (fun i a b => rfl)
set_option maxRecDepth 50000 in
theorem hb_41 (L : Nat) (xs : Nat → Int32) : jceq (hB L xs 41) (jlay (s1f (scr L xs)) 41) := by exact jcI _ _ rfl rfl (fun i a b => rfl)
set_option maxRecDepth 50000 in
theorem hb_42 (L : Nat) (xs : Nat → Int32) : jceq (hB L xs 42) (jlay (s1f (scr L xs)) 42) := by exact jcI _ _ rfl rfl (fun i a b => rfl)
set_option maxRecDepth 50000 in
theorem hb_43 (L : Nat) (xs : Nat → Int32) : jceq (hB L xs 43) (jlay (s1f (scr L xs)) 43) := by exact jceq_e rfl
set_option maxRecDepth 50000 in
theorem hb_44 (L : Nat) (xs : Nat → Int32) : jceq (hB L xs 44) (jlay (s1f (scr L xs)) 44) := by exact jcQ (fun i => if i < ((24 : Nat) : Int) then some (((43 : Nat) : Int) + 2 + i) else none) (fun i => some (45 + i)) rfl rfl (fun i a b => by rw [if_pos b]; congr 1)
set_option maxRecDepth 50000 in
theorem hb_45 (L : Nat) (xs : Nat → Int32) : jceq (hB L xs 45) (jlay (s1f (scr L xs)) 45) := by exact jcI _ _ rfl rfl (fun i a b => rfl)
set_option maxRecDepth 50000 in
theorem hb_46 (L : Nat) (xs : Nat → Int32) : jceq (hB L xs 46) (jlay (s1f (scr L xs)) 46) := by exact jcI _ _ rfl rfl (fun i a b => rfl)
set_option maxRecDepth 50000 in
theorem hb_47 (L : Nat) (xs : Nat → Int32) : jceq (hB L xs 47) (jlay (s1f (scr L xs)) 47) := by exact jcI _ _ rfl rfl (fun i a b => rfl)
set_option maxRecDepth 50000 in
theorem hb_48 (L : Nat) (xs : Nat → Int32) : jceq (hB L xs 48) (jlay (s1f (scr L xs)) 48) := by exact jcI _ _ rfl rfl (fun i a b => rfl)
set_option maxRecDepth 50000 in
theorem hb_49 (L : Nat) (xs : Nat → Int32) : jceq (hB L xs 49) (jlay (s1f (scr L xs)) 49) := by exact jcI _ _ rfl rfl (fun i a b => rfl)
set_option maxRecDepth 50000 in
theorem hb_50 (L : Nat) (xs : Nat → Int32) : jceq (hB L xs 50) (jlay (s1f (scr L xs)) 50) := by exact jcI _ _ rfl rfl (fun i a b => rfl)
set_option maxRecDepth 50000 in
theorem hb_51 (L : Nat) (xs : Nat → Int32) : jceq (hB L xs 51) (jlay (s1f (scr L xs)) 51) := by exact jcI _ _ rfl rfl (fun i a b => rfl)
set_option maxRecDepth 50000 in
theorem hb_52 (L : Nat) (xs : Nat → Int32) : jceq (hB L xs 52) (jlay (s1f (scr L xs)) 52) := by exact jcI _ _ rfl rfl (fun i a b => rfl)
set_option maxRecDepth 50000 in
theorem hb_53 (L : Nat) (xs : Nat → Int32) : jceq (hB L xs 53) (jlay (s1f (scr L xs)) 53) := by exact jcI _ _ rfl rfl (fun i a b => rfl)
set_option maxRecDepth 50000 in
theorem hb_54 (L : Nat) (xs : Nat → Int32) : jceq (hB L xs 54) (jlay (s1f (scr L xs)) 54) := by exact jcI _ _ rfl rfl (fun i a b => rfl)
set_option maxRecDepth 50000 in
theorem hb_55 (L : Nat) (xs : Nat → Int32) : jceq (hB L xs 55) (jlay (s1f (scr L xs)) 55) := by exact jcI _ _ rfl rfl (fun i a b => rfl)
set_option maxRecDepth 50000 in
theorem hb_56 (L : Nat) (xs : Nat → Int32) : jceq (hB L xs 56) (jlay (s1f (scr L xs)) 56) := by exact jcI _ _ rfl rfl (fun i a b => rfl)
set_option maxRecDepth 50000 in
theorem hb_57 (L : Nat) (xs : Nat → Int32) : jceq (hB L xs 57) (jlay (s1f (scr L xs)) 57) := by exact jcI _ _ rfl rfl (fun i a b => rfl)
set_option maxRecDepth 50000 in
theorem hb_58 (L : Nat) (xs : Nat → Int32) : jceq (hB L xs 58) (jlay (s1f (scr L xs)) 58) := by exact jcI _ _ rfl rfl (fun i a b => rfl)
set_option maxRecDepth 50000 in
theorem hb_59 (L : Nat) (xs : Nat → Int32) : jceq (hB L xs 59) (jlay (s1f (scr L xs)) 59) := by exact jcI _ _ rfl rfl (fun i a b => rfl)
set_option maxRecDepth 50000 in
theorem hb_60 (L : Nat) (xs : Nat → Int32) : jceq (hB L xs 60) (jlay (s1f (scr L xs)) 60) := by exact jcI _ _ rfl rfl (fun i a b => rfl)
set_option maxRecDepth 50000 in
theorem hb_61 (L : Nat) (xs : Nat → Int32) : jceq (hB L xs 61) (jlay (s1f (scr L xs)) 61) := by exact jcI _ _ rfl rfl (fun i a b => rfl)
set_option maxRecDepth 50000 in
theorem hb_62 (L : Nat) (xs : Nat → Int32) : jceq (hB L xs 62) (jlay (s1f (scr L xs)) 62) := by exact jcI _ _ rfl rfl (fun i a b => rfl)
set_option maxRecDepth 50000 in
theorem hb_63 (L : Nat) (xs : Nat → Int32) : jceq (hB L xs 63) (jlay (s1f (scr L xs)) 63) := by exact jcI _ _ rfl rfl (fun i a b => rfl)
set_option maxRecDepth 50000 in
theorem hb_64 (L : Nat) (xs : Nat → Int32) : jceq (hB L xs 64) (jlay (s1f (scr L xs)) 64) := by exact jcI _ _ rfl rfl (fun i a b => rfl)
set_option maxRecDepth 50000 in
theorem hb_65 (L : Nat) (xs : Nat → Int32) : jceq (hB L xs 65) (jlay (s1f (scr L xs)) 65) := by exact jcI _ _ rfl rfl (fun i a b => rfl)
set_option maxRecDepth 50000 in
theorem hb_66 (L : Nat) (xs : Nat → Int32) : jceq (hB L xs 66) (jlay (s1f (scr L xs)) 66) := by exact jcI _ _ rfl rfl (fun i a b => rfl)
set_option maxRecDepth 50000 in
theorem hb_67 (L : Nat) (xs : Nat → Int32) : jceq (hB L xs 67) (jlay (s1f (scr L xs)) 67) := by exact jcI _ _ rfl rfl (fun i a b => rfl)
set_option maxRecDepth 50000 in
theorem hb_68 (L : Nat) (xs : Nat → Int32) : jceq (hB L xs 68) (jlay (s1f (scr L xs)) 68) := by exact jcI _ _ rfl rfl (fun i a b => rfl)
set_option maxRecDepth 50000 in
theorem hb_69 (L : Nat) (xs : Nat → Int32) : jceq (hB L xs 69) (jlay (s1f (scr L xs)) 69) := by exact jcI _ _ rfl rfl (fun i a b => rfl)
set_option maxRecDepth 50000 in
theorem hb_70 (L : Nat) (xs : Nat → Int32) : jceq (hB L xs 70) (jlay (s1f (scr L xs)) 70) := by exact jcI _ _ rfl rfl (fun i a b => by rcases (show i = 0 ∨ i = 1 ∨ i = 2 ∨ i = 3 by omega) with rfl | rfl | rfl | rfl <;> rfl)
set_option maxRecDepth 50000 in
theorem hb_71 (L : Nat) (xs : Nat → Int32) : jceq (hB L xs 71) (jlay (s1f (scr L xs)) 71) := by exact jceq_e rfl
set_option maxRecDepth 50000 in
theorem hb_72 (L : Nat) (xs : Nat → Int32) : jceq (hB L xs 72) (jlay (s1f (scr L xs)) 72) := by exact jcQ _ _ rfl rfl (fun i a b => by rcases (show i = 0 ∨ i = 1 ∨ i = 2 ∨ i = 3 by omega) with rfl | rfl | rfl | rfl <;> rfl)
set_option maxRecDepth 50000 in
theorem hb_73 (L : Nat) (xs : Nat → Int32) : jceq (hB L xs 73) (jlay (s1f (scr L xs)) 73) := by exact jceq_e rfl
set_option maxRecDepth 50000 in
theorem hb_74 (L : Nat) (xs : Nat → Int32) : jceq (hB L xs 74) (jlay (s1f (scr L xs)) 74) := by exact jcI _ _ rfl rfl (fun i a b => rfl)
set_option maxRecDepth 50000 in
theorem hb_75 (L : Nat) (xs : Nat → Int32) : jceq (hB L xs 75) (jlay (s1f (scr L xs)) 75) := by exact jceq_e rfl
set_option maxRecDepth 50000 in
theorem hb_76 (L : Nat) (xs : Nat → Int32) : jceq (hB L xs 76) (jlay (s1f (scr L xs)) 76) := by exact jcI _ _ rfl rfl (fun i a b => rfl)
set_option maxRecDepth 50000 in
theorem hb_77 (L : Nat) (xs : Nat → Int32) : jceq (hB L xs 77) (jlay (s1f (scr L xs)) 77) := by exact jceq_e rfl
set_option maxRecDepth 50000 in
theorem hb_78 (L : Nat) (xs : Nat → Int32) : jceq (hB L xs 78) (jlay (s1f (scr L xs)) 78) := by exact jcI _ _ rfl rfl (fun i a b => rfl)
set_option maxRecDepth 50000 in
theorem hb_79 (L : Nat) (xs : Nat → Int32) : jceq (hB L xs 79) (jlay (s1f (scr L xs)) 79) := by exact jceq_e rfl
set_option maxRecDepth 50000 in
theorem hb_80 (L : Nat) (xs : Nat → Int32) : jceq (hB L xs 80) (jlay (s1f (scr L xs)) 80) := by exact jcI _ _ rfl rfl (fun i a b => rfl)
set_option maxRecDepth 50000 in
theorem hb_81 (L : Nat) (xs : Nat → Int32) : jceq (hB L xs 81) (jlay (s1f (scr L xs)) 81) := by exact jceq_e rfl
set_option maxRecDepth 50000 in
theorem hb_82 (L : Nat) (xs : Nat → Int32) : jceq (hB L xs 82) (jlay (s1f (scr L xs)) 82) := by exact jcI _ _ rfl rfl (fun i a b => rfl)
set_option maxRecDepth 50000 in
theorem hb_83 (L : Nat) (xs : Nat → Int32) : jceq (hB L xs 83) (jlay (s1f (scr L xs)) 83) := by exact jceq_e rfl
set_option maxRecDepth 50000 in
theorem hb_84 (L : Nat) (xs : Nat → Int32) : jceq (hB L xs 84) (jlay (s1f (scr L xs)) 84) := by exact jcI _ _ rfl rfl (fun i a b => rfl)
set_option maxRecDepth 50000 in
theorem hb_85 (L : Nat) (xs : Nat → Int32) : jceq (hB L xs 85) (jlay (s1f (scr L xs)) 85) := by exact jcI _ _ rfl rfl (fun i a b => rfl)
set_option maxRecDepth 50000 in
theorem hb_86 (L : Nat) (xs : Nat → Int32) : jceq (hB L xs 86) (jlay (s1f (scr L xs)) 86) := by exact jceq_e rfl
set_option maxRecDepth 50000 in
theorem hb_87 (L : Nat) (xs : Nat → Int32) : jceq (hB L xs 87) (jlay (s1f (scr L xs)) 87) := by exact jcQ (fun i => if i < ((9 : Nat) : Int) then some (((86 : Nat) : Int) + 2 + i) else none) (fun i => some (88 + i)) rfl rfl (fun i a b => by rw [if_pos b]; congr 1)
set_option maxRecDepth 50000 in
theorem hb_88 (L : Nat) (xs : Nat → Int32) : jceq (hB L xs 88) (jlay (s1f (scr L xs)) 88) := by exact jcI _ _ rfl rfl (fun i a b => rfl)
set_option maxRecDepth 50000 in
theorem hb_89 (L : Nat) (xs : Nat → Int32) : jceq (hB L xs 89) (jlay (s1f (scr L xs)) 89) := by exact jcI _ _ rfl rfl (fun i a b => rfl)
set_option maxRecDepth 50000 in
theorem hb_90 (L : Nat) (xs : Nat → Int32) : jceq (hB L xs 90) (jlay (s1f (scr L xs)) 90) := by exact jcI _ _ rfl rfl (fun i a b => rfl)
set_option maxRecDepth 50000 in
theorem hb_91 (L : Nat) (xs : Nat → Int32) : jceq (hB L xs 91) (jlay (s1f (scr L xs)) 91) := by exact jcI _ _ rfl rfl (fun i a b => rfl)
set_option maxRecDepth 50000 in
theorem hb_92 (L : Nat) (xs : Nat → Int32) : jceq (hB L xs 92) (jlay (s1f (scr L xs)) 92) := by exact jcI _ _ rfl rfl (fun i a b => rfl)
set_option maxRecDepth 50000 in
theorem hb_93 (L : Nat) (xs : Nat → Int32) : jceq (hB L xs 93) (jlay (s1f (scr L xs)) 93) := by exact jcI _ _ rfl rfl (fun i a b => rfl)
set_option maxRecDepth 50000 in
theorem hb_94 (L : Nat) (xs : Nat → Int32) : jceq (hB L xs 94) (jlay (s1f (scr L xs)) 94) := by exact jcI _ _ rfl rfl (fun i a b => rfl)
set_option maxRecDepth 50000 in
theorem hb_95 (L : Nat) (xs : Nat → Int32) : jceq (hB L xs 95) (jlay (s1f (scr L xs)) 95) := by exact jcI _ _ rfl rfl (fun i a b => rfl)
set_option maxRecDepth 50000 in
theorem hb_96 (L : Nat) (xs : Nat → Int32) : jceq (hB L xs 96) (jlay (s1f (scr L xs)) 96) := by exact jcI _ _ rfl rfl (fun i a b => rfl)
set_option maxRecDepth 50000 in
theorem hb_97 (L : Nat) (xs : Nat → Int32) : jceq (hB L xs 97) (jlay (s1f (scr L xs)) 97) := by exact jceq_e rfl
set_option maxRecDepth 50000 in
theorem hb_98 (L : Nat) (xs : Nat → Int32) : jceq (hB L xs 98) (jlay (s1f (scr L xs)) 98) := by exact jcI _ _ rfl rfl (fun i a b => rfl)
set_option maxRecDepth 50000 in
theorem hb_99 (L : Nat) (xs : Nat → Int32) : jceq (hB L xs 99) (jlay (s1f (scr L xs)) 99) := by exact jcI _ _ rfl rfl (fun i a b => rfl)
set_option maxRecDepth 50000 in
theorem hb_100 (L : Nat) (xs : Nat → Int32) : jceq (hB L xs 100) (jlay (s1f (scr L xs)) 100) := by exact jcI _ _ rfl rfl (fun i a b => rfl)
set_option maxRecDepth 50000 in
theorem hb_101 (L : Nat) (xs : Nat → Int32) : jceq (hB L xs 101) (jlay (s1f (scr L xs)) 101) := by exact jcQ (fun i => if i < ((8 : Nat) : Int) then some (((100 : Nat) : Int) + 2 + i) else none) (fun i => some (102 + i)) rfl rfl (fun i a b => by rw [if_pos b]; congr 1)
set_option maxRecDepth 50000 in
theorem hb_102 (L : Nat) (xs : Nat → Int32) : jceq (hB L xs 102) (jlay (s1f (scr L xs)) 102) := by exact jcI _ _ rfl rfl (fun i a b => rfl)
set_option maxRecDepth 50000 in
theorem hb_103 (L : Nat) (xs : Nat → Int32) : jceq (hB L xs 103) (jlay (s1f (scr L xs)) 103) := by exact jcI _ _ rfl rfl (fun i a b => rfl)
set_option maxRecDepth 50000 in
theorem hb_104 (L : Nat) (xs : Nat → Int32) : jceq (hB L xs 104) (jlay (s1f (scr L xs)) 104) := by exact jcI _ _ rfl rfl (fun i a b => rfl)
set_option maxRecDepth 50000 in
theorem hb_105 (L : Nat) (xs : Nat → Int32) : jceq (hB L xs 105) (jlay (s1f (scr L xs)) 105) := by exact jcI _ _ rfl rfl (fun i a b => rfl)
set_option maxRecDepth 50000 in
theorem hb_106 (L : Nat) (xs : Nat → Int32) : jceq (hB L xs 106) (jlay (s1f (scr L xs)) 106) := by exact jcI _ _ rfl rfl (fun i a b => rfl)
set_option maxRecDepth 50000 in
theorem hb_107 (L : Nat) (xs : Nat → Int32) : jceq (hB L xs 107) (jlay (s1f (scr L xs)) 107) := by exact jcI _ _ rfl rfl (fun i a b => rfl)
set_option maxRecDepth 50000 in
theorem hb_108 (L : Nat) (xs : Nat → Int32) : jceq (hB L xs 108) (jlay (s1f (scr L xs)) 108) := by exact jcI _ _ rfl rfl (fun i a b => rfl)
set_option maxRecDepth 50000 in
theorem hb_109 (L : Nat) (xs : Nat → Int32) : jceq (hB L xs 109) (jlay (s1f (scr L xs)) 109) := by exact jcI _ _ rfl rfl (fun i a b => rfl)
set_option maxRecDepth 50000 in
theorem hb_110 (L : Nat) (xs : Nat → Int32) : jceq (hB L xs 110) (jlay (s1f (scr L xs)) 110) := by exact jcQ (fun i => if i < ((8 : Nat) : Int) then some (((109 : Nat) : Int) + 2 + i) else none) (fun i => some (111 + i)) rfl rfl (fun i a b => by rw [if_pos b]; congr 1)
set_option maxRecDepth 50000 in
theorem hb_111 (L : Nat) (xs : Nat → Int32) : jceq (hB L xs 111) (jlay (s1f (scr L xs)) 111) := by exact jcI _ _ rfl rfl (fun i a b => rfl)
set_option maxRecDepth 50000 in
theorem hb_112 (L : Nat) (xs : Nat → Int32) : jceq (hB L xs 112) (jlay (s1f (scr L xs)) 112) := by exact jcI _ _ rfl rfl (fun i a b => rfl)
set_option maxRecDepth 50000 in
theorem hb_113 (L : Nat) (xs : Nat → Int32) : jceq (hB L xs 113) (jlay (s1f (scr L xs)) 113) := by exact jcI _ _ rfl rfl (fun i a b => rfl)
set_option maxRecDepth 50000 in
theorem hb_114 (L : Nat) (xs : Nat → Int32) : jceq (hB L xs 114) (jlay (s1f (scr L xs)) 114) := by exact jcI _ _ rfl rfl (fun i a b => rfl)
set_option maxRecDepth 50000 in
theorem hb_115 (L : Nat) (xs : Nat → Int32) : jceq (hB L xs 115) (jlay (s1f (scr L xs)) 115) := by exact jcI _ _ rfl rfl (fun i a b => rfl)
set_option maxRecDepth 50000 in
theorem hb_116 (L : Nat) (xs : Nat → Int32) : jceq (hB L xs 116) (jlay (s1f (scr L xs)) 116) := by exact jcI _ _ rfl rfl (fun i a b => rfl)
set_option maxRecDepth 50000 in
theorem hb_117 (L : Nat) (xs : Nat → Int32) : jceq (hB L xs 117) (jlay (s1f (scr L xs)) 117) := by exact jcI _ _ rfl rfl (fun i a b => rfl)
set_option maxRecDepth 50000 in
theorem hb_118 (L : Nat) (xs : Nat → Int32) : jceq (hB L xs 118) (jlay (s1f (scr L xs)) 118) := by exact jcI _ _ rfl rfl (fun i a b => rfl)
set_option maxRecDepth 50000 in
theorem hb_119 (L : Nat) (xs : Nat → Int32) : jceq (hB L xs 119) (jlay (s1f (scr L xs)) 119) := by exact jcI _ _ rfl rfl (fun i a b => rfl)
set_option maxRecDepth 50000 in
theorem hb_120 (L : Nat) (xs : Nat → Int32) : jceq (hB L xs 120) (jlay (s1f (scr L xs)) 120) := by exact jceq_e rfl
set_option maxRecDepth 50000 in
theorem hb_121 (L : Nat) (xs : Nat → Int32) : jceq (hB L xs 121) (jlay (s1f (scr L xs)) 121) := by exact jcI _ _ rfl rfl (fun i a b => rfl)
set_option maxRecDepth 50000 in
theorem hb_122 (L : Nat) (xs : Nat → Int32) : jceq (hB L xs 122) (jlay (s1f (scr L xs)) 122) := by exact jcI _ _ rfl rfl (fun i a b => rfl)
set_option maxRecDepth 50000 in
theorem hb_123 (L : Nat) (xs : Nat → Int32) : jceq (hB L xs 123) (jlay (s1f (scr L xs)) 123) := by exact jcI _ _ rfl rfl (fun i a b => rfl)
set_option maxRecDepth 50000 in
theorem hb_124 (L : Nat) (xs : Nat → Int32) : jceq (hB L xs 124) (jlay (s1f (scr L xs)) 124) := by exact jceq_e rfl
set_option maxRecDepth 50000 in
theorem hb_125 (L : Nat) (xs : Nat → Int32) : jceq (hB L xs 125) (jlay (s1f (scr L xs)) 125) := by exact jcI _ _ rfl rfl (fun i a b => rfl)
set_option maxRecDepth 50000 in
theorem hb_126 (L : Nat) (xs : Nat → Int32) : jceq (hB L xs 126) (jlay (s1f (scr L xs)) 126) := by exact jcQ (fun i => if i < ((6 : Nat) : Int) then some (((125 : Nat) : Int) + 2 + i) else none) (fun i => some (127 + i)) rfl rfl (fun i a b => by rw [if_pos b]; congr 1)
set_option maxRecDepth 50000 in
theorem hb_127 (L : Nat) (xs : Nat → Int32) : jceq (hB L xs 127) (jlay (s1f (scr L xs)) 127) := by exact jcI _ _ rfl rfl (fun i a b => rfl)
set_option maxRecDepth 50000 in
theorem hb_128 (L : Nat) (xs : Nat → Int32) : jceq (hB L xs 128) (jlay (s1f (scr L xs)) 128) := by exact jcI _ _ rfl rfl (fun i a b => rfl)
set_option maxRecDepth 50000 in
theorem hb_129 (L : Nat) (xs : Nat → Int32) : jceq (hB L xs 129) (jlay (s1f (scr L xs)) 129) := by exact jcI _ _ rfl rfl (fun i a b => rfl)
set_option maxRecDepth 50000 in
theorem hb_130 (L : Nat) (xs : Nat → Int32) : jceq (hB L xs 130) (jlay (s1f (scr L xs)) 130) := by exact jcI _ _ rfl rfl (fun i a b => rfl)
set_option maxRecDepth 50000 in
theorem hb_131 (L : Nat) (xs : Nat → Int32) : jceq (hB L xs 131) (jlay (s1f (scr L xs)) 131) := by exact jcI _ _ rfl rfl (fun i a b => rfl)
set_option maxRecDepth 50000 in
theorem hb_132 (L : Nat) (xs : Nat → Int32) : jceq (hB L xs 132) (jlay (s1f (scr L xs)) 132) := by exact jcI _ _ rfl rfl (fun i a b => rfl)
set_option maxRecDepth 50000 in
theorem hb_133 (L : Nat) (xs : Nat → Int32) : jceq (hB L xs 133) (jlay (s1f (scr L xs)) 133) := by exact jcQ (fun i => if i < ((4 : Nat) : Int) then some (((132 : Nat) : Int) + 2 + i) else none) (fun i => some (134 + i)) rfl rfl (fun i a b => by rw [if_pos b]; congr 1)
set_option maxRecDepth 50000 in
theorem hb_134 (L : Nat) (xs : Nat → Int32) : jceq (hB L xs 134) (jlay (s1f (scr L xs)) 134) := by exact jcL _ _ rfl rfl (fun i a b => rfl)
set_option maxRecDepth 50000 in
theorem hb_135 (L : Nat) (xs : Nat → Int32) : jceq (hB L xs 135) (jlay (s1f (scr L xs)) 135) := by exact jcL _ _ rfl rfl (fun i a b => rfl)
set_option maxRecDepth 50000 in
theorem hb_136 (L : Nat) (xs : Nat → Int32) : jceq (hB L xs 136) (jlay (s1f (scr L xs)) 136) := by exact jcL _ _ rfl rfl (fun i a b => rfl)
set_option maxRecDepth 50000 in
theorem hb_137 (L : Nat) (xs : Nat → Int32) : jceq (hB L xs 137) (jlay (s1f (scr L xs)) 137) := by exact jcL _ _ rfl rfl (fun i a b => rfl)
set_option maxRecDepth 50000 in
theorem hb_138 (L : Nat) (xs : Nat → Int32) : jceq (hB L xs 138) (jlay (s1f (scr L xs)) 138) := by exact jceq_e rfl
set_option maxRecDepth 50000 in
theorem hb_139 (L : Nat) (xs : Nat → Int32) : jceq (hB L xs 139) (jlay (s1f (scr L xs)) 139) := by exact jceq_e rfl
set_option maxRecDepth 50000 in
theorem hb_140 (L : Nat) (xs : Nat → Int32) : jceq (hB L xs 140) (jlay (s1f (scr L xs)) 140) := by exact jcI _ _ rfl rfl (fun i a b => rfl)
set_option maxRecDepth 50000 in
theorem hb_141 (L : Nat) (xs : Nat → Int32) : jceq (hB L xs 141) (jlay (s1f (scr L xs)) 141) := by exact jceq_e rfl
set_option maxRecDepth 50000 in
theorem hb_142 (L : Nat) (xs : Nat → Int32) : jceq (hB L xs 142) (jlay (s1f (scr L xs)) 142) := by exact jcI _ _ rfl rfl (fun i a b => by show (if i = 0 then (1 : Int) else 0) = s1f _ 142 i; by_cases h : i = 0 <;> simp [s1f, h])
set_option maxRecDepth 50000 in
theorem hb_143 (L : Nat) (xs : Nat → Int32) : jceq (hB L xs 143) (jlay (s1f (scr L xs)) 143) := by exact jceq_e rfl
set_option maxRecDepth 50000 in
theorem hb_144 (L : Nat) (xs : Nat → Int32) : jceq (hB L xs 144) (jlay (s1f (scr L xs)) 144) := by exact jcI _ _ rfl rfl (fun i a b => rfl)
set_option maxRecDepth 50000 in
theorem hb_145 (L : Nat) (xs : Nat → Int32) : jceq (hB L xs 145) (jlay (s1f (scr L xs)) 145) := by exact jcI _ _ rfl rfl (fun i a b => rfl)
set_option maxRecDepth 50000 in
theorem hb_146 (L : Nat) (xs : Nat → Int32) : jceq (hB L xs 146) (jlay (s1f (scr L xs)) 146) := by exact jcI _ _ rfl rfl (fun i a b => rfl)
set_option maxRecDepth 50000 in
theorem hb_147 (L : Nat) (xs : Nat → Int32) : jceq (hB L xs 147) (jlay (s1f (scr L xs)) 147) := by exact jcI _ _ rfl rfl (fun i a b => rfl)
set_option maxRecDepth 50000 in
theorem hb_148 (L : Nat) (xs : Nat → Int32) : jceq (hB L xs 148) (jlay (s1f (scr L xs)) 148) := by exact jcI _ _ rfl rfl (fun i a b => rfl)
set_option maxRecDepth 50000 in
theorem hb_149 (L : Nat) (xs : Nat → Int32) : jceq (hB L xs 149) (jlay (s1f (scr L xs)) 149) := by exact jcI _ _ rfl rfl (fun i a b => rfl)
set_option maxRecDepth 50000 in
theorem hb_150 (L : Nat) (xs : Nat → Int32) : jceq (hB L xs 150) (jlay (s1f (scr L xs)) 150) := by exact jcI _ _ rfl rfl (fun i a b => rfl)
set_option maxRecDepth 50000 in
theorem hb_151 (L : Nat) (xs : Nat → Int32) : jceq (hB L xs 151) (jlay (s1f (scr L xs)) 151) := by exact jcI _ _ rfl rfl (fun i a b => rfl)
set_option maxRecDepth 50000 in
theorem hb_152 (L : Nat) (xs : Nat → Int32) : jceq (hB L xs 152) (jlay (s1f (scr L xs)) 152) := by exact jcI _ _ rfl rfl (fun i a b => rfl)
set_option maxRecDepth 50000 in
theorem hb_153 (L : Nat) (xs : Nat → Int32) : jceq (hB L xs 153) (jlay (s1f (scr L xs)) 153) := by exact jcI _ _ rfl rfl (fun i a b => rfl)
set_option maxRecDepth 50000 in
theorem hb_154 (L : Nat) (xs : Nat → Int32) : jceq (hB L xs 154) (jlay (s1f (scr L xs)) 154) := by exact jcI _ _ rfl rfl (fun i a b => rfl)
set_option maxRecDepth 50000 in
theorem hb_155 (L : Nat) (xs : Nat → Int32) : jceq (hB L xs 155) (jlay (s1f (scr L xs)) 155) := by exact jcI _ _ rfl rfl (fun i a b => rfl)
set_option maxRecDepth 50000 in
theorem hb_156 (L : Nat) (xs : Nat → Int32) : jceq (hB L xs 156) (jlay (s1f (scr L xs)) 156) := by exact jcI _ _ rfl rfl (fun i a b => rfl)
set_option maxRecDepth 50000 in
theorem hb_157 (L : Nat) (xs : Nat → Int32) : jceq (hB L xs 157) (jlay (s1f (scr L xs)) 157) := by exact jcI _ _ rfl rfl (fun i a b => by rcases (show i = 0 ∨ i = 1 ∨ i = 2 ∨ i = 3 by omega) with rfl | rfl | rfl | rfl <;> rfl)
set_option maxRecDepth 50000 in
theorem hb_158 (L : Nat) (xs : Nat → Int32) : jceq (hB L xs 158) (jlay (s1f (scr L xs)) 158) := by exact jcI _ _ rfl rfl (fun i a b => rfl)
set_option maxRecDepth 50000 in
theorem hb_159 (L : Nat) (xs : Nat → Int32) : jceq (hB L xs 159) (jlay (s1f (scr L xs)) 159) := by exact jcI _ _ rfl rfl (fun i a b => rfl)
set_option maxRecDepth 50000 in
theorem hb_160 (L : Nat) (xs : Nat → Int32) : jceq (hB L xs 160) (jlay (s1f (scr L xs)) 160) := by exact jcI _ _ rfl rfl (fun i a b => rfl)
set_option maxRecDepth 50000 in
theorem hb_161 (L : Nat) (xs : Nat → Int32) : jceq (hB L xs 161) (jlay (s1f (scr L xs)) 161) := by exact jcI _ _ rfl rfl (fun i a b => rfl)
set_option maxRecDepth 50000 in
theorem hb_162 (L : Nat) (xs : Nat → Int32) : jceq (hB L xs 162) (jlay (s1f (scr L xs)) 162) := by exact jcI _ _ rfl rfl (fun i a b => rfl)
set_option maxRecDepth 50000 in
theorem hb_163 (L : Nat) (xs : Nat → Int32) : jceq (hB L xs 163) (jlay (s1f (scr L xs)) 163) := by exact jcI _ _ rfl rfl (fun i a b => rfl)
set_option maxRecDepth 50000 in
theorem hb_164 (L : Nat) (xs : Nat → Int32) : jceq (hB L xs 164) (jlay (s1f (scr L xs)) 164) := by exact jcI _ _ rfl rfl (fun i a b => rfl)
set_option maxRecDepth 50000 in
theorem hb_165 (L : Nat) (xs : Nat → Int32) : jceq (hB L xs 165) (jlay (s1f (scr L xs)) 165) := by exact jcI _ _ rfl rfl (fun i a b => rfl)
set_option maxRecDepth 50000 in
theorem hb_166 (L : Nat) (xs : Nat → Int32) : jceq (hB L xs 166) (jlay (s1f (scr L xs)) 166) := by exact jcI _ _ rfl rfl (fun i a b => rfl)
set_option maxRecDepth 50000 in
theorem hb_167 (L : Nat) (xs : Nat → Int32) : jceq (hB L xs 167) (jlay (s1f (scr L xs)) 167) := by exact jcI _ _ rfl rfl (fun i a b => rfl)
set_option maxRecDepth 50000 in
theorem hb_168 (L : Nat) (xs : Nat → Int32) : jceq (hB L xs 168) (jlay (s1f (scr L xs)) 168) := by exact jcI _ _ rfl rfl (fun i a b => rfl)
set_option maxRecDepth 50000 in
theorem hb_0 (L : Nat) (xs : Nat → Int32) : jlay (s1f (scr L xs)) 0 = hB L xs 0 := rfl
theorem hb_all (L : Nat) (xs : Nat → Int32) (k : Nat) (hk0 : 0 < k) (hk : k ≤ 168) : jceq (hB L xs k) (jlay (s1f (scr L xs)) k) := by
  have H : ∀ z, 0 < z → (z = 168 ∨ z < 168) → jceq (hB L xs (z : Nat)) (jlay (s1f (scr L xs)) (z : Nat)) := fun z h0 hz => by
    rcases hz with rfl | hz
    · exact hb_168 L xs
    rcases (show z = 167 ∨ z < 167 by omega) with rfl | hz
    · exact hb_167 L xs
    rcases (show z = 166 ∨ z < 166 by omega) with rfl | hz
    · exact hb_166 L xs
    rcases (show z = 165 ∨ z < 165 by omega) with rfl | hz
    · exact hb_165 L xs
    rcases (show z = 164 ∨ z < 164 by omega) with rfl | hz
    · exact hb_164 L xs
    rcases (show z = 163 ∨ z < 163 by omega) with rfl | hz
    · exact hb_163 L xs
    rcases (show z = 162 ∨ z < 162 by omega) with rfl | hz
    · exact hb_162 L xs
    rcases (show z = 161 ∨ z < 161 by omega) with rfl | hz
    · exact hb_161 L xs
    rcases (show z = 160 ∨ z < 160 by omega) with rfl | hz
    · exact hb_160 L xs
    rcases (show z = 159 ∨ z < 159 by omega) with rfl | hz
    · exact hb_159 L xs
    rcases (show z = 158 ∨ z < 158 by omega) with rfl | hz
    · exact hb_158 L xs
    rcases (show z = 157 ∨ z < 157 by omega) with rfl | hz
    · exact hb_157 L xs
    rcases (show z = 156 ∨ z < 156 by omega) with rfl | hz
    · exact hb_156 L xs
    rcases (show z = 155 ∨ z < 155 by omega) with rfl | hz
    · exact hb_155 L xs
    rcases (show z = 154 ∨ z < 154 by omega) with rfl | hz
    · exact hb_154 L xs
    rcases (show z = 153 ∨ z < 153 by omega) with rfl | hz
    · exact hb_153 L xs
    rcases (show z = 152 ∨ z < 152 by omega) with rfl | hz
    · exact hb_152 L xs
    rcases (show z = 151 ∨ z < 151 by omega) with rfl | hz
    · exact hb_151 L xs
    rcases (show z = 150 ∨ z < 150 by omega) with rfl | hz
    · exact hb_150 L xs
    rcases (show z = 149 ∨ z < 149 by omega) with rfl | hz
    · exact hb_149 L xs
    rcases (show z = 148 ∨ z < 148 by omega) with rfl | hz
    · exact hb_148 L xs
    rcases (show z = 147 ∨ z < 147 by omega) with rfl | hz
    · exact hb_147 L xs
    rcases (show z = 146 ∨ z < 146 by omega) with rfl | hz
    · exact hb_146 L xs
    rcases (show z = 145 ∨ z < 145 by omega) with rfl | hz
    · exact hb_145 L xs
    rcases (show z = 144 ∨ z < 144 by omega) with rfl | hz
    · exact hb_144 L xs
    rcases (show z = 143 ∨ z < 143 by omega) with rfl | hz
    · exact hb_143 L xs
    rcases (show z = 142 ∨ z < 142 by omega) with rfl | hz
    · exact hb_142 L xs
    rcases (show z = 141 ∨ z < 141 by omega) with rfl | hz
    · exact hb_141 L xs
    rcases (show z = 140 ∨ z < 140 by omega) with rfl | hz
    · exact hb_140 L xs
    rcases (show z = 139 ∨ z < 139 by omega) with rfl | hz
    · exact hb_139 L xs
    rcases (show z = 138 ∨ z < 138 by omega) with rfl | hz
    · exact hb_138 L xs
    rcases (show z = 137 ∨ z < 137 by omega) with rfl | hz
    · exact hb_137 L xs
    rcases (show z = 136 ∨ z < 136 by omega) with rfl | hz
    · exact hb_136 L xs
    rcases (show z = 135 ∨ z < 135 by omega) with rfl | hz
    · exact hb_135 L xs
    rcases (show z = 134 ∨ z < 134 by omega) with rfl | hz
    · exact hb_134 L xs
    rcases (show z = 133 ∨ z < 133 by omega) with rfl | hz
    · exact hb_133 L xs
    rcases (show z = 132 ∨ z < 132 by omega) with rfl | hz
    · exact hb_132 L xs
    rcases (show z = 131 ∨ z < 131 by omega) with rfl | hz
    · exact hb_131 L xs
    rcases (show z = 130 ∨ z < 130 by omega) with rfl | hz
    · exact hb_130 L xs
    rcases (show z = 129 ∨ z < 129 by omega) with rfl | hz
    · exact hb_129 L xs
    rcases (show z = 128 ∨ z < 128 by omega) with rfl | hz
    · exact hb_128 L xs
    rcases (show z = 127 ∨ z < 127 by omega) with rfl | hz
    · exact hb_127 L xs
    rcases (show z = 126 ∨ z < 126 by omega) with rfl | hz
    · exact hb_126 L xs
    rcases (show z = 125 ∨ z < 125 by omega) with rfl | hz
    · exact hb_125 L xs
    rcases (show z = 124 ∨ z < 124 by omega) with rfl | hz
    · exact hb_124 L xs
    rcases (show z = 123 ∨ z < 123 by omega) with rfl | hz
    · exact hb_123 L xs
    rcases (show z = 122 ∨ z < 122 by omega) with rfl | hz
    · exact hb_122 L xs
    rcases (show z = 121 ∨ z < 121 by omega) with rfl | hz
    · exact hb_121 L xs
    rcases (show z = 120 ∨ z < 120 by omega) with rfl | hz
    · exact hb_120 L xs
    rcases (show z = 119 ∨ z < 119 by omega) with rfl | hz
    · exact hb_119 L xs
    rcases (show z = 118 ∨ z < 118 by omega) with rfl | hz
    · exact hb_118 L xs
    rcases (show z = 117 ∨ z < 117 by omega) with rfl | hz
    · exact hb_117 L xs
    rcases (show z = 116 ∨ z < 116 by omega) with rfl | hz
    · exact hb_116 L xs
    rcases (show z = 115 ∨ z < 115 by omega) with rfl | hz
    · exact hb_115 L xs
    rcases (show z = 114 ∨ z < 114 by omega) with rfl | hz
    · exact hb_114 L xs
    rcases (show z = 113 ∨ z < 113 by omega) with rfl | hz
    · exact hb_113 L xs
    rcases (show z = 112 ∨ z < 112 by omega) with rfl | hz
    · exact hb_112 L xs
    rcases (show z = 111 ∨ z < 111 by omega) with rfl | hz
    · exact hb_111 L xs
    rcases (show z = 110 ∨ z < 110 by omega) with rfl | hz
    · exact hb_110 L xs
    rcases (show z = 109 ∨ z < 109 by omega) with rfl | hz
    · exact hb_109 L xs
    rcases (show z = 108 ∨ z < 108 by omega) with rfl | hz
    · exact hb_108 L xs
    rcases (show z = 107 ∨ z < 107 by omega) with rfl | hz
    · exact hb_107 L xs
    rcases (show z = 106 ∨ z < 106 by omega) with rfl | hz
    · exact hb_106 L xs
    rcases (show z = 105 ∨ z < 105 by omega) with rfl | hz
    · exact hb_105 L xs
    rcases (show z = 104 ∨ z < 104 by omega) with rfl | hz
    · exact hb_104 L xs
    rcases (show z = 103 ∨ z < 103 by omega) with rfl | hz
    · exact hb_103 L xs
    rcases (show z = 102 ∨ z < 102 by omega) with rfl | hz
    · exact hb_102 L xs
    rcases (show z = 101 ∨ z < 101 by omega) with rfl | hz
    · exact hb_101 L xs
    rcases (show z = 100 ∨ z < 100 by omega) with rfl | hz
    · exact hb_100 L xs
    rcases (show z = 99 ∨ z < 99 by omega) with rfl | hz
    · exact hb_99 L xs
    rcases (show z = 98 ∨ z < 98 by omega) with rfl | hz
    · exact hb_98 L xs
    rcases (show z = 97 ∨ z < 97 by omega) with rfl | hz
    · exact hb_97 L xs
    rcases (show z = 96 ∨ z < 96 by omega) with rfl | hz
    · exact hb_96 L xs
    rcases (show z = 95 ∨ z < 95 by omega) with rfl | hz
    · exact hb_95 L xs
    rcases (show z = 94 ∨ z < 94 by omega) with rfl | hz
    · exact hb_94 L xs
    rcases (show z = 93 ∨ z < 93 by omega) with rfl | hz
    · exact hb_93 L xs
    rcases (show z = 92 ∨ z < 92 by omega) with rfl | hz
    · exact hb_92 L xs
    rcases (show z = 91 ∨ z < 91 by omega) with rfl | hz
    · exact hb_91 L xs
    rcases (show z = 90 ∨ z < 90 by omega) with rfl | hz
    · exact hb_90 L xs
    rcases (show z = 89 ∨ z < 89 by omega) with rfl | hz
    · exact hb_89 L xs
    rcases (show z = 88 ∨ z < 88 by omega) with rfl | hz
    · exact hb_88 L xs
    rcases (show z = 87 ∨ z < 87 by omega) with rfl | hz
    · exact hb_87 L xs
    rcases (show z = 86 ∨ z < 86 by omega) with rfl | hz
    · exact hb_86 L xs
    rcases (show z = 85 ∨ z < 85 by omega) with rfl | hz
    · exact hb_85 L xs
    rcases (show z = 84 ∨ z < 84 by omega) with rfl | hz
    · exact hb_84 L xs
    rcases (show z = 83 ∨ z < 83 by omega) with rfl | hz
    · exact hb_83 L xs
    rcases (show z = 82 ∨ z < 82 by omega) with rfl | hz
    · exact hb_82 L xs
    rcases (show z = 81 ∨ z < 81 by omega) with rfl | hz
    · exact hb_81 L xs
    rcases (show z = 80 ∨ z < 80 by omega) with rfl | hz
    · exact hb_80 L xs
    rcases (show z = 79 ∨ z < 79 by omega) with rfl | hz
    · exact hb_79 L xs
    rcases (show z = 78 ∨ z < 78 by omega) with rfl | hz
    · exact hb_78 L xs
    rcases (show z = 77 ∨ z < 77 by omega) with rfl | hz
    · exact hb_77 L xs
    rcases (show z = 76 ∨ z < 76 by omega) with rfl | hz
    · exact hb_76 L xs
    rcases (show z = 75 ∨ z < 75 by omega) with rfl | hz
    · exact hb_75 L xs
    rcases (show z = 74 ∨ z < 74 by omega) with rfl | hz
    · exact hb_74 L xs
    rcases (show z = 73 ∨ z < 73 by omega) with rfl | hz
    · exact hb_73 L xs
    rcases (show z = 72 ∨ z < 72 by omega) with rfl | hz
    · exact hb_72 L xs
    rcases (show z = 71 ∨ z < 71 by omega) with rfl | hz
    · exact hb_71 L xs
    rcases (show z = 70 ∨ z < 70 by omega) with rfl | hz
    · exact hb_70 L xs
    rcases (show z = 69 ∨ z < 69 by omega) with rfl | hz
    · exact hb_69 L xs
    rcases (show z = 68 ∨ z < 68 by omega) with rfl | hz
    · exact hb_68 L xs
    rcases (show z = 67 ∨ z < 67 by omega) with rfl | hz
    · exact hb_67 L xs
    rcases (show z = 66 ∨ z < 66 by omega) with rfl | hz
    · exact hb_66 L xs
    rcases (show z = 65 ∨ z < 65 by omega) with rfl | hz
    · exact hb_65 L xs
    rcases (show z = 64 ∨ z < 64 by omega) with rfl | hz
    · exact hb_64 L xs
    rcases (show z = 63 ∨ z < 63 by omega) with rfl | hz
    · exact hb_63 L xs
    rcases (show z = 62 ∨ z < 62 by omega) with rfl | hz
    · exact hb_62 L xs
    rcases (show z = 61 ∨ z < 61 by omega) with rfl | hz
    · exact hb_61 L xs
    rcases (show z = 60 ∨ z < 60 by omega) with rfl | hz
    · exact hb_60 L xs
    rcases (show z = 59 ∨ z < 59 by omega) with rfl | hz
    · exact hb_59 L xs
    rcases (show z = 58 ∨ z < 58 by omega) with rfl | hz
    · exact hb_58 L xs
    rcases (show z = 57 ∨ z < 57 by omega) with rfl | hz
    · exact hb_57 L xs
    rcases (show z = 56 ∨ z < 56 by omega) with rfl | hz
    · exact hb_56 L xs
    rcases (show z = 55 ∨ z < 55 by omega) with rfl | hz
    · exact hb_55 L xs
    rcases (show z = 54 ∨ z < 54 by omega) with rfl | hz
    · exact hb_54 L xs
    rcases (show z = 53 ∨ z < 53 by omega) with rfl | hz
    · exact hb_53 L xs
    rcases (show z = 52 ∨ z < 52 by omega) with rfl | hz
    · exact hb_52 L xs
    rcases (show z = 51 ∨ z < 51 by omega) with rfl | hz
    · exact hb_51 L xs
    rcases (show z = 50 ∨ z < 50 by omega) with rfl | hz
    · exact hb_50 L xs
    rcases (show z = 49 ∨ z < 49 by omega) with rfl | hz
    · exact hb_49 L xs
    rcases (show z = 48 ∨ z < 48 by omega) with rfl | hz
    · exact hb_48 L xs
    rcases (show z = 47 ∨ z < 47 by omega) with rfl | hz
    · exact hb_47 L xs
    rcases (show z = 46 ∨ z < 46 by omega) with rfl | hz
    · exact hb_46 L xs
    rcases (show z = 45 ∨ z < 45 by omega) with rfl | hz
    · exact hb_45 L xs
    rcases (show z = 44 ∨ z < 44 by omega) with rfl | hz
    · exact hb_44 L xs
    rcases (show z = 43 ∨ z < 43 by omega) with rfl | hz
    · exact hb_43 L xs
    rcases (show z = 42 ∨ z < 42 by omega) with rfl | hz
    · exact hb_42 L xs
    rcases (show z = 41 ∨ z < 41 by omega) with rfl | hz
    · exact hb_41 L xs
    rcases (show z = 40 ∨ z < 40 by omega) with rfl | hz
    · exact hb_40 L xs
    rcases (show z = 39 ∨ z < 39 by omega) with rfl | hz
    · exact hb_39 L xs
    rcases (show z = 38 ∨ z < 38 by omega) with rfl | hz
    · exact hb_38 L xs
    rcases (show z = 37 ∨ z < 37 by omega) with rfl | hz
    · exact hb_37 L xs
    rcases (show z = 36 ∨ z < 36 by omega) with rfl | hz
    · exact hb_36 L xs
    rcases (show z = 35 ∨ z < 35 by omega) with rfl | hz
    · exact hb_35 L xs
    rcases (show z = 34 ∨ z < 34 by omega) with rfl | hz
    · exact hb_34 L xs
    rcases (show z = 33 ∨ z < 33 by omega) with rfl | hz
    · exact hb_33 L xs
    rcases (show z = 32 ∨ z < 32 by omega) with rfl | hz
    · exact hb_32 L xs
    rcases (show z = 31 ∨ z < 31 by omega) with rfl | hz
    · exact hb_31 L xs
    rcases (show z = 30 ∨ z < 30 by omega) with rfl | hz
    · exact hb_30 L xs
    rcases (show z = 29 ∨ z < 29 by omega) with rfl | hz
    · exact hb_29 L xs
    rcases (show z = 28 ∨ z < 28 by omega) with rfl | hz
    · exact hb_28 L xs
    rcases (show z = 27 ∨ z < 27 by omega) with rfl | hz
    · exact hb_27 L xs
    rcases (show z = 26 ∨ z < 26 by omega) with rfl | hz
    · exact hb_26 L xs
    rcases (show z = 25 ∨ z < 25 by omega) with rfl | hz
    · exact hb_25 L xs
    rcases (show z = 24 ∨ z < 24 by omega) with rfl | hz
    · exact hb_24 L xs
    rcases (show z = 23 ∨ z < 23 by omega) with rfl | hz
    · exact hb_23 L xs
    rcases (show z = 22 ∨ z < 22 by omega) with rfl | hz
    · exact hb_22 L xs
    rcases (show z = 21 ∨ z < 21 by omega) with rfl | hz
    · exact hb_21 L xs
    rcases (show z = 20 ∨ z < 20 by omega) with rfl | hz
    · exact hb_20 L xs
    rcases (show z = 19 ∨ z < 19 by omega) with rfl | hz
    · exact hb_19 L xs
    rcases (show z = 18 ∨ z < 18 by omega) with rfl | hz
    · exact hb_18 L xs
    rcases (show z = 17 ∨ z < 17 by omega) with rfl | hz
    · exact hb_17 L xs
    rcases (show z = 16 ∨ z < 16 by omega) with rfl | hz
    · exact hb_16 L xs
    rcases (show z = 15 ∨ z < 15 by omega) with rfl | hz
    · exact hb_15 L xs
    rcases (show z = 14 ∨ z < 14 by omega) with rfl | hz
    · exact hb_14 L xs
    rcases (show z = 13 ∨ z < 13 by omega) with rfl | hz
    · exact hb_13 L xs
    rcases (show z = 12 ∨ z < 12 by omega) with rfl | hz
    · exact hb_12 L xs
    rcases (show z = 11 ∨ z < 11 by omega) with rfl | hz
    · exact hb_11 L xs
    rcases (show z = 10 ∨ z < 10 by omega) with rfl | hz
    · exact hb_10 L xs
    rcases (show z = 9 ∨ z < 9 by omega) with rfl | hz
    · exact hb_9 L xs
    rcases (show z = 8 ∨ z < 8 by omega) with rfl | hz
    · exact hb_8 L xs
    rcases (show z = 7 ∨ z < 7 by omega) with rfl | hz
    · exact hb_7 L xs
    rcases (show z = 6 ∨ z < 6 by omega) with rfl | hz
    · exact hb_6 L xs
    rcases (show z = 5 ∨ z < 5 by omega) with rfl | hz
    · exact hb_5 L xs
    rcases (show z = 4 ∨ z < 4 by omega) with rfl | hz
    · exact hb_4 L xs
    rcases (show z = 3 ∨ z < 3 by omega) with rfl | hz
    · exact hb_3 L xs
    rcases (show z = 2 ∨ z < 2 by omega) with rfl | hz
    · exact hb_2 L xs
    rcases (show z = 1 ∨ z < 1 by omega) with rfl | hz
    · exact hb_1 L xs
    omega
  exact H k hk0 (by omega)
