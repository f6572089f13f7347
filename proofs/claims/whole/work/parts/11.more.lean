/-! locals forgotten; the objects of big numbers; a few more rules -/
def jdr : List jV → List jV → Prop
  | [], [] => True
  | a :: t, b :: u => (a = jU ∨ a = b) ∧ jdr t u
  | _, _ => False
theorem jdr_get : ∀ {l1 l2 : List jV} {i : Nat} {v : jV}, jdr l1 l2 → l1[i]? = some v → v ≠ jU → l2[i]? = some v
  | [], [], _, _, _, h, _ => by simp at h
  | a :: t, b :: u, 0, v, h, h1, h2 => by
    simp only [List.getElem?_cons_zero, Option.some.injEq] at h1 ⊢
    subst h1
    rcases h.1 with z | z
    · exact absurd z h2
    · exact z.symm
  | a :: t, b :: u, i + 1, v, h, h1, h2 => by
    rw [List.getElem?_cons_succ] at h1 ⊢
    exact jdr_get h.2 h1 h2
  | [], _ :: _, _, _, h, _, _ => h.elim
  | _ :: _, [], _, _, h, _, _ => h.elim
theorem j_drop {me : jM} {pc : Nat} {ls st : List jV} {n : Nat} {h : Int → jE} {nc ns : Nat} {Q : Option jV → Nat → (Int → jE) → Prop} (ls' : List jV) (hd : jdr ls' ls) (k : jJ me pc ls' st n h nc ns Q) : jJ me pc ls st n h nc ns Q := by
  intro p l e s m args below meth c base b D cA SC H locs lsS Z C G hW hS hl hZ
  refine k p l e s m args below meth c base b D cA SC H locs lsS Z C G hW hS ⟨hl.1, hl.2.1, fun q hq => ?_⟩ hZ
  obtain ⟨i, v, rfl, h1, h2⟩ := jl_of _ _ _ hq
  have := jl_mem (base := base) (b := b) ls 0 i v (jdr_get hd h1 h2) h2
  exact hl.2.2 _ this
theorem k_drop {me : jM} {pc : Nat} {ls st : List jV} {s : Int → Int → Int} {Q : Option jV → (Int → Int → Int) → Prop} (ls' : List jV) (hd : jdr ls' ls) (k : kK me pc ls' st s Q) : kK me pc ls st s Q := j_drop ls' hd k
abbrev jBig (k : Int) : Prop := jsh k = hO 0 [some (jR (k + 1)), none] ∧ jsh (k + 1) = hI 16 ∧ (0 < k ∧ k + 1 ≤ 168)
theorem jbr0 {k : Int} (h : jBig k) : 0 < k ∧ k ≤ 168 := ⟨by have := h.2.2; omega, by have := h.2.2; omega⟩
theorem jbr {k : Int} (h : jBig k) : 0 < k ∧ k ≤ 168 := ⟨by have := h.2.2; omega, by have := h.2.2; omega⟩
theorem jbr1 {k : Int} (h : jBig k) : 0 < k + 1 ∧ k + 1 ≤ 168 := ⟨by have := h.2.2; omega, by have := h.2.2; omega⟩
theorem jbr2 {k : Int} (h : jBig k) : 0 < k + 1 ∧ k + 1 ≤ 168 := ⟨by have := h.2.2; omega, by have := h.2.2; omega⟩
theorem bg_73 : jBig 73 := ⟨sh_73, sh_74, by decide⟩
theorem bg_75 : jBig 75 := ⟨sh_75, sh_76, by decide⟩
theorem bg_77 : jBig 77 := ⟨sh_77, sh_78, by decide⟩
theorem bg_79 : jBig 79 := ⟨sh_79, sh_80, by decide⟩
theorem bg_81 : jBig 81 := ⟨sh_81, sh_82, by decide⟩
theorem bg_139 : jBig 139 := ⟨sh_139, sh_140, by decide⟩
theorem bg_141 : jBig 141 := ⟨sh_141, sh_142, by decide⟩
theorem sb_72 (i : Int) (h : 0 ≤ i ∧ i < 4) : jBig (75 + 2 * i) := by
  rcases (show i = 0 ∨ i = 1 ∨ i = 2 ∨ i = 3 by omega) with rfl | rfl | rfl | rfl
  · exact bg_75
  · exact bg_77
  · exact bg_79
  · exact bg_81
section K11
variable {me : jM} {pc : Nat} {ls st : List jV} {s : Int → Int → Int} {Q : Option jV → (Int → Int → Int) → Prop}
theorem jushr32 {x y : Int} (hx : 0 ≤ x ∧ x ≤ 2147483647) (hy : 0 ≤ y ∧ y ≤ 31) : ((Int32.ofInt x).toUInt32 >>> ((Int32.ofInt y).toUInt32 &&& Int32.toUInt32 31)).toInt32 = Int32.ofInt (x / 2 ^ y.toNat) := by
  obtain ⟨k, rfl⟩ : ∃ k : Nat, y = (k : Int) := ⟨y.toNat, by omega⟩
  obtain ⟨a, rfl⟩ : ∃ a : Nat, x = (a : Int) := ⟨x.toNat, by omega⟩
  have hk : k < 32 := by omega
  have e : (((Int32.ofInt (k : Int)).toUInt32 &&& Int32.toUInt32 31).toBitVec % 32).toNat = k := by
    have : ∀ k, k < 32 → (((Int32.ofInt ((k : Nat) : Int)).toUInt32 &&& Int32.toUInt32 31).toBitVec % 32).toNat = k := by decide +kernel
    exact this k hk
  have := pk_ushrN (n := a) (by omega) (Int32.ofInt (k : Int)) k e
  rw [Int32.ofInt_eq_ofNat (n := a)]
  refine this.trans ?_
  show Int32.ofNat _ = _
  rw [← Int32.ofInt_eq_ofNat, Int.toNat_natCast, Int.natCast_ediv, Int.natCast_pow]
  rfl
theorem k_ushr {x y : Int} (hd : decode me.2.2.1 pc = .ok (.iushr, 1)) (hx : 0 ≤ x ∧ x ≤ 2147483647) (hy : 0 ≤ y ∧ y ≤ 31) (k : kK me (pc + 1) ls (jI (x / 2 ^ y.toNat) :: st) s Q) : kK me pc ls (jI y :: jI x :: st) s Q := k_iushr _ hd (jushr32 hx hy) k
theorem k_andn {x f : Int} (hd : decode me.2.2.1 pc = .ok (.iand, 1)) (hx : 0 ≤ x ∧ x < 256) (hf : 0 ≤ f ∧ f < 8) (k : kK me (pc + 1) ls (jI (x - x / 2 ^ f.toNat % 2 * 2 ^ f.toNat) :: st) s Q) : kK me pc ls (jI (-1 - (1 * 2 ^ f.toNat)) :: jI x :: st) s Q := k_iand _ hd (by rw [Int.one_mul]; exact jandn32 hx hf) k
def wrow (s : Int → Int → Int) (y x : Int) : Int → Int → Int := fun k i => if k = y then s x i else s k i
theorem k_copy {x y z : Int} {idx : Nat} (len : Nat) (hd : decode me.2.2.1 pc = .ok (.invokestatic idx, 3)) (hw : Cond.methodLink me.1 idx arraycopyName ∈ jws) (hb : (decide (1 ≤ me.2.2.2.2.2.frames) && decide ((st.map jcat).sum + 18 ≤ me.2.2.2.2.2.locals)) = true) (hx : 0 < x ∧ x ≤ 168) (hy : 0 < y ∧ y ≤ 168) (hsx : jsh x = hI len) (hsy : jsh y = hI len) (hlen : len ≤ 60000000) (hz : z = (len : Int)) (k : kK me (pc + 3) ls st (wrow s y x) Q) : kK me pc ls (jI z :: jI 0 :: jR y :: jI 0 :: jR x :: st) s Q := by
  refine j_copy hd hw hb hx hy (f := s x) (g := s y) (by show jl1 (jsh x) (s x) = _; rw [hsx]; rfl) (by show jl1 (jsh y) (s y) = _; rw [hsy]; rfl) hlen hz ?_
  have e : jup (jlay s) y (.inr (0, len, .inl (s x))) = jlay (wrow s y x) := by
    funext k9
    unfold jup jlay
    by_cases hk : k9 = y
    · rw [if_pos hk, hk, hsy]
      show (Sum.inr (0, len, .inl (s x)) : jE) = (Sum.inr (0, len, .inl (wrow s y x y)) : jE)
      congr 4
      funext i
      simp [wrow]
    · rw [if_neg hk]
      congr 1
      funext z
      simp [wrow, hk]
  rw [e]
  exact k
theorem j_tswD {n : Nat} {h : Int → jE} {nc ns : Nat} {Q : Option jV → Nat → (Int → jE) → Prop} {dflt lo hi : Int} {offs : Array Int} {len : Nat} {x : Int} (tgt : Nat) (hd : decode me.2.2.1 pc = .ok (.tableswitch dflt lo hi offs, len)) (hx : jr32 x) (h9 : x < lo ∨ hi < x) (ht : (pc : Int) + dflt = (tgt : Int)) (k : jJ me tgt ls st n h nc ns Q) : jJ me pc ls (jI x :: st) n h nc ns Q := by
  intro p l e s m args below meth c base b D cA SC H locs lsS Z C G hW hS hl hZ
  exact lv_tableOut C.1 C.2.1 hd (by rw [j32T hx]; exact h9) ht (k p l e s m args below meth c base b D cA SC H locs lsS Z C G hW hS hl hZ)
theorem j_tswC {n : Nat} {h : Int → jE} {nc ns : Nat} {Q : Option jV → Nat → (Int → jE) → Prop} {dflt lo hi off : Int} {offs : Array Int} {len : Nat} {x : Int} (i tgt : Nat) (hd : decode me.2.2.1 pc = .ok (.tableswitch dflt lo hi offs, len)) (hx : jr32 x) (hi1 : x = lo + i) (hi2 : lo + i ≤ hi) (ho : offs[i]? = some off) (ht : (pc : Int) + off = (tgt : Int)) (k : jJ me tgt ls st n h nc ns Q) : jJ me pc ls (jI x :: st) n h nc ns Q := by
  intro p l e s m args below meth c base b D cA SC H locs lsS Z C G hW hS hl hZ
  exact lv_tableIn C.1 C.2.1 hd (by rw [j32T hx]; omega) (by rw [j32T hx]; omega) (by rw [j32T hx, show (x - lo).toNat = i by omega]; exact ho) ht (k p l e s m args below meth c base b D cA SC H locs lsS Z C G hW hS hl hZ)
theorem k_tswD {dflt lo hi : Int} {offs : Array Int} {len : Nat} {x : Int} (tgt : Nat) (hd : decode me.2.2.1 pc = .ok (.tableswitch dflt lo hi offs, len)) (hx : jr32 x) (h9 : x < lo ∨ hi < x) (ht : (pc : Int) + dflt = (tgt : Int)) (k : kK me tgt ls st s Q) : kK me pc ls (jI x :: st) s Q := j_tswD tgt hd hx h9 ht k
theorem k_tswC {dflt lo hi off : Int} {offs : Array Int} {len : Nat} {x : Int} (i tgt : Nat) (hd : decode me.2.2.1 pc = .ok (.tableswitch dflt lo hi offs, len)) (hx : jr32 x) (hi1 : x = lo + i) (hi2 : lo + i ≤ hi) (ho : offs[i]? = some off) (ht : (pc : Int) + off = (tgt : Int)) (k : kK me tgt ls st s Q) : kK me pc ls (jI x :: st) s Q := j_tswC i tgt hd hx hi1 hi2 ho ht k
end K11
