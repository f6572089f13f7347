/-! THE ABSTRACT MACHINE. Cells are numbered: 0 is the script, 1 .. n the cells that the law's run made, in the order of their making (cell k lies at base + k - 1). Ints and longs are whole numbers, taken modulo 2^32, 2^64. -/
abbrev jV : Type := Int ⊕ Int ⊕ Option Int ⊕ Unit
abbrev jI (x : Int) : jV := .inl x
abbrev jL (x : Int) : jV := .inr (.inl x)
abbrev jR (k : Int) : jV := .inr (.inr (.inl (some k)))
abbrev jN : jV := .inr (.inr (.inl none))
abbrev jU : jV := .inr (.inr (.inr ()))
def jad (base b : Nat) (k : Int) : Nat := if k ≤ 0 then b else base + (k.toNat - 1)
def jvv (base b : Nat) : jV → Value
  | .inl x => .int (Int32.ofInt x)
  | .inr (.inl x) => .long (Int64.ofInt x)
  | .inr (.inr (.inl (some k))) => .ref (jad base b k)
  | .inr (.inr (.inl none)) => .null
  | .inr (.inr (.inr ())) => .null
/-- an object: its class's place in vwCl, its fields; an array: its type's place in jtys, its length, what it holds -/
abbrev jE : Type := (Nat × List jV) ⊕ (Nat × Nat × ((Int → Int) ⊕ (Int → Int) ⊕ (Int → Option Int)))
def jce (base b : Nat) (cA : Nat → ClassId) : jE → va_E
  | .inl (ci, fs) => .inr (ci, fs.map (jvv base b))
  | .inr (t, n, .inl f) => .inl (cA t, n, .inl (fun i => Int32.ofInt (f i)))
  | .inr (t, n, .inr (.inl f)) => .inl (cA t, n, .inr (.inl (fun i => Int64.ofInt (f i))))
  | .inr (t, n, .inr (.inr g)) => .inl (cA t, n, .inr (.inr (.inr (.inr (fun i => (g i).map (jad base b))))))
def jtys (cA : Nat → ClassId) : List (ClassId × FieldType) := [(cA 0, .int), (cA 1, .long), (cA 2, .array .int), (cA 3, .array .long), (cA 4, .object "PraiseDrawer$Big")]
def jW (base b : Nat) (D : va_G) (cA : Nat → ClassId) (SC : jE) (n : Nat) (h : Int → jE) (H : Heap) : Prop :=
  H.size = base + n ∧ h 0 = SC ∧ ∀ k : Nat, 0 < k → k ≤ n → va_at D vwCl (jad base b k, jce base b cA (h k)) H
/-- the script's cell: an int array that no cell of the run is -/
def jSC (b : Nat) (SC : jE) (s : State) : Prop := ∃ (n : Nat) (f : Int → Int), SC = .inr (0, n, .inl f) ∧ va_X b n (fun i => Int32.ofInt (f i)) s s.heap
/-- the links of nest mates -/
def jnest : List (String × Nat × MethodName) := [(RX10, 9, yX3_init), (RX1, 17, yX0_init), (RX10, 60, yX6_init), (RX5, 11, yX0_init), (RX3, 67, yX10_digestOfRow), (RX4, 62, yX10_digestOfRow)]
def jNest (s : State) : Prop := ∀ q ∈ jnest, va_Nw (.methodLinkNest q.1 q.2.1 q.2.2 "PraiseDrawer") s
def jO (s : State) : Prop := jNest s ∧ (Cond.arrayOver (.array .int)).before #[] s = true ∧ (Cond.arrayOver (.array .long)).before #[] s = true ∧ (Cond.arrayOver (.object "PraiseDrawer$Big")).before #[] s = true
def jG (base b : Nat) (D : va_G) (cA : Nat → ClassId) (SC : jE) (s : State) : Prop := va_K D vwCl (jtys cA) s ∧ b < base ∧ base ≤ s.heap.size ∧ jO s ∧ jSC b SC s
def jws : List Cond := lw_tbl.filter goodWord
/-- a method: its class, its name, its code, its locals, what it returns, its room -/
abbrev jM : Type := String × MethodName × ByteArray × Nat × Option FieldType × Room
def jC (me : jM) (p : Program) (s : State) (m : MethodId) (args : Array Value) (meth : Method) (c : Code) : Prop :=
  p.tables.exec = Jvm.exec ∧ c.code = me.2.2.1 ∧ c.maxLocals = me.2.2.2.1 ∧ meth.sig.returnType = me.2.2.2.2.1 ∧ s.vm.findClass me.1 = some m.cls ∧ (∀ w ∈ jws, w.before args s = true) ∧ meth.locks = false ∧ meth.name = me.2.1.name
def jl (base b : Nat) : Nat → List jV → List (Nat × Value)
  | _, [] => []
  | i, .inr (.inr (.inr ())) :: t => jl base b (i + 1) t
  | i, .inl x :: t => (i, jvv base b (.inl x)) :: jl base b (i + 1) t
  | i, .inr (.inl x) :: t => (i, jvv base b (.inr (.inl x))) :: jl base b (i + 1) t
  | i, .inr (.inr (.inl x)) :: t => (i, jvv base b (.inr (.inr (.inl x)))) :: jl base b (i + 1) t
def jis (me : jM) (r : Option jV) (pc : Nat) : Prop :=
  (∃ x : Int, r = some (jI x) ∧ decode me.2.2.1 pc = .ok (.ireturn, 1) ∧ me.2.2.2.2.1 = some .int) ∨ (∃ x : Int, r = some (jI x) ∧ decode me.2.2.1 pc = .ok (.ireturn, 1) ∧ me.2.2.2.2.1 = some .boolean ∧ (x = 0 ∨ x = 1)) ∨
  (∃ x : Int, r = some (jL x) ∧ decode me.2.2.1 pc = .ok (.lreturn, 1) ∧ me.2.2.2.2.1 = some .long) ∨ (r = none ∧ decode me.2.2.1 pc = .ok (.return_, 1) ∧ me.2.2.2.2.1 = none)
def jJ (me : jM) (pc : Nat) (ls st : List jV) (n : Nat) (h : Int → jE) (nc ns : Nat) (Q : Option jV → Nat → (Int → jE) → Prop) : Prop :=
  ∀ (p : Program) (l : Launch) (e : Env) (s : State) (m : MethodId) (args : Array Value) (below : List Frame) (meth : Method) (c : Code) (base b : Nat) (D : va_G) (cA : Nat → ClassId) (SC : jE) (H : Heap) (locs : List Loc) (lsS : Array Slot) (Z : State → Prop),
    jC me p s m args meth c → jG base b D cA SC s → jW base b D cA SC n h H → va_S (fun q => base ≤ q) s.heap H locs → lv_has lsS me.2.2.2.1 (jl base b 0 ls) →
    (∀ (r : Option jV) (n' : Nat) (h' : Int → jE) (H' : Heap) (locs' : List Loc) (pc' : Nat) (ls' : Array Slot), Q r n' h' → jis me r pc' → jW base b D cA SC n' h' H' → va_S (fun q => base ≤ q) s.heap H' locs' → W p l e me.2.2.2.2.2 s m args below meth c H' locs' me.2.2.2.2.2.cells me.2.2.2.2.2.slots Z (F0 m pc' ls' (r.toList.map (jvv base b)))) →
    W p l e me.2.2.2.2.2 s m args below meth c H locs nc ns Z (F0 m pc lsS (st.map (jvv base b)))

/-! plain facts -/
theorem jad_pos {base b : Nat} {k : Int} (h : 0 < k) : jad base b k = base + (k.toNat - 1) := by
  unfold jad; rw [if_neg (by omega)]
theorem jad_inj {base b : Nat} (hb : b < base) {k k' : Int} (h : 0 < k) (h' : 0 ≤ k') (e : jad base b k' = jad base b k) : k' = k := by
  rw [jad_pos h] at e
  unfold jad at e
  split at e <;> omega
theorem jl_mem {base b : Nat} : ∀ (ls : List jV) (i0 i : Nat) (v : jV), ls[i]? = some v → v ≠ jU → (i0 + i, jvv base b v) ∈ jl base b i0 ls
  | [], _, _, _, h, _ => by simp at h
  | a :: t, i0, 0, v, h, hv => by
    simp only [List.getElem?_cons_zero, Option.some.injEq] at h
    subst h
    obtain x | x | x | x := a
    · exact List.mem_cons_self
    · exact List.mem_cons_self
    · exact List.mem_cons_self
    · exact absurd rfl hv
  | a :: t, i0, i + 1, v, h, hv => by
    rw [List.getElem?_cons_succ] at h
    have := jl_mem (base := base) (b := b) t (i0 + 1) i v h hv
    rw [show i0 + 1 + i = i0 + (i + 1) by omega] at this
    obtain x | x | x | x := a
    · exact List.mem_cons_of_mem _ this
    · exact List.mem_cons_of_mem _ this
    · exact List.mem_cons_of_mem _ this
    · exact this
theorem jl_of {base b : Nat} : ∀ (ls : List jV) (i0 : Nat) (q : Nat × Value), q ∈ jl base b i0 ls → ∃ (i : Nat) (v : jV), q = (i0 + i, jvv base b v) ∧ ls[i]? = some v ∧ v ≠ jU
  | [], _, _, h => by cases h
  | a :: t, i0, q, h => by
    have tail : q ∈ jl base b (i0 + 1) t → ∃ (i : Nat) (v : jV), q = (i0 + i, jvv base b v) ∧ (a :: t)[i]? = some v ∧ v ≠ jU := fun h => by
      obtain ⟨i, v, h1, h2, h3⟩ := jl_of t (i0 + 1) q h
      exact ⟨i + 1, v, by rw [h1]; congr 1; omega, by rw [List.getElem?_cons_succ]; exact h2, h3⟩
    obtain x | x | x | x := a
    · rcases List.mem_cons.mp h with h | h
      · exact ⟨0, _, h, rfl, fun z => by cases z⟩
      · exact tail h
    · rcases List.mem_cons.mp h with h | h
      · exact ⟨0, _, h, rfl, fun z => by cases z⟩
      · exact tail h
    · rcases List.mem_cons.mp h with h | h
      · exact ⟨0, _, h, rfl, fun z => by cases z⟩
      · exact tail h
    · exact tail h
theorem jl_at {base b nL : Nat} {lsS : Array Slot} {ls : List jV} (hl : lv_has lsS nL (jl base b 0 ls)) {i : Nat} {v : jV} (h : ls[i]? = some v) (hv : v ≠ jU) : lsS[i]? = some (.val (jvv base b v)) := by
  have := hl.2.2 _ (jl_mem ls 0 i v h hv)
  rw [Nat.zero_add] at this
  exact this
/-- no long stands at i - 1 -/
def jok (ls : List jV) (i : Nat) : Bool := match i with
  | 0 => true
  | k + 1 => match ls[k]? with
    | some (.inr (.inl _)) => false
    | _ => true
theorem jcat2 {base b : Nat} {v : jV} (h : (jvv base b v).category = 2) : ∃ x, v = jL x := by
  obtain x | x | x | x := v
  · simp [jvv, Value.category] at h
  · exact ⟨x, rfl⟩
  · cases x <;> simp [jvv, Value.category] at h
  · simp [jvv, Value.category] at h
theorem jl_set1 {base b nL : Nat} {ls' : Array Slot} {ls : List jV} {i : Nat} {v : jV} (hi : i < ls.length) (hok : jok ls i = true)
    (h : lv_has ls' nL ((i, jvv base b v) :: (jl base b 0 ls).filter (fun q => !(q.1 == i) && !(q.1 + 1 == i && q.2.category == 2)))) : lv_has ls' nL (jl base b 0 (ls.set i v)) := by
  refine ⟨h.1, h.2.1, fun q hq => ?_⟩
  obtain ⟨k, w, rfl, hk, hw⟩ := jl_of _ _ _ hq
  rw [Nat.zero_add]
  by_cases hki : k = i
  · subst hki
    rw [List.getElem?_set_self hi] at hk
    cases hk
    exact h.2.2 _ List.mem_cons_self
  · rw [List.getElem?_set_ne (Ne.symm hki)] at hk
    have hm := jl_mem (base := base) (b := b) ls 0 k w hk hw
    rw [Nat.zero_add] at hm
    refine h.2.2 _ (List.mem_cons_of_mem _ (List.mem_filter.mpr ⟨hm, ?_⟩))
    simp only [Bool.and_eq_true, Bool.not_eq_true', beq_eq_false_iff_ne, ne_eq, Bool.and_eq_false_iff]
    refine ⟨hki, ?_⟩
    by_cases h1 : k + 1 = i
    · right
      intro h2
      obtain ⟨x, rfl⟩ := jcat2 h2
      subst h1
      simp [jok, hk] at hok
    · left; exact h1
theorem jl_set2 {base b nL : Nat} {ls' : Array Slot} {ls : List jV} {i : Nat} {v : jV} (hi : i + 1 < ls.length) (hok : jok ls i = true)
    (h : lv_has ls' nL ((i, jvv base b v) :: (jl base b 0 ls).filter (fun q => !(q.1 == i) && (!(q.1 == i + 1) && !(q.1 + 1 == i && q.2.category == 2))))) : lv_has ls' nL (jl base b 0 ((ls.set i v).set (i + 1) jU)) := by
  refine ⟨h.1, h.2.1, fun q hq => ?_⟩
  obtain ⟨k, w, rfl, hk, hw⟩ := jl_of _ _ _ hq
  rw [Nat.zero_add]
  by_cases hk1 : k = i + 1
  · subst hk1
    rw [List.getElem?_set_self (by rw [List.length_set]; exact hi)] at hk
    cases hk
    exact absurd rfl hw
  · rw [List.getElem?_set_ne (Ne.symm hk1)] at hk
    by_cases hki : k = i
    · subst hki
      rw [List.getElem?_set_self (by omega)] at hk
      cases hk
      exact h.2.2 _ List.mem_cons_self
    · rw [List.getElem?_set_ne (Ne.symm hki)] at hk
      have hm := jl_mem (base := base) (b := b) ls 0 k w hk hw
      rw [Nat.zero_add] at hm
      refine h.2.2 _ (List.mem_cons_of_mem _ (List.mem_filter.mpr ⟨hm, ?_⟩))
      simp only [Bool.and_eq_true, Bool.not_eq_true', beq_eq_false_iff_ne, ne_eq, Bool.and_eq_false_iff]
      refine ⟨hki, hk1, ?_⟩
      by_cases h1 : k + 1 = i
      · right
        intro h2
        obtain ⟨x, rfl⟩ := jcat2 h2
        subst h1
        simp [jok, hk] at hok
      · left; exact h1
abbrev jr32 (x : Int) : Prop := -2147483648 ≤ x ∧ x ≤ 2147483647
abbrev jr64 (x : Int) : Prop := -9223372036854775808 ≤ x ∧ x ≤ 9223372036854775807
theorem j32T {x : Int} (h : jr32 x) : (Int32.ofInt x).toInt = x := Int32.toInt_ofInt_of_le (by have := h.1; omega) (by have := h.2; omega)
theorem j64T {x : Int} (h : jr64 x) : (Int64.ofInt x).toInt = x := Int64.toInt_ofInt_of_le (by have := h.1; omega) (by have := h.2; omega)
theorem j32_lt {x y : Int} (hx : jr32 x) (hy : jr32 y) : Int32.ofInt x < Int32.ofInt y ↔ x < y := by rw [Int32.lt_iff_toInt_lt, j32T hx, j32T hy]
theorem j32_le {x y : Int} (hx : jr32 x) (hy : jr32 y) : Int32.ofInt x ≤ Int32.ofInt y ↔ x ≤ y := by rw [Int32.le_iff_toInt_le, j32T hx, j32T hy]
theorem j32_eq {x y : Int} (hx : jr32 x) (hy : jr32 y) : Int32.ofInt x = Int32.ofInt y ↔ x = y := by rw [← Int32.toInt_inj, j32T hx, j32T hy]
theorem j64_lt {x y : Int} (hx : jr64 x) (hy : jr64 y) : Int64.ofInt x < Int64.ofInt y ↔ x < y := by rw [Int64.lt_iff_toInt_lt, j64T hx, j64T hy]
theorem j64_eq {x y : Int} (hx : jr64 x) (hy : jr64 y) : Int64.ofInt x = Int64.ofInt y ↔ x = y := by rw [← Int64.toInt_inj, j64T hx, j64T hy]
theorem jr32_0 : jr32 0 := ⟨by omega, by omega⟩
theorem jin {x : Int} {N : Nat} (h0 : 0 ≤ x) (h1 : x < N) (hN : N < 2147483648) : vp_in (Int32.ofInt x) N ∧ (((Int32.ofInt x).toNatClampNeg : Nat) : Int) = x := by
  have hx : jr32 x := ⟨by omega, by omega⟩
  have hc : (Int32.ofInt x).toNatClampNeg = x.toNat := Int32.toNatClampNeg_ofInt_of_le (by omega) (by omega)
  refine ⟨?_, by rw [hc]; omega⟩
  unfold vp_in
  rw [hc]
  rintro (h | h)
  · have : Int32.ofInt x < Int32.ofInt 0 := h
    rw [j32_lt hx jr32_0] at this
    omega
  · omega

theorem j_iconst {me : jM} {pc : Nat} {ls st : List jV} {n : Nat} {h : Int → jE} {nc ns : Nat} {Q : Option jV → Nat → (Int → jE) → Prop} {v : Int} (hd : decode me.2.2.1 pc = .ok (.iconst v, 1)) (k : jJ me (pc + 1) ls (jI v :: st) n h nc ns Q) : jJ me (pc) ls (st) n h nc ns Q := by
  intro p l e s m args below meth c base b D cA SC H locs lsS Z C G hW hS hl hZ
  exact lv_iconst C.1 C.2.1 hd rfl (k p l e s m args below meth c base b D cA SC H locs lsS Z C G hW hS hl hZ)

theorem j_bipush {me : jM} {pc : Nat} {ls st : List jV} {n : Nat} {h : Int → jE} {nc ns : Nat} {Q : Option jV → Nat → (Int → jE) → Prop} {v : Int} (hd : decode me.2.2.1 pc = .ok (.bipush v, 2)) (hv : (Int8.ofInt v).toInt32 = Int32.ofInt v) (k : jJ me (pc + 2) ls (jI v :: st) n h nc ns Q) : jJ me (pc) ls (st) n h nc ns Q := by
  intro p l e s m args below meth c base b D cA SC H locs lsS Z C G hW hS hl hZ
  exact lv_bipush C.1 C.2.1 hd hv (k p l e s m args below meth c base b D cA SC H locs lsS Z C G hW hS hl hZ)

theorem j_sipush {me : jM} {pc : Nat} {ls st : List jV} {n : Nat} {h : Int → jE} {nc ns : Nat} {Q : Option jV → Nat → (Int → jE) → Prop} {v : Int} (hd : decode me.2.2.1 pc = .ok (.sipush v, 3)) (hv : (Int16.ofInt v).toInt32 = Int32.ofInt v) (k : jJ me (pc + 3) ls (jI v :: st) n h nc ns Q) : jJ me (pc) ls (st) n h nc ns Q := by
  intro p l e s m args below meth c base b D cA SC H locs lsS Z C G hW hS hl hZ
  exact lv_sipush C.1 C.2.1 hd hv (k p l e s m args below meth c base b D cA SC H locs lsS Z C G hW hS hl hZ)

theorem j_lconst {me : jM} {pc : Nat} {ls st : List jV} {n : Nat} {h : Int → jE} {nc ns : Nat} {Q : Option jV → Nat → (Int → jE) → Prop} {i : Fin 2} (v : Int) (hd : decode me.2.2.1 pc = .ok (.lconst i, 1)) (hv : Int64.ofNat (i : Nat) = Int64.ofInt v) (k : jJ me (pc + 1) ls (jL v :: st) n h nc ns Q) : jJ me (pc) ls (st) n h nc ns Q := by
  intro p l e s m args below meth c base b D cA SC H locs lsS Z C G hW hS hl hZ
  exact lv_lconst C.1 C.2.1 hd hv (k p l e s m args below meth c base b D cA SC H locs lsS Z C G hW hS hl hZ)

theorem j_ldc {me : jM} {pc : Nat} {ls st : List jV} {n : Nat} {h : Int → jE} {nc ns : Nat} {Q : Option jV → Nat → (Int → jE) → Prop} {i : Nat} (w : Int32) (v : Int) (hd : decode me.2.2.1 pc = .ok (.ldc i, 2)) (hw : Cond.constant me.1 i w ∈ jws) (hv : w = Int32.ofInt v) (k : jJ me (pc + 2) ls (jI v :: st) n h nc ns Q) : jJ me (pc) ls (st) n h nc ns Q := by
  intro p l e s m args below meth c base b D cA SC H locs lsS Z C G hW hS hl hZ
  subst hv
  exact lv_ldc C.1 C.2.1 C.2.2.2.2.1 (C.2.2.2.2.2.1 _ hw) hd (k p l e s m args below meth c base b D cA SC H locs lsS Z C G hW hS hl hZ)

theorem j_ldcw {me : jM} {pc : Nat} {ls st : List jV} {n : Nat} {h : Int → jE} {nc ns : Nat} {Q : Option jV → Nat → (Int → jE) → Prop} {i : Nat} (w : Int32) (v : Int) (hd : decode me.2.2.1 pc = .ok (.ldc_w i, 3)) (hw : Cond.constant me.1 i w ∈ jws) (hv : w = Int32.ofInt v) (k : jJ me (pc + 3) ls (jI v :: st) n h nc ns Q) : jJ me (pc) ls (st) n h nc ns Q := by
  intro p l e s m args below meth c base b D cA SC H locs lsS Z C G hW hS hl hZ
  subst hv
  exact lv_ldcw C.1 C.2.1 C.2.2.2.2.1 (C.2.2.2.2.2.1 _ hw) hd (k p l e s m args below meth c base b D cA SC H locs lsS Z C G hW hS hl hZ)

theorem j_ldc2 {me : jM} {pc : Nat} {ls st : List jV} {n : Nat} {h : Int → jE} {nc ns : Nat} {Q : Option jV → Nat → (Int → jE) → Prop} {i : Nat} (w : Int64) (v : Int) (hd : decode me.2.2.1 pc = .ok (.ldc2_w i, 3)) (hw : Cond.constantLong me.1 i w ∈ jws) (hv : w = Int64.ofInt v) (k : jJ me (pc + 3) ls (jL v :: st) n h nc ns Q) : jJ me (pc) ls (st) n h nc ns Q := by
  intro p l e s m args below meth c base b D cA SC H locs lsS Z C G hW hS hl hZ
  subst hv
  exact lv_ldc2 C.1 C.2.1 C.2.2.2.2.1 (C.2.2.2.2.2.1 _ hw) hd (k p l e s m args below meth c base b D cA SC H locs lsS Z C G hW hS hl hZ)

theorem j_iload_n {me : jM} {pc : Nat} {ls st : List jV} {n : Nat} {h : Int → jE} {nc ns : Nat} {Q : Option jV → Nat → (Int → jE) → Prop} {i : Fin 4} {x : Int} (hd : decode me.2.2.1 pc = .ok (.iload_n i, 1)) (hl0 : ls[(i : Nat)]? = some (jI x)) (k : jJ me (pc + 1) ls (jI x :: st) n h nc ns Q) : jJ me (pc) ls (st) n h nc ns Q := by
  intro p l e s m args below meth c base b D cA SC H locs lsS Z C G hW hS hl hZ
  exact lv_iload_n C.1 C.2.1 hd rfl (jl_at hl hl0 (fun z => by cases z)) (k p l e s m args below meth c base b D cA SC H locs lsS Z C G hW hS hl hZ)

theorem j_iload {me : jM} {pc : Nat} {ls st : List jV} {n : Nat} {h : Int → jE} {nc ns : Nat} {Q : Option jV → Nat → (Int → jE) → Prop} {i : Nat} {x : Int} (hd : decode me.2.2.1 pc = .ok (.iload i, 2)) (hl0 : ls[i]? = some (jI x)) (k : jJ me (pc + 2) ls (jI x :: st) n h nc ns Q) : jJ me (pc) ls (st) n h nc ns Q := by
  intro p l e s m args below meth c base b D cA SC H locs lsS Z C G hW hS hl hZ
  exact lv_iload C.1 C.2.1 hd (jl_at hl hl0 (fun z => by cases z)) (k p l e s m args below meth c base b D cA SC H locs lsS Z C G hW hS hl hZ)

theorem j_lload_n {me : jM} {pc : Nat} {ls st : List jV} {n : Nat} {h : Int → jE} {nc ns : Nat} {Q : Option jV → Nat → (Int → jE) → Prop} {i : Fin 4} {x : Int} (hd : decode me.2.2.1 pc = .ok (.lload_n i, 1)) (hl0 : ls[(i : Nat)]? = some (jL x)) (k : jJ me (pc + 1) ls (jL x :: st) n h nc ns Q) : jJ me (pc) ls (st) n h nc ns Q := by
  intro p l e s m args below meth c base b D cA SC H locs lsS Z C G hW hS hl hZ
  exact lv_lload_n C.1 C.2.1 hd rfl (jl_at hl hl0 (fun z => by cases z)) (k p l e s m args below meth c base b D cA SC H locs lsS Z C G hW hS hl hZ)

theorem j_lload {me : jM} {pc : Nat} {ls st : List jV} {n : Nat} {h : Int → jE} {nc ns : Nat} {Q : Option jV → Nat → (Int → jE) → Prop} {i : Nat} {x : Int} (hd : decode me.2.2.1 pc = .ok (.lload i, 2)) (hl0 : ls[i]? = some (jL x)) (k : jJ me (pc + 2) ls (jL x :: st) n h nc ns Q) : jJ me (pc) ls (st) n h nc ns Q := by
  intro p l e s m args below meth c base b D cA SC H locs lsS Z C G hW hS hl hZ
  exact lv_lload C.1 C.2.1 hd (jl_at hl hl0 (fun z => by cases z)) (k p l e s m args below meth c base b D cA SC H locs lsS Z C G hW hS hl hZ)

theorem j_aload_n {me : jM} {pc : Nat} {ls st : List jV} {n : Nat} {h : Int → jE} {nc ns : Nat} {Q : Option jV → Nat → (Int → jE) → Prop} {i : Fin 4} {x : Int} (hd : decode me.2.2.1 pc = .ok (.aload_n i, 1)) (hl0 : ls[(i : Nat)]? = some (jR x)) (k : jJ me (pc + 1) ls (jR x :: st) n h nc ns Q) : jJ me (pc) ls (st) n h nc ns Q := by
  intro p l e s m args below meth c base b D cA SC H locs lsS Z C G hW hS hl hZ
  exact lv_aload_n C.1 C.2.1 hd rfl (jl_at hl hl0 (fun z => by cases z)) (k p l e s m args below meth c base b D cA SC H locs lsS Z C G hW hS hl hZ)

theorem j_aload {me : jM} {pc : Nat} {ls st : List jV} {n : Nat} {h : Int → jE} {nc ns : Nat} {Q : Option jV → Nat → (Int → jE) → Prop} {i : Nat} {x : Int} (hd : decode me.2.2.1 pc = .ok (.aload i, 2)) (hl0 : ls[i]? = some (jR x)) (k : jJ me (pc + 2) ls (jR x :: st) n h nc ns Q) : jJ me (pc) ls (st) n h nc ns Q := by
  intro p l e s m args below meth c base b D cA SC H locs lsS Z C G hW hS hl hZ
  exact lv_aload C.1 C.2.1 hd (jl_at hl hl0 (fun z => by cases z)) (k p l e s m args below meth c base b D cA SC H locs lsS Z C G hW hS hl hZ)

theorem j_istore_n {me : jM} {pc : Nat} {ls st : List jV} {n : Nat} {h : Int → jE} {nc ns : Nat} {Q : Option jV → Nat → (Int → jE) → Prop} {i : Fin 4} {x : Int} (ls' : List jV) (hd : decode me.2.2.1 pc = .ok (.istore_n i, 1)) (hi : decide ((i : Nat) < ls.length) && decide ((i : Nat) < me.2.2.2.1) && jok ls (i : Nat) = true) (hs : ls.set (i : Nat) (jI x) = ls') (k : jJ me (pc + 1) ls' st n h nc ns Q) : jJ me (pc) ls (jI x :: st) n h nc ns Q := by
  intro p l e s m args below meth c base b D cA SC H locs lsS Z C G hW hS hl hZ
  simp only [Bool.and_eq_true, decide_eq_true_eq] at hi
  subst hs
  exact lv_istore_n C.1 C.2.1 hd rfl hl hi.1.2 rfl (fun ls2 h2 => k p l e s m args below meth c base b D cA SC H locs ls2 Z C G hW hS (jl_set1 hi.1.1 hi.2 h2) hZ)

theorem j_istore {me : jM} {pc : Nat} {ls st : List jV} {n : Nat} {h : Int → jE} {nc ns : Nat} {Q : Option jV → Nat → (Int → jE) → Prop} {i : Nat} {x : Int} (ls' : List jV) (hd : decode me.2.2.1 pc = .ok (.istore i, 2)) (hi : decide (i < ls.length) && decide (i < me.2.2.2.1) && jok ls i = true) (hs : ls.set i (jI x) = ls') (k : jJ me (pc + 2) ls' st n h nc ns Q) : jJ me (pc) ls (jI x :: st) n h nc ns Q := by
  intro p l e s m args below meth c base b D cA SC H locs lsS Z C G hW hS hl hZ
  simp only [Bool.and_eq_true, decide_eq_true_eq] at hi
  subst hs
  exact lv_istore C.1 C.2.1 hd hl hi.1.2 rfl (fun ls2 h2 => k p l e s m args below meth c base b D cA SC H locs ls2 Z C G hW hS (jl_set1 hi.1.1 hi.2 h2) hZ)

theorem j_lstore_n {me : jM} {pc : Nat} {ls st : List jV} {n : Nat} {h : Int → jE} {nc ns : Nat} {Q : Option jV → Nat → (Int → jE) → Prop} {i : Fin 4} {x : Int} (ls' : List jV) (hd : decode me.2.2.1 pc = .ok (.lstore_n i, 1)) (hi : decide ((i : Nat) + 1 < ls.length) && decide ((i : Nat) + 1 < me.2.2.2.1) && jok ls (i : Nat) = true) (hs : (ls.set (i : Nat) (jL x)).set ((i : Nat) + 1) jU = ls') (k : jJ me (pc + 1) ls' st n h nc ns Q) : jJ me (pc) ls (jL x :: st) n h nc ns Q := by
  intro p l e s m args below meth c base b D cA SC H locs lsS Z C G hW hS hl hZ
  simp only [Bool.and_eq_true, decide_eq_true_eq] at hi
  subst hs
  exact lv_lstore_n C.1 C.2.1 hd rfl hl hi.1.2 rfl (fun ls2 h2 => k p l e s m args below meth c base b D cA SC H locs ls2 Z C G hW hS (jl_set2 hi.1.1 hi.2 h2) hZ)

theorem j_lstore {me : jM} {pc : Nat} {ls st : List jV} {n : Nat} {h : Int → jE} {nc ns : Nat} {Q : Option jV → Nat → (Int → jE) → Prop} {i : Nat} {x : Int} (ls' : List jV) (hd : decode me.2.2.1 pc = .ok (.lstore i, 2)) (hi : decide (i + 1 < ls.length) && decide (i + 1 < me.2.2.2.1) && jok ls i = true) (hs : (ls.set i (jL x)).set (i + 1) jU = ls') (k : jJ me (pc + 2) ls' st n h nc ns Q) : jJ me (pc) ls (jL x :: st) n h nc ns Q := by
  intro p l e s m args below meth c base b D cA SC H locs lsS Z C G hW hS hl hZ
  simp only [Bool.and_eq_true, decide_eq_true_eq] at hi
  subst hs
  exact lv_lstore C.1 C.2.1 hd hl hi.1.2 rfl (fun ls2 h2 => k p l e s m args below meth c base b D cA SC H locs ls2 Z C G hW hS (jl_set2 hi.1.1 hi.2 h2) hZ)

theorem j_astore_n {me : jM} {pc : Nat} {ls st : List jV} {n : Nat} {h : Int → jE} {nc ns : Nat} {Q : Option jV → Nat → (Int → jE) → Prop} {i : Fin 4} {x : Int} (ls' : List jV) (hd : decode me.2.2.1 pc = .ok (.astore_n i, 1)) (hi : decide ((i : Nat) < ls.length) && decide ((i : Nat) < me.2.2.2.1) && jok ls (i : Nat) = true) (hs : ls.set (i : Nat) (jR x) = ls') (k : jJ me (pc + 1) ls' st n h nc ns Q) : jJ me (pc) ls (jR x :: st) n h nc ns Q := by
  intro p l e s m args below meth c base b D cA SC H locs lsS Z C G hW hS hl hZ
  simp only [Bool.and_eq_true, decide_eq_true_eq] at hi
  subst hs
  exact lv_astore_n C.1 C.2.1 hd rfl hl hi.1.2 rfl (fun ls2 h2 => k p l e s m args below meth c base b D cA SC H locs ls2 Z C G hW hS (jl_set1 hi.1.1 hi.2 h2) hZ)

theorem j_astore {me : jM} {pc : Nat} {ls st : List jV} {n : Nat} {h : Int → jE} {nc ns : Nat} {Q : Option jV → Nat → (Int → jE) → Prop} {i : Nat} {x : Int} (ls' : List jV) (hd : decode me.2.2.1 pc = .ok (.astore i, 2)) (hi : decide (i < ls.length) && decide (i < me.2.2.2.1) && jok ls i = true) (hs : ls.set i (jR x) = ls') (k : jJ me (pc + 2) ls' st n h nc ns Q) : jJ me (pc) ls (jR x :: st) n h nc ns Q := by
  intro p l e s m args below meth c base b D cA SC H locs lsS Z C G hW hS hl hZ
  simp only [Bool.and_eq_true, decide_eq_true_eq] at hi
  subst hs
  exact lv_astore C.1 C.2.1 hd hl hi.1.2 rfl (fun ls2 h2 => k p l e s m args below meth c base b D cA SC H locs ls2 Z C G hW hS (jl_set1 hi.1.1 hi.2 h2) hZ)

theorem j_iinc {me : jM} {pc : Nat} {ls st : List jV} {n : Nat} {h : Int → jE} {nc ns : Nat} {Q : Option jV → Nat → (Int → jE) → Prop} {i : Nat} {d x : Int} (ls' : List jV) (hd : decode me.2.2.1 pc = .ok (.iinc i d, 3)) (hl0 : ls[i]? = some (jI x)) (hi : decide (i < ls.length) && decide (i < me.2.2.2.1) && jok ls i = true) (hs : ls.set i (jI (x + d)) = ls') (k : jJ me (pc + 3) ls' st n h nc ns Q) : jJ me (pc) ls (st) n h nc ns Q := by
  intro p l e s m args below meth c base b D cA SC H locs lsS Z C G hW hS hl hZ
  simp only [Bool.and_eq_true, decide_eq_true_eq] at hi
  subst hs
  obtain ⟨j, hj⟩ := List.getElem?_of_mem (jl_mem (base := base) (b := b) ls 0 i _ hl0 (fun z => by cases z))
  rw [Nat.zero_add] at hj
  refine lv_iinc (v := Int32.ofInt (x + d)) C.1 C.2.1 hd hl hj (by rw [Int32.ofInt_add]) hi.1.2 rfl (fun ls2 h2 => k p l e s m args below meth c base b D cA SC H locs ls2 Z C G hW hS (jl_set1 (v := jI (x + d)) hi.1.1 hi.2 h2) hZ)

theorem j_iadd {me : jM} {pc : Nat} {ls st : List jV} {n : Nat} {h : Int → jE} {nc ns : Nat} {Q : Option jV → Nat → (Int → jE) → Prop} {x y : Int} (hd : decode me.2.2.1 pc = .ok (.iadd, 1)) (k : jJ me (pc + 1) ls (jI (x + y) :: st) n h nc ns Q) : jJ me (pc) ls (jI y :: jI x :: st) n h nc ns Q := by
  intro p l e s m args below meth c base b D cA SC H locs lsS Z C G hW hS hl hZ
  refine lv_iadd C.1 C.2.1 hd ?_
  rw [← Int32.ofInt_add]
  exact k p l e s m args below meth c base b D cA SC H locs lsS Z C G hW hS hl hZ

theorem j_isub {me : jM} {pc : Nat} {ls st : List jV} {n : Nat} {h : Int → jE} {nc ns : Nat} {Q : Option jV → Nat → (Int → jE) → Prop} {x y : Int} (hd : decode me.2.2.1 pc = .ok (.isub, 1)) (k : jJ me (pc + 1) ls (jI (x - y) :: st) n h nc ns Q) : jJ me (pc) ls (jI y :: jI x :: st) n h nc ns Q := by
  intro p l e s m args below meth c base b D cA SC H locs lsS Z C G hW hS hl hZ
  refine lv_isub C.1 C.2.1 hd ?_
  rw [← Int32.ofInt_sub]
  exact k p l e s m args below meth c base b D cA SC H locs lsS Z C G hW hS hl hZ

theorem j_imul {me : jM} {pc : Nat} {ls st : List jV} {n : Nat} {h : Int → jE} {nc ns : Nat} {Q : Option jV → Nat → (Int → jE) → Prop} {x y : Int} (hd : decode me.2.2.1 pc = .ok (.imul, 1)) (k : jJ me (pc + 1) ls (jI (x * y) :: st) n h nc ns Q) : jJ me (pc) ls (jI y :: jI x :: st) n h nc ns Q := by
  intro p l e s m args below meth c base b D cA SC H locs lsS Z C G hW hS hl hZ
  refine lv_imul C.1 C.2.1 hd ?_
  rw [← Int32.ofInt_mul]
  exact k p l e s m args below meth c base b D cA SC H locs lsS Z C G hW hS hl hZ

theorem j_ladd {me : jM} {pc : Nat} {ls st : List jV} {n : Nat} {h : Int → jE} {nc ns : Nat} {Q : Option jV → Nat → (Int → jE) → Prop} {x y : Int} (hd : decode me.2.2.1 pc = .ok (.ladd, 1)) (k : jJ me (pc + 1) ls (jL (x + y) :: st) n h nc ns Q) : jJ me (pc) ls (jL y :: jL x :: st) n h nc ns Q := by
  intro p l e s m args below meth c base b D cA SC H locs lsS Z C G hW hS hl hZ
  refine lv_ladd C.1 C.2.1 hd ?_
  rw [← Int64.ofInt_add]
  exact k p l e s m args below meth c base b D cA SC H locs lsS Z C G hW hS hl hZ

theorem j_lsub {me : jM} {pc : Nat} {ls st : List jV} {n : Nat} {h : Int → jE} {nc ns : Nat} {Q : Option jV → Nat → (Int → jE) → Prop} {x y : Int} (hd : decode me.2.2.1 pc = .ok (.lsub, 1)) (k : jJ me (pc + 1) ls (jL (x - y) :: st) n h nc ns Q) : jJ me (pc) ls (jL y :: jL x :: st) n h nc ns Q := by
  intro p l e s m args below meth c base b D cA SC H locs lsS Z C G hW hS hl hZ
  refine lv_lsub C.1 C.2.1 hd ?_
  rw [← Int64.ofInt_sub]
  exact k p l e s m args below meth c base b D cA SC H locs lsS Z C G hW hS hl hZ

theorem j_lmul {me : jM} {pc : Nat} {ls st : List jV} {n : Nat} {h : Int → jE} {nc ns : Nat} {Q : Option jV → Nat → (Int → jE) → Prop} {x y : Int} (hd : decode me.2.2.1 pc = .ok (.lmul, 1)) (k : jJ me (pc + 1) ls (jL (x * y) :: st) n h nc ns Q) : jJ me (pc) ls (jL y :: jL x :: st) n h nc ns Q := by
  intro p l e s m args below meth c base b D cA SC H locs lsS Z C G hW hS hl hZ
  refine lv_lmul C.1 C.2.1 hd ?_
  rw [← Int64.ofInt_mul]
  exact k p l e s m args below meth c base b D cA SC H locs lsS Z C G hW hS hl hZ

theorem j_lneg {me : jM} {pc : Nat} {ls st : List jV} {n : Nat} {h : Int → jE} {nc ns : Nat} {Q : Option jV → Nat → (Int → jE) → Prop} {x : Int} (hd : decode me.2.2.1 pc = .ok (.lneg, 1)) (k : jJ me (pc + 1) ls (jL (-x) :: st) n h nc ns Q) : jJ me (pc) ls (jL x :: st) n h nc ns Q := by
  intro p l e s m args below meth c base b D cA SC H locs lsS Z C G hW hS hl hZ
  refine lv_lneg C.1 C.2.1 hd ?_
  rw [← Int64.ofInt_neg]
  exact k p l e s m args below meth c base b D cA SC H locs lsS Z C G hW hS hl hZ

theorem j_iand {me : jM} {pc : Nat} {ls st : List jV} {n : Nat} {h : Int → jE} {nc ns : Nat} {Q : Option jV → Nat → (Int → jE) → Prop} {x y : Int} (v : Int) (hd : decode me.2.2.1 pc = .ok (.iand, 1)) (hv : Int32.ofInt x &&& Int32.ofInt y = Int32.ofInt v) (k : jJ me (pc + 1) ls (jI v :: st) n h nc ns Q) : jJ me (pc) ls (jI y :: jI x :: st) n h nc ns Q := by
  intro p l e s m args below meth c base b D cA SC H locs lsS Z C G hW hS hl hZ
  refine lv_iand C.1 C.2.1 hd ?_
  rw [hv]
  exact k p l e s m args below meth c base b D cA SC H locs lsS Z C G hW hS hl hZ

theorem j_ior {me : jM} {pc : Nat} {ls st : List jV} {n : Nat} {h : Int → jE} {nc ns : Nat} {Q : Option jV → Nat → (Int → jE) → Prop} {x y : Int} (v : Int) (hd : decode me.2.2.1 pc = .ok (.ior, 1)) (hv : Int32.ofInt x ||| Int32.ofInt y = Int32.ofInt v) (k : jJ me (pc + 1) ls (jI v :: st) n h nc ns Q) : jJ me (pc) ls (jI y :: jI x :: st) n h nc ns Q := by
  intro p l e s m args below meth c base b D cA SC H locs lsS Z C G hW hS hl hZ
  refine lv_ior C.1 C.2.1 hd ?_
  rw [hv]
  exact k p l e s m args below meth c base b D cA SC H locs lsS Z C G hW hS hl hZ

theorem j_ixor {me : jM} {pc : Nat} {ls st : List jV} {n : Nat} {h : Int → jE} {nc ns : Nat} {Q : Option jV → Nat → (Int → jE) → Prop} {x y : Int} (v : Int) (hd : decode me.2.2.1 pc = .ok (.ixor, 1)) (hv : Int32.ofInt x ^^^ Int32.ofInt y = Int32.ofInt v) (k : jJ me (pc + 1) ls (jI v :: st) n h nc ns Q) : jJ me (pc) ls (jI y :: jI x :: st) n h nc ns Q := by
  intro p l e s m args below meth c base b D cA SC H locs lsS Z C G hW hS hl hZ
  refine lv_ixor C.1 C.2.1 hd ?_
  rw [hv]
  exact k p l e s m args below meth c base b D cA SC H locs lsS Z C G hW hS hl hZ

theorem j_ishl {me : jM} {pc : Nat} {ls st : List jV} {n : Nat} {h : Int → jE} {nc ns : Nat} {Q : Option jV → Nat → (Int → jE) → Prop} {x y : Int} (v : Int) (hd : decode me.2.2.1 pc = .ok (.ishl, 1)) (hv : Int32.ofInt x <<< (Int32.ofInt y &&& 31) = Int32.ofInt v) (k : jJ me (pc + 1) ls (jI v :: st) n h nc ns Q) : jJ me (pc) ls (jI y :: jI x :: st) n h nc ns Q := by
  intro p l e s m args below meth c base b D cA SC H locs lsS Z C G hW hS hl hZ
  refine lv_ishl C.1 C.2.1 hd ?_
  rw [hv]
  exact k p l e s m args below meth c base b D cA SC H locs lsS Z C G hW hS hl hZ

theorem j_ishr {me : jM} {pc : Nat} {ls st : List jV} {n : Nat} {h : Int → jE} {nc ns : Nat} {Q : Option jV → Nat → (Int → jE) → Prop} {x y : Int} (v : Int) (hd : decode me.2.2.1 pc = .ok (.ishr, 1)) (hv : Int32.ofInt x >>> (Int32.ofInt y &&& 31) = Int32.ofInt v) (k : jJ me (pc + 1) ls (jI v :: st) n h nc ns Q) : jJ me (pc) ls (jI y :: jI x :: st) n h nc ns Q := by
  intro p l e s m args below meth c base b D cA SC H locs lsS Z C G hW hS hl hZ
  refine lv_ishr C.1 C.2.1 hd ?_
  rw [hv]
  exact k p l e s m args below meth c base b D cA SC H locs lsS Z C G hW hS hl hZ

theorem j_land {me : jM} {pc : Nat} {ls st : List jV} {n : Nat} {h : Int → jE} {nc ns : Nat} {Q : Option jV → Nat → (Int → jE) → Prop} {x y : Int} (v : Int) (hd : decode me.2.2.1 pc = .ok (.land, 1)) (hv : Int64.ofInt x &&& Int64.ofInt y = Int64.ofInt v) (k : jJ me (pc + 1) ls (jL v :: st) n h nc ns Q) : jJ me (pc) ls (jL y :: jL x :: st) n h nc ns Q := by
  intro p l e s m args below meth c base b D cA SC H locs lsS Z C G hW hS hl hZ
  refine lv_land C.1 C.2.1 hd ?_
  rw [hv]
  exact k p l e s m args below meth c base b D cA SC H locs lsS Z C G hW hS hl hZ

theorem j_lor {me : jM} {pc : Nat} {ls st : List jV} {n : Nat} {h : Int → jE} {nc ns : Nat} {Q : Option jV → Nat → (Int → jE) → Prop} {x y : Int} (v : Int) (hd : decode me.2.2.1 pc = .ok (.lor, 1)) (hv : Int64.ofInt x ||| Int64.ofInt y = Int64.ofInt v) (k : jJ me (pc + 1) ls (jL v :: st) n h nc ns Q) : jJ me (pc) ls (jL y :: jL x :: st) n h nc ns Q := by
  intro p l e s m args below meth c base b D cA SC H locs lsS Z C G hW hS hl hZ
  refine lv_lor C.1 C.2.1 hd ?_
  rw [hv]
  exact k p l e s m args below meth c base b D cA SC H locs lsS Z C G hW hS hl hZ

theorem j_iushr {me : jM} {pc : Nat} {ls st : List jV} {n : Nat} {h : Int → jE} {nc ns : Nat} {Q : Option jV → Nat → (Int → jE) → Prop} {x y : Int} (v : Int) (hd : decode me.2.2.1 pc = .ok (.iushr, 1)) (hv : ((Int32.ofInt x).toUInt32 >>> ((Int32.ofInt y).toUInt32 &&& Int32.toUInt32 31)).toInt32 = Int32.ofInt v) (k : jJ me (pc + 1) ls (jI v :: st) n h nc ns Q) : jJ me (pc) ls (jI y :: jI x :: st) n h nc ns Q := by
  intro p l e s m args below meth c base b D cA SC H locs lsS Z C G hW hS hl hZ
  exact lv_iushr C.1 C.2.1 hd hv (k p l e s m args below meth c base b D cA SC H locs lsS Z C G hW hS hl hZ)

theorem j_lshl {me : jM} {pc : Nat} {ls st : List jV} {n : Nat} {h : Int → jE} {nc ns : Nat} {Q : Option jV → Nat → (Int → jE) → Prop} {x y : Int} (v : Int) (hd : decode me.2.2.1 pc = .ok (.lshl, 1)) (hv : Int64.ofInt x <<< ((Int32.ofInt y).toInt64 &&& 63) = Int64.ofInt v) (k : jJ me (pc + 1) ls (jL v :: st) n h nc ns Q) : jJ me (pc) ls (jI y :: jL x :: st) n h nc ns Q := by
  intro p l e s m args below meth c base b D cA SC H locs lsS Z C G hW hS hl hZ
  exact lv_lshl C.1 C.2.1 hd hv (k p l e s m args below meth c base b D cA SC H locs lsS Z C G hW hS hl hZ)

theorem j_lshr {me : jM} {pc : Nat} {ls st : List jV} {n : Nat} {h : Int → jE} {nc ns : Nat} {Q : Option jV → Nat → (Int → jE) → Prop} {x y : Int} (v : Int) (hd : decode me.2.2.1 pc = .ok (.lshr, 1)) (hv : Int64.ofInt x >>> ((Int32.ofInt y).toInt64 &&& 63) = Int64.ofInt v) (k : jJ me (pc + 1) ls (jL v :: st) n h nc ns Q) : jJ me (pc) ls (jI y :: jL x :: st) n h nc ns Q := by
  intro p l e s m args below meth c base b D cA SC H locs lsS Z C G hW hS hl hZ
  exact lv_lshr C.1 C.2.1 hd hv (k p l e s m args below meth c base b D cA SC H locs lsS Z C G hW hS hl hZ)

theorem jn0_32 {y : Int} (h0 : 0 < y) (h : jr32 y) : ¬ Int32.ofInt y = 0 := fun q => by
  have : Int32.ofInt y = Int32.ofInt 0 := q
  rw [j32_eq h jr32_0] at this
  omega
theorem jn0_64 {y : Int} (h0 : 0 < y) (h : jr64 y) : ¬ Int64.ofInt y = 0 := fun q => by
  have : Int64.ofInt y = Int64.ofInt 0 := q
  rw [j64_eq h ⟨by omega, by omega⟩] at this
  omega
theorem jdiv32 {x y : Int} (hx : 0 ≤ x ∧ x ≤ 2147483647) (hy : 0 < y ∧ y ≤ 2147483647) : Int32.ofInt x / Int32.ofInt y = Int32.ofInt (x / y) := by
  rw [← Int.tdiv_eq_ediv_of_nonneg hx.1, Int32.ofInt_tdiv (by rw [show Int32.minValue.toInt = -2147483648 from rfl]; omega) (by rw [show Int32.maxValue.toInt = 2147483647 from rfl]; omega) (by rw [show Int32.minValue.toInt = -2147483648 from rfl]; omega) (by rw [show Int32.maxValue.toInt = 2147483647 from rfl]; omega)]
theorem jdiv64 {x y : Int} (hx : 0 ≤ x ∧ x ≤ 9223372036854775807) (hy : 0 < y ∧ y ≤ 9223372036854775807) : Int64.ofInt x / Int64.ofInt y = Int64.ofInt (x / y) := by
  rw [← Int.tdiv_eq_ediv_of_nonneg hx.1, Int64.ofInt_tdiv (by rw [show Int64.minValue.toInt = -9223372036854775808 from rfl]; omega) (by rw [show Int64.maxValue.toInt = 9223372036854775807 from rfl]; omega) (by rw [show Int64.minValue.toInt = -9223372036854775808 from rfl]; omega) (by rw [show Int64.maxValue.toInt = 9223372036854775807 from rfl]; omega)]
theorem jmod_e (x y : Int) : x - x / y * y = x % y := by rw [Int.emod_def, Int.mul_comm]

theorem j_idiv {me : jM} {pc : Nat} {ls st : List jV} {n : Nat} {h : Int → jE} {nc ns : Nat} {Q : Option jV → Nat → (Int → jE) → Prop} {x y : Int} (hd : decode me.2.2.1 pc = .ok (.idiv, 1)) (hxy : (0 ≤ x ∧ x ≤ 2147483647) ∧ (0 < y ∧ y ≤ 2147483647)) (k : jJ me (pc + 1) ls (jI (x / y) :: st) n h nc ns Q) : jJ me (pc) ls (jI y :: jI x :: st) n h nc ns Q := by
  intro p l e s m args below meth c base b D cA SC H locs lsS Z C G hW hS hl hZ
  refine lv_idiv C.1 C.2.1 hd (jn0_32 hxy.2.1 ⟨by have := hxy.2.1; omega, hxy.2.2⟩) ?_
  rw [jdiv32 hxy.1 hxy.2]
  exact k p l e s m args below meth c base b D cA SC H locs lsS Z C G hW hS hl hZ

theorem j_irem {me : jM} {pc : Nat} {ls st : List jV} {n : Nat} {h : Int → jE} {nc ns : Nat} {Q : Option jV → Nat → (Int → jE) → Prop} {x y : Int} (hd : decode me.2.2.1 pc = .ok (.irem, 1)) (hxy : (0 ≤ x ∧ x ≤ 2147483647) ∧ (0 < y ∧ y ≤ 2147483647)) (k : jJ me (pc + 1) ls (jI (x % y) :: st) n h nc ns Q) : jJ me (pc) ls (jI y :: jI x :: st) n h nc ns Q := by
  intro p l e s m args below meth c base b D cA SC H locs lsS Z C G hW hS hl hZ
  refine lv_irem C.1 C.2.1 hd (jn0_32 hxy.2.1 ⟨by have := hxy.2.1; omega, hxy.2.2⟩) ?_
  rw [jdiv32 hxy.1 hxy.2, ← Int32.ofInt_mul, ← Int32.ofInt_sub, jmod_e]
  exact k p l e s m args below meth c base b D cA SC H locs lsS Z C G hW hS hl hZ

theorem j_ldiv {me : jM} {pc : Nat} {ls st : List jV} {n : Nat} {h : Int → jE} {nc ns : Nat} {Q : Option jV → Nat → (Int → jE) → Prop} {x y : Int} (hd : decode me.2.2.1 pc = .ok (.ldiv, 1)) (hxy : (0 ≤ x ∧ x ≤ 9223372036854775807) ∧ (0 < y ∧ y ≤ 9223372036854775807)) (k : jJ me (pc + 1) ls (jL (x / y) :: st) n h nc ns Q) : jJ me (pc) ls (jL y :: jL x :: st) n h nc ns Q := by
  intro p l e s m args below meth c base b D cA SC H locs lsS Z C G hW hS hl hZ
  refine lv_ldiv C.1 C.2.1 hd (jn0_64 hxy.2.1 ⟨by have := hxy.2.1; omega, hxy.2.2⟩) ?_
  rw [jdiv64 hxy.1 hxy.2]
  exact k p l e s m args below meth c base b D cA SC H locs lsS Z C G hW hS hl hZ

theorem j_lrem {me : jM} {pc : Nat} {ls st : List jV} {n : Nat} {h : Int → jE} {nc ns : Nat} {Q : Option jV → Nat → (Int → jE) → Prop} {x y : Int} (hd : decode me.2.2.1 pc = .ok (.lrem, 1)) (hxy : (0 ≤ x ∧ x ≤ 9223372036854775807) ∧ (0 < y ∧ y ≤ 9223372036854775807)) (k : jJ me (pc + 1) ls (jL (x % y) :: st) n h nc ns Q) : jJ me (pc) ls (jL y :: jL x :: st) n h nc ns Q := by
  intro p l e s m args below meth c base b D cA SC H locs lsS Z C G hW hS hl hZ
  refine lv_lrem C.1 C.2.1 hd (jn0_64 hxy.2.1 ⟨by have := hxy.2.1; omega, hxy.2.2⟩) ?_
  rw [jdiv64 hxy.1 hxy.2, ← Int64.ofInt_mul, ← Int64.ofInt_sub, jmod_e]
  exact k p l e s m args below meth c base b D cA SC H locs lsS Z C G hW hS hl hZ

theorem j_i2lE {x : Int} (h : jr32 x) : (Int32.ofInt x).toInt64 = Int64.ofInt x := by rw [← Int64.toInt_inj, Int32.toInt_toInt64, j32T h, j64T ⟨by have := h.1; omega, by have := h.2; omega⟩]
theorem j_l2iE (x : Int) : (Int64.ofInt x).toInt32 = Int32.ofInt x := Int64.toInt32_ofInt

theorem j_i2l {me : jM} {pc : Nat} {ls st : List jV} {n : Nat} {h : Int → jE} {nc ns : Nat} {Q : Option jV → Nat → (Int → jE) → Prop} {x : Int} (hd : decode me.2.2.1 pc = .ok (.i2l, 1)) (hx : jr32 x) (k : jJ me (pc + 1) ls (jL x :: st) n h nc ns Q) : jJ me (pc) ls (jI x :: st) n h nc ns Q := by
  intro p l e s m args below meth c base b D cA SC H locs lsS Z C G hW hS hl hZ
  exact lv_i2l C.1 C.2.1 hd (j_i2lE hx) (k p l e s m args below meth c base b D cA SC H locs lsS Z C G hW hS hl hZ)

theorem j_l2i {me : jM} {pc : Nat} {ls st : List jV} {n : Nat} {h : Int → jE} {nc ns : Nat} {Q : Option jV → Nat → (Int → jE) → Prop} {x : Int} (hd : decode me.2.2.1 pc = .ok (.l2i, 1)) (k : jJ me (pc + 1) ls (jI x :: st) n h nc ns Q) : jJ me (pc) ls (jL x :: st) n h nc ns Q := by
  intro p l e s m args below meth c base b D cA SC H locs lsS Z C G hW hS hl hZ
  exact lv_l2i C.1 C.2.1 hd (j_l2iE x) (k p l e s m args below meth c base b D cA SC H locs lsS Z C G hW hS hl hZ)

theorem jcat1 {base b : Nat} {v : jV} (h : match v with | .inr (.inl _) => False | _ => True) : (jvv base b v).category = 1 := by
  obtain x | x | x | x := v
  · rfl
  · exact h.elim
  · cases x <;> rfl
  · rfl
def jc1 (v : jV) : Bool := match v with | .inr (.inl _) => false | _ => true
theorem jc1_cat {base b : Nat} {v : jV} (h : jc1 v = true) : (jvv base b v).category = 1 := by
  obtain x | x | x | x := v
  · rfl
  · cases h
  · cases x <;> rfl
  · rfl

theorem j_dup {me : jM} {pc : Nat} {ls st : List jV} {n : Nat} {h : Int → jE} {nc ns : Nat} {Q : Option jV → Nat → (Int → jE) → Prop} {v : jV} (hd : decode me.2.2.1 pc = .ok (.dup, 1)) (hv : jc1 v = true) (k : jJ me (pc + 1) ls (v :: v :: st) n h nc ns Q) : jJ me (pc) ls (v :: st) n h nc ns Q := by
  intro p l e s m args below meth c base b D cA SC H locs lsS Z C G hW hS hl hZ
  exact lv_dup C.1 C.2.1 hd (jc1_cat hv) (k p l e s m args below meth c base b D cA SC H locs lsS Z C G hW hS hl hZ)

theorem j_dup_x1 {me : jM} {pc : Nat} {ls st : List jV} {n : Nat} {h : Int → jE} {nc ns : Nat} {Q : Option jV → Nat → (Int → jE) → Prop} {v w : jV} (hd : decode me.2.2.1 pc = .ok (.dup_x1, 1)) (hv : (jc1 v && jc1 w) = true) (k : jJ me (pc + 1) ls (v :: w :: v :: st) n h nc ns Q) : jJ me (pc) ls (v :: w :: st) n h nc ns Q := by
  intro p l e s m args below meth c base b D cA SC H locs lsS Z C G hW hS hl hZ
  rw [Bool.and_eq_true] at hv
  exact lv_dup_x1 C.1 C.2.1 hd (jc1_cat hv.1) (jc1_cat hv.2) (k p l e s m args below meth c base b D cA SC H locs lsS Z C G hW hS hl hZ)

theorem j_dup2 {me : jM} {pc : Nat} {ls st : List jV} {n : Nat} {h : Int → jE} {nc ns : Nat} {Q : Option jV → Nat → (Int → jE) → Prop} {v w : jV} (hd : decode me.2.2.1 pc = .ok (.dup2, 1)) (hv : (jc1 v && jc1 w) = true) (k : jJ me (pc + 1) ls (v :: w :: v :: w :: st) n h nc ns Q) : jJ me (pc) ls (v :: w :: st) n h nc ns Q := by
  intro p l e s m args below meth c base b D cA SC H locs lsS Z C G hW hS hl hZ
  rw [Bool.and_eq_true] at hv
  exact lv_dup2_11 C.1 C.2.1 hd (jc1_cat hv.1) (jc1_cat hv.2) (k p l e s m args below meth c base b D cA SC H locs lsS Z C G hW hS hl hZ)

theorem j_icmp_eq {me : jM} {pc : Nat} {ls st : List jV} {n : Nat} {h : Int → jE} {nc ns : Nat} {Q : Option jV → Nat → (Int → jE) → Prop} {x y off : Int} (tgt : Nat) (hd : decode me.2.2.1 pc = .ok (.if_icmp .eq off, 3)) (ht : (pc : Int) + off = (tgt : Int)) (hx : jr32 x) (hy : jr32 y) (kt : x = y → jJ me tgt ls st n h nc ns Q) (kf : ¬ (x = y) → jJ me (pc + 3) ls st n h nc ns Q) : jJ me (pc) ls (jI y :: jI x :: st) n h nc ns Q := by
  intro p l e s m args below meth c base b D cA SC H locs lsS Z C G hW hS hl hZ
  exact lv_icmp_eq C.1 C.2.1 hd ht (fun q => kt ((j32_eq hx hy).mp q) p l e s m args below meth c base b D cA SC H locs lsS Z C G hW hS hl hZ) (fun q => kf (fun q2 => q ((j32_eq hx hy).mpr q2)) p l e s m args below meth c base b D cA SC H locs lsS Z C G hW hS hl hZ)

theorem j_icmp_ne {me : jM} {pc : Nat} {ls st : List jV} {n : Nat} {h : Int → jE} {nc ns : Nat} {Q : Option jV → Nat → (Int → jE) → Prop} {x y off : Int} (tgt : Nat) (hd : decode me.2.2.1 pc = .ok (.if_icmp .ne off, 3)) (ht : (pc : Int) + off = (tgt : Int)) (hx : jr32 x) (hy : jr32 y) (kt : x ≠ y → jJ me tgt ls st n h nc ns Q) (kf : x = y → jJ me (pc + 3) ls st n h nc ns Q) : jJ me (pc) ls (jI y :: jI x :: st) n h nc ns Q := by
  intro p l e s m args below meth c base b D cA SC H locs lsS Z C G hW hS hl hZ
  exact lv_icmp_ne C.1 C.2.1 hd ht (fun q => kt (fun q2 => q ((j32_eq hx hy).mpr q2)) p l e s m args below meth c base b D cA SC H locs lsS Z C G hW hS hl hZ) (fun q => kf ((j32_eq hx hy).mp q) p l e s m args below meth c base b D cA SC H locs lsS Z C G hW hS hl hZ)

theorem j_icmp_lt {me : jM} {pc : Nat} {ls st : List jV} {n : Nat} {h : Int → jE} {nc ns : Nat} {Q : Option jV → Nat → (Int → jE) → Prop} {x y off : Int} (tgt : Nat) (hd : decode me.2.2.1 pc = .ok (.if_icmp .lt off, 3)) (ht : (pc : Int) + off = (tgt : Int)) (hx : jr32 x) (hy : jr32 y) (kt : x < y → jJ me tgt ls st n h nc ns Q) (kf : ¬ (x < y) → jJ me (pc + 3) ls st n h nc ns Q) : jJ me (pc) ls (jI y :: jI x :: st) n h nc ns Q := by
  intro p l e s m args below meth c base b D cA SC H locs lsS Z C G hW hS hl hZ
  exact lv_icmp_lt C.1 C.2.1 hd ht (fun q => kt ((j32_lt hx hy).mp q) p l e s m args below meth c base b D cA SC H locs lsS Z C G hW hS hl hZ) (fun q => kf (fun q2 => q ((j32_lt hx hy).mpr q2)) p l e s m args below meth c base b D cA SC H locs lsS Z C G hW hS hl hZ)

theorem j_icmp_ge {me : jM} {pc : Nat} {ls st : List jV} {n : Nat} {h : Int → jE} {nc ns : Nat} {Q : Option jV → Nat → (Int → jE) → Prop} {x y off : Int} (tgt : Nat) (hd : decode me.2.2.1 pc = .ok (.if_icmp .ge off, 3)) (ht : (pc : Int) + off = (tgt : Int)) (hx : jr32 x) (hy : jr32 y) (kt : y ≤ x → jJ me tgt ls st n h nc ns Q) (kf : ¬ (y ≤ x) → jJ me (pc + 3) ls st n h nc ns Q) : jJ me (pc) ls (jI y :: jI x :: st) n h nc ns Q := by
  intro p l e s m args below meth c base b D cA SC H locs lsS Z C G hW hS hl hZ
  exact lv_icmp_ge C.1 C.2.1 hd ht (fun q => kt ((j32_le hy hx).mp q) p l e s m args below meth c base b D cA SC H locs lsS Z C G hW hS hl hZ) (fun q => kf (fun q2 => q ((j32_le hy hx).mpr q2)) p l e s m args below meth c base b D cA SC H locs lsS Z C G hW hS hl hZ)

theorem j_icmp_gt {me : jM} {pc : Nat} {ls st : List jV} {n : Nat} {h : Int → jE} {nc ns : Nat} {Q : Option jV → Nat → (Int → jE) → Prop} {x y off : Int} (tgt : Nat) (hd : decode me.2.2.1 pc = .ok (.if_icmp .gt off, 3)) (ht : (pc : Int) + off = (tgt : Int)) (hx : jr32 x) (hy : jr32 y) (kt : y < x → jJ me tgt ls st n h nc ns Q) (kf : ¬ (y < x) → jJ me (pc + 3) ls st n h nc ns Q) : jJ me (pc) ls (jI y :: jI x :: st) n h nc ns Q := by
  intro p l e s m args below meth c base b D cA SC H locs lsS Z C G hW hS hl hZ
  exact lv_icmp_gt C.1 C.2.1 hd ht (fun q => kt ((j32_lt hy hx).mp q) p l e s m args below meth c base b D cA SC H locs lsS Z C G hW hS hl hZ) (fun q => kf (fun q2 => q ((j32_lt hy hx).mpr q2)) p l e s m args below meth c base b D cA SC H locs lsS Z C G hW hS hl hZ)

theorem j_icmp_le {me : jM} {pc : Nat} {ls st : List jV} {n : Nat} {h : Int → jE} {nc ns : Nat} {Q : Option jV → Nat → (Int → jE) → Prop} {x y off : Int} (tgt : Nat) (hd : decode me.2.2.1 pc = .ok (.if_icmp .le off, 3)) (ht : (pc : Int) + off = (tgt : Int)) (hx : jr32 x) (hy : jr32 y) (kt : x ≤ y → jJ me tgt ls st n h nc ns Q) (kf : ¬ (x ≤ y) → jJ me (pc + 3) ls st n h nc ns Q) : jJ me (pc) ls (jI y :: jI x :: st) n h nc ns Q := by
  intro p l e s m args below meth c base b D cA SC H locs lsS Z C G hW hS hl hZ
  exact lv_icmp_le C.1 C.2.1 hd ht (fun q => kt ((j32_le hx hy).mp q) p l e s m args below meth c base b D cA SC H locs lsS Z C G hW hS hl hZ) (fun q => kf (fun q2 => q ((j32_le hx hy).mpr q2)) p l e s m args below meth c base b D cA SC H locs lsS Z C G hW hS hl hZ)

theorem j_if_eq {me : jM} {pc : Nat} {ls st : List jV} {n : Nat} {h : Int → jE} {nc ns : Nat} {Q : Option jV → Nat → (Int → jE) → Prop} {x off : Int} (tgt : Nat) (hd : decode me.2.2.1 pc = .ok (.ifCond .eq off, 3)) (ht : (pc : Int) + off = (tgt : Int)) (hx : jr32 x) (kt : x = 0 → jJ me tgt ls st n h nc ns Q) (kf : ¬ (x = 0) → jJ me (pc + 3) ls st n h nc ns Q) : jJ me (pc) ls (jI x :: st) n h nc ns Q := by
  intro p l e s m args below meth c base b D cA SC H locs lsS Z C G hW hS hl hZ
  exact lv_if_eq C.1 C.2.1 hd ht (fun q => kt ((j32_eq hx jr32_0).mp q) p l e s m args below meth c base b D cA SC H locs lsS Z C G hW hS hl hZ) (fun q => kf (fun q2 => q ((j32_eq hx jr32_0).mpr q2)) p l e s m args below meth c base b D cA SC H locs lsS Z C G hW hS hl hZ)

theorem j_if_ne {me : jM} {pc : Nat} {ls st : List jV} {n : Nat} {h : Int → jE} {nc ns : Nat} {Q : Option jV → Nat → (Int → jE) → Prop} {x off : Int} (tgt : Nat) (hd : decode me.2.2.1 pc = .ok (.ifCond .ne off, 3)) (ht : (pc : Int) + off = (tgt : Int)) (hx : jr32 x) (kt : x ≠ 0 → jJ me tgt ls st n h nc ns Q) (kf : x = 0 → jJ me (pc + 3) ls st n h nc ns Q) : jJ me (pc) ls (jI x :: st) n h nc ns Q := by
  intro p l e s m args below meth c base b D cA SC H locs lsS Z C G hW hS hl hZ
  exact lv_if_ne C.1 C.2.1 hd ht (fun q => kt (fun q2 => q ((j32_eq hx jr32_0).mpr q2)) p l e s m args below meth c base b D cA SC H locs lsS Z C G hW hS hl hZ) (fun q => kf ((j32_eq hx jr32_0).mp q) p l e s m args below meth c base b D cA SC H locs lsS Z C G hW hS hl hZ)

theorem j_if_lt {me : jM} {pc : Nat} {ls st : List jV} {n : Nat} {h : Int → jE} {nc ns : Nat} {Q : Option jV → Nat → (Int → jE) → Prop} {x off : Int} (tgt : Nat) (hd : decode me.2.2.1 pc = .ok (.ifCond .lt off, 3)) (ht : (pc : Int) + off = (tgt : Int)) (hx : jr32 x) (kt : x < 0 → jJ me tgt ls st n h nc ns Q) (kf : ¬ (x < 0) → jJ me (pc + 3) ls st n h nc ns Q) : jJ me (pc) ls (jI x :: st) n h nc ns Q := by
  intro p l e s m args below meth c base b D cA SC H locs lsS Z C G hW hS hl hZ
  exact lv_if_lt C.1 C.2.1 hd ht (fun q => kt ((j32_lt hx jr32_0).mp q) p l e s m args below meth c base b D cA SC H locs lsS Z C G hW hS hl hZ) (fun q => kf (fun q2 => q ((j32_lt hx jr32_0).mpr q2)) p l e s m args below meth c base b D cA SC H locs lsS Z C G hW hS hl hZ)

theorem j_if_ge {me : jM} {pc : Nat} {ls st : List jV} {n : Nat} {h : Int → jE} {nc ns : Nat} {Q : Option jV → Nat → (Int → jE) → Prop} {x off : Int} (tgt : Nat) (hd : decode me.2.2.1 pc = .ok (.ifCond .ge off, 3)) (ht : (pc : Int) + off = (tgt : Int)) (hx : jr32 x) (kt : 0 ≤ x → jJ me tgt ls st n h nc ns Q) (kf : ¬ (0 ≤ x) → jJ me (pc + 3) ls st n h nc ns Q) : jJ me (pc) ls (jI x :: st) n h nc ns Q := by
  intro p l e s m args below meth c base b D cA SC H locs lsS Z C G hW hS hl hZ
  exact lv_if_ge C.1 C.2.1 hd ht (fun q => kt ((j32_le jr32_0 hx).mp q) p l e s m args below meth c base b D cA SC H locs lsS Z C G hW hS hl hZ) (fun q => kf (fun q2 => q ((j32_le jr32_0 hx).mpr q2)) p l e s m args below meth c base b D cA SC H locs lsS Z C G hW hS hl hZ)

theorem j_if_gt {me : jM} {pc : Nat} {ls st : List jV} {n : Nat} {h : Int → jE} {nc ns : Nat} {Q : Option jV → Nat → (Int → jE) → Prop} {x off : Int} (tgt : Nat) (hd : decode me.2.2.1 pc = .ok (.ifCond .gt off, 3)) (ht : (pc : Int) + off = (tgt : Int)) (hx : jr32 x) (kt : 0 < x → jJ me tgt ls st n h nc ns Q) (kf : ¬ (0 < x) → jJ me (pc + 3) ls st n h nc ns Q) : jJ me (pc) ls (jI x :: st) n h nc ns Q := by
  intro p l e s m args below meth c base b D cA SC H locs lsS Z C G hW hS hl hZ
  exact lv_if_gt C.1 C.2.1 hd ht (fun q => kt ((j32_lt jr32_0 hx).mp q) p l e s m args below meth c base b D cA SC H locs lsS Z C G hW hS hl hZ) (fun q => kf (fun q2 => q ((j32_lt jr32_0 hx).mpr q2)) p l e s m args below meth c base b D cA SC H locs lsS Z C G hW hS hl hZ)

theorem j_if_le {me : jM} {pc : Nat} {ls st : List jV} {n : Nat} {h : Int → jE} {nc ns : Nat} {Q : Option jV → Nat → (Int → jE) → Prop} {x off : Int} (tgt : Nat) (hd : decode me.2.2.1 pc = .ok (.ifCond .le off, 3)) (ht : (pc : Int) + off = (tgt : Int)) (hx : jr32 x) (kt : x ≤ 0 → jJ me tgt ls st n h nc ns Q) (kf : ¬ (x ≤ 0) → jJ me (pc + 3) ls st n h nc ns Q) : jJ me (pc) ls (jI x :: st) n h nc ns Q := by
  intro p l e s m args below meth c base b D cA SC H locs lsS Z C G hW hS hl hZ
  exact lv_if_le C.1 C.2.1 hd ht (fun q => kt ((j32_le hx jr32_0).mp q) p l e s m args below meth c base b D cA SC H locs lsS Z C G hW hS hl hZ) (fun q => kf (fun q2 => q ((j32_le hx jr32_0).mpr q2)) p l e s m args below meth c base b D cA SC H locs lsS Z C G hW hS hl hZ)

theorem j_goto {me : jM} {pc : Nat} {ls st : List jV} {n : Nat} {h : Int → jE} {nc ns : Nat} {Q : Option jV → Nat → (Int → jE) → Prop} {off : Int} (tgt : Nat) (hd : decode me.2.2.1 pc = .ok (.goto off, 3)) (ht : (pc : Int) + off = (tgt : Int)) (k : jJ me tgt ls st n h nc ns Q) : jJ me pc ls st n h nc ns Q := by
  intro p l e s m args below meth c base b D cA SC H locs lsS Z C G hW hS hl hZ
  exact lv_goto C.1 C.2.1 hd ht (k p l e s m args below meth c base b D cA SC H locs lsS Z C G hW hS hl hZ)

def jcmp (x y : Int) : Int := if y < x then 1 else if x = y then 0 else -1
theorem jcmpE {x y : Int} (hx : jr64 x) (hy : jr64 y) : lg_cmp (Int64.ofInt x) (Int64.ofInt y) = Int32.ofInt (jcmp x y) := by
  unfold lg_cmp jcmp
  simp only [GT.gt, j64_lt hy hx, j64_eq hx hy]
  split
  · rfl
  · split <;> rfl
theorem jcmp_lt {x y : Int} : jcmp x y < 0 ↔ x < y := by unfold jcmp; split <;> (try split) <;> omega
theorem jcmp_gt {x y : Int} : 0 < jcmp x y ↔ y < x := by unfold jcmp; split <;> (try split) <;> omega
theorem jcmp_le {x y : Int} : jcmp x y ≤ 0 ↔ x ≤ y := by unfold jcmp; split <;> (try split) <;> omega
theorem jcmp_ge {x y : Int} : 0 ≤ jcmp x y ↔ y ≤ x := by unfold jcmp; split <;> (try split) <;> omega
theorem jcmp_eq {x y : Int} : jcmp x y = 0 ↔ x = y := by unfold jcmp; split <;> (try split) <;> omega
theorem jcmp_32 (x y : Int) : jr32 (jcmp x y) := by unfold jcmp jr32; split <;> (try split) <;> omega

theorem j_lcmp {me : jM} {pc : Nat} {ls st : List jV} {n : Nat} {h : Int → jE} {nc ns : Nat} {Q : Option jV → Nat → (Int → jE) → Prop} {x y : Int} (hd : decode me.2.2.1 pc = .ok (.lcmp, 1)) (hx : jr64 x) (hy : jr64 y) (k : jJ me (pc + 1) ls (jI (jcmp x y) :: st) n h nc ns Q) : jJ me (pc) ls (jL y :: jL x :: st) n h nc ns Q := by
  intro p l e s m args below meth c base b D cA SC H locs lsS Z C G hW hS hl hZ
  refine W.lcmp C.1 C.2.1 hd ?_
  rw [jcmpE hx hy]
  exact k p l e s m args below meth c base b D cA SC H locs lsS Z C G hW hS hl hZ

theorem j_lcmp_same {me : jM} {pc : Nat} {ls st : List jV} {n : Nat} {h : Int → jE} {nc ns : Nat} {Q : Option jV → Nat → (Int → jE) → Prop} {x y : Int} (hd : decode me.2.2.1 pc = .ok (.lcmp, 1)) (hxy : x = y) (k : jJ me (pc + 1) ls (jI 0 :: st) n h nc ns Q) : jJ me (pc) ls (jL y :: jL x :: st) n h nc ns Q := by
  intro p l e s m args below meth c base b D cA SC H locs lsS Z C G hW hS hl hZ
  subst hxy
  refine W.lcmp C.1 C.2.1 hd ?_
  rw [show lg_cmp (Int64.ofInt x) (Int64.ofInt x) = Int32.ofInt 0 by simp [lg_cmp]]
  exact k p l e s m args below meth c base b D cA SC H locs lsS Z C G hW hS hl hZ

theorem j_lcmp_if_lt {me : jM} {pc : Nat} {ls st : List jV} {n : Nat} {h : Int → jE} {nc ns : Nat} {Q : Option jV → Nat → (Int → jE) → Prop} {x y off : Int} (tgt : Nat) (hd : decode me.2.2.1 pc = .ok (.lcmp, 1)) (hd2 : decode me.2.2.1 (pc + 1) = .ok (.ifCond .lt off, 3)) (ht : ((pc + 1 : Nat) : Int) + off = (tgt : Int)) (hx : jr64 x) (hy : jr64 y) (kt : x < y → jJ me tgt ls st n h nc ns Q) (kf : ¬ (x < y) → jJ me (pc + 4) ls st n h nc ns Q) : jJ me (pc) ls (jL y :: jL x :: st) n h nc ns Q :=
  j_lcmp hd hx hy (j_if_lt tgt hd2 ht (jcmp_32 x y) (fun q => kt (jcmp_lt.mp q)) (fun q => kf (fun q2 => q (jcmp_lt.mpr q2))))
theorem j_lcmp_if_gt {me : jM} {pc : Nat} {ls st : List jV} {n : Nat} {h : Int → jE} {nc ns : Nat} {Q : Option jV → Nat → (Int → jE) → Prop} {x y off : Int} (tgt : Nat) (hd : decode me.2.2.1 pc = .ok (.lcmp, 1)) (hd2 : decode me.2.2.1 (pc + 1) = .ok (.ifCond .gt off, 3)) (ht : ((pc + 1 : Nat) : Int) + off = (tgt : Int)) (hx : jr64 x) (hy : jr64 y) (kt : y < x → jJ me tgt ls st n h nc ns Q) (kf : ¬ (y < x) → jJ me (pc + 4) ls st n h nc ns Q) : jJ me (pc) ls (jL y :: jL x :: st) n h nc ns Q :=
  j_lcmp hd hx hy (j_if_gt tgt hd2 ht (jcmp_32 x y) (fun q => kt (jcmp_gt.mp q)) (fun q => kf (fun q2 => q (jcmp_gt.mpr q2))))
theorem j_lcmp_if_le {me : jM} {pc : Nat} {ls st : List jV} {n : Nat} {h : Int → jE} {nc ns : Nat} {Q : Option jV → Nat → (Int → jE) → Prop} {x y off : Int} (tgt : Nat) (hd : decode me.2.2.1 pc = .ok (.lcmp, 1)) (hd2 : decode me.2.2.1 (pc + 1) = .ok (.ifCond .le off, 3)) (ht : ((pc + 1 : Nat) : Int) + off = (tgt : Int)) (hx : jr64 x) (hy : jr64 y) (kt : x ≤ y → jJ me tgt ls st n h nc ns Q) (kf : ¬ (x ≤ y) → jJ me (pc + 4) ls st n h nc ns Q) : jJ me (pc) ls (jL y :: jL x :: st) n h nc ns Q :=
  j_lcmp hd hx hy (j_if_le tgt hd2 ht (jcmp_32 x y) (fun q => kt (jcmp_le.mp q)) (fun q => kf (fun q2 => q (jcmp_le.mpr q2))))
theorem j_lcmp_if_ge {me : jM} {pc : Nat} {ls st : List jV} {n : Nat} {h : Int → jE} {nc ns : Nat} {Q : Option jV → Nat → (Int → jE) → Prop} {x y off : Int} (tgt : Nat) (hd : decode me.2.2.1 pc = .ok (.lcmp, 1)) (hd2 : decode me.2.2.1 (pc + 1) = .ok (.ifCond .ge off, 3)) (ht : ((pc + 1 : Nat) : Int) + off = (tgt : Int)) (hx : jr64 x) (hy : jr64 y) (kt : y ≤ x → jJ me tgt ls st n h nc ns Q) (kf : ¬ (y ≤ x) → jJ me (pc + 4) ls st n h nc ns Q) : jJ me (pc) ls (jL y :: jL x :: st) n h nc ns Q :=
  j_lcmp hd hx hy (j_if_ge tgt hd2 ht (jcmp_32 x y) (fun q => kt (jcmp_ge.mp q)) (fun q => kf (fun q2 => q (jcmp_ge.mpr q2))))
theorem j_lcmp_if_eq {me : jM} {pc : Nat} {ls st : List jV} {n : Nat} {h : Int → jE} {nc ns : Nat} {Q : Option jV → Nat → (Int → jE) → Prop} {x y off : Int} (tgt : Nat) (hd : decode me.2.2.1 pc = .ok (.lcmp, 1)) (hd2 : decode me.2.2.1 (pc + 1) = .ok (.ifCond .eq off, 3)) (ht : ((pc + 1 : Nat) : Int) + off = (tgt : Int)) (hx : jr64 x) (hy : jr64 y) (kt : x = y → jJ me tgt ls st n h nc ns Q) (kf : ¬ (x = y) → jJ me (pc + 4) ls st n h nc ns Q) : jJ me (pc) ls (jL y :: jL x :: st) n h nc ns Q :=
  j_lcmp hd hx hy (j_if_eq tgt hd2 ht (jcmp_32 x y) (fun q => kt (jcmp_eq.mp q)) (fun q => kf (fun q2 => q (jcmp_eq.mpr q2))))
theorem j_lcmp_if_ne {me : jM} {pc : Nat} {ls st : List jV} {n : Nat} {h : Int → jE} {nc ns : Nat} {Q : Option jV → Nat → (Int → jE) → Prop} {x y off : Int} (tgt : Nat) (hd : decode me.2.2.1 pc = .ok (.lcmp, 1)) (hd2 : decode me.2.2.1 (pc + 1) = .ok (.ifCond .ne off, 3)) (ht : ((pc + 1 : Nat) : Int) + off = (tgt : Int)) (hx : jr64 x) (hy : jr64 y) (kt : x ≠ y → jJ me tgt ls st n h nc ns Q) (kf : x = y → jJ me (pc + 4) ls st n h nc ns Q) : jJ me (pc) ls (jL y :: jL x :: st) n h nc ns Q :=
  j_lcmp hd hx hy (j_if_ne tgt hd2 ht (jcmp_32 x y) (fun q => kt (fun z => q (jcmp_eq.mpr z))) (fun q => kf (jcmp_eq.mp q)))
theorem j_ireturn {me : jM} {pc : Nat} {ls st : List jV} {n : Nat} {h : Int → jE} {nc ns : Nat} {Q : Option jV → Nat → (Int → jE) → Prop} {x : Int} (hd : decode me.2.2.1 pc = .ok (.ireturn, 1)) (hr : me.2.2.2.2.1 = some .int) (hc : nc ≤ me.2.2.2.2.2.cells ∧ ns ≤ me.2.2.2.2.2.slots) (hq : Q (some (jI x)) n h) : jJ me pc ls [jI x] n h nc ns Q := by
  intro p l e s m args below meth c base b D cA SC H locs lsS Z C G hW hS hl hZ
  exact W.widen hc.1 hc.2 (hZ (some (jI x)) n h H locs pc lsS hq (Or.inl ⟨x, rfl, hd, hr⟩) hW hS)
theorem j_zreturn {me : jM} {pc : Nat} {ls st : List jV} {n : Nat} {h : Int → jE} {nc ns : Nat} {Q : Option jV → Nat → (Int → jE) → Prop} {x : Int} (hd : decode me.2.2.1 pc = .ok (.ireturn, 1)) (hr : me.2.2.2.2.1 = some .boolean) (hc : nc ≤ me.2.2.2.2.2.cells ∧ ns ≤ me.2.2.2.2.2.slots) (hx : x = 0 ∨ x = 1) (hq : Q (some (jI x)) n h) : jJ me pc ls [jI x] n h nc ns Q := by
  intro p l e s m args below meth c base b D cA SC H locs lsS Z C G hW hS hl hZ
  exact W.widen hc.1 hc.2 (hZ (some (jI x)) n h H locs pc lsS hq (Or.inr (Or.inl ⟨x, rfl, hd, hr, hx⟩)) hW hS)
theorem j_lreturn {me : jM} {pc : Nat} {ls st : List jV} {n : Nat} {h : Int → jE} {nc ns : Nat} {Q : Option jV → Nat → (Int → jE) → Prop} {x : Int} (hd : decode me.2.2.1 pc = .ok (.lreturn, 1)) (hr : me.2.2.2.2.1 = some .long) (hc : nc ≤ me.2.2.2.2.2.cells ∧ ns ≤ me.2.2.2.2.2.slots) (hq : Q (some (jL x)) n h) : jJ me pc ls [jL x] n h nc ns Q := by
  intro p l e s m args below meth c base b D cA SC H locs lsS Z C G hW hS hl hZ
  exact W.widen hc.1 hc.2 (hZ (some (jL x)) n h H locs pc lsS hq (Or.inr (Or.inr (Or.inl ⟨x, rfl, hd, hr⟩))) hW hS)
theorem j_return {me : jM} {pc : Nat} {ls st : List jV} {n : Nat} {h : Int → jE} {nc ns : Nat} {Q : Option jV → Nat → (Int → jE) → Prop} (hd : decode me.2.2.1 pc = .ok (.return_, 1)) (hr : me.2.2.2.2.1 = none) (hc : nc ≤ me.2.2.2.2.2.cells ∧ ns ≤ me.2.2.2.2.2.slots) (hq : Q none n h) : jJ me pc ls [] n h nc ns Q := by
  intro p l e s m args below meth c base b D cA SC H locs lsS Z C G hW hS hl hZ
  exact W.widen hc.1 hc.2 (hZ none n h H locs pc lsS hq (Or.inr (Or.inr (Or.inr ⟨rfl, hd, hr⟩))) hW hS)

theorem jJ.mono {me : jM} {pc : Nat} {ls st : List jV} {n : Nat} {h : Int → jE} {nc ns : Nat} {Q : Option jV → Nat → (Int → jE) → Prop} {Q2 : Option jV → Nat → (Int → jE) → Prop} (k : jJ me pc ls st n h nc ns Q) (hq : ∀ r n h, Q r n h → Q2 r n h) : jJ me pc ls st n h nc ns Q2 := by
  intro p l e s m args below meth c base b D cA SC H locs lsS Z C G hW hS hl hZ
  exact k p l e s m args below meth c base b D cA SC H locs lsS Z C G hW hS hl (fun r n' h' H' locs' pc' ls' q => hZ r n' h' H' locs' pc' ls' (hq r n' h' q))
