/-! cells: a world's cell read, written, made -/
def jup (h : Int → jE) (k : Int) (c : jE) : Int → jE := fun i => if i = k then c else h i
theorem jW.at {base b : Nat} {D : va_G} {cA : Nat → ClassId} {SC : jE} {n : Nat} {h : Int → jE} {H : Heap} (hW : jW base b D cA SC n h H) {k : Int} (h0 : 0 < k) (h1 : k ≤ n) : va_at D vwCl (jad base b k, jce base b cA (h k)) H := by
  have := hW.2.2 k.toNat (by omega) (by omega)
  rw [show ((k.toNat : Nat) : Int) = k by omega] at this
  exact this
theorem jW.up {base b : Nat} {D : va_G} {cA : Nat → ClassId} {SC : jE} {n : Nat} {h : Int → jE} {H H1 : Heap} (hW : jW base b D cA SC n h H) (hb : b < base) {k : Int} (h0 : 0 < k) (z : H1.size = H.size) (oq : ∀ q : Nat, q ≠ jad base b k → H1[q]? = H[q]?) {c : jE} (he : va_at D vwCl (jad base b k, jce base b cA c) H1) : jW base b D cA SC n (jup h k c) H1 := by
  refine ⟨by rw [z]; exact hW.1, by unfold jup; rw [if_neg (by omega)]; exact hW.2.1, fun k' hk0 hk' => ?_⟩
  by_cases hkk : (k' : Int) = k
  · rw [hkk]
    simp only [jup, if_pos]
    exact he
  · simp only [jup, if_neg hkk]
    exact (hW.2.2 k' hk0 hk').kept (oq _ (fun q => hkk (jad_inj hb h0 (by omega) q)))
theorem jW.push {base b : Nat} {D : va_G} {cA : Nat → ClassId} {SC : jE} {n : Nat} {h : Int → jE} {H H1 : Heap} (hW : jW base b D cA SC n h H) (hb : b < base) (z : H1.size = H.size + 1) (oq : ∀ q : Nat, q < H.size → H1[q]? = H[q]?) {c : jE} (he : va_at D vwCl (H.size, jce base b cA c) H1) : jW base b D cA SC (n + 1) (jup h ((n : Int) + 1) c) H1 := by
  refine ⟨by rw [z, hW.1]; omega, by unfold jup; rw [if_neg (by omega)]; exact hW.2.1, fun k' hk0 hk' => ?_⟩
  by_cases hkk : (k' : Int) = (n : Int) + 1
  · rw [hkk]
    simp only [jup, if_pos]
    rw [jad_pos (by omega), show base + (((n : Int) + 1).toNat - 1) = H.size by rw [hW.1]; omega]
    exact he
  · simp only [jup, if_neg hkk]
    have hat := hW.2.2 k' hk0 (by omega)
    exact hat.kept (oq _ hat.lt)
theorem jsz {base b : Nat} {D : va_G} {cA : Nat → ClassId} {SC : jE} {n : Nat} {h : Int → jE} {H : Heap} (hW : jW base b D cA SC n h H) : jad base b ((n : Int) + 1) = H.size := by
  rw [jad_pos (by omega), hW.1]; omega
theorem jA {base b : Nat} {k : Int} (h0 : 0 < k) : base ≤ jad base b k := by rw [jad_pos h0]; omega
theorem jP1 {D : va_G} {H : Heap} {q : Nat × va_E} (h : va_at D vwCl q H) : va_P D vwCl [q] H := fun k x hx => by
  have hz : k < 1 := (List.getElem?_eq_some_iff.mp hx).1
  rw [show k = 0 by omega] at hx
  cases hx
  exact h
theorem jS.push {base : Nat} {H0 H H1 : Heap} {locs : List Loc} (hS : va_S (fun q => base ≤ q) H0 H locs) (z : H.size ≤ H1.size) (oq : ∀ q : Nat, q < H.size → H1[q]? = H[q]?) : va_S (fun q => base ≤ q) H0 H1 locs :=
  ⟨Nat.le_trans hS.1 z, fun q h1 h2 => (oq q (Nat.lt_of_lt_of_le h1 hS.1)).trans (hS.2.1 q h1 h2), hS.2.2⟩
/-- a field's link: at place idx of own's constants stands field j of class ci -/
def jfd (own : String) (idx ci j : Nat) : Prop := ∃ (C : String) (T : u_T) (N : Nat), vwCl[ci]? = some (C, T, N) ∧ j < N ∧ Cond.fieldLink own idx (T j).1 (T j).2.1 (T j).2.2.1 ∈ jws ∧ ∀ w ∈ u_ws C T N, w ∈ jws
/-- a class's fields: their types, their names apart -/
def jct (ci : Nat) (C : String) (T : u_T) (N : Nat) (ty : Nat → FieldType) : Prop := vwCl[ci]? = some (C, T, N) ∧ (∀ k, k < N → parseFieldDescriptor (T k).2.2.1 = some (ty k)) ∧ (∀ a, a < N → ∀ b, b < N → a ≠ b → (T a).2.1 ≠ (T b).2.1) ∧ ∀ w ∈ u_ws C T N, w ∈ jws

theorem j_get {me : jM} {pc : Nat} {ls st : List jV} {n : Nat} {h : Int → jE} {nc ns : Nat} {Q : Option jV → Nat → (Int → jE) → Prop} {x : Int} {ci idx j : Nat} {fs : List jV} {v : jV} (hd : decode me.2.2.1 pc = .ok (.getfield idx, 3)) (hf : jfd me.1 idx ci j) (hk : h x = .inl (ci, fs)) (hn : 0 < x ∧ x ≤ n) (hv : fs[j]? = some v) (k : jJ me (pc + 3) ls (v :: st) n h nc ns Q) : jJ me pc ls (jR x :: st) n h nc ns Q := by
  intro p l e s m args below meth c base b D cA SC H locs lsS Z C G hW hS hl hZ
  obtain ⟨C0, T, N, hc, hj, hlk, hin⟩ := hf
  have hts := C.2.2.2.2.2.1
  have hat := hW.at hn.1 hn.2
  rw [hk] at hat
  exact va_get C.1 C.2.1 hts hin C.2.2.2.2.1 G.1 (jP1 hat) 0 rfl hc j hj (hts _ hlk) (fun _ q => q) (v := jvv base b v) (by rw [List.getElem?_map, hv]; rfl) hd (k p l e s m args below meth c base b D cA SC H locs lsS Z C G hW hS hl hZ)
theorem j_put {me : jM} {pc : Nat} {ls st : List jV} {n : Nat} {h : Int → jE} {nc ns : Nat} {Q : Option jV → Nat → (Int → jE) → Prop} {x y : Int} {ci idx j : Nat} {fs : List jV} {C0 : String} {T : u_T} {N : Nat} {ty : Nat → FieldType} (hd : decode me.2.2.1 pc = .ok (.putfield idx, 3)) (hct : jct ci C0 T N ty) (hj : j < N) (hlk : Cond.fieldLink me.1 idx (T j).1 (T j).2.1 (T j).2.2.1 ∈ jws) (hfin : (T j).2.2.2 = false) (hty : ty j = .int) (hk : h x = .inl (ci, fs)) (hn : 0 < x ∧ x ≤ n) (hlen : j < fs.length) (k : jJ me (pc + 3) ls st n (jup h x (.inl (ci, fs.set j (jI y)))) nc ns Q) : jJ me pc ls (jI y :: jR x :: st) n h nc ns Q := by
  intro p l e s m args below meth c base b D cA SC H locs lsS Z C G hW hS hl hZ
  obtain ⟨hc, hpt, hnm, hin⟩ := hct
  have hts := C.2.2.2.2.2.1
  have hat := hW.at hn.1 hn.2
  rw [hk] at hat
  have hap := va_apart (own := me.1) hts hin ty hpt hnm G.1 hc
  obtain ⟨r, h1, cell, q1, q2, q3, q4⟩ := hat
  have hr : r = (C0, T, N) := Option.some.inj (h1.symm.trans hc)
  subst hr
  obtain ⟨hSl, hfc, kC, hkC, hkind⟩ := G.1.1 ci _ hc
  obtain ⟨cf, kf, fi, f, hi, hsl⟩ := hSl j hj
  have hlay := hts _ (hin _ (u_in_lay hj))
  unfold u_lay at hlay
  rw [if_neg (by rw [hfin]; decide)] at hlay
  have hst := (u_facts hfc hkC (u_lays hts hin hj) hi).1
  have h6 := u_store hfc hkC hkind hlay hi (hpt j hj) (v := .int (Int32.ofInt y)) (by rw [hty]; rfl) (by rw [hty]; rfl)
  refine W.putK C.1 C.2.1 (f := f) ⟨C.2.2.2.2.1, hts _ hlk, ⟨_, _, _, hi⟩, hst⟩ (by rw [q2]; exact h6) q1 q3 (by rw [hsl]; exact k2_hasslot (q4 j hj)) rfl rfl hd fun H' e1 e2 e3 => ?_
  rw [hsl] at e1 ⊢
  refine k p l e s m args below meth c base b D cA SC _ _ lsS Z C G (hW.up G.2.1 hn.1 e2 e3 ?_) (hS.put e2 e3 (jA hn.1)) hl hZ
  refine ⟨_, hc, t_OB.to (V := updV (vp_V (fs.map (jvv base b))) j (.int (Int32.ofInt y))) ⟨_, e1, q2, q3, t_set q4 hap hj _⟩ (fun i _ => ?_)⟩
  rw [vp_updV_set (by rw [List.length_map]; exact hlen), List.map_set]
  rfl
theorem j_putF {me : jM} {pc : Nat} {ls st : List jV} {n : Nat} {h : Int → jE} {nc ns : Nat} {Q : Option jV → Nat → (Int → jE) → Prop} {x y : Int} {ci idx j : Nat} {fs : List jV} {C0 : String} {T : u_T} {N : Nat} {ty : Nat → FieldType} (hd : decode me.2.2.1 pc = .ok (.putfield idx, 3)) (hct : jct ci C0 T N ty) (hj : j < N) (hlk : Cond.fieldLink me.1 idx (T j).1 (T j).2.1 (T j).2.2.1 ∈ jws) (hfin : (T j).2.2.2 = true) (hin2 : me.2.1.name = "<init>") (hdecl : (T j).1 = me.1) (hty : narrow (ty j) (.ref 0) = .ref 0 ∧ (∀ a : Nat, narrow (ty j) (.ref a) = .ref a ∧ fits (ty j) (.ref a) = true)) (hk : h x = .inl (ci, fs)) (hn : 0 < x ∧ x ≤ n) (hlen : j < fs.length) (k : jJ me (pc + 3) ls st n (jup h x (.inl (ci, fs.set j (jR y)))) nc ns Q) : jJ me pc ls (jR y :: jR x :: st) n h nc ns Q := by
  intro p l e s m args below meth c base b D cA SC H locs lsS Z C G hW hS hl hZ
  obtain ⟨hc, hpt, hnm, hin⟩ := hct
  have hts := C.2.2.2.2.2.1
  have hat := hW.at hn.1 hn.2
  rw [hk] at hat
  have hap := va_apart (own := me.1) hts hin ty hpt hnm G.1 hc
  obtain ⟨r, h1, cell, q1, q2, q3, q4⟩ := hat
  have hr : r = (C0, T, N) := Option.some.inj (h1.symm.trans hc)
  subst hr
  obtain ⟨hSl, hfc, kC, hkC, hkind⟩ := G.1.1 ci _ hc
  obtain ⟨cf, kf, fi, f, hi, hsl⟩ := hSl j hj
  have hlay := hts _ (hin _ (u_in_lay hj))
  unfold u_lay at hlay
  rw [if_pos hfin] at hlay
  have hst := (u_facts hfc hkC (u_lays hts hin hj) hi).1
  have hcf : m.cls = cf := by
    obtain ⟨_, _, c', _, _, _, -, -, hf', -, -, -, hown2, -⟩ := Cond.laysFinal_spec hlay
    have e1 : c' = cf := by have := hi.symm.trans hf'; simp at this; exact this.1.symm
    rw [hdecl] at hown2
    rw [← e1]; exact Option.some.inj (C.2.2.2.2.1.symm.trans hown2)
  have h6 := u_fits hfc hkC hkind (Or.inr hlay) hi (hpt j hj) (v := .ref (jad base b y)) (hty.2 _).1 (hty.2 _).2
  refine W.putFinK C.1 C.2.1 C.2.2.2.2.1 (hts _ hlk) hi hst hcf (C.2.2.2.2.2.2.2.trans hin2) (by rw [q2]; exact h6) q1 q3 (by rw [hsl]; exact k2_hasslot (q4 j hj)) rfl rfl hd fun H' e1 e2 e3 => ?_
  rw [hsl] at e1 ⊢
  refine k p l e s m args below meth c base b D cA SC _ _ lsS Z C G (hW.up G.2.1 hn.1 e2 e3 ?_) (hS.put e2 e3 (jA hn.1)) hl hZ
  refine ⟨_, hc, t_OB.to (V := updV (vp_V (fs.map (jvv base b))) j (.ref (jad base b y))) ⟨_, e1, q2, q3, t_set q4 hap hj _⟩ (fun i _ => ?_)⟩
  rw [vp_updV_set (by rw [List.length_map]; exact hlen), List.map_set]
  rfl

theorem j_iald {me : jM} {pc : Nat} {ls st : List jV} {n : Nat} {h : Int → jE} {nc ns : Nat} {Q : Option jV → Nat → (Int → jE) → Prop} {x i : Int} {len : Nat} {f : Int → Int} (hd : decode me.2.2.1 pc = .ok (.iaload, 1)) (hk : h x = .inr (0, len, .inl f)) (hn : 0 < x ∧ x ≤ n) (hi : 0 ≤ i ∧ i < len) (hlen : len < 2147483648) (k : jJ me (pc + 1) ls (jI (f i) :: st) n h nc ns Q) : jJ me pc ls (jI i :: jR x :: st) n h nc ns Q := by
  intro p l e s m args below meth c base b D cA SC H locs lsS Z C G hW hS hl hZ
  have hat := hW.at hn.1 hn.2
  rw [hk] at hat
  obtain ⟨j1, j2⟩ := jin hi.1 hi.2 hlen
  refine va_iald C.1 C.2.1 G.1 (jP1 hat) 0 0 rfl rfl j1 hd ?_
  rw [j2]
  exact k p l e s m args below meth c base b D cA SC H locs lsS Z C G hW hS hl hZ
theorem j_iast {me : jM} {pc : Nat} {ls st : List jV} {n : Nat} {h : Int → jE} {nc ns : Nat} {Q : Option jV → Nat → (Int → jE) → Prop} {x i y : Int} {len : Nat} {f : Int → Int} (hd : decode me.2.2.1 pc = .ok (.iastore, 1)) (hk : h x = .inr (0, len, .inl f)) (hn : 0 < x ∧ x ≤ n) (hi : 0 ≤ i ∧ i < len) (hlen : len < 2147483648) (k : jJ me (pc + 1) ls st n (jup h x (.inr (0, len, .inl (fun z => if z = i then y else f z)))) nc ns Q) : jJ me pc ls (jI y :: jI i :: jR x :: st) n h nc ns Q := by
  intro p l e s m args below meth c base b D cA SC H locs lsS Z C G hW hS hl hZ
  have hat := hW.at hn.1 hn.2
  rw [hk] at hat
  obtain ⟨j1, j2⟩ := jin hi.1 hi.2 hlen
  refine W.iast C.1 C.2.1 (jP1 hat 0 _ rfl) ((G.1.2 0 _ rfl).1 len (fun j => .int (Int32.ofInt (f j)))) (fun q => by cases q) (by show ¬ (_ < 0 ∨ (arrV _ _ _).slots.size ≤ _); rw [arrV_size]; exact j1) rfl rfl hd fun H1 e1 z oq => ?_
  refine k p l e s m args below meth c base b D cA SC _ _ lsS Z C G (hW.up G.2.1 hn.1 z oq ?_) (hS.put z oq (jA hn.1)) hl hZ
  show H1[_]? = some (vp_cell _ _)
  rw [e1]
  rw [vp_cell_i, vp_cell_i, arrV_store]
  congr 2
  funext q
  by_cases hq : q = (Int32.ofInt i).toNatClampNeg
  · have hq2 : (q : Int) = i := by rw [hq]; exact j2
    simp only [updV, if_pos hq, if_pos hq2]
  · have hq2 : ¬ (q : Int) = i := fun z9 => hq (by omega)
    simp only [updV, if_neg hq, if_neg hq2]

theorem j_lald {me : jM} {pc : Nat} {ls st : List jV} {n : Nat} {h : Int → jE} {nc ns : Nat} {Q : Option jV → Nat → (Int → jE) → Prop} {x i : Int} {len : Nat} {f : Int → Int} (hd : decode me.2.2.1 pc = .ok (.laload, 1)) (hk : h x = .inr (1, len, .inr (.inl f))) (hn : 0 < x ∧ x ≤ n) (hi : 0 ≤ i ∧ i < len) (hlen : len < 2147483648) (k : jJ me (pc + 1) ls (jL (f i) :: st) n h nc ns Q) : jJ me pc ls (jI i :: jR x :: st) n h nc ns Q := by
  intro p l e s m args below meth c base b D cA SC H locs lsS Z C G hW hS hl hZ
  have hat := hW.at hn.1 hn.2
  rw [hk] at hat
  obtain ⟨j1, j2⟩ := jin hi.1 hi.2 hlen
  refine va_lald C.1 C.2.1 G.1 (jP1 hat) 0 1 rfl rfl j1 hd ?_
  rw [j2]
  exact k p l e s m args below meth c base b D cA SC H locs lsS Z C G hW hS hl hZ
theorem j_last {me : jM} {pc : Nat} {ls st : List jV} {n : Nat} {h : Int → jE} {nc ns : Nat} {Q : Option jV → Nat → (Int → jE) → Prop} {x i y : Int} {len : Nat} {f : Int → Int} (hd : decode me.2.2.1 pc = .ok (.lastore, 1)) (hk : h x = .inr (1, len, .inr (.inl f))) (hn : 0 < x ∧ x ≤ n) (hi : 0 ≤ i ∧ i < len) (hlen : len < 2147483648) (k : jJ me (pc + 1) ls st n (jup h x (.inr (1, len, .inr (.inl (fun z => if z = i then y else f z))))) nc ns Q) : jJ me pc ls (jL y :: jI i :: jR x :: st) n h nc ns Q := by
  intro p l e s m args below meth c base b D cA SC H locs lsS Z C G hW hS hl hZ
  have hat := hW.at hn.1 hn.2
  rw [hk] at hat
  obtain ⟨j1, j2⟩ := jin hi.1 hi.2 hlen
  refine W.last C.1 C.2.1 (jP1 hat 0 _ rfl) ((G.1.2 1 _ rfl).1 len (fun j => .long (Int64.ofInt (f j)))) (fun q => by cases q) (by show ¬ (_ < 0 ∨ (arrV _ _ _).slots.size ≤ _); rw [arrV_size]; exact j1) rfl rfl hd fun H1 e1 z oq => ?_
  refine k p l e s m args below meth c base b D cA SC _ _ lsS Z C G (hW.up G.2.1 hn.1 z oq ?_) (hS.put z oq (jA hn.1)) hl hZ
  show H1[_]? = some (vp_cell _ _)
  rw [e1]
  rw [vp_cell_l, vp_cell_l, arrV_store]
  congr 2
  funext q
  by_cases hq : q = (Int32.ofInt i).toNatClampNeg
  · have hq2 : (q : Int) = i := by rw [hq]; exact j2
    simp only [updV, if_pos hq, if_pos hq2]
  · have hq2 : ¬ (q : Int) = i := fun z9 => hq (by omega)
    simp only [updV, if_neg hq, if_neg hq2]

theorem j_aald {me : jM} {pc : Nat} {ls st : List jV} {n : Nat} {h : Int → jE} {nc ns : Nat} {Q : Option jV → Nat → (Int → jE) → Prop} {x i r : Int} {t len : Nat} {g : Int → Option Int} (hd : decode me.2.2.1 pc = .ok (.aaload, 1)) (hk : h x = .inr (t, len, .inr (.inr g))) (ht : t = 2 ∨ t = 3 ∨ t = 4) (hn : 0 < x ∧ x ≤ n) (hi : 0 ≤ i ∧ i < len) (hlen : len < 2147483648) (hg : g i = some r) (k : jJ me (pc + 1) ls (jR r :: st) n h nc ns Q) : jJ me pc ls (jI i :: jR x :: st) n h nc ns Q := by
  intro p l e s m args below meth c base b D cA SC H locs lsS Z C G hW hS hl hZ
  have hat := hW.at hn.1 hn.2
  rw [hk] at hat
  obtain ⟨j1, j2⟩ := jin hi.1 hi.2 hlen
  have hlt : (Int32.ofInt i).toNatClampNeg < len := Nat.not_le.mp fun q => j1 (Or.inr q)
  have key : ∀ ty : FieldType, ty.isReference = true → (jtys cA)[t]? = some (cA t, ty) → W p l e me.2.2.2.2.2 s m args below meth c H locs nc ns Z (F0 m pc lsS (Value.int (Int32.ofInt i) :: Value.ref (jad base b x) :: st.map (jvv base b))) := by
    intro ty hty h9
    refine W.aald (v := va_rf ((g (((Int32.ofInt i).toNatClampNeg : Nat) : Int)).map (jad base b))) (ty := ty) C.1 C.2.1 (jP1 hat 0 _ rfl) ((G.1.2 t _ h9).1 len (fun j => va_rf ((g (j : Int)).map (jad base b)))) hty (fun q => by cases q) (by show ¬ (_ < 0 ∨ (arrV _ _ _).slots.size ≤ _); rw [arrV_size]; exact j1) (by show (arrV _ _ _).slots[_]? = _; rw [arrV_read _ _ hlt]) rfl rfl hd ?_
    rw [j2, hg]
    exact k p l e s m args below meth c base b D cA SC H locs lsS Z C G hW hS hl hZ
  rcases ht with rfl | rfl | rfl
  · exact key (.array .int) rfl rfl
  · exact key (.array .long) rfl rfl
  · exact key (.object "PraiseDrawer$Big") rfl rfl
theorem j_alen {me : jM} {pc : Nat} {ls st : List jV} {n : Nat} {h : Int → jE} {nc ns : Nat} {Q : Option jV → Nat → (Int → jE) → Prop} {x : Int} {t len : Nat} {f : (Int → Int) ⊕ (Int → Int) ⊕ (Int → Option Int)} (hd : decode me.2.2.1 pc = .ok (.arraylength, 1)) (hk : h x = .inr (t, len, f)) (ht : t < 5) (hn : 0 < x ∧ x ≤ n) (k : jJ me (pc + 1) ls (jI len :: st) n h nc ns Q) : jJ me pc ls (jR x :: st) n h nc ns Q := by
  intro p l e s m args below meth c base b D cA SC H locs lsS Z C G hW hS hl hZ
  have hat := hW.at hn.1 hn.2
  rw [hk] at hat
  obtain ⟨ty, hty⟩ : ∃ ty, (jtys cA)[t]? = some (cA t, ty) := by
    rcases (show t = 0 ∨ t = 1 ∨ t = 2 ∨ t = 3 ∨ t = 4 by omega) with rfl | rfl | rfl | rfl | rfl <;> exact ⟨_, rfl⟩
  obtain f | f | f := f
  · exact va_alen C.1 C.2.1 G.1 (jP1 hat) 0 t rfl hty (v := Int32.ofInt len) (by rw [Int32.ofInt_eq_ofNat]) hd (k p l e s m args below meth c base b D cA SC H locs lsS Z C G hW hS hl hZ)
  · exact va_alen C.1 C.2.1 G.1 (jP1 hat) 0 t rfl hty (v := Int32.ofInt len) (by rw [Int32.ofInt_eq_ofNat]) hd (k p l e s m args below meth c base b D cA SC H locs lsS Z C G hW hS hl hZ)
  · exact va_alen C.1 C.2.1 G.1 (jP1 hat) 0 t rfl hty (v := Int32.ofInt len) (by rw [Int32.ofInt_eq_ofNat]) hd (k p l e s m args below meth c base b D cA SC H locs lsS Z C G hW hS hl hZ)

theorem j_sald {me : jM} {pc : Nat} {ls st : List jV} {n : Nat} {h : Int → jE} {nc ns : Nat} {Q : Option jV → Nat → (Int → jE) → Prop} {i : Int} {len : Nat} {f : Int → Int} (hd : decode me.2.2.1 pc = .ok (.iaload, 1)) (hk : h 0 = .inr (0, len, .inl f)) (hi : 0 ≤ i ∧ i < len) (hlen : len < 2147483648) (k : jJ me (pc + 1) ls (jI (f i) :: st) n h nc ns Q) : jJ me pc ls (jI i :: jR 0 :: st) n h nc ns Q := by
  intro p l e s m args below meth c base b D cA SC H locs lsS Z C G hW hS hl hZ
  obtain ⟨n9, f9, e9, hX⟩ := G.2.2.2.2
  have e9 : (Sum.inr (0, len, .inl f) : jE) = .inr (0, n9, .inl f9) := (hk.symm.trans hW.2.1).trans e9
  cases e9
  obtain ⟨j1, j2⟩ := jin hi.1 hi.2 hlen
  have hbl : b < s.heap.size := Nat.lt_of_lt_of_le G.2.1 G.2.2.1
  refine va_sld C.1 C.2.1 hX hbl (A := fun q => base ≤ q) (by show ¬ base ≤ b; have := G.2.1; omega) hS j1 hd ?_
  rw [j2]
  exact k p l e s m args below meth c base b D cA SC H locs lsS Z C G hW hS hl hZ
theorem j_slen {me : jM} {pc : Nat} {ls st : List jV} {n : Nat} {h : Int → jE} {nc ns : Nat} {Q : Option jV → Nat → (Int → jE) → Prop} {len : Nat} {f : Int → Int} (hd : decode me.2.2.1 pc = .ok (.arraylength, 1)) (hk : h 0 = .inr (0, len, .inl f)) (k : jJ me (pc + 1) ls (jI len :: st) n h nc ns Q) : jJ me pc ls (jR 0 :: st) n h nc ns Q := by
  intro p l e s m args below meth c base b D cA SC H locs lsS Z C G hW hS hl hZ
  obtain ⟨n9, f9, e9, hX⟩ := G.2.2.2.2
  have e9 : (Sum.inr (0, len, .inl f) : jE) = .inr (0, n9, .inl f9) := (hk.symm.trans hW.2.1).trans e9
  cases e9
  have hbl : b < s.heap.size := Nat.lt_of_lt_of_le G.2.1 G.2.2.1
  refine va_slen C.1 C.2.1 hX hbl (A := fun q => base ≤ q) (by show ¬ base ≤ b; have := G.2.1; omega) hS hd ?_
  rw [← Int32.ofInt_eq_ofNat]
  exact k p l e s m args below meth c base b D cA SC H locs lsS Z C G hW hS hl hZ

theorem j_objInit {me : jM} {pc : Nat} {ls st : List jV} {n : Nat} {h : Int → jE} {nc ns : Nat} {Q : Option jV → Nat → (Int → jE) → Prop} {x : Int} {idx : Nat} (hd : decode me.2.2.1 pc = .ok (.invokespecial idx, 3)) (hw : Cond.methodLink me.1 idx Lib.objectInit ∈ jws) (hw2 : Cond.instanceMethod Lib.objectInit ∈ jws) (hw3 : Cond.code Lib.objectInit ⟨#[0xb1]⟩ 1 none ∈ jws) (hr : 1 ≤ me.2.2.2.2.2.frames ∧ 20 ≤ me.2.2.2.2.2.locals) (hst : (st.map (fun _ => 2)).sum ≤ 8) (k : jJ me (pc + 3) ls st n h nc ns Q) : jJ me pc ls (jR x :: st) n h nc ns Q := by
  intro p l e s m args below meth c base b D cA SC H locs lsS Z C G hW hS hl hZ
  have hts := C.2.2.2.2.2.1
  refine W.objInit C.1 C.2.1 C.2.2.2.2.1 (hts _ hw) (hts _ hw2) (hts _ hw3) rfl (by rw [C.2.2.1]; exact hl.1) rfl hd hr.1 ?_ (k p l e s m args below meth c base b D cA SC H locs lsS Z C G hW hS hl hZ)
  have : ((st.map (jvv base b)).map fun v => v.category).sum ≤ (st.map (fun _ => 2)).sum := by
    clear hst k
    induction st with
    | nil => exact Nat.le_refl _
    | cons a t ih =>
      simp only [List.map_cons, List.sum_cons]
      have := lv_cat (jvv base b a)
      omega
  show 2 * 0 + _ + 12 ≤ _
  have h9 := hr.2
  show 2 * 0 + ((st.map (jvv base b)).map fun v => v.category).sum + 12 ≤ _
  omega
theorem j_new {me : jM} {pc : Nat} {ls st : List jV} {n : Nat} {h : Int → jE} {nc ns : Nat} {Q : Option jV → Nat → (Int → jE) → Prop} {ci idx : Nat} {C0 : String} {T : u_T} {N : Nat} {ty : Nat → FieldType} (fs : List jV) (hd : decode me.2.2.1 pc = .ok (.new idx, 3)) (hct : jct ci C0 T N ty) (hw : Cond.classLink me.1 idx C0 ∈ jws) (hw2 : Cond.instantiable C0 N ∈ jws) (hw3 : Cond.initialized C0 ∈ jws) (hfs : ∀ base b j, j < N → defaultValue (ty j) = vp_V (fs.map (jvv base b)) j) (hc : nc + 1 ≤ me.2.2.2.2.2.cells ∧ ns + N ≤ me.2.2.2.2.2.slots) (k : jJ me (pc + 3) ls (jR ((n : Int) + 1) :: st) (n + 1) (jup h ((n : Int) + 1) (.inl (ci, fs))) (nc + 1) (ns + N) Q) : jJ me pc ls st n h nc ns Q := by
  intro p l e s m args below meth c base b D cA SC H locs lsS Z C G hW hS hl hZ
  obtain ⟨hcl, hpt, hnm, hin⟩ := hct
  have hts := C.2.2.2.2.2.1
  have hKn := G.1.1 ci _ hcl
  refine W.newcK C.1 C.2.1 C.2.2.2.2.1 (hts _ hw) (hts _ hw2) (hts _ hw3) rfl hd hc.1 hc.2 hKn.2.1 rfl fun H1 kC hkC e1 z1 o1 => ?_
  have e := k p l e s m args below meth c base b D cA SC _ _ lsS Z C G (hW.push G.2.1 z1 o1 ⟨_, hcl, (u_born ty hts hin hKn hkC e1 hpt).to (hfs base b)⟩) (jS.push hS (by omega) o1) hl hZ
  rw [List.map_cons, show jvv base b (jR ((n : Int) + 1)) = Value.ref (jad base b ((n : Int) + 1)) from rfl, jsz hW] at e
  exact e

theorem j_newa_int {me : jM} {pc : Nat} {ls st : List jV} {n : Nat} {h : Int → jE} {nc ns : Nat} {Q : Option jV → Nat → (Int → jE) → Prop} {x : Int} (len : Nat) (hd : decode me.2.2.1 pc = .ok (.newarray .int, 2)) (hw : Cond.arrayClass .int ∈ jws) (hx : x = (len : Int)) (hlen : len ≤ 60000000) (hc : nc + 1 ≤ me.2.2.2.2.2.cells ∧ ns + len ≤ me.2.2.2.2.2.slots) (k : jJ me (pc + 2) ls (jR ((n : Int) + 1) :: st) (n + 1) (jup h ((n : Int) + 1) (.inr (0, len, .inl (fun _ => 0)))) (nc + 1) (ns + len) Q) : jJ me pc ls (jI x :: st) n h nc ns Q := by
  intro p l e s m args below meth c base b D cA SC H locs lsS Z C G hW hS hl hZ
  subst hx
  have hts := C.2.2.2.2.2.1
  have hr : jr32 (len : Int) := ⟨by omega, by omega⟩
  have hcl : (Int32.ofInt (len : Int)).toNatClampNeg = len := by
    have := Int32.toNatClampNeg_ofInt_of_le (n := (len : Int)) (by omega) (by omega)
    rw [this]; rfl
  refine va_newaK C.1 C.2.1 (atype := .int) (hts _ hw) rfl hd rfl (fun q => by have q : Int32.ofInt (len : Int) < Int32.ofInt 0 := q; rw [j32_lt hr jr32_0] at q; omega) hcl (by show len * _ ≤ _; simp [componentBytes, newarray.typeOf]; omega) hc.1 hc.2 rfl fun H1 cA9 e1 z1 o1 hAr hNm => ?_
  have h9 := va_nm_int (G.1.2 0 _ rfl).2
  have ec : cA9 = cA 0 := Option.some.inj (hNm.symm.trans h9)
  subst ec
  have e := k p l e s m args below meth c base b D cA SC _ _ lsS Z C G (hW.push G.2.1 z1 o1 (c := .inr (0, len, .inl (fun _ => 0))) (by
    show H1[H.size]? = some (vp_cell _ _)
    rw [vp_cell_i]
    exact e1)) (jS.push hS (by omega) o1) hl hZ
  rw [List.map_cons, show jvv base b (jR ((n : Int) + 1)) = Value.ref (jad base b ((n : Int) + 1)) from rfl, jsz hW] at e
  exact e

theorem j_newa_long {me : jM} {pc : Nat} {ls st : List jV} {n : Nat} {h : Int → jE} {nc ns : Nat} {Q : Option jV → Nat → (Int → jE) → Prop} {x : Int} (len : Nat) (hd : decode me.2.2.1 pc = .ok (.newarray .long, 2)) (hw : Cond.arrayClass .long ∈ jws) (hx : x = (len : Int)) (hlen : len ≤ 60000000) (hc : nc + 1 ≤ me.2.2.2.2.2.cells ∧ ns + len ≤ me.2.2.2.2.2.slots) (k : jJ me (pc + 2) ls (jR ((n : Int) + 1) :: st) (n + 1) (jup h ((n : Int) + 1) (.inr (1, len, .inr (.inl (fun _ => 0))))) (nc + 1) (ns + len) Q) : jJ me pc ls (jI x :: st) n h nc ns Q := by
  intro p l e s m args below meth c base b D cA SC H locs lsS Z C G hW hS hl hZ
  subst hx
  have hts := C.2.2.2.2.2.1
  have hr : jr32 (len : Int) := ⟨by omega, by omega⟩
  have hcl : (Int32.ofInt (len : Int)).toNatClampNeg = len := by
    have := Int32.toNatClampNeg_ofInt_of_le (n := (len : Int)) (by omega) (by omega)
    rw [this]; rfl
  refine va_newaK C.1 C.2.1 (atype := .long) (hts _ hw) rfl hd rfl (fun q => by have q : Int32.ofInt (len : Int) < Int32.ofInt 0 := q; rw [j32_lt hr jr32_0] at q; omega) hcl (by show len * _ ≤ _; simp [componentBytes, newarray.typeOf]; omega) hc.1 hc.2 rfl fun H1 cA9 e1 z1 o1 hAr hNm => ?_
  have h9 := va_nm_long (G.1.2 1 _ rfl).2
  have ec : cA9 = cA 1 := Option.some.inj (hNm.symm.trans h9)
  subst ec
  have e := k p l e s m args below meth c base b D cA SC _ _ lsS Z C G (hW.push G.2.1 z1 o1 (c := .inr (1, len, .inr (.inl (fun _ => 0)))) (by
    show H1[H.size]? = some (vp_cell _ _)
    rw [vp_cell_l]
    exact e1)) (jS.push hS (by omega) o1) hl hZ
  rw [List.map_cons, show jvv base b (jR ((n : Int) + 1)) = Value.ref (jad base b ((n : Int) + 1)) from rfl, jsz hW] at e
  exact e

theorem j_newq {me : jM} {pc : Nat} {ls st : List jV} {n : Nat} {h : Int → jE} {nc ns : Nat} {Q : Option jV → Nat → (Int → jE) → Prop} {x : Int} {idx : Nat} (len : Nat) (hd : decode me.2.2.1 pc = .ok (.anewarray idx, 3)) (hw : Cond.classLink me.1 idx "PraiseDrawer$Big" ∈ jws) (hx : x = (len : Int)) (hlen : len ≤ 60000000) (hc : nc + 1 ≤ me.2.2.2.2.2.cells ∧ ns + len ≤ me.2.2.2.2.2.slots) (k : jJ me (pc + 3) ls (jR ((n : Int) + 1) :: st) (n + 1) (jup h ((n : Int) + 1) (.inr (4, len, .inr (.inr (fun _ => none))))) (nc + 1) (ns + len) Q) : jJ me pc ls (jI x :: st) n h nc ns Q := by
  intro p l e s m args below meth c base b D cA SC H locs lsS Z C G hW hS hl hZ
  subst hx
  have hts := C.2.2.2.2.2.1
  have hr : jr32 (len : Int) := ⟨by omega, by omega⟩
  have hcl : (Int32.ofInt (len : Int)).toNatClampNeg = len := by
    have := Int32.toNatClampNeg_ofInt_of_le (n := (len : Int)) (by omega) (by omega)
    rw [this]; rfl
  refine W.anew C.1 C.2.1 C.2.2.2.2.1 (hts _ hw) (va_AO.use G.2.2.2.1.2.2.2) rfl hd rfl (fun q => by have q : Int32.ofInt (len : Int) < Int32.ofInt 0 := q; rw [j32_lt hr jr32_0] at q; omega) (by rw [hcl]; omega) hc.1 (by rw [hcl]; exact hc.2) fun cA9 kA comp f1 f2 f3 f4 => ?_
  rw [hcl]
  obtain ⟨kA2, comp2, -, -, -, g4⟩ := (G.1.2 4 _ rfl).2
  have ec : cA9 = cA 4 := Option.some.inj (f1.symm.trans g4)
  subst ec
  generalize hH1 : H.push ({ cls := cA 4, slots := Array.replicate len .null, vm := .none } : Cell) = H1
  have z1 : H1.size = H.size + 1 := by rw [← hH1, Array.size_push]
  have e1 : H1[H.size]? = some (arrV (cA 4) len (fun _ => .null)) := by rw [← hH1, Array.getElem?_push_size, ← arrV_new]
  have o1 : ∀ q : Nat, q < H.size → H1[q]? = H[q]? := fun q hq => by rw [← hH1, Array.getElem?_push, if_neg (Nat.ne_of_lt hq)]
  have e := k p l e s m args below meth c base b D cA SC _ _ lsS Z C G (hW.push G.2.1 z1 o1 (c := .inr (4, len, .inr (.inr (fun _ => none)))) (by
    show H1[H.size]? = some (vp_cell _ _)
    rw [vp_cell_q]
    exact e1)) (jS.push hS (by omega) o1) hl hZ
  rw [List.map_cons, show jvv base b (jR ((n : Int) + 1)) = Value.ref (jad base b ((n : Int) + 1)) from rfl, jsz hW] at e
  exact e
theorem j_aast {me : jM} {pc : Nat} {ls st : List jV} {n : Nat} {h : Int → jE} {nc ns : Nat} {Q : Option jV → Nat → (Int → jE) → Prop} {x i y : Int} {len : Nat} {g : Int → Option Int} {vs : List jV} (hd : decode me.2.2.1 pc = .ok (.aastore, 1)) (hk : h x = .inr (4, len, .inr (.inr g))) (hn : 0 < x ∧ x ≤ n) (hi : 0 ≤ i ∧ i < len) (hlen : len < 2147483648) (hy : h y = .inl (0, vs)) (hny : 0 < y ∧ y ≤ n) (k : jJ me (pc + 1) ls st n (jup h x (.inr (4, len, .inr (.inr (fun z => if z = i then some y else g z))))) nc ns Q) : jJ me pc ls (jR y :: jI i :: jR x :: st) n h nc ns Q := by
  intro p l e s m args below meth c base b D cA SC H locs lsS Z C G hW hS hl hZ
  have hat := hW.at hn.1 hn.2
  rw [hk] at hat
  have hay := hW.at hny.1 hny.2
  rw [hy] at hay
  obtain ⟨j1, j2⟩ := jin hi.1 hi.2 hlen
  have hlt : (Int32.ofInt i).toNatClampNeg < len := Nat.not_le.mp fun q => j1 (Or.inr q)
  obtain ⟨r', hr', cellV, g1, g2, g3, -⟩ := hay
  have hcls := (G.1.1 0 _ rfl).2
  obtain ⟨kA, comp, k1, k2, k3, -⟩ := (G.1.2 4 _ rfl).2
  have hcomp : comp = D.1 0 := Option.some.inj (k3.symm.trans hcls.1)
  subst hcomp
  obtain ⟨kC, hkC, -⟩ := hcls.2
  refine W.aast C.1 C.2.1 (jP1 hat 0 _ rfl) (fun q h => by cases h) (fun h => by cases h) k1 k2 rfl hkC ⟨fun q => j1 (Or.inl q), by show _ < (arrV _ _ _).slots.size; rw [arrV_size]; exact hlt⟩ g1 (fun q h => by rw [g3] at h; cases h) (by rw [g2]; exact hkC) (by rw [g2]; exact va_assign hcls) rfl rfl hd fun H1 e1 z oq => ?_
  refine k p l e s m args below meth c base b D cA SC _ _ lsS Z C G (hW.up G.2.1 hn.1 z oq ?_) (hS.put z oq (jA hn.1)) hl hZ
  show H1[_]? = some (vp_cell _ _)
  rw [e1]
  rw [vp_cell_q, vp_cell_q, arrV_store]
  congr 2
  funext q
  by_cases hq : q = (Int32.ofInt i).toNatClampNeg
  · have hq2 : (q : Int) = i := by rw [hq]; exact j2
    simp only [updV, if_pos hq, if_pos hq2, Option.map_some, va_rf]
  · have hq2 : ¬ (q : Int) = i := fun z9 => hq (by omega)
    simp only [updV, if_neg hq, if_neg hq2]

theorem j_mna_int {me : jM} {pc : Nat} {ls st : List jV} {n : Nat} {h : Int → jE} {nc ns : Nat} {Q : Option jV → Nat → (Int → jE) → Prop} {x y : Int} {idx : Nat} (N M : Nat) (hd : decode me.2.2.1 pc = .ok (.multianewarray idx 2, 4)) (hw : Cond.classLink me.1 idx "[[I" ∈ jws) (hw2 : Cond.arrayClass .int ∈ jws) (hx : x = (N : Int)) (hy : y = (M : Int)) (hN : N ≤ 60000000) (hM : M ≤ 60000000) (hc : nc + (1 + N) ≤ me.2.2.2.2.2.cells ∧ ns + (N + N * M) ≤ me.2.2.2.2.2.slots) (k : jJ me (pc + 4) ls (jR ((n : Int) + 1) :: st) (n + 1 + N) (fun i => if (n : Int) + 1 < i ∧ i ≤ (n : Int) + 1 + N then .inr (0, M, .inl (fun _ => 0)) else if i = (n : Int) + 1 then .inr (2, N, .inr (.inr (fun i => if i < (N : Int) then some ((n : Int) + 2 + i) else none))) else h i) (nc + 1 + N) (ns + N + N * M) Q) : jJ me pc ls (jI y :: jI x :: st) n h nc ns Q := by
  intro p l e s m args below meth c base b D cA SC H locs lsS Z C G hW hS hl hZ
  subst hx
  subst hy
  have hts := C.2.2.2.2.2.1
  have cl : ∀ len : Nat, len ≤ 60000000 → (Int32.ofInt (len : Int)).toNatClampNeg = len ∧ ¬ Int32.ofInt (len : Int) < 0 := fun len hlen => by
    have hr : jr32 (len : Int) := ⟨by omega, by omega⟩
    refine ⟨?_, fun q => ?_⟩
    · have := Int32.toNatClampNeg_ofInt_of_le (n := (len : Int)) (by omega) (by omega)
      rw [this]; rfl
    · have q : Int32.ofInt (len : Int) < Int32.ofInt 0 := q
      rw [j32_lt hr jr32_0] at q
      omega
  obtain ⟨n1, n2⟩ := cl N hN
  obtain ⟨m1, m2⟩ := cl M hM
  intro T hT X
  obtain ⟨vm₁, cA9, comp, -, fA, fC, -, -, X', step⟩ := Jvm.Stand.multianewarray2F X C.1 C.2.2.2.2.1 (ty := .int) (hts _ hw) G.2.2.2.1.2.1 (hts _ hw2) (g := F0 m pc lsS (.int (Int32.ofInt (M : Int)) :: .int (Int32.ofInt (N : Int)) :: st.map (jvv base b))) rfl (by rw [C.2.1]; exact hd) rfl n2 m2 (by rw [n1]; omega) (by rw [m1]; simp [componentBytes]; omega) (by rw [m1]; omega) rfl rfl (by rw [n1]; exact hc.1) (by rw [n1, m1]; exact hc.2)
  rw [n1, m1] at X' step
  have ecA : cA9 = cA 2 := Option.some.inj (fA.symm.trans (G.1.2 2 _ rfl).2)
  have ecC : comp = cA 0 := Option.some.inj (fC.symm.trans (G.1.2 0 _ rfl).2)
  subst ecA
  subst ecC
  have hTh : (T.setVm vm₁).heap = H := hT
  obtain ⟨f1, f2, -, -⟩ := Jvm.Free.Multi.fill_facts (T.setVm vm₁) (cA 2) (cA 0) N M (defaultValue .int) N
  have hold : ∀ q : Nat, q < H.size → (Jvm.Free.Multi.fill (T.setVm vm₁) (cA 2) (cA 0) N M (defaultValue .int) N).heap[q]? = H[q]? := fun q hq => by
    have := Jvm.Free.Multi.fill_old (T.setVm vm₁) (cA 2) (cA 0) N M (defaultValue .int) (a := q) (by rw [hTh]; exact hq) N
    rw [hTh] at this
    exact this
  have hrow : ∀ j : Nat, j < N → (Jvm.Free.Multi.fill (T.setVm vm₁) (cA 2) (cA 0) N M (defaultValue .int) N).heap[H.size + 1 + j]? = some (Jvm.Free.Multi.innerC (cA 0) M (defaultValue .int)) := fun j hj => by
    have := Jvm.Free.Multi.fill_inner (T.setVm vm₁) (cA 2) (cA 0) N M (defaultValue .int) N j hj
    rw [hTh] at this
    exact this
  rw [hTh] at f1 f2
  generalize hF : Jvm.Free.Multi.fill (T.setVm vm₁) (cA 2) (cA 0) N M (defaultValue .int) N = F at X' step f1 f2 hold hrow
  have hsz : H.size = base + n := hW.1
  have hWn : jW base b D cA SC (n + 1 + N) (fun i => if (n : Int) + 1 < i ∧ i ≤ (n : Int) + 1 + N then .inr (0, M, .inl (fun _ => 0)) else if i = (n : Int) + 1 then .inr (2, N, .inr (.inr (fun i => if i < (N : Int) then some ((n : Int) + 2 + i) else none))) else h i) F.heap := by
    refine ⟨by rw [f1, hsz]; omega, by show (if _ then _ else _) = _; rw [if_neg (by omega), if_neg (by omega)]; exact hW.2.1, fun k9 hk0 hk9 => ?_⟩
    dsimp only
    by_cases h1 : (n : Int) + 1 < (k9 : Int) ∧ (k9 : Int) ≤ (n : Int) + 1 + N
    · rw [if_pos h1, jad_pos (by omega)]
      have e9 : base + (((k9 : Nat) : Int).toNat - 1) = H.size + 1 + (k9 - n - 2) := by omega
      rw [e9]
      show F.heap[_]? = some (vp_cell _ _)
      rw [hrow _ (by omega), vp_cell_i]
      show _ = some (arrV _ _ _)
      rw [← arrV_new]
      rfl
    · rw [if_neg h1]
      by_cases h2 : (k9 : Int) = (n : Int) + 1
      · rw [if_pos h2, h2, jsz hW]
        show F.heap[_]? = some (vp_cell _ _)
        rw [f2, vp_cell_q]
        have : ∀ i : Nat, i ≤ N → Jvm.Free.Multi.outerC (cA 2) N H.size i = arrV (cA 2) N (fun j => va_rf (if j < i then some (H.size + 1 + j) else none)) := fun i => by
          induction i with
          | zero =>
            intro _
            show ({ cls := cA 2, slots := Array.replicate N .null, vm := .none } : Cell) = _
            rw [arrV_new]
            refine congrArg (arrV (cA 2) N) (funext fun j => ?_)
            simp [va_rf]
          | succ i ih =>
            intro hi
            show (Jvm.Free.Multi.outerC (cA 2) N H.size i).setSlot i (.ref (H.size + 1 + i)) = _
            rw [ih (by omega), arrV_store]
            refine congrArg (arrV (cA 2) N) (funext fun j => ?_)
            by_cases e : j = i
            · subst e
              simp [updV, va_rf]
            · by_cases h : j < i
              · simp [updV, e, h, Nat.lt_succ_of_lt h]
              · simp [updV, e, h, show ¬ j < i + 1 by omega]
        rw [this N (Nat.le_refl _)]
        refine congrArg (fun f => some (arrV (cA 2) N f)) (funext fun j => ?_)
        dsimp only
        by_cases hj : j < N
        · rw [if_pos hj, if_pos (by omega), Option.map_some, jad_pos (by omega), show base + (((n : Int) + 2 + (j : Int)).toNat - 1) = H.size + 1 + j by omega]
        · rw [if_neg hj, if_neg (by omega)]
          rfl
      · rw [if_neg h2]
        have hat := hW.2.2 k9 hk0 (by omega)
        exact hat.kept (hold _ hat.lt)
  have e := k p l e s m args below meth c base b D cA SC _ _ lsS Z C G hWn (jS.push hS (by rw [f1]; omega) hold) hl hZ F rfl X'
  obtain ⟨t, a1, b1⟩ := e
  refine ⟨t, step t ?_, b1⟩
  rw [List.map_cons, show jvv base b (jR ((n : Int) + 1)) = Value.ref (jad base b ((n : Int) + 1)) from rfl, jsz hW] at a1
  rw [hT]
  exact a1

theorem j_mna_long {me : jM} {pc : Nat} {ls st : List jV} {n : Nat} {h : Int → jE} {nc ns : Nat} {Q : Option jV → Nat → (Int → jE) → Prop} {x y : Int} {idx : Nat} (N M : Nat) (hd : decode me.2.2.1 pc = .ok (.multianewarray idx 2, 4)) (hw : Cond.classLink me.1 idx "[[J" ∈ jws) (hw2 : Cond.arrayClass .long ∈ jws) (hx : x = (N : Int)) (hy : y = (M : Int)) (hN : N ≤ 60000000) (hM : M ≤ 60000000) (hc : nc + (1 + N) ≤ me.2.2.2.2.2.cells ∧ ns + (N + N * M) ≤ me.2.2.2.2.2.slots) (k : jJ me (pc + 4) ls (jR ((n : Int) + 1) :: st) (n + 1 + N) (fun i => if (n : Int) + 1 < i ∧ i ≤ (n : Int) + 1 + N then .inr (1, M, .inr (.inl (fun _ => 0))) else if i = (n : Int) + 1 then .inr (3, N, .inr (.inr (fun i => if i < (N : Int) then some ((n : Int) + 2 + i) else none))) else h i) (nc + 1 + N) (ns + N + N * M) Q) : jJ me pc ls (jI y :: jI x :: st) n h nc ns Q := by
  intro p l e s m args below meth c base b D cA SC H locs lsS Z C G hW hS hl hZ
  subst hx
  subst hy
  have hts := C.2.2.2.2.2.1
  have cl : ∀ len : Nat, len ≤ 60000000 → (Int32.ofInt (len : Int)).toNatClampNeg = len ∧ ¬ Int32.ofInt (len : Int) < 0 := fun len hlen => by
    have hr : jr32 (len : Int) := ⟨by omega, by omega⟩
    refine ⟨?_, fun q => ?_⟩
    · have := Int32.toNatClampNeg_ofInt_of_le (n := (len : Int)) (by omega) (by omega)
      rw [this]; rfl
    · have q : Int32.ofInt (len : Int) < Int32.ofInt 0 := q
      rw [j32_lt hr jr32_0] at q
      omega
  obtain ⟨n1, n2⟩ := cl N hN
  obtain ⟨m1, m2⟩ := cl M hM
  intro T hT X
  obtain ⟨vm₁, cA9, comp, -, fA, fC, -, -, X', step⟩ := Jvm.Stand.multianewarray2F X C.1 C.2.2.2.2.1 (ty := .long) (hts _ hw) G.2.2.2.1.2.2.1 (hts _ hw2) (g := F0 m pc lsS (.int (Int32.ofInt (M : Int)) :: .int (Int32.ofInt (N : Int)) :: st.map (jvv base b))) rfl (by rw [C.2.1]; exact hd) rfl n2 m2 (by rw [n1]; omega) (by rw [m1]; simp [componentBytes]; omega) (by rw [m1]; omega) rfl rfl (by rw [n1]; exact hc.1) (by rw [n1, m1]; exact hc.2)
  rw [n1, m1] at X' step
  have ecA : cA9 = cA 3 := Option.some.inj (fA.symm.trans (G.1.2 3 _ rfl).2)
  have ecC : comp = cA 1 := Option.some.inj (fC.symm.trans (G.1.2 1 _ rfl).2)
  subst ecA
  subst ecC
  have hTh : (T.setVm vm₁).heap = H := hT
  obtain ⟨f1, f2, -, -⟩ := Jvm.Free.Multi.fill_facts (T.setVm vm₁) (cA 3) (cA 1) N M (defaultValue .long) N
  have hold : ∀ q : Nat, q < H.size → (Jvm.Free.Multi.fill (T.setVm vm₁) (cA 3) (cA 1) N M (defaultValue .long) N).heap[q]? = H[q]? := fun q hq => by
    have := Jvm.Free.Multi.fill_old (T.setVm vm₁) (cA 3) (cA 1) N M (defaultValue .long) (a := q) (by rw [hTh]; exact hq) N
    rw [hTh] at this
    exact this
  have hrow : ∀ j : Nat, j < N → (Jvm.Free.Multi.fill (T.setVm vm₁) (cA 3) (cA 1) N M (defaultValue .long) N).heap[H.size + 1 + j]? = some (Jvm.Free.Multi.innerC (cA 1) M (defaultValue .long)) := fun j hj => by
    have := Jvm.Free.Multi.fill_inner (T.setVm vm₁) (cA 3) (cA 1) N M (defaultValue .long) N j hj
    rw [hTh] at this
    exact this
  rw [hTh] at f1 f2
  generalize hF : Jvm.Free.Multi.fill (T.setVm vm₁) (cA 3) (cA 1) N M (defaultValue .long) N = F at X' step f1 f2 hold hrow
  have hsz : H.size = base + n := hW.1
  have hWn : jW base b D cA SC (n + 1 + N) (fun i => if (n : Int) + 1 < i ∧ i ≤ (n : Int) + 1 + N then .inr (1, M, .inr (.inl (fun _ => 0))) else if i = (n : Int) + 1 then .inr (3, N, .inr (.inr (fun i => if i < (N : Int) then some ((n : Int) + 2 + i) else none))) else h i) F.heap := by
    refine ⟨by rw [f1, hsz]; omega, by show (if _ then _ else _) = _; rw [if_neg (by omega), if_neg (by omega)]; exact hW.2.1, fun k9 hk0 hk9 => ?_⟩
    dsimp only
    by_cases h1 : (n : Int) + 1 < (k9 : Int) ∧ (k9 : Int) ≤ (n : Int) + 1 + N
    · rw [if_pos h1, jad_pos (by omega)]
      have e9 : base + (((k9 : Nat) : Int).toNat - 1) = H.size + 1 + (k9 - n - 2) := by omega
      rw [e9]
      show F.heap[_]? = some (vp_cell _ _)
      rw [hrow _ (by omega), vp_cell_l]
      show _ = some (arrV _ _ _)
      rw [← arrV_new]
      rfl
    · rw [if_neg h1]
      by_cases h2 : (k9 : Int) = (n : Int) + 1
      · rw [if_pos h2, h2, jsz hW]
        show F.heap[_]? = some (vp_cell _ _)
        rw [f2, vp_cell_q]
        have : ∀ i : Nat, i ≤ N → Jvm.Free.Multi.outerC (cA 3) N H.size i = arrV (cA 3) N (fun j => va_rf (if j < i then some (H.size + 1 + j) else none)) := fun i => by
          induction i with
          | zero =>
            intro _
            show ({ cls := cA 3, slots := Array.replicate N .null, vm := .none } : Cell) = _
            rw [arrV_new]
            refine congrArg (arrV (cA 3) N) (funext fun j => ?_)
            simp [va_rf]
          | succ i ih =>
            intro hi
            show (Jvm.Free.Multi.outerC (cA 3) N H.size i).setSlot i (.ref (H.size + 1 + i)) = _
            rw [ih (by omega), arrV_store]
            refine congrArg (arrV (cA 3) N) (funext fun j => ?_)
            by_cases e : j = i
            · subst e
              simp [updV, va_rf]
            · by_cases h : j < i
              · simp [updV, e, h, Nat.lt_succ_of_lt h]
              · simp [updV, e, h, show ¬ j < i + 1 by omega]
        rw [this N (Nat.le_refl _)]
        refine congrArg (fun f => some (arrV (cA 3) N f)) (funext fun j => ?_)
        dsimp only
        by_cases hj : j < N
        · rw [if_pos hj, if_pos (by omega), Option.map_some, jad_pos (by omega), show base + (((n : Int) + 2 + (j : Int)).toNat - 1) = H.size + 1 + j by omega]
        · rw [if_neg hj, if_neg (by omega)]
          rfl
      · rw [if_neg h2]
        have hat := hW.2.2 k9 hk0 (by omega)
        exact hat.kept (hold _ hat.lt)
  have e := k p l e s m args below meth c base b D cA SC _ _ lsS Z C G hWn (jS.push hS (by rw [f1]; omega) hold) hl hZ F rfl X'
  obtain ⟨t, a1, b1⟩ := e
  refine ⟨t, step t ?_, b1⟩
  rw [List.map_cons, show jvv base b (jR ((n : Int) + 1)) = Value.ref (jad base b ((n : Int) + 1)) from rfl, jsz hW] at a1
  rw [hT]
  exact a1
