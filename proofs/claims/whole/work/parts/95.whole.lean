-- ===== end of PART A; then your names; then what follows =====
/-! THE CLAIM OUT OF ONE WALK OF THE LAW'S BODY. Your part is whole_start (and what it stands on); all else here is the same for every law, but numbers. -/
def R_law : String := "PraiseDrawerLaw"
def lw_P (b : Addr) (xs : List Int32) (args : Array Value) (s : State) : Prop := args = #[.ref b] ∧ s.IntsAt b xs ∧ xs.length ≤ 3072 ∧ (Jvm.Cond.and given_1 narrow_1).before args s = true
def lw_Q (_ : Array Value) (s : State) (o : Outcome) (t : State) : Prop := o = .returned (some (.int 1)) ∧ Framed s o t [] 600000 7302250
def lw_Z (below : List Frame) (a : Array Value) (s : State) : State → Prop := fun t => ∃ o, t.status = .running ∧ Ended t below o ∧ lw_Q a s o t
/-- the law's own end, with 1 on the stack, nothing written that was there before, its room as the claim has it -/
theorem lw_ret {p : Program} {l : Launch} {e : Env} {s : State} {m : MethodId} {below : List Frame} {meth : Method} {c : Code} {b : Nat} (hx : p.tables.exec = Jvm.exec) (hb : c.code = code) (hr : meth.sig.returnType = ret) (hlocks : meth.locks = false) {pc : Nat} {H : Heap} {ls : Array Slot} (hdg : decode code pc = .ok (.ireturn, 1)) : W p l e room_1 s m #[Value.ref b] below meth c H [] 600000 7302250 (lw_Z below #[Value.ref b] s) (F0 m pc ls [.int 1]) := by
  intro T hT X
  obtain ⟨fs, hret, hrun, hended, hW, hframe⟩ := X.leave (v := some (.int 1)) (hlocks := hlocks) (fun h => by rw [hr] at h; cases h)
  have hmeth' : T.vm.method? m = some meth := X.method'
  refine ⟨T.setFrames fs, ?_, .returned (some (.int 1)), hrun, hended, rfl, ⟨_, rfl⟩, hW, hframe⟩
  jvm_step X.here [X.here.top, hx, hb, hdg, hmeth', hr, ret, narrow_b1]
  (try refine ⟨rfl, ?_⟩); (try refine ⟨rfl, ?_⟩)
  first | (intro acts; rw [hret _ acts rfl rfl rfl]) | rw [hret _ _ rfl rfl rfl]
  exact Steps.refl _
/-- what holds at the law's entry: the machine, the code, the tables' words (any of lw_tbl by 'hts w (by decide +kernel)'), the script of L ints xs at the cell b, what the Statement gives of the start (any of its parts by flat_of_before) -/
def lw_At (p : Program) (s : State) (m : MethodId) (meth : Method) (c : Code) (b L : Nat) (xs : Nat → Int32) : Prop :=
  p.tables.exec = Jvm.exec ∧ c.code = code ∧ meth.sig.returnType = ret ∧ c.maxLocals = 4 ∧ s.vm.findClass R_law = some m.cls ∧ (∀ w ∈ lw_tbl, w.before #[Value.ref b] s = true) ∧ va_X b L xs s s.heap ∧ b < s.heap.size ∧ meth.locks = false ∧ (Jvm.Cond.and given_1 narrow_1).before #[Value.ref b] s = true ∧ meth.name = "law"
-- ===== YOUR PART BEGINS =====
theorem law_tail (L : Nat) (xs : Nat → Int32) : jJ mX11_init 226 [jR 143, jI 4] [] 168 (jlay (s1f (scr L xs))) 25 1684 (fun r n9 h9 => r = none ∧ n9 = 168 ∧ ∃ s, h9 = jlay s ∧ Inv (scr L xs) s) := by
  refine j_aload_n dX11_init_226 rfl ?_
  refine j_iconst dX11_init_227 ?_
  refine j_lconst 1 dX11_init_228 rfl ?_
  refine j_invV (z := mX11_sets) (ci := 11) [jI 1, jL 1] [] dX11_init_229 cm_X11_sets ml_X11_85 im_X11_sets se_X11_sets rfl (fs := jfl 0 [some (jR 144), some (jR 145), some (jR 146), some (jR 147), some (jR 148), some (jR 149), some (jR 150), some (jR 151), some (jR 152), some (jR 153), some (jR 154), some (jR 155), some (jR 156), some (jR 157), some (jR 158), some (jR 159), some (jR 160), some (jR 161), some (jR 162), some (jR 163), some (jR 164), some (jR 165), some (jR 166), some (jR 167), some (jR 168)] (s1f (scr L xs) 143)) rfl rfl rfl rfl (by decide) rfl (by decide) rfl (by decide) (sets_init (scr L xs)) (fun r n9 h9 q => ?_)
  obtain ⟨rfl, s, rfl, rfl, iv⟩ := q
  exact j_return (st := []) dX11_init_232 rfl (by decide) ⟨rfl, rfl, s, rfl, iv⟩
set_option maxRecDepth 50000 in
theorem law_start (L : Nat) (xs : Nat → Int32) (hL : L ≤ 3072) : jJ mL_law 0 [jR 0, jU, jU, jU] [] 0 (h0f L xs) 0 0 (fun r _ _ => r = some (jI 1)) := by
  refine j_new (ci := 10) [jN, jN, jN, jN, jN, jN, jN, jN, jN, jN] dL_law_0 ct_X10 cl_L_7 in_X10 it_X10 (fun base b j hj => by rcases (show j = 0 ∨ j = 1 ∨ j = 2 ∨ j = 3 ∨ j = 4 ∨ j = 5 ∨ j = 6 ∨ j = 7 ∨ j = 8 ∨ j = 9 by omega) with rfl | rfl | rfl | rfl | rfl | rfl | rfl | rfl | rfl | rfl <;> rfl) (by decide) ?_
  show jJ mL_law 3 [jR 0, jU, jU, jU] [jR 1] 1 (jup (h0f L xs) 1 (.inl (10, [jN, jN, jN, jN, jN, jN, jN, jN, jN, jN]))) 1 10 _
  refine j_dup dL_law_3 rfl ?_
  refine j_invI [] [jR 1] dL_law_4 cm_X10_init ml_L_9 im_X10_init rfl rfl rfl rfl rfl (by decide) rfl (by decide) rfl (cj_X10_init rfl) (fun r n9 h9 q => ?_)
  obtain ⟨rfl, rfl, rfl⟩ := q
  show jJ mL_law 7 [jR 0, jU, jU, jU] [jR 1] 142 (hA L xs) 142 3844 _
  refine j_astore_n [jR 0, jR 1, jU, jU] dL_law_7 rfl rfl ?_
  refine j_new (ci := 11) [jN, jN, jN, jN, jN, jN, jN, jN, jN, jN, jN, jN, jN, jN, jN, jN, jN, jN, jN, jN, jN, jN, jN, jN, jN] dL_law_8 ct_X11 cl_L_10 in_X11 it_X11 (fun base b j hj => by rcases (show j = 0 ∨ j = 1 ∨ j = 2 ∨ j = 3 ∨ j = 4 ∨ j = 5 ∨ j = 6 ∨ j = 7 ∨ j = 8 ∨ j = 9 ∨ j = 10 ∨ j = 11 ∨ j = 12 ∨ j = 13 ∨ j = 14 ∨ j = 15 ∨ j = 16 ∨ j = 17 ∨ j = 18 ∨ j = 19 ∨ j = 20 ∨ j = 21 ∨ j = 22 ∨ j = 23 ∨ j = 24 by omega) with rfl | rfl | rfl | rfl | rfl | rfl | rfl | rfl | rfl | rfl | rfl | rfl | rfl | rfl | rfl | rfl | rfl | rfl | rfl | rfl | rfl | rfl | rfl | rfl | rfl <;> rfl) (by decide) ?_
  show jJ mL_law 11 [jR 0, jR 1, jU, jU] [jR 143] 143 (jup (hA L xs) 143 (.inl (11, [jN, jN, jN, jN, jN, jN, jN, jN, jN, jN, jN, jN, jN, jN, jN, jN, jN, jN, jN, jN, jN, jN, jN, jN, jN]))) 143 3869 _
  refine j_dup dL_law_11 rfl ?_
  refine j_invI [] [jR 143] dL_law_12 cm_X11_init ml_L_12 im_X11_init rfl rfl rfl rfl rfl (by decide) rfl (by decide) rfl (cj_X11 rfl (j_relay (hb_0 L xs) (hb_all L xs) (law_tail L xs))) (fun r n9 h9 q => ?_)
  obtain ⟨rfl, rfl, s, rfl, iv⟩ := q
  show jJ mL_law 15 [jR 0, jR 1, jU, jU] [jR 143] 168 (jlay s) 168 5553 _
  refine j_astore_n [jR 0, jR 1, jR 143, jU] dL_law_15 rfl rfl ?_
  refine j_iconst dL_law_16 ?_
  refine j_istore_n [jR 0, jR 1, jR 143, jI 0] dL_law_17 rfl rfl ?_
  exact jJ.mono (law_loop (S0 := scr L xs) (by show 0 ≤ scr L xs 0 ∧ scr L xs 0 ≤ 3072; simp only [scr]; rw [if_pos (by omega)]; omega) (scr_r L xs hL) 0 (by omega) (by omega) s iv) (fun r n h q => q.2.choose_spec.2)
theorem jarr {s : State} {cA : ClassId} {kA : Class} {comp : ClassId} {ty : FieldType} (h2 : s.vm.classes[cA]? = some kA) (h3 : kA.kind = .array comp ty) : ArrOfT s cA ty := fun n z => ⟨fun k h => (by cases h), kA, h2, comp, h3⟩
set_option maxHeartbeats 4000000 in
set_option maxRecDepth 100000 in
theorem whole_start {p : Program} {e : Env} {s : State} {m : MethodId} {below : List Frame} {meth : Method} {c : Code} (l : Launch) (hflags : l.flags = flags0) {b L : Nat} {xs : Nat → Int32} (hL : L ≤ 3072) (C0 : lw_At p s m meth c b L xs) : W p l e room_1 s m #[Value.ref b] below meth c s.heap [] 0 0 (lw_Z below #[Value.ref b] s) (entryFrame m ([Value.ref b] : List Value).toArray 4) := by
  obtain ⟨hx, hb, hr, hml, hown, hts, hX, hbl, hlocks, hgv, hnm⟩ := id C0
  obtain ⟨c0, iS0, hKn0⟩ := u_known (C := RX0) (T := TX0) (N := 2) (n := 2) hts (fun w hw => (List.mem_filter.mp (ct_X0.2.2.2 w hw)).1) (hts (.instantiable RX0 2) (List.mem_filter.mp in_X0).1)
  obtain ⟨c1, iS1, hKn1⟩ := u_known (C := RX1) (T := TX1) (N := 5) (n := 5) hts (fun w hw => (List.mem_filter.mp (ct_X1.2.2.2 w hw)).1) (hts (.instantiable RX1 5) (List.mem_filter.mp in_X1).1)
  obtain ⟨c2, iS2, hKn2⟩ := u_known (C := RX2) (T := TX2) (N := 5) (n := 5) hts (fun w hw => (List.mem_filter.mp (ct_X2.2.2.2 w hw)).1) (hts (.instantiable RX2 5) (List.mem_filter.mp in_X2).1)
  obtain ⟨c3, iS3, hKn3⟩ := u_known (C := RX3) (T := TX3) (N := 14) (n := 14) hts (fun w hw => (List.mem_filter.mp (ct_X3.2.2.2 w hw)).1) (hts (.instantiable RX3 14) (List.mem_filter.mp in_X3).1)
  obtain ⟨c4, iS4, hKn4⟩ := u_known (C := RX4) (T := TX4) (N := 5) (n := 5) hts (fun w hw => (List.mem_filter.mp (ct_X4.2.2.2 w hw)).1) (hts (.instantiable RX4 5) (List.mem_filter.mp in_X4).1)
  obtain ⟨c5, iS5, hKn5⟩ := u_known (C := RX5) (T := TX5) (N := 2) (n := 2) hts (fun w hw => (List.mem_filter.mp (ct_X5.2.2.2 w hw)).1) (hts (.instantiable RX5 2) (List.mem_filter.mp in_X5).1)
  obtain ⟨c6, iS6, hKn6⟩ := u_known (C := RX6) (T := TX6) (N := 7) (n := 7) hts (fun w hw => (List.mem_filter.mp (ct_X6.2.2.2 w hw)).1) (hts (.instantiable RX6 7) (List.mem_filter.mp in_X6).1)
  obtain ⟨c7, iS7, hKn7⟩ := u_known (C := RX7) (T := TX7) (N := 2) (n := 2) hts (fun w hw => (List.mem_filter.mp (ct_X7.2.2.2 w hw)).1) (hts (.instantiable RX7 2) (List.mem_filter.mp in_X7).1)
  obtain ⟨c8, iS8, hKn8⟩ := u_known (C := RX8) (T := TX8) (N := 3) (n := 3) hts (fun w hw => (List.mem_filter.mp (ct_X8.2.2.2 w hw)).1) (hts (.instantiable RX8 3) (List.mem_filter.mp in_X8).1)
  obtain ⟨c9, iS9, hKn9⟩ := u_known (C := RX9) (T := TX9) (N := 3) (n := 3) hts (fun w hw => (List.mem_filter.mp (ct_X9.2.2.2 w hw)).1) (hts (.instantiable RX9 3) (List.mem_filter.mp in_X9).1)
  obtain ⟨c10, iS10, hKn10⟩ := u_known (C := RX10) (T := TX10) (N := 10) (n := 10) hts (fun w hw => (List.mem_filter.mp (ct_X10.2.2.2 w hw)).1) (hts (.instantiable RX10 10) (List.mem_filter.mp in_X10).1)
  obtain ⟨c11, iS11, hKn11⟩ := u_known (C := RX11) (T := TX11) (N := 25) (n := 25) hts (fun w hw => (List.mem_filter.mp (ct_X11.2.2.2 w hw)).1) (hts (.instantiable RX11 25) (List.mem_filter.mp in_X11).1)
  obtain ⟨dC, dI, hKc⟩ : ∃ (dC : Nat → ClassId) (dI : Nat → Nat → Nat), ∀ (k : Nat) (q : vw_C), vwCl[k]? = some q → u_Kn s q.1 q.2.1 q.2.2 (dC k) (dI k) := by
    refine ⟨fun k => if k = 0 then c0 else if k = 1 then c1 else if k = 2 then c2 else if k = 3 then c3 else if k = 4 then c4 else if k = 5 then c5 else if k = 6 then c6 else if k = 7 then c7 else if k = 8 then c8 else if k = 9 then c9 else if k = 10 then c10 else c11, fun k => if k = 0 then iS0 else if k = 1 then iS1 else if k = 2 then iS2 else if k = 3 then iS3 else if k = 4 then iS4 else if k = 5 then iS5 else if k = 6 then iS6 else if k = 7 then iS7 else if k = 8 then iS8 else if k = 9 then iS9 else if k = 10 then iS10 else iS11, ?_⟩
    intro k q hq
    match k, hq with
    | 0, hq => cases hq; exact hKn0
    | 1, hq => cases hq; exact hKn1
    | 2, hq => cases hq; exact hKn2
    | 3, hq => cases hq; exact hKn3
    | 4, hq => cases hq; exact hKn4
    | 5, hq => cases hq; exact hKn5
    | 6, hq => cases hq; exact hKn6
    | 7, hq => cases hq; exact hKn7
    | 8, hq => cases hq; exact hKn8
    | 9, hq => cases hq; exact hKn9
    | 10, hq => cases hq; exact hKn10
    | 11, hq => cases hq; exact hKn11
    | k + 12, hq => simp [vwCl] at hq
  have o1 : (Cond.arrayOver (.array .int)).before #[Value.ref b] s = true := hts _ (List.mem_append_right _ (List.mem_of_getElem? (i := 32) (by decide +kernel)))
  have o2 : (Cond.arrayOver (.array .long)).before #[Value.ref b] s = true := hts _ (List.mem_append_right _ (List.mem_of_getElem? (i := 266) (by decide +kernel)))
  have o3 : (Cond.arrayOver (.object "PraiseDrawer$Big")).before #[Value.ref b] s = true := hts _ (List.mem_append_right _ (List.mem_of_getElem? (i := 140) (by decide +kernel)))
  obtain ⟨a0, k0, p0, f0, g0, e0⟩ := Cond.arrayClass_spec (hts _ (List.mem_filter.mp ac_int).1)
  obtain ⟨a1, k1, p1, f1, g1, e1⟩ := Cond.arrayClass_spec (hts _ (List.mem_filter.mp ac_long).1)
  obtain ⟨p2, a2, k2, x2, -, g2, e2, f2⟩ := arrayOverA_spec o1
  obtain ⟨p3, a3, k3, x3, -, g3, e3, f3⟩ := arrayOverA_spec o2
  obtain ⟨p4, a4, k4, x4, -, g4, e4, f4⟩ := Cond.arrayOver_spec o3
  obtain ⟨cA, q0, q1, q2, q3, q4⟩ : ∃ cA : Nat → ClassId, cA 0 = a0 ∧ cA 1 = a1 ∧ cA 2 = a2 ∧ cA 3 = a3 ∧ cA 4 = a4 := ⟨fun k => if k = 0 then a0 else if k = 1 then a1 else if k = 2 then a2 else if k = 3 then a3 else a4, rfl, rfl, rfl, rfl, rfl⟩
  have hK : va_K (dC, dI) vwCl (jtys cA) s := ⟨hKc, fun k q hq => by
    match k, hq with
    | 0, hq => cases hq; rw [q0]; exact ⟨jarr g0 e0, f0⟩
    | 1, hq => cases hq; rw [q1]; exact ⟨jarr g1 e1, f1⟩
    | 2, hq => cases hq; rw [q2]; exact ⟨jarr g2 e2, f2⟩
    | 3, hq => cases hq; rw [q3]; exact ⟨jarr g3 e3, f3⟩
    | 4, hq => cases hq; rw [q4]; exact ⟨jarr g4 e4, k4, p4, g4, e4, x4, f4⟩
    | k + 5, hq => simp [jtys] at hq⟩
  have hC : jC mL_law p s m #[Value.ref b] meth c := ⟨hx, hb, hml, hr, hown, fun w hw => hts w (List.mem_filter.mp hw).1, hlocks, hnm⟩
  have hN : jNest s := fun w hw => by
    simp only [jnest, List.mem_cons, List.not_mem_nil, or_false] at hw
    rcases hw with rfl | rfl | rfl | rfl | rfl | rfl
    · exact va_Nw.of rfl (hts _ (List.mem_append_right _ (List.mem_of_getElem? (i := 27) (by decide +kernel))))
    · exact va_Nw.of rfl (hts _ (List.mem_append_right _ (List.mem_of_getElem? (i := 142) (by decide +kernel))))
    · exact va_Nw.of rfl (hts _ (List.mem_append_right _ (List.mem_of_getElem? (i := 207) (by decide +kernel))))
    · exact va_Nw.of rfl (hts _ (List.mem_append_right _ (List.mem_of_getElem? (i := 292) (by decide +kernel))))
    · exact va_Nw.of rfl (hts _ (List.mem_append_right _ (List.mem_of_getElem? (i := 771) (by decide +kernel))))
    · exact va_Nw.of rfl (hts _ (List.mem_append_right _ (List.mem_of_getElem? (i := 785) (by decide +kernel))))
  have e0 : scr L xs 0 = (L : Int) := by simp [scr]
  have hSC : jSC b (h0f L xs 0) s := ⟨(scr L xs 0).toNat, fun i => scr L xs (i + 1), rfl, by
    obtain ⟨scr9, h1, h2, h3, h4, h5⟩ := hX
    refine ⟨scr9, h1, h2, h3, by rw [e0]; exact h4, fun j hj => ?_⟩
    have hj2 : j < L := by rw [e0] at hj; exact hj
    rw [h5 j hj2]
    show _ = some (Value.int (Int32.ofInt (scr L xs ((j : Int) + 1))))
    unfold scr
    rw [if_neg (by omega), show ((j : Int) + 1 - 1).toNat = j by omega, Int32.ofInt_toInt]⟩
  have hG : jG s.heap.size b (dC, dI) cA (h0f L xs 0) s := ⟨hK, hbl, Nat.le_refl _, ⟨hN, o1, o2, o3⟩, hSC⟩
  have hW : jW s.heap.size b (dC, dI) cA (h0f L xs 0) 0 (h0f L xs) s.heap := ⟨rfl, rfl, fun k h0 hk => by omega⟩
  have hl := lv_entry ([.ref b]) (n := 4) (Nat.le_of_ble_eq_true rfl)
  rw [lg_entry_eq]
  refine law_start L xs hL p l e s m _ below meth c s.heap.size b (dC, dI) cA (h0f L xs 0) s.heap [] _ _ hC hG hW va_S.rf hl (fun r n' h' H' locs' pc' ls' q hr9 hW' hS' => ?_)
  subst q
  rcases hr9 with ⟨x9, q, hd, hret⟩ | ⟨x9, q, hd, hret, hx9⟩ | ⟨x9, q, hd, hret⟩ | ⟨q, hd, hret⟩
  · cases hret
  · cases q
    refine va_forget (fun q hq => hS'.2.2 q hq) ?_
    exact lw_ret hx hb hr hlocks hd
  · cases q
  · cases q
-- ===== YOUR PART ENDS =====
set_option maxHeartbeats 4000000 in
theorem lw_walk (l : Launch) (hflags : l.flags = flags0) (b : Addr) (xs : List Int32) : MetFree l x (headSpec (Jvm.Cond.code x code maxLocals ret :: tables_1) room_1) (lw_P b xs) (fun _ _ _ _ _ => True) lw_Q := by
  refine MetFree.of_bodyS (code := code) (maxLocals := maxLocals) (ret := ret) (by decide) ?_ ?_
  · intro args s m h hn
    obtain ⟨meth, c, h1, h2, h3, h4, h5, h6, -, -⟩ := Cond.code_spec hn (atoms_spec (ws := Jvm.Cond.code x code maxLocals ret :: tables_1) h _ List.mem_cons_self)
    exact ⟨meth, c, h1, h2, h3, h4, h5, h6⟩
  · intro p e s m args below meth c s₁ B hml0 hP _
    obtain ⟨rfl, hx, hbd, hgv⟩ := hP
    obtain ⟨scr, harrAt, hlist, hof, hsmall⟩ := hx
    obtain ⟨hcb, hkn, -, -⟩ := State.arrayAt?_spec harrAt
    have hown : s.vm.findClass R_law = some m.cls := findClass_of_methodNamed B.named
    have hts0 : ∀ c ∈ (Jvm.Cond.code x code maxLocals ret :: tables_1), c.before #[Value.ref b] s = true := atoms_spec (ws := Jvm.Cond.code x code maxLocals ret :: tables_1) B.pre
    have hts : ∀ w ∈ lw_tbl, w.before #[Value.ref b] s = true := k2_hts_sels lw_privs (fun w hw => hts0 w (List.mem_cons_of_mem _ hw)) lw_privs_ok
    have hml : c.maxLocals = 4 := B.maxLocals_eq (hts0 _ List.mem_cons_self)
    have X₀ : Stand p l e room_1 s m #[Value.ref b] below meth c s₁ [] 0 0 := Stand.of_body B
    have hh0 : s₁.heap = s.heap := by rw [B.state]; rfl
    have hsz : scr.slots.size = xs.length := by rw [← Array.length_toList, hlist, List.length_map]
    have hval : ∀ j : Nat, j < xs.length → scr.slots[j]? = some (.int (xs.getD j 0)) := fun j hj => by
      rw [← Array.getElem?_toList, hlist]
      simp [hj]
    have hbl : b < s.heap.size := (Array.getElem?_eq_some_iff.mp hcb).1
    have hX : va_X b xs.length (fun j => xs.getD j 0) s s.heap := ⟨scr, hcb, hof, hkn, hsz, hval⟩
    have K : W p l e room_1 s m #[Value.ref b] below meth c s₁.heap [] 0 0 (lw_Z below #[Value.ref b] s) (entryFrame m ([Value.ref b] : List Value).toArray 4) := by
      rw [hh0]
      exact whole_start l hflags hbd ⟨B.exec, B.bytes, B.returns, hml, hown, hts, hX, hbl, B.notSynchronized, hgv, (name_of_methodNamed B.named B.method).1⟩
    obtain ⟨t, a1, o, b1, b2, b3⟩ := K s₁ rfl X₀
    exact ⟨t, o, a1, b1, b2, b3⟩
theorem lw_pre_spec {args : Array Value} {s : State} (h : (Jvm.Cond.and given_1 narrow_1).before args s = true) (hr : rest_1_c.before args s = true) : ∃ (b : Addr) (xs : List Int32), lw_P b xs args s := by
  have hs := flat_of_before _ h
  have hq := flat_of_before _ hr
  have hc : (Cond.count 1).before args s = true := hs _ (by decide +kernel)
  have harr : (Cond.arrayOf (.arg 0) .int).before args s = true := hs _ (by decide +kernel)
  have hle : (Cond.le (.length (.arg 0)) (.int 3072)).before args s = true := hs _ (by decide +kernel)
  have hlen : (Cond.isInt (.length (.arg 0))).before args s = true := hq _ (by decide +kernel)
  have hall : (Cond.all (.arg 0) (.isInt (.elem (.arg 0) (.index 0)))).before args s = true := hq _ (by decide +kernel)
  obtain ⟨b, xs, hb, hx⟩ := State.ints_of_pre rfl harr hlen hall
  have hsm : xs.length < 2 ^ 31 := hx.choose_spec.2.2.2
  have hev : (Term.length (.arg 0)).eval args s none [] s = some (.int xs.length.toInt32) := hx.length_eval hb
  have hv := Cond.le_ints hev (show (Term.int 3072).eval args s none [] s = some (.int 3072) from rfl)
  have hd : xs.length.toInt32 ≤ 3072 := by
    simpa [Cond.before, Cond.holds, hv] using hle
  have hN : xs.length ≤ 3072 := (Int32.ofNat_le_ofNat hsm (by decide)).mp (show Int32.ofNat xs.length ≤ Int32.ofNat 3072 from hd)
  exact ⟨b, xs, Cond.one_arg hc (show args[0]? = some (.ref b) from hb), hx, hN, h⟩
theorem lw_comes (l : Launch) (hflags : l.flags = flags0) : Comes l x (Jvm.Cond.code x code maxLocals ret :: tables_1) room_1 (fun tb e args s => Calls_1 tb e args s ∧ rest_1 tb e args s ∧ Pre_1 tb e args s)
    (fun _ _ args s o t => lw_Q args s o t) := by
  intro p e ha hc hk s m args below hf hfit hheap happ hpre
  obtain ⟨b, xs, hP⟩ := lw_pre_spec hpre.2.2 hpre.2.1
  obtain ⟨k, o, h1, h2, h3, hQ⟩ := lw_walk l hflags b xs p e ha hc hk s m args below hf ((Spec.applies_iff_loose hf).mp happ).1 hP trivial
  exact ⟨k, o, h1, h2, h3, hQ⟩
theorem lw_frame {s t : State} {o : Outcome} {args : Array Value} (h : Framed s o t [] 600000 7302250) :
    Framed s o t (fieldLocs frame_1_writes args s ++ arrayLocs frame_1_arrays args s ++ staticLocs frame_1_statics s) 600000 7302250 := h
theorem lw_limb (L : Cond) (hL : ∀ (args : Array Value) (s t : State), L.after args s (.returned (some (.int 1))) t = true) :
    ArmFor flags0 classFile x code maxLocals ret World_1 tables_1 room_1 Calls_1 rest_1 Pre_1
      (fun tb e a s o t => postC L tb e a s o t ∧ Framed s o t (fieldLocs frame_1_writes a s ++ arrayLocs frame_1_arrays a s ++ staticLocs frame_1_statics s) 600000 7302250) := by
  intro l hflags _ _ p e ha hc hk s m args below hf hfit hheap happ hpre
  obtain ⟨k, o, h1, h2, h3, rfl, hF⟩ := lw_comes l hflags p e ha hc hk s m args below hf hfit hheap happ hpre
  exact ⟨k, _, h1, h2, h3, hL args s _, lw_frame hF⟩
theorem i_vc : Claimed_1_1 ∧ Claimed_1_2 := ⟨lw_limb limb_1_1 (fun args s t => by simp [limb_1_1, Cond.after, Cond.holds, Cond.value]), lw_limb limb_1_2 (fun args s t => Cond.after_iff.mpr (by
  first | (rw [show limb_1_2 = Cond.eq .result (.int 1) from rfl, Cond.eq_ints (x := 1) (y := 1) rfl rfl]; simp; done) | (simp [limb_1_2, Cond.value, Term.eval]; done)))⟩
