/-! calls: a method walked from its entry is a contract; a call goes on with what the method's walk ends in -/
theorem jgood : ∀ w ∈ jws, goodWord w = true := fun w hw => (List.mem_filter.mp hw).2
theorem jgoodIn {ws : List Cond} (h : ∀ w ∈ ws, w ∈ jws) : GoodIn jws ws := fun w hw => ⟨h w hw, good_of_word (jgood w (h w hw))⟩
theorem jAOA_moved {t : FieldType} {u U : State} (hvm : u.vm.Alike U.vm) (h : (Cond.arrayOver (.array t)).before #[] u = true) : (Cond.arrayOver (.array t)).before #[] U = true := by
  obtain ⟨comp, c, k, h1, h2, h3, h4, h5⟩ := arrayOverA_spec h
  obtain ⟨k', hk', he⟩ := hvm.2.2 _ _ h3
  have hi : (U.vm.classes.findIdx? fun (x : Class) => match x.kind with | .array component _ => component == comp | _ => false) = some c := by
    have e1 := va_idx_bare U.vm comp
    have e2 := va_idx_bare u.vm comp
    first | rw [hvm.bare_eq] at e2 | rw [← hvm.bare_eq] at e2
    exact e1.symm.trans (e2.trans h2)
  have hkind : k'.kind = .array comp (.array t) := by rw [he]; exact h4
  have f1 : U.vm.findClass (FieldType.array t).toString = some comp := by rw [hvm.findClass]; exact h1
  have f2 : U.vm.findClass ("[" ++ (FieldType.array t).toString) = some c := by rw [hvm.findClass]; exact h5
  unfold Cond.before Cond.holds
  simp only [Cond.value]
  rw [f1, Option.bind_some]
  refine (congrArg (fun o : Option Nat => (o.bind (fun c => (U.vm.classes[c]?).map fun (k : Class) => match k.kind with | .array _ ty => decide (ty = FieldType.array t) && decide (U.vm.findClass ("[" ++ (FieldType.array t).toString) = some c) | _ => false) == some true)) hi).trans ?_
  simp [hk', hkind, f2]
theorem jG.moved {base b : Nat} {D : va_G} {cA : Nat → ClassId} {SC : jE} {u U : State} (hvm : u.vm.Alike U.vm) (hn : jNest u → jNest U) (hh : base ≤ U.heap.size) (hb : U.heap[b]? = u.heap[b]?) (h : jG base b D cA SC u) : jG base b D cA SC U :=
  ⟨va_K.moved hvm h.1, h.2.1, hh, ⟨hn h.2.2.2.1.1, jAOA_moved hvm h.2.2.2.1.2.1, jAOA_moved hvm h.2.2.2.1.2.2.1, va_AO.use (va_AO.moved hvm (va_AO.of h.2.2.2.1.2.2.2))⟩, by
    obtain ⟨n9, f9, e9, hX⟩ := h.2.2.2.2
    exact ⟨n9, f9, e9, (hX.moved hvm).kept hb⟩⟩
def jQc (base b : Nat) (D : va_G) (cA : Nat → ClassId) (SC : jE) (Qz : Option jV → Nat → (Int → jE) → Prop) : Array Value → State → Outcome → State → Prop := fun _ st o t =>
  (∃ (r : Option jV) (n' : Nat) (h' : Int → jE), o = .returned (r.map (jvv base b)) ∧ Qz r n' h' ∧ jW base b D cA SC n' h' t.heap) ∧ va_F (fun q => base ≤ q) st t
def jent : List jV → List jV
  | [] => []
  | .inl x :: t => jI x :: jent t
  | .inr (.inl x) :: t => jL x :: jU :: jent t
  | .inr (.inr (.inl x)) :: t => .inr (.inr (.inl x)) :: jent t
  | .inr (.inr (.inr ())) :: t => jU :: jent t
def jen (maxL : Nat) (As : List jV) : List jV := jent As ++ List.replicate (maxL - (jent As).length) jU
def jnu : jV → Bool
  | .inr (.inr (.inr ())) => false
  | _ => true
theorem jl_rep (base b : Nat) : ∀ (k i : Nat), jl base b i (List.replicate k jU) = []
  | 0, _ => rfl
  | k + 1, i => by rw [List.replicate_succ]; exact jl_rep base b k (i + 1)
theorem jl_args (base b : Nat) (k : Nat) : ∀ (As : List jV) (i : Nat), As.all jnu = true → jl base b i (jent As ++ List.replicate k jU) = lv_args i (As.map (jvv base b))
  | [], i, _ => jl_rep base b k i
  | .inl x :: t, i, h => by
    simp only [List.all_cons, Bool.and_eq_true] at h
    exact congrArg (List.cons (i, jvv base b (.inl x))) (jl_args base b k t (i + 1) h.2)
  | .inr (.inl x) :: t, i, h => by
    simp only [List.all_cons, Bool.and_eq_true] at h
    exact congrArg (List.cons (i, jvv base b (.inr (.inl x)))) (jl_args base b k t (i + 1 + 1) h.2)
  | .inr (.inr (.inl none)) :: t, i, h => by
    simp only [List.all_cons, Bool.and_eq_true] at h
    exact congrArg (List.cons (i, jvv base b (.inr (.inr (.inl none))))) (jl_args base b k t (i + 1) h.2)
  | .inr (.inr (.inl (some x))) :: t, i, h => by
    simp only [List.all_cons, Bool.and_eq_true] at h
    exact congrArg (List.cons (i, jvv base b (.inr (.inr (.inl (some x)))))) (jl_args base b k t (i + 1) h.2)
  | .inr (.inr (.inr ())) :: t, i, h => by simp [jnu] at h
theorem lg_sl_cons (v : Value) (vs : List Value) : (lg_sl (v :: vs)).length = (if v.category = 2 then 2 else 1) + (lg_sl vs).length := by
  unfold lg_sl
  rw [List.flatMap_cons, List.length_append]
  split <;> rfl
theorem jl_sl (base b : Nat) : ∀ (As : List jV), As.all jnu = true → (lg_sl (As.map (jvv base b))).length = (jent As).length
  | [], _ => rfl
  | .inl x :: t, h => by
    simp only [List.all_cons, Bool.and_eq_true] at h
    rw [List.map_cons, lg_sl_cons, jl_sl base b t h.2]
    show 1 + _ = (jent t).length + 1
    omega
  | .inr (.inl x) :: t, h => by
    simp only [List.all_cons, Bool.and_eq_true] at h
    rw [List.map_cons, lg_sl_cons, jl_sl base b t h.2]
    show 2 + _ = (jent t).length + 1 + 1
    omega
  | .inr (.inr (.inl none)) :: t, h => by
    simp only [List.all_cons, Bool.and_eq_true] at h
    rw [List.map_cons, lg_sl_cons, jl_sl base b t h.2]
    show 1 + _ = (jent t).length + 1
    omega
  | .inr (.inr (.inl (some x))) :: t, h => by
    simp only [List.all_cons, Bool.and_eq_true] at h
    rw [List.map_cons, lg_sl_cons, jl_sl base b t h.2]
    show 1 + _ = (jent t).length + 1
    omega
  | .inr (.inr (.inr ())) :: t, h => by simp [jnu] at h
theorem j_met {z : jM} {As : List jV} {n : Nat} {h : Int → jE} {Qz : Option jV → Nat → (Int → jE) → Prop} (hp : plainName z.2.1.cls = true) (hown : z.2.1.cls = z.1) (hu : As.all jnu = true) (hlen : (jent As).length ≤ z.2.2.2.1) (hz : jJ z 0 (jen z.2.2.2.1 As) [] n h 0 0 Qz) (l : Launch) (base b : Nat) (D : va_G) (cA : Nat → ClassId) (SC : jE) :
    Met l z.2.1 (Cond.code z.2.1 z.2.2.1 z.2.2.2.1 z.2.2.2.2.1 :: jws) z.2.2.2.2.2 (va_Pc (As.map (jvv base b)) (fun U => jG base b D cA SC U ∧ jW base b D cA SC n h U.heap)) (jQc base b D cA SC Qz) z.2.2.2.2.2.cells z.2.2.2.2.2.slots (fun q => base ≤ q) := by
  refine Met.ofW (cc := z.2.2.1) (maxL := z.2.2.2.1) (ret := z.2.2.2.2.1) hp rfl ?_
  intro p e s m args below meth c s₁ B hml hv
  obtain ⟨rfl, hG, hW⟩ := hv
  have hts := atoms_spec (ws := Cond.code z.2.1 z.2.2.1 z.2.2.2.1 z.2.2.2.2.1 :: jws) B.pre
  have hown2 : s.vm.findClass z.1 = some m.cls := by rw [← hown]; exact findClass_of_methodNamed B.named
  have hC : jC z p s m (As.map (jvv base b)).toArray meth c := ⟨B.exec, B.bytes, hml, B.returns, hown2, fun w hw => hts w (List.mem_cons_of_mem _ hw), B.notSynchronized, (name_of_methodNamed B.named B.method).1⟩
  have hl := lv_entry (As.map (jvv base b)) (n := z.2.2.2.1) (by rw [jl_sl base b As hu]; exact hlen)
  rw [← jl_args base b (z.2.2.2.1 - (jent As).length) As 0 hu] at hl
  rw [lg_entry_eq]
  refine hz p l e s m _ below meth c base b D cA SC s.heap [] _ _ hC hG hW va_S.rf hl (fun r n' h' H' locs' pc' ls' q hr hW' hS' => ?_)
  rcases hr with ⟨x, rfl, hd, hret⟩ | ⟨x, rfl, hd, hret, hx⟩ | ⟨x, rfl, hd, hret⟩ | ⟨rfl, hd, hret⟩
  · exact W.iret (v := Int32.ofInt x) B.exec B.bytes (B.returns.trans hret) (fun t ht hWm => ⟨⟨some (jI x), n', h', rfl, q, by rw [ht]; exact hW'⟩, hS'.F ht⟩) hS'.2.2 hd
  · exact W.zret (ty := .boolean) (v := Int32.ofInt x) B.exec B.bytes (B.returns.trans hret) (by rcases hx with rfl | rfl <;> rfl) (fun t ht hWm => ⟨⟨some (jI x), n', h', rfl, q, by rw [ht]; exact hW'⟩, hS'.F ht⟩) hS'.2.2 hd
  · exact W.lret (v := Int64.ofInt x) B.exec B.bytes (B.returns.trans hret) (fun t ht hWm => ⟨⟨some (jL x), n', h', rfl, q, by rw [ht]; exact hW'⟩, hS'.F ht⟩) hS'.2.2 hd
  · exact W.vret B.exec B.bytes (B.returns.trans hret) (fun t ht hWm => ⟨⟨none, n', h', rfl, q, by rw [ht]; exact hW'⟩, hS'.F ht⟩) hS'.2.2 hd
section JCALL
variable {p : Program} {l : Launch} {e : Env} {R : Room} {s : State} {m : MethodId} {args : Array Value} {below : List Frame} {meth : Method} {c : Code} {H : Heap} {locs : List Loc} {cells slots : Nat} {Q : State → Prop}
theorem j_after {base b mc ms pc : Nat} {D : va_G} {cA : Nat → ClassId} {SC : jE} {Qz : Option jV → Nat → (Int → jE) → Prop} {lsS : Array Slot} {st0 rest : List Value} {a : Array Value} (hr : va_Run p l e R s m args below meth c H locs cells slots mc ms (F0 m pc lsS st0) rest (jQc base b D cA SC Qz a) (fun q => base ≤ q)) (hS : va_S (fun q => base ≤ q) s.heap H locs)
    (kk : ∀ (r : Option jV) (n' : Nat) (h' : Int → jE) (H' : Heap) (locs' : List Loc), Qz r n' h' → jW base b D cA SC n' h' H' → va_S (fun q => base ≤ q) s.heap H' locs' → W p l e R s m args below meth c H' locs' (cells + mc) (slots + ms) Q (F0 m (pc + 3) lsS ((r.map (jvv base b)).toList ++ rest))) : W p l e R s m args below meth c H locs cells slots Q (F0 m pc lsS st0) := by
  intro T hT X
  obtain ⟨v, st₀, t, T', L, h0, X', hL, e1, e2, ⟨⟨r, n', h', hv, hq, hw⟩, hz, hk⟩, st⟩ := hr T hT X
  cases hv
  rw [h0] at hz hk
  obtain ⟨t2, a1, b1⟩ := kk r n' h' T'.heap (locs ++ L) hq (by rw [e1]; exact hw)
    ⟨Nat.le_trans hS.1 (by rw [e1]; exact hz), fun q h1 h2 => by rw [e1, hk q (Nat.lt_of_lt_of_le h1 hS.1) h2]; exact hS.2.1 q h1 h2, fun q hq => by
      rcases List.mem_append.mp hq with h | h
      · exact hS.2.2 q h
      · exact hL q h⟩ T' rfl X'
  exact ⟨t2, st t2 a1, b1⟩
end JCALL
def jcat : jV → Nat
  | .inr (.inl _) => 2
  | _ => 1
theorem jcat_sum (base b : Nat) : ∀ st : List jV, ((st.map (jvv base b)).map fun v => v.category).sum = (st.map jcat).sum
  | [] => rfl
  | a :: t => by
    simp only [List.map_cons, List.sum_cons]
    rw [jcat_sum base b t]
    congr 1
    obtain x | x | x | x := a
    · rfl
    · rfl
    · cases x <;> rfl
    · rfl
/-- what the tables say of a call's method, whatever the kind of call -/
def jcm (z : jM) (np : Nat) : Prop := Cond.code z.2.1 z.2.2.1 z.2.2.2.1 z.2.2.2.2.1 ∈ jws ∧ Cond.initialized z.1 ∈ jws ∧ z.2.1.cls = z.1 ∧ plainName z.2.1.cls = true ∧ (z.2.1.cls ≠ "java/lang/invoke/MethodHandle" ∧ z.2.1.cls ≠ "java/lang/invoke/VarHandle") ∧ (parseMethodDescriptor z.2.1.desc).map (fun d => d.parameters.length) = some np
def jrm (me z : jM) (nc ns : Nat) : Bool := decide (z.2.2.2.2.2.frames + 1 ≤ me.2.2.2.2.2.frames) && (decide (8 + (z.2.2.2.1 + 11) + z.2.2.2.2.2.locals ≤ me.2.2.2.2.2.locals) && (decide (nc + z.2.2.2.2.2.cells ≤ me.2.2.2.2.2.cells) && decide (ns + z.2.2.2.2.2.slots ≤ me.2.2.2.2.2.slots)))
theorem jblind {As : List jV} {base b : Nat} {D : va_G} {cA : Nat → ClassId} {SC : jE} {n : Nat} {h : Int → jE} : FrameBlind (va_Pc (As.map (jvv base b)) (fun U => jG base b D cA SC U ∧ jW base b D cA SC n h U.heap)) := fun a U g mk q => ⟨q.1, jG.moved (u := U) (U := U.calling g mk a) (Vm.Alike.refl U.vm) (fun hq w hw => va_Nw.same rfl rfl (hq w hw)) q.2.1.2.2.1 rfl q.2.1, q.2.2⟩
theorem jpre {As : List jV} {base b : Nat} {D : va_G} {cA : Nat → ClassId} {SC : jE} {n : Nat} {h : Int → jE} {s : State} {H : Heap} {locs : List Loc} (hS : va_S (fun q => base ≤ q) s.heap H locs) (G : jG base b D cA SC s) (hW : jW base b D cA SC n h H) (U : State) (hU : U.heap = H) (hw : s.WarmedH U.vm) : va_Pc (As.map (jvv base b)) (fun U => jG base b D cA SC U ∧ jW base b D cA SC n h U.heap) (As.map (jvv base b)).toArray U :=
  ⟨rfl, jG.moved hw.alike (fun hq w hw9 => va_Nw.warmM hw (hq w hw9)) (by rw [hU, hW.1]; omega) (by rw [hU]; exact hS.2.1 b (Nat.lt_of_lt_of_le G.2.1 G.2.2.1) (by show ¬ base ≤ b; have := G.2.1; omega)) G, by rw [hU]; exact hW⟩
-- ===== the call rules (gen/calls.py) =====
theorem j_invV {me : jM} {pc : Nat} {ls st : List jV} {n : Nat} {h : Int → jE} {nc ns : Nat} {Q : Option jV → Nat → (Int → jE) → Prop} {z : jM} {x : Int} {idx np : Nat} {Qz : Option jV → Nat → (Int → jE) → Prop} {ls0 : List jV} (As rest : List jV) {ci : Nat} {fs : List jV} (hd : decode me.2.2.1 pc = .ok (.invokevirtual idx, 3)) (hcm : jcm z np) (hw : Cond.methodLink me.1 idx z.2.1 ∈ jws) (hw2 : Cond.instanceMethod z.2.1 ∈ jws) (hw3 : Cond.selects z.1 z.2.1 z.2.1 ∈ jws) (hc : (vwCl[ci]?).map (fun q => q.1) = some z.1) (hk : h x = .inl (ci, fs)) (hroom : jrm me z nc ns = true) (hs : st = As.reverse ++ jR x :: rest) (hnp : As.length = np) (hcat : (rest.map jcat).sum ≤ 8) (hu : (jR x :: As).all jnu = true) (hlen : (jent (jR x :: As)).length ≤ z.2.2.2.1) (hls : jen z.2.2.2.1 (jR x :: As) = ls0) (hx : 0 < x ∧ x ≤ n) (hz : jJ z 0 ls0 [] n h 0 0 Qz) (kk : ∀ r n' h', Qz r n' h' → jJ me (pc + 3) ls (r.toList ++ rest) n' h' (nc + z.2.2.2.2.2.cells) (ns + z.2.2.2.2.2.slots) Q) : jJ me pc ls st n h nc ns Q := by
  intro p l e s m args below meth c base b D cA SC H locs lsS Z C G hW hS hl hZ
  subst hs
  subst hls
  obtain ⟨hcode, hini, hcls, hpl, hmh, hpd⟩ := hcm
  simp only [jrm, Bool.and_eq_true, decide_eq_true_eq] at hroom
  obtain ⟨r1, r2, r3, r4⟩ := hroom
  have hts := C.2.2.2.2.2.1
  have hM := j_met (n := n) (h := h) hpl hcls hu hlen hz l base b D cA SC
  have hini2 : Cond.initialized z.2.1.cls ∈ jws := by rw [hcls]; exact hini
  have hG : ∀ w ∈ (Cond.code z.2.1 z.2.2.1 z.2.2.2.1 z.2.2.2.2.1 :: jws), w ∈ jws := fun w hw => by
    rcases List.mem_cons.mp hw with rfl | hw
    · exact hcode
    · exact hw
  have hrest : 2 * (F0 m pc lsS ((As.reverse ++ jR x :: rest).map (jvv base b))).monitorRoom + ((rest.map (jvv base b)).map fun v => v.category).sum ≤ 8 := by rw [jcat_sum]; show 2 * 0 + _ ≤ 8; omega
  have hstk : (F0 m pc lsS ((As.reverse ++ jR x :: rest).map (jvv base b))).stack = (As.map (jvv base b)).reverse ++ Value.ref (jad base b x) :: rest.map (jvv base b) := by
    show (As.reverse ++ jR x :: rest).map (jvv base b) = _
    rw [List.map_append, List.map_reverse]
    rfl
  have cw : CallW me.2.2.2.2.2 s args me.1 z.1 idx z.2.1 z.2.2.1 z.2.2.2.1 z.2.2.2.2.1 (Cond.code z.2.1 z.2.2.1 z.2.2.2.1 z.2.2.2.2.1 :: jws) z.2.2.2.2.2 z.2.2.2.2.2.cells z.2.2.2.2.2.slots np :=
    cwV np hts (jgoodIn (fun w hw9 => by
      rcases List.mem_append.mp hw9 with q | q
      · simp only [List.mem_cons, List.not_mem_nil, or_false] at q
        rcases q with rfl | rfl | rfl | rfl
        · exact hw
        · exact hw2
        · exact hw3
        · exact hini
      · exact hG w q)) rfl rfl rfl ⟨hcls, hmh.1, hmh.2, hpd⟩ ⟨r1, r2⟩
  have hat := hW.at hx.1 hx.2
  rw [hk] at hat
  have hrecv : ∃ cell : Cell, H[jad base b x]? = some cell ∧ cell.vm.isStatics = false ∧ s.vm.findClass z.1 = some cell.cls := by
    cases hv : vwCl[ci]? with
    | none => rw [hv] at hc; cases hc
    | some q9 =>
      rw [hv] at hc
      have := va_recv G.1 (jP1 hat) hv (q0 := 0) rfl
      rw [show q9.1 = z.1 from Option.some.inj hc] at this
      exact this
  refine j_after (Q := Z) (va_runV (C := z.1) (As := As.map (jvv base b)) (rest := rest.map (jvv base b)) (b := jad base b x) ⟨C.1, C.2.1, C.2.2.1, C.2.2.2.2.1, hts⟩ hM cw ⟨jblind, hrecv, fun U hU hw => jpre hS G hW U hU hw⟩ rfl (by rw [List.length_map]; exact hnp) hl.1 hstk hrest hd ⟨r3, r4⟩) hS (fun r n' h' H' locs' q hW' hS' => ?_)
  have e9 := kk r n' h' q p l e s m args below meth c base b D cA SC H' locs' lsS Z C G hW' hS' hl hZ
  have e8 : (r.map (jvv base b)).toList ++ rest.map (jvv base b) = (r.toList ++ rest).map (jvv base b) := by rw [List.map_append]; cases r <;> rfl
  rw [e8]
  exact e9
theorem j_invS {me : jM} {pc : Nat} {ls st : List jV} {n : Nat} {h : Int → jE} {nc ns : Nat} {Q : Option jV → Nat → (Int → jE) → Prop} {z : jM} {x : Int} {idx np : Nat} {Qz : Option jV → Nat → (Int → jE) → Prop} {ls0 : List jV} (As rest : List jV) (hd : decode me.2.2.1 pc = .ok (.invokestatic idx, 3)) (hcm : jcm z np) (hw : Cond.methodLink me.1 idx z.2.1 ∈ jws) (hw2 : Cond.static z.2.1 ∈ jws) (hroom : jrm me z nc ns = true) (hs : st = As.reverse ++ rest) (hnp : As.length = np) (hcat : (rest.map jcat).sum ≤ 8) (hu : (As).all jnu = true) (hlen : (jent (As)).length ≤ z.2.2.2.1) (hls : jen z.2.2.2.1 (As) = ls0) (hz : jJ z 0 ls0 [] n h 0 0 Qz) (kk : ∀ r n' h', Qz r n' h' → jJ me (pc + 3) ls (r.toList ++ rest) n' h' (nc + z.2.2.2.2.2.cells) (ns + z.2.2.2.2.2.slots) Q) : jJ me pc ls st n h nc ns Q := by
  intro p l e s m args below meth c base b D cA SC H locs lsS Z C G hW hS hl hZ
  subst hs
  subst hls
  obtain ⟨hcode, hini, hcls, hpl, hmh, hpd⟩ := hcm
  simp only [jrm, Bool.and_eq_true, decide_eq_true_eq] at hroom
  obtain ⟨r1, r2, r3, r4⟩ := hroom
  have hts := C.2.2.2.2.2.1
  have hM := j_met (n := n) (h := h) hpl hcls hu hlen hz l base b D cA SC
  have hini2 : Cond.initialized z.2.1.cls ∈ jws := by rw [hcls]; exact hini
  have hG : ∀ w ∈ (Cond.code z.2.1 z.2.2.1 z.2.2.2.1 z.2.2.2.2.1 :: jws), w ∈ jws := fun w hw => by
    rcases List.mem_cons.mp hw with rfl | hw
    · exact hcode
    · exact hw
  have hrest : 2 * (F0 m pc lsS ((As.reverse ++ rest).map (jvv base b))).monitorRoom + ((rest.map (jvv base b)).map fun v => v.category).sum ≤ 8 := by rw [jcat_sum]; show 2 * 0 + _ ≤ 8; omega
  have hstk : (F0 m pc lsS ((As.reverse ++ rest).map (jvv base b))).stack = (As.map (jvv base b)).reverse ++ rest.map (jvv base b) := by
    show (As.reverse ++ rest).map (jvv base b) = _
    rw [List.map_append, List.map_reverse]
  have cw := va_cwS (R := me.2.2.2.2.2) (args := args) (own := me.1) (index := idx) (bytes := z.2.2.1) (maxL := z.2.2.2.1) (ret := z.2.2.2.2.1) (rm := z.2.2.2.2.2) np hts (jgoodIn (ws := va_wsS me.1 idx z.2.1 (Cond.code z.2.1 z.2.2.1 z.2.2.2.1 z.2.2.2.2.1 :: jws)) (fun w hw9 => by
      rcases List.mem_append.mp hw9 with q | q
      · simp only [List.mem_cons, List.not_mem_nil, or_false] at q
        rcases q with rfl | rfl | rfl
        · exact hw
        · exact hw2
        · exact hini2
      · exact hG w q)) rfl rfl rfl ⟨hmh.1, hmh.2, hpd⟩ ⟨r1, r2⟩
  refine j_after (Q := Z) (va_runS (As := As.map (jvv base b)) (rest := rest.map (jvv base b)) ⟨C.1, C.2.1, C.2.2.1, C.2.2.2.2.1, hts⟩ hM cw ⟨jblind, fun U hU hw => jpre hS G hW U hU hw⟩ rfl (by rw [List.length_map]; exact hnp) hl.1 hstk hrest hd ⟨r3, r4⟩) hS (fun r n' h' H' locs' q hW' hS' => ?_)
  have e9 := kk r n' h' q p l e s m args below meth c base b D cA SC H' locs' lsS Z C G hW' hS' hl hZ
  have e8 : (r.map (jvv base b)).toList ++ rest.map (jvv base b) = (r.toList ++ rest).map (jvv base b) := by rw [List.map_append]; cases r <;> rfl
  rw [e8]
  exact e9
theorem j_invSN {me : jM} {pc : Nat} {ls st : List jV} {n : Nat} {h : Int → jE} {nc ns : Nat} {Q : Option jV → Nat → (Int → jE) → Prop} {z : jM} {x : Int} {idx np : Nat} {Qz : Option jV → Nat → (Int → jE) → Prop} {ls0 : List jV} (As rest : List jV) (hd : decode me.2.2.1 pc = .ok (.invokestatic idx, 3)) (hcm : jcm z np) (hw : (me.1, idx, z.2.1) ∈ jnest) (hw2 : Cond.static z.2.1 ∈ jws) (hroom : jrm me z nc ns = true) (hs : st = As.reverse ++ rest) (hnp : As.length = np) (hcat : (rest.map jcat).sum ≤ 8) (hu : (As).all jnu = true) (hlen : (jent (As)).length ≤ z.2.2.2.1) (hls : jen z.2.2.2.1 (As) = ls0) (hz : jJ z 0 ls0 [] n h 0 0 Qz) (kk : ∀ r n' h', Qz r n' h' → jJ me (pc + 3) ls (r.toList ++ rest) n' h' (nc + z.2.2.2.2.2.cells) (ns + z.2.2.2.2.2.slots) Q) : jJ me pc ls st n h nc ns Q := by
  intro p l e s m args below meth c base b D cA SC H locs lsS Z C G hW hS hl hZ
  subst hs
  subst hls
  obtain ⟨hcode, hini, hcls, hpl, hmh, hpd⟩ := hcm
  simp only [jrm, Bool.and_eq_true, decide_eq_true_eq] at hroom
  obtain ⟨r1, r2, r3, r4⟩ := hroom
  have hts := C.2.2.2.2.2.1
  have hM := j_met (n := n) (h := h) hpl hcls hu hlen hz l base b D cA SC
  have hini2 : Cond.initialized z.2.1.cls ∈ jws := by rw [hcls]; exact hini
  have hG : ∀ w ∈ (Cond.code z.2.1 z.2.2.1 z.2.2.2.1 z.2.2.2.2.1 :: jws), w ∈ jws := fun w hw => by
    rcases List.mem_cons.mp hw with rfl | hw
    · exact hcode
    · exact hw
  have hrest : 2 * (F0 m pc lsS ((As.reverse ++ rest).map (jvv base b))).monitorRoom + ((rest.map (jvv base b)).map fun v => v.category).sum ≤ 8 := by rw [jcat_sum]; show 2 * 0 + _ ≤ 8; omega
  have hstk : (F0 m pc lsS ((As.reverse ++ rest).map (jvv base b))).stack = (As.map (jvv base b)).reverse ++ rest.map (jvv base b) := by
    show (As.reverse ++ rest).map (jvv base b) = _
    rw [List.map_append, List.map_reverse]
  have cw := va_cnB (R := me.2.2.2.2.2) (args := args) (own := me.1) (host := "PraiseDrawer") (index := idx) (bytes := z.2.2.1) (maxL := z.2.2.2.1) (ret := z.2.2.2.2.1) (rm := z.2.2.2.2.2) np hts (jgoodIn hG) rfl rfl rfl (G.2.2.2.1.1 _ hw) (hts _ hini2) ⟨hmh.1, hmh.2, hpd⟩ ⟨r1, r2⟩
  refine j_after (Q := Z) (va_runSN (As := As.map (jvv base b)) (rest := rest.map (jvv base b)) ⟨C.1, C.2.1, C.2.2.1, C.2.2.2.2.1, hts⟩ hM ⟨cw, hts _ hw2, trivial⟩ ⟨jblind, fun U hU hw => jpre hS G hW U hU hw⟩ rfl (by rw [List.length_map]; exact hnp) hl.1 hstk hrest hd ⟨r3, r4⟩) hS (fun r n' h' H' locs' q hW' hS' => ?_)
  have e9 := kk r n' h' q p l e s m args below meth c base b D cA SC H' locs' lsS Z C G hW' hS' hl hZ
  have e8 : (r.map (jvv base b)).toList ++ rest.map (jvv base b) = (r.toList ++ rest).map (jvv base b) := by rw [List.map_append]; cases r <;> rfl
  rw [e8]
  exact e9
theorem j_invI {me : jM} {pc : Nat} {ls st : List jV} {n : Nat} {h : Int → jE} {nc ns : Nat} {Q : Option jV → Nat → (Int → jE) → Prop} {z : jM} {x : Int} {idx np : Nat} {Qz : Option jV → Nat → (Int → jE) → Prop} {ls0 : List jV} (As rest : List jV) (hd : decode me.2.2.1 pc = .ok (.invokespecial idx, 3)) (hcm : jcm z np) (hw : Cond.methodLink me.1 idx z.2.1 ∈ jws) (hw2 : Cond.instanceMethod z.2.1 ∈ jws) (hnm : z.2.1.name = "<init>") (hret : z.2.2.2.2.1 = none) (hroom : jrm me z nc ns = true) (hs : st = As.reverse ++ jR x :: rest) (hnp : As.length = np) (hcat : (rest.map jcat).sum ≤ 8) (hu : (jR x :: As).all jnu = true) (hlen : (jent (jR x :: As)).length ≤ z.2.2.2.1) (hls : jen z.2.2.2.1 (jR x :: As) = ls0) (hz : jJ z 0 ls0 [] n h 0 0 Qz) (kk : ∀ r n' h', Qz r n' h' → jJ me (pc + 3) ls (r.toList ++ rest) n' h' (nc + z.2.2.2.2.2.cells) (ns + z.2.2.2.2.2.slots) Q) : jJ me pc ls st n h nc ns Q := by
  intro p l e s m args below meth c base b D cA SC H locs lsS Z C G hW hS hl hZ
  subst hs
  subst hls
  obtain ⟨hcode, hini, hcls, hpl, hmh, hpd⟩ := hcm
  simp only [jrm, Bool.and_eq_true, decide_eq_true_eq] at hroom
  obtain ⟨r1, r2, r3, r4⟩ := hroom
  have hts := C.2.2.2.2.2.1
  have hM := j_met (n := n) (h := h) hpl hcls hu hlen hz l base b D cA SC
  have hini2 : Cond.initialized z.2.1.cls ∈ jws := by rw [hcls]; exact hini
  have hG : ∀ w ∈ (Cond.code z.2.1 z.2.2.1 z.2.2.2.1 z.2.2.2.2.1 :: jws), w ∈ jws := fun w hw => by
    rcases List.mem_cons.mp hw with rfl | hw
    · exact hcode
    · exact hw
  have hrest : 2 * (F0 m pc lsS ((As.reverse ++ jR x :: rest).map (jvv base b))).monitorRoom + ((rest.map (jvv base b)).map fun v => v.category).sum ≤ 8 := by rw [jcat_sum]; show 2 * 0 + _ ≤ 8; omega
  have hstk : (F0 m pc lsS ((As.reverse ++ jR x :: rest).map (jvv base b))).stack = (As.map (jvv base b)).reverse ++ Value.ref (jad base b x) :: rest.map (jvv base b) := by
    show (As.reverse ++ jR x :: rest).map (jvv base b) = _
    rw [List.map_append, List.map_reverse]
    rfl
  rw [hret] at hM hcode
  have cw := cwI (R := me.2.2.2.2.2) (args := args) (own := me.1) (index := idx) (bytes := z.2.2.1) (maxL := z.2.2.2.1) (rm := z.2.2.2.2.2) (ws := Cond.code z.2.1 z.2.2.1 z.2.2.2.1 none :: jws) np hts (jgoodIn (by rw [hret] at hG; exact hG)) rfl rfl rfl (hts _ hini2) (hts _ hw) (hts _ hw2) hnm ⟨hmh.1, hmh.2, hpd⟩ ⟨r1, r2⟩
  refine j_after (Q := Z) (va_runI (As := As.map (jvv base b)) (rest := rest.map (jvv base b)) (b := jad base b x) ⟨C.1, C.2.1, C.2.2.1, C.2.2.2.2.1, hts⟩ hM cw ⟨jblind, fun U hU hw => jpre hS G hW U hU hw⟩ rfl (by rw [List.length_map]; exact hnp) hl.1 hstk hrest hd ⟨r3, r4⟩) hS (fun r n' h' H' locs' q hW' hS' => ?_)
  have e9 := kk r n' h' q p l e s m args below meth c base b D cA SC H' locs' lsS Z C G hW' hS' hl hZ
  have e8 : (r.map (jvv base b)).toList ++ rest.map (jvv base b) = (r.toList ++ rest).map (jvv base b) := by rw [List.map_append]; cases r <;> rfl
  rw [e8]
  exact e9
theorem j_invIN {me : jM} {pc : Nat} {ls st : List jV} {n : Nat} {h : Int → jE} {nc ns : Nat} {Q : Option jV → Nat → (Int → jE) → Prop} {z : jM} {x : Int} {idx np : Nat} {Qz : Option jV → Nat → (Int → jE) → Prop} {ls0 : List jV} (As rest : List jV) (hd : decode me.2.2.1 pc = .ok (.invokespecial idx, 3)) (hcm : jcm z np) (hw : (me.1, idx, z.2.1) ∈ jnest) (hw2 : Cond.instanceMethod z.2.1 ∈ jws) (hnm : z.2.1.name = "<init>") (hret : z.2.2.2.2.1 = none) (hroom : jrm me z nc ns = true) (hs : st = As.reverse ++ jR x :: rest) (hnp : As.length = np) (hcat : (rest.map jcat).sum ≤ 8) (hu : (jR x :: As).all jnu = true) (hlen : (jent (jR x :: As)).length ≤ z.2.2.2.1) (hls : jen z.2.2.2.1 (jR x :: As) = ls0) (hz : jJ z 0 ls0 [] n h 0 0 Qz) (kk : ∀ r n' h', Qz r n' h' → jJ me (pc + 3) ls (r.toList ++ rest) n' h' (nc + z.2.2.2.2.2.cells) (ns + z.2.2.2.2.2.slots) Q) : jJ me pc ls st n h nc ns Q := by
  intro p l e s m args below meth c base b D cA SC H locs lsS Z C G hW hS hl hZ
  subst hs
  subst hls
  obtain ⟨hcode, hini, hcls, hpl, hmh, hpd⟩ := hcm
  simp only [jrm, Bool.and_eq_true, decide_eq_true_eq] at hroom
  obtain ⟨r1, r2, r3, r4⟩ := hroom
  have hts := C.2.2.2.2.2.1
  have hM := j_met (n := n) (h := h) hpl hcls hu hlen hz l base b D cA SC
  have hini2 : Cond.initialized z.2.1.cls ∈ jws := by rw [hcls]; exact hini
  have hG : ∀ w ∈ (Cond.code z.2.1 z.2.2.1 z.2.2.2.1 z.2.2.2.2.1 :: jws), w ∈ jws := fun w hw => by
    rcases List.mem_cons.mp hw with rfl | hw
    · exact hcode
    · exact hw
  have hrest : 2 * (F0 m pc lsS ((As.reverse ++ jR x :: rest).map (jvv base b))).monitorRoom + ((rest.map (jvv base b)).map fun v => v.category).sum ≤ 8 := by rw [jcat_sum]; show 2 * 0 + _ ≤ 8; omega
  have hstk : (F0 m pc lsS ((As.reverse ++ jR x :: rest).map (jvv base b))).stack = (As.map (jvv base b)).reverse ++ Value.ref (jad base b x) :: rest.map (jvv base b) := by
    show (As.reverse ++ jR x :: rest).map (jvv base b) = _
    rw [List.map_append, List.map_reverse]
    rfl
  rw [hret] at hM hcode
  have cw := va_cnB (R := me.2.2.2.2.2) (args := args) (own := me.1) (host := "PraiseDrawer") (index := idx) (bytes := z.2.2.1) (maxL := z.2.2.2.1) (ret := none) (rm := z.2.2.2.2.2) (ws := Cond.code z.2.1 z.2.2.1 z.2.2.2.1 none :: jws) np hts (jgoodIn (by rw [hret] at hG; exact hG)) rfl rfl rfl (G.2.2.2.1.1 _ hw) (hts _ hini2) ⟨hmh.1, hmh.2, hpd⟩ ⟨r1, r2⟩
  refine j_after (Q := Z) (va_runIN (As := As.map (jvv base b)) (rest := rest.map (jvv base b)) (b := jad base b x) ⟨C.1, C.2.1, C.2.2.1, C.2.2.2.2.1, hts⟩ hM ⟨cw, hnm, hts _ hw2⟩ ⟨jblind, fun U hU hw => jpre hS G hW U hU hw⟩ rfl (by rw [List.length_map]; exact hnp) hl.1 hstk hrest hd ⟨r3, r4⟩) hS (fun r n' h' H' locs' q hW' hS' => ?_)
  have e9 := kk r n' h' q p l e s m args below meth c base b D cA SC H' locs' lsS Z C G hW' hS' hl hZ
  have e8 : (r.map (jvv base b)).toList ++ rest.map (jvv base b) = (r.toList ++ rest).map (jvv base b) := by rw [List.map_append]; cases r <;> rfl
  rw [e8]
  exact e9
