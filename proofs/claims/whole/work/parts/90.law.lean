/-! THE LAW's loop: qK is the machine over the layout, inside the law's own body, where 168 cells and 5553 places have been made -/
def qK (me : jM) (pc : Nat) (ls st : List jV) (s : Int → Int → Int) (Q : Option jV → (Int → Int → Int) → Prop) : Prop := jJ me pc ls st jNT (jlay s) 168 5553 (jQK Q)
theorem q_iconst {me : jM} {pc : Nat} {ls st : List jV} {s : Int → Int → Int} {Q : Option jV → (Int → Int → Int) → Prop} {v : Int} (hd : decode me.2.2.1 pc = .ok (.iconst v, 1)) (k : qK me (pc + 1) ls (jI v :: st) s Q) : qK me (pc) ls (st) s Q := j_iconst hd k
theorem q_bipush {me : jM} {pc : Nat} {ls st : List jV} {s : Int → Int → Int} {Q : Option jV → (Int → Int → Int) → Prop} {v : Int} (hd : decode me.2.2.1 pc = .ok (.bipush v, 2)) (hv : (Int8.ofInt v).toInt32 = Int32.ofInt v) (k : qK me (pc + 2) ls (jI v :: st) s Q) : qK me (pc) ls (st) s Q := j_bipush hd hv k
theorem q_iload_n {me : jM} {pc : Nat} {ls st : List jV} {s : Int → Int → Int} {Q : Option jV → (Int → Int → Int) → Prop} {i : Fin 4} {x : Int} (hd : decode me.2.2.1 pc = .ok (.iload_n i, 1)) (hl0 : ls[(i : Nat)]? = some (jI x)) (k : qK me (pc + 1) ls (jI x :: st) s Q) : qK me (pc) ls (st) s Q := j_iload_n hd hl0 k
theorem q_aload_n {me : jM} {pc : Nat} {ls st : List jV} {s : Int → Int → Int} {Q : Option jV → (Int → Int → Int) → Prop} {i : Fin 4} {x : Int} (hd : decode me.2.2.1 pc = .ok (.aload_n i, 1)) (hl0 : ls[(i : Nat)]? = some (jR x)) (k : qK me (pc + 1) ls (jR x :: st) s Q) : qK me (pc) ls (st) s Q := j_aload_n hd hl0 k
theorem q_istore_n {me : jM} {pc : Nat} {ls st : List jV} {s : Int → Int → Int} {Q : Option jV → (Int → Int → Int) → Prop} {i : Fin 4} {x : Int} (ls' : List jV) (hd : decode me.2.2.1 pc = .ok (.istore_n i, 1)) (hi : decide ((i : Nat) < ls.length) && decide ((i : Nat) < me.2.2.2.1) && jok ls (i : Nat) = true) (hs : ls.set (i : Nat) (jI x) = ls') (k : qK me (pc + 1) ls' st s Q) : qK me (pc) ls (jI x :: st) s Q := j_istore_n ls' hd hi hs k
theorem q_iinc {me : jM} {pc : Nat} {ls st : List jV} {s : Int → Int → Int} {Q : Option jV → (Int → Int → Int) → Prop} {i : Nat} {d x : Int} (ls' : List jV) (hd : decode me.2.2.1 pc = .ok (.iinc i d, 3)) (hl0 : ls[i]? = some (jI x)) (hi : decide (i < ls.length) && decide (i < me.2.2.2.1) && jok ls i = true) (hs : ls.set i (jI (x + d)) = ls') (k : qK me (pc + 3) ls' st s Q) : qK me (pc) ls (st) s Q := j_iinc ls' hd hl0 hi hs k
theorem q_iadd {me : jM} {pc : Nat} {ls st : List jV} {s : Int → Int → Int} {Q : Option jV → (Int → Int → Int) → Prop} {x y : Int} (hd : decode me.2.2.1 pc = .ok (.iadd, 1)) (k : qK me (pc + 1) ls (jI (x + y) :: st) s Q) : qK me (pc) ls (jI y :: jI x :: st) s Q := j_iadd hd k
theorem q_isub {me : jM} {pc : Nat} {ls st : List jV} {s : Int → Int → Int} {Q : Option jV → (Int → Int → Int) → Prop} {x y : Int} (hd : decode me.2.2.1 pc = .ok (.isub, 1)) (k : qK me (pc + 1) ls (jI (x - y) :: st) s Q) : qK me (pc) ls (jI y :: jI x :: st) s Q := j_isub hd k
theorem q_goto {me : jM} {pc : Nat} {ls st : List jV} {s : Int → Int → Int} {Q : Option jV → (Int → Int → Int) → Prop} {off : Int} (tgt : Nat) (hd : decode me.2.2.1 pc = .ok (.goto off, 3)) (ht : (pc : Int) + off = (tgt : Int)) (k : qK me tgt ls st s Q) : qK me pc ls st s Q := j_goto tgt hd ht k
theorem q_icmp_gt {me : jM} {pc : Nat} {ls st : List jV} {s : Int → Int → Int} {Q : Option jV → (Int → Int → Int) → Prop} {x y off : Int} (tgt : Nat) (hd : decode me.2.2.1 pc = .ok (.if_icmp .gt off, 3)) (ht : (pc : Int) + off = (tgt : Int)) (hx : jr32 x) (hy : jr32 y) (kt : y < x → qK me tgt ls st s Q) (kf : ¬ (y < x) → qK me (pc + 3) ls st s Q) : qK me (pc) ls (jI y :: jI x :: st) s Q := j_icmp_gt tgt hd ht hx hy kt kf
theorem q_icmp_eq {me : jM} {pc : Nat} {ls st : List jV} {s : Int → Int → Int} {Q : Option jV → (Int → Int → Int) → Prop} {x y off : Int} (tgt : Nat) (hd : decode me.2.2.1 pc = .ok (.if_icmp .eq off, 3)) (ht : (pc : Int) + off = (tgt : Int)) (hx : jr32 x) (hy : jr32 y) (kt : x = y → qK me tgt ls st s Q) (kf : ¬ (x = y) → qK me (pc + 3) ls st s Q) : qK me (pc) ls (jI y :: jI x :: st) s Q := j_icmp_eq tgt hd ht hx hy kt kf
theorem q_if_eq {me : jM} {pc : Nat} {ls st : List jV} {s : Int → Int → Int} {Q : Option jV → (Int → Int → Int) → Prop} {x off : Int} (tgt : Nat) (hd : decode me.2.2.1 pc = .ok (.ifCond .eq off, 3)) (ht : (pc : Int) + off = (tgt : Int)) (hx : jr32 x) (kt : x = 0 → qK me tgt ls st s Q) (kf : ¬ (x = 0) → qK me (pc + 3) ls st s Q) : qK me (pc) ls (jI x :: st) s Q := j_if_eq tgt hd ht hx kt kf
theorem q_sald {me : jM} {pc : Nat} {ls st : List jV} {s : Int → Int → Int} {Q : Option jV → (Int → Int → Int) → Prop} {i : Int} (hd : decode me.2.2.1 pc = .ok (.iaload, 1)) (hlen : s 0 0 < 2147483648) (hi : 0 ≤ i ∧ i < s 0 0) (k : qK me (pc + 1) ls (jI (s 0 (i + 1)) :: st) s Q) : qK me pc ls (jI i :: jR 0 :: st) s Q :=
  j_sald hd (f := fun i => s 0 (i + 1)) (len := (s 0 0).toNat) (by show jl1 (jsh 0) (s 0) = _; rw [sh_0]; rfl) ⟨hi.1, by omega⟩ (by omega) k
theorem q_slen {me : jM} {pc : Nat} {ls st : List jV} {s : Int → Int → Int} {Q : Option jV → (Int → Int → Int) → Prop} (hd : decode me.2.2.1 pc = .ok (.arraylength, 1)) (hlen : 0 ≤ s 0 0) (k : qK me (pc + 1) ls (jI (s 0 0) :: st) s Q) : qK me pc ls (jR 0 :: st) s Q := by
  refine j_slen hd (len := (s 0 0).toNat) (f := fun i => s 0 (i + 1)) (by show jl1 (jsh 0) (s 0) = _; rw [sh_0]; rfl) ?_
  rw [show (((s 0 0).toNat : Nat) : Int) = s 0 0 by omega]
  exact k
theorem q_and31 {me : jM} {pc : Nat} {ls st : List jV} {s : Int → Int → Int} {Q : Option jV → (Int → Int → Int) → Prop} {x : Int} (hd : decode me.2.2.1 pc = .ok (.iand, 1)) (k : qK me (pc + 1) ls (jI (x % 32) :: st) s Q) : qK me pc ls (jI 31 :: jI x :: st) s Q := j_iand _ hd (jmask32 x 5 (by decide) rfl) k
theorem q_lcmp_same {me : jM} {pc : Nat} {ls st : List jV} {s : Int → Int → Int} {Q : Option jV → (Int → Int → Int) → Prop} {x y : Int} (hd : decode me.2.2.1 pc = .ok (.lcmp, 1)) (hxy : x = y) (k : qK me (pc + 1) ls (jI 0 :: st) s Q) : qK me pc ls (jL y :: jL x :: st) s Q := j_lcmp_same hd hxy k
theorem q_zreturn {me : jM} {pc : Nat} {ls st : List jV} {s : Int → Int → Int} {Q : Option jV → (Int → Int → Int) → Prop} {x : Int} (hd : decode me.2.2.1 pc = .ok (.ireturn, 1)) (hr : me.2.2.2.2.1 = some .boolean) (hc : 168 ≤ me.2.2.2.2.2.cells ∧ 5553 ≤ me.2.2.2.2.2.slots) (hx : x = 0 ∨ x = 1) (hq : Q (some (jI x)) s) : qK me pc ls [jI x] s Q := j_zreturn (st := []) hd hr hc hx ⟨rfl, s, rfl, hq⟩
theorem q_tswC {me : jM} {pc : Nat} {ls st : List jV} {s : Int → Int → Int} {Q : Option jV → (Int → Int → Int) → Prop} {dflt lo hi off : Int} {offs : Array Int} {len : Nat} {x : Int} (i tgt : Nat) (hd : decode me.2.2.1 pc = .ok (.tableswitch dflt lo hi offs, len)) (hx : jr32 x) (hi1 : x = lo + i) (hi2 : lo + i ≤ hi) (ho : offs[i]? = some off) (ht : (pc : Int) + off = (tgt : Int)) (k : qK me tgt ls st s Q) : qK me pc ls (jI x :: st) s Q := j_tswC i tgt hd hx hi1 hi2 ho ht k
theorem q_invV {me : jM} {pc : Nat} {ls st : List jV} {s : Int → Int → Int} {Q : Option jV → (Int → Int → Int) → Prop} {z : jM} {idx np : Nat} {ci : Nat} {fs : List (Option jV)} {x : Int} (As rest : List jV) (hd : decode me.2.2.1 pc = .ok (.invokevirtual idx, 3)) (hcm : jcm z np) (hw : Cond.methodLink me.1 idx z.2.1 ∈ jws) (hw2 : Cond.instanceMethod z.2.1 ∈ jws) (hw3 : Cond.selects z.1 z.2.1 z.2.1 ∈ jws) (hc : (vwCl[ci]?).map (fun q => q.1) = some z.1) (hs : jsh x = .inl (ci, fs)) (hx : 0 < x ∧ x ≤ 168) (hb : (jrm me z 168 5553 && (decide (z.2.2.2.2.2.cells = 0) && (decide (z.2.2.2.2.2.slots = 0) && (decide (As.length = np) && (decide ((rest.map jcat).sum ≤ 8) && ((jR x :: As).all jnu && decide ((jent (jR x :: As)).length ≤ z.2.2.2.1))))))) = true) (hst : st = As.reverse ++ jR x :: rest) {Qz : Option jV → (Int → Int → Int) → Prop} (hz : kR z (jR x :: As) s Qz) (kk : ∀ r s', Qz r s' → qK me (pc + 3) ls (r.toList ++ rest) s' Q) : qK me pc ls st s Q := by
  simp only [Bool.and_eq_true, decide_eq_true_eq] at hb
  obtain ⟨b1, b2, b3, b4, b5, b6, b7⟩ := hb
  refine j_invV As rest hd hcm hw hw2 hw3 hc (fs := jfl 0 fs (s x)) (by show jl1 (jsh x) (s x) = _; rw [hs]; rfl) b1 hst b4 b5 b6 b7 rfl hx hz (fun r n' h' q => ?_)
  obtain ⟨rfl, s', rfl, q⟩ := q
  rw [b2, b3]
  exact kk r s' q
theorem law_word {S0 : Int → Int} {s : Int → Int → Int} {Q : Option jV → (Int → Int → Int) → Prop} {v3 : Int} (hS : s 0 = S0) (h0 : 0 ≤ S0 0 ∧ S0 0 ≤ 3072) (hv : 0 ≤ v3 ∧ v3 + 6 ≤ S0 0) (o : jop mX10_word mX11_word [jI (s 0 (v3 + 1 + 1)), jI (s 0 (v3 + 2 + 1))] S0 s) (k : ∀ s', Inv S0 s' → qK mL_law 1253 [jR 0, jR 1, jR 143, jI v3] [] s' Q) : qK mL_law 176 [jR 0, jR 1, jR 143, jI v3] [] s Q := by
  subst hS
  refine q_aload_n dL_law_176 rfl ?_
  refine q_aload_n dL_law_177 rfl ?_
  refine q_iload_n dL_law_178 rfl ?_
  refine q_iconst dL_law_179 ?_
  refine q_iadd dL_law_180 ?_
  refine q_sald dL_law_181 (by omega) ⟨by omega, by omega⟩ ?_
  refine q_aload_n dL_law_182 rfl ?_
  refine q_iload_n dL_law_183 rfl ?_
  refine q_iconst dL_law_184 ?_
  refine q_iadd dL_law_185 ?_
  refine q_sald dL_law_186 (by omega) ⟨by omega, by omega⟩ ?_
  refine q_invV [jI (s 0 (v3 + 1 + 1)), jI (s 0 (v3 + 2 + 1))] [] dL_law_187 cm_X10_word ml_L_13 im_X10_word se_X10_word rfl sh_1 (by decide) rfl rfl o (fun _ s1 q => ?_)
  obtain ⟨y, rfl, e1, q⟩ := q
  rw [← e1] at h0 hv
  refine q_aload_n dL_law_190 rfl ?_
  refine q_aload_n dL_law_191 rfl ?_
  refine q_iload_n dL_law_192 rfl ?_
  refine q_iconst dL_law_193 ?_
  refine q_iadd dL_law_194 ?_
  refine q_sald dL_law_195 (by omega) ⟨by omega, by omega⟩ ?_
  refine q_aload_n dL_law_196 rfl ?_
  refine q_iload_n dL_law_197 rfl ?_
  refine q_iconst dL_law_198 ?_
  refine q_iadd dL_law_199 ?_
  refine q_sald dL_law_200 (by omega) ⟨by omega, by omega⟩ ?_
  refine q_invV [jI (s1 0 (v3 + 1 + 1)), jI (s1 0 (v3 + 2 + 1))] [jI y] dL_law_201 cm_X11_word ml_L_17 im_X11_word se_X11_word rfl sh_143 (by decide) rfl rfl (by rw [e1]; exact q) (fun _ s2 q2 => ?_)
  obtain ⟨y2, rfl, e2, r2, iv⟩ := q2
  refine q_icmp_eq 1253 dL_law_204 rfl r2 (by rw [e2]; exact r2) (fun _ => ?_) (fun c => absurd e2.symm c)
  exact k s2 iv
theorem law_hand {S0 : Int → Int} {s : Int → Int → Int} {Q : Option jV → (Int → Int → Int) → Prop} {v3 : Int} (hS : s 0 = S0) (h0 : 0 ≤ S0 0 ∧ S0 0 ≤ 3072) (hv : 0 ≤ v3 ∧ v3 + 6 ≤ S0 0) (o : jop mX10_hand mX11_hand [jI (s 0 (v3 + 1 + 1))] S0 s) (k : ∀ s', Inv S0 s' → qK mL_law 1253 [jR 0, jR 1, jR 143, jI v3] [] s' Q) : qK mL_law 209 [jR 0, jR 1, jR 143, jI v3] [] s Q := by
  subst hS
  refine q_aload_n dL_law_209 rfl ?_
  refine q_aload_n dL_law_210 rfl ?_
  refine q_iload_n dL_law_211 rfl ?_
  refine q_iconst dL_law_212 ?_
  refine q_iadd dL_law_213 ?_
  refine q_sald dL_law_214 (by omega) ⟨by omega, by omega⟩ ?_
  refine q_invV [jI (s 0 (v3 + 1 + 1))] [] dL_law_215 cm_X10_hand ml_L_18 im_X10_hand se_X10_hand rfl sh_1 (by decide) rfl rfl o (fun _ s1 q => ?_)
  obtain ⟨y, rfl, e1, q⟩ := q
  rw [← e1] at h0 hv
  refine q_aload_n dL_law_218 rfl ?_
  refine q_aload_n dL_law_219 rfl ?_
  refine q_iload_n dL_law_220 rfl ?_
  refine q_iconst dL_law_221 ?_
  refine q_iadd dL_law_222 ?_
  refine q_sald dL_law_223 (by omega) ⟨by omega, by omega⟩ ?_
  refine q_invV [jI (s1 0 (v3 + 1 + 1))] [jI y] dL_law_224 cm_X11_hand ml_L_22 im_X11_hand se_X11_hand rfl sh_143 (by decide) rfl rfl (by rw [e1]; exact q) (fun _ s2 q2 => ?_)
  obtain ⟨y2, rfl, e2, r2, iv⟩ := q2
  refine q_icmp_eq 1253 dL_law_227 rfl r2 (by rw [e2]; exact r2) (fun _ => ?_) (fun c => absurd e2.symm c)
  exact k s2 iv
theorem law_pupil {S0 : Int → Int} {s : Int → Int → Int} {Q : Option jV → (Int → Int → Int) → Prop} {v3 : Int} (hS : s 0 = S0) (h0 : 0 ≤ S0 0 ∧ S0 0 ≤ 3072) (hv : 0 ≤ v3 ∧ v3 + 6 ≤ S0 0) (o : jop mX10_pupil mX11_pupil [jI (s 0 (v3 + 1 + 1)), jI (s 0 (v3 + 2 + 1))] S0 s) (k : ∀ s', Inv S0 s' → qK mL_law 1253 [jR 0, jR 1, jR 143, jI v3] [] s' Q) : qK mL_law 232 [jR 0, jR 1, jR 143, jI v3] [] s Q := by
  subst hS
  refine q_aload_n dL_law_232 rfl ?_
  refine q_aload_n dL_law_233 rfl ?_
  refine q_iload_n dL_law_234 rfl ?_
  refine q_iconst dL_law_235 ?_
  refine q_iadd dL_law_236 ?_
  refine q_sald dL_law_237 (by omega) ⟨by omega, by omega⟩ ?_
  refine q_aload_n dL_law_238 rfl ?_
  refine q_iload_n dL_law_239 rfl ?_
  refine q_iconst dL_law_240 ?_
  refine q_iadd dL_law_241 ?_
  refine q_sald dL_law_242 (by omega) ⟨by omega, by omega⟩ ?_
  refine q_invV [jI (s 0 (v3 + 1 + 1)), jI (s 0 (v3 + 2 + 1))] [] dL_law_243 cm_X10_pupil ml_L_23 im_X10_pupil se_X10_pupil rfl sh_1 (by decide) rfl rfl o (fun _ s1 q => ?_)
  obtain ⟨y, rfl, e1, q⟩ := q
  rw [← e1] at h0 hv
  refine q_aload_n dL_law_246 rfl ?_
  refine q_aload_n dL_law_247 rfl ?_
  refine q_iload_n dL_law_248 rfl ?_
  refine q_iconst dL_law_249 ?_
  refine q_iadd dL_law_250 ?_
  refine q_sald dL_law_251 (by omega) ⟨by omega, by omega⟩ ?_
  refine q_aload_n dL_law_252 rfl ?_
  refine q_iload_n dL_law_253 rfl ?_
  refine q_iconst dL_law_254 ?_
  refine q_iadd dL_law_255 ?_
  refine q_sald dL_law_256 (by omega) ⟨by omega, by omega⟩ ?_
  refine q_invV [jI (s1 0 (v3 + 1 + 1)), jI (s1 0 (v3 + 2 + 1))] [jI y] dL_law_257 cm_X11_pupil ml_L_26 im_X11_pupil se_X11_pupil rfl sh_143 (by decide) rfl rfl (by rw [e1]; exact q) (fun _ s2 q2 => ?_)
  obtain ⟨y2, rfl, e2, r2, iv⟩ := q2
  refine q_icmp_eq 1253 dL_law_260 rfl r2 (by rw [e2]; exact r2) (fun _ => ?_) (fun c => absurd e2.symm c)
  exact k s2 iv
theorem law_became {S0 : Int → Int} {s : Int → Int → Int} {Q : Option jV → (Int → Int → Int) → Prop} {v3 : Int} (hS : s 0 = S0) (h0 : 0 ≤ S0 0 ∧ S0 0 ≤ 3072) (hv : 0 ≤ v3 ∧ v3 + 6 ≤ S0 0) (o : jop mX10_became mX11_became [jI (s 0 (v3 + 1 + 1)), jI (s 0 (v3 + 2 + 1))] S0 s) (k : ∀ s', Inv S0 s' → qK mL_law 1253 [jR 0, jR 1, jR 143, jI v3] [] s' Q) : qK mL_law 265 [jR 0, jR 1, jR 143, jI v3] [] s Q := by
  subst hS
  refine q_aload_n dL_law_265 rfl ?_
  refine q_aload_n dL_law_266 rfl ?_
  refine q_iload_n dL_law_267 rfl ?_
  refine q_iconst dL_law_268 ?_
  refine q_iadd dL_law_269 ?_
  refine q_sald dL_law_270 (by omega) ⟨by omega, by omega⟩ ?_
  refine q_aload_n dL_law_271 rfl ?_
  refine q_iload_n dL_law_272 rfl ?_
  refine q_iconst dL_law_273 ?_
  refine q_iadd dL_law_274 ?_
  refine q_sald dL_law_275 (by omega) ⟨by omega, by omega⟩ ?_
  refine q_invV [jI (s 0 (v3 + 1 + 1)), jI (s 0 (v3 + 2 + 1))] [] dL_law_276 cm_X10_became ml_L_27 im_X10_became se_X10_became rfl sh_1 (by decide) rfl rfl o (fun _ s1 q => ?_)
  obtain ⟨y, rfl, e1, q⟩ := q
  rw [← e1] at h0 hv
  refine q_aload_n dL_law_279 rfl ?_
  refine q_aload_n dL_law_280 rfl ?_
  refine q_iload_n dL_law_281 rfl ?_
  refine q_iconst dL_law_282 ?_
  refine q_iadd dL_law_283 ?_
  refine q_sald dL_law_284 (by omega) ⟨by omega, by omega⟩ ?_
  refine q_aload_n dL_law_285 rfl ?_
  refine q_iload_n dL_law_286 rfl ?_
  refine q_iconst dL_law_287 ?_
  refine q_iadd dL_law_288 ?_
  refine q_sald dL_law_289 (by omega) ⟨by omega, by omega⟩ ?_
  refine q_invV [jI (s1 0 (v3 + 1 + 1)), jI (s1 0 (v3 + 2 + 1))] [jI y] dL_law_290 cm_X11_became ml_L_30 im_X11_became se_X11_became rfl sh_143 (by decide) rfl rfl (by rw [e1]; exact q) (fun _ s2 q2 => ?_)
  obtain ⟨y2, rfl, e2, r2, iv⟩ := q2
  refine q_icmp_eq 1253 dL_law_293 rfl r2 (by rw [e2]; exact r2) (fun _ => ?_) (fun c => absurd e2.symm c)
  exact k s2 iv
theorem law_letter {S0 : Int → Int} {s : Int → Int → Int} {Q : Option jV → (Int → Int → Int) → Prop} {v3 : Int} (hS : s 0 = S0) (h0 : 0 ≤ S0 0 ∧ S0 0 ≤ 3072) (hv : 0 ≤ v3 ∧ v3 + 6 ≤ S0 0) (o : jop mX10_letter mX11_letter [jI (s 0 (v3 + 1 + 1)), jI (s 0 (v3 + 2 + 1)), jI (s 0 (v3 + 3 + 1))] S0 s) (k : ∀ s', Inv S0 s' → qK mL_law 1253 [jR 0, jR 1, jR 143, jI v3] [] s' Q) : qK mL_law 298 [jR 0, jR 1, jR 143, jI v3] [] s Q := by
  subst hS
  refine q_aload_n dL_law_298 rfl ?_
  refine q_aload_n dL_law_299 rfl ?_
  refine q_iload_n dL_law_300 rfl ?_
  refine q_iconst dL_law_301 ?_
  refine q_iadd dL_law_302 ?_
  refine q_sald dL_law_303 (by omega) ⟨by omega, by omega⟩ ?_
  refine q_aload_n dL_law_304 rfl ?_
  refine q_iload_n dL_law_305 rfl ?_
  refine q_iconst dL_law_306 ?_
  refine q_iadd dL_law_307 ?_
  refine q_sald dL_law_308 (by omega) ⟨by omega, by omega⟩ ?_
  refine q_aload_n dL_law_309 rfl ?_
  refine q_iload_n dL_law_310 rfl ?_
  refine q_iconst dL_law_311 ?_
  refine q_iadd dL_law_312 ?_
  refine q_sald dL_law_313 (by omega) ⟨by omega, by omega⟩ ?_
  refine q_invV [jI (s 0 (v3 + 1 + 1)), jI (s 0 (v3 + 2 + 1)), jI (s 0 (v3 + 3 + 1))] [] dL_law_314 cm_X10_letter ml_L_31 im_X10_letter se_X10_letter rfl sh_1 (by decide) rfl rfl o (fun _ s1 q => ?_)
  obtain ⟨y, rfl, e1, q⟩ := q
  rw [← e1] at h0 hv
  refine q_aload_n dL_law_317 rfl ?_
  refine q_aload_n dL_law_318 rfl ?_
  refine q_iload_n dL_law_319 rfl ?_
  refine q_iconst dL_law_320 ?_
  refine q_iadd dL_law_321 ?_
  refine q_sald dL_law_322 (by omega) ⟨by omega, by omega⟩ ?_
  refine q_aload_n dL_law_323 rfl ?_
  refine q_iload_n dL_law_324 rfl ?_
  refine q_iconst dL_law_325 ?_
  refine q_iadd dL_law_326 ?_
  refine q_sald dL_law_327 (by omega) ⟨by omega, by omega⟩ ?_
  refine q_aload_n dL_law_328 rfl ?_
  refine q_iload_n dL_law_329 rfl ?_
  refine q_iconst dL_law_330 ?_
  refine q_iadd dL_law_331 ?_
  refine q_sald dL_law_332 (by omega) ⟨by omega, by omega⟩ ?_
  refine q_invV [jI (s1 0 (v3 + 1 + 1)), jI (s1 0 (v3 + 2 + 1)), jI (s1 0 (v3 + 3 + 1))] [jI y] dL_law_333 cm_X11_letter ml_L_35 im_X11_letter se_X11_letter rfl sh_143 (by decide) rfl rfl (by rw [e1]; exact q) (fun _ s2 q2 => ?_)
  obtain ⟨y2, rfl, e2, r2, iv⟩ := q2
  refine q_icmp_eq 1253 dL_law_336 rfl r2 (by rw [e2]; exact r2) (fun _ => ?_) (fun c => absurd e2.symm c)
  exact k s2 iv
theorem law_write {S0 : Int → Int} {s : Int → Int → Int} {Q : Option jV → (Int → Int → Int) → Prop} {v3 : Int} (hS : s 0 = S0) (h0 : 0 ≤ S0 0 ∧ S0 0 ≤ 3072) (hv : 0 ≤ v3 ∧ v3 + 6 ≤ S0 0) (o : jop mX10_write mX11_write [jI (s 0 (v3 + 1 + 1)), jI (s 0 (v3 + 2 + 1))] S0 s) (k : ∀ s', Inv S0 s' → qK mL_law 1253 [jR 0, jR 1, jR 143, jI v3] [] s' Q) : qK mL_law 341 [jR 0, jR 1, jR 143, jI v3] [] s Q := by
  subst hS
  refine q_aload_n dL_law_341 rfl ?_
  refine q_aload_n dL_law_342 rfl ?_
  refine q_iload_n dL_law_343 rfl ?_
  refine q_iconst dL_law_344 ?_
  refine q_iadd dL_law_345 ?_
  refine q_sald dL_law_346 (by omega) ⟨by omega, by omega⟩ ?_
  refine q_aload_n dL_law_347 rfl ?_
  refine q_iload_n dL_law_348 rfl ?_
  refine q_iconst dL_law_349 ?_
  refine q_iadd dL_law_350 ?_
  refine q_sald dL_law_351 (by omega) ⟨by omega, by omega⟩ ?_
  refine q_invV [jI (s 0 (v3 + 1 + 1)), jI (s 0 (v3 + 2 + 1))] [] dL_law_352 cm_X10_write ml_L_36 im_X10_write se_X10_write rfl sh_1 (by decide) rfl rfl o (fun _ s1 q => ?_)
  obtain ⟨y, rfl, e1, q⟩ := q
  rw [← e1] at h0 hv
  refine q_aload_n dL_law_355 rfl ?_
  refine q_aload_n dL_law_356 rfl ?_
  refine q_iload_n dL_law_357 rfl ?_
  refine q_iconst dL_law_358 ?_
  refine q_iadd dL_law_359 ?_
  refine q_sald dL_law_360 (by omega) ⟨by omega, by omega⟩ ?_
  refine q_aload_n dL_law_361 rfl ?_
  refine q_iload_n dL_law_362 rfl ?_
  refine q_iconst dL_law_363 ?_
  refine q_iadd dL_law_364 ?_
  refine q_sald dL_law_365 (by omega) ⟨by omega, by omega⟩ ?_
  refine q_invV [jI (s1 0 (v3 + 1 + 1)), jI (s1 0 (v3 + 2 + 1))] [jI y] dL_law_366 cm_X11_write ml_L_39 im_X11_write se_X11_write rfl sh_143 (by decide) rfl rfl (by rw [e1]; exact q) (fun _ s2 q2 => ?_)
  obtain ⟨y2, rfl, e2, r2, iv⟩ := q2
  refine q_icmp_eq 1253 dL_law_369 rfl r2 (by rw [e2]; exact r2) (fun _ => ?_) (fun c => absurd e2.symm c)
  exact k s2 iv
theorem law_weight {S0 : Int → Int} {s : Int → Int → Int} {Q : Option jV → (Int → Int → Int) → Prop} {v3 : Int} (hS : s 0 = S0) (h0 : 0 ≤ S0 0 ∧ S0 0 ≤ 3072) (hv : 0 ≤ v3 ∧ v3 + 6 ≤ S0 0) (o : jop mX10_weight mX11_weight [jI (s 0 (v3 + 1 + 1)), jI (s 0 (v3 + 2 + 1))] S0 s) (k : ∀ s', Inv S0 s' → qK mL_law 1253 [jR 0, jR 1, jR 143, jI v3] [] s' Q) : qK mL_law 374 [jR 0, jR 1, jR 143, jI v3] [] s Q := by
  subst hS
  refine q_aload_n dL_law_374 rfl ?_
  refine q_aload_n dL_law_375 rfl ?_
  refine q_iload_n dL_law_376 rfl ?_
  refine q_iconst dL_law_377 ?_
  refine q_iadd dL_law_378 ?_
  refine q_sald dL_law_379 (by omega) ⟨by omega, by omega⟩ ?_
  refine q_aload_n dL_law_380 rfl ?_
  refine q_iload_n dL_law_381 rfl ?_
  refine q_iconst dL_law_382 ?_
  refine q_iadd dL_law_383 ?_
  refine q_sald dL_law_384 (by omega) ⟨by omega, by omega⟩ ?_
  refine q_invV [jI (s 0 (v3 + 1 + 1)), jI (s 0 (v3 + 2 + 1))] [] dL_law_385 cm_X10_weight ml_L_40 im_X10_weight se_X10_weight rfl sh_1 (by decide) rfl rfl o (fun _ s1 q => ?_)
  obtain ⟨y, rfl, e1, q⟩ := q
  rw [← e1] at h0 hv
  refine q_aload_n dL_law_388 rfl ?_
  refine q_aload_n dL_law_389 rfl ?_
  refine q_iload_n dL_law_390 rfl ?_
  refine q_iconst dL_law_391 ?_
  refine q_iadd dL_law_392 ?_
  refine q_sald dL_law_393 (by omega) ⟨by omega, by omega⟩ ?_
  refine q_aload_n dL_law_394 rfl ?_
  refine q_iload_n dL_law_395 rfl ?_
  refine q_iconst dL_law_396 ?_
  refine q_iadd dL_law_397 ?_
  refine q_sald dL_law_398 (by omega) ⟨by omega, by omega⟩ ?_
  refine q_invV [jI (s1 0 (v3 + 1 + 1)), jI (s1 0 (v3 + 2 + 1))] [jI y] dL_law_399 cm_X11_weight ml_L_43 im_X11_weight se_X11_weight rfl sh_143 (by decide) rfl rfl (by rw [e1]; exact q) (fun _ s2 q2 => ?_)
  obtain ⟨y2, rfl, e2, r2, iv⟩ := q2
  refine q_icmp_eq 1253 dL_law_402 rfl r2 (by rw [e2]; exact r2) (fun _ => ?_) (fun c => absurd e2.symm c)
  exact k s2 iv
theorem law_uses {S0 : Int → Int} {s : Int → Int → Int} {Q : Option jV → (Int → Int → Int) → Prop} {v3 : Int} (hS : s 0 = S0) (h0 : 0 ≤ S0 0 ∧ S0 0 ≤ 3072) (hv : 0 ≤ v3 ∧ v3 + 6 ≤ S0 0) (o : jop mX10_uses mX11_uses [jI (s 0 (v3 + 1 + 1)), jI (s 0 (v3 + 2 + 1)), jI (s 0 (v3 + 3 + 1))] S0 s) (k : ∀ s', Inv S0 s' → qK mL_law 1253 [jR 0, jR 1, jR 143, jI v3] [] s' Q) : qK mL_law 407 [jR 0, jR 1, jR 143, jI v3] [] s Q := by
  subst hS
  refine q_aload_n dL_law_407 rfl ?_
  refine q_aload_n dL_law_408 rfl ?_
  refine q_iload_n dL_law_409 rfl ?_
  refine q_iconst dL_law_410 ?_
  refine q_iadd dL_law_411 ?_
  refine q_sald dL_law_412 (by omega) ⟨by omega, by omega⟩ ?_
  refine q_aload_n dL_law_413 rfl ?_
  refine q_iload_n dL_law_414 rfl ?_
  refine q_iconst dL_law_415 ?_
  refine q_iadd dL_law_416 ?_
  refine q_sald dL_law_417 (by omega) ⟨by omega, by omega⟩ ?_
  refine q_aload_n dL_law_418 rfl ?_
  refine q_iload_n dL_law_419 rfl ?_
  refine q_iconst dL_law_420 ?_
  refine q_iadd dL_law_421 ?_
  refine q_sald dL_law_422 (by omega) ⟨by omega, by omega⟩ ?_
  refine q_invV [jI (s 0 (v3 + 1 + 1)), jI (s 0 (v3 + 2 + 1)), jI (s 0 (v3 + 3 + 1))] [] dL_law_423 cm_X10_uses ml_L_44 im_X10_uses se_X10_uses rfl sh_1 (by decide) rfl rfl o (fun _ s1 q => ?_)
  obtain ⟨y, rfl, e1, q⟩ := q
  rw [← e1] at h0 hv
  refine q_aload_n dL_law_426 rfl ?_
  refine q_aload_n dL_law_427 rfl ?_
  refine q_iload_n dL_law_428 rfl ?_
  refine q_iconst dL_law_429 ?_
  refine q_iadd dL_law_430 ?_
  refine q_sald dL_law_431 (by omega) ⟨by omega, by omega⟩ ?_
  refine q_aload_n dL_law_432 rfl ?_
  refine q_iload_n dL_law_433 rfl ?_
  refine q_iconst dL_law_434 ?_
  refine q_iadd dL_law_435 ?_
  refine q_sald dL_law_436 (by omega) ⟨by omega, by omega⟩ ?_
  refine q_aload_n dL_law_437 rfl ?_
  refine q_iload_n dL_law_438 rfl ?_
  refine q_iconst dL_law_439 ?_
  refine q_iadd dL_law_440 ?_
  refine q_sald dL_law_441 (by omega) ⟨by omega, by omega⟩ ?_
  refine q_invV [jI (s1 0 (v3 + 1 + 1)), jI (s1 0 (v3 + 2 + 1)), jI (s1 0 (v3 + 3 + 1))] [jI y] dL_law_442 cm_X11_uses ml_L_47 im_X11_uses se_X11_uses rfl sh_143 (by decide) rfl rfl (by rw [e1]; exact q) (fun _ s2 q2 => ?_)
  obtain ⟨y2, rfl, e2, r2, iv⟩ := q2
  refine q_icmp_eq 1253 dL_law_445 rfl r2 (by rw [e2]; exact r2) (fun _ => ?_) (fun c => absurd e2.symm c)
  exact k s2 iv
theorem law_means {S0 : Int → Int} {s : Int → Int → Int} {Q : Option jV → (Int → Int → Int) → Prop} {v3 : Int} (hS : s 0 = S0) (h0 : 0 ≤ S0 0 ∧ S0 0 ≤ 3072) (hv : 0 ≤ v3 ∧ v3 + 6 ≤ S0 0) (o : jop mX10_means mX11_means [jI (s 0 (v3 + 1 + 1)), jI (s 0 (v3 + 2 + 1)), jI (s 0 (v3 + 3 + 1))] S0 s) (k : ∀ s', Inv S0 s' → qK mL_law 1253 [jR 0, jR 1, jR 143, jI v3] [] s' Q) : qK mL_law 450 [jR 0, jR 1, jR 143, jI v3] [] s Q := by
  subst hS
  refine q_aload_n dL_law_450 rfl ?_
  refine q_aload_n dL_law_451 rfl ?_
  refine q_iload_n dL_law_452 rfl ?_
  refine q_iconst dL_law_453 ?_
  refine q_iadd dL_law_454 ?_
  refine q_sald dL_law_455 (by omega) ⟨by omega, by omega⟩ ?_
  refine q_aload_n dL_law_456 rfl ?_
  refine q_iload_n dL_law_457 rfl ?_
  refine q_iconst dL_law_458 ?_
  refine q_iadd dL_law_459 ?_
  refine q_sald dL_law_460 (by omega) ⟨by omega, by omega⟩ ?_
  refine q_aload_n dL_law_461 rfl ?_
  refine q_iload_n dL_law_462 rfl ?_
  refine q_iconst dL_law_463 ?_
  refine q_iadd dL_law_464 ?_
  refine q_sald dL_law_465 (by omega) ⟨by omega, by omega⟩ ?_
  refine q_invV [jI (s 0 (v3 + 1 + 1)), jI (s 0 (v3 + 2 + 1)), jI (s 0 (v3 + 3 + 1))] [] dL_law_466 cm_X10_means ml_L_48 im_X10_means se_X10_means rfl sh_1 (by decide) rfl rfl o (fun _ s1 q => ?_)
  obtain ⟨y, rfl, e1, q⟩ := q
  rw [← e1] at h0 hv
  refine q_aload_n dL_law_469 rfl ?_
  refine q_aload_n dL_law_470 rfl ?_
  refine q_iload_n dL_law_471 rfl ?_
  refine q_iconst dL_law_472 ?_
  refine q_iadd dL_law_473 ?_
  refine q_sald dL_law_474 (by omega) ⟨by omega, by omega⟩ ?_
  refine q_aload_n dL_law_475 rfl ?_
  refine q_iload_n dL_law_476 rfl ?_
  refine q_iconst dL_law_477 ?_
  refine q_iadd dL_law_478 ?_
  refine q_sald dL_law_479 (by omega) ⟨by omega, by omega⟩ ?_
  refine q_aload_n dL_law_480 rfl ?_
  refine q_iload_n dL_law_481 rfl ?_
  refine q_iconst dL_law_482 ?_
  refine q_iadd dL_law_483 ?_
  refine q_sald dL_law_484 (by omega) ⟨by omega, by omega⟩ ?_
  refine q_invV [jI (s1 0 (v3 + 1 + 1)), jI (s1 0 (v3 + 2 + 1)), jI (s1 0 (v3 + 3 + 1))] [jI y] dL_law_485 cm_X11_means ml_L_51 im_X11_means se_X11_means rfl sh_143 (by decide) rfl rfl (by rw [e1]; exact q) (fun _ s2 q2 => ?_)
  obtain ⟨y2, rfl, e2, r2, iv⟩ := q2
  refine q_icmp_eq 1253 dL_law_488 rfl r2 (by rw [e2]; exact r2) (fun _ => ?_) (fun c => absurd e2.symm c)
  exact k s2 iv
theorem law_odds {S0 : Int → Int} {s : Int → Int → Int} {Q : Option jV → (Int → Int → Int) → Prop} {v3 : Int} (hS : s 0 = S0) (h0 : 0 ≤ S0 0 ∧ S0 0 ≤ 3072) (hv : 0 ≤ v3 ∧ v3 + 6 ≤ S0 0) (o : jop mX10_odds mX11_odds [jI (s 0 (v3 + 1 + 1)), jI (s 0 (v3 + 2 + 1))] S0 s) (k : ∀ s', Inv S0 s' → qK mL_law 1253 [jR 0, jR 1, jR 143, jI v3] [] s' Q) : qK mL_law 493 [jR 0, jR 1, jR 143, jI v3] [] s Q := by
  subst hS
  refine q_aload_n dL_law_493 rfl ?_
  refine q_aload_n dL_law_494 rfl ?_
  refine q_iload_n dL_law_495 rfl ?_
  refine q_iconst dL_law_496 ?_
  refine q_iadd dL_law_497 ?_
  refine q_sald dL_law_498 (by omega) ⟨by omega, by omega⟩ ?_
  refine q_aload_n dL_law_499 rfl ?_
  refine q_iload_n dL_law_500 rfl ?_
  refine q_iconst dL_law_501 ?_
  refine q_iadd dL_law_502 ?_
  refine q_sald dL_law_503 (by omega) ⟨by omega, by omega⟩ ?_
  refine q_invV [jI (s 0 (v3 + 1 + 1)), jI (s 0 (v3 + 2 + 1))] [] dL_law_504 cm_X10_odds ml_L_52 im_X10_odds se_X10_odds rfl sh_1 (by decide) rfl rfl o (fun _ s1 q => ?_)
  obtain ⟨y, rfl, e1, q⟩ := q
  rw [← e1] at h0 hv
  refine q_aload_n dL_law_507 rfl ?_
  refine q_aload_n dL_law_508 rfl ?_
  refine q_iload_n dL_law_509 rfl ?_
  refine q_iconst dL_law_510 ?_
  refine q_iadd dL_law_511 ?_
  refine q_sald dL_law_512 (by omega) ⟨by omega, by omega⟩ ?_
  refine q_aload_n dL_law_513 rfl ?_
  refine q_iload_n dL_law_514 rfl ?_
  refine q_iconst dL_law_515 ?_
  refine q_iadd dL_law_516 ?_
  refine q_sald dL_law_517 (by omega) ⟨by omega, by omega⟩ ?_
  refine q_invV [jI (s1 0 (v3 + 1 + 1)), jI (s1 0 (v3 + 2 + 1))] [jI y] dL_law_518 cm_X11_odds ml_L_55 im_X11_odds se_X11_odds rfl sh_143 (by decide) rfl rfl (by rw [e1]; exact q) (fun _ s2 q2 => ?_)
  obtain ⟨y2, rfl, e2, r2, iv⟩ := q2
  refine q_icmp_eq 1253 dL_law_521 rfl r2 (by rw [e2]; exact r2) (fun _ => ?_) (fun c => absurd e2.symm c)
  exact k s2 iv
theorem law_likeliest {S0 : Int → Int} {s : Int → Int → Int} {Q : Option jV → (Int → Int → Int) → Prop} {v3 : Int} (hS : s 0 = S0) (h0 : 0 ≤ S0 0 ∧ S0 0 ≤ 3072) (hv : 0 ≤ v3 ∧ v3 + 6 ≤ S0 0) (o : jop mX10_likeliest mX11_likeliest [jI (s 0 (v3 + 1 + 1))] S0 s) (k : ∀ s', Inv S0 s' → qK mL_law 1253 [jR 0, jR 1, jR 143, jI v3] [] s' Q) : qK mL_law 526 [jR 0, jR 1, jR 143, jI v3] [] s Q := by
  subst hS
  refine q_aload_n dL_law_526 rfl ?_
  refine q_aload_n dL_law_527 rfl ?_
  refine q_iload_n dL_law_528 rfl ?_
  refine q_iconst dL_law_529 ?_
  refine q_iadd dL_law_530 ?_
  refine q_sald dL_law_531 (by omega) ⟨by omega, by omega⟩ ?_
  refine q_invV [jI (s 0 (v3 + 1 + 1))] [] dL_law_532 cm_X10_likeliest ml_L_56 im_X10_likeliest se_X10_likeliest rfl sh_1 (by decide) rfl rfl o (fun _ s1 q => ?_)
  obtain ⟨y, rfl, e1, q⟩ := q
  rw [← e1] at h0 hv
  refine q_aload_n dL_law_535 rfl ?_
  refine q_aload_n dL_law_536 rfl ?_
  refine q_iload_n dL_law_537 rfl ?_
  refine q_iconst dL_law_538 ?_
  refine q_iadd dL_law_539 ?_
  refine q_sald dL_law_540 (by omega) ⟨by omega, by omega⟩ ?_
  refine q_invV [jI (s1 0 (v3 + 1 + 1))] [jI y] dL_law_541 cm_X11_likeliest ml_L_59 im_X11_likeliest se_X11_likeliest rfl sh_143 (by decide) rfl rfl (by rw [e1]; exact q) (fun _ s2 q2 => ?_)
  obtain ⟨y2, rfl, e2, r2, iv⟩ := q2
  refine q_icmp_eq 1253 dL_law_544 rfl r2 (by rw [e2]; exact r2) (fun _ => ?_) (fun c => absurd e2.symm c)
  exact k s2 iv
theorem law_says {S0 : Int → Int} {s : Int → Int → Int} {Q : Option jV → (Int → Int → Int) → Prop} {v3 : Int} (hS : s 0 = S0) (h0 : 0 ≤ S0 0 ∧ S0 0 ≤ 3072) (hv : 0 ≤ v3 ∧ v3 + 6 ≤ S0 0) (o : jop mX10_says mX11_says [jI (s 0 (v3 + 1 + 1))] S0 s) (k : ∀ s', Inv S0 s' → qK mL_law 1253 [jR 0, jR 1, jR 143, jI v3] [] s' Q) : qK mL_law 549 [jR 0, jR 1, jR 143, jI v3] [] s Q := by
  subst hS
  refine q_aload_n dL_law_549 rfl ?_
  refine q_aload_n dL_law_550 rfl ?_
  refine q_iload_n dL_law_551 rfl ?_
  refine q_iconst dL_law_552 ?_
  refine q_iadd dL_law_553 ?_
  refine q_sald dL_law_554 (by omega) ⟨by omega, by omega⟩ ?_
  refine q_invV [jI (s 0 (v3 + 1 + 1))] [] dL_law_555 cm_X10_says ml_L_60 im_X10_says se_X10_says rfl sh_1 (by decide) rfl rfl o (fun _ s1 q => ?_)
  obtain ⟨y, rfl, e1, q⟩ := q
  rw [← e1] at h0 hv
  refine q_aload_n dL_law_558 rfl ?_
  refine q_aload_n dL_law_559 rfl ?_
  refine q_iload_n dL_law_560 rfl ?_
  refine q_iconst dL_law_561 ?_
  refine q_iadd dL_law_562 ?_
  refine q_sald dL_law_563 (by omega) ⟨by omega, by omega⟩ ?_
  refine q_invV [jI (s1 0 (v3 + 1 + 1))] [jI y] dL_law_564 cm_X11_says ml_L_63 im_X11_says se_X11_says rfl sh_143 (by decide) rfl rfl (by rw [e1]; exact q) (fun _ s2 q2 => ?_)
  obtain ⟨y2, rfl, e2, r2, iv⟩ := q2
  refine q_icmp_eq 1253 dL_law_567 rfl r2 (by rw [e2]; exact r2) (fun _ => ?_) (fun c => absurd e2.symm c)
  exact k s2 iv
theorem law_year {S0 : Int → Int} {s : Int → Int → Int} {Q : Option jV → (Int → Int → Int) → Prop} {v3 : Int} (hS : s 0 = S0) (h0 : 0 ≤ S0 0 ∧ S0 0 ≤ 3072) (hv : 0 ≤ v3 ∧ v3 + 6 ≤ S0 0) (o : jop mX10_year mX11_year [jI (s 0 (v3 + 1 + 1)), jI (s 0 (v3 + 2 + 1))] S0 s) (k : ∀ s', Inv S0 s' → qK mL_law 1253 [jR 0, jR 1, jR 143, jI v3] [] s' Q) : qK mL_law 572 [jR 0, jR 1, jR 143, jI v3] [] s Q := by
  subst hS
  refine q_aload_n dL_law_572 rfl ?_
  refine q_aload_n dL_law_573 rfl ?_
  refine q_iload_n dL_law_574 rfl ?_
  refine q_iconst dL_law_575 ?_
  refine q_iadd dL_law_576 ?_
  refine q_sald dL_law_577 (by omega) ⟨by omega, by omega⟩ ?_
  refine q_aload_n dL_law_578 rfl ?_
  refine q_iload_n dL_law_579 rfl ?_
  refine q_iconst dL_law_580 ?_
  refine q_iadd dL_law_581 ?_
  refine q_sald dL_law_582 (by omega) ⟨by omega, by omega⟩ ?_
  refine q_invV [jI (s 0 (v3 + 1 + 1)), jI (s 0 (v3 + 2 + 1))] [] dL_law_583 cm_X10_year ml_L_64 im_X10_year se_X10_year rfl sh_1 (by decide) rfl rfl o (fun _ s1 q => ?_)
  obtain ⟨y, rfl, e1, q⟩ := q
  rw [← e1] at h0 hv
  refine q_aload_n dL_law_586 rfl ?_
  refine q_aload_n dL_law_587 rfl ?_
  refine q_iload_n dL_law_588 rfl ?_
  refine q_iconst dL_law_589 ?_
  refine q_iadd dL_law_590 ?_
  refine q_sald dL_law_591 (by omega) ⟨by omega, by omega⟩ ?_
  refine q_aload_n dL_law_592 rfl ?_
  refine q_iload_n dL_law_593 rfl ?_
  refine q_iconst dL_law_594 ?_
  refine q_iadd dL_law_595 ?_
  refine q_sald dL_law_596 (by omega) ⟨by omega, by omega⟩ ?_
  refine q_invV [jI (s1 0 (v3 + 1 + 1)), jI (s1 0 (v3 + 2 + 1))] [jI y] dL_law_597 cm_X11_year ml_L_67 im_X11_year se_X11_year rfl sh_143 (by decide) rfl rfl (by rw [e1]; exact q) (fun _ s2 q2 => ?_)
  obtain ⟨y2, rfl, e2, r2, iv⟩ := q2
  refine q_icmp_eq 1253 dL_law_600 rfl r2 (by rw [e2]; exact r2) (fun _ => ?_) (fun c => absurd e2.symm c)
  exact k s2 iv
theorem law_asIn {S0 : Int → Int} {s : Int → Int → Int} {Q : Option jV → (Int → Int → Int) → Prop} {v3 : Int} (hS : s 0 = S0) (h0 : 0 ≤ S0 0 ∧ S0 0 ≤ 3072) (hv : 0 ≤ v3 ∧ v3 + 6 ≤ S0 0) (o : jop mX10_asIn mX11_asIn [jI (s 0 (v3 + 1 + 1)), jI (s 0 (v3 + 2 + 1)), jI (s 0 (v3 + 3 + 1))] S0 s) (k : ∀ s', Inv S0 s' → qK mL_law 1253 [jR 0, jR 1, jR 143, jI v3] [] s' Q) : qK mL_law 605 [jR 0, jR 1, jR 143, jI v3] [] s Q := by
  subst hS
  refine q_aload_n dL_law_605 rfl ?_
  refine q_aload_n dL_law_606 rfl ?_
  refine q_iload_n dL_law_607 rfl ?_
  refine q_iconst dL_law_608 ?_
  refine q_iadd dL_law_609 ?_
  refine q_sald dL_law_610 (by omega) ⟨by omega, by omega⟩ ?_
  refine q_aload_n dL_law_611 rfl ?_
  refine q_iload_n dL_law_612 rfl ?_
  refine q_iconst dL_law_613 ?_
  refine q_iadd dL_law_614 ?_
  refine q_sald dL_law_615 (by omega) ⟨by omega, by omega⟩ ?_
  refine q_aload_n dL_law_616 rfl ?_
  refine q_iload_n dL_law_617 rfl ?_
  refine q_iconst dL_law_618 ?_
  refine q_iadd dL_law_619 ?_
  refine q_sald dL_law_620 (by omega) ⟨by omega, by omega⟩ ?_
  refine q_invV [jI (s 0 (v3 + 1 + 1)), jI (s 0 (v3 + 2 + 1)), jI (s 0 (v3 + 3 + 1))] [] dL_law_621 cm_X10_asIn ml_L_68 im_X10_asIn se_X10_asIn rfl sh_1 (by decide) rfl rfl o (fun _ s1 q => ?_)
  obtain ⟨y, rfl, e1, q⟩ := q
  rw [← e1] at h0 hv
  refine q_aload_n dL_law_624 rfl ?_
  refine q_aload_n dL_law_625 rfl ?_
  refine q_iload_n dL_law_626 rfl ?_
  refine q_iconst dL_law_627 ?_
  refine q_iadd dL_law_628 ?_
  refine q_sald dL_law_629 (by omega) ⟨by omega, by omega⟩ ?_
  refine q_aload_n dL_law_630 rfl ?_
  refine q_iload_n dL_law_631 rfl ?_
  refine q_iconst dL_law_632 ?_
  refine q_iadd dL_law_633 ?_
  refine q_sald dL_law_634 (by omega) ⟨by omega, by omega⟩ ?_
  refine q_aload_n dL_law_635 rfl ?_
  refine q_iload_n dL_law_636 rfl ?_
  refine q_iconst dL_law_637 ?_
  refine q_iadd dL_law_638 ?_
  refine q_sald dL_law_639 (by omega) ⟨by omega, by omega⟩ ?_
  refine q_invV [jI (s1 0 (v3 + 1 + 1)), jI (s1 0 (v3 + 2 + 1)), jI (s1 0 (v3 + 3 + 1))] [jI y] dL_law_640 cm_X11_asIn ml_L_71 im_X11_asIn se_X11_asIn rfl sh_143 (by decide) rfl rfl (by rw [e1]; exact q) (fun _ s2 q2 => ?_)
  obtain ⟨y2, rfl, e2, r2, iv⟩ := q2
  refine q_icmp_eq 1253 dL_law_643 rfl r2 (by rw [e2]; exact r2) (fun _ => ?_) (fun c => absurd e2.symm c)
  exact k s2 iv
theorem law_about {S0 : Int → Int} {s : Int → Int → Int} {Q : Option jV → (Int → Int → Int) → Prop} {v3 : Int} (hS : s 0 = S0) (h0 : 0 ≤ S0 0 ∧ S0 0 ≤ 3072) (hv : 0 ≤ v3 ∧ v3 + 6 ≤ S0 0) (o : jop mX10_about mX11_about [jI (s 0 (v3 + 1 + 1)), jI (s 0 (v3 + 2 + 1)), jI (s 0 (v3 + 3 + 1))] S0 s) (k : ∀ s', Inv S0 s' → qK mL_law 1253 [jR 0, jR 1, jR 143, jI v3] [] s' Q) : qK mL_law 648 [jR 0, jR 1, jR 143, jI v3] [] s Q := by
  subst hS
  refine q_aload_n dL_law_648 rfl ?_
  refine q_aload_n dL_law_649 rfl ?_
  refine q_iload_n dL_law_650 rfl ?_
  refine q_iconst dL_law_651 ?_
  refine q_iadd dL_law_652 ?_
  refine q_sald dL_law_653 (by omega) ⟨by omega, by omega⟩ ?_
  refine q_aload_n dL_law_654 rfl ?_
  refine q_iload_n dL_law_655 rfl ?_
  refine q_iconst dL_law_656 ?_
  refine q_iadd dL_law_657 ?_
  refine q_sald dL_law_658 (by omega) ⟨by omega, by omega⟩ ?_
  refine q_aload_n dL_law_659 rfl ?_
  refine q_iload_n dL_law_660 rfl ?_
  refine q_iconst dL_law_661 ?_
  refine q_iadd dL_law_662 ?_
  refine q_sald dL_law_663 (by omega) ⟨by omega, by omega⟩ ?_
  refine q_invV [jI (s 0 (v3 + 1 + 1)), jI (s 0 (v3 + 2 + 1)), jI (s 0 (v3 + 3 + 1))] [] dL_law_664 cm_X10_about ml_L_72 im_X10_about se_X10_about rfl sh_1 (by decide) rfl rfl o (fun _ s1 q => ?_)
  obtain ⟨y, rfl, e1, q⟩ := q
  rw [← e1] at h0 hv
  refine q_aload_n dL_law_667 rfl ?_
  refine q_aload_n dL_law_668 rfl ?_
  refine q_iload_n dL_law_669 rfl ?_
  refine q_iconst dL_law_670 ?_
  refine q_iadd dL_law_671 ?_
  refine q_sald dL_law_672 (by omega) ⟨by omega, by omega⟩ ?_
  refine q_aload_n dL_law_673 rfl ?_
  refine q_iload_n dL_law_674 rfl ?_
  refine q_iconst dL_law_675 ?_
  refine q_iadd dL_law_676 ?_
  refine q_sald dL_law_677 (by omega) ⟨by omega, by omega⟩ ?_
  refine q_aload_n dL_law_678 rfl ?_
  refine q_iload_n dL_law_679 rfl ?_
  refine q_iconst dL_law_680 ?_
  refine q_iadd dL_law_681 ?_
  refine q_sald dL_law_682 (by omega) ⟨by omega, by omega⟩ ?_
  refine q_invV [jI (s1 0 (v3 + 1 + 1)), jI (s1 0 (v3 + 2 + 1)), jI (s1 0 (v3 + 3 + 1))] [jI y] dL_law_683 cm_X11_about ml_L_75 im_X11_about se_X11_about rfl sh_143 (by decide) rfl rfl (by rw [e1]; exact q) (fun _ s2 q2 => ?_)
  obtain ⟨y2, rfl, e2, r2, iv⟩ := q2
  refine q_icmp_eq 1253 dL_law_686 rfl r2 (by rw [e2]; exact r2) (fun _ => ?_) (fun c => absurd e2.symm c)
  exact k s2 iv
theorem law_chance {S0 : Int → Int} {s : Int → Int → Int} {Q : Option jV → (Int → Int → Int) → Prop} {v3 : Int} (hS : s 0 = S0) (h0 : 0 ≤ S0 0 ∧ S0 0 ≤ 3072) (hv : 0 ≤ v3 ∧ v3 + 6 ≤ S0 0) (o : jop mX10_chance mX11_chance [jI (s 0 (v3 + 1 + 1)), jI (s 0 (v3 + 2 + 1)), jI (s 0 (v3 + 3 + 1))] S0 s) (k : ∀ s', Inv S0 s' → qK mL_law 1253 [jR 0, jR 1, jR 143, jI v3] [] s' Q) : qK mL_law 691 [jR 0, jR 1, jR 143, jI v3] [] s Q := by
  subst hS
  refine q_aload_n dL_law_691 rfl ?_
  refine q_aload_n dL_law_692 rfl ?_
  refine q_iload_n dL_law_693 rfl ?_
  refine q_iconst dL_law_694 ?_
  refine q_iadd dL_law_695 ?_
  refine q_sald dL_law_696 (by omega) ⟨by omega, by omega⟩ ?_
  refine q_aload_n dL_law_697 rfl ?_
  refine q_iload_n dL_law_698 rfl ?_
  refine q_iconst dL_law_699 ?_
  refine q_iadd dL_law_700 ?_
  refine q_sald dL_law_701 (by omega) ⟨by omega, by omega⟩ ?_
  refine q_aload_n dL_law_702 rfl ?_
  refine q_iload_n dL_law_703 rfl ?_
  refine q_iconst dL_law_704 ?_
  refine q_iadd dL_law_705 ?_
  refine q_sald dL_law_706 (by omega) ⟨by omega, by omega⟩ ?_
  refine q_invV [jI (s 0 (v3 + 1 + 1)), jI (s 0 (v3 + 2 + 1)), jI (s 0 (v3 + 3 + 1))] [] dL_law_707 cm_X10_chance ml_L_76 im_X10_chance se_X10_chance rfl sh_1 (by decide) rfl rfl o (fun _ s1 q => ?_)
  obtain ⟨y, rfl, e1, q⟩ := q
  rw [← e1] at h0 hv
  refine q_aload_n dL_law_710 rfl ?_
  refine q_aload_n dL_law_711 rfl ?_
  refine q_iload_n dL_law_712 rfl ?_
  refine q_iconst dL_law_713 ?_
  refine q_iadd dL_law_714 ?_
  refine q_sald dL_law_715 (by omega) ⟨by omega, by omega⟩ ?_
  refine q_aload_n dL_law_716 rfl ?_
  refine q_iload_n dL_law_717 rfl ?_
  refine q_iconst dL_law_718 ?_
  refine q_iadd dL_law_719 ?_
  refine q_sald dL_law_720 (by omega) ⟨by omega, by omega⟩ ?_
  refine q_aload_n dL_law_721 rfl ?_
  refine q_iload_n dL_law_722 rfl ?_
  refine q_iconst dL_law_723 ?_
  refine q_iadd dL_law_724 ?_
  refine q_sald dL_law_725 (by omega) ⟨by omega, by omega⟩ ?_
  refine q_invV [jI (s1 0 (v3 + 1 + 1)), jI (s1 0 (v3 + 2 + 1)), jI (s1 0 (v3 + 3 + 1))] [jI y] dL_law_726 cm_X11_chance ml_L_79 im_X11_chance se_X11_chance rfl sh_143 (by decide) rfl rfl (by rw [e1]; exact q) (fun _ s2 q2 => ?_)
  obtain ⟨y2, rfl, e2, r2, iv⟩ := q2
  refine q_icmp_eq 1253 dL_law_729 rfl r2 (by rw [e2]; exact r2) (fun _ => ?_) (fun c => absurd e2.symm c)
  exact k s2 iv
theorem law_like {S0 : Int → Int} {s : Int → Int → Int} {Q : Option jV → (Int → Int → Int) → Prop} {v3 : Int} (hS : s 0 = S0) (h0 : 0 ≤ S0 0 ∧ S0 0 ≤ 3072) (hv : 0 ≤ v3 ∧ v3 + 6 ≤ S0 0) (o : jop mX10_like mX11_like [jI (s 0 (v3 + 1 + 1)), jI (s 0 (v3 + 2 + 1)), jI (s 0 (v3 + 3 + 1))] S0 s) (k : ∀ s', Inv S0 s' → qK mL_law 1253 [jR 0, jR 1, jR 143, jI v3] [] s' Q) : qK mL_law 734 [jR 0, jR 1, jR 143, jI v3] [] s Q := by
  subst hS
  refine q_aload_n dL_law_734 rfl ?_
  refine q_aload_n dL_law_735 rfl ?_
  refine q_iload_n dL_law_736 rfl ?_
  refine q_iconst dL_law_737 ?_
  refine q_iadd dL_law_738 ?_
  refine q_sald dL_law_739 (by omega) ⟨by omega, by omega⟩ ?_
  refine q_aload_n dL_law_740 rfl ?_
  refine q_iload_n dL_law_741 rfl ?_
  refine q_iconst dL_law_742 ?_
  refine q_iadd dL_law_743 ?_
  refine q_sald dL_law_744 (by omega) ⟨by omega, by omega⟩ ?_
  refine q_aload_n dL_law_745 rfl ?_
  refine q_iload_n dL_law_746 rfl ?_
  refine q_iconst dL_law_747 ?_
  refine q_iadd dL_law_748 ?_
  refine q_sald dL_law_749 (by omega) ⟨by omega, by omega⟩ ?_
  refine q_invV [jI (s 0 (v3 + 1 + 1)), jI (s 0 (v3 + 2 + 1)), jI (s 0 (v3 + 3 + 1))] [] dL_law_750 cm_X10_like ml_L_80 im_X10_like se_X10_like rfl sh_1 (by decide) rfl rfl o (fun _ s1 q => ?_)
  obtain ⟨y, rfl, e1, q⟩ := q
  rw [← e1] at h0 hv
  refine q_aload_n dL_law_753 rfl ?_
  refine q_aload_n dL_law_754 rfl ?_
  refine q_iload_n dL_law_755 rfl ?_
  refine q_iconst dL_law_756 ?_
  refine q_iadd dL_law_757 ?_
  refine q_sald dL_law_758 (by omega) ⟨by omega, by omega⟩ ?_
  refine q_aload_n dL_law_759 rfl ?_
  refine q_iload_n dL_law_760 rfl ?_
  refine q_iconst dL_law_761 ?_
  refine q_iadd dL_law_762 ?_
  refine q_sald dL_law_763 (by omega) ⟨by omega, by omega⟩ ?_
  refine q_aload_n dL_law_764 rfl ?_
  refine q_iload_n dL_law_765 rfl ?_
  refine q_iconst dL_law_766 ?_
  refine q_iadd dL_law_767 ?_
  refine q_sald dL_law_768 (by omega) ⟨by omega, by omega⟩ ?_
  refine q_invV [jI (s1 0 (v3 + 1 + 1)), jI (s1 0 (v3 + 2 + 1)), jI (s1 0 (v3 + 3 + 1))] [jI y] dL_law_769 cm_X11_like ml_L_83 im_X11_like se_X11_like rfl sh_143 (by decide) rfl rfl (by rw [e1]; exact q) (fun _ s2 q2 => ?_)
  obtain ⟨y2, rfl, e2, r2, iv⟩ := q2
  refine q_icmp_eq 1253 dL_law_772 rfl r2 (by rw [e2]; exact r2) (fun _ => ?_) (fun c => absurd e2.symm c)
  exact k s2 iv
theorem law_left {S0 : Int → Int} {s : Int → Int → Int} {Q : Option jV → (Int → Int → Int) → Prop} {v3 : Int} (hS : s 0 = S0) (h0 : 0 ≤ S0 0 ∧ S0 0 ≤ 3072) (hv : 0 ≤ v3 ∧ v3 + 6 ≤ S0 0) (o : jop mX10_left mX11_left [jI (s 0 (v3 + 1 + 1)), jI (s 0 (v3 + 2 + 1))] S0 s) (k : ∀ s', Inv S0 s' → qK mL_law 1253 [jR 0, jR 1, jR 143, jI v3] [] s' Q) : qK mL_law 777 [jR 0, jR 1, jR 143, jI v3] [] s Q := by
  subst hS
  refine q_aload_n dL_law_777 rfl ?_
  refine q_aload_n dL_law_778 rfl ?_
  refine q_iload_n dL_law_779 rfl ?_
  refine q_iconst dL_law_780 ?_
  refine q_iadd dL_law_781 ?_
  refine q_sald dL_law_782 (by omega) ⟨by omega, by omega⟩ ?_
  refine q_aload_n dL_law_783 rfl ?_
  refine q_iload_n dL_law_784 rfl ?_
  refine q_iconst dL_law_785 ?_
  refine q_iadd dL_law_786 ?_
  refine q_sald dL_law_787 (by omega) ⟨by omega, by omega⟩ ?_
  refine q_invV [jI (s 0 (v3 + 1 + 1)), jI (s 0 (v3 + 2 + 1))] [] dL_law_788 cm_X10_left ml_L_84 im_X10_left se_X10_left rfl sh_1 (by decide) rfl rfl o (fun _ s1 q => ?_)
  obtain ⟨y, rfl, e1, q⟩ := q
  rw [← e1] at h0 hv
  refine q_aload_n dL_law_791 rfl ?_
  refine q_aload_n dL_law_792 rfl ?_
  refine q_iload_n dL_law_793 rfl ?_
  refine q_iconst dL_law_794 ?_
  refine q_iadd dL_law_795 ?_
  refine q_sald dL_law_796 (by omega) ⟨by omega, by omega⟩ ?_
  refine q_aload_n dL_law_797 rfl ?_
  refine q_iload_n dL_law_798 rfl ?_
  refine q_iconst dL_law_799 ?_
  refine q_iadd dL_law_800 ?_
  refine q_sald dL_law_801 (by omega) ⟨by omega, by omega⟩ ?_
  refine q_invV [jI (s1 0 (v3 + 1 + 1)), jI (s1 0 (v3 + 2 + 1))] [jI y] dL_law_802 cm_X11_left ml_L_87 im_X11_left se_X11_left rfl sh_143 (by decide) rfl rfl (by rw [e1]; exact q) (fun _ s2 q2 => ?_)
  obtain ⟨y2, rfl, e2, r2, iv⟩ := q2
  refine q_icmp_eq 1253 dL_law_805 rfl r2 (by rw [e2]; exact r2) (fun _ => ?_) (fun c => absurd e2.symm c)
  exact k s2 iv
theorem law_slip {S0 : Int → Int} {s : Int → Int → Int} {Q : Option jV → (Int → Int → Int) → Prop} {v3 : Int} (hS : s 0 = S0) (h0 : 0 ≤ S0 0 ∧ S0 0 ≤ 3072) (hv : 0 ≤ v3 ∧ v3 + 6 ≤ S0 0) (o : jop mX10_slip mX11_slip [jI (s 0 (v3 + 1 + 1))] S0 s) (k : ∀ s', Inv S0 s' → qK mL_law 1253 [jR 0, jR 1, jR 143, jI v3] [] s' Q) : qK mL_law 810 [jR 0, jR 1, jR 143, jI v3] [] s Q := by
  subst hS
  refine q_aload_n dL_law_810 rfl ?_
  refine q_aload_n dL_law_811 rfl ?_
  refine q_iload_n dL_law_812 rfl ?_
  refine q_iconst dL_law_813 ?_
  refine q_iadd dL_law_814 ?_
  refine q_sald dL_law_815 (by omega) ⟨by omega, by omega⟩ ?_
  refine q_invV [jI (s 0 (v3 + 1 + 1))] [] dL_law_816 cm_X10_slip ml_L_88 im_X10_slip se_X10_slip rfl sh_1 (by decide) rfl rfl o (fun _ s1 q => ?_)
  obtain ⟨y, rfl, e1, q⟩ := q
  rw [← e1] at h0 hv
  refine q_aload_n dL_law_819 rfl ?_
  refine q_aload_n dL_law_820 rfl ?_
  refine q_iload_n dL_law_821 rfl ?_
  refine q_iconst dL_law_822 ?_
  refine q_iadd dL_law_823 ?_
  refine q_sald dL_law_824 (by omega) ⟨by omega, by omega⟩ ?_
  refine q_invV [jI (s1 0 (v3 + 1 + 1))] [jI y] dL_law_825 cm_X11_slip ml_L_91 im_X11_slip se_X11_slip rfl sh_143 (by decide) rfl rfl (by rw [e1]; exact q) (fun _ s2 q2 => ?_)
  obtain ⟨y2, rfl, e2, r2, iv⟩ := q2
  refine q_icmp_eq 1253 dL_law_828 rfl r2 (by rw [e2]; exact r2) (fun _ => ?_) (fun c => absurd e2.symm c)
  exact k s2 iv
theorem law_said {S0 : Int → Int} {s : Int → Int → Int} {Q : Option jV → (Int → Int → Int) → Prop} {v3 : Int} (hS : s 0 = S0) (h0 : 0 ≤ S0 0 ∧ S0 0 ≤ 3072) (hv : 0 ≤ v3 ∧ v3 + 6 ≤ S0 0) (o : jop mX10_said mX11_said [jI (s 0 (v3 + 1 + 1)), jI (s 0 (v3 + 2 + 1)), jI (s 0 (v3 + 3 + 1))] S0 s) (k : ∀ s', Inv S0 s' → qK mL_law 1253 [jR 0, jR 1, jR 143, jI v3] [] s' Q) : qK mL_law 833 [jR 0, jR 1, jR 143, jI v3] [] s Q := by
  subst hS
  refine q_aload_n dL_law_833 rfl ?_
  refine q_aload_n dL_law_834 rfl ?_
  refine q_iload_n dL_law_835 rfl ?_
  refine q_iconst dL_law_836 ?_
  refine q_iadd dL_law_837 ?_
  refine q_sald dL_law_838 (by omega) ⟨by omega, by omega⟩ ?_
  refine q_aload_n dL_law_839 rfl ?_
  refine q_iload_n dL_law_840 rfl ?_
  refine q_iconst dL_law_841 ?_
  refine q_iadd dL_law_842 ?_
  refine q_sald dL_law_843 (by omega) ⟨by omega, by omega⟩ ?_
  refine q_aload_n dL_law_844 rfl ?_
  refine q_iload_n dL_law_845 rfl ?_
  refine q_iconst dL_law_846 ?_
  refine q_iadd dL_law_847 ?_
  refine q_sald dL_law_848 (by omega) ⟨by omega, by omega⟩ ?_
  refine q_invV [jI (s 0 (v3 + 1 + 1)), jI (s 0 (v3 + 2 + 1)), jI (s 0 (v3 + 3 + 1))] [] dL_law_849 cm_X10_said ml_L_92 im_X10_said se_X10_said rfl sh_1 (by decide) rfl rfl o (fun _ s1 q => ?_)
  obtain ⟨y, rfl, e1, q⟩ := q
  rw [← e1] at h0 hv
  refine q_aload_n dL_law_852 rfl ?_
  refine q_aload_n dL_law_853 rfl ?_
  refine q_iload_n dL_law_854 rfl ?_
  refine q_iconst dL_law_855 ?_
  refine q_iadd dL_law_856 ?_
  refine q_sald dL_law_857 (by omega) ⟨by omega, by omega⟩ ?_
  refine q_aload_n dL_law_858 rfl ?_
  refine q_iload_n dL_law_859 rfl ?_
  refine q_iconst dL_law_860 ?_
  refine q_iadd dL_law_861 ?_
  refine q_sald dL_law_862 (by omega) ⟨by omega, by omega⟩ ?_
  refine q_aload_n dL_law_863 rfl ?_
  refine q_iload_n dL_law_864 rfl ?_
  refine q_iconst dL_law_865 ?_
  refine q_iadd dL_law_866 ?_
  refine q_sald dL_law_867 (by omega) ⟨by omega, by omega⟩ ?_
  refine q_invV [jI (s1 0 (v3 + 1 + 1)), jI (s1 0 (v3 + 2 + 1)), jI (s1 0 (v3 + 3 + 1))] [jI y] dL_law_868 cm_X11_said ml_L_95 im_X11_said se_X11_said rfl sh_143 (by decide) rfl rfl (by rw [e1]; exact q) (fun _ s2 q2 => ?_)
  obtain ⟨y2, rfl, e2, r2, iv⟩ := q2
  refine q_icmp_eq 1253 dL_law_871 rfl r2 (by rw [e2]; exact r2) (fun _ => ?_) (fun c => absurd e2.symm c)
  exact k s2 iv
theorem law_order {S0 : Int → Int} {s : Int → Int → Int} {Q : Option jV → (Int → Int → Int) → Prop} {v3 : Int} (hS : s 0 = S0) (h0 : 0 ≤ S0 0 ∧ S0 0 ≤ 3072) (hv : 0 ≤ v3 ∧ v3 + 6 ≤ S0 0) (o : jop mX10_order mX11_order [jI (s 0 (v3 + 1 + 1))] S0 s) (k : ∀ s', Inv S0 s' → qK mL_law 1253 [jR 0, jR 1, jR 143, jI v3] [] s' Q) : qK mL_law 876 [jR 0, jR 1, jR 143, jI v3] [] s Q := by
  subst hS
  refine q_aload_n dL_law_876 rfl ?_
  refine q_aload_n dL_law_877 rfl ?_
  refine q_iload_n dL_law_878 rfl ?_
  refine q_iconst dL_law_879 ?_
  refine q_iadd dL_law_880 ?_
  refine q_sald dL_law_881 (by omega) ⟨by omega, by omega⟩ ?_
  refine q_invV [jI (s 0 (v3 + 1 + 1))] [] dL_law_882 cm_X10_order ml_L_96 im_X10_order se_X10_order rfl sh_1 (by decide) rfl rfl o (fun _ s1 q => ?_)
  obtain ⟨y, rfl, e1, q⟩ := q
  rw [← e1] at h0 hv
  refine q_aload_n dL_law_885 rfl ?_
  refine q_aload_n dL_law_886 rfl ?_
  refine q_iload_n dL_law_887 rfl ?_
  refine q_iconst dL_law_888 ?_
  refine q_iadd dL_law_889 ?_
  refine q_sald dL_law_890 (by omega) ⟨by omega, by omega⟩ ?_
  refine q_invV [jI (s1 0 (v3 + 1 + 1))] [jI y] dL_law_891 cm_X11_order ml_L_99 im_X11_order se_X11_order rfl sh_143 (by decide) rfl rfl (by rw [e1]; exact q) (fun _ s2 q2 => ?_)
  obtain ⟨y2, rfl, e2, r2, iv⟩ := q2
  refine q_icmp_eq 1253 dL_law_894 rfl r2 (by rw [e2]; exact r2) (fun _ => ?_) (fun c => absurd e2.symm c)
  exact k s2 iv
theorem law_sure {S0 : Int → Int} {s : Int → Int → Int} {Q : Option jV → (Int → Int → Int) → Prop} {v3 : Int} (hS : s 0 = S0) (h0 : 0 ≤ S0 0 ∧ S0 0 ≤ 3072) (hv : 0 ≤ v3 ∧ v3 + 6 ≤ S0 0) (o : jop mX10_sure mX11_sure [jI (s 0 (v3 + 1 + 1)), jI (s 0 (v3 + 2 + 1))] S0 s) (k : ∀ s', Inv S0 s' → qK mL_law 1253 [jR 0, jR 1, jR 143, jI v3] [] s' Q) : qK mL_law 899 [jR 0, jR 1, jR 143, jI v3] [] s Q := by
  subst hS
  refine q_aload_n dL_law_899 rfl ?_
  refine q_aload_n dL_law_900 rfl ?_
  refine q_iload_n dL_law_901 rfl ?_
  refine q_iconst dL_law_902 ?_
  refine q_iadd dL_law_903 ?_
  refine q_sald dL_law_904 (by omega) ⟨by omega, by omega⟩ ?_
  refine q_aload_n dL_law_905 rfl ?_
  refine q_iload_n dL_law_906 rfl ?_
  refine q_iconst dL_law_907 ?_
  refine q_iadd dL_law_908 ?_
  refine q_sald dL_law_909 (by omega) ⟨by omega, by omega⟩ ?_
  refine q_invV [jI (s 0 (v3 + 1 + 1)), jI (s 0 (v3 + 2 + 1))] [] dL_law_910 cm_X10_sure ml_L_100 im_X10_sure se_X10_sure rfl sh_1 (by decide) rfl rfl o (fun _ s1 q => ?_)
  obtain ⟨y, rfl, e1, q⟩ := q
  rw [← e1] at h0 hv
  refine q_aload_n dL_law_913 rfl ?_
  refine q_aload_n dL_law_914 rfl ?_
  refine q_iload_n dL_law_915 rfl ?_
  refine q_iconst dL_law_916 ?_
  refine q_iadd dL_law_917 ?_
  refine q_sald dL_law_918 (by omega) ⟨by omega, by omega⟩ ?_
  refine q_aload_n dL_law_919 rfl ?_
  refine q_iload_n dL_law_920 rfl ?_
  refine q_iconst dL_law_921 ?_
  refine q_iadd dL_law_922 ?_
  refine q_sald dL_law_923 (by omega) ⟨by omega, by omega⟩ ?_
  refine q_invV [jI (s1 0 (v3 + 1 + 1)), jI (s1 0 (v3 + 2 + 1))] [jI y] dL_law_924 cm_X11_sure ml_L_103 im_X11_sure se_X11_sure rfl sh_143 (by decide) rfl rfl (by rw [e1]; exact q) (fun _ s2 q2 => ?_)
  obtain ⟨y2, rfl, e2, r2, iv⟩ := q2
  refine q_icmp_eq 1253 dL_law_927 rfl r2 (by rw [e2]; exact r2) (fun _ => ?_) (fun c => absurd e2.symm c)
  exact k s2 iv
theorem law_kin {S0 : Int → Int} {s : Int → Int → Int} {Q : Option jV → (Int → Int → Int) → Prop} {v3 : Int} (hS : s 0 = S0) (h0 : 0 ≤ S0 0 ∧ S0 0 ≤ 3072) (hv : 0 ≤ v3 ∧ v3 + 6 ≤ S0 0) (o : jop mX10_kin mX11_kin [jI (s 0 (v3 + 1 + 1)), jI (s 0 (v3 + 2 + 1))] S0 s) (k : ∀ s', Inv S0 s' → qK mL_law 1253 [jR 0, jR 1, jR 143, jI v3] [] s' Q) : qK mL_law 932 [jR 0, jR 1, jR 143, jI v3] [] s Q := by
  subst hS
  refine q_aload_n dL_law_932 rfl ?_
  refine q_aload_n dL_law_933 rfl ?_
  refine q_iload_n dL_law_934 rfl ?_
  refine q_iconst dL_law_935 ?_
  refine q_iadd dL_law_936 ?_
  refine q_sald dL_law_937 (by omega) ⟨by omega, by omega⟩ ?_
  refine q_aload_n dL_law_938 rfl ?_
  refine q_iload_n dL_law_939 rfl ?_
  refine q_iconst dL_law_940 ?_
  refine q_iadd dL_law_941 ?_
  refine q_sald dL_law_942 (by omega) ⟨by omega, by omega⟩ ?_
  refine q_invV [jI (s 0 (v3 + 1 + 1)), jI (s 0 (v3 + 2 + 1))] [] dL_law_943 cm_X10_kin ml_L_104 im_X10_kin se_X10_kin rfl sh_1 (by decide) rfl rfl o (fun _ s1 q => ?_)
  obtain ⟨y, rfl, e1, q⟩ := q
  rw [← e1] at h0 hv
  refine q_aload_n dL_law_946 rfl ?_
  refine q_aload_n dL_law_947 rfl ?_
  refine q_iload_n dL_law_948 rfl ?_
  refine q_iconst dL_law_949 ?_
  refine q_iadd dL_law_950 ?_
  refine q_sald dL_law_951 (by omega) ⟨by omega, by omega⟩ ?_
  refine q_aload_n dL_law_952 rfl ?_
  refine q_iload_n dL_law_953 rfl ?_
  refine q_iconst dL_law_954 ?_
  refine q_iadd dL_law_955 ?_
  refine q_sald dL_law_956 (by omega) ⟨by omega, by omega⟩ ?_
  refine q_invV [jI (s1 0 (v3 + 1 + 1)), jI (s1 0 (v3 + 2 + 1))] [jI y] dL_law_957 cm_X11_kin ml_L_107 im_X11_kin se_X11_kin rfl sh_143 (by decide) rfl rfl (by rw [e1]; exact q) (fun _ s2 q2 => ?_)
  obtain ⟨y2, rfl, e2, r2, iv⟩ := q2
  refine q_icmp_eq 1253 dL_law_960 rfl r2 (by rw [e2]; exact r2) (fun _ => ?_) (fun c => absurd e2.symm c)
  exact k s2 iv
theorem law_dealt {S0 : Int → Int} {s : Int → Int → Int} {Q : Option jV → (Int → Int → Int) → Prop} {v3 : Int} (hS : s 0 = S0) (h0 : 0 ≤ S0 0 ∧ S0 0 ≤ 3072) (hv : 0 ≤ v3 ∧ v3 + 6 ≤ S0 0) (o : jop mX10_dealt mX11_dealt [jI (s 0 (v3 + 1 + 1)), jI (s 0 (v3 + 2 + 1))] S0 s) (k : ∀ s', Inv S0 s' → qK mL_law 1253 [jR 0, jR 1, jR 143, jI v3] [] s' Q) : qK mL_law 965 [jR 0, jR 1, jR 143, jI v3] [] s Q := by
  subst hS
  refine q_aload_n dL_law_965 rfl ?_
  refine q_aload_n dL_law_966 rfl ?_
  refine q_iload_n dL_law_967 rfl ?_
  refine q_iconst dL_law_968 ?_
  refine q_iadd dL_law_969 ?_
  refine q_sald dL_law_970 (by omega) ⟨by omega, by omega⟩ ?_
  refine q_aload_n dL_law_971 rfl ?_
  refine q_iload_n dL_law_972 rfl ?_
  refine q_iconst dL_law_973 ?_
  refine q_iadd dL_law_974 ?_
  refine q_sald dL_law_975 (by omega) ⟨by omega, by omega⟩ ?_
  refine q_invV [jI (s 0 (v3 + 1 + 1)), jI (s 0 (v3 + 2 + 1))] [] dL_law_976 cm_X10_dealt ml_L_108 im_X10_dealt se_X10_dealt rfl sh_1 (by decide) rfl rfl o (fun _ s1 q => ?_)
  obtain ⟨y, rfl, e1, q⟩ := q
  rw [← e1] at h0 hv
  refine q_aload_n dL_law_979 rfl ?_
  refine q_aload_n dL_law_980 rfl ?_
  refine q_iload_n dL_law_981 rfl ?_
  refine q_iconst dL_law_982 ?_
  refine q_iadd dL_law_983 ?_
  refine q_sald dL_law_984 (by omega) ⟨by omega, by omega⟩ ?_
  refine q_aload_n dL_law_985 rfl ?_
  refine q_iload_n dL_law_986 rfl ?_
  refine q_iconst dL_law_987 ?_
  refine q_iadd dL_law_988 ?_
  refine q_sald dL_law_989 (by omega) ⟨by omega, by omega⟩ ?_
  refine q_invV [jI (s1 0 (v3 + 1 + 1)), jI (s1 0 (v3 + 2 + 1))] [jI y] dL_law_990 cm_X11_dealt ml_L_111 im_X11_dealt se_X11_dealt rfl sh_143 (by decide) rfl rfl (by rw [e1]; exact q) (fun _ s2 q2 => ?_)
  obtain ⟨y2, rfl, e2, r2, iv⟩ := q2
  refine q_icmp_eq 1253 dL_law_993 rfl r2 (by rw [e2]; exact r2) (fun _ => ?_) (fun c => absurd e2.symm c)
  exact k s2 iv
theorem law_bounds {S0 : Int → Int} {s : Int → Int → Int} {Q : Option jV → (Int → Int → Int) → Prop} {v3 : Int} (hS : s 0 = S0) (h0 : 0 ≤ S0 0 ∧ S0 0 ≤ 3072) (hv : 0 ≤ v3 ∧ v3 + 6 ≤ S0 0) (o : jop mX10_bounds mX11_bounds [jI (s 0 (v3 + 1 + 1)), jI (s 0 (v3 + 2 + 1)), jI (s 0 (v3 + 3 + 1)), jI (s 0 (v3 + 4 + 1))] S0 s) (k : ∀ s', Inv S0 s' → qK mL_law 1253 [jR 0, jR 1, jR 143, jI v3] [] s' Q) : qK mL_law 998 [jR 0, jR 1, jR 143, jI v3] [] s Q := by
  subst hS
  refine q_aload_n dL_law_998 rfl ?_
  refine q_aload_n dL_law_999 rfl ?_
  refine q_iload_n dL_law_1000 rfl ?_
  refine q_iconst dL_law_1001 ?_
  refine q_iadd dL_law_1002 ?_
  refine q_sald dL_law_1003 (by omega) ⟨by omega, by omega⟩ ?_
  refine q_aload_n dL_law_1004 rfl ?_
  refine q_iload_n dL_law_1005 rfl ?_
  refine q_iconst dL_law_1006 ?_
  refine q_iadd dL_law_1007 ?_
  refine q_sald dL_law_1008 (by omega) ⟨by omega, by omega⟩ ?_
  refine q_aload_n dL_law_1009 rfl ?_
  refine q_iload_n dL_law_1010 rfl ?_
  refine q_iconst dL_law_1011 ?_
  refine q_iadd dL_law_1012 ?_
  refine q_sald dL_law_1013 (by omega) ⟨by omega, by omega⟩ ?_
  refine q_aload_n dL_law_1014 rfl ?_
  refine q_iload_n dL_law_1015 rfl ?_
  refine q_iconst dL_law_1016 ?_
  refine q_iadd dL_law_1017 ?_
  refine q_sald dL_law_1018 (by omega) ⟨by omega, by omega⟩ ?_
  refine q_invV [jI (s 0 (v3 + 1 + 1)), jI (s 0 (v3 + 2 + 1)), jI (s 0 (v3 + 3 + 1)), jI (s 0 (v3 + 4 + 1))] [] dL_law_1019 cm_X10_bounds ml_L_112 im_X10_bounds se_X10_bounds rfl sh_1 (by decide) rfl rfl o (fun _ s1 q => ?_)
  obtain ⟨y, rfl, e1, q⟩ := q
  rw [← e1] at h0 hv
  refine q_aload_n dL_law_1022 rfl ?_
  refine q_aload_n dL_law_1023 rfl ?_
  refine q_iload_n dL_law_1024 rfl ?_
  refine q_iconst dL_law_1025 ?_
  refine q_iadd dL_law_1026 ?_
  refine q_sald dL_law_1027 (by omega) ⟨by omega, by omega⟩ ?_
  refine q_aload_n dL_law_1028 rfl ?_
  refine q_iload_n dL_law_1029 rfl ?_
  refine q_iconst dL_law_1030 ?_
  refine q_iadd dL_law_1031 ?_
  refine q_sald dL_law_1032 (by omega) ⟨by omega, by omega⟩ ?_
  refine q_aload_n dL_law_1033 rfl ?_
  refine q_iload_n dL_law_1034 rfl ?_
  refine q_iconst dL_law_1035 ?_
  refine q_iadd dL_law_1036 ?_
  refine q_sald dL_law_1037 (by omega) ⟨by omega, by omega⟩ ?_
  refine q_aload_n dL_law_1038 rfl ?_
  refine q_iload_n dL_law_1039 rfl ?_
  refine q_iconst dL_law_1040 ?_
  refine q_iadd dL_law_1041 ?_
  refine q_sald dL_law_1042 (by omega) ⟨by omega, by omega⟩ ?_
  refine q_invV [jI (s1 0 (v3 + 1 + 1)), jI (s1 0 (v3 + 2 + 1)), jI (s1 0 (v3 + 3 + 1)), jI (s1 0 (v3 + 4 + 1))] [jI y] dL_law_1043 cm_X11_bounds ml_L_116 im_X11_bounds se_X11_bounds rfl sh_143 (by decide) rfl rfl (by rw [e1]; exact q) (fun _ s2 q2 => ?_)
  obtain ⟨y2, rfl, e2, r2, iv⟩ := q2
  refine q_icmp_eq 1253 dL_law_1046 rfl r2 (by rw [e2]; exact r2) (fun _ => ?_) (fun c => absurd e2.symm c)
  exact k s2 iv
theorem law_question {S0 : Int → Int} {s : Int → Int → Int} {Q : Option jV → (Int → Int → Int) → Prop} {v3 : Int} (hS : s 0 = S0) (h0 : 0 ≤ S0 0 ∧ S0 0 ≤ 3072) (hv : 0 ≤ v3 ∧ v3 + 6 ≤ S0 0) (o : jop mX10_question mX11_question [jI (s 0 (v3 + 1 + 1)), jI (s 0 (v3 + 2 + 1)), jI (s 0 (v3 + 3 + 1)), jI (s 0 (v3 + 4 + 1)), jI (s 0 (v3 + 5 + 1))] S0 s) (k : ∀ s', Inv S0 s' → qK mL_law 1253 [jR 0, jR 1, jR 143, jI v3] [] s' Q) : qK mL_law 1051 [jR 0, jR 1, jR 143, jI v3] [] s Q := by
  subst hS
  refine q_aload_n dL_law_1051 rfl ?_
  refine q_aload_n dL_law_1052 rfl ?_
  refine q_iload_n dL_law_1053 rfl ?_
  refine q_iconst dL_law_1054 ?_
  refine q_iadd dL_law_1055 ?_
  refine q_sald dL_law_1056 (by omega) ⟨by omega, by omega⟩ ?_
  refine q_aload_n dL_law_1057 rfl ?_
  refine q_iload_n dL_law_1058 rfl ?_
  refine q_iconst dL_law_1059 ?_
  refine q_iadd dL_law_1060 ?_
  refine q_sald dL_law_1061 (by omega) ⟨by omega, by omega⟩ ?_
  refine q_aload_n dL_law_1062 rfl ?_
  refine q_iload_n dL_law_1063 rfl ?_
  refine q_iconst dL_law_1064 ?_
  refine q_iadd dL_law_1065 ?_
  refine q_sald dL_law_1066 (by omega) ⟨by omega, by omega⟩ ?_
  refine q_aload_n dL_law_1067 rfl ?_
  refine q_iload_n dL_law_1068 rfl ?_
  refine q_iconst dL_law_1069 ?_
  refine q_iadd dL_law_1070 ?_
  refine q_sald dL_law_1071 (by omega) ⟨by omega, by omega⟩ ?_
  refine q_aload_n dL_law_1072 rfl ?_
  refine q_iload_n dL_law_1073 rfl ?_
  refine q_iconst dL_law_1074 ?_
  refine q_iadd dL_law_1075 ?_
  refine q_sald dL_law_1076 (by omega) ⟨by omega, by omega⟩ ?_
  refine q_invV [jI (s 0 (v3 + 1 + 1)), jI (s 0 (v3 + 2 + 1)), jI (s 0 (v3 + 3 + 1)), jI (s 0 (v3 + 4 + 1)), jI (s 0 (v3 + 5 + 1))] [] dL_law_1077 cm_X10_question ml_L_117 im_X10_question se_X10_question rfl sh_1 (by decide) rfl rfl o (fun _ s1 q => ?_)
  obtain ⟨y, rfl, e1, q⟩ := q
  rw [← e1] at h0 hv
  refine q_aload_n dL_law_1080 rfl ?_
  refine q_aload_n dL_law_1081 rfl ?_
  refine q_iload_n dL_law_1082 rfl ?_
  refine q_iconst dL_law_1083 ?_
  refine q_iadd dL_law_1084 ?_
  refine q_sald dL_law_1085 (by omega) ⟨by omega, by omega⟩ ?_
  refine q_aload_n dL_law_1086 rfl ?_
  refine q_iload_n dL_law_1087 rfl ?_
  refine q_iconst dL_law_1088 ?_
  refine q_iadd dL_law_1089 ?_
  refine q_sald dL_law_1090 (by omega) ⟨by omega, by omega⟩ ?_
  refine q_aload_n dL_law_1091 rfl ?_
  refine q_iload_n dL_law_1092 rfl ?_
  refine q_iconst dL_law_1093 ?_
  refine q_iadd dL_law_1094 ?_
  refine q_sald dL_law_1095 (by omega) ⟨by omega, by omega⟩ ?_
  refine q_aload_n dL_law_1096 rfl ?_
  refine q_iload_n dL_law_1097 rfl ?_
  refine q_iconst dL_law_1098 ?_
  refine q_iadd dL_law_1099 ?_
  refine q_sald dL_law_1100 (by omega) ⟨by omega, by omega⟩ ?_
  refine q_aload_n dL_law_1101 rfl ?_
  refine q_iload_n dL_law_1102 rfl ?_
  refine q_iconst dL_law_1103 ?_
  refine q_iadd dL_law_1104 ?_
  refine q_sald dL_law_1105 (by omega) ⟨by omega, by omega⟩ ?_
  refine q_invV [jI (s1 0 (v3 + 1 + 1)), jI (s1 0 (v3 + 2 + 1)), jI (s1 0 (v3 + 3 + 1)), jI (s1 0 (v3 + 4 + 1)), jI (s1 0 (v3 + 5 + 1))] [jI y] dL_law_1106 cm_X11_question ml_L_121 im_X11_question se_X11_question rfl sh_143 (by decide) rfl rfl (by rw [e1]; exact q) (fun _ s2 q2 => ?_)
  obtain ⟨y2, rfl, e2, r2, iv⟩ := q2
  refine q_icmp_eq 1253 dL_law_1109 rfl r2 (by rw [e2]; exact r2) (fun _ => ?_) (fun c => absurd e2.symm c)
  exact k s2 iv
theorem law_tells {S0 : Int → Int} {s : Int → Int → Int} {Q : Option jV → (Int → Int → Int) → Prop} {v3 : Int} (hS : s 0 = S0) (h0 : 0 ≤ S0 0 ∧ S0 0 ≤ 3072) (hv : 0 ≤ v3 ∧ v3 + 6 ≤ S0 0) (o : jop mX10_tells mX11_tells [jI (s 0 (v3 + 1 + 1))] S0 s) (k : ∀ s', Inv S0 s' → qK mL_law 1253 [jR 0, jR 1, jR 143, jI v3] [] s' Q) : qK mL_law 1114 [jR 0, jR 1, jR 143, jI v3] [] s Q := by
  subst hS
  refine q_aload_n dL_law_1114 rfl ?_
  refine q_aload_n dL_law_1115 rfl ?_
  refine q_iload_n dL_law_1116 rfl ?_
  refine q_iconst dL_law_1117 ?_
  refine q_iadd dL_law_1118 ?_
  refine q_sald dL_law_1119 (by omega) ⟨by omega, by omega⟩ ?_
  refine q_invV [jI (s 0 (v3 + 1 + 1))] [] dL_law_1120 cm_X10_tells ml_L_122 im_X10_tells se_X10_tells rfl sh_1 (by decide) rfl rfl o (fun _ s1 q => ?_)
  obtain ⟨y, rfl, e1, q⟩ := q
  rw [← e1] at h0 hv
  refine q_aload_n dL_law_1123 rfl ?_
  refine q_aload_n dL_law_1124 rfl ?_
  refine q_iload_n dL_law_1125 rfl ?_
  refine q_iconst dL_law_1126 ?_
  refine q_iadd dL_law_1127 ?_
  refine q_sald dL_law_1128 (by omega) ⟨by omega, by omega⟩ ?_
  refine q_invV [jI (s1 0 (v3 + 1 + 1))] [jI y] dL_law_1129 cm_X11_tells ml_L_125 im_X11_tells se_X11_tells rfl sh_143 (by decide) rfl rfl (by rw [e1]; exact q) (fun _ s2 q2 => ?_)
  obtain ⟨y2, rfl, e2, r2, iv⟩ := q2
  refine q_icmp_eq 1253 dL_law_1132 rfl r2 (by rw [e2]; exact r2) (fun _ => ?_) (fun c => absurd e2.symm c)
  exact k s2 iv
theorem law_form {S0 : Int → Int} {s : Int → Int → Int} {Q : Option jV → (Int → Int → Int) → Prop} {v3 : Int} (hS : s 0 = S0) (h0 : 0 ≤ S0 0 ∧ S0 0 ≤ 3072) (hv : 0 ≤ v3 ∧ v3 + 6 ≤ S0 0) (o : jop mX10_form mX11_form [jI (s 0 (v3 + 1 + 1))] S0 s) (k : ∀ s', Inv S0 s' → qK mL_law 1253 [jR 0, jR 1, jR 143, jI v3] [] s' Q) : qK mL_law 1137 [jR 0, jR 1, jR 143, jI v3] [] s Q := by
  subst hS
  refine q_aload_n dL_law_1137 rfl ?_
  refine q_aload_n dL_law_1138 rfl ?_
  refine q_iload_n dL_law_1139 rfl ?_
  refine q_iconst dL_law_1140 ?_
  refine q_iadd dL_law_1141 ?_
  refine q_sald dL_law_1142 (by omega) ⟨by omega, by omega⟩ ?_
  refine q_invV [jI (s 0 (v3 + 1 + 1))] [] dL_law_1143 cm_X10_form ml_L_126 im_X10_form se_X10_form rfl sh_1 (by decide) rfl rfl o (fun _ s1 q => ?_)
  obtain ⟨y, rfl, e1, q⟩ := q
  rw [← e1] at h0 hv
  refine q_aload_n dL_law_1146 rfl ?_
  refine q_aload_n dL_law_1147 rfl ?_
  refine q_iload_n dL_law_1148 rfl ?_
  refine q_iconst dL_law_1149 ?_
  refine q_iadd dL_law_1150 ?_
  refine q_sald dL_law_1151 (by omega) ⟨by omega, by omega⟩ ?_
  refine q_invV [jI (s1 0 (v3 + 1 + 1))] [jI y] dL_law_1152 cm_X11_form ml_L_129 im_X11_form se_X11_form rfl sh_143 (by decide) rfl rfl (by rw [e1]; exact q) (fun _ s2 q2 => ?_)
  obtain ⟨y2, rfl, e2, r2, iv⟩ := q2
  refine q_icmp_eq 1253 dL_law_1155 rfl r2 (by rw [e2]; exact r2) (fun _ => ?_) (fun c => absurd e2.symm c)
  exact k s2 iv
theorem law_sign {S0 : Int → Int} {s : Int → Int → Int} {Q : Option jV → (Int → Int → Int) → Prop} {v3 : Int} (hS : s 0 = S0) (h0 : 0 ≤ S0 0 ∧ S0 0 ≤ 3072) (hv : 0 ≤ v3 ∧ v3 + 6 ≤ S0 0) (o : jop mX10_sign mX11_sign [jI (s 0 (v3 + 1 + 1))] S0 s) (k : ∀ s', Inv S0 s' → qK mL_law 1253 [jR 0, jR 1, jR 143, jI v3] [] s' Q) : qK mL_law 1160 [jR 0, jR 1, jR 143, jI v3] [] s Q := by
  subst hS
  refine q_aload_n dL_law_1160 rfl ?_
  refine q_aload_n dL_law_1161 rfl ?_
  refine q_iload_n dL_law_1162 rfl ?_
  refine q_iconst dL_law_1163 ?_
  refine q_iadd dL_law_1164 ?_
  refine q_sald dL_law_1165 (by omega) ⟨by omega, by omega⟩ ?_
  refine q_invV [jI (s 0 (v3 + 1 + 1))] [] dL_law_1166 cm_X10_sign ml_L_130 im_X10_sign se_X10_sign rfl sh_1 (by decide) rfl rfl o (fun _ s1 q => ?_)
  obtain ⟨y, rfl, e1, q⟩ := q
  rw [← e1] at h0 hv
  refine q_aload_n dL_law_1169 rfl ?_
  refine q_aload_n dL_law_1170 rfl ?_
  refine q_iload_n dL_law_1171 rfl ?_
  refine q_iconst dL_law_1172 ?_
  refine q_iadd dL_law_1173 ?_
  refine q_sald dL_law_1174 (by omega) ⟨by omega, by omega⟩ ?_
  refine q_invV [jI (s1 0 (v3 + 1 + 1))] [jI y] dL_law_1175 cm_X11_sign ml_L_133 im_X11_sign se_X11_sign rfl sh_143 (by decide) rfl rfl (by rw [e1]; exact q) (fun _ s2 q2 => ?_)
  obtain ⟨y2, rfl, e2, r2, iv⟩ := q2
  refine q_icmp_eq 1253 dL_law_1178 rfl r2 (by rw [e2]; exact r2) (fun _ => ?_) (fun c => absurd e2.symm c)
  exact k s2 iv
theorem law_limb {S0 : Int → Int} {s : Int → Int → Int} {Q : Option jV → (Int → Int → Int) → Prop} {v3 : Int} (hS : s 0 = S0) (h0 : 0 ≤ S0 0 ∧ S0 0 ≤ 3072) (hv : 0 ≤ v3 ∧ v3 + 6 ≤ S0 0) (o : jop mX10_limb mX11_limb [jI (s 0 (v3 + 1 + 1)), jI (s 0 (v3 + 2 + 1))] S0 s) (k : ∀ s', Inv S0 s' → qK mL_law 1253 [jR 0, jR 1, jR 143, jI v3] [] s' Q) : qK mL_law 1183 [jR 0, jR 1, jR 143, jI v3] [] s Q := by
  subst hS
  refine q_aload_n dL_law_1183 rfl ?_
  refine q_aload_n dL_law_1184 rfl ?_
  refine q_iload_n dL_law_1185 rfl ?_
  refine q_iconst dL_law_1186 ?_
  refine q_iadd dL_law_1187 ?_
  refine q_sald dL_law_1188 (by omega) ⟨by omega, by omega⟩ ?_
  refine q_aload_n dL_law_1189 rfl ?_
  refine q_iload_n dL_law_1190 rfl ?_
  refine q_iconst dL_law_1191 ?_
  refine q_iadd dL_law_1192 ?_
  refine q_sald dL_law_1193 (by omega) ⟨by omega, by omega⟩ ?_
  refine q_invV [jI (s 0 (v3 + 1 + 1)), jI (s 0 (v3 + 2 + 1))] [] dL_law_1194 cm_X10_limb ml_L_134 im_X10_limb se_X10_limb rfl sh_1 (by decide) rfl rfl o (fun _ s1 q => ?_)
  obtain ⟨y, rfl, e1, q⟩ := q
  rw [← e1] at h0 hv
  refine q_aload_n dL_law_1197 rfl ?_
  refine q_aload_n dL_law_1198 rfl ?_
  refine q_iload_n dL_law_1199 rfl ?_
  refine q_iconst dL_law_1200 ?_
  refine q_iadd dL_law_1201 ?_
  refine q_sald dL_law_1202 (by omega) ⟨by omega, by omega⟩ ?_
  refine q_aload_n dL_law_1203 rfl ?_
  refine q_iload_n dL_law_1204 rfl ?_
  refine q_iconst dL_law_1205 ?_
  refine q_iadd dL_law_1206 ?_
  refine q_sald dL_law_1207 (by omega) ⟨by omega, by omega⟩ ?_
  refine q_invV [jI (s1 0 (v3 + 1 + 1)), jI (s1 0 (v3 + 2 + 1))] [jI y] dL_law_1208 cm_X11_limb ml_L_137 im_X11_limb se_X11_limb rfl sh_143 (by decide) rfl rfl (by rw [e1]; exact q) (fun _ s2 q2 => ?_)
  obtain ⟨y2, rfl, e2, r2, iv⟩ := q2
  refine q_icmp_eq 1253 dL_law_1211 rfl r2 (by rw [e2]; exact r2) (fun _ => ?_) (fun c => absurd e2.symm c)
  exact k s2 iv
theorem law_count {S0 : Int → Int} {s : Int → Int → Int} {Q : Option jV → (Int → Int → Int) → Prop} {v3 : Int} (hS : s 0 = S0) (h0 : 0 ≤ S0 0 ∧ S0 0 ≤ 3072) (hv : 0 ≤ v3 ∧ v3 + 6 ≤ S0 0) (o : jop mX10_count mX11_count [jI (s 0 (v3 + 1 + 1))] S0 s) (k : ∀ s', Inv S0 s' → qK mL_law 1253 [jR 0, jR 1, jR 143, jI v3] [] s' Q) : qK mL_law 1216 [jR 0, jR 1, jR 143, jI v3] [] s Q := by
  subst hS
  refine q_aload_n dL_law_1216 rfl ?_
  refine q_aload_n dL_law_1217 rfl ?_
  refine q_iload_n dL_law_1218 rfl ?_
  refine q_iconst dL_law_1219 ?_
  refine q_iadd dL_law_1220 ?_
  refine q_sald dL_law_1221 (by omega) ⟨by omega, by omega⟩ ?_
  refine q_invV [jI (s 0 (v3 + 1 + 1))] [] dL_law_1222 cm_X10_count ml_L_138 im_X10_count se_X10_count rfl sh_1 (by decide) rfl rfl o (fun _ s1 q => ?_)
  obtain ⟨y, rfl, e1, q⟩ := q
  rw [← e1] at h0 hv
  refine q_aload_n dL_law_1225 rfl ?_
  refine q_aload_n dL_law_1226 rfl ?_
  refine q_iload_n dL_law_1227 rfl ?_
  refine q_iconst dL_law_1228 ?_
  refine q_iadd dL_law_1229 ?_
  refine q_sald dL_law_1230 (by omega) ⟨by omega, by omega⟩ ?_
  refine q_invV [jI (s1 0 (v3 + 1 + 1))] [jI y] dL_law_1231 cm_X11_count ml_L_141 im_X11_count se_X11_count rfl sh_143 (by decide) rfl rfl (by rw [e1]; exact q) (fun _ s2 q2 => ?_)
  obtain ⟨y2, rfl, e2, r2, iv⟩ := q2
  refine q_icmp_eq 1253 dL_law_1234 rfl r2 (by rw [e2]; exact r2) (fun _ => ?_) (fun c => absurd e2.symm c)
  exact k s2 iv
theorem law_digest {S0 : Int → Int} {s : Int → Int → Int} {Q : Option jV → (Int → Int → Int) → Prop} {v3 : Int} (hS : s 0 = S0) (h0 : 0 ≤ S0 0 ∧ S0 0 ≤ 3072) (hv : 0 ≤ v3 ∧ v3 + 6 ≤ S0 0) (o : jopL mX10_digest mX11_digest [] S0 s) (k : ∀ s', Inv S0 s' → qK mL_law 1253 [jR 0, jR 1, jR 143, jI v3] [] s' Q) : qK mL_law 1239 [jR 0, jR 1, jR 143, jI v3] [] s Q := by
  subst hS
  refine q_aload_n dL_law_1239 rfl ?_
  refine q_invV [] [] dL_law_1240 cm_X10_digest ml_L_142 im_X10_digest se_X10_digest rfl sh_1 (by decide) rfl rfl o (fun _ s1 q => ?_)
  obtain ⟨y, rfl, e1, q⟩ := q
  rw [← e1] at h0 hv
  refine q_aload_n dL_law_1243 rfl ?_
  refine q_invV [] [jL y] dL_law_1244 cm_X11_digest ml_L_146 im_X11_digest se_X11_digest rfl sh_143 (by decide) rfl rfl q (fun _ s2 q2 => ?_)
  obtain ⟨y2, rfl, e2, iv⟩ := q2
  refine q_lcmp_same dL_law_1247 e2.symm ?_
  refine q_if_eq 1253 dL_law_1248 rfl (by decide) (fun _ => ?_) (fun c => absurd rfl c)
  exact k s2 iv
theorem law_loop {S0 : Int → Int} (h0 : 0 ≤ S0 0 ∧ S0 0 ≤ 3072) (hr : ∀ i, jr32 (S0 i)) : ∀ v3 : Int, v3 ≤ 4000 → 0 ≤ v3 → ∀ s : Int → Int → Int, Inv S0 s → qK mL_law 18 [jR 0, jR 1, jR 143, jI v3] [] s (fun r _ => r = some (jI 1)) := by
  refine lp_ms (α := Int) (fun v3 => 5000 - v3) (fun v3 => v3 ≤ 4000) (fun v3 => 0 ≤ v3 → ∀ s : Int → Int → Int, Inv S0 s → qK mL_law 18 [jR 0, jR 1, jR 143, jI v3] [] s (fun r _ => r = some (jI 1))) (fun v3 hv4 ih hv0 s hI => ?_) |> fun q v3 h1 => q v3 h1 (by omega)
  have hS : s 0 = S0 := hI.1
  refine q_iload_n dL_law_18 rfl ?_
  refine q_aload_n dL_law_19 rfl ?_
  refine q_slen dL_law_20 (by rw [hS]; exact h0.1) ?_
  refine q_bipush dL_law_21 rfl ?_
  refine q_isub dL_law_23 ?_
  refine q_icmp_gt 1259 dL_law_24 rfl ⟨by omega, by omega⟩ (by rw [hS]; exact ⟨by omega, by omega⟩) (fun c => ?_) (fun c => ?_)
  · refine q_iconst dL_law_1259 ?_
    exact q_zreturn (st := []) dL_law_1260 rfl (by decide) (Or.inr rfl) rfl
  · rw [hS] at c
    have hv : 0 ≤ v3 ∧ v3 + 6 ≤ S0 0 := ⟨hv0, by omega⟩
    refine q_aload_n dL_law_27 rfl ?_
    refine q_iload_n dL_law_28 rfl ?_
    refine q_sald dL_law_29 (by rw [hS]; omega) (by rw [hS]; exact ⟨by omega, by omega⟩) ?_
    refine q_bipush dL_law_30 rfl ?_
    refine q_and31 dL_law_32 ?_
    have kk : ∀ s', Inv S0 s' → qK mL_law 1253 [jR 0, jR 1, jR 143, jI v3] [] s' (fun r _ => r = some (jI 1)) := fun s' h' => by
      refine q_iinc [jR 0, jR 1, jR 143, jI (v3 + 6)] dL_law_1253 rfl rfl rfl ?_
      refine q_goto 18 dL_law_1256 rfl ?_
      exact ih (v3 + 6) (by omega) (by omega) (by omega) (by omega) s' h'
    rcases (show S0 (v3 + 1) % 32 = 0 ∨ S0 (v3 + 1) % 32 = 1 ∨ S0 (v3 + 1) % 32 = 2 ∨ S0 (v3 + 1) % 32 = 3 ∨ S0 (v3 + 1) % 32 = 4 ∨ S0 (v3 + 1) % 32 = 5 ∨ S0 (v3 + 1) % 32 = 6 ∨ S0 (v3 + 1) % 32 = 7 ∨ S0 (v3 + 1) % 32 = 8 ∨ S0 (v3 + 1) % 32 = 9 ∨ S0 (v3 + 1) % 32 = 10 ∨ S0 (v3 + 1) % 32 = 11 ∨ S0 (v3 + 1) % 32 = 12 ∨ S0 (v3 + 1) % 32 = 13 ∨ S0 (v3 + 1) % 32 = 14 ∨ S0 (v3 + 1) % 32 = 15 ∨ S0 (v3 + 1) % 32 = 16 ∨ S0 (v3 + 1) % 32 = 17 ∨ S0 (v3 + 1) % 32 = 18 ∨ S0 (v3 + 1) % 32 = 19 ∨ S0 (v3 + 1) % 32 = 20 ∨ S0 (v3 + 1) % 32 = 21 ∨ S0 (v3 + 1) % 32 = 22 ∨ S0 (v3 + 1) % 32 = 23 ∨ S0 (v3 + 1) % 32 = 24 ∨ S0 (v3 + 1) % 32 = 25 ∨ S0 (v3 + 1) % 32 = 26 ∨ S0 (v3 + 1) % 32 = 27 ∨ S0 (v3 + 1) % 32 = 28 ∨ S0 (v3 + 1) % 32 = 29 ∨ S0 (v3 + 1) % 32 = 30 ∨ S0 (v3 + 1) % 32 = 31 by omega) with c9 | c9 | c9 | c9 | c9 | c9 | c9 | c9 | c9 | c9 | c9 | c9 | c9 | c9 | c9 | c9 | c9 | c9 | c9 | c9 | c9 | c9 | c9 | c9 | c9 | c9 | c9 | c9 | c9 | c9 | c9 | c9
    · refine q_tswC 0 176 dL_law_33 (by rw [hS]; exact ⟨by omega, by omega⟩) (by rw [hS]; omega) (by decide) rfl rfl ?_
      exact law_word hS h0 hv (op_word hI (s 0 (v3 + 1 + 1)) (s 0 (v3 + 2 + 1)) (by rw [hS]; exact hr _) (by rw [hS]; exact hr _)) kk
    · refine q_tswC 1 209 dL_law_33 (by rw [hS]; exact ⟨by omega, by omega⟩) (by rw [hS]; omega) (by decide) rfl rfl ?_
      exact law_hand hS h0 hv (op_hand hI (s 0 (v3 + 1 + 1)) (by rw [hS]; exact hr _)) kk
    · refine q_tswC 2 232 dL_law_33 (by rw [hS]; exact ⟨by omega, by omega⟩) (by rw [hS]; omega) (by decide) rfl rfl ?_
      exact law_pupil hS h0 hv (op_pupil hI (s 0 (v3 + 1 + 1)) (s 0 (v3 + 2 + 1)) (by rw [hS]; exact hr _) (by rw [hS]; exact hr _)) kk
    · refine q_tswC 3 265 dL_law_33 (by rw [hS]; exact ⟨by omega, by omega⟩) (by rw [hS]; omega) (by decide) rfl rfl ?_
      exact law_became hS h0 hv (op_became hI (s 0 (v3 + 1 + 1)) (s 0 (v3 + 2 + 1)) (by rw [hS]; exact hr _) (by rw [hS]; exact hr _)) kk
    · refine q_tswC 4 298 dL_law_33 (by rw [hS]; exact ⟨by omega, by omega⟩) (by rw [hS]; omega) (by decide) rfl rfl ?_
      exact law_letter hS h0 hv (op_letter hI (s 0 (v3 + 1 + 1)) (s 0 (v3 + 2 + 1)) (s 0 (v3 + 3 + 1)) (by rw [hS]; exact hr _) (by rw [hS]; exact hr _) (by rw [hS]; exact hr _)) kk
    · refine q_tswC 5 341 dL_law_33 (by rw [hS]; exact ⟨by omega, by omega⟩) (by rw [hS]; omega) (by decide) rfl rfl ?_
      exact law_write hS h0 hv (op_write hI (s 0 (v3 + 1 + 1)) (s 0 (v3 + 2 + 1)) (by rw [hS]; exact hr _) (by rw [hS]; exact hr _)) kk
    · refine q_tswC 6 374 dL_law_33 (by rw [hS]; exact ⟨by omega, by omega⟩) (by rw [hS]; omega) (by decide) rfl rfl ?_
      exact law_weight hS h0 hv (op_weight hI (s 0 (v3 + 1 + 1)) (s 0 (v3 + 2 + 1)) (by rw [hS]; exact hr _) (by rw [hS]; exact hr _)) kk
    · refine q_tswC 7 407 dL_law_33 (by rw [hS]; exact ⟨by omega, by omega⟩) (by rw [hS]; omega) (by decide) rfl rfl ?_
      exact law_uses hS h0 hv (op_uses hI (s 0 (v3 + 1 + 1)) (s 0 (v3 + 2 + 1)) (s 0 (v3 + 3 + 1)) (by rw [hS]; exact hr _) (by rw [hS]; exact hr _) (by rw [hS]; exact hr _)) kk
    · refine q_tswC 8 450 dL_law_33 (by rw [hS]; exact ⟨by omega, by omega⟩) (by rw [hS]; omega) (by decide) rfl rfl ?_
      exact law_means hS h0 hv (op_means hI (s 0 (v3 + 1 + 1)) (s 0 (v3 + 2 + 1)) (s 0 (v3 + 3 + 1)) (by rw [hS]; exact hr _) (by rw [hS]; exact hr _) (by rw [hS]; exact hr _)) kk
    · refine q_tswC 9 493 dL_law_33 (by rw [hS]; exact ⟨by omega, by omega⟩) (by rw [hS]; omega) (by decide) rfl rfl ?_
      exact law_odds hS h0 hv (op_odds hI (s 0 (v3 + 1 + 1)) (s 0 (v3 + 2 + 1)) (by rw [hS]; exact hr _) (by rw [hS]; exact hr _)) kk
    · refine q_tswC 10 526 dL_law_33 (by rw [hS]; exact ⟨by omega, by omega⟩) (by rw [hS]; omega) (by decide) rfl rfl ?_
      exact law_likeliest hS h0 hv (op_likeliest hI (s 0 (v3 + 1 + 1)) (by rw [hS]; exact hr _)) kk
    · refine q_tswC 11 549 dL_law_33 (by rw [hS]; exact ⟨by omega, by omega⟩) (by rw [hS]; omega) (by decide) rfl rfl ?_
      exact law_says hS h0 hv (op_says hI (s 0 (v3 + 1 + 1)) (by rw [hS]; exact hr _)) kk
    · refine q_tswC 12 572 dL_law_33 (by rw [hS]; exact ⟨by omega, by omega⟩) (by rw [hS]; omega) (by decide) rfl rfl ?_
      exact law_year hS h0 hv (op_year hI (s 0 (v3 + 1 + 1)) (s 0 (v3 + 2 + 1)) (by rw [hS]; exact hr _) (by rw [hS]; exact hr _)) kk
    · refine q_tswC 13 605 dL_law_33 (by rw [hS]; exact ⟨by omega, by omega⟩) (by rw [hS]; omega) (by decide) rfl rfl ?_
      exact law_asIn hS h0 hv (op_asIn hI (s 0 (v3 + 1 + 1)) (s 0 (v3 + 2 + 1)) (s 0 (v3 + 3 + 1)) (by rw [hS]; exact hr _) (by rw [hS]; exact hr _) (by rw [hS]; exact hr _)) kk
    · refine q_tswC 14 648 dL_law_33 (by rw [hS]; exact ⟨by omega, by omega⟩) (by rw [hS]; omega) (by decide) rfl rfl ?_
      exact law_about hS h0 hv (op_about hI (s 0 (v3 + 1 + 1)) (s 0 (v3 + 2 + 1)) (s 0 (v3 + 3 + 1)) (by rw [hS]; exact hr _) (by rw [hS]; exact hr _) (by rw [hS]; exact hr _)) kk
    · refine q_tswC 15 691 dL_law_33 (by rw [hS]; exact ⟨by omega, by omega⟩) (by rw [hS]; omega) (by decide) rfl rfl ?_
      exact law_chance hS h0 hv (op_chance hI (s 0 (v3 + 1 + 1)) (s 0 (v3 + 2 + 1)) (s 0 (v3 + 3 + 1)) (by rw [hS]; exact hr _) (by rw [hS]; exact hr _) (by rw [hS]; exact hr _)) kk
    · refine q_tswC 16 734 dL_law_33 (by rw [hS]; exact ⟨by omega, by omega⟩) (by rw [hS]; omega) (by decide) rfl rfl ?_
      exact law_like hS h0 hv (op_like hI (s 0 (v3 + 1 + 1)) (s 0 (v3 + 2 + 1)) (s 0 (v3 + 3 + 1)) (by rw [hS]; exact hr _) (by rw [hS]; exact hr _) (by rw [hS]; exact hr _)) kk
    · refine q_tswC 17 777 dL_law_33 (by rw [hS]; exact ⟨by omega, by omega⟩) (by rw [hS]; omega) (by decide) rfl rfl ?_
      exact law_left hS h0 hv (op_left hI (s 0 (v3 + 1 + 1)) (s 0 (v3 + 2 + 1)) (by rw [hS]; exact hr _) (by rw [hS]; exact hr _)) kk
    · refine q_tswC 18 810 dL_law_33 (by rw [hS]; exact ⟨by omega, by omega⟩) (by rw [hS]; omega) (by decide) rfl rfl ?_
      exact law_slip hS h0 hv (op_slip hI (s 0 (v3 + 1 + 1)) (by rw [hS]; exact hr _)) kk
    · refine q_tswC 19 833 dL_law_33 (by rw [hS]; exact ⟨by omega, by omega⟩) (by rw [hS]; omega) (by decide) rfl rfl ?_
      exact law_said hS h0 hv (op_said hI (s 0 (v3 + 1 + 1)) (s 0 (v3 + 2 + 1)) (s 0 (v3 + 3 + 1)) (by rw [hS]; exact hr _) (by rw [hS]; exact hr _) (by rw [hS]; exact hr _)) kk
    · refine q_tswC 20 876 dL_law_33 (by rw [hS]; exact ⟨by omega, by omega⟩) (by rw [hS]; omega) (by decide) rfl rfl ?_
      exact law_order hS h0 hv (op_order hI (s 0 (v3 + 1 + 1)) (by rw [hS]; exact hr _)) kk
    · refine q_tswC 21 899 dL_law_33 (by rw [hS]; exact ⟨by omega, by omega⟩) (by rw [hS]; omega) (by decide) rfl rfl ?_
      exact law_sure hS h0 hv (op_sure hI (s 0 (v3 + 1 + 1)) (s 0 (v3 + 2 + 1)) (by rw [hS]; exact hr _) (by rw [hS]; exact hr _)) kk
    · refine q_tswC 22 932 dL_law_33 (by rw [hS]; exact ⟨by omega, by omega⟩) (by rw [hS]; omega) (by decide) rfl rfl ?_
      exact law_kin hS h0 hv (op_kin hI (s 0 (v3 + 1 + 1)) (s 0 (v3 + 2 + 1)) (by rw [hS]; exact hr _) (by rw [hS]; exact hr _)) kk
    · refine q_tswC 23 965 dL_law_33 (by rw [hS]; exact ⟨by omega, by omega⟩) (by rw [hS]; omega) (by decide) rfl rfl ?_
      exact law_dealt hS h0 hv (op_dealt hI (s 0 (v3 + 1 + 1)) (s 0 (v3 + 2 + 1)) (by rw [hS]; exact hr _) (by rw [hS]; exact hr _)) kk
    · refine q_tswC 24 998 dL_law_33 (by rw [hS]; exact ⟨by omega, by omega⟩) (by rw [hS]; omega) (by decide) rfl rfl ?_
      exact law_bounds hS h0 hv (op_bounds hI (s 0 (v3 + 1 + 1)) (s 0 (v3 + 2 + 1)) (s 0 (v3 + 3 + 1)) (s 0 (v3 + 4 + 1)) (by rw [hS]; exact hr _) (by rw [hS]; exact hr _) (by rw [hS]; exact hr _) (by rw [hS]; exact hr _)) kk
    · refine q_tswC 25 1051 dL_law_33 (by rw [hS]; exact ⟨by omega, by omega⟩) (by rw [hS]; omega) (by decide) rfl rfl ?_
      exact law_question hS h0 hv (op_question hI (s 0 (v3 + 1 + 1)) (s 0 (v3 + 2 + 1)) (s 0 (v3 + 3 + 1)) (s 0 (v3 + 4 + 1)) (s 0 (v3 + 5 + 1)) (by rw [hS]; exact hr _) (by rw [hS]; exact hr _) (by rw [hS]; exact hr _) (by rw [hS]; exact hr _) (by rw [hS]; exact hr _)) kk
    · refine q_tswC 26 1114 dL_law_33 (by rw [hS]; exact ⟨by omega, by omega⟩) (by rw [hS]; omega) (by decide) rfl rfl ?_
      exact law_tells hS h0 hv (op_tells hI (s 0 (v3 + 1 + 1)) (by rw [hS]; exact hr _)) kk
    · refine q_tswC 27 1137 dL_law_33 (by rw [hS]; exact ⟨by omega, by omega⟩) (by rw [hS]; omega) (by decide) rfl rfl ?_
      exact law_form hS h0 hv (op_form hI (s 0 (v3 + 1 + 1)) (by rw [hS]; exact hr _)) kk
    · refine q_tswC 28 1160 dL_law_33 (by rw [hS]; exact ⟨by omega, by omega⟩) (by rw [hS]; omega) (by decide) rfl rfl ?_
      exact law_sign hS h0 hv (op_sign hI (s 0 (v3 + 1 + 1)) (by rw [hS]; exact hr _)) kk
    · refine q_tswC 29 1183 dL_law_33 (by rw [hS]; exact ⟨by omega, by omega⟩) (by rw [hS]; omega) (by decide) rfl rfl ?_
      exact law_limb hS h0 hv (op_limb hI (s 0 (v3 + 1 + 1)) (s 0 (v3 + 2 + 1)) (by rw [hS]; exact hr _) (by rw [hS]; exact hr _)) kk
    · refine q_tswC 30 1216 dL_law_33 (by rw [hS]; exact ⟨by omega, by omega⟩) (by rw [hS]; omega) (by decide) rfl rfl ?_
      exact law_count hS h0 hv (op_count hI (s 0 (v3 + 1 + 1)) (by rw [hS]; exact hr _)) kk
    · refine q_tswC 31 1239 dL_law_33 (by rw [hS]; exact ⟨by omega, by omega⟩) (by rw [hS]; omega) (by decide) rfl rfl ?_
      exact law_digest hS h0 hv (op_digest hI  ) kk
