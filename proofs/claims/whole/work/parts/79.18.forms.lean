theorem g_X4_bestWithin {s : Int → Int → Int} {Q : Option jV → (Int → Int → Int) → Prop} {v1 : Int} (v : kK mX4_bestWithin 10 [jR 124, jI v1, jI 0, jL 0, jU, jI 0, jI 0, jU, jU, jU] [] s Q) : kR mX4_bestWithin [jR 124, jI v1] s Q := by
  show kK mX4_bestWithin 0 [jR 124, jI v1, jU, jU, jU, jU, jU, jU, jU, jU] [] s Q
  refine k_iconst dX4_bestWithin_0 ?_
  refine k_istore_n [jR 124, jI v1, jI 0, jU, jU, jU, jU, jU, jU, jU] dX4_bestWithin_1 rfl rfl ?_
  refine k_lconst 0 dX4_bestWithin_2 rfl ?_
  refine k_lstore_n [jR 124, jI v1, jI 0, jL 0, jU, jU, jU, jU, jU, jU] dX4_bestWithin_3 rfl rfl ?_
  refine k_iconst dX4_bestWithin_4 ?_
  refine k_istore [jR 124, jI v1, jI 0, jL 0, jU, jI 0, jU, jU, jU, jU] dX4_bestWithin_5 rfl rfl ?_
  refine k_iconst dX4_bestWithin_7 ?_
  refine k_istore [jR 124, jI v1, jI 0, jL 0, jU, jI 0, jI 0, jU, jU, jU] dX4_bestWithin_8 rfl rfl ?_
  exact v
theorem g_X4_bestWithin_10 {s : Int → Int → Int} {Q : Option jV → (Int → Int → Int) → Prop} {v1 v2 v3 v5 v6 : Int} (v : ((0 ≤ (s 124 3) ∧ (s 124 3) ≤ 31) ∧ jr32 v6 ∧ jr32 ((1 : Int) * 2 ^ Int.toNat (s 124 3)) ∧ ((((1 : Int) * 2 ^ Int.toNat (s 124 3)) ≤ v6 → Q (some (jI v2)) s) ∧ (¬ (((1 : Int) * 2 ^ Int.toNat (s 124 3)) ≤ v6) → ((FQc s) ∧ (0 ≤ v6 ∧ v6 < 64) ∧ jr32 (fMi s v6) ∧ jr32 v1 ∧ ((v1 < (fMi s v6) → kK mX4_bestWithin 10 [jR 124, jI v1, jI v2, jL v3, jU, jI v5, jI (v6 + 1), jU, jU, jU] [] s Q) ∧ (¬ (v1 < (fMi s v6)) → (∀ (y10 : Int) (s11 : Int → Int → Int), (y10 = fGR s v6 ∧ frm anP s s11) → ((0 ≤ v6 ∧ v6 < 1073741824) ∧ (0 ≤ (6 - (bc v6)) ∧ (6 - (bc v6)) ≤ 6) ∧ jr64 (y10 * ((100 : Int) ^ Int.toNat (6 - (bc v6)))) ∧ jr64 v3 ∧ ((v3 < (y10 * ((100 : Int) ^ Int.toNat (6 - (bc v6)))) → kK mX4_bestWithin 10 [jR 124, jI v1, jI v6, jL (y10 * ((100 : Int) ^ Int.toNat (6 - (bc v6)))), jU, jI (fMi s v6), jI (v6 + 1), jU, jU, jU] [] s11 Q) ∧ (¬ (v3 < (y10 * ((100 : Int) ^ Int.toNat (6 - (bc v6))))) → (((y10 * ((100 : Int) ^ Int.toNat (6 - (bc v6)))) ≠ v3 → kK mX4_bestWithin 10 [jR 124, jI v1, jI v2, jL v3, jU, jI v5, jI (v6 + 1), jU, jU, jU] [] s11 Q) ∧ ((y10 * ((100 : Int) ^ Int.toNat (6 - (bc v6)))) = v3 → (jr32 v5 ∧ ((v5 ≤ (fMi s v6) → kK mX4_bestWithin 10 [jR 124, jI v1, jI v2, jL v3, jU, jI v5, jI (v6 + 1), jU, jU, jU] [] s11 Q) ∧ (¬ (v5 ≤ (fMi s v6)) → kK mX4_bestWithin 10 [jR 124, jI v1, jI v6, jL (y10 * ((100 : Int) ^ Int.toNat (6 - (bc v6)))), jU, jI (fMi s v6), jI (v6 + 1), jU, jU, jU] [] s11 Q)))))))))))))))) : kK mX4_bestWithin 10 [jR 124, jI v1, jI v2, jL v3, jU, jI v5, jI v6, jU, jU, jU] [] s Q := by
  obtain ⟨a1, a2, a3, v⟩ := v
  refine k_iload dX4_bestWithin_10 rfl ?_
  refine k_iconst dX4_bestWithin_12 ?_
  refine k_aload_n dX4_bestWithin_13 rfl ?_
  refine k_geti 3 dX4_bestWithin_14 fl_X4_28 sh_124 (by decide) rfl rfl ?_
  refine k_shl dX4_bestWithin_17 a1 ?_
  obtain ⟨vt, vf⟩ := v
  refine k_icmp_ge 92 dX4_bestWithin_18 rfl a2 a3 (fun c4 => ?_) (fun c4 => ?_)
  · have v := vt c4
    refine k_iload_n dX4_bestWithin_92 rfl ?_
    exact k_ireturn (st := []) dX4_bestWithin_93 rfl v
  · have v := vf c4
    obtain ⟨a5, a6, a7, a8, v⟩ := v
    refine k_aload_n dX4_bestWithin_21 rfl ?_
    refine k_iload dX4_bestWithin_22 rfl ?_
    refine k_invV [jI v6] [] dX4_bestWithin_24 cm_X4_minutesOf ml_X4_54 im_X4_minutesOf se_X4_minutesOf rfl sh_124 (by decide) rfl rfl (sp_X4_minutesOf s v6 a5 a6) ?_
    refine k_istore [jR 124, jI v1, jI v2, jL v3, jU, jI v5, jI v6, jI (fMi s v6), jU, jU] dX4_bestWithin_27 rfl rfl ?_
    refine k_iload dX4_bestWithin_29 rfl ?_
    refine k_iload_n dX4_bestWithin_31 rfl ?_
    obtain ⟨vt, vf⟩ := v
    refine k_icmp_gt 86 dX4_bestWithin_32 rfl a7 a8 (fun c9 => ?_) (fun c9 => ?_)
    · have v := vt c9
      refine k_iinc [jR 124, jI v1, jI v2, jL v3, jU, jI v5, jI (v6 + 1), jI (fMi s v6), jU, jU] dX4_bestWithin_86 rfl rfl rfl ?_
      refine k_goto 10 dX4_bestWithin_89 rfl ?_
      refine k_drop [jR 124, jI v1, jI v2, jL v3, jU, jI v5, jI (v6 + 1), jU, jU, jU] ⟨Or.inr rfl, Or.inr rfl, Or.inr rfl, Or.inr rfl, Or.inr rfl, Or.inr rfl, Or.inr rfl, Or.inl rfl, Or.inr rfl, Or.inr rfl, trivial⟩ ?_
      exact v
    · have v := vf c9
      refine k_aload_n dX4_bestWithin_35 rfl ?_
      refine k_iload dX4_bestWithin_36 rfl ?_
      refine k_invVR [jI v6] [] dX4_bestWithin_38 cm_X4_guessedRight ml_X4_57 im_X4_guessedRight se_X4_guessedRight rfl sh_124 (by decide) rfl rfl (sp_X4_guessedRight s v6 a5 a6) (fun _ s11 q12 => ?_)
      obtain ⟨y10, rfl, q12⟩ := q12
      have v := v y10 s11 q12
      obtain ⟨a13, a14, a15, a16, v⟩ := v
      refine k_bipush dX4_bestWithin_41 rfl ?_
      refine k_iload dX4_bestWithin_43 rfl ?_
      refine k_invS [jI v6] [jI 6, jL y10] dX4_bestWithin_45 cm_J6_bitCount_0f7a4 ml_X4_42 st_J6_bitCount_0f7a4 rfl rfl (sp_J6_bitCount s11 v6 a13) ?_
      refine k_isub dX4_bestWithin_48 ?_
      refine k_invS [jI (6 - (bc v6))] [jL y10] dX4_bestWithin_49 cm_X4_hundreds ml_X4_48 st_X4_hundreds rfl rfl (sp_X4_hundreds s11 (6 - (bc v6)) a14) ?_
      refine k_lmul dX4_bestWithin_52 ?_
      refine k_lstore [jR 124, jI v1, jI v2, jL v3, jU, jI v5, jI v6, jI (fMi s v6), jL (y10 * ((100 : Int) ^ Int.toNat (6 - (bc v6)))), jU] dX4_bestWithin_53 rfl rfl ?_
      refine k_lload dX4_bestWithin_55 rfl ?_
      refine k_lload_n dX4_bestWithin_57 rfl ?_
      obtain ⟨vt, vf⟩ := v
      refine k_lcmp_if_gt 76 dX4_bestWithin_58 dX4_bestWithin_59 rfl a15 a16 (fun c17 => ?_) (fun c17 => ?_)
      · have v := vt c17
        refine k_iload dX4_bestWithin_76 rfl ?_
        refine k_istore_n [jR 124, jI v1, jI v6, jL v3, jU, jI v5, jI v6, jI (fMi s v6), jL (y10 * ((100 : Int) ^ Int.toNat (6 - (bc v6)))), jU] dX4_bestWithin_78 rfl rfl ?_
        refine k_lload dX4_bestWithin_79 rfl ?_
        refine k_lstore_n [jR 124, jI v1, jI v6, jL (y10 * ((100 : Int) ^ Int.toNat (6 - (bc v6)))), jU, jI v5, jI v6, jI (fMi s v6), jL (y10 * ((100 : Int) ^ Int.toNat (6 - (bc v6)))), jU] dX4_bestWithin_81 rfl rfl ?_
        refine k_iload dX4_bestWithin_82 rfl ?_
        refine k_istore [jR 124, jI v1, jI v6, jL (y10 * ((100 : Int) ^ Int.toNat (6 - (bc v6)))), jU, jI (fMi s v6), jI v6, jI (fMi s v6), jL (y10 * ((100 : Int) ^ Int.toNat (6 - (bc v6)))), jU] dX4_bestWithin_84 rfl rfl ?_
        refine k_iinc [jR 124, jI v1, jI v6, jL (y10 * ((100 : Int) ^ Int.toNat (6 - (bc v6)))), jU, jI (fMi s v6), jI (v6 + 1), jI (fMi s v6), jL (y10 * ((100 : Int) ^ Int.toNat (6 - (bc v6)))), jU] dX4_bestWithin_86 rfl rfl rfl ?_
        refine k_goto 10 dX4_bestWithin_89 rfl ?_
        refine k_drop [jR 124, jI v1, jI v6, jL (y10 * ((100 : Int) ^ Int.toNat (6 - (bc v6)))), jU, jI (fMi s v6), jI (v6 + 1), jU, jU, jU] ⟨Or.inr rfl, Or.inr rfl, Or.inr rfl, Or.inr rfl, Or.inr rfl, Or.inr rfl, Or.inr rfl, Or.inl rfl, Or.inl rfl, Or.inr rfl, trivial⟩ ?_
        exact v
      · have v := vf c17
        refine k_lload dX4_bestWithin_62 rfl ?_
        refine k_lload_n dX4_bestWithin_64 rfl ?_
        obtain ⟨vt, vf⟩ := v
        refine k_lcmp_if_ne 86 dX4_bestWithin_65 dX4_bestWithin_66 rfl a15 a16 (fun c18 => ?_) (fun c18 => ?_)
        · have v := vt c18
          refine k_iinc [jR 124, jI v1, jI v2, jL v3, jU, jI v5, jI (v6 + 1), jI (fMi s v6), jL (y10 * ((100 : Int) ^ Int.toNat (6 - (bc v6)))), jU] dX4_bestWithin_86 rfl rfl rfl ?_
          refine k_goto 10 dX4_bestWithin_89 rfl ?_
          refine k_drop [jR 124, jI v1, jI v2, jL v3, jU, jI v5, jI (v6 + 1), jU, jU, jU] ⟨Or.inr rfl, Or.inr rfl, Or.inr rfl, Or.inr rfl, Or.inr rfl, Or.inr rfl, Or.inr rfl, Or.inl rfl, Or.inl rfl, Or.inr rfl, trivial⟩ ?_
          exact v
        · have v := vf c18
          obtain ⟨a19, v⟩ := v
          refine k_iload dX4_bestWithin_69 rfl ?_
          refine k_iload dX4_bestWithin_71 rfl ?_
          obtain ⟨vt, vf⟩ := v
          refine k_icmp_ge 86 dX4_bestWithin_73 rfl a7 a19 (fun c20 => ?_) (fun c20 => ?_)
          · have v := vt c20
            refine k_iinc [jR 124, jI v1, jI v2, jL v3, jU, jI v5, jI (v6 + 1), jI (fMi s v6), jL (y10 * ((100 : Int) ^ Int.toNat (6 - (bc v6)))), jU] dX4_bestWithin_86 rfl rfl rfl ?_
            refine k_goto 10 dX4_bestWithin_89 rfl ?_
            refine k_drop [jR 124, jI v1, jI v2, jL v3, jU, jI v5, jI (v6 + 1), jU, jU, jU] ⟨Or.inr rfl, Or.inr rfl, Or.inr rfl, Or.inr rfl, Or.inr rfl, Or.inr rfl, Or.inr rfl, Or.inl rfl, Or.inl rfl, Or.inr rfl, trivial⟩ ?_
            exact v
          · have v := vf c20
            refine k_iload dX4_bestWithin_76 rfl ?_
            refine k_istore_n [jR 124, jI v1, jI v6, jL v3, jU, jI v5, jI v6, jI (fMi s v6), jL (y10 * ((100 : Int) ^ Int.toNat (6 - (bc v6)))), jU] dX4_bestWithin_78 rfl rfl ?_
            refine k_lload dX4_bestWithin_79 rfl ?_
            refine k_lstore_n [jR 124, jI v1, jI v6, jL (y10 * ((100 : Int) ^ Int.toNat (6 - (bc v6)))), jU, jI v5, jI v6, jI (fMi s v6), jL (y10 * ((100 : Int) ^ Int.toNat (6 - (bc v6)))), jU] dX4_bestWithin_81 rfl rfl ?_
            refine k_iload dX4_bestWithin_82 rfl ?_
            refine k_istore [jR 124, jI v1, jI v6, jL (y10 * ((100 : Int) ^ Int.toNat (6 - (bc v6)))), jU, jI (fMi s v6), jI v6, jI (fMi s v6), jL (y10 * ((100 : Int) ^ Int.toNat (6 - (bc v6)))), jU] dX4_bestWithin_84 rfl rfl ?_
            refine k_iinc [jR 124, jI v1, jI v6, jL (y10 * ((100 : Int) ^ Int.toNat (6 - (bc v6)))), jU, jI (fMi s v6), jI (v6 + 1), jI (fMi s v6), jL (y10 * ((100 : Int) ^ Int.toNat (6 - (bc v6)))), jU] dX4_bestWithin_86 rfl rfl rfl ?_
            refine k_goto 10 dX4_bestWithin_89 rfl ?_
            refine k_drop [jR 124, jI v1, jI v6, jL (y10 * ((100 : Int) ^ Int.toNat (6 - (bc v6)))), jU, jI (fMi s v6), jI (v6 + 1), jU, jU, jU] ⟨Or.inr rfl, Or.inr rfl, Or.inr rfl, Or.inr rfl, Or.inr rfl, Or.inr rfl, Or.inr rfl, Or.inl rfl, Or.inl rfl, Or.inr rfl, trivial⟩ ?_
            exact v
/-- the best form, as it is searched -/
def fbs (s : Int → Int → Int) (m b : Int) (p : Int × Int) : Int × Int := if fMi s b ≤ m ∧ (p.2 < fTO s b ∨ (fTO s b = p.2 ∧ fMi s b < fMi s p.1)) then (b, fTO s b) else p
def fbp (s : Int → Int → Int) (m i : Int) : Int × Int := fp i (fun j => fbs s m (1 + j)) (0, fTO s 0)
theorem bc_n {n S : Int} (hn : 0 ≤ n ∧ n ≤ 6) (hS : 0 ≤ S ∧ S < 2 ^ n.toNat) : bc S = sg n (bt S) := by
  have a := sg_2 (bt S) (a := n) hn.1 (30 - n) (by omega)
  rw [show n + (30 - n) = 30 by omega] at a
  unfold bc
  rw [a, sg_zero (n := 30 - n) (fun j j0 j1 => bt_z hS.1 ?_), Int.add_zero]
  have : (2 : Int) ^ n.toNat ≤ 2 ^ (n + j).toNat := ipow_le (by decide) (by omega)
  omega
theorem fTO_b {s : Int → Int → Int} (h : fQ s) {S : Int} (hS : 0 ≤ S ∧ S < 2 ^ (s 146 5).toNat) : (0 ≤ fTO s S ∧ fTO s S ≤ 36000000000000) ∧ fGR s S * 100 ^ (6 - bc S).toNat = fTO s S * 100 ^ (6 - s 146 5).toNat ∧ fTO s S * 100 ^ (6 - s 146 5).toNat ≤ 36000000000000 := by
  have hn := h.1
  have cl := sgb_le2 S (s 146 5) hn.1
  have wb := fW_b h
  have gb := fGR_b h S
  have e := fTO_GR s S hn.1
  have eb := bc_n hn hS
  have m1 := c100_m (a := s 146 5 - sg (s 146 5) (bt S)) (b := 6 - s 146 5) (by omega) (by omega)
  have m2 := c100_m (a := sg (s 146 5) (bt S)) (b := 6 - sg (s 146 5) (bt S)) (by omega) (by omega)
  have m3 := c100_m (a := sg (s 146 5) (bt S)) (b := s 146 5 - sg (s 146 5) (bt S)) (by omega) (by omega)
  rw [show s 146 5 - sg (s 146 5) (bt S) + (6 - s 146 5) = 6 - sg (s 146 5) (bt S) by omega] at m1
  rw [show sg (s 146 5) (bt S) + (6 - sg (s 146 5) (bt S)) = 6 by omega, show (100 : Int) ^ Int.toNat 6 = 1000000000000 from rfl] at m2
  have p1 := c100 (k := s 146 5 - sg (s 146 5) (bt S)) (by omega) (by omega)
  have p2 := c100 (k := 6 - sg (s 146 5) (bt S)) (by omega) (by omega)
  have p3 := c100 (k := sg (s 146 5) (bt S)) (by omega) (by omega)
  have p4 := c100 (k := 6 - s 146 5) (by omega) (by omega)
  have u : fGR s S * 100 ^ (6 - bc S).toNat = fTO s S * 100 ^ (6 - s 146 5).toNat := by
    rw [e, Int.mul_assoc, m1, eb]
  have v : fTO s S * 100 ^ (6 - s 146 5).toNat ≤ 36000000000000 := by
    rw [← u, eb]
    have a := Int.mul_le_mul_of_nonneg_right gb.2 (show 0 ≤ (100 : Int) ^ (6 - sg (s 146 5) (bt S)).toNat by omega)
    rw [Int.mul_assoc, m2] at a
    omega
  have t0 : 0 ≤ fTO s S := by rw [e]; exact Int.mul_nonneg gb.1 (by omega)
  have t1 := Int.mul_le_mul_of_nonneg_left p4.1 t0
  exact ⟨⟨t0, by omega⟩, u, v⟩
theorem fbp_ok {s : Int → Int → Int} (h : fQ s) (m : Int) {i : Int} (i0 : 0 ≤ i) (i1 : i ≤ 2 ^ (s 146 5).toNat - 1) : (0 ≤ (fbp s m i).1 ∧ (fbp s m i).1 < 2 ^ (s 146 5).toNat) ∧ (fbp s m i).2 = fTO s (fbp s m i).1 := by
  have pn := p2_pos (s 146 5)
  refine fp_ok (I := fun p => (0 ≤ p.1 ∧ p.1 < 2 ^ (s 146 5).toNat) ∧ p.2 = fTO s p.1) (m := 2 ^ (s 146 5).toNat - 1) (fun j p j0 j1 hp => ?_) ⟨⟨by show (0 : Int) ≤ 0; omega, by show (0 : Int) < _; omega⟩, rfl⟩ i i0 i1
  unfold fbs
  by_cases c : fMi s (1 + j) ≤ m ∧ (p.2 < fTO s (1 + j) ∨ (fTO s (1 + j) = p.2 ∧ fMi s (1 + j) < fMi s p.1))
  · rw [if_pos c]
    exact ⟨⟨by show 0 ≤ 1 + j; omega, by show 1 + j < _; omega⟩, rfl⟩
  · rw [if_neg c]; exact hp
theorem fMi_b {s : Int → Int → Int} (h : FQc s) (S : Int) : 0 ≤ fMi s S ∧ fMi s S ≤ 180 := by
  obtain ⟨hq, he, -⟩ := h
  have := sg_b (n := s 146 5) (f := fun q => if bt S q = 1 then s 167 q else 0) (a := 0) (b := 30) hq.1.1 (fun q q0 q1 => by
    have := he.2.2.1.2 q q0 q1
    by_cases c : bt S q = 1
    · rw [if_pos c]; omega
    · rw [if_neg c]; omega)
  have := hq.1
  unfold fMi; omega
theorem fca_0 (s : Int → Int → Int) (row g : Int) : ∀ m, 0 ≤ m → fca s 0 m row g = s 157 g := by
  refine in_up _ rfl (fun m hm ih => ?_)
  rw [fca_s s 0 hm, if_neg (by rw [bt_z (by omega) (by have := p2_pos m; omega)]; omega), ih]
theorem fTO_0 {s : Int → Int → Int} (h : fQ s) : 0 < fTO s 0 := by
  have hn := h.1
  have z : ∀ q, bt 0 q = 0 := fun q => bt_z (by omega) (by have := p2_pos q; omega)
  have c0 : sg (s 146 5) (bt 0) = 0 := sg_zero (fun q _ _ => z q)
  have r1 : fR 0 (s 146 5) = 1 := by unfold fR; rw [c0]; rfl
  have g1 : 1 ≤ fGR s 0 := by
    unfold fGR
    rw [r1, show (1 : Int) = 0 + 1 from rfl, sg_s (by omega), sg_0]
    unfold fmx
    rw [fca_0 s 0 0 _ hn.1]
    have := h.2.2 0 (by omega) (by omega)
    omega
  have p := c100 (k := s 146 5 - sg (s 146 5) (bt 0)) (by omega) (by omega)
  have := Int.mul_le_mul_of_nonneg_left p.1 (show 0 ≤ fGR s 0 by omega)
  rw [fTO_GR s 0 hn.1]
  omega
theorem fGR_fr {s s' : Int → Int → Int} (f : ∀ k, k = 146 ∨ k = 157 ∨ k = 168 → s' k = s k) (S : Int) : fGR s' S = fGR s S := by
  unfold fGR fca
  rw [f 146 (by omega), fca_fr (f 157 (by omega)) (f 168 (by omega))]
theorem fMi_fr {s s' : Int → Int → Int} (f : ∀ k, k = 146 ∨ k = 167 → s' k = s k) (S : Int) : fMi s' S = fMi s S := by
  unfold fMi
  rw [f 146 (by omega), f 167 (by omega)]
theorem sp_X4_bestWithin (s : Int → Int → Int) (m : Int) (h : FQc s) (hm : 0 ≤ m ∧ m ≤ 200) : kR mX4_bestWithin [jR 124, jI m] s (fun o s' => ∃ y, o = some (jI y) ∧ y = (fbp s m (2 ^ (s 146 5).toNat - 1)).1 ∧ frm anP s s') := by
  obtain ⟨hq, he, hb⟩ := id h
  have hn := hq.1
  have pn := p2_pos (s 146 5)
  have p64 : (2 : Int) ^ (s 146 5).toNat ≤ 64 := by
    have : (2 : Int) ^ (s 146 5).toNat ≤ 2 ^ 6 := ipow_le (by decide) (by omega)
    have e : (2 : Int) ^ 6 = 64 := rfl
    omega
  have pk := c100 (k := 6 - s 146 5) (by omega) (by omega)
  refine g_X4_bestWithin ?_
  have key : ∀ b, b ≤ 2 ^ (s 146 5).toNat → 1 ≤ b → ∀ s1, frm anP s s1 → kK mX4_bestWithin 10 [jR 124, jI m, jI (fbp s m (b - 1)).1, jL ((fbp s m (b - 1)).2 * 100 ^ (6 - s 146 5).toNat), jU, jI (fMi s (fbp s m (b - 1)).1), jI b, jU, jU, jU] [] s1 (fun o s' => ∃ y, o = some (jI y) ∧ y = (fbp s m (2 ^ (s 146 5).toNat - 1)).1 ∧ frm anP s s') := by
    refine lp_up _ _ (fun b hb2 ih b1 s1 f1 => ?_)
    have h1 : FQc s1 := h.fr (fun k hk => f1 k (by unfold anP; omega))
    have eM : ∀ S, fMi s1 S = fMi s S := fMi_fr (fun k hk => f1 k (by unfold anP; omega))
    have eG : ∀ S, fGR s1 S = fGR s S := fGR_fr (fun k hk => f1 k (by unfold anP; omega))
    obtain ⟨ok1, ok2⟩ := fbp_ok hq m (i := b - 1) (by omega) (by omega)
    refine g_X4_bestWithin_10 ?_
    rw [f1 124 (by unfold anP; omega), he.1, Int.one_mul, eM]
    have mb := fMi_b h b
    have mp := fMi_b h (fbp s m (b - 1)).1
    refine ⟨by omega, by unfold jr32; omega, by unfold jr32; omega, fun q => ?_, fun q => ⟨h1, by omega, by unfold jr32; omega, by unfold jr32; omega, ?_⟩⟩
    · exact ⟨_, rfl, by rw [show b - 1 = 2 ^ (s 146 5).toNat - 1 by omega], f1⟩
    · have nx := ih (by omega) (by omega)
      have sb : fbp s m (b + 1 - 1) = fbs s m b (fbp s m (b - 1)) := by
        have := fp_s (n := b - 1) (by omega) (fun j => fbs s m (1 + j)) (0, fTO s 0)
        unfold fbp
        rw [show b + 1 - 1 = b - 1 + 1 by omega, this, show 1 + (b - 1) = b by omega]
      rw [sb] at nx
      obtain ⟨t1, t2, t3⟩ := fTO_b hq (S := b) (by omega)
      obtain ⟨u1, u2, u3⟩ := fTO_b hq (S := (fbp s m (b - 1)).1) ok1
      rw [← ok2] at u1 u3
      have b6 := bc_6 (t := b) (by omega)
      have lt : ∀ x y : Int, x < y ↔ x * 100 ^ (6 - s 146 5).toNat < y * 100 ^ (6 - s 146 5).toNat := fun x y => by
        constructor
        · intro c
          have := Int.mul_le_mul_of_nonneg_right (show x + 1 ≤ y by omega) (show 0 ≤ (100 : Int) ^ (6 - s 146 5).toNat by omega)
          rw [Int.add_mul] at this
          omega
        · intro c
          by_cases d : x < y
          · exact d
          · have := Int.mul_le_mul_of_nonneg_right (show y ≤ x by omega) (show 0 ≤ (100 : Int) ^ (6 - s 146 5).toNat by omega)
            omega
      have yes : ∀ s2, frm anP s s2 → (fMi s b ≤ m ∧ ((fbp s m (b - 1)).2 < fTO s b ∨ (fTO s b = (fbp s m (b - 1)).2 ∧ fMi s b < fMi s (fbp s m (b - 1)).1))) → kK mX4_bestWithin 10 [jR 124, jI m, jI b, jL (fTO s b * 100 ^ (6 - s 146 5).toNat), jU, jI (fMi s b), jI (b + 1), jU, jU, jU] [] s2 (fun o s' => ∃ y, o = some (jI y) ∧ y = (fbp s m (2 ^ (s 146 5).toNat - 1)).1 ∧ frm anP s s') := fun s2 f2 c => by
        have := nx s2 f2
        unfold fbs at this
        rw [if_pos c] at this
        exact this
      have no : ∀ s2, frm anP s s2 → ¬ (fMi s b ≤ m ∧ ((fbp s m (b - 1)).2 < fTO s b ∨ (fTO s b = (fbp s m (b - 1)).2 ∧ fMi s b < fMi s (fbp s m (b - 1)).1))) → kK mX4_bestWithin 10 [jR 124, jI m, jI (fbp s m (b - 1)).1, jL ((fbp s m (b - 1)).2 * 100 ^ (6 - s 146 5).toNat), jU, jI (fMi s (fbp s m (b - 1)).1), jI (b + 1), jU, jU, jU] [] s2 (fun o s' => ∃ y, o = some (jI y) ∧ y = (fbp s m (2 ^ (s 146 5).toNat - 1)).1 ∧ frm anP s s') := fun s2 f2 c => by
        have := nx s2 f2
        unfold fbs at this
        rw [if_neg c] at this
        exact this
      refine ⟨fun q2 => no s1 f1 (fun c => by have := c.1; omega), fun q2 y s9 q9 => ?_⟩
      have f9 : frm anP s s9 := f1.tr q9.2
      have ey : y * 100 ^ (6 - bc b).toNat = fTO s b * 100 ^ (6 - s 146 5).toNat := by rw [q9.1, eG]; exact t2
      rw [ey]
      have z0 := Int.mul_nonneg u1.1 (show 0 ≤ (100 : Int) ^ (6 - s 146 5).toNat by omega)
      have z1 := Int.mul_nonneg t1.1 (show 0 ≤ (100 : Int) ^ (6 - s 146 5).toNat by omega)
      have l1 := lt (fbp s m (b - 1)).2 (fTO s b)
      have l2 := lt (fTO s b) (fbp s m (b - 1)).2
      refine ⟨by omega, by omega, by unfold jr64; omega, by unfold jr64; omega, fun q3 => yes s9 f9 ⟨by omega, Or.inl (l1.2 q3)⟩, fun q3 => ⟨fun q4 => no s9 f9 (fun c => ?_), fun q4 => ⟨by unfold jr32; omega, fun q5 => no s9 f9 (fun c => ?_), fun q5 => yes s9 f9 ⟨by omega, Or.inr ⟨by omega, by omega⟩⟩⟩⟩⟩
      · rcases c.2 with c | c
        · exact q3 (l1.1 c)
        · rw [c.1] at q4; exact q4 rfl
      · rcases c.2 with c | c
        · exact q3 (l1.1 c)
        · omega
  -- the empty form
  have fM0 : fMi s 0 = 0 := sg_zero (fun q _ _ => if_neg (by rw [bt_z (by omega) (by have := p2_pos q; omega)]; omega))
  refine g_X4_bestWithin_10 ?_
  rw [he.1, Int.one_mul, fM0]
  obtain ⟨t1, t2, t3⟩ := fTO_b hq (S := 0) (by omega)
  have t0 := fTO_0 hq
  have z1 := Int.mul_le_mul_of_nonneg_left pk.1 t1.1
  refine ⟨by omega, by decide, by unfold jr32; omega, fun q => by omega, fun q => ⟨h, by omega, by decide, by unfold jr32; omega, fun q2 => by omega, fun q2 y s9 q9 => ?_⟩⟩
  have ey : y * 100 ^ (6 - bc 0).toNat = fTO s 0 * 100 ^ (6 - s 146 5).toNat := by rw [q9.1]; exact t2
  rw [ey, bc_0]
  refine ⟨by omega, by omega, by unfold jr64; omega, by decide, fun q3 => ?_, fun q3 => by omega⟩
  have := key 1 (by omega) (by omega) s9 q9.2
  rw [show (1 : Int) - 1 = 0 from rfl, show fbp s m 0 = (0, fTO s 0) from rfl] at this
  dsimp only at this
  rw [fM0] at this
  exact this
theorem g_X10_tells {s : Int → Int → Int} {Q : Option jV → (Int → Int → Int) → Prop} {v1 : Int} (v : ((0 ≤ (s 124 3) ∧ (s 124 3) ≤ 31) ∧ jr32 v1 ∧ jr32 (((1 : Int) * 2 ^ Int.toNat (s 124 3)) - 1) ∧ ((0 ≤ v1 ∧ v1 ≤ (((1 : Int) * 2 ^ Int.toNat (s 124 3)) - 1) → ((FQc s) ∧ (0 ≤ v1 ∧ v1 < 64) ∧ (∀ (y7 : Int) (s8 : Int → Int → Int), (y7 = fGR s v1 ∧ frm anP s s8) → ((FQc s8) ∧ (0 ≤ y7 ∧ y7 ≤ 9223372036854775807) ∧ (0 < (fW s8 * 100 ^ Int.toNat (bc v1)) ∧ (fW s8 * 100 ^ Int.toNat (bc v1)) ≤ 9223372036854775807) ∧ (∀ (s14 : Int → Int → Int), (frm fcP s8 s14 ∧ FC s14 y7 (fW s8 * 100 ^ Int.toNat (bc v1))) → Q (some (jI 1)) s14))))) ∧ (¬ (0 ≤ v1 ∧ v1 ≤ (((1 : Int) * 2 ^ Int.toNat (s 124 3)) - 1)) → Q (some (jI (-2))) s)))) : kR mX10_tells [jR 1, jI v1] s Q := by
  show kK mX10_tells 0 [jR 1, jI v1] [] s Q
  obtain ⟨a1, a2, a3, v⟩ := v
  refine k_iload_n dX10_tells_0 rfl ?_
  refine k_iconst dX10_tells_1 ?_
  refine k_iconst dX10_tells_2 ?_
  refine k_aload_n dX10_tells_3 rfl ?_
  refine k_getr dX10_tells_4 fl_X10_77 sh_1 (by decide) rfl ?_
  refine k_geti 3 dX10_tells_7 fl_X10_276 sh_124 (by decide) rfl rfl ?_
  refine k_shl dX10_tells_10 a1 ?_
  refine k_iconst dX10_tells_11 ?_
  refine k_isub dX10_tells_12 ?_
  refine k_invS [jI v1, jI 0, jI (((1 : Int) * 2 ^ Int.toNat (s 124 3)) - 1)] [] dX10_tells_13 cm_X10_within ml_X10_92 st_X10_within rfl rfl (sp_X10_within s v1 0 (((1 : Int) * 2 ^ Int.toNat (s 124 3)) - 1) a2 (by decide) a3) ?_
  obtain ⟨vt, vf⟩ := v
  refine k_ifb_ne 22 dX10_tells_16 rfl (fun c4 => ?_) (fun c4 => ?_)
  · have v := vt c4
    obtain ⟨a5, a6, v⟩ := v
    refine k_aload_n dX10_tells_22 rfl ?_
    refine k_getr dX10_tells_23 fl_X10_84 sh_1 (by decide) rfl ?_
    refine k_aload_n dX10_tells_26 rfl ?_
    refine k_getr dX10_tells_27 fl_X10_77 sh_1 (by decide) rfl ?_
    refine k_iload_n dX10_tells_30 rfl ?_
    refine k_invVR [jI v1] [jR 138] dX10_tells_31 cm_X4_guessedRight ml_X10_279 im_X4_guessedRight se_X4_guessedRight rfl sh_124 (by decide) rfl rfl (sp_X4_guessedRight s v1 a5 a6) (fun _ s8 q9 => ?_)
    obtain ⟨y7, rfl, q9⟩ := q9
    have v := v y7 s8 q9
    obtain ⟨a10, a11, a12, v⟩ := v
    refine k_aload_n dX10_tells_34 rfl ?_
    refine k_getr dX10_tells_35 fl_X10_77 sh_1 (by decide) rfl ?_
    refine k_iload_n dX10_tells_38 rfl ?_
    refine k_invV [jI v1] [jL y7, jR 138] dX10_tells_39 cm_X4_allGuesses ml_X10_283 im_X4_allGuesses se_X4_allGuesses rfl sh_124 (by decide) rfl rfl (sp_X4_allGuesses s8 v1 a10 a6) ?_
    refine k_invVR [jL y7, jL (fW s8 * 100 ^ Int.toNat (bc v1))] [] dX10_tells_42 cm_X5_put ml_X10_150 im_X5_put se_X5_put rfl sh_138 (by decide) rfl rfl (sp_X5_put s8 y7 (fW s8 * 100 ^ Int.toNat (bc v1)) a11 a12) (fun _ s14 q15 => ?_)
    obtain ⟨rfl, q15⟩ := q15
    have v := v s14 q15
    refine k_iconst dX10_tells_45 ?_
    exact k_ireturn (st := []) dX10_tells_46 rfl v
  · have v := vf c4
    refine k_bipush dX10_tells_19 rfl ?_
    exact k_ireturn (st := []) dX10_tells_21 rfl v
theorem g_X10_form {s : Int → Int → Int} {Q : Option jV → (Int → Int → Int) → Prop} {v1 : Int} (v : (jr32 v1 ∧ ((0 ≤ v1 ∧ v1 ≤ 200 → ((FQc s) ∧ (0 ≤ v1 ∧ v1 ≤ 200) ∧ (∀ (y5 : Int) (s6 : Int → Int → Int), (y5 = (fbp s v1 (2 ^ (s 146 5).toNat - 1)).1 ∧ frm anP s s6) → Q (some (jI y5)) s6))) ∧ (¬ (0 ≤ v1 ∧ v1 ≤ 200) → Q (some (jI (-2))) s)))) : kR mX10_form [jR 1, jI v1] s Q := by
  show kK mX10_form 0 [jR 1, jI v1] [] s Q
  obtain ⟨a1, v⟩ := v
  refine k_iload_n dX10_form_0 rfl ?_
  refine k_iconst dX10_form_1 ?_
  refine k_sipush dX10_form_2 rfl ?_
  refine k_invS [jI v1, jI 0, jI 200] [] dX10_form_5 cm_X10_within ml_X10_92 st_X10_within rfl rfl (sp_X10_within s v1 0 200 a1 (by decide) (by decide)) ?_
  obtain ⟨vt, vf⟩ := v
  refine k_ifb_ne 14 dX10_form_8 rfl (fun c2 => ?_) (fun c2 => ?_)
  · have v := vt c2
    obtain ⟨a3, a4, v⟩ := v
    refine k_aload_n dX10_form_14 rfl ?_
    refine k_getr dX10_form_15 fl_X10_77 sh_1 (by decide) rfl ?_
    refine k_iload_n dX10_form_18 rfl ?_
    refine k_invVR [jI v1] [] dX10_form_19 cm_X4_bestWithin ml_X10_286 im_X4_bestWithin se_X4_bestWithin rfl sh_124 (by decide) rfl rfl (sp_X4_bestWithin s v1 a3 a4) (fun _ s6 q7 => ?_)
    obtain ⟨y5, rfl, q7⟩ := q7
    have v := v y5 s6 q7
    exact k_ireturn (st := []) dX10_form_22 rfl v
  · have v := vf c2
    refine k_bipush dX10_form_11 rfl ?_
    exact k_ireturn (st := []) dX10_form_13 rfl v
theorem g_X11_tells {s : Int → Int → Int} {Q : Option jV → (Int → Int → Int) → Prop} {v1 : Int} (v : (jr32 v1 ∧ (0 ≤ (s 146 5) ∧ (s 146 5) ≤ 31) ∧ jr32 (((1 : Int) * 2 ^ Int.toNat (s 146 5)) - 1) ∧ jr64 v1 ∧ jr64 (((1 : Int) * 2 ^ Int.toNat (s 146 5)) - 1) ∧ ((¬ (0 ≤ v1 ∧ v1 ≤ (((1 : Int) * 2 ^ Int.toNat (s 146 5)) - 1)) → Q (some (jI (-2))) s) ∧ (0 ≤ v1 ∧ v1 ≤ (((1 : Int) * 2 ^ Int.toNat (s 146 5)) - 1) → ((fQ s) ∧ (0 ≤ v1 ∧ v1 < 64) ∧ (0 ≤ (fTO s v1) ∧ (fTO s v1) ≤ 9223372036854775807) ∧ (0 < (fW s * 100 ^ Int.toNat (s 146 5)) ∧ (fW s * 100 ^ Int.toNat (s 146 5)) ≤ 9223372036854775807) ∧ (∀ (y11 : Int) (s12 : Int → Int → Int), (y11 = 1 ∧ RF (fun q => 0 ≤ q ∧ q ≤ 4) s s12 ∧ RG s12 0 ((fTO s v1) / gc (fTO s v1) (fW s * 100 ^ Int.toNat (s 146 5))) ∧ RG s12 1 ((fW s * 100 ^ Int.toNat (s 146 5)) / gc (fTO s v1) (fW s * 100 ^ Int.toNat (s 146 5)))) → Q (some (jI y11)) s12)))))) : kR mX11_tells [jR 143, jI v1] s Q := by
  show kK mX11_tells 0 [jR 143, jI v1] [] s Q
  obtain ⟨a1, a2, a3, a4, a5, v⟩ := v
  refine k_iload_n dX11_tells_0 rfl ?_
  refine k_i2l dX11_tells_1 a1 ?_
  refine k_lconst 0 dX11_tells_2 rfl ?_
  refine k_iconst dX11_tells_3 ?_
  refine k_aload_n dX11_tells_4 rfl ?_
  refine k_getr dX11_tells_5 fl_X11_16 sh_143 (by decide) rfl ?_
  refine k_iconst dX11_tells_8 ?_
  refine k_iald 6 dX11_tells_9 sh_146 (by decide) rfl (by decide) (by decide) ?_
  refine k_shl dX11_tells_10 a2 ?_
  refine k_iconst dX11_tells_11 ?_
  refine k_isub dX11_tells_12 ?_
  refine k_i2l dX11_tells_13 a3 ?_
  refine k_invS [jL v1, jL 0, jL (((1 : Int) * 2 ^ Int.toNat (s 146 5)) - 1)] [] dX11_tells_14 cm_X11_in ml_X11_120 st_X11_in rfl rfl (sp_X11_in s v1 0 (((1 : Int) * 2 ^ Int.toNat (s 146 5)) - 1) a4 (by decide) a5) ?_
  obtain ⟨vt, vf⟩ := v
  refine k_ifb_eq 36 dX11_tells_17 rfl (fun c6 => ?_) (fun c6 => ?_)
  · have v := vt c6
    refine k_bipush dX11_tells_36 rfl ?_
    exact k_ireturn (st := []) dX11_tells_38 rfl v
  · have v := vf c6
    obtain ⟨a7, a8, a9, a10, v⟩ := v
    refine k_aload_n dX11_tells_20 rfl ?_
    refine k_aload_n dX11_tells_21 rfl ?_
    refine k_iload_n dX11_tells_22 rfl ?_
    refine k_invV [jI v1] [jR 143] dX11_tells_23 cm_X11_tellsOf ml_X11_241 im_X11_tellsOf se_X11_tellsOf rfl sh_143 (by decide) rfl rfl (sp_X11_tellsOf s v1 a7 a8) ?_
    refine k_aload_n dX11_tells_26 rfl ?_
    refine k_invV [] [jL (fTO s v1), jR 143] dX11_tells_27 cm_X11_wholeOf ml_X11_245 im_X11_wholeOf se_X11_wholeOf rfl sh_143 (by decide) rfl rfl (sp_X11_wholeOf s a7) ?_
    refine k_invVR [jL (fTO s v1), jL (fW s * 100 ^ Int.toNat (s 146 5))] [] dX11_tells_30 cm_X11_told ml_X11_163 im_X11_told se_X11_told rfl sh_143 (by decide) rfl rfl (sp_X11_told s (fTO s v1) (fW s * 100 ^ Int.toNat (s 146 5)) a9 a10) (fun _ s12 q13 => ?_)
    obtain ⟨y11, rfl, q13⟩ := q13
    have v := v y11 s12 q13
    refine k_goto 38 dX11_tells_33 rfl ?_
    exact k_ireturn (st := []) dX11_tells_38 rfl v
theorem g_X11_form {s : Int → Int → Int} {Q : Option jV → (Int → Int → Int) → Prop} {v1 : Int} (v : (jr32 v1 ∧ jr64 v1 ∧ ((0 ≤ v1 ∧ v1 ≤ 200 → ((fQ s) ∧ kK mX11_form 26 [jR 143, jI v1, jI 0, jL (fTO s 0), jU, jI 1, jU, jU] [] s Q)) ∧ (¬ (0 ≤ v1 ∧ v1 ≤ 200) → Q (some (jI (-2))) s)))) : kR mX11_form [jR 143, jI v1] s Q := by
  show kK mX11_form 0 [jR 143, jI v1, jU, jU, jU, jU, jU, jU] [] s Q
  obtain ⟨a1, a2, v⟩ := v
  refine k_iload_n dX11_form_0 rfl ?_
  refine k_i2l dX11_form_1 a1 ?_
  refine k_lconst 0 dX11_form_2 rfl ?_
  refine k_ldc2 (200) (200) dX11_form_3 kl_X11_249 rfl ?_
  refine k_invS [jL v1, jL 0, jL 200] [] dX11_form_6 cm_X11_in ml_X11_120 st_X11_in rfl rfl (sp_X11_in s v1 0 200 a2 (by decide) (by decide)) ?_
  obtain ⟨vt, vf⟩ := v
  refine k_ifb_ne 15 dX11_form_9 rfl (fun c3 => ?_) (fun c3 => ?_)
  · have v := vt c3
    obtain ⟨a4, v⟩ := v
    refine k_iconst dX11_form_15 ?_
    refine k_istore_n [jR 143, jI v1, jI 0, jU, jU, jU, jU, jU] dX11_form_16 rfl rfl ?_
    refine k_aload_n dX11_form_17 rfl ?_
    refine k_iconst dX11_form_18 ?_
    refine k_invV [jI 0] [] dX11_form_19 cm_X11_tellsOf ml_X11_241 im_X11_tellsOf se_X11_tellsOf rfl sh_143 (by decide) rfl rfl (sp_X11_tellsOf s 0 a4 (by decide)) ?_
    refine k_lstore_n [jR 143, jI v1, jI 0, jL (fTO s 0), jU, jU, jU, jU] dX11_form_22 rfl rfl ?_
    refine k_iconst dX11_form_23 ?_
    refine k_istore [jR 143, jI v1, jI 0, jL (fTO s 0), jU, jI 1, jU, jU] dX11_form_24 rfl rfl ?_
    exact v
  · have v := vf c3
    refine k_bipush dX11_form_12 rfl ?_
    exact k_ireturn (st := []) dX11_form_14 rfl v
theorem g_X11_form_26 {s : Int → Int → Int} {Q : Option jV → (Int → Int → Int) → Prop} {v1 v2 v3 v5 : Int} (v : ((0 ≤ (s 146 5) ∧ (s 146 5) ≤ 31) ∧ jr32 v5 ∧ jr32 ((1 : Int) * 2 ^ Int.toNat (s 146 5)) ∧ ((((1 : Int) * 2 ^ Int.toNat (s 146 5)) ≤ v5 → Q (some (jI v2)) s) ∧ (¬ (((1 : Int) * 2 ^ Int.toNat (s 146 5)) ≤ v5) → ((fQ s) ∧ (0 ≤ v5 ∧ v5 < 64) ∧ jr32 (fMi s v5) ∧ jr32 v1 ∧ ((v1 < (fMi s v5) → kK mX11_form 26 [jR 143, jI v1, jI v2, jL v3, jU, jI (v5 + 1), jU, jU] [] s Q) ∧ (¬ (v1 < (fMi s v5)) → (jr64 (fTO s v5) ∧ jr64 v3 ∧ ((v3 < (fTO s v5) → kK mX11_form 26 [jR 143, jI v1, jI v5, jL (fTO s v5), jU, jI (v5 + 1), jU, jU] [] s Q) ∧ (¬ (v3 < (fTO s v5)) → (((fTO s v5) ≠ v3 → kK mX11_form 26 [jR 143, jI v1, jI v2, jL v3, jU, jI (v5 + 1), jU, jU] [] s Q) ∧ ((fTO s v5) = v3 → ((0 ≤ v2 ∧ v2 < 64) ∧ jr32 (fMi s v2) ∧ (((fMi s v2) ≤ (fMi s v5) → kK mX11_form 26 [jR 143, jI v1, jI v2, jL v3, jU, jI (v5 + 1), jU, jU] [] s Q) ∧ (¬ ((fMi s v2) ≤ (fMi s v5)) → kK mX11_form 26 [jR 143, jI v1, jI v5, jL (fTO s v5), jU, jI (v5 + 1), jU, jU] [] s Q))))))))))))))) : kK mX11_form 26 [jR 143, jI v1, jI v2, jL v3, jU, jI v5, jU, jU] [] s Q := by
  obtain ⟨a1, a2, a3, v⟩ := v
  refine k_iload dX11_form_26 rfl ?_
  refine k_iconst dX11_form_28 ?_
  refine k_aload_n dX11_form_29 rfl ?_
  refine k_getr dX11_form_30 fl_X11_16 sh_143 (by decide) rfl ?_
  refine k_iconst dX11_form_33 ?_
  refine k_iald 6 dX11_form_34 sh_146 (by decide) rfl (by decide) (by decide) ?_
  refine k_shl dX11_form_35 a1 ?_
  obtain ⟨vt, vf⟩ := v
  refine k_icmp_ge 97 dX11_form_36 rfl a2 a3 (fun c4 => ?_) (fun c4 => ?_)
  · have v := vt c4
    refine k_iload_n dX11_form_97 rfl ?_
    exact k_ireturn (st := []) dX11_form_98 rfl v
  · have v := vf c4
    obtain ⟨a5, a6, a7, a8, v⟩ := v
    refine k_aload_n dX11_form_39 rfl ?_
    refine k_iload dX11_form_40 rfl ?_
    refine k_invV [jI v5] [] dX11_form_42 cm_X11_minutesOf ml_X11_251 im_X11_minutesOf se_X11_minutesOf rfl sh_143 (by decide) rfl rfl (sp_X11_minutesOf s v5 a5 a6) ?_
    refine k_iload_n dX11_form_45 rfl ?_
    obtain ⟨vt, vf⟩ := v
    refine k_icmp_gt 91 dX11_form_46 rfl a7 a8 (fun c9 => ?_) (fun c9 => ?_)
    · have v := vt c9
      refine k_iinc [jR 143, jI v1, jI v2, jL v3, jU, jI (v5 + 1), jU, jU] dX11_form_91 rfl rfl rfl ?_
      refine k_goto 26 dX11_form_94 rfl ?_
      exact v
    · have v := vf c9
      obtain ⟨a10, a11, v⟩ := v
      refine k_aload_n dX11_form_49 rfl ?_
      refine k_iload dX11_form_50 rfl ?_
      refine k_invV [jI v5] [] dX11_form_52 cm_X11_tellsOf ml_X11_241 im_X11_tellsOf se_X11_tellsOf rfl sh_143 (by decide) rfl rfl (sp_X11_tellsOf s v5 a5 a6) ?_
      refine k_lstore [jR 143, jI v1, jI v2, jL v3, jU, jI v5, jL (fTO s v5), jU] dX11_form_55 rfl rfl ?_
      refine k_lload dX11_form_57 rfl ?_
      refine k_lload_n dX11_form_59 rfl ?_
      obtain ⟨vt, vf⟩ := v
      refine k_lcmp_if_gt 85 dX11_form_60 dX11_form_61 rfl a10 a11 (fun c12 => ?_) (fun c12 => ?_)
      · have v := vt c12
        refine k_iload dX11_form_85 rfl ?_
        refine k_istore_n [jR 143, jI v1, jI v5, jL v3, jU, jI v5, jL (fTO s v5), jU] dX11_form_87 rfl rfl ?_
        refine k_lload dX11_form_88 rfl ?_
        refine k_lstore_n [jR 143, jI v1, jI v5, jL (fTO s v5), jU, jI v5, jL (fTO s v5), jU] dX11_form_90 rfl rfl ?_
        refine k_iinc [jR 143, jI v1, jI v5, jL (fTO s v5), jU, jI (v5 + 1), jL (fTO s v5), jU] dX11_form_91 rfl rfl rfl ?_
        refine k_goto 26 dX11_form_94 rfl ?_
        refine k_drop [jR 143, jI v1, jI v5, jL (fTO s v5), jU, jI (v5 + 1), jU, jU] ⟨Or.inr rfl, Or.inr rfl, Or.inr rfl, Or.inr rfl, Or.inr rfl, Or.inr rfl, Or.inl rfl, Or.inr rfl, trivial⟩ ?_
        exact v
      · have v := vf c12
        refine k_lload dX11_form_64 rfl ?_
        refine k_lload_n dX11_form_66 rfl ?_
        obtain ⟨vt, vf⟩ := v
        refine k_lcmp_if_ne 91 dX11_form_67 dX11_form_68 rfl a10 a11 (fun c13 => ?_) (fun c13 => ?_)
        · have v := vt c13
          refine k_iinc [jR 143, jI v1, jI v2, jL v3, jU, jI (v5 + 1), jL (fTO s v5), jU] dX11_form_91 rfl rfl rfl ?_
          refine k_goto 26 dX11_form_94 rfl ?_
          refine k_drop [jR 143, jI v1, jI v2, jL v3, jU, jI (v5 + 1), jU, jU] ⟨Or.inr rfl, Or.inr rfl, Or.inr rfl, Or.inr rfl, Or.inr rfl, Or.inr rfl, Or.inl rfl, Or.inr rfl, trivial⟩ ?_
          exact v
        · have v := vf c13
          obtain ⟨a14, a15, v⟩ := v
          refine k_aload_n dX11_form_71 rfl ?_
          refine k_iload dX11_form_72 rfl ?_
          refine k_invV [jI v5] [] dX11_form_74 cm_X11_minutesOf ml_X11_251 im_X11_minutesOf se_X11_minutesOf rfl sh_143 (by decide) rfl rfl (sp_X11_minutesOf s v5 a5 a6) ?_
          refine k_aload_n dX11_form_77 rfl ?_
          refine k_iload_n dX11_form_78 rfl ?_
          refine k_invV [jI v2] [jI (fMi s v5)] dX11_form_79 cm_X11_minutesOf ml_X11_251 im_X11_minutesOf se_X11_minutesOf rfl sh_143 (by decide) rfl rfl (sp_X11_minutesOf s v2 a5 a14) ?_
          obtain ⟨vt, vf⟩ := v
          refine k_icmp_ge 91 dX11_form_82 rfl a7 a15 (fun c16 => ?_) (fun c16 => ?_)
          · have v := vt c16
            refine k_iinc [jR 143, jI v1, jI v2, jL v3, jU, jI (v5 + 1), jL (fTO s v5), jU] dX11_form_91 rfl rfl rfl ?_
            refine k_goto 26 dX11_form_94 rfl ?_
            refine k_drop [jR 143, jI v1, jI v2, jL v3, jU, jI (v5 + 1), jU, jU] ⟨Or.inr rfl, Or.inr rfl, Or.inr rfl, Or.inr rfl, Or.inr rfl, Or.inr rfl, Or.inl rfl, Or.inr rfl, trivial⟩ ?_
            exact v
          · have v := vf c16
            refine k_iload dX11_form_85 rfl ?_
            refine k_istore_n [jR 143, jI v1, jI v5, jL v3, jU, jI v5, jL (fTO s v5), jU] dX11_form_87 rfl rfl ?_
            refine k_lload dX11_form_88 rfl ?_
            refine k_lstore_n [jR 143, jI v1, jI v5, jL (fTO s v5), jU, jI v5, jL (fTO s v5), jU] dX11_form_90 rfl rfl ?_
            refine k_iinc [jR 143, jI v1, jI v5, jL (fTO s v5), jU, jI (v5 + 1), jL (fTO s v5), jU] dX11_form_91 rfl rfl rfl ?_
            refine k_goto 26 dX11_form_94 rfl ?_
            refine k_drop [jR 143, jI v1, jI v5, jL (fTO s v5), jU, jI (v5 + 1), jU, jU] ⟨Or.inr rfl, Or.inr rfl, Or.inr rfl, Or.inr rfl, Or.inr rfl, Or.inr rfl, Or.inl rfl, Or.inr rfl, trivial⟩ ?_
            exact v
theorem gc_sc {a b k : Int} (ha : 0 ≤ a) (hb : 0 < b) (hk : 0 < k) : a * k / gc (a * k) (b * k) = a / gc a b ∧ b * k / gc (a * k) (b * k) = b / gc a b := by
  obtain ⟨m, rfl⟩ := nat_of ha
  obtain ⟨n, rfl⟩ := nat_of (show 0 ≤ b by omega)
  obtain ⟨j, rfl⟩ := nat_of (show 0 ≤ k by omega)
  have j0 : 0 < j := by omega
  rw [← Int.natCast_mul, ← Int.natCast_mul, gc_n, gc_n, Nat.gcd_mul_right]
  refine ⟨?_, ?_⟩
  · show ((m * j / (Nat.gcd m n * j) : Nat) : Int) = ((m / Nat.gcd m n : Nat) : Int)
    rw [Nat.mul_div_mul_right _ _ j0]
  · show ((n * j / (Nat.gcd m n * j) : Nat) : Int) = ((n / Nat.gcd m n : Nat) : Int)
    rw [Nat.mul_div_mul_right _ _ j0]
theorem op_tells {S0 : Int → Int} {s : Int → Int → Int} (hI : Inv S0 s) (a1 : Int) (h1 : jr32 a1) : jop mX10_tells mX11_tells [jI a1] S0 s := by
  have h := FQc.of hI
  obtain ⟨hq, he, hb⟩ := id h
  have hn := hq.1
  have pn := p2_pos (s 146 5)
  have p64 : (2 : Int) ^ (s 146 5).toNat ≤ 64 := by
    have : (2 : Int) ^ (s 146 5).toNat ≤ 2 ^ 6 := ipow_le (by decide) (by omega)
    have e : (2 : Int) ^ 6 = 64 := rfl
    omega
  by_cases c : 0 ≤ a1 ∧ a1 ≤ 2 ^ (s 146 5).toNat - 1
  · have wb := fW_b hq
    have gb := fGR_b hq a1
    have cl := sgb_le2 a1 (s 146 5) hn.1
    have eb := bc_n hn (S := a1) (by omega)
    have p3 := c100 (k := sg (s 146 5) (bt a1)) (by omega) (by omega)
    have p1 := c100 (k := s 146 5 - sg (s 146 5) (bt a1)) (by omega) (by omega)
    have pn5 := c100 (k := s 146 5) (by omega) (by omega)
    have wc : fW s * 100 ^ (sg (s 146 5) (bt a1)).toNat ≤ 36 * 1000000000000 := Int.mul_le_mul (by omega) p3.2 (by omega) (by omega)
    have wc0 : 4 * 1 ≤ fW s * 100 ^ (sg (s 146 5) (bt a1)).toNat := Int.mul_le_mul (by omega) p3.1 (by omega) (by omega)
    have wn : fW s * 100 ^ (s 146 5).toNat ≤ 36 * 1000000000000 := Int.mul_le_mul (by omega) pn5.2 (by omega) (by omega)
    have wn0 : 4 * 1 ≤ fW s * 100 ^ (s 146 5).toNat := Int.mul_le_mul (by omega) pn5.1 (by omega) (by omega)
    have m3 := c100_m (a := sg (s 146 5) (bt a1)) (b := s 146 5 - sg (s 146 5) (bt a1)) (by omega) (by omega)
    rw [show sg (s 146 5) (bt a1) + (s 146 5 - sg (s 146 5) (bt a1)) = s 146 5 by omega] at m3
    obtain ⟨g1, g2⟩ := gc_sc (a := fGR s a1) (b := fW s * 100 ^ (sg (s 146 5) (bt a1)).toNat) (k := 100 ^ (s 146 5 - sg (s 146 5) (bt a1)).toNat) gb.1 (by omega) (by omega)
    rw [← fTO_GR s a1 hn.1, Int.mul_assoc, m3] at g1 g2
    obtain ⟨t1, -, -⟩ := fTO_b hq (S := a1) (by omega)
    refine jop.f (fGR s a1 / gc (fGR s a1) (fW s * 100 ^ (sg (s 146 5) (bt a1)).toNat)) (fW s * 100 ^ (sg (s 146 5) (bt a1)).toNat / gc (fGR s a1) (fW s * 100 ^ (sg (s 146 5) (bt a1)).toNat)) hI ?_ (fun s1 f => ?_) trivial
    · refine g_X10_tells ?_
      rw [he.1, Int.one_mul]
      refine ⟨by omega, h1, by unfold jr32; omega, fun _ => ⟨h, by omega, fun y s6 q6 => ?_⟩, fun q => absurd c q⟩
      have h6 : FQc s6 := h.fr (fun k hk => q6.2 k (by unfold anP; omega))
      have ew : fW s6 = fW s := by unfold fW; rw [q6.2 157 (by unfold anP; omega)]
      rw [ew, eb, q6.1]
      exact ⟨h6, by omega, by omega, fun s11 q11 => ⟨rfl, fc_of q6.2 q11.1 (fun k hk => Or.inl (by unfold anP at hk; unfold jtmp jpers; omega)), q11.2⟩⟩
    · have fk : ∀ k, k = 146 ∨ k = 157 ∨ k = 167 ∨ k = 168 → s1 k = s k := fun k hk => f k (fun c => by unfold ofP jtmp jpers at c; omega)
      have k146 := fk 146 (by omega)
      have hq1 : fQ s1 := by
        unfold fQ fy at hq ⊢
        rw [k146, fk 157 (by omega), fk 168 (by omega)]
        exact hq
      have ew : fW s1 = fW s := by unfold fW; rw [fk 157 (by omega)]
      have et : fTO s1 a1 = fTO s a1 := by
        rw [fTO_GR s1 a1 (by rw [k146]; exact hn.1), fTO_GR s a1 hn.1, k146, fGR_fr (fun k hk => fk k (by omega))]
      refine g_X11_tells ?_
      rw [k146, Int.one_mul, et, ew]
      refine ⟨h1, by omega, by unfold jr32; omega, by unfold jr64; unfold jr32 at h1; omega, by unfold jr64; omega, fun q => absurd c q, fun _ => ⟨hq1, by omega, by omega, by omega, fun y s10 q10 => ?_⟩⟩
      rw [g1, g2] at q10
      exact ⟨by rw [q10.1], rf_mf q10.2.1, q10.2.2⟩
  · refine jop.q (y := -2) hI (by decide) ?_ ?_
    · refine g_X10_tells ?_
      rw [he.1, Int.one_mul]
      exact ⟨by omega, h1, by unfold jr32; omega, fun q => absurd q c, fun _ => ⟨rfl, rfl⟩⟩
    · refine g_X11_tells ?_
      rw [Int.one_mul]
      exact ⟨h1, by omega, by unfold jr32; omega, by unfold jr64; unfold jr32 at h1; omega, by unfold jr64; omega, fun _ => ⟨rfl, rfl⟩, fun q => absurd q c⟩
theorem op_form {S0 : Int → Int} {s : Int → Int → Int} (hI : Inv S0 s) (a1 : Int) (h1 : jr32 a1) : jop mX10_form mX11_form [jI a1] S0 s := by
  have h := FQc.of hI
  obtain ⟨hq, he, hb⟩ := id h
  have hn := hq.1
  have pn := p2_pos (s 146 5)
  have p64 : (2 : Int) ^ (s 146 5).toNat ≤ 64 := by
    have : (2 : Int) ^ (s 146 5).toNat ≤ 2 ^ 6 := ipow_le (by decide) (by omega)
    have e : (2 : Int) ^ 6 = 64 := rfl
    omega
  by_cases c : 0 ≤ a1 ∧ a1 ≤ 200
  · have yr := (fbp_ok hq a1 (i := 2 ^ (s 146 5).toNat - 1) (by omega) (by omega)).1
    refine jop.rr (fun y => y = (fbp s a1 (2 ^ (s 146 5).toNat - 1)).1) (frm anP s) (fun a b p q => p.trans q.symm) (fun a p => by rw [p]; unfold jr32; omega) (fun s1 f => (f 0 (by unfold anP; omega)).trans hI.1) (g_X10_form ⟨h1, fun _ => ⟨h, c, fun y s4 q4 => ⟨y, rfl, q4⟩⟩, fun q => absurd c q⟩) (fun s1 f => ?_)
    have i1 : Inv S0 s1 := hI.fr (fun k hk => f k (fun e => hk (by unfold anP at e; unfold jtmp jpers; omega)))
    have k146 : s1 146 = s 146 := f 146 (by unfold anP; omega)
    have hq1 : fQ s1 := (FQc.of i1).1
    have fc1 := FQc.of i1
    have et : ∀ S, fTO s1 S = fTO s S := fun S => by rw [fTO_GR s1 S (by rw [k146]; exact hn.1), fTO_GR s S hn.1, k146, fGR_fr (fun k hk => f k (by unfold anP; omega))]
    have em : ∀ S, fMi s1 S = fMi s S := fMi_fr (fun k hk => f k (by unfold anP; omega))
    have key : ∀ b, b ≤ 2 ^ (s 146 5).toNat → 1 ≤ b → kK mX11_form 26 [jR 143, jI a1, jI (fbp s a1 (b - 1)).1, jL (fbp s a1 (b - 1)).2, jU, jI b, jU, jU] [] s1 (fun r s' => ∃ y, r = some (jI y) ∧ y = (fbp s a1 (2 ^ (s 146 5).toNat - 1)).1 ∧ Inv S0 s') := by
      refine lp_up _ _ (fun b hb2 ih b1 => ?_)
      obtain ⟨ok1, ok2⟩ := fbp_ok hq a1 (i := b - 1) (by omega) (by omega)
      have mb := fMi_b h b
      have mp := fMi_b h (fbp s a1 (b - 1)).1
      refine g_X11_form_26 ?_
      rw [k146, Int.one_mul, et, em, em]
      refine ⟨by omega, by unfold jr32; omega, by unfold jr32; omega, fun q => ?_, fun q => ⟨hq1, by omega, by unfold jr32; omega, h1, ?_⟩⟩
      · exact ⟨_, rfl, by rw [show b - 1 = 2 ^ (s 146 5).toNat - 1 by omega], i1⟩
      · have nx := ih (by omega) (by omega)
        have sb : fbp s a1 (b + 1 - 1) = fbs s a1 b (fbp s a1 (b - 1)) := by
          have := fp_s (n := b - 1) (by omega) (fun j => fbs s a1 (1 + j)) (0, fTO s 0)
          unfold fbp
          rw [show b + 1 - 1 = b - 1 + 1 by omega, this, show 1 + (b - 1) = b by omega]
        rw [sb] at nx
        obtain ⟨t1, -, -⟩ := fTO_b hq (S := b) (by omega)
        obtain ⟨u1, -, -⟩ := fTO_b hq (S := (fbp s a1 (b - 1)).1) ok1
        rw [← ok2] at u1
        unfold fbs at nx
        have no : ¬ (fMi s b ≤ a1 ∧ ((fbp s a1 (b - 1)).2 < fTO s b ∨ (fTO s b = (fbp s a1 (b - 1)).2 ∧ fMi s b < fMi s (fbp s a1 (b - 1)).1))) → kK mX11_form 26 [jR 143, jI a1, jI (fbp s a1 (b - 1)).1, jL (fbp s a1 (b - 1)).2, jU, jI (b + 1), jU, jU] [] s1 (fun r s' => ∃ y, r = some (jI y) ∧ y = (fbp s a1 (2 ^ (s 146 5).toNat - 1)).1 ∧ Inv S0 s') := fun c => by
          rw [if_neg c] at nx; exact nx
        have yes : (fMi s b ≤ a1 ∧ ((fbp s a1 (b - 1)).2 < fTO s b ∨ (fTO s b = (fbp s a1 (b - 1)).2 ∧ fMi s b < fMi s (fbp s a1 (b - 1)).1))) → kK mX11_form 26 [jR 143, jI a1, jI b, jL (fTO s b), jU, jI (b + 1), jU, jU] [] s1 (fun r s' => ∃ y, r = some (jI y) ∧ y = (fbp s a1 (2 ^ (s 146 5).toNat - 1)).1 ∧ Inv S0 s') := fun c => by
          rw [if_pos c] at nx; exact nx
        exact ⟨fun q2 => no (fun c => by have := c.1; omega), fun q2 => ⟨by unfold jr64; omega, by unfold jr64; omega, fun q3 => yes ⟨by omega, Or.inl q3⟩, fun q3 => ⟨fun q4 => no (fun c => c.2.elim q3 (fun c => q4 c.1)), fun q4 => ⟨by omega, by unfold jr32; omega, fun q5 => no (fun c => c.2.elim q3 (fun c => by have := c.2; omega)), fun q5 => yes ⟨by omega, Or.inr ⟨q4, by omega⟩⟩⟩⟩⟩⟩
    have k1 := key 1 (by omega) (by omega)
    rw [show (1 : Int) - 1 = 0 from rfl, show fbp s a1 0 = (0, fTO s 0) from rfl, ← et 0] at k1
    exact g_X11_form ⟨h1, j3264 h1, fun _ => ⟨hq1, k1⟩, fun q => absurd c q⟩
  · exact jop.q (y := -2) hI (by decide) (g_X10_form ⟨h1, fun q => absurd q c, fun _ => ⟨rfl, rfl⟩⟩) (g_X11_form ⟨h1, j3264 h1, fun q => absurd q c, fun _ => ⟨rfl, rfl⟩⟩)
