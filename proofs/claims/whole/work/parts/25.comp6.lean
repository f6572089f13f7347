theorem g_J7_fill_53178 {s : Int → Int → Int} {Q : Option jV → (Int → Int → Int) → Prop} {x v1 : Int} {li : Int} {len : Nat} (hs : jsh x = hI len) (hx : 0 < x ∧ x ≤ 168) (hl : (len : Int) = li) (hlen : len < 2147483648) (v : kK mJ7_fill_53178 5 [jR x, jI v1, jI 0, jI li] [] s Q) : kR mJ7_fill_53178 [jR x, jI v1] s Q := by
  show kK mJ7_fill_53178 0 [jR x, jI v1, jU, jU] [] s Q
  refine k_iconst dJ7_fill_53178_0 ?_
  refine k_istore_n [jR x, jI v1, jI 0, jU] dJ7_fill_53178_1 rfl rfl ?_
  refine k_aload_n dJ7_fill_53178_2 rfl ?_
  refine k_alenI li dJ7_fill_53178_3 hs hx hl ?_
  refine k_istore_n [jR x, jI v1, jI 0, jI li] dJ7_fill_53178_4 rfl rfl ?_
  exact v
theorem g_J7_fill_53178_5 {s : Int → Int → Int} {Q : Option jV → (Int → Int → Int) → Prop} {v1 v2 v3 x : Int} {li : Int} {len : Nat} (hs : jsh x = hI len) (hx : 0 < x ∧ x ≤ 168) (hl : (len : Int) = li) (hlen : len < 2147483648) (v : (jr32 v2 ∧ jr32 v3 ∧ ((v3 ≤ v2 → Q none s) ∧ (¬ (v3 ≤ v2) → ((0 ≤ v2 ∧ v2 < li) ∧ kK mJ7_fill_53178 5 [jR x, jI v1, jI (v2 + 1), jI v3] [] (w2 s x v2 v1) Q))))) : kK mJ7_fill_53178 5 [jR x, jI v1, jI v2, jI v3] [] s Q := by
  obtain ⟨a1, a2, v⟩ := v
  refine k_iload_n dJ7_fill_53178_5 rfl ?_
  refine k_iload_n dJ7_fill_53178_6 rfl ?_
  obtain ⟨vt, vf⟩ := v
  refine k_icmp_ge 20 dJ7_fill_53178_7 rfl a1 a2 (fun c3 => ?_) (fun c3 => ?_)
  · have v := vt c3
    exact k_return (st := []) dJ7_fill_53178_20 rfl v
  · have v := vf c3
    obtain ⟨a4, v⟩ := v
    refine k_aload_n dJ7_fill_53178_10 rfl ?_
    refine k_iload_n dJ7_fill_53178_11 rfl ?_
    refine k_iload_n dJ7_fill_53178_12 rfl ?_
    refine k_iast li dJ7_fill_53178_13 hs hx hl hlen a4 ?_
    refine k_iinc [jR x, jI v1, jI (v2 + 1), jI v3] dJ7_fill_53178_14 rfl rfl rfl ?_
    refine k_goto 5 dJ7_fill_53178_17 rfl ?_
    exact v
theorem sp_J7_fill (li : Int) (s : Int → Int → Int) (x v : Int) {len : Nat} (hs : jsh x = hI len) (hx : 0 < x ∧ x ≤ 168) (hl : (len : Int) = li) (hlen : len < 2147483648) : kM mJ7_fill_53178 [jR x, jI v] s none (fl s x li v) := by
  refine g_J7_fill_53178 hs hx hl hlen ?_
  have key : ∀ j, j ≤ li → 0 ≤ j → kK mJ7_fill_53178 5 [jR x, jI v, jI j, jI li] [] (fl s x j v) (fun r s' => r = none ∧ s' = fl s x li v) := by
    refine lp_up _ _ (fun j hj ih j0 => ?_)
    refine g_J7_fill_53178_5 hs hx hl hlen ⟨by unfold jr32; omega, by unfold jr32; omega, fun q => ⟨rfl, by rw [show j = li by omega]⟩, fun q => ⟨by omega, ?_⟩⟩
    rw [fl_st j0]
    exact ih (by omega) (by omega)
  have := key 0 (by omega) (by omega)
  rw [fl_0] at this
  exact this
theorem g_X8_rowOf {s : Int → Int → Int} {Q : Option jV → (Int → Int → Int) → Prop} {v0 v1 : Int} (v : Q (some (jI ((v0 * 4) + v1))) s) : kR mX8_rowOf [jI v0, jI v1] s Q := by
  show kK mX8_rowOf 0 [jI v0, jI v1] [] s Q
  refine k_iload_n dX8_rowOf_0 rfl ?_
  refine k_iconst dX8_rowOf_1 ?_
  refine k_imul dX8_rowOf_2 ?_
  refine k_iload_n dX8_rowOf_3 rfl ?_
  refine k_iadd dX8_rowOf_4 ?_
  exact k_ireturn (st := []) dX8_rowOf_5 rfl v
theorem g_X8_takeLetter {s : Int → Int → Int} {Q : Option jV → (Int → Int → Int) → Prop} {v1 v2 : Int} (v : kK mX8_takeLetter 2 [jR 43, jI v1, jI v2, jI 0] [] s Q) : kR mX8_takeLetter [jR 43, jI v1, jI v2] s Q := by
  show kK mX8_takeLetter 0 [jR 43, jI v1, jI v2, jU] [] s Q
  refine k_iconst dX8_takeLetter_0 ?_
  refine k_istore_n [jR 43, jI v1, jI v2, jI 0] dX8_takeLetter_1 rfl rfl ?_
  exact v
theorem g_X8_takeLetter_2 {s : Int → Int → Int} {Q : Option jV → (Int → Int → Int) → Prop} {v1 v2 v3 : Int} (v : ((0 ≤ v1 ∧ v1 < 30) ∧ jr32 v3 ∧ jr32 (s 11 v1) ∧ (((s 11 v1) ≤ v3 → Q none s) ∧ (¬ ((s 11 v1) ≤ v3) → ((0 ≤ v2 ∧ v2 < 24) ∧ (0 ≤ v3 ∧ v3 < 8) ∧ (0 ≤ (s (13 + v1) v3) ∧ (s (13 + v1) v3) < 8) ∧ kK mX8_takeLetter 2 [jR 43, jI v1, jI v2, jI (v3 + 1)] [] (w2 (w2 s (45 + v2) (s (13 + v1) v3) ((s (45 + v2) (s (13 + v1) v3)) + 1)) 69 v2 ((s 69 v2) + 1)) Q))))) : kK mX8_takeLetter 2 [jR 43, jI v1, jI v2, jI v3] [] s Q := by
  obtain ⟨a1, a2, a3, v⟩ := v
  refine k_iload_n dX8_takeLetter_2 rfl ?_
  refine k_aload_n dX8_takeLetter_3 rfl ?_
  refine k_getr dX8_takeLetter_4 fl_X8_20 sh_43 (by decide) rfl ?_
  refine k_getr dX8_takeLetter_7 fl_X8_53 sh_2 (by decide) rfl ?_
  refine k_iload_n dX8_takeLetter_10 rfl ?_
  refine k_iald 30 dX8_takeLetter_11 sh_11 (by decide) rfl (by decide) a1 ?_
  obtain ⟨vt, vf⟩ := v
  refine k_icmp_ge 53 dX8_takeLetter_12 rfl a2 a3 (fun c4 => ?_) (fun c4 => ?_)
  · have v := vt c4
    exact k_return (st := []) dX8_takeLetter_53 rfl v
  · have v := vf c4
    obtain ⟨a5, a6, a7, v⟩ := v
    refine k_aload_n dX8_takeLetter_15 rfl ?_
    refine k_getr dX8_takeLetter_16 fl_X8_11 sh_43 (by decide) rfl ?_
    refine k_iload_n dX8_takeLetter_19 rfl ?_
    refine k_aald 24 dX8_takeLetter_20 sh_44 (Or.inl rfl) (by decide) rfl (by decide) rfl a5 ?_
    refine k_aload_n dX8_takeLetter_21 rfl ?_
    refine k_getr dX8_takeLetter_22 fl_X8_20 sh_43 (by decide) rfl ?_
    refine k_getr dX8_takeLetter_25 fl_X8_56 sh_2 (by decide) rfl ?_
    refine k_iload_n dX8_takeLetter_28 rfl ?_
    refine k_aald 30 dX8_takeLetter_29 sh_12 (Or.inl rfl) (by decide) rfl (by decide) rfl a1 ?_
    refine k_iload_n dX8_takeLetter_30 rfl ?_
    refine k_iald 8 dX8_takeLetter_31 (sr_12 v1 a1) ⟨by have := a1; omega, by have := a1; omega⟩ rfl (by decide) a6 ?_
    refine k_dup2 dX8_takeLetter_32 rfl ?_
    refine k_iald 8 dX8_takeLetter_33 (sr_44 v2 a5) ⟨by have := a5; omega, by have := a5; omega⟩ rfl (by decide) a7 ?_
    refine k_iconst dX8_takeLetter_34 ?_
    refine k_iadd dX8_takeLetter_35 ?_
    refine k_iast 8 dX8_takeLetter_36 (sr_44 v2 a5) ⟨by have := a5; omega, by have := a5; omega⟩ rfl (by decide) a7 ?_
    refine k_aload_n dX8_takeLetter_37 rfl ?_
    refine k_getr dX8_takeLetter_38 fl_X8_16 sh_43 (by decide) rfl ?_
    refine k_iload_n dX8_takeLetter_41 rfl ?_
    refine k_dup2 dX8_takeLetter_42 rfl ?_
    refine k_iald 24 dX8_takeLetter_43 sh_69 (by decide) rfl (by decide) a5 ?_
    rw [show ((w2 s (45 + v2) (s (13 + v1) v3) ((s (45 + v2) (s (13 + v1) v3)) + 1)) 69 v2) = (s 69 v2) from by rw [w2_k (by omega)]]
    refine k_iconst dX8_takeLetter_44 ?_
    refine k_iadd dX8_takeLetter_45 ?_
    refine k_iast 24 dX8_takeLetter_46 sh_69 (by decide) rfl (by decide) a5 ?_
    refine k_iinc [jR 43, jI v1, jI v2, jI (v3 + 1)] dX8_takeLetter_47 rfl rfl rfl ?_
    refine k_goto 2 dX8_takeLetter_50 rfl ?_
    exact v
theorem sp_X8_rowOf (s : Int → Int → Int) (a b : Int) : kM mX8_rowOf [jI a, jI b] s (some (jI (a * 4 + b))) s := g_X8_rowOf ⟨rfl, rfl⟩
theorem sp_X8_takeLetter (s : Int → Int → Int) (l r : Int) (h : DD s) (hl : 0 ≤ l ∧ l < s 146 3) (hr : 0 ≤ r ∧ r < 24) : kM mX8_takeLetter [jR 43, jI l, jI r] s none (tkn s l r (s 155 l)) := by
  obtain ⟨e0, e1, e2, e3⟩ := h.cnt
  obtain ⟨-, -, -, f4⟩ := h.let hl.1 hl.2
  refine g_X8_takeLetter ?_
  have key : ∀ j, j ≤ s 155 l → 0 ≤ j → kK mX8_takeLetter 2 [jR 43, jI l, jI r, jI j] [] (tkn s l r j) (fun x s' => x = none ∧ s' = tkn s l r (s 155 l)) := by
    refine lp_up _ _ (fun j hj ih j0 => ?_)
    have k : ∀ k, k < 45 ∨ 69 < k → tkn s l r j k = s k := fun k hk => by
      funext i
      unfold tkn
      rw [if_neg (by omega), if_neg (by omega)]
    refine g_X8_takeLetter_2 ?_
    rw [k 11 (by omega), k (13 + l) (by omega)]
    refine ⟨by omega, by unfold jr32; omega, by unfold jr32; omega, fun q => ⟨rfl, by rw [show j = s 155 l by omega]⟩, fun q => ?_⟩
    obtain ⟨t1, t2, t3⟩ := h.txt hl.1 hl.2 j0 (by omega)
    rw [t1]
    refine ⟨hr, by omega, by omega, ?_⟩
    have e : w2 (w2 (tkn s l r j) (45 + r) (s 156 (8 * l + j)) (tkn s l r j (45 + r) (s 156 (8 * l + j)) + 1)) 69 r (tkn s l r j 69 r + 1) = tkn s l r (j + 1) := by
      funext k i
      by_cases c : k = 45 + r
      · subst c
        rw [w2_k (by omega), w2_e]
        show (if i = s 156 (8 * l + j) then tkn s l r j (45 + r) (s 156 (8 * l + j)) + 1 else tkn s l r j (45 + r) i) = tkn s l r (j + 1) (45 + r) i
        have u : ∀ n i, tkn s l r n (45 + r) i = s (45 + r) i + sg n (fun j => jbo (s 156 (8 * l + j) = i)) := fun n i => by
          unfold tkn
          rw [if_pos rfl]
        rw [u, u, u, sg_s j0]
        by_cases d : i = s 156 (8 * l + j)
        · rw [if_pos d, jbo_t d.symm, d]; omega
        · rw [if_neg d, jbo_f (fun q => d q.symm)]; omega
      · by_cases c2 : k = 69
        · subst c2
          rw [w2_e, w2_k (by omega)]
          have u : ∀ n i, tkn s l r n 69 i = if i = r then s 69 i + n else s 69 i := fun n i => by
            unfold tkn
            rw [if_neg (by omega)]
            by_cases d : i = r
            · rw [if_pos ⟨rfl, d⟩, if_pos d]
            · rw [if_neg (fun q => d q.2), if_neg d]
          rw [u, u, u]
          by_cases d : i = r
          · rw [if_pos d, if_pos rfl, if_pos d, d]; omega
          · rw [if_neg d, if_neg d, if_neg d]
        · rw [w2_k c2, w2_k c]
          unfold tkn
          rw [if_neg c, if_neg (fun q => c2 q.1), if_neg c, if_neg (fun q => c2 q.1)]
    rw [e]
    exact ih (by omega) (by omega)
  have := key 0 (by omega) (by omega)
  have e : tkn s l r 0 = s := by
    funext k i
    unfold tkn
    rw [sg_0]
    by_cases c : k = 45 + r
    · rw [if_pos c]; omega
    · rw [if_neg c]
      by_cases d : k = 69 ∧ i = r
      · rw [if_pos d]; omega
      · rw [if_neg d]
  rw [e] at this
  exact this
theorem g_X8_takeAllBut {s : Int → Int → Int} {Q : Option jV → (Int → Int → Int) → Prop} {v1 : Int} (v : kK mX8_takeAllBut 10 [jR 43, jI v1, jI 0, jU, jU] [] (fl s 69 24 0) Q) : kR mX8_takeAllBut [jR 43, jI v1] s Q := by
  show kK mX8_takeAllBut 0 [jR 43, jI v1, jU, jU, jU] [] s Q
  refine k_aload_n dX8_takeAllBut_0 rfl ?_
  refine k_getr dX8_takeAllBut_1 fl_X8_16 sh_43 (by decide) rfl ?_
  refine k_iconst dX8_takeAllBut_4 ?_
  refine k_invS [jR 69, jI 0] [] dX8_takeAllBut_5 cm_J7_fill_53178 ml_X8_24 st_J7_fill_53178 rfl rfl (sp_J7_fill 24 s 69 0 sh_69 (by decide) rfl (by decide)) ?_
  refine k_iconst dX8_takeAllBut_8 ?_
  refine k_istore_n [jR 43, jI v1, jI 0, jU, jU] dX8_takeAllBut_9 rfl rfl ?_
  exact v
theorem g_X8_takeAllBut_10 {s : Int → Int → Int} {Q : Option jV → (Int → Int → Int) → Prop} {v1 v2 : Int} (v : (jr32 v2 ∧ ((24 ≤ v2 → kK mX8_takeAllBut 37 [jR 43, jI v1, jI 0, jU, jU] [] s Q) ∧ (¬ (24 ≤ v2) → ((0 ≤ v2 ∧ v2 < 24) ∧ kK mX8_takeAllBut 10 [jR 43, jI v1, jI (v2 + 1), jU, jU] [] (fl s (45 + v2) 8 0) Q))))) : kK mX8_takeAllBut 10 [jR 43, jI v1, jI v2, jU, jU] [] s Q := by
  obtain ⟨a1, v⟩ := v
  refine k_iload_n dX8_takeAllBut_10 rfl ?_
  refine k_aload_n dX8_takeAllBut_11 rfl ?_
  refine k_getr dX8_takeAllBut_12 fl_X8_11 sh_43 (by decide) rfl ?_
  refine k_alenQ 24 dX8_takeAllBut_15 sh_44 (by decide) (by decide) rfl ?_
  obtain ⟨vt, vf⟩ := v
  refine k_icmp_ge 35 dX8_takeAllBut_16 rfl a1 (by decide) (fun c2 => ?_) (fun c2 => ?_)
  · have v := vt c2
    refine k_iconst dX8_takeAllBut_35 ?_
    refine k_istore_n [jR 43, jI v1, jI 0, jU, jU] dX8_takeAllBut_36 rfl rfl ?_
    exact v
  · have v := vf c2
    obtain ⟨a3, v⟩ := v
    refine k_aload_n dX8_takeAllBut_19 rfl ?_
    refine k_getr dX8_takeAllBut_20 fl_X8_11 sh_43 (by decide) rfl ?_
    refine k_iload_n dX8_takeAllBut_23 rfl ?_
    refine k_aald 24 dX8_takeAllBut_24 sh_44 (Or.inl rfl) (by decide) rfl (by decide) rfl a3 ?_
    refine k_iconst dX8_takeAllBut_25 ?_
    refine k_invS [jR (45 + v2), jI 0] [] dX8_takeAllBut_26 cm_J7_fill_53178 ml_X8_24 st_J7_fill_53178 rfl rfl (sp_J7_fill 8 s (45 + v2) 0 (sr_44 v2 a3) ⟨by have := a3; omega, by have := a3; omega⟩ rfl (by decide)) ?_
    refine k_iinc [jR 43, jI v1, jI (v2 + 1), jU, jU] dX8_takeAllBut_29 rfl rfl rfl ?_
    refine k_goto 10 dX8_takeAllBut_32 rfl ?_
    exact v
theorem g_X8_takeAllBut_37 {s : Int → Int → Int} {Q : Option jV → (Int → Int → Int) → Prop} {v1 v2 : Int} (v : (jr32 v2 ∧ jr32 (s 2 13) ∧ (((s 2 13) ≤ v2 → Q none s) ∧ (¬ ((s 2 13) ≤ v2) → ((0 ≤ v2 ∧ v2 < 30) ∧ (0 ≤ (s 9 v2) ∧ (s 9 v2) < 8) ∧ jr32 (s 9 v2) ∧ jr32 v1 ∧ (((s 9 v2) = v1 → kK mX8_takeAllBut 37 [jR 43, jI v1, jI (v2 + 1), jU, jU] [] s Q) ∧ (¬ ((s 9 v2) = v1) → (jr32 (s 7 (s 9 v2)) ∧ (((s 7 (s 9 v2)) = (-1) → kK mX8_takeAllBut 37 [jR 43, jI v1, jI (v2 + 1), jU, jU] [] s Q) ∧ (¬ ((s 7 (s 9 v2)) = (-1)) → ((DD s) ∧ (0 ≤ v2 ∧ v2 < s 146 3) ∧ (0 ≤ ((s 8 v2) * 4 + (s 7 (s 9 v2))) ∧ ((s 8 v2) * 4 + (s 7 (s 9 v2))) < 24) ∧ kK mX8_takeAllBut 37 [jR 43, jI v1, jI (v2 + 1), jU, jU] [] (tkn s v2 ((s 8 v2) * 4 + (s 7 (s 9 v2))) (s 155 v2)) Q))))))))))) : kK mX8_takeAllBut 37 [jR 43, jI v1, jI v2, jU, jU] [] s Q := by
  obtain ⟨a1, a2, v⟩ := v
  refine k_iload_n dX8_takeAllBut_37 rfl ?_
  refine k_aload_n dX8_takeAllBut_38 rfl ?_
  refine k_getr dX8_takeAllBut_39 fl_X8_20 sh_43 (by decide) rfl ?_
  refine k_geti 13 dX8_takeAllBut_42 fl_X8_30 sh_2 (by decide) rfl rfl ?_
  obtain ⟨vt, vf⟩ := v
  refine k_icmp_ge 105 dX8_takeAllBut_45 rfl a1 a2 (fun c3 => ?_) (fun c3 => ?_)
  · have v := vt c3
    exact k_return (st := []) dX8_takeAllBut_105 rfl v
  · have v := vf c3
    obtain ⟨a4, a5, a6, a7, v⟩ := v
    refine k_aload_n dX8_takeAllBut_48 rfl ?_
    refine k_getr dX8_takeAllBut_49 fl_X8_20 sh_43 (by decide) rfl ?_
    refine k_getr dX8_takeAllBut_52 fl_X8_36 sh_2 (by decide) rfl ?_
    refine k_iload_n dX8_takeAllBut_55 rfl ?_
    refine k_iald 30 dX8_takeAllBut_56 sh_9 (by decide) rfl (by decide) a4 ?_
    refine k_istore_n [jR 43, jI v1, jI v2, jI (s 9 v2), jU] dX8_takeAllBut_57 rfl rfl ?_
    refine k_aload_n dX8_takeAllBut_58 rfl ?_
    refine k_getr dX8_takeAllBut_59 fl_X8_20 sh_43 (by decide) rfl ?_
    refine k_getr dX8_takeAllBut_62 fl_X8_39 sh_2 (by decide) rfl ?_
    refine k_iload_n dX8_takeAllBut_65 rfl ?_
    refine k_iald 8 dX8_takeAllBut_66 sh_7 (by decide) rfl (by decide) a5 ?_
    refine k_istore [jR 43, jI v1, jI v2, jI (s 9 v2), jI (s 7 (s 9 v2))] dX8_takeAllBut_67 rfl rfl ?_
    refine k_iload_n dX8_takeAllBut_69 rfl ?_
    refine k_iload_n dX8_takeAllBut_70 rfl ?_
    obtain ⟨vt, vf⟩ := v
    refine k_icmp_eq 99 dX8_takeAllBut_71 rfl a6 a7 (fun c8 => ?_) (fun c8 => ?_)
    · have v := vt c8
      refine k_iinc [jR 43, jI v1, jI (v2 + 1), jI (s 9 v2), jI (s 7 (s 9 v2))] dX8_takeAllBut_99 rfl rfl rfl ?_
      refine k_goto 37 dX8_takeAllBut_102 rfl ?_
      refine k_drop [jR 43, jI v1, jI (v2 + 1), jU, jU] ⟨Or.inr rfl, Or.inr rfl, Or.inr rfl, Or.inl rfl, Or.inl rfl, trivial⟩ ?_
      exact v
    · have v := vf c8
      obtain ⟨a9, v⟩ := v
      refine k_iload dX8_takeAllBut_74 rfl ?_
      refine k_iconst dX8_takeAllBut_76 ?_
      obtain ⟨vt, vf⟩ := v
      refine k_icmp_eq 99 dX8_takeAllBut_77 rfl a9 (by decide) (fun c10 => ?_) (fun c10 => ?_)
      · have v := vt c10
        refine k_iinc [jR 43, jI v1, jI (v2 + 1), jI (s 9 v2), jI (s 7 (s 9 v2))] dX8_takeAllBut_99 rfl rfl rfl ?_
        refine k_goto 37 dX8_takeAllBut_102 rfl ?_
        refine k_drop [jR 43, jI v1, jI (v2 + 1), jU, jU] ⟨Or.inr rfl, Or.inr rfl, Or.inr rfl, Or.inl rfl, Or.inl rfl, trivial⟩ ?_
        exact v
      · have v := vf c10
        obtain ⟨a11, a12, a13, v⟩ := v
        refine k_aload_n dX8_takeAllBut_80 rfl ?_
        refine k_iload_n dX8_takeAllBut_81 rfl ?_
        refine k_aload_n dX8_takeAllBut_82 rfl ?_
        refine k_getr dX8_takeAllBut_83 fl_X8_20 sh_43 (by decide) rfl ?_
        refine k_getr dX8_takeAllBut_86 fl_X8_42 sh_2 (by decide) rfl ?_
        refine k_iload_n dX8_takeAllBut_89 rfl ?_
        refine k_iald 30 dX8_takeAllBut_90 sh_8 (by decide) rfl (by decide) a4 ?_
        refine k_iload dX8_takeAllBut_91 rfl ?_
        refine k_invS [jI (s 8 v2), jI (s 7 (s 9 v2))] [jI v2, jR 43] dX8_takeAllBut_93 cm_X8_rowOf ml_X8_45 st_X8_rowOf rfl rfl (sp_X8_rowOf s (s 8 v2) (s 7 (s 9 v2))) ?_
        refine k_invV [jI v2, jI ((s 8 v2) * 4 + (s 7 (s 9 v2)))] [] dX8_takeAllBut_96 cm_X8_takeLetter ml_X8_49 im_X8_takeLetter se_X8_takeLetter rfl sh_43 (by decide) rfl rfl (sp_X8_takeLetter s v2 ((s 8 v2) * 4 + (s 7 (s 9 v2))) a11 a12 a13) ?_
        refine k_iinc [jR 43, jI v1, jI (v2 + 1), jI (s 9 v2), jI (s 7 (s 9 v2))] dX8_takeAllBut_99 rfl rfl rfl ?_
        refine k_goto 37 dX8_takeAllBut_102 rfl ?_
        refine k_drop [jR 43, jI v1, jI (v2 + 1), jU, jU] ⟨Or.inr rfl, Or.inr rfl, Or.inr rfl, Or.inl rfl, Or.inl rfl, trivial⟩ ?_
        exact v
theorem sp_X8_takeAllBut (s0 : Int → Int → Int) (u : Int) (h : DD s0) (hu : jr32 u) : kR mX8_takeAllBut [jR 43, jI u] s0 (fun r s' => r = none ∧ frm tlP s0 s' ∧ TL s0 u s') := by
  obtain ⟨e0, e1, e2, e3⟩ := h.cnt
  refine g_X8_takeAllBut ?_
  have key2 : ∀ i, i ≤ s0 146 3 → 0 ≤ i → ∀ s, frm tlP s0 s → TLn s0 u i s → kK mX8_takeAllBut 37 [jR 43, jI u, jI i, jU, jU] [] s (fun r s' => r = none ∧ frm tlP s0 s' ∧ TL s0 u s') := by
    refine lp_up _ _ (fun i hi ih i0 s fs ts => ?_)
    have c2 : s 2 = s0 2 := fs 2 (by unfold tlP; omega)
    have c7 : s 7 = s0 7 := fs 7 (by unfold tlP; omega)
    have c8 : s 8 = s0 8 := fs 8 (by unfold tlP; omega)
    have c9 : s 9 = s0 9 := fs 9 (by unfold tlP; omega)
    have c146 : s 146 = s0 146 := fs 146 (by unfold tlP; omega)
    have c155 : s 155 = s0 155 := fs 155 (by unfold tlP; omega)
    have c156 : s 156 = s0 156 := fs 156 (by unfold tlP; omega)
    refine g_X8_takeAllBut_37 ?_
    rw [c2, c7, c8, c9, c146, c155]
    refine ⟨by unfold jr32; omega, by unfold jr32; omega, fun q => ⟨rfl, fs, by unfold TL; rw [show s0 146 3 = i by omega]; exact ts⟩, fun q => ?_⟩
    obtain ⟨f1, f2, f3, f4⟩ := h.let i0 (by omega)
    obtain ⟨p1, p2⟩ := h.pup f2.2.1 f2.2.2
    rw [f2.1, p2.1, f1.1]
    have no : (∀ g, 0 ≤ g → g < 4 → ¬ (s0 153 i ≠ u ∧ s0 151 (s0 153 i) = g)) → kK mX8_takeAllBut 37 [jR 43, jI u, jI (i + 1), jU, jU] [] s (fun r s' => r = none ∧ frm tlP s0 s' ∧ TL s0 u s') := fun p => by
      refine ih (by omega) (by omega) s fs (fun x g x0 x1 g0 g1 => ?_)
      obtain ⟨t1, t2⟩ := ts x g x0 x1 g0 g1
      refine ⟨fun w w0 w1 => ?_, ?_⟩
      · rw [t1 w w0 w1, tlp_s i0, if_neg (fun q => p g g0 g1 q.2), Int.add_zero]
      · rw [t2, tlp_s i0, if_neg (fun q => p g g0 g1 q.2), Int.add_zero]
    refine ⟨by omega, by omega, by unfold jr32; omega, hu, fun c => no (fun g _ _ q => q.1 c), fun c => ⟨by unfold jr32; omega, fun d => no (fun g _ _ q => by have := q.2; omega), fun d => ⟨h.fr (fun k hk => fs k (by unfold tlP; omega)), by omega, by omega, ?_⟩⟩⟩
    refine ih (by omega) (by omega) _ (fun k hk => ?_) (fun x g x0 x1 g0 g1 => ?_)
    · funext j
      unfold tlP at hk
      unfold tkn
      rw [if_neg (by omega), if_neg (by omega), fs k (by unfold tlP; exact hk)]
    · obtain ⟨t1, t2⟩ := ts x g x0 x1 g0 g1
      by_cases e : x = s0 152 i ∧ g = s0 151 (s0 153 i)
      · obtain ⟨ex, eg⟩ := e
        refine ⟨fun w w0 w1 => ?_, ?_⟩
        · unfold tkn
          rw [if_pos (by rw [ex, eg]), t1 w w0 w1, tlp_s i0, if_pos ⟨ex.symm, c, eg.symm⟩, stc_w (by omega), c156]
        · unfold tkn
          rw [if_neg (by omega), if_pos ⟨rfl, by rw [ex, eg]⟩, t2, tlp_s i0, if_pos ⟨ex.symm, c, eg.symm⟩, stc_a f4.2.1]
      · refine ⟨fun w w0 w1 => ?_, ?_⟩
        · unfold tkn
          rw [if_neg (by omega), if_neg (by omega), t1 w w0 w1, tlp_s i0, if_neg (fun q => e ⟨q.1.symm, q.2.2.symm⟩), Int.add_zero]
        · unfold tkn
          rw [if_neg (by omega), if_neg (by omega), t2, tlp_s i0, if_neg (fun q => e ⟨q.1.symm, q.2.2.symm⟩), Int.add_zero]
  have key1 : ∀ r, r ≤ 24 → 0 ≤ r → ∀ s, frm tlP s0 s → (∀ r' i, 0 ≤ r' → r' < r → 0 ≤ i → i < 8 → s (45 + r') i = 0) → (∀ i, 0 ≤ i → i < 24 → s 69 i = 0) → kK mX8_takeAllBut 10 [jR 43, jI u, jI r, jU, jU] [] s (fun r s' => r = none ∧ frm tlP s0 s' ∧ TL s0 u s') := by
    refine lp_up _ _ (fun r hr ih r0 s fs z1 z2 => ?_)
    refine g_X8_takeAllBut_10 ⟨by unfold jr32; omega, fun q => ?_, fun q => ⟨by omega, ?_⟩⟩
    · refine key2 0 (by omega) (by omega) s fs (fun x g x0 x1 g0 g1 => ⟨fun w w0 w1 => ?_, ?_⟩)
      · rw [z1 _ w (by omega) (by omega) w0 w1]; exact (sg_0 _).symm
      · rw [z2 _ (by omega) (by omega)]; exact (sg_0 _).symm
    · refine ih (by omega) (by omega) _ (fun k hk => ?_) (fun r' i a b c d => ?_) (fun i a b => ?_)
      · rw [fl_k (by unfold tlP at hk; omega)]; exact fs k hk
      · by_cases e : r' = r
        · rw [e, fl_s c d]
        · rw [fl_k (by omega)]; exact z1 r' i a (by omega) c d
      · rw [fl_k (by omega)]; exact z2 i a b
  exact key1 0 (by omega) (by omega) _ (fun k hk => fl_k (by unfold tlP at hk; omega)) (fun r' i a b => by omega) (fun i a b => fl_s a b)
theorem g_X8_usesOf {s : Int → Int → Int} {Q : Option jV → (Int → Int → Int) → Prop} {v1 v2 v3 : Int} (v : ((0 ≤ (v1 * 4 + v3) ∧ (v1 * 4 + v3) < 24) ∧ (0 ≤ v2 ∧ v2 < 8) ∧ (0 ≤ v1 ∧ v1 < 6) ∧ jr32 (s 5 v1) ∧ (((s 5 v1) ≠ (-1) → ((0 ≤ ((s 5 v1) * 4 + v3) ∧ ((s 5 v1) * 4 + v3) < 24) ∧ Q (some (jI ((s (45 + (v1 * 4 + v3)) v2) + (s (45 + ((s 5 v1) * 4 + v3)) v2)))) s)) ∧ ((s 5 v1) = (-1) → Q (some (jI (s (45 + (v1 * 4 + v3)) v2))) s)))) : kR mX8_usesOf [jR 43, jI v1, jI v2, jI v3] s Q := by
  show kK mX8_usesOf 0 [jR 43, jI v1, jI v2, jI v3, jU, jU] [] s Q
  obtain ⟨a1, a2, a3, a4, v⟩ := v
  refine k_aload_n dX8_usesOf_0 rfl ?_
  refine k_getr dX8_usesOf_1 fl_X8_11 sh_43 (by decide) rfl ?_
  refine k_iload_n dX8_usesOf_4 rfl ?_
  refine k_iload_n dX8_usesOf_5 rfl ?_
  refine k_invS [jI v1, jI v3] [jR 44] dX8_usesOf_6 cm_X8_rowOf ml_X8_45 st_X8_rowOf rfl rfl (sp_X8_rowOf s v1 v3) ?_
  refine k_aald 24 dX8_usesOf_9 sh_44 (Or.inl rfl) (by decide) rfl (by decide) rfl a1 ?_
  refine k_iload_n dX8_usesOf_10 rfl ?_
  refine k_iald 8 dX8_usesOf_11 (sr_44 (v1 * 4 + v3) a1) ⟨by have := a1; omega, by have := a1; omega⟩ rfl (by decide) a2 ?_
  refine k_istore [jR 43, jI v1, jI v2, jI v3, jI (s (45 + (v1 * 4 + v3)) v2), jU] dX8_usesOf_12 rfl rfl ?_
  refine k_aload_n dX8_usesOf_14 rfl ?_
  refine k_getr dX8_usesOf_15 fl_X8_20 sh_43 (by decide) rfl ?_
  refine k_getr dX8_usesOf_18 fl_X8_59 sh_2 (by decide) rfl ?_
  refine k_iload_n dX8_usesOf_21 rfl ?_
  refine k_iald 6 dX8_usesOf_22 sh_5 (by decide) rfl (by decide) a3 ?_
  refine k_istore [jR 43, jI v1, jI v2, jI v3, jI (s (45 + (v1 * 4 + v3)) v2), jI (s 5 v1)] dX8_usesOf_23 rfl rfl ?_
  refine k_iload dX8_usesOf_25 rfl ?_
  refine k_iconst dX8_usesOf_27 ?_
  obtain ⟨vt, vf⟩ := v
  refine k_icmp_ne 36 dX8_usesOf_28 rfl a4 (by decide) (fun c5 => ?_) (fun c5 => ?_)
  · have v := vt c5
    obtain ⟨a6, v⟩ := v
    refine k_iload dX8_usesOf_36 rfl ?_
    refine k_aload_n dX8_usesOf_38 rfl ?_
    refine k_getr dX8_usesOf_39 fl_X8_11 sh_43 (by decide) rfl ?_
    refine k_iload dX8_usesOf_42 rfl ?_
    refine k_iload_n dX8_usesOf_44 rfl ?_
    refine k_invS [jI (s 5 v1), jI v3] [jR 44, jI (s (45 + (v1 * 4 + v3)) v2)] dX8_usesOf_45 cm_X8_rowOf ml_X8_45 st_X8_rowOf rfl rfl (sp_X8_rowOf s (s 5 v1) v3) ?_
    refine k_aald 24 dX8_usesOf_48 sh_44 (Or.inl rfl) (by decide) rfl (by decide) rfl a6 ?_
    refine k_iload_n dX8_usesOf_49 rfl ?_
    refine k_iald 8 dX8_usesOf_50 (sr_44 ((s 5 v1) * 4 + v3) a6) ⟨by have := a6; omega, by have := a6; omega⟩ rfl (by decide) a2 ?_
    refine k_iadd dX8_usesOf_51 ?_
    exact k_ireturn (st := []) dX8_usesOf_52 rfl v
  · have v := vf c5
    refine k_iload dX8_usesOf_31 rfl ?_
    refine k_goto 52 dX8_usesOf_33 rfl ?_
    exact k_ireturn (st := []) dX8_usesOf_52 rfl v
theorem sp_X8_usesOf (s : Int → Int → Int) (h w g : Int) (hh : 0 ≤ h ∧ h < 6) (hw : 0 ≤ w ∧ w < 8) (hg : 0 ≤ g ∧ g < 4) (hk : -1 ≤ s 5 h ∧ s 5 h < 6) : kM mX8_usesOf [jR 43, jI h, jI w, jI g] s (some (jI (us s h w g))) s := by
  unfold us
  exact g_X8_usesOf ⟨by omega, hw, hh, by unfold jr32; omega, fun c => ⟨by omega, by rw [if_neg c], rfl⟩, fun c => ⟨by rw [if_pos c, Int.add_zero], rfl⟩⟩
theorem g_X8_usesOfAll {s : Int → Int → Int} {Q : Option jV → (Int → Int → Int) → Prop} {v1 v2 : Int} (v : ((0 ≤ (v1 * 4 + v2) ∧ (v1 * 4 + v2) < 24) ∧ (0 ≤ v1 ∧ v1 < 6) ∧ jr32 (s 5 v1) ∧ (((s 5 v1) ≠ (-1) → ((0 ≤ ((s 5 v1) * 4 + v2) ∧ ((s 5 v1) * 4 + v2) < 24) ∧ Q (some (jI ((s 69 (v1 * 4 + v2)) + (s 69 ((s 5 v1) * 4 + v2))))) s)) ∧ ((s 5 v1) = (-1) → Q (some (jI (s 69 (v1 * 4 + v2)))) s)))) : kR mX8_usesOfAll [jR 43, jI v1, jI v2] s Q := by
  show kK mX8_usesOfAll 0 [jR 43, jI v1, jI v2, jU, jU] [] s Q
  obtain ⟨a1, a2, a3, v⟩ := v
  refine k_aload_n dX8_usesOfAll_0 rfl ?_
  refine k_getr dX8_usesOfAll_1 fl_X8_16 sh_43 (by decide) rfl ?_
  refine k_iload_n dX8_usesOfAll_4 rfl ?_
  refine k_iload_n dX8_usesOfAll_5 rfl ?_
  refine k_invS [jI v1, jI v2] [jR 69] dX8_usesOfAll_6 cm_X8_rowOf ml_X8_45 st_X8_rowOf rfl rfl (sp_X8_rowOf s v1 v2) ?_
  refine k_iald 24 dX8_usesOfAll_9 sh_69 (by decide) rfl (by decide) a1 ?_
  refine k_istore_n [jR 43, jI v1, jI v2, jI (s 69 (v1 * 4 + v2)), jU] dX8_usesOfAll_10 rfl rfl ?_
  refine k_aload_n dX8_usesOfAll_11 rfl ?_
  refine k_getr dX8_usesOfAll_12 fl_X8_20 sh_43 (by decide) rfl ?_
  refine k_getr dX8_usesOfAll_15 fl_X8_59 sh_2 (by decide) rfl ?_
  refine k_iload_n dX8_usesOfAll_18 rfl ?_
  refine k_iald 6 dX8_usesOfAll_19 sh_5 (by decide) rfl (by decide) a2 ?_
  refine k_istore [jR 43, jI v1, jI v2, jI (s 69 (v1 * 4 + v2)), jI (s 5 v1)] dX8_usesOfAll_20 rfl rfl ?_
  refine k_iload dX8_usesOfAll_22 rfl ?_
  refine k_iconst dX8_usesOfAll_24 ?_
  obtain ⟨vt, vf⟩ := v
  refine k_icmp_ne 32 dX8_usesOfAll_25 rfl a3 (by decide) (fun c4 => ?_) (fun c4 => ?_)
  · have v := vt c4
    obtain ⟨a5, v⟩ := v
    refine k_iload_n dX8_usesOfAll_32 rfl ?_
    refine k_aload_n dX8_usesOfAll_33 rfl ?_
    refine k_getr dX8_usesOfAll_34 fl_X8_16 sh_43 (by decide) rfl ?_
    refine k_iload dX8_usesOfAll_37 rfl ?_
    refine k_iload_n dX8_usesOfAll_39 rfl ?_
    refine k_invS [jI (s 5 v1), jI v2] [jR 69, jI (s 69 (v1 * 4 + v2))] dX8_usesOfAll_40 cm_X8_rowOf ml_X8_45 st_X8_rowOf rfl rfl (sp_X8_rowOf s (s 5 v1) v2) ?_
    refine k_iald 24 dX8_usesOfAll_43 sh_69 (by decide) rfl (by decide) a5 ?_
    refine k_iadd dX8_usesOfAll_44 ?_
    exact k_ireturn (st := []) dX8_usesOfAll_45 rfl v
  · have v := vf c4
    refine k_iload_n dX8_usesOfAll_28 rfl ?_
    refine k_goto 45 dX8_usesOfAll_29 rfl ?_
    exact k_ireturn (st := []) dX8_usesOfAll_45 rfl v
theorem sp_X8_usesOfAll (s : Int → Int → Int) (h g : Int) (hh : 0 ≤ h ∧ h < 6) (hg : 0 ≤ g ∧ g < 4) (hk : -1 ≤ s 5 h ∧ s 5 h < 6) : kM mX8_usesOfAll [jR 43, jI h, jI g] s (some (jI (ua s h g))) s := by
  unfold ua
  exact g_X8_usesOfAll ⟨by omega, hh, by unfold jr32; omega, fun c => ⟨by omega, by rw [if_neg c], rfl⟩, fun c => ⟨by rw [if_pos c, Int.add_zero], rfl⟩⟩
theorem g_X8_meantAbove {s : Int → Int → Int} {Q : Option jV → (Int → Int → Int) → Prop} {v1 v2 v3 : Int} (v : ((0 ≤ v1 ∧ v1 < 6) ∧ (0 ≤ v2 ∧ v2 < 8) ∧ (0 ≤ v3 ∧ v3 < 4) ∧ (-1 ≤ s 5 v1 ∧ s 5 v1 < 6) ∧ jr32 (1 + (us s v1 v2 v3)) ∧ Q (some (jL (1 + (us s v1 v2 v3)))) s)) : kR mX8_meantAbove [jR 43, jI v1, jI v2, jI v3] s Q := by
  show kK mX8_meantAbove 0 [jR 43, jI v1, jI v2, jI v3] [] s Q
  obtain ⟨a1, a2, a3, a4, a5, v⟩ := v
  refine k_iconst dX8_meantAbove_0 ?_
  refine k_aload_n dX8_meantAbove_1 rfl ?_
  refine k_iload_n dX8_meantAbove_2 rfl ?_
  refine k_iload_n dX8_meantAbove_3 rfl ?_
  refine k_iload_n dX8_meantAbove_4 rfl ?_
  refine k_invV [jI v1, jI v2, jI v3] [jI 1] dX8_meantAbove_5 cm_X8_usesOf ml_X8_62 im_X8_usesOf se_X8_usesOf rfl sh_43 (by decide) rfl rfl (sp_X8_usesOf s v1 v2 v3 a1 a2 a3 a4) ?_
  refine k_iadd dX8_meantAbove_8 ?_
  refine k_i2l dX8_meantAbove_9 a5 ?_
  exact k_lreturn (st := []) dX8_meantAbove_10 rfl v
theorem sp_X8_meantAbove (s : Int → Int → Int) (h w g : Int) (hh : 0 ≤ h ∧ h < 6) (hw : 0 ≤ w ∧ w < 8) (hg : 0 ≤ g ∧ g < 4) (hk : -1 ≤ s 5 h ∧ s 5 h < 6) (hu : jr32 (1 + us s h w g)) : kM mX8_meantAbove [jR 43, jI h, jI w, jI g] s (some (jL (1 + us s h w g))) s := g_X8_meantAbove ⟨hh, hw, hg, hk, hu, rfl, rfl⟩
theorem g_X8_meantBelow {s : Int → Int → Int} {Q : Option jV → (Int → Int → Int) → Prop} {v1 v2 : Int} (v : ((0 ≤ v1 ∧ v1 < 6) ∧ (0 ≤ v2 ∧ v2 < 4) ∧ (-1 ≤ s 5 v1 ∧ s 5 v1 < 6) ∧ jr32 ((s 2 10) + (ua s v1 v2)) ∧ Q (some (jL ((s 2 10) + (ua s v1 v2)))) s)) : kR mX8_meantBelow [jR 43, jI v1, jI v2] s Q := by
  show kK mX8_meantBelow 0 [jR 43, jI v1, jI v2] [] s Q
  obtain ⟨a1, a2, a3, a4, v⟩ := v
  refine k_aload_n dX8_meantBelow_0 rfl ?_
  refine k_getr dX8_meantBelow_1 fl_X8_20 sh_43 (by decide) rfl ?_
  refine k_geti 10 dX8_meantBelow_4 fl_X8_66 sh_2 (by decide) rfl rfl ?_
  refine k_aload_n dX8_meantBelow_7 rfl ?_
  refine k_iload_n dX8_meantBelow_8 rfl ?_
  refine k_iload_n dX8_meantBelow_9 rfl ?_
  refine k_invV [jI v1, jI v2] [jI (s 2 10)] dX8_meantBelow_10 cm_X8_usesOfAll ml_X8_69 im_X8_usesOfAll se_X8_usesOfAll rfl sh_43 (by decide) rfl rfl (sp_X8_usesOfAll s v1 v2 a1 a2 a3) ?_
  refine k_iadd dX8_meantBelow_13 ?_
  refine k_i2l dX8_meantBelow_14 a4 ?_
  exact k_lreturn (st := []) dX8_meantBelow_15 rfl v
theorem sp_X8_meantBelow (s : Int → Int → Int) (h g : Int) (hh : 0 ≤ h ∧ h < 6) (hg : 0 ≤ g ∧ g < 4) (hk : -1 ≤ s 5 h ∧ s 5 h < 6) (hu : jr32 (s 2 10 + ua s h g)) : kM mX8_meantBelow [jR 43, jI h, jI g] s (some (jL (s 2 10 + ua s h g))) s := g_X8_meantBelow ⟨hh, hg, hk, hu, rfl, rfl⟩
theorem g_X10_uses {s : Int → Int → Int} {Q : Option jV → (Int → Int → Int) → Prop} {v1 v2 v3 : Int} (v : (jr32 v1 ∧ (WC s) ∧ ((¬ (0 ≤ v1 ∧ v1 ≤ s 2 11 - 1) → Q (some (jI (-2))) s) ∧ (0 ≤ v1 ∧ v1 ≤ s 2 11 - 1 → (jr32 v2 ∧ ((¬ (0 ≤ v2 ∧ v2 ≤ s 2 10 - 1) → Q (some (jI (-2))) s) ∧ (0 ≤ v2 ∧ v2 ≤ s 2 10 - 1 → (jr32 v3 ∧ ((0 ≤ v3 ∧ v3 ≤ 3 → ((DD s) ∧ (∀ (s10 : Int → Int → Int), (frm tlP s s10 ∧ TL s (-1) s10) → ((0 ≤ v1 ∧ v1 < 6) ∧ (0 ≤ v2 ∧ v2 < 8) ∧ (0 ≤ v3 ∧ v3 < 4) ∧ (-1 ≤ s10 5 v1 ∧ s10 5 v1 < 6) ∧ Q (some (jI (us s10 v1 v2 v3))) s10)))) ∧ (¬ (0 ≤ v3 ∧ v3 ≤ 3) → Q (some (jI (-2))) s)))))))))) : kR mX10_uses [jR 1, jI v1, jI v2, jI v3] s Q := by
  show kK mX10_uses 0 [jR 1, jI v1, jI v2, jI v3] [] s Q
  obtain ⟨a1, a2, v⟩ := v
  refine k_aload_n dX10_uses_0 rfl ?_
  refine k_iload_n dX10_uses_1 rfl ?_
  refine k_invV [jI v1] [] dX10_uses_2 cm_X10_isHand ml_X10_100 im_X10_isHand se_X10_isHand rfl sh_1 (by decide) rfl rfl (sp_X10_isHand s v1 a1 a2) ?_
  obtain ⟨vt, vf⟩ := v
  refine k_ifb_eq 23 dX10_uses_5 rfl (fun c3 => ?_) (fun c3 => ?_)
  · have v := vt c3
    refine k_bipush dX10_uses_23 rfl ?_
    exact k_ireturn (st := []) dX10_uses_25 rfl v
  · have v := vf c3
    obtain ⟨a4, v⟩ := v
    refine k_aload_n dX10_uses_8 rfl ?_
    refine k_iload_n dX10_uses_9 rfl ?_
    refine k_invV [jI v2] [] dX10_uses_10 cm_X10_isWord ml_X10_126 im_X10_isWord se_X10_isWord rfl sh_1 (by decide) rfl rfl (sp_X10_isWord s v2 a4 a2) ?_
    obtain ⟨vt, vf⟩ := v
    refine k_ifb_eq 23 dX10_uses_13 rfl (fun c5 => ?_) (fun c5 => ?_)
    · have v := vt c5
      refine k_bipush dX10_uses_23 rfl ?_
      exact k_ireturn (st := []) dX10_uses_25 rfl v
    · have v := vf c5
      obtain ⟨a6, v⟩ := v
      refine k_iload_n dX10_uses_16 rfl ?_
      refine k_invS [jI v3] [] dX10_uses_17 cm_X10_isGift ml_X10_132 st_X10_isGift rfl rfl (sp_X10_isGift s v3 a6) ?_
      obtain ⟨vt, vf⟩ := v
      refine k_ifb_ne 26 dX10_uses_20 rfl (fun c7 => ?_) (fun c7 => ?_)
      · have v := vt c7
        obtain ⟨a8, v⟩ := v
        refine k_aload_n dX10_uses_26 rfl ?_
        refine k_getr dX10_uses_27 fl_X10_21 sh_1 (by decide) rfl ?_
        refine k_iconst dX10_uses_30 ?_
        refine k_invVR [jI (-1)] [] dX10_uses_31 cm_X8_takeAllBut ml_X10_135 im_X8_takeAllBut se_X8_takeAllBut rfl sh_43 (by decide) rfl rfl (sp_X8_takeAllBut s (-1) a8 (by decide)) (fun _ s10 q11 => ?_)
        obtain ⟨rfl, q11⟩ := q11
        have v := v s10 q11
        obtain ⟨a12, a13, a14, a15, v⟩ := v
        refine k_aload_n dX10_uses_34 rfl ?_
        refine k_getr dX10_uses_35 fl_X10_21 sh_1 (by decide) rfl ?_
        refine k_iload_n dX10_uses_38 rfl ?_
        refine k_iload_n dX10_uses_39 rfl ?_
        refine k_iload_n dX10_uses_40 rfl ?_
        refine k_invV [jI v1, jI v2, jI v3] [] dX10_uses_41 cm_X8_usesOf ml_X10_139 im_X8_usesOf se_X8_usesOf rfl sh_43 (by decide) rfl rfl (sp_X8_usesOf s10 v1 v2 v3 a12 a13 a14 a15) ?_
        exact k_ireturn (st := []) dX10_uses_44 rfl v
      · have v := vf c7
        refine k_bipush dX10_uses_23 rfl ?_
        exact k_ireturn (st := []) dX10_uses_25 rfl v
