theorem g_X3_isOn {s : Int → Int → Int} {Q : Option jV → (Int → Int → Int) → Prop} {v1 v2 v3 : Int} (v : ((0 ≤ v1 ∧ v1 < 30) ∧ (0 ≤ (s 9 v1) ∧ (s 9 v1) < 8) ∧ jr32 (s 6 (s 9 v1)) ∧ jr32 v2 ∧ (((s 6 (s 9 v1)) ≠ v2 → Q (some (jI 0)) s) ∧ ((s 6 (s 9 v1)) = v2 → (jr32 (s 7 (s 9 v1)) ∧ jr32 v3 ∧ (((s 7 (s 9 v1)) ≠ v3 → Q (some (jI 0)) s) ∧ ((s 7 (s 9 v1)) = v3 → Q (some (jI 1)) s))))))) : kR mX3_isOn [jR 2, jI v1, jI v2, jI v3] s Q := by
  show kK mX3_isOn 0 [jR 2, jI v1, jI v2, jI v3, jU] [] s Q
  obtain ⟨a1, a2, a3, a4, v⟩ := v
  refine k_aload_n dX3_isOn_0 rfl ?_
  refine k_getr dX3_isOn_1 fl_X3_30 sh_2 (by decide) rfl ?_
  refine k_iload_n dX3_isOn_4 rfl ?_
  refine k_iald 30 dX3_isOn_5 sh_9 (by decide) rfl (by decide) a1 ?_
  refine k_istore [jR 2, jI v1, jI v2, jI v3, jI (s 9 v1)] dX3_isOn_6 rfl rfl ?_
  refine k_aload_n dX3_isOn_8 rfl ?_
  refine k_getr dX3_isOn_9 fl_X3_21 sh_2 (by decide) rfl ?_
  refine k_iload dX3_isOn_12 rfl ?_
  refine k_iald 8 dX3_isOn_14 sh_6 (by decide) rfl (by decide) a2 ?_
  refine k_iload_n dX3_isOn_15 rfl ?_
  obtain ⟨vt, vf⟩ := v
  refine k_icmp_ne 34 dX3_isOn_16 rfl a3 a4 (fun c5 => ?_) (fun c5 => ?_)
  · have v := vt c5
    refine k_iconst dX3_isOn_34 ?_
    exact k_zreturn (st := []) dX3_isOn_35 rfl (Or.inl rfl) v
  · have v := vf c5
    obtain ⟨a6, a7, v⟩ := v
    refine k_aload_n dX3_isOn_19 rfl ?_
    refine k_getr dX3_isOn_20 fl_X3_24 sh_2 (by decide) rfl ?_
    refine k_iload dX3_isOn_23 rfl ?_
    refine k_iald 8 dX3_isOn_25 sh_7 (by decide) rfl (by decide) a2 ?_
    refine k_iload_n dX3_isOn_26 rfl ?_
    obtain ⟨vt, vf⟩ := v
    refine k_icmp_ne 34 dX3_isOn_27 rfl a6 a7 (fun c8 => ?_) (fun c8 => ?_)
    · have v := vt c8
      refine k_iconst dX3_isOn_34 ?_
      exact k_zreturn (st := []) dX3_isOn_35 rfl (Or.inl rfl) v
    · have v := vf c8
      refine k_iconst dX3_isOn_30 ?_
      refine k_goto 35 dX3_isOn_31 rfl ?_
      exact k_zreturn (st := []) dX3_isOn_35 rfl (Or.inr rfl) v
theorem sp_X3_isOn (s : Int → Int → Int) (l w g : Int) (h : DD s) (hl : 0 ≤ l ∧ l < s 146 3) (hw : jr32 w) (hg : jr32 g) : kM mX3_isOn [jR 2, jI l, jI w, jI g] s (some (jI (jbo (s 151 (s 153 l) = g ∧ s 150 (s 153 l) = w)))) s := by
  obtain ⟨e0, e1, e2, e3⟩ := h.cnt
  obtain ⟨-, f2, -⟩ := h.let hl.1 hl.2
  obtain ⟨p1, p2⟩ := h.pup f2.2.1 f2.2.2
  refine g_X3_isOn ⟨by omega, by omega, by rw [f2.1, p1.1]; unfold jr32; omega, hw, fun c => ⟨jbf0 ?_, rfl⟩, fun c => ⟨by rw [f2.1, p2.1]; unfold jr32; omega, hg, fun c2 => ⟨jbf0 ?_, rfl⟩, fun c2 => ⟨jbf1 ?_, rfl⟩⟩⟩
  · rw [f2.1, p1.1] at c; exact fun q => c q.2
  · rw [f2.1, p2.1] at c2; exact fun q => c2 q.1
  · rw [f2.1, p2.1] at c2; rw [f2.1, p1.1] at c; exact ⟨c2, c⟩
theorem g_X3_holds {s : Int → Int → Int} {Q : Option jV → (Int → Int → Int) → Prop} {v1 v2 : Int} (v : kK mX3_holds 2 [jR 2, jI v1, jI v2, jI 0] [] s Q) : kR mX3_holds [jR 2, jI v1, jI v2] s Q := by
  show kK mX3_holds 0 [jR 2, jI v1, jI v2, jU] [] s Q
  refine k_iconst dX3_holds_0 ?_
  refine k_istore_n [jR 2, jI v1, jI v2, jI 0] dX3_holds_1 rfl rfl ?_
  exact v
theorem g_X3_holds_2 {s : Int → Int → Int} {Q : Option jV → (Int → Int → Int) → Prop} {v1 v2 v3 : Int} (v : ((0 ≤ v1 ∧ v1 < 30) ∧ jr32 v3 ∧ jr32 (s 11 v1) ∧ (((s 11 v1) ≤ v3 → Q (some (jI 0)) s) ∧ (¬ ((s 11 v1) ≤ v3) → ((0 ≤ v3 ∧ v3 < 8) ∧ jr32 (s (13 + v1) v3) ∧ jr32 v2 ∧ (((s (13 + v1) v3) ≠ v2 → kK mX3_holds 2 [jR 2, jI v1, jI v2, jI (v3 + 1)] [] s Q) ∧ ((s (13 + v1) v3) = v2 → Q (some (jI 1)) s))))))) : kK mX3_holds 2 [jR 2, jI v1, jI v2, jI v3] [] s Q := by
  obtain ⟨a1, a2, a3, v⟩ := v
  refine k_iload_n dX3_holds_2 rfl ?_
  refine k_aload_n dX3_holds_3 rfl ?_
  refine k_getr dX3_holds_4 fl_X3_36 sh_2 (by decide) rfl ?_
  refine k_iload_n dX3_holds_7 rfl ?_
  refine k_iald 30 dX3_holds_8 sh_11 (by decide) rfl (by decide) a1 ?_
  obtain ⟨vt, vf⟩ := v
  refine k_icmp_ge 32 dX3_holds_9 rfl a2 a3 (fun c4 => ?_) (fun c4 => ?_)
  · have v := vt c4
    refine k_iconst dX3_holds_32 ?_
    exact k_zreturn (st := []) dX3_holds_33 rfl (Or.inl rfl) v
  · have v := vf c4
    obtain ⟨a5, a6, a7, v⟩ := v
    refine k_aload_n dX3_holds_12 rfl ?_
    refine k_getr dX3_holds_13 fl_X3_41 sh_2 (by decide) rfl ?_
    refine k_iload_n dX3_holds_16 rfl ?_
    refine k_aald 30 dX3_holds_17 sh_12 (Or.inl rfl) (by decide) rfl (by decide) rfl a1 ?_
    refine k_iload_n dX3_holds_18 rfl ?_
    refine k_iald 8 dX3_holds_19 (sr_12 v1 a1) ⟨by have := a1; omega, by have := a1; omega⟩ rfl (by decide) a5 ?_
    refine k_iload_n dX3_holds_20 rfl ?_
    obtain ⟨vt, vf⟩ := v
    refine k_icmp_ne 26 dX3_holds_21 rfl a6 a7 (fun c8 => ?_) (fun c8 => ?_)
    · have v := vt c8
      refine k_iinc [jR 2, jI v1, jI v2, jI (v3 + 1)] dX3_holds_26 rfl rfl rfl ?_
      refine k_goto 2 dX3_holds_29 rfl ?_
      exact v
    · have v := vf c8
      refine k_iconst dX3_holds_24 ?_
      exact k_zreturn (st := []) dX3_holds_25 rfl (Or.inr rfl) v
theorem sp_X3_holds (s : Int → Int → Int) (l w : Int) (h : DD s) (hl : 0 ≤ l ∧ l < s 146 3) (hw : 0 ≤ w ∧ w ≤ 100) : kM mX3_holds [jR 2, jI l, jI w] s (some (jI (jbo (0 < stc s l w)))) s := by
  obtain ⟨e0, e1, e2, e3⟩ := h.cnt
  obtain ⟨-, -, -, f4⟩ := h.let hl.1 hl.2
  refine g_X3_holds ?_
  have key : ∀ i, i ≤ s 155 l → 0 ≤ i → (∀ k, 0 ≤ k → k < i → s 156 (8 * l + k) ≠ w) → kK mX3_holds 2 [jR 2, jI l, jI w, jI i] [] s (fun r s' => r = some (jI (jbo (0 < stc s l w))) ∧ s' = s) := by
    refine lp_up _ _ (fun i hi ih h0 hn => ?_)
    refine g_X3_holds_2 ⟨by omega, by unfold jr32; omega, by unfold jr32; omega, fun c => ⟨jbf0 ?_, rfl⟩, fun c => ?_⟩
    · unfold stc
      rw [sg_zero (fun k h1 h2 => jbo_f (fun q => hn k h1 (by omega) (q.resolve_left (by omega))))]
      omega
    · obtain ⟨t1, t2, t3⟩ := h.txt hl.1 hl.2 h0 (by omega)
      refine ⟨by omega, by unfold jr32; omega, by unfold jr32; omega, fun c2 => ih (by omega) (by omega) (fun k h1 h2 => ?_), fun c2 => ⟨jbf1 ?_, rfl⟩⟩
      · by_cases e : k = i
        · rw [e]; omega
        · exact hn k h1 (by omega)
      · have := sg_ge (n := s 155 l) (k := i) (f := fun k => jbo (w = -1 ∨ s 156 (8 * l + k) = w)) (fun i _ _ => (jbo_01' _).1) h0 (by omega)
        rw [jbo_t (Or.inr (by omega))] at this
        unfold stc; omega
  exact key 0 (by omega) (by omega) (fun k h1 h2 => by omega)
theorem g_X3_lettersOn {s : Int → Int → Int} {Q : Option jV → (Int → Int → Int) → Prop} {v1 v2 : Int} (v : kK mX3_lettersOn 5 [jR 2, jI v1, jI v2, jI 0, jI 0] [] s Q) : kR mX3_lettersOn [jR 2, jI v1, jI v2] s Q := by
  show kK mX3_lettersOn 0 [jR 2, jI v1, jI v2, jU, jU] [] s Q
  refine k_iconst dX3_lettersOn_0 ?_
  refine k_istore_n [jR 2, jI v1, jI v2, jI 0, jU] dX3_lettersOn_1 rfl rfl ?_
  refine k_iconst dX3_lettersOn_2 ?_
  refine k_istore [jR 2, jI v1, jI v2, jI 0, jI 0] dX3_lettersOn_3 rfl rfl ?_
  exact v
theorem g_X3_lettersOn_5 {s : Int → Int → Int} {Q : Option jV → (Int → Int → Int) → Prop} {v1 v2 v3 v4 : Int} (v : (jr32 v4 ∧ jr32 (s 2 13) ∧ (((s 2 13) ≤ v4 → Q (some (jI v3)) s) ∧ (¬ ((s 2 13) ≤ v4) → ((DD s) ∧ (0 ≤ v4 ∧ v4 < s 146 3) ∧ jr32 v1 ∧ jr32 v2 ∧ ((¬ (s 151 (s 153 v4) = v2 ∧ s 150 (s 153 v4) = v1) → kK mX3_lettersOn 5 [jR 2, jI v1, jI v2, jI v3, jI (v4 + 1)] [] s Q) ∧ (s 151 (s 153 v4) = v2 ∧ s 150 (s 153 v4) = v1 → kK mX3_lettersOn 5 [jR 2, jI v1, jI v2, jI (v3 + 1), jI (v4 + 1)] [] s Q))))))) : kK mX3_lettersOn 5 [jR 2, jI v1, jI v2, jI v3, jI v4] [] s Q := by
  obtain ⟨a1, a2, v⟩ := v
  refine k_iload dX3_lettersOn_5 rfl ?_
  refine k_aload_n dX3_lettersOn_7 rfl ?_
  refine k_geti 13 dX3_lettersOn_8 fl_X3_54 sh_2 (by decide) rfl rfl ?_
  obtain ⟨vt, vf⟩ := v
  refine k_icmp_ge 34 dX3_lettersOn_11 rfl a1 a2 (fun c3 => ?_) (fun c3 => ?_)
  · have v := vt c3
    refine k_iload_n dX3_lettersOn_34 rfl ?_
    exact k_ireturn (st := []) dX3_lettersOn_35 rfl v
  · have v := vf c3
    obtain ⟨a4, a5, a6, a7, v⟩ := v
    refine k_aload_n dX3_lettersOn_14 rfl ?_
    refine k_iload dX3_lettersOn_15 rfl ?_
    refine k_iload_n dX3_lettersOn_17 rfl ?_
    refine k_iload_n dX3_lettersOn_18 rfl ?_
    refine k_invV [jI v4, jI v1, jI v2] [] dX3_lettersOn_19 cm_X3_isOn ml_X3_57 im_X3_isOn se_X3_isOn rfl sh_2 (by decide) rfl rfl (sp_X3_isOn s v4 v1 v2 a4 a5 a6 a7) ?_
    obtain ⟨vt, vf⟩ := v
    refine k_ifb_eq 28 dX3_lettersOn_22 rfl (fun c8 => ?_) (fun c8 => ?_)
    · have v := vt c8
      refine k_iinc [jR 2, jI v1, jI v2, jI v3, jI (v4 + 1)] dX3_lettersOn_28 rfl rfl rfl ?_
      refine k_goto 5 dX3_lettersOn_31 rfl ?_
      exact v
    · have v := vf c8
      refine k_iinc [jR 2, jI v1, jI v2, jI (v3 + 1), jI v4] dX3_lettersOn_25 rfl rfl rfl ?_
      refine k_iinc [jR 2, jI v1, jI v2, jI (v3 + 1), jI (v4 + 1)] dX3_lettersOn_28 rfl rfl rfl ?_
      refine k_goto 5 dX3_lettersOn_31 rfl ?_
      exact v
theorem sp_X3_lettersOn (s : Int → Int → Int) (w g : Int) (h : DD s) (hw : jr32 w) (hg : jr32 g) : kM mX3_lettersOn [jR 2, jI w, jI g] s (some (jI (sg (s 146 3) (fun l => jbo (s 151 (s 153 l) = g ∧ s 150 (s 153 l) = w))))) s := by
  obtain ⟨e0, e1, e2, e3⟩ := h.cnt
  refine g_X3_lettersOn ?_
  have key : ∀ i, i ≤ s 146 3 → 0 ≤ i → kK mX3_lettersOn 5 [jR 2, jI w, jI g, jI (sg i (fun l => jbo (s 151 (s 153 l) = g ∧ s 150 (s 153 l) = w))), jI i] [] s (fun r s' => r = some (jI (sg (s 146 3) (fun l => jbo (s 151 (s 153 l) = g ∧ s 150 (s 153 l) = w)))) ∧ s' = s) := by
    refine lp_up _ _ (fun i hi ih h0 => ?_)
    refine g_X3_lettersOn_5 ⟨by unfold jr32; omega, by unfold jr32; omega, fun c => ?_, fun c => ⟨h, by omega, hw, hg, fun c2 => ?_, fun c2 => ?_⟩⟩
    · rw [show i = s 146 3 by omega]; exact ⟨rfl, rfl⟩
    · have := ih (by omega) (by omega)
      rw [sg_s h0, jbo_f c2, Int.add_zero] at this
      exact this
    · have := ih (by omega) (by omega)
      rw [sg_s h0, jbo_t c2] at this
      exact this
  exact key 0 (by omega) (by omega)
theorem g_X3_lettersWith {s : Int → Int → Int} {Q : Option jV → (Int → Int → Int) → Prop} {v1 v2 v3 : Int} (v : kK mX3_lettersWith 6 [jR 2, jI v1, jI v2, jI v3, jI 0, jI 0] [] s Q) : kR mX3_lettersWith [jR 2, jI v1, jI v2, jI v3] s Q := by
  show kK mX3_lettersWith 0 [jR 2, jI v1, jI v2, jI v3, jU, jU] [] s Q
  refine k_iconst dX3_lettersWith_0 ?_
  refine k_istore [jR 2, jI v1, jI v2, jI v3, jI 0, jU] dX3_lettersWith_1 rfl rfl ?_
  refine k_iconst dX3_lettersWith_3 ?_
  refine k_istore [jR 2, jI v1, jI v2, jI v3, jI 0, jI 0] dX3_lettersWith_4 rfl rfl ?_
  exact v
theorem g_X3_lettersWith_6 {s : Int → Int → Int} {Q : Option jV → (Int → Int → Int) → Prop} {v1 v2 v3 v4 v5 : Int} (v : (jr32 v5 ∧ jr32 (s 2 13) ∧ (((s 2 13) ≤ v5 → Q (some (jI v4)) s) ∧ (¬ ((s 2 13) ≤ v5) → ((DD s) ∧ (0 ≤ v5 ∧ v5 < s 146 3) ∧ jr32 v2 ∧ jr32 v3 ∧ ((¬ (s 151 (s 153 v5) = v3 ∧ s 150 (s 153 v5) = v2) → kK mX3_lettersWith 6 [jR 2, jI v1, jI v2, jI v3, jI v4, jI (v5 + 1)] [] s Q) ∧ (s 151 (s 153 v5) = v3 ∧ s 150 (s 153 v5) = v2 → ((0 ≤ v1 ∧ v1 ≤ 100) ∧ ((¬ (0 < stc s v5 v1) → kK mX3_lettersWith 6 [jR 2, jI v1, jI v2, jI v3, jI v4, jI (v5 + 1)] [] s Q) ∧ (0 < stc s v5 v1 → kK mX3_lettersWith 6 [jR 2, jI v1, jI v2, jI v3, jI (v4 + 1), jI (v5 + 1)] [] s Q)))))))))) : kK mX3_lettersWith 6 [jR 2, jI v1, jI v2, jI v3, jI v4, jI v5] [] s Q := by
  obtain ⟨a1, a2, v⟩ := v
  refine k_iload dX3_lettersWith_6 rfl ?_
  refine k_aload_n dX3_lettersWith_8 rfl ?_
  refine k_geti 13 dX3_lettersWith_9 fl_X3_54 sh_2 (by decide) rfl rfl ?_
  obtain ⟨vt, vf⟩ := v
  refine k_icmp_ge 45 dX3_lettersWith_12 rfl a1 a2 (fun c3 => ?_) (fun c3 => ?_)
  · have v := vt c3
    refine k_iload dX3_lettersWith_45 rfl ?_
    exact k_ireturn (st := []) dX3_lettersWith_47 rfl v
  · have v := vf c3
    obtain ⟨a4, a5, a6, a7, v⟩ := v
    refine k_aload_n dX3_lettersWith_15 rfl ?_
    refine k_iload dX3_lettersWith_16 rfl ?_
    refine k_iload_n dX3_lettersWith_18 rfl ?_
    refine k_iload_n dX3_lettersWith_19 rfl ?_
    refine k_invV [jI v5, jI v2, jI v3] [] dX3_lettersWith_20 cm_X3_isOn ml_X3_57 im_X3_isOn se_X3_isOn rfl sh_2 (by decide) rfl rfl (sp_X3_isOn s v5 v2 v3 a4 a5 a6 a7) ?_
    obtain ⟨vt, vf⟩ := v
    refine k_ifb_eq 39 dX3_lettersWith_23 rfl (fun c8 => ?_) (fun c8 => ?_)
    · have v := vt c8
      refine k_iinc [jR 2, jI v1, jI v2, jI v3, jI v4, jI (v5 + 1)] dX3_lettersWith_39 rfl rfl rfl ?_
      refine k_goto 6 dX3_lettersWith_42 rfl ?_
      exact v
    · have v := vf c8
      obtain ⟨a9, v⟩ := v
      refine k_aload_n dX3_lettersWith_26 rfl ?_
      refine k_iload dX3_lettersWith_27 rfl ?_
      refine k_iload_n dX3_lettersWith_29 rfl ?_
      refine k_invV [jI v5, jI v1] [] dX3_lettersWith_30 cm_X3_holds ml_X3_61 im_X3_holds se_X3_holds rfl sh_2 (by decide) rfl rfl (sp_X3_holds s v5 v1 a4 a5 a9) ?_
      obtain ⟨vt, vf⟩ := v
      refine k_ifb_eq 39 dX3_lettersWith_33 rfl (fun c10 => ?_) (fun c10 => ?_)
      · have v := vt c10
        refine k_iinc [jR 2, jI v1, jI v2, jI v3, jI v4, jI (v5 + 1)] dX3_lettersWith_39 rfl rfl rfl ?_
        refine k_goto 6 dX3_lettersWith_42 rfl ?_
        exact v
      · have v := vf c10
        refine k_iinc [jR 2, jI v1, jI v2, jI v3, jI (v4 + 1), jI v5] dX3_lettersWith_36 rfl rfl rfl ?_
        refine k_iinc [jR 2, jI v1, jI v2, jI v3, jI (v4 + 1), jI (v5 + 1)] dX3_lettersWith_39 rfl rfl rfl ?_
        refine k_goto 6 dX3_lettersWith_42 rfl ?_
        exact v
theorem sp_X3_lettersWith (s : Int → Int → Int) (x w g : Int) (h : DD s) (hx : 0 ≤ x ∧ x ≤ 100) (hw : jr32 w) (hg : jr32 g) : kM mX3_lettersWith [jR 2, jI x, jI w, jI g] s (some (jI (sg (s 146 3) (fun l => jbo ((s 151 (s 153 l) = g ∧ s 150 (s 153 l) = w) ∧ 0 < stc s l x))))) s := by
  obtain ⟨e0, e1, e2, e3⟩ := h.cnt
  refine g_X3_lettersWith ?_
  have key : ∀ i, i ≤ s 146 3 → 0 ≤ i → kK mX3_lettersWith 6 [jR 2, jI x, jI w, jI g, jI (sg i (fun l => jbo ((s 151 (s 153 l) = g ∧ s 150 (s 153 l) = w) ∧ 0 < stc s l x))), jI i] [] s (fun r s' => r = some (jI (sg (s 146 3) (fun l => jbo ((s 151 (s 153 l) = g ∧ s 150 (s 153 l) = w) ∧ 0 < stc s l x)))) ∧ s' = s) := by
    refine lp_up _ _ (fun i hi ih h0 => ?_)
    refine g_X3_lettersWith_6 ⟨by unfold jr32; omega, by unfold jr32; omega, fun c => ?_, fun c => ⟨h, by omega, hw, hg, fun c2 => ?_, fun c2 => ⟨hx, fun c3 => ?_, fun c3 => ?_⟩⟩⟩
    · rw [show i = s 146 3 by omega]; exact ⟨rfl, rfl⟩
    · have := ih (by omega) (by omega)
      rw [sg_s h0, jbo_f (fun q => c2 q.1), Int.add_zero] at this
      exact this
    · have := ih (by omega) (by omega)
      rw [sg_s h0, jbo_f (fun q => c3 q.2), Int.add_zero] at this
      exact this
    · have := ih (by omega) (by omega)
      rw [sg_s h0, jbo_t ⟨c2, c3⟩] at this
      exact this
  exact key 0 (by omega) (by omega)
theorem g_X10_about {s : Int → Int → Int} {Q : Option jV → (Int → Int → Int) → Prop} {v1 v2 v3 : Int} (v : (jr32 v1 ∧ (WC s) ∧ ((¬ (0 ≤ v1 ∧ v1 ≤ s 2 10 - 1) → Q (some (jI (-2))) s) ∧ (0 ≤ v1 ∧ v1 ≤ s 2 10 - 1 → (jr32 v2 ∧ ((¬ (0 ≤ v2 ∧ v2 ≤ 3) → Q (some (jI (-2))) s) ∧ (0 ≤ v2 ∧ v2 ≤ 3 → (jr32 v3 ∧ ((0 ≤ v3 ∧ v3 ≤ 3 → ((2 ≤ v3 → ((0 ≤ v3 ∧ v3 ≤ 2147483647) ∧ jr32 (v3 % 2) ∧ (((v3 % 2) ≠ 0 → ((DD s) ∧ (0 ≤ v1 ∧ v1 ≤ 100) ∧ Q (some (jI (sg (s 146 3) (fun l => jbo ((s 151 (s 153 l) = v2 ∧ s 150 (s 153 l) = 2) ∧ 0 < stc s l v1))))) s)) ∧ ((v3 % 2) = 0 → ((DD s) ∧ Q (some (jI (sg (s 146 3) (fun l => jbo (s 151 (s 153 l) = v2 ∧ s 150 (s 153 l) = 2))))) s))))) ∧ (¬ (2 ≤ v3) → ((0 ≤ v3 ∧ v3 ≤ 2147483647) ∧ jr32 (v3 % 2) ∧ (((v3 % 2) ≠ 0 → ((DD s) ∧ (0 ≤ v1 ∧ v1 ≤ 100) ∧ Q (some (jI (sg (s 146 3) (fun l => jbo ((s 151 (s 153 l) = v2 ∧ s 150 (s 153 l) = 1) ∧ 0 < stc s l v1))))) s)) ∧ ((v3 % 2) = 0 → ((DD s) ∧ Q (some (jI (sg (s 146 3) (fun l => jbo (s 151 (s 153 l) = v2 ∧ s 150 (s 153 l) = 1))))) s))))))) ∧ (¬ (0 ≤ v3 ∧ v3 ≤ 3) → Q (some (jI (-2))) s)))))))))) : kR mX10_about [jR 1, jI v1, jI v2, jI v3] s Q := by
  show kK mX10_about 0 [jR 1, jI v1, jI v2, jI v3, jU] [] s Q
  obtain ⟨a1, a2, v⟩ := v
  refine k_aload_n dX10_about_0 rfl ?_
  refine k_iload_n dX10_about_1 rfl ?_
  refine k_invV [jI v1] [] dX10_about_2 cm_X10_isWord ml_X10_126 im_X10_isWord se_X10_isWord rfl sh_1 (by decide) rfl rfl (sp_X10_isWord s v1 a1 a2) ?_
  obtain ⟨vt, vf⟩ := v
  refine k_ifb_eq 24 dX10_about_5 rfl (fun c3 => ?_) (fun c3 => ?_)
  · have v := vt c3
    refine k_bipush dX10_about_24 rfl ?_
    exact k_ireturn (st := []) dX10_about_26 rfl v
  · have v := vf c3
    obtain ⟨a4, v⟩ := v
    refine k_iload_n dX10_about_8 rfl ?_
    refine k_invS [jI v2] [] dX10_about_9 cm_X10_isGift ml_X10_132 st_X10_isGift rfl rfl (sp_X10_isGift s v2 a4) ?_
    obtain ⟨vt, vf⟩ := v
    refine k_ifb_eq 24 dX10_about_12 rfl (fun c5 => ?_) (fun c5 => ?_)
    · have v := vt c5
      refine k_bipush dX10_about_24 rfl ?_
      exact k_ireturn (st := []) dX10_about_26 rfl v
    · have v := vf c5
      obtain ⟨a6, v⟩ := v
      refine k_iload_n dX10_about_15 rfl ?_
      refine k_iconst dX10_about_16 ?_
      refine k_iconst dX10_about_17 ?_
      refine k_invS [jI v3, jI 0, jI 3] [] dX10_about_18 cm_X10_within ml_X10_92 st_X10_within rfl rfl (sp_X10_within s v3 0 3 a6 (by decide) (by decide)) ?_
      obtain ⟨vt, vf⟩ := v
      refine k_ifb_ne 27 dX10_about_21 rfl (fun c7 => ?_) (fun c7 => ?_)
      · have v := vt c7
        refine k_iload_n dX10_about_27 rfl ?_
        refine k_iconst dX10_about_28 ?_
        obtain ⟨vt, vf⟩ := v
        refine k_icmp_ge 36 dX10_about_29 rfl a6 (by decide) (fun c8 => ?_) (fun c8 => ?_)
        · have v := vt c8
          obtain ⟨a9, a10, v⟩ := v
          refine k_iconst dX10_about_36 ?_
          refine k_istore [jR 1, jI v1, jI v2, jI v3, jI 2] dX10_about_37 rfl rfl ?_
          refine k_iload_n dX10_about_39 rfl ?_
          refine k_iconst dX10_about_40 ?_
          refine k_irem dX10_about_41 ⟨a9, by decide⟩ ?_
          obtain ⟨vt, vf⟩ := v
          refine k_if_ne 58 dX10_about_42 rfl a10 (fun c11 => ?_) (fun c11 => ?_)
          · have v := vt c11
            obtain ⟨a12, a13, v⟩ := v
            refine k_aload_n dX10_about_58 rfl ?_
            refine k_getr dX10_about_59 fl_X10_10 sh_1 (by decide) rfl ?_
            refine k_iload_n dX10_about_62 rfl ?_
            refine k_iload dX10_about_63 rfl ?_
            refine k_iload_n dX10_about_65 rfl ?_
            refine k_invV [jI v1, jI 2, jI v2] [] dX10_about_66 cm_X3_lettersWith ml_X10_204 im_X3_lettersWith se_X3_lettersWith rfl sh_2 (by decide) rfl rfl (sp_X3_lettersWith s v1 2 v2 a12 a13 (by decide) a4) ?_
            exact k_ireturn (st := []) dX10_about_69 rfl v
          · have v := vf c11
            obtain ⟨a14, v⟩ := v
            refine k_aload_n dX10_about_45 rfl ?_
            refine k_getr dX10_about_46 fl_X10_10 sh_1 (by decide) rfl ?_
            refine k_iload dX10_about_49 rfl ?_
            refine k_iload_n dX10_about_51 rfl ?_
            refine k_invV [jI 2, jI v2] [] dX10_about_52 cm_X3_lettersOn ml_X10_201 im_X3_lettersOn se_X3_lettersOn rfl sh_2 (by decide) rfl rfl (sp_X3_lettersOn s 2 v2 a14 (by decide) a4) ?_
            refine k_goto 69 dX10_about_55 rfl ?_
            exact k_ireturn (st := []) dX10_about_69 rfl v
        · have v := vf c8
          obtain ⟨a15, a16, v⟩ := v
          refine k_iconst dX10_about_32 ?_
          refine k_goto 37 dX10_about_33 rfl ?_
          refine k_istore [jR 1, jI v1, jI v2, jI v3, jI 1] dX10_about_37 rfl rfl ?_
          refine k_iload_n dX10_about_39 rfl ?_
          refine k_iconst dX10_about_40 ?_
          refine k_irem dX10_about_41 ⟨a15, by decide⟩ ?_
          obtain ⟨vt, vf⟩ := v
          refine k_if_ne 58 dX10_about_42 rfl a16 (fun c17 => ?_) (fun c17 => ?_)
          · have v := vt c17
            obtain ⟨a18, a19, v⟩ := v
            refine k_aload_n dX10_about_58 rfl ?_
            refine k_getr dX10_about_59 fl_X10_10 sh_1 (by decide) rfl ?_
            refine k_iload_n dX10_about_62 rfl ?_
            refine k_iload dX10_about_63 rfl ?_
            refine k_iload_n dX10_about_65 rfl ?_
            refine k_invV [jI v1, jI 1, jI v2] [] dX10_about_66 cm_X3_lettersWith ml_X10_204 im_X3_lettersWith se_X3_lettersWith rfl sh_2 (by decide) rfl rfl (sp_X3_lettersWith s v1 1 v2 a18 a19 (by decide) a4) ?_
            exact k_ireturn (st := []) dX10_about_69 rfl v
          · have v := vf c17
            obtain ⟨a20, v⟩ := v
            refine k_aload_n dX10_about_45 rfl ?_
            refine k_getr dX10_about_46 fl_X10_10 sh_1 (by decide) rfl ?_
            refine k_iload dX10_about_49 rfl ?_
            refine k_iload_n dX10_about_51 rfl ?_
            refine k_invV [jI 1, jI v2] [] dX10_about_52 cm_X3_lettersOn ml_X10_201 im_X3_lettersOn se_X3_lettersOn rfl sh_2 (by decide) rfl rfl (sp_X3_lettersOn s 1 v2 a20 (by decide) a4) ?_
            refine k_goto 69 dX10_about_55 rfl ?_
            exact k_ireturn (st := []) dX10_about_69 rfl v
      · have v := vf c7
        refine k_bipush dX10_about_24 rfl ?_
        exact k_ireturn (st := []) dX10_about_26 rfl v
theorem g_X10_slip {s : Int → Int → Int} {Q : Option jV → (Int → Int → Int) → Prop} {v1 : Int} (v : (jr32 v1 ∧ (WC s) ∧ ((0 ≤ v1 ∧ v1 ≤ s 2 13 - 1 → ((0 ≤ v1 ∧ v1 < 30) ∧ (0 ≤ (s 9 v1) ∧ (s 9 v1) < 8) ∧ kK mX10_slip 31 [jR 1, jI v1, jI (s 6 (s 9 v1)), jI 0, jU] [] s Q)) ∧ (¬ (0 ≤ v1 ∧ v1 ≤ s 2 13 - 1) → Q (some (jI (-2))) s)))) : kR mX10_slip [jR 1, jI v1] s Q := by
  show kK mX10_slip 0 [jR 1, jI v1, jU, jU, jU] [] s Q
  obtain ⟨a1, a2, v⟩ := v
  refine k_aload_n dX10_slip_0 rfl ?_
  refine k_iload_n dX10_slip_1 rfl ?_
  refine k_invV [jI v1] [] dX10_slip_2 cm_X10_isLetter ml_X10_123 im_X10_isLetter se_X10_isLetter rfl sh_1 (by decide) rfl rfl (sp_X10_isLetter s v1 a1 a2) ?_
  obtain ⟨vt, vf⟩ := v
  refine k_ifb_ne 11 dX10_slip_5 rfl (fun c3 => ?_) (fun c3 => ?_)
  · have v := vt c3
    obtain ⟨a4, a5, v⟩ := v
    refine k_aload_n dX10_slip_11 rfl ?_
    refine k_getr dX10_slip_12 fl_X10_10 sh_1 (by decide) rfl ?_
    refine k_getr dX10_slip_15 fl_X10_225 sh_2 (by decide) rfl ?_
    refine k_aload_n dX10_slip_18 rfl ?_
    refine k_getr dX10_slip_19 fl_X10_10 sh_1 (by decide) rfl ?_
    refine k_getr dX10_slip_22 fl_X10_228 sh_2 (by decide) rfl ?_
    refine k_iload_n dX10_slip_25 rfl ?_
    refine k_iald 30 dX10_slip_26 sh_9 (by decide) rfl (by decide) a4 ?_
    refine k_iald 8 dX10_slip_27 sh_6 (by decide) rfl (by decide) a5 ?_
    refine k_istore_n [jR 1, jI v1, jI (s 6 (s 9 v1)), jU, jU] dX10_slip_28 rfl rfl ?_
    refine k_iconst dX10_slip_29 ?_
    refine k_istore_n [jR 1, jI v1, jI (s 6 (s 9 v1)), jI 0, jU] dX10_slip_30 rfl rfl ?_
    exact v
  · have v := vf c3
    refine k_bipush dX10_slip_8 rfl ?_
    exact k_ireturn (st := []) dX10_slip_10 rfl v
theorem g_X10_slip_31 {s : Int → Int → Int} {Q : Option jV → (Int → Int → Int) → Prop} {v1 v2 v3 : Int} (v : ((0 ≤ v1 ∧ v1 < 30) ∧ jr32 v3 ∧ jr32 (s 11 v1) ∧ (((s 11 v1) ≤ v3 → Q (some (jI (-1))) s) ∧ (¬ ((s 11 v1) ≤ v3) → ((0 ≤ v3 ∧ v3 < 8) ∧ (0 ≤ (s (13 + v1) v3) ∧ (s (13 + v1) v3) < 8) ∧ jr32 (s 4 (s (13 + v1) v3)) ∧ (((s 4 (s (13 + v1) v3)) = 0 → kK mX10_slip 31 [jR 1, jI v1, jI v2, jI (v3 + 1), jU] [] s Q) ∧ (¬ ((s 4 (s (13 + v1) v3)) = 0) → (jr32 v2 ∧ (((s 4 (s (13 + v1) v3)) = v2 → kK mX10_slip 31 [jR 1, jI v1, jI v2, jI (v3 + 1), jU] [] s Q) ∧ (¬ ((s 4 (s (13 + v1) v3)) = v2) → Q (some (jI v3)) s)))))))))) : kK mX10_slip 31 [jR 1, jI v1, jI v2, jI v3, jU] [] s Q := by
  obtain ⟨a1, a2, a3, v⟩ := v
  refine k_iload_n dX10_slip_31 rfl ?_
  refine k_aload_n dX10_slip_32 rfl ?_
  refine k_getr dX10_slip_33 fl_X10_10 sh_1 (by decide) rfl ?_
  refine k_getr dX10_slip_36 fl_X10_231 sh_2 (by decide) rfl ?_
  refine k_iload_n dX10_slip_39 rfl ?_
  refine k_iald 30 dX10_slip_40 sh_11 (by decide) rfl (by decide) a1 ?_
  obtain ⟨vt, vf⟩ := v
  refine k_icmp_ge 84 dX10_slip_41 rfl a2 a3 (fun c4 => ?_) (fun c4 => ?_)
  · have v := vt c4
    refine k_iconst dX10_slip_84 ?_
    exact k_ireturn (st := []) dX10_slip_85 rfl v
  · have v := vf c4
    obtain ⟨a5, a6, a7, v⟩ := v
    refine k_aload_n dX10_slip_44 rfl ?_
    refine k_getr dX10_slip_45 fl_X10_10 sh_1 (by decide) rfl ?_
    refine k_getr dX10_slip_48 fl_X10_234 sh_2 (by decide) rfl ?_
    refine k_aload_n dX10_slip_51 rfl ?_
    refine k_getr dX10_slip_52 fl_X10_10 sh_1 (by decide) rfl ?_
    refine k_getr dX10_slip_55 fl_X10_237 sh_2 (by decide) rfl ?_
    refine k_iload_n dX10_slip_58 rfl ?_
    refine k_aald 30 dX10_slip_59 sh_12 (Or.inl rfl) (by decide) rfl (by decide) rfl a1 ?_
    refine k_iload_n dX10_slip_60 rfl ?_
    refine k_iald 8 dX10_slip_61 (sr_12 v1 a1) ⟨by have := a1; omega, by have := a1; omega⟩ rfl (by decide) a5 ?_
    refine k_iald 8 dX10_slip_62 sh_4 (by decide) rfl (by decide) a6 ?_
    refine k_istore [jR 1, jI v1, jI v2, jI v3, jI (s 4 (s (13 + v1) v3))] dX10_slip_63 rfl rfl ?_
    refine k_iload dX10_slip_65 rfl ?_
    obtain ⟨vt, vf⟩ := v
    refine k_if_eq 78 dX10_slip_67 rfl a7 (fun c8 => ?_) (fun c8 => ?_)
    · have v := vt c8
      refine k_iinc [jR 1, jI v1, jI v2, jI (v3 + 1), jI (s 4 (s (13 + v1) v3))] dX10_slip_78 rfl rfl rfl ?_
      refine k_goto 31 dX10_slip_81 rfl ?_
      refine k_drop [jR 1, jI v1, jI v2, jI (v3 + 1), jU] ⟨Or.inr rfl, Or.inr rfl, Or.inr rfl, Or.inr rfl, Or.inl rfl, trivial⟩ ?_
      exact v
    · have v := vf c8
      obtain ⟨a9, v⟩ := v
      refine k_iload dX10_slip_70 rfl ?_
      refine k_iload_n dX10_slip_72 rfl ?_
      obtain ⟨vt, vf⟩ := v
      refine k_icmp_eq 78 dX10_slip_73 rfl a7 a9 (fun c10 => ?_) (fun c10 => ?_)
      · have v := vt c10
        refine k_iinc [jR 1, jI v1, jI v2, jI (v3 + 1), jI (s 4 (s (13 + v1) v3))] dX10_slip_78 rfl rfl rfl ?_
        refine k_goto 31 dX10_slip_81 rfl ?_
        refine k_drop [jR 1, jI v1, jI v2, jI (v3 + 1), jU] ⟨Or.inr rfl, Or.inr rfl, Or.inr rfl, Or.inr rfl, Or.inl rfl, trivial⟩ ?_
        exact v
      · have v := vf c10
        refine k_iload_n dX10_slip_76 rfl ?_
        exact k_ireturn (st := []) dX10_slip_77 rfl v
