theorem s1f_0 (S0 : Int → Int) {k : Int} (i : Int) (h0 : k ≠ 0) (h1 : k ≠ 70) (h2 : k ≠ 157) (h3 : k ≠ 141) (h4 : k ≠ 142) : s1f S0 k i = 0 := by
  unfold s1f
  rw [if_neg h0, if_neg h1, if_neg h2, if_neg (fun q => h3 q.1), if_neg (fun q => h4 q.1)]
theorem sets_init (S0 : Int → Int) : kR mX11_sets [jR 143, jI 1, jL 1] (s1f S0) (fun r s' => r = none ∧ Inv S0 s') := by
  refine kK.mono (sp_X11_sets (s1f S0) 1 1 (by decide) (by decide)) (fun r s q => ?_)
  obtain ⟨rfl, f, g⟩ := q
  refine ⟨rfl, ?_⟩
  have e : ∀ k, k ≠ 144 → k ≠ 145 → s k = s1f S0 k := f.1
  have z : ∀ k i, k ≠ 0 → k ≠ 70 → k ≠ 157 → k ≠ 141 → k ≠ 142 → k ≠ 144 → k ≠ 145 → s k i = 0 := fun k i h0 h1 h2 h3 h4 h5 h6 => by rw [e k h5 h6]; exact s1f_0 S0 i h0 h1 h2 h3 h4
  have c : ∀ i, s 146 i = 0 := fun i => z 146 i (by omega) (by omega) (by omega) (by omega) (by omega) (by omega) (by omega)
  have d : ∀ i, s 2 i = 0 := fun i => z 2 i (by omega) (by omega) (by omega) (by omega) (by omega) (by omega) (by omega)
  have g0 : RG s 0 0 := by
    obtain ⟨f1, f2⟩ := f.2 0 (by omega)
    have w0 : s 145 0 = 0 := by rw [f1]; exact s1f_0 S0 0 (by omega) (by omega) (by omega) (by omega) (by omega)
    have r0 : ∀ i, 0 ≤ i → i < 50 → rg s 0 i = 0 := fun i i0 i1 => by
      rw [f2 i i0 i1]
      exact s1f_0 S0 _ (by omega) (by omega) (by omega) (by omega) (by omega)
    refine ⟨⟨by rw [w0]; omega, fun i i0 i1 => by rw [r0 i i0 i1]; omega, fun i i0 i1 => r0 i (by omega) i1, ?_⟩, Or.inl w0⟩
    rw [vl_z0 (n := 0) (by omega) (by omega) r0, vl_0]
  have b0 : BG s 139 0 := by
    have w0 : s 139 1 = 0 := z 139 1 (by omega) (by omega) (by omega) (by omega) (by omega) (by omega) (by omega)
    refine ⟨by rw [w0]; omega, fun i i0 i1 => by rw [w0] at i1; omega, by rw [w0, vl_0], Or.inl w0⟩
  have b1 : BG s 141 1 := by
    have w1 : s 141 1 = 1 := by rw [e 141 (by omega) (by omega)]; rfl
    have l1 : s (141 + 1) 0 = 1 := by
      show s 142 0 = 1
      rw [e 142 (by omega) (by omega)]; rfl
    have v1 : vl 1 (s (141 + 1)) = 1 := by
      have := vl_s (n := 0) (by omega) (s (141 + 1))
      rw [vl_0, bp_0, l1] at this
      exact this
    refine ⟨by rw [w1]; omega, fun i i0 i1 => ?_, by rw [w1]; exact v1, Or.inr ?_⟩
    · rw [w1] at i1
      rw [show i = 0 by omega, l1]; omega
    · rw [w1]; exact Int.le_refl _
  refine ⟨?_, ⟨?_, ?_⟩, ?_, ?_, ?_, ?_, IF_of b0 b1 g0 g, ?_⟩
  · rw [e 0 (by omega) (by omega)]
    funext i
    exact if_pos rfl
  · unfold WM dwf inr
    rw [c, c, c, c]
    exact ⟨by omega, by omega, by omega, by omega, fun i _ _ => by omega, fun i _ _ => by omega, fun i _ _ => by omega, fun i _ _ => by omega, fun i _ _ => by omega, fun i _ _ => by omega, fun i _ _ => by omega, fun i _ _ => by omega, fun i _ _ => by omega, fun l p _ _ => by omega⟩
  · unfold IAq eqr
    rw [c, c, c, c, d, d, d, d]
    exact ⟨⟨rfl, rfl, rfl, rfl⟩, ⟨fun i _ _ => by omega, fun i _ _ => by omega⟩, fun i _ _ => by omega, ⟨fun i _ _ => by omega, fun i _ _ => by omega⟩, ⟨fun i _ _ => by omega, fun i _ _ => by omega, fun i _ _ => by omega, fun i _ _ => by omega⟩, fun l p _ _ => by omega, fun l _ _ => z 11 l (by omega) (by omega) (by omega) (by omega) (by omega) (by omega) (by omega)⟩
  · have x70 : ∀ i, s 70 i = 1 := fun i => by rw [e 70 (by omega) (by omega)]; rfl
    have x157 : ∀ i, s 157 i = 1 := fun i => by rw [e 157 (by omega) (by omega)]; rfl
    exact ⟨fun i _ _ => by rw [x70, x157], fun i _ _ => by rw [x157]; omega⟩
  · unfold IC eqr inr
    rw [c, c, z 97 3 (by omega) (by omega) (by omega) (by omega) (by omega) (by omega) (by omega)]
    exact ⟨rfl, by omega, ⟨fun i _ _ => by omega, fun i _ _ => by omega, fun i _ _ => by omega⟩, ⟨fun i _ _ => by omega, fun i _ _ => by omega, fun i _ _ => by omega⟩, fun i _ _ => by omega, fun a b _ _ _ _ => by rw [sg_0]; exact z (102 + a) b (by omega) (by omega) (by omega) (by omega) (by omega) (by omega) (by omega)⟩
  · have x163 : ∀ i, s 163 i = 0 := fun i => z 163 i (by omega) (by omega) (by omega) (by omega) (by omega) (by omega) (by omega)
    exact ⟨fun i _ _ => by rw [x163]; exact z 121 i (by omega) (by omega) (by omega) (by omega) (by omega) (by omega) (by omega), fun i _ _ => by rw [x163]; omega⟩
  · unfold IE eqr inr
    rw [c, z 124 3 (by omega) (by omega) (by omega) (by omega) (by omega) (by omega) (by omega)]
    exact ⟨rfl, by omega, ⟨fun i _ _ => by omega, fun i _ _ => by omega⟩, fun q g _ _ => by omega⟩
  · exact ⟨fun j _ _ => ⟨z 88 j (by omega) (by omega) (by omega) (by omega) (by omega) (by omega) (by omega), z (88 + j) 0 (by omega) (by omega) (by omega) (by omega) (by omega) (by omega) (by omega)⟩, fun p _ _ => z (111 + p) 0 (by omega) (by omega) (by omega) (by omega) (by omega) (by omega) (by omega)⟩
