theorem jbo_le_sg {x r : Int} (h0 : 0 ≤ x) (hr : 0 ≤ r) : jbo (x ≤ r) = sg (r + 1) (fun q => jbo (x = q)) := by
  by_cases c : x ≤ r
  · rw [jbo_t c]
    refine (sg_dl (n := r + 1) (x := x) h0 (by omega)).symm.trans (sg_c (fun j _ _ => ?_))
    by_cases e : j = x
    · rw [if_pos e, jbo_t e.symm]
    · rw [if_neg e, jbo_f (fun q => e q.symm)]
  · rw [jbo_f c, sg_zero (fun j j0 j1 => jbo_f (by omega))]
theorem wlp_yc {s : Int → Int → Int} (d : DD s) {y h r : Int} (hr : 0 ≤ r) : wlp s (s 146 3) y h r = sg (r + 1) (fun q => yc s y h q) := by
  unfold yc ycp
  rw [sg_swap]
  refine sg_c (fun l l0 l1 => ?_)
  by_cases c : s 154 l = y ∧ (h = -1 ∨ s 152 l = h)
  · rw [if_pos c]
    refine Eq.trans ?_ (sg_c (f := fun q => sg (s 155 l) (fun j => jbo (s 147 (s 156 (8 * l + j)) = q))) (fun q _ _ => by rw [if_pos c]))
    rw [sg_swap (r + 1)]
    refine sg_c (fun k k0 k1 => ?_)
    obtain ⟨t1, t2, t3⟩ := d.txt l0 l1 k0 k1
    obtain ⟨w1, -⟩ := d.wrd t2 t3
    exact jbo_le_sg w1.2.1 hr
  · rw [if_neg c, sg_zero (fun q _ _ => by rw [if_neg c])]
