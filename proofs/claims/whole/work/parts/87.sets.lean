theorem sets_init (S0 : Int → Int) : kR mX11_sets [jR 143, jI 1, jL 1] (s1f S0) (fun r s' => r = none ∧ Inv S0 s') := sorry
