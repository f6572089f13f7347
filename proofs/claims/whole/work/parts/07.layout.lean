/-! THE LAYOUT of the cells when both objects are made, and the machine over it: what the cells hold is s : Int → Int → Int (cell, place: the place in an array, or the field's number) -/
abbrev jSh : Type := (Nat × List (Option jV)) ⊕ (Nat × Nat × (Unit ⊕ Unit ⊕ (Int → Option Int))) ⊕ Unit
abbrev hI (n : Nat) : jSh := .inr (.inl (0, n, .inl ()))
abbrev hL (n : Nat) : jSh := .inr (.inl (1, n, .inr (.inl ())))
abbrev hQ (t n : Nat) (g : Int → Option Int) : jSh := .inr (.inl (t, n, .inr (.inr g)))
abbrev hO (ci : Nat) (fs : List (Option jV)) : jSh := .inl (ci, fs)
def jfl : Int → List (Option jV) → (Int → Int) → List jV
  | _, [], _ => []
  | i, some v :: t, f => v :: jfl (i + 1) t f
  | i, none :: t, f => jI (f i) :: jfl (i + 1) t f
def jl1 : jSh → (Int → Int) → jE
  | .inl (ci, fs), f => .inl (ci, jfl 0 fs f)
  | .inr (.inl (t, n, .inl ())), f => .inr (t, n, .inl f)
  | .inr (.inl (t, n, .inr (.inl ()))), f => .inr (t, n, .inr (.inl f))
  | .inr (.inl (t, n, .inr (.inr g))), _ => .inr (t, n, .inr (.inr g))
  | .inr (.inr ()), f => .inr (0, (f 0).toNat, .inl (fun i => f (i + 1)))
def jshL : List jSh := [.inr (.inr ()), hO 10 [some (jR 2), some (jR 43), some (jR 71), some (jR 83), some (jR 86), some (jR 97), some (jR 120), some (jR 124), some (jR 138), some (jR 70)], hO 3 [some (jR 3), some (jR 4), some (jR 5), some (jR 6), some (jR 7), some (jR 8), some (jR 9), some (jR 10), some (jR 11), some (jR 12), none, none, none, none], hI 8, hI 8, hI 6, hI 8, hI 8, hI 30, hI 30, hI 30, hI 30, hQ 2 30 (fun i => some (13 + i)), .inr (.inr ()), .inr (.inr ()), .inr (.inr ()), .inr (.inr ()), .inr (.inr ()), .inr (.inr ()), .inr (.inr ()), .inr (.inr ()), .inr (.inr ()), .inr (.inr ()), .inr (.inr ()), .inr (.inr ()), .inr (.inr ()), .inr (.inr ()), .inr (.inr ()), .inr (.inr ()), .inr (.inr ()), .inr (.inr ()), .inr (.inr ()), .inr (.inr ()), .inr (.inr ()), .inr (.inr ()), .inr (.inr ()), .inr (.inr ()), .inr (.inr ()), .inr (.inr ()), .inr (.inr ()), .inr (.inr ()), .inr (.inr ()), .inr (.inr ()), hO 8 [some (jR 2), some (jR 44), some (jR 69)], hQ 2 24 (fun i => some (45 + i)), .inr (.inr ()), .inr (.inr ()), .inr (.inr ()), .inr (.inr ()), .inr (.inr ()), .inr (.inr ()), .inr (.inr ()), .inr (.inr ()), .inr (.inr ()), .inr (.inr ()), .inr (.inr ()), .inr (.inr ()), .inr (.inr ()), .inr (.inr ()), .inr (.inr ()), .inr (.inr ()), .inr (.inr ()), .inr (.inr ()), .inr (.inr ()), .inr (.inr ()), .inr (.inr ()), .inr (.inr ()), .inr (.inr ()), .inr (.inr ()), hI 24, hI 4, hO 1 [some (jR 2), some (jR 43), some (jR 70), some (jR 72), some (jR 73)], hQ 4 4 (fun i => some (75 + 2 * i)), hO 0 [some (jR 74), none], hI 16, hO 0 [some (jR 76), none], hI 16, hO 0 [some (jR 78), none], hI 16, hO 0 [some (jR 80), none], hI 16, hO 0 [some (jR 82), none], hI 16, hO 9 [some (jR 2), some (jR 84), some (jR 85)], hI 10, hI 10, hO 7 [some (jR 2), some (jR 87)], hQ 2 9 (fun i => some (88 + i)), .inr (.inr ()), .inr (.inr ()), .inr (.inr ()), .inr (.inr ()), .inr (.inr ()), .inr (.inr ()), .inr (.inr ()), .inr (.inr ()), .inr (.inr ()), hO 6 [some (jR 98), some (jR 99), some (jR 100), none, some (jR 101), some (jR 110), some (jR 119)], hI 40, hI 40, hI 40, hQ 2 8 (fun i => some (102 + i)), .inr (.inr ()), .inr (.inr ()), .inr (.inr ()), .inr (.inr ()), .inr (.inr ()), .inr (.inr ()), .inr (.inr ()), .inr (.inr ()), hQ 2 8 (fun i => some (111 + i)), .inr (.inr ()), .inr (.inr ()), .inr (.inr ()), .inr (.inr ()), .inr (.inr ()), .inr (.inr ()), .inr (.inr ()), .inr (.inr ()), hI 256, hO 2 [some (jR 2), some (jR 121), some (jR 122), none, some (jR 123)], hI 6, hI 6, hI 64, hO 4 [some (jR 70), some (jR 125), some (jR 126), none, some (jR 133)], hI 6, hQ 2 6 (fun i => some (127 + i)), .inr (.inr ()), .inr (.inr ()), .inr (.inr ()), .inr (.inr ()), .inr (.inr ()), .inr (.inr ()), hQ 3 4 (fun i => some (134 + i)), .inr (.inr ()), .inr (.inr ()), .inr (.inr ()), .inr (.inr ()), hO 5 [some (jR 139), some (jR 141)], hO 0 [some (jR 140), none], hI 16, hO 0 [some (jR 142), none], hI 16, hO 11 [some (jR 144), some (jR 145), some (jR 146), some (jR 147), some (jR 148), some (jR 149), some (jR 150), some (jR 151), some (jR 152), some (jR 153), some (jR 154), some (jR 155), some (jR 156), some (jR 157), some (jR 158), some (jR 159), some (jR 160), some (jR 161), some (jR 162), some (jR 163), some (jR 164), some (jR 165), some (jR 166), some (jR 167), some (jR 168)], hI 750, hI 15, hI 6, hI 8, hI 8, hI 6, hI 8, hI 8, hI 30, hI 30, hI 30, hI 30, hI 240, hI 4, hI 81, hI 40, hI 40, hI 40, hI 256, hI 6, hI 6, hI 6, hI 6, hI 6, hI 24]
def jsh (k : Int) : jSh := if 13 ≤ k ∧ k ≤ 42 then hI 8 else if 45 ≤ k ∧ k ≤ 68 then hI 8 else if 88 ≤ k ∧ k ≤ 96 then hI 9 else if 102 ≤ k ∧ k ≤ 109 then hI 8 else if 111 ≤ k ∧ k ≤ 118 then hI 256 else if 127 ≤ k ∧ k ≤ 132 then hI 4 else if 134 ≤ k ∧ k ≤ 137 then hL 64 else jshL.getD k.toNat (.inr (.inr ()))
theorem sh_0 : jsh 0 = .inr (.inr ()) := rfl
theorem sh_1 : jsh 1 = hO 10 [some (jR 2), some (jR 43), some (jR 71), some (jR 83), some (jR 86), some (jR 97), some (jR 120), some (jR 124), some (jR 138), some (jR 70)] := rfl
theorem sh_2 : jsh 2 = hO 3 [some (jR 3), some (jR 4), some (jR 5), some (jR 6), some (jR 7), some (jR 8), some (jR 9), some (jR 10), some (jR 11), some (jR 12), none, none, none, none] := rfl
theorem sh_3 : jsh 3 = hI 8 := rfl
theorem sh_4 : jsh 4 = hI 8 := rfl
theorem sh_5 : jsh 5 = hI 6 := rfl
theorem sh_6 : jsh 6 = hI 8 := rfl
theorem sh_7 : jsh 7 = hI 8 := rfl
theorem sh_8 : jsh 8 = hI 30 := rfl
theorem sh_9 : jsh 9 = hI 30 := rfl
theorem sh_10 : jsh 10 = hI 30 := rfl
theorem sh_11 : jsh 11 = hI 30 := rfl
theorem sh_12 : jsh 12 = hQ 2 30 (fun i => some (13 + i)) := rfl
theorem sh_43 : jsh 43 = hO 8 [some (jR 2), some (jR 44), some (jR 69)] := rfl
theorem sh_44 : jsh 44 = hQ 2 24 (fun i => some (45 + i)) := rfl
theorem sh_69 : jsh 69 = hI 24 := rfl
theorem sh_70 : jsh 70 = hI 4 := rfl
theorem sh_71 : jsh 71 = hO 1 [some (jR 2), some (jR 43), some (jR 70), some (jR 72), some (jR 73)] := rfl
theorem sh_72 : jsh 72 = hQ 4 4 (fun i => some (75 + 2 * i)) := rfl
theorem sh_73 : jsh 73 = hO 0 [some (jR 74), none] := rfl
theorem sh_74 : jsh 74 = hI 16 := rfl
theorem sh_75 : jsh 75 = hO 0 [some (jR 76), none] := rfl
theorem sh_76 : jsh 76 = hI 16 := rfl
theorem sh_77 : jsh 77 = hO 0 [some (jR 78), none] := rfl
theorem sh_78 : jsh 78 = hI 16 := rfl
theorem sh_79 : jsh 79 = hO 0 [some (jR 80), none] := rfl
theorem sh_80 : jsh 80 = hI 16 := rfl
theorem sh_81 : jsh 81 = hO 0 [some (jR 82), none] := rfl
theorem sh_82 : jsh 82 = hI 16 := rfl
theorem sh_83 : jsh 83 = hO 9 [some (jR 2), some (jR 84), some (jR 85)] := rfl
theorem sh_84 : jsh 84 = hI 10 := rfl
theorem sh_85 : jsh 85 = hI 10 := rfl
theorem sh_86 : jsh 86 = hO 7 [some (jR 2), some (jR 87)] := rfl
theorem sh_87 : jsh 87 = hQ 2 9 (fun i => some (88 + i)) := rfl
theorem sh_97 : jsh 97 = hO 6 [some (jR 98), some (jR 99), some (jR 100), none, some (jR 101), some (jR 110), some (jR 119)] := rfl
theorem sh_98 : jsh 98 = hI 40 := rfl
theorem sh_99 : jsh 99 = hI 40 := rfl
theorem sh_100 : jsh 100 = hI 40 := rfl
theorem sh_101 : jsh 101 = hQ 2 8 (fun i => some (102 + i)) := rfl
theorem sh_110 : jsh 110 = hQ 2 8 (fun i => some (111 + i)) := rfl
theorem sh_119 : jsh 119 = hI 256 := rfl
theorem sh_120 : jsh 120 = hO 2 [some (jR 2), some (jR 121), some (jR 122), none, some (jR 123)] := rfl
theorem sh_121 : jsh 121 = hI 6 := rfl
theorem sh_122 : jsh 122 = hI 6 := rfl
theorem sh_123 : jsh 123 = hI 64 := rfl
theorem sh_124 : jsh 124 = hO 4 [some (jR 70), some (jR 125), some (jR 126), none, some (jR 133)] := rfl
theorem sh_125 : jsh 125 = hI 6 := rfl
theorem sh_126 : jsh 126 = hQ 2 6 (fun i => some (127 + i)) := rfl
theorem sh_133 : jsh 133 = hQ 3 4 (fun i => some (134 + i)) := rfl
theorem sh_138 : jsh 138 = hO 5 [some (jR 139), some (jR 141)] := rfl
theorem sh_139 : jsh 139 = hO 0 [some (jR 140), none] := rfl
theorem sh_140 : jsh 140 = hI 16 := rfl
theorem sh_141 : jsh 141 = hO 0 [some (jR 142), none] := rfl
theorem sh_142 : jsh 142 = hI 16 := rfl
theorem sh_143 : jsh 143 = hO 11 [some (jR 144), some (jR 145), some (jR 146), some (jR 147), some (jR 148), some (jR 149), some (jR 150), some (jR 151), some (jR 152), some (jR 153), some (jR 154), some (jR 155), some (jR 156), some (jR 157), some (jR 158), some (jR 159), some (jR 160), some (jR 161), some (jR 162), some (jR 163), some (jR 164), some (jR 165), some (jR 166), some (jR 167), some (jR 168)] := rfl
theorem sh_144 : jsh 144 = hI 750 := rfl
theorem sh_145 : jsh 145 = hI 15 := rfl
theorem sh_146 : jsh 146 = hI 6 := rfl
theorem sh_147 : jsh 147 = hI 8 := rfl
theorem sh_148 : jsh 148 = hI 8 := rfl
theorem sh_149 : jsh 149 = hI 6 := rfl
theorem sh_150 : jsh 150 = hI 8 := rfl
theorem sh_151 : jsh 151 = hI 8 := rfl
theorem sh_152 : jsh 152 = hI 30 := rfl
theorem sh_153 : jsh 153 = hI 30 := rfl
theorem sh_154 : jsh 154 = hI 30 := rfl
theorem sh_155 : jsh 155 = hI 30 := rfl
theorem sh_156 : jsh 156 = hI 240 := rfl
theorem sh_157 : jsh 157 = hI 4 := rfl
theorem sh_158 : jsh 158 = hI 81 := rfl
theorem sh_159 : jsh 159 = hI 40 := rfl
theorem sh_160 : jsh 160 = hI 40 := rfl
theorem sh_161 : jsh 161 = hI 40 := rfl
theorem sh_162 : jsh 162 = hI 256 := rfl
theorem sh_163 : jsh 163 = hI 6 := rfl
theorem sh_164 : jsh 164 = hI 6 := rfl
theorem sh_165 : jsh 165 = hI 6 := rfl
theorem sh_166 : jsh 166 = hI 6 := rfl
theorem sh_167 : jsh 167 = hI 6 := rfl
theorem sh_168 : jsh 168 = hI 24 := rfl
theorem sr_12 (i : Int) (h : 0 ≤ i ∧ i < 30) : jsh (13 + i) = hI 8 := by
  unfold jsh
  rw [if_pos (by omega)]
theorem sr_44 (i : Int) (h : 0 ≤ i ∧ i < 24) : jsh (45 + i) = hI 8 := by
  unfold jsh
  rw [if_neg (by omega)]; rw [if_pos (by omega)]
theorem sr_87 (i : Int) (h : 0 ≤ i ∧ i < 9) : jsh (88 + i) = hI 9 := by
  unfold jsh
  rw [if_neg (by omega)]; rw [if_neg (by omega)]; rw [if_pos (by omega)]
theorem sr_101 (i : Int) (h : 0 ≤ i ∧ i < 8) : jsh (102 + i) = hI 8 := by
  unfold jsh
  rw [if_neg (by omega)]; rw [if_neg (by omega)]; rw [if_neg (by omega)]; rw [if_pos (by omega)]
theorem sr_110 (i : Int) (h : 0 ≤ i ∧ i < 8) : jsh (111 + i) = hI 256 := by
  unfold jsh
  rw [if_neg (by omega)]; rw [if_neg (by omega)]; rw [if_neg (by omega)]; rw [if_neg (by omega)]; rw [if_pos (by omega)]
theorem sr_126 (i : Int) (h : 0 ≤ i ∧ i < 6) : jsh (127 + i) = hI 4 := by
  unfold jsh
  rw [if_neg (by omega)]; rw [if_neg (by omega)]; rw [if_neg (by omega)]; rw [if_neg (by omega)]; rw [if_neg (by omega)]; rw [if_pos (by omega)]
theorem sr_133 (i : Int) (h : 0 ≤ i ∧ i < 4) : jsh (134 + i) = hL 64 := by
  unfold jsh
  rw [if_neg (by omega)]; rw [if_neg (by omega)]; rw [if_neg (by omega)]; rw [if_neg (by omega)]; rw [if_neg (by omega)]; rw [if_neg (by omega)]; rw [if_pos (by omega)]
abbrev jNT : Nat := 168
def jlay (s : Int → Int → Int) : Int → jE := fun k => jl1 (jsh k) (s k)
def w2 (s : Int → Int → Int) (k i v : Int) : Int → Int → Int := fun k' i' => if k' = k ∧ i' = i then v else s k' i'
def jQK (Q : Option jV → (Int → Int → Int) → Prop) : Option jV → Nat → (Int → jE) → Prop := fun r n h => n = jNT ∧ ∃ s, h = jlay s ∧ Q r s
def kK (me : jM) (pc : Nat) (ls st : List jV) (s : Int → Int → Int) (Q : Option jV → (Int → Int → Int) → Prop) : Prop := jJ me pc ls st jNT (jlay s) 0 0 (jQK Q)
theorem jfl_none : ∀ (fs : List (Option jV)) (i : Int) (f : Int → Int) (j : Nat), fs[j]? = some none → (jfl i fs f)[j]? = some (jI (f (i + j)))
  | [], _, _, _, h => by simp at h
  | some v :: t, i, f, 0, h => by simp at h
  | none :: t, i, f, 0, _ => by simp [jfl]
  | some v :: t, i, f, j + 1, h => by
    have := jfl_none t (i + 1) f j (by simpa using h)
    rw [show i + 1 + (j : Int) = i + ((j + 1 : Nat) : Int) by omega] at this
    simpa [jfl] using this
  | none :: t, i, f, j + 1, h => by
    have := jfl_none t (i + 1) f j (by simpa using h)
    rw [show i + 1 + (j : Int) = i + ((j + 1 : Nat) : Int) by omega] at this
    simpa [jfl] using this
theorem jfl_some : ∀ (fs : List (Option jV)) (i : Int) (f : Int → Int) (j : Nat) (v : jV), fs[j]? = some (some v) → (jfl i fs f)[j]? = some v
  | [], _, _, _, _, h => by simp at h
  | some w :: t, i, f, 0, v, h => by simpa [jfl] using h
  | none :: t, i, f, 0, v, h => by simp at h
  | some w :: t, i, f, j + 1, v, h => by simpa [jfl] using jfl_some t (i + 1) f j v (by simpa using h)
  | none :: t, i, f, j + 1, v, h => by simpa [jfl] using jfl_some t (i + 1) f j v (by simpa using h)
theorem jfl_len : ∀ (fs : List (Option jV)) (i : Int) (f : Int → Int), (jfl i fs f).length = fs.length
  | [], _, _ => rfl
  | some w :: t, i, f => by simp [jfl, jfl_len t]
  | none :: t, i, f => by simp [jfl, jfl_len t]
theorem jfl_same : ∀ (fs : List (Option jV)) (i : Int) (f g : Int → Int), (∀ z, i ≤ z → f z = g z) → jfl i fs f = jfl i fs g
  | [], _, _, _, _ => rfl
  | some w :: t, i, f, g, h => by simp only [jfl]; rw [jfl_same t (i + 1) f g (fun z hz => h z (by omega))]
  | none :: t, i, f, g, h => by simp only [jfl]; rw [jfl_same t (i + 1) f g (fun z hz => h z (by omega)), h i (Int.le_refl i)]
theorem jfl_set : ∀ (fs : List (Option jV)) (i : Int) (f : Int → Int) (j : Nat) (y : Int), fs[j]? = some none → jfl i fs (fun z => if z = i + j then y else f z) = (jfl i fs f).set j (jI y)
  | [], _, _, _, _, h => by simp at h
  | some v :: t, i, f, 0, y, h => by simp at h
  | none :: t, i, f, 0, y, _ => by
    simp only [jfl, List.set_cons_zero]
    rw [jfl_same t (i + 1) _ f (fun z hz => if_neg (by omega))]
    rw [if_pos (by omega)]
  | some v :: t, i, f, j + 1, y, h => by
    have := jfl_set t (i + 1) f j y (by simpa using h)
    rw [show i + 1 + (j : Int) = i + ((j + 1 : Nat) : Int) by omega] at this
    simp only [jfl, List.set_cons_succ]
    rw [this]
  | none :: t, i, f, j + 1, y, h => by
    have := jfl_set t (i + 1) f j y (by simpa using h)
    rw [show i + 1 + (j : Int) = i + ((j + 1 : Nat) : Int) by omega] at this
    simp only [jfl, List.set_cons_succ]
    rw [this, if_neg (by omega)]
theorem jlay_up {s : Int → Int → Int} {x i y : Int} {c : jE} (h : jl1 (jsh x) (fun z => if z = i then y else s x z) = c) : jup (jlay s) x c = jlay (w2 s x i y) := by
  funext k
  unfold jup jlay
  by_cases hk : k = x
  · subst hk
    rw [if_pos rfl, ← h]
    congr 1
    funext z
    simp [w2]
  · rw [if_neg hk]
    congr 1
    funext z
    simp [w2, hk]

theorem k_iconst {me : jM} {pc : Nat} {ls st : List jV} {s : Int → Int → Int} {Q : Option jV → (Int → Int → Int) → Prop} {v : Int} (hd : decode me.2.2.1 pc = .ok (.iconst v, 1)) (k : kK me (pc + 1) ls (jI v :: st) s Q) : kK me (pc) ls (st) s Q := j_iconst hd k
theorem k_bipush {me : jM} {pc : Nat} {ls st : List jV} {s : Int → Int → Int} {Q : Option jV → (Int → Int → Int) → Prop} {v : Int} (hd : decode me.2.2.1 pc = .ok (.bipush v, 2)) (hv : (Int8.ofInt v).toInt32 = Int32.ofInt v) (k : kK me (pc + 2) ls (jI v :: st) s Q) : kK me (pc) ls (st) s Q := j_bipush hd hv k
theorem k_sipush {me : jM} {pc : Nat} {ls st : List jV} {s : Int → Int → Int} {Q : Option jV → (Int → Int → Int) → Prop} {v : Int} (hd : decode me.2.2.1 pc = .ok (.sipush v, 3)) (hv : (Int16.ofInt v).toInt32 = Int32.ofInt v) (k : kK me (pc + 3) ls (jI v :: st) s Q) : kK me (pc) ls (st) s Q := j_sipush hd hv k
theorem k_lconst {me : jM} {pc : Nat} {ls st : List jV} {s : Int → Int → Int} {Q : Option jV → (Int → Int → Int) → Prop} {i : Fin 2} (v : Int) (hd : decode me.2.2.1 pc = .ok (.lconst i, 1)) (hv : Int64.ofNat (i : Nat) = Int64.ofInt v) (k : kK me (pc + 1) ls (jL v :: st) s Q) : kK me (pc) ls (st) s Q := j_lconst v hd hv k
theorem k_ldc {me : jM} {pc : Nat} {ls st : List jV} {s : Int → Int → Int} {Q : Option jV → (Int → Int → Int) → Prop} {i : Nat} (w : Int32) (v : Int) (hd : decode me.2.2.1 pc = .ok (.ldc i, 2)) (hw : Cond.constant me.1 i w ∈ jws) (hv : w = Int32.ofInt v) (k : kK me (pc + 2) ls (jI v :: st) s Q) : kK me (pc) ls (st) s Q := j_ldc w v hd hw hv k
theorem k_ldcw {me : jM} {pc : Nat} {ls st : List jV} {s : Int → Int → Int} {Q : Option jV → (Int → Int → Int) → Prop} {i : Nat} (w : Int32) (v : Int) (hd : decode me.2.2.1 pc = .ok (.ldc_w i, 3)) (hw : Cond.constant me.1 i w ∈ jws) (hv : w = Int32.ofInt v) (k : kK me (pc + 3) ls (jI v :: st) s Q) : kK me (pc) ls (st) s Q := j_ldcw w v hd hw hv k
theorem k_ldc2 {me : jM} {pc : Nat} {ls st : List jV} {s : Int → Int → Int} {Q : Option jV → (Int → Int → Int) → Prop} {i : Nat} (w : Int64) (v : Int) (hd : decode me.2.2.1 pc = .ok (.ldc2_w i, 3)) (hw : Cond.constantLong me.1 i w ∈ jws) (hv : w = Int64.ofInt v) (k : kK me (pc + 3) ls (jL v :: st) s Q) : kK me (pc) ls (st) s Q := j_ldc2 w v hd hw hv k
theorem k_iload_n {me : jM} {pc : Nat} {ls st : List jV} {s : Int → Int → Int} {Q : Option jV → (Int → Int → Int) → Prop} {i : Fin 4} {x : Int} (hd : decode me.2.2.1 pc = .ok (.iload_n i, 1)) (hl0 : ls[(i : Nat)]? = some (jI x)) (k : kK me (pc + 1) ls (jI x :: st) s Q) : kK me (pc) ls (st) s Q := j_iload_n hd hl0 k
theorem k_iload {me : jM} {pc : Nat} {ls st : List jV} {s : Int → Int → Int} {Q : Option jV → (Int → Int → Int) → Prop} {i : Nat} {x : Int} (hd : decode me.2.2.1 pc = .ok (.iload i, 2)) (hl0 : ls[i]? = some (jI x)) (k : kK me (pc + 2) ls (jI x :: st) s Q) : kK me (pc) ls (st) s Q := j_iload hd hl0 k
theorem k_lload_n {me : jM} {pc : Nat} {ls st : List jV} {s : Int → Int → Int} {Q : Option jV → (Int → Int → Int) → Prop} {i : Fin 4} {x : Int} (hd : decode me.2.2.1 pc = .ok (.lload_n i, 1)) (hl0 : ls[(i : Nat)]? = some (jL x)) (k : kK me (pc + 1) ls (jL x :: st) s Q) : kK me (pc) ls (st) s Q := j_lload_n hd hl0 k
theorem k_lload {me : jM} {pc : Nat} {ls st : List jV} {s : Int → Int → Int} {Q : Option jV → (Int → Int → Int) → Prop} {i : Nat} {x : Int} (hd : decode me.2.2.1 pc = .ok (.lload i, 2)) (hl0 : ls[i]? = some (jL x)) (k : kK me (pc + 2) ls (jL x :: st) s Q) : kK me (pc) ls (st) s Q := j_lload hd hl0 k
theorem k_aload_n {me : jM} {pc : Nat} {ls st : List jV} {s : Int → Int → Int} {Q : Option jV → (Int → Int → Int) → Prop} {i : Fin 4} {x : Int} (hd : decode me.2.2.1 pc = .ok (.aload_n i, 1)) (hl0 : ls[(i : Nat)]? = some (jR x)) (k : kK me (pc + 1) ls (jR x :: st) s Q) : kK me (pc) ls (st) s Q := j_aload_n hd hl0 k
theorem k_aload {me : jM} {pc : Nat} {ls st : List jV} {s : Int → Int → Int} {Q : Option jV → (Int → Int → Int) → Prop} {i : Nat} {x : Int} (hd : decode me.2.2.1 pc = .ok (.aload i, 2)) (hl0 : ls[i]? = some (jR x)) (k : kK me (pc + 2) ls (jR x :: st) s Q) : kK me (pc) ls (st) s Q := j_aload hd hl0 k
theorem k_istore_n {me : jM} {pc : Nat} {ls st : List jV} {s : Int → Int → Int} {Q : Option jV → (Int → Int → Int) → Prop} {i : Fin 4} {x : Int} (ls' : List jV) (hd : decode me.2.2.1 pc = .ok (.istore_n i, 1)) (hi : decide ((i : Nat) < ls.length) && decide ((i : Nat) < me.2.2.2.1) && jok ls (i : Nat) = true) (hs : ls.set (i : Nat) (jI x) = ls') (k : kK me (pc + 1) ls' st s Q) : kK me (pc) ls (jI x :: st) s Q := j_istore_n ls' hd hi hs k
theorem k_istore {me : jM} {pc : Nat} {ls st : List jV} {s : Int → Int → Int} {Q : Option jV → (Int → Int → Int) → Prop} {i : Nat} {x : Int} (ls' : List jV) (hd : decode me.2.2.1 pc = .ok (.istore i, 2)) (hi : decide (i < ls.length) && decide (i < me.2.2.2.1) && jok ls i = true) (hs : ls.set i (jI x) = ls') (k : kK me (pc + 2) ls' st s Q) : kK me (pc) ls (jI x :: st) s Q := j_istore ls' hd hi hs k
theorem k_lstore_n {me : jM} {pc : Nat} {ls st : List jV} {s : Int → Int → Int} {Q : Option jV → (Int → Int → Int) → Prop} {i : Fin 4} {x : Int} (ls' : List jV) (hd : decode me.2.2.1 pc = .ok (.lstore_n i, 1)) (hi : decide ((i : Nat) + 1 < ls.length) && decide ((i : Nat) + 1 < me.2.2.2.1) && jok ls (i : Nat) = true) (hs : (ls.set (i : Nat) (jL x)).set ((i : Nat) + 1) jU = ls') (k : kK me (pc + 1) ls' st s Q) : kK me (pc) ls (jL x :: st) s Q := j_lstore_n ls' hd hi hs k
theorem k_lstore {me : jM} {pc : Nat} {ls st : List jV} {s : Int → Int → Int} {Q : Option jV → (Int → Int → Int) → Prop} {i : Nat} {x : Int} (ls' : List jV) (hd : decode me.2.2.1 pc = .ok (.lstore i, 2)) (hi : decide (i + 1 < ls.length) && decide (i + 1 < me.2.2.2.1) && jok ls i = true) (hs : (ls.set i (jL x)).set (i + 1) jU = ls') (k : kK me (pc + 2) ls' st s Q) : kK me (pc) ls (jL x :: st) s Q := j_lstore ls' hd hi hs k
theorem k_astore_n {me : jM} {pc : Nat} {ls st : List jV} {s : Int → Int → Int} {Q : Option jV → (Int → Int → Int) → Prop} {i : Fin 4} {x : Int} (ls' : List jV) (hd : decode me.2.2.1 pc = .ok (.astore_n i, 1)) (hi : decide ((i : Nat) < ls.length) && decide ((i : Nat) < me.2.2.2.1) && jok ls (i : Nat) = true) (hs : ls.set (i : Nat) (jR x) = ls') (k : kK me (pc + 1) ls' st s Q) : kK me (pc) ls (jR x :: st) s Q := j_astore_n ls' hd hi hs k
theorem k_astore {me : jM} {pc : Nat} {ls st : List jV} {s : Int → Int → Int} {Q : Option jV → (Int → Int → Int) → Prop} {i : Nat} {x : Int} (ls' : List jV) (hd : decode me.2.2.1 pc = .ok (.astore i, 2)) (hi : decide (i < ls.length) && decide (i < me.2.2.2.1) && jok ls i = true) (hs : ls.set i (jR x) = ls') (k : kK me (pc + 2) ls' st s Q) : kK me (pc) ls (jR x :: st) s Q := j_astore ls' hd hi hs k
theorem k_iinc {me : jM} {pc : Nat} {ls st : List jV} {s : Int → Int → Int} {Q : Option jV → (Int → Int → Int) → Prop} {i : Nat} {d x : Int} (ls' : List jV) (hd : decode me.2.2.1 pc = .ok (.iinc i d, 3)) (hl0 : ls[i]? = some (jI x)) (hi : decide (i < ls.length) && decide (i < me.2.2.2.1) && jok ls i = true) (hs : ls.set i (jI (x + d)) = ls') (k : kK me (pc + 3) ls' st s Q) : kK me (pc) ls (st) s Q := j_iinc ls' hd hl0 hi hs k
theorem k_iadd {me : jM} {pc : Nat} {ls st : List jV} {s : Int → Int → Int} {Q : Option jV → (Int → Int → Int) → Prop} {x y : Int} (hd : decode me.2.2.1 pc = .ok (.iadd, 1)) (k : kK me (pc + 1) ls (jI (x + y) :: st) s Q) : kK me (pc) ls (jI y :: jI x :: st) s Q := j_iadd hd k
theorem k_isub {me : jM} {pc : Nat} {ls st : List jV} {s : Int → Int → Int} {Q : Option jV → (Int → Int → Int) → Prop} {x y : Int} (hd : decode me.2.2.1 pc = .ok (.isub, 1)) (k : kK me (pc + 1) ls (jI (x - y) :: st) s Q) : kK me (pc) ls (jI y :: jI x :: st) s Q := j_isub hd k
theorem k_imul {me : jM} {pc : Nat} {ls st : List jV} {s : Int → Int → Int} {Q : Option jV → (Int → Int → Int) → Prop} {x y : Int} (hd : decode me.2.2.1 pc = .ok (.imul, 1)) (k : kK me (pc + 1) ls (jI (x * y) :: st) s Q) : kK me (pc) ls (jI y :: jI x :: st) s Q := j_imul hd k
theorem k_ladd {me : jM} {pc : Nat} {ls st : List jV} {s : Int → Int → Int} {Q : Option jV → (Int → Int → Int) → Prop} {x y : Int} (hd : decode me.2.2.1 pc = .ok (.ladd, 1)) (k : kK me (pc + 1) ls (jL (x + y) :: st) s Q) : kK me (pc) ls (jL y :: jL x :: st) s Q := j_ladd hd k
theorem k_lsub {me : jM} {pc : Nat} {ls st : List jV} {s : Int → Int → Int} {Q : Option jV → (Int → Int → Int) → Prop} {x y : Int} (hd : decode me.2.2.1 pc = .ok (.lsub, 1)) (k : kK me (pc + 1) ls (jL (x - y) :: st) s Q) : kK me (pc) ls (jL y :: jL x :: st) s Q := j_lsub hd k
theorem k_lmul {me : jM} {pc : Nat} {ls st : List jV} {s : Int → Int → Int} {Q : Option jV → (Int → Int → Int) → Prop} {x y : Int} (hd : decode me.2.2.1 pc = .ok (.lmul, 1)) (k : kK me (pc + 1) ls (jL (x * y) :: st) s Q) : kK me (pc) ls (jL y :: jL x :: st) s Q := j_lmul hd k
theorem k_lneg {me : jM} {pc : Nat} {ls st : List jV} {s : Int → Int → Int} {Q : Option jV → (Int → Int → Int) → Prop} {x : Int} (hd : decode me.2.2.1 pc = .ok (.lneg, 1)) (k : kK me (pc + 1) ls (jL (-x) :: st) s Q) : kK me (pc) ls (jL x :: st) s Q := j_lneg hd k
theorem k_iand {me : jM} {pc : Nat} {ls st : List jV} {s : Int → Int → Int} {Q : Option jV → (Int → Int → Int) → Prop} {x y : Int} (v : Int) (hd : decode me.2.2.1 pc = .ok (.iand, 1)) (hv : Int32.ofInt x &&& Int32.ofInt y = Int32.ofInt v) (k : kK me (pc + 1) ls (jI v :: st) s Q) : kK me (pc) ls (jI y :: jI x :: st) s Q := j_iand v hd hv k
theorem k_ior {me : jM} {pc : Nat} {ls st : List jV} {s : Int → Int → Int} {Q : Option jV → (Int → Int → Int) → Prop} {x y : Int} (v : Int) (hd : decode me.2.2.1 pc = .ok (.ior, 1)) (hv : Int32.ofInt x ||| Int32.ofInt y = Int32.ofInt v) (k : kK me (pc + 1) ls (jI v :: st) s Q) : kK me (pc) ls (jI y :: jI x :: st) s Q := j_ior v hd hv k
theorem k_ixor {me : jM} {pc : Nat} {ls st : List jV} {s : Int → Int → Int} {Q : Option jV → (Int → Int → Int) → Prop} {x y : Int} (v : Int) (hd : decode me.2.2.1 pc = .ok (.ixor, 1)) (hv : Int32.ofInt x ^^^ Int32.ofInt y = Int32.ofInt v) (k : kK me (pc + 1) ls (jI v :: st) s Q) : kK me (pc) ls (jI y :: jI x :: st) s Q := j_ixor v hd hv k
theorem k_ishl {me : jM} {pc : Nat} {ls st : List jV} {s : Int → Int → Int} {Q : Option jV → (Int → Int → Int) → Prop} {x y : Int} (v : Int) (hd : decode me.2.2.1 pc = .ok (.ishl, 1)) (hv : Int32.ofInt x <<< (Int32.ofInt y &&& 31) = Int32.ofInt v) (k : kK me (pc + 1) ls (jI v :: st) s Q) : kK me (pc) ls (jI y :: jI x :: st) s Q := j_ishl v hd hv k
theorem k_ishr {me : jM} {pc : Nat} {ls st : List jV} {s : Int → Int → Int} {Q : Option jV → (Int → Int → Int) → Prop} {x y : Int} (v : Int) (hd : decode me.2.2.1 pc = .ok (.ishr, 1)) (hv : Int32.ofInt x >>> (Int32.ofInt y &&& 31) = Int32.ofInt v) (k : kK me (pc + 1) ls (jI v :: st) s Q) : kK me (pc) ls (jI y :: jI x :: st) s Q := j_ishr v hd hv k
theorem k_land {me : jM} {pc : Nat} {ls st : List jV} {s : Int → Int → Int} {Q : Option jV → (Int → Int → Int) → Prop} {x y : Int} (v : Int) (hd : decode me.2.2.1 pc = .ok (.land, 1)) (hv : Int64.ofInt x &&& Int64.ofInt y = Int64.ofInt v) (k : kK me (pc + 1) ls (jL v :: st) s Q) : kK me (pc) ls (jL y :: jL x :: st) s Q := j_land v hd hv k
theorem k_lor {me : jM} {pc : Nat} {ls st : List jV} {s : Int → Int → Int} {Q : Option jV → (Int → Int → Int) → Prop} {x y : Int} (v : Int) (hd : decode me.2.2.1 pc = .ok (.lor, 1)) (hv : Int64.ofInt x ||| Int64.ofInt y = Int64.ofInt v) (k : kK me (pc + 1) ls (jL v :: st) s Q) : kK me (pc) ls (jL y :: jL x :: st) s Q := j_lor v hd hv k
theorem k_iushr {me : jM} {pc : Nat} {ls st : List jV} {s : Int → Int → Int} {Q : Option jV → (Int → Int → Int) → Prop} {x y : Int} (v : Int) (hd : decode me.2.2.1 pc = .ok (.iushr, 1)) (hv : ((Int32.ofInt x).toUInt32 >>> ((Int32.ofInt y).toUInt32 &&& Int32.toUInt32 31)).toInt32 = Int32.ofInt v) (k : kK me (pc + 1) ls (jI v :: st) s Q) : kK me (pc) ls (jI y :: jI x :: st) s Q := j_iushr v hd hv k
theorem k_lshl {me : jM} {pc : Nat} {ls st : List jV} {s : Int → Int → Int} {Q : Option jV → (Int → Int → Int) → Prop} {x y : Int} (v : Int) (hd : decode me.2.2.1 pc = .ok (.lshl, 1)) (hv : Int64.ofInt x <<< ((Int32.ofInt y).toInt64 &&& 63) = Int64.ofInt v) (k : kK me (pc + 1) ls (jL v :: st) s Q) : kK me (pc) ls (jI y :: jL x :: st) s Q := j_lshl v hd hv k
theorem k_lshr {me : jM} {pc : Nat} {ls st : List jV} {s : Int → Int → Int} {Q : Option jV → (Int → Int → Int) → Prop} {x y : Int} (v : Int) (hd : decode me.2.2.1 pc = .ok (.lshr, 1)) (hv : Int64.ofInt x >>> ((Int32.ofInt y).toInt64 &&& 63) = Int64.ofInt v) (k : kK me (pc + 1) ls (jL v :: st) s Q) : kK me (pc) ls (jI y :: jL x :: st) s Q := j_lshr v hd hv k
theorem k_idiv {me : jM} {pc : Nat} {ls st : List jV} {s : Int → Int → Int} {Q : Option jV → (Int → Int → Int) → Prop} {x y : Int} (hd : decode me.2.2.1 pc = .ok (.idiv, 1)) (hxy : (0 ≤ x ∧ x ≤ 2147483647) ∧ (0 < y ∧ y ≤ 2147483647)) (k : kK me (pc + 1) ls (jI (x / y) :: st) s Q) : kK me (pc) ls (jI y :: jI x :: st) s Q := j_idiv hd hxy k
theorem k_irem {me : jM} {pc : Nat} {ls st : List jV} {s : Int → Int → Int} {Q : Option jV → (Int → Int → Int) → Prop} {x y : Int} (hd : decode me.2.2.1 pc = .ok (.irem, 1)) (hxy : (0 ≤ x ∧ x ≤ 2147483647) ∧ (0 < y ∧ y ≤ 2147483647)) (k : kK me (pc + 1) ls (jI (x % y) :: st) s Q) : kK me (pc) ls (jI y :: jI x :: st) s Q := j_irem hd hxy k
theorem k_ldiv {me : jM} {pc : Nat} {ls st : List jV} {s : Int → Int → Int} {Q : Option jV → (Int → Int → Int) → Prop} {x y : Int} (hd : decode me.2.2.1 pc = .ok (.ldiv, 1)) (hxy : (0 ≤ x ∧ x ≤ 9223372036854775807) ∧ (0 < y ∧ y ≤ 9223372036854775807)) (k : kK me (pc + 1) ls (jL (x / y) :: st) s Q) : kK me (pc) ls (jL y :: jL x :: st) s Q := j_ldiv hd hxy k
theorem k_lrem {me : jM} {pc : Nat} {ls st : List jV} {s : Int → Int → Int} {Q : Option jV → (Int → Int → Int) → Prop} {x y : Int} (hd : decode me.2.2.1 pc = .ok (.lrem, 1)) (hxy : (0 ≤ x ∧ x ≤ 9223372036854775807) ∧ (0 < y ∧ y ≤ 9223372036854775807)) (k : kK me (pc + 1) ls (jL (x % y) :: st) s Q) : kK me (pc) ls (jL y :: jL x :: st) s Q := j_lrem hd hxy k
theorem k_i2l {me : jM} {pc : Nat} {ls st : List jV} {s : Int → Int → Int} {Q : Option jV → (Int → Int → Int) → Prop} {x : Int} (hd : decode me.2.2.1 pc = .ok (.i2l, 1)) (hx : jr32 x) (k : kK me (pc + 1) ls (jL x :: st) s Q) : kK me (pc) ls (jI x :: st) s Q := j_i2l hd hx k
theorem k_l2i {me : jM} {pc : Nat} {ls st : List jV} {s : Int → Int → Int} {Q : Option jV → (Int → Int → Int) → Prop} {x : Int} (hd : decode me.2.2.1 pc = .ok (.l2i, 1)) (k : kK me (pc + 1) ls (jI x :: st) s Q) : kK me (pc) ls (jL x :: st) s Q := j_l2i hd k
theorem k_dup {me : jM} {pc : Nat} {ls st : List jV} {s : Int → Int → Int} {Q : Option jV → (Int → Int → Int) → Prop} {v : jV} (hd : decode me.2.2.1 pc = .ok (.dup, 1)) (hv : jc1 v = true) (k : kK me (pc + 1) ls (v :: v :: st) s Q) : kK me (pc) ls (v :: st) s Q := j_dup hd hv k
theorem k_dup_x1 {me : jM} {pc : Nat} {ls st : List jV} {s : Int → Int → Int} {Q : Option jV → (Int → Int → Int) → Prop} {v w : jV} (hd : decode me.2.2.1 pc = .ok (.dup_x1, 1)) (hv : (jc1 v && jc1 w) = true) (k : kK me (pc + 1) ls (v :: w :: v :: st) s Q) : kK me (pc) ls (v :: w :: st) s Q := j_dup_x1 hd hv k
theorem k_dup2 {me : jM} {pc : Nat} {ls st : List jV} {s : Int → Int → Int} {Q : Option jV → (Int → Int → Int) → Prop} {v w : jV} (hd : decode me.2.2.1 pc = .ok (.dup2, 1)) (hv : (jc1 v && jc1 w) = true) (k : kK me (pc + 1) ls (v :: w :: v :: w :: st) s Q) : kK me (pc) ls (v :: w :: st) s Q := j_dup2 hd hv k
theorem k_icmp_eq {me : jM} {pc : Nat} {ls st : List jV} {s : Int → Int → Int} {Q : Option jV → (Int → Int → Int) → Prop} {x y off : Int} (tgt : Nat) (hd : decode me.2.2.1 pc = .ok (.if_icmp .eq off, 3)) (ht : (pc : Int) + off = (tgt : Int)) (hx : jr32 x) (hy : jr32 y) (kt : x = y → kK me tgt ls st s Q) (kf : ¬ (x = y) → kK me (pc + 3) ls st s Q) : kK me (pc) ls (jI y :: jI x :: st) s Q := j_icmp_eq tgt hd ht hx hy kt kf
theorem k_icmp_ne {me : jM} {pc : Nat} {ls st : List jV} {s : Int → Int → Int} {Q : Option jV → (Int → Int → Int) → Prop} {x y off : Int} (tgt : Nat) (hd : decode me.2.2.1 pc = .ok (.if_icmp .ne off, 3)) (ht : (pc : Int) + off = (tgt : Int)) (hx : jr32 x) (hy : jr32 y) (kt : x ≠ y → kK me tgt ls st s Q) (kf : x = y → kK me (pc + 3) ls st s Q) : kK me (pc) ls (jI y :: jI x :: st) s Q := j_icmp_ne tgt hd ht hx hy kt kf
theorem k_icmp_lt {me : jM} {pc : Nat} {ls st : List jV} {s : Int → Int → Int} {Q : Option jV → (Int → Int → Int) → Prop} {x y off : Int} (tgt : Nat) (hd : decode me.2.2.1 pc = .ok (.if_icmp .lt off, 3)) (ht : (pc : Int) + off = (tgt : Int)) (hx : jr32 x) (hy : jr32 y) (kt : x < y → kK me tgt ls st s Q) (kf : ¬ (x < y) → kK me (pc + 3) ls st s Q) : kK me (pc) ls (jI y :: jI x :: st) s Q := j_icmp_lt tgt hd ht hx hy kt kf
theorem k_icmp_ge {me : jM} {pc : Nat} {ls st : List jV} {s : Int → Int → Int} {Q : Option jV → (Int → Int → Int) → Prop} {x y off : Int} (tgt : Nat) (hd : decode me.2.2.1 pc = .ok (.if_icmp .ge off, 3)) (ht : (pc : Int) + off = (tgt : Int)) (hx : jr32 x) (hy : jr32 y) (kt : y ≤ x → kK me tgt ls st s Q) (kf : ¬ (y ≤ x) → kK me (pc + 3) ls st s Q) : kK me (pc) ls (jI y :: jI x :: st) s Q := j_icmp_ge tgt hd ht hx hy kt kf
theorem k_icmp_gt {me : jM} {pc : Nat} {ls st : List jV} {s : Int → Int → Int} {Q : Option jV → (Int → Int → Int) → Prop} {x y off : Int} (tgt : Nat) (hd : decode me.2.2.1 pc = .ok (.if_icmp .gt off, 3)) (ht : (pc : Int) + off = (tgt : Int)) (hx : jr32 x) (hy : jr32 y) (kt : y < x → kK me tgt ls st s Q) (kf : ¬ (y < x) → kK me (pc + 3) ls st s Q) : kK me (pc) ls (jI y :: jI x :: st) s Q := j_icmp_gt tgt hd ht hx hy kt kf
theorem k_icmp_le {me : jM} {pc : Nat} {ls st : List jV} {s : Int → Int → Int} {Q : Option jV → (Int → Int → Int) → Prop} {x y off : Int} (tgt : Nat) (hd : decode me.2.2.1 pc = .ok (.if_icmp .le off, 3)) (ht : (pc : Int) + off = (tgt : Int)) (hx : jr32 x) (hy : jr32 y) (kt : x ≤ y → kK me tgt ls st s Q) (kf : ¬ (x ≤ y) → kK me (pc + 3) ls st s Q) : kK me (pc) ls (jI y :: jI x :: st) s Q := j_icmp_le tgt hd ht hx hy kt kf
theorem k_if_eq {me : jM} {pc : Nat} {ls st : List jV} {s : Int → Int → Int} {Q : Option jV → (Int → Int → Int) → Prop} {x off : Int} (tgt : Nat) (hd : decode me.2.2.1 pc = .ok (.ifCond .eq off, 3)) (ht : (pc : Int) + off = (tgt : Int)) (hx : jr32 x) (kt : x = 0 → kK me tgt ls st s Q) (kf : ¬ (x = 0) → kK me (pc + 3) ls st s Q) : kK me (pc) ls (jI x :: st) s Q := j_if_eq tgt hd ht hx kt kf
theorem k_if_ne {me : jM} {pc : Nat} {ls st : List jV} {s : Int → Int → Int} {Q : Option jV → (Int → Int → Int) → Prop} {x off : Int} (tgt : Nat) (hd : decode me.2.2.1 pc = .ok (.ifCond .ne off, 3)) (ht : (pc : Int) + off = (tgt : Int)) (hx : jr32 x) (kt : x ≠ 0 → kK me tgt ls st s Q) (kf : x = 0 → kK me (pc + 3) ls st s Q) : kK me (pc) ls (jI x :: st) s Q := j_if_ne tgt hd ht hx kt kf
theorem k_if_lt {me : jM} {pc : Nat} {ls st : List jV} {s : Int → Int → Int} {Q : Option jV → (Int → Int → Int) → Prop} {x off : Int} (tgt : Nat) (hd : decode me.2.2.1 pc = .ok (.ifCond .lt off, 3)) (ht : (pc : Int) + off = (tgt : Int)) (hx : jr32 x) (kt : x < 0 → kK me tgt ls st s Q) (kf : ¬ (x < 0) → kK me (pc + 3) ls st s Q) : kK me (pc) ls (jI x :: st) s Q := j_if_lt tgt hd ht hx kt kf
theorem k_if_ge {me : jM} {pc : Nat} {ls st : List jV} {s : Int → Int → Int} {Q : Option jV → (Int → Int → Int) → Prop} {x off : Int} (tgt : Nat) (hd : decode me.2.2.1 pc = .ok (.ifCond .ge off, 3)) (ht : (pc : Int) + off = (tgt : Int)) (hx : jr32 x) (kt : 0 ≤ x → kK me tgt ls st s Q) (kf : ¬ (0 ≤ x) → kK me (pc + 3) ls st s Q) : kK me (pc) ls (jI x :: st) s Q := j_if_ge tgt hd ht hx kt kf
theorem k_if_gt {me : jM} {pc : Nat} {ls st : List jV} {s : Int → Int → Int} {Q : Option jV → (Int → Int → Int) → Prop} {x off : Int} (tgt : Nat) (hd : decode me.2.2.1 pc = .ok (.ifCond .gt off, 3)) (ht : (pc : Int) + off = (tgt : Int)) (hx : jr32 x) (kt : 0 < x → kK me tgt ls st s Q) (kf : ¬ (0 < x) → kK me (pc + 3) ls st s Q) : kK me (pc) ls (jI x :: st) s Q := j_if_gt tgt hd ht hx kt kf
theorem k_if_le {me : jM} {pc : Nat} {ls st : List jV} {s : Int → Int → Int} {Q : Option jV → (Int → Int → Int) → Prop} {x off : Int} (tgt : Nat) (hd : decode me.2.2.1 pc = .ok (.ifCond .le off, 3)) (ht : (pc : Int) + off = (tgt : Int)) (hx : jr32 x) (kt : x ≤ 0 → kK me tgt ls st s Q) (kf : ¬ (x ≤ 0) → kK me (pc + 3) ls st s Q) : kK me (pc) ls (jI x :: st) s Q := j_if_le tgt hd ht hx kt kf
theorem k_goto {me : jM} {pc : Nat} {ls st : List jV} {s : Int → Int → Int} {Q : Option jV → (Int → Int → Int) → Prop} {off : Int} (tgt : Nat) (hd : decode me.2.2.1 pc = .ok (.goto off, 3)) (ht : (pc : Int) + off = (tgt : Int)) (k : kK me tgt ls st s Q) : kK me pc ls st s Q := j_goto tgt hd ht k
theorem k_lcmp {me : jM} {pc : Nat} {ls st : List jV} {s : Int → Int → Int} {Q : Option jV → (Int → Int → Int) → Prop} {x y : Int} (hd : decode me.2.2.1 pc = .ok (.lcmp, 1)) (hx : jr64 x) (hy : jr64 y) (k : kK me (pc + 1) ls (jI (jcmp x y) :: st) s Q) : kK me (pc) ls (jL y :: jL x :: st) s Q := j_lcmp hd hx hy k
theorem k_lcmp_same {me : jM} {pc : Nat} {ls st : List jV} {s : Int → Int → Int} {Q : Option jV → (Int → Int → Int) → Prop} {x y : Int} (hd : decode me.2.2.1 pc = .ok (.lcmp, 1)) (hxy : x = y) (k : kK me (pc + 1) ls (jI 0 :: st) s Q) : kK me (pc) ls (jL y :: jL x :: st) s Q := j_lcmp_same hd hxy k
theorem k_lcmp_if_lt {me : jM} {pc : Nat} {ls st : List jV} {s : Int → Int → Int} {Q : Option jV → (Int → Int → Int) → Prop} {x y off : Int} (tgt : Nat) (hd : decode me.2.2.1 pc = .ok (.lcmp, 1)) (hd2 : decode me.2.2.1 (pc + 1) = .ok (.ifCond .lt off, 3)) (ht : ((pc + 1 : Nat) : Int) + off = (tgt : Int)) (hx : jr64 x) (hy : jr64 y) (kt : x < y → kK me tgt ls st s Q) (kf : ¬ (x < y) → kK me (pc + 4) ls st s Q) : kK me (pc) ls (jL y :: jL x :: st) s Q := j_lcmp_if_lt tgt hd hd2 ht hx hy kt kf
theorem k_lcmp_if_gt {me : jM} {pc : Nat} {ls st : List jV} {s : Int → Int → Int} {Q : Option jV → (Int → Int → Int) → Prop} {x y off : Int} (tgt : Nat) (hd : decode me.2.2.1 pc = .ok (.lcmp, 1)) (hd2 : decode me.2.2.1 (pc + 1) = .ok (.ifCond .gt off, 3)) (ht : ((pc + 1 : Nat) : Int) + off = (tgt : Int)) (hx : jr64 x) (hy : jr64 y) (kt : y < x → kK me tgt ls st s Q) (kf : ¬ (y < x) → kK me (pc + 4) ls st s Q) : kK me (pc) ls (jL y :: jL x :: st) s Q := j_lcmp_if_gt tgt hd hd2 ht hx hy kt kf
theorem k_lcmp_if_le {me : jM} {pc : Nat} {ls st : List jV} {s : Int → Int → Int} {Q : Option jV → (Int → Int → Int) → Prop} {x y off : Int} (tgt : Nat) (hd : decode me.2.2.1 pc = .ok (.lcmp, 1)) (hd2 : decode me.2.2.1 (pc + 1) = .ok (.ifCond .le off, 3)) (ht : ((pc + 1 : Nat) : Int) + off = (tgt : Int)) (hx : jr64 x) (hy : jr64 y) (kt : x ≤ y → kK me tgt ls st s Q) (kf : ¬ (x ≤ y) → kK me (pc + 4) ls st s Q) : kK me (pc) ls (jL y :: jL x :: st) s Q := j_lcmp_if_le tgt hd hd2 ht hx hy kt kf
theorem k_lcmp_if_ge {me : jM} {pc : Nat} {ls st : List jV} {s : Int → Int → Int} {Q : Option jV → (Int → Int → Int) → Prop} {x y off : Int} (tgt : Nat) (hd : decode me.2.2.1 pc = .ok (.lcmp, 1)) (hd2 : decode me.2.2.1 (pc + 1) = .ok (.ifCond .ge off, 3)) (ht : ((pc + 1 : Nat) : Int) + off = (tgt : Int)) (hx : jr64 x) (hy : jr64 y) (kt : y ≤ x → kK me tgt ls st s Q) (kf : ¬ (y ≤ x) → kK me (pc + 4) ls st s Q) : kK me (pc) ls (jL y :: jL x :: st) s Q := j_lcmp_if_ge tgt hd hd2 ht hx hy kt kf
theorem k_lcmp_if_eq {me : jM} {pc : Nat} {ls st : List jV} {s : Int → Int → Int} {Q : Option jV → (Int → Int → Int) → Prop} {x y off : Int} (tgt : Nat) (hd : decode me.2.2.1 pc = .ok (.lcmp, 1)) (hd2 : decode me.2.2.1 (pc + 1) = .ok (.ifCond .eq off, 3)) (ht : ((pc + 1 : Nat) : Int) + off = (tgt : Int)) (hx : jr64 x) (hy : jr64 y) (kt : x = y → kK me tgt ls st s Q) (kf : ¬ (x = y) → kK me (pc + 4) ls st s Q) : kK me (pc) ls (jL y :: jL x :: st) s Q := j_lcmp_if_eq tgt hd hd2 ht hx hy kt kf
theorem k_lcmp_if_ne {me : jM} {pc : Nat} {ls st : List jV} {s : Int → Int → Int} {Q : Option jV → (Int → Int → Int) → Prop} {x y off : Int} (tgt : Nat) (hd : decode me.2.2.1 pc = .ok (.lcmp, 1)) (hd2 : decode me.2.2.1 (pc + 1) = .ok (.ifCond .ne off, 3)) (ht : ((pc + 1 : Nat) : Int) + off = (tgt : Int)) (hx : jr64 x) (hy : jr64 y) (kt : x ≠ y → kK me tgt ls st s Q) (kf : x = y → kK me (pc + 4) ls st s Q) : kK me (pc) ls (jL y :: jL x :: st) s Q := j_lcmp_if_ne tgt hd hd2 ht hx hy kt kf
theorem k_ireturn {me : jM} {pc : Nat} {ls st : List jV} {s : Int → Int → Int} {Q : Option jV → (Int → Int → Int) → Prop} {x : Int} (hd : decode me.2.2.1 pc = .ok (.ireturn, 1)) (hr : me.2.2.2.2.1 = some .int) (hq : Q (some (jI x)) s) : kK me pc ls [jI x] s Q := j_ireturn (st := []) hd hr ⟨Nat.zero_le _, Nat.zero_le _⟩ ⟨rfl, s, rfl, hq⟩
theorem k_zreturn {me : jM} {pc : Nat} {ls st : List jV} {s : Int → Int → Int} {Q : Option jV → (Int → Int → Int) → Prop} {x : Int} (hd : decode me.2.2.1 pc = .ok (.ireturn, 1)) (hr : me.2.2.2.2.1 = some .boolean) (hx : x = 0 ∨ x = 1) (hq : Q (some (jI x)) s) : kK me pc ls [jI x] s Q := j_zreturn (st := []) hd hr ⟨Nat.zero_le _, Nat.zero_le _⟩ hx ⟨rfl, s, rfl, hq⟩
theorem k_lreturn {me : jM} {pc : Nat} {ls st : List jV} {s : Int → Int → Int} {Q : Option jV → (Int → Int → Int) → Prop} {x : Int} (hd : decode me.2.2.1 pc = .ok (.lreturn, 1)) (hr : me.2.2.2.2.1 = some .long) (hq : Q (some (jL x)) s) : kK me pc ls [jL x] s Q := j_lreturn (st := []) hd hr ⟨Nat.zero_le _, Nat.zero_le _⟩ ⟨rfl, s, rfl, hq⟩
theorem k_return {me : jM} {pc : Nat} {ls st : List jV} {s : Int → Int → Int} {Q : Option jV → (Int → Int → Int) → Prop} (hd : decode me.2.2.1 pc = .ok (.return_, 1)) (hr : me.2.2.2.2.1 = none) (hq : Q none s) : kK me pc ls [] s Q := j_return (st := []) hd hr ⟨Nat.zero_le _, Nat.zero_le _⟩ ⟨rfl, s, rfl, hq⟩
theorem k_geti {me : jM} {pc : Nat} {ls st : List jV} {s : Int → Int → Int} {Q : Option jV → (Int → Int → Int) → Prop} {x : Int} {ci idx j : Nat} {fs : List (Option jV)} (ji : Int) (hd : decode me.2.2.1 pc = .ok (.getfield idx, 3)) (hf : jfd me.1 idx ci j) (hs : jsh x = .inl (ci, fs)) (hx : 0 < x ∧ x ≤ 168) (hv : fs[j]? = some none) (hj : (0 : Int) + (j : Int) = ji) (k : kK me (pc + 3) ls (jI (s x ji) :: st) s Q) : kK me pc ls (jR x :: st) s Q := by
  subst hj
  exact j_get hd hf (fs := jfl 0 fs (s x)) (by show jl1 (jsh x) (s x) = _; rw [hs]; rfl) hx (jfl_none fs 0 (s x) j hv) k
theorem k_getr {me : jM} {pc : Nat} {ls st : List jV} {s : Int → Int → Int} {Q : Option jV → (Int → Int → Int) → Prop} {x : Int} {ci idx j : Nat} {fs : List (Option jV)} {v : jV} (hd : decode me.2.2.1 pc = .ok (.getfield idx, 3)) (hf : jfd me.1 idx ci j) (hs : jsh x = .inl (ci, fs)) (hx : 0 < x ∧ x ≤ 168) (hv : fs[j]? = some (some v)) (k : kK me (pc + 3) ls (v :: st) s Q) : kK me pc ls (jR x :: st) s Q :=
  j_get hd hf (fs := jfl 0 fs (s x)) (by show jl1 (jsh x) (s x) = _; rw [hs]; rfl) hx (jfl_some fs 0 (s x) j v hv) k
theorem k_put {me : jM} {pc : Nat} {ls st : List jV} {s : Int → Int → Int} {Q : Option jV → (Int → Int → Int) → Prop} {x y : Int} {ci idx j : Nat} {fs : List (Option jV)} {C0 : String} {T : u_T} {N : Nat} {ty : Nat → FieldType} (ji : Int) (hd : decode me.2.2.1 pc = .ok (.putfield idx, 3)) (hct : jct ci C0 T N ty) (hjN : j < N) (hlk : Cond.fieldLink me.1 idx (T j).1 (T j).2.1 (T j).2.2.1 ∈ jws) (hfin : (T j).2.2.2 = false) (hty : ty j = .int) (hs : jsh x = .inl (ci, fs)) (hx : 0 < x ∧ x ≤ 168) (hv : fs[j]? = some none) (hj : (0 : Int) + (j : Int) = ji) (k : kK me (pc + 3) ls st (w2 s x ji y) Q) : kK me pc ls (jI y :: jR x :: st) s Q := by
  subst hj
  refine j_put hd hct hjN hlk hfin hty (fs := jfl 0 fs (s x)) (by show jl1 (jsh x) (s x) = _; rw [hs]; rfl) hx (by rw [jfl_len]; exact (List.getElem?_eq_some_iff.mp hv).1) ?_
  rw [jlay_up (i := 0 + (j : Int)) (y := y) (by rw [hs]; exact congrArg (fun l => (.inl (ci, l) : jE)) (jfl_set fs 0 (s x) j y hv))]
  exact k

theorem k_iald {me : jM} {pc : Nat} {ls st : List jV} {s : Int → Int → Int} {Q : Option jV → (Int → Int → Int) → Prop} {x i : Int} {len : Nat} (li : Int) (hd : decode me.2.2.1 pc = .ok (.iaload, 1)) (hs : jsh x = hI len) (hx : 0 < x ∧ x ≤ 168) (hl : (len : Int) = li) (hlen : len < 2147483648) (hi : 0 ≤ i ∧ i < li) (k : kK me (pc + 1) ls (jI (s x i) :: st) s Q) : kK me pc ls (jI i :: jR x :: st) s Q := by
  subst hl
  exact j_iald hd (f := s x) (by show jl1 (jsh x) (s x) = _; rw [hs]; rfl) hx hi hlen k
theorem k_iast {me : jM} {pc : Nat} {ls st : List jV} {s : Int → Int → Int} {Q : Option jV → (Int → Int → Int) → Prop} {x i y : Int} {len : Nat} (li : Int) (hd : decode me.2.2.1 pc = .ok (.iastore, 1)) (hs : jsh x = hI len) (hx : 0 < x ∧ x ≤ 168) (hl : (len : Int) = li) (hlen : len < 2147483648) (hi : 0 ≤ i ∧ i < li) (k : kK me (pc + 1) ls st (w2 s x i y) Q) : kK me pc ls (jI y :: jI i :: jR x :: st) s Q := by
  subst hl
  refine j_iast hd (f := s x) (by show jl1 (jsh x) (s x) = _; rw [hs]; rfl) hx hi hlen ?_
  rw [jlay_up (i := i) (y := y) (by rw [hs]; rfl)]
  exact k
theorem k_lald {me : jM} {pc : Nat} {ls st : List jV} {s : Int → Int → Int} {Q : Option jV → (Int → Int → Int) → Prop} {x i : Int} {len : Nat} (li : Int) (hd : decode me.2.2.1 pc = .ok (.laload, 1)) (hs : jsh x = hL len) (hx : 0 < x ∧ x ≤ 168) (hl : (len : Int) = li) (hlen : len < 2147483648) (hi : 0 ≤ i ∧ i < li) (k : kK me (pc + 1) ls (jL (s x i) :: st) s Q) : kK me pc ls (jI i :: jR x :: st) s Q := by
  subst hl
  exact j_lald hd (f := s x) (by show jl1 (jsh x) (s x) = _; rw [hs]; rfl) hx hi hlen k
theorem k_last {me : jM} {pc : Nat} {ls st : List jV} {s : Int → Int → Int} {Q : Option jV → (Int → Int → Int) → Prop} {x i y : Int} {len : Nat} (li : Int) (hd : decode me.2.2.1 pc = .ok (.lastore, 1)) (hs : jsh x = hL len) (hx : 0 < x ∧ x ≤ 168) (hl : (len : Int) = li) (hlen : len < 2147483648) (hi : 0 ≤ i ∧ i < li) (k : kK me (pc + 1) ls st (w2 s x i y) Q) : kK me pc ls (jL y :: jI i :: jR x :: st) s Q := by
  subst hl
  refine j_last hd (f := s x) (by show jl1 (jsh x) (s x) = _; rw [hs]; rfl) hx hi hlen ?_
  rw [jlay_up (i := i) (y := y) (by rw [hs]; rfl)]
  exact k
theorem k_sald {me : jM} {pc : Nat} {ls st : List jV} {s : Int → Int → Int} {Q : Option jV → (Int → Int → Int) → Prop} {i : Int} (hd : decode me.2.2.1 pc = .ok (.iaload, 1)) (hlen : s 0 0 < 2147483648) (hi : 0 ≤ i ∧ i < s 0 0) (k : kK me (pc + 1) ls (jI (s 0 (i + 1)) :: st) s Q) : kK me pc ls (jI i :: jR 0 :: st) s Q :=
  j_sald hd (f := fun i => s 0 (i + 1)) (len := (s 0 0).toNat) (by show jl1 (jsh 0) (s 0) = _; rw [sh_0]; rfl) ⟨hi.1, by omega⟩ (by omega) k
theorem k_slen {me : jM} {pc : Nat} {ls st : List jV} {s : Int → Int → Int} {Q : Option jV → (Int → Int → Int) → Prop} (hd : decode me.2.2.1 pc = .ok (.arraylength, 1)) (hlen : 0 ≤ s 0 0) (k : kK me (pc + 1) ls (jI (s 0 0) :: st) s Q) : kK me pc ls (jR 0 :: st) s Q := by
  refine j_slen hd (len := (s 0 0).toNat) (f := fun i => s 0 (i + 1)) (by show jl1 (jsh 0) (s 0) = _; rw [sh_0]; rfl) ?_
  rw [show (((s 0 0).toNat : Nat) : Int) = s 0 0 by omega]
  exact k
theorem k_aald {me : jM} {pc : Nat} {ls st : List jV} {s : Int → Int → Int} {Q : Option jV → (Int → Int → Int) → Prop} {x i r : Int} {t len : Nat} {g : Int → Option Int} (li : Int) (hd : decode me.2.2.1 pc = .ok (.aaload, 1)) (hs : jsh x = hQ t len g) (ht : t = 2 ∨ t = 3 ∨ t = 4) (hx : 0 < x ∧ x ≤ 168) (hl : (len : Int) = li) (hlen : len < 2147483648) (hg : g i = some r) (hi : 0 ≤ i ∧ i < li) (k : kK me (pc + 1) ls (jR r :: st) s Q) : kK me pc ls (jI i :: jR x :: st) s Q := by
  subst hl
  exact j_aald hd (by show jl1 (jsh x) (s x) = _; rw [hs]; rfl) ht hx hi hlen hg k
theorem k_alenI {me : jM} {pc : Nat} {ls st : List jV} {s : Int → Int → Int} {Q : Option jV → (Int → Int → Int) → Prop} {x : Int} {len : Nat} (li : Int) (hd : decode me.2.2.1 pc = .ok (.arraylength, 1)) (hs : jsh x = hI len) (hx : 0 < x ∧ x ≤ 168) (hl : (len : Int) = li) (k : kK me (pc + 1) ls (jI li :: st) s Q) : kK me pc ls (jR x :: st) s Q := by
  subst hl
  exact j_alen hd (f := .inl (s x)) (t := 0) (by show jl1 (jsh x) (s x) = _; rw [hs]; rfl) (by omega) hx k
theorem k_alenQ {me : jM} {pc : Nat} {ls st : List jV} {s : Int → Int → Int} {Q : Option jV → (Int → Int → Int) → Prop} {x : Int} {t len : Nat} {g : Int → Option Int} (li : Int) (hd : decode me.2.2.1 pc = .ok (.arraylength, 1)) (hs : jsh x = hQ t len g) (ht : t < 5) (hx : 0 < x ∧ x ≤ 168) (hl : (len : Int) = li) (k : kK me (pc + 1) ls (jI li :: st) s Q) : kK me pc ls (jR x :: st) s Q := by
  subst hl
  exact j_alen hd (f := .inr (.inr g)) (by show jl1 (jsh x) (s x) = _; rw [hs]; rfl) ht hx k
/-- a method z, with these arguments, from s: what it answers and leaves -/
def kM (z : jM) (As : List jV) (s : Int → Int → Int) (rv : Option jV) (sv : Int → Int → Int) : Prop := kK z 0 (jen z.2.2.2.1 As) [] s (fun r s' => r = rv ∧ s' = sv)
def kR (z : jM) (As : List jV) (s : Int → Int → Int) (Q : Option jV → (Int → Int → Int) → Prop) : Prop := kK z 0 (jen z.2.2.2.1 As) [] s Q
theorem kK.mono {me : jM} {pc : Nat} {ls st : List jV} {s : Int → Int → Int} {Q : Option jV → (Int → Int → Int) → Prop} {Q2 : Option jV → (Int → Int → Int) → Prop} (k : kK me pc ls st s Q) (hq : ∀ r s, Q r s → Q2 r s) : kK me pc ls st s Q2 := jJ.mono k (fun r n h q => ⟨q.1, by obtain ⟨-, s', e, q2⟩ := q; exact ⟨s', e, hq _ _ q2⟩⟩)
/-- a call's plain conditions, in one check -/
def jcb (me z : jM) (np : Nat) (As all rest : List jV) : Bool := jrm me z 0 0 && (decide (z.2.2.2.2.2.cells = 0) && (decide (z.2.2.2.2.2.slots = 0) && (decide (As.length = np) && (decide ((rest.map jcat).sum ≤ 8) && (all.all jnu && decide ((jent all).length ≤ z.2.2.2.1))))))

theorem k_invVR {me : jM} {pc : Nat} {ls st : List jV} {s : Int → Int → Int} {Q : Option jV → (Int → Int → Int) → Prop} {z : jM} {idx np : Nat} {ci : Nat} {fs : List (Option jV)} {x : Int} (As rest : List jV) (hd : decode me.2.2.1 pc = .ok (.invokevirtual idx, 3)) (hcm : jcm z np) (hw : Cond.methodLink me.1 idx z.2.1 ∈ jws) (hw2 : Cond.instanceMethod z.2.1 ∈ jws) (hw3 : Cond.selects z.1 z.2.1 z.2.1 ∈ jws) (hc : (vwCl[ci]?).map (fun q => q.1) = some z.1) (hs : jsh x = .inl (ci, fs)) (hx : 0 < x ∧ x ≤ 168) (hb : jcb me z np As (jR x :: As) rest = true) (hst : st = As.reverse ++ jR x :: rest) {Qz : Option jV → (Int → Int → Int) → Prop} (hz : kR z (jR x :: As) s Qz) (kk : ∀ r s', Qz r s' → kK me (pc + 3) ls (r.toList ++ rest) s' Q) : kK me pc ls st s Q := by
  simp only [jcb, Bool.and_eq_true, decide_eq_true_eq] at hb
  obtain ⟨b1, b2, b3, b4, b5, b6, b7⟩ := hb
  refine j_invV As rest hd hcm hw hw2 hw3 hc (fs := jfl 0 fs (s x)) (by show jl1 (jsh x) (s x) = _; rw [hs]; rfl) b1 hst b4 b5 b6 b7 rfl hx hz (fun r n' h' q => ?_)
  obtain ⟨rfl, s', rfl, q⟩ := q
  rw [b2, b3]
  exact kk r s' q
theorem k_invV {me : jM} {pc : Nat} {ls st : List jV} {s : Int → Int → Int} {Q : Option jV → (Int → Int → Int) → Prop} {z : jM} {idx np : Nat} {ci : Nat} {fs : List (Option jV)} {x : Int} (As rest : List jV) (hd : decode me.2.2.1 pc = .ok (.invokevirtual idx, 3)) (hcm : jcm z np) (hw : Cond.methodLink me.1 idx z.2.1 ∈ jws) (hw2 : Cond.instanceMethod z.2.1 ∈ jws) (hw3 : Cond.selects z.1 z.2.1 z.2.1 ∈ jws) (hc : (vwCl[ci]?).map (fun q => q.1) = some z.1) (hs : jsh x = .inl (ci, fs)) (hx : 0 < x ∧ x ≤ 168) (hb : jcb me z np As (jR x :: As) rest = true) (hst : st = As.reverse ++ jR x :: rest) {rv : Option jV} {sv : Int → Int → Int} (hz : kM z (jR x :: As) s rv sv) (kk : kK me (pc + 3) ls (rv.toList ++ rest) sv Q) : kK me pc ls st s Q :=
  k_invVR As rest hd hcm hw hw2 hw3 hc hs hx hb hst hz (fun r s' q => by obtain ⟨rfl, rfl⟩ := q; exact kk)
theorem k_invSR {me : jM} {pc : Nat} {ls st : List jV} {s : Int → Int → Int} {Q : Option jV → (Int → Int → Int) → Prop} {z : jM} {idx np : Nat} (As rest : List jV) (hd : decode me.2.2.1 pc = .ok (.invokestatic idx, 3)) (hcm : jcm z np) (hw : Cond.methodLink me.1 idx z.2.1 ∈ jws) (hw2 : Cond.static z.2.1 ∈ jws) (hb : jcb me z np As As rest = true) (hst : st = As.reverse ++ rest) {Qz : Option jV → (Int → Int → Int) → Prop} (hz : kR z As s Qz) (kk : ∀ r s', Qz r s' → kK me (pc + 3) ls (r.toList ++ rest) s' Q) : kK me pc ls st s Q := by
  simp only [jcb, Bool.and_eq_true, decide_eq_true_eq] at hb
  obtain ⟨b1, b2, b3, b4, b5, b6, b7⟩ := hb
  refine j_invS (x := 0) As rest hd hcm hw hw2 b1 hst b4 b5 b6 b7 rfl hz (fun r n' h' q => ?_)
  obtain ⟨rfl, s', rfl, q⟩ := q
  rw [b2, b3]
  exact kk r s' q
theorem k_invS {me : jM} {pc : Nat} {ls st : List jV} {s : Int → Int → Int} {Q : Option jV → (Int → Int → Int) → Prop} {z : jM} {idx np : Nat} (As rest : List jV) (hd : decode me.2.2.1 pc = .ok (.invokestatic idx, 3)) (hcm : jcm z np) (hw : Cond.methodLink me.1 idx z.2.1 ∈ jws) (hw2 : Cond.static z.2.1 ∈ jws) (hb : jcb me z np As As rest = true) (hst : st = As.reverse ++ rest) {rv : Option jV} {sv : Int → Int → Int} (hz : kM z As s rv sv) (kk : kK me (pc + 3) ls (rv.toList ++ rest) sv Q) : kK me pc ls st s Q :=
  k_invSR As rest hd hcm hw hw2 hb hst hz (fun r s' q => by obtain ⟨rfl, rfl⟩ := q; exact kk)
theorem k_invSNR {me : jM} {pc : Nat} {ls st : List jV} {s : Int → Int → Int} {Q : Option jV → (Int → Int → Int) → Prop} {z : jM} {idx np : Nat} (As rest : List jV) (hd : decode me.2.2.1 pc = .ok (.invokestatic idx, 3)) (hcm : jcm z np) (hw : (me.1, idx, z.2.1) ∈ jnest) (hw2 : Cond.static z.2.1 ∈ jws) (hb : jcb me z np As As rest = true) (hst : st = As.reverse ++ rest) {Qz : Option jV → (Int → Int → Int) → Prop} (hz : kR z As s Qz) (kk : ∀ r s', Qz r s' → kK me (pc + 3) ls (r.toList ++ rest) s' Q) : kK me pc ls st s Q := by
  simp only [jcb, Bool.and_eq_true, decide_eq_true_eq] at hb
  obtain ⟨b1, b2, b3, b4, b5, b6, b7⟩ := hb
  refine j_invSN (x := 0) As rest hd hcm hw hw2 b1 hst b4 b5 b6 b7 rfl hz (fun r n' h' q => ?_)
  obtain ⟨rfl, s', rfl, q⟩ := q
  rw [b2, b3]
  exact kk r s' q
theorem k_invSN {me : jM} {pc : Nat} {ls st : List jV} {s : Int → Int → Int} {Q : Option jV → (Int → Int → Int) → Prop} {z : jM} {idx np : Nat} (As rest : List jV) (hd : decode me.2.2.1 pc = .ok (.invokestatic idx, 3)) (hcm : jcm z np) (hw : (me.1, idx, z.2.1) ∈ jnest) (hw2 : Cond.static z.2.1 ∈ jws) (hb : jcb me z np As As rest = true) (hst : st = As.reverse ++ rest) {rv : Option jV} {sv : Int → Int → Int} (hz : kM z As s rv sv) (kk : kK me (pc + 3) ls (rv.toList ++ rest) sv Q) : kK me pc ls st s Q :=
  k_invSNR As rest hd hcm hw hw2 hb hst hz (fun r s' q => by obtain ⟨rfl, rfl⟩ := q; exact kk)
