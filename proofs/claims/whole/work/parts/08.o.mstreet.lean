def kdY (c : Int32) : Int32 := if kdF c = -1 then 0 else kdF c
theorem kdY_n {c : Int32} (h1 : ¬ c = 107) (h2 : ¬ c = 104) (h3 : ¬ c = 109) (h4 : ¬ c = 115) (h5 : ¬ c = 110) : kdF c = -1 := by
  unfold kdF
  rw [if_neg h2, if_neg h1, if_neg h3, if_neg h5, if_neg h4]
theorem kdY_z {c : Int32} : kdY c = 0 ↔ kdF c = -1 := by
  unfold kdY kdF
  repeat' split
  all_goals simp_all
  all_goals decide
/-- a house in read -/
def bldY (W : Nat → Int32) (n : Nat) (k t e b : Int32) : Nat → Int32 := upd (upd (upd (upd (upd W (6 + n) k) 2 (nI (n + 1))) (13 + n) t) (20 + n) e) (27 + n) b
theorem sq_sq {r : Int32 × Nat} {k1 k2 : Nat → Int32 × Nat} : sq (sq r k1) k2 = sq r (fun x => sq (k1 x) k2) := by
  unfold sq
  by_cases h : r.1 = 0
  · rw [if_pos h, if_pos h]
  · rw [if_neg h, if_neg h, if_neg h]
theorem sq_0 {r : Int32 × Nat} {k : Nat → Int32 × Nat} (h : r.1 = 0) : sq r k = k r.2 := if_pos h
theorem sq_n {r : Int32 × Nat} {k : Nat → Int32 × Nat} (h : ¬ r.1 = 0) : sq r k = r := if_neg h
/-- a number, then a letter -/
def nb (f : Nat → Int32) (l : Nat) (a b : Int) (c : Int32) (i : Nat) : Int32 × Nat := sq (pN f l a b i) (fun i1 => pB f l c i1)
theorem nb_2 {f : Nat → Int32} {l i : Nat} {a b : Int} {c : Int32} (h : (nb f l a b c i).1 = 0) : (nb f l a b c i).2 = tkE f l (tkE f l i) := by
  by_cases h1 : numP f l i a b
  · have e : nb f l a b c i = pB f l c (tkE f l i) := pN_y h1
    rw [e] at h ⊢
    unfold pB at *
    by_cases h2 : tok f l (tkE f l i) = c
    · rw [if_pos h2]
    · rw [if_neg h2] at h
      exact absurd h one_ne
  · have e : nb f l a b c i = (if tok f l i = 256 then 2 else 1, i) := pN_n h1
    rw [e] at h
    have q : ¬ (if tok f l i = 256 then (2 : Int32) else 1) = 0 := by
      split <;> decide
    exact absurd h q
theorem houP_nb {f : Nat → Int32} {l i : Nat} : houP f l i = sq (nb f l 0 20 44 i) (fun i2 => sq (nb f l 1 9 44 i2) (fun i4 => nb f l 0 9 59 i4)) := by
  unfold houP nb
  simp only [sq_sq]
theorem lawP_nb {f : Nat → Int32} {l i : Nat} : lawP f l i = sq (pB f l 103 i) (fun i1 => sq (nb f l 1 9 44 i1) (fun i3 => nb f l 0 99 59 i3)) := by
  unfold lawP nb
  simp only [sq_sq]
