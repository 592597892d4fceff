/-! THE READING OF A TEXT, as a function: the byte at a place, a TERM, a TEST, E (modes 0 F, 1 T, 2 behind an F of T, 3 E, 4 behind a T of E), SUM, ACTS, LINES; codes of terms: numbers, 100 k, 101 h, 102 n, 104 .. 115 the CELLS; signs: 120 .. 122 tests, 123 not, 124 and, 125 or; 126 .. 128 p d b -/
abbrev p_Tk : Type := Int × Int × Int
abbrev p_Ac : Type := Int × List Int
abbrev p_Li : Type := Int × Bool × List p_Tk × List p_Ac
def hr (τ : Nat → Int) (z p : Nat) : Int := if p < z then τ p else -1
def pT (τ : Nat → Int) (z p : Nat) : Int × Nat :=
  if hr τ z p = 107 then (100, p + 1) else if hr τ z p = 104 then (101, p + 1) else if hr τ z p = 110 then (102, p + 1)
  else if hr τ z p = 116 ∨ hr τ z p = 115 ∨ hr τ z p = 103 then
    (if 48 ≤ hr τ z (p + 1) ∧ hr τ z (p + 1) ≤ 51 then ((if hr τ z p = 116 then 104 else if hr τ z p = 115 then 108 else 112) + (hr τ z (p + 1) - 48), p + 2) else (-1, p + 1))
  else if hr τ z p = 48 then (0, p + 1)
  else if 49 ≤ hr τ z p ∧ hr τ z p ≤ 57 then
    (if 48 ≤ hr τ z (p + 1) ∧ hr τ z (p + 1) ≤ 57 then ((hr τ z p - 48) * 10 + (hr τ z (p + 1) - 48), p + 2) else (hr τ z p - 48, p + 1))
  else (-1, p)
def pS (τ : Nat → Int) (z p : Nat) : Option p_Tk × Nat :=
  if (pT τ z p).1 < 0 then (none, (pT τ z p).2)
  else if 60 ≤ hr τ z (pT τ z p).2 ∧ hr τ z (pT τ z p).2 ≤ 62 then
    (if (pT τ z ((pT τ z p).2 + 1)).1 < 0 then (none, (pT τ z ((pT τ z p).2 + 1)).2)
     else (some (hr τ z (pT τ z p).2 + 60, (pT τ z p).1, (pT τ z ((pT τ z p).2 + 1)).1), (pT τ z ((pT τ z p).2 + 1)).2))
  else (none, (pT τ z p).2)
def pX (τ : Nat → Int) (z : Nat) : Nat → Nat → Nat → Nat → List p_Tk → Option (List p_Tk) × Nat
  | 0, _, _, p, _ => (none, p)
  | n + 1, 0, o, p, acc =>
    if hr τ z p = 33 then
      (if o = 5 then (none, p) else match pX τ z n 0 (o + 1) (p + 1) acc with
        | (some l, q) => (some (l ++ [(123, 0, 0)]), q)
        | (none, q) => (none, q))
    else if hr τ z p = 40 then
      (if o = 5 then (none, p) else match pX τ z n 3 (o + 1) (p + 1) acc with
        | (some l, q) => if hr τ z q = 41 then (some l, q + 1) else (none, q)
        | (none, q) => (none, q))
    else match pS τ z p with
      | (some t, q) => (some (acc ++ [t]), q)
      | (none, q) => (none, q)
  | n + 1, 1, o, p, acc => match pX τ z n 0 o p acc with
      | (some l, q) => pX τ z n 2 o q l
      | (none, q) => (none, q)
  | n + 1, 2, o, p, acc =>
    if hr τ z p = 38 then match pX τ z n 0 o (p + 1) acc with
      | (some l, q) => pX τ z n 2 o q (l ++ [(124, 0, 0)])
      | (none, q) => (none, q)
    else (some acc, p)
  | n + 1, 3, o, p, acc => match pX τ z n 1 o p acc with
      | (some l, q) => pX τ z n 4 o q l
      | (none, q) => (none, q)
  | n + 1, _, o, p, acc =>
    if hr τ z p = 124 then match pX τ z n 1 o (p + 1) acc with
      | (some l, q) => pX τ z n 4 o q (l ++ [(125, 0, 0)])
      | (none, q) => (none, q)
    else (some acc, p)
/-- a SUM's terms (one that is taken off: 256 more); behind the 4th it stops, whatever stands there -/
def pM (τ : Nat → Int) (z : Nat) : Nat → Int → Nat → List Int → Option (List Int) × Nat
  | 0, _, p, acc => (some acc, p)
  | k + 1, s, p, acc =>
    if (pT τ z p).1 < 0 then (none, (pT τ z p).2)
    else if k ≠ 0 ∧ (hr τ z (pT τ z p).2 = 43 ∨ hr τ z (pT τ z p).2 = 45) then pM τ z k (if hr τ z (pT τ z p).2 = 45 then 256 else 0) ((pT τ z p).2 + 1) (acc ++ [(pT τ z p).1 + s])
    else (some (acc ++ [(pT τ z p).1 + s]), (pT τ z p).2)
def pA (τ : Nat → Int) (z p : Nat) : Option p_Ac × Nat :=
  if hr τ z p = 112 then (some (126, []), p + 1) else if hr τ z p = 100 then (some (127, []), p + 1) else if hr τ z p = 98 then (some (128, []), p + 1)
  else if hr τ z p = 116 ∨ hr τ z p = 115 ∨ hr τ z p = 103 then
    (if (pT τ z p).1 < 0 then (none, (pT τ z p).2)
     else if hr τ z (pT τ z p).2 = 61 then match pM τ z 4 0 ((pT τ z p).2 + 1) [] with
       | (some l, q) => (some ((pT τ z p).1, l), q)
       | (none, q) => (none, q)
     else (none, (pT τ z p).2))
  else (none, p)
def pAs (τ : Nat → Int) (z : Nat) : Nat → Nat → List p_Ac → Option (List p_Ac) × Nat
  | 0, p, acc => (some acc, p)
  | k + 1, p, acc => match pA τ z p with
    | (some a, q) => if k ≠ 0 ∧ hr τ z q = 44 then pAs τ z k (q + 1) (acc ++ [a]) else (some (acc ++ [a]), q)
    | (none, q) => (none, q)
/-- E, if there is one: at a bracket -/
def pE (τ : Nat → Int) (z p : Nat) : Option (Bool × List p_Tk) × Nat :=
  if hr τ z p = 40 then match pX τ z 1000 3 1 (p + 1) [] with
    | (some l, q) => if hr τ z q = 41 then (some (true, l), q + 1) else (none, q)
    | (none, q) => (none, q)
  else (some (false, []), p)
def pL (τ : Nat → Int) (z p : Nat) : Option p_Li × Nat :=
  if hr τ z p = 42 ∨ (48 ≤ hr τ z p ∧ hr τ z p ≤ 51) then match pE τ z (p + 1) with
    | (some e, q) => if hr τ z q = 58 then (match pAs τ z 5 (q + 1) [] with
      | (some l, q') => (some (if hr τ z p = 42 then 4 else hr τ z p - 48, e.1, e.2, l), q')
      | (none, q') => (none, q')) else (none, q)
    | (none, q) => (none, q)
  else (none, p)
def pLs (τ : Nat → Int) (z : Nat) : Nat → Nat → List p_Li → Option (List p_Li) × Nat
  | 0, p, acc => (some acc, p)
  | k + 1, p, acc => match pL τ z p with
    | (some a, q) => if k ≠ 0 ∧ hr τ z q = 59 then pLs τ z k (q + 1) (acc ++ [a]) else (some (acc ++ [a]), q)
    | (none, q) => (none, q)
/-- a TEXT, or the FAULT -/
def pTx (τ : Nat → Int) (z : Nat) : Option (List p_Li) × Nat := match pLs τ z 8 0 [] with
  | (some l, q) => if q = z then (some l, q) else (none, q)
  | (none, q) => (none, q)
/-! how far it goes -/
theorem hr_le {τ : Nat → Int} {z p : Nat} (h : hr τ z p ≠ -1) : p < z := by
  unfold hr at h
  by_cases h2 : p < z
  · exact h2
  · rw [if_neg h2] at h
    exact absurd rfl h
theorem pT_le (τ : Nat → Int) (z p : Nat) (hp : p ≤ z) : p ≤ (pT τ z p).2 ∧ (pT τ z p).2 ≤ z ∧ ((0 ≤ (pT τ z p).1) → p < (pT τ z p).2) := by
  have h0 : hr τ z p ≠ -1 → p < z := hr_le
  have h1 : hr τ z (p + 1) ≠ -1 → p + 1 < z := hr_le
  unfold pT
  split
  · exact ⟨by simp, by have := h0 (by omega); simp; omega, by simp⟩
  split
  · exact ⟨by simp, by have := h0 (by omega); simp; omega, by simp⟩
  split
  · exact ⟨by simp, by have := h0 (by omega); simp; omega, by simp⟩
  split
  · rename_i hc
    have h2 : p < z := h0 (by omega)
    split
    · have := h1 (by omega)
      exact ⟨by simp, by simp; omega, by simp⟩
    · exact ⟨by simp, by simp; omega, by simp⟩
  split
  · have := h0 (by omega)
    exact ⟨by simp, by simp; omega, by simp⟩
  split
  · have := h0 (by omega)
    split
    · have := h1 (by omega)
      exact ⟨by simp, by simp; omega, by simp⟩
    · exact ⟨by simp, by simp; omega, by simp⟩
  · exact ⟨by simp, by simp; omega, by simp⟩
/-- what a term's code may be -/
def tcd (t : Int) : Prop := (0 ≤ t ∧ t ≤ 102) ∨ (104 ≤ t ∧ t ≤ 115)
theorem pT_cd (τ : Nat → Int) (z p : Nat) (h : 0 ≤ (pT τ z p).1) : tcd (pT τ z p).1 := by
  unfold tcd
  revert h
  unfold pT
  split
  · simp
  split
  · simp
  split
  · simp
  split
  · split
    · intro _
      simp only
      split
      · omega
      · split <;> omega
    · simp
  split
  · simp
  split
  · split <;> (intro _; simp only; omega)
  · simp
theorem pT_cell {τ : Nat → Int} {z p : Nat} (hc : hr τ z p = 116 ∨ hr τ z p = 115 ∨ hr τ z p = 103) (h : 0 ≤ (pT τ z p).1) : 104 ≤ (pT τ z p).1 ∧ (pT τ z p).1 ≤ 115 := by
  revert h
  unfold pT
  rw [if_neg (by omega), if_neg (by omega), if_neg (by omega), if_pos hc]
  split
  · intro _
    simp only
    split
    · omega
    · split <;> omega
  · simp
theorem pT_c1 {τ : Nat → Int} {z p : Nat} (hc : hr τ z p = 116 ∨ hr τ z p = 115 ∨ hr τ z p = 103) (hd : 48 ≤ hr τ z (p + 1) ∧ hr τ z (p + 1) ≤ 51) : pT τ z p = ((if hr τ z p = 116 then 104 else if hr τ z p = 115 then 108 else 112) + (hr τ z (p + 1) - 48), p + 2) := by
  unfold pT
  rw [if_neg (by omega), if_neg (by omega), if_neg (by omega), if_pos hc, if_pos hd]
theorem pT_c0 {τ : Nat → Int} {z p : Nat} (hc : hr τ z p = 116 ∨ hr τ z p = 115 ∨ hr τ z p = 103) (hd : ¬ (48 ≤ hr τ z (p + 1) ∧ hr τ z (p + 1) ≤ 51)) : pT τ z p = (-1, p + 1) := by
  unfold pT
  rw [if_neg (by omega), if_neg (by omega), if_neg (by omega), if_pos hc, if_neg hd]
theorem pT_k {τ : Nat → Int} {z p : Nat} (hc : hr τ z p = 107) : pT τ z p = (100, p + 1) := by
  unfold pT
  rw [if_pos hc]
theorem pT_h {τ : Nat → Int} {z p : Nat} (hc : hr τ z p = 104) : pT τ z p = (101, p + 1) := by
  unfold pT
  rw [if_neg (by omega), if_pos hc]
theorem pT_n {τ : Nat → Int} {z p : Nat} (hc : hr τ z p = 110) : pT τ z p = (102, p + 1) := by
  unfold pT
  rw [if_neg (by omega), if_neg (by omega), if_pos hc]
theorem pT_0 {τ : Nat → Int} {z p : Nat} (hc : hr τ z p = 48) : pT τ z p = (0, p + 1) := by
  unfold pT
  rw [if_neg (by omega), if_neg (by omega), if_neg (by omega), if_neg (by omega), if_pos hc]
theorem pT_2 {τ : Nat → Int} {z p : Nat} (hc : 49 ≤ hr τ z p ∧ hr τ z p ≤ 57) (hd : 48 ≤ hr τ z (p + 1) ∧ hr τ z (p + 1) ≤ 57) : pT τ z p = ((hr τ z p - 48) * 10 + (hr τ z (p + 1) - 48), p + 2) := by
  unfold pT
  rw [if_neg (by omega), if_neg (by omega), if_neg (by omega), if_neg (by omega), if_neg (by omega), if_pos hc, if_pos hd]
theorem pT_1 {τ : Nat → Int} {z p : Nat} (hc : 49 ≤ hr τ z p ∧ hr τ z p ≤ 57) (hd : ¬ (48 ≤ hr τ z (p + 1) ∧ hr τ z (p + 1) ≤ 57)) : pT τ z p = (hr τ z p - 48, p + 1) := by
  unfold pT
  rw [if_neg (by omega), if_neg (by omega), if_neg (by omega), if_neg (by omega), if_neg (by omega), if_pos hc, if_neg hd]
theorem pT_x {τ : Nat → Int} {z p : Nat} (h : ¬ hr τ z p = 107 ∧ ¬ hr τ z p = 104 ∧ ¬ hr τ z p = 110 ∧ ¬ hr τ z p = 116 ∧ ¬ hr τ z p = 115 ∧ ¬ hr τ z p = 103 ∧ ¬ (48 ≤ hr τ z p ∧ hr τ z p ≤ 57)) : pT τ z p = (-1, p) := by
  unfold pT
  rw [if_neg (by omega), if_neg (by omega), if_neg (by omega), if_neg (by omega), if_neg (by omega), if_neg (by omega)]
section PX
variable {τ : Nat → Int} {z n o p : Nat} {acc : List p_Tk}
theorem pX_F : pX τ z (n + 1) 0 o p acc = (if hr τ z p = 33 then
      (if o = 5 then (none, p) else match pX τ z n 0 (o + 1) (p + 1) acc with
        | (some l, q) => (some (l ++ [(123, 0, 0)]), q)
        | (none, q) => (none, q))
    else if hr τ z p = 40 then
      (if o = 5 then (none, p) else match pX τ z n 3 (o + 1) (p + 1) acc with
        | (some l, q) => if hr τ z q = 41 then (some l, q + 1) else (none, q)
        | (none, q) => (none, q))
    else match pS τ z p with
      | (some t, q) => (some (acc ++ [t]), q)
      | (none, q) => (none, q)) := rfl
theorem pX_T : pX τ z (n + 1) 1 o p acc = (match pX τ z n 0 o p acc with
      | (some l, q) => pX τ z n 2 o q l
      | (none, q) => (none, q)) := rfl
theorem pX_Tl : pX τ z (n + 1) 2 o p acc = (if hr τ z p = 38 then match pX τ z n 0 o (p + 1) acc with
      | (some l, q) => pX τ z n 2 o q (l ++ [(124, 0, 0)])
      | (none, q) => (none, q)
    else (some acc, p)) := rfl
theorem pX_E : pX τ z (n + 1) 3 o p acc = (match pX τ z n 1 o p acc with
      | (some l, q) => pX τ z n 4 o q l
      | (none, q) => (none, q)) := rfl
theorem pX_El : pX τ z (n + 1) 4 o p acc = (if hr τ z p = 124 then match pX τ z n 1 o (p + 1) acc with
      | (some l, q) => pX τ z n 4 o q (l ++ [(125, 0, 0)])
      | (none, q) => (none, q)
    else (some acc, p)) := rfl
end PX
