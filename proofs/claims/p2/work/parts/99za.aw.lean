/-! PROMISES: what a row of packets has shown so far: begun, OPEN, BROKEN, of each TALK HOUSE, N, how many passed -/
abbrev Aw : Type := (Nat → Bool) × (Nat → Bool) × (Nat → Bool) × (Nat → Int) × (Nat → Int) × (Nat → Int)
def aBg (A : Aw) : Nat → Bool := A.1
def aOp (A : Aw) : Nat → Bool := A.2.1
def aBr (A : Aw) : Nat → Bool := A.2.2.1
def aHo (A : Aw) : Nat → Int := A.2.2.2.1
def aNu (A : Aw) : Nat → Int := A.2.2.2.2.1
def aPa (A : Aw) : Nat → Int := A.2.2.2.2.2
def uB (f : Nat → Bool) (i : Nat) (b : Bool) : Nat → Bool := fun j => if j = i then b else f j
theorem uB_eq (f : Nat → Bool) (i : Nat) (b : Bool) : uB f i b i = b := if_pos rfl
theorem uB_ne {f : Nat → Bool} {i j : Nat} {b : Bool} (h : j ≠ i) : uB f i b j = f j := if_neg h
def aw0 : Aw := (fun _ => false, fun _ => false, fun _ => false, fun _ => 0, fun _ => 0, fun _ => 0)
/-- a packet ended so -/
def awS (A : Aw) (t h k n how : Int) : Aw :=
  if how = 2 then (aBg A, aOp A, uB (aBr A) t.toNat true, aHo A, aNu A, aPa A)
  else if how = 1 then
    (if k = 0 then (uB (aBg A) t.toNat true, uB (aOp A) t.toNat true, aBr A, v_uf (aHo A) t.toNat h, v_uf (aNu A) t.toNat n, v_uf (aPa A) t.toNat (aPa A t.toNat + 1))
     else if k = 2 then (aBg A, uB (aOp A) t.toNat false, aBr A, aHo A, aNu A, v_uf (aPa A) t.toNat (aPa A t.toNat + 1))
     else (aBg A, aOp A, aBr A, aHo A, aNu A, v_uf (aPa A) t.toNat (aPa A t.toNat + 1)))
  else A
/-- how many OPEN ones have a number -/
def cnA (op : Nat → Bool) (f : Nat → Int) (x : Int) : Nat → Int
  | 0 => 0
  | t + 1 => cnA op f x t + (if op t = true ∧ f t = x then 1 else 0)
theorem cnA_rg (op : Nat → Bool) (f : Nat → Int) (x : Int) : ∀ t : Nat, 0 ≤ cnA op f x t ∧ cnA op f x t ≤ t
  | 0 => ⟨Int.le_refl _, Int.le_refl _⟩
  | t + 1 => by
    have ih := cnA_rg op f x t
    unfold cnA
    split <;> omega
theorem cnA_1 {op : Nat → Bool} {f : Nat → Int} {x : Int} {t : Nat} (h : op t = true ∧ f t = x) : cnA op f x (t + 1) = cnA op f x t + 1 := by
  show cnA op f x t + (if op t = true ∧ f t = x then 1 else 0) = _
  rw [if_pos h]
theorem cnA_0 {op : Nat → Bool} {f : Nat → Int} {x : Int} {t : Nat} (h : ¬ (op t = true ∧ f t = x)) : cnA op f x (t + 1) = cnA op f x t := by
  show cnA op f x t + (if op t = true ∧ f t = x then 1 else 0) = _
  rw [if_neg h]
  omega
/-- a packet breaks the PROMISE of a FORM (as the class sees it: A is what is seen behind it) -/
def vioC (A : Aw) (t h k how form N : Int) : Prop := how = 1 ∧
  ((form = 0 ∧ k = 1 ∧ aBg A t.toNat = false) ∨ (form = 1 ∧ N < cnA (aOp A) (aHo A) h 16) ∨ (form = 2 ∧ N < aPa A t.toNat) ∨
   (form = 3 ∧ aOp A t.toNat = true ∧ ∃ s : Nat, s < 16 ∧ s ≠ t.toNat ∧ aOp A s = true ∧ aNu A s = aNu A t.toNat) ∨ (form = 4 ∧ aBr A t.toNat = true))
def awO (j : Nat) (A : Aw) : Prop := ∀ t : Nat, t < 16 → (0 ≤ aHo A t ∧ aHo A t ≤ 3) ∧ (0 ≤ aNu A t ∧ aNu A t ≤ 99) ∧ (0 ≤ aPa A t ∧ aPa A t ≤ j)
/-- as the class has it -/
def b01 (b : Bool) : Int := if b = true then 1 else 0
def RWc (V : v_V) (w : Nat) (A : Aw) : Prop := ((0 ≤ V (154 + 4 * w) 0 ∧ V (154 + 4 * w) 0 < 65536) ∧ (0 ≤ V (154 + 4 * w) 1 ∧ V (154 + 4 * w) 1 < 65536) ∧ (0 ≤ V (154 + 4 * w) 2 ∧ V (154 + 4 * w) 2 < 65536)) ∧
  ∀ t : Nat, t < 16 → V (154 + 4 * w) 0 / 2 ^ t % 2 = b01 (aBg A t) ∧ V (154 + 4 * w) 1 / 2 ^ t % 2 = b01 (aOp A t) ∧ V (154 + 4 * w) 2 / 2 ^ t % 2 = b01 (aBr A t) ∧ V (154 + 4 * w + 1) t = aHo A t ∧ V (154 + 4 * w + 2) t = aNu A t ∧ V (154 + 4 * w + 3) t = aPa A t
theorem RWc_r {V V' : v_V} {w w' : Nat} {A : Aw} (h : RWc V w A) (e0 : V' (154 + 4 * w') 0 = V (154 + 4 * w) 0 ∧ V' (154 + 4 * w') 1 = V (154 + 4 * w) 1 ∧ V' (154 + 4 * w') 2 = V (154 + 4 * w) 2) (e1 : V' (154 + 4 * w' + 1) = V (154 + 4 * w + 1)) (e2 : V' (154 + 4 * w' + 2) = V (154 + 4 * w + 2)) (e3 : V' (154 + 4 * w' + 3) = V (154 + 4 * w + 3)) : RWc V' w' A := by
  unfold RWc
  rw [e0.1, e0.2.1, e0.2.2, e1, e2, e3]
  exact h
theorem b01_1 {b : Bool} (h : b01 b = 1) : b = true := by
  cases b
  · exact absurd h (by decide)
  · rfl
theorem b01_0 {b : Bool} (h : b01 b = 0) : b = false := by
  cases b
  · rfl
  · exact absurd h (by decide)
theorem awO_S {j : Nat} {A : Aw} {t h k n how : Int} (hA : awO j A) (hp : pkO t h k n) : awO (j + 1) (awS A t h k n how) := by
  intro s hs
  have h1 := hA s hs
  have ht := hA t.toNat (by have := hp.1; omega)
  obtain ⟨p1, p2, p3, p4⟩ := hp
  unfold awS
  split
  · exact ⟨h1.1, h1.2.1, h1.2.2.1, by have := h1.2.2.2; show aPa A s ≤ _; omega⟩
  · split
    · have hpa : 0 ≤ v_uf (aPa A) t.toNat (aPa A t.toNat + 1) s ∧ v_uf (aPa A) t.toNat (aPa A t.toNat + 1) s ≤ ((j + 1 : Nat) : Int) := by
        unfold v_uf
        split <;> omega
      split
      · refine ⟨?_, ?_, hpa⟩
        · show 0 ≤ v_uf (aHo A) t.toNat h s ∧ v_uf (aHo A) t.toNat h s ≤ 3
          unfold v_uf
          split <;> omega
        · show 0 ≤ v_uf (aNu A) t.toNat n s ∧ v_uf (aNu A) t.toNat n s ≤ 99
          unfold v_uf
          split <;> omega
      · split
        · exact ⟨h1.1, h1.2.1, hpa⟩
        · exact ⟨h1.1, h1.2.1, hpa⟩
    · exact ⟨h1.1, h1.2.1, h1.2.2.1, by have := h1.2.2.2; omega⟩
