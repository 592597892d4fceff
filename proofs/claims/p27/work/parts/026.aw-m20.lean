section
/-! PROMISES: what a row of packets has shown so far: begun, OPEN, BROKEN, of each TALK HOUSE, N, how many passed -/
abbrev Aw : Type := (Nat → Bool) × (Nat → Bool) × (Nat → Bool) × (Nat → Int) × (Nat → Int) × (Nat → Int)
def aBg (A : Aw) : Nat → Bool := A.1
def aOp (A : Aw) : Nat → Bool := A.2.1
def aBr (A : Aw) : Nat → Bool := A.2.2.1
def aHo (A : Aw) : Nat → Int := A.2.2.2.1
def aNu (A : Aw) : Nat → Int := A.2.2.2.2.1
def aPa (A : Aw) : Nat → Int := A.2.2.2.2.2
def uB (f : Nat → Bool) (i : Nat) (b : Bool) : Nat → Bool := fun j => if j = i then b else f j
theorem uB_eq (f : Nat → Bool) (i : Nat) (b : Bool) : uB f i b i = b := if_pos rfl
theorem uB_ne {f : Nat → Bool} {i j : Nat} {b : Bool} (h : j ≠ i) : uB f i b j = f j := if_neg h
def aw0 : Aw := (fun _ => false, fun _ => false, fun _ => false, fun _ => 0, fun _ => 0, fun _ => 0)
/-- a packet ended so -/
def awS (A : Aw) (t h k n how : Int) : Aw :=
  if how = 2 then (aBg A, aOp A, uB (aBr A) t.toNat true, aHo A, aNu A, aPa A)
  else if how = 1 then
    (if k = 0 then (uB (aBg A) t.toNat true, uB (aOp A) t.toNat true, aBr A, v_uf (aHo A) t.toNat h, v_uf (aNu A) t.toNat n, v_uf (aPa A) t.toNat (aPa A t.toNat + 1))
     else if k = 2 then (aBg A, uB (aOp A) t.toNat false, aBr A, aHo A, aNu A, v_uf (aPa A) t.toNat (aPa A t.toNat + 1))
     else (aBg A, aOp A, aBr A, aHo A, aNu A, v_uf (aPa A) t.toNat (aPa A t.toNat + 1)))
  else A
/-- how many OPEN ones have a number -/
def cnA (op : Nat → Bool) (f : Nat → Int) (x : Int) : Nat → Int
  | 0 => 0
  | t + 1 => cnA op f x t + (if op t = true ∧ f t = x then 1 else 0)
theorem cnA_rg (op : Nat → Bool) (f : Nat → Int) (x : Int) : ∀ t : Nat, 0 ≤ cnA op f x t ∧ cnA op f x t ≤ t
  | 0 => ⟨Int.le_refl _, Int.le_refl _⟩
  | t + 1 => by
    have ih := cnA_rg op f x t
    unfold cnA
    split <;> omega
theorem cnA_1 {op : Nat → Bool} {f : Nat → Int} {x : Int} {t : Nat} (h : op t = true ∧ f t = x) : cnA op f x (t + 1) = cnA op f x t + 1 := by
  show cnA op f x t + (if op t = true ∧ f t = x then 1 else 0) = _
  rw [if_pos h]
theorem cnA_0 {op : Nat → Bool} {f : Nat → Int} {x : Int} {t : Nat} (h : ¬ (op t = true ∧ f t = x)) : cnA op f x (t + 1) = cnA op f x t := by
  show cnA op f x t + (if op t = true ∧ f t = x then 1 else 0) = _
  rw [if_neg h]
  omega
/-- a packet breaks the PROMISE of a FORM (as the class sees it: A is what is seen behind it) -/
def vioC (A : Aw) (t h k how form N : Int) : Prop := how = 1 ∧
  ((form = 0 ∧ k = 1 ∧ aBg A t.toNat = false) ∨ (form = 1 ∧ N < cnA (aOp A) (aHo A) h 16) ∨ (form = 2 ∧ N < aPa A t.toNat) ∨
   (form = 3 ∧ aOp A t.toNat = true ∧ ∃ s : Nat, s < 16 ∧ s ≠ t.toNat ∧ aOp A s = true ∧ aNu A s = aNu A t.toNat) ∨ (form = 4 ∧ aBr A t.toNat = true))
def awO (j : Nat) (A : Aw) : Prop := ∀ t : Nat, t < 16 → (0 ≤ aHo A t ∧ aHo A t ≤ 3) ∧ (0 ≤ aNu A t ∧ aNu A t ≤ 99) ∧ (0 ≤ aPa A t ∧ aPa A t ≤ j)
/-- as the class has it -/
def b01 (b : Bool) : Int := if b = true then 1 else 0
def RWc (V : v_V) (w : Nat) (A : Aw) : Prop := ((0 ≤ V (154 + 4 * w) 0 ∧ V (154 + 4 * w) 0 < 65536) ∧ (0 ≤ V (154 + 4 * w) 1 ∧ V (154 + 4 * w) 1 < 65536) ∧ (0 ≤ V (154 + 4 * w) 2 ∧ V (154 + 4 * w) 2 < 65536)) ∧
  ∀ t : Nat, t < 16 → V (154 + 4 * w) 0 / 2 ^ t % 2 = b01 (aBg A t) ∧ V (154 + 4 * w) 1 / 2 ^ t % 2 = b01 (aOp A t) ∧ V (154 + 4 * w) 2 / 2 ^ t % 2 = b01 (aBr A t) ∧ V (154 + 4 * w + 1) t = aHo A t ∧ V (154 + 4 * w + 2) t = aNu A t ∧ V (154 + 4 * w + 3) t = aPa A t
theorem RWc_r {V V' : v_V} {w w' : Nat} {A : Aw} (h : RWc V w A) (e0 : V' (154 + 4 * w') 0 = V (154 + 4 * w) 0 ∧ V' (154 + 4 * w') 1 = V (154 + 4 * w) 1 ∧ V' (154 + 4 * w') 2 = V (154 + 4 * w) 2) (e1 : V' (154 + 4 * w' + 1) = V (154 + 4 * w + 1)) (e2 : V' (154 + 4 * w' + 2) = V (154 + 4 * w + 2)) (e3 : V' (154 + 4 * w' + 3) = V (154 + 4 * w + 3)) : RWc V' w' A := by
  unfold RWc
  rw [e0.1, e0.2.1, e0.2.2, e1, e2, e3]
  exact h
theorem b01_1 {b : Bool} (h : b01 b = 1) : b = true := by
  cases b
  · exact absurd h (by decide)
  · rfl
theorem b01_0 {b : Bool} (h : b01 b = 0) : b = false := by
  cases b
  · rfl
  · exact absurd h (by decide)
theorem awO_S {j : Nat} {A : Aw} {t h k n how : Int} (hA : awO j A) (hp : pkO t h k n) : awO (j + 1) (awS A t h k n how) := by
  intro s hs
  have h1 := hA s hs
  have ht := hA t.toNat (by have := hp.1; omega)
  obtain ⟨p1, p2, p3, p4⟩ := hp
  unfold awS
  split
  · exact ⟨h1.1, h1.2.1, h1.2.2.1, by have := h1.2.2.2; show aPa A s ≤ _; omega⟩
  · split
    · have hpa : 0 ≤ v_uf (aPa A) t.toNat (aPa A t.toNat + 1) s ∧ v_uf (aPa A) t.toNat (aPa A t.toNat + 1) s ≤ ((j + 1 : Nat) : Int) := by
        unfold v_uf
        split <;> omega
      split
      · refine ⟨?_, ?_, hpa⟩
        · show 0 ≤ v_uf (aHo A) t.toNat h s ∧ v_uf (aHo A) t.toNat h s ≤ 3
          unfold v_uf
          split <;> omega
        · show 0 ≤ v_uf (aNu A) t.toNat n s ∧ v_uf (aNu A) t.toNat n s ≤ 99
          unfold v_uf
          split <;> omega
      · split
        · exact ⟨h1.1, h1.2.1, hpa⟩
        · exact ⟨h1.1, h1.2.1, hpa⟩
    · exact ⟨h1.1, h1.2.1, h1.2.2.1, by have := h1.2.2.2; omega⟩
end
section
/-! what a row has shown: the class -/
theorem ww_ref {S : m_H} (hC : ClF S) {i : Nat} (h : i < 4) : ∃ vs, ce S 118 26 vs ∧ m_nth vs i = some (.ref (154 + 4 * i)) :=
  match i, h with
  | 0, _ => ⟨_, hC 118 _ _ rfl, rfl⟩
  | 1, _ => ⟨_, hC 118 _ _ rfl, rfl⟩
  | 2, _ => ⟨_, hC 118 _ _ rfl, rfl⟩
  | 3, _ => ⟨_, hC 118 _ _ rfl, rfl⟩
  | n + 4, h => absurd h (by omega)
theorem ww_ob {S : m_H} (hC : ClF S) {i : Nat} (h : i < 4) : ce S (154 + 4 * i) 8 [.int 0, .int 0, .int 0, .ref (154 + 4 * i + 1), .ref (154 + 4 * i + 2), .ref (154 + 4 * i + 3)] :=
  match i, h with
  | 0, _ => hC 154 _ _ rfl
  | 1, _ => hC 158 _ _ rfl
  | 2, _ => hC 162 _ _ rfl
  | 3, _ => hC 166 _ _ rfl
  | n + 4, h => absurd h (by omega)
theorem ww_a1 {S : m_H} (hC : ClF S) {i : Nat} (h : i < 4) : v_ia S (154 + 4 * i + 1) 20 16 :=
  match i, h with
  | 0, _ => cl_ia hC rfl
  | 1, _ => cl_ia hC rfl
  | 2, _ => cl_ia hC rfl
  | 3, _ => cl_ia hC rfl
  | n + 4, h => absurd h (by omega)
theorem ww_a2 {S : m_H} (hC : ClF S) {i : Nat} (h : i < 4) : v_ia S (154 + 4 * i + 2) 20 16 :=
  match i, h with
  | 0, _ => cl_ia hC rfl
  | 1, _ => cl_ia hC rfl
  | 2, _ => cl_ia hC rfl
  | 3, _ => cl_ia hC rfl
  | n + 4, h => absurd h (by omega)
theorem ww_a3 {S : m_H} (hC : ClF S) {i : Nat} (h : i < 4) : v_ia S (154 + 4 * i + 3) 20 16 :=
  match i, h with
  | 0, _ => cl_ia hC rfl
  | 1, _ => cl_ia hC rfl
  | 2, _ => cl_ia hC rfl
  | 3, _ => cl_ia hC rfl
  | n + 4, h => absurd h (by omega)
theorem mm_ref {S : m_H} (hC : ClF S) {i : Nat} (h : i < 16) : ∃ vs, ce S 117 25 vs ∧ m_nth vs i = some (.ref (122 + 2 * i)) :=
  match i, h with
  | 0, _ => ⟨_, hC 117 _ _ rfl, rfl⟩
  | 1, _ => ⟨_, hC 117 _ _ rfl, rfl⟩
  | 2, _ => ⟨_, hC 117 _ _ rfl, rfl⟩
  | 3, _ => ⟨_, hC 117 _ _ rfl, rfl⟩
  | 4, _ => ⟨_, hC 117 _ _ rfl, rfl⟩
  | 5, _ => ⟨_, hC 117 _ _ rfl, rfl⟩
  | 6, _ => ⟨_, hC 117 _ _ rfl, rfl⟩
  | 7, _ => ⟨_, hC 117 _ _ rfl, rfl⟩
  | 8, _ => ⟨_, hC 117 _ _ rfl, rfl⟩
  | 9, _ => ⟨_, hC 117 _ _ rfl, rfl⟩
  | 10, _ => ⟨_, hC 117 _ _ rfl, rfl⟩
  | 11, _ => ⟨_, hC 117 _ _ rfl, rfl⟩
  | 12, _ => ⟨_, hC 117 _ _ rfl, rfl⟩
  | 13, _ => ⟨_, hC 117 _ _ rfl, rfl⟩
  | 14, _ => ⟨_, hC 117 _ _ rfl, rfl⟩
  | 15, _ => ⟨_, hC 117 _ _ rfl, rfl⟩
  | n + 16, h => absurd h (by omega)
theorem mm_ob {S : m_H} (hC : ClF S) {i : Nat} (h : i < 16) : MeS S (122 + 2 * i) (123 + 2 * i) :=
  match i, h with
  | 0, _ => ⟨hC 122 _ _ rfl, cl_ia hC rfl⟩
  | 1, _ => ⟨hC 124 _ _ rfl, cl_ia hC rfl⟩
  | 2, _ => ⟨hC 126 _ _ rfl, cl_ia hC rfl⟩
  | 3, _ => ⟨hC 128 _ _ rfl, cl_ia hC rfl⟩
  | 4, _ => ⟨hC 130 _ _ rfl, cl_ia hC rfl⟩
  | 5, _ => ⟨hC 132 _ _ rfl, cl_ia hC rfl⟩
  | 6, _ => ⟨hC 134 _ _ rfl, cl_ia hC rfl⟩
  | 7, _ => ⟨hC 136 _ _ rfl, cl_ia hC rfl⟩
  | 8, _ => ⟨hC 138 _ _ rfl, cl_ia hC rfl⟩
  | 9, _ => ⟨hC 140 _ _ rfl, cl_ia hC rfl⟩
  | 10, _ => ⟨hC 142 _ _ rfl, cl_ia hC rfl⟩
  | 11, _ => ⟨hC 144 _ _ rfl, cl_ia hC rfl⟩
  | 12, _ => ⟨hC 146 _ _ rfl, cl_ia hC rfl⟩
  | 13, _ => ⟨hC 148 _ _ rfl, cl_ia hC rfl⟩
  | 14, _ => ⟨hC 150 _ _ rfl, cl_ia hC rfl⟩
  | 15, _ => ⟨hC 152 _ _ rfl, cl_ia hC rfl⟩
  | n + 16, h => absurd h (by omega)
section
variable {X : Nat → List Int32} {u w : Nat} {S : m_H} {V : v_V} {K : v_K}
set_option maxRecDepth 100000 in
set_option maxHeartbeats 4000000 in
theorem cw_become (hC : ClF S) {i : Nat} (hi : i < 3) {A : Aw} (h : RWc V i A) (k : ∀ V2, RWc V2 (i + 1) A → (∀ q, (q < 154 + 4 * (i + 1) ∨ 154 + 4 * (i + 1) + 3 < q) → V2 q = V q) → K u w none S V2) : y_R X 1 65 u w [.ref (154 + 4 * (i + 1)), .ref (154 + 4 * i)] S V K := by
  refine y_ent (lv' := [(0, .ref (154 + 4 * (i + 1))), (1, .ref (154 + 4 * i))]) (Nat.le_of_ble_eq_true rfl) rfl ?_
  refine y_ld (x := .ref (154 + 4 * (i + 1))) rfl rfl (fun d => rfl) ?_
  refine y_ld (x := .ref (154 + 4 * i)) rfl rfl (fun d => rfl) ?_
  refine y_gI (i := 0) (e := (V (154 + 4 * i) 0)) rfl rfl rfl (ww_ob hC (i := i) (by omega)) rfl rfl ?_
  refine y_pI (i := 0) rfl rfl rfl (ww_ob hC (i := i + 1) (by omega)) rfl rfl ?_
  refine y_ld (x := .ref (154 + 4 * (i + 1))) rfl rfl (fun d => rfl) ?_
  refine y_ld (x := .ref (154 + 4 * i)) rfl rfl (fun d => rfl) ?_
  refine y_gI (i := 1) (e := (V (154 + 4 * i) 1)) rfl rfl rfl (ww_ob hC (i := i) (by omega)) rfl (by rw [v_up_ne (by omega)]) ?_
  refine y_pI (i := 1) rfl rfl rfl (ww_ob hC (i := i + 1) (by omega)) rfl rfl ?_
  refine y_ld (x := .ref (154 + 4 * (i + 1))) rfl rfl (fun d => rfl) ?_
  refine y_ld (x := .ref (154 + 4 * i)) rfl rfl (fun d => rfl) ?_
  refine y_gI (i := 2) (e := (V (154 + 4 * i) 2)) rfl rfl rfl (ww_ob hC (i := i) (by omega)) rfl (by rw [v_up_ne (by omega), v_up_ne (by omega)]) ?_
  refine y_pI (i := 2) rfl rfl rfl (ww_ob hC (i := i + 1) (by omega)) rfl rfl ?_
  refine y_ld (x := .ref (154 + 4 * i)) rfl rfl (fun d => rfl) ?_
  refine y_gR (i := 3) rfl rfl rfl (ww_ob hC (i := i) (by omega)) rfl ?_
  refine y_ic rfl rfl ?_
  refine y_ld (x := .ref (154 + 4 * (i + 1))) rfl rfl (fun d => rfl) ?_
  refine y_gR (i := 3) rfl rfl rfl (ww_ob hC (i := i + 1) (by omega)) rfl ?_
  refine y_ic rfl rfl ?_
  refine y_bi rfl rfl (by decide) ?_
  refine y_acF rfl rfl rfl (ww_a1 hC (i := i) (by omega)) (ww_a1 hC (i := i + 1) (by omega)) rfl (by decide) (Nat.le_of_ble_eq_true rfl) ?_
  refine y_ld (x := .ref (154 + 4 * i)) rfl rfl (fun d => rfl) ?_
  refine y_gR (i := 4) rfl rfl rfl (ww_ob hC (i := i) (by omega)) rfl ?_
  refine y_ic rfl rfl ?_
  refine y_ld (x := .ref (154 + 4 * (i + 1))) rfl rfl (fun d => rfl) ?_
  refine y_gR (i := 4) rfl rfl rfl (ww_ob hC (i := i + 1) (by omega)) rfl ?_
  refine y_ic rfl rfl ?_
  refine y_bi rfl rfl (by decide) ?_
  refine y_acF rfl rfl rfl (ww_a2 hC (i := i) (by omega)) (ww_a2 hC (i := i + 1) (by omega)) rfl (by decide) (Nat.le_of_ble_eq_true rfl) ?_
  refine y_ld (x := .ref (154 + 4 * i)) rfl rfl (fun d => rfl) ?_
  refine y_gR (i := 5) rfl rfl rfl (ww_ob hC (i := i) (by omega)) rfl ?_
  refine y_ic rfl rfl ?_
  refine y_ld (x := .ref (154 + 4 * (i + 1))) rfl rfl (fun d => rfl) ?_
  refine y_gR (i := 5) rfl rfl rfl (ww_ob hC (i := i + 1) (by omega)) rfl ?_
  refine y_ic rfl rfl ?_
  refine y_bi rfl rfl (by decide) ?_
  refine y_acF rfl rfl rfl (ww_a3 hC (i := i) (by omega)) (ww_a3 hC (i := i + 1) (by omega)) rfl (by decide) (Nat.le_of_ble_eq_true rfl) ?_
  refine y_ret rfl (fun d => rfl) ?_
  refine k _ ?_ (fun q hq => ?_)
  · refine RWc_r h ⟨?_, ?_, ?_⟩ ?_ ?_ ?_
    · rw [v_ur_ne (show 154 + 4 * (i + 1) ≠ 154 + 4 * (i + 1) + 3 by omega), v_ur_ne (show 154 + 4 * (i + 1) ≠ 154 + 4 * (i + 1) + 2 by omega), v_ur_ne (show 154 + 4 * (i + 1) ≠ 154 + 4 * (i + 1) + 1 by omega), v_up_ni (show 0 ≠ 2 by decide), v_up_ni (show 0 ≠ 1 by decide), v_up_eq]
    · rw [v_ur_ne (show 154 + 4 * (i + 1) ≠ 154 + 4 * (i + 1) + 3 by omega), v_ur_ne (show 154 + 4 * (i + 1) ≠ 154 + 4 * (i + 1) + 2 by omega), v_ur_ne (show 154 + 4 * (i + 1) ≠ 154 + 4 * (i + 1) + 1 by omega), v_up_ni (show 1 ≠ 2 by decide), v_up_eq]
    · rw [v_ur_ne (show 154 + 4 * (i + 1) ≠ 154 + 4 * (i + 1) + 3 by omega), v_ur_ne (show 154 + 4 * (i + 1) ≠ 154 + 4 * (i + 1) + 2 by omega), v_ur_ne (show 154 + 4 * (i + 1) ≠ 154 + 4 * (i + 1) + 1 by omega), v_up_eq]
    · rw [v_ur_ne (show 154 + 4 * (i + 1) + 1 ≠ 154 + 4 * (i + 1) + 3 by omega), v_ur_ne (show 154 + 4 * (i + 1) + 1 ≠ 154 + 4 * (i + 1) + 2 by omega), v_ur_eq, v_up_ne (show 154 + 4 * i + 1 ≠ 154 + 4 * (i + 1) by omega), v_up_ne (show 154 + 4 * i + 1 ≠ 154 + 4 * (i + 1) by omega), v_up_ne (show 154 + 4 * i + 1 ≠ 154 + 4 * (i + 1) by omega)]
    · rw [v_ur_ne (show 154 + 4 * (i + 1) + 2 ≠ 154 + 4 * (i + 1) + 3 by omega), v_ur_eq, v_ur_ne (show 154 + 4 * i + 2 ≠ 154 + 4 * (i + 1) + 1 by omega), v_up_ne (show 154 + 4 * i + 2 ≠ 154 + 4 * (i + 1) by omega), v_up_ne (show 154 + 4 * i + 2 ≠ 154 + 4 * (i + 1) by omega), v_up_ne (show 154 + 4 * i + 2 ≠ 154 + 4 * (i + 1) by omega)]
    · rw [v_ur_eq, v_ur_ne (show 154 + 4 * i + 3 ≠ 154 + 4 * (i + 1) + 2 by omega), v_ur_ne (show 154 + 4 * i + 3 ≠ 154 + 4 * (i + 1) + 1 by omega), v_up_ne (show 154 + 4 * i + 3 ≠ 154 + 4 * (i + 1) by omega), v_up_ne (show 154 + 4 * i + 3 ≠ 154 + 4 * (i + 1) by omega), v_up_ne (show 154 + 4 * i + 3 ≠ 154 + 4 * (i + 1) by omega)]
  · rw [v_ur_ne (by omega), v_ur_ne (by omega), v_ur_ne (by omega), v_up_ne (by omega), v_up_ne (by omega), v_up_ne (by omega)]
set_option maxRecDepth 100000 in
set_option maxHeartbeats 4000000 in
theorem lp_opens (hC : ClF S) {i : Nat} (hi : i < 4) {A : Aw} {j : Nat} (h : RWc V i A) (hA : awO j A) {x N : Int} (hx : 0 ≤ x ∧ x ≤ 3) (hN : 0 ≤ N ∧ N ≤ 99) (k1 : N < cnA (aOp A) (aHo A) x 16 → K u w (some (iv 1)) S V) (k0 : ¬ N < cnA (aOp A) (aHo A) x 16 → K u w (some (iv 0)) S V) {F : Nat} : ∀ (m : Nat) (t : Nat), 16 - t < m → (t ≤ 16) → y_E X 0 67 (40 * m + F) u w 5 [(0, .ref (154 + 4 * i)), (1, iv x), (2, iv N), (3, iv (cnA (aOp A) (aHo A) x t)), (4, iv (t : Int))] [] S V K := by
  intro m
  induction m with
  | zero => intros; omega
  | succ m ih =>
    intro t hm hI 
    refine y_mono (F' := (40 * m + F) + 40) ?_ (by omega)
    refine y_ld (x := iv (t : Int)) rfl rfl (fun d => rfl) ?_
    refine y_bi rfl rfl (by decide) ?_
    refine y_jge rfl rfl rfl (by omega) (fun g1 => ?_) (fun g1 => ?_)
    · obtain rfl : t = 16 := by omega
      have hcr := cnA_rg (aOp A) (aHo A) x 16
      refine y_lv (l' := [(0, .ref (154 + 4 * i)), (1, iv x), (2, iv N), (3, iv (cnA (aOp A) (aHo A) x 16)), (4, iv ((16 : Nat) : Int))]) rfl ⟨rfl, rfl, rfl, rfl, rfl, trivial⟩ ?_
      refine y_ld (x := iv (cnA (aOp A) (aHo A) x 16)) rfl rfl (fun d => rfl) ?_
      refine y_ld (x := iv N) rfl rfl (fun d => rfl) ?_
      refine y_jle rfl rfl rfl (by omega) (fun g2 => ?_) (fun g2 => ?_)
      · refine y_ic rfl rfl ?_
        refine y_rI rfl (by decide) ?_
        exact k0 (by omega)
      · refine y_ic rfl rfl ?_
        refine y_go rfl rfl ?_
        refine y_rI rfl (by decide) ?_
        exact k1 (by omega)
    · obtain ⟨⟨r1, r2, r3⟩, h2⟩ := h
      obtain ⟨f1, f2, f3, f4, f5, f6⟩ := h2 t (by omega)
      obtain ⟨a1, a2, a3⟩ := hA t (by omega)
      have hp2 := v_p2 t
      have hp3 : (2 : Int) ^ t ≤ 32768 := z_p2le (by omega)
      cases ho : aOp A t
      · have hd : V (154 + 4 * i) 1 / 2 ^ t % 2 = 0 := f2.trans (by rw [ho]; rfl)
        refine y_ld (x := .ref (154 + 4 * i)) rfl rfl (fun d => rfl) ?_
        refine y_gI (i := 1) (e := (V (154 + 4 * i) 1)) rfl rfl rfl (ww_ob hC (i := i) (by omega)) rfl rfl ?_
        refine y_ic rfl rfl ?_
        refine y_ld (x := iv (t : Int)) rfl rfl (fun d => rfl) ?_
        refine y_op (z := (2 ^ t)) rfl rfl (fun d => rfl) (v_shl1 (k := (t : Int)) (by omega)) ?_
        refine y_op (z := 0) rfl rfl (fun d => rfl) ((v_and2 (x := V (154 + 4 * i) 1) (k := t) (by omega) (by omega)).trans (by rw [hd, Int.mul_zero])) ?_
        refine y_zeq rfl rfl rfl (by decide) (fun g3 => ?_) (fun g3 => absurd g3 (by decide))
        refine y_inc (z := ((t + 1 : Nat) : Int)) (lv' := [(4, iv ((t + 1 : Nat) : Int)), (0, .ref (154 + 4 * i)), (1, iv x), (2, iv N), (3, iv (cnA (aOp A) (aHo A) x t))]) rfl rfl rfl (by omega) rfl ?_
        refine y_go rfl rfl ?_
        refine y_lv (l' := [(0, .ref (154 + 4 * i)), (1, iv x), (2, iv N), (3, iv (cnA (aOp A) (aHo A) x t)), (4, iv ((t + 1 : Nat) : Int))]) rfl ⟨rfl, rfl, rfl, rfl, rfl, trivial⟩ ?_
        rw [show cnA (aOp A) (aHo A) x t = cnA (aOp A) (aHo A) x (t + 1) from (cnA_0 (fun q => by rw [ho] at q; exact absurd q.1 (by decide))).symm]
        exact y_mono (ih (t + 1) (by omega) (by omega)) (by omega)
      · have hd : V (154 + 4 * i) 1 / 2 ^ t % 2 = 1 := f2.trans (by rw [ho]; rfl)
        refine y_ld (x := .ref (154 + 4 * i)) rfl rfl (fun d => rfl) ?_
        refine y_gI (i := 1) (e := (V (154 + 4 * i) 1)) rfl rfl rfl (ww_ob hC (i := i) (by omega)) rfl rfl ?_
        refine y_ic rfl rfl ?_
        refine y_ld (x := iv (t : Int)) rfl rfl (fun d => rfl) ?_
        refine y_op (z := (2 ^ t)) rfl rfl (fun d => rfl) (v_shl1 (k := (t : Int)) (by omega)) ?_
        refine y_op (z := (2 ^ t)) rfl rfl (fun d => rfl) ((v_and2 (x := V (154 + 4 * i) 1) (k := t) (by omega) (by omega)).trans (by rw [hd, Int.mul_one])) ?_
        refine y_zeq rfl rfl rfl (by omega) (fun g4 => absurd g4 (by omega)) (fun g4 => ?_)
        refine y_ld (x := .ref (154 + 4 * i)) rfl rfl (fun d => rfl) ?_
        refine y_gR (i := 3) rfl rfl rfl (ww_ob hC (i := i) (by omega)) rfl ?_
        refine y_ld (x := iv (t : Int)) rfl rfl (fun d => rfl) ?_
        refine y_ild (x := (aHo A t)) (q := t) rfl rfl (ww_a1 hC (i := i) (by omega)) (by omega) (by decide) (by omega) f4 ?_
        refine y_ld (x := iv x) rfl rfl (fun d => rfl) ?_
        refine y_jne rfl rfl rfl (by omega) (fun g5 => ?_) (fun g5 => ?_)
        · refine y_inc (z := ((t + 1 : Nat) : Int)) (lv' := [(4, iv ((t + 1 : Nat) : Int)), (0, .ref (154 + 4 * i)), (1, iv x), (2, iv N), (3, iv (cnA (aOp A) (aHo A) x t))]) rfl rfl rfl (by omega) rfl ?_
          refine y_go rfl rfl ?_
          refine y_lv (l' := [(0, .ref (154 + 4 * i)), (1, iv x), (2, iv N), (3, iv (cnA (aOp A) (aHo A) x t)), (4, iv ((t + 1 : Nat) : Int))]) rfl ⟨rfl, rfl, rfl, rfl, rfl, trivial⟩ ?_
          rw [show cnA (aOp A) (aHo A) x t = cnA (aOp A) (aHo A) x (t + 1) from (cnA_0 (fun q => by omega)).symm]
          exact y_mono (ih (t + 1) (by omega) (by omega)) (by omega)
        · refine y_inc (z := (cnA (aOp A) (aHo A) x t + 1)) (lv' := [(3, iv (cnA (aOp A) (aHo A) x t + 1)), (0, .ref (154 + 4 * i)), (1, iv x), (2, iv N), (4, iv (t : Int))]) rfl rfl rfl (by omega) rfl ?_
          refine y_inc (z := ((t + 1 : Nat) : Int)) (lv' := [(4, iv ((t + 1 : Nat) : Int)), (3, iv (cnA (aOp A) (aHo A) x t + 1)), (0, .ref (154 + 4 * i)), (1, iv x), (2, iv N)]) rfl rfl rfl (by omega) rfl ?_
          refine y_go rfl rfl ?_
          refine y_lv (l' := [(0, .ref (154 + 4 * i)), (1, iv x), (2, iv N), (3, iv (cnA (aOp A) (aHo A) x t + 1)), (4, iv ((t + 1 : Nat) : Int))]) rfl ⟨rfl, rfl, rfl, rfl, rfl, trivial⟩ ?_
          rw [show cnA (aOp A) (aHo A) x t + 1 = cnA (aOp A) (aHo A) x (t + 1) from (cnA_1 ⟨ho, by omega⟩).symm]
          exact y_mono (ih (t + 1) (by omega) (by omega)) (by omega)
set_option maxRecDepth 100000 in
set_option maxHeartbeats 4000000 in
theorem cw_opens (hC : ClF S) {i : Nat} (hi : i < 4) {A : Aw} {j : Nat} (h : RWc V i A) (hA : awO j A) {x N : Int} (hx : 0 ≤ x ∧ x ≤ 3) (hN : 0 ≤ N ∧ N ≤ 99) (k1 : N < cnA (aOp A) (aHo A) x 16 → K u w (some (iv 1)) S V) (k0 : ¬ N < cnA (aOp A) (aHo A) x 16 → K u w (some (iv 0)) S V) : y_R X 1 67 u w [.ref (154 + 4 * i), iv x, iv N] S V K := by
  refine y_ent (lv' := [(0, .ref (154 + 4 * i)), (1, iv x), (2, iv N)]) (Nat.le_of_ble_eq_true rfl) rfl ?_
  refine y_ic rfl rfl ?_
  refine y_st (lv' := [(3, iv 0), (0, .ref (154 + 4 * i)), (1, iv x), (2, iv N)]) rfl rfl (fun d => rfl) ?_
  refine y_ic rfl rfl ?_
  refine y_st (lv' := [(4, iv 0), (3, iv 0), (0, .ref (154 + 4 * i)), (1, iv x), (2, iv N)]) rfl rfl (fun d => rfl) ?_
  refine y_lv (l' := [(0, .ref (154 + 4 * i)), (1, iv x), (2, iv N), (3, iv (cnA (aOp A) (aHo A) x 0)), (4, iv ((0 : Nat) : Int))]) rfl ⟨rfl, rfl, rfl, rfl, rfl, trivial⟩ ?_
  exact y_mono (lp_opens (F := 100) hC hi h hA hx hN k1 k0 17 0 (by omega) (by omega)) (by decide)
set_option maxRecDepth 100000 in
set_option maxHeartbeats 4000000 in
theorem lp_twice (hC : ClF S) {i : Nat} (hi : i < 4) {A : Aw} {j : Nat} (h : RWc V i A) (hA : awO j A) {x : Nat} (hx : x < 16) (hox : aOp A x = true) (hnx : V (154 + 4 * i + 2) x = aNu A x ∧ 0 ≤ aNu A x ∧ aNu A x ≤ 99) (k1 : (aOp A x = true ∧ ∃ s : Nat, s < 16 ∧ s ≠ x ∧ aOp A s = true ∧ aNu A s = aNu A x) → K u w (some (iv 1)) S V) (k0 : ¬ (aOp A x = true ∧ ∃ s : Nat, s < 16 ∧ s ≠ x ∧ aOp A s = true ∧ aNu A s = aNu A x) → K u w (some (iv 0)) S V) {F : Nat} : ∀ (m : Nat) (t : Nat), 16 - t < m → (t ≤ 16) → (∀ s : Nat, s < t → s ≠ x → aOp A s = true → aNu A s ≠ aNu A x) → y_E X 0 68 (60 * m + F) u w 15 [(0, .ref (154 + 4 * i)), (1, iv (x : Int)), (2, iv (t : Int))] [] S V K := by
  intro m
  induction m with
  | zero => intros; omega
  | succ m ih =>
    intro t hm hI hJ 
    refine y_mono (F' := (60 * m + F) + 60) ?_ (by omega)
    refine y_ld (x := iv (t : Int)) rfl rfl (fun d => rfl) ?_
    refine y_bi rfl rfl (by decide) ?_
    refine y_jge rfl rfl rfl (by omega) (fun g1 => ?_) (fun g1 => ?_)
    · refine y_ic rfl rfl ?_
      refine y_rI rfl (by decide) ?_
      exact k0 (fun q => by obtain ⟨-, s, h5, h6, h7, h8⟩ := q; exact hJ s (by omega) h6 h7 h8)
    · refine y_ld (x := iv (t : Int)) rfl rfl (fun d => rfl) ?_
      refine y_ld (x := iv (x : Int)) rfl rfl (fun d => rfl) ?_
      refine y_jeq rfl rfl rfl (by omega) (fun g2 => ?_) (fun g2 => ?_)
      · refine y_ic rfl rfl ?_
        refine y_st (lv' := [(3, iv 0), (0, .ref (154 + 4 * i)), (1, iv (x : Int)), (2, iv (t : Int))]) rfl rfl (fun d => rfl) ?_
        refine y_ld (x := iv 0) rfl rfl (fun d => rfl) ?_
        refine y_zeq rfl rfl rfl (by decide) (fun g3 => ?_) (fun g3 => absurd g3 (by decide))
        refine y_inc (z := ((t + 1 : Nat) : Int)) (lv' := [(2, iv ((t + 1 : Nat) : Int)), (3, iv 0), (0, .ref (154 + 4 * i)), (1, iv (x : Int))]) rfl rfl rfl (by omega) rfl ?_
        refine y_go rfl rfl ?_
        refine y_lv (l' := [(0, .ref (154 + 4 * i)), (1, iv (x : Int)), (2, iv ((t + 1 : Nat) : Int))]) rfl ⟨rfl, rfl, rfl, trivial⟩ ?_
        refine y_mono (ih (t + 1) (by omega) (by omega) (fun s hs h5 h6 => ?_)) (by omega)
        rcases (show s < t ∨ s = t by omega) with h7 | h7
        · exact hJ s h7 h5 h6
        · subst h7
          exact absurd (show s = x by omega) h5
      · obtain ⟨⟨r1, r2, r3⟩, h2⟩ := h
        obtain ⟨f1, f2, f3, f4, f5, f6⟩ := h2 t (by omega)
        obtain ⟨a1, a2, a3⟩ := hA t (by omega)
        have hp2 := v_p2 t
        have hp3 : (2 : Int) ^ t ≤ 32768 := z_p2le (by omega)
        cases ho : aOp A t
        · have hd : V (154 + 4 * i) 1 / 2 ^ t % 2 = 0 := f2.trans (by rw [ho]; rfl)
          refine y_ld (x := .ref (154 + 4 * i)) rfl rfl (fun d => rfl) ?_
          refine y_gI (i := 1) (e := (V (154 + 4 * i) 1)) rfl rfl rfl (ww_ob hC (i := i) (by omega)) rfl rfl ?_
          refine y_ic rfl rfl ?_
          refine y_ld (x := iv (t : Int)) rfl rfl (fun d => rfl) ?_
          refine y_op (z := (2 ^ t)) rfl rfl (fun d => rfl) (v_shl1 (k := (t : Int)) (by omega)) ?_
          refine y_op (z := 0) rfl rfl (fun d => rfl) ((v_and2 (x := V (154 + 4 * i) 1) (k := t) (by omega) (by omega)).trans (by rw [hd, Int.mul_zero])) ?_
          refine y_zeq rfl rfl rfl (by decide) (fun g4 => ?_) (fun g4 => absurd g4 (by decide))
          refine y_ic rfl rfl ?_
          refine y_st (lv' := [(3, iv 0), (0, .ref (154 + 4 * i)), (1, iv (x : Int)), (2, iv (t : Int))]) rfl rfl (fun d => rfl) ?_
          refine y_ld (x := iv 0) rfl rfl (fun d => rfl) ?_
          refine y_zeq rfl rfl rfl (by decide) (fun g5 => ?_) (fun g5 => absurd g5 (by decide))
          refine y_inc (z := ((t + 1 : Nat) : Int)) (lv' := [(2, iv ((t + 1 : Nat) : Int)), (3, iv 0), (0, .ref (154 + 4 * i)), (1, iv (x : Int))]) rfl rfl rfl (by omega) rfl ?_
          refine y_go rfl rfl ?_
          refine y_lv (l' := [(0, .ref (154 + 4 * i)), (1, iv (x : Int)), (2, iv ((t + 1 : Nat) : Int))]) rfl ⟨rfl, rfl, rfl, trivial⟩ ?_
          refine y_mono (ih (t + 1) (by omega) (by omega) (fun s hs h5 h6 => ?_)) (by omega)
          rcases (show s < t ∨ s = t by omega) with h7 | h7
          · exact hJ s h7 h5 h6
          · subst h7
            rw [ho] at h6; exact absurd h6 (by decide)
        · have hd : V (154 + 4 * i) 1 / 2 ^ t % 2 = 1 := f2.trans (by rw [ho]; rfl)
          refine y_ld (x := .ref (154 + 4 * i)) rfl rfl (fun d => rfl) ?_
          refine y_gI (i := 1) (e := (V (154 + 4 * i) 1)) rfl rfl rfl (ww_ob hC (i := i) (by omega)) rfl rfl ?_
          refine y_ic rfl rfl ?_
          refine y_ld (x := iv (t : Int)) rfl rfl (fun d => rfl) ?_
          refine y_op (z := (2 ^ t)) rfl rfl (fun d => rfl) (v_shl1 (k := (t : Int)) (by omega)) ?_
          refine y_op (z := (2 ^ t)) rfl rfl (fun d => rfl) ((v_and2 (x := V (154 + 4 * i) 1) (k := t) (by omega) (by omega)).trans (by rw [hd, Int.mul_one])) ?_
          refine y_zeq rfl rfl rfl (by omega) (fun g6 => absurd g6 (by omega)) (fun g6 => ?_)
          refine y_ic rfl rfl ?_
          refine y_go rfl rfl ?_
          refine y_st (lv' := [(3, iv 1), (0, .ref (154 + 4 * i)), (1, iv (x : Int)), (2, iv (t : Int))]) rfl rfl (fun d => rfl) ?_
          refine y_ld (x := iv 1) rfl rfl (fun d => rfl) ?_
          refine y_zeq rfl rfl rfl (by decide) (fun g7 => absurd g7 (by decide)) (fun g7 => ?_)
          refine y_ld (x := .ref (154 + 4 * i)) rfl rfl (fun d => rfl) ?_
          refine y_gR (i := 4) rfl rfl rfl (ww_ob hC (i := i) (by omega)) rfl ?_
          refine y_ld (x := iv (t : Int)) rfl rfl (fun d => rfl) ?_
          refine y_ild (x := (aNu A t)) (q := t) rfl rfl (ww_a2 hC (i := i) (by omega)) (by omega) (by decide) (by omega) f5 ?_
          refine y_ld (x := .ref (154 + 4 * i)) rfl rfl (fun d => rfl) ?_
          refine y_gR (i := 4) rfl rfl rfl (ww_ob hC (i := i) (by omega)) rfl ?_
          refine y_ld (x := iv (x : Int)) rfl rfl (fun d => rfl) ?_
          refine y_ild (x := (aNu A x)) (q := x) rfl rfl (ww_a2 hC (i := i) (by omega)) (by omega) (by decide) (by omega) hnx.1 ?_
          refine y_jne rfl rfl rfl (by omega) (fun g8 => ?_) (fun g8 => ?_)
          · refine y_inc (z := ((t + 1 : Nat) : Int)) (lv' := [(2, iv ((t + 1 : Nat) : Int)), (3, iv 1), (0, .ref (154 + 4 * i)), (1, iv (x : Int))]) rfl rfl rfl (by omega) rfl ?_
            refine y_go rfl rfl ?_
            refine y_lv (l' := [(0, .ref (154 + 4 * i)), (1, iv (x : Int)), (2, iv ((t + 1 : Nat) : Int))]) rfl ⟨rfl, rfl, rfl, trivial⟩ ?_
            refine y_mono (ih (t + 1) (by omega) (by omega) (fun s hs h5 h6 => ?_)) (by omega)
            rcases (show s < t ∨ s = t by omega) with h7 | h7
            · exact hJ s h7 h5 h6
            · subst h7
              intro h8; omega
          · refine y_ic rfl rfl ?_
            refine y_rI rfl (by decide) ?_
            exact k1 ⟨hox, t, by omega, by omega, ho, by omega⟩
set_option maxRecDepth 100000 in
set_option maxHeartbeats 4000000 in
theorem cw_twice (hC : ClF S) {i : Nat} (hi : i < 4) {A : Aw} {j : Nat} (h : RWc V i A) (hA : awO j A) {x : Nat} (hx : x < 16) (k1 : (aOp A x = true ∧ ∃ s : Nat, s < 16 ∧ s ≠ x ∧ aOp A s = true ∧ aNu A s = aNu A x) → K u w (some (iv 1)) S V) (k0 : ¬ (aOp A x = true ∧ ∃ s : Nat, s < 16 ∧ s ≠ x ∧ aOp A s = true ∧ aNu A s = aNu A x) → K u w (some (iv 0)) S V) : y_R X 1 68 u w [.ref (154 + 4 * i), iv (x : Int)] S V K := by
  refine y_ent (lv' := [(0, .ref (154 + 4 * i)), (1, iv (x : Int))]) (Nat.le_of_ble_eq_true rfl) rfl ?_
  have h9 := h
  obtain ⟨⟨r1, r2, r3⟩, h2⟩ := h9
  obtain ⟨f1, f2, f3, f4, f5, f6⟩ := h2 x (by omega)
  obtain ⟨a1, a2, a3⟩ := hA x (by omega)
  have hp2 := v_p2 x
  have hp3 : (2 : Int) ^ x ≤ 32768 := z_p2le (by omega)
  cases ho : aOp A x
  · have hd : V (154 + 4 * i) 1 / 2 ^ x % 2 = 0 := f2.trans (by rw [ho]; rfl)
    refine y_ld (x := .ref (154 + 4 * i)) rfl rfl (fun d => rfl) ?_
    refine y_gI (i := 1) (e := (V (154 + 4 * i) 1)) rfl rfl rfl (ww_ob hC (i := i) (by omega)) rfl rfl ?_
    refine y_ic rfl rfl ?_
    refine y_ld (x := iv (x : Int)) rfl rfl (fun d => rfl) ?_
    refine y_op (z := (2 ^ x)) rfl rfl (fun d => rfl) (v_shl1 (k := (x : Int)) (by omega)) ?_
    refine y_op (z := 0) rfl rfl (fun d => rfl) ((v_and2 (x := V (154 + 4 * i) 1) (k := x) (by omega) (by omega)).trans (by rw [hd, Int.mul_zero])) ?_
    refine y_zne rfl rfl rfl (by decide) (fun g1 => absurd g1 (by decide)) (fun g1 => ?_)
    refine y_ic rfl rfl ?_
    refine y_rI rfl (by decide) ?_
    exact k0 (fun q => by rw [ho] at q; exact absurd q.1 (by decide))
  · have hd : V (154 + 4 * i) 1 / 2 ^ x % 2 = 1 := f2.trans (by rw [ho]; rfl)
    refine y_ld (x := .ref (154 + 4 * i)) rfl rfl (fun d => rfl) ?_
    refine y_gI (i := 1) (e := (V (154 + 4 * i) 1)) rfl rfl rfl (ww_ob hC (i := i) (by omega)) rfl rfl ?_
    refine y_ic rfl rfl ?_
    refine y_ld (x := iv (x : Int)) rfl rfl (fun d => rfl) ?_
    refine y_op (z := (2 ^ x)) rfl rfl (fun d => rfl) (v_shl1 (k := (x : Int)) (by omega)) ?_
    refine y_op (z := (2 ^ x)) rfl rfl (fun d => rfl) ((v_and2 (x := V (154 + 4 * i) 1) (k := x) (by omega) (by omega)).trans (by rw [hd, Int.mul_one])) ?_
    refine y_zne rfl rfl rfl (by omega) (fun g2 => ?_) (fun g2 => absurd g2 (by omega))
    refine y_ic rfl rfl ?_
    refine y_st (lv' := [(2, iv 0), (0, .ref (154 + 4 * i)), (1, iv (x : Int))]) rfl rfl (fun d => rfl) ?_
    refine y_lv (l' := [(0, .ref (154 + 4 * i)), (1, iv (x : Int)), (2, iv ((0 : Nat) : Int))]) rfl ⟨rfl, rfl, rfl, trivial⟩ ?_
    exact y_mono (lp_twice (F := 100) hC hi h hA hx ho ⟨f5, a2⟩ k1 k0 17 0 (by omega) (by omega) (fun s hs => absurd hs (by omega))) (by decide)
end
end
section
/-! a packet is seen: the class -/
theorem b01_u1 (f : Nat → Bool) (c t : Nat) {x : Int} (h : x = b01 (f t)) : (if t = c then 1 else x) = b01 (uB f c true t) := by
  unfold uB
  by_cases ht : t = c
  · rw [if_pos ht, if_pos ht]; rfl
  · rw [if_neg ht, if_neg ht]; exact h
theorem b01_u0 (f : Nat → Bool) (c t : Nat) {x : Int} (h : x = b01 (f t)) : (if t = c then 0 else x) = b01 (uB f c false t) := by
  unfold uB
  by_cases ht : t = c
  · rw [if_pos ht, if_pos ht]; rfl
  · rw [if_neg ht, if_neg ht]; exact h
section RWS
variable {V : v_V} {i : Nat} {A : Aw} {a h κ n : Int}
theorem RWs_b (hR : RWc V i A) (ha : 0 ≤ a ∧ a < 16) : RWc (v_up V (154 + 4 * i) 2 (v_o2 (V (154 + 4 * i) 2) a.toNat)) i (awS A a h κ n 2) := by
  obtain ⟨⟨r0, r1, r2⟩, hb⟩ := hR
  have e : awS A a h κ n 2 = (aBg A, aOp A, uB (aBr A) a.toNat true, aHo A, aNu A, aPa A) := if_pos rfl
  rw [e]
  refine ⟨⟨by rw [v_up_ni (by decide)]; exact r0, by rw [v_up_ni (by decide)]; exact r1, by rw [v_up_eq]; exact v_o2_lt16 r2 (by omega)⟩, fun t ht => ?_⟩
  obtain ⟨b0, b1, b2, b3, b4, b5⟩ := hb t ht
  rw [v_up_ni (show 0 ≠ 2 by decide), v_up_ni (show 1 ≠ 2 by decide), v_up_eq, v_o2_bit r2.1, v_up_ne (by omega), v_up_ne (by omega), v_up_ne (by omega)]
  exact ⟨b0, b1, b01_u1 _ _ _ b2, b3, b4, b5⟩
theorem RWs_p (hR : RWc V i A) (ha : 0 ≤ a ∧ a < 16) : RWc (v_up V (154 + 4 * i + 3) a.toNat (aPa A a.toNat + 1)) i (aBg A, aOp A, aBr A, aHo A, aNu A, v_uf (aPa A) a.toNat (aPa A a.toNat + 1)) := by
  obtain ⟨⟨r0, r1, r2⟩, hb⟩ := hR
  unfold RWc
  rw [v_up_ne (show 154 + 4 * i ≠ 154 + 4 * i + 3 by omega)]
  refine ⟨⟨r0, r1, r2⟩, fun t ht => ?_⟩
  obtain ⟨b0, b1, b2, b3, b4, b5⟩ := hb t ht
  rw [v_up_ne (show 154 + 4 * i + 1 ≠ 154 + 4 * i + 3 by omega), v_up_ne (show 154 + 4 * i + 2 ≠ 154 + 4 * i + 3 by omega), v_up_row]
  refine ⟨b0, b1, b2, b3, b4, ?_⟩
  show v_uf (V (154 + 4 * i + 3)) a.toNat _ t = v_uf (aPa A) a.toNat _ t
  unfold v_uf
  split
  · rfl
  · exact b5
theorem RWs_0 (hR : RWc V i A) (ha : 0 ≤ a ∧ a < 16) {x0 x1 : Int} (e0 : V (154 + 4 * i) 0 = x0) (e1 : V (154 + 4 * i) 1 = x1) : RWc (v_up (v_up (v_up (v_up V (154 + 4 * i) 0 (v_o2 x0 a.toNat)) (154 + 4 * i) 1 (v_o2 x1 a.toNat)) (154 + 4 * i + 1) a.toNat h) (154 + 4 * i + 2) a.toNat n) i (uB (aBg A) a.toNat true, uB (aOp A) a.toNat true, aBr A, v_uf (aHo A) a.toNat h, v_uf (aNu A) a.toNat n, aPa A) := by
  subst e0 e1
  obtain ⟨⟨r0, r1, r2⟩, hb⟩ := hR
  unfold RWc
  rw [v_up_ne (show 154 + 4 * i ≠ 154 + 4 * i + 2 by omega), v_up_ne (show 154 + 4 * i ≠ 154 + 4 * i + 1 by omega), v_up_ni (show 0 ≠ 1 by decide), v_up_eq, v_up_eq, v_up_ni (show 2 ≠ 1 by decide), v_up_ni (show 2 ≠ 0 by decide)]
  refine ⟨⟨v_o2_lt16 r0 (by omega), v_o2_lt16 r1 (by omega), r2⟩, fun t ht => ?_⟩
  obtain ⟨b0, b1, b2, b3, b4, b5⟩ := hb t ht
  rw [v_o2_bit r0.1, v_o2_bit r1.1, v_up_ne (show 154 + 4 * i + 1 ≠ 154 + 4 * i + 2 by omega), v_up_row, v_up_row, v_up_ne (show 154 + 4 * i + 1 ≠ 154 + 4 * i by omega), v_up_ne (show 154 + 4 * i + 1 ≠ 154 + 4 * i by omega), v_up_ne (show 154 + 4 * i + 2 ≠ 154 + 4 * i + 1 by omega), v_up_ne (show 154 + 4 * i + 2 ≠ 154 + 4 * i by omega), v_up_ne (show 154 + 4 * i + 2 ≠ 154 + 4 * i by omega),
    v_up_ne (show 154 + 4 * i + 3 ≠ 154 + 4 * i + 2 by omega), v_up_ne (show 154 + 4 * i + 3 ≠ 154 + 4 * i + 1 by omega), v_up_ne (show 154 + 4 * i + 3 ≠ 154 + 4 * i by omega), v_up_ne (show 154 + 4 * i + 3 ≠ 154 + 4 * i by omega)]
  refine ⟨b01_u1 _ _ _ b0, b01_u1 _ _ _ b1, b2, ?_, ?_, b5⟩
  · show v_uf (V (154 + 4 * i + 1)) a.toNat _ t = v_uf (aHo A) a.toNat _ t
    unfold v_uf
    split
    · rfl
    · exact b3
  · show v_uf (V (154 + 4 * i + 2)) a.toNat _ t = v_uf (aNu A) a.toNat _ t
    unfold v_uf
    split
    · rfl
    · exact b4
theorem RWs_2 (hR : RWc V i A) (ha : 0 ≤ a ∧ a < 16) {x1 : Int} (e1 : V (154 + 4 * i) 1 = x1) : RWc (v_up V (154 + 4 * i) 1 (v_x2 x1 a.toNat)) i (aBg A, uB (aOp A) a.toNat false, aBr A, aHo A, aNu A, aPa A) := by
  subst e1
  obtain ⟨⟨r0, r1, r2⟩, hb⟩ := hR
  refine ⟨⟨by rw [v_up_ni (by decide)]; exact r0, by rw [v_up_eq]; exact v_x2_rg r1 _, by rw [v_up_ni (by decide)]; exact r2⟩, fun t ht => ?_⟩
  obtain ⟨b0, b1, b2, b3, b4, b5⟩ := hb t ht
  rw [v_up_ni (show 0 ≠ 1 by decide), v_up_eq, v_x2_bit r1 (by omega), v_up_ni (show 2 ≠ 1 by decide), v_up_ne (by omega), v_up_ne (by omega), v_up_ne (by omega)]
  exact ⟨b0, b01_u0 _ _ _ b1, b2, b3, b4, b5⟩
theorem awS_x (h1 : ¬ κ = 0) (h2 : ¬ κ = 2) : awS A a h κ n 1 = (aBg A, aOp A, aBr A, aHo A, aNu A, v_uf (aPa A) a.toNat (aPa A a.toNat + 1)) := by
  unfold awS
  rw [if_neg (by decide), if_pos rfl, if_neg h1, if_neg h2]
theorem awS_0 (h1 : κ = 0) : awS A a h κ n 1 = (uB (aBg A) a.toNat true, uB (aOp A) a.toNat true, aBr A, v_uf (aHo A) a.toNat h, v_uf (aNu A) a.toNat n, v_uf (aPa A) a.toNat (aPa A a.toNat + 1)) := by
  unfold awS
  rw [if_neg (by decide), if_pos rfl, if_pos h1]
theorem awS_2 (h1 : κ = 2) : awS A a h κ n 1 = (aBg A, uB (aOp A) a.toNat false, aBr A, aHo A, aNu A, v_uf (aPa A) a.toNat (aPa A a.toNat + 1)) := by
  unfold awS
  rw [if_neg (by decide), if_pos rfl, if_neg (by omega), if_pos h1]
theorem awS_n : awS A a h κ n 0 = A := by
  unfold awS
  rw [if_neg (by decide), if_neg (by decide)]
end RWS
section
variable {X : Nat → List Int32} {u w : Nat} {S : m_H} {V : v_V} {K : v_K}
set_option maxRecDepth 100000 in
set_option maxHeartbeats 4000000 in
theorem cw_sees (hC : ClF S) {i : Nat} (hi : i < 4) {A : Aw} {j : Nat} (hR : RWc V i A) (hA : awO j A) (hj : j ≤ 100) {pk : Nat} {a h κ n : Int} (hP : PkS S V pk a h κ n) (hpk : pkO a h κ n) (hkl : 193 ≤ pk) {how form N : Int} (hw : 0 ≤ how ∧ how ≤ 2) (hf : 0 ≤ form ∧ form ≤ 4) (hN : 0 ≤ N ∧ N ≤ 99) (k1 : vioC (awS A a h κ n how) a h κ how form N → ∀ V2, RWc V2 i (awS A a h κ n how) → (∀ q, (q < 154 + 4 * i ∨ 154 + 4 * i + 3 < q) → V2 q = V q) → K u w (some (iv 1)) S V2) (k0 : ¬ vioC (awS A a h κ n how) a h κ how form N → ∀ V2, RWc V2 i (awS A a h κ n how) → (∀ q, (q < 154 + 4 * i ∨ 154 + 4 * i + 3 < q) → V2 q = V q) → K u w (some (iv 0)) S V2) : y_R X 2 66 u w [.ref (154 + 4 * i), .ref pk, iv how, iv form, iv N] S V K := by
  refine y_ent (lv' := [(0, .ref (154 + 4 * i)), (1, .ref pk), (2, iv how), (3, iv form), (4, iv N)]) (Nat.le_of_ble_eq_true rfl) rfl ?_
  have hpo := hpk
  obtain ⟨p1, p2, p3, p4⟩ := hpo
  have hRb := hR
  obtain ⟨⟨r1, r2, r3⟩, hb⟩ := hRb
  obtain ⟨f1, f2, f3, f4, f5, f6⟩ := hb a.toNat (by omega)
  obtain ⟨a1, a2, a3⟩ := hA a.toNat (by omega)
  have hp2 := v_p2 a.toNat
  have hp3 : (2 : Int) ^ a.toNat ≤ 32768 := z_p2le (by omega)
  rcases (show how = 0 ∨ how = 1 ∨ how = 2 by omega) with rfl | rfl | rfl
  · refine y_ic rfl rfl ?_
    refine y_ld (x := .ref pk) rfl rfl (fun d => rfl) ?_
    refine y_gI (i := 0) (e := a) rfl rfl rfl hP.1 rfl hP.2.1 ?_
    refine y_op (z := (2 ^ a.toNat)) rfl rfl (fun d => rfl) (v_shl1 (k := a) (by omega)) ?_
    refine y_st (lv' := [(5, iv (2 ^ a.toNat)), (0, .ref (154 + 4 * i)), (1, .ref pk), (2, iv 0), (3, iv form), (4, iv N)]) rfl rfl (fun d => rfl) ?_
    refine y_ld (x := iv 0) rfl rfl (fun d => rfl) ?_
    refine y_ic rfl rfl ?_
    refine y_jne rfl rfl rfl (by decide) (fun g1 => ?_) (fun g1 => absurd g1 (by decide))
    refine y_ld (x := iv 0) rfl rfl (fun d => rfl) ?_
    refine y_ic rfl rfl ?_
    refine y_jeq rfl rfl rfl (by decide) (fun g2 => absurd g2 (by decide)) (fun g2 => ?_)
    refine y_ic rfl rfl ?_
    refine y_rI rfl (by decide) ?_
    exact k0 (fun q => absurd q.1 (by decide)) V (by rw [awS_n]; exact hR) (fun q _ => rfl)
  · refine y_ic rfl rfl ?_
    refine y_ld (x := .ref pk) rfl rfl (fun d => rfl) ?_
    refine y_gI (i := 0) (e := a) rfl rfl rfl hP.1 rfl hP.2.1 ?_
    refine y_op (z := (2 ^ a.toNat)) rfl rfl (fun d => rfl) (v_shl1 (k := a) (by omega)) ?_
    refine y_st (lv' := [(5, iv (2 ^ a.toNat)), (0, .ref (154 + 4 * i)), (1, .ref pk), (2, iv 1), (3, iv form), (4, iv N)]) rfl rfl (fun d => rfl) ?_
    refine y_ld (x := iv 1) rfl rfl (fun d => rfl) ?_
    refine y_ic rfl rfl ?_
    refine y_jne rfl rfl rfl (by decide) (fun g3 => ?_) (fun g3 => absurd g3 (by decide))
    refine y_ld (x := iv 1) rfl rfl (fun d => rfl) ?_
    refine y_ic rfl rfl ?_
    refine y_jeq rfl rfl rfl (by decide) (fun g4 => ?_) (fun g4 => absurd g4 (by decide))
    refine y_ld (x := .ref (154 + 4 * i)) rfl rfl (fun d => rfl) ?_
    refine y_gR (i := 5) rfl rfl rfl (ww_ob hC (i := i) (by omega)) rfl ?_
    refine y_ld (x := .ref pk) rfl rfl (fun d => rfl) ?_
    refine y_gI (i := 0) (e := a) rfl rfl rfl hP.1 rfl hP.2.1 ?_
    refine y_in rfl rfl (fun d => rfl) ?_
    refine y_ild (x := (aPa A a.toNat)) (q := a.toNat) rfl rfl (ww_a3 hC (i := i) (by omega)) (by omega) (by decide) (by omega) f6 ?_
    refine y_ic rfl rfl ?_
    refine y_add (z := (aPa A a.toNat + 1)) rfl rfl (by omega) ?_
    refine y_ist (q := a.toNat) rfl rfl (ww_a3 hC (i := i) (by omega)) (by omega) (by decide) (by omega) ?_
    refine y_ld (x := .ref pk) rfl rfl (fun d => rfl) ?_
    refine y_gI (i := 2) (e := κ) rfl rfl rfl hP.1 rfl (by rw [v_up_ne (by omega)]; exact hP.2.2.2.1) ?_
    refine y_zne rfl rfl rfl (by omega) (fun g5 => ?_) (fun g5 => ?_)
    · refine y_ld (x := .ref pk) rfl rfl (fun d => rfl) ?_
      refine y_gI (i := 2) (e := κ) rfl rfl rfl hP.1 rfl (by rw [v_up_ne (by omega)]; exact hP.2.2.2.1) ?_
      refine y_ic rfl rfl ?_
      refine y_jne rfl rfl rfl (by omega) (fun g6 => ?_) (fun g6 => ?_)
      · have hR1 := RWs_p hR p1
        have hR2 : RWc (v_up V (154 + 4 * i + 3) a.toNat (aPa A a.toNat + 1)) i (awS A a h κ n 1) := by rw [awS_x (by omega) (by omega)]; exact hR1
        have hA2 := awO_S (h := h) (k := κ) (n := n) (t := a) (how := 1) hA hpk
        have hR3 := hR2.2 a.toNat (by omega)
        have hA3 := (hA2 a.toNat (by omega)).2.2
        rcases (show form = 0 ∨ form = 1 ∨ form = 2 ∨ form = 3 ∨ form = 4 by omega) with rfl | rfl | rfl | rfl | rfl
        · cases hbb : aBg (awS A a h κ n 1) a.toNat
          · have hd := hR3.1.trans (congrArg b01 hbb)
            have hd : V (154 + 4 * i) 0 / 2 ^ a.toNat % 2 = 0 := by rw [← show (v_up V (154 + 4 * i + 3) a.toNat (aPa A a.toNat + 1)) (154 + 4 * i) 0 = V (154 + 4 * i) 0 by rw [v_up_ne (by omega)]]; exact hd
            refine y_ld (x := iv 0) rfl rfl (fun d => rfl) ?_
            refine y_in (pc' := 152) rfl rfl (fun d => rfl) ?_
            refine y_ld (x := .ref pk) rfl rfl (fun d => rfl) ?_
            refine y_gI (i := 2) (e := κ) rfl rfl rfl hP.1 rfl (by rw [v_up_ne (by omega)]; exact hP.2.2.2.1) ?_
            refine y_ic rfl rfl ?_
            refine y_jne rfl rfl rfl (by omega) (fun g7 => ?_) (fun g7 => ?_)
            · refine y_ic rfl rfl ?_
              refine y_rI rfl (by decide) ?_
              refine k0 (fun q => ?_) _ hR2 (fun q hq => by rw [v_up_ne (by omega)])
              rcases q.2 with q | q | q | q | q
              · first | omega | (rw [hbb] at q; exact absurd q.2.2 (by decide))
              · exact absurd q.1 (by decide)
              · exact absurd q.1 (by decide)
              · exact absurd q.1 (by decide)
              · exact absurd q.1 (by decide)
            · refine y_ld (x := .ref (154 + 4 * i)) rfl rfl (fun d => rfl) ?_
              refine y_gI (i := 0) (e := (V (154 + 4 * i) 0)) rfl rfl rfl (ww_ob hC (i := i) (by omega)) rfl (by rw [v_up_ne (by omega)]) ?_
              refine y_ld (x := iv (2 ^ a.toNat)) rfl rfl (fun d => rfl) ?_
              refine y_op (z := 0) rfl rfl (fun d => rfl) ((v_and2 (x := V (154 + 4 * i) 0) (k := a.toNat) (by omega) (by omega)).trans (by rw [hd, Int.mul_zero])) ?_
              refine y_zne rfl rfl rfl (by decide) (fun g8 => absurd g8 (by decide)) (fun g8 => ?_)
              refine y_ic rfl rfl ?_
              refine y_go rfl rfl ?_
              refine y_rI rfl (by decide) ?_
              exact k1 ⟨rfl, Or.inl ⟨rfl, by omega, hbb⟩⟩ _ hR2 (fun q hq => by rw [v_up_ne (by omega)])
          · have hd := hR3.1.trans (congrArg b01 hbb)
            have hd : V (154 + 4 * i) 0 / 2 ^ a.toNat % 2 = 1 := by rw [← show (v_up V (154 + 4 * i + 3) a.toNat (aPa A a.toNat + 1)) (154 + 4 * i) 0 = V (154 + 4 * i) 0 by rw [v_up_ne (by omega)]]; exact hd
            refine y_ld (x := iv 0) rfl rfl (fun d => rfl) ?_
            refine y_in (pc' := 152) rfl rfl (fun d => rfl) ?_
            refine y_ld (x := .ref pk) rfl rfl (fun d => rfl) ?_
            refine y_gI (i := 2) (e := κ) rfl rfl rfl hP.1 rfl (by rw [v_up_ne (by omega)]; exact hP.2.2.2.1) ?_
            refine y_ic rfl rfl ?_
            refine y_jne rfl rfl rfl (by omega) (fun g9 => ?_) (fun g9 => ?_)
            · refine y_ic rfl rfl ?_
              refine y_rI rfl (by decide) ?_
              refine k0 (fun q => ?_) _ hR2 (fun q hq => by rw [v_up_ne (by omega)])
              rcases q.2 with q | q | q | q | q
              · first | omega | (rw [hbb] at q; exact absurd q.2.2 (by decide))
              · exact absurd q.1 (by decide)
              · exact absurd q.1 (by decide)
              · exact absurd q.1 (by decide)
              · exact absurd q.1 (by decide)
            · refine y_ld (x := .ref (154 + 4 * i)) rfl rfl (fun d => rfl) ?_
              refine y_gI (i := 0) (e := (V (154 + 4 * i) 0)) rfl rfl rfl (ww_ob hC (i := i) (by omega)) rfl (by rw [v_up_ne (by omega)]) ?_
              refine y_ld (x := iv (2 ^ a.toNat)) rfl rfl (fun d => rfl) ?_
              refine y_op (z := (2 ^ a.toNat)) rfl rfl (fun d => rfl) ((v_and2 (x := V (154 + 4 * i) 0) (k := a.toNat) (by omega) (by omega)).trans (by rw [hd, Int.mul_one])) ?_
              refine y_zne rfl rfl rfl (by omega) (fun g10 => ?_) (fun g10 => absurd g10 (by omega))
              refine y_ic rfl rfl ?_
              refine y_rI rfl (by decide) ?_
              refine k0 (fun q => ?_) _ hR2 (fun q hq => by rw [v_up_ne (by omega)])
              rcases q.2 with q | q | q | q | q
              · first | omega | (rw [hbb] at q; exact absurd q.2.2 (by decide))
              · exact absurd q.1 (by decide)
              · exact absurd q.1 (by decide)
              · exact absurd q.1 (by decide)
              · exact absurd q.1 (by decide)
        · refine y_ld (x := iv 1) rfl rfl (fun d => rfl) ?_
          refine y_in (pc' := 176) rfl rfl (fun d => rfl) ?_
          refine y_ld (x := .ref (154 + 4 * i)) rfl rfl (fun d => rfl) ?_
          refine y_ld (x := .ref pk) rfl rfl (fun d => rfl) ?_
          refine y_gI (i := 1) (e := h) rfl rfl rfl hP.1 rfl (by rw [v_up_ne (by omega)]; exact hP.2.2.1) ?_
          refine y_ld (x := iv N) rfl rfl (fun d => rfl) ?_
          refine y_cV (as := [.ref (154 + 4 * i), iv h, iv N]) rfl rfl rfl rfl rfl (ww_ob hC (i := i) (by omega)) ⟨rfl, (Nat.le_of_ble_eq_true rfl), (Nat.le_of_ble_eq_true rfl)⟩ (by decide) (cw_opens hC hi hR2 hA2 (by omega) hN (fun hyes => ?_) (fun hno => ?_))
          · refine y_nv ?_
            refine y_rI rfl (by decide) ?_
            exact k1 ⟨rfl, Or.inr (Or.inl ⟨rfl, hyes⟩)⟩ _ hR2 (fun q hq => by rw [v_up_ne (by omega)])
          · refine y_nv ?_
            refine y_rI rfl (by decide) ?_
            refine k0 (fun q => ?_) _ hR2 (fun q hq => by rw [v_up_ne (by omega)])
            rcases q.2 with q | q | q | q | q
            · exact absurd q.1 (by decide)
            · exact hno q.2
            · exact absurd q.1 (by decide)
            · exact absurd q.1 (by decide)
            · exact absurd q.1 (by decide)
        · refine y_ld (x := iv 2) rfl rfl (fun d => rfl) ?_
          refine y_in (pc' := 187) rfl rfl (fun d => rfl) ?_
          refine y_ld (x := .ref (154 + 4 * i)) rfl rfl (fun d => rfl) ?_
          refine y_gR (i := 5) rfl rfl rfl (ww_ob hC (i := i) (by omega)) rfl ?_
          refine y_ld (x := .ref pk) rfl rfl (fun d => rfl) ?_
          refine y_gI (i := 0) (e := a) rfl rfl rfl hP.1 rfl (by rw [v_up_ne (by omega)]; exact hP.2.1) ?_
          refine y_ild (x := (aPa (awS A a h κ n 1) a.toNat)) (q := a.toNat) rfl rfl (ww_a3 hC (i := i) (by omega)) (by omega) (by decide) (by omega) hR3.2.2.2.2.2 ?_
          refine y_ld (x := iv N) rfl rfl (fun d => rfl) ?_
          refine y_jle rfl rfl rfl (by omega) (fun g11 => ?_) (fun g11 => ?_)
          · refine y_ic rfl rfl ?_
            refine y_rI rfl (by decide) ?_
            refine k0 (fun q => ?_) _ hR2 (fun q hq => by rw [v_up_ne (by omega)])
            rcases q.2 with q | q | q | q | q
            · exact absurd q.1 (by decide)
            · exact absurd q.1 (by decide)
            · omega
            · exact absurd q.1 (by decide)
            · exact absurd q.1 (by decide)
          · refine y_ic rfl rfl ?_
            refine y_go rfl rfl ?_
            refine y_rI rfl (by decide) ?_
            exact k1 ⟨rfl, Or.inr (Or.inr (Or.inl ⟨rfl, by omega⟩))⟩ _ hR2 (fun q hq => by rw [v_up_ne (by omega)])
        · refine y_ld (x := iv 3) rfl rfl (fun d => rfl) ?_
          refine y_in (pc' := 207) rfl rfl (fun d => rfl) ?_
          refine y_ld (x := .ref (154 + 4 * i)) rfl rfl (fun d => rfl) ?_
          refine y_ld (x := .ref pk) rfl rfl (fun d => rfl) ?_
          refine y_gI (i := 0) (e := a) rfl rfl rfl hP.1 rfl (by rw [v_up_ne (by omega)]; exact hP.2.1) ?_
          refine y_iv (e' := ((a.toNat : Nat) : Int)) (by omega) ?_
          refine y_cV (as := [.ref (154 + 4 * i), iv ((a.toNat : Nat) : Int)]) rfl rfl rfl rfl rfl (ww_ob hC (i := i) (by omega)) ⟨rfl, (Nat.le_of_ble_eq_true rfl), (Nat.le_of_ble_eq_true rfl)⟩ (by decide) (cw_twice (x := a.toNat) hC hi hR2 hA2 (by omega) (fun hyes => ?_) (fun hno => ?_))
          · refine y_nv ?_
            refine y_rI rfl (by decide) ?_
            exact k1 ⟨rfl, Or.inr (Or.inr (Or.inr (Or.inl ⟨rfl, hyes⟩)))⟩ _ hR2 (fun q hq => by rw [v_up_ne (by omega)])
          · refine y_nv ?_
            refine y_rI rfl (by decide) ?_
            refine k0 (fun q => ?_) _ hR2 (fun q hq => by rw [v_up_ne (by omega)])
            rcases q.2 with q | q | q | q | q
            · exact absurd q.1 (by decide)
            · exact absurd q.1 (by decide)
            · exact absurd q.1 (by decide)
            · exact hno q.2
            · exact absurd q.1 (by decide)
        · cases hbb : aBr (awS A a h κ n 1) a.toNat
          · have hd := hR3.2.2.1.trans (congrArg b01 hbb)
            have hd : V (154 + 4 * i) 2 / 2 ^ a.toNat % 2 = 0 := by rw [← show (v_up V (154 + 4 * i + 3) a.toNat (aPa A a.toNat + 1)) (154 + 4 * i) 2 = V (154 + 4 * i) 2 by rw [v_up_ne (by omega)]]; exact hd
            refine y_ld (x := iv 4) rfl rfl (fun d => rfl) ?_
            refine y_in (pc' := 216) rfl rfl (fun d => rfl) ?_
            refine y_ld (x := .ref (154 + 4 * i)) rfl rfl (fun d => rfl) ?_
            refine y_gI (i := 2) (e := (V (154 + 4 * i) 2)) rfl rfl rfl (ww_ob hC (i := i) (by omega)) rfl (by rw [v_up_ne (by omega)]) ?_
            refine y_ld (x := iv (2 ^ a.toNat)) rfl rfl (fun d => rfl) ?_
            refine y_op (z := 0) rfl rfl (fun d => rfl) ((v_and2 (x := V (154 + 4 * i) 2) (k := a.toNat) (by omega) (by omega)).trans (by rw [hd, Int.mul_zero])) ?_
            refine y_zeq rfl rfl rfl (by decide) (fun g12 => ?_) (fun g12 => absurd g12 (by decide))
            refine y_ic rfl rfl ?_
            refine y_rI rfl (by decide) ?_
            refine k0 (fun q => ?_) _ hR2 (fun q hq => by rw [v_up_ne (by omega)])
            rcases q.2 with q | q | q | q | q
            · exact absurd q.1 (by decide)
            · exact absurd q.1 (by decide)
            · exact absurd q.1 (by decide)
            · exact absurd q.1 (by decide)
            · rw [hbb] at q; exact absurd q.2 (by decide)
          · have hd := hR3.2.2.1.trans (congrArg b01 hbb)
            have hd : V (154 + 4 * i) 2 / 2 ^ a.toNat % 2 = 1 := by rw [← show (v_up V (154 + 4 * i + 3) a.toNat (aPa A a.toNat + 1)) (154 + 4 * i) 2 = V (154 + 4 * i) 2 by rw [v_up_ne (by omega)]]; exact hd
            refine y_ld (x := iv 4) rfl rfl (fun d => rfl) ?_
            refine y_in (pc' := 216) rfl rfl (fun d => rfl) ?_
            refine y_ld (x := .ref (154 + 4 * i)) rfl rfl (fun d => rfl) ?_
            refine y_gI (i := 2) (e := (V (154 + 4 * i) 2)) rfl rfl rfl (ww_ob hC (i := i) (by omega)) rfl (by rw [v_up_ne (by omega)]) ?_
            refine y_ld (x := iv (2 ^ a.toNat)) rfl rfl (fun d => rfl) ?_
            refine y_op (z := (2 ^ a.toNat)) rfl rfl (fun d => rfl) ((v_and2 (x := V (154 + 4 * i) 2) (k := a.toNat) (by omega) (by omega)).trans (by rw [hd, Int.mul_one])) ?_
            refine y_zeq rfl rfl rfl (by omega) (fun g13 => absurd g13 (by omega)) (fun g13 => ?_)
            refine y_ic rfl rfl ?_
            refine y_go rfl rfl ?_
            refine y_rI rfl (by decide) ?_
            exact k1 ⟨rfl, Or.inr (Or.inr (Or.inr (Or.inr ⟨rfl, hbb⟩)))⟩ _ hR2 (fun q hq => by rw [v_up_ne (by omega)])
      · refine y_ld (x := .ref (154 + 4 * i)) rfl rfl (fun d => rfl) ?_
        refine y_in rfl rfl (fun d => rfl) ?_
        refine y_gI (i := 1) (e := (V (154 + 4 * i) 1)) rfl rfl rfl (ww_ob hC (i := i) (by omega)) rfl (by rw [v_up_ne (by omega)]) ?_
        refine y_ld (x := iv (2 ^ a.toNat)) rfl rfl (fun d => rfl) ?_
        refine y_ic rfl rfl ?_
        refine y_op (z := (4294967295 - 2 ^ a.toNat)) rfl rfl (fun d => rfl) (v_not (by omega)) ?_
        refine y_op (z := (v_x2 (V (154 + 4 * i) 1) a.toNat)) rfl rfl (fun d => rfl) (v_andn (by omega) (by omega)) ?_
        refine y_pI (i := 1) rfl rfl rfl (ww_ob hC (i := i) (by omega)) rfl rfl ?_
        have hR1 := RWs_p hR p1
        have hR2 : RWc (v_up (v_up V (154 + 4 * i + 3) a.toNat (aPa A a.toNat + 1)) (154 + 4 * i) 1 (v_x2 (V (154 + 4 * i) 1) a.toNat)) i (awS A a h κ n 1) := by rw [awS_2 (by omega)]; exact RWs_2 hR1 p1 (congrFun (v_up_ne (by omega)) 1)
        have hA2 := awO_S (h := h) (k := κ) (n := n) (t := a) (how := 1) hA hpk
        have hR3 := hR2.2 a.toNat (by omega)
        have hA3 := (hA2 a.toNat (by omega)).2.2
        rcases (show form = 0 ∨ form = 1 ∨ form = 2 ∨ form = 3 ∨ form = 4 by omega) with rfl | rfl | rfl | rfl | rfl
        · refine y_ld (x := iv 0) rfl rfl (fun d => rfl) ?_
          refine y_in (pc' := 152) rfl rfl (fun d => rfl) ?_
          refine y_ld (x := .ref pk) rfl rfl (fun d => rfl) ?_
          refine y_gI (i := 2) (e := κ) rfl rfl rfl hP.1 rfl (by rw [v_up_ne (by omega), v_up_ne (by omega)]; exact hP.2.2.2.1) ?_
          refine y_ic rfl rfl ?_
          refine y_jne rfl rfl rfl (by omega) (fun g14 => ?_) (fun g14 => absurd g14 (by omega))
          refine y_ic rfl rfl ?_
          refine y_rI rfl (by decide) ?_
          refine k0 (fun q => ?_) _ hR2 (fun q hq => by rw [v_up_ne (by omega), v_up_ne (by omega)])
          rcases q.2 with q | q | q | q | q
          · first | omega | (rw [hbb] at q; exact absurd q.2.2 (by decide))
          · exact absurd q.1 (by decide)
          · exact absurd q.1 (by decide)
          · exact absurd q.1 (by decide)
          · exact absurd q.1 (by decide)
        · refine y_ld (x := iv 1) rfl rfl (fun d => rfl) ?_
          refine y_in (pc' := 176) rfl rfl (fun d => rfl) ?_
          refine y_ld (x := .ref (154 + 4 * i)) rfl rfl (fun d => rfl) ?_
          refine y_ld (x := .ref pk) rfl rfl (fun d => rfl) ?_
          refine y_gI (i := 1) (e := h) rfl rfl rfl hP.1 rfl (by rw [v_up_ne (by omega), v_up_ne (by omega)]; exact hP.2.2.1) ?_
          refine y_ld (x := iv N) rfl rfl (fun d => rfl) ?_
          refine y_cV (as := [.ref (154 + 4 * i), iv h, iv N]) rfl rfl rfl rfl rfl (ww_ob hC (i := i) (by omega)) ⟨rfl, (Nat.le_of_ble_eq_true rfl), (Nat.le_of_ble_eq_true rfl)⟩ (by decide) (cw_opens hC hi hR2 hA2 (by omega) hN (fun hyes => ?_) (fun hno => ?_))
          · refine y_nv ?_
            refine y_rI rfl (by decide) ?_
            exact k1 ⟨rfl, Or.inr (Or.inl ⟨rfl, hyes⟩)⟩ _ hR2 (fun q hq => by rw [v_up_ne (by omega), v_up_ne (by omega)])
          · refine y_nv ?_
            refine y_rI rfl (by decide) ?_
            refine k0 (fun q => ?_) _ hR2 (fun q hq => by rw [v_up_ne (by omega), v_up_ne (by omega)])
            rcases q.2 with q | q | q | q | q
            · exact absurd q.1 (by decide)
            · exact hno q.2
            · exact absurd q.1 (by decide)
            · exact absurd q.1 (by decide)
            · exact absurd q.1 (by decide)
        · refine y_ld (x := iv 2) rfl rfl (fun d => rfl) ?_
          refine y_in (pc' := 187) rfl rfl (fun d => rfl) ?_
          refine y_ld (x := .ref (154 + 4 * i)) rfl rfl (fun d => rfl) ?_
          refine y_gR (i := 5) rfl rfl rfl (ww_ob hC (i := i) (by omega)) rfl ?_
          refine y_ld (x := .ref pk) rfl rfl (fun d => rfl) ?_
          refine y_gI (i := 0) (e := a) rfl rfl rfl hP.1 rfl (by rw [v_up_ne (by omega), v_up_ne (by omega)]; exact hP.2.1) ?_
          refine y_ild (x := (aPa (awS A a h κ n 1) a.toNat)) (q := a.toNat) rfl rfl (ww_a3 hC (i := i) (by omega)) (by omega) (by decide) (by omega) hR3.2.2.2.2.2 ?_
          refine y_ld (x := iv N) rfl rfl (fun d => rfl) ?_
          refine y_jle rfl rfl rfl (by omega) (fun g15 => ?_) (fun g15 => ?_)
          · refine y_ic rfl rfl ?_
            refine y_rI rfl (by decide) ?_
            refine k0 (fun q => ?_) _ hR2 (fun q hq => by rw [v_up_ne (by omega), v_up_ne (by omega)])
            rcases q.2 with q | q | q | q | q
            · exact absurd q.1 (by decide)
            · exact absurd q.1 (by decide)
            · omega
            · exact absurd q.1 (by decide)
            · exact absurd q.1 (by decide)
          · refine y_ic rfl rfl ?_
            refine y_go rfl rfl ?_
            refine y_rI rfl (by decide) ?_
            exact k1 ⟨rfl, Or.inr (Or.inr (Or.inl ⟨rfl, by omega⟩))⟩ _ hR2 (fun q hq => by rw [v_up_ne (by omega), v_up_ne (by omega)])
        · refine y_ld (x := iv 3) rfl rfl (fun d => rfl) ?_
          refine y_in (pc' := 207) rfl rfl (fun d => rfl) ?_
          refine y_ld (x := .ref (154 + 4 * i)) rfl rfl (fun d => rfl) ?_
          refine y_ld (x := .ref pk) rfl rfl (fun d => rfl) ?_
          refine y_gI (i := 0) (e := a) rfl rfl rfl hP.1 rfl (by rw [v_up_ne (by omega), v_up_ne (by omega)]; exact hP.2.1) ?_
          refine y_iv (e' := ((a.toNat : Nat) : Int)) (by omega) ?_
          refine y_cV (as := [.ref (154 + 4 * i), iv ((a.toNat : Nat) : Int)]) rfl rfl rfl rfl rfl (ww_ob hC (i := i) (by omega)) ⟨rfl, (Nat.le_of_ble_eq_true rfl), (Nat.le_of_ble_eq_true rfl)⟩ (by decide) (cw_twice (x := a.toNat) hC hi hR2 hA2 (by omega) (fun hyes => ?_) (fun hno => ?_))
          · refine y_nv ?_
            refine y_rI rfl (by decide) ?_
            exact k1 ⟨rfl, Or.inr (Or.inr (Or.inr (Or.inl ⟨rfl, hyes⟩)))⟩ _ hR2 (fun q hq => by rw [v_up_ne (by omega), v_up_ne (by omega)])
          · refine y_nv ?_
            refine y_rI rfl (by decide) ?_
            refine k0 (fun q => ?_) _ hR2 (fun q hq => by rw [v_up_ne (by omega), v_up_ne (by omega)])
            rcases q.2 with q | q | q | q | q
            · exact absurd q.1 (by decide)
            · exact absurd q.1 (by decide)
            · exact absurd q.1 (by decide)
            · exact hno q.2
            · exact absurd q.1 (by decide)
        · cases hbb : aBr (awS A a h κ n 1) a.toNat
          · have hd := hR3.2.2.1.trans (congrArg b01 hbb)
            have hd : V (154 + 4 * i) 2 / 2 ^ a.toNat % 2 = 0 := by rw [← show (v_up (v_up V (154 + 4 * i + 3) a.toNat (aPa A a.toNat + 1)) (154 + 4 * i) 1 (v_x2 (V (154 + 4 * i) 1) a.toNat)) (154 + 4 * i) 2 = V (154 + 4 * i) 2 by rw [v_up_ni (by decide), v_up_ne (by omega)]]; exact hd
            refine y_ld (x := iv 4) rfl rfl (fun d => rfl) ?_
            refine y_in (pc' := 216) rfl rfl (fun d => rfl) ?_
            refine y_ld (x := .ref (154 + 4 * i)) rfl rfl (fun d => rfl) ?_
            refine y_gI (i := 2) (e := (V (154 + 4 * i) 2)) rfl rfl rfl (ww_ob hC (i := i) (by omega)) rfl (by rw [v_up_ni (by omega), v_up_ne (by omega)]) ?_
            refine y_ld (x := iv (2 ^ a.toNat)) rfl rfl (fun d => rfl) ?_
            refine y_op (z := 0) rfl rfl (fun d => rfl) ((v_and2 (x := V (154 + 4 * i) 2) (k := a.toNat) (by omega) (by omega)).trans (by rw [hd, Int.mul_zero])) ?_
            refine y_zeq rfl rfl rfl (by decide) (fun g16 => ?_) (fun g16 => absurd g16 (by decide))
            refine y_ic rfl rfl ?_
            refine y_rI rfl (by decide) ?_
            refine k0 (fun q => ?_) _ hR2 (fun q hq => by rw [v_up_ne (by omega), v_up_ne (by omega)])
            rcases q.2 with q | q | q | q | q
            · exact absurd q.1 (by decide)
            · exact absurd q.1 (by decide)
            · exact absurd q.1 (by decide)
            · exact absurd q.1 (by decide)
            · rw [hbb] at q; exact absurd q.2 (by decide)
          · have hd := hR3.2.2.1.trans (congrArg b01 hbb)
            have hd : V (154 + 4 * i) 2 / 2 ^ a.toNat % 2 = 1 := by rw [← show (v_up (v_up V (154 + 4 * i + 3) a.toNat (aPa A a.toNat + 1)) (154 + 4 * i) 1 (v_x2 (V (154 + 4 * i) 1) a.toNat)) (154 + 4 * i) 2 = V (154 + 4 * i) 2 by rw [v_up_ni (by decide), v_up_ne (by omega)]]; exact hd
            refine y_ld (x := iv 4) rfl rfl (fun d => rfl) ?_
            refine y_in (pc' := 216) rfl rfl (fun d => rfl) ?_
            refine y_ld (x := .ref (154 + 4 * i)) rfl rfl (fun d => rfl) ?_
            refine y_gI (i := 2) (e := (V (154 + 4 * i) 2)) rfl rfl rfl (ww_ob hC (i := i) (by omega)) rfl (by rw [v_up_ni (by omega), v_up_ne (by omega)]) ?_
            refine y_ld (x := iv (2 ^ a.toNat)) rfl rfl (fun d => rfl) ?_
            refine y_op (z := (2 ^ a.toNat)) rfl rfl (fun d => rfl) ((v_and2 (x := V (154 + 4 * i) 2) (k := a.toNat) (by omega) (by omega)).trans (by rw [hd, Int.mul_one])) ?_
            refine y_zeq rfl rfl rfl (by omega) (fun g17 => absurd g17 (by omega)) (fun g17 => ?_)
            refine y_ic rfl rfl ?_
            refine y_go rfl rfl ?_
            refine y_rI rfl (by decide) ?_
            exact k1 ⟨rfl, Or.inr (Or.inr (Or.inr (Or.inr ⟨rfl, hbb⟩)))⟩ _ hR2 (fun q hq => by rw [v_up_ne (by omega), v_up_ne (by omega)])
    · refine y_ld (x := .ref (154 + 4 * i)) rfl rfl (fun d => rfl) ?_
      refine y_in rfl rfl (fun d => rfl) ?_
      refine y_gI (i := 0) (e := (V (154 + 4 * i) 0)) rfl rfl rfl (ww_ob hC (i := i) (by omega)) rfl (by rw [v_up_ne (by omega)]) ?_
      refine y_ld (x := iv (2 ^ a.toNat)) rfl rfl (fun d => rfl) ?_
      refine y_op (z := (v_o2 (V (154 + 4 * i) 0) a.toNat)) rfl rfl (fun d => rfl) (v_or_o2 (by omega) a.toNat) ?_
      refine y_pI (i := 0) rfl rfl rfl (ww_ob hC (i := i) (by omega)) rfl rfl ?_
      refine y_ld (x := .ref (154 + 4 * i)) rfl rfl (fun d => rfl) ?_
      refine y_in rfl rfl (fun d => rfl) ?_
      refine y_gI (i := 1) (e := (V (154 + 4 * i) 1)) rfl rfl rfl (ww_ob hC (i := i) (by omega)) rfl (by rw [v_up_ni (by omega), v_up_ne (by omega)]) ?_
      refine y_ld (x := iv (2 ^ a.toNat)) rfl rfl (fun d => rfl) ?_
      refine y_op (z := (v_o2 (V (154 + 4 * i) 1) a.toNat)) rfl rfl (fun d => rfl) (v_or_o2 (by omega) a.toNat) ?_
      refine y_pI (i := 1) rfl rfl rfl (ww_ob hC (i := i) (by omega)) rfl rfl ?_
      refine y_ld (x := .ref (154 + 4 * i)) rfl rfl (fun d => rfl) ?_
      refine y_gR (i := 3) rfl rfl rfl (ww_ob hC (i := i) (by omega)) rfl ?_
      refine y_ld (x := .ref pk) rfl rfl (fun d => rfl) ?_
      refine y_gI (i := 0) (e := a) rfl rfl rfl hP.1 rfl (by rw [v_up_ne (by omega), v_up_ne (by omega), v_up_ne (by omega)]; exact hP.2.1) ?_
      refine y_ld (x := .ref pk) rfl rfl (fun d => rfl) ?_
      refine y_gI (i := 1) (e := h) rfl rfl rfl hP.1 rfl (by rw [v_up_ne (by omega), v_up_ne (by omega), v_up_ne (by omega)]; exact hP.2.2.1) ?_
      refine y_ist (q := a.toNat) rfl rfl (ww_a1 hC (i := i) (by omega)) (by omega) (by decide) (by omega) ?_
      refine y_ld (x := .ref (154 + 4 * i)) rfl rfl (fun d => rfl) ?_
      refine y_gR (i := 4) rfl rfl rfl (ww_ob hC (i := i) (by omega)) rfl ?_
      refine y_ld (x := .ref pk) rfl rfl (fun d => rfl) ?_
      refine y_gI (i := 0) (e := a) rfl rfl rfl hP.1 rfl (by rw [v_up_ne (by omega), v_up_ne (by omega), v_up_ne (by omega), v_up_ne (by omega)]; exact hP.2.1) ?_
      refine y_ld (x := .ref pk) rfl rfl (fun d => rfl) ?_
      refine y_gI (i := 3) (e := n) rfl rfl rfl hP.1 rfl (by rw [v_up_ne (by omega), v_up_ne (by omega), v_up_ne (by omega), v_up_ne (by omega)]; exact hP.2.2.2.2) ?_
      refine y_ist (q := a.toNat) rfl rfl (ww_a2 hC (i := i) (by omega)) (by omega) (by decide) (by omega) ?_
      refine y_ld (x := .ref pk) rfl rfl (fun d => rfl) ?_
      refine y_gI (i := 2) (e := κ) rfl rfl rfl hP.1 rfl (by rw [v_up_ne (by omega), v_up_ne (by omega), v_up_ne (by omega), v_up_ne (by omega), v_up_ne (by omega)]; exact hP.2.2.2.1) ?_
      refine y_ic rfl rfl ?_
      refine y_jne rfl rfl rfl (by omega) (fun g18 => ?_) (fun g18 => absurd g18 (by omega))
      have hR1 := RWs_p hR p1
      have hR2 : RWc (v_up (v_up (v_up (v_up (v_up V (154 + 4 * i + 3) a.toNat (aPa A a.toNat + 1)) (154 + 4 * i) 0 (v_o2 (V (154 + 4 * i) 0) a.toNat)) (154 + 4 * i) 1 (v_o2 (V (154 + 4 * i) 1) a.toNat)) (154 + 4 * i + 1) a.toNat h) (154 + 4 * i + 2) a.toNat n) i (awS A a h κ n 1) := by rw [awS_0 (by omega)]; exact RWs_0 hR1 p1 (congrFun (v_up_ne (by omega)) 0) (congrFun (v_up_ne (by omega)) 1)
      have hA2 := awO_S (h := h) (k := κ) (n := n) (t := a) (how := 1) hA hpk
      have hR3 := hR2.2 a.toNat (by omega)
      have hA3 := (hA2 a.toNat (by omega)).2.2
      rcases (show form = 0 ∨ form = 1 ∨ form = 2 ∨ form = 3 ∨ form = 4 by omega) with rfl | rfl | rfl | rfl | rfl
      · refine y_ld (x := iv 0) rfl rfl (fun d => rfl) ?_
        refine y_in (pc' := 152) rfl rfl (fun d => rfl) ?_
        refine y_ld (x := .ref pk) rfl rfl (fun d => rfl) ?_
        refine y_gI (i := 2) (e := κ) rfl rfl rfl hP.1 rfl (by rw [v_up_ne (by omega), v_up_ne (by omega), v_up_ne (by omega), v_up_ne (by omega), v_up_ne (by omega)]; exact hP.2.2.2.1) ?_
        refine y_ic rfl rfl ?_
        refine y_jne rfl rfl rfl (by omega) (fun g19 => ?_) (fun g19 => absurd g19 (by omega))
        refine y_ic rfl rfl ?_
        refine y_rI rfl (by decide) ?_
        refine k0 (fun q => ?_) _ hR2 (fun q hq => by rw [v_up_ne (by omega), v_up_ne (by omega), v_up_ne (by omega), v_up_ne (by omega), v_up_ne (by omega)])
        rcases q.2 with q | q | q | q | q
        · first | omega | (rw [hbb] at q; exact absurd q.2.2 (by decide))
        · exact absurd q.1 (by decide)
        · exact absurd q.1 (by decide)
        · exact absurd q.1 (by decide)
        · exact absurd q.1 (by decide)
      · refine y_ld (x := iv 1) rfl rfl (fun d => rfl) ?_
        refine y_in (pc' := 176) rfl rfl (fun d => rfl) ?_
        refine y_ld (x := .ref (154 + 4 * i)) rfl rfl (fun d => rfl) ?_
        refine y_ld (x := .ref pk) rfl rfl (fun d => rfl) ?_
        refine y_gI (i := 1) (e := h) rfl rfl rfl hP.1 rfl (by rw [v_up_ne (by omega), v_up_ne (by omega), v_up_ne (by omega), v_up_ne (by omega), v_up_ne (by omega)]; exact hP.2.2.1) ?_
        refine y_ld (x := iv N) rfl rfl (fun d => rfl) ?_
        refine y_cV (as := [.ref (154 + 4 * i), iv h, iv N]) rfl rfl rfl rfl rfl (ww_ob hC (i := i) (by omega)) ⟨rfl, (Nat.le_of_ble_eq_true rfl), (Nat.le_of_ble_eq_true rfl)⟩ (by decide) (cw_opens hC hi hR2 hA2 (by omega) hN (fun hyes => ?_) (fun hno => ?_))
        · refine y_nv ?_
          refine y_rI rfl (by decide) ?_
          exact k1 ⟨rfl, Or.inr (Or.inl ⟨rfl, hyes⟩)⟩ _ hR2 (fun q hq => by rw [v_up_ne (by omega), v_up_ne (by omega), v_up_ne (by omega), v_up_ne (by omega), v_up_ne (by omega)])
        · refine y_nv ?_
          refine y_rI rfl (by decide) ?_
          refine k0 (fun q => ?_) _ hR2 (fun q hq => by rw [v_up_ne (by omega), v_up_ne (by omega), v_up_ne (by omega), v_up_ne (by omega), v_up_ne (by omega)])
          rcases q.2 with q | q | q | q | q
          · exact absurd q.1 (by decide)
          · exact hno q.2
          · exact absurd q.1 (by decide)
          · exact absurd q.1 (by decide)
          · exact absurd q.1 (by decide)
      · refine y_ld (x := iv 2) rfl rfl (fun d => rfl) ?_
        refine y_in (pc' := 187) rfl rfl (fun d => rfl) ?_
        refine y_ld (x := .ref (154 + 4 * i)) rfl rfl (fun d => rfl) ?_
        refine y_gR (i := 5) rfl rfl rfl (ww_ob hC (i := i) (by omega)) rfl ?_
        refine y_ld (x := .ref pk) rfl rfl (fun d => rfl) ?_
        refine y_gI (i := 0) (e := a) rfl rfl rfl hP.1 rfl (by rw [v_up_ne (by omega), v_up_ne (by omega), v_up_ne (by omega), v_up_ne (by omega), v_up_ne (by omega)]; exact hP.2.1) ?_
        refine y_ild (x := (aPa (awS A a h κ n 1) a.toNat)) (q := a.toNat) rfl rfl (ww_a3 hC (i := i) (by omega)) (by omega) (by decide) (by omega) hR3.2.2.2.2.2 ?_
        refine y_ld (x := iv N) rfl rfl (fun d => rfl) ?_
        refine y_jle rfl rfl rfl (by omega) (fun g20 => ?_) (fun g20 => ?_)
        · refine y_ic rfl rfl ?_
          refine y_rI rfl (by decide) ?_
          refine k0 (fun q => ?_) _ hR2 (fun q hq => by rw [v_up_ne (by omega), v_up_ne (by omega), v_up_ne (by omega), v_up_ne (by omega), v_up_ne (by omega)])
          rcases q.2 with q | q | q | q | q
          · exact absurd q.1 (by decide)
          · exact absurd q.1 (by decide)
          · omega
          · exact absurd q.1 (by decide)
          · exact absurd q.1 (by decide)
        · refine y_ic rfl rfl ?_
          refine y_go rfl rfl ?_
          refine y_rI rfl (by decide) ?_
          exact k1 ⟨rfl, Or.inr (Or.inr (Or.inl ⟨rfl, by omega⟩))⟩ _ hR2 (fun q hq => by rw [v_up_ne (by omega), v_up_ne (by omega), v_up_ne (by omega), v_up_ne (by omega), v_up_ne (by omega)])
      · refine y_ld (x := iv 3) rfl rfl (fun d => rfl) ?_
        refine y_in (pc' := 207) rfl rfl (fun d => rfl) ?_
        refine y_ld (x := .ref (154 + 4 * i)) rfl rfl (fun d => rfl) ?_
        refine y_ld (x := .ref pk) rfl rfl (fun d => rfl) ?_
        refine y_gI (i := 0) (e := a) rfl rfl rfl hP.1 rfl (by rw [v_up_ne (by omega), v_up_ne (by omega), v_up_ne (by omega), v_up_ne (by omega), v_up_ne (by omega)]; exact hP.2.1) ?_
        refine y_iv (e' := ((a.toNat : Nat) : Int)) (by omega) ?_
        refine y_cV (as := [.ref (154 + 4 * i), iv ((a.toNat : Nat) : Int)]) rfl rfl rfl rfl rfl (ww_ob hC (i := i) (by omega)) ⟨rfl, (Nat.le_of_ble_eq_true rfl), (Nat.le_of_ble_eq_true rfl)⟩ (by decide) (cw_twice (x := a.toNat) hC hi hR2 hA2 (by omega) (fun hyes => ?_) (fun hno => ?_))
        · refine y_nv ?_
          refine y_rI rfl (by decide) ?_
          exact k1 ⟨rfl, Or.inr (Or.inr (Or.inr (Or.inl ⟨rfl, hyes⟩)))⟩ _ hR2 (fun q hq => by rw [v_up_ne (by omega), v_up_ne (by omega), v_up_ne (by omega), v_up_ne (by omega), v_up_ne (by omega)])
        · refine y_nv ?_
          refine y_rI rfl (by decide) ?_
          refine k0 (fun q => ?_) _ hR2 (fun q hq => by rw [v_up_ne (by omega), v_up_ne (by omega), v_up_ne (by omega), v_up_ne (by omega), v_up_ne (by omega)])
          rcases q.2 with q | q | q | q | q
          · exact absurd q.1 (by decide)
          · exact absurd q.1 (by decide)
          · exact absurd q.1 (by decide)
          · exact hno q.2
          · exact absurd q.1 (by decide)
      · cases hbb : aBr (awS A a h κ n 1) a.toNat
        · have hd := hR3.2.2.1.trans (congrArg b01 hbb)
          have hd : V (154 + 4 * i) 2 / 2 ^ a.toNat % 2 = 0 := by rw [← show (v_up (v_up (v_up (v_up (v_up V (154 + 4 * i + 3) a.toNat (aPa A a.toNat + 1)) (154 + 4 * i) 0 (v_o2 (V (154 + 4 * i) 0) a.toNat)) (154 + 4 * i) 1 (v_o2 (V (154 + 4 * i) 1) a.toNat)) (154 + 4 * i + 1) a.toNat h) (154 + 4 * i + 2) a.toNat n) (154 + 4 * i) 2 = V (154 + 4 * i) 2 by rw [v_up_ne (by omega), v_up_ne (by omega), v_up_ni (by decide), v_up_ni (by decide), v_up_ne (by omega)]]; exact hd
          refine y_ld (x := iv 4) rfl rfl (fun d => rfl) ?_
          refine y_in (pc' := 216) rfl rfl (fun d => rfl) ?_
          refine y_ld (x := .ref (154 + 4 * i)) rfl rfl (fun d => rfl) ?_
          refine y_gI (i := 2) (e := (V (154 + 4 * i) 2)) rfl rfl rfl (ww_ob hC (i := i) (by omega)) rfl (by rw [v_up_ne (by omega), v_up_ne (by omega), v_up_ni (by omega), v_up_ni (by omega), v_up_ne (by omega)]) ?_
          refine y_ld (x := iv (2 ^ a.toNat)) rfl rfl (fun d => rfl) ?_
          refine y_op (z := 0) rfl rfl (fun d => rfl) ((v_and2 (x := V (154 + 4 * i) 2) (k := a.toNat) (by omega) (by omega)).trans (by rw [hd, Int.mul_zero])) ?_
          refine y_zeq rfl rfl rfl (by decide) (fun g21 => ?_) (fun g21 => absurd g21 (by decide))
          refine y_ic rfl rfl ?_
          refine y_rI rfl (by decide) ?_
          refine k0 (fun q => ?_) _ hR2 (fun q hq => by rw [v_up_ne (by omega), v_up_ne (by omega), v_up_ne (by omega), v_up_ne (by omega), v_up_ne (by omega)])
          rcases q.2 with q | q | q | q | q
          · exact absurd q.1 (by decide)
          · exact absurd q.1 (by decide)
          · exact absurd q.1 (by decide)
          · exact absurd q.1 (by decide)
          · rw [hbb] at q; exact absurd q.2 (by decide)
        · have hd := hR3.2.2.1.trans (congrArg b01 hbb)
          have hd : V (154 + 4 * i) 2 / 2 ^ a.toNat % 2 = 1 := by rw [← show (v_up (v_up (v_up (v_up (v_up V (154 + 4 * i + 3) a.toNat (aPa A a.toNat + 1)) (154 + 4 * i) 0 (v_o2 (V (154 + 4 * i) 0) a.toNat)) (154 + 4 * i) 1 (v_o2 (V (154 + 4 * i) 1) a.toNat)) (154 + 4 * i + 1) a.toNat h) (154 + 4 * i + 2) a.toNat n) (154 + 4 * i) 2 = V (154 + 4 * i) 2 by rw [v_up_ne (by omega), v_up_ne (by omega), v_up_ni (by decide), v_up_ni (by decide), v_up_ne (by omega)]]; exact hd
          refine y_ld (x := iv 4) rfl rfl (fun d => rfl) ?_
          refine y_in (pc' := 216) rfl rfl (fun d => rfl) ?_
          refine y_ld (x := .ref (154 + 4 * i)) rfl rfl (fun d => rfl) ?_
          refine y_gI (i := 2) (e := (V (154 + 4 * i) 2)) rfl rfl rfl (ww_ob hC (i := i) (by omega)) rfl (by rw [v_up_ne (by omega), v_up_ne (by omega), v_up_ni (by omega), v_up_ni (by omega), v_up_ne (by omega)]) ?_
          refine y_ld (x := iv (2 ^ a.toNat)) rfl rfl (fun d => rfl) ?_
          refine y_op (z := (2 ^ a.toNat)) rfl rfl (fun d => rfl) ((v_and2 (x := V (154 + 4 * i) 2) (k := a.toNat) (by omega) (by omega)).trans (by rw [hd, Int.mul_one])) ?_
          refine y_zeq rfl rfl rfl (by omega) (fun g22 => absurd g22 (by omega)) (fun g22 => ?_)
          refine y_ic rfl rfl ?_
          refine y_go rfl rfl ?_
          refine y_rI rfl (by decide) ?_
          exact k1 ⟨rfl, Or.inr (Or.inr (Or.inr (Or.inr ⟨rfl, hbb⟩)))⟩ _ hR2 (fun q hq => by rw [v_up_ne (by omega), v_up_ne (by omega), v_up_ne (by omega), v_up_ne (by omega), v_up_ne (by omega)])
  · refine y_ic rfl rfl ?_
    refine y_ld (x := .ref pk) rfl rfl (fun d => rfl) ?_
    refine y_gI (i := 0) (e := a) rfl rfl rfl hP.1 rfl hP.2.1 ?_
    refine y_op (z := (2 ^ a.toNat)) rfl rfl (fun d => rfl) (v_shl1 (k := a) (by omega)) ?_
    refine y_st (lv' := [(5, iv (2 ^ a.toNat)), (0, .ref (154 + 4 * i)), (1, .ref pk), (2, iv 2), (3, iv form), (4, iv N)]) rfl rfl (fun d => rfl) ?_
    refine y_ld (x := iv 2) rfl rfl (fun d => rfl) ?_
    refine y_ic rfl rfl ?_
    refine y_jne rfl rfl rfl (by decide) (fun g23 => absurd g23 (by decide)) (fun g23 => ?_)
    refine y_ld (x := .ref (154 + 4 * i)) rfl rfl (fun d => rfl) ?_
    refine y_in rfl rfl (fun d => rfl) ?_
    refine y_gI (i := 2) (e := (V (154 + 4 * i) 2)) rfl rfl rfl (ww_ob hC (i := i) (by omega)) rfl rfl ?_
    refine y_ld (x := iv (2 ^ a.toNat)) rfl rfl (fun d => rfl) ?_
    refine y_op (z := (v_o2 (V (154 + 4 * i) 2) a.toNat)) rfl rfl (fun d => rfl) (v_or_o2 (by omega) a.toNat) ?_
    refine y_pI (i := 2) rfl rfl rfl (ww_ob hC (i := i) (by omega)) rfl rfl ?_
    refine y_ld (x := iv 2) rfl rfl (fun d => rfl) ?_
    refine y_ic rfl rfl ?_
    refine y_jeq rfl rfl rfl (by decide) (fun g24 => absurd g24 (by decide)) (fun g24 => ?_)
    refine y_ic rfl rfl ?_
    refine y_rI rfl (by decide) ?_
    exact k0 (fun q => absurd q.1 (by decide)) _ (RWs_b hR p1) (fun q hq => by rw [v_up_ne (by omega)])
end
end
section
/-! rows of THE ALPHABET as numbers: what a row of TEXTS has come to behind them -/
/-- how a packet fares till the i-th TEXT of a row -/
def hwP (t h k n : Int) (ts : Nat → List p_Li) (M : Nat → Nat → Int) : Nat → Int
  | 0 => 1
  | i + 1 => if hwP t h k n ts M i = 1 then (eW t h k n (ts i) (M i)).1 else hwP t h k n ts M i
/-- FORM -1: two TEXTS side by side -/
def stM (form t h k n : Int) (ts : Nat → List p_Li) (M : Nat → Nat → Int) : Nat → Nat → Int := fun i =>
  if form = -1 then (eW t h k n (ts i) (M i)).2 else if hwP t h k n ts M i = 1 then (eW t h k n (ts i) (M i)).2 else M i
def stA (form t h k n : Int) (ts : Nat → List p_Li) (m : Nat) (M : Nat → Nat → Int) (A : Aw) : Aw := if form = -1 then A else awS A t h k n (hwP t h k n ts M m)
def hitP (form N t h k n : Int) (ts : Nat → List p_Li) (m : Nat) (M : Nat → Nat → Int) (A : Aw) : Prop :=
  (form = -1 ∧ ∃ i, i < m ∧ (eW t h k n (ts i) (M i)).1 ≠ (eW t h k n (ts 0) (M 0)).1) ∨ (form ≠ -1 ∧ vioC (awS A t h k n (hwP t h k n ts M m)) t h k (hwP t h k n ts M m) form N)
/-- behind the row of j packets whose number is v (in places of THE ALPHABET of a) -/
def wdS (form : Int) (σ : Nat → Int) (ts : Nat → List p_Li) (m a : Nat) : Nat → Nat → (Nat → Nat → Int) × Aw
  | 0, _ => (fun _ _ => 0, aw0)
  | j + 1, v => (stM form (σ (1770 + 4 * (v % a))) (σ (1770 + 4 * (v % a) + 1)) (σ (1770 + 4 * (v % a) + 2)) (σ (1770 + 4 * (v % a) + 3)) ts (wdS form σ ts m a j (v / a)).1,
      stA form (σ (1770 + 4 * (v % a))) (σ (1770 + 4 * (v % a) + 1)) (σ (1770 + 4 * (v % a) + 2)) (σ (1770 + 4 * (v % a) + 3)) ts m (wdS form σ ts m a j (v / a)).1 (wdS form σ ts m a j (v / a)).2)
def hitV (form N : Int) (σ : Nat → Int) (ts : Nat → List p_Li) (m a : Nat) : Nat → Nat → Prop
  | 0, _ => False
  | j + 1, v => hitP form N (σ (1770 + 4 * (v % a))) (σ (1770 + 4 * (v % a) + 1)) (σ (1770 + 4 * (v % a) + 2)) (σ (1770 + 4 * (v % a) + 3)) ts m (wdS form σ ts m a j (v / a)).1 (wdS form σ ts m a j (v / a)).2
theorem hwP_rg {t h k n : Int} {ts : Nat → List p_Li} {M : Nat → Nat → Int} {m : Nat} (hM : ∀ i, i < m → muO (M i)) : ∀ i, i ≤ m → 0 ≤ hwP t h k n ts M i ∧ hwP t h k n ts M i ≤ 2
  | 0, _ => ⟨by show (0 : Int) ≤ 1; decide, by show (1 : Int) ≤ 2; decide⟩
  | i + 1, hi => by
    have ih := hwP_rg (t := t) (h := h) (k := k) (n := n) (ts := ts) hM i (by omega)
    unfold hwP
    split
    · exact (eW_rg _ _ (hM i (by omega))).2
    · exact ih
theorem wdS_ok {form : Int} {σ : Nat → Int} {ts : Nat → List p_Li} {m a : Nat} (hl : ∀ q : Nat, q < a → pkO (σ (1770 + 4 * q)) (σ (1770 + 4 * q + 1)) (σ (1770 + 4 * q + 2)) (σ (1770 + 4 * q + 3))) (ha : 0 < a) : ∀ (j v : Nat), (∀ i, i < m → muO ((wdS form σ ts m a j v).1 i)) ∧ awO j (wdS form σ ts m a j v).2
  | 0, v => ⟨fun i _ p _ => by show -2147483648 ≤ (0 : Int) ∧ (0 : Int) < 2147483648; decide, fun t _ => by show (0 ≤ (0 : Int) ∧ (0 : Int) ≤ 3) ∧ (0 ≤ (0 : Int) ∧ (0 : Int) ≤ 99) ∧ (0 ≤ (0 : Int) ∧ (0 : Int) ≤ 0); decide⟩
  | j + 1, v => by
    have ih := wdS_ok (form := form) (ts := ts) (m := m) hl ha j (v / a)
    have hp := hl (v % a) (Nat.mod_lt _ ha)
    refine ⟨fun i hi => ?_, ?_⟩
    · show muO (stM form _ _ _ _ ts (wdS form σ ts m a j (v / a)).1 i)
      unfold stM
      split
      · exact (eW_rg _ _ (ih.1 i hi)).1
      · split
        · exact (eW_rg _ _ (ih.1 i hi)).1
        · exact ih.1 i hi
    · show awO (j + 1) (stA form _ _ _ _ ts m (wdS form σ ts m a j (v / a)).1 (wdS form σ ts m a j (v / a)).2)
      unfold stA
      split
      · intro t ht
        have := ih.2 t ht
        exact ⟨this.1, this.2.1, this.2.2.1, by omega⟩
      · exact awO_S ih.2 hp
theorem wd_div {a pv q : Nat} (hq : q < a) : (pv * a + q) / a = pv ∧ (pv * a + q) % a = q := by
  have ha : 0 < a := by omega
  refine ⟨?_, ?_⟩
  · rw [Nat.add_comm, Nat.add_mul_div_right _ _ ha, Nat.div_eq_of_lt hq, Nat.zero_add]
  · rw [Nat.add_comm, Nat.add_mul_mod_self_right, Nat.mod_eq_of_lt hq]
theorem wd_quo {p c v : Nat} (h1 : c * p ≤ v) (h2 : v < (c + 1) * p) : v / p = c := Nat.div_eq_of_lt_le h1 h2
/-- the search of the class: what it is told, its TEXTS, THE ALPHABET -/
def SrC (S : m_H) (V : v_V) (form N : Int) (a m : Nat) (ts : Nat → List p_Li) (σ : Nat → Int) : Prop :=
  ce S 116 4 [.ref 117, .ref 118, .ref 119, .ref 120, .int 0, .ref 7, .int 0, .int 0, .int 0, .ref 121] ∧ (V 116 4 = (m : Int) ∧ V 116 6 = (a : Int) ∧ V 116 7 = form ∧ V 116 8 = N) ∧
  (∃ xs, ce S 119 22 xs ∧ xs.length = 4 ∧ ∀ i : Nat, i < m → ∃ t : Nat, m_nth xs i = some (.ref t) ∧ 193 ≤ t ∧ TxS S t ∧ CT V t (ts i)) ∧
  (∃ la, ce S 7 24 la ∧ la.length = 5 ∧ ∀ q : Nat, q < a → ∃ pk : Nat, m_nth la q = some (.ref pk) ∧ 193 ≤ pk ∧ PkS S V pk (σ (1770 + 4 * q)) (σ (1770 + 4 * q + 1)) (σ (1770 + 4 * q + 2)) (σ (1770 + 4 * q + 3)))
theorem SrC_r {S : m_H} {V V' : v_V} {form N : Int} {a m : Nat} {ts : Nat → List p_Li} {σ : Nat → Int} (h : SrC S V form N a m ts σ) (e : V' 116 = V 116) (hi : ∀ k, 193 ≤ k → V' k = V k) : SrC S V' form N a m ts σ := by
  obtain ⟨h1, h2, ⟨xs, x1, x2, x3⟩, ⟨la, y1, y2, y3⟩⟩ := h
  refine ⟨h1, by rw [e]; exact h2, ⟨xs, x1, x2, fun i him => ?_⟩, ⟨la, y1, y2, fun q hq => ?_⟩⟩
  · obtain ⟨t, t1, t2, t3, t4⟩ := x3 i him
    exact ⟨t, t1, t2, t3, CT_hi hi t2 t4⟩
  · obtain ⟨pk, p1, p2, p3⟩ := y3 q hq
    exact ⟨pk, p1, p2, PkS_r p3 (hi pk p2)⟩
/-- what the search leaves that goes on behind the row of j packets -/
def FrS (j : Nat) (V V' : v_V) : Prop := ∀ k, k ≠ 121 → (k < 123 + 8 * (j + 1) ∨ (154 ≤ k ∧ k < 154 + 4 * (j + 1)) ∨ 170 ≤ k) → V' k = V k
theorem FrS_rf (j : Nat) (V : v_V) : FrS j V V := fun _ _ _ => rfl
theorem FrS_tr {j : Nat} {V V' V'' : v_V} (h : FrS j V V') (h2 : FrS j V' V'') : FrS j V V'' := fun k a b => (h2 k a b).trans (h k a b)
theorem FrS_le {j i : Nat} {V V' : v_V} (h : FrS i V V') (hj : j ≤ i) : FrS j V V' := fun k a b => h k a (by omega)
/-- what stands in the class' stage j -/
def SgC (V : v_V) (j : Nat) (form : Int) (m : Nat) (M : Nat → Nat → Int) (A : Aw) : Prop := (∀ i : Nat, i < m → ∀ p : Nat, p < 84 → V (123 + 2 * (4 * j + i)) p = M i p) ∧ (form ≠ -1 → RWc V j A)
theorem SgC_r {V V' : v_V} {j : Nat} {form : Int} {m : Nat} {M : Nat → Nat → Int} {A : Aw} (h : SgC V j form m M A) (hm : m ≤ 4) (hj : j ≤ 3) (e : FrS j V V') : SgC V' j form m M A := by
  refine ⟨fun i hi p hp => ?_, fun hf => ?_⟩
  · rw [e _ (by omega) (by omega)]
    exact h.1 i hi p hp
  · exact RWc_r (h.2 hf) ⟨by rw [e _ (by omega) (by omega)], by rw [e _ (by omega) (by omega)], by rw [e _ (by omega) (by omega)]⟩ (e _ (by omega) (by omega)) (e _ (by omega) (by omega)) (e _ (by omega) (by omega))
end
section
/-! a packet more in the search: the class -/
section
variable {X : Nat → List Int32} {u w : Nat} {S : m_H} {V : v_V} {K : v_K}
set_option maxRecDepth 100000 in
set_option maxHeartbeats 4000000 in
theorem cc_carried (hC : ClF S) (h116 : ce S 116 4 [.ref 117, .ref 118, .ref 119, .ref 120, .int 0, .ref 7, .int 0, .int 0, .int 0, .ref 121]) {j i : Nat} (hj : j < 3) (hi : i < 4) (k : K u w (some (.ref (122 + 2 * (4 * (j + 1) + i)))) S (v_ur V (123 + 2 * (4 * (j + 1) + i)) (V (123 + 2 * (4 * j + i))))) : y_R X 2 38 u w [.ref 116, iv (j : Int), iv (i : Int)] S V K := by
  obtain ⟨vs1, hb11, hb12⟩ := mm_ref hC (i := 4 * (j + 1) + i) (by omega)
  obtain ⟨vs0, hb01, hb02⟩ := mm_ref hC (i := 4 * j + i) (by omega)
  refine y_ent (lv' := [(0, .ref 116), (1, iv (j : Int)), (2, iv (i : Int))]) (Nat.le_of_ble_eq_true rfl) rfl ?_
  refine y_ld (x := .ref 116) rfl rfl (fun d => rfl) ?_
  refine y_gR (i := 0) rfl rfl rfl h116 rfl ?_
  refine y_ld (x := iv (j : Int)) rfl rfl (fun d => rfl) ?_
  refine y_ic rfl rfl ?_
  refine y_add (z := ((j : Int) + 1)) rfl rfl rfl ?_
  refine y_ic rfl rfl ?_
  refine y_mul (z := (((j : Int) + 1) * 4)) rfl rfl rfl ?_
  refine y_ld (x := iv (i : Int)) rfl rfl (fun d => rfl) ?_
  refine y_add (z := ((((j : Int) + 1) * 4) + (i : Int))) rfl rfl rfl ?_
  refine y_rld (i := (4 * (j + 1) + i)) (x := 122 + 2 * (4 * (j + 1) + i)) rfl rfl hb11 (by decide) (by omega) (by omega) hb12 ?_
  refine y_st (lv' := [(3, .ref (122 + 2 * (4 * (j + 1) + i))), (0, .ref 116), (1, iv (j : Int)), (2, iv (i : Int))]) rfl rfl (fun d => rfl) ?_
  refine y_ld (x := .ref (122 + 2 * (4 * (j + 1) + i))) rfl rfl (fun d => rfl) ?_
  refine y_ld (x := .ref 116) rfl rfl (fun d => rfl) ?_
  refine y_gR (i := 0) rfl rfl rfl h116 rfl ?_
  refine y_ld (x := iv (j : Int)) rfl rfl (fun d => rfl) ?_
  refine y_ic rfl rfl ?_
  refine y_mul (z := ((j : Int) * 4)) rfl rfl rfl ?_
  refine y_ld (x := iv (i : Int)) rfl rfl (fun d => rfl) ?_
  refine y_add (z := (((j : Int) * 4) + (i : Int))) rfl rfl rfl ?_
  refine y_rld (i := (4 * j + i)) (x := 122 + 2 * (4 * j + i)) rfl rfl hb01 (by decide) (by omega) (by omega) hb02 ?_
  refine y_cV (as := [.ref (122 + 2 * (4 * (j + 1) + i)), .ref (122 + 2 * (4 * j + i))]) rfl rfl rfl rfl rfl (mm_ob hC (i := 4 * (j + 1) + i) (by omega)).1 ⟨rfl, (Nat.le_of_ble_eq_true rfl), (Nat.le_of_ble_eq_true rfl)⟩ (by decide) (cc_mbec (mm_ob hC (i := 4 * (j + 1) + i) (by omega)) (mm_ob hC (i := 4 * j + i) (by omega)) ?_)
  refine y_n0 ?_
  refine y_ld (x := .ref (122 + 2 * (4 * (j + 1) + i))) rfl rfl (fun d => rfl) ?_
  refine y_ret rfl (fun d => rfl) ?_
  exact k
set_option maxRecDepth 100000 in
set_option maxHeartbeats 4000000 in
theorem lp_breaks (hC : ClF S) {form N : Int} {al mt : Nat} {ts : Nat → List p_Li} {σ : Nat → Int} {j pk : Nat} {a h κ n : Int} {M : Nat → Nat → Int} {A : Aw} (hm4 : mt ≤ 4) (hj : j < 3) (hpk : pkO a h κ n) (hkl : 193 ≤ pk) (hMr : ∀ i, i < mt → muO (M i)) (hTO : ∀ i, i < mt → TO (ts i)) (hSr0 : SrC S V form N al mt ts σ) (hM0 : ∀ i, i < mt → ∀ p : Nat, p < 84 → V (123 + 2 * (4 * j + i)) p = M i p) (hP0 : PkS S V pk a h κ n) {F : Nat} : ∀ (m : Nat) (i : Nat) (W : v_V), mt - i < m → (i ≤ mt) → (∀ k, (∀ q : Nat, q < 4 → k ≠ 123 + 2 * (4 * (j + 1) + q)) → W k = V k) → (∀ q : Nat, q < i → ∀ p : Nat, p < 84 → W (123 + 2 * (4 * (j + 1) + q)) p = (if hwP a h κ n ts M q = 1 then (eW a h κ n (ts q) (M q)).2 else M q) p) → (∀ W : v_V, (∀ k, (∀ q : Nat, q < 4 → k ≠ 123 + 2 * (4 * (j + 1) + q)) → W k = V k) → (∀ q : Nat, q < mt → ∀ p : Nat, p < 84 → W (123 + 2 * (4 * (j + 1) + q)) p = (if hwP a h κ n ts M q = 1 then (eW a h κ n (ts q) (M q)).2 else M q) p) → y_E X 8 36 F u w 64 [(0, .ref 116), (1, iv (j : Int)), (2, .ref pk), (3, iv (hwP a h κ n ts M mt))] [] S W K) → y_E X 8 36 (80 * m + F) u w 5 [(0, .ref 116), (1, iv (j : Int)), (2, .ref pk), (3, iv (hwP a h κ n ts M i)), (4, iv (i : Int))] [] S W K := by
  intro m
  induction m with
  | zero => intros; omega
  | succ m ih =>
    intro i W hm1 hI hF hD hx2
    refine y_mono (F' := (80 * m + F) + 80) ?_ (by omega)
    refine y_ld (x := iv (i : Int)) rfl rfl (fun d => rfl) ?_
    refine y_ld (x := .ref 116) rfl rfl (fun d => rfl) ?_
    refine y_gI (i := 4) (e := (mt : Int)) rfl rfl rfl hSr0.1 rfl ((congrFun (hF 116 (fun q hq => by omega)) 4).trans hSr0.2.1.1) ?_
    refine y_jge rfl rfl rfl (by omega) (fun g1 => ?_) (fun g1 => ?_)
    · obtain rfl : i = mt := by have := hSr0.2.1.1; have := hF 116 (fun q hq => by omega); omega
      refine y_lv (l' := [(0, .ref 116), (1, iv (j : Int)), (2, .ref pk), (3, iv (hwP a h κ n ts M i))]) rfl ⟨rfl, rfl, rfl, rfl, trivial⟩ ?_
      exact y_mono (hx2 W hF hD) (by omega)
    · have hSr := SrC_r hSr0 (hF 116 (fun q hq => by omega)) (fun k hk => hF k (fun q hq => by omega))
      have hM : ∀ i, i < mt → ∀ p : Nat, p < 84 → W (123 + 2 * (4 * j + i)) p = M i p := fun q hq p hp => by rw [hF _ (fun q2 hq2 => by omega)]; exact hM0 q hq p hp
      have hP := PkS_r hP0 (hF pk (fun q hq => by omega))
      have hwr := hwP_rg (t := a) (h := h) (k := κ) (n := n) (ts := ts) hMr i (by omega)
      have hmi_ : i < mt := by omega
      obtain ⟨xs, x1, x2, x3⟩ := hSr.2.2.1
      obtain ⟨t, t1, t2, t3, t4⟩ := x3 i (by omega)
      have hl := hTO i (by omega)
      refine y_ld (x := .ref 116) rfl rfl (fun d => rfl) ?_
      refine y_ld (x := iv (j : Int)) rfl rfl (fun d => rfl) ?_
      refine y_ld (x := iv (i : Int)) rfl rfl (fun d => rfl) ?_
      refine y_cV (as := [.ref 116, iv (j : Int), iv (i : Int)]) rfl rfl rfl rfl rfl hSr0.1 ⟨rfl, (Nat.le_of_ble_eq_true rfl), (Nat.le_of_ble_eq_true rfl)⟩ (by decide) (cc_carried hC hSr.1 (j := j) (i := i) (by omega) (by omega) ?_)
      refine y_nv ?_
      refine y_st (lv' := [(5, .ref (122 + 2 * (4 * (j + 1) + i))), (0, .ref 116), (1, iv (j : Int)), (2, .ref pk), (3, iv (hwP a h κ n ts M i)), (4, iv (i : Int))]) rfl rfl (fun d => rfl) ?_
      have en : ∀ k, k ≠ 123 + 2 * (4 * (j + 1) + i) → (v_ur W (123 + 2 * (4 * (j + 1) + i)) (W (123 + 2 * (4 * j + i)))) k = W k := fun k hk => v_ur_ne hk
      have er : (v_ur W (123 + 2 * (4 * (j + 1) + i)) (W (123 + 2 * (4 * j + i)))) (123 + 2 * (4 * (j + 1) + i)) = W (123 + 2 * (4 * j + i)) := v_ur_eq _ _ _
      have hmi : ∀ p : Nat, p < 84 → (v_ur W (123 + 2 * (4 * (j + 1) + i)) (W (123 + 2 * (4 * j + i)))) (123 + 2 * (4 * (j + 1) + i)) p = M i p := fun p hp => by rw [er]; exact hM i (by omega) p hp
      have hmu : muO ((v_ur W (123 + 2 * (4 * (j + 1) + i)) (W (123 + 2 * (4 * j + i)))) (123 + 2 * (4 * (j + 1) + i))) := fun p hp => by rw [hmi p hp]; exact hMr i (by omega) p hp
      have hct : CT (v_ur W (123 + 2 * (4 * (j + 1) + i)) (W (123 + 2 * (4 * j + i)))) t (ts i) := CT_r t4 (fun q hq => en _ (by omega))
      have hPp : PkS S (v_ur W (123 + 2 * (4 * (j + 1) + i)) (W (123 + 2 * (4 * j + i)))) pk a h κ n := PkS_r hP (en _ (by omega))
      have ec := eW_congr hpk (ts i) _ _ hmi hl.1
      have el := eL_congr hmi hpk (ts i) 0 hl.1
      refine y_ld (x := iv (hwP a h κ n ts M i)) rfl rfl (fun d => rfl) ?_
      refine y_ic rfl rfl ?_
      refine y_jeq rfl rfl rfl (by omega) (fun g2 => ?_) (fun g2 => ?_)
      · refine y_ld (x := .ref 116) rfl rfl (fun d => rfl) ?_
        refine y_gR (i := 2) rfl rfl rfl hSr0.1 rfl ?_
        refine y_ld (x := iv (i : Int)) rfl rfl (fun d => rfl) ?_
        refine y_rld (i := i) (x := t) rfl rfl x1 (by decide) (by omega) (by omega) t1 ?_
        refine y_ld (x := .ref 116) rfl rfl (fun d => rfl) ?_
        refine y_gR (i := 2) rfl rfl rfl hSr0.1 rfl ?_
        refine y_ld (x := iv (i : Int)) rfl rfl (fun d => rfl) ?_
        refine y_rld (i := i) (x := t) rfl rfl x1 (by decide) (by omega) (by omega) t1 ?_
        refine y_ld (x := .ref pk) rfl rfl (fun d => rfl) ?_
        refine y_ld (x := .ref (122 + 2 * (4 * (j + 1) + i))) rfl rfl (fun d => rfl) ?_
        refine y_cV (as := [.ref t, .ref pk, .ref (122 + 2 * (4 * (j + 1) + i))]) rfl rfl rfl rfl rfl t3.1 ⟨rfl, (Nat.le_of_ble_eq_true rfl), (Nat.le_of_ble_eq_true rfl)⟩ (by decide) (cc_lineFor t3 (mm_ob hC (i := 4 * (j + 1) + i) (by omega)) rfl hPp hpk hmu (CT_w6 hct hl) hct hl.1 hl.2.1 hl.2.2.1 ?_)
        refine y_nv ?_
        rcases eLW ((v_ur W (123 + 2 * (4 * (j + 1) + i)) (W (123 + 2 * (4 * j + i)))) (123 + 2 * (4 * (j + 1) + i))) a h κ n (ts i) 0 with ⟨e1, e2⟩ | ⟨q, y, e1, e2, e3⟩
        · refine y_iv (e' := -5) e1 ?_
          refine y_ld (x := .ref pk) rfl rfl (fun d => rfl) ?_
          refine y_ld (x := .ref (122 + 2 * (4 * (j + 1) + i))) rfl rfl (fun d => rfl) ?_
          refine y_cV (as := [.ref t, iv (-5), .ref pk, .ref (122 + 2 * (4 * (j + 1) + i))]) rfl rfl rfl rfl rfl t3.1 ⟨rfl, (Nat.le_of_ble_eq_true rfl), (Nat.le_of_ble_eq_true rfl)⟩ (by decide) (cc_does5 t3 ?_)
          refine y_nv ?_
          have ew : 1 = (eW a h κ n (ts i) (M i)).1 := by rw [← ec.1, e2]
          have erow : ∀ p : Nat, p < 84 → (v_ur W (123 + 2 * (4 * (j + 1) + i)) (W (123 + 2 * (4 * j + i)))) (123 + 2 * (4 * (j + 1) + i)) p = (eW a h κ n (ts i) (M i)).2 p := fun p hp => by rw [← ec.2 p hp, e2]
          have en2 : ∀ k, k ≠ 123 + 2 * (4 * (j + 1) + i) → (v_ur W (123 + 2 * (4 * (j + 1) + i)) (W (123 + 2 * (4 * j + i)))) k = W k := en
          refine y_iv ew ?_
          refine y_st (lv' := [(3, iv ((eW a h κ n (ts i) (M i)).1)), (5, .ref (122 + 2 * (4 * (j + 1) + i))), (0, .ref 116), (1, iv (j : Int)), (2, .ref pk), (4, iv (i : Int))]) rfl rfl (fun d => rfl) ?_
          refine y_inc (z := ((i + 1 : Nat) : Int)) (lv' := [(4, iv ((i + 1 : Nat) : Int)), (3, iv ((eW a h κ n (ts i) (M i)).1)), (5, .ref (122 + 2 * (4 * (j + 1) + i))), (0, .ref 116), (1, iv (j : Int)), (2, .ref pk)]) rfl rfl rfl (by omega) rfl ?_
          refine y_go rfl rfl ?_
          refine y_lv (l' := [(0, .ref 116), (1, iv (j : Int)), (2, .ref pk), (3, iv ((eW a h κ n (ts i) (M i)).1)), (4, iv ((i + 1 : Nat) : Int))]) rfl ⟨rfl, rfl, rfl, rfl, rfl, trivial⟩ ?_
          have eh : hwP a h κ n ts M (i + 1) = (eW a h κ n (ts i) (M i)).1 := if_pos (by omega)
          have es : ∀ p : Nat, p < 84 → (v_ur W (123 + 2 * (4 * (j + 1) + i)) (W (123 + 2 * (4 * j + i)))) (123 + 2 * (4 * (j + 1) + i)) p = (if hwP a h κ n ts M i = 1 then (eW a h κ n (ts i) (M i)).2 else M i) p := fun p hp => by rw [if_pos (by omega)]; exact erow p hp
          rw [← eh]
          refine y_mono (ih (i + 1) (v_ur W (123 + 2 * (4 * (j + 1) + i)) (W (123 + 2 * (4 * j + i)))) (by omega) (by omega) (fun k hk => (en2 k (hk i (by omega))).trans (hF k hk)) (fun q hq p hp => ?_) hx2) (by omega)
          rcases (show q < i ∨ q = i by omega) with h7 | h7
          · rw [en2 _ (by omega)]; exact hD q h7 p hp
          · rw [h7]; exact es p hp
        · refine y_iv (e' := (q : Int)) (by rw [e1, Nat.zero_add]) ?_
          refine y_ld (x := .ref pk) rfl rfl (fun d => rfl) ?_
          refine y_ld (x := .ref (122 + 2 * (4 * (j + 1) + i))) rfl rfl (fun d => rfl) ?_
          have hxm : y ∈ ts i := by rw [m_nth_eq] at e2; exact List.mem_of_getElem? e2
          have hyo := hl.1 y hxm
          have hjl := m_nth_lt e2
          have hln := hl.2.2.1
          obtain ⟨p, b1, b2, b3, b4, b5, b6, b7⟩ := CT_line hct e2
          refine y_cV (as := [.ref t, iv (q : Int), .ref pk, .ref (122 + 2 * (4 * (j + 1) + i))]) rfl rfl rfl rfl rfl t3.1 ⟨rfl, (Nat.le_of_ble_eq_true rfl), (Nat.le_of_ble_eq_true rfl)⟩ (by decide) (cc_does (p := p + (encTc y.2.2.1).length) (L := y.2.2.2) t3 (mm_ob hC (i := 4 * (j + 1) + i) (by omega)) hpk (by omega) t2 hkl (by omega) ⟨by rw [hct.1]; omega, by rw [hct.1]; omega⟩ b3 b4 (by have := hyo.2.2.2.2; omega) b6 hyo.2.1 hPp hmu b7 (CT_w6 hct hl) ?_)
          refine y_nv ?_
          have ew : (eA a h κ n y.2.2.2 ((v_ur W (123 + 2 * (4 * (j + 1) + i)) (W (123 + 2 * (4 * j + i)))) (123 + 2 * (4 * (j + 1) + i)))).1 = (eW a h κ n (ts i) (M i)).1 := by rw [← ec.1, e3]
          have erow : ∀ p : Nat, p < 84 → (v_ur (v_ur W (123 + 2 * (4 * (j + 1) + i)) (W (123 + 2 * (4 * j + i)))) (123 + 2 * (4 * (j + 1) + i)) (eA a h κ n y.2.2.2 ((v_ur W (123 + 2 * (4 * (j + 1) + i)) (W (123 + 2 * (4 * j + i)))) (123 + 2 * (4 * (j + 1) + i)))).2) (123 + 2 * (4 * (j + 1) + i)) p = (eW a h κ n (ts i) (M i)).2 p := fun p hp => by rw [v_ur_eq, ← ec.2 p hp, e3]
          have en2 : ∀ k, k ≠ 123 + 2 * (4 * (j + 1) + i) → (v_ur (v_ur W (123 + 2 * (4 * (j + 1) + i)) (W (123 + 2 * (4 * j + i)))) (123 + 2 * (4 * (j + 1) + i)) (eA a h κ n y.2.2.2 ((v_ur W (123 + 2 * (4 * (j + 1) + i)) (W (123 + 2 * (4 * j + i)))) (123 + 2 * (4 * (j + 1) + i)))).2) k = W k := fun k hk => (v_ur_ne hk).trans (en k hk)
          refine y_iv ew ?_
          refine y_st (lv' := [(3, iv ((eW a h κ n (ts i) (M i)).1)), (5, .ref (122 + 2 * (4 * (j + 1) + i))), (0, .ref 116), (1, iv (j : Int)), (2, .ref pk), (4, iv (i : Int))]) rfl rfl (fun d => rfl) ?_
          refine y_inc (z := ((i + 1 : Nat) : Int)) (lv' := [(4, iv ((i + 1 : Nat) : Int)), (3, iv ((eW a h κ n (ts i) (M i)).1)), (5, .ref (122 + 2 * (4 * (j + 1) + i))), (0, .ref 116), (1, iv (j : Int)), (2, .ref pk)]) rfl rfl rfl (by omega) rfl ?_
          refine y_go rfl rfl ?_
          refine y_lv (l' := [(0, .ref 116), (1, iv (j : Int)), (2, .ref pk), (3, iv ((eW a h κ n (ts i) (M i)).1)), (4, iv ((i + 1 : Nat) : Int))]) rfl ⟨rfl, rfl, rfl, rfl, rfl, trivial⟩ ?_
          have eh : hwP a h κ n ts M (i + 1) = (eW a h κ n (ts i) (M i)).1 := if_pos (by omega)
          have es : ∀ p : Nat, p < 84 → (v_ur (v_ur W (123 + 2 * (4 * (j + 1) + i)) (W (123 + 2 * (4 * j + i)))) (123 + 2 * (4 * (j + 1) + i)) (eA a h κ n y.2.2.2 ((v_ur W (123 + 2 * (4 * (j + 1) + i)) (W (123 + 2 * (4 * j + i)))) (123 + 2 * (4 * (j + 1) + i)))).2) (123 + 2 * (4 * (j + 1) + i)) p = (if hwP a h κ n ts M i = 1 then (eW a h κ n (ts i) (M i)).2 else M i) p := fun p hp => by rw [if_pos (by omega)]; exact erow p hp
          rw [← eh]
          refine y_mono (ih (i + 1) (v_ur (v_ur W (123 + 2 * (4 * (j + 1) + i)) (W (123 + 2 * (4 * j + i)))) (123 + 2 * (4 * (j + 1) + i)) (eA a h κ n y.2.2.2 ((v_ur W (123 + 2 * (4 * (j + 1) + i)) (W (123 + 2 * (4 * j + i)))) (123 + 2 * (4 * (j + 1) + i)))).2) (by omega) (by omega) (fun k hk => (en2 k (hk i (by omega))).trans (hF k hk)) (fun q hq p hp => ?_) hx2) (by omega)
          rcases (show q < i ∨ q = i by omega) with h7 | h7
          · rw [en2 _ (by omega)]; exact hD q h7 p hp
          · rw [h7]; exact es p hp
      · refine y_go rfl rfl ?_
        refine y_inc (z := ((i + 1 : Nat) : Int)) (lv' := [(4, iv ((i + 1 : Nat) : Int)), (5, .ref (122 + 2 * (4 * (j + 1) + i))), (0, .ref 116), (1, iv (j : Int)), (2, .ref pk), (3, iv (hwP a h κ n ts M i))]) rfl rfl rfl (by omega) rfl ?_
        refine y_go rfl rfl ?_
        refine y_lv (l' := [(0, .ref 116), (1, iv (j : Int)), (2, .ref pk), (3, iv (hwP a h κ n ts M i)), (4, iv ((i + 1 : Nat) : Int))]) rfl ⟨rfl, rfl, rfl, rfl, rfl, trivial⟩ ?_
        have eh : hwP a h κ n ts M (i + 1) = hwP a h κ n ts M i := if_neg (by omega)
        have es : ∀ p : Nat, p < 84 → (v_ur W (123 + 2 * (4 * (j + 1) + i)) (W (123 + 2 * (4 * j + i)))) (123 + 2 * (4 * (j + 1) + i)) p = (if hwP a h κ n ts M i = 1 then (eW a h κ n (ts i) (M i)).2 else M i) p := fun p hp => by rw [if_neg (by omega)]; exact hmi p hp
        have en2 := en
        rw [← eh]
        refine y_mono (ih (i + 1) (v_ur W (123 + 2 * (4 * (j + 1) + i)) (W (123 + 2 * (4 * j + i)))) (by omega) (by omega) (fun k hk => (en2 k (hk i (by omega))).trans (hF k hk)) (fun q hq p hp => ?_) hx2) (by omega)
        rcases (show q < i ∨ q = i by omega) with h7 | h7
        · rw [en2 _ (by omega)]; exact hD q h7 p hp
        · rw [h7]; exact es p hp
end
end
section
/-! breaks, partsWays: the class -/
section
variable {X : Nat → List Int32} {u w : Nat} {S : m_H} {V : v_V} {K : v_K}
set_option maxRecDepth 100000 in
set_option maxHeartbeats 4000000 in
theorem cc_breaks (hC : ClF S) {form N : Int} {al mt : Nat} {ts : Nat → List p_Li} {σ : Nat → Int} {j pk : Nat} {a h κ n : Int} {M : Nat → Nat → Int} {A : Aw} (hm4 : mt ≤ 4) (hj : j < 3) (hpk : pkO a h κ n) (hkl : 193 ≤ pk) (hMr : ∀ i, i < mt → muO (M i)) (hTO : ∀ i, i < mt → TO (ts i)) (hSr0 : SrC S V form N al mt ts σ) (hP0 : PkS S V pk a h κ n) (hSg : SgC V j form mt M A) (hAo : awO j A) (hfm : 0 ≤ form ∧ form ≤ 4) (hN : 0 ≤ N ∧ N ≤ 99) (k1 : hitP form N a h κ n ts mt M A → ∀ V2, SgC V2 (j + 1) form mt (stM form a h κ n ts M) (stA form a h κ n ts mt M A) → FrS j V V2 → V2 121 = V 121 → K u w (some (iv 1)) S V2) (k0 : ¬ hitP form N a h κ n ts mt M A → ∀ V2, SgC V2 (j + 1) form mt (stM form a h κ n ts M) (stA form a h κ n ts mt M A) → FrS j V V2 → V2 121 = V 121 → K u w (some (iv 0)) S V2) : y_R X 9 36 u w [.ref 116, iv (j : Int), .ref pk] S V K := by
  refine y_ent (lv' := [(0, .ref 116), (1, iv (j : Int)), (2, .ref pk)]) (Nat.le_of_ble_eq_true rfl) rfl ?_
  refine y_ic rfl rfl ?_
  refine y_st (lv' := [(3, iv 1), (0, .ref 116), (1, iv (j : Int)), (2, .ref pk)]) rfl rfl (fun d => rfl) ?_
  refine y_ic rfl rfl ?_
  refine y_st (lv' := [(4, iv 0), (3, iv 1), (0, .ref 116), (1, iv (j : Int)), (2, .ref pk)]) rfl rfl (fun d => rfl) ?_
  refine y_lv (l' := [(0, .ref 116), (1, iv (j : Int)), (2, .ref pk), (3, iv (hwP a h κ n ts M 0)), (4, iv ((0 : Nat) : Int))]) rfl ⟨rfl, rfl, rfl, rfl, rfl, trivial⟩ ?_
  refine y_mono (lp_breaks (A := A) (F := 500) hC hm4 hj hpk hkl hMr hTO hSr0 hSg.1 hP0 5 0 V (by omega) (by omega) (fun k _ => rfl) (fun q hq => absurd hq (by omega)) (fun W hF hD => ?_)) (by decide)
  have hR0 : RWc W j A := RWc_r (hSg.2 (by omega)) ⟨by rw [hF _ (fun q hq => by omega)], by rw [hF _ (fun q hq => by omega)], by rw [hF _ (fun q hq => by omega)]⟩ (hF _ (fun q hq => by omega)) (hF _ (fun q hq => by omega)) (hF _ (fun q hq => by omega))
  obtain ⟨vs1, hb11, hb12⟩ := ww_ref hC (i := j + 1) (by omega)
  obtain ⟨vs0, hb01, hb02⟩ := ww_ref hC (i := j) (by omega)
  have hwr := hwP_rg (t := a) (h := h) (k := κ) (n := n) (ts := ts) hMr mt (Nat.le_refl _)
  refine y_ld (x := .ref 116) rfl rfl (fun d => rfl) ?_
  refine y_gR (i := 1) rfl rfl rfl hSr0.1 rfl ?_
  refine y_ld (x := iv (j : Int)) rfl rfl (fun d => rfl) ?_
  refine y_ic rfl rfl ?_
  refine y_add (z := ((j : Int) + 1)) rfl rfl rfl ?_
  refine y_rld (i := j + 1) (x := 154 + 4 * (j + 1)) rfl rfl hb11 (by decide) (by omega) (by omega) hb12 ?_
  refine y_ld (x := .ref 116) rfl rfl (fun d => rfl) ?_
  refine y_gR (i := 1) rfl rfl rfl hSr0.1 rfl ?_
  refine y_ld (x := iv (j : Int)) rfl rfl (fun d => rfl) ?_
  refine y_rld (i := j) (x := 154 + 4 * j) rfl rfl hb01 (by decide) (by omega) (by omega) hb02 ?_
  refine y_cV (as := [.ref (154 + 4 * (j + 1)), .ref (154 + 4 * j)]) rfl rfl rfl rfl rfl (ww_ob hC (i := j + 1) (by omega)) ⟨rfl, (Nat.le_of_ble_eq_true rfl), (Nat.le_of_ble_eq_true rfl)⟩ (by decide) (cw_become (i := j) hC (by omega) hR0 (fun W2 hR2 hF2 => ?_))
  refine y_n0 ?_
  refine y_ld (x := .ref 116) rfl rfl (fun d => rfl) ?_
  refine y_gR (i := 1) rfl rfl rfl hSr0.1 rfl ?_
  refine y_ld (x := iv (j : Int)) rfl rfl (fun d => rfl) ?_
  refine y_ic rfl rfl ?_
  refine y_add (z := ((j : Int) + 1)) rfl rfl rfl ?_
  refine y_rld (i := j + 1) (x := 154 + 4 * (j + 1)) rfl rfl hb11 (by decide) (by omega) (by omega) hb12 ?_
  refine y_ld (x := .ref pk) rfl rfl (fun d => rfl) ?_
  refine y_ld (x := iv (hwP a h κ n ts M mt)) rfl rfl (fun d => rfl) ?_
  refine y_ld (x := .ref 116) rfl rfl (fun d => rfl) ?_
  refine y_gI (i := 7) (e := form) rfl rfl rfl hSr0.1 rfl ((congrFun ((hF2 116 (by omega)).trans (hF 116 (fun q hq => by omega))) 7).trans hSr0.2.1.2.2.1) ?_
  refine y_ld (x := .ref 116) rfl rfl (fun d => rfl) ?_
  refine y_gI (i := 8) (e := N) rfl rfl rfl hSr0.1 rfl ((congrFun ((hF2 116 (by omega)).trans (hF 116 (fun q hq => by omega))) 8).trans hSr0.2.1.2.2.2) ?_
  refine y_cV (as := [.ref (154 + 4 * (j + 1)), .ref pk, iv (hwP a h κ n ts M mt), iv form, iv N]) rfl rfl rfl rfl rfl (ww_ob hC (i := j + 1) (by omega)) ⟨rfl, (Nat.le_of_ble_eq_true rfl), (Nat.le_of_ble_eq_true rfl)⟩ (by decide) (cw_sees (i := j + 1) hC (by omega) hR2 hAo (by omega) (PkS_r hP0 ((hF2 pk (by omega)).trans (hF pk (fun q hq => by omega)))) hpk hkl hwr hfm hN (fun hv V3 hR3 hF3 => ?_) (fun hv V3 hR3 hF3 => ?_))
  · refine y_nv ?_
    refine y_rI rfl (by decide) ?_
    have eA : (stA form a h κ n ts mt M A) = awS A a h κ n (hwP a h κ n ts M mt) := if_neg (by omega)
    have efr : ∀ k, (k < 154 + 4 * (j + 1) ∨ 154 + 4 * (j + 1) + 3 < k) → (∀ q : Nat, q < 4 → k ≠ 123 + 2 * (4 * (j + 1) + q)) → V3 k = V k := fun k h1 h2 => (hF3 k h1).trans ((hF2 k h1).trans (hF k h2))
    have hsg : SgC V3 (j + 1) form mt (stM form a h κ n ts M) (stA form a h κ n ts mt M A) := by
      refine ⟨fun i hi p hp => ?_, fun _ => by rw [eA]; exact hR3⟩
      rw [hF3 _ (by omega), hF2 _ (by omega), hD i hi p hp]
      show _ = stM form a h κ n ts M i p
      exact (congrFun (if_neg (show ¬ form = -1 by omega)) p).symm
    have hfs : FrS j V V3 := fun k h1 h2 => efr k (by omega) (fun q hq => by omega)
    have h121 : V3 121 = V 121 := efr 121 (by omega) (fun q hq => by omega)
    exact k1 (Or.inr ⟨by omega, hv⟩) V3 hsg hfs h121
  · refine y_nv ?_
    refine y_rI rfl (by decide) ?_
    have eA : (stA form a h κ n ts mt M A) = awS A a h κ n (hwP a h κ n ts M mt) := if_neg (by omega)
    have efr : ∀ k, (k < 154 + 4 * (j + 1) ∨ 154 + 4 * (j + 1) + 3 < k) → (∀ q : Nat, q < 4 → k ≠ 123 + 2 * (4 * (j + 1) + q)) → V3 k = V k := fun k h1 h2 => (hF3 k h1).trans ((hF2 k h1).trans (hF k h2))
    have hsg : SgC V3 (j + 1) form mt (stM form a h κ n ts M) (stA form a h κ n ts mt M A) := by
      refine ⟨fun i hi p hp => ?_, fun _ => by rw [eA]; exact hR3⟩
      rw [hF3 _ (by omega), hF2 _ (by omega), hD i hi p hp]
      show _ = stM form a h κ n ts M i p
      exact (congrFun (if_neg (show ¬ form = -1 by omega)) p).symm
    have hfs : FrS j V V3 := fun k h1 h2 => efr k (by omega) (fun q hq => by omega)
    have h121 : V3 121 = V 121 := efr 121 (by omega) (fun q hq => by omega)
    exact k0 (fun q => by rcases q with q | q; exact absurd q.1 (by omega); exact hv q.2) V3 hsg hfs h121
set_option maxRecDepth 100000 in
set_option maxHeartbeats 4000000 in
theorem lp_parts (hC : ClF S) {form N : Int} {al mt : Nat} {ts : Nat → List p_Li} {σ : Nat → Int} {j pk : Nat} {a h κ n : Int} {M : Nat → Nat → Int} {A : Aw} (hm4 : mt ≤ 4) (hj : j < 3) (hpk : pkO a h κ n) (hkl : 193 ≤ pk) (hMr : ∀ i, i < mt → muO (M i)) (hTO : ∀ i, i < mt → TO (ts i)) (hSr0 : SrC S V form N al mt ts σ) (hM0 : ∀ i, i < mt → ∀ p : Nat, p < 84 → V (123 + 2 * (4 * j + i)) p = M i p) (hP0 : PkS S V pk a h κ n) {F : Nat} : ∀ (m : Nat) (i : Nat) (W : v_V) (fst sm : Int), mt - i < m → (i ≤ mt) → (∀ k, (∀ q : Nat, q < 4 → k ≠ 123 + 2 * (4 * (j + 1) + q)) → W k = V k) → (∀ q : Nat, q < i → ∀ p : Nat, p < 84 → W (123 + 2 * (4 * (j + 1) + q)) p = (eW a h κ n (ts q) (M q)).2 p) → (i = 0 → fst = 1) → (0 < i → fst = (eW a h κ n (ts 0) (M 0)).1) → ((sm = 1 ∧ ∀ q : Nat, q < i → (eW a h κ n (ts q) (M q)).1 = (eW a h κ n (ts 0) (M 0)).1) ∨ (sm = 0 ∧ ¬ ∀ q : Nat, q < i → (eW a h κ n (ts q) (M q)).1 = (eW a h κ n (ts 0) (M 0)).1)) → (∀ (W : v_V) (sm : Int), (∀ k, (∀ q : Nat, q < 4 → k ≠ 123 + 2 * (4 * (j + 1) + q)) → W k = V k) → (∀ q : Nat, q < mt → ∀ p : Nat, p < 84 → W (123 + 2 * (4 * (j + 1) + q)) p = (eW a h κ n (ts q) (M q)).2 p) → ((sm = 1 ∧ ∀ q : Nat, q < mt → (eW a h κ n (ts q) (M q)).1 = (eW a h κ n (ts 0) (M 0)).1) ∨ (sm = 0 ∧ ¬ ∀ q : Nat, q < mt → (eW a h κ n (ts q) (M q)).1 = (eW a h κ n (ts 0) (M 0)).1)) → y_E X 8 37 F u w 86 [(0, .ref 116), (4, iv sm)] [] S W K) → y_E X 8 37 (120 * m + F) u w 8 [(0, .ref 116), (1, iv (j : Int)), (2, .ref pk), (3, iv fst), (4, iv sm), (5, iv (i : Int))] [] S W K := by
  intro m
  induction m with
  | zero => intros; omega
  | succ m ih =>
    intro i W fst sm hm1 hI hF hD hf0 hf1 hsm hx2
    refine y_mono (F' := (120 * m + F) + 120) ?_ (by omega)
    refine y_ld (x := iv (i : Int)) rfl rfl (fun d => rfl) ?_
    refine y_ld (x := .ref 116) rfl rfl (fun d => rfl) ?_
    refine y_gI (i := 4) (e := (mt : Int)) rfl rfl rfl hSr0.1 rfl ((congrFun (hF 116 (fun q hq => by omega)) 4).trans hSr0.2.1.1) ?_
    refine y_jge rfl rfl rfl (by omega) (fun g1 => ?_) (fun g1 => ?_)
    · obtain rfl : i = mt := by have := hSr0.2.1.1; have := hF 116 (fun q hq => by omega); omega
      refine y_lv (l' := [(0, .ref 116), (4, iv sm)]) rfl ⟨rfl, rfl, trivial⟩ ?_
      exact y_mono (hx2 W sm hF hD hsm) (by omega)
    · have hSr := SrC_r hSr0 (hF 116 (fun q hq => by omega)) (fun k hk => hF k (fun q hq => by omega))
      have hM : ∀ i, i < mt → ∀ p : Nat, p < 84 → W (123 + 2 * (4 * j + i)) p = M i p := fun q hq p hp => by rw [hF _ (fun q2 hq2 => by omega)]; exact hM0 q hq p hp
      have hP := PkS_r hP0 (hF pk (fun q hq => by omega))
      have hmi_ : i < mt := by omega
      obtain ⟨xs, x1, x2, x3⟩ := hSr.2.2.1
      obtain ⟨t, t1, t2, t3, t4⟩ := x3 i (by omega)
      have hl := hTO i (by omega)
      refine y_ld (x := .ref 116) rfl rfl (fun d => rfl) ?_
      refine y_ld (x := iv (j : Int)) rfl rfl (fun d => rfl) ?_
      refine y_ld (x := iv (i : Int)) rfl rfl (fun d => rfl) ?_
      refine y_cV (as := [.ref 116, iv (j : Int), iv (i : Int)]) rfl rfl rfl rfl rfl hSr0.1 ⟨rfl, (Nat.le_of_ble_eq_true rfl), (Nat.le_of_ble_eq_true rfl)⟩ (by decide) (cc_carried hC hSr.1 (j := j) (i := i) (by omega) (by omega) ?_)
      refine y_nv ?_
      refine y_st (lv' := [(6, .ref (122 + 2 * (4 * (j + 1) + i))), (0, .ref 116), (1, iv (j : Int)), (2, .ref pk), (3, iv fst), (4, iv sm), (5, iv (i : Int))]) rfl rfl (fun d => rfl) ?_
      have en : ∀ k, k ≠ 123 + 2 * (4 * (j + 1) + i) → (v_ur W (123 + 2 * (4 * (j + 1) + i)) (W (123 + 2 * (4 * j + i)))) k = W k := fun k hk => v_ur_ne hk
      have er : (v_ur W (123 + 2 * (4 * (j + 1) + i)) (W (123 + 2 * (4 * j + i)))) (123 + 2 * (4 * (j + 1) + i)) = W (123 + 2 * (4 * j + i)) := v_ur_eq _ _ _
      have hmi : ∀ p : Nat, p < 84 → (v_ur W (123 + 2 * (4 * (j + 1) + i)) (W (123 + 2 * (4 * j + i)))) (123 + 2 * (4 * (j + 1) + i)) p = M i p := fun p hp => by rw [er]; exact hM i (by omega) p hp
      have hmu : muO ((v_ur W (123 + 2 * (4 * (j + 1) + i)) (W (123 + 2 * (4 * j + i)))) (123 + 2 * (4 * (j + 1) + i))) := fun p hp => by rw [hmi p hp]; exact hMr i (by omega) p hp
      have hct : CT (v_ur W (123 + 2 * (4 * (j + 1) + i)) (W (123 + 2 * (4 * j + i)))) t (ts i) := CT_r t4 (fun q hq => en _ (by omega))
      have hPp : PkS S (v_ur W (123 + 2 * (4 * (j + 1) + i)) (W (123 + 2 * (4 * j + i)))) pk a h κ n := PkS_r hP (en _ (by omega))
      have ec := eW_congr hpk (ts i) _ _ hmi hl.1
      have el := eL_congr hmi hpk (ts i) 0 hl.1
      refine y_ld (x := .ref 116) rfl rfl (fun d => rfl) ?_
      refine y_gR (i := 2) rfl rfl rfl hSr0.1 rfl ?_
      refine y_ld (x := iv (i : Int)) rfl rfl (fun d => rfl) ?_
      refine y_rld (i := i) (x := t) rfl rfl x1 (by decide) (by omega) (by omega) t1 ?_
      refine y_ld (x := .ref 116) rfl rfl (fun d => rfl) ?_
      refine y_gR (i := 2) rfl rfl rfl hSr0.1 rfl ?_
      refine y_ld (x := iv (i : Int)) rfl rfl (fun d => rfl) ?_
      refine y_rld (i := i) (x := t) rfl rfl x1 (by decide) (by omega) (by omega) t1 ?_
      refine y_ld (x := .ref pk) rfl rfl (fun d => rfl) ?_
      refine y_ld (x := .ref (122 + 2 * (4 * (j + 1) + i))) rfl rfl (fun d => rfl) ?_
      refine y_cV (as := [.ref t, .ref pk, .ref (122 + 2 * (4 * (j + 1) + i))]) rfl rfl rfl rfl rfl t3.1 ⟨rfl, (Nat.le_of_ble_eq_true rfl), (Nat.le_of_ble_eq_true rfl)⟩ (by decide) (cc_lineFor t3 (mm_ob hC (i := 4 * (j + 1) + i) (by omega)) rfl hPp hpk hmu (CT_w6 hct hl) hct hl.1 hl.2.1 hl.2.2.1 ?_)
      refine y_nv ?_
      rcases eLW ((v_ur W (123 + 2 * (4 * (j + 1) + i)) (W (123 + 2 * (4 * j + i)))) (123 + 2 * (4 * (j + 1) + i))) a h κ n (ts i) 0 with ⟨e1, e2⟩ | ⟨q, y, e1, e2, e3⟩
      · refine y_iv (e' := -5) e1 ?_
        refine y_ld (x := .ref pk) rfl rfl (fun d => rfl) ?_
        refine y_ld (x := .ref (122 + 2 * (4 * (j + 1) + i))) rfl rfl (fun d => rfl) ?_
        refine y_cV (as := [.ref t, iv (-5), .ref pk, .ref (122 + 2 * (4 * (j + 1) + i))]) rfl rfl rfl rfl rfl t3.1 ⟨rfl, (Nat.le_of_ble_eq_true rfl), (Nat.le_of_ble_eq_true rfl)⟩ (by decide) (cc_does5 t3 ?_)
        refine y_nv ?_
        have ew : 1 = (eW a h κ n (ts i) (M i)).1 := by rw [← ec.1, e2]
        have erow : ∀ p : Nat, p < 84 → (v_ur W (123 + 2 * (4 * (j + 1) + i)) (W (123 + 2 * (4 * j + i)))) (123 + 2 * (4 * (j + 1) + i)) p = (eW a h κ n (ts i) (M i)).2 p := fun p hp => by rw [← ec.2 p hp, e2]
        have en2 : ∀ k, k ≠ 123 + 2 * (4 * (j + 1) + i) → (v_ur W (123 + 2 * (4 * (j + 1) + i)) (W (123 + 2 * (4 * j + i)))) k = W k := en
        refine y_iv ew ?_
        have hri := (eW_rg (t := a) (h := h) (k := κ) (n := n) (ts i) (M i) (hMr i (by omega))).2
        have hr0 := (eW_rg (t := a) (h := h) (k := κ) (n := n) (ts 0) (M 0) (hMr 0 (by omega))).2
        refine y_st (lv' := [(7, iv ((eW a h κ n (ts i) (M i)).1)), (6, .ref (122 + 2 * (4 * (j + 1) + i))), (0, .ref 116), (1, iv (j : Int)), (2, .ref pk), (3, iv fst), (4, iv sm), (5, iv (i : Int))]) rfl rfl (fun d => rfl) ?_
        refine y_ld (x := iv (i : Int)) rfl rfl (fun d => rfl) ?_
        refine y_zne rfl rfl rfl (by omega) (fun g2 => ?_) (fun g2 => ?_)
        · have hfi : fst = (eW a h κ n (ts 0) (M 0)).1 := hf1 (by omega)
          rcases hsm with ⟨rfl, hsm⟩ | ⟨rfl, hsm⟩
          · refine y_ld (x := iv 1) rfl rfl (fun d => rfl) ?_
            refine y_zeq rfl rfl rfl (by decide) (fun g3 => absurd g3 (by decide)) (fun g3 => ?_)
            refine y_ld (x := iv ((eW a h κ n (ts i) (M i)).1)) rfl rfl (fun d => rfl) ?_
            refine y_ld (x := iv fst) rfl rfl (fun d => rfl) ?_
            refine y_jne rfl rfl rfl (by omega) (fun g4 => ?_) (fun g4 => ?_)
            · refine y_ic rfl rfl ?_
              refine y_st (lv' := [(4, iv 0), (7, iv ((eW a h κ n (ts i) (M i)).1)), (6, .ref (122 + 2 * (4 * (j + 1) + i))), (0, .ref 116), (1, iv (j : Int)), (2, .ref pk), (3, iv fst), (5, iv (i : Int))]) rfl rfl (fun d => rfl) ?_
              refine y_inc (z := ((i + 1 : Nat) : Int)) (lv' := [(5, iv ((i + 1 : Nat) : Int)), (4, iv 0), (7, iv ((eW a h κ n (ts i) (M i)).1)), (6, .ref (122 + 2 * (4 * (j + 1) + i))), (0, .ref 116), (1, iv (j : Int)), (2, .ref pk), (3, iv fst)]) rfl rfl rfl (by omega) rfl ?_
              refine y_go rfl rfl ?_
              refine y_lv (l' := [(0, .ref 116), (1, iv (j : Int)), (2, .ref pk), (3, iv fst), (4, iv 0), (5, iv ((i + 1 : Nat) : Int))]) rfl ⟨rfl, rfl, rfl, rfl, rfl, rfl, trivial⟩ ?_
              refine y_mono (ih (i + 1) (v_ur W (123 + 2 * (4 * (j + 1) + i)) (W (123 + 2 * (4 * j + i)))) _ 0 (by omega) (by omega) (fun k hk => (en2 k (hk i (by omega))).trans (hF k hk)) (fun q hq p hp => ?_) (fun h9 => absurd h9 (by omega)) (fun _ => hfi) (Or.inr ⟨rfl, fun hf => absurd (hf i (by omega)) (by omega)⟩) hx2) (by omega)
              rcases (show q < i ∨ q = i by omega) with h7 | h7
              · rw [en2 _ (by omega)]; exact hD q h7 p hp
              · rw [h7]; exact erow p hp
            · refine y_ic rfl rfl ?_
              refine y_go rfl rfl ?_
              refine y_st (lv' := [(4, iv 1), (7, iv ((eW a h κ n (ts i) (M i)).1)), (6, .ref (122 + 2 * (4 * (j + 1) + i))), (0, .ref 116), (1, iv (j : Int)), (2, .ref pk), (3, iv fst), (5, iv (i : Int))]) rfl rfl (fun d => rfl) ?_
              refine y_inc (z := ((i + 1 : Nat) : Int)) (lv' := [(5, iv ((i + 1 : Nat) : Int)), (4, iv 1), (7, iv ((eW a h κ n (ts i) (M i)).1)), (6, .ref (122 + 2 * (4 * (j + 1) + i))), (0, .ref 116), (1, iv (j : Int)), (2, .ref pk), (3, iv fst)]) rfl rfl rfl (by omega) rfl ?_
              refine y_go rfl rfl ?_
              refine y_lv (l' := [(0, .ref 116), (1, iv (j : Int)), (2, .ref pk), (3, iv fst), (4, iv 1), (5, iv ((i + 1 : Nat) : Int))]) rfl ⟨rfl, rfl, rfl, rfl, rfl, rfl, trivial⟩ ?_
              refine y_mono (ih (i + 1) (v_ur W (123 + 2 * (4 * (j + 1) + i)) (W (123 + 2 * (4 * j + i)))) _ 1 (by omega) (by omega) (fun k hk => (en2 k (hk i (by omega))).trans (hF k hk)) (fun q hq p hp => ?_) (fun h9 => absurd h9 (by omega)) (fun _ => hfi) (Or.inl ⟨rfl, fun q hq => by rcases (show q < i ∨ q = i by omega) with h7 | h7; exact hsm q h7; rw [h7]; omega⟩) hx2) (by omega)
              rcases (show q < i ∨ q = i by omega) with h7 | h7
              · rw [en2 _ (by omega)]; exact hD q h7 p hp
              · rw [h7]; exact erow p hp
          · refine y_ld (x := iv 0) rfl rfl (fun d => rfl) ?_
            refine y_zeq rfl rfl rfl (by decide) (fun g5 => ?_) (fun g5 => absurd g5 (by decide))
            refine y_ic rfl rfl ?_
            refine y_st (lv' := [(4, iv 0), (7, iv ((eW a h κ n (ts i) (M i)).1)), (6, .ref (122 + 2 * (4 * (j + 1) + i))), (0, .ref 116), (1, iv (j : Int)), (2, .ref pk), (3, iv fst), (5, iv (i : Int))]) rfl rfl (fun d => rfl) ?_
            refine y_inc (z := ((i + 1 : Nat) : Int)) (lv' := [(5, iv ((i + 1 : Nat) : Int)), (4, iv 0), (7, iv ((eW a h κ n (ts i) (M i)).1)), (6, .ref (122 + 2 * (4 * (j + 1) + i))), (0, .ref 116), (1, iv (j : Int)), (2, .ref pk), (3, iv fst)]) rfl rfl rfl (by omega) rfl ?_
            refine y_go rfl rfl ?_
            refine y_lv (l' := [(0, .ref 116), (1, iv (j : Int)), (2, .ref pk), (3, iv fst), (4, iv 0), (5, iv ((i + 1 : Nat) : Int))]) rfl ⟨rfl, rfl, rfl, rfl, rfl, rfl, trivial⟩ ?_
            refine y_mono (ih (i + 1) (v_ur W (123 + 2 * (4 * (j + 1) + i)) (W (123 + 2 * (4 * j + i)))) _ 0 (by omega) (by omega) (fun k hk => (en2 k (hk i (by omega))).trans (hF k hk)) (fun q hq p hp => ?_) (fun h9 => absurd h9 (by omega)) (fun _ => hfi) (Or.inr ⟨rfl, fun hf => hsm (fun q hq => hf q (by omega))⟩) hx2) (by omega)
            rcases (show q < i ∨ q = i by omega) with h7 | h7
            · rw [en2 _ (by omega)]; exact hD q h7 p hp
            · rw [h7]; exact erow p hp
        · refine y_ld (x := iv ((eW a h κ n (ts i) (M i)).1)) rfl rfl (fun d => rfl) ?_
          refine y_st (lv' := [(3, iv ((eW a h κ n (ts i) (M i)).1)), (7, iv ((eW a h κ n (ts i) (M i)).1)), (6, .ref (122 + 2 * (4 * (j + 1) + i))), (0, .ref 116), (1, iv (j : Int)), (2, .ref pk), (4, iv sm), (5, iv (i : Int))]) rfl rfl (fun d => rfl) ?_
          have hfi : (eW a h κ n (ts i) (M i)).1 = (eW a h κ n (ts 0) (M 0)).1 := by rw [show i = 0 by omega]
          rcases hsm with ⟨rfl, hsm⟩ | ⟨rfl, hsm⟩
          · refine y_ld (x := iv 1) rfl rfl (fun d => rfl) ?_
            refine y_zeq rfl rfl rfl (by decide) (fun g6 => absurd g6 (by decide)) (fun g6 => ?_)
            refine y_ld (x := iv ((eW a h κ n (ts i) (M i)).1)) rfl rfl (fun d => rfl) ?_
            refine y_ld (x := iv ((eW a h κ n (ts i) (M i)).1)) rfl rfl (fun d => rfl) ?_
            refine y_jne rfl rfl rfl (by omega) (fun g7 => ?_) (fun g7 => ?_)
            · refine y_ic rfl rfl ?_
              refine y_st (lv' := [(4, iv 0), (3, iv ((eW a h κ n (ts i) (M i)).1)), (7, iv ((eW a h κ n (ts i) (M i)).1)), (6, .ref (122 + 2 * (4 * (j + 1) + i))), (0, .ref 116), (1, iv (j : Int)), (2, .ref pk), (5, iv (i : Int))]) rfl rfl (fun d => rfl) ?_
              refine y_inc (z := ((i + 1 : Nat) : Int)) (lv' := [(5, iv ((i + 1 : Nat) : Int)), (4, iv 0), (3, iv ((eW a h κ n (ts i) (M i)).1)), (7, iv ((eW a h κ n (ts i) (M i)).1)), (6, .ref (122 + 2 * (4 * (j + 1) + i))), (0, .ref 116), (1, iv (j : Int)), (2, .ref pk)]) rfl rfl rfl (by omega) rfl ?_
              refine y_go rfl rfl ?_
              refine y_lv (l' := [(0, .ref 116), (1, iv (j : Int)), (2, .ref pk), (3, iv ((eW a h κ n (ts i) (M i)).1)), (4, iv 0), (5, iv ((i + 1 : Nat) : Int))]) rfl ⟨rfl, rfl, rfl, rfl, rfl, rfl, trivial⟩ ?_
              refine y_mono (ih (i + 1) (v_ur W (123 + 2 * (4 * (j + 1) + i)) (W (123 + 2 * (4 * j + i)))) _ 0 (by omega) (by omega) (fun k hk => (en2 k (hk i (by omega))).trans (hF k hk)) (fun q hq p hp => ?_) (fun h9 => absurd h9 (by omega)) (fun _ => hfi) (Or.inr ⟨rfl, fun hf => absurd (hf i (by omega)) (by omega)⟩) hx2) (by omega)
              rcases (show q < i ∨ q = i by omega) with h7 | h7
              · rw [en2 _ (by omega)]; exact hD q h7 p hp
              · rw [h7]; exact erow p hp
            · refine y_ic rfl rfl ?_
              refine y_go rfl rfl ?_
              refine y_st (lv' := [(4, iv 1), (3, iv ((eW a h κ n (ts i) (M i)).1)), (7, iv ((eW a h κ n (ts i) (M i)).1)), (6, .ref (122 + 2 * (4 * (j + 1) + i))), (0, .ref 116), (1, iv (j : Int)), (2, .ref pk), (5, iv (i : Int))]) rfl rfl (fun d => rfl) ?_
              refine y_inc (z := ((i + 1 : Nat) : Int)) (lv' := [(5, iv ((i + 1 : Nat) : Int)), (4, iv 1), (3, iv ((eW a h κ n (ts i) (M i)).1)), (7, iv ((eW a h κ n (ts i) (M i)).1)), (6, .ref (122 + 2 * (4 * (j + 1) + i))), (0, .ref 116), (1, iv (j : Int)), (2, .ref pk)]) rfl rfl rfl (by omega) rfl ?_
              refine y_go rfl rfl ?_
              refine y_lv (l' := [(0, .ref 116), (1, iv (j : Int)), (2, .ref pk), (3, iv ((eW a h κ n (ts i) (M i)).1)), (4, iv 1), (5, iv ((i + 1 : Nat) : Int))]) rfl ⟨rfl, rfl, rfl, rfl, rfl, rfl, trivial⟩ ?_
              refine y_mono (ih (i + 1) (v_ur W (123 + 2 * (4 * (j + 1) + i)) (W (123 + 2 * (4 * j + i)))) _ 1 (by omega) (by omega) (fun k hk => (en2 k (hk i (by omega))).trans (hF k hk)) (fun q hq p hp => ?_) (fun h9 => absurd h9 (by omega)) (fun _ => hfi) (Or.inl ⟨rfl, fun q hq => by rcases (show q < i ∨ q = i by omega) with h7 | h7; exact hsm q h7; rw [h7]; omega⟩) hx2) (by omega)
              rcases (show q < i ∨ q = i by omega) with h7 | h7
              · rw [en2 _ (by omega)]; exact hD q h7 p hp
              · rw [h7]; exact erow p hp
          · refine y_ld (x := iv 0) rfl rfl (fun d => rfl) ?_
            refine y_zeq rfl rfl rfl (by decide) (fun g8 => ?_) (fun g8 => absurd g8 (by decide))
            refine y_ic rfl rfl ?_
            refine y_st (lv' := [(4, iv 0), (3, iv ((eW a h κ n (ts i) (M i)).1)), (7, iv ((eW a h κ n (ts i) (M i)).1)), (6, .ref (122 + 2 * (4 * (j + 1) + i))), (0, .ref 116), (1, iv (j : Int)), (2, .ref pk), (5, iv (i : Int))]) rfl rfl (fun d => rfl) ?_
            refine y_inc (z := ((i + 1 : Nat) : Int)) (lv' := [(5, iv ((i + 1 : Nat) : Int)), (4, iv 0), (3, iv ((eW a h κ n (ts i) (M i)).1)), (7, iv ((eW a h κ n (ts i) (M i)).1)), (6, .ref (122 + 2 * (4 * (j + 1) + i))), (0, .ref 116), (1, iv (j : Int)), (2, .ref pk)]) rfl rfl rfl (by omega) rfl ?_
            refine y_go rfl rfl ?_
            refine y_lv (l' := [(0, .ref 116), (1, iv (j : Int)), (2, .ref pk), (3, iv ((eW a h κ n (ts i) (M i)).1)), (4, iv 0), (5, iv ((i + 1 : Nat) : Int))]) rfl ⟨rfl, rfl, rfl, rfl, rfl, rfl, trivial⟩ ?_
            refine y_mono (ih (i + 1) (v_ur W (123 + 2 * (4 * (j + 1) + i)) (W (123 + 2 * (4 * j + i)))) _ 0 (by omega) (by omega) (fun k hk => (en2 k (hk i (by omega))).trans (hF k hk)) (fun q hq p hp => ?_) (fun h9 => absurd h9 (by omega)) (fun _ => hfi) (Or.inr ⟨rfl, fun hf => hsm (fun q hq => hf q (by omega))⟩) hx2) (by omega)
            rcases (show q < i ∨ q = i by omega) with h7 | h7
            · rw [en2 _ (by omega)]; exact hD q h7 p hp
            · rw [h7]; exact erow p hp
      · refine y_iv (e' := (q : Int)) (by rw [e1, Nat.zero_add]) ?_
        refine y_ld (x := .ref pk) rfl rfl (fun d => rfl) ?_
        refine y_ld (x := .ref (122 + 2 * (4 * (j + 1) + i))) rfl rfl (fun d => rfl) ?_
        have hxm : y ∈ ts i := by rw [m_nth_eq] at e2; exact List.mem_of_getElem? e2
        have hyo := hl.1 y hxm
        have hjl := m_nth_lt e2
        have hln := hl.2.2.1
        obtain ⟨p, b1, b2, b3, b4, b5, b6, b7⟩ := CT_line hct e2
        refine y_cV (as := [.ref t, iv (q : Int), .ref pk, .ref (122 + 2 * (4 * (j + 1) + i))]) rfl rfl rfl rfl rfl t3.1 ⟨rfl, (Nat.le_of_ble_eq_true rfl), (Nat.le_of_ble_eq_true rfl)⟩ (by decide) (cc_does (p := p + (encTc y.2.2.1).length) (L := y.2.2.2) t3 (mm_ob hC (i := 4 * (j + 1) + i) (by omega)) hpk (by omega) t2 hkl (by omega) ⟨by rw [hct.1]; omega, by rw [hct.1]; omega⟩ b3 b4 (by have := hyo.2.2.2.2; omega) b6 hyo.2.1 hPp hmu b7 (CT_w6 hct hl) ?_)
        refine y_nv ?_
        have ew : (eA a h κ n y.2.2.2 ((v_ur W (123 + 2 * (4 * (j + 1) + i)) (W (123 + 2 * (4 * j + i)))) (123 + 2 * (4 * (j + 1) + i)))).1 = (eW a h κ n (ts i) (M i)).1 := by rw [← ec.1, e3]
        have erow : ∀ p : Nat, p < 84 → (v_ur (v_ur W (123 + 2 * (4 * (j + 1) + i)) (W (123 + 2 * (4 * j + i)))) (123 + 2 * (4 * (j + 1) + i)) (eA a h κ n y.2.2.2 ((v_ur W (123 + 2 * (4 * (j + 1) + i)) (W (123 + 2 * (4 * j + i)))) (123 + 2 * (4 * (j + 1) + i)))).2) (123 + 2 * (4 * (j + 1) + i)) p = (eW a h κ n (ts i) (M i)).2 p := fun p hp => by rw [v_ur_eq, ← ec.2 p hp, e3]
        have en2 : ∀ k, k ≠ 123 + 2 * (4 * (j + 1) + i) → (v_ur (v_ur W (123 + 2 * (4 * (j + 1) + i)) (W (123 + 2 * (4 * j + i)))) (123 + 2 * (4 * (j + 1) + i)) (eA a h κ n y.2.2.2 ((v_ur W (123 + 2 * (4 * (j + 1) + i)) (W (123 + 2 * (4 * j + i)))) (123 + 2 * (4 * (j + 1) + i)))).2) k = W k := fun k hk => (v_ur_ne hk).trans (en k hk)
        refine y_iv ew ?_
        have hri := (eW_rg (t := a) (h := h) (k := κ) (n := n) (ts i) (M i) (hMr i (by omega))).2
        have hr0 := (eW_rg (t := a) (h := h) (k := κ) (n := n) (ts 0) (M 0) (hMr 0 (by omega))).2
        refine y_st (lv' := [(7, iv ((eW a h κ n (ts i) (M i)).1)), (6, .ref (122 + 2 * (4 * (j + 1) + i))), (0, .ref 116), (1, iv (j : Int)), (2, .ref pk), (3, iv fst), (4, iv sm), (5, iv (i : Int))]) rfl rfl (fun d => rfl) ?_
        refine y_ld (x := iv (i : Int)) rfl rfl (fun d => rfl) ?_
        refine y_zne rfl rfl rfl (by omega) (fun g9 => ?_) (fun g9 => ?_)
        · have hfi : fst = (eW a h κ n (ts 0) (M 0)).1 := hf1 (by omega)
          rcases hsm with ⟨rfl, hsm⟩ | ⟨rfl, hsm⟩
          · refine y_ld (x := iv 1) rfl rfl (fun d => rfl) ?_
            refine y_zeq rfl rfl rfl (by decide) (fun g10 => absurd g10 (by decide)) (fun g10 => ?_)
            refine y_ld (x := iv ((eW a h κ n (ts i) (M i)).1)) rfl rfl (fun d => rfl) ?_
            refine y_ld (x := iv fst) rfl rfl (fun d => rfl) ?_
            refine y_jne rfl rfl rfl (by omega) (fun g11 => ?_) (fun g11 => ?_)
            · refine y_ic rfl rfl ?_
              refine y_st (lv' := [(4, iv 0), (7, iv ((eW a h κ n (ts i) (M i)).1)), (6, .ref (122 + 2 * (4 * (j + 1) + i))), (0, .ref 116), (1, iv (j : Int)), (2, .ref pk), (3, iv fst), (5, iv (i : Int))]) rfl rfl (fun d => rfl) ?_
              refine y_inc (z := ((i + 1 : Nat) : Int)) (lv' := [(5, iv ((i + 1 : Nat) : Int)), (4, iv 0), (7, iv ((eW a h κ n (ts i) (M i)).1)), (6, .ref (122 + 2 * (4 * (j + 1) + i))), (0, .ref 116), (1, iv (j : Int)), (2, .ref pk), (3, iv fst)]) rfl rfl rfl (by omega) rfl ?_
              refine y_go rfl rfl ?_
              refine y_lv (l' := [(0, .ref 116), (1, iv (j : Int)), (2, .ref pk), (3, iv fst), (4, iv 0), (5, iv ((i + 1 : Nat) : Int))]) rfl ⟨rfl, rfl, rfl, rfl, rfl, rfl, trivial⟩ ?_
              refine y_mono (ih (i + 1) (v_ur (v_ur W (123 + 2 * (4 * (j + 1) + i)) (W (123 + 2 * (4 * j + i)))) (123 + 2 * (4 * (j + 1) + i)) (eA a h κ n y.2.2.2 ((v_ur W (123 + 2 * (4 * (j + 1) + i)) (W (123 + 2 * (4 * j + i)))) (123 + 2 * (4 * (j + 1) + i)))).2) _ 0 (by omega) (by omega) (fun k hk => (en2 k (hk i (by omega))).trans (hF k hk)) (fun q hq p hp => ?_) (fun h9 => absurd h9 (by omega)) (fun _ => hfi) (Or.inr ⟨rfl, fun hf => absurd (hf i (by omega)) (by omega)⟩) hx2) (by omega)
              rcases (show q < i ∨ q = i by omega) with h7 | h7
              · rw [en2 _ (by omega)]; exact hD q h7 p hp
              · rw [h7]; exact erow p hp
            · refine y_ic rfl rfl ?_
              refine y_go rfl rfl ?_
              refine y_st (lv' := [(4, iv 1), (7, iv ((eW a h κ n (ts i) (M i)).1)), (6, .ref (122 + 2 * (4 * (j + 1) + i))), (0, .ref 116), (1, iv (j : Int)), (2, .ref pk), (3, iv fst), (5, iv (i : Int))]) rfl rfl (fun d => rfl) ?_
              refine y_inc (z := ((i + 1 : Nat) : Int)) (lv' := [(5, iv ((i + 1 : Nat) : Int)), (4, iv 1), (7, iv ((eW a h κ n (ts i) (M i)).1)), (6, .ref (122 + 2 * (4 * (j + 1) + i))), (0, .ref 116), (1, iv (j : Int)), (2, .ref pk), (3, iv fst)]) rfl rfl rfl (by omega) rfl ?_
              refine y_go rfl rfl ?_
              refine y_lv (l' := [(0, .ref 116), (1, iv (j : Int)), (2, .ref pk), (3, iv fst), (4, iv 1), (5, iv ((i + 1 : Nat) : Int))]) rfl ⟨rfl, rfl, rfl, rfl, rfl, rfl, trivial⟩ ?_
              refine y_mono (ih (i + 1) (v_ur (v_ur W (123 + 2 * (4 * (j + 1) + i)) (W (123 + 2 * (4 * j + i)))) (123 + 2 * (4 * (j + 1) + i)) (eA a h κ n y.2.2.2 ((v_ur W (123 + 2 * (4 * (j + 1) + i)) (W (123 + 2 * (4 * j + i)))) (123 + 2 * (4 * (j + 1) + i)))).2) _ 1 (by omega) (by omega) (fun k hk => (en2 k (hk i (by omega))).trans (hF k hk)) (fun q hq p hp => ?_) (fun h9 => absurd h9 (by omega)) (fun _ => hfi) (Or.inl ⟨rfl, fun q hq => by rcases (show q < i ∨ q = i by omega) with h7 | h7; exact hsm q h7; rw [h7]; omega⟩) hx2) (by omega)
              rcases (show q < i ∨ q = i by omega) with h7 | h7
              · rw [en2 _ (by omega)]; exact hD q h7 p hp
              · rw [h7]; exact erow p hp
          · refine y_ld (x := iv 0) rfl rfl (fun d => rfl) ?_
            refine y_zeq rfl rfl rfl (by decide) (fun g12 => ?_) (fun g12 => absurd g12 (by decide))
            refine y_ic rfl rfl ?_
            refine y_st (lv' := [(4, iv 0), (7, iv ((eW a h κ n (ts i) (M i)).1)), (6, .ref (122 + 2 * (4 * (j + 1) + i))), (0, .ref 116), (1, iv (j : Int)), (2, .ref pk), (3, iv fst), (5, iv (i : Int))]) rfl rfl (fun d => rfl) ?_
            refine y_inc (z := ((i + 1 : Nat) : Int)) (lv' := [(5, iv ((i + 1 : Nat) : Int)), (4, iv 0), (7, iv ((eW a h κ n (ts i) (M i)).1)), (6, .ref (122 + 2 * (4 * (j + 1) + i))), (0, .ref 116), (1, iv (j : Int)), (2, .ref pk), (3, iv fst)]) rfl rfl rfl (by omega) rfl ?_
            refine y_go rfl rfl ?_
            refine y_lv (l' := [(0, .ref 116), (1, iv (j : Int)), (2, .ref pk), (3, iv fst), (4, iv 0), (5, iv ((i + 1 : Nat) : Int))]) rfl ⟨rfl, rfl, rfl, rfl, rfl, rfl, trivial⟩ ?_
            refine y_mono (ih (i + 1) (v_ur (v_ur W (123 + 2 * (4 * (j + 1) + i)) (W (123 + 2 * (4 * j + i)))) (123 + 2 * (4 * (j + 1) + i)) (eA a h κ n y.2.2.2 ((v_ur W (123 + 2 * (4 * (j + 1) + i)) (W (123 + 2 * (4 * j + i)))) (123 + 2 * (4 * (j + 1) + i)))).2) _ 0 (by omega) (by omega) (fun k hk => (en2 k (hk i (by omega))).trans (hF k hk)) (fun q hq p hp => ?_) (fun h9 => absurd h9 (by omega)) (fun _ => hfi) (Or.inr ⟨rfl, fun hf => hsm (fun q hq => hf q (by omega))⟩) hx2) (by omega)
            rcases (show q < i ∨ q = i by omega) with h7 | h7
            · rw [en2 _ (by omega)]; exact hD q h7 p hp
            · rw [h7]; exact erow p hp
        · refine y_ld (x := iv ((eW a h κ n (ts i) (M i)).1)) rfl rfl (fun d => rfl) ?_
          refine y_st (lv' := [(3, iv ((eW a h κ n (ts i) (M i)).1)), (7, iv ((eW a h κ n (ts i) (M i)).1)), (6, .ref (122 + 2 * (4 * (j + 1) + i))), (0, .ref 116), (1, iv (j : Int)), (2, .ref pk), (4, iv sm), (5, iv (i : Int))]) rfl rfl (fun d => rfl) ?_
          have hfi : (eW a h κ n (ts i) (M i)).1 = (eW a h κ n (ts 0) (M 0)).1 := by rw [show i = 0 by omega]
          rcases hsm with ⟨rfl, hsm⟩ | ⟨rfl, hsm⟩
          · refine y_ld (x := iv 1) rfl rfl (fun d => rfl) ?_
            refine y_zeq rfl rfl rfl (by decide) (fun g13 => absurd g13 (by decide)) (fun g13 => ?_)
            refine y_ld (x := iv ((eW a h κ n (ts i) (M i)).1)) rfl rfl (fun d => rfl) ?_
            refine y_ld (x := iv ((eW a h κ n (ts i) (M i)).1)) rfl rfl (fun d => rfl) ?_
            refine y_jne rfl rfl rfl (by omega) (fun g14 => ?_) (fun g14 => ?_)
            · refine y_ic rfl rfl ?_
              refine y_st (lv' := [(4, iv 0), (3, iv ((eW a h κ n (ts i) (M i)).1)), (7, iv ((eW a h κ n (ts i) (M i)).1)), (6, .ref (122 + 2 * (4 * (j + 1) + i))), (0, .ref 116), (1, iv (j : Int)), (2, .ref pk), (5, iv (i : Int))]) rfl rfl (fun d => rfl) ?_
              refine y_inc (z := ((i + 1 : Nat) : Int)) (lv' := [(5, iv ((i + 1 : Nat) : Int)), (4, iv 0), (3, iv ((eW a h κ n (ts i) (M i)).1)), (7, iv ((eW a h κ n (ts i) (M i)).1)), (6, .ref (122 + 2 * (4 * (j + 1) + i))), (0, .ref 116), (1, iv (j : Int)), (2, .ref pk)]) rfl rfl rfl (by omega) rfl ?_
              refine y_go rfl rfl ?_
              refine y_lv (l' := [(0, .ref 116), (1, iv (j : Int)), (2, .ref pk), (3, iv ((eW a h κ n (ts i) (M i)).1)), (4, iv 0), (5, iv ((i + 1 : Nat) : Int))]) rfl ⟨rfl, rfl, rfl, rfl, rfl, rfl, trivial⟩ ?_
              refine y_mono (ih (i + 1) (v_ur (v_ur W (123 + 2 * (4 * (j + 1) + i)) (W (123 + 2 * (4 * j + i)))) (123 + 2 * (4 * (j + 1) + i)) (eA a h κ n y.2.2.2 ((v_ur W (123 + 2 * (4 * (j + 1) + i)) (W (123 + 2 * (4 * j + i)))) (123 + 2 * (4 * (j + 1) + i)))).2) _ 0 (by omega) (by omega) (fun k hk => (en2 k (hk i (by omega))).trans (hF k hk)) (fun q hq p hp => ?_) (fun h9 => absurd h9 (by omega)) (fun _ => hfi) (Or.inr ⟨rfl, fun hf => absurd (hf i (by omega)) (by omega)⟩) hx2) (by omega)
              rcases (show q < i ∨ q = i by omega) with h7 | h7
              · rw [en2 _ (by omega)]; exact hD q h7 p hp
              · rw [h7]; exact erow p hp
            · refine y_ic rfl rfl ?_
              refine y_go rfl rfl ?_
              refine y_st (lv' := [(4, iv 1), (3, iv ((eW a h κ n (ts i) (M i)).1)), (7, iv ((eW a h κ n (ts i) (M i)).1)), (6, .ref (122 + 2 * (4 * (j + 1) + i))), (0, .ref 116), (1, iv (j : Int)), (2, .ref pk), (5, iv (i : Int))]) rfl rfl (fun d => rfl) ?_
              refine y_inc (z := ((i + 1 : Nat) : Int)) (lv' := [(5, iv ((i + 1 : Nat) : Int)), (4, iv 1), (3, iv ((eW a h κ n (ts i) (M i)).1)), (7, iv ((eW a h κ n (ts i) (M i)).1)), (6, .ref (122 + 2 * (4 * (j + 1) + i))), (0, .ref 116), (1, iv (j : Int)), (2, .ref pk)]) rfl rfl rfl (by omega) rfl ?_
              refine y_go rfl rfl ?_
              refine y_lv (l' := [(0, .ref 116), (1, iv (j : Int)), (2, .ref pk), (3, iv ((eW a h κ n (ts i) (M i)).1)), (4, iv 1), (5, iv ((i + 1 : Nat) : Int))]) rfl ⟨rfl, rfl, rfl, rfl, rfl, rfl, trivial⟩ ?_
              refine y_mono (ih (i + 1) (v_ur (v_ur W (123 + 2 * (4 * (j + 1) + i)) (W (123 + 2 * (4 * j + i)))) (123 + 2 * (4 * (j + 1) + i)) (eA a h κ n y.2.2.2 ((v_ur W (123 + 2 * (4 * (j + 1) + i)) (W (123 + 2 * (4 * j + i)))) (123 + 2 * (4 * (j + 1) + i)))).2) _ 1 (by omega) (by omega) (fun k hk => (en2 k (hk i (by omega))).trans (hF k hk)) (fun q hq p hp => ?_) (fun h9 => absurd h9 (by omega)) (fun _ => hfi) (Or.inl ⟨rfl, fun q hq => by rcases (show q < i ∨ q = i by omega) with h7 | h7; exact hsm q h7; rw [h7]; omega⟩) hx2) (by omega)
              rcases (show q < i ∨ q = i by omega) with h7 | h7
              · rw [en2 _ (by omega)]; exact hD q h7 p hp
              · rw [h7]; exact erow p hp
          · refine y_ld (x := iv 0) rfl rfl (fun d => rfl) ?_
            refine y_zeq rfl rfl rfl (by decide) (fun g15 => ?_) (fun g15 => absurd g15 (by decide))
            refine y_ic rfl rfl ?_
            refine y_st (lv' := [(4, iv 0), (3, iv ((eW a h κ n (ts i) (M i)).1)), (7, iv ((eW a h κ n (ts i) (M i)).1)), (6, .ref (122 + 2 * (4 * (j + 1) + i))), (0, .ref 116), (1, iv (j : Int)), (2, .ref pk), (5, iv (i : Int))]) rfl rfl (fun d => rfl) ?_
            refine y_inc (z := ((i + 1 : Nat) : Int)) (lv' := [(5, iv ((i + 1 : Nat) : Int)), (4, iv 0), (3, iv ((eW a h κ n (ts i) (M i)).1)), (7, iv ((eW a h κ n (ts i) (M i)).1)), (6, .ref (122 + 2 * (4 * (j + 1) + i))), (0, .ref 116), (1, iv (j : Int)), (2, .ref pk)]) rfl rfl rfl (by omega) rfl ?_
            refine y_go rfl rfl ?_
            refine y_lv (l' := [(0, .ref 116), (1, iv (j : Int)), (2, .ref pk), (3, iv ((eW a h κ n (ts i) (M i)).1)), (4, iv 0), (5, iv ((i + 1 : Nat) : Int))]) rfl ⟨rfl, rfl, rfl, rfl, rfl, rfl, trivial⟩ ?_
            refine y_mono (ih (i + 1) (v_ur (v_ur W (123 + 2 * (4 * (j + 1) + i)) (W (123 + 2 * (4 * j + i)))) (123 + 2 * (4 * (j + 1) + i)) (eA a h κ n y.2.2.2 ((v_ur W (123 + 2 * (4 * (j + 1) + i)) (W (123 + 2 * (4 * j + i)))) (123 + 2 * (4 * (j + 1) + i)))).2) _ 0 (by omega) (by omega) (fun k hk => (en2 k (hk i (by omega))).trans (hF k hk)) (fun q hq p hp => ?_) (fun h9 => absurd h9 (by omega)) (fun _ => hfi) (Or.inr ⟨rfl, fun hf => hsm (fun q hq => hf q (by omega))⟩) hx2) (by omega)
            rcases (show q < i ∨ q = i by omega) with h7 | h7
            · rw [en2 _ (by omega)]; exact hD q h7 p hp
            · rw [h7]; exact erow p hp
set_option maxRecDepth 100000 in
set_option maxHeartbeats 4000000 in
theorem cc_parts (hC : ClF S) {form N : Int} {al mt : Nat} {ts : Nat → List p_Li} {σ : Nat → Int} {j pk : Nat} {a h κ n : Int} {M : Nat → Nat → Int} {A : Aw} (hm4 : mt ≤ 4) (hj : j < 3) (hpk : pkO a h κ n) (hkl : 193 ≤ pk) (hMr : ∀ i, i < mt → muO (M i)) (hTO : ∀ i, i < mt → TO (ts i)) (hSr0 : SrC S V form N al mt ts σ) (hP0 : PkS S V pk a h κ n) (hSg : SgC V j form mt M A) (hfm : form = -1) (k1 : hitP form N a h κ n ts mt M A → ∀ V2, SgC V2 (j + 1) form mt (stM form a h κ n ts M) (stA form a h κ n ts mt M A) → FrS j V V2 → V2 121 = V 121 → K u w (some (iv 1)) S V2) (k0 : ¬ hitP form N a h κ n ts mt M A → ∀ V2, SgC V2 (j + 1) form mt (stM form a h κ n ts M) (stA form a h κ n ts mt M A) → FrS j V V2 → V2 121 = V 121 → K u w (some (iv 0)) S V2) : y_R X 9 37 u w [.ref 116, iv (j : Int), .ref pk] S V K := by
  refine y_ent (lv' := [(0, .ref 116), (1, iv (j : Int)), (2, .ref pk)]) (Nat.le_of_ble_eq_true rfl) rfl ?_
  refine y_ic rfl rfl ?_
  refine y_st (lv' := [(3, iv 1), (0, .ref 116), (1, iv (j : Int)), (2, .ref pk)]) rfl rfl (fun d => rfl) ?_
  refine y_ic rfl rfl ?_
  refine y_st (lv' := [(4, iv 1), (3, iv 1), (0, .ref 116), (1, iv (j : Int)), (2, .ref pk)]) rfl rfl (fun d => rfl) ?_
  refine y_ic rfl rfl ?_
  refine y_st (lv' := [(5, iv 0), (4, iv 1), (3, iv 1), (0, .ref 116), (1, iv (j : Int)), (2, .ref pk)]) rfl rfl (fun d => rfl) ?_
  refine y_lv (l' := [(0, .ref 116), (1, iv (j : Int)), (2, .ref pk), (3, iv 1), (4, iv 1), (5, iv ((0 : Nat) : Int))]) rfl ⟨rfl, rfl, rfl, rfl, rfl, rfl, trivial⟩ ?_
  refine y_mono (lp_parts (A := A) (F := 500) hC hm4 hj hpk hkl hMr hTO hSr0 hSg.1 hP0 5 0 V 1 1 (by omega) (by omega) (fun k _ => rfl) (fun q hq => absurd hq (by omega)) (fun _ => rfl) (fun h9 => absurd h9 (by omega)) (Or.inl ⟨rfl, fun q hq => absurd hq (by omega)⟩) (fun W sm hF hD hsm => ?_)) (by decide)
  rcases hsm with ⟨rfl, hsm⟩ | ⟨rfl, hsm⟩
  · refine y_ld (x := iv 1) rfl rfl (fun d => rfl) ?_
    refine y_zne rfl rfl rfl (by decide) (fun g1 => ?_) (fun g1 => absurd g1 (by decide))
    refine y_ic rfl rfl ?_
    refine y_rI rfl (by decide) ?_
    have hsg : SgC W (j + 1) form mt (stM form a h κ n ts M) (stA form a h κ n ts mt M A) := by
      refine ⟨fun i hi p hp => ?_, fun h9 => absurd hfm h9⟩
      rw [hD i hi p hp]
      show _ = stM form a h κ n ts M i p
      unfold stM
      rw [if_pos hfm]
    have hfs : FrS j V W := fun k h1 h2 => hF k (fun q hq => by omega)
    have h121 : W 121 = V 121 := hF 121 (fun q hq => by omega)
    exact k0 (fun q => by rcases q with q | q; (obtain ⟨-, i, q1, q2⟩ := q; exact q2 (hsm i q1)); exact q.1 hfm) W hsg hfs h121
  · refine y_ld (x := iv 0) rfl rfl (fun d => rfl) ?_
    refine y_zne rfl rfl rfl (by decide) (fun g2 => absurd g2 (by decide)) (fun g2 => ?_)
    refine y_ic rfl rfl ?_
    refine y_go rfl rfl ?_
    refine y_rI rfl (by decide) ?_
    have hsg : SgC W (j + 1) form mt (stM form a h κ n ts M) (stA form a h κ n ts mt M A) := by
      refine ⟨fun i hi p hp => ?_, fun h9 => absurd hfm h9⟩
      rw [hD i hi p hp]
      show _ = stM form a h κ n ts M i p
      unfold stM
      rw [if_pos hfm]
    have hfs : FrS j V W := fun k h1 h2 => hF k (fun q hq => by omega)
    have h121 : W 121 = V 121 := hF 121 (fun q hq => by omega)
    exact k1 (Or.inl ⟨hfm, Classical.byContradiction (fun q => hsm (fun i hi => Classical.byContradiction (fun q2 => q ⟨i, hi, q2⟩)))⟩) W hsg hfs h121
end
end
section
/-! the shortest row, the least of them -/
def brP (H : Nat → Nat → Prop) (a l v : Nat) : Prop := 1 ≤ l ∧ v < a ^ l ∧ H l v ∧ (∀ l', 1 ≤ l' → l' < l → ∀ v', v' < a ^ l' → ¬ H l' v') ∧ ∀ v', v' < v → ¬ H l v'
def nbP (H : Nat → Nat → Prop) (a d : Nat) : Prop := ∀ l, 1 ≤ l → l ≤ d → ∀ v, v < a ^ l → ¬ H l v
theorem brP_eq {H : Nat → Nat → Prop} {a l v l' v' : Nat} (h : brP H a l v) (h' : brP H a l' v') : l = l' ∧ v = v' := by
  obtain ⟨a1, a2, a3, a4, a5⟩ := h
  obtain ⟨b1, b2, b3, b4, b5⟩ := h'
  have e : l = l' := by
    rcases Nat.lt_trichotomy l l' with q | q | q
    · exact absurd a3 (b4 l a1 q v a2)
    · exact q
    · exact absurd b3 (a4 l' b1 q v' b2)
  subst e
  refine ⟨rfl, ?_⟩
  rcases Nat.lt_trichotomy v v' with q | q | q
  · exact absurd a3 (b5 v q)
  · exact q
  · exact absurd b3 (a5 v' q)
theorem wdS_s {form : Int} {σ : Nat → Int} {ts : Nat → List p_Li} {m a j pv q : Nat} (hq : q < a) : wdS form σ ts m a (j + 1) (pv * a + q) = (stM form (σ (1770 + 4 * q)) (σ (1770 + 4 * q + 1)) (σ (1770 + 4 * q + 2)) (σ (1770 + 4 * q + 3)) ts (wdS form σ ts m a j pv).1, stA form (σ (1770 + 4 * q)) (σ (1770 + 4 * q + 1)) (σ (1770 + 4 * q + 2)) (σ (1770 + 4 * q + 3)) ts m (wdS form σ ts m a j pv).1 (wdS form σ ts m a j pv).2) := by
  have e := wd_div (pv := pv) hq
  rw [wdS, e.1, e.2]
theorem hitV_s {form N : Int} {σ : Nat → Int} {ts : Nat → List p_Li} {m a j pv q : Nat} (hq : q < a) : hitV form N σ ts m a (j + 1) (pv * a + q) = hitP form N (σ (1770 + 4 * q)) (σ (1770 + 4 * q + 1)) (σ (1770 + 4 * q + 2)) (σ (1770 + 4 * q + 3)) ts m (wdS form σ ts m a j pv).1 (wdS form σ ts m a j pv).2 := by
  have e := wd_div (pv := pv) hq
  rw [hitV, e.1, e.2]
theorem wd_lo (pv a r : Nat) : pv * a ^ (r + 1) = pv * a * a ^ r := by rw [Nat.pow_succ, Nat.mul_comm (a ^ r) a, ← Nat.mul_assoc]
theorem wd_hi (pv a r : Nat) : (pv + 1) * a ^ (r + 1) = (pv * a + a) * a ^ r := by rw [wd_lo, Nat.succ_mul]
theorem wd_m1 (pv a r q : Nat) : pv * a * a ^ r ≤ (pv * a + q) * a ^ r := Nat.mul_le_mul_right _ (by omega)
theorem wd_m2 (pv a r q : Nat) : (pv * a + (q + 1)) * a ^ r = (pv * a + q) * a ^ r + a ^ r := by rw [← Nat.add_assoc, Nat.succ_mul]
theorem wd_m3 (pv r : Nat) {a q : Nat} (h : q < a) : (pv * a + (q + 1)) * a ^ r ≤ (pv * a + a) * a ^ r := Nat.mul_le_mul_right _ (by omega)
/-- what finds does, r packets from the end of a row of l -/
def qF (X : Nat → List Int32) (S : m_H) (form N : Int) (a m : Nat) (ts : Nat → List p_Li) (σ : Nat → Int) (l r j : Nat) : Prop :=
  ∀ (pv : Nat) (V : v_V) (K : v_K) (u w : Nat), SrC S V form N a m ts σ → SgC V j form m (wdS form σ ts m a j pv).1 (wdS form σ ts m a j pv).2 →
    (∀ v V2, pv * a ^ r ≤ v → v < (pv + 1) * a ^ r → hitV form N σ ts m a l v → (∀ v', pv * a ^ r ≤ v' → v' < v → ¬ hitV form N σ ts m a l v') → (∀ k, j ≤ k → k < l → V2 121 k = ((v / a ^ (l - 1 - k) % a : Nat) : Int)) → (∀ k, k < j → V2 121 k = V 121 k) → FrS j V V2 → K u w (some (iv 1)) S V2) →
    ((∀ v, pv * a ^ r ≤ v → v < (pv + 1) * a ^ r → ¬ hitV form N σ ts m a l v) → ∀ V2, (∀ k, k < j → V2 121 k = V 121 k) → FrS j V V2 → K u w (some (iv 0)) S V2) → y_R X (10 + r) 35 u w [.ref 116, iv (j : Int), iv (l : Int)] S V K
end
section
/-! rows of packets, gone through: the class -/
section
variable {X : Nat → List Int32} {u w : Nat} {S : m_H} {V : v_V} {K : v_K}
set_option maxRecDepth 100000 in
set_option maxHeartbeats 4000000 in
theorem lp_finds (hC : ClF S) {form N : Int} {al mt : Nat} {ts : Nat → List p_Li} {σ : Nat → Int} {L : Nat} (hm4 : mt ≤ 4) (hal : al ≤ 5) (hL3 : L ≤ 3) (hTO : ∀ i, i < mt → TO (ts i)) (hlt : ∀ q : Nat, q < al → pkO (σ (1770 + 4 * q)) (σ (1770 + 4 * q + 1)) (σ (1770 + 4 * q + 2)) (σ (1770 + 4 * q + 3))) (hfm : form = -1 ∨ (0 ≤ form ∧ form ≤ 4)) (hN : 0 ≤ N ∧ N ≤ 99) {r j pv : Nat} (hjr : j + (r + 1) = L) (hrec : 1 ≤ r → qF X S form N al mt ts σ L r (j + 1)) (kT : ∀ v V2, pv * al ^ (r + 1) ≤ v → v < (pv + 1) * al ^ (r + 1) → hitV form N σ ts mt al L v → (∀ v', pv * al ^ (r + 1) ≤ v' → v' < v → ¬ hitV form N σ ts mt al L v') → (∀ k, j ≤ k → k < L → V2 121 k = ((v / al ^ (L - 1 - k) % al : Nat) : Int)) → (∀ k, k < j → V2 121 k = V 121 k) → FrS j V V2 → K u w (some (iv 1)) S V2) (kF : (∀ v, pv * al ^ (r + 1) ≤ v → v < (pv + 1) * al ^ (r + 1) → ¬ hitV form N σ ts mt al L v) → ∀ V2, (∀ k, k < j → V2 121 k = V 121 k) → FrS j V V2 → K u w (some (iv 0)) S V2) {F : Nat} : ∀ (m : Nat) (q : Nat) (W : v_V), al - q < m → (q ≤ al) → (SrC S W form N al mt ts σ) → (SgC W j form mt (wdS form σ ts mt al j pv).1 (wdS form σ ts mt al j pv).2) → (∀ k, k < j → W 121 k = V 121 k) → (FrS j V W) → (∀ v, pv * al ^ (r + 1) ≤ v → v < (pv * al + q) * al ^ r → ¬ hitV form N σ ts mt al L v) → y_E X (10 + r) 35 (120 * m + F) u w 18 [(0, .ref 116), (1, iv (j : Int)), (2, iv (L : Int)), (3, iv (q : Int))] [] S W K := by
  intro m
  induction m with
  | zero => intros; omega
  | succ m ih =>
    intro q W hm hI hSr hSg hrw hfr hJ 
    refine y_mono (F' := (120 * m + F) + 120) ?_ (by omega)
    refine y_ld (x := iv (q : Int)) rfl rfl (fun d => rfl) ?_
    refine y_ld (x := .ref 116) rfl rfl (fun d => rfl) ?_
    refine y_gI (i := 6) (e := (al : Int)) rfl rfl rfl hSr.1 rfl hSr.2.1.2.1 ?_
    refine y_jge rfl rfl rfl (by omega) (fun g1 => ?_) (fun g1 => ?_)
    · refine y_ic rfl rfl ?_
      refine y_rI rfl (by decide) ?_
      have hqa : q = al := by have := hSr.2.1.2.1; omega
      exact kF (fun v h1 h2 => hJ v h1 (by rw [hqa, ← wd_hi]; exact h2)) W hrw hfr
    · have hqa : q < al := by have := hSr.2.1.2.1; omega
      obtain ⟨la, y1, y2, y3⟩ := hSr.2.2.2
      obtain ⟨pk, c1, c2, c3⟩ := y3 q hqa
      have hpk := hlt q hqa
      have hwo := wdS_ok (form := form) (ts := ts) (m := mt) hlt (show 0 < al by omega) j pv
      have eL := hitV_s (form := form) (N := N) (σ := σ) (ts := ts) (m := mt) (j := j) (pv := pv) hqa
      have eW := wdS_s (form := form) (σ := σ) (ts := ts) (m := mt) (j := j) (pv := pv) hqa
      have m0 := wd_lo pv al r
      have m9 := wd_hi pv al r
      have m1 := wd_m1 pv al r q
      have m2 := wd_m2 pv al r q
      have m3 := wd_m3 pv r hqa
      have m4 : (pv * al + (q + 1)) * al ^ r = (pv * al + q + 1) * al ^ r := rfl
      refine y_ld (x := .ref 116) rfl rfl (fun d => rfl) ?_
      refine y_gR (i := 5) rfl rfl rfl hSr.1 rfl ?_
      refine y_ld (x := iv (q : Int)) rfl rfl (fun d => rfl) ?_
      refine y_rld (i := q) (x := pk) rfl rfl y1 (by decide) (by omega) (by omega) c1 ?_
      refine y_st (lv' := [(4, .ref pk), (0, .ref 116), (1, iv (j : Int)), (2, iv (L : Int)), (3, iv (q : Int))]) rfl rfl (fun d => rfl) ?_
      refine y_ld (x := .ref pk) rfl rfl (fun d => rfl) ?_
      refine y_in (pc' := 42) rfl rfl (fun d => rfl) ?_
      refine y_ld (x := .ref 116) rfl rfl (fun d => rfl) ?_
      refine y_gR (i := 9) rfl rfl rfl hSr.1 rfl ?_
      refine y_ld (x := iv (j : Int)) rfl rfl (fun d => rfl) ?_
      refine y_ld (x := iv (q : Int)) rfl rfl (fun d => rfl) ?_
      refine y_ist (q := j) rfl rfl (cl_ia hC (k := 121) (N := 3) rfl) (by omega) (by decide) (by omega) ?_
      refine y_ld (x := .ref 116) rfl rfl (fun d => rfl) ?_
      refine y_gI (i := 7) (e := form) rfl rfl rfl hSr.1 rfl ((congrFun (v_up_ne (by decide)) 7).trans hSr.2.1.2.2.1) ?_
      refine y_ic rfl rfl ?_
      refine y_jne rfl rfl rfl (by omega) (fun g2 => ?_) (fun g2 => ?_)
      · refine y_ld (x := .ref 116) rfl rfl (fun d => rfl) ?_
        refine y_ld (x := iv (j : Int)) rfl rfl (fun d => rfl) ?_
        refine y_ld (x := .ref pk) rfl rfl (fun d => rfl) ?_
        have hSr1 : SrC S (v_up W 121 j (q : Int)) form N al mt ts σ := SrC_r hSr (v_up_ne (by decide)) (fun k hk => v_up_ne (by omega))
        have hSg1 : SgC (v_up W 121 j (q : Int)) j form mt (wdS form σ ts mt al j pv).1 (wdS form σ ts mt al j pv).2 := SgC_r hSg hm4 (by omega) (fun k h1 _ => v_up_ne h1)
        have hc3 : PkS S (v_up W 121 j (q : Int)) pk (σ (1770 + 4 * q)) (σ (1770 + 4 * q + 1)) (σ (1770 + 4 * q + 2)) (σ (1770 + 4 * q + 3)) := PkS_r c3 (v_up_ne (by omega))
        refine y_cV (as := [.ref 116, iv (j : Int), .ref pk]) rfl rfl rfl rfl rfl hSr.1 ⟨rfl, (Nat.le_of_ble_eq_true rfl), (Nat.le_of_ble_eq_true rfl)⟩ (by omega) (cc_breaks hC hm4 (by omega) hpk c2 hwo.1 hTO hSr1 hc3 hSg1 hwo.2 (by omega) hN (fun hh V2 g2 f2 f3 => ?_) (fun hh V2 g2 f2 f3 => ?_))
        · rw [← eL] at hh
          have hSr2 := SrC_r hSr1 (f2 116 (by decide) (by omega)) (fun k hk => f2 k (by omega) (by omega))
          have hfw : FrS j W V2 := FrS_tr (fun k h1 _ => v_up_ne h1) f2
          have hrow : ∀ k, k ≠ j → V2 121 k = W 121 k := fun k hk => by rw [f3]; exact v_up_ni hk
          have hrj : V2 121 j = (q : Int) := by rw [f3]; exact v_up_eq _ _ _ _
          have hg2 : SgC V2 (j + 1) form mt (wdS form σ ts mt al (j + 1) (pv * al + q)).1 (wdS form σ ts mt al (j + 1) (pv * al + q)).2 := by rw [eW]; exact g2
          have hSgV : SgC V2 j form mt (wdS form σ ts mt al j pv).1 (wdS form σ ts mt al j pv).2 := SgC_r hSg hm4 (by omega) hfw
          refine y_nv ?_
          refine y_st (lv' := [(5, iv 1), (4, .ref pk), (0, .ref 116), (1, iv (j : Int)), (2, iv (L : Int)), (3, iv (q : Int))]) rfl rfl (fun d => rfl) ?_
          refine y_ld (x := iv (j : Int)) rfl rfl (fun d => rfl) ?_
          refine y_ic rfl rfl ?_
          refine y_add (z := ((j + 1 : Nat) : Int)) rfl rfl (by omega) ?_
          refine y_ld (x := iv (L : Int)) rfl rfl (fun d => rfl) ?_
          refine y_jne rfl rfl rfl (by omega) (fun g3 => ?_) (fun g3 => ?_)
          · refine y_ld (x := .ref 116) rfl rfl (fun d => rfl) ?_
            refine y_ld (x := iv (j : Int)) rfl rfl (fun d => rfl) ?_
            refine y_ic rfl rfl ?_
            refine y_add (z := ((j + 1 : Nat) : Int)) rfl rfl (by omega) ?_
            refine y_ld (x := iv (L : Int)) rfl rfl (fun d => rfl) ?_
            have hr1 : 1 ≤ r := by omega
            refine y_cS (as := [.ref 116, iv ((j + 1 : Nat) : Int), iv (L : Int)]) rfl (by decide) rfl rfl rfl rfl ⟨(Nat.le_of_ble_eq_true rfl), (Nat.le_of_ble_eq_true rfl)⟩ (by omega) (hrec hr1 (pv * al + q) _ _ _ _ hSr2 hg2 (fun v V3 w1 w2 w3 w4 w5 w6 w7 => ?_) (fun w4 V3 w6 w7 => ?_))
            · refine y_nv ?_
              refine y_zeq rfl rfl rfl (by decide) (fun g4 => absurd g4 (by decide)) (fun g4 => ?_)
              refine y_ic rfl rfl ?_
              refine y_rI rfl (by decide) ?_
              refine kT v V3 (by omega) (by omega) w3 (fun v2 h1 h2 => ?_) (fun k h1 h2 => ?_) (fun k hk => (w6 k (by omega)).trans ((hrow k (by omega)).trans (hrw k hk))) (FrS_tr hfr (FrS_tr hfw (FrS_le w7 (by omega))))
              · by_cases h3 : v2 < (pv * al + q) * al ^ r
                · exact hJ v2 h1 h3
                · exact w4 v2 (by omega) h2
              · rcases (show k = j ∨ j + 1 ≤ k by omega) with h3 | h3
                · rw [h3, w6 j (by omega), hrj, show L - 1 - j = r by omega, wd_quo w1 w2, (wd_div hqa).2]
                · exact w5 k h3 h2
            · refine y_nv ?_
              refine y_zeq rfl rfl rfl (by decide) (fun g5 => ?_) (fun g5 => absurd g5 (by decide))
              refine y_inc (z := ((q + 1 : Nat) : Int)) (lv' := [(3, iv ((q + 1 : Nat) : Int)), (5, iv 1), (4, .ref pk), (0, .ref 116), (1, iv (j : Int)), (2, iv (L : Int))]) rfl rfl rfl (by omega) rfl ?_
              refine y_go rfl rfl ?_
              refine y_lv (l' := [(0, .ref 116), (1, iv (j : Int)), (2, iv (L : Int)), (3, iv ((q + 1 : Nat) : Int))]) rfl ⟨rfl, rfl, rfl, rfl, trivial⟩ ?_
              refine y_mono (ih (q + 1) V3 (by omega) (by omega) (SrC_r hSr2 (w7 116 (by decide) (by omega)) (fun k hk => w7 k (by omega) (by omega))) (SgC_r hSgV hm4 (by omega) (FrS_le w7 (by omega))) (fun k hk => (w6 k (by omega)).trans ((hrow k (by omega)).trans (hrw k hk))) (FrS_tr hfr (FrS_tr hfw (FrS_le w7 (by omega)))) (fun v h1 h2 => ?_)) (by omega)
              by_cases h3 : v < (pv * al + q) * al ^ r
              · exact hJ v h1 h3
              · exact w4 v (by omega) (by omega)
          · refine y_ld (x := iv 1) rfl rfl (fun d => rfl) ?_
            refine y_zeq rfl rfl rfl (by decide) (fun g6 => absurd g6 (by decide)) (fun g6 => ?_)
            refine y_go rfl rfl ?_
            refine y_ic rfl rfl ?_
            refine y_rI rfl (by decide) ?_
            have hr0 : r = 0 := by omega
            subst hr0
            rw [show j + 1 = L by omega] at hh
            refine kT (pv * al + q) V2 (by rw [Nat.pow_zero, Nat.mul_one] at m0; omega) (by rw [Nat.pow_zero, Nat.mul_one] at m9; omega) hh (fun v2 h1 h2 => hJ v2 h1 (by rw [Nat.pow_zero, Nat.mul_one]; exact h2)) (fun k h1 h2 => ?_) (fun k hk => (hrow k (by omega)).trans (hrw k hk)) (FrS_tr hfr hfw)
            rw [show k = j by omega, hrj, show L - 1 - j = 0 by omega, Nat.pow_zero, Nat.div_one, (wd_div hqa).2]
        · rw [← eL] at hh
          have hSr2 := SrC_r hSr1 (f2 116 (by decide) (by omega)) (fun k hk => f2 k (by omega) (by omega))
          have hfw : FrS j W V2 := FrS_tr (fun k h1 _ => v_up_ne h1) f2
          have hrow : ∀ k, k ≠ j → V2 121 k = W 121 k := fun k hk => by rw [f3]; exact v_up_ni hk
          have hrj : V2 121 j = (q : Int) := by rw [f3]; exact v_up_eq _ _ _ _
          have hg2 : SgC V2 (j + 1) form mt (wdS form σ ts mt al (j + 1) (pv * al + q)).1 (wdS form σ ts mt al (j + 1) (pv * al + q)).2 := by rw [eW]; exact g2
          have hSgV : SgC V2 j form mt (wdS form σ ts mt al j pv).1 (wdS form σ ts mt al j pv).2 := SgC_r hSg hm4 (by omega) hfw
          refine y_nv ?_
          refine y_st (lv' := [(5, iv 0), (4, .ref pk), (0, .ref 116), (1, iv (j : Int)), (2, iv (L : Int)), (3, iv (q : Int))]) rfl rfl (fun d => rfl) ?_
          refine y_ld (x := iv (j : Int)) rfl rfl (fun d => rfl) ?_
          refine y_ic rfl rfl ?_
          refine y_add (z := ((j + 1 : Nat) : Int)) rfl rfl (by omega) ?_
          refine y_ld (x := iv (L : Int)) rfl rfl (fun d => rfl) ?_
          refine y_jne rfl rfl rfl (by omega) (fun g7 => ?_) (fun g7 => ?_)
          · refine y_ld (x := .ref 116) rfl rfl (fun d => rfl) ?_
            refine y_ld (x := iv (j : Int)) rfl rfl (fun d => rfl) ?_
            refine y_ic rfl rfl ?_
            refine y_add (z := ((j + 1 : Nat) : Int)) rfl rfl (by omega) ?_
            refine y_ld (x := iv (L : Int)) rfl rfl (fun d => rfl) ?_
            have hr1 : 1 ≤ r := by omega
            refine y_cS (as := [.ref 116, iv ((j + 1 : Nat) : Int), iv (L : Int)]) rfl (by decide) rfl rfl rfl rfl ⟨(Nat.le_of_ble_eq_true rfl), (Nat.le_of_ble_eq_true rfl)⟩ (by omega) (hrec hr1 (pv * al + q) _ _ _ _ hSr2 hg2 (fun v V3 w1 w2 w3 w4 w5 w6 w7 => ?_) (fun w4 V3 w6 w7 => ?_))
            · refine y_nv ?_
              refine y_zeq rfl rfl rfl (by decide) (fun g8 => absurd g8 (by decide)) (fun g8 => ?_)
              refine y_ic rfl rfl ?_
              refine y_rI rfl (by decide) ?_
              refine kT v V3 (by omega) (by omega) w3 (fun v2 h1 h2 => ?_) (fun k h1 h2 => ?_) (fun k hk => (w6 k (by omega)).trans ((hrow k (by omega)).trans (hrw k hk))) (FrS_tr hfr (FrS_tr hfw (FrS_le w7 (by omega))))
              · by_cases h3 : v2 < (pv * al + q) * al ^ r
                · exact hJ v2 h1 h3
                · exact w4 v2 (by omega) h2
              · rcases (show k = j ∨ j + 1 ≤ k by omega) with h3 | h3
                · rw [h3, w6 j (by omega), hrj, show L - 1 - j = r by omega, wd_quo w1 w2, (wd_div hqa).2]
                · exact w5 k h3 h2
            · refine y_nv ?_
              refine y_zeq rfl rfl rfl (by decide) (fun g9 => ?_) (fun g9 => absurd g9 (by decide))
              refine y_inc (z := ((q + 1 : Nat) : Int)) (lv' := [(3, iv ((q + 1 : Nat) : Int)), (5, iv 0), (4, .ref pk), (0, .ref 116), (1, iv (j : Int)), (2, iv (L : Int))]) rfl rfl rfl (by omega) rfl ?_
              refine y_go rfl rfl ?_
              refine y_lv (l' := [(0, .ref 116), (1, iv (j : Int)), (2, iv (L : Int)), (3, iv ((q + 1 : Nat) : Int))]) rfl ⟨rfl, rfl, rfl, rfl, trivial⟩ ?_
              refine y_mono (ih (q + 1) V3 (by omega) (by omega) (SrC_r hSr2 (w7 116 (by decide) (by omega)) (fun k hk => w7 k (by omega) (by omega))) (SgC_r hSgV hm4 (by omega) (FrS_le w7 (by omega))) (fun k hk => (w6 k (by omega)).trans ((hrow k (by omega)).trans (hrw k hk))) (FrS_tr hfr (FrS_tr hfw (FrS_le w7 (by omega)))) (fun v h1 h2 => ?_)) (by omega)
              by_cases h3 : v < (pv * al + q) * al ^ r
              · exact hJ v h1 h3
              · exact w4 v (by omega) (by omega)
          · refine y_ld (x := iv 0) rfl rfl (fun d => rfl) ?_
            refine y_zeq rfl rfl rfl (by decide) (fun g10 => ?_) (fun g10 => absurd g10 (by decide))
            refine y_inc (z := ((q + 1 : Nat) : Int)) (lv' := [(3, iv ((q + 1 : Nat) : Int)), (5, iv 0), (4, .ref pk), (0, .ref 116), (1, iv (j : Int)), (2, iv (L : Int))]) rfl rfl rfl (by omega) rfl ?_
            refine y_go rfl rfl ?_
            refine y_lv (l' := [(0, .ref 116), (1, iv (j : Int)), (2, iv (L : Int)), (3, iv ((q + 1 : Nat) : Int))]) rfl ⟨rfl, rfl, rfl, rfl, trivial⟩ ?_
            have hr0 : r = 0 := by omega
            subst hr0
            rw [show j + 1 = L by omega] at hh
            refine y_mono (ih (q + 1) V2 (by omega) (by omega) hSr2 hSgV (fun k hk => (hrow k (by omega)).trans (hrw k hk)) (FrS_tr hfr hfw) (fun v h1 h2 => ?_)) (by omega)
            rw [Nat.pow_zero, Nat.mul_one] at h2
            by_cases h3 : v < pv * al + q
            · exact hJ v h1 (by rw [Nat.pow_zero, Nat.mul_one]; exact h3)
            · rw [show v = pv * al + q by omega]; exact hh
      · refine y_ld (x := .ref 116) rfl rfl (fun d => rfl) ?_
        refine y_ld (x := iv (j : Int)) rfl rfl (fun d => rfl) ?_
        refine y_ld (x := .ref pk) rfl rfl (fun d => rfl) ?_
        have hSr1 : SrC S (v_up W 121 j (q : Int)) form N al mt ts σ := SrC_r hSr (v_up_ne (by decide)) (fun k hk => v_up_ne (by omega))
        have hSg1 : SgC (v_up W 121 j (q : Int)) j form mt (wdS form σ ts mt al j pv).1 (wdS form σ ts mt al j pv).2 := SgC_r hSg hm4 (by omega) (fun k h1 _ => v_up_ne h1)
        have hc3 : PkS S (v_up W 121 j (q : Int)) pk (σ (1770 + 4 * q)) (σ (1770 + 4 * q + 1)) (σ (1770 + 4 * q + 2)) (σ (1770 + 4 * q + 3)) := PkS_r c3 (v_up_ne (by omega))
        refine y_cV (as := [.ref 116, iv (j : Int), .ref pk]) rfl rfl rfl rfl rfl hSr.1 ⟨rfl, (Nat.le_of_ble_eq_true rfl), (Nat.le_of_ble_eq_true rfl)⟩ (by omega) (cc_parts hC hm4 (by omega) hpk c2 hwo.1 hTO hSr1 hc3 hSg1 (by omega) (fun hh V2 g2 f2 f3 => ?_) (fun hh V2 g2 f2 f3 => ?_))
        · rw [← eL] at hh
          have hSr2 := SrC_r hSr1 (f2 116 (by decide) (by omega)) (fun k hk => f2 k (by omega) (by omega))
          have hfw : FrS j W V2 := FrS_tr (fun k h1 _ => v_up_ne h1) f2
          have hrow : ∀ k, k ≠ j → V2 121 k = W 121 k := fun k hk => by rw [f3]; exact v_up_ni hk
          have hrj : V2 121 j = (q : Int) := by rw [f3]; exact v_up_eq _ _ _ _
          have hg2 : SgC V2 (j + 1) form mt (wdS form σ ts mt al (j + 1) (pv * al + q)).1 (wdS form σ ts mt al (j + 1) (pv * al + q)).2 := by rw [eW]; exact g2
          have hSgV : SgC V2 j form mt (wdS form σ ts mt al j pv).1 (wdS form σ ts mt al j pv).2 := SgC_r hSg hm4 (by omega) hfw
          refine y_nv ?_
          refine y_go rfl rfl ?_
          refine y_st (lv' := [(5, iv 1), (4, .ref pk), (0, .ref 116), (1, iv (j : Int)), (2, iv (L : Int)), (3, iv (q : Int))]) rfl rfl (fun d => rfl) ?_
          refine y_ld (x := iv (j : Int)) rfl rfl (fun d => rfl) ?_
          refine y_ic rfl rfl ?_
          refine y_add (z := ((j + 1 : Nat) : Int)) rfl rfl (by omega) ?_
          refine y_ld (x := iv (L : Int)) rfl rfl (fun d => rfl) ?_
          refine y_jne rfl rfl rfl (by omega) (fun g11 => ?_) (fun g11 => ?_)
          · refine y_ld (x := .ref 116) rfl rfl (fun d => rfl) ?_
            refine y_ld (x := iv (j : Int)) rfl rfl (fun d => rfl) ?_
            refine y_ic rfl rfl ?_
            refine y_add (z := ((j + 1 : Nat) : Int)) rfl rfl (by omega) ?_
            refine y_ld (x := iv (L : Int)) rfl rfl (fun d => rfl) ?_
            have hr1 : 1 ≤ r := by omega
            refine y_cS (as := [.ref 116, iv ((j + 1 : Nat) : Int), iv (L : Int)]) rfl (by decide) rfl rfl rfl rfl ⟨(Nat.le_of_ble_eq_true rfl), (Nat.le_of_ble_eq_true rfl)⟩ (by omega) (hrec hr1 (pv * al + q) _ _ _ _ hSr2 hg2 (fun v V3 w1 w2 w3 w4 w5 w6 w7 => ?_) (fun w4 V3 w6 w7 => ?_))
            · refine y_nv ?_
              refine y_zeq rfl rfl rfl (by decide) (fun g12 => absurd g12 (by decide)) (fun g12 => ?_)
              refine y_ic rfl rfl ?_
              refine y_rI rfl (by decide) ?_
              refine kT v V3 (by omega) (by omega) w3 (fun v2 h1 h2 => ?_) (fun k h1 h2 => ?_) (fun k hk => (w6 k (by omega)).trans ((hrow k (by omega)).trans (hrw k hk))) (FrS_tr hfr (FrS_tr hfw (FrS_le w7 (by omega))))
              · by_cases h3 : v2 < (pv * al + q) * al ^ r
                · exact hJ v2 h1 h3
                · exact w4 v2 (by omega) h2
              · rcases (show k = j ∨ j + 1 ≤ k by omega) with h3 | h3
                · rw [h3, w6 j (by omega), hrj, show L - 1 - j = r by omega, wd_quo w1 w2, (wd_div hqa).2]
                · exact w5 k h3 h2
            · refine y_nv ?_
              refine y_zeq rfl rfl rfl (by decide) (fun g13 => ?_) (fun g13 => absurd g13 (by decide))
              refine y_inc (z := ((q + 1 : Nat) : Int)) (lv' := [(3, iv ((q + 1 : Nat) : Int)), (5, iv 1), (4, .ref pk), (0, .ref 116), (1, iv (j : Int)), (2, iv (L : Int))]) rfl rfl rfl (by omega) rfl ?_
              refine y_go rfl rfl ?_
              refine y_lv (l' := [(0, .ref 116), (1, iv (j : Int)), (2, iv (L : Int)), (3, iv ((q + 1 : Nat) : Int))]) rfl ⟨rfl, rfl, rfl, rfl, trivial⟩ ?_
              refine y_mono (ih (q + 1) V3 (by omega) (by omega) (SrC_r hSr2 (w7 116 (by decide) (by omega)) (fun k hk => w7 k (by omega) (by omega))) (SgC_r hSgV hm4 (by omega) (FrS_le w7 (by omega))) (fun k hk => (w6 k (by omega)).trans ((hrow k (by omega)).trans (hrw k hk))) (FrS_tr hfr (FrS_tr hfw (FrS_le w7 (by omega)))) (fun v h1 h2 => ?_)) (by omega)
              by_cases h3 : v < (pv * al + q) * al ^ r
              · exact hJ v h1 h3
              · exact w4 v (by omega) (by omega)
          · refine y_ld (x := iv 1) rfl rfl (fun d => rfl) ?_
            refine y_zeq rfl rfl rfl (by decide) (fun g14 => absurd g14 (by decide)) (fun g14 => ?_)
            refine y_go rfl rfl ?_
            refine y_ic rfl rfl ?_
            refine y_rI rfl (by decide) ?_
            have hr0 : r = 0 := by omega
            subst hr0
            rw [show j + 1 = L by omega] at hh
            refine kT (pv * al + q) V2 (by rw [Nat.pow_zero, Nat.mul_one] at m0; omega) (by rw [Nat.pow_zero, Nat.mul_one] at m9; omega) hh (fun v2 h1 h2 => hJ v2 h1 (by rw [Nat.pow_zero, Nat.mul_one]; exact h2)) (fun k h1 h2 => ?_) (fun k hk => (hrow k (by omega)).trans (hrw k hk)) (FrS_tr hfr hfw)
            rw [show k = j by omega, hrj, show L - 1 - j = 0 by omega, Nat.pow_zero, Nat.div_one, (wd_div hqa).2]
        · rw [← eL] at hh
          have hSr2 := SrC_r hSr1 (f2 116 (by decide) (by omega)) (fun k hk => f2 k (by omega) (by omega))
          have hfw : FrS j W V2 := FrS_tr (fun k h1 _ => v_up_ne h1) f2
          have hrow : ∀ k, k ≠ j → V2 121 k = W 121 k := fun k hk => by rw [f3]; exact v_up_ni hk
          have hrj : V2 121 j = (q : Int) := by rw [f3]; exact v_up_eq _ _ _ _
          have hg2 : SgC V2 (j + 1) form mt (wdS form σ ts mt al (j + 1) (pv * al + q)).1 (wdS form σ ts mt al (j + 1) (pv * al + q)).2 := by rw [eW]; exact g2
          have hSgV : SgC V2 j form mt (wdS form σ ts mt al j pv).1 (wdS form σ ts mt al j pv).2 := SgC_r hSg hm4 (by omega) hfw
          refine y_nv ?_
          refine y_go rfl rfl ?_
          refine y_st (lv' := [(5, iv 0), (4, .ref pk), (0, .ref 116), (1, iv (j : Int)), (2, iv (L : Int)), (3, iv (q : Int))]) rfl rfl (fun d => rfl) ?_
          refine y_ld (x := iv (j : Int)) rfl rfl (fun d => rfl) ?_
          refine y_ic rfl rfl ?_
          refine y_add (z := ((j + 1 : Nat) : Int)) rfl rfl (by omega) ?_
          refine y_ld (x := iv (L : Int)) rfl rfl (fun d => rfl) ?_
          refine y_jne rfl rfl rfl (by omega) (fun g15 => ?_) (fun g15 => ?_)
          · refine y_ld (x := .ref 116) rfl rfl (fun d => rfl) ?_
            refine y_ld (x := iv (j : Int)) rfl rfl (fun d => rfl) ?_
            refine y_ic rfl rfl ?_
            refine y_add (z := ((j + 1 : Nat) : Int)) rfl rfl (by omega) ?_
            refine y_ld (x := iv (L : Int)) rfl rfl (fun d => rfl) ?_
            have hr1 : 1 ≤ r := by omega
            refine y_cS (as := [.ref 116, iv ((j + 1 : Nat) : Int), iv (L : Int)]) rfl (by decide) rfl rfl rfl rfl ⟨(Nat.le_of_ble_eq_true rfl), (Nat.le_of_ble_eq_true rfl)⟩ (by omega) (hrec hr1 (pv * al + q) _ _ _ _ hSr2 hg2 (fun v V3 w1 w2 w3 w4 w5 w6 w7 => ?_) (fun w4 V3 w6 w7 => ?_))
            · refine y_nv ?_
              refine y_zeq rfl rfl rfl (by decide) (fun g16 => absurd g16 (by decide)) (fun g16 => ?_)
              refine y_ic rfl rfl ?_
              refine y_rI rfl (by decide) ?_
              refine kT v V3 (by omega) (by omega) w3 (fun v2 h1 h2 => ?_) (fun k h1 h2 => ?_) (fun k hk => (w6 k (by omega)).trans ((hrow k (by omega)).trans (hrw k hk))) (FrS_tr hfr (FrS_tr hfw (FrS_le w7 (by omega))))
              · by_cases h3 : v2 < (pv * al + q) * al ^ r
                · exact hJ v2 h1 h3
                · exact w4 v2 (by omega) h2
              · rcases (show k = j ∨ j + 1 ≤ k by omega) with h3 | h3
                · rw [h3, w6 j (by omega), hrj, show L - 1 - j = r by omega, wd_quo w1 w2, (wd_div hqa).2]
                · exact w5 k h3 h2
            · refine y_nv ?_
              refine y_zeq rfl rfl rfl (by decide) (fun g17 => ?_) (fun g17 => absurd g17 (by decide))
              refine y_inc (z := ((q + 1 : Nat) : Int)) (lv' := [(3, iv ((q + 1 : Nat) : Int)), (5, iv 0), (4, .ref pk), (0, .ref 116), (1, iv (j : Int)), (2, iv (L : Int))]) rfl rfl rfl (by omega) rfl ?_
              refine y_go rfl rfl ?_
              refine y_lv (l' := [(0, .ref 116), (1, iv (j : Int)), (2, iv (L : Int)), (3, iv ((q + 1 : Nat) : Int))]) rfl ⟨rfl, rfl, rfl, rfl, trivial⟩ ?_
              refine y_mono (ih (q + 1) V3 (by omega) (by omega) (SrC_r hSr2 (w7 116 (by decide) (by omega)) (fun k hk => w7 k (by omega) (by omega))) (SgC_r hSgV hm4 (by omega) (FrS_le w7 (by omega))) (fun k hk => (w6 k (by omega)).trans ((hrow k (by omega)).trans (hrw k hk))) (FrS_tr hfr (FrS_tr hfw (FrS_le w7 (by omega)))) (fun v h1 h2 => ?_)) (by omega)
              by_cases h3 : v < (pv * al + q) * al ^ r
              · exact hJ v h1 h3
              · exact w4 v (by omega) (by omega)
          · refine y_ld (x := iv 0) rfl rfl (fun d => rfl) ?_
            refine y_zeq rfl rfl rfl (by decide) (fun g18 => ?_) (fun g18 => absurd g18 (by decide))
            refine y_inc (z := ((q + 1 : Nat) : Int)) (lv' := [(3, iv ((q + 1 : Nat) : Int)), (5, iv 0), (4, .ref pk), (0, .ref 116), (1, iv (j : Int)), (2, iv (L : Int))]) rfl rfl rfl (by omega) rfl ?_
            refine y_go rfl rfl ?_
            refine y_lv (l' := [(0, .ref 116), (1, iv (j : Int)), (2, iv (L : Int)), (3, iv ((q + 1 : Nat) : Int))]) rfl ⟨rfl, rfl, rfl, rfl, trivial⟩ ?_
            have hr0 : r = 0 := by omega
            subst hr0
            rw [show j + 1 = L by omega] at hh
            refine y_mono (ih (q + 1) V2 (by omega) (by omega) hSr2 hSgV (fun k hk => (hrow k (by omega)).trans (hrw k hk)) (FrS_tr hfr hfw) (fun v h1 h2 => ?_)) (by omega)
            rw [Nat.pow_zero, Nat.mul_one] at h2
            by_cases h3 : v < pv * al + q
            · exact hJ v h1 (by rw [Nat.pow_zero, Nat.mul_one]; exact h3)
            · rw [show v = pv * al + q by omega]; exact hh
set_option maxRecDepth 100000 in
set_option maxHeartbeats 4000000 in
theorem cc_finds (hC : ClF S) {form N : Int} {al mt : Nat} {ts : Nat → List p_Li} {σ : Nat → Int} {L : Nat} (hm4 : mt ≤ 4) (hal : al ≤ 5) (hL3 : L ≤ 3) (hTO : ∀ i, i < mt → TO (ts i)) (hlt : ∀ q : Nat, q < al → pkO (σ (1770 + 4 * q)) (σ (1770 + 4 * q + 1)) (σ (1770 + 4 * q + 2)) (σ (1770 + 4 * q + 3))) (hfm : form = -1 ∨ (0 ≤ form ∧ form ≤ 4)) (hN : 0 ≤ N ∧ N ≤ 99) : ∀ (r j : Nat), j + r = L → 1 ≤ r → qF X S form N al mt ts σ L r j
  | 0, _, _, h => absurd h (by decide)
  | r + 1, j, hjr, _ => by
    intro pv V K u w hSr hSg kT kF
    have hrec : 1 ≤ r → qF X S form N al mt ts σ L r (j + 1) := fun h => cc_finds hC hm4 hal hL3 hTO hlt hfm hN r (j + 1) (by omega) h
    show y_R X (10 + r + 1) 35 u w _ S V K
    refine y_ent (lv' := [(0, .ref 116), (1, iv (j : Int)), (2, iv (L : Int))]) (Nat.le_of_ble_eq_true rfl) rfl ?_
    refine y_ld (x := iv (j : Int)) rfl rfl (fun d => rfl) ?_
    refine y_zlt rfl rfl rfl (by omega) (fun g1 => absurd g1 (by omega)) (fun g1 => ?_)
    refine y_ld (x := iv (j : Int)) rfl rfl (fun d => rfl) ?_
    refine y_ld (x := iv (L : Int)) rfl rfl (fun d => rfl) ?_
    refine y_jge rfl rfl rfl (by omega) (fun g2 => absurd g2 (by omega)) (fun g2 => ?_)
    refine y_ld (x := iv (L : Int)) rfl rfl (fun d => rfl) ?_
    refine y_ic rfl rfl ?_
    refine y_jle rfl rfl rfl (by omega) (fun g3 => ?_) (fun g3 => absurd g3 (by omega))
    refine y_ic rfl rfl ?_
    refine y_st (lv' := [(3, iv 0), (0, .ref 116), (1, iv (j : Int)), (2, iv (L : Int))]) rfl rfl (fun d => rfl) ?_
    refine y_lv (l' := [(0, .ref 116), (1, iv (j : Int)), (2, iv (L : Int)), (3, iv ((0 : Nat) : Int))]) rfl ⟨rfl, rfl, rfl, rfl, trivial⟩ ?_
    exact y_mono (lp_finds (F := 100) hC hm4 hal hL3 hTO hlt hfm hN hjr hrec kT kF 6 0 V (by omega) (by omega) hSr hSg (fun k _ => rfl) (FrS_rf j V) (fun v h1 h2 => by rw [Nat.add_zero, ← wd_lo] at h2; omega)) (by decide)
set_option maxRecDepth 100000 in
set_option maxHeartbeats 4000000 in
theorem lp_shortest (hC : ClF S) {form N : Int} {al mt : Nat} {ts : Nat → List p_Li} {σ : Nat → Int} (hm4 : mt ≤ 4) (hal : al ≤ 5) (hTO : ∀ i, i < mt → TO (ts i)) (hlt : ∀ q : Nat, q < al → pkO (σ (1770 + 4 * q)) (σ (1770 + 4 * q + 1)) (σ (1770 + 4 * q + 2)) (σ (1770 + 4 * q + 3))) (hfm : form = -1 ∨ (0 ≤ form ∧ form ≤ 4)) (hN : 0 ≤ N ∧ N ≤ 99) {d : Nat} (hd : d ≤ 3) (hSg : SgC V 0 form mt (fun _ _ => 0) aw0) (kS : ∀ l v V2, l ≤ d → brP (hitV form N σ ts mt al) al l v → (∀ k, k < l → V2 121 k = ((v / al ^ (l - 1 - k) % al : Nat) : Int)) → FrS 0 V V2 → K u w (some (iv (l : Int))) S V2) (k0 : nbP (hitV form N σ ts mt al) al d → ∀ V2, FrS 0 V V2 → K u w (some (iv 0)) S V2) {F : Nat} : ∀ (m : Nat) (l : Nat) (W : v_V), 4 - l < m → (1 ≤ l ∧ l ≤ 4) → (SrC S W form N al mt ts σ) → (FrS 0 V W) → (∀ l', 1 ≤ l' → l' < l → ∀ v, v < al ^ l' → ¬ hitV form N σ ts mt al l' v) → y_E X 13 34 (60 * m + F) u w 2 [(0, .ref 116), (1, iv (d : Int)), (2, iv (l : Int))] [] S W K := by
  intro m
  induction m with
  | zero => intros; omega
  | succ m ih =>
    intro l W hm hI hSr hfr hJ 
    refine y_mono (F' := (60 * m + F) + 60) ?_ (by omega)
    refine y_ld (x := iv (l : Int)) rfl rfl (fun d => rfl) ?_
    refine y_ld (x := iv (d : Int)) rfl rfl (fun d => rfl) ?_
    refine y_jgt rfl rfl rfl (by omega) (fun g1 => ?_) (fun g1 => ?_)
    · refine y_ic rfl rfl ?_
      refine y_rI rfl (Or.inl rfl) ?_
      exact k0 (fun l2 h1 h2 v hv => hJ l2 h1 (by omega) v hv) W hfr
    · refine y_ld (x := iv (l : Int)) rfl rfl (fun d => rfl) ?_
      refine y_ic rfl rfl ?_
      refine y_jgt rfl rfl rfl (by omega) (fun g2 => ?_) (fun g2 => ?_)
      · refine y_ic rfl rfl ?_
        refine y_rI rfl (Or.inl rfl) ?_
        exact k0 (fun l2 h1 h2 v hv => hJ l2 h1 (by omega) v hv) W hfr
      · have hl3 : l ≤ 3 := by omega
        refine y_ld (x := .ref 116) rfl rfl (fun d => rfl) ?_
        refine y_ic rfl rfl ?_
        refine y_ld (x := iv (l : Int)) rfl rfl (fun d => rfl) ?_
        refine y_cS (as := [.ref 116, iv ((0 : Nat) : Int), iv (l : Int)]) rfl (by decide) rfl rfl rfl rfl ⟨(Nat.le_of_ble_eq_true rfl), (Nat.le_of_ble_eq_true rfl)⟩ (by omega) (cc_finds (L := l) hC hm4 hal (by omega) hTO hlt hfm hN l 0 (by omega) hI.1 0 _ _ _ _ hSr (SgC_r hSg hm4 (by decide) hfr) (fun v V3 w1 w2 w3 w4 w5 w6 w7 => ?_) (fun w4 V3 w6 w7 => ?_))
        · refine y_nv ?_
          refine y_zeq rfl rfl rfl (by decide) (fun g3 => absurd g3 (by decide)) (fun g3 => ?_)
          refine y_ld (x := iv (l : Int)) rfl rfl (fun d => rfl) ?_
          refine y_rI rfl (Or.inl rfl) ?_
          rw [Nat.zero_mul] at w4
          rw [Nat.zero_add, Nat.one_mul] at w2
          exact kS l v V3 (by omega) ⟨hI.1, w2, w3, hJ, fun v2 h2 => w4 v2 (Nat.zero_le _) h2⟩ (fun k hk => w5 k (Nat.zero_le _) hk) (FrS_tr hfr w7)
        · refine y_nv ?_
          refine y_zeq rfl rfl rfl (by decide) (fun g4 => ?_) (fun g4 => absurd g4 (by decide))
          refine y_inc (z := ((l + 1 : Nat) : Int)) (lv' := [(2, iv ((l + 1 : Nat) : Int)), (0, .ref 116), (1, iv (d : Int))]) rfl rfl rfl (by omega) rfl ?_
          refine y_go rfl rfl ?_
          refine y_lv (l' := [(0, .ref 116), (1, iv (d : Int)), (2, iv ((l + 1 : Nat) : Int))]) rfl ⟨rfl, rfl, rfl, trivial⟩ ?_
          rw [Nat.zero_mul, Nat.zero_add, Nat.one_mul] at w4
          refine y_mono (ih (l + 1) V3 (by omega) (by omega) (SrC_r hSr (w7 116 (by decide) (by omega)) (fun k hk => w7 k (by omega) (by omega))) (FrS_tr hfr w7) (fun l2 h1 h2 v hv => ?_)) (by omega)
          rcases (show l2 < l ∨ l2 = l by omega) with h3 | h3
          · exact hJ l2 h1 h3 v hv
          · rw [h3] at hv ⊢; exact w4 v (Nat.zero_le _) hv
set_option maxRecDepth 100000 in
set_option maxHeartbeats 4000000 in
theorem cc_shortest (hC : ClF S) {form N : Int} {al mt : Nat} {ts : Nat → List p_Li} {σ : Nat → Int} (hm4 : mt ≤ 4) (hal : al ≤ 5) (hTO : ∀ i, i < mt → TO (ts i)) (hlt : ∀ q : Nat, q < al → pkO (σ (1770 + 4 * q)) (σ (1770 + 4 * q + 1)) (σ (1770 + 4 * q + 2)) (σ (1770 + 4 * q + 3))) (hfm : form = -1 ∨ (0 ≤ form ∧ form ≤ 4)) (hN : 0 ≤ N ∧ N ≤ 99) {d : Nat} (hd : d ≤ 3) (hSr : SrC S V form N al mt ts σ) (hSg : SgC V 0 form mt (fun _ _ => 0) aw0) (kS : ∀ l v V2, l ≤ d → brP (hitV form N σ ts mt al) al l v → (∀ k, k < l → V2 121 k = ((v / al ^ (l - 1 - k) % al : Nat) : Int)) → FrS 0 V V2 → K u w (some (iv (l : Int))) S V2) (k0 : nbP (hitV form N σ ts mt al) al d → ∀ V2, FrS 0 V V2 → K u w (some (iv 0)) S V2) : y_R X 14 34 u w [.ref 116, iv (d : Int)] S V K := by
  refine y_ent (lv' := [(0, .ref 116), (1, iv (d : Int))]) (Nat.le_of_ble_eq_true rfl) rfl ?_
  refine y_ic rfl rfl ?_
  refine y_st (lv' := [(2, iv 1), (0, .ref 116), (1, iv (d : Int))]) rfl rfl (fun d => rfl) ?_
  refine y_lv (l' := [(0, .ref 116), (1, iv (d : Int)), (2, iv ((1 : Nat) : Int))]) rfl ⟨rfl, rfl, rfl, trivial⟩ ?_
  exact y_mono (lp_shortest (F := 100) hC hm4 hal hTO hlt hfm hN hd hSg kS k0 5 1 V (by omega) (by omega) hSr (FrS_rf 0 V) (fun l2 h1 h2 => absurd h2 (by omega))) (by decide)
end
end
section
/-! PROMISES as the reference sees them -/
def keptM (A : Aw) (t form N : Int) : Prop := (form = 2 → aPa A t.toNat ≤ N) ∧ (form = 1 → aOp A t.toNat = true → cnA (aOp A) (aHo A) (aHo A t.toNat) 16 ≤ N) ∧ (form = 3 → aOp A t.toNat = true → cnA (aOp A) (aNu A) (aNu A t.toNat) 16 ≤ 1)
def vioM (A : Aw) (t k how form N : Int) : Prop := (how = 1 ∧ ((form = 0 ∧ k = 1 ∧ aBg A t.toNat = false) ∨ (form = 4 ∧ aBr A t.toNat = true))) ∨ ¬ keptM A t form N
def RWm (V : v_V) (A : Aw) : Prop := ∀ t : Nat, t < 16 → V 183 t = b01 (aBg A t) ∧ V 184 t = b01 (aOp A t) ∧ V 185 t = b01 (aBr A t) ∧ V 188 t = aPa A t ∧ (aOp A t = true → V 186 t = aHo A t ∧ V 187 t = aNu A t)
theorem RWm_r {V V' : v_V} {A : Aw} (h : RWm V A) (e : ∀ k, 183 ≤ k → k ≤ 188 → V' k = V k) : RWm V' A := by
  unfold RWm
  rw [e 183 (by decide) (by decide), e 184 (by decide) (by decide), e 185 (by decide) (by decide), e 186 (by decide) (by decide), e 187 (by decide) (by decide), e 188 (by decide) (by decide)]
  exact h
def howV (form : Int) (σ : Nat → Int) (ts : Nat → List p_Li) (m a j v : Nat) : Int := hwP (σ (1770 + 4 * (v % a))) (σ (1770 + 4 * (v % a) + 1)) (σ (1770 + 4 * (v % a) + 2)) (σ (1770 + 4 * (v % a) + 3)) ts (wdS form σ ts m a j (v / a)).1 m
def vioV (form N : Int) (σ : Nat → Int) (ts : Nat → List p_Li) (m a : Nat) : Nat → Nat → Prop
  | 0, _ => False
  | j + 1, v => vioM (wdS form σ ts m a (j + 1) v).2 (σ (1770 + 4 * (v % a))) (σ (1770 + 4 * (v % a) + 2)) (howV form σ ts m a j v) form N
/-- a row of l that breaks it somewhere -/
def brkV (form N : Int) (σ : Nat → Int) (ts : Nat → List p_Li) (m a l v : Nat) : Prop := ∃ j, j < l ∧ vioV form N σ ts m a (j + 1) (v / a ^ (l - 1 - j))
theorem wd_dd {v a l j : Nat} (h : j + 1 < l) : v / a ^ (l - 1 - (j + 1)) / a = v / a ^ (l - 1 - j) := by
  rw [Nat.div_div_eq_div_mul, ← Nat.pow_succ, show (l - 1 - (j + 1)).succ = l - 1 - j by omega]
/-- the reference's word is the row v of l -/
def WdM (V : v_V) (a l v : Nat) : Prop := ∀ k : Nat, k < l → V 180 k = ((v / a ^ (l - 1 - k) % a : Nat) : Int)
/-- what trying leaves as it was -/
def FrT (V V2 : v_V) : Prop := (∀ k, k ≠ 170 → k ≠ 178 → k ≠ 179 → V2 k = V k) ∧ ∀ i, i < 17 ∨ 23 < i → V2 170 i = V 170 i
theorem FrT_rf (V : v_V) : FrT V V := ⟨fun _ _ _ _ => rfl, fun _ _ => rfl⟩
theorem FrT_tr {V V' V'' : v_V} (h : FrT V V') (h2 : FrT V' V'') : FrT V V'' := ⟨fun k a b c => (h2.1 k a b c).trans (h.1 k a b c), fun i a => (h2.2 i a).trans (h.2 i a)⟩
/-- the TEXTS that the reference goes through -/
def ThM (V : v_V) (m : Nat) (ts : Nat → List p_Li) : Prop := V 170 27 = (m : Int) ∧ ∀ i : Nat, i < m → ∃ x : Nat, x < 8 ∧ V 182 i = (x : Int) ∧ MT V x (ts i)
theorem ThM_r {V V' : v_V} {m : Nat} {ts : Nat → List p_Li} (h : ThM V m ts) (e0 : V' 170 27 = V 170 27) (e : ∀ k, 173 ≤ k → k ≤ 177 ∨ k = 182 → V' k = V k) : ThM V' m ts := by
  refine ⟨by rw [e0]; exact h.1, fun i hi => ?_⟩
  obtain ⟨x, x1, x2, x3⟩ := h.2 i hi
  refine ⟨x, x1, by rw [e 182 (by decide) (by decide)]; exact x2, ?_⟩
  obtain ⟨a1, a2, a3, a4, a5⟩ := x3
  refine ⟨by rw [e 174 (by decide) (by decide)]; exact a1, ?_, by rw [e 175 (by decide) (by decide)]; exact a3, ?_, ?_⟩
  · rw [e 173 (by decide) (by decide)]; exact a2
  · unfold AM
    rw [e 176 (by decide) (by decide)]; exact a4
  · rw [e 177 (by decide) (by decide)]; exact a5
end
section
/-! a row of packets tried: the reference -/
section
variable {X : Nat → List Int32} {u w : Nat} {S : m_H} {V : v_V} {K : v_K}
set_option maxRecDepth 100000 in
set_option maxHeartbeats 4000000 in
theorem lp_empties (hM : MdS S) {tm : Nat} (htm : V 170 27 = (tm : Int)) (htl : tm ≤ 4) {F : Nat} : ∀ (m : Nat) (k : Nat), 84 * tm - k < m → (k ≤ 84 * tm) → (K u w none S (v_ur (v_up V 170 21 1) 178 (fun q => if q < 84 * tm then 0 else V 178 q))) → y_E X 0 154 (20 * m + F) u w 7 [(0, .ref 170), (1, iv (k : Int))] [] S (v_ur (v_up V 170 21 1) 178 (fun q => if q < k then 0 else V 178 q)) K := by
  intro m
  induction m with
  | zero => intros; omega
  | succ m ih =>
    intro k hm hI hx2
    refine y_mono (F' := (20 * m + F) + 20) ?_ (by omega)
    refine y_ld (x := iv (k : Int)) rfl rfl (fun d => rfl) ?_
    refine y_bi rfl rfl (by decide) ?_
    refine y_ld (x := .ref 170) rfl rfl (fun d => rfl) ?_
    refine y_gI (i := 27) (e := (tm : Int)) rfl rfl rfl (md170 hM) rfl (by rw [v_ur_ne (by decide), v_up_ni (by decide)]; exact htm) ?_
    refine y_mul (z := (84 * (tm : Int))) rfl rfl rfl ?_
    refine y_jge rfl rfl rfl (by omega) (fun g1 => ?_) (fun g1 => ?_)
    · refine y_ret rfl (fun d => rfl) ?_
      obtain rfl : k = 84 * tm := by omega
      exact hx2
    · refine y_ld (x := .ref 170) rfl rfl (fun d => rfl) ?_
      refine y_gR (i := 15) rfl rfl rfl (md170 hM) rfl ?_
      refine y_ld (x := iv (k : Int)) rfl rfl (fun d => rfl) ?_
      refine y_ic rfl rfl ?_
      refine y_ist (q := k) rfl rfl (md178 hM) (by omega) (by decide) (by omega) ?_
      refine y_inc (z := ((k + 1 : Nat) : Int)) (lv' := [(1, iv ((k + 1 : Nat) : Int)), (0, .ref 170)]) rfl rfl rfl (by omega) rfl ?_
      refine y_go rfl rfl ?_
      refine y_lv (l' := [(0, .ref 170), (1, iv ((k + 1 : Nat) : Int))]) rfl ⟨rfl, rfl, trivial⟩ ?_
      refine y_V (V' := v_ur (v_up V 170 21 1) 178 (fun q => if q < k + 1 then 0 else V 178 q)) ?_ ?_
      · rw [v_up_ur, v_ur_ur, v_ur_eq]
        congr 1
        funext q
        unfold v_uf
        by_cases h1 : q = k
        · rw [if_pos h1, if_pos (by omega)]
        · rw [if_neg h1]
          show (if q < k then 0 else V 178 q) = _
          by_cases h2 : q < k
          · rw [if_pos h2, if_pos (by omega)]
          · rw [if_neg h2, if_neg (by omega)]
      exact y_mono (ih (k + 1) (by omega) (by omega) hx2) (by omega)
set_option maxRecDepth 100000 in
set_option maxHeartbeats 4000000 in
theorem ct_empties (hM : MdS S) {tm : Nat} (htm : V 170 27 = (tm : Int)) (htl : tm ≤ 4) (k : K u w none S (v_ur (v_up V 170 21 1) 178 (fun q => if q < 84 * tm then 0 else V 178 q))) : y_R X 1 154 u w [.ref 170] S V K := by
  refine y_ent (lv' := [(0, .ref 170)]) (Nat.le_of_ble_eq_true rfl) rfl ?_
  refine y_ld (x := .ref 170) rfl rfl (fun d => rfl) ?_
  refine y_ic rfl rfl ?_
  refine y_pZ (i := 21) rfl rfl rfl (md170 hM) rfl rfl (by decide) ?_
  refine y_ic rfl rfl ?_
  refine y_st (lv' := [(1, iv 0), (0, .ref 170)]) rfl rfl (fun d => rfl) ?_
  refine y_lv (l' := [(0, .ref 170), (1, iv ((0 : Nat) : Int))]) rfl ⟨rfl, rfl, trivial⟩ ?_
  refine y_V (V' := (v_ur (v_up V 170 21 1) 178 (fun q => if q < 0 then 0 else V 178 q))) (by rw [show (fun q => if q < 0 then 0 else V 178 q) = (v_up V 170 21 1) 178 from funext (fun q => if_neg (by omega)), v_ur_self]) ?_
  exact y_mono (lp_empties (F := 100) hM htm htl 400 0 (by omega) (by omega) k) (by decide)
/- -/
set_option maxRecDepth 100000 in
set_option maxHeartbeats 4000000 in
theorem lp_tries (hM : MdS S) {tm : Nat} (htl : tm ≤ 4) {ts : Nat → List p_Li} (hTO : ∀ i, i < tm → TO (ts i)) {M : Nat → Nat → Int} (hMr : ∀ i, i < tm → muO (M i)) {a h κ n : Int} (hpk : pkO a h κ n) {F : Nat} : ∀ (m : Nat) (i : Nat) (W : v_V), tm - i < m → (i ≤ tm) → (FrT V W) → (ThM W tm ts) → (PkM W a h κ n) → (W 170 21 = 1) → (hwP a h κ n ts M i = 1) → (∀ q : Nat, q < i → ∀ p : Nat, p < 84 → zm (W 178) (84 * q) p = (if hwP a h κ n ts M q = 1 then (eW a h κ n (ts q) (M q)).2 else M q) p) → (∀ q : Nat, i ≤ q → q < tm → ∀ p : Nat, p < 84 → zm (W 178) (84 * q) p = M q p) → (∀ W : v_V, (∀ q : Nat, q < tm → ∀ p : Nat, p < 84 → zm (W 178) (84 * q) p = (if hwP a h κ n ts M q = 1 then (eW a h κ n (ts q) (M q)).2 else M q) p) → FrT V W → PkM W a h κ n → W 170 21 = 1 → K u w (some (iv (hwP a h κ n ts M tm))) S W) → y_E X 7 155 (60 * m + F) u w 44 [(0, .ref 170), (3, iv (i : Int))] [] S W K := by
  intro m
  induction m with
  | zero => intros; omega
  | succ m ih =>
    intro i W hm hI hF hTh hPk h21 hwi hD hM2 hx2
    refine y_mono (F' := (60 * m + F) + 60) ?_ (by omega)
    refine y_ld (x := iv (i : Int)) rfl rfl (fun d => rfl) ?_
    refine y_ld (x := .ref 170) rfl rfl (fun d => rfl) ?_
    refine y_gI (i := 27) (e := (tm : Int)) rfl rfl rfl (md170 hM) rfl hTh.1 ?_
    refine y_jge rfl rfl rfl (by omega) (fun g1 => ?_) (fun g1 => ?_)
    · refine y_ic rfl rfl ?_
      refine y_rI rfl (Or.inl rfl) ?_
      obtain rfl : i = tm := by have := hTh.1; omega
      rw [hwi] at hx2
      exact hx2 W (fun q hq p hp => hD q hq p hp) hF hPk h21
    · have hi4 : i < tm := by have := hTh.1; omega
      obtain ⟨x, x1, x2, x3⟩ := hTh.2 i hi4
      have hl := hTO i hi4
      have hri := (eW_rg (t := a) (h := h) (k := κ) (n := n) (ts i) (M i) (hMr i hi4)).2
      refine y_ld (x := .ref 170) rfl rfl (fun d => rfl) ?_
      refine y_bi rfl rfl (by decide) ?_
      refine y_ld (x := iv (i : Int)) rfl rfl (fun d => rfl) ?_
      refine y_mul (z := ((84 * i : Nat) : Int)) rfl rfl (by omega) ?_
      refine y_pI (i := 22) rfl rfl rfl (md170 hM) rfl rfl ?_
      refine y_ld (x := .ref 170) rfl rfl (fun d => rfl) ?_
      refine y_ld (x := .ref 170) rfl rfl (fun d => rfl) ?_
      refine y_gR (i := 26) rfl rfl rfl (md170 hM) rfl ?_
      refine y_ld (x := iv (i : Int)) rfl rfl (fun d => rfl) ?_
      refine y_ild (x := (x : Int)) (q := i) rfl rfl (md182 hM) (by omega) (by decide) (by omega) (by rw [v_up_ne (by decide)]; exact x2) ?_
      have hmi : ∀ p : Nat, p < 84 → zm (W 178) (84 * i) p = M i p := fun p hp => hM2 i (by omega) hi4 p hp
      have ec := eW_congr hpk (ts i) _ _ hmi hl.1
      have e178 : (v_up W 170 22 ((84 * i : Nat) : Int)) 178 = W 178 := v_up_ne (by decide)
      have hmu : muO (zm ((v_up W 170 22 ((84 * i : Nat) : Int)) 178) (84 * i)) := by rw [e178]; exact fun p hp => by rw [hmi p hp]; exact hMr i hi4 p hp
      refine y_cV (as := [.ref 170, iv (x : Int)]) rfl rfl rfl rfl rfl (md170 hM) ⟨rfl, (Nat.le_of_ble_eq_true rfl), (Nat.le_of_ble_eq_true rfl)⟩ (by decide) (ct_works (A := 178) (B := 84 * i) (i := x) (l := ts i) hM ⟨v_up_eq _ _ _ _, Or.inr ⟨(v_up_ni (by decide)).trans h21, rfl, by omega⟩⟩ (PkM_r hPk (fun q _ _ => v_up_ni (by omega))) hpk (Or.inr rfl) hmu x1 (MT_r x3 (fun k q _ _ => v_up_ne q)) hl.2.2.2.1 hl.2.2.1 hl.1 hl.2.1 (fun τ => ?_))
      rw [e178]
      refine y_nv ?_
      refine y_iv ec.1 ?_
      refine y_nv ?_
      have hF2i : ∀ q, q ≠ 22 → q ≠ 23 → (v_ur (v_up (v_ur (v_up W 170 22 ((84 * i : Nat) : Int)) 179 τ) 170 23 (eL (zm (W 178) (84 * i)) a h κ n 0 (ts i))) 178 (zi (W 178) (84 * i) (eW a h κ n (ts i) (zm (W 178) (84 * i))).2)) 170 q = W 170 q := fun q h1 h2 => by rw [v_ur_ne (by decide), v_up_ni h2, v_ur_ne (by decide), v_up_ni h1]
      have hF2 : FrT W (v_ur (v_up (v_ur (v_up W 170 22 ((84 * i : Nat) : Int)) 179 τ) 170 23 (eL (zm (W 178) (84 * i)) a h κ n 0 (ts i))) 178 (zi (W 178) (84 * i) (eW a h κ n (ts i) (zm (W 178) (84 * i))).2)) := ⟨fun k q1 q2 q3 => by rw [v_ur_ne q2, v_up_ne q1, v_ur_ne q3, v_up_ne q1], fun q hq => hF2i q (by omega) (by omega)⟩
      have hz : ∀ q : Nat, q ≠ i → ∀ p : Nat, p < 84 → zm ((v_ur (v_up (v_ur (v_up W 170 22 ((84 * i : Nat) : Int)) 179 τ) 170 23 (eL (zm (W 178) (84 * i)) a h κ n 0 (ts i))) 178 (zi (W 178) (84 * i) (eW a h κ n (ts i) (zm (W 178) (84 * i))).2)) 178) (84 * q) p = zm (W 178) (84 * q) p := fun q hq p hp => by
        rw [v_ur_eq]
        exact zi_out (by omega)
      have hzi : ∀ p : Nat, p < 84 → zm ((v_ur (v_up (v_ur (v_up W 170 22 ((84 * i : Nat) : Int)) 179 τ) 170 23 (eL (zm (W 178) (84 * i)) a h κ n 0 (ts i))) 178 (zi (W 178) (84 * i) (eW a h κ n (ts i) (zm (W 178) (84 * i))).2)) 178) (84 * i) p = (eW a h κ n (ts i) (M i)).2 p := fun p hp => by rw [v_ur_eq, zm_zi hp]; exact ec.2 p hp
      refine y_st (lv' := [(4, iv ((eW a h κ n (ts i) (M i)).1)), (0, .ref 170), (3, iv (i : Int))]) rfl rfl (fun d => rfl) ?_
      refine y_ld (x := iv ((eW a h κ n (ts i) (M i)).1)) rfl rfl (fun d => rfl) ?_
      refine y_ic rfl rfl ?_
      refine y_jeq rfl rfl rfl (by omega) (fun g2 => ?_) (fun g2 => ?_)
      · refine y_inc (z := ((i + 1 : Nat) : Int)) (lv' := [(3, iv ((i + 1 : Nat) : Int)), (4, iv ((eW a h κ n (ts i) (M i)).1)), (0, .ref 170)]) rfl rfl rfl (by omega) rfl ?_
        refine y_go rfl rfl ?_
        refine y_lv (l' := [(0, .ref 170), (3, iv ((i + 1 : Nat) : Int))]) rfl ⟨rfl, rfl, trivial⟩ ?_
        have e1 : hwP a h κ n ts M (i + 1) = (eW a h κ n (ts i) (M i)).1 := if_pos hwi
        refine y_mono (ih (i + 1) (v_ur (v_up (v_ur (v_up W 170 22 ((84 * i : Nat) : Int)) 179 τ) 170 23 (eL (zm (W 178) (84 * i)) a h κ n 0 (ts i))) 178 (zi (W 178) (84 * i) (eW a h κ n (ts i) (zm (W 178) (84 * i))).2)) (by omega) (by omega) (FrT_tr hF hF2) (ThM_r hTh (hF2i 27 (by decide) (by decide)) (fun k h1 h2 => hF2.1 k (by omega) (by omega) (by omega))) (PkM_r hPk (fun q _ _ => hF2i q (by omega) (by omega))) ((hF2i 21 (by decide) (by decide)).trans h21) (e1.trans (by omega)) (fun q hq p hp => ?_) (fun q hq1 hq p hp => by rw [hz q (by omega) p hp]; exact hM2 q (by omega) hq p hp) hx2) (by omega)
        rcases (show q < i ∨ q = i by omega) with h7 | h7
        · rw [hz q (by omega) p hp]; exact hD q h7 p hp
        · rw [h7, if_pos hwi]; exact hzi p hp
      · refine y_ld (x := iv ((eW a h κ n (ts i) (M i)).1)) rfl rfl (fun d => rfl) ?_
        refine y_rI rfl (Or.inl rfl) ?_
        have e1 : hwP a h κ n ts M (i + 1) = (eW a h κ n (ts i) (M i)).1 := if_pos hwi
        have e2 : ∀ d, hwP a h κ n ts M (i + 1 + d) = (eW a h κ n (ts i) (M i)).1 := by
          intro d
          induction d with
          | zero => exact e1
          | succ d ihd =>
            show (if hwP a h κ n ts M (i + 1 + d) = 1 then _ else hwP a h κ n ts M (i + 1 + d)) = _
            rw [if_neg (by rw [ihd]; omega)]
            exact ihd
        have e3 := e2 (tm - (i + 1))
        rw [show i + 1 + (tm - (i + 1)) = tm by omega] at e3
        rw [e3] at hx2
        refine hx2 _ (fun q hq p hp => ?_) (FrT_tr hF hF2) (PkM_r hPk (fun q _ _ => hF2i q (by omega) (by omega))) ((hF2i 21 (by decide) (by decide)).trans h21)
        rcases (show q < i ∨ q = i ∨ i < q by omega) with h7 | h7 | h7
        · rw [hz q (by omega) p hp]; exact hD q h7 p hp
        · rw [h7, if_pos hwi]; exact hzi p hp
        · rw [hz q (by omega) p hp, if_neg (by have := e2 (q - (i + 1)); rw [show i + 1 + (q - (i + 1)) = q by omega] at this; omega)]; exact hM2 q (by omega) hq p hp
set_option maxRecDepth 100000 in
set_option maxHeartbeats 4000000 in
theorem ct_tries (hM : MdS S) {tm : Nat} (htl : tm ≤ 4) {ts : Nat → List p_Li} (hTO : ∀ i, i < tm → TO (ts i)) {M : Nat → Nat → Int} (hMr : ∀ i, i < tm → muO (M i)) {c : Nat} (hc : c < 5) (hpk : pkO (V 171 (1770 + 4 * c)) (V 171 (1770 + 4 * c + 1)) (V 171 (1770 + 4 * c + 2)) (V 171 (1770 + 4 * c + 3))) (hTh : ThM V tm ts) (h21 : V 170 21 = 1) (hM2 : ∀ q : Nat, q < tm → ∀ p : Nat, p < 84 → zm (V 178) (84 * q) p = M q p) (k : ∀ W : v_V, (∀ q : Nat, q < tm → ∀ p : Nat, p < 84 → zm (W 178) (84 * q) p = (if hwP (V 171 (1770 + 4 * c)) (V 171 (1770 + 4 * c + 1)) (V 171 (1770 + 4 * c + 2)) (V 171 (1770 + 4 * c + 3)) ts M q = 1 then (eW (V 171 (1770 + 4 * c)) (V 171 (1770 + 4 * c + 1)) (V 171 (1770 + 4 * c + 2)) (V 171 (1770 + 4 * c + 3)) (ts q) (M q)).2 else M q) p) → FrT V W → PkM W (V 171 (1770 + 4 * c)) (V 171 (1770 + 4 * c + 1)) (V 171 (1770 + 4 * c + 2)) (V 171 (1770 + 4 * c + 3)) → W 170 21 = 1 → K u w (some (iv (hwP (V 171 (1770 + 4 * c)) (V 171 (1770 + 4 * c + 1)) (V 171 (1770 + 4 * c + 2)) (V 171 (1770 + 4 * c + 3)) ts M tm))) S W) : y_R X 8 155 u w [.ref 170, iv (c : Int)] S V K := by
  refine y_ent (lv' := [(0, .ref 170), (1, iv (c : Int))]) (Nat.le_of_ble_eq_true rfl) rfl ?_
  refine y_si rfl rfl (by decide) ?_
  refine y_ic rfl rfl ?_
  refine y_ld (x := iv (c : Int)) rfl rfl (fun d => rfl) ?_
  refine y_mul (z := (4 * (c : Int))) rfl rfl rfl ?_
  refine y_add (z := (1770 + (4 * (c : Int)))) rfl rfl rfl ?_
  refine y_st (lv' := [(2, iv (1770 + (4 * (c : Int)))), (0, .ref 170), (1, iv (c : Int))]) rfl rfl (fun d => rfl) ?_
  refine y_ld (x := .ref 170) rfl rfl (fun d => rfl) ?_
  refine y_ld (x := .ref 170) rfl rfl (fun d => rfl) ?_
  refine y_gR (i := 1) rfl rfl rfl (md170 hM) rfl ?_
  refine y_ld (x := iv (1770 + (4 * (c : Int)))) rfl rfl (fun d => rfl) ?_
  refine y_ild (x := (V 171 (1770 + 4 * c))) (q := (1770 + 4 * c)) rfl rfl (md171 hM) (by omega) (by decide) (by omega) rfl ?_
  refine y_ld (x := .ref 170) rfl rfl (fun d => rfl) ?_
  refine y_gR (i := 1) rfl rfl rfl (md170 hM) rfl ?_
  refine y_ld (x := iv (1770 + (4 * (c : Int)))) rfl rfl (fun d => rfl) ?_
  refine y_ic rfl rfl ?_
  refine y_add (z := ((1770 + (4 * (c : Int))) + 1)) rfl rfl rfl ?_
  refine y_ild (x := (V 171 (1770 + 4 * c + 1))) (q := (1770 + 4 * c + 1)) rfl rfl (md171 hM) (by omega) (by decide) (by omega) rfl ?_
  refine y_ld (x := .ref 170) rfl rfl (fun d => rfl) ?_
  refine y_gR (i := 1) rfl rfl rfl (md170 hM) rfl ?_
  refine y_ld (x := iv (1770 + (4 * (c : Int)))) rfl rfl (fun d => rfl) ?_
  refine y_ic rfl rfl ?_
  refine y_add (z := ((1770 + (4 * (c : Int))) + 2)) rfl rfl rfl ?_
  refine y_ild (x := (V 171 (1770 + 4 * c + 2))) (q := (1770 + 4 * c + 2)) rfl rfl (md171 hM) (by omega) (by decide) (by omega) rfl ?_
  refine y_ld (x := .ref 170) rfl rfl (fun d => rfl) ?_
  refine y_gR (i := 1) rfl rfl rfl (md170 hM) rfl ?_
  refine y_ld (x := iv (1770 + (4 * (c : Int)))) rfl rfl (fun d => rfl) ?_
  refine y_ic rfl rfl ?_
  refine y_add (z := ((1770 + (4 * (c : Int))) + 3)) rfl rfl rfl ?_
  refine y_ild (x := (V 171 (1770 + 4 * c + 3))) (q := (1770 + 4 * c + 3)) rfl rfl (md171 hM) (by omega) (by decide) (by omega) rfl ?_
  refine y_cV (as := [.ref 170, iv (V 171 (1770 + 4 * c)), iv (V 171 (1770 + 4 * c + 1)), iv (V 171 (1770 + 4 * c + 2)), iv (V 171 (1770 + 4 * c + 3))]) rfl rfl rfl rfl rfl (md170 hM) ⟨rfl, (Nat.le_of_ble_eq_true rfl), (Nat.le_of_ble_eq_true rfl)⟩ (by decide) (ct_packet hM ?_)
  refine y_n0 ?_
  refine y_ic rfl rfl ?_
  refine y_st (lv' := [(3, iv 0), (2, iv (1770 + (4 * (c : Int)))), (0, .ref 170), (1, iv (c : Int))]) rfl rfl (fun d => rfl) ?_
  have hfp := pkU_fr V (V 171 (1770 + 4 * c)) (V 171 (1770 + 4 * c + 1)) (V 171 (1770 + 4 * c + 2)) (V 171 (1770 + 4 * c + 3))
  have hft : FrT V (pkU V (V 171 (1770 + 4 * c)) (V 171 (1770 + 4 * c + 1)) (V 171 (1770 + 4 * c + 2)) (V 171 (1770 + 4 * c + 3))) := ⟨fun k q1 q2 q3 => pkU_171 V _ _ _ _ k q1, hfp.2⟩
  refine y_lv (l' := [(0, .ref 170), (3, iv ((0 : Nat) : Int))]) rfl ⟨rfl, rfl, trivial⟩ ?_
  have e178 : pkU V (V 171 (1770 + 4 * c)) (V 171 (1770 + 4 * c + 1)) (V 171 (1770 + 4 * c + 2)) (V 171 (1770 + 4 * c + 3)) 178 = V 178 := pkU_171 V _ _ _ _ 178 (by decide)
  exact y_mono (lp_tries (V := V) (F := 100) hM htl hTO hMr hpk 5 0 (pkU V (V 171 (1770 + 4 * c)) (V 171 (1770 + 4 * c + 1)) (V 171 (1770 + 4 * c + 2)) (V 171 (1770 + 4 * c + 3))) (by omega) (by omega) hft (ThM_r hTh (hft.2 27 (by decide)) (fun k h1 h2 => hft.1 k (by omega) (by omega) (by omega))) (pkU_pk V _ _ _ _) ((by unfold pkU; rw [v_up_ni (by decide), v_up_ni (by decide), v_up_ni (by decide), v_up_ni (by decide)]; exact h21)) rfl (fun q hq => absurd hq (by omega)) (fun q _ hq p hp => by rw [e178]; exact hM2 q hq p hp) k) (by decide)
end
end
