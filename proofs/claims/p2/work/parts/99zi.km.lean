/-! PROMISES as the reference sees them -/
def keptM (A : Aw) (t form N : Int) : Prop := (form = 2 → aPa A t.toNat ≤ N) ∧ (form = 1 → aOp A t.toNat = true → cnA (aOp A) (aHo A) (aHo A t.toNat) 16 ≤ N) ∧ (form = 3 → aOp A t.toNat = true → cnA (aOp A) (aNu A) (aNu A t.toNat) 16 ≤ 1)
def vioM (A : Aw) (t k how form N : Int) : Prop := (how = 1 ∧ ((form = 0 ∧ k = 1 ∧ aBg A t.toNat = false) ∨ (form = 4 ∧ aBr A t.toNat = true))) ∨ ¬ keptM A t form N
def RWm (V : v_V) (A : Aw) : Prop := ∀ t : Nat, t < 16 → V 183 t = b01 (aBg A t) ∧ V 184 t = b01 (aOp A t) ∧ V 185 t = b01 (aBr A t) ∧ V 188 t = aPa A t ∧ (aOp A t = true → V 186 t = aHo A t ∧ V 187 t = aNu A t)
theorem RWm_r {V V' : v_V} {A : Aw} (h : RWm V A) (e : ∀ k, 183 ≤ k → k ≤ 188 → V' k = V k) : RWm V' A := by
  unfold RWm
  rw [e 183 (by decide) (by decide), e 184 (by decide) (by decide), e 185 (by decide) (by decide), e 186 (by decide) (by decide), e 187 (by decide) (by decide), e 188 (by decide) (by decide)]
  exact h
def howV (form : Int) (σ : Nat → Int) (ts : Nat → List p_Li) (m a j v : Nat) : Int := hwP (σ (1770 + 4 * (v % a))) (σ (1770 + 4 * (v % a) + 1)) (σ (1770 + 4 * (v % a) + 2)) (σ (1770 + 4 * (v % a) + 3)) ts (wdS form σ ts m a j (v / a)).1 m
def vioV (form N : Int) (σ : Nat → Int) (ts : Nat → List p_Li) (m a : Nat) : Nat → Nat → Prop
  | 0, _ => False
  | j + 1, v => vioM (wdS form σ ts m a (j + 1) v).2 (σ (1770 + 4 * (v % a))) (σ (1770 + 4 * (v % a) + 2)) (howV form σ ts m a j v) form N
/-- a row of l that breaks it somewhere -/
def brkV (form N : Int) (σ : Nat → Int) (ts : Nat → List p_Li) (m a l v : Nat) : Prop := ∃ j, j < l ∧ vioV form N σ ts m a (j + 1) (v / a ^ (l - 1 - j))
theorem wd_dd {v a l j : Nat} (h : j + 1 < l) : v / a ^ (l - 1 - (j + 1)) / a = v / a ^ (l - 1 - j) := by
  rw [Nat.div_div_eq_div_mul, ← Nat.pow_succ, show (l - 1 - (j + 1)).succ = l - 1 - j by omega]
/-- the reference's word is the row v of l -/
def WdM (V : v_V) (a l v : Nat) : Prop := ∀ k : Nat, k < l → V 180 k = ((v / a ^ (l - 1 - k) % a : Nat) : Int)
/-- what trying leaves as it was -/
def FrT (V V2 : v_V) : Prop := (∀ k, k ≠ 170 → k ≠ 178 → k ≠ 179 → V2 k = V k) ∧ ∀ i, i < 17 ∨ 23 < i → V2 170 i = V 170 i
theorem FrT_rf (V : v_V) : FrT V V := ⟨fun _ _ _ _ => rfl, fun _ _ => rfl⟩
theorem FrT_tr {V V' V'' : v_V} (h : FrT V V') (h2 : FrT V' V'') : FrT V V'' := ⟨fun k a b c => (h2.1 k a b c).trans (h.1 k a b c), fun i a => (h2.2 i a).trans (h.2 i a)⟩
/-- the TEXTS that the reference goes through -/
def ThM (V : v_V) (m : Nat) (ts : Nat → List p_Li) : Prop := V 170 27 = (m : Int) ∧ ∀ i : Nat, i < m → ∃ x : Nat, x < 8 ∧ V 182 i = (x : Int) ∧ MT V x (ts i)
theorem ThM_r {V V' : v_V} {m : Nat} {ts : Nat → List p_Li} (h : ThM V m ts) (e0 : V' 170 27 = V 170 27) (e : ∀ k, 173 ≤ k → k ≤ 177 ∨ k = 182 → V' k = V k) : ThM V' m ts := by
  refine ⟨by rw [e0]; exact h.1, fun i hi => ?_⟩
  obtain ⟨x, x1, x2, x3⟩ := h.2 i hi
  refine ⟨x, x1, by rw [e 182 (by decide) (by decide)]; exact x2, ?_⟩
  obtain ⟨a1, a2, a3, a4, a5⟩ := x3
  refine ⟨by rw [e 174 (by decide) (by decide)]; exact a1, ?_, by rw [e 175 (by decide) (by decide)]; exact a3, ?_, ?_⟩
  · rw [e 173 (by decide) (by decide)]; exact a2
  · unfold AM
    rw [e 176 (by decide) (by decide)]; exact a4
  · rw [e 177 (by decide) (by decide)]; exact a5
