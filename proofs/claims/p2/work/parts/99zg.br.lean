/-! the shortest row, the least of them -/
def brP (H : Nat → Nat → Prop) (a l v : Nat) : Prop := 1 ≤ l ∧ v < a ^ l ∧ H l v ∧ (∀ l', 1 ≤ l' → l' < l → ∀ v', v' < a ^ l' → ¬ H l' v') ∧ ∀ v', v' < v → ¬ H l v'
def nbP (H : Nat → Nat → Prop) (a d : Nat) : Prop := ∀ l, 1 ≤ l → l ≤ d → ∀ v, v < a ^ l → ¬ H l v
theorem brP_eq {H : Nat → Nat → Prop} {a l v l' v' : Nat} (h : brP H a l v) (h' : brP H a l' v') : l = l' ∧ v = v' := by
  obtain ⟨a1, a2, a3, a4, a5⟩ := h
  obtain ⟨b1, b2, b3, b4, b5⟩ := h'
  have e : l = l' := by
    rcases Nat.lt_trichotomy l l' with q | q | q
    · exact absurd a3 (b4 l a1 q v a2)
    · exact q
    · exact absurd b3 (a4 l' b1 q v' b2)
  subst e
  refine ⟨rfl, ?_⟩
  rcases Nat.lt_trichotomy v v' with q | q | q
  · exact absurd a3 (b5 v q)
  · exact q
  · exact absurd b3 (a5 v' q)
theorem wdS_s {form : Int} {σ : Nat → Int} {ts : Nat → List p_Li} {m a j pv q : Nat} (hq : q < a) : wdS form σ ts m a (j + 1) (pv * a + q) = (stM form (σ (1770 + 4 * q)) (σ (1770 + 4 * q + 1)) (σ (1770 + 4 * q + 2)) (σ (1770 + 4 * q + 3)) ts (wdS form σ ts m a j pv).1, stA form (σ (1770 + 4 * q)) (σ (1770 + 4 * q + 1)) (σ (1770 + 4 * q + 2)) (σ (1770 + 4 * q + 3)) ts m (wdS form σ ts m a j pv).1 (wdS form σ ts m a j pv).2) := by
  have e := wd_div (pv := pv) hq
  rw [wdS, e.1, e.2]
theorem hitV_s {form N : Int} {σ : Nat → Int} {ts : Nat → List p_Li} {m a j pv q : Nat} (hq : q < a) : hitV form N σ ts m a (j + 1) (pv * a + q) = hitP form N (σ (1770 + 4 * q)) (σ (1770 + 4 * q + 1)) (σ (1770 + 4 * q + 2)) (σ (1770 + 4 * q + 3)) ts m (wdS form σ ts m a j pv).1 (wdS form σ ts m a j pv).2 := by
  have e := wd_div (pv := pv) hq
  rw [hitV, e.1, e.2]
theorem wd_lo (pv a r : Nat) : pv * a ^ (r + 1) = pv * a * a ^ r := by rw [Nat.pow_succ, Nat.mul_comm (a ^ r) a, ← Nat.mul_assoc]
theorem wd_hi (pv a r : Nat) : (pv + 1) * a ^ (r + 1) = (pv * a + a) * a ^ r := by rw [wd_lo, Nat.succ_mul]
theorem wd_m1 (pv a r q : Nat) : pv * a * a ^ r ≤ (pv * a + q) * a ^ r := Nat.mul_le_mul_right _ (by omega)
theorem wd_m2 (pv a r q : Nat) : (pv * a + (q + 1)) * a ^ r = (pv * a + q) * a ^ r + a ^ r := by rw [← Nat.add_assoc, Nat.succ_mul]
theorem wd_m3 (pv r : Nat) {a q : Nat} (h : q < a) : (pv * a + (q + 1)) * a ^ r ≤ (pv * a + a) * a ^ r := Nat.mul_le_mul_right _ (by omega)
/-- what finds does, r packets from the end of a row of l -/
def qF (X : Nat → List Int32) (S : m_H) (form N : Int) (a m : Nat) (ts : Nat → List p_Li) (σ : Nat → Int) (l r j : Nat) : Prop :=
  ∀ (pv : Nat) (V : v_V) (K : v_K) (u w : Nat), SrC S V form N a m ts σ → SgC V j form m (wdS form σ ts m a j pv).1 (wdS form σ ts m a j pv).2 →
    (∀ v V2, pv * a ^ r ≤ v → v < (pv + 1) * a ^ r → hitV form N σ ts m a l v → (∀ v', pv * a ^ r ≤ v' → v' < v → ¬ hitV form N σ ts m a l v') → (∀ k, j ≤ k → k < l → V2 121 k = ((v / a ^ (l - 1 - k) % a : Nat) : Int)) → (∀ k, k < j → V2 121 k = V 121 k) → FrS j V V2 → K u w (some (iv 1)) S V2) →
    ((∀ v, pv * a ^ r ≤ v → v < (pv + 1) * a ^ r → ¬ hitV form N σ ts m a l v) → ∀ V2, (∀ k, k < j → V2 121 k = V 121 k) → FrS j V V2 → K u w (some (iv 0)) S V2) → y_R X (10 + r) 35 u w [.ref 116, iv (j : Int), iv (l : Int)] S V K
