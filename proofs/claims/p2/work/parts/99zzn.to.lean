/-! a TEXT that was read keeps the bounds -/
theorem pLs_pc {τ : Nat → Int} {z : Nat} (hz : z ≤ 160) : ∀ (k p : Nat) (acc l : List p_Li) (q : Nat), p ≤ z → pLs τ z k p acc = (some l, q) → (encPc l).length + p ≤ (encPc acc).length + q
  | 0, p, acc, l, q, hp, h => by
    unfold pLs at h
    cases h
    omega
  | k + 1, p, acc, l, q, hp, h => by
    unfold pLs at h
    split at h
    · rename_i x q1 ee
      have k1 := pL_ok hp hz ee
      have k2 := pL_c hp hz ee
      have h0 : hr τ z q1 ≠ -1 → q1 < z := hr_le
      have e3 : (encPc (acc ++ [x])).length = (encPc acc).length + ((encTc x.2.2.1).length + (encAc x.2.2.2).length) := by
        rw [encPc_app, List.length_append, List.length_append]
        omega
      split at h
      · rename_i hc
        have ih := pLs_pc hz k (q1 + 1) _ _ _ (by have := h0 (by omega); omega) h
        omega
      · cases h
        omega
    · cases h
theorem pTx_TO {τ : Nat → Int} {z : Nat} {l : List p_Li} (hz : z ≤ 160) (h : pTx τ z = (some l, z)) (h2 : lsO l ∧ l.length ≤ 8) : TO l := by
  have hd := pTx_dp hz h
  unfold pTx at h
  split at h
  · rename_i l1 q1 e1
    split at h
    · cases h
      have k1 := pLs_ok hz 8 0 [] _ _ (by omega) (fun x hx => by cases hx) e1
      have k2 := k1.2.2 _ rfl
      have k3 := pLs_pc hz 8 0 [] _ _ (by omega) e1
      have e0 : (encP 0 ([] : List p_Li)).length = 0 := rfl
      have e1' : (encPc ([] : List p_Li)).length = 0 := rfl
      exact ⟨h2.1, hd, h2.2, by omega, by omega⟩
    · cases h
  · cases h
