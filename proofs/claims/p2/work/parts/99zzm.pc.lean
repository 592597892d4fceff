/-! what is read depends on the tape below its end alone -/
theorem hr_g9 {τ τ' : Nat → Int} {z : Nat} (e : ∀ i, i < z → τ i = τ' i) : hr τ z = hr τ' z := by
  funext p
  unfold hr
  split
  · exact e p (by assumption)
  · rfl
theorem pT_g9 {τ τ' : Nat → Int} {z : Nat} (e : hr τ z = hr τ' z) : pT τ z = pT τ' z := by
  funext p
  unfold pT
  rw [e]
theorem pS_g9 {τ τ' : Nat → Int} {z : Nat} (e : hr τ z = hr τ' z) : pS τ z = pS τ' z := by
  funext p
  unfold pS
  rw [e, pT_g9 e]
theorem pX_g9 {τ τ' : Nat → Int} {z : Nat} (e : hr τ z = hr τ' z) : ∀ n, pX τ z n = pX τ' z n
  | 0 => by
    funext md o p acc
    unfold pX
    rfl
  | n + 1 => by
    have ih := pX_g9 e n
    funext md o p acc
    match md with
    | 0 => rw [pX_F (τ := τ), pX_F (τ := τ'), e, pS_g9 e, ih]
    | 1 => rw [pX_T (τ := τ), pX_T (τ := τ'), ih]
    | 2 => rw [pX_Tl (τ := τ), pX_Tl (τ := τ'), e, ih]
    | 3 => rw [pX_E (τ := τ), pX_E (τ := τ'), ih]
    | m + 4 =>
      show (if hr τ z p = 124 then match pX τ z n 1 o (p + 1) acc with
        | (some l, q) => pX τ z n 4 o q (l ++ [(125, 0, 0)])
        | (none, q) => (none, q)
        else (some acc, p)) = (if hr τ' z p = 124 then match pX τ' z n 1 o (p + 1) acc with
        | (some l, q) => pX τ' z n 4 o q (l ++ [(125, 0, 0)])
        | (none, q) => (none, q)
        else (some acc, p))
      rw [e, ih]
theorem pM_g9 {τ τ' : Nat → Int} {z : Nat} (e : hr τ z = hr τ' z) : ∀ n, pM τ z n = pM τ' z n
  | 0 => by
    funext s p acc
    unfold pM
    rfl
  | n + 1 => by
    have ih := pM_g9 e n
    funext s p acc
    unfold pM
    rw [e, pT_g9 e, ih]
theorem pA_g9 {τ τ' : Nat → Int} {z : Nat} (e : hr τ z = hr τ' z) : pA τ z = pA τ' z := by
  funext p
  unfold pA
  rw [e, pT_g9 e, pM_g9 e]
theorem pAs_g9 {τ τ' : Nat → Int} {z : Nat} (e : hr τ z = hr τ' z) : ∀ n, pAs τ z n = pAs τ' z n
  | 0 => by
    funext p acc
    unfold pAs
    rfl
  | n + 1 => by
    have ih := pAs_g9 e n
    funext p acc
    unfold pAs
    rw [e, pA_g9 e, ih]
theorem pE_g9 {τ τ' : Nat → Int} {z : Nat} (e : hr τ z = hr τ' z) : pE τ z = pE τ' z := by
  funext p
  unfold pE
  rw [e, pX_g9 e]
theorem pL_g9 {τ τ' : Nat → Int} {z : Nat} (e : hr τ z = hr τ' z) : pL τ z = pL τ' z := by
  funext p
  unfold pL
  rw [e, pE_g9 e, pAs_g9 e]
theorem pLs_g9 {τ τ' : Nat → Int} {z : Nat} (e : hr τ z = hr τ' z) : ∀ n, pLs τ z n = pLs τ' z n
  | 0 => by
    funext p acc
    unfold pLs
    rfl
  | n + 1 => by
    have ih := pLs_g9 e n
    funext p acc
    unfold pLs
    rw [e, pL_g9 e, ih]
theorem pTx_g9 {τ τ' : Nat → Int} {z : Nat} (h : ∀ i, i < z → τ i = τ' i) : pTx τ z = pTx τ' z := by
  unfold pTx
  rw [pLs_g9 (hr_g9 h)]
