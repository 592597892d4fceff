/-! lead: what the row of numbers is behind it -/
theorem z_ldR_all {a : Nat} {y m : Int} {f : Nat → Int} (ha : a < 8) (hy : 0 ≤ y ∧ y < 8) (hL : ∀ j : Nat, j < 16 → 0 ≤ f (1552 + 16 * a + j) ∧ f (1552 + 16 * a + j) < 8) : ∀ t : Nat, t ≤ 16 → (∀ j, (j < 200 ∨ 872 ≤ j) → (j < 1552 + 16 * a ∨ 1552 + 16 * a + 16 ≤ j) → z_ldR a y m t f j = f j) ∧ ((∀ j, 200 ≤ j → j < 872 → -2147483648 ≤ f j ∧ f j < 2147483648) → ∀ j, 200 ≤ j → j < 872 → -2147483648 ≤ z_ldR a y m t f j ∧ z_ldR a y m t f j < 2147483648)
  | 0, _ => ⟨fun _ _ _ => rfl, fun h => h⟩
  | t + 1, ht => by
    have ih := z_ldR_all (m := m) ha hy hL t (by omega)
    have hled := (z_ldR_led (m := m) ha hy hL t (by omega)).2 t (by omega)
    by_cases h : m / 2 ^ t % 2 = 1
    · by_cases hc : z_ldR a y m t f (1552 + 16 * a + t) = y
      · rw [z_ldR_0 (fun q => q.2 hc)]
        exact ih
      · have h0 := hL t (by omega)
        have hv : z_ldR a y m t f (1552 + 16 * a + t) = f (1552 + 16 * a + t) := by
          rw [hled]
          exact if_neg (by omega)
        obtain ⟨c, hcc⟩ : ∃ c : Nat, z_ldR a y m t f (1552 + 16 * a + t) = (c : Int) := ⟨(f (1552 + 16 * a + t)).toNat, by omega⟩
        obtain ⟨d, rfl⟩ : ∃ d : Nat, y = (d : Int) := ⟨y.toNat, by omega⟩
        have hcd : (c : Int) ≠ (d : Int) := by omega
        rw [z_ldR_1 h hcc hcd, show ((d : Int)).toNat = d from rfl]
        have hpq : 200 + 84 * c + 4 * t + 4 ≤ 200 + 84 * d + 4 * t ∨ 200 + 84 * d + 4 * t + 4 ≤ 200 + 84 * c + 4 * t := by omega
        refine ⟨fun j h1 h2 => ?_, fun hr j h1 h2 => ?_⟩
        · rw [v_uf_ne (by omega), z_mv_at hpq, if_neg (by omega), if_neg (by omega)]
          exact ih.1 j h1 h2
        · rw [v_uf_ne (by omega), z_mv_at hpq]
          split
          · decide
          · split
            · exact ih.2 hr _ (by omega) (by omega)
            · exact ih.2 hr j h1 h2
    · rw [z_ldR_0 (fun q => h q.1)]
      exact ih
