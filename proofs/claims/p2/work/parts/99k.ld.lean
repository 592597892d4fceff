/-! lead: both sides in lockstep -/
theorem z_mv_at {g : Nat → Int} {p q k : Nat} (hpq : p + 4 ≤ q ∨ q + 4 ≤ p) : z_mv g p q k = if p ≤ k ∧ k < p + 4 then 0 else if q ≤ k ∧ k < q + 4 then g (k - q + p) else g k := by
  by_cases h1 : p ≤ k ∧ k < p + 4
  · rw [if_pos h1]
    unfold z_mv
    rcases (show k = p + 0 ∨ k = p + 1 ∨ k = p + 2 ∨ k = p + 3 by omega) with rfl | rfl | rfl | rfl
    · rw [v_uf_ne (by omega), v_uf_ne (by omega), v_uf_ne (by omega), v_uf_ne (by omega), v_uf_ne (by omega), v_uf_ne (by omega)]
      exact v_uf_eq _ _ _
    · rw [v_uf_ne (by omega), v_uf_ne (by omega), v_uf_ne (by omega), v_uf_ne (by omega), v_uf_eq]
    · rw [v_uf_ne (by omega), v_uf_ne (by omega), v_uf_eq]
    · rw [v_uf_eq]
  · rw [if_neg h1]
    by_cases h2 : q ≤ k ∧ k < q + 4
    · rw [if_pos h2]
      unfold z_mv
      rcases (show k = q + 0 ∨ k = q + 1 ∨ k = q + 2 ∨ k = q + 3 by omega) with rfl | rfl | rfl | rfl
      · rw [v_uf_ne (by omega), v_uf_ne (by omega), v_uf_ne (by omega), v_uf_ne (by omega), v_uf_ne (by omega), v_uf_ne (by omega), v_uf_ne (by omega)]
        exact (v_uf_eq _ _ _).trans (congrArg g (by omega))
      · rw [v_uf_ne (by omega), v_uf_ne (by omega), v_uf_ne (by omega), v_uf_ne (by omega), v_uf_ne (by omega), v_uf_eq, show q + 1 - q + p = p + 1 by omega]
      · rw [v_uf_ne (by omega), v_uf_ne (by omega), v_uf_ne (by omega), v_uf_eq, show q + 2 - q + p = p + 2 by omega]
      · rw [v_uf_ne (by omega), v_uf_eq, show q + 3 - q + p = p + 3 by omega]
    · rw [if_neg h2, z_mv_ne (by omega) (by omega)]
/-- led and memory of the boxes, the same on both sides -/
def LdR (n : Nat) (V : v_V) (f : Nat → Int) : Prop := (∀ b : Nat, b < n → ∀ t : Nat, t < 16 → V (10 + 6 * b + 1) t = f (1552 + 16 * b + t)) ∧ (∀ b : Nat, b < n → ∀ p : Nat, p < 84 → V (10 + 6 * b + 3) p = f (200 + 84 * b + p))
theorem ld_lock {n a : Nat} {y m : Int} {V : v_V} {f : Nat → Int} (hn : n ≤ 8) (ha : a < n) (hy : 0 ≤ y ∧ y < n) (hR : LdR n V f) (hL : ∀ t : Nat, t < 16 → 0 ≤ V (10 + 6 * a + 1) t ∧ V (10 + 6 * a + 1) t < n) : ∀ t : Nat, t ≤ 16 → LdR n (z_ldC a y m t V) (z_ldR a y m t f)
  | 0, _ => hR
  | t + 1, ht => by
    have ih := ld_lock (m := m) hn ha hy hR hL t (by omega)
    have hw := z_ldC_led (a := a) (V := V) (y := y) (m := m) t t
    rw [if_neg (by omega)] at hw
    have hl := hL t (by omega)
    have hg := ih.1 a ha t (by omega)
    by_cases h : m / 2 ^ t % 2 = 1
    · obtain ⟨c, hc⟩ : ∃ c : Nat, z_ldC a y m t V (10 + 6 * a + 1) t = (c : Int) := ⟨(z_ldC a y m t V (10 + 6 * a + 1) t).toNat, by omega⟩
      obtain ⟨d, rfl⟩ : ∃ d : Nat, y = (d : Int) := ⟨y.toNat, by omega⟩
      have hcn : c < n := by omega
      have hdn : d < n := by omega
      by_cases hcy : (c : Int) = (d : Int)
      · rw [z_ldC_1 h (hc.trans hcy), z_ldR_0 (fun q => q.2 (by rw [← hg, hc, hcy]))]
        refine ⟨fun b hb j hj => ?_, fun b hb p hp => ?_⟩
        · by_cases hba : b = a
          · subst hba
            by_cases hjt : j = t
            · subst hjt
              rw [v_up_eq, ← hg, hc, hcy]
            · rw [v_up_ni hjt]
              exact ih.1 b hb j hj
          · rw [v_up_ne (by omega)]
            exact ih.1 b hb j hj
        · rw [v_up_ne (by omega)]
          exact ih.2 b hb p hp
      · rw [z_ldC_2 h hc hcy, z_ldR_1 h (hg.symm.trans hc) hcy, show ((d : Int)).toNat = d from rfl]
        refine ⟨fun b hb j hj => ?_, fun b hb p hp => ?_⟩
        · by_cases hba : b = a
          · subst hba
            by_cases hjt : j = t
            · subst hjt
              rw [v_up_eq, v_uf_eq]
            · rw [v_up_ni hjt, v_ur_ne (by omega), v_ur_ne (by omega), v_uf_ne (by omega), z_mv_ne (by omega) (by omega)]
              exact ih.1 b hb j hj
          · rw [v_up_ne (by omega), v_ur_ne (by omega), v_ur_ne (by omega), v_uf_ne (by omega), z_mv_ne (by omega) (by omega)]
            exact ih.1 b hb j hj
        · rw [v_up_ne (by omega), v_uf_ne (by omega), z_mv_at (by omega)]
          by_cases hbc : b = c
          · subst hbc
            rw [v_ur_eq]
            unfold z_fl
            by_cases h4 : 4 * t ≤ p ∧ p < 4 * t + 4
            · rw [if_pos h4, if_pos (by omega)]
            · rw [if_neg h4, if_neg (by omega), if_neg (by omega)]
              exact ih.2 b hb p hp
          · rw [v_ur_ne (by omega)]
            by_cases hbd : b = d
            · subst hbd
              rw [v_ur_eq]
              unfold v_cp
              by_cases h4 : 4 * t ≤ p ∧ p < 4 * t + 4
              · rw [if_pos h4, if_neg (by omega), if_pos (by omega), ih.2 c hcn _ (by omega)]
                congr 1
                omega
              · rw [if_neg h4, if_neg (by omega), if_neg (by omega)]
                exact ih.2 b hb p hp
            · rw [v_ur_ne (by omega), if_neg (by omega), if_neg (by omega)]
              exact ih.2 b hb p hp
    · rw [z_ldC_0 h, z_ldR_0 (fun q => h q.1)]
      exact ih
