/-! lead: both sides' numbers behind it -/
theorem ld_RN {V : v_V} {σ : Nat → Int} {cnt a : Nat} {y m : Int} (h : RN V 1 σ) (hs : SO cnt σ) (ha : a < 8) (hy : 0 ≤ y ∧ y < 8) : RN (z_ldC a y m 16 V) 1 (z_ldR a y m 16 σ) := by
  have h4 := h.2.2.2
  have hR : LdR 8 V σ := ⟨fun b hb t ht => (h4 b hb).2.2.2.2.2.1 t ht, fun b hb p hp => (h4 b hb).2.2.2.2.2.2.1 p hp⟩
  have hLs : ∀ j : Nat, j < 16 → 0 ≤ σ (1552 + 16 * a + j) ∧ σ (1552 + 16 * a + j) < 8 := fun j hj => by
    have := hs.2.2.2.1 a ha j hj
    omega
  have hLc : ∀ t : Nat, t < 16 → 0 ≤ V (10 + 6 * a + 1) t ∧ V (10 + 6 * a + 1) t < (8 : Nat) := fun t ht => by
    rw [hR.1 a ha t ht]
    exact hLs t ht
  have hK := ld_lock (m := m) (Nat.le_refl 8) ha hy hR hLc 16 (Nat.le_refl 16)
  have hA := (z_ldR_all (m := m) ha hy hLs 16 (Nat.le_refl 16)).1
  have f : ∀ k, k ≠ 10 + 6 * a + 1 → (∀ i : Nat, k ≠ 10 + 6 * i + 3) → z_ldC a y m 16 V k = V k := fun k p q => z_ldC_fr k p q 16
  refine RN_b h ?_ (fun k hk => f k (by omega) (fun i => by omega)) (fun j hj => hA j (by omega) (by omega)) (fun b hb => ?_)
  · unfold N7
    rw [f 1 (by omega) (fun i => by omega), hA 0 (by omega) (by omega), hA 1 (by omega) (by omega), hA 2 (by omega) (by omega), hA 3 (by omega) (by omega), hA 4 (by omega) (by omega), hA 5 (by omega) (by omega), hA 6 (by omega) (by omega)]
    exact h.1
  · obtain ⟨d1, d2, d3, d4, d5, d6, d7, d8⟩ := h4 b hb
    unfold BxN
    rw [f (10 + 6 * b) (by omega) (fun i => by omega), f (10 + 6 * b + 5) (by omega) (fun i => by omega), hA 1 (by omega) (by omega), hA (170 + b) (by omega) (by omega), hA (178 + b) (by omega) (by omega), hA (186 + b) (by omega) (by omega), hA (872 + b) (by omega) (by omega)]
    exact ⟨d1, d2, d3, d4, d5, fun t ht => hK.1 b hb t ht, fun p hp => hK.2 b hb p hp, fun p hp => by rw [hA _ (by omega) (by omega)]; exact d8 p hp⟩
theorem ld_SO {σ : Nat → Int} {cnt a : Nat} {y m : Int} (hs : SO cnt σ) (ha : (a : Int) < σ 1) (hy : 0 ≤ y ∧ y < σ 1) : SO cnt (z_ldR a y m 16 σ) := by
  have hsz := hs.1
  have ha8 : a < 8 := by omega
  have hLs : ∀ j : Nat, j < 16 → 0 ≤ σ (1552 + 16 * a + j) ∧ σ (1552 + 16 * a + j) < 8 := fun j hj => by
    have := hs.2.2.2.1 a ha8 j hj
    omega
  have hA := z_ldR_all (m := m) ha8 (show 0 ≤ y ∧ y < 8 by omega) hLs 16 (Nat.le_refl 16)
  have hled := (z_ldR_led (m := m) ha8 (show 0 ≤ y ∧ y < 8 by omega) hLs 16 (Nat.le_refl 16)).2
  have hrg := hA.2 (fun j h1 h2 => by
    have o := (hs.2.2.1 ((j - 200) / 84) (by omega)).2.2.2.2.1 ((j - 200) % 84) (by omega)
    have e : 200 + 84 * ((j - 200) / 84) + (j - 200) % 84 = j := by omega
    unfold zm at o
    rw [e] at o
    exact o)
  have e := hA.1
  refine SO_b hs ?_ (fun j hj => e j (by omega) (by omega)) (by rw [e 1 (by omega) (by omega)]; exact Int.le_refl _) (e 2 (by omega) (by omega)) (e 3 (by omega) (by omega)) (e 5 (by omega) (by omega)) (fun b hb => ?_) (fun b hb t ht => ?_)
  · unfold O7
    rw [e 0 (by omega) (by omega), e 1 (by omega) (by omega), e 2 (by omega) (by omega), e 3 (by omega) (by omega), e 4 (by omega) (by omega), e 5 (by omega) (by omega), e 6 (by omega) (by omega)]
    exact hs.1
  · obtain ⟨o1, o2, o3, o4, o5, o6⟩ := hs.2.2.1 b hb
    unfold Ob
    rw [e (170 + b) (by omega) (by omega), e (178 + b) (by omega) (by omega), e (186 + b) (by omega) (by omega), e (872 + b) (by omega) (by omega), e 1 (by omega) (by omega), e 0 (by omega) (by omega)]
    refine ⟨o1, o2, o3, o4, fun p hp => hrg (200 + 84 * b + p) (by omega) (by omega), fun p hp => ?_⟩
    show -2147483648 ≤ z_ldR a y m 16 σ (880 + 84 * b + p) ∧ z_ldR a y m 16 σ (880 + 84 * b + p) < 2147483648
    rw [e _ (by omega) (by omega)]
    exact o6 p hp
  · have o := hs.2.2.2.1 b hb t ht
    rw [e 1 (by omega) (by omega)]
    by_cases hb2 : b = a
    · subst hb2
      rw [hled t ht]
      split
      · omega
      · exact o
    · rw [e _ (by omega) (by omega)]
      exact o
