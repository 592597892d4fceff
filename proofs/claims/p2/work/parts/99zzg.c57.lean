/-! pairs of calls: copy, fall -/
theorem bits_ext : ∀ (k : Nat) (r s : Nat), r < 2 ^ k → s < 2 ^ k → (∀ t, t < k → r / 2 ^ t % 2 = s / 2 ^ t % 2) → r = s
  | 0, r, s, h1, h2, _ => by
    rw [Nat.pow_zero] at h1 h2
    omega
  | k + 1, r, s, h1, h2, h => by
    rw [Nat.pow_succ] at h1 h2
    have h0 := h 0 (by omega)
    rw [Nat.pow_zero, Nat.div_one, Nat.div_one] at h0
    have hr := bits_ext k (r / 2) (s / 2) (by omega) (by omega) (fun t ht => by
      have := h (t + 1) (by omega)
      rw [Nat.pow_succ, Nat.mul_comm, ← Nat.div_div_eq_div_mul, ← Nat.div_div_eq_div_mul] at this
      exact this)
    omega
theorem tu_eq {σ : Nat → Int} {b : Nat} {r s : Int} (hr : 0 ≤ r ∧ r < 65536) (hs : 0 ≤ s ∧ s < 65536) (h1 : ∀ t : Nat, t < 16 → tuB σ b 16 t (r / 2 ^ t % 2)) (h2 : ∀ t : Nat, t < 16 → tuB σ b 16 t (s / 2 ^ t % 2)) : r = s := by
  obtain ⟨m, rfl⟩ : ∃ m : Nat, r = (m : Int) := ⟨r.toNat, by omega⟩
  obtain ⟨n, rfl⟩ : ∃ n : Nat, s = (n : Int) := ⟨s.toNat, by omega⟩
  have := bits_ext 16 m n (by omega) (by omega) (fun t ht => by
    have a := h1 t ht
    have b2 := h2 t ht
    have e : ∀ q : Nat, (((q / 2 ^ t % 2 : Nat)) : Int) = (q : Int) / 2 ^ t % 2 := fun q => by
      rw [Int.natCast_emod, Int.natCast_ediv, Int.natCast_pow]
      rfl
    have : (m : Int) / 2 ^ t % 2 = (n : Int) / 2 ^ t % 2 := by
      by_cases hq : t < 16 ∧ tuP σ b t
      · rw [a.1 hq, b2.1 hq]
      · rw [a.2 hq, b2.2 hq]
    rw [← e, ← e] at this
    omega)
  rw [this]
/-- a MEMORY goes to another place -/
theorem cp_RN {V : v_V} {σ : Nat → Int} {X : Nat} {p q : Nat} {k1 k2 : Nat} (h : RN V 1 σ) (hX : X < 8) (hp : (p = 200 ∧ q = 880 ∧ k1 = 3 ∧ k2 = 5) ∨ (p = 880 ∧ q = 200 ∧ k1 = 5 ∧ k2 = 3)) : RN (v_ur V (10 + 6 * X + k2) (V (10 + 6 * X + k1))) 1 (v_cp σ σ (p + 84 * X) (q + 84 * X) 84) := by
  have hs : ∀ j, (j < q + 84 * X ∨ q + 84 * X + 84 ≤ j) → v_cp σ σ (p + 84 * X) (q + 84 * X) 84 j = σ j := fun j hj => if_neg (by omega)
  have hs2 : ∀ i, i < 84 → v_cp σ σ (p + 84 * X) (q + 84 * X) 84 (q + 84 * X + i) = σ (p + 84 * X + i) := fun i hi => (if_pos (by omega)).trans (congrArg σ (by omega))
  refine RN_b h ?_ (fun k hk => v_ur_ne (by omega)) (fun j hj => hs j (by omega)) (fun b hb => ?_)
  · unfold N7
    rw [v_ur_ne (by omega), hs 0 (by omega), hs 1 (by omega), hs 2 (by omega), hs 3 (by omega), hs 4 (by omega), hs 5 (by omega), hs 6 (by omega)]
    exact h.1
  · obtain ⟨d1, d2, d3, d4, d5, d6, d7, d8⟩ := h.2.2.2 b hb
    obtain ⟨-, -, -, -, -, -, x7, x8⟩ := h.2.2.2 X hX
    unfold BxN
    rw [v_ur_ne (show 10 + 6 * b ≠ 10 + 6 * X + k2 by omega), v_ur_ne (show 10 + 6 * b + 1 ≠ 10 + 6 * X + k2 by omega), hs 1 (by omega), hs _ (by omega), hs _ (by omega), hs _ (by omega), hs _ (by omega)]
    refine ⟨d1, d2, d3, d4, d5, fun t ht => by rw [hs _ (by omega)]; exact d6 t ht, fun i hi => ?_, fun i hi => ?_⟩
    · by_cases e : b = X ∧ q = 200
      · obtain ⟨rfl, rfl⟩ := e
        obtain ⟨rfl, rfl, rfl⟩ : p = 880 ∧ k1 = 5 ∧ k2 = 3 := by omega
        rw [v_ur_eq, hs2 i hi]
        exact x8 i hi
      · rw [v_ur_ne (by omega), hs _ (by omega)]
        exact d7 i hi
    · by_cases e : b = X ∧ q = 880
      · obtain ⟨rfl, rfl⟩ := e
        obtain ⟨rfl, rfl, rfl⟩ : p = 200 ∧ k1 = 3 ∧ k2 = 5 := by omega
        rw [v_ur_eq, hs2 i hi]
        exact x7 i hi
      · rw [v_ur_ne (by omega), hs _ (by omega)]
        exact d8 i hi
theorem cp_SO {cnt : Nat} {σ : Nat → Int} {X : Nat} {p q : Nat} (h : SO cnt σ) (hX : X < 8) (hp : (p = 200 ∧ q = 880) ∨ (p = 880 ∧ q = 200)) : SO cnt (v_cp σ σ (p + 84 * X) (q + 84 * X) 84) := by
  have hs : ∀ j, (j < q + 84 * X ∨ q + 84 * X + 84 ≤ j) → v_cp σ σ (p + 84 * X) (q + 84 * X) 84 j = σ j := fun j hj => if_neg (by omega)
  have hm : ∀ i, ∀ B : Nat, B < 8 → ∀ w : Nat, (w = 200 ∨ w = 880) → i < 84 → -2147483648 ≤ v_cp σ σ (p + 84 * X) (q + 84 * X) 84 (w + 84 * B + i) ∧ v_cp σ σ (p + 84 * X) (q + 84 * X) 84 (w + 84 * B + i) < 2147483648 := by
    intro i B hB w hw hi
    have o1 := (h.2.2.1 B hB).2.2.2.2.1 i hi
    have o2 := (h.2.2.1 B hB).2.2.2.2.2 i hi
    have x1 := (h.2.2.1 X hX).2.2.2.2.1 i hi
    have x2 := (h.2.2.1 X hX).2.2.2.2.2 i hi
    unfold zm at o1 o2 x1 x2
    by_cases e : B = X ∧ w = q
    · obtain ⟨rfl, rfl⟩ := e
      rw [show v_cp σ σ (p + 84 * B) (w + 84 * B) 84 (w + 84 * B + i) = σ (p + 84 * B + i) from (if_pos (by omega)).trans (congrArg σ (by omega))]
      rcases hp with ⟨rfl, -⟩ | ⟨rfl, -⟩ <;> assumption
    · rw [hs _ (by omega)]
      rcases hw with rfl | rfl <;> assumption
  refine SO_b h ?_ (fun j hj => hs j (by omega)) (by rw [hs 1 (by omega)]; exact Int.le_refl _) (hs 2 (by omega)) (hs 3 (by omega)) (hs 5 (by omega)) (fun b hb => ?_) (fun b hb t ht => ?_)
  · unfold O7
    rw [hs 0 (by omega), hs 1 (by omega), hs 2 (by omega), hs 3 (by omega), hs 4 (by omega), hs 5 (by omega), hs 6 (by omega)]
    exact h.1
  · have o := h.2.2.1 b hb
    unfold Ob
    rw [hs (170 + b) (by omega), hs (178 + b) (by omega), hs (186 + b) (by omega), hs (872 + b) (by omega), hs 1 (by omega), hs 0 (by omega)]
    exact ⟨o.1, o.2.1, o.2.2.1, o.2.2.2.1, fun i hi => hm i b hb 200 (Or.inl rfl) hi, fun i hi => hm i b hb 880 (Or.inr rfl) hi⟩
  · rw [hs _ (by omega), hs 1 (by omega)]
    exact h.2.2.2.1 b hb t ht
section
variable {X : Nat → List Int32} {u w cnt : Nat} {S : m_H} {V : v_V}
set_option maxRecDepth 100000 in
set_option maxHeartbeats 4000000 in
theorem pr_fall (hR : RR cnt u w S V) {x : Int} (hx1 : (-2147483648 ≤ x ∧ x < 2147483648)) : PR X True 86 152 [.ref 0, iv x] [.ref 170, iv x] cnt u w S V := by
  have hR2 := RR_le hR (Nat.le_succ cnt)
  obtain ⟨tl, hC, hM, hP, hZ⟩ := hR
  have hC0 := hC
  have hM0 := hM
  have hP0 := hP
  obtain ⟨c1, c2, c3, c4, c5, c6, c7, c8⟩ := hC
  obtain ⟨m1, -, -, m4, m5, m6⟩ := hM
  obtain ⟨p1, p2, p3, p4⟩ := hP
  obtain ⟨n1, n2, n3, n4⟩ := c2.1
  have hsz := p1.1
  intro K hK
  refine y_Rm (D' := 4) (cs_fall c1 c2 p1 hx1 (fun g1 => ?_) (fun g1 r gr gb => ?_)) (by decide)
  · refine hK _ _ _ _ _ m1 (fun K2 h2 => y_Rm (D' := 3) (ms_fall m1 p1 hx1 ?_ ?_) (by decide))
    all_goals intros
    all_goals first | contradiction | exact h2 _ _ _ _ _ hR2 (fun _ => rfl)
  · have hX : x.toNat < 8 := by omega
    have f171 : (v_ur V (10 + 6 * x.toNat + 3) (V (10 + 6 * x.toNat + 5))) 171 = V 171 := v_ur_ne (by omega)
    have hs : ∀ j, (j < 200 ∨ 872 ≤ j) → v_cp (V 171) (V 171) (880 + 84 * x.toNat) (200 + 84 * x.toNat) 84 j = V 171 j := fun j hj => if_neg (by omega)
    refine hK _ _ _ _ _ m1 (fun K2 h2 => y_Rm (D' := 3) (ms_fall m1 (by rw [f171]; exact p1) hx1 ?_ ?_) (by decide))
    all_goals rw [f171]
    · intros; contradiction
    · intro j1 r2 jr jb
      exact h2 _ _ _ _ _ (RR_n hC0 hM0 hP0 hZ (cp_RN c2.1 hX (Or.inr ⟨rfl, rfl, rfl, rfl⟩)) (SO_le (cp_SO p1 hX (Or.inr ⟨rfl, rfl⟩)) (Nat.le_succ cnt)) (fun k hk => v_ur_ne (by omega)) (hs 0 (by omega)) (hs 3 (by omega)) (hs 5 (by omega)) (fun j hj => hs j (by omega)) (v_ur_eq _ _ _) (fun k hk => v_ur_ne hk)) (fun _ => tu_eq jr gr jb (fun t _ => gb t))
end
