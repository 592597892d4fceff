/-! THE CLASS' READER: a TEXT at t, half made; what it has read so far -/
def tx_obj (t : Nat) : List Value := [.int 0, .ref (t + 1), .ref (t + 2), .ref (t + 3), .ref (t + 4), .ref (t + 5), .int 0, .int 0, .ref (t + 6)]
def TxS (S : m_H) (t : Nat) : Prop := ce S t 6 (tx_obj t) ∧ v_ia S (t + 1) 20 8 ∧ v_ia S (t + 2) 20 8 ∧ v_ia S (t + 3) 20 8 ∧ v_ia S (t + 4) 20 8 ∧ v_ia S (t + 5) 20 160 ∧ v_ia S (t + 6) 20 8
def RdS (S : m_H) (t : Nat) : Prop := ce S 115 3 [.ref 2, .int 0, .int 0, .ref t]
def CP (V : v_V) (t z : Nat) (τ : Nat → Int) (p : Nat) (ln : Int) (st : List Int) (g : Nat → Int) : Prop :=
  V 115 1 = z ∧ V 115 2 = p ∧ (∀ i, i < z → V 2 i = τ i) ∧ V t 0 = ln ∧ V t 6 = st.length ∧ (∀ i x, m_nth st i = some x → V (t + 5) i = x) ∧ (∀ c, c < 8 → V (t + 6) c = if 1 < g c then g c - 2 else -5) ∧ (0 ≤ V t 7 ∧ V t 7 < 256 ∧ ∀ c, c < 8 → V t 7 / 2 ^ c % 2 = if g c = 0 then 0 else 1)
/-- what a part of a reading leaves as it was -/
def CF (t : Nat) (V V' : v_V) : Prop := (∀ k, k ≠ 115 → k ≠ t → k ≠ t + 5 → k ≠ t + 6 → V' k = V k) ∧ (∀ i, i ≠ 2 → V' 115 i = V 115 i) ∧ V' t 0 = V t 0
theorem CF_rf (t : Nat) (V : v_V) : CF t V V := ⟨fun _ _ _ _ _ => rfl, fun _ _ => rfl, rfl⟩
theorem CF_tr {t : Nat} {V V' V'' : v_V} (h : CF t V V') (h2 : CF t V' V'') : CF t V V'' :=
  ⟨fun k q1 q2 q3 q4 => (h2.1 k q1 q2 q3 q4).trans (h.1 k q1 q2 q3 q4), fun i q => (h2.2.1 i q).trans (h.2.1 i q), h2.2.2.trans h.2.2⟩
theorem CF_at {t : Nat} {V : v_V} {x : Int} (ht : 193 ≤ t) : CF t V (v_up V 115 2 x) :=
  ⟨fun k q1 _ _ _ => v_up_ne q1, fun i q => v_up_ni q, congrFun (v_up_ne (by omega)) 0⟩
theorem CP_at {V : v_V} {t z : Nat} {τ : Nat → Int} {p p' : Nat} {ln : Int} {st : List Int} {g : Nat → Int} (ht : 193 ≤ t) (h : CP V t z τ p ln st g) : CP (v_up V 115 2 p') t z τ p' ln st g := by
  obtain ⟨a1, a2, a3, a4, a5, a6, a7, a8⟩ := h
  refine ⟨?_, v_up_eq _ _ _ _, ?_, ?_, ?_, ?_, ?_, ?_⟩
  · rw [v_up_ni (by decide)]; exact a1
  · rw [v_up_ne (by decide)]; exact a3
  · rw [v_up_ne (by omega)]; exact a4
  · rw [v_up_ne (by omega)]; exact a5
  · rw [v_up_ne (by omega)]; exact a6
  · rw [v_up_ne (by omega)]; exact a7
  · rw [v_up_ne (by omega)]; exact a8
theorem CP_add {V : v_V} {t z : Nat} {τ : Nat → Int} {p : Nat} {ln x : Int} {st : List Int} {g : Nat → Int} (ht : 193 ≤ t) (h : CP V t z τ p ln st g) : CP (v_up (v_up V (t + 5) st.length x) t 6 (st.length + 1)) t z τ p ln (st ++ [x]) g := by
  obtain ⟨a1, a2, a3, a4, a5, a6, a7, a8⟩ := h
  refine ⟨?_, ?_, ?_, ?_, ?_, ?_, ?_, ?_⟩
  · rw [v_up_ne (by omega), v_up_ne (by omega)]; exact a1
  · rw [v_up_ne (by omega), v_up_ne (by omega)]; exact a2
  · rw [v_up_ne (by omega), v_up_ne (by omega)]; exact a3
  · rw [v_up_ni (by decide), v_up_ne (by omega)]; exact a4
  · rw [v_up_eq, List.length_append]; rfl
  · intro i y hi
    rw [v_up_ne (by omega)]
    rw [m_nth_app] at hi
    by_cases h2 : i = st.length
    · rw [if_pos h2] at hi
      cases hi
      rw [h2, v_up_eq]
    · rw [if_neg h2] at hi
      rw [v_up_ni h2]
      exact a6 i y hi
  · rw [v_up_ne (by omega), v_up_ne (by omega)]; exact a7
  · rw [v_up_ni (by decide), v_up_ne (by omega)]; exact a8
theorem CF_add {V : v_V} {t i : Nat} {x y : Int} (ht : 193 ≤ t) : CF t V (v_up (v_up V (t + 5) i x) t 6 y) := by
  refine ⟨fun k q1 q2 q3 q4 => ?_, fun i q => ?_, ?_⟩
  · rw [v_up_ne q2, v_up_ne q3]
  · rw [v_up_ne (by omega), v_up_ne (by omega)]
  · rw [v_up_ni (by decide), v_up_ne (by omega)]
theorem CP_set {V : v_V} {t z : Nat} {τ : Nat → Int} {p : Nat} {ln x : Int} {st : List Int} {g : Nat → Int} {i : Nat} (ht : 193 ≤ t) (h : CP V t z τ p ln st g) (hi : i < st.length) : CP (v_up V (t + 5) i x) t z τ p ln (st.set i x) g := by
  obtain ⟨a1, a2, a3, a4, a5, a6, a7, a8⟩ := h
  refine ⟨?_, ?_, ?_, ?_, ?_, ?_, ?_, ?_⟩
  · rw [v_up_ne (by omega)]; exact a1
  · rw [v_up_ne (by omega)]; exact a2
  · rw [v_up_ne (by omega)]; exact a3
  · rw [v_up_ne (by omega)]; exact a4
  · rw [v_up_ne (by omega), List.length_set]; exact a5
  · intro j y hj
    rw [m_nth_set] at hj
    by_cases h2 : j = i
    · subst h2
      rw [if_pos rfl] at hj
      rw [v_up_eq]
      cases hm : m_nth st j with
      | none => rw [hm] at hj; cases hj
      | some w => rw [hm] at hj; cases hj; rfl
    · rw [if_neg h2] at hj
      rw [v_up_ni h2]
      exact a6 j y hj
  · rw [v_up_ne (by omega)]; exact a7
  · rw [v_up_ne (by omega)]; exact a8
theorem CF_set {V : v_V} {t i : Nat} {x : Int} (ht : 193 ≤ t) : CF t V (v_up V (t + 5) i x) := by
  refine ⟨fun k q1 q2 q3 q4 => v_up_ne q3, fun i q => ?_, ?_⟩
  · rw [v_up_ne (by omega)]
  · rw [v_up_ne (by omega)]
/-- bits: one more of the lowest eight -/
theorem v_bitI {x : Int} (hx : 0 ≤ x) (c : Nat) : x / 2 ^ c % 2 = if x.toNat.testBit c then 1 else 0 := by
  obtain ⟨n, rfl⟩ : ∃ n : Nat, x = n := ⟨x.toNat, (Int.toNat_of_nonneg hx).symm⟩
  rw [Int.toNat_natCast, Nat.testBit_eq_decide_div_mod_eq]
  have e : ((n : Int) / 2 ^ c % 2) = ((n / 2 ^ c % 2 : Nat) : Int) := by
    rw [Int.natCast_emod, Int.natCast_ediv, Int.natCast_pow]
    rfl
  rw [e]
  have h2 : n / 2 ^ c % 2 = 0 ∨ n / 2 ^ c % 2 = 1 := by omega
  rcases h2 with h2 | h2 <;> rw [h2] <;> rfl
def v_o2 (x : Int) (c : Nat) : Int := ((x.toNat ||| 2 ^ c : Nat) : Int)
theorem v_o2_bit {x : Int} (hx : 0 ≤ x) (c c' : Nat) : v_o2 x c / 2 ^ c' % 2 = if c' = c then 1 else x / 2 ^ c' % 2 := by
  rw [v_bitI (by unfold v_o2; omega), v_bitI hx]
  unfold v_o2
  rw [Int.toNat_natCast, Nat.testBit_or, Nat.testBit_two_pow]
  by_cases h : c' = c
  · subst h
    simp
  · rw [if_neg h]
    simp [show ¬ c = c' from fun e => h e.symm]
theorem v_o2_lt {x : Int} (hx : 0 ≤ x ∧ x < 256) {c : Nat} (hc : c < 8) : 0 ≤ v_o2 x c ∧ v_o2 x c < 256 := by
  have h : x.toNat ||| 2 ^ c < 2 ^ 8 := Nat.or_lt_two_pow (by omega) (Nat.pow_lt_pow_right (by decide) hc)
  unfold v_o2
  omega
theorem v_or_o2 {x : Int} (hx : 0 ≤ x) (c : Nat) : Int32.ofInt x ||| Int32.ofInt (2 ^ c) = Int32.ofInt (v_o2 x c) := by
  rw [v_or hx (Int.le_of_lt (v_p2 c))]
  unfold v_o2
  rw [show (2 : Int) ^ c = ((2 ^ c : Nat) : Int) by rw [Int.natCast_pow]; rfl, Int.toNat_natCast]
