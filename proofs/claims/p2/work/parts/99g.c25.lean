/-! lead, the class -/
section
variable {X : Nat → List Int32} {u w : Nat} {S : m_H} {V : v_V} {K : v_K}
/-- a talk t led on: from the box of number a to the one of number y (the class) -/
def z_ldC (a : Nat) (y m : Int) : Nat → v_V → v_V
  | 0, V => V
  | t + 1, V =>
    if m / 2 ^ t % 2 = 1 then
      v_up (if z_ldC a y m t V (10 + 6 * a + 1) t = y then z_ldC a y m t V else
        v_ur (v_ur (z_ldC a y m t V) (10 + 6 * y.toNat + 3) (v_cp (z_ldC a y m t V (10 + 6 * (z_ldC a y m t V (10 + 6 * a + 1) t).toNat + 3)) (z_ldC a y m t V (10 + 6 * y.toNat + 3)) (4 * t) (4 * t) 4)) (10 + 6 * (z_ldC a y m t V (10 + 6 * a + 1) t).toNat + 3) (z_fl (z_ldC a y m t V (10 + 6 * (z_ldC a y m t V (10 + 6 * a + 1) t).toNat + 3)) (4 * t) 4 0)) (10 + 6 * a + 1) t y
    else z_ldC a y m t V
theorem z_ldC_0 {a t : Nat} {y m : Int} {V : v_V} (h : ¬ m / 2 ^ t % 2 = 1) : z_ldC a y m (t + 1) V = z_ldC a y m t V := if_neg h
theorem z_ldC_1 {a t : Nat} {y m : Int} {V : v_V} (h : m / 2 ^ t % 2 = 1) (h2 : z_ldC a y m t V (10 + 6 * a + 1) t = y) : z_ldC a y m (t + 1) V = v_up (z_ldC a y m t V) (10 + 6 * a + 1) t y := by
  have e : z_ldC a y m (t + 1) V = _ := if_pos h
  rw [e, if_pos h2]
theorem z_ldC_2 {a t c : Nat} {y m : Int} {V : v_V} (h : m / 2 ^ t % 2 = 1) (hc : z_ldC a y m t V (10 + 6 * a + 1) t = (c : Int)) (h2 : (c : Int) ≠ y) : z_ldC a y m (t + 1) V = v_up (v_ur (v_ur (z_ldC a y m t V) (10 + 6 * y.toNat + 3) (v_cp (z_ldC a y m t V (10 + 6 * c + 3)) (z_ldC a y m t V (10 + 6 * y.toNat + 3)) (4 * t) (4 * t) 4)) (10 + 6 * c + 3) (z_fl (z_ldC a y m t V (10 + 6 * c + 3)) (4 * t) 4 0)) (10 + 6 * a + 1) t y := by
  have e : z_ldC a y m (t + 1) V = _ := if_pos h
  rw [e, hc, if_neg h2]
  rfl
theorem z_ldC_fr {a : Nat} {y m : Int} {V : v_V} (k : Nat) (h1 : k ≠ 10 + 6 * a + 1) (h2 : ∀ i : Nat, k ≠ 10 + 6 * i + 3) : ∀ t : Nat, z_ldC a y m t V k = V k
  | 0 => rfl
  | t + 1 => by
    have ih := z_ldC_fr (V := V) (y := y) (m := m) k h1 h2 t
    by_cases h : m / 2 ^ t % 2 = 1
    · have e : z_ldC a y m (t + 1) V = _ := if_pos h
      rw [e, v_up_ne h1]
      split
      · exact ih
      · rw [v_ur_ne (h2 _), v_ur_ne (h2 _)]
        exact ih
    · rw [z_ldC_0 h]
      exact ih
theorem z_ldC_led {a : Nat} {y m : Int} {V : v_V} (j : Nat) : ∀ t : Nat, z_ldC a y m t V (10 + 6 * a + 1) j = if j < t ∧ m / 2 ^ j % 2 = 1 then y else V (10 + 6 * a + 1) j
  | 0 => (if_neg (by omega)).symm
  | t + 1 => by
    have ih := z_ldC_led (a := a) (V := V) (y := y) (m := m) j t
    by_cases h : m / 2 ^ t % 2 = 1
    · have e : z_ldC a y m (t + 1) V = _ := if_pos h
      rw [e]
      by_cases hj : j = t
      · subst hj
        rw [v_up_eq, if_pos ⟨by omega, h⟩]
      · rw [v_up_ni hj]
        have e2 : ∀ W : v_V, (if z_ldC a y m t V (10 + 6 * a + 1) t = y then z_ldC a y m t V else W) (10 + 6 * a + 1) j = if z_ldC a y m t V (10 + 6 * a + 1) t = y then z_ldC a y m t V (10 + 6 * a + 1) j else W (10 + 6 * a + 1) j := fun W => by split <;> rfl
        rw [e2, v_ur_ne (by omega), v_ur_ne (by omega), ite_self, ih]
        by_cases h5 : j < t ∧ m / 2 ^ j % 2 = 1
        · rw [if_pos h5, if_pos ⟨by omega, h5.2⟩]
        · rw [if_neg h5, if_neg (fun q => h5 ⟨by omega, q.2⟩)]
    · rw [z_ldC_0 h, ih]
      by_cases h5 : j < t ∧ m / 2 ^ j % 2 = 1
      · rw [if_pos h5, if_pos ⟨by omega, h5.2⟩]
      · rw [if_neg h5, if_neg (fun q => h5 ⟨by rcases (show j < t ∨ j = t by omega) with r | r; exact r; exact absurd (r ▸ q.2) h, q.2⟩)]
theorem z_p2le {i : Nat} (h : i < 16) : (2 : Int) ^ i ≤ 32768 := by
  have : ∀ i : Nat, i < 16 → (2 : Int) ^ i ≤ 32768 := by decide
  exact this i h
set_option maxRecDepth 100000 in
set_option maxHeartbeats 4000000 in
theorem lp_lead (hC : ClF S) {x y q : Int} (hx : 0 ≤ x ∧ x < V 1 5) (hy : 0 ≤ y ∧ y < V 1 5) (hq : 0 ≤ q ∧ q ≤ 65535) (hB : 0 ≤ V 1 5 ∧ V 1 5 ≤ 8) (hL : ∀ b : Nat, (b : Int) < V 1 5 → ∀ t : Nat, t < 16 → 0 ≤ V (10 + 6 * b + 1) t ∧ V (10 + 6 * b + 1) t < V 1 5) (hN : ∀ b : Nat, (b : Int) < V 1 5 → V (10 + 6 * b) 0 = (b : Int)) {F : Nat} : ∀ (m : Nat) (i : Nat), 16 - i < m → (i ≤ 16) → (y_E X 3 80 F u w 166 [(0, .ref 0), (1, iv x), (2, iv y), (3, iv q), (4, .ref (10 + 6 * x.toNat)), (5, .ref (10 + 6 * y.toNat))] [] S (z_ldC x.toNat y q 16 V) K) → y_E X 3 80 (400 * m + F) u w 86 [(0, .ref 0), (1, iv x), (2, iv y), (3, iv q), (4, .ref (10 + 6 * x.toNat)), (5, .ref (10 + 6 * y.toNat)), (6, iv (i : Int))] [] S (z_ldC x.toNat y q i V) K := by
  intro m
  induction m with
  | zero => intros; omega
  | succ m ih =>
    intro i hm hI hx2
    refine y_mono (F' := (400 * m + F) + 400) ?_ (by omega)
    refine y_ld (x := iv (i : Int)) rfl rfl (fun d => rfl) ?_
    refine y_bi rfl rfl (by decide) ?_
    refine y_jge rfl rfl rfl (by omega) (fun g1 => ?_) (fun g1 => ?_)
    · refine y_lv (l' := [(0, .ref 0), (1, iv x), (2, iv y), (3, iv q), (4, .ref (10 + 6 * x.toNat)), (5, .ref (10 + 6 * y.toNat))]) rfl ⟨rfl, rfl, rfl, rfl, rfl, rfl, trivial⟩ ?_
      obtain rfl : i = 16 := by omega
      exact y_mono hx2 (by omega)
    · have hp2 := v_p2 i
      have hp3 : (2 : Int) ^ i ≤ 32768 := z_p2le (by omega)
      rcases (show q / 2 ^ i % 2 = 0 ∨ q / 2 ^ i % 2 = 1 by have := v_bit01 q i; omega) with hd | hd
      · refine y_ld (x := iv q) rfl rfl (fun d => rfl) ?_
        refine y_ic rfl rfl ?_
        refine y_ld (x := iv (i : Int)) rfl rfl (fun d => rfl) ?_
        refine y_op (z := (2 ^ i)) rfl rfl (fun d => rfl) (v_shl1 (k := (i : Int)) (by omega)) ?_
        refine y_op (z := 0) rfl rfl (fun d => rfl) ((v_and2 (x := q) (k := i) (by omega) (by omega)).trans (by rw [hd, Int.mul_zero])) ?_
        refine y_zne rfl rfl rfl (by decide) (fun g2 => absurd g2 (by decide)) (fun g2 => ?_)
        refine y_go rfl rfl ?_
        refine y_inc (z := ((i + 1 : Nat) : Int)) (lv' := [(6, iv ((i + 1 : Nat) : Int)), (0, .ref 0), (1, iv x), (2, iv y), (3, iv q), (4, .ref (10 + 6 * x.toNat)), (5, .ref (10 + 6 * y.toNat))]) rfl rfl rfl (by omega) rfl ?_
        refine y_go rfl rfl ?_
        refine y_lv (l' := [(0, .ref 0), (1, iv x), (2, iv y), (3, iv q), (4, .ref (10 + 6 * x.toNat)), (5, .ref (10 + 6 * y.toNat)), (6, iv ((i + 1 : Nat) : Int))]) rfl ⟨rfl, rfl, rfl, rfl, rfl, rfl, rfl, trivial⟩ ?_
        refine y_V (V' := z_ldC x.toNat y q (i + 1) V) (z_ldC_0 (by omega)).symm ?_
        exact y_mono (ih (i + 1) (by omega) (by omega) hx2) (by omega)
      · refine y_ld (x := iv q) rfl rfl (fun d => rfl) ?_
        refine y_ic rfl rfl ?_
        refine y_ld (x := iv (i : Int)) rfl rfl (fun d => rfl) ?_
        refine y_op (z := (2 ^ i)) rfl rfl (fun d => rfl) (v_shl1 (k := (i : Int)) (by omega)) ?_
        refine y_op (z := (2 ^ i)) rfl rfl (fun d => rfl) ((v_and2 (x := q) (k := i) (by omega) (by omega)).trans (by rw [hd, Int.mul_one])) ?_
        refine y_zne rfl rfl rfl (by omega) (fun g3 => ?_) (fun g3 => absurd g3 (by omega))
        have e5 : (z_ldC x.toNat y q i V) 1 5 = V 1 5 := by rw [z_ldC_fr 1 (by omega) (fun _ => by omega)]
        have el := z_ldC_led (a := x.toNat) (V := V) (y := y) (m := q) i i
        rw [if_neg (by omega)] at el
        have hl := hL x.toNat (by omega) i (by omega)
        obtain ⟨c, hc⟩ : ∃ c : Nat, (z_ldC x.toNat y q i V) (10 + 6 * x.toNat + 1) i = (c : Int) := ⟨((z_ldC x.toNat y q i V) (10 + 6 * x.toNat + 1) i).toNat, by omega⟩
        have hc8 : (c : Int) < V 1 5 := by omega
        have hnum : (z_ldC x.toNat y q i V) (10 + 6 * c) 0 = (c : Int) := by rw [z_ldC_fr (10 + 6 * c) (by omega) (fun _ => by omega)]; exact hN c hc8
        refine y_ld (x := .ref 0) rfl rfl (fun d => rfl) ?_
        refine y_gR (i := 0) rfl rfl rfl (hC 0 _ _ rfl) rfl ?_
        refine y_ld (x := .ref (10 + 6 * x.toNat)) rfl rfl (fun d => rfl) ?_
        refine y_gR (i := 5) rfl rfl rfl (bx_ob hC (i := x.toNat) (by omega)) rfl ?_
        refine y_ld (x := iv (i : Int)) rfl rfl (fun d => rfl) ?_
        refine y_ild (x := (c : Int)) (q := i) rfl rfl (bx_led hC (i := x.toNat) (by omega)) (by omega) (by decide) (by omega) hc ?_
        refine y_cV (as := [.ref 1, iv (c : Int)]) rfl rfl rfl rfl rfl (hC 1 _ _ rfl) ⟨rfl, (Nat.le_of_ble_eq_true rfl), (Nat.le_of_ble_eq_true rfl)⟩ (by decide) (cb_boxAt (V := (z_ldC x.toNat y q i V)) (x := (c : Int)) hC (by omega) (by omega) (fun hno => absurd (show 0 ≤ (c : Int) ∧ (c : Int) < (z_ldC x.toNat y q i V) 1 5 by omega) hno) (fun gB => ?_))
        refine y_nv ?_
        refine y_st (lv' := [(7, .ref (10 + 6 * c)), (0, .ref 0), (1, iv x), (2, iv y), (3, iv q), (4, .ref (10 + 6 * x.toNat)), (5, .ref (10 + 6 * y.toNat)), (6, iv (i : Int))]) rfl rfl (fun d => rfl) ?_
        refine y_ld (x := .ref (10 + 6 * c)) rfl rfl (fun d => rfl) ?_
        refine y_in (pc' := 127) rfl rfl (fun d => rfl) ?_
        refine y_ld (x := .ref (10 + 6 * c)) rfl rfl (fun d => rfl) ?_
        refine y_gI (i := 0) (e := (c : Int)) rfl rfl rfl (bx_ob hC (i := c) (by omega)) rfl hnum ?_
        refine y_ld (x := iv y) rfl rfl (fun d => rfl) ?_
        refine y_jeq rfl rfl rfl (by omega) (fun g4 => ?_) (fun g4 => ?_)
        · refine y_ld (x := .ref (10 + 6 * x.toNat)) rfl rfl (fun d => rfl) ?_
          refine y_gR (i := 5) rfl rfl rfl (bx_ob hC (i := x.toNat) (by omega)) rfl ?_
          refine y_ld (x := iv (i : Int)) rfl rfl (fun d => rfl) ?_
          refine y_ld (x := iv y) rfl rfl (fun d => rfl) ?_
          refine y_ist (q := i) rfl rfl (bx_led hC (i := x.toNat) (by omega)) (by omega) (by decide) (by omega) ?_
          refine y_inc (z := ((i + 1 : Nat) : Int)) (lv' := [(6, iv ((i + 1 : Nat) : Int)), (7, .ref (10 + 6 * c)), (0, .ref 0), (1, iv x), (2, iv y), (3, iv q), (4, .ref (10 + 6 * x.toNat)), (5, .ref (10 + 6 * y.toNat))]) rfl rfl rfl (by omega) rfl ?_
          refine y_go rfl rfl ?_
          refine y_lv (l' := [(0, .ref 0), (1, iv x), (2, iv y), (3, iv q), (4, .ref (10 + 6 * x.toNat)), (5, .ref (10 + 6 * y.toNat)), (6, iv ((i + 1 : Nat) : Int))]) rfl ⟨rfl, rfl, rfl, rfl, rfl, rfl, rfl, trivial⟩ ?_
          refine y_V (V' := z_ldC x.toNat y q (i + 1) V) (z_ldC_1 hd (by omega)).symm ?_
          exact y_mono (ih (i + 1) (by omega) (by omega) hx2) (by omega)
        · refine y_ld (x := .ref (10 + 6 * y.toNat)) rfl rfl (fun d => rfl) ?_
          refine y_gR (i := 6) rfl rfl rfl (bx_ob hC (i := y.toNat) (by omega)) rfl ?_
          refine y_ld (x := .ref (10 + 6 * c)) rfl rfl (fun d => rfl) ?_
          refine y_gR (i := 6) rfl rfl rfl (bx_ob hC (i := c) (by omega)) rfl ?_
          refine y_ld (x := iv (i : Int)) rfl rfl (fun d => rfl) ?_
          refine y_cV (as := [.ref (10 + 6 * y.toNat + 2), .ref (10 + 6 * c + 2), iv (i : Int)]) rfl rfl rfl rfl rfl (bx_mem hC (i := y.toNat) (by omega)) ⟨rfl, (Nat.le_of_ble_eq_true rfl), (Nat.le_of_ble_eq_true rfl)⟩ (by decide) (cc_take (V := (z_ldC x.toNat y q i V)) (t := i) ⟨(bx_mem hC (i := y.toNat) (by omega)), (bx_mcl hC (i := y.toNat) (by omega))⟩ ⟨(bx_mem hC (i := c) (by omega)), (bx_mcl hC (i := c) (by omega))⟩ (by omega) (by omega) ?_)
          refine y_n0 ?_
          refine y_ld (x := .ref (10 + 6 * x.toNat)) rfl rfl (fun d => rfl) ?_
          refine y_gR (i := 5) rfl rfl rfl (bx_ob hC (i := x.toNat) (by omega)) rfl ?_
          refine y_ld (x := iv (i : Int)) rfl rfl (fun d => rfl) ?_
          refine y_ld (x := iv y) rfl rfl (fun d => rfl) ?_
          refine y_ist (q := i) rfl rfl (bx_led hC (i := x.toNat) (by omega)) (by omega) (by decide) (by omega) ?_
          refine y_inc (z := ((i + 1 : Nat) : Int)) (lv' := [(6, iv ((i + 1 : Nat) : Int)), (7, .ref (10 + 6 * c)), (0, .ref 0), (1, iv x), (2, iv y), (3, iv q), (4, .ref (10 + 6 * x.toNat)), (5, .ref (10 + 6 * y.toNat))]) rfl rfl rfl (by omega) rfl ?_
          refine y_go rfl rfl ?_
          refine y_lv (l' := [(0, .ref 0), (1, iv x), (2, iv y), (3, iv q), (4, .ref (10 + 6 * x.toNat)), (5, .ref (10 + 6 * y.toNat)), (6, iv ((i + 1 : Nat) : Int))]) rfl ⟨rfl, rfl, rfl, rfl, rfl, rfl, rfl, trivial⟩ ?_
          refine y_V (V' := z_ldC x.toNat y q (i + 1) V) (z_ldC_2 hd hc (by omega)).symm ?_
          exact y_mono (ih (i + 1) (by omega) (by omega) hx2) (by omega)
end
