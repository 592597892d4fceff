/-! lead, the reference -/
section
variable {X : Nat → List Int32} {u w : Nat} {S : m_H} {V : v_V} {K : v_K}
def z_mv (g : Nat → Int) (p q : Nat) : Nat → Int := v_uf (v_uf (v_uf (v_uf (v_uf (v_uf (v_uf (v_uf g (q + 0) (g (p + 0))) (p + 0) 0) (q + 1) (g (p + 1))) (p + 1) 0) (q + 2) (g (p + 2))) (p + 2) 0) (q + 3) (g (p + 3))) (p + 3) 0
theorem z_mv_ne {g : Nat → Int} {p q k : Nat} (h1 : k < p ∨ p + 3 < k) (h2 : k < q ∨ q + 3 < k) : z_mv g p q k = g k := by
  unfold z_mv
  rw [v_uf_ne (by omega), v_uf_ne (by omega), v_uf_ne (by omega), v_uf_ne (by omega), v_uf_ne (by omega), v_uf_ne (by omega), v_uf_ne (by omega), v_uf_ne (by omega)]
/-- a talk t led on, in the reference's row of numbers -/
def z_ldR (a : Nat) (y m : Int) : Nat → (Nat → Int) → Nat → Int
  | 0, f => f
  | t + 1, f =>
    if m / 2 ^ t % 2 = 1 ∧ z_ldR a y m t f (1552 + 16 * a + t) ≠ y then
      v_uf (z_mv (z_ldR a y m t f) (200 + 84 * (z_ldR a y m t f (1552 + 16 * a + t)).toNat + 4 * t) (200 + 84 * y.toNat + 4 * t)) (1552 + 16 * a + t) y
    else z_ldR a y m t f
theorem z_ldR_0 {a t : Nat} {y m : Int} {f : Nat → Int} (h : ¬ (m / 2 ^ t % 2 = 1 ∧ z_ldR a y m t f (1552 + 16 * a + t) ≠ y)) : z_ldR a y m (t + 1) f = z_ldR a y m t f := if_neg h
theorem z_ldR_1 {a t c : Nat} {y m : Int} {f : Nat → Int} (h : m / 2 ^ t % 2 = 1) (hc : z_ldR a y m t f (1552 + 16 * a + t) = (c : Int)) (h2 : (c : Int) ≠ y) : z_ldR a y m (t + 1) f = v_uf (z_mv (z_ldR a y m t f) (200 + 84 * c + 4 * t) (200 + 84 * y.toNat + 4 * t)) (1552 + 16 * a + t) y := by
  have e : z_ldR a y m (t + 1) f = _ := if_pos ⟨h, by rw [hc]; exact h2⟩
  rw [e, hc]
  rfl
theorem z_ldR_led {a : Nat} {y m : Int} {f : Nat → Int} (ha : a < 8) (hy : 0 ≤ y ∧ y < 8) (hL : ∀ j : Nat, j < 16 → 0 ≤ f (1552 + 16 * a + j) ∧ f (1552 + 16 * a + j) < 8) : ∀ t : Nat, t ≤ 16 → z_ldR a y m t f 1 = f 1 ∧ ∀ j : Nat, j < 16 → z_ldR a y m t f (1552 + 16 * a + j) = if j < t ∧ m / 2 ^ j % 2 = 1 then y else f (1552 + 16 * a + j)
  | 0, _ => ⟨rfl, fun j _ => (if_neg (by omega)).symm⟩
  | t + 1, ht => by
    have ih := z_ldR_led (m := m) ha hy hL t (by omega)
    have it := ih.2 t (by omega)
    rw [if_neg (by omega)] at it
    have hl := hL t (by omega)
    by_cases h : m / 2 ^ t % 2 = 1 ∧ z_ldR a y m t f (1552 + 16 * a + t) ≠ y
    · have e : z_ldR a y m (t + 1) f = _ := if_pos h
      rw [e]
      refine ⟨?_, fun j hj => ?_⟩
      · rw [v_uf_ne (by omega), z_mv_ne (by omega) (by omega)]
        exact ih.1
      · by_cases hjt : j = t
        · subst hjt
          rw [v_uf_eq, if_pos ⟨by omega, h.1⟩]
        · rw [v_uf_ne (by omega), z_mv_ne (by omega) (by omega), ih.2 j hj]
          by_cases h5 : j < t ∧ m / 2 ^ j % 2 = 1
          · rw [if_pos h5, if_pos ⟨by omega, h5.2⟩]
          · rw [if_neg h5, if_neg (fun q => h5 ⟨by omega, q.2⟩)]
    · rw [z_ldR_0 h]
      refine ⟨ih.1, fun j hj => ?_⟩
      rw [ih.2 j hj]
      by_cases h5 : j < t ∧ m / 2 ^ j % 2 = 1
      · rw [if_pos h5, if_pos ⟨by omega, h5.2⟩]
      · by_cases h6 : j < t + 1 ∧ m / 2 ^ j % 2 = 1
        · have hjt : j = t := by
            rcases (show j < t ∨ j = t by omega) with r | r
            · exact absurd ⟨r, h6.2⟩ h5
            · exact r
          subst hjt
          rw [if_neg h5, if_pos h6, ← it]
          by_cases h7 : z_ldR a y m j f (1552 + 16 * a + j) = y
          · exact h7
          · exact absurd ⟨h6.2, h7⟩ h
        · rw [if_neg h5, if_neg h6]
set_option maxRecDepth 100000 in
set_option maxHeartbeats 4000000 in
theorem lq_lead (hM : MdS S) {x y q : Int} (hx : 0 ≤ x ∧ x < V 171 1) (hy : 0 ≤ y ∧ y < V 171 1) (hq : 0 ≤ q ∧ q ≤ 65535) (hB : 0 ≤ V 171 1 ∧ V 171 1 ≤ 8) (hL : ∀ b : Nat, (b : Int) < V 171 1 → ∀ t : Nat, t < 16 → 0 ≤ V 171 (1552 + 16 * b + t) ∧ V 171 (1552 + 16 * b + t) < V 171 1) {F : Nat} : ∀ (m : Nat) (i : Nat), 16 - i < m → (i ≤ 16) → (y_E X 3 146 F u w 211 [(0, .ref 170), (1, iv x), (2, iv y), (3, iv q)] [] S (v_ur V 171 (z_ldR x.toNat y q 16 (V 171))) K) → y_E X 3 146 (500 * m + F) u w 66 [(0, .ref 170), (1, iv x), (2, iv y), (3, iv q), (4, iv (i : Int))] [] S (v_ur V 171 (z_ldR x.toNat y q i (V 171))) K := by
  intro m
  induction m with
  | zero => intros; omega
  | succ m ih =>
    intro i hm hI hx2
    refine y_mono (F' := (500 * m + F) + 500) ?_ (by omega)
    refine y_ld (x := iv (i : Int)) rfl rfl (fun d => rfl) ?_
    refine y_bi rfl rfl (by decide) ?_
    refine y_jge rfl rfl rfl (by omega) (fun g1 => ?_) (fun g1 => ?_)
    · refine y_lv (l' := [(0, .ref 170), (1, iv x), (2, iv y), (3, iv q)]) rfl ⟨rfl, rfl, rfl, rfl, trivial⟩ ?_
      obtain rfl : i = 16 := by omega
      exact y_mono hx2 (by omega)
    · have el := (z_ldR_led (m := q) (a := x.toNat) (f := V 171) (y := y) (by omega) (by omega) (fun j hj => by have := hL x.toNat (by omega) j hj; omega) i (by omega)).2 i (by omega)
      rw [if_neg (by omega)] at el
      have hl := hL x.toNat (by omega) i (by omega)
      obtain ⟨c, hc⟩ : ∃ c : Nat, (z_ldR x.toNat y q i (V 171)) (1552 + 16 * x.toNat + i) = (c : Int) := ⟨((z_ldR x.toNat y q i (V 171)) (1552 + 16 * x.toNat + i)).toNat, by omega⟩
      have hc8 : c < 8 := by omega
      have hb01 := v_bit01 q i
      obtain ⟨b, hby⟩ : ∃ b : Nat, y = (b : Int) := ⟨y.toNat, by omega⟩
      refine y_ld (x := .ref 170) rfl rfl (fun d => rfl) ?_
      refine y_gR (i := 1) rfl rfl rfl (md170 hM) rfl ?_
      refine y_si rfl rfl (by decide) ?_
      refine y_bi rfl rfl (by decide) ?_
      refine y_ld (x := iv x) rfl rfl (fun d => rfl) ?_
      refine y_mul (z := (16 * x)) rfl rfl rfl ?_
      refine y_add (z := (1552 + (16 * x))) rfl rfl rfl ?_
      refine y_ld (x := iv (i : Int)) rfl rfl (fun d => rfl) ?_
      refine y_add (z := ((1552 + (16 * x)) + (i : Int))) rfl rfl rfl ?_
      refine y_ild (x := (c : Int)) (q := (1552 + 16 * x.toNat + i)) rfl rfl (md171 hM) (by omega) (by decide) (by omega) (by rw [v_ur_eq]; exact hc) ?_
      refine y_st (lv' := [(5, iv (c : Int)), (0, .ref 170), (1, iv x), (2, iv y), (3, iv q), (4, iv (i : Int))]) rfl rfl (fun d => rfl) ?_
      refine y_ld (x := iv q) rfl rfl (fun d => rfl) ?_
      refine y_ld (x := iv (i : Int)) rfl rfl (fun d => rfl) ?_
      refine y_op (z := (q / 2 ^ i)) rfl rfl (fun d => rfl) (v_shr (k := (i : Int)) (by omega) (by omega)) ?_
      refine y_ic rfl rfl ?_
      refine y_op (z := (q / 2 ^ i % 2)) rfl rfl (fun d => rfl) (v_and1 (Int.ediv_nonneg (by omega) (Int.le_of_lt (v_p2 _)))) ?_
      refine y_ic rfl rfl ?_
      refine y_jne rfl rfl rfl (by omega) (fun g2 => ?_) (fun g2 => ?_)
      · refine y_inc (z := ((i + 1 : Nat) : Int)) (lv' := [(4, iv ((i + 1 : Nat) : Int)), (5, iv (c : Int)), (0, .ref 170), (1, iv x), (2, iv y), (3, iv q)]) rfl rfl rfl (by omega) rfl ?_
        refine y_go rfl rfl ?_
        refine y_lv (l' := [(0, .ref 170), (1, iv x), (2, iv y), (3, iv q), (4, iv ((i + 1 : Nat) : Int))]) rfl ⟨rfl, rfl, rfl, rfl, rfl, trivial⟩ ?_
        refine y_V (V' := v_ur V 171 (z_ldR x.toNat y q (i + 1) (V 171))) (by rw [z_ldR_0 (by omega)]) ?_
        exact y_mono (ih (i + 1) (by omega) (by omega) hx2) (by omega)
      · refine y_ld (x := iv (c : Int)) rfl rfl (fun d => rfl) ?_
        refine y_ld (x := iv y) rfl rfl (fun d => rfl) ?_
        refine y_jeq rfl rfl rfl (by omega) (fun g3 => ?_) (fun g3 => ?_)
        · refine y_inc (z := ((i + 1 : Nat) : Int)) (lv' := [(4, iv ((i + 1 : Nat) : Int)), (5, iv (c : Int)), (0, .ref 170), (1, iv x), (2, iv y), (3, iv q)]) rfl rfl rfl (by omega) rfl ?_
          refine y_go rfl rfl ?_
          refine y_lv (l' := [(0, .ref 170), (1, iv x), (2, iv y), (3, iv q), (4, iv ((i + 1 : Nat) : Int))]) rfl ⟨rfl, rfl, rfl, rfl, rfl, trivial⟩ ?_
          refine y_V (V' := v_ur V 171 (z_ldR x.toNat y q (i + 1) (V 171))) (by rw [z_ldR_0 (by omega)]) ?_
          exact y_mono (ih (i + 1) (by omega) (by omega) hx2) (by omega)
        · refine y_ic rfl rfl ?_
          refine y_st (lv' := [(6, iv 0), (5, iv (c : Int)), (0, .ref 170), (1, iv x), (2, iv y), (3, iv q), (4, iv (i : Int))]) rfl rfl (fun d => rfl) ?_
          refine y_ld (x := iv 0) rfl rfl (fun d => rfl) ?_
          refine y_ic rfl rfl ?_
          refine y_jge rfl rfl rfl (by decide) (fun g4 => absurd g4 (by decide)) (fun g4 => ?_)
          refine y_ld (x := .ref 170) rfl rfl (fun d => rfl) ?_
          refine y_gR (i := 1) rfl rfl rfl (md170 hM) rfl ?_
          refine y_si rfl rfl (by decide) ?_
          refine y_bi rfl rfl (by decide) ?_
          refine y_ld (x := iv y) rfl rfl (fun d => rfl) ?_
          refine y_mul (z := (84 * y)) rfl rfl rfl ?_
          refine y_add (z := (200 + (84 * y))) rfl rfl rfl ?_
          refine y_ic rfl rfl ?_
          refine y_ld (x := iv (i : Int)) rfl rfl (fun d => rfl) ?_
          refine y_mul (z := (4 * (i : Int))) rfl rfl rfl ?_
          refine y_add (z := ((200 + (84 * y)) + (4 * (i : Int)))) rfl rfl rfl ?_
          refine y_ld (x := iv 0) rfl rfl (fun d => rfl) ?_
          refine y_add (z := (((200 + (84 * y)) + (4 * (i : Int))) + 0)) rfl rfl rfl ?_
          refine y_ld (x := .ref 170) rfl rfl (fun d => rfl) ?_
          refine y_gR (i := 1) rfl rfl rfl (md170 hM) rfl ?_
          refine y_si rfl rfl (by decide) ?_
          refine y_bi rfl rfl (by decide) ?_
          refine y_ld (x := iv (c : Int)) rfl rfl (fun d => rfl) ?_
          refine y_mul (z := (84 * (c : Int))) rfl rfl rfl ?_
          refine y_add (z := (200 + (84 * (c : Int)))) rfl rfl rfl ?_
          refine y_ic rfl rfl ?_
          refine y_ld (x := iv (i : Int)) rfl rfl (fun d => rfl) ?_
          refine y_mul (z := (4 * (i : Int))) rfl rfl rfl ?_
          refine y_add (z := ((200 + (84 * (c : Int))) + (4 * (i : Int)))) rfl rfl rfl ?_
          refine y_ld (x := iv 0) rfl rfl (fun d => rfl) ?_
          refine y_add (z := (((200 + (84 * (c : Int))) + (4 * (i : Int))) + 0)) rfl rfl rfl ?_
          refine y_ild (x := ((v_ur V 171 (z_ldR x.toNat y q i (V 171))) 171 (200 + 84 * c + 4 * i + 0))) (q := (200 + 84 * c + 4 * i + 0)) rfl rfl (md171 hM) (by omega) (by decide) (by omega) rfl ?_
          refine y_ist (q := (200 + 84 * y.toNat + 4 * i + 0)) rfl rfl (md171 hM) (by omega) (by decide) (by omega) ?_
          refine y_ld (x := .ref 170) rfl rfl (fun d => rfl) ?_
          refine y_gR (i := 1) rfl rfl rfl (md170 hM) rfl ?_
          refine y_si rfl rfl (by decide) ?_
          refine y_bi rfl rfl (by decide) ?_
          refine y_ld (x := iv (c : Int)) rfl rfl (fun d => rfl) ?_
          refine y_mul (z := (84 * (c : Int))) rfl rfl rfl ?_
          refine y_add (z := (200 + (84 * (c : Int)))) rfl rfl rfl ?_
          refine y_ic rfl rfl ?_
          refine y_ld (x := iv (i : Int)) rfl rfl (fun d => rfl) ?_
          refine y_mul (z := (4 * (i : Int))) rfl rfl rfl ?_
          refine y_add (z := ((200 + (84 * (c : Int))) + (4 * (i : Int)))) rfl rfl rfl ?_
          refine y_ld (x := iv 0) rfl rfl (fun d => rfl) ?_
          refine y_add (z := (((200 + (84 * (c : Int))) + (4 * (i : Int))) + 0)) rfl rfl rfl ?_
          refine y_ic rfl rfl ?_
          refine y_ist (q := (200 + 84 * c + 4 * i + 0)) rfl rfl (md171 hM) (by omega) (by decide) (by omega) ?_
          refine y_inc (z := 1) (lv' := [(6, iv 1), (5, iv (c : Int)), (0, .ref 170), (1, iv x), (2, iv y), (3, iv q), (4, iv (i : Int))]) rfl rfl rfl rfl rfl ?_
          refine y_go rfl rfl ?_
          refine y_ld (x := iv 1) rfl rfl (fun d => rfl) ?_
          refine y_ic rfl rfl ?_
          refine y_jge rfl rfl rfl (by decide) (fun g5 => absurd g5 (by decide)) (fun g5 => ?_)
          refine y_ld (x := .ref 170) rfl rfl (fun d => rfl) ?_
          refine y_gR (i := 1) rfl rfl rfl (md170 hM) rfl ?_
          refine y_si rfl rfl (by decide) ?_
          refine y_bi rfl rfl (by decide) ?_
          refine y_ld (x := iv y) rfl rfl (fun d => rfl) ?_
          refine y_mul (z := (84 * y)) rfl rfl rfl ?_
          refine y_add (z := (200 + (84 * y))) rfl rfl rfl ?_
          refine y_ic rfl rfl ?_
          refine y_ld (x := iv (i : Int)) rfl rfl (fun d => rfl) ?_
          refine y_mul (z := (4 * (i : Int))) rfl rfl rfl ?_
          refine y_add (z := ((200 + (84 * y)) + (4 * (i : Int)))) rfl rfl rfl ?_
          refine y_ld (x := iv 1) rfl rfl (fun d => rfl) ?_
          refine y_add (z := (((200 + (84 * y)) + (4 * (i : Int))) + 1)) rfl rfl rfl ?_
          refine y_ld (x := .ref 170) rfl rfl (fun d => rfl) ?_
          refine y_gR (i := 1) rfl rfl rfl (md170 hM) rfl ?_
          refine y_si rfl rfl (by decide) ?_
          refine y_bi rfl rfl (by decide) ?_
          refine y_ld (x := iv (c : Int)) rfl rfl (fun d => rfl) ?_
          refine y_mul (z := (84 * (c : Int))) rfl rfl rfl ?_
          refine y_add (z := (200 + (84 * (c : Int)))) rfl rfl rfl ?_
          refine y_ic rfl rfl ?_
          refine y_ld (x := iv (i : Int)) rfl rfl (fun d => rfl) ?_
          refine y_mul (z := (4 * (i : Int))) rfl rfl rfl ?_
          refine y_add (z := ((200 + (84 * (c : Int))) + (4 * (i : Int)))) rfl rfl rfl ?_
          refine y_ld (x := iv 1) rfl rfl (fun d => rfl) ?_
          refine y_add (z := (((200 + (84 * (c : Int))) + (4 * (i : Int))) + 1)) rfl rfl rfl ?_
          refine y_ild (x := ((v_ur V 171 (z_ldR x.toNat y q i (V 171))) 171 (200 + 84 * c + 4 * i + 1))) (q := (200 + 84 * c + 4 * i + 1)) rfl rfl (md171 hM) (by omega) (by decide) (by omega) (by rw [v_up_ni (by omega), v_up_ni (by omega)]) ?_
          refine y_ist (q := (200 + 84 * y.toNat + 4 * i + 1)) rfl rfl (md171 hM) (by omega) (by decide) (by omega) ?_
          refine y_ld (x := .ref 170) rfl rfl (fun d => rfl) ?_
          refine y_gR (i := 1) rfl rfl rfl (md170 hM) rfl ?_
          refine y_si rfl rfl (by decide) ?_
          refine y_bi rfl rfl (by decide) ?_
          refine y_ld (x := iv (c : Int)) rfl rfl (fun d => rfl) ?_
          refine y_mul (z := (84 * (c : Int))) rfl rfl rfl ?_
          refine y_add (z := (200 + (84 * (c : Int)))) rfl rfl rfl ?_
          refine y_ic rfl rfl ?_
          refine y_ld (x := iv (i : Int)) rfl rfl (fun d => rfl) ?_
          refine y_mul (z := (4 * (i : Int))) rfl rfl rfl ?_
          refine y_add (z := ((200 + (84 * (c : Int))) + (4 * (i : Int)))) rfl rfl rfl ?_
          refine y_ld (x := iv 1) rfl rfl (fun d => rfl) ?_
          refine y_add (z := (((200 + (84 * (c : Int))) + (4 * (i : Int))) + 1)) rfl rfl rfl ?_
          refine y_ic rfl rfl ?_
          refine y_ist (q := (200 + 84 * c + 4 * i + 1)) rfl rfl (md171 hM) (by omega) (by decide) (by omega) ?_
          refine y_inc (z := 2) (lv' := [(6, iv 2), (5, iv (c : Int)), (0, .ref 170), (1, iv x), (2, iv y), (3, iv q), (4, iv (i : Int))]) rfl rfl rfl rfl rfl ?_
          refine y_go rfl rfl ?_
          refine y_ld (x := iv 2) rfl rfl (fun d => rfl) ?_
          refine y_ic rfl rfl ?_
          refine y_jge rfl rfl rfl (by decide) (fun g6 => absurd g6 (by decide)) (fun g6 => ?_)
          refine y_ld (x := .ref 170) rfl rfl (fun d => rfl) ?_
          refine y_gR (i := 1) rfl rfl rfl (md170 hM) rfl ?_
          refine y_si rfl rfl (by decide) ?_
          refine y_bi rfl rfl (by decide) ?_
          refine y_ld (x := iv y) rfl rfl (fun d => rfl) ?_
          refine y_mul (z := (84 * y)) rfl rfl rfl ?_
          refine y_add (z := (200 + (84 * y))) rfl rfl rfl ?_
          refine y_ic rfl rfl ?_
          refine y_ld (x := iv (i : Int)) rfl rfl (fun d => rfl) ?_
          refine y_mul (z := (4 * (i : Int))) rfl rfl rfl ?_
          refine y_add (z := ((200 + (84 * y)) + (4 * (i : Int)))) rfl rfl rfl ?_
          refine y_ld (x := iv 2) rfl rfl (fun d => rfl) ?_
          refine y_add (z := (((200 + (84 * y)) + (4 * (i : Int))) + 2)) rfl rfl rfl ?_
          refine y_ld (x := .ref 170) rfl rfl (fun d => rfl) ?_
          refine y_gR (i := 1) rfl rfl rfl (md170 hM) rfl ?_
          refine y_si rfl rfl (by decide) ?_
          refine y_bi rfl rfl (by decide) ?_
          refine y_ld (x := iv (c : Int)) rfl rfl (fun d => rfl) ?_
          refine y_mul (z := (84 * (c : Int))) rfl rfl rfl ?_
          refine y_add (z := (200 + (84 * (c : Int)))) rfl rfl rfl ?_
          refine y_ic rfl rfl ?_
          refine y_ld (x := iv (i : Int)) rfl rfl (fun d => rfl) ?_
          refine y_mul (z := (4 * (i : Int))) rfl rfl rfl ?_
          refine y_add (z := ((200 + (84 * (c : Int))) + (4 * (i : Int)))) rfl rfl rfl ?_
          refine y_ld (x := iv 2) rfl rfl (fun d => rfl) ?_
          refine y_add (z := (((200 + (84 * (c : Int))) + (4 * (i : Int))) + 2)) rfl rfl rfl ?_
          refine y_ild (x := ((v_ur V 171 (z_ldR x.toNat y q i (V 171))) 171 (200 + 84 * c + 4 * i + 2))) (q := (200 + 84 * c + 4 * i + 2)) rfl rfl (md171 hM) (by omega) (by decide) (by omega) (by rw [v_up_ni (by omega), v_up_ni (by omega), v_up_ni (by omega), v_up_ni (by omega)]) ?_
          refine y_ist (q := (200 + 84 * y.toNat + 4 * i + 2)) rfl rfl (md171 hM) (by omega) (by decide) (by omega) ?_
          refine y_ld (x := .ref 170) rfl rfl (fun d => rfl) ?_
          refine y_gR (i := 1) rfl rfl rfl (md170 hM) rfl ?_
          refine y_si rfl rfl (by decide) ?_
          refine y_bi rfl rfl (by decide) ?_
          refine y_ld (x := iv (c : Int)) rfl rfl (fun d => rfl) ?_
          refine y_mul (z := (84 * (c : Int))) rfl rfl rfl ?_
          refine y_add (z := (200 + (84 * (c : Int)))) rfl rfl rfl ?_
          refine y_ic rfl rfl ?_
          refine y_ld (x := iv (i : Int)) rfl rfl (fun d => rfl) ?_
          refine y_mul (z := (4 * (i : Int))) rfl rfl rfl ?_
          refine y_add (z := ((200 + (84 * (c : Int))) + (4 * (i : Int)))) rfl rfl rfl ?_
          refine y_ld (x := iv 2) rfl rfl (fun d => rfl) ?_
          refine y_add (z := (((200 + (84 * (c : Int))) + (4 * (i : Int))) + 2)) rfl rfl rfl ?_
          refine y_ic rfl rfl ?_
          refine y_ist (q := (200 + 84 * c + 4 * i + 2)) rfl rfl (md171 hM) (by omega) (by decide) (by omega) ?_
          refine y_inc (z := 3) (lv' := [(6, iv 3), (5, iv (c : Int)), (0, .ref 170), (1, iv x), (2, iv y), (3, iv q), (4, iv (i : Int))]) rfl rfl rfl rfl rfl ?_
          refine y_go rfl rfl ?_
          refine y_ld (x := iv 3) rfl rfl (fun d => rfl) ?_
          refine y_ic rfl rfl ?_
          refine y_jge rfl rfl rfl (by decide) (fun g7 => absurd g7 (by decide)) (fun g7 => ?_)
          refine y_ld (x := .ref 170) rfl rfl (fun d => rfl) ?_
          refine y_gR (i := 1) rfl rfl rfl (md170 hM) rfl ?_
          refine y_si rfl rfl (by decide) ?_
          refine y_bi rfl rfl (by decide) ?_
          refine y_ld (x := iv y) rfl rfl (fun d => rfl) ?_
          refine y_mul (z := (84 * y)) rfl rfl rfl ?_
          refine y_add (z := (200 + (84 * y))) rfl rfl rfl ?_
          refine y_ic rfl rfl ?_
          refine y_ld (x := iv (i : Int)) rfl rfl (fun d => rfl) ?_
          refine y_mul (z := (4 * (i : Int))) rfl rfl rfl ?_
          refine y_add (z := ((200 + (84 * y)) + (4 * (i : Int)))) rfl rfl rfl ?_
          refine y_ld (x := iv 3) rfl rfl (fun d => rfl) ?_
          refine y_add (z := (((200 + (84 * y)) + (4 * (i : Int))) + 3)) rfl rfl rfl ?_
          refine y_ld (x := .ref 170) rfl rfl (fun d => rfl) ?_
          refine y_gR (i := 1) rfl rfl rfl (md170 hM) rfl ?_
          refine y_si rfl rfl (by decide) ?_
          refine y_bi rfl rfl (by decide) ?_
          refine y_ld (x := iv (c : Int)) rfl rfl (fun d => rfl) ?_
          refine y_mul (z := (84 * (c : Int))) rfl rfl rfl ?_
          refine y_add (z := (200 + (84 * (c : Int)))) rfl rfl rfl ?_
          refine y_ic rfl rfl ?_
          refine y_ld (x := iv (i : Int)) rfl rfl (fun d => rfl) ?_
          refine y_mul (z := (4 * (i : Int))) rfl rfl rfl ?_
          refine y_add (z := ((200 + (84 * (c : Int))) + (4 * (i : Int)))) rfl rfl rfl ?_
          refine y_ld (x := iv 3) rfl rfl (fun d => rfl) ?_
          refine y_add (z := (((200 + (84 * (c : Int))) + (4 * (i : Int))) + 3)) rfl rfl rfl ?_
          refine y_ild (x := ((v_ur V 171 (z_ldR x.toNat y q i (V 171))) 171 (200 + 84 * c + 4 * i + 3))) (q := (200 + 84 * c + 4 * i + 3)) rfl rfl (md171 hM) (by omega) (by decide) (by omega) (by rw [v_up_ni (by omega), v_up_ni (by omega), v_up_ni (by omega), v_up_ni (by omega), v_up_ni (by omega), v_up_ni (by omega)]) ?_
          refine y_ist (q := (200 + 84 * y.toNat + 4 * i + 3)) rfl rfl (md171 hM) (by omega) (by decide) (by omega) ?_
          refine y_ld (x := .ref 170) rfl rfl (fun d => rfl) ?_
          refine y_gR (i := 1) rfl rfl rfl (md170 hM) rfl ?_
          refine y_si rfl rfl (by decide) ?_
          refine y_bi rfl rfl (by decide) ?_
          refine y_ld (x := iv (c : Int)) rfl rfl (fun d => rfl) ?_
          refine y_mul (z := (84 * (c : Int))) rfl rfl rfl ?_
          refine y_add (z := (200 + (84 * (c : Int)))) rfl rfl rfl ?_
          refine y_ic rfl rfl ?_
          refine y_ld (x := iv (i : Int)) rfl rfl (fun d => rfl) ?_
          refine y_mul (z := (4 * (i : Int))) rfl rfl rfl ?_
          refine y_add (z := ((200 + (84 * (c : Int))) + (4 * (i : Int)))) rfl rfl rfl ?_
          refine y_ld (x := iv 3) rfl rfl (fun d => rfl) ?_
          refine y_add (z := (((200 + (84 * (c : Int))) + (4 * (i : Int))) + 3)) rfl rfl rfl ?_
          refine y_ic rfl rfl ?_
          refine y_ist (q := (200 + 84 * c + 4 * i + 3)) rfl rfl (md171 hM) (by omega) (by decide) (by omega) ?_
          refine y_inc (z := 4) (lv' := [(6, iv 4), (5, iv (c : Int)), (0, .ref 170), (1, iv x), (2, iv y), (3, iv q), (4, iv (i : Int))]) rfl rfl rfl rfl rfl ?_
          refine y_go rfl rfl ?_
          refine y_ld (x := iv 4) rfl rfl (fun d => rfl) ?_
          refine y_ic rfl rfl ?_
          refine y_jge rfl rfl rfl (by decide) (fun g8 => ?_) (fun g8 => absurd g8 (by decide))
          refine y_ld (x := .ref 170) rfl rfl (fun d => rfl) ?_
          refine y_gR (i := 1) rfl rfl rfl (md170 hM) rfl ?_
          refine y_si rfl rfl (by decide) ?_
          refine y_bi rfl rfl (by decide) ?_
          refine y_ld (x := iv x) rfl rfl (fun d => rfl) ?_
          refine y_mul (z := (16 * x)) rfl rfl rfl ?_
          refine y_add (z := (1552 + (16 * x))) rfl rfl rfl ?_
          refine y_ld (x := iv (i : Int)) rfl rfl (fun d => rfl) ?_
          refine y_add (z := ((1552 + (16 * x)) + (i : Int))) rfl rfl rfl ?_
          refine y_ld (x := iv y) rfl rfl (fun d => rfl) ?_
          refine y_ist (q := (1552 + 16 * x.toNat + i)) rfl rfl (md171 hM) (by omega) (by decide) (by omega) ?_
          refine y_inc (z := ((i + 1 : Nat) : Int)) (lv' := [(4, iv ((i + 1 : Nat) : Int)), (6, iv 4), (5, iv (c : Int)), (0, .ref 170), (1, iv x), (2, iv y), (3, iv q)]) rfl rfl rfl (by omega) rfl ?_
          refine y_go rfl rfl ?_
          refine y_lv (l' := [(0, .ref 170), (1, iv x), (2, iv y), (3, iv q), (4, iv ((i + 1 : Nat) : Int))]) rfl ⟨rfl, rfl, rfl, rfl, rfl, trivial⟩ ?_
          refine y_V (V' := v_ur V 171 (z_ldR x.toNat y q (i + 1) (V 171))) ?_ ?_
          · rw [z_ldR_1 (c := c) (by omega) hc (by omega)]
            unfold z_mv
            simp only [v_ur_eq, v_up_r]
          exact y_mono (ih (i + 1) (by omega) (by omega) hx2) (by omega)
end
