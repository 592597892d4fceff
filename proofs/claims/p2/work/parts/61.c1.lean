/-! THE CLASS: copies of MEMORIES, BOXES, states -/
/-- a MEMORY at m with its cells at c -/
def MeS (S : m_H) (m c : Nat) : Prop := ce S m 1 [.ref c] ∧ v_ia S c 20 84
/-- a BOX at a -/
def BxS (S : m_H) (a : Nat) : Prop := ce S a 0 [.int 0, .int 0, .int 0, .int 0, .int 0, .ref (a + 1), .ref (a + 2), .ref (a + 4)] ∧ v_ia S (a + 1) 20 16 ∧ MeS S (a + 2) (a + 3) ∧ MeS S (a + 4) (a + 5)
theorem bx_cl {S : m_H} (hC : ClF S) {B b : Nat} (hB : B = 1 ∨ B = 58) (hb : b < 8) : BxS S (B + 9 + 6 * b) := by
  have h8 : b = 0 ∨ b = 1 ∨ b = 2 ∨ b = 3 ∨ b = 4 ∨ b = 5 ∨ b = 6 ∨ b = 7 := by omega
  rcases hB with rfl | rfl <;> rcases h8 with rfl | rfl | rfl | rfl | rfl | rfl | rfl | rfl
  · exact ⟨hC 10 _ _ rfl, cl_ia hC (k := 11) rfl, ⟨hC 12 _ _ rfl, cl_ia hC (k := 13) rfl⟩, hC 14 _ _ rfl, cl_ia hC (k := 15) rfl⟩
  · exact ⟨hC 16 _ _ rfl, cl_ia hC (k := 17) rfl, ⟨hC 18 _ _ rfl, cl_ia hC (k := 19) rfl⟩, hC 20 _ _ rfl, cl_ia hC (k := 21) rfl⟩
  · exact ⟨hC 22 _ _ rfl, cl_ia hC (k := 23) rfl, ⟨hC 24 _ _ rfl, cl_ia hC (k := 25) rfl⟩, hC 26 _ _ rfl, cl_ia hC (k := 27) rfl⟩
  · exact ⟨hC 28 _ _ rfl, cl_ia hC (k := 29) rfl, ⟨hC 30 _ _ rfl, cl_ia hC (k := 31) rfl⟩, hC 32 _ _ rfl, cl_ia hC (k := 33) rfl⟩
  · exact ⟨hC 34 _ _ rfl, cl_ia hC (k := 35) rfl, ⟨hC 36 _ _ rfl, cl_ia hC (k := 37) rfl⟩, hC 38 _ _ rfl, cl_ia hC (k := 39) rfl⟩
  · exact ⟨hC 40 _ _ rfl, cl_ia hC (k := 41) rfl, ⟨hC 42 _ _ rfl, cl_ia hC (k := 43) rfl⟩, hC 44 _ _ rfl, cl_ia hC (k := 45) rfl⟩
  · exact ⟨hC 46 _ _ rfl, cl_ia hC (k := 47) rfl, ⟨hC 48 _ _ rfl, cl_ia hC (k := 49) rfl⟩, hC 50 _ _ rfl, cl_ia hC (k := 51) rfl⟩
  · exact ⟨hC 52 _ _ rfl, cl_ia hC (k := 53) rfl, ⟨hC 54 _ _ rfl, cl_ia hC (k := 55) rfl⟩, hC 56 _ _ rfl, cl_ia hC (k := 57) rfl⟩
  · exact ⟨hC 67 _ _ rfl, cl_ia hC (k := 68) rfl, ⟨hC 69 _ _ rfl, cl_ia hC (k := 70) rfl⟩, hC 71 _ _ rfl, cl_ia hC (k := 72) rfl⟩
  · exact ⟨hC 73 _ _ rfl, cl_ia hC (k := 74) rfl, ⟨hC 75 _ _ rfl, cl_ia hC (k := 76) rfl⟩, hC 77 _ _ rfl, cl_ia hC (k := 78) rfl⟩
  · exact ⟨hC 79 _ _ rfl, cl_ia hC (k := 80) rfl, ⟨hC 81 _ _ rfl, cl_ia hC (k := 82) rfl⟩, hC 83 _ _ rfl, cl_ia hC (k := 84) rfl⟩
  · exact ⟨hC 85 _ _ rfl, cl_ia hC (k := 86) rfl, ⟨hC 87 _ _ rfl, cl_ia hC (k := 88) rfl⟩, hC 89 _ _ rfl, cl_ia hC (k := 90) rfl⟩
  · exact ⟨hC 91 _ _ rfl, cl_ia hC (k := 92) rfl, ⟨hC 93 _ _ rfl, cl_ia hC (k := 94) rfl⟩, hC 95 _ _ rfl, cl_ia hC (k := 96) rfl⟩
  · exact ⟨hC 97 _ _ rfl, cl_ia hC (k := 98) rfl, ⟨hC 99 _ _ rfl, cl_ia hC (k := 100) rfl⟩, hC 101 _ _ rfl, cl_ia hC (k := 102) rfl⟩
  · exact ⟨hC 103 _ _ rfl, cl_ia hC (k := 104) rfl, ⟨hC 105 _ _ rfl, cl_ia hC (k := 106) rfl⟩, hC 107 _ _ rfl, cl_ia hC (k := 108) rfl⟩
  · exact ⟨hC 109 _ _ rfl, cl_ia hC (k := 110) rfl, ⟨hC 111 _ _ rfl, cl_ia hC (k := 112) rfl⟩, hC 113 _ _ rfl, cl_ia hC (k := 114) rfl⟩
section
variable {X : Nat → List Int32} {u w : Nat} {S : m_H} {V : v_V} {K : v_K}
set_option maxRecDepth 100000 in
set_option maxHeartbeats 4000000 in
theorem cc_mbec {m c o d : Nat} (hm : MeS S m c) (ho : MeS S o d) (k : K u w none S (v_ur V c (V d))) : y_R X 1 8 u w [.ref m, .ref o] S V K := by
  refine y_ent (lv' := [(0, .ref m), (1, .ref o)]) (Nat.le_of_ble_eq_true rfl) rfl ?_
  refine y_ld (x := .ref o) rfl rfl (fun d => rfl) ?_
  refine y_gR (i := 0) rfl rfl rfl ho.1 rfl ?_
  refine y_ic rfl rfl ?_
  refine y_ld (x := .ref m) rfl rfl (fun d => rfl) ?_
  refine y_gR (i := 0) rfl rfl rfl hm.1 rfl ?_
  refine y_ic rfl rfl ?_
  refine y_bi rfl rfl (by decide) ?_
  refine y_acF rfl rfl rfl ho.2 hm.2 rfl (by decide) (Nat.le_of_ble_eq_true rfl) ?_
  refine y_ret rfl (fun d => rfl) ?_
  exact k
theorem bx_int {a i : Nat} {x : Int32} (h : m_nth ([.int 0, .int 0, .int 0, .int 0, .int 0, .ref (a + 1), .ref (a + 2), .ref (a + 4)] : List Value) i = some (.int x)) : i < 5 := by
  match i with
  | 0 => decide
  | 1 => decide
  | 2 => decide
  | 3 => decide
  | 4 => decide
  | 5 => cases h
  | 6 => cases h
  | 7 => cases h
  | n + 8 => cases h
set_option maxRecDepth 100000 in
set_option maxHeartbeats 4000000 in
theorem cc_bbec {a b : Nat} (ha : BxS S a) (hb : BxS S b) (hab : a + 6 ≤ b ∨ b + 6 ≤ a) (k : K u w none S (v_ur (v_ur (v_ur (v_ur V a (V b)) (a + 1) (V (b + 1))) (a + 3) (V (b + 3))) (a + 5) (V (b + 5)))) : y_R X 2 2 u w [.ref a, .ref b] S V K := by
  refine y_ent (lv' := [(0, .ref a), (1, .ref b)]) (Nat.le_of_ble_eq_true rfl) rfl ?_
  refine y_ld (x := .ref a) rfl rfl (fun d => rfl) ?_
  refine y_ld (x := .ref b) rfl rfl (fun d => rfl) ?_
  refine y_gI (i := 0) (e := (V b 0)) rfl rfl rfl hb.1 rfl rfl ?_
  refine y_pI (i := 0) rfl rfl rfl ha.1 rfl rfl ?_
  refine y_ld (x := .ref a) rfl rfl (fun d => rfl) ?_
  refine y_ld (x := .ref b) rfl rfl (fun d => rfl) ?_
  refine y_gI (i := 1) (e := (V b 1)) rfl rfl rfl hb.1 rfl (by rw [v_up_ne (by omega)]) ?_
  refine y_pI (i := 1) rfl rfl rfl ha.1 rfl rfl ?_
  refine y_ld (x := .ref a) rfl rfl (fun d => rfl) ?_
  refine y_ld (x := .ref b) rfl rfl (fun d => rfl) ?_
  refine y_gI (i := 2) (e := (V b 2)) rfl rfl rfl hb.1 rfl (by rw [v_up_ne (by omega), v_up_ne (by omega)]) ?_
  refine y_pI (i := 2) rfl rfl rfl ha.1 rfl rfl ?_
  refine y_ld (x := .ref a) rfl rfl (fun d => rfl) ?_
  refine y_ld (x := .ref b) rfl rfl (fun d => rfl) ?_
  refine y_gI (i := 3) (e := (V b 3)) rfl rfl rfl hb.1 rfl (by rw [v_up_ne (by omega), v_up_ne (by omega), v_up_ne (by omega)]) ?_
  refine y_pI (i := 3) rfl rfl rfl ha.1 rfl rfl ?_
  refine y_ld (x := .ref a) rfl rfl (fun d => rfl) ?_
  refine y_ld (x := .ref b) rfl rfl (fun d => rfl) ?_
  refine y_gI (i := 4) (e := (V b 4)) rfl rfl rfl hb.1 rfl (by rw [v_up_ne (by omega), v_up_ne (by omega), v_up_ne (by omega), v_up_ne (by omega)]) ?_
  refine y_pI (i := 4) rfl rfl rfl ha.1 rfl rfl ?_
  refine y_V (V' := v_ur V a (v_uf (v_uf (v_uf (v_uf (v_uf (V a) 0 (V b 0)) 1 (V b 1)) 2 (V b 2)) 3 (V b 3)) 4 (V b 4))) (by simp only [v_up_ur, v_ur_ur, v_ur_eq]) ?_
  refine y_row (g := V b) ha.1 (fun i x hx => ?_) ?_
  · have h5 : i < 5 := bx_int hx
    have h6 : i = 0 ∨ i = 1 ∨ i = 2 ∨ i = 3 ∨ i = 4 := by omega
    rcases h6 with rfl | rfl | rfl | rfl | rfl <;> rfl
  refine y_ld (x := .ref b) rfl rfl (fun d => rfl) ?_
  refine y_gR (i := 5) rfl rfl rfl hb.1 rfl ?_
  refine y_ic rfl rfl ?_
  refine y_ld (x := .ref a) rfl rfl (fun d => rfl) ?_
  refine y_gR (i := 5) rfl rfl rfl ha.1 rfl ?_
  refine y_ic rfl rfl ?_
  refine y_bi rfl rfl (by decide) ?_
  refine y_acF rfl rfl rfl hb.2.1 ha.2.1 rfl (by decide) (Nat.le_of_ble_eq_true rfl) ?_
  refine y_ld (x := .ref a) rfl rfl (fun d => rfl) ?_
  refine y_gR (i := 6) rfl rfl rfl ha.1 rfl ?_
  refine y_ld (x := .ref b) rfl rfl (fun d => rfl) ?_
  refine y_gR (i := 6) rfl rfl rfl hb.1 rfl ?_
  refine y_cV (as := [.ref (a + 2), .ref (b + 2)]) rfl rfl rfl rfl rfl ha.2.2.1.1 ⟨rfl, (Nat.le_of_ble_eq_true rfl), (Nat.le_of_ble_eq_true rfl)⟩ (by decide) (cc_mbec ha.2.2.1 hb.2.2.1 ?_)
  refine y_n0 ?_
  refine y_ld (x := .ref a) rfl rfl (fun d => rfl) ?_
  refine y_gR (i := 7) rfl rfl rfl ha.1 rfl ?_
  refine y_ld (x := .ref b) rfl rfl (fun d => rfl) ?_
  refine y_gR (i := 7) rfl rfl rfl hb.1 rfl ?_
  refine y_cV (as := [.ref (a + 4), .ref (b + 4)]) rfl rfl rfl rfl rfl ha.2.2.2.1 ⟨rfl, (Nat.le_of_ble_eq_true rfl), (Nat.le_of_ble_eq_true rfl)⟩ (by decide) (cc_mbec ha.2.2.2 hb.2.2.2 ?_)
  refine y_n0 ?_
  refine y_V (V' := v_ur (v_ur (v_ur (v_ur V a (V b)) (a + 1) (V (b + 1))) (a + 3) (V (b + 3))) (a + 5) (V (b + 5))) (by simp only [v_ur_ne (show b + 1 ≠ a by omega), v_ur_ne (show b + 3 ≠ a by omega), v_ur_ne (show b + 5 ≠ a by omega), v_ur_ne (show b + 3 ≠ a + 1 by omega), v_ur_ne (show b + 5 ≠ a + 1 by omega), v_ur_ne (show b + 5 ≠ a + 3 by omega)]) ?_
  refine y_ret rfl (fun d => rfl) ?_
  exact k
end
