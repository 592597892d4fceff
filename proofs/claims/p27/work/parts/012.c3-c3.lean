theorem asg_ne {S : m_H} {k t t' : Nat} {vs : List Value} {c : Nat × List Value} {v : Value} (hk : ce S k t vs) (ht : (22 ≤ t ∧ t ≤ 26) ∧ 22 ≤ t' ∧ t' ≤ 26) (h : v_asg S t' v) : v_asg (S.set k c) t' v := by
  rcases h with h | ⟨x, ws, h1, h2⟩
  · exact Or.inl h
  · refine Or.inr ⟨x, ws, h1, ce_ne h2 (fun e => ?_)⟩
    subst e
    have := hk.2.symm.trans h2.2
    simp only [Option.some.injEq, Prod.mk.injEq] at this
    have h3 : t' = 22 ∨ t' = 23 ∨ t' = 24 ∨ t' = 25 ∨ t' = 26 := by omega
    have h4 : m_cmp t' < 20 := by rcases h3 with rfl | rfl | rfl | rfl | rfl <;> decide
    omega
theorem v_ur_apply (V : v_V) (k : Nat) (f : Nat → Int) (q : Nat) : v_ur V k f q = if q = k then f else V q := rfl
theorem st_int {i : Nat} {x : Int32} {a b c d e f g : Nat} (h : m_nth ([.ref a, .int 0, .ref b, .int 0, .ref c, .int 0, .ref d, .int 0, .ref e, .int 0, .int 0, .ref f, .int 0, .ref g] : List Value) i = some (.int x)) : i = 1 ∨ i = 3 ∨ i = 5 ∨ i = 7 ∨ i = 9 ∨ i = 10 ∨ i = 12 := by
  match i with
  | 0 => cases h
  | 1 => decide
  | 2 => cases h
  | 3 => decide
  | 4 => cases h
  | 5 => decide
  | 6 => cases h
  | 7 => decide
  | 8 => cases h
  | 9 => decide
  | 10 => decide
  | 11 => cases h
  | 12 => decide
  | 13 => cases h
  | n + 14 => cases h
section
variable {X : Nat → List Int32} {u w : Nat} {S : m_H} {V : v_V} {K : v_K}
set_option maxRecDepth 100000 in
set_option maxHeartbeats 4000000 in
theorem cc_tbec1 (hC : ClF S) (k : K u w none S (v_up (v_ur V 9 (V 66)) 8 1 (V 65 1))) : y_R X 1 60 u w [.ref 8, .ref 65] S V K := by
  refine y_ent (lv' := [(0, .ref 8), (1, .ref 65)]) (Nat.le_of_ble_eq_true rfl) rfl ?_
  refine y_ld (x := .ref 65) rfl rfl (fun d => rfl) ?_
  refine y_gR (i := 0) rfl rfl rfl (hC 65 _ _ rfl) rfl ?_
  refine y_ic rfl rfl ?_
  refine y_ld (x := .ref 8) rfl rfl (fun d => rfl) ?_
  refine y_gR (i := 0) rfl rfl rfl (hC 8 _ _ rfl) rfl ?_
  refine y_ic rfl rfl ?_
  refine y_bi rfl rfl (by decide) ?_
  refine y_acF rfl rfl rfl (cl_ia hC (k := 66) (N := 20) rfl) (cl_ia hC (k := 9) (N := 20) rfl) rfl (by decide) (Nat.le_of_ble_eq_true rfl) ?_
  refine y_ld (x := .ref 8) rfl rfl (fun d => rfl) ?_
  refine y_ld (x := .ref 65) rfl rfl (fun d => rfl) ?_
  refine y_gI (i := 1) (e := (V 65 1)) rfl rfl rfl (hC 65 _ _ rfl) rfl rfl ?_
  refine y_pI (i := 1) rfl rfl rfl (hC 8 _ _ rfl) rfl rfl ?_
  refine y_ret rfl (fun d => rfl) ?_
  exact k
set_option maxRecDepth 100000 in
set_option maxHeartbeats 4000000 in
theorem cc_tbec58 (hC : ClF S) (k : K u w none S (v_up (v_ur V 66 (V 9)) 65 1 (V 8 1))) : y_R X 1 60 u w [.ref 65, .ref 8] S V K := by
  refine y_ent (lv' := [(0, .ref 65), (1, .ref 8)]) (Nat.le_of_ble_eq_true rfl) rfl ?_
  refine y_ld (x := .ref 8) rfl rfl (fun d => rfl) ?_
  refine y_gR (i := 0) rfl rfl rfl (hC 8 _ _ rfl) rfl ?_
  refine y_ic rfl rfl ?_
  refine y_ld (x := .ref 65) rfl rfl (fun d => rfl) ?_
  refine y_gR (i := 0) rfl rfl rfl (hC 65 _ _ rfl) rfl ?_
  refine y_ic rfl rfl ?_
  refine y_bi rfl rfl (by decide) ?_
  refine y_acF rfl rfl rfl (cl_ia hC (k := 9) (N := 20) rfl) (cl_ia hC (k := 66) (N := 20) rfl) rfl (by decide) (Nat.le_of_ble_eq_true rfl) ?_
  refine y_ld (x := .ref 65) rfl rfl (fun d => rfl) ?_
  refine y_ld (x := .ref 8) rfl rfl (fun d => rfl) ?_
  refine y_gI (i := 1) (e := (V 8 1)) rfl rfl rfl (hC 8 _ _ rfl) rfl rfl ?_
  refine y_pI (i := 1) rfl rfl rfl (hC 65 _ _ rfl) rfl rfl ?_
  refine y_ret rfl (fun d => rfl) ?_
  exact k
set_option maxRecDepth 100000 in
set_option maxHeartbeats 4000000 in
theorem cc_sbec1 (hC : ClF S) {ta tb wa wb la lb : List Value} (hta : ce S 60 22 ta) (htb : ce S 3 22 tb) (hwa : ce S 63 24 wa) (hwb : ce S 6 24 wb) (hla : ce S 64 24 la) (hlb : ce S 7 24 lb) (hlta : ta.length = 8) (hltb : tb.length = 8) (hlwa : wa.length = 20) (hlwb : wb.length = 20) (hlla : la.length = 5) (hllb : lb.length = 5) (hvT : ∀ v ∈ ta, v_asg S 22 v) (hvW : ∀ v ∈ wa, v_asg S 24 v) (hvL : ∀ v ∈ la, v_asg S 24 v) (k : ∀ V', CpV 1 58 V V' → K u w none (((S.set 3 (22, ta)).set 6 (24, wa)).set 7 (24, la)) V') : y_R X 3 42 u w [.ref 1, .ref 58] S V K := by
  refine y_ent (lv' := [(0, .ref 1), (1, .ref 58)]) (Nat.le_of_ble_eq_true rfl) rfl ?_
  refine y_ld (x := .ref 58) rfl rfl (fun d => rfl) ?_
  refine y_gR (i := 0) rfl rfl rfl (hC 58 _ _ rfl) rfl ?_
  refine y_ic rfl rfl ?_
  refine y_ld (x := .ref 1) rfl rfl (fun d => rfl) ?_
  refine y_gR (i := 0) rfl rfl rfl (hC 1 _ _ rfl) rfl ?_
  refine y_ic rfl rfl ?_
  refine y_si rfl rfl (by decide) ?_
  refine y_acF rfl rfl rfl (cl_ia hC (k := 59) (N := 160) rfl) (cl_ia hC (k := 2) (N := 160) rfl) rfl (by decide) (Nat.le_of_ble_eq_true rfl) ?_
  refine y_ld (x := .ref 1) rfl rfl (fun d => rfl) ?_
  refine y_ld (x := .ref 58) rfl rfl (fun d => rfl) ?_
  refine y_gI (i := 1) (e := (V 58 1)) rfl rfl rfl (hC 58 _ _ rfl) rfl rfl ?_
  refine y_pI (i := 1) rfl rfl rfl (hC 1 _ _ rfl) rfl rfl ?_
  refine y_ic rfl rfl ?_
  refine y_st (lv' := [(2, iv 0), (0, .ref 1), (1, .ref 58)]) rfl rfl (fun d => rfl) ?_
  refine y_lv (l' := [(0, .ref 1), (1, .ref 58), (2, iv 0)]) rfl ⟨rfl, rfl, rfl, trivial⟩ ?_
  refine y_S (S' := (S).set 3 (22, List.take 0 ta ++ List.drop 0 tb)) ?_ ?_
  · exact (v_set_self htb).symm
  refine y_mono (lp_sbT1 hC hta htb hlta hltb hvT 9 0 (by omega) (by omega) ?_) (Nat.le_of_ble_eq_true rfl : 20 * 9 + 990000 ≤ _)
  have hCT : ClF ((S).set 3 (22, ta)) := cl_set hC (by decide)
  refine y_ld (x := .ref 1) rfl rfl (fun d => rfl) ?_
  refine y_ld (x := .ref 58) rfl rfl (fun d => rfl) ?_
  refine y_gI (i := 3) (e := (V 58 3)) rfl rfl rfl (hCT 58 _ _ rfl) rfl rfl ?_
  refine y_pI (i := 3) rfl rfl rfl (hCT 1 _ _ rfl) rfl rfl ?_
  refine y_ic rfl rfl ?_
  refine y_st (lv' := [(2, iv 0), (0, .ref 1), (1, .ref 58)]) rfl rfl (fun d => rfl) ?_
  refine y_ld (x := iv 0) rfl rfl (fun d => rfl) ?_
  refine y_bi rfl rfl (by decide) ?_
  refine y_jge rfl rfl rfl (by decide) (fun g1 => absurd g1 (by decide)) (fun g1 => ?_)
  refine y_ld (x := .ref 1) rfl rfl (fun d => rfl) ?_
  refine y_gR (i := 4) rfl rfl rfl (hCT 1 _ _ rfl) rfl ?_
  refine y_ld (x := iv 0) rfl rfl (fun d => rfl) ?_
  refine y_rld (i := 0) rfl rfl (hCT 4 _ _ rfl) (by decide) (by decide) rfl rfl ?_
  refine y_ld (x := .ref 58) rfl rfl (fun d => rfl) ?_
  refine y_gR (i := 4) rfl rfl rfl (hCT 58 _ _ rfl) rfl ?_
  refine y_ld (x := iv 0) rfl rfl (fun d => rfl) ?_
  refine y_rld (i := 0) rfl rfl (hCT 61 _ _ rfl) (by decide) (by decide) rfl rfl ?_
  refine y_cV (as := [.ref 10, .ref 67]) rfl rfl rfl rfl rfl (hCT 10 _ _ rfl) ⟨rfl, (Nat.le_of_ble_eq_true rfl), (Nat.le_of_ble_eq_true rfl)⟩ (by decide) (cc_bbec (bx_cl hCT (B := 1) (b := 0) (by decide) (by decide)) (bx_cl hCT (B := 58) (b := 0) (by decide) (by decide)) (by decide) ?_)
  refine y_n0 ?_
  refine y_inc (z := 1) (lv' := [(2, iv 1), (0, .ref 1), (1, .ref 58)]) rfl rfl rfl rfl rfl ?_
  refine y_go rfl rfl ?_
  refine y_ld (x := iv 1) rfl rfl (fun d => rfl) ?_
  refine y_bi rfl rfl (by decide) ?_
  refine y_jge rfl rfl rfl (by decide) (fun g2 => absurd g2 (by decide)) (fun g2 => ?_)
  refine y_ld (x := .ref 1) rfl rfl (fun d => rfl) ?_
  refine y_gR (i := 4) rfl rfl rfl (hCT 1 _ _ rfl) rfl ?_
  refine y_ld (x := iv 1) rfl rfl (fun d => rfl) ?_
  refine y_rld (i := 1) rfl rfl (hCT 4 _ _ rfl) (by decide) (by decide) rfl rfl ?_
  refine y_ld (x := .ref 58) rfl rfl (fun d => rfl) ?_
  refine y_gR (i := 4) rfl rfl rfl (hCT 58 _ _ rfl) rfl ?_
  refine y_ld (x := iv 1) rfl rfl (fun d => rfl) ?_
  refine y_rld (i := 1) rfl rfl (hCT 61 _ _ rfl) (by decide) (by decide) rfl rfl ?_
  refine y_cV (as := [.ref 16, .ref 73]) rfl rfl rfl rfl rfl (hCT 16 _ _ rfl) ⟨rfl, (Nat.le_of_ble_eq_true rfl), (Nat.le_of_ble_eq_true rfl)⟩ (by decide) (cc_bbec (bx_cl hCT (B := 1) (b := 1) (by decide) (by decide)) (bx_cl hCT (B := 58) (b := 1) (by decide) (by decide)) (by decide) ?_)
  refine y_n0 ?_
  refine y_inc (z := 2) (lv' := [(2, iv 2), (0, .ref 1), (1, .ref 58)]) rfl rfl rfl rfl rfl ?_
  refine y_go rfl rfl ?_
  refine y_ld (x := iv 2) rfl rfl (fun d => rfl) ?_
  refine y_bi rfl rfl (by decide) ?_
  refine y_jge rfl rfl rfl (by decide) (fun g3 => absurd g3 (by decide)) (fun g3 => ?_)
  refine y_ld (x := .ref 1) rfl rfl (fun d => rfl) ?_
  refine y_gR (i := 4) rfl rfl rfl (hCT 1 _ _ rfl) rfl ?_
  refine y_ld (x := iv 2) rfl rfl (fun d => rfl) ?_
  refine y_rld (i := 2) rfl rfl (hCT 4 _ _ rfl) (by decide) (by decide) rfl rfl ?_
  refine y_ld (x := .ref 58) rfl rfl (fun d => rfl) ?_
  refine y_gR (i := 4) rfl rfl rfl (hCT 58 _ _ rfl) rfl ?_
  refine y_ld (x := iv 2) rfl rfl (fun d => rfl) ?_
  refine y_rld (i := 2) rfl rfl (hCT 61 _ _ rfl) (by decide) (by decide) rfl rfl ?_
  refine y_cV (as := [.ref 22, .ref 79]) rfl rfl rfl rfl rfl (hCT 22 _ _ rfl) ⟨rfl, (Nat.le_of_ble_eq_true rfl), (Nat.le_of_ble_eq_true rfl)⟩ (by decide) (cc_bbec (bx_cl hCT (B := 1) (b := 2) (by decide) (by decide)) (bx_cl hCT (B := 58) (b := 2) (by decide) (by decide)) (by decide) ?_)
  refine y_n0 ?_
  refine y_inc (z := 3) (lv' := [(2, iv 3), (0, .ref 1), (1, .ref 58)]) rfl rfl rfl rfl rfl ?_
  refine y_go rfl rfl ?_
  refine y_ld (x := iv 3) rfl rfl (fun d => rfl) ?_
  refine y_bi rfl rfl (by decide) ?_
  refine y_jge rfl rfl rfl (by decide) (fun g4 => absurd g4 (by decide)) (fun g4 => ?_)
  refine y_ld (x := .ref 1) rfl rfl (fun d => rfl) ?_
  refine y_gR (i := 4) rfl rfl rfl (hCT 1 _ _ rfl) rfl ?_
  refine y_ld (x := iv 3) rfl rfl (fun d => rfl) ?_
  refine y_rld (i := 3) rfl rfl (hCT 4 _ _ rfl) (by decide) (by decide) rfl rfl ?_
  refine y_ld (x := .ref 58) rfl rfl (fun d => rfl) ?_
  refine y_gR (i := 4) rfl rfl rfl (hCT 58 _ _ rfl) rfl ?_
  refine y_ld (x := iv 3) rfl rfl (fun d => rfl) ?_
  refine y_rld (i := 3) rfl rfl (hCT 61 _ _ rfl) (by decide) (by decide) rfl rfl ?_
  refine y_cV (as := [.ref 28, .ref 85]) rfl rfl rfl rfl rfl (hCT 28 _ _ rfl) ⟨rfl, (Nat.le_of_ble_eq_true rfl), (Nat.le_of_ble_eq_true rfl)⟩ (by decide) (cc_bbec (bx_cl hCT (B := 1) (b := 3) (by decide) (by decide)) (bx_cl hCT (B := 58) (b := 3) (by decide) (by decide)) (by decide) ?_)
  refine y_n0 ?_
  refine y_inc (z := 4) (lv' := [(2, iv 4), (0, .ref 1), (1, .ref 58)]) rfl rfl rfl rfl rfl ?_
  refine y_go rfl rfl ?_
  refine y_ld (x := iv 4) rfl rfl (fun d => rfl) ?_
  refine y_bi rfl rfl (by decide) ?_
  refine y_jge rfl rfl rfl (by decide) (fun g5 => absurd g5 (by decide)) (fun g5 => ?_)
  refine y_ld (x := .ref 1) rfl rfl (fun d => rfl) ?_
  refine y_gR (i := 4) rfl rfl rfl (hCT 1 _ _ rfl) rfl ?_
  refine y_ld (x := iv 4) rfl rfl (fun d => rfl) ?_
  refine y_rld (i := 4) rfl rfl (hCT 4 _ _ rfl) (by decide) (by decide) rfl rfl ?_
  refine y_ld (x := .ref 58) rfl rfl (fun d => rfl) ?_
  refine y_gR (i := 4) rfl rfl rfl (hCT 58 _ _ rfl) rfl ?_
  refine y_ld (x := iv 4) rfl rfl (fun d => rfl) ?_
  refine y_rld (i := 4) rfl rfl (hCT 61 _ _ rfl) (by decide) (by decide) rfl rfl ?_
  refine y_cV (as := [.ref 34, .ref 91]) rfl rfl rfl rfl rfl (hCT 34 _ _ rfl) ⟨rfl, (Nat.le_of_ble_eq_true rfl), (Nat.le_of_ble_eq_true rfl)⟩ (by decide) (cc_bbec (bx_cl hCT (B := 1) (b := 4) (by decide) (by decide)) (bx_cl hCT (B := 58) (b := 4) (by decide) (by decide)) (by decide) ?_)
  refine y_n0 ?_
  refine y_inc (z := 5) (lv' := [(2, iv 5), (0, .ref 1), (1, .ref 58)]) rfl rfl rfl rfl rfl ?_
  refine y_go rfl rfl ?_
  refine y_ld (x := iv 5) rfl rfl (fun d => rfl) ?_
  refine y_bi rfl rfl (by decide) ?_
  refine y_jge rfl rfl rfl (by decide) (fun g6 => absurd g6 (by decide)) (fun g6 => ?_)
  refine y_ld (x := .ref 1) rfl rfl (fun d => rfl) ?_
  refine y_gR (i := 4) rfl rfl rfl (hCT 1 _ _ rfl) rfl ?_
  refine y_ld (x := iv 5) rfl rfl (fun d => rfl) ?_
  refine y_rld (i := 5) rfl rfl (hCT 4 _ _ rfl) (by decide) (by decide) rfl rfl ?_
  refine y_ld (x := .ref 58) rfl rfl (fun d => rfl) ?_
  refine y_gR (i := 4) rfl rfl rfl (hCT 58 _ _ rfl) rfl ?_
  refine y_ld (x := iv 5) rfl rfl (fun d => rfl) ?_
  refine y_rld (i := 5) rfl rfl (hCT 61 _ _ rfl) (by decide) (by decide) rfl rfl ?_
  refine y_cV (as := [.ref 40, .ref 97]) rfl rfl rfl rfl rfl (hCT 40 _ _ rfl) ⟨rfl, (Nat.le_of_ble_eq_true rfl), (Nat.le_of_ble_eq_true rfl)⟩ (by decide) (cc_bbec (bx_cl hCT (B := 1) (b := 5) (by decide) (by decide)) (bx_cl hCT (B := 58) (b := 5) (by decide) (by decide)) (by decide) ?_)
  refine y_n0 ?_
  refine y_inc (z := 6) (lv' := [(2, iv 6), (0, .ref 1), (1, .ref 58)]) rfl rfl rfl rfl rfl ?_
  refine y_go rfl rfl ?_
  refine y_ld (x := iv 6) rfl rfl (fun d => rfl) ?_
  refine y_bi rfl rfl (by decide) ?_
  refine y_jge rfl rfl rfl (by decide) (fun g7 => absurd g7 (by decide)) (fun g7 => ?_)
  refine y_ld (x := .ref 1) rfl rfl (fun d => rfl) ?_
  refine y_gR (i := 4) rfl rfl rfl (hCT 1 _ _ rfl) rfl ?_
  refine y_ld (x := iv 6) rfl rfl (fun d => rfl) ?_
  refine y_rld (i := 6) rfl rfl (hCT 4 _ _ rfl) (by decide) (by decide) rfl rfl ?_
  refine y_ld (x := .ref 58) rfl rfl (fun d => rfl) ?_
  refine y_gR (i := 4) rfl rfl rfl (hCT 58 _ _ rfl) rfl ?_
  refine y_ld (x := iv 6) rfl rfl (fun d => rfl) ?_
  refine y_rld (i := 6) rfl rfl (hCT 61 _ _ rfl) (by decide) (by decide) rfl rfl ?_
  refine y_cV (as := [.ref 46, .ref 103]) rfl rfl rfl rfl rfl (hCT 46 _ _ rfl) ⟨rfl, (Nat.le_of_ble_eq_true rfl), (Nat.le_of_ble_eq_true rfl)⟩ (by decide) (cc_bbec (bx_cl hCT (B := 1) (b := 6) (by decide) (by decide)) (bx_cl hCT (B := 58) (b := 6) (by decide) (by decide)) (by decide) ?_)
  refine y_n0 ?_
  refine y_inc (z := 7) (lv' := [(2, iv 7), (0, .ref 1), (1, .ref 58)]) rfl rfl rfl rfl rfl ?_
  refine y_go rfl rfl ?_
  refine y_ld (x := iv 7) rfl rfl (fun d => rfl) ?_
  refine y_bi rfl rfl (by decide) ?_
  refine y_jge rfl rfl rfl (by decide) (fun g8 => absurd g8 (by decide)) (fun g8 => ?_)
  refine y_ld (x := .ref 1) rfl rfl (fun d => rfl) ?_
  refine y_gR (i := 4) rfl rfl rfl (hCT 1 _ _ rfl) rfl ?_
  refine y_ld (x := iv 7) rfl rfl (fun d => rfl) ?_
  refine y_rld (i := 7) rfl rfl (hCT 4 _ _ rfl) (by decide) (by decide) rfl rfl ?_
  refine y_ld (x := .ref 58) rfl rfl (fun d => rfl) ?_
  refine y_gR (i := 4) rfl rfl rfl (hCT 58 _ _ rfl) rfl ?_
  refine y_ld (x := iv 7) rfl rfl (fun d => rfl) ?_
  refine y_rld (i := 7) rfl rfl (hCT 61 _ _ rfl) (by decide) (by decide) rfl rfl ?_
  refine y_cV (as := [.ref 52, .ref 109]) rfl rfl rfl rfl rfl (hCT 52 _ _ rfl) ⟨rfl, (Nat.le_of_ble_eq_true rfl), (Nat.le_of_ble_eq_true rfl)⟩ (by decide) (cc_bbec (bx_cl hCT (B := 1) (b := 7) (by decide) (by decide)) (bx_cl hCT (B := 58) (b := 7) (by decide) (by decide)) (by decide) ?_)
  refine y_n0 ?_
  refine y_inc (z := 8) (lv' := [(2, iv 8), (0, .ref 1), (1, .ref 58)]) rfl rfl rfl rfl rfl ?_
  refine y_go rfl rfl ?_
  refine y_ld (x := iv 8) rfl rfl (fun d => rfl) ?_
  refine y_bi rfl rfl (by decide) ?_
  refine y_jge rfl rfl rfl (by decide) (fun g9 => ?_) (fun g9 => absurd g9 (by decide))
  refine y_ld (x := .ref 1) rfl rfl (fun d => rfl) ?_
  refine y_ld (x := .ref 58) rfl rfl (fun d => rfl) ?_
  refine y_gI (i := 5) (e := (V 58 5)) rfl rfl rfl (hCT 58 _ _ rfl) rfl rfl ?_
  refine y_pI (i := 5) rfl rfl rfl (hCT 1 _ _ rfl) rfl rfl ?_
  refine y_ld (x := .ref 58) rfl rfl (fun d => rfl) ?_
  refine y_gR (i := 6) rfl rfl rfl (hCT 58 _ _ rfl) rfl ?_
  refine y_ic rfl rfl ?_
  refine y_ld (x := .ref 1) rfl rfl (fun d => rfl) ?_
  refine y_gR (i := 6) rfl rfl rfl (hCT 1 _ _ rfl) rfl ?_
  refine y_ic rfl rfl ?_
  refine y_bi rfl rfl (by decide) ?_
  refine y_acF rfl rfl rfl (cl_ia hCT (k := 62) (N := 6) rfl) (cl_ia hCT (k := 5) (N := 6) rfl) rfl (by decide) (Nat.le_of_ble_eq_true rfl) ?_
  refine y_ld (x := .ref 1) rfl rfl (fun d => rfl) ?_
  refine y_ld (x := .ref 58) rfl rfl (fun d => rfl) ?_
  refine y_gI (i := 7) (e := (V 58 7)) rfl rfl rfl (hCT 58 _ _ rfl) rfl rfl ?_
  refine y_pI (i := 7) rfl rfl rfl (hCT 1 _ _ rfl) rfl rfl ?_
  refine y_ic rfl rfl ?_
  refine y_st (lv' := [(2, iv 0), (0, .ref 1), (1, .ref 58)]) rfl rfl (fun d => rfl) ?_
  refine y_lv (l' := [(0, .ref 1), (1, .ref 58), (2, iv 0)]) rfl ⟨rfl, rfl, rfl, trivial⟩ ?_
  refine y_S (S' := (((S).set 3 (22, ta))).set 6 (24, List.take 0 wa ++ List.drop 0 wb)) ?_ ?_
  · exact (v_set_self (ce_ne (c := (22, ta)) hwb (show 6 ≠ 3 by decide))).symm
  refine y_mono (lp_sbW1 hCT (ce_ne (c := (22, ta)) hwa (show 63 ≠ 3 by decide)) (ce_ne (c := (22, ta)) hwb (show 6 ≠ 3 by decide)) hlwa hlwb (fun v hv => asg_ne htb (by decide) (hvW v hv)) 21 0 (by omega) (by omega) ?_) (Nat.le_of_ble_eq_true rfl : 20 * 21 + 890000 ≤ _)
  have hCW : ClF ((((S).set 3 (22, ta))).set 6 (24, wa)) := cl_set hCT (by decide)
  refine y_ld (x := .ref 1) rfl rfl (fun d => rfl) ?_
  refine y_ld (x := .ref 58) rfl rfl (fun d => rfl) ?_
  refine y_gI (i := 9) (e := (V 58 9)) rfl rfl rfl (hCW 58 _ _ rfl) rfl rfl ?_
  refine y_pI (i := 9) rfl rfl rfl (hCW 1 _ _ rfl) rfl rfl ?_
  refine y_ld (x := .ref 1) rfl rfl (fun d => rfl) ?_
  refine y_ld (x := .ref 58) rfl rfl (fun d => rfl) ?_
  refine y_gI (i := 10) (e := (V 58 10)) rfl rfl rfl (hCW 58 _ _ rfl) rfl rfl ?_
  refine y_pI (i := 10) rfl rfl rfl (hCW 1 _ _ rfl) rfl rfl ?_
  refine y_ic rfl rfl ?_
  refine y_st (lv' := [(2, iv 0), (0, .ref 1), (1, .ref 58)]) rfl rfl (fun d => rfl) ?_
  refine y_lv (l' := [(0, .ref 1), (1, .ref 58), (2, iv 0)]) rfl ⟨rfl, rfl, rfl, trivial⟩ ?_
  refine y_S (S' := (((((S).set 3 (22, ta))).set 6 (24, wa))).set 7 (24, List.take 0 la ++ List.drop 0 lb)) ?_ ?_
  · exact (v_set_self (ce_ne (c := (24, wa)) (ce_ne (c := (22, ta)) hlb (show 7 ≠ 3 by decide)) (show 7 ≠ 6 by decide))).symm
  refine y_mono (lp_sbL1 hCW (ce_ne (c := (24, wa)) (ce_ne (c := (22, ta)) hla (show 64 ≠ 3 by decide)) (show 64 ≠ 6 by decide)) (ce_ne (c := (24, wa)) (ce_ne (c := (22, ta)) hlb (show 7 ≠ 3 by decide)) (show 7 ≠ 6 by decide)) hlla hllb (fun v hv => asg_ne (ce_ne (c := (22, ta)) hwb (show 6 ≠ 3 by decide)) (by decide) ((fun v hv => asg_ne htb (by decide) (hvL v hv)) v hv)) 6 0 (by omega) (by omega) ?_) (Nat.le_of_ble_eq_true rfl : 20 * 6 + 790000 ≤ _)
  have hCL : ClF ((((((S).set 3 (22, ta))).set 6 (24, wa))).set 7 (24, la)) := cl_set hCW (by decide)
  refine y_ld (x := .ref 1) rfl rfl (fun d => rfl) ?_
  refine y_ld (x := .ref 58) rfl rfl (fun d => rfl) ?_
  refine y_gI (i := 12) (e := (V 58 12)) rfl rfl rfl (hCL 58 _ _ rfl) rfl rfl ?_
  refine y_pI (i := 12) rfl rfl rfl (hCL 1 _ _ rfl) rfl rfl ?_
  refine y_ld (x := .ref 1) rfl rfl (fun d => rfl) ?_
  refine y_gR (i := 13) rfl rfl rfl (hCL 1 _ _ rfl) rfl ?_
  refine y_ld (x := .ref 58) rfl rfl (fun d => rfl) ?_
  refine y_gR (i := 13) rfl rfl rfl (hCL 58 _ _ rfl) rfl ?_
  refine y_cV (as := [.ref 8, .ref 65]) rfl rfl rfl rfl rfl (hCL 8 _ _ rfl) ⟨rfl, (Nat.le_of_ble_eq_true rfl), (Nat.le_of_ble_eq_true rfl)⟩ (by decide) (cc_tbec1 hCL ?_)
  refine y_n0 ?_
  refine y_ret rfl (fun d => rfl) ?_
  refine k _ ⟨?_, rfl, rfl, rfl, rfl, ?_, ?_⟩
  · intro i hi
    have h7 : i = 1 ∨ i = 3 ∨ i = 5 ∨ i = 7 ∨ i = 9 ∨ i = 10 ∨ i = 12 := by simpa [St_int] using hi
    rcases h7 with rfl | rfl | rfl | rfl | rfl | rfl | rfl <;> rfl
  · intro b hb
    have h8 : b = 0 ∨ b = 1 ∨ b = 2 ∨ b = 3 ∨ b = 4 ∨ b = 5 ∨ b = 6 ∨ b = 7 := by omega
    rcases h8 with rfl | rfl | rfl | rfl | rfl | rfl | rfl | rfl <;> exact ⟨rfl, rfl, rfl, rfl⟩
  · intro q hq
    rw [v_up_ne (show q ≠ 8 by omega), v_ur_ne (show q ≠ 9 by omega), v_up_ne (show q ≠ 1 by omega), v_up_ne (show q ≠ 1 by omega), v_up_ne (show q ≠ 1 by omega), v_up_ne (show q ≠ 1 by omega), v_ur_ne (show q ≠ 5 by omega), v_up_ne (show q ≠ 1 by omega), v_ur_ne (show q ≠ 57 by omega), v_ur_ne (show q ≠ 55 by omega), v_ur_ne (show q ≠ 53 by omega), v_ur_ne (show q ≠ 52 by omega), v_ur_ne (show q ≠ 51 by omega), v_ur_ne (show q ≠ 49 by omega), v_ur_ne (show q ≠ 47 by omega), v_ur_ne (show q ≠ 46 by omega), v_ur_ne (show q ≠ 45 by omega), v_ur_ne (show q ≠ 43 by omega), v_ur_ne (show q ≠ 41 by omega), v_ur_ne (show q ≠ 40 by omega), v_ur_ne (show q ≠ 39 by omega), v_ur_ne (show q ≠ 37 by omega), v_ur_ne (show q ≠ 35 by omega), v_ur_ne (show q ≠ 34 by omega), v_ur_ne (show q ≠ 33 by omega), v_ur_ne (show q ≠ 31 by omega), v_ur_ne (show q ≠ 29 by omega), v_ur_ne (show q ≠ 28 by omega), v_ur_ne (show q ≠ 27 by omega), v_ur_ne (show q ≠ 25 by omega), v_ur_ne (show q ≠ 23 by omega), v_ur_ne (show q ≠ 22 by omega), v_ur_ne (show q ≠ 21 by omega), v_ur_ne (show q ≠ 19 by omega), v_ur_ne (show q ≠ 17 by omega), v_ur_ne (show q ≠ 16 by omega), v_ur_ne (show q ≠ 15 by omega), v_ur_ne (show q ≠ 13 by omega), v_ur_ne (show q ≠ 11 by omega), v_ur_ne (show q ≠ 10 by omega), v_up_ne (show q ≠ 1 by omega), v_up_ne (show q ≠ 1 by omega), v_ur_ne (show q ≠ 2 by omega)]
set_option maxRecDepth 100000 in
set_option maxHeartbeats 4000000 in
theorem cc_sbec58 (hC : ClF S) {ta tb wa wb la lb : List Value} (hta : ce S 3 22 ta) (htb : ce S 60 22 tb) (hwa : ce S 6 24 wa) (hwb : ce S 63 24 wb) (hla : ce S 7 24 la) (hlb : ce S 64 24 lb) (hlta : ta.length = 8) (hltb : tb.length = 8) (hlwa : wa.length = 20) (hlwb : wb.length = 20) (hlla : la.length = 5) (hllb : lb.length = 5) (hvT : ∀ v ∈ ta, v_asg S 22 v) (hvW : ∀ v ∈ wa, v_asg S 24 v) (hvL : ∀ v ∈ la, v_asg S 24 v) (k : ∀ V', CpV 58 1 V V' → K u w none (((S.set 60 (22, ta)).set 63 (24, wa)).set 64 (24, la)) V') : y_R X 3 42 u w [.ref 58, .ref 1] S V K := by
  refine y_ent (lv' := [(0, .ref 58), (1, .ref 1)]) (Nat.le_of_ble_eq_true rfl) rfl ?_
  refine y_ld (x := .ref 1) rfl rfl (fun d => rfl) ?_
  refine y_gR (i := 0) rfl rfl rfl (hC 1 _ _ rfl) rfl ?_
  refine y_ic rfl rfl ?_
  refine y_ld (x := .ref 58) rfl rfl (fun d => rfl) ?_
  refine y_gR (i := 0) rfl rfl rfl (hC 58 _ _ rfl) rfl ?_
  refine y_ic rfl rfl ?_
  refine y_si rfl rfl (by decide) ?_
  refine y_acF rfl rfl rfl (cl_ia hC (k := 2) (N := 160) rfl) (cl_ia hC (k := 59) (N := 160) rfl) rfl (by decide) (Nat.le_of_ble_eq_true rfl) ?_
  refine y_ld (x := .ref 58) rfl rfl (fun d => rfl) ?_
  refine y_ld (x := .ref 1) rfl rfl (fun d => rfl) ?_
  refine y_gI (i := 1) (e := (V 1 1)) rfl rfl rfl (hC 1 _ _ rfl) rfl rfl ?_
  refine y_pI (i := 1) rfl rfl rfl (hC 58 _ _ rfl) rfl rfl ?_
  refine y_ic rfl rfl ?_
  refine y_st (lv' := [(2, iv 0), (0, .ref 58), (1, .ref 1)]) rfl rfl (fun d => rfl) ?_
  refine y_lv (l' := [(0, .ref 58), (1, .ref 1), (2, iv 0)]) rfl ⟨rfl, rfl, rfl, trivial⟩ ?_
  refine y_S (S' := (S).set 60 (22, List.take 0 ta ++ List.drop 0 tb)) ?_ ?_
  · exact (v_set_self htb).symm
  refine y_mono (lp_sbT58 hC hta htb hlta hltb hvT 9 0 (by omega) (by omega) ?_) (Nat.le_of_ble_eq_true rfl : 20 * 9 + 990000 ≤ _)
  have hCT : ClF ((S).set 60 (22, ta)) := cl_set hC (by decide)
  refine y_ld (x := .ref 58) rfl rfl (fun d => rfl) ?_
  refine y_ld (x := .ref 1) rfl rfl (fun d => rfl) ?_
  refine y_gI (i := 3) (e := (V 1 3)) rfl rfl rfl (hCT 1 _ _ rfl) rfl rfl ?_
  refine y_pI (i := 3) rfl rfl rfl (hCT 58 _ _ rfl) rfl rfl ?_
  refine y_ic rfl rfl ?_
  refine y_st (lv' := [(2, iv 0), (0, .ref 58), (1, .ref 1)]) rfl rfl (fun d => rfl) ?_
  refine y_ld (x := iv 0) rfl rfl (fun d => rfl) ?_
  refine y_bi rfl rfl (by decide) ?_
  refine y_jge rfl rfl rfl (by decide) (fun g1 => absurd g1 (by decide)) (fun g1 => ?_)
  refine y_ld (x := .ref 58) rfl rfl (fun d => rfl) ?_
  refine y_gR (i := 4) rfl rfl rfl (hCT 58 _ _ rfl) rfl ?_
  refine y_ld (x := iv 0) rfl rfl (fun d => rfl) ?_
  refine y_rld (i := 0) rfl rfl (hCT 61 _ _ rfl) (by decide) (by decide) rfl rfl ?_
  refine y_ld (x := .ref 1) rfl rfl (fun d => rfl) ?_
  refine y_gR (i := 4) rfl rfl rfl (hCT 1 _ _ rfl) rfl ?_
  refine y_ld (x := iv 0) rfl rfl (fun d => rfl) ?_
  refine y_rld (i := 0) rfl rfl (hCT 4 _ _ rfl) (by decide) (by decide) rfl rfl ?_
  refine y_cV (as := [.ref 67, .ref 10]) rfl rfl rfl rfl rfl (hCT 67 _ _ rfl) ⟨rfl, (Nat.le_of_ble_eq_true rfl), (Nat.le_of_ble_eq_true rfl)⟩ (by decide) (cc_bbec (bx_cl hCT (B := 58) (b := 0) (by decide) (by decide)) (bx_cl hCT (B := 1) (b := 0) (by decide) (by decide)) (by decide) ?_)
  refine y_n0 ?_
  refine y_inc (z := 1) (lv' := [(2, iv 1), (0, .ref 58), (1, .ref 1)]) rfl rfl rfl rfl rfl ?_
  refine y_go rfl rfl ?_
  refine y_ld (x := iv 1) rfl rfl (fun d => rfl) ?_
  refine y_bi rfl rfl (by decide) ?_
  refine y_jge rfl rfl rfl (by decide) (fun g2 => absurd g2 (by decide)) (fun g2 => ?_)
  refine y_ld (x := .ref 58) rfl rfl (fun d => rfl) ?_
  refine y_gR (i := 4) rfl rfl rfl (hCT 58 _ _ rfl) rfl ?_
  refine y_ld (x := iv 1) rfl rfl (fun d => rfl) ?_
  refine y_rld (i := 1) rfl rfl (hCT 61 _ _ rfl) (by decide) (by decide) rfl rfl ?_
  refine y_ld (x := .ref 1) rfl rfl (fun d => rfl) ?_
  refine y_gR (i := 4) rfl rfl rfl (hCT 1 _ _ rfl) rfl ?_
  refine y_ld (x := iv 1) rfl rfl (fun d => rfl) ?_
  refine y_rld (i := 1) rfl rfl (hCT 4 _ _ rfl) (by decide) (by decide) rfl rfl ?_
  refine y_cV (as := [.ref 73, .ref 16]) rfl rfl rfl rfl rfl (hCT 73 _ _ rfl) ⟨rfl, (Nat.le_of_ble_eq_true rfl), (Nat.le_of_ble_eq_true rfl)⟩ (by decide) (cc_bbec (bx_cl hCT (B := 58) (b := 1) (by decide) (by decide)) (bx_cl hCT (B := 1) (b := 1) (by decide) (by decide)) (by decide) ?_)
  refine y_n0 ?_
  refine y_inc (z := 2) (lv' := [(2, iv 2), (0, .ref 58), (1, .ref 1)]) rfl rfl rfl rfl rfl ?_
  refine y_go rfl rfl ?_
  refine y_ld (x := iv 2) rfl rfl (fun d => rfl) ?_
  refine y_bi rfl rfl (by decide) ?_
  refine y_jge rfl rfl rfl (by decide) (fun g3 => absurd g3 (by decide)) (fun g3 => ?_)
  refine y_ld (x := .ref 58) rfl rfl (fun d => rfl) ?_
  refine y_gR (i := 4) rfl rfl rfl (hCT 58 _ _ rfl) rfl ?_
  refine y_ld (x := iv 2) rfl rfl (fun d => rfl) ?_
  refine y_rld (i := 2) rfl rfl (hCT 61 _ _ rfl) (by decide) (by decide) rfl rfl ?_
  refine y_ld (x := .ref 1) rfl rfl (fun d => rfl) ?_
  refine y_gR (i := 4) rfl rfl rfl (hCT 1 _ _ rfl) rfl ?_
  refine y_ld (x := iv 2) rfl rfl (fun d => rfl) ?_
  refine y_rld (i := 2) rfl rfl (hCT 4 _ _ rfl) (by decide) (by decide) rfl rfl ?_
  refine y_cV (as := [.ref 79, .ref 22]) rfl rfl rfl rfl rfl (hCT 79 _ _ rfl) ⟨rfl, (Nat.le_of_ble_eq_true rfl), (Nat.le_of_ble_eq_true rfl)⟩ (by decide) (cc_bbec (bx_cl hCT (B := 58) (b := 2) (by decide) (by decide)) (bx_cl hCT (B := 1) (b := 2) (by decide) (by decide)) (by decide) ?_)
  refine y_n0 ?_
  refine y_inc (z := 3) (lv' := [(2, iv 3), (0, .ref 58), (1, .ref 1)]) rfl rfl rfl rfl rfl ?_
  refine y_go rfl rfl ?_
  refine y_ld (x := iv 3) rfl rfl (fun d => rfl) ?_
  refine y_bi rfl rfl (by decide) ?_
  refine y_jge rfl rfl rfl (by decide) (fun g4 => absurd g4 (by decide)) (fun g4 => ?_)
  refine y_ld (x := .ref 58) rfl rfl (fun d => rfl) ?_
  refine y_gR (i := 4) rfl rfl rfl (hCT 58 _ _ rfl) rfl ?_
  refine y_ld (x := iv 3) rfl rfl (fun d => rfl) ?_
  refine y_rld (i := 3) rfl rfl (hCT 61 _ _ rfl) (by decide) (by decide) rfl rfl ?_
  refine y_ld (x := .ref 1) rfl rfl (fun d => rfl) ?_
  refine y_gR (i := 4) rfl rfl rfl (hCT 1 _ _ rfl) rfl ?_
  refine y_ld (x := iv 3) rfl rfl (fun d => rfl) ?_
  refine y_rld (i := 3) rfl rfl (hCT 4 _ _ rfl) (by decide) (by decide) rfl rfl ?_
  refine y_cV (as := [.ref 85, .ref 28]) rfl rfl rfl rfl rfl (hCT 85 _ _ rfl) ⟨rfl, (Nat.le_of_ble_eq_true rfl), (Nat.le_of_ble_eq_true rfl)⟩ (by decide) (cc_bbec (bx_cl hCT (B := 58) (b := 3) (by decide) (by decide)) (bx_cl hCT (B := 1) (b := 3) (by decide) (by decide)) (by decide) ?_)
  refine y_n0 ?_
  refine y_inc (z := 4) (lv' := [(2, iv 4), (0, .ref 58), (1, .ref 1)]) rfl rfl rfl rfl rfl ?_
  refine y_go rfl rfl ?_
  refine y_ld (x := iv 4) rfl rfl (fun d => rfl) ?_
  refine y_bi rfl rfl (by decide) ?_
  refine y_jge rfl rfl rfl (by decide) (fun g5 => absurd g5 (by decide)) (fun g5 => ?_)
  refine y_ld (x := .ref 58) rfl rfl (fun d => rfl) ?_
  refine y_gR (i := 4) rfl rfl rfl (hCT 58 _ _ rfl) rfl ?_
  refine y_ld (x := iv 4) rfl rfl (fun d => rfl) ?_
  refine y_rld (i := 4) rfl rfl (hCT 61 _ _ rfl) (by decide) (by decide) rfl rfl ?_
  refine y_ld (x := .ref 1) rfl rfl (fun d => rfl) ?_
  refine y_gR (i := 4) rfl rfl rfl (hCT 1 _ _ rfl) rfl ?_
  refine y_ld (x := iv 4) rfl rfl (fun d => rfl) ?_
  refine y_rld (i := 4) rfl rfl (hCT 4 _ _ rfl) (by decide) (by decide) rfl rfl ?_
  refine y_cV (as := [.ref 91, .ref 34]) rfl rfl rfl rfl rfl (hCT 91 _ _ rfl) ⟨rfl, (Nat.le_of_ble_eq_true rfl), (Nat.le_of_ble_eq_true rfl)⟩ (by decide) (cc_bbec (bx_cl hCT (B := 58) (b := 4) (by decide) (by decide)) (bx_cl hCT (B := 1) (b := 4) (by decide) (by decide)) (by decide) ?_)
  refine y_n0 ?_
  refine y_inc (z := 5) (lv' := [(2, iv 5), (0, .ref 58), (1, .ref 1)]) rfl rfl rfl rfl rfl ?_
  refine y_go rfl rfl ?_
  refine y_ld (x := iv 5) rfl rfl (fun d => rfl) ?_
  refine y_bi rfl rfl (by decide) ?_
  refine y_jge rfl rfl rfl (by decide) (fun g6 => absurd g6 (by decide)) (fun g6 => ?_)
  refine y_ld (x := .ref 58) rfl rfl (fun d => rfl) ?_
  refine y_gR (i := 4) rfl rfl rfl (hCT 58 _ _ rfl) rfl ?_
  refine y_ld (x := iv 5) rfl rfl (fun d => rfl) ?_
  refine y_rld (i := 5) rfl rfl (hCT 61 _ _ rfl) (by decide) (by decide) rfl rfl ?_
  refine y_ld (x := .ref 1) rfl rfl (fun d => rfl) ?_
  refine y_gR (i := 4) rfl rfl rfl (hCT 1 _ _ rfl) rfl ?_
  refine y_ld (x := iv 5) rfl rfl (fun d => rfl) ?_
  refine y_rld (i := 5) rfl rfl (hCT 4 _ _ rfl) (by decide) (by decide) rfl rfl ?_
  refine y_cV (as := [.ref 97, .ref 40]) rfl rfl rfl rfl rfl (hCT 97 _ _ rfl) ⟨rfl, (Nat.le_of_ble_eq_true rfl), (Nat.le_of_ble_eq_true rfl)⟩ (by decide) (cc_bbec (bx_cl hCT (B := 58) (b := 5) (by decide) (by decide)) (bx_cl hCT (B := 1) (b := 5) (by decide) (by decide)) (by decide) ?_)
  refine y_n0 ?_
  refine y_inc (z := 6) (lv' := [(2, iv 6), (0, .ref 58), (1, .ref 1)]) rfl rfl rfl rfl rfl ?_
  refine y_go rfl rfl ?_
  refine y_ld (x := iv 6) rfl rfl (fun d => rfl) ?_
  refine y_bi rfl rfl (by decide) ?_
  refine y_jge rfl rfl rfl (by decide) (fun g7 => absurd g7 (by decide)) (fun g7 => ?_)
  refine y_ld (x := .ref 58) rfl rfl (fun d => rfl) ?_
  refine y_gR (i := 4) rfl rfl rfl (hCT 58 _ _ rfl) rfl ?_
  refine y_ld (x := iv 6) rfl rfl (fun d => rfl) ?_
  refine y_rld (i := 6) rfl rfl (hCT 61 _ _ rfl) (by decide) (by decide) rfl rfl ?_
  refine y_ld (x := .ref 1) rfl rfl (fun d => rfl) ?_
  refine y_gR (i := 4) rfl rfl rfl (hCT 1 _ _ rfl) rfl ?_
  refine y_ld (x := iv 6) rfl rfl (fun d => rfl) ?_
  refine y_rld (i := 6) rfl rfl (hCT 4 _ _ rfl) (by decide) (by decide) rfl rfl ?_
  refine y_cV (as := [.ref 103, .ref 46]) rfl rfl rfl rfl rfl (hCT 103 _ _ rfl) ⟨rfl, (Nat.le_of_ble_eq_true rfl), (Nat.le_of_ble_eq_true rfl)⟩ (by decide) (cc_bbec (bx_cl hCT (B := 58) (b := 6) (by decide) (by decide)) (bx_cl hCT (B := 1) (b := 6) (by decide) (by decide)) (by decide) ?_)
  refine y_n0 ?_
  refine y_inc (z := 7) (lv' := [(2, iv 7), (0, .ref 58), (1, .ref 1)]) rfl rfl rfl rfl rfl ?_
  refine y_go rfl rfl ?_
  refine y_ld (x := iv 7) rfl rfl (fun d => rfl) ?_
  refine y_bi rfl rfl (by decide) ?_
  refine y_jge rfl rfl rfl (by decide) (fun g8 => absurd g8 (by decide)) (fun g8 => ?_)
  refine y_ld (x := .ref 58) rfl rfl (fun d => rfl) ?_
  refine y_gR (i := 4) rfl rfl rfl (hCT 58 _ _ rfl) rfl ?_
  refine y_ld (x := iv 7) rfl rfl (fun d => rfl) ?_
  refine y_rld (i := 7) rfl rfl (hCT 61 _ _ rfl) (by decide) (by decide) rfl rfl ?_
  refine y_ld (x := .ref 1) rfl rfl (fun d => rfl) ?_
  refine y_gR (i := 4) rfl rfl rfl (hCT 1 _ _ rfl) rfl ?_
  refine y_ld (x := iv 7) rfl rfl (fun d => rfl) ?_
  refine y_rld (i := 7) rfl rfl (hCT 4 _ _ rfl) (by decide) (by decide) rfl rfl ?_
  refine y_cV (as := [.ref 109, .ref 52]) rfl rfl rfl rfl rfl (hCT 109 _ _ rfl) ⟨rfl, (Nat.le_of_ble_eq_true rfl), (Nat.le_of_ble_eq_true rfl)⟩ (by decide) (cc_bbec (bx_cl hCT (B := 58) (b := 7) (by decide) (by decide)) (bx_cl hCT (B := 1) (b := 7) (by decide) (by decide)) (by decide) ?_)
  refine y_n0 ?_
  refine y_inc (z := 8) (lv' := [(2, iv 8), (0, .ref 58), (1, .ref 1)]) rfl rfl rfl rfl rfl ?_
  refine y_go rfl rfl ?_
  refine y_ld (x := iv 8) rfl rfl (fun d => rfl) ?_
  refine y_bi rfl rfl (by decide) ?_
  refine y_jge rfl rfl rfl (by decide) (fun g9 => ?_) (fun g9 => absurd g9 (by decide))
  refine y_ld (x := .ref 58) rfl rfl (fun d => rfl) ?_
  refine y_ld (x := .ref 1) rfl rfl (fun d => rfl) ?_
  refine y_gI (i := 5) (e := (V 1 5)) rfl rfl rfl (hCT 1 _ _ rfl) rfl rfl ?_
  refine y_pI (i := 5) rfl rfl rfl (hCT 58 _ _ rfl) rfl rfl ?_
  refine y_ld (x := .ref 1) rfl rfl (fun d => rfl) ?_
  refine y_gR (i := 6) rfl rfl rfl (hCT 1 _ _ rfl) rfl ?_
  refine y_ic rfl rfl ?_
  refine y_ld (x := .ref 58) rfl rfl (fun d => rfl) ?_
  refine y_gR (i := 6) rfl rfl rfl (hCT 58 _ _ rfl) rfl ?_
  refine y_ic rfl rfl ?_
  refine y_bi rfl rfl (by decide) ?_
  refine y_acF rfl rfl rfl (cl_ia hCT (k := 5) (N := 6) rfl) (cl_ia hCT (k := 62) (N := 6) rfl) rfl (by decide) (Nat.le_of_ble_eq_true rfl) ?_
  refine y_ld (x := .ref 58) rfl rfl (fun d => rfl) ?_
  refine y_ld (x := .ref 1) rfl rfl (fun d => rfl) ?_
  refine y_gI (i := 7) (e := (V 1 7)) rfl rfl rfl (hCT 1 _ _ rfl) rfl rfl ?_
  refine y_pI (i := 7) rfl rfl rfl (hCT 58 _ _ rfl) rfl rfl ?_
  refine y_ic rfl rfl ?_
  refine y_st (lv' := [(2, iv 0), (0, .ref 58), (1, .ref 1)]) rfl rfl (fun d => rfl) ?_
  refine y_lv (l' := [(0, .ref 58), (1, .ref 1), (2, iv 0)]) rfl ⟨rfl, rfl, rfl, trivial⟩ ?_
  refine y_S (S' := (((S).set 60 (22, ta))).set 63 (24, List.take 0 wa ++ List.drop 0 wb)) ?_ ?_
  · exact (v_set_self (ce_ne (c := (22, ta)) hwb (show 63 ≠ 60 by decide))).symm
  refine y_mono (lp_sbW58 hCT (ce_ne (c := (22, ta)) hwa (show 6 ≠ 60 by decide)) (ce_ne (c := (22, ta)) hwb (show 63 ≠ 60 by decide)) hlwa hlwb (fun v hv => asg_ne htb (by decide) (hvW v hv)) 21 0 (by omega) (by omega) ?_) (Nat.le_of_ble_eq_true rfl : 20 * 21 + 890000 ≤ _)
  have hCW : ClF ((((S).set 60 (22, ta))).set 63 (24, wa)) := cl_set hCT (by decide)
  refine y_ld (x := .ref 58) rfl rfl (fun d => rfl) ?_
  refine y_ld (x := .ref 1) rfl rfl (fun d => rfl) ?_
  refine y_gI (i := 9) (e := (V 1 9)) rfl rfl rfl (hCW 1 _ _ rfl) rfl rfl ?_
  refine y_pI (i := 9) rfl rfl rfl (hCW 58 _ _ rfl) rfl rfl ?_
  refine y_ld (x := .ref 58) rfl rfl (fun d => rfl) ?_
  refine y_ld (x := .ref 1) rfl rfl (fun d => rfl) ?_
  refine y_gI (i := 10) (e := (V 1 10)) rfl rfl rfl (hCW 1 _ _ rfl) rfl rfl ?_
  refine y_pI (i := 10) rfl rfl rfl (hCW 58 _ _ rfl) rfl rfl ?_
  refine y_ic rfl rfl ?_
  refine y_st (lv' := [(2, iv 0), (0, .ref 58), (1, .ref 1)]) rfl rfl (fun d => rfl) ?_
  refine y_lv (l' := [(0, .ref 58), (1, .ref 1), (2, iv 0)]) rfl ⟨rfl, rfl, rfl, trivial⟩ ?_
  refine y_S (S' := (((((S).set 60 (22, ta))).set 63 (24, wa))).set 64 (24, List.take 0 la ++ List.drop 0 lb)) ?_ ?_
  · exact (v_set_self (ce_ne (c := (24, wa)) (ce_ne (c := (22, ta)) hlb (show 64 ≠ 60 by decide)) (show 64 ≠ 63 by decide))).symm
  refine y_mono (lp_sbL58 hCW (ce_ne (c := (24, wa)) (ce_ne (c := (22, ta)) hla (show 7 ≠ 60 by decide)) (show 7 ≠ 63 by decide)) (ce_ne (c := (24, wa)) (ce_ne (c := (22, ta)) hlb (show 64 ≠ 60 by decide)) (show 64 ≠ 63 by decide)) hlla hllb (fun v hv => asg_ne (ce_ne (c := (22, ta)) hwb (show 63 ≠ 60 by decide)) (by decide) ((fun v hv => asg_ne htb (by decide) (hvL v hv)) v hv)) 6 0 (by omega) (by omega) ?_) (Nat.le_of_ble_eq_true rfl : 20 * 6 + 790000 ≤ _)
  have hCL : ClF ((((((S).set 60 (22, ta))).set 63 (24, wa))).set 64 (24, la)) := cl_set hCW (by decide)
  refine y_ld (x := .ref 58) rfl rfl (fun d => rfl) ?_
  refine y_ld (x := .ref 1) rfl rfl (fun d => rfl) ?_
  refine y_gI (i := 12) (e := (V 1 12)) rfl rfl rfl (hCL 1 _ _ rfl) rfl rfl ?_
  refine y_pI (i := 12) rfl rfl rfl (hCL 58 _ _ rfl) rfl rfl ?_
  refine y_ld (x := .ref 58) rfl rfl (fun d => rfl) ?_
  refine y_gR (i := 13) rfl rfl rfl (hCL 58 _ _ rfl) rfl ?_
  refine y_ld (x := .ref 1) rfl rfl (fun d => rfl) ?_
  refine y_gR (i := 13) rfl rfl rfl (hCL 1 _ _ rfl) rfl ?_
  refine y_cV (as := [.ref 65, .ref 8]) rfl rfl rfl rfl rfl (hCL 65 _ _ rfl) ⟨rfl, (Nat.le_of_ble_eq_true rfl), (Nat.le_of_ble_eq_true rfl)⟩ (by decide) (cc_tbec58 hCL ?_)
  refine y_n0 ?_
  refine y_ret rfl (fun d => rfl) ?_
  refine k _ ⟨?_, rfl, rfl, rfl, rfl, ?_, ?_⟩
  · intro i hi
    have h7 : i = 1 ∨ i = 3 ∨ i = 5 ∨ i = 7 ∨ i = 9 ∨ i = 10 ∨ i = 12 := by simpa [St_int] using hi
    rcases h7 with rfl | rfl | rfl | rfl | rfl | rfl | rfl <;> rfl
  · intro b hb
    have h8 : b = 0 ∨ b = 1 ∨ b = 2 ∨ b = 3 ∨ b = 4 ∨ b = 5 ∨ b = 6 ∨ b = 7 := by omega
    rcases h8 with rfl | rfl | rfl | rfl | rfl | rfl | rfl | rfl <;> exact ⟨rfl, rfl, rfl, rfl⟩
  · intro q hq
    rw [v_up_ne (show q ≠ 65 by omega), v_ur_ne (show q ≠ 66 by omega), v_up_ne (show q ≠ 58 by omega), v_up_ne (show q ≠ 58 by omega), v_up_ne (show q ≠ 58 by omega), v_up_ne (show q ≠ 58 by omega), v_ur_ne (show q ≠ 62 by omega), v_up_ne (show q ≠ 58 by omega), v_ur_ne (show q ≠ 114 by omega), v_ur_ne (show q ≠ 112 by omega), v_ur_ne (show q ≠ 110 by omega), v_ur_ne (show q ≠ 109 by omega), v_ur_ne (show q ≠ 108 by omega), v_ur_ne (show q ≠ 106 by omega), v_ur_ne (show q ≠ 104 by omega), v_ur_ne (show q ≠ 103 by omega), v_ur_ne (show q ≠ 102 by omega), v_ur_ne (show q ≠ 100 by omega), v_ur_ne (show q ≠ 98 by omega), v_ur_ne (show q ≠ 97 by omega), v_ur_ne (show q ≠ 96 by omega), v_ur_ne (show q ≠ 94 by omega), v_ur_ne (show q ≠ 92 by omega), v_ur_ne (show q ≠ 91 by omega), v_ur_ne (show q ≠ 90 by omega), v_ur_ne (show q ≠ 88 by omega), v_ur_ne (show q ≠ 86 by omega), v_ur_ne (show q ≠ 85 by omega), v_ur_ne (show q ≠ 84 by omega), v_ur_ne (show q ≠ 82 by omega), v_ur_ne (show q ≠ 80 by omega), v_ur_ne (show q ≠ 79 by omega), v_ur_ne (show q ≠ 78 by omega), v_ur_ne (show q ≠ 76 by omega), v_ur_ne (show q ≠ 74 by omega), v_ur_ne (show q ≠ 73 by omega), v_ur_ne (show q ≠ 72 by omega), v_ur_ne (show q ≠ 70 by omega), v_ur_ne (show q ≠ 68 by omega), v_ur_ne (show q ≠ 67 by omega), v_up_ne (show q ≠ 58 by omega), v_up_ne (show q ≠ 58 by omega), v_ur_ne (show q ≠ 59 by omega)]
end
