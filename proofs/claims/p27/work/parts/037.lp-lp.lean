/-! the loop of the law -/
def lK : Nat → Nat → m_R → Prop := fun u w r => r.1 = some (.int 1) ∧ u ≤ 600000 ∧ w ≤ 7302250
def lKv : v_K := fun u w v _ _ => v = some (.int 1) ∧ u ≤ 600000 ∧ w ≤ 7302250
theorem y_toX {X : Nat → List Int32} {j F u w pc n : Nat} {lv : m_L} (h : y_E X 60 j F u w pc lv [] m_h0 v_V0 lKv) (hn : F ≤ n) : x_E X 60 j u w n pc lv [] m_h0 lK := by
  intro h1 h2
  have := h 60 n (Nat.le_refl _) hn
  rw [mkh_zero v_h0z] at this
  obtain ⟨r, u', w', g1, g2, g3, S', V', g4, g5⟩ := this h1 h2
  exact ⟨r, u', w', g1, g2, g3, g5⟩
theorem v_nthD {xs : List Int32} {i : Nat} (h : i < xs.length) : m_nth xs i = some (xs.getD i 0) := by
  rw [m_nth_eq, List.getElem?_eq_getElem h, List.getD_eq_getElem?_getD, List.getElem?_eq_getElem h]
  rfl
set_option maxRecDepth 100000 in
set_option maxHeartbeats 4000000 in
theorem law_loop {xs : List Int32} (hx : xs.length ≤ 384) : ∀ (m cnt u w : Nat) (S : m_H) (V : v_V) (e : Int), e = 6 * (cnt : Int) → 6 * cnt ≤ xs.length → xs.length < 6 * (cnt + m) + 6 → RR cnt u w S V → y_E (m_X xs) 60 181 (200 * m + 50) u w 18 [(3, iv e), (2, .ref 170), (1, .ref 0), (0, .ref 1000000)] [] S V lKv := by
  intro m
  induction m with
  | zero =>
    intro cnt u w S V e he hc hm hR
    refine y_ld (x := iv e) rfl rfl (fun d => rfl) ?_
    refine y_ld (x := .ref 1000000) rfl rfl (fun d => rfl) ?_
    refine y_scl (q := 0) rfl rfl ?_
    refine y_bi rfl rfl (by decide) ?_
    refine y_sub (z := (xs.length : Int) - 6) rfl rfl rfl ?_
    refine y_jgt rfl rfl rfl (by omega) (fun g => ?_) (fun g => ?_)
    · refine y_ic rfl rfl ?_
      refine y_rI rfl (Or.inr (Or.inr rfl)) ?_
      obtain ⟨tl, -, -, -, hZ⟩ := hR
      unfold RZ at hZ
      exact ⟨rfl, by omega, by omega⟩
    · omega
  | succ m IH =>
    intro cnt u w S V e he hc hm hR
    refine y_mono (F' := (200 * m + 50) + 200) ?_ (by omega)
    refine y_ld (x := iv e) rfl rfl (fun d => rfl) ?_
    refine y_ld (x := .ref 1000000) rfl rfl (fun d => rfl) ?_
    refine y_scl (q := 0) rfl rfl ?_
    refine y_bi rfl rfl (by decide) ?_
    refine y_sub (z := (xs.length : Int) - 6) rfl rfl rfl ?_
    refine y_jgt rfl rfl rfl (by omega) (fun g => ?_) (fun g => ?_)
    · refine y_ic rfl rfl ?_
      refine y_rI rfl (Or.inr (Or.inr rfl)) ?_
      obtain ⟨tl, -, -, -, hZ⟩ := hR
      unfold RZ at hZ
      exact ⟨rfl, by omega, by omega⟩
    · have hA : ∀ c : Nat, c < 6 → m_nth xs (6 * cnt + c) = some (xs.getD (6 * cnt + c) 0) := fun c hc6 => v_nthD (by omega)
      refine y_ld (x := .ref 1000000) rfl rfl (fun d => rfl) ?_
      refine y_ld (x := iv e) rfl rfl (fun d => rfl) ?_
      refine y_scr (i := 6 * cnt + 0) rfl rfl (by omega) (by omega) (hA 0 (by decide)) ?_
      refine y_top (v_oi _) ?_
      refine y_bi rfl rfl (by decide) ?_
      refine y_top (show _ = Value.int (31 : Int32) from congrArg Value.int (by decide)) ?_
      refine y_in rfl rfl (fun d => rfl) ?_
      obtain ⟨k, hk, ek⟩ := pk_andE (xs.getD (6 * cnt + 0) 0) (m := 31) 5 (by decide)
      refine y_top (show _ = Value.int (nI k) from congrArg Value.int ek) ?_
      have hI : ∀ u2 w2 S2 V2, RR (cnt + 1) u2 w2 S2 V2 → y_E (m_X xs) 60 181 (200 * m + 52) u2 w2 1147 [(3, iv e), (2, .ref 170), (1, .ref 0), (0, .ref 1000000)] [] S2 V2 lKv := fun u2 w2 S2 V2 hR2 =>
        y_inc (z := e + 6) rfl rfl rfl rfl rfl (y_go rfl rfl (IH (cnt + 1) u2 w2 S2 V2 (e + 6) (by omega) (by omega) (by omega) hR2))
      have hk2 : k = 0 ∨ k = 1 ∨ k = 2 ∨ k = 3 ∨ k = 4 ∨ k = 5 ∨ k = 6 ∨ k = 7 ∨ k = 8 ∨ k = 9 ∨ k = 10 ∨ k = 11 ∨ k = 12 ∨ k = 13 ∨ k = 14 ∨ k = 15 ∨ k = 16 ∨ k = 17 ∨ k = 18 ∨ k = 19 ∨ k = 20 ∨ k = 21 ∨ k = 22 ∨ k = 23 ∨ k = 24 ∨ k = 25 ∨ k = 26 ∨ k = 27 ∨ k = 28 ∨ k = 29 ∨ k = 30 ∨ k = 31 := by omega
      rcases hk2 with rfl | rfl | rfl | rfl | rfl | rfl | rfl | rfl | rfl | rfl | rfl | rfl | rfl | rfl | rfl | rfl | rfl | rfl | rfl | rfl | rfl | rfl | rfl | rfl | rfl | rfl | rfl | rfl | rfl | rfl | rfl | rfl
      · refine y_in (pc' := 156) rfl rfl (fun d => rfl) ?_
        exact y_mono (w_op0 he (by omega) hA hR hI) (by omega)
      · refine y_in (pc' := 219) rfl rfl (fun d => rfl) ?_
        exact y_mono (w_op1 he (by omega) hA hR hI) (by omega)
      · refine y_in (pc' := 232) rfl rfl (fun d => rfl) ?_
        exact y_mono (w_op2 he (by omega) hA hR hI) (by omega)
      · refine y_in (pc' := 265) rfl rfl (fun d => rfl) ?_
        exact y_mono (w_op3 he (by omega) hA hR hI) (by omega)
      · refine y_in (pc' := 318) rfl rfl (fun d => rfl) ?_
        exact y_mono (w_op4 he (by omega) hA hR hI) (by omega)
      · refine y_in (pc' := 351) rfl rfl (fun d => rfl) ?_
        exact y_mono (w_op5 he (by omega) hA hR hI) (by omega)
      · refine y_in (pc' := 414) rfl rfl (fun d => rfl) ?_
        exact y_mono (w_op6 he (by omega) hA hR hI) (by omega)
      · refine y_in (pc' := 467) rfl rfl (fun d => rfl) ?_
        exact y_mono (w_op7 he (by omega) hA hR hI) (by omega)
      · refine y_in (pc' := 490) rfl rfl (fun d => rfl) ?_
        exact y_mono (w_op8 he (by omega) hA hR hI) (by omega)
      · refine y_in (pc' := 513) rfl rfl (fun d => rfl) ?_
        exact y_mono (w_op9 he (by omega) hA hR hI) (by omega)
      · refine y_in (pc' := 566) rfl rfl (fun d => rfl) ?_
        exact y_mono (w_op10 he (by omega) hA hR hI) (by omega)
      · refine y_in (pc' := 609) rfl rfl (fun d => rfl) ?_
        exact y_mono (w_op11 he (by omega) hA hR hI) (by omega)
      · refine y_in (pc' := 642) rfl rfl (fun d => rfl) ?_
        exact y_mono (w_op12 he (by omega) hA hR hI) (by omega)
      · refine y_in (pc' := 665) rfl rfl (fun d => rfl) ?_
        exact y_mono (w_op13 he (by omega) hA hR hI) (by omega)
      · refine y_in (pc' := 678) rfl rfl (fun d => rfl) ?_
        exact y_mono (w_op14 he (by omega) hA hR hI) (by omega)
      · refine y_in (pc' := 721) rfl rfl (fun d => rfl) ?_
        exact y_mono (w_op15 he (by omega) hA hR hI) (by omega)
      · refine y_in (pc' := 744) rfl rfl (fun d => rfl) ?_
        exact y_mono (w_op16 he (by omega) hA hR hI) (by omega)
      · refine y_in (pc' := 767) rfl rfl (fun d => rfl) ?_
        exact y_mono (w_op17 he (by omega) hA hR hI) (by omega)
      · refine y_in (pc' := 820) rfl rfl (fun d => rfl) ?_
        exact y_mono (w_op18 he (by omega) hA hR hI) (by omega)
      · refine y_in (pc' := 883) rfl rfl (fun d => rfl) ?_
        exact y_mono (w_op19 he (by omega) hA hR hI) (by omega)
      · refine y_in (pc' := 936) rfl rfl (fun d => rfl) ?_
        exact y_mono (w_op20 he (by omega) hA hR hI) (by omega)
      · refine y_in (pc' := 999) rfl rfl (fun d => rfl) ?_
        exact y_mono (w_op21 he (by omega) hA hR hI) (by omega)
      · refine y_in (pc' := 1042) rfl rfl (fun d => rfl) ?_
        exact y_mono (w_op22 he (by omega) hA hR hI) (by omega)
      · refine y_in (pc' := 1065) rfl rfl (fun d => rfl) ?_
        exact y_mono (w_op23 he (by omega) hA hR hI) (by omega)
      · refine y_in (pc' := 1098) rfl rfl (fun d => rfl) ?_
        exact y_mono (w_op24 he (by omega) hA hR hI) (by omega)
      · refine y_in (pc' := 1111) rfl rfl (fun d => rfl) ?_
        exact y_mono (w_op25 he (by omega) hA hR hI) (by omega)
      · refine y_in (pc' := 1124) rfl rfl (fun d => rfl) ?_
        exact y_mono (w_op26 he (by omega) hA hR hI) (by omega)
      · refine y_in (pc' := 1147) rfl rfl (fun d => rfl) ?_
        exact y_mono (hI _ _ _ _ (RR_le hR (Nat.le_succ cnt))) (by omega)
      · refine y_in (pc' := 1147) rfl rfl (fun d => rfl) ?_
        exact y_mono (hI _ _ _ _ (RR_le hR (Nat.le_succ cnt))) (by omega)
      · refine y_in (pc' := 1147) rfl rfl (fun d => rfl) ?_
        exact y_mono (hI _ _ _ _ (RR_le hR (Nat.le_succ cnt))) (by omega)
      · refine y_in (pc' := 1147) rfl rfl (fun d => rfl) ?_
        exact y_mono (hI _ _ _ _ (RR_le hR (Nat.le_succ cnt))) (by omega)
      · refine y_in (pc' := 1147) rfl rfl (fun d => rfl) ?_
        exact y_mono (hI _ _ _ _ (RR_le hR (Nat.le_succ cnt))) (by omega)
theorem x_hX_ln : m_hX.length = 170 ∧ m_hX.length ≤ 170 ∧ m_sz m_hX ≤ 5222 := by decide +kernel
theorem x_h0b : m_h0.length ≤ 193 ∧ m_sz m_h0 ≤ 11164 := by decide +kernel
set_option maxRecDepth 100000 in
set_option maxHeartbeats 4000000 in
theorem law_pre (xs : List Int32) (n : Nat) (K : Nat → Nat → m_R → Prop) (k : x_E (m_X xs) 60 181 193 11164 n 18 [(3, .int 0), (2, .ref 170), (1, .ref 0), (0, .ref 1000000)] [] m_h0 K) : x_E (m_X xs) 60 181 0 0 (n + 10) 0 [(0, .ref 1000000)] [] [] K := by
  refine x_new (L := 0) (z := 5) rfl rfl (by decide) rfl ?_
  refine x_in rfl rfl rfl ?_
  refine x_cI rfl (by decide) rfl rfl ⟨(Nat.le_of_ble_eq_true rfl), (Nat.le_of_ble_eq_true rfl), (Nat.le_of_ble_eq_true rfl)⟩ (x_done (u' := 170) (w' := 5222) (x_run0 _ _ _ _ _ x_ctorX) (fun _ _ => x_hX_ln.2) ?_)
  refine x_in rfl rfl rfl ?_
  refine x_new (L := 170) (z := 44) rfl (show _ = 170 from x_hX_ln.1) (by decide) rfl ?_
  refine x_in rfl rfl rfl ?_
  refine x_cI rfl (by decide) rfl rfl ⟨(Nat.le_of_ble_eq_true rfl), (Nat.le_of_ble_eq_true rfl), (Nat.le_of_ble_eq_true rfl)⟩ (x_done (u' := 193) (w' := 11164) (x_run0 _ _ _ _ _ x_ctorM) (fun _ _ => x_h0b) ?_)
  refine x_in rfl rfl rfl ?_
  refine x_in rfl rfl rfl ?_
  refine x_top (show _ = Value.int (0 : Int32) from congrArg Value.int (by decide)) ?_
  refine x_in rfl rfl rfl ?_
  exact k
theorem part_ok (xs : List Int32) (h : xs.length ≤ 384) : m_Ok xs := by
  have key : x_E (m_X xs) 60 181 193 11164 999990 18 [(3, .int 0), (2, .ref 170), (1, .ref 0), (0, .ref 1000000)] [] m_h0 lK := by
    refine y_toX (F := 200 * 65 + 50) ?_ (by decide)
    exact law_loop h 65 0 193 11164 m_h0 v_V0 0 rfl (Nat.zero_le _) (by omega) RR_0
  obtain ⟨r, u, w, h1, h2, h3, h4, h5, h6⟩ := law_pre xs 999990 lK key (Nat.le_refl _) (Nat.le_refl _)
  refine ⟨r.2, ?_, Nat.le_trans h2 h5, Nat.le_trans h3 h6⟩
  rw [h1]
  show some (r.1, r.2) = _
  rw [h4]
