/-! packets SENT and LET GO: the class -/
theorem TAx_RT {S : m_H} {V : v_V} {σ : Nat → Int} {tl : Nat → List p_Li} {cnt : Nat} (h : RT S V 1 σ tl) (hN : RN V 1 σ) (hs : SO cnt σ) : ∃ ta, TAx S V ta ∧ ∀ i t : Nat, (i : Int) < σ 0 → m_nth ta i = some (.ref t) → 193 ≤ t ∧ TxS S t ∧ CT V t (tl i) := by
  obtain ⟨ta, a1, a2, a3, a4⟩ := h
  have e := hN.1.2.1
  have s := hs.1.1
  refine ⟨ta, ⟨a1, a2, by omega, by omega, fun i hi => ?_⟩, fun i t hi ht => ?_⟩
  · obtain ⟨t, b1, b2, b3, b4⟩ := a4 i (by omega)
    exact ⟨t, b1, b2, b3⟩
  · obtain ⟨t2, b1, b2, b3, b4⟩ := a4 i hi
    rw [ht] at b1
    cases b1
    exact ⟨b2, b3, b4⟩
theorem CT_w6 {V : v_V} {t : Nat} {l : List p_Li} (h : CT V t l) (hl : TO l) : V t 6 ≤ 160 := by
  rw [h.2.1]
  have := hl.2.2.2.2
  omega
section
variable {X : Nat → List Int32} {u w : Nat} {S : m_H} {V : v_V} {K : v_K}
set_option maxRecDepth 100000 in
set_option maxHeartbeats 4000000 in
theorem lp_pass (hC : ClF S) {tl : Nat → List p_Li} {cnt pk : Nat} {a h κ n : Int} (hkl : 193 ≤ pk) (hpk : pkO a h κ n) {F : Nat} : ∀ (m : Nat) (r q : Nat) (σ : Nat → Int) (W : v_V), r < m → (RS S W 1 σ tl) → (SO cnt σ) → (∀ i : Nat, (i : Int) < σ 0 → TO (tl i)) → (((q + r : Nat) : Int) = σ 2) → (PkS S W pk a h κ n) → (∀ V2, RS S V2 1 (sgS tl a h κ n r q σ).2 tl → FrW W V2 → K u w (some (iv (sgS tl a h κ n r q σ).1)) S V2) → y_E X 6 47 (60 * m + F) u w 9 [(0, .ref 1), (1, .ref pk), (2, iv (q : Int))] [] S W K := by
  intro m
  induction m with
  | zero => intros; omega
  | succ m ih =>
    intro r q σ W hm hRS hSO hTO hqr hP hx2
    refine y_mono (F' := (60 * m + F) + 60) ?_ (by omega)
    refine y_ld (x := iv (q : Int)) rfl rfl (fun d => rfl) ?_
    refine y_ld (x := .ref 1) rfl rfl (fun d => rfl) ?_
    refine y_gI (i := 7) (e := (W 1 7)) rfl rfl rfl (hC 1 _ _ rfl) rfl rfl ?_
    refine y_jge rfl rfl rfl (by have := hRS.1.1; have := hSO.1; omega) (fun g1 => ?_) (fun g1 => ?_)
    · refine y_bi rfl rfl (by decide) ?_
      refine y_ld (x := .ref 1) rfl rfl (fun d => rfl) ?_
      refine y_gI (i := 7) (e := (W 1 7)) rfl rfl rfl (hC 1 _ _ rfl) rfl rfl ?_
      refine y_mul (z := (10 * (W 1 7))) rfl rfl rfl ?_
      refine y_ic rfl rfl ?_
      refine y_add (z := ((10 * (W 1 7)) + 1)) rfl rfl rfl ?_
      refine y_rI rfl (Or.inl rfl) ?_
      obtain rfl : r = 0 := by have := hRS.1.1; have := hSO.1; omega
      have e7 : 10 * W 1 7 + 1 = (sgS tl a h κ n 0 q σ).1 := by show _ = 10 * (q : Int) + 1; have := hRS.1.1; have := hSO.1; omega
      rw [e7]
      exact hx2 W hRS (FrW_rf W)
    · obtain ⟨h1, h2, h3, h4⟩ := hRS.1
      have hsz := hSO.1
      obtain ⟨r, rfl⟩ : ∃ e, r = e + 1 := ⟨r - 1, by omega⟩
      have hpo := hpk
      obtain ⟨p1, p2, p3, p4⟩ := hpo
      obtain ⟨w1, w2, w3, w4, w5⟩ := wBox_lt hSO (q := q) (by omega) p1
      have hr5 := hSO.2.2.2.2.1 q (by omega)
      have e5 : W 5 q = σ (1680 + q) := h3 q (by omega)
      have hBc := h4 (σ (1680 + q)).toNat (by omega)
      have el : W (10 + 6 * (σ (1680 + q)).toNat + 1) a.toNat = (((wBox σ q a) : Nat) : Int) := (hBc.2.2.2.2.2.1 a.toNat (by omega)).trans w5
      have hbw := h4 (wBox σ q a) w3
      have hx2t := (hSO.2.2.1 (wBox σ q a) w3).2.1
      have et : W (10 + 6 * (wBox σ q a)) 2 = σ (178 + (wBox σ q a)) := hbw.2.2.1
      obtain ⟨ta, hT, hTt⟩ := TAx_RT hRS.2.1 hRS.1 hSO
      have hTx := hx2t.2.2 w4
      have hl := hTO (σ (178 + (wBox σ q a))).toNat (by omega)
      have hsg := RS_sg hRS hSO hTO w3 w4 hpk
      have hso := sgW_SO (tl := tl) (t := a) (h := h) (k := κ) (n := n) hSO w3 hl.2.2.1
      have hwl : ∀ j, j < 186 ∨ (194 ≤ j ∧ j < 200) ∨ 872 ≤ j → (sgW tl σ (wBox σ q a) a h κ n).2 j = σ j := fun j hj => sgW_lt hj w3
      have e2 := hwl 2 (by omega)
      have e0 := hwl 0 (by omega)
      refine y_ld (x := .ref 1) rfl rfl (fun d => rfl) ?_
      refine y_ld (x := .ref 1) rfl rfl (fun d => rfl) ?_
      refine y_gR (i := 6) rfl rfl rfl (hC 1 _ _ rfl) rfl ?_
      refine y_ld (x := iv (q : Int)) rfl rfl (fun d => rfl) ?_
      refine y_ild (x := (σ (1680 + q))) (q := q) rfl rfl (cl_ia hC (k := 5) (N := 6) rfl) (by omega) (by decide) (by omega) e5 ?_
      refine y_cV (as := [.ref 1, iv (σ (1680 + q))]) rfl rfl rfl rfl rfl (hC 1 _ _ rfl) ⟨rfl, (Nat.le_of_ble_eq_true rfl), (Nat.le_of_ble_eq_true rfl)⟩ (by decide) (cb_boxAt (x := σ (1680 + q)) hC (by omega) (by omega) (fun hno => absurd (show 0 ≤ σ (1680 + q) ∧ σ (1680 + q) < W 1 5 by omega) hno) (fun gB => ?_))
      refine y_nv ?_
      refine y_st (lv' := [(3, .ref (10 + 6 * (σ (1680 + q)).toNat)), (0, .ref 1), (1, .ref pk), (2, iv (q : Int))]) rfl rfl (fun d => rfl) ?_
      refine y_ld (x := .ref (10 + 6 * (σ (1680 + q)).toNat)) rfl rfl (fun d => rfl) ?_
      refine y_in (pc' := 36) rfl rfl (fun d => rfl) ?_
      refine y_ld (x := .ref 1) rfl rfl (fun d => rfl) ?_
      refine y_ld (x := .ref (10 + 6 * (σ (1680 + q)).toNat)) rfl rfl (fun d => rfl) ?_
      refine y_gR (i := 5) rfl rfl rfl (bx_ob hC (i := (σ (1680 + q)).toNat) (by omega)) rfl ?_
      refine y_ld (x := .ref pk) rfl rfl (fun d => rfl) ?_
      refine y_gI (i := 0) (e := a) rfl rfl rfl hP.1 rfl hP.2.1 ?_
      refine y_ild (x := (((wBox σ q a) : Nat) : Int)) (q := a.toNat) rfl rfl (bx_led hC (i := (σ (1680 + q)).toNat) (by omega)) (by omega) (by decide) (by omega) el ?_
      refine y_cV (as := [.ref 1, iv (((wBox σ q a) : Nat) : Int)]) rfl rfl rfl rfl rfl (hC 1 _ _ rfl) ⟨rfl, (Nat.le_of_ble_eq_true rfl), (Nat.le_of_ble_eq_true rfl)⟩ (by decide) (cb_boxAt (x := (((wBox σ q a) : Nat) : Int)) hC (by omega) (by omega) (fun hno => absurd (show 0 ≤ (((wBox σ q a) : Nat) : Int) ∧ (((wBox σ q a) : Nat) : Int) < W 1 5 by omega) hno) (fun gD => ?_))
      refine y_nv ?_
      refine y_st (lv' := [(4, .ref (10 + 6 * (wBox σ q a))), (3, .ref (10 + 6 * (σ (1680 + q)).toNat)), (0, .ref 1), (1, .ref pk), (2, iv (q : Int))]) rfl rfl (fun d => rfl) ?_
      refine y_ld (x := .ref (10 + 6 * (wBox σ q a))) rfl rfl (fun d => rfl) ?_
      refine y_in (pc' := 59) rfl rfl (fun d => rfl) ?_
      refine y_ld (x := .ref (10 + 6 * (wBox σ q a))) rfl rfl (fun d => rfl) ?_
      refine y_ld (x := .ref pk) rfl rfl (fun d => rfl) ?_
      refine y_ld (x := .ref 1) rfl rfl (fun d => rfl) ?_
      refine y_ld (x := .ref (10 + 6 * (wBox σ q a))) rfl rfl (fun d => rfl) ?_
      refine y_gI (i := 2) (e := (σ (178 + (wBox σ q a)))) rfl rfl rfl (bx_ob hC (i := (wBox σ q a)) (by omega)) rfl et ?_
      refine y_cV (as := [.ref 1, iv (σ (178 + (wBox σ q a)))]) rfl rfl rfl rfl rfl (hC 1 _ _ rfl) ⟨rfl, (Nat.le_of_ble_eq_true rfl), (Nat.le_of_ble_eq_true rfl)⟩ (by decide) (cb_textAt (x := σ (178 + (wBox σ q a))) hC hT (by omega) (fun hno => absurd (show 0 ≤ σ (178 + (wBox σ q a)) ∧ σ (178 + (wBox σ q a)) < W 1 3 by omega) hno) (fun (t : Nat) gT ht1 ht2 ht3 => ?_))
      obtain ⟨-, -, hct⟩ := hTt _ t (by omega) ht1
      refine y_nv ?_
      refine y_cV (as := [.ref (10 + 6 * (wBox σ q a)), .ref pk, .ref t]) rfl rfl rfl rfl rfl (bx_ob hC (i := (wBox σ q a)) (by omega)) ⟨rfl, (Nat.le_of_ble_eq_true rfl), (Nat.le_of_ble_eq_true rfl)⟩ (by decide) (cc_steps (b := (wBox σ q a)) (l := (tl (σ (178 + (wBox σ q a))).toNat)) hC w3 ht3 ht2 hkl hP hpk (fun p hp => by rw [hbw.2.2.2.2.2.2.1 p hp]; exact (hSO.2.2.1 _ w3).2.2.2.2.1 p hp) (CT_w6 hct hl) hct hl.1 hl.2.1 hl.2.2.1 ?_)
      refine y_nv ?_
      refine y_iv hsg.1 ?_
      refine y_st (lv' := [(5, iv ((sgW tl σ (wBox σ q a) a h κ n).1)), (4, .ref (10 + 6 * (wBox σ q a))), (3, .ref (10 + 6 * (σ (1680 + q)).toNat)), (0, .ref 1), (1, .ref pk), (2, iv (q : Int))]) rfl rfl (fun d => rfl) ?_
      refine y_ld (x := iv ((sgW tl σ (wBox σ q a) a h κ n).1)) rfl rfl (fun d => rfl) ?_
      refine y_ic rfl rfl ?_
      refine y_jeq rfl rfl rfl (by omega) (fun g2 => ?_) (fun g2 => ?_)
      · refine y_inc (z := ((q + 1 : Nat) : Int)) (lv' := [(2, iv ((q + 1 : Nat) : Int)), (5, iv ((sgW tl σ (wBox σ q a) a h κ n).1)), (4, .ref (10 + 6 * (wBox σ q a))), (3, .ref (10 + 6 * (σ (1680 + q)).toNat)), (0, .ref 1), (1, .ref pk)]) rfl rfl rfl (by omega) rfl ?_
        refine y_go rfl rfl ?_
        refine y_lv (l' := [(0, .ref 1), (1, .ref pk), (2, iv ((q + 1 : Nat) : Int))]) rfl ⟨rfl, rfl, rfl, trivial⟩ ?_
        rw [show sgS tl a h κ n (r + 1) q σ = sgS tl a h κ n r (q + 1) (sgW tl σ (wBox σ q a) a h κ n).2 from if_pos (by omega)] at hx2
        exact y_mono (ih r (q + 1) (sgW tl σ (wBox σ q a) a h κ n).2 (v_ur (v_up W (10 + 6 * (wBox σ q a)) 3 (eL (W (10 + 6 * (wBox σ q a) + 3)) a h κ n 0 (tl (σ (178 + (wBox σ q a))).toNat))) (10 + 6 * (wBox σ q a) + 3) (eW a h κ n (tl (σ (178 + (wBox σ q a))).toNat) (W (10 + 6 * (wBox σ q a) + 3))).2) (by omega) hsg.2 hso.1 (by rw [e0]; exact hTO) (by rw [e2]; omega) (PkS_r hP (FrW_hi (FrW_st w3) _ (by omega))) (fun V2 a1 a2 => hx2 V2 a1 (FrW_tr (FrW_st w3) a2))) (by omega)
      · refine y_bi rfl rfl (by decide) ?_
        refine y_ld (x := iv (q : Int)) rfl rfl (fun d => rfl) ?_
        refine y_mul (z := (10 * (q : Int))) rfl rfl rfl ?_
        refine y_ld (x := iv ((sgW tl σ (wBox σ q a) a h κ n).1)) rfl rfl (fun d => rfl) ?_
        refine y_add (z := ((10 * (q : Int)) + ((sgW tl σ (wBox σ q a) a h κ n).1))) rfl rfl rfl ?_
        refine y_rI rfl (Or.inl rfl) ?_
        rw [show sgS tl a h κ n (r + 1) q σ = (10 * (q : Int) + (sgW tl σ (wBox σ q a) a h κ n).1, (sgW tl σ (wBox σ q a) a h κ n).2) from if_neg (by omega)] at hx2
        exact hx2 _ hsg.2 (FrW_st w3)
set_option maxRecDepth 100000 in
set_option maxHeartbeats 4000000 in
theorem cc_pass (hC : ClF S) {tl : Nat → List p_Li} {cnt pk : Nat} {a h κ n : Int} (hkl : 193 ≤ pk) (hpk : pkO a h κ n) {σ : Nat → Int} (hRS : RS S V 1 σ tl) (hSO : SO cnt σ) (hTO : ∀ i : Nat, (i : Int) < σ 0 → TO (tl i)) (hP : PkS S V pk a h κ n) (k : ∀ V2, RS S V2 1 (sgS tl a h κ n (σ 2).toNat 0 σ).2 tl → FrW V V2 → K u w (some (iv (sgS tl a h κ n (σ 2).toNat 0 σ).1)) S V2) : y_R X 7 47 u w [.ref 1, .ref pk] S V K := by
  refine y_ent (lv' := [(0, .ref 1), (1, .ref pk)]) (Nat.le_of_ble_eq_true rfl) rfl ?_
  refine y_ld (x := .ref pk) rfl rfl (fun d => rfl) ?_
  refine y_in (pc' := 7) rfl rfl (fun d => rfl) ?_
  refine y_ic rfl rfl ?_
  refine y_st (lv' := [(2, iv 0), (0, .ref 1), (1, .ref pk)]) rfl rfl (fun d => rfl) ?_
  refine y_lv (l' := [(0, .ref 1), (1, .ref pk), (2, iv ((0 : Nat) : Int))]) rfl ⟨rfl, rfl, rfl, trivial⟩ ?_
  exact y_mono (lp_pass (F := 100) hC hkl hpk 7 (σ 2).toNat 0 σ V (by have := hSO.1; omega) hRS hSO hTO (by have := hSO.1; omega) hP k) (by decide)
end
