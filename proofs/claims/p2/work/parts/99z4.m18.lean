/-! work, send, release: the reference -/
def FrM (V V2 : v_V) : Prop := (∀ k, k ≠ 170 → k ≠ 171 → k ≠ 179 → V2 k = V k) ∧ ∀ i, i ≠ 21 → i ≠ 22 → i ≠ 23 → V2 170 i = V 170 i
def FrP (V V2 : v_V) : Prop := (∀ k, k ≠ 170 → k ≠ 171 → k ≠ 179 → V2 k = V k) ∧ ∀ i, i < 17 ∨ 23 < i → V2 170 i = V 170 i
theorem FrM_rf (V : v_V) : FrM V V := ⟨fun _ _ _ _ => rfl, fun _ _ _ _ => rfl⟩
theorem FrM_tr {V V' V'' : v_V} (h : FrM V V') (h2 : FrM V' V'') : FrM V V'' := ⟨fun k a b c => (h2.1 k a b c).trans (h.1 k a b c), fun i a b c => (h2.2 i a b c).trans (h.2 i a b c)⟩
theorem FrP_rf (V : v_V) : FrP V V := ⟨fun _ _ _ _ => rfl, fun _ _ => rfl⟩
theorem FrP_tr {V V' V'' : v_V} (h : FrP V V') (h2 : FrP V' V'') : FrP V V'' := ⟨fun k a b c => (h2.1 k a b c).trans (h.1 k a b c), fun i a => (h2.2 i a).trans (h.2 i a)⟩
theorem FrP_M {V V' : v_V} (h : FrM V V') : FrP V V' := ⟨h.1, fun i hi => h.2 i (by omega) (by omega) (by omega)⟩
theorem MT_r {V V' : v_V} {i : Nat} {l : List p_Li} (h : MT V i l) (e : ∀ k, k ≠ 170 → k ≠ 171 → k ≠ 179 → V' k = V k) : MT V' i l := by
  obtain ⟨a1, a2, a3, a4, a5⟩ := h
  refine ⟨by rw [e 174 (by decide) (by decide) (by decide)]; exact a1, ?_, by rw [e 175 (by decide) (by decide) (by decide)]; exact a3, ?_, ?_⟩
  · rw [e 173 (by decide) (by decide) (by decide)]; exact a2
  · unfold AM
    rw [e 176 (by decide) (by decide) (by decide)]; exact a4
  · rw [e 177 (by decide) (by decide) (by decide)]; exact a5
abbrev pkU (V : v_V) (t h y o : Int) : v_V := v_up (v_up (v_up (v_up V 170 17 t) 170 18 h) 170 19 y) 170 20 o
theorem pkU_fr (V : v_V) (t h y o : Int) : FrP V (pkU V t h y o) := by
  refine ⟨fun k a b c => ?_, fun i hi => ?_⟩
  · unfold pkU
    rw [v_up_ne a, v_up_ne a, v_up_ne a, v_up_ne a]
  · unfold pkU
    rw [v_up_ni (by omega), v_up_ni (by omega), v_up_ni (by omega), v_up_ni (by omega)]
theorem pkU_171 (V : v_V) (t h y o : Int) (k : Nat) (hk : k ≠ 170) : pkU V t h y o k = V k := by
  unfold pkU
  rw [v_up_ne hk, v_up_ne hk, v_up_ne hk, v_up_ne hk]
theorem pkU_pk (V : v_V) (t h y o : Int) : PkM (pkU V t h y o) t h y o := by
  refine ⟨?_, ?_, ?_, ?_⟩
  · unfold pkU
    rw [v_up_ni (by decide), v_up_ni (by decide), v_up_ni (by decide), v_up_eq]
  · unfold pkU
    rw [v_up_ni (by decide), v_up_ni (by decide), v_up_eq]
  · unfold pkU
    rw [v_up_ni (by decide), v_up_eq]
  · unfold pkU
    rw [v_up_eq]
section
variable {X : Nat → List Int32} {u w : Nat} {S : m_H} {V : v_V} {K : v_K}
set_option maxRecDepth 100000 in
set_option maxHeartbeats 4000000 in
theorem ct_packet (hM : MdS S) {t h y o : Int} (k : K u w none S (pkU V t h y o)) : y_R X 1 133 u w [.ref 170, iv t, iv h, iv y, iv o] S V K := by
  refine y_ent (lv' := [(0, .ref 170), (1, iv t), (2, iv h), (3, iv y), (4, iv o)]) (Nat.le_of_ble_eq_true rfl) rfl ?_
  refine y_ld (x := .ref 170) rfl rfl (fun d => rfl) ?_
  refine y_ld (x := iv t) rfl rfl (fun d => rfl) ?_
  refine y_pI (i := 17) rfl rfl rfl (md170 hM) rfl rfl ?_
  refine y_ld (x := .ref 170) rfl rfl (fun d => rfl) ?_
  refine y_ld (x := iv h) rfl rfl (fun d => rfl) ?_
  refine y_pI (i := 18) rfl rfl rfl (md170 hM) rfl rfl ?_
  refine y_ld (x := .ref 170) rfl rfl (fun d => rfl) ?_
  refine y_ld (x := iv y) rfl rfl (fun d => rfl) ?_
  refine y_pI (i := 19) rfl rfl rfl (md170 hM) rfl rfl ?_
  refine y_ld (x := .ref 170) rfl rfl (fun d => rfl) ?_
  refine y_ld (x := iv o) rfl rfl (fun d => rfl) ?_
  refine y_pI (i := 20) rfl rfl rfl (md170 hM) rfl rfl ?_
  refine y_ret rfl (fun d => rfl) ?_
  exact k
set_option maxRecDepth 100000 in
set_option maxHeartbeats 4000000 in
theorem ct_worksBox (hM : MdS S) {tl : Nat → List p_Li} {cnt : Nat} {a h κ n : Int} (hpk : pkO a h κ n) (hP : PkM V a h κ n) (hSO : SO cnt (V 171)) {b : Nat} (hb : b < 8) (hbn : (b : Int) < V 171 1) (hMT : MT V (V 171 (178 + b)).toNat (tl (V 171 (178 + b)).toNat)) (hl : TO (tl (V 171 (178 + b)).toNat)) (k : ∀ V2, V2 171 = (sgW tl (V 171) b a h κ n).2 → FrM V V2 → K u w (some (iv (sgW tl (V 171) b a h κ n).1)) S V2) : y_R X 7 134 u w [.ref 170, iv (b : Int)] S V K := by
  have hb3 := hSO.2.2.1 b hb
  have hb5 := hb3.2.2.2.2.1
  have hb6 := hb3.2.1
  have hsz := hSO.1
  have hbx := hb6.2.2 hbn
  refine y_ent (lv' := [(0, .ref 170), (1, iv (b : Int))]) (Nat.le_of_ble_eq_true rfl) rfl ?_
  refine y_ld (x := .ref 170) rfl rfl (fun d => rfl) ?_
  refine y_ic rfl rfl ?_
  refine y_pZ (i := 21) rfl rfl rfl (md170 hM) rfl rfl (by decide) ?_
  refine y_ld (x := .ref 170) rfl rfl (fun d => rfl) ?_
  refine y_si rfl rfl (by decide) ?_
  refine y_bi rfl rfl (by decide) ?_
  refine y_ld (x := iv (b : Int)) rfl rfl (fun d => rfl) ?_
  refine y_mul (z := (84 * (b : Int))) rfl rfl rfl ?_
  refine y_add (z := ((200 + 84 * b : Nat) : Int)) rfl rfl (by omega) ?_
  refine y_pI (i := 22) rfl rfl rfl (md170 hM) rfl rfl ?_
  refine y_ld (x := .ref 170) rfl rfl (fun d => rfl) ?_
  refine y_ld (x := .ref 170) rfl rfl (fun d => rfl) ?_
  refine y_gR (i := 1) rfl rfl rfl (md170 hM) rfl ?_
  refine y_si rfl rfl (by decide) ?_
  refine y_ld (x := iv (b : Int)) rfl rfl (fun d => rfl) ?_
  refine y_add (z := (178 + (b : Int))) rfl rfl rfl ?_
  refine y_ild (x := (((V 171 (178 + b)).toNat : Nat) : Int)) (q := (178 + b)) rfl rfl (md171 hM) (by omega) (by decide) (by omega) (by rw [v_up_ne (by decide), v_up_ne (by decide)]; omega) ?_
  have e1 : (v_up (v_up V 170 21 0) 170 22 ((200 + 84 * b : Nat) : Int)) 171 = V 171 := ((v_up_ne (by decide)).trans (v_up_ne (by decide)))
  refine y_cV (as := [.ref 170, iv (((V 171 (178 + b)).toNat : Nat) : Int)]) rfl rfl rfl rfl rfl (md170 hM) ⟨rfl, (Nat.le_of_ble_eq_true rfl), (Nat.le_of_ble_eq_true rfl)⟩ (by decide) (ct_works (A := 171) (B := 200 + 84 * b) (i := (V 171 (178 + b)).toNat) (l := tl (V 171 (178 + b)).toNat) hM ⟨v_up_eq _ _ _ _, Or.inl ⟨(v_up_ni (by decide)).trans (v_up_eq _ _ _ _), rfl, by omega⟩⟩ (PkM_r hP (fun i _ _ => (v_up_ni (by omega)).trans (v_up_ni (by omega)))) hpk (Or.inl rfl) (by rw [e1]; exact hb5) (by omega) (MT_r hMT (fun k q1 _ _ => by rw [v_up_ne q1, v_up_ne q1])) hl.2.2.2.1 hl.2.2.1 hl.1 hl.2.1 (fun τ => ?_))
  rw [e1]
  refine y_nv ?_
  refine y_st (lv' := [(2, iv ((eW a h κ n (tl (V 171 (178 + b)).toNat) (zm (V 171) (200 + 84 * b))).1)), (0, .ref 170), (1, iv (b : Int))]) rfl rfl (fun d => rfl) ?_
  refine y_ld (x := .ref 170) rfl rfl (fun d => rfl) ?_
  refine y_gR (i := 1) rfl rfl rfl (md170 hM) rfl ?_
  refine y_si rfl rfl (by decide) ?_
  refine y_ld (x := iv (b : Int)) rfl rfl (fun d => rfl) ?_
  refine y_add (z := (186 + (b : Int))) rfl rfl rfl ?_
  refine y_ld (x := .ref 170) rfl rfl (fun d => rfl) ?_
  refine y_gI (i := 23) (e := (eL (zm (V 171) (200 + 84 * b)) a h κ n 0 (tl (V 171 (178 + b)).toNat))) rfl rfl rfl (md170 hM) rfl rfl ?_
  refine y_ist (q := (186 + b)) rfl rfl (md171 hM) (by omega) (by decide) (by omega) ?_
  refine y_ld (x := iv ((eW a h κ n (tl (V 171 (178 + b)).toNat) (zm (V 171) (200 + 84 * b))).1)) rfl rfl (fun d => rfl) ?_
  refine y_rI rfl (Or.inl rfl) ?_
  refine k _ ((v_up_row _ _ _ _).trans (by rw [v_ur_eq]; rfl)) ⟨fun k q1 q2 q3 => ?_, fun i q1 q2 q3 => ?_⟩
  · rw [v_up_ne q2, v_ur_ne q2, v_up_ne q1, v_ur_ne q3, v_up_ne q1, v_up_ne q1]
  · rw [v_up_ne (by decide), v_ur_ne (by decide), v_up_ni q3, v_ur_ne (by decide), v_up_ni q2, v_up_ni q1]
set_option maxRecDepth 100000 in
set_option maxHeartbeats 4000000 in
theorem lp_sends (hM : MdS S) {tl : Nat → List p_Li} {cnt : Nat} {a h κ n : Int} (hpk : pkO a h κ n) {F : Nat} : ∀ (m : Nat) (r q : Nat) (W : v_V), r < m → (SO cnt (W 171)) → (∀ i : Nat, (i : Int) < W 171 0 → TO (tl i)) → (∀ i : Nat, (i : Int) < W 171 0 → MT W i (tl i)) → (((q + r : Nat) : Int) = W 171 2) → (PkM W a h κ n) → (∀ V2, V2 171 = (sgS tl a h κ n r q (W 171)).2 → FrM W V2 → K u w (some (iv (sgS tl a h κ n r q (W 171)).1)) S V2) → y_E X 7 143 (60 * m + F) u w 2 [(0, .ref 170), (1, iv (q : Int))] [] S W K := by
  intro m
  induction m with
  | zero => intros; omega
  | succ m ih =>
    intro r q W hm hSO hTO hMTs hqr hP hx2
    refine y_mono (F' := (60 * m + F) + 60) ?_ (by omega)
    refine y_ld (x := iv (q : Int)) rfl rfl (fun d => rfl) ?_
    refine y_ld (x := .ref 170) rfl rfl (fun d => rfl) ?_
    refine y_gR (i := 1) rfl rfl rfl (md170 hM) rfl ?_
    refine y_ic rfl rfl ?_
    refine y_ild (x := (W 171 2)) (q := 2) rfl rfl (md171 hM) (by decide) (by decide) rfl rfl ?_
    refine y_jge rfl rfl rfl (by have := hSO.1; omega) (fun g1 => ?_) (fun g1 => ?_)
    · refine y_bi rfl rfl (by decide) ?_
      refine y_ld (x := .ref 170) rfl rfl (fun d => rfl) ?_
      refine y_gR (i := 1) rfl rfl rfl (md170 hM) rfl ?_
      refine y_ic rfl rfl ?_
      refine y_ild (x := (W 171 2)) (q := 2) rfl rfl (md171 hM) (by decide) (by decide) rfl rfl ?_
      refine y_mul (z := (10 * (W 171 2))) rfl rfl rfl ?_
      refine y_ic rfl rfl ?_
      refine y_add (z := ((10 * (W 171 2)) + 1)) rfl rfl rfl ?_
      refine y_rI rfl (Or.inl rfl) ?_
      obtain rfl : r = 0 := by have := hSO.1; omega
      have e7 : 10 * W 171 2 + 1 = (sgS tl a h κ n 0 q (W 171)).1 := by show _ = 10 * (q : Int) + 1; have := hSO.1; omega
      rw [e7]
      exact hx2 W rfl (FrM_rf W)
    · have hsz := hSO.1
      obtain ⟨r, rfl⟩ : ∃ e, r = e + 1 := ⟨r - 1, by omega⟩
      have hpo := hpk
      obtain ⟨p1, p2, p3, p4⟩ := hpo
      obtain ⟨w1, w2, w3, w4, w5⟩ := wBox_lt hSO (q := q) (by omega) p1
      have hr5 := hSO.2.2.2.2.1 q (by omega)
      have hx2t := (hSO.2.2.1 (wBox (W 171) q a) w3).2.1
      have hTx := hx2t.2.2 w4
      have hl := hTO (W 171 (178 + (wBox (W 171) q a))).toNat (by omega)
      have hso := sgW_SO (tl := tl) (t := a) (h := h) (k := κ) (n := n) hSO w3 hl.2.2.1
      have hwl : ∀ j, j < 186 ∨ (194 ≤ j ∧ j < 200) ∨ 872 ≤ j → (sgW tl (W 171) (wBox (W 171) q a) a h κ n).2 j = W 171 j := fun j hj => sgW_lt hj w3
      have e2 := hwl 2 (by omega)
      have e0 := hwl 0 (by omega)
      refine y_ld (x := .ref 170) rfl rfl (fun d => rfl) ?_
      refine y_ld (x := .ref 170) rfl rfl (fun d => rfl) ?_
      refine y_gR (i := 1) rfl rfl rfl (md170 hM) rfl ?_
      refine y_si rfl rfl (by decide) ?_
      refine y_bi rfl rfl (by decide) ?_
      refine y_ld (x := .ref 170) rfl rfl (fun d => rfl) ?_
      refine y_gR (i := 1) rfl rfl rfl (md170 hM) rfl ?_
      refine y_si rfl rfl (by decide) ?_
      refine y_ld (x := iv (q : Int)) rfl rfl (fun d => rfl) ?_
      refine y_add (z := (1680 + (q : Int))) rfl rfl rfl ?_
      refine y_ild (x := (W 171 (1680 + q))) (q := (1680 + q)) rfl rfl (md171 hM) (by omega) (by decide) (by omega) rfl ?_
      refine y_mul (z := (16 * (W 171 (1680 + q)))) rfl rfl rfl ?_
      refine y_add (z := (1552 + (16 * (W 171 (1680 + q))))) rfl rfl rfl ?_
      refine y_ld (x := .ref 170) rfl rfl (fun d => rfl) ?_
      refine y_gI (i := 17) (e := a) rfl rfl rfl (md170 hM) rfl hP.1 ?_
      refine y_add (z := ((1552 + (16 * (W 171 (1680 + q)))) + a)) rfl rfl rfl ?_
      refine y_ild (x := (((wBox (W 171) q a) : Nat) : Int)) (q := (1552 + 16 * (W 171 (1680 + q)).toNat + a.toNat)) rfl rfl (md171 hM) (by omega) (by decide) (by omega) w5 ?_
      refine y_cV (as := [.ref 170, iv (((wBox (W 171) q a) : Nat) : Int)]) rfl rfl rfl rfl rfl (md170 hM) ⟨rfl, (Nat.le_of_ble_eq_true rfl), (Nat.le_of_ble_eq_true rfl)⟩ (by decide) (ct_worksBox hM hpk hP hSO w3 w4 (hMTs _ (by omega)) hl (fun V2 a1 a2 => ?_))
      refine y_nv ?_
      refine y_st (lv' := [(2, iv ((sgW tl (W 171) (wBox (W 171) q a) a h κ n).1)), (0, .ref 170), (1, iv (q : Int))]) rfl rfl (fun d => rfl) ?_
      refine y_ld (x := iv ((sgW tl (W 171) (wBox (W 171) q a) a h κ n).1)) rfl rfl (fun d => rfl) ?_
      refine y_ic rfl rfl ?_
      refine y_jeq rfl rfl rfl (by omega) (fun g2 => ?_) (fun g2 => ?_)
      · refine y_inc (z := ((q + 1 : Nat) : Int)) (lv' := [(1, iv ((q + 1 : Nat) : Int)), (2, iv ((sgW tl (W 171) (wBox (W 171) q a) a h κ n).1)), (0, .ref 170)]) rfl rfl rfl (by omega) rfl ?_
        refine y_go rfl rfl ?_
        refine y_lv (l' := [(0, .ref 170), (1, iv ((q + 1 : Nat) : Int))]) rfl ⟨rfl, rfl, trivial⟩ ?_
        rw [show sgS tl a h κ n (r + 1) q (W 171) = sgS tl a h κ n r (q + 1) (sgW tl (W 171) (wBox (W 171) q a) a h κ n).2 from if_pos (by omega), ← a1] at hx2
        exact y_mono (ih r (q + 1) V2 (by omega) (by rw [a1]; exact hso.1) (by rw [a1, e0]; exact hTO) (by rw [a1, e0]; exact fun i hi => MT_r (hMTs i hi) a2.1) (by rw [a1, e2]; omega) (PkM_r hP (fun i _ _ => a2.2 i (by omega) (by omega) (by omega))) (fun V3 b1 b2 => hx2 V3 b1 (FrM_tr a2 b2))) (by omega)
      · refine y_bi rfl rfl (by decide) ?_
        refine y_ld (x := iv (q : Int)) rfl rfl (fun d => rfl) ?_
        refine y_mul (z := (10 * (q : Int))) rfl rfl rfl ?_
        refine y_ld (x := iv ((sgW tl (W 171) (wBox (W 171) q a) a h κ n).1)) rfl rfl (fun d => rfl) ?_
        refine y_add (z := ((10 * (q : Int)) + ((sgW tl (W 171) (wBox (W 171) q a) a h κ n).1))) rfl rfl rfl ?_
        refine y_rI rfl (Or.inl rfl) ?_
        rw [show sgS tl a h κ n (r + 1) q (W 171) = (10 * (q : Int) + (sgW tl (W 171) (wBox (W 171) q a) a h κ n).1, (sgW tl (W 171) (wBox (W 171) q a) a h κ n).2) from if_neg (by omega)] at hx2
        exact hx2 _ a1 a2
set_option maxRecDepth 100000 in
set_option maxHeartbeats 4000000 in
theorem ct_sends (hM : MdS S) {tl : Nat → List p_Li} {cnt : Nat} {a h κ n : Int} (hpk : pkO a h κ n) (hP : PkM V a h κ n) (hSO : SO cnt (V 171)) (hTO : ∀ i : Nat, (i : Int) < V 171 0 → TO (tl i)) (hMTs : ∀ i : Nat, (i : Int) < V 171 0 → MT V i (tl i)) (k : ∀ V2, V2 171 = (sgS tl a h κ n (V 171 2).toNat 0 (V 171)).2 → FrM V V2 → K u w (some (iv (sgS tl a h κ n (V 171 2).toNat 0 (V 171)).1)) S V2) : y_R X 8 143 u w [.ref 170] S V K := by
  refine y_ent (lv' := [(0, .ref 170)]) (Nat.le_of_ble_eq_true rfl) rfl ?_
  refine y_ic rfl rfl ?_
  refine y_st (lv' := [(1, iv 0), (0, .ref 170)]) rfl rfl (fun d => rfl) ?_
  refine y_lv (l' := [(0, .ref 170), (1, iv ((0 : Nat) : Int))]) rfl ⟨rfl, rfl, trivial⟩ ?_
  exact y_mono (lp_sends (F := 100) hM hpk 7 (V 171 2).toNat 0 V (by have := hSO.1; omega) hSO hTO hMTs (by have := hSO.1; omega) hP k) (by decide)
set_option maxRecDepth 100000 in
set_option maxHeartbeats 4000000 in
theorem ms_work (hM : MdS S) {tl : Nat → List p_Li} {cnt : Nat} (hSO : SO cnt (V 171)) (hTO : ∀ i : Nat, (i : Int) < V 171 0 → TO (tl i)) (hMTs : ∀ i : Nat, (i : Int) < V 171 0 → MT V i (tl i)) {x : Int} (hx : (-2147483648 ≤ x ∧ x < 2147483648)) {t : Int} (ht : (-2147483648 ≤ t ∧ t < 2147483648)) {h : Int} (hh1 : (-2147483648 ≤ h ∧ h < 2147483648)) {y : Int} (hy : (-2147483648 ≤ y ∧ y < 2147483648)) {o : Int} (ho : (-2147483648 ≤ o ∧ o < 2147483648)) (k0 : ¬ (0 ≤ x ∧ x < V 171 1) → K u w (some (iv (-1))) S V) (k1 : 0 ≤ x ∧ x < V 171 1 → ¬ z_rf t h y o = 0 → K u w (some (iv (z_rf t h y o))) S V) (k2 : 0 ≤ x ∧ x < V 171 1 → z_rf t h y o = 0 → ∀ V2, V2 171 = (sgW tl (V 171) x.toNat t h y o).2 → FrP V V2 → K u w (some (iv (sgW tl (V 171) x.toNat t h y o).1)) S V2) : y_R X 8 137 u w [.ref 170, iv x, iv t, iv h, iv y, iv o] S V K := by
  have hsz := hSO.1
  have hB : 0 ≤ V 171 1 ∧ V 171 1 ≤ 8 := by omega
  refine y_ent (lv' := [(0, .ref 170), (1, iv x), (2, iv t), (3, iv h), (4, iv y), (5, iv o)]) (Nat.le_of_ble_eq_true rfl) rfl ?_
  refine y_ld (x := .ref 170) rfl rfl (fun d => rfl) ?_
  refine y_ld (x := iv x) rfl rfl (fun d => rfl) ?_
  refine y_cV (as := [.ref 170, iv x]) rfl rfl rfl rfl rfl (md170 hM) ⟨rfl, (Nat.le_of_ble_eq_true rfl), (Nat.le_of_ble_eq_true rfl)⟩ (by decide) (ct_isBox hM (by omega) ⟨rfl, by omega⟩ ?_)
  refine y_nv ?_
  refine y_beq rfl rfl rfl (fun g1 => ?_) (fun g1 => ?_)
  · refine y_ic rfl rfl ?_
    refine y_rI rfl (Or.inl rfl) ?_
    by_cases hxb : 0 ≤ x ∧ x < V 171 1
    · have e : z_rf t h y o = -1 := if_neg (by omega)
      have := k1 hxb (by omega)
      rwa [e] at this
    · exact k0 hxb
  · refine y_ld (x := iv t) rfl rfl (fun d => rfl) ?_
    refine y_ld (x := iv h) rfl rfl (fun d => rfl) ?_
    refine y_ld (x := iv y) rfl rfl (fun d => rfl) ?_
    refine y_cS (as := [iv t, iv h, iv y]) rfl (by decide) rfl rfl rfl rfl ⟨(Nat.le_of_ble_eq_true rfl), (Nat.le_of_ble_eq_true rfl)⟩ (by decide) (ct_isPacket (by omega) ?_)
    refine y_nv ?_
    refine y_bne rfl rfl rfl (fun g2 => ?_) (fun g2 => ?_)
    · refine y_ld (x := iv o) rfl rfl (fun d => rfl) ?_
      refine y_ic rfl rfl ?_
      refine y_bi rfl rfl (by decide) ?_
      refine y_cS (as := [iv o, iv 0, iv 99]) rfl (by decide) rfl rfl rfl rfl ⟨(Nat.le_of_ble_eq_true rfl), (Nat.le_of_ble_eq_true rfl)⟩ (by decide) (ct_in (by omega) ?_)
      refine y_nv ?_
      refine y_bne rfl rfl rfl (fun g3 => ?_) (fun g3 => ?_)
      · refine y_ld (x := .ref 170) rfl rfl (fun d => rfl) ?_
        refine y_ld (x := iv t) rfl rfl (fun d => rfl) ?_
        refine y_ld (x := iv h) rfl rfl (fun d => rfl) ?_
        refine y_ld (x := iv y) rfl rfl (fun d => rfl) ?_
        refine y_ld (x := iv o) rfl rfl (fun d => rfl) ?_
        refine y_cV (as := [.ref 170, iv t, iv h, iv y, iv o]) rfl rfl rfl rfl rfl (md170 hM) ⟨rfl, (Nat.le_of_ble_eq_true rfl), (Nat.le_of_ble_eq_true rfl)⟩ (by decide) (ct_packet hM ?_)
        have hrf : z_rf t h y o = 0 := by unfold z_rf; rw [if_pos (by omega), if_pos (by omega)]
        have hpk := rf_pkO hrf
        have e171 : pkU V t h y o 171 = V 171 := pkU_171 V t h y o 171 (by decide)
        refine y_n0 ?_
        refine y_ld (x := .ref 170) rfl rfl (fun d => rfl) ?_
        refine y_ld (x := iv x) rfl rfl (fun d => rfl) ?_
        refine y_iv (e' := ((x.toNat : Nat) : Int)) (by omega) ?_
        have hb8 : x.toNat < 8 := by omega
        have hTx := (hSO.2.2.1 x.toNat hb8).2.1
        have hTy := hTx.2.2 (by omega)
        refine y_cV (as := [.ref 170, iv ((x.toNat : Nat) : Int)]) rfl rfl rfl rfl rfl (md170 hM) ⟨rfl, (Nat.le_of_ble_eq_true rfl), (Nat.le_of_ble_eq_true rfl)⟩ (by decide) (ct_worksBox (b := x.toNat) hM hpk (pkU_pk V t h y o) (by rw [e171]; exact hSO) hb8 (by rw [e171]; omega) (by rw [e171]; exact MT_r (hMTs _ (by omega)) (fun k q _ _ => pkU_171 V t h y o k q)) (by rw [e171]; exact hTO _ (by omega)) (fun V2 a1 a2 => ?_))
        rw [e171] at a1 ⊢
        refine y_nv ?_
        refine y_rI rfl (Or.inl rfl) ?_
        exact k2 (by omega) hrf V2 a1 (FrP_tr (pkU_fr V t h y o) (FrP_M a2))
      · refine y_bi rfl rfl (by decide) ?_
        refine y_rI rfl (Or.inl rfl) ?_
        have e : z_rf t h y o = -2 := by unfold z_rf; rw [if_pos (by omega), if_neg (by omega)]
        have := k1 (by omega) (by omega)
        rwa [e] at this
    · refine y_ic rfl rfl ?_
      refine y_rI rfl (Or.inl rfl) ?_
      by_cases hxb : 0 ≤ x ∧ x < V 171 1
      · have e : z_rf t h y o = -1 := if_neg (by omega)
        have := k1 hxb (by omega)
        rwa [e] at this
      · exact k0 hxb
set_option maxRecDepth 100000 in
set_option maxHeartbeats 4000000 in
theorem ms_send (hM : MdS S) {tl : Nat → List p_Li} {cnt : Nat} (hSO : SO cnt (V 171)) (hTO : ∀ i : Nat, (i : Int) < V 171 0 → TO (tl i)) (hMTs : ∀ i : Nat, (i : Int) < V 171 0 → MT V i (tl i)) {t : Int} (ht : (-2147483648 ≤ t ∧ t < 2147483648)) {h : Int} (hh1 : (-2147483648 ≤ h ∧ h < 2147483648)) {y : Int} (hy : (-2147483648 ≤ y ∧ y < 2147483648)) {o : Int} (ho : (-2147483648 ≤ o ∧ o < 2147483648)) {n : Nat} (hn : V 171 3 = (n : Int)) (k0 : ¬ z_rf t h y o = 0 → K u w (some (iv (z_rf t h y o))) S V) (k1 : z_rf t h y o = 0 → V 171 2 = 0 → K u w (some (iv (-3))) S V) (k2 : z_rf t h y o = 0 → ¬ V 171 2 = 0 → V 171 4 / 2 ^ t.toNat % 2 = 1 → 20 ≤ (n : Int) → K u w (some (iv (-4))) S V) (k3 : z_rf t h y o = 0 → ¬ V 171 2 = 0 → V 171 4 / 2 ^ t.toNat % 2 = 1 → (n : Int) < 20 → K u w (some (iv (-6))) S (v_up (v_up (v_up (v_up (v_up V 171 (1690 + 4 * n) t) 171 (1690 + 4 * n + 1) h) 171 (1690 + 4 * n + 2) y) 171 (1690 + 4 * n + 3) o) 171 3 ((n : Int) + 1))) (k4 : z_rf t h y o = 0 → ¬ V 171 2 = 0 → V 171 4 / 2 ^ t.toNat % 2 = 0 → ∀ V2, V2 171 = (sgS tl t h y o (V 171 2).toNat 0 (V 171)).2 → FrP V V2 → K u w (some (iv (sgS tl t h y o (V 171 2).toNat 0 (V 171)).1)) S V2) : y_R X 9 144 u w [.ref 170, iv t, iv h, iv y, iv o] S V K := by
  have hsz := hSO.1
  have hB : 0 ≤ V 171 1 ∧ V 171 1 ≤ 8 := by omega
  refine y_ent (lv' := [(0, .ref 170), (1, iv t), (2, iv h), (3, iv y), (4, iv o)]) (Nat.le_of_ble_eq_true rfl) rfl ?_
  refine y_ld (x := iv t) rfl rfl (fun d => rfl) ?_
  refine y_ld (x := iv h) rfl rfl (fun d => rfl) ?_
  refine y_ld (x := iv y) rfl rfl (fun d => rfl) ?_
  refine y_cS (as := [iv t, iv h, iv y]) rfl (by decide) rfl rfl rfl rfl ⟨(Nat.le_of_ble_eq_true rfl), (Nat.le_of_ble_eq_true rfl)⟩ (by decide) (ct_isPacket (by omega) ?_)
  refine y_nv ?_
  refine y_bne rfl rfl rfl (fun g1 => ?_) (fun g1 => ?_)
  · refine y_ld (x := iv o) rfl rfl (fun d => rfl) ?_
    refine y_ic rfl rfl ?_
    refine y_bi rfl rfl (by decide) ?_
    refine y_cS (as := [iv o, iv 0, iv 99]) rfl (by decide) rfl rfl rfl rfl ⟨(Nat.le_of_ble_eq_true rfl), (Nat.le_of_ble_eq_true rfl)⟩ (by decide) (ct_in (by omega) ?_)
    refine y_nv ?_
    refine y_bne rfl rfl rfl (fun g2 => ?_) (fun g2 => ?_)
    · refine y_ld (x := .ref 170) rfl rfl (fun d => rfl) ?_
      refine y_gR (i := 1) rfl rfl rfl (md170 hM) rfl ?_
      refine y_ic rfl rfl ?_
      refine y_ild (x := (V 171 2)) (q := 2) rfl rfl (md171 hM) (by decide) (by decide) rfl rfl ?_
      refine y_zne rfl rfl rfl (by omega) (fun g3 => ?_) (fun g3 => ?_)
      · refine y_ld (x := .ref 170) rfl rfl (fun d => rfl) ?_
        refine y_gR (i := 1) rfl rfl rfl (md170 hM) rfl ?_
        refine y_ic rfl rfl ?_
        refine y_ild (x := (V 171 4)) (q := 4) rfl rfl (md171 hM) (by decide) (by decide) rfl rfl ?_
        refine y_ld (x := iv t) rfl rfl (fun d => rfl) ?_
        refine y_op (z := (V 171 4 / 2 ^ t.toNat)) rfl rfl (fun d => rfl) (v_shr (by omega) (by omega)) ?_
        refine y_ic rfl rfl ?_
        refine y_op (z := (V 171 4 / 2 ^ t.toNat % 2)) rfl rfl (fun d => rfl) (v_and1 (Int.ediv_nonneg (by omega) (Int.le_of_lt (v_p2 _)))) ?_
        refine y_ic rfl rfl ?_
        have hb01 := v_bit01 (V 171 4) t.toNat
        refine y_jne rfl rfl rfl (by omega) (fun g4 => ?_) (fun g4 => ?_)
        · refine y_ld (x := .ref 170) rfl rfl (fun d => rfl) ?_
          refine y_ld (x := iv t) rfl rfl (fun d => rfl) ?_
          refine y_ld (x := iv h) rfl rfl (fun d => rfl) ?_
          refine y_ld (x := iv y) rfl rfl (fun d => rfl) ?_
          refine y_ld (x := iv o) rfl rfl (fun d => rfl) ?_
          refine y_cV (as := [.ref 170, iv t, iv h, iv y, iv o]) rfl rfl rfl rfl rfl (md170 hM) ⟨rfl, (Nat.le_of_ble_eq_true rfl), (Nat.le_of_ble_eq_true rfl)⟩ (by decide) (ct_packet hM ?_)
          have hrf : z_rf t h y o = 0 := by unfold z_rf; rw [if_pos (by omega), if_pos (by omega)]
          have hpk := rf_pkO hrf
          have e171 : pkU V t h y o 171 = V 171 := pkU_171 V t h y o 171 (by decide)
          refine y_n0 ?_
          refine y_ld (x := .ref 170) rfl rfl (fun d => rfl) ?_
          refine y_cV (as := [.ref 170]) rfl rfl rfl rfl rfl (md170 hM) ⟨rfl, (Nat.le_of_ble_eq_true rfl), (Nat.le_of_ble_eq_true rfl)⟩ (by decide) (ct_sends hM hpk (pkU_pk V t h y o) (by rw [e171]; exact hSO) (by rw [e171]; exact hTO) (by rw [e171]; exact fun i hi => MT_r (hMTs i hi) (fun k q _ _ => pkU_171 V t h y o k q)) (fun V2 a1 a2 => ?_))
          rw [e171] at a1 ⊢
          refine y_nv ?_
          refine y_rI rfl (Or.inl rfl) ?_
          exact k4 hrf (by omega) (by omega) V2 a1 (FrP_tr (pkU_fr V t h y o) (FrP_M a2))
        · refine y_ld (x := .ref 170) rfl rfl (fun d => rfl) ?_
          refine y_gR (i := 1) rfl rfl rfl (md170 hM) rfl ?_
          refine y_ic rfl rfl ?_
          refine y_ild (x := (n : Int)) (q := 3) rfl rfl (md171 hM) (by decide) (by decide) rfl hn ?_
          refine y_bi rfl rfl (by decide) ?_
          refine y_jne rfl rfl rfl (by omega) (fun g5 => ?_) (fun g5 => ?_)
          · refine y_si rfl rfl (by decide) ?_
            refine y_ic rfl rfl ?_
            refine y_ld (x := .ref 170) rfl rfl (fun d => rfl) ?_
            refine y_gR (i := 1) rfl rfl rfl (md170 hM) rfl ?_
            refine y_ic rfl rfl ?_
            refine y_ild (x := (n : Int)) (q := 3) rfl rfl (md171 hM) (by decide) (by decide) rfl hn ?_
            refine y_mul (z := (4 * (n : Int))) rfl rfl rfl ?_
            refine y_add (z := (1690 + (4 * (n : Int)))) rfl rfl rfl ?_
            refine y_st (lv' := [(5, iv (1690 + (4 * (n : Int)))), (0, .ref 170), (1, iv t), (2, iv h), (3, iv y), (4, iv o)]) rfl rfl (fun d => rfl) ?_
            refine y_ld (x := .ref 170) rfl rfl (fun d => rfl) ?_
            refine y_gR (i := 1) rfl rfl rfl (md170 hM) rfl ?_
            refine y_ld (x := iv (1690 + (4 * (n : Int)))) rfl rfl (fun d => rfl) ?_
            refine y_ld (x := iv t) rfl rfl (fun d => rfl) ?_
            refine y_ist (q := (1690 + 4 * n)) rfl rfl (md171 hM) (by omega) (by decide) (by omega) ?_
            refine y_ld (x := .ref 170) rfl rfl (fun d => rfl) ?_
            refine y_gR (i := 1) rfl rfl rfl (md170 hM) rfl ?_
            refine y_ld (x := iv (1690 + (4 * (n : Int)))) rfl rfl (fun d => rfl) ?_
            refine y_ic rfl rfl ?_
            refine y_add (z := ((1690 + (4 * (n : Int))) + 1)) rfl rfl rfl ?_
            refine y_ld (x := iv h) rfl rfl (fun d => rfl) ?_
            refine y_ist (q := (1690 + 4 * n + 1)) rfl rfl (md171 hM) (by omega) (by decide) (by omega) ?_
            refine y_ld (x := .ref 170) rfl rfl (fun d => rfl) ?_
            refine y_gR (i := 1) rfl rfl rfl (md170 hM) rfl ?_
            refine y_ld (x := iv (1690 + (4 * (n : Int)))) rfl rfl (fun d => rfl) ?_
            refine y_ic rfl rfl ?_
            refine y_add (z := ((1690 + (4 * (n : Int))) + 2)) rfl rfl rfl ?_
            refine y_ld (x := iv y) rfl rfl (fun d => rfl) ?_
            refine y_ist (q := (1690 + 4 * n + 2)) rfl rfl (md171 hM) (by omega) (by decide) (by omega) ?_
            refine y_ld (x := .ref 170) rfl rfl (fun d => rfl) ?_
            refine y_gR (i := 1) rfl rfl rfl (md170 hM) rfl ?_
            refine y_ld (x := iv (1690 + (4 * (n : Int)))) rfl rfl (fun d => rfl) ?_
            refine y_ic rfl rfl ?_
            refine y_add (z := ((1690 + (4 * (n : Int))) + 3)) rfl rfl rfl ?_
            refine y_ld (x := iv o) rfl rfl (fun d => rfl) ?_
            refine y_ist (q := (1690 + 4 * n + 3)) rfl rfl (md171 hM) (by omega) (by decide) (by omega) ?_
            refine y_ld (x := .ref 170) rfl rfl (fun d => rfl) ?_
            refine y_gR (i := 1) rfl rfl rfl (md170 hM) rfl ?_
            refine y_ic rfl rfl ?_
            refine y_in rfl rfl (fun d => rfl) ?_
            refine y_ild (x := (n : Int)) (q := 3) rfl rfl (md171 hM) (by decide) (by decide) rfl (by rw [v_up_ni (by omega), v_up_ni (by omega), v_up_ni (by omega), v_up_ni (by omega)]; exact hn) ?_
            refine y_ic rfl rfl ?_
            refine y_add (z := ((n : Int) + 1)) rfl rfl rfl ?_
            refine y_ist (q := 3) rfl rfl (md171 hM) (by decide) (by decide) rfl ?_
            refine y_bi rfl rfl (by decide) ?_
            refine y_rI rfl (Or.inl rfl) ?_
            have hrf : z_rf t h y o = 0 := by unfold z_rf; rw [if_pos (by omega), if_pos (by omega)]
            exact k3 hrf (by omega) (by omega) (by omega)
          · refine y_bi rfl rfl (by decide) ?_
            refine y_rI rfl (Or.inl rfl) ?_
            have hrf : z_rf t h y o = 0 := by unfold z_rf; rw [if_pos (by omega), if_pos (by omega)]
            exact k2 hrf (by omega) (by omega) (by omega)
      · refine y_bi rfl rfl (by decide) ?_
        refine y_rI rfl (Or.inl rfl) ?_
        have hrf : z_rf t h y o = 0 := by unfold z_rf; rw [if_pos (by omega), if_pos (by omega)]
        exact k1 hrf (by omega)
    · refine y_bi rfl rfl (by decide) ?_
      refine y_rI rfl (Or.inl rfl) ?_
      have e : z_rf t h y o = -2 := by unfold z_rf; rw [if_pos (by omega), if_neg (by omega)]
      have := k0 (by omega)
      rwa [e] at this
  · refine y_ic rfl rfl ?_
    refine y_rI rfl (Or.inl rfl) ?_
    have e : z_rf t h y o = -1 := if_neg (by omega)
    have := k0 (by omega)
    rwa [e] at this
set_option maxRecDepth 100000 in
set_option maxHeartbeats 4000000 in
theorem lp_rel (hM : MdS S) {tl : Nat → List p_Li} {cnt : Nat} {N : Int} (hN : 0 ≤ N ∧ N ≤ 20) {F : Nat} : ∀ (m : Nat) (r i : Nat) (W : v_V), r < m → (SO cnt (W 171)) → (∀ i : Nat, (i : Int) < W 171 0 → TO (tl i)) → (∀ i : Nat, (i : Int) < W 171 0 → MT W i (tl i)) → (((i + r : Nat) : Int) = N) → (∀ j : Nat, i ≤ j → j < i + r → pkO (W 171 (1690 + 4 * j)) (W 171 (1690 + 4 * j + 1)) (W 171 (1690 + 4 * j + 2)) (W 171 (1690 + 4 * j + 3))) → (∀ V2, V2 171 = rlS tl r i (W 171) → FrP W V2 → K u w (some (iv N)) S V2) → y_E X 8 149 (100 * m + F) u w 39 [(0, .ref 170), (1, iv N), (2, iv (i : Int))] [] S W K := by
  intro m
  induction m with
  | zero => intros; omega
  | succ m ih =>
    intro r i W hm hSO hTO hMTs hir hPO hx2
    refine y_mono (F' := (100 * m + F) + 100) ?_ (by omega)
    refine y_ld (x := iv (i : Int)) rfl rfl (fun d => rfl) ?_
    refine y_ld (x := iv N) rfl rfl (fun d => rfl) ?_
    refine y_jge rfl rfl rfl (by omega) (fun g1 => ?_) (fun g1 => ?_)
    · refine y_ld (x := iv N) rfl rfl (fun d => rfl) ?_
      refine y_rI rfl (Or.inl rfl) ?_
      obtain rfl : r = 0 := by omega
      exact hx2 W rfl (FrP_rf W)
    · obtain ⟨r, rfl⟩ : ∃ e, r = e + 1 := ⟨r - 1, by omega⟩
      have hpk := hPO i (by omega) (by omega)
      have hsz := hSO.1
      have hss := sgS_SO (cnt := cnt) (tl := tl) (h := W 171 (1690 + 4 * i + 1)) (k := W 171 (1690 + 4 * i + 2)) (n := W 171 (1690 + 4 * i + 3)) hpk.1 (W 171 2).toNat 0 (W 171) hSO hTO (by omega)
      have e171 : pkU W (W 171 (1690 + 4 * i)) (W 171 (1690 + 4 * i + 1)) (W 171 (1690 + 4 * i + 2)) (W 171 (1690 + 4 * i + 3)) 171 = W 171 := pkU_171 W _ _ _ _ 171 (by decide)
      refine y_si rfl rfl (by decide) ?_
      refine y_ic rfl rfl ?_
      refine y_ld (x := iv (i : Int)) rfl rfl (fun d => rfl) ?_
      refine y_mul (z := (4 * (i : Int))) rfl rfl rfl ?_
      refine y_add (z := (1690 + (4 * (i : Int)))) rfl rfl rfl ?_
      refine y_st (lv' := [(3, iv (1690 + (4 * (i : Int)))), (0, .ref 170), (1, iv N), (2, iv (i : Int))]) rfl rfl (fun d => rfl) ?_
      refine y_ld (x := .ref 170) rfl rfl (fun d => rfl) ?_
      refine y_ld (x := .ref 170) rfl rfl (fun d => rfl) ?_
      refine y_gR (i := 1) rfl rfl rfl (md170 hM) rfl ?_
      refine y_ld (x := iv (1690 + (4 * (i : Int)))) rfl rfl (fun d => rfl) ?_
      refine y_ild (x := (W 171 (1690 + 4 * i))) (q := (1690 + 4 * i)) rfl rfl (md171 hM) (by omega) (by decide) (by omega) rfl ?_
      refine y_ld (x := .ref 170) rfl rfl (fun d => rfl) ?_
      refine y_gR (i := 1) rfl rfl rfl (md170 hM) rfl ?_
      refine y_ld (x := iv (1690 + (4 * (i : Int)))) rfl rfl (fun d => rfl) ?_
      refine y_ic rfl rfl ?_
      refine y_add (z := ((1690 + (4 * (i : Int))) + 1)) rfl rfl rfl ?_
      refine y_ild (x := (W 171 (1690 + 4 * i + 1))) (q := (1690 + 4 * i + 1)) rfl rfl (md171 hM) (by omega) (by decide) (by omega) rfl ?_
      refine y_ld (x := .ref 170) rfl rfl (fun d => rfl) ?_
      refine y_gR (i := 1) rfl rfl rfl (md170 hM) rfl ?_
      refine y_ld (x := iv (1690 + (4 * (i : Int)))) rfl rfl (fun d => rfl) ?_
      refine y_ic rfl rfl ?_
      refine y_add (z := ((1690 + (4 * (i : Int))) + 2)) rfl rfl rfl ?_
      refine y_ild (x := (W 171 (1690 + 4 * i + 2))) (q := (1690 + 4 * i + 2)) rfl rfl (md171 hM) (by omega) (by decide) (by omega) rfl ?_
      refine y_ld (x := .ref 170) rfl rfl (fun d => rfl) ?_
      refine y_gR (i := 1) rfl rfl rfl (md170 hM) rfl ?_
      refine y_ld (x := iv (1690 + (4 * (i : Int)))) rfl rfl (fun d => rfl) ?_
      refine y_ic rfl rfl ?_
      refine y_add (z := ((1690 + (4 * (i : Int))) + 3)) rfl rfl rfl ?_
      refine y_ild (x := (W 171 (1690 + 4 * i + 3))) (q := (1690 + 4 * i + 3)) rfl rfl (md171 hM) (by omega) (by decide) (by omega) rfl ?_
      refine y_cV (as := [.ref 170, iv (W 171 (1690 + 4 * i)), iv (W 171 (1690 + 4 * i + 1)), iv (W 171 (1690 + 4 * i + 2)), iv (W 171 (1690 + 4 * i + 3))]) rfl rfl rfl rfl rfl (md170 hM) ⟨rfl, (Nat.le_of_ble_eq_true rfl), (Nat.le_of_ble_eq_true rfl)⟩ (by decide) (ct_packet hM ?_)
      refine y_n0 ?_
      refine y_ld (x := .ref 170) rfl rfl (fun d => rfl) ?_
      refine y_cV (as := [.ref 170]) rfl rfl rfl rfl rfl (md170 hM) ⟨rfl, (Nat.le_of_ble_eq_true rfl), (Nat.le_of_ble_eq_true rfl)⟩ (by decide) (ct_sends hM hpk (pkU_pk W _ _ _ _) (by rw [e171]; exact hSO) (by rw [e171]; exact hTO) (by rw [e171]; exact fun i hi => MT_r (hMTs i hi) (fun k q _ _ => pkU_171 W _ _ _ _ k q)) (fun V2 a1 a2 => ?_))
      rw [e171] at a1 ⊢
      refine y_nv ?_
      refine y_st (lv' := [(4, iv ((sgS tl (W 171 (1690 + 4 * i)) (W 171 (1690 + 4 * i + 1)) (W 171 (1690 + 4 * i + 2)) (W 171 (1690 + 4 * i + 3)) (W 171 2).toNat 0 (W 171)).1)), (3, iv (1690 + (4 * (i : Int)))), (0, .ref 170), (1, iv N), (2, iv (i : Int))]) rfl rfl (fun d => rfl) ?_
      refine y_inc (z := ((i + 1 : Nat) : Int)) (lv' := [(2, iv ((i + 1 : Nat) : Int)), (4, iv ((sgS tl (W 171 (1690 + 4 * i)) (W 171 (1690 + 4 * i + 1)) (W 171 (1690 + 4 * i + 2)) (W 171 (1690 + 4 * i + 3)) (W 171 2).toNat 0 (W 171)).1)), (3, iv (1690 + (4 * (i : Int)))), (0, .ref 170), (1, iv N)]) rfl rfl rfl (by omega) rfl ?_
      refine y_go rfl rfl ?_
      refine y_lv (l' := [(0, .ref 170), (1, iv N), (2, iv ((i + 1 : Nat) : Int))]) rfl ⟨rfl, rfl, rfl, trivial⟩ ?_
      have es := hss.2.1
      have fr := FrP_tr (pkU_fr W (W 171 (1690 + 4 * i)) (W 171 (1690 + 4 * i + 1)) (W 171 (1690 + 4 * i + 2)) (W 171 (1690 + 4 * i + 3))) (FrP_M a2)
      rw [show rlS tl (r + 1) i (W 171) = rlS tl r (i + 1) (sgS tl (W 171 (1690 + 4 * i)) (W 171 (1690 + 4 * i + 1)) (W 171 (1690 + 4 * i + 2)) (W 171 (1690 + 4 * i + 3)) (W 171 2).toNat 0 (W 171)).2 from rfl, ← a1] at hx2
      refine y_mono (ih r (i + 1) V2 (by omega) (by rw [a1]; exact hss.1) (by rw [a1, es 0 (by omega)]; exact hTO) (by rw [a1, es 0 (by omega)]; exact fun i hi => MT_r (hMTs i hi) fr.1) (by omega) (fun j h2 h3 => by rw [a1, es _ (by omega), es _ (by omega), es _ (by omega), es _ (by omega)]; exact hPO j (by omega) (by omega)) (fun V3 b1 b2 => hx2 V3 b1 (FrP_tr fr b2))) (by omega)
set_option maxRecDepth 100000 in
set_option maxHeartbeats 4000000 in
theorem ms_release (hM : MdS S) {tl : Nat → List p_Li} {cnt : Nat} (hSO : SO cnt (V 171)) (hTO : ∀ i : Nat, (i : Int) < V 171 0 → TO (tl i)) (hMTs : ∀ i : Nat, (i : Int) < V 171 0 → MT V i (tl i)) (k0 : V 171 2 = 0 ∧ 0 < V 171 3 → K u w (some (iv (-3))) S V) (k1 : ¬ (V 171 2 = 0 ∧ 0 < V 171 3) → ∀ V2, V2 171 = rlS tl (V 171 3).toNat 0 (relS (V 171)) → FrP V V2 → K u w (some (iv (V 171 3))) S V2) : y_R X 9 149 u w [.ref 170] S V K := by
  have hsz := hSO.1
  have hB : 0 ≤ V 171 1 ∧ V 171 1 ≤ 8 := by omega
  refine y_ent (lv' := [(0, .ref 170)]) (Nat.le_of_ble_eq_true rfl) rfl ?_
  refine y_ld (x := .ref 170) rfl rfl (fun d => rfl) ?_
  refine y_gR (i := 1) rfl rfl rfl (md170 hM) rfl ?_
  refine y_ic rfl rfl ?_
  refine y_ild (x := (V 171 3)) (q := 3) rfl rfl (md171 hM) (by decide) (by decide) rfl rfl ?_
  refine y_st (lv' := [(1, iv (V 171 3)), (0, .ref 170)]) rfl rfl (fun d => rfl) ?_
  refine y_ld (x := .ref 170) rfl rfl (fun d => rfl) ?_
  refine y_gR (i := 1) rfl rfl rfl (md170 hM) rfl ?_
  refine y_ic rfl rfl ?_
  refine y_ild (x := (V 171 2)) (q := 2) rfl rfl (md171 hM) (by decide) (by decide) rfl rfl ?_
  refine y_zne rfl rfl rfl (by omega) (fun g1 => ?_) (fun g1 => ?_)
  · refine y_ld (x := .ref 170) rfl rfl (fun d => rfl) ?_
    refine y_gR (i := 1) rfl rfl rfl (md170 hM) rfl ?_
    refine y_ic rfl rfl ?_
    refine y_ic rfl rfl ?_
    refine y_ist (q := 4) rfl rfl (md171 hM) (by decide) (by decide) rfl ?_
    refine y_ld (x := .ref 170) rfl rfl (fun d => rfl) ?_
    refine y_gR (i := 1) rfl rfl rfl (md170 hM) rfl ?_
    refine y_ic rfl rfl ?_
    refine y_ic rfl rfl ?_
    refine y_ist (q := 3) rfl rfl (md171 hM) (by decide) (by decide) rfl ?_
    refine y_ic rfl rfl ?_
    refine y_st (lv' := [(2, iv 0), (1, iv (V 171 3)), (0, .ref 170)]) rfl rfl (fun d => rfl) ?_
    refine y_lv (l' := [(0, .ref 170), (1, iv (V 171 3)), (2, iv ((0 : Nat) : Int))]) rfl ⟨rfl, rfl, rfl, trivial⟩ ?_
    refine y_V (V' := v_ur V 171 (relS (V 171))) (by rw [v_up_ur, v_up_ur, v_ur_ur, v_ur_eq]; rfl) ?_
    have er : ∀ j, j ≠ 3 ∧ j ≠ 4 → relS (V 171) j = V 171 j := fun j hj => relS_ne hj
    have e1 : v_ur V 171 (relS (V 171)) 171 = relS (V 171) := v_ur_eq _ _ _
    have fr : FrP V (v_ur V 171 (relS (V 171))) := ⟨fun k _ q _ => v_ur_ne q, fun i _ => by rw [v_ur_ne (by decide)]⟩
    exact y_mono (lp_rel (F := 100) hM (by omega) 21 (V 171 3).toNat 0 (v_ur V 171 (relS (V 171))) (by omega) (by rw [e1]; exact relS_SO hSO) (by rw [e1, er 0 (by omega)]; exact hTO) (by rw [e1, er 0 (by omega)]; exact fun i hi => MT_r (hMTs i hi) fr.1) (by omega) (fun j h2 h3 => by rw [e1, er _ (by omega), er _ (by omega), er _ (by omega), er _ (by omega)]; exact hSO.2.2.2.2.2.1 j (by omega)) (fun V2 b1 b2 => k1 (by omega) V2 (by rw [b1, e1]) (FrP_tr fr b2))) (by decide)
  · refine y_ld (x := iv (V 171 3)) rfl rfl (fun d => rfl) ?_
    refine y_zle rfl rfl rfl (by omega) (fun g2 => ?_) (fun g2 => ?_)
    · refine y_ld (x := .ref 170) rfl rfl (fun d => rfl) ?_
      refine y_gR (i := 1) rfl rfl rfl (md170 hM) rfl ?_
      refine y_ic rfl rfl ?_
      refine y_ic rfl rfl ?_
      refine y_ist (q := 4) rfl rfl (md171 hM) (by decide) (by decide) rfl ?_
      refine y_ld (x := .ref 170) rfl rfl (fun d => rfl) ?_
      refine y_gR (i := 1) rfl rfl rfl (md170 hM) rfl ?_
      refine y_ic rfl rfl ?_
      refine y_ic rfl rfl ?_
      refine y_ist (q := 3) rfl rfl (md171 hM) (by decide) (by decide) rfl ?_
      refine y_ic rfl rfl ?_
      refine y_st (lv' := [(2, iv 0), (1, iv (V 171 3)), (0, .ref 170)]) rfl rfl (fun d => rfl) ?_
      refine y_lv (l' := [(0, .ref 170), (1, iv (V 171 3)), (2, iv ((0 : Nat) : Int))]) rfl ⟨rfl, rfl, rfl, trivial⟩ ?_
      refine y_V (V' := v_ur V 171 (relS (V 171))) (by rw [v_up_ur, v_up_ur, v_ur_ur, v_ur_eq]; rfl) ?_
      have er : ∀ j, j ≠ 3 ∧ j ≠ 4 → relS (V 171) j = V 171 j := fun j hj => relS_ne hj
      have e1 : v_ur V 171 (relS (V 171)) 171 = relS (V 171) := v_ur_eq _ _ _
      have fr : FrP V (v_ur V 171 (relS (V 171))) := ⟨fun k _ q _ => v_ur_ne q, fun i _ => by rw [v_ur_ne (by decide)]⟩
      exact y_mono (lp_rel (F := 100) hM (by omega) 21 (V 171 3).toNat 0 (v_ur V 171 (relS (V 171))) (by omega) (by rw [e1]; exact relS_SO hSO) (by rw [e1, er 0 (by omega)]; exact hTO) (by rw [e1, er 0 (by omega)]; exact fun i hi => MT_r (hMTs i hi) fr.1) (by omega) (fun j h2 h3 => by rw [e1, er _ (by omega), er _ (by omega), er _ (by omega), er _ (by omega)]; exact hSO.2.2.2.2.2.1 j (by omega)) (fun V2 b1 b2 => k1 (by omega) V2 (by rw [b1, e1]) (FrP_tr fr b2))) (by decide)
    · refine y_bi rfl rfl (by decide) ?_
      refine y_rI rfl (Or.inl rfl) ?_
      exact k0 (by omega)
end
