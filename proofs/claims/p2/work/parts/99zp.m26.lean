/-! ways: the reference -/
/-- two TEXTS end a row's last packet in other ways -/
def wyH (σ : Nat → Int) (tx ty : List p_Li) (a l v : Nat) : Prop := lastH σ tx a l v ≠ lastH σ ty a l v
theorem MT_x {V V' : v_V} {i : Nat} {l : List p_Li} (h : MT V i l) (e : ∀ k, 173 ≤ k → k ≤ 177 → V' k = V k) : MT V' i l := by
  obtain ⟨a1, a2, a3, a4, a5⟩ := h
  refine ⟨by rw [e 174 (by decide) (by decide)]; exact a1, ?_, by rw [e 175 (by decide) (by decide)]; exact a3, ?_, ?_⟩
  · rw [e 173 (by decide) (by decide)]; exact a2
  · unfold AM
    rw [e 176 (by decide) (by decide)]; exact a4
  · rw [e 177 (by decide) (by decide)]; exact a5
theorem lastH_rg {σ : Nat → Int} {t : List p_Li} {a : Nat} (hl : ∀ q : Nat, q < a → pkO (σ (1770 + 4 * q)) (σ (1770 + 4 * q + 1)) (σ (1770 + 4 * q + 2)) (σ (1770 + 4 * q + 3))) (ha : 0 < a) : ∀ (j v : Nat), 0 ≤ lastH σ t a j v ∧ lastH σ t a j v ≤ 2
  | 0, _ => ⟨by show (0 : Int) ≤ 1; decide, by show (1 : Int) ≤ 2; decide⟩
  | j + 1, v => by
    unfold lastH howV
    exact hwP_rg (m := 1) (fun i hi => (wdS_ok (form := 0) (ts := fun _ => t) (m := 1) hl ha j (v / a)).1 i hi) 1 (by decide)
section
variable {X : Nat → List Int32} {u w : Nat} {S : m_H} {V : v_V} {K : v_K}
set_option maxRecDepth 100000 in
set_option maxHeartbeats 4000000 in
theorem lp_wyl (hM : MdS S) {tx ty : List p_Li} (hlx : TO tx) (hly : TO ty) {al : Nat} (hal : 0 < al ∧ al ≤ 5) (hlt : ∀ q : Nat, q < al → pkO (V 171 (1770 + 4 * q)) (V 171 (1770 + 4 * q + 1)) (V 171 (1770 + 4 * q + 2)) (V 171 (1770 + 4 * q + 3))) (h5 : V 171 5 = (al : Int)) {x y : Nat} (hx8 : x < 8) (hy8 : y < 8) (hMx : MT V x tx) (hMy : MT V y ty) {i : Int} (hi : -1 ≤ i ∧ i ≤ 2147483647) {l d : Nat} (hl1 : 1 ≤ l) (hl3 : l ≤ 3) {F : Nat} : ∀ (m : Nat) (v : Nat) (W : v_V), al ^ l - v < m → (v < al ^ l) → (FrX V W) → (WdM W al l v) → (∀ v2, v2 < v → ¬ wyH (V 171) tx ty al l v2) → (∀ v V2, v < al ^ l → wyH (V 171) tx ty al l v → (∀ v2, v2 < v → ¬ wyH (V 171) tx ty al l v2) → FrX V V2 → K u w (some (iv (wyA al l v i))) S V2) → (∀ V2, (∀ v2, v2 < al ^ l → ¬ wyH (V 171) tx ty al l v2) → FrX V V2 → y_E X 9 162 F u w 143 [(0, .ref 170), (1, iv (x : Int)), (2, iv (y : Int)), (3, iv (d : Int)), (4, iv i), (5, iv (l : Int))] [] S V2 K) → y_E X 9 162 (100 * m + F) u w 80 [(0, .ref 170), (1, iv (x : Int)), (2, iv (y : Int)), (3, iv (d : Int)), (4, iv i), (5, iv (l : Int)), (6, iv 1)] [] S W K := by
  intro m
  induction m with
  | zero => intros; omega
  | succ m ih =>
    intro v W hm hv hF hWd hJ hx1 hx2
    refine y_mono (F' := (100 * m + F) + 100) ?_ (by omega)
    refine y_ld (x := iv 1) rfl rfl (fun d => rfl) ?_
    refine y_zeq rfl rfl rfl (by decide) (fun g1 => absurd g1 (by decide)) (fun g1 => ?_)
    refine y_ld (x := .ref 170) rfl rfl (fun d => rfl) ?_
    refine y_ld (x := iv (x : Int)) rfl rfl (fun d => rfl) ?_
    refine y_ld (x := iv (l : Int)) rfl rfl (fun d => rfl) ?_
    have e171 : W 171 = V 171 := hF.1 171 (by omega)
    refine y_cV (as := [.ref 170, iv (x : Int), iv (l : Int)]) rfl rfl rfl rfl rfl (md170 hM) ⟨rfl, (Nat.le_of_ble_eq_true rfl), (Nat.le_of_ble_eq_true rfl)⟩ (by decide) (ct_lastBy (V := W) hM hlx hal (by rw [e171]; exact hlt) (by omega) hx8 (MT_x hMx (fun k q q2 => hF.1 k (by omega))) hWd (fun W1 f1 w1 => ?_))
    rw [e171]
    have rg1 := lastH_rg (t := tx) hlt hal.1 l v
    have rg2 := lastH_rg (t := ty) hlt hal.1 l v
    have hF1 := FrX_tr hF f1
    have e1 : W1 171 = V 171 := hF1.1 171 (by omega)
    refine y_nv ?_
    refine y_ld (x := .ref 170) rfl rfl (fun d => rfl) ?_
    refine y_ld (x := iv (y : Int)) rfl rfl (fun d => rfl) ?_
    refine y_ld (x := iv (l : Int)) rfl rfl (fun d => rfl) ?_
    refine y_cV (as := [.ref 170, iv (y : Int), iv (l : Int)]) rfl rfl rfl rfl rfl (md170 hM) ⟨rfl, (Nat.le_of_ble_eq_true rfl), (Nat.le_of_ble_eq_true rfl)⟩ (by decide) (ct_lastBy (V := W1) hM hly hal (by rw [e1]; exact hlt) (by omega) hy8 (MT_x hMy (fun k q q2 => hF1.1 k (by omega))) w1 (fun W2 f2 w2 => ?_))
    rw [e1]
    have hF2 := FrX_tr hF1 f2
    refine y_nv ?_
    refine y_jeq rfl rfl rfl (by omega) (fun g2 => ?_) (fun g2 => ?_)
    · refine y_ld (x := .ref 170) rfl rfl (fun d => rfl) ?_
      refine y_ld (x := iv (l : Int)) rfl rfl (fun d => rfl) ?_
      have hnH : ¬ wyH (V 171) tx ty al l v := fun q => q (by omega)
      have e5 : W2 171 5 = (al : Int) := by rw [hF2.1 171 (by omega)]; exact h5
      refine y_cV (as := [.ref 170, iv (l : Int)]) rfl rfl rfl rfl rfl (md170 hM) ⟨rfl, (Nat.le_of_ble_eq_true rfl), (Nat.le_of_ble_eq_true rfl)⟩ (by decide) (ct_next (v := v) hM ⟨hl1, hl3⟩ hal e5 hv w2 (fun hvn V3 w3 f3 => ?_) (fun hvn V3 f3 => ?_))
      · refine y_nv ?_
        refine y_st (lv' := [(6, iv 1), (0, .ref 170), (1, iv (x : Int)), (2, iv (y : Int)), (3, iv (d : Int)), (4, iv i), (5, iv (l : Int))]) rfl rfl (fun d => rfl) ?_
        refine y_go rfl rfl ?_
        refine y_lv (l' := [(0, .ref 170), (1, iv (x : Int)), (2, iv (y : Int)), (3, iv (d : Int)), (4, iv i), (5, iv (l : Int)), (6, iv 1)]) rfl ⟨rfl, rfl, rfl, rfl, rfl, rfl, rfl, trivial⟩ ?_
        refine y_mono (ih (v + 1) V3 (by omega) hvn (FrX_tr hF2 (FrX_B (FrB_w f3))) w3 (fun v2 h2 => ?_) hx1 hx2) (by omega)
        rcases (show v2 < v ∨ v2 = v by omega) with h7 | h7
        · exact hJ v2 h7
        · rw [h7]; exact hnH
      · refine y_nv ?_
        refine y_st (lv' := [(6, iv 0), (0, .ref 170), (1, iv (x : Int)), (2, iv (y : Int)), (3, iv (d : Int)), (4, iv i), (5, iv (l : Int))]) rfl rfl (fun d => rfl) ?_
        refine y_go rfl rfl ?_
        refine y_ld (x := iv 0) rfl rfl (fun d => rfl) ?_
        refine y_zeq rfl rfl rfl (by decide) (fun gz => ?_) (fun gz => absurd rfl gz)
        refine y_lv (l' := [(0, .ref 170), (1, iv (x : Int)), (2, iv (y : Int)), (3, iv (d : Int)), (4, iv i), (5, iv (l : Int))]) rfl ⟨rfl, rfl, rfl, rfl, rfl, rfl, trivial⟩ ?_
        refine y_mono (hx2 V3 (fun v2 h2 => ?_) (FrX_tr hF2 (FrX_B (FrB_w f3)))) (by omega)
        rcases (show v2 < v ∨ v2 = v by omega) with h7 | h7
        · exact hJ v2 h7
        · rw [h7]; exact hnH
    · refine y_ld (x := iv i) rfl rfl (fun d => rfl) ?_
      refine y_ic rfl rfl ?_
      refine y_jne rfl rfl rfl (by omega) (fun g3 => ?_) (fun g3 => ?_)
      · refine y_ld (x := iv i) rfl rfl (fun d => rfl) ?_
        refine y_ld (x := iv (l : Int)) rfl rfl (fun d => rfl) ?_
        refine y_jge rfl rfl rfl (by omega) (fun g4 => ?_) (fun g4 => ?_)
        · refine y_ic rfl rfl ?_
          refine y_rI rfl (Or.inl rfl) ?_
          have hH : wyH (V 171) tx ty al l v := by unfold wyH; omega
          have e9 : wyA al l v i = -1 := by
            unfold wyA
            rw [if_neg (by omega), if_neg (by omega)]
          have k3 := hx1 v W2 hv hH hJ hF2
          rwa [e9] at k3
        · refine y_ld (x := .ref 170) rfl rfl (fun d => rfl) ?_
          refine y_gR (i := 24) rfl rfl rfl (md170 hM) rfl ?_
          refine y_ld (x := iv i) rfl rfl (fun d => rfl) ?_
          refine y_ild (x := ((v / al ^ (l - 1 - i.toNat) % al : Nat) : Int)) (q := i.toNat) rfl rfl (md180 hM) (by omega) (by decide) (by omega) (w2 i.toNat (by omega)) ?_
          refine y_go rfl rfl ?_
          refine y_rI rfl (Or.inl rfl) ?_
          have hH : wyH (V 171) tx ty al l v := by unfold wyH; omega
          have e9 : wyA al l v i = ((v / al ^ (l - 1 - i.toNat) % al : Nat) : Int) := by
            unfold wyA
            rw [if_neg (by omega), if_pos (by omega)]
          have k3 := hx1 v W2 hv hH hJ hF2
          rwa [e9] at k3
      · refine y_ld (x := iv (l : Int)) rfl rfl (fun d => rfl) ?_
        refine y_go rfl rfl ?_
        refine y_rI rfl (Or.inl rfl) ?_
        have hH : wyH (V 171) tx ty al l v := by unfold wyH; omega
        have e9 : wyA al l v i = (l : Int) := by
          unfold wyA
          rw [if_pos (by omega)]
        have k3 := hx1 v W2 hv hH hJ hF2
        rwa [e9] at k3
set_option maxRecDepth 100000 in
set_option maxHeartbeats 4000000 in
theorem lp_ways (hM : MdS S) {tx ty : List p_Li} (hlx : TO tx) (hly : TO ty) {al : Nat} (hal5 : al ≤ 5) (hlt : ∀ q : Nat, q < al → pkO (V 171 (1770 + 4 * q)) (V 171 (1770 + 4 * q + 1)) (V 171 (1770 + 4 * q + 2)) (V 171 (1770 + 4 * q + 3))) (h5 : V 171 5 = (al : Int)) {x y : Nat} (hx8 : x < 8) (hy8 : y < 8) (hMx : MT V x tx) (hMy : MT V y ty) {i : Int} (hi : -1 ≤ i ∧ i ≤ 2147483647) {d : Nat} (hd : d ≤ 3) {F : Nat} : ∀ (m : Nat) (l : Nat) (W : v_V), 4 - l < m → (1 ≤ l ∧ l ≤ 4) → (FrX V W) → (∀ l2, 1 ≤ l2 → l2 < l → ∀ v2, v2 < al ^ l2 → ¬ wyH (V 171) tx ty al l2 v2) → (∀ l v V2, resP (wyH (V 171) tx ty al) al d l v → FrX V V2 → K u w (some (iv (wyA al l v i))) S V2) → y_E X 9 162 (30000 * m + F) u w 39 [(0, .ref 170), (1, iv (x : Int)), (2, iv (y : Int)), (3, iv (d : Int)), (4, iv i), (5, iv (l : Int))] [] S W K := by
  intro m
  induction m with
  | zero => intros; omega
  | succ m ih =>
    intro l W hm hI hF hJ hx1
    refine y_mono (F' := (30000 * m + F) + 30000) ?_ (by omega)
    refine y_ld (x := iv (l : Int)) rfl rfl (fun d => rfl) ?_
    refine y_ld (x := iv (d : Int)) rfl rfl (fun d => rfl) ?_
    refine y_jgt rfl rfl rfl (by omega) (fun g1 => ?_) (fun g1 => ?_)
    · refine y_ld (x := iv i) rfl rfl (fun d => rfl) ?_
      refine y_ic rfl rfl ?_
      refine y_jne rfl rfl rfl (by omega) (fun g2 => ?_) (fun g2 => ?_)
      · refine y_ic rfl rfl ?_
        refine y_rI rfl (Or.inl rfl) ?_
        have e9 : wyA al 0 0 i = -1 := by
          unfold wyA
          rw [if_neg (by omega), if_neg (by omega)]
        have k3 := hx1 0 0 W (Or.inr ⟨rfl, rfl, fun l2 h1 h2 v2 hv2 => ?_⟩) hF
        · rwa [e9] at k3
        · exact hJ l2 h1 (by omega) v2 hv2
      · refine y_ic rfl rfl ?_
        refine y_go rfl rfl ?_
        refine y_rI rfl (Or.inl rfl) ?_
        have e9 : wyA al 0 0 i = 0 := by
          unfold wyA
          rw [if_pos (by omega)]
          rfl
        have k3 := hx1 0 0 W (Or.inr ⟨rfl, rfl, fun l2 h1 h2 v2 hv2 => ?_⟩) hF
        · rwa [e9] at k3
        · exact hJ l2 h1 (by omega) v2 hv2
    · have hdl : l ≤ 3 := by omega
      refine y_ld (x := .ref 170) rfl rfl (fun d => rfl) ?_
      refine y_gR (i := 1) rfl rfl rfl (md170 hM) rfl ?_
      refine y_ic rfl rfl ?_
      refine y_ild (x := (al : Int)) (q := 5) rfl rfl (md171 hM) (by decide) (by decide) rfl (by rw [hF.1 171 (by omega)]; exact h5) ?_
      refine y_zle rfl rfl rfl (by omega) (fun g3 => ?_) (fun g3 => ?_)
      · refine y_ld (x := iv i) rfl rfl (fun d => rfl) ?_
        refine y_ic rfl rfl ?_
        refine y_jne rfl rfl rfl (by omega) (fun g4 => ?_) (fun g4 => ?_)
        · refine y_ic rfl rfl ?_
          refine y_rI rfl (Or.inl rfl) ?_
          have e9 : wyA al 0 0 i = -1 := by
            unfold wyA
            rw [if_neg (by omega), if_neg (by omega)]
          have k3 := hx1 0 0 W (Or.inr ⟨rfl, rfl, fun l2 h1 h2 v2 hv2 => ?_⟩) hF
          · rwa [e9] at k3
          · have ha0 : al = 0 := by omega
            rw [ha0, Nat.zero_pow (by omega)] at hv2
            exact absurd hv2 (by omega)
        · refine y_ic rfl rfl ?_
          refine y_go rfl rfl ?_
          refine y_rI rfl (Or.inl rfl) ?_
          have e9 : wyA al 0 0 i = 0 := by
            unfold wyA
            rw [if_pos (by omega)]
            rfl
          have k3 := hx1 0 0 W (Or.inr ⟨rfl, rfl, fun l2 h1 h2 v2 hv2 => ?_⟩) hF
          · rwa [e9] at k3
          · have ha0 : al = 0 := by omega
            rw [ha0, Nat.zero_pow (by omega)] at hv2
            exact absurd hv2 (by omega)
      · have hal0 : 0 < al ∧ al ≤ 5 := by omega
        refine y_ic rfl rfl ?_
        refine y_st (lv' := [(6, iv 0), (0, .ref 170), (1, iv (x : Int)), (2, iv (y : Int)), (3, iv (d : Int)), (4, iv i), (5, iv (l : Int))]) rfl rfl (fun d => rfl) ?_
        refine y_ld (x := iv 0) rfl rfl (fun d => rfl) ?_
        refine y_ic rfl rfl ?_
        refine y_jge rfl rfl rfl (by decide) (fun g5 => absurd g5 (by decide)) (fun g5 => ?_)
        refine y_ld (x := .ref 170) rfl rfl (fun d => rfl) ?_
        refine y_gR (i := 24) rfl rfl rfl (md170 hM) rfl ?_
        refine y_ld (x := iv 0) rfl rfl (fun d => rfl) ?_
        refine y_ic rfl rfl ?_
        refine y_ist (q := 0) rfl rfl (md180 hM) (by decide) (by decide) rfl ?_
        refine y_inc (z := 1) (lv' := [(6, iv 1), (0, .ref 170), (1, iv (x : Int)), (2, iv (y : Int)), (3, iv (d : Int)), (4, iv i), (5, iv (l : Int))]) rfl rfl rfl rfl rfl ?_
        refine y_go rfl rfl ?_
        refine y_ld (x := iv 1) rfl rfl (fun d => rfl) ?_
        refine y_ic rfl rfl ?_
        refine y_jge rfl rfl rfl (by decide) (fun g6 => absurd g6 (by decide)) (fun g6 => ?_)
        refine y_ld (x := .ref 170) rfl rfl (fun d => rfl) ?_
        refine y_gR (i := 24) rfl rfl rfl (md170 hM) rfl ?_
        refine y_ld (x := iv 1) rfl rfl (fun d => rfl) ?_
        refine y_ic rfl rfl ?_
        refine y_ist (q := 1) rfl rfl (md180 hM) (by decide) (by decide) rfl ?_
        refine y_inc (z := 2) (lv' := [(6, iv 2), (0, .ref 170), (1, iv (x : Int)), (2, iv (y : Int)), (3, iv (d : Int)), (4, iv i), (5, iv (l : Int))]) rfl rfl rfl rfl rfl ?_
        refine y_go rfl rfl ?_
        refine y_ld (x := iv 2) rfl rfl (fun d => rfl) ?_
        refine y_ic rfl rfl ?_
        refine y_jge rfl rfl rfl (by decide) (fun g7 => absurd g7 (by decide)) (fun g7 => ?_)
        refine y_ld (x := .ref 170) rfl rfl (fun d => rfl) ?_
        refine y_gR (i := 24) rfl rfl rfl (md170 hM) rfl ?_
        refine y_ld (x := iv 2) rfl rfl (fun d => rfl) ?_
        refine y_ic rfl rfl ?_
        refine y_ist (q := 2) rfl rfl (md180 hM) (by decide) (by decide) rfl ?_
        refine y_inc (z := 3) (lv' := [(6, iv 3), (0, .ref 170), (1, iv (x : Int)), (2, iv (y : Int)), (3, iv (d : Int)), (4, iv i), (5, iv (l : Int))]) rfl rfl rfl rfl rfl ?_
        refine y_go rfl rfl ?_
        refine y_ld (x := iv 3) rfl rfl (fun d => rfl) ?_
        refine y_ic rfl rfl ?_
        refine y_jge rfl rfl rfl (by decide) (fun g8 => ?_) (fun g8 => absurd g8 (by decide))
        refine y_ic rfl rfl ?_
        refine y_st (lv' := [(6, iv 1), (0, .ref 170), (1, iv (x : Int)), (2, iv (y : Int)), (3, iv (d : Int)), (4, iv i), (5, iv (l : Int))]) rfl rfl (fun d => rfl) ?_
        refine y_lv (l' := [(0, .ref 170), (1, iv (x : Int)), (2, iv (y : Int)), (3, iv (d : Int)), (4, iv i), (5, iv (l : Int)), (6, iv 1)]) rfl ⟨rfl, rfl, rfl, rfl, rfl, rfl, rfl, trivial⟩ ?_
        have hfw : FrB W (v_up (v_up (v_up W 180 0 0) 180 1 0) 180 2 0) := FrB_w (fun k hk => by rw [v_up_ne hk, v_up_ne hk, v_up_ne hk])
        refine y_mono (lp_wyl (V := V) (F := 30000 * m + F + 100) hM hlx hly hal0 hlt h5 hx8 hy8 hMx hMy hi hI.1 hdl 200 0 (v_up (v_up (v_up W 180 0 0) 180 1 0) 180 2 0) ?_ (Nat.pow_pos hal0.1) (FrX_tr hF (FrX_B hfw)) (fun k hk => ?_) (fun v2 h2 => absurd h2 (by omega)) (fun v V2 q1 q2 q3 q5 => hx1 l v V2 (Or.inl ⟨by omega, hI.1, q1, q2, hJ, q3⟩) q5) (fun V2 q1 q2 => ?_)) (by omega)
        · have : al ^ l ≤ 125 := by
            rcases (show l = 1 ∨ l = 2 ∨ l = 3 by omega) with rfl | rfl | rfl <;> rcases (show al = 1 ∨ al = 2 ∨ al = 3 ∨ al = 4 ∨ al = 5 by omega) with rfl | rfl | rfl | rfl | rfl <;> decide
          omega
        · rw [Nat.zero_div, Nat.zero_mod]
          rcases (show k = 0 ∨ k = 1 ∨ k = 2 by omega) with rfl | rfl | rfl <;> rfl
        · refine y_inc (z := ((l + 1 : Nat) : Int)) (lv' := [(5, iv ((l + 1 : Nat) : Int)), (0, .ref 170), (1, iv (x : Int)), (2, iv (y : Int)), (3, iv (d : Int)), (4, iv i)]) rfl rfl rfl (by omega) rfl ?_
          refine y_go rfl rfl ?_
          refine y_lv (l' := [(0, .ref 170), (1, iv (x : Int)), (2, iv (y : Int)), (3, iv (d : Int)), (4, iv i), (5, iv ((l + 1 : Nat) : Int))]) rfl ⟨rfl, rfl, rfl, rfl, rfl, rfl, trivial⟩ ?_
          refine y_mono (ih (l + 1) V2 (by omega) (by omega) q2 (fun l2 h1 h2 v2 hv2 => ?_) hx1) (by omega)
          rcases (show l2 < l ∨ l2 = l by omega) with h7 | h7
          · exact hJ l2 h1 h7 v2 hv2
          · rw [h7] at hv2 ⊢; exact q1 v2 hv2
set_option maxRecDepth 100000 in
set_option maxHeartbeats 4000000 in
theorem ms_ways (hM : MdS S) {tl : Nat → List p_Li} {cnt : Nat} (hSO : SO cnt (V 171)) (hTO : ∀ i : Nat, (i : Int) < V 171 0 → TO (tl i)) (hMTs : ∀ i : Nat, (i : Int) < V 171 0 → MT V i (tl i)) {x : Int} (hx : (-2147483648 ≤ x ∧ x < 2147483648)) {y : Int} (hy : (-2147483648 ≤ y ∧ y < 2147483648)) {d : Int} (hd : (-2147483648 ≤ d ∧ d < 2147483648)) {i : Int} (hi : (-2147483648 ≤ i ∧ i < 2147483648)) (k0 : ¬ ((0 ≤ x ∧ x < V 171 0) ∧ (0 ≤ y ∧ y < V 171 0) ∧ -1 ≤ i) → K u w (some (iv (-1))) S V) (k1 : ((0 ≤ x ∧ x < V 171 0) ∧ (0 ≤ y ∧ y < V 171 0) ∧ -1 ≤ i) → ¬ (1 ≤ d ∧ d ≤ 3) → K u w (some (iv (-2))) S V) (k2 : ∀ al : Nat, ((0 ≤ x ∧ x < V 171 0) ∧ (0 ≤ y ∧ y < V 171 0) ∧ -1 ≤ i) → (1 ≤ d ∧ d ≤ 3) → V 171 5 = (al : Int) → ∀ xn : Nat, x = (xn : Int) → ∀ yn : Nat, y = (yn : Int) → ∀ dn : Nat, d = (dn : Int) → ∀ l v, resP (wyH (V 171) (tl xn) (tl yn) al) al dn l v → ∀ V2, FrX V V2 → K u w (some (iv (wyA al l v i))) S V2) : y_R X 10 162 u w [.ref 170, iv x, iv y, iv d, iv i] S V K := by
  have hsz := hSO.1
  have hT : 0 ≤ V 171 0 ∧ V 171 0 ≤ 8 := by omega
  obtain ⟨al, hal⟩ : ∃ al : Nat, V 171 5 = (al : Int) := ⟨(V 171 5).toNat, by omega⟩
  have hal5 : al ≤ 5 := by omega
  have hlt : ∀ q : Nat, q < al → pkO (V 171 (1770 + 4 * q)) (V 171 (1770 + 4 * q + 1)) (V 171 (1770 + 4 * q + 2)) (V 171 (1770 + 4 * q + 3)) := fun q hq => hSO.2.2.2.2.2.2 q (by omega)
  refine y_ent (lv' := [(0, .ref 170), (1, iv x), (2, iv y), (3, iv d), (4, iv i)]) (Nat.le_of_ble_eq_true rfl) rfl ?_
  refine y_ld (x := .ref 170) rfl rfl (fun d => rfl) ?_
  refine y_ld (x := iv x) rfl rfl (fun d => rfl) ?_
  refine y_cV (as := [.ref 170, iv x]) rfl rfl rfl rfl rfl (md170 hM) ⟨rfl, (Nat.le_of_ble_eq_true rfl), (Nat.le_of_ble_eq_true rfl)⟩ (by decide) (ct_isText hM (by omega) ⟨rfl, by omega⟩ ?_)
  refine y_nv ?_
  refine y_beq rfl rfl rfl (fun g1 => ?_) (fun g1 => ?_)
  · refine y_ic rfl rfl ?_
    refine y_rI rfl (Or.inl rfl) ?_
    exact k0 (by omega)
  · refine y_ld (x := .ref 170) rfl rfl (fun d => rfl) ?_
    refine y_ld (x := iv y) rfl rfl (fun d => rfl) ?_
    refine y_cV (as := [.ref 170, iv y]) rfl rfl rfl rfl rfl (md170 hM) ⟨rfl, (Nat.le_of_ble_eq_true rfl), (Nat.le_of_ble_eq_true rfl)⟩ (by decide) (ct_isText hM (by omega) ⟨rfl, by omega⟩ ?_)
    refine y_nv ?_
    refine y_beq rfl rfl rfl (fun g2 => ?_) (fun g2 => ?_)
    · refine y_ic rfl rfl ?_
      refine y_rI rfl (Or.inl rfl) ?_
      exact k0 (by omega)
    · refine y_ld (x := iv i) rfl rfl (fun d => rfl) ?_
      refine y_ic rfl rfl ?_
      refine y_jge rfl rfl rfl (by omega) (fun g3 => ?_) (fun g3 => ?_)
      · refine y_ld (x := iv d) rfl rfl (fun d => rfl) ?_
        refine y_ic rfl rfl ?_
        refine y_ic rfl rfl ?_
        refine y_cS (as := [iv d, iv 1, iv 3]) rfl (by decide) rfl rfl rfl rfl ⟨(Nat.le_of_ble_eq_true rfl), (Nat.le_of_ble_eq_true rfl)⟩ (by decide) (ct_in (by omega) ?_)
        refine y_nv ?_
        refine y_bne rfl rfl rfl (fun g4 => ?_) (fun g4 => ?_)
        · obtain ⟨dn, rfl⟩ : ∃ dn : Nat, d = (dn : Int) := ⟨d.toNat, by omega⟩
          obtain ⟨xn, rfl⟩ : ∃ xn : Nat, x = (xn : Int) := ⟨x.toNat, by omega⟩
          obtain ⟨yn, rfl⟩ : ∃ yn : Nat, y = (yn : Int) := ⟨y.toNat, by omega⟩
          refine y_ic rfl rfl ?_
          refine y_st (lv' := [(5, iv 1), (0, .ref 170), (1, iv (xn : Int)), (2, iv (yn : Int)), (3, iv (dn : Int)), (4, iv i)]) rfl rfl (fun d => rfl) ?_
          refine y_lv (l' := [(0, .ref 170), (1, iv (xn : Int)), (2, iv (yn : Int)), (3, iv (dn : Int)), (4, iv i), (5, iv ((1 : Nat) : Int))]) rfl ⟨rfl, rfl, rfl, rfl, rfl, rfl, trivial⟩ ?_
          exact y_mono (lp_ways (V := V) (F := 100) hM (hTO xn (by omega)) (hTO yn (by omega)) hal5 hlt hal (by omega) (by omega) (hMTs xn (by omega)) (hMTs yn (by omega)) (by omega) (by omega) 4 1 V (by omega) (by omega) (FrX_rf V) (fun l2 h1 h2 => absurd h2 (by omega)) (fun l v V2 q1 q2 => k2 al (by omega) (by omega) hal xn rfl yn rfl dn rfl l v q1 V2 q2)) (by decide)
        · refine y_bi rfl rfl (by decide) ?_
          refine y_rI rfl (Or.inl rfl) ?_
          exact k1 (by omega) (by omega)
      · refine y_ic rfl rfl ?_
        refine y_rI rfl (Or.inl rfl) ?_
        exact k0 (by omega)
end
