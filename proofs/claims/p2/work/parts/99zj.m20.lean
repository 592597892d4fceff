/-! a row of packets tried: the reference -/
section
variable {X : Nat → List Int32} {u w : Nat} {S : m_H} {V : v_V} {K : v_K}
set_option maxRecDepth 100000 in
set_option maxHeartbeats 4000000 in
theorem lp_empties (hM : MdS S) {tm : Nat} (htm : V 170 27 = (tm : Int)) (htl : tm ≤ 4) {F : Nat} : ∀ (m : Nat) (k : Nat), 84 * tm - k < m → (k ≤ 84 * tm) → (K u w none S (v_ur (v_up V 170 21 1) 178 (fun q => if q < 84 * tm then 0 else V 178 q))) → y_E X 0 154 (20 * m + F) u w 7 [(0, .ref 170), (1, iv (k : Int))] [] S (v_ur (v_up V 170 21 1) 178 (fun q => if q < k then 0 else V 178 q)) K := by
  intro m
  induction m with
  | zero => intros; omega
  | succ m ih =>
    intro k hm hI hx2
    refine y_mono (F' := (20 * m + F) + 20) ?_ (by omega)
    refine y_ld (x := iv (k : Int)) rfl rfl (fun d => rfl) ?_
    refine y_bi rfl rfl (by decide) ?_
    refine y_ld (x := .ref 170) rfl rfl (fun d => rfl) ?_
    refine y_gI (i := 27) (e := (tm : Int)) rfl rfl rfl (md170 hM) rfl (by rw [v_ur_ne (by decide), v_up_ni (by decide)]; exact htm) ?_
    refine y_mul (z := (84 * (tm : Int))) rfl rfl rfl ?_
    refine y_jge rfl rfl rfl (by omega) (fun g1 => ?_) (fun g1 => ?_)
    · refine y_ret rfl (fun d => rfl) ?_
      obtain rfl : k = 84 * tm := by omega
      exact hx2
    · refine y_ld (x := .ref 170) rfl rfl (fun d => rfl) ?_
      refine y_gR (i := 15) rfl rfl rfl (md170 hM) rfl ?_
      refine y_ld (x := iv (k : Int)) rfl rfl (fun d => rfl) ?_
      refine y_ic rfl rfl ?_
      refine y_ist (q := k) rfl rfl (md178 hM) (by omega) (by decide) (by omega) ?_
      refine y_inc (z := ((k + 1 : Nat) : Int)) (lv' := [(1, iv ((k + 1 : Nat) : Int)), (0, .ref 170)]) rfl rfl rfl (by omega) rfl ?_
      refine y_go rfl rfl ?_
      refine y_lv (l' := [(0, .ref 170), (1, iv ((k + 1 : Nat) : Int))]) rfl ⟨rfl, rfl, trivial⟩ ?_
      refine y_V (V' := v_ur (v_up V 170 21 1) 178 (fun q => if q < k + 1 then 0 else V 178 q)) ?_ ?_
      · rw [v_up_ur, v_ur_ur, v_ur_eq]
        congr 1
        funext q
        unfold v_uf
        by_cases h1 : q = k
        · rw [if_pos h1, if_pos (by omega)]
        · rw [if_neg h1]
          show (if q < k then 0 else V 178 q) = _
          by_cases h2 : q < k
          · rw [if_pos h2, if_pos (by omega)]
          · rw [if_neg h2, if_neg (by omega)]
      exact y_mono (ih (k + 1) (by omega) (by omega) hx2) (by omega)
set_option maxRecDepth 100000 in
set_option maxHeartbeats 4000000 in
theorem ct_empties (hM : MdS S) {tm : Nat} (htm : V 170 27 = (tm : Int)) (htl : tm ≤ 4) (k : K u w none S (v_ur (v_up V 170 21 1) 178 (fun q => if q < 84 * tm then 0 else V 178 q))) : y_R X 1 154 u w [.ref 170] S V K := by
  refine y_ent (lv' := [(0, .ref 170)]) (Nat.le_of_ble_eq_true rfl) rfl ?_
  refine y_ld (x := .ref 170) rfl rfl (fun d => rfl) ?_
  refine y_ic rfl rfl ?_
  refine y_pZ (i := 21) rfl rfl rfl (md170 hM) rfl rfl (by decide) ?_
  refine y_ic rfl rfl ?_
  refine y_st (lv' := [(1, iv 0), (0, .ref 170)]) rfl rfl (fun d => rfl) ?_
  refine y_lv (l' := [(0, .ref 170), (1, iv ((0 : Nat) : Int))]) rfl ⟨rfl, rfl, trivial⟩ ?_
  refine y_V (V' := (v_ur (v_up V 170 21 1) 178 (fun q => if q < 0 then 0 else V 178 q))) (by rw [show (fun q => if q < 0 then 0 else V 178 q) = (v_up V 170 21 1) 178 from funext (fun q => if_neg (by omega)), v_ur_self]) ?_
  exact y_mono (lp_empties (F := 100) hM htm htl 400 0 (by omega) (by omega) k) (by decide)
/- -/
set_option maxRecDepth 100000 in
set_option maxHeartbeats 4000000 in
theorem lp_tries (hM : MdS S) {tm : Nat} (htl : tm ≤ 4) {ts : Nat → List p_Li} (hTO : ∀ i, i < tm → TO (ts i)) {M : Nat → Nat → Int} (hMr : ∀ i, i < tm → muO (M i)) {a h κ n : Int} (hpk : pkO a h κ n) {F : Nat} : ∀ (m : Nat) (i : Nat) (W : v_V), tm - i < m → (i ≤ tm) → (FrT V W) → (ThM W tm ts) → (PkM W a h κ n) → (W 170 21 = 1) → (hwP a h κ n ts M i = 1) → (∀ q : Nat, q < i → ∀ p : Nat, p < 84 → zm (W 178) (84 * q) p = (if hwP a h κ n ts M q = 1 then (eW a h κ n (ts q) (M q)).2 else M q) p) → (∀ q : Nat, i ≤ q → q < tm → ∀ p : Nat, p < 84 → zm (W 178) (84 * q) p = M q p) → (∀ W : v_V, (∀ q : Nat, q < tm → ∀ p : Nat, p < 84 → zm (W 178) (84 * q) p = (if hwP a h κ n ts M q = 1 then (eW a h κ n (ts q) (M q)).2 else M q) p) → FrT V W → PkM W a h κ n → W 170 21 = 1 → K u w (some (iv (hwP a h κ n ts M tm))) S W) → y_E X 7 155 (60 * m + F) u w 44 [(0, .ref 170), (3, iv (i : Int))] [] S W K := by
  intro m
  induction m with
  | zero => intros; omega
  | succ m ih =>
    intro i W hm hI hF hTh hPk h21 hwi hD hM2 hx2
    refine y_mono (F' := (60 * m + F) + 60) ?_ (by omega)
    refine y_ld (x := iv (i : Int)) rfl rfl (fun d => rfl) ?_
    refine y_ld (x := .ref 170) rfl rfl (fun d => rfl) ?_
    refine y_gI (i := 27) (e := (tm : Int)) rfl rfl rfl (md170 hM) rfl hTh.1 ?_
    refine y_jge rfl rfl rfl (by omega) (fun g1 => ?_) (fun g1 => ?_)
    · refine y_ic rfl rfl ?_
      refine y_rI rfl (Or.inl rfl) ?_
      obtain rfl : i = tm := by have := hTh.1; omega
      rw [hwi] at hx2
      exact hx2 W (fun q hq p hp => hD q hq p hp) hF hPk h21
    · have hi4 : i < tm := by have := hTh.1; omega
      obtain ⟨x, x1, x2, x3⟩ := hTh.2 i hi4
      have hl := hTO i hi4
      have hri := (eW_rg (t := a) (h := h) (k := κ) (n := n) (ts i) (M i) (hMr i hi4)).2
      refine y_ld (x := .ref 170) rfl rfl (fun d => rfl) ?_
      refine y_bi rfl rfl (by decide) ?_
      refine y_ld (x := iv (i : Int)) rfl rfl (fun d => rfl) ?_
      refine y_mul (z := ((84 * i : Nat) : Int)) rfl rfl (by omega) ?_
      refine y_pI (i := 22) rfl rfl rfl (md170 hM) rfl rfl ?_
      refine y_ld (x := .ref 170) rfl rfl (fun d => rfl) ?_
      refine y_ld (x := .ref 170) rfl rfl (fun d => rfl) ?_
      refine y_gR (i := 26) rfl rfl rfl (md170 hM) rfl ?_
      refine y_ld (x := iv (i : Int)) rfl rfl (fun d => rfl) ?_
      refine y_ild (x := (x : Int)) (q := i) rfl rfl (md182 hM) (by omega) (by decide) (by omega) (by rw [v_up_ne (by decide)]; exact x2) ?_
      have hmi : ∀ p : Nat, p < 84 → zm (W 178) (84 * i) p = M i p := fun p hp => hM2 i (by omega) hi4 p hp
      have ec := eW_congr hpk (ts i) _ _ hmi hl.1
      have e178 : (v_up W 170 22 ((84 * i : Nat) : Int)) 178 = W 178 := v_up_ne (by decide)
      have hmu : muO (zm ((v_up W 170 22 ((84 * i : Nat) : Int)) 178) (84 * i)) := by rw [e178]; exact fun p hp => by rw [hmi p hp]; exact hMr i hi4 p hp
      refine y_cV (as := [.ref 170, iv (x : Int)]) rfl rfl rfl rfl rfl (md170 hM) ⟨rfl, (Nat.le_of_ble_eq_true rfl), (Nat.le_of_ble_eq_true rfl)⟩ (by decide) (ct_works (A := 178) (B := 84 * i) (i := x) (l := ts i) hM ⟨v_up_eq _ _ _ _, Or.inr ⟨(v_up_ni (by decide)).trans h21, rfl, by omega⟩⟩ (PkM_r hPk (fun q _ _ => v_up_ni (by omega))) hpk (Or.inr rfl) hmu x1 (MT_r x3 (fun k q _ _ => v_up_ne q)) hl.2.2.2.1 hl.2.2.1 hl.1 hl.2.1 (fun τ => ?_))
      rw [e178]
      refine y_nv ?_
      refine y_iv ec.1 ?_
      refine y_nv ?_
      have hF2i : ∀ q, q ≠ 22 → q ≠ 23 → (v_ur (v_up (v_ur (v_up W 170 22 ((84 * i : Nat) : Int)) 179 τ) 170 23 (eL (zm (W 178) (84 * i)) a h κ n 0 (ts i))) 178 (zi (W 178) (84 * i) (eW a h κ n (ts i) (zm (W 178) (84 * i))).2)) 170 q = W 170 q := fun q h1 h2 => by rw [v_ur_ne (by decide), v_up_ni h2, v_ur_ne (by decide), v_up_ni h1]
      have hF2 : FrT W (v_ur (v_up (v_ur (v_up W 170 22 ((84 * i : Nat) : Int)) 179 τ) 170 23 (eL (zm (W 178) (84 * i)) a h κ n 0 (ts i))) 178 (zi (W 178) (84 * i) (eW a h κ n (ts i) (zm (W 178) (84 * i))).2)) := ⟨fun k q1 q2 q3 => by rw [v_ur_ne q2, v_up_ne q1, v_ur_ne q3, v_up_ne q1], fun q hq => hF2i q (by omega) (by omega)⟩
      have hz : ∀ q : Nat, q ≠ i → ∀ p : Nat, p < 84 → zm ((v_ur (v_up (v_ur (v_up W 170 22 ((84 * i : Nat) : Int)) 179 τ) 170 23 (eL (zm (W 178) (84 * i)) a h κ n 0 (ts i))) 178 (zi (W 178) (84 * i) (eW a h κ n (ts i) (zm (W 178) (84 * i))).2)) 178) (84 * q) p = zm (W 178) (84 * q) p := fun q hq p hp => by
        rw [v_ur_eq]
        exact zi_out (by omega)
      have hzi : ∀ p : Nat, p < 84 → zm ((v_ur (v_up (v_ur (v_up W 170 22 ((84 * i : Nat) : Int)) 179 τ) 170 23 (eL (zm (W 178) (84 * i)) a h κ n 0 (ts i))) 178 (zi (W 178) (84 * i) (eW a h κ n (ts i) (zm (W 178) (84 * i))).2)) 178) (84 * i) p = (eW a h κ n (ts i) (M i)).2 p := fun p hp => by rw [v_ur_eq, zm_zi hp]; exact ec.2 p hp
      refine y_st (lv' := [(4, iv ((eW a h κ n (ts i) (M i)).1)), (0, .ref 170), (3, iv (i : Int))]) rfl rfl (fun d => rfl) ?_
      refine y_ld (x := iv ((eW a h κ n (ts i) (M i)).1)) rfl rfl (fun d => rfl) ?_
      refine y_ic rfl rfl ?_
      refine y_jeq rfl rfl rfl (by omega) (fun g2 => ?_) (fun g2 => ?_)
      · refine y_inc (z := ((i + 1 : Nat) : Int)) (lv' := [(3, iv ((i + 1 : Nat) : Int)), (4, iv ((eW a h κ n (ts i) (M i)).1)), (0, .ref 170)]) rfl rfl rfl (by omega) rfl ?_
        refine y_go rfl rfl ?_
        refine y_lv (l' := [(0, .ref 170), (3, iv ((i + 1 : Nat) : Int))]) rfl ⟨rfl, rfl, trivial⟩ ?_
        have e1 : hwP a h κ n ts M (i + 1) = (eW a h κ n (ts i) (M i)).1 := if_pos hwi
        refine y_mono (ih (i + 1) (v_ur (v_up (v_ur (v_up W 170 22 ((84 * i : Nat) : Int)) 179 τ) 170 23 (eL (zm (W 178) (84 * i)) a h κ n 0 (ts i))) 178 (zi (W 178) (84 * i) (eW a h κ n (ts i) (zm (W 178) (84 * i))).2)) (by omega) (by omega) (FrT_tr hF hF2) (ThM_r hTh (hF2i 27 (by decide) (by decide)) (fun k h1 h2 => hF2.1 k (by omega) (by omega) (by omega))) (PkM_r hPk (fun q _ _ => hF2i q (by omega) (by omega))) ((hF2i 21 (by decide) (by decide)).trans h21) (e1.trans (by omega)) (fun q hq p hp => ?_) (fun q hq1 hq p hp => by rw [hz q (by omega) p hp]; exact hM2 q (by omega) hq p hp) hx2) (by omega)
        rcases (show q < i ∨ q = i by omega) with h7 | h7
        · rw [hz q (by omega) p hp]; exact hD q h7 p hp
        · rw [h7, if_pos hwi]; exact hzi p hp
      · refine y_ld (x := iv ((eW a h κ n (ts i) (M i)).1)) rfl rfl (fun d => rfl) ?_
        refine y_rI rfl (Or.inl rfl) ?_
        have e1 : hwP a h κ n ts M (i + 1) = (eW a h κ n (ts i) (M i)).1 := if_pos hwi
        have e2 : ∀ d, hwP a h κ n ts M (i + 1 + d) = (eW a h κ n (ts i) (M i)).1 := by
          intro d
          induction d with
          | zero => exact e1
          | succ d ihd =>
            show (if hwP a h κ n ts M (i + 1 + d) = 1 then _ else hwP a h κ n ts M (i + 1 + d)) = _
            rw [if_neg (by rw [ihd]; omega)]
            exact ihd
        have e3 := e2 (tm - (i + 1))
        rw [show i + 1 + (tm - (i + 1)) = tm by omega] at e3
        rw [e3] at hx2
        refine hx2 _ (fun q hq p hp => ?_) (FrT_tr hF hF2) (PkM_r hPk (fun q _ _ => hF2i q (by omega) (by omega))) ((hF2i 21 (by decide) (by decide)).trans h21)
        rcases (show q < i ∨ q = i ∨ i < q by omega) with h7 | h7 | h7
        · rw [hz q (by omega) p hp]; exact hD q h7 p hp
        · rw [h7, if_pos hwi]; exact hzi p hp
        · rw [hz q (by omega) p hp, if_neg (by have := e2 (q - (i + 1)); rw [show i + 1 + (q - (i + 1)) = q by omega] at this; omega)]; exact hM2 q (by omega) hq p hp
set_option maxRecDepth 100000 in
set_option maxHeartbeats 4000000 in
theorem ct_tries (hM : MdS S) {tm : Nat} (htl : tm ≤ 4) {ts : Nat → List p_Li} (hTO : ∀ i, i < tm → TO (ts i)) {M : Nat → Nat → Int} (hMr : ∀ i, i < tm → muO (M i)) {c : Nat} (hc : c < 5) (hpk : pkO (V 171 (1770 + 4 * c)) (V 171 (1770 + 4 * c + 1)) (V 171 (1770 + 4 * c + 2)) (V 171 (1770 + 4 * c + 3))) (hTh : ThM V tm ts) (h21 : V 170 21 = 1) (hM2 : ∀ q : Nat, q < tm → ∀ p : Nat, p < 84 → zm (V 178) (84 * q) p = M q p) (k : ∀ W : v_V, (∀ q : Nat, q < tm → ∀ p : Nat, p < 84 → zm (W 178) (84 * q) p = (if hwP (V 171 (1770 + 4 * c)) (V 171 (1770 + 4 * c + 1)) (V 171 (1770 + 4 * c + 2)) (V 171 (1770 + 4 * c + 3)) ts M q = 1 then (eW (V 171 (1770 + 4 * c)) (V 171 (1770 + 4 * c + 1)) (V 171 (1770 + 4 * c + 2)) (V 171 (1770 + 4 * c + 3)) (ts q) (M q)).2 else M q) p) → FrT V W → PkM W (V 171 (1770 + 4 * c)) (V 171 (1770 + 4 * c + 1)) (V 171 (1770 + 4 * c + 2)) (V 171 (1770 + 4 * c + 3)) → W 170 21 = 1 → K u w (some (iv (hwP (V 171 (1770 + 4 * c)) (V 171 (1770 + 4 * c + 1)) (V 171 (1770 + 4 * c + 2)) (V 171 (1770 + 4 * c + 3)) ts M tm))) S W) : y_R X 8 155 u w [.ref 170, iv (c : Int)] S V K := by
  refine y_ent (lv' := [(0, .ref 170), (1, iv (c : Int))]) (Nat.le_of_ble_eq_true rfl) rfl ?_
  refine y_si rfl rfl (by decide) ?_
  refine y_ic rfl rfl ?_
  refine y_ld (x := iv (c : Int)) rfl rfl (fun d => rfl) ?_
  refine y_mul (z := (4 * (c : Int))) rfl rfl rfl ?_
  refine y_add (z := (1770 + (4 * (c : Int)))) rfl rfl rfl ?_
  refine y_st (lv' := [(2, iv (1770 + (4 * (c : Int)))), (0, .ref 170), (1, iv (c : Int))]) rfl rfl (fun d => rfl) ?_
  refine y_ld (x := .ref 170) rfl rfl (fun d => rfl) ?_
  refine y_ld (x := .ref 170) rfl rfl (fun d => rfl) ?_
  refine y_gR (i := 1) rfl rfl rfl (md170 hM) rfl ?_
  refine y_ld (x := iv (1770 + (4 * (c : Int)))) rfl rfl (fun d => rfl) ?_
  refine y_ild (x := (V 171 (1770 + 4 * c))) (q := (1770 + 4 * c)) rfl rfl (md171 hM) (by omega) (by decide) (by omega) rfl ?_
  refine y_ld (x := .ref 170) rfl rfl (fun d => rfl) ?_
  refine y_gR (i := 1) rfl rfl rfl (md170 hM) rfl ?_
  refine y_ld (x := iv (1770 + (4 * (c : Int)))) rfl rfl (fun d => rfl) ?_
  refine y_ic rfl rfl ?_
  refine y_add (z := ((1770 + (4 * (c : Int))) + 1)) rfl rfl rfl ?_
  refine y_ild (x := (V 171 (1770 + 4 * c + 1))) (q := (1770 + 4 * c + 1)) rfl rfl (md171 hM) (by omega) (by decide) (by omega) rfl ?_
  refine y_ld (x := .ref 170) rfl rfl (fun d => rfl) ?_
  refine y_gR (i := 1) rfl rfl rfl (md170 hM) rfl ?_
  refine y_ld (x := iv (1770 + (4 * (c : Int)))) rfl rfl (fun d => rfl) ?_
  refine y_ic rfl rfl ?_
  refine y_add (z := ((1770 + (4 * (c : Int))) + 2)) rfl rfl rfl ?_
  refine y_ild (x := (V 171 (1770 + 4 * c + 2))) (q := (1770 + 4 * c + 2)) rfl rfl (md171 hM) (by omega) (by decide) (by omega) rfl ?_
  refine y_ld (x := .ref 170) rfl rfl (fun d => rfl) ?_
  refine y_gR (i := 1) rfl rfl rfl (md170 hM) rfl ?_
  refine y_ld (x := iv (1770 + (4 * (c : Int)))) rfl rfl (fun d => rfl) ?_
  refine y_ic rfl rfl ?_
  refine y_add (z := ((1770 + (4 * (c : Int))) + 3)) rfl rfl rfl ?_
  refine y_ild (x := (V 171 (1770 + 4 * c + 3))) (q := (1770 + 4 * c + 3)) rfl rfl (md171 hM) (by omega) (by decide) (by omega) rfl ?_
  refine y_cV (as := [.ref 170, iv (V 171 (1770 + 4 * c)), iv (V 171 (1770 + 4 * c + 1)), iv (V 171 (1770 + 4 * c + 2)), iv (V 171 (1770 + 4 * c + 3))]) rfl rfl rfl rfl rfl (md170 hM) ⟨rfl, (Nat.le_of_ble_eq_true rfl), (Nat.le_of_ble_eq_true rfl)⟩ (by decide) (ct_packet hM ?_)
  refine y_n0 ?_
  refine y_ic rfl rfl ?_
  refine y_st (lv' := [(3, iv 0), (2, iv (1770 + (4 * (c : Int)))), (0, .ref 170), (1, iv (c : Int))]) rfl rfl (fun d => rfl) ?_
  have hfp := pkU_fr V (V 171 (1770 + 4 * c)) (V 171 (1770 + 4 * c + 1)) (V 171 (1770 + 4 * c + 2)) (V 171 (1770 + 4 * c + 3))
  have hft : FrT V (pkU V (V 171 (1770 + 4 * c)) (V 171 (1770 + 4 * c + 1)) (V 171 (1770 + 4 * c + 2)) (V 171 (1770 + 4 * c + 3))) := ⟨fun k q1 q2 q3 => pkU_171 V _ _ _ _ k q1, hfp.2⟩
  refine y_lv (l' := [(0, .ref 170), (3, iv ((0 : Nat) : Int))]) rfl ⟨rfl, rfl, trivial⟩ ?_
  have e178 : pkU V (V 171 (1770 + 4 * c)) (V 171 (1770 + 4 * c + 1)) (V 171 (1770 + 4 * c + 2)) (V 171 (1770 + 4 * c + 3)) 178 = V 178 := pkU_171 V _ _ _ _ 178 (by decide)
  exact y_mono (lp_tries (V := V) (F := 100) hM htl hTO hMr hpk 5 0 (pkU V (V 171 (1770 + 4 * c)) (V 171 (1770 + 4 * c + 1)) (V 171 (1770 + 4 * c + 2)) (V 171 (1770 + 4 * c + 3))) (by omega) (by omega) hft (ThM_r hTh (hft.2 27 (by decide)) (fun k h1 h2 => hft.1 k (by omega) (by omega) (by omega))) (pkU_pk V _ _ _ _) ((by unfold pkU; rw [v_up_ni (by decide), v_up_ni (by decide), v_up_ni (by decide), v_up_ni (by decide)]; exact h21)) rfl (fun q hq => absurd hq (by omega)) (fun q _ hq p hp => by rw [e178]; exact hM2 q hq p hp) k) (by decide)
end
