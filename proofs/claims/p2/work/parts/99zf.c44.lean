/-! breaks, partsWays: the class -/
section
variable {X : Nat → List Int32} {u w : Nat} {S : m_H} {V : v_V} {K : v_K}
set_option maxRecDepth 100000 in
set_option maxHeartbeats 4000000 in
theorem cc_breaks (hC : ClF S) {form N : Int} {al mt : Nat} {ts : Nat → List p_Li} {σ : Nat → Int} {j pk : Nat} {a h κ n : Int} {M : Nat → Nat → Int} {A : Aw} (hm4 : mt ≤ 4) (hj : j < 3) (hpk : pkO a h κ n) (hkl : 193 ≤ pk) (hMr : ∀ i, i < mt → muO (M i)) (hTO : ∀ i, i < mt → TO (ts i)) (hSr0 : SrC S V form N al mt ts σ) (hP0 : PkS S V pk a h κ n) (hSg : SgC V j form mt M A) (hAo : awO j A) (hfm : 0 ≤ form ∧ form ≤ 4) (hN : 0 ≤ N ∧ N ≤ 99) (k1 : hitP form N a h κ n ts mt M A → ∀ V2, SgC V2 (j + 1) form mt (stM form a h κ n ts M) (stA form a h κ n ts mt M A) → FrS j V V2 → V2 121 = V 121 → K u w (some (iv 1)) S V2) (k0 : ¬ hitP form N a h κ n ts mt M A → ∀ V2, SgC V2 (j + 1) form mt (stM form a h κ n ts M) (stA form a h κ n ts mt M A) → FrS j V V2 → V2 121 = V 121 → K u w (some (iv 0)) S V2) : y_R X 9 36 u w [.ref 116, iv (j : Int), .ref pk] S V K := by
  refine y_ent (lv' := [(0, .ref 116), (1, iv (j : Int)), (2, .ref pk)]) (Nat.le_of_ble_eq_true rfl) rfl ?_
  refine y_ic rfl rfl ?_
  refine y_st (lv' := [(3, iv 1), (0, .ref 116), (1, iv (j : Int)), (2, .ref pk)]) rfl rfl (fun d => rfl) ?_
  refine y_ic rfl rfl ?_
  refine y_st (lv' := [(4, iv 0), (3, iv 1), (0, .ref 116), (1, iv (j : Int)), (2, .ref pk)]) rfl rfl (fun d => rfl) ?_
  refine y_lv (l' := [(0, .ref 116), (1, iv (j : Int)), (2, .ref pk), (3, iv (hwP a h κ n ts M 0)), (4, iv ((0 : Nat) : Int))]) rfl ⟨rfl, rfl, rfl, rfl, rfl, trivial⟩ ?_
  refine y_mono (lp_breaks (A := A) (F := 500) hC hm4 hj hpk hkl hMr hTO hSr0 hSg.1 hP0 5 0 V (by omega) (by omega) (fun k _ => rfl) (fun q hq => absurd hq (by omega)) (fun W hF hD => ?_)) (by decide)
  have hR0 : RWc W j A := RWc_r (hSg.2 (by omega)) ⟨by rw [hF _ (fun q hq => by omega)], by rw [hF _ (fun q hq => by omega)], by rw [hF _ (fun q hq => by omega)]⟩ (hF _ (fun q hq => by omega)) (hF _ (fun q hq => by omega)) (hF _ (fun q hq => by omega))
  obtain ⟨vs1, hb11, hb12⟩ := ww_ref hC (i := j + 1) (by omega)
  obtain ⟨vs0, hb01, hb02⟩ := ww_ref hC (i := j) (by omega)
  have hwr := hwP_rg (t := a) (h := h) (k := κ) (n := n) (ts := ts) hMr mt (Nat.le_refl _)
  refine y_ld (x := .ref 116) rfl rfl (fun d => rfl) ?_
  refine y_gR (i := 1) rfl rfl rfl hSr0.1 rfl ?_
  refine y_ld (x := iv (j : Int)) rfl rfl (fun d => rfl) ?_
  refine y_ic rfl rfl ?_
  refine y_add (z := ((j : Int) + 1)) rfl rfl rfl ?_
  refine y_rld (i := j + 1) (x := 154 + 4 * (j + 1)) rfl rfl hb11 (by decide) (by omega) (by omega) hb12 ?_
  refine y_ld (x := .ref 116) rfl rfl (fun d => rfl) ?_
  refine y_gR (i := 1) rfl rfl rfl hSr0.1 rfl ?_
  refine y_ld (x := iv (j : Int)) rfl rfl (fun d => rfl) ?_
  refine y_rld (i := j) (x := 154 + 4 * j) rfl rfl hb01 (by decide) (by omega) (by omega) hb02 ?_
  refine y_cV (as := [.ref (154 + 4 * (j + 1)), .ref (154 + 4 * j)]) rfl rfl rfl rfl rfl (ww_ob hC (i := j + 1) (by omega)) ⟨rfl, (Nat.le_of_ble_eq_true rfl), (Nat.le_of_ble_eq_true rfl)⟩ (by decide) (cw_become (i := j) hC (by omega) hR0 (fun W2 hR2 hF2 => ?_))
  refine y_n0 ?_
  refine y_ld (x := .ref 116) rfl rfl (fun d => rfl) ?_
  refine y_gR (i := 1) rfl rfl rfl hSr0.1 rfl ?_
  refine y_ld (x := iv (j : Int)) rfl rfl (fun d => rfl) ?_
  refine y_ic rfl rfl ?_
  refine y_add (z := ((j : Int) + 1)) rfl rfl rfl ?_
  refine y_rld (i := j + 1) (x := 154 + 4 * (j + 1)) rfl rfl hb11 (by decide) (by omega) (by omega) hb12 ?_
  refine y_ld (x := .ref pk) rfl rfl (fun d => rfl) ?_
  refine y_ld (x := iv (hwP a h κ n ts M mt)) rfl rfl (fun d => rfl) ?_
  refine y_ld (x := .ref 116) rfl rfl (fun d => rfl) ?_
  refine y_gI (i := 7) (e := form) rfl rfl rfl hSr0.1 rfl ((congrFun ((hF2 116 (by omega)).trans (hF 116 (fun q hq => by omega))) 7).trans hSr0.2.1.2.2.1) ?_
  refine y_ld (x := .ref 116) rfl rfl (fun d => rfl) ?_
  refine y_gI (i := 8) (e := N) rfl rfl rfl hSr0.1 rfl ((congrFun ((hF2 116 (by omega)).trans (hF 116 (fun q hq => by omega))) 8).trans hSr0.2.1.2.2.2) ?_
  refine y_cV (as := [.ref (154 + 4 * (j + 1)), .ref pk, iv (hwP a h κ n ts M mt), iv form, iv N]) rfl rfl rfl rfl rfl (ww_ob hC (i := j + 1) (by omega)) ⟨rfl, (Nat.le_of_ble_eq_true rfl), (Nat.le_of_ble_eq_true rfl)⟩ (by decide) (cw_sees (i := j + 1) hC (by omega) hR2 hAo (by omega) (PkS_r hP0 ((hF2 pk (by omega)).trans (hF pk (fun q hq => by omega)))) hpk hkl hwr hfm hN (fun hv V3 hR3 hF3 => ?_) (fun hv V3 hR3 hF3 => ?_))
  · refine y_nv ?_
    refine y_rI rfl (by decide) ?_
    have eA : (stA form a h κ n ts mt M A) = awS A a h κ n (hwP a h κ n ts M mt) := if_neg (by omega)
    have efr : ∀ k, (k < 154 + 4 * (j + 1) ∨ 154 + 4 * (j + 1) + 3 < k) → (∀ q : Nat, q < 4 → k ≠ 123 + 2 * (4 * (j + 1) + q)) → V3 k = V k := fun k h1 h2 => (hF3 k h1).trans ((hF2 k h1).trans (hF k h2))
    have hsg : SgC V3 (j + 1) form mt (stM form a h κ n ts M) (stA form a h κ n ts mt M A) := by
      refine ⟨fun i hi p hp => ?_, fun _ => by rw [eA]; exact hR3⟩
      rw [hF3 _ (by omega), hF2 _ (by omega), hD i hi p hp]
      show _ = stM form a h κ n ts M i p
      exact (congrFun (if_neg (show ¬ form = -1 by omega)) p).symm
    have hfs : FrS j V V3 := fun k h1 h2 => efr k (by omega) (fun q hq => by omega)
    have h121 : V3 121 = V 121 := efr 121 (by omega) (fun q hq => by omega)
    exact k1 (Or.inr ⟨by omega, hv⟩) V3 hsg hfs h121
  · refine y_nv ?_
    refine y_rI rfl (by decide) ?_
    have eA : (stA form a h κ n ts mt M A) = awS A a h κ n (hwP a h κ n ts M mt) := if_neg (by omega)
    have efr : ∀ k, (k < 154 + 4 * (j + 1) ∨ 154 + 4 * (j + 1) + 3 < k) → (∀ q : Nat, q < 4 → k ≠ 123 + 2 * (4 * (j + 1) + q)) → V3 k = V k := fun k h1 h2 => (hF3 k h1).trans ((hF2 k h1).trans (hF k h2))
    have hsg : SgC V3 (j + 1) form mt (stM form a h κ n ts M) (stA form a h κ n ts mt M A) := by
      refine ⟨fun i hi p hp => ?_, fun _ => by rw [eA]; exact hR3⟩
      rw [hF3 _ (by omega), hF2 _ (by omega), hD i hi p hp]
      show _ = stM form a h κ n ts M i p
      exact (congrFun (if_neg (show ¬ form = -1 by omega)) p).symm
    have hfs : FrS j V V3 := fun k h1 h2 => efr k (by omega) (fun q hq => by omega)
    have h121 : V3 121 = V 121 := efr 121 (by omega) (fun q hq => by omega)
    exact k0 (fun q => by rcases q with q | q; exact absurd q.1 (by omega); exact hv q.2) V3 hsg hfs h121
set_option maxRecDepth 100000 in
set_option maxHeartbeats 4000000 in
theorem lp_parts (hC : ClF S) {form N : Int} {al mt : Nat} {ts : Nat → List p_Li} {σ : Nat → Int} {j pk : Nat} {a h κ n : Int} {M : Nat → Nat → Int} {A : Aw} (hm4 : mt ≤ 4) (hj : j < 3) (hpk : pkO a h κ n) (hkl : 193 ≤ pk) (hMr : ∀ i, i < mt → muO (M i)) (hTO : ∀ i, i < mt → TO (ts i)) (hSr0 : SrC S V form N al mt ts σ) (hM0 : ∀ i, i < mt → ∀ p : Nat, p < 84 → V (123 + 2 * (4 * j + i)) p = M i p) (hP0 : PkS S V pk a h κ n) {F : Nat} : ∀ (m : Nat) (i : Nat) (W : v_V) (fst sm : Int), mt - i < m → (i ≤ mt) → (∀ k, (∀ q : Nat, q < 4 → k ≠ 123 + 2 * (4 * (j + 1) + q)) → W k = V k) → (∀ q : Nat, q < i → ∀ p : Nat, p < 84 → W (123 + 2 * (4 * (j + 1) + q)) p = (eW a h κ n (ts q) (M q)).2 p) → (i = 0 → fst = 1) → (0 < i → fst = (eW a h κ n (ts 0) (M 0)).1) → ((sm = 1 ∧ ∀ q : Nat, q < i → (eW a h κ n (ts q) (M q)).1 = (eW a h κ n (ts 0) (M 0)).1) ∨ (sm = 0 ∧ ¬ ∀ q : Nat, q < i → (eW a h κ n (ts q) (M q)).1 = (eW a h κ n (ts 0) (M 0)).1)) → (∀ (W : v_V) (sm : Int), (∀ k, (∀ q : Nat, q < 4 → k ≠ 123 + 2 * (4 * (j + 1) + q)) → W k = V k) → (∀ q : Nat, q < mt → ∀ p : Nat, p < 84 → W (123 + 2 * (4 * (j + 1) + q)) p = (eW a h κ n (ts q) (M q)).2 p) → ((sm = 1 ∧ ∀ q : Nat, q < mt → (eW a h κ n (ts q) (M q)).1 = (eW a h κ n (ts 0) (M 0)).1) ∨ (sm = 0 ∧ ¬ ∀ q : Nat, q < mt → (eW a h κ n (ts q) (M q)).1 = (eW a h κ n (ts 0) (M 0)).1)) → y_E X 8 37 F u w 86 [(0, .ref 116), (4, iv sm)] [] S W K) → y_E X 8 37 (120 * m + F) u w 8 [(0, .ref 116), (1, iv (j : Int)), (2, .ref pk), (3, iv fst), (4, iv sm), (5, iv (i : Int))] [] S W K := by
  intro m
  induction m with
  | zero => intros; omega
  | succ m ih =>
    intro i W fst sm hm1 hI hF hD hf0 hf1 hsm hx2
    refine y_mono (F' := (120 * m + F) + 120) ?_ (by omega)
    refine y_ld (x := iv (i : Int)) rfl rfl (fun d => rfl) ?_
    refine y_ld (x := .ref 116) rfl rfl (fun d => rfl) ?_
    refine y_gI (i := 4) (e := (mt : Int)) rfl rfl rfl hSr0.1 rfl ((congrFun (hF 116 (fun q hq => by omega)) 4).trans hSr0.2.1.1) ?_
    refine y_jge rfl rfl rfl (by omega) (fun g1 => ?_) (fun g1 => ?_)
    · obtain rfl : i = mt := by have := hSr0.2.1.1; have := hF 116 (fun q hq => by omega); omega
      refine y_lv (l' := [(0, .ref 116), (4, iv sm)]) rfl ⟨rfl, rfl, trivial⟩ ?_
      exact y_mono (hx2 W sm hF hD hsm) (by omega)
    · have hSr := SrC_r hSr0 (hF 116 (fun q hq => by omega)) (fun k hk => hF k (fun q hq => by omega))
      have hM : ∀ i, i < mt → ∀ p : Nat, p < 84 → W (123 + 2 * (4 * j + i)) p = M i p := fun q hq p hp => by rw [hF _ (fun q2 hq2 => by omega)]; exact hM0 q hq p hp
      have hP := PkS_r hP0 (hF pk (fun q hq => by omega))
      have hmi_ : i < mt := by omega
      obtain ⟨xs, x1, x2, x3⟩ := hSr.2.2.1
      obtain ⟨t, t1, t2, t3, t4⟩ := x3 i (by omega)
      have hl := hTO i (by omega)
      refine y_ld (x := .ref 116) rfl rfl (fun d => rfl) ?_
      refine y_ld (x := iv (j : Int)) rfl rfl (fun d => rfl) ?_
      refine y_ld (x := iv (i : Int)) rfl rfl (fun d => rfl) ?_
      refine y_cV (as := [.ref 116, iv (j : Int), iv (i : Int)]) rfl rfl rfl rfl rfl hSr0.1 ⟨rfl, (Nat.le_of_ble_eq_true rfl), (Nat.le_of_ble_eq_true rfl)⟩ (by decide) (cc_carried hC hSr.1 (j := j) (i := i) (by omega) (by omega) ?_)
      refine y_nv ?_
      refine y_st (lv' := [(6, .ref (122 + 2 * (4 * (j + 1) + i))), (0, .ref 116), (1, iv (j : Int)), (2, .ref pk), (3, iv fst), (4, iv sm), (5, iv (i : Int))]) rfl rfl (fun d => rfl) ?_
      have en : ∀ k, k ≠ 123 + 2 * (4 * (j + 1) + i) → (v_ur W (123 + 2 * (4 * (j + 1) + i)) (W (123 + 2 * (4 * j + i)))) k = W k := fun k hk => v_ur_ne hk
      have er : (v_ur W (123 + 2 * (4 * (j + 1) + i)) (W (123 + 2 * (4 * j + i)))) (123 + 2 * (4 * (j + 1) + i)) = W (123 + 2 * (4 * j + i)) := v_ur_eq _ _ _
      have hmi : ∀ p : Nat, p < 84 → (v_ur W (123 + 2 * (4 * (j + 1) + i)) (W (123 + 2 * (4 * j + i)))) (123 + 2 * (4 * (j + 1) + i)) p = M i p := fun p hp => by rw [er]; exact hM i (by omega) p hp
      have hmu : muO ((v_ur W (123 + 2 * (4 * (j + 1) + i)) (W (123 + 2 * (4 * j + i)))) (123 + 2 * (4 * (j + 1) + i))) := fun p hp => by rw [hmi p hp]; exact hMr i (by omega) p hp
      have hct : CT (v_ur W (123 + 2 * (4 * (j + 1) + i)) (W (123 + 2 * (4 * j + i)))) t (ts i) := CT_r t4 (fun q hq => en _ (by omega))
      have hPp : PkS S (v_ur W (123 + 2 * (4 * (j + 1) + i)) (W (123 + 2 * (4 * j + i)))) pk a h κ n := PkS_r hP (en _ (by omega))
      have ec := eW_congr hpk (ts i) _ _ hmi hl.1
      have el := eL_congr hmi hpk (ts i) 0 hl.1
      refine y_ld (x := .ref 116) rfl rfl (fun d => rfl) ?_
      refine y_gR (i := 2) rfl rfl rfl hSr0.1 rfl ?_
      refine y_ld (x := iv (i : Int)) rfl rfl (fun d => rfl) ?_
      refine y_rld (i := i) (x := t) rfl rfl x1 (by decide) (by omega) (by omega) t1 ?_
      refine y_ld (x := .ref 116) rfl rfl (fun d => rfl) ?_
      refine y_gR (i := 2) rfl rfl rfl hSr0.1 rfl ?_
      refine y_ld (x := iv (i : Int)) rfl rfl (fun d => rfl) ?_
      refine y_rld (i := i) (x := t) rfl rfl x1 (by decide) (by omega) (by omega) t1 ?_
      refine y_ld (x := .ref pk) rfl rfl (fun d => rfl) ?_
      refine y_ld (x := .ref (122 + 2 * (4 * (j + 1) + i))) rfl rfl (fun d => rfl) ?_
      refine y_cV (as := [.ref t, .ref pk, .ref (122 + 2 * (4 * (j + 1) + i))]) rfl rfl rfl rfl rfl t3.1 ⟨rfl, (Nat.le_of_ble_eq_true rfl), (Nat.le_of_ble_eq_true rfl)⟩ (by decide) (cc_lineFor t3 (mm_ob hC (i := 4 * (j + 1) + i) (by omega)) rfl hPp hpk hmu (CT_w6 hct hl) hct hl.1 hl.2.1 hl.2.2.1 ?_)
      refine y_nv ?_
      rcases eLW ((v_ur W (123 + 2 * (4 * (j + 1) + i)) (W (123 + 2 * (4 * j + i)))) (123 + 2 * (4 * (j + 1) + i))) a h κ n (ts i) 0 with ⟨e1, e2⟩ | ⟨q, y, e1, e2, e3⟩
      · refine y_iv (e' := -5) e1 ?_
        refine y_ld (x := .ref pk) rfl rfl (fun d => rfl) ?_
        refine y_ld (x := .ref (122 + 2 * (4 * (j + 1) + i))) rfl rfl (fun d => rfl) ?_
        refine y_cV (as := [.ref t, iv (-5), .ref pk, .ref (122 + 2 * (4 * (j + 1) + i))]) rfl rfl rfl rfl rfl t3.1 ⟨rfl, (Nat.le_of_ble_eq_true rfl), (Nat.le_of_ble_eq_true rfl)⟩ (by decide) (cc_does5 t3 ?_)
        refine y_nv ?_
        have ew : 1 = (eW a h κ n (ts i) (M i)).1 := by rw [← ec.1, e2]
        have erow : ∀ p : Nat, p < 84 → (v_ur W (123 + 2 * (4 * (j + 1) + i)) (W (123 + 2 * (4 * j + i)))) (123 + 2 * (4 * (j + 1) + i)) p = (eW a h κ n (ts i) (M i)).2 p := fun p hp => by rw [← ec.2 p hp, e2]
        have en2 : ∀ k, k ≠ 123 + 2 * (4 * (j + 1) + i) → (v_ur W (123 + 2 * (4 * (j + 1) + i)) (W (123 + 2 * (4 * j + i)))) k = W k := en
        refine y_iv ew ?_
        have hri := (eW_rg (t := a) (h := h) (k := κ) (n := n) (ts i) (M i) (hMr i (by omega))).2
        have hr0 := (eW_rg (t := a) (h := h) (k := κ) (n := n) (ts 0) (M 0) (hMr 0 (by omega))).2
        refine y_st (lv' := [(7, iv ((eW a h κ n (ts i) (M i)).1)), (6, .ref (122 + 2 * (4 * (j + 1) + i))), (0, .ref 116), (1, iv (j : Int)), (2, .ref pk), (3, iv fst), (4, iv sm), (5, iv (i : Int))]) rfl rfl (fun d => rfl) ?_
        refine y_ld (x := iv (i : Int)) rfl rfl (fun d => rfl) ?_
        refine y_zne rfl rfl rfl (by omega) (fun g2 => ?_) (fun g2 => ?_)
        · have hfi : fst = (eW a h κ n (ts 0) (M 0)).1 := hf1 (by omega)
          rcases hsm with ⟨rfl, hsm⟩ | ⟨rfl, hsm⟩
          · refine y_ld (x := iv 1) rfl rfl (fun d => rfl) ?_
            refine y_zeq rfl rfl rfl (by decide) (fun g3 => absurd g3 (by decide)) (fun g3 => ?_)
            refine y_ld (x := iv ((eW a h κ n (ts i) (M i)).1)) rfl rfl (fun d => rfl) ?_
            refine y_ld (x := iv fst) rfl rfl (fun d => rfl) ?_
            refine y_jne rfl rfl rfl (by omega) (fun g4 => ?_) (fun g4 => ?_)
            · refine y_ic rfl rfl ?_
              refine y_st (lv' := [(4, iv 0), (7, iv ((eW a h κ n (ts i) (M i)).1)), (6, .ref (122 + 2 * (4 * (j + 1) + i))), (0, .ref 116), (1, iv (j : Int)), (2, .ref pk), (3, iv fst), (5, iv (i : Int))]) rfl rfl (fun d => rfl) ?_
              refine y_inc (z := ((i + 1 : Nat) : Int)) (lv' := [(5, iv ((i + 1 : Nat) : Int)), (4, iv 0), (7, iv ((eW a h κ n (ts i) (M i)).1)), (6, .ref (122 + 2 * (4 * (j + 1) + i))), (0, .ref 116), (1, iv (j : Int)), (2, .ref pk), (3, iv fst)]) rfl rfl rfl (by omega) rfl ?_
              refine y_go rfl rfl ?_
              refine y_lv (l' := [(0, .ref 116), (1, iv (j : Int)), (2, .ref pk), (3, iv fst), (4, iv 0), (5, iv ((i + 1 : Nat) : Int))]) rfl ⟨rfl, rfl, rfl, rfl, rfl, rfl, trivial⟩ ?_
              refine y_mono (ih (i + 1) (v_ur W (123 + 2 * (4 * (j + 1) + i)) (W (123 + 2 * (4 * j + i)))) _ 0 (by omega) (by omega) (fun k hk => (en2 k (hk i (by omega))).trans (hF k hk)) (fun q hq p hp => ?_) (fun h9 => absurd h9 (by omega)) (fun _ => hfi) (Or.inr ⟨rfl, fun hf => absurd (hf i (by omega)) (by omega)⟩) hx2) (by omega)
              rcases (show q < i ∨ q = i by omega) with h7 | h7
              · rw [en2 _ (by omega)]; exact hD q h7 p hp
              · rw [h7]; exact erow p hp
            · refine y_ic rfl rfl ?_
              refine y_go rfl rfl ?_
              refine y_st (lv' := [(4, iv 1), (7, iv ((eW a h κ n (ts i) (M i)).1)), (6, .ref (122 + 2 * (4 * (j + 1) + i))), (0, .ref 116), (1, iv (j : Int)), (2, .ref pk), (3, iv fst), (5, iv (i : Int))]) rfl rfl (fun d => rfl) ?_
              refine y_inc (z := ((i + 1 : Nat) : Int)) (lv' := [(5, iv ((i + 1 : Nat) : Int)), (4, iv 1), (7, iv ((eW a h κ n (ts i) (M i)).1)), (6, .ref (122 + 2 * (4 * (j + 1) + i))), (0, .ref 116), (1, iv (j : Int)), (2, .ref pk), (3, iv fst)]) rfl rfl rfl (by omega) rfl ?_
              refine y_go rfl rfl ?_
              refine y_lv (l' := [(0, .ref 116), (1, iv (j : Int)), (2, .ref pk), (3, iv fst), (4, iv 1), (5, iv ((i + 1 : Nat) : Int))]) rfl ⟨rfl, rfl, rfl, rfl, rfl, rfl, trivial⟩ ?_
              refine y_mono (ih (i + 1) (v_ur W (123 + 2 * (4 * (j + 1) + i)) (W (123 + 2 * (4 * j + i)))) _ 1 (by omega) (by omega) (fun k hk => (en2 k (hk i (by omega))).trans (hF k hk)) (fun q hq p hp => ?_) (fun h9 => absurd h9 (by omega)) (fun _ => hfi) (Or.inl ⟨rfl, fun q hq => by rcases (show q < i ∨ q = i by omega) with h7 | h7; exact hsm q h7; rw [h7]; omega⟩) hx2) (by omega)
              rcases (show q < i ∨ q = i by omega) with h7 | h7
              · rw [en2 _ (by omega)]; exact hD q h7 p hp
              · rw [h7]; exact erow p hp
          · refine y_ld (x := iv 0) rfl rfl (fun d => rfl) ?_
            refine y_zeq rfl rfl rfl (by decide) (fun g5 => ?_) (fun g5 => absurd g5 (by decide))
            refine y_ic rfl rfl ?_
            refine y_st (lv' := [(4, iv 0), (7, iv ((eW a h κ n (ts i) (M i)).1)), (6, .ref (122 + 2 * (4 * (j + 1) + i))), (0, .ref 116), (1, iv (j : Int)), (2, .ref pk), (3, iv fst), (5, iv (i : Int))]) rfl rfl (fun d => rfl) ?_
            refine y_inc (z := ((i + 1 : Nat) : Int)) (lv' := [(5, iv ((i + 1 : Nat) : Int)), (4, iv 0), (7, iv ((eW a h κ n (ts i) (M i)).1)), (6, .ref (122 + 2 * (4 * (j + 1) + i))), (0, .ref 116), (1, iv (j : Int)), (2, .ref pk), (3, iv fst)]) rfl rfl rfl (by omega) rfl ?_
            refine y_go rfl rfl ?_
            refine y_lv (l' := [(0, .ref 116), (1, iv (j : Int)), (2, .ref pk), (3, iv fst), (4, iv 0), (5, iv ((i + 1 : Nat) : Int))]) rfl ⟨rfl, rfl, rfl, rfl, rfl, rfl, trivial⟩ ?_
            refine y_mono (ih (i + 1) (v_ur W (123 + 2 * (4 * (j + 1) + i)) (W (123 + 2 * (4 * j + i)))) _ 0 (by omega) (by omega) (fun k hk => (en2 k (hk i (by omega))).trans (hF k hk)) (fun q hq p hp => ?_) (fun h9 => absurd h9 (by omega)) (fun _ => hfi) (Or.inr ⟨rfl, fun hf => hsm (fun q hq => hf q (by omega))⟩) hx2) (by omega)
            rcases (show q < i ∨ q = i by omega) with h7 | h7
            · rw [en2 _ (by omega)]; exact hD q h7 p hp
            · rw [h7]; exact erow p hp
        · refine y_ld (x := iv ((eW a h κ n (ts i) (M i)).1)) rfl rfl (fun d => rfl) ?_
          refine y_st (lv' := [(3, iv ((eW a h κ n (ts i) (M i)).1)), (7, iv ((eW a h κ n (ts i) (M i)).1)), (6, .ref (122 + 2 * (4 * (j + 1) + i))), (0, .ref 116), (1, iv (j : Int)), (2, .ref pk), (4, iv sm), (5, iv (i : Int))]) rfl rfl (fun d => rfl) ?_
          have hfi : (eW a h κ n (ts i) (M i)).1 = (eW a h κ n (ts 0) (M 0)).1 := by rw [show i = 0 by omega]
          rcases hsm with ⟨rfl, hsm⟩ | ⟨rfl, hsm⟩
          · refine y_ld (x := iv 1) rfl rfl (fun d => rfl) ?_
            refine y_zeq rfl rfl rfl (by decide) (fun g6 => absurd g6 (by decide)) (fun g6 => ?_)
            refine y_ld (x := iv ((eW a h κ n (ts i) (M i)).1)) rfl rfl (fun d => rfl) ?_
            refine y_ld (x := iv ((eW a h κ n (ts i) (M i)).1)) rfl rfl (fun d => rfl) ?_
            refine y_jne rfl rfl rfl (by omega) (fun g7 => ?_) (fun g7 => ?_)
            · refine y_ic rfl rfl ?_
              refine y_st (lv' := [(4, iv 0), (3, iv ((eW a h κ n (ts i) (M i)).1)), (7, iv ((eW a h κ n (ts i) (M i)).1)), (6, .ref (122 + 2 * (4 * (j + 1) + i))), (0, .ref 116), (1, iv (j : Int)), (2, .ref pk), (5, iv (i : Int))]) rfl rfl (fun d => rfl) ?_
              refine y_inc (z := ((i + 1 : Nat) : Int)) (lv' := [(5, iv ((i + 1 : Nat) : Int)), (4, iv 0), (3, iv ((eW a h κ n (ts i) (M i)).1)), (7, iv ((eW a h κ n (ts i) (M i)).1)), (6, .ref (122 + 2 * (4 * (j + 1) + i))), (0, .ref 116), (1, iv (j : Int)), (2, .ref pk)]) rfl rfl rfl (by omega) rfl ?_
              refine y_go rfl rfl ?_
              refine y_lv (l' := [(0, .ref 116), (1, iv (j : Int)), (2, .ref pk), (3, iv ((eW a h κ n (ts i) (M i)).1)), (4, iv 0), (5, iv ((i + 1 : Nat) : Int))]) rfl ⟨rfl, rfl, rfl, rfl, rfl, rfl, trivial⟩ ?_
              refine y_mono (ih (i + 1) (v_ur W (123 + 2 * (4 * (j + 1) + i)) (W (123 + 2 * (4 * j + i)))) _ 0 (by omega) (by omega) (fun k hk => (en2 k (hk i (by omega))).trans (hF k hk)) (fun q hq p hp => ?_) (fun h9 => absurd h9 (by omega)) (fun _ => hfi) (Or.inr ⟨rfl, fun hf => absurd (hf i (by omega)) (by omega)⟩) hx2) (by omega)
              rcases (show q < i ∨ q = i by omega) with h7 | h7
              · rw [en2 _ (by omega)]; exact hD q h7 p hp
              · rw [h7]; exact erow p hp
            · refine y_ic rfl rfl ?_
              refine y_go rfl rfl ?_
              refine y_st (lv' := [(4, iv 1), (3, iv ((eW a h κ n (ts i) (M i)).1)), (7, iv ((eW a h κ n (ts i) (M i)).1)), (6, .ref (122 + 2 * (4 * (j + 1) + i))), (0, .ref 116), (1, iv (j : Int)), (2, .ref pk), (5, iv (i : Int))]) rfl rfl (fun d => rfl) ?_
              refine y_inc (z := ((i + 1 : Nat) : Int)) (lv' := [(5, iv ((i + 1 : Nat) : Int)), (4, iv 1), (3, iv ((eW a h κ n (ts i) (M i)).1)), (7, iv ((eW a h κ n (ts i) (M i)).1)), (6, .ref (122 + 2 * (4 * (j + 1) + i))), (0, .ref 116), (1, iv (j : Int)), (2, .ref pk)]) rfl rfl rfl (by omega) rfl ?_
              refine y_go rfl rfl ?_
              refine y_lv (l' := [(0, .ref 116), (1, iv (j : Int)), (2, .ref pk), (3, iv ((eW a h κ n (ts i) (M i)).1)), (4, iv 1), (5, iv ((i + 1 : Nat) : Int))]) rfl ⟨rfl, rfl, rfl, rfl, rfl, rfl, trivial⟩ ?_
              refine y_mono (ih (i + 1) (v_ur W (123 + 2 * (4 * (j + 1) + i)) (W (123 + 2 * (4 * j + i)))) _ 1 (by omega) (by omega) (fun k hk => (en2 k (hk i (by omega))).trans (hF k hk)) (fun q hq p hp => ?_) (fun h9 => absurd h9 (by omega)) (fun _ => hfi) (Or.inl ⟨rfl, fun q hq => by rcases (show q < i ∨ q = i by omega) with h7 | h7; exact hsm q h7; rw [h7]; omega⟩) hx2) (by omega)
              rcases (show q < i ∨ q = i by omega) with h7 | h7
              · rw [en2 _ (by omega)]; exact hD q h7 p hp
              · rw [h7]; exact erow p hp
          · refine y_ld (x := iv 0) rfl rfl (fun d => rfl) ?_
            refine y_zeq rfl rfl rfl (by decide) (fun g8 => ?_) (fun g8 => absurd g8 (by decide))
            refine y_ic rfl rfl ?_
            refine y_st (lv' := [(4, iv 0), (3, iv ((eW a h κ n (ts i) (M i)).1)), (7, iv ((eW a h κ n (ts i) (M i)).1)), (6, .ref (122 + 2 * (4 * (j + 1) + i))), (0, .ref 116), (1, iv (j : Int)), (2, .ref pk), (5, iv (i : Int))]) rfl rfl (fun d => rfl) ?_
            refine y_inc (z := ((i + 1 : Nat) : Int)) (lv' := [(5, iv ((i + 1 : Nat) : Int)), (4, iv 0), (3, iv ((eW a h κ n (ts i) (M i)).1)), (7, iv ((eW a h κ n (ts i) (M i)).1)), (6, .ref (122 + 2 * (4 * (j + 1) + i))), (0, .ref 116), (1, iv (j : Int)), (2, .ref pk)]) rfl rfl rfl (by omega) rfl ?_
            refine y_go rfl rfl ?_
            refine y_lv (l' := [(0, .ref 116), (1, iv (j : Int)), (2, .ref pk), (3, iv ((eW a h κ n (ts i) (M i)).1)), (4, iv 0), (5, iv ((i + 1 : Nat) : Int))]) rfl ⟨rfl, rfl, rfl, rfl, rfl, rfl, trivial⟩ ?_
            refine y_mono (ih (i + 1) (v_ur W (123 + 2 * (4 * (j + 1) + i)) (W (123 + 2 * (4 * j + i)))) _ 0 (by omega) (by omega) (fun k hk => (en2 k (hk i (by omega))).trans (hF k hk)) (fun q hq p hp => ?_) (fun h9 => absurd h9 (by omega)) (fun _ => hfi) (Or.inr ⟨rfl, fun hf => hsm (fun q hq => hf q (by omega))⟩) hx2) (by omega)
            rcases (show q < i ∨ q = i by omega) with h7 | h7
            · rw [en2 _ (by omega)]; exact hD q h7 p hp
            · rw [h7]; exact erow p hp
      · refine y_iv (e' := (q : Int)) (by rw [e1, Nat.zero_add]) ?_
        refine y_ld (x := .ref pk) rfl rfl (fun d => rfl) ?_
        refine y_ld (x := .ref (122 + 2 * (4 * (j + 1) + i))) rfl rfl (fun d => rfl) ?_
        have hxm : y ∈ ts i := by rw [m_nth_eq] at e2; exact List.mem_of_getElem? e2
        have hyo := hl.1 y hxm
        have hjl := m_nth_lt e2
        have hln := hl.2.2.1
        obtain ⟨p, b1, b2, b3, b4, b5, b6, b7⟩ := CT_line hct e2
        refine y_cV (as := [.ref t, iv (q : Int), .ref pk, .ref (122 + 2 * (4 * (j + 1) + i))]) rfl rfl rfl rfl rfl t3.1 ⟨rfl, (Nat.le_of_ble_eq_true rfl), (Nat.le_of_ble_eq_true rfl)⟩ (by decide) (cc_does (p := p + (encTc y.2.2.1).length) (L := y.2.2.2) t3 (mm_ob hC (i := 4 * (j + 1) + i) (by omega)) hpk (by omega) t2 hkl (by omega) ⟨by rw [hct.1]; omega, by rw [hct.1]; omega⟩ b3 b4 (by have := hyo.2.2.2.2; omega) b6 hyo.2.1 hPp hmu b7 (CT_w6 hct hl) ?_)
        refine y_nv ?_
        have ew : (eA a h κ n y.2.2.2 ((v_ur W (123 + 2 * (4 * (j + 1) + i)) (W (123 + 2 * (4 * j + i)))) (123 + 2 * (4 * (j + 1) + i)))).1 = (eW a h κ n (ts i) (M i)).1 := by rw [← ec.1, e3]
        have erow : ∀ p : Nat, p < 84 → (v_ur (v_ur W (123 + 2 * (4 * (j + 1) + i)) (W (123 + 2 * (4 * j + i)))) (123 + 2 * (4 * (j + 1) + i)) (eA a h κ n y.2.2.2 ((v_ur W (123 + 2 * (4 * (j + 1) + i)) (W (123 + 2 * (4 * j + i)))) (123 + 2 * (4 * (j + 1) + i)))).2) (123 + 2 * (4 * (j + 1) + i)) p = (eW a h κ n (ts i) (M i)).2 p := fun p hp => by rw [v_ur_eq, ← ec.2 p hp, e3]
        have en2 : ∀ k, k ≠ 123 + 2 * (4 * (j + 1) + i) → (v_ur (v_ur W (123 + 2 * (4 * (j + 1) + i)) (W (123 + 2 * (4 * j + i)))) (123 + 2 * (4 * (j + 1) + i)) (eA a h κ n y.2.2.2 ((v_ur W (123 + 2 * (4 * (j + 1) + i)) (W (123 + 2 * (4 * j + i)))) (123 + 2 * (4 * (j + 1) + i)))).2) k = W k := fun k hk => (v_ur_ne hk).trans (en k hk)
        refine y_iv ew ?_
        have hri := (eW_rg (t := a) (h := h) (k := κ) (n := n) (ts i) (M i) (hMr i (by omega))).2
        have hr0 := (eW_rg (t := a) (h := h) (k := κ) (n := n) (ts 0) (M 0) (hMr 0 (by omega))).2
        refine y_st (lv' := [(7, iv ((eW a h κ n (ts i) (M i)).1)), (6, .ref (122 + 2 * (4 * (j + 1) + i))), (0, .ref 116), (1, iv (j : Int)), (2, .ref pk), (3, iv fst), (4, iv sm), (5, iv (i : Int))]) rfl rfl (fun d => rfl) ?_
        refine y_ld (x := iv (i : Int)) rfl rfl (fun d => rfl) ?_
        refine y_zne rfl rfl rfl (by omega) (fun g9 => ?_) (fun g9 => ?_)
        · have hfi : fst = (eW a h κ n (ts 0) (M 0)).1 := hf1 (by omega)
          rcases hsm with ⟨rfl, hsm⟩ | ⟨rfl, hsm⟩
          · refine y_ld (x := iv 1) rfl rfl (fun d => rfl) ?_
            refine y_zeq rfl rfl rfl (by decide) (fun g10 => absurd g10 (by decide)) (fun g10 => ?_)
            refine y_ld (x := iv ((eW a h κ n (ts i) (M i)).1)) rfl rfl (fun d => rfl) ?_
            refine y_ld (x := iv fst) rfl rfl (fun d => rfl) ?_
            refine y_jne rfl rfl rfl (by omega) (fun g11 => ?_) (fun g11 => ?_)
            · refine y_ic rfl rfl ?_
              refine y_st (lv' := [(4, iv 0), (7, iv ((eW a h κ n (ts i) (M i)).1)), (6, .ref (122 + 2 * (4 * (j + 1) + i))), (0, .ref 116), (1, iv (j : Int)), (2, .ref pk), (3, iv fst), (5, iv (i : Int))]) rfl rfl (fun d => rfl) ?_
              refine y_inc (z := ((i + 1 : Nat) : Int)) (lv' := [(5, iv ((i + 1 : Nat) : Int)), (4, iv 0), (7, iv ((eW a h κ n (ts i) (M i)).1)), (6, .ref (122 + 2 * (4 * (j + 1) + i))), (0, .ref 116), (1, iv (j : Int)), (2, .ref pk), (3, iv fst)]) rfl rfl rfl (by omega) rfl ?_
              refine y_go rfl rfl ?_
              refine y_lv (l' := [(0, .ref 116), (1, iv (j : Int)), (2, .ref pk), (3, iv fst), (4, iv 0), (5, iv ((i + 1 : Nat) : Int))]) rfl ⟨rfl, rfl, rfl, rfl, rfl, rfl, trivial⟩ ?_
              refine y_mono (ih (i + 1) (v_ur (v_ur W (123 + 2 * (4 * (j + 1) + i)) (W (123 + 2 * (4 * j + i)))) (123 + 2 * (4 * (j + 1) + i)) (eA a h κ n y.2.2.2 ((v_ur W (123 + 2 * (4 * (j + 1) + i)) (W (123 + 2 * (4 * j + i)))) (123 + 2 * (4 * (j + 1) + i)))).2) _ 0 (by omega) (by omega) (fun k hk => (en2 k (hk i (by omega))).trans (hF k hk)) (fun q hq p hp => ?_) (fun h9 => absurd h9 (by omega)) (fun _ => hfi) (Or.inr ⟨rfl, fun hf => absurd (hf i (by omega)) (by omega)⟩) hx2) (by omega)
              rcases (show q < i ∨ q = i by omega) with h7 | h7
              · rw [en2 _ (by omega)]; exact hD q h7 p hp
              · rw [h7]; exact erow p hp
            · refine y_ic rfl rfl ?_
              refine y_go rfl rfl ?_
              refine y_st (lv' := [(4, iv 1), (7, iv ((eW a h κ n (ts i) (M i)).1)), (6, .ref (122 + 2 * (4 * (j + 1) + i))), (0, .ref 116), (1, iv (j : Int)), (2, .ref pk), (3, iv fst), (5, iv (i : Int))]) rfl rfl (fun d => rfl) ?_
              refine y_inc (z := ((i + 1 : Nat) : Int)) (lv' := [(5, iv ((i + 1 : Nat) : Int)), (4, iv 1), (7, iv ((eW a h κ n (ts i) (M i)).1)), (6, .ref (122 + 2 * (4 * (j + 1) + i))), (0, .ref 116), (1, iv (j : Int)), (2, .ref pk), (3, iv fst)]) rfl rfl rfl (by omega) rfl ?_
              refine y_go rfl rfl ?_
              refine y_lv (l' := [(0, .ref 116), (1, iv (j : Int)), (2, .ref pk), (3, iv fst), (4, iv 1), (5, iv ((i + 1 : Nat) : Int))]) rfl ⟨rfl, rfl, rfl, rfl, rfl, rfl, trivial⟩ ?_
              refine y_mono (ih (i + 1) (v_ur (v_ur W (123 + 2 * (4 * (j + 1) + i)) (W (123 + 2 * (4 * j + i)))) (123 + 2 * (4 * (j + 1) + i)) (eA a h κ n y.2.2.2 ((v_ur W (123 + 2 * (4 * (j + 1) + i)) (W (123 + 2 * (4 * j + i)))) (123 + 2 * (4 * (j + 1) + i)))).2) _ 1 (by omega) (by omega) (fun k hk => (en2 k (hk i (by omega))).trans (hF k hk)) (fun q hq p hp => ?_) (fun h9 => absurd h9 (by omega)) (fun _ => hfi) (Or.inl ⟨rfl, fun q hq => by rcases (show q < i ∨ q = i by omega) with h7 | h7; exact hsm q h7; rw [h7]; omega⟩) hx2) (by omega)
              rcases (show q < i ∨ q = i by omega) with h7 | h7
              · rw [en2 _ (by omega)]; exact hD q h7 p hp
              · rw [h7]; exact erow p hp
          · refine y_ld (x := iv 0) rfl rfl (fun d => rfl) ?_
            refine y_zeq rfl rfl rfl (by decide) (fun g12 => ?_) (fun g12 => absurd g12 (by decide))
            refine y_ic rfl rfl ?_
            refine y_st (lv' := [(4, iv 0), (7, iv ((eW a h κ n (ts i) (M i)).1)), (6, .ref (122 + 2 * (4 * (j + 1) + i))), (0, .ref 116), (1, iv (j : Int)), (2, .ref pk), (3, iv fst), (5, iv (i : Int))]) rfl rfl (fun d => rfl) ?_
            refine y_inc (z := ((i + 1 : Nat) : Int)) (lv' := [(5, iv ((i + 1 : Nat) : Int)), (4, iv 0), (7, iv ((eW a h κ n (ts i) (M i)).1)), (6, .ref (122 + 2 * (4 * (j + 1) + i))), (0, .ref 116), (1, iv (j : Int)), (2, .ref pk), (3, iv fst)]) rfl rfl rfl (by omega) rfl ?_
            refine y_go rfl rfl ?_
            refine y_lv (l' := [(0, .ref 116), (1, iv (j : Int)), (2, .ref pk), (3, iv fst), (4, iv 0), (5, iv ((i + 1 : Nat) : Int))]) rfl ⟨rfl, rfl, rfl, rfl, rfl, rfl, trivial⟩ ?_
            refine y_mono (ih (i + 1) (v_ur (v_ur W (123 + 2 * (4 * (j + 1) + i)) (W (123 + 2 * (4 * j + i)))) (123 + 2 * (4 * (j + 1) + i)) (eA a h κ n y.2.2.2 ((v_ur W (123 + 2 * (4 * (j + 1) + i)) (W (123 + 2 * (4 * j + i)))) (123 + 2 * (4 * (j + 1) + i)))).2) _ 0 (by omega) (by omega) (fun k hk => (en2 k (hk i (by omega))).trans (hF k hk)) (fun q hq p hp => ?_) (fun h9 => absurd h9 (by omega)) (fun _ => hfi) (Or.inr ⟨rfl, fun hf => hsm (fun q hq => hf q (by omega))⟩) hx2) (by omega)
            rcases (show q < i ∨ q = i by omega) with h7 | h7
            · rw [en2 _ (by omega)]; exact hD q h7 p hp
            · rw [h7]; exact erow p hp
        · refine y_ld (x := iv ((eW a h κ n (ts i) (M i)).1)) rfl rfl (fun d => rfl) ?_
          refine y_st (lv' := [(3, iv ((eW a h κ n (ts i) (M i)).1)), (7, iv ((eW a h κ n (ts i) (M i)).1)), (6, .ref (122 + 2 * (4 * (j + 1) + i))), (0, .ref 116), (1, iv (j : Int)), (2, .ref pk), (4, iv sm), (5, iv (i : Int))]) rfl rfl (fun d => rfl) ?_
          have hfi : (eW a h κ n (ts i) (M i)).1 = (eW a h κ n (ts 0) (M 0)).1 := by rw [show i = 0 by omega]
          rcases hsm with ⟨rfl, hsm⟩ | ⟨rfl, hsm⟩
          · refine y_ld (x := iv 1) rfl rfl (fun d => rfl) ?_
            refine y_zeq rfl rfl rfl (by decide) (fun g13 => absurd g13 (by decide)) (fun g13 => ?_)
            refine y_ld (x := iv ((eW a h κ n (ts i) (M i)).1)) rfl rfl (fun d => rfl) ?_
            refine y_ld (x := iv ((eW a h κ n (ts i) (M i)).1)) rfl rfl (fun d => rfl) ?_
            refine y_jne rfl rfl rfl (by omega) (fun g14 => ?_) (fun g14 => ?_)
            · refine y_ic rfl rfl ?_
              refine y_st (lv' := [(4, iv 0), (3, iv ((eW a h κ n (ts i) (M i)).1)), (7, iv ((eW a h κ n (ts i) (M i)).1)), (6, .ref (122 + 2 * (4 * (j + 1) + i))), (0, .ref 116), (1, iv (j : Int)), (2, .ref pk), (5, iv (i : Int))]) rfl rfl (fun d => rfl) ?_
              refine y_inc (z := ((i + 1 : Nat) : Int)) (lv' := [(5, iv ((i + 1 : Nat) : Int)), (4, iv 0), (3, iv ((eW a h κ n (ts i) (M i)).1)), (7, iv ((eW a h κ n (ts i) (M i)).1)), (6, .ref (122 + 2 * (4 * (j + 1) + i))), (0, .ref 116), (1, iv (j : Int)), (2, .ref pk)]) rfl rfl rfl (by omega) rfl ?_
              refine y_go rfl rfl ?_
              refine y_lv (l' := [(0, .ref 116), (1, iv (j : Int)), (2, .ref pk), (3, iv ((eW a h κ n (ts i) (M i)).1)), (4, iv 0), (5, iv ((i + 1 : Nat) : Int))]) rfl ⟨rfl, rfl, rfl, rfl, rfl, rfl, trivial⟩ ?_
              refine y_mono (ih (i + 1) (v_ur (v_ur W (123 + 2 * (4 * (j + 1) + i)) (W (123 + 2 * (4 * j + i)))) (123 + 2 * (4 * (j + 1) + i)) (eA a h κ n y.2.2.2 ((v_ur W (123 + 2 * (4 * (j + 1) + i)) (W (123 + 2 * (4 * j + i)))) (123 + 2 * (4 * (j + 1) + i)))).2) _ 0 (by omega) (by omega) (fun k hk => (en2 k (hk i (by omega))).trans (hF k hk)) (fun q hq p hp => ?_) (fun h9 => absurd h9 (by omega)) (fun _ => hfi) (Or.inr ⟨rfl, fun hf => absurd (hf i (by omega)) (by omega)⟩) hx2) (by omega)
              rcases (show q < i ∨ q = i by omega) with h7 | h7
              · rw [en2 _ (by omega)]; exact hD q h7 p hp
              · rw [h7]; exact erow p hp
            · refine y_ic rfl rfl ?_
              refine y_go rfl rfl ?_
              refine y_st (lv' := [(4, iv 1), (3, iv ((eW a h κ n (ts i) (M i)).1)), (7, iv ((eW a h κ n (ts i) (M i)).1)), (6, .ref (122 + 2 * (4 * (j + 1) + i))), (0, .ref 116), (1, iv (j : Int)), (2, .ref pk), (5, iv (i : Int))]) rfl rfl (fun d => rfl) ?_
              refine y_inc (z := ((i + 1 : Nat) : Int)) (lv' := [(5, iv ((i + 1 : Nat) : Int)), (4, iv 1), (3, iv ((eW a h κ n (ts i) (M i)).1)), (7, iv ((eW a h κ n (ts i) (M i)).1)), (6, .ref (122 + 2 * (4 * (j + 1) + i))), (0, .ref 116), (1, iv (j : Int)), (2, .ref pk)]) rfl rfl rfl (by omega) rfl ?_
              refine y_go rfl rfl ?_
              refine y_lv (l' := [(0, .ref 116), (1, iv (j : Int)), (2, .ref pk), (3, iv ((eW a h κ n (ts i) (M i)).1)), (4, iv 1), (5, iv ((i + 1 : Nat) : Int))]) rfl ⟨rfl, rfl, rfl, rfl, rfl, rfl, trivial⟩ ?_
              refine y_mono (ih (i + 1) (v_ur (v_ur W (123 + 2 * (4 * (j + 1) + i)) (W (123 + 2 * (4 * j + i)))) (123 + 2 * (4 * (j + 1) + i)) (eA a h κ n y.2.2.2 ((v_ur W (123 + 2 * (4 * (j + 1) + i)) (W (123 + 2 * (4 * j + i)))) (123 + 2 * (4 * (j + 1) + i)))).2) _ 1 (by omega) (by omega) (fun k hk => (en2 k (hk i (by omega))).trans (hF k hk)) (fun q hq p hp => ?_) (fun h9 => absurd h9 (by omega)) (fun _ => hfi) (Or.inl ⟨rfl, fun q hq => by rcases (show q < i ∨ q = i by omega) with h7 | h7; exact hsm q h7; rw [h7]; omega⟩) hx2) (by omega)
              rcases (show q < i ∨ q = i by omega) with h7 | h7
              · rw [en2 _ (by omega)]; exact hD q h7 p hp
              · rw [h7]; exact erow p hp
          · refine y_ld (x := iv 0) rfl rfl (fun d => rfl) ?_
            refine y_zeq rfl rfl rfl (by decide) (fun g15 => ?_) (fun g15 => absurd g15 (by decide))
            refine y_ic rfl rfl ?_
            refine y_st (lv' := [(4, iv 0), (3, iv ((eW a h κ n (ts i) (M i)).1)), (7, iv ((eW a h κ n (ts i) (M i)).1)), (6, .ref (122 + 2 * (4 * (j + 1) + i))), (0, .ref 116), (1, iv (j : Int)), (2, .ref pk), (5, iv (i : Int))]) rfl rfl (fun d => rfl) ?_
            refine y_inc (z := ((i + 1 : Nat) : Int)) (lv' := [(5, iv ((i + 1 : Nat) : Int)), (4, iv 0), (3, iv ((eW a h κ n (ts i) (M i)).1)), (7, iv ((eW a h κ n (ts i) (M i)).1)), (6, .ref (122 + 2 * (4 * (j + 1) + i))), (0, .ref 116), (1, iv (j : Int)), (2, .ref pk)]) rfl rfl rfl (by omega) rfl ?_
            refine y_go rfl rfl ?_
            refine y_lv (l' := [(0, .ref 116), (1, iv (j : Int)), (2, .ref pk), (3, iv ((eW a h κ n (ts i) (M i)).1)), (4, iv 0), (5, iv ((i + 1 : Nat) : Int))]) rfl ⟨rfl, rfl, rfl, rfl, rfl, rfl, trivial⟩ ?_
            refine y_mono (ih (i + 1) (v_ur (v_ur W (123 + 2 * (4 * (j + 1) + i)) (W (123 + 2 * (4 * j + i)))) (123 + 2 * (4 * (j + 1) + i)) (eA a h κ n y.2.2.2 ((v_ur W (123 + 2 * (4 * (j + 1) + i)) (W (123 + 2 * (4 * j + i)))) (123 + 2 * (4 * (j + 1) + i)))).2) _ 0 (by omega) (by omega) (fun k hk => (en2 k (hk i (by omega))).trans (hF k hk)) (fun q hq p hp => ?_) (fun h9 => absurd h9 (by omega)) (fun _ => hfi) (Or.inr ⟨rfl, fun hf => hsm (fun q hq => hf q (by omega))⟩) hx2) (by omega)
            rcases (show q < i ∨ q = i by omega) with h7 | h7
            · rw [en2 _ (by omega)]; exact hD q h7 p hp
            · rw [h7]; exact erow p hp
set_option maxRecDepth 100000 in
set_option maxHeartbeats 4000000 in
theorem cc_parts (hC : ClF S) {form N : Int} {al mt : Nat} {ts : Nat → List p_Li} {σ : Nat → Int} {j pk : Nat} {a h κ n : Int} {M : Nat → Nat → Int} {A : Aw} (hm4 : mt ≤ 4) (hj : j < 3) (hpk : pkO a h κ n) (hkl : 193 ≤ pk) (hMr : ∀ i, i < mt → muO (M i)) (hTO : ∀ i, i < mt → TO (ts i)) (hSr0 : SrC S V form N al mt ts σ) (hP0 : PkS S V pk a h κ n) (hSg : SgC V j form mt M A) (hfm : form = -1) (k1 : hitP form N a h κ n ts mt M A → ∀ V2, SgC V2 (j + 1) form mt (stM form a h κ n ts M) (stA form a h κ n ts mt M A) → FrS j V V2 → V2 121 = V 121 → K u w (some (iv 1)) S V2) (k0 : ¬ hitP form N a h κ n ts mt M A → ∀ V2, SgC V2 (j + 1) form mt (stM form a h κ n ts M) (stA form a h κ n ts mt M A) → FrS j V V2 → V2 121 = V 121 → K u w (some (iv 0)) S V2) : y_R X 9 37 u w [.ref 116, iv (j : Int), .ref pk] S V K := by
  refine y_ent (lv' := [(0, .ref 116), (1, iv (j : Int)), (2, .ref pk)]) (Nat.le_of_ble_eq_true rfl) rfl ?_
  refine y_ic rfl rfl ?_
  refine y_st (lv' := [(3, iv 1), (0, .ref 116), (1, iv (j : Int)), (2, .ref pk)]) rfl rfl (fun d => rfl) ?_
  refine y_ic rfl rfl ?_
  refine y_st (lv' := [(4, iv 1), (3, iv 1), (0, .ref 116), (1, iv (j : Int)), (2, .ref pk)]) rfl rfl (fun d => rfl) ?_
  refine y_ic rfl rfl ?_
  refine y_st (lv' := [(5, iv 0), (4, iv 1), (3, iv 1), (0, .ref 116), (1, iv (j : Int)), (2, .ref pk)]) rfl rfl (fun d => rfl) ?_
  refine y_lv (l' := [(0, .ref 116), (1, iv (j : Int)), (2, .ref pk), (3, iv 1), (4, iv 1), (5, iv ((0 : Nat) : Int))]) rfl ⟨rfl, rfl, rfl, rfl, rfl, rfl, trivial⟩ ?_
  refine y_mono (lp_parts (A := A) (F := 500) hC hm4 hj hpk hkl hMr hTO hSr0 hSg.1 hP0 5 0 V 1 1 (by omega) (by omega) (fun k _ => rfl) (fun q hq => absurd hq (by omega)) (fun _ => rfl) (fun h9 => absurd h9 (by omega)) (Or.inl ⟨rfl, fun q hq => absurd hq (by omega)⟩) (fun W sm hF hD hsm => ?_)) (by decide)
  rcases hsm with ⟨rfl, hsm⟩ | ⟨rfl, hsm⟩
  · refine y_ld (x := iv 1) rfl rfl (fun d => rfl) ?_
    refine y_zne rfl rfl rfl (by decide) (fun g1 => ?_) (fun g1 => absurd g1 (by decide))
    refine y_ic rfl rfl ?_
    refine y_rI rfl (by decide) ?_
    have hsg : SgC W (j + 1) form mt (stM form a h κ n ts M) (stA form a h κ n ts mt M A) := by
      refine ⟨fun i hi p hp => ?_, fun h9 => absurd hfm h9⟩
      rw [hD i hi p hp]
      show _ = stM form a h κ n ts M i p
      unfold stM
      rw [if_pos hfm]
    have hfs : FrS j V W := fun k h1 h2 => hF k (fun q hq => by omega)
    have h121 : W 121 = V 121 := hF 121 (fun q hq => by omega)
    exact k0 (fun q => by rcases q with q | q; (obtain ⟨-, i, q1, q2⟩ := q; exact q2 (hsm i q1)); exact q.1 hfm) W hsg hfs h121
  · refine y_ld (x := iv 0) rfl rfl (fun d => rfl) ?_
    refine y_zne rfl rfl rfl (by decide) (fun g2 => absurd g2 (by decide)) (fun g2 => ?_)
    refine y_ic rfl rfl ?_
    refine y_go rfl rfl ?_
    refine y_rI rfl (by decide) ?_
    have hsg : SgC W (j + 1) form mt (stM form a h κ n ts M) (stA form a h κ n ts mt M A) := by
      refine ⟨fun i hi p hp => ?_, fun h9 => absurd hfm h9⟩
      rw [hD i hi p hp]
      show _ = stM form a h κ n ts M i p
      unfold stM
      rw [if_pos hfm]
    have hfs : FrS j V W := fun k h1 h2 => hF k (fun q hq => by omega)
    have h121 : W 121 = V 121 := hF 121 (fun q hq => by omega)
    exact k1 (Or.inl ⟨hfm, Classical.byContradiction (fun q => hsm (fun i hi => Classical.byContradiction (fun q2 => q ⟨i, hi, q2⟩)))⟩) W hsg hfs h121
end
