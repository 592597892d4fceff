/-! a packet more in the search: the class -/
section
variable {X : Nat → List Int32} {u w : Nat} {S : m_H} {V : v_V} {K : v_K}
set_option maxRecDepth 100000 in
set_option maxHeartbeats 4000000 in
theorem cc_carried (hC : ClF S) (h116 : ce S 116 4 [.ref 117, .ref 118, .ref 119, .ref 120, .int 0, .ref 7, .int 0, .int 0, .int 0, .ref 121]) {j i : Nat} (hj : j < 3) (hi : i < 4) (k : K u w (some (.ref (122 + 2 * (4 * (j + 1) + i)))) S (v_ur V (123 + 2 * (4 * (j + 1) + i)) (V (123 + 2 * (4 * j + i))))) : y_R X 2 38 u w [.ref 116, iv (j : Int), iv (i : Int)] S V K := by
  obtain ⟨vs1, hb11, hb12⟩ := mm_ref hC (i := 4 * (j + 1) + i) (by omega)
  obtain ⟨vs0, hb01, hb02⟩ := mm_ref hC (i := 4 * j + i) (by omega)
  refine y_ent (lv' := [(0, .ref 116), (1, iv (j : Int)), (2, iv (i : Int))]) (Nat.le_of_ble_eq_true rfl) rfl ?_
  refine y_ld (x := .ref 116) rfl rfl (fun d => rfl) ?_
  refine y_gR (i := 0) rfl rfl rfl h116 rfl ?_
  refine y_ld (x := iv (j : Int)) rfl rfl (fun d => rfl) ?_
  refine y_ic rfl rfl ?_
  refine y_add (z := ((j : Int) + 1)) rfl rfl rfl ?_
  refine y_ic rfl rfl ?_
  refine y_mul (z := (((j : Int) + 1) * 4)) rfl rfl rfl ?_
  refine y_ld (x := iv (i : Int)) rfl rfl (fun d => rfl) ?_
  refine y_add (z := ((((j : Int) + 1) * 4) + (i : Int))) rfl rfl rfl ?_
  refine y_rld (i := (4 * (j + 1) + i)) (x := 122 + 2 * (4 * (j + 1) + i)) rfl rfl hb11 (by decide) (by omega) (by omega) hb12 ?_
  refine y_st (lv' := [(3, .ref (122 + 2 * (4 * (j + 1) + i))), (0, .ref 116), (1, iv (j : Int)), (2, iv (i : Int))]) rfl rfl (fun d => rfl) ?_
  refine y_ld (x := .ref (122 + 2 * (4 * (j + 1) + i))) rfl rfl (fun d => rfl) ?_
  refine y_ld (x := .ref 116) rfl rfl (fun d => rfl) ?_
  refine y_gR (i := 0) rfl rfl rfl h116 rfl ?_
  refine y_ld (x := iv (j : Int)) rfl rfl (fun d => rfl) ?_
  refine y_ic rfl rfl ?_
  refine y_mul (z := ((j : Int) * 4)) rfl rfl rfl ?_
  refine y_ld (x := iv (i : Int)) rfl rfl (fun d => rfl) ?_
  refine y_add (z := (((j : Int) * 4) + (i : Int))) rfl rfl rfl ?_
  refine y_rld (i := (4 * j + i)) (x := 122 + 2 * (4 * j + i)) rfl rfl hb01 (by decide) (by omega) (by omega) hb02 ?_
  refine y_cV (as := [.ref (122 + 2 * (4 * (j + 1) + i)), .ref (122 + 2 * (4 * j + i))]) rfl rfl rfl rfl rfl (mm_ob hC (i := 4 * (j + 1) + i) (by omega)).1 ⟨rfl, (Nat.le_of_ble_eq_true rfl), (Nat.le_of_ble_eq_true rfl)⟩ (by decide) (cc_mbec (mm_ob hC (i := 4 * (j + 1) + i) (by omega)) (mm_ob hC (i := 4 * j + i) (by omega)) ?_)
  refine y_n0 ?_
  refine y_ld (x := .ref (122 + 2 * (4 * (j + 1) + i))) rfl rfl (fun d => rfl) ?_
  refine y_ret rfl (fun d => rfl) ?_
  exact k
set_option maxRecDepth 100000 in
set_option maxHeartbeats 4000000 in
theorem lp_breaks (hC : ClF S) {form N : Int} {al mt : Nat} {ts : Nat → List p_Li} {σ : Nat → Int} {j pk : Nat} {a h κ n : Int} {M : Nat → Nat → Int} {A : Aw} (hm4 : mt ≤ 4) (hj : j < 3) (hpk : pkO a h κ n) (hkl : 193 ≤ pk) (hMr : ∀ i, i < mt → muO (M i)) (hTO : ∀ i, i < mt → TO (ts i)) (hSr0 : SrC S V form N al mt ts σ) (hM0 : ∀ i, i < mt → ∀ p : Nat, p < 84 → V (123 + 2 * (4 * j + i)) p = M i p) (hP0 : PkS S V pk a h κ n) {F : Nat} : ∀ (m : Nat) (i : Nat) (W : v_V), mt - i < m → (i ≤ mt) → (∀ k, (∀ q : Nat, q < 4 → k ≠ 123 + 2 * (4 * (j + 1) + q)) → W k = V k) → (∀ q : Nat, q < i → ∀ p : Nat, p < 84 → W (123 + 2 * (4 * (j + 1) + q)) p = (if hwP a h κ n ts M q = 1 then (eW a h κ n (ts q) (M q)).2 else M q) p) → (∀ W : v_V, (∀ k, (∀ q : Nat, q < 4 → k ≠ 123 + 2 * (4 * (j + 1) + q)) → W k = V k) → (∀ q : Nat, q < mt → ∀ p : Nat, p < 84 → W (123 + 2 * (4 * (j + 1) + q)) p = (if hwP a h κ n ts M q = 1 then (eW a h κ n (ts q) (M q)).2 else M q) p) → y_E X 8 36 F u w 64 [(0, .ref 116), (1, iv (j : Int)), (2, .ref pk), (3, iv (hwP a h κ n ts M mt))] [] S W K) → y_E X 8 36 (80 * m + F) u w 5 [(0, .ref 116), (1, iv (j : Int)), (2, .ref pk), (3, iv (hwP a h κ n ts M i)), (4, iv (i : Int))] [] S W K := by
  intro m
  induction m with
  | zero => intros; omega
  | succ m ih =>
    intro i W hm1 hI hF hD hx2
    refine y_mono (F' := (80 * m + F) + 80) ?_ (by omega)
    refine y_ld (x := iv (i : Int)) rfl rfl (fun d => rfl) ?_
    refine y_ld (x := .ref 116) rfl rfl (fun d => rfl) ?_
    refine y_gI (i := 4) (e := (mt : Int)) rfl rfl rfl hSr0.1 rfl ((congrFun (hF 116 (fun q hq => by omega)) 4).trans hSr0.2.1.1) ?_
    refine y_jge rfl rfl rfl (by omega) (fun g1 => ?_) (fun g1 => ?_)
    · obtain rfl : i = mt := by have := hSr0.2.1.1; have := hF 116 (fun q hq => by omega); omega
      refine y_lv (l' := [(0, .ref 116), (1, iv (j : Int)), (2, .ref pk), (3, iv (hwP a h κ n ts M i))]) rfl ⟨rfl, rfl, rfl, rfl, trivial⟩ ?_
      exact y_mono (hx2 W hF hD) (by omega)
    · have hSr := SrC_r hSr0 (hF 116 (fun q hq => by omega)) (fun k hk => hF k (fun q hq => by omega))
      have hM : ∀ i, i < mt → ∀ p : Nat, p < 84 → W (123 + 2 * (4 * j + i)) p = M i p := fun q hq p hp => by rw [hF _ (fun q2 hq2 => by omega)]; exact hM0 q hq p hp
      have hP := PkS_r hP0 (hF pk (fun q hq => by omega))
      have hwr := hwP_rg (t := a) (h := h) (k := κ) (n := n) (ts := ts) hMr i (by omega)
      have hmi_ : i < mt := by omega
      obtain ⟨xs, x1, x2, x3⟩ := hSr.2.2.1
      obtain ⟨t, t1, t2, t3, t4⟩ := x3 i (by omega)
      have hl := hTO i (by omega)
      refine y_ld (x := .ref 116) rfl rfl (fun d => rfl) ?_
      refine y_ld (x := iv (j : Int)) rfl rfl (fun d => rfl) ?_
      refine y_ld (x := iv (i : Int)) rfl rfl (fun d => rfl) ?_
      refine y_cV (as := [.ref 116, iv (j : Int), iv (i : Int)]) rfl rfl rfl rfl rfl hSr0.1 ⟨rfl, (Nat.le_of_ble_eq_true rfl), (Nat.le_of_ble_eq_true rfl)⟩ (by decide) (cc_carried hC hSr.1 (j := j) (i := i) (by omega) (by omega) ?_)
      refine y_nv ?_
      refine y_st (lv' := [(5, .ref (122 + 2 * (4 * (j + 1) + i))), (0, .ref 116), (1, iv (j : Int)), (2, .ref pk), (3, iv (hwP a h κ n ts M i)), (4, iv (i : Int))]) rfl rfl (fun d => rfl) ?_
      have en : ∀ k, k ≠ 123 + 2 * (4 * (j + 1) + i) → (v_ur W (123 + 2 * (4 * (j + 1) + i)) (W (123 + 2 * (4 * j + i)))) k = W k := fun k hk => v_ur_ne hk
      have er : (v_ur W (123 + 2 * (4 * (j + 1) + i)) (W (123 + 2 * (4 * j + i)))) (123 + 2 * (4 * (j + 1) + i)) = W (123 + 2 * (4 * j + i)) := v_ur_eq _ _ _
      have hmi : ∀ p : Nat, p < 84 → (v_ur W (123 + 2 * (4 * (j + 1) + i)) (W (123 + 2 * (4 * j + i)))) (123 + 2 * (4 * (j + 1) + i)) p = M i p := fun p hp => by rw [er]; exact hM i (by omega) p hp
      have hmu : muO ((v_ur W (123 + 2 * (4 * (j + 1) + i)) (W (123 + 2 * (4 * j + i)))) (123 + 2 * (4 * (j + 1) + i))) := fun p hp => by rw [hmi p hp]; exact hMr i (by omega) p hp
      have hct : CT (v_ur W (123 + 2 * (4 * (j + 1) + i)) (W (123 + 2 * (4 * j + i)))) t (ts i) := CT_r t4 (fun q hq => en _ (by omega))
      have hPp : PkS S (v_ur W (123 + 2 * (4 * (j + 1) + i)) (W (123 + 2 * (4 * j + i)))) pk a h κ n := PkS_r hP (en _ (by omega))
      have ec := eW_congr hpk (ts i) _ _ hmi hl.1
      have el := eL_congr hmi hpk (ts i) 0 hl.1
      refine y_ld (x := iv (hwP a h κ n ts M i)) rfl rfl (fun d => rfl) ?_
      refine y_ic rfl rfl ?_
      refine y_jeq rfl rfl rfl (by omega) (fun g2 => ?_) (fun g2 => ?_)
      · refine y_ld (x := .ref 116) rfl rfl (fun d => rfl) ?_
        refine y_gR (i := 2) rfl rfl rfl hSr0.1 rfl ?_
        refine y_ld (x := iv (i : Int)) rfl rfl (fun d => rfl) ?_
        refine y_rld (i := i) (x := t) rfl rfl x1 (by decide) (by omega) (by omega) t1 ?_
        refine y_ld (x := .ref 116) rfl rfl (fun d => rfl) ?_
        refine y_gR (i := 2) rfl rfl rfl hSr0.1 rfl ?_
        refine y_ld (x := iv (i : Int)) rfl rfl (fun d => rfl) ?_
        refine y_rld (i := i) (x := t) rfl rfl x1 (by decide) (by omega) (by omega) t1 ?_
        refine y_ld (x := .ref pk) rfl rfl (fun d => rfl) ?_
        refine y_ld (x := .ref (122 + 2 * (4 * (j + 1) + i))) rfl rfl (fun d => rfl) ?_
        refine y_cV (as := [.ref t, .ref pk, .ref (122 + 2 * (4 * (j + 1) + i))]) rfl rfl rfl rfl rfl t3.1 ⟨rfl, (Nat.le_of_ble_eq_true rfl), (Nat.le_of_ble_eq_true rfl)⟩ (by decide) (cc_lineFor t3 (mm_ob hC (i := 4 * (j + 1) + i) (by omega)) rfl hPp hpk hmu (CT_w6 hct hl) hct hl.1 hl.2.1 hl.2.2.1 ?_)
        refine y_nv ?_
        rcases eLW ((v_ur W (123 + 2 * (4 * (j + 1) + i)) (W (123 + 2 * (4 * j + i)))) (123 + 2 * (4 * (j + 1) + i))) a h κ n (ts i) 0 with ⟨e1, e2⟩ | ⟨q, y, e1, e2, e3⟩
        · refine y_iv (e' := -5) e1 ?_
          refine y_ld (x := .ref pk) rfl rfl (fun d => rfl) ?_
          refine y_ld (x := .ref (122 + 2 * (4 * (j + 1) + i))) rfl rfl (fun d => rfl) ?_
          refine y_cV (as := [.ref t, iv (-5), .ref pk, .ref (122 + 2 * (4 * (j + 1) + i))]) rfl rfl rfl rfl rfl t3.1 ⟨rfl, (Nat.le_of_ble_eq_true rfl), (Nat.le_of_ble_eq_true rfl)⟩ (by decide) (cc_does5 t3 ?_)
          refine y_nv ?_
          have ew : 1 = (eW a h κ n (ts i) (M i)).1 := by rw [← ec.1, e2]
          have erow : ∀ p : Nat, p < 84 → (v_ur W (123 + 2 * (4 * (j + 1) + i)) (W (123 + 2 * (4 * j + i)))) (123 + 2 * (4 * (j + 1) + i)) p = (eW a h κ n (ts i) (M i)).2 p := fun p hp => by rw [← ec.2 p hp, e2]
          have en2 : ∀ k, k ≠ 123 + 2 * (4 * (j + 1) + i) → (v_ur W (123 + 2 * (4 * (j + 1) + i)) (W (123 + 2 * (4 * j + i)))) k = W k := en
          refine y_iv ew ?_
          refine y_st (lv' := [(3, iv ((eW a h κ n (ts i) (M i)).1)), (5, .ref (122 + 2 * (4 * (j + 1) + i))), (0, .ref 116), (1, iv (j : Int)), (2, .ref pk), (4, iv (i : Int))]) rfl rfl (fun d => rfl) ?_
          refine y_inc (z := ((i + 1 : Nat) : Int)) (lv' := [(4, iv ((i + 1 : Nat) : Int)), (3, iv ((eW a h κ n (ts i) (M i)).1)), (5, .ref (122 + 2 * (4 * (j + 1) + i))), (0, .ref 116), (1, iv (j : Int)), (2, .ref pk)]) rfl rfl rfl (by omega) rfl ?_
          refine y_go rfl rfl ?_
          refine y_lv (l' := [(0, .ref 116), (1, iv (j : Int)), (2, .ref pk), (3, iv ((eW a h κ n (ts i) (M i)).1)), (4, iv ((i + 1 : Nat) : Int))]) rfl ⟨rfl, rfl, rfl, rfl, rfl, trivial⟩ ?_
          have eh : hwP a h κ n ts M (i + 1) = (eW a h κ n (ts i) (M i)).1 := if_pos (by omega)
          have es : ∀ p : Nat, p < 84 → (v_ur W (123 + 2 * (4 * (j + 1) + i)) (W (123 + 2 * (4 * j + i)))) (123 + 2 * (4 * (j + 1) + i)) p = (if hwP a h κ n ts M i = 1 then (eW a h κ n (ts i) (M i)).2 else M i) p := fun p hp => by rw [if_pos (by omega)]; exact erow p hp
          rw [← eh]
          refine y_mono (ih (i + 1) (v_ur W (123 + 2 * (4 * (j + 1) + i)) (W (123 + 2 * (4 * j + i)))) (by omega) (by omega) (fun k hk => (en2 k (hk i (by omega))).trans (hF k hk)) (fun q hq p hp => ?_) hx2) (by omega)
          rcases (show q < i ∨ q = i by omega) with h7 | h7
          · rw [en2 _ (by omega)]; exact hD q h7 p hp
          · rw [h7]; exact es p hp
        · refine y_iv (e' := (q : Int)) (by rw [e1, Nat.zero_add]) ?_
          refine y_ld (x := .ref pk) rfl rfl (fun d => rfl) ?_
          refine y_ld (x := .ref (122 + 2 * (4 * (j + 1) + i))) rfl rfl (fun d => rfl) ?_
          have hxm : y ∈ ts i := by rw [m_nth_eq] at e2; exact List.mem_of_getElem? e2
          have hyo := hl.1 y hxm
          have hjl := m_nth_lt e2
          have hln := hl.2.2.1
          obtain ⟨p, b1, b2, b3, b4, b5, b6, b7⟩ := CT_line hct e2
          refine y_cV (as := [.ref t, iv (q : Int), .ref pk, .ref (122 + 2 * (4 * (j + 1) + i))]) rfl rfl rfl rfl rfl t3.1 ⟨rfl, (Nat.le_of_ble_eq_true rfl), (Nat.le_of_ble_eq_true rfl)⟩ (by decide) (cc_does (p := p + (encTc y.2.2.1).length) (L := y.2.2.2) t3 (mm_ob hC (i := 4 * (j + 1) + i) (by omega)) hpk (by omega) t2 hkl (by omega) ⟨by rw [hct.1]; omega, by rw [hct.1]; omega⟩ b3 b4 (by have := hyo.2.2.2.2; omega) b6 hyo.2.1 hPp hmu b7 (CT_w6 hct hl) ?_)
          refine y_nv ?_
          have ew : (eA a h κ n y.2.2.2 ((v_ur W (123 + 2 * (4 * (j + 1) + i)) (W (123 + 2 * (4 * j + i)))) (123 + 2 * (4 * (j + 1) + i)))).1 = (eW a h κ n (ts i) (M i)).1 := by rw [← ec.1, e3]
          have erow : ∀ p : Nat, p < 84 → (v_ur (v_ur W (123 + 2 * (4 * (j + 1) + i)) (W (123 + 2 * (4 * j + i)))) (123 + 2 * (4 * (j + 1) + i)) (eA a h κ n y.2.2.2 ((v_ur W (123 + 2 * (4 * (j + 1) + i)) (W (123 + 2 * (4 * j + i)))) (123 + 2 * (4 * (j + 1) + i)))).2) (123 + 2 * (4 * (j + 1) + i)) p = (eW a h κ n (ts i) (M i)).2 p := fun p hp => by rw [v_ur_eq, ← ec.2 p hp, e3]
          have en2 : ∀ k, k ≠ 123 + 2 * (4 * (j + 1) + i) → (v_ur (v_ur W (123 + 2 * (4 * (j + 1) + i)) (W (123 + 2 * (4 * j + i)))) (123 + 2 * (4 * (j + 1) + i)) (eA a h κ n y.2.2.2 ((v_ur W (123 + 2 * (4 * (j + 1) + i)) (W (123 + 2 * (4 * j + i)))) (123 + 2 * (4 * (j + 1) + i)))).2) k = W k := fun k hk => (v_ur_ne hk).trans (en k hk)
          refine y_iv ew ?_
          refine y_st (lv' := [(3, iv ((eW a h κ n (ts i) (M i)).1)), (5, .ref (122 + 2 * (4 * (j + 1) + i))), (0, .ref 116), (1, iv (j : Int)), (2, .ref pk), (4, iv (i : Int))]) rfl rfl (fun d => rfl) ?_
          refine y_inc (z := ((i + 1 : Nat) : Int)) (lv' := [(4, iv ((i + 1 : Nat) : Int)), (3, iv ((eW a h κ n (ts i) (M i)).1)), (5, .ref (122 + 2 * (4 * (j + 1) + i))), (0, .ref 116), (1, iv (j : Int)), (2, .ref pk)]) rfl rfl rfl (by omega) rfl ?_
          refine y_go rfl rfl ?_
          refine y_lv (l' := [(0, .ref 116), (1, iv (j : Int)), (2, .ref pk), (3, iv ((eW a h κ n (ts i) (M i)).1)), (4, iv ((i + 1 : Nat) : Int))]) rfl ⟨rfl, rfl, rfl, rfl, rfl, trivial⟩ ?_
          have eh : hwP a h κ n ts M (i + 1) = (eW a h κ n (ts i) (M i)).1 := if_pos (by omega)
          have es : ∀ p : Nat, p < 84 → (v_ur (v_ur W (123 + 2 * (4 * (j + 1) + i)) (W (123 + 2 * (4 * j + i)))) (123 + 2 * (4 * (j + 1) + i)) (eA a h κ n y.2.2.2 ((v_ur W (123 + 2 * (4 * (j + 1) + i)) (W (123 + 2 * (4 * j + i)))) (123 + 2 * (4 * (j + 1) + i)))).2) (123 + 2 * (4 * (j + 1) + i)) p = (if hwP a h κ n ts M i = 1 then (eW a h κ n (ts i) (M i)).2 else M i) p := fun p hp => by rw [if_pos (by omega)]; exact erow p hp
          rw [← eh]
          refine y_mono (ih (i + 1) (v_ur (v_ur W (123 + 2 * (4 * (j + 1) + i)) (W (123 + 2 * (4 * j + i)))) (123 + 2 * (4 * (j + 1) + i)) (eA a h κ n y.2.2.2 ((v_ur W (123 + 2 * (4 * (j + 1) + i)) (W (123 + 2 * (4 * j + i)))) (123 + 2 * (4 * (j + 1) + i)))).2) (by omega) (by omega) (fun k hk => (en2 k (hk i (by omega))).trans (hF k hk)) (fun q hq p hp => ?_) hx2) (by omega)
          rcases (show q < i ∨ q = i by omega) with h7 | h7
          · rw [en2 _ (by omega)]; exact hD q h7 p hp
          · rw [h7]; exact es p hp
      · refine y_go rfl rfl ?_
        refine y_inc (z := ((i + 1 : Nat) : Int)) (lv' := [(4, iv ((i + 1 : Nat) : Int)), (5, .ref (122 + 2 * (4 * (j + 1) + i))), (0, .ref 116), (1, iv (j : Int)), (2, .ref pk), (3, iv (hwP a h κ n ts M i))]) rfl rfl rfl (by omega) rfl ?_
        refine y_go rfl rfl ?_
        refine y_lv (l' := [(0, .ref 116), (1, iv (j : Int)), (2, .ref pk), (3, iv (hwP a h κ n ts M i)), (4, iv ((i + 1 : Nat) : Int))]) rfl ⟨rfl, rfl, rfl, rfl, rfl, trivial⟩ ?_
        have eh : hwP a h κ n ts M (i + 1) = hwP a h κ n ts M i := if_neg (by omega)
        have es : ∀ p : Nat, p < 84 → (v_ur W (123 + 2 * (4 * (j + 1) + i)) (W (123 + 2 * (4 * j + i)))) (123 + 2 * (4 * (j + 1) + i)) p = (if hwP a h κ n ts M i = 1 then (eW a h κ n (ts i) (M i)).2 else M i) p := fun p hp => by rw [if_neg (by omega)]; exact hmi p hp
        have en2 := en
        rw [← eh]
        refine y_mono (ih (i + 1) (v_ur W (123 + 2 * (4 * (j + 1) + i)) (W (123 + 2 * (4 * j + i)))) (by omega) (by omega) (fun k hk => (en2 k (hk i (by omega))).trans (hF k hk)) (fun q hq p hp => ?_) hx2) (by omega)
        rcases (show q < i ∨ q = i by omega) with h7 | h7
        · rw [en2 _ (by omega)]; exact hD q h7 p hp
        · rw [h7]; exact es p hp
end
