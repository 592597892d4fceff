/-! a BOX works a packet itself: the class -/
section
variable {X : Nat → List Int32} {u w : Nat} {S : m_H} {V : v_V} {K : v_K}
set_option maxRecDepth 100000 in
set_option maxHeartbeats 4000000 in
theorem cc_steps (hC : ClF S) {b t pk : Nat} {a h κ n : Int} {l : List p_Li} (hb : b < 8) (hX : TxS S t) (htl : 193 ≤ t) (hkl : 193 ≤ pk) (hP : PkS S V pk a h κ n) (hpk : pkO a h κ n) (hμr : muO (V (10 + 6 * b + 3))) (h6 : V t 6 ≤ 160) (hCT : CT V t l) (hlo : lsO l) (hld : ∀ x ∈ l, lnO x) (hl8 : l.length ≤ 8) (k : K u w (some (iv (eW a h κ n l (V (10 + 6 * b + 3))).1)) S (v_ur (v_up V (10 + 6 * b) 3 (eL (V (10 + 6 * b + 3)) a h κ n 0 l)) (10 + 6 * b + 3) (eW a h κ n l (V (10 + 6 * b + 3))).2)) : y_R X 6 3 u w [.ref (10 + 6 * b), .ref pk, .ref t] S V K := by
  refine y_ent (lv' := [(0, .ref (10 + 6 * b)), (1, .ref pk), (2, .ref t)]) (Nat.le_of_ble_eq_true rfl) rfl ?_
  refine y_ld (x := .ref pk) rfl rfl (fun d => rfl) ?_
  refine y_in (pc' := 4) rfl rfl (fun d => rfl) ?_
  refine y_ld (x := .ref t) rfl rfl (fun d => rfl) ?_
  refine y_in (pc' := 10) rfl rfl (fun d => rfl) ?_
  refine y_ld (x := .ref (10 + 6 * b)) rfl rfl (fun d => rfl) ?_
  refine y_ld (x := .ref t) rfl rfl (fun d => rfl) ?_
  refine y_ld (x := .ref pk) rfl rfl (fun d => rfl) ?_
  refine y_ld (x := .ref (10 + 6 * b)) rfl rfl (fun d => rfl) ?_
  refine y_gR (i := 6) rfl rfl rfl (bx_ob hC (i := b) (by omega)) rfl ?_
  refine y_cV (as := [.ref t, .ref pk, .ref (10 + 6 * b + 2)]) rfl rfl rfl rfl rfl hX.1 ⟨rfl, (Nat.le_of_ble_eq_true rfl), (Nat.le_of_ble_eq_true rfl)⟩ (by decide) (cc_lineFor hX ⟨(bx_mem hC (i := b) (by omega)), (bx_mcl hC (i := b) (by omega))⟩ rfl hP hpk hμr h6 hCT hlo hld hl8 ?_)
  refine y_nv ?_
  rcases eLW (V (10 + 6 * b + 3)) a h κ n l 0 with ⟨e1, e2⟩ | ⟨j, x, e1, e2, e3⟩
  · rw [e1, e2] at k
    refine y_iv e1 ?_
    refine y_pI (i := 3) rfl rfl rfl (bx_ob hC (i := b) (by omega)) rfl rfl ?_
    refine y_ld (x := .ref t) rfl rfl (fun d => rfl) ?_
    refine y_ld (x := .ref (10 + 6 * b)) rfl rfl (fun d => rfl) ?_
    refine y_gI (i := 3) (e := (-5)) rfl rfl rfl (bx_ob hC (i := b) (by omega)) rfl (by rw [v_up_eq]) ?_
    refine y_ld (x := .ref pk) rfl rfl (fun d => rfl) ?_
    refine y_ld (x := .ref (10 + 6 * b)) rfl rfl (fun d => rfl) ?_
    refine y_gR (i := 6) rfl rfl rfl (bx_ob hC (i := b) (by omega)) rfl ?_
    refine y_cV (as := [.ref t, iv (-5), .ref pk, .ref (10 + 6 * b + 2)]) rfl rfl rfl rfl rfl hX.1 ⟨rfl, (Nat.le_of_ble_eq_true rfl), (Nat.le_of_ble_eq_true rfl)⟩ (by decide) (cc_does5 hX ?_)
    refine y_nv ?_
    refine y_rI rfl (Or.inl rfl) ?_
    have hwc : (v_up V (10 + 6 * b) 3 (-5)) (10 + 6 * b + 3) = V (10 + 6 * b + 3) := v_up_ne (by omega)
    rw [← hwc, v_ur_self] at k
    exact k
  · rw [e1, e3] at k
    refine y_iv e1 ?_
    rw [Nat.zero_add] at k
    refine y_iv (e' := (j : Int)) (by rw [Nat.zero_add]) ?_
    refine y_pI (i := 3) rfl rfl rfl (bx_ob hC (i := b) (by omega)) rfl rfl ?_
    refine y_ld (x := .ref t) rfl rfl (fun d => rfl) ?_
    refine y_ld (x := .ref (10 + 6 * b)) rfl rfl (fun d => rfl) ?_
    refine y_gI (i := 3) (e := (j : Int)) rfl rfl rfl (bx_ob hC (i := b) (by omega)) rfl (by rw [v_up_eq]) ?_
    refine y_ld (x := .ref pk) rfl rfl (fun d => rfl) ?_
    refine y_ld (x := .ref (10 + 6 * b)) rfl rfl (fun d => rfl) ?_
    refine y_gR (i := 6) rfl rfl rfl (bx_ob hC (i := b) (by omega)) rfl ?_
    have hxm : x ∈ l := by rw [m_nth_eq] at e2; exact List.mem_of_getElem? e2
    have hxo := hlo x hxm
    have hj8 : j < 8 := by have := m_nth_lt e2; omega
    have en : ∀ k, k ≠ 10 + 6 * b → (v_up V (10 + 6 * b) 3 (j : Int)) k = V k := fun k hk => v_up_ne hk
    have hCT2 : CT (v_up V (10 + 6 * b) 3 (j : Int)) t l := CT_r hCT (fun i hi => en _ (by omega))
    have hjl := m_nth_lt e2
    obtain ⟨p, b1, b2, b3, b4, b5, b6, b7⟩ := CT_line hCT2 e2
    have hw6 : (v_up V (10 + 6 * b) 3 (j : Int)) t 6 ≤ 160 := by rw [en _ (by omega)]; exact h6
    have hwc : (v_up V (10 + 6 * b) 3 (j : Int)) (10 + 6 * b + 3) = V (10 + 6 * b + 3) := en _ (by omega)
    refine y_cV (as := [.ref t, iv (j : Int), .ref pk, .ref (10 + 6 * b + 2)]) rfl rfl rfl rfl rfl hX.1 ⟨rfl, (Nat.le_of_ble_eq_true rfl), (Nat.le_of_ble_eq_true rfl)⟩ (by decide) (cc_does (p := p + (encTc x.2.2.1).length) (L := x.2.2.2) hX ⟨(bx_mem hC (i := b) (by omega)), (bx_mcl hC (i := b) (by omega))⟩ hpk (by omega) htl hkl hj8 ⟨by rw [hCT2.1]; omega, by rw [hCT2.1]; omega⟩ b3 b4 (by have := hxo.2.2.2.2; omega) b6 hxo.2.1 (PkS_r hP (en _ (by omega))) (by rw [hwc]; exact hμr) b7 hw6 ?_)
    refine y_nv ?_
    refine y_rI rfl (Or.inl rfl) ?_
    rw [← hwc] at k
    exact k
end
