/-! lines of the reference; pairs of calls that work packets -/
section
variable {X : Nat → List Int32} {u w : Nat} {S : m_H} {V : v_V} {K : v_K}
set_option maxRecDepth 100000 in
set_option maxHeartbeats 4000000 in
theorem ms_lin (hM : MdS S) {tl : Nat → List p_Li} {cnt : Nat} (hSO : SO cnt (V 171)) (hTO : ∀ i : Nat, (i : Int) < V 171 0 → TO (tl i)) (hMTs : ∀ i : Nat, (i : Int) < V 171 0 → MT V i (tl i)) {x : Int} (hx : (-2147483648 ≤ x ∧ x < 2147483648)) {y : Int} (hy : (-2147483648 ≤ y ∧ y < 2147483648)) (k0 : ¬ ((0 ≤ x ∧ x < V 171 0) ∧ -1 ≤ y ∧ y < (tl x.toNat).length) → K u w (some (iv (-1))) S V) (k1 : ((0 ≤ x ∧ x < V 171 0) ∧ -1 ≤ y ∧ y < (tl x.toNat).length) → K u w (some (iv (lnA (tl x.toNat) y))) S V) : y_R X 3 125 u w [.ref 170, iv x, iv y] S V K := by
  have hsz := hSO.1
  refine y_ent (lv' := [(0, .ref 170), (1, iv x), (2, iv y)]) (Nat.le_of_ble_eq_true rfl) rfl ?_
  refine y_ld (x := .ref 170) rfl rfl (fun d => rfl) ?_
  refine y_ld (x := iv x) rfl rfl (fun d => rfl) ?_
  refine y_cV (as := [.ref 170, iv x]) rfl rfl rfl rfl rfl (md170 hM) ⟨rfl, (Nat.le_of_ble_eq_true rfl), (Nat.le_of_ble_eq_true rfl)⟩ (by decide) (ct_isText hM (by omega) ⟨rfl, by omega⟩ ?_)
  refine y_nv ?_
  refine y_beq rfl rfl rfl (fun g1 => ?_) (fun g1 => ?_)
  · refine y_ic rfl rfl ?_
    refine y_rI rfl (Or.inl rfl) ?_
    exact k0 (by omega)
  · have hl := hTO x.toNat (by omega)
    have hl8 := hl.2.2.1
    have hMx := hMTs x.toNat (by omega)
    have h5 := hMx.2.2.1
    refine y_ld (x := iv y) rfl rfl (fun d => rfl) ?_
    refine y_ic rfl rfl ?_
    refine y_ld (x := .ref 170) rfl rfl (fun d => rfl) ?_
    refine y_gR (i := 6) rfl rfl rfl (md170 hM) rfl ?_
    refine y_ld (x := iv x) rfl rfl (fun d => rfl) ?_
    refine y_ild (x := (V 175 ((x).toNat))) (q := ((x).toNat)) rfl rfl (md175 hM) (by omega) (by decide) rfl rfl ?_
    refine y_ic rfl rfl ?_
    refine y_sub (z := ((V 175 ((x).toNat)) - 1)) rfl rfl rfl ?_
    refine y_cS (as := [iv y, iv (-1), iv ((V 175 ((x).toNat)) - 1)]) rfl (by decide) rfl rfl rfl rfl ⟨(Nat.le_of_ble_eq_true rfl), (Nat.le_of_ble_eq_true rfl)⟩ (by decide) (ct_in (by omega) ?_)
    refine y_nv ?_
    refine y_bne rfl rfl rfl (fun g2 => ?_) (fun g2 => ?_)
    · refine y_ld (x := iv y) rfl rfl (fun d => rfl) ?_
      refine y_ic rfl rfl ?_
      refine y_jne rfl rfl rfl (by omega) (fun g3 => ?_) (fun g3 => ?_)
      · refine y_ld (x := .ref 170) rfl rfl (fun d => rfl) ?_
        refine y_gR (i := 7) rfl rfl rfl (md170 hM) rfl ?_
        refine y_bi rfl rfl (by decide) ?_
        refine y_ld (x := iv x) rfl rfl (fun d => rfl) ?_
        refine y_mul (z := (8 * x)) rfl rfl rfl ?_
        refine y_ld (x := iv y) rfl rfl (fun d => rfl) ?_
        refine y_add (z := ((8 * x) + y)) rfl rfl rfl ?_
        refine y_ild (x := (V 176 (8 * x.toNat + y.toNat))) (q := (8 * x.toNat + y.toNat)) rfl rfl (md176 hM) (by omega) (by decide) (by omega) rfl ?_
        refine y_rI rfl (Or.inl rfl) ?_
        have k2 := k1 (by omega)
        obtain ⟨x9, hx9⟩ : ∃ x9, m_nth (tl x.toNat) y.toNat = some x9 := ⟨_, by rw [m_nth_eq]; exact List.getElem?_eq_getElem (by omega)⟩
        have e9 : lnA (tl x.toNat) y = V 176 (8 * x.toNat + y.toNat) := by
          unfold lnA
          rw [if_neg (by omega), hx9, hMx.2.2.2.1 _ _ hx9]
        rwa [e9] at k2
      · refine y_ld (x := .ref 170) rfl rfl (fun d => rfl) ?_
        refine y_gR (i := 6) rfl rfl rfl (md170 hM) rfl ?_
        refine y_ld (x := iv x) rfl rfl (fun d => rfl) ?_
        refine y_ild (x := (V 175 ((x).toNat))) (q := ((x).toNat)) rfl rfl (md175 hM) (by omega) (by decide) rfl rfl ?_
        refine y_go rfl rfl ?_
        refine y_rI rfl (Or.inl rfl) ?_
        have k2 := k1 (by omega)
        have e9 : lnA (tl x.toNat) y = V 175 x.toNat := by
          unfold lnA
          rw [if_pos (by omega), h5]
        rwa [e9] at k2
    · refine y_ic rfl rfl ?_
      refine y_rI rfl (Or.inl rfl) ?_
      exact k0 (by omega)
end
section
variable {X : Nat → List Int32} {u w cnt : Nat} {S : m_H} {V : v_V}
set_option maxRecDepth 100000 in
set_option maxHeartbeats 4000000 in
theorem pr_lines (hR : RR cnt u w S V) {x : Int} (hx1 : (-2147483648 ≤ x ∧ x < 2147483648)) {y : Int} (hy1 : (-2147483648 ≤ y ∧ y < 2147483648)) : PR X True 72 125 [.ref 0, iv x, iv y] [.ref 170, iv x, iv y] cnt u w S V := by
  have hR2 := RR_le hR (Nat.le_succ cnt)
  obtain ⟨tl, hC, hM, hP, hZ⟩ := hR
  have hC0 := hC
  have hM0 := hM
  have hP0 := hP
  obtain ⟨c1, c2, c3, c4, c5, c6, c7, c8⟩ := hC
  obtain ⟨m1, -, -, m4, m5, m6⟩ := hM
  obtain ⟨p1, p2, p3, p4⟩ := hP
  obtain ⟨n1, n2, n3, n4⟩ := c2.1
  have hsz := p1.1
  intro K hK
  refine y_Rm (D' := 2) (cs_lin c1 c2 p1 p4 hx1 hy1 ?_ ?_) (by decide)
  all_goals intros
  all_goals refine hK _ _ _ _ _ m1 (fun K2 h2 => y_Rm (D' := 3) (ms_lin m1 p1 p4 m4 hx1 hy1 ?_ ?_) (by decide))
  all_goals intros
  all_goals first | (exfalso; omega) | exact h2 _ _ _ _ _ hR2 (fun _ => by rfl)
set_option maxRecDepth 100000 in
set_option maxHeartbeats 4000000 in
theorem pr_work (hR : RR cnt u w S V) (hcn : cnt < 70) {x : Int} (hx1 : (-2147483648 ≤ x ∧ x < 2147483648)) {t : Int} (ht1 : (-2147483648 ≤ t ∧ t < 2147483648)) {h : Int} (hh1 : (-2147483648 ≤ h ∧ h < 2147483648)) {y : Int} (hy1 : (-2147483648 ≤ y ∧ y < 2147483648)) {o : Int} (ho1 : (-2147483648 ≤ o ∧ o < 2147483648)) : PR X True 75 137 [.ref 0, iv x, iv t, iv h, iv y, iv o] [.ref 170, iv x, iv t, iv h, iv y, iv o] cnt u w S V := by
  have hR2 := RR_le hR (Nat.le_succ cnt)
  obtain ⟨tl, hC, hM, hP, hZ⟩ := hR
  have hC0 := hC
  have hM0 := hM
  have hP0 := hP
  obtain ⟨c1, c2, c3, c4, c5, c6, c7, c8⟩ := hC
  obtain ⟨m1, -, -, m4, m5, m6⟩ := hM
  obtain ⟨p1, p2, p3, p4⟩ := hP
  obtain ⟨n1, n2, n3, n4⟩ := c2.1
  have hsz := p1.1
  have hsl : S.length ≤ 193 + 12 * cnt ∧ 193 ≤ S.length := ⟨hZ.2.1, hZ.1⟩
  intro K hK
  refine y_Rm (D' := 7) (cs_work c1 (by omega) c2 p1 p4 hx1 ht1 hh1 hy1 ho1 (fun g1 => ?_) (fun g1 g2 => ?_) (fun g1 g2 V1 hRS1 hF1 => ?_)) (by decide)
  · all_goals refine hK _ _ _ _ _ m1 (fun K2 h2 => y_Rm (D' := 8) (ms_work m1 p1 p4 m4 hx1 ht1 hh1 hy1 ho1 ?_ ?_ ?_) (by decide))
    all_goals intros
    all_goals first | contradiction | (exfalso; omega) | exact h2 _ _ _ _ _ hR2 (fun _ => by rfl)
  · all_goals refine hK _ _ _ _ _ m1 (fun K2 h2 => y_Rm (D' := 8) (ms_work m1 p1 p4 m4 hx1 ht1 hh1 hy1 ho1 ?_ ?_ ?_) (by decide))
    all_goals intros
    all_goals first | contradiction | (exfalso; omega) | exact h2 _ _ _ _ _ hR2 (fun _ => by rfl)
  · have hV1 : SV 6 S (S ++ [(2, m_dfl 2)]) := SV_app _ _ _
    have m1b := MdS_v m1 hV1 (by decide)
    have e171 : V1 171 = V 171 := hF1 171 (by omega) (fun b hb => by omega)
    have hb8 : x.toNat < 8 := by omega
    have htx := (p1.2.2.1 x.toNat hb8).2.1
    have hs1 := (sgW_SO (tl := tl) (t := t) (h := h) (k := y) (n := o) p1 hb8 (p4 _ (by have := htx.2.2 (by omega); omega)).2.2.1).1
    have hz0 : (sgW tl (V 171) x.toNat t h y o).2 0 = V 171 0 := sgW_lt (by omega) hb8
    have hC1 := RC_x hC0 hZ.1 (SQ_app 6 S _) hV1 (Or.inl rfl) hRS1 hz0 (fun k hk => hF1 k (by omega) (fun b hb => by omega))
    have hM1 := RM_fr hM0 m1b (fun k a b => hF1 k (by omega) (fun b hb => by omega))
    refine hK _ _ _ _ V1 m1b (fun K2 h2 => y_Rm (D' := 8) (ms_work m1b (by rw [e171]; exact p1) (by rw [e171]; exact p4) (by rw [e171]; exact hM1.2.2.2.1) hx1 ht1 hh1 hy1 ho1 ?_ ?_ ?_) (by decide))
    all_goals rw [e171]
    all_goals intros
    · omega
    · contradiction
    · rename_i V2 a1 a2
      have hM2 := RM_x hM1 a1 hz0 (fun k a b => a2.1 k (by omega) (by omega) (by omega)) ⟨a2.2 40 (by omega), a2.2 3 (by omega)⟩
      exact h2 _ _ _ _ _ (RR_mk hC1 hM2 (fun k hk => a2.1 k (by omega) (by omega) (by omega)) (congrFun (hF1 0 (by omega) (fun b hb => by omega)) 2) (RP_x hP0 (SO_le hs1 (Nat.le_succ cnt)) hz0) (RZ_x hZ (by rw [List.length_append]; show S.length ≤ S.length + 1 ∧ S.length + 1 ≤ S.length + 12; omega) (by decide) (by decide))) (fun _ => rfl)
end
