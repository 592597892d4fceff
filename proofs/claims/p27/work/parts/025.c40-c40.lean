/-! act, both sides -/
section
variable {X : Nat → List Int32} {u w : Nat} {S : m_H} {V : v_V} {K : v_K}
set_option maxRecDepth 100000 in
set_option maxHeartbeats 4000000 in
theorem cs_act (hC : ClF S) {tl : Nat → List p_Li} {cnt : Nat} {σ : Nat → Int} (hRS : RS S V 1 σ tl) (hSO : SO cnt σ) (hTO : ∀ i : Nat, (i : Int) < σ 0 → TO (tl i)) {x : Int} (hx : (-2147483648 ≤ x ∧ x < 2147483648)) {y : Int} (hy : (-2147483648 ≤ y ∧ y < 2147483648)) (hXb : X 1 = m_bodies) (hXa : X 2 = m_above) (h3X : X 3 = []) {z : Int32} (k0 : ¬ ((0 ≤ x ∧ x < σ 1) ∧ (0 ≤ y ∧ y ≤ 2)) → K u w (some (iv 0)) S (v_up V 8 1 0)) (k1 : ((0 ≤ x ∧ x < σ 1) ∧ (0 ≤ y ∧ y ≤ 2)) → ∀ V2, (∀ k, k ≠ 8 → k ≠ 9 → V2 k = V k) → 0 ≤ V2 8 1 ∧ V2 8 1 ≤ 20 → K u w (some (.int (acV (σ (170 + x.toNat)).toNat y.toNat z ((x.toNat : Nat) : Int) ((tl (σ (178 + x.toNat)).toNat).length : Int)))) S V2) : y_R X 31 91 u w [.ref 0, iv x, iv y, .int z] S V K := by
  obtain ⟨n1, n2, n3, n4⟩ := hRS.1
  have hsz := hSO.1
  have hB : 0 ≤ V 1 5 ∧ V 1 5 ≤ 8 := by omega
  obtain ⟨ta, hT, hTt⟩ := TAx_RT hRS.2.1 hRS.1 hSO
  refine y_ent (lv' := [(0, .ref 0), (1, iv x), (2, iv y), (3, .int z)]) (Nat.le_of_ble_eq_true rfl) rfl ?_
  refine y_ld (x := .ref 0) rfl rfl (fun d => rfl) ?_
  refine y_gR (i := 0) rfl rfl rfl (hC 0 _ _ rfl) rfl ?_
  refine y_ld (x := iv x) rfl rfl (fun d => rfl) ?_
  refine y_cV (as := [.ref 1, iv x]) rfl rfl rfl rfl rfl (hC 1 _ _ rfl) ⟨rfl, (Nat.le_of_ble_eq_true rfl), (Nat.le_of_ble_eq_true rfl)⟩ (by decide) (cb_boxAt (x := x) hC hB (by omega) (fun gb1 => ?_) (fun gb1 => ?_))
  · refine y_nv ?_
    refine y_st (lv' := [(4, .null), (0, .ref 0), (1, iv x), (2, iv y), (3, .int z)]) rfl rfl (fun d => rfl) ?_
    refine y_ld (x := .null) rfl rfl (fun d => rfl) ?_
    refine y_in (pc' := 15) rfl rfl (fun d => rfl) ?_
    refine y_ld rfl rfl (fun d => rfl) ?_
    refine y_go rfl rfl ?_
    refine y_st (lv' := [(5, .null), (4, .null), (0, .ref 0), (1, iv x), (2, iv y), (3, .int z)]) rfl rfl (fun d => rfl) ?_
    refine y_ld (x := .ref 0) rfl rfl (fun d => rfl) ?_
    refine y_gR (i := 0) rfl rfl rfl (hC 0 _ _ rfl) rfl ?_
    refine y_gR (i := 13) rfl rfl rfl (hC 1 _ _ rfl) rfl ?_
    refine y_ic rfl rfl ?_
    refine y_pI (i := 1) rfl rfl rfl (hC 8 _ _ rfl) rfl rfl ?_
    refine y_ld (x := .null) rfl rfl (fun d => rfl) ?_
    refine y_in (pc' := 58) rfl rfl (fun d => rfl) ?_
    refine y_ic rfl rfl ?_
    refine y_rI rfl (Or.inl rfl) ?_
    exact k0 (by omega)
  · refine y_nv ?_
    refine y_st (lv' := [(4, .ref (10 + 6 * x.toNat)), (0, .ref 0), (1, iv x), (2, iv y), (3, .int z)]) rfl rfl (fun d => rfl) ?_
    refine y_ld (x := .ref (10 + 6 * x.toNat)) rfl rfl (fun d => rfl) ?_
    refine y_in (pc' := 19) rfl rfl (fun d => rfl) ?_
    refine y_ld (x := .ref 0) rfl rfl (fun d => rfl) ?_
    refine y_gR (i := 0) rfl rfl rfl (hC 0 _ _ rfl) rfl ?_
    refine y_ld (x := .ref (10 + 6 * x.toNat)) rfl rfl (fun d => rfl) ?_
    refine y_gI (i := 2) (e := (σ (178 + x.toNat))) rfl rfl rfl (bx_ob hC (i := x.toNat) (by omega)) rfl ((n4 x.toNat (by omega)).2.2.1) ?_
    have hx8 : x.toNat < 8 := by omega
    have b1 := n4 x.toNat hx8
    have htx := (hSO.2.2.1 x.toNat hx8).2.1
    have hty := htx.2.2 (by omega)
    refine y_cV (as := [.ref 1, iv (σ (178 + x.toNat))]) rfl rfl rfl rfl rfl (hC 1 _ _ rfl) ⟨rfl, (Nat.le_of_ble_eq_true rfl), (Nat.le_of_ble_eq_true rfl)⟩ (by decide) (cb_textAt (x := σ (178 + x.toNat)) hC hT (by omega) (fun hno => absurd (show 0 ≤ σ (178 + x.toNat) ∧ σ (178 + x.toNat) < V 1 3 by omega) hno) (fun (t1 : Nat) gT ht1 ht2 ht3 => ?_))
    refine y_nv ?_
    refine y_st (lv' := [(5, .ref t1), (4, .ref (10 + 6 * x.toNat)), (0, .ref 0), (1, iv x), (2, iv y), (3, .int z)]) rfl rfl (fun d => rfl) ?_
    refine y_ld (x := .ref 0) rfl rfl (fun d => rfl) ?_
    refine y_gR (i := 0) rfl rfl rfl (hC 0 _ _ rfl) rfl ?_
    refine y_gR (i := 13) rfl rfl rfl (hC 1 _ _ rfl) rfl ?_
    refine y_ic rfl rfl ?_
    refine y_pI (i := 1) rfl rfl rfl (hC 8 _ _ rfl) rfl rfl ?_
    refine y_ld (x := .ref t1) rfl rfl (fun d => rfl) ?_
    refine y_in (pc' := 49) rfl rfl (fun d => rfl) ?_
    refine y_ld (x := iv y) rfl rfl (fun d => rfl) ?_
    refine y_zlt rfl rfl rfl (by omega) (fun g1 => ?_) (fun g1 => ?_)
    · refine y_ic rfl rfl ?_
      refine y_rI rfl (Or.inl rfl) ?_
      exact k0 (by omega)
    · refine y_ld (x := iv y) rfl rfl (fun d => rfl) ?_
      refine y_ic rfl rfl ?_
      refine y_jlt rfl rfl rfl (by omega) (fun g2 => ?_) (fun g2 => ?_)
      · have hx8 : x.toNat < 8 := by omega
        have b1 := n4 x.toNat hx8
        have hkd := (hSO.2.2.1 x.toNat hx8).1
        obtain ⟨-, -, hct⟩ := hTt (σ (178 + x.toNat)).toNat t1 (by omega) ht1
        have eln : (v_up V 8 1 0) t1 0 = ((tl (σ (178 + x.toNat)).toNat).length : Int) := (congrFun (v_up_ne (by omega)) 0).trans hct.1
        rcases (show σ (170 + x.toNat) = 0 ∨ σ (170 + x.toNat) = 1 ∨ σ (170 + x.toNat) = 2 ∨ σ (170 + x.toNat) = 3 ∨ σ (170 + x.toNat) = 4 ∨ σ (170 + x.toNat) = 5 ∨ σ (170 + x.toNat) = 6 by omega) with hq | hq | hq | hq | hq | hq | hq
        · rcases (show y = 0 ∨ y = 1 ∨ y = 2 by omega) with hy3 | hy3 | hy3
          · refine y_lv (l' := [(5, .ref t1), (4, .ref (10 + 6 * x.toNat)), (0, .ref 0), (1, iv x), (2, iv 0), (3, .int z)]) rfl ⟨rfl, rfl, rfl, rfl, congrArg (fun e => some (iv e)) hy3, rfl, trivial⟩ ?_
            refine y_ld (x := .ref 0) rfl rfl (fun d => rfl) ?_
            refine y_gR (i := 0) rfl rfl rfl (hC 0 _ _ rfl) rfl ?_
            refine y_gR (i := 13) rfl rfl rfl (hC 1 _ _ rfl) rfl ?_
            refine y_ld (x := .ref (10 + 6 * x.toNat)) rfl rfl (fun d => rfl) ?_
            refine y_ld (x := .ref t1) rfl rfl (fun d => rfl) ?_
            refine y_gI (i := 0) (e := ((tl (σ (178 + x.toNat)).toNat).length : Int)) rfl rfl rfl ht3.1 rfl eln ?_
            refine y_ld (x := iv 0) rfl rfl (fun d => rfl) ?_
            refine y_ld (x := .int z) rfl rfl (fun d => rfl) ?_
            refine y_cV (as := [.ref 8, .ref (10 + 6 * x.toNat), iv ((tl (σ (178 + x.toNat)).toNat).length : Int), iv 0, .int z]) rfl rfl rfl rfl rfl (hC 8 _ _ rfl) ⟨rfl, (Nat.le_of_ble_eq_true rfl), (Nat.le_of_ble_eq_true rfl)⟩ (by decide) (ca_0_0 (V := V) (nb := ((x.toNat : Nat) : Int)) hC hXb hXa h3X hx8 (b1.2.1.trans hq) (b1.1 (by omega)) (fun V2 f1 f2 => ?_))
            refine y_nv ?_
            refine y_ret rfl (fun d => rfl) ?_
            have k2 := k1 (by omega) V2 f1 f2
            rw [hq, hy3] at k2
            exact k2
          · refine y_lv (l' := [(5, .ref t1), (4, .ref (10 + 6 * x.toNat)), (0, .ref 0), (1, iv x), (2, iv 1), (3, .int z)]) rfl ⟨rfl, rfl, rfl, rfl, congrArg (fun e => some (iv e)) hy3, rfl, trivial⟩ ?_
            refine y_ld (x := .ref 0) rfl rfl (fun d => rfl) ?_
            refine y_gR (i := 0) rfl rfl rfl (hC 0 _ _ rfl) rfl ?_
            refine y_gR (i := 13) rfl rfl rfl (hC 1 _ _ rfl) rfl ?_
            refine y_ld (x := .ref (10 + 6 * x.toNat)) rfl rfl (fun d => rfl) ?_
            refine y_ld (x := .ref t1) rfl rfl (fun d => rfl) ?_
            refine y_gI (i := 0) (e := ((tl (σ (178 + x.toNat)).toNat).length : Int)) rfl rfl rfl ht3.1 rfl eln ?_
            refine y_ld (x := iv 1) rfl rfl (fun d => rfl) ?_
            refine y_ld (x := .int z) rfl rfl (fun d => rfl) ?_
            refine y_cV (as := [.ref 8, .ref (10 + 6 * x.toNat), iv ((tl (σ (178 + x.toNat)).toNat).length : Int), iv 1, .int z]) rfl rfl rfl rfl rfl (hC 8 _ _ rfl) ⟨rfl, (Nat.le_of_ble_eq_true rfl), (Nat.le_of_ble_eq_true rfl)⟩ (by decide) (ca_0_1 (V := V) (nb := ((x.toNat : Nat) : Int)) hC hXb hXa h3X hx8 (b1.2.1.trans hq) (b1.1 (by omega)) (fun V2 f1 f2 => ?_))
            refine y_nv ?_
            refine y_ret rfl (fun d => rfl) ?_
            have k2 := k1 (by omega) V2 f1 f2
            rw [hq, hy3] at k2
            exact k2
          · refine y_lv (l' := [(5, .ref t1), (4, .ref (10 + 6 * x.toNat)), (0, .ref 0), (1, iv x), (2, iv 2), (3, .int z)]) rfl ⟨rfl, rfl, rfl, rfl, congrArg (fun e => some (iv e)) hy3, rfl, trivial⟩ ?_
            refine y_ld (x := .ref 0) rfl rfl (fun d => rfl) ?_
            refine y_gR (i := 0) rfl rfl rfl (hC 0 _ _ rfl) rfl ?_
            refine y_gR (i := 13) rfl rfl rfl (hC 1 _ _ rfl) rfl ?_
            refine y_ld (x := .ref (10 + 6 * x.toNat)) rfl rfl (fun d => rfl) ?_
            refine y_ld (x := .ref t1) rfl rfl (fun d => rfl) ?_
            refine y_gI (i := 0) (e := ((tl (σ (178 + x.toNat)).toNat).length : Int)) rfl rfl rfl ht3.1 rfl eln ?_
            refine y_ld (x := iv 2) rfl rfl (fun d => rfl) ?_
            refine y_ld (x := .int z) rfl rfl (fun d => rfl) ?_
            refine y_cV (as := [.ref 8, .ref (10 + 6 * x.toNat), iv ((tl (σ (178 + x.toNat)).toNat).length : Int), iv 2, .int z]) rfl rfl rfl rfl rfl (hC 8 _ _ rfl) ⟨rfl, (Nat.le_of_ble_eq_true rfl), (Nat.le_of_ble_eq_true rfl)⟩ (by decide) (ca_0_2 (V := V) (nb := ((x.toNat : Nat) : Int)) hC hXb hXa h3X hx8 (b1.2.1.trans hq) (b1.1 (by omega)) (fun V2 f1 f2 => ?_))
            refine y_nv ?_
            refine y_ret rfl (fun d => rfl) ?_
            have k2 := k1 (by omega) V2 f1 f2
            rw [hq, hy3] at k2
            exact k2
        · rcases (show y = 0 ∨ y = 1 ∨ y = 2 by omega) with hy3 | hy3 | hy3
          · refine y_lv (l' := [(5, .ref t1), (4, .ref (10 + 6 * x.toNat)), (0, .ref 0), (1, iv x), (2, iv 0), (3, .int z)]) rfl ⟨rfl, rfl, rfl, rfl, congrArg (fun e => some (iv e)) hy3, rfl, trivial⟩ ?_
            refine y_ld (x := .ref 0) rfl rfl (fun d => rfl) ?_
            refine y_gR (i := 0) rfl rfl rfl (hC 0 _ _ rfl) rfl ?_
            refine y_gR (i := 13) rfl rfl rfl (hC 1 _ _ rfl) rfl ?_
            refine y_ld (x := .ref (10 + 6 * x.toNat)) rfl rfl (fun d => rfl) ?_
            refine y_ld (x := .ref t1) rfl rfl (fun d => rfl) ?_
            refine y_gI (i := 0) (e := ((tl (σ (178 + x.toNat)).toNat).length : Int)) rfl rfl rfl ht3.1 rfl eln ?_
            refine y_ld (x := iv 0) rfl rfl (fun d => rfl) ?_
            refine y_ld (x := .int z) rfl rfl (fun d => rfl) ?_
            refine y_cV (as := [.ref 8, .ref (10 + 6 * x.toNat), iv ((tl (σ (178 + x.toNat)).toNat).length : Int), iv 0, .int z]) rfl rfl rfl rfl rfl (hC 8 _ _ rfl) ⟨rfl, (Nat.le_of_ble_eq_true rfl), (Nat.le_of_ble_eq_true rfl)⟩ (by decide) (ca_1_0 (V := V) (nb := ((x.toNat : Nat) : Int)) hC hXb hXa h3X hx8 (b1.2.1.trans hq) (b1.1 (by omega)) (fun V2 f1 f2 => ?_))
            refine y_nv ?_
            refine y_ret rfl (fun d => rfl) ?_
            have k2 := k1 (by omega) V2 f1 f2
            rw [hq, hy3] at k2
            exact k2
          · refine y_lv (l' := [(5, .ref t1), (4, .ref (10 + 6 * x.toNat)), (0, .ref 0), (1, iv x), (2, iv 1), (3, .int z)]) rfl ⟨rfl, rfl, rfl, rfl, congrArg (fun e => some (iv e)) hy3, rfl, trivial⟩ ?_
            refine y_ld (x := .ref 0) rfl rfl (fun d => rfl) ?_
            refine y_gR (i := 0) rfl rfl rfl (hC 0 _ _ rfl) rfl ?_
            refine y_gR (i := 13) rfl rfl rfl (hC 1 _ _ rfl) rfl ?_
            refine y_ld (x := .ref (10 + 6 * x.toNat)) rfl rfl (fun d => rfl) ?_
            refine y_ld (x := .ref t1) rfl rfl (fun d => rfl) ?_
            refine y_gI (i := 0) (e := ((tl (σ (178 + x.toNat)).toNat).length : Int)) rfl rfl rfl ht3.1 rfl eln ?_
            refine y_ld (x := iv 1) rfl rfl (fun d => rfl) ?_
            refine y_ld (x := .int z) rfl rfl (fun d => rfl) ?_
            refine y_cV (as := [.ref 8, .ref (10 + 6 * x.toNat), iv ((tl (σ (178 + x.toNat)).toNat).length : Int), iv 1, .int z]) rfl rfl rfl rfl rfl (hC 8 _ _ rfl) ⟨rfl, (Nat.le_of_ble_eq_true rfl), (Nat.le_of_ble_eq_true rfl)⟩ (by decide) (ca_1_1 (V := V) (nb := ((x.toNat : Nat) : Int)) hC hXb hXa h3X hx8 (b1.2.1.trans hq) (b1.1 (by omega)) (fun V2 f1 f2 => ?_))
            refine y_nv ?_
            refine y_ret rfl (fun d => rfl) ?_
            have k2 := k1 (by omega) V2 f1 f2
            rw [hq, hy3] at k2
            exact k2
          · refine y_lv (l' := [(5, .ref t1), (4, .ref (10 + 6 * x.toNat)), (0, .ref 0), (1, iv x), (2, iv 2), (3, .int z)]) rfl ⟨rfl, rfl, rfl, rfl, congrArg (fun e => some (iv e)) hy3, rfl, trivial⟩ ?_
            refine y_ld (x := .ref 0) rfl rfl (fun d => rfl) ?_
            refine y_gR (i := 0) rfl rfl rfl (hC 0 _ _ rfl) rfl ?_
            refine y_gR (i := 13) rfl rfl rfl (hC 1 _ _ rfl) rfl ?_
            refine y_ld (x := .ref (10 + 6 * x.toNat)) rfl rfl (fun d => rfl) ?_
            refine y_ld (x := .ref t1) rfl rfl (fun d => rfl) ?_
            refine y_gI (i := 0) (e := ((tl (σ (178 + x.toNat)).toNat).length : Int)) rfl rfl rfl ht3.1 rfl eln ?_
            refine y_ld (x := iv 2) rfl rfl (fun d => rfl) ?_
            refine y_ld (x := .int z) rfl rfl (fun d => rfl) ?_
            refine y_cV (as := [.ref 8, .ref (10 + 6 * x.toNat), iv ((tl (σ (178 + x.toNat)).toNat).length : Int), iv 2, .int z]) rfl rfl rfl rfl rfl (hC 8 _ _ rfl) ⟨rfl, (Nat.le_of_ble_eq_true rfl), (Nat.le_of_ble_eq_true rfl)⟩ (by decide) (ca_1_2 (V := V) (nb := ((x.toNat : Nat) : Int)) hC hXb hXa h3X hx8 (b1.2.1.trans hq) (b1.1 (by omega)) (fun V2 f1 f2 => ?_))
            refine y_nv ?_
            refine y_ret rfl (fun d => rfl) ?_
            have k2 := k1 (by omega) V2 f1 f2
            rw [hq, hy3] at k2
            exact k2
        · rcases (show y = 0 ∨ y = 1 ∨ y = 2 by omega) with hy3 | hy3 | hy3
          · refine y_lv (l' := [(5, .ref t1), (4, .ref (10 + 6 * x.toNat)), (0, .ref 0), (1, iv x), (2, iv 0), (3, .int z)]) rfl ⟨rfl, rfl, rfl, rfl, congrArg (fun e => some (iv e)) hy3, rfl, trivial⟩ ?_
            refine y_ld (x := .ref 0) rfl rfl (fun d => rfl) ?_
            refine y_gR (i := 0) rfl rfl rfl (hC 0 _ _ rfl) rfl ?_
            refine y_gR (i := 13) rfl rfl rfl (hC 1 _ _ rfl) rfl ?_
            refine y_ld (x := .ref (10 + 6 * x.toNat)) rfl rfl (fun d => rfl) ?_
            refine y_ld (x := .ref t1) rfl rfl (fun d => rfl) ?_
            refine y_gI (i := 0) (e := ((tl (σ (178 + x.toNat)).toNat).length : Int)) rfl rfl rfl ht3.1 rfl eln ?_
            refine y_ld (x := iv 0) rfl rfl (fun d => rfl) ?_
            refine y_ld (x := .int z) rfl rfl (fun d => rfl) ?_
            refine y_cV (as := [.ref 8, .ref (10 + 6 * x.toNat), iv ((tl (σ (178 + x.toNat)).toNat).length : Int), iv 0, .int z]) rfl rfl rfl rfl rfl (hC 8 _ _ rfl) ⟨rfl, (Nat.le_of_ble_eq_true rfl), (Nat.le_of_ble_eq_true rfl)⟩ (by decide) (ca_2_0 (V := V) (nb := ((x.toNat : Nat) : Int)) hC hXb hXa h3X hx8 (b1.2.1.trans hq) (b1.1 (by omega)) (fun V2 f1 f2 => ?_))
            refine y_nv ?_
            refine y_ret rfl (fun d => rfl) ?_
            have k2 := k1 (by omega) V2 f1 f2
            rw [hq, hy3] at k2
            exact k2
          · refine y_lv (l' := [(5, .ref t1), (4, .ref (10 + 6 * x.toNat)), (0, .ref 0), (1, iv x), (2, iv 1), (3, .int z)]) rfl ⟨rfl, rfl, rfl, rfl, congrArg (fun e => some (iv e)) hy3, rfl, trivial⟩ ?_
            refine y_ld (x := .ref 0) rfl rfl (fun d => rfl) ?_
            refine y_gR (i := 0) rfl rfl rfl (hC 0 _ _ rfl) rfl ?_
            refine y_gR (i := 13) rfl rfl rfl (hC 1 _ _ rfl) rfl ?_
            refine y_ld (x := .ref (10 + 6 * x.toNat)) rfl rfl (fun d => rfl) ?_
            refine y_ld (x := .ref t1) rfl rfl (fun d => rfl) ?_
            refine y_gI (i := 0) (e := ((tl (σ (178 + x.toNat)).toNat).length : Int)) rfl rfl rfl ht3.1 rfl eln ?_
            refine y_ld (x := iv 1) rfl rfl (fun d => rfl) ?_
            refine y_ld (x := .int z) rfl rfl (fun d => rfl) ?_
            refine y_cV (as := [.ref 8, .ref (10 + 6 * x.toNat), iv ((tl (σ (178 + x.toNat)).toNat).length : Int), iv 1, .int z]) rfl rfl rfl rfl rfl (hC 8 _ _ rfl) ⟨rfl, (Nat.le_of_ble_eq_true rfl), (Nat.le_of_ble_eq_true rfl)⟩ (by decide) (ca_2_1 (V := V) (nb := ((x.toNat : Nat) : Int)) hC hXb hXa h3X hx8 (b1.2.1.trans hq) (b1.1 (by omega)) (fun V2 f1 f2 => ?_))
            refine y_nv ?_
            refine y_ret rfl (fun d => rfl) ?_
            have k2 := k1 (by omega) V2 f1 f2
            rw [hq, hy3] at k2
            exact k2
          · refine y_lv (l' := [(5, .ref t1), (4, .ref (10 + 6 * x.toNat)), (0, .ref 0), (1, iv x), (2, iv 2), (3, .int z)]) rfl ⟨rfl, rfl, rfl, rfl, congrArg (fun e => some (iv e)) hy3, rfl, trivial⟩ ?_
            refine y_ld (x := .ref 0) rfl rfl (fun d => rfl) ?_
            refine y_gR (i := 0) rfl rfl rfl (hC 0 _ _ rfl) rfl ?_
            refine y_gR (i := 13) rfl rfl rfl (hC 1 _ _ rfl) rfl ?_
            refine y_ld (x := .ref (10 + 6 * x.toNat)) rfl rfl (fun d => rfl) ?_
            refine y_ld (x := .ref t1) rfl rfl (fun d => rfl) ?_
            refine y_gI (i := 0) (e := ((tl (σ (178 + x.toNat)).toNat).length : Int)) rfl rfl rfl ht3.1 rfl eln ?_
            refine y_ld (x := iv 2) rfl rfl (fun d => rfl) ?_
            refine y_ld (x := .int z) rfl rfl (fun d => rfl) ?_
            refine y_cV (as := [.ref 8, .ref (10 + 6 * x.toNat), iv ((tl (σ (178 + x.toNat)).toNat).length : Int), iv 2, .int z]) rfl rfl rfl rfl rfl (hC 8 _ _ rfl) ⟨rfl, (Nat.le_of_ble_eq_true rfl), (Nat.le_of_ble_eq_true rfl)⟩ (by decide) (ca_2_2 (V := V) (nb := ((x.toNat : Nat) : Int)) hC hXb hXa h3X hx8 (b1.2.1.trans hq) (b1.1 (by omega)) (fun V2 f1 f2 => ?_))
            refine y_nv ?_
            refine y_ret rfl (fun d => rfl) ?_
            have k2 := k1 (by omega) V2 f1 f2
            rw [hq, hy3] at k2
            exact k2
        · rcases (show y = 0 ∨ y = 1 ∨ y = 2 by omega) with hy3 | hy3 | hy3
          · refine y_lv (l' := [(5, .ref t1), (4, .ref (10 + 6 * x.toNat)), (0, .ref 0), (1, iv x), (2, iv 0), (3, .int z)]) rfl ⟨rfl, rfl, rfl, rfl, congrArg (fun e => some (iv e)) hy3, rfl, trivial⟩ ?_
            refine y_ld (x := .ref 0) rfl rfl (fun d => rfl) ?_
            refine y_gR (i := 0) rfl rfl rfl (hC 0 _ _ rfl) rfl ?_
            refine y_gR (i := 13) rfl rfl rfl (hC 1 _ _ rfl) rfl ?_
            refine y_ld (x := .ref (10 + 6 * x.toNat)) rfl rfl (fun d => rfl) ?_
            refine y_ld (x := .ref t1) rfl rfl (fun d => rfl) ?_
            refine y_gI (i := 0) (e := ((tl (σ (178 + x.toNat)).toNat).length : Int)) rfl rfl rfl ht3.1 rfl eln ?_
            refine y_ld (x := iv 0) rfl rfl (fun d => rfl) ?_
            refine y_ld (x := .int z) rfl rfl (fun d => rfl) ?_
            refine y_cV (as := [.ref 8, .ref (10 + 6 * x.toNat), iv ((tl (σ (178 + x.toNat)).toNat).length : Int), iv 0, .int z]) rfl rfl rfl rfl rfl (hC 8 _ _ rfl) ⟨rfl, (Nat.le_of_ble_eq_true rfl), (Nat.le_of_ble_eq_true rfl)⟩ (by decide) (ca_3_0 (V := V) (nb := ((x.toNat : Nat) : Int)) hC hXb hXa h3X hx8 (b1.2.1.trans hq) (b1.1 (by omega)) (fun V2 f1 f2 => ?_))
            refine y_nv ?_
            refine y_ret rfl (fun d => rfl) ?_
            have k2 := k1 (by omega) V2 f1 f2
            rw [hq, hy3] at k2
            exact k2
          · refine y_lv (l' := [(5, .ref t1), (4, .ref (10 + 6 * x.toNat)), (0, .ref 0), (1, iv x), (2, iv 1), (3, .int z)]) rfl ⟨rfl, rfl, rfl, rfl, congrArg (fun e => some (iv e)) hy3, rfl, trivial⟩ ?_
            refine y_ld (x := .ref 0) rfl rfl (fun d => rfl) ?_
            refine y_gR (i := 0) rfl rfl rfl (hC 0 _ _ rfl) rfl ?_
            refine y_gR (i := 13) rfl rfl rfl (hC 1 _ _ rfl) rfl ?_
            refine y_ld (x := .ref (10 + 6 * x.toNat)) rfl rfl (fun d => rfl) ?_
            refine y_ld (x := .ref t1) rfl rfl (fun d => rfl) ?_
            refine y_gI (i := 0) (e := ((tl (σ (178 + x.toNat)).toNat).length : Int)) rfl rfl rfl ht3.1 rfl eln ?_
            refine y_ld (x := iv 1) rfl rfl (fun d => rfl) ?_
            refine y_ld (x := .int z) rfl rfl (fun d => rfl) ?_
            refine y_cV (as := [.ref 8, .ref (10 + 6 * x.toNat), iv ((tl (σ (178 + x.toNat)).toNat).length : Int), iv 1, .int z]) rfl rfl rfl rfl rfl (hC 8 _ _ rfl) ⟨rfl, (Nat.le_of_ble_eq_true rfl), (Nat.le_of_ble_eq_true rfl)⟩ (by decide) (ca_3_1 (V := V) (nb := ((x.toNat : Nat) : Int)) hC hXb hXa h3X hx8 (b1.2.1.trans hq) (b1.1 (by omega)) (fun V2 f1 f2 => ?_))
            refine y_nv ?_
            refine y_ret rfl (fun d => rfl) ?_
            have k2 := k1 (by omega) V2 f1 f2
            rw [hq, hy3] at k2
            exact k2
          · refine y_lv (l' := [(5, .ref t1), (4, .ref (10 + 6 * x.toNat)), (0, .ref 0), (1, iv x), (2, iv 2), (3, .int z)]) rfl ⟨rfl, rfl, rfl, rfl, congrArg (fun e => some (iv e)) hy3, rfl, trivial⟩ ?_
            refine y_ld (x := .ref 0) rfl rfl (fun d => rfl) ?_
            refine y_gR (i := 0) rfl rfl rfl (hC 0 _ _ rfl) rfl ?_
            refine y_gR (i := 13) rfl rfl rfl (hC 1 _ _ rfl) rfl ?_
            refine y_ld (x := .ref (10 + 6 * x.toNat)) rfl rfl (fun d => rfl) ?_
            refine y_ld (x := .ref t1) rfl rfl (fun d => rfl) ?_
            refine y_gI (i := 0) (e := ((tl (σ (178 + x.toNat)).toNat).length : Int)) rfl rfl rfl ht3.1 rfl eln ?_
            refine y_ld (x := iv 2) rfl rfl (fun d => rfl) ?_
            refine y_ld (x := .int z) rfl rfl (fun d => rfl) ?_
            refine y_cV (as := [.ref 8, .ref (10 + 6 * x.toNat), iv ((tl (σ (178 + x.toNat)).toNat).length : Int), iv 2, .int z]) rfl rfl rfl rfl rfl (hC 8 _ _ rfl) ⟨rfl, (Nat.le_of_ble_eq_true rfl), (Nat.le_of_ble_eq_true rfl)⟩ (by decide) (ca_3_2 (V := V) (nb := ((x.toNat : Nat) : Int)) hC hXb hXa h3X hx8 (b1.2.1.trans hq) (b1.1 (by omega)) (fun V2 f1 f2 => ?_))
            refine y_nv ?_
            refine y_ret rfl (fun d => rfl) ?_
            have k2 := k1 (by omega) V2 f1 f2
            rw [hq, hy3] at k2
            exact k2
        · rcases (show y = 0 ∨ y = 1 ∨ y = 2 by omega) with hy3 | hy3 | hy3
          · refine y_lv (l' := [(5, .ref t1), (4, .ref (10 + 6 * x.toNat)), (0, .ref 0), (1, iv x), (2, iv 0), (3, .int z)]) rfl ⟨rfl, rfl, rfl, rfl, congrArg (fun e => some (iv e)) hy3, rfl, trivial⟩ ?_
            refine y_ld (x := .ref 0) rfl rfl (fun d => rfl) ?_
            refine y_gR (i := 0) rfl rfl rfl (hC 0 _ _ rfl) rfl ?_
            refine y_gR (i := 13) rfl rfl rfl (hC 1 _ _ rfl) rfl ?_
            refine y_ld (x := .ref (10 + 6 * x.toNat)) rfl rfl (fun d => rfl) ?_
            refine y_ld (x := .ref t1) rfl rfl (fun d => rfl) ?_
            refine y_gI (i := 0) (e := ((tl (σ (178 + x.toNat)).toNat).length : Int)) rfl rfl rfl ht3.1 rfl eln ?_
            refine y_ld (x := iv 0) rfl rfl (fun d => rfl) ?_
            refine y_ld (x := .int z) rfl rfl (fun d => rfl) ?_
            refine y_cV (as := [.ref 8, .ref (10 + 6 * x.toNat), iv ((tl (σ (178 + x.toNat)).toNat).length : Int), iv 0, .int z]) rfl rfl rfl rfl rfl (hC 8 _ _ rfl) ⟨rfl, (Nat.le_of_ble_eq_true rfl), (Nat.le_of_ble_eq_true rfl)⟩ (by decide) (ca_4_0 (V := V) (nb := ((x.toNat : Nat) : Int)) hC hXb hXa h3X hx8 (b1.2.1.trans hq) (b1.1 (by omega)) (fun V2 f1 f2 => ?_))
            refine y_nv ?_
            refine y_ret rfl (fun d => rfl) ?_
            have k2 := k1 (by omega) V2 f1 f2
            rw [hq, hy3] at k2
            exact k2
          · refine y_lv (l' := [(5, .ref t1), (4, .ref (10 + 6 * x.toNat)), (0, .ref 0), (1, iv x), (2, iv 1), (3, .int z)]) rfl ⟨rfl, rfl, rfl, rfl, congrArg (fun e => some (iv e)) hy3, rfl, trivial⟩ ?_
            refine y_ld (x := .ref 0) rfl rfl (fun d => rfl) ?_
            refine y_gR (i := 0) rfl rfl rfl (hC 0 _ _ rfl) rfl ?_
            refine y_gR (i := 13) rfl rfl rfl (hC 1 _ _ rfl) rfl ?_
            refine y_ld (x := .ref (10 + 6 * x.toNat)) rfl rfl (fun d => rfl) ?_
            refine y_ld (x := .ref t1) rfl rfl (fun d => rfl) ?_
            refine y_gI (i := 0) (e := ((tl (σ (178 + x.toNat)).toNat).length : Int)) rfl rfl rfl ht3.1 rfl eln ?_
            refine y_ld (x := iv 1) rfl rfl (fun d => rfl) ?_
            refine y_ld (x := .int z) rfl rfl (fun d => rfl) ?_
            refine y_cV (as := [.ref 8, .ref (10 + 6 * x.toNat), iv ((tl (σ (178 + x.toNat)).toNat).length : Int), iv 1, .int z]) rfl rfl rfl rfl rfl (hC 8 _ _ rfl) ⟨rfl, (Nat.le_of_ble_eq_true rfl), (Nat.le_of_ble_eq_true rfl)⟩ (by decide) (ca_4_1 (V := V) (nb := ((x.toNat : Nat) : Int)) hC hXb hXa h3X hx8 (b1.2.1.trans hq) (b1.1 (by omega)) (fun V2 f1 f2 => ?_))
            refine y_nv ?_
            refine y_ret rfl (fun d => rfl) ?_
            have k2 := k1 (by omega) V2 f1 f2
            rw [hq, hy3] at k2
            exact k2
          · refine y_lv (l' := [(5, .ref t1), (4, .ref (10 + 6 * x.toNat)), (0, .ref 0), (1, iv x), (2, iv 2), (3, .int z)]) rfl ⟨rfl, rfl, rfl, rfl, congrArg (fun e => some (iv e)) hy3, rfl, trivial⟩ ?_
            refine y_ld (x := .ref 0) rfl rfl (fun d => rfl) ?_
            refine y_gR (i := 0) rfl rfl rfl (hC 0 _ _ rfl) rfl ?_
            refine y_gR (i := 13) rfl rfl rfl (hC 1 _ _ rfl) rfl ?_
            refine y_ld (x := .ref (10 + 6 * x.toNat)) rfl rfl (fun d => rfl) ?_
            refine y_ld (x := .ref t1) rfl rfl (fun d => rfl) ?_
            refine y_gI (i := 0) (e := ((tl (σ (178 + x.toNat)).toNat).length : Int)) rfl rfl rfl ht3.1 rfl eln ?_
            refine y_ld (x := iv 2) rfl rfl (fun d => rfl) ?_
            refine y_ld (x := .int z) rfl rfl (fun d => rfl) ?_
            refine y_cV (as := [.ref 8, .ref (10 + 6 * x.toNat), iv ((tl (σ (178 + x.toNat)).toNat).length : Int), iv 2, .int z]) rfl rfl rfl rfl rfl (hC 8 _ _ rfl) ⟨rfl, (Nat.le_of_ble_eq_true rfl), (Nat.le_of_ble_eq_true rfl)⟩ (by decide) (ca_4_2 (V := V) (nb := ((x.toNat : Nat) : Int)) hC hXb hXa h3X hx8 (b1.2.1.trans hq) (b1.1 (by omega)) (fun V2 f1 f2 => ?_))
            refine y_nv ?_
            refine y_ret rfl (fun d => rfl) ?_
            have k2 := k1 (by omega) V2 f1 f2
            rw [hq, hy3] at k2
            exact k2
        · rcases (show y = 0 ∨ y = 1 ∨ y = 2 by omega) with hy3 | hy3 | hy3
          · refine y_lv (l' := [(5, .ref t1), (4, .ref (10 + 6 * x.toNat)), (0, .ref 0), (1, iv x), (2, iv 0), (3, .int z)]) rfl ⟨rfl, rfl, rfl, rfl, congrArg (fun e => some (iv e)) hy3, rfl, trivial⟩ ?_
            refine y_ld (x := .ref 0) rfl rfl (fun d => rfl) ?_
            refine y_gR (i := 0) rfl rfl rfl (hC 0 _ _ rfl) rfl ?_
            refine y_gR (i := 13) rfl rfl rfl (hC 1 _ _ rfl) rfl ?_
            refine y_ld (x := .ref (10 + 6 * x.toNat)) rfl rfl (fun d => rfl) ?_
            refine y_ld (x := .ref t1) rfl rfl (fun d => rfl) ?_
            refine y_gI (i := 0) (e := ((tl (σ (178 + x.toNat)).toNat).length : Int)) rfl rfl rfl ht3.1 rfl eln ?_
            refine y_ld (x := iv 0) rfl rfl (fun d => rfl) ?_
            refine y_ld (x := .int z) rfl rfl (fun d => rfl) ?_
            refine y_cV (as := [.ref 8, .ref (10 + 6 * x.toNat), iv ((tl (σ (178 + x.toNat)).toNat).length : Int), iv 0, .int z]) rfl rfl rfl rfl rfl (hC 8 _ _ rfl) ⟨rfl, (Nat.le_of_ble_eq_true rfl), (Nat.le_of_ble_eq_true rfl)⟩ (by decide) (ca_5_0 (V := V) (nb := ((x.toNat : Nat) : Int)) hC hXb hXa h3X hx8 (b1.2.1.trans hq) (b1.1 (by omega)) (fun V2 f1 f2 => ?_))
            refine y_nv ?_
            refine y_ret rfl (fun d => rfl) ?_
            have k2 := k1 (by omega) V2 f1 f2
            rw [hq, hy3] at k2
            exact k2
          · refine y_lv (l' := [(5, .ref t1), (4, .ref (10 + 6 * x.toNat)), (0, .ref 0), (1, iv x), (2, iv 1), (3, .int z)]) rfl ⟨rfl, rfl, rfl, rfl, congrArg (fun e => some (iv e)) hy3, rfl, trivial⟩ ?_
            refine y_ld (x := .ref 0) rfl rfl (fun d => rfl) ?_
            refine y_gR (i := 0) rfl rfl rfl (hC 0 _ _ rfl) rfl ?_
            refine y_gR (i := 13) rfl rfl rfl (hC 1 _ _ rfl) rfl ?_
            refine y_ld (x := .ref (10 + 6 * x.toNat)) rfl rfl (fun d => rfl) ?_
            refine y_ld (x := .ref t1) rfl rfl (fun d => rfl) ?_
            refine y_gI (i := 0) (e := ((tl (σ (178 + x.toNat)).toNat).length : Int)) rfl rfl rfl ht3.1 rfl eln ?_
            refine y_ld (x := iv 1) rfl rfl (fun d => rfl) ?_
            refine y_ld (x := .int z) rfl rfl (fun d => rfl) ?_
            refine y_cV (as := [.ref 8, .ref (10 + 6 * x.toNat), iv ((tl (σ (178 + x.toNat)).toNat).length : Int), iv 1, .int z]) rfl rfl rfl rfl rfl (hC 8 _ _ rfl) ⟨rfl, (Nat.le_of_ble_eq_true rfl), (Nat.le_of_ble_eq_true rfl)⟩ (by decide) (ca_5_1 (V := V) (nb := ((x.toNat : Nat) : Int)) hC hXb hXa h3X hx8 (b1.2.1.trans hq) (b1.1 (by omega)) (fun V2 f1 f2 => ?_))
            refine y_nv ?_
            refine y_ret rfl (fun d => rfl) ?_
            have k2 := k1 (by omega) V2 f1 f2
            rw [hq, hy3] at k2
            exact k2
          · refine y_lv (l' := [(5, .ref t1), (4, .ref (10 + 6 * x.toNat)), (0, .ref 0), (1, iv x), (2, iv 2), (3, .int z)]) rfl ⟨rfl, rfl, rfl, rfl, congrArg (fun e => some (iv e)) hy3, rfl, trivial⟩ ?_
            refine y_ld (x := .ref 0) rfl rfl (fun d => rfl) ?_
            refine y_gR (i := 0) rfl rfl rfl (hC 0 _ _ rfl) rfl ?_
            refine y_gR (i := 13) rfl rfl rfl (hC 1 _ _ rfl) rfl ?_
            refine y_ld (x := .ref (10 + 6 * x.toNat)) rfl rfl (fun d => rfl) ?_
            refine y_ld (x := .ref t1) rfl rfl (fun d => rfl) ?_
            refine y_gI (i := 0) (e := ((tl (σ (178 + x.toNat)).toNat).length : Int)) rfl rfl rfl ht3.1 rfl eln ?_
            refine y_ld (x := iv 2) rfl rfl (fun d => rfl) ?_
            refine y_ld (x := .int z) rfl rfl (fun d => rfl) ?_
            refine y_cV (as := [.ref 8, .ref (10 + 6 * x.toNat), iv ((tl (σ (178 + x.toNat)).toNat).length : Int), iv 2, .int z]) rfl rfl rfl rfl rfl (hC 8 _ _ rfl) ⟨rfl, (Nat.le_of_ble_eq_true rfl), (Nat.le_of_ble_eq_true rfl)⟩ (by decide) (ca_5_2 (V := V) (nb := ((x.toNat : Nat) : Int)) hC hXb hXa h3X hx8 (b1.2.1.trans hq) (b1.1 (by omega)) (fun V2 f1 f2 => ?_))
            refine y_nv ?_
            refine y_ret rfl (fun d => rfl) ?_
            have k2 := k1 (by omega) V2 f1 f2
            rw [hq, hy3] at k2
            exact k2
        · rcases (show y = 0 ∨ y = 1 ∨ y = 2 by omega) with hy3 | hy3 | hy3
          · refine y_lv (l' := [(5, .ref t1), (4, .ref (10 + 6 * x.toNat)), (0, .ref 0), (1, iv x), (2, iv 0), (3, .int z)]) rfl ⟨rfl, rfl, rfl, rfl, congrArg (fun e => some (iv e)) hy3, rfl, trivial⟩ ?_
            refine y_ld (x := .ref 0) rfl rfl (fun d => rfl) ?_
            refine y_gR (i := 0) rfl rfl rfl (hC 0 _ _ rfl) rfl ?_
            refine y_gR (i := 13) rfl rfl rfl (hC 1 _ _ rfl) rfl ?_
            refine y_ld (x := .ref (10 + 6 * x.toNat)) rfl rfl (fun d => rfl) ?_
            refine y_ld (x := .ref t1) rfl rfl (fun d => rfl) ?_
            refine y_gI (i := 0) (e := ((tl (σ (178 + x.toNat)).toNat).length : Int)) rfl rfl rfl ht3.1 rfl eln ?_
            refine y_ld (x := iv 0) rfl rfl (fun d => rfl) ?_
            refine y_ld (x := .int z) rfl rfl (fun d => rfl) ?_
            refine y_cV (as := [.ref 8, .ref (10 + 6 * x.toNat), iv ((tl (σ (178 + x.toNat)).toNat).length : Int), iv 0, .int z]) rfl rfl rfl rfl rfl (hC 8 _ _ rfl) ⟨rfl, (Nat.le_of_ble_eq_true rfl), (Nat.le_of_ble_eq_true rfl)⟩ (by decide) (ca_6_0 (V := V) (nb := ((x.toNat : Nat) : Int)) hC hXb hXa h3X hx8 (b1.2.1.trans hq) (b1.1 (by omega)) (fun V2 f1 f2 => ?_))
            refine y_nv ?_
            refine y_ret rfl (fun d => rfl) ?_
            have k2 := k1 (by omega) V2 f1 f2
            rw [hq, hy3] at k2
            exact k2
          · refine y_lv (l' := [(5, .ref t1), (4, .ref (10 + 6 * x.toNat)), (0, .ref 0), (1, iv x), (2, iv 1), (3, .int z)]) rfl ⟨rfl, rfl, rfl, rfl, congrArg (fun e => some (iv e)) hy3, rfl, trivial⟩ ?_
            refine y_ld (x := .ref 0) rfl rfl (fun d => rfl) ?_
            refine y_gR (i := 0) rfl rfl rfl (hC 0 _ _ rfl) rfl ?_
            refine y_gR (i := 13) rfl rfl rfl (hC 1 _ _ rfl) rfl ?_
            refine y_ld (x := .ref (10 + 6 * x.toNat)) rfl rfl (fun d => rfl) ?_
            refine y_ld (x := .ref t1) rfl rfl (fun d => rfl) ?_
            refine y_gI (i := 0) (e := ((tl (σ (178 + x.toNat)).toNat).length : Int)) rfl rfl rfl ht3.1 rfl eln ?_
            refine y_ld (x := iv 1) rfl rfl (fun d => rfl) ?_
            refine y_ld (x := .int z) rfl rfl (fun d => rfl) ?_
            refine y_cV (as := [.ref 8, .ref (10 + 6 * x.toNat), iv ((tl (σ (178 + x.toNat)).toNat).length : Int), iv 1, .int z]) rfl rfl rfl rfl rfl (hC 8 _ _ rfl) ⟨rfl, (Nat.le_of_ble_eq_true rfl), (Nat.le_of_ble_eq_true rfl)⟩ (by decide) (ca_6_1 (V := V) (nb := ((x.toNat : Nat) : Int)) hC hXb hXa h3X hx8 (b1.2.1.trans hq) (b1.1 (by omega)) (fun V2 f1 f2 => ?_))
            refine y_nv ?_
            refine y_ret rfl (fun d => rfl) ?_
            have k2 := k1 (by omega) V2 f1 f2
            rw [hq, hy3] at k2
            exact k2
          · refine y_lv (l' := [(5, .ref t1), (4, .ref (10 + 6 * x.toNat)), (0, .ref 0), (1, iv x), (2, iv 2), (3, .int z)]) rfl ⟨rfl, rfl, rfl, rfl, congrArg (fun e => some (iv e)) hy3, rfl, trivial⟩ ?_
            refine y_ld (x := .ref 0) rfl rfl (fun d => rfl) ?_
            refine y_gR (i := 0) rfl rfl rfl (hC 0 _ _ rfl) rfl ?_
            refine y_gR (i := 13) rfl rfl rfl (hC 1 _ _ rfl) rfl ?_
            refine y_ld (x := .ref (10 + 6 * x.toNat)) rfl rfl (fun d => rfl) ?_
            refine y_ld (x := .ref t1) rfl rfl (fun d => rfl) ?_
            refine y_gI (i := 0) (e := ((tl (σ (178 + x.toNat)).toNat).length : Int)) rfl rfl rfl ht3.1 rfl eln ?_
            refine y_ld (x := iv 2) rfl rfl (fun d => rfl) ?_
            refine y_ld (x := .int z) rfl rfl (fun d => rfl) ?_
            refine y_cV (as := [.ref 8, .ref (10 + 6 * x.toNat), iv ((tl (σ (178 + x.toNat)).toNat).length : Int), iv 2, .int z]) rfl rfl rfl rfl rfl (hC 8 _ _ rfl) ⟨rfl, (Nat.le_of_ble_eq_true rfl), (Nat.le_of_ble_eq_true rfl)⟩ (by decide) (ca_6_2 (V := V) (nb := ((x.toNat : Nat) : Int)) hC hXb hXa h3X hx8 (b1.2.1.trans hq) (b1.1 (by omega)) (fun V2 f1 f2 => ?_))
            refine y_nv ?_
            refine y_ret rfl (fun d => rfl) ?_
            have k2 := k1 (by omega) V2 f1 f2
            rw [hq, hy3] at k2
            exact k2
      · refine y_ic rfl rfl ?_
        refine y_rI rfl (Or.inl rfl) ?_
        exact k0 (by omega)
set_option maxRecDepth 100000 in
set_option maxHeartbeats 4000000 in
theorem ms_act (hM : MdS S) {tl : Nat → List p_Li} {cnt : Nat} (hSO : SO cnt (V 171)) (hTO : ∀ i : Nat, (i : Int) < V 171 0 → TO (tl i)) (hMTs : ∀ i : Nat, (i : Int) < V 171 0 → MT V i (tl i)) {x : Int} (hx : (-2147483648 ≤ x ∧ x < 2147483648)) {y : Int} (hy : (-2147483648 ≤ y ∧ y < 2147483648)) {z : Int32} (k0 : ¬ ((0 ≤ x ∧ x < V 171 1) ∧ (0 ≤ y ∧ y ≤ 2)) → K u w (some (iv 0)) S (v_up V 170 40 0)) (k1 : ((0 ≤ x ∧ x < V 171 1) ∧ (0 ≤ y ∧ y ≤ 2)) → ∀ V2, (∀ k, k ≠ 170 → k ≠ 192 → V2 k = V k) → (∀ i, i < 40 → V2 170 i = V 170 i) → 0 ≤ V2 170 40 ∧ V2 170 40 ≤ 20 → K u w (some (.int (acV (V 171 (170 + x.toNat)).toNat y.toNat z ((x.toNat : Nat) : Int) ((tl (V 171 (178 + x.toNat)).toNat).length : Int)))) S V2) : y_R X 13 173 u w [.ref 170, iv x, iv y, .int z] S V K := by
  have hsz := hSO.1
  have hB : 0 ≤ V 171 1 ∧ V 171 1 ≤ 8 := by omega
  refine y_ent (lv' := [(0, .ref 170), (1, iv x), (2, iv y), (3, .int z)]) (Nat.le_of_ble_eq_true rfl) rfl ?_
  refine y_ld (x := .ref 170) rfl rfl (fun d => rfl) ?_
  refine y_ic rfl rfl ?_
  refine y_pI (i := 40) rfl rfl rfl (md170 hM) rfl rfl ?_
  refine y_ld (x := .ref 170) rfl rfl (fun d => rfl) ?_
  refine y_ld (x := iv x) rfl rfl (fun d => rfl) ?_
  refine y_cV (as := [.ref 170, iv x]) rfl rfl rfl rfl rfl (md170 hM) ⟨rfl, (Nat.le_of_ble_eq_true rfl), (Nat.le_of_ble_eq_true rfl)⟩ (by decide) (ct_isBox (n := V 171 1) hM (by omega) ⟨rfl, by omega⟩ ?_)
  refine y_nv ?_
  refine y_beq rfl rfl rfl (fun g1 => ?_) (fun g1 => ?_)
  · refine y_ic rfl rfl ?_
    refine y_rI rfl (Or.inl rfl) ?_
    exact k0 (by omega)
  · refine y_ld (x := iv y) rfl rfl (fun d => rfl) ?_
    refine y_ic rfl rfl ?_
    refine y_ic rfl rfl ?_
    refine y_cS (as := [iv y, iv 0, iv 2]) rfl (by decide) rfl rfl rfl rfl ⟨(Nat.le_of_ble_eq_true rfl), (Nat.le_of_ble_eq_true rfl)⟩ (by decide) (ct_in (by omega) ?_)
    refine y_nv ?_
    refine y_bne rfl rfl rfl (fun g2 => ?_) (fun g2 => ?_)
    · have hx8 : x.toNat < 8 := by omega
      have hkd := (hSO.2.2.1 x.toNat hx8).1
      have htx := (hSO.2.2.1 x.toNat hx8).2.1
      have hty := htx.2.2 (by omega)
      have hM2 := (hMTs (V 171 (178 + x.toNat)).toNat (by omega)).2.2.1
      rcases (show V 171 (170 + x.toNat) = 0 ∨ V 171 (170 + x.toNat) = 1 ∨ V 171 (170 + x.toNat) = 2 ∨ V 171 (170 + x.toNat) = 3 ∨ V 171 (170 + x.toNat) = 4 ∨ V 171 (170 + x.toNat) = 5 ∨ V 171 (170 + x.toNat) = 6 by omega) with hq | hq | hq | hq | hq | hq | hq
      · rcases (show y = 0 ∨ y = 1 ∨ y = 2 by omega) with hy3 | hy3 | hy3
        · refine y_lv (l' := [(0, .ref 170), (1, iv ((x.toNat : Nat) : Int)), (2, iv 0), (3, .int z)]) rfl ⟨rfl, congrArg (fun e => some (iv e)) (by omega), congrArg (fun e => some (iv e)) hy3, rfl, trivial⟩ ?_
          refine y_ld (x := .ref 170) rfl rfl (fun d => rfl) ?_
          refine y_ld (x := .ref 170) rfl rfl (fun d => rfl) ?_
          refine y_gR (i := 1) rfl rfl rfl (md170 hM) rfl ?_
          refine y_si rfl rfl (by decide) ?_
          refine y_ld (x := iv ((x.toNat : Nat) : Int)) rfl rfl (fun d => rfl) ?_
          refine y_add (z := (170 + ((x.toNat : Nat) : Int))) rfl rfl rfl ?_
          refine y_ild (x := 0) (q := (170 + x.toNat)) rfl rfl (md171 hM) (by omega) (by decide) (by omega) hq ?_
          refine y_pI (i := 41) rfl rfl rfl (md170 hM) rfl rfl ?_
          refine y_ld (x := .ref 170) rfl rfl (fun d => rfl) ?_
          refine y_ld (x := iv ((x.toNat : Nat) : Int)) rfl rfl (fun d => rfl) ?_
          refine y_pI (i := 42) rfl rfl rfl (md170 hM) rfl rfl ?_
          refine y_ld (x := .ref 170) rfl rfl (fun d => rfl) ?_
          refine y_ld (x := .ref 170) rfl rfl (fun d => rfl) ?_
          refine y_gR (i := 6) rfl rfl rfl (md170 hM) rfl ?_
          refine y_ld (x := .ref 170) rfl rfl (fun d => rfl) ?_
          refine y_gR (i := 1) rfl rfl rfl (md170 hM) rfl ?_
          refine y_si rfl rfl (by decide) ?_
          refine y_ld (x := iv ((x.toNat : Nat) : Int)) rfl rfl (fun d => rfl) ?_
          refine y_add (z := (178 + ((x.toNat : Nat) : Int))) rfl rfl rfl ?_
          refine y_ild (x := (((V 171 (178 + x.toNat)).toNat : Nat) : Int)) (q := (178 + x.toNat)) rfl rfl (md171 hM) (by omega) (by decide) (by omega) (by rw [v_up_ne (by decide), v_up_ne (by decide), v_up_ne (by decide)]; omega) ?_
          refine y_ild (x := ((tl (V 171 (178 + x.toNat)).toNat).length : Int)) (q := ((V 171 (178 + x.toNat)).toNat)) rfl rfl (md175 hM) (by omega) (by decide) (by omega) hM2 ?_
          refine y_pI (i := 43) rfl rfl rfl (md170 hM) rfl rfl ?_
          refine y_ld (x := iv 0) rfl rfl (fun d => rfl) ?_
          refine y_zne rfl rfl rfl (by decide) (fun g3 => absurd g3 (by decide)) (fun g3 => ?_)
          refine y_ld (x := .ref 170) rfl rfl (fun d => rfl) ?_
          refine y_ld (x := .int z) rfl rfl (fun d => rfl) ?_
          refine y_cV (D' := 12) (as := [.ref 170, .int z]) rfl rfl rfl rfl rfl (md170 hM) ⟨rfl, (Nat.le_of_ble_eq_true rfl), (Nat.le_of_ble_eq_true rfl)⟩ (by decide) ?_
          refine y_ent (lv' := [(0, .ref 170), (1, .int z)]) (Nat.le_of_ble_eq_true rfl) rfl ?_
          refine y_ld (x := .ref 170) rfl rfl (fun d => rfl) ?_
          refine y_gI (i := 41) (e := 0) rfl rfl rfl (md170 hM) rfl rfl ?_
          refine y_ic rfl rfl ?_
          refine y_jne rfl rfl rfl (by decide) (fun g4 => ?_) (fun g4 => absurd g4 (by decide))
          refine y_ld (x := .ref 170) rfl rfl (fun d => rfl) ?_
          refine y_gI (i := 41) (e := 0) rfl rfl rfl (md170 hM) rfl rfl ?_
          refine y_bi rfl rfl (by decide) ?_
          refine y_jne rfl rfl rfl (by decide) (fun g5 => ?_) (fun g5 => absurd g5 (by decide))
          refine y_ld (x := .ref 170) rfl rfl (fun d => rfl) ?_
          refine y_ld (x := .int z) rfl rfl (fun d => rfl) ?_
          refine y_cV (D' := 11) (as := [.ref 170, .int z]) rfl rfl rfl rfl rfl (md170 hM) ⟨rfl, (Nat.le_of_ble_eq_true rfl), (Nat.le_of_ble_eq_true rfl)⟩ (by decide) ?_
          refine y_ent (lv' := [(0, .ref 170), (1, .int z)]) (Nat.le_of_ble_eq_true rfl) rfl ?_
          refine y_ld (x := .ref 170) rfl rfl (fun d => rfl) ?_
          refine y_ic rfl rfl ?_
          refine y_cV (D' := 10) (as := [.ref 170, iv 1]) rfl rfl rfl rfl rfl (md170 hM) ⟨rfl, (Nat.le_of_ble_eq_true rfl), (Nat.le_of_ble_eq_true rfl)⟩ (by decide) ?_
          refine y_ent (lv' := [(0, .ref 170), (1, iv 1)]) (Nat.le_of_ble_eq_true rfl) rfl ?_
          refine y_ld (x := .ref 170) rfl rfl (fun d => rfl) ?_
          refine y_gI (i := 40) (e := 0) rfl rfl rfl (md170 hM) rfl rfl ?_
          refine y_bi rfl rfl (by decide) ?_
          refine y_jge rfl rfl rfl (by decide) (fun g6 => absurd g6 (by decide)) (fun g6 => ?_)
          refine y_ld (x := .ref 170) rfl rfl (fun d => rfl) ?_
          refine y_gR (i := 39) rfl rfl rfl (md170 hM) rfl ?_
          refine y_ld (x := .ref 170) rfl rfl (fun d => rfl) ?_
          refine y_gI (i := 40) (e := 0) rfl rfl rfl (md170 hM) rfl rfl ?_
          refine y_ld (x := iv 1) rfl rfl (fun d => rfl) ?_
          refine y_ist (q := 0) rfl rfl (md192 hM) (by decide) (by decide) rfl ?_
          refine y_ld (x := .ref 170) rfl rfl (fun d => rfl) ?_
          refine y_in rfl rfl (fun d => rfl) ?_
          refine y_gI (i := 40) (e := 0) rfl rfl rfl (md170 hM) rfl rfl ?_
          refine y_ic rfl rfl ?_
          refine y_add (z := 1) rfl rfl rfl ?_
          refine y_pI (i := 40) rfl rfl rfl (md170 hM) rfl rfl ?_
          refine y_ret rfl (fun d => rfl) ?_
          refine y_n0 ?_
          refine y_ld (x := .int z) rfl rfl (fun d => rfl) ?_
          refine y_ld (x := .ref 170) rfl rfl (fun d => rfl) ?_
          refine y_gI (i := 42) (e := ((x.toNat : Nat) : Int)) rfl rfl rfl (md170 hM) rfl rfl ?_
          refine y_in rfl rfl (fun d => rfl) ?_
          refine y_ret rfl (fun d => rfl) ?_
          refine y_nv ?_
          refine y_ret rfl (fun d => rfl) ?_
          refine y_nv ?_
          refine y_go rfl rfl ?_
          refine y_ret rfl (fun d => rfl) ?_
          have k2 := k1 (by omega)
          rw [hq, hy3] at k2
          exact k2 _ (fun k h8 h9 => by rw [v_up_ne h8, v_up_ne h9, v_up_ne h8, v_up_ne h8, v_up_ne h8, v_up_ne h8]) (fun i hi => by rw [v_up_ni (by omega), v_up_ne (by decide), v_up_ni (by omega), v_up_ni (by omega), v_up_ni (by omega), v_up_ni (by omega)]) ⟨by show (0 : Int) ≤ 1; decide, by show (1 : Int) ≤ 20; decide⟩
        · refine y_lv (l' := [(0, .ref 170), (1, iv ((x.toNat : Nat) : Int)), (2, iv 1), (3, .int z)]) rfl ⟨rfl, congrArg (fun e => some (iv e)) (by omega), congrArg (fun e => some (iv e)) hy3, rfl, trivial⟩ ?_
          refine y_ld (x := .ref 170) rfl rfl (fun d => rfl) ?_
          refine y_ld (x := .ref 170) rfl rfl (fun d => rfl) ?_
          refine y_gR (i := 1) rfl rfl rfl (md170 hM) rfl ?_
          refine y_si rfl rfl (by decide) ?_
          refine y_ld (x := iv ((x.toNat : Nat) : Int)) rfl rfl (fun d => rfl) ?_
          refine y_add (z := (170 + ((x.toNat : Nat) : Int))) rfl rfl rfl ?_
          refine y_ild (x := 0) (q := (170 + x.toNat)) rfl rfl (md171 hM) (by omega) (by decide) (by omega) hq ?_
          refine y_pI (i := 41) rfl rfl rfl (md170 hM) rfl rfl ?_
          refine y_ld (x := .ref 170) rfl rfl (fun d => rfl) ?_
          refine y_ld (x := iv ((x.toNat : Nat) : Int)) rfl rfl (fun d => rfl) ?_
          refine y_pI (i := 42) rfl rfl rfl (md170 hM) rfl rfl ?_
          refine y_ld (x := .ref 170) rfl rfl (fun d => rfl) ?_
          refine y_ld (x := .ref 170) rfl rfl (fun d => rfl) ?_
          refine y_gR (i := 6) rfl rfl rfl (md170 hM) rfl ?_
          refine y_ld (x := .ref 170) rfl rfl (fun d => rfl) ?_
          refine y_gR (i := 1) rfl rfl rfl (md170 hM) rfl ?_
          refine y_si rfl rfl (by decide) ?_
          refine y_ld (x := iv ((x.toNat : Nat) : Int)) rfl rfl (fun d => rfl) ?_
          refine y_add (z := (178 + ((x.toNat : Nat) : Int))) rfl rfl rfl ?_
          refine y_ild (x := (((V 171 (178 + x.toNat)).toNat : Nat) : Int)) (q := (178 + x.toNat)) rfl rfl (md171 hM) (by omega) (by decide) (by omega) (by rw [v_up_ne (by decide), v_up_ne (by decide), v_up_ne (by decide)]; omega) ?_
          refine y_ild (x := ((tl (V 171 (178 + x.toNat)).toNat).length : Int)) (q := ((V 171 (178 + x.toNat)).toNat)) rfl rfl (md175 hM) (by omega) (by decide) (by omega) hM2 ?_
          refine y_pI (i := 43) rfl rfl rfl (md170 hM) rfl rfl ?_
          refine y_ld (x := iv 1) rfl rfl (fun d => rfl) ?_
          refine y_zne rfl rfl rfl (by decide) (fun g7 => ?_) (fun g7 => absurd g7 (by decide))
          refine y_ld (x := iv 1) rfl rfl (fun d => rfl) ?_
          refine y_ic rfl rfl ?_
          refine y_jne rfl rfl rfl (by decide) (fun g8 => absurd g8 (by decide)) (fun g8 => ?_)
          refine y_ld (x := .ref 170) rfl rfl (fun d => rfl) ?_
          refine y_ld (x := .int z) rfl rfl (fun d => rfl) ?_
          refine y_cV (D' := 12) (as := [.ref 170, .int z]) rfl rfl rfl rfl rfl (md170 hM) ⟨rfl, (Nat.le_of_ble_eq_true rfl), (Nat.le_of_ble_eq_true rfl)⟩ (by decide) ?_
          refine y_ent (lv' := [(0, .ref 170), (1, .int z)]) (Nat.le_of_ble_eq_true rfl) rfl ?_
          refine y_ld (x := .ref 170) rfl rfl (fun d => rfl) ?_
          refine y_gI (i := 41) (e := 0) rfl rfl rfl (md170 hM) rfl rfl ?_
          refine y_ic rfl rfl ?_
          refine y_jne rfl rfl rfl (by decide) (fun g9 => ?_) (fun g9 => absurd g9 (by decide))
          refine y_ld (x := .ref 170) rfl rfl (fun d => rfl) ?_
          refine y_gI (i := 41) (e := 0) rfl rfl rfl (md170 hM) rfl rfl ?_
          refine y_ic rfl rfl ?_
          refine y_cS (D' := 11) (as := [iv 0, iv 1]) rfl (by decide) rfl rfl rfl rfl ⟨(Nat.le_of_ble_eq_true rfl), (Nat.le_of_ble_eq_true rfl)⟩ (by decide) ?_
          refine y_ent (lv' := [(0, iv 0), (1, iv 1)]) (Nat.le_of_ble_eq_true rfl) rfl ?_
          refine y_ld (x := iv 1) rfl rfl (fun d => rfl) ?_
          refine y_zeq rfl rfl rfl (by decide) (fun g10 => absurd g10 (by decide)) (fun g10 => ?_)
          refine y_ld (x := iv 1) rfl rfl (fun d => rfl) ?_
          refine y_ld (x := iv 0) rfl rfl (fun d => rfl) ?_
          refine y_jeq rfl rfl rfl (by decide) (fun g11 => absurd g11 (by decide)) (fun g11 => ?_)
          refine y_ld (x := iv 1) rfl rfl (fun d => rfl) ?_
          refine y_ic rfl rfl ?_
          refine y_jne rfl rfl rfl (by decide) (fun g12 => absurd g12 (by decide)) (fun g12 => ?_)
          refine y_ld (x := iv 0) rfl rfl (fun d => rfl) ?_
          refine y_ic rfl rfl ?_
          refine y_jeq rfl rfl rfl (by decide) (fun g13 => absurd g13 (by decide)) (fun g13 => ?_)
          refine y_ld (x := iv 1) rfl rfl (fun d => rfl) ?_
          refine y_ic rfl rfl ?_
          refine y_jne rfl rfl rfl (by decide) (fun g14 => ?_) (fun g14 => absurd g14 (by decide))
          refine y_ic rfl rfl ?_
          refine y_rI rfl (by decide) ?_
          refine y_nv ?_
          refine y_zeq rfl rfl rfl (by decide) (fun g15 => ?_) (fun g15 => absurd g15 (by decide))
          refine y_ld (x := .ref 170) rfl rfl (fun d => rfl) ?_
          refine y_ld (x := .int z) rfl rfl (fun d => rfl) ?_
          refine y_cV (D' := 11) (as := [.ref 170, .int z]) rfl rfl rfl rfl rfl (md170 hM) ⟨rfl, (Nat.le_of_ble_eq_true rfl), (Nat.le_of_ble_eq_true rfl)⟩ (by decide) ?_
          refine y_ent (lv' := [(0, .ref 170), (1, .int z)]) (Nat.le_of_ble_eq_true rfl) rfl ?_
          refine y_ld (x := .ref 170) rfl rfl (fun d => rfl) ?_
          refine y_ic rfl rfl ?_
          refine y_cV (D' := 10) (as := [.ref 170, iv 2]) rfl rfl rfl rfl rfl (md170 hM) ⟨rfl, (Nat.le_of_ble_eq_true rfl), (Nat.le_of_ble_eq_true rfl)⟩ (by decide) ?_
          refine y_ent (lv' := [(0, .ref 170), (1, iv 2)]) (Nat.le_of_ble_eq_true rfl) rfl ?_
          refine y_ld (x := .ref 170) rfl rfl (fun d => rfl) ?_
          refine y_gI (i := 40) (e := 0) rfl rfl rfl (md170 hM) rfl rfl ?_
          refine y_bi rfl rfl (by decide) ?_
          refine y_jge rfl rfl rfl (by decide) (fun g16 => absurd g16 (by decide)) (fun g16 => ?_)
          refine y_ld (x := .ref 170) rfl rfl (fun d => rfl) ?_
          refine y_gR (i := 39) rfl rfl rfl (md170 hM) rfl ?_
          refine y_ld (x := .ref 170) rfl rfl (fun d => rfl) ?_
          refine y_gI (i := 40) (e := 0) rfl rfl rfl (md170 hM) rfl rfl ?_
          refine y_ld (x := iv 2) rfl rfl (fun d => rfl) ?_
          refine y_ist (q := 0) rfl rfl (md192 hM) (by decide) (by decide) rfl ?_
          refine y_ld (x := .ref 170) rfl rfl (fun d => rfl) ?_
          refine y_in rfl rfl (fun d => rfl) ?_
          refine y_gI (i := 40) (e := 0) rfl rfl rfl (md170 hM) rfl rfl ?_
          refine y_ic rfl rfl ?_
          refine y_add (z := 1) rfl rfl rfl ?_
          refine y_pI (i := 40) rfl rfl rfl (md170 hM) rfl rfl ?_
          refine y_ret rfl (fun d => rfl) ?_
          refine y_n0 ?_
          refine y_ld (x := .ref 170) rfl rfl (fun d => rfl) ?_
          refine y_ld (x := .int z) rfl rfl (fun d => rfl) ?_
          refine y_cV (D' := 10) (as := [.ref 170, .int z]) rfl rfl rfl rfl rfl (md170 hM) ⟨rfl, (Nat.le_of_ble_eq_true rfl), (Nat.le_of_ble_eq_true rfl)⟩ (by decide) ?_
          refine y_ent (lv' := [(0, .ref 170), (1, .int z)]) (Nat.le_of_ble_eq_true rfl) rfl ?_
          refine y_ld (x := .ref 170) rfl rfl (fun d => rfl) ?_
          refine y_gI (i := 41) (e := 0) rfl rfl rfl (md170 hM) rfl rfl ?_
          refine y_ic rfl rfl ?_
          refine y_jne rfl rfl rfl (by decide) (fun g17 => ?_) (fun g17 => absurd g17 (by decide))
          refine y_ld (x := .ref 170) rfl rfl (fun d => rfl) ?_
          refine y_gI (i := 41) (e := 0) rfl rfl rfl (md170 hM) rfl rfl ?_
          refine y_bi rfl rfl (by decide) ?_
          refine y_jne rfl rfl rfl (by decide) (fun g18 => ?_) (fun g18 => absurd g18 (by decide))
          refine y_ld (x := .ref 170) rfl rfl (fun d => rfl) ?_
          refine y_ld (x := .int z) rfl rfl (fun d => rfl) ?_
          refine y_cV (D' := 9) (as := [.ref 170, .int z]) rfl rfl rfl rfl rfl (md170 hM) ⟨rfl, (Nat.le_of_ble_eq_true rfl), (Nat.le_of_ble_eq_true rfl)⟩ (by decide) ?_
          refine y_ent (lv' := [(0, .ref 170), (1, .int z)]) (Nat.le_of_ble_eq_true rfl) rfl ?_
          refine y_ld (x := .ref 170) rfl rfl (fun d => rfl) ?_
          refine y_ic rfl rfl ?_
          refine y_cV (D' := 8) (as := [.ref 170, iv 1]) rfl rfl rfl rfl rfl (md170 hM) ⟨rfl, (Nat.le_of_ble_eq_true rfl), (Nat.le_of_ble_eq_true rfl)⟩ (by decide) ?_
          refine y_ent (lv' := [(0, .ref 170), (1, iv 1)]) (Nat.le_of_ble_eq_true rfl) rfl ?_
          refine y_ld (x := .ref 170) rfl rfl (fun d => rfl) ?_
          refine y_gI (i := 40) (e := 1) rfl rfl rfl (md170 hM) rfl rfl ?_
          refine y_bi rfl rfl (by decide) ?_
          refine y_jge rfl rfl rfl (by decide) (fun g19 => absurd g19 (by decide)) (fun g19 => ?_)
          refine y_ld (x := .ref 170) rfl rfl (fun d => rfl) ?_
          refine y_gR (i := 39) rfl rfl rfl (md170 hM) rfl ?_
          refine y_ld (x := .ref 170) rfl rfl (fun d => rfl) ?_
          refine y_gI (i := 40) (e := 1) rfl rfl rfl (md170 hM) rfl rfl ?_
          refine y_ld (x := iv 1) rfl rfl (fun d => rfl) ?_
          refine y_ist (q := 1) rfl rfl (md192 hM) (by decide) (by decide) rfl ?_
          refine y_ld (x := .ref 170) rfl rfl (fun d => rfl) ?_
          refine y_in rfl rfl (fun d => rfl) ?_
          refine y_gI (i := 40) (e := 1) rfl rfl rfl (md170 hM) rfl rfl ?_
          refine y_ic rfl rfl ?_
          refine y_add (z := 2) rfl rfl rfl ?_
          refine y_pI (i := 40) rfl rfl rfl (md170 hM) rfl rfl ?_
          refine y_ret rfl (fun d => rfl) ?_
          refine y_n0 ?_
          refine y_ld (x := .int z) rfl rfl (fun d => rfl) ?_
          refine y_ld (x := .ref 170) rfl rfl (fun d => rfl) ?_
          refine y_gI (i := 42) (e := ((x.toNat : Nat) : Int)) rfl rfl rfl (md170 hM) rfl rfl ?_
          refine y_in rfl rfl (fun d => rfl) ?_
          refine y_ret rfl (fun d => rfl) ?_
          refine y_nv ?_
          refine y_ret rfl (fun d => rfl) ?_
          refine y_nv ?_
          refine y_ld (x := .ref 170) rfl rfl (fun d => rfl) ?_
          refine y_gI (i := 43) (e := ((tl (V 171 (178 + x.toNat)).toNat).length : Int)) rfl rfl rfl (md170 hM) rfl rfl ?_
          refine y_in rfl rfl (fun d => rfl) ?_
          refine y_ret rfl (fun d => rfl) ?_
          refine y_nv ?_
          refine y_ret rfl (fun d => rfl) ?_
          refine y_nv ?_
          refine y_go rfl rfl ?_
          refine y_ret rfl (fun d => rfl) ?_
          have k2 := k1 (by omega)
          rw [hq, hy3] at k2
          exact k2 _ (fun k h8 h9 => by rw [v_up_ne h8, v_up_ne h9, v_up_ne h8, v_up_ne h9, v_up_ne h8, v_up_ne h8, v_up_ne h8, v_up_ne h8]) (fun i hi => by rw [v_up_ni (by omega), v_up_ne (by decide), v_up_ni (by omega), v_up_ne (by decide), v_up_ni (by omega), v_up_ni (by omega), v_up_ni (by omega), v_up_ni (by omega)]) ⟨by show (0 : Int) ≤ 2; decide, by show (2 : Int) ≤ 20; decide⟩
        · refine y_lv (l' := [(0, .ref 170), (1, iv ((x.toNat : Nat) : Int)), (2, iv 2), (3, .int z)]) rfl ⟨rfl, congrArg (fun e => some (iv e)) (by omega), congrArg (fun e => some (iv e)) hy3, rfl, trivial⟩ ?_
          refine y_ld (x := .ref 170) rfl rfl (fun d => rfl) ?_
          refine y_ld (x := .ref 170) rfl rfl (fun d => rfl) ?_
          refine y_gR (i := 1) rfl rfl rfl (md170 hM) rfl ?_
          refine y_si rfl rfl (by decide) ?_
          refine y_ld (x := iv ((x.toNat : Nat) : Int)) rfl rfl (fun d => rfl) ?_
          refine y_add (z := (170 + ((x.toNat : Nat) : Int))) rfl rfl rfl ?_
          refine y_ild (x := 0) (q := (170 + x.toNat)) rfl rfl (md171 hM) (by omega) (by decide) (by omega) hq ?_
          refine y_pI (i := 41) rfl rfl rfl (md170 hM) rfl rfl ?_
          refine y_ld (x := .ref 170) rfl rfl (fun d => rfl) ?_
          refine y_ld (x := iv ((x.toNat : Nat) : Int)) rfl rfl (fun d => rfl) ?_
          refine y_pI (i := 42) rfl rfl rfl (md170 hM) rfl rfl ?_
          refine y_ld (x := .ref 170) rfl rfl (fun d => rfl) ?_
          refine y_ld (x := .ref 170) rfl rfl (fun d => rfl) ?_
          refine y_gR (i := 6) rfl rfl rfl (md170 hM) rfl ?_
          refine y_ld (x := .ref 170) rfl rfl (fun d => rfl) ?_
          refine y_gR (i := 1) rfl rfl rfl (md170 hM) rfl ?_
          refine y_si rfl rfl (by decide) ?_
          refine y_ld (x := iv ((x.toNat : Nat) : Int)) rfl rfl (fun d => rfl) ?_
          refine y_add (z := (178 + ((x.toNat : Nat) : Int))) rfl rfl rfl ?_
          refine y_ild (x := (((V 171 (178 + x.toNat)).toNat : Nat) : Int)) (q := (178 + x.toNat)) rfl rfl (md171 hM) (by omega) (by decide) (by omega) (by rw [v_up_ne (by decide), v_up_ne (by decide), v_up_ne (by decide)]; omega) ?_
          refine y_ild (x := ((tl (V 171 (178 + x.toNat)).toNat).length : Int)) (q := ((V 171 (178 + x.toNat)).toNat)) rfl rfl (md175 hM) (by omega) (by decide) (by omega) hM2 ?_
          refine y_pI (i := 43) rfl rfl rfl (md170 hM) rfl rfl ?_
          refine y_ld (x := iv 2) rfl rfl (fun d => rfl) ?_
          refine y_zne rfl rfl rfl (by decide) (fun g20 => ?_) (fun g20 => absurd g20 (by decide))
          refine y_ld (x := iv 2) rfl rfl (fun d => rfl) ?_
          refine y_ic rfl rfl ?_
          refine y_jne rfl rfl rfl (by decide) (fun g21 => ?_) (fun g21 => absurd g21 (by decide))
          refine y_ld (x := .ref 170) rfl rfl (fun d => rfl) ?_
          refine y_ld (x := .int z) rfl rfl (fun d => rfl) ?_
          refine y_cV (D' := 12) (as := [.ref 170, .int z]) rfl rfl rfl rfl rfl (md170 hM) ⟨rfl, (Nat.le_of_ble_eq_true rfl), (Nat.le_of_ble_eq_true rfl)⟩ (by decide) ?_
          refine y_ent (lv' := [(0, .ref 170), (1, .int z)]) (Nat.le_of_ble_eq_true rfl) rfl ?_
          refine y_ld (x := .ref 170) rfl rfl (fun d => rfl) ?_
          refine y_gI (i := 41) (e := 0) rfl rfl rfl (md170 hM) rfl rfl ?_
          refine y_ic rfl rfl ?_
          refine y_jne rfl rfl rfl (by decide) (fun g22 => ?_) (fun g22 => absurd g22 (by decide))
          refine y_ld (x := .ref 170) rfl rfl (fun d => rfl) ?_
          refine y_gI (i := 41) (e := 0) rfl rfl rfl (md170 hM) rfl rfl ?_
          refine y_ic rfl rfl ?_
          refine y_cS (D' := 11) (as := [iv 0, iv 3]) rfl (by decide) rfl rfl rfl rfl ⟨(Nat.le_of_ble_eq_true rfl), (Nat.le_of_ble_eq_true rfl)⟩ (by decide) ?_
          refine y_ent (lv' := [(0, iv 0), (1, iv 3)]) (Nat.le_of_ble_eq_true rfl) rfl ?_
          refine y_ld (x := iv 3) rfl rfl (fun d => rfl) ?_
          refine y_zeq rfl rfl rfl (by decide) (fun g23 => absurd g23 (by decide)) (fun g23 => ?_)
          refine y_ld (x := iv 3) rfl rfl (fun d => rfl) ?_
          refine y_ld (x := iv 0) rfl rfl (fun d => rfl) ?_
          refine y_jeq rfl rfl rfl (by decide) (fun g24 => absurd g24 (by decide)) (fun g24 => ?_)
          refine y_ld (x := iv 3) rfl rfl (fun d => rfl) ?_
          refine y_ic rfl rfl ?_
          refine y_jne rfl rfl rfl (by decide) (fun g25 => ?_) (fun g25 => absurd g25 (by decide))
          refine y_ld (x := iv 3) rfl rfl (fun d => rfl) ?_
          refine y_ic rfl rfl ?_
          refine y_jne rfl rfl rfl (by decide) (fun g26 => absurd g26 (by decide)) (fun g26 => ?_)
          refine y_ld (x := iv 0) rfl rfl (fun d => rfl) ?_
          refine y_ic rfl rfl ?_
          refine y_jne rfl rfl rfl (by decide) (fun g27 => ?_) (fun g27 => absurd g27 (by decide))
          refine y_ic rfl rfl ?_
          refine y_rI rfl (by decide) ?_
          refine y_nv ?_
          refine y_zeq rfl rfl rfl (by decide) (fun g28 => ?_) (fun g28 => absurd g28 (by decide))
          refine y_ld (x := .ref 170) rfl rfl (fun d => rfl) ?_
          refine y_ld (x := .int z) rfl rfl (fun d => rfl) ?_
          refine y_cV (D' := 11) (as := [.ref 170, .int z]) rfl rfl rfl rfl rfl (md170 hM) ⟨rfl, (Nat.le_of_ble_eq_true rfl), (Nat.le_of_ble_eq_true rfl)⟩ (by decide) ?_
          refine y_ent (lv' := [(0, .ref 170), (1, .int z)]) (Nat.le_of_ble_eq_true rfl) rfl ?_
          refine y_ld (x := .ref 170) rfl rfl (fun d => rfl) ?_
          refine y_ic rfl rfl ?_
          refine y_cV (D' := 10) (as := [.ref 170, iv 3]) rfl rfl rfl rfl rfl (md170 hM) ⟨rfl, (Nat.le_of_ble_eq_true rfl), (Nat.le_of_ble_eq_true rfl)⟩ (by decide) ?_
          refine y_ent (lv' := [(0, .ref 170), (1, iv 3)]) (Nat.le_of_ble_eq_true rfl) rfl ?_
          refine y_ld (x := .ref 170) rfl rfl (fun d => rfl) ?_
          refine y_gI (i := 40) (e := 0) rfl rfl rfl (md170 hM) rfl rfl ?_
          refine y_bi rfl rfl (by decide) ?_
          refine y_jge rfl rfl rfl (by decide) (fun g29 => absurd g29 (by decide)) (fun g29 => ?_)
          refine y_ld (x := .ref 170) rfl rfl (fun d => rfl) ?_
          refine y_gR (i := 39) rfl rfl rfl (md170 hM) rfl ?_
          refine y_ld (x := .ref 170) rfl rfl (fun d => rfl) ?_
          refine y_gI (i := 40) (e := 0) rfl rfl rfl (md170 hM) rfl rfl ?_
          refine y_ld (x := iv 3) rfl rfl (fun d => rfl) ?_
          refine y_ist (q := 0) rfl rfl (md192 hM) (by decide) (by decide) rfl ?_
          refine y_ld (x := .ref 170) rfl rfl (fun d => rfl) ?_
          refine y_in rfl rfl (fun d => rfl) ?_
          refine y_gI (i := 40) (e := 0) rfl rfl rfl (md170 hM) rfl rfl ?_
          refine y_ic rfl rfl ?_
          refine y_add (z := 1) rfl rfl rfl ?_
          refine y_pI (i := 40) rfl rfl rfl (md170 hM) rfl rfl ?_
          refine y_ret rfl (fun d => rfl) ?_
          refine y_n0 ?_
          refine y_ld (x := .ref 170) rfl rfl (fun d => rfl) ?_
          refine y_ld (x := .int z) rfl rfl (fun d => rfl) ?_
          refine y_cV (D' := 10) (as := [.ref 170, .int z]) rfl rfl rfl rfl rfl (md170 hM) ⟨rfl, (Nat.le_of_ble_eq_true rfl), (Nat.le_of_ble_eq_true rfl)⟩ (by decide) ?_
          refine y_ent (lv' := [(0, .ref 170), (1, .int z)]) (Nat.le_of_ble_eq_true rfl) rfl ?_
          refine y_ld (x := .ref 170) rfl rfl (fun d => rfl) ?_
          refine y_gI (i := 41) (e := 0) rfl rfl rfl (md170 hM) rfl rfl ?_
          refine y_ic rfl rfl ?_
          refine y_jne rfl rfl rfl (by decide) (fun g30 => ?_) (fun g30 => absurd g30 (by decide))
          refine y_ld (x := .ref 170) rfl rfl (fun d => rfl) ?_
          refine y_gI (i := 41) (e := 0) rfl rfl rfl (md170 hM) rfl rfl ?_
          refine y_ic rfl rfl ?_
          refine y_cS (D' := 9) (as := [iv 0, iv 1]) rfl (by decide) rfl rfl rfl rfl ⟨(Nat.le_of_ble_eq_true rfl), (Nat.le_of_ble_eq_true rfl)⟩ (by decide) ?_
          refine y_ent (lv' := [(0, iv 0), (1, iv 1)]) (Nat.le_of_ble_eq_true rfl) rfl ?_
          refine y_ld (x := iv 1) rfl rfl (fun d => rfl) ?_
          refine y_zeq rfl rfl rfl (by decide) (fun g31 => absurd g31 (by decide)) (fun g31 => ?_)
          refine y_ld (x := iv 1) rfl rfl (fun d => rfl) ?_
          refine y_ld (x := iv 0) rfl rfl (fun d => rfl) ?_
          refine y_jeq rfl rfl rfl (by decide) (fun g32 => absurd g32 (by decide)) (fun g32 => ?_)
          refine y_ld (x := iv 1) rfl rfl (fun d => rfl) ?_
          refine y_ic rfl rfl ?_
          refine y_jne rfl rfl rfl (by decide) (fun g33 => absurd g33 (by decide)) (fun g33 => ?_)
          refine y_ld (x := iv 0) rfl rfl (fun d => rfl) ?_
          refine y_ic rfl rfl ?_
          refine y_jeq rfl rfl rfl (by decide) (fun g34 => absurd g34 (by decide)) (fun g34 => ?_)
          refine y_ld (x := iv 1) rfl rfl (fun d => rfl) ?_
          refine y_ic rfl rfl ?_
          refine y_jne rfl rfl rfl (by decide) (fun g35 => ?_) (fun g35 => absurd g35 (by decide))
          refine y_ic rfl rfl ?_
          refine y_rI rfl (by decide) ?_
          refine y_nv ?_
          refine y_zeq rfl rfl rfl (by decide) (fun g36 => ?_) (fun g36 => absurd g36 (by decide))
          refine y_ld (x := .ref 170) rfl rfl (fun d => rfl) ?_
          refine y_ld (x := .int z) rfl rfl (fun d => rfl) ?_
          refine y_cV (D' := 9) (as := [.ref 170, .int z]) rfl rfl rfl rfl rfl (md170 hM) ⟨rfl, (Nat.le_of_ble_eq_true rfl), (Nat.le_of_ble_eq_true rfl)⟩ (by decide) ?_
          refine y_ent (lv' := [(0, .ref 170), (1, .int z)]) (Nat.le_of_ble_eq_true rfl) rfl ?_
          refine y_ld (x := .ref 170) rfl rfl (fun d => rfl) ?_
          refine y_ic rfl rfl ?_
          refine y_cV (D' := 8) (as := [.ref 170, iv 2]) rfl rfl rfl rfl rfl (md170 hM) ⟨rfl, (Nat.le_of_ble_eq_true rfl), (Nat.le_of_ble_eq_true rfl)⟩ (by decide) ?_
          refine y_ent (lv' := [(0, .ref 170), (1, iv 2)]) (Nat.le_of_ble_eq_true rfl) rfl ?_
          refine y_ld (x := .ref 170) rfl rfl (fun d => rfl) ?_
          refine y_gI (i := 40) (e := 1) rfl rfl rfl (md170 hM) rfl rfl ?_
          refine y_bi rfl rfl (by decide) ?_
          refine y_jge rfl rfl rfl (by decide) (fun g37 => absurd g37 (by decide)) (fun g37 => ?_)
          refine y_ld (x := .ref 170) rfl rfl (fun d => rfl) ?_
          refine y_gR (i := 39) rfl rfl rfl (md170 hM) rfl ?_
          refine y_ld (x := .ref 170) rfl rfl (fun d => rfl) ?_
          refine y_gI (i := 40) (e := 1) rfl rfl rfl (md170 hM) rfl rfl ?_
          refine y_ld (x := iv 2) rfl rfl (fun d => rfl) ?_
          refine y_ist (q := 1) rfl rfl (md192 hM) (by decide) (by decide) rfl ?_
          refine y_ld (x := .ref 170) rfl rfl (fun d => rfl) ?_
          refine y_in rfl rfl (fun d => rfl) ?_
          refine y_gI (i := 40) (e := 1) rfl rfl rfl (md170 hM) rfl rfl ?_
          refine y_ic rfl rfl ?_
          refine y_add (z := 2) rfl rfl rfl ?_
          refine y_pI (i := 40) rfl rfl rfl (md170 hM) rfl rfl ?_
          refine y_ret rfl (fun d => rfl) ?_
          refine y_n0 ?_
          refine y_ld (x := .ref 170) rfl rfl (fun d => rfl) ?_
          refine y_ld (x := .int z) rfl rfl (fun d => rfl) ?_
          refine y_cV (D' := 8) (as := [.ref 170, .int z]) rfl rfl rfl rfl rfl (md170 hM) ⟨rfl, (Nat.le_of_ble_eq_true rfl), (Nat.le_of_ble_eq_true rfl)⟩ (by decide) ?_
          refine y_ent (lv' := [(0, .ref 170), (1, .int z)]) (Nat.le_of_ble_eq_true rfl) rfl ?_
          refine y_ld (x := .ref 170) rfl rfl (fun d => rfl) ?_
          refine y_gI (i := 41) (e := 0) rfl rfl rfl (md170 hM) rfl rfl ?_
          refine y_ic rfl rfl ?_
          refine y_jne rfl rfl rfl (by decide) (fun g38 => ?_) (fun g38 => absurd g38 (by decide))
          refine y_ld (x := .ref 170) rfl rfl (fun d => rfl) ?_
          refine y_gI (i := 41) (e := 0) rfl rfl rfl (md170 hM) rfl rfl ?_
          refine y_bi rfl rfl (by decide) ?_
          refine y_jne rfl rfl rfl (by decide) (fun g39 => ?_) (fun g39 => absurd g39 (by decide))
          refine y_ld (x := .ref 170) rfl rfl (fun d => rfl) ?_
          refine y_ld (x := .int z) rfl rfl (fun d => rfl) ?_
          refine y_cV (D' := 7) (as := [.ref 170, .int z]) rfl rfl rfl rfl rfl (md170 hM) ⟨rfl, (Nat.le_of_ble_eq_true rfl), (Nat.le_of_ble_eq_true rfl)⟩ (by decide) ?_
          refine y_ent (lv' := [(0, .ref 170), (1, .int z)]) (Nat.le_of_ble_eq_true rfl) rfl ?_
          refine y_ld (x := .ref 170) rfl rfl (fun d => rfl) ?_
          refine y_ic rfl rfl ?_
          refine y_cV (D' := 6) (as := [.ref 170, iv 1]) rfl rfl rfl rfl rfl (md170 hM) ⟨rfl, (Nat.le_of_ble_eq_true rfl), (Nat.le_of_ble_eq_true rfl)⟩ (by decide) ?_
          refine y_ent (lv' := [(0, .ref 170), (1, iv 1)]) (Nat.le_of_ble_eq_true rfl) rfl ?_
          refine y_ld (x := .ref 170) rfl rfl (fun d => rfl) ?_
          refine y_gI (i := 40) (e := 2) rfl rfl rfl (md170 hM) rfl rfl ?_
          refine y_bi rfl rfl (by decide) ?_
          refine y_jge rfl rfl rfl (by decide) (fun g40 => absurd g40 (by decide)) (fun g40 => ?_)
          refine y_ld (x := .ref 170) rfl rfl (fun d => rfl) ?_
          refine y_gR (i := 39) rfl rfl rfl (md170 hM) rfl ?_
          refine y_ld (x := .ref 170) rfl rfl (fun d => rfl) ?_
          refine y_gI (i := 40) (e := 2) rfl rfl rfl (md170 hM) rfl rfl ?_
          refine y_ld (x := iv 1) rfl rfl (fun d => rfl) ?_
          refine y_ist (q := 2) rfl rfl (md192 hM) (by decide) (by decide) rfl ?_
          refine y_ld (x := .ref 170) rfl rfl (fun d => rfl) ?_
          refine y_in rfl rfl (fun d => rfl) ?_
          refine y_gI (i := 40) (e := 2) rfl rfl rfl (md170 hM) rfl rfl ?_
          refine y_ic rfl rfl ?_
          refine y_add (z := 3) rfl rfl rfl ?_
          refine y_pI (i := 40) rfl rfl rfl (md170 hM) rfl rfl ?_
          refine y_ret rfl (fun d => rfl) ?_
          refine y_n0 ?_
          refine y_ld (x := .int z) rfl rfl (fun d => rfl) ?_
          refine y_ld (x := .ref 170) rfl rfl (fun d => rfl) ?_
          refine y_gI (i := 42) (e := ((x.toNat : Nat) : Int)) rfl rfl rfl (md170 hM) rfl rfl ?_
          refine y_in rfl rfl (fun d => rfl) ?_
          refine y_ret rfl (fun d => rfl) ?_
          refine y_nv ?_
          refine y_ret rfl (fun d => rfl) ?_
          refine y_nv ?_
          refine y_ld (x := .ref 170) rfl rfl (fun d => rfl) ?_
          refine y_gI (i := 43) (e := ((tl (V 171 (178 + x.toNat)).toNat).length : Int)) rfl rfl rfl (md170 hM) rfl rfl ?_
          refine y_in rfl rfl (fun d => rfl) ?_
          refine y_ret rfl (fun d => rfl) ?_
          refine y_nv ?_
          refine y_ret rfl (fun d => rfl) ?_
          refine y_nv ?_
          refine y_ic rfl rfl ?_
          refine y_in rfl rfl (fun d => rfl) ?_
          refine y_ret rfl (fun d => rfl) ?_
          refine y_nv ?_
          refine y_ret rfl (fun d => rfl) ?_
          refine y_nv ?_
          refine y_ret rfl (fun d => rfl) ?_
          have k2 := k1 (by omega)
          rw [hq, hy3] at k2
          exact k2 _ (fun k h8 h9 => by rw [v_up_ne h8, v_up_ne h9, v_up_ne h8, v_up_ne h9, v_up_ne h8, v_up_ne h9, v_up_ne h8, v_up_ne h8, v_up_ne h8, v_up_ne h8]) (fun i hi => by rw [v_up_ni (by omega), v_up_ne (by decide), v_up_ni (by omega), v_up_ne (by decide), v_up_ni (by omega), v_up_ne (by decide), v_up_ni (by omega), v_up_ni (by omega), v_up_ni (by omega), v_up_ni (by omega)]) ⟨by show (0 : Int) ≤ 3; decide, by show (3 : Int) ≤ 20; decide⟩
      · rcases (show y = 0 ∨ y = 1 ∨ y = 2 by omega) with hy3 | hy3 | hy3
        · refine y_lv (l' := [(0, .ref 170), (1, iv ((x.toNat : Nat) : Int)), (2, iv 0), (3, .int z)]) rfl ⟨rfl, congrArg (fun e => some (iv e)) (by omega), congrArg (fun e => some (iv e)) hy3, rfl, trivial⟩ ?_
          refine y_ld (x := .ref 170) rfl rfl (fun d => rfl) ?_
          refine y_ld (x := .ref 170) rfl rfl (fun d => rfl) ?_
          refine y_gR (i := 1) rfl rfl rfl (md170 hM) rfl ?_
          refine y_si rfl rfl (by decide) ?_
          refine y_ld (x := iv ((x.toNat : Nat) : Int)) rfl rfl (fun d => rfl) ?_
          refine y_add (z := (170 + ((x.toNat : Nat) : Int))) rfl rfl rfl ?_
          refine y_ild (x := 1) (q := (170 + x.toNat)) rfl rfl (md171 hM) (by omega) (by decide) (by omega) hq ?_
          refine y_pI (i := 41) rfl rfl rfl (md170 hM) rfl rfl ?_
          refine y_ld (x := .ref 170) rfl rfl (fun d => rfl) ?_
          refine y_ld (x := iv ((x.toNat : Nat) : Int)) rfl rfl (fun d => rfl) ?_
          refine y_pI (i := 42) rfl rfl rfl (md170 hM) rfl rfl ?_
          refine y_ld (x := .ref 170) rfl rfl (fun d => rfl) ?_
          refine y_ld (x := .ref 170) rfl rfl (fun d => rfl) ?_
          refine y_gR (i := 6) rfl rfl rfl (md170 hM) rfl ?_
          refine y_ld (x := .ref 170) rfl rfl (fun d => rfl) ?_
          refine y_gR (i := 1) rfl rfl rfl (md170 hM) rfl ?_
          refine y_si rfl rfl (by decide) ?_
          refine y_ld (x := iv ((x.toNat : Nat) : Int)) rfl rfl (fun d => rfl) ?_
          refine y_add (z := (178 + ((x.toNat : Nat) : Int))) rfl rfl rfl ?_
          refine y_ild (x := (((V 171 (178 + x.toNat)).toNat : Nat) : Int)) (q := (178 + x.toNat)) rfl rfl (md171 hM) (by omega) (by decide) (by omega) (by rw [v_up_ne (by decide), v_up_ne (by decide), v_up_ne (by decide)]; omega) ?_
          refine y_ild (x := ((tl (V 171 (178 + x.toNat)).toNat).length : Int)) (q := ((V 171 (178 + x.toNat)).toNat)) rfl rfl (md175 hM) (by omega) (by decide) (by omega) hM2 ?_
          refine y_pI (i := 43) rfl rfl rfl (md170 hM) rfl rfl ?_
          refine y_ld (x := iv 0) rfl rfl (fun d => rfl) ?_
          refine y_zne rfl rfl rfl (by decide) (fun g41 => absurd g41 (by decide)) (fun g41 => ?_)
          refine y_ld (x := .ref 170) rfl rfl (fun d => rfl) ?_
          refine y_ld (x := .int z) rfl rfl (fun d => rfl) ?_
          refine y_cV (D' := 12) (as := [.ref 170, .int z]) rfl rfl rfl rfl rfl (md170 hM) ⟨rfl, (Nat.le_of_ble_eq_true rfl), (Nat.le_of_ble_eq_true rfl)⟩ (by decide) ?_
          refine y_ent (lv' := [(0, .ref 170), (1, .int z)]) (Nat.le_of_ble_eq_true rfl) rfl ?_
          refine y_ld (x := .ref 170) rfl rfl (fun d => rfl) ?_
          refine y_gI (i := 41) (e := 1) rfl rfl rfl (md170 hM) rfl rfl ?_
          refine y_ic rfl rfl ?_
          refine y_jne rfl rfl rfl (by decide) (fun g42 => ?_) (fun g42 => absurd g42 (by decide))
          refine y_ld (x := .ref 170) rfl rfl (fun d => rfl) ?_
          refine y_gI (i := 41) (e := 1) rfl rfl rfl (md170 hM) rfl rfl ?_
          refine y_bi rfl rfl (by decide) ?_
          refine y_jne rfl rfl rfl (by decide) (fun g43 => ?_) (fun g43 => absurd g43 (by decide))
          refine y_ld (x := .ref 170) rfl rfl (fun d => rfl) ?_
          refine y_ld (x := .int z) rfl rfl (fun d => rfl) ?_
          refine y_cV (D' := 11) (as := [.ref 170, .int z]) rfl rfl rfl rfl rfl (md170 hM) ⟨rfl, (Nat.le_of_ble_eq_true rfl), (Nat.le_of_ble_eq_true rfl)⟩ (by decide) ?_
          refine y_ent (lv' := [(0, .ref 170), (1, .int z)]) (Nat.le_of_ble_eq_true rfl) rfl ?_
          refine y_ld (x := .ref 170) rfl rfl (fun d => rfl) ?_
          refine y_ic rfl rfl ?_
          refine y_cV (D' := 10) (as := [.ref 170, iv 1]) rfl rfl rfl rfl rfl (md170 hM) ⟨rfl, (Nat.le_of_ble_eq_true rfl), (Nat.le_of_ble_eq_true rfl)⟩ (by decide) ?_
          refine y_ent (lv' := [(0, .ref 170), (1, iv 1)]) (Nat.le_of_ble_eq_true rfl) rfl ?_
          refine y_ld (x := .ref 170) rfl rfl (fun d => rfl) ?_
          refine y_gI (i := 40) (e := 0) rfl rfl rfl (md170 hM) rfl rfl ?_
          refine y_bi rfl rfl (by decide) ?_
          refine y_jge rfl rfl rfl (by decide) (fun g44 => absurd g44 (by decide)) (fun g44 => ?_)
          refine y_ld (x := .ref 170) rfl rfl (fun d => rfl) ?_
          refine y_gR (i := 39) rfl rfl rfl (md170 hM) rfl ?_
          refine y_ld (x := .ref 170) rfl rfl (fun d => rfl) ?_
          refine y_gI (i := 40) (e := 0) rfl rfl rfl (md170 hM) rfl rfl ?_
          refine y_ld (x := iv 1) rfl rfl (fun d => rfl) ?_
          refine y_ist (q := 0) rfl rfl (md192 hM) (by decide) (by decide) rfl ?_
          refine y_ld (x := .ref 170) rfl rfl (fun d => rfl) ?_
          refine y_in rfl rfl (fun d => rfl) ?_
          refine y_gI (i := 40) (e := 0) rfl rfl rfl (md170 hM) rfl rfl ?_
          refine y_ic rfl rfl ?_
          refine y_add (z := 1) rfl rfl rfl ?_
          refine y_pI (i := 40) rfl rfl rfl (md170 hM) rfl rfl ?_
          refine y_ret rfl (fun d => rfl) ?_
          refine y_n0 ?_
          refine y_ld (x := .int z) rfl rfl (fun d => rfl) ?_
          refine y_ld (x := .ref 170) rfl rfl (fun d => rfl) ?_
          refine y_gI (i := 42) (e := ((x.toNat : Nat) : Int)) rfl rfl rfl (md170 hM) rfl rfl ?_
          refine y_in rfl rfl (fun d => rfl) ?_
          refine y_ret rfl (fun d => rfl) ?_
          refine y_nv ?_
          refine y_ret rfl (fun d => rfl) ?_
          refine y_nv ?_
          refine y_go rfl rfl ?_
          refine y_ret rfl (fun d => rfl) ?_
          have k2 := k1 (by omega)
          rw [hq, hy3] at k2
          exact k2 _ (fun k h8 h9 => by rw [v_up_ne h8, v_up_ne h9, v_up_ne h8, v_up_ne h8, v_up_ne h8, v_up_ne h8]) (fun i hi => by rw [v_up_ni (by omega), v_up_ne (by decide), v_up_ni (by omega), v_up_ni (by omega), v_up_ni (by omega), v_up_ni (by omega)]) ⟨by show (0 : Int) ≤ 1; decide, by show (1 : Int) ≤ 20; decide⟩
        · refine y_lv (l' := [(0, .ref 170), (1, iv ((x.toNat : Nat) : Int)), (2, iv 1), (3, .int z)]) rfl ⟨rfl, congrArg (fun e => some (iv e)) (by omega), congrArg (fun e => some (iv e)) hy3, rfl, trivial⟩ ?_
          refine y_ld (x := .ref 170) rfl rfl (fun d => rfl) ?_
          refine y_ld (x := .ref 170) rfl rfl (fun d => rfl) ?_
          refine y_gR (i := 1) rfl rfl rfl (md170 hM) rfl ?_
          refine y_si rfl rfl (by decide) ?_
          refine y_ld (x := iv ((x.toNat : Nat) : Int)) rfl rfl (fun d => rfl) ?_
          refine y_add (z := (170 + ((x.toNat : Nat) : Int))) rfl rfl rfl ?_
          refine y_ild (x := 1) (q := (170 + x.toNat)) rfl rfl (md171 hM) (by omega) (by decide) (by omega) hq ?_
          refine y_pI (i := 41) rfl rfl rfl (md170 hM) rfl rfl ?_
          refine y_ld (x := .ref 170) rfl rfl (fun d => rfl) ?_
          refine y_ld (x := iv ((x.toNat : Nat) : Int)) rfl rfl (fun d => rfl) ?_
          refine y_pI (i := 42) rfl rfl rfl (md170 hM) rfl rfl ?_
          refine y_ld (x := .ref 170) rfl rfl (fun d => rfl) ?_
          refine y_ld (x := .ref 170) rfl rfl (fun d => rfl) ?_
          refine y_gR (i := 6) rfl rfl rfl (md170 hM) rfl ?_
          refine y_ld (x := .ref 170) rfl rfl (fun d => rfl) ?_
          refine y_gR (i := 1) rfl rfl rfl (md170 hM) rfl ?_
          refine y_si rfl rfl (by decide) ?_
          refine y_ld (x := iv ((x.toNat : Nat) : Int)) rfl rfl (fun d => rfl) ?_
          refine y_add (z := (178 + ((x.toNat : Nat) : Int))) rfl rfl rfl ?_
          refine y_ild (x := (((V 171 (178 + x.toNat)).toNat : Nat) : Int)) (q := (178 + x.toNat)) rfl rfl (md171 hM) (by omega) (by decide) (by omega) (by rw [v_up_ne (by decide), v_up_ne (by decide), v_up_ne (by decide)]; omega) ?_
          refine y_ild (x := ((tl (V 171 (178 + x.toNat)).toNat).length : Int)) (q := ((V 171 (178 + x.toNat)).toNat)) rfl rfl (md175 hM) (by omega) (by decide) (by omega) hM2 ?_
          refine y_pI (i := 43) rfl rfl rfl (md170 hM) rfl rfl ?_
          refine y_ld (x := iv 1) rfl rfl (fun d => rfl) ?_
          refine y_zne rfl rfl rfl (by decide) (fun g45 => ?_) (fun g45 => absurd g45 (by decide))
          refine y_ld (x := iv 1) rfl rfl (fun d => rfl) ?_
          refine y_ic rfl rfl ?_
          refine y_jne rfl rfl rfl (by decide) (fun g46 => absurd g46 (by decide)) (fun g46 => ?_)
          refine y_ld (x := .ref 170) rfl rfl (fun d => rfl) ?_
          refine y_ld (x := .int z) rfl rfl (fun d => rfl) ?_
          refine y_cV (D' := 12) (as := [.ref 170, .int z]) rfl rfl rfl rfl rfl (md170 hM) ⟨rfl, (Nat.le_of_ble_eq_true rfl), (Nat.le_of_ble_eq_true rfl)⟩ (by decide) ?_
          refine y_ent (lv' := [(0, .ref 170), (1, .int z)]) (Nat.le_of_ble_eq_true rfl) rfl ?_
          refine y_ld (x := .ref 170) rfl rfl (fun d => rfl) ?_
          refine y_gI (i := 41) (e := 1) rfl rfl rfl (md170 hM) rfl rfl ?_
          refine y_ic rfl rfl ?_
          refine y_jne rfl rfl rfl (by decide) (fun g47 => ?_) (fun g47 => absurd g47 (by decide))
          refine y_ld (x := .ref 170) rfl rfl (fun d => rfl) ?_
          refine y_gI (i := 41) (e := 1) rfl rfl rfl (md170 hM) rfl rfl ?_
          refine y_ic rfl rfl ?_
          refine y_cS (D' := 11) (as := [iv 1, iv 1]) rfl (by decide) rfl rfl rfl rfl ⟨(Nat.le_of_ble_eq_true rfl), (Nat.le_of_ble_eq_true rfl)⟩ (by decide) ?_
          refine y_ent (lv' := [(0, iv 1), (1, iv 1)]) (Nat.le_of_ble_eq_true rfl) rfl ?_
          refine y_ld (x := iv 1) rfl rfl (fun d => rfl) ?_
          refine y_zeq rfl rfl rfl (by decide) (fun g48 => absurd g48 (by decide)) (fun g48 => ?_)
          refine y_ld (x := iv 1) rfl rfl (fun d => rfl) ?_
          refine y_ld (x := iv 1) rfl rfl (fun d => rfl) ?_
          refine y_jeq rfl rfl rfl (by decide) (fun g49 => ?_) (fun g49 => absurd g49 (by decide))
          refine y_ic rfl rfl ?_
          refine y_go rfl rfl ?_
          refine y_rI rfl (by decide) ?_
          refine y_nv ?_
          refine y_zeq rfl rfl rfl (by decide) (fun g50 => absurd g50 (by decide)) (fun g50 => ?_)
          refine y_ld (x := .ref 170) rfl rfl (fun d => rfl) ?_
          refine y_bi rfl rfl (by decide) ?_
          refine y_cV (D' := 11) (as := [.ref 170, iv 11]) rfl rfl rfl rfl rfl (md170 hM) ⟨rfl, (Nat.le_of_ble_eq_true rfl), (Nat.le_of_ble_eq_true rfl)⟩ (by decide) ?_
          refine y_ent (lv' := [(0, .ref 170), (1, iv 11)]) (Nat.le_of_ble_eq_true rfl) rfl ?_
          refine y_ld (x := .ref 170) rfl rfl (fun d => rfl) ?_
          refine y_gI (i := 40) (e := 0) rfl rfl rfl (md170 hM) rfl rfl ?_
          refine y_bi rfl rfl (by decide) ?_
          refine y_jge rfl rfl rfl (by decide) (fun g51 => absurd g51 (by decide)) (fun g51 => ?_)
          refine y_ld (x := .ref 170) rfl rfl (fun d => rfl) ?_
          refine y_gR (i := 39) rfl rfl rfl (md170 hM) rfl ?_
          refine y_ld (x := .ref 170) rfl rfl (fun d => rfl) ?_
          refine y_gI (i := 40) (e := 0) rfl rfl rfl (md170 hM) rfl rfl ?_
          refine y_ld (x := iv 11) rfl rfl (fun d => rfl) ?_
          refine y_ist (q := 0) rfl rfl (md192 hM) (by decide) (by decide) rfl ?_
          refine y_ld (x := .ref 170) rfl rfl (fun d => rfl) ?_
          refine y_in rfl rfl (fun d => rfl) ?_
          refine y_gI (i := 40) (e := 0) rfl rfl rfl (md170 hM) rfl rfl ?_
          refine y_ic rfl rfl ?_
          refine y_add (z := 1) rfl rfl rfl ?_
          refine y_pI (i := 40) rfl rfl rfl (md170 hM) rfl rfl ?_
          refine y_ret rfl (fun d => rfl) ?_
          refine y_n0 ?_
          refine y_ld (x := .ref 170) rfl rfl (fun d => rfl) ?_
          refine y_ld (x := .int z) rfl rfl (fun d => rfl) ?_
          refine y_ic rfl rfl ?_
          refine y_in rfl rfl (fun d => rfl) ?_
          refine y_cV (D' := 11) (as := [.ref 170, .int (z * (Int32.ofInt 3))]) rfl rfl rfl rfl rfl (md170 hM) ⟨rfl, (Nat.le_of_ble_eq_true rfl), (Nat.le_of_ble_eq_true rfl)⟩ (by decide) ?_
          refine y_ent (lv' := [(0, .ref 170), (1, .int (z * (Int32.ofInt 3)))]) (Nat.le_of_ble_eq_true rfl) rfl ?_
          refine y_ld (x := .ref 170) rfl rfl (fun d => rfl) ?_
          refine y_ic rfl rfl ?_
          refine y_cV (D' := 10) (as := [.ref 170, iv 2]) rfl rfl rfl rfl rfl (md170 hM) ⟨rfl, (Nat.le_of_ble_eq_true rfl), (Nat.le_of_ble_eq_true rfl)⟩ (by decide) ?_
          refine y_ent (lv' := [(0, .ref 170), (1, iv 2)]) (Nat.le_of_ble_eq_true rfl) rfl ?_
          refine y_ld (x := .ref 170) rfl rfl (fun d => rfl) ?_
          refine y_gI (i := 40) (e := 1) rfl rfl rfl (md170 hM) rfl rfl ?_
          refine y_bi rfl rfl (by decide) ?_
          refine y_jge rfl rfl rfl (by decide) (fun g52 => absurd g52 (by decide)) (fun g52 => ?_)
          refine y_ld (x := .ref 170) rfl rfl (fun d => rfl) ?_
          refine y_gR (i := 39) rfl rfl rfl (md170 hM) rfl ?_
          refine y_ld (x := .ref 170) rfl rfl (fun d => rfl) ?_
          refine y_gI (i := 40) (e := 1) rfl rfl rfl (md170 hM) rfl rfl ?_
          refine y_ld (x := iv 2) rfl rfl (fun d => rfl) ?_
          refine y_ist (q := 1) rfl rfl (md192 hM) (by decide) (by decide) rfl ?_
          refine y_ld (x := .ref 170) rfl rfl (fun d => rfl) ?_
          refine y_in rfl rfl (fun d => rfl) ?_
          refine y_gI (i := 40) (e := 1) rfl rfl rfl (md170 hM) rfl rfl ?_
          refine y_ic rfl rfl ?_
          refine y_add (z := 2) rfl rfl rfl ?_
          refine y_pI (i := 40) rfl rfl rfl (md170 hM) rfl rfl ?_
          refine y_ret rfl (fun d => rfl) ?_
          refine y_n0 ?_
          refine y_ld (x := .ref 170) rfl rfl (fun d => rfl) ?_
          refine y_ld (x := .int (z * (Int32.ofInt 3))) rfl rfl (fun d => rfl) ?_
          refine y_cV (D' := 10) (as := [.ref 170, .int (z * (Int32.ofInt 3))]) rfl rfl rfl rfl rfl (md170 hM) ⟨rfl, (Nat.le_of_ble_eq_true rfl), (Nat.le_of_ble_eq_true rfl)⟩ (by decide) ?_
          refine y_ent (lv' := [(0, .ref 170), (1, .int (z * (Int32.ofInt 3)))]) (Nat.le_of_ble_eq_true rfl) rfl ?_
          refine y_ld (x := .ref 170) rfl rfl (fun d => rfl) ?_
          refine y_gI (i := 41) (e := 1) rfl rfl rfl (md170 hM) rfl rfl ?_
          refine y_ic rfl rfl ?_
          refine y_jne rfl rfl rfl (by decide) (fun g53 => ?_) (fun g53 => absurd g53 (by decide))
          refine y_ld (x := .ref 170) rfl rfl (fun d => rfl) ?_
          refine y_gI (i := 41) (e := 1) rfl rfl rfl (md170 hM) rfl rfl ?_
          refine y_bi rfl rfl (by decide) ?_
          refine y_jne rfl rfl rfl (by decide) (fun g54 => ?_) (fun g54 => absurd g54 (by decide))
          refine y_ld (x := .ref 170) rfl rfl (fun d => rfl) ?_
          refine y_ld (x := .int (z * (Int32.ofInt 3))) rfl rfl (fun d => rfl) ?_
          refine y_cV (D' := 9) (as := [.ref 170, .int (z * (Int32.ofInt 3))]) rfl rfl rfl rfl rfl (md170 hM) ⟨rfl, (Nat.le_of_ble_eq_true rfl), (Nat.le_of_ble_eq_true rfl)⟩ (by decide) ?_
          refine y_ent (lv' := [(0, .ref 170), (1, .int (z * (Int32.ofInt 3)))]) (Nat.le_of_ble_eq_true rfl) rfl ?_
          refine y_ld (x := .ref 170) rfl rfl (fun d => rfl) ?_
          refine y_ic rfl rfl ?_
          refine y_cV (D' := 8) (as := [.ref 170, iv 1]) rfl rfl rfl rfl rfl (md170 hM) ⟨rfl, (Nat.le_of_ble_eq_true rfl), (Nat.le_of_ble_eq_true rfl)⟩ (by decide) ?_
          refine y_ent (lv' := [(0, .ref 170), (1, iv 1)]) (Nat.le_of_ble_eq_true rfl) rfl ?_
          refine y_ld (x := .ref 170) rfl rfl (fun d => rfl) ?_
          refine y_gI (i := 40) (e := 2) rfl rfl rfl (md170 hM) rfl rfl ?_
          refine y_bi rfl rfl (by decide) ?_
          refine y_jge rfl rfl rfl (by decide) (fun g55 => absurd g55 (by decide)) (fun g55 => ?_)
          refine y_ld (x := .ref 170) rfl rfl (fun d => rfl) ?_
          refine y_gR (i := 39) rfl rfl rfl (md170 hM) rfl ?_
          refine y_ld (x := .ref 170) rfl rfl (fun d => rfl) ?_
          refine y_gI (i := 40) (e := 2) rfl rfl rfl (md170 hM) rfl rfl ?_
          refine y_ld (x := iv 1) rfl rfl (fun d => rfl) ?_
          refine y_ist (q := 2) rfl rfl (md192 hM) (by decide) (by decide) rfl ?_
          refine y_ld (x := .ref 170) rfl rfl (fun d => rfl) ?_
          refine y_in rfl rfl (fun d => rfl) ?_
          refine y_gI (i := 40) (e := 2) rfl rfl rfl (md170 hM) rfl rfl ?_
          refine y_ic rfl rfl ?_
          refine y_add (z := 3) rfl rfl rfl ?_
          refine y_pI (i := 40) rfl rfl rfl (md170 hM) rfl rfl ?_
          refine y_ret rfl (fun d => rfl) ?_
          refine y_n0 ?_
          refine y_ld (x := .int (z * (Int32.ofInt 3))) rfl rfl (fun d => rfl) ?_
          refine y_ld (x := .ref 170) rfl rfl (fun d => rfl) ?_
          refine y_gI (i := 42) (e := ((x.toNat : Nat) : Int)) rfl rfl rfl (md170 hM) rfl rfl ?_
          refine y_in rfl rfl (fun d => rfl) ?_
          refine y_ret rfl (fun d => rfl) ?_
          refine y_nv ?_
          refine y_ret rfl (fun d => rfl) ?_
          refine y_nv ?_
          refine y_ld (x := .ref 170) rfl rfl (fun d => rfl) ?_
          refine y_gI (i := 43) (e := ((tl (V 171 (178 + x.toNat)).toNat).length : Int)) rfl rfl rfl (md170 hM) rfl rfl ?_
          refine y_in rfl rfl (fun d => rfl) ?_
          refine y_ret rfl (fun d => rfl) ?_
          refine y_nv ?_
          refine y_ret rfl (fun d => rfl) ?_
          refine y_nv ?_
          refine y_go rfl rfl ?_
          refine y_ret rfl (fun d => rfl) ?_
          have k2 := k1 (by omega)
          rw [hq, hy3] at k2
          exact k2 _ (fun k h8 h9 => by rw [v_up_ne h8, v_up_ne h9, v_up_ne h8, v_up_ne h9, v_up_ne h8, v_up_ne h9, v_up_ne h8, v_up_ne h8, v_up_ne h8, v_up_ne h8]) (fun i hi => by rw [v_up_ni (by omega), v_up_ne (by decide), v_up_ni (by omega), v_up_ne (by decide), v_up_ni (by omega), v_up_ne (by decide), v_up_ni (by omega), v_up_ni (by omega), v_up_ni (by omega), v_up_ni (by omega)]) ⟨by show (0 : Int) ≤ 3; decide, by show (3 : Int) ≤ 20; decide⟩
        · refine y_lv (l' := [(0, .ref 170), (1, iv ((x.toNat : Nat) : Int)), (2, iv 2), (3, .int z)]) rfl ⟨rfl, congrArg (fun e => some (iv e)) (by omega), congrArg (fun e => some (iv e)) hy3, rfl, trivial⟩ ?_
          refine y_ld (x := .ref 170) rfl rfl (fun d => rfl) ?_
          refine y_ld (x := .ref 170) rfl rfl (fun d => rfl) ?_
          refine y_gR (i := 1) rfl rfl rfl (md170 hM) rfl ?_
          refine y_si rfl rfl (by decide) ?_
          refine y_ld (x := iv ((x.toNat : Nat) : Int)) rfl rfl (fun d => rfl) ?_
          refine y_add (z := (170 + ((x.toNat : Nat) : Int))) rfl rfl rfl ?_
          refine y_ild (x := 1) (q := (170 + x.toNat)) rfl rfl (md171 hM) (by omega) (by decide) (by omega) hq ?_
          refine y_pI (i := 41) rfl rfl rfl (md170 hM) rfl rfl ?_
          refine y_ld (x := .ref 170) rfl rfl (fun d => rfl) ?_
          refine y_ld (x := iv ((x.toNat : Nat) : Int)) rfl rfl (fun d => rfl) ?_
          refine y_pI (i := 42) rfl rfl rfl (md170 hM) rfl rfl ?_
          refine y_ld (x := .ref 170) rfl rfl (fun d => rfl) ?_
          refine y_ld (x := .ref 170) rfl rfl (fun d => rfl) ?_
          refine y_gR (i := 6) rfl rfl rfl (md170 hM) rfl ?_
          refine y_ld (x := .ref 170) rfl rfl (fun d => rfl) ?_
          refine y_gR (i := 1) rfl rfl rfl (md170 hM) rfl ?_
          refine y_si rfl rfl (by decide) ?_
          refine y_ld (x := iv ((x.toNat : Nat) : Int)) rfl rfl (fun d => rfl) ?_
          refine y_add (z := (178 + ((x.toNat : Nat) : Int))) rfl rfl rfl ?_
          refine y_ild (x := (((V 171 (178 + x.toNat)).toNat : Nat) : Int)) (q := (178 + x.toNat)) rfl rfl (md171 hM) (by omega) (by decide) (by omega) (by rw [v_up_ne (by decide), v_up_ne (by decide), v_up_ne (by decide)]; omega) ?_
          refine y_ild (x := ((tl (V 171 (178 + x.toNat)).toNat).length : Int)) (q := ((V 171 (178 + x.toNat)).toNat)) rfl rfl (md175 hM) (by omega) (by decide) (by omega) hM2 ?_
          refine y_pI (i := 43) rfl rfl rfl (md170 hM) rfl rfl ?_
          refine y_ld (x := iv 2) rfl rfl (fun d => rfl) ?_
          refine y_zne rfl rfl rfl (by decide) (fun g56 => ?_) (fun g56 => absurd g56 (by decide))
          refine y_ld (x := iv 2) rfl rfl (fun d => rfl) ?_
          refine y_ic rfl rfl ?_
          refine y_jne rfl rfl rfl (by decide) (fun g57 => ?_) (fun g57 => absurd g57 (by decide))
          refine y_ld (x := .ref 170) rfl rfl (fun d => rfl) ?_
          refine y_ld (x := .int z) rfl rfl (fun d => rfl) ?_
          refine y_cV (D' := 12) (as := [.ref 170, .int z]) rfl rfl rfl rfl rfl (md170 hM) ⟨rfl, (Nat.le_of_ble_eq_true rfl), (Nat.le_of_ble_eq_true rfl)⟩ (by decide) ?_
          refine y_ent (lv' := [(0, .ref 170), (1, .int z)]) (Nat.le_of_ble_eq_true rfl) rfl ?_
          refine y_ld (x := .ref 170) rfl rfl (fun d => rfl) ?_
          refine y_gI (i := 41) (e := 1) rfl rfl rfl (md170 hM) rfl rfl ?_
          refine y_ic rfl rfl ?_
          refine y_jne rfl rfl rfl (by decide) (fun g58 => ?_) (fun g58 => absurd g58 (by decide))
          refine y_ld (x := .ref 170) rfl rfl (fun d => rfl) ?_
          refine y_gI (i := 41) (e := 1) rfl rfl rfl (md170 hM) rfl rfl ?_
          refine y_ic rfl rfl ?_
          refine y_cS (D' := 11) (as := [iv 1, iv 3]) rfl (by decide) rfl rfl rfl rfl ⟨(Nat.le_of_ble_eq_true rfl), (Nat.le_of_ble_eq_true rfl)⟩ (by decide) ?_
          refine y_ent (lv' := [(0, iv 1), (1, iv 3)]) (Nat.le_of_ble_eq_true rfl) rfl ?_
          refine y_ld (x := iv 3) rfl rfl (fun d => rfl) ?_
          refine y_zeq rfl rfl rfl (by decide) (fun g59 => absurd g59 (by decide)) (fun g59 => ?_)
          refine y_ld (x := iv 3) rfl rfl (fun d => rfl) ?_
          refine y_ld (x := iv 1) rfl rfl (fun d => rfl) ?_
          refine y_jeq rfl rfl rfl (by decide) (fun g60 => absurd g60 (by decide)) (fun g60 => ?_)
          refine y_ld (x := iv 3) rfl rfl (fun d => rfl) ?_
          refine y_ic rfl rfl ?_
          refine y_jne rfl rfl rfl (by decide) (fun g61 => ?_) (fun g61 => absurd g61 (by decide))
          refine y_ld (x := iv 3) rfl rfl (fun d => rfl) ?_
          refine y_ic rfl rfl ?_
          refine y_jne rfl rfl rfl (by decide) (fun g62 => absurd g62 (by decide)) (fun g62 => ?_)
          refine y_ld (x := iv 1) rfl rfl (fun d => rfl) ?_
          refine y_ic rfl rfl ?_
          refine y_jne rfl rfl rfl (by decide) (fun g63 => ?_) (fun g63 => absurd g63 (by decide))
          refine y_ic rfl rfl ?_
          refine y_rI rfl (by decide) ?_
          refine y_nv ?_
          refine y_zeq rfl rfl rfl (by decide) (fun g64 => ?_) (fun g64 => absurd g64 (by decide))
          refine y_ld (x := .ref 170) rfl rfl (fun d => rfl) ?_
          refine y_ld (x := .int z) rfl rfl (fun d => rfl) ?_
          refine y_cV (D' := 11) (as := [.ref 170, .int z]) rfl rfl rfl rfl rfl (md170 hM) ⟨rfl, (Nat.le_of_ble_eq_true rfl), (Nat.le_of_ble_eq_true rfl)⟩ (by decide) ?_
          refine y_ent (lv' := [(0, .ref 170), (1, .int z)]) (Nat.le_of_ble_eq_true rfl) rfl ?_
          refine y_ld (x := .ref 170) rfl rfl (fun d => rfl) ?_
          refine y_ic rfl rfl ?_
          refine y_cV (D' := 10) (as := [.ref 170, iv 3]) rfl rfl rfl rfl rfl (md170 hM) ⟨rfl, (Nat.le_of_ble_eq_true rfl), (Nat.le_of_ble_eq_true rfl)⟩ (by decide) ?_
          refine y_ent (lv' := [(0, .ref 170), (1, iv 3)]) (Nat.le_of_ble_eq_true rfl) rfl ?_
          refine y_ld (x := .ref 170) rfl rfl (fun d => rfl) ?_
          refine y_gI (i := 40) (e := 0) rfl rfl rfl (md170 hM) rfl rfl ?_
          refine y_bi rfl rfl (by decide) ?_
          refine y_jge rfl rfl rfl (by decide) (fun g65 => absurd g65 (by decide)) (fun g65 => ?_)
          refine y_ld (x := .ref 170) rfl rfl (fun d => rfl) ?_
          refine y_gR (i := 39) rfl rfl rfl (md170 hM) rfl ?_
          refine y_ld (x := .ref 170) rfl rfl (fun d => rfl) ?_
          refine y_gI (i := 40) (e := 0) rfl rfl rfl (md170 hM) rfl rfl ?_
          refine y_ld (x := iv 3) rfl rfl (fun d => rfl) ?_
          refine y_ist (q := 0) rfl rfl (md192 hM) (by decide) (by decide) rfl ?_
          refine y_ld (x := .ref 170) rfl rfl (fun d => rfl) ?_
          refine y_in rfl rfl (fun d => rfl) ?_
          refine y_gI (i := 40) (e := 0) rfl rfl rfl (md170 hM) rfl rfl ?_
          refine y_ic rfl rfl ?_
          refine y_add (z := 1) rfl rfl rfl ?_
          refine y_pI (i := 40) rfl rfl rfl (md170 hM) rfl rfl ?_
          refine y_ret rfl (fun d => rfl) ?_
          refine y_n0 ?_
          refine y_ld (x := .ref 170) rfl rfl (fun d => rfl) ?_
          refine y_ld (x := .int z) rfl rfl (fun d => rfl) ?_
          refine y_cV (D' := 10) (as := [.ref 170, .int z]) rfl rfl rfl rfl rfl (md170 hM) ⟨rfl, (Nat.le_of_ble_eq_true rfl), (Nat.le_of_ble_eq_true rfl)⟩ (by decide) ?_
          refine y_ent (lv' := [(0, .ref 170), (1, .int z)]) (Nat.le_of_ble_eq_true rfl) rfl ?_
          refine y_ld (x := .ref 170) rfl rfl (fun d => rfl) ?_
          refine y_gI (i := 41) (e := 1) rfl rfl rfl (md170 hM) rfl rfl ?_
          refine y_ic rfl rfl ?_
          refine y_jne rfl rfl rfl (by decide) (fun g66 => ?_) (fun g66 => absurd g66 (by decide))
          refine y_ld (x := .ref 170) rfl rfl (fun d => rfl) ?_
          refine y_gI (i := 41) (e := 1) rfl rfl rfl (md170 hM) rfl rfl ?_
          refine y_ic rfl rfl ?_
          refine y_cS (D' := 9) (as := [iv 1, iv 1]) rfl (by decide) rfl rfl rfl rfl ⟨(Nat.le_of_ble_eq_true rfl), (Nat.le_of_ble_eq_true rfl)⟩ (by decide) ?_
          refine y_ent (lv' := [(0, iv 1), (1, iv 1)]) (Nat.le_of_ble_eq_true rfl) rfl ?_
          refine y_ld (x := iv 1) rfl rfl (fun d => rfl) ?_
          refine y_zeq rfl rfl rfl (by decide) (fun g67 => absurd g67 (by decide)) (fun g67 => ?_)
          refine y_ld (x := iv 1) rfl rfl (fun d => rfl) ?_
          refine y_ld (x := iv 1) rfl rfl (fun d => rfl) ?_
          refine y_jeq rfl rfl rfl (by decide) (fun g68 => ?_) (fun g68 => absurd g68 (by decide))
          refine y_ic rfl rfl ?_
          refine y_go rfl rfl ?_
          refine y_rI rfl (by decide) ?_
          refine y_nv ?_
          refine y_zeq rfl rfl rfl (by decide) (fun g69 => absurd g69 (by decide)) (fun g69 => ?_)
          refine y_ld (x := .ref 170) rfl rfl (fun d => rfl) ?_
          refine y_bi rfl rfl (by decide) ?_
          refine y_cV (D' := 9) (as := [.ref 170, iv 11]) rfl rfl rfl rfl rfl (md170 hM) ⟨rfl, (Nat.le_of_ble_eq_true rfl), (Nat.le_of_ble_eq_true rfl)⟩ (by decide) ?_
          refine y_ent (lv' := [(0, .ref 170), (1, iv 11)]) (Nat.le_of_ble_eq_true rfl) rfl ?_
          refine y_ld (x := .ref 170) rfl rfl (fun d => rfl) ?_
          refine y_gI (i := 40) (e := 1) rfl rfl rfl (md170 hM) rfl rfl ?_
          refine y_bi rfl rfl (by decide) ?_
          refine y_jge rfl rfl rfl (by decide) (fun g70 => absurd g70 (by decide)) (fun g70 => ?_)
          refine y_ld (x := .ref 170) rfl rfl (fun d => rfl) ?_
          refine y_gR (i := 39) rfl rfl rfl (md170 hM) rfl ?_
          refine y_ld (x := .ref 170) rfl rfl (fun d => rfl) ?_
          refine y_gI (i := 40) (e := 1) rfl rfl rfl (md170 hM) rfl rfl ?_
          refine y_ld (x := iv 11) rfl rfl (fun d => rfl) ?_
          refine y_ist (q := 1) rfl rfl (md192 hM) (by decide) (by decide) rfl ?_
          refine y_ld (x := .ref 170) rfl rfl (fun d => rfl) ?_
          refine y_in rfl rfl (fun d => rfl) ?_
          refine y_gI (i := 40) (e := 1) rfl rfl rfl (md170 hM) rfl rfl ?_
          refine y_ic rfl rfl ?_
          refine y_add (z := 2) rfl rfl rfl ?_
          refine y_pI (i := 40) rfl rfl rfl (md170 hM) rfl rfl ?_
          refine y_ret rfl (fun d => rfl) ?_
          refine y_n0 ?_
          refine y_ld (x := .ref 170) rfl rfl (fun d => rfl) ?_
          refine y_ld (x := .int z) rfl rfl (fun d => rfl) ?_
          refine y_ic rfl rfl ?_
          refine y_in rfl rfl (fun d => rfl) ?_
          refine y_cV (D' := 9) (as := [.ref 170, .int (z * (Int32.ofInt 3))]) rfl rfl rfl rfl rfl (md170 hM) ⟨rfl, (Nat.le_of_ble_eq_true rfl), (Nat.le_of_ble_eq_true rfl)⟩ (by decide) ?_
          refine y_ent (lv' := [(0, .ref 170), (1, .int (z * (Int32.ofInt 3)))]) (Nat.le_of_ble_eq_true rfl) rfl ?_
          refine y_ld (x := .ref 170) rfl rfl (fun d => rfl) ?_
          refine y_ic rfl rfl ?_
          refine y_cV (D' := 8) (as := [.ref 170, iv 2]) rfl rfl rfl rfl rfl (md170 hM) ⟨rfl, (Nat.le_of_ble_eq_true rfl), (Nat.le_of_ble_eq_true rfl)⟩ (by decide) ?_
          refine y_ent (lv' := [(0, .ref 170), (1, iv 2)]) (Nat.le_of_ble_eq_true rfl) rfl ?_
          refine y_ld (x := .ref 170) rfl rfl (fun d => rfl) ?_
          refine y_gI (i := 40) (e := 2) rfl rfl rfl (md170 hM) rfl rfl ?_
          refine y_bi rfl rfl (by decide) ?_
          refine y_jge rfl rfl rfl (by decide) (fun g71 => absurd g71 (by decide)) (fun g71 => ?_)
          refine y_ld (x := .ref 170) rfl rfl (fun d => rfl) ?_
          refine y_gR (i := 39) rfl rfl rfl (md170 hM) rfl ?_
          refine y_ld (x := .ref 170) rfl rfl (fun d => rfl) ?_
          refine y_gI (i := 40) (e := 2) rfl rfl rfl (md170 hM) rfl rfl ?_
          refine y_ld (x := iv 2) rfl rfl (fun d => rfl) ?_
          refine y_ist (q := 2) rfl rfl (md192 hM) (by decide) (by decide) rfl ?_
          refine y_ld (x := .ref 170) rfl rfl (fun d => rfl) ?_
          refine y_in rfl rfl (fun d => rfl) ?_
          refine y_gI (i := 40) (e := 2) rfl rfl rfl (md170 hM) rfl rfl ?_
          refine y_ic rfl rfl ?_
          refine y_add (z := 3) rfl rfl rfl ?_
          refine y_pI (i := 40) rfl rfl rfl (md170 hM) rfl rfl ?_
          refine y_ret rfl (fun d => rfl) ?_
          refine y_n0 ?_
          refine y_ld (x := .ref 170) rfl rfl (fun d => rfl) ?_
          refine y_ld (x := .int (z * (Int32.ofInt 3))) rfl rfl (fun d => rfl) ?_
          refine y_cV (D' := 8) (as := [.ref 170, .int (z * (Int32.ofInt 3))]) rfl rfl rfl rfl rfl (md170 hM) ⟨rfl, (Nat.le_of_ble_eq_true rfl), (Nat.le_of_ble_eq_true rfl)⟩ (by decide) ?_
          refine y_ent (lv' := [(0, .ref 170), (1, .int (z * (Int32.ofInt 3)))]) (Nat.le_of_ble_eq_true rfl) rfl ?_
          refine y_ld (x := .ref 170) rfl rfl (fun d => rfl) ?_
          refine y_gI (i := 41) (e := 1) rfl rfl rfl (md170 hM) rfl rfl ?_
          refine y_ic rfl rfl ?_
          refine y_jne rfl rfl rfl (by decide) (fun g72 => ?_) (fun g72 => absurd g72 (by decide))
          refine y_ld (x := .ref 170) rfl rfl (fun d => rfl) ?_
          refine y_gI (i := 41) (e := 1) rfl rfl rfl (md170 hM) rfl rfl ?_
          refine y_bi rfl rfl (by decide) ?_
          refine y_jne rfl rfl rfl (by decide) (fun g73 => ?_) (fun g73 => absurd g73 (by decide))
          refine y_ld (x := .ref 170) rfl rfl (fun d => rfl) ?_
          refine y_ld (x := .int (z * (Int32.ofInt 3))) rfl rfl (fun d => rfl) ?_
          refine y_cV (D' := 7) (as := [.ref 170, .int (z * (Int32.ofInt 3))]) rfl rfl rfl rfl rfl (md170 hM) ⟨rfl, (Nat.le_of_ble_eq_true rfl), (Nat.le_of_ble_eq_true rfl)⟩ (by decide) ?_
          refine y_ent (lv' := [(0, .ref 170), (1, .int (z * (Int32.ofInt 3)))]) (Nat.le_of_ble_eq_true rfl) rfl ?_
          refine y_ld (x := .ref 170) rfl rfl (fun d => rfl) ?_
          refine y_ic rfl rfl ?_
          refine y_cV (D' := 6) (as := [.ref 170, iv 1]) rfl rfl rfl rfl rfl (md170 hM) ⟨rfl, (Nat.le_of_ble_eq_true rfl), (Nat.le_of_ble_eq_true rfl)⟩ (by decide) ?_
          refine y_ent (lv' := [(0, .ref 170), (1, iv 1)]) (Nat.le_of_ble_eq_true rfl) rfl ?_
          refine y_ld (x := .ref 170) rfl rfl (fun d => rfl) ?_
          refine y_gI (i := 40) (e := 3) rfl rfl rfl (md170 hM) rfl rfl ?_
          refine y_bi rfl rfl (by decide) ?_
          refine y_jge rfl rfl rfl (by decide) (fun g74 => absurd g74 (by decide)) (fun g74 => ?_)
          refine y_ld (x := .ref 170) rfl rfl (fun d => rfl) ?_
          refine y_gR (i := 39) rfl rfl rfl (md170 hM) rfl ?_
          refine y_ld (x := .ref 170) rfl rfl (fun d => rfl) ?_
          refine y_gI (i := 40) (e := 3) rfl rfl rfl (md170 hM) rfl rfl ?_
          refine y_ld (x := iv 1) rfl rfl (fun d => rfl) ?_
          refine y_ist (q := 3) rfl rfl (md192 hM) (by decide) (by decide) rfl ?_
          refine y_ld (x := .ref 170) rfl rfl (fun d => rfl) ?_
          refine y_in rfl rfl (fun d => rfl) ?_
          refine y_gI (i := 40) (e := 3) rfl rfl rfl (md170 hM) rfl rfl ?_
          refine y_ic rfl rfl ?_
          refine y_add (z := 4) rfl rfl rfl ?_
          refine y_pI (i := 40) rfl rfl rfl (md170 hM) rfl rfl ?_
          refine y_ret rfl (fun d => rfl) ?_
          refine y_n0 ?_
          refine y_ld (x := .int (z * (Int32.ofInt 3))) rfl rfl (fun d => rfl) ?_
          refine y_ld (x := .ref 170) rfl rfl (fun d => rfl) ?_
          refine y_gI (i := 42) (e := ((x.toNat : Nat) : Int)) rfl rfl rfl (md170 hM) rfl rfl ?_
          refine y_in rfl rfl (fun d => rfl) ?_
          refine y_ret rfl (fun d => rfl) ?_
          refine y_nv ?_
          refine y_ret rfl (fun d => rfl) ?_
          refine y_nv ?_
          refine y_ld (x := .ref 170) rfl rfl (fun d => rfl) ?_
          refine y_gI (i := 43) (e := ((tl (V 171 (178 + x.toNat)).toNat).length : Int)) rfl rfl rfl (md170 hM) rfl rfl ?_
          refine y_in rfl rfl (fun d => rfl) ?_
          refine y_ret rfl (fun d => rfl) ?_
          refine y_nv ?_
          refine y_ret rfl (fun d => rfl) ?_
          refine y_nv ?_
          refine y_ic rfl rfl ?_
          refine y_in rfl rfl (fun d => rfl) ?_
          refine y_ret rfl (fun d => rfl) ?_
          refine y_nv ?_
          refine y_ret rfl (fun d => rfl) ?_
          refine y_nv ?_
          refine y_ret rfl (fun d => rfl) ?_
          have k2 := k1 (by omega)
          rw [hq, hy3] at k2
          exact k2 _ (fun k h8 h9 => by rw [v_up_ne h8, v_up_ne h9, v_up_ne h8, v_up_ne h9, v_up_ne h8, v_up_ne h9, v_up_ne h8, v_up_ne h9, v_up_ne h8, v_up_ne h8, v_up_ne h8, v_up_ne h8]) (fun i hi => by rw [v_up_ni (by omega), v_up_ne (by decide), v_up_ni (by omega), v_up_ne (by decide), v_up_ni (by omega), v_up_ne (by decide), v_up_ni (by omega), v_up_ne (by decide), v_up_ni (by omega), v_up_ni (by omega), v_up_ni (by omega), v_up_ni (by omega)]) ⟨by show (0 : Int) ≤ 4; decide, by show (4 : Int) ≤ 20; decide⟩
      · rcases (show y = 0 ∨ y = 1 ∨ y = 2 by omega) with hy3 | hy3 | hy3
        · refine y_lv (l' := [(0, .ref 170), (1, iv ((x.toNat : Nat) : Int)), (2, iv 0), (3, .int z)]) rfl ⟨rfl, congrArg (fun e => some (iv e)) (by omega), congrArg (fun e => some (iv e)) hy3, rfl, trivial⟩ ?_
          refine y_ld (x := .ref 170) rfl rfl (fun d => rfl) ?_
          refine y_ld (x := .ref 170) rfl rfl (fun d => rfl) ?_
          refine y_gR (i := 1) rfl rfl rfl (md170 hM) rfl ?_
          refine y_si rfl rfl (by decide) ?_
          refine y_ld (x := iv ((x.toNat : Nat) : Int)) rfl rfl (fun d => rfl) ?_
          refine y_add (z := (170 + ((x.toNat : Nat) : Int))) rfl rfl rfl ?_
          refine y_ild (x := 2) (q := (170 + x.toNat)) rfl rfl (md171 hM) (by omega) (by decide) (by omega) hq ?_
          refine y_pI (i := 41) rfl rfl rfl (md170 hM) rfl rfl ?_
          refine y_ld (x := .ref 170) rfl rfl (fun d => rfl) ?_
          refine y_ld (x := iv ((x.toNat : Nat) : Int)) rfl rfl (fun d => rfl) ?_
          refine y_pI (i := 42) rfl rfl rfl (md170 hM) rfl rfl ?_
          refine y_ld (x := .ref 170) rfl rfl (fun d => rfl) ?_
          refine y_ld (x := .ref 170) rfl rfl (fun d => rfl) ?_
          refine y_gR (i := 6) rfl rfl rfl (md170 hM) rfl ?_
          refine y_ld (x := .ref 170) rfl rfl (fun d => rfl) ?_
          refine y_gR (i := 1) rfl rfl rfl (md170 hM) rfl ?_
          refine y_si rfl rfl (by decide) ?_
          refine y_ld (x := iv ((x.toNat : Nat) : Int)) rfl rfl (fun d => rfl) ?_
          refine y_add (z := (178 + ((x.toNat : Nat) : Int))) rfl rfl rfl ?_
          refine y_ild (x := (((V 171 (178 + x.toNat)).toNat : Nat) : Int)) (q := (178 + x.toNat)) rfl rfl (md171 hM) (by omega) (by decide) (by omega) (by rw [v_up_ne (by decide), v_up_ne (by decide), v_up_ne (by decide)]; omega) ?_
          refine y_ild (x := ((tl (V 171 (178 + x.toNat)).toNat).length : Int)) (q := ((V 171 (178 + x.toNat)).toNat)) rfl rfl (md175 hM) (by omega) (by decide) (by omega) hM2 ?_
          refine y_pI (i := 43) rfl rfl rfl (md170 hM) rfl rfl ?_
          refine y_ld (x := iv 0) rfl rfl (fun d => rfl) ?_
          refine y_zne rfl rfl rfl (by decide) (fun g75 => absurd g75 (by decide)) (fun g75 => ?_)
          refine y_ld (x := .ref 170) rfl rfl (fun d => rfl) ?_
          refine y_ld (x := .int z) rfl rfl (fun d => rfl) ?_
          refine y_cV (D' := 12) (as := [.ref 170, .int z]) rfl rfl rfl rfl rfl (md170 hM) ⟨rfl, (Nat.le_of_ble_eq_true rfl), (Nat.le_of_ble_eq_true rfl)⟩ (by decide) ?_
          refine y_ent (lv' := [(0, .ref 170), (1, .int z)]) (Nat.le_of_ble_eq_true rfl) rfl ?_
          refine y_ld (x := .ref 170) rfl rfl (fun d => rfl) ?_
          refine y_gI (i := 41) (e := 2) rfl rfl rfl (md170 hM) rfl rfl ?_
          refine y_ic rfl rfl ?_
          refine y_jne rfl rfl rfl (by decide) (fun g76 => absurd g76 (by decide)) (fun g76 => ?_)
          refine y_ld (x := .ref 170) rfl rfl (fun d => rfl) ?_
          refine y_bi rfl rfl (by decide) ?_
          refine y_cV (D' := 11) (as := [.ref 170, iv 21]) rfl rfl rfl rfl rfl (md170 hM) ⟨rfl, (Nat.le_of_ble_eq_true rfl), (Nat.le_of_ble_eq_true rfl)⟩ (by decide) ?_
          refine y_ent (lv' := [(0, .ref 170), (1, iv 21)]) (Nat.le_of_ble_eq_true rfl) rfl ?_
          refine y_ld (x := .ref 170) rfl rfl (fun d => rfl) ?_
          refine y_gI (i := 40) (e := 0) rfl rfl rfl (md170 hM) rfl rfl ?_
          refine y_bi rfl rfl (by decide) ?_
          refine y_jge rfl rfl rfl (by decide) (fun g77 => absurd g77 (by decide)) (fun g77 => ?_)
          refine y_ld (x := .ref 170) rfl rfl (fun d => rfl) ?_
          refine y_gR (i := 39) rfl rfl rfl (md170 hM) rfl ?_
          refine y_ld (x := .ref 170) rfl rfl (fun d => rfl) ?_
          refine y_gI (i := 40) (e := 0) rfl rfl rfl (md170 hM) rfl rfl ?_
          refine y_ld (x := iv 21) rfl rfl (fun d => rfl) ?_
          refine y_ist (q := 0) rfl rfl (md192 hM) (by decide) (by decide) rfl ?_
          refine y_ld (x := .ref 170) rfl rfl (fun d => rfl) ?_
          refine y_in rfl rfl (fun d => rfl) ?_
          refine y_gI (i := 40) (e := 0) rfl rfl rfl (md170 hM) rfl rfl ?_
          refine y_ic rfl rfl ?_
          refine y_add (z := 1) rfl rfl rfl ?_
          refine y_pI (i := 40) rfl rfl rfl (md170 hM) rfl rfl ?_
          refine y_ret rfl (fun d => rfl) ?_
          refine y_n0 ?_
          refine y_ld (x := .ref 170) rfl rfl (fun d => rfl) ?_
          refine y_ld (x := .int z) rfl rfl (fun d => rfl) ?_
          refine y_cV (D' := 11) (as := [.ref 170, .int z]) rfl rfl rfl rfl rfl (md170 hM) ⟨rfl, (Nat.le_of_ble_eq_true rfl), (Nat.le_of_ble_eq_true rfl)⟩ (by decide) ?_
          refine y_ent (lv' := [(0, .ref 170), (1, .int z)]) (Nat.le_of_ble_eq_true rfl) rfl ?_
          refine y_ld (x := .ref 170) rfl rfl (fun d => rfl) ?_
          refine y_ic rfl rfl ?_
          refine y_cV (D' := 10) (as := [.ref 170, iv 1]) rfl rfl rfl rfl rfl (md170 hM) ⟨rfl, (Nat.le_of_ble_eq_true rfl), (Nat.le_of_ble_eq_true rfl)⟩ (by decide) ?_
          refine y_ent (lv' := [(0, .ref 170), (1, iv 1)]) (Nat.le_of_ble_eq_true rfl) rfl ?_
          refine y_ld (x := .ref 170) rfl rfl (fun d => rfl) ?_
          refine y_gI (i := 40) (e := 1) rfl rfl rfl (md170 hM) rfl rfl ?_
          refine y_bi rfl rfl (by decide) ?_
          refine y_jge rfl rfl rfl (by decide) (fun g78 => absurd g78 (by decide)) (fun g78 => ?_)
          refine y_ld (x := .ref 170) rfl rfl (fun d => rfl) ?_
          refine y_gR (i := 39) rfl rfl rfl (md170 hM) rfl ?_
          refine y_ld (x := .ref 170) rfl rfl (fun d => rfl) ?_
          refine y_gI (i := 40) (e := 1) rfl rfl rfl (md170 hM) rfl rfl ?_
          refine y_ld (x := iv 1) rfl rfl (fun d => rfl) ?_
          refine y_ist (q := 1) rfl rfl (md192 hM) (by decide) (by decide) rfl ?_
          refine y_ld (x := .ref 170) rfl rfl (fun d => rfl) ?_
          refine y_in rfl rfl (fun d => rfl) ?_
          refine y_gI (i := 40) (e := 1) rfl rfl rfl (md170 hM) rfl rfl ?_
          refine y_ic rfl rfl ?_
          refine y_add (z := 2) rfl rfl rfl ?_
          refine y_pI (i := 40) rfl rfl rfl (md170 hM) rfl rfl ?_
          refine y_ret rfl (fun d => rfl) ?_
          refine y_n0 ?_
          refine y_ld (x := .int z) rfl rfl (fun d => rfl) ?_
          refine y_ld (x := .ref 170) rfl rfl (fun d => rfl) ?_
          refine y_gI (i := 42) (e := ((x.toNat : Nat) : Int)) rfl rfl rfl (md170 hM) rfl rfl ?_
          refine y_in rfl rfl (fun d => rfl) ?_
          refine y_ret rfl (fun d => rfl) ?_
          refine y_nv ?_
          refine y_in rfl rfl (fun d => rfl) ?_
          refine y_ret rfl (fun d => rfl) ?_
          refine y_nv ?_
          refine y_go rfl rfl ?_
          refine y_ret rfl (fun d => rfl) ?_
          have k2 := k1 (by omega)
          rw [hq, hy3] at k2
          exact k2 _ (fun k h8 h9 => by rw [v_up_ne h8, v_up_ne h9, v_up_ne h8, v_up_ne h9, v_up_ne h8, v_up_ne h8, v_up_ne h8, v_up_ne h8]) (fun i hi => by rw [v_up_ni (by omega), v_up_ne (by decide), v_up_ni (by omega), v_up_ne (by decide), v_up_ni (by omega), v_up_ni (by omega), v_up_ni (by omega), v_up_ni (by omega)]) ⟨by show (0 : Int) ≤ 2; decide, by show (2 : Int) ≤ 20; decide⟩
        · refine y_lv (l' := [(0, .ref 170), (1, iv ((x.toNat : Nat) : Int)), (2, iv 1), (3, .int z)]) rfl ⟨rfl, congrArg (fun e => some (iv e)) (by omega), congrArg (fun e => some (iv e)) hy3, rfl, trivial⟩ ?_
          refine y_ld (x := .ref 170) rfl rfl (fun d => rfl) ?_
          refine y_ld (x := .ref 170) rfl rfl (fun d => rfl) ?_
          refine y_gR (i := 1) rfl rfl rfl (md170 hM) rfl ?_
          refine y_si rfl rfl (by decide) ?_
          refine y_ld (x := iv ((x.toNat : Nat) : Int)) rfl rfl (fun d => rfl) ?_
          refine y_add (z := (170 + ((x.toNat : Nat) : Int))) rfl rfl rfl ?_
          refine y_ild (x := 2) (q := (170 + x.toNat)) rfl rfl (md171 hM) (by omega) (by decide) (by omega) hq ?_
          refine y_pI (i := 41) rfl rfl rfl (md170 hM) rfl rfl ?_
          refine y_ld (x := .ref 170) rfl rfl (fun d => rfl) ?_
          refine y_ld (x := iv ((x.toNat : Nat) : Int)) rfl rfl (fun d => rfl) ?_
          refine y_pI (i := 42) rfl rfl rfl (md170 hM) rfl rfl ?_
          refine y_ld (x := .ref 170) rfl rfl (fun d => rfl) ?_
          refine y_ld (x := .ref 170) rfl rfl (fun d => rfl) ?_
          refine y_gR (i := 6) rfl rfl rfl (md170 hM) rfl ?_
          refine y_ld (x := .ref 170) rfl rfl (fun d => rfl) ?_
          refine y_gR (i := 1) rfl rfl rfl (md170 hM) rfl ?_
          refine y_si rfl rfl (by decide) ?_
          refine y_ld (x := iv ((x.toNat : Nat) : Int)) rfl rfl (fun d => rfl) ?_
          refine y_add (z := (178 + ((x.toNat : Nat) : Int))) rfl rfl rfl ?_
          refine y_ild (x := (((V 171 (178 + x.toNat)).toNat : Nat) : Int)) (q := (178 + x.toNat)) rfl rfl (md171 hM) (by omega) (by decide) (by omega) (by rw [v_up_ne (by decide), v_up_ne (by decide), v_up_ne (by decide)]; omega) ?_
          refine y_ild (x := ((tl (V 171 (178 + x.toNat)).toNat).length : Int)) (q := ((V 171 (178 + x.toNat)).toNat)) rfl rfl (md175 hM) (by omega) (by decide) (by omega) hM2 ?_
          refine y_pI (i := 43) rfl rfl rfl (md170 hM) rfl rfl ?_
          refine y_ld (x := iv 1) rfl rfl (fun d => rfl) ?_
          refine y_zne rfl rfl rfl (by decide) (fun g79 => ?_) (fun g79 => absurd g79 (by decide))
          refine y_ld (x := iv 1) rfl rfl (fun d => rfl) ?_
          refine y_ic rfl rfl ?_
          refine y_jne rfl rfl rfl (by decide) (fun g80 => absurd g80 (by decide)) (fun g80 => ?_)
          refine y_ld (x := .ref 170) rfl rfl (fun d => rfl) ?_
          refine y_ld (x := .int z) rfl rfl (fun d => rfl) ?_
          refine y_cV (D' := 12) (as := [.ref 170, .int z]) rfl rfl rfl rfl rfl (md170 hM) ⟨rfl, (Nat.le_of_ble_eq_true rfl), (Nat.le_of_ble_eq_true rfl)⟩ (by decide) ?_
          refine y_ent (lv' := [(0, .ref 170), (1, .int z)]) (Nat.le_of_ble_eq_true rfl) rfl ?_
          refine y_ld (x := .ref 170) rfl rfl (fun d => rfl) ?_
          refine y_gI (i := 41) (e := 2) rfl rfl rfl (md170 hM) rfl rfl ?_
          refine y_ic rfl rfl ?_
          refine y_jne rfl rfl rfl (by decide) (fun g81 => ?_) (fun g81 => absurd g81 (by decide))
          refine y_ld (x := .ref 170) rfl rfl (fun d => rfl) ?_
          refine y_gI (i := 41) (e := 2) rfl rfl rfl (md170 hM) rfl rfl ?_
          refine y_ic rfl rfl ?_
          refine y_cS (D' := 11) (as := [iv 2, iv 1]) rfl (by decide) rfl rfl rfl rfl ⟨(Nat.le_of_ble_eq_true rfl), (Nat.le_of_ble_eq_true rfl)⟩ (by decide) ?_
          refine y_ent (lv' := [(0, iv 2), (1, iv 1)]) (Nat.le_of_ble_eq_true rfl) rfl ?_
          refine y_ld (x := iv 1) rfl rfl (fun d => rfl) ?_
          refine y_zeq rfl rfl rfl (by decide) (fun g82 => absurd g82 (by decide)) (fun g82 => ?_)
          refine y_ld (x := iv 1) rfl rfl (fun d => rfl) ?_
          refine y_ld (x := iv 2) rfl rfl (fun d => rfl) ?_
          refine y_jeq rfl rfl rfl (by decide) (fun g83 => absurd g83 (by decide)) (fun g83 => ?_)
          refine y_ld (x := iv 1) rfl rfl (fun d => rfl) ?_
          refine y_ic rfl rfl ?_
          refine y_jne rfl rfl rfl (by decide) (fun g84 => absurd g84 (by decide)) (fun g84 => ?_)
          refine y_ld (x := iv 2) rfl rfl (fun d => rfl) ?_
          refine y_ic rfl rfl ?_
          refine y_jeq rfl rfl rfl (by decide) (fun g85 => absurd g85 (by decide)) (fun g85 => ?_)
          refine y_ld (x := iv 1) rfl rfl (fun d => rfl) ?_
          refine y_ic rfl rfl ?_
          refine y_jne rfl rfl rfl (by decide) (fun g86 => ?_) (fun g86 => absurd g86 (by decide))
          refine y_ic rfl rfl ?_
          refine y_rI rfl (by decide) ?_
          refine y_nv ?_
          refine y_zeq rfl rfl rfl (by decide) (fun g87 => ?_) (fun g87 => absurd g87 (by decide))
          refine y_ld (x := .ref 170) rfl rfl (fun d => rfl) ?_
          refine y_ld (x := .int z) rfl rfl (fun d => rfl) ?_
          refine y_cV (D' := 11) (as := [.ref 170, .int z]) rfl rfl rfl rfl rfl (md170 hM) ⟨rfl, (Nat.le_of_ble_eq_true rfl), (Nat.le_of_ble_eq_true rfl)⟩ (by decide) ?_
          refine y_ent (lv' := [(0, .ref 170), (1, .int z)]) (Nat.le_of_ble_eq_true rfl) rfl ?_
          refine y_ld (x := .ref 170) rfl rfl (fun d => rfl) ?_
          refine y_ic rfl rfl ?_
          refine y_cV (D' := 10) (as := [.ref 170, iv 2]) rfl rfl rfl rfl rfl (md170 hM) ⟨rfl, (Nat.le_of_ble_eq_true rfl), (Nat.le_of_ble_eq_true rfl)⟩ (by decide) ?_
          refine y_ent (lv' := [(0, .ref 170), (1, iv 2)]) (Nat.le_of_ble_eq_true rfl) rfl ?_
          refine y_ld (x := .ref 170) rfl rfl (fun d => rfl) ?_
          refine y_gI (i := 40) (e := 0) rfl rfl rfl (md170 hM) rfl rfl ?_
          refine y_bi rfl rfl (by decide) ?_
          refine y_jge rfl rfl rfl (by decide) (fun g88 => absurd g88 (by decide)) (fun g88 => ?_)
          refine y_ld (x := .ref 170) rfl rfl (fun d => rfl) ?_
          refine y_gR (i := 39) rfl rfl rfl (md170 hM) rfl ?_
          refine y_ld (x := .ref 170) rfl rfl (fun d => rfl) ?_
          refine y_gI (i := 40) (e := 0) rfl rfl rfl (md170 hM) rfl rfl ?_
          refine y_ld (x := iv 2) rfl rfl (fun d => rfl) ?_
          refine y_ist (q := 0) rfl rfl (md192 hM) (by decide) (by decide) rfl ?_
          refine y_ld (x := .ref 170) rfl rfl (fun d => rfl) ?_
          refine y_in rfl rfl (fun d => rfl) ?_
          refine y_gI (i := 40) (e := 0) rfl rfl rfl (md170 hM) rfl rfl ?_
          refine y_ic rfl rfl ?_
          refine y_add (z := 1) rfl rfl rfl ?_
          refine y_pI (i := 40) rfl rfl rfl (md170 hM) rfl rfl ?_
          refine y_ret rfl (fun d => rfl) ?_
          refine y_n0 ?_
          refine y_ld (x := .ref 170) rfl rfl (fun d => rfl) ?_
          refine y_ld (x := .int z) rfl rfl (fun d => rfl) ?_
          refine y_cV (D' := 10) (as := [.ref 170, .int z]) rfl rfl rfl rfl rfl (md170 hM) ⟨rfl, (Nat.le_of_ble_eq_true rfl), (Nat.le_of_ble_eq_true rfl)⟩ (by decide) ?_
          refine y_ent (lv' := [(0, .ref 170), (1, .int z)]) (Nat.le_of_ble_eq_true rfl) rfl ?_
          refine y_ld (x := .ref 170) rfl rfl (fun d => rfl) ?_
          refine y_gI (i := 41) (e := 2) rfl rfl rfl (md170 hM) rfl rfl ?_
          refine y_ic rfl rfl ?_
          refine y_jne rfl rfl rfl (by decide) (fun g89 => absurd g89 (by decide)) (fun g89 => ?_)
          refine y_ld (x := .ref 170) rfl rfl (fun d => rfl) ?_
          refine y_bi rfl rfl (by decide) ?_
          refine y_cV (D' := 9) (as := [.ref 170, iv 21]) rfl rfl rfl rfl rfl (md170 hM) ⟨rfl, (Nat.le_of_ble_eq_true rfl), (Nat.le_of_ble_eq_true rfl)⟩ (by decide) ?_
          refine y_ent (lv' := [(0, .ref 170), (1, iv 21)]) (Nat.le_of_ble_eq_true rfl) rfl ?_
          refine y_ld (x := .ref 170) rfl rfl (fun d => rfl) ?_
          refine y_gI (i := 40) (e := 1) rfl rfl rfl (md170 hM) rfl rfl ?_
          refine y_bi rfl rfl (by decide) ?_
          refine y_jge rfl rfl rfl (by decide) (fun g90 => absurd g90 (by decide)) (fun g90 => ?_)
          refine y_ld (x := .ref 170) rfl rfl (fun d => rfl) ?_
          refine y_gR (i := 39) rfl rfl rfl (md170 hM) rfl ?_
          refine y_ld (x := .ref 170) rfl rfl (fun d => rfl) ?_
          refine y_gI (i := 40) (e := 1) rfl rfl rfl (md170 hM) rfl rfl ?_
          refine y_ld (x := iv 21) rfl rfl (fun d => rfl) ?_
          refine y_ist (q := 1) rfl rfl (md192 hM) (by decide) (by decide) rfl ?_
          refine y_ld (x := .ref 170) rfl rfl (fun d => rfl) ?_
          refine y_in rfl rfl (fun d => rfl) ?_
          refine y_gI (i := 40) (e := 1) rfl rfl rfl (md170 hM) rfl rfl ?_
          refine y_ic rfl rfl ?_
          refine y_add (z := 2) rfl rfl rfl ?_
          refine y_pI (i := 40) rfl rfl rfl (md170 hM) rfl rfl ?_
          refine y_ret rfl (fun d => rfl) ?_
          refine y_n0 ?_
          refine y_ld (x := .ref 170) rfl rfl (fun d => rfl) ?_
          refine y_ld (x := .int z) rfl rfl (fun d => rfl) ?_
          refine y_cV (D' := 9) (as := [.ref 170, .int z]) rfl rfl rfl rfl rfl (md170 hM) ⟨rfl, (Nat.le_of_ble_eq_true rfl), (Nat.le_of_ble_eq_true rfl)⟩ (by decide) ?_
          refine y_ent (lv' := [(0, .ref 170), (1, .int z)]) (Nat.le_of_ble_eq_true rfl) rfl ?_
          refine y_ld (x := .ref 170) rfl rfl (fun d => rfl) ?_
          refine y_ic rfl rfl ?_
          refine y_cV (D' := 8) (as := [.ref 170, iv 1]) rfl rfl rfl rfl rfl (md170 hM) ⟨rfl, (Nat.le_of_ble_eq_true rfl), (Nat.le_of_ble_eq_true rfl)⟩ (by decide) ?_
          refine y_ent (lv' := [(0, .ref 170), (1, iv 1)]) (Nat.le_of_ble_eq_true rfl) rfl ?_
          refine y_ld (x := .ref 170) rfl rfl (fun d => rfl) ?_
          refine y_gI (i := 40) (e := 2) rfl rfl rfl (md170 hM) rfl rfl ?_
          refine y_bi rfl rfl (by decide) ?_
          refine y_jge rfl rfl rfl (by decide) (fun g91 => absurd g91 (by decide)) (fun g91 => ?_)
          refine y_ld (x := .ref 170) rfl rfl (fun d => rfl) ?_
          refine y_gR (i := 39) rfl rfl rfl (md170 hM) rfl ?_
          refine y_ld (x := .ref 170) rfl rfl (fun d => rfl) ?_
          refine y_gI (i := 40) (e := 2) rfl rfl rfl (md170 hM) rfl rfl ?_
          refine y_ld (x := iv 1) rfl rfl (fun d => rfl) ?_
          refine y_ist (q := 2) rfl rfl (md192 hM) (by decide) (by decide) rfl ?_
          refine y_ld (x := .ref 170) rfl rfl (fun d => rfl) ?_
          refine y_in rfl rfl (fun d => rfl) ?_
          refine y_gI (i := 40) (e := 2) rfl rfl rfl (md170 hM) rfl rfl ?_
          refine y_ic rfl rfl ?_
          refine y_add (z := 3) rfl rfl rfl ?_
          refine y_pI (i := 40) rfl rfl rfl (md170 hM) rfl rfl ?_
          refine y_ret rfl (fun d => rfl) ?_
          refine y_n0 ?_
          refine y_ld (x := .int z) rfl rfl (fun d => rfl) ?_
          refine y_ld (x := .ref 170) rfl rfl (fun d => rfl) ?_
          refine y_gI (i := 42) (e := ((x.toNat : Nat) : Int)) rfl rfl rfl (md170 hM) rfl rfl ?_
          refine y_in rfl rfl (fun d => rfl) ?_
          refine y_ret rfl (fun d => rfl) ?_
          refine y_nv ?_
          refine y_in rfl rfl (fun d => rfl) ?_
          refine y_ret rfl (fun d => rfl) ?_
          refine y_nv ?_
          refine y_ld (x := .ref 170) rfl rfl (fun d => rfl) ?_
          refine y_gI (i := 43) (e := ((tl (V 171 (178 + x.toNat)).toNat).length : Int)) rfl rfl rfl (md170 hM) rfl rfl ?_
          refine y_in rfl rfl (fun d => rfl) ?_
          refine y_ret rfl (fun d => rfl) ?_
          refine y_nv ?_
          refine y_ret rfl (fun d => rfl) ?_
          refine y_nv ?_
          refine y_go rfl rfl ?_
          refine y_ret rfl (fun d => rfl) ?_
          have k2 := k1 (by omega)
          rw [hq, hy3] at k2
          exact k2 _ (fun k h8 h9 => by rw [v_up_ne h8, v_up_ne h9, v_up_ne h8, v_up_ne h9, v_up_ne h8, v_up_ne h9, v_up_ne h8, v_up_ne h8, v_up_ne h8, v_up_ne h8]) (fun i hi => by rw [v_up_ni (by omega), v_up_ne (by decide), v_up_ni (by omega), v_up_ne (by decide), v_up_ni (by omega), v_up_ne (by decide), v_up_ni (by omega), v_up_ni (by omega), v_up_ni (by omega), v_up_ni (by omega)]) ⟨by show (0 : Int) ≤ 3; decide, by show (3 : Int) ≤ 20; decide⟩
        · refine y_lv (l' := [(0, .ref 170), (1, iv ((x.toNat : Nat) : Int)), (2, iv 2), (3, .int z)]) rfl ⟨rfl, congrArg (fun e => some (iv e)) (by omega), congrArg (fun e => some (iv e)) hy3, rfl, trivial⟩ ?_
          refine y_ld (x := .ref 170) rfl rfl (fun d => rfl) ?_
          refine y_ld (x := .ref 170) rfl rfl (fun d => rfl) ?_
          refine y_gR (i := 1) rfl rfl rfl (md170 hM) rfl ?_
          refine y_si rfl rfl (by decide) ?_
          refine y_ld (x := iv ((x.toNat : Nat) : Int)) rfl rfl (fun d => rfl) ?_
          refine y_add (z := (170 + ((x.toNat : Nat) : Int))) rfl rfl rfl ?_
          refine y_ild (x := 2) (q := (170 + x.toNat)) rfl rfl (md171 hM) (by omega) (by decide) (by omega) hq ?_
          refine y_pI (i := 41) rfl rfl rfl (md170 hM) rfl rfl ?_
          refine y_ld (x := .ref 170) rfl rfl (fun d => rfl) ?_
          refine y_ld (x := iv ((x.toNat : Nat) : Int)) rfl rfl (fun d => rfl) ?_
          refine y_pI (i := 42) rfl rfl rfl (md170 hM) rfl rfl ?_
          refine y_ld (x := .ref 170) rfl rfl (fun d => rfl) ?_
          refine y_ld (x := .ref 170) rfl rfl (fun d => rfl) ?_
          refine y_gR (i := 6) rfl rfl rfl (md170 hM) rfl ?_
          refine y_ld (x := .ref 170) rfl rfl (fun d => rfl) ?_
          refine y_gR (i := 1) rfl rfl rfl (md170 hM) rfl ?_
          refine y_si rfl rfl (by decide) ?_
          refine y_ld (x := iv ((x.toNat : Nat) : Int)) rfl rfl (fun d => rfl) ?_
          refine y_add (z := (178 + ((x.toNat : Nat) : Int))) rfl rfl rfl ?_
          refine y_ild (x := (((V 171 (178 + x.toNat)).toNat : Nat) : Int)) (q := (178 + x.toNat)) rfl rfl (md171 hM) (by omega) (by decide) (by omega) (by rw [v_up_ne (by decide), v_up_ne (by decide), v_up_ne (by decide)]; omega) ?_
          refine y_ild (x := ((tl (V 171 (178 + x.toNat)).toNat).length : Int)) (q := ((V 171 (178 + x.toNat)).toNat)) rfl rfl (md175 hM) (by omega) (by decide) (by omega) hM2 ?_
          refine y_pI (i := 43) rfl rfl rfl (md170 hM) rfl rfl ?_
          refine y_ld (x := iv 2) rfl rfl (fun d => rfl) ?_
          refine y_zne rfl rfl rfl (by decide) (fun g92 => ?_) (fun g92 => absurd g92 (by decide))
          refine y_ld (x := iv 2) rfl rfl (fun d => rfl) ?_
          refine y_ic rfl rfl ?_
          refine y_jne rfl rfl rfl (by decide) (fun g93 => ?_) (fun g93 => absurd g93 (by decide))
          refine y_ld (x := .ref 170) rfl rfl (fun d => rfl) ?_
          refine y_ld (x := .int z) rfl rfl (fun d => rfl) ?_
          refine y_cV (D' := 12) (as := [.ref 170, .int z]) rfl rfl rfl rfl rfl (md170 hM) ⟨rfl, (Nat.le_of_ble_eq_true rfl), (Nat.le_of_ble_eq_true rfl)⟩ (by decide) ?_
          refine y_ent (lv' := [(0, .ref 170), (1, .int z)]) (Nat.le_of_ble_eq_true rfl) rfl ?_
          refine y_ld (x := .ref 170) rfl rfl (fun d => rfl) ?_
          refine y_gI (i := 41) (e := 2) rfl rfl rfl (md170 hM) rfl rfl ?_
          refine y_ic rfl rfl ?_
          refine y_jne rfl rfl rfl (by decide) (fun g94 => ?_) (fun g94 => absurd g94 (by decide))
          refine y_ld (x := .ref 170) rfl rfl (fun d => rfl) ?_
          refine y_gI (i := 41) (e := 2) rfl rfl rfl (md170 hM) rfl rfl ?_
          refine y_ic rfl rfl ?_
          refine y_cS (D' := 11) (as := [iv 2, iv 3]) rfl (by decide) rfl rfl rfl rfl ⟨(Nat.le_of_ble_eq_true rfl), (Nat.le_of_ble_eq_true rfl)⟩ (by decide) ?_
          refine y_ent (lv' := [(0, iv 2), (1, iv 3)]) (Nat.le_of_ble_eq_true rfl) rfl ?_
          refine y_ld (x := iv 3) rfl rfl (fun d => rfl) ?_
          refine y_zeq rfl rfl rfl (by decide) (fun g95 => absurd g95 (by decide)) (fun g95 => ?_)
          refine y_ld (x := iv 3) rfl rfl (fun d => rfl) ?_
          refine y_ld (x := iv 2) rfl rfl (fun d => rfl) ?_
          refine y_jeq rfl rfl rfl (by decide) (fun g96 => absurd g96 (by decide)) (fun g96 => ?_)
          refine y_ld (x := iv 3) rfl rfl (fun d => rfl) ?_
          refine y_ic rfl rfl ?_
          refine y_jne rfl rfl rfl (by decide) (fun g97 => ?_) (fun g97 => absurd g97 (by decide))
          refine y_ld (x := iv 3) rfl rfl (fun d => rfl) ?_
          refine y_ic rfl rfl ?_
          refine y_jne rfl rfl rfl (by decide) (fun g98 => absurd g98 (by decide)) (fun g98 => ?_)
          refine y_ld (x := iv 2) rfl rfl (fun d => rfl) ?_
          refine y_ic rfl rfl ?_
          refine y_jne rfl rfl rfl (by decide) (fun g99 => ?_) (fun g99 => absurd g99 (by decide))
          refine y_ic rfl rfl ?_
          refine y_rI rfl (by decide) ?_
          refine y_nv ?_
          refine y_zeq rfl rfl rfl (by decide) (fun g100 => ?_) (fun g100 => absurd g100 (by decide))
          refine y_ld (x := .ref 170) rfl rfl (fun d => rfl) ?_
          refine y_ld (x := .int z) rfl rfl (fun d => rfl) ?_
          refine y_cV (D' := 11) (as := [.ref 170, .int z]) rfl rfl rfl rfl rfl (md170 hM) ⟨rfl, (Nat.le_of_ble_eq_true rfl), (Nat.le_of_ble_eq_true rfl)⟩ (by decide) ?_
          refine y_ent (lv' := [(0, .ref 170), (1, .int z)]) (Nat.le_of_ble_eq_true rfl) rfl ?_
          refine y_ld (x := .ref 170) rfl rfl (fun d => rfl) ?_
          refine y_ic rfl rfl ?_
          refine y_cV (D' := 10) (as := [.ref 170, iv 3]) rfl rfl rfl rfl rfl (md170 hM) ⟨rfl, (Nat.le_of_ble_eq_true rfl), (Nat.le_of_ble_eq_true rfl)⟩ (by decide) ?_
          refine y_ent (lv' := [(0, .ref 170), (1, iv 3)]) (Nat.le_of_ble_eq_true rfl) rfl ?_
          refine y_ld (x := .ref 170) rfl rfl (fun d => rfl) ?_
          refine y_gI (i := 40) (e := 0) rfl rfl rfl (md170 hM) rfl rfl ?_
          refine y_bi rfl rfl (by decide) ?_
          refine y_jge rfl rfl rfl (by decide) (fun g101 => absurd g101 (by decide)) (fun g101 => ?_)
          refine y_ld (x := .ref 170) rfl rfl (fun d => rfl) ?_
          refine y_gR (i := 39) rfl rfl rfl (md170 hM) rfl ?_
          refine y_ld (x := .ref 170) rfl rfl (fun d => rfl) ?_
          refine y_gI (i := 40) (e := 0) rfl rfl rfl (md170 hM) rfl rfl ?_
          refine y_ld (x := iv 3) rfl rfl (fun d => rfl) ?_
          refine y_ist (q := 0) rfl rfl (md192 hM) (by decide) (by decide) rfl ?_
          refine y_ld (x := .ref 170) rfl rfl (fun d => rfl) ?_
          refine y_in rfl rfl (fun d => rfl) ?_
          refine y_gI (i := 40) (e := 0) rfl rfl rfl (md170 hM) rfl rfl ?_
          refine y_ic rfl rfl ?_
          refine y_add (z := 1) rfl rfl rfl ?_
          refine y_pI (i := 40) rfl rfl rfl (md170 hM) rfl rfl ?_
          refine y_ret rfl (fun d => rfl) ?_
          refine y_n0 ?_
          refine y_ld (x := .ref 170) rfl rfl (fun d => rfl) ?_
          refine y_ld (x := .int z) rfl rfl (fun d => rfl) ?_
          refine y_cV (D' := 10) (as := [.ref 170, .int z]) rfl rfl rfl rfl rfl (md170 hM) ⟨rfl, (Nat.le_of_ble_eq_true rfl), (Nat.le_of_ble_eq_true rfl)⟩ (by decide) ?_
          refine y_ent (lv' := [(0, .ref 170), (1, .int z)]) (Nat.le_of_ble_eq_true rfl) rfl ?_
          refine y_ld (x := .ref 170) rfl rfl (fun d => rfl) ?_
          refine y_gI (i := 41) (e := 2) rfl rfl rfl (md170 hM) rfl rfl ?_
          refine y_ic rfl rfl ?_
          refine y_jne rfl rfl rfl (by decide) (fun g102 => ?_) (fun g102 => absurd g102 (by decide))
          refine y_ld (x := .ref 170) rfl rfl (fun d => rfl) ?_
          refine y_gI (i := 41) (e := 2) rfl rfl rfl (md170 hM) rfl rfl ?_
          refine y_ic rfl rfl ?_
          refine y_cS (D' := 9) (as := [iv 2, iv 1]) rfl (by decide) rfl rfl rfl rfl ⟨(Nat.le_of_ble_eq_true rfl), (Nat.le_of_ble_eq_true rfl)⟩ (by decide) ?_
          refine y_ent (lv' := [(0, iv 2), (1, iv 1)]) (Nat.le_of_ble_eq_true rfl) rfl ?_
          refine y_ld (x := iv 1) rfl rfl (fun d => rfl) ?_
          refine y_zeq rfl rfl rfl (by decide) (fun g103 => absurd g103 (by decide)) (fun g103 => ?_)
          refine y_ld (x := iv 1) rfl rfl (fun d => rfl) ?_
          refine y_ld (x := iv 2) rfl rfl (fun d => rfl) ?_
          refine y_jeq rfl rfl rfl (by decide) (fun g104 => absurd g104 (by decide)) (fun g104 => ?_)
          refine y_ld (x := iv 1) rfl rfl (fun d => rfl) ?_
          refine y_ic rfl rfl ?_
          refine y_jne rfl rfl rfl (by decide) (fun g105 => absurd g105 (by decide)) (fun g105 => ?_)
          refine y_ld (x := iv 2) rfl rfl (fun d => rfl) ?_
          refine y_ic rfl rfl ?_
          refine y_jeq rfl rfl rfl (by decide) (fun g106 => absurd g106 (by decide)) (fun g106 => ?_)
          refine y_ld (x := iv 1) rfl rfl (fun d => rfl) ?_
          refine y_ic rfl rfl ?_
          refine y_jne rfl rfl rfl (by decide) (fun g107 => ?_) (fun g107 => absurd g107 (by decide))
          refine y_ic rfl rfl ?_
          refine y_rI rfl (by decide) ?_
          refine y_nv ?_
          refine y_zeq rfl rfl rfl (by decide) (fun g108 => ?_) (fun g108 => absurd g108 (by decide))
          refine y_ld (x := .ref 170) rfl rfl (fun d => rfl) ?_
          refine y_ld (x := .int z) rfl rfl (fun d => rfl) ?_
          refine y_cV (D' := 9) (as := [.ref 170, .int z]) rfl rfl rfl rfl rfl (md170 hM) ⟨rfl, (Nat.le_of_ble_eq_true rfl), (Nat.le_of_ble_eq_true rfl)⟩ (by decide) ?_
          refine y_ent (lv' := [(0, .ref 170), (1, .int z)]) (Nat.le_of_ble_eq_true rfl) rfl ?_
          refine y_ld (x := .ref 170) rfl rfl (fun d => rfl) ?_
          refine y_ic rfl rfl ?_
          refine y_cV (D' := 8) (as := [.ref 170, iv 2]) rfl rfl rfl rfl rfl (md170 hM) ⟨rfl, (Nat.le_of_ble_eq_true rfl), (Nat.le_of_ble_eq_true rfl)⟩ (by decide) ?_
          refine y_ent (lv' := [(0, .ref 170), (1, iv 2)]) (Nat.le_of_ble_eq_true rfl) rfl ?_
          refine y_ld (x := .ref 170) rfl rfl (fun d => rfl) ?_
          refine y_gI (i := 40) (e := 1) rfl rfl rfl (md170 hM) rfl rfl ?_
          refine y_bi rfl rfl (by decide) ?_
          refine y_jge rfl rfl rfl (by decide) (fun g109 => absurd g109 (by decide)) (fun g109 => ?_)
          refine y_ld (x := .ref 170) rfl rfl (fun d => rfl) ?_
          refine y_gR (i := 39) rfl rfl rfl (md170 hM) rfl ?_
          refine y_ld (x := .ref 170) rfl rfl (fun d => rfl) ?_
          refine y_gI (i := 40) (e := 1) rfl rfl rfl (md170 hM) rfl rfl ?_
          refine y_ld (x := iv 2) rfl rfl (fun d => rfl) ?_
          refine y_ist (q := 1) rfl rfl (md192 hM) (by decide) (by decide) rfl ?_
          refine y_ld (x := .ref 170) rfl rfl (fun d => rfl) ?_
          refine y_in rfl rfl (fun d => rfl) ?_
          refine y_gI (i := 40) (e := 1) rfl rfl rfl (md170 hM) rfl rfl ?_
          refine y_ic rfl rfl ?_
          refine y_add (z := 2) rfl rfl rfl ?_
          refine y_pI (i := 40) rfl rfl rfl (md170 hM) rfl rfl ?_
          refine y_ret rfl (fun d => rfl) ?_
          refine y_n0 ?_
          refine y_ld (x := .ref 170) rfl rfl (fun d => rfl) ?_
          refine y_ld (x := .int z) rfl rfl (fun d => rfl) ?_
          refine y_cV (D' := 8) (as := [.ref 170, .int z]) rfl rfl rfl rfl rfl (md170 hM) ⟨rfl, (Nat.le_of_ble_eq_true rfl), (Nat.le_of_ble_eq_true rfl)⟩ (by decide) ?_
          refine y_ent (lv' := [(0, .ref 170), (1, .int z)]) (Nat.le_of_ble_eq_true rfl) rfl ?_
          refine y_ld (x := .ref 170) rfl rfl (fun d => rfl) ?_
          refine y_gI (i := 41) (e := 2) rfl rfl rfl (md170 hM) rfl rfl ?_
          refine y_ic rfl rfl ?_
          refine y_jne rfl rfl rfl (by decide) (fun g110 => absurd g110 (by decide)) (fun g110 => ?_)
          refine y_ld (x := .ref 170) rfl rfl (fun d => rfl) ?_
          refine y_bi rfl rfl (by decide) ?_
          refine y_cV (D' := 7) (as := [.ref 170, iv 21]) rfl rfl rfl rfl rfl (md170 hM) ⟨rfl, (Nat.le_of_ble_eq_true rfl), (Nat.le_of_ble_eq_true rfl)⟩ (by decide) ?_
          refine y_ent (lv' := [(0, .ref 170), (1, iv 21)]) (Nat.le_of_ble_eq_true rfl) rfl ?_
          refine y_ld (x := .ref 170) rfl rfl (fun d => rfl) ?_
          refine y_gI (i := 40) (e := 2) rfl rfl rfl (md170 hM) rfl rfl ?_
          refine y_bi rfl rfl (by decide) ?_
          refine y_jge rfl rfl rfl (by decide) (fun g111 => absurd g111 (by decide)) (fun g111 => ?_)
          refine y_ld (x := .ref 170) rfl rfl (fun d => rfl) ?_
          refine y_gR (i := 39) rfl rfl rfl (md170 hM) rfl ?_
          refine y_ld (x := .ref 170) rfl rfl (fun d => rfl) ?_
          refine y_gI (i := 40) (e := 2) rfl rfl rfl (md170 hM) rfl rfl ?_
          refine y_ld (x := iv 21) rfl rfl (fun d => rfl) ?_
          refine y_ist (q := 2) rfl rfl (md192 hM) (by decide) (by decide) rfl ?_
          refine y_ld (x := .ref 170) rfl rfl (fun d => rfl) ?_
          refine y_in rfl rfl (fun d => rfl) ?_
          refine y_gI (i := 40) (e := 2) rfl rfl rfl (md170 hM) rfl rfl ?_
          refine y_ic rfl rfl ?_
          refine y_add (z := 3) rfl rfl rfl ?_
          refine y_pI (i := 40) rfl rfl rfl (md170 hM) rfl rfl ?_
          refine y_ret rfl (fun d => rfl) ?_
          refine y_n0 ?_
          refine y_ld (x := .ref 170) rfl rfl (fun d => rfl) ?_
          refine y_ld (x := .int z) rfl rfl (fun d => rfl) ?_
          refine y_cV (D' := 7) (as := [.ref 170, .int z]) rfl rfl rfl rfl rfl (md170 hM) ⟨rfl, (Nat.le_of_ble_eq_true rfl), (Nat.le_of_ble_eq_true rfl)⟩ (by decide) ?_
          refine y_ent (lv' := [(0, .ref 170), (1, .int z)]) (Nat.le_of_ble_eq_true rfl) rfl ?_
          refine y_ld (x := .ref 170) rfl rfl (fun d => rfl) ?_
          refine y_ic rfl rfl ?_
          refine y_cV (D' := 6) (as := [.ref 170, iv 1]) rfl rfl rfl rfl rfl (md170 hM) ⟨rfl, (Nat.le_of_ble_eq_true rfl), (Nat.le_of_ble_eq_true rfl)⟩ (by decide) ?_
          refine y_ent (lv' := [(0, .ref 170), (1, iv 1)]) (Nat.le_of_ble_eq_true rfl) rfl ?_
          refine y_ld (x := .ref 170) rfl rfl (fun d => rfl) ?_
          refine y_gI (i := 40) (e := 3) rfl rfl rfl (md170 hM) rfl rfl ?_
          refine y_bi rfl rfl (by decide) ?_
          refine y_jge rfl rfl rfl (by decide) (fun g112 => absurd g112 (by decide)) (fun g112 => ?_)
          refine y_ld (x := .ref 170) rfl rfl (fun d => rfl) ?_
          refine y_gR (i := 39) rfl rfl rfl (md170 hM) rfl ?_
          refine y_ld (x := .ref 170) rfl rfl (fun d => rfl) ?_
          refine y_gI (i := 40) (e := 3) rfl rfl rfl (md170 hM) rfl rfl ?_
          refine y_ld (x := iv 1) rfl rfl (fun d => rfl) ?_
          refine y_ist (q := 3) rfl rfl (md192 hM) (by decide) (by decide) rfl ?_
          refine y_ld (x := .ref 170) rfl rfl (fun d => rfl) ?_
          refine y_in rfl rfl (fun d => rfl) ?_
          refine y_gI (i := 40) (e := 3) rfl rfl rfl (md170 hM) rfl rfl ?_
          refine y_ic rfl rfl ?_
          refine y_add (z := 4) rfl rfl rfl ?_
          refine y_pI (i := 40) rfl rfl rfl (md170 hM) rfl rfl ?_
          refine y_ret rfl (fun d => rfl) ?_
          refine y_n0 ?_
          refine y_ld (x := .int z) rfl rfl (fun d => rfl) ?_
          refine y_ld (x := .ref 170) rfl rfl (fun d => rfl) ?_
          refine y_gI (i := 42) (e := ((x.toNat : Nat) : Int)) rfl rfl rfl (md170 hM) rfl rfl ?_
          refine y_in rfl rfl (fun d => rfl) ?_
          refine y_ret rfl (fun d => rfl) ?_
          refine y_nv ?_
          refine y_in rfl rfl (fun d => rfl) ?_
          refine y_ret rfl (fun d => rfl) ?_
          refine y_nv ?_
          refine y_ld (x := .ref 170) rfl rfl (fun d => rfl) ?_
          refine y_gI (i := 43) (e := ((tl (V 171 (178 + x.toNat)).toNat).length : Int)) rfl rfl rfl (md170 hM) rfl rfl ?_
          refine y_in rfl rfl (fun d => rfl) ?_
          refine y_ret rfl (fun d => rfl) ?_
          refine y_nv ?_
          refine y_ret rfl (fun d => rfl) ?_
          refine y_nv ?_
          refine y_ic rfl rfl ?_
          refine y_in rfl rfl (fun d => rfl) ?_
          refine y_ret rfl (fun d => rfl) ?_
          refine y_nv ?_
          refine y_ret rfl (fun d => rfl) ?_
          refine y_nv ?_
          refine y_ret rfl (fun d => rfl) ?_
          have k2 := k1 (by omega)
          rw [hq, hy3] at k2
          exact k2 _ (fun k h8 h9 => by rw [v_up_ne h8, v_up_ne h9, v_up_ne h8, v_up_ne h9, v_up_ne h8, v_up_ne h9, v_up_ne h8, v_up_ne h9, v_up_ne h8, v_up_ne h8, v_up_ne h8, v_up_ne h8]) (fun i hi => by rw [v_up_ni (by omega), v_up_ne (by decide), v_up_ni (by omega), v_up_ne (by decide), v_up_ni (by omega), v_up_ne (by decide), v_up_ni (by omega), v_up_ne (by decide), v_up_ni (by omega), v_up_ni (by omega), v_up_ni (by omega), v_up_ni (by omega)]) ⟨by show (0 : Int) ≤ 4; decide, by show (4 : Int) ≤ 20; decide⟩
      · rcases (show y = 0 ∨ y = 1 ∨ y = 2 by omega) with hy3 | hy3 | hy3
        · refine y_lv (l' := [(0, .ref 170), (1, iv ((x.toNat : Nat) : Int)), (2, iv 0), (3, .int z)]) rfl ⟨rfl, congrArg (fun e => some (iv e)) (by omega), congrArg (fun e => some (iv e)) hy3, rfl, trivial⟩ ?_
          refine y_ld (x := .ref 170) rfl rfl (fun d => rfl) ?_
          refine y_ld (x := .ref 170) rfl rfl (fun d => rfl) ?_
          refine y_gR (i := 1) rfl rfl rfl (md170 hM) rfl ?_
          refine y_si rfl rfl (by decide) ?_
          refine y_ld (x := iv ((x.toNat : Nat) : Int)) rfl rfl (fun d => rfl) ?_
          refine y_add (z := (170 + ((x.toNat : Nat) : Int))) rfl rfl rfl ?_
          refine y_ild (x := 3) (q := (170 + x.toNat)) rfl rfl (md171 hM) (by omega) (by decide) (by omega) hq ?_
          refine y_pI (i := 41) rfl rfl rfl (md170 hM) rfl rfl ?_
          refine y_ld (x := .ref 170) rfl rfl (fun d => rfl) ?_
          refine y_ld (x := iv ((x.toNat : Nat) : Int)) rfl rfl (fun d => rfl) ?_
          refine y_pI (i := 42) rfl rfl rfl (md170 hM) rfl rfl ?_
          refine y_ld (x := .ref 170) rfl rfl (fun d => rfl) ?_
          refine y_ld (x := .ref 170) rfl rfl (fun d => rfl) ?_
          refine y_gR (i := 6) rfl rfl rfl (md170 hM) rfl ?_
          refine y_ld (x := .ref 170) rfl rfl (fun d => rfl) ?_
          refine y_gR (i := 1) rfl rfl rfl (md170 hM) rfl ?_
          refine y_si rfl rfl (by decide) ?_
          refine y_ld (x := iv ((x.toNat : Nat) : Int)) rfl rfl (fun d => rfl) ?_
          refine y_add (z := (178 + ((x.toNat : Nat) : Int))) rfl rfl rfl ?_
          refine y_ild (x := (((V 171 (178 + x.toNat)).toNat : Nat) : Int)) (q := (178 + x.toNat)) rfl rfl (md171 hM) (by omega) (by decide) (by omega) (by rw [v_up_ne (by decide), v_up_ne (by decide), v_up_ne (by decide)]; omega) ?_
          refine y_ild (x := ((tl (V 171 (178 + x.toNat)).toNat).length : Int)) (q := ((V 171 (178 + x.toNat)).toNat)) rfl rfl (md175 hM) (by omega) (by decide) (by omega) hM2 ?_
          refine y_pI (i := 43) rfl rfl rfl (md170 hM) rfl rfl ?_
          refine y_ld (x := iv 0) rfl rfl (fun d => rfl) ?_
          refine y_zne rfl rfl rfl (by decide) (fun g113 => absurd g113 (by decide)) (fun g113 => ?_)
          refine y_ld (x := .ref 170) rfl rfl (fun d => rfl) ?_
          refine y_ld (x := .int z) rfl rfl (fun d => rfl) ?_
          refine y_cV (D' := 12) (as := [.ref 170, .int z]) rfl rfl rfl rfl rfl (md170 hM) ⟨rfl, (Nat.le_of_ble_eq_true rfl), (Nat.le_of_ble_eq_true rfl)⟩ (by decide) ?_
          refine y_ent (lv' := [(0, .ref 170), (1, .int z)]) (Nat.le_of_ble_eq_true rfl) rfl ?_
          refine y_ld (x := .ref 170) rfl rfl (fun d => rfl) ?_
          refine y_gI (i := 41) (e := 3) rfl rfl rfl (md170 hM) rfl rfl ?_
          refine y_ic rfl rfl ?_
          refine y_jne rfl rfl rfl (by decide) (fun g114 => ?_) (fun g114 => absurd g114 (by decide))
          refine y_ld (x := .ref 170) rfl rfl (fun d => rfl) ?_
          refine y_gI (i := 41) (e := 3) rfl rfl rfl (md170 hM) rfl rfl ?_
          refine y_bi rfl rfl (by decide) ?_
          refine y_jne rfl rfl rfl (by decide) (fun g115 => ?_) (fun g115 => absurd g115 (by decide))
          refine y_ld (x := .ref 170) rfl rfl (fun d => rfl) ?_
          refine y_ld (x := .int z) rfl rfl (fun d => rfl) ?_
          refine y_cV (D' := 11) (as := [.ref 170, .int z]) rfl rfl rfl rfl rfl (md170 hM) ⟨rfl, (Nat.le_of_ble_eq_true rfl), (Nat.le_of_ble_eq_true rfl)⟩ (by decide) ?_
          refine y_ent (lv' := [(0, .ref 170), (1, .int z)]) (Nat.le_of_ble_eq_true rfl) rfl ?_
          refine y_ld (x := .ref 170) rfl rfl (fun d => rfl) ?_
          refine y_ic rfl rfl ?_
          refine y_cV (D' := 10) (as := [.ref 170, iv 1]) rfl rfl rfl rfl rfl (md170 hM) ⟨rfl, (Nat.le_of_ble_eq_true rfl), (Nat.le_of_ble_eq_true rfl)⟩ (by decide) ?_
          refine y_ent (lv' := [(0, .ref 170), (1, iv 1)]) (Nat.le_of_ble_eq_true rfl) rfl ?_
          refine y_ld (x := .ref 170) rfl rfl (fun d => rfl) ?_
          refine y_gI (i := 40) (e := 0) rfl rfl rfl (md170 hM) rfl rfl ?_
          refine y_bi rfl rfl (by decide) ?_
          refine y_jge rfl rfl rfl (by decide) (fun g116 => absurd g116 (by decide)) (fun g116 => ?_)
          refine y_ld (x := .ref 170) rfl rfl (fun d => rfl) ?_
          refine y_gR (i := 39) rfl rfl rfl (md170 hM) rfl ?_
          refine y_ld (x := .ref 170) rfl rfl (fun d => rfl) ?_
          refine y_gI (i := 40) (e := 0) rfl rfl rfl (md170 hM) rfl rfl ?_
          refine y_ld (x := iv 1) rfl rfl (fun d => rfl) ?_
          refine y_ist (q := 0) rfl rfl (md192 hM) (by decide) (by decide) rfl ?_
          refine y_ld (x := .ref 170) rfl rfl (fun d => rfl) ?_
          refine y_in rfl rfl (fun d => rfl) ?_
          refine y_gI (i := 40) (e := 0) rfl rfl rfl (md170 hM) rfl rfl ?_
          refine y_ic rfl rfl ?_
          refine y_add (z := 1) rfl rfl rfl ?_
          refine y_pI (i := 40) rfl rfl rfl (md170 hM) rfl rfl ?_
          refine y_ret rfl (fun d => rfl) ?_
          refine y_n0 ?_
          refine y_ld (x := .int z) rfl rfl (fun d => rfl) ?_
          refine y_ld (x := .ref 170) rfl rfl (fun d => rfl) ?_
          refine y_gI (i := 42) (e := ((x.toNat : Nat) : Int)) rfl rfl rfl (md170 hM) rfl rfl ?_
          refine y_in rfl rfl (fun d => rfl) ?_
          refine y_ret rfl (fun d => rfl) ?_
          refine y_nv ?_
          refine y_ret rfl (fun d => rfl) ?_
          refine y_nv ?_
          refine y_go rfl rfl ?_
          refine y_ret rfl (fun d => rfl) ?_
          have k2 := k1 (by omega)
          rw [hq, hy3] at k2
          exact k2 _ (fun k h8 h9 => by rw [v_up_ne h8, v_up_ne h9, v_up_ne h8, v_up_ne h8, v_up_ne h8, v_up_ne h8]) (fun i hi => by rw [v_up_ni (by omega), v_up_ne (by decide), v_up_ni (by omega), v_up_ni (by omega), v_up_ni (by omega), v_up_ni (by omega)]) ⟨by show (0 : Int) ≤ 1; decide, by show (1 : Int) ≤ 20; decide⟩
        · refine y_lv (l' := [(0, .ref 170), (1, iv ((x.toNat : Nat) : Int)), (2, iv 1), (3, .int z)]) rfl ⟨rfl, congrArg (fun e => some (iv e)) (by omega), congrArg (fun e => some (iv e)) hy3, rfl, trivial⟩ ?_
          refine y_ld (x := .ref 170) rfl rfl (fun d => rfl) ?_
          refine y_ld (x := .ref 170) rfl rfl (fun d => rfl) ?_
          refine y_gR (i := 1) rfl rfl rfl (md170 hM) rfl ?_
          refine y_si rfl rfl (by decide) ?_
          refine y_ld (x := iv ((x.toNat : Nat) : Int)) rfl rfl (fun d => rfl) ?_
          refine y_add (z := (170 + ((x.toNat : Nat) : Int))) rfl rfl rfl ?_
          refine y_ild (x := 3) (q := (170 + x.toNat)) rfl rfl (md171 hM) (by omega) (by decide) (by omega) hq ?_
          refine y_pI (i := 41) rfl rfl rfl (md170 hM) rfl rfl ?_
          refine y_ld (x := .ref 170) rfl rfl (fun d => rfl) ?_
          refine y_ld (x := iv ((x.toNat : Nat) : Int)) rfl rfl (fun d => rfl) ?_
          refine y_pI (i := 42) rfl rfl rfl (md170 hM) rfl rfl ?_
          refine y_ld (x := .ref 170) rfl rfl (fun d => rfl) ?_
          refine y_ld (x := .ref 170) rfl rfl (fun d => rfl) ?_
          refine y_gR (i := 6) rfl rfl rfl (md170 hM) rfl ?_
          refine y_ld (x := .ref 170) rfl rfl (fun d => rfl) ?_
          refine y_gR (i := 1) rfl rfl rfl (md170 hM) rfl ?_
          refine y_si rfl rfl (by decide) ?_
          refine y_ld (x := iv ((x.toNat : Nat) : Int)) rfl rfl (fun d => rfl) ?_
          refine y_add (z := (178 + ((x.toNat : Nat) : Int))) rfl rfl rfl ?_
          refine y_ild (x := (((V 171 (178 + x.toNat)).toNat : Nat) : Int)) (q := (178 + x.toNat)) rfl rfl (md171 hM) (by omega) (by decide) (by omega) (by rw [v_up_ne (by decide), v_up_ne (by decide), v_up_ne (by decide)]; omega) ?_
          refine y_ild (x := ((tl (V 171 (178 + x.toNat)).toNat).length : Int)) (q := ((V 171 (178 + x.toNat)).toNat)) rfl rfl (md175 hM) (by omega) (by decide) (by omega) hM2 ?_
          refine y_pI (i := 43) rfl rfl rfl (md170 hM) rfl rfl ?_
          refine y_ld (x := iv 1) rfl rfl (fun d => rfl) ?_
          refine y_zne rfl rfl rfl (by decide) (fun g117 => ?_) (fun g117 => absurd g117 (by decide))
          refine y_ld (x := iv 1) rfl rfl (fun d => rfl) ?_
          refine y_ic rfl rfl ?_
          refine y_jne rfl rfl rfl (by decide) (fun g118 => absurd g118 (by decide)) (fun g118 => ?_)
          refine y_ld (x := .ref 170) rfl rfl (fun d => rfl) ?_
          refine y_ld (x := .int z) rfl rfl (fun d => rfl) ?_
          refine y_cV (D' := 12) (as := [.ref 170, .int z]) rfl rfl rfl rfl rfl (md170 hM) ⟨rfl, (Nat.le_of_ble_eq_true rfl), (Nat.le_of_ble_eq_true rfl)⟩ (by decide) ?_
          refine y_ent (lv' := [(0, .ref 170), (1, .int z)]) (Nat.le_of_ble_eq_true rfl) rfl ?_
          refine y_ld (x := .ref 170) rfl rfl (fun d => rfl) ?_
          refine y_gI (i := 41) (e := 3) rfl rfl rfl (md170 hM) rfl rfl ?_
          refine y_ic rfl rfl ?_
          refine y_jne rfl rfl rfl (by decide) (fun g119 => ?_) (fun g119 => absurd g119 (by decide))
          refine y_ld (x := .ref 170) rfl rfl (fun d => rfl) ?_
          refine y_gI (i := 41) (e := 3) rfl rfl rfl (md170 hM) rfl rfl ?_
          refine y_ic rfl rfl ?_
          refine y_cS (D' := 11) (as := [iv 3, iv 1]) rfl (by decide) rfl rfl rfl rfl ⟨(Nat.le_of_ble_eq_true rfl), (Nat.le_of_ble_eq_true rfl)⟩ (by decide) ?_
          refine y_ent (lv' := [(0, iv 3), (1, iv 1)]) (Nat.le_of_ble_eq_true rfl) rfl ?_
          refine y_ld (x := iv 1) rfl rfl (fun d => rfl) ?_
          refine y_zeq rfl rfl rfl (by decide) (fun g120 => absurd g120 (by decide)) (fun g120 => ?_)
          refine y_ld (x := iv 1) rfl rfl (fun d => rfl) ?_
          refine y_ld (x := iv 3) rfl rfl (fun d => rfl) ?_
          refine y_jeq rfl rfl rfl (by decide) (fun g121 => absurd g121 (by decide)) (fun g121 => ?_)
          refine y_ld (x := iv 1) rfl rfl (fun d => rfl) ?_
          refine y_ic rfl rfl ?_
          refine y_jne rfl rfl rfl (by decide) (fun g122 => absurd g122 (by decide)) (fun g122 => ?_)
          refine y_ld (x := iv 3) rfl rfl (fun d => rfl) ?_
          refine y_ic rfl rfl ?_
          refine y_jeq rfl rfl rfl (by decide) (fun g123 => absurd g123 (by decide)) (fun g123 => ?_)
          refine y_ld (x := iv 1) rfl rfl (fun d => rfl) ?_
          refine y_ic rfl rfl ?_
          refine y_jne rfl rfl rfl (by decide) (fun g124 => ?_) (fun g124 => absurd g124 (by decide))
          refine y_ic rfl rfl ?_
          refine y_rI rfl (by decide) ?_
          refine y_nv ?_
          refine y_zeq rfl rfl rfl (by decide) (fun g125 => ?_) (fun g125 => absurd g125 (by decide))
          refine y_ld (x := .ref 170) rfl rfl (fun d => rfl) ?_
          refine y_ld (x := .int z) rfl rfl (fun d => rfl) ?_
          refine y_cV (D' := 11) (as := [.ref 170, .int z]) rfl rfl rfl rfl rfl (md170 hM) ⟨rfl, (Nat.le_of_ble_eq_true rfl), (Nat.le_of_ble_eq_true rfl)⟩ (by decide) ?_
          refine y_ent (lv' := [(0, .ref 170), (1, .int z)]) (Nat.le_of_ble_eq_true rfl) rfl ?_
          refine y_ld (x := .ref 170) rfl rfl (fun d => rfl) ?_
          refine y_ic rfl rfl ?_
          refine y_cV (D' := 10) (as := [.ref 170, iv 2]) rfl rfl rfl rfl rfl (md170 hM) ⟨rfl, (Nat.le_of_ble_eq_true rfl), (Nat.le_of_ble_eq_true rfl)⟩ (by decide) ?_
          refine y_ent (lv' := [(0, .ref 170), (1, iv 2)]) (Nat.le_of_ble_eq_true rfl) rfl ?_
          refine y_ld (x := .ref 170) rfl rfl (fun d => rfl) ?_
          refine y_gI (i := 40) (e := 0) rfl rfl rfl (md170 hM) rfl rfl ?_
          refine y_bi rfl rfl (by decide) ?_
          refine y_jge rfl rfl rfl (by decide) (fun g126 => absurd g126 (by decide)) (fun g126 => ?_)
          refine y_ld (x := .ref 170) rfl rfl (fun d => rfl) ?_
          refine y_gR (i := 39) rfl rfl rfl (md170 hM) rfl ?_
          refine y_ld (x := .ref 170) rfl rfl (fun d => rfl) ?_
          refine y_gI (i := 40) (e := 0) rfl rfl rfl (md170 hM) rfl rfl ?_
          refine y_ld (x := iv 2) rfl rfl (fun d => rfl) ?_
          refine y_ist (q := 0) rfl rfl (md192 hM) (by decide) (by decide) rfl ?_
          refine y_ld (x := .ref 170) rfl rfl (fun d => rfl) ?_
          refine y_in rfl rfl (fun d => rfl) ?_
          refine y_gI (i := 40) (e := 0) rfl rfl rfl (md170 hM) rfl rfl ?_
          refine y_ic rfl rfl ?_
          refine y_add (z := 1) rfl rfl rfl ?_
          refine y_pI (i := 40) rfl rfl rfl (md170 hM) rfl rfl ?_
          refine y_ret rfl (fun d => rfl) ?_
          refine y_n0 ?_
          refine y_ld (x := .ref 170) rfl rfl (fun d => rfl) ?_
          refine y_ld (x := .int z) rfl rfl (fun d => rfl) ?_
          refine y_cV (D' := 10) (as := [.ref 170, .int z]) rfl rfl rfl rfl rfl (md170 hM) ⟨rfl, (Nat.le_of_ble_eq_true rfl), (Nat.le_of_ble_eq_true rfl)⟩ (by decide) ?_
          refine y_ent (lv' := [(0, .ref 170), (1, .int z)]) (Nat.le_of_ble_eq_true rfl) rfl ?_
          refine y_ld (x := .ref 170) rfl rfl (fun d => rfl) ?_
          refine y_gI (i := 41) (e := 3) rfl rfl rfl (md170 hM) rfl rfl ?_
          refine y_ic rfl rfl ?_
          refine y_jne rfl rfl rfl (by decide) (fun g127 => ?_) (fun g127 => absurd g127 (by decide))
          refine y_ld (x := .ref 170) rfl rfl (fun d => rfl) ?_
          refine y_gI (i := 41) (e := 3) rfl rfl rfl (md170 hM) rfl rfl ?_
          refine y_bi rfl rfl (by decide) ?_
          refine y_jne rfl rfl rfl (by decide) (fun g128 => ?_) (fun g128 => absurd g128 (by decide))
          refine y_ld (x := .ref 170) rfl rfl (fun d => rfl) ?_
          refine y_ld (x := .int z) rfl rfl (fun d => rfl) ?_
          refine y_cV (D' := 9) (as := [.ref 170, .int z]) rfl rfl rfl rfl rfl (md170 hM) ⟨rfl, (Nat.le_of_ble_eq_true rfl), (Nat.le_of_ble_eq_true rfl)⟩ (by decide) ?_
          refine y_ent (lv' := [(0, .ref 170), (1, .int z)]) (Nat.le_of_ble_eq_true rfl) rfl ?_
          refine y_ld (x := .ref 170) rfl rfl (fun d => rfl) ?_
          refine y_ic rfl rfl ?_
          refine y_cV (D' := 8) (as := [.ref 170, iv 1]) rfl rfl rfl rfl rfl (md170 hM) ⟨rfl, (Nat.le_of_ble_eq_true rfl), (Nat.le_of_ble_eq_true rfl)⟩ (by decide) ?_
          refine y_ent (lv' := [(0, .ref 170), (1, iv 1)]) (Nat.le_of_ble_eq_true rfl) rfl ?_
          refine y_ld (x := .ref 170) rfl rfl (fun d => rfl) ?_
          refine y_gI (i := 40) (e := 1) rfl rfl rfl (md170 hM) rfl rfl ?_
          refine y_bi rfl rfl (by decide) ?_
          refine y_jge rfl rfl rfl (by decide) (fun g129 => absurd g129 (by decide)) (fun g129 => ?_)
          refine y_ld (x := .ref 170) rfl rfl (fun d => rfl) ?_
          refine y_gR (i := 39) rfl rfl rfl (md170 hM) rfl ?_
          refine y_ld (x := .ref 170) rfl rfl (fun d => rfl) ?_
          refine y_gI (i := 40) (e := 1) rfl rfl rfl (md170 hM) rfl rfl ?_
          refine y_ld (x := iv 1) rfl rfl (fun d => rfl) ?_
          refine y_ist (q := 1) rfl rfl (md192 hM) (by decide) (by decide) rfl ?_
          refine y_ld (x := .ref 170) rfl rfl (fun d => rfl) ?_
          refine y_in rfl rfl (fun d => rfl) ?_
          refine y_gI (i := 40) (e := 1) rfl rfl rfl (md170 hM) rfl rfl ?_
          refine y_ic rfl rfl ?_
          refine y_add (z := 2) rfl rfl rfl ?_
          refine y_pI (i := 40) rfl rfl rfl (md170 hM) rfl rfl ?_
          refine y_ret rfl (fun d => rfl) ?_
          refine y_n0 ?_
          refine y_ld (x := .int z) rfl rfl (fun d => rfl) ?_
          refine y_ld (x := .ref 170) rfl rfl (fun d => rfl) ?_
          refine y_gI (i := 42) (e := ((x.toNat : Nat) : Int)) rfl rfl rfl (md170 hM) rfl rfl ?_
          refine y_in rfl rfl (fun d => rfl) ?_
          refine y_ret rfl (fun d => rfl) ?_
          refine y_nv ?_
          refine y_ret rfl (fun d => rfl) ?_
          refine y_nv ?_
          refine y_ld (x := .ref 170) rfl rfl (fun d => rfl) ?_
          refine y_gI (i := 43) (e := ((tl (V 171 (178 + x.toNat)).toNat).length : Int)) rfl rfl rfl (md170 hM) rfl rfl ?_
          refine y_in rfl rfl (fun d => rfl) ?_
          refine y_ret rfl (fun d => rfl) ?_
          refine y_nv ?_
          refine y_ret rfl (fun d => rfl) ?_
          refine y_nv ?_
          refine y_go rfl rfl ?_
          refine y_ret rfl (fun d => rfl) ?_
          have k2 := k1 (by omega)
          rw [hq, hy3] at k2
          exact k2 _ (fun k h8 h9 => by rw [v_up_ne h8, v_up_ne h9, v_up_ne h8, v_up_ne h9, v_up_ne h8, v_up_ne h8, v_up_ne h8, v_up_ne h8]) (fun i hi => by rw [v_up_ni (by omega), v_up_ne (by decide), v_up_ni (by omega), v_up_ne (by decide), v_up_ni (by omega), v_up_ni (by omega), v_up_ni (by omega), v_up_ni (by omega)]) ⟨by show (0 : Int) ≤ 2; decide, by show (2 : Int) ≤ 20; decide⟩
        · refine y_lv (l' := [(0, .ref 170), (1, iv ((x.toNat : Nat) : Int)), (2, iv 2), (3, .int z)]) rfl ⟨rfl, congrArg (fun e => some (iv e)) (by omega), congrArg (fun e => some (iv e)) hy3, rfl, trivial⟩ ?_
          refine y_ld (x := .ref 170) rfl rfl (fun d => rfl) ?_
          refine y_ld (x := .ref 170) rfl rfl (fun d => rfl) ?_
          refine y_gR (i := 1) rfl rfl rfl (md170 hM) rfl ?_
          refine y_si rfl rfl (by decide) ?_
          refine y_ld (x := iv ((x.toNat : Nat) : Int)) rfl rfl (fun d => rfl) ?_
          refine y_add (z := (170 + ((x.toNat : Nat) : Int))) rfl rfl rfl ?_
          refine y_ild (x := 3) (q := (170 + x.toNat)) rfl rfl (md171 hM) (by omega) (by decide) (by omega) hq ?_
          refine y_pI (i := 41) rfl rfl rfl (md170 hM) rfl rfl ?_
          refine y_ld (x := .ref 170) rfl rfl (fun d => rfl) ?_
          refine y_ld (x := iv ((x.toNat : Nat) : Int)) rfl rfl (fun d => rfl) ?_
          refine y_pI (i := 42) rfl rfl rfl (md170 hM) rfl rfl ?_
          refine y_ld (x := .ref 170) rfl rfl (fun d => rfl) ?_
          refine y_ld (x := .ref 170) rfl rfl (fun d => rfl) ?_
          refine y_gR (i := 6) rfl rfl rfl (md170 hM) rfl ?_
          refine y_ld (x := .ref 170) rfl rfl (fun d => rfl) ?_
          refine y_gR (i := 1) rfl rfl rfl (md170 hM) rfl ?_
          refine y_si rfl rfl (by decide) ?_
          refine y_ld (x := iv ((x.toNat : Nat) : Int)) rfl rfl (fun d => rfl) ?_
          refine y_add (z := (178 + ((x.toNat : Nat) : Int))) rfl rfl rfl ?_
          refine y_ild (x := (((V 171 (178 + x.toNat)).toNat : Nat) : Int)) (q := (178 + x.toNat)) rfl rfl (md171 hM) (by omega) (by decide) (by omega) (by rw [v_up_ne (by decide), v_up_ne (by decide), v_up_ne (by decide)]; omega) ?_
          refine y_ild (x := ((tl (V 171 (178 + x.toNat)).toNat).length : Int)) (q := ((V 171 (178 + x.toNat)).toNat)) rfl rfl (md175 hM) (by omega) (by decide) (by omega) hM2 ?_
          refine y_pI (i := 43) rfl rfl rfl (md170 hM) rfl rfl ?_
          refine y_ld (x := iv 2) rfl rfl (fun d => rfl) ?_
          refine y_zne rfl rfl rfl (by decide) (fun g130 => ?_) (fun g130 => absurd g130 (by decide))
          refine y_ld (x := iv 2) rfl rfl (fun d => rfl) ?_
          refine y_ic rfl rfl ?_
          refine y_jne rfl rfl rfl (by decide) (fun g131 => ?_) (fun g131 => absurd g131 (by decide))
          refine y_ld (x := .ref 170) rfl rfl (fun d => rfl) ?_
          refine y_ld (x := .int z) rfl rfl (fun d => rfl) ?_
          refine y_cV (D' := 12) (as := [.ref 170, .int z]) rfl rfl rfl rfl rfl (md170 hM) ⟨rfl, (Nat.le_of_ble_eq_true rfl), (Nat.le_of_ble_eq_true rfl)⟩ (by decide) ?_
          refine y_ent (lv' := [(0, .ref 170), (1, .int z)]) (Nat.le_of_ble_eq_true rfl) rfl ?_
          refine y_ld (x := .ref 170) rfl rfl (fun d => rfl) ?_
          refine y_gI (i := 41) (e := 3) rfl rfl rfl (md170 hM) rfl rfl ?_
          refine y_ic rfl rfl ?_
          refine y_jne rfl rfl rfl (by decide) (fun g132 => ?_) (fun g132 => absurd g132 (by decide))
          refine y_ld (x := .ref 170) rfl rfl (fun d => rfl) ?_
          refine y_gI (i := 41) (e := 3) rfl rfl rfl (md170 hM) rfl rfl ?_
          refine y_ic rfl rfl ?_
          refine y_cS (D' := 11) (as := [iv 3, iv 3]) rfl (by decide) rfl rfl rfl rfl ⟨(Nat.le_of_ble_eq_true rfl), (Nat.le_of_ble_eq_true rfl)⟩ (by decide) ?_
          refine y_ent (lv' := [(0, iv 3), (1, iv 3)]) (Nat.le_of_ble_eq_true rfl) rfl ?_
          refine y_ld (x := iv 3) rfl rfl (fun d => rfl) ?_
          refine y_zeq rfl rfl rfl (by decide) (fun g133 => absurd g133 (by decide)) (fun g133 => ?_)
          refine y_ld (x := iv 3) rfl rfl (fun d => rfl) ?_
          refine y_ld (x := iv 3) rfl rfl (fun d => rfl) ?_
          refine y_jeq rfl rfl rfl (by decide) (fun g134 => ?_) (fun g134 => absurd g134 (by decide))
          refine y_ic rfl rfl ?_
          refine y_go rfl rfl ?_
          refine y_rI rfl (by decide) ?_
          refine y_nv ?_
          refine y_zeq rfl rfl rfl (by decide) (fun g135 => absurd g135 (by decide)) (fun g135 => ?_)
          refine y_ld (x := .ref 170) rfl rfl (fun d => rfl) ?_
          refine y_bi rfl rfl (by decide) ?_
          refine y_cV (D' := 11) (as := [.ref 170, iv 31]) rfl rfl rfl rfl rfl (md170 hM) ⟨rfl, (Nat.le_of_ble_eq_true rfl), (Nat.le_of_ble_eq_true rfl)⟩ (by decide) ?_
          refine y_ent (lv' := [(0, .ref 170), (1, iv 31)]) (Nat.le_of_ble_eq_true rfl) rfl ?_
          refine y_ld (x := .ref 170) rfl rfl (fun d => rfl) ?_
          refine y_gI (i := 40) (e := 0) rfl rfl rfl (md170 hM) rfl rfl ?_
          refine y_bi rfl rfl (by decide) ?_
          refine y_jge rfl rfl rfl (by decide) (fun g136 => absurd g136 (by decide)) (fun g136 => ?_)
          refine y_ld (x := .ref 170) rfl rfl (fun d => rfl) ?_
          refine y_gR (i := 39) rfl rfl rfl (md170 hM) rfl ?_
          refine y_ld (x := .ref 170) rfl rfl (fun d => rfl) ?_
          refine y_gI (i := 40) (e := 0) rfl rfl rfl (md170 hM) rfl rfl ?_
          refine y_ld (x := iv 31) rfl rfl (fun d => rfl) ?_
          refine y_ist (q := 0) rfl rfl (md192 hM) (by decide) (by decide) rfl ?_
          refine y_ld (x := .ref 170) rfl rfl (fun d => rfl) ?_
          refine y_in rfl rfl (fun d => rfl) ?_
          refine y_gI (i := 40) (e := 0) rfl rfl rfl (md170 hM) rfl rfl ?_
          refine y_ic rfl rfl ?_
          refine y_add (z := 1) rfl rfl rfl ?_
          refine y_pI (i := 40) rfl rfl rfl (md170 hM) rfl rfl ?_
          refine y_ret rfl (fun d => rfl) ?_
          refine y_n0 ?_
          refine y_ld (x := .ref 170) rfl rfl (fun d => rfl) ?_
          refine y_ld (x := .int z) rfl rfl (fun d => rfl) ?_
          refine y_cV (D' := 11) (as := [.ref 170, .int z]) rfl rfl rfl rfl rfl (md170 hM) ⟨rfl, (Nat.le_of_ble_eq_true rfl), (Nat.le_of_ble_eq_true rfl)⟩ (by decide) ?_
          refine y_ent (lv' := [(0, .ref 170), (1, .int z)]) (Nat.le_of_ble_eq_true rfl) rfl ?_
          refine y_ld (x := .ref 170) rfl rfl (fun d => rfl) ?_
          refine y_ic rfl rfl ?_
          refine y_cV (D' := 10) (as := [.ref 170, iv 3]) rfl rfl rfl rfl rfl (md170 hM) ⟨rfl, (Nat.le_of_ble_eq_true rfl), (Nat.le_of_ble_eq_true rfl)⟩ (by decide) ?_
          refine y_ent (lv' := [(0, .ref 170), (1, iv 3)]) (Nat.le_of_ble_eq_true rfl) rfl ?_
          refine y_ld (x := .ref 170) rfl rfl (fun d => rfl) ?_
          refine y_gI (i := 40) (e := 1) rfl rfl rfl (md170 hM) rfl rfl ?_
          refine y_bi rfl rfl (by decide) ?_
          refine y_jge rfl rfl rfl (by decide) (fun g137 => absurd g137 (by decide)) (fun g137 => ?_)
          refine y_ld (x := .ref 170) rfl rfl (fun d => rfl) ?_
          refine y_gR (i := 39) rfl rfl rfl (md170 hM) rfl ?_
          refine y_ld (x := .ref 170) rfl rfl (fun d => rfl) ?_
          refine y_gI (i := 40) (e := 1) rfl rfl rfl (md170 hM) rfl rfl ?_
          refine y_ld (x := iv 3) rfl rfl (fun d => rfl) ?_
          refine y_ist (q := 1) rfl rfl (md192 hM) (by decide) (by decide) rfl ?_
          refine y_ld (x := .ref 170) rfl rfl (fun d => rfl) ?_
          refine y_in rfl rfl (fun d => rfl) ?_
          refine y_gI (i := 40) (e := 1) rfl rfl rfl (md170 hM) rfl rfl ?_
          refine y_ic rfl rfl ?_
          refine y_add (z := 2) rfl rfl rfl ?_
          refine y_pI (i := 40) rfl rfl rfl (md170 hM) rfl rfl ?_
          refine y_ret rfl (fun d => rfl) ?_
          refine y_n0 ?_
          refine y_ld (x := .ref 170) rfl rfl (fun d => rfl) ?_
          refine y_ld (x := .int z) rfl rfl (fun d => rfl) ?_
          refine y_cV (D' := 10) (as := [.ref 170, .int z]) rfl rfl rfl rfl rfl (md170 hM) ⟨rfl, (Nat.le_of_ble_eq_true rfl), (Nat.le_of_ble_eq_true rfl)⟩ (by decide) ?_
          refine y_ent (lv' := [(0, .ref 170), (1, .int z)]) (Nat.le_of_ble_eq_true rfl) rfl ?_
          refine y_ld (x := .ref 170) rfl rfl (fun d => rfl) ?_
          refine y_gI (i := 41) (e := 3) rfl rfl rfl (md170 hM) rfl rfl ?_
          refine y_ic rfl rfl ?_
          refine y_jne rfl rfl rfl (by decide) (fun g138 => ?_) (fun g138 => absurd g138 (by decide))
          refine y_ld (x := .ref 170) rfl rfl (fun d => rfl) ?_
          refine y_gI (i := 41) (e := 3) rfl rfl rfl (md170 hM) rfl rfl ?_
          refine y_ic rfl rfl ?_
          refine y_cS (D' := 9) (as := [iv 3, iv 1]) rfl (by decide) rfl rfl rfl rfl ⟨(Nat.le_of_ble_eq_true rfl), (Nat.le_of_ble_eq_true rfl)⟩ (by decide) ?_
          refine y_ent (lv' := [(0, iv 3), (1, iv 1)]) (Nat.le_of_ble_eq_true rfl) rfl ?_
          refine y_ld (x := iv 1) rfl rfl (fun d => rfl) ?_
          refine y_zeq rfl rfl rfl (by decide) (fun g139 => absurd g139 (by decide)) (fun g139 => ?_)
          refine y_ld (x := iv 1) rfl rfl (fun d => rfl) ?_
          refine y_ld (x := iv 3) rfl rfl (fun d => rfl) ?_
          refine y_jeq rfl rfl rfl (by decide) (fun g140 => absurd g140 (by decide)) (fun g140 => ?_)
          refine y_ld (x := iv 1) rfl rfl (fun d => rfl) ?_
          refine y_ic rfl rfl ?_
          refine y_jne rfl rfl rfl (by decide) (fun g141 => absurd g141 (by decide)) (fun g141 => ?_)
          refine y_ld (x := iv 3) rfl rfl (fun d => rfl) ?_
          refine y_ic rfl rfl ?_
          refine y_jeq rfl rfl rfl (by decide) (fun g142 => absurd g142 (by decide)) (fun g142 => ?_)
          refine y_ld (x := iv 1) rfl rfl (fun d => rfl) ?_
          refine y_ic rfl rfl ?_
          refine y_jne rfl rfl rfl (by decide) (fun g143 => ?_) (fun g143 => absurd g143 (by decide))
          refine y_ic rfl rfl ?_
          refine y_rI rfl (by decide) ?_
          refine y_nv ?_
          refine y_zeq rfl rfl rfl (by decide) (fun g144 => ?_) (fun g144 => absurd g144 (by decide))
          refine y_ld (x := .ref 170) rfl rfl (fun d => rfl) ?_
          refine y_ld (x := .int z) rfl rfl (fun d => rfl) ?_
          refine y_cV (D' := 9) (as := [.ref 170, .int z]) rfl rfl rfl rfl rfl (md170 hM) ⟨rfl, (Nat.le_of_ble_eq_true rfl), (Nat.le_of_ble_eq_true rfl)⟩ (by decide) ?_
          refine y_ent (lv' := [(0, .ref 170), (1, .int z)]) (Nat.le_of_ble_eq_true rfl) rfl ?_
          refine y_ld (x := .ref 170) rfl rfl (fun d => rfl) ?_
          refine y_ic rfl rfl ?_
          refine y_cV (D' := 8) (as := [.ref 170, iv 2]) rfl rfl rfl rfl rfl (md170 hM) ⟨rfl, (Nat.le_of_ble_eq_true rfl), (Nat.le_of_ble_eq_true rfl)⟩ (by decide) ?_
          refine y_ent (lv' := [(0, .ref 170), (1, iv 2)]) (Nat.le_of_ble_eq_true rfl) rfl ?_
          refine y_ld (x := .ref 170) rfl rfl (fun d => rfl) ?_
          refine y_gI (i := 40) (e := 2) rfl rfl rfl (md170 hM) rfl rfl ?_
          refine y_bi rfl rfl (by decide) ?_
          refine y_jge rfl rfl rfl (by decide) (fun g145 => absurd g145 (by decide)) (fun g145 => ?_)
          refine y_ld (x := .ref 170) rfl rfl (fun d => rfl) ?_
          refine y_gR (i := 39) rfl rfl rfl (md170 hM) rfl ?_
          refine y_ld (x := .ref 170) rfl rfl (fun d => rfl) ?_
          refine y_gI (i := 40) (e := 2) rfl rfl rfl (md170 hM) rfl rfl ?_
          refine y_ld (x := iv 2) rfl rfl (fun d => rfl) ?_
          refine y_ist (q := 2) rfl rfl (md192 hM) (by decide) (by decide) rfl ?_
          refine y_ld (x := .ref 170) rfl rfl (fun d => rfl) ?_
          refine y_in rfl rfl (fun d => rfl) ?_
          refine y_gI (i := 40) (e := 2) rfl rfl rfl (md170 hM) rfl rfl ?_
          refine y_ic rfl rfl ?_
          refine y_add (z := 3) rfl rfl rfl ?_
          refine y_pI (i := 40) rfl rfl rfl (md170 hM) rfl rfl ?_
          refine y_ret rfl (fun d => rfl) ?_
          refine y_n0 ?_
          refine y_ld (x := .ref 170) rfl rfl (fun d => rfl) ?_
          refine y_ld (x := .int z) rfl rfl (fun d => rfl) ?_
          refine y_cV (D' := 8) (as := [.ref 170, .int z]) rfl rfl rfl rfl rfl (md170 hM) ⟨rfl, (Nat.le_of_ble_eq_true rfl), (Nat.le_of_ble_eq_true rfl)⟩ (by decide) ?_
          refine y_ent (lv' := [(0, .ref 170), (1, .int z)]) (Nat.le_of_ble_eq_true rfl) rfl ?_
          refine y_ld (x := .ref 170) rfl rfl (fun d => rfl) ?_
          refine y_gI (i := 41) (e := 3) rfl rfl rfl (md170 hM) rfl rfl ?_
          refine y_ic rfl rfl ?_
          refine y_jne rfl rfl rfl (by decide) (fun g146 => ?_) (fun g146 => absurd g146 (by decide))
          refine y_ld (x := .ref 170) rfl rfl (fun d => rfl) ?_
          refine y_gI (i := 41) (e := 3) rfl rfl rfl (md170 hM) rfl rfl ?_
          refine y_bi rfl rfl (by decide) ?_
          refine y_jne rfl rfl rfl (by decide) (fun g147 => ?_) (fun g147 => absurd g147 (by decide))
          refine y_ld (x := .ref 170) rfl rfl (fun d => rfl) ?_
          refine y_ld (x := .int z) rfl rfl (fun d => rfl) ?_
          refine y_cV (D' := 7) (as := [.ref 170, .int z]) rfl rfl rfl rfl rfl (md170 hM) ⟨rfl, (Nat.le_of_ble_eq_true rfl), (Nat.le_of_ble_eq_true rfl)⟩ (by decide) ?_
          refine y_ent (lv' := [(0, .ref 170), (1, .int z)]) (Nat.le_of_ble_eq_true rfl) rfl ?_
          refine y_ld (x := .ref 170) rfl rfl (fun d => rfl) ?_
          refine y_ic rfl rfl ?_
          refine y_cV (D' := 6) (as := [.ref 170, iv 1]) rfl rfl rfl rfl rfl (md170 hM) ⟨rfl, (Nat.le_of_ble_eq_true rfl), (Nat.le_of_ble_eq_true rfl)⟩ (by decide) ?_
          refine y_ent (lv' := [(0, .ref 170), (1, iv 1)]) (Nat.le_of_ble_eq_true rfl) rfl ?_
          refine y_ld (x := .ref 170) rfl rfl (fun d => rfl) ?_
          refine y_gI (i := 40) (e := 3) rfl rfl rfl (md170 hM) rfl rfl ?_
          refine y_bi rfl rfl (by decide) ?_
          refine y_jge rfl rfl rfl (by decide) (fun g148 => absurd g148 (by decide)) (fun g148 => ?_)
          refine y_ld (x := .ref 170) rfl rfl (fun d => rfl) ?_
          refine y_gR (i := 39) rfl rfl rfl (md170 hM) rfl ?_
          refine y_ld (x := .ref 170) rfl rfl (fun d => rfl) ?_
          refine y_gI (i := 40) (e := 3) rfl rfl rfl (md170 hM) rfl rfl ?_
          refine y_ld (x := iv 1) rfl rfl (fun d => rfl) ?_
          refine y_ist (q := 3) rfl rfl (md192 hM) (by decide) (by decide) rfl ?_
          refine y_ld (x := .ref 170) rfl rfl (fun d => rfl) ?_
          refine y_in rfl rfl (fun d => rfl) ?_
          refine y_gI (i := 40) (e := 3) rfl rfl rfl (md170 hM) rfl rfl ?_
          refine y_ic rfl rfl ?_
          refine y_add (z := 4) rfl rfl rfl ?_
          refine y_pI (i := 40) rfl rfl rfl (md170 hM) rfl rfl ?_
          refine y_ret rfl (fun d => rfl) ?_
          refine y_n0 ?_
          refine y_ld (x := .int z) rfl rfl (fun d => rfl) ?_
          refine y_ld (x := .ref 170) rfl rfl (fun d => rfl) ?_
          refine y_gI (i := 42) (e := ((x.toNat : Nat) : Int)) rfl rfl rfl (md170 hM) rfl rfl ?_
          refine y_in rfl rfl (fun d => rfl) ?_
          refine y_ret rfl (fun d => rfl) ?_
          refine y_nv ?_
          refine y_ret rfl (fun d => rfl) ?_
          refine y_nv ?_
          refine y_ld (x := .ref 170) rfl rfl (fun d => rfl) ?_
          refine y_gI (i := 43) (e := ((tl (V 171 (178 + x.toNat)).toNat).length : Int)) rfl rfl rfl (md170 hM) rfl rfl ?_
          refine y_in rfl rfl (fun d => rfl) ?_
          refine y_ret rfl (fun d => rfl) ?_
          refine y_nv ?_
          refine y_ret rfl (fun d => rfl) ?_
          refine y_nv ?_
          refine y_ic rfl rfl ?_
          refine y_in rfl rfl (fun d => rfl) ?_
          refine y_ret rfl (fun d => rfl) ?_
          refine y_nv ?_
          refine y_ic rfl rfl ?_
          refine y_in rfl rfl (fun d => rfl) ?_
          refine y_ret rfl (fun d => rfl) ?_
          refine y_nv ?_
          refine y_ret rfl (fun d => rfl) ?_
          have k2 := k1 (by omega)
          rw [hq, hy3] at k2
          exact k2 _ (fun k h8 h9 => by rw [v_up_ne h8, v_up_ne h9, v_up_ne h8, v_up_ne h9, v_up_ne h8, v_up_ne h9, v_up_ne h8, v_up_ne h9, v_up_ne h8, v_up_ne h8, v_up_ne h8, v_up_ne h8]) (fun i hi => by rw [v_up_ni (by omega), v_up_ne (by decide), v_up_ni (by omega), v_up_ne (by decide), v_up_ni (by omega), v_up_ne (by decide), v_up_ni (by omega), v_up_ne (by decide), v_up_ni (by omega), v_up_ni (by omega), v_up_ni (by omega), v_up_ni (by omega)]) ⟨by show (0 : Int) ≤ 4; decide, by show (4 : Int) ≤ 20; decide⟩
      · rcases (show y = 0 ∨ y = 1 ∨ y = 2 by omega) with hy3 | hy3 | hy3
        · refine y_lv (l' := [(0, .ref 170), (1, iv ((x.toNat : Nat) : Int)), (2, iv 0), (3, .int z)]) rfl ⟨rfl, congrArg (fun e => some (iv e)) (by omega), congrArg (fun e => some (iv e)) hy3, rfl, trivial⟩ ?_
          refine y_ld (x := .ref 170) rfl rfl (fun d => rfl) ?_
          refine y_ld (x := .ref 170) rfl rfl (fun d => rfl) ?_
          refine y_gR (i := 1) rfl rfl rfl (md170 hM) rfl ?_
          refine y_si rfl rfl (by decide) ?_
          refine y_ld (x := iv ((x.toNat : Nat) : Int)) rfl rfl (fun d => rfl) ?_
          refine y_add (z := (170 + ((x.toNat : Nat) : Int))) rfl rfl rfl ?_
          refine y_ild (x := 4) (q := (170 + x.toNat)) rfl rfl (md171 hM) (by omega) (by decide) (by omega) hq ?_
          refine y_pI (i := 41) rfl rfl rfl (md170 hM) rfl rfl ?_
          refine y_ld (x := .ref 170) rfl rfl (fun d => rfl) ?_
          refine y_ld (x := iv ((x.toNat : Nat) : Int)) rfl rfl (fun d => rfl) ?_
          refine y_pI (i := 42) rfl rfl rfl (md170 hM) rfl rfl ?_
          refine y_ld (x := .ref 170) rfl rfl (fun d => rfl) ?_
          refine y_ld (x := .ref 170) rfl rfl (fun d => rfl) ?_
          refine y_gR (i := 6) rfl rfl rfl (md170 hM) rfl ?_
          refine y_ld (x := .ref 170) rfl rfl (fun d => rfl) ?_
          refine y_gR (i := 1) rfl rfl rfl (md170 hM) rfl ?_
          refine y_si rfl rfl (by decide) ?_
          refine y_ld (x := iv ((x.toNat : Nat) : Int)) rfl rfl (fun d => rfl) ?_
          refine y_add (z := (178 + ((x.toNat : Nat) : Int))) rfl rfl rfl ?_
          refine y_ild (x := (((V 171 (178 + x.toNat)).toNat : Nat) : Int)) (q := (178 + x.toNat)) rfl rfl (md171 hM) (by omega) (by decide) (by omega) (by rw [v_up_ne (by decide), v_up_ne (by decide), v_up_ne (by decide)]; omega) ?_
          refine y_ild (x := ((tl (V 171 (178 + x.toNat)).toNat).length : Int)) (q := ((V 171 (178 + x.toNat)).toNat)) rfl rfl (md175 hM) (by omega) (by decide) (by omega) hM2 ?_
          refine y_pI (i := 43) rfl rfl rfl (md170 hM) rfl rfl ?_
          refine y_ld (x := iv 0) rfl rfl (fun d => rfl) ?_
          refine y_zne rfl rfl rfl (by decide) (fun g149 => absurd g149 (by decide)) (fun g149 => ?_)
          refine y_ld (x := .ref 170) rfl rfl (fun d => rfl) ?_
          refine y_ld (x := .int z) rfl rfl (fun d => rfl) ?_
          refine y_cV (D' := 12) (as := [.ref 170, .int z]) rfl rfl rfl rfl rfl (md170 hM) ⟨rfl, (Nat.le_of_ble_eq_true rfl), (Nat.le_of_ble_eq_true rfl)⟩ (by decide) ?_
          refine y_ent (lv' := [(0, .ref 170), (1, .int z)]) (Nat.le_of_ble_eq_true rfl) rfl ?_
          refine y_ld (x := .ref 170) rfl rfl (fun d => rfl) ?_
          refine y_gI (i := 41) (e := 4) rfl rfl rfl (md170 hM) rfl rfl ?_
          refine y_ic rfl rfl ?_
          refine y_jne rfl rfl rfl (by decide) (fun g150 => ?_) (fun g150 => absurd g150 (by decide))
          refine y_ld (x := .ref 170) rfl rfl (fun d => rfl) ?_
          refine y_gI (i := 41) (e := 4) rfl rfl rfl (md170 hM) rfl rfl ?_
          refine y_bi rfl rfl (by decide) ?_
          refine y_jne rfl rfl rfl (by decide) (fun g151 => ?_) (fun g151 => absurd g151 (by decide))
          refine y_ld (x := .ref 170) rfl rfl (fun d => rfl) ?_
          refine y_ld (x := .int z) rfl rfl (fun d => rfl) ?_
          refine y_cV (D' := 11) (as := [.ref 170, .int z]) rfl rfl rfl rfl rfl (md170 hM) ⟨rfl, (Nat.le_of_ble_eq_true rfl), (Nat.le_of_ble_eq_true rfl)⟩ (by decide) ?_
          refine y_ent (lv' := [(0, .ref 170), (1, .int z)]) (Nat.le_of_ble_eq_true rfl) rfl ?_
          refine y_ld (x := .ref 170) rfl rfl (fun d => rfl) ?_
          refine y_ic rfl rfl ?_
          refine y_cV (D' := 10) (as := [.ref 170, iv 1]) rfl rfl rfl rfl rfl (md170 hM) ⟨rfl, (Nat.le_of_ble_eq_true rfl), (Nat.le_of_ble_eq_true rfl)⟩ (by decide) ?_
          refine y_ent (lv' := [(0, .ref 170), (1, iv 1)]) (Nat.le_of_ble_eq_true rfl) rfl ?_
          refine y_ld (x := .ref 170) rfl rfl (fun d => rfl) ?_
          refine y_gI (i := 40) (e := 0) rfl rfl rfl (md170 hM) rfl rfl ?_
          refine y_bi rfl rfl (by decide) ?_
          refine y_jge rfl rfl rfl (by decide) (fun g152 => absurd g152 (by decide)) (fun g152 => ?_)
          refine y_ld (x := .ref 170) rfl rfl (fun d => rfl) ?_
          refine y_gR (i := 39) rfl rfl rfl (md170 hM) rfl ?_
          refine y_ld (x := .ref 170) rfl rfl (fun d => rfl) ?_
          refine y_gI (i := 40) (e := 0) rfl rfl rfl (md170 hM) rfl rfl ?_
          refine y_ld (x := iv 1) rfl rfl (fun d => rfl) ?_
          refine y_ist (q := 0) rfl rfl (md192 hM) (by decide) (by decide) rfl ?_
          refine y_ld (x := .ref 170) rfl rfl (fun d => rfl) ?_
          refine y_in rfl rfl (fun d => rfl) ?_
          refine y_gI (i := 40) (e := 0) rfl rfl rfl (md170 hM) rfl rfl ?_
          refine y_ic rfl rfl ?_
          refine y_add (z := 1) rfl rfl rfl ?_
          refine y_pI (i := 40) rfl rfl rfl (md170 hM) rfl rfl ?_
          refine y_ret rfl (fun d => rfl) ?_
          refine y_n0 ?_
          refine y_ld (x := .int z) rfl rfl (fun d => rfl) ?_
          refine y_ld (x := .ref 170) rfl rfl (fun d => rfl) ?_
          refine y_gI (i := 42) (e := ((x.toNat : Nat) : Int)) rfl rfl rfl (md170 hM) rfl rfl ?_
          refine y_in rfl rfl (fun d => rfl) ?_
          refine y_ret rfl (fun d => rfl) ?_
          refine y_nv ?_
          refine y_ret rfl (fun d => rfl) ?_
          refine y_nv ?_
          refine y_go rfl rfl ?_
          refine y_ret rfl (fun d => rfl) ?_
          have k2 := k1 (by omega)
          rw [hq, hy3] at k2
          exact k2 _ (fun k h8 h9 => by rw [v_up_ne h8, v_up_ne h9, v_up_ne h8, v_up_ne h8, v_up_ne h8, v_up_ne h8]) (fun i hi => by rw [v_up_ni (by omega), v_up_ne (by decide), v_up_ni (by omega), v_up_ni (by omega), v_up_ni (by omega), v_up_ni (by omega)]) ⟨by show (0 : Int) ≤ 1; decide, by show (1 : Int) ≤ 20; decide⟩
        · refine y_lv (l' := [(0, .ref 170), (1, iv ((x.toNat : Nat) : Int)), (2, iv 1), (3, .int z)]) rfl ⟨rfl, congrArg (fun e => some (iv e)) (by omega), congrArg (fun e => some (iv e)) hy3, rfl, trivial⟩ ?_
          refine y_ld (x := .ref 170) rfl rfl (fun d => rfl) ?_
          refine y_ld (x := .ref 170) rfl rfl (fun d => rfl) ?_
          refine y_gR (i := 1) rfl rfl rfl (md170 hM) rfl ?_
          refine y_si rfl rfl (by decide) ?_
          refine y_ld (x := iv ((x.toNat : Nat) : Int)) rfl rfl (fun d => rfl) ?_
          refine y_add (z := (170 + ((x.toNat : Nat) : Int))) rfl rfl rfl ?_
          refine y_ild (x := 4) (q := (170 + x.toNat)) rfl rfl (md171 hM) (by omega) (by decide) (by omega) hq ?_
          refine y_pI (i := 41) rfl rfl rfl (md170 hM) rfl rfl ?_
          refine y_ld (x := .ref 170) rfl rfl (fun d => rfl) ?_
          refine y_ld (x := iv ((x.toNat : Nat) : Int)) rfl rfl (fun d => rfl) ?_
          refine y_pI (i := 42) rfl rfl rfl (md170 hM) rfl rfl ?_
          refine y_ld (x := .ref 170) rfl rfl (fun d => rfl) ?_
          refine y_ld (x := .ref 170) rfl rfl (fun d => rfl) ?_
          refine y_gR (i := 6) rfl rfl rfl (md170 hM) rfl ?_
          refine y_ld (x := .ref 170) rfl rfl (fun d => rfl) ?_
          refine y_gR (i := 1) rfl rfl rfl (md170 hM) rfl ?_
          refine y_si rfl rfl (by decide) ?_
          refine y_ld (x := iv ((x.toNat : Nat) : Int)) rfl rfl (fun d => rfl) ?_
          refine y_add (z := (178 + ((x.toNat : Nat) : Int))) rfl rfl rfl ?_
          refine y_ild (x := (((V 171 (178 + x.toNat)).toNat : Nat) : Int)) (q := (178 + x.toNat)) rfl rfl (md171 hM) (by omega) (by decide) (by omega) (by rw [v_up_ne (by decide), v_up_ne (by decide), v_up_ne (by decide)]; omega) ?_
          refine y_ild (x := ((tl (V 171 (178 + x.toNat)).toNat).length : Int)) (q := ((V 171 (178 + x.toNat)).toNat)) rfl rfl (md175 hM) (by omega) (by decide) (by omega) hM2 ?_
          refine y_pI (i := 43) rfl rfl rfl (md170 hM) rfl rfl ?_
          refine y_ld (x := iv 1) rfl rfl (fun d => rfl) ?_
          refine y_zne rfl rfl rfl (by decide) (fun g153 => ?_) (fun g153 => absurd g153 (by decide))
          refine y_ld (x := iv 1) rfl rfl (fun d => rfl) ?_
          refine y_ic rfl rfl ?_
          refine y_jne rfl rfl rfl (by decide) (fun g154 => absurd g154 (by decide)) (fun g154 => ?_)
          refine y_ld (x := .ref 170) rfl rfl (fun d => rfl) ?_
          refine y_ld (x := .int z) rfl rfl (fun d => rfl) ?_
          refine y_cV (D' := 12) (as := [.ref 170, .int z]) rfl rfl rfl rfl rfl (md170 hM) ⟨rfl, (Nat.le_of_ble_eq_true rfl), (Nat.le_of_ble_eq_true rfl)⟩ (by decide) ?_
          refine y_ent (lv' := [(0, .ref 170), (1, .int z)]) (Nat.le_of_ble_eq_true rfl) rfl ?_
          refine y_ld (x := .ref 170) rfl rfl (fun d => rfl) ?_
          refine y_gI (i := 41) (e := 4) rfl rfl rfl (md170 hM) rfl rfl ?_
          refine y_ic rfl rfl ?_
          refine y_jne rfl rfl rfl (by decide) (fun g155 => ?_) (fun g155 => absurd g155 (by decide))
          refine y_ld (x := .ref 170) rfl rfl (fun d => rfl) ?_
          refine y_gI (i := 41) (e := 4) rfl rfl rfl (md170 hM) rfl rfl ?_
          refine y_ic rfl rfl ?_
          refine y_cS (D' := 11) (as := [iv 4, iv 1]) rfl (by decide) rfl rfl rfl rfl ⟨(Nat.le_of_ble_eq_true rfl), (Nat.le_of_ble_eq_true rfl)⟩ (by decide) ?_
          refine y_ent (lv' := [(0, iv 4), (1, iv 1)]) (Nat.le_of_ble_eq_true rfl) rfl ?_
          refine y_ld (x := iv 1) rfl rfl (fun d => rfl) ?_
          refine y_zeq rfl rfl rfl (by decide) (fun g156 => absurd g156 (by decide)) (fun g156 => ?_)
          refine y_ld (x := iv 1) rfl rfl (fun d => rfl) ?_
          refine y_ld (x := iv 4) rfl rfl (fun d => rfl) ?_
          refine y_jeq rfl rfl rfl (by decide) (fun g157 => absurd g157 (by decide)) (fun g157 => ?_)
          refine y_ld (x := iv 1) rfl rfl (fun d => rfl) ?_
          refine y_ic rfl rfl ?_
          refine y_jne rfl rfl rfl (by decide) (fun g158 => absurd g158 (by decide)) (fun g158 => ?_)
          refine y_ld (x := iv 4) rfl rfl (fun d => rfl) ?_
          refine y_ic rfl rfl ?_
          refine y_jeq rfl rfl rfl (by decide) (fun g159 => ?_) (fun g159 => absurd g159 (by decide))
          refine y_ic rfl rfl ?_
          refine y_go rfl rfl ?_
          refine y_rI rfl (by decide) ?_
          refine y_nv ?_
          refine y_zeq rfl rfl rfl (by decide) (fun g160 => absurd g160 (by decide)) (fun g160 => ?_)
          refine y_ld (x := .ref 170) rfl rfl (fun d => rfl) ?_
          refine y_bi rfl rfl (by decide) ?_
          refine y_cV (D' := 11) (as := [.ref 170, iv 11]) rfl rfl rfl rfl rfl (md170 hM) ⟨rfl, (Nat.le_of_ble_eq_true rfl), (Nat.le_of_ble_eq_true rfl)⟩ (by decide) ?_
          refine y_ent (lv' := [(0, .ref 170), (1, iv 11)]) (Nat.le_of_ble_eq_true rfl) rfl ?_
          refine y_ld (x := .ref 170) rfl rfl (fun d => rfl) ?_
          refine y_gI (i := 40) (e := 0) rfl rfl rfl (md170 hM) rfl rfl ?_
          refine y_bi rfl rfl (by decide) ?_
          refine y_jge rfl rfl rfl (by decide) (fun g161 => absurd g161 (by decide)) (fun g161 => ?_)
          refine y_ld (x := .ref 170) rfl rfl (fun d => rfl) ?_
          refine y_gR (i := 39) rfl rfl rfl (md170 hM) rfl ?_
          refine y_ld (x := .ref 170) rfl rfl (fun d => rfl) ?_
          refine y_gI (i := 40) (e := 0) rfl rfl rfl (md170 hM) rfl rfl ?_
          refine y_ld (x := iv 11) rfl rfl (fun d => rfl) ?_
          refine y_ist (q := 0) rfl rfl (md192 hM) (by decide) (by decide) rfl ?_
          refine y_ld (x := .ref 170) rfl rfl (fun d => rfl) ?_
          refine y_in rfl rfl (fun d => rfl) ?_
          refine y_gI (i := 40) (e := 0) rfl rfl rfl (md170 hM) rfl rfl ?_
          refine y_ic rfl rfl ?_
          refine y_add (z := 1) rfl rfl rfl ?_
          refine y_pI (i := 40) rfl rfl rfl (md170 hM) rfl rfl ?_
          refine y_ret rfl (fun d => rfl) ?_
          refine y_n0 ?_
          refine y_ld (x := .ref 170) rfl rfl (fun d => rfl) ?_
          refine y_ld (x := .int z) rfl rfl (fun d => rfl) ?_
          refine y_ic rfl rfl ?_
          refine y_in rfl rfl (fun d => rfl) ?_
          refine y_cV (D' := 11) (as := [.ref 170, .int (z * (Int32.ofInt 3))]) rfl rfl rfl rfl rfl (md170 hM) ⟨rfl, (Nat.le_of_ble_eq_true rfl), (Nat.le_of_ble_eq_true rfl)⟩ (by decide) ?_
          refine y_ent (lv' := [(0, .ref 170), (1, .int (z * (Int32.ofInt 3)))]) (Nat.le_of_ble_eq_true rfl) rfl ?_
          refine y_ld (x := .ref 170) rfl rfl (fun d => rfl) ?_
          refine y_ic rfl rfl ?_
          refine y_cV (D' := 10) (as := [.ref 170, iv 2]) rfl rfl rfl rfl rfl (md170 hM) ⟨rfl, (Nat.le_of_ble_eq_true rfl), (Nat.le_of_ble_eq_true rfl)⟩ (by decide) ?_
          refine y_ent (lv' := [(0, .ref 170), (1, iv 2)]) (Nat.le_of_ble_eq_true rfl) rfl ?_
          refine y_ld (x := .ref 170) rfl rfl (fun d => rfl) ?_
          refine y_gI (i := 40) (e := 1) rfl rfl rfl (md170 hM) rfl rfl ?_
          refine y_bi rfl rfl (by decide) ?_
          refine y_jge rfl rfl rfl (by decide) (fun g162 => absurd g162 (by decide)) (fun g162 => ?_)
          refine y_ld (x := .ref 170) rfl rfl (fun d => rfl) ?_
          refine y_gR (i := 39) rfl rfl rfl (md170 hM) rfl ?_
          refine y_ld (x := .ref 170) rfl rfl (fun d => rfl) ?_
          refine y_gI (i := 40) (e := 1) rfl rfl rfl (md170 hM) rfl rfl ?_
          refine y_ld (x := iv 2) rfl rfl (fun d => rfl) ?_
          refine y_ist (q := 1) rfl rfl (md192 hM) (by decide) (by decide) rfl ?_
          refine y_ld (x := .ref 170) rfl rfl (fun d => rfl) ?_
          refine y_in rfl rfl (fun d => rfl) ?_
          refine y_gI (i := 40) (e := 1) rfl rfl rfl (md170 hM) rfl rfl ?_
          refine y_ic rfl rfl ?_
          refine y_add (z := 2) rfl rfl rfl ?_
          refine y_pI (i := 40) rfl rfl rfl (md170 hM) rfl rfl ?_
          refine y_ret rfl (fun d => rfl) ?_
          refine y_n0 ?_
          refine y_ld (x := .ref 170) rfl rfl (fun d => rfl) ?_
          refine y_ld (x := .int (z * (Int32.ofInt 3))) rfl rfl (fun d => rfl) ?_
          refine y_cV (D' := 10) (as := [.ref 170, .int (z * (Int32.ofInt 3))]) rfl rfl rfl rfl rfl (md170 hM) ⟨rfl, (Nat.le_of_ble_eq_true rfl), (Nat.le_of_ble_eq_true rfl)⟩ (by decide) ?_
          refine y_ent (lv' := [(0, .ref 170), (1, .int (z * (Int32.ofInt 3)))]) (Nat.le_of_ble_eq_true rfl) rfl ?_
          refine y_ld (x := .ref 170) rfl rfl (fun d => rfl) ?_
          refine y_gI (i := 41) (e := 4) rfl rfl rfl (md170 hM) rfl rfl ?_
          refine y_ic rfl rfl ?_
          refine y_jne rfl rfl rfl (by decide) (fun g163 => ?_) (fun g163 => absurd g163 (by decide))
          refine y_ld (x := .ref 170) rfl rfl (fun d => rfl) ?_
          refine y_gI (i := 41) (e := 4) rfl rfl rfl (md170 hM) rfl rfl ?_
          refine y_bi rfl rfl (by decide) ?_
          refine y_jne rfl rfl rfl (by decide) (fun g164 => ?_) (fun g164 => absurd g164 (by decide))
          refine y_ld (x := .ref 170) rfl rfl (fun d => rfl) ?_
          refine y_ld (x := .int (z * (Int32.ofInt 3))) rfl rfl (fun d => rfl) ?_
          refine y_cV (D' := 9) (as := [.ref 170, .int (z * (Int32.ofInt 3))]) rfl rfl rfl rfl rfl (md170 hM) ⟨rfl, (Nat.le_of_ble_eq_true rfl), (Nat.le_of_ble_eq_true rfl)⟩ (by decide) ?_
          refine y_ent (lv' := [(0, .ref 170), (1, .int (z * (Int32.ofInt 3)))]) (Nat.le_of_ble_eq_true rfl) rfl ?_
          refine y_ld (x := .ref 170) rfl rfl (fun d => rfl) ?_
          refine y_ic rfl rfl ?_
          refine y_cV (D' := 8) (as := [.ref 170, iv 1]) rfl rfl rfl rfl rfl (md170 hM) ⟨rfl, (Nat.le_of_ble_eq_true rfl), (Nat.le_of_ble_eq_true rfl)⟩ (by decide) ?_
          refine y_ent (lv' := [(0, .ref 170), (1, iv 1)]) (Nat.le_of_ble_eq_true rfl) rfl ?_
          refine y_ld (x := .ref 170) rfl rfl (fun d => rfl) ?_
          refine y_gI (i := 40) (e := 2) rfl rfl rfl (md170 hM) rfl rfl ?_
          refine y_bi rfl rfl (by decide) ?_
          refine y_jge rfl rfl rfl (by decide) (fun g165 => absurd g165 (by decide)) (fun g165 => ?_)
          refine y_ld (x := .ref 170) rfl rfl (fun d => rfl) ?_
          refine y_gR (i := 39) rfl rfl rfl (md170 hM) rfl ?_
          refine y_ld (x := .ref 170) rfl rfl (fun d => rfl) ?_
          refine y_gI (i := 40) (e := 2) rfl rfl rfl (md170 hM) rfl rfl ?_
          refine y_ld (x := iv 1) rfl rfl (fun d => rfl) ?_
          refine y_ist (q := 2) rfl rfl (md192 hM) (by decide) (by decide) rfl ?_
          refine y_ld (x := .ref 170) rfl rfl (fun d => rfl) ?_
          refine y_in rfl rfl (fun d => rfl) ?_
          refine y_gI (i := 40) (e := 2) rfl rfl rfl (md170 hM) rfl rfl ?_
          refine y_ic rfl rfl ?_
          refine y_add (z := 3) rfl rfl rfl ?_
          refine y_pI (i := 40) rfl rfl rfl (md170 hM) rfl rfl ?_
          refine y_ret rfl (fun d => rfl) ?_
          refine y_n0 ?_
          refine y_ld (x := .int (z * (Int32.ofInt 3))) rfl rfl (fun d => rfl) ?_
          refine y_ld (x := .ref 170) rfl rfl (fun d => rfl) ?_
          refine y_gI (i := 42) (e := ((x.toNat : Nat) : Int)) rfl rfl rfl (md170 hM) rfl rfl ?_
          refine y_in rfl rfl (fun d => rfl) ?_
          refine y_ret rfl (fun d => rfl) ?_
          refine y_nv ?_
          refine y_ret rfl (fun d => rfl) ?_
          refine y_nv ?_
          refine y_ld (x := .ref 170) rfl rfl (fun d => rfl) ?_
          refine y_gI (i := 43) (e := ((tl (V 171 (178 + x.toNat)).toNat).length : Int)) rfl rfl rfl (md170 hM) rfl rfl ?_
          refine y_in rfl rfl (fun d => rfl) ?_
          refine y_ret rfl (fun d => rfl) ?_
          refine y_nv ?_
          refine y_ret rfl (fun d => rfl) ?_
          refine y_nv ?_
          refine y_go rfl rfl ?_
          refine y_ret rfl (fun d => rfl) ?_
          have k2 := k1 (by omega)
          rw [hq, hy3] at k2
          exact k2 _ (fun k h8 h9 => by rw [v_up_ne h8, v_up_ne h9, v_up_ne h8, v_up_ne h9, v_up_ne h8, v_up_ne h9, v_up_ne h8, v_up_ne h8, v_up_ne h8, v_up_ne h8]) (fun i hi => by rw [v_up_ni (by omega), v_up_ne (by decide), v_up_ni (by omega), v_up_ne (by decide), v_up_ni (by omega), v_up_ne (by decide), v_up_ni (by omega), v_up_ni (by omega), v_up_ni (by omega), v_up_ni (by omega)]) ⟨by show (0 : Int) ≤ 3; decide, by show (3 : Int) ≤ 20; decide⟩
        · refine y_lv (l' := [(0, .ref 170), (1, iv ((x.toNat : Nat) : Int)), (2, iv 2), (3, .int z)]) rfl ⟨rfl, congrArg (fun e => some (iv e)) (by omega), congrArg (fun e => some (iv e)) hy3, rfl, trivial⟩ ?_
          refine y_ld (x := .ref 170) rfl rfl (fun d => rfl) ?_
          refine y_ld (x := .ref 170) rfl rfl (fun d => rfl) ?_
          refine y_gR (i := 1) rfl rfl rfl (md170 hM) rfl ?_
          refine y_si rfl rfl (by decide) ?_
          refine y_ld (x := iv ((x.toNat : Nat) : Int)) rfl rfl (fun d => rfl) ?_
          refine y_add (z := (170 + ((x.toNat : Nat) : Int))) rfl rfl rfl ?_
          refine y_ild (x := 4) (q := (170 + x.toNat)) rfl rfl (md171 hM) (by omega) (by decide) (by omega) hq ?_
          refine y_pI (i := 41) rfl rfl rfl (md170 hM) rfl rfl ?_
          refine y_ld (x := .ref 170) rfl rfl (fun d => rfl) ?_
          refine y_ld (x := iv ((x.toNat : Nat) : Int)) rfl rfl (fun d => rfl) ?_
          refine y_pI (i := 42) rfl rfl rfl (md170 hM) rfl rfl ?_
          refine y_ld (x := .ref 170) rfl rfl (fun d => rfl) ?_
          refine y_ld (x := .ref 170) rfl rfl (fun d => rfl) ?_
          refine y_gR (i := 6) rfl rfl rfl (md170 hM) rfl ?_
          refine y_ld (x := .ref 170) rfl rfl (fun d => rfl) ?_
          refine y_gR (i := 1) rfl rfl rfl (md170 hM) rfl ?_
          refine y_si rfl rfl (by decide) ?_
          refine y_ld (x := iv ((x.toNat : Nat) : Int)) rfl rfl (fun d => rfl) ?_
          refine y_add (z := (178 + ((x.toNat : Nat) : Int))) rfl rfl rfl ?_
          refine y_ild (x := (((V 171 (178 + x.toNat)).toNat : Nat) : Int)) (q := (178 + x.toNat)) rfl rfl (md171 hM) (by omega) (by decide) (by omega) (by rw [v_up_ne (by decide), v_up_ne (by decide), v_up_ne (by decide)]; omega) ?_
          refine y_ild (x := ((tl (V 171 (178 + x.toNat)).toNat).length : Int)) (q := ((V 171 (178 + x.toNat)).toNat)) rfl rfl (md175 hM) (by omega) (by decide) (by omega) hM2 ?_
          refine y_pI (i := 43) rfl rfl rfl (md170 hM) rfl rfl ?_
          refine y_ld (x := iv 2) rfl rfl (fun d => rfl) ?_
          refine y_zne rfl rfl rfl (by decide) (fun g166 => ?_) (fun g166 => absurd g166 (by decide))
          refine y_ld (x := iv 2) rfl rfl (fun d => rfl) ?_
          refine y_ic rfl rfl ?_
          refine y_jne rfl rfl rfl (by decide) (fun g167 => ?_) (fun g167 => absurd g167 (by decide))
          refine y_ld (x := .ref 170) rfl rfl (fun d => rfl) ?_
          refine y_ld (x := .int z) rfl rfl (fun d => rfl) ?_
          refine y_cV (D' := 12) (as := [.ref 170, .int z]) rfl rfl rfl rfl rfl (md170 hM) ⟨rfl, (Nat.le_of_ble_eq_true rfl), (Nat.le_of_ble_eq_true rfl)⟩ (by decide) ?_
          refine y_ent (lv' := [(0, .ref 170), (1, .int z)]) (Nat.le_of_ble_eq_true rfl) rfl ?_
          refine y_ld (x := .ref 170) rfl rfl (fun d => rfl) ?_
          refine y_gI (i := 41) (e := 4) rfl rfl rfl (md170 hM) rfl rfl ?_
          refine y_ic rfl rfl ?_
          refine y_jne rfl rfl rfl (by decide) (fun g168 => absurd g168 (by decide)) (fun g168 => ?_)
          refine y_ld (x := .ref 170) rfl rfl (fun d => rfl) ?_
          refine y_bi rfl rfl (by decide) ?_
          refine y_cV (D' := 11) (as := [.ref 170, iv 41]) rfl rfl rfl rfl rfl (md170 hM) ⟨rfl, (Nat.le_of_ble_eq_true rfl), (Nat.le_of_ble_eq_true rfl)⟩ (by decide) ?_
          refine y_ent (lv' := [(0, .ref 170), (1, iv 41)]) (Nat.le_of_ble_eq_true rfl) rfl ?_
          refine y_ld (x := .ref 170) rfl rfl (fun d => rfl) ?_
          refine y_gI (i := 40) (e := 0) rfl rfl rfl (md170 hM) rfl rfl ?_
          refine y_bi rfl rfl (by decide) ?_
          refine y_jge rfl rfl rfl (by decide) (fun g169 => absurd g169 (by decide)) (fun g169 => ?_)
          refine y_ld (x := .ref 170) rfl rfl (fun d => rfl) ?_
          refine y_gR (i := 39) rfl rfl rfl (md170 hM) rfl ?_
          refine y_ld (x := .ref 170) rfl rfl (fun d => rfl) ?_
          refine y_gI (i := 40) (e := 0) rfl rfl rfl (md170 hM) rfl rfl ?_
          refine y_ld (x := iv 41) rfl rfl (fun d => rfl) ?_
          refine y_ist (q := 0) rfl rfl (md192 hM) (by decide) (by decide) rfl ?_
          refine y_ld (x := .ref 170) rfl rfl (fun d => rfl) ?_
          refine y_in rfl rfl (fun d => rfl) ?_
          refine y_gI (i := 40) (e := 0) rfl rfl rfl (md170 hM) rfl rfl ?_
          refine y_ic rfl rfl ?_
          refine y_add (z := 1) rfl rfl rfl ?_
          refine y_pI (i := 40) rfl rfl rfl (md170 hM) rfl rfl ?_
          refine y_ret rfl (fun d => rfl) ?_
          refine y_n0 ?_
          refine y_ld (x := .ref 170) rfl rfl (fun d => rfl) ?_
          refine y_ld (x := .int z) rfl rfl (fun d => rfl) ?_
          refine y_ic rfl rfl ?_
          refine y_in rfl rfl (fun d => rfl) ?_
          refine y_cV (D' := 11) (as := [.ref 170, .int (z - (Int32.ofInt 1))]) rfl rfl rfl rfl rfl (md170 hM) ⟨rfl, (Nat.le_of_ble_eq_true rfl), (Nat.le_of_ble_eq_true rfl)⟩ (by decide) ?_
          refine y_ent (lv' := [(0, .ref 170), (1, .int (z - (Int32.ofInt 1)))]) (Nat.le_of_ble_eq_true rfl) rfl ?_
          refine y_ld (x := .ref 170) rfl rfl (fun d => rfl) ?_
          refine y_ic rfl rfl ?_
          refine y_cV (D' := 10) (as := [.ref 170, iv 3]) rfl rfl rfl rfl rfl (md170 hM) ⟨rfl, (Nat.le_of_ble_eq_true rfl), (Nat.le_of_ble_eq_true rfl)⟩ (by decide) ?_
          refine y_ent (lv' := [(0, .ref 170), (1, iv 3)]) (Nat.le_of_ble_eq_true rfl) rfl ?_
          refine y_ld (x := .ref 170) rfl rfl (fun d => rfl) ?_
          refine y_gI (i := 40) (e := 1) rfl rfl rfl (md170 hM) rfl rfl ?_
          refine y_bi rfl rfl (by decide) ?_
          refine y_jge rfl rfl rfl (by decide) (fun g170 => absurd g170 (by decide)) (fun g170 => ?_)
          refine y_ld (x := .ref 170) rfl rfl (fun d => rfl) ?_
          refine y_gR (i := 39) rfl rfl rfl (md170 hM) rfl ?_
          refine y_ld (x := .ref 170) rfl rfl (fun d => rfl) ?_
          refine y_gI (i := 40) (e := 1) rfl rfl rfl (md170 hM) rfl rfl ?_
          refine y_ld (x := iv 3) rfl rfl (fun d => rfl) ?_
          refine y_ist (q := 1) rfl rfl (md192 hM) (by decide) (by decide) rfl ?_
          refine y_ld (x := .ref 170) rfl rfl (fun d => rfl) ?_
          refine y_in rfl rfl (fun d => rfl) ?_
          refine y_gI (i := 40) (e := 1) rfl rfl rfl (md170 hM) rfl rfl ?_
          refine y_ic rfl rfl ?_
          refine y_add (z := 2) rfl rfl rfl ?_
          refine y_pI (i := 40) rfl rfl rfl (md170 hM) rfl rfl ?_
          refine y_ret rfl (fun d => rfl) ?_
          refine y_n0 ?_
          refine y_ld (x := .ref 170) rfl rfl (fun d => rfl) ?_
          refine y_ld (x := .int (z - (Int32.ofInt 1))) rfl rfl (fun d => rfl) ?_
          refine y_cV (D' := 10) (as := [.ref 170, .int (z - (Int32.ofInt 1))]) rfl rfl rfl rfl rfl (md170 hM) ⟨rfl, (Nat.le_of_ble_eq_true rfl), (Nat.le_of_ble_eq_true rfl)⟩ (by decide) ?_
          refine y_ent (lv' := [(0, .ref 170), (1, .int (z - (Int32.ofInt 1)))]) (Nat.le_of_ble_eq_true rfl) rfl ?_
          refine y_ld (x := .ref 170) rfl rfl (fun d => rfl) ?_
          refine y_gI (i := 41) (e := 4) rfl rfl rfl (md170 hM) rfl rfl ?_
          refine y_ic rfl rfl ?_
          refine y_jne rfl rfl rfl (by decide) (fun g171 => ?_) (fun g171 => absurd g171 (by decide))
          refine y_ld (x := .ref 170) rfl rfl (fun d => rfl) ?_
          refine y_gI (i := 41) (e := 4) rfl rfl rfl (md170 hM) rfl rfl ?_
          refine y_ic rfl rfl ?_
          refine y_cS (D' := 9) (as := [iv 4, iv 1]) rfl (by decide) rfl rfl rfl rfl ⟨(Nat.le_of_ble_eq_true rfl), (Nat.le_of_ble_eq_true rfl)⟩ (by decide) ?_
          refine y_ent (lv' := [(0, iv 4), (1, iv 1)]) (Nat.le_of_ble_eq_true rfl) rfl ?_
          refine y_ld (x := iv 1) rfl rfl (fun d => rfl) ?_
          refine y_zeq rfl rfl rfl (by decide) (fun g172 => absurd g172 (by decide)) (fun g172 => ?_)
          refine y_ld (x := iv 1) rfl rfl (fun d => rfl) ?_
          refine y_ld (x := iv 4) rfl rfl (fun d => rfl) ?_
          refine y_jeq rfl rfl rfl (by decide) (fun g173 => absurd g173 (by decide)) (fun g173 => ?_)
          refine y_ld (x := iv 1) rfl rfl (fun d => rfl) ?_
          refine y_ic rfl rfl ?_
          refine y_jne rfl rfl rfl (by decide) (fun g174 => absurd g174 (by decide)) (fun g174 => ?_)
          refine y_ld (x := iv 4) rfl rfl (fun d => rfl) ?_
          refine y_ic rfl rfl ?_
          refine y_jeq rfl rfl rfl (by decide) (fun g175 => ?_) (fun g175 => absurd g175 (by decide))
          refine y_ic rfl rfl ?_
          refine y_go rfl rfl ?_
          refine y_rI rfl (by decide) ?_
          refine y_nv ?_
          refine y_zeq rfl rfl rfl (by decide) (fun g176 => absurd g176 (by decide)) (fun g176 => ?_)
          refine y_ld (x := .ref 170) rfl rfl (fun d => rfl) ?_
          refine y_bi rfl rfl (by decide) ?_
          refine y_cV (D' := 9) (as := [.ref 170, iv 11]) rfl rfl rfl rfl rfl (md170 hM) ⟨rfl, (Nat.le_of_ble_eq_true rfl), (Nat.le_of_ble_eq_true rfl)⟩ (by decide) ?_
          refine y_ent (lv' := [(0, .ref 170), (1, iv 11)]) (Nat.le_of_ble_eq_true rfl) rfl ?_
          refine y_ld (x := .ref 170) rfl rfl (fun d => rfl) ?_
          refine y_gI (i := 40) (e := 2) rfl rfl rfl (md170 hM) rfl rfl ?_
          refine y_bi rfl rfl (by decide) ?_
          refine y_jge rfl rfl rfl (by decide) (fun g177 => absurd g177 (by decide)) (fun g177 => ?_)
          refine y_ld (x := .ref 170) rfl rfl (fun d => rfl) ?_
          refine y_gR (i := 39) rfl rfl rfl (md170 hM) rfl ?_
          refine y_ld (x := .ref 170) rfl rfl (fun d => rfl) ?_
          refine y_gI (i := 40) (e := 2) rfl rfl rfl (md170 hM) rfl rfl ?_
          refine y_ld (x := iv 11) rfl rfl (fun d => rfl) ?_
          refine y_ist (q := 2) rfl rfl (md192 hM) (by decide) (by decide) rfl ?_
          refine y_ld (x := .ref 170) rfl rfl (fun d => rfl) ?_
          refine y_in rfl rfl (fun d => rfl) ?_
          refine y_gI (i := 40) (e := 2) rfl rfl rfl (md170 hM) rfl rfl ?_
          refine y_ic rfl rfl ?_
          refine y_add (z := 3) rfl rfl rfl ?_
          refine y_pI (i := 40) rfl rfl rfl (md170 hM) rfl rfl ?_
          refine y_ret rfl (fun d => rfl) ?_
          refine y_n0 ?_
          refine y_ld (x := .ref 170) rfl rfl (fun d => rfl) ?_
          refine y_ld (x := .int (z - (Int32.ofInt 1))) rfl rfl (fun d => rfl) ?_
          refine y_ic rfl rfl ?_
          refine y_in rfl rfl (fun d => rfl) ?_
          refine y_cV (D' := 9) (as := [.ref 170, .int ((z - (Int32.ofInt 1)) * (Int32.ofInt 3))]) rfl rfl rfl rfl rfl (md170 hM) ⟨rfl, (Nat.le_of_ble_eq_true rfl), (Nat.le_of_ble_eq_true rfl)⟩ (by decide) ?_
          refine y_ent (lv' := [(0, .ref 170), (1, .int ((z - (Int32.ofInt 1)) * (Int32.ofInt 3)))]) (Nat.le_of_ble_eq_true rfl) rfl ?_
          refine y_ld (x := .ref 170) rfl rfl (fun d => rfl) ?_
          refine y_ic rfl rfl ?_
          refine y_cV (D' := 8) (as := [.ref 170, iv 2]) rfl rfl rfl rfl rfl (md170 hM) ⟨rfl, (Nat.le_of_ble_eq_true rfl), (Nat.le_of_ble_eq_true rfl)⟩ (by decide) ?_
          refine y_ent (lv' := [(0, .ref 170), (1, iv 2)]) (Nat.le_of_ble_eq_true rfl) rfl ?_
          refine y_ld (x := .ref 170) rfl rfl (fun d => rfl) ?_
          refine y_gI (i := 40) (e := 3) rfl rfl rfl (md170 hM) rfl rfl ?_
          refine y_bi rfl rfl (by decide) ?_
          refine y_jge rfl rfl rfl (by decide) (fun g178 => absurd g178 (by decide)) (fun g178 => ?_)
          refine y_ld (x := .ref 170) rfl rfl (fun d => rfl) ?_
          refine y_gR (i := 39) rfl rfl rfl (md170 hM) rfl ?_
          refine y_ld (x := .ref 170) rfl rfl (fun d => rfl) ?_
          refine y_gI (i := 40) (e := 3) rfl rfl rfl (md170 hM) rfl rfl ?_
          refine y_ld (x := iv 2) rfl rfl (fun d => rfl) ?_
          refine y_ist (q := 3) rfl rfl (md192 hM) (by decide) (by decide) rfl ?_
          refine y_ld (x := .ref 170) rfl rfl (fun d => rfl) ?_
          refine y_in rfl rfl (fun d => rfl) ?_
          refine y_gI (i := 40) (e := 3) rfl rfl rfl (md170 hM) rfl rfl ?_
          refine y_ic rfl rfl ?_
          refine y_add (z := 4) rfl rfl rfl ?_
          refine y_pI (i := 40) rfl rfl rfl (md170 hM) rfl rfl ?_
          refine y_ret rfl (fun d => rfl) ?_
          refine y_n0 ?_
          refine y_ld (x := .ref 170) rfl rfl (fun d => rfl) ?_
          refine y_ld (x := .int ((z - (Int32.ofInt 1)) * (Int32.ofInt 3))) rfl rfl (fun d => rfl) ?_
          refine y_cV (D' := 8) (as := [.ref 170, .int ((z - (Int32.ofInt 1)) * (Int32.ofInt 3))]) rfl rfl rfl rfl rfl (md170 hM) ⟨rfl, (Nat.le_of_ble_eq_true rfl), (Nat.le_of_ble_eq_true rfl)⟩ (by decide) ?_
          refine y_ent (lv' := [(0, .ref 170), (1, .int ((z - (Int32.ofInt 1)) * (Int32.ofInt 3)))]) (Nat.le_of_ble_eq_true rfl) rfl ?_
          refine y_ld (x := .ref 170) rfl rfl (fun d => rfl) ?_
          refine y_gI (i := 41) (e := 4) rfl rfl rfl (md170 hM) rfl rfl ?_
          refine y_ic rfl rfl ?_
          refine y_jne rfl rfl rfl (by decide) (fun g179 => ?_) (fun g179 => absurd g179 (by decide))
          refine y_ld (x := .ref 170) rfl rfl (fun d => rfl) ?_
          refine y_gI (i := 41) (e := 4) rfl rfl rfl (md170 hM) rfl rfl ?_
          refine y_bi rfl rfl (by decide) ?_
          refine y_jne rfl rfl rfl (by decide) (fun g180 => ?_) (fun g180 => absurd g180 (by decide))
          refine y_ld (x := .ref 170) rfl rfl (fun d => rfl) ?_
          refine y_ld (x := .int ((z - (Int32.ofInt 1)) * (Int32.ofInt 3))) rfl rfl (fun d => rfl) ?_
          refine y_cV (D' := 7) (as := [.ref 170, .int ((z - (Int32.ofInt 1)) * (Int32.ofInt 3))]) rfl rfl rfl rfl rfl (md170 hM) ⟨rfl, (Nat.le_of_ble_eq_true rfl), (Nat.le_of_ble_eq_true rfl)⟩ (by decide) ?_
          refine y_ent (lv' := [(0, .ref 170), (1, .int ((z - (Int32.ofInt 1)) * (Int32.ofInt 3)))]) (Nat.le_of_ble_eq_true rfl) rfl ?_
          refine y_ld (x := .ref 170) rfl rfl (fun d => rfl) ?_
          refine y_ic rfl rfl ?_
          refine y_cV (D' := 6) (as := [.ref 170, iv 1]) rfl rfl rfl rfl rfl (md170 hM) ⟨rfl, (Nat.le_of_ble_eq_true rfl), (Nat.le_of_ble_eq_true rfl)⟩ (by decide) ?_
          refine y_ent (lv' := [(0, .ref 170), (1, iv 1)]) (Nat.le_of_ble_eq_true rfl) rfl ?_
          refine y_ld (x := .ref 170) rfl rfl (fun d => rfl) ?_
          refine y_gI (i := 40) (e := 4) rfl rfl rfl (md170 hM) rfl rfl ?_
          refine y_bi rfl rfl (by decide) ?_
          refine y_jge rfl rfl rfl (by decide) (fun g181 => absurd g181 (by decide)) (fun g181 => ?_)
          refine y_ld (x := .ref 170) rfl rfl (fun d => rfl) ?_
          refine y_gR (i := 39) rfl rfl rfl (md170 hM) rfl ?_
          refine y_ld (x := .ref 170) rfl rfl (fun d => rfl) ?_
          refine y_gI (i := 40) (e := 4) rfl rfl rfl (md170 hM) rfl rfl ?_
          refine y_ld (x := iv 1) rfl rfl (fun d => rfl) ?_
          refine y_ist (q := 4) rfl rfl (md192 hM) (by decide) (by decide) rfl ?_
          refine y_ld (x := .ref 170) rfl rfl (fun d => rfl) ?_
          refine y_in rfl rfl (fun d => rfl) ?_
          refine y_gI (i := 40) (e := 4) rfl rfl rfl (md170 hM) rfl rfl ?_
          refine y_ic rfl rfl ?_
          refine y_add (z := 5) rfl rfl rfl ?_
          refine y_pI (i := 40) rfl rfl rfl (md170 hM) rfl rfl ?_
          refine y_ret rfl (fun d => rfl) ?_
          refine y_n0 ?_
          refine y_ld (x := .int ((z - (Int32.ofInt 1)) * (Int32.ofInt 3))) rfl rfl (fun d => rfl) ?_
          refine y_ld (x := .ref 170) rfl rfl (fun d => rfl) ?_
          refine y_gI (i := 42) (e := ((x.toNat : Nat) : Int)) rfl rfl rfl (md170 hM) rfl rfl ?_
          refine y_in rfl rfl (fun d => rfl) ?_
          refine y_ret rfl (fun d => rfl) ?_
          refine y_nv ?_
          refine y_ret rfl (fun d => rfl) ?_
          refine y_nv ?_
          refine y_ld (x := .ref 170) rfl rfl (fun d => rfl) ?_
          refine y_gI (i := 43) (e := ((tl (V 171 (178 + x.toNat)).toNat).length : Int)) rfl rfl rfl (md170 hM) rfl rfl ?_
          refine y_in rfl rfl (fun d => rfl) ?_
          refine y_ret rfl (fun d => rfl) ?_
          refine y_nv ?_
          refine y_ret rfl (fun d => rfl) ?_
          refine y_nv ?_
          refine y_ic rfl rfl ?_
          refine y_in rfl rfl (fun d => rfl) ?_
          refine y_ret rfl (fun d => rfl) ?_
          refine y_nv ?_
          refine y_st (lv' := [(2, .int (((((z - (Int32.ofInt 1)) * (Int32.ofInt 3)) + (Int32.ofInt ((x.toNat : Nat) : Int))) - (Int32.ofInt ((tl (V 171 (178 + x.toNat)).toNat).length : Int))) * (Int32.ofInt 2))), (0, .ref 170), (1, .int z)]) rfl rfl (fun d => rfl) ?_
          refine y_ld (x := .int (((((z - (Int32.ofInt 1)) * (Int32.ofInt 3)) + (Int32.ofInt ((x.toNat : Nat) : Int))) - (Int32.ofInt ((tl (V 171 (178 + x.toNat)).toNat).length : Int))) * (Int32.ofInt 2))) rfl rfl (fun d => rfl) ?_
          refine y_ld (x := .ref 170) rfl rfl (fun d => rfl) ?_
          refine y_ic rfl rfl ?_
          refine y_cV (D' := 11) (as := [.ref 170, iv 2]) rfl rfl rfl rfl rfl (md170 hM) ⟨rfl, (Nat.le_of_ble_eq_true rfl), (Nat.le_of_ble_eq_true rfl)⟩ (by decide) ?_
          refine y_ent (lv' := [(0, .ref 170), (1, iv 2)]) (Nat.le_of_ble_eq_true rfl) rfl ?_
          refine y_ld (x := .ref 170) rfl rfl (fun d => rfl) ?_
          refine y_gI (i := 41) (e := 4) rfl rfl rfl (md170 hM) rfl rfl ?_
          refine y_ic rfl rfl ?_
          refine y_jne rfl rfl rfl (by decide) (fun g182 => ?_) (fun g182 => absurd g182 (by decide))
          refine y_ld (x := .ref 170) rfl rfl (fun d => rfl) ?_
          refine y_gI (i := 41) (e := 4) rfl rfl rfl (md170 hM) rfl rfl ?_
          refine y_bi rfl rfl (by decide) ?_
          refine y_jne rfl rfl rfl (by decide) (fun g183 => ?_) (fun g183 => absurd g183 (by decide))
          refine y_ld (x := .ref 170) rfl rfl (fun d => rfl) ?_
          refine y_ld (x := iv 2) rfl rfl (fun d => rfl) ?_
          refine y_cV (D' := 10) (as := [.ref 170, iv 2]) rfl rfl rfl rfl rfl (md170 hM) ⟨rfl, (Nat.le_of_ble_eq_true rfl), (Nat.le_of_ble_eq_true rfl)⟩ (by decide) ?_
          refine y_ent (lv' := [(0, .ref 170), (1, iv 2)]) (Nat.le_of_ble_eq_true rfl) rfl ?_
          refine y_ld (x := .ref 170) rfl rfl (fun d => rfl) ?_
          refine y_ic rfl rfl ?_
          refine y_cV (D' := 9) (as := [.ref 170, iv 1]) rfl rfl rfl rfl rfl (md170 hM) ⟨rfl, (Nat.le_of_ble_eq_true rfl), (Nat.le_of_ble_eq_true rfl)⟩ (by decide) ?_
          refine y_ent (lv' := [(0, .ref 170), (1, iv 1)]) (Nat.le_of_ble_eq_true rfl) rfl ?_
          refine y_ld (x := .ref 170) rfl rfl (fun d => rfl) ?_
          refine y_gI (i := 40) (e := 5) rfl rfl rfl (md170 hM) rfl rfl ?_
          refine y_bi rfl rfl (by decide) ?_
          refine y_jge rfl rfl rfl (by decide) (fun g184 => absurd g184 (by decide)) (fun g184 => ?_)
          refine y_ld (x := .ref 170) rfl rfl (fun d => rfl) ?_
          refine y_gR (i := 39) rfl rfl rfl (md170 hM) rfl ?_
          refine y_ld (x := .ref 170) rfl rfl (fun d => rfl) ?_
          refine y_gI (i := 40) (e := 5) rfl rfl rfl (md170 hM) rfl rfl ?_
          refine y_ld (x := iv 1) rfl rfl (fun d => rfl) ?_
          refine y_ist (q := 5) rfl rfl (md192 hM) (by decide) (by decide) rfl ?_
          refine y_ld (x := .ref 170) rfl rfl (fun d => rfl) ?_
          refine y_in rfl rfl (fun d => rfl) ?_
          refine y_gI (i := 40) (e := 5) rfl rfl rfl (md170 hM) rfl rfl ?_
          refine y_ic rfl rfl ?_
          refine y_add (z := 6) rfl rfl rfl ?_
          refine y_pI (i := 40) rfl rfl rfl (md170 hM) rfl rfl ?_
          refine y_ret rfl (fun d => rfl) ?_
          refine y_n0 ?_
          refine y_ld (x := iv 2) rfl rfl (fun d => rfl) ?_
          refine y_ld (x := .ref 170) rfl rfl (fun d => rfl) ?_
          refine y_gI (i := 42) (e := ((x.toNat : Nat) : Int)) rfl rfl rfl (md170 hM) rfl rfl ?_
          refine y_add (z := (2 + ((x.toNat : Nat) : Int))) rfl rfl rfl ?_
          refine y_rI rfl (Or.inl rfl) ?_
          refine y_nv ?_
          refine y_rI rfl (Or.inl rfl) ?_
          refine y_nv ?_
          refine y_in rfl rfl (fun d => rfl) ?_
          refine y_ret rfl (fun d => rfl) ?_
          refine y_nv ?_
          refine y_ret rfl (fun d => rfl) ?_
          have k2 := k1 (by omega)
          rw [hq, hy3] at k2
          exact k2 _ (fun k h8 h9 => by rw [v_up_ne h8, v_up_ne h9, v_up_ne h8, v_up_ne h9, v_up_ne h8, v_up_ne h9, v_up_ne h8, v_up_ne h9, v_up_ne h8, v_up_ne h9, v_up_ne h8, v_up_ne h9, v_up_ne h8, v_up_ne h8, v_up_ne h8, v_up_ne h8]) (fun i hi => by rw [v_up_ni (by omega), v_up_ne (by decide), v_up_ni (by omega), v_up_ne (by decide), v_up_ni (by omega), v_up_ne (by decide), v_up_ni (by omega), v_up_ne (by decide), v_up_ni (by omega), v_up_ne (by decide), v_up_ni (by omega), v_up_ne (by decide), v_up_ni (by omega), v_up_ni (by omega), v_up_ni (by omega), v_up_ni (by omega)]) ⟨by show (0 : Int) ≤ 6; decide, by show (6 : Int) ≤ 20; decide⟩
      · rcases (show y = 0 ∨ y = 1 ∨ y = 2 by omega) with hy3 | hy3 | hy3
        · refine y_lv (l' := [(0, .ref 170), (1, iv ((x.toNat : Nat) : Int)), (2, iv 0), (3, .int z)]) rfl ⟨rfl, congrArg (fun e => some (iv e)) (by omega), congrArg (fun e => some (iv e)) hy3, rfl, trivial⟩ ?_
          refine y_ld (x := .ref 170) rfl rfl (fun d => rfl) ?_
          refine y_ld (x := .ref 170) rfl rfl (fun d => rfl) ?_
          refine y_gR (i := 1) rfl rfl rfl (md170 hM) rfl ?_
          refine y_si rfl rfl (by decide) ?_
          refine y_ld (x := iv ((x.toNat : Nat) : Int)) rfl rfl (fun d => rfl) ?_
          refine y_add (z := (170 + ((x.toNat : Nat) : Int))) rfl rfl rfl ?_
          refine y_ild (x := 5) (q := (170 + x.toNat)) rfl rfl (md171 hM) (by omega) (by decide) (by omega) hq ?_
          refine y_pI (i := 41) rfl rfl rfl (md170 hM) rfl rfl ?_
          refine y_ld (x := .ref 170) rfl rfl (fun d => rfl) ?_
          refine y_ld (x := iv ((x.toNat : Nat) : Int)) rfl rfl (fun d => rfl) ?_
          refine y_pI (i := 42) rfl rfl rfl (md170 hM) rfl rfl ?_
          refine y_ld (x := .ref 170) rfl rfl (fun d => rfl) ?_
          refine y_ld (x := .ref 170) rfl rfl (fun d => rfl) ?_
          refine y_gR (i := 6) rfl rfl rfl (md170 hM) rfl ?_
          refine y_ld (x := .ref 170) rfl rfl (fun d => rfl) ?_
          refine y_gR (i := 1) rfl rfl rfl (md170 hM) rfl ?_
          refine y_si rfl rfl (by decide) ?_
          refine y_ld (x := iv ((x.toNat : Nat) : Int)) rfl rfl (fun d => rfl) ?_
          refine y_add (z := (178 + ((x.toNat : Nat) : Int))) rfl rfl rfl ?_
          refine y_ild (x := (((V 171 (178 + x.toNat)).toNat : Nat) : Int)) (q := (178 + x.toNat)) rfl rfl (md171 hM) (by omega) (by decide) (by omega) (by rw [v_up_ne (by decide), v_up_ne (by decide), v_up_ne (by decide)]; omega) ?_
          refine y_ild (x := ((tl (V 171 (178 + x.toNat)).toNat).length : Int)) (q := ((V 171 (178 + x.toNat)).toNat)) rfl rfl (md175 hM) (by omega) (by decide) (by omega) hM2 ?_
          refine y_pI (i := 43) rfl rfl rfl (md170 hM) rfl rfl ?_
          refine y_ld (x := iv 0) rfl rfl (fun d => rfl) ?_
          refine y_zne rfl rfl rfl (by decide) (fun g185 => absurd g185 (by decide)) (fun g185 => ?_)
          refine y_ld (x := .ref 170) rfl rfl (fun d => rfl) ?_
          refine y_ld (x := .int z) rfl rfl (fun d => rfl) ?_
          refine y_cV (D' := 12) (as := [.ref 170, .int z]) rfl rfl rfl rfl rfl (md170 hM) ⟨rfl, (Nat.le_of_ble_eq_true rfl), (Nat.le_of_ble_eq_true rfl)⟩ (by decide) ?_
          refine y_ent (lv' := [(0, .ref 170), (1, .int z)]) (Nat.le_of_ble_eq_true rfl) rfl ?_
          refine y_ld (x := .ref 170) rfl rfl (fun d => rfl) ?_
          refine y_gI (i := 41) (e := 5) rfl rfl rfl (md170 hM) rfl rfl ?_
          refine y_ic rfl rfl ?_
          refine y_jne rfl rfl rfl (by decide) (fun g186 => ?_) (fun g186 => absurd g186 (by decide))
          refine y_ld (x := .ref 170) rfl rfl (fun d => rfl) ?_
          refine y_gI (i := 41) (e := 5) rfl rfl rfl (md170 hM) rfl rfl ?_
          refine y_bi rfl rfl (by decide) ?_
          refine y_jne rfl rfl rfl (by decide) (fun g187 => ?_) (fun g187 => absurd g187 (by decide))
          refine y_ld (x := .ref 170) rfl rfl (fun d => rfl) ?_
          refine y_ld (x := .int z) rfl rfl (fun d => rfl) ?_
          refine y_cV (D' := 11) (as := [.ref 170, .int z]) rfl rfl rfl rfl rfl (md170 hM) ⟨rfl, (Nat.le_of_ble_eq_true rfl), (Nat.le_of_ble_eq_true rfl)⟩ (by decide) ?_
          refine y_ent (lv' := [(0, .ref 170), (1, .int z)]) (Nat.le_of_ble_eq_true rfl) rfl ?_
          refine y_ld (x := .ref 170) rfl rfl (fun d => rfl) ?_
          refine y_ic rfl rfl ?_
          refine y_cV (D' := 10) (as := [.ref 170, iv 1]) rfl rfl rfl rfl rfl (md170 hM) ⟨rfl, (Nat.le_of_ble_eq_true rfl), (Nat.le_of_ble_eq_true rfl)⟩ (by decide) ?_
          refine y_ent (lv' := [(0, .ref 170), (1, iv 1)]) (Nat.le_of_ble_eq_true rfl) rfl ?_
          refine y_ld (x := .ref 170) rfl rfl (fun d => rfl) ?_
          refine y_gI (i := 40) (e := 0) rfl rfl rfl (md170 hM) rfl rfl ?_
          refine y_bi rfl rfl (by decide) ?_
          refine y_jge rfl rfl rfl (by decide) (fun g188 => absurd g188 (by decide)) (fun g188 => ?_)
          refine y_ld (x := .ref 170) rfl rfl (fun d => rfl) ?_
          refine y_gR (i := 39) rfl rfl rfl (md170 hM) rfl ?_
          refine y_ld (x := .ref 170) rfl rfl (fun d => rfl) ?_
          refine y_gI (i := 40) (e := 0) rfl rfl rfl (md170 hM) rfl rfl ?_
          refine y_ld (x := iv 1) rfl rfl (fun d => rfl) ?_
          refine y_ist (q := 0) rfl rfl (md192 hM) (by decide) (by decide) rfl ?_
          refine y_ld (x := .ref 170) rfl rfl (fun d => rfl) ?_
          refine y_in rfl rfl (fun d => rfl) ?_
          refine y_gI (i := 40) (e := 0) rfl rfl rfl (md170 hM) rfl rfl ?_
          refine y_ic rfl rfl ?_
          refine y_add (z := 1) rfl rfl rfl ?_
          refine y_pI (i := 40) rfl rfl rfl (md170 hM) rfl rfl ?_
          refine y_ret rfl (fun d => rfl) ?_
          refine y_n0 ?_
          refine y_ld (x := .int z) rfl rfl (fun d => rfl) ?_
          refine y_ld (x := .ref 170) rfl rfl (fun d => rfl) ?_
          refine y_gI (i := 42) (e := ((x.toNat : Nat) : Int)) rfl rfl rfl (md170 hM) rfl rfl ?_
          refine y_in rfl rfl (fun d => rfl) ?_
          refine y_ret rfl (fun d => rfl) ?_
          refine y_nv ?_
          refine y_ret rfl (fun d => rfl) ?_
          refine y_nv ?_
          refine y_go rfl rfl ?_
          refine y_ret rfl (fun d => rfl) ?_
          have k2 := k1 (by omega)
          rw [hq, hy3] at k2
          exact k2 _ (fun k h8 h9 => by rw [v_up_ne h8, v_up_ne h9, v_up_ne h8, v_up_ne h8, v_up_ne h8, v_up_ne h8]) (fun i hi => by rw [v_up_ni (by omega), v_up_ne (by decide), v_up_ni (by omega), v_up_ni (by omega), v_up_ni (by omega), v_up_ni (by omega)]) ⟨by show (0 : Int) ≤ 1; decide, by show (1 : Int) ≤ 20; decide⟩
        · refine y_lv (l' := [(0, .ref 170), (1, iv ((x.toNat : Nat) : Int)), (2, iv 1), (3, .int z)]) rfl ⟨rfl, congrArg (fun e => some (iv e)) (by omega), congrArg (fun e => some (iv e)) hy3, rfl, trivial⟩ ?_
          refine y_ld (x := .ref 170) rfl rfl (fun d => rfl) ?_
          refine y_ld (x := .ref 170) rfl rfl (fun d => rfl) ?_
          refine y_gR (i := 1) rfl rfl rfl (md170 hM) rfl ?_
          refine y_si rfl rfl (by decide) ?_
          refine y_ld (x := iv ((x.toNat : Nat) : Int)) rfl rfl (fun d => rfl) ?_
          refine y_add (z := (170 + ((x.toNat : Nat) : Int))) rfl rfl rfl ?_
          refine y_ild (x := 5) (q := (170 + x.toNat)) rfl rfl (md171 hM) (by omega) (by decide) (by omega) hq ?_
          refine y_pI (i := 41) rfl rfl rfl (md170 hM) rfl rfl ?_
          refine y_ld (x := .ref 170) rfl rfl (fun d => rfl) ?_
          refine y_ld (x := iv ((x.toNat : Nat) : Int)) rfl rfl (fun d => rfl) ?_
          refine y_pI (i := 42) rfl rfl rfl (md170 hM) rfl rfl ?_
          refine y_ld (x := .ref 170) rfl rfl (fun d => rfl) ?_
          refine y_ld (x := .ref 170) rfl rfl (fun d => rfl) ?_
          refine y_gR (i := 6) rfl rfl rfl (md170 hM) rfl ?_
          refine y_ld (x := .ref 170) rfl rfl (fun d => rfl) ?_
          refine y_gR (i := 1) rfl rfl rfl (md170 hM) rfl ?_
          refine y_si rfl rfl (by decide) ?_
          refine y_ld (x := iv ((x.toNat : Nat) : Int)) rfl rfl (fun d => rfl) ?_
          refine y_add (z := (178 + ((x.toNat : Nat) : Int))) rfl rfl rfl ?_
          refine y_ild (x := (((V 171 (178 + x.toNat)).toNat : Nat) : Int)) (q := (178 + x.toNat)) rfl rfl (md171 hM) (by omega) (by decide) (by omega) (by rw [v_up_ne (by decide), v_up_ne (by decide), v_up_ne (by decide)]; omega) ?_
          refine y_ild (x := ((tl (V 171 (178 + x.toNat)).toNat).length : Int)) (q := ((V 171 (178 + x.toNat)).toNat)) rfl rfl (md175 hM) (by omega) (by decide) (by omega) hM2 ?_
          refine y_pI (i := 43) rfl rfl rfl (md170 hM) rfl rfl ?_
          refine y_ld (x := iv 1) rfl rfl (fun d => rfl) ?_
          refine y_zne rfl rfl rfl (by decide) (fun g189 => ?_) (fun g189 => absurd g189 (by decide))
          refine y_ld (x := iv 1) rfl rfl (fun d => rfl) ?_
          refine y_ic rfl rfl ?_
          refine y_jne rfl rfl rfl (by decide) (fun g190 => absurd g190 (by decide)) (fun g190 => ?_)
          refine y_ld (x := .ref 170) rfl rfl (fun d => rfl) ?_
          refine y_ld (x := .int z) rfl rfl (fun d => rfl) ?_
          refine y_cV (D' := 12) (as := [.ref 170, .int z]) rfl rfl rfl rfl rfl (md170 hM) ⟨rfl, (Nat.le_of_ble_eq_true rfl), (Nat.le_of_ble_eq_true rfl)⟩ (by decide) ?_
          refine y_ent (lv' := [(0, .ref 170), (1, .int z)]) (Nat.le_of_ble_eq_true rfl) rfl ?_
          refine y_ld (x := .ref 170) rfl rfl (fun d => rfl) ?_
          refine y_gI (i := 41) (e := 5) rfl rfl rfl (md170 hM) rfl rfl ?_
          refine y_ic rfl rfl ?_
          refine y_jne rfl rfl rfl (by decide) (fun g191 => absurd g191 (by decide)) (fun g191 => ?_)
          refine y_ld (x := .ref 170) rfl rfl (fun d => rfl) ?_
          refine y_bi rfl rfl (by decide) ?_
          refine y_cV (D' := 11) (as := [.ref 170, iv 51]) rfl rfl rfl rfl rfl (md170 hM) ⟨rfl, (Nat.le_of_ble_eq_true rfl), (Nat.le_of_ble_eq_true rfl)⟩ (by decide) ?_
          refine y_ent (lv' := [(0, .ref 170), (1, iv 51)]) (Nat.le_of_ble_eq_true rfl) rfl ?_
          refine y_ld (x := .ref 170) rfl rfl (fun d => rfl) ?_
          refine y_gI (i := 40) (e := 0) rfl rfl rfl (md170 hM) rfl rfl ?_
          refine y_bi rfl rfl (by decide) ?_
          refine y_jge rfl rfl rfl (by decide) (fun g192 => absurd g192 (by decide)) (fun g192 => ?_)
          refine y_ld (x := .ref 170) rfl rfl (fun d => rfl) ?_
          refine y_gR (i := 39) rfl rfl rfl (md170 hM) rfl ?_
          refine y_ld (x := .ref 170) rfl rfl (fun d => rfl) ?_
          refine y_gI (i := 40) (e := 0) rfl rfl rfl (md170 hM) rfl rfl ?_
          refine y_ld (x := iv 51) rfl rfl (fun d => rfl) ?_
          refine y_ist (q := 0) rfl rfl (md192 hM) (by decide) (by decide) rfl ?_
          refine y_ld (x := .ref 170) rfl rfl (fun d => rfl) ?_
          refine y_in rfl rfl (fun d => rfl) ?_
          refine y_gI (i := 40) (e := 0) rfl rfl rfl (md170 hM) rfl rfl ?_
          refine y_ic rfl rfl ?_
          refine y_add (z := 1) rfl rfl rfl ?_
          refine y_pI (i := 40) rfl rfl rfl (md170 hM) rfl rfl ?_
          refine y_ret rfl (fun d => rfl) ?_
          refine y_n0 ?_
          refine y_ld (x := .ref 170) rfl rfl (fun d => rfl) ?_
          refine y_ld (x := .int z) rfl rfl (fun d => rfl) ?_
          refine y_cV (D' := 11) (as := [.ref 170, .int z]) rfl rfl rfl rfl rfl (md170 hM) ⟨rfl, (Nat.le_of_ble_eq_true rfl), (Nat.le_of_ble_eq_true rfl)⟩ (by decide) ?_
          refine y_ent (lv' := [(0, .ref 170), (1, .int z)]) (Nat.le_of_ble_eq_true rfl) rfl ?_
          refine y_ld (x := .ref 170) rfl rfl (fun d => rfl) ?_
          refine y_ic rfl rfl ?_
          refine y_cV (D' := 10) (as := [.ref 170, iv 2]) rfl rfl rfl rfl rfl (md170 hM) ⟨rfl, (Nat.le_of_ble_eq_true rfl), (Nat.le_of_ble_eq_true rfl)⟩ (by decide) ?_
          refine y_ent (lv' := [(0, .ref 170), (1, iv 2)]) (Nat.le_of_ble_eq_true rfl) rfl ?_
          refine y_ld (x := .ref 170) rfl rfl (fun d => rfl) ?_
          refine y_gI (i := 40) (e := 1) rfl rfl rfl (md170 hM) rfl rfl ?_
          refine y_bi rfl rfl (by decide) ?_
          refine y_jge rfl rfl rfl (by decide) (fun g193 => absurd g193 (by decide)) (fun g193 => ?_)
          refine y_ld (x := .ref 170) rfl rfl (fun d => rfl) ?_
          refine y_gR (i := 39) rfl rfl rfl (md170 hM) rfl ?_
          refine y_ld (x := .ref 170) rfl rfl (fun d => rfl) ?_
          refine y_gI (i := 40) (e := 1) rfl rfl rfl (md170 hM) rfl rfl ?_
          refine y_ld (x := iv 2) rfl rfl (fun d => rfl) ?_
          refine y_ist (q := 1) rfl rfl (md192 hM) (by decide) (by decide) rfl ?_
          refine y_ld (x := .ref 170) rfl rfl (fun d => rfl) ?_
          refine y_in rfl rfl (fun d => rfl) ?_
          refine y_gI (i := 40) (e := 1) rfl rfl rfl (md170 hM) rfl rfl ?_
          refine y_ic rfl rfl ?_
          refine y_add (z := 2) rfl rfl rfl ?_
          refine y_pI (i := 40) rfl rfl rfl (md170 hM) rfl rfl ?_
          refine y_ret rfl (fun d => rfl) ?_
          refine y_n0 ?_
          refine y_ld (x := .ref 170) rfl rfl (fun d => rfl) ?_
          refine y_ld (x := .int z) rfl rfl (fun d => rfl) ?_
          refine y_cV (D' := 10) (as := [.ref 170, .int z]) rfl rfl rfl rfl rfl (md170 hM) ⟨rfl, (Nat.le_of_ble_eq_true rfl), (Nat.le_of_ble_eq_true rfl)⟩ (by decide) ?_
          refine y_ent (lv' := [(0, .ref 170), (1, .int z)]) (Nat.le_of_ble_eq_true rfl) rfl ?_
          refine y_ld (x := .ref 170) rfl rfl (fun d => rfl) ?_
          refine y_gI (i := 41) (e := 5) rfl rfl rfl (md170 hM) rfl rfl ?_
          refine y_ic rfl rfl ?_
          refine y_jne rfl rfl rfl (by decide) (fun g194 => ?_) (fun g194 => absurd g194 (by decide))
          refine y_ld (x := .ref 170) rfl rfl (fun d => rfl) ?_
          refine y_gI (i := 41) (e := 5) rfl rfl rfl (md170 hM) rfl rfl ?_
          refine y_bi rfl rfl (by decide) ?_
          refine y_jne rfl rfl rfl (by decide) (fun g195 => ?_) (fun g195 => absurd g195 (by decide))
          refine y_ld (x := .ref 170) rfl rfl (fun d => rfl) ?_
          refine y_ld (x := .int z) rfl rfl (fun d => rfl) ?_
          refine y_cV (D' := 9) (as := [.ref 170, .int z]) rfl rfl rfl rfl rfl (md170 hM) ⟨rfl, (Nat.le_of_ble_eq_true rfl), (Nat.le_of_ble_eq_true rfl)⟩ (by decide) ?_
          refine y_ent (lv' := [(0, .ref 170), (1, .int z)]) (Nat.le_of_ble_eq_true rfl) rfl ?_
          refine y_ld (x := .ref 170) rfl rfl (fun d => rfl) ?_
          refine y_ic rfl rfl ?_
          refine y_cV (D' := 8) (as := [.ref 170, iv 1]) rfl rfl rfl rfl rfl (md170 hM) ⟨rfl, (Nat.le_of_ble_eq_true rfl), (Nat.le_of_ble_eq_true rfl)⟩ (by decide) ?_
          refine y_ent (lv' := [(0, .ref 170), (1, iv 1)]) (Nat.le_of_ble_eq_true rfl) rfl ?_
          refine y_ld (x := .ref 170) rfl rfl (fun d => rfl) ?_
          refine y_gI (i := 40) (e := 2) rfl rfl rfl (md170 hM) rfl rfl ?_
          refine y_bi rfl rfl (by decide) ?_
          refine y_jge rfl rfl rfl (by decide) (fun g196 => absurd g196 (by decide)) (fun g196 => ?_)
          refine y_ld (x := .ref 170) rfl rfl (fun d => rfl) ?_
          refine y_gR (i := 39) rfl rfl rfl (md170 hM) rfl ?_
          refine y_ld (x := .ref 170) rfl rfl (fun d => rfl) ?_
          refine y_gI (i := 40) (e := 2) rfl rfl rfl (md170 hM) rfl rfl ?_
          refine y_ld (x := iv 1) rfl rfl (fun d => rfl) ?_
          refine y_ist (q := 2) rfl rfl (md192 hM) (by decide) (by decide) rfl ?_
          refine y_ld (x := .ref 170) rfl rfl (fun d => rfl) ?_
          refine y_in rfl rfl (fun d => rfl) ?_
          refine y_gI (i := 40) (e := 2) rfl rfl rfl (md170 hM) rfl rfl ?_
          refine y_ic rfl rfl ?_
          refine y_add (z := 3) rfl rfl rfl ?_
          refine y_pI (i := 40) rfl rfl rfl (md170 hM) rfl rfl ?_
          refine y_ret rfl (fun d => rfl) ?_
          refine y_n0 ?_
          refine y_ld (x := .int z) rfl rfl (fun d => rfl) ?_
          refine y_ld (x := .ref 170) rfl rfl (fun d => rfl) ?_
          refine y_gI (i := 42) (e := ((x.toNat : Nat) : Int)) rfl rfl rfl (md170 hM) rfl rfl ?_
          refine y_in rfl rfl (fun d => rfl) ?_
          refine y_ret rfl (fun d => rfl) ?_
          refine y_nv ?_
          refine y_ret rfl (fun d => rfl) ?_
          refine y_nv ?_
          refine y_ld (x := .ref 170) rfl rfl (fun d => rfl) ?_
          refine y_gI (i := 43) (e := ((tl (V 171 (178 + x.toNat)).toNat).length : Int)) rfl rfl rfl (md170 hM) rfl rfl ?_
          refine y_in rfl rfl (fun d => rfl) ?_
          refine y_ret rfl (fun d => rfl) ?_
          refine y_nv ?_
          refine y_ld (x := .ref 170) rfl rfl (fun d => rfl) ?_
          refine y_gI (i := 42) (e := ((x.toNat : Nat) : Int)) rfl rfl rfl (md170 hM) rfl rfl ?_
          refine y_in rfl rfl (fun d => rfl) ?_
          refine y_ret rfl (fun d => rfl) ?_
          refine y_nv ?_
          refine y_go rfl rfl ?_
          refine y_ret rfl (fun d => rfl) ?_
          have k2 := k1 (by omega)
          rw [hq, hy3] at k2
          exact k2 _ (fun k h8 h9 => by rw [v_up_ne h8, v_up_ne h9, v_up_ne h8, v_up_ne h9, v_up_ne h8, v_up_ne h9, v_up_ne h8, v_up_ne h8, v_up_ne h8, v_up_ne h8]) (fun i hi => by rw [v_up_ni (by omega), v_up_ne (by decide), v_up_ni (by omega), v_up_ne (by decide), v_up_ni (by omega), v_up_ne (by decide), v_up_ni (by omega), v_up_ni (by omega), v_up_ni (by omega), v_up_ni (by omega)]) ⟨by show (0 : Int) ≤ 3; decide, by show (3 : Int) ≤ 20; decide⟩
        · refine y_lv (l' := [(0, .ref 170), (1, iv ((x.toNat : Nat) : Int)), (2, iv 2), (3, .int z)]) rfl ⟨rfl, congrArg (fun e => some (iv e)) (by omega), congrArg (fun e => some (iv e)) hy3, rfl, trivial⟩ ?_
          refine y_ld (x := .ref 170) rfl rfl (fun d => rfl) ?_
          refine y_ld (x := .ref 170) rfl rfl (fun d => rfl) ?_
          refine y_gR (i := 1) rfl rfl rfl (md170 hM) rfl ?_
          refine y_si rfl rfl (by decide) ?_
          refine y_ld (x := iv ((x.toNat : Nat) : Int)) rfl rfl (fun d => rfl) ?_
          refine y_add (z := (170 + ((x.toNat : Nat) : Int))) rfl rfl rfl ?_
          refine y_ild (x := 5) (q := (170 + x.toNat)) rfl rfl (md171 hM) (by omega) (by decide) (by omega) hq ?_
          refine y_pI (i := 41) rfl rfl rfl (md170 hM) rfl rfl ?_
          refine y_ld (x := .ref 170) rfl rfl (fun d => rfl) ?_
          refine y_ld (x := iv ((x.toNat : Nat) : Int)) rfl rfl (fun d => rfl) ?_
          refine y_pI (i := 42) rfl rfl rfl (md170 hM) rfl rfl ?_
          refine y_ld (x := .ref 170) rfl rfl (fun d => rfl) ?_
          refine y_ld (x := .ref 170) rfl rfl (fun d => rfl) ?_
          refine y_gR (i := 6) rfl rfl rfl (md170 hM) rfl ?_
          refine y_ld (x := .ref 170) rfl rfl (fun d => rfl) ?_
          refine y_gR (i := 1) rfl rfl rfl (md170 hM) rfl ?_
          refine y_si rfl rfl (by decide) ?_
          refine y_ld (x := iv ((x.toNat : Nat) : Int)) rfl rfl (fun d => rfl) ?_
          refine y_add (z := (178 + ((x.toNat : Nat) : Int))) rfl rfl rfl ?_
          refine y_ild (x := (((V 171 (178 + x.toNat)).toNat : Nat) : Int)) (q := (178 + x.toNat)) rfl rfl (md171 hM) (by omega) (by decide) (by omega) (by rw [v_up_ne (by decide), v_up_ne (by decide), v_up_ne (by decide)]; omega) ?_
          refine y_ild (x := ((tl (V 171 (178 + x.toNat)).toNat).length : Int)) (q := ((V 171 (178 + x.toNat)).toNat)) rfl rfl (md175 hM) (by omega) (by decide) (by omega) hM2 ?_
          refine y_pI (i := 43) rfl rfl rfl (md170 hM) rfl rfl ?_
          refine y_ld (x := iv 2) rfl rfl (fun d => rfl) ?_
          refine y_zne rfl rfl rfl (by decide) (fun g197 => ?_) (fun g197 => absurd g197 (by decide))
          refine y_ld (x := iv 2) rfl rfl (fun d => rfl) ?_
          refine y_ic rfl rfl ?_
          refine y_jne rfl rfl rfl (by decide) (fun g198 => ?_) (fun g198 => absurd g198 (by decide))
          refine y_ld (x := .ref 170) rfl rfl (fun d => rfl) ?_
          refine y_ld (x := .int z) rfl rfl (fun d => rfl) ?_
          refine y_cV (D' := 12) (as := [.ref 170, .int z]) rfl rfl rfl rfl rfl (md170 hM) ⟨rfl, (Nat.le_of_ble_eq_true rfl), (Nat.le_of_ble_eq_true rfl)⟩ (by decide) ?_
          refine y_ent (lv' := [(0, .ref 170), (1, .int z)]) (Nat.le_of_ble_eq_true rfl) rfl ?_
          refine y_ld (x := .ref 170) rfl rfl (fun d => rfl) ?_
          refine y_gI (i := 41) (e := 5) rfl rfl rfl (md170 hM) rfl rfl ?_
          refine y_ic rfl rfl ?_
          refine y_jne rfl rfl rfl (by decide) (fun g199 => ?_) (fun g199 => absurd g199 (by decide))
          refine y_ld (x := .ref 170) rfl rfl (fun d => rfl) ?_
          refine y_gI (i := 41) (e := 5) rfl rfl rfl (md170 hM) rfl rfl ?_
          refine y_ic rfl rfl ?_
          refine y_cS (D' := 11) (as := [iv 5, iv 3]) rfl (by decide) rfl rfl rfl rfl ⟨(Nat.le_of_ble_eq_true rfl), (Nat.le_of_ble_eq_true rfl)⟩ (by decide) ?_
          refine y_ent (lv' := [(0, iv 5), (1, iv 3)]) (Nat.le_of_ble_eq_true rfl) rfl ?_
          refine y_ld (x := iv 3) rfl rfl (fun d => rfl) ?_
          refine y_zeq rfl rfl rfl (by decide) (fun g200 => absurd g200 (by decide)) (fun g200 => ?_)
          refine y_ld (x := iv 3) rfl rfl (fun d => rfl) ?_
          refine y_ld (x := iv 5) rfl rfl (fun d => rfl) ?_
          refine y_jeq rfl rfl rfl (by decide) (fun g201 => absurd g201 (by decide)) (fun g201 => ?_)
          refine y_ld (x := iv 3) rfl rfl (fun d => rfl) ?_
          refine y_ic rfl rfl ?_
          refine y_jne rfl rfl rfl (by decide) (fun g202 => ?_) (fun g202 => absurd g202 (by decide))
          refine y_ld (x := iv 3) rfl rfl (fun d => rfl) ?_
          refine y_ic rfl rfl ?_
          refine y_jne rfl rfl rfl (by decide) (fun g203 => absurd g203 (by decide)) (fun g203 => ?_)
          refine y_ld (x := iv 5) rfl rfl (fun d => rfl) ?_
          refine y_ic rfl rfl ?_
          refine y_jne rfl rfl rfl (by decide) (fun g204 => absurd g204 (by decide)) (fun g204 => ?_)
          refine y_ic rfl rfl ?_
          refine y_go rfl rfl ?_
          refine y_rI rfl (by decide) ?_
          refine y_nv ?_
          refine y_zeq rfl rfl rfl (by decide) (fun g205 => absurd g205 (by decide)) (fun g205 => ?_)
          refine y_ld (x := .ref 170) rfl rfl (fun d => rfl) ?_
          refine y_bi rfl rfl (by decide) ?_
          refine y_cV (D' := 11) (as := [.ref 170, iv 31]) rfl rfl rfl rfl rfl (md170 hM) ⟨rfl, (Nat.le_of_ble_eq_true rfl), (Nat.le_of_ble_eq_true rfl)⟩ (by decide) ?_
          refine y_ent (lv' := [(0, .ref 170), (1, iv 31)]) (Nat.le_of_ble_eq_true rfl) rfl ?_
          refine y_ld (x := .ref 170) rfl rfl (fun d => rfl) ?_
          refine y_gI (i := 40) (e := 0) rfl rfl rfl (md170 hM) rfl rfl ?_
          refine y_bi rfl rfl (by decide) ?_
          refine y_jge rfl rfl rfl (by decide) (fun g206 => absurd g206 (by decide)) (fun g206 => ?_)
          refine y_ld (x := .ref 170) rfl rfl (fun d => rfl) ?_
          refine y_gR (i := 39) rfl rfl rfl (md170 hM) rfl ?_
          refine y_ld (x := .ref 170) rfl rfl (fun d => rfl) ?_
          refine y_gI (i := 40) (e := 0) rfl rfl rfl (md170 hM) rfl rfl ?_
          refine y_ld (x := iv 31) rfl rfl (fun d => rfl) ?_
          refine y_ist (q := 0) rfl rfl (md192 hM) (by decide) (by decide) rfl ?_
          refine y_ld (x := .ref 170) rfl rfl (fun d => rfl) ?_
          refine y_in rfl rfl (fun d => rfl) ?_
          refine y_gI (i := 40) (e := 0) rfl rfl rfl (md170 hM) rfl rfl ?_
          refine y_ic rfl rfl ?_
          refine y_add (z := 1) rfl rfl rfl ?_
          refine y_pI (i := 40) rfl rfl rfl (md170 hM) rfl rfl ?_
          refine y_ret rfl (fun d => rfl) ?_
          refine y_n0 ?_
          refine y_ld (x := .ref 170) rfl rfl (fun d => rfl) ?_
          refine y_ld (x := .int z) rfl rfl (fun d => rfl) ?_
          refine y_cV (D' := 11) (as := [.ref 170, .int z]) rfl rfl rfl rfl rfl (md170 hM) ⟨rfl, (Nat.le_of_ble_eq_true rfl), (Nat.le_of_ble_eq_true rfl)⟩ (by decide) ?_
          refine y_ent (lv' := [(0, .ref 170), (1, .int z)]) (Nat.le_of_ble_eq_true rfl) rfl ?_
          refine y_ld (x := .ref 170) rfl rfl (fun d => rfl) ?_
          refine y_ic rfl rfl ?_
          refine y_cV (D' := 10) (as := [.ref 170, iv 3]) rfl rfl rfl rfl rfl (md170 hM) ⟨rfl, (Nat.le_of_ble_eq_true rfl), (Nat.le_of_ble_eq_true rfl)⟩ (by decide) ?_
          refine y_ent (lv' := [(0, .ref 170), (1, iv 3)]) (Nat.le_of_ble_eq_true rfl) rfl ?_
          refine y_ld (x := .ref 170) rfl rfl (fun d => rfl) ?_
          refine y_gI (i := 40) (e := 1) rfl rfl rfl (md170 hM) rfl rfl ?_
          refine y_bi rfl rfl (by decide) ?_
          refine y_jge rfl rfl rfl (by decide) (fun g207 => absurd g207 (by decide)) (fun g207 => ?_)
          refine y_ld (x := .ref 170) rfl rfl (fun d => rfl) ?_
          refine y_gR (i := 39) rfl rfl rfl (md170 hM) rfl ?_
          refine y_ld (x := .ref 170) rfl rfl (fun d => rfl) ?_
          refine y_gI (i := 40) (e := 1) rfl rfl rfl (md170 hM) rfl rfl ?_
          refine y_ld (x := iv 3) rfl rfl (fun d => rfl) ?_
          refine y_ist (q := 1) rfl rfl (md192 hM) (by decide) (by decide) rfl ?_
          refine y_ld (x := .ref 170) rfl rfl (fun d => rfl) ?_
          refine y_in rfl rfl (fun d => rfl) ?_
          refine y_gI (i := 40) (e := 1) rfl rfl rfl (md170 hM) rfl rfl ?_
          refine y_ic rfl rfl ?_
          refine y_add (z := 2) rfl rfl rfl ?_
          refine y_pI (i := 40) rfl rfl rfl (md170 hM) rfl rfl ?_
          refine y_ret rfl (fun d => rfl) ?_
          refine y_n0 ?_
          refine y_ld (x := .ref 170) rfl rfl (fun d => rfl) ?_
          refine y_ld (x := .int z) rfl rfl (fun d => rfl) ?_
          refine y_cV (D' := 10) (as := [.ref 170, .int z]) rfl rfl rfl rfl rfl (md170 hM) ⟨rfl, (Nat.le_of_ble_eq_true rfl), (Nat.le_of_ble_eq_true rfl)⟩ (by decide) ?_
          refine y_ent (lv' := [(0, .ref 170), (1, .int z)]) (Nat.le_of_ble_eq_true rfl) rfl ?_
          refine y_ld (x := .ref 170) rfl rfl (fun d => rfl) ?_
          refine y_gI (i := 41) (e := 5) rfl rfl rfl (md170 hM) rfl rfl ?_
          refine y_ic rfl rfl ?_
          refine y_jne rfl rfl rfl (by decide) (fun g208 => absurd g208 (by decide)) (fun g208 => ?_)
          refine y_ld (x := .ref 170) rfl rfl (fun d => rfl) ?_
          refine y_bi rfl rfl (by decide) ?_
          refine y_cV (D' := 9) (as := [.ref 170, iv 51]) rfl rfl rfl rfl rfl (md170 hM) ⟨rfl, (Nat.le_of_ble_eq_true rfl), (Nat.le_of_ble_eq_true rfl)⟩ (by decide) ?_
          refine y_ent (lv' := [(0, .ref 170), (1, iv 51)]) (Nat.le_of_ble_eq_true rfl) rfl ?_
          refine y_ld (x := .ref 170) rfl rfl (fun d => rfl) ?_
          refine y_gI (i := 40) (e := 2) rfl rfl rfl (md170 hM) rfl rfl ?_
          refine y_bi rfl rfl (by decide) ?_
          refine y_jge rfl rfl rfl (by decide) (fun g209 => absurd g209 (by decide)) (fun g209 => ?_)
          refine y_ld (x := .ref 170) rfl rfl (fun d => rfl) ?_
          refine y_gR (i := 39) rfl rfl rfl (md170 hM) rfl ?_
          refine y_ld (x := .ref 170) rfl rfl (fun d => rfl) ?_
          refine y_gI (i := 40) (e := 2) rfl rfl rfl (md170 hM) rfl rfl ?_
          refine y_ld (x := iv 51) rfl rfl (fun d => rfl) ?_
          refine y_ist (q := 2) rfl rfl (md192 hM) (by decide) (by decide) rfl ?_
          refine y_ld (x := .ref 170) rfl rfl (fun d => rfl) ?_
          refine y_in rfl rfl (fun d => rfl) ?_
          refine y_gI (i := 40) (e := 2) rfl rfl rfl (md170 hM) rfl rfl ?_
          refine y_ic rfl rfl ?_
          refine y_add (z := 3) rfl rfl rfl ?_
          refine y_pI (i := 40) rfl rfl rfl (md170 hM) rfl rfl ?_
          refine y_ret rfl (fun d => rfl) ?_
          refine y_n0 ?_
          refine y_ld (x := .ref 170) rfl rfl (fun d => rfl) ?_
          refine y_ld (x := .int z) rfl rfl (fun d => rfl) ?_
          refine y_cV (D' := 9) (as := [.ref 170, .int z]) rfl rfl rfl rfl rfl (md170 hM) ⟨rfl, (Nat.le_of_ble_eq_true rfl), (Nat.le_of_ble_eq_true rfl)⟩ (by decide) ?_
          refine y_ent (lv' := [(0, .ref 170), (1, .int z)]) (Nat.le_of_ble_eq_true rfl) rfl ?_
          refine y_ld (x := .ref 170) rfl rfl (fun d => rfl) ?_
          refine y_ic rfl rfl ?_
          refine y_cV (D' := 8) (as := [.ref 170, iv 2]) rfl rfl rfl rfl rfl (md170 hM) ⟨rfl, (Nat.le_of_ble_eq_true rfl), (Nat.le_of_ble_eq_true rfl)⟩ (by decide) ?_
          refine y_ent (lv' := [(0, .ref 170), (1, iv 2)]) (Nat.le_of_ble_eq_true rfl) rfl ?_
          refine y_ld (x := .ref 170) rfl rfl (fun d => rfl) ?_
          refine y_gI (i := 40) (e := 3) rfl rfl rfl (md170 hM) rfl rfl ?_
          refine y_bi rfl rfl (by decide) ?_
          refine y_jge rfl rfl rfl (by decide) (fun g210 => absurd g210 (by decide)) (fun g210 => ?_)
          refine y_ld (x := .ref 170) rfl rfl (fun d => rfl) ?_
          refine y_gR (i := 39) rfl rfl rfl (md170 hM) rfl ?_
          refine y_ld (x := .ref 170) rfl rfl (fun d => rfl) ?_
          refine y_gI (i := 40) (e := 3) rfl rfl rfl (md170 hM) rfl rfl ?_
          refine y_ld (x := iv 2) rfl rfl (fun d => rfl) ?_
          refine y_ist (q := 3) rfl rfl (md192 hM) (by decide) (by decide) rfl ?_
          refine y_ld (x := .ref 170) rfl rfl (fun d => rfl) ?_
          refine y_in rfl rfl (fun d => rfl) ?_
          refine y_gI (i := 40) (e := 3) rfl rfl rfl (md170 hM) rfl rfl ?_
          refine y_ic rfl rfl ?_
          refine y_add (z := 4) rfl rfl rfl ?_
          refine y_pI (i := 40) rfl rfl rfl (md170 hM) rfl rfl ?_
          refine y_ret rfl (fun d => rfl) ?_
          refine y_n0 ?_
          refine y_ld (x := .ref 170) rfl rfl (fun d => rfl) ?_
          refine y_ld (x := .int z) rfl rfl (fun d => rfl) ?_
          refine y_cV (D' := 8) (as := [.ref 170, .int z]) rfl rfl rfl rfl rfl (md170 hM) ⟨rfl, (Nat.le_of_ble_eq_true rfl), (Nat.le_of_ble_eq_true rfl)⟩ (by decide) ?_
          refine y_ent (lv' := [(0, .ref 170), (1, .int z)]) (Nat.le_of_ble_eq_true rfl) rfl ?_
          refine y_ld (x := .ref 170) rfl rfl (fun d => rfl) ?_
          refine y_gI (i := 41) (e := 5) rfl rfl rfl (md170 hM) rfl rfl ?_
          refine y_ic rfl rfl ?_
          refine y_jne rfl rfl rfl (by decide) (fun g211 => ?_) (fun g211 => absurd g211 (by decide))
          refine y_ld (x := .ref 170) rfl rfl (fun d => rfl) ?_
          refine y_gI (i := 41) (e := 5) rfl rfl rfl (md170 hM) rfl rfl ?_
          refine y_bi rfl rfl (by decide) ?_
          refine y_jne rfl rfl rfl (by decide) (fun g212 => ?_) (fun g212 => absurd g212 (by decide))
          refine y_ld (x := .ref 170) rfl rfl (fun d => rfl) ?_
          refine y_ld (x := .int z) rfl rfl (fun d => rfl) ?_
          refine y_cV (D' := 7) (as := [.ref 170, .int z]) rfl rfl rfl rfl rfl (md170 hM) ⟨rfl, (Nat.le_of_ble_eq_true rfl), (Nat.le_of_ble_eq_true rfl)⟩ (by decide) ?_
          refine y_ent (lv' := [(0, .ref 170), (1, .int z)]) (Nat.le_of_ble_eq_true rfl) rfl ?_
          refine y_ld (x := .ref 170) rfl rfl (fun d => rfl) ?_
          refine y_ic rfl rfl ?_
          refine y_cV (D' := 6) (as := [.ref 170, iv 1]) rfl rfl rfl rfl rfl (md170 hM) ⟨rfl, (Nat.le_of_ble_eq_true rfl), (Nat.le_of_ble_eq_true rfl)⟩ (by decide) ?_
          refine y_ent (lv' := [(0, .ref 170), (1, iv 1)]) (Nat.le_of_ble_eq_true rfl) rfl ?_
          refine y_ld (x := .ref 170) rfl rfl (fun d => rfl) ?_
          refine y_gI (i := 40) (e := 4) rfl rfl rfl (md170 hM) rfl rfl ?_
          refine y_bi rfl rfl (by decide) ?_
          refine y_jge rfl rfl rfl (by decide) (fun g213 => absurd g213 (by decide)) (fun g213 => ?_)
          refine y_ld (x := .ref 170) rfl rfl (fun d => rfl) ?_
          refine y_gR (i := 39) rfl rfl rfl (md170 hM) rfl ?_
          refine y_ld (x := .ref 170) rfl rfl (fun d => rfl) ?_
          refine y_gI (i := 40) (e := 4) rfl rfl rfl (md170 hM) rfl rfl ?_
          refine y_ld (x := iv 1) rfl rfl (fun d => rfl) ?_
          refine y_ist (q := 4) rfl rfl (md192 hM) (by decide) (by decide) rfl ?_
          refine y_ld (x := .ref 170) rfl rfl (fun d => rfl) ?_
          refine y_in rfl rfl (fun d => rfl) ?_
          refine y_gI (i := 40) (e := 4) rfl rfl rfl (md170 hM) rfl rfl ?_
          refine y_ic rfl rfl ?_
          refine y_add (z := 5) rfl rfl rfl ?_
          refine y_pI (i := 40) rfl rfl rfl (md170 hM) rfl rfl ?_
          refine y_ret rfl (fun d => rfl) ?_
          refine y_n0 ?_
          refine y_ld (x := .int z) rfl rfl (fun d => rfl) ?_
          refine y_ld (x := .ref 170) rfl rfl (fun d => rfl) ?_
          refine y_gI (i := 42) (e := ((x.toNat : Nat) : Int)) rfl rfl rfl (md170 hM) rfl rfl ?_
          refine y_in rfl rfl (fun d => rfl) ?_
          refine y_ret rfl (fun d => rfl) ?_
          refine y_nv ?_
          refine y_ret rfl (fun d => rfl) ?_
          refine y_nv ?_
          refine y_ld (x := .ref 170) rfl rfl (fun d => rfl) ?_
          refine y_gI (i := 43) (e := ((tl (V 171 (178 + x.toNat)).toNat).length : Int)) rfl rfl rfl (md170 hM) rfl rfl ?_
          refine y_in rfl rfl (fun d => rfl) ?_
          refine y_ret rfl (fun d => rfl) ?_
          refine y_nv ?_
          refine y_ld (x := .ref 170) rfl rfl (fun d => rfl) ?_
          refine y_gI (i := 42) (e := ((x.toNat : Nat) : Int)) rfl rfl rfl (md170 hM) rfl rfl ?_
          refine y_in rfl rfl (fun d => rfl) ?_
          refine y_ret rfl (fun d => rfl) ?_
          refine y_nv ?_
          refine y_ic rfl rfl ?_
          refine y_in rfl rfl (fun d => rfl) ?_
          refine y_ret rfl (fun d => rfl) ?_
          refine y_nv ?_
          refine y_ic rfl rfl ?_
          refine y_in rfl rfl (fun d => rfl) ?_
          refine y_ret rfl (fun d => rfl) ?_
          refine y_nv ?_
          refine y_ret rfl (fun d => rfl) ?_
          have k2 := k1 (by omega)
          rw [hq, hy3] at k2
          exact k2 _ (fun k h8 h9 => by rw [v_up_ne h8, v_up_ne h9, v_up_ne h8, v_up_ne h9, v_up_ne h8, v_up_ne h9, v_up_ne h8, v_up_ne h9, v_up_ne h8, v_up_ne h9, v_up_ne h8, v_up_ne h8, v_up_ne h8, v_up_ne h8]) (fun i hi => by rw [v_up_ni (by omega), v_up_ne (by decide), v_up_ni (by omega), v_up_ne (by decide), v_up_ni (by omega), v_up_ne (by decide), v_up_ni (by omega), v_up_ne (by decide), v_up_ni (by omega), v_up_ne (by decide), v_up_ni (by omega), v_up_ni (by omega), v_up_ni (by omega), v_up_ni (by omega)]) ⟨by show (0 : Int) ≤ 5; decide, by show (5 : Int) ≤ 20; decide⟩
      · rcases (show y = 0 ∨ y = 1 ∨ y = 2 by omega) with hy3 | hy3 | hy3
        · refine y_lv (l' := [(0, .ref 170), (1, iv ((x.toNat : Nat) : Int)), (2, iv 0), (3, .int z)]) rfl ⟨rfl, congrArg (fun e => some (iv e)) (by omega), congrArg (fun e => some (iv e)) hy3, rfl, trivial⟩ ?_
          refine y_ld (x := .ref 170) rfl rfl (fun d => rfl) ?_
          refine y_ld (x := .ref 170) rfl rfl (fun d => rfl) ?_
          refine y_gR (i := 1) rfl rfl rfl (md170 hM) rfl ?_
          refine y_si rfl rfl (by decide) ?_
          refine y_ld (x := iv ((x.toNat : Nat) : Int)) rfl rfl (fun d => rfl) ?_
          refine y_add (z := (170 + ((x.toNat : Nat) : Int))) rfl rfl rfl ?_
          refine y_ild (x := 6) (q := (170 + x.toNat)) rfl rfl (md171 hM) (by omega) (by decide) (by omega) hq ?_
          refine y_pI (i := 41) rfl rfl rfl (md170 hM) rfl rfl ?_
          refine y_ld (x := .ref 170) rfl rfl (fun d => rfl) ?_
          refine y_ld (x := iv ((x.toNat : Nat) : Int)) rfl rfl (fun d => rfl) ?_
          refine y_pI (i := 42) rfl rfl rfl (md170 hM) rfl rfl ?_
          refine y_ld (x := .ref 170) rfl rfl (fun d => rfl) ?_
          refine y_ld (x := .ref 170) rfl rfl (fun d => rfl) ?_
          refine y_gR (i := 6) rfl rfl rfl (md170 hM) rfl ?_
          refine y_ld (x := .ref 170) rfl rfl (fun d => rfl) ?_
          refine y_gR (i := 1) rfl rfl rfl (md170 hM) rfl ?_
          refine y_si rfl rfl (by decide) ?_
          refine y_ld (x := iv ((x.toNat : Nat) : Int)) rfl rfl (fun d => rfl) ?_
          refine y_add (z := (178 + ((x.toNat : Nat) : Int))) rfl rfl rfl ?_
          refine y_ild (x := (((V 171 (178 + x.toNat)).toNat : Nat) : Int)) (q := (178 + x.toNat)) rfl rfl (md171 hM) (by omega) (by decide) (by omega) (by rw [v_up_ne (by decide), v_up_ne (by decide), v_up_ne (by decide)]; omega) ?_
          refine y_ild (x := ((tl (V 171 (178 + x.toNat)).toNat).length : Int)) (q := ((V 171 (178 + x.toNat)).toNat)) rfl rfl (md175 hM) (by omega) (by decide) (by omega) hM2 ?_
          refine y_pI (i := 43) rfl rfl rfl (md170 hM) rfl rfl ?_
          refine y_ld (x := iv 0) rfl rfl (fun d => rfl) ?_
          refine y_zne rfl rfl rfl (by decide) (fun g214 => absurd g214 (by decide)) (fun g214 => ?_)
          refine y_ld (x := .ref 170) rfl rfl (fun d => rfl) ?_
          refine y_ld (x := .int z) rfl rfl (fun d => rfl) ?_
          refine y_cV (D' := 12) (as := [.ref 170, .int z]) rfl rfl rfl rfl rfl (md170 hM) ⟨rfl, (Nat.le_of_ble_eq_true rfl), (Nat.le_of_ble_eq_true rfl)⟩ (by decide) ?_
          refine y_ent (lv' := [(0, .ref 170), (1, .int z)]) (Nat.le_of_ble_eq_true rfl) rfl ?_
          refine y_ld (x := .ref 170) rfl rfl (fun d => rfl) ?_
          refine y_gI (i := 41) (e := 6) rfl rfl rfl (md170 hM) rfl rfl ?_
          refine y_ic rfl rfl ?_
          refine y_jne rfl rfl rfl (by decide) (fun g215 => ?_) (fun g215 => absurd g215 (by decide))
          refine y_ld (x := .ref 170) rfl rfl (fun d => rfl) ?_
          refine y_gI (i := 41) (e := 6) rfl rfl rfl (md170 hM) rfl rfl ?_
          refine y_bi rfl rfl (by decide) ?_
          refine y_jne rfl rfl rfl (by decide) (fun g216 => absurd g216 (by decide)) (fun g216 => ?_)
          refine y_ld (x := .ref 170) rfl rfl (fun d => rfl) ?_
          refine y_bi rfl rfl (by decide) ?_
          refine y_cV (D' := 11) (as := [.ref 170, iv 61]) rfl rfl rfl rfl rfl (md170 hM) ⟨rfl, (Nat.le_of_ble_eq_true rfl), (Nat.le_of_ble_eq_true rfl)⟩ (by decide) ?_
          refine y_ent (lv' := [(0, .ref 170), (1, iv 61)]) (Nat.le_of_ble_eq_true rfl) rfl ?_
          refine y_ld (x := .ref 170) rfl rfl (fun d => rfl) ?_
          refine y_gI (i := 40) (e := 0) rfl rfl rfl (md170 hM) rfl rfl ?_
          refine y_bi rfl rfl (by decide) ?_
          refine y_jge rfl rfl rfl (by decide) (fun g217 => absurd g217 (by decide)) (fun g217 => ?_)
          refine y_ld (x := .ref 170) rfl rfl (fun d => rfl) ?_
          refine y_gR (i := 39) rfl rfl rfl (md170 hM) rfl ?_
          refine y_ld (x := .ref 170) rfl rfl (fun d => rfl) ?_
          refine y_gI (i := 40) (e := 0) rfl rfl rfl (md170 hM) rfl rfl ?_
          refine y_ld (x := iv 61) rfl rfl (fun d => rfl) ?_
          refine y_ist (q := 0) rfl rfl (md192 hM) (by decide) (by decide) rfl ?_
          refine y_ld (x := .ref 170) rfl rfl (fun d => rfl) ?_
          refine y_in rfl rfl (fun d => rfl) ?_
          refine y_gI (i := 40) (e := 0) rfl rfl rfl (md170 hM) rfl rfl ?_
          refine y_ic rfl rfl ?_
          refine y_add (z := 1) rfl rfl rfl ?_
          refine y_pI (i := 40) rfl rfl rfl (md170 hM) rfl rfl ?_
          refine y_ret rfl (fun d => rfl) ?_
          refine y_n0 ?_
          refine y_ld (x := .ref 170) rfl rfl (fun d => rfl) ?_
          refine y_ld (x := .int z) rfl rfl (fun d => rfl) ?_
          refine y_ic rfl rfl ?_
          refine y_in rfl rfl (fun d => rfl) ?_
          refine y_cV (D' := 11) (as := [.ref 170, .int (z + (Int32.ofInt 1))]) rfl rfl rfl rfl rfl (md170 hM) ⟨rfl, (Nat.le_of_ble_eq_true rfl), (Nat.le_of_ble_eq_true rfl)⟩ (by decide) ?_
          refine y_ent (lv' := [(0, .ref 170), (1, .int (z + (Int32.ofInt 1)))]) (Nat.le_of_ble_eq_true rfl) rfl ?_
          refine y_ld (x := .ref 170) rfl rfl (fun d => rfl) ?_
          refine y_ic rfl rfl ?_
          refine y_cV (D' := 10) (as := [.ref 170, iv 1]) rfl rfl rfl rfl rfl (md170 hM) ⟨rfl, (Nat.le_of_ble_eq_true rfl), (Nat.le_of_ble_eq_true rfl)⟩ (by decide) ?_
          refine y_ent (lv' := [(0, .ref 170), (1, iv 1)]) (Nat.le_of_ble_eq_true rfl) rfl ?_
          refine y_ld (x := .ref 170) rfl rfl (fun d => rfl) ?_
          refine y_gI (i := 40) (e := 1) rfl rfl rfl (md170 hM) rfl rfl ?_
          refine y_bi rfl rfl (by decide) ?_
          refine y_jge rfl rfl rfl (by decide) (fun g218 => absurd g218 (by decide)) (fun g218 => ?_)
          refine y_ld (x := .ref 170) rfl rfl (fun d => rfl) ?_
          refine y_gR (i := 39) rfl rfl rfl (md170 hM) rfl ?_
          refine y_ld (x := .ref 170) rfl rfl (fun d => rfl) ?_
          refine y_gI (i := 40) (e := 1) rfl rfl rfl (md170 hM) rfl rfl ?_
          refine y_ld (x := iv 1) rfl rfl (fun d => rfl) ?_
          refine y_ist (q := 1) rfl rfl (md192 hM) (by decide) (by decide) rfl ?_
          refine y_ld (x := .ref 170) rfl rfl (fun d => rfl) ?_
          refine y_in rfl rfl (fun d => rfl) ?_
          refine y_gI (i := 40) (e := 1) rfl rfl rfl (md170 hM) rfl rfl ?_
          refine y_ic rfl rfl ?_
          refine y_add (z := 2) rfl rfl rfl ?_
          refine y_pI (i := 40) rfl rfl rfl (md170 hM) rfl rfl ?_
          refine y_ret rfl (fun d => rfl) ?_
          refine y_n0 ?_
          refine y_ld (x := .int (z + (Int32.ofInt 1))) rfl rfl (fun d => rfl) ?_
          refine y_ld (x := .ref 170) rfl rfl (fun d => rfl) ?_
          refine y_gI (i := 42) (e := ((x.toNat : Nat) : Int)) rfl rfl rfl (md170 hM) rfl rfl ?_
          refine y_in rfl rfl (fun d => rfl) ?_
          refine y_ret rfl (fun d => rfl) ?_
          refine y_nv ?_
          refine y_bi rfl rfl (by decide) ?_
          refine y_in rfl rfl (fun d => rfl) ?_
          refine y_ret rfl (fun d => rfl) ?_
          refine y_nv ?_
          refine y_go rfl rfl ?_
          refine y_ret rfl (fun d => rfl) ?_
          have k2 := k1 (by omega)
          rw [hq, hy3] at k2
          exact k2 _ (fun k h8 h9 => by rw [v_up_ne h8, v_up_ne h9, v_up_ne h8, v_up_ne h9, v_up_ne h8, v_up_ne h8, v_up_ne h8, v_up_ne h8]) (fun i hi => by rw [v_up_ni (by omega), v_up_ne (by decide), v_up_ni (by omega), v_up_ne (by decide), v_up_ni (by omega), v_up_ni (by omega), v_up_ni (by omega), v_up_ni (by omega)]) ⟨by show (0 : Int) ≤ 2; decide, by show (2 : Int) ≤ 20; decide⟩
        · refine y_lv (l' := [(0, .ref 170), (1, iv ((x.toNat : Nat) : Int)), (2, iv 1), (3, .int z)]) rfl ⟨rfl, congrArg (fun e => some (iv e)) (by omega), congrArg (fun e => some (iv e)) hy3, rfl, trivial⟩ ?_
          refine y_ld (x := .ref 170) rfl rfl (fun d => rfl) ?_
          refine y_ld (x := .ref 170) rfl rfl (fun d => rfl) ?_
          refine y_gR (i := 1) rfl rfl rfl (md170 hM) rfl ?_
          refine y_si rfl rfl (by decide) ?_
          refine y_ld (x := iv ((x.toNat : Nat) : Int)) rfl rfl (fun d => rfl) ?_
          refine y_add (z := (170 + ((x.toNat : Nat) : Int))) rfl rfl rfl ?_
          refine y_ild (x := 6) (q := (170 + x.toNat)) rfl rfl (md171 hM) (by omega) (by decide) (by omega) hq ?_
          refine y_pI (i := 41) rfl rfl rfl (md170 hM) rfl rfl ?_
          refine y_ld (x := .ref 170) rfl rfl (fun d => rfl) ?_
          refine y_ld (x := iv ((x.toNat : Nat) : Int)) rfl rfl (fun d => rfl) ?_
          refine y_pI (i := 42) rfl rfl rfl (md170 hM) rfl rfl ?_
          refine y_ld (x := .ref 170) rfl rfl (fun d => rfl) ?_
          refine y_ld (x := .ref 170) rfl rfl (fun d => rfl) ?_
          refine y_gR (i := 6) rfl rfl rfl (md170 hM) rfl ?_
          refine y_ld (x := .ref 170) rfl rfl (fun d => rfl) ?_
          refine y_gR (i := 1) rfl rfl rfl (md170 hM) rfl ?_
          refine y_si rfl rfl (by decide) ?_
          refine y_ld (x := iv ((x.toNat : Nat) : Int)) rfl rfl (fun d => rfl) ?_
          refine y_add (z := (178 + ((x.toNat : Nat) : Int))) rfl rfl rfl ?_
          refine y_ild (x := (((V 171 (178 + x.toNat)).toNat : Nat) : Int)) (q := (178 + x.toNat)) rfl rfl (md171 hM) (by omega) (by decide) (by omega) (by rw [v_up_ne (by decide), v_up_ne (by decide), v_up_ne (by decide)]; omega) ?_
          refine y_ild (x := ((tl (V 171 (178 + x.toNat)).toNat).length : Int)) (q := ((V 171 (178 + x.toNat)).toNat)) rfl rfl (md175 hM) (by omega) (by decide) (by omega) hM2 ?_
          refine y_pI (i := 43) rfl rfl rfl (md170 hM) rfl rfl ?_
          refine y_ld (x := iv 1) rfl rfl (fun d => rfl) ?_
          refine y_zne rfl rfl rfl (by decide) (fun g219 => ?_) (fun g219 => absurd g219 (by decide))
          refine y_ld (x := iv 1) rfl rfl (fun d => rfl) ?_
          refine y_ic rfl rfl ?_
          refine y_jne rfl rfl rfl (by decide) (fun g220 => absurd g220 (by decide)) (fun g220 => ?_)
          refine y_ld (x := .ref 170) rfl rfl (fun d => rfl) ?_
          refine y_ld (x := .int z) rfl rfl (fun d => rfl) ?_
          refine y_cV (D' := 12) (as := [.ref 170, .int z]) rfl rfl rfl rfl rfl (md170 hM) ⟨rfl, (Nat.le_of_ble_eq_true rfl), (Nat.le_of_ble_eq_true rfl)⟩ (by decide) ?_
          refine y_ent (lv' := [(0, .ref 170), (1, .int z)]) (Nat.le_of_ble_eq_true rfl) rfl ?_
          refine y_ld (x := .ref 170) rfl rfl (fun d => rfl) ?_
          refine y_gI (i := 41) (e := 6) rfl rfl rfl (md170 hM) rfl rfl ?_
          refine y_ic rfl rfl ?_
          refine y_jne rfl rfl rfl (by decide) (fun g221 => ?_) (fun g221 => absurd g221 (by decide))
          refine y_ld (x := .ref 170) rfl rfl (fun d => rfl) ?_
          refine y_gI (i := 41) (e := 6) rfl rfl rfl (md170 hM) rfl rfl ?_
          refine y_ic rfl rfl ?_
          refine y_cS (D' := 11) (as := [iv 6, iv 1]) rfl (by decide) rfl rfl rfl rfl ⟨(Nat.le_of_ble_eq_true rfl), (Nat.le_of_ble_eq_true rfl)⟩ (by decide) ?_
          refine y_ent (lv' := [(0, iv 6), (1, iv 1)]) (Nat.le_of_ble_eq_true rfl) rfl ?_
          refine y_ld (x := iv 1) rfl rfl (fun d => rfl) ?_
          refine y_zeq rfl rfl rfl (by decide) (fun g222 => absurd g222 (by decide)) (fun g222 => ?_)
          refine y_ld (x := iv 1) rfl rfl (fun d => rfl) ?_
          refine y_ld (x := iv 6) rfl rfl (fun d => rfl) ?_
          refine y_jeq rfl rfl rfl (by decide) (fun g223 => absurd g223 (by decide)) (fun g223 => ?_)
          refine y_ld (x := iv 1) rfl rfl (fun d => rfl) ?_
          refine y_ic rfl rfl ?_
          refine y_jne rfl rfl rfl (by decide) (fun g224 => absurd g224 (by decide)) (fun g224 => ?_)
          refine y_ld (x := iv 6) rfl rfl (fun d => rfl) ?_
          refine y_ic rfl rfl ?_
          refine y_jeq rfl rfl rfl (by decide) (fun g225 => absurd g225 (by decide)) (fun g225 => ?_)
          refine y_ld (x := iv 1) rfl rfl (fun d => rfl) ?_
          refine y_ic rfl rfl ?_
          refine y_jne rfl rfl rfl (by decide) (fun g226 => ?_) (fun g226 => absurd g226 (by decide))
          refine y_ic rfl rfl ?_
          refine y_rI rfl (by decide) ?_
          refine y_nv ?_
          refine y_zeq rfl rfl rfl (by decide) (fun g227 => ?_) (fun g227 => absurd g227 (by decide))
          refine y_ld (x := .ref 170) rfl rfl (fun d => rfl) ?_
          refine y_ld (x := .int z) rfl rfl (fun d => rfl) ?_
          refine y_cV (D' := 11) (as := [.ref 170, .int z]) rfl rfl rfl rfl rfl (md170 hM) ⟨rfl, (Nat.le_of_ble_eq_true rfl), (Nat.le_of_ble_eq_true rfl)⟩ (by decide) ?_
          refine y_ent (lv' := [(0, .ref 170), (1, .int z)]) (Nat.le_of_ble_eq_true rfl) rfl ?_
          refine y_ld (x := .ref 170) rfl rfl (fun d => rfl) ?_
          refine y_ic rfl rfl ?_
          refine y_cV (D' := 10) (as := [.ref 170, iv 2]) rfl rfl rfl rfl rfl (md170 hM) ⟨rfl, (Nat.le_of_ble_eq_true rfl), (Nat.le_of_ble_eq_true rfl)⟩ (by decide) ?_
          refine y_ent (lv' := [(0, .ref 170), (1, iv 2)]) (Nat.le_of_ble_eq_true rfl) rfl ?_
          refine y_ld (x := .ref 170) rfl rfl (fun d => rfl) ?_
          refine y_gI (i := 40) (e := 0) rfl rfl rfl (md170 hM) rfl rfl ?_
          refine y_bi rfl rfl (by decide) ?_
          refine y_jge rfl rfl rfl (by decide) (fun g228 => absurd g228 (by decide)) (fun g228 => ?_)
          refine y_ld (x := .ref 170) rfl rfl (fun d => rfl) ?_
          refine y_gR (i := 39) rfl rfl rfl (md170 hM) rfl ?_
          refine y_ld (x := .ref 170) rfl rfl (fun d => rfl) ?_
          refine y_gI (i := 40) (e := 0) rfl rfl rfl (md170 hM) rfl rfl ?_
          refine y_ld (x := iv 2) rfl rfl (fun d => rfl) ?_
          refine y_ist (q := 0) rfl rfl (md192 hM) (by decide) (by decide) rfl ?_
          refine y_ld (x := .ref 170) rfl rfl (fun d => rfl) ?_
          refine y_in rfl rfl (fun d => rfl) ?_
          refine y_gI (i := 40) (e := 0) rfl rfl rfl (md170 hM) rfl rfl ?_
          refine y_ic rfl rfl ?_
          refine y_add (z := 1) rfl rfl rfl ?_
          refine y_pI (i := 40) rfl rfl rfl (md170 hM) rfl rfl ?_
          refine y_ret rfl (fun d => rfl) ?_
          refine y_n0 ?_
          refine y_ld (x := .ref 170) rfl rfl (fun d => rfl) ?_
          refine y_ld (x := .int z) rfl rfl (fun d => rfl) ?_
          refine y_cV (D' := 10) (as := [.ref 170, .int z]) rfl rfl rfl rfl rfl (md170 hM) ⟨rfl, (Nat.le_of_ble_eq_true rfl), (Nat.le_of_ble_eq_true rfl)⟩ (by decide) ?_
          refine y_ent (lv' := [(0, .ref 170), (1, .int z)]) (Nat.le_of_ble_eq_true rfl) rfl ?_
          refine y_ld (x := .ref 170) rfl rfl (fun d => rfl) ?_
          refine y_gI (i := 41) (e := 6) rfl rfl rfl (md170 hM) rfl rfl ?_
          refine y_ic rfl rfl ?_
          refine y_jne rfl rfl rfl (by decide) (fun g229 => ?_) (fun g229 => absurd g229 (by decide))
          refine y_ld (x := .ref 170) rfl rfl (fun d => rfl) ?_
          refine y_gI (i := 41) (e := 6) rfl rfl rfl (md170 hM) rfl rfl ?_
          refine y_bi rfl rfl (by decide) ?_
          refine y_jne rfl rfl rfl (by decide) (fun g230 => absurd g230 (by decide)) (fun g230 => ?_)
          refine y_ld (x := .ref 170) rfl rfl (fun d => rfl) ?_
          refine y_bi rfl rfl (by decide) ?_
          refine y_cV (D' := 9) (as := [.ref 170, iv 61]) rfl rfl rfl rfl rfl (md170 hM) ⟨rfl, (Nat.le_of_ble_eq_true rfl), (Nat.le_of_ble_eq_true rfl)⟩ (by decide) ?_
          refine y_ent (lv' := [(0, .ref 170), (1, iv 61)]) (Nat.le_of_ble_eq_true rfl) rfl ?_
          refine y_ld (x := .ref 170) rfl rfl (fun d => rfl) ?_
          refine y_gI (i := 40) (e := 1) rfl rfl rfl (md170 hM) rfl rfl ?_
          refine y_bi rfl rfl (by decide) ?_
          refine y_jge rfl rfl rfl (by decide) (fun g231 => absurd g231 (by decide)) (fun g231 => ?_)
          refine y_ld (x := .ref 170) rfl rfl (fun d => rfl) ?_
          refine y_gR (i := 39) rfl rfl rfl (md170 hM) rfl ?_
          refine y_ld (x := .ref 170) rfl rfl (fun d => rfl) ?_
          refine y_gI (i := 40) (e := 1) rfl rfl rfl (md170 hM) rfl rfl ?_
          refine y_ld (x := iv 61) rfl rfl (fun d => rfl) ?_
          refine y_ist (q := 1) rfl rfl (md192 hM) (by decide) (by decide) rfl ?_
          refine y_ld (x := .ref 170) rfl rfl (fun d => rfl) ?_
          refine y_in rfl rfl (fun d => rfl) ?_
          refine y_gI (i := 40) (e := 1) rfl rfl rfl (md170 hM) rfl rfl ?_
          refine y_ic rfl rfl ?_
          refine y_add (z := 2) rfl rfl rfl ?_
          refine y_pI (i := 40) rfl rfl rfl (md170 hM) rfl rfl ?_
          refine y_ret rfl (fun d => rfl) ?_
          refine y_n0 ?_
          refine y_ld (x := .ref 170) rfl rfl (fun d => rfl) ?_
          refine y_ld (x := .int z) rfl rfl (fun d => rfl) ?_
          refine y_ic rfl rfl ?_
          refine y_in rfl rfl (fun d => rfl) ?_
          refine y_cV (D' := 9) (as := [.ref 170, .int (z + (Int32.ofInt 1))]) rfl rfl rfl rfl rfl (md170 hM) ⟨rfl, (Nat.le_of_ble_eq_true rfl), (Nat.le_of_ble_eq_true rfl)⟩ (by decide) ?_
          refine y_ent (lv' := [(0, .ref 170), (1, .int (z + (Int32.ofInt 1)))]) (Nat.le_of_ble_eq_true rfl) rfl ?_
          refine y_ld (x := .ref 170) rfl rfl (fun d => rfl) ?_
          refine y_ic rfl rfl ?_
          refine y_cV (D' := 8) (as := [.ref 170, iv 1]) rfl rfl rfl rfl rfl (md170 hM) ⟨rfl, (Nat.le_of_ble_eq_true rfl), (Nat.le_of_ble_eq_true rfl)⟩ (by decide) ?_
          refine y_ent (lv' := [(0, .ref 170), (1, iv 1)]) (Nat.le_of_ble_eq_true rfl) rfl ?_
          refine y_ld (x := .ref 170) rfl rfl (fun d => rfl) ?_
          refine y_gI (i := 40) (e := 2) rfl rfl rfl (md170 hM) rfl rfl ?_
          refine y_bi rfl rfl (by decide) ?_
          refine y_jge rfl rfl rfl (by decide) (fun g232 => absurd g232 (by decide)) (fun g232 => ?_)
          refine y_ld (x := .ref 170) rfl rfl (fun d => rfl) ?_
          refine y_gR (i := 39) rfl rfl rfl (md170 hM) rfl ?_
          refine y_ld (x := .ref 170) rfl rfl (fun d => rfl) ?_
          refine y_gI (i := 40) (e := 2) rfl rfl rfl (md170 hM) rfl rfl ?_
          refine y_ld (x := iv 1) rfl rfl (fun d => rfl) ?_
          refine y_ist (q := 2) rfl rfl (md192 hM) (by decide) (by decide) rfl ?_
          refine y_ld (x := .ref 170) rfl rfl (fun d => rfl) ?_
          refine y_in rfl rfl (fun d => rfl) ?_
          refine y_gI (i := 40) (e := 2) rfl rfl rfl (md170 hM) rfl rfl ?_
          refine y_ic rfl rfl ?_
          refine y_add (z := 3) rfl rfl rfl ?_
          refine y_pI (i := 40) rfl rfl rfl (md170 hM) rfl rfl ?_
          refine y_ret rfl (fun d => rfl) ?_
          refine y_n0 ?_
          refine y_ld (x := .int (z + (Int32.ofInt 1))) rfl rfl (fun d => rfl) ?_
          refine y_ld (x := .ref 170) rfl rfl (fun d => rfl) ?_
          refine y_gI (i := 42) (e := ((x.toNat : Nat) : Int)) rfl rfl rfl (md170 hM) rfl rfl ?_
          refine y_in rfl rfl (fun d => rfl) ?_
          refine y_ret rfl (fun d => rfl) ?_
          refine y_nv ?_
          refine y_bi rfl rfl (by decide) ?_
          refine y_in rfl rfl (fun d => rfl) ?_
          refine y_ret rfl (fun d => rfl) ?_
          refine y_nv ?_
          refine y_ld (x := .ref 170) rfl rfl (fun d => rfl) ?_
          refine y_gI (i := 43) (e := ((tl (V 171 (178 + x.toNat)).toNat).length : Int)) rfl rfl rfl (md170 hM) rfl rfl ?_
          refine y_in rfl rfl (fun d => rfl) ?_
          refine y_ret rfl (fun d => rfl) ?_
          refine y_nv ?_
          refine y_ret rfl (fun d => rfl) ?_
          refine y_nv ?_
          refine y_go rfl rfl ?_
          refine y_ret rfl (fun d => rfl) ?_
          have k2 := k1 (by omega)
          rw [hq, hy3] at k2
          exact k2 _ (fun k h8 h9 => by rw [v_up_ne h8, v_up_ne h9, v_up_ne h8, v_up_ne h9, v_up_ne h8, v_up_ne h9, v_up_ne h8, v_up_ne h8, v_up_ne h8, v_up_ne h8]) (fun i hi => by rw [v_up_ni (by omega), v_up_ne (by decide), v_up_ni (by omega), v_up_ne (by decide), v_up_ni (by omega), v_up_ne (by decide), v_up_ni (by omega), v_up_ni (by omega), v_up_ni (by omega), v_up_ni (by omega)]) ⟨by show (0 : Int) ≤ 3; decide, by show (3 : Int) ≤ 20; decide⟩
        · refine y_lv (l' := [(0, .ref 170), (1, iv ((x.toNat : Nat) : Int)), (2, iv 2), (3, .int z)]) rfl ⟨rfl, congrArg (fun e => some (iv e)) (by omega), congrArg (fun e => some (iv e)) hy3, rfl, trivial⟩ ?_
          refine y_ld (x := .ref 170) rfl rfl (fun d => rfl) ?_
          refine y_ld (x := .ref 170) rfl rfl (fun d => rfl) ?_
          refine y_gR (i := 1) rfl rfl rfl (md170 hM) rfl ?_
          refine y_si rfl rfl (by decide) ?_
          refine y_ld (x := iv ((x.toNat : Nat) : Int)) rfl rfl (fun d => rfl) ?_
          refine y_add (z := (170 + ((x.toNat : Nat) : Int))) rfl rfl rfl ?_
          refine y_ild (x := 6) (q := (170 + x.toNat)) rfl rfl (md171 hM) (by omega) (by decide) (by omega) hq ?_
          refine y_pI (i := 41) rfl rfl rfl (md170 hM) rfl rfl ?_
          refine y_ld (x := .ref 170) rfl rfl (fun d => rfl) ?_
          refine y_ld (x := iv ((x.toNat : Nat) : Int)) rfl rfl (fun d => rfl) ?_
          refine y_pI (i := 42) rfl rfl rfl (md170 hM) rfl rfl ?_
          refine y_ld (x := .ref 170) rfl rfl (fun d => rfl) ?_
          refine y_ld (x := .ref 170) rfl rfl (fun d => rfl) ?_
          refine y_gR (i := 6) rfl rfl rfl (md170 hM) rfl ?_
          refine y_ld (x := .ref 170) rfl rfl (fun d => rfl) ?_
          refine y_gR (i := 1) rfl rfl rfl (md170 hM) rfl ?_
          refine y_si rfl rfl (by decide) ?_
          refine y_ld (x := iv ((x.toNat : Nat) : Int)) rfl rfl (fun d => rfl) ?_
          refine y_add (z := (178 + ((x.toNat : Nat) : Int))) rfl rfl rfl ?_
          refine y_ild (x := (((V 171 (178 + x.toNat)).toNat : Nat) : Int)) (q := (178 + x.toNat)) rfl rfl (md171 hM) (by omega) (by decide) (by omega) (by rw [v_up_ne (by decide), v_up_ne (by decide), v_up_ne (by decide)]; omega) ?_
          refine y_ild (x := ((tl (V 171 (178 + x.toNat)).toNat).length : Int)) (q := ((V 171 (178 + x.toNat)).toNat)) rfl rfl (md175 hM) (by omega) (by decide) (by omega) hM2 ?_
          refine y_pI (i := 43) rfl rfl rfl (md170 hM) rfl rfl ?_
          refine y_ld (x := iv 2) rfl rfl (fun d => rfl) ?_
          refine y_zne rfl rfl rfl (by decide) (fun g233 => ?_) (fun g233 => absurd g233 (by decide))
          refine y_ld (x := iv 2) rfl rfl (fun d => rfl) ?_
          refine y_ic rfl rfl ?_
          refine y_jne rfl rfl rfl (by decide) (fun g234 => ?_) (fun g234 => absurd g234 (by decide))
          refine y_ld (x := .ref 170) rfl rfl (fun d => rfl) ?_
          refine y_ld (x := .int z) rfl rfl (fun d => rfl) ?_
          refine y_cV (D' := 12) (as := [.ref 170, .int z]) rfl rfl rfl rfl rfl (md170 hM) ⟨rfl, (Nat.le_of_ble_eq_true rfl), (Nat.le_of_ble_eq_true rfl)⟩ (by decide) ?_
          refine y_ent (lv' := [(0, .ref 170), (1, .int z)]) (Nat.le_of_ble_eq_true rfl) rfl ?_
          refine y_ld (x := .ref 170) rfl rfl (fun d => rfl) ?_
          refine y_gI (i := 41) (e := 6) rfl rfl rfl (md170 hM) rfl rfl ?_
          refine y_ic rfl rfl ?_
          refine y_jne rfl rfl rfl (by decide) (fun g235 => ?_) (fun g235 => absurd g235 (by decide))
          refine y_ld (x := .ref 170) rfl rfl (fun d => rfl) ?_
          refine y_gI (i := 41) (e := 6) rfl rfl rfl (md170 hM) rfl rfl ?_
          refine y_ic rfl rfl ?_
          refine y_cS (D' := 11) (as := [iv 6, iv 3]) rfl (by decide) rfl rfl rfl rfl ⟨(Nat.le_of_ble_eq_true rfl), (Nat.le_of_ble_eq_true rfl)⟩ (by decide) ?_
          refine y_ent (lv' := [(0, iv 6), (1, iv 3)]) (Nat.le_of_ble_eq_true rfl) rfl ?_
          refine y_ld (x := iv 3) rfl rfl (fun d => rfl) ?_
          refine y_zeq rfl rfl rfl (by decide) (fun g236 => absurd g236 (by decide)) (fun g236 => ?_)
          refine y_ld (x := iv 3) rfl rfl (fun d => rfl) ?_
          refine y_ld (x := iv 6) rfl rfl (fun d => rfl) ?_
          refine y_jeq rfl rfl rfl (by decide) (fun g237 => absurd g237 (by decide)) (fun g237 => ?_)
          refine y_ld (x := iv 3) rfl rfl (fun d => rfl) ?_
          refine y_ic rfl rfl ?_
          refine y_jne rfl rfl rfl (by decide) (fun g238 => ?_) (fun g238 => absurd g238 (by decide))
          refine y_ld (x := iv 3) rfl rfl (fun d => rfl) ?_
          refine y_ic rfl rfl ?_
          refine y_jne rfl rfl rfl (by decide) (fun g239 => absurd g239 (by decide)) (fun g239 => ?_)
          refine y_ld (x := iv 6) rfl rfl (fun d => rfl) ?_
          refine y_ic rfl rfl ?_
          refine y_jne rfl rfl rfl (by decide) (fun g240 => ?_) (fun g240 => absurd g240 (by decide))
          refine y_ic rfl rfl ?_
          refine y_rI rfl (by decide) ?_
          refine y_nv ?_
          refine y_zeq rfl rfl rfl (by decide) (fun g241 => ?_) (fun g241 => absurd g241 (by decide))
          refine y_ld (x := .ref 170) rfl rfl (fun d => rfl) ?_
          refine y_ld (x := .int z) rfl rfl (fun d => rfl) ?_
          refine y_cV (D' := 11) (as := [.ref 170, .int z]) rfl rfl rfl rfl rfl (md170 hM) ⟨rfl, (Nat.le_of_ble_eq_true rfl), (Nat.le_of_ble_eq_true rfl)⟩ (by decide) ?_
          refine y_ent (lv' := [(0, .ref 170), (1, .int z)]) (Nat.le_of_ble_eq_true rfl) rfl ?_
          refine y_ld (x := .ref 170) rfl rfl (fun d => rfl) ?_
          refine y_ic rfl rfl ?_
          refine y_cV (D' := 10) (as := [.ref 170, iv 3]) rfl rfl rfl rfl rfl (md170 hM) ⟨rfl, (Nat.le_of_ble_eq_true rfl), (Nat.le_of_ble_eq_true rfl)⟩ (by decide) ?_
          refine y_ent (lv' := [(0, .ref 170), (1, iv 3)]) (Nat.le_of_ble_eq_true rfl) rfl ?_
          refine y_ld (x := .ref 170) rfl rfl (fun d => rfl) ?_
          refine y_gI (i := 40) (e := 0) rfl rfl rfl (md170 hM) rfl rfl ?_
          refine y_bi rfl rfl (by decide) ?_
          refine y_jge rfl rfl rfl (by decide) (fun g242 => absurd g242 (by decide)) (fun g242 => ?_)
          refine y_ld (x := .ref 170) rfl rfl (fun d => rfl) ?_
          refine y_gR (i := 39) rfl rfl rfl (md170 hM) rfl ?_
          refine y_ld (x := .ref 170) rfl rfl (fun d => rfl) ?_
          refine y_gI (i := 40) (e := 0) rfl rfl rfl (md170 hM) rfl rfl ?_
          refine y_ld (x := iv 3) rfl rfl (fun d => rfl) ?_
          refine y_ist (q := 0) rfl rfl (md192 hM) (by decide) (by decide) rfl ?_
          refine y_ld (x := .ref 170) rfl rfl (fun d => rfl) ?_
          refine y_in rfl rfl (fun d => rfl) ?_
          refine y_gI (i := 40) (e := 0) rfl rfl rfl (md170 hM) rfl rfl ?_
          refine y_ic rfl rfl ?_
          refine y_add (z := 1) rfl rfl rfl ?_
          refine y_pI (i := 40) rfl rfl rfl (md170 hM) rfl rfl ?_
          refine y_ret rfl (fun d => rfl) ?_
          refine y_n0 ?_
          refine y_ld (x := .ref 170) rfl rfl (fun d => rfl) ?_
          refine y_ld (x := .int z) rfl rfl (fun d => rfl) ?_
          refine y_cV (D' := 10) (as := [.ref 170, .int z]) rfl rfl rfl rfl rfl (md170 hM) ⟨rfl, (Nat.le_of_ble_eq_true rfl), (Nat.le_of_ble_eq_true rfl)⟩ (by decide) ?_
          refine y_ent (lv' := [(0, .ref 170), (1, .int z)]) (Nat.le_of_ble_eq_true rfl) rfl ?_
          refine y_ld (x := .ref 170) rfl rfl (fun d => rfl) ?_
          refine y_gI (i := 41) (e := 6) rfl rfl rfl (md170 hM) rfl rfl ?_
          refine y_ic rfl rfl ?_
          refine y_jne rfl rfl rfl (by decide) (fun g243 => ?_) (fun g243 => absurd g243 (by decide))
          refine y_ld (x := .ref 170) rfl rfl (fun d => rfl) ?_
          refine y_gI (i := 41) (e := 6) rfl rfl rfl (md170 hM) rfl rfl ?_
          refine y_ic rfl rfl ?_
          refine y_cS (D' := 9) (as := [iv 6, iv 1]) rfl (by decide) rfl rfl rfl rfl ⟨(Nat.le_of_ble_eq_true rfl), (Nat.le_of_ble_eq_true rfl)⟩ (by decide) ?_
          refine y_ent (lv' := [(0, iv 6), (1, iv 1)]) (Nat.le_of_ble_eq_true rfl) rfl ?_
          refine y_ld (x := iv 1) rfl rfl (fun d => rfl) ?_
          refine y_zeq rfl rfl rfl (by decide) (fun g244 => absurd g244 (by decide)) (fun g244 => ?_)
          refine y_ld (x := iv 1) rfl rfl (fun d => rfl) ?_
          refine y_ld (x := iv 6) rfl rfl (fun d => rfl) ?_
          refine y_jeq rfl rfl rfl (by decide) (fun g245 => absurd g245 (by decide)) (fun g245 => ?_)
          refine y_ld (x := iv 1) rfl rfl (fun d => rfl) ?_
          refine y_ic rfl rfl ?_
          refine y_jne rfl rfl rfl (by decide) (fun g246 => absurd g246 (by decide)) (fun g246 => ?_)
          refine y_ld (x := iv 6) rfl rfl (fun d => rfl) ?_
          refine y_ic rfl rfl ?_
          refine y_jeq rfl rfl rfl (by decide) (fun g247 => absurd g247 (by decide)) (fun g247 => ?_)
          refine y_ld (x := iv 1) rfl rfl (fun d => rfl) ?_
          refine y_ic rfl rfl ?_
          refine y_jne rfl rfl rfl (by decide) (fun g248 => ?_) (fun g248 => absurd g248 (by decide))
          refine y_ic rfl rfl ?_
          refine y_rI rfl (by decide) ?_
          refine y_nv ?_
          refine y_zeq rfl rfl rfl (by decide) (fun g249 => ?_) (fun g249 => absurd g249 (by decide))
          refine y_ld (x := .ref 170) rfl rfl (fun d => rfl) ?_
          refine y_ld (x := .int z) rfl rfl (fun d => rfl) ?_
          refine y_cV (D' := 9) (as := [.ref 170, .int z]) rfl rfl rfl rfl rfl (md170 hM) ⟨rfl, (Nat.le_of_ble_eq_true rfl), (Nat.le_of_ble_eq_true rfl)⟩ (by decide) ?_
          refine y_ent (lv' := [(0, .ref 170), (1, .int z)]) (Nat.le_of_ble_eq_true rfl) rfl ?_
          refine y_ld (x := .ref 170) rfl rfl (fun d => rfl) ?_
          refine y_ic rfl rfl ?_
          refine y_cV (D' := 8) (as := [.ref 170, iv 2]) rfl rfl rfl rfl rfl (md170 hM) ⟨rfl, (Nat.le_of_ble_eq_true rfl), (Nat.le_of_ble_eq_true rfl)⟩ (by decide) ?_
          refine y_ent (lv' := [(0, .ref 170), (1, iv 2)]) (Nat.le_of_ble_eq_true rfl) rfl ?_
          refine y_ld (x := .ref 170) rfl rfl (fun d => rfl) ?_
          refine y_gI (i := 40) (e := 1) rfl rfl rfl (md170 hM) rfl rfl ?_
          refine y_bi rfl rfl (by decide) ?_
          refine y_jge rfl rfl rfl (by decide) (fun g250 => absurd g250 (by decide)) (fun g250 => ?_)
          refine y_ld (x := .ref 170) rfl rfl (fun d => rfl) ?_
          refine y_gR (i := 39) rfl rfl rfl (md170 hM) rfl ?_
          refine y_ld (x := .ref 170) rfl rfl (fun d => rfl) ?_
          refine y_gI (i := 40) (e := 1) rfl rfl rfl (md170 hM) rfl rfl ?_
          refine y_ld (x := iv 2) rfl rfl (fun d => rfl) ?_
          refine y_ist (q := 1) rfl rfl (md192 hM) (by decide) (by decide) rfl ?_
          refine y_ld (x := .ref 170) rfl rfl (fun d => rfl) ?_
          refine y_in rfl rfl (fun d => rfl) ?_
          refine y_gI (i := 40) (e := 1) rfl rfl rfl (md170 hM) rfl rfl ?_
          refine y_ic rfl rfl ?_
          refine y_add (z := 2) rfl rfl rfl ?_
          refine y_pI (i := 40) rfl rfl rfl (md170 hM) rfl rfl ?_
          refine y_ret rfl (fun d => rfl) ?_
          refine y_n0 ?_
          refine y_ld (x := .ref 170) rfl rfl (fun d => rfl) ?_
          refine y_ld (x := .int z) rfl rfl (fun d => rfl) ?_
          refine y_cV (D' := 8) (as := [.ref 170, .int z]) rfl rfl rfl rfl rfl (md170 hM) ⟨rfl, (Nat.le_of_ble_eq_true rfl), (Nat.le_of_ble_eq_true rfl)⟩ (by decide) ?_
          refine y_ent (lv' := [(0, .ref 170), (1, .int z)]) (Nat.le_of_ble_eq_true rfl) rfl ?_
          refine y_ld (x := .ref 170) rfl rfl (fun d => rfl) ?_
          refine y_gI (i := 41) (e := 6) rfl rfl rfl (md170 hM) rfl rfl ?_
          refine y_ic rfl rfl ?_
          refine y_jne rfl rfl rfl (by decide) (fun g251 => ?_) (fun g251 => absurd g251 (by decide))
          refine y_ld (x := .ref 170) rfl rfl (fun d => rfl) ?_
          refine y_gI (i := 41) (e := 6) rfl rfl rfl (md170 hM) rfl rfl ?_
          refine y_bi rfl rfl (by decide) ?_
          refine y_jne rfl rfl rfl (by decide) (fun g252 => absurd g252 (by decide)) (fun g252 => ?_)
          refine y_ld (x := .ref 170) rfl rfl (fun d => rfl) ?_
          refine y_bi rfl rfl (by decide) ?_
          refine y_cV (D' := 7) (as := [.ref 170, iv 61]) rfl rfl rfl rfl rfl (md170 hM) ⟨rfl, (Nat.le_of_ble_eq_true rfl), (Nat.le_of_ble_eq_true rfl)⟩ (by decide) ?_
          refine y_ent (lv' := [(0, .ref 170), (1, iv 61)]) (Nat.le_of_ble_eq_true rfl) rfl ?_
          refine y_ld (x := .ref 170) rfl rfl (fun d => rfl) ?_
          refine y_gI (i := 40) (e := 2) rfl rfl rfl (md170 hM) rfl rfl ?_
          refine y_bi rfl rfl (by decide) ?_
          refine y_jge rfl rfl rfl (by decide) (fun g253 => absurd g253 (by decide)) (fun g253 => ?_)
          refine y_ld (x := .ref 170) rfl rfl (fun d => rfl) ?_
          refine y_gR (i := 39) rfl rfl rfl (md170 hM) rfl ?_
          refine y_ld (x := .ref 170) rfl rfl (fun d => rfl) ?_
          refine y_gI (i := 40) (e := 2) rfl rfl rfl (md170 hM) rfl rfl ?_
          refine y_ld (x := iv 61) rfl rfl (fun d => rfl) ?_
          refine y_ist (q := 2) rfl rfl (md192 hM) (by decide) (by decide) rfl ?_
          refine y_ld (x := .ref 170) rfl rfl (fun d => rfl) ?_
          refine y_in rfl rfl (fun d => rfl) ?_
          refine y_gI (i := 40) (e := 2) rfl rfl rfl (md170 hM) rfl rfl ?_
          refine y_ic rfl rfl ?_
          refine y_add (z := 3) rfl rfl rfl ?_
          refine y_pI (i := 40) rfl rfl rfl (md170 hM) rfl rfl ?_
          refine y_ret rfl (fun d => rfl) ?_
          refine y_n0 ?_
          refine y_ld (x := .ref 170) rfl rfl (fun d => rfl) ?_
          refine y_ld (x := .int z) rfl rfl (fun d => rfl) ?_
          refine y_ic rfl rfl ?_
          refine y_in rfl rfl (fun d => rfl) ?_
          refine y_cV (D' := 7) (as := [.ref 170, .int (z + (Int32.ofInt 1))]) rfl rfl rfl rfl rfl (md170 hM) ⟨rfl, (Nat.le_of_ble_eq_true rfl), (Nat.le_of_ble_eq_true rfl)⟩ (by decide) ?_
          refine y_ent (lv' := [(0, .ref 170), (1, .int (z + (Int32.ofInt 1)))]) (Nat.le_of_ble_eq_true rfl) rfl ?_
          refine y_ld (x := .ref 170) rfl rfl (fun d => rfl) ?_
          refine y_ic rfl rfl ?_
          refine y_cV (D' := 6) (as := [.ref 170, iv 1]) rfl rfl rfl rfl rfl (md170 hM) ⟨rfl, (Nat.le_of_ble_eq_true rfl), (Nat.le_of_ble_eq_true rfl)⟩ (by decide) ?_
          refine y_ent (lv' := [(0, .ref 170), (1, iv 1)]) (Nat.le_of_ble_eq_true rfl) rfl ?_
          refine y_ld (x := .ref 170) rfl rfl (fun d => rfl) ?_
          refine y_gI (i := 40) (e := 3) rfl rfl rfl (md170 hM) rfl rfl ?_
          refine y_bi rfl rfl (by decide) ?_
          refine y_jge rfl rfl rfl (by decide) (fun g254 => absurd g254 (by decide)) (fun g254 => ?_)
          refine y_ld (x := .ref 170) rfl rfl (fun d => rfl) ?_
          refine y_gR (i := 39) rfl rfl rfl (md170 hM) rfl ?_
          refine y_ld (x := .ref 170) rfl rfl (fun d => rfl) ?_
          refine y_gI (i := 40) (e := 3) rfl rfl rfl (md170 hM) rfl rfl ?_
          refine y_ld (x := iv 1) rfl rfl (fun d => rfl) ?_
          refine y_ist (q := 3) rfl rfl (md192 hM) (by decide) (by decide) rfl ?_
          refine y_ld (x := .ref 170) rfl rfl (fun d => rfl) ?_
          refine y_in rfl rfl (fun d => rfl) ?_
          refine y_gI (i := 40) (e := 3) rfl rfl rfl (md170 hM) rfl rfl ?_
          refine y_ic rfl rfl ?_
          refine y_add (z := 4) rfl rfl rfl ?_
          refine y_pI (i := 40) rfl rfl rfl (md170 hM) rfl rfl ?_
          refine y_ret rfl (fun d => rfl) ?_
          refine y_n0 ?_
          refine y_ld (x := .int (z + (Int32.ofInt 1))) rfl rfl (fun d => rfl) ?_
          refine y_ld (x := .ref 170) rfl rfl (fun d => rfl) ?_
          refine y_gI (i := 42) (e := ((x.toNat : Nat) : Int)) rfl rfl rfl (md170 hM) rfl rfl ?_
          refine y_in rfl rfl (fun d => rfl) ?_
          refine y_ret rfl (fun d => rfl) ?_
          refine y_nv ?_
          refine y_bi rfl rfl (by decide) ?_
          refine y_in rfl rfl (fun d => rfl) ?_
          refine y_ret rfl (fun d => rfl) ?_
          refine y_nv ?_
          refine y_ld (x := .ref 170) rfl rfl (fun d => rfl) ?_
          refine y_gI (i := 43) (e := ((tl (V 171 (178 + x.toNat)).toNat).length : Int)) rfl rfl rfl (md170 hM) rfl rfl ?_
          refine y_in rfl rfl (fun d => rfl) ?_
          refine y_ret rfl (fun d => rfl) ?_
          refine y_nv ?_
          refine y_ret rfl (fun d => rfl) ?_
          refine y_nv ?_
          refine y_ic rfl rfl ?_
          refine y_in rfl rfl (fun d => rfl) ?_
          refine y_ret rfl (fun d => rfl) ?_
          refine y_nv ?_
          refine y_ret rfl (fun d => rfl) ?_
          refine y_nv ?_
          refine y_ret rfl (fun d => rfl) ?_
          have k2 := k1 (by omega)
          rw [hq, hy3] at k2
          exact k2 _ (fun k h8 h9 => by rw [v_up_ne h8, v_up_ne h9, v_up_ne h8, v_up_ne h9, v_up_ne h8, v_up_ne h9, v_up_ne h8, v_up_ne h9, v_up_ne h8, v_up_ne h8, v_up_ne h8, v_up_ne h8]) (fun i hi => by rw [v_up_ni (by omega), v_up_ne (by decide), v_up_ni (by omega), v_up_ne (by decide), v_up_ni (by omega), v_up_ne (by decide), v_up_ni (by omega), v_up_ne (by decide), v_up_ni (by omega), v_up_ni (by omega), v_up_ni (by omega), v_up_ni (by omega)]) ⟨by show (0 : Int) ≤ 4; decide, by show (4 : Int) ≤ 20; decide⟩
    · refine y_ic rfl rfl ?_
      refine y_rI rfl (Or.inl rfl) ?_
      exact k0 (by omega)
end
