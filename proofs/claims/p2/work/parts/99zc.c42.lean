/-! a packet is seen: the class -/
theorem b01_u1 (f : Nat → Bool) (c t : Nat) {x : Int} (h : x = b01 (f t)) : (if t = c then 1 else x) = b01 (uB f c true t) := by
  unfold uB
  by_cases ht : t = c
  · rw [if_pos ht, if_pos ht]; rfl
  · rw [if_neg ht, if_neg ht]; exact h
theorem b01_u0 (f : Nat → Bool) (c t : Nat) {x : Int} (h : x = b01 (f t)) : (if t = c then 0 else x) = b01 (uB f c false t) := by
  unfold uB
  by_cases ht : t = c
  · rw [if_pos ht, if_pos ht]; rfl
  · rw [if_neg ht, if_neg ht]; exact h
section RWS
variable {V : v_V} {i : Nat} {A : Aw} {a h κ n : Int}
theorem RWs_b (hR : RWc V i A) (ha : 0 ≤ a ∧ a < 16) : RWc (v_up V (154 + 4 * i) 2 (v_o2 (V (154 + 4 * i) 2) a.toNat)) i (awS A a h κ n 2) := by
  obtain ⟨⟨r0, r1, r2⟩, hb⟩ := hR
  have e : awS A a h κ n 2 = (aBg A, aOp A, uB (aBr A) a.toNat true, aHo A, aNu A, aPa A) := if_pos rfl
  rw [e]
  refine ⟨⟨by rw [v_up_ni (by decide)]; exact r0, by rw [v_up_ni (by decide)]; exact r1, by rw [v_up_eq]; exact v_o2_lt16 r2 (by omega)⟩, fun t ht => ?_⟩
  obtain ⟨b0, b1, b2, b3, b4, b5⟩ := hb t ht
  rw [v_up_ni (show 0 ≠ 2 by decide), v_up_ni (show 1 ≠ 2 by decide), v_up_eq, v_o2_bit r2.1, v_up_ne (by omega), v_up_ne (by omega), v_up_ne (by omega)]
  exact ⟨b0, b1, b01_u1 _ _ _ b2, b3, b4, b5⟩
theorem RWs_p (hR : RWc V i A) (ha : 0 ≤ a ∧ a < 16) : RWc (v_up V (154 + 4 * i + 3) a.toNat (aPa A a.toNat + 1)) i (aBg A, aOp A, aBr A, aHo A, aNu A, v_uf (aPa A) a.toNat (aPa A a.toNat + 1)) := by
  obtain ⟨⟨r0, r1, r2⟩, hb⟩ := hR
  unfold RWc
  rw [v_up_ne (show 154 + 4 * i ≠ 154 + 4 * i + 3 by omega)]
  refine ⟨⟨r0, r1, r2⟩, fun t ht => ?_⟩
  obtain ⟨b0, b1, b2, b3, b4, b5⟩ := hb t ht
  rw [v_up_ne (show 154 + 4 * i + 1 ≠ 154 + 4 * i + 3 by omega), v_up_ne (show 154 + 4 * i + 2 ≠ 154 + 4 * i + 3 by omega), v_up_row]
  refine ⟨b0, b1, b2, b3, b4, ?_⟩
  show v_uf (V (154 + 4 * i + 3)) a.toNat _ t = v_uf (aPa A) a.toNat _ t
  unfold v_uf
  split
  · rfl
  · exact b5
theorem RWs_0 (hR : RWc V i A) (ha : 0 ≤ a ∧ a < 16) {x0 x1 : Int} (e0 : V (154 + 4 * i) 0 = x0) (e1 : V (154 + 4 * i) 1 = x1) : RWc (v_up (v_up (v_up (v_up V (154 + 4 * i) 0 (v_o2 x0 a.toNat)) (154 + 4 * i) 1 (v_o2 x1 a.toNat)) (154 + 4 * i + 1) a.toNat h) (154 + 4 * i + 2) a.toNat n) i (uB (aBg A) a.toNat true, uB (aOp A) a.toNat true, aBr A, v_uf (aHo A) a.toNat h, v_uf (aNu A) a.toNat n, aPa A) := by
  subst e0 e1
  obtain ⟨⟨r0, r1, r2⟩, hb⟩ := hR
  unfold RWc
  rw [v_up_ne (show 154 + 4 * i ≠ 154 + 4 * i + 2 by omega), v_up_ne (show 154 + 4 * i ≠ 154 + 4 * i + 1 by omega), v_up_ni (show 0 ≠ 1 by decide), v_up_eq, v_up_eq, v_up_ni (show 2 ≠ 1 by decide), v_up_ni (show 2 ≠ 0 by decide)]
  refine ⟨⟨v_o2_lt16 r0 (by omega), v_o2_lt16 r1 (by omega), r2⟩, fun t ht => ?_⟩
  obtain ⟨b0, b1, b2, b3, b4, b5⟩ := hb t ht
  rw [v_o2_bit r0.1, v_o2_bit r1.1, v_up_ne (show 154 + 4 * i + 1 ≠ 154 + 4 * i + 2 by omega), v_up_row, v_up_row, v_up_ne (show 154 + 4 * i + 1 ≠ 154 + 4 * i by omega), v_up_ne (show 154 + 4 * i + 1 ≠ 154 + 4 * i by omega), v_up_ne (show 154 + 4 * i + 2 ≠ 154 + 4 * i + 1 by omega), v_up_ne (show 154 + 4 * i + 2 ≠ 154 + 4 * i by omega), v_up_ne (show 154 + 4 * i + 2 ≠ 154 + 4 * i by omega),
    v_up_ne (show 154 + 4 * i + 3 ≠ 154 + 4 * i + 2 by omega), v_up_ne (show 154 + 4 * i + 3 ≠ 154 + 4 * i + 1 by omega), v_up_ne (show 154 + 4 * i + 3 ≠ 154 + 4 * i by omega), v_up_ne (show 154 + 4 * i + 3 ≠ 154 + 4 * i by omega)]
  refine ⟨b01_u1 _ _ _ b0, b01_u1 _ _ _ b1, b2, ?_, ?_, b5⟩
  · show v_uf (V (154 + 4 * i + 1)) a.toNat _ t = v_uf (aHo A) a.toNat _ t
    unfold v_uf
    split
    · rfl
    · exact b3
  · show v_uf (V (154 + 4 * i + 2)) a.toNat _ t = v_uf (aNu A) a.toNat _ t
    unfold v_uf
    split
    · rfl
    · exact b4
theorem RWs_2 (hR : RWc V i A) (ha : 0 ≤ a ∧ a < 16) {x1 : Int} (e1 : V (154 + 4 * i) 1 = x1) : RWc (v_up V (154 + 4 * i) 1 (v_x2 x1 a.toNat)) i (aBg A, uB (aOp A) a.toNat false, aBr A, aHo A, aNu A, aPa A) := by
  subst e1
  obtain ⟨⟨r0, r1, r2⟩, hb⟩ := hR
  refine ⟨⟨by rw [v_up_ni (by decide)]; exact r0, by rw [v_up_eq]; exact v_x2_rg r1 _, by rw [v_up_ni (by decide)]; exact r2⟩, fun t ht => ?_⟩
  obtain ⟨b0, b1, b2, b3, b4, b5⟩ := hb t ht
  rw [v_up_ni (show 0 ≠ 1 by decide), v_up_eq, v_x2_bit r1 (by omega), v_up_ni (show 2 ≠ 1 by decide), v_up_ne (by omega), v_up_ne (by omega), v_up_ne (by omega)]
  exact ⟨b0, b01_u0 _ _ _ b1, b2, b3, b4, b5⟩
theorem awS_x (h1 : ¬ κ = 0) (h2 : ¬ κ = 2) : awS A a h κ n 1 = (aBg A, aOp A, aBr A, aHo A, aNu A, v_uf (aPa A) a.toNat (aPa A a.toNat + 1)) := by
  unfold awS
  rw [if_neg (by decide), if_pos rfl, if_neg h1, if_neg h2]
theorem awS_0 (h1 : κ = 0) : awS A a h κ n 1 = (uB (aBg A) a.toNat true, uB (aOp A) a.toNat true, aBr A, v_uf (aHo A) a.toNat h, v_uf (aNu A) a.toNat n, v_uf (aPa A) a.toNat (aPa A a.toNat + 1)) := by
  unfold awS
  rw [if_neg (by decide), if_pos rfl, if_pos h1]
theorem awS_2 (h1 : κ = 2) : awS A a h κ n 1 = (aBg A, uB (aOp A) a.toNat false, aBr A, aHo A, aNu A, v_uf (aPa A) a.toNat (aPa A a.toNat + 1)) := by
  unfold awS
  rw [if_neg (by decide), if_pos rfl, if_neg (by omega), if_pos h1]
theorem awS_n : awS A a h κ n 0 = A := by
  unfold awS
  rw [if_neg (by decide), if_neg (by decide)]
end RWS
section
variable {X : Nat → List Int32} {u w : Nat} {S : m_H} {V : v_V} {K : v_K}
set_option maxRecDepth 100000 in
set_option maxHeartbeats 4000000 in
theorem cw_sees (hC : ClF S) {i : Nat} (hi : i < 4) {A : Aw} {j : Nat} (hR : RWc V i A) (hA : awO j A) (hj : j ≤ 100) {pk : Nat} {a h κ n : Int} (hP : PkS S V pk a h κ n) (hpk : pkO a h κ n) (hkl : 193 ≤ pk) {how form N : Int} (hw : 0 ≤ how ∧ how ≤ 2) (hf : 0 ≤ form ∧ form ≤ 4) (hN : 0 ≤ N ∧ N ≤ 99) (k1 : vioC (awS A a h κ n how) a h κ how form N → ∀ V2, RWc V2 i (awS A a h κ n how) → (∀ q, (q < 154 + 4 * i ∨ 154 + 4 * i + 3 < q) → V2 q = V q) → K u w (some (iv 1)) S V2) (k0 : ¬ vioC (awS A a h κ n how) a h κ how form N → ∀ V2, RWc V2 i (awS A a h κ n how) → (∀ q, (q < 154 + 4 * i ∨ 154 + 4 * i + 3 < q) → V2 q = V q) → K u w (some (iv 0)) S V2) : y_R X 2 66 u w [.ref (154 + 4 * i), .ref pk, iv how, iv form, iv N] S V K := by
  refine y_ent (lv' := [(0, .ref (154 + 4 * i)), (1, .ref pk), (2, iv how), (3, iv form), (4, iv N)]) (Nat.le_of_ble_eq_true rfl) rfl ?_
  have hpo := hpk
  obtain ⟨p1, p2, p3, p4⟩ := hpo
  have hRb := hR
  obtain ⟨⟨r1, r2, r3⟩, hb⟩ := hRb
  obtain ⟨f1, f2, f3, f4, f5, f6⟩ := hb a.toNat (by omega)
  obtain ⟨a1, a2, a3⟩ := hA a.toNat (by omega)
  have hp2 := v_p2 a.toNat
  have hp3 : (2 : Int) ^ a.toNat ≤ 32768 := z_p2le (by omega)
  rcases (show how = 0 ∨ how = 1 ∨ how = 2 by omega) with rfl | rfl | rfl
  · refine y_ic rfl rfl ?_
    refine y_ld (x := .ref pk) rfl rfl (fun d => rfl) ?_
    refine y_gI (i := 0) (e := a) rfl rfl rfl hP.1 rfl hP.2.1 ?_
    refine y_op (z := (2 ^ a.toNat)) rfl rfl (fun d => rfl) (v_shl1 (k := a) (by omega)) ?_
    refine y_st (lv' := [(5, iv (2 ^ a.toNat)), (0, .ref (154 + 4 * i)), (1, .ref pk), (2, iv 0), (3, iv form), (4, iv N)]) rfl rfl (fun d => rfl) ?_
    refine y_ld (x := iv 0) rfl rfl (fun d => rfl) ?_
    refine y_ic rfl rfl ?_
    refine y_jne rfl rfl rfl (by decide) (fun g1 => ?_) (fun g1 => absurd g1 (by decide))
    refine y_ld (x := iv 0) rfl rfl (fun d => rfl) ?_
    refine y_ic rfl rfl ?_
    refine y_jeq rfl rfl rfl (by decide) (fun g2 => absurd g2 (by decide)) (fun g2 => ?_)
    refine y_ic rfl rfl ?_
    refine y_rI rfl (by decide) ?_
    exact k0 (fun q => absurd q.1 (by decide)) V (by rw [awS_n]; exact hR) (fun q _ => rfl)
  · refine y_ic rfl rfl ?_
    refine y_ld (x := .ref pk) rfl rfl (fun d => rfl) ?_
    refine y_gI (i := 0) (e := a) rfl rfl rfl hP.1 rfl hP.2.1 ?_
    refine y_op (z := (2 ^ a.toNat)) rfl rfl (fun d => rfl) (v_shl1 (k := a) (by omega)) ?_
    refine y_st (lv' := [(5, iv (2 ^ a.toNat)), (0, .ref (154 + 4 * i)), (1, .ref pk), (2, iv 1), (3, iv form), (4, iv N)]) rfl rfl (fun d => rfl) ?_
    refine y_ld (x := iv 1) rfl rfl (fun d => rfl) ?_
    refine y_ic rfl rfl ?_
    refine y_jne rfl rfl rfl (by decide) (fun g3 => ?_) (fun g3 => absurd g3 (by decide))
    refine y_ld (x := iv 1) rfl rfl (fun d => rfl) ?_
    refine y_ic rfl rfl ?_
    refine y_jeq rfl rfl rfl (by decide) (fun g4 => ?_) (fun g4 => absurd g4 (by decide))
    refine y_ld (x := .ref (154 + 4 * i)) rfl rfl (fun d => rfl) ?_
    refine y_gR (i := 5) rfl rfl rfl (ww_ob hC (i := i) (by omega)) rfl ?_
    refine y_ld (x := .ref pk) rfl rfl (fun d => rfl) ?_
    refine y_gI (i := 0) (e := a) rfl rfl rfl hP.1 rfl hP.2.1 ?_
    refine y_in rfl rfl (fun d => rfl) ?_
    refine y_ild (x := (aPa A a.toNat)) (q := a.toNat) rfl rfl (ww_a3 hC (i := i) (by omega)) (by omega) (by decide) (by omega) f6 ?_
    refine y_ic rfl rfl ?_
    refine y_add (z := (aPa A a.toNat + 1)) rfl rfl (by omega) ?_
    refine y_ist (q := a.toNat) rfl rfl (ww_a3 hC (i := i) (by omega)) (by omega) (by decide) (by omega) ?_
    refine y_ld (x := .ref pk) rfl rfl (fun d => rfl) ?_
    refine y_gI (i := 2) (e := κ) rfl rfl rfl hP.1 rfl (by rw [v_up_ne (by omega)]; exact hP.2.2.2.1) ?_
    refine y_zne rfl rfl rfl (by omega) (fun g5 => ?_) (fun g5 => ?_)
    · refine y_ld (x := .ref pk) rfl rfl (fun d => rfl) ?_
      refine y_gI (i := 2) (e := κ) rfl rfl rfl hP.1 rfl (by rw [v_up_ne (by omega)]; exact hP.2.2.2.1) ?_
      refine y_ic rfl rfl ?_
      refine y_jne rfl rfl rfl (by omega) (fun g6 => ?_) (fun g6 => ?_)
      · have hR1 := RWs_p hR p1
        have hR2 : RWc (v_up V (154 + 4 * i + 3) a.toNat (aPa A a.toNat + 1)) i (awS A a h κ n 1) := by rw [awS_x (by omega) (by omega)]; exact hR1
        have hA2 := awO_S (h := h) (k := κ) (n := n) (t := a) (how := 1) hA hpk
        have hR3 := hR2.2 a.toNat (by omega)
        have hA3 := (hA2 a.toNat (by omega)).2.2
        rcases (show form = 0 ∨ form = 1 ∨ form = 2 ∨ form = 3 ∨ form = 4 by omega) with rfl | rfl | rfl | rfl | rfl
        · cases hbb : aBg (awS A a h κ n 1) a.toNat
          · have hd := hR3.1.trans (congrArg b01 hbb)
            have hd : V (154 + 4 * i) 0 / 2 ^ a.toNat % 2 = 0 := by rw [← show (v_up V (154 + 4 * i + 3) a.toNat (aPa A a.toNat + 1)) (154 + 4 * i) 0 = V (154 + 4 * i) 0 by rw [v_up_ne (by omega)]]; exact hd
            refine y_ld (x := iv 0) rfl rfl (fun d => rfl) ?_
            refine y_in (pc' := 152) rfl rfl (fun d => rfl) ?_
            refine y_ld (x := .ref pk) rfl rfl (fun d => rfl) ?_
            refine y_gI (i := 2) (e := κ) rfl rfl rfl hP.1 rfl (by rw [v_up_ne (by omega)]; exact hP.2.2.2.1) ?_
            refine y_ic rfl rfl ?_
            refine y_jne rfl rfl rfl (by omega) (fun g7 => ?_) (fun g7 => ?_)
            · refine y_ic rfl rfl ?_
              refine y_rI rfl (by decide) ?_
              refine k0 (fun q => ?_) _ hR2 (fun q hq => by rw [v_up_ne (by omega)])
              rcases q.2 with q | q | q | q | q
              · first | omega | (rw [hbb] at q; exact absurd q.2.2 (by decide))
              · exact absurd q.1 (by decide)
              · exact absurd q.1 (by decide)
              · exact absurd q.1 (by decide)
              · exact absurd q.1 (by decide)
            · refine y_ld (x := .ref (154 + 4 * i)) rfl rfl (fun d => rfl) ?_
              refine y_gI (i := 0) (e := (V (154 + 4 * i) 0)) rfl rfl rfl (ww_ob hC (i := i) (by omega)) rfl (by rw [v_up_ne (by omega)]) ?_
              refine y_ld (x := iv (2 ^ a.toNat)) rfl rfl (fun d => rfl) ?_
              refine y_op (z := 0) rfl rfl (fun d => rfl) ((v_and2 (x := V (154 + 4 * i) 0) (k := a.toNat) (by omega) (by omega)).trans (by rw [hd, Int.mul_zero])) ?_
              refine y_zne rfl rfl rfl (by decide) (fun g8 => absurd g8 (by decide)) (fun g8 => ?_)
              refine y_ic rfl rfl ?_
              refine y_go rfl rfl ?_
              refine y_rI rfl (by decide) ?_
              exact k1 ⟨rfl, Or.inl ⟨rfl, by omega, hbb⟩⟩ _ hR2 (fun q hq => by rw [v_up_ne (by omega)])
          · have hd := hR3.1.trans (congrArg b01 hbb)
            have hd : V (154 + 4 * i) 0 / 2 ^ a.toNat % 2 = 1 := by rw [← show (v_up V (154 + 4 * i + 3) a.toNat (aPa A a.toNat + 1)) (154 + 4 * i) 0 = V (154 + 4 * i) 0 by rw [v_up_ne (by omega)]]; exact hd
            refine y_ld (x := iv 0) rfl rfl (fun d => rfl) ?_
            refine y_in (pc' := 152) rfl rfl (fun d => rfl) ?_
            refine y_ld (x := .ref pk) rfl rfl (fun d => rfl) ?_
            refine y_gI (i := 2) (e := κ) rfl rfl rfl hP.1 rfl (by rw [v_up_ne (by omega)]; exact hP.2.2.2.1) ?_
            refine y_ic rfl rfl ?_
            refine y_jne rfl rfl rfl (by omega) (fun g9 => ?_) (fun g9 => ?_)
            · refine y_ic rfl rfl ?_
              refine y_rI rfl (by decide) ?_
              refine k0 (fun q => ?_) _ hR2 (fun q hq => by rw [v_up_ne (by omega)])
              rcases q.2 with q | q | q | q | q
              · first | omega | (rw [hbb] at q; exact absurd q.2.2 (by decide))
              · exact absurd q.1 (by decide)
              · exact absurd q.1 (by decide)
              · exact absurd q.1 (by decide)
              · exact absurd q.1 (by decide)
            · refine y_ld (x := .ref (154 + 4 * i)) rfl rfl (fun d => rfl) ?_
              refine y_gI (i := 0) (e := (V (154 + 4 * i) 0)) rfl rfl rfl (ww_ob hC (i := i) (by omega)) rfl (by rw [v_up_ne (by omega)]) ?_
              refine y_ld (x := iv (2 ^ a.toNat)) rfl rfl (fun d => rfl) ?_
              refine y_op (z := (2 ^ a.toNat)) rfl rfl (fun d => rfl) ((v_and2 (x := V (154 + 4 * i) 0) (k := a.toNat) (by omega) (by omega)).trans (by rw [hd, Int.mul_one])) ?_
              refine y_zne rfl rfl rfl (by omega) (fun g10 => ?_) (fun g10 => absurd g10 (by omega))
              refine y_ic rfl rfl ?_
              refine y_rI rfl (by decide) ?_
              refine k0 (fun q => ?_) _ hR2 (fun q hq => by rw [v_up_ne (by omega)])
              rcases q.2 with q | q | q | q | q
              · first | omega | (rw [hbb] at q; exact absurd q.2.2 (by decide))
              · exact absurd q.1 (by decide)
              · exact absurd q.1 (by decide)
              · exact absurd q.1 (by decide)
              · exact absurd q.1 (by decide)
        · refine y_ld (x := iv 1) rfl rfl (fun d => rfl) ?_
          refine y_in (pc' := 176) rfl rfl (fun d => rfl) ?_
          refine y_ld (x := .ref (154 + 4 * i)) rfl rfl (fun d => rfl) ?_
          refine y_ld (x := .ref pk) rfl rfl (fun d => rfl) ?_
          refine y_gI (i := 1) (e := h) rfl rfl rfl hP.1 rfl (by rw [v_up_ne (by omega)]; exact hP.2.2.1) ?_
          refine y_ld (x := iv N) rfl rfl (fun d => rfl) ?_
          refine y_cV (as := [.ref (154 + 4 * i), iv h, iv N]) rfl rfl rfl rfl rfl (ww_ob hC (i := i) (by omega)) ⟨rfl, (Nat.le_of_ble_eq_true rfl), (Nat.le_of_ble_eq_true rfl)⟩ (by decide) (cw_opens hC hi hR2 hA2 (by omega) hN (fun hyes => ?_) (fun hno => ?_))
          · refine y_nv ?_
            refine y_rI rfl (by decide) ?_
            exact k1 ⟨rfl, Or.inr (Or.inl ⟨rfl, hyes⟩)⟩ _ hR2 (fun q hq => by rw [v_up_ne (by omega)])
          · refine y_nv ?_
            refine y_rI rfl (by decide) ?_
            refine k0 (fun q => ?_) _ hR2 (fun q hq => by rw [v_up_ne (by omega)])
            rcases q.2 with q | q | q | q | q
            · exact absurd q.1 (by decide)
            · exact hno q.2
            · exact absurd q.1 (by decide)
            · exact absurd q.1 (by decide)
            · exact absurd q.1 (by decide)
        · refine y_ld (x := iv 2) rfl rfl (fun d => rfl) ?_
          refine y_in (pc' := 187) rfl rfl (fun d => rfl) ?_
          refine y_ld (x := .ref (154 + 4 * i)) rfl rfl (fun d => rfl) ?_
          refine y_gR (i := 5) rfl rfl rfl (ww_ob hC (i := i) (by omega)) rfl ?_
          refine y_ld (x := .ref pk) rfl rfl (fun d => rfl) ?_
          refine y_gI (i := 0) (e := a) rfl rfl rfl hP.1 rfl (by rw [v_up_ne (by omega)]; exact hP.2.1) ?_
          refine y_ild (x := (aPa (awS A a h κ n 1) a.toNat)) (q := a.toNat) rfl rfl (ww_a3 hC (i := i) (by omega)) (by omega) (by decide) (by omega) hR3.2.2.2.2.2 ?_
          refine y_ld (x := iv N) rfl rfl (fun d => rfl) ?_
          refine y_jle rfl rfl rfl (by omega) (fun g11 => ?_) (fun g11 => ?_)
          · refine y_ic rfl rfl ?_
            refine y_rI rfl (by decide) ?_
            refine k0 (fun q => ?_) _ hR2 (fun q hq => by rw [v_up_ne (by omega)])
            rcases q.2 with q | q | q | q | q
            · exact absurd q.1 (by decide)
            · exact absurd q.1 (by decide)
            · omega
            · exact absurd q.1 (by decide)
            · exact absurd q.1 (by decide)
          · refine y_ic rfl rfl ?_
            refine y_go rfl rfl ?_
            refine y_rI rfl (by decide) ?_
            exact k1 ⟨rfl, Or.inr (Or.inr (Or.inl ⟨rfl, by omega⟩))⟩ _ hR2 (fun q hq => by rw [v_up_ne (by omega)])
        · refine y_ld (x := iv 3) rfl rfl (fun d => rfl) ?_
          refine y_in (pc' := 207) rfl rfl (fun d => rfl) ?_
          refine y_ld (x := .ref (154 + 4 * i)) rfl rfl (fun d => rfl) ?_
          refine y_ld (x := .ref pk) rfl rfl (fun d => rfl) ?_
          refine y_gI (i := 0) (e := a) rfl rfl rfl hP.1 rfl (by rw [v_up_ne (by omega)]; exact hP.2.1) ?_
          refine y_iv (e' := ((a.toNat : Nat) : Int)) (by omega) ?_
          refine y_cV (as := [.ref (154 + 4 * i), iv ((a.toNat : Nat) : Int)]) rfl rfl rfl rfl rfl (ww_ob hC (i := i) (by omega)) ⟨rfl, (Nat.le_of_ble_eq_true rfl), (Nat.le_of_ble_eq_true rfl)⟩ (by decide) (cw_twice (x := a.toNat) hC hi hR2 hA2 (by omega) (fun hyes => ?_) (fun hno => ?_))
          · refine y_nv ?_
            refine y_rI rfl (by decide) ?_
            exact k1 ⟨rfl, Or.inr (Or.inr (Or.inr (Or.inl ⟨rfl, hyes⟩)))⟩ _ hR2 (fun q hq => by rw [v_up_ne (by omega)])
          · refine y_nv ?_
            refine y_rI rfl (by decide) ?_
            refine k0 (fun q => ?_) _ hR2 (fun q hq => by rw [v_up_ne (by omega)])
            rcases q.2 with q | q | q | q | q
            · exact absurd q.1 (by decide)
            · exact absurd q.1 (by decide)
            · exact absurd q.1 (by decide)
            · exact hno q.2
            · exact absurd q.1 (by decide)
        · cases hbb : aBr (awS A a h κ n 1) a.toNat
          · have hd := hR3.2.2.1.trans (congrArg b01 hbb)
            have hd : V (154 + 4 * i) 2 / 2 ^ a.toNat % 2 = 0 := by rw [← show (v_up V (154 + 4 * i + 3) a.toNat (aPa A a.toNat + 1)) (154 + 4 * i) 2 = V (154 + 4 * i) 2 by rw [v_up_ne (by omega)]]; exact hd
            refine y_ld (x := iv 4) rfl rfl (fun d => rfl) ?_
            refine y_in (pc' := 216) rfl rfl (fun d => rfl) ?_
            refine y_ld (x := .ref (154 + 4 * i)) rfl rfl (fun d => rfl) ?_
            refine y_gI (i := 2) (e := (V (154 + 4 * i) 2)) rfl rfl rfl (ww_ob hC (i := i) (by omega)) rfl (by rw [v_up_ne (by omega)]) ?_
            refine y_ld (x := iv (2 ^ a.toNat)) rfl rfl (fun d => rfl) ?_
            refine y_op (z := 0) rfl rfl (fun d => rfl) ((v_and2 (x := V (154 + 4 * i) 2) (k := a.toNat) (by omega) (by omega)).trans (by rw [hd, Int.mul_zero])) ?_
            refine y_zeq rfl rfl rfl (by decide) (fun g12 => ?_) (fun g12 => absurd g12 (by decide))
            refine y_ic rfl rfl ?_
            refine y_rI rfl (by decide) ?_
            refine k0 (fun q => ?_) _ hR2 (fun q hq => by rw [v_up_ne (by omega)])
            rcases q.2 with q | q | q | q | q
            · exact absurd q.1 (by decide)
            · exact absurd q.1 (by decide)
            · exact absurd q.1 (by decide)
            · exact absurd q.1 (by decide)
            · rw [hbb] at q; exact absurd q.2 (by decide)
          · have hd := hR3.2.2.1.trans (congrArg b01 hbb)
            have hd : V (154 + 4 * i) 2 / 2 ^ a.toNat % 2 = 1 := by rw [← show (v_up V (154 + 4 * i + 3) a.toNat (aPa A a.toNat + 1)) (154 + 4 * i) 2 = V (154 + 4 * i) 2 by rw [v_up_ne (by omega)]]; exact hd
            refine y_ld (x := iv 4) rfl rfl (fun d => rfl) ?_
            refine y_in (pc' := 216) rfl rfl (fun d => rfl) ?_
            refine y_ld (x := .ref (154 + 4 * i)) rfl rfl (fun d => rfl) ?_
            refine y_gI (i := 2) (e := (V (154 + 4 * i) 2)) rfl rfl rfl (ww_ob hC (i := i) (by omega)) rfl (by rw [v_up_ne (by omega)]) ?_
            refine y_ld (x := iv (2 ^ a.toNat)) rfl rfl (fun d => rfl) ?_
            refine y_op (z := (2 ^ a.toNat)) rfl rfl (fun d => rfl) ((v_and2 (x := V (154 + 4 * i) 2) (k := a.toNat) (by omega) (by omega)).trans (by rw [hd, Int.mul_one])) ?_
            refine y_zeq rfl rfl rfl (by omega) (fun g13 => absurd g13 (by omega)) (fun g13 => ?_)
            refine y_ic rfl rfl ?_
            refine y_go rfl rfl ?_
            refine y_rI rfl (by decide) ?_
            exact k1 ⟨rfl, Or.inr (Or.inr (Or.inr (Or.inr ⟨rfl, hbb⟩)))⟩ _ hR2 (fun q hq => by rw [v_up_ne (by omega)])
      · refine y_ld (x := .ref (154 + 4 * i)) rfl rfl (fun d => rfl) ?_
        refine y_in rfl rfl (fun d => rfl) ?_
        refine y_gI (i := 1) (e := (V (154 + 4 * i) 1)) rfl rfl rfl (ww_ob hC (i := i) (by omega)) rfl (by rw [v_up_ne (by omega)]) ?_
        refine y_ld (x := iv (2 ^ a.toNat)) rfl rfl (fun d => rfl) ?_
        refine y_ic rfl rfl ?_
        refine y_op (z := (4294967295 - 2 ^ a.toNat)) rfl rfl (fun d => rfl) (v_not (by omega)) ?_
        refine y_op (z := (v_x2 (V (154 + 4 * i) 1) a.toNat)) rfl rfl (fun d => rfl) (v_andn (by omega) (by omega)) ?_
        refine y_pI (i := 1) rfl rfl rfl (ww_ob hC (i := i) (by omega)) rfl rfl ?_
        have hR1 := RWs_p hR p1
        have hR2 : RWc (v_up (v_up V (154 + 4 * i + 3) a.toNat (aPa A a.toNat + 1)) (154 + 4 * i) 1 (v_x2 (V (154 + 4 * i) 1) a.toNat)) i (awS A a h κ n 1) := by rw [awS_2 (by omega)]; exact RWs_2 hR1 p1 (congrFun (v_up_ne (by omega)) 1)
        have hA2 := awO_S (h := h) (k := κ) (n := n) (t := a) (how := 1) hA hpk
        have hR3 := hR2.2 a.toNat (by omega)
        have hA3 := (hA2 a.toNat (by omega)).2.2
        rcases (show form = 0 ∨ form = 1 ∨ form = 2 ∨ form = 3 ∨ form = 4 by omega) with rfl | rfl | rfl | rfl | rfl
        · refine y_ld (x := iv 0) rfl rfl (fun d => rfl) ?_
          refine y_in (pc' := 152) rfl rfl (fun d => rfl) ?_
          refine y_ld (x := .ref pk) rfl rfl (fun d => rfl) ?_
          refine y_gI (i := 2) (e := κ) rfl rfl rfl hP.1 rfl (by rw [v_up_ne (by omega), v_up_ne (by omega)]; exact hP.2.2.2.1) ?_
          refine y_ic rfl rfl ?_
          refine y_jne rfl rfl rfl (by omega) (fun g14 => ?_) (fun g14 => absurd g14 (by omega))
          refine y_ic rfl rfl ?_
          refine y_rI rfl (by decide) ?_
          refine k0 (fun q => ?_) _ hR2 (fun q hq => by rw [v_up_ne (by omega), v_up_ne (by omega)])
          rcases q.2 with q | q | q | q | q
          · first | omega | (rw [hbb] at q; exact absurd q.2.2 (by decide))
          · exact absurd q.1 (by decide)
          · exact absurd q.1 (by decide)
          · exact absurd q.1 (by decide)
          · exact absurd q.1 (by decide)
        · refine y_ld (x := iv 1) rfl rfl (fun d => rfl) ?_
          refine y_in (pc' := 176) rfl rfl (fun d => rfl) ?_
          refine y_ld (x := .ref (154 + 4 * i)) rfl rfl (fun d => rfl) ?_
          refine y_ld (x := .ref pk) rfl rfl (fun d => rfl) ?_
          refine y_gI (i := 1) (e := h) rfl rfl rfl hP.1 rfl (by rw [v_up_ne (by omega), v_up_ne (by omega)]; exact hP.2.2.1) ?_
          refine y_ld (x := iv N) rfl rfl (fun d => rfl) ?_
          refine y_cV (as := [.ref (154 + 4 * i), iv h, iv N]) rfl rfl rfl rfl rfl (ww_ob hC (i := i) (by omega)) ⟨rfl, (Nat.le_of_ble_eq_true rfl), (Nat.le_of_ble_eq_true rfl)⟩ (by decide) (cw_opens hC hi hR2 hA2 (by omega) hN (fun hyes => ?_) (fun hno => ?_))
          · refine y_nv ?_
            refine y_rI rfl (by decide) ?_
            exact k1 ⟨rfl, Or.inr (Or.inl ⟨rfl, hyes⟩)⟩ _ hR2 (fun q hq => by rw [v_up_ne (by omega), v_up_ne (by omega)])
          · refine y_nv ?_
            refine y_rI rfl (by decide) ?_
            refine k0 (fun q => ?_) _ hR2 (fun q hq => by rw [v_up_ne (by omega), v_up_ne (by omega)])
            rcases q.2 with q | q | q | q | q
            · exact absurd q.1 (by decide)
            · exact hno q.2
            · exact absurd q.1 (by decide)
            · exact absurd q.1 (by decide)
            · exact absurd q.1 (by decide)
        · refine y_ld (x := iv 2) rfl rfl (fun d => rfl) ?_
          refine y_in (pc' := 187) rfl rfl (fun d => rfl) ?_
          refine y_ld (x := .ref (154 + 4 * i)) rfl rfl (fun d => rfl) ?_
          refine y_gR (i := 5) rfl rfl rfl (ww_ob hC (i := i) (by omega)) rfl ?_
          refine y_ld (x := .ref pk) rfl rfl (fun d => rfl) ?_
          refine y_gI (i := 0) (e := a) rfl rfl rfl hP.1 rfl (by rw [v_up_ne (by omega), v_up_ne (by omega)]; exact hP.2.1) ?_
          refine y_ild (x := (aPa (awS A a h κ n 1) a.toNat)) (q := a.toNat) rfl rfl (ww_a3 hC (i := i) (by omega)) (by omega) (by decide) (by omega) hR3.2.2.2.2.2 ?_
          refine y_ld (x := iv N) rfl rfl (fun d => rfl) ?_
          refine y_jle rfl rfl rfl (by omega) (fun g15 => ?_) (fun g15 => ?_)
          · refine y_ic rfl rfl ?_
            refine y_rI rfl (by decide) ?_
            refine k0 (fun q => ?_) _ hR2 (fun q hq => by rw [v_up_ne (by omega), v_up_ne (by omega)])
            rcases q.2 with q | q | q | q | q
            · exact absurd q.1 (by decide)
            · exact absurd q.1 (by decide)
            · omega
            · exact absurd q.1 (by decide)
            · exact absurd q.1 (by decide)
          · refine y_ic rfl rfl ?_
            refine y_go rfl rfl ?_
            refine y_rI rfl (by decide) ?_
            exact k1 ⟨rfl, Or.inr (Or.inr (Or.inl ⟨rfl, by omega⟩))⟩ _ hR2 (fun q hq => by rw [v_up_ne (by omega), v_up_ne (by omega)])
        · refine y_ld (x := iv 3) rfl rfl (fun d => rfl) ?_
          refine y_in (pc' := 207) rfl rfl (fun d => rfl) ?_
          refine y_ld (x := .ref (154 + 4 * i)) rfl rfl (fun d => rfl) ?_
          refine y_ld (x := .ref pk) rfl rfl (fun d => rfl) ?_
          refine y_gI (i := 0) (e := a) rfl rfl rfl hP.1 rfl (by rw [v_up_ne (by omega), v_up_ne (by omega)]; exact hP.2.1) ?_
          refine y_iv (e' := ((a.toNat : Nat) : Int)) (by omega) ?_
          refine y_cV (as := [.ref (154 + 4 * i), iv ((a.toNat : Nat) : Int)]) rfl rfl rfl rfl rfl (ww_ob hC (i := i) (by omega)) ⟨rfl, (Nat.le_of_ble_eq_true rfl), (Nat.le_of_ble_eq_true rfl)⟩ (by decide) (cw_twice (x := a.toNat) hC hi hR2 hA2 (by omega) (fun hyes => ?_) (fun hno => ?_))
          · refine y_nv ?_
            refine y_rI rfl (by decide) ?_
            exact k1 ⟨rfl, Or.inr (Or.inr (Or.inr (Or.inl ⟨rfl, hyes⟩)))⟩ _ hR2 (fun q hq => by rw [v_up_ne (by omega), v_up_ne (by omega)])
          · refine y_nv ?_
            refine y_rI rfl (by decide) ?_
            refine k0 (fun q => ?_) _ hR2 (fun q hq => by rw [v_up_ne (by omega), v_up_ne (by omega)])
            rcases q.2 with q | q | q | q | q
            · exact absurd q.1 (by decide)
            · exact absurd q.1 (by decide)
            · exact absurd q.1 (by decide)
            · exact hno q.2
            · exact absurd q.1 (by decide)
        · cases hbb : aBr (awS A a h κ n 1) a.toNat
          · have hd := hR3.2.2.1.trans (congrArg b01 hbb)
            have hd : V (154 + 4 * i) 2 / 2 ^ a.toNat % 2 = 0 := by rw [← show (v_up (v_up V (154 + 4 * i + 3) a.toNat (aPa A a.toNat + 1)) (154 + 4 * i) 1 (v_x2 (V (154 + 4 * i) 1) a.toNat)) (154 + 4 * i) 2 = V (154 + 4 * i) 2 by rw [v_up_ni (by decide), v_up_ne (by omega)]]; exact hd
            refine y_ld (x := iv 4) rfl rfl (fun d => rfl) ?_
            refine y_in (pc' := 216) rfl rfl (fun d => rfl) ?_
            refine y_ld (x := .ref (154 + 4 * i)) rfl rfl (fun d => rfl) ?_
            refine y_gI (i := 2) (e := (V (154 + 4 * i) 2)) rfl rfl rfl (ww_ob hC (i := i) (by omega)) rfl (by rw [v_up_ni (by omega), v_up_ne (by omega)]) ?_
            refine y_ld (x := iv (2 ^ a.toNat)) rfl rfl (fun d => rfl) ?_
            refine y_op (z := 0) rfl rfl (fun d => rfl) ((v_and2 (x := V (154 + 4 * i) 2) (k := a.toNat) (by omega) (by omega)).trans (by rw [hd, Int.mul_zero])) ?_
            refine y_zeq rfl rfl rfl (by decide) (fun g16 => ?_) (fun g16 => absurd g16 (by decide))
            refine y_ic rfl rfl ?_
            refine y_rI rfl (by decide) ?_
            refine k0 (fun q => ?_) _ hR2 (fun q hq => by rw [v_up_ne (by omega), v_up_ne (by omega)])
            rcases q.2 with q | q | q | q | q
            · exact absurd q.1 (by decide)
            · exact absurd q.1 (by decide)
            · exact absurd q.1 (by decide)
            · exact absurd q.1 (by decide)
            · rw [hbb] at q; exact absurd q.2 (by decide)
          · have hd := hR3.2.2.1.trans (congrArg b01 hbb)
            have hd : V (154 + 4 * i) 2 / 2 ^ a.toNat % 2 = 1 := by rw [← show (v_up (v_up V (154 + 4 * i + 3) a.toNat (aPa A a.toNat + 1)) (154 + 4 * i) 1 (v_x2 (V (154 + 4 * i) 1) a.toNat)) (154 + 4 * i) 2 = V (154 + 4 * i) 2 by rw [v_up_ni (by decide), v_up_ne (by omega)]]; exact hd
            refine y_ld (x := iv 4) rfl rfl (fun d => rfl) ?_
            refine y_in (pc' := 216) rfl rfl (fun d => rfl) ?_
            refine y_ld (x := .ref (154 + 4 * i)) rfl rfl (fun d => rfl) ?_
            refine y_gI (i := 2) (e := (V (154 + 4 * i) 2)) rfl rfl rfl (ww_ob hC (i := i) (by omega)) rfl (by rw [v_up_ni (by omega), v_up_ne (by omega)]) ?_
            refine y_ld (x := iv (2 ^ a.toNat)) rfl rfl (fun d => rfl) ?_
            refine y_op (z := (2 ^ a.toNat)) rfl rfl (fun d => rfl) ((v_and2 (x := V (154 + 4 * i) 2) (k := a.toNat) (by omega) (by omega)).trans (by rw [hd, Int.mul_one])) ?_
            refine y_zeq rfl rfl rfl (by omega) (fun g17 => absurd g17 (by omega)) (fun g17 => ?_)
            refine y_ic rfl rfl ?_
            refine y_go rfl rfl ?_
            refine y_rI rfl (by decide) ?_
            exact k1 ⟨rfl, Or.inr (Or.inr (Or.inr (Or.inr ⟨rfl, hbb⟩)))⟩ _ hR2 (fun q hq => by rw [v_up_ne (by omega), v_up_ne (by omega)])
    · refine y_ld (x := .ref (154 + 4 * i)) rfl rfl (fun d => rfl) ?_
      refine y_in rfl rfl (fun d => rfl) ?_
      refine y_gI (i := 0) (e := (V (154 + 4 * i) 0)) rfl rfl rfl (ww_ob hC (i := i) (by omega)) rfl (by rw [v_up_ne (by omega)]) ?_
      refine y_ld (x := iv (2 ^ a.toNat)) rfl rfl (fun d => rfl) ?_
      refine y_op (z := (v_o2 (V (154 + 4 * i) 0) a.toNat)) rfl rfl (fun d => rfl) (v_or_o2 (by omega) a.toNat) ?_
      refine y_pI (i := 0) rfl rfl rfl (ww_ob hC (i := i) (by omega)) rfl rfl ?_
      refine y_ld (x := .ref (154 + 4 * i)) rfl rfl (fun d => rfl) ?_
      refine y_in rfl rfl (fun d => rfl) ?_
      refine y_gI (i := 1) (e := (V (154 + 4 * i) 1)) rfl rfl rfl (ww_ob hC (i := i) (by omega)) rfl (by rw [v_up_ni (by omega), v_up_ne (by omega)]) ?_
      refine y_ld (x := iv (2 ^ a.toNat)) rfl rfl (fun d => rfl) ?_
      refine y_op (z := (v_o2 (V (154 + 4 * i) 1) a.toNat)) rfl rfl (fun d => rfl) (v_or_o2 (by omega) a.toNat) ?_
      refine y_pI (i := 1) rfl rfl rfl (ww_ob hC (i := i) (by omega)) rfl rfl ?_
      refine y_ld (x := .ref (154 + 4 * i)) rfl rfl (fun d => rfl) ?_
      refine y_gR (i := 3) rfl rfl rfl (ww_ob hC (i := i) (by omega)) rfl ?_
      refine y_ld (x := .ref pk) rfl rfl (fun d => rfl) ?_
      refine y_gI (i := 0) (e := a) rfl rfl rfl hP.1 rfl (by rw [v_up_ne (by omega), v_up_ne (by omega), v_up_ne (by omega)]; exact hP.2.1) ?_
      refine y_ld (x := .ref pk) rfl rfl (fun d => rfl) ?_
      refine y_gI (i := 1) (e := h) rfl rfl rfl hP.1 rfl (by rw [v_up_ne (by omega), v_up_ne (by omega), v_up_ne (by omega)]; exact hP.2.2.1) ?_
      refine y_ist (q := a.toNat) rfl rfl (ww_a1 hC (i := i) (by omega)) (by omega) (by decide) (by omega) ?_
      refine y_ld (x := .ref (154 + 4 * i)) rfl rfl (fun d => rfl) ?_
      refine y_gR (i := 4) rfl rfl rfl (ww_ob hC (i := i) (by omega)) rfl ?_
      refine y_ld (x := .ref pk) rfl rfl (fun d => rfl) ?_
      refine y_gI (i := 0) (e := a) rfl rfl rfl hP.1 rfl (by rw [v_up_ne (by omega), v_up_ne (by omega), v_up_ne (by omega), v_up_ne (by omega)]; exact hP.2.1) ?_
      refine y_ld (x := .ref pk) rfl rfl (fun d => rfl) ?_
      refine y_gI (i := 3) (e := n) rfl rfl rfl hP.1 rfl (by rw [v_up_ne (by omega), v_up_ne (by omega), v_up_ne (by omega), v_up_ne (by omega)]; exact hP.2.2.2.2) ?_
      refine y_ist (q := a.toNat) rfl rfl (ww_a2 hC (i := i) (by omega)) (by omega) (by decide) (by omega) ?_
      refine y_ld (x := .ref pk) rfl rfl (fun d => rfl) ?_
      refine y_gI (i := 2) (e := κ) rfl rfl rfl hP.1 rfl (by rw [v_up_ne (by omega), v_up_ne (by omega), v_up_ne (by omega), v_up_ne (by omega), v_up_ne (by omega)]; exact hP.2.2.2.1) ?_
      refine y_ic rfl rfl ?_
      refine y_jne rfl rfl rfl (by omega) (fun g18 => ?_) (fun g18 => absurd g18 (by omega))
      have hR1 := RWs_p hR p1
      have hR2 : RWc (v_up (v_up (v_up (v_up (v_up V (154 + 4 * i + 3) a.toNat (aPa A a.toNat + 1)) (154 + 4 * i) 0 (v_o2 (V (154 + 4 * i) 0) a.toNat)) (154 + 4 * i) 1 (v_o2 (V (154 + 4 * i) 1) a.toNat)) (154 + 4 * i + 1) a.toNat h) (154 + 4 * i + 2) a.toNat n) i (awS A a h κ n 1) := by rw [awS_0 (by omega)]; exact RWs_0 hR1 p1 (congrFun (v_up_ne (by omega)) 0) (congrFun (v_up_ne (by omega)) 1)
      have hA2 := awO_S (h := h) (k := κ) (n := n) (t := a) (how := 1) hA hpk
      have hR3 := hR2.2 a.toNat (by omega)
      have hA3 := (hA2 a.toNat (by omega)).2.2
      rcases (show form = 0 ∨ form = 1 ∨ form = 2 ∨ form = 3 ∨ form = 4 by omega) with rfl | rfl | rfl | rfl | rfl
      · refine y_ld (x := iv 0) rfl rfl (fun d => rfl) ?_
        refine y_in (pc' := 152) rfl rfl (fun d => rfl) ?_
        refine y_ld (x := .ref pk) rfl rfl (fun d => rfl) ?_
        refine y_gI (i := 2) (e := κ) rfl rfl rfl hP.1 rfl (by rw [v_up_ne (by omega), v_up_ne (by omega), v_up_ne (by omega), v_up_ne (by omega), v_up_ne (by omega)]; exact hP.2.2.2.1) ?_
        refine y_ic rfl rfl ?_
        refine y_jne rfl rfl rfl (by omega) (fun g19 => ?_) (fun g19 => absurd g19 (by omega))
        refine y_ic rfl rfl ?_
        refine y_rI rfl (by decide) ?_
        refine k0 (fun q => ?_) _ hR2 (fun q hq => by rw [v_up_ne (by omega), v_up_ne (by omega), v_up_ne (by omega), v_up_ne (by omega), v_up_ne (by omega)])
        rcases q.2 with q | q | q | q | q
        · first | omega | (rw [hbb] at q; exact absurd q.2.2 (by decide))
        · exact absurd q.1 (by decide)
        · exact absurd q.1 (by decide)
        · exact absurd q.1 (by decide)
        · exact absurd q.1 (by decide)
      · refine y_ld (x := iv 1) rfl rfl (fun d => rfl) ?_
        refine y_in (pc' := 176) rfl rfl (fun d => rfl) ?_
        refine y_ld (x := .ref (154 + 4 * i)) rfl rfl (fun d => rfl) ?_
        refine y_ld (x := .ref pk) rfl rfl (fun d => rfl) ?_
        refine y_gI (i := 1) (e := h) rfl rfl rfl hP.1 rfl (by rw [v_up_ne (by omega), v_up_ne (by omega), v_up_ne (by omega), v_up_ne (by omega), v_up_ne (by omega)]; exact hP.2.2.1) ?_
        refine y_ld (x := iv N) rfl rfl (fun d => rfl) ?_
        refine y_cV (as := [.ref (154 + 4 * i), iv h, iv N]) rfl rfl rfl rfl rfl (ww_ob hC (i := i) (by omega)) ⟨rfl, (Nat.le_of_ble_eq_true rfl), (Nat.le_of_ble_eq_true rfl)⟩ (by decide) (cw_opens hC hi hR2 hA2 (by omega) hN (fun hyes => ?_) (fun hno => ?_))
        · refine y_nv ?_
          refine y_rI rfl (by decide) ?_
          exact k1 ⟨rfl, Or.inr (Or.inl ⟨rfl, hyes⟩)⟩ _ hR2 (fun q hq => by rw [v_up_ne (by omega), v_up_ne (by omega), v_up_ne (by omega), v_up_ne (by omega), v_up_ne (by omega)])
        · refine y_nv ?_
          refine y_rI rfl (by decide) ?_
          refine k0 (fun q => ?_) _ hR2 (fun q hq => by rw [v_up_ne (by omega), v_up_ne (by omega), v_up_ne (by omega), v_up_ne (by omega), v_up_ne (by omega)])
          rcases q.2 with q | q | q | q | q
          · exact absurd q.1 (by decide)
          · exact hno q.2
          · exact absurd q.1 (by decide)
          · exact absurd q.1 (by decide)
          · exact absurd q.1 (by decide)
      · refine y_ld (x := iv 2) rfl rfl (fun d => rfl) ?_
        refine y_in (pc' := 187) rfl rfl (fun d => rfl) ?_
        refine y_ld (x := .ref (154 + 4 * i)) rfl rfl (fun d => rfl) ?_
        refine y_gR (i := 5) rfl rfl rfl (ww_ob hC (i := i) (by omega)) rfl ?_
        refine y_ld (x := .ref pk) rfl rfl (fun d => rfl) ?_
        refine y_gI (i := 0) (e := a) rfl rfl rfl hP.1 rfl (by rw [v_up_ne (by omega), v_up_ne (by omega), v_up_ne (by omega), v_up_ne (by omega), v_up_ne (by omega)]; exact hP.2.1) ?_
        refine y_ild (x := (aPa (awS A a h κ n 1) a.toNat)) (q := a.toNat) rfl rfl (ww_a3 hC (i := i) (by omega)) (by omega) (by decide) (by omega) hR3.2.2.2.2.2 ?_
        refine y_ld (x := iv N) rfl rfl (fun d => rfl) ?_
        refine y_jle rfl rfl rfl (by omega) (fun g20 => ?_) (fun g20 => ?_)
        · refine y_ic rfl rfl ?_
          refine y_rI rfl (by decide) ?_
          refine k0 (fun q => ?_) _ hR2 (fun q hq => by rw [v_up_ne (by omega), v_up_ne (by omega), v_up_ne (by omega), v_up_ne (by omega), v_up_ne (by omega)])
          rcases q.2 with q | q | q | q | q
          · exact absurd q.1 (by decide)
          · exact absurd q.1 (by decide)
          · omega
          · exact absurd q.1 (by decide)
          · exact absurd q.1 (by decide)
        · refine y_ic rfl rfl ?_
          refine y_go rfl rfl ?_
          refine y_rI rfl (by decide) ?_
          exact k1 ⟨rfl, Or.inr (Or.inr (Or.inl ⟨rfl, by omega⟩))⟩ _ hR2 (fun q hq => by rw [v_up_ne (by omega), v_up_ne (by omega), v_up_ne (by omega), v_up_ne (by omega), v_up_ne (by omega)])
      · refine y_ld (x := iv 3) rfl rfl (fun d => rfl) ?_
        refine y_in (pc' := 207) rfl rfl (fun d => rfl) ?_
        refine y_ld (x := .ref (154 + 4 * i)) rfl rfl (fun d => rfl) ?_
        refine y_ld (x := .ref pk) rfl rfl (fun d => rfl) ?_
        refine y_gI (i := 0) (e := a) rfl rfl rfl hP.1 rfl (by rw [v_up_ne (by omega), v_up_ne (by omega), v_up_ne (by omega), v_up_ne (by omega), v_up_ne (by omega)]; exact hP.2.1) ?_
        refine y_iv (e' := ((a.toNat : Nat) : Int)) (by omega) ?_
        refine y_cV (as := [.ref (154 + 4 * i), iv ((a.toNat : Nat) : Int)]) rfl rfl rfl rfl rfl (ww_ob hC (i := i) (by omega)) ⟨rfl, (Nat.le_of_ble_eq_true rfl), (Nat.le_of_ble_eq_true rfl)⟩ (by decide) (cw_twice (x := a.toNat) hC hi hR2 hA2 (by omega) (fun hyes => ?_) (fun hno => ?_))
        · refine y_nv ?_
          refine y_rI rfl (by decide) ?_
          exact k1 ⟨rfl, Or.inr (Or.inr (Or.inr (Or.inl ⟨rfl, hyes⟩)))⟩ _ hR2 (fun q hq => by rw [v_up_ne (by omega), v_up_ne (by omega), v_up_ne (by omega), v_up_ne (by omega), v_up_ne (by omega)])
        · refine y_nv ?_
          refine y_rI rfl (by decide) ?_
          refine k0 (fun q => ?_) _ hR2 (fun q hq => by rw [v_up_ne (by omega), v_up_ne (by omega), v_up_ne (by omega), v_up_ne (by omega), v_up_ne (by omega)])
          rcases q.2 with q | q | q | q | q
          · exact absurd q.1 (by decide)
          · exact absurd q.1 (by decide)
          · exact absurd q.1 (by decide)
          · exact hno q.2
          · exact absurd q.1 (by decide)
      · cases hbb : aBr (awS A a h κ n 1) a.toNat
        · have hd := hR3.2.2.1.trans (congrArg b01 hbb)
          have hd : V (154 + 4 * i) 2 / 2 ^ a.toNat % 2 = 0 := by rw [← show (v_up (v_up (v_up (v_up (v_up V (154 + 4 * i + 3) a.toNat (aPa A a.toNat + 1)) (154 + 4 * i) 0 (v_o2 (V (154 + 4 * i) 0) a.toNat)) (154 + 4 * i) 1 (v_o2 (V (154 + 4 * i) 1) a.toNat)) (154 + 4 * i + 1) a.toNat h) (154 + 4 * i + 2) a.toNat n) (154 + 4 * i) 2 = V (154 + 4 * i) 2 by rw [v_up_ne (by omega), v_up_ne (by omega), v_up_ni (by decide), v_up_ni (by decide), v_up_ne (by omega)]]; exact hd
          refine y_ld (x := iv 4) rfl rfl (fun d => rfl) ?_
          refine y_in (pc' := 216) rfl rfl (fun d => rfl) ?_
          refine y_ld (x := .ref (154 + 4 * i)) rfl rfl (fun d => rfl) ?_
          refine y_gI (i := 2) (e := (V (154 + 4 * i) 2)) rfl rfl rfl (ww_ob hC (i := i) (by omega)) rfl (by rw [v_up_ne (by omega), v_up_ne (by omega), v_up_ni (by omega), v_up_ni (by omega), v_up_ne (by omega)]) ?_
          refine y_ld (x := iv (2 ^ a.toNat)) rfl rfl (fun d => rfl) ?_
          refine y_op (z := 0) rfl rfl (fun d => rfl) ((v_and2 (x := V (154 + 4 * i) 2) (k := a.toNat) (by omega) (by omega)).trans (by rw [hd, Int.mul_zero])) ?_
          refine y_zeq rfl rfl rfl (by decide) (fun g21 => ?_) (fun g21 => absurd g21 (by decide))
          refine y_ic rfl rfl ?_
          refine y_rI rfl (by decide) ?_
          refine k0 (fun q => ?_) _ hR2 (fun q hq => by rw [v_up_ne (by omega), v_up_ne (by omega), v_up_ne (by omega), v_up_ne (by omega), v_up_ne (by omega)])
          rcases q.2 with q | q | q | q | q
          · exact absurd q.1 (by decide)
          · exact absurd q.1 (by decide)
          · exact absurd q.1 (by decide)
          · exact absurd q.1 (by decide)
          · rw [hbb] at q; exact absurd q.2 (by decide)
        · have hd := hR3.2.2.1.trans (congrArg b01 hbb)
          have hd : V (154 + 4 * i) 2 / 2 ^ a.toNat % 2 = 1 := by rw [← show (v_up (v_up (v_up (v_up (v_up V (154 + 4 * i + 3) a.toNat (aPa A a.toNat + 1)) (154 + 4 * i) 0 (v_o2 (V (154 + 4 * i) 0) a.toNat)) (154 + 4 * i) 1 (v_o2 (V (154 + 4 * i) 1) a.toNat)) (154 + 4 * i + 1) a.toNat h) (154 + 4 * i + 2) a.toNat n) (154 + 4 * i) 2 = V (154 + 4 * i) 2 by rw [v_up_ne (by omega), v_up_ne (by omega), v_up_ni (by decide), v_up_ni (by decide), v_up_ne (by omega)]]; exact hd
          refine y_ld (x := iv 4) rfl rfl (fun d => rfl) ?_
          refine y_in (pc' := 216) rfl rfl (fun d => rfl) ?_
          refine y_ld (x := .ref (154 + 4 * i)) rfl rfl (fun d => rfl) ?_
          refine y_gI (i := 2) (e := (V (154 + 4 * i) 2)) rfl rfl rfl (ww_ob hC (i := i) (by omega)) rfl (by rw [v_up_ne (by omega), v_up_ne (by omega), v_up_ni (by omega), v_up_ni (by omega), v_up_ne (by omega)]) ?_
          refine y_ld (x := iv (2 ^ a.toNat)) rfl rfl (fun d => rfl) ?_
          refine y_op (z := (2 ^ a.toNat)) rfl rfl (fun d => rfl) ((v_and2 (x := V (154 + 4 * i) 2) (k := a.toNat) (by omega) (by omega)).trans (by rw [hd, Int.mul_one])) ?_
          refine y_zeq rfl rfl rfl (by omega) (fun g22 => absurd g22 (by omega)) (fun g22 => ?_)
          refine y_ic rfl rfl ?_
          refine y_go rfl rfl ?_
          refine y_rI rfl (by decide) ?_
          exact k1 ⟨rfl, Or.inr (Or.inr (Or.inr (Or.inr ⟨rfl, hbb⟩)))⟩ _ hR2 (fun q hq => by rw [v_up_ne (by omega), v_up_ne (by omega), v_up_ne (by omega), v_up_ne (by omega), v_up_ne (by omega)])
  · refine y_ic rfl rfl ?_
    refine y_ld (x := .ref pk) rfl rfl (fun d => rfl) ?_
    refine y_gI (i := 0) (e := a) rfl rfl rfl hP.1 rfl hP.2.1 ?_
    refine y_op (z := (2 ^ a.toNat)) rfl rfl (fun d => rfl) (v_shl1 (k := a) (by omega)) ?_
    refine y_st (lv' := [(5, iv (2 ^ a.toNat)), (0, .ref (154 + 4 * i)), (1, .ref pk), (2, iv 2), (3, iv form), (4, iv N)]) rfl rfl (fun d => rfl) ?_
    refine y_ld (x := iv 2) rfl rfl (fun d => rfl) ?_
    refine y_ic rfl rfl ?_
    refine y_jne rfl rfl rfl (by decide) (fun g23 => absurd g23 (by decide)) (fun g23 => ?_)
    refine y_ld (x := .ref (154 + 4 * i)) rfl rfl (fun d => rfl) ?_
    refine y_in rfl rfl (fun d => rfl) ?_
    refine y_gI (i := 2) (e := (V (154 + 4 * i) 2)) rfl rfl rfl (ww_ob hC (i := i) (by omega)) rfl rfl ?_
    refine y_ld (x := iv (2 ^ a.toNat)) rfl rfl (fun d => rfl) ?_
    refine y_op (z := (v_o2 (V (154 + 4 * i) 2) a.toNat)) rfl rfl (fun d => rfl) (v_or_o2 (by omega) a.toNat) ?_
    refine y_pI (i := 2) rfl rfl rfl (ww_ob hC (i := i) (by omega)) rfl rfl ?_
    refine y_ld (x := iv 2) rfl rfl (fun d => rfl) ?_
    refine y_ic rfl rfl ?_
    refine y_jeq rfl rfl rfl (by decide) (fun g24 => absurd g24 (by decide)) (fun g24 => ?_)
    refine y_ic rfl rfl ?_
    refine y_rI rfl (by decide) ?_
    exact k0 (fun q => absurd q.1 (by decide)) _ (RWs_b hR p1) (fun q hq => by rw [v_up_ne (by omega)])
end
