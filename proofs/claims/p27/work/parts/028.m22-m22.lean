/-! a PROMISE behind one packet: the reference -/
section
variable {X : Nat → List Int32} {u w : Nat} {S : m_H} {V : v_V} {K : v_K}
def FrQ (V V2 : v_V) : Prop := (∀ k, k < 183 ∨ 188 < k → V2 k = V k)
theorem RWm_up {V V2 : v_V} {A A' : Aw} {c : Nat} (hR : RWm V A) (h1 : ∀ t : Nat, t < 16 → t ≠ c → V2 183 t = V 183 t ∧ V2 184 t = V 184 t ∧ V2 185 t = V 185 t ∧ V2 186 t = V 186 t ∧ V2 187 t = V 187 t ∧ V2 188 t = V 188 t) (h2 : ∀ t : Nat, t ≠ c → aBg A' t = aBg A t ∧ aOp A' t = aOp A t ∧ aBr A' t = aBr A t ∧ aHo A' t = aHo A t ∧ aNu A' t = aNu A t ∧ aPa A' t = aPa A t)
    (h3 : V2 183 c = b01 (aBg A' c) ∧ V2 184 c = b01 (aOp A' c) ∧ V2 185 c = b01 (aBr A' c) ∧ V2 188 c = aPa A' c ∧ (aOp A' c = true → V2 186 c = aHo A' c ∧ V2 187 c = aNu A' c)) : RWm V2 A' := by
  intro t ht
  by_cases hc : t = c
  · rw [hc]; exact h3
  · obtain ⟨a1, a2, a3, a4, a5, a6⟩ := h1 t ht hc
    obtain ⟨b1, b2, b3, b4, b5, b6⟩ := h2 t hc
    rw [a1, a2, a3, a4, a5, a6, b1, b2, b3, b4, b5, b6]
    exact hR t ht
theorem awS_fr {A : Aw} {t h k n how : Int} {s : Nat} (hs : s ≠ t.toNat) : aBg (awS A t h k n how) s = aBg A s ∧ aOp (awS A t h k n how) s = aOp A s ∧ aBr (awS A t h k n how) s = aBr A s ∧ aHo (awS A t h k n how) s = aHo A s ∧ aNu (awS A t h k n how) s = aNu A s ∧ aPa (awS A t h k n how) s = aPa A s := by
  unfold awS
  split
  · exact ⟨rfl, rfl, uB_ne hs, rfl, rfl, rfl⟩
  split
  · split
    · exact ⟨uB_ne hs, uB_ne hs, rfl, v_uf_ne hs, v_uf_ne hs, v_uf_ne hs⟩
    split
    · exact ⟨rfl, uB_ne hs, rfl, rfl, rfl, v_uf_ne hs⟩
    · exact ⟨rfl, rfl, rfl, rfl, rfl, v_uf_ne hs⟩
  · exact ⟨rfl, rfl, rfl, rfl, rfl, rfl⟩
set_option maxRecDepth 100000 in
set_option maxHeartbeats 4000000 in
theorem lk_body (hM : MdS S) {A : Aw} {j : Nat} (hR : RWm V A) (hA : awO j A) (hj : j ≤ 90) {a h κ n form N how : Int} (hpk : pkO a h κ n) (hP : PkM V a h κ n) (hw : 0 ≤ how ∧ how ≤ 2) (hf : 0 ≤ form ∧ form ≤ 4) (hN : 0 ≤ N ∧ N ≤ 99) {F : Nat} {v1 v4 : Int} (kv : vioM (awS A a h κ n how) a κ how form N → ∀ V2, FrQ V V2 → K u w (some (iv 0)) S V2) (kk : ¬ vioM (awS A a h κ n how) a κ how form N → ∀ V2, RWm V2 (awS A a h κ n how) → FrQ V V2 → y_E X 8 157 F u w 266 [(0, .ref 170), (1, iv v1), (2, iv form), (3, iv N), (4, iv v4)] [] S V2 K) : y_E X 8 157 (F + 300) u w 74 [(0, .ref 170), (1, iv v1), (2, iv form), (3, iv N), (4, iv v4), (5, iv how)] [] S V K := by
  have hpo := hpk
  obtain ⟨p1, p2, p3, p4⟩ := hpo
  obtain ⟨b1, b2, b3, b4, b5⟩ := hR a.toNat (by omega)
  obtain ⟨o1, o2, o3⟩ := hA a.toNat (by omega)
  rcases (show how = 0 ∨ how = 1 ∨ how = 2 by omega) with rfl | rfl | rfl
  · refine y_ld (x := iv 0) rfl rfl (fun d => rfl) ?_
    refine y_ic rfl rfl ?_
    refine y_jne rfl rfl rfl (by decide) (fun g1 => ?_) (fun g1 => absurd g1 (by decide))
    refine y_ld (x := .ref 170) rfl rfl (fun d => rfl) ?_
    refine y_gR (i := 30) rfl rfl rfl (md170 hM) rfl ?_
    refine y_ld (x := .ref 170) rfl rfl (fun d => rfl) ?_
    refine y_gI (i := 17) (e := a) rfl rfl rfl (md170 hM) rfl hP.1 ?_
    refine y_ld (x := .ref 170) rfl rfl (fun d => rfl) ?_
    refine y_gR (i := 30) rfl rfl rfl (md170 hM) rfl ?_
    refine y_ld (x := .ref 170) rfl rfl (fun d => rfl) ?_
    refine y_gI (i := 17) (e := a) rfl rfl rfl (md170 hM) rfl hP.1 ?_
    cases h_br : aBr A a.toNat
    · refine y_bld (x := 0) (q := a.toNat) rfl rfl (md185 hM) (by omega) (by decide) (by omega) (by exact b3.trans (by rw [h_br]; rfl)) ?_
      refine y_zne rfl rfl rfl (by decide) (fun g2 => absurd g2 (by decide)) (fun g2 => ?_)
      refine y_ld (x := iv 0) rfl rfl (fun d => rfl) ?_
      refine y_ic rfl rfl ?_
      refine y_jne rfl rfl rfl (by decide) (fun g3 => ?_) (fun g3 => absurd g3 (by decide))
      refine y_ic rfl rfl ?_
      refine y_bst (q := a.toNat) rfl rfl (md185 hM) (by omega) (by decide) (by omega) (by decide) ?_
      have eA : awS A a h κ n 0 = _ := awS_n
      have hR2 : RWm (v_up V 185 a.toNat 0) (awS A a h κ n 0) := by
        refine RWm_up (c := a.toNat) hR (fun t ht hc => ⟨(by rw [v_up_ne (by decide)]), (by rw [v_up_ne (by decide)]), (by rw [v_up_ni hc]), (by rw [v_up_ne (by decide)]), (by rw [v_up_ne (by decide)]), (by rw [v_up_ne (by decide)])⟩) (fun t hc => awS_fr hc) ?_
        rw [eA]
        exact ⟨(by rw [v_up_ne (by decide)]; exact b1), (by rw [v_up_ne (by decide)]; exact b2), (by rw [v_up_eq]; exact (congrArg b01 h_br).symm), (by rw [v_up_ne (by decide)]; exact b4), (fun q => ⟨by rw [v_up_ne (by decide)]; exact (b5 q).1, by rw [v_up_ne (by decide)]; exact (b5 q).2⟩)⟩
      have hA2 := awO_S (t := a) (h := h) (k := κ) (n := n) (how := 0) hA hpk
      have hfq : FrQ V (v_up V 185 a.toNat 0) := fun k hk => by rw [v_up_ne (by omega)]
      refine y_ld (x := .ref 170) rfl rfl (fun d => rfl) ?_
      refine y_ld (x := iv form) rfl rfl (fun d => rfl) ?_
      refine y_ld (x := iv N) rfl rfl (fun d => rfl) ?_
      refine y_cV (as := [.ref 170, iv form, iv N]) rfl rfl rfl rfl rfl (md170 hM) ⟨rfl, (Nat.le_of_ble_eq_true rfl), (Nat.le_of_ble_eq_true rfl)⟩ (by decide) (ct_isKept hM hR2 hA2 (by omega) p1 hf hN (by rw [v_up_ne (by decide)]; exact hP.1) (fun hkp => ?_) (fun hkp => ?_))
      · refine y_nv ?_
        refine y_zne rfl rfl rfl (by decide) (fun g4 => ?_) (fun g4 => absurd g4 (by decide))
        refine y_lv (l' := [(0, .ref 170), (1, iv v1), (2, iv form), (3, iv N), (4, iv v4)]) rfl ⟨rfl, rfl, rfl, rfl, rfl, trivial⟩ ?_
        refine y_mono (kk (fun q => ?_) _ hR2 hfq) (by omega)
        rcases q with q | q
        · exact absurd q.1 (by decide)
        · exact q hkp
      · refine y_nv ?_
        refine y_zne rfl rfl rfl (by decide) (fun g5 => absurd g5 (by decide)) (fun g5 => ?_)
        refine y_ic rfl rfl ?_
        refine y_rI rfl (by decide) ?_
        exact kv (Or.inr hkp) _ hfq
    · refine y_bld (x := 1) (q := a.toNat) rfl rfl (md185 hM) (by omega) (by decide) (by omega) (by exact b3.trans (by rw [h_br]; rfl)) ?_
      refine y_zne rfl rfl rfl (by decide) (fun g6 => ?_) (fun g6 => absurd g6 (by decide))
      refine y_ic rfl rfl ?_
      refine y_go rfl rfl ?_
      refine y_bst (q := a.toNat) rfl rfl (md185 hM) (by omega) (by decide) (by omega) (by decide) ?_
      have eA : awS A a h κ n 0 = _ := awS_n
      have hR2 : RWm (v_up V 185 a.toNat 1) (awS A a h κ n 0) := by
        refine RWm_up (c := a.toNat) hR (fun t ht hc => ⟨(by rw [v_up_ne (by decide)]), (by rw [v_up_ne (by decide)]), (by rw [v_up_ni hc]), (by rw [v_up_ne (by decide)]), (by rw [v_up_ne (by decide)]), (by rw [v_up_ne (by decide)])⟩) (fun t hc => awS_fr hc) ?_
        rw [eA]
        exact ⟨(by rw [v_up_ne (by decide)]; exact b1), (by rw [v_up_ne (by decide)]; exact b2), (by rw [v_up_eq]; exact (congrArg b01 h_br).symm), (by rw [v_up_ne (by decide)]; exact b4), (fun q => ⟨by rw [v_up_ne (by decide)]; exact (b5 q).1, by rw [v_up_ne (by decide)]; exact (b5 q).2⟩)⟩
      have hA2 := awO_S (t := a) (h := h) (k := κ) (n := n) (how := 0) hA hpk
      have hfq : FrQ V (v_up V 185 a.toNat 1) := fun k hk => by rw [v_up_ne (by omega)]
      refine y_ld (x := .ref 170) rfl rfl (fun d => rfl) ?_
      refine y_ld (x := iv form) rfl rfl (fun d => rfl) ?_
      refine y_ld (x := iv N) rfl rfl (fun d => rfl) ?_
      refine y_cV (as := [.ref 170, iv form, iv N]) rfl rfl rfl rfl rfl (md170 hM) ⟨rfl, (Nat.le_of_ble_eq_true rfl), (Nat.le_of_ble_eq_true rfl)⟩ (by decide) (ct_isKept hM hR2 hA2 (by omega) p1 hf hN (by rw [v_up_ne (by decide)]; exact hP.1) (fun hkp => ?_) (fun hkp => ?_))
      · refine y_nv ?_
        refine y_zne rfl rfl rfl (by decide) (fun g7 => ?_) (fun g7 => absurd g7 (by decide))
        refine y_lv (l' := [(0, .ref 170), (1, iv v1), (2, iv form), (3, iv N), (4, iv v4)]) rfl ⟨rfl, rfl, rfl, rfl, rfl, trivial⟩ ?_
        refine y_mono (kk (fun q => ?_) _ hR2 hfq) (by omega)
        rcases q with q | q
        · exact absurd q.1 (by decide)
        · exact q hkp
      · refine y_nv ?_
        refine y_zne rfl rfl rfl (by decide) (fun g8 => absurd g8 (by decide)) (fun g8 => ?_)
        refine y_ic rfl rfl ?_
        refine y_rI rfl (by decide) ?_
        exact kv (Or.inr hkp) _ hfq
  · refine y_ld (x := iv 1) rfl rfl (fun d => rfl) ?_
    refine y_ic rfl rfl ?_
    refine y_jne rfl rfl rfl (by decide) (fun g9 => absurd g9 (by decide)) (fun g9 => ?_)
    refine y_ld (x := .ref 170) rfl rfl (fun d => rfl) ?_
    refine y_gR (i := 33) rfl rfl rfl (md170 hM) rfl ?_
    refine y_ld (x := .ref 170) rfl rfl (fun d => rfl) ?_
    refine y_gI (i := 17) (e := a) rfl rfl rfl (md170 hM) rfl hP.1 ?_
    refine y_in rfl rfl (fun d => rfl) ?_
    refine y_ild (x := (aPa A a.toNat)) (q := a.toNat) rfl rfl (md188 hM) (by omega) (by decide) (by omega) b4 ?_
    refine y_ic rfl rfl ?_
    refine y_add (z := (aPa A a.toNat + 1)) rfl rfl (by omega) ?_
    refine y_ist (q := a.toNat) rfl rfl (md188 hM) (by omega) (by decide) (by omega) ?_
    refine y_ld (x := iv form) rfl rfl (fun d => rfl) ?_
    refine y_zne rfl rfl rfl (by omega) (fun g10 => ?_) (fun g10 => ?_)
    · refine y_ld (x := iv form) rfl rfl (fun d => rfl) ?_
      refine y_ic rfl rfl ?_
      refine y_jne rfl rfl rfl (by omega) (fun g11 => ?_) (fun g11 => ?_)
      · refine y_ld (x := .ref 170) rfl rfl (fun d => rfl) ?_
        refine y_gI (i := 19) (e := κ) rfl rfl rfl (md170 hM) rfl hP.2.2.1 ?_
        refine y_zne rfl rfl rfl (by omega) (fun g12 => ?_) (fun g12 => ?_)
        · refine y_ld (x := .ref 170) rfl rfl (fun d => rfl) ?_
          refine y_gR (i := 29) rfl rfl rfl (md170 hM) rfl ?_
          refine y_ld (x := .ref 170) rfl rfl (fun d => rfl) ?_
          refine y_gI (i := 17) (e := a) rfl rfl rfl (md170 hM) rfl hP.1 ?_
          refine y_ld (x := .ref 170) rfl rfl (fun d => rfl) ?_
          refine y_gR (i := 29) rfl rfl rfl (md170 hM) rfl ?_
          refine y_ld (x := .ref 170) rfl rfl (fun d => rfl) ?_
          refine y_gI (i := 17) (e := a) rfl rfl rfl (md170 hM) rfl hP.1 ?_
          cases h_op : aOp A a.toNat
          · refine y_bld (x := 0) (q := a.toNat) rfl rfl (md184 hM) (by omega) (by decide) (by omega) (by rw [v_up_ne (by decide)]; exact b2.trans (by rw [h_op]; rfl)) ?_
            refine y_zeq rfl rfl rfl (by decide) (fun g13 => ?_) (fun g13 => absurd g13 (by decide))
            refine y_ic rfl rfl ?_
            refine y_bst (q := a.toNat) rfl rfl (md184 hM) (by omega) (by decide) (by omega) (by decide) ?_
            refine y_ld (x := .ref 170) rfl rfl (fun d => rfl) ?_
            refine y_gR (i := 30) rfl rfl rfl (md170 hM) rfl ?_
            refine y_ld (x := .ref 170) rfl rfl (fun d => rfl) ?_
            refine y_gI (i := 17) (e := a) rfl rfl rfl (md170 hM) rfl hP.1 ?_
            refine y_ld (x := .ref 170) rfl rfl (fun d => rfl) ?_
            refine y_gR (i := 30) rfl rfl rfl (md170 hM) rfl ?_
            refine y_ld (x := .ref 170) rfl rfl (fun d => rfl) ?_
            refine y_gI (i := 17) (e := a) rfl rfl rfl (md170 hM) rfl hP.1 ?_
            cases h_br : aBr A a.toNat
            · refine y_bld (x := 0) (q := a.toNat) rfl rfl (md185 hM) (by omega) (by decide) (by omega) (by rw [v_up_ne (by decide), v_up_ne (by decide)]; exact b3.trans (by rw [h_br]; rfl)) ?_
              refine y_zne rfl rfl rfl (by decide) (fun g14 => absurd g14 (by decide)) (fun g14 => ?_)
              refine y_ld (x := iv 1) rfl rfl (fun d => rfl) ?_
              refine y_ic rfl rfl ?_
              refine y_jne rfl rfl rfl (by decide) (fun g15 => ?_) (fun g15 => absurd g15 (by decide))
              refine y_ic rfl rfl ?_
              refine y_bst (q := a.toNat) rfl rfl (md185 hM) (by omega) (by decide) (by omega) (by decide) ?_
              by_cases hk2 : κ = 2
              · have eA : awS A a h κ n 1 = _ := awS_2 hk2
                have hR2 : RWm (v_up (v_up (v_up V 188 a.toNat (aPa A a.toNat + 1)) 184 a.toNat 0) 185 a.toNat 0) (awS A a h κ n 1) := by
                  refine RWm_up (c := a.toNat) hR (fun t ht hc => ⟨(by rw [v_up_ne (by decide), v_up_ne (by decide), v_up_ne (by decide)]), (by rw [v_up_ne (by decide), v_up_ni hc, v_up_ne (by decide)]), (by rw [v_up_ni hc, v_up_ne (by decide), v_up_ne (by decide)]), (by rw [v_up_ne (by decide), v_up_ne (by decide), v_up_ne (by decide)]), (by rw [v_up_ne (by decide), v_up_ne (by decide), v_up_ne (by decide)]), (by rw [v_up_ne (by decide), v_up_ne (by decide), v_up_ni hc])⟩) (fun t hc => awS_fr hc) ?_
                  rw [eA]
                  exact ⟨(by rw [v_up_ne (by decide), v_up_ne (by decide), v_up_ne (by decide)]; exact b1), (by rw [v_up_ne (by decide), v_up_eq]; exact (congrArg b01 (uB_eq (aOp A) a.toNat false)).symm), (by rw [v_up_eq]; exact (congrArg b01 h_br).symm), (by rw [v_up_ne (by decide), v_up_ne (by decide), v_up_eq]; exact (v_uf_eq _ _ _).symm), (fun q => absurd ((uB_eq (aOp A) a.toNat false).symm.trans q) (by decide))⟩
                have hA2 := awO_S (t := a) (h := h) (k := κ) (n := n) (how := 1) hA hpk
                have hfq : FrQ V (v_up (v_up (v_up V 188 a.toNat (aPa A a.toNat + 1)) 184 a.toNat 0) 185 a.toNat 0) := fun k hk => by rw [v_up_ne (by omega), v_up_ne (by omega), v_up_ne (by omega)]
                refine y_ld (x := .ref 170) rfl rfl (fun d => rfl) ?_
                refine y_ld (x := iv form) rfl rfl (fun d => rfl) ?_
                refine y_ld (x := iv N) rfl rfl (fun d => rfl) ?_
                refine y_cV (as := [.ref 170, iv form, iv N]) rfl rfl rfl rfl rfl (md170 hM) ⟨rfl, (Nat.le_of_ble_eq_true rfl), (Nat.le_of_ble_eq_true rfl)⟩ (by decide) (ct_isKept hM hR2 hA2 (by omega) p1 hf hN (by rw [v_up_ne (by decide), v_up_ne (by decide), v_up_ne (by decide)]; exact hP.1) (fun hkp => ?_) (fun hkp => ?_))
                · refine y_nv ?_
                  refine y_zne rfl rfl rfl (by decide) (fun g16 => ?_) (fun g16 => absurd g16 (by decide))
                  refine y_lv (l' := [(0, .ref 170), (1, iv v1), (2, iv form), (3, iv N), (4, iv v4)]) rfl ⟨rfl, rfl, rfl, rfl, rfl, trivial⟩ ?_
                  refine y_mono (kk (fun q => ?_) _ hR2 hfq) (by omega)
                  rcases q with q | q
                  · rcases q.2 with ⟨q1, q2, q3⟩ | ⟨q1, q2⟩
                    · omega
                    · omega
                  · exact q hkp
                · refine y_nv ?_
                  refine y_zne rfl rfl rfl (by decide) (fun g17 => absurd g17 (by decide)) (fun g17 => ?_)
                  refine y_ic rfl rfl ?_
                  refine y_rI rfl (by decide) ?_
                  exact kv (Or.inr hkp) _ hfq
              · have eA : awS A a h κ n 1 = _ := awS_x (by omega) hk2
                have hR2 : RWm (v_up (v_up (v_up V 188 a.toNat (aPa A a.toNat + 1)) 184 a.toNat 0) 185 a.toNat 0) (awS A a h κ n 1) := by
                  refine RWm_up (c := a.toNat) hR (fun t ht hc => ⟨(by rw [v_up_ne (by decide), v_up_ne (by decide), v_up_ne (by decide)]), (by rw [v_up_ne (by decide), v_up_ni hc, v_up_ne (by decide)]), (by rw [v_up_ni hc, v_up_ne (by decide), v_up_ne (by decide)]), (by rw [v_up_ne (by decide), v_up_ne (by decide), v_up_ne (by decide)]), (by rw [v_up_ne (by decide), v_up_ne (by decide), v_up_ne (by decide)]), (by rw [v_up_ne (by decide), v_up_ne (by decide), v_up_ni hc])⟩) (fun t hc => awS_fr hc) ?_
                  rw [eA]
                  exact ⟨(by rw [v_up_ne (by decide), v_up_ne (by decide), v_up_ne (by decide)]; exact b1), (by rw [v_up_ne (by decide), v_up_eq]; exact (congrArg b01 h_op).symm), (by rw [v_up_eq]; exact (congrArg b01 h_br).symm), (by rw [v_up_ne (by decide), v_up_ne (by decide), v_up_eq]; exact (v_uf_eq _ _ _).symm), (fun q => ⟨by rw [v_up_ne (by decide), v_up_ne (by decide), v_up_ne (by decide)]; exact (b5 q).1, by rw [v_up_ne (by decide), v_up_ne (by decide), v_up_ne (by decide)]; exact (b5 q).2⟩)⟩
                have hA2 := awO_S (t := a) (h := h) (k := κ) (n := n) (how := 1) hA hpk
                have hfq : FrQ V (v_up (v_up (v_up V 188 a.toNat (aPa A a.toNat + 1)) 184 a.toNat 0) 185 a.toNat 0) := fun k hk => by rw [v_up_ne (by omega), v_up_ne (by omega), v_up_ne (by omega)]
                refine y_ld (x := .ref 170) rfl rfl (fun d => rfl) ?_
                refine y_ld (x := iv form) rfl rfl (fun d => rfl) ?_
                refine y_ld (x := iv N) rfl rfl (fun d => rfl) ?_
                refine y_cV (as := [.ref 170, iv form, iv N]) rfl rfl rfl rfl rfl (md170 hM) ⟨rfl, (Nat.le_of_ble_eq_true rfl), (Nat.le_of_ble_eq_true rfl)⟩ (by decide) (ct_isKept hM hR2 hA2 (by omega) p1 hf hN (by rw [v_up_ne (by decide), v_up_ne (by decide), v_up_ne (by decide)]; exact hP.1) (fun hkp => ?_) (fun hkp => ?_))
                · refine y_nv ?_
                  refine y_zne rfl rfl rfl (by decide) (fun g18 => ?_) (fun g18 => absurd g18 (by decide))
                  refine y_lv (l' := [(0, .ref 170), (1, iv v1), (2, iv form), (3, iv N), (4, iv v4)]) rfl ⟨rfl, rfl, rfl, rfl, rfl, trivial⟩ ?_
                  refine y_mono (kk (fun q => ?_) _ hR2 hfq) (by omega)
                  rcases q with q | q
                  · rcases q.2 with ⟨q1, q2, q3⟩ | ⟨q1, q2⟩
                    · omega
                    · omega
                  · exact q hkp
                · refine y_nv ?_
                  refine y_zne rfl rfl rfl (by decide) (fun g19 => absurd g19 (by decide)) (fun g19 => ?_)
                  refine y_ic rfl rfl ?_
                  refine y_rI rfl (by decide) ?_
                  exact kv (Or.inr hkp) _ hfq
            · refine y_bld (x := 1) (q := a.toNat) rfl rfl (md185 hM) (by omega) (by decide) (by omega) (by rw [v_up_ne (by decide), v_up_ne (by decide)]; exact b3.trans (by rw [h_br]; rfl)) ?_
              refine y_zne rfl rfl rfl (by decide) (fun g20 => ?_) (fun g20 => absurd g20 (by decide))
              refine y_ic rfl rfl ?_
              refine y_go rfl rfl ?_
              refine y_bst (q := a.toNat) rfl rfl (md185 hM) (by omega) (by decide) (by omega) (by decide) ?_
              by_cases hk2 : κ = 2
              · have eA : awS A a h κ n 1 = _ := awS_2 hk2
                have hR2 : RWm (v_up (v_up (v_up V 188 a.toNat (aPa A a.toNat + 1)) 184 a.toNat 0) 185 a.toNat 1) (awS A a h κ n 1) := by
                  refine RWm_up (c := a.toNat) hR (fun t ht hc => ⟨(by rw [v_up_ne (by decide), v_up_ne (by decide), v_up_ne (by decide)]), (by rw [v_up_ne (by decide), v_up_ni hc, v_up_ne (by decide)]), (by rw [v_up_ni hc, v_up_ne (by decide), v_up_ne (by decide)]), (by rw [v_up_ne (by decide), v_up_ne (by decide), v_up_ne (by decide)]), (by rw [v_up_ne (by decide), v_up_ne (by decide), v_up_ne (by decide)]), (by rw [v_up_ne (by decide), v_up_ne (by decide), v_up_ni hc])⟩) (fun t hc => awS_fr hc) ?_
                  rw [eA]
                  exact ⟨(by rw [v_up_ne (by decide), v_up_ne (by decide), v_up_ne (by decide)]; exact b1), (by rw [v_up_ne (by decide), v_up_eq]; exact (congrArg b01 (uB_eq (aOp A) a.toNat false)).symm), (by rw [v_up_eq]; exact (congrArg b01 h_br).symm), (by rw [v_up_ne (by decide), v_up_ne (by decide), v_up_eq]; exact (v_uf_eq _ _ _).symm), (fun q => absurd ((uB_eq (aOp A) a.toNat false).symm.trans q) (by decide))⟩
                have hA2 := awO_S (t := a) (h := h) (k := κ) (n := n) (how := 1) hA hpk
                have hfq : FrQ V (v_up (v_up (v_up V 188 a.toNat (aPa A a.toNat + 1)) 184 a.toNat 0) 185 a.toNat 1) := fun k hk => by rw [v_up_ne (by omega), v_up_ne (by omega), v_up_ne (by omega)]
                refine y_ld (x := .ref 170) rfl rfl (fun d => rfl) ?_
                refine y_ld (x := iv form) rfl rfl (fun d => rfl) ?_
                refine y_ld (x := iv N) rfl rfl (fun d => rfl) ?_
                refine y_cV (as := [.ref 170, iv form, iv N]) rfl rfl rfl rfl rfl (md170 hM) ⟨rfl, (Nat.le_of_ble_eq_true rfl), (Nat.le_of_ble_eq_true rfl)⟩ (by decide) (ct_isKept hM hR2 hA2 (by omega) p1 hf hN (by rw [v_up_ne (by decide), v_up_ne (by decide), v_up_ne (by decide)]; exact hP.1) (fun hkp => ?_) (fun hkp => ?_))
                · refine y_nv ?_
                  refine y_zne rfl rfl rfl (by decide) (fun g21 => ?_) (fun g21 => absurd g21 (by decide))
                  refine y_lv (l' := [(0, .ref 170), (1, iv v1), (2, iv form), (3, iv N), (4, iv v4)]) rfl ⟨rfl, rfl, rfl, rfl, rfl, trivial⟩ ?_
                  refine y_mono (kk (fun q => ?_) _ hR2 hfq) (by omega)
                  rcases q with q | q
                  · rcases q.2 with ⟨q1, q2, q3⟩ | ⟨q1, q2⟩
                    · omega
                    · omega
                  · exact q hkp
                · refine y_nv ?_
                  refine y_zne rfl rfl rfl (by decide) (fun g22 => absurd g22 (by decide)) (fun g22 => ?_)
                  refine y_ic rfl rfl ?_
                  refine y_rI rfl (by decide) ?_
                  exact kv (Or.inr hkp) _ hfq
              · have eA : awS A a h κ n 1 = _ := awS_x (by omega) hk2
                have hR2 : RWm (v_up (v_up (v_up V 188 a.toNat (aPa A a.toNat + 1)) 184 a.toNat 0) 185 a.toNat 1) (awS A a h κ n 1) := by
                  refine RWm_up (c := a.toNat) hR (fun t ht hc => ⟨(by rw [v_up_ne (by decide), v_up_ne (by decide), v_up_ne (by decide)]), (by rw [v_up_ne (by decide), v_up_ni hc, v_up_ne (by decide)]), (by rw [v_up_ni hc, v_up_ne (by decide), v_up_ne (by decide)]), (by rw [v_up_ne (by decide), v_up_ne (by decide), v_up_ne (by decide)]), (by rw [v_up_ne (by decide), v_up_ne (by decide), v_up_ne (by decide)]), (by rw [v_up_ne (by decide), v_up_ne (by decide), v_up_ni hc])⟩) (fun t hc => awS_fr hc) ?_
                  rw [eA]
                  exact ⟨(by rw [v_up_ne (by decide), v_up_ne (by decide), v_up_ne (by decide)]; exact b1), (by rw [v_up_ne (by decide), v_up_eq]; exact (congrArg b01 h_op).symm), (by rw [v_up_eq]; exact (congrArg b01 h_br).symm), (by rw [v_up_ne (by decide), v_up_ne (by decide), v_up_eq]; exact (v_uf_eq _ _ _).symm), (fun q => ⟨by rw [v_up_ne (by decide), v_up_ne (by decide), v_up_ne (by decide)]; exact (b5 q).1, by rw [v_up_ne (by decide), v_up_ne (by decide), v_up_ne (by decide)]; exact (b5 q).2⟩)⟩
                have hA2 := awO_S (t := a) (h := h) (k := κ) (n := n) (how := 1) hA hpk
                have hfq : FrQ V (v_up (v_up (v_up V 188 a.toNat (aPa A a.toNat + 1)) 184 a.toNat 0) 185 a.toNat 1) := fun k hk => by rw [v_up_ne (by omega), v_up_ne (by omega), v_up_ne (by omega)]
                refine y_ld (x := .ref 170) rfl rfl (fun d => rfl) ?_
                refine y_ld (x := iv form) rfl rfl (fun d => rfl) ?_
                refine y_ld (x := iv N) rfl rfl (fun d => rfl) ?_
                refine y_cV (as := [.ref 170, iv form, iv N]) rfl rfl rfl rfl rfl (md170 hM) ⟨rfl, (Nat.le_of_ble_eq_true rfl), (Nat.le_of_ble_eq_true rfl)⟩ (by decide) (ct_isKept hM hR2 hA2 (by omega) p1 hf hN (by rw [v_up_ne (by decide), v_up_ne (by decide), v_up_ne (by decide)]; exact hP.1) (fun hkp => ?_) (fun hkp => ?_))
                · refine y_nv ?_
                  refine y_zne rfl rfl rfl (by decide) (fun g23 => ?_) (fun g23 => absurd g23 (by decide))
                  refine y_lv (l' := [(0, .ref 170), (1, iv v1), (2, iv form), (3, iv N), (4, iv v4)]) rfl ⟨rfl, rfl, rfl, rfl, rfl, trivial⟩ ?_
                  refine y_mono (kk (fun q => ?_) _ hR2 hfq) (by omega)
                  rcases q with q | q
                  · rcases q.2 with ⟨q1, q2, q3⟩ | ⟨q1, q2⟩
                    · omega
                    · omega
                  · exact q hkp
                · refine y_nv ?_
                  refine y_zne rfl rfl rfl (by decide) (fun g24 => absurd g24 (by decide)) (fun g24 => ?_)
                  refine y_ic rfl rfl ?_
                  refine y_rI rfl (by decide) ?_
                  exact kv (Or.inr hkp) _ hfq
          · refine y_bld (x := 1) (q := a.toNat) rfl rfl (md184 hM) (by omega) (by decide) (by omega) (by rw [v_up_ne (by decide)]; exact b2.trans (by rw [h_op]; rfl)) ?_
            refine y_zeq rfl rfl rfl (by decide) (fun g25 => absurd g25 (by decide)) (fun g25 => ?_)
            refine y_ld (x := .ref 170) rfl rfl (fun d => rfl) ?_
            refine y_gI (i := 19) (e := κ) rfl rfl rfl (md170 hM) rfl hP.2.2.1 ?_
            refine y_ic rfl rfl ?_
            refine y_jeq rfl rfl rfl (by omega) (fun g26 => ?_) (fun g26 => ?_)
            · refine y_ic rfl rfl ?_
              refine y_bst (q := a.toNat) rfl rfl (md184 hM) (by omega) (by decide) (by omega) (by decide) ?_
              refine y_ld (x := .ref 170) rfl rfl (fun d => rfl) ?_
              refine y_gR (i := 30) rfl rfl rfl (md170 hM) rfl ?_
              refine y_ld (x := .ref 170) rfl rfl (fun d => rfl) ?_
              refine y_gI (i := 17) (e := a) rfl rfl rfl (md170 hM) rfl hP.1 ?_
              refine y_ld (x := .ref 170) rfl rfl (fun d => rfl) ?_
              refine y_gR (i := 30) rfl rfl rfl (md170 hM) rfl ?_
              refine y_ld (x := .ref 170) rfl rfl (fun d => rfl) ?_
              refine y_gI (i := 17) (e := a) rfl rfl rfl (md170 hM) rfl hP.1 ?_
              cases h_br : aBr A a.toNat
              · refine y_bld (x := 0) (q := a.toNat) rfl rfl (md185 hM) (by omega) (by decide) (by omega) (by rw [v_up_ne (by decide), v_up_ne (by decide)]; exact b3.trans (by rw [h_br]; rfl)) ?_
                refine y_zne rfl rfl rfl (by decide) (fun g27 => absurd g27 (by decide)) (fun g27 => ?_)
                refine y_ld (x := iv 1) rfl rfl (fun d => rfl) ?_
                refine y_ic rfl rfl ?_
                refine y_jne rfl rfl rfl (by decide) (fun g28 => ?_) (fun g28 => absurd g28 (by decide))
                refine y_ic rfl rfl ?_
                refine y_bst (q := a.toNat) rfl rfl (md185 hM) (by omega) (by decide) (by omega) (by decide) ?_
                have eA : awS A a h κ n 1 = _ := awS_2 (by omega)
                have hR2 : RWm (v_up (v_up (v_up V 188 a.toNat (aPa A a.toNat + 1)) 184 a.toNat 0) 185 a.toNat 0) (awS A a h κ n 1) := by
                  refine RWm_up (c := a.toNat) hR (fun t ht hc => ⟨(by rw [v_up_ne (by decide), v_up_ne (by decide), v_up_ne (by decide)]), (by rw [v_up_ne (by decide), v_up_ni hc, v_up_ne (by decide)]), (by rw [v_up_ni hc, v_up_ne (by decide), v_up_ne (by decide)]), (by rw [v_up_ne (by decide), v_up_ne (by decide), v_up_ne (by decide)]), (by rw [v_up_ne (by decide), v_up_ne (by decide), v_up_ne (by decide)]), (by rw [v_up_ne (by decide), v_up_ne (by decide), v_up_ni hc])⟩) (fun t hc => awS_fr hc) ?_
                  rw [eA]
                  exact ⟨(by rw [v_up_ne (by decide), v_up_ne (by decide), v_up_ne (by decide)]; exact b1), (by rw [v_up_ne (by decide), v_up_eq]; exact (congrArg b01 (uB_eq (aOp A) a.toNat false)).symm), (by rw [v_up_eq]; exact (congrArg b01 h_br).symm), (by rw [v_up_ne (by decide), v_up_ne (by decide), v_up_eq]; exact (v_uf_eq _ _ _).symm), (fun q => absurd ((uB_eq (aOp A) a.toNat false).symm.trans q) (by decide))⟩
                have hA2 := awO_S (t := a) (h := h) (k := κ) (n := n) (how := 1) hA hpk
                have hfq : FrQ V (v_up (v_up (v_up V 188 a.toNat (aPa A a.toNat + 1)) 184 a.toNat 0) 185 a.toNat 0) := fun k hk => by rw [v_up_ne (by omega), v_up_ne (by omega), v_up_ne (by omega)]
                refine y_ld (x := .ref 170) rfl rfl (fun d => rfl) ?_
                refine y_ld (x := iv form) rfl rfl (fun d => rfl) ?_
                refine y_ld (x := iv N) rfl rfl (fun d => rfl) ?_
                refine y_cV (as := [.ref 170, iv form, iv N]) rfl rfl rfl rfl rfl (md170 hM) ⟨rfl, (Nat.le_of_ble_eq_true rfl), (Nat.le_of_ble_eq_true rfl)⟩ (by decide) (ct_isKept hM hR2 hA2 (by omega) p1 hf hN (by rw [v_up_ne (by decide), v_up_ne (by decide), v_up_ne (by decide)]; exact hP.1) (fun hkp => ?_) (fun hkp => ?_))
                · refine y_nv ?_
                  refine y_zne rfl rfl rfl (by decide) (fun g29 => ?_) (fun g29 => absurd g29 (by decide))
                  refine y_lv (l' := [(0, .ref 170), (1, iv v1), (2, iv form), (3, iv N), (4, iv v4)]) rfl ⟨rfl, rfl, rfl, rfl, rfl, trivial⟩ ?_
                  refine y_mono (kk (fun q => ?_) _ hR2 hfq) (by omega)
                  rcases q with q | q
                  · rcases q.2 with ⟨q1, q2, q3⟩ | ⟨q1, q2⟩
                    · omega
                    · omega
                  · exact q hkp
                · refine y_nv ?_
                  refine y_zne rfl rfl rfl (by decide) (fun g30 => absurd g30 (by decide)) (fun g30 => ?_)
                  refine y_ic rfl rfl ?_
                  refine y_rI rfl (by decide) ?_
                  exact kv (Or.inr hkp) _ hfq
              · refine y_bld (x := 1) (q := a.toNat) rfl rfl (md185 hM) (by omega) (by decide) (by omega) (by rw [v_up_ne (by decide), v_up_ne (by decide)]; exact b3.trans (by rw [h_br]; rfl)) ?_
                refine y_zne rfl rfl rfl (by decide) (fun g31 => ?_) (fun g31 => absurd g31 (by decide))
                refine y_ic rfl rfl ?_
                refine y_go rfl rfl ?_
                refine y_bst (q := a.toNat) rfl rfl (md185 hM) (by omega) (by decide) (by omega) (by decide) ?_
                have eA : awS A a h κ n 1 = _ := awS_2 (by omega)
                have hR2 : RWm (v_up (v_up (v_up V 188 a.toNat (aPa A a.toNat + 1)) 184 a.toNat 0) 185 a.toNat 1) (awS A a h κ n 1) := by
                  refine RWm_up (c := a.toNat) hR (fun t ht hc => ⟨(by rw [v_up_ne (by decide), v_up_ne (by decide), v_up_ne (by decide)]), (by rw [v_up_ne (by decide), v_up_ni hc, v_up_ne (by decide)]), (by rw [v_up_ni hc, v_up_ne (by decide), v_up_ne (by decide)]), (by rw [v_up_ne (by decide), v_up_ne (by decide), v_up_ne (by decide)]), (by rw [v_up_ne (by decide), v_up_ne (by decide), v_up_ne (by decide)]), (by rw [v_up_ne (by decide), v_up_ne (by decide), v_up_ni hc])⟩) (fun t hc => awS_fr hc) ?_
                  rw [eA]
                  exact ⟨(by rw [v_up_ne (by decide), v_up_ne (by decide), v_up_ne (by decide)]; exact b1), (by rw [v_up_ne (by decide), v_up_eq]; exact (congrArg b01 (uB_eq (aOp A) a.toNat false)).symm), (by rw [v_up_eq]; exact (congrArg b01 h_br).symm), (by rw [v_up_ne (by decide), v_up_ne (by decide), v_up_eq]; exact (v_uf_eq _ _ _).symm), (fun q => absurd ((uB_eq (aOp A) a.toNat false).symm.trans q) (by decide))⟩
                have hA2 := awO_S (t := a) (h := h) (k := κ) (n := n) (how := 1) hA hpk
                have hfq : FrQ V (v_up (v_up (v_up V 188 a.toNat (aPa A a.toNat + 1)) 184 a.toNat 0) 185 a.toNat 1) := fun k hk => by rw [v_up_ne (by omega), v_up_ne (by omega), v_up_ne (by omega)]
                refine y_ld (x := .ref 170) rfl rfl (fun d => rfl) ?_
                refine y_ld (x := iv form) rfl rfl (fun d => rfl) ?_
                refine y_ld (x := iv N) rfl rfl (fun d => rfl) ?_
                refine y_cV (as := [.ref 170, iv form, iv N]) rfl rfl rfl rfl rfl (md170 hM) ⟨rfl, (Nat.le_of_ble_eq_true rfl), (Nat.le_of_ble_eq_true rfl)⟩ (by decide) (ct_isKept hM hR2 hA2 (by omega) p1 hf hN (by rw [v_up_ne (by decide), v_up_ne (by decide), v_up_ne (by decide)]; exact hP.1) (fun hkp => ?_) (fun hkp => ?_))
                · refine y_nv ?_
                  refine y_zne rfl rfl rfl (by decide) (fun g32 => ?_) (fun g32 => absurd g32 (by decide))
                  refine y_lv (l' := [(0, .ref 170), (1, iv v1), (2, iv form), (3, iv N), (4, iv v4)]) rfl ⟨rfl, rfl, rfl, rfl, rfl, trivial⟩ ?_
                  refine y_mono (kk (fun q => ?_) _ hR2 hfq) (by omega)
                  rcases q with q | q
                  · rcases q.2 with ⟨q1, q2, q3⟩ | ⟨q1, q2⟩
                    · omega
                    · omega
                  · exact q hkp
                · refine y_nv ?_
                  refine y_zne rfl rfl rfl (by decide) (fun g33 => absurd g33 (by decide)) (fun g33 => ?_)
                  refine y_ic rfl rfl ?_
                  refine y_rI rfl (by decide) ?_
                  exact kv (Or.inr hkp) _ hfq
            · refine y_ic rfl rfl ?_
              refine y_go rfl rfl ?_
              refine y_bst (q := a.toNat) rfl rfl (md184 hM) (by omega) (by decide) (by omega) (by decide) ?_
              refine y_ld (x := .ref 170) rfl rfl (fun d => rfl) ?_
              refine y_gR (i := 30) rfl rfl rfl (md170 hM) rfl ?_
              refine y_ld (x := .ref 170) rfl rfl (fun d => rfl) ?_
              refine y_gI (i := 17) (e := a) rfl rfl rfl (md170 hM) rfl hP.1 ?_
              refine y_ld (x := .ref 170) rfl rfl (fun d => rfl) ?_
              refine y_gR (i := 30) rfl rfl rfl (md170 hM) rfl ?_
              refine y_ld (x := .ref 170) rfl rfl (fun d => rfl) ?_
              refine y_gI (i := 17) (e := a) rfl rfl rfl (md170 hM) rfl hP.1 ?_
              cases h_br : aBr A a.toNat
              · refine y_bld (x := 0) (q := a.toNat) rfl rfl (md185 hM) (by omega) (by decide) (by omega) (by rw [v_up_ne (by decide), v_up_ne (by decide)]; exact b3.trans (by rw [h_br]; rfl)) ?_
                refine y_zne rfl rfl rfl (by decide) (fun g34 => absurd g34 (by decide)) (fun g34 => ?_)
                refine y_ld (x := iv 1) rfl rfl (fun d => rfl) ?_
                refine y_ic rfl rfl ?_
                refine y_jne rfl rfl rfl (by decide) (fun g35 => ?_) (fun g35 => absurd g35 (by decide))
                refine y_ic rfl rfl ?_
                refine y_bst (q := a.toNat) rfl rfl (md185 hM) (by omega) (by decide) (by omega) (by decide) ?_
                have eA : awS A a h κ n 1 = _ := awS_x (by omega) (by omega)
                have hR2 : RWm (v_up (v_up (v_up V 188 a.toNat (aPa A a.toNat + 1)) 184 a.toNat 1) 185 a.toNat 0) (awS A a h κ n 1) := by
                  refine RWm_up (c := a.toNat) hR (fun t ht hc => ⟨(by rw [v_up_ne (by decide), v_up_ne (by decide), v_up_ne (by decide)]), (by rw [v_up_ne (by decide), v_up_ni hc, v_up_ne (by decide)]), (by rw [v_up_ni hc, v_up_ne (by decide), v_up_ne (by decide)]), (by rw [v_up_ne (by decide), v_up_ne (by decide), v_up_ne (by decide)]), (by rw [v_up_ne (by decide), v_up_ne (by decide), v_up_ne (by decide)]), (by rw [v_up_ne (by decide), v_up_ne (by decide), v_up_ni hc])⟩) (fun t hc => awS_fr hc) ?_
                  rw [eA]
                  exact ⟨(by rw [v_up_ne (by decide), v_up_ne (by decide), v_up_ne (by decide)]; exact b1), (by rw [v_up_ne (by decide), v_up_eq]; exact (congrArg b01 h_op).symm), (by rw [v_up_eq]; exact (congrArg b01 h_br).symm), (by rw [v_up_ne (by decide), v_up_ne (by decide), v_up_eq]; exact (v_uf_eq _ _ _).symm), (fun q => ⟨by rw [v_up_ne (by decide), v_up_ne (by decide), v_up_ne (by decide)]; exact (b5 q).1, by rw [v_up_ne (by decide), v_up_ne (by decide), v_up_ne (by decide)]; exact (b5 q).2⟩)⟩
                have hA2 := awO_S (t := a) (h := h) (k := κ) (n := n) (how := 1) hA hpk
                have hfq : FrQ V (v_up (v_up (v_up V 188 a.toNat (aPa A a.toNat + 1)) 184 a.toNat 1) 185 a.toNat 0) := fun k hk => by rw [v_up_ne (by omega), v_up_ne (by omega), v_up_ne (by omega)]
                refine y_ld (x := .ref 170) rfl rfl (fun d => rfl) ?_
                refine y_ld (x := iv form) rfl rfl (fun d => rfl) ?_
                refine y_ld (x := iv N) rfl rfl (fun d => rfl) ?_
                refine y_cV (as := [.ref 170, iv form, iv N]) rfl rfl rfl rfl rfl (md170 hM) ⟨rfl, (Nat.le_of_ble_eq_true rfl), (Nat.le_of_ble_eq_true rfl)⟩ (by decide) (ct_isKept hM hR2 hA2 (by omega) p1 hf hN (by rw [v_up_ne (by decide), v_up_ne (by decide), v_up_ne (by decide)]; exact hP.1) (fun hkp => ?_) (fun hkp => ?_))
                · refine y_nv ?_
                  refine y_zne rfl rfl rfl (by decide) (fun g36 => ?_) (fun g36 => absurd g36 (by decide))
                  refine y_lv (l' := [(0, .ref 170), (1, iv v1), (2, iv form), (3, iv N), (4, iv v4)]) rfl ⟨rfl, rfl, rfl, rfl, rfl, trivial⟩ ?_
                  refine y_mono (kk (fun q => ?_) _ hR2 hfq) (by omega)
                  rcases q with q | q
                  · rcases q.2 with ⟨q1, q2, q3⟩ | ⟨q1, q2⟩
                    · omega
                    · omega
                  · exact q hkp
                · refine y_nv ?_
                  refine y_zne rfl rfl rfl (by decide) (fun g37 => absurd g37 (by decide)) (fun g37 => ?_)
                  refine y_ic rfl rfl ?_
                  refine y_rI rfl (by decide) ?_
                  exact kv (Or.inr hkp) _ hfq
              · refine y_bld (x := 1) (q := a.toNat) rfl rfl (md185 hM) (by omega) (by decide) (by omega) (by rw [v_up_ne (by decide), v_up_ne (by decide)]; exact b3.trans (by rw [h_br]; rfl)) ?_
                refine y_zne rfl rfl rfl (by decide) (fun g38 => ?_) (fun g38 => absurd g38 (by decide))
                refine y_ic rfl rfl ?_
                refine y_go rfl rfl ?_
                refine y_bst (q := a.toNat) rfl rfl (md185 hM) (by omega) (by decide) (by omega) (by decide) ?_
                have eA : awS A a h κ n 1 = _ := awS_x (by omega) (by omega)
                have hR2 : RWm (v_up (v_up (v_up V 188 a.toNat (aPa A a.toNat + 1)) 184 a.toNat 1) 185 a.toNat 1) (awS A a h κ n 1) := by
                  refine RWm_up (c := a.toNat) hR (fun t ht hc => ⟨(by rw [v_up_ne (by decide), v_up_ne (by decide), v_up_ne (by decide)]), (by rw [v_up_ne (by decide), v_up_ni hc, v_up_ne (by decide)]), (by rw [v_up_ni hc, v_up_ne (by decide), v_up_ne (by decide)]), (by rw [v_up_ne (by decide), v_up_ne (by decide), v_up_ne (by decide)]), (by rw [v_up_ne (by decide), v_up_ne (by decide), v_up_ne (by decide)]), (by rw [v_up_ne (by decide), v_up_ne (by decide), v_up_ni hc])⟩) (fun t hc => awS_fr hc) ?_
                  rw [eA]
                  exact ⟨(by rw [v_up_ne (by decide), v_up_ne (by decide), v_up_ne (by decide)]; exact b1), (by rw [v_up_ne (by decide), v_up_eq]; exact (congrArg b01 h_op).symm), (by rw [v_up_eq]; exact (congrArg b01 h_br).symm), (by rw [v_up_ne (by decide), v_up_ne (by decide), v_up_eq]; exact (v_uf_eq _ _ _).symm), (fun q => ⟨by rw [v_up_ne (by decide), v_up_ne (by decide), v_up_ne (by decide)]; exact (b5 q).1, by rw [v_up_ne (by decide), v_up_ne (by decide), v_up_ne (by decide)]; exact (b5 q).2⟩)⟩
                have hA2 := awO_S (t := a) (h := h) (k := κ) (n := n) (how := 1) hA hpk
                have hfq : FrQ V (v_up (v_up (v_up V 188 a.toNat (aPa A a.toNat + 1)) 184 a.toNat 1) 185 a.toNat 1) := fun k hk => by rw [v_up_ne (by omega), v_up_ne (by omega), v_up_ne (by omega)]
                refine y_ld (x := .ref 170) rfl rfl (fun d => rfl) ?_
                refine y_ld (x := iv form) rfl rfl (fun d => rfl) ?_
                refine y_ld (x := iv N) rfl rfl (fun d => rfl) ?_
                refine y_cV (as := [.ref 170, iv form, iv N]) rfl rfl rfl rfl rfl (md170 hM) ⟨rfl, (Nat.le_of_ble_eq_true rfl), (Nat.le_of_ble_eq_true rfl)⟩ (by decide) (ct_isKept hM hR2 hA2 (by omega) p1 hf hN (by rw [v_up_ne (by decide), v_up_ne (by decide), v_up_ne (by decide)]; exact hP.1) (fun hkp => ?_) (fun hkp => ?_))
                · refine y_nv ?_
                  refine y_zne rfl rfl rfl (by decide) (fun g39 => ?_) (fun g39 => absurd g39 (by decide))
                  refine y_lv (l' := [(0, .ref 170), (1, iv v1), (2, iv form), (3, iv N), (4, iv v4)]) rfl ⟨rfl, rfl, rfl, rfl, rfl, trivial⟩ ?_
                  refine y_mono (kk (fun q => ?_) _ hR2 hfq) (by omega)
                  rcases q with q | q
                  · rcases q.2 with ⟨q1, q2, q3⟩ | ⟨q1, q2⟩
                    · omega
                    · omega
                  · exact q hkp
                · refine y_nv ?_
                  refine y_zne rfl rfl rfl (by decide) (fun g40 => absurd g40 (by decide)) (fun g40 => ?_)
                  refine y_ic rfl rfl ?_
                  refine y_rI rfl (by decide) ?_
                  exact kv (Or.inr hkp) _ hfq
        · refine y_ld (x := .ref 170) rfl rfl (fun d => rfl) ?_
          refine y_gR (i := 28) rfl rfl rfl (md170 hM) rfl ?_
          refine y_ld (x := .ref 170) rfl rfl (fun d => rfl) ?_
          refine y_gI (i := 17) (e := a) rfl rfl rfl (md170 hM) rfl hP.1 ?_
          refine y_ic rfl rfl ?_
          refine y_bst (q := a.toNat) rfl rfl (md183 hM) (by omega) (by decide) (by omega) (by decide) ?_
          refine y_ld (x := .ref 170) rfl rfl (fun d => rfl) ?_
          refine y_gR (i := 29) rfl rfl rfl (md170 hM) rfl ?_
          refine y_ld (x := .ref 170) rfl rfl (fun d => rfl) ?_
          refine y_gI (i := 17) (e := a) rfl rfl rfl (md170 hM) rfl hP.1 ?_
          refine y_ic rfl rfl ?_
          refine y_bst (q := a.toNat) rfl rfl (md184 hM) (by omega) (by decide) (by omega) (by decide) ?_
          refine y_ld (x := .ref 170) rfl rfl (fun d => rfl) ?_
          refine y_gR (i := 31) rfl rfl rfl (md170 hM) rfl ?_
          refine y_ld (x := .ref 170) rfl rfl (fun d => rfl) ?_
          refine y_gI (i := 17) (e := a) rfl rfl rfl (md170 hM) rfl hP.1 ?_
          refine y_ld (x := .ref 170) rfl rfl (fun d => rfl) ?_
          refine y_gI (i := 18) (e := h) rfl rfl rfl (md170 hM) rfl hP.2.1 ?_
          refine y_ist (q := a.toNat) rfl rfl (md186 hM) (by omega) (by decide) (by omega) ?_
          refine y_ld (x := .ref 170) rfl rfl (fun d => rfl) ?_
          refine y_gR (i := 32) rfl rfl rfl (md170 hM) rfl ?_
          refine y_ld (x := .ref 170) rfl rfl (fun d => rfl) ?_
          refine y_gI (i := 17) (e := a) rfl rfl rfl (md170 hM) rfl hP.1 ?_
          refine y_ld (x := .ref 170) rfl rfl (fun d => rfl) ?_
          refine y_gI (i := 20) (e := n) rfl rfl rfl (md170 hM) rfl hP.2.2.2 ?_
          refine y_ist (q := a.toNat) rfl rfl (md187 hM) (by omega) (by decide) (by omega) ?_
          refine y_ld (x := .ref 170) rfl rfl (fun d => rfl) ?_
          refine y_gR (i := 29) rfl rfl rfl (md170 hM) rfl ?_
          refine y_ld (x := .ref 170) rfl rfl (fun d => rfl) ?_
          refine y_gI (i := 17) (e := a) rfl rfl rfl (md170 hM) rfl hP.1 ?_
          refine y_ld (x := .ref 170) rfl rfl (fun d => rfl) ?_
          refine y_gR (i := 29) rfl rfl rfl (md170 hM) rfl ?_
          refine y_ld (x := .ref 170) rfl rfl (fun d => rfl) ?_
          refine y_gI (i := 17) (e := a) rfl rfl rfl (md170 hM) rfl hP.1 ?_
          refine y_bld (x := 1) (q := a.toNat) rfl rfl (md184 hM) (by omega) (by decide) (by omega) (by rw [v_up_ne (by decide), v_up_ne (by decide), v_up_eq]) ?_
          refine y_zeq rfl rfl rfl (by decide) (fun g41 => absurd g41 (by decide)) (fun g41 => ?_)
          refine y_ld (x := .ref 170) rfl rfl (fun d => rfl) ?_
          refine y_gI (i := 19) (e := κ) rfl rfl rfl (md170 hM) rfl hP.2.2.1 ?_
          refine y_ic rfl rfl ?_
          refine y_jeq rfl rfl rfl (by omega) (fun g42 => absurd g42 (by omega)) (fun g42 => ?_)
          refine y_ic rfl rfl ?_
          refine y_go rfl rfl ?_
          refine y_bst (q := a.toNat) rfl rfl (md184 hM) (by omega) (by decide) (by omega) (by decide) ?_
          refine y_ld (x := .ref 170) rfl rfl (fun d => rfl) ?_
          refine y_gR (i := 30) rfl rfl rfl (md170 hM) rfl ?_
          refine y_ld (x := .ref 170) rfl rfl (fun d => rfl) ?_
          refine y_gI (i := 17) (e := a) rfl rfl rfl (md170 hM) rfl hP.1 ?_
          refine y_ld (x := .ref 170) rfl rfl (fun d => rfl) ?_
          refine y_gR (i := 30) rfl rfl rfl (md170 hM) rfl ?_
          refine y_ld (x := .ref 170) rfl rfl (fun d => rfl) ?_
          refine y_gI (i := 17) (e := a) rfl rfl rfl (md170 hM) rfl hP.1 ?_
          cases h_br : aBr A a.toNat
          · refine y_bld (x := 0) (q := a.toNat) rfl rfl (md185 hM) (by omega) (by decide) (by omega) (by rw [v_up_ne (by decide), v_up_ne (by decide), v_up_ne (by decide), v_up_ne (by decide), v_up_ne (by decide), v_up_ne (by decide)]; exact b3.trans (by rw [h_br]; rfl)) ?_
            refine y_zne rfl rfl rfl (by decide) (fun g43 => absurd g43 (by decide)) (fun g43 => ?_)
            refine y_ld (x := iv 1) rfl rfl (fun d => rfl) ?_
            refine y_ic rfl rfl ?_
            refine y_jne rfl rfl rfl (by decide) (fun g44 => ?_) (fun g44 => absurd g44 (by decide))
            refine y_ic rfl rfl ?_
            refine y_bst (q := a.toNat) rfl rfl (md185 hM) (by omega) (by decide) (by omega) (by decide) ?_
            have eA : awS A a h κ n 1 = _ := awS_0 (by omega)
            have hR2 : RWm (v_up (v_up (v_up (v_up (v_up (v_up (v_up V 188 a.toNat (aPa A a.toNat + 1)) 183 a.toNat 1) 184 a.toNat 1) 186 a.toNat h) 187 a.toNat n) 184 a.toNat 1) 185 a.toNat 0) (awS A a h κ n 1) := by
              refine RWm_up (c := a.toNat) hR (fun t ht hc => ⟨(by rw [v_up_ne (by decide), v_up_ne (by decide), v_up_ne (by decide), v_up_ne (by decide), v_up_ne (by decide), v_up_ni hc, v_up_ne (by decide)]), (by rw [v_up_ne (by decide), v_up_ni hc, v_up_ne (by decide), v_up_ne (by decide), v_up_ni hc, v_up_ne (by decide), v_up_ne (by decide)]), (by rw [v_up_ni hc, v_up_ne (by decide), v_up_ne (by decide), v_up_ne (by decide), v_up_ne (by decide), v_up_ne (by decide), v_up_ne (by decide)]), (by rw [v_up_ne (by decide), v_up_ne (by decide), v_up_ne (by decide), v_up_ni hc, v_up_ne (by decide), v_up_ne (by decide), v_up_ne (by decide)]), (by rw [v_up_ne (by decide), v_up_ne (by decide), v_up_ni hc, v_up_ne (by decide), v_up_ne (by decide), v_up_ne (by decide), v_up_ne (by decide)]), (by rw [v_up_ne (by decide), v_up_ne (by decide), v_up_ne (by decide), v_up_ne (by decide), v_up_ne (by decide), v_up_ne (by decide), v_up_ni hc])⟩) (fun t hc => awS_fr hc) ?_
              rw [eA]
              exact ⟨(by rw [v_up_ne (by decide), v_up_ne (by decide), v_up_ne (by decide), v_up_ne (by decide), v_up_ne (by decide), v_up_eq]; exact (congrArg b01 (uB_eq (aBg A) a.toNat true)).symm), (by rw [v_up_ne (by decide), v_up_eq]; exact (congrArg b01 (uB_eq (aOp A) a.toNat true)).symm), (by rw [v_up_eq]; exact (congrArg b01 h_br).symm), (by rw [v_up_ne (by decide), v_up_ne (by decide), v_up_ne (by decide), v_up_ne (by decide), v_up_ne (by decide), v_up_ne (by decide), v_up_eq]; exact (v_uf_eq _ _ _).symm), (fun _ => ⟨by rw [v_up_ne (by decide), v_up_ne (by decide), v_up_ne (by decide), v_up_eq]; exact (v_uf_eq _ _ _).symm, by rw [v_up_ne (by decide), v_up_ne (by decide), v_up_eq]; exact (v_uf_eq _ _ _).symm⟩)⟩
            have hA2 := awO_S (t := a) (h := h) (k := κ) (n := n) (how := 1) hA hpk
            have hfq : FrQ V (v_up (v_up (v_up (v_up (v_up (v_up (v_up V 188 a.toNat (aPa A a.toNat + 1)) 183 a.toNat 1) 184 a.toNat 1) 186 a.toNat h) 187 a.toNat n) 184 a.toNat 1) 185 a.toNat 0) := fun k hk => by rw [v_up_ne (by omega), v_up_ne (by omega), v_up_ne (by omega), v_up_ne (by omega), v_up_ne (by omega), v_up_ne (by omega), v_up_ne (by omega)]
            refine y_ld (x := .ref 170) rfl rfl (fun d => rfl) ?_
            refine y_ld (x := iv form) rfl rfl (fun d => rfl) ?_
            refine y_ld (x := iv N) rfl rfl (fun d => rfl) ?_
            refine y_cV (as := [.ref 170, iv form, iv N]) rfl rfl rfl rfl rfl (md170 hM) ⟨rfl, (Nat.le_of_ble_eq_true rfl), (Nat.le_of_ble_eq_true rfl)⟩ (by decide) (ct_isKept hM hR2 hA2 (by omega) p1 hf hN (by rw [v_up_ne (by decide), v_up_ne (by decide), v_up_ne (by decide), v_up_ne (by decide), v_up_ne (by decide), v_up_ne (by decide), v_up_ne (by decide)]; exact hP.1) (fun hkp => ?_) (fun hkp => ?_))
            · refine y_nv ?_
              refine y_zne rfl rfl rfl (by decide) (fun g45 => ?_) (fun g45 => absurd g45 (by decide))
              refine y_lv (l' := [(0, .ref 170), (1, iv v1), (2, iv form), (3, iv N), (4, iv v4)]) rfl ⟨rfl, rfl, rfl, rfl, rfl, trivial⟩ ?_
              refine y_mono (kk (fun q => ?_) _ hR2 hfq) (by omega)
              rcases q with q | q
              · rcases q.2 with ⟨q1, q2, q3⟩ | ⟨q1, q2⟩
                · omega
                · omega
              · exact q hkp
            · refine y_nv ?_
              refine y_zne rfl rfl rfl (by decide) (fun g46 => absurd g46 (by decide)) (fun g46 => ?_)
              refine y_ic rfl rfl ?_
              refine y_rI rfl (by decide) ?_
              exact kv (Or.inr hkp) _ hfq
          · refine y_bld (x := 1) (q := a.toNat) rfl rfl (md185 hM) (by omega) (by decide) (by omega) (by rw [v_up_ne (by decide), v_up_ne (by decide), v_up_ne (by decide), v_up_ne (by decide), v_up_ne (by decide), v_up_ne (by decide)]; exact b3.trans (by rw [h_br]; rfl)) ?_
            refine y_zne rfl rfl rfl (by decide) (fun g47 => ?_) (fun g47 => absurd g47 (by decide))
            refine y_ic rfl rfl ?_
            refine y_go rfl rfl ?_
            refine y_bst (q := a.toNat) rfl rfl (md185 hM) (by omega) (by decide) (by omega) (by decide) ?_
            have eA : awS A a h κ n 1 = _ := awS_0 (by omega)
            have hR2 : RWm (v_up (v_up (v_up (v_up (v_up (v_up (v_up V 188 a.toNat (aPa A a.toNat + 1)) 183 a.toNat 1) 184 a.toNat 1) 186 a.toNat h) 187 a.toNat n) 184 a.toNat 1) 185 a.toNat 1) (awS A a h κ n 1) := by
              refine RWm_up (c := a.toNat) hR (fun t ht hc => ⟨(by rw [v_up_ne (by decide), v_up_ne (by decide), v_up_ne (by decide), v_up_ne (by decide), v_up_ne (by decide), v_up_ni hc, v_up_ne (by decide)]), (by rw [v_up_ne (by decide), v_up_ni hc, v_up_ne (by decide), v_up_ne (by decide), v_up_ni hc, v_up_ne (by decide), v_up_ne (by decide)]), (by rw [v_up_ni hc, v_up_ne (by decide), v_up_ne (by decide), v_up_ne (by decide), v_up_ne (by decide), v_up_ne (by decide), v_up_ne (by decide)]), (by rw [v_up_ne (by decide), v_up_ne (by decide), v_up_ne (by decide), v_up_ni hc, v_up_ne (by decide), v_up_ne (by decide), v_up_ne (by decide)]), (by rw [v_up_ne (by decide), v_up_ne (by decide), v_up_ni hc, v_up_ne (by decide), v_up_ne (by decide), v_up_ne (by decide), v_up_ne (by decide)]), (by rw [v_up_ne (by decide), v_up_ne (by decide), v_up_ne (by decide), v_up_ne (by decide), v_up_ne (by decide), v_up_ne (by decide), v_up_ni hc])⟩) (fun t hc => awS_fr hc) ?_
              rw [eA]
              exact ⟨(by rw [v_up_ne (by decide), v_up_ne (by decide), v_up_ne (by decide), v_up_ne (by decide), v_up_ne (by decide), v_up_eq]; exact (congrArg b01 (uB_eq (aBg A) a.toNat true)).symm), (by rw [v_up_ne (by decide), v_up_eq]; exact (congrArg b01 (uB_eq (aOp A) a.toNat true)).symm), (by rw [v_up_eq]; exact (congrArg b01 h_br).symm), (by rw [v_up_ne (by decide), v_up_ne (by decide), v_up_ne (by decide), v_up_ne (by decide), v_up_ne (by decide), v_up_ne (by decide), v_up_eq]; exact (v_uf_eq _ _ _).symm), (fun _ => ⟨by rw [v_up_ne (by decide), v_up_ne (by decide), v_up_ne (by decide), v_up_eq]; exact (v_uf_eq _ _ _).symm, by rw [v_up_ne (by decide), v_up_ne (by decide), v_up_eq]; exact (v_uf_eq _ _ _).symm⟩)⟩
            have hA2 := awO_S (t := a) (h := h) (k := κ) (n := n) (how := 1) hA hpk
            have hfq : FrQ V (v_up (v_up (v_up (v_up (v_up (v_up (v_up V 188 a.toNat (aPa A a.toNat + 1)) 183 a.toNat 1) 184 a.toNat 1) 186 a.toNat h) 187 a.toNat n) 184 a.toNat 1) 185 a.toNat 1) := fun k hk => by rw [v_up_ne (by omega), v_up_ne (by omega), v_up_ne (by omega), v_up_ne (by omega), v_up_ne (by omega), v_up_ne (by omega), v_up_ne (by omega)]
            refine y_ld (x := .ref 170) rfl rfl (fun d => rfl) ?_
            refine y_ld (x := iv form) rfl rfl (fun d => rfl) ?_
            refine y_ld (x := iv N) rfl rfl (fun d => rfl) ?_
            refine y_cV (as := [.ref 170, iv form, iv N]) rfl rfl rfl rfl rfl (md170 hM) ⟨rfl, (Nat.le_of_ble_eq_true rfl), (Nat.le_of_ble_eq_true rfl)⟩ (by decide) (ct_isKept hM hR2 hA2 (by omega) p1 hf hN (by rw [v_up_ne (by decide), v_up_ne (by decide), v_up_ne (by decide), v_up_ne (by decide), v_up_ne (by decide), v_up_ne (by decide), v_up_ne (by decide)]; exact hP.1) (fun hkp => ?_) (fun hkp => ?_))
            · refine y_nv ?_
              refine y_zne rfl rfl rfl (by decide) (fun g48 => ?_) (fun g48 => absurd g48 (by decide))
              refine y_lv (l' := [(0, .ref 170), (1, iv v1), (2, iv form), (3, iv N), (4, iv v4)]) rfl ⟨rfl, rfl, rfl, rfl, rfl, trivial⟩ ?_
              refine y_mono (kk (fun q => ?_) _ hR2 hfq) (by omega)
              rcases q with q | q
              · rcases q.2 with ⟨q1, q2, q3⟩ | ⟨q1, q2⟩
                · omega
                · omega
              · exact q hkp
            · refine y_nv ?_
              refine y_zne rfl rfl rfl (by decide) (fun g49 => absurd g49 (by decide)) (fun g49 => ?_)
              refine y_ic rfl rfl ?_
              refine y_rI rfl (by decide) ?_
              exact kv (Or.inr hkp) _ hfq
      · refine y_ld (x := .ref 170) rfl rfl (fun d => rfl) ?_
        refine y_gR (i := 30) rfl rfl rfl (md170 hM) rfl ?_
        refine y_ld (x := .ref 170) rfl rfl (fun d => rfl) ?_
        refine y_gI (i := 17) (e := a) rfl rfl rfl (md170 hM) rfl hP.1 ?_
        cases h_br : aBr A a.toNat
        · refine y_bld (x := 0) (q := a.toNat) rfl rfl (md185 hM) (by omega) (by decide) (by omega) (by rw [v_up_ne (by decide)]; exact b3.trans (by rw [h_br]; rfl)) ?_
          refine y_zeq rfl rfl rfl (by decide) (fun g50 => ?_) (fun g50 => absurd g50 (by decide))
          refine y_ld (x := .ref 170) rfl rfl (fun d => rfl) ?_
          refine y_gI (i := 19) (e := κ) rfl rfl rfl (md170 hM) rfl hP.2.2.1 ?_
          refine y_zne rfl rfl rfl (by omega) (fun g51 => ?_) (fun g51 => ?_)
          · refine y_ld (x := .ref 170) rfl rfl (fun d => rfl) ?_
            refine y_gR (i := 29) rfl rfl rfl (md170 hM) rfl ?_
            refine y_ld (x := .ref 170) rfl rfl (fun d => rfl) ?_
            refine y_gI (i := 17) (e := a) rfl rfl rfl (md170 hM) rfl hP.1 ?_
            refine y_ld (x := .ref 170) rfl rfl (fun d => rfl) ?_
            refine y_gR (i := 29) rfl rfl rfl (md170 hM) rfl ?_
            refine y_ld (x := .ref 170) rfl rfl (fun d => rfl) ?_
            refine y_gI (i := 17) (e := a) rfl rfl rfl (md170 hM) rfl hP.1 ?_
            cases h_op : aOp A a.toNat
            · refine y_bld (x := 0) (q := a.toNat) rfl rfl (md184 hM) (by omega) (by decide) (by omega) (by rw [v_up_ne (by decide)]; exact b2.trans (by rw [h_op]; rfl)) ?_
              refine y_zeq rfl rfl rfl (by decide) (fun g52 => ?_) (fun g52 => absurd g52 (by decide))
              refine y_ic rfl rfl ?_
              refine y_bst (q := a.toNat) rfl rfl (md184 hM) (by omega) (by decide) (by omega) (by decide) ?_
              refine y_ld (x := .ref 170) rfl rfl (fun d => rfl) ?_
              refine y_gR (i := 30) rfl rfl rfl (md170 hM) rfl ?_
              refine y_ld (x := .ref 170) rfl rfl (fun d => rfl) ?_
              refine y_gI (i := 17) (e := a) rfl rfl rfl (md170 hM) rfl hP.1 ?_
              refine y_ld (x := .ref 170) rfl rfl (fun d => rfl) ?_
              refine y_gR (i := 30) rfl rfl rfl (md170 hM) rfl ?_
              refine y_ld (x := .ref 170) rfl rfl (fun d => rfl) ?_
              refine y_gI (i := 17) (e := a) rfl rfl rfl (md170 hM) rfl hP.1 ?_
              refine y_bld (x := 0) (q := a.toNat) rfl rfl (md185 hM) (by omega) (by decide) (by omega) (by rw [v_up_ne (by decide), v_up_ne (by decide)]; exact b3.trans (by rw [h_br]; rfl)) ?_
              refine y_zne rfl rfl rfl (by decide) (fun g53 => absurd g53 (by decide)) (fun g53 => ?_)
              refine y_ld (x := iv 1) rfl rfl (fun d => rfl) ?_
              refine y_ic rfl rfl ?_
              refine y_jne rfl rfl rfl (by decide) (fun g54 => ?_) (fun g54 => absurd g54 (by decide))
              refine y_ic rfl rfl ?_
              refine y_bst (q := a.toNat) rfl rfl (md185 hM) (by omega) (by decide) (by omega) (by decide) ?_
              by_cases hk2 : κ = 2
              · have eA : awS A a h κ n 1 = _ := awS_2 hk2
                have hR2 : RWm (v_up (v_up (v_up V 188 a.toNat (aPa A a.toNat + 1)) 184 a.toNat 0) 185 a.toNat 0) (awS A a h κ n 1) := by
                  refine RWm_up (c := a.toNat) hR (fun t ht hc => ⟨(by rw [v_up_ne (by decide), v_up_ne (by decide), v_up_ne (by decide)]), (by rw [v_up_ne (by decide), v_up_ni hc, v_up_ne (by decide)]), (by rw [v_up_ni hc, v_up_ne (by decide), v_up_ne (by decide)]), (by rw [v_up_ne (by decide), v_up_ne (by decide), v_up_ne (by decide)]), (by rw [v_up_ne (by decide), v_up_ne (by decide), v_up_ne (by decide)]), (by rw [v_up_ne (by decide), v_up_ne (by decide), v_up_ni hc])⟩) (fun t hc => awS_fr hc) ?_
                  rw [eA]
                  exact ⟨(by rw [v_up_ne (by decide), v_up_ne (by decide), v_up_ne (by decide)]; exact b1), (by rw [v_up_ne (by decide), v_up_eq]; exact (congrArg b01 (uB_eq (aOp A) a.toNat false)).symm), (by rw [v_up_eq]; exact (congrArg b01 h_br).symm), (by rw [v_up_ne (by decide), v_up_ne (by decide), v_up_eq]; exact (v_uf_eq _ _ _).symm), (fun q => absurd ((uB_eq (aOp A) a.toNat false).symm.trans q) (by decide))⟩
                have hA2 := awO_S (t := a) (h := h) (k := κ) (n := n) (how := 1) hA hpk
                have hfq : FrQ V (v_up (v_up (v_up V 188 a.toNat (aPa A a.toNat + 1)) 184 a.toNat 0) 185 a.toNat 0) := fun k hk => by rw [v_up_ne (by omega), v_up_ne (by omega), v_up_ne (by omega)]
                refine y_ld (x := .ref 170) rfl rfl (fun d => rfl) ?_
                refine y_ld (x := iv form) rfl rfl (fun d => rfl) ?_
                refine y_ld (x := iv N) rfl rfl (fun d => rfl) ?_
                refine y_cV (as := [.ref 170, iv form, iv N]) rfl rfl rfl rfl rfl (md170 hM) ⟨rfl, (Nat.le_of_ble_eq_true rfl), (Nat.le_of_ble_eq_true rfl)⟩ (by decide) (ct_isKept hM hR2 hA2 (by omega) p1 hf hN (by rw [v_up_ne (by decide), v_up_ne (by decide), v_up_ne (by decide)]; exact hP.1) (fun hkp => ?_) (fun hkp => ?_))
                · refine y_nv ?_
                  refine y_zne rfl rfl rfl (by decide) (fun g55 => ?_) (fun g55 => absurd g55 (by decide))
                  refine y_lv (l' := [(0, .ref 170), (1, iv v1), (2, iv form), (3, iv N), (4, iv v4)]) rfl ⟨rfl, rfl, rfl, rfl, rfl, trivial⟩ ?_
                  refine y_mono (kk (fun q => ?_) _ hR2 hfq) (by omega)
                  rcases q with q | q
                  · rcases q.2 with ⟨q1, q2, q3⟩ | ⟨q1, q2⟩
                    · omega
                    · rw [eA] at q2; exact absurd (h_br.symm.trans q2) (by decide)
                  · exact q hkp
                · refine y_nv ?_
                  refine y_zne rfl rfl rfl (by decide) (fun g56 => absurd g56 (by decide)) (fun g56 => ?_)
                  refine y_ic rfl rfl ?_
                  refine y_rI rfl (by decide) ?_
                  exact kv (Or.inr hkp) _ hfq
              · have eA : awS A a h κ n 1 = _ := awS_x (by omega) hk2
                have hR2 : RWm (v_up (v_up (v_up V 188 a.toNat (aPa A a.toNat + 1)) 184 a.toNat 0) 185 a.toNat 0) (awS A a h κ n 1) := by
                  refine RWm_up (c := a.toNat) hR (fun t ht hc => ⟨(by rw [v_up_ne (by decide), v_up_ne (by decide), v_up_ne (by decide)]), (by rw [v_up_ne (by decide), v_up_ni hc, v_up_ne (by decide)]), (by rw [v_up_ni hc, v_up_ne (by decide), v_up_ne (by decide)]), (by rw [v_up_ne (by decide), v_up_ne (by decide), v_up_ne (by decide)]), (by rw [v_up_ne (by decide), v_up_ne (by decide), v_up_ne (by decide)]), (by rw [v_up_ne (by decide), v_up_ne (by decide), v_up_ni hc])⟩) (fun t hc => awS_fr hc) ?_
                  rw [eA]
                  exact ⟨(by rw [v_up_ne (by decide), v_up_ne (by decide), v_up_ne (by decide)]; exact b1), (by rw [v_up_ne (by decide), v_up_eq]; exact (congrArg b01 h_op).symm), (by rw [v_up_eq]; exact (congrArg b01 h_br).symm), (by rw [v_up_ne (by decide), v_up_ne (by decide), v_up_eq]; exact (v_uf_eq _ _ _).symm), (fun q => ⟨by rw [v_up_ne (by decide), v_up_ne (by decide), v_up_ne (by decide)]; exact (b5 q).1, by rw [v_up_ne (by decide), v_up_ne (by decide), v_up_ne (by decide)]; exact (b5 q).2⟩)⟩
                have hA2 := awO_S (t := a) (h := h) (k := κ) (n := n) (how := 1) hA hpk
                have hfq : FrQ V (v_up (v_up (v_up V 188 a.toNat (aPa A a.toNat + 1)) 184 a.toNat 0) 185 a.toNat 0) := fun k hk => by rw [v_up_ne (by omega), v_up_ne (by omega), v_up_ne (by omega)]
                refine y_ld (x := .ref 170) rfl rfl (fun d => rfl) ?_
                refine y_ld (x := iv form) rfl rfl (fun d => rfl) ?_
                refine y_ld (x := iv N) rfl rfl (fun d => rfl) ?_
                refine y_cV (as := [.ref 170, iv form, iv N]) rfl rfl rfl rfl rfl (md170 hM) ⟨rfl, (Nat.le_of_ble_eq_true rfl), (Nat.le_of_ble_eq_true rfl)⟩ (by decide) (ct_isKept hM hR2 hA2 (by omega) p1 hf hN (by rw [v_up_ne (by decide), v_up_ne (by decide), v_up_ne (by decide)]; exact hP.1) (fun hkp => ?_) (fun hkp => ?_))
                · refine y_nv ?_
                  refine y_zne rfl rfl rfl (by decide) (fun g57 => ?_) (fun g57 => absurd g57 (by decide))
                  refine y_lv (l' := [(0, .ref 170), (1, iv v1), (2, iv form), (3, iv N), (4, iv v4)]) rfl ⟨rfl, rfl, rfl, rfl, rfl, trivial⟩ ?_
                  refine y_mono (kk (fun q => ?_) _ hR2 hfq) (by omega)
                  rcases q with q | q
                  · rcases q.2 with ⟨q1, q2, q3⟩ | ⟨q1, q2⟩
                    · omega
                    · rw [eA] at q2; exact absurd (h_br.symm.trans q2) (by decide)
                  · exact q hkp
                · refine y_nv ?_
                  refine y_zne rfl rfl rfl (by decide) (fun g58 => absurd g58 (by decide)) (fun g58 => ?_)
                  refine y_ic rfl rfl ?_
                  refine y_rI rfl (by decide) ?_
                  exact kv (Or.inr hkp) _ hfq
            · refine y_bld (x := 1) (q := a.toNat) rfl rfl (md184 hM) (by omega) (by decide) (by omega) (by rw [v_up_ne (by decide)]; exact b2.trans (by rw [h_op]; rfl)) ?_
              refine y_zeq rfl rfl rfl (by decide) (fun g59 => absurd g59 (by decide)) (fun g59 => ?_)
              refine y_ld (x := .ref 170) rfl rfl (fun d => rfl) ?_
              refine y_gI (i := 19) (e := κ) rfl rfl rfl (md170 hM) rfl hP.2.2.1 ?_
              refine y_ic rfl rfl ?_
              refine y_jeq rfl rfl rfl (by omega) (fun g60 => ?_) (fun g60 => ?_)
              · refine y_ic rfl rfl ?_
                refine y_bst (q := a.toNat) rfl rfl (md184 hM) (by omega) (by decide) (by omega) (by decide) ?_
                refine y_ld (x := .ref 170) rfl rfl (fun d => rfl) ?_
                refine y_gR (i := 30) rfl rfl rfl (md170 hM) rfl ?_
                refine y_ld (x := .ref 170) rfl rfl (fun d => rfl) ?_
                refine y_gI (i := 17) (e := a) rfl rfl rfl (md170 hM) rfl hP.1 ?_
                refine y_ld (x := .ref 170) rfl rfl (fun d => rfl) ?_
                refine y_gR (i := 30) rfl rfl rfl (md170 hM) rfl ?_
                refine y_ld (x := .ref 170) rfl rfl (fun d => rfl) ?_
                refine y_gI (i := 17) (e := a) rfl rfl rfl (md170 hM) rfl hP.1 ?_
                refine y_bld (x := 0) (q := a.toNat) rfl rfl (md185 hM) (by omega) (by decide) (by omega) (by rw [v_up_ne (by decide), v_up_ne (by decide)]; exact b3.trans (by rw [h_br]; rfl)) ?_
                refine y_zne rfl rfl rfl (by decide) (fun g61 => absurd g61 (by decide)) (fun g61 => ?_)
                refine y_ld (x := iv 1) rfl rfl (fun d => rfl) ?_
                refine y_ic rfl rfl ?_
                refine y_jne rfl rfl rfl (by decide) (fun g62 => ?_) (fun g62 => absurd g62 (by decide))
                refine y_ic rfl rfl ?_
                refine y_bst (q := a.toNat) rfl rfl (md185 hM) (by omega) (by decide) (by omega) (by decide) ?_
                have eA : awS A a h κ n 1 = _ := awS_2 (by omega)
                have hR2 : RWm (v_up (v_up (v_up V 188 a.toNat (aPa A a.toNat + 1)) 184 a.toNat 0) 185 a.toNat 0) (awS A a h κ n 1) := by
                  refine RWm_up (c := a.toNat) hR (fun t ht hc => ⟨(by rw [v_up_ne (by decide), v_up_ne (by decide), v_up_ne (by decide)]), (by rw [v_up_ne (by decide), v_up_ni hc, v_up_ne (by decide)]), (by rw [v_up_ni hc, v_up_ne (by decide), v_up_ne (by decide)]), (by rw [v_up_ne (by decide), v_up_ne (by decide), v_up_ne (by decide)]), (by rw [v_up_ne (by decide), v_up_ne (by decide), v_up_ne (by decide)]), (by rw [v_up_ne (by decide), v_up_ne (by decide), v_up_ni hc])⟩) (fun t hc => awS_fr hc) ?_
                  rw [eA]
                  exact ⟨(by rw [v_up_ne (by decide), v_up_ne (by decide), v_up_ne (by decide)]; exact b1), (by rw [v_up_ne (by decide), v_up_eq]; exact (congrArg b01 (uB_eq (aOp A) a.toNat false)).symm), (by rw [v_up_eq]; exact (congrArg b01 h_br).symm), (by rw [v_up_ne (by decide), v_up_ne (by decide), v_up_eq]; exact (v_uf_eq _ _ _).symm), (fun q => absurd ((uB_eq (aOp A) a.toNat false).symm.trans q) (by decide))⟩
                have hA2 := awO_S (t := a) (h := h) (k := κ) (n := n) (how := 1) hA hpk
                have hfq : FrQ V (v_up (v_up (v_up V 188 a.toNat (aPa A a.toNat + 1)) 184 a.toNat 0) 185 a.toNat 0) := fun k hk => by rw [v_up_ne (by omega), v_up_ne (by omega), v_up_ne (by omega)]
                refine y_ld (x := .ref 170) rfl rfl (fun d => rfl) ?_
                refine y_ld (x := iv form) rfl rfl (fun d => rfl) ?_
                refine y_ld (x := iv N) rfl rfl (fun d => rfl) ?_
                refine y_cV (as := [.ref 170, iv form, iv N]) rfl rfl rfl rfl rfl (md170 hM) ⟨rfl, (Nat.le_of_ble_eq_true rfl), (Nat.le_of_ble_eq_true rfl)⟩ (by decide) (ct_isKept hM hR2 hA2 (by omega) p1 hf hN (by rw [v_up_ne (by decide), v_up_ne (by decide), v_up_ne (by decide)]; exact hP.1) (fun hkp => ?_) (fun hkp => ?_))
                · refine y_nv ?_
                  refine y_zne rfl rfl rfl (by decide) (fun g63 => ?_) (fun g63 => absurd g63 (by decide))
                  refine y_lv (l' := [(0, .ref 170), (1, iv v1), (2, iv form), (3, iv N), (4, iv v4)]) rfl ⟨rfl, rfl, rfl, rfl, rfl, trivial⟩ ?_
                  refine y_mono (kk (fun q => ?_) _ hR2 hfq) (by omega)
                  rcases q with q | q
                  · rcases q.2 with ⟨q1, q2, q3⟩ | ⟨q1, q2⟩
                    · omega
                    · rw [eA] at q2; exact absurd (h_br.symm.trans q2) (by decide)
                  · exact q hkp
                · refine y_nv ?_
                  refine y_zne rfl rfl rfl (by decide) (fun g64 => absurd g64 (by decide)) (fun g64 => ?_)
                  refine y_ic rfl rfl ?_
                  refine y_rI rfl (by decide) ?_
                  exact kv (Or.inr hkp) _ hfq
              · refine y_ic rfl rfl ?_
                refine y_go rfl rfl ?_
                refine y_bst (q := a.toNat) rfl rfl (md184 hM) (by omega) (by decide) (by omega) (by decide) ?_
                refine y_ld (x := .ref 170) rfl rfl (fun d => rfl) ?_
                refine y_gR (i := 30) rfl rfl rfl (md170 hM) rfl ?_
                refine y_ld (x := .ref 170) rfl rfl (fun d => rfl) ?_
                refine y_gI (i := 17) (e := a) rfl rfl rfl (md170 hM) rfl hP.1 ?_
                refine y_ld (x := .ref 170) rfl rfl (fun d => rfl) ?_
                refine y_gR (i := 30) rfl rfl rfl (md170 hM) rfl ?_
                refine y_ld (x := .ref 170) rfl rfl (fun d => rfl) ?_
                refine y_gI (i := 17) (e := a) rfl rfl rfl (md170 hM) rfl hP.1 ?_
                refine y_bld (x := 0) (q := a.toNat) rfl rfl (md185 hM) (by omega) (by decide) (by omega) (by rw [v_up_ne (by decide), v_up_ne (by decide)]; exact b3.trans (by rw [h_br]; rfl)) ?_
                refine y_zne rfl rfl rfl (by decide) (fun g65 => absurd g65 (by decide)) (fun g65 => ?_)
                refine y_ld (x := iv 1) rfl rfl (fun d => rfl) ?_
                refine y_ic rfl rfl ?_
                refine y_jne rfl rfl rfl (by decide) (fun g66 => ?_) (fun g66 => absurd g66 (by decide))
                refine y_ic rfl rfl ?_
                refine y_bst (q := a.toNat) rfl rfl (md185 hM) (by omega) (by decide) (by omega) (by decide) ?_
                have eA : awS A a h κ n 1 = _ := awS_x (by omega) (by omega)
                have hR2 : RWm (v_up (v_up (v_up V 188 a.toNat (aPa A a.toNat + 1)) 184 a.toNat 1) 185 a.toNat 0) (awS A a h κ n 1) := by
                  refine RWm_up (c := a.toNat) hR (fun t ht hc => ⟨(by rw [v_up_ne (by decide), v_up_ne (by decide), v_up_ne (by decide)]), (by rw [v_up_ne (by decide), v_up_ni hc, v_up_ne (by decide)]), (by rw [v_up_ni hc, v_up_ne (by decide), v_up_ne (by decide)]), (by rw [v_up_ne (by decide), v_up_ne (by decide), v_up_ne (by decide)]), (by rw [v_up_ne (by decide), v_up_ne (by decide), v_up_ne (by decide)]), (by rw [v_up_ne (by decide), v_up_ne (by decide), v_up_ni hc])⟩) (fun t hc => awS_fr hc) ?_
                  rw [eA]
                  exact ⟨(by rw [v_up_ne (by decide), v_up_ne (by decide), v_up_ne (by decide)]; exact b1), (by rw [v_up_ne (by decide), v_up_eq]; exact (congrArg b01 h_op).symm), (by rw [v_up_eq]; exact (congrArg b01 h_br).symm), (by rw [v_up_ne (by decide), v_up_ne (by decide), v_up_eq]; exact (v_uf_eq _ _ _).symm), (fun q => ⟨by rw [v_up_ne (by decide), v_up_ne (by decide), v_up_ne (by decide)]; exact (b5 q).1, by rw [v_up_ne (by decide), v_up_ne (by decide), v_up_ne (by decide)]; exact (b5 q).2⟩)⟩
                have hA2 := awO_S (t := a) (h := h) (k := κ) (n := n) (how := 1) hA hpk
                have hfq : FrQ V (v_up (v_up (v_up V 188 a.toNat (aPa A a.toNat + 1)) 184 a.toNat 1) 185 a.toNat 0) := fun k hk => by rw [v_up_ne (by omega), v_up_ne (by omega), v_up_ne (by omega)]
                refine y_ld (x := .ref 170) rfl rfl (fun d => rfl) ?_
                refine y_ld (x := iv form) rfl rfl (fun d => rfl) ?_
                refine y_ld (x := iv N) rfl rfl (fun d => rfl) ?_
                refine y_cV (as := [.ref 170, iv form, iv N]) rfl rfl rfl rfl rfl (md170 hM) ⟨rfl, (Nat.le_of_ble_eq_true rfl), (Nat.le_of_ble_eq_true rfl)⟩ (by decide) (ct_isKept hM hR2 hA2 (by omega) p1 hf hN (by rw [v_up_ne (by decide), v_up_ne (by decide), v_up_ne (by decide)]; exact hP.1) (fun hkp => ?_) (fun hkp => ?_))
                · refine y_nv ?_
                  refine y_zne rfl rfl rfl (by decide) (fun g67 => ?_) (fun g67 => absurd g67 (by decide))
                  refine y_lv (l' := [(0, .ref 170), (1, iv v1), (2, iv form), (3, iv N), (4, iv v4)]) rfl ⟨rfl, rfl, rfl, rfl, rfl, trivial⟩ ?_
                  refine y_mono (kk (fun q => ?_) _ hR2 hfq) (by omega)
                  rcases q with q | q
                  · rcases q.2 with ⟨q1, q2, q3⟩ | ⟨q1, q2⟩
                    · omega
                    · rw [eA] at q2; exact absurd (h_br.symm.trans q2) (by decide)
                  · exact q hkp
                · refine y_nv ?_
                  refine y_zne rfl rfl rfl (by decide) (fun g68 => absurd g68 (by decide)) (fun g68 => ?_)
                  refine y_ic rfl rfl ?_
                  refine y_rI rfl (by decide) ?_
                  exact kv (Or.inr hkp) _ hfq
          · refine y_ld (x := .ref 170) rfl rfl (fun d => rfl) ?_
            refine y_gR (i := 28) rfl rfl rfl (md170 hM) rfl ?_
            refine y_ld (x := .ref 170) rfl rfl (fun d => rfl) ?_
            refine y_gI (i := 17) (e := a) rfl rfl rfl (md170 hM) rfl hP.1 ?_
            refine y_ic rfl rfl ?_
            refine y_bst (q := a.toNat) rfl rfl (md183 hM) (by omega) (by decide) (by omega) (by decide) ?_
            refine y_ld (x := .ref 170) rfl rfl (fun d => rfl) ?_
            refine y_gR (i := 29) rfl rfl rfl (md170 hM) rfl ?_
            refine y_ld (x := .ref 170) rfl rfl (fun d => rfl) ?_
            refine y_gI (i := 17) (e := a) rfl rfl rfl (md170 hM) rfl hP.1 ?_
            refine y_ic rfl rfl ?_
            refine y_bst (q := a.toNat) rfl rfl (md184 hM) (by omega) (by decide) (by omega) (by decide) ?_
            refine y_ld (x := .ref 170) rfl rfl (fun d => rfl) ?_
            refine y_gR (i := 31) rfl rfl rfl (md170 hM) rfl ?_
            refine y_ld (x := .ref 170) rfl rfl (fun d => rfl) ?_
            refine y_gI (i := 17) (e := a) rfl rfl rfl (md170 hM) rfl hP.1 ?_
            refine y_ld (x := .ref 170) rfl rfl (fun d => rfl) ?_
            refine y_gI (i := 18) (e := h) rfl rfl rfl (md170 hM) rfl hP.2.1 ?_
            refine y_ist (q := a.toNat) rfl rfl (md186 hM) (by omega) (by decide) (by omega) ?_
            refine y_ld (x := .ref 170) rfl rfl (fun d => rfl) ?_
            refine y_gR (i := 32) rfl rfl rfl (md170 hM) rfl ?_
            refine y_ld (x := .ref 170) rfl rfl (fun d => rfl) ?_
            refine y_gI (i := 17) (e := a) rfl rfl rfl (md170 hM) rfl hP.1 ?_
            refine y_ld (x := .ref 170) rfl rfl (fun d => rfl) ?_
            refine y_gI (i := 20) (e := n) rfl rfl rfl (md170 hM) rfl hP.2.2.2 ?_
            refine y_ist (q := a.toNat) rfl rfl (md187 hM) (by omega) (by decide) (by omega) ?_
            refine y_ld (x := .ref 170) rfl rfl (fun d => rfl) ?_
            refine y_gR (i := 29) rfl rfl rfl (md170 hM) rfl ?_
            refine y_ld (x := .ref 170) rfl rfl (fun d => rfl) ?_
            refine y_gI (i := 17) (e := a) rfl rfl rfl (md170 hM) rfl hP.1 ?_
            refine y_ld (x := .ref 170) rfl rfl (fun d => rfl) ?_
            refine y_gR (i := 29) rfl rfl rfl (md170 hM) rfl ?_
            refine y_ld (x := .ref 170) rfl rfl (fun d => rfl) ?_
            refine y_gI (i := 17) (e := a) rfl rfl rfl (md170 hM) rfl hP.1 ?_
            refine y_bld (x := 1) (q := a.toNat) rfl rfl (md184 hM) (by omega) (by decide) (by omega) (by rw [v_up_ne (by decide), v_up_ne (by decide), v_up_eq]) ?_
            refine y_zeq rfl rfl rfl (by decide) (fun g69 => absurd g69 (by decide)) (fun g69 => ?_)
            refine y_ld (x := .ref 170) rfl rfl (fun d => rfl) ?_
            refine y_gI (i := 19) (e := κ) rfl rfl rfl (md170 hM) rfl hP.2.2.1 ?_
            refine y_ic rfl rfl ?_
            refine y_jeq rfl rfl rfl (by omega) (fun g70 => absurd g70 (by omega)) (fun g70 => ?_)
            refine y_ic rfl rfl ?_
            refine y_go rfl rfl ?_
            refine y_bst (q := a.toNat) rfl rfl (md184 hM) (by omega) (by decide) (by omega) (by decide) ?_
            refine y_ld (x := .ref 170) rfl rfl (fun d => rfl) ?_
            refine y_gR (i := 30) rfl rfl rfl (md170 hM) rfl ?_
            refine y_ld (x := .ref 170) rfl rfl (fun d => rfl) ?_
            refine y_gI (i := 17) (e := a) rfl rfl rfl (md170 hM) rfl hP.1 ?_
            refine y_ld (x := .ref 170) rfl rfl (fun d => rfl) ?_
            refine y_gR (i := 30) rfl rfl rfl (md170 hM) rfl ?_
            refine y_ld (x := .ref 170) rfl rfl (fun d => rfl) ?_
            refine y_gI (i := 17) (e := a) rfl rfl rfl (md170 hM) rfl hP.1 ?_
            refine y_bld (x := 0) (q := a.toNat) rfl rfl (md185 hM) (by omega) (by decide) (by omega) (by rw [v_up_ne (by decide), v_up_ne (by decide), v_up_ne (by decide), v_up_ne (by decide), v_up_ne (by decide), v_up_ne (by decide)]; exact b3.trans (by rw [h_br]; rfl)) ?_
            refine y_zne rfl rfl rfl (by decide) (fun g71 => absurd g71 (by decide)) (fun g71 => ?_)
            refine y_ld (x := iv 1) rfl rfl (fun d => rfl) ?_
            refine y_ic rfl rfl ?_
            refine y_jne rfl rfl rfl (by decide) (fun g72 => ?_) (fun g72 => absurd g72 (by decide))
            refine y_ic rfl rfl ?_
            refine y_bst (q := a.toNat) rfl rfl (md185 hM) (by omega) (by decide) (by omega) (by decide) ?_
            have eA : awS A a h κ n 1 = _ := awS_0 (by omega)
            have hR2 : RWm (v_up (v_up (v_up (v_up (v_up (v_up (v_up V 188 a.toNat (aPa A a.toNat + 1)) 183 a.toNat 1) 184 a.toNat 1) 186 a.toNat h) 187 a.toNat n) 184 a.toNat 1) 185 a.toNat 0) (awS A a h κ n 1) := by
              refine RWm_up (c := a.toNat) hR (fun t ht hc => ⟨(by rw [v_up_ne (by decide), v_up_ne (by decide), v_up_ne (by decide), v_up_ne (by decide), v_up_ne (by decide), v_up_ni hc, v_up_ne (by decide)]), (by rw [v_up_ne (by decide), v_up_ni hc, v_up_ne (by decide), v_up_ne (by decide), v_up_ni hc, v_up_ne (by decide), v_up_ne (by decide)]), (by rw [v_up_ni hc, v_up_ne (by decide), v_up_ne (by decide), v_up_ne (by decide), v_up_ne (by decide), v_up_ne (by decide), v_up_ne (by decide)]), (by rw [v_up_ne (by decide), v_up_ne (by decide), v_up_ne (by decide), v_up_ni hc, v_up_ne (by decide), v_up_ne (by decide), v_up_ne (by decide)]), (by rw [v_up_ne (by decide), v_up_ne (by decide), v_up_ni hc, v_up_ne (by decide), v_up_ne (by decide), v_up_ne (by decide), v_up_ne (by decide)]), (by rw [v_up_ne (by decide), v_up_ne (by decide), v_up_ne (by decide), v_up_ne (by decide), v_up_ne (by decide), v_up_ne (by decide), v_up_ni hc])⟩) (fun t hc => awS_fr hc) ?_
              rw [eA]
              exact ⟨(by rw [v_up_ne (by decide), v_up_ne (by decide), v_up_ne (by decide), v_up_ne (by decide), v_up_ne (by decide), v_up_eq]; exact (congrArg b01 (uB_eq (aBg A) a.toNat true)).symm), (by rw [v_up_ne (by decide), v_up_eq]; exact (congrArg b01 (uB_eq (aOp A) a.toNat true)).symm), (by rw [v_up_eq]; exact (congrArg b01 h_br).symm), (by rw [v_up_ne (by decide), v_up_ne (by decide), v_up_ne (by decide), v_up_ne (by decide), v_up_ne (by decide), v_up_ne (by decide), v_up_eq]; exact (v_uf_eq _ _ _).symm), (fun _ => ⟨by rw [v_up_ne (by decide), v_up_ne (by decide), v_up_ne (by decide), v_up_eq]; exact (v_uf_eq _ _ _).symm, by rw [v_up_ne (by decide), v_up_ne (by decide), v_up_eq]; exact (v_uf_eq _ _ _).symm⟩)⟩
            have hA2 := awO_S (t := a) (h := h) (k := κ) (n := n) (how := 1) hA hpk
            have hfq : FrQ V (v_up (v_up (v_up (v_up (v_up (v_up (v_up V 188 a.toNat (aPa A a.toNat + 1)) 183 a.toNat 1) 184 a.toNat 1) 186 a.toNat h) 187 a.toNat n) 184 a.toNat 1) 185 a.toNat 0) := fun k hk => by rw [v_up_ne (by omega), v_up_ne (by omega), v_up_ne (by omega), v_up_ne (by omega), v_up_ne (by omega), v_up_ne (by omega), v_up_ne (by omega)]
            refine y_ld (x := .ref 170) rfl rfl (fun d => rfl) ?_
            refine y_ld (x := iv form) rfl rfl (fun d => rfl) ?_
            refine y_ld (x := iv N) rfl rfl (fun d => rfl) ?_
            refine y_cV (as := [.ref 170, iv form, iv N]) rfl rfl rfl rfl rfl (md170 hM) ⟨rfl, (Nat.le_of_ble_eq_true rfl), (Nat.le_of_ble_eq_true rfl)⟩ (by decide) (ct_isKept hM hR2 hA2 (by omega) p1 hf hN (by rw [v_up_ne (by decide), v_up_ne (by decide), v_up_ne (by decide), v_up_ne (by decide), v_up_ne (by decide), v_up_ne (by decide), v_up_ne (by decide)]; exact hP.1) (fun hkp => ?_) (fun hkp => ?_))
            · refine y_nv ?_
              refine y_zne rfl rfl rfl (by decide) (fun g73 => ?_) (fun g73 => absurd g73 (by decide))
              refine y_lv (l' := [(0, .ref 170), (1, iv v1), (2, iv form), (3, iv N), (4, iv v4)]) rfl ⟨rfl, rfl, rfl, rfl, rfl, trivial⟩ ?_
              refine y_mono (kk (fun q => ?_) _ hR2 hfq) (by omega)
              rcases q with q | q
              · rcases q.2 with ⟨q1, q2, q3⟩ | ⟨q1, q2⟩
                · omega
                · rw [eA] at q2; exact absurd (h_br.symm.trans q2) (by decide)
              · exact q hkp
            · refine y_nv ?_
              refine y_zne rfl rfl rfl (by decide) (fun g74 => absurd g74 (by decide)) (fun g74 => ?_)
              refine y_ic rfl rfl ?_
              refine y_rI rfl (by decide) ?_
              exact kv (Or.inr hkp) _ hfq
        · refine y_bld (x := 1) (q := a.toNat) rfl rfl (md185 hM) (by omega) (by decide) (by omega) (by rw [v_up_ne (by decide)]; exact b3.trans (by rw [h_br]; rfl)) ?_
          refine y_zeq rfl rfl rfl (by decide) (fun g75 => absurd g75 (by decide)) (fun g75 => ?_)
          refine y_ic rfl rfl ?_
          refine y_rI rfl (by decide) ?_
          have hfq : FrQ V (v_up V 188 a.toNat (aPa A a.toNat + 1)) := fun k hk => by rw [v_up_ne (by omega)]
          have e3 : aBr (awS A a h κ n 1) a.toNat = aBr A a.toNat := by
            by_cases h0 : κ = 0
            · rw [awS_0 h0]; rfl
            · by_cases h2 : κ = 2
              · rw [awS_2 h2]; rfl
              · rw [awS_x h0 h2]; rfl
          exact kv (Or.inl ⟨rfl, Or.inr ⟨by omega, e3.trans h_br⟩⟩) _ hfq
    · refine y_ld (x := .ref 170) rfl rfl (fun d => rfl) ?_
      refine y_gI (i := 19) (e := κ) rfl rfl rfl (md170 hM) rfl hP.2.2.1 ?_
      refine y_ic rfl rfl ?_
      refine y_jne rfl rfl rfl (by omega) (fun g76 => ?_) (fun g76 => ?_)
      · refine y_ld (x := iv form) rfl rfl (fun d => rfl) ?_
        refine y_ic rfl rfl ?_
        refine y_jne rfl rfl rfl (by omega) (fun g77 => ?_) (fun g77 => ?_)
        · refine y_ld (x := .ref 170) rfl rfl (fun d => rfl) ?_
          refine y_gI (i := 19) (e := κ) rfl rfl rfl (md170 hM) rfl hP.2.2.1 ?_
          refine y_zne rfl rfl rfl (by omega) (fun g78 => ?_) (fun g78 => ?_)
          · refine y_ld (x := .ref 170) rfl rfl (fun d => rfl) ?_
            refine y_gR (i := 29) rfl rfl rfl (md170 hM) rfl ?_
            refine y_ld (x := .ref 170) rfl rfl (fun d => rfl) ?_
            refine y_gI (i := 17) (e := a) rfl rfl rfl (md170 hM) rfl hP.1 ?_
            refine y_ld (x := .ref 170) rfl rfl (fun d => rfl) ?_
            refine y_gR (i := 29) rfl rfl rfl (md170 hM) rfl ?_
            refine y_ld (x := .ref 170) rfl rfl (fun d => rfl) ?_
            refine y_gI (i := 17) (e := a) rfl rfl rfl (md170 hM) rfl hP.1 ?_
            cases h_op : aOp A a.toNat
            · refine y_bld (x := 0) (q := a.toNat) rfl rfl (md184 hM) (by omega) (by decide) (by omega) (by rw [v_up_ne (by decide)]; exact b2.trans (by rw [h_op]; rfl)) ?_
              refine y_zeq rfl rfl rfl (by decide) (fun g79 => ?_) (fun g79 => absurd g79 (by decide))
              refine y_ic rfl rfl ?_
              refine y_bst (q := a.toNat) rfl rfl (md184 hM) (by omega) (by decide) (by omega) (by decide) ?_
              refine y_ld (x := .ref 170) rfl rfl (fun d => rfl) ?_
              refine y_gR (i := 30) rfl rfl rfl (md170 hM) rfl ?_
              refine y_ld (x := .ref 170) rfl rfl (fun d => rfl) ?_
              refine y_gI (i := 17) (e := a) rfl rfl rfl (md170 hM) rfl hP.1 ?_
              refine y_ld (x := .ref 170) rfl rfl (fun d => rfl) ?_
              refine y_gR (i := 30) rfl rfl rfl (md170 hM) rfl ?_
              refine y_ld (x := .ref 170) rfl rfl (fun d => rfl) ?_
              refine y_gI (i := 17) (e := a) rfl rfl rfl (md170 hM) rfl hP.1 ?_
              cases h_br : aBr A a.toNat
              · refine y_bld (x := 0) (q := a.toNat) rfl rfl (md185 hM) (by omega) (by decide) (by omega) (by rw [v_up_ne (by decide), v_up_ne (by decide)]; exact b3.trans (by rw [h_br]; rfl)) ?_
                refine y_zne rfl rfl rfl (by decide) (fun g80 => absurd g80 (by decide)) (fun g80 => ?_)
                refine y_ld (x := iv 1) rfl rfl (fun d => rfl) ?_
                refine y_ic rfl rfl ?_
                refine y_jne rfl rfl rfl (by decide) (fun g81 => ?_) (fun g81 => absurd g81 (by decide))
                refine y_ic rfl rfl ?_
                refine y_bst (q := a.toNat) rfl rfl (md185 hM) (by omega) (by decide) (by omega) (by decide) ?_
                by_cases hk2 : κ = 2
                · have eA : awS A a h κ n 1 = _ := awS_2 hk2
                  have hR2 : RWm (v_up (v_up (v_up V 188 a.toNat (aPa A a.toNat + 1)) 184 a.toNat 0) 185 a.toNat 0) (awS A a h κ n 1) := by
                    refine RWm_up (c := a.toNat) hR (fun t ht hc => ⟨(by rw [v_up_ne (by decide), v_up_ne (by decide), v_up_ne (by decide)]), (by rw [v_up_ne (by decide), v_up_ni hc, v_up_ne (by decide)]), (by rw [v_up_ni hc, v_up_ne (by decide), v_up_ne (by decide)]), (by rw [v_up_ne (by decide), v_up_ne (by decide), v_up_ne (by decide)]), (by rw [v_up_ne (by decide), v_up_ne (by decide), v_up_ne (by decide)]), (by rw [v_up_ne (by decide), v_up_ne (by decide), v_up_ni hc])⟩) (fun t hc => awS_fr hc) ?_
                    rw [eA]
                    exact ⟨(by rw [v_up_ne (by decide), v_up_ne (by decide), v_up_ne (by decide)]; exact b1), (by rw [v_up_ne (by decide), v_up_eq]; exact (congrArg b01 (uB_eq (aOp A) a.toNat false)).symm), (by rw [v_up_eq]; exact (congrArg b01 h_br).symm), (by rw [v_up_ne (by decide), v_up_ne (by decide), v_up_eq]; exact (v_uf_eq _ _ _).symm), (fun q => absurd ((uB_eq (aOp A) a.toNat false).symm.trans q) (by decide))⟩
                  have hA2 := awO_S (t := a) (h := h) (k := κ) (n := n) (how := 1) hA hpk
                  have hfq : FrQ V (v_up (v_up (v_up V 188 a.toNat (aPa A a.toNat + 1)) 184 a.toNat 0) 185 a.toNat 0) := fun k hk => by rw [v_up_ne (by omega), v_up_ne (by omega), v_up_ne (by omega)]
                  refine y_ld (x := .ref 170) rfl rfl (fun d => rfl) ?_
                  refine y_ld (x := iv form) rfl rfl (fun d => rfl) ?_
                  refine y_ld (x := iv N) rfl rfl (fun d => rfl) ?_
                  refine y_cV (as := [.ref 170, iv form, iv N]) rfl rfl rfl rfl rfl (md170 hM) ⟨rfl, (Nat.le_of_ble_eq_true rfl), (Nat.le_of_ble_eq_true rfl)⟩ (by decide) (ct_isKept hM hR2 hA2 (by omega) p1 hf hN (by rw [v_up_ne (by decide), v_up_ne (by decide), v_up_ne (by decide)]; exact hP.1) (fun hkp => ?_) (fun hkp => ?_))
                  · refine y_nv ?_
                    refine y_zne rfl rfl rfl (by decide) (fun g82 => ?_) (fun g82 => absurd g82 (by decide))
                    refine y_lv (l' := [(0, .ref 170), (1, iv v1), (2, iv form), (3, iv N), (4, iv v4)]) rfl ⟨rfl, rfl, rfl, rfl, rfl, trivial⟩ ?_
                    refine y_mono (kk (fun q => ?_) _ hR2 hfq) (by omega)
                    rcases q with q | q
                    · rcases q.2 with ⟨q1, q2, q3⟩ | ⟨q1, q2⟩
                      · omega
                      · omega
                    · exact q hkp
                  · refine y_nv ?_
                    refine y_zne rfl rfl rfl (by decide) (fun g83 => absurd g83 (by decide)) (fun g83 => ?_)
                    refine y_ic rfl rfl ?_
                    refine y_rI rfl (by decide) ?_
                    exact kv (Or.inr hkp) _ hfq
                · have eA : awS A a h κ n 1 = _ := awS_x (by omega) hk2
                  have hR2 : RWm (v_up (v_up (v_up V 188 a.toNat (aPa A a.toNat + 1)) 184 a.toNat 0) 185 a.toNat 0) (awS A a h κ n 1) := by
                    refine RWm_up (c := a.toNat) hR (fun t ht hc => ⟨(by rw [v_up_ne (by decide), v_up_ne (by decide), v_up_ne (by decide)]), (by rw [v_up_ne (by decide), v_up_ni hc, v_up_ne (by decide)]), (by rw [v_up_ni hc, v_up_ne (by decide), v_up_ne (by decide)]), (by rw [v_up_ne (by decide), v_up_ne (by decide), v_up_ne (by decide)]), (by rw [v_up_ne (by decide), v_up_ne (by decide), v_up_ne (by decide)]), (by rw [v_up_ne (by decide), v_up_ne (by decide), v_up_ni hc])⟩) (fun t hc => awS_fr hc) ?_
                    rw [eA]
                    exact ⟨(by rw [v_up_ne (by decide), v_up_ne (by decide), v_up_ne (by decide)]; exact b1), (by rw [v_up_ne (by decide), v_up_eq]; exact (congrArg b01 h_op).symm), (by rw [v_up_eq]; exact (congrArg b01 h_br).symm), (by rw [v_up_ne (by decide), v_up_ne (by decide), v_up_eq]; exact (v_uf_eq _ _ _).symm), (fun q => ⟨by rw [v_up_ne (by decide), v_up_ne (by decide), v_up_ne (by decide)]; exact (b5 q).1, by rw [v_up_ne (by decide), v_up_ne (by decide), v_up_ne (by decide)]; exact (b5 q).2⟩)⟩
                  have hA2 := awO_S (t := a) (h := h) (k := κ) (n := n) (how := 1) hA hpk
                  have hfq : FrQ V (v_up (v_up (v_up V 188 a.toNat (aPa A a.toNat + 1)) 184 a.toNat 0) 185 a.toNat 0) := fun k hk => by rw [v_up_ne (by omega), v_up_ne (by omega), v_up_ne (by omega)]
                  refine y_ld (x := .ref 170) rfl rfl (fun d => rfl) ?_
                  refine y_ld (x := iv form) rfl rfl (fun d => rfl) ?_
                  refine y_ld (x := iv N) rfl rfl (fun d => rfl) ?_
                  refine y_cV (as := [.ref 170, iv form, iv N]) rfl rfl rfl rfl rfl (md170 hM) ⟨rfl, (Nat.le_of_ble_eq_true rfl), (Nat.le_of_ble_eq_true rfl)⟩ (by decide) (ct_isKept hM hR2 hA2 (by omega) p1 hf hN (by rw [v_up_ne (by decide), v_up_ne (by decide), v_up_ne (by decide)]; exact hP.1) (fun hkp => ?_) (fun hkp => ?_))
                  · refine y_nv ?_
                    refine y_zne rfl rfl rfl (by decide) (fun g84 => ?_) (fun g84 => absurd g84 (by decide))
                    refine y_lv (l' := [(0, .ref 170), (1, iv v1), (2, iv form), (3, iv N), (4, iv v4)]) rfl ⟨rfl, rfl, rfl, rfl, rfl, trivial⟩ ?_
                    refine y_mono (kk (fun q => ?_) _ hR2 hfq) (by omega)
                    rcases q with q | q
                    · rcases q.2 with ⟨q1, q2, q3⟩ | ⟨q1, q2⟩
                      · omega
                      · omega
                    · exact q hkp
                  · refine y_nv ?_
                    refine y_zne rfl rfl rfl (by decide) (fun g85 => absurd g85 (by decide)) (fun g85 => ?_)
                    refine y_ic rfl rfl ?_
                    refine y_rI rfl (by decide) ?_
                    exact kv (Or.inr hkp) _ hfq
              · refine y_bld (x := 1) (q := a.toNat) rfl rfl (md185 hM) (by omega) (by decide) (by omega) (by rw [v_up_ne (by decide), v_up_ne (by decide)]; exact b3.trans (by rw [h_br]; rfl)) ?_
                refine y_zne rfl rfl rfl (by decide) (fun g86 => ?_) (fun g86 => absurd g86 (by decide))
                refine y_ic rfl rfl ?_
                refine y_go rfl rfl ?_
                refine y_bst (q := a.toNat) rfl rfl (md185 hM) (by omega) (by decide) (by omega) (by decide) ?_
                by_cases hk2 : κ = 2
                · have eA : awS A a h κ n 1 = _ := awS_2 hk2
                  have hR2 : RWm (v_up (v_up (v_up V 188 a.toNat (aPa A a.toNat + 1)) 184 a.toNat 0) 185 a.toNat 1) (awS A a h κ n 1) := by
                    refine RWm_up (c := a.toNat) hR (fun t ht hc => ⟨(by rw [v_up_ne (by decide), v_up_ne (by decide), v_up_ne (by decide)]), (by rw [v_up_ne (by decide), v_up_ni hc, v_up_ne (by decide)]), (by rw [v_up_ni hc, v_up_ne (by decide), v_up_ne (by decide)]), (by rw [v_up_ne (by decide), v_up_ne (by decide), v_up_ne (by decide)]), (by rw [v_up_ne (by decide), v_up_ne (by decide), v_up_ne (by decide)]), (by rw [v_up_ne (by decide), v_up_ne (by decide), v_up_ni hc])⟩) (fun t hc => awS_fr hc) ?_
                    rw [eA]
                    exact ⟨(by rw [v_up_ne (by decide), v_up_ne (by decide), v_up_ne (by decide)]; exact b1), (by rw [v_up_ne (by decide), v_up_eq]; exact (congrArg b01 (uB_eq (aOp A) a.toNat false)).symm), (by rw [v_up_eq]; exact (congrArg b01 h_br).symm), (by rw [v_up_ne (by decide), v_up_ne (by decide), v_up_eq]; exact (v_uf_eq _ _ _).symm), (fun q => absurd ((uB_eq (aOp A) a.toNat false).symm.trans q) (by decide))⟩
                  have hA2 := awO_S (t := a) (h := h) (k := κ) (n := n) (how := 1) hA hpk
                  have hfq : FrQ V (v_up (v_up (v_up V 188 a.toNat (aPa A a.toNat + 1)) 184 a.toNat 0) 185 a.toNat 1) := fun k hk => by rw [v_up_ne (by omega), v_up_ne (by omega), v_up_ne (by omega)]
                  refine y_ld (x := .ref 170) rfl rfl (fun d => rfl) ?_
                  refine y_ld (x := iv form) rfl rfl (fun d => rfl) ?_
                  refine y_ld (x := iv N) rfl rfl (fun d => rfl) ?_
                  refine y_cV (as := [.ref 170, iv form, iv N]) rfl rfl rfl rfl rfl (md170 hM) ⟨rfl, (Nat.le_of_ble_eq_true rfl), (Nat.le_of_ble_eq_true rfl)⟩ (by decide) (ct_isKept hM hR2 hA2 (by omega) p1 hf hN (by rw [v_up_ne (by decide), v_up_ne (by decide), v_up_ne (by decide)]; exact hP.1) (fun hkp => ?_) (fun hkp => ?_))
                  · refine y_nv ?_
                    refine y_zne rfl rfl rfl (by decide) (fun g87 => ?_) (fun g87 => absurd g87 (by decide))
                    refine y_lv (l' := [(0, .ref 170), (1, iv v1), (2, iv form), (3, iv N), (4, iv v4)]) rfl ⟨rfl, rfl, rfl, rfl, rfl, trivial⟩ ?_
                    refine y_mono (kk (fun q => ?_) _ hR2 hfq) (by omega)
                    rcases q with q | q
                    · rcases q.2 with ⟨q1, q2, q3⟩ | ⟨q1, q2⟩
                      · omega
                      · omega
                    · exact q hkp
                  · refine y_nv ?_
                    refine y_zne rfl rfl rfl (by decide) (fun g88 => absurd g88 (by decide)) (fun g88 => ?_)
                    refine y_ic rfl rfl ?_
                    refine y_rI rfl (by decide) ?_
                    exact kv (Or.inr hkp) _ hfq
                · have eA : awS A a h κ n 1 = _ := awS_x (by omega) hk2
                  have hR2 : RWm (v_up (v_up (v_up V 188 a.toNat (aPa A a.toNat + 1)) 184 a.toNat 0) 185 a.toNat 1) (awS A a h κ n 1) := by
                    refine RWm_up (c := a.toNat) hR (fun t ht hc => ⟨(by rw [v_up_ne (by decide), v_up_ne (by decide), v_up_ne (by decide)]), (by rw [v_up_ne (by decide), v_up_ni hc, v_up_ne (by decide)]), (by rw [v_up_ni hc, v_up_ne (by decide), v_up_ne (by decide)]), (by rw [v_up_ne (by decide), v_up_ne (by decide), v_up_ne (by decide)]), (by rw [v_up_ne (by decide), v_up_ne (by decide), v_up_ne (by decide)]), (by rw [v_up_ne (by decide), v_up_ne (by decide), v_up_ni hc])⟩) (fun t hc => awS_fr hc) ?_
                    rw [eA]
                    exact ⟨(by rw [v_up_ne (by decide), v_up_ne (by decide), v_up_ne (by decide)]; exact b1), (by rw [v_up_ne (by decide), v_up_eq]; exact (congrArg b01 h_op).symm), (by rw [v_up_eq]; exact (congrArg b01 h_br).symm), (by rw [v_up_ne (by decide), v_up_ne (by decide), v_up_eq]; exact (v_uf_eq _ _ _).symm), (fun q => ⟨by rw [v_up_ne (by decide), v_up_ne (by decide), v_up_ne (by decide)]; exact (b5 q).1, by rw [v_up_ne (by decide), v_up_ne (by decide), v_up_ne (by decide)]; exact (b5 q).2⟩)⟩
                  have hA2 := awO_S (t := a) (h := h) (k := κ) (n := n) (how := 1) hA hpk
                  have hfq : FrQ V (v_up (v_up (v_up V 188 a.toNat (aPa A a.toNat + 1)) 184 a.toNat 0) 185 a.toNat 1) := fun k hk => by rw [v_up_ne (by omega), v_up_ne (by omega), v_up_ne (by omega)]
                  refine y_ld (x := .ref 170) rfl rfl (fun d => rfl) ?_
                  refine y_ld (x := iv form) rfl rfl (fun d => rfl) ?_
                  refine y_ld (x := iv N) rfl rfl (fun d => rfl) ?_
                  refine y_cV (as := [.ref 170, iv form, iv N]) rfl rfl rfl rfl rfl (md170 hM) ⟨rfl, (Nat.le_of_ble_eq_true rfl), (Nat.le_of_ble_eq_true rfl)⟩ (by decide) (ct_isKept hM hR2 hA2 (by omega) p1 hf hN (by rw [v_up_ne (by decide), v_up_ne (by decide), v_up_ne (by decide)]; exact hP.1) (fun hkp => ?_) (fun hkp => ?_))
                  · refine y_nv ?_
                    refine y_zne rfl rfl rfl (by decide) (fun g89 => ?_) (fun g89 => absurd g89 (by decide))
                    refine y_lv (l' := [(0, .ref 170), (1, iv v1), (2, iv form), (3, iv N), (4, iv v4)]) rfl ⟨rfl, rfl, rfl, rfl, rfl, trivial⟩ ?_
                    refine y_mono (kk (fun q => ?_) _ hR2 hfq) (by omega)
                    rcases q with q | q
                    · rcases q.2 with ⟨q1, q2, q3⟩ | ⟨q1, q2⟩
                      · omega
                      · omega
                    · exact q hkp
                  · refine y_nv ?_
                    refine y_zne rfl rfl rfl (by decide) (fun g90 => absurd g90 (by decide)) (fun g90 => ?_)
                    refine y_ic rfl rfl ?_
                    refine y_rI rfl (by decide) ?_
                    exact kv (Or.inr hkp) _ hfq
            · refine y_bld (x := 1) (q := a.toNat) rfl rfl (md184 hM) (by omega) (by decide) (by omega) (by rw [v_up_ne (by decide)]; exact b2.trans (by rw [h_op]; rfl)) ?_
              refine y_zeq rfl rfl rfl (by decide) (fun g91 => absurd g91 (by decide)) (fun g91 => ?_)
              refine y_ld (x := .ref 170) rfl rfl (fun d => rfl) ?_
              refine y_gI (i := 19) (e := κ) rfl rfl rfl (md170 hM) rfl hP.2.2.1 ?_
              refine y_ic rfl rfl ?_
              refine y_jeq rfl rfl rfl (by omega) (fun g92 => ?_) (fun g92 => ?_)
              · refine y_ic rfl rfl ?_
                refine y_bst (q := a.toNat) rfl rfl (md184 hM) (by omega) (by decide) (by omega) (by decide) ?_
                refine y_ld (x := .ref 170) rfl rfl (fun d => rfl) ?_
                refine y_gR (i := 30) rfl rfl rfl (md170 hM) rfl ?_
                refine y_ld (x := .ref 170) rfl rfl (fun d => rfl) ?_
                refine y_gI (i := 17) (e := a) rfl rfl rfl (md170 hM) rfl hP.1 ?_
                refine y_ld (x := .ref 170) rfl rfl (fun d => rfl) ?_
                refine y_gR (i := 30) rfl rfl rfl (md170 hM) rfl ?_
                refine y_ld (x := .ref 170) rfl rfl (fun d => rfl) ?_
                refine y_gI (i := 17) (e := a) rfl rfl rfl (md170 hM) rfl hP.1 ?_
                cases h_br : aBr A a.toNat
                · refine y_bld (x := 0) (q := a.toNat) rfl rfl (md185 hM) (by omega) (by decide) (by omega) (by rw [v_up_ne (by decide), v_up_ne (by decide)]; exact b3.trans (by rw [h_br]; rfl)) ?_
                  refine y_zne rfl rfl rfl (by decide) (fun g93 => absurd g93 (by decide)) (fun g93 => ?_)
                  refine y_ld (x := iv 1) rfl rfl (fun d => rfl) ?_
                  refine y_ic rfl rfl ?_
                  refine y_jne rfl rfl rfl (by decide) (fun g94 => ?_) (fun g94 => absurd g94 (by decide))
                  refine y_ic rfl rfl ?_
                  refine y_bst (q := a.toNat) rfl rfl (md185 hM) (by omega) (by decide) (by omega) (by decide) ?_
                  have eA : awS A a h κ n 1 = _ := awS_2 (by omega)
                  have hR2 : RWm (v_up (v_up (v_up V 188 a.toNat (aPa A a.toNat + 1)) 184 a.toNat 0) 185 a.toNat 0) (awS A a h κ n 1) := by
                    refine RWm_up (c := a.toNat) hR (fun t ht hc => ⟨(by rw [v_up_ne (by decide), v_up_ne (by decide), v_up_ne (by decide)]), (by rw [v_up_ne (by decide), v_up_ni hc, v_up_ne (by decide)]), (by rw [v_up_ni hc, v_up_ne (by decide), v_up_ne (by decide)]), (by rw [v_up_ne (by decide), v_up_ne (by decide), v_up_ne (by decide)]), (by rw [v_up_ne (by decide), v_up_ne (by decide), v_up_ne (by decide)]), (by rw [v_up_ne (by decide), v_up_ne (by decide), v_up_ni hc])⟩) (fun t hc => awS_fr hc) ?_
                    rw [eA]
                    exact ⟨(by rw [v_up_ne (by decide), v_up_ne (by decide), v_up_ne (by decide)]; exact b1), (by rw [v_up_ne (by decide), v_up_eq]; exact (congrArg b01 (uB_eq (aOp A) a.toNat false)).symm), (by rw [v_up_eq]; exact (congrArg b01 h_br).symm), (by rw [v_up_ne (by decide), v_up_ne (by decide), v_up_eq]; exact (v_uf_eq _ _ _).symm), (fun q => absurd ((uB_eq (aOp A) a.toNat false).symm.trans q) (by decide))⟩
                  have hA2 := awO_S (t := a) (h := h) (k := κ) (n := n) (how := 1) hA hpk
                  have hfq : FrQ V (v_up (v_up (v_up V 188 a.toNat (aPa A a.toNat + 1)) 184 a.toNat 0) 185 a.toNat 0) := fun k hk => by rw [v_up_ne (by omega), v_up_ne (by omega), v_up_ne (by omega)]
                  refine y_ld (x := .ref 170) rfl rfl (fun d => rfl) ?_
                  refine y_ld (x := iv form) rfl rfl (fun d => rfl) ?_
                  refine y_ld (x := iv N) rfl rfl (fun d => rfl) ?_
                  refine y_cV (as := [.ref 170, iv form, iv N]) rfl rfl rfl rfl rfl (md170 hM) ⟨rfl, (Nat.le_of_ble_eq_true rfl), (Nat.le_of_ble_eq_true rfl)⟩ (by decide) (ct_isKept hM hR2 hA2 (by omega) p1 hf hN (by rw [v_up_ne (by decide), v_up_ne (by decide), v_up_ne (by decide)]; exact hP.1) (fun hkp => ?_) (fun hkp => ?_))
                  · refine y_nv ?_
                    refine y_zne rfl rfl rfl (by decide) (fun g95 => ?_) (fun g95 => absurd g95 (by decide))
                    refine y_lv (l' := [(0, .ref 170), (1, iv v1), (2, iv form), (3, iv N), (4, iv v4)]) rfl ⟨rfl, rfl, rfl, rfl, rfl, trivial⟩ ?_
                    refine y_mono (kk (fun q => ?_) _ hR2 hfq) (by omega)
                    rcases q with q | q
                    · rcases q.2 with ⟨q1, q2, q3⟩ | ⟨q1, q2⟩
                      · omega
                      · omega
                    · exact q hkp
                  · refine y_nv ?_
                    refine y_zne rfl rfl rfl (by decide) (fun g96 => absurd g96 (by decide)) (fun g96 => ?_)
                    refine y_ic rfl rfl ?_
                    refine y_rI rfl (by decide) ?_
                    exact kv (Or.inr hkp) _ hfq
                · refine y_bld (x := 1) (q := a.toNat) rfl rfl (md185 hM) (by omega) (by decide) (by omega) (by rw [v_up_ne (by decide), v_up_ne (by decide)]; exact b3.trans (by rw [h_br]; rfl)) ?_
                  refine y_zne rfl rfl rfl (by decide) (fun g97 => ?_) (fun g97 => absurd g97 (by decide))
                  refine y_ic rfl rfl ?_
                  refine y_go rfl rfl ?_
                  refine y_bst (q := a.toNat) rfl rfl (md185 hM) (by omega) (by decide) (by omega) (by decide) ?_
                  have eA : awS A a h κ n 1 = _ := awS_2 (by omega)
                  have hR2 : RWm (v_up (v_up (v_up V 188 a.toNat (aPa A a.toNat + 1)) 184 a.toNat 0) 185 a.toNat 1) (awS A a h κ n 1) := by
                    refine RWm_up (c := a.toNat) hR (fun t ht hc => ⟨(by rw [v_up_ne (by decide), v_up_ne (by decide), v_up_ne (by decide)]), (by rw [v_up_ne (by decide), v_up_ni hc, v_up_ne (by decide)]), (by rw [v_up_ni hc, v_up_ne (by decide), v_up_ne (by decide)]), (by rw [v_up_ne (by decide), v_up_ne (by decide), v_up_ne (by decide)]), (by rw [v_up_ne (by decide), v_up_ne (by decide), v_up_ne (by decide)]), (by rw [v_up_ne (by decide), v_up_ne (by decide), v_up_ni hc])⟩) (fun t hc => awS_fr hc) ?_
                    rw [eA]
                    exact ⟨(by rw [v_up_ne (by decide), v_up_ne (by decide), v_up_ne (by decide)]; exact b1), (by rw [v_up_ne (by decide), v_up_eq]; exact (congrArg b01 (uB_eq (aOp A) a.toNat false)).symm), (by rw [v_up_eq]; exact (congrArg b01 h_br).symm), (by rw [v_up_ne (by decide), v_up_ne (by decide), v_up_eq]; exact (v_uf_eq _ _ _).symm), (fun q => absurd ((uB_eq (aOp A) a.toNat false).symm.trans q) (by decide))⟩
                  have hA2 := awO_S (t := a) (h := h) (k := κ) (n := n) (how := 1) hA hpk
                  have hfq : FrQ V (v_up (v_up (v_up V 188 a.toNat (aPa A a.toNat + 1)) 184 a.toNat 0) 185 a.toNat 1) := fun k hk => by rw [v_up_ne (by omega), v_up_ne (by omega), v_up_ne (by omega)]
                  refine y_ld (x := .ref 170) rfl rfl (fun d => rfl) ?_
                  refine y_ld (x := iv form) rfl rfl (fun d => rfl) ?_
                  refine y_ld (x := iv N) rfl rfl (fun d => rfl) ?_
                  refine y_cV (as := [.ref 170, iv form, iv N]) rfl rfl rfl rfl rfl (md170 hM) ⟨rfl, (Nat.le_of_ble_eq_true rfl), (Nat.le_of_ble_eq_true rfl)⟩ (by decide) (ct_isKept hM hR2 hA2 (by omega) p1 hf hN (by rw [v_up_ne (by decide), v_up_ne (by decide), v_up_ne (by decide)]; exact hP.1) (fun hkp => ?_) (fun hkp => ?_))
                  · refine y_nv ?_
                    refine y_zne rfl rfl rfl (by decide) (fun g98 => ?_) (fun g98 => absurd g98 (by decide))
                    refine y_lv (l' := [(0, .ref 170), (1, iv v1), (2, iv form), (3, iv N), (4, iv v4)]) rfl ⟨rfl, rfl, rfl, rfl, rfl, trivial⟩ ?_
                    refine y_mono (kk (fun q => ?_) _ hR2 hfq) (by omega)
                    rcases q with q | q
                    · rcases q.2 with ⟨q1, q2, q3⟩ | ⟨q1, q2⟩
                      · omega
                      · omega
                    · exact q hkp
                  · refine y_nv ?_
                    refine y_zne rfl rfl rfl (by decide) (fun g99 => absurd g99 (by decide)) (fun g99 => ?_)
                    refine y_ic rfl rfl ?_
                    refine y_rI rfl (by decide) ?_
                    exact kv (Or.inr hkp) _ hfq
              · refine y_ic rfl rfl ?_
                refine y_go rfl rfl ?_
                refine y_bst (q := a.toNat) rfl rfl (md184 hM) (by omega) (by decide) (by omega) (by decide) ?_
                refine y_ld (x := .ref 170) rfl rfl (fun d => rfl) ?_
                refine y_gR (i := 30) rfl rfl rfl (md170 hM) rfl ?_
                refine y_ld (x := .ref 170) rfl rfl (fun d => rfl) ?_
                refine y_gI (i := 17) (e := a) rfl rfl rfl (md170 hM) rfl hP.1 ?_
                refine y_ld (x := .ref 170) rfl rfl (fun d => rfl) ?_
                refine y_gR (i := 30) rfl rfl rfl (md170 hM) rfl ?_
                refine y_ld (x := .ref 170) rfl rfl (fun d => rfl) ?_
                refine y_gI (i := 17) (e := a) rfl rfl rfl (md170 hM) rfl hP.1 ?_
                cases h_br : aBr A a.toNat
                · refine y_bld (x := 0) (q := a.toNat) rfl rfl (md185 hM) (by omega) (by decide) (by omega) (by rw [v_up_ne (by decide), v_up_ne (by decide)]; exact b3.trans (by rw [h_br]; rfl)) ?_
                  refine y_zne rfl rfl rfl (by decide) (fun g100 => absurd g100 (by decide)) (fun g100 => ?_)
                  refine y_ld (x := iv 1) rfl rfl (fun d => rfl) ?_
                  refine y_ic rfl rfl ?_
                  refine y_jne rfl rfl rfl (by decide) (fun g101 => ?_) (fun g101 => absurd g101 (by decide))
                  refine y_ic rfl rfl ?_
                  refine y_bst (q := a.toNat) rfl rfl (md185 hM) (by omega) (by decide) (by omega) (by decide) ?_
                  have eA : awS A a h κ n 1 = _ := awS_x (by omega) (by omega)
                  have hR2 : RWm (v_up (v_up (v_up V 188 a.toNat (aPa A a.toNat + 1)) 184 a.toNat 1) 185 a.toNat 0) (awS A a h κ n 1) := by
                    refine RWm_up (c := a.toNat) hR (fun t ht hc => ⟨(by rw [v_up_ne (by decide), v_up_ne (by decide), v_up_ne (by decide)]), (by rw [v_up_ne (by decide), v_up_ni hc, v_up_ne (by decide)]), (by rw [v_up_ni hc, v_up_ne (by decide), v_up_ne (by decide)]), (by rw [v_up_ne (by decide), v_up_ne (by decide), v_up_ne (by decide)]), (by rw [v_up_ne (by decide), v_up_ne (by decide), v_up_ne (by decide)]), (by rw [v_up_ne (by decide), v_up_ne (by decide), v_up_ni hc])⟩) (fun t hc => awS_fr hc) ?_
                    rw [eA]
                    exact ⟨(by rw [v_up_ne (by decide), v_up_ne (by decide), v_up_ne (by decide)]; exact b1), (by rw [v_up_ne (by decide), v_up_eq]; exact (congrArg b01 h_op).symm), (by rw [v_up_eq]; exact (congrArg b01 h_br).symm), (by rw [v_up_ne (by decide), v_up_ne (by decide), v_up_eq]; exact (v_uf_eq _ _ _).symm), (fun q => ⟨by rw [v_up_ne (by decide), v_up_ne (by decide), v_up_ne (by decide)]; exact (b5 q).1, by rw [v_up_ne (by decide), v_up_ne (by decide), v_up_ne (by decide)]; exact (b5 q).2⟩)⟩
                  have hA2 := awO_S (t := a) (h := h) (k := κ) (n := n) (how := 1) hA hpk
                  have hfq : FrQ V (v_up (v_up (v_up V 188 a.toNat (aPa A a.toNat + 1)) 184 a.toNat 1) 185 a.toNat 0) := fun k hk => by rw [v_up_ne (by omega), v_up_ne (by omega), v_up_ne (by omega)]
                  refine y_ld (x := .ref 170) rfl rfl (fun d => rfl) ?_
                  refine y_ld (x := iv form) rfl rfl (fun d => rfl) ?_
                  refine y_ld (x := iv N) rfl rfl (fun d => rfl) ?_
                  refine y_cV (as := [.ref 170, iv form, iv N]) rfl rfl rfl rfl rfl (md170 hM) ⟨rfl, (Nat.le_of_ble_eq_true rfl), (Nat.le_of_ble_eq_true rfl)⟩ (by decide) (ct_isKept hM hR2 hA2 (by omega) p1 hf hN (by rw [v_up_ne (by decide), v_up_ne (by decide), v_up_ne (by decide)]; exact hP.1) (fun hkp => ?_) (fun hkp => ?_))
                  · refine y_nv ?_
                    refine y_zne rfl rfl rfl (by decide) (fun g102 => ?_) (fun g102 => absurd g102 (by decide))
                    refine y_lv (l' := [(0, .ref 170), (1, iv v1), (2, iv form), (3, iv N), (4, iv v4)]) rfl ⟨rfl, rfl, rfl, rfl, rfl, trivial⟩ ?_
                    refine y_mono (kk (fun q => ?_) _ hR2 hfq) (by omega)
                    rcases q with q | q
                    · rcases q.2 with ⟨q1, q2, q3⟩ | ⟨q1, q2⟩
                      · omega
                      · omega
                    · exact q hkp
                  · refine y_nv ?_
                    refine y_zne rfl rfl rfl (by decide) (fun g103 => absurd g103 (by decide)) (fun g103 => ?_)
                    refine y_ic rfl rfl ?_
                    refine y_rI rfl (by decide) ?_
                    exact kv (Or.inr hkp) _ hfq
                · refine y_bld (x := 1) (q := a.toNat) rfl rfl (md185 hM) (by omega) (by decide) (by omega) (by rw [v_up_ne (by decide), v_up_ne (by decide)]; exact b3.trans (by rw [h_br]; rfl)) ?_
                  refine y_zne rfl rfl rfl (by decide) (fun g104 => ?_) (fun g104 => absurd g104 (by decide))
                  refine y_ic rfl rfl ?_
                  refine y_go rfl rfl ?_
                  refine y_bst (q := a.toNat) rfl rfl (md185 hM) (by omega) (by decide) (by omega) (by decide) ?_
                  have eA : awS A a h κ n 1 = _ := awS_x (by omega) (by omega)
                  have hR2 : RWm (v_up (v_up (v_up V 188 a.toNat (aPa A a.toNat + 1)) 184 a.toNat 1) 185 a.toNat 1) (awS A a h κ n 1) := by
                    refine RWm_up (c := a.toNat) hR (fun t ht hc => ⟨(by rw [v_up_ne (by decide), v_up_ne (by decide), v_up_ne (by decide)]), (by rw [v_up_ne (by decide), v_up_ni hc, v_up_ne (by decide)]), (by rw [v_up_ni hc, v_up_ne (by decide), v_up_ne (by decide)]), (by rw [v_up_ne (by decide), v_up_ne (by decide), v_up_ne (by decide)]), (by rw [v_up_ne (by decide), v_up_ne (by decide), v_up_ne (by decide)]), (by rw [v_up_ne (by decide), v_up_ne (by decide), v_up_ni hc])⟩) (fun t hc => awS_fr hc) ?_
                    rw [eA]
                    exact ⟨(by rw [v_up_ne (by decide), v_up_ne (by decide), v_up_ne (by decide)]; exact b1), (by rw [v_up_ne (by decide), v_up_eq]; exact (congrArg b01 h_op).symm), (by rw [v_up_eq]; exact (congrArg b01 h_br).symm), (by rw [v_up_ne (by decide), v_up_ne (by decide), v_up_eq]; exact (v_uf_eq _ _ _).symm), (fun q => ⟨by rw [v_up_ne (by decide), v_up_ne (by decide), v_up_ne (by decide)]; exact (b5 q).1, by rw [v_up_ne (by decide), v_up_ne (by decide), v_up_ne (by decide)]; exact (b5 q).2⟩)⟩
                  have hA2 := awO_S (t := a) (h := h) (k := κ) (n := n) (how := 1) hA hpk
                  have hfq : FrQ V (v_up (v_up (v_up V 188 a.toNat (aPa A a.toNat + 1)) 184 a.toNat 1) 185 a.toNat 1) := fun k hk => by rw [v_up_ne (by omega), v_up_ne (by omega), v_up_ne (by omega)]
                  refine y_ld (x := .ref 170) rfl rfl (fun d => rfl) ?_
                  refine y_ld (x := iv form) rfl rfl (fun d => rfl) ?_
                  refine y_ld (x := iv N) rfl rfl (fun d => rfl) ?_
                  refine y_cV (as := [.ref 170, iv form, iv N]) rfl rfl rfl rfl rfl (md170 hM) ⟨rfl, (Nat.le_of_ble_eq_true rfl), (Nat.le_of_ble_eq_true rfl)⟩ (by decide) (ct_isKept hM hR2 hA2 (by omega) p1 hf hN (by rw [v_up_ne (by decide), v_up_ne (by decide), v_up_ne (by decide)]; exact hP.1) (fun hkp => ?_) (fun hkp => ?_))
                  · refine y_nv ?_
                    refine y_zne rfl rfl rfl (by decide) (fun g105 => ?_) (fun g105 => absurd g105 (by decide))
                    refine y_lv (l' := [(0, .ref 170), (1, iv v1), (2, iv form), (3, iv N), (4, iv v4)]) rfl ⟨rfl, rfl, rfl, rfl, rfl, trivial⟩ ?_
                    refine y_mono (kk (fun q => ?_) _ hR2 hfq) (by omega)
                    rcases q with q | q
                    · rcases q.2 with ⟨q1, q2, q3⟩ | ⟨q1, q2⟩
                      · omega
                      · omega
                    · exact q hkp
                  · refine y_nv ?_
                    refine y_zne rfl rfl rfl (by decide) (fun g106 => absurd g106 (by decide)) (fun g106 => ?_)
                    refine y_ic rfl rfl ?_
                    refine y_rI rfl (by decide) ?_
                    exact kv (Or.inr hkp) _ hfq
          · refine y_ld (x := .ref 170) rfl rfl (fun d => rfl) ?_
            refine y_gR (i := 28) rfl rfl rfl (md170 hM) rfl ?_
            refine y_ld (x := .ref 170) rfl rfl (fun d => rfl) ?_
            refine y_gI (i := 17) (e := a) rfl rfl rfl (md170 hM) rfl hP.1 ?_
            refine y_ic rfl rfl ?_
            refine y_bst (q := a.toNat) rfl rfl (md183 hM) (by omega) (by decide) (by omega) (by decide) ?_
            refine y_ld (x := .ref 170) rfl rfl (fun d => rfl) ?_
            refine y_gR (i := 29) rfl rfl rfl (md170 hM) rfl ?_
            refine y_ld (x := .ref 170) rfl rfl (fun d => rfl) ?_
            refine y_gI (i := 17) (e := a) rfl rfl rfl (md170 hM) rfl hP.1 ?_
            refine y_ic rfl rfl ?_
            refine y_bst (q := a.toNat) rfl rfl (md184 hM) (by omega) (by decide) (by omega) (by decide) ?_
            refine y_ld (x := .ref 170) rfl rfl (fun d => rfl) ?_
            refine y_gR (i := 31) rfl rfl rfl (md170 hM) rfl ?_
            refine y_ld (x := .ref 170) rfl rfl (fun d => rfl) ?_
            refine y_gI (i := 17) (e := a) rfl rfl rfl (md170 hM) rfl hP.1 ?_
            refine y_ld (x := .ref 170) rfl rfl (fun d => rfl) ?_
            refine y_gI (i := 18) (e := h) rfl rfl rfl (md170 hM) rfl hP.2.1 ?_
            refine y_ist (q := a.toNat) rfl rfl (md186 hM) (by omega) (by decide) (by omega) ?_
            refine y_ld (x := .ref 170) rfl rfl (fun d => rfl) ?_
            refine y_gR (i := 32) rfl rfl rfl (md170 hM) rfl ?_
            refine y_ld (x := .ref 170) rfl rfl (fun d => rfl) ?_
            refine y_gI (i := 17) (e := a) rfl rfl rfl (md170 hM) rfl hP.1 ?_
            refine y_ld (x := .ref 170) rfl rfl (fun d => rfl) ?_
            refine y_gI (i := 20) (e := n) rfl rfl rfl (md170 hM) rfl hP.2.2.2 ?_
            refine y_ist (q := a.toNat) rfl rfl (md187 hM) (by omega) (by decide) (by omega) ?_
            refine y_ld (x := .ref 170) rfl rfl (fun d => rfl) ?_
            refine y_gR (i := 29) rfl rfl rfl (md170 hM) rfl ?_
            refine y_ld (x := .ref 170) rfl rfl (fun d => rfl) ?_
            refine y_gI (i := 17) (e := a) rfl rfl rfl (md170 hM) rfl hP.1 ?_
            refine y_ld (x := .ref 170) rfl rfl (fun d => rfl) ?_
            refine y_gR (i := 29) rfl rfl rfl (md170 hM) rfl ?_
            refine y_ld (x := .ref 170) rfl rfl (fun d => rfl) ?_
            refine y_gI (i := 17) (e := a) rfl rfl rfl (md170 hM) rfl hP.1 ?_
            refine y_bld (x := 1) (q := a.toNat) rfl rfl (md184 hM) (by omega) (by decide) (by omega) (by rw [v_up_ne (by decide), v_up_ne (by decide), v_up_eq]) ?_
            refine y_zeq rfl rfl rfl (by decide) (fun g107 => absurd g107 (by decide)) (fun g107 => ?_)
            refine y_ld (x := .ref 170) rfl rfl (fun d => rfl) ?_
            refine y_gI (i := 19) (e := κ) rfl rfl rfl (md170 hM) rfl hP.2.2.1 ?_
            refine y_ic rfl rfl ?_
            refine y_jeq rfl rfl rfl (by omega) (fun g108 => absurd g108 (by omega)) (fun g108 => ?_)
            refine y_ic rfl rfl ?_
            refine y_go rfl rfl ?_
            refine y_bst (q := a.toNat) rfl rfl (md184 hM) (by omega) (by decide) (by omega) (by decide) ?_
            refine y_ld (x := .ref 170) rfl rfl (fun d => rfl) ?_
            refine y_gR (i := 30) rfl rfl rfl (md170 hM) rfl ?_
            refine y_ld (x := .ref 170) rfl rfl (fun d => rfl) ?_
            refine y_gI (i := 17) (e := a) rfl rfl rfl (md170 hM) rfl hP.1 ?_
            refine y_ld (x := .ref 170) rfl rfl (fun d => rfl) ?_
            refine y_gR (i := 30) rfl rfl rfl (md170 hM) rfl ?_
            refine y_ld (x := .ref 170) rfl rfl (fun d => rfl) ?_
            refine y_gI (i := 17) (e := a) rfl rfl rfl (md170 hM) rfl hP.1 ?_
            cases h_br : aBr A a.toNat
            · refine y_bld (x := 0) (q := a.toNat) rfl rfl (md185 hM) (by omega) (by decide) (by omega) (by rw [v_up_ne (by decide), v_up_ne (by decide), v_up_ne (by decide), v_up_ne (by decide), v_up_ne (by decide), v_up_ne (by decide)]; exact b3.trans (by rw [h_br]; rfl)) ?_
              refine y_zne rfl rfl rfl (by decide) (fun g109 => absurd g109 (by decide)) (fun g109 => ?_)
              refine y_ld (x := iv 1) rfl rfl (fun d => rfl) ?_
              refine y_ic rfl rfl ?_
              refine y_jne rfl rfl rfl (by decide) (fun g110 => ?_) (fun g110 => absurd g110 (by decide))
              refine y_ic rfl rfl ?_
              refine y_bst (q := a.toNat) rfl rfl (md185 hM) (by omega) (by decide) (by omega) (by decide) ?_
              have eA : awS A a h κ n 1 = _ := awS_0 (by omega)
              have hR2 : RWm (v_up (v_up (v_up (v_up (v_up (v_up (v_up V 188 a.toNat (aPa A a.toNat + 1)) 183 a.toNat 1) 184 a.toNat 1) 186 a.toNat h) 187 a.toNat n) 184 a.toNat 1) 185 a.toNat 0) (awS A a h κ n 1) := by
                refine RWm_up (c := a.toNat) hR (fun t ht hc => ⟨(by rw [v_up_ne (by decide), v_up_ne (by decide), v_up_ne (by decide), v_up_ne (by decide), v_up_ne (by decide), v_up_ni hc, v_up_ne (by decide)]), (by rw [v_up_ne (by decide), v_up_ni hc, v_up_ne (by decide), v_up_ne (by decide), v_up_ni hc, v_up_ne (by decide), v_up_ne (by decide)]), (by rw [v_up_ni hc, v_up_ne (by decide), v_up_ne (by decide), v_up_ne (by decide), v_up_ne (by decide), v_up_ne (by decide), v_up_ne (by decide)]), (by rw [v_up_ne (by decide), v_up_ne (by decide), v_up_ne (by decide), v_up_ni hc, v_up_ne (by decide), v_up_ne (by decide), v_up_ne (by decide)]), (by rw [v_up_ne (by decide), v_up_ne (by decide), v_up_ni hc, v_up_ne (by decide), v_up_ne (by decide), v_up_ne (by decide), v_up_ne (by decide)]), (by rw [v_up_ne (by decide), v_up_ne (by decide), v_up_ne (by decide), v_up_ne (by decide), v_up_ne (by decide), v_up_ne (by decide), v_up_ni hc])⟩) (fun t hc => awS_fr hc) ?_
                rw [eA]
                exact ⟨(by rw [v_up_ne (by decide), v_up_ne (by decide), v_up_ne (by decide), v_up_ne (by decide), v_up_ne (by decide), v_up_eq]; exact (congrArg b01 (uB_eq (aBg A) a.toNat true)).symm), (by rw [v_up_ne (by decide), v_up_eq]; exact (congrArg b01 (uB_eq (aOp A) a.toNat true)).symm), (by rw [v_up_eq]; exact (congrArg b01 h_br).symm), (by rw [v_up_ne (by decide), v_up_ne (by decide), v_up_ne (by decide), v_up_ne (by decide), v_up_ne (by decide), v_up_ne (by decide), v_up_eq]; exact (v_uf_eq _ _ _).symm), (fun _ => ⟨by rw [v_up_ne (by decide), v_up_ne (by decide), v_up_ne (by decide), v_up_eq]; exact (v_uf_eq _ _ _).symm, by rw [v_up_ne (by decide), v_up_ne (by decide), v_up_eq]; exact (v_uf_eq _ _ _).symm⟩)⟩
              have hA2 := awO_S (t := a) (h := h) (k := κ) (n := n) (how := 1) hA hpk
              have hfq : FrQ V (v_up (v_up (v_up (v_up (v_up (v_up (v_up V 188 a.toNat (aPa A a.toNat + 1)) 183 a.toNat 1) 184 a.toNat 1) 186 a.toNat h) 187 a.toNat n) 184 a.toNat 1) 185 a.toNat 0) := fun k hk => by rw [v_up_ne (by omega), v_up_ne (by omega), v_up_ne (by omega), v_up_ne (by omega), v_up_ne (by omega), v_up_ne (by omega), v_up_ne (by omega)]
              refine y_ld (x := .ref 170) rfl rfl (fun d => rfl) ?_
              refine y_ld (x := iv form) rfl rfl (fun d => rfl) ?_
              refine y_ld (x := iv N) rfl rfl (fun d => rfl) ?_
              refine y_cV (as := [.ref 170, iv form, iv N]) rfl rfl rfl rfl rfl (md170 hM) ⟨rfl, (Nat.le_of_ble_eq_true rfl), (Nat.le_of_ble_eq_true rfl)⟩ (by decide) (ct_isKept hM hR2 hA2 (by omega) p1 hf hN (by rw [v_up_ne (by decide), v_up_ne (by decide), v_up_ne (by decide), v_up_ne (by decide), v_up_ne (by decide), v_up_ne (by decide), v_up_ne (by decide)]; exact hP.1) (fun hkp => ?_) (fun hkp => ?_))
              · refine y_nv ?_
                refine y_zne rfl rfl rfl (by decide) (fun g111 => ?_) (fun g111 => absurd g111 (by decide))
                refine y_lv (l' := [(0, .ref 170), (1, iv v1), (2, iv form), (3, iv N), (4, iv v4)]) rfl ⟨rfl, rfl, rfl, rfl, rfl, trivial⟩ ?_
                refine y_mono (kk (fun q => ?_) _ hR2 hfq) (by omega)
                rcases q with q | q
                · rcases q.2 with ⟨q1, q2, q3⟩ | ⟨q1, q2⟩
                  · omega
                  · omega
                · exact q hkp
              · refine y_nv ?_
                refine y_zne rfl rfl rfl (by decide) (fun g112 => absurd g112 (by decide)) (fun g112 => ?_)
                refine y_ic rfl rfl ?_
                refine y_rI rfl (by decide) ?_
                exact kv (Or.inr hkp) _ hfq
            · refine y_bld (x := 1) (q := a.toNat) rfl rfl (md185 hM) (by omega) (by decide) (by omega) (by rw [v_up_ne (by decide), v_up_ne (by decide), v_up_ne (by decide), v_up_ne (by decide), v_up_ne (by decide), v_up_ne (by decide)]; exact b3.trans (by rw [h_br]; rfl)) ?_
              refine y_zne rfl rfl rfl (by decide) (fun g113 => ?_) (fun g113 => absurd g113 (by decide))
              refine y_ic rfl rfl ?_
              refine y_go rfl rfl ?_
              refine y_bst (q := a.toNat) rfl rfl (md185 hM) (by omega) (by decide) (by omega) (by decide) ?_
              have eA : awS A a h κ n 1 = _ := awS_0 (by omega)
              have hR2 : RWm (v_up (v_up (v_up (v_up (v_up (v_up (v_up V 188 a.toNat (aPa A a.toNat + 1)) 183 a.toNat 1) 184 a.toNat 1) 186 a.toNat h) 187 a.toNat n) 184 a.toNat 1) 185 a.toNat 1) (awS A a h κ n 1) := by
                refine RWm_up (c := a.toNat) hR (fun t ht hc => ⟨(by rw [v_up_ne (by decide), v_up_ne (by decide), v_up_ne (by decide), v_up_ne (by decide), v_up_ne (by decide), v_up_ni hc, v_up_ne (by decide)]), (by rw [v_up_ne (by decide), v_up_ni hc, v_up_ne (by decide), v_up_ne (by decide), v_up_ni hc, v_up_ne (by decide), v_up_ne (by decide)]), (by rw [v_up_ni hc, v_up_ne (by decide), v_up_ne (by decide), v_up_ne (by decide), v_up_ne (by decide), v_up_ne (by decide), v_up_ne (by decide)]), (by rw [v_up_ne (by decide), v_up_ne (by decide), v_up_ne (by decide), v_up_ni hc, v_up_ne (by decide), v_up_ne (by decide), v_up_ne (by decide)]), (by rw [v_up_ne (by decide), v_up_ne (by decide), v_up_ni hc, v_up_ne (by decide), v_up_ne (by decide), v_up_ne (by decide), v_up_ne (by decide)]), (by rw [v_up_ne (by decide), v_up_ne (by decide), v_up_ne (by decide), v_up_ne (by decide), v_up_ne (by decide), v_up_ne (by decide), v_up_ni hc])⟩) (fun t hc => awS_fr hc) ?_
                rw [eA]
                exact ⟨(by rw [v_up_ne (by decide), v_up_ne (by decide), v_up_ne (by decide), v_up_ne (by decide), v_up_ne (by decide), v_up_eq]; exact (congrArg b01 (uB_eq (aBg A) a.toNat true)).symm), (by rw [v_up_ne (by decide), v_up_eq]; exact (congrArg b01 (uB_eq (aOp A) a.toNat true)).symm), (by rw [v_up_eq]; exact (congrArg b01 h_br).symm), (by rw [v_up_ne (by decide), v_up_ne (by decide), v_up_ne (by decide), v_up_ne (by decide), v_up_ne (by decide), v_up_ne (by decide), v_up_eq]; exact (v_uf_eq _ _ _).symm), (fun _ => ⟨by rw [v_up_ne (by decide), v_up_ne (by decide), v_up_ne (by decide), v_up_eq]; exact (v_uf_eq _ _ _).symm, by rw [v_up_ne (by decide), v_up_ne (by decide), v_up_eq]; exact (v_uf_eq _ _ _).symm⟩)⟩
              have hA2 := awO_S (t := a) (h := h) (k := κ) (n := n) (how := 1) hA hpk
              have hfq : FrQ V (v_up (v_up (v_up (v_up (v_up (v_up (v_up V 188 a.toNat (aPa A a.toNat + 1)) 183 a.toNat 1) 184 a.toNat 1) 186 a.toNat h) 187 a.toNat n) 184 a.toNat 1) 185 a.toNat 1) := fun k hk => by rw [v_up_ne (by omega), v_up_ne (by omega), v_up_ne (by omega), v_up_ne (by omega), v_up_ne (by omega), v_up_ne (by omega), v_up_ne (by omega)]
              refine y_ld (x := .ref 170) rfl rfl (fun d => rfl) ?_
              refine y_ld (x := iv form) rfl rfl (fun d => rfl) ?_
              refine y_ld (x := iv N) rfl rfl (fun d => rfl) ?_
              refine y_cV (as := [.ref 170, iv form, iv N]) rfl rfl rfl rfl rfl (md170 hM) ⟨rfl, (Nat.le_of_ble_eq_true rfl), (Nat.le_of_ble_eq_true rfl)⟩ (by decide) (ct_isKept hM hR2 hA2 (by omega) p1 hf hN (by rw [v_up_ne (by decide), v_up_ne (by decide), v_up_ne (by decide), v_up_ne (by decide), v_up_ne (by decide), v_up_ne (by decide), v_up_ne (by decide)]; exact hP.1) (fun hkp => ?_) (fun hkp => ?_))
              · refine y_nv ?_
                refine y_zne rfl rfl rfl (by decide) (fun g114 => ?_) (fun g114 => absurd g114 (by decide))
                refine y_lv (l' := [(0, .ref 170), (1, iv v1), (2, iv form), (3, iv N), (4, iv v4)]) rfl ⟨rfl, rfl, rfl, rfl, rfl, trivial⟩ ?_
                refine y_mono (kk (fun q => ?_) _ hR2 hfq) (by omega)
                rcases q with q | q
                · rcases q.2 with ⟨q1, q2, q3⟩ | ⟨q1, q2⟩
                  · omega
                  · omega
                · exact q hkp
              · refine y_nv ?_
                refine y_zne rfl rfl rfl (by decide) (fun g115 => absurd g115 (by decide)) (fun g115 => ?_)
                refine y_ic rfl rfl ?_
                refine y_rI rfl (by decide) ?_
                exact kv (Or.inr hkp) _ hfq
        · refine y_ld (x := .ref 170) rfl rfl (fun d => rfl) ?_
          refine y_gR (i := 30) rfl rfl rfl (md170 hM) rfl ?_
          refine y_ld (x := .ref 170) rfl rfl (fun d => rfl) ?_
          refine y_gI (i := 17) (e := a) rfl rfl rfl (md170 hM) rfl hP.1 ?_
          cases h_br : aBr A a.toNat
          · refine y_bld (x := 0) (q := a.toNat) rfl rfl (md185 hM) (by omega) (by decide) (by omega) (by rw [v_up_ne (by decide)]; exact b3.trans (by rw [h_br]; rfl)) ?_
            refine y_zeq rfl rfl rfl (by decide) (fun g116 => ?_) (fun g116 => absurd g116 (by decide))
            refine y_ld (x := .ref 170) rfl rfl (fun d => rfl) ?_
            refine y_gI (i := 19) (e := κ) rfl rfl rfl (md170 hM) rfl hP.2.2.1 ?_
            refine y_zne rfl rfl rfl (by omega) (fun g117 => ?_) (fun g117 => ?_)
            · refine y_ld (x := .ref 170) rfl rfl (fun d => rfl) ?_
              refine y_gR (i := 29) rfl rfl rfl (md170 hM) rfl ?_
              refine y_ld (x := .ref 170) rfl rfl (fun d => rfl) ?_
              refine y_gI (i := 17) (e := a) rfl rfl rfl (md170 hM) rfl hP.1 ?_
              refine y_ld (x := .ref 170) rfl rfl (fun d => rfl) ?_
              refine y_gR (i := 29) rfl rfl rfl (md170 hM) rfl ?_
              refine y_ld (x := .ref 170) rfl rfl (fun d => rfl) ?_
              refine y_gI (i := 17) (e := a) rfl rfl rfl (md170 hM) rfl hP.1 ?_
              cases h_op : aOp A a.toNat
              · refine y_bld (x := 0) (q := a.toNat) rfl rfl (md184 hM) (by omega) (by decide) (by omega) (by rw [v_up_ne (by decide)]; exact b2.trans (by rw [h_op]; rfl)) ?_
                refine y_zeq rfl rfl rfl (by decide) (fun g118 => ?_) (fun g118 => absurd g118 (by decide))
                refine y_ic rfl rfl ?_
                refine y_bst (q := a.toNat) rfl rfl (md184 hM) (by omega) (by decide) (by omega) (by decide) ?_
                refine y_ld (x := .ref 170) rfl rfl (fun d => rfl) ?_
                refine y_gR (i := 30) rfl rfl rfl (md170 hM) rfl ?_
                refine y_ld (x := .ref 170) rfl rfl (fun d => rfl) ?_
                refine y_gI (i := 17) (e := a) rfl rfl rfl (md170 hM) rfl hP.1 ?_
                refine y_ld (x := .ref 170) rfl rfl (fun d => rfl) ?_
                refine y_gR (i := 30) rfl rfl rfl (md170 hM) rfl ?_
                refine y_ld (x := .ref 170) rfl rfl (fun d => rfl) ?_
                refine y_gI (i := 17) (e := a) rfl rfl rfl (md170 hM) rfl hP.1 ?_
                refine y_bld (x := 0) (q := a.toNat) rfl rfl (md185 hM) (by omega) (by decide) (by omega) (by rw [v_up_ne (by decide), v_up_ne (by decide)]; exact b3.trans (by rw [h_br]; rfl)) ?_
                refine y_zne rfl rfl rfl (by decide) (fun g119 => absurd g119 (by decide)) (fun g119 => ?_)
                refine y_ld (x := iv 1) rfl rfl (fun d => rfl) ?_
                refine y_ic rfl rfl ?_
                refine y_jne rfl rfl rfl (by decide) (fun g120 => ?_) (fun g120 => absurd g120 (by decide))
                refine y_ic rfl rfl ?_
                refine y_bst (q := a.toNat) rfl rfl (md185 hM) (by omega) (by decide) (by omega) (by decide) ?_
                by_cases hk2 : κ = 2
                · have eA : awS A a h κ n 1 = _ := awS_2 hk2
                  have hR2 : RWm (v_up (v_up (v_up V 188 a.toNat (aPa A a.toNat + 1)) 184 a.toNat 0) 185 a.toNat 0) (awS A a h κ n 1) := by
                    refine RWm_up (c := a.toNat) hR (fun t ht hc => ⟨(by rw [v_up_ne (by decide), v_up_ne (by decide), v_up_ne (by decide)]), (by rw [v_up_ne (by decide), v_up_ni hc, v_up_ne (by decide)]), (by rw [v_up_ni hc, v_up_ne (by decide), v_up_ne (by decide)]), (by rw [v_up_ne (by decide), v_up_ne (by decide), v_up_ne (by decide)]), (by rw [v_up_ne (by decide), v_up_ne (by decide), v_up_ne (by decide)]), (by rw [v_up_ne (by decide), v_up_ne (by decide), v_up_ni hc])⟩) (fun t hc => awS_fr hc) ?_
                    rw [eA]
                    exact ⟨(by rw [v_up_ne (by decide), v_up_ne (by decide), v_up_ne (by decide)]; exact b1), (by rw [v_up_ne (by decide), v_up_eq]; exact (congrArg b01 (uB_eq (aOp A) a.toNat false)).symm), (by rw [v_up_eq]; exact (congrArg b01 h_br).symm), (by rw [v_up_ne (by decide), v_up_ne (by decide), v_up_eq]; exact (v_uf_eq _ _ _).symm), (fun q => absurd ((uB_eq (aOp A) a.toNat false).symm.trans q) (by decide))⟩
                  have hA2 := awO_S (t := a) (h := h) (k := κ) (n := n) (how := 1) hA hpk
                  have hfq : FrQ V (v_up (v_up (v_up V 188 a.toNat (aPa A a.toNat + 1)) 184 a.toNat 0) 185 a.toNat 0) := fun k hk => by rw [v_up_ne (by omega), v_up_ne (by omega), v_up_ne (by omega)]
                  refine y_ld (x := .ref 170) rfl rfl (fun d => rfl) ?_
                  refine y_ld (x := iv form) rfl rfl (fun d => rfl) ?_
                  refine y_ld (x := iv N) rfl rfl (fun d => rfl) ?_
                  refine y_cV (as := [.ref 170, iv form, iv N]) rfl rfl rfl rfl rfl (md170 hM) ⟨rfl, (Nat.le_of_ble_eq_true rfl), (Nat.le_of_ble_eq_true rfl)⟩ (by decide) (ct_isKept hM hR2 hA2 (by omega) p1 hf hN (by rw [v_up_ne (by decide), v_up_ne (by decide), v_up_ne (by decide)]; exact hP.1) (fun hkp => ?_) (fun hkp => ?_))
                  · refine y_nv ?_
                    refine y_zne rfl rfl rfl (by decide) (fun g121 => ?_) (fun g121 => absurd g121 (by decide))
                    refine y_lv (l' := [(0, .ref 170), (1, iv v1), (2, iv form), (3, iv N), (4, iv v4)]) rfl ⟨rfl, rfl, rfl, rfl, rfl, trivial⟩ ?_
                    refine y_mono (kk (fun q => ?_) _ hR2 hfq) (by omega)
                    rcases q with q | q
                    · rcases q.2 with ⟨q1, q2, q3⟩ | ⟨q1, q2⟩
                      · omega
                      · rw [eA] at q2; exact absurd (h_br.symm.trans q2) (by decide)
                    · exact q hkp
                  · refine y_nv ?_
                    refine y_zne rfl rfl rfl (by decide) (fun g122 => absurd g122 (by decide)) (fun g122 => ?_)
                    refine y_ic rfl rfl ?_
                    refine y_rI rfl (by decide) ?_
                    exact kv (Or.inr hkp) _ hfq
                · have eA : awS A a h κ n 1 = _ := awS_x (by omega) hk2
                  have hR2 : RWm (v_up (v_up (v_up V 188 a.toNat (aPa A a.toNat + 1)) 184 a.toNat 0) 185 a.toNat 0) (awS A a h κ n 1) := by
                    refine RWm_up (c := a.toNat) hR (fun t ht hc => ⟨(by rw [v_up_ne (by decide), v_up_ne (by decide), v_up_ne (by decide)]), (by rw [v_up_ne (by decide), v_up_ni hc, v_up_ne (by decide)]), (by rw [v_up_ni hc, v_up_ne (by decide), v_up_ne (by decide)]), (by rw [v_up_ne (by decide), v_up_ne (by decide), v_up_ne (by decide)]), (by rw [v_up_ne (by decide), v_up_ne (by decide), v_up_ne (by decide)]), (by rw [v_up_ne (by decide), v_up_ne (by decide), v_up_ni hc])⟩) (fun t hc => awS_fr hc) ?_
                    rw [eA]
                    exact ⟨(by rw [v_up_ne (by decide), v_up_ne (by decide), v_up_ne (by decide)]; exact b1), (by rw [v_up_ne (by decide), v_up_eq]; exact (congrArg b01 h_op).symm), (by rw [v_up_eq]; exact (congrArg b01 h_br).symm), (by rw [v_up_ne (by decide), v_up_ne (by decide), v_up_eq]; exact (v_uf_eq _ _ _).symm), (fun q => ⟨by rw [v_up_ne (by decide), v_up_ne (by decide), v_up_ne (by decide)]; exact (b5 q).1, by rw [v_up_ne (by decide), v_up_ne (by decide), v_up_ne (by decide)]; exact (b5 q).2⟩)⟩
                  have hA2 := awO_S (t := a) (h := h) (k := κ) (n := n) (how := 1) hA hpk
                  have hfq : FrQ V (v_up (v_up (v_up V 188 a.toNat (aPa A a.toNat + 1)) 184 a.toNat 0) 185 a.toNat 0) := fun k hk => by rw [v_up_ne (by omega), v_up_ne (by omega), v_up_ne (by omega)]
                  refine y_ld (x := .ref 170) rfl rfl (fun d => rfl) ?_
                  refine y_ld (x := iv form) rfl rfl (fun d => rfl) ?_
                  refine y_ld (x := iv N) rfl rfl (fun d => rfl) ?_
                  refine y_cV (as := [.ref 170, iv form, iv N]) rfl rfl rfl rfl rfl (md170 hM) ⟨rfl, (Nat.le_of_ble_eq_true rfl), (Nat.le_of_ble_eq_true rfl)⟩ (by decide) (ct_isKept hM hR2 hA2 (by omega) p1 hf hN (by rw [v_up_ne (by decide), v_up_ne (by decide), v_up_ne (by decide)]; exact hP.1) (fun hkp => ?_) (fun hkp => ?_))
                  · refine y_nv ?_
                    refine y_zne rfl rfl rfl (by decide) (fun g123 => ?_) (fun g123 => absurd g123 (by decide))
                    refine y_lv (l' := [(0, .ref 170), (1, iv v1), (2, iv form), (3, iv N), (4, iv v4)]) rfl ⟨rfl, rfl, rfl, rfl, rfl, trivial⟩ ?_
                    refine y_mono (kk (fun q => ?_) _ hR2 hfq) (by omega)
                    rcases q with q | q
                    · rcases q.2 with ⟨q1, q2, q3⟩ | ⟨q1, q2⟩
                      · omega
                      · rw [eA] at q2; exact absurd (h_br.symm.trans q2) (by decide)
                    · exact q hkp
                  · refine y_nv ?_
                    refine y_zne rfl rfl rfl (by decide) (fun g124 => absurd g124 (by decide)) (fun g124 => ?_)
                    refine y_ic rfl rfl ?_
                    refine y_rI rfl (by decide) ?_
                    exact kv (Or.inr hkp) _ hfq
              · refine y_bld (x := 1) (q := a.toNat) rfl rfl (md184 hM) (by omega) (by decide) (by omega) (by rw [v_up_ne (by decide)]; exact b2.trans (by rw [h_op]; rfl)) ?_
                refine y_zeq rfl rfl rfl (by decide) (fun g125 => absurd g125 (by decide)) (fun g125 => ?_)
                refine y_ld (x := .ref 170) rfl rfl (fun d => rfl) ?_
                refine y_gI (i := 19) (e := κ) rfl rfl rfl (md170 hM) rfl hP.2.2.1 ?_
                refine y_ic rfl rfl ?_
                refine y_jeq rfl rfl rfl (by omega) (fun g126 => ?_) (fun g126 => ?_)
                · refine y_ic rfl rfl ?_
                  refine y_bst (q := a.toNat) rfl rfl (md184 hM) (by omega) (by decide) (by omega) (by decide) ?_
                  refine y_ld (x := .ref 170) rfl rfl (fun d => rfl) ?_
                  refine y_gR (i := 30) rfl rfl rfl (md170 hM) rfl ?_
                  refine y_ld (x := .ref 170) rfl rfl (fun d => rfl) ?_
                  refine y_gI (i := 17) (e := a) rfl rfl rfl (md170 hM) rfl hP.1 ?_
                  refine y_ld (x := .ref 170) rfl rfl (fun d => rfl) ?_
                  refine y_gR (i := 30) rfl rfl rfl (md170 hM) rfl ?_
                  refine y_ld (x := .ref 170) rfl rfl (fun d => rfl) ?_
                  refine y_gI (i := 17) (e := a) rfl rfl rfl (md170 hM) rfl hP.1 ?_
                  refine y_bld (x := 0) (q := a.toNat) rfl rfl (md185 hM) (by omega) (by decide) (by omega) (by rw [v_up_ne (by decide), v_up_ne (by decide)]; exact b3.trans (by rw [h_br]; rfl)) ?_
                  refine y_zne rfl rfl rfl (by decide) (fun g127 => absurd g127 (by decide)) (fun g127 => ?_)
                  refine y_ld (x := iv 1) rfl rfl (fun d => rfl) ?_
                  refine y_ic rfl rfl ?_
                  refine y_jne rfl rfl rfl (by decide) (fun g128 => ?_) (fun g128 => absurd g128 (by decide))
                  refine y_ic rfl rfl ?_
                  refine y_bst (q := a.toNat) rfl rfl (md185 hM) (by omega) (by decide) (by omega) (by decide) ?_
                  have eA : awS A a h κ n 1 = _ := awS_2 (by omega)
                  have hR2 : RWm (v_up (v_up (v_up V 188 a.toNat (aPa A a.toNat + 1)) 184 a.toNat 0) 185 a.toNat 0) (awS A a h κ n 1) := by
                    refine RWm_up (c := a.toNat) hR (fun t ht hc => ⟨(by rw [v_up_ne (by decide), v_up_ne (by decide), v_up_ne (by decide)]), (by rw [v_up_ne (by decide), v_up_ni hc, v_up_ne (by decide)]), (by rw [v_up_ni hc, v_up_ne (by decide), v_up_ne (by decide)]), (by rw [v_up_ne (by decide), v_up_ne (by decide), v_up_ne (by decide)]), (by rw [v_up_ne (by decide), v_up_ne (by decide), v_up_ne (by decide)]), (by rw [v_up_ne (by decide), v_up_ne (by decide), v_up_ni hc])⟩) (fun t hc => awS_fr hc) ?_
                    rw [eA]
                    exact ⟨(by rw [v_up_ne (by decide), v_up_ne (by decide), v_up_ne (by decide)]; exact b1), (by rw [v_up_ne (by decide), v_up_eq]; exact (congrArg b01 (uB_eq (aOp A) a.toNat false)).symm), (by rw [v_up_eq]; exact (congrArg b01 h_br).symm), (by rw [v_up_ne (by decide), v_up_ne (by decide), v_up_eq]; exact (v_uf_eq _ _ _).symm), (fun q => absurd ((uB_eq (aOp A) a.toNat false).symm.trans q) (by decide))⟩
                  have hA2 := awO_S (t := a) (h := h) (k := κ) (n := n) (how := 1) hA hpk
                  have hfq : FrQ V (v_up (v_up (v_up V 188 a.toNat (aPa A a.toNat + 1)) 184 a.toNat 0) 185 a.toNat 0) := fun k hk => by rw [v_up_ne (by omega), v_up_ne (by omega), v_up_ne (by omega)]
                  refine y_ld (x := .ref 170) rfl rfl (fun d => rfl) ?_
                  refine y_ld (x := iv form) rfl rfl (fun d => rfl) ?_
                  refine y_ld (x := iv N) rfl rfl (fun d => rfl) ?_
                  refine y_cV (as := [.ref 170, iv form, iv N]) rfl rfl rfl rfl rfl (md170 hM) ⟨rfl, (Nat.le_of_ble_eq_true rfl), (Nat.le_of_ble_eq_true rfl)⟩ (by decide) (ct_isKept hM hR2 hA2 (by omega) p1 hf hN (by rw [v_up_ne (by decide), v_up_ne (by decide), v_up_ne (by decide)]; exact hP.1) (fun hkp => ?_) (fun hkp => ?_))
                  · refine y_nv ?_
                    refine y_zne rfl rfl rfl (by decide) (fun g129 => ?_) (fun g129 => absurd g129 (by decide))
                    refine y_lv (l' := [(0, .ref 170), (1, iv v1), (2, iv form), (3, iv N), (4, iv v4)]) rfl ⟨rfl, rfl, rfl, rfl, rfl, trivial⟩ ?_
                    refine y_mono (kk (fun q => ?_) _ hR2 hfq) (by omega)
                    rcases q with q | q
                    · rcases q.2 with ⟨q1, q2, q3⟩ | ⟨q1, q2⟩
                      · omega
                      · rw [eA] at q2; exact absurd (h_br.symm.trans q2) (by decide)
                    · exact q hkp
                  · refine y_nv ?_
                    refine y_zne rfl rfl rfl (by decide) (fun g130 => absurd g130 (by decide)) (fun g130 => ?_)
                    refine y_ic rfl rfl ?_
                    refine y_rI rfl (by decide) ?_
                    exact kv (Or.inr hkp) _ hfq
                · refine y_ic rfl rfl ?_
                  refine y_go rfl rfl ?_
                  refine y_bst (q := a.toNat) rfl rfl (md184 hM) (by omega) (by decide) (by omega) (by decide) ?_
                  refine y_ld (x := .ref 170) rfl rfl (fun d => rfl) ?_
                  refine y_gR (i := 30) rfl rfl rfl (md170 hM) rfl ?_
                  refine y_ld (x := .ref 170) rfl rfl (fun d => rfl) ?_
                  refine y_gI (i := 17) (e := a) rfl rfl rfl (md170 hM) rfl hP.1 ?_
                  refine y_ld (x := .ref 170) rfl rfl (fun d => rfl) ?_
                  refine y_gR (i := 30) rfl rfl rfl (md170 hM) rfl ?_
                  refine y_ld (x := .ref 170) rfl rfl (fun d => rfl) ?_
                  refine y_gI (i := 17) (e := a) rfl rfl rfl (md170 hM) rfl hP.1 ?_
                  refine y_bld (x := 0) (q := a.toNat) rfl rfl (md185 hM) (by omega) (by decide) (by omega) (by rw [v_up_ne (by decide), v_up_ne (by decide)]; exact b3.trans (by rw [h_br]; rfl)) ?_
                  refine y_zne rfl rfl rfl (by decide) (fun g131 => absurd g131 (by decide)) (fun g131 => ?_)
                  refine y_ld (x := iv 1) rfl rfl (fun d => rfl) ?_
                  refine y_ic rfl rfl ?_
                  refine y_jne rfl rfl rfl (by decide) (fun g132 => ?_) (fun g132 => absurd g132 (by decide))
                  refine y_ic rfl rfl ?_
                  refine y_bst (q := a.toNat) rfl rfl (md185 hM) (by omega) (by decide) (by omega) (by decide) ?_
                  have eA : awS A a h κ n 1 = _ := awS_x (by omega) (by omega)
                  have hR2 : RWm (v_up (v_up (v_up V 188 a.toNat (aPa A a.toNat + 1)) 184 a.toNat 1) 185 a.toNat 0) (awS A a h κ n 1) := by
                    refine RWm_up (c := a.toNat) hR (fun t ht hc => ⟨(by rw [v_up_ne (by decide), v_up_ne (by decide), v_up_ne (by decide)]), (by rw [v_up_ne (by decide), v_up_ni hc, v_up_ne (by decide)]), (by rw [v_up_ni hc, v_up_ne (by decide), v_up_ne (by decide)]), (by rw [v_up_ne (by decide), v_up_ne (by decide), v_up_ne (by decide)]), (by rw [v_up_ne (by decide), v_up_ne (by decide), v_up_ne (by decide)]), (by rw [v_up_ne (by decide), v_up_ne (by decide), v_up_ni hc])⟩) (fun t hc => awS_fr hc) ?_
                    rw [eA]
                    exact ⟨(by rw [v_up_ne (by decide), v_up_ne (by decide), v_up_ne (by decide)]; exact b1), (by rw [v_up_ne (by decide), v_up_eq]; exact (congrArg b01 h_op).symm), (by rw [v_up_eq]; exact (congrArg b01 h_br).symm), (by rw [v_up_ne (by decide), v_up_ne (by decide), v_up_eq]; exact (v_uf_eq _ _ _).symm), (fun q => ⟨by rw [v_up_ne (by decide), v_up_ne (by decide), v_up_ne (by decide)]; exact (b5 q).1, by rw [v_up_ne (by decide), v_up_ne (by decide), v_up_ne (by decide)]; exact (b5 q).2⟩)⟩
                  have hA2 := awO_S (t := a) (h := h) (k := κ) (n := n) (how := 1) hA hpk
                  have hfq : FrQ V (v_up (v_up (v_up V 188 a.toNat (aPa A a.toNat + 1)) 184 a.toNat 1) 185 a.toNat 0) := fun k hk => by rw [v_up_ne (by omega), v_up_ne (by omega), v_up_ne (by omega)]
                  refine y_ld (x := .ref 170) rfl rfl (fun d => rfl) ?_
                  refine y_ld (x := iv form) rfl rfl (fun d => rfl) ?_
                  refine y_ld (x := iv N) rfl rfl (fun d => rfl) ?_
                  refine y_cV (as := [.ref 170, iv form, iv N]) rfl rfl rfl rfl rfl (md170 hM) ⟨rfl, (Nat.le_of_ble_eq_true rfl), (Nat.le_of_ble_eq_true rfl)⟩ (by decide) (ct_isKept hM hR2 hA2 (by omega) p1 hf hN (by rw [v_up_ne (by decide), v_up_ne (by decide), v_up_ne (by decide)]; exact hP.1) (fun hkp => ?_) (fun hkp => ?_))
                  · refine y_nv ?_
                    refine y_zne rfl rfl rfl (by decide) (fun g133 => ?_) (fun g133 => absurd g133 (by decide))
                    refine y_lv (l' := [(0, .ref 170), (1, iv v1), (2, iv form), (3, iv N), (4, iv v4)]) rfl ⟨rfl, rfl, rfl, rfl, rfl, trivial⟩ ?_
                    refine y_mono (kk (fun q => ?_) _ hR2 hfq) (by omega)
                    rcases q with q | q
                    · rcases q.2 with ⟨q1, q2, q3⟩ | ⟨q1, q2⟩
                      · omega
                      · rw [eA] at q2; exact absurd (h_br.symm.trans q2) (by decide)
                    · exact q hkp
                  · refine y_nv ?_
                    refine y_zne rfl rfl rfl (by decide) (fun g134 => absurd g134 (by decide)) (fun g134 => ?_)
                    refine y_ic rfl rfl ?_
                    refine y_rI rfl (by decide) ?_
                    exact kv (Or.inr hkp) _ hfq
            · refine y_ld (x := .ref 170) rfl rfl (fun d => rfl) ?_
              refine y_gR (i := 28) rfl rfl rfl (md170 hM) rfl ?_
              refine y_ld (x := .ref 170) rfl rfl (fun d => rfl) ?_
              refine y_gI (i := 17) (e := a) rfl rfl rfl (md170 hM) rfl hP.1 ?_
              refine y_ic rfl rfl ?_
              refine y_bst (q := a.toNat) rfl rfl (md183 hM) (by omega) (by decide) (by omega) (by decide) ?_
              refine y_ld (x := .ref 170) rfl rfl (fun d => rfl) ?_
              refine y_gR (i := 29) rfl rfl rfl (md170 hM) rfl ?_
              refine y_ld (x := .ref 170) rfl rfl (fun d => rfl) ?_
              refine y_gI (i := 17) (e := a) rfl rfl rfl (md170 hM) rfl hP.1 ?_
              refine y_ic rfl rfl ?_
              refine y_bst (q := a.toNat) rfl rfl (md184 hM) (by omega) (by decide) (by omega) (by decide) ?_
              refine y_ld (x := .ref 170) rfl rfl (fun d => rfl) ?_
              refine y_gR (i := 31) rfl rfl rfl (md170 hM) rfl ?_
              refine y_ld (x := .ref 170) rfl rfl (fun d => rfl) ?_
              refine y_gI (i := 17) (e := a) rfl rfl rfl (md170 hM) rfl hP.1 ?_
              refine y_ld (x := .ref 170) rfl rfl (fun d => rfl) ?_
              refine y_gI (i := 18) (e := h) rfl rfl rfl (md170 hM) rfl hP.2.1 ?_
              refine y_ist (q := a.toNat) rfl rfl (md186 hM) (by omega) (by decide) (by omega) ?_
              refine y_ld (x := .ref 170) rfl rfl (fun d => rfl) ?_
              refine y_gR (i := 32) rfl rfl rfl (md170 hM) rfl ?_
              refine y_ld (x := .ref 170) rfl rfl (fun d => rfl) ?_
              refine y_gI (i := 17) (e := a) rfl rfl rfl (md170 hM) rfl hP.1 ?_
              refine y_ld (x := .ref 170) rfl rfl (fun d => rfl) ?_
              refine y_gI (i := 20) (e := n) rfl rfl rfl (md170 hM) rfl hP.2.2.2 ?_
              refine y_ist (q := a.toNat) rfl rfl (md187 hM) (by omega) (by decide) (by omega) ?_
              refine y_ld (x := .ref 170) rfl rfl (fun d => rfl) ?_
              refine y_gR (i := 29) rfl rfl rfl (md170 hM) rfl ?_
              refine y_ld (x := .ref 170) rfl rfl (fun d => rfl) ?_
              refine y_gI (i := 17) (e := a) rfl rfl rfl (md170 hM) rfl hP.1 ?_
              refine y_ld (x := .ref 170) rfl rfl (fun d => rfl) ?_
              refine y_gR (i := 29) rfl rfl rfl (md170 hM) rfl ?_
              refine y_ld (x := .ref 170) rfl rfl (fun d => rfl) ?_
              refine y_gI (i := 17) (e := a) rfl rfl rfl (md170 hM) rfl hP.1 ?_
              refine y_bld (x := 1) (q := a.toNat) rfl rfl (md184 hM) (by omega) (by decide) (by omega) (by rw [v_up_ne (by decide), v_up_ne (by decide), v_up_eq]) ?_
              refine y_zeq rfl rfl rfl (by decide) (fun g135 => absurd g135 (by decide)) (fun g135 => ?_)
              refine y_ld (x := .ref 170) rfl rfl (fun d => rfl) ?_
              refine y_gI (i := 19) (e := κ) rfl rfl rfl (md170 hM) rfl hP.2.2.1 ?_
              refine y_ic rfl rfl ?_
              refine y_jeq rfl rfl rfl (by omega) (fun g136 => absurd g136 (by omega)) (fun g136 => ?_)
              refine y_ic rfl rfl ?_
              refine y_go rfl rfl ?_
              refine y_bst (q := a.toNat) rfl rfl (md184 hM) (by omega) (by decide) (by omega) (by decide) ?_
              refine y_ld (x := .ref 170) rfl rfl (fun d => rfl) ?_
              refine y_gR (i := 30) rfl rfl rfl (md170 hM) rfl ?_
              refine y_ld (x := .ref 170) rfl rfl (fun d => rfl) ?_
              refine y_gI (i := 17) (e := a) rfl rfl rfl (md170 hM) rfl hP.1 ?_
              refine y_ld (x := .ref 170) rfl rfl (fun d => rfl) ?_
              refine y_gR (i := 30) rfl rfl rfl (md170 hM) rfl ?_
              refine y_ld (x := .ref 170) rfl rfl (fun d => rfl) ?_
              refine y_gI (i := 17) (e := a) rfl rfl rfl (md170 hM) rfl hP.1 ?_
              refine y_bld (x := 0) (q := a.toNat) rfl rfl (md185 hM) (by omega) (by decide) (by omega) (by rw [v_up_ne (by decide), v_up_ne (by decide), v_up_ne (by decide), v_up_ne (by decide), v_up_ne (by decide), v_up_ne (by decide)]; exact b3.trans (by rw [h_br]; rfl)) ?_
              refine y_zne rfl rfl rfl (by decide) (fun g137 => absurd g137 (by decide)) (fun g137 => ?_)
              refine y_ld (x := iv 1) rfl rfl (fun d => rfl) ?_
              refine y_ic rfl rfl ?_
              refine y_jne rfl rfl rfl (by decide) (fun g138 => ?_) (fun g138 => absurd g138 (by decide))
              refine y_ic rfl rfl ?_
              refine y_bst (q := a.toNat) rfl rfl (md185 hM) (by omega) (by decide) (by omega) (by decide) ?_
              have eA : awS A a h κ n 1 = _ := awS_0 (by omega)
              have hR2 : RWm (v_up (v_up (v_up (v_up (v_up (v_up (v_up V 188 a.toNat (aPa A a.toNat + 1)) 183 a.toNat 1) 184 a.toNat 1) 186 a.toNat h) 187 a.toNat n) 184 a.toNat 1) 185 a.toNat 0) (awS A a h κ n 1) := by
                refine RWm_up (c := a.toNat) hR (fun t ht hc => ⟨(by rw [v_up_ne (by decide), v_up_ne (by decide), v_up_ne (by decide), v_up_ne (by decide), v_up_ne (by decide), v_up_ni hc, v_up_ne (by decide)]), (by rw [v_up_ne (by decide), v_up_ni hc, v_up_ne (by decide), v_up_ne (by decide), v_up_ni hc, v_up_ne (by decide), v_up_ne (by decide)]), (by rw [v_up_ni hc, v_up_ne (by decide), v_up_ne (by decide), v_up_ne (by decide), v_up_ne (by decide), v_up_ne (by decide), v_up_ne (by decide)]), (by rw [v_up_ne (by decide), v_up_ne (by decide), v_up_ne (by decide), v_up_ni hc, v_up_ne (by decide), v_up_ne (by decide), v_up_ne (by decide)]), (by rw [v_up_ne (by decide), v_up_ne (by decide), v_up_ni hc, v_up_ne (by decide), v_up_ne (by decide), v_up_ne (by decide), v_up_ne (by decide)]), (by rw [v_up_ne (by decide), v_up_ne (by decide), v_up_ne (by decide), v_up_ne (by decide), v_up_ne (by decide), v_up_ne (by decide), v_up_ni hc])⟩) (fun t hc => awS_fr hc) ?_
                rw [eA]
                exact ⟨(by rw [v_up_ne (by decide), v_up_ne (by decide), v_up_ne (by decide), v_up_ne (by decide), v_up_ne (by decide), v_up_eq]; exact (congrArg b01 (uB_eq (aBg A) a.toNat true)).symm), (by rw [v_up_ne (by decide), v_up_eq]; exact (congrArg b01 (uB_eq (aOp A) a.toNat true)).symm), (by rw [v_up_eq]; exact (congrArg b01 h_br).symm), (by rw [v_up_ne (by decide), v_up_ne (by decide), v_up_ne (by decide), v_up_ne (by decide), v_up_ne (by decide), v_up_ne (by decide), v_up_eq]; exact (v_uf_eq _ _ _).symm), (fun _ => ⟨by rw [v_up_ne (by decide), v_up_ne (by decide), v_up_ne (by decide), v_up_eq]; exact (v_uf_eq _ _ _).symm, by rw [v_up_ne (by decide), v_up_ne (by decide), v_up_eq]; exact (v_uf_eq _ _ _).symm⟩)⟩
              have hA2 := awO_S (t := a) (h := h) (k := κ) (n := n) (how := 1) hA hpk
              have hfq : FrQ V (v_up (v_up (v_up (v_up (v_up (v_up (v_up V 188 a.toNat (aPa A a.toNat + 1)) 183 a.toNat 1) 184 a.toNat 1) 186 a.toNat h) 187 a.toNat n) 184 a.toNat 1) 185 a.toNat 0) := fun k hk => by rw [v_up_ne (by omega), v_up_ne (by omega), v_up_ne (by omega), v_up_ne (by omega), v_up_ne (by omega), v_up_ne (by omega), v_up_ne (by omega)]
              refine y_ld (x := .ref 170) rfl rfl (fun d => rfl) ?_
              refine y_ld (x := iv form) rfl rfl (fun d => rfl) ?_
              refine y_ld (x := iv N) rfl rfl (fun d => rfl) ?_
              refine y_cV (as := [.ref 170, iv form, iv N]) rfl rfl rfl rfl rfl (md170 hM) ⟨rfl, (Nat.le_of_ble_eq_true rfl), (Nat.le_of_ble_eq_true rfl)⟩ (by decide) (ct_isKept hM hR2 hA2 (by omega) p1 hf hN (by rw [v_up_ne (by decide), v_up_ne (by decide), v_up_ne (by decide), v_up_ne (by decide), v_up_ne (by decide), v_up_ne (by decide), v_up_ne (by decide)]; exact hP.1) (fun hkp => ?_) (fun hkp => ?_))
              · refine y_nv ?_
                refine y_zne rfl rfl rfl (by decide) (fun g139 => ?_) (fun g139 => absurd g139 (by decide))
                refine y_lv (l' := [(0, .ref 170), (1, iv v1), (2, iv form), (3, iv N), (4, iv v4)]) rfl ⟨rfl, rfl, rfl, rfl, rfl, trivial⟩ ?_
                refine y_mono (kk (fun q => ?_) _ hR2 hfq) (by omega)
                rcases q with q | q
                · rcases q.2 with ⟨q1, q2, q3⟩ | ⟨q1, q2⟩
                  · omega
                  · rw [eA] at q2; exact absurd (h_br.symm.trans q2) (by decide)
                · exact q hkp
              · refine y_nv ?_
                refine y_zne rfl rfl rfl (by decide) (fun g140 => absurd g140 (by decide)) (fun g140 => ?_)
                refine y_ic rfl rfl ?_
                refine y_rI rfl (by decide) ?_
                exact kv (Or.inr hkp) _ hfq
          · refine y_bld (x := 1) (q := a.toNat) rfl rfl (md185 hM) (by omega) (by decide) (by omega) (by rw [v_up_ne (by decide)]; exact b3.trans (by rw [h_br]; rfl)) ?_
            refine y_zeq rfl rfl rfl (by decide) (fun g141 => absurd g141 (by decide)) (fun g141 => ?_)
            refine y_ic rfl rfl ?_
            refine y_rI rfl (by decide) ?_
            have hfq : FrQ V (v_up V 188 a.toNat (aPa A a.toNat + 1)) := fun k hk => by rw [v_up_ne (by omega)]
            have e3 : aBr (awS A a h κ n 1) a.toNat = aBr A a.toNat := by
              by_cases h0 : κ = 0
              · rw [awS_0 h0]; rfl
              · by_cases h2 : κ = 2
                · rw [awS_2 h2]; rfl
                · rw [awS_x h0 h2]; rfl
            exact kv (Or.inl ⟨rfl, Or.inr ⟨by omega, e3.trans h_br⟩⟩) _ hfq
      · refine y_ld (x := .ref 170) rfl rfl (fun d => rfl) ?_
        refine y_gR (i := 28) rfl rfl rfl (md170 hM) rfl ?_
        refine y_ld (x := .ref 170) rfl rfl (fun d => rfl) ?_
        refine y_gI (i := 17) (e := a) rfl rfl rfl (md170 hM) rfl hP.1 ?_
        cases h_bg : aBg A a.toNat
        · refine y_bld (x := 0) (q := a.toNat) rfl rfl (md183 hM) (by omega) (by decide) (by omega) (by rw [v_up_ne (by decide)]; exact b1.trans (by rw [h_bg]; rfl)) ?_
          refine y_zeq rfl rfl rfl (by decide) (fun g142 => ?_) (fun g142 => absurd g142 (by decide))
          refine y_ic rfl rfl ?_
          refine y_rI rfl (by decide) ?_
          have hfq : FrQ V (v_up V 188 a.toNat (aPa A a.toNat + 1)) := fun k hk => by rw [v_up_ne (by omega)]
          exact kv (Or.inl ⟨rfl, Or.inl ⟨by omega, by omega, by rw [awS_x (by omega) (by omega)]; exact h_bg⟩⟩) _ hfq
        · refine y_bld (x := 1) (q := a.toNat) rfl rfl (md183 hM) (by omega) (by decide) (by omega) (by rw [v_up_ne (by decide)]; exact b1.trans (by rw [h_bg]; rfl)) ?_
          refine y_zeq rfl rfl rfl (by decide) (fun g143 => absurd g143 (by decide)) (fun g143 => ?_)
          refine y_ld (x := iv form) rfl rfl (fun d => rfl) ?_
          refine y_ic rfl rfl ?_
          refine y_jne rfl rfl rfl (by omega) (fun g144 => ?_) (fun g144 => ?_)
          · refine y_ld (x := .ref 170) rfl rfl (fun d => rfl) ?_
            refine y_gI (i := 19) (e := κ) rfl rfl rfl (md170 hM) rfl hP.2.2.1 ?_
            refine y_zne rfl rfl rfl (by omega) (fun g145 => ?_) (fun g145 => ?_)
            · refine y_ld (x := .ref 170) rfl rfl (fun d => rfl) ?_
              refine y_gR (i := 29) rfl rfl rfl (md170 hM) rfl ?_
              refine y_ld (x := .ref 170) rfl rfl (fun d => rfl) ?_
              refine y_gI (i := 17) (e := a) rfl rfl rfl (md170 hM) rfl hP.1 ?_
              refine y_ld (x := .ref 170) rfl rfl (fun d => rfl) ?_
              refine y_gR (i := 29) rfl rfl rfl (md170 hM) rfl ?_
              refine y_ld (x := .ref 170) rfl rfl (fun d => rfl) ?_
              refine y_gI (i := 17) (e := a) rfl rfl rfl (md170 hM) rfl hP.1 ?_
              cases h_op : aOp A a.toNat
              · refine y_bld (x := 0) (q := a.toNat) rfl rfl (md184 hM) (by omega) (by decide) (by omega) (by rw [v_up_ne (by decide)]; exact b2.trans (by rw [h_op]; rfl)) ?_
                refine y_zeq rfl rfl rfl (by decide) (fun g146 => ?_) (fun g146 => absurd g146 (by decide))
                refine y_ic rfl rfl ?_
                refine y_bst (q := a.toNat) rfl rfl (md184 hM) (by omega) (by decide) (by omega) (by decide) ?_
                refine y_ld (x := .ref 170) rfl rfl (fun d => rfl) ?_
                refine y_gR (i := 30) rfl rfl rfl (md170 hM) rfl ?_
                refine y_ld (x := .ref 170) rfl rfl (fun d => rfl) ?_
                refine y_gI (i := 17) (e := a) rfl rfl rfl (md170 hM) rfl hP.1 ?_
                refine y_ld (x := .ref 170) rfl rfl (fun d => rfl) ?_
                refine y_gR (i := 30) rfl rfl rfl (md170 hM) rfl ?_
                refine y_ld (x := .ref 170) rfl rfl (fun d => rfl) ?_
                refine y_gI (i := 17) (e := a) rfl rfl rfl (md170 hM) rfl hP.1 ?_
                cases h_br : aBr A a.toNat
                · refine y_bld (x := 0) (q := a.toNat) rfl rfl (md185 hM) (by omega) (by decide) (by omega) (by rw [v_up_ne (by decide), v_up_ne (by decide)]; exact b3.trans (by rw [h_br]; rfl)) ?_
                  refine y_zne rfl rfl rfl (by decide) (fun g147 => absurd g147 (by decide)) (fun g147 => ?_)
                  refine y_ld (x := iv 1) rfl rfl (fun d => rfl) ?_
                  refine y_ic rfl rfl ?_
                  refine y_jne rfl rfl rfl (by decide) (fun g148 => ?_) (fun g148 => absurd g148 (by decide))
                  refine y_ic rfl rfl ?_
                  refine y_bst (q := a.toNat) rfl rfl (md185 hM) (by omega) (by decide) (by omega) (by decide) ?_
                  by_cases hk2 : κ = 2
                  · have eA : awS A a h κ n 1 = _ := awS_2 hk2
                    have hR2 : RWm (v_up (v_up (v_up V 188 a.toNat (aPa A a.toNat + 1)) 184 a.toNat 0) 185 a.toNat 0) (awS A a h κ n 1) := by
                      refine RWm_up (c := a.toNat) hR (fun t ht hc => ⟨(by rw [v_up_ne (by decide), v_up_ne (by decide), v_up_ne (by decide)]), (by rw [v_up_ne (by decide), v_up_ni hc, v_up_ne (by decide)]), (by rw [v_up_ni hc, v_up_ne (by decide), v_up_ne (by decide)]), (by rw [v_up_ne (by decide), v_up_ne (by decide), v_up_ne (by decide)]), (by rw [v_up_ne (by decide), v_up_ne (by decide), v_up_ne (by decide)]), (by rw [v_up_ne (by decide), v_up_ne (by decide), v_up_ni hc])⟩) (fun t hc => awS_fr hc) ?_
                      rw [eA]
                      exact ⟨(by rw [v_up_ne (by decide), v_up_ne (by decide), v_up_ne (by decide)]; exact b1), (by rw [v_up_ne (by decide), v_up_eq]; exact (congrArg b01 (uB_eq (aOp A) a.toNat false)).symm), (by rw [v_up_eq]; exact (congrArg b01 h_br).symm), (by rw [v_up_ne (by decide), v_up_ne (by decide), v_up_eq]; exact (v_uf_eq _ _ _).symm), (fun q => absurd ((uB_eq (aOp A) a.toNat false).symm.trans q) (by decide))⟩
                    have hA2 := awO_S (t := a) (h := h) (k := κ) (n := n) (how := 1) hA hpk
                    have hfq : FrQ V (v_up (v_up (v_up V 188 a.toNat (aPa A a.toNat + 1)) 184 a.toNat 0) 185 a.toNat 0) := fun k hk => by rw [v_up_ne (by omega), v_up_ne (by omega), v_up_ne (by omega)]
                    refine y_ld (x := .ref 170) rfl rfl (fun d => rfl) ?_
                    refine y_ld (x := iv form) rfl rfl (fun d => rfl) ?_
                    refine y_ld (x := iv N) rfl rfl (fun d => rfl) ?_
                    refine y_cV (as := [.ref 170, iv form, iv N]) rfl rfl rfl rfl rfl (md170 hM) ⟨rfl, (Nat.le_of_ble_eq_true rfl), (Nat.le_of_ble_eq_true rfl)⟩ (by decide) (ct_isKept hM hR2 hA2 (by omega) p1 hf hN (by rw [v_up_ne (by decide), v_up_ne (by decide), v_up_ne (by decide)]; exact hP.1) (fun hkp => ?_) (fun hkp => ?_))
                    · refine y_nv ?_
                      refine y_zne rfl rfl rfl (by decide) (fun g149 => ?_) (fun g149 => absurd g149 (by decide))
                      refine y_lv (l' := [(0, .ref 170), (1, iv v1), (2, iv form), (3, iv N), (4, iv v4)]) rfl ⟨rfl, rfl, rfl, rfl, rfl, trivial⟩ ?_
                      refine y_mono (kk (fun q => ?_) _ hR2 hfq) (by omega)
                      rcases q with q | q
                      · rcases q.2 with ⟨q1, q2, q3⟩ | ⟨q1, q2⟩
                        · rw [awS_x (by omega) (by omega)] at q3; exact absurd (h_bg.symm.trans q3) (by decide)
                        · omega
                      · exact q hkp
                    · refine y_nv ?_
                      refine y_zne rfl rfl rfl (by decide) (fun g150 => absurd g150 (by decide)) (fun g150 => ?_)
                      refine y_ic rfl rfl ?_
                      refine y_rI rfl (by decide) ?_
                      exact kv (Or.inr hkp) _ hfq
                  · have eA : awS A a h κ n 1 = _ := awS_x (by omega) hk2
                    have hR2 : RWm (v_up (v_up (v_up V 188 a.toNat (aPa A a.toNat + 1)) 184 a.toNat 0) 185 a.toNat 0) (awS A a h κ n 1) := by
                      refine RWm_up (c := a.toNat) hR (fun t ht hc => ⟨(by rw [v_up_ne (by decide), v_up_ne (by decide), v_up_ne (by decide)]), (by rw [v_up_ne (by decide), v_up_ni hc, v_up_ne (by decide)]), (by rw [v_up_ni hc, v_up_ne (by decide), v_up_ne (by decide)]), (by rw [v_up_ne (by decide), v_up_ne (by decide), v_up_ne (by decide)]), (by rw [v_up_ne (by decide), v_up_ne (by decide), v_up_ne (by decide)]), (by rw [v_up_ne (by decide), v_up_ne (by decide), v_up_ni hc])⟩) (fun t hc => awS_fr hc) ?_
                      rw [eA]
                      exact ⟨(by rw [v_up_ne (by decide), v_up_ne (by decide), v_up_ne (by decide)]; exact b1), (by rw [v_up_ne (by decide), v_up_eq]; exact (congrArg b01 h_op).symm), (by rw [v_up_eq]; exact (congrArg b01 h_br).symm), (by rw [v_up_ne (by decide), v_up_ne (by decide), v_up_eq]; exact (v_uf_eq _ _ _).symm), (fun q => ⟨by rw [v_up_ne (by decide), v_up_ne (by decide), v_up_ne (by decide)]; exact (b5 q).1, by rw [v_up_ne (by decide), v_up_ne (by decide), v_up_ne (by decide)]; exact (b5 q).2⟩)⟩
                    have hA2 := awO_S (t := a) (h := h) (k := κ) (n := n) (how := 1) hA hpk
                    have hfq : FrQ V (v_up (v_up (v_up V 188 a.toNat (aPa A a.toNat + 1)) 184 a.toNat 0) 185 a.toNat 0) := fun k hk => by rw [v_up_ne (by omega), v_up_ne (by omega), v_up_ne (by omega)]
                    refine y_ld (x := .ref 170) rfl rfl (fun d => rfl) ?_
                    refine y_ld (x := iv form) rfl rfl (fun d => rfl) ?_
                    refine y_ld (x := iv N) rfl rfl (fun d => rfl) ?_
                    refine y_cV (as := [.ref 170, iv form, iv N]) rfl rfl rfl rfl rfl (md170 hM) ⟨rfl, (Nat.le_of_ble_eq_true rfl), (Nat.le_of_ble_eq_true rfl)⟩ (by decide) (ct_isKept hM hR2 hA2 (by omega) p1 hf hN (by rw [v_up_ne (by decide), v_up_ne (by decide), v_up_ne (by decide)]; exact hP.1) (fun hkp => ?_) (fun hkp => ?_))
                    · refine y_nv ?_
                      refine y_zne rfl rfl rfl (by decide) (fun g151 => ?_) (fun g151 => absurd g151 (by decide))
                      refine y_lv (l' := [(0, .ref 170), (1, iv v1), (2, iv form), (3, iv N), (4, iv v4)]) rfl ⟨rfl, rfl, rfl, rfl, rfl, trivial⟩ ?_
                      refine y_mono (kk (fun q => ?_) _ hR2 hfq) (by omega)
                      rcases q with q | q
                      · rcases q.2 with ⟨q1, q2, q3⟩ | ⟨q1, q2⟩
                        · rw [awS_x (by omega) (by omega)] at q3; exact absurd (h_bg.symm.trans q3) (by decide)
                        · omega
                      · exact q hkp
                    · refine y_nv ?_
                      refine y_zne rfl rfl rfl (by decide) (fun g152 => absurd g152 (by decide)) (fun g152 => ?_)
                      refine y_ic rfl rfl ?_
                      refine y_rI rfl (by decide) ?_
                      exact kv (Or.inr hkp) _ hfq
                · refine y_bld (x := 1) (q := a.toNat) rfl rfl (md185 hM) (by omega) (by decide) (by omega) (by rw [v_up_ne (by decide), v_up_ne (by decide)]; exact b3.trans (by rw [h_br]; rfl)) ?_
                  refine y_zne rfl rfl rfl (by decide) (fun g153 => ?_) (fun g153 => absurd g153 (by decide))
                  refine y_ic rfl rfl ?_
                  refine y_go rfl rfl ?_
                  refine y_bst (q := a.toNat) rfl rfl (md185 hM) (by omega) (by decide) (by omega) (by decide) ?_
                  by_cases hk2 : κ = 2
                  · have eA : awS A a h κ n 1 = _ := awS_2 hk2
                    have hR2 : RWm (v_up (v_up (v_up V 188 a.toNat (aPa A a.toNat + 1)) 184 a.toNat 0) 185 a.toNat 1) (awS A a h κ n 1) := by
                      refine RWm_up (c := a.toNat) hR (fun t ht hc => ⟨(by rw [v_up_ne (by decide), v_up_ne (by decide), v_up_ne (by decide)]), (by rw [v_up_ne (by decide), v_up_ni hc, v_up_ne (by decide)]), (by rw [v_up_ni hc, v_up_ne (by decide), v_up_ne (by decide)]), (by rw [v_up_ne (by decide), v_up_ne (by decide), v_up_ne (by decide)]), (by rw [v_up_ne (by decide), v_up_ne (by decide), v_up_ne (by decide)]), (by rw [v_up_ne (by decide), v_up_ne (by decide), v_up_ni hc])⟩) (fun t hc => awS_fr hc) ?_
                      rw [eA]
                      exact ⟨(by rw [v_up_ne (by decide), v_up_ne (by decide), v_up_ne (by decide)]; exact b1), (by rw [v_up_ne (by decide), v_up_eq]; exact (congrArg b01 (uB_eq (aOp A) a.toNat false)).symm), (by rw [v_up_eq]; exact (congrArg b01 h_br).symm), (by rw [v_up_ne (by decide), v_up_ne (by decide), v_up_eq]; exact (v_uf_eq _ _ _).symm), (fun q => absurd ((uB_eq (aOp A) a.toNat false).symm.trans q) (by decide))⟩
                    have hA2 := awO_S (t := a) (h := h) (k := κ) (n := n) (how := 1) hA hpk
                    have hfq : FrQ V (v_up (v_up (v_up V 188 a.toNat (aPa A a.toNat + 1)) 184 a.toNat 0) 185 a.toNat 1) := fun k hk => by rw [v_up_ne (by omega), v_up_ne (by omega), v_up_ne (by omega)]
                    refine y_ld (x := .ref 170) rfl rfl (fun d => rfl) ?_
                    refine y_ld (x := iv form) rfl rfl (fun d => rfl) ?_
                    refine y_ld (x := iv N) rfl rfl (fun d => rfl) ?_
                    refine y_cV (as := [.ref 170, iv form, iv N]) rfl rfl rfl rfl rfl (md170 hM) ⟨rfl, (Nat.le_of_ble_eq_true rfl), (Nat.le_of_ble_eq_true rfl)⟩ (by decide) (ct_isKept hM hR2 hA2 (by omega) p1 hf hN (by rw [v_up_ne (by decide), v_up_ne (by decide), v_up_ne (by decide)]; exact hP.1) (fun hkp => ?_) (fun hkp => ?_))
                    · refine y_nv ?_
                      refine y_zne rfl rfl rfl (by decide) (fun g154 => ?_) (fun g154 => absurd g154 (by decide))
                      refine y_lv (l' := [(0, .ref 170), (1, iv v1), (2, iv form), (3, iv N), (4, iv v4)]) rfl ⟨rfl, rfl, rfl, rfl, rfl, trivial⟩ ?_
                      refine y_mono (kk (fun q => ?_) _ hR2 hfq) (by omega)
                      rcases q with q | q
                      · rcases q.2 with ⟨q1, q2, q3⟩ | ⟨q1, q2⟩
                        · rw [awS_x (by omega) (by omega)] at q3; exact absurd (h_bg.symm.trans q3) (by decide)
                        · omega
                      · exact q hkp
                    · refine y_nv ?_
                      refine y_zne rfl rfl rfl (by decide) (fun g155 => absurd g155 (by decide)) (fun g155 => ?_)
                      refine y_ic rfl rfl ?_
                      refine y_rI rfl (by decide) ?_
                      exact kv (Or.inr hkp) _ hfq
                  · have eA : awS A a h κ n 1 = _ := awS_x (by omega) hk2
                    have hR2 : RWm (v_up (v_up (v_up V 188 a.toNat (aPa A a.toNat + 1)) 184 a.toNat 0) 185 a.toNat 1) (awS A a h κ n 1) := by
                      refine RWm_up (c := a.toNat) hR (fun t ht hc => ⟨(by rw [v_up_ne (by decide), v_up_ne (by decide), v_up_ne (by decide)]), (by rw [v_up_ne (by decide), v_up_ni hc, v_up_ne (by decide)]), (by rw [v_up_ni hc, v_up_ne (by decide), v_up_ne (by decide)]), (by rw [v_up_ne (by decide), v_up_ne (by decide), v_up_ne (by decide)]), (by rw [v_up_ne (by decide), v_up_ne (by decide), v_up_ne (by decide)]), (by rw [v_up_ne (by decide), v_up_ne (by decide), v_up_ni hc])⟩) (fun t hc => awS_fr hc) ?_
                      rw [eA]
                      exact ⟨(by rw [v_up_ne (by decide), v_up_ne (by decide), v_up_ne (by decide)]; exact b1), (by rw [v_up_ne (by decide), v_up_eq]; exact (congrArg b01 h_op).symm), (by rw [v_up_eq]; exact (congrArg b01 h_br).symm), (by rw [v_up_ne (by decide), v_up_ne (by decide), v_up_eq]; exact (v_uf_eq _ _ _).symm), (fun q => ⟨by rw [v_up_ne (by decide), v_up_ne (by decide), v_up_ne (by decide)]; exact (b5 q).1, by rw [v_up_ne (by decide), v_up_ne (by decide), v_up_ne (by decide)]; exact (b5 q).2⟩)⟩
                    have hA2 := awO_S (t := a) (h := h) (k := κ) (n := n) (how := 1) hA hpk
                    have hfq : FrQ V (v_up (v_up (v_up V 188 a.toNat (aPa A a.toNat + 1)) 184 a.toNat 0) 185 a.toNat 1) := fun k hk => by rw [v_up_ne (by omega), v_up_ne (by omega), v_up_ne (by omega)]
                    refine y_ld (x := .ref 170) rfl rfl (fun d => rfl) ?_
                    refine y_ld (x := iv form) rfl rfl (fun d => rfl) ?_
                    refine y_ld (x := iv N) rfl rfl (fun d => rfl) ?_
                    refine y_cV (as := [.ref 170, iv form, iv N]) rfl rfl rfl rfl rfl (md170 hM) ⟨rfl, (Nat.le_of_ble_eq_true rfl), (Nat.le_of_ble_eq_true rfl)⟩ (by decide) (ct_isKept hM hR2 hA2 (by omega) p1 hf hN (by rw [v_up_ne (by decide), v_up_ne (by decide), v_up_ne (by decide)]; exact hP.1) (fun hkp => ?_) (fun hkp => ?_))
                    · refine y_nv ?_
                      refine y_zne rfl rfl rfl (by decide) (fun g156 => ?_) (fun g156 => absurd g156 (by decide))
                      refine y_lv (l' := [(0, .ref 170), (1, iv v1), (2, iv form), (3, iv N), (4, iv v4)]) rfl ⟨rfl, rfl, rfl, rfl, rfl, trivial⟩ ?_
                      refine y_mono (kk (fun q => ?_) _ hR2 hfq) (by omega)
                      rcases q with q | q
                      · rcases q.2 with ⟨q1, q2, q3⟩ | ⟨q1, q2⟩
                        · rw [awS_x (by omega) (by omega)] at q3; exact absurd (h_bg.symm.trans q3) (by decide)
                        · omega
                      · exact q hkp
                    · refine y_nv ?_
                      refine y_zne rfl rfl rfl (by decide) (fun g157 => absurd g157 (by decide)) (fun g157 => ?_)
                      refine y_ic rfl rfl ?_
                      refine y_rI rfl (by decide) ?_
                      exact kv (Or.inr hkp) _ hfq
              · refine y_bld (x := 1) (q := a.toNat) rfl rfl (md184 hM) (by omega) (by decide) (by omega) (by rw [v_up_ne (by decide)]; exact b2.trans (by rw [h_op]; rfl)) ?_
                refine y_zeq rfl rfl rfl (by decide) (fun g158 => absurd g158 (by decide)) (fun g158 => ?_)
                refine y_ld (x := .ref 170) rfl rfl (fun d => rfl) ?_
                refine y_gI (i := 19) (e := κ) rfl rfl rfl (md170 hM) rfl hP.2.2.1 ?_
                refine y_ic rfl rfl ?_
                refine y_jeq rfl rfl rfl (by omega) (fun g159 => ?_) (fun g159 => ?_)
                · refine y_ic rfl rfl ?_
                  refine y_bst (q := a.toNat) rfl rfl (md184 hM) (by omega) (by decide) (by omega) (by decide) ?_
                  refine y_ld (x := .ref 170) rfl rfl (fun d => rfl) ?_
                  refine y_gR (i := 30) rfl rfl rfl (md170 hM) rfl ?_
                  refine y_ld (x := .ref 170) rfl rfl (fun d => rfl) ?_
                  refine y_gI (i := 17) (e := a) rfl rfl rfl (md170 hM) rfl hP.1 ?_
                  refine y_ld (x := .ref 170) rfl rfl (fun d => rfl) ?_
                  refine y_gR (i := 30) rfl rfl rfl (md170 hM) rfl ?_
                  refine y_ld (x := .ref 170) rfl rfl (fun d => rfl) ?_
                  refine y_gI (i := 17) (e := a) rfl rfl rfl (md170 hM) rfl hP.1 ?_
                  cases h_br : aBr A a.toNat
                  · refine y_bld (x := 0) (q := a.toNat) rfl rfl (md185 hM) (by omega) (by decide) (by omega) (by rw [v_up_ne (by decide), v_up_ne (by decide)]; exact b3.trans (by rw [h_br]; rfl)) ?_
                    refine y_zne rfl rfl rfl (by decide) (fun g160 => absurd g160 (by decide)) (fun g160 => ?_)
                    refine y_ld (x := iv 1) rfl rfl (fun d => rfl) ?_
                    refine y_ic rfl rfl ?_
                    refine y_jne rfl rfl rfl (by decide) (fun g161 => ?_) (fun g161 => absurd g161 (by decide))
                    refine y_ic rfl rfl ?_
                    refine y_bst (q := a.toNat) rfl rfl (md185 hM) (by omega) (by decide) (by omega) (by decide) ?_
                    have eA : awS A a h κ n 1 = _ := awS_2 (by omega)
                    have hR2 : RWm (v_up (v_up (v_up V 188 a.toNat (aPa A a.toNat + 1)) 184 a.toNat 0) 185 a.toNat 0) (awS A a h κ n 1) := by
                      refine RWm_up (c := a.toNat) hR (fun t ht hc => ⟨(by rw [v_up_ne (by decide), v_up_ne (by decide), v_up_ne (by decide)]), (by rw [v_up_ne (by decide), v_up_ni hc, v_up_ne (by decide)]), (by rw [v_up_ni hc, v_up_ne (by decide), v_up_ne (by decide)]), (by rw [v_up_ne (by decide), v_up_ne (by decide), v_up_ne (by decide)]), (by rw [v_up_ne (by decide), v_up_ne (by decide), v_up_ne (by decide)]), (by rw [v_up_ne (by decide), v_up_ne (by decide), v_up_ni hc])⟩) (fun t hc => awS_fr hc) ?_
                      rw [eA]
                      exact ⟨(by rw [v_up_ne (by decide), v_up_ne (by decide), v_up_ne (by decide)]; exact b1), (by rw [v_up_ne (by decide), v_up_eq]; exact (congrArg b01 (uB_eq (aOp A) a.toNat false)).symm), (by rw [v_up_eq]; exact (congrArg b01 h_br).symm), (by rw [v_up_ne (by decide), v_up_ne (by decide), v_up_eq]; exact (v_uf_eq _ _ _).symm), (fun q => absurd ((uB_eq (aOp A) a.toNat false).symm.trans q) (by decide))⟩
                    have hA2 := awO_S (t := a) (h := h) (k := κ) (n := n) (how := 1) hA hpk
                    have hfq : FrQ V (v_up (v_up (v_up V 188 a.toNat (aPa A a.toNat + 1)) 184 a.toNat 0) 185 a.toNat 0) := fun k hk => by rw [v_up_ne (by omega), v_up_ne (by omega), v_up_ne (by omega)]
                    refine y_ld (x := .ref 170) rfl rfl (fun d => rfl) ?_
                    refine y_ld (x := iv form) rfl rfl (fun d => rfl) ?_
                    refine y_ld (x := iv N) rfl rfl (fun d => rfl) ?_
                    refine y_cV (as := [.ref 170, iv form, iv N]) rfl rfl rfl rfl rfl (md170 hM) ⟨rfl, (Nat.le_of_ble_eq_true rfl), (Nat.le_of_ble_eq_true rfl)⟩ (by decide) (ct_isKept hM hR2 hA2 (by omega) p1 hf hN (by rw [v_up_ne (by decide), v_up_ne (by decide), v_up_ne (by decide)]; exact hP.1) (fun hkp => ?_) (fun hkp => ?_))
                    · refine y_nv ?_
                      refine y_zne rfl rfl rfl (by decide) (fun g162 => ?_) (fun g162 => absurd g162 (by decide))
                      refine y_lv (l' := [(0, .ref 170), (1, iv v1), (2, iv form), (3, iv N), (4, iv v4)]) rfl ⟨rfl, rfl, rfl, rfl, rfl, trivial⟩ ?_
                      refine y_mono (kk (fun q => ?_) _ hR2 hfq) (by omega)
                      rcases q with q | q
                      · rcases q.2 with ⟨q1, q2, q3⟩ | ⟨q1, q2⟩
                        · rw [awS_x (by omega) (by omega)] at q3; exact absurd (h_bg.symm.trans q3) (by decide)
                        · omega
                      · exact q hkp
                    · refine y_nv ?_
                      refine y_zne rfl rfl rfl (by decide) (fun g163 => absurd g163 (by decide)) (fun g163 => ?_)
                      refine y_ic rfl rfl ?_
                      refine y_rI rfl (by decide) ?_
                      exact kv (Or.inr hkp) _ hfq
                  · refine y_bld (x := 1) (q := a.toNat) rfl rfl (md185 hM) (by omega) (by decide) (by omega) (by rw [v_up_ne (by decide), v_up_ne (by decide)]; exact b3.trans (by rw [h_br]; rfl)) ?_
                    refine y_zne rfl rfl rfl (by decide) (fun g164 => ?_) (fun g164 => absurd g164 (by decide))
                    refine y_ic rfl rfl ?_
                    refine y_go rfl rfl ?_
                    refine y_bst (q := a.toNat) rfl rfl (md185 hM) (by omega) (by decide) (by omega) (by decide) ?_
                    have eA : awS A a h κ n 1 = _ := awS_2 (by omega)
                    have hR2 : RWm (v_up (v_up (v_up V 188 a.toNat (aPa A a.toNat + 1)) 184 a.toNat 0) 185 a.toNat 1) (awS A a h κ n 1) := by
                      refine RWm_up (c := a.toNat) hR (fun t ht hc => ⟨(by rw [v_up_ne (by decide), v_up_ne (by decide), v_up_ne (by decide)]), (by rw [v_up_ne (by decide), v_up_ni hc, v_up_ne (by decide)]), (by rw [v_up_ni hc, v_up_ne (by decide), v_up_ne (by decide)]), (by rw [v_up_ne (by decide), v_up_ne (by decide), v_up_ne (by decide)]), (by rw [v_up_ne (by decide), v_up_ne (by decide), v_up_ne (by decide)]), (by rw [v_up_ne (by decide), v_up_ne (by decide), v_up_ni hc])⟩) (fun t hc => awS_fr hc) ?_
                      rw [eA]
                      exact ⟨(by rw [v_up_ne (by decide), v_up_ne (by decide), v_up_ne (by decide)]; exact b1), (by rw [v_up_ne (by decide), v_up_eq]; exact (congrArg b01 (uB_eq (aOp A) a.toNat false)).symm), (by rw [v_up_eq]; exact (congrArg b01 h_br).symm), (by rw [v_up_ne (by decide), v_up_ne (by decide), v_up_eq]; exact (v_uf_eq _ _ _).symm), (fun q => absurd ((uB_eq (aOp A) a.toNat false).symm.trans q) (by decide))⟩
                    have hA2 := awO_S (t := a) (h := h) (k := κ) (n := n) (how := 1) hA hpk
                    have hfq : FrQ V (v_up (v_up (v_up V 188 a.toNat (aPa A a.toNat + 1)) 184 a.toNat 0) 185 a.toNat 1) := fun k hk => by rw [v_up_ne (by omega), v_up_ne (by omega), v_up_ne (by omega)]
                    refine y_ld (x := .ref 170) rfl rfl (fun d => rfl) ?_
                    refine y_ld (x := iv form) rfl rfl (fun d => rfl) ?_
                    refine y_ld (x := iv N) rfl rfl (fun d => rfl) ?_
                    refine y_cV (as := [.ref 170, iv form, iv N]) rfl rfl rfl rfl rfl (md170 hM) ⟨rfl, (Nat.le_of_ble_eq_true rfl), (Nat.le_of_ble_eq_true rfl)⟩ (by decide) (ct_isKept hM hR2 hA2 (by omega) p1 hf hN (by rw [v_up_ne (by decide), v_up_ne (by decide), v_up_ne (by decide)]; exact hP.1) (fun hkp => ?_) (fun hkp => ?_))
                    · refine y_nv ?_
                      refine y_zne rfl rfl rfl (by decide) (fun g165 => ?_) (fun g165 => absurd g165 (by decide))
                      refine y_lv (l' := [(0, .ref 170), (1, iv v1), (2, iv form), (3, iv N), (4, iv v4)]) rfl ⟨rfl, rfl, rfl, rfl, rfl, trivial⟩ ?_
                      refine y_mono (kk (fun q => ?_) _ hR2 hfq) (by omega)
                      rcases q with q | q
                      · rcases q.2 with ⟨q1, q2, q3⟩ | ⟨q1, q2⟩
                        · rw [awS_x (by omega) (by omega)] at q3; exact absurd (h_bg.symm.trans q3) (by decide)
                        · omega
                      · exact q hkp
                    · refine y_nv ?_
                      refine y_zne rfl rfl rfl (by decide) (fun g166 => absurd g166 (by decide)) (fun g166 => ?_)
                      refine y_ic rfl rfl ?_
                      refine y_rI rfl (by decide) ?_
                      exact kv (Or.inr hkp) _ hfq
                · refine y_ic rfl rfl ?_
                  refine y_go rfl rfl ?_
                  refine y_bst (q := a.toNat) rfl rfl (md184 hM) (by omega) (by decide) (by omega) (by decide) ?_
                  refine y_ld (x := .ref 170) rfl rfl (fun d => rfl) ?_
                  refine y_gR (i := 30) rfl rfl rfl (md170 hM) rfl ?_
                  refine y_ld (x := .ref 170) rfl rfl (fun d => rfl) ?_
                  refine y_gI (i := 17) (e := a) rfl rfl rfl (md170 hM) rfl hP.1 ?_
                  refine y_ld (x := .ref 170) rfl rfl (fun d => rfl) ?_
                  refine y_gR (i := 30) rfl rfl rfl (md170 hM) rfl ?_
                  refine y_ld (x := .ref 170) rfl rfl (fun d => rfl) ?_
                  refine y_gI (i := 17) (e := a) rfl rfl rfl (md170 hM) rfl hP.1 ?_
                  cases h_br : aBr A a.toNat
                  · refine y_bld (x := 0) (q := a.toNat) rfl rfl (md185 hM) (by omega) (by decide) (by omega) (by rw [v_up_ne (by decide), v_up_ne (by decide)]; exact b3.trans (by rw [h_br]; rfl)) ?_
                    refine y_zne rfl rfl rfl (by decide) (fun g167 => absurd g167 (by decide)) (fun g167 => ?_)
                    refine y_ld (x := iv 1) rfl rfl (fun d => rfl) ?_
                    refine y_ic rfl rfl ?_
                    refine y_jne rfl rfl rfl (by decide) (fun g168 => ?_) (fun g168 => absurd g168 (by decide))
                    refine y_ic rfl rfl ?_
                    refine y_bst (q := a.toNat) rfl rfl (md185 hM) (by omega) (by decide) (by omega) (by decide) ?_
                    have eA : awS A a h κ n 1 = _ := awS_x (by omega) (by omega)
                    have hR2 : RWm (v_up (v_up (v_up V 188 a.toNat (aPa A a.toNat + 1)) 184 a.toNat 1) 185 a.toNat 0) (awS A a h κ n 1) := by
                      refine RWm_up (c := a.toNat) hR (fun t ht hc => ⟨(by rw [v_up_ne (by decide), v_up_ne (by decide), v_up_ne (by decide)]), (by rw [v_up_ne (by decide), v_up_ni hc, v_up_ne (by decide)]), (by rw [v_up_ni hc, v_up_ne (by decide), v_up_ne (by decide)]), (by rw [v_up_ne (by decide), v_up_ne (by decide), v_up_ne (by decide)]), (by rw [v_up_ne (by decide), v_up_ne (by decide), v_up_ne (by decide)]), (by rw [v_up_ne (by decide), v_up_ne (by decide), v_up_ni hc])⟩) (fun t hc => awS_fr hc) ?_
                      rw [eA]
                      exact ⟨(by rw [v_up_ne (by decide), v_up_ne (by decide), v_up_ne (by decide)]; exact b1), (by rw [v_up_ne (by decide), v_up_eq]; exact (congrArg b01 h_op).symm), (by rw [v_up_eq]; exact (congrArg b01 h_br).symm), (by rw [v_up_ne (by decide), v_up_ne (by decide), v_up_eq]; exact (v_uf_eq _ _ _).symm), (fun q => ⟨by rw [v_up_ne (by decide), v_up_ne (by decide), v_up_ne (by decide)]; exact (b5 q).1, by rw [v_up_ne (by decide), v_up_ne (by decide), v_up_ne (by decide)]; exact (b5 q).2⟩)⟩
                    have hA2 := awO_S (t := a) (h := h) (k := κ) (n := n) (how := 1) hA hpk
                    have hfq : FrQ V (v_up (v_up (v_up V 188 a.toNat (aPa A a.toNat + 1)) 184 a.toNat 1) 185 a.toNat 0) := fun k hk => by rw [v_up_ne (by omega), v_up_ne (by omega), v_up_ne (by omega)]
                    refine y_ld (x := .ref 170) rfl rfl (fun d => rfl) ?_
                    refine y_ld (x := iv form) rfl rfl (fun d => rfl) ?_
                    refine y_ld (x := iv N) rfl rfl (fun d => rfl) ?_
                    refine y_cV (as := [.ref 170, iv form, iv N]) rfl rfl rfl rfl rfl (md170 hM) ⟨rfl, (Nat.le_of_ble_eq_true rfl), (Nat.le_of_ble_eq_true rfl)⟩ (by decide) (ct_isKept hM hR2 hA2 (by omega) p1 hf hN (by rw [v_up_ne (by decide), v_up_ne (by decide), v_up_ne (by decide)]; exact hP.1) (fun hkp => ?_) (fun hkp => ?_))
                    · refine y_nv ?_
                      refine y_zne rfl rfl rfl (by decide) (fun g169 => ?_) (fun g169 => absurd g169 (by decide))
                      refine y_lv (l' := [(0, .ref 170), (1, iv v1), (2, iv form), (3, iv N), (4, iv v4)]) rfl ⟨rfl, rfl, rfl, rfl, rfl, trivial⟩ ?_
                      refine y_mono (kk (fun q => ?_) _ hR2 hfq) (by omega)
                      rcases q with q | q
                      · rcases q.2 with ⟨q1, q2, q3⟩ | ⟨q1, q2⟩
                        · rw [awS_x (by omega) (by omega)] at q3; exact absurd (h_bg.symm.trans q3) (by decide)
                        · omega
                      · exact q hkp
                    · refine y_nv ?_
                      refine y_zne rfl rfl rfl (by decide) (fun g170 => absurd g170 (by decide)) (fun g170 => ?_)
                      refine y_ic rfl rfl ?_
                      refine y_rI rfl (by decide) ?_
                      exact kv (Or.inr hkp) _ hfq
                  · refine y_bld (x := 1) (q := a.toNat) rfl rfl (md185 hM) (by omega) (by decide) (by omega) (by rw [v_up_ne (by decide), v_up_ne (by decide)]; exact b3.trans (by rw [h_br]; rfl)) ?_
                    refine y_zne rfl rfl rfl (by decide) (fun g171 => ?_) (fun g171 => absurd g171 (by decide))
                    refine y_ic rfl rfl ?_
                    refine y_go rfl rfl ?_
                    refine y_bst (q := a.toNat) rfl rfl (md185 hM) (by omega) (by decide) (by omega) (by decide) ?_
                    have eA : awS A a h κ n 1 = _ := awS_x (by omega) (by omega)
                    have hR2 : RWm (v_up (v_up (v_up V 188 a.toNat (aPa A a.toNat + 1)) 184 a.toNat 1) 185 a.toNat 1) (awS A a h κ n 1) := by
                      refine RWm_up (c := a.toNat) hR (fun t ht hc => ⟨(by rw [v_up_ne (by decide), v_up_ne (by decide), v_up_ne (by decide)]), (by rw [v_up_ne (by decide), v_up_ni hc, v_up_ne (by decide)]), (by rw [v_up_ni hc, v_up_ne (by decide), v_up_ne (by decide)]), (by rw [v_up_ne (by decide), v_up_ne (by decide), v_up_ne (by decide)]), (by rw [v_up_ne (by decide), v_up_ne (by decide), v_up_ne (by decide)]), (by rw [v_up_ne (by decide), v_up_ne (by decide), v_up_ni hc])⟩) (fun t hc => awS_fr hc) ?_
                      rw [eA]
                      exact ⟨(by rw [v_up_ne (by decide), v_up_ne (by decide), v_up_ne (by decide)]; exact b1), (by rw [v_up_ne (by decide), v_up_eq]; exact (congrArg b01 h_op).symm), (by rw [v_up_eq]; exact (congrArg b01 h_br).symm), (by rw [v_up_ne (by decide), v_up_ne (by decide), v_up_eq]; exact (v_uf_eq _ _ _).symm), (fun q => ⟨by rw [v_up_ne (by decide), v_up_ne (by decide), v_up_ne (by decide)]; exact (b5 q).1, by rw [v_up_ne (by decide), v_up_ne (by decide), v_up_ne (by decide)]; exact (b5 q).2⟩)⟩
                    have hA2 := awO_S (t := a) (h := h) (k := κ) (n := n) (how := 1) hA hpk
                    have hfq : FrQ V (v_up (v_up (v_up V 188 a.toNat (aPa A a.toNat + 1)) 184 a.toNat 1) 185 a.toNat 1) := fun k hk => by rw [v_up_ne (by omega), v_up_ne (by omega), v_up_ne (by omega)]
                    refine y_ld (x := .ref 170) rfl rfl (fun d => rfl) ?_
                    refine y_ld (x := iv form) rfl rfl (fun d => rfl) ?_
                    refine y_ld (x := iv N) rfl rfl (fun d => rfl) ?_
                    refine y_cV (as := [.ref 170, iv form, iv N]) rfl rfl rfl rfl rfl (md170 hM) ⟨rfl, (Nat.le_of_ble_eq_true rfl), (Nat.le_of_ble_eq_true rfl)⟩ (by decide) (ct_isKept hM hR2 hA2 (by omega) p1 hf hN (by rw [v_up_ne (by decide), v_up_ne (by decide), v_up_ne (by decide)]; exact hP.1) (fun hkp => ?_) (fun hkp => ?_))
                    · refine y_nv ?_
                      refine y_zne rfl rfl rfl (by decide) (fun g172 => ?_) (fun g172 => absurd g172 (by decide))
                      refine y_lv (l' := [(0, .ref 170), (1, iv v1), (2, iv form), (3, iv N), (4, iv v4)]) rfl ⟨rfl, rfl, rfl, rfl, rfl, trivial⟩ ?_
                      refine y_mono (kk (fun q => ?_) _ hR2 hfq) (by omega)
                      rcases q with q | q
                      · rcases q.2 with ⟨q1, q2, q3⟩ | ⟨q1, q2⟩
                        · rw [awS_x (by omega) (by omega)] at q3; exact absurd (h_bg.symm.trans q3) (by decide)
                        · omega
                      · exact q hkp
                    · refine y_nv ?_
                      refine y_zne rfl rfl rfl (by decide) (fun g173 => absurd g173 (by decide)) (fun g173 => ?_)
                      refine y_ic rfl rfl ?_
                      refine y_rI rfl (by decide) ?_
                      exact kv (Or.inr hkp) _ hfq
            · refine y_ld (x := .ref 170) rfl rfl (fun d => rfl) ?_
              refine y_gR (i := 28) rfl rfl rfl (md170 hM) rfl ?_
              refine y_ld (x := .ref 170) rfl rfl (fun d => rfl) ?_
              refine y_gI (i := 17) (e := a) rfl rfl rfl (md170 hM) rfl hP.1 ?_
              refine y_ic rfl rfl ?_
              refine y_bst (q := a.toNat) rfl rfl (md183 hM) (by omega) (by decide) (by omega) (by decide) ?_
              refine y_ld (x := .ref 170) rfl rfl (fun d => rfl) ?_
              refine y_gR (i := 29) rfl rfl rfl (md170 hM) rfl ?_
              refine y_ld (x := .ref 170) rfl rfl (fun d => rfl) ?_
              refine y_gI (i := 17) (e := a) rfl rfl rfl (md170 hM) rfl hP.1 ?_
              refine y_ic rfl rfl ?_
              refine y_bst (q := a.toNat) rfl rfl (md184 hM) (by omega) (by decide) (by omega) (by decide) ?_
              refine y_ld (x := .ref 170) rfl rfl (fun d => rfl) ?_
              refine y_gR (i := 31) rfl rfl rfl (md170 hM) rfl ?_
              refine y_ld (x := .ref 170) rfl rfl (fun d => rfl) ?_
              refine y_gI (i := 17) (e := a) rfl rfl rfl (md170 hM) rfl hP.1 ?_
              refine y_ld (x := .ref 170) rfl rfl (fun d => rfl) ?_
              refine y_gI (i := 18) (e := h) rfl rfl rfl (md170 hM) rfl hP.2.1 ?_
              refine y_ist (q := a.toNat) rfl rfl (md186 hM) (by omega) (by decide) (by omega) ?_
              refine y_ld (x := .ref 170) rfl rfl (fun d => rfl) ?_
              refine y_gR (i := 32) rfl rfl rfl (md170 hM) rfl ?_
              refine y_ld (x := .ref 170) rfl rfl (fun d => rfl) ?_
              refine y_gI (i := 17) (e := a) rfl rfl rfl (md170 hM) rfl hP.1 ?_
              refine y_ld (x := .ref 170) rfl rfl (fun d => rfl) ?_
              refine y_gI (i := 20) (e := n) rfl rfl rfl (md170 hM) rfl hP.2.2.2 ?_
              refine y_ist (q := a.toNat) rfl rfl (md187 hM) (by omega) (by decide) (by omega) ?_
              refine y_ld (x := .ref 170) rfl rfl (fun d => rfl) ?_
              refine y_gR (i := 29) rfl rfl rfl (md170 hM) rfl ?_
              refine y_ld (x := .ref 170) rfl rfl (fun d => rfl) ?_
              refine y_gI (i := 17) (e := a) rfl rfl rfl (md170 hM) rfl hP.1 ?_
              refine y_ld (x := .ref 170) rfl rfl (fun d => rfl) ?_
              refine y_gR (i := 29) rfl rfl rfl (md170 hM) rfl ?_
              refine y_ld (x := .ref 170) rfl rfl (fun d => rfl) ?_
              refine y_gI (i := 17) (e := a) rfl rfl rfl (md170 hM) rfl hP.1 ?_
              refine y_bld (x := 1) (q := a.toNat) rfl rfl (md184 hM) (by omega) (by decide) (by omega) (by rw [v_up_ne (by decide), v_up_ne (by decide), v_up_eq]) ?_
              refine y_zeq rfl rfl rfl (by decide) (fun g174 => absurd g174 (by decide)) (fun g174 => ?_)
              refine y_ld (x := .ref 170) rfl rfl (fun d => rfl) ?_
              refine y_gI (i := 19) (e := κ) rfl rfl rfl (md170 hM) rfl hP.2.2.1 ?_
              refine y_ic rfl rfl ?_
              refine y_jeq rfl rfl rfl (by omega) (fun g175 => absurd g175 (by omega)) (fun g175 => ?_)
              refine y_ic rfl rfl ?_
              refine y_go rfl rfl ?_
              refine y_bst (q := a.toNat) rfl rfl (md184 hM) (by omega) (by decide) (by omega) (by decide) ?_
              refine y_ld (x := .ref 170) rfl rfl (fun d => rfl) ?_
              refine y_gR (i := 30) rfl rfl rfl (md170 hM) rfl ?_
              refine y_ld (x := .ref 170) rfl rfl (fun d => rfl) ?_
              refine y_gI (i := 17) (e := a) rfl rfl rfl (md170 hM) rfl hP.1 ?_
              refine y_ld (x := .ref 170) rfl rfl (fun d => rfl) ?_
              refine y_gR (i := 30) rfl rfl rfl (md170 hM) rfl ?_
              refine y_ld (x := .ref 170) rfl rfl (fun d => rfl) ?_
              refine y_gI (i := 17) (e := a) rfl rfl rfl (md170 hM) rfl hP.1 ?_
              cases h_br : aBr A a.toNat
              · refine y_bld (x := 0) (q := a.toNat) rfl rfl (md185 hM) (by omega) (by decide) (by omega) (by rw [v_up_ne (by decide), v_up_ne (by decide), v_up_ne (by decide), v_up_ne (by decide), v_up_ne (by decide), v_up_ne (by decide)]; exact b3.trans (by rw [h_br]; rfl)) ?_
                refine y_zne rfl rfl rfl (by decide) (fun g176 => absurd g176 (by decide)) (fun g176 => ?_)
                refine y_ld (x := iv 1) rfl rfl (fun d => rfl) ?_
                refine y_ic rfl rfl ?_
                refine y_jne rfl rfl rfl (by decide) (fun g177 => ?_) (fun g177 => absurd g177 (by decide))
                refine y_ic rfl rfl ?_
                refine y_bst (q := a.toNat) rfl rfl (md185 hM) (by omega) (by decide) (by omega) (by decide) ?_
                have eA : awS A a h κ n 1 = _ := awS_0 (by omega)
                have hR2 : RWm (v_up (v_up (v_up (v_up (v_up (v_up (v_up V 188 a.toNat (aPa A a.toNat + 1)) 183 a.toNat 1) 184 a.toNat 1) 186 a.toNat h) 187 a.toNat n) 184 a.toNat 1) 185 a.toNat 0) (awS A a h κ n 1) := by
                  refine RWm_up (c := a.toNat) hR (fun t ht hc => ⟨(by rw [v_up_ne (by decide), v_up_ne (by decide), v_up_ne (by decide), v_up_ne (by decide), v_up_ne (by decide), v_up_ni hc, v_up_ne (by decide)]), (by rw [v_up_ne (by decide), v_up_ni hc, v_up_ne (by decide), v_up_ne (by decide), v_up_ni hc, v_up_ne (by decide), v_up_ne (by decide)]), (by rw [v_up_ni hc, v_up_ne (by decide), v_up_ne (by decide), v_up_ne (by decide), v_up_ne (by decide), v_up_ne (by decide), v_up_ne (by decide)]), (by rw [v_up_ne (by decide), v_up_ne (by decide), v_up_ne (by decide), v_up_ni hc, v_up_ne (by decide), v_up_ne (by decide), v_up_ne (by decide)]), (by rw [v_up_ne (by decide), v_up_ne (by decide), v_up_ni hc, v_up_ne (by decide), v_up_ne (by decide), v_up_ne (by decide), v_up_ne (by decide)]), (by rw [v_up_ne (by decide), v_up_ne (by decide), v_up_ne (by decide), v_up_ne (by decide), v_up_ne (by decide), v_up_ne (by decide), v_up_ni hc])⟩) (fun t hc => awS_fr hc) ?_
                  rw [eA]
                  exact ⟨(by rw [v_up_ne (by decide), v_up_ne (by decide), v_up_ne (by decide), v_up_ne (by decide), v_up_ne (by decide), v_up_eq]; exact (congrArg b01 (uB_eq (aBg A) a.toNat true)).symm), (by rw [v_up_ne (by decide), v_up_eq]; exact (congrArg b01 (uB_eq (aOp A) a.toNat true)).symm), (by rw [v_up_eq]; exact (congrArg b01 h_br).symm), (by rw [v_up_ne (by decide), v_up_ne (by decide), v_up_ne (by decide), v_up_ne (by decide), v_up_ne (by decide), v_up_ne (by decide), v_up_eq]; exact (v_uf_eq _ _ _).symm), (fun _ => ⟨by rw [v_up_ne (by decide), v_up_ne (by decide), v_up_ne (by decide), v_up_eq]; exact (v_uf_eq _ _ _).symm, by rw [v_up_ne (by decide), v_up_ne (by decide), v_up_eq]; exact (v_uf_eq _ _ _).symm⟩)⟩
                have hA2 := awO_S (t := a) (h := h) (k := κ) (n := n) (how := 1) hA hpk
                have hfq : FrQ V (v_up (v_up (v_up (v_up (v_up (v_up (v_up V 188 a.toNat (aPa A a.toNat + 1)) 183 a.toNat 1) 184 a.toNat 1) 186 a.toNat h) 187 a.toNat n) 184 a.toNat 1) 185 a.toNat 0) := fun k hk => by rw [v_up_ne (by omega), v_up_ne (by omega), v_up_ne (by omega), v_up_ne (by omega), v_up_ne (by omega), v_up_ne (by omega), v_up_ne (by omega)]
                refine y_ld (x := .ref 170) rfl rfl (fun d => rfl) ?_
                refine y_ld (x := iv form) rfl rfl (fun d => rfl) ?_
                refine y_ld (x := iv N) rfl rfl (fun d => rfl) ?_
                refine y_cV (as := [.ref 170, iv form, iv N]) rfl rfl rfl rfl rfl (md170 hM) ⟨rfl, (Nat.le_of_ble_eq_true rfl), (Nat.le_of_ble_eq_true rfl)⟩ (by decide) (ct_isKept hM hR2 hA2 (by omega) p1 hf hN (by rw [v_up_ne (by decide), v_up_ne (by decide), v_up_ne (by decide), v_up_ne (by decide), v_up_ne (by decide), v_up_ne (by decide), v_up_ne (by decide)]; exact hP.1) (fun hkp => ?_) (fun hkp => ?_))
                · refine y_nv ?_
                  refine y_zne rfl rfl rfl (by decide) (fun g178 => ?_) (fun g178 => absurd g178 (by decide))
                  refine y_lv (l' := [(0, .ref 170), (1, iv v1), (2, iv form), (3, iv N), (4, iv v4)]) rfl ⟨rfl, rfl, rfl, rfl, rfl, trivial⟩ ?_
                  refine y_mono (kk (fun q => ?_) _ hR2 hfq) (by omega)
                  rcases q with q | q
                  · rcases q.2 with ⟨q1, q2, q3⟩ | ⟨q1, q2⟩
                    · rw [awS_x (by omega) (by omega)] at q3; exact absurd (h_bg.symm.trans q3) (by decide)
                    · omega
                  · exact q hkp
                · refine y_nv ?_
                  refine y_zne rfl rfl rfl (by decide) (fun g179 => absurd g179 (by decide)) (fun g179 => ?_)
                  refine y_ic rfl rfl ?_
                  refine y_rI rfl (by decide) ?_
                  exact kv (Or.inr hkp) _ hfq
              · refine y_bld (x := 1) (q := a.toNat) rfl rfl (md185 hM) (by omega) (by decide) (by omega) (by rw [v_up_ne (by decide), v_up_ne (by decide), v_up_ne (by decide), v_up_ne (by decide), v_up_ne (by decide), v_up_ne (by decide)]; exact b3.trans (by rw [h_br]; rfl)) ?_
                refine y_zne rfl rfl rfl (by decide) (fun g180 => ?_) (fun g180 => absurd g180 (by decide))
                refine y_ic rfl rfl ?_
                refine y_go rfl rfl ?_
                refine y_bst (q := a.toNat) rfl rfl (md185 hM) (by omega) (by decide) (by omega) (by decide) ?_
                have eA : awS A a h κ n 1 = _ := awS_0 (by omega)
                have hR2 : RWm (v_up (v_up (v_up (v_up (v_up (v_up (v_up V 188 a.toNat (aPa A a.toNat + 1)) 183 a.toNat 1) 184 a.toNat 1) 186 a.toNat h) 187 a.toNat n) 184 a.toNat 1) 185 a.toNat 1) (awS A a h κ n 1) := by
                  refine RWm_up (c := a.toNat) hR (fun t ht hc => ⟨(by rw [v_up_ne (by decide), v_up_ne (by decide), v_up_ne (by decide), v_up_ne (by decide), v_up_ne (by decide), v_up_ni hc, v_up_ne (by decide)]), (by rw [v_up_ne (by decide), v_up_ni hc, v_up_ne (by decide), v_up_ne (by decide), v_up_ni hc, v_up_ne (by decide), v_up_ne (by decide)]), (by rw [v_up_ni hc, v_up_ne (by decide), v_up_ne (by decide), v_up_ne (by decide), v_up_ne (by decide), v_up_ne (by decide), v_up_ne (by decide)]), (by rw [v_up_ne (by decide), v_up_ne (by decide), v_up_ne (by decide), v_up_ni hc, v_up_ne (by decide), v_up_ne (by decide), v_up_ne (by decide)]), (by rw [v_up_ne (by decide), v_up_ne (by decide), v_up_ni hc, v_up_ne (by decide), v_up_ne (by decide), v_up_ne (by decide), v_up_ne (by decide)]), (by rw [v_up_ne (by decide), v_up_ne (by decide), v_up_ne (by decide), v_up_ne (by decide), v_up_ne (by decide), v_up_ne (by decide), v_up_ni hc])⟩) (fun t hc => awS_fr hc) ?_
                  rw [eA]
                  exact ⟨(by rw [v_up_ne (by decide), v_up_ne (by decide), v_up_ne (by decide), v_up_ne (by decide), v_up_ne (by decide), v_up_eq]; exact (congrArg b01 (uB_eq (aBg A) a.toNat true)).symm), (by rw [v_up_ne (by decide), v_up_eq]; exact (congrArg b01 (uB_eq (aOp A) a.toNat true)).symm), (by rw [v_up_eq]; exact (congrArg b01 h_br).symm), (by rw [v_up_ne (by decide), v_up_ne (by decide), v_up_ne (by decide), v_up_ne (by decide), v_up_ne (by decide), v_up_ne (by decide), v_up_eq]; exact (v_uf_eq _ _ _).symm), (fun _ => ⟨by rw [v_up_ne (by decide), v_up_ne (by decide), v_up_ne (by decide), v_up_eq]; exact (v_uf_eq _ _ _).symm, by rw [v_up_ne (by decide), v_up_ne (by decide), v_up_eq]; exact (v_uf_eq _ _ _).symm⟩)⟩
                have hA2 := awO_S (t := a) (h := h) (k := κ) (n := n) (how := 1) hA hpk
                have hfq : FrQ V (v_up (v_up (v_up (v_up (v_up (v_up (v_up V 188 a.toNat (aPa A a.toNat + 1)) 183 a.toNat 1) 184 a.toNat 1) 186 a.toNat h) 187 a.toNat n) 184 a.toNat 1) 185 a.toNat 1) := fun k hk => by rw [v_up_ne (by omega), v_up_ne (by omega), v_up_ne (by omega), v_up_ne (by omega), v_up_ne (by omega), v_up_ne (by omega), v_up_ne (by omega)]
                refine y_ld (x := .ref 170) rfl rfl (fun d => rfl) ?_
                refine y_ld (x := iv form) rfl rfl (fun d => rfl) ?_
                refine y_ld (x := iv N) rfl rfl (fun d => rfl) ?_
                refine y_cV (as := [.ref 170, iv form, iv N]) rfl rfl rfl rfl rfl (md170 hM) ⟨rfl, (Nat.le_of_ble_eq_true rfl), (Nat.le_of_ble_eq_true rfl)⟩ (by decide) (ct_isKept hM hR2 hA2 (by omega) p1 hf hN (by rw [v_up_ne (by decide), v_up_ne (by decide), v_up_ne (by decide), v_up_ne (by decide), v_up_ne (by decide), v_up_ne (by decide), v_up_ne (by decide)]; exact hP.1) (fun hkp => ?_) (fun hkp => ?_))
                · refine y_nv ?_
                  refine y_zne rfl rfl rfl (by decide) (fun g181 => ?_) (fun g181 => absurd g181 (by decide))
                  refine y_lv (l' := [(0, .ref 170), (1, iv v1), (2, iv form), (3, iv N), (4, iv v4)]) rfl ⟨rfl, rfl, rfl, rfl, rfl, trivial⟩ ?_
                  refine y_mono (kk (fun q => ?_) _ hR2 hfq) (by omega)
                  rcases q with q | q
                  · rcases q.2 with ⟨q1, q2, q3⟩ | ⟨q1, q2⟩
                    · rw [awS_x (by omega) (by omega)] at q3; exact absurd (h_bg.symm.trans q3) (by decide)
                    · omega
                  · exact q hkp
                · refine y_nv ?_
                  refine y_zne rfl rfl rfl (by decide) (fun g182 => absurd g182 (by decide)) (fun g182 => ?_)
                  refine y_ic rfl rfl ?_
                  refine y_rI rfl (by decide) ?_
                  exact kv (Or.inr hkp) _ hfq
          · refine y_ld (x := .ref 170) rfl rfl (fun d => rfl) ?_
            refine y_gR (i := 30) rfl rfl rfl (md170 hM) rfl ?_
            refine y_ld (x := .ref 170) rfl rfl (fun d => rfl) ?_
            refine y_gI (i := 17) (e := a) rfl rfl rfl (md170 hM) rfl hP.1 ?_
            cases h_br : aBr A a.toNat
            · refine y_bld (x := 0) (q := a.toNat) rfl rfl (md185 hM) (by omega) (by decide) (by omega) (by rw [v_up_ne (by decide)]; exact b3.trans (by rw [h_br]; rfl)) ?_
              refine y_zeq rfl rfl rfl (by decide) (fun g183 => ?_) (fun g183 => absurd g183 (by decide))
              refine y_ld (x := .ref 170) rfl rfl (fun d => rfl) ?_
              refine y_gI (i := 19) (e := κ) rfl rfl rfl (md170 hM) rfl hP.2.2.1 ?_
              refine y_zne rfl rfl rfl (by omega) (fun g184 => ?_) (fun g184 => ?_)
              · refine y_ld (x := .ref 170) rfl rfl (fun d => rfl) ?_
                refine y_gR (i := 29) rfl rfl rfl (md170 hM) rfl ?_
                refine y_ld (x := .ref 170) rfl rfl (fun d => rfl) ?_
                refine y_gI (i := 17) (e := a) rfl rfl rfl (md170 hM) rfl hP.1 ?_
                refine y_ld (x := .ref 170) rfl rfl (fun d => rfl) ?_
                refine y_gR (i := 29) rfl rfl rfl (md170 hM) rfl ?_
                refine y_ld (x := .ref 170) rfl rfl (fun d => rfl) ?_
                refine y_gI (i := 17) (e := a) rfl rfl rfl (md170 hM) rfl hP.1 ?_
                cases h_op : aOp A a.toNat
                · refine y_bld (x := 0) (q := a.toNat) rfl rfl (md184 hM) (by omega) (by decide) (by omega) (by rw [v_up_ne (by decide)]; exact b2.trans (by rw [h_op]; rfl)) ?_
                  refine y_zeq rfl rfl rfl (by decide) (fun g185 => ?_) (fun g185 => absurd g185 (by decide))
                  refine y_ic rfl rfl ?_
                  refine y_bst (q := a.toNat) rfl rfl (md184 hM) (by omega) (by decide) (by omega) (by decide) ?_
                  refine y_ld (x := .ref 170) rfl rfl (fun d => rfl) ?_
                  refine y_gR (i := 30) rfl rfl rfl (md170 hM) rfl ?_
                  refine y_ld (x := .ref 170) rfl rfl (fun d => rfl) ?_
                  refine y_gI (i := 17) (e := a) rfl rfl rfl (md170 hM) rfl hP.1 ?_
                  refine y_ld (x := .ref 170) rfl rfl (fun d => rfl) ?_
                  refine y_gR (i := 30) rfl rfl rfl (md170 hM) rfl ?_
                  refine y_ld (x := .ref 170) rfl rfl (fun d => rfl) ?_
                  refine y_gI (i := 17) (e := a) rfl rfl rfl (md170 hM) rfl hP.1 ?_
                  refine y_bld (x := 0) (q := a.toNat) rfl rfl (md185 hM) (by omega) (by decide) (by omega) (by rw [v_up_ne (by decide), v_up_ne (by decide)]; exact b3.trans (by rw [h_br]; rfl)) ?_
                  refine y_zne rfl rfl rfl (by decide) (fun g186 => absurd g186 (by decide)) (fun g186 => ?_)
                  refine y_ld (x := iv 1) rfl rfl (fun d => rfl) ?_
                  refine y_ic rfl rfl ?_
                  refine y_jne rfl rfl rfl (by decide) (fun g187 => ?_) (fun g187 => absurd g187 (by decide))
                  refine y_ic rfl rfl ?_
                  refine y_bst (q := a.toNat) rfl rfl (md185 hM) (by omega) (by decide) (by omega) (by decide) ?_
                  by_cases hk2 : κ = 2
                  · have eA : awS A a h κ n 1 = _ := awS_2 hk2
                    have hR2 : RWm (v_up (v_up (v_up V 188 a.toNat (aPa A a.toNat + 1)) 184 a.toNat 0) 185 a.toNat 0) (awS A a h κ n 1) := by
                      refine RWm_up (c := a.toNat) hR (fun t ht hc => ⟨(by rw [v_up_ne (by decide), v_up_ne (by decide), v_up_ne (by decide)]), (by rw [v_up_ne (by decide), v_up_ni hc, v_up_ne (by decide)]), (by rw [v_up_ni hc, v_up_ne (by decide), v_up_ne (by decide)]), (by rw [v_up_ne (by decide), v_up_ne (by decide), v_up_ne (by decide)]), (by rw [v_up_ne (by decide), v_up_ne (by decide), v_up_ne (by decide)]), (by rw [v_up_ne (by decide), v_up_ne (by decide), v_up_ni hc])⟩) (fun t hc => awS_fr hc) ?_
                      rw [eA]
                      exact ⟨(by rw [v_up_ne (by decide), v_up_ne (by decide), v_up_ne (by decide)]; exact b1), (by rw [v_up_ne (by decide), v_up_eq]; exact (congrArg b01 (uB_eq (aOp A) a.toNat false)).symm), (by rw [v_up_eq]; exact (congrArg b01 h_br).symm), (by rw [v_up_ne (by decide), v_up_ne (by decide), v_up_eq]; exact (v_uf_eq _ _ _).symm), (fun q => absurd ((uB_eq (aOp A) a.toNat false).symm.trans q) (by decide))⟩
                    have hA2 := awO_S (t := a) (h := h) (k := κ) (n := n) (how := 1) hA hpk
                    have hfq : FrQ V (v_up (v_up (v_up V 188 a.toNat (aPa A a.toNat + 1)) 184 a.toNat 0) 185 a.toNat 0) := fun k hk => by rw [v_up_ne (by omega), v_up_ne (by omega), v_up_ne (by omega)]
                    refine y_ld (x := .ref 170) rfl rfl (fun d => rfl) ?_
                    refine y_ld (x := iv form) rfl rfl (fun d => rfl) ?_
                    refine y_ld (x := iv N) rfl rfl (fun d => rfl) ?_
                    refine y_cV (as := [.ref 170, iv form, iv N]) rfl rfl rfl rfl rfl (md170 hM) ⟨rfl, (Nat.le_of_ble_eq_true rfl), (Nat.le_of_ble_eq_true rfl)⟩ (by decide) (ct_isKept hM hR2 hA2 (by omega) p1 hf hN (by rw [v_up_ne (by decide), v_up_ne (by decide), v_up_ne (by decide)]; exact hP.1) (fun hkp => ?_) (fun hkp => ?_))
                    · refine y_nv ?_
                      refine y_zne rfl rfl rfl (by decide) (fun g188 => ?_) (fun g188 => absurd g188 (by decide))
                      refine y_lv (l' := [(0, .ref 170), (1, iv v1), (2, iv form), (3, iv N), (4, iv v4)]) rfl ⟨rfl, rfl, rfl, rfl, rfl, trivial⟩ ?_
                      refine y_mono (kk (fun q => ?_) _ hR2 hfq) (by omega)
                      rcases q with q | q
                      · rcases q.2 with ⟨q1, q2, q3⟩ | ⟨q1, q2⟩
                        · rw [awS_x (by omega) (by omega)] at q3; exact absurd (h_bg.symm.trans q3) (by decide)
                        · rw [eA] at q2; exact absurd (h_br.symm.trans q2) (by decide)
                      · exact q hkp
                    · refine y_nv ?_
                      refine y_zne rfl rfl rfl (by decide) (fun g189 => absurd g189 (by decide)) (fun g189 => ?_)
                      refine y_ic rfl rfl ?_
                      refine y_rI rfl (by decide) ?_
                      exact kv (Or.inr hkp) _ hfq
                  · have eA : awS A a h κ n 1 = _ := awS_x (by omega) hk2
                    have hR2 : RWm (v_up (v_up (v_up V 188 a.toNat (aPa A a.toNat + 1)) 184 a.toNat 0) 185 a.toNat 0) (awS A a h κ n 1) := by
                      refine RWm_up (c := a.toNat) hR (fun t ht hc => ⟨(by rw [v_up_ne (by decide), v_up_ne (by decide), v_up_ne (by decide)]), (by rw [v_up_ne (by decide), v_up_ni hc, v_up_ne (by decide)]), (by rw [v_up_ni hc, v_up_ne (by decide), v_up_ne (by decide)]), (by rw [v_up_ne (by decide), v_up_ne (by decide), v_up_ne (by decide)]), (by rw [v_up_ne (by decide), v_up_ne (by decide), v_up_ne (by decide)]), (by rw [v_up_ne (by decide), v_up_ne (by decide), v_up_ni hc])⟩) (fun t hc => awS_fr hc) ?_
                      rw [eA]
                      exact ⟨(by rw [v_up_ne (by decide), v_up_ne (by decide), v_up_ne (by decide)]; exact b1), (by rw [v_up_ne (by decide), v_up_eq]; exact (congrArg b01 h_op).symm), (by rw [v_up_eq]; exact (congrArg b01 h_br).symm), (by rw [v_up_ne (by decide), v_up_ne (by decide), v_up_eq]; exact (v_uf_eq _ _ _).symm), (fun q => ⟨by rw [v_up_ne (by decide), v_up_ne (by decide), v_up_ne (by decide)]; exact (b5 q).1, by rw [v_up_ne (by decide), v_up_ne (by decide), v_up_ne (by decide)]; exact (b5 q).2⟩)⟩
                    have hA2 := awO_S (t := a) (h := h) (k := κ) (n := n) (how := 1) hA hpk
                    have hfq : FrQ V (v_up (v_up (v_up V 188 a.toNat (aPa A a.toNat + 1)) 184 a.toNat 0) 185 a.toNat 0) := fun k hk => by rw [v_up_ne (by omega), v_up_ne (by omega), v_up_ne (by omega)]
                    refine y_ld (x := .ref 170) rfl rfl (fun d => rfl) ?_
                    refine y_ld (x := iv form) rfl rfl (fun d => rfl) ?_
                    refine y_ld (x := iv N) rfl rfl (fun d => rfl) ?_
                    refine y_cV (as := [.ref 170, iv form, iv N]) rfl rfl rfl rfl rfl (md170 hM) ⟨rfl, (Nat.le_of_ble_eq_true rfl), (Nat.le_of_ble_eq_true rfl)⟩ (by decide) (ct_isKept hM hR2 hA2 (by omega) p1 hf hN (by rw [v_up_ne (by decide), v_up_ne (by decide), v_up_ne (by decide)]; exact hP.1) (fun hkp => ?_) (fun hkp => ?_))
                    · refine y_nv ?_
                      refine y_zne rfl rfl rfl (by decide) (fun g190 => ?_) (fun g190 => absurd g190 (by decide))
                      refine y_lv (l' := [(0, .ref 170), (1, iv v1), (2, iv form), (3, iv N), (4, iv v4)]) rfl ⟨rfl, rfl, rfl, rfl, rfl, trivial⟩ ?_
                      refine y_mono (kk (fun q => ?_) _ hR2 hfq) (by omega)
                      rcases q with q | q
                      · rcases q.2 with ⟨q1, q2, q3⟩ | ⟨q1, q2⟩
                        · rw [awS_x (by omega) (by omega)] at q3; exact absurd (h_bg.symm.trans q3) (by decide)
                        · rw [eA] at q2; exact absurd (h_br.symm.trans q2) (by decide)
                      · exact q hkp
                    · refine y_nv ?_
                      refine y_zne rfl rfl rfl (by decide) (fun g191 => absurd g191 (by decide)) (fun g191 => ?_)
                      refine y_ic rfl rfl ?_
                      refine y_rI rfl (by decide) ?_
                      exact kv (Or.inr hkp) _ hfq
                · refine y_bld (x := 1) (q := a.toNat) rfl rfl (md184 hM) (by omega) (by decide) (by omega) (by rw [v_up_ne (by decide)]; exact b2.trans (by rw [h_op]; rfl)) ?_
                  refine y_zeq rfl rfl rfl (by decide) (fun g192 => absurd g192 (by decide)) (fun g192 => ?_)
                  refine y_ld (x := .ref 170) rfl rfl (fun d => rfl) ?_
                  refine y_gI (i := 19) (e := κ) rfl rfl rfl (md170 hM) rfl hP.2.2.1 ?_
                  refine y_ic rfl rfl ?_
                  refine y_jeq rfl rfl rfl (by omega) (fun g193 => ?_) (fun g193 => ?_)
                  · refine y_ic rfl rfl ?_
                    refine y_bst (q := a.toNat) rfl rfl (md184 hM) (by omega) (by decide) (by omega) (by decide) ?_
                    refine y_ld (x := .ref 170) rfl rfl (fun d => rfl) ?_
                    refine y_gR (i := 30) rfl rfl rfl (md170 hM) rfl ?_
                    refine y_ld (x := .ref 170) rfl rfl (fun d => rfl) ?_
                    refine y_gI (i := 17) (e := a) rfl rfl rfl (md170 hM) rfl hP.1 ?_
                    refine y_ld (x := .ref 170) rfl rfl (fun d => rfl) ?_
                    refine y_gR (i := 30) rfl rfl rfl (md170 hM) rfl ?_
                    refine y_ld (x := .ref 170) rfl rfl (fun d => rfl) ?_
                    refine y_gI (i := 17) (e := a) rfl rfl rfl (md170 hM) rfl hP.1 ?_
                    refine y_bld (x := 0) (q := a.toNat) rfl rfl (md185 hM) (by omega) (by decide) (by omega) (by rw [v_up_ne (by decide), v_up_ne (by decide)]; exact b3.trans (by rw [h_br]; rfl)) ?_
                    refine y_zne rfl rfl rfl (by decide) (fun g194 => absurd g194 (by decide)) (fun g194 => ?_)
                    refine y_ld (x := iv 1) rfl rfl (fun d => rfl) ?_
                    refine y_ic rfl rfl ?_
                    refine y_jne rfl rfl rfl (by decide) (fun g195 => ?_) (fun g195 => absurd g195 (by decide))
                    refine y_ic rfl rfl ?_
                    refine y_bst (q := a.toNat) rfl rfl (md185 hM) (by omega) (by decide) (by omega) (by decide) ?_
                    have eA : awS A a h κ n 1 = _ := awS_2 (by omega)
                    have hR2 : RWm (v_up (v_up (v_up V 188 a.toNat (aPa A a.toNat + 1)) 184 a.toNat 0) 185 a.toNat 0) (awS A a h κ n 1) := by
                      refine RWm_up (c := a.toNat) hR (fun t ht hc => ⟨(by rw [v_up_ne (by decide), v_up_ne (by decide), v_up_ne (by decide)]), (by rw [v_up_ne (by decide), v_up_ni hc, v_up_ne (by decide)]), (by rw [v_up_ni hc, v_up_ne (by decide), v_up_ne (by decide)]), (by rw [v_up_ne (by decide), v_up_ne (by decide), v_up_ne (by decide)]), (by rw [v_up_ne (by decide), v_up_ne (by decide), v_up_ne (by decide)]), (by rw [v_up_ne (by decide), v_up_ne (by decide), v_up_ni hc])⟩) (fun t hc => awS_fr hc) ?_
                      rw [eA]
                      exact ⟨(by rw [v_up_ne (by decide), v_up_ne (by decide), v_up_ne (by decide)]; exact b1), (by rw [v_up_ne (by decide), v_up_eq]; exact (congrArg b01 (uB_eq (aOp A) a.toNat false)).symm), (by rw [v_up_eq]; exact (congrArg b01 h_br).symm), (by rw [v_up_ne (by decide), v_up_ne (by decide), v_up_eq]; exact (v_uf_eq _ _ _).symm), (fun q => absurd ((uB_eq (aOp A) a.toNat false).symm.trans q) (by decide))⟩
                    have hA2 := awO_S (t := a) (h := h) (k := κ) (n := n) (how := 1) hA hpk
                    have hfq : FrQ V (v_up (v_up (v_up V 188 a.toNat (aPa A a.toNat + 1)) 184 a.toNat 0) 185 a.toNat 0) := fun k hk => by rw [v_up_ne (by omega), v_up_ne (by omega), v_up_ne (by omega)]
                    refine y_ld (x := .ref 170) rfl rfl (fun d => rfl) ?_
                    refine y_ld (x := iv form) rfl rfl (fun d => rfl) ?_
                    refine y_ld (x := iv N) rfl rfl (fun d => rfl) ?_
                    refine y_cV (as := [.ref 170, iv form, iv N]) rfl rfl rfl rfl rfl (md170 hM) ⟨rfl, (Nat.le_of_ble_eq_true rfl), (Nat.le_of_ble_eq_true rfl)⟩ (by decide) (ct_isKept hM hR2 hA2 (by omega) p1 hf hN (by rw [v_up_ne (by decide), v_up_ne (by decide), v_up_ne (by decide)]; exact hP.1) (fun hkp => ?_) (fun hkp => ?_))
                    · refine y_nv ?_
                      refine y_zne rfl rfl rfl (by decide) (fun g196 => ?_) (fun g196 => absurd g196 (by decide))
                      refine y_lv (l' := [(0, .ref 170), (1, iv v1), (2, iv form), (3, iv N), (4, iv v4)]) rfl ⟨rfl, rfl, rfl, rfl, rfl, trivial⟩ ?_
                      refine y_mono (kk (fun q => ?_) _ hR2 hfq) (by omega)
                      rcases q with q | q
                      · rcases q.2 with ⟨q1, q2, q3⟩ | ⟨q1, q2⟩
                        · rw [awS_x (by omega) (by omega)] at q3; exact absurd (h_bg.symm.trans q3) (by decide)
                        · rw [eA] at q2; exact absurd (h_br.symm.trans q2) (by decide)
                      · exact q hkp
                    · refine y_nv ?_
                      refine y_zne rfl rfl rfl (by decide) (fun g197 => absurd g197 (by decide)) (fun g197 => ?_)
                      refine y_ic rfl rfl ?_
                      refine y_rI rfl (by decide) ?_
                      exact kv (Or.inr hkp) _ hfq
                  · refine y_ic rfl rfl ?_
                    refine y_go rfl rfl ?_
                    refine y_bst (q := a.toNat) rfl rfl (md184 hM) (by omega) (by decide) (by omega) (by decide) ?_
                    refine y_ld (x := .ref 170) rfl rfl (fun d => rfl) ?_
                    refine y_gR (i := 30) rfl rfl rfl (md170 hM) rfl ?_
                    refine y_ld (x := .ref 170) rfl rfl (fun d => rfl) ?_
                    refine y_gI (i := 17) (e := a) rfl rfl rfl (md170 hM) rfl hP.1 ?_
                    refine y_ld (x := .ref 170) rfl rfl (fun d => rfl) ?_
                    refine y_gR (i := 30) rfl rfl rfl (md170 hM) rfl ?_
                    refine y_ld (x := .ref 170) rfl rfl (fun d => rfl) ?_
                    refine y_gI (i := 17) (e := a) rfl rfl rfl (md170 hM) rfl hP.1 ?_
                    refine y_bld (x := 0) (q := a.toNat) rfl rfl (md185 hM) (by omega) (by decide) (by omega) (by rw [v_up_ne (by decide), v_up_ne (by decide)]; exact b3.trans (by rw [h_br]; rfl)) ?_
                    refine y_zne rfl rfl rfl (by decide) (fun g198 => absurd g198 (by decide)) (fun g198 => ?_)
                    refine y_ld (x := iv 1) rfl rfl (fun d => rfl) ?_
                    refine y_ic rfl rfl ?_
                    refine y_jne rfl rfl rfl (by decide) (fun g199 => ?_) (fun g199 => absurd g199 (by decide))
                    refine y_ic rfl rfl ?_
                    refine y_bst (q := a.toNat) rfl rfl (md185 hM) (by omega) (by decide) (by omega) (by decide) ?_
                    have eA : awS A a h κ n 1 = _ := awS_x (by omega) (by omega)
                    have hR2 : RWm (v_up (v_up (v_up V 188 a.toNat (aPa A a.toNat + 1)) 184 a.toNat 1) 185 a.toNat 0) (awS A a h κ n 1) := by
                      refine RWm_up (c := a.toNat) hR (fun t ht hc => ⟨(by rw [v_up_ne (by decide), v_up_ne (by decide), v_up_ne (by decide)]), (by rw [v_up_ne (by decide), v_up_ni hc, v_up_ne (by decide)]), (by rw [v_up_ni hc, v_up_ne (by decide), v_up_ne (by decide)]), (by rw [v_up_ne (by decide), v_up_ne (by decide), v_up_ne (by decide)]), (by rw [v_up_ne (by decide), v_up_ne (by decide), v_up_ne (by decide)]), (by rw [v_up_ne (by decide), v_up_ne (by decide), v_up_ni hc])⟩) (fun t hc => awS_fr hc) ?_
                      rw [eA]
                      exact ⟨(by rw [v_up_ne (by decide), v_up_ne (by decide), v_up_ne (by decide)]; exact b1), (by rw [v_up_ne (by decide), v_up_eq]; exact (congrArg b01 h_op).symm), (by rw [v_up_eq]; exact (congrArg b01 h_br).symm), (by rw [v_up_ne (by decide), v_up_ne (by decide), v_up_eq]; exact (v_uf_eq _ _ _).symm), (fun q => ⟨by rw [v_up_ne (by decide), v_up_ne (by decide), v_up_ne (by decide)]; exact (b5 q).1, by rw [v_up_ne (by decide), v_up_ne (by decide), v_up_ne (by decide)]; exact (b5 q).2⟩)⟩
                    have hA2 := awO_S (t := a) (h := h) (k := κ) (n := n) (how := 1) hA hpk
                    have hfq : FrQ V (v_up (v_up (v_up V 188 a.toNat (aPa A a.toNat + 1)) 184 a.toNat 1) 185 a.toNat 0) := fun k hk => by rw [v_up_ne (by omega), v_up_ne (by omega), v_up_ne (by omega)]
                    refine y_ld (x := .ref 170) rfl rfl (fun d => rfl) ?_
                    refine y_ld (x := iv form) rfl rfl (fun d => rfl) ?_
                    refine y_ld (x := iv N) rfl rfl (fun d => rfl) ?_
                    refine y_cV (as := [.ref 170, iv form, iv N]) rfl rfl rfl rfl rfl (md170 hM) ⟨rfl, (Nat.le_of_ble_eq_true rfl), (Nat.le_of_ble_eq_true rfl)⟩ (by decide) (ct_isKept hM hR2 hA2 (by omega) p1 hf hN (by rw [v_up_ne (by decide), v_up_ne (by decide), v_up_ne (by decide)]; exact hP.1) (fun hkp => ?_) (fun hkp => ?_))
                    · refine y_nv ?_
                      refine y_zne rfl rfl rfl (by decide) (fun g200 => ?_) (fun g200 => absurd g200 (by decide))
                      refine y_lv (l' := [(0, .ref 170), (1, iv v1), (2, iv form), (3, iv N), (4, iv v4)]) rfl ⟨rfl, rfl, rfl, rfl, rfl, trivial⟩ ?_
                      refine y_mono (kk (fun q => ?_) _ hR2 hfq) (by omega)
                      rcases q with q | q
                      · rcases q.2 with ⟨q1, q2, q3⟩ | ⟨q1, q2⟩
                        · rw [awS_x (by omega) (by omega)] at q3; exact absurd (h_bg.symm.trans q3) (by decide)
                        · rw [eA] at q2; exact absurd (h_br.symm.trans q2) (by decide)
                      · exact q hkp
                    · refine y_nv ?_
                      refine y_zne rfl rfl rfl (by decide) (fun g201 => absurd g201 (by decide)) (fun g201 => ?_)
                      refine y_ic rfl rfl ?_
                      refine y_rI rfl (by decide) ?_
                      exact kv (Or.inr hkp) _ hfq
              · refine y_ld (x := .ref 170) rfl rfl (fun d => rfl) ?_
                refine y_gR (i := 28) rfl rfl rfl (md170 hM) rfl ?_
                refine y_ld (x := .ref 170) rfl rfl (fun d => rfl) ?_
                refine y_gI (i := 17) (e := a) rfl rfl rfl (md170 hM) rfl hP.1 ?_
                refine y_ic rfl rfl ?_
                refine y_bst (q := a.toNat) rfl rfl (md183 hM) (by omega) (by decide) (by omega) (by decide) ?_
                refine y_ld (x := .ref 170) rfl rfl (fun d => rfl) ?_
                refine y_gR (i := 29) rfl rfl rfl (md170 hM) rfl ?_
                refine y_ld (x := .ref 170) rfl rfl (fun d => rfl) ?_
                refine y_gI (i := 17) (e := a) rfl rfl rfl (md170 hM) rfl hP.1 ?_
                refine y_ic rfl rfl ?_
                refine y_bst (q := a.toNat) rfl rfl (md184 hM) (by omega) (by decide) (by omega) (by decide) ?_
                refine y_ld (x := .ref 170) rfl rfl (fun d => rfl) ?_
                refine y_gR (i := 31) rfl rfl rfl (md170 hM) rfl ?_
                refine y_ld (x := .ref 170) rfl rfl (fun d => rfl) ?_
                refine y_gI (i := 17) (e := a) rfl rfl rfl (md170 hM) rfl hP.1 ?_
                refine y_ld (x := .ref 170) rfl rfl (fun d => rfl) ?_
                refine y_gI (i := 18) (e := h) rfl rfl rfl (md170 hM) rfl hP.2.1 ?_
                refine y_ist (q := a.toNat) rfl rfl (md186 hM) (by omega) (by decide) (by omega) ?_
                refine y_ld (x := .ref 170) rfl rfl (fun d => rfl) ?_
                refine y_gR (i := 32) rfl rfl rfl (md170 hM) rfl ?_
                refine y_ld (x := .ref 170) rfl rfl (fun d => rfl) ?_
                refine y_gI (i := 17) (e := a) rfl rfl rfl (md170 hM) rfl hP.1 ?_
                refine y_ld (x := .ref 170) rfl rfl (fun d => rfl) ?_
                refine y_gI (i := 20) (e := n) rfl rfl rfl (md170 hM) rfl hP.2.2.2 ?_
                refine y_ist (q := a.toNat) rfl rfl (md187 hM) (by omega) (by decide) (by omega) ?_
                refine y_ld (x := .ref 170) rfl rfl (fun d => rfl) ?_
                refine y_gR (i := 29) rfl rfl rfl (md170 hM) rfl ?_
                refine y_ld (x := .ref 170) rfl rfl (fun d => rfl) ?_
                refine y_gI (i := 17) (e := a) rfl rfl rfl (md170 hM) rfl hP.1 ?_
                refine y_ld (x := .ref 170) rfl rfl (fun d => rfl) ?_
                refine y_gR (i := 29) rfl rfl rfl (md170 hM) rfl ?_
                refine y_ld (x := .ref 170) rfl rfl (fun d => rfl) ?_
                refine y_gI (i := 17) (e := a) rfl rfl rfl (md170 hM) rfl hP.1 ?_
                refine y_bld (x := 1) (q := a.toNat) rfl rfl (md184 hM) (by omega) (by decide) (by omega) (by rw [v_up_ne (by decide), v_up_ne (by decide), v_up_eq]) ?_
                refine y_zeq rfl rfl rfl (by decide) (fun g202 => absurd g202 (by decide)) (fun g202 => ?_)
                refine y_ld (x := .ref 170) rfl rfl (fun d => rfl) ?_
                refine y_gI (i := 19) (e := κ) rfl rfl rfl (md170 hM) rfl hP.2.2.1 ?_
                refine y_ic rfl rfl ?_
                refine y_jeq rfl rfl rfl (by omega) (fun g203 => absurd g203 (by omega)) (fun g203 => ?_)
                refine y_ic rfl rfl ?_
                refine y_go rfl rfl ?_
                refine y_bst (q := a.toNat) rfl rfl (md184 hM) (by omega) (by decide) (by omega) (by decide) ?_
                refine y_ld (x := .ref 170) rfl rfl (fun d => rfl) ?_
                refine y_gR (i := 30) rfl rfl rfl (md170 hM) rfl ?_
                refine y_ld (x := .ref 170) rfl rfl (fun d => rfl) ?_
                refine y_gI (i := 17) (e := a) rfl rfl rfl (md170 hM) rfl hP.1 ?_
                refine y_ld (x := .ref 170) rfl rfl (fun d => rfl) ?_
                refine y_gR (i := 30) rfl rfl rfl (md170 hM) rfl ?_
                refine y_ld (x := .ref 170) rfl rfl (fun d => rfl) ?_
                refine y_gI (i := 17) (e := a) rfl rfl rfl (md170 hM) rfl hP.1 ?_
                refine y_bld (x := 0) (q := a.toNat) rfl rfl (md185 hM) (by omega) (by decide) (by omega) (by rw [v_up_ne (by decide), v_up_ne (by decide), v_up_ne (by decide), v_up_ne (by decide), v_up_ne (by decide), v_up_ne (by decide)]; exact b3.trans (by rw [h_br]; rfl)) ?_
                refine y_zne rfl rfl rfl (by decide) (fun g204 => absurd g204 (by decide)) (fun g204 => ?_)
                refine y_ld (x := iv 1) rfl rfl (fun d => rfl) ?_
                refine y_ic rfl rfl ?_
                refine y_jne rfl rfl rfl (by decide) (fun g205 => ?_) (fun g205 => absurd g205 (by decide))
                refine y_ic rfl rfl ?_
                refine y_bst (q := a.toNat) rfl rfl (md185 hM) (by omega) (by decide) (by omega) (by decide) ?_
                have eA : awS A a h κ n 1 = _ := awS_0 (by omega)
                have hR2 : RWm (v_up (v_up (v_up (v_up (v_up (v_up (v_up V 188 a.toNat (aPa A a.toNat + 1)) 183 a.toNat 1) 184 a.toNat 1) 186 a.toNat h) 187 a.toNat n) 184 a.toNat 1) 185 a.toNat 0) (awS A a h κ n 1) := by
                  refine RWm_up (c := a.toNat) hR (fun t ht hc => ⟨(by rw [v_up_ne (by decide), v_up_ne (by decide), v_up_ne (by decide), v_up_ne (by decide), v_up_ne (by decide), v_up_ni hc, v_up_ne (by decide)]), (by rw [v_up_ne (by decide), v_up_ni hc, v_up_ne (by decide), v_up_ne (by decide), v_up_ni hc, v_up_ne (by decide), v_up_ne (by decide)]), (by rw [v_up_ni hc, v_up_ne (by decide), v_up_ne (by decide), v_up_ne (by decide), v_up_ne (by decide), v_up_ne (by decide), v_up_ne (by decide)]), (by rw [v_up_ne (by decide), v_up_ne (by decide), v_up_ne (by decide), v_up_ni hc, v_up_ne (by decide), v_up_ne (by decide), v_up_ne (by decide)]), (by rw [v_up_ne (by decide), v_up_ne (by decide), v_up_ni hc, v_up_ne (by decide), v_up_ne (by decide), v_up_ne (by decide), v_up_ne (by decide)]), (by rw [v_up_ne (by decide), v_up_ne (by decide), v_up_ne (by decide), v_up_ne (by decide), v_up_ne (by decide), v_up_ne (by decide), v_up_ni hc])⟩) (fun t hc => awS_fr hc) ?_
                  rw [eA]
                  exact ⟨(by rw [v_up_ne (by decide), v_up_ne (by decide), v_up_ne (by decide), v_up_ne (by decide), v_up_ne (by decide), v_up_eq]; exact (congrArg b01 (uB_eq (aBg A) a.toNat true)).symm), (by rw [v_up_ne (by decide), v_up_eq]; exact (congrArg b01 (uB_eq (aOp A) a.toNat true)).symm), (by rw [v_up_eq]; exact (congrArg b01 h_br).symm), (by rw [v_up_ne (by decide), v_up_ne (by decide), v_up_ne (by decide), v_up_ne (by decide), v_up_ne (by decide), v_up_ne (by decide), v_up_eq]; exact (v_uf_eq _ _ _).symm), (fun _ => ⟨by rw [v_up_ne (by decide), v_up_ne (by decide), v_up_ne (by decide), v_up_eq]; exact (v_uf_eq _ _ _).symm, by rw [v_up_ne (by decide), v_up_ne (by decide), v_up_eq]; exact (v_uf_eq _ _ _).symm⟩)⟩
                have hA2 := awO_S (t := a) (h := h) (k := κ) (n := n) (how := 1) hA hpk
                have hfq : FrQ V (v_up (v_up (v_up (v_up (v_up (v_up (v_up V 188 a.toNat (aPa A a.toNat + 1)) 183 a.toNat 1) 184 a.toNat 1) 186 a.toNat h) 187 a.toNat n) 184 a.toNat 1) 185 a.toNat 0) := fun k hk => by rw [v_up_ne (by omega), v_up_ne (by omega), v_up_ne (by omega), v_up_ne (by omega), v_up_ne (by omega), v_up_ne (by omega), v_up_ne (by omega)]
                refine y_ld (x := .ref 170) rfl rfl (fun d => rfl) ?_
                refine y_ld (x := iv form) rfl rfl (fun d => rfl) ?_
                refine y_ld (x := iv N) rfl rfl (fun d => rfl) ?_
                refine y_cV (as := [.ref 170, iv form, iv N]) rfl rfl rfl rfl rfl (md170 hM) ⟨rfl, (Nat.le_of_ble_eq_true rfl), (Nat.le_of_ble_eq_true rfl)⟩ (by decide) (ct_isKept hM hR2 hA2 (by omega) p1 hf hN (by rw [v_up_ne (by decide), v_up_ne (by decide), v_up_ne (by decide), v_up_ne (by decide), v_up_ne (by decide), v_up_ne (by decide), v_up_ne (by decide)]; exact hP.1) (fun hkp => ?_) (fun hkp => ?_))
                · refine y_nv ?_
                  refine y_zne rfl rfl rfl (by decide) (fun g206 => ?_) (fun g206 => absurd g206 (by decide))
                  refine y_lv (l' := [(0, .ref 170), (1, iv v1), (2, iv form), (3, iv N), (4, iv v4)]) rfl ⟨rfl, rfl, rfl, rfl, rfl, trivial⟩ ?_
                  refine y_mono (kk (fun q => ?_) _ hR2 hfq) (by omega)
                  rcases q with q | q
                  · rcases q.2 with ⟨q1, q2, q3⟩ | ⟨q1, q2⟩
                    · rw [awS_x (by omega) (by omega)] at q3; exact absurd (h_bg.symm.trans q3) (by decide)
                    · rw [eA] at q2; exact absurd (h_br.symm.trans q2) (by decide)
                  · exact q hkp
                · refine y_nv ?_
                  refine y_zne rfl rfl rfl (by decide) (fun g207 => absurd g207 (by decide)) (fun g207 => ?_)
                  refine y_ic rfl rfl ?_
                  refine y_rI rfl (by decide) ?_
                  exact kv (Or.inr hkp) _ hfq
            · refine y_bld (x := 1) (q := a.toNat) rfl rfl (md185 hM) (by omega) (by decide) (by omega) (by rw [v_up_ne (by decide)]; exact b3.trans (by rw [h_br]; rfl)) ?_
              refine y_zeq rfl rfl rfl (by decide) (fun g208 => absurd g208 (by decide)) (fun g208 => ?_)
              refine y_ic rfl rfl ?_
              refine y_rI rfl (by decide) ?_
              have hfq : FrQ V (v_up V 188 a.toNat (aPa A a.toNat + 1)) := fun k hk => by rw [v_up_ne (by omega)]
              have e3 : aBr (awS A a h κ n 1) a.toNat = aBr A a.toNat := by
                by_cases h0 : κ = 0
                · rw [awS_0 h0]; rfl
                · by_cases h2 : κ = 2
                  · rw [awS_2 h2]; rfl
                  · rw [awS_x h0 h2]; rfl
              exact kv (Or.inl ⟨rfl, Or.inr ⟨by omega, e3.trans h_br⟩⟩) _ hfq
  · refine y_ld (x := iv 2) rfl rfl (fun d => rfl) ?_
    refine y_ic rfl rfl ?_
    refine y_jne rfl rfl rfl (by decide) (fun g209 => ?_) (fun g209 => absurd g209 (by decide))
    refine y_ld (x := .ref 170) rfl rfl (fun d => rfl) ?_
    refine y_gR (i := 30) rfl rfl rfl (md170 hM) rfl ?_
    refine y_ld (x := .ref 170) rfl rfl (fun d => rfl) ?_
    refine y_gI (i := 17) (e := a) rfl rfl rfl (md170 hM) rfl hP.1 ?_
    refine y_ld (x := .ref 170) rfl rfl (fun d => rfl) ?_
    refine y_gR (i := 30) rfl rfl rfl (md170 hM) rfl ?_
    refine y_ld (x := .ref 170) rfl rfl (fun d => rfl) ?_
    refine y_gI (i := 17) (e := a) rfl rfl rfl (md170 hM) rfl hP.1 ?_
    cases h_br : aBr A a.toNat
    · refine y_bld (x := 0) (q := a.toNat) rfl rfl (md185 hM) (by omega) (by decide) (by omega) (by exact b3.trans (by rw [h_br]; rfl)) ?_
      refine y_zne rfl rfl rfl (by decide) (fun g210 => absurd g210 (by decide)) (fun g210 => ?_)
      refine y_ld (x := iv 2) rfl rfl (fun d => rfl) ?_
      refine y_ic rfl rfl ?_
      refine y_jne rfl rfl rfl (by decide) (fun g211 => absurd g211 (by decide)) (fun g211 => ?_)
      refine y_ic rfl rfl ?_
      refine y_go rfl rfl ?_
      refine y_bst (q := a.toNat) rfl rfl (md185 hM) (by omega) (by decide) (by omega) (by decide) ?_
      have eA : awS A a h κ n 2 = _ := if_pos rfl
      have hR2 : RWm (v_up V 185 a.toNat 1) (awS A a h κ n 2) := by
        refine RWm_up (c := a.toNat) hR (fun t ht hc => ⟨(by rw [v_up_ne (by decide)]), (by rw [v_up_ne (by decide)]), (by rw [v_up_ni hc]), (by rw [v_up_ne (by decide)]), (by rw [v_up_ne (by decide)]), (by rw [v_up_ne (by decide)])⟩) (fun t hc => awS_fr hc) ?_
        rw [eA]
        exact ⟨(by rw [v_up_ne (by decide)]; exact b1), (by rw [v_up_ne (by decide)]; exact b2), (by rw [v_up_eq]; exact (congrArg b01 (uB_eq (aBr A) a.toNat true)).symm), (by rw [v_up_ne (by decide)]; exact b4), (fun q => ⟨by rw [v_up_ne (by decide)]; exact (b5 q).1, by rw [v_up_ne (by decide)]; exact (b5 q).2⟩)⟩
      have hA2 := awO_S (t := a) (h := h) (k := κ) (n := n) (how := 2) hA hpk
      have hfq : FrQ V (v_up V 185 a.toNat 1) := fun k hk => by rw [v_up_ne (by omega)]
      refine y_ld (x := .ref 170) rfl rfl (fun d => rfl) ?_
      refine y_ld (x := iv form) rfl rfl (fun d => rfl) ?_
      refine y_ld (x := iv N) rfl rfl (fun d => rfl) ?_
      refine y_cV (as := [.ref 170, iv form, iv N]) rfl rfl rfl rfl rfl (md170 hM) ⟨rfl, (Nat.le_of_ble_eq_true rfl), (Nat.le_of_ble_eq_true rfl)⟩ (by decide) (ct_isKept hM hR2 hA2 (by omega) p1 hf hN (by rw [v_up_ne (by decide)]; exact hP.1) (fun hkp => ?_) (fun hkp => ?_))
      · refine y_nv ?_
        refine y_zne rfl rfl rfl (by decide) (fun g212 => ?_) (fun g212 => absurd g212 (by decide))
        refine y_lv (l' := [(0, .ref 170), (1, iv v1), (2, iv form), (3, iv N), (4, iv v4)]) rfl ⟨rfl, rfl, rfl, rfl, rfl, trivial⟩ ?_
        refine y_mono (kk (fun q => ?_) _ hR2 hfq) (by omega)
        rcases q with q | q
        · exact absurd q.1 (by decide)
        · exact q hkp
      · refine y_nv ?_
        refine y_zne rfl rfl rfl (by decide) (fun g213 => absurd g213 (by decide)) (fun g213 => ?_)
        refine y_ic rfl rfl ?_
        refine y_rI rfl (by decide) ?_
        exact kv (Or.inr hkp) _ hfq
    · refine y_bld (x := 1) (q := a.toNat) rfl rfl (md185 hM) (by omega) (by decide) (by omega) (by exact b3.trans (by rw [h_br]; rfl)) ?_
      refine y_zne rfl rfl rfl (by decide) (fun g214 => ?_) (fun g214 => absurd g214 (by decide))
      refine y_ic rfl rfl ?_
      refine y_go rfl rfl ?_
      refine y_bst (q := a.toNat) rfl rfl (md185 hM) (by omega) (by decide) (by omega) (by decide) ?_
      have eA : awS A a h κ n 2 = _ := if_pos rfl
      have hR2 : RWm (v_up V 185 a.toNat 1) (awS A a h κ n 2) := by
        refine RWm_up (c := a.toNat) hR (fun t ht hc => ⟨(by rw [v_up_ne (by decide)]), (by rw [v_up_ne (by decide)]), (by rw [v_up_ni hc]), (by rw [v_up_ne (by decide)]), (by rw [v_up_ne (by decide)]), (by rw [v_up_ne (by decide)])⟩) (fun t hc => awS_fr hc) ?_
        rw [eA]
        exact ⟨(by rw [v_up_ne (by decide)]; exact b1), (by rw [v_up_ne (by decide)]; exact b2), (by rw [v_up_eq]; exact (congrArg b01 (uB_eq (aBr A) a.toNat true)).symm), (by rw [v_up_ne (by decide)]; exact b4), (fun q => ⟨by rw [v_up_ne (by decide)]; exact (b5 q).1, by rw [v_up_ne (by decide)]; exact (b5 q).2⟩)⟩
      have hA2 := awO_S (t := a) (h := h) (k := κ) (n := n) (how := 2) hA hpk
      have hfq : FrQ V (v_up V 185 a.toNat 1) := fun k hk => by rw [v_up_ne (by omega)]
      refine y_ld (x := .ref 170) rfl rfl (fun d => rfl) ?_
      refine y_ld (x := iv form) rfl rfl (fun d => rfl) ?_
      refine y_ld (x := iv N) rfl rfl (fun d => rfl) ?_
      refine y_cV (as := [.ref 170, iv form, iv N]) rfl rfl rfl rfl rfl (md170 hM) ⟨rfl, (Nat.le_of_ble_eq_true rfl), (Nat.le_of_ble_eq_true rfl)⟩ (by decide) (ct_isKept hM hR2 hA2 (by omega) p1 hf hN (by rw [v_up_ne (by decide)]; exact hP.1) (fun hkp => ?_) (fun hkp => ?_))
      · refine y_nv ?_
        refine y_zne rfl rfl rfl (by decide) (fun g215 => ?_) (fun g215 => absurd g215 (by decide))
        refine y_lv (l' := [(0, .ref 170), (1, iv v1), (2, iv form), (3, iv N), (4, iv v4)]) rfl ⟨rfl, rfl, rfl, rfl, rfl, trivial⟩ ?_
        refine y_mono (kk (fun q => ?_) _ hR2 hfq) (by omega)
        rcases q with q | q
        · exact absurd q.1 (by decide)
        · exact q hkp
      · refine y_nv ?_
        refine y_zne rfl rfl rfl (by decide) (fun g216 => absurd g216 (by decide)) (fun g216 => ?_)
        refine y_ic rfl rfl ?_
        refine y_rI rfl (by decide) ?_
        exact kv (Or.inr hkp) _ hfq
end
