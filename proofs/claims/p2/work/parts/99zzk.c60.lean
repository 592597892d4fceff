/-! pairs of calls: letter, send -/
theorem RS_wait {S : m_H} {V : v_V} {σ : Nat → Int} {tl : Nat → List p_Li} {cnt n : Nat} {t h y o : Int} {vs : List Value} (hR : RS S V 1 σ tl) (hs : SO cnt σ) (hvs : ce S 6 24 vs) (hn : σ 3 = (n : Int)) (hnN : n < 20) (hl : 193 ≤ S.length ∧ S.length + 7 < 1000000) (hp : pkO t h y o) : RS ((S ++ [(2, m_dfl 2)]).set 6 (24, vs.set n (.ref S.length))) (v_up (pkV V S.length t h y o) 1 9 ((n : Int) + 1)) 1 (pkR σ 1690 3 n t h y o) tl := by
  have hvs1 : ce (S ++ [(2, m_dfl 2)]) 6 24 vs := ce_app hvs
  have hS : SQ 6 S ((S ++ [(2, m_dfl 2)]).set 6 (24, vs.set n (.ref S.length))) := SQ_tr (SQ_app 6 S _) (SQ_set hvs1 (by decide))
  have f : ∀ k, k ≠ 1 → k < S.length → v_up (pkV V S.length t h y o) 1 9 ((n : Int) + 1) k = V k := fun k a b => by rw [v_up_ne a, pkV_fr (by omega)]
  have f1 : ∀ i, i ≠ 9 → v_up (pkV V S.length t h y o) 1 9 ((n : Int) + 1) 1 i = V 1 i := fun i hi => by rw [v_up_ni hi, pkV_fr (by omega)]
  have hpk : PkS ((S ++ [(2, m_dfl 2)]).set 6 (24, vs.set n (.ref S.length))) (v_up (pkV V S.length t h y o) 1 9 ((n : Int) + 1)) S.length t h y o := by
    have h0 := pkV_pk (S := S) (V := V) (t := t) (h := h) (y := y) (o := o) (by omega)
    have h1 := PkS_r (V' := v_up (pkV V S.length t h y o) 1 9 ((n : Int) + 1)) h0 (v_up_ne (by omega))
    exact ⟨ce_ne h1.1 (by omega), h1.2⟩
  have h4 := pkR_4 (σ := σ) (q := 1690) (si := 3) (n := n) (t := t) (h := h) (y := y) (o := o) (by decide)
  have hsi := pkR_si (σ := σ) (q := 1690) (si := 3) (n := n) (t := t) (h := h) (y := y) (o := o)
  have hne : ∀ j, j ≠ 3 → (j < 1690 + 4 * n ∨ 1690 + 4 * n + 4 ≤ j) → pkR σ 1690 3 n t h y o j = σ j := fun j a b => pkR_ne a b
  obtain ⟨hN, hT, hW, hA⟩ := hR
  obtain ⟨⟨a1, a2, a3, a4, a5, a6, a7⟩, b1, b2, b3⟩ := hN
  have hN2 : RN (v_up (pkV V S.length t h y o) 1 9 ((n : Int) + 1)) 1 (v_uf σ 3 ((n : Int) + 1)) := by
    refine RN_g ⟨⟨a1, a2, a3, a4, a5, a6, a7⟩, b1, b2, b3⟩ ⟨(f1 1 (by decide)).trans (a1.trans (v_uf_ne (by decide)).symm), (f1 3 (by decide)).trans (a2.trans (v_uf_ne (by decide)).symm), (f1 5 (by decide)).trans (a3.trans (v_uf_ne (by decide)).symm), (f1 7 (by decide)).trans (a4.trans (v_uf_ne (by decide)).symm), by rw [v_up_eq, v_uf_eq], (f1 10 (by decide)).trans (a6.trans (v_uf_ne (by decide)).symm), (f1 12 (by decide)).trans (a7.trans (v_uf_ne (by decide)).symm)⟩ (fun i hi => by rw [f 2 (by decide) (by omega), v_uf_ne (by omega)]; exact b1 i hi) (fun i hi => by rw [f 5 (by decide) (by omega), v_uf_ne (by omega)]; exact b2 i hi) (fun k x y => f k (by omega) (by omega)) (fun j x y => v_uf_ne (by omega)) (v_uf_ne (by decide))
  have hN3 := RN_cg (σ' := pkR σ 1690 3 n t h y o) hN2 (fun j hj => by
    by_cases e : j = 3
    · rw [e, hsi, v_uf_eq]
    · rw [hne j e (by omega), v_uf_ne e])
  refine ⟨hN3, RT_fr hT hS (by decide) (fun i t2 _ ht hx hct => CT_r hct (fun i2 hi2 => f _ (by omega) (by have h6 := ce_lt hx.2.2.2.2.2.2; omega))) (by rw [hne 0 (by decide) (by omega)]; exact Int.le_refl _), ?_, ?_⟩
  · obtain ⟨wa, w1, w2⟩ := hW
    have same : wa = vs := by
      have e := w1.2.symm.trans hvs.2
      simp only [Option.some.injEq, Prod.mk.injEq] at e
      exact e.2
    subst same
    rw [hn] at w2
    refine ⟨_, ce_eq hvs1, ?_⟩
    rw [hsi]
    exact PkA_add w2 hnN hS (by decide) (fun k a b => f k (by omega) b) hpk hl.1 (fun j a b => hne j (by omega) (by omega)) h4.1 h4.2.1 h4.2.2.1 h4.2.2.2
  · exact RA_fr hA hS (by decide) (fun k _ _ _ _ hk hp => f k (by omega) (ce_lt hp.1)) (by rw [hne 5 (by decide) (by omega)]; exact Int.le_refl _) (fun j hj i hi => hne _ (by omega) (by omega))
theorem RS_lett {S : m_H} {V : v_V} {σ : Nat → Int} {tl : Nat → List p_Li} {cnt n : Nat} {t h y o : Int} {vs : List Value} (hR : RS S V 1 σ tl) (hs : SO cnt σ) (hvs : ce S 7 24 vs) (hn : σ 5 = (n : Int)) (hnN : n < 5) (hl : 193 ≤ S.length ∧ S.length + 7 < 1000000) (hp : pkO t h y o) : RS ((S ++ [(2, m_dfl 2)]).set 7 (24, vs.set n (.ref S.length))) (v_up (pkV V S.length t h y o) 1 12 ((n : Int) + 1)) 1 (pkR σ 1770 5 n t h y o) tl := by
  have hvs1 : ce (S ++ [(2, m_dfl 2)]) 7 24 vs := ce_app hvs
  have hS : SQ 7 S ((S ++ [(2, m_dfl 2)]).set 7 (24, vs.set n (.ref S.length))) := SQ_tr (SQ_app 7 S _) (SQ_set hvs1 (by decide))
  have f : ∀ k, k ≠ 1 → k < S.length → v_up (pkV V S.length t h y o) 1 12 ((n : Int) + 1) k = V k := fun k a b => by rw [v_up_ne a, pkV_fr (by omega)]
  have f1 : ∀ i, i ≠ 12 → v_up (pkV V S.length t h y o) 1 12 ((n : Int) + 1) 1 i = V 1 i := fun i hi => by rw [v_up_ni hi, pkV_fr (by omega)]
  have hpk : PkS ((S ++ [(2, m_dfl 2)]).set 7 (24, vs.set n (.ref S.length))) (v_up (pkV V S.length t h y o) 1 12 ((n : Int) + 1)) S.length t h y o := by
    have h0 := pkV_pk (S := S) (V := V) (t := t) (h := h) (y := y) (o := o) (by omega)
    have h1 := PkS_r (V' := v_up (pkV V S.length t h y o) 1 12 ((n : Int) + 1)) h0 (v_up_ne (by omega))
    exact ⟨ce_ne h1.1 (by omega), h1.2⟩
  have h4 := pkR_4 (σ := σ) (q := 1770) (si := 5) (n := n) (t := t) (h := h) (y := y) (o := o) (by decide)
  have hsi := pkR_si (σ := σ) (q := 1770) (si := 5) (n := n) (t := t) (h := h) (y := y) (o := o)
  have hne : ∀ j, j ≠ 5 → (j < 1770 + 4 * n ∨ 1770 + 4 * n + 4 ≤ j) → pkR σ 1770 5 n t h y o j = σ j := fun j a b => pkR_ne a b
  obtain ⟨hN, hT, hW, hA⟩ := hR
  obtain ⟨⟨a1, a2, a3, a4, a5, a6, a7⟩, b1, b2, b3⟩ := hN
  have hN2 : RN (v_up (pkV V S.length t h y o) 1 12 ((n : Int) + 1)) 1 (v_uf σ 5 ((n : Int) + 1)) := by
    refine RN_g ⟨⟨a1, a2, a3, a4, a5, a6, a7⟩, b1, b2, b3⟩ ⟨(f1 1 (by decide)).trans (a1.trans (v_uf_ne (by decide)).symm), (f1 3 (by decide)).trans (a2.trans (v_uf_ne (by decide)).symm), (f1 5 (by decide)).trans (a3.trans (v_uf_ne (by decide)).symm), (f1 7 (by decide)).trans (a4.trans (v_uf_ne (by decide)).symm), (f1 9 (by decide)).trans (a5.trans (v_uf_ne (by decide)).symm), (f1 10 (by decide)).trans (a6.trans (v_uf_ne (by decide)).symm), by rw [v_up_eq, v_uf_eq]⟩ (fun i hi => by rw [f 2 (by decide) (by omega), v_uf_ne (by omega)]; exact b1 i hi) (fun i hi => by rw [f 5 (by decide) (by omega), v_uf_ne (by omega)]; exact b2 i hi) (fun k x y => f k (by omega) (by omega)) (fun j x y => v_uf_ne (by omega)) (v_uf_ne (by decide))
  have hN3 := RN_cg (σ' := pkR σ 1770 5 n t h y o) hN2 (fun j hj => by
    by_cases e : j = 5
    · rw [e, hsi, v_uf_eq]
    · rw [hne j e (by omega), v_uf_ne e])
  refine ⟨hN3, RT_fr hT hS (by decide) (fun i t2 _ ht hx hct => CT_r hct (fun i2 hi2 => f _ (by omega) (by have h6 := ce_lt hx.2.2.2.2.2.2; omega))) (by rw [hne 0 (by decide) (by omega)]; exact Int.le_refl _), ?_, ?_⟩
  · exact RW_fr hW hS (by decide) (fun k _ _ _ _ hk hp => f k (by omega) (ce_lt hp.1)) (by rw [hne 3 (by decide) (by omega)]; exact Int.le_refl _) (fun j hj i hi => hne _ (by omega) (by have := hs.1.2.2.2.1.2; omega))
  · obtain ⟨wa, w1, w2⟩ := hA
    have same : wa = vs := by
      have e := w1.2.symm.trans hvs.2
      simp only [Option.some.injEq, Prod.mk.injEq] at e
      exact e.2
    subst same
    rw [hn] at w2
    refine ⟨_, ce_eq hvs1, ?_⟩
    rw [hsi]
    exact PkA_add w2 hnN hS (by decide) (fun k a b => f k (by omega) b) hpk hl.1 (fun j a b => hne j (by omega) (by omega)) h4.1 h4.2.1 h4.2.2.1 h4.2.2.2
/-- class, then reference: a packet more -/
theorem RR_pk {cnt u w : Nat} {S : m_H} {V V2 : v_V} {tl : Nat → List p_Li} {q si fi c n : Nat} {t h y o : Int} {vs : List Value} (hC : RC S V (V 171) (V 172) tl) (hM : RM S V (V 171) (V 172) tl (V 0 2)) (hP : RP cnt (V 171) (V 172) tl) (hZ : RZ cnt u w S) (hc : c = 6 ∨ c = 7) (hq : (q = 1690 ∧ si = 3 ∧ n < 20 ∧ V 171 3 = (n : Int)) ∨ (q = 1770 ∧ si = 5 ∧ n < 5 ∧ V 171 5 = (n : Int))) (hvs : ce S c 24 vs) (hp : pkO t h y o) (hl : S.length < 1000000)
    (hR : RS ((S ++ [(2, m_dfl 2)]).set c (24, vs.set n (.ref S.length))) (v_up (pkV V S.length t h y o) 1 fi ((n : Int) + 1)) 1 (pkR (V 171) q si n t h y o) tl) (g1 : V2 171 = pkR (V 171) q si n t h y o) (g2 : ∀ k, k ≠ 171 → V2 k = v_up (pkV V S.length t h y o) 1 fi ((n : Int) + 1) k) : RR (cnt + 1) (u + 1) (w + 4) ((S ++ [(2, m_dfl 2)]).set c (24, vs.set n (.ref S.length))) V2 := by
  have f : ∀ k, k ≠ 1 → k < S.length → v_up (pkV V S.length t h y o) 1 fi ((n : Int) + 1) k = V k := fun k a b => by rw [v_up_ne a, pkV_fr (by omega)]
  have hpk1 : ce (S ++ [(2, m_dfl 2)]) S.length 2 [.int 0, .int 0, .int 0, .int 0] := (pkV_pk (V := V) (t := t) (h := h) (y := y) (o := o) hl).1
  have hS : SQ c S ((S ++ [(2, m_dfl 2)]).set c (24, vs.set n (.ref S.length))) := SQ_tr (SQ_app c S _) (SQ_set (ce_app hvs) (by decide))
  have hV : SV c S ((S ++ [(2, m_dfl 2)]).set c (24, vs.set n (.ref S.length))) := SV_tr (SV_app c S _) (SV_set c _ _)
  have h0 : pkR (V 171) q si n t h y o 0 = V 171 0 := pkR_ne (by omega) (by omega)
  have hZ1 := hZ.1
  have hC1 := RC_x hC hZ.1 hS hV hc hR h0 (fun k hk => f k (by omega) (by omega))
  have hM1 := RM_fr hM (MdS_v hM.1 hV (by omega)) (fun k a b => f k (by omega) (by omega))
  have hM2 := RM_x hM1 g1 h0 (fun k a b => g2 k (by omega)) ⟨by rw [g2 170 (by decide)], by rw [g2 170 (by decide)]⟩
  exact RR_mk hC1 hM2 (fun k hk => g2 k (by omega)) (congrFun (f 0 (by decide) (by omega)) 2) (RP_x hP (SO_le (SO_pk hP.1 hq hp) (Nat.le_succ cnt)) h0) (RZ_x hZ (by rw [List.length_set, List.length_append]; show S.length ≤ S.length + 1 ∧ S.length + 1 ≤ S.length + 12; omega) (by decide) (by decide))
section
variable {X : Nat → List Int32} {u w cnt : Nat} {S : m_H} {V : v_V}
set_option maxRecDepth 100000 in
set_option maxHeartbeats 4000000 in
theorem pr_letter (hR : RR cnt u w S V) (hcn : cnt < 70) {t : Int} (ht1 : (-2147483648 ≤ t ∧ t < 2147483648)) {h : Int} (hh1 : (-2147483648 ≤ h ∧ h < 2147483648)) {y : Int} (hy1 : (-2147483648 ≤ y ∧ y < 2147483648)) {o : Int} (ho1 : (-2147483648 ≤ o ∧ o < 2147483648)) : PR X True 87 153 [.ref 0, iv t, iv h, iv y, iv o] [.ref 170, iv t, iv h, iv y, iv o] cnt u w S V := by
  have hR2 := RR_le hR (Nat.le_succ cnt)
  obtain ⟨tl, hC, hM, hP, hZ⟩ := hR
  have hC0 := hC
  have hM0 := hM
  have hP0 := hP
  obtain ⟨c1, c2, c3, c4, c5, c6, c7, c8⟩ := hC
  obtain ⟨m1, -, -, m4, m5, m6⟩ := hM
  obtain ⟨p1, p2, p3, p4⟩ := hP
  obtain ⟨n1, n2, n3, n4⟩ := c2.1
  have hsz := p1.1
  have hsl : S.length ≤ 193 + 12 * cnt ∧ 193 ≤ S.length := ⟨hZ.2.1, hZ.1⟩
  obtain ⟨la, l1, l2, l3, -⟩ := c2.2.2.2
  obtain ⟨n, hn⟩ : ∃ n : Nat, V 171 5 = (n : Int) := ⟨(V 171 5).toNat, by omega⟩
  have hn5 : n ≤ 5 := by omega
  have hv12 : V 1 12 = (n : Int) := n1.2.2.2.2.2.2.trans hn
  have hrf : z_rf t h y o = if (0 ≤ t ∧ t ≤ 15) ∧ (0 ≤ h ∧ h ≤ 3) ∧ (0 ≤ y ∧ y ≤ 3) then (if 0 ≤ o ∧ o ≤ 99 then 0 else -2) else -1 := by
    unfold z_rf
    by_cases hA : (0 ≤ t ∧ t ≤ 15) ∧ (0 ≤ h ∧ h ≤ 3) ∧ (0 ≤ y ∧ y ≤ 3)
    · rw [if_pos hA, if_pos (show (0 ≤ t ∧ t < 16) ∧ (0 ≤ h ∧ h < 4) ∧ (0 ≤ y ∧ y < 4) by omega)]
    · rw [if_neg hA, if_neg (show ¬ ((0 ≤ t ∧ t < 16) ∧ (0 ≤ h ∧ h < 4) ∧ (0 ≤ y ∧ y < 4)) by omega)]
  intro K hK
  refine y_Rm (D' := 3) (cs_letter c1 (by omega) l1 l2 ⟨hv12, hn5⟩ ht1 hh1 hy1 ho1 (fun g1 g2 => ?_) (fun g1 g2 => ?_) (fun g1 => ?_)) (by decide)
  · have hp := rf_pkO g1
    have hp2 := hp
    obtain ⟨p8, p9, q8, q9⟩ := hp2
    have hV : SV 7 S ((S ++ [(2, m_dfl 2)]).set 7 (24, la.set n (.ref S.length))) := SV_tr (SV_app 7 S _) (SV_set 7 _ _)
    have f171 : (v_up (pkV V S.length t h y o) 1 12 ((n : Int) + 1)) 171 = V 171 := by rw [v_up_ne (by decide), pkV_fr (by omega)]
    have m1b := MdS_v m1 hV (by decide)
    refine hK _ _ _ _ _ m1b (fun K2 h2 => y_Rm (D' := 4) (ms_letter (V := v_up (pkV V S.length t h y o) 1 12 ((n : Int) + 1)) m1b (by rw [f171]; exact ⟨hn, hn5⟩) ht1 hh1 hy1 ho1 ?_ ?_ ?_ ?_) (by decide))
    · intro j1 j2 j3
      exact h2 _ _ _ _ _ (RR_pk (q := 1770) (si := 5) hC0 hM0 hP0 hZ (Or.inr rfl) (Or.inr ⟨rfl, rfl, by omega, hn⟩) l1 hp (by omega) (RS_lett c2 p1 l1 hn (by omega) (by omega) hp) (by unfold pkR; rw [v_upR, v_upR, v_upR, v_upR, v_upR, f171]) (fun k hk => by rw [v_up_ne hk, v_up_ne hk, v_up_ne hk, v_up_ne hk, v_up_ne hk])) (fun _ => rfl)
    all_goals intros; exfalso; omega
  · have hp := rf_pkO g1
    obtain ⟨p8, p9, q8, q9⟩ := hp
    refine hK _ _ _ _ _ m1 (fun K2 h2 => y_Rm (D' := 4) (ms_letter m1 ⟨hn, hn5⟩ ht1 hh1 hy1 ho1 ?_ ?_ ?_ ?_) (by decide))
    all_goals intros
    all_goals first | (exfalso; omega) | exact h2 _ _ _ _ _ hR2 (fun _ => rfl)
  · refine hK _ _ _ _ _ m1 (fun K2 h2 => y_Rm (D' := 4) (ms_letter m1 ⟨hn, hn5⟩ ht1 hh1 hy1 ho1 ?_ ?_ ?_ ?_) (by decide))
    · intro j1 j2 j3
      rw [if_pos j1, if_pos j2] at hrf
      exact absurd hrf g1
    · intro j1 j2 j3
      rw [if_pos j1, if_pos j2] at hrf
      exact absurd hrf g1
    · intro j1 j2
      rw [if_pos j1, if_neg j2] at hrf
      exact h2 _ _ _ _ _ hR2 (fun _ => hrf.symm)
    · intro j1
      rw [if_neg j1] at hrf
      exact h2 _ _ _ _ _ hR2 (fun _ => hrf.symm)
set_option maxRecDepth 100000 in
set_option maxHeartbeats 4000000 in
theorem pr_send (hR : RR cnt u w S V) (hcn : cnt < 70) {t : Int} (ht1 : (-2147483648 ≤ t ∧ t < 2147483648)) {h : Int} (hh1 : (-2147483648 ≤ h ∧ h < 2147483648)) {y : Int} (hy1 : (-2147483648 ≤ y ∧ y < 2147483648)) {o : Int} (ho1 : (-2147483648 ≤ o ∧ o < 2147483648)) : PR X True 79 144 [.ref 0, iv t, iv h, iv y, iv o] [.ref 170, iv t, iv h, iv y, iv o] cnt u w S V := by
  have hR2 := RR_le hR (Nat.le_succ cnt)
  obtain ⟨tl, hC, hM, hP, hZ⟩ := hR
  have hC0 := hC
  have hM0 := hM
  have hP0 := hP
  obtain ⟨c1, c2, c3, c4, c5, c6, c7, c8⟩ := hC
  obtain ⟨m1, -, -, m4, m5, m6⟩ := hM
  obtain ⟨p1, p2, p3, p4⟩ := hP
  obtain ⟨n1, n2, n3, n4⟩ := c2.1
  have hsz := p1.1
  have hsl : S.length ≤ 193 + 12 * cnt ∧ 193 ≤ S.length := ⟨hZ.2.1, hZ.1⟩
  obtain ⟨wa, w1, w2, w3, -⟩ := c2.2.2.1
  obtain ⟨n, hn⟩ : ∃ n : Nat, V 171 3 = (n : Int) := ⟨(V 171 3).toNat, by omega⟩
  have hv9 : V 1 9 = (n : Int) := n1.2.2.2.2.1.trans hn
  have e7 : V 1 7 = V 171 2 := n1.2.2.2.1
  have e10 : V 1 10 = V 171 4 := n1.2.2.2.2.2.1
  intro K hK
  refine y_Rm (D' := 8) (cs_send c1 (by omega) c2 p1 p4 ht1 hh1 hy1 ho1 hv9 w1 w2 (fun g1 => ?_) (fun g1 g2 => ?_) (fun g1 g2 g3 g4 => ?_) (fun g1 g2 g3 g4 => ?_) (fun g1 g2 g3 V1 hRS1 hF1 => ?_)) (by decide)
  · try rw [e10] at g3
    try rw [e7] at g2
    all_goals refine hK _ _ _ _ _ m1 (fun K2 h2 => y_Rm (D' := 9) (ms_send m1 p1 p4 m4 ht1 hh1 hy1 ho1 hn ?_ ?_ ?_ ?_ ?_) (by decide))
    all_goals intros
    all_goals first | contradiction | (exfalso; omega) | exact h2 _ _ _ _ _ hR2 (fun _ => by rfl)
  · try rw [e10] at g3
    try rw [e7] at g2
    all_goals refine hK _ _ _ _ _ m1 (fun K2 h2 => y_Rm (D' := 9) (ms_send m1 p1 p4 m4 ht1 hh1 hy1 ho1 hn ?_ ?_ ?_ ?_ ?_) (by decide))
    all_goals intros
    all_goals first | contradiction | (exfalso; omega) | exact h2 _ _ _ _ _ hR2 (fun _ => by rfl)
  · try rw [e10] at g3
    try rw [e7] at g2
    all_goals refine hK _ _ _ _ _ m1 (fun K2 h2 => y_Rm (D' := 9) (ms_send m1 p1 p4 m4 ht1 hh1 hy1 ho1 hn ?_ ?_ ?_ ?_ ?_) (by decide))
    all_goals intros
    all_goals first | contradiction | (exfalso; omega) | exact h2 _ _ _ _ _ hR2 (fun _ => by rfl)
  · rw [e10] at g3
    rw [e7] at g2
    have hp := rf_pkO g1
    have hV : SV 6 S ((S ++ [(2, m_dfl 2)]).set 6 (24, wa.set n (.ref S.length))) := SV_tr (SV_app 6 S _) (SV_set 6 _ _)
    have f171 : (v_up (pkV V S.length t h y o) 1 9 ((n : Int) + 1)) 171 = V 171 := by rw [v_up_ne (by decide), pkV_fr (by omega)]
    have fM : ∀ k, 170 ≤ k → k ≤ 192 → (v_up (pkV V S.length t h y o) 1 9 ((n : Int) + 1)) k = V k := fun k a b => by rw [v_up_ne (by omega), pkV_fr (by omega)]
    have m1b := MdS_v m1 hV (by decide)
    refine hK _ _ _ _ _ m1b (fun K2 h2 => y_Rm (D' := 9) (ms_send (V := v_up (pkV V S.length t h y o) 1 9 ((n : Int) + 1)) m1b (by rw [f171]; exact p1) (by rw [f171]; exact p4) (by rw [f171]; exact fun i hi => MT_x (m4 i hi) (fun k a b => fM k (by omega) (by omega))) ht1 hh1 hy1 ho1 (by rw [f171]; exact hn) ?_ ?_ ?_ ?_ ?_) (by decide))
    all_goals try rw [f171]
    · intros; contradiction
    · intros; contradiction
    · intros; exfalso; omega
    · intros
      exact h2 _ _ _ _ _ (RR_pk (q := 1690) (si := 3) hC0 hM0 hP0 hZ (Or.inl rfl) (Or.inl ⟨rfl, rfl, by omega, hn⟩) w1 hp (by omega) (RS_wait c2 p1 w1 hn (by omega) (by omega) hp) (by unfold pkR; rw [v_upR, v_upR, v_upR, v_upR, v_upR, f171]) (fun k hk => by rw [v_up_ne hk, v_up_ne hk, v_up_ne hk, v_up_ne hk, v_up_ne hk])) (fun _ => rfl)
    · intros; exfalso; omega
  · rw [e10] at g3
    rw [e7] at g2
    have hp := rf_pkO g1
    have hV1 : SV 6 S (S ++ [(2, m_dfl 2)]) := SV_app _ _ _
    have m1b := MdS_v m1 hV1 (by decide)
    have e171 : V1 171 = V 171 := hF1 171 (by omega) (fun b hb => by omega)
    have hs1 := sgS_SO (cnt := cnt) (tl := tl) (h := h) (k := y) (n := o) hp.1 (V 171 2).toNat 0 (V 171) p1 p4 (by omega)
    have hz0 := hs1.2.1 0 (by omega)
    have hC1 := RC_x hC0 hZ.1 (SQ_app 6 S _) hV1 (Or.inl rfl) hRS1 hz0 (fun k hk => hF1 k (by omega) (fun b hb => by omega))
    have hM1 := RM_fr hM0 m1b (fun k a b => hF1 k (by omega) (fun b hb => by omega))
    refine hK _ _ _ _ V1 m1b (fun K2 h2 => y_Rm (D' := 9) (ms_send m1b (by rw [e171]; exact p1) (by rw [e171]; exact p4) (by rw [e171]; exact hM1.2.2.2.1) ht1 hh1 hy1 ho1 (by rw [e171]; exact hn) ?_ ?_ ?_ ?_ ?_) (by decide))
    all_goals try rw [e171]
    · intros; contradiction
    · intros; contradiction
    · intros; exfalso; omega
    · intros; exfalso; omega
    · intro j1 j2 j3 V2 a1 a2
      have hM2 := RM_x hM1 a1 hz0 (fun k a b => a2.1 k (by omega) (by omega) (by omega)) ⟨a2.2 40 (by omega), a2.2 3 (by omega)⟩
      exact h2 _ _ _ _ _ (RR_mk hC1 hM2 (fun k hk => a2.1 k (by omega) (by omega) (by omega)) (congrFun (hF1 0 (by omega) (fun b hb => by omega)) 2) (RP_x hP0 (SO_le hs1.1 (Nat.le_succ cnt)) hz0) (RZ_x hZ (by rw [List.length_append]; show S.length ≤ S.length + 1 ∧ S.length + 1 ≤ S.length + 12; omega) (by decide) (by decide))) (fun _ => rfl)
end
