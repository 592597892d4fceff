/-! rows of packets, gone through: the class -/
section
variable {X : Nat → List Int32} {u w : Nat} {S : m_H} {V : v_V} {K : v_K}
set_option maxRecDepth 100000 in
set_option maxHeartbeats 4000000 in
theorem lp_finds (hC : ClF S) {form N : Int} {al mt : Nat} {ts : Nat → List p_Li} {σ : Nat → Int} {L : Nat} (hm4 : mt ≤ 4) (hal : al ≤ 5) (hL3 : L ≤ 3) (hTO : ∀ i, i < mt → TO (ts i)) (hlt : ∀ q : Nat, q < al → pkO (σ (1770 + 4 * q)) (σ (1770 + 4 * q + 1)) (σ (1770 + 4 * q + 2)) (σ (1770 + 4 * q + 3))) (hfm : form = -1 ∨ (0 ≤ form ∧ form ≤ 4)) (hN : 0 ≤ N ∧ N ≤ 99) {r j pv : Nat} (hjr : j + (r + 1) = L) (hrec : 1 ≤ r → qF X S form N al mt ts σ L r (j + 1)) (kT : ∀ v V2, pv * al ^ (r + 1) ≤ v → v < (pv + 1) * al ^ (r + 1) → hitV form N σ ts mt al L v → (∀ v', pv * al ^ (r + 1) ≤ v' → v' < v → ¬ hitV form N σ ts mt al L v') → (∀ k, j ≤ k → k < L → V2 121 k = ((v / al ^ (L - 1 - k) % al : Nat) : Int)) → (∀ k, k < j → V2 121 k = V 121 k) → FrS j V V2 → K u w (some (iv 1)) S V2) (kF : (∀ v, pv * al ^ (r + 1) ≤ v → v < (pv + 1) * al ^ (r + 1) → ¬ hitV form N σ ts mt al L v) → ∀ V2, (∀ k, k < j → V2 121 k = V 121 k) → FrS j V V2 → K u w (some (iv 0)) S V2) {F : Nat} : ∀ (m : Nat) (q : Nat) (W : v_V), al - q < m → (q ≤ al) → (SrC S W form N al mt ts σ) → (SgC W j form mt (wdS form σ ts mt al j pv).1 (wdS form σ ts mt al j pv).2) → (∀ k, k < j → W 121 k = V 121 k) → (FrS j V W) → (∀ v, pv * al ^ (r + 1) ≤ v → v < (pv * al + q) * al ^ r → ¬ hitV form N σ ts mt al L v) → y_E X (10 + r) 35 (120 * m + F) u w 18 [(0, .ref 116), (1, iv (j : Int)), (2, iv (L : Int)), (3, iv (q : Int))] [] S W K := by
  intro m
  induction m with
  | zero => intros; omega
  | succ m ih =>
    intro q W hm hI hSr hSg hrw hfr hJ 
    refine y_mono (F' := (120 * m + F) + 120) ?_ (by omega)
    refine y_ld (x := iv (q : Int)) rfl rfl (fun d => rfl) ?_
    refine y_ld (x := .ref 116) rfl rfl (fun d => rfl) ?_
    refine y_gI (i := 6) (e := (al : Int)) rfl rfl rfl hSr.1 rfl hSr.2.1.2.1 ?_
    refine y_jge rfl rfl rfl (by omega) (fun g1 => ?_) (fun g1 => ?_)
    · refine y_ic rfl rfl ?_
      refine y_rI rfl (by decide) ?_
      have hqa : q = al := by have := hSr.2.1.2.1; omega
      exact kF (fun v h1 h2 => hJ v h1 (by rw [hqa, ← wd_hi]; exact h2)) W hrw hfr
    · have hqa : q < al := by have := hSr.2.1.2.1; omega
      obtain ⟨la, y1, y2, y3⟩ := hSr.2.2.2
      obtain ⟨pk, c1, c2, c3⟩ := y3 q hqa
      have hpk := hlt q hqa
      have hwo := wdS_ok (form := form) (ts := ts) (m := mt) hlt (show 0 < al by omega) j pv
      have eL := hitV_s (form := form) (N := N) (σ := σ) (ts := ts) (m := mt) (j := j) (pv := pv) hqa
      have eW := wdS_s (form := form) (σ := σ) (ts := ts) (m := mt) (j := j) (pv := pv) hqa
      have m0 := wd_lo pv al r
      have m9 := wd_hi pv al r
      have m1 := wd_m1 pv al r q
      have m2 := wd_m2 pv al r q
      have m3 := wd_m3 pv r hqa
      have m4 : (pv * al + (q + 1)) * al ^ r = (pv * al + q + 1) * al ^ r := rfl
      refine y_ld (x := .ref 116) rfl rfl (fun d => rfl) ?_
      refine y_gR (i := 5) rfl rfl rfl hSr.1 rfl ?_
      refine y_ld (x := iv (q : Int)) rfl rfl (fun d => rfl) ?_
      refine y_rld (i := q) (x := pk) rfl rfl y1 (by decide) (by omega) (by omega) c1 ?_
      refine y_st (lv' := [(4, .ref pk), (0, .ref 116), (1, iv (j : Int)), (2, iv (L : Int)), (3, iv (q : Int))]) rfl rfl (fun d => rfl) ?_
      refine y_ld (x := .ref pk) rfl rfl (fun d => rfl) ?_
      refine y_in (pc' := 42) rfl rfl (fun d => rfl) ?_
      refine y_ld (x := .ref 116) rfl rfl (fun d => rfl) ?_
      refine y_gR (i := 9) rfl rfl rfl hSr.1 rfl ?_
      refine y_ld (x := iv (j : Int)) rfl rfl (fun d => rfl) ?_
      refine y_ld (x := iv (q : Int)) rfl rfl (fun d => rfl) ?_
      refine y_ist (q := j) rfl rfl (cl_ia hC (k := 121) (N := 3) rfl) (by omega) (by decide) (by omega) ?_
      refine y_ld (x := .ref 116) rfl rfl (fun d => rfl) ?_
      refine y_gI (i := 7) (e := form) rfl rfl rfl hSr.1 rfl ((congrFun (v_up_ne (by decide)) 7).trans hSr.2.1.2.2.1) ?_
      refine y_ic rfl rfl ?_
      refine y_jne rfl rfl rfl (by omega) (fun g2 => ?_) (fun g2 => ?_)
      · refine y_ld (x := .ref 116) rfl rfl (fun d => rfl) ?_
        refine y_ld (x := iv (j : Int)) rfl rfl (fun d => rfl) ?_
        refine y_ld (x := .ref pk) rfl rfl (fun d => rfl) ?_
        have hSr1 : SrC S (v_up W 121 j (q : Int)) form N al mt ts σ := SrC_r hSr (v_up_ne (by decide)) (fun k hk => v_up_ne (by omega))
        have hSg1 : SgC (v_up W 121 j (q : Int)) j form mt (wdS form σ ts mt al j pv).1 (wdS form σ ts mt al j pv).2 := SgC_r hSg hm4 (by omega) (fun k h1 _ => v_up_ne h1)
        have hc3 : PkS S (v_up W 121 j (q : Int)) pk (σ (1770 + 4 * q)) (σ (1770 + 4 * q + 1)) (σ (1770 + 4 * q + 2)) (σ (1770 + 4 * q + 3)) := PkS_r c3 (v_up_ne (by omega))
        refine y_cV (as := [.ref 116, iv (j : Int), .ref pk]) rfl rfl rfl rfl rfl hSr.1 ⟨rfl, (Nat.le_of_ble_eq_true rfl), (Nat.le_of_ble_eq_true rfl)⟩ (by omega) (cc_breaks hC hm4 (by omega) hpk c2 hwo.1 hTO hSr1 hc3 hSg1 hwo.2 (by omega) hN (fun hh V2 g2 f2 f3 => ?_) (fun hh V2 g2 f2 f3 => ?_))
        · rw [← eL] at hh
          have hSr2 := SrC_r hSr1 (f2 116 (by decide) (by omega)) (fun k hk => f2 k (by omega) (by omega))
          have hfw : FrS j W V2 := FrS_tr (fun k h1 _ => v_up_ne h1) f2
          have hrow : ∀ k, k ≠ j → V2 121 k = W 121 k := fun k hk => by rw [f3]; exact v_up_ni hk
          have hrj : V2 121 j = (q : Int) := by rw [f3]; exact v_up_eq _ _ _ _
          have hg2 : SgC V2 (j + 1) form mt (wdS form σ ts mt al (j + 1) (pv * al + q)).1 (wdS form σ ts mt al (j + 1) (pv * al + q)).2 := by rw [eW]; exact g2
          have hSgV : SgC V2 j form mt (wdS form σ ts mt al j pv).1 (wdS form σ ts mt al j pv).2 := SgC_r hSg hm4 (by omega) hfw
          refine y_nv ?_
          refine y_st (lv' := [(5, iv 1), (4, .ref pk), (0, .ref 116), (1, iv (j : Int)), (2, iv (L : Int)), (3, iv (q : Int))]) rfl rfl (fun d => rfl) ?_
          refine y_ld (x := iv (j : Int)) rfl rfl (fun d => rfl) ?_
          refine y_ic rfl rfl ?_
          refine y_add (z := ((j + 1 : Nat) : Int)) rfl rfl (by omega) ?_
          refine y_ld (x := iv (L : Int)) rfl rfl (fun d => rfl) ?_
          refine y_jne rfl rfl rfl (by omega) (fun g3 => ?_) (fun g3 => ?_)
          · refine y_ld (x := .ref 116) rfl rfl (fun d => rfl) ?_
            refine y_ld (x := iv (j : Int)) rfl rfl (fun d => rfl) ?_
            refine y_ic rfl rfl ?_
            refine y_add (z := ((j + 1 : Nat) : Int)) rfl rfl (by omega) ?_
            refine y_ld (x := iv (L : Int)) rfl rfl (fun d => rfl) ?_
            have hr1 : 1 ≤ r := by omega
            refine y_cS (as := [.ref 116, iv ((j + 1 : Nat) : Int), iv (L : Int)]) rfl (by decide) rfl rfl rfl rfl ⟨(Nat.le_of_ble_eq_true rfl), (Nat.le_of_ble_eq_true rfl)⟩ (by omega) (hrec hr1 (pv * al + q) _ _ _ _ hSr2 hg2 (fun v V3 w1 w2 w3 w4 w5 w6 w7 => ?_) (fun w4 V3 w6 w7 => ?_))
            · refine y_nv ?_
              refine y_zeq rfl rfl rfl (by decide) (fun g4 => absurd g4 (by decide)) (fun g4 => ?_)
              refine y_ic rfl rfl ?_
              refine y_rI rfl (by decide) ?_
              refine kT v V3 (by omega) (by omega) w3 (fun v2 h1 h2 => ?_) (fun k h1 h2 => ?_) (fun k hk => (w6 k (by omega)).trans ((hrow k (by omega)).trans (hrw k hk))) (FrS_tr hfr (FrS_tr hfw (FrS_le w7 (by omega))))
              · by_cases h3 : v2 < (pv * al + q) * al ^ r
                · exact hJ v2 h1 h3
                · exact w4 v2 (by omega) h2
              · rcases (show k = j ∨ j + 1 ≤ k by omega) with h3 | h3
                · rw [h3, w6 j (by omega), hrj, show L - 1 - j = r by omega, wd_quo w1 w2, (wd_div hqa).2]
                · exact w5 k h3 h2
            · refine y_nv ?_
              refine y_zeq rfl rfl rfl (by decide) (fun g5 => ?_) (fun g5 => absurd g5 (by decide))
              refine y_inc (z := ((q + 1 : Nat) : Int)) (lv' := [(3, iv ((q + 1 : Nat) : Int)), (5, iv 1), (4, .ref pk), (0, .ref 116), (1, iv (j : Int)), (2, iv (L : Int))]) rfl rfl rfl (by omega) rfl ?_
              refine y_go rfl rfl ?_
              refine y_lv (l' := [(0, .ref 116), (1, iv (j : Int)), (2, iv (L : Int)), (3, iv ((q + 1 : Nat) : Int))]) rfl ⟨rfl, rfl, rfl, rfl, trivial⟩ ?_
              refine y_mono (ih (q + 1) V3 (by omega) (by omega) (SrC_r hSr2 (w7 116 (by decide) (by omega)) (fun k hk => w7 k (by omega) (by omega))) (SgC_r hSgV hm4 (by omega) (FrS_le w7 (by omega))) (fun k hk => (w6 k (by omega)).trans ((hrow k (by omega)).trans (hrw k hk))) (FrS_tr hfr (FrS_tr hfw (FrS_le w7 (by omega)))) (fun v h1 h2 => ?_)) (by omega)
              by_cases h3 : v < (pv * al + q) * al ^ r
              · exact hJ v h1 h3
              · exact w4 v (by omega) (by omega)
          · refine y_ld (x := iv 1) rfl rfl (fun d => rfl) ?_
            refine y_zeq rfl rfl rfl (by decide) (fun g6 => absurd g6 (by decide)) (fun g6 => ?_)
            refine y_go rfl rfl ?_
            refine y_ic rfl rfl ?_
            refine y_rI rfl (by decide) ?_
            have hr0 : r = 0 := by omega
            subst hr0
            rw [show j + 1 = L by omega] at hh
            refine kT (pv * al + q) V2 (by rw [Nat.pow_zero, Nat.mul_one] at m0; omega) (by rw [Nat.pow_zero, Nat.mul_one] at m9; omega) hh (fun v2 h1 h2 => hJ v2 h1 (by rw [Nat.pow_zero, Nat.mul_one]; exact h2)) (fun k h1 h2 => ?_) (fun k hk => (hrow k (by omega)).trans (hrw k hk)) (FrS_tr hfr hfw)
            rw [show k = j by omega, hrj, show L - 1 - j = 0 by omega, Nat.pow_zero, Nat.div_one, (wd_div hqa).2]
        · rw [← eL] at hh
          have hSr2 := SrC_r hSr1 (f2 116 (by decide) (by omega)) (fun k hk => f2 k (by omega) (by omega))
          have hfw : FrS j W V2 := FrS_tr (fun k h1 _ => v_up_ne h1) f2
          have hrow : ∀ k, k ≠ j → V2 121 k = W 121 k := fun k hk => by rw [f3]; exact v_up_ni hk
          have hrj : V2 121 j = (q : Int) := by rw [f3]; exact v_up_eq _ _ _ _
          have hg2 : SgC V2 (j + 1) form mt (wdS form σ ts mt al (j + 1) (pv * al + q)).1 (wdS form σ ts mt al (j + 1) (pv * al + q)).2 := by rw [eW]; exact g2
          have hSgV : SgC V2 j form mt (wdS form σ ts mt al j pv).1 (wdS form σ ts mt al j pv).2 := SgC_r hSg hm4 (by omega) hfw
          refine y_nv ?_
          refine y_st (lv' := [(5, iv 0), (4, .ref pk), (0, .ref 116), (1, iv (j : Int)), (2, iv (L : Int)), (3, iv (q : Int))]) rfl rfl (fun d => rfl) ?_
          refine y_ld (x := iv (j : Int)) rfl rfl (fun d => rfl) ?_
          refine y_ic rfl rfl ?_
          refine y_add (z := ((j + 1 : Nat) : Int)) rfl rfl (by omega) ?_
          refine y_ld (x := iv (L : Int)) rfl rfl (fun d => rfl) ?_
          refine y_jne rfl rfl rfl (by omega) (fun g7 => ?_) (fun g7 => ?_)
          · refine y_ld (x := .ref 116) rfl rfl (fun d => rfl) ?_
            refine y_ld (x := iv (j : Int)) rfl rfl (fun d => rfl) ?_
            refine y_ic rfl rfl ?_
            refine y_add (z := ((j + 1 : Nat) : Int)) rfl rfl (by omega) ?_
            refine y_ld (x := iv (L : Int)) rfl rfl (fun d => rfl) ?_
            have hr1 : 1 ≤ r := by omega
            refine y_cS (as := [.ref 116, iv ((j + 1 : Nat) : Int), iv (L : Int)]) rfl (by decide) rfl rfl rfl rfl ⟨(Nat.le_of_ble_eq_true rfl), (Nat.le_of_ble_eq_true rfl)⟩ (by omega) (hrec hr1 (pv * al + q) _ _ _ _ hSr2 hg2 (fun v V3 w1 w2 w3 w4 w5 w6 w7 => ?_) (fun w4 V3 w6 w7 => ?_))
            · refine y_nv ?_
              refine y_zeq rfl rfl rfl (by decide) (fun g8 => absurd g8 (by decide)) (fun g8 => ?_)
              refine y_ic rfl rfl ?_
              refine y_rI rfl (by decide) ?_
              refine kT v V3 (by omega) (by omega) w3 (fun v2 h1 h2 => ?_) (fun k h1 h2 => ?_) (fun k hk => (w6 k (by omega)).trans ((hrow k (by omega)).trans (hrw k hk))) (FrS_tr hfr (FrS_tr hfw (FrS_le w7 (by omega))))
              · by_cases h3 : v2 < (pv * al + q) * al ^ r
                · exact hJ v2 h1 h3
                · exact w4 v2 (by omega) h2
              · rcases (show k = j ∨ j + 1 ≤ k by omega) with h3 | h3
                · rw [h3, w6 j (by omega), hrj, show L - 1 - j = r by omega, wd_quo w1 w2, (wd_div hqa).2]
                · exact w5 k h3 h2
            · refine y_nv ?_
              refine y_zeq rfl rfl rfl (by decide) (fun g9 => ?_) (fun g9 => absurd g9 (by decide))
              refine y_inc (z := ((q + 1 : Nat) : Int)) (lv' := [(3, iv ((q + 1 : Nat) : Int)), (5, iv 0), (4, .ref pk), (0, .ref 116), (1, iv (j : Int)), (2, iv (L : Int))]) rfl rfl rfl (by omega) rfl ?_
              refine y_go rfl rfl ?_
              refine y_lv (l' := [(0, .ref 116), (1, iv (j : Int)), (2, iv (L : Int)), (3, iv ((q + 1 : Nat) : Int))]) rfl ⟨rfl, rfl, rfl, rfl, trivial⟩ ?_
              refine y_mono (ih (q + 1) V3 (by omega) (by omega) (SrC_r hSr2 (w7 116 (by decide) (by omega)) (fun k hk => w7 k (by omega) (by omega))) (SgC_r hSgV hm4 (by omega) (FrS_le w7 (by omega))) (fun k hk => (w6 k (by omega)).trans ((hrow k (by omega)).trans (hrw k hk))) (FrS_tr hfr (FrS_tr hfw (FrS_le w7 (by omega)))) (fun v h1 h2 => ?_)) (by omega)
              by_cases h3 : v < (pv * al + q) * al ^ r
              · exact hJ v h1 h3
              · exact w4 v (by omega) (by omega)
          · refine y_ld (x := iv 0) rfl rfl (fun d => rfl) ?_
            refine y_zeq rfl rfl rfl (by decide) (fun g10 => ?_) (fun g10 => absurd g10 (by decide))
            refine y_inc (z := ((q + 1 : Nat) : Int)) (lv' := [(3, iv ((q + 1 : Nat) : Int)), (5, iv 0), (4, .ref pk), (0, .ref 116), (1, iv (j : Int)), (2, iv (L : Int))]) rfl rfl rfl (by omega) rfl ?_
            refine y_go rfl rfl ?_
            refine y_lv (l' := [(0, .ref 116), (1, iv (j : Int)), (2, iv (L : Int)), (3, iv ((q + 1 : Nat) : Int))]) rfl ⟨rfl, rfl, rfl, rfl, trivial⟩ ?_
            have hr0 : r = 0 := by omega
            subst hr0
            rw [show j + 1 = L by omega] at hh
            refine y_mono (ih (q + 1) V2 (by omega) (by omega) hSr2 hSgV (fun k hk => (hrow k (by omega)).trans (hrw k hk)) (FrS_tr hfr hfw) (fun v h1 h2 => ?_)) (by omega)
            rw [Nat.pow_zero, Nat.mul_one] at h2
            by_cases h3 : v < pv * al + q
            · exact hJ v h1 (by rw [Nat.pow_zero, Nat.mul_one]; exact h3)
            · rw [show v = pv * al + q by omega]; exact hh
      · refine y_ld (x := .ref 116) rfl rfl (fun d => rfl) ?_
        refine y_ld (x := iv (j : Int)) rfl rfl (fun d => rfl) ?_
        refine y_ld (x := .ref pk) rfl rfl (fun d => rfl) ?_
        have hSr1 : SrC S (v_up W 121 j (q : Int)) form N al mt ts σ := SrC_r hSr (v_up_ne (by decide)) (fun k hk => v_up_ne (by omega))
        have hSg1 : SgC (v_up W 121 j (q : Int)) j form mt (wdS form σ ts mt al j pv).1 (wdS form σ ts mt al j pv).2 := SgC_r hSg hm4 (by omega) (fun k h1 _ => v_up_ne h1)
        have hc3 : PkS S (v_up W 121 j (q : Int)) pk (σ (1770 + 4 * q)) (σ (1770 + 4 * q + 1)) (σ (1770 + 4 * q + 2)) (σ (1770 + 4 * q + 3)) := PkS_r c3 (v_up_ne (by omega))
        refine y_cV (as := [.ref 116, iv (j : Int), .ref pk]) rfl rfl rfl rfl rfl hSr.1 ⟨rfl, (Nat.le_of_ble_eq_true rfl), (Nat.le_of_ble_eq_true rfl)⟩ (by omega) (cc_parts hC hm4 (by omega) hpk c2 hwo.1 hTO hSr1 hc3 hSg1 (by omega) (fun hh V2 g2 f2 f3 => ?_) (fun hh V2 g2 f2 f3 => ?_))
        · rw [← eL] at hh
          have hSr2 := SrC_r hSr1 (f2 116 (by decide) (by omega)) (fun k hk => f2 k (by omega) (by omega))
          have hfw : FrS j W V2 := FrS_tr (fun k h1 _ => v_up_ne h1) f2
          have hrow : ∀ k, k ≠ j → V2 121 k = W 121 k := fun k hk => by rw [f3]; exact v_up_ni hk
          have hrj : V2 121 j = (q : Int) := by rw [f3]; exact v_up_eq _ _ _ _
          have hg2 : SgC V2 (j + 1) form mt (wdS form σ ts mt al (j + 1) (pv * al + q)).1 (wdS form σ ts mt al (j + 1) (pv * al + q)).2 := by rw [eW]; exact g2
          have hSgV : SgC V2 j form mt (wdS form σ ts mt al j pv).1 (wdS form σ ts mt al j pv).2 := SgC_r hSg hm4 (by omega) hfw
          refine y_nv ?_
          refine y_go rfl rfl ?_
          refine y_st (lv' := [(5, iv 1), (4, .ref pk), (0, .ref 116), (1, iv (j : Int)), (2, iv (L : Int)), (3, iv (q : Int))]) rfl rfl (fun d => rfl) ?_
          refine y_ld (x := iv (j : Int)) rfl rfl (fun d => rfl) ?_
          refine y_ic rfl rfl ?_
          refine y_add (z := ((j + 1 : Nat) : Int)) rfl rfl (by omega) ?_
          refine y_ld (x := iv (L : Int)) rfl rfl (fun d => rfl) ?_
          refine y_jne rfl rfl rfl (by omega) (fun g11 => ?_) (fun g11 => ?_)
          · refine y_ld (x := .ref 116) rfl rfl (fun d => rfl) ?_
            refine y_ld (x := iv (j : Int)) rfl rfl (fun d => rfl) ?_
            refine y_ic rfl rfl ?_
            refine y_add (z := ((j + 1 : Nat) : Int)) rfl rfl (by omega) ?_
            refine y_ld (x := iv (L : Int)) rfl rfl (fun d => rfl) ?_
            have hr1 : 1 ≤ r := by omega
            refine y_cS (as := [.ref 116, iv ((j + 1 : Nat) : Int), iv (L : Int)]) rfl (by decide) rfl rfl rfl rfl ⟨(Nat.le_of_ble_eq_true rfl), (Nat.le_of_ble_eq_true rfl)⟩ (by omega) (hrec hr1 (pv * al + q) _ _ _ _ hSr2 hg2 (fun v V3 w1 w2 w3 w4 w5 w6 w7 => ?_) (fun w4 V3 w6 w7 => ?_))
            · refine y_nv ?_
              refine y_zeq rfl rfl rfl (by decide) (fun g12 => absurd g12 (by decide)) (fun g12 => ?_)
              refine y_ic rfl rfl ?_
              refine y_rI rfl (by decide) ?_
              refine kT v V3 (by omega) (by omega) w3 (fun v2 h1 h2 => ?_) (fun k h1 h2 => ?_) (fun k hk => (w6 k (by omega)).trans ((hrow k (by omega)).trans (hrw k hk))) (FrS_tr hfr (FrS_tr hfw (FrS_le w7 (by omega))))
              · by_cases h3 : v2 < (pv * al + q) * al ^ r
                · exact hJ v2 h1 h3
                · exact w4 v2 (by omega) h2
              · rcases (show k = j ∨ j + 1 ≤ k by omega) with h3 | h3
                · rw [h3, w6 j (by omega), hrj, show L - 1 - j = r by omega, wd_quo w1 w2, (wd_div hqa).2]
                · exact w5 k h3 h2
            · refine y_nv ?_
              refine y_zeq rfl rfl rfl (by decide) (fun g13 => ?_) (fun g13 => absurd g13 (by decide))
              refine y_inc (z := ((q + 1 : Nat) : Int)) (lv' := [(3, iv ((q + 1 : Nat) : Int)), (5, iv 1), (4, .ref pk), (0, .ref 116), (1, iv (j : Int)), (2, iv (L : Int))]) rfl rfl rfl (by omega) rfl ?_
              refine y_go rfl rfl ?_
              refine y_lv (l' := [(0, .ref 116), (1, iv (j : Int)), (2, iv (L : Int)), (3, iv ((q + 1 : Nat) : Int))]) rfl ⟨rfl, rfl, rfl, rfl, trivial⟩ ?_
              refine y_mono (ih (q + 1) V3 (by omega) (by omega) (SrC_r hSr2 (w7 116 (by decide) (by omega)) (fun k hk => w7 k (by omega) (by omega))) (SgC_r hSgV hm4 (by omega) (FrS_le w7 (by omega))) (fun k hk => (w6 k (by omega)).trans ((hrow k (by omega)).trans (hrw k hk))) (FrS_tr hfr (FrS_tr hfw (FrS_le w7 (by omega)))) (fun v h1 h2 => ?_)) (by omega)
              by_cases h3 : v < (pv * al + q) * al ^ r
              · exact hJ v h1 h3
              · exact w4 v (by omega) (by omega)
          · refine y_ld (x := iv 1) rfl rfl (fun d => rfl) ?_
            refine y_zeq rfl rfl rfl (by decide) (fun g14 => absurd g14 (by decide)) (fun g14 => ?_)
            refine y_go rfl rfl ?_
            refine y_ic rfl rfl ?_
            refine y_rI rfl (by decide) ?_
            have hr0 : r = 0 := by omega
            subst hr0
            rw [show j + 1 = L by omega] at hh
            refine kT (pv * al + q) V2 (by rw [Nat.pow_zero, Nat.mul_one] at m0; omega) (by rw [Nat.pow_zero, Nat.mul_one] at m9; omega) hh (fun v2 h1 h2 => hJ v2 h1 (by rw [Nat.pow_zero, Nat.mul_one]; exact h2)) (fun k h1 h2 => ?_) (fun k hk => (hrow k (by omega)).trans (hrw k hk)) (FrS_tr hfr hfw)
            rw [show k = j by omega, hrj, show L - 1 - j = 0 by omega, Nat.pow_zero, Nat.div_one, (wd_div hqa).2]
        · rw [← eL] at hh
          have hSr2 := SrC_r hSr1 (f2 116 (by decide) (by omega)) (fun k hk => f2 k (by omega) (by omega))
          have hfw : FrS j W V2 := FrS_tr (fun k h1 _ => v_up_ne h1) f2
          have hrow : ∀ k, k ≠ j → V2 121 k = W 121 k := fun k hk => by rw [f3]; exact v_up_ni hk
          have hrj : V2 121 j = (q : Int) := by rw [f3]; exact v_up_eq _ _ _ _
          have hg2 : SgC V2 (j + 1) form mt (wdS form σ ts mt al (j + 1) (pv * al + q)).1 (wdS form σ ts mt al (j + 1) (pv * al + q)).2 := by rw [eW]; exact g2
          have hSgV : SgC V2 j form mt (wdS form σ ts mt al j pv).1 (wdS form σ ts mt al j pv).2 := SgC_r hSg hm4 (by omega) hfw
          refine y_nv ?_
          refine y_go rfl rfl ?_
          refine y_st (lv' := [(5, iv 0), (4, .ref pk), (0, .ref 116), (1, iv (j : Int)), (2, iv (L : Int)), (3, iv (q : Int))]) rfl rfl (fun d => rfl) ?_
          refine y_ld (x := iv (j : Int)) rfl rfl (fun d => rfl) ?_
          refine y_ic rfl rfl ?_
          refine y_add (z := ((j + 1 : Nat) : Int)) rfl rfl (by omega) ?_
          refine y_ld (x := iv (L : Int)) rfl rfl (fun d => rfl) ?_
          refine y_jne rfl rfl rfl (by omega) (fun g15 => ?_) (fun g15 => ?_)
          · refine y_ld (x := .ref 116) rfl rfl (fun d => rfl) ?_
            refine y_ld (x := iv (j : Int)) rfl rfl (fun d => rfl) ?_
            refine y_ic rfl rfl ?_
            refine y_add (z := ((j + 1 : Nat) : Int)) rfl rfl (by omega) ?_
            refine y_ld (x := iv (L : Int)) rfl rfl (fun d => rfl) ?_
            have hr1 : 1 ≤ r := by omega
            refine y_cS (as := [.ref 116, iv ((j + 1 : Nat) : Int), iv (L : Int)]) rfl (by decide) rfl rfl rfl rfl ⟨(Nat.le_of_ble_eq_true rfl), (Nat.le_of_ble_eq_true rfl)⟩ (by omega) (hrec hr1 (pv * al + q) _ _ _ _ hSr2 hg2 (fun v V3 w1 w2 w3 w4 w5 w6 w7 => ?_) (fun w4 V3 w6 w7 => ?_))
            · refine y_nv ?_
              refine y_zeq rfl rfl rfl (by decide) (fun g16 => absurd g16 (by decide)) (fun g16 => ?_)
              refine y_ic rfl rfl ?_
              refine y_rI rfl (by decide) ?_
              refine kT v V3 (by omega) (by omega) w3 (fun v2 h1 h2 => ?_) (fun k h1 h2 => ?_) (fun k hk => (w6 k (by omega)).trans ((hrow k (by omega)).trans (hrw k hk))) (FrS_tr hfr (FrS_tr hfw (FrS_le w7 (by omega))))
              · by_cases h3 : v2 < (pv * al + q) * al ^ r
                · exact hJ v2 h1 h3
                · exact w4 v2 (by omega) h2
              · rcases (show k = j ∨ j + 1 ≤ k by omega) with h3 | h3
                · rw [h3, w6 j (by omega), hrj, show L - 1 - j = r by omega, wd_quo w1 w2, (wd_div hqa).2]
                · exact w5 k h3 h2
            · refine y_nv ?_
              refine y_zeq rfl rfl rfl (by decide) (fun g17 => ?_) (fun g17 => absurd g17 (by decide))
              refine y_inc (z := ((q + 1 : Nat) : Int)) (lv' := [(3, iv ((q + 1 : Nat) : Int)), (5, iv 0), (4, .ref pk), (0, .ref 116), (1, iv (j : Int)), (2, iv (L : Int))]) rfl rfl rfl (by omega) rfl ?_
              refine y_go rfl rfl ?_
              refine y_lv (l' := [(0, .ref 116), (1, iv (j : Int)), (2, iv (L : Int)), (3, iv ((q + 1 : Nat) : Int))]) rfl ⟨rfl, rfl, rfl, rfl, trivial⟩ ?_
              refine y_mono (ih (q + 1) V3 (by omega) (by omega) (SrC_r hSr2 (w7 116 (by decide) (by omega)) (fun k hk => w7 k (by omega) (by omega))) (SgC_r hSgV hm4 (by omega) (FrS_le w7 (by omega))) (fun k hk => (w6 k (by omega)).trans ((hrow k (by omega)).trans (hrw k hk))) (FrS_tr hfr (FrS_tr hfw (FrS_le w7 (by omega)))) (fun v h1 h2 => ?_)) (by omega)
              by_cases h3 : v < (pv * al + q) * al ^ r
              · exact hJ v h1 h3
              · exact w4 v (by omega) (by omega)
          · refine y_ld (x := iv 0) rfl rfl (fun d => rfl) ?_
            refine y_zeq rfl rfl rfl (by decide) (fun g18 => ?_) (fun g18 => absurd g18 (by decide))
            refine y_inc (z := ((q + 1 : Nat) : Int)) (lv' := [(3, iv ((q + 1 : Nat) : Int)), (5, iv 0), (4, .ref pk), (0, .ref 116), (1, iv (j : Int)), (2, iv (L : Int))]) rfl rfl rfl (by omega) rfl ?_
            refine y_go rfl rfl ?_
            refine y_lv (l' := [(0, .ref 116), (1, iv (j : Int)), (2, iv (L : Int)), (3, iv ((q + 1 : Nat) : Int))]) rfl ⟨rfl, rfl, rfl, rfl, trivial⟩ ?_
            have hr0 : r = 0 := by omega
            subst hr0
            rw [show j + 1 = L by omega] at hh
            refine y_mono (ih (q + 1) V2 (by omega) (by omega) hSr2 hSgV (fun k hk => (hrow k (by omega)).trans (hrw k hk)) (FrS_tr hfr hfw) (fun v h1 h2 => ?_)) (by omega)
            rw [Nat.pow_zero, Nat.mul_one] at h2
            by_cases h3 : v < pv * al + q
            · exact hJ v h1 (by rw [Nat.pow_zero, Nat.mul_one]; exact h3)
            · rw [show v = pv * al + q by omega]; exact hh
set_option maxRecDepth 100000 in
set_option maxHeartbeats 4000000 in
theorem cc_finds (hC : ClF S) {form N : Int} {al mt : Nat} {ts : Nat → List p_Li} {σ : Nat → Int} {L : Nat} (hm4 : mt ≤ 4) (hal : al ≤ 5) (hL3 : L ≤ 3) (hTO : ∀ i, i < mt → TO (ts i)) (hlt : ∀ q : Nat, q < al → pkO (σ (1770 + 4 * q)) (σ (1770 + 4 * q + 1)) (σ (1770 + 4 * q + 2)) (σ (1770 + 4 * q + 3))) (hfm : form = -1 ∨ (0 ≤ form ∧ form ≤ 4)) (hN : 0 ≤ N ∧ N ≤ 99) : ∀ (r j : Nat), j + r = L → 1 ≤ r → qF X S form N al mt ts σ L r j
  | 0, _, _, h => absurd h (by decide)
  | r + 1, j, hjr, _ => by
    intro pv V K u w hSr hSg kT kF
    have hrec : 1 ≤ r → qF X S form N al mt ts σ L r (j + 1) := fun h => cc_finds hC hm4 hal hL3 hTO hlt hfm hN r (j + 1) (by omega) h
    show y_R X (10 + r + 1) 35 u w _ S V K
    refine y_ent (lv' := [(0, .ref 116), (1, iv (j : Int)), (2, iv (L : Int))]) (Nat.le_of_ble_eq_true rfl) rfl ?_
    refine y_ld (x := iv (j : Int)) rfl rfl (fun d => rfl) ?_
    refine y_zlt rfl rfl rfl (by omega) (fun g1 => absurd g1 (by omega)) (fun g1 => ?_)
    refine y_ld (x := iv (j : Int)) rfl rfl (fun d => rfl) ?_
    refine y_ld (x := iv (L : Int)) rfl rfl (fun d => rfl) ?_
    refine y_jge rfl rfl rfl (by omega) (fun g2 => absurd g2 (by omega)) (fun g2 => ?_)
    refine y_ld (x := iv (L : Int)) rfl rfl (fun d => rfl) ?_
    refine y_ic rfl rfl ?_
    refine y_jle rfl rfl rfl (by omega) (fun g3 => ?_) (fun g3 => absurd g3 (by omega))
    refine y_ic rfl rfl ?_
    refine y_st (lv' := [(3, iv 0), (0, .ref 116), (1, iv (j : Int)), (2, iv (L : Int))]) rfl rfl (fun d => rfl) ?_
    refine y_lv (l' := [(0, .ref 116), (1, iv (j : Int)), (2, iv (L : Int)), (3, iv ((0 : Nat) : Int))]) rfl ⟨rfl, rfl, rfl, rfl, trivial⟩ ?_
    exact y_mono (lp_finds (F := 100) hC hm4 hal hL3 hTO hlt hfm hN hjr hrec kT kF 6 0 V (by omega) (by omega) hSr hSg (fun k _ => rfl) (FrS_rf j V) (fun v h1 h2 => by rw [Nat.add_zero, ← wd_lo] at h2; omega)) (by decide)
set_option maxRecDepth 100000 in
set_option maxHeartbeats 4000000 in
theorem lp_shortest (hC : ClF S) {form N : Int} {al mt : Nat} {ts : Nat → List p_Li} {σ : Nat → Int} (hm4 : mt ≤ 4) (hal : al ≤ 5) (hTO : ∀ i, i < mt → TO (ts i)) (hlt : ∀ q : Nat, q < al → pkO (σ (1770 + 4 * q)) (σ (1770 + 4 * q + 1)) (σ (1770 + 4 * q + 2)) (σ (1770 + 4 * q + 3))) (hfm : form = -1 ∨ (0 ≤ form ∧ form ≤ 4)) (hN : 0 ≤ N ∧ N ≤ 99) {d : Nat} (hd : d ≤ 3) (hSg : SgC V 0 form mt (fun _ _ => 0) aw0) (kS : ∀ l v V2, l ≤ d → brP (hitV form N σ ts mt al) al l v → (∀ k, k < l → V2 121 k = ((v / al ^ (l - 1 - k) % al : Nat) : Int)) → FrS 0 V V2 → K u w (some (iv (l : Int))) S V2) (k0 : nbP (hitV form N σ ts mt al) al d → ∀ V2, FrS 0 V V2 → K u w (some (iv 0)) S V2) {F : Nat} : ∀ (m : Nat) (l : Nat) (W : v_V), 4 - l < m → (1 ≤ l ∧ l ≤ 4) → (SrC S W form N al mt ts σ) → (FrS 0 V W) → (∀ l', 1 ≤ l' → l' < l → ∀ v, v < al ^ l' → ¬ hitV form N σ ts mt al l' v) → y_E X 13 34 (60 * m + F) u w 2 [(0, .ref 116), (1, iv (d : Int)), (2, iv (l : Int))] [] S W K := by
  intro m
  induction m with
  | zero => intros; omega
  | succ m ih =>
    intro l W hm hI hSr hfr hJ 
    refine y_mono (F' := (60 * m + F) + 60) ?_ (by omega)
    refine y_ld (x := iv (l : Int)) rfl rfl (fun d => rfl) ?_
    refine y_ld (x := iv (d : Int)) rfl rfl (fun d => rfl) ?_
    refine y_jgt rfl rfl rfl (by omega) (fun g1 => ?_) (fun g1 => ?_)
    · refine y_ic rfl rfl ?_
      refine y_rI rfl (Or.inl rfl) ?_
      exact k0 (fun l2 h1 h2 v hv => hJ l2 h1 (by omega) v hv) W hfr
    · refine y_ld (x := iv (l : Int)) rfl rfl (fun d => rfl) ?_
      refine y_ic rfl rfl ?_
      refine y_jgt rfl rfl rfl (by omega) (fun g2 => ?_) (fun g2 => ?_)
      · refine y_ic rfl rfl ?_
        refine y_rI rfl (Or.inl rfl) ?_
        exact k0 (fun l2 h1 h2 v hv => hJ l2 h1 (by omega) v hv) W hfr
      · have hl3 : l ≤ 3 := by omega
        refine y_ld (x := .ref 116) rfl rfl (fun d => rfl) ?_
        refine y_ic rfl rfl ?_
        refine y_ld (x := iv (l : Int)) rfl rfl (fun d => rfl) ?_
        refine y_cS (as := [.ref 116, iv ((0 : Nat) : Int), iv (l : Int)]) rfl (by decide) rfl rfl rfl rfl ⟨(Nat.le_of_ble_eq_true rfl), (Nat.le_of_ble_eq_true rfl)⟩ (by omega) (cc_finds (L := l) hC hm4 hal (by omega) hTO hlt hfm hN l 0 (by omega) hI.1 0 _ _ _ _ hSr (SgC_r hSg hm4 (by decide) hfr) (fun v V3 w1 w2 w3 w4 w5 w6 w7 => ?_) (fun w4 V3 w6 w7 => ?_))
        · refine y_nv ?_
          refine y_zeq rfl rfl rfl (by decide) (fun g3 => absurd g3 (by decide)) (fun g3 => ?_)
          refine y_ld (x := iv (l : Int)) rfl rfl (fun d => rfl) ?_
          refine y_rI rfl (Or.inl rfl) ?_
          rw [Nat.zero_mul] at w4
          rw [Nat.zero_add, Nat.one_mul] at w2
          exact kS l v V3 (by omega) ⟨hI.1, w2, w3, hJ, fun v2 h2 => w4 v2 (Nat.zero_le _) h2⟩ (fun k hk => w5 k (Nat.zero_le _) hk) (FrS_tr hfr w7)
        · refine y_nv ?_
          refine y_zeq rfl rfl rfl (by decide) (fun g4 => ?_) (fun g4 => absurd g4 (by decide))
          refine y_inc (z := ((l + 1 : Nat) : Int)) (lv' := [(2, iv ((l + 1 : Nat) : Int)), (0, .ref 116), (1, iv (d : Int))]) rfl rfl rfl (by omega) rfl ?_
          refine y_go rfl rfl ?_
          refine y_lv (l' := [(0, .ref 116), (1, iv (d : Int)), (2, iv ((l + 1 : Nat) : Int))]) rfl ⟨rfl, rfl, rfl, trivial⟩ ?_
          rw [Nat.zero_mul, Nat.zero_add, Nat.one_mul] at w4
          refine y_mono (ih (l + 1) V3 (by omega) (by omega) (SrC_r hSr (w7 116 (by decide) (by omega)) (fun k hk => w7 k (by omega) (by omega))) (FrS_tr hfr w7) (fun l2 h1 h2 v hv => ?_)) (by omega)
          rcases (show l2 < l ∨ l2 = l by omega) with h3 | h3
          · exact hJ l2 h1 h3 v hv
          · rw [h3] at hv ⊢; exact w4 v (Nat.zero_le _) hv
set_option maxRecDepth 100000 in
set_option maxHeartbeats 4000000 in
theorem cc_shortest (hC : ClF S) {form N : Int} {al mt : Nat} {ts : Nat → List p_Li} {σ : Nat → Int} (hm4 : mt ≤ 4) (hal : al ≤ 5) (hTO : ∀ i, i < mt → TO (ts i)) (hlt : ∀ q : Nat, q < al → pkO (σ (1770 + 4 * q)) (σ (1770 + 4 * q + 1)) (σ (1770 + 4 * q + 2)) (σ (1770 + 4 * q + 3))) (hfm : form = -1 ∨ (0 ≤ form ∧ form ≤ 4)) (hN : 0 ≤ N ∧ N ≤ 99) {d : Nat} (hd : d ≤ 3) (hSr : SrC S V form N al mt ts σ) (hSg : SgC V 0 form mt (fun _ _ => 0) aw0) (kS : ∀ l v V2, l ≤ d → brP (hitV form N σ ts mt al) al l v → (∀ k, k < l → V2 121 k = ((v / al ^ (l - 1 - k) % al : Nat) : Int)) → FrS 0 V V2 → K u w (some (iv (l : Int))) S V2) (k0 : nbP (hitV form N σ ts mt al) al d → ∀ V2, FrS 0 V V2 → K u w (some (iv 0)) S V2) : y_R X 14 34 u w [.ref 116, iv (d : Int)] S V K := by
  refine y_ent (lv' := [(0, .ref 116), (1, iv (d : Int))]) (Nat.le_of_ble_eq_true rfl) rfl ?_
  refine y_ic rfl rfl ?_
  refine y_st (lv' := [(2, iv 1), (0, .ref 116), (1, iv (d : Int))]) rfl rfl (fun d => rfl) ?_
  refine y_lv (l' := [(0, .ref 116), (1, iv (d : Int)), (2, iv ((1 : Nat) : Int))]) rfl ⟨rfl, rfl, rfl, trivial⟩ ?_
  exact y_mono (lp_shortest (F := 100) hC hm4 hal hTO hlt hfm hN hd hSg kS k0 5 1 V (by omega) (by omega) hSr (FrS_rf 0 V) (fun l2 h1 h2 => absurd h2 (by omega))) (by decide)
end
