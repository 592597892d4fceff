/-! a PROMISE over a row, all rows: the reference -/
def FrK (V V2 : v_V) : Prop := (∀ k, k ≠ 170 → k ≠ 178 → k ≠ 179 → (k < 183 ∨ 188 < k) → V2 k = V k) ∧ ∀ i, i < 17 ∨ 23 < i → V2 170 i = V 170 i
theorem FrK_rf (V : v_V) : FrK V V := ⟨fun _ _ _ _ _ => rfl, fun _ _ => rfl⟩
theorem FrK_tr {V V' V'' : v_V} (h : FrK V V') (h2 : FrK V' V'') : FrK V V'' := ⟨fun k a b c d => (h2.1 k a b c d).trans (h.1 k a b c d), fun i a => (h2.2 i a).trans (h.2 i a)⟩
theorem FrK_T {V V' : v_V} (h : FrT V V') : FrK V V' := ⟨fun k a b c _ => h.1 k a b c, h.2⟩
theorem FrK_Q {V V' : v_V} (h : FrQ V V') : FrK V V' := ⟨fun k _ _ _ d => h k d, fun i _ => by rw [h 170 (by decide)]⟩
/-- all rows: THE word may be another one, too -/
def FrB (V V2 : v_V) : Prop := (∀ k, k ≠ 170 → k ≠ 178 → k ≠ 179 → k ≠ 180 → (k < 183 ∨ 188 < k) → V2 k = V k) ∧ ∀ i, i < 17 ∨ 23 < i → V2 170 i = V 170 i
theorem FrB_rf (V : v_V) : FrB V V := ⟨fun _ _ _ _ _ _ => rfl, fun _ _ => rfl⟩
theorem FrB_tr {V V' V'' : v_V} (h : FrB V V') (h2 : FrB V' V'') : FrB V V'' := ⟨fun k a b c d e => (h2.1 k a b c d e).trans (h.1 k a b c d e), fun i a => (h2.2 i a).trans (h.2 i a)⟩
theorem FrB_K {V V' : v_V} (h : FrK V V') : FrB V V' := ⟨fun k a b c _ d => h.1 k a b c d, h.2⟩
theorem FrB_w {V V' : v_V} (h : ∀ k, k ≠ 180 → V' k = V k) : FrB V V' := ⟨fun k _ _ _ a _ => h k a, fun i _ => by rw [h 170 (by decide)]⟩
theorem ThM_B {V V' : v_V} {m : Nat} {ts : Nat → List p_Li} (h : ThM V m ts) (e : FrB V V') : ThM V' m ts := ThM_r h (e.2 27 (by decide)) (fun k h1 h2 => e.1 k (by omega) (by omega) (by omega) (by omega) (by omega))
theorem wd_q {v a l k : Nat} (h : k < l) : v / a ^ (l - 1 - k) / a = v / a ^ (l - k) := by
  rw [Nat.div_div_eq_div_mul, ← Nat.pow_succ, show (l - 1 - k).succ = l - k by omega]
theorem wdS_0 (form : Int) (σ : Nat → Int) (ts : Nat → List p_Li) (m a v : Nat) : wdS form σ ts m a 0 v = (fun _ _ => 0, aw0) := rfl
theorem wdS_n {form : Int} {σ : Nat → Int} {ts : Nat → List p_Li} {m a j u : Nat} (hf : form ≠ -1) : (wdS form σ ts m a (j + 1) u).2 = awS (wdS form σ ts m a j (u / a)).2 (σ (1770 + 4 * (u % a))) (σ (1770 + 4 * (u % a) + 1)) (σ (1770 + 4 * (u % a) + 2)) (σ (1770 + 4 * (u % a) + 3)) (howV form σ ts m a j u) := by
  show stA form _ _ _ _ ts m (wdS form σ ts m a j (u / a)).1 (wdS form σ ts m a j (u / a)).2 = _
  unfold stA
  rw [if_neg hf]
  rfl
theorem wdS_m {form : Int} {σ : Nat → Int} {ts : Nat → List p_Li} {m a j u : Nat} (hf : form ≠ -1) (i : Nat) : (wdS form σ ts m a (j + 1) u).1 i = (if hwP (σ (1770 + 4 * (u % a))) (σ (1770 + 4 * (u % a) + 1)) (σ (1770 + 4 * (u % a) + 2)) (σ (1770 + 4 * (u % a) + 3)) ts (wdS form σ ts m a j (u / a)).1 i = 1 then (eW (σ (1770 + 4 * (u % a))) (σ (1770 + 4 * (u % a) + 1)) (σ (1770 + 4 * (u % a) + 2)) (σ (1770 + 4 * (u % a) + 3)) (ts i) ((wdS form σ ts m a j (u / a)).1 i)).2 else (wdS form σ ts m a j (u / a)).1 i) := by
  show stM form _ _ _ _ ts (wdS form σ ts m a j (u / a)).1 i = _
  unfold stM
  rw [if_neg hf]
section
variable {X : Nat → List Int32} {u w : Nat} {S : m_H} {V : v_V} {K : v_K}
set_option maxRecDepth 100000 in
set_option maxHeartbeats 4000000 in
theorem lp_reset (hM : MdS S) {v1 form N : Int} {F : Nat} : ∀ (m : Nat) (t : Nat) (W : v_V), 16 - t < m → (t ≤ 16) → (∀ q, q ≠ 183 ∧ q ≠ 184 ∧ q ≠ 185 ∧ q ≠ 188 → W q = V q) → (∀ s : Nat, s < t → W 183 s = 0 ∧ W 184 s = 0 ∧ W 185 s = 0 ∧ W 188 s = 0) → (∀ W : v_V, (∀ q, q ≠ 183 ∧ q ≠ 184 ∧ q ≠ 185 ∧ q ≠ 188 → W q = V q) → (∀ s : Nat, s < 16 → W 183 s = 0 ∧ W 184 s = 0 ∧ W 185 s = 0 ∧ W 188 s = 0) → y_E X 8 157 F u w 52 [(0, .ref 170), (1, iv v1), (2, iv form), (3, iv N)] [] S W K) → y_E X 8 157 (40 * m + F) u w 7 [(0, .ref 170), (1, iv v1), (2, iv form), (3, iv N), (4, iv (t : Int))] [] S W K := by
  intro m
  induction m with
  | zero => intros; omega
  | succ m ih =>
    intro t W hm hI hF hz hx2
    refine y_mono (F' := (40 * m + F) + 40) ?_ (by omega)
    refine y_ld (x := iv (t : Int)) rfl rfl (fun d => rfl) ?_
    refine y_bi rfl rfl (by decide) ?_
    refine y_jge rfl rfl rfl (by omega) (fun g1 => ?_) (fun g1 => ?_)
    · obtain rfl : t = 16 := by omega
      refine y_lv (l' := [(0, .ref 170), (1, iv v1), (2, iv form), (3, iv N)]) rfl ⟨rfl, rfl, rfl, rfl, trivial⟩ ?_
      exact y_mono (hx2 W hF hz) (by omega)
    · refine y_ld (x := .ref 170) rfl rfl (fun d => rfl) ?_
      refine y_gR (i := 28) rfl rfl rfl (md170 hM) rfl ?_
      refine y_ld (x := iv (t : Int)) rfl rfl (fun d => rfl) ?_
      refine y_ic rfl rfl ?_
      refine y_bst (q := t) rfl rfl (md183 hM) (by omega) (by decide) (by omega) (by decide) ?_
      refine y_ld (x := .ref 170) rfl rfl (fun d => rfl) ?_
      refine y_gR (i := 29) rfl rfl rfl (md170 hM) rfl ?_
      refine y_ld (x := iv (t : Int)) rfl rfl (fun d => rfl) ?_
      refine y_ic rfl rfl ?_
      refine y_bst (q := t) rfl rfl (md184 hM) (by omega) (by decide) (by omega) (by decide) ?_
      refine y_ld (x := .ref 170) rfl rfl (fun d => rfl) ?_
      refine y_gR (i := 30) rfl rfl rfl (md170 hM) rfl ?_
      refine y_ld (x := iv (t : Int)) rfl rfl (fun d => rfl) ?_
      refine y_ic rfl rfl ?_
      refine y_bst (q := t) rfl rfl (md185 hM) (by omega) (by decide) (by omega) (by decide) ?_
      refine y_ld (x := .ref 170) rfl rfl (fun d => rfl) ?_
      refine y_gR (i := 33) rfl rfl rfl (md170 hM) rfl ?_
      refine y_ld (x := iv (t : Int)) rfl rfl (fun d => rfl) ?_
      refine y_ic rfl rfl ?_
      refine y_ist (q := t) rfl rfl (md188 hM) (by omega) (by decide) (by omega) ?_
      refine y_inc (z := ((t + 1 : Nat) : Int)) (lv' := [(4, iv ((t + 1 : Nat) : Int)), (0, .ref 170), (1, iv v1), (2, iv form), (3, iv N)]) rfl rfl rfl (by omega) rfl ?_
      refine y_go rfl rfl ?_
      refine y_lv (l' := [(0, .ref 170), (1, iv v1), (2, iv form), (3, iv N), (4, iv ((t + 1 : Nat) : Int))]) rfl ⟨rfl, rfl, rfl, rfl, rfl, trivial⟩ ?_
      refine y_mono (ih (t + 1) (v_up (v_up (v_up (v_up W 183 t 0) 184 t 0) 185 t 0) 188 t 0) (by omega) (by omega) (fun q hq => ?_) (fun s hs => ?_) hx2) (by omega)
      · rw [v_up_ne hq.2.2.2, v_up_ne hq.2.2.1, v_up_ne hq.2.1, v_up_ne hq.1]; exact hF q hq
      · rcases (show s < t ∨ s = t by omega) with h7 | h7
        · rw [v_up_ne (show 183 ≠ 188 by decide), v_up_ne (show 183 ≠ 185 by decide), v_up_ne (show 183 ≠ 184 by decide), v_up_ni (by omega), v_up_ne (show 184 ≠ 188 by decide), v_up_ne (show 184 ≠ 185 by decide), v_up_ni (by omega), v_up_ne (show 184 ≠ 183 by decide), v_up_ne (show 185 ≠ 188 by decide), v_up_ni (by omega), v_up_ne (show 185 ≠ 184 by decide), v_up_ne (show 185 ≠ 183 by decide), v_up_ni (by omega), v_up_ne (show 188 ≠ 185 by decide), v_up_ne (show 188 ≠ 184 by decide), v_up_ne (show 188 ≠ 183 by decide)]; exact hz s h7
        · rw [h7, v_up_ne (show 183 ≠ 188 by decide), v_up_ne (show 183 ≠ 185 by decide), v_up_ne (show 183 ≠ 184 by decide), v_up_eq, v_up_ne (show 184 ≠ 188 by decide), v_up_ne (show 184 ≠ 185 by decide), v_up_eq, v_up_ne (show 185 ≠ 188 by decide), v_up_eq, v_up_eq]; exact ⟨rfl, rfl, rfl, rfl⟩
set_option maxRecDepth 100000 in
set_option maxHeartbeats 4000000 in
theorem lp_keeps (hM : MdS S) {tm : Nat} (htl : tm ≤ 4) {ts : Nat → List p_Li} (hTO : ∀ i, i < tm → TO (ts i)) {al : Nat} (hal : 0 < al ∧ al ≤ 5) (hlt : ∀ q : Nat, q < al → pkO (V 171 (1770 + 4 * q)) (V 171 (1770 + 4 * q + 1)) (V 171 (1770 + 4 * q + 2)) (V 171 (1770 + 4 * q + 3))) {form N : Int} (hf : 0 ≤ form ∧ form ≤ 4) (hN : 0 ≤ N ∧ N ≤ 99) {L v : Nat} (hL : L ≤ 3) (hWd : WdM V al L v) {F : Nat} : ∀ (m : Nat) (k : Nat) (W : v_V), L - k < m → (k ≤ L) → (FrK V W) → (ThM W tm ts) → (W 170 21 = 1) → (∀ q : Nat, q < tm → ∀ p : Nat, p < 84 → zm (W 178) (84 * q) p = (wdS form (V 171) ts tm al k (v / al ^ (L - k))).1 q p) → (RWm W (wdS form (V 171) ts tm al k (v / al ^ (L - k))).2) → (∀ j, j < k → ¬ vioV form N (V 171) ts tm al (j + 1) (v / al ^ (L - 1 - j))) → ((¬ brkV form N (V 171) ts tm al L v → ∀ V2, FrK V V2 → K u w (some (iv 1)) S V2)) → ((brkV form N (V 171) ts tm al L v → ∀ V2, FrK V V2 → K u w (some (iv 0)) S V2)) → y_E X 8 157 (500 * m + F) u w 55 [(0, .ref 170), (1, iv (L : Int)), (2, iv form), (3, iv N), (4, iv (k : Int))] [] S W K := by
  intro m
  induction m with
  | zero => intros; omega
  | succ m ih =>
    intro k W hm hI hF hTh h21 hMm hRm hnv kk kb
    refine y_mono (F' := (500 * m + F) + 500) ?_ (by omega)
    refine y_ld (x := iv (k : Int)) rfl rfl (fun d => rfl) ?_
    refine y_ld (x := iv (L : Int)) rfl rfl (fun d => rfl) ?_
    refine y_jge rfl rfl rfl (by omega) (fun g1 => ?_) (fun g1 => ?_)
    · refine y_ic rfl rfl ?_
      refine y_rI rfl (by decide) ?_
      obtain rfl : k = L := by omega
      exact kk (fun hb => by obtain ⟨j, hj, hb⟩ := hb; exact hnv j hj hb) W hF
    · have hkL : k < L := by omega
      have e171 : W 171 = V 171 := hF.1 171 (by decide) (by decide) (by decide) (by decide)
      have e180 : W 180 k = (((v / al ^ (L - 1 - k)) % al : Nat) : Int) := by rw [hF.1 180 (by decide) (by decide) (by decide) (by decide)]; exact hWd k hkL
      have hca : (v / al ^ (L - 1 - k)) % al < al := Nat.mod_lt _ hal.1
      have hpk := hlt _ hca
      have eq := wd_q (v := v) (a := al) hkL
      rw [← eq] at hRm hMm
      have hwo := wdS_ok (form := form) (ts := ts) (m := tm) hlt hal.1 k ((v / al ^ (L - 1 - k)) / al)
      have hwr := hwP_rg (t := V 171 (1770 + 4 * ((v / al ^ (L - 1 - k)) % al))) (h := V 171 (1770 + 4 * ((v / al ^ (L - 1 - k)) % al) + 1)) (k := V 171 (1770 + 4 * ((v / al ^ (L - 1 - k)) % al) + 2)) (n := V 171 (1770 + 4 * ((v / al ^ (L - 1 - k)) % al) + 3)) (ts := ts) hwo.1 tm (Nat.le_refl _)
      refine y_ld (x := .ref 170) rfl rfl (fun d => rfl) ?_
      refine y_ld (x := .ref 170) rfl rfl (fun d => rfl) ?_
      refine y_gR (i := 24) rfl rfl rfl (md170 hM) rfl ?_
      refine y_ld (x := iv (k : Int)) rfl rfl (fun d => rfl) ?_
      refine y_ild (x := (((v / al ^ (L - 1 - k)) % al : Nat) : Int)) (q := k) rfl rfl (md180 hM) (by omega) (by decide) (by omega) e180 ?_
      refine y_cV (as := [.ref 170, iv (((v / al ^ (L - 1 - k)) % al : Nat) : Int)]) rfl rfl rfl rfl rfl (md170 hM) ⟨rfl, (Nat.le_of_ble_eq_true rfl), (Nat.le_of_ble_eq_true rfl)⟩ (by decide) (ct_tries (c := (v / al ^ (L - 1 - k)) % al) hM htl hTO hwo.1 (by omega) (by rw [e171]; exact hpk) hTh h21 hMm (fun W2 a1 a2 a3 a4 => ?_))
      rw [e171] at a1 a3
      rw [e171]
      refine y_nv ?_
      refine y_st (lv' := [(5, iv (howV form (V 171) ts tm al k (v / al ^ (L - 1 - k)))), (0, .ref 170), (1, iv (L : Int)), (2, iv form), (3, iv N), (4, iv (k : Int))]) rfl rfl (fun d => rfl) ?_
      refine y_lv (l' := [(0, .ref 170), (1, iv (L : Int)), (2, iv form), (3, iv N), (4, iv (k : Int)), (5, iv (howV form (V 171) ts tm al k (v / al ^ (L - 1 - k))))]) rfl ⟨rfl, rfl, rfl, rfl, rfl, rfl, trivial⟩ ?_
      have hR2 := RWm_r hRm (fun k h1 h2 => a2.1 k (by omega) (by omega) (by omega))
      have hfk2 := FrK_tr hF (FrK_T a2)
      have eS := wdS_n (form := form) (σ := V 171) (ts := ts) (m := tm) (a := al) (j := k) (u := (v / al ^ (L - 1 - k))) (by omega)
      refine y_mono (lk_body (V := W2) (F := 500 * m + F + 100) hM hR2 hwo.2 (by omega) hpk a3 hwr hf hN (fun hv V3 q1 => ?_) (fun hv V3 q1 q2 => ?_)) (by omega)
      · exact kb ⟨k, hkL, by show vioM _ _ _ _ _ _; rw [eS]; exact hv⟩ V3 (FrK_tr hfk2 (FrK_Q q1))
      · refine y_inc (z := ((k + 1 : Nat) : Int)) (lv' := [(4, iv ((k + 1 : Nat) : Int)), (0, .ref 170), (1, iv (L : Int)), (2, iv form), (3, iv N)]) rfl rfl rfl (by omega) rfl ?_
        refine y_go rfl rfl ?_
        refine y_lv (l' := [(0, .ref 170), (1, iv (L : Int)), (2, iv form), (3, iv N), (4, iv ((k + 1 : Nat) : Int))]) rfl ⟨rfl, rfl, rfl, rfl, rfl, trivial⟩ ?_
        have hfk3 := FrK_tr hfk2 (FrK_Q q2)
        refine y_mono (ih (k + 1) V3 (by omega) (by omega) hfk3 (ThM_B hTh (FrB_tr (FrB_K (FrK_T a2)) (FrB_K (FrK_Q q2)))) (by rw [q2 170 (by decide)]; exact a4) (fun q hq p hp => ?_) ?_ (fun j hj => ?_) kk kb) (by omega)
        · rw [q2 178 (by decide), a1 q hq p hp, show L - (k + 1) = L - 1 - k by omega, wdS_m (by omega)]
        · rw [show L - (k + 1) = L - 1 - k by omega, eS]; exact q1
        · rcases (show j < k ∨ j = k by omega) with h7 | h7
          · exact hnv j h7
          · rw [h7]; show ¬ vioM _ _ _ _ _ _; rw [eS]; exact hv
set_option maxRecDepth 100000 in
set_option maxHeartbeats 4000000 in
theorem ct_keeps (hM : MdS S) {tm : Nat} (htl : tm ≤ 4) {ts : Nat → List p_Li} (hTO : ∀ i, i < tm → TO (ts i)) {al : Nat} (hal : 0 < al ∧ al ≤ 5) (hlt : ∀ q : Nat, q < al → pkO (V 171 (1770 + 4 * q)) (V 171 (1770 + 4 * q + 1)) (V 171 (1770 + 4 * q + 2)) (V 171 (1770 + 4 * q + 3))) {form N : Int} (hf : 0 ≤ form ∧ form ≤ 4) (hN : 0 ≤ N ∧ N ≤ 99) {L v : Nat} (hL : L ≤ 3) (hWd : WdM V al L v) (hTh : ThM V tm ts) (k1 : ¬ brkV form N (V 171) ts tm al L v → ∀ V2, FrK V V2 → K u w (some (iv 1)) S V2) (k0 : brkV form N (V 171) ts tm al L v → ∀ V2, FrK V V2 → K u w (some (iv 0)) S V2) : y_R X 9 157 u w [.ref 170, iv (L : Int), iv form, iv N] S V K := by
  refine y_ent (lv' := [(0, .ref 170), (1, iv (L : Int)), (2, iv form), (3, iv N)]) (Nat.le_of_ble_eq_true rfl) rfl ?_
  refine y_ld (x := .ref 170) rfl rfl (fun d => rfl) ?_
  refine y_cV (as := [.ref 170]) rfl rfl rfl rfl rfl (md170 hM) ⟨rfl, (Nat.le_of_ble_eq_true rfl), (Nat.le_of_ble_eq_true rfl)⟩ (by decide) (ct_empties hM hTh.1 htl ?_)
  refine y_n0 ?_
  refine y_ic rfl rfl ?_
  refine y_st (lv' := [(4, iv 0), (0, .ref 170), (1, iv (L : Int)), (2, iv form), (3, iv N)]) rfl rfl (fun d => rfl) ?_
  refine y_lv (l' := [(0, .ref 170), (1, iv (L : Int)), (2, iv form), (3, iv N), (4, iv ((0 : Nat) : Int))]) rfl ⟨rfl, rfl, rfl, rfl, rfl, trivial⟩ ?_
  refine y_mono (lp_reset (V := (v_ur (v_up V 170 21 1) 178 (fun q => if q < 84 * tm then 0 else V 178 q))) (F := 3000) hM 17 0 (v_ur (v_up V 170 21 1) 178 (fun q => if q < 84 * tm then 0 else V 178 q)) (by omega) (by omega) (fun q _ => rfl) (fun s hs => absurd hs (by omega)) (fun W hF hz => ?_)) (by decide)
  have hfe : FrK V (v_ur (v_up V 170 21 1) 178 (fun q => if q < 84 * tm then 0 else V 178 q)) := ⟨fun k q1 q2 _ _ => by rw [v_ur_ne q2, v_up_ne q1], fun i hi => by rw [v_ur_ne (by decide), v_up_ni (by omega)]⟩
  have hfw : FrK V W := FrK_tr hfe ⟨fun k _ _ _ q4 => hF k (by omega), fun i _ => by rw [hF 170 (by decide)]⟩
  refine y_ic rfl rfl ?_
  refine y_st (lv' := [(4, iv 0), (0, .ref 170), (1, iv (L : Int)), (2, iv form), (3, iv N)]) rfl rfl (fun d => rfl) ?_
  refine y_lv (l' := [(0, .ref 170), (1, iv (L : Int)), (2, iv form), (3, iv N), (4, iv ((0 : Nat) : Int))]) rfl ⟨rfl, rfl, rfl, rfl, rfl, trivial⟩ ?_
  refine y_mono (lp_keeps (V := V) (F := 100) hM htl hTO hal hlt hf hN hL hWd 4 0 W (by omega) (by omega) hfw (ThM_B hTh (FrB_K hfw)) (by rw [hF 170 (by decide), v_ur_ne (by decide)]; exact v_up_eq _ _ _ _) (fun q hq p hp => ?_) (fun t ht => ?_) (fun j hj => absurd hj (by omega)) k1 k0) (by decide)
  · rw [hF 178 (by decide), v_ur_eq]
    exact if_pos (by omega)
  · obtain ⟨z1, z2, z3, z4⟩ := hz t ht
    exact ⟨z1, z2, z3, z4, fun q => absurd (show false = true from q) (by decide)⟩
end
