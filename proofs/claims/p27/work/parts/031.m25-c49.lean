section
/-! shown, ways: the reference -/
/-- the row that is looked for, none: 0 0 -/
def resP (H : Nat → Nat → Prop) (a d l v : Nat) : Prop := (l ≤ d ∧ brP H a l v) ∨ (l = 0 ∧ v = 0 ∧ nbP H a d)
theorem resP_eq {H : Nat → Nat → Prop} {a d l v l' v' : Nat} (h : resP H a d l v) (h' : resP H a d l' v') : l = l' ∧ v = v' := by
  rcases h with ⟨h1, h2⟩ | ⟨h1, h2, h3⟩ <;> rcases h' with ⟨g1, g2⟩ | ⟨g1, g2, g3⟩
  · exact brP_eq h2 g2
  · exact absurd h2.2.2.1 (g3 l h2.1 h1 v h2.2.1)
  · exact absurd g2.2.2.1 (h3 l' g2.1 g1 v' g2.2.1)
  · exact ⟨h1.trans g1.symm, h2.trans g2.symm⟩
def shA (a l v : Nat) (i : Int) : Int := if i = -1 then (if l = 0 then 1 else 0) else if i = -2 then (l : Int) else if i < l then ((v / a ^ (l - 1 - i.toNat) % a : Nat) : Int) else -1
def wyA (a l v : Nat) (i : Int) : Int := if i = -1 then (l : Int) else if i < l then ((v / a ^ (l - 1 - i.toNat) % a : Nat) : Int) else -1
/-- what the reference's searches leave as it was -/
def FrX (V V2 : v_V) : Prop := (∀ k, k < 170 ∨ (171 ≤ k ∧ k ≤ 177) ∨ 192 ≤ k → V2 k = V k) ∧ ∀ i, i < 17 ∨ 39 ≤ i → V2 170 i = V 170 i
theorem FrX_rf (V : v_V) : FrX V V := ⟨fun _ _ => rfl, fun _ _ => rfl⟩
theorem FrX_tr {V V' V'' : v_V} (h : FrX V V') (h2 : FrX V' V'') : FrX V V'' := ⟨fun k a => (h2.1 k a).trans (h.1 k a), fun i a => (h2.2 i a).trans (h.2 i a)⟩
theorem FrX_B {V V' : v_V} (h : FrB V V') : FrX V V' := ⟨fun k a => h.1 k (by omega) (by omega) (by omega) (by omega) (by omega), fun i a => h.2 i (by omega)⟩
/-- how a TEXT ends a row's last packet -/
def lastH (σ : Nat → Int) (t : List p_Li) (a : Nat) : Nat → Nat → Int
  | 0, _ => 1
  | j + 1, v => howV 0 σ (fun _ => t) 1 a j v
section
variable {X : Nat → List Int32} {u w : Nat} {S : m_H} {V : v_V} {K : v_K}
theorem ThM_1 {V : v_V} {x : Int} {l : List p_Li} (h : MT V x.toNat l) (h0 : 0 ≤ x) (h8 : x.toNat < 8) : ThM (v_up (v_up V 170 27 1) 182 0 x) 1 (fun _ => l) := by
  refine ⟨by rw [v_up_ne (by decide)]; exact v_up_eq _ _ _ _, fun i hi => ⟨x.toNat, h8, by rw [show i = 0 by omega, v_up_eq]; omega, ?_⟩⟩
  obtain ⟨a1, a2, a3, a4, a5⟩ := h
  have e : ∀ k, 173 ≤ k → k ≤ 177 → (v_up (v_up V 170 27 1) 182 0 x) k = V k := fun k h1 h2 => by rw [v_up_ne (by omega), v_up_ne (by omega)]
  refine ⟨by rw [e 174 (by decide) (by decide)]; exact a1, ?_, by rw [e 175 (by decide) (by decide)]; exact a3, ?_, ?_⟩
  · rw [e 173 (by decide) (by decide)]; exact a2
  · unfold AM
    rw [e 176 (by decide) (by decide)]; exact a4
  · rw [e 177 (by decide) (by decide)]; exact a5
set_option maxRecDepth 100000 in
set_option maxHeartbeats 4000000 in
theorem ms_shown (hM : MdS S) {tl : Nat → List p_Li} {cnt : Nat} (hSO : SO cnt (V 171)) (hTO : ∀ i : Nat, (i : Int) < V 171 0 → TO (tl i)) (hMTs : ∀ i : Nat, (i : Int) < V 171 0 → MT V i (tl i)) {x : Int} (hx : (-2147483648 ≤ x ∧ x < 2147483648)) {y : Int} (hy : (-2147483648 ≤ y ∧ y < 2147483648)) {n : Int} (hn : (-2147483648 ≤ n ∧ n < 2147483648)) {d : Int} (hd : (-2147483648 ≤ d ∧ d < 2147483648)) {i : Int} (hi : (-2147483648 ≤ i ∧ i < 2147483648)) (k0 : ¬ ((0 ≤ x ∧ x < V 171 0) ∧ (0 ≤ y ∧ y ≤ 4) ∧ -2 ≤ i) → K u w (some (iv (-1))) S V) (k1 : ((0 ≤ x ∧ x < V 171 0) ∧ (0 ≤ y ∧ y ≤ 4) ∧ -2 ≤ i) → ¬ ((0 ≤ n ∧ n ≤ 99) ∧ (1 ≤ d ∧ d ≤ 3)) → K u w (some (iv (-2))) S V) (k2 : ∀ al : Nat, ((0 ≤ x ∧ x < V 171 0) ∧ (0 ≤ y ∧ y ≤ 4) ∧ -2 ≤ i) → ((0 ≤ n ∧ n ≤ 99) ∧ (1 ≤ d ∧ d ≤ 3)) → V 171 5 = (al : Int) → ∀ dn : Nat, d = (dn : Int) → ∀ l v, resP (brkV y n (V 171) (fun _ => tl x.toNat) 1 al) al dn l v → ∀ V2, FrX V V2 → K u w (some (iv (shA al l v i))) S V2) : y_R X 11 160 u w [.ref 170, iv x, iv y, iv n, iv d, iv i] S V K := by
  have hsz := hSO.1
  have hT : 0 ≤ V 171 0 ∧ V 171 0 ≤ 8 := by omega
  obtain ⟨al, hal⟩ : ∃ al : Nat, V 171 5 = (al : Int) := ⟨(V 171 5).toNat, by omega⟩
  have hal5 : al ≤ 5 := by omega
  have hlt : ∀ q : Nat, q < al → pkO (V 171 (1770 + 4 * q)) (V 171 (1770 + 4 * q + 1)) (V 171 (1770 + 4 * q + 2)) (V 171 (1770 + 4 * q + 3)) := fun q hq => hSO.2.2.2.2.2.2 q (by omega)
  refine y_ent (lv' := [(0, .ref 170), (1, iv x), (2, iv y), (3, iv n), (4, iv d), (5, iv i)]) (Nat.le_of_ble_eq_true rfl) rfl ?_
  refine y_ld (x := .ref 170) rfl rfl (fun d => rfl) ?_
  refine y_ld (x := iv x) rfl rfl (fun d => rfl) ?_
  refine y_cV (as := [.ref 170, iv x]) rfl rfl rfl rfl rfl (md170 hM) ⟨rfl, (Nat.le_of_ble_eq_true rfl), (Nat.le_of_ble_eq_true rfl)⟩ (by decide) (ct_isText hM (by omega) ⟨rfl, by omega⟩ ?_)
  refine y_nv ?_
  refine y_beq rfl rfl rfl (fun g1 => ?_) (fun g1 => ?_)
  · refine y_ic rfl rfl ?_
    refine y_rI rfl (Or.inl rfl) ?_
    exact k0 (by omega)
  · refine y_ld (x := iv y) rfl rfl (fun d => rfl) ?_
    refine y_ic rfl rfl ?_
    refine y_ic rfl rfl ?_
    refine y_cS (as := [iv y, iv 0, iv 4]) rfl (by decide) rfl rfl rfl rfl ⟨(Nat.le_of_ble_eq_true rfl), (Nat.le_of_ble_eq_true rfl)⟩ (by decide) (ct_in (by omega) ?_)
    refine y_nv ?_
    refine y_beq rfl rfl rfl (fun g2 => ?_) (fun g2 => ?_)
    · refine y_ic rfl rfl ?_
      refine y_rI rfl (Or.inl rfl) ?_
      exact k0 (by omega)
    · refine y_ld (x := iv i) rfl rfl (fun d => rfl) ?_
      refine y_bi rfl rfl (by decide) ?_
      refine y_jge rfl rfl rfl (by omega) (fun g3 => ?_) (fun g3 => ?_)
      · refine y_ld (x := iv n) rfl rfl (fun d => rfl) ?_
        refine y_ic rfl rfl ?_
        refine y_bi rfl rfl (by decide) ?_
        refine y_cS (as := [iv n, iv 0, iv 99]) rfl (by decide) rfl rfl rfl rfl ⟨(Nat.le_of_ble_eq_true rfl), (Nat.le_of_ble_eq_true rfl)⟩ (by decide) (ct_in (by omega) ?_)
        refine y_nv ?_
        refine y_beq rfl rfl rfl (fun g4 => ?_) (fun g4 => ?_)
        · refine y_bi rfl rfl (by decide) ?_
          refine y_rI rfl (Or.inl rfl) ?_
          exact k1 (by omega) (by omega)
        · refine y_ld (x := iv d) rfl rfl (fun d => rfl) ?_
          refine y_ic rfl rfl ?_
          refine y_ic rfl rfl ?_
          refine y_cS (as := [iv d, iv 1, iv 3]) rfl (by decide) rfl rfl rfl rfl ⟨(Nat.le_of_ble_eq_true rfl), (Nat.le_of_ble_eq_true rfl)⟩ (by decide) (ct_in (by omega) ?_)
          refine y_nv ?_
          refine y_bne rfl rfl rfl (fun g5 => ?_) (fun g5 => ?_)
          · refine y_ld (x := .ref 170) rfl rfl (fun d => rfl) ?_
            refine y_ic rfl rfl ?_
            refine y_pI (i := 27) rfl rfl rfl (md170 hM) rfl rfl ?_
            refine y_ld (x := .ref 170) rfl rfl (fun d => rfl) ?_
            refine y_gR (i := 26) rfl rfl rfl (md170 hM) rfl ?_
            refine y_ic rfl rfl ?_
            refine y_ld (x := iv x) rfl rfl (fun d => rfl) ?_
            refine y_ist (q := 0) rfl rfl (md182 hM) (by decide) (by decide) rfl ?_
            obtain ⟨dn, rfl⟩ : ∃ dn : Nat, d = (dn : Int) := ⟨d.toNat, by omega⟩
            have hl := hTO x.toNat (by omega)
            have hMx := hMTs x.toNat (by omega)
            have e171 : (v_up (v_up V 170 27 1) 182 0 x) 171 = V 171 := (v_up_ne (by decide)).trans (v_up_ne (by decide))
            have hth : ThM (v_up (v_up V 170 27 1) 182 0 x) 1 (fun _ => tl x.toNat) := ThM_1 hMx (by omega) (by omega)
            have hfx0 : FrX V (v_up (v_up V 170 27 1) 182 0 x) := ⟨fun k hk => by rw [v_up_ne (by omega), v_up_ne (by omega)], fun i hi => by rw [v_up_ne (by decide), v_up_ni (by omega)]⟩
            refine y_ld (x := .ref 170) rfl rfl (fun d => rfl) ?_
            refine y_ld (x := iv y) rfl rfl (fun d => rfl) ?_
            refine y_ld (x := iv n) rfl rfl (fun d => rfl) ?_
            refine y_ld (x := iv (dn : Int)) rfl rfl (fun d => rfl) ?_
            refine y_cV (as := [.ref 170, iv y, iv n, iv (dn : Int)]) rfl rfl rfl rfl rfl (md170 hM) ⟨rfl, (Nat.le_of_ble_eq_true rfl), (Nat.le_of_ble_eq_true rfl)⟩ (by decide) (ct_breach (V := (v_up (v_up V 170 27 1) 182 0 x)) (al := al) (ts := fun _ => tl x.toNat) hM (by decide) (fun i _ => hl) hal5 (by rw [e171]; exact hlt) (by omega) (by omega) (by rw [e171]; exact hal) hth (by omega) (fun l v V2 q1 q2 q3 q4 => ?_) (fun q2 V2 q4 => ?_))
            · rw [e171] at q2
              have hres : resP (brkV y n (V 171) (fun _ => tl x.toNat) 1 al) al dn l v := Or.inl ⟨q1, q2⟩
              have hfx := FrX_tr hfx0 (FrX_B q4)
              have hl3 : l ≤ 3 := by omega
              have hl1 := q2.1
              refine y_nv ?_
              refine y_st (lv' := [(6, iv (l : Int)), (0, .ref 170), (1, iv x), (2, iv y), (3, iv n), (4, iv (dn : Int)), (5, iv i)]) rfl rfl (fun d => rfl) ?_
              refine y_ld (x := iv i) rfl rfl (fun d => rfl) ?_
              refine y_zge rfl rfl rfl (by omega) (fun g6 => ?_) (fun g6 => ?_)
              · refine y_ld (x := iv i) rfl rfl (fun d => rfl) ?_
                refine y_ld (x := iv (l : Int)) rfl rfl (fun d => rfl) ?_
                refine y_jge rfl rfl rfl (by omega) (fun g7 => ?_) (fun g7 => ?_)
                · refine y_ic rfl rfl ?_
                  refine y_rI rfl (Or.inl rfl) ?_
                  have k3 := k2 al (by omega) (by omega) hal dn rfl l v hres V2 hfx
                  have e9 : shA al l v i = -1 := by
                    unfold shA
                    rw [if_neg (by omega), if_neg (by omega), if_neg (by omega)]
                  rwa [e9] at k3
                · refine y_ld (x := .ref 170) rfl rfl (fun d => rfl) ?_
                  refine y_gR (i := 24) rfl rfl rfl (md170 hM) rfl ?_
                  refine y_ld (x := iv i) rfl rfl (fun d => rfl) ?_
                  refine y_ild (x := ((v / al ^ (l - 1 - i.toNat) % al : Nat) : Int)) (q := i.toNat) rfl rfl (md180 hM) (by omega) (by decide) (by omega) (q3 i.toNat (by omega)) ?_
                  refine y_go rfl rfl ?_
                  refine y_rI rfl (Or.inl rfl) ?_
                  have k3 := k2 al (by omega) (by omega) hal dn rfl l v hres V2 hfx
                  have e9 : shA al l v i = ((v / al ^ (l - 1 - i.toNat) % al : Nat) : Int) := by
                    unfold shA
                    rw [if_neg (by omega), if_neg (by omega), if_pos (by omega)]
                  rwa [e9] at k3
              · refine y_ld (x := iv i) rfl rfl (fun d => rfl) ?_
                refine y_bi rfl rfl (by decide) ?_
                refine y_jne rfl rfl rfl (by omega) (fun g8 => ?_) (fun g8 => ?_)
                · refine y_ld (x := iv (l : Int)) rfl rfl (fun d => rfl) ?_
                  refine y_zne rfl rfl rfl (by omega) (fun g9 => ?_) (fun g9 => absurd g9 (by omega))
                  refine y_ic rfl rfl ?_
                  refine y_rI rfl (Or.inl rfl) ?_
                  have k3 := k2 al (by omega) (by omega) hal dn rfl l v hres V2 hfx
                  have e9 : shA al l v i = 0 := by
                    unfold shA
                    rw [if_pos (by omega), if_neg (by omega)]
                  rwa [e9] at k3
                · refine y_ld (x := iv (l : Int)) rfl rfl (fun d => rfl) ?_
                  refine y_go rfl rfl ?_
                  refine y_rI rfl (Or.inl rfl) ?_
                  have k3 := k2 al (by omega) (by omega) hal dn rfl l v hres V2 hfx
                  have e9 : shA al l v i = (l : Int) := by
                    unfold shA
                    rw [if_neg (by omega), if_pos (by omega)]
                  rwa [e9] at k3
            · rw [e171] at q2
              have hres : resP (brkV y n (V 171) (fun _ => tl x.toNat) 1 al) al dn 0 0 := Or.inr ⟨rfl, rfl, q2⟩
              have hfx := FrX_tr hfx0 (FrX_B q4)
              refine y_nv ?_
              refine y_st (lv' := [(6, iv 0), (0, .ref 170), (1, iv x), (2, iv y), (3, iv n), (4, iv (dn : Int)), (5, iv i)]) rfl rfl (fun d => rfl) ?_
              refine y_ld (x := iv i) rfl rfl (fun d => rfl) ?_
              refine y_zge rfl rfl rfl (by omega) (fun g10 => ?_) (fun g10 => ?_)
              · refine y_ld (x := iv i) rfl rfl (fun d => rfl) ?_
                refine y_ld (x := iv 0) rfl rfl (fun d => rfl) ?_
                refine y_jge rfl rfl rfl (by omega) (fun g11 => ?_) (fun g11 => absurd g11 (by omega))
                refine y_ic rfl rfl ?_
                refine y_rI rfl (Or.inl rfl) ?_
                have k3 := k2 al (by omega) (by omega) hal dn rfl 0 0 hres V2 hfx
                have e9 : shA al 0 0 i = -1 := by
                  unfold shA
                  rw [if_neg (by omega), if_neg (by omega), if_neg (by omega)]
                rwa [e9] at k3
              · refine y_ld (x := iv i) rfl rfl (fun d => rfl) ?_
                refine y_bi rfl rfl (by decide) ?_
                refine y_jne rfl rfl rfl (by omega) (fun g12 => ?_) (fun g12 => ?_)
                · refine y_ld (x := iv 0) rfl rfl (fun d => rfl) ?_
                  refine y_zne rfl rfl rfl (by decide) (fun g13 => absurd g13 (by decide)) (fun g13 => ?_)
                  refine y_ic rfl rfl ?_
                  refine y_go rfl rfl ?_
                  refine y_rI rfl (Or.inl rfl) ?_
                  have k3 := k2 al (by omega) (by omega) hal dn rfl 0 0 hres V2 hfx
                  have e9 : shA al 0 0 i = 1 := by
                    unfold shA
                    rw [if_pos (by omega), if_pos (by omega)]
                  rwa [e9] at k3
                · refine y_ld (x := iv 0) rfl rfl (fun d => rfl) ?_
                  refine y_go rfl rfl ?_
                  refine y_rI rfl (Or.inl rfl) ?_
                  have k3 := k2 al (by omega) (by omega) hal dn rfl 0 0 hres V2 hfx
                  have e9 : shA al 0 0 i = 0 := by
                    unfold shA
                    rw [if_neg (by omega), if_pos (by omega)]
                    rfl
                  rwa [e9] at k3
          · refine y_bi rfl rfl (by decide) ?_
            refine y_rI rfl (Or.inl rfl) ?_
            exact k1 (by omega) (by omega)
      · refine y_ic rfl rfl ?_
        refine y_rI rfl (Or.inl rfl) ?_
        exact k0 (by omega)
set_option maxRecDepth 100000 in
set_option maxHeartbeats 4000000 in
theorem lp_lastBy (hM : MdS S) {t : List p_Li} (hl : TO t) {al : Nat} (hal : 0 < al ∧ al ≤ 5) (hlt : ∀ q : Nat, q < al → pkO (V 171 (1770 + 4 * q)) (V 171 (1770 + 4 * q + 1)) (V 171 (1770 + 4 * q + 2)) (V 171 (1770 + 4 * q + 3))) {L v : Nat} (hL : L ≤ 3) {v1 : Int} {F : Nat} : ∀ (m : Nat) (k : Nat) (e : Int) (W : v_V), L - k < m → (k ≤ L) → (FrX V W) → (ThM W 1 (fun _ => t)) → (W 170 21 = 1) → (WdM W al L v) → (∀ q : Nat, q < 1 → ∀ p : Nat, p < 84 → zm (W 178) (84 * q) p = (wdS 0 (V 171) (fun _ => t) 1 al k (v / al ^ (L - k))).1 q p) → (k = 0 → e = 1) → (∀ j, k = j + 1 → e = howV 0 (V 171) (fun _ => t) 1 al j (v / al ^ (L - 1 - j))) → (∀ W : v_V, FrX V W → WdM W al L v → K u w (some (iv (lastH (V 171) t al L v))) S W) → y_E X 8 161 (80 * m + F) u w 21 [(0, .ref 170), (1, iv v1), (2, iv (L : Int)), (3, iv e), (4, iv (k : Int))] [] S W K := by
  intro m
  induction m with
  | zero => intros; omega
  | succ m ih =>
    intro k e W hm hI hF hTh h21 hWd hMm he0 he1 hx2
    refine y_mono (F' := (80 * m + F) + 80) ?_ (by omega)
    refine y_ld (x := iv (k : Int)) rfl rfl (fun d => rfl) ?_
    refine y_ld (x := iv (L : Int)) rfl rfl (fun d => rfl) ?_
    refine y_jge rfl rfl rfl (by omega) (fun g1 => ?_) (fun g1 => ?_)
    · refine y_ld (x := iv e) rfl rfl (fun d => rfl) ?_
      refine y_rI rfl (Or.inl rfl) ?_
      obtain rfl : k = L := by omega
      have e9 : lastH (V 171) t al k v = e := by
        rcases k with _ | j
        · exact (he0 rfl).symm
        · have := he1 j rfl
          rw [show j + 1 - 1 - j = 0 by omega, Nat.pow_zero, Nat.div_one] at this
          exact this.symm
      have := hx2 W hF hWd
      rwa [e9] at this
    · have hkL : k < L := by omega
      have e171 : W 171 = V 171 := hF.1 171 (by omega)
      have e180 : W 180 k = (((v / al ^ (L - 1 - k)) % al : Nat) : Int) := hWd k hkL
      have hca : (v / al ^ (L - 1 - k)) % al < al := Nat.mod_lt _ hal.1
      have hpk := hlt _ hca
      have eq := wd_q (v := v) (a := al) hkL
      rw [← eq] at hMm
      have hwo := wdS_ok (form := 0) (ts := fun _ => t) (m := 1) hlt hal.1 k ((v / al ^ (L - 1 - k)) / al)
      refine y_ld (x := .ref 170) rfl rfl (fun d => rfl) ?_
      refine y_ld (x := .ref 170) rfl rfl (fun d => rfl) ?_
      refine y_gR (i := 24) rfl rfl rfl (md170 hM) rfl ?_
      refine y_ld (x := iv (k : Int)) rfl rfl (fun d => rfl) ?_
      refine y_ild (x := (((v / al ^ (L - 1 - k)) % al : Nat) : Int)) (q := k) rfl rfl (md180 hM) (by omega) (by decide) (by omega) e180 ?_
      refine y_cV (as := [.ref 170, iv (((v / al ^ (L - 1 - k)) % al : Nat) : Int)]) rfl rfl rfl rfl rfl (md170 hM) ⟨rfl, (Nat.le_of_ble_eq_true rfl), (Nat.le_of_ble_eq_true rfl)⟩ (by decide) (ct_tries (tm := 1) (ts := fun _ => t) (c := (v / al ^ (L - 1 - k)) % al) hM (by decide) (fun _ _ => hl) hwo.1 (by omega) (by rw [e171]; exact hpk) hTh h21 hMm (fun W2 a1 a2 a3 a4 => ?_))
      rw [e171] at a1 a3
      rw [e171]
      refine y_nv ?_
      refine y_st (lv' := [(3, iv (howV 0 (V 171) (fun _ => t) 1 al k (v / al ^ (L - 1 - k)))), (0, .ref 170), (1, iv v1), (2, iv (L : Int)), (4, iv (k : Int))]) rfl rfl (fun d => rfl) ?_
      refine y_inc (z := ((k + 1 : Nat) : Int)) (lv' := [(4, iv ((k + 1 : Nat) : Int)), (3, iv (howV 0 (V 171) (fun _ => t) 1 al k (v / al ^ (L - 1 - k)))), (0, .ref 170), (1, iv v1), (2, iv (L : Int))]) rfl rfl rfl (by omega) rfl ?_
      refine y_go rfl rfl ?_
      refine y_lv (l' := [(0, .ref 170), (1, iv v1), (2, iv (L : Int)), (3, iv (howV 0 (V 171) (fun _ => t) 1 al k (v / al ^ (L - 1 - k)))), (4, iv ((k + 1 : Nat) : Int))]) rfl ⟨rfl, rfl, rfl, rfl, rfl, trivial⟩ ?_
      refine y_mono (ih (k + 1) _ W2 (by omega) (by omega) (FrX_tr hF (FrX_B (FrB_K (FrK_T a2)))) (ThM_B hTh (FrB_K (FrK_T a2))) a4 (fun k2 hk2 => by rw [a2.1 180 (by decide) (by decide) (by decide)]; exact hWd k2 hk2) (fun q hq p hp => ?_) (fun q => absurd q (by omega)) (fun j hj => ?_) hx2) (by omega)
      · rw [a1 q hq p hp, show L - (k + 1) = L - 1 - k by omega, wdS_m (by decide)]
      · obtain rfl : j = k := by omega
        rfl
set_option maxRecDepth 100000 in
set_option maxHeartbeats 4000000 in
theorem ct_lastBy (hM : MdS S) {t : List p_Li} (hl : TO t) {al : Nat} (hal : 0 < al ∧ al ≤ 5) (hlt : ∀ q : Nat, q < al → pkO (V 171 (1770 + 4 * q)) (V 171 (1770 + 4 * q + 1)) (V 171 (1770 + 4 * q + 2)) (V 171 (1770 + 4 * q + 3))) {L v : Nat} (hL : L ≤ 3) {x : Nat} (hx8 : x < 8) (hMT : MT V x t) (hWd : WdM V al L v) (k : ∀ W : v_V, FrX V W → WdM W al L v → K u w (some (iv (lastH (V 171) t al L v))) S W) : y_R X 9 161 u w [.ref 170, iv (x : Int), iv (L : Int)] S V K := by
  refine y_ent (lv' := [(0, .ref 170), (1, iv (x : Int)), (2, iv (L : Int))]) (Nat.le_of_ble_eq_true rfl) rfl ?_
  refine y_ld (x := .ref 170) rfl rfl (fun d => rfl) ?_
  refine y_ic rfl rfl ?_
  refine y_pI (i := 27) rfl rfl rfl (md170 hM) rfl rfl ?_
  refine y_ld (x := .ref 170) rfl rfl (fun d => rfl) ?_
  refine y_gR (i := 26) rfl rfl rfl (md170 hM) rfl ?_
  refine y_ic rfl rfl ?_
  refine y_ld (x := iv (x : Int)) rfl rfl (fun d => rfl) ?_
  refine y_ist (q := 0) rfl rfl (md182 hM) (by decide) (by decide) rfl ?_
  refine y_ld (x := .ref 170) rfl rfl (fun d => rfl) ?_
  have hth : ThM (v_up (v_up V 170 27 1) 182 0 (x : Int)) 1 (fun _ => t) := ThM_1 (by rw [Int.toNat_natCast]; exact hMT) (by omega) (by omega)
  refine y_cV (as := [.ref 170]) rfl rfl rfl rfl rfl (md170 hM) ⟨rfl, (Nat.le_of_ble_eq_true rfl), (Nat.le_of_ble_eq_true rfl)⟩ (by decide) (ct_empties (tm := 1) hM hth.1 (by decide) ?_)
  refine y_n0 ?_
  refine y_ic rfl rfl ?_
  refine y_st (lv' := [(3, iv 1), (0, .ref 170), (1, iv (x : Int)), (2, iv (L : Int))]) rfl rfl (fun d => rfl) ?_
  refine y_ic rfl rfl ?_
  refine y_st (lv' := [(4, iv 0), (3, iv 1), (0, .ref 170), (1, iv (x : Int)), (2, iv (L : Int))]) rfl rfl (fun d => rfl) ?_
  refine y_lv (l' := [(0, .ref 170), (1, iv (x : Int)), (2, iv (L : Int)), (3, iv 1), (4, iv ((0 : Nat) : Int))]) rfl ⟨rfl, rfl, rfl, rfl, rfl, trivial⟩ ?_
  have hfb : FrB (v_up (v_up V 170 27 1) 182 0 (x : Int)) (v_ur (v_up (v_up (v_up V 170 27 1) 182 0 (x : Int)) 170 21 1) 178 (fun q => if q < 84 * 1 then 0 else (v_up (v_up V 170 27 1) 182 0 (x : Int)) 178 q)) := ⟨fun k q1 q2 _ _ _ => by rw [v_ur_ne q2, v_up_ne q1], fun i hi => by rw [v_ur_ne (by decide), v_up_ni (by omega)]⟩
  have hfx0 : FrX V (v_up (v_up V 170 27 1) 182 0 (x : Int)) := ⟨fun k hk => by rw [v_up_ne (by omega), v_up_ne (by omega)], fun i hi => by rw [v_up_ne (by decide), v_up_ni (by omega)]⟩
  exact y_mono (lp_lastBy (V := V) (F := 100) hM hl hal hlt hL 4 0 1 (v_ur (v_up (v_up (v_up V 170 27 1) 182 0 (x : Int)) 170 21 1) 178 (fun q => if q < 84 * 1 then 0 else (v_up (v_up V 170 27 1) 182 0 (x : Int)) 178 q)) (by omega) (by omega) (FrX_tr hfx0 (FrX_B hfb)) (ThM_B hth hfb) (by rw [v_ur_ne (by decide)]; exact v_up_eq _ _ _ _) (fun k hk => by rw [v_ur_ne (by decide), v_up_ne (by decide), v_up_ne (by decide), v_up_ne (by decide)]; exact hWd k hk) (fun q hq p hp => by rw [v_ur_eq]; exact if_pos (by omega)) (fun _ => rfl) (fun j hj => absurd hj (by omega)) k) (by decide)
end
end
section
/-! ways: the reference -/
/-- two TEXTS end a row's last packet in other ways -/
def wyH (σ : Nat → Int) (tx ty : List p_Li) (a l v : Nat) : Prop := lastH σ tx a l v ≠ lastH σ ty a l v
theorem MT_x {V V' : v_V} {i : Nat} {l : List p_Li} (h : MT V i l) (e : ∀ k, 173 ≤ k → k ≤ 177 → V' k = V k) : MT V' i l := by
  obtain ⟨a1, a2, a3, a4, a5⟩ := h
  refine ⟨by rw [e 174 (by decide) (by decide)]; exact a1, ?_, by rw [e 175 (by decide) (by decide)]; exact a3, ?_, ?_⟩
  · rw [e 173 (by decide) (by decide)]; exact a2
  · unfold AM
    rw [e 176 (by decide) (by decide)]; exact a4
  · rw [e 177 (by decide) (by decide)]; exact a5
theorem lastH_rg {σ : Nat → Int} {t : List p_Li} {a : Nat} (hl : ∀ q : Nat, q < a → pkO (σ (1770 + 4 * q)) (σ (1770 + 4 * q + 1)) (σ (1770 + 4 * q + 2)) (σ (1770 + 4 * q + 3))) (ha : 0 < a) : ∀ (j v : Nat), 0 ≤ lastH σ t a j v ∧ lastH σ t a j v ≤ 2
  | 0, _ => ⟨by show (0 : Int) ≤ 1; decide, by show (1 : Int) ≤ 2; decide⟩
  | j + 1, v => by
    unfold lastH howV
    exact hwP_rg (m := 1) (fun i hi => (wdS_ok (form := 0) (ts := fun _ => t) (m := 1) hl ha j (v / a)).1 i hi) 1 (by decide)
section
variable {X : Nat → List Int32} {u w : Nat} {S : m_H} {V : v_V} {K : v_K}
set_option maxRecDepth 100000 in
set_option maxHeartbeats 4000000 in
theorem lp_wyl (hM : MdS S) {tx ty : List p_Li} (hlx : TO tx) (hly : TO ty) {al : Nat} (hal : 0 < al ∧ al ≤ 5) (hlt : ∀ q : Nat, q < al → pkO (V 171 (1770 + 4 * q)) (V 171 (1770 + 4 * q + 1)) (V 171 (1770 + 4 * q + 2)) (V 171 (1770 + 4 * q + 3))) (h5 : V 171 5 = (al : Int)) {x y : Nat} (hx8 : x < 8) (hy8 : y < 8) (hMx : MT V x tx) (hMy : MT V y ty) {i : Int} (hi : -1 ≤ i ∧ i ≤ 2147483647) {l d : Nat} (hl1 : 1 ≤ l) (hl3 : l ≤ 3) {F : Nat} : ∀ (m : Nat) (v : Nat) (W : v_V), al ^ l - v < m → (v < al ^ l) → (FrX V W) → (WdM W al l v) → (∀ v2, v2 < v → ¬ wyH (V 171) tx ty al l v2) → (∀ v V2, v < al ^ l → wyH (V 171) tx ty al l v → (∀ v2, v2 < v → ¬ wyH (V 171) tx ty al l v2) → FrX V V2 → K u w (some (iv (wyA al l v i))) S V2) → (∀ V2, (∀ v2, v2 < al ^ l → ¬ wyH (V 171) tx ty al l v2) → FrX V V2 → y_E X 9 162 F u w 143 [(0, .ref 170), (1, iv (x : Int)), (2, iv (y : Int)), (3, iv (d : Int)), (4, iv i), (5, iv (l : Int))] [] S V2 K) → y_E X 9 162 (100 * m + F) u w 80 [(0, .ref 170), (1, iv (x : Int)), (2, iv (y : Int)), (3, iv (d : Int)), (4, iv i), (5, iv (l : Int)), (6, iv 1)] [] S W K := by
  intro m
  induction m with
  | zero => intros; omega
  | succ m ih =>
    intro v W hm hv hF hWd hJ hx1 hx2
    refine y_mono (F' := (100 * m + F) + 100) ?_ (by omega)
    refine y_ld (x := iv 1) rfl rfl (fun d => rfl) ?_
    refine y_zeq rfl rfl rfl (by decide) (fun g1 => absurd g1 (by decide)) (fun g1 => ?_)
    refine y_ld (x := .ref 170) rfl rfl (fun d => rfl) ?_
    refine y_ld (x := iv (x : Int)) rfl rfl (fun d => rfl) ?_
    refine y_ld (x := iv (l : Int)) rfl rfl (fun d => rfl) ?_
    have e171 : W 171 = V 171 := hF.1 171 (by omega)
    refine y_cV (as := [.ref 170, iv (x : Int), iv (l : Int)]) rfl rfl rfl rfl rfl (md170 hM) ⟨rfl, (Nat.le_of_ble_eq_true rfl), (Nat.le_of_ble_eq_true rfl)⟩ (by decide) (ct_lastBy (V := W) hM hlx hal (by rw [e171]; exact hlt) (by omega) hx8 (MT_x hMx (fun k q q2 => hF.1 k (by omega))) hWd (fun W1 f1 w1 => ?_))
    rw [e171]
    have rg1 := lastH_rg (t := tx) hlt hal.1 l v
    have rg2 := lastH_rg (t := ty) hlt hal.1 l v
    have hF1 := FrX_tr hF f1
    have e1 : W1 171 = V 171 := hF1.1 171 (by omega)
    refine y_nv ?_
    refine y_ld (x := .ref 170) rfl rfl (fun d => rfl) ?_
    refine y_ld (x := iv (y : Int)) rfl rfl (fun d => rfl) ?_
    refine y_ld (x := iv (l : Int)) rfl rfl (fun d => rfl) ?_
    refine y_cV (as := [.ref 170, iv (y : Int), iv (l : Int)]) rfl rfl rfl rfl rfl (md170 hM) ⟨rfl, (Nat.le_of_ble_eq_true rfl), (Nat.le_of_ble_eq_true rfl)⟩ (by decide) (ct_lastBy (V := W1) hM hly hal (by rw [e1]; exact hlt) (by omega) hy8 (MT_x hMy (fun k q q2 => hF1.1 k (by omega))) w1 (fun W2 f2 w2 => ?_))
    rw [e1]
    have hF2 := FrX_tr hF1 f2
    refine y_nv ?_
    refine y_jeq rfl rfl rfl (by omega) (fun g2 => ?_) (fun g2 => ?_)
    · refine y_ld (x := .ref 170) rfl rfl (fun d => rfl) ?_
      refine y_ld (x := iv (l : Int)) rfl rfl (fun d => rfl) ?_
      have hnH : ¬ wyH (V 171) tx ty al l v := fun q => q (by omega)
      have e5 : W2 171 5 = (al : Int) := by rw [hF2.1 171 (by omega)]; exact h5
      refine y_cV (as := [.ref 170, iv (l : Int)]) rfl rfl rfl rfl rfl (md170 hM) ⟨rfl, (Nat.le_of_ble_eq_true rfl), (Nat.le_of_ble_eq_true rfl)⟩ (by decide) (ct_next (v := v) hM ⟨hl1, hl3⟩ hal e5 hv w2 (fun hvn V3 w3 f3 => ?_) (fun hvn V3 f3 => ?_))
      · refine y_nv ?_
        refine y_st (lv' := [(6, iv 1), (0, .ref 170), (1, iv (x : Int)), (2, iv (y : Int)), (3, iv (d : Int)), (4, iv i), (5, iv (l : Int))]) rfl rfl (fun d => rfl) ?_
        refine y_go rfl rfl ?_
        refine y_lv (l' := [(0, .ref 170), (1, iv (x : Int)), (2, iv (y : Int)), (3, iv (d : Int)), (4, iv i), (5, iv (l : Int)), (6, iv 1)]) rfl ⟨rfl, rfl, rfl, rfl, rfl, rfl, rfl, trivial⟩ ?_
        refine y_mono (ih (v + 1) V3 (by omega) hvn (FrX_tr hF2 (FrX_B (FrB_w f3))) w3 (fun v2 h2 => ?_) hx1 hx2) (by omega)
        rcases (show v2 < v ∨ v2 = v by omega) with h7 | h7
        · exact hJ v2 h7
        · rw [h7]; exact hnH
      · refine y_nv ?_
        refine y_st (lv' := [(6, iv 0), (0, .ref 170), (1, iv (x : Int)), (2, iv (y : Int)), (3, iv (d : Int)), (4, iv i), (5, iv (l : Int))]) rfl rfl (fun d => rfl) ?_
        refine y_go rfl rfl ?_
        refine y_ld (x := iv 0) rfl rfl (fun d => rfl) ?_
        refine y_zeq rfl rfl rfl (by decide) (fun gz => ?_) (fun gz => absurd rfl gz)
        refine y_lv (l' := [(0, .ref 170), (1, iv (x : Int)), (2, iv (y : Int)), (3, iv (d : Int)), (4, iv i), (5, iv (l : Int))]) rfl ⟨rfl, rfl, rfl, rfl, rfl, rfl, trivial⟩ ?_
        refine y_mono (hx2 V3 (fun v2 h2 => ?_) (FrX_tr hF2 (FrX_B (FrB_w f3)))) (by omega)
        rcases (show v2 < v ∨ v2 = v by omega) with h7 | h7
        · exact hJ v2 h7
        · rw [h7]; exact hnH
    · refine y_ld (x := iv i) rfl rfl (fun d => rfl) ?_
      refine y_ic rfl rfl ?_
      refine y_jne rfl rfl rfl (by omega) (fun g3 => ?_) (fun g3 => ?_)
      · refine y_ld (x := iv i) rfl rfl (fun d => rfl) ?_
        refine y_ld (x := iv (l : Int)) rfl rfl (fun d => rfl) ?_
        refine y_jge rfl rfl rfl (by omega) (fun g4 => ?_) (fun g4 => ?_)
        · refine y_ic rfl rfl ?_
          refine y_rI rfl (Or.inl rfl) ?_
          have hH : wyH (V 171) tx ty al l v := by unfold wyH; omega
          have e9 : wyA al l v i = -1 := by
            unfold wyA
            rw [if_neg (by omega), if_neg (by omega)]
          have k3 := hx1 v W2 hv hH hJ hF2
          rwa [e9] at k3
        · refine y_ld (x := .ref 170) rfl rfl (fun d => rfl) ?_
          refine y_gR (i := 24) rfl rfl rfl (md170 hM) rfl ?_
          refine y_ld (x := iv i) rfl rfl (fun d => rfl) ?_
          refine y_ild (x := ((v / al ^ (l - 1 - i.toNat) % al : Nat) : Int)) (q := i.toNat) rfl rfl (md180 hM) (by omega) (by decide) (by omega) (w2 i.toNat (by omega)) ?_
          refine y_go rfl rfl ?_
          refine y_rI rfl (Or.inl rfl) ?_
          have hH : wyH (V 171) tx ty al l v := by unfold wyH; omega
          have e9 : wyA al l v i = ((v / al ^ (l - 1 - i.toNat) % al : Nat) : Int) := by
            unfold wyA
            rw [if_neg (by omega), if_pos (by omega)]
          have k3 := hx1 v W2 hv hH hJ hF2
          rwa [e9] at k3
      · refine y_ld (x := iv (l : Int)) rfl rfl (fun d => rfl) ?_
        refine y_go rfl rfl ?_
        refine y_rI rfl (Or.inl rfl) ?_
        have hH : wyH (V 171) tx ty al l v := by unfold wyH; omega
        have e9 : wyA al l v i = (l : Int) := by
          unfold wyA
          rw [if_pos (by omega)]
        have k3 := hx1 v W2 hv hH hJ hF2
        rwa [e9] at k3
set_option maxRecDepth 100000 in
set_option maxHeartbeats 4000000 in
theorem lp_ways (hM : MdS S) {tx ty : List p_Li} (hlx : TO tx) (hly : TO ty) {al : Nat} (hal5 : al ≤ 5) (hlt : ∀ q : Nat, q < al → pkO (V 171 (1770 + 4 * q)) (V 171 (1770 + 4 * q + 1)) (V 171 (1770 + 4 * q + 2)) (V 171 (1770 + 4 * q + 3))) (h5 : V 171 5 = (al : Int)) {x y : Nat} (hx8 : x < 8) (hy8 : y < 8) (hMx : MT V x tx) (hMy : MT V y ty) {i : Int} (hi : -1 ≤ i ∧ i ≤ 2147483647) {d : Nat} (hd : d ≤ 3) {F : Nat} : ∀ (m : Nat) (l : Nat) (W : v_V), 4 - l < m → (1 ≤ l ∧ l ≤ 4) → (FrX V W) → (∀ l2, 1 ≤ l2 → l2 < l → ∀ v2, v2 < al ^ l2 → ¬ wyH (V 171) tx ty al l2 v2) → (∀ l v V2, resP (wyH (V 171) tx ty al) al d l v → FrX V V2 → K u w (some (iv (wyA al l v i))) S V2) → y_E X 9 162 (30000 * m + F) u w 39 [(0, .ref 170), (1, iv (x : Int)), (2, iv (y : Int)), (3, iv (d : Int)), (4, iv i), (5, iv (l : Int))] [] S W K := by
  intro m
  induction m with
  | zero => intros; omega
  | succ m ih =>
    intro l W hm hI hF hJ hx1
    refine y_mono (F' := (30000 * m + F) + 30000) ?_ (by omega)
    refine y_ld (x := iv (l : Int)) rfl rfl (fun d => rfl) ?_
    refine y_ld (x := iv (d : Int)) rfl rfl (fun d => rfl) ?_
    refine y_jgt rfl rfl rfl (by omega) (fun g1 => ?_) (fun g1 => ?_)
    · refine y_ld (x := iv i) rfl rfl (fun d => rfl) ?_
      refine y_ic rfl rfl ?_
      refine y_jne rfl rfl rfl (by omega) (fun g2 => ?_) (fun g2 => ?_)
      · refine y_ic rfl rfl ?_
        refine y_rI rfl (Or.inl rfl) ?_
        have e9 : wyA al 0 0 i = -1 := by
          unfold wyA
          rw [if_neg (by omega), if_neg (by omega)]
        have k3 := hx1 0 0 W (Or.inr ⟨rfl, rfl, fun l2 h1 h2 v2 hv2 => ?_⟩) hF
        · rwa [e9] at k3
        · exact hJ l2 h1 (by omega) v2 hv2
      · refine y_ic rfl rfl ?_
        refine y_go rfl rfl ?_
        refine y_rI rfl (Or.inl rfl) ?_
        have e9 : wyA al 0 0 i = 0 := by
          unfold wyA
          rw [if_pos (by omega)]
          rfl
        have k3 := hx1 0 0 W (Or.inr ⟨rfl, rfl, fun l2 h1 h2 v2 hv2 => ?_⟩) hF
        · rwa [e9] at k3
        · exact hJ l2 h1 (by omega) v2 hv2
    · have hdl : l ≤ 3 := by omega
      refine y_ld (x := .ref 170) rfl rfl (fun d => rfl) ?_
      refine y_gR (i := 1) rfl rfl rfl (md170 hM) rfl ?_
      refine y_ic rfl rfl ?_
      refine y_ild (x := (al : Int)) (q := 5) rfl rfl (md171 hM) (by decide) (by decide) rfl (by rw [hF.1 171 (by omega)]; exact h5) ?_
      refine y_zle rfl rfl rfl (by omega) (fun g3 => ?_) (fun g3 => ?_)
      · refine y_ld (x := iv i) rfl rfl (fun d => rfl) ?_
        refine y_ic rfl rfl ?_
        refine y_jne rfl rfl rfl (by omega) (fun g4 => ?_) (fun g4 => ?_)
        · refine y_ic rfl rfl ?_
          refine y_rI rfl (Or.inl rfl) ?_
          have e9 : wyA al 0 0 i = -1 := by
            unfold wyA
            rw [if_neg (by omega), if_neg (by omega)]
          have k3 := hx1 0 0 W (Or.inr ⟨rfl, rfl, fun l2 h1 h2 v2 hv2 => ?_⟩) hF
          · rwa [e9] at k3
          · have ha0 : al = 0 := by omega
            rw [ha0, Nat.zero_pow (by omega)] at hv2
            exact absurd hv2 (by omega)
        · refine y_ic rfl rfl ?_
          refine y_go rfl rfl ?_
          refine y_rI rfl (Or.inl rfl) ?_
          have e9 : wyA al 0 0 i = 0 := by
            unfold wyA
            rw [if_pos (by omega)]
            rfl
          have k3 := hx1 0 0 W (Or.inr ⟨rfl, rfl, fun l2 h1 h2 v2 hv2 => ?_⟩) hF
          · rwa [e9] at k3
          · have ha0 : al = 0 := by omega
            rw [ha0, Nat.zero_pow (by omega)] at hv2
            exact absurd hv2 (by omega)
      · have hal0 : 0 < al ∧ al ≤ 5 := by omega
        refine y_ic rfl rfl ?_
        refine y_st (lv' := [(6, iv 0), (0, .ref 170), (1, iv (x : Int)), (2, iv (y : Int)), (3, iv (d : Int)), (4, iv i), (5, iv (l : Int))]) rfl rfl (fun d => rfl) ?_
        refine y_ld (x := iv 0) rfl rfl (fun d => rfl) ?_
        refine y_ic rfl rfl ?_
        refine y_jge rfl rfl rfl (by decide) (fun g5 => absurd g5 (by decide)) (fun g5 => ?_)
        refine y_ld (x := .ref 170) rfl rfl (fun d => rfl) ?_
        refine y_gR (i := 24) rfl rfl rfl (md170 hM) rfl ?_
        refine y_ld (x := iv 0) rfl rfl (fun d => rfl) ?_
        refine y_ic rfl rfl ?_
        refine y_ist (q := 0) rfl rfl (md180 hM) (by decide) (by decide) rfl ?_
        refine y_inc (z := 1) (lv' := [(6, iv 1), (0, .ref 170), (1, iv (x : Int)), (2, iv (y : Int)), (3, iv (d : Int)), (4, iv i), (5, iv (l : Int))]) rfl rfl rfl rfl rfl ?_
        refine y_go rfl rfl ?_
        refine y_ld (x := iv 1) rfl rfl (fun d => rfl) ?_
        refine y_ic rfl rfl ?_
        refine y_jge rfl rfl rfl (by decide) (fun g6 => absurd g6 (by decide)) (fun g6 => ?_)
        refine y_ld (x := .ref 170) rfl rfl (fun d => rfl) ?_
        refine y_gR (i := 24) rfl rfl rfl (md170 hM) rfl ?_
        refine y_ld (x := iv 1) rfl rfl (fun d => rfl) ?_
        refine y_ic rfl rfl ?_
        refine y_ist (q := 1) rfl rfl (md180 hM) (by decide) (by decide) rfl ?_
        refine y_inc (z := 2) (lv' := [(6, iv 2), (0, .ref 170), (1, iv (x : Int)), (2, iv (y : Int)), (3, iv (d : Int)), (4, iv i), (5, iv (l : Int))]) rfl rfl rfl rfl rfl ?_
        refine y_go rfl rfl ?_
        refine y_ld (x := iv 2) rfl rfl (fun d => rfl) ?_
        refine y_ic rfl rfl ?_
        refine y_jge rfl rfl rfl (by decide) (fun g7 => absurd g7 (by decide)) (fun g7 => ?_)
        refine y_ld (x := .ref 170) rfl rfl (fun d => rfl) ?_
        refine y_gR (i := 24) rfl rfl rfl (md170 hM) rfl ?_
        refine y_ld (x := iv 2) rfl rfl (fun d => rfl) ?_
        refine y_ic rfl rfl ?_
        refine y_ist (q := 2) rfl rfl (md180 hM) (by decide) (by decide) rfl ?_
        refine y_inc (z := 3) (lv' := [(6, iv 3), (0, .ref 170), (1, iv (x : Int)), (2, iv (y : Int)), (3, iv (d : Int)), (4, iv i), (5, iv (l : Int))]) rfl rfl rfl rfl rfl ?_
        refine y_go rfl rfl ?_
        refine y_ld (x := iv 3) rfl rfl (fun d => rfl) ?_
        refine y_ic rfl rfl ?_
        refine y_jge rfl rfl rfl (by decide) (fun g8 => ?_) (fun g8 => absurd g8 (by decide))
        refine y_ic rfl rfl ?_
        refine y_st (lv' := [(6, iv 1), (0, .ref 170), (1, iv (x : Int)), (2, iv (y : Int)), (3, iv (d : Int)), (4, iv i), (5, iv (l : Int))]) rfl rfl (fun d => rfl) ?_
        refine y_lv (l' := [(0, .ref 170), (1, iv (x : Int)), (2, iv (y : Int)), (3, iv (d : Int)), (4, iv i), (5, iv (l : Int)), (6, iv 1)]) rfl ⟨rfl, rfl, rfl, rfl, rfl, rfl, rfl, trivial⟩ ?_
        have hfw : FrB W (v_up (v_up (v_up W 180 0 0) 180 1 0) 180 2 0) := FrB_w (fun k hk => by rw [v_up_ne hk, v_up_ne hk, v_up_ne hk])
        refine y_mono (lp_wyl (V := V) (F := 30000 * m + F + 100) hM hlx hly hal0 hlt h5 hx8 hy8 hMx hMy hi hI.1 hdl 200 0 (v_up (v_up (v_up W 180 0 0) 180 1 0) 180 2 0) ?_ (Nat.pow_pos hal0.1) (FrX_tr hF (FrX_B hfw)) (fun k hk => ?_) (fun v2 h2 => absurd h2 (by omega)) (fun v V2 q1 q2 q3 q5 => hx1 l v V2 (Or.inl ⟨by omega, hI.1, q1, q2, hJ, q3⟩) q5) (fun V2 q1 q2 => ?_)) (by omega)
        · have : al ^ l ≤ 125 := by
            rcases (show l = 1 ∨ l = 2 ∨ l = 3 by omega) with rfl | rfl | rfl <;> rcases (show al = 1 ∨ al = 2 ∨ al = 3 ∨ al = 4 ∨ al = 5 by omega) with rfl | rfl | rfl | rfl | rfl <;> decide
          omega
        · rw [Nat.zero_div, Nat.zero_mod]
          rcases (show k = 0 ∨ k = 1 ∨ k = 2 by omega) with rfl | rfl | rfl <;> rfl
        · refine y_inc (z := ((l + 1 : Nat) : Int)) (lv' := [(5, iv ((l + 1 : Nat) : Int)), (0, .ref 170), (1, iv (x : Int)), (2, iv (y : Int)), (3, iv (d : Int)), (4, iv i)]) rfl rfl rfl (by omega) rfl ?_
          refine y_go rfl rfl ?_
          refine y_lv (l' := [(0, .ref 170), (1, iv (x : Int)), (2, iv (y : Int)), (3, iv (d : Int)), (4, iv i), (5, iv ((l + 1 : Nat) : Int))]) rfl ⟨rfl, rfl, rfl, rfl, rfl, rfl, trivial⟩ ?_
          refine y_mono (ih (l + 1) V2 (by omega) (by omega) q2 (fun l2 h1 h2 v2 hv2 => ?_) hx1) (by omega)
          rcases (show l2 < l ∨ l2 = l by omega) with h7 | h7
          · exact hJ l2 h1 h7 v2 hv2
          · rw [h7] at hv2 ⊢; exact q1 v2 hv2
set_option maxRecDepth 100000 in
set_option maxHeartbeats 4000000 in
theorem ms_ways (hM : MdS S) {tl : Nat → List p_Li} {cnt : Nat} (hSO : SO cnt (V 171)) (hTO : ∀ i : Nat, (i : Int) < V 171 0 → TO (tl i)) (hMTs : ∀ i : Nat, (i : Int) < V 171 0 → MT V i (tl i)) {x : Int} (hx : (-2147483648 ≤ x ∧ x < 2147483648)) {y : Int} (hy : (-2147483648 ≤ y ∧ y < 2147483648)) {d : Int} (hd : (-2147483648 ≤ d ∧ d < 2147483648)) {i : Int} (hi : (-2147483648 ≤ i ∧ i < 2147483648)) (k0 : ¬ ((0 ≤ x ∧ x < V 171 0) ∧ (0 ≤ y ∧ y < V 171 0) ∧ -1 ≤ i) → K u w (some (iv (-1))) S V) (k1 : ((0 ≤ x ∧ x < V 171 0) ∧ (0 ≤ y ∧ y < V 171 0) ∧ -1 ≤ i) → ¬ (1 ≤ d ∧ d ≤ 3) → K u w (some (iv (-2))) S V) (k2 : ∀ al : Nat, ((0 ≤ x ∧ x < V 171 0) ∧ (0 ≤ y ∧ y < V 171 0) ∧ -1 ≤ i) → (1 ≤ d ∧ d ≤ 3) → V 171 5 = (al : Int) → ∀ xn : Nat, x = (xn : Int) → ∀ yn : Nat, y = (yn : Int) → ∀ dn : Nat, d = (dn : Int) → ∀ l v, resP (wyH (V 171) (tl xn) (tl yn) al) al dn l v → ∀ V2, FrX V V2 → K u w (some (iv (wyA al l v i))) S V2) : y_R X 10 162 u w [.ref 170, iv x, iv y, iv d, iv i] S V K := by
  have hsz := hSO.1
  have hT : 0 ≤ V 171 0 ∧ V 171 0 ≤ 8 := by omega
  obtain ⟨al, hal⟩ : ∃ al : Nat, V 171 5 = (al : Int) := ⟨(V 171 5).toNat, by omega⟩
  have hal5 : al ≤ 5 := by omega
  have hlt : ∀ q : Nat, q < al → pkO (V 171 (1770 + 4 * q)) (V 171 (1770 + 4 * q + 1)) (V 171 (1770 + 4 * q + 2)) (V 171 (1770 + 4 * q + 3)) := fun q hq => hSO.2.2.2.2.2.2 q (by omega)
  refine y_ent (lv' := [(0, .ref 170), (1, iv x), (2, iv y), (3, iv d), (4, iv i)]) (Nat.le_of_ble_eq_true rfl) rfl ?_
  refine y_ld (x := .ref 170) rfl rfl (fun d => rfl) ?_
  refine y_ld (x := iv x) rfl rfl (fun d => rfl) ?_
  refine y_cV (as := [.ref 170, iv x]) rfl rfl rfl rfl rfl (md170 hM) ⟨rfl, (Nat.le_of_ble_eq_true rfl), (Nat.le_of_ble_eq_true rfl)⟩ (by decide) (ct_isText hM (by omega) ⟨rfl, by omega⟩ ?_)
  refine y_nv ?_
  refine y_beq rfl rfl rfl (fun g1 => ?_) (fun g1 => ?_)
  · refine y_ic rfl rfl ?_
    refine y_rI rfl (Or.inl rfl) ?_
    exact k0 (by omega)
  · refine y_ld (x := .ref 170) rfl rfl (fun d => rfl) ?_
    refine y_ld (x := iv y) rfl rfl (fun d => rfl) ?_
    refine y_cV (as := [.ref 170, iv y]) rfl rfl rfl rfl rfl (md170 hM) ⟨rfl, (Nat.le_of_ble_eq_true rfl), (Nat.le_of_ble_eq_true rfl)⟩ (by decide) (ct_isText hM (by omega) ⟨rfl, by omega⟩ ?_)
    refine y_nv ?_
    refine y_beq rfl rfl rfl (fun g2 => ?_) (fun g2 => ?_)
    · refine y_ic rfl rfl ?_
      refine y_rI rfl (Or.inl rfl) ?_
      exact k0 (by omega)
    · refine y_ld (x := iv i) rfl rfl (fun d => rfl) ?_
      refine y_ic rfl rfl ?_
      refine y_jge rfl rfl rfl (by omega) (fun g3 => ?_) (fun g3 => ?_)
      · refine y_ld (x := iv d) rfl rfl (fun d => rfl) ?_
        refine y_ic rfl rfl ?_
        refine y_ic rfl rfl ?_
        refine y_cS (as := [iv d, iv 1, iv 3]) rfl (by decide) rfl rfl rfl rfl ⟨(Nat.le_of_ble_eq_true rfl), (Nat.le_of_ble_eq_true rfl)⟩ (by decide) (ct_in (by omega) ?_)
        refine y_nv ?_
        refine y_bne rfl rfl rfl (fun g4 => ?_) (fun g4 => ?_)
        · obtain ⟨dn, rfl⟩ : ∃ dn : Nat, d = (dn : Int) := ⟨d.toNat, by omega⟩
          obtain ⟨xn, rfl⟩ : ∃ xn : Nat, x = (xn : Int) := ⟨x.toNat, by omega⟩
          obtain ⟨yn, rfl⟩ : ∃ yn : Nat, y = (yn : Int) := ⟨y.toNat, by omega⟩
          refine y_ic rfl rfl ?_
          refine y_st (lv' := [(5, iv 1), (0, .ref 170), (1, iv (xn : Int)), (2, iv (yn : Int)), (3, iv (dn : Int)), (4, iv i)]) rfl rfl (fun d => rfl) ?_
          refine y_lv (l' := [(0, .ref 170), (1, iv (xn : Int)), (2, iv (yn : Int)), (3, iv (dn : Int)), (4, iv i), (5, iv ((1 : Nat) : Int))]) rfl ⟨rfl, rfl, rfl, rfl, rfl, rfl, trivial⟩ ?_
          exact y_mono (lp_ways (V := V) (F := 100) hM (hTO xn (by omega)) (hTO yn (by omega)) hal5 hlt hal (by omega) (by omega) (hMTs xn (by omega)) (hMTs yn (by omega)) (by omega) (by omega) 4 1 V (by omega) (by omega) (FrX_rf V) (fun l2 h1 h2 => absurd h2 (by omega)) (fun l v V2 q1 q2 => k2 al (by omega) (by omega) hal xn rfl yn rfl dn rfl l v q1 V2 q2)) (by decide)
        · refine y_bi rfl rfl (by decide) ?_
          refine y_rI rfl (Or.inl rfl) ?_
          exact k1 (by omega) (by omega)
      · refine y_ic rfl rfl ?_
        refine y_rI rfl (Or.inl rfl) ?_
        exact k0 (by omega)
end
end
section
/-! the orders of BOXES: the reference (that it ends, and what it leaves as it was) -/
def AR (V0 : v_V) (T n C : Nat) (W : v_V) : Prop := FrX V0 W ∧ W 170 37 = (T : Int) ∧ (0 ≤ W 170 38 ∧ W 170 38 ≤ (C : Int)) ∧ (∀ i : Nat, i < T → 0 ≤ W 189 i ∧ W 189 i < V0 171 1) ∧ (∀ i : Nat, i < n → 0 ≤ W 190 i ∧ W 190 i < V0 171 1)
def qA (X : Nat → List Int32) (S : m_H) (V0 : v_V) (form N d : Int) (T r n : Nat) : Prop := ∀ (us : Int) (C : Nat) (W : v_V) (K : v_K) (u w : Nat), 0 ≤ us → us < 65536 → C + 4 ^ r ≤ 300 → AR V0 T n C W → (∀ W2, AR V0 T n (C + 4 ^ r) W2 → K u w none S W2) → y_R X (11 + r) 163 u w [.ref 170, iv (n : Int), iv us, iv form, iv N, iv d] S W K
section
variable {X : Nat → List Int32} {u w : Nat} {S : m_H} {V : v_V} {K : v_K}
set_option maxRecDepth 100000 in
set_option maxHeartbeats 4000000 in
theorem lp_thr (hM : MdS S) {tl : Nat → List p_Li} {cnt : Nat} (hSO : SO cnt (V 171)) (hTO : ∀ i : Nat, (i : Int) < V 171 0 → TO (tl i)) (hMTs : ∀ i : Nat, (i : Int) < V 171 0 → MT V i (tl i)) {form N : Int} {d : Nat} (hf : 0 ≤ form ∧ form ≤ 4) (hN : 0 ≤ N ∧ N ≤ 99) (hd : d ≤ 3) {T : Nat} (hT : T ≤ 4) {us : Int} {V1 : v_V} (h190o : ∀ q : Nat, q < T → 0 ≤ V1 190 q ∧ V1 190 q < V 171 1) {F : Nat} : ∀ (m : Nat) (i : Nat) (W : v_V), T - i < m → (i ≤ T) → (FrX V W) → (W 170 27 = (T : Int) ∧ W 170 37 = (T : Int) ∧ W 170 38 = V1 170 38) → (W 189 = V1 189) → (W 190 = V1 190) → (∀ q : Nat, q < i → W 182 q = V 171 (178 + (V1 190 q).toNat)) → (∀ W : v_V, FrX V W → (W 170 27 = (T : Int) ∧ W 170 37 = (T : Int) ∧ W 170 38 = V1 170 38) → W 189 = V1 189 → W 190 = V1 190 → (∀ q : Nat, q < T → W 182 q = V 171 (178 + (V1 190 q).toNat)) → y_E X 10 163 F u w 57 [(0, .ref 170), (1, iv (T : Int)), (2, iv us), (3, iv form), (4, iv N), (5, iv (d : Int))] [] S W K) → y_E X 10 163 (40 * m + F) u w 19 [(0, .ref 170), (1, iv (T : Int)), (2, iv us), (3, iv form), (4, iv N), (5, iv (d : Int)), (6, iv (i : Int))] [] S W K := by
  intro m
  induction m with
  | zero => intros; omega
  | succ m ih =>
    intro i W hm hI hF h27 h189 h190 h182 hx
    refine y_mono (F' := (40 * m + F) + 40) ?_ (by omega)
    refine y_ld (x := iv (i : Int)) rfl rfl (fun d => rfl) ?_
    refine y_ld (x := .ref 170) rfl rfl (fun d => rfl) ?_
    refine y_gI (i := 37) (e := (T : Int)) rfl rfl rfl (md170 hM) rfl h27.2.1 ?_
    refine y_jge rfl rfl rfl (by omega) (fun g1 => ?_) (fun g1 => ?_)
    · refine y_lv (l' := [(0, .ref 170), (1, iv (T : Int)), (2, iv us), (3, iv form), (4, iv N), (5, iv (d : Int))]) rfl ⟨rfl, rfl, rfl, rfl, rfl, rfl, trivial⟩ ?_
      exact y_mono (hx W hF h27 h189 h190 (fun q hq => h182 q (by omega))) (by omega)
    · have hsz := hSO.1
      have hor := h190o i (by omega)
      have h171 : W 171 = V 171 := hF.1 171 (by omega)
      have e190 : W 190 i = V1 190 i := by rw [h190]
      refine y_ld (x := .ref 170) rfl rfl (fun d => rfl) ?_
      refine y_gR (i := 26) rfl rfl rfl (md170 hM) rfl ?_
      refine y_ld (x := iv (i : Int)) rfl rfl (fun d => rfl) ?_
      refine y_ld (x := .ref 170) rfl rfl (fun d => rfl) ?_
      refine y_gR (i := 1) rfl rfl rfl (md170 hM) rfl ?_
      refine y_si rfl rfl (by decide) ?_
      refine y_ld (x := .ref 170) rfl rfl (fun d => rfl) ?_
      refine y_gR (i := 35) rfl rfl rfl (md170 hM) rfl ?_
      refine y_ld (x := iv (i : Int)) rfl rfl (fun d => rfl) ?_
      refine y_ild (x := (V1 190 i)) (q := i) rfl rfl (md190 hM) (by omega) (by decide) (by omega) e190 ?_
      refine y_add (z := (178 + V1 190 i)) rfl rfl (by omega) ?_
      refine y_ild (x := (V 171 (178 + (V1 190 i).toNat))) (q := (178 + (V1 190 i).toNat)) rfl rfl (md171 hM) (by omega) (by decide) (by omega) (by rw [h171]) ?_
      refine y_ist (q := i) rfl rfl (md182 hM) (by omega) (by decide) (by omega) ?_
      refine y_inc (z := ((i + 1 : Nat) : Int)) (lv' := [(6, iv ((i + 1 : Nat) : Int)), (0, .ref 170), (1, iv (T : Int)), (2, iv us), (3, iv form), (4, iv N), (5, iv (d : Int))]) rfl rfl rfl (by omega) rfl ?_
      refine y_go rfl rfl ?_
      refine y_lv (l' := [(0, .ref 170), (1, iv (T : Int)), (2, iv us), (3, iv form), (4, iv N), (5, iv (d : Int)), (6, iv ((i + 1 : Nat) : Int))]) rfl ⟨rfl, rfl, rfl, rfl, rfl, rfl, rfl, trivial⟩ ?_
      refine y_mono (ih (i + 1) (v_up W 182 i (V 171 (178 + (V1 190 i).toNat))) (by omega) (by omega) (FrX_tr hF ⟨fun k hk => v_up_ne (by omega), fun i2 _ => by rw [v_up_ne (by decide)]⟩) (by rw [v_up_ne (by decide)]; exact h27) (by rw [v_up_ne (by decide)]; exact h189) (by rw [v_up_ne (by decide)]; exact h190) (fun q hq => ?_) hx) (by omega)
      rcases (show q < i ∨ q = i by omega) with h7 | h7
      · rw [v_up_ni (by omega)]; exact h182 q h7
      · rw [h7, v_up_eq]
set_option maxRecDepth 100000 in
set_option maxHeartbeats 4000000 in
theorem lp_fst (hM : MdS S) {form N us : Int} {d T : Nat} (hT : T ≤ 4) {V1 : v_V} (h37 : V1 170 37 = (T : Int)) (h38 : 0 ≤ V1 170 38 ∧ V1 170 38 ≤ 300) {F : Nat} : ∀ (m : Nat) (i : Nat) (W : v_V), T - i < m → (i ≤ T) → (∀ k, k ≠ 191 → W k = V1 k) → (∀ W : v_V, (∀ k, k ≠ 191 → W k = V1 k) → y_E X 10 163 F u w 108 [(0, .ref 170), (1, iv (T : Int)), (2, iv us), (3, iv form), (4, iv N), (5, iv (d : Int))] [] S W K) → y_E X 10 163 (40 * m + F) u w 72 [(0, .ref 170), (1, iv (T : Int)), (2, iv us), (3, iv form), (4, iv N), (5, iv (d : Int)), (6, iv (i : Int))] [] S W K := by
  intro m
  induction m with
  | zero => intros; omega
  | succ m ih =>
    intro i W hm hI hQ hx
    refine y_mono (F' := (40 * m + F) + 40) ?_ (by omega)
    refine y_ld (x := iv (i : Int)) rfl rfl (fun d => rfl) ?_
    have h170 : W 170 = V1 170 := hQ 170 (by decide)
    refine y_ld (x := .ref 170) rfl rfl (fun d => rfl) ?_
    refine y_gI (i := 37) (e := (T : Int)) rfl rfl rfl (md170 hM) rfl (by rw [h170]; exact h37) ?_
    refine y_jge rfl rfl rfl (by omega) (fun g1 => ?_) (fun g1 => ?_)
    · refine y_lv (l' := [(0, .ref 170), (1, iv (T : Int)), (2, iv us), (3, iv form), (4, iv N), (5, iv (d : Int))]) rfl ⟨rfl, rfl, rfl, rfl, rfl, rfl, trivial⟩ ?_
      exact y_mono (hx W hQ) (by omega)
    · refine y_ld (x := .ref 170) rfl rfl (fun d => rfl) ?_
      refine y_gI (i := 38) (e := (V1 170 38)) rfl rfl rfl (md170 hM) rfl (by rw [h170]) ?_
      refine y_zne rfl rfl rfl (by omega) (fun g2 => ?_) (fun g2 => ?_)
      · refine y_lv (l' := [(0, .ref 170), (1, iv (T : Int)), (2, iv us), (3, iv form), (4, iv N), (5, iv (d : Int))]) rfl ⟨rfl, rfl, rfl, rfl, rfl, rfl, trivial⟩ ?_
        exact y_mono (hx W hQ) (by omega)
      · refine y_ld (x := .ref 170) rfl rfl (fun d => rfl) ?_
        refine y_gR (i := 36) rfl rfl rfl (md170 hM) rfl ?_
        refine y_ld (x := iv (i : Int)) rfl rfl (fun d => rfl) ?_
        refine y_ld (x := .ref 170) rfl rfl (fun d => rfl) ?_
        refine y_gR (i := 35) rfl rfl rfl (md170 hM) rfl ?_
        refine y_ld (x := iv (i : Int)) rfl rfl (fun d => rfl) ?_
        refine y_ild (x := (W 190 i)) (q := i) rfl rfl (md190 hM) (by omega) (by decide) (by omega) rfl ?_
        refine y_ist (q := i) rfl rfl (md191 hM) (by omega) (by decide) (by omega) ?_
        refine y_inc (z := ((i + 1 : Nat) : Int)) (lv' := [(6, iv ((i + 1 : Nat) : Int)), (0, .ref 170), (1, iv (T : Int)), (2, iv us), (3, iv form), (4, iv N), (5, iv (d : Int))]) rfl rfl rfl (by omega) rfl ?_
        refine y_go rfl rfl ?_
        refine y_lv (l' := [(0, .ref 170), (1, iv (T : Int)), (2, iv us), (3, iv form), (4, iv N), (5, iv (d : Int)), (6, iv ((i + 1 : Nat) : Int))]) rfl ⟨rfl, rfl, rfl, rfl, rfl, rfl, rfl, trivial⟩ ?_
        refine y_mono (ih (i + 1) (v_up W 191 i (W 190 i)) (by omega) (by omega) (fun k hk => by rw [v_up_ne hk]; exact hQ k hk) hx) (by omega)
set_option maxRecDepth 100000 in
set_option maxHeartbeats 4000000 in
theorem ct_arr0 (hM : MdS S) {tl : Nat → List p_Li} {cnt : Nat} (hSO : SO cnt (V 171)) (hTO : ∀ i : Nat, (i : Int) < V 171 0 → TO (tl i)) (hMTs : ∀ i : Nat, (i : Int) < V 171 0 → MT V i (tl i)) {form N : Int} {d : Nat} (hf : 0 ≤ form ∧ form ≤ 4) (hN : 0 ≤ N ∧ N ≤ 99) (hd : d ≤ 3) {T : Nat} (hT : T ≤ 4) {us : Int} {C : Nat} (hC3 : C + 1 ≤ 300) {W : v_V} (hA : AR V T T C W) (k : ∀ W2, AR V T T (C + 1) W2 → K u w none S W2) : y_R X 11 163 u w [.ref 170, iv (T : Int), iv us, iv form, iv N, iv (d : Int)] S W K := by
  obtain ⟨h1, h2, h3, h4, h5⟩ := hA
  refine y_ent (lv' := [(0, .ref 170), (1, iv (T : Int)), (2, iv us), (3, iv form), (4, iv N), (5, iv (d : Int))]) (Nat.le_of_ble_eq_true rfl) rfl ?_
  refine y_ld (x := iv (T : Int)) rfl rfl (fun d => rfl) ?_
  refine y_ld (x := .ref 170) rfl rfl (fun d => rfl) ?_
  refine y_gI (i := 37) (e := (T : Int)) rfl rfl rfl (md170 hM) rfl h2 ?_
  refine y_jne rfl rfl rfl (by omega) (fun g1 => absurd rfl g1) (fun g1 => ?_)
  refine y_ld (x := .ref 170) rfl rfl (fun d => rfl) ?_
  refine y_ld (x := .ref 170) rfl rfl (fun d => rfl) ?_
  refine y_gI (i := 37) (e := (T : Int)) rfl rfl rfl (md170 hM) rfl h2 ?_
  refine y_pI (i := 27) rfl rfl rfl (md170 hM) rfl rfl ?_
  refine y_ic rfl rfl ?_
  refine y_st (lv' := [(6, iv 0), (0, .ref 170), (1, iv (T : Int)), (2, iv us), (3, iv form), (4, iv N), (5, iv (d : Int))]) rfl rfl (fun d => rfl) ?_
  refine y_lv (l' := [(0, .ref 170), (1, iv (T : Int)), (2, iv us), (3, iv form), (4, iv N), (5, iv (d : Int)), (6, iv ((0 : Nat) : Int))]) rfl ⟨rfl, rfl, rfl, rfl, rfl, rfl, rfl, trivial⟩ ?_
  refine y_mono (lp_thr (F := 2000) (V1 := W) hM hSO hTO hMTs hf hN hd hT h5 5 0 (v_up W 170 27 (T : Int)) (by omega) (by omega) (FrX_tr h1 ⟨fun k hk => v_up_ne (by omega), fun i hi => v_up_ni (by omega)⟩) ⟨v_up_eq _ _ _ _, (v_up_ni (by decide)).trans h2, v_up_ni (by decide)⟩ (v_up_ne (by decide)) (v_up_ne (by decide)) (fun q hq => absurd hq (by omega)) (fun W1 f1 f2 f3 f4 f5 => ?_)) (by decide)
  refine y_ld (x := .ref 170) rfl rfl (fun d => rfl) ?_
  refine y_ld (x := iv form) rfl rfl (fun d => rfl) ?_
  refine y_ld (x := iv N) rfl rfl (fun d => rfl) ?_
  refine y_ld (x := iv (d : Int)) rfl rfl (fun d => rfl) ?_
  have hsz := hSO.1
  obtain ⟨al, hal⟩ : ∃ al : Nat, V 171 5 = (al : Int) := ⟨(V 171 5).toNat, by omega⟩
  have e171 : W1 171 = V 171 := f1.1 171 (by omega)
  have hvt : ∀ q : Nat, q < T → 0 ≤ V 171 (178 + (W 190 q).toNat) ∧ V 171 (178 + (W 190 q).toNat) < V 171 0 := fun q hq => by
    have := h5 q hq
    have := hSO.2.2.1 (W 190 q).toNat (by omega)
    exact ⟨this.2.1.1, this.2.1.2.2 (by omega)⟩
  have hth : ThM W1 T (fun q => tl (V 171 (178 + (W 190 q).toNat)).toNat) := ⟨f2.1, fun q hq => ⟨(V 171 (178 + (W 190 q).toNat)).toNat, by have := hvt q hq; omega, by rw [f5 q hq]; have := hvt q hq; omega, MT_x (hMTs _ (by have := hvt q hq; omega)) (fun k a b => f1.1 k (by omega))⟩⟩
  have hpq : ∀ q : Nat, q < al → pkO (V 171 (1770 + 4 * q)) (V 171 (1770 + 4 * q + 1)) (V 171 (1770 + 4 * q + 2)) (V 171 (1770 + 4 * q + 3)) := fun q hq => hSO.2.2.2.2.2.2 q (by omega)
  refine y_cV (as := [.ref 170, iv form, iv N, iv (d : Int)]) rfl rfl rfl rfl rfl (md170 hM) ⟨rfl, (Nat.le_of_ble_eq_true rfl), (Nat.le_of_ble_eq_true rfl)⟩ (by decide) (ct_breach (V := W1) (al := al) (ts := (fun q => tl (V 171 (178 + (W 190 q).toNat)).toNat)) hM hT (fun q hq => hTO _ (by have := hvt q hq; omega)) (by omega) (by rw [e171]; exact hpq) (by omega) (by omega) (by rw [e171]; exact hal) hth (by omega) (fun l v V2 q1 q2 q3 q4 => ?_) (fun q2 V2 q4 => ?_))
  · have hl1 := q2.1
    refine y_nv ?_
    refine y_zne rfl rfl rfl (by omega) (fun g2 => ?_) (fun g2 => absurd g2 (by omega))
    refine y_ret rfl (fun d => rfl) ?_
    have e37 : V2 170 37 = (T : Int) := by rw [q4.2 37 (by decide)]; exact f2.2.1
    have e38 : V2 170 38 = W 170 38 := by rw [q4.2 38 (by decide)]; exact f2.2.2
    have e189 : V2 189 = W 189 := by rw [q4.1 189 (by decide) (by decide) (by decide) (by decide) (by decide)]; exact f3
    have e190 : V2 190 = W 190 := by rw [q4.1 190 (by decide) (by decide) (by decide) (by decide) (by decide)]; exact f4
    have hfx := FrX_tr f1 (FrX_B q4)
    exact k V2 ⟨hfx, e37, by rw [e38]; omega, by rw [e189]; exact h4, by rw [e190]; exact h5⟩
  · refine y_nv ?_
    refine y_zne rfl rfl rfl (by decide) (fun g3 => absurd g3 (by decide)) (fun g3 => ?_)
    refine y_ic rfl rfl ?_
    refine y_st (lv' := [(6, iv 0), (0, .ref 170), (1, iv (T : Int)), (2, iv us), (3, iv form), (4, iv N), (5, iv (d : Int))]) rfl rfl (fun d => rfl) ?_
    have e37 : V2 170 37 = (T : Int) := by rw [q4.2 37 (by decide)]; exact f2.2.1
    have e38 : V2 170 38 = W 170 38 := by rw [q4.2 38 (by decide)]; exact f2.2.2
    have e189 : V2 189 = W 189 := by rw [q4.1 189 (by decide) (by decide) (by decide) (by decide) (by decide)]; exact f3
    have e190 : V2 190 = W 190 := by rw [q4.1 190 (by decide) (by decide) (by decide) (by decide) (by decide)]; exact f4
    have hfx := FrX_tr f1 (FrX_B q4)
    refine y_lv (l' := [(0, .ref 170), (1, iv (T : Int)), (2, iv us), (3, iv form), (4, iv N), (5, iv (d : Int)), (6, iv ((0 : Nat) : Int))]) rfl ⟨rfl, rfl, rfl, rfl, rfl, rfl, rfl, trivial⟩ ?_
    refine y_mono (lp_fst (F := 500) (V1 := V2) hM hT e37 (by rw [e38]; omega) 5 0 V2 (by omega) (by omega) (fun k _ => rfl) (fun W2 w1 => ?_)) (by decide)
    refine y_ld (x := .ref 170) rfl rfl (fun d => rfl) ?_
    refine y_in rfl rfl (fun d => rfl) ?_
    refine y_gI (i := 38) (e := (W 170 38)) rfl rfl rfl (md170 hM) rfl (by rw [w1 170 (by decide)]; exact e38) ?_
    refine y_ic rfl rfl ?_
    refine y_add (z := ((W 170 38) + 1)) rfl rfl rfl ?_
    refine y_pI (i := 38) rfl rfl rfl (md170 hM) rfl rfl ?_
    refine y_ret rfl (fun d => rfl) ?_
    have t170 : ∀ i : Nat, i ≠ 38 → ((v_up W2 170 38 ((W 170 38) + 1))) 170 i = V2 170 i := fun i hi => by rw [v_up_ni hi, w1 170 (by decide)]
    exact k _ ⟨FrX_tr hfx ⟨fun k hk => by rw [v_up_ne (by omega), w1 k (by omega)], fun i hi => t170 i (by omega)⟩, (t170 37 (by decide)).trans e37, by rw [v_up_eq]; omega, by rw [v_up_ne (by decide), w1 189 (by decide), e189]; exact h4, by rw [v_up_ne (by decide), w1 190 (by decide), e190]; exact h5⟩
end
end
section
/-! the orders of BOXES: the reference, all of them -/
theorem AR_le {V0 W : v_V} {T n C C2 : Nat} (h : AR V0 T n C W) (hc : C ≤ C2) : AR V0 T n C2 W := ⟨h.1, h.2.1, ⟨h.2.2.1.1, by have := h.2.2.1.2; omega⟩, h.2.2.2⟩
theorem AR_n {V0 W : v_V} {T n n2 C : Nat} (h : AR V0 T n C W) (hc : n2 ≤ n) : AR V0 T n2 C W := ⟨h.1, h.2.1, h.2.2.1, h.2.2.2.1, fun i hi => h.2.2.2.2 i (by omega)⟩
theorem v_bs_mono (x : Int) (j : Nat) : ∀ k, j ≤ k → v_bs x j ≤ v_bs x k
  | 0, h => by
    have : j = 0 := by omega
    subst this
    exact Int.le_refl _
  | k + 1, h => by
    by_cases e : j = k + 1
    · subst e
      exact Int.le_refl _
    · have := v_bs_mono x j k (by omega)
      have := v_bit01 x k
      simp only [v_bs]
      omega
section
variable {X : Nat → List Int32} {u w : Nat} {S : m_H} {V : v_V} {K : v_K}
set_option maxRecDepth 100000 in
set_option maxHeartbeats 4000000 in
theorem lp_arr (hM : MdS S) {tl : Nat → List p_Li} {cnt : Nat} (hSO : SO cnt (V 171)) (hTO : ∀ i : Nat, (i : Int) < V 171 0 → TO (tl i)) (hMTs : ∀ i : Nat, (i : Int) < V 171 0 → MT V i (tl i)) {form N : Int} {d : Nat} (hf : 0 ≤ form ∧ form ≤ 4) (hN : 0 ≤ N ∧ N ≤ 99) (hd : d ≤ 3) {T : Nat} (hT : T ≤ 4) {r n C : Nat} (hnT : n + (r + 1) = T) {us : Int} (hus : 0 ≤ us ∧ us < 65536) (hC3 : C + 4 * 4 ^ r ≤ 300) (hrec : qA X S V form N (d : Int) T r (n + 1)) (k : ∀ W2, AR V T n (C + 4 * 4 ^ r) W2 → K u w none S W2) {F : Nat} : ∀ (m : Nat) (i : Nat) (W : v_V), T - i < m → (i ≤ T) → (AR V T n (C + i * 4 ^ r) W) → y_E X (11 + r) 163 (60 * m + F) u w 122 [(0, .ref 170), (1, iv (n : Int)), (2, iv us), (3, iv form), (4, iv N), (5, iv (d : Int)), (6, iv (i : Int))] [] S W K := by
  intro m
  induction m with
  | zero => intros; omega
  | succ m ih =>
    intro i W hm hI hA 
    refine y_mono (F' := (60 * m + F) + 60) ?_ (by omega)
    refine y_ld (x := iv (i : Int)) rfl rfl (fun d => rfl) ?_
    refine y_ld (x := .ref 170) rfl rfl (fun d => rfl) ?_
    refine y_gI (i := 37) (e := (T : Int)) rfl rfl rfl (md170 hM) rfl hA.2.1 ?_
    refine y_jge rfl rfl rfl (by omega) (fun g1 => ?_) (fun g1 => ?_)
    · refine y_ret rfl (fun d => rfl) ?_
      have hm4 : i * 4 ^ r ≤ 4 * 4 ^ r := Nat.mul_le_mul_right _ (by omega)
      exact k W (AR_le hA (by omega))
    · have hb01 := v_bit01 us i
      have hA0 := hA
      obtain ⟨h1, h2, h3, h4, h5⟩ := hA0
      have h4i := h4 i (by omega)
      have hsz := hSO.1
      have hmu : (i + 1) * 4 ^ r = i * 4 ^ r + 4 ^ r := Nat.succ_mul i (4 ^ r)
      have hm4 : (i + 1) * 4 ^ r ≤ 4 * 4 ^ r := Nat.mul_le_mul_right _ (by omega)
      have hu2 := v_o2_lt16 hus (c := i) (by omega)
      refine y_ld (x := iv us) rfl rfl (fun d => rfl) ?_
      refine y_ld (x := iv (i : Int)) rfl rfl (fun d => rfl) ?_
      refine y_op (z := (us / 2 ^ i)) rfl rfl (fun d => rfl) (v_shr (by omega) (by omega)) ?_
      refine y_ic rfl rfl ?_
      refine y_op (z := (us / 2 ^ i % 2)) rfl rfl (fun d => rfl) (v_and1 (Int.ediv_nonneg (by omega) (Int.le_of_lt (v_p2 _)))) ?_
      refine y_zne rfl rfl rfl (by omega) (fun g2 => ?_) (fun g2 => ?_)
      · refine y_inc (z := ((i + 1 : Nat) : Int)) (lv' := [(6, iv ((i + 1 : Nat) : Int)), (0, .ref 170), (1, iv (n : Int)), (2, iv us), (3, iv form), (4, iv N), (5, iv (d : Int))]) rfl rfl rfl (by omega) rfl ?_
        refine y_go rfl rfl ?_
        refine y_lv (l' := [(0, .ref 170), (1, iv (n : Int)), (2, iv us), (3, iv form), (4, iv N), (5, iv (d : Int)), (6, iv ((i + 1 : Nat) : Int))]) rfl ⟨rfl, rfl, rfl, rfl, rfl, rfl, rfl, trivial⟩ ?_
        refine y_mono (ih (i + 1) W (by omega) (by omega) (AR_le hA (by omega))) (by omega)
      · refine y_ld (x := .ref 170) rfl rfl (fun d => rfl) ?_
        refine y_gR (i := 35) rfl rfl rfl (md170 hM) rfl ?_
        refine y_ld (x := iv (n : Int)) rfl rfl (fun d => rfl) ?_
        refine y_ld (x := .ref 170) rfl rfl (fun d => rfl) ?_
        refine y_gR (i := 34) rfl rfl rfl (md170 hM) rfl ?_
        refine y_ld (x := iv (i : Int)) rfl rfl (fun d => rfl) ?_
        refine y_ild (x := (W 189 i)) (q := i) rfl rfl (md189 hM) (by omega) (by decide) (by omega) rfl ?_
        refine y_ist (q := n) rfl rfl (md190 hM) (by omega) (by decide) (by omega) ?_
        refine y_ld (x := .ref 170) rfl rfl (fun d => rfl) ?_
        refine y_ld (x := iv (n : Int)) rfl rfl (fun d => rfl) ?_
        refine y_ic rfl rfl ?_
        refine y_add (z := ((n + 1 : Nat) : Int)) rfl rfl (by omega) ?_
        refine y_ld (x := iv us) rfl rfl (fun d => rfl) ?_
        refine y_ic rfl rfl ?_
        refine y_ld (x := iv (i : Int)) rfl rfl (fun d => rfl) ?_
        refine y_op (z := (2 ^ i)) rfl rfl (fun d => rfl) (v_shl1 (k := (i : Int)) (by omega)) ?_
        refine y_op (z := (v_o2 us i)) rfl rfl (fun d => rfl) (v_or_o2 (by omega) i) ?_
        refine y_ld (x := iv form) rfl rfl (fun d => rfl) ?_
        refine y_ld (x := iv N) rfl rfl (fun d => rfl) ?_
        refine y_ld (x := iv (d : Int)) rfl rfl (fun d => rfl) ?_
        have hA1 : AR V T (n + 1) (C + i * 4 ^ r) (v_up W 190 n (W 189 i)) := ⟨FrX_tr h1 ⟨fun k hk => v_up_ne (by omega), fun i2 _ => by rw [v_up_ne (by decide)]⟩, by rw [v_up_ne (by decide)]; exact h2, by rw [v_up_ne (by decide)]; exact h3, by rw [v_up_ne (by decide)]; exact h4, fun q hq => by
      rcases (show q < n ∨ q = n by omega) with h7 | h7
      · rw [v_up_ni (by omega)]; exact h5 q h7
      · rw [h7, v_up_eq]; exact h4i⟩
        refine y_cV (as := [.ref 170, iv ((n + 1 : Nat) : Int), iv (v_o2 us i), iv form, iv N, iv (d : Int)]) rfl rfl rfl rfl rfl (md170 hM) ⟨rfl, (Nat.le_of_ble_eq_true rfl), (Nat.le_of_ble_eq_true rfl)⟩ (by omega) (hrec (v_o2 us i) (C + i * 4 ^ r) _ _ _ _ hu2.1 hu2.2 (by omega) hA1 (fun W2 a1 => ?_))
        refine y_n0 ?_
        refine y_inc (z := ((i + 1 : Nat) : Int)) (lv' := [(6, iv ((i + 1 : Nat) : Int)), (0, .ref 170), (1, iv (n : Int)), (2, iv us), (3, iv form), (4, iv N), (5, iv (d : Int))]) rfl rfl rfl (by omega) rfl ?_
        refine y_go rfl rfl ?_
        refine y_lv (l' := [(0, .ref 170), (1, iv (n : Int)), (2, iv us), (3, iv form), (4, iv N), (5, iv (d : Int)), (6, iv ((i + 1 : Nat) : Int))]) rfl ⟨rfl, rfl, rfl, rfl, rfl, rfl, rfl, trivial⟩ ?_
        refine y_mono (ih (i + 1) W2 (by omega) (by omega) (AR_n (AR_le a1 (by omega)) (by omega))) (by omega)
set_option maxRecDepth 100000 in
set_option maxHeartbeats 4000000 in
theorem ct_arr (hM : MdS S) {tl : Nat → List p_Li} {cnt : Nat} (hSO : SO cnt (V 171)) (hTO : ∀ i : Nat, (i : Int) < V 171 0 → TO (tl i)) (hMTs : ∀ i : Nat, (i : Int) < V 171 0 → MT V i (tl i)) {form N : Int} {d : Nat} (hf : 0 ≤ form ∧ form ≤ 4) (hN : 0 ≤ N ∧ N ≤ 99) (hd : d ≤ 3) {T : Nat} (hT : T ≤ 4) : ∀ (r n : Nat), n + r = T → qA X S V form N (d : Int) T r n
  | 0, n, hn => by
    intro us C W K u w h0 h1 hC hA k
    obtain rfl : n = T := by omega
    exact ct_arr0 hM hSO hTO hMTs hf hN hd hT hC hA k
  | r + 1, n, hn => by
    intro us C W K u w h0 h1 hC hA k
    have hrec : qA X S V form N (d : Int) T r (n + 1) := ct_arr hM hSO hTO hMTs hf hN hd hT r (n + 1) (by omega)
    have e4 : 4 ^ (r + 1) = 4 * 4 ^ r := by rw [Nat.pow_succ, Nat.mul_comm]
    rw [e4] at hC k
    show y_R X (11 + r + 1) 163 u w _ S W K
    refine y_ent (lv' := [(0, .ref 170), (1, iv (n : Int)), (2, iv us), (3, iv form), (4, iv N), (5, iv (d : Int))]) (Nat.le_of_ble_eq_true rfl) rfl ?_
    refine y_ld (x := iv (n : Int)) rfl rfl (fun d => rfl) ?_
    refine y_ld (x := .ref 170) rfl rfl (fun d => rfl) ?_
    refine y_gI (i := 37) (e := (T : Int)) rfl rfl rfl (md170 hM) rfl hA.2.1 ?_
    refine y_jne rfl rfl rfl (by omega) (fun g1 => ?_) (fun g1 => absurd g1 (by omega))
    refine y_ic rfl rfl ?_
    refine y_st (lv' := [(6, iv 0), (0, .ref 170), (1, iv (n : Int)), (2, iv us), (3, iv form), (4, iv N), (5, iv (d : Int))]) rfl rfl (fun d => rfl) ?_
    refine y_lv (l' := [(0, .ref 170), (1, iv (n : Int)), (2, iv us), (3, iv form), (4, iv N), (5, iv (d : Int)), (6, iv ((0 : Nat) : Int))]) rfl ⟨rfl, rfl, rfl, rfl, rfl, rfl, rfl, trivial⟩ ?_
    exact y_mono (lp_arr (F := 100) hM hSO hTO hMTs hf hN hd hT hn ⟨h0, h1⟩ hC hrec k 5 0 W (by omega) (by omega) (by rw [Nat.zero_mul]; exact hA)) (by decide)
set_option maxRecDepth 100000 in
set_option maxHeartbeats 4000000 in
theorem lp_told (hM : MdS S) {x y n i : Int} {d B : Nat} (hx0 : 0 ≤ x ∧ x < 65536) (hbs : v_bs x 16 ≤ 4) (hB : V 171 1 = (B : Int)) (hB8 : B ≤ 8) {F : Nat} : ∀ (m : Nat) (j : Nat) (W : v_V), B - j < m → (j ≤ B) → (FrX V W) → (W 170 37 = v_bs x j) → (∀ q : Nat, (q : Int) < v_bs x j → 0 ≤ W 189 q ∧ W 189 q < (B : Int)) → (∀ W : v_V, FrX V W → W 170 37 = v_bs x B → (∀ q : Nat, (q : Int) < v_bs x B → 0 ≤ W 189 q ∧ W 189 q < (B : Int)) → y_E X 15 164 F u w 126 [(0, .ref 170), (1, iv x), (2, iv y), (3, iv n), (4, iv (d : Int)), (5, iv i)] [] S W K) → y_E X 15 164 (60 * m + F) u w 78 [(0, .ref 170), (1, iv x), (2, iv y), (3, iv n), (4, iv (d : Int)), (5, iv i), (6, iv (j : Int))] [] S W K := by
  intro m
  induction m with
  | zero => intros; omega
  | succ m ih =>
    intro j W hm hI hF h37 htd hx
    refine y_mono (F' := (60 * m + F) + 60) ?_ (by omega)
    refine y_ld (x := iv (j : Int)) rfl rfl (fun d => rfl) ?_
    refine y_ld (x := .ref 170) rfl rfl (fun d => rfl) ?_
    refine y_gR (i := 1) rfl rfl rfl (md170 hM) rfl ?_
    refine y_ic rfl rfl ?_
    refine y_ild (x := (B : Int)) (q := 1) rfl rfl (md171 hM) (by decide) (by decide) rfl (by rw [hF.1 171 (by omega)]; exact hB) ?_
    refine y_jge rfl rfl rfl (by omega) (fun g1 => ?_) (fun g1 => ?_)
    · obtain rfl : j = B := by omega
      refine y_lv (l' := [(0, .ref 170), (1, iv x), (2, iv y), (3, iv n), (4, iv (d : Int)), (5, iv i)]) rfl ⟨rfl, rfl, rfl, rfl, rfl, rfl, trivial⟩ ?_
      exact y_mono (hx W hF h37 htd) (by omega)
    · have hb01 := v_bit01 x j
      have hle := v_bs_le x j
      have e1 : v_bs x (j + 1) = v_bs x j + x / 2 ^ j % 2 := rfl
      have hmo := v_bs_mono x (j + 1) 16 (by omega)
      refine y_ld (x := iv x) rfl rfl (fun d => rfl) ?_
      refine y_ld (x := iv (j : Int)) rfl rfl (fun d => rfl) ?_
      refine y_op (z := (x / 2 ^ j)) rfl rfl (fun d => rfl) (v_shr (by omega) (by omega)) ?_
      refine y_ic rfl rfl ?_
      refine y_op (z := (x / 2 ^ j % 2)) rfl rfl (fun d => rfl) (v_and1 (Int.ediv_nonneg (by omega) (Int.le_of_lt (v_p2 _)))) ?_
      refine y_ic rfl rfl ?_
      refine y_jne rfl rfl rfl (by omega) (fun g2 => ?_) (fun g2 => ?_)
      · refine y_inc (z := ((j + 1 : Nat) : Int)) (lv' := [(6, iv ((j + 1 : Nat) : Int)), (0, .ref 170), (1, iv x), (2, iv y), (3, iv n), (4, iv (d : Int)), (5, iv i)]) rfl rfl rfl (by omega) rfl ?_
        refine y_go rfl rfl ?_
        refine y_lv (l' := [(0, .ref 170), (1, iv x), (2, iv y), (3, iv n), (4, iv (d : Int)), (5, iv i), (6, iv ((j + 1 : Nat) : Int))]) rfl ⟨rfl, rfl, rfl, rfl, rfl, rfl, rfl, trivial⟩ ?_
        exact y_mono (ih (j + 1) W (by omega) (by omega) hF (by rw [e1]; omega) (fun q hq => htd q (by omega)) hx) (by omega)
      · refine y_ld (x := .ref 170) rfl rfl (fun d => rfl) ?_
        refine y_gR (i := 34) rfl rfl rfl (md170 hM) rfl ?_
        refine y_ld (x := .ref 170) rfl rfl (fun d => rfl) ?_
        refine y_gI (i := 37) (e := (v_bs x j)) rfl rfl rfl (md170 hM) rfl h37 ?_
        refine y_ld (x := iv (j : Int)) rfl rfl (fun d => rfl) ?_
        refine y_ist (q := ((v_bs x j).toNat)) rfl rfl (md189 hM) (by omega) (by decide) (by omega) ?_
        refine y_ld (x := .ref 170) rfl rfl (fun d => rfl) ?_
        refine y_in rfl rfl (fun d => rfl) ?_
        refine y_gI (i := 37) (e := (v_bs x j)) rfl rfl rfl (md170 hM) rfl (by rw [v_up_ne (by decide)]; exact h37) ?_
        refine y_ic rfl rfl ?_
        refine y_add (z := ((v_bs x j) + 1)) rfl rfl rfl ?_
        refine y_pI (i := 37) rfl rfl rfl (md170 hM) rfl rfl ?_
        refine y_inc (z := ((j + 1 : Nat) : Int)) (lv' := [(6, iv ((j + 1 : Nat) : Int)), (0, .ref 170), (1, iv x), (2, iv y), (3, iv n), (4, iv (d : Int)), (5, iv i)]) rfl rfl rfl (by omega) rfl ?_
        refine y_go rfl rfl ?_
        refine y_lv (l' := [(0, .ref 170), (1, iv x), (2, iv y), (3, iv n), (4, iv (d : Int)), (5, iv i), (6, iv ((j + 1 : Nat) : Int))]) rfl ⟨rfl, rfl, rfl, rfl, rfl, rfl, rfl, trivial⟩ ?_
        refine y_mono (ih (j + 1) (v_up (v_up W 189 ((v_bs x j).toNat) (j : Int)) 170 37 ((v_bs x j) + 1)) (by omega) (by omega) (FrX_tr hF ⟨fun k hk => by rw [v_up_ne (by omega), v_up_ne (by omega)], fun i2 hi => by rw [v_up_ni (by omega), v_up_ne (by decide)]⟩) (by rw [v_up_eq, e1]; omega) (fun q hq => ?_) hx) (by omega)
        rw [v_up_ne (by decide)]
        rcases (show q < (v_bs x j).toNat ∨ q = (v_bs x j).toNat by omega) with h7 | h7
        · rw [v_up_ni (by omega)]; exact htd q (by omega)
        · rw [h7, v_up_eq]; omega
set_option maxRecDepth 100000 in
set_option maxHeartbeats 4000000 in
theorem ms_orders (hM : MdS S) {tl : Nat → List p_Li} {cnt : Nat} (hSO : SO cnt (V 171)) (hTO : ∀ i : Nat, (i : Int) < V 171 0 → TO (tl i)) (hMTs : ∀ i : Nat, (i : Int) < V 171 0 → MT V i (tl i)) {x : Int} (hx : (-2147483648 ≤ x ∧ x < 2147483648)) {y : Int} (hy : (-2147483648 ≤ y ∧ y < 2147483648)) {n : Int} (hn : (-2147483648 ≤ n ∧ n < 2147483648)) {d : Int} (hd : (-2147483648 ≤ d ∧ d < 2147483648)) {i : Int} (hi : (-2147483648 ≤ i ∧ i < 2147483648)) (k0 : ¬ ((0 ≤ y ∧ y ≤ 4) ∧ -1 ≤ i) → K u w (some (iv (-1))) S V) (k1 : ((0 ≤ y ∧ y ≤ 4) ∧ -1 ≤ i) → ¬ ((0 ≤ x ∧ x ≤ 2 ^ (V 171 1).toNat - 1) ∧ (2 ≤ v_bs x 16 ∧ v_bs x 16 ≤ 4) ∧ (0 ≤ n ∧ n ≤ 99) ∧ (1 ≤ d ∧ d ≤ 3)) → K u w (some (iv (-2))) S V) (k2 : ((0 ≤ y ∧ y ≤ 4) ∧ -1 ≤ i) → ((0 ≤ x ∧ x ≤ 2 ^ (V 171 1).toNat - 1) ∧ (2 ≤ v_bs x 16 ∧ v_bs x 16 ≤ 4) ∧ (0 ≤ n ∧ n ≤ 99) ∧ (1 ≤ d ∧ d ≤ 3)) → ∀ r V2, FrX V V2 → K u w (some (iv r)) S V2) : y_R X 16 164 u w [.ref 170, iv x, iv y, iv n, iv d, iv i] S V K := by
  have hsz := hSO.1
  have hp2 : 1 ≤ (2 ^ (V 171 1).toNat : Int) ∧ (2 ^ (V 171 1).toNat : Int) ≤ 256 := by
    rcases (show V 171 1 = 0 ∨ V 171 1 = 1 ∨ V 171 1 = 2 ∨ V 171 1 = 3 ∨ V 171 1 = 4 ∨ V 171 1 = 5 ∨ V 171 1 = 6 ∨ V 171 1 = 7 ∨ V 171 1 = 8 by omega) with h | h | h | h | h | h | h | h | h <;> rw [h] <;> decide
  have hv16 := v_bs_le x 16
  refine y_ent (lv' := [(0, .ref 170), (1, iv x), (2, iv y), (3, iv n), (4, iv d), (5, iv i)]) (Nat.le_of_ble_eq_true rfl) rfl ?_
  refine y_ld (x := iv y) rfl rfl (fun d => rfl) ?_
  refine y_ic rfl rfl ?_
  refine y_ic rfl rfl ?_
  refine y_cS (as := [iv y, iv 0, iv 4]) rfl (by decide) rfl rfl rfl rfl ⟨(Nat.le_of_ble_eq_true rfl), (Nat.le_of_ble_eq_true rfl)⟩ (by omega) (ct_in (by omega) ?_)
  refine y_nv ?_
  refine y_beq rfl rfl rfl (fun g1 => ?_) (fun g1 => ?_)
  · refine y_ic rfl rfl ?_
    refine y_rI rfl (Or.inl rfl) ?_
    exact k0 (by omega)
  · refine y_ld (x := iv i) rfl rfl (fun d => rfl) ?_
    refine y_ic rfl rfl ?_
    refine y_jge rfl rfl rfl (by omega) (fun g2 => ?_) (fun g2 => ?_)
    · refine y_ld (x := iv x) rfl rfl (fun d => rfl) ?_
      refine y_ic rfl rfl ?_
      refine y_ic rfl rfl ?_
      refine y_ld (x := .ref 170) rfl rfl (fun d => rfl) ?_
      refine y_gR (i := 1) rfl rfl rfl (md170 hM) rfl ?_
      refine y_ic rfl rfl ?_
      refine y_ild (x := (V 171 1)) (q := 1) rfl rfl (md171 hM) (by decide) (by decide) rfl rfl ?_
      refine y_op (z := (2 ^ (V 171 1).toNat)) rfl rfl (fun d => rfl) (v_shl1 (k := V 171 1) (by omega)) ?_
      refine y_ic rfl rfl ?_
      refine y_sub (z := ((2 ^ (V 171 1).toNat) - 1)) rfl rfl rfl ?_
      refine y_cS (as := [iv x, iv 0, iv ((2 ^ (V 171 1).toNat) - 1)]) rfl (by decide) rfl rfl rfl rfl ⟨(Nat.le_of_ble_eq_true rfl), (Nat.le_of_ble_eq_true rfl)⟩ (by omega) (ct_in (by omega) ?_)
      refine y_nv ?_
      refine y_beq rfl rfl rfl (fun g3 => ?_) (fun g3 => ?_)
      · refine y_bi rfl rfl (by decide) ?_
        refine y_rI rfl (Or.inl rfl) ?_
        exact k1 (by omega) (by omega)
      · refine y_ld (x := iv x) rfl rfl (fun d => rfl) ?_
        refine y_cS (as := [iv x]) rfl (by decide) rfl rfl rfl rfl ⟨(Nat.le_of_ble_eq_true rfl), (Nat.le_of_ble_eq_true rfl)⟩ (by omega) (ct_count1 (by omega) ?_)
        refine y_nv ?_
        refine y_ic rfl rfl ?_
        refine y_ic rfl rfl ?_
        refine y_cS (as := [iv (v_bs x 16), iv 2, iv 4]) rfl (by decide) rfl rfl rfl rfl ⟨(Nat.le_of_ble_eq_true rfl), (Nat.le_of_ble_eq_true rfl)⟩ (by omega) (ct_in (by omega) ?_)
        refine y_nv ?_
        refine y_beq rfl rfl rfl (fun g4 => ?_) (fun g4 => ?_)
        · refine y_bi rfl rfl (by decide) ?_
          refine y_rI rfl (Or.inl rfl) ?_
          exact k1 (by omega) (by omega)
        · refine y_ld (x := iv n) rfl rfl (fun d => rfl) ?_
          refine y_ic rfl rfl ?_
          refine y_bi rfl rfl (by decide) ?_
          refine y_cS (as := [iv n, iv 0, iv 99]) rfl (by decide) rfl rfl rfl rfl ⟨(Nat.le_of_ble_eq_true rfl), (Nat.le_of_ble_eq_true rfl)⟩ (by omega) (ct_in (by omega) ?_)
          refine y_nv ?_
          refine y_beq rfl rfl rfl (fun g5 => ?_) (fun g5 => ?_)
          · refine y_bi rfl rfl (by decide) ?_
            refine y_rI rfl (Or.inl rfl) ?_
            exact k1 (by omega) (by omega)
          · refine y_ld (x := iv d) rfl rfl (fun d => rfl) ?_
            refine y_ic rfl rfl ?_
            refine y_ic rfl rfl ?_
            refine y_cS (as := [iv d, iv 1, iv 3]) rfl (by decide) rfl rfl rfl rfl ⟨(Nat.le_of_ble_eq_true rfl), (Nat.le_of_ble_eq_true rfl)⟩ (by omega) (ct_in (by omega) ?_)
            refine y_nv ?_
            refine y_bne rfl rfl rfl (fun g6 => ?_) (fun g6 => ?_)
            · obtain ⟨dn, rfl⟩ : ∃ dn : Nat, d = (dn : Int) := ⟨d.toNat, by omega⟩
              obtain ⟨B, hBn⟩ : ∃ B : Nat, V 171 1 = (B : Int) := ⟨(V 171 1).toNat, by omega⟩
              refine y_ld (x := .ref 170) rfl rfl (fun d => rfl) ?_
              refine y_ic rfl rfl ?_
              refine y_pI (i := 37) rfl rfl rfl (md170 hM) rfl rfl ?_
              refine y_ic rfl rfl ?_
              refine y_st (lv' := [(6, iv 0), (0, .ref 170), (1, iv x), (2, iv y), (3, iv n), (4, iv (dn : Int)), (5, iv i)]) rfl rfl (fun d => rfl) ?_
              refine y_lv (l' := [(0, .ref 170), (1, iv x), (2, iv y), (3, iv n), (4, iv (dn : Int)), (5, iv i), (6, iv ((0 : Nat) : Int))]) rfl ⟨rfl, rfl, rfl, rfl, rfl, rfl, rfl, trivial⟩ ?_
              refine y_mono (lp_told (F := 2000) (d := dn) hM (by omega) (by omega) hBn (by omega) 9 0 (v_up V 170 37 0) (by omega) (by omega) ⟨fun k hk => v_up_ne (by omega), fun i2 hi => v_up_ni (by omega)⟩ (v_up_eq _ _ _ _) (fun q hq => absurd hq (by show ¬ (q : Int) < 0; omega)) (fun W1 f1 f2 f3 => ?_)) (by decide)
              refine y_ld (x := .ref 170) rfl rfl (fun d => rfl) ?_
              refine y_ic rfl rfl ?_
              refine y_pI (i := 38) rfl rfl rfl (md170 hM) rfl rfl ?_
              refine y_ld (x := .ref 170) rfl rfl (fun d => rfl) ?_
              refine y_ic rfl rfl ?_
              refine y_ic rfl rfl ?_
              refine y_ld (x := iv y) rfl rfl (fun d => rfl) ?_
              refine y_ld (x := iv n) rfl rfl (fun d => rfl) ?_
              refine y_ld (x := iv (dn : Int)) rfl rfl (fun d => rfl) ?_
              have hle := v_bs_le x B
              have hmo := v_bs_mono x B 16 (by omega)
              obtain ⟨T, hT⟩ : ∃ T : Nat, v_bs x B = (T : Int) := ⟨(v_bs x B).toNat, by omega⟩
              rw [hT] at f2 f3
              have hT4 : T ≤ 4 := by omega
              have hp4 : 4 ^ T ≤ 256 := by
                have := Nat.pow_le_pow_right (show 0 < 4 by decide) hT4
                omega
              have hA1 : AR V T 0 0 (v_up W1 170 38 0) := ⟨FrX_tr f1 ⟨fun k hk => v_up_ne (by omega), fun i2 hi => v_up_ni (by omega)⟩, by rw [v_up_ni (by decide)]; exact f2, by rw [v_up_eq]; omega, by rw [v_up_ne (by decide), hBn]; exact fun q hq => f3 q (by omega), fun q hq => absurd hq (by omega)⟩
              refine y_cV (as := [.ref 170, iv ((0 : Nat) : Int), iv 0, iv y, iv n, iv (dn : Int)]) rfl rfl rfl rfl rfl (md170 hM) ⟨rfl, (Nat.le_of_ble_eq_true rfl), (Nat.le_of_ble_eq_true rfl)⟩ (by omega) (ct_arr hM hSO hTO hMTs (by omega) (by omega) (by omega) hT4 T 0 (by omega) 0 0 _ _ _ _ (by decide) (by decide) (by omega) hA1 (fun W2 a1 => ?_))
              obtain ⟨b1, b2, b3, b4, b5⟩ := a1
              refine y_n0 ?_
              refine y_ld (x := iv i) rfl rfl (fun d => rfl) ?_
              refine y_ic rfl rfl ?_
              refine y_jne rfl rfl rfl (by omega) (fun g7 => ?_) (fun g7 => ?_)
              · refine y_ld (x := .ref 170) rfl rfl (fun d => rfl) ?_
                refine y_gI (i := 38) (e := (W2 170 38)) rfl rfl rfl (md170 hM) rfl rfl ?_
                refine y_zle rfl rfl rfl (by omega) (fun g8 => ?_) (fun g8 => ?_)
                · refine y_ic rfl rfl ?_
                  refine y_rI rfl (Or.inl rfl) ?_
                  exact k2 (by omega) (by omega) _ W2 b1
                · refine y_ld (x := iv i) rfl rfl (fun d => rfl) ?_
                  refine y_ld (x := .ref 170) rfl rfl (fun d => rfl) ?_
                  refine y_gI (i := 37) (e := (T : Int)) rfl rfl rfl (md170 hM) rfl b2 ?_
                  refine y_jge rfl rfl rfl (by omega) (fun g9 => ?_) (fun g9 => ?_)
                  · refine y_ic rfl rfl ?_
                    refine y_rI rfl (Or.inl rfl) ?_
                    exact k2 (by omega) (by omega) _ W2 b1
                  · refine y_ld (x := .ref 170) rfl rfl (fun d => rfl) ?_
                    refine y_gR (i := 36) rfl rfl rfl (md170 hM) rfl ?_
                    refine y_ld (x := iv i) rfl rfl (fun d => rfl) ?_
                    refine y_ild (x := (W2 191 i.toNat)) (q := i.toNat) rfl rfl (md191 hM) (by omega) (by decide) (by omega) rfl ?_
                    refine y_go rfl rfl ?_
                    refine y_rI rfl (Or.inl rfl) ?_
                    exact k2 (by omega) (by omega) _ W2 b1
              · refine y_ld (x := .ref 170) rfl rfl (fun d => rfl) ?_
                refine y_gI (i := 38) (e := (W2 170 38)) rfl rfl rfl (md170 hM) rfl rfl ?_
                refine y_rI rfl (Or.inl rfl) ?_
                exact k2 (by omega) (by omega) _ W2 b1
            · refine y_bi rfl rfl (by decide) ?_
              refine y_rI rfl (Or.inl rfl) ?_
              exact k1 (by omega) (by omega)
    · refine y_ic rfl rfl ?_
      refine y_rI rfl (Or.inl rfl) ?_
      exact k0 (by omega)
end
end
section
/-! shown, ways: the class -/
def S116l (lf : Value) : List Value := [.ref 117, .ref 118, .ref 119, .ref 120, .int 0, lf, .int 0, .int 0, .int 0, .ref 121]
/-- the shape but for the two cells of the search that change -/
def SQ2 (S S' : m_H) : Prop := (∀ k t vs, k ≠ 116 → k ≠ 119 → ce S k t vs → ce S' k t vs) ∧ (∀ t v, v_asg S t v → v_asg S' t v) ∧ S'.length = S.length
theorem SQ2_rf (S : m_H) : SQ2 S S := ⟨fun _ _ _ _ _ h => h, fun _ _ h => h, rfl⟩
theorem SQ2_tr {S S' S'' : m_H} (h : SQ2 S S') (h2 : SQ2 S' S'') : SQ2 S S'' := ⟨fun k t vs a b c => h2.1 k t vs a b (h.1 k t vs a b c), fun t v a => h2.2.1 t v (h.2.1 t v a), h2.2.2.trans h.2.2⟩
theorem SQ2_set {S : m_H} {q t : Nat} {vs vs' : List Value} (h : ce S q t vs) (hq : q = 116 ∨ q = 119) : SQ2 S (S.set q (t, vs')) := by
  refine ⟨fun k t2 us h1 h2 hc => ce_ne hc (by omega), fun t2 v hv => ?_, List.length_set⟩
  rcases hv with hv | ⟨x, ws, h1, h2⟩
  · exact Or.inl hv
  · by_cases hx : x = q
    · subst hx
      have e := h.2.symm.trans h2.2
      simp only [Option.some.injEq, Prod.mk.injEq] at e
      exact Or.inr ⟨x, vs', h1, by rw [← e.1]; exact ce_eq h⟩
    · exact Or.inr ⟨x, ws, h1, ce_ne h2 hx⟩
theorem ClF_2 {S S' : m_H} (h : ClF S) (hS : SQ2 S S') : ClF S' := by
  intro k t vs hk
  refine hS.1 k t vs (fun e => ?_) (fun e => ?_) (h k t vs hk)
  all_goals
    subst e
    unfold cl_at at hk
    rw [if_pos (by decide)] at hk
    cases hk
theorem MdS_2 {S S' : m_H} (h : MdS S) (hS : SQ2 S S') : MdS S' := by
  have e : ∀ k t vs, k ≠ 116 → k ≠ 119 → ce S k t vs → ce S' k t vs := hS.1
  obtain ⟨a0, a1, a2, a3, a4, a5, a6, a7, a8, a9, b0, b1, b2, b3, b4, b5, b6, b7, b8, b9, c0, c1, c2⟩ := h
  exact ⟨e _ _ _ (by decide) (by decide) a0, e _ _ _ (by decide) (by decide) a1, e _ _ _ (by decide) (by decide) a2, e _ _ _ (by decide) (by decide) a3, e _ _ _ (by decide) (by decide) a4, e _ _ _ (by decide) (by decide) a5, e _ _ _ (by decide) (by decide) a6, e _ _ _ (by decide) (by decide) a7, e _ _ _ (by decide) (by decide) a8, e _ _ _ (by decide) (by decide) a9, e _ _ _ (by decide) (by decide) b0, e _ _ _ (by decide) (by decide) b1, e _ _ _ (by decide) (by decide) b2, e _ _ _ (by decide) (by decide) b3, e _ _ _ (by decide) (by decide) b4, e _ _ _ (by decide) (by decide) b5, e _ _ _ (by decide) (by decide) b6, e _ _ _ (by decide) (by decide) b7, e _ _ _ (by decide) (by decide) b8, e _ _ _ (by decide) (by decide) b9, e _ _ _ (by decide) (by decide) c0, e _ _ _ (by decide) (by decide) c1, e _ _ _ (by decide) (by decide) c2⟩
theorem TxS_2 {S S' : m_H} {t : Nat} (ht : 193 ≤ t) (hx : TxS S t) (h : SQ2 S S') : TxS S' t :=
  ⟨h.1 _ _ _ (by omega) (by omega) hx.1, h.1 _ _ _ (by omega) (by omega) hx.2.1, h.1 _ _ _ (by omega) (by omega) hx.2.2.1, h.1 _ _ _ (by omega) (by omega) hx.2.2.2.1, h.1 _ _ _ (by omega) (by omega) hx.2.2.2.2.1, h.1 _ _ _ (by omega) (by omega) hx.2.2.2.2.2.1, h.1 _ _ _ (by omega) (by omega) hx.2.2.2.2.2.2⟩
def XsA (S : m_H) : Prop := ∃ xs, ce S 119 22 xs ∧ xs.length = 4 ∧ ∀ v ∈ xs, v_asg S 22 v
/-- the numbers but for those that a search leaves behind -/
def FrV (V V' : v_V) : Prop := ∀ k, k ≠ 116 → k ≠ 120 → k ≠ 121 → (k < 131 ∨ (154 ≤ k ∧ k < 158) ∨ 170 ≤ k) → V' k = V k
theorem FrV_rf (V : v_V) : FrV V V := fun _ _ _ _ _ => rfl
theorem FrV_tr {V V' V'' : v_V} (h : FrV V V') (h2 : FrV V' V'') : FrV V V'' := fun k a b c d => (h2 k a b c d).trans (h k a b c d)
theorem FrV_S {V V' : v_V} (h : FrS 0 V V') : FrV V V' := fun k _ _ c d => h k c (by omega)
theorem SgC_0 {V V' : v_V} (h : SgC V 0 0 4 (fun _ _ => 0) aw0) (e : FrV V V') {form : Int} {m : Nat} (hm : m ≤ 4) : SgC V' 0 form m (fun _ _ => 0) aw0 := by
  refine ⟨fun i hi p hp => ?_, fun hf => ?_⟩
  · rw [e _ (by omega) (by omega) (by omega) (by omega)]
    exact h.1 i (by omega) p hp
  · exact RWc_r (h.2 (by decide)) ⟨by rw [e _ (by omega) (by omega) (by omega) (by omega)], by rw [e _ (by omega) (by omega) (by omega) (by omega)], by rw [e _ (by omega) (by omega) (by omega) (by omega)]⟩ (e _ (by omega) (by omega) (by omega) (by omega)) (e _ (by omega) (by omega) (by omega) (by omega)) (e _ (by omega) (by omega) (by omega) (by omega))
theorem RS_2 {S S' : m_H} {V V' : v_V} {B : Nat} {σ : Nat → Int} {tl : Nat → List p_Li} (h : RS S V B σ tl) (hB : B = 1 ∨ B = 58) (hS : SQ2 S S') (hV : FrV V V') : RS S' V' B σ tl := by
  have hhi : ∀ k, 193 ≤ k → V' k = V k := fun k hk => hV k (by omega) (by omega) (by omega) (by omega)
  have hp : ∀ (vs : List Value) (N q : Nat) (lim : Int), PkA S V vs N lim σ q → PkA S' V' vs N lim σ q := by
    intro vs N q lim ⟨a1, a2, a3⟩
    refine ⟨a1, fun v hv => hS.2.1 _ _ (a2 v hv), fun i hi => ?_⟩
    obtain ⟨pk, b1, b2, b3⟩ := a3 i hi
    have b4 := PkS_r b3 (hhi pk b2)
    exact ⟨pk, b1, b2, hS.1 _ _ _ (by omega) (by omega) b4.1, b4.2⟩
  obtain ⟨h1, ⟨ta, a1, a2, a3, a4⟩, ⟨wa, w1, w2⟩, ⟨la, l1, l2⟩⟩ := h
  refine ⟨RN_fr h1 (fun k x y => hV k (by omega) (by omega) (by omega) (by omega)), ⟨ta, hS.1 _ _ _ (by omega) (by omega) a1, a2, fun v hv => hS.2.1 _ _ (a3 v hv), fun i hi => ?_⟩, ⟨wa, hS.1 _ _ _ (by omega) (by omega) w1, hp _ _ _ _ w2⟩, ⟨la, hS.1 _ _ _ (by omega) (by omega) l1, hp _ _ _ _ l2⟩⟩
  obtain ⟨t, b1, b2, b3, b4⟩ := a4 i hi
  exact ⟨t, b1, b2, TxS_2 b2 b3 hS, CT_hi hhi b2 b4⟩
section
variable {X : Nat → List Int32} {u w : Nat} {S : m_H} {V : v_V} {K : v_K}
set_option maxRecDepth 100000 in
set_option maxHeartbeats 4000000 in
theorem cs_begin (hC : ClF S) {lf : Value} (h116 : ce S 116 4 (S116l lf)) (hX : XsA S) {σ : Nat → Int} {tl : Nat → List p_Li} (hRS : RS S V 1 σ tl) {al : Nat} (hal : σ 5 = (al : Int)) {form N : Int} {ts : Nat → List p_Li} (k : ∀ S2 V2, SrC S2 V2 form N al 0 ts σ → XsA S2 → SQ2 S S2 → FrV V V2 → ClF S2 → K u w none S2 V2) : y_R X 1 32 u w [.ref 116, .ref 7, iv (al : Int), iv form, iv N] S V K := by
  refine y_ent (lv' := [(0, .ref 116), (1, .ref 7), (2, iv (al : Int)), (3, iv form), (4, iv N)]) (Nat.le_of_ble_eq_true rfl) rfl ?_
  refine y_ld (x := .ref 116) rfl rfl (fun d => rfl) ?_
  refine y_ld (x := .ref 7) rfl rfl (fun d => rfl) ?_
  refine y_pR (i := 5) rfl rfl rfl h116 (by simp [S116l]) ⟨rfl, fun x hx => by cases hx⟩ ?_
  have h116b : ce (S.set 116 (4, S116l (.ref 7))) 116 4 (S116l (.ref 7)) := ce_eq h116
  refine y_S (S' := S.set 116 (4, S116l (.ref 7))) rfl ?_
  refine y_ld (x := .ref 116) rfl rfl (fun d => rfl) ?_
  refine y_ld (x := iv (al : Int)) rfl rfl (fun d => rfl) ?_
  refine y_pI (i := 6) rfl rfl rfl h116b rfl rfl ?_
  refine y_ld (x := .ref 116) rfl rfl (fun d => rfl) ?_
  refine y_ld (x := iv form) rfl rfl (fun d => rfl) ?_
  refine y_pI (i := 7) rfl rfl rfl h116b rfl rfl ?_
  refine y_ld (x := .ref 116) rfl rfl (fun d => rfl) ?_
  refine y_ld (x := iv N) rfl rfl (fun d => rfl) ?_
  refine y_pI (i := 8) rfl rfl rfl h116b rfl rfl ?_
  refine y_ld (x := .ref 116) rfl rfl (fun d => rfl) ?_
  refine y_ic rfl rfl ?_
  refine y_pI (i := 4) rfl rfl rfl h116b rfl rfl ?_
  refine y_ret rfl (fun d => rfl) ?_
  have hq := SQ2_set (vs' := S116l (.ref 7)) h116 (Or.inl rfl)
  obtain ⟨xs, x1, x2, x3⟩ := hX
  obtain ⟨la, y1, y2, y3, y4⟩ := hRS.2.2.2
  have x1b : ce (S.set 116 (4, S116l (.ref 7))) 119 22 xs := ce_ne x1 (by decide)
  have y1b : ce (S.set 116 (4, S116l (.ref 7))) 7 24 la := ce_ne y1 (by decide)
  refine k _ _ ⟨h116b, ⟨rfl, rfl, rfl, rfl⟩, ⟨xs, x1b, x2, fun i hi => absurd hi (by omega)⟩, la, y1b, y2, fun q hq2 => ?_⟩ ⟨xs, x1b, x2, fun v hv => hq.2.1 _ _ (x3 v hv)⟩ hq (fun k h1 _ _ _ => by rw [v_up_ne h1, v_up_ne h1, v_up_ne h1, v_up_ne h1]) (ClF_2 hC hq)
  obtain ⟨pk, p1, p2, p3⟩ := y4 q (by omega)
  have p4 : PkS S (v_up (v_up (v_up (v_up V 116 6 al) 116 7 form) 116 8 N) 116 4 0) pk _ _ _ _ := PkS_r p3 (by rw [v_up_ne (by omega), v_up_ne (by omega), v_up_ne (by omega), v_up_ne (by omega)])
  exact ⟨pk, p1, p2, ce_ne p4.1 (by omega), p4.2⟩
set_option maxRecDepth 100000 in
set_option maxHeartbeats 4000000 in
theorem cs_add (hC : ClF S) {form N : Int} {al m : Nat} {ts ts2 : Nat → List p_Li} {σ : Nat → Int} (hSr : SrC S V form N al m ts σ) (hX : XsA S) (hm : m < 4) {t : Nat} {l : List p_Li} (ht9 : 193 ≤ t) (ht : TxS S t) (hct : CT V t l) (hts1 : ts2 m = l) (hts2 : ∀ i, i < m → ts2 i = ts i) {p : Int} (k : ∀ S2 V2, SrC S2 V2 form N al (m + 1) ts2 σ → XsA S2 → SQ2 S S2 → FrV V V2 → ClF S2 → (V2 120 m = p ∧ ∀ q, q ≠ m → V2 120 q = V 120 q) → K u w none S2 V2) : y_R X 1 33 u w [.ref 116, .ref t, iv p] S V K := by
  obtain ⟨xs, x1, x2, x3⟩ := hX
  refine y_ent (lv' := [(0, .ref 116), (1, .ref t), (2, iv p)]) (Nat.le_of_ble_eq_true rfl) rfl ?_
  refine y_ld (x := .ref 116) rfl rfl (fun d => rfl) ?_
  refine y_gI (i := 4) (e := (m : Int)) rfl rfl rfl hSr.1 rfl hSr.2.1.1 ?_
  refine y_ic rfl rfl ?_
  refine y_jge rfl rfl rfl (by omega) (fun g1 => ?_) (fun g1 => ?_)
  · refine y_ret rfl (fun d => rfl) ?_
    exact absurd hm (by omega)
  · refine y_ld (x := .ref t) rfl rfl (fun d => rfl) ?_
    refine y_in (pc' := 13) rfl rfl (fun d => rfl) ?_
    refine y_ld (x := .ref 116) rfl rfl (fun d => rfl) ?_
    refine y_gR (i := 2) rfl rfl rfl hSr.1 rfl ?_
    refine y_ld (x := .ref 116) rfl rfl (fun d => rfl) ?_
    refine y_gI (i := 4) (e := (m : Int)) rfl rfl rfl hSr.1 rfl hSr.2.1.1 ?_
    refine y_ld (x := .ref t) rfl rfl (fun d => rfl) ?_
    refine y_rst (i := m) rfl rfl x1 (by decide) (by omega) (by omega) (by omega) (Or.inr ⟨t, _, rfl, ht.1⟩) ?_
    have hq := SQ2_set (vs' := xs.set m (.ref t)) x1 (Or.inr rfl)
    have hC2 := ClF_2 hC hq
    have hS1 : ce (S.set 119 (22, xs.set m (.ref t))) 116 4 (S116l (.ref 7)) := ce_ne hSr.1 (by decide)
    refine y_ld (x := .ref 116) rfl rfl (fun d => rfl) ?_
    refine y_gR (i := 3) rfl rfl rfl hS1 rfl ?_
    refine y_ld (x := .ref 116) rfl rfl (fun d => rfl) ?_
    refine y_gI (i := 4) (e := (m : Int)) rfl rfl rfl hS1 rfl hSr.2.1.1 ?_
    refine y_ld (x := iv p) rfl rfl (fun d => rfl) ?_
    refine y_ist (q := m) rfl rfl (cl_ia hC2 (k := 120) (N := 4) rfl) (by omega) (by decide) (by omega) ?_
    refine y_ld (x := .ref 116) rfl rfl (fun d => rfl) ?_
    refine y_in rfl rfl (fun d => rfl) ?_
    refine y_gI (i := 4) (e := (m : Int)) rfl rfl rfl hS1 rfl (by rw [v_up_ne (by decide)]; exact hSr.2.1.1) ?_
    refine y_ic rfl rfl ?_
    refine y_add (z := ((m : Int) + 1)) rfl rfl rfl ?_
    refine y_pI (i := 4) rfl rfl rfl hS1 rfl rfl ?_
    refine y_ret rfl (fun d => rfl) ?_
    obtain ⟨s1, ⟨s2, s3, s4, s5⟩, ⟨zs, z1, z2, z3⟩, la, y1, y2, y3⟩ := hSr
    have ezs : zs = xs := by
      have e := z1.2.symm.trans x1.2
      simp only [Option.some.injEq, Prod.mk.injEq] at e
      exact e.2
    subst ezs
    have hhi : ∀ k, 193 ≤ k → (v_up (v_up V 120 m p) 116 4 ((m : Int) + 1)) k = V k := fun k hk => by rw [v_up_ne (by omega), v_up_ne (by omega)]
    have e116 : ∀ i, i ≠ 4 → (v_up (v_up V 120 m p) 116 4 ((m : Int) + 1)) 116 i = V 116 i := fun i hi => by rw [v_up_ni hi, v_up_ne (by decide)]
    refine k _ _ ⟨hS1, ⟨by rw [v_up_eq]; omega, (e116 6 (by decide)).trans s3, (e116 7 (by decide)).trans s4, (e116 8 (by decide)).trans s5⟩, ⟨zs.set m (.ref t), ce_eq x1, by rw [List.length_set]; exact x2, fun i hi => ?_⟩, la, ce_ne y1 (by decide), y2, fun q hq2 => ?_⟩ ⟨zs.set m (.ref t), ce_eq x1, by rw [List.length_set]; exact x2, fun v hv => ?_⟩ hq (fun k h1 h2 _ _ => by rw [v_up_ne h1, v_up_ne h2]) hC2 ⟨by rw [v_up_ne (by decide), v_up_eq], fun q hq5 => by rw [v_up_ne (by decide), v_up_ni hq5]⟩
    · rw [m_nth_set]
      by_cases hi2 : i = m
      · subst hi2
        refine ⟨t, ?_, ht9, TxS_2 ht9 ht hq, CT_hi hhi ht9 (by rw [hts1]; exact hct)⟩
        rw [if_pos rfl, m_nth_eq, List.getElem?_eq_getElem (by omega)]
        rfl
      · obtain ⟨t2, a1, a2, a3, a4⟩ := z3 i (by omega)
        rw [if_neg hi2]
        exact ⟨t2, a1, a2, TxS_2 a2 a3 hq, CT_hi hhi a2 (by rw [hts2 i (by omega)]; exact a4)⟩
    · obtain ⟨pk, p1, p2, p3⟩ := y3 q hq2
      have p4 := PkS_r p3 (hhi pk p2)
      exact ⟨pk, p1, p2, ce_ne p4.1 (by omega), p4.2⟩
    · rcases List.mem_or_eq_of_mem_set hv with h7 | h7
      · exact hq.2.1 _ _ (x3 v h7)
      · rw [h7]; exact Or.inr ⟨t, _, rfl, (TxS_2 ht9 ht hq).1⟩
end
end
section
/-! shown, ways: the class -/
/-- what the search's calls leave -/
def SrE (S : m_H) (V : v_V) (S2 : m_H) (V2 : v_V) : Prop := SQ2 S S2 ∧ ce S2 116 4 (S116l (.ref 7)) ∧ XsA S2 ∧ FrV V V2
section
variable {X : Nat → List Int32} {u w : Nat} {S : m_H} {V : v_V} {K : v_K}
set_option maxRecDepth 100000 in
set_option maxHeartbeats 4000000 in
theorem cs_shown (hC : ClF S) {tl : Nat → List p_Li} {cnt : Nat} {σ : Nat → Int} (hRS : RS S V 1 σ tl) (hSO : SO cnt σ) (hTO : ∀ i : Nat, (i : Int) < σ 0 → TO (tl i)) {lf : Value} (h116 : ce S 116 4 (S116l lf)) (hX : XsA S) (hSg : SgC V 0 0 4 (fun _ _ => 0) aw0) {x : Int} (hx : (-2147483648 ≤ x ∧ x < 2147483648)) {y : Int} (hy : (-2147483648 ≤ y ∧ y < 2147483648)) {n : Int} (hn : (-2147483648 ≤ n ∧ n < 2147483648)) {d : Int} (hd : (-2147483648 ≤ d ∧ d < 2147483648)) {i : Int} (hi : (-2147483648 ≤ i ∧ i < 2147483648)) (k0 : ¬ ((0 ≤ x ∧ x < σ 0) ∧ (0 ≤ y ∧ y ≤ 4) ∧ -2 ≤ i) → K u w (some (iv (-1))) S V) (k1 : ((0 ≤ x ∧ x < σ 0) ∧ (0 ≤ y ∧ y ≤ 4) ∧ -2 ≤ i) → ¬ ((0 ≤ n ∧ n ≤ 99) ∧ (1 ≤ d ∧ d ≤ 3)) → K u w (some (iv (-2))) S V) (k2 : ∀ al : Nat, ((0 ≤ x ∧ x < σ 0) ∧ (0 ≤ y ∧ y ≤ 4) ∧ -2 ≤ i) → ((0 ≤ n ∧ n ≤ 99) ∧ (1 ≤ d ∧ d ≤ 3)) → σ 5 = (al : Int) → ∀ dn : Nat, d = (dn : Int) → ∀ l v, resP (hitV y n σ (fun _ => tl x.toNat) 1 al) al dn l v → ∀ S2 V2, SrE S V S2 V2 → K u w (some (iv (shA al l v i))) S2 V2) : y_R X 15 88 u w [.ref 0, iv x, iv y, iv n, iv d, iv i] S V K := by
  obtain ⟨n1, n2, n3, n4⟩ := hRS.1
  have hsz := hSO.1
  obtain ⟨ta, hT, hTt⟩ := TAx_RT hRS.2.1 hRS.1 hSO
  obtain ⟨al, hal⟩ : ∃ al : Nat, σ 5 = (al : Int) := ⟨(σ 5).toNat, by omega⟩
  have hal5 : al ≤ 5 := by omega
  have hpq : ∀ q : Nat, q < al → pkO (σ (1770 + 4 * q)) (σ (1770 + 4 * q + 1)) (σ (1770 + 4 * q + 2)) (σ (1770 + 4 * q + 3)) := fun q hq => hSO.2.2.2.2.2.2 q (by omega)
  refine y_ent (lv' := [(0, .ref 0), (1, iv x), (2, iv y), (3, iv n), (4, iv d), (5, iv i)]) (Nat.le_of_ble_eq_true rfl) rfl ?_
  refine y_ld (x := .ref 0) rfl rfl (fun d => rfl) ?_
  refine y_gR (i := 0) rfl rfl rfl (hC 0 _ _ rfl) rfl ?_
  refine y_ld (x := iv x) rfl rfl (fun d => rfl) ?_
  refine y_cV (as := [.ref 1, iv x]) rfl rfl rfl rfl rfl (hC 1 _ _ rfl) ⟨rfl, (Nat.le_of_ble_eq_true rfl), (Nat.le_of_ble_eq_true rfl)⟩ (by decide) (cb_textAt (x := x) hC hT (by omega) (fun gT1 => ?_) (fun (t : Nat) gT1 ht1a ht1b ht1c => ?_))
  · refine y_nv ?_
    refine y_st (lv' := [(6, .null), (0, .ref 0), (1, iv x), (2, iv y), (3, iv n), (4, iv d), (5, iv i)]) rfl rfl (fun d => rfl) ?_
    refine y_ld (x := .null) rfl rfl (fun d => rfl) ?_
    refine y_in (pc' := 29) rfl rfl (fun d => rfl) ?_
    refine y_ic rfl rfl ?_
    refine y_rI rfl (Or.inl rfl) ?_
    exact k0 (by omega)
  · obtain ⟨-, -, hct1⟩ := hTt x.toNat t (by omega) ht1a
    refine y_nv ?_
    refine y_st (lv' := [(6, .ref t), (0, .ref 0), (1, iv x), (2, iv y), (3, iv n), (4, iv d), (5, iv i)]) rfl rfl (fun d => rfl) ?_
    refine y_ld (x := .ref t) rfl rfl (fun d => rfl) ?_
    refine y_in (pc' := 15) rfl rfl (fun d => rfl) ?_
    refine y_ld (x := iv y) rfl rfl (fun d => rfl) ?_
    refine y_cS (as := [iv y]) rfl (by decide) rfl rfl rfl rfl ⟨(Nat.le_of_ble_eq_true rfl), (Nat.le_of_ble_eq_true rfl)⟩ (by decide) (cc_isForm (by omega) ?_)
    refine y_nv ?_
    refine y_beq rfl rfl rfl (fun g1 => ?_) (fun g1 => ?_)
    · refine y_ic rfl rfl ?_
      refine y_rI rfl (Or.inl rfl) ?_
      exact k0 (by omega)
    · refine y_ld (x := iv i) rfl rfl (fun d => rfl) ?_
      refine y_bi rfl rfl (by decide) ?_
      refine y_jge rfl rfl rfl (by omega) (fun g2 => ?_) (fun g2 => ?_)
      · refine y_ld (x := iv n) rfl rfl (fun d => rfl) ?_
        refine y_cS (as := [iv n]) rfl (by decide) rfl rfl rfl rfl ⟨(Nat.le_of_ble_eq_true rfl), (Nat.le_of_ble_eq_true rfl)⟩ (by decide) (cc_isN (by omega) ?_)
        refine y_nv ?_
        refine y_beq rfl rfl rfl (fun g3 => ?_) (fun g3 => ?_)
        · refine y_bi rfl rfl (by decide) ?_
          refine y_rI rfl (Or.inl rfl) ?_
          exact k1 (by omega) (by omega)
        · refine y_ld (x := iv d) rfl rfl (fun d => rfl) ?_
          refine y_cS (as := [iv d]) rfl (by decide) rfl rfl rfl rfl ⟨(Nat.le_of_ble_eq_true rfl), (Nat.le_of_ble_eq_true rfl)⟩ (by decide) (cc_isDepth (by omega) ?_)
          refine y_nv ?_
          refine y_bne rfl rfl rfl (fun g4 => ?_) (fun g4 => ?_)
          · obtain ⟨dn, rfl⟩ : ∃ dn : Nat, d = (dn : Int) := ⟨d.toNat, by omega⟩
            refine y_ld (x := .ref 0) rfl rfl (fun d => rfl) ?_
            refine y_gR (i := 4) rfl rfl rfl (hC 0 _ _ rfl) rfl ?_
            refine y_ld (x := .ref 0) rfl rfl (fun d => rfl) ?_
            refine y_gR (i := 0) rfl rfl rfl (hC 0 _ _ rfl) rfl ?_
            refine y_gR (i := 11) rfl rfl rfl (hC 1 _ _ rfl) rfl ?_
            refine y_ld (x := .ref 0) rfl rfl (fun d => rfl) ?_
            refine y_gR (i := 0) rfl rfl rfl (hC 0 _ _ rfl) rfl ?_
            refine y_gI (i := 12) (e := (al : Int)) rfl rfl rfl (hC 1 _ _ rfl) rfl (n1.2.2.2.2.2.2.trans hal) ?_
            refine y_ld (x := iv y) rfl rfl (fun d => rfl) ?_
            refine y_ld (x := iv n) rfl rfl (fun d => rfl) ?_
            refine y_cV (as := [.ref 116, .ref 7, iv (al : Int), iv y, iv n]) rfl rfl rfl rfl rfl h116 ⟨rfl, (Nat.le_of_ble_eq_true rfl), (Nat.le_of_ble_eq_true rfl)⟩ (by decide) (cs_begin (form := y) (N := n) (ts := (fun _ => tl x.toNat)) hC h116 hX hRS hal (fun S1 V1 hSr1 hX1 q1 f1 hC1 => ?_))
            refine y_n0 ?_
            refine y_ld (x := .ref 0) rfl rfl (fun d => rfl) ?_
            refine y_gR (i := 4) rfl rfl rfl (hC1 0 _ _ rfl) rfl ?_
            refine y_ld (x := .ref t) rfl rfl (fun d => rfl) ?_
            refine y_ic rfl rfl ?_
            refine y_cV (as := [.ref 116, .ref t, iv (-1)]) rfl rfl rfl rfl rfl hSr1.1 ⟨rfl, (Nat.le_of_ble_eq_true rfl), (Nat.le_of_ble_eq_true rfl)⟩ (by decide) (cs_add (ts2 := (fun _ => tl x.toNat)) hC1 hSr1 hX1 (by decide) ht1b (TxS_2 ht1b ht1c q1) (CT_hi (fun k hk => f1 k (by omega) (by omega) (by omega) (by omega)) ht1b hct1) rfl (fun i hi => absurd hi (by omega)) (fun S2 V2 hSr2 hX2 q2 f2 hC2 o2 => ?_))
            refine y_n0 ?_
            refine y_ld (x := .ref 0) rfl rfl (fun d => rfl) ?_
            refine y_gR (i := 4) rfl rfl rfl (hC2 0 _ _ rfl) rfl ?_
            refine y_ld (x := iv (dn : Int)) rfl rfl (fun d => rfl) ?_
            have hfr := (FrV_tr f1 f2)
            refine y_cV (as := [.ref 116, iv (dn : Int)]) rfl rfl rfl rfl rfl hSr2.1 ⟨rfl, (Nat.le_of_ble_eq_true rfl), (Nat.le_of_ble_eq_true rfl)⟩ (by decide) (cc_shortest (mt := 1) hC2 (by decide) hal5 (fun _ _ => hTO x.toNat (by omega)) hpq (by omega) (by omega) (by omega) hSr2 (SgC_0 hSg hfr (by decide)) (fun l v V4 b1 b2 b3 b4 => ?_) (fun b2 V4 b4 => ?_))
            · have hl1 := b2.1
              have hl3 : l ≤ 3 := by omega
              have hfx := FrV_tr hfr (FrV_S b4)
              have hres := (Or.inl ⟨b1, b2⟩ : resP _ al dn l v)
              refine y_nv ?_
              refine y_st (lv' := [(7, iv (l : Int)), (6, .ref t), (0, .ref 0), (1, iv x), (2, iv y), (3, iv n), (4, iv (dn : Int)), (5, iv i)]) rfl rfl (fun d => rfl) ?_
              refine y_ld (x := iv i) rfl rfl (fun d => rfl) ?_
              refine y_ic rfl rfl ?_
              refine y_jne rfl rfl rfl (by omega) (fun g5 => ?_) (fun g5 => ?_)
              · refine y_ld (x := iv i) rfl rfl (fun d => rfl) ?_
                refine y_bi rfl rfl (by decide) ?_
                refine y_jne rfl rfl rfl (by omega) (fun g6 => ?_) (fun g6 => ?_)
                · refine y_ld (x := iv i) rfl rfl (fun d => rfl) ?_
                  refine y_ld (x := iv (l : Int)) rfl rfl (fun d => rfl) ?_
                  refine y_jge rfl rfl rfl (by omega) (fun g7 => ?_) (fun g7 => ?_)
                  · refine y_ic rfl rfl ?_
                    refine y_rI rfl (Or.inl rfl) ?_
                    have k3 := k2 al (by omega) (by omega) hal dn rfl l v hres S2 V4 ⟨(SQ2_tr q1 q2), hSr2.1, hX2, hfx⟩
                    have e9 : shA al l v i = -1 := by
                      unfold shA
                      rw [if_neg (by omega), if_neg (by omega), if_neg (by omega)]
                    rwa [e9] at k3
                  · refine y_ld (x := .ref 0) rfl rfl (fun d => rfl) ?_
                    refine y_gR (i := 4) rfl rfl rfl (hC2 0 _ _ rfl) rfl ?_
                    refine y_gR (i := 9) rfl rfl rfl hSr2.1 rfl ?_
                    refine y_ld (x := iv i) rfl rfl (fun d => rfl) ?_
                    refine y_ild (x := ((v / al ^ (l - 1 - i.toNat) % al : Nat) : Int)) (q := i.toNat) rfl rfl (cl_ia hC2 (k := 121) (N := 3) rfl) (by omega) (by decide) (by omega) (b3 i.toNat (by omega)) ?_
                    refine y_go rfl rfl ?_
                    refine y_rI rfl (Or.inl rfl) ?_
                    have k3 := k2 al (by omega) (by omega) hal dn rfl l v hres S2 V4 ⟨(SQ2_tr q1 q2), hSr2.1, hX2, hfx⟩
                    have e9 : shA al l v i = ((v / al ^ (l - 1 - i.toNat) % al : Nat) : Int) := by
                      unfold shA
                      rw [if_neg (by omega), if_neg (by omega), if_pos (by omega)]
                    rwa [e9] at k3
                · refine y_ld (x := iv (l : Int)) rfl rfl (fun d => rfl) ?_
                  refine y_rI rfl (Or.inl rfl) ?_
                  have k3 := k2 al (by omega) (by omega) hal dn rfl l v hres S2 V4 ⟨(SQ2_tr q1 q2), hSr2.1, hX2, hfx⟩
                  have e9 : shA al l v i = (l : Int) := by
                    unfold shA
                    rw [if_neg (by omega), if_pos (by omega)]
                  rwa [e9] at k3
              · refine y_ld (x := iv (l : Int)) rfl rfl (fun d => rfl) ?_
                refine y_zne rfl rfl rfl (by omega) (fun g8 => ?_) (fun g8 => absurd g8 (by omega))
                refine y_ic rfl rfl ?_
                refine y_rI rfl (Or.inl rfl) ?_
                have k3 := k2 al (by omega) (by omega) hal dn rfl l v hres S2 V4 ⟨(SQ2_tr q1 q2), hSr2.1, hX2, hfx⟩
                have e9 : shA al l v i = 0 := by
                  unfold shA
                  rw [if_pos (by omega), if_neg (by omega)]
                rwa [e9] at k3
            · have hfx := FrV_tr hfr (FrV_S b4)
              have hres := (Or.inr ⟨rfl, rfl, b2⟩ : resP _ al dn 0 0)
              refine y_nv ?_
              refine y_st (lv' := [(7, iv 0), (6, .ref t), (0, .ref 0), (1, iv x), (2, iv y), (3, iv n), (4, iv (dn : Int)), (5, iv i)]) rfl rfl (fun d => rfl) ?_
              refine y_ld (x := iv i) rfl rfl (fun d => rfl) ?_
              refine y_ic rfl rfl ?_
              refine y_jne rfl rfl rfl (by omega) (fun g9 => ?_) (fun g9 => ?_)
              · refine y_ld (x := iv i) rfl rfl (fun d => rfl) ?_
                refine y_bi rfl rfl (by decide) ?_
                refine y_jne rfl rfl rfl (by omega) (fun g10 => ?_) (fun g10 => ?_)
                · refine y_ld (x := iv i) rfl rfl (fun d => rfl) ?_
                  refine y_ld (x := iv 0) rfl rfl (fun d => rfl) ?_
                  refine y_jge rfl rfl rfl (by omega) (fun g11 => ?_) (fun g11 => absurd g11 (by omega))
                  refine y_ic rfl rfl ?_
                  refine y_rI rfl (Or.inl rfl) ?_
                  have k3 := k2 al (by omega) (by omega) hal dn rfl 0 0 hres S2 V4 ⟨(SQ2_tr q1 q2), hSr2.1, hX2, hfx⟩
                  have e9 : shA al 0 0 i = -1 := by
                    unfold shA
                    rw [if_neg (by omega), if_neg (by omega), if_neg (by omega)]
                  rwa [e9] at k3
                · refine y_ld (x := iv 0) rfl rfl (fun d => rfl) ?_
                  refine y_rI rfl (Or.inl rfl) ?_
                  have k3 := k2 al (by omega) (by omega) hal dn rfl 0 0 hres S2 V4 ⟨(SQ2_tr q1 q2), hSr2.1, hX2, hfx⟩
                  have e9 : shA al 0 0 i = 0 := by
                    unfold shA
                    rw [if_neg (by omega), if_pos (by omega)]
                    rfl
                  rwa [e9] at k3
              · refine y_ld (x := iv 0) rfl rfl (fun d => rfl) ?_
                refine y_zne rfl rfl rfl (by decide) (fun g12 => absurd g12 (by decide)) (fun g12 => ?_)
                refine y_ic rfl rfl ?_
                refine y_go rfl rfl ?_
                refine y_rI rfl (Or.inl rfl) ?_
                have k3 := k2 al (by omega) (by omega) hal dn rfl 0 0 hres S2 V4 ⟨(SQ2_tr q1 q2), hSr2.1, hX2, hfx⟩
                have e9 : shA al 0 0 i = 1 := by
                  unfold shA
                  rw [if_pos (by omega), if_pos (by omega)]
                rwa [e9] at k3
          · refine y_bi rfl rfl (by decide) ?_
            refine y_rI rfl (Or.inl rfl) ?_
            exact k1 (by omega) (by omega)
      · refine y_ic rfl rfl ?_
        refine y_rI rfl (Or.inl rfl) ?_
        exact k0 (by omega)
set_option maxRecDepth 100000 in
set_option maxHeartbeats 4000000 in
theorem cs_ways (hC : ClF S) {tl : Nat → List p_Li} {cnt : Nat} {σ : Nat → Int} (hRS : RS S V 1 σ tl) (hSO : SO cnt σ) (hTO : ∀ i : Nat, (i : Int) < σ 0 → TO (tl i)) {lf : Value} (h116 : ce S 116 4 (S116l lf)) (hX : XsA S) (hSg : SgC V 0 0 4 (fun _ _ => 0) aw0) {x : Int} (hx : (-2147483648 ≤ x ∧ x < 2147483648)) {y : Int} (hy : (-2147483648 ≤ y ∧ y < 2147483648)) {d : Int} (hd : (-2147483648 ≤ d ∧ d < 2147483648)) {i : Int} (hi : (-2147483648 ≤ i ∧ i < 2147483648)) (k0 : ¬ ((0 ≤ x ∧ x < σ 0) ∧ (0 ≤ y ∧ y < σ 0) ∧ -1 ≤ i) → K u w (some (iv (-1))) S V) (k1 : ((0 ≤ x ∧ x < σ 0) ∧ (0 ≤ y ∧ y < σ 0) ∧ -1 ≤ i) → ¬ (1 ≤ d ∧ d ≤ 3) → K u w (some (iv (-2))) S V) (k2 : ∀ al : Nat, ((0 ≤ x ∧ x < σ 0) ∧ (0 ≤ y ∧ y < σ 0) ∧ -1 ≤ i) → (1 ≤ d ∧ d ≤ 3) → σ 5 = (al : Int) → ∀ dn : Nat, d = (dn : Int) → ∀ l v, resP (hitV (-1) 0 σ (fun i => if i = 0 then tl x.toNat else tl y.toNat) 2 al) al dn l v → ∀ S2 V2, SrE S V S2 V2 → K u w (some (iv (wyA al l v i))) S2 V2) : y_R X 15 89 u w [.ref 0, iv x, iv y, iv d, iv i] S V K := by
  obtain ⟨n1, n2, n3, n4⟩ := hRS.1
  have hsz := hSO.1
  obtain ⟨ta, hT, hTt⟩ := TAx_RT hRS.2.1 hRS.1 hSO
  obtain ⟨al, hal⟩ : ∃ al : Nat, σ 5 = (al : Int) := ⟨(σ 5).toNat, by omega⟩
  have hal5 : al ≤ 5 := by omega
  have hpq : ∀ q : Nat, q < al → pkO (σ (1770 + 4 * q)) (σ (1770 + 4 * q + 1)) (σ (1770 + 4 * q + 2)) (σ (1770 + 4 * q + 3)) := fun q hq => hSO.2.2.2.2.2.2 q (by omega)
  refine y_ent (lv' := [(0, .ref 0), (1, iv x), (2, iv y), (3, iv d), (4, iv i)]) (Nat.le_of_ble_eq_true rfl) rfl ?_
  refine y_ld (x := .ref 0) rfl rfl (fun d => rfl) ?_
  refine y_gR (i := 0) rfl rfl rfl (hC 0 _ _ rfl) rfl ?_
  refine y_ld (x := iv x) rfl rfl (fun d => rfl) ?_
  refine y_cV (as := [.ref 1, iv x]) rfl rfl rfl rfl rfl (hC 1 _ _ rfl) ⟨rfl, (Nat.le_of_ble_eq_true rfl), (Nat.le_of_ble_eq_true rfl)⟩ (by decide) (cb_textAt (x := x) hC hT (by omega) (fun gT1 => ?_) (fun (t : Nat) gT1 ht1a ht1b ht1c => ?_))
  · refine y_nv ?_
    refine y_st (lv' := [(5, .null), (0, .ref 0), (1, iv x), (2, iv y), (3, iv d), (4, iv i)]) rfl rfl (fun d => rfl) ?_
    refine y_ld (x := .ref 0) rfl rfl (fun d => rfl) ?_
    refine y_gR (i := 0) rfl rfl rfl (hC 0 _ _ rfl) rfl ?_
    refine y_ld (x := iv y) rfl rfl (fun d => rfl) ?_
    refine y_cV (as := [.ref 1, iv y]) rfl rfl rfl rfl rfl (hC 1 _ _ rfl) ⟨rfl, (Nat.le_of_ble_eq_true rfl), (Nat.le_of_ble_eq_true rfl)⟩ (by decide) (cb_textAt (x := y) hC hT (by omega) (fun gT2 => ?_) (fun (t2 : Nat) gT2 ht2a ht2b ht2c => ?_))
    · refine y_nv ?_
      refine y_st (lv' := [(6, .null), (5, .null), (0, .ref 0), (1, iv x), (2, iv y), (3, iv d), (4, iv i)]) rfl rfl (fun d => rfl) ?_
      refine y_ld (x := .null) rfl rfl (fun d => rfl) ?_
      refine y_in (pc' := 36) rfl rfl (fun d => rfl) ?_
      refine y_ic rfl rfl ?_
      refine y_rI rfl (Or.inl rfl) ?_
      exact k0 (by omega)
    · obtain ⟨-, -, hct2⟩ := hTt y.toNat t2 (by omega) ht2a
      refine y_nv ?_
      refine y_st (lv' := [(6, .ref t2), (5, .null), (0, .ref 0), (1, iv x), (2, iv y), (3, iv d), (4, iv i)]) rfl rfl (fun d => rfl) ?_
      refine y_ld (x := .null) rfl rfl (fun d => rfl) ?_
      refine y_in (pc' := 36) rfl rfl (fun d => rfl) ?_
      refine y_ic rfl rfl ?_
      refine y_rI rfl (Or.inl rfl) ?_
      exact k0 (by omega)
  · obtain ⟨-, -, hct1⟩ := hTt x.toNat t (by omega) ht1a
    refine y_nv ?_
    refine y_st (lv' := [(5, .ref t), (0, .ref 0), (1, iv x), (2, iv y), (3, iv d), (4, iv i)]) rfl rfl (fun d => rfl) ?_
    refine y_ld (x := .ref 0) rfl rfl (fun d => rfl) ?_
    refine y_gR (i := 0) rfl rfl rfl (hC 0 _ _ rfl) rfl ?_
    refine y_ld (x := iv y) rfl rfl (fun d => rfl) ?_
    refine y_cV (as := [.ref 1, iv y]) rfl rfl rfl rfl rfl (hC 1 _ _ rfl) ⟨rfl, (Nat.le_of_ble_eq_true rfl), (Nat.le_of_ble_eq_true rfl)⟩ (by decide) (cb_textAt (x := y) hC hT (by omega) (fun gT2 => ?_) (fun (t2 : Nat) gT2 ht2a ht2b ht2c => ?_))
    · refine y_nv ?_
      refine y_st (lv' := [(6, .null), (5, .ref t), (0, .ref 0), (1, iv x), (2, iv y), (3, iv d), (4, iv i)]) rfl rfl (fun d => rfl) ?_
      refine y_ld (x := .ref t) rfl rfl (fun d => rfl) ?_
      refine y_in (pc' := 25) rfl rfl (fun d => rfl) ?_
      refine y_ld (x := .null) rfl rfl (fun d => rfl) ?_
      refine y_in (pc' := 36) rfl rfl (fun d => rfl) ?_
      refine y_ic rfl rfl ?_
      refine y_rI rfl (Or.inl rfl) ?_
      exact k0 (by omega)
    · obtain ⟨-, -, hct2⟩ := hTt y.toNat t2 (by omega) ht2a
      refine y_nv ?_
      refine y_st (lv' := [(6, .ref t2), (5, .ref t), (0, .ref 0), (1, iv x), (2, iv y), (3, iv d), (4, iv i)]) rfl rfl (fun d => rfl) ?_
      refine y_ld (x := .ref t) rfl rfl (fun d => rfl) ?_
      refine y_in (pc' := 25) rfl rfl (fun d => rfl) ?_
      refine y_ld (x := .ref t2) rfl rfl (fun d => rfl) ?_
      refine y_in (pc' := 30) rfl rfl (fun d => rfl) ?_
      refine y_ld (x := iv i) rfl rfl (fun d => rfl) ?_
      refine y_ic rfl rfl ?_
      refine y_jge rfl rfl rfl (by omega) (fun g1 => ?_) (fun g1 => ?_)
      · refine y_ld (x := iv d) rfl rfl (fun d => rfl) ?_
        refine y_cS (as := [iv d]) rfl (by decide) rfl rfl rfl rfl ⟨(Nat.le_of_ble_eq_true rfl), (Nat.le_of_ble_eq_true rfl)⟩ (by decide) (cc_isDepth (by omega) ?_)
        refine y_nv ?_
        refine y_bne rfl rfl rfl (fun g2 => ?_) (fun g2 => ?_)
        · obtain ⟨dn, rfl⟩ : ∃ dn : Nat, d = (dn : Int) := ⟨d.toNat, by omega⟩
          refine y_ld (x := .ref 0) rfl rfl (fun d => rfl) ?_
          refine y_gR (i := 4) rfl rfl rfl (hC 0 _ _ rfl) rfl ?_
          refine y_ld (x := .ref 0) rfl rfl (fun d => rfl) ?_
          refine y_gR (i := 0) rfl rfl rfl (hC 0 _ _ rfl) rfl ?_
          refine y_gR (i := 11) rfl rfl rfl (hC 1 _ _ rfl) rfl ?_
          refine y_ld (x := .ref 0) rfl rfl (fun d => rfl) ?_
          refine y_gR (i := 0) rfl rfl rfl (hC 0 _ _ rfl) rfl ?_
          refine y_gI (i := 12) (e := (al : Int)) rfl rfl rfl (hC 1 _ _ rfl) rfl (n1.2.2.2.2.2.2.trans hal) ?_
          refine y_ic rfl rfl ?_
          refine y_ic rfl rfl ?_
          refine y_cV (as := [.ref 116, .ref 7, iv (al : Int), iv (-1), iv 0]) rfl rfl rfl rfl rfl h116 ⟨rfl, (Nat.le_of_ble_eq_true rfl), (Nat.le_of_ble_eq_true rfl)⟩ (by decide) (cs_begin (form := (-1)) (N := 0) (ts := (fun i => if i = 0 then tl x.toNat else tl y.toNat)) hC h116 hX hRS hal (fun S1 V1 hSr1 hX1 q1 f1 hC1 => ?_))
          refine y_n0 ?_
          refine y_ld (x := .ref 0) rfl rfl (fun d => rfl) ?_
          refine y_gR (i := 4) rfl rfl rfl (hC1 0 _ _ rfl) rfl ?_
          refine y_ld (x := .ref t) rfl rfl (fun d => rfl) ?_
          refine y_ic rfl rfl ?_
          refine y_cV (as := [.ref 116, .ref t, iv (-1)]) rfl rfl rfl rfl rfl hSr1.1 ⟨rfl, (Nat.le_of_ble_eq_true rfl), (Nat.le_of_ble_eq_true rfl)⟩ (by decide) (cs_add (ts2 := (fun i => if i = 0 then tl x.toNat else tl y.toNat)) hC1 hSr1 hX1 (by decide) ht1b (TxS_2 ht1b ht1c q1) (CT_hi (fun k hk => f1 k (by omega) (by omega) (by omega) (by omega)) ht1b hct1) rfl (fun i hi => absurd hi (by omega)) (fun S2 V2 hSr2 hX2 q2 f2 hC2 o2 => ?_))
          refine y_n0 ?_
          refine y_ld (x := .ref 0) rfl rfl (fun d => rfl) ?_
          refine y_gR (i := 4) rfl rfl rfl (hC2 0 _ _ rfl) rfl ?_
          refine y_ld (x := .ref t2) rfl rfl (fun d => rfl) ?_
          refine y_ic rfl rfl ?_
          refine y_cV (as := [.ref 116, .ref t2, iv (-1)]) rfl rfl rfl rfl rfl hSr2.1 ⟨rfl, (Nat.le_of_ble_eq_true rfl), (Nat.le_of_ble_eq_true rfl)⟩ (by decide) (cs_add (ts2 := (fun i => if i = 0 then tl x.toNat else tl y.toNat)) hC2 hSr2 hX2 (by decide) ht2b (TxS_2 ht2b (TxS_2 ht2b ht2c q1) q2) (CT_hi (fun k hk => (FrV_tr f1 f2) k (by omega) (by omega) (by omega) (by omega)) ht2b hct2) rfl (fun i hi => rfl) (fun S3 V3 hSr3 hX3 q3 f3 hC3 o3 => ?_))
          refine y_n0 ?_
          refine y_ld (x := .ref 0) rfl rfl (fun d => rfl) ?_
          refine y_gR (i := 4) rfl rfl rfl (hC3 0 _ _ rfl) rfl ?_
          refine y_ld (x := iv (dn : Int)) rfl rfl (fun d => rfl) ?_
          have hfr := (FrV_tr (FrV_tr f1 f2) f3)
          refine y_cV (as := [.ref 116, iv (dn : Int)]) rfl rfl rfl rfl rfl hSr3.1 ⟨rfl, (Nat.le_of_ble_eq_true rfl), (Nat.le_of_ble_eq_true rfl)⟩ (by decide) (cc_shortest (mt := 2) hC3 (by decide) hal5 (fun i hi => by split <;> first | exact hTO x.toNat (by omega) | exact hTO y.toNat (by omega)) hpq (by omega) (by omega) (by omega) hSr3 (SgC_0 hSg hfr (by decide)) (fun l v V4 b1 b2 b3 b4 => ?_) (fun b2 V4 b4 => ?_))
          · have hl1 := b2.1
            have hl3 : l ≤ 3 := by omega
            have hfx := FrV_tr hfr (FrV_S b4)
            have hres := (Or.inl ⟨b1, b2⟩ : resP _ al dn l v)
            refine y_nv ?_
            refine y_st (lv' := [(7, iv (l : Int)), (6, .ref t2), (5, .ref t), (0, .ref 0), (1, iv x), (2, iv y), (3, iv (dn : Int)), (4, iv i)]) rfl rfl (fun d => rfl) ?_
            refine y_ld (x := iv i) rfl rfl (fun d => rfl) ?_
            refine y_ic rfl rfl ?_
            refine y_jne rfl rfl rfl (by omega) (fun g3 => ?_) (fun g3 => ?_)
            · refine y_ld (x := iv i) rfl rfl (fun d => rfl) ?_
              refine y_ld (x := iv (l : Int)) rfl rfl (fun d => rfl) ?_
              refine y_jge rfl rfl rfl (by omega) (fun g4 => ?_) (fun g4 => ?_)
              · refine y_ic rfl rfl ?_
                refine y_rI rfl (Or.inl rfl) ?_
                have k3 := k2 al (by omega) (by omega) hal dn rfl l v hres S3 V4 ⟨(SQ2_tr (SQ2_tr q1 q2) q3), hSr3.1, hX3, hfx⟩
                have e9 : wyA al l v i = -1 := by
                  unfold wyA
                  rw [if_neg (by omega), if_neg (by omega)]
                rwa [e9] at k3
              · refine y_ld (x := .ref 0) rfl rfl (fun d => rfl) ?_
                refine y_gR (i := 4) rfl rfl rfl (hC3 0 _ _ rfl) rfl ?_
                refine y_gR (i := 9) rfl rfl rfl hSr3.1 rfl ?_
                refine y_ld (x := iv i) rfl rfl (fun d => rfl) ?_
                refine y_ild (x := ((v / al ^ (l - 1 - i.toNat) % al : Nat) : Int)) (q := i.toNat) rfl rfl (cl_ia hC3 (k := 121) (N := 3) rfl) (by omega) (by decide) (by omega) (b3 i.toNat (by omega)) ?_
                refine y_go rfl rfl ?_
                refine y_rI rfl (Or.inl rfl) ?_
                have k3 := k2 al (by omega) (by omega) hal dn rfl l v hres S3 V4 ⟨(SQ2_tr (SQ2_tr q1 q2) q3), hSr3.1, hX3, hfx⟩
                have e9 : wyA al l v i = ((v / al ^ (l - 1 - i.toNat) % al : Nat) : Int) := by
                  unfold wyA
                  rw [if_neg (by omega), if_pos (by omega)]
                rwa [e9] at k3
            · refine y_ld (x := iv (l : Int)) rfl rfl (fun d => rfl) ?_
              refine y_rI rfl (Or.inl rfl) ?_
              have k3 := k2 al (by omega) (by omega) hal dn rfl l v hres S3 V4 ⟨(SQ2_tr (SQ2_tr q1 q2) q3), hSr3.1, hX3, hfx⟩
              have e9 : wyA al l v i = (l : Int) := by
                unfold wyA
                rw [if_pos (by omega)]
              rwa [e9] at k3
          · have hfx := FrV_tr hfr (FrV_S b4)
            have hres := (Or.inr ⟨rfl, rfl, b2⟩ : resP _ al dn 0 0)
            refine y_nv ?_
            refine y_st (lv' := [(7, iv 0), (6, .ref t2), (5, .ref t), (0, .ref 0), (1, iv x), (2, iv y), (3, iv (dn : Int)), (4, iv i)]) rfl rfl (fun d => rfl) ?_
            refine y_ld (x := iv i) rfl rfl (fun d => rfl) ?_
            refine y_ic rfl rfl ?_
            refine y_jne rfl rfl rfl (by omega) (fun g5 => ?_) (fun g5 => ?_)
            · refine y_ld (x := iv i) rfl rfl (fun d => rfl) ?_
              refine y_ld (x := iv 0) rfl rfl (fun d => rfl) ?_
              refine y_jge rfl rfl rfl (by omega) (fun g6 => ?_) (fun g6 => absurd g6 (by omega))
              refine y_ic rfl rfl ?_
              refine y_rI rfl (Or.inl rfl) ?_
              have k3 := k2 al (by omega) (by omega) hal dn rfl 0 0 hres S3 V4 ⟨(SQ2_tr (SQ2_tr q1 q2) q3), hSr3.1, hX3, hfx⟩
              have e9 : wyA al 0 0 i = -1 := by
                unfold wyA
                rw [if_neg (by omega), if_neg (by omega)]
              rwa [e9] at k3
            · refine y_ld (x := iv 0) rfl rfl (fun d => rfl) ?_
              refine y_rI rfl (Or.inl rfl) ?_
              have k3 := k2 al (by omega) (by omega) hal dn rfl 0 0 hres S3 V4 ⟨(SQ2_tr (SQ2_tr q1 q2) q3), hSr3.1, hX3, hfx⟩
              have e9 : wyA al 0 0 i = 0 := by
                unfold wyA
                rw [if_pos (by omega)]
                rfl
              rwa [e9] at k3
        · refine y_bi rfl rfl (by decide) ?_
          refine y_rI rfl (Or.inl rfl) ?_
          exact k1 (by omega) (by omega)
      · refine y_ic rfl rfl ?_
        refine y_rI rfl (Or.inl rfl) ?_
        exact k0 (by omega)
end
end
section
/-! the orders of BOXES: the class (that it ends, and what it leaves as it was) -/
theorem z_us0 (x : Int) (hx : 0 ≤ x ∧ x < 2147483648) : ∀ k : Nat, k ≤ 8 → (x ≤ 2 ^ k - 1 ∧ x / 2 ^ k = 0) ∨ (¬ x ≤ 2 ^ k - 1 ∧ x / 2 ^ k ≠ 0) := by
  intro k hk
  rcases (show k = 0 ∨ k = 1 ∨ k = 2 ∨ k = 3 ∨ k = 4 ∨ k = 5 ∨ k = 6 ∨ k = 7 ∨ k = 8 by omega) with rfl | rfl | rfl | rfl | rfl | rfl | rfl | rfl | rfl <;> omega
theorem z_us1 (n : Nat) (hn : 2147483648 ≤ n ∧ n < 4294967296) : ∀ k : Nat, k ≤ 8 → ∃ e : Int, e ≠ 0 ∧ (-2147483648 ≤ e ∧ e < 2147483648) ∧ nI (n / 2 ^ k) = Int32.ofInt e := by
  intro k hk
  rcases (show k = 0 ∨ k = 1 ∨ k = 2 ∨ k = 3 ∨ k = 4 ∨ k = 5 ∨ k = 6 ∨ k = 7 ∨ k = 8 by omega) with rfl | rfl | rfl | rfl | rfl | rfl | rfl | rfl | rfl
  · refine ⟨(n : Int) - 4294967296, by omega, by omega, ?_⟩
    rw [Nat.pow_zero, Nat.div_one]
    apply Int32.toBitVec_inj.mp
    show BitVec.ofNat 32 n = BitVec.ofInt 32 ((n : Int) - 4294967296)
    rw [← BitVec.ofInt_natCast]
    apply BitVec.eq_of_toInt_eq
    rw [BitVec.toInt_ofInt, BitVec.toInt_ofInt]
    have e : (n : Int) = ((n : Int) - 4294967296) + ((2 ^ 32 : Nat) : Int) := by omega
    rw [e, Int.add_bmod_right]
    congr 1
    omega
  all_goals
    exact ⟨((n / 2 ^ _ : Nat) : Int), by omega, by omega, (v_N _).symm⟩
theorem z_us {x k : Int} (hx : -2147483648 ≤ x ∧ x < 2147483648) (hk : 0 ≤ k ∧ k ≤ 8) : ∃ e : Int, (-2147483648 ≤ e ∧ e < 2147483648) ∧ ((Int32.ofInt x).toUInt32 >>> ((Int32.ofInt k).toUInt32 &&& Int32.toUInt32 31)).toInt32 = Int32.ofInt e ∧ ((0 ≤ x ∧ x ≤ 2 ^ k.toNat - 1 ∧ e = 0) ∨ (¬ (0 ≤ x ∧ x ≤ 2 ^ k.toNat - 1) ∧ e ≠ 0)) := by
  by_cases h0 : 0 ≤ x
  · have h1 := z_us0 x ⟨h0, hx.2⟩ k.toNat (by omega)
    have h2 : 0 ≤ x / 2 ^ k.toNat := Int.ediv_nonneg h0 (Int.le_of_lt (v_p2 _))
    have h3 : x / 2 ^ k.toNat ≤ x := Int.ediv_le_self _ h0
    exact ⟨x / 2 ^ k.toNat, by omega, v_ushr ⟨h0, hx.2⟩ (by omega), by omega⟩
  · obtain ⟨n, hn⟩ : ∃ n : Nat, (n : Int) = x + 4294967296 := ⟨(x + 4294967296).toNat, by omega⟩
    obtain ⟨e, e1, e2, e3⟩ := z_us1 n (by omega) k.toNat (by omega)
    have e4 : Int32.ofInt x = nI n := by
      rw [← v_N, hn]
      apply Int32.toBitVec_inj.mp
      show BitVec.ofInt 32 x = BitVec.ofInt 32 (x + 4294967296)
      apply BitVec.eq_of_toInt_eq
      rw [BitVec.toInt_ofInt, BitVec.toInt_ofInt, show x + 4294967296 = x + ((2 ^ 32 : Nat) : Int) by omega, Int.add_bmod_right]
    have h : ∀ k : Nat, k < 32 → (((nI k).toUInt32 &&& Int32.toUInt32 31).toBitVec % 32).toNat = k := by decide
    refine ⟨e, e2, ?_, Or.inr ⟨fun q => h0 q.1, e1⟩⟩
    rw [e4, v_Nz hk.1, pk_ushrN (by omega) _ k.toNat (h _ (by omega))]
    exact e3
theorem z_b2 (x : Int) (hx : 0 ≤ x) : ∀ i : Nat, i < 8 → (x / 2 ^ i % 2 = 0 ∧ (2 : Int) ^ i * (x / 2 ^ i % 2) = 0) ∨ (x / 2 ^ i % 2 = 1 ∧ 0 < (2 : Int) ^ i * (x / 2 ^ i % 2) ∧ (2 : Int) ^ i * (x / 2 ^ i % 2) < 256) := by
  intro i hi
  rcases (show i = 0 ∨ i = 1 ∨ i = 2 ∨ i = 3 ∨ i = 4 ∨ i = 5 ∨ i = 6 ∨ i = 7 by omega) with rfl | rfl | rfl | rfl | rfl | rfl | rfl | rfl <;> omega
/-- a search that has been told m TEXTS -/
def SI (S0 : m_H) (V0 : v_V) (form N : Int) (al : Nat) (σ : Nat → Int) (m : Nat) (S : m_H) (V : v_V) : Prop := ∃ ts, SrC S V form N al m ts σ ∧ (∀ q, q < m → TO (ts q)) ∧ XsA S ∧ SQ2 S0 S ∧ FrV V0 V ∧ ClF S ∧ ∀ q, q < m → 0 ≤ V 120 q ∧ V 120 q ≤ 8
section
variable {X : Nat → List Int32} {u w : Nat} {S : m_H} {V : v_V} {K : v_K}
set_option maxRecDepth 100000 in
set_option maxHeartbeats 4000000 in
theorem cs_swap {S0 : m_H} {V0 : v_V} {form N : Int} {al : Nat} {σ : Nat → Int} {m : Nat} (hm : m ≤ 4) (hI : SI S0 V0 form N al σ m S V) {a b : Int} (ha : 0 ≤ a ∧ a < m) (hb : 0 ≤ b ∧ b < m) (k : ∀ S2 V2, SI S0 V0 form N al σ m S2 V2 → K u w none S2 V2) : y_R X 1 40 u w [.ref 116, iv a, iv b] S V K := by
  obtain ⟨ts, hSr, h2, hX, h4, h5, hC, h7⟩ := hI
  obtain ⟨xs, x1, x2, x3⟩ := hSr.2.2.1
  obtain ⟨zs, z1, z2, z3⟩ := hX
  have ezs : zs = xs := by
    have e := z1.2.symm.trans x1.2
    simp only [Option.some.injEq, Prod.mk.injEq] at e
    exact e.2
  subst ezs
  have x4 := z3
  obtain ⟨ta, a1, a2, a3, a4⟩ := x3 a.toNat (by omega)
  obtain ⟨tb, b1, b2, b3, b4⟩ := x3 b.toNat (by omega)
  refine y_ent (lv' := [(0, .ref 116), (1, iv a), (2, iv b)]) (Nat.le_of_ble_eq_true rfl) rfl ?_
  refine y_ld (x := .ref 116) rfl rfl (fun d => rfl) ?_
  refine y_gR (i := 3) rfl rfl rfl hSr.1 rfl ?_
  refine y_ld (x := iv a) rfl rfl (fun d => rfl) ?_
  refine y_ild (x := (V 120 a.toNat)) (q := a.toNat) rfl rfl (cl_ia hC (k := 120) (N := 4) rfl) (by omega) (by decide) rfl rfl ?_
  refine y_st (lv' := [(3, iv (V 120 a.toNat)), (0, .ref 116), (1, iv a), (2, iv b)]) rfl rfl (fun d => rfl) ?_
  refine y_ld (x := .ref 116) rfl rfl (fun d => rfl) ?_
  refine y_gR (i := 3) rfl rfl rfl hSr.1 rfl ?_
  refine y_ld (x := iv a) rfl rfl (fun d => rfl) ?_
  refine y_ld (x := .ref 116) rfl rfl (fun d => rfl) ?_
  refine y_gR (i := 3) rfl rfl rfl hSr.1 rfl ?_
  refine y_ld (x := iv b) rfl rfl (fun d => rfl) ?_
  refine y_ild (x := (V 120 b.toNat)) (q := b.toNat) rfl rfl (cl_ia hC (k := 120) (N := 4) rfl) (by omega) (by decide) rfl rfl ?_
  refine y_ist (q := a.toNat) rfl rfl (cl_ia hC (k := 120) (N := 4) rfl) (by omega) (by decide) rfl ?_
  refine y_ld (x := .ref 116) rfl rfl (fun d => rfl) ?_
  refine y_gR (i := 3) rfl rfl rfl hSr.1 rfl ?_
  refine y_ld (x := iv b) rfl rfl (fun d => rfl) ?_
  refine y_ld (x := iv (V 120 a.toNat)) rfl rfl (fun d => rfl) ?_
  refine y_ist (q := b.toNat) rfl rfl (cl_ia hC (k := 120) (N := 4) rfl) (by omega) (by decide) rfl ?_
  refine y_ld (x := .ref 116) rfl rfl (fun d => rfl) ?_
  refine y_gR (i := 2) rfl rfl rfl hSr.1 rfl ?_
  refine y_ld (x := iv a) rfl rfl (fun d => rfl) ?_
  refine y_rld (i := a.toNat) (x := ta) rfl rfl x1 (by decide) (by omega) (by omega) a1 ?_
  refine y_st (lv' := [(4, .ref ta), (3, iv (V 120 a.toNat)), (0, .ref 116), (1, iv a), (2, iv b)]) rfl rfl (fun d => rfl) ?_
  refine y_ld (x := .ref 116) rfl rfl (fun d => rfl) ?_
  refine y_gR (i := 2) rfl rfl rfl hSr.1 rfl ?_
  refine y_ld (x := iv a) rfl rfl (fun d => rfl) ?_
  refine y_ld (x := .ref 116) rfl rfl (fun d => rfl) ?_
  refine y_gR (i := 2) rfl rfl rfl hSr.1 rfl ?_
  refine y_ld (x := iv b) rfl rfl (fun d => rfl) ?_
  refine y_rld (i := b.toNat) (x := tb) rfl rfl x1 (by decide) (by omega) (by omega) b1 ?_
  refine y_rst (i := a.toNat) rfl rfl x1 (by decide) (by omega) (by omega) (by omega) (Or.inr ⟨tb, _, rfl, b3.1⟩) ?_
  have hq := SQ2_set (vs' := zs.set a.toNat (.ref tb)) x1 (Or.inr rfl)
  have hs1 : ce (S.set 119 (22, zs.set a.toNat (.ref tb))) 116 4 (S116l (.ref 7)) := ce_ne hSr.1 (by decide)
  have x1b : ce (S.set 119 (22, zs.set a.toNat (.ref tb))) 119 22 (zs.set a.toNat (.ref tb)) := ce_eq x1
  have x2b : (zs.set a.toNat (.ref tb)).length = 4 := by rw [List.length_set]; exact x2
  refine y_ld (x := .ref 116) rfl rfl (fun d => rfl) ?_
  refine y_gR (i := 2) rfl rfl rfl hs1 rfl ?_
  refine y_ld (x := iv b) rfl rfl (fun d => rfl) ?_
  refine y_ld (x := .ref ta) rfl rfl (fun d => rfl) ?_
  refine y_rst (i := b.toNat) rfl rfl x1b (by decide) (by omega) (by omega) (by omega) (Or.inr ⟨ta, _, rfl, (TxS_2 a2 a3 hq).1⟩) ?_
  have hq2 := SQ2_tr hq (SQ2_set (vs' := (zs.set a.toNat (.ref tb)).set b.toNat (.ref ta)) x1b (Or.inr rfl))
  refine y_ret rfl (fun d => rfl) ?_
  have hhi : ∀ k, 193 ≤ k → (v_up (v_up V 120 a.toNat (V 120 b.toNat)) 120 b.toNat (V 120 a.toNat)) k = V k := fun k hk => by rw [v_up_ne (by omega), v_up_ne (by omega)]
  have e116 : (v_up (v_up V 120 a.toNat (V 120 b.toNat)) 120 b.toNat (V 120 a.toNat)) 116 = V 116 := by rw [v_up_ne (by decide), v_up_ne (by decide)]
  obtain ⟨la, y1, y2, y3⟩ := hSr.2.2.2
  have hx3 : ce ((S.set 119 (22, zs.set a.toNat (.ref tb))).set 119 (22, (zs.set a.toNat (.ref tb)).set b.toNat (.ref ta))) 119 22 ((zs.set a.toNat (.ref tb)).set b.toNat (.ref ta)) := ce_eq x1b
  have hnb : ∀ (l : List Value) (c : Nat) (v : Value), c < l.length → m_nth (l.set c v) c = some v := fun l c v hc => by rw [m_nth_set, if_pos rfl, m_nth_eq, List.getElem?_eq_getElem hc]; rfl
  refine k _ _ ⟨fun q => if q = b.toNat then ts a.toNat else if q = a.toNat then ts b.toNat else ts q, ⟨ce_ne hs1 (by decide), by rw [e116]; exact hSr.2.1, ⟨_, hx3, by rw [List.length_set]; exact x2b, fun q hqm => ?_⟩, la, ce_ne (ce_ne y1 (by decide)) (by decide), y2, fun q hqm => ?_⟩, fun q hqm => ?_, ⟨_, hx3, by rw [List.length_set]; exact x2b, fun v hv => ?_⟩, SQ2_tr h4 hq2, FrV_tr h5 (fun k _ h7 _ _ => by rw [v_up_ne h7, v_up_ne h7]), ClF_2 hC hq2, fun q hqm => ?_⟩
  · dsimp only
    by_cases hqb : q = b.toNat
    · rw [hqb, hnb _ _ _ (by omega), if_pos rfl]
      exact ⟨ta, rfl, a2, TxS_2 a2 a3 hq2, CT_hi hhi a2 a4⟩
    · rw [m_nth_set, if_neg hqb, if_neg hqb]
      by_cases hqa : q = a.toNat
      · rw [hqa, hnb _ _ _ (by omega), if_pos rfl]
        exact ⟨tb, rfl, b2, TxS_2 b2 b3 hq2, CT_hi hhi b2 b4⟩
      · rw [m_nth_set, if_neg hqa, if_neg hqa]
        obtain ⟨t, c1, c2, c3, c4⟩ := x3 q hqm
        exact ⟨t, c1, c2, TxS_2 c2 c3 hq2, CT_hi hhi c2 c4⟩
  · obtain ⟨pk, p1, p2, p3⟩ := y3 q hqm
    have p4 := PkS_r p3 (hhi pk p2)
    exact ⟨pk, p1, p2, ce_ne (ce_ne p4.1 (by omega)) (by omega), p4.2⟩
  · show TO (if q = b.toNat then ts a.toNat else if q = a.toNat then ts b.toNat else ts q)
    split
    · exact h2 _ (by omega)
    · split
      · exact h2 _ (by omega)
      · exact h2 q hqm
  · rcases List.mem_or_eq_of_mem_set hv with h7 | h7
    · rcases List.mem_or_eq_of_mem_set h7 with h8 | h8
      · exact hq2.2.1 _ _ (x4 v h8)
      · rw [h8]; exact Or.inr ⟨tb, _, rfl, (TxS_2 b2 b3 hq2).1⟩
    · rw [h7]; exact Or.inr ⟨ta, _, rfl, (TxS_2 a2 a3 hq2).1⟩
  · by_cases hqb : q = b.toNat
    · rw [hqb, v_up_eq]; exact h7 _ (by omega)
    · rw [v_up_ni hqb]
      by_cases hqa : q = a.toNat
      · rw [hqa, v_up_eq]; exact h7 _ (by omega)
      · rw [v_up_ni hqa]; exact h7 q hqm
end
end
section
/-! the orders of BOXES: the class, all of them -/
section
variable {X : Nat → List Int32} {u w : Nat} {S : m_H} {V : v_V} {K : v_K}
set_option maxRecDepth 100000 in
set_option maxHeartbeats 4000000 in
theorem cs_turns {S0 : m_H} {V0 : v_V} {form N : Int} {al : Nat} {σ : Nat → Int} {m : Nat} (hm : 2 ≤ m ∧ m ≤ 4) (hI : SI S0 V0 form N al σ m S V) (k : ∀ r S2 V2, (r = 0 ∨ r = 1) → SI S0 V0 form N al σ m S2 V2 → K u w (some (iv r)) S2 V2) : y_R X 2 39 u w [.ref 116] S V K := by
  rcases (show m = 2 ∨ m = 3 ∨ m = 4 by omega) with rfl | rfl | rfl
  all_goals have hIc := hI
  all_goals obtain ⟨ts, hSr, h2, hX, h4, h5, hC, h7⟩ := hIc
  all_goals refine y_ent (lv' := [(0, .ref 116)]) (Nat.le_of_ble_eq_true rfl) rfl ?_
  · have o0 := h7 0 (by decide)
    have o1 := h7 1 (by decide)
    refine y_ld (x := .ref 116) rfl rfl (fun d => rfl) ?_
    refine y_gI (i := 4) (e := 2) rfl rfl rfl hSr.1 rfl hSr.2.1.1 ?_
    refine y_ic rfl rfl ?_
    refine y_sub (z := 0) rfl rfl rfl ?_
    refine y_st (lv' := [(1, iv 0), (0, .ref 116)]) rfl rfl (fun d => rfl) ?_
    refine y_ld (x := iv 0) rfl rfl (fun d => rfl) ?_
    refine y_zlt rfl rfl rfl (by decide) (fun g1 => absurd g1 (by decide)) (fun g1 => ?_)
    refine y_ld (x := .ref 116) rfl rfl (fun d => rfl) ?_
    refine y_gR (i := 3) rfl rfl rfl hSr.1 rfl ?_
    refine y_ld (x := iv 0) rfl rfl (fun d => rfl) ?_
    refine y_ild (x := (V 120 0)) (q := 0) rfl rfl (cl_ia hC (k := 120) (N := 4) rfl) (by decide) (by decide) rfl rfl ?_
    refine y_ld (x := .ref 116) rfl rfl (fun d => rfl) ?_
    refine y_gR (i := 3) rfl rfl rfl hSr.1 rfl ?_
    refine y_ld (x := iv 0) rfl rfl (fun d => rfl) ?_
    refine y_ic rfl rfl ?_
    refine y_add (z := 1) rfl rfl rfl ?_
    refine y_ild (x := (V 120 1)) (q := 1) rfl rfl (cl_ia hC (k := 120) (N := 4) rfl) (by decide) (by decide) rfl rfl ?_
    refine y_jle rfl rfl rfl (by omega) (fun g2 => ?_) (fun g2 => ?_)
    · refine y_ld (x := iv 0) rfl rfl (fun d => rfl) ?_
      refine y_zge rfl rfl rfl (by decide) (fun g3 => ?_) (fun g3 => absurd g3 (by decide))
      refine y_ld (x := .ref 116) rfl rfl (fun d => rfl) ?_
      refine y_gI (i := 4) (e := 2) rfl rfl rfl hSr.1 rfl hSr.2.1.1 ?_
      refine y_ic rfl rfl ?_
      refine y_sub (z := 1) rfl rfl rfl ?_
      refine y_st (lv' := [(2, iv 1), (1, iv 0), (0, .ref 116)]) rfl rfl (fun d => rfl) ?_
      refine y_ld (x := iv 1) rfl rfl (fun d => rfl) ?_
      refine y_ld (x := iv 0) rfl rfl (fun d => rfl) ?_
      refine y_jle rfl rfl rfl (by decide) (fun g4 => absurd g4 (by decide)) (fun g4 => ?_)
      refine y_ld (x := .ref 116) rfl rfl (fun d => rfl) ?_
      refine y_gR (i := 3) rfl rfl rfl hSr.1 rfl ?_
      refine y_ld (x := iv 1) rfl rfl (fun d => rfl) ?_
      refine y_ild (x := (V 120 1)) (q := 1) rfl rfl (cl_ia hC (k := 120) (N := 4) rfl) (by decide) (by decide) rfl rfl ?_
      refine y_ld (x := .ref 116) rfl rfl (fun d => rfl) ?_
      refine y_gR (i := 3) rfl rfl rfl hSr.1 rfl ?_
      refine y_ld (x := iv 0) rfl rfl (fun d => rfl) ?_
      refine y_ild (x := (V 120 0)) (q := 0) rfl rfl (cl_ia hC (k := 120) (N := 4) rfl) (by decide) (by decide) rfl rfl ?_
      refine y_jge rfl rfl rfl (by omega) (fun g5 => ?_) (fun g5 => ?_)
      · refine y_ld (x := .ref 116) rfl rfl (fun d => rfl) ?_
        refine y_ld (x := iv 0) rfl rfl (fun d => rfl) ?_
        refine y_ld (x := iv 1) rfl rfl (fun d => rfl) ?_
        refine y_cV (as := [.ref 116, iv 0, iv 1]) rfl rfl rfl rfl rfl hSr.1 ⟨rfl, (Nat.le_of_ble_eq_true rfl), (Nat.le_of_ble_eq_true rfl)⟩ (by decide) (cs_swap (by decide) hI (by decide) (by decide) (fun S11 V11 hI1 => ?_))
        have hI1c := hI1
        obtain ⟨ts1, hSr1, h21, hX1, h41, h51, hC1, h71⟩ := hI1c
        refine y_n0 ?_
        refine y_ld (x := iv 0) rfl rfl (fun d => rfl) ?_
        refine y_ic rfl rfl ?_
        refine y_add (z := 1) rfl rfl rfl ?_
        refine y_st (lv' := [(3, iv 1), (2, iv 1), (1, iv 0), (0, .ref 116)]) rfl rfl (fun d => rfl) ?_
        refine y_ld (x := .ref 116) rfl rfl (fun d => rfl) ?_
        refine y_gI (i := 4) (e := 2) rfl rfl rfl hSr1.1 rfl hSr1.2.1.1 ?_
        refine y_ic rfl rfl ?_
        refine y_sub (z := 1) rfl rfl rfl ?_
        refine y_st (lv' := [(4, iv 1), (3, iv 1), (2, iv 1), (1, iv 0), (0, .ref 116)]) rfl rfl (fun d => rfl) ?_
        refine y_ld (x := iv 1) rfl rfl (fun d => rfl) ?_
        refine y_ld (x := iv 1) rfl rfl (fun d => rfl) ?_
        refine y_jge rfl rfl rfl (by decide) (fun g6 => ?_) (fun g6 => absurd g6 (by decide))
        refine y_ic rfl rfl ?_
        refine y_rI rfl (by decide) ?_
        exact k 1 S11 V11 (by decide) hI1
      · refine y_inc (z := 0) (lv' := [(2, iv 0), (1, iv 0), (0, .ref 116)]) rfl rfl rfl rfl rfl ?_
        refine y_go rfl rfl ?_
        refine y_ld (x := iv 0) rfl rfl (fun d => rfl) ?_
        refine y_ld (x := iv 0) rfl rfl (fun d => rfl) ?_
        refine y_jle rfl rfl rfl (by decide) (fun g7 => ?_) (fun g7 => absurd g7 (by decide))
        refine y_ld (x := .ref 116) rfl rfl (fun d => rfl) ?_
        refine y_ld (x := iv 0) rfl rfl (fun d => rfl) ?_
        refine y_ld (x := iv 0) rfl rfl (fun d => rfl) ?_
        refine y_cV (as := [.ref 116, iv 0, iv 0]) rfl rfl rfl rfl rfl hSr.1 ⟨rfl, (Nat.le_of_ble_eq_true rfl), (Nat.le_of_ble_eq_true rfl)⟩ (by decide) (cs_swap (by decide) hI (by decide) (by decide) (fun S11 V11 hI1 => ?_))
        have hI1c := hI1
        obtain ⟨ts1, hSr1, h21, hX1, h41, h51, hC1, h71⟩ := hI1c
        refine y_n0 ?_
        refine y_ld (x := iv 0) rfl rfl (fun d => rfl) ?_
        refine y_ic rfl rfl ?_
        refine y_add (z := 1) rfl rfl rfl ?_
        refine y_st (lv' := [(3, iv 1), (2, iv 0), (1, iv 0), (0, .ref 116)]) rfl rfl (fun d => rfl) ?_
        refine y_ld (x := .ref 116) rfl rfl (fun d => rfl) ?_
        refine y_gI (i := 4) (e := 2) rfl rfl rfl hSr1.1 rfl hSr1.2.1.1 ?_
        refine y_ic rfl rfl ?_
        refine y_sub (z := 1) rfl rfl rfl ?_
        refine y_st (lv' := [(4, iv 1), (3, iv 1), (2, iv 0), (1, iv 0), (0, .ref 116)]) rfl rfl (fun d => rfl) ?_
        refine y_ld (x := iv 1) rfl rfl (fun d => rfl) ?_
        refine y_ld (x := iv 1) rfl rfl (fun d => rfl) ?_
        refine y_jge rfl rfl rfl (by decide) (fun g8 => ?_) (fun g8 => absurd g8 (by decide))
        refine y_ic rfl rfl ?_
        refine y_rI rfl (by decide) ?_
        exact k 1 S11 V11 (by decide) hI1
    · refine y_inc (z := (-1)) (lv' := [(1, iv (-1)), (0, .ref 116)]) rfl rfl rfl rfl rfl ?_
      refine y_go rfl rfl ?_
      refine y_ld (x := iv (-1)) rfl rfl (fun d => rfl) ?_
      refine y_zlt rfl rfl rfl (by decide) (fun g9 => ?_) (fun g9 => absurd g9 (by decide))
      refine y_ld (x := iv (-1)) rfl rfl (fun d => rfl) ?_
      refine y_zge rfl rfl rfl (by decide) (fun g10 => absurd g10 (by decide)) (fun g10 => ?_)
      refine y_ic rfl rfl ?_
      refine y_rI rfl (by decide) ?_
      exact k 0 S V (by decide) hI
  · have o0 := h7 0 (by decide)
    have o1 := h7 1 (by decide)
    have o2 := h7 2 (by decide)
    refine y_ld (x := .ref 116) rfl rfl (fun d => rfl) ?_
    refine y_gI (i := 4) (e := 3) rfl rfl rfl hSr.1 rfl hSr.2.1.1 ?_
    refine y_ic rfl rfl ?_
    refine y_sub (z := 1) rfl rfl rfl ?_
    refine y_st (lv' := [(1, iv 1), (0, .ref 116)]) rfl rfl (fun d => rfl) ?_
    refine y_ld (x := iv 1) rfl rfl (fun d => rfl) ?_
    refine y_zlt rfl rfl rfl (by decide) (fun g11 => absurd g11 (by decide)) (fun g11 => ?_)
    refine y_ld (x := .ref 116) rfl rfl (fun d => rfl) ?_
    refine y_gR (i := 3) rfl rfl rfl hSr.1 rfl ?_
    refine y_ld (x := iv 1) rfl rfl (fun d => rfl) ?_
    refine y_ild (x := (V 120 1)) (q := 1) rfl rfl (cl_ia hC (k := 120) (N := 4) rfl) (by decide) (by decide) rfl rfl ?_
    refine y_ld (x := .ref 116) rfl rfl (fun d => rfl) ?_
    refine y_gR (i := 3) rfl rfl rfl hSr.1 rfl ?_
    refine y_ld (x := iv 1) rfl rfl (fun d => rfl) ?_
    refine y_ic rfl rfl ?_
    refine y_add (z := 2) rfl rfl rfl ?_
    refine y_ild (x := (V 120 2)) (q := 2) rfl rfl (cl_ia hC (k := 120) (N := 4) rfl) (by decide) (by decide) rfl rfl ?_
    refine y_jle rfl rfl rfl (by omega) (fun g12 => ?_) (fun g12 => ?_)
    · refine y_ld (x := iv 1) rfl rfl (fun d => rfl) ?_
      refine y_zge rfl rfl rfl (by decide) (fun g13 => ?_) (fun g13 => absurd g13 (by decide))
      refine y_ld (x := .ref 116) rfl rfl (fun d => rfl) ?_
      refine y_gI (i := 4) (e := 3) rfl rfl rfl hSr.1 rfl hSr.2.1.1 ?_
      refine y_ic rfl rfl ?_
      refine y_sub (z := 2) rfl rfl rfl ?_
      refine y_st (lv' := [(2, iv 2), (1, iv 1), (0, .ref 116)]) rfl rfl (fun d => rfl) ?_
      refine y_ld (x := iv 2) rfl rfl (fun d => rfl) ?_
      refine y_ld (x := iv 1) rfl rfl (fun d => rfl) ?_
      refine y_jle rfl rfl rfl (by decide) (fun g14 => absurd g14 (by decide)) (fun g14 => ?_)
      refine y_ld (x := .ref 116) rfl rfl (fun d => rfl) ?_
      refine y_gR (i := 3) rfl rfl rfl hSr.1 rfl ?_
      refine y_ld (x := iv 2) rfl rfl (fun d => rfl) ?_
      refine y_ild (x := (V 120 2)) (q := 2) rfl rfl (cl_ia hC (k := 120) (N := 4) rfl) (by decide) (by decide) rfl rfl ?_
      refine y_ld (x := .ref 116) rfl rfl (fun d => rfl) ?_
      refine y_gR (i := 3) rfl rfl rfl hSr.1 rfl ?_
      refine y_ld (x := iv 1) rfl rfl (fun d => rfl) ?_
      refine y_ild (x := (V 120 1)) (q := 1) rfl rfl (cl_ia hC (k := 120) (N := 4) rfl) (by decide) (by decide) rfl rfl ?_
      refine y_jge rfl rfl rfl (by omega) (fun g15 => ?_) (fun g15 => ?_)
      · refine y_ld (x := .ref 116) rfl rfl (fun d => rfl) ?_
        refine y_ld (x := iv 1) rfl rfl (fun d => rfl) ?_
        refine y_ld (x := iv 2) rfl rfl (fun d => rfl) ?_
        refine y_cV (as := [.ref 116, iv 1, iv 2]) rfl rfl rfl rfl rfl hSr.1 ⟨rfl, (Nat.le_of_ble_eq_true rfl), (Nat.le_of_ble_eq_true rfl)⟩ (by decide) (cs_swap (by decide) hI (by decide) (by decide) (fun S11 V11 hI1 => ?_))
        have hI1c := hI1
        obtain ⟨ts1, hSr1, h21, hX1, h41, h51, hC1, h71⟩ := hI1c
        refine y_n0 ?_
        refine y_ld (x := iv 1) rfl rfl (fun d => rfl) ?_
        refine y_ic rfl rfl ?_
        refine y_add (z := 2) rfl rfl rfl ?_
        refine y_st (lv' := [(3, iv 2), (2, iv 2), (1, iv 1), (0, .ref 116)]) rfl rfl (fun d => rfl) ?_
        refine y_ld (x := .ref 116) rfl rfl (fun d => rfl) ?_
        refine y_gI (i := 4) (e := 3) rfl rfl rfl hSr1.1 rfl hSr1.2.1.1 ?_
        refine y_ic rfl rfl ?_
        refine y_sub (z := 2) rfl rfl rfl ?_
        refine y_st (lv' := [(4, iv 2), (3, iv 2), (2, iv 2), (1, iv 1), (0, .ref 116)]) rfl rfl (fun d => rfl) ?_
        refine y_ld (x := iv 2) rfl rfl (fun d => rfl) ?_
        refine y_ld (x := iv 2) rfl rfl (fun d => rfl) ?_
        refine y_jge rfl rfl rfl (by decide) (fun g16 => ?_) (fun g16 => absurd g16 (by decide))
        refine y_ic rfl rfl ?_
        refine y_rI rfl (by decide) ?_
        exact k 1 S11 V11 (by decide) hI1
      · refine y_inc (z := 1) (lv' := [(2, iv 1), (1, iv 1), (0, .ref 116)]) rfl rfl rfl rfl rfl ?_
        refine y_go rfl rfl ?_
        refine y_ld (x := iv 1) rfl rfl (fun d => rfl) ?_
        refine y_ld (x := iv 1) rfl rfl (fun d => rfl) ?_
        refine y_jle rfl rfl rfl (by decide) (fun g17 => ?_) (fun g17 => absurd g17 (by decide))
        refine y_ld (x := .ref 116) rfl rfl (fun d => rfl) ?_
        refine y_ld (x := iv 1) rfl rfl (fun d => rfl) ?_
        refine y_ld (x := iv 1) rfl rfl (fun d => rfl) ?_
        refine y_cV (as := [.ref 116, iv 1, iv 1]) rfl rfl rfl rfl rfl hSr.1 ⟨rfl, (Nat.le_of_ble_eq_true rfl), (Nat.le_of_ble_eq_true rfl)⟩ (by decide) (cs_swap (by decide) hI (by decide) (by decide) (fun S11 V11 hI1 => ?_))
        have hI1c := hI1
        obtain ⟨ts1, hSr1, h21, hX1, h41, h51, hC1, h71⟩ := hI1c
        refine y_n0 ?_
        refine y_ld (x := iv 1) rfl rfl (fun d => rfl) ?_
        refine y_ic rfl rfl ?_
        refine y_add (z := 2) rfl rfl rfl ?_
        refine y_st (lv' := [(3, iv 2), (2, iv 1), (1, iv 1), (0, .ref 116)]) rfl rfl (fun d => rfl) ?_
        refine y_ld (x := .ref 116) rfl rfl (fun d => rfl) ?_
        refine y_gI (i := 4) (e := 3) rfl rfl rfl hSr1.1 rfl hSr1.2.1.1 ?_
        refine y_ic rfl rfl ?_
        refine y_sub (z := 2) rfl rfl rfl ?_
        refine y_st (lv' := [(4, iv 2), (3, iv 2), (2, iv 1), (1, iv 1), (0, .ref 116)]) rfl rfl (fun d => rfl) ?_
        refine y_ld (x := iv 2) rfl rfl (fun d => rfl) ?_
        refine y_ld (x := iv 2) rfl rfl (fun d => rfl) ?_
        refine y_jge rfl rfl rfl (by decide) (fun g18 => ?_) (fun g18 => absurd g18 (by decide))
        refine y_ic rfl rfl ?_
        refine y_rI rfl (by decide) ?_
        exact k 1 S11 V11 (by decide) hI1
    · refine y_inc (z := 0) (lv' := [(1, iv 0), (0, .ref 116)]) rfl rfl rfl rfl rfl ?_
      refine y_go rfl rfl ?_
      refine y_ld (x := iv 0) rfl rfl (fun d => rfl) ?_
      refine y_zlt rfl rfl rfl (by decide) (fun g19 => absurd g19 (by decide)) (fun g19 => ?_)
      refine y_ld (x := .ref 116) rfl rfl (fun d => rfl) ?_
      refine y_gR (i := 3) rfl rfl rfl hSr.1 rfl ?_
      refine y_ld (x := iv 0) rfl rfl (fun d => rfl) ?_
      refine y_ild (x := (V 120 0)) (q := 0) rfl rfl (cl_ia hC (k := 120) (N := 4) rfl) (by decide) (by decide) rfl rfl ?_
      refine y_ld (x := .ref 116) rfl rfl (fun d => rfl) ?_
      refine y_gR (i := 3) rfl rfl rfl hSr.1 rfl ?_
      refine y_ld (x := iv 0) rfl rfl (fun d => rfl) ?_
      refine y_ic rfl rfl ?_
      refine y_add (z := 1) rfl rfl rfl ?_
      refine y_ild (x := (V 120 1)) (q := 1) rfl rfl (cl_ia hC (k := 120) (N := 4) rfl) (by decide) (by decide) rfl rfl ?_
      refine y_jle rfl rfl rfl (by omega) (fun g20 => ?_) (fun g20 => ?_)
      · refine y_ld (x := iv 0) rfl rfl (fun d => rfl) ?_
        refine y_zge rfl rfl rfl (by decide) (fun g21 => ?_) (fun g21 => absurd g21 (by decide))
        refine y_ld (x := .ref 116) rfl rfl (fun d => rfl) ?_
        refine y_gI (i := 4) (e := 3) rfl rfl rfl hSr.1 rfl hSr.2.1.1 ?_
        refine y_ic rfl rfl ?_
        refine y_sub (z := 2) rfl rfl rfl ?_
        refine y_st (lv' := [(2, iv 2), (1, iv 0), (0, .ref 116)]) rfl rfl (fun d => rfl) ?_
        refine y_ld (x := iv 2) rfl rfl (fun d => rfl) ?_
        refine y_ld (x := iv 0) rfl rfl (fun d => rfl) ?_
        refine y_jle rfl rfl rfl (by decide) (fun g22 => absurd g22 (by decide)) (fun g22 => ?_)
        refine y_ld (x := .ref 116) rfl rfl (fun d => rfl) ?_
        refine y_gR (i := 3) rfl rfl rfl hSr.1 rfl ?_
        refine y_ld (x := iv 2) rfl rfl (fun d => rfl) ?_
        refine y_ild (x := (V 120 2)) (q := 2) rfl rfl (cl_ia hC (k := 120) (N := 4) rfl) (by decide) (by decide) rfl rfl ?_
        refine y_ld (x := .ref 116) rfl rfl (fun d => rfl) ?_
        refine y_gR (i := 3) rfl rfl rfl hSr.1 rfl ?_
        refine y_ld (x := iv 0) rfl rfl (fun d => rfl) ?_
        refine y_ild (x := (V 120 0)) (q := 0) rfl rfl (cl_ia hC (k := 120) (N := 4) rfl) (by decide) (by decide) rfl rfl ?_
        refine y_jge rfl rfl rfl (by omega) (fun g23 => ?_) (fun g23 => ?_)
        · refine y_ld (x := .ref 116) rfl rfl (fun d => rfl) ?_
          refine y_ld (x := iv 0) rfl rfl (fun d => rfl) ?_
          refine y_ld (x := iv 2) rfl rfl (fun d => rfl) ?_
          refine y_cV (as := [.ref 116, iv 0, iv 2]) rfl rfl rfl rfl rfl hSr.1 ⟨rfl, (Nat.le_of_ble_eq_true rfl), (Nat.le_of_ble_eq_true rfl)⟩ (by decide) (cs_swap (by decide) hI (by decide) (by decide) (fun S11 V11 hI1 => ?_))
          have hI1c := hI1
          obtain ⟨ts1, hSr1, h21, hX1, h41, h51, hC1, h71⟩ := hI1c
          refine y_n0 ?_
          refine y_ld (x := iv 0) rfl rfl (fun d => rfl) ?_
          refine y_ic rfl rfl ?_
          refine y_add (z := 1) rfl rfl rfl ?_
          refine y_st (lv' := [(3, iv 1), (2, iv 2), (1, iv 0), (0, .ref 116)]) rfl rfl (fun d => rfl) ?_
          refine y_ld (x := .ref 116) rfl rfl (fun d => rfl) ?_
          refine y_gI (i := 4) (e := 3) rfl rfl rfl hSr1.1 rfl hSr1.2.1.1 ?_
          refine y_ic rfl rfl ?_
          refine y_sub (z := 2) rfl rfl rfl ?_
          refine y_st (lv' := [(4, iv 2), (3, iv 1), (2, iv 2), (1, iv 0), (0, .ref 116)]) rfl rfl (fun d => rfl) ?_
          refine y_ld (x := iv 1) rfl rfl (fun d => rfl) ?_
          refine y_ld (x := iv 2) rfl rfl (fun d => rfl) ?_
          refine y_jge rfl rfl rfl (by decide) (fun g24 => absurd g24 (by decide)) (fun g24 => ?_)
          refine y_ld (x := .ref 116) rfl rfl (fun d => rfl) ?_
          refine y_ld (x := iv 1) rfl rfl (fun d => rfl) ?_
          refine y_ld (x := iv 2) rfl rfl (fun d => rfl) ?_
          refine y_cV (as := [.ref 116, iv 1, iv 2]) rfl rfl rfl rfl rfl hSr1.1 ⟨rfl, (Nat.le_of_ble_eq_true rfl), (Nat.le_of_ble_eq_true rfl)⟩ (by decide) (cs_swap (by decide) hI1 (by decide) (by decide) (fun S12 V12 hI2 => ?_))
          have hI2c := hI2
          obtain ⟨ts2, hSr2, h22, hX2, h42, h52, hC2, h72⟩ := hI2c
          refine y_n0 ?_
          refine y_inc (z := 2) (lv' := [(3, iv 2), (4, iv 2), (2, iv 2), (1, iv 0), (0, .ref 116)]) rfl rfl rfl rfl rfl ?_
          refine y_inc (z := 1) (lv' := [(4, iv 1), (3, iv 2), (2, iv 2), (1, iv 0), (0, .ref 116)]) rfl rfl rfl rfl rfl ?_
          refine y_go rfl rfl ?_
          refine y_ld (x := iv 2) rfl rfl (fun d => rfl) ?_
          refine y_ld (x := iv 1) rfl rfl (fun d => rfl) ?_
          refine y_jge rfl rfl rfl (by decide) (fun g25 => ?_) (fun g25 => absurd g25 (by decide))
          refine y_ic rfl rfl ?_
          refine y_rI rfl (by decide) ?_
          exact k 1 S12 V12 (by decide) hI2
        · refine y_inc (z := 1) (lv' := [(2, iv 1), (1, iv 0), (0, .ref 116)]) rfl rfl rfl rfl rfl ?_
          refine y_go rfl rfl ?_
          refine y_ld (x := iv 1) rfl rfl (fun d => rfl) ?_
          refine y_ld (x := iv 0) rfl rfl (fun d => rfl) ?_
          refine y_jle rfl rfl rfl (by decide) (fun g26 => absurd g26 (by decide)) (fun g26 => ?_)
          refine y_ld (x := .ref 116) rfl rfl (fun d => rfl) ?_
          refine y_gR (i := 3) rfl rfl rfl hSr.1 rfl ?_
          refine y_ld (x := iv 1) rfl rfl (fun d => rfl) ?_
          refine y_ild (x := (V 120 1)) (q := 1) rfl rfl (cl_ia hC (k := 120) (N := 4) rfl) (by decide) (by decide) rfl rfl ?_
          refine y_ld (x := .ref 116) rfl rfl (fun d => rfl) ?_
          refine y_gR (i := 3) rfl rfl rfl hSr.1 rfl ?_
          refine y_ld (x := iv 0) rfl rfl (fun d => rfl) ?_
          refine y_ild (x := (V 120 0)) (q := 0) rfl rfl (cl_ia hC (k := 120) (N := 4) rfl) (by decide) (by decide) rfl rfl ?_
          refine y_jge rfl rfl rfl (by omega) (fun g27 => ?_) (fun g27 => ?_)
          · refine y_ld (x := .ref 116) rfl rfl (fun d => rfl) ?_
            refine y_ld (x := iv 0) rfl rfl (fun d => rfl) ?_
            refine y_ld (x := iv 1) rfl rfl (fun d => rfl) ?_
            refine y_cV (as := [.ref 116, iv 0, iv 1]) rfl rfl rfl rfl rfl hSr.1 ⟨rfl, (Nat.le_of_ble_eq_true rfl), (Nat.le_of_ble_eq_true rfl)⟩ (by decide) (cs_swap (by decide) hI (by decide) (by decide) (fun S11 V11 hI1 => ?_))
            have hI1c := hI1
            obtain ⟨ts1, hSr1, h21, hX1, h41, h51, hC1, h71⟩ := hI1c
            refine y_n0 ?_
            refine y_ld (x := iv 0) rfl rfl (fun d => rfl) ?_
            refine y_ic rfl rfl ?_
            refine y_add (z := 1) rfl rfl rfl ?_
            refine y_st (lv' := [(3, iv 1), (2, iv 1), (1, iv 0), (0, .ref 116)]) rfl rfl (fun d => rfl) ?_
            refine y_ld (x := .ref 116) rfl rfl (fun d => rfl) ?_
            refine y_gI (i := 4) (e := 3) rfl rfl rfl hSr1.1 rfl hSr1.2.1.1 ?_
            refine y_ic rfl rfl ?_
            refine y_sub (z := 2) rfl rfl rfl ?_
            refine y_st (lv' := [(4, iv 2), (3, iv 1), (2, iv 1), (1, iv 0), (0, .ref 116)]) rfl rfl (fun d => rfl) ?_
            refine y_ld (x := iv 1) rfl rfl (fun d => rfl) ?_
            refine y_ld (x := iv 2) rfl rfl (fun d => rfl) ?_
            refine y_jge rfl rfl rfl (by decide) (fun g28 => absurd g28 (by decide)) (fun g28 => ?_)
            refine y_ld (x := .ref 116) rfl rfl (fun d => rfl) ?_
            refine y_ld (x := iv 1) rfl rfl (fun d => rfl) ?_
            refine y_ld (x := iv 2) rfl rfl (fun d => rfl) ?_
            refine y_cV (as := [.ref 116, iv 1, iv 2]) rfl rfl rfl rfl rfl hSr1.1 ⟨rfl, (Nat.le_of_ble_eq_true rfl), (Nat.le_of_ble_eq_true rfl)⟩ (by decide) (cs_swap (by decide) hI1 (by decide) (by decide) (fun S12 V12 hI2 => ?_))
            have hI2c := hI2
            obtain ⟨ts2, hSr2, h22, hX2, h42, h52, hC2, h72⟩ := hI2c
            refine y_n0 ?_
            refine y_inc (z := 2) (lv' := [(3, iv 2), (4, iv 2), (2, iv 1), (1, iv 0), (0, .ref 116)]) rfl rfl rfl rfl rfl ?_
            refine y_inc (z := 1) (lv' := [(4, iv 1), (3, iv 2), (2, iv 1), (1, iv 0), (0, .ref 116)]) rfl rfl rfl rfl rfl ?_
            refine y_go rfl rfl ?_
            refine y_ld (x := iv 2) rfl rfl (fun d => rfl) ?_
            refine y_ld (x := iv 1) rfl rfl (fun d => rfl) ?_
            refine y_jge rfl rfl rfl (by decide) (fun g29 => ?_) (fun g29 => absurd g29 (by decide))
            refine y_ic rfl rfl ?_
            refine y_rI rfl (by decide) ?_
            exact k 1 S12 V12 (by decide) hI2
          · refine y_inc (z := 0) (lv' := [(2, iv 0), (1, iv 0), (0, .ref 116)]) rfl rfl rfl rfl rfl ?_
            refine y_go rfl rfl ?_
            refine y_ld (x := iv 0) rfl rfl (fun d => rfl) ?_
            refine y_ld (x := iv 0) rfl rfl (fun d => rfl) ?_
            refine y_jle rfl rfl rfl (by decide) (fun g30 => ?_) (fun g30 => absurd g30 (by decide))
            refine y_ld (x := .ref 116) rfl rfl (fun d => rfl) ?_
            refine y_ld (x := iv 0) rfl rfl (fun d => rfl) ?_
            refine y_ld (x := iv 0) rfl rfl (fun d => rfl) ?_
            refine y_cV (as := [.ref 116, iv 0, iv 0]) rfl rfl rfl rfl rfl hSr.1 ⟨rfl, (Nat.le_of_ble_eq_true rfl), (Nat.le_of_ble_eq_true rfl)⟩ (by decide) (cs_swap (by decide) hI (by decide) (by decide) (fun S11 V11 hI1 => ?_))
            have hI1c := hI1
            obtain ⟨ts1, hSr1, h21, hX1, h41, h51, hC1, h71⟩ := hI1c
            refine y_n0 ?_
            refine y_ld (x := iv 0) rfl rfl (fun d => rfl) ?_
            refine y_ic rfl rfl ?_
            refine y_add (z := 1) rfl rfl rfl ?_
            refine y_st (lv' := [(3, iv 1), (2, iv 0), (1, iv 0), (0, .ref 116)]) rfl rfl (fun d => rfl) ?_
            refine y_ld (x := .ref 116) rfl rfl (fun d => rfl) ?_
            refine y_gI (i := 4) (e := 3) rfl rfl rfl hSr1.1 rfl hSr1.2.1.1 ?_
            refine y_ic rfl rfl ?_
            refine y_sub (z := 2) rfl rfl rfl ?_
            refine y_st (lv' := [(4, iv 2), (3, iv 1), (2, iv 0), (1, iv 0), (0, .ref 116)]) rfl rfl (fun d => rfl) ?_
            refine y_ld (x := iv 1) rfl rfl (fun d => rfl) ?_
            refine y_ld (x := iv 2) rfl rfl (fun d => rfl) ?_
            refine y_jge rfl rfl rfl (by decide) (fun g31 => absurd g31 (by decide)) (fun g31 => ?_)
            refine y_ld (x := .ref 116) rfl rfl (fun d => rfl) ?_
            refine y_ld (x := iv 1) rfl rfl (fun d => rfl) ?_
            refine y_ld (x := iv 2) rfl rfl (fun d => rfl) ?_
            refine y_cV (as := [.ref 116, iv 1, iv 2]) rfl rfl rfl rfl rfl hSr1.1 ⟨rfl, (Nat.le_of_ble_eq_true rfl), (Nat.le_of_ble_eq_true rfl)⟩ (by decide) (cs_swap (by decide) hI1 (by decide) (by decide) (fun S12 V12 hI2 => ?_))
            have hI2c := hI2
            obtain ⟨ts2, hSr2, h22, hX2, h42, h52, hC2, h72⟩ := hI2c
            refine y_n0 ?_
            refine y_inc (z := 2) (lv' := [(3, iv 2), (4, iv 2), (2, iv 0), (1, iv 0), (0, .ref 116)]) rfl rfl rfl rfl rfl ?_
            refine y_inc (z := 1) (lv' := [(4, iv 1), (3, iv 2), (2, iv 0), (1, iv 0), (0, .ref 116)]) rfl rfl rfl rfl rfl ?_
            refine y_go rfl rfl ?_
            refine y_ld (x := iv 2) rfl rfl (fun d => rfl) ?_
            refine y_ld (x := iv 1) rfl rfl (fun d => rfl) ?_
            refine y_jge rfl rfl rfl (by decide) (fun g32 => ?_) (fun g32 => absurd g32 (by decide))
            refine y_ic rfl rfl ?_
            refine y_rI rfl (by decide) ?_
            exact k 1 S12 V12 (by decide) hI2
      · refine y_inc (z := (-1)) (lv' := [(1, iv (-1)), (0, .ref 116)]) rfl rfl rfl rfl rfl ?_
        refine y_go rfl rfl ?_
        refine y_ld (x := iv (-1)) rfl rfl (fun d => rfl) ?_
        refine y_zlt rfl rfl rfl (by decide) (fun g33 => ?_) (fun g33 => absurd g33 (by decide))
        refine y_ld (x := iv (-1)) rfl rfl (fun d => rfl) ?_
        refine y_zge rfl rfl rfl (by decide) (fun g34 => absurd g34 (by decide)) (fun g34 => ?_)
        refine y_ic rfl rfl ?_
        refine y_rI rfl (by decide) ?_
        exact k 0 S V (by decide) hI
  · have o0 := h7 0 (by decide)
    have o1 := h7 1 (by decide)
    have o2 := h7 2 (by decide)
    have o3 := h7 3 (by decide)
    refine y_ld (x := .ref 116) rfl rfl (fun d => rfl) ?_
    refine y_gI (i := 4) (e := 4) rfl rfl rfl hSr.1 rfl hSr.2.1.1 ?_
    refine y_ic rfl rfl ?_
    refine y_sub (z := 2) rfl rfl rfl ?_
    refine y_st (lv' := [(1, iv 2), (0, .ref 116)]) rfl rfl (fun d => rfl) ?_
    refine y_ld (x := iv 2) rfl rfl (fun d => rfl) ?_
    refine y_zlt rfl rfl rfl (by decide) (fun g35 => absurd g35 (by decide)) (fun g35 => ?_)
    refine y_ld (x := .ref 116) rfl rfl (fun d => rfl) ?_
    refine y_gR (i := 3) rfl rfl rfl hSr.1 rfl ?_
    refine y_ld (x := iv 2) rfl rfl (fun d => rfl) ?_
    refine y_ild (x := (V 120 2)) (q := 2) rfl rfl (cl_ia hC (k := 120) (N := 4) rfl) (by decide) (by decide) rfl rfl ?_
    refine y_ld (x := .ref 116) rfl rfl (fun d => rfl) ?_
    refine y_gR (i := 3) rfl rfl rfl hSr.1 rfl ?_
    refine y_ld (x := iv 2) rfl rfl (fun d => rfl) ?_
    refine y_ic rfl rfl ?_
    refine y_add (z := 3) rfl rfl rfl ?_
    refine y_ild (x := (V 120 3)) (q := 3) rfl rfl (cl_ia hC (k := 120) (N := 4) rfl) (by decide) (by decide) rfl rfl ?_
    refine y_jle rfl rfl rfl (by omega) (fun g36 => ?_) (fun g36 => ?_)
    · refine y_ld (x := iv 2) rfl rfl (fun d => rfl) ?_
      refine y_zge rfl rfl rfl (by decide) (fun g37 => ?_) (fun g37 => absurd g37 (by decide))
      refine y_ld (x := .ref 116) rfl rfl (fun d => rfl) ?_
      refine y_gI (i := 4) (e := 4) rfl rfl rfl hSr.1 rfl hSr.2.1.1 ?_
      refine y_ic rfl rfl ?_
      refine y_sub (z := 3) rfl rfl rfl ?_
      refine y_st (lv' := [(2, iv 3), (1, iv 2), (0, .ref 116)]) rfl rfl (fun d => rfl) ?_
      refine y_ld (x := iv 3) rfl rfl (fun d => rfl) ?_
      refine y_ld (x := iv 2) rfl rfl (fun d => rfl) ?_
      refine y_jle rfl rfl rfl (by decide) (fun g38 => absurd g38 (by decide)) (fun g38 => ?_)
      refine y_ld (x := .ref 116) rfl rfl (fun d => rfl) ?_
      refine y_gR (i := 3) rfl rfl rfl hSr.1 rfl ?_
      refine y_ld (x := iv 3) rfl rfl (fun d => rfl) ?_
      refine y_ild (x := (V 120 3)) (q := 3) rfl rfl (cl_ia hC (k := 120) (N := 4) rfl) (by decide) (by decide) rfl rfl ?_
      refine y_ld (x := .ref 116) rfl rfl (fun d => rfl) ?_
      refine y_gR (i := 3) rfl rfl rfl hSr.1 rfl ?_
      refine y_ld (x := iv 2) rfl rfl (fun d => rfl) ?_
      refine y_ild (x := (V 120 2)) (q := 2) rfl rfl (cl_ia hC (k := 120) (N := 4) rfl) (by decide) (by decide) rfl rfl ?_
      refine y_jge rfl rfl rfl (by omega) (fun g39 => ?_) (fun g39 => ?_)
      · refine y_ld (x := .ref 116) rfl rfl (fun d => rfl) ?_
        refine y_ld (x := iv 2) rfl rfl (fun d => rfl) ?_
        refine y_ld (x := iv 3) rfl rfl (fun d => rfl) ?_
        refine y_cV (as := [.ref 116, iv 2, iv 3]) rfl rfl rfl rfl rfl hSr.1 ⟨rfl, (Nat.le_of_ble_eq_true rfl), (Nat.le_of_ble_eq_true rfl)⟩ (by decide) (cs_swap (by decide) hI (by decide) (by decide) (fun S11 V11 hI1 => ?_))
        have hI1c := hI1
        obtain ⟨ts1, hSr1, h21, hX1, h41, h51, hC1, h71⟩ := hI1c
        refine y_n0 ?_
        refine y_ld (x := iv 2) rfl rfl (fun d => rfl) ?_
        refine y_ic rfl rfl ?_
        refine y_add (z := 3) rfl rfl rfl ?_
        refine y_st (lv' := [(3, iv 3), (2, iv 3), (1, iv 2), (0, .ref 116)]) rfl rfl (fun d => rfl) ?_
        refine y_ld (x := .ref 116) rfl rfl (fun d => rfl) ?_
        refine y_gI (i := 4) (e := 4) rfl rfl rfl hSr1.1 rfl hSr1.2.1.1 ?_
        refine y_ic rfl rfl ?_
        refine y_sub (z := 3) rfl rfl rfl ?_
        refine y_st (lv' := [(4, iv 3), (3, iv 3), (2, iv 3), (1, iv 2), (0, .ref 116)]) rfl rfl (fun d => rfl) ?_
        refine y_ld (x := iv 3) rfl rfl (fun d => rfl) ?_
        refine y_ld (x := iv 3) rfl rfl (fun d => rfl) ?_
        refine y_jge rfl rfl rfl (by decide) (fun g40 => ?_) (fun g40 => absurd g40 (by decide))
        refine y_ic rfl rfl ?_
        refine y_rI rfl (by decide) ?_
        exact k 1 S11 V11 (by decide) hI1
      · refine y_inc (z := 2) (lv' := [(2, iv 2), (1, iv 2), (0, .ref 116)]) rfl rfl rfl rfl rfl ?_
        refine y_go rfl rfl ?_
        refine y_ld (x := iv 2) rfl rfl (fun d => rfl) ?_
        refine y_ld (x := iv 2) rfl rfl (fun d => rfl) ?_
        refine y_jle rfl rfl rfl (by decide) (fun g41 => ?_) (fun g41 => absurd g41 (by decide))
        refine y_ld (x := .ref 116) rfl rfl (fun d => rfl) ?_
        refine y_ld (x := iv 2) rfl rfl (fun d => rfl) ?_
        refine y_ld (x := iv 2) rfl rfl (fun d => rfl) ?_
        refine y_cV (as := [.ref 116, iv 2, iv 2]) rfl rfl rfl rfl rfl hSr.1 ⟨rfl, (Nat.le_of_ble_eq_true rfl), (Nat.le_of_ble_eq_true rfl)⟩ (by decide) (cs_swap (by decide) hI (by decide) (by decide) (fun S11 V11 hI1 => ?_))
        have hI1c := hI1
        obtain ⟨ts1, hSr1, h21, hX1, h41, h51, hC1, h71⟩ := hI1c
        refine y_n0 ?_
        refine y_ld (x := iv 2) rfl rfl (fun d => rfl) ?_
        refine y_ic rfl rfl ?_
        refine y_add (z := 3) rfl rfl rfl ?_
        refine y_st (lv' := [(3, iv 3), (2, iv 2), (1, iv 2), (0, .ref 116)]) rfl rfl (fun d => rfl) ?_
        refine y_ld (x := .ref 116) rfl rfl (fun d => rfl) ?_
        refine y_gI (i := 4) (e := 4) rfl rfl rfl hSr1.1 rfl hSr1.2.1.1 ?_
        refine y_ic rfl rfl ?_
        refine y_sub (z := 3) rfl rfl rfl ?_
        refine y_st (lv' := [(4, iv 3), (3, iv 3), (2, iv 2), (1, iv 2), (0, .ref 116)]) rfl rfl (fun d => rfl) ?_
        refine y_ld (x := iv 3) rfl rfl (fun d => rfl) ?_
        refine y_ld (x := iv 3) rfl rfl (fun d => rfl) ?_
        refine y_jge rfl rfl rfl (by decide) (fun g42 => ?_) (fun g42 => absurd g42 (by decide))
        refine y_ic rfl rfl ?_
        refine y_rI rfl (by decide) ?_
        exact k 1 S11 V11 (by decide) hI1
    · refine y_inc (z := 1) (lv' := [(1, iv 1), (0, .ref 116)]) rfl rfl rfl rfl rfl ?_
      refine y_go rfl rfl ?_
      refine y_ld (x := iv 1) rfl rfl (fun d => rfl) ?_
      refine y_zlt rfl rfl rfl (by decide) (fun g43 => absurd g43 (by decide)) (fun g43 => ?_)
      refine y_ld (x := .ref 116) rfl rfl (fun d => rfl) ?_
      refine y_gR (i := 3) rfl rfl rfl hSr.1 rfl ?_
      refine y_ld (x := iv 1) rfl rfl (fun d => rfl) ?_
      refine y_ild (x := (V 120 1)) (q := 1) rfl rfl (cl_ia hC (k := 120) (N := 4) rfl) (by decide) (by decide) rfl rfl ?_
      refine y_ld (x := .ref 116) rfl rfl (fun d => rfl) ?_
      refine y_gR (i := 3) rfl rfl rfl hSr.1 rfl ?_
      refine y_ld (x := iv 1) rfl rfl (fun d => rfl) ?_
      refine y_ic rfl rfl ?_
      refine y_add (z := 2) rfl rfl rfl ?_
      refine y_ild (x := (V 120 2)) (q := 2) rfl rfl (cl_ia hC (k := 120) (N := 4) rfl) (by decide) (by decide) rfl rfl ?_
      refine y_jle rfl rfl rfl (by omega) (fun g44 => ?_) (fun g44 => ?_)
      · refine y_ld (x := iv 1) rfl rfl (fun d => rfl) ?_
        refine y_zge rfl rfl rfl (by decide) (fun g45 => ?_) (fun g45 => absurd g45 (by decide))
        refine y_ld (x := .ref 116) rfl rfl (fun d => rfl) ?_
        refine y_gI (i := 4) (e := 4) rfl rfl rfl hSr.1 rfl hSr.2.1.1 ?_
        refine y_ic rfl rfl ?_
        refine y_sub (z := 3) rfl rfl rfl ?_
        refine y_st (lv' := [(2, iv 3), (1, iv 1), (0, .ref 116)]) rfl rfl (fun d => rfl) ?_
        refine y_ld (x := iv 3) rfl rfl (fun d => rfl) ?_
        refine y_ld (x := iv 1) rfl rfl (fun d => rfl) ?_
        refine y_jle rfl rfl rfl (by decide) (fun g46 => absurd g46 (by decide)) (fun g46 => ?_)
        refine y_ld (x := .ref 116) rfl rfl (fun d => rfl) ?_
        refine y_gR (i := 3) rfl rfl rfl hSr.1 rfl ?_
        refine y_ld (x := iv 3) rfl rfl (fun d => rfl) ?_
        refine y_ild (x := (V 120 3)) (q := 3) rfl rfl (cl_ia hC (k := 120) (N := 4) rfl) (by decide) (by decide) rfl rfl ?_
        refine y_ld (x := .ref 116) rfl rfl (fun d => rfl) ?_
        refine y_gR (i := 3) rfl rfl rfl hSr.1 rfl ?_
        refine y_ld (x := iv 1) rfl rfl (fun d => rfl) ?_
        refine y_ild (x := (V 120 1)) (q := 1) rfl rfl (cl_ia hC (k := 120) (N := 4) rfl) (by decide) (by decide) rfl rfl ?_
        refine y_jge rfl rfl rfl (by omega) (fun g47 => ?_) (fun g47 => ?_)
        · refine y_ld (x := .ref 116) rfl rfl (fun d => rfl) ?_
          refine y_ld (x := iv 1) rfl rfl (fun d => rfl) ?_
          refine y_ld (x := iv 3) rfl rfl (fun d => rfl) ?_
          refine y_cV (as := [.ref 116, iv 1, iv 3]) rfl rfl rfl rfl rfl hSr.1 ⟨rfl, (Nat.le_of_ble_eq_true rfl), (Nat.le_of_ble_eq_true rfl)⟩ (by decide) (cs_swap (by decide) hI (by decide) (by decide) (fun S11 V11 hI1 => ?_))
          have hI1c := hI1
          obtain ⟨ts1, hSr1, h21, hX1, h41, h51, hC1, h71⟩ := hI1c
          refine y_n0 ?_
          refine y_ld (x := iv 1) rfl rfl (fun d => rfl) ?_
          refine y_ic rfl rfl ?_
          refine y_add (z := 2) rfl rfl rfl ?_
          refine y_st (lv' := [(3, iv 2), (2, iv 3), (1, iv 1), (0, .ref 116)]) rfl rfl (fun d => rfl) ?_
          refine y_ld (x := .ref 116) rfl rfl (fun d => rfl) ?_
          refine y_gI (i := 4) (e := 4) rfl rfl rfl hSr1.1 rfl hSr1.2.1.1 ?_
          refine y_ic rfl rfl ?_
          refine y_sub (z := 3) rfl rfl rfl ?_
          refine y_st (lv' := [(4, iv 3), (3, iv 2), (2, iv 3), (1, iv 1), (0, .ref 116)]) rfl rfl (fun d => rfl) ?_
          refine y_ld (x := iv 2) rfl rfl (fun d => rfl) ?_
          refine y_ld (x := iv 3) rfl rfl (fun d => rfl) ?_
          refine y_jge rfl rfl rfl (by decide) (fun g48 => absurd g48 (by decide)) (fun g48 => ?_)
          refine y_ld (x := .ref 116) rfl rfl (fun d => rfl) ?_
          refine y_ld (x := iv 2) rfl rfl (fun d => rfl) ?_
          refine y_ld (x := iv 3) rfl rfl (fun d => rfl) ?_
          refine y_cV (as := [.ref 116, iv 2, iv 3]) rfl rfl rfl rfl rfl hSr1.1 ⟨rfl, (Nat.le_of_ble_eq_true rfl), (Nat.le_of_ble_eq_true rfl)⟩ (by decide) (cs_swap (by decide) hI1 (by decide) (by decide) (fun S12 V12 hI2 => ?_))
          have hI2c := hI2
          obtain ⟨ts2, hSr2, h22, hX2, h42, h52, hC2, h72⟩ := hI2c
          refine y_n0 ?_
          refine y_inc (z := 3) (lv' := [(3, iv 3), (4, iv 3), (2, iv 3), (1, iv 1), (0, .ref 116)]) rfl rfl rfl rfl rfl ?_
          refine y_inc (z := 2) (lv' := [(4, iv 2), (3, iv 3), (2, iv 3), (1, iv 1), (0, .ref 116)]) rfl rfl rfl rfl rfl ?_
          refine y_go rfl rfl ?_
          refine y_ld (x := iv 3) rfl rfl (fun d => rfl) ?_
          refine y_ld (x := iv 2) rfl rfl (fun d => rfl) ?_
          refine y_jge rfl rfl rfl (by decide) (fun g49 => ?_) (fun g49 => absurd g49 (by decide))
          refine y_ic rfl rfl ?_
          refine y_rI rfl (by decide) ?_
          exact k 1 S12 V12 (by decide) hI2
        · refine y_inc (z := 2) (lv' := [(2, iv 2), (1, iv 1), (0, .ref 116)]) rfl rfl rfl rfl rfl ?_
          refine y_go rfl rfl ?_
          refine y_ld (x := iv 2) rfl rfl (fun d => rfl) ?_
          refine y_ld (x := iv 1) rfl rfl (fun d => rfl) ?_
          refine y_jle rfl rfl rfl (by decide) (fun g50 => absurd g50 (by decide)) (fun g50 => ?_)
          refine y_ld (x := .ref 116) rfl rfl (fun d => rfl) ?_
          refine y_gR (i := 3) rfl rfl rfl hSr.1 rfl ?_
          refine y_ld (x := iv 2) rfl rfl (fun d => rfl) ?_
          refine y_ild (x := (V 120 2)) (q := 2) rfl rfl (cl_ia hC (k := 120) (N := 4) rfl) (by decide) (by decide) rfl rfl ?_
          refine y_ld (x := .ref 116) rfl rfl (fun d => rfl) ?_
          refine y_gR (i := 3) rfl rfl rfl hSr.1 rfl ?_
          refine y_ld (x := iv 1) rfl rfl (fun d => rfl) ?_
          refine y_ild (x := (V 120 1)) (q := 1) rfl rfl (cl_ia hC (k := 120) (N := 4) rfl) (by decide) (by decide) rfl rfl ?_
          refine y_jge rfl rfl rfl (by omega) (fun g51 => ?_) (fun g51 => ?_)
          · refine y_ld (x := .ref 116) rfl rfl (fun d => rfl) ?_
            refine y_ld (x := iv 1) rfl rfl (fun d => rfl) ?_
            refine y_ld (x := iv 2) rfl rfl (fun d => rfl) ?_
            refine y_cV (as := [.ref 116, iv 1, iv 2]) rfl rfl rfl rfl rfl hSr.1 ⟨rfl, (Nat.le_of_ble_eq_true rfl), (Nat.le_of_ble_eq_true rfl)⟩ (by decide) (cs_swap (by decide) hI (by decide) (by decide) (fun S11 V11 hI1 => ?_))
            have hI1c := hI1
            obtain ⟨ts1, hSr1, h21, hX1, h41, h51, hC1, h71⟩ := hI1c
            refine y_n0 ?_
            refine y_ld (x := iv 1) rfl rfl (fun d => rfl) ?_
            refine y_ic rfl rfl ?_
            refine y_add (z := 2) rfl rfl rfl ?_
            refine y_st (lv' := [(3, iv 2), (2, iv 2), (1, iv 1), (0, .ref 116)]) rfl rfl (fun d => rfl) ?_
            refine y_ld (x := .ref 116) rfl rfl (fun d => rfl) ?_
            refine y_gI (i := 4) (e := 4) rfl rfl rfl hSr1.1 rfl hSr1.2.1.1 ?_
            refine y_ic rfl rfl ?_
            refine y_sub (z := 3) rfl rfl rfl ?_
            refine y_st (lv' := [(4, iv 3), (3, iv 2), (2, iv 2), (1, iv 1), (0, .ref 116)]) rfl rfl (fun d => rfl) ?_
            refine y_ld (x := iv 2) rfl rfl (fun d => rfl) ?_
            refine y_ld (x := iv 3) rfl rfl (fun d => rfl) ?_
            refine y_jge rfl rfl rfl (by decide) (fun g52 => absurd g52 (by decide)) (fun g52 => ?_)
            refine y_ld (x := .ref 116) rfl rfl (fun d => rfl) ?_
            refine y_ld (x := iv 2) rfl rfl (fun d => rfl) ?_
            refine y_ld (x := iv 3) rfl rfl (fun d => rfl) ?_
            refine y_cV (as := [.ref 116, iv 2, iv 3]) rfl rfl rfl rfl rfl hSr1.1 ⟨rfl, (Nat.le_of_ble_eq_true rfl), (Nat.le_of_ble_eq_true rfl)⟩ (by decide) (cs_swap (by decide) hI1 (by decide) (by decide) (fun S12 V12 hI2 => ?_))
            have hI2c := hI2
            obtain ⟨ts2, hSr2, h22, hX2, h42, h52, hC2, h72⟩ := hI2c
            refine y_n0 ?_
            refine y_inc (z := 3) (lv' := [(3, iv 3), (4, iv 3), (2, iv 2), (1, iv 1), (0, .ref 116)]) rfl rfl rfl rfl rfl ?_
            refine y_inc (z := 2) (lv' := [(4, iv 2), (3, iv 3), (2, iv 2), (1, iv 1), (0, .ref 116)]) rfl rfl rfl rfl rfl ?_
            refine y_go rfl rfl ?_
            refine y_ld (x := iv 3) rfl rfl (fun d => rfl) ?_
            refine y_ld (x := iv 2) rfl rfl (fun d => rfl) ?_
            refine y_jge rfl rfl rfl (by decide) (fun g53 => ?_) (fun g53 => absurd g53 (by decide))
            refine y_ic rfl rfl ?_
            refine y_rI rfl (by decide) ?_
            exact k 1 S12 V12 (by decide) hI2
          · refine y_inc (z := 1) (lv' := [(2, iv 1), (1, iv 1), (0, .ref 116)]) rfl rfl rfl rfl rfl ?_
            refine y_go rfl rfl ?_
            refine y_ld (x := iv 1) rfl rfl (fun d => rfl) ?_
            refine y_ld (x := iv 1) rfl rfl (fun d => rfl) ?_
            refine y_jle rfl rfl rfl (by decide) (fun g54 => ?_) (fun g54 => absurd g54 (by decide))
            refine y_ld (x := .ref 116) rfl rfl (fun d => rfl) ?_
            refine y_ld (x := iv 1) rfl rfl (fun d => rfl) ?_
            refine y_ld (x := iv 1) rfl rfl (fun d => rfl) ?_
            refine y_cV (as := [.ref 116, iv 1, iv 1]) rfl rfl rfl rfl rfl hSr.1 ⟨rfl, (Nat.le_of_ble_eq_true rfl), (Nat.le_of_ble_eq_true rfl)⟩ (by decide) (cs_swap (by decide) hI (by decide) (by decide) (fun S11 V11 hI1 => ?_))
            have hI1c := hI1
            obtain ⟨ts1, hSr1, h21, hX1, h41, h51, hC1, h71⟩ := hI1c
            refine y_n0 ?_
            refine y_ld (x := iv 1) rfl rfl (fun d => rfl) ?_
            refine y_ic rfl rfl ?_
            refine y_add (z := 2) rfl rfl rfl ?_
            refine y_st (lv' := [(3, iv 2), (2, iv 1), (1, iv 1), (0, .ref 116)]) rfl rfl (fun d => rfl) ?_
            refine y_ld (x := .ref 116) rfl rfl (fun d => rfl) ?_
            refine y_gI (i := 4) (e := 4) rfl rfl rfl hSr1.1 rfl hSr1.2.1.1 ?_
            refine y_ic rfl rfl ?_
            refine y_sub (z := 3) rfl rfl rfl ?_
            refine y_st (lv' := [(4, iv 3), (3, iv 2), (2, iv 1), (1, iv 1), (0, .ref 116)]) rfl rfl (fun d => rfl) ?_
            refine y_ld (x := iv 2) rfl rfl (fun d => rfl) ?_
            refine y_ld (x := iv 3) rfl rfl (fun d => rfl) ?_
            refine y_jge rfl rfl rfl (by decide) (fun g55 => absurd g55 (by decide)) (fun g55 => ?_)
            refine y_ld (x := .ref 116) rfl rfl (fun d => rfl) ?_
            refine y_ld (x := iv 2) rfl rfl (fun d => rfl) ?_
            refine y_ld (x := iv 3) rfl rfl (fun d => rfl) ?_
            refine y_cV (as := [.ref 116, iv 2, iv 3]) rfl rfl rfl rfl rfl hSr1.1 ⟨rfl, (Nat.le_of_ble_eq_true rfl), (Nat.le_of_ble_eq_true rfl)⟩ (by decide) (cs_swap (by decide) hI1 (by decide) (by decide) (fun S12 V12 hI2 => ?_))
            have hI2c := hI2
            obtain ⟨ts2, hSr2, h22, hX2, h42, h52, hC2, h72⟩ := hI2c
            refine y_n0 ?_
            refine y_inc (z := 3) (lv' := [(3, iv 3), (4, iv 3), (2, iv 1), (1, iv 1), (0, .ref 116)]) rfl rfl rfl rfl rfl ?_
            refine y_inc (z := 2) (lv' := [(4, iv 2), (3, iv 3), (2, iv 1), (1, iv 1), (0, .ref 116)]) rfl rfl rfl rfl rfl ?_
            refine y_go rfl rfl ?_
            refine y_ld (x := iv 3) rfl rfl (fun d => rfl) ?_
            refine y_ld (x := iv 2) rfl rfl (fun d => rfl) ?_
            refine y_jge rfl rfl rfl (by decide) (fun g56 => ?_) (fun g56 => absurd g56 (by decide))
            refine y_ic rfl rfl ?_
            refine y_rI rfl (by decide) ?_
            exact k 1 S12 V12 (by decide) hI2
      · refine y_inc (z := 0) (lv' := [(1, iv 0), (0, .ref 116)]) rfl rfl rfl rfl rfl ?_
        refine y_go rfl rfl ?_
        refine y_ld (x := iv 0) rfl rfl (fun d => rfl) ?_
        refine y_zlt rfl rfl rfl (by decide) (fun g57 => absurd g57 (by decide)) (fun g57 => ?_)
        refine y_ld (x := .ref 116) rfl rfl (fun d => rfl) ?_
        refine y_gR (i := 3) rfl rfl rfl hSr.1 rfl ?_
        refine y_ld (x := iv 0) rfl rfl (fun d => rfl) ?_
        refine y_ild (x := (V 120 0)) (q := 0) rfl rfl (cl_ia hC (k := 120) (N := 4) rfl) (by decide) (by decide) rfl rfl ?_
        refine y_ld (x := .ref 116) rfl rfl (fun d => rfl) ?_
        refine y_gR (i := 3) rfl rfl rfl hSr.1 rfl ?_
        refine y_ld (x := iv 0) rfl rfl (fun d => rfl) ?_
        refine y_ic rfl rfl ?_
        refine y_add (z := 1) rfl rfl rfl ?_
        refine y_ild (x := (V 120 1)) (q := 1) rfl rfl (cl_ia hC (k := 120) (N := 4) rfl) (by decide) (by decide) rfl rfl ?_
        refine y_jle rfl rfl rfl (by omega) (fun g58 => ?_) (fun g58 => ?_)
        · refine y_ld (x := iv 0) rfl rfl (fun d => rfl) ?_
          refine y_zge rfl rfl rfl (by decide) (fun g59 => ?_) (fun g59 => absurd g59 (by decide))
          refine y_ld (x := .ref 116) rfl rfl (fun d => rfl) ?_
          refine y_gI (i := 4) (e := 4) rfl rfl rfl hSr.1 rfl hSr.2.1.1 ?_
          refine y_ic rfl rfl ?_
          refine y_sub (z := 3) rfl rfl rfl ?_
          refine y_st (lv' := [(2, iv 3), (1, iv 0), (0, .ref 116)]) rfl rfl (fun d => rfl) ?_
          refine y_ld (x := iv 3) rfl rfl (fun d => rfl) ?_
          refine y_ld (x := iv 0) rfl rfl (fun d => rfl) ?_
          refine y_jle rfl rfl rfl (by decide) (fun g60 => absurd g60 (by decide)) (fun g60 => ?_)
          refine y_ld (x := .ref 116) rfl rfl (fun d => rfl) ?_
          refine y_gR (i := 3) rfl rfl rfl hSr.1 rfl ?_
          refine y_ld (x := iv 3) rfl rfl (fun d => rfl) ?_
          refine y_ild (x := (V 120 3)) (q := 3) rfl rfl (cl_ia hC (k := 120) (N := 4) rfl) (by decide) (by decide) rfl rfl ?_
          refine y_ld (x := .ref 116) rfl rfl (fun d => rfl) ?_
          refine y_gR (i := 3) rfl rfl rfl hSr.1 rfl ?_
          refine y_ld (x := iv 0) rfl rfl (fun d => rfl) ?_
          refine y_ild (x := (V 120 0)) (q := 0) rfl rfl (cl_ia hC (k := 120) (N := 4) rfl) (by decide) (by decide) rfl rfl ?_
          refine y_jge rfl rfl rfl (by omega) (fun g61 => ?_) (fun g61 => ?_)
          · refine y_ld (x := .ref 116) rfl rfl (fun d => rfl) ?_
            refine y_ld (x := iv 0) rfl rfl (fun d => rfl) ?_
            refine y_ld (x := iv 3) rfl rfl (fun d => rfl) ?_
            refine y_cV (as := [.ref 116, iv 0, iv 3]) rfl rfl rfl rfl rfl hSr.1 ⟨rfl, (Nat.le_of_ble_eq_true rfl), (Nat.le_of_ble_eq_true rfl)⟩ (by decide) (cs_swap (by decide) hI (by decide) (by decide) (fun S11 V11 hI1 => ?_))
            have hI1c := hI1
            obtain ⟨ts1, hSr1, h21, hX1, h41, h51, hC1, h71⟩ := hI1c
            refine y_n0 ?_
            refine y_ld (x := iv 0) rfl rfl (fun d => rfl) ?_
            refine y_ic rfl rfl ?_
            refine y_add (z := 1) rfl rfl rfl ?_
            refine y_st (lv' := [(3, iv 1), (2, iv 3), (1, iv 0), (0, .ref 116)]) rfl rfl (fun d => rfl) ?_
            refine y_ld (x := .ref 116) rfl rfl (fun d => rfl) ?_
            refine y_gI (i := 4) (e := 4) rfl rfl rfl hSr1.1 rfl hSr1.2.1.1 ?_
            refine y_ic rfl rfl ?_
            refine y_sub (z := 3) rfl rfl rfl ?_
            refine y_st (lv' := [(4, iv 3), (3, iv 1), (2, iv 3), (1, iv 0), (0, .ref 116)]) rfl rfl (fun d => rfl) ?_
            refine y_ld (x := iv 1) rfl rfl (fun d => rfl) ?_
            refine y_ld (x := iv 3) rfl rfl (fun d => rfl) ?_
            refine y_jge rfl rfl rfl (by decide) (fun g62 => absurd g62 (by decide)) (fun g62 => ?_)
            refine y_ld (x := .ref 116) rfl rfl (fun d => rfl) ?_
            refine y_ld (x := iv 1) rfl rfl (fun d => rfl) ?_
            refine y_ld (x := iv 3) rfl rfl (fun d => rfl) ?_
            refine y_cV (as := [.ref 116, iv 1, iv 3]) rfl rfl rfl rfl rfl hSr1.1 ⟨rfl, (Nat.le_of_ble_eq_true rfl), (Nat.le_of_ble_eq_true rfl)⟩ (by decide) (cs_swap (by decide) hI1 (by decide) (by decide) (fun S12 V12 hI2 => ?_))
            have hI2c := hI2
            obtain ⟨ts2, hSr2, h22, hX2, h42, h52, hC2, h72⟩ := hI2c
            refine y_n0 ?_
            refine y_inc (z := 2) (lv' := [(3, iv 2), (4, iv 3), (2, iv 3), (1, iv 0), (0, .ref 116)]) rfl rfl rfl rfl rfl ?_
            refine y_inc (z := 2) (lv' := [(4, iv 2), (3, iv 2), (2, iv 3), (1, iv 0), (0, .ref 116)]) rfl rfl rfl rfl rfl ?_
            refine y_go rfl rfl ?_
            refine y_ld (x := iv 2) rfl rfl (fun d => rfl) ?_
            refine y_ld (x := iv 2) rfl rfl (fun d => rfl) ?_
            refine y_jge rfl rfl rfl (by decide) (fun g63 => ?_) (fun g63 => absurd g63 (by decide))
            refine y_ic rfl rfl ?_
            refine y_rI rfl (by decide) ?_
            exact k 1 S12 V12 (by decide) hI2
          · refine y_inc (z := 2) (lv' := [(2, iv 2), (1, iv 0), (0, .ref 116)]) rfl rfl rfl rfl rfl ?_
            refine y_go rfl rfl ?_
            refine y_ld (x := iv 2) rfl rfl (fun d => rfl) ?_
            refine y_ld (x := iv 0) rfl rfl (fun d => rfl) ?_
            refine y_jle rfl rfl rfl (by decide) (fun g64 => absurd g64 (by decide)) (fun g64 => ?_)
            refine y_ld (x := .ref 116) rfl rfl (fun d => rfl) ?_
            refine y_gR (i := 3) rfl rfl rfl hSr.1 rfl ?_
            refine y_ld (x := iv 2) rfl rfl (fun d => rfl) ?_
            refine y_ild (x := (V 120 2)) (q := 2) rfl rfl (cl_ia hC (k := 120) (N := 4) rfl) (by decide) (by decide) rfl rfl ?_
            refine y_ld (x := .ref 116) rfl rfl (fun d => rfl) ?_
            refine y_gR (i := 3) rfl rfl rfl hSr.1 rfl ?_
            refine y_ld (x := iv 0) rfl rfl (fun d => rfl) ?_
            refine y_ild (x := (V 120 0)) (q := 0) rfl rfl (cl_ia hC (k := 120) (N := 4) rfl) (by decide) (by decide) rfl rfl ?_
            refine y_jge rfl rfl rfl (by omega) (fun g65 => ?_) (fun g65 => ?_)
            · refine y_ld (x := .ref 116) rfl rfl (fun d => rfl) ?_
              refine y_ld (x := iv 0) rfl rfl (fun d => rfl) ?_
              refine y_ld (x := iv 2) rfl rfl (fun d => rfl) ?_
              refine y_cV (as := [.ref 116, iv 0, iv 2]) rfl rfl rfl rfl rfl hSr.1 ⟨rfl, (Nat.le_of_ble_eq_true rfl), (Nat.le_of_ble_eq_true rfl)⟩ (by decide) (cs_swap (by decide) hI (by decide) (by decide) (fun S11 V11 hI1 => ?_))
              have hI1c := hI1
              obtain ⟨ts1, hSr1, h21, hX1, h41, h51, hC1, h71⟩ := hI1c
              refine y_n0 ?_
              refine y_ld (x := iv 0) rfl rfl (fun d => rfl) ?_
              refine y_ic rfl rfl ?_
              refine y_add (z := 1) rfl rfl rfl ?_
              refine y_st (lv' := [(3, iv 1), (2, iv 2), (1, iv 0), (0, .ref 116)]) rfl rfl (fun d => rfl) ?_
              refine y_ld (x := .ref 116) rfl rfl (fun d => rfl) ?_
              refine y_gI (i := 4) (e := 4) rfl rfl rfl hSr1.1 rfl hSr1.2.1.1 ?_
              refine y_ic rfl rfl ?_
              refine y_sub (z := 3) rfl rfl rfl ?_
              refine y_st (lv' := [(4, iv 3), (3, iv 1), (2, iv 2), (1, iv 0), (0, .ref 116)]) rfl rfl (fun d => rfl) ?_
              refine y_ld (x := iv 1) rfl rfl (fun d => rfl) ?_
              refine y_ld (x := iv 3) rfl rfl (fun d => rfl) ?_
              refine y_jge rfl rfl rfl (by decide) (fun g66 => absurd g66 (by decide)) (fun g66 => ?_)
              refine y_ld (x := .ref 116) rfl rfl (fun d => rfl) ?_
              refine y_ld (x := iv 1) rfl rfl (fun d => rfl) ?_
              refine y_ld (x := iv 3) rfl rfl (fun d => rfl) ?_
              refine y_cV (as := [.ref 116, iv 1, iv 3]) rfl rfl rfl rfl rfl hSr1.1 ⟨rfl, (Nat.le_of_ble_eq_true rfl), (Nat.le_of_ble_eq_true rfl)⟩ (by decide) (cs_swap (by decide) hI1 (by decide) (by decide) (fun S12 V12 hI2 => ?_))
              have hI2c := hI2
              obtain ⟨ts2, hSr2, h22, hX2, h42, h52, hC2, h72⟩ := hI2c
              refine y_n0 ?_
              refine y_inc (z := 2) (lv' := [(3, iv 2), (4, iv 3), (2, iv 2), (1, iv 0), (0, .ref 116)]) rfl rfl rfl rfl rfl ?_
              refine y_inc (z := 2) (lv' := [(4, iv 2), (3, iv 2), (2, iv 2), (1, iv 0), (0, .ref 116)]) rfl rfl rfl rfl rfl ?_
              refine y_go rfl rfl ?_
              refine y_ld (x := iv 2) rfl rfl (fun d => rfl) ?_
              refine y_ld (x := iv 2) rfl rfl (fun d => rfl) ?_
              refine y_jge rfl rfl rfl (by decide) (fun g67 => ?_) (fun g67 => absurd g67 (by decide))
              refine y_ic rfl rfl ?_
              refine y_rI rfl (by decide) ?_
              exact k 1 S12 V12 (by decide) hI2
            · refine y_inc (z := 1) (lv' := [(2, iv 1), (1, iv 0), (0, .ref 116)]) rfl rfl rfl rfl rfl ?_
              refine y_go rfl rfl ?_
              refine y_ld (x := iv 1) rfl rfl (fun d => rfl) ?_
              refine y_ld (x := iv 0) rfl rfl (fun d => rfl) ?_
              refine y_jle rfl rfl rfl (by decide) (fun g68 => absurd g68 (by decide)) (fun g68 => ?_)
              refine y_ld (x := .ref 116) rfl rfl (fun d => rfl) ?_
              refine y_gR (i := 3) rfl rfl rfl hSr.1 rfl ?_
              refine y_ld (x := iv 1) rfl rfl (fun d => rfl) ?_
              refine y_ild (x := (V 120 1)) (q := 1) rfl rfl (cl_ia hC (k := 120) (N := 4) rfl) (by decide) (by decide) rfl rfl ?_
              refine y_ld (x := .ref 116) rfl rfl (fun d => rfl) ?_
              refine y_gR (i := 3) rfl rfl rfl hSr.1 rfl ?_
              refine y_ld (x := iv 0) rfl rfl (fun d => rfl) ?_
              refine y_ild (x := (V 120 0)) (q := 0) rfl rfl (cl_ia hC (k := 120) (N := 4) rfl) (by decide) (by decide) rfl rfl ?_
              refine y_jge rfl rfl rfl (by omega) (fun g69 => ?_) (fun g69 => ?_)
              · refine y_ld (x := .ref 116) rfl rfl (fun d => rfl) ?_
                refine y_ld (x := iv 0) rfl rfl (fun d => rfl) ?_
                refine y_ld (x := iv 1) rfl rfl (fun d => rfl) ?_
                refine y_cV (as := [.ref 116, iv 0, iv 1]) rfl rfl rfl rfl rfl hSr.1 ⟨rfl, (Nat.le_of_ble_eq_true rfl), (Nat.le_of_ble_eq_true rfl)⟩ (by decide) (cs_swap (by decide) hI (by decide) (by decide) (fun S11 V11 hI1 => ?_))
                have hI1c := hI1
                obtain ⟨ts1, hSr1, h21, hX1, h41, h51, hC1, h71⟩ := hI1c
                refine y_n0 ?_
                refine y_ld (x := iv 0) rfl rfl (fun d => rfl) ?_
                refine y_ic rfl rfl ?_
                refine y_add (z := 1) rfl rfl rfl ?_
                refine y_st (lv' := [(3, iv 1), (2, iv 1), (1, iv 0), (0, .ref 116)]) rfl rfl (fun d => rfl) ?_
                refine y_ld (x := .ref 116) rfl rfl (fun d => rfl) ?_
                refine y_gI (i := 4) (e := 4) rfl rfl rfl hSr1.1 rfl hSr1.2.1.1 ?_
                refine y_ic rfl rfl ?_
                refine y_sub (z := 3) rfl rfl rfl ?_
                refine y_st (lv' := [(4, iv 3), (3, iv 1), (2, iv 1), (1, iv 0), (0, .ref 116)]) rfl rfl (fun d => rfl) ?_
                refine y_ld (x := iv 1) rfl rfl (fun d => rfl) ?_
                refine y_ld (x := iv 3) rfl rfl (fun d => rfl) ?_
                refine y_jge rfl rfl rfl (by decide) (fun g70 => absurd g70 (by decide)) (fun g70 => ?_)
                refine y_ld (x := .ref 116) rfl rfl (fun d => rfl) ?_
                refine y_ld (x := iv 1) rfl rfl (fun d => rfl) ?_
                refine y_ld (x := iv 3) rfl rfl (fun d => rfl) ?_
                refine y_cV (as := [.ref 116, iv 1, iv 3]) rfl rfl rfl rfl rfl hSr1.1 ⟨rfl, (Nat.le_of_ble_eq_true rfl), (Nat.le_of_ble_eq_true rfl)⟩ (by decide) (cs_swap (by decide) hI1 (by decide) (by decide) (fun S12 V12 hI2 => ?_))
                have hI2c := hI2
                obtain ⟨ts2, hSr2, h22, hX2, h42, h52, hC2, h72⟩ := hI2c
                refine y_n0 ?_
                refine y_inc (z := 2) (lv' := [(3, iv 2), (4, iv 3), (2, iv 1), (1, iv 0), (0, .ref 116)]) rfl rfl rfl rfl rfl ?_
                refine y_inc (z := 2) (lv' := [(4, iv 2), (3, iv 2), (2, iv 1), (1, iv 0), (0, .ref 116)]) rfl rfl rfl rfl rfl ?_
                refine y_go rfl rfl ?_
                refine y_ld (x := iv 2) rfl rfl (fun d => rfl) ?_
                refine y_ld (x := iv 2) rfl rfl (fun d => rfl) ?_
                refine y_jge rfl rfl rfl (by decide) (fun g71 => ?_) (fun g71 => absurd g71 (by decide))
                refine y_ic rfl rfl ?_
                refine y_rI rfl (by decide) ?_
                exact k 1 S12 V12 (by decide) hI2
              · refine y_inc (z := 0) (lv' := [(2, iv 0), (1, iv 0), (0, .ref 116)]) rfl rfl rfl rfl rfl ?_
                refine y_go rfl rfl ?_
                refine y_ld (x := iv 0) rfl rfl (fun d => rfl) ?_
                refine y_ld (x := iv 0) rfl rfl (fun d => rfl) ?_
                refine y_jle rfl rfl rfl (by decide) (fun g72 => ?_) (fun g72 => absurd g72 (by decide))
                refine y_ld (x := .ref 116) rfl rfl (fun d => rfl) ?_
                refine y_ld (x := iv 0) rfl rfl (fun d => rfl) ?_
                refine y_ld (x := iv 0) rfl rfl (fun d => rfl) ?_
                refine y_cV (as := [.ref 116, iv 0, iv 0]) rfl rfl rfl rfl rfl hSr.1 ⟨rfl, (Nat.le_of_ble_eq_true rfl), (Nat.le_of_ble_eq_true rfl)⟩ (by decide) (cs_swap (by decide) hI (by decide) (by decide) (fun S11 V11 hI1 => ?_))
                have hI1c := hI1
                obtain ⟨ts1, hSr1, h21, hX1, h41, h51, hC1, h71⟩ := hI1c
                refine y_n0 ?_
                refine y_ld (x := iv 0) rfl rfl (fun d => rfl) ?_
                refine y_ic rfl rfl ?_
                refine y_add (z := 1) rfl rfl rfl ?_
                refine y_st (lv' := [(3, iv 1), (2, iv 0), (1, iv 0), (0, .ref 116)]) rfl rfl (fun d => rfl) ?_
                refine y_ld (x := .ref 116) rfl rfl (fun d => rfl) ?_
                refine y_gI (i := 4) (e := 4) rfl rfl rfl hSr1.1 rfl hSr1.2.1.1 ?_
                refine y_ic rfl rfl ?_
                refine y_sub (z := 3) rfl rfl rfl ?_
                refine y_st (lv' := [(4, iv 3), (3, iv 1), (2, iv 0), (1, iv 0), (0, .ref 116)]) rfl rfl (fun d => rfl) ?_
                refine y_ld (x := iv 1) rfl rfl (fun d => rfl) ?_
                refine y_ld (x := iv 3) rfl rfl (fun d => rfl) ?_
                refine y_jge rfl rfl rfl (by decide) (fun g73 => absurd g73 (by decide)) (fun g73 => ?_)
                refine y_ld (x := .ref 116) rfl rfl (fun d => rfl) ?_
                refine y_ld (x := iv 1) rfl rfl (fun d => rfl) ?_
                refine y_ld (x := iv 3) rfl rfl (fun d => rfl) ?_
                refine y_cV (as := [.ref 116, iv 1, iv 3]) rfl rfl rfl rfl rfl hSr1.1 ⟨rfl, (Nat.le_of_ble_eq_true rfl), (Nat.le_of_ble_eq_true rfl)⟩ (by decide) (cs_swap (by decide) hI1 (by decide) (by decide) (fun S12 V12 hI2 => ?_))
                have hI2c := hI2
                obtain ⟨ts2, hSr2, h22, hX2, h42, h52, hC2, h72⟩ := hI2c
                refine y_n0 ?_
                refine y_inc (z := 2) (lv' := [(3, iv 2), (4, iv 3), (2, iv 0), (1, iv 0), (0, .ref 116)]) rfl rfl rfl rfl rfl ?_
                refine y_inc (z := 2) (lv' := [(4, iv 2), (3, iv 2), (2, iv 0), (1, iv 0), (0, .ref 116)]) rfl rfl rfl rfl rfl ?_
                refine y_go rfl rfl ?_
                refine y_ld (x := iv 2) rfl rfl (fun d => rfl) ?_
                refine y_ld (x := iv 2) rfl rfl (fun d => rfl) ?_
                refine y_jge rfl rfl rfl (by decide) (fun g74 => ?_) (fun g74 => absurd g74 (by decide))
                refine y_ic rfl rfl ?_
                refine y_rI rfl (by decide) ?_
                exact k 1 S12 V12 (by decide) hI2
        · refine y_inc (z := (-1)) (lv' := [(1, iv (-1)), (0, .ref 116)]) rfl rfl rfl rfl rfl ?_
          refine y_go rfl rfl ?_
          refine y_ld (x := iv (-1)) rfl rfl (fun d => rfl) ?_
          refine y_zlt rfl rfl rfl (by decide) (fun g75 => ?_) (fun g75 => absurd g75 (by decide))
          refine y_ld (x := iv (-1)) rfl rfl (fun d => rfl) ?_
          refine y_zge rfl rfl rfl (by decide) (fun g76 => absurd g76 (by decide)) (fun g76 => ?_)
          refine y_ic rfl rfl ?_
          refine y_rI rfl (by decide) ?_
          exact k 0 S V (by decide) hI
set_option maxRecDepth 100000 in
set_option maxHeartbeats 4000000 in
theorem lp_ctold {S0 : m_H} {V0 : v_V} {tl : Nat → List p_Li} {cnt : Nat} {σ : Nat → Int} (hRS : RS S0 V0 1 σ tl) (hSO : SO cnt σ) (hTO : ∀ i : Nat, (i : Int) < σ 0 → TO (tl i)) {x y n d i : Int} {al : Nat} (hx0 : 0 ≤ x ∧ x < 256) (hbs : v_bs x 16 ≤ 4) {B : Nat} (hB : σ 1 = (B : Int)) {F : Nat} : ∀ (m : Nat) (j : Nat) (S2 : m_H) (W : v_V), B - j < m → (j ≤ B) → (SI S0 V0 y n al σ (v_bs x j).toNat S2 W) → (∀ (S2 : m_H) (W : v_V), SI S0 V0 y n al σ (v_bs x B).toNat S2 W → y_E X 15 90 F u w 148 [(0, .ref 0), (1, iv x), (2, iv y), (3, iv n), (4, iv d), (5, iv i), (6, iv (v_bs x 16))] [] S2 W K) → y_E X 15 90 (90 * m + F) u w 92 [(0, .ref 0), (1, iv x), (2, iv y), (3, iv n), (4, iv d), (5, iv i), (6, iv (v_bs x 16)), (7, iv (j : Int))] [] S2 W K := by
  intro m
  induction m with
  | zero => intros; omega
  | succ m ih =>
    intro j S2 W hm hI hI2 hx
    refine y_mono (F' := (90 * m + F) + 90) ?_ (by omega)
    have hsz := hSO.1
    have hI2c := hI2
    have hCW : ClF S2 := by obtain ⟨_, _, _, _, _, _, h, _⟩ := hI2; exact h
    have hWB : W 1 5 = (B : Int) := by
      obtain ⟨_, _, _, _, h4, h5, _, _⟩ := hI2
      rw [← hB]; exact (RS_2 hRS (Or.inl rfl) h4 h5).1.1.2.2.1
    refine y_ld (x := iv (j : Int)) rfl rfl (fun d => rfl) ?_
    refine y_ld (x := .ref 0) rfl rfl (fun d => rfl) ?_
    refine y_gR (i := 0) rfl rfl rfl (hCW 0 _ _ rfl) rfl ?_
    refine y_gI (i := 5) (e := (B : Int)) rfl rfl rfl (hCW 1 _ _ rfl) rfl (by exact hWB) ?_
    refine y_jge rfl rfl rfl (by omega) (fun g1 => ?_) (fun g1 => ?_)
    · obtain rfl : j = B := by omega
      refine y_lv (l' := [(0, .ref 0), (1, iv x), (2, iv y), (3, iv n), (4, iv d), (5, iv i), (6, iv (v_bs x 16))]) rfl ⟨rfl, rfl, rfl, rfl, rfl, rfl, rfl, trivial⟩ ?_
      exact y_mono (hx S2 W hI2c) (by omega)
    · have hb2 := z_b2 x hx0.1 j (by omega)
      have hle := v_bs_le x j
      have e1 : v_bs x (j + 1) = v_bs x j + x / 2 ^ j % 2 := rfl
      have hmo := v_bs_mono x (j + 1) 16 (by omega)
      obtain ⟨ts, hSr, h2, hX, h4, h5, hC, h7⟩ := hI2
      have hRS1 := RS_2 hRS (Or.inl rfl) h4 h5
      have n1 := hRS1.1.1
      have n4 := hRS1.1.2.2.2
      obtain ⟨ta, hT, hTt⟩ := TAx_RT hRS1.2.1 hRS1.1 hSO
      have b1 := n4 j (by omega)
      have htx := (hSO.2.2.1 j (by omega)).2.1
      have hty := htx.2.2 (by omega)
      obtain ⟨vs4, hb1, hb2x⟩ := bx_ref hC (i := j) (by omega)
      refine y_ld (x := iv x) rfl rfl (fun d => rfl) ?_
      refine y_ic rfl rfl ?_
      refine y_ld (x := iv (j : Int)) rfl rfl (fun d => rfl) ?_
      refine y_op (z := (2 ^ j)) rfl rfl (fun d => rfl) (v_shl1 (k := (j : Int)) (by omega)) ?_
      refine y_op (z := (2 ^ j * (x / 2 ^ j % 2))) rfl rfl (fun d => rfl) (v_and2 (by omega) (by omega)) ?_
      refine y_zeq rfl rfl rfl (by omega) (fun g2 => ?_) (fun g2 => ?_)
      · refine y_inc (z := ((j + 1 : Nat) : Int)) (lv' := [(7, iv ((j + 1 : Nat) : Int)), (0, .ref 0), (1, iv x), (2, iv y), (3, iv n), (4, iv d), (5, iv i), (6, iv (v_bs x 16))]) rfl rfl rfl (by omega) rfl ?_
        refine y_go rfl rfl ?_
        refine y_lv (l' := [(0, .ref 0), (1, iv x), (2, iv y), (3, iv n), (4, iv d), (5, iv i), (6, iv (v_bs x 16)), (7, iv ((j + 1 : Nat) : Int))]) rfl ⟨rfl, rfl, rfl, rfl, rfl, rfl, rfl, rfl, trivial⟩ ?_
        exact y_mono (ih (j + 1) S2 W (by omega) (by omega) (by rw [show (v_bs x (j + 1)).toNat = (v_bs x j).toNat by omega]; exact hI2c) hx) (by omega)
      · refine y_ld (x := .ref 0) rfl rfl (fun d => rfl) ?_
        refine y_gR (i := 4) rfl rfl rfl (hCW 0 _ _ rfl) rfl ?_
        refine y_ld (x := .ref 0) rfl rfl (fun d => rfl) ?_
        refine y_gR (i := 0) rfl rfl rfl (hCW 0 _ _ rfl) rfl ?_
        refine y_ld (x := .ref 0) rfl rfl (fun d => rfl) ?_
        refine y_gR (i := 0) rfl rfl rfl (hCW 0 _ _ rfl) rfl ?_
        refine y_gR (i := 4) rfl rfl rfl (hCW 1 _ _ rfl) rfl ?_
        refine y_ld (x := iv (j : Int)) rfl rfl (fun d => rfl) ?_
        refine y_rld (i := j) (x := 10 + 6 * j) rfl rfl hb1 (by decide) (by omega) (by omega) hb2x ?_
        refine y_gI (i := 2) (e := (σ (178 + j))) rfl rfl rfl (bx_ob hC (i := j) (by omega)) rfl b1.2.2.1 ?_
        refine y_cV (as := [.ref 1, iv (σ (178 + j))]) rfl rfl rfl rfl rfl (hCW 1 _ _ rfl) ⟨rfl, (Nat.le_of_ble_eq_true rfl), (Nat.le_of_ble_eq_true rfl)⟩ (by decide) (cb_textAt (x := σ (178 + j)) hC hT (by omega) (fun hno => absurd (show 0 ≤ σ (178 + j) ∧ σ (178 + j) < W 1 3 by omega) hno) (fun (t : Nat) gT ht1 ht2 ht3 => ?_))
        obtain ⟨-, -, hct⟩ := hTt _ t (by omega) ht1
        refine y_nv ?_
        refine y_ld (x := iv (j : Int)) rfl rfl (fun d => rfl) ?_
        refine y_cV (as := [.ref 116, .ref t, iv (j : Int)]) rfl rfl rfl rfl rfl hSr.1 ⟨rfl, (Nat.le_of_ble_eq_true rfl), (Nat.le_of_ble_eq_true rfl)⟩ (by decide) (cs_add (ts2 := fun q => if q = (v_bs x j).toNat then tl (σ (178 + j)).toNat else ts q) hC hSr hX (by omega) ht2 ht3 hct (if_pos rfl) (fun q hq => if_neg (by omega)) (fun S3 V3 hSr3 hX3 q3 f3 hC3 o3 => ?_))
        refine y_n0 ?_
        refine y_inc (z := ((j + 1 : Nat) : Int)) (lv' := [(7, iv ((j + 1 : Nat) : Int)), (0, .ref 0), (1, iv x), (2, iv y), (3, iv n), (4, iv d), (5, iv i), (6, iv (v_bs x 16))]) rfl rfl rfl (by omega) rfl ?_
        refine y_go rfl rfl ?_
        refine y_lv (l' := [(0, .ref 0), (1, iv x), (2, iv y), (3, iv n), (4, iv d), (5, iv i), (6, iv (v_bs x 16)), (7, iv ((j + 1 : Nat) : Int))]) rfl ⟨rfl, rfl, rfl, rfl, rfl, rfl, rfl, rfl, trivial⟩ ?_
        refine y_mono (ih (j + 1) S3 V3 (by omega) (by omega) ?_ hx) (by omega)
        rw [show (v_bs x (j + 1)).toNat = (v_bs x j).toNat + 1 by omega]
        refine ⟨_, hSr3, fun q hq => ?_, hX3, SQ2_tr h4 q3, FrV_tr h5 f3, hC3, fun q hq => ?_⟩
        · split
          · exact hTO _ (by omega)
          · exact h2 q (by omega)
        · rcases (show q = (v_bs x j).toNat ∨ q < (v_bs x j).toNat by omega) with h8 | h8
          · rw [h8, o3.1]; omega
          · rw [o3.2 q (by omega)]; exact h7 q h8
end
end
