/-! shown, ways: the reference -/
/-- the row that is looked for, none: 0 0 -/
def resP (H : Nat → Nat → Prop) (a d l v : Nat) : Prop := (l ≤ d ∧ brP H a l v) ∨ (l = 0 ∧ v = 0 ∧ nbP H a d)
theorem resP_eq {H : Nat → Nat → Prop} {a d l v l' v' : Nat} (h : resP H a d l v) (h' : resP H a d l' v') : l = l' ∧ v = v' := by
  rcases h with ⟨h1, h2⟩ | ⟨h1, h2, h3⟩ <;> rcases h' with ⟨g1, g2⟩ | ⟨g1, g2, g3⟩
  · exact brP_eq h2 g2
  · exact absurd h2.2.2.1 (g3 l h2.1 h1 v h2.2.1)
  · exact absurd g2.2.2.1 (h3 l' g2.1 g1 v' g2.2.1)
  · exact ⟨h1.trans g1.symm, h2.trans g2.symm⟩
def shA (a l v : Nat) (i : Int) : Int := if i = -1 then (if l = 0 then 1 else 0) else if i = -2 then (l : Int) else if i < l then ((v / a ^ (l - 1 - i.toNat) % a : Nat) : Int) else -1
def wyA (a l v : Nat) (i : Int) : Int := if i = -1 then (l : Int) else if i < l then ((v / a ^ (l - 1 - i.toNat) % a : Nat) : Int) else -1
/-- what the reference's searches leave as it was -/
def FrX (V V2 : v_V) : Prop := (∀ k, k < 170 ∨ (171 ≤ k ∧ k ≤ 177) ∨ 192 ≤ k → V2 k = V k) ∧ ∀ i, i < 17 ∨ 39 ≤ i → V2 170 i = V 170 i
theorem FrX_rf (V : v_V) : FrX V V := ⟨fun _ _ => rfl, fun _ _ => rfl⟩
theorem FrX_tr {V V' V'' : v_V} (h : FrX V V') (h2 : FrX V' V'') : FrX V V'' := ⟨fun k a => (h2.1 k a).trans (h.1 k a), fun i a => (h2.2 i a).trans (h.2 i a)⟩
theorem FrX_B {V V' : v_V} (h : FrB V V') : FrX V V' := ⟨fun k a => h.1 k (by omega) (by omega) (by omega) (by omega) (by omega), fun i a => h.2 i (by omega)⟩
/-- how a TEXT ends a row's last packet -/
def lastH (σ : Nat → Int) (t : List p_Li) (a : Nat) : Nat → Nat → Int
  | 0, _ => 1
  | j + 1, v => howV 0 σ (fun _ => t) 1 a j v
section
variable {X : Nat → List Int32} {u w : Nat} {S : m_H} {V : v_V} {K : v_K}
theorem ThM_1 {V : v_V} {x : Int} {l : List p_Li} (h : MT V x.toNat l) (h0 : 0 ≤ x) (h8 : x.toNat < 8) : ThM (v_up (v_up V 170 27 1) 182 0 x) 1 (fun _ => l) := by
  refine ⟨by rw [v_up_ne (by decide)]; exact v_up_eq _ _ _ _, fun i hi => ⟨x.toNat, h8, by rw [show i = 0 by omega, v_up_eq]; omega, ?_⟩⟩
  obtain ⟨a1, a2, a3, a4, a5⟩ := h
  have e : ∀ k, 173 ≤ k → k ≤ 177 → (v_up (v_up V 170 27 1) 182 0 x) k = V k := fun k h1 h2 => by rw [v_up_ne (by omega), v_up_ne (by omega)]
  refine ⟨by rw [e 174 (by decide) (by decide)]; exact a1, ?_, by rw [e 175 (by decide) (by decide)]; exact a3, ?_, ?_⟩
  · rw [e 173 (by decide) (by decide)]; exact a2
  · unfold AM
    rw [e 176 (by decide) (by decide)]; exact a4
  · rw [e 177 (by decide) (by decide)]; exact a5
set_option maxRecDepth 100000 in
set_option maxHeartbeats 4000000 in
theorem ms_shown (hM : MdS S) {tl : Nat → List p_Li} {cnt : Nat} (hSO : SO cnt (V 171)) (hTO : ∀ i : Nat, (i : Int) < V 171 0 → TO (tl i)) (hMTs : ∀ i : Nat, (i : Int) < V 171 0 → MT V i (tl i)) {x : Int} (hx : (-2147483648 ≤ x ∧ x < 2147483648)) {y : Int} (hy : (-2147483648 ≤ y ∧ y < 2147483648)) {n : Int} (hn : (-2147483648 ≤ n ∧ n < 2147483648)) {d : Int} (hd : (-2147483648 ≤ d ∧ d < 2147483648)) {i : Int} (hi : (-2147483648 ≤ i ∧ i < 2147483648)) (k0 : ¬ ((0 ≤ x ∧ x < V 171 0) ∧ (0 ≤ y ∧ y ≤ 4) ∧ -2 ≤ i) → K u w (some (iv (-1))) S V) (k1 : ((0 ≤ x ∧ x < V 171 0) ∧ (0 ≤ y ∧ y ≤ 4) ∧ -2 ≤ i) → ¬ ((0 ≤ n ∧ n ≤ 99) ∧ (1 ≤ d ∧ d ≤ 3)) → K u w (some (iv (-2))) S V) (k2 : ∀ al : Nat, ((0 ≤ x ∧ x < V 171 0) ∧ (0 ≤ y ∧ y ≤ 4) ∧ -2 ≤ i) → ((0 ≤ n ∧ n ≤ 99) ∧ (1 ≤ d ∧ d ≤ 3)) → V 171 5 = (al : Int) → ∀ dn : Nat, d = (dn : Int) → ∀ l v, resP (brkV y n (V 171) (fun _ => tl x.toNat) 1 al) al dn l v → ∀ V2, FrX V V2 → K u w (some (iv (shA al l v i))) S V2) : y_R X 11 160 u w [.ref 170, iv x, iv y, iv n, iv d, iv i] S V K := by
  have hsz := hSO.1
  have hT : 0 ≤ V 171 0 ∧ V 171 0 ≤ 8 := by omega
  obtain ⟨al, hal⟩ : ∃ al : Nat, V 171 5 = (al : Int) := ⟨(V 171 5).toNat, by omega⟩
  have hal5 : al ≤ 5 := by omega
  have hlt : ∀ q : Nat, q < al → pkO (V 171 (1770 + 4 * q)) (V 171 (1770 + 4 * q + 1)) (V 171 (1770 + 4 * q + 2)) (V 171 (1770 + 4 * q + 3)) := fun q hq => hSO.2.2.2.2.2.2 q (by omega)
  refine y_ent (lv' := [(0, .ref 170), (1, iv x), (2, iv y), (3, iv n), (4, iv d), (5, iv i)]) (Nat.le_of_ble_eq_true rfl) rfl ?_
  refine y_ld (x := .ref 170) rfl rfl (fun d => rfl) ?_
  refine y_ld (x := iv x) rfl rfl (fun d => rfl) ?_
  refine y_cV (as := [.ref 170, iv x]) rfl rfl rfl rfl rfl (md170 hM) ⟨rfl, (Nat.le_of_ble_eq_true rfl), (Nat.le_of_ble_eq_true rfl)⟩ (by decide) (ct_isText hM (by omega) ⟨rfl, by omega⟩ ?_)
  refine y_nv ?_
  refine y_beq rfl rfl rfl (fun g1 => ?_) (fun g1 => ?_)
  · refine y_ic rfl rfl ?_
    refine y_rI rfl (Or.inl rfl) ?_
    exact k0 (by omega)
  · refine y_ld (x := iv y) rfl rfl (fun d => rfl) ?_
    refine y_ic rfl rfl ?_
    refine y_ic rfl rfl ?_
    refine y_cS (as := [iv y, iv 0, iv 4]) rfl (by decide) rfl rfl rfl rfl ⟨(Nat.le_of_ble_eq_true rfl), (Nat.le_of_ble_eq_true rfl)⟩ (by decide) (ct_in (by omega) ?_)
    refine y_nv ?_
    refine y_beq rfl rfl rfl (fun g2 => ?_) (fun g2 => ?_)
    · refine y_ic rfl rfl ?_
      refine y_rI rfl (Or.inl rfl) ?_
      exact k0 (by omega)
    · refine y_ld (x := iv i) rfl rfl (fun d => rfl) ?_
      refine y_bi rfl rfl (by decide) ?_
      refine y_jge rfl rfl rfl (by omega) (fun g3 => ?_) (fun g3 => ?_)
      · refine y_ld (x := iv n) rfl rfl (fun d => rfl) ?_
        refine y_ic rfl rfl ?_
        refine y_bi rfl rfl (by decide) ?_
        refine y_cS (as := [iv n, iv 0, iv 99]) rfl (by decide) rfl rfl rfl rfl ⟨(Nat.le_of_ble_eq_true rfl), (Nat.le_of_ble_eq_true rfl)⟩ (by decide) (ct_in (by omega) ?_)
        refine y_nv ?_
        refine y_beq rfl rfl rfl (fun g4 => ?_) (fun g4 => ?_)
        · refine y_bi rfl rfl (by decide) ?_
          refine y_rI rfl (Or.inl rfl) ?_
          exact k1 (by omega) (by omega)
        · refine y_ld (x := iv d) rfl rfl (fun d => rfl) ?_
          refine y_ic rfl rfl ?_
          refine y_ic rfl rfl ?_
          refine y_cS (as := [iv d, iv 1, iv 3]) rfl (by decide) rfl rfl rfl rfl ⟨(Nat.le_of_ble_eq_true rfl), (Nat.le_of_ble_eq_true rfl)⟩ (by decide) (ct_in (by omega) ?_)
          refine y_nv ?_
          refine y_bne rfl rfl rfl (fun g5 => ?_) (fun g5 => ?_)
          · refine y_ld (x := .ref 170) rfl rfl (fun d => rfl) ?_
            refine y_ic rfl rfl ?_
            refine y_pI (i := 27) rfl rfl rfl (md170 hM) rfl rfl ?_
            refine y_ld (x := .ref 170) rfl rfl (fun d => rfl) ?_
            refine y_gR (i := 26) rfl rfl rfl (md170 hM) rfl ?_
            refine y_ic rfl rfl ?_
            refine y_ld (x := iv x) rfl rfl (fun d => rfl) ?_
            refine y_ist (q := 0) rfl rfl (md182 hM) (by decide) (by decide) rfl ?_
            obtain ⟨dn, rfl⟩ : ∃ dn : Nat, d = (dn : Int) := ⟨d.toNat, by omega⟩
            have hl := hTO x.toNat (by omega)
            have hMx := hMTs x.toNat (by omega)
            have e171 : (v_up (v_up V 170 27 1) 182 0 x) 171 = V 171 := (v_up_ne (by decide)).trans (v_up_ne (by decide))
            have hth : ThM (v_up (v_up V 170 27 1) 182 0 x) 1 (fun _ => tl x.toNat) := ThM_1 hMx (by omega) (by omega)
            have hfx0 : FrX V (v_up (v_up V 170 27 1) 182 0 x) := ⟨fun k hk => by rw [v_up_ne (by omega), v_up_ne (by omega)], fun i hi => by rw [v_up_ne (by decide), v_up_ni (by omega)]⟩
            refine y_ld (x := .ref 170) rfl rfl (fun d => rfl) ?_
            refine y_ld (x := iv y) rfl rfl (fun d => rfl) ?_
            refine y_ld (x := iv n) rfl rfl (fun d => rfl) ?_
            refine y_ld (x := iv (dn : Int)) rfl rfl (fun d => rfl) ?_
            refine y_cV (as := [.ref 170, iv y, iv n, iv (dn : Int)]) rfl rfl rfl rfl rfl (md170 hM) ⟨rfl, (Nat.le_of_ble_eq_true rfl), (Nat.le_of_ble_eq_true rfl)⟩ (by decide) (ct_breach (V := (v_up (v_up V 170 27 1) 182 0 x)) (al := al) (ts := fun _ => tl x.toNat) hM (by decide) (fun i _ => hl) hal5 (by rw [e171]; exact hlt) (by omega) (by omega) (by rw [e171]; exact hal) hth (by omega) (fun l v V2 q1 q2 q3 q4 => ?_) (fun q2 V2 q4 => ?_))
            · rw [e171] at q2
              have hres : resP (brkV y n (V 171) (fun _ => tl x.toNat) 1 al) al dn l v := Or.inl ⟨q1, q2⟩
              have hfx := FrX_tr hfx0 (FrX_B q4)
              have hl3 : l ≤ 3 := by omega
              have hl1 := q2.1
              refine y_nv ?_
              refine y_st (lv' := [(6, iv (l : Int)), (0, .ref 170), (1, iv x), (2, iv y), (3, iv n), (4, iv (dn : Int)), (5, iv i)]) rfl rfl (fun d => rfl) ?_
              refine y_ld (x := iv i) rfl rfl (fun d => rfl) ?_
              refine y_zge rfl rfl rfl (by omega) (fun g6 => ?_) (fun g6 => ?_)
              · refine y_ld (x := iv i) rfl rfl (fun d => rfl) ?_
                refine y_ld (x := iv (l : Int)) rfl rfl (fun d => rfl) ?_
                refine y_jge rfl rfl rfl (by omega) (fun g7 => ?_) (fun g7 => ?_)
                · refine y_ic rfl rfl ?_
                  refine y_rI rfl (Or.inl rfl) ?_
                  have k3 := k2 al (by omega) (by omega) hal dn rfl l v hres V2 hfx
                  have e9 : shA al l v i = -1 := by
                    unfold shA
                    rw [if_neg (by omega), if_neg (by omega), if_neg (by omega)]
                  rwa [e9] at k3
                · refine y_ld (x := .ref 170) rfl rfl (fun d => rfl) ?_
                  refine y_gR (i := 24) rfl rfl rfl (md170 hM) rfl ?_
                  refine y_ld (x := iv i) rfl rfl (fun d => rfl) ?_
                  refine y_ild (x := ((v / al ^ (l - 1 - i.toNat) % al : Nat) : Int)) (q := i.toNat) rfl rfl (md180 hM) (by omega) (by decide) (by omega) (q3 i.toNat (by omega)) ?_
                  refine y_go rfl rfl ?_
                  refine y_rI rfl (Or.inl rfl) ?_
                  have k3 := k2 al (by omega) (by omega) hal dn rfl l v hres V2 hfx
                  have e9 : shA al l v i = ((v / al ^ (l - 1 - i.toNat) % al : Nat) : Int) := by
                    unfold shA
                    rw [if_neg (by omega), if_neg (by omega), if_pos (by omega)]
                  rwa [e9] at k3
              · refine y_ld (x := iv i) rfl rfl (fun d => rfl) ?_
                refine y_bi rfl rfl (by decide) ?_
                refine y_jne rfl rfl rfl (by omega) (fun g8 => ?_) (fun g8 => ?_)
                · refine y_ld (x := iv (l : Int)) rfl rfl (fun d => rfl) ?_
                  refine y_zne rfl rfl rfl (by omega) (fun g9 => ?_) (fun g9 => absurd g9 (by omega))
                  refine y_ic rfl rfl ?_
                  refine y_rI rfl (Or.inl rfl) ?_
                  have k3 := k2 al (by omega) (by omega) hal dn rfl l v hres V2 hfx
                  have e9 : shA al l v i = 0 := by
                    unfold shA
                    rw [if_pos (by omega), if_neg (by omega)]
                  rwa [e9] at k3
                · refine y_ld (x := iv (l : Int)) rfl rfl (fun d => rfl) ?_
                  refine y_go rfl rfl ?_
                  refine y_rI rfl (Or.inl rfl) ?_
                  have k3 := k2 al (by omega) (by omega) hal dn rfl l v hres V2 hfx
                  have e9 : shA al l v i = (l : Int) := by
                    unfold shA
                    rw [if_neg (by omega), if_pos (by omega)]
                  rwa [e9] at k3
            · rw [e171] at q2
              have hres : resP (brkV y n (V 171) (fun _ => tl x.toNat) 1 al) al dn 0 0 := Or.inr ⟨rfl, rfl, q2⟩
              have hfx := FrX_tr hfx0 (FrX_B q4)
              refine y_nv ?_
              refine y_st (lv' := [(6, iv 0), (0, .ref 170), (1, iv x), (2, iv y), (3, iv n), (4, iv (dn : Int)), (5, iv i)]) rfl rfl (fun d => rfl) ?_
              refine y_ld (x := iv i) rfl rfl (fun d => rfl) ?_
              refine y_zge rfl rfl rfl (by omega) (fun g10 => ?_) (fun g10 => ?_)
              · refine y_ld (x := iv i) rfl rfl (fun d => rfl) ?_
                refine y_ld (x := iv 0) rfl rfl (fun d => rfl) ?_
                refine y_jge rfl rfl rfl (by omega) (fun g11 => ?_) (fun g11 => absurd g11 (by omega))
                refine y_ic rfl rfl ?_
                refine y_rI rfl (Or.inl rfl) ?_
                have k3 := k2 al (by omega) (by omega) hal dn rfl 0 0 hres V2 hfx
                have e9 : shA al 0 0 i = -1 := by
                  unfold shA
                  rw [if_neg (by omega), if_neg (by omega), if_neg (by omega)]
                rwa [e9] at k3
              · refine y_ld (x := iv i) rfl rfl (fun d => rfl) ?_
                refine y_bi rfl rfl (by decide) ?_
                refine y_jne rfl rfl rfl (by omega) (fun g12 => ?_) (fun g12 => ?_)
                · refine y_ld (x := iv 0) rfl rfl (fun d => rfl) ?_
                  refine y_zne rfl rfl rfl (by decide) (fun g13 => absurd g13 (by decide)) (fun g13 => ?_)
                  refine y_ic rfl rfl ?_
                  refine y_go rfl rfl ?_
                  refine y_rI rfl (Or.inl rfl) ?_
                  have k3 := k2 al (by omega) (by omega) hal dn rfl 0 0 hres V2 hfx
                  have e9 : shA al 0 0 i = 1 := by
                    unfold shA
                    rw [if_pos (by omega), if_pos (by omega)]
                  rwa [e9] at k3
                · refine y_ld (x := iv 0) rfl rfl (fun d => rfl) ?_
                  refine y_go rfl rfl ?_
                  refine y_rI rfl (Or.inl rfl) ?_
                  have k3 := k2 al (by omega) (by omega) hal dn rfl 0 0 hres V2 hfx
                  have e9 : shA al 0 0 i = 0 := by
                    unfold shA
                    rw [if_neg (by omega), if_pos (by omega)]
                    rfl
                  rwa [e9] at k3
          · refine y_bi rfl rfl (by decide) ?_
            refine y_rI rfl (Or.inl rfl) ?_
            exact k1 (by omega) (by omega)
      · refine y_ic rfl rfl ?_
        refine y_rI rfl (Or.inl rfl) ?_
        exact k0 (by omega)
set_option maxRecDepth 100000 in
set_option maxHeartbeats 4000000 in
theorem lp_lastBy (hM : MdS S) {t : List p_Li} (hl : TO t) {al : Nat} (hal : 0 < al ∧ al ≤ 5) (hlt : ∀ q : Nat, q < al → pkO (V 171 (1770 + 4 * q)) (V 171 (1770 + 4 * q + 1)) (V 171 (1770 + 4 * q + 2)) (V 171 (1770 + 4 * q + 3))) {L v : Nat} (hL : L ≤ 3) {v1 : Int} {F : Nat} : ∀ (m : Nat) (k : Nat) (e : Int) (W : v_V), L - k < m → (k ≤ L) → (FrX V W) → (ThM W 1 (fun _ => t)) → (W 170 21 = 1) → (WdM W al L v) → (∀ q : Nat, q < 1 → ∀ p : Nat, p < 84 → zm (W 178) (84 * q) p = (wdS 0 (V 171) (fun _ => t) 1 al k (v / al ^ (L - k))).1 q p) → (k = 0 → e = 1) → (∀ j, k = j + 1 → e = howV 0 (V 171) (fun _ => t) 1 al j (v / al ^ (L - 1 - j))) → (∀ W : v_V, FrX V W → WdM W al L v → K u w (some (iv (lastH (V 171) t al L v))) S W) → y_E X 8 161 (80 * m + F) u w 21 [(0, .ref 170), (1, iv v1), (2, iv (L : Int)), (3, iv e), (4, iv (k : Int))] [] S W K := by
  intro m
  induction m with
  | zero => intros; omega
  | succ m ih =>
    intro k e W hm hI hF hTh h21 hWd hMm he0 he1 hx2
    refine y_mono (F' := (80 * m + F) + 80) ?_ (by omega)
    refine y_ld (x := iv (k : Int)) rfl rfl (fun d => rfl) ?_
    refine y_ld (x := iv (L : Int)) rfl rfl (fun d => rfl) ?_
    refine y_jge rfl rfl rfl (by omega) (fun g1 => ?_) (fun g1 => ?_)
    · refine y_ld (x := iv e) rfl rfl (fun d => rfl) ?_
      refine y_rI rfl (Or.inl rfl) ?_
      obtain rfl : k = L := by omega
      have e9 : lastH (V 171) t al k v = e := by
        rcases k with _ | j
        · exact (he0 rfl).symm
        · have := he1 j rfl
          rw [show j + 1 - 1 - j = 0 by omega, Nat.pow_zero, Nat.div_one] at this
          exact this.symm
      have := hx2 W hF hWd
      rwa [e9] at this
    · have hkL : k < L := by omega
      have e171 : W 171 = V 171 := hF.1 171 (by omega)
      have e180 : W 180 k = (((v / al ^ (L - 1 - k)) % al : Nat) : Int) := hWd k hkL
      have hca : (v / al ^ (L - 1 - k)) % al < al := Nat.mod_lt _ hal.1
      have hpk := hlt _ hca
      have eq := wd_q (v := v) (a := al) hkL
      rw [← eq] at hMm
      have hwo := wdS_ok (form := 0) (ts := fun _ => t) (m := 1) hlt hal.1 k ((v / al ^ (L - 1 - k)) / al)
      refine y_ld (x := .ref 170) rfl rfl (fun d => rfl) ?_
      refine y_ld (x := .ref 170) rfl rfl (fun d => rfl) ?_
      refine y_gR (i := 24) rfl rfl rfl (md170 hM) rfl ?_
      refine y_ld (x := iv (k : Int)) rfl rfl (fun d => rfl) ?_
      refine y_ild (x := (((v / al ^ (L - 1 - k)) % al : Nat) : Int)) (q := k) rfl rfl (md180 hM) (by omega) (by decide) (by omega) e180 ?_
      refine y_cV (as := [.ref 170, iv (((v / al ^ (L - 1 - k)) % al : Nat) : Int)]) rfl rfl rfl rfl rfl (md170 hM) ⟨rfl, (Nat.le_of_ble_eq_true rfl), (Nat.le_of_ble_eq_true rfl)⟩ (by decide) (ct_tries (tm := 1) (ts := fun _ => t) (c := (v / al ^ (L - 1 - k)) % al) hM (by decide) (fun _ _ => hl) hwo.1 (by omega) (by rw [e171]; exact hpk) hTh h21 hMm (fun W2 a1 a2 a3 a4 => ?_))
      rw [e171] at a1 a3
      rw [e171]
      refine y_nv ?_
      refine y_st (lv' := [(3, iv (howV 0 (V 171) (fun _ => t) 1 al k (v / al ^ (L - 1 - k)))), (0, .ref 170), (1, iv v1), (2, iv (L : Int)), (4, iv (k : Int))]) rfl rfl (fun d => rfl) ?_
      refine y_inc (z := ((k + 1 : Nat) : Int)) (lv' := [(4, iv ((k + 1 : Nat) : Int)), (3, iv (howV 0 (V 171) (fun _ => t) 1 al k (v / al ^ (L - 1 - k)))), (0, .ref 170), (1, iv v1), (2, iv (L : Int))]) rfl rfl rfl (by omega) rfl ?_
      refine y_go rfl rfl ?_
      refine y_lv (l' := [(0, .ref 170), (1, iv v1), (2, iv (L : Int)), (3, iv (howV 0 (V 171) (fun _ => t) 1 al k (v / al ^ (L - 1 - k)))), (4, iv ((k + 1 : Nat) : Int))]) rfl ⟨rfl, rfl, rfl, rfl, rfl, trivial⟩ ?_
      refine y_mono (ih (k + 1) _ W2 (by omega) (by omega) (FrX_tr hF (FrX_B (FrB_K (FrK_T a2)))) (ThM_B hTh (FrB_K (FrK_T a2))) a4 (fun k2 hk2 => by rw [a2.1 180 (by decide) (by decide) (by decide)]; exact hWd k2 hk2) (fun q hq p hp => ?_) (fun q => absurd q (by omega)) (fun j hj => ?_) hx2) (by omega)
      · rw [a1 q hq p hp, show L - (k + 1) = L - 1 - k by omega, wdS_m (by decide)]
      · obtain rfl : j = k := by omega
        rfl
set_option maxRecDepth 100000 in
set_option maxHeartbeats 4000000 in
theorem ct_lastBy (hM : MdS S) {t : List p_Li} (hl : TO t) {al : Nat} (hal : 0 < al ∧ al ≤ 5) (hlt : ∀ q : Nat, q < al → pkO (V 171 (1770 + 4 * q)) (V 171 (1770 + 4 * q + 1)) (V 171 (1770 + 4 * q + 2)) (V 171 (1770 + 4 * q + 3))) {L v : Nat} (hL : L ≤ 3) {x : Nat} (hx8 : x < 8) (hMT : MT V x t) (hWd : WdM V al L v) (k : ∀ W : v_V, FrX V W → WdM W al L v → K u w (some (iv (lastH (V 171) t al L v))) S W) : y_R X 9 161 u w [.ref 170, iv (x : Int), iv (L : Int)] S V K := by
  refine y_ent (lv' := [(0, .ref 170), (1, iv (x : Int)), (2, iv (L : Int))]) (Nat.le_of_ble_eq_true rfl) rfl ?_
  refine y_ld (x := .ref 170) rfl rfl (fun d => rfl) ?_
  refine y_ic rfl rfl ?_
  refine y_pI (i := 27) rfl rfl rfl (md170 hM) rfl rfl ?_
  refine y_ld (x := .ref 170) rfl rfl (fun d => rfl) ?_
  refine y_gR (i := 26) rfl rfl rfl (md170 hM) rfl ?_
  refine y_ic rfl rfl ?_
  refine y_ld (x := iv (x : Int)) rfl rfl (fun d => rfl) ?_
  refine y_ist (q := 0) rfl rfl (md182 hM) (by decide) (by decide) rfl ?_
  refine y_ld (x := .ref 170) rfl rfl (fun d => rfl) ?_
  have hth : ThM (v_up (v_up V 170 27 1) 182 0 (x : Int)) 1 (fun _ => t) := ThM_1 (by rw [Int.toNat_natCast]; exact hMT) (by omega) (by omega)
  refine y_cV (as := [.ref 170]) rfl rfl rfl rfl rfl (md170 hM) ⟨rfl, (Nat.le_of_ble_eq_true rfl), (Nat.le_of_ble_eq_true rfl)⟩ (by decide) (ct_empties (tm := 1) hM hth.1 (by decide) ?_)
  refine y_n0 ?_
  refine y_ic rfl rfl ?_
  refine y_st (lv' := [(3, iv 1), (0, .ref 170), (1, iv (x : Int)), (2, iv (L : Int))]) rfl rfl (fun d => rfl) ?_
  refine y_ic rfl rfl ?_
  refine y_st (lv' := [(4, iv 0), (3, iv 1), (0, .ref 170), (1, iv (x : Int)), (2, iv (L : Int))]) rfl rfl (fun d => rfl) ?_
  refine y_lv (l' := [(0, .ref 170), (1, iv (x : Int)), (2, iv (L : Int)), (3, iv 1), (4, iv ((0 : Nat) : Int))]) rfl ⟨rfl, rfl, rfl, rfl, rfl, trivial⟩ ?_
  have hfb : FrB (v_up (v_up V 170 27 1) 182 0 (x : Int)) (v_ur (v_up (v_up (v_up V 170 27 1) 182 0 (x : Int)) 170 21 1) 178 (fun q => if q < 84 * 1 then 0 else (v_up (v_up V 170 27 1) 182 0 (x : Int)) 178 q)) := ⟨fun k q1 q2 _ _ _ => by rw [v_ur_ne q2, v_up_ne q1], fun i hi => by rw [v_ur_ne (by decide), v_up_ni (by omega)]⟩
  have hfx0 : FrX V (v_up (v_up V 170 27 1) 182 0 (x : Int)) := ⟨fun k hk => by rw [v_up_ne (by omega), v_up_ne (by omega)], fun i hi => by rw [v_up_ne (by decide), v_up_ni (by omega)]⟩
  exact y_mono (lp_lastBy (V := V) (F := 100) hM hl hal hlt hL 4 0 1 (v_ur (v_up (v_up (v_up V 170 27 1) 182 0 (x : Int)) 170 21 1) 178 (fun q => if q < 84 * 1 then 0 else (v_up (v_up V 170 27 1) 182 0 (x : Int)) 178 q)) (by omega) (by omega) (FrX_tr hfx0 (FrX_B hfb)) (ThM_B hth hfb) (by rw [v_ur_ne (by decide)]; exact v_up_eq _ _ _ _) (fun k hk => by rw [v_ur_ne (by decide), v_up_ne (by decide), v_up_ne (by decide), v_up_ne (by decide)]; exact hWd k hk) (fun q hq p hp => by rw [v_ur_eq]; exact if_pos (by omega)) (fun _ => rfl) (fun j hj => absurd hj (by omega)) k) (by decide)
end
