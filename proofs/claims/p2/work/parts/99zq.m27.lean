/-! the orders of BOXES: the reference (that it ends, and what it leaves as it was) -/
def AR (V0 : v_V) (T n C : Nat) (W : v_V) : Prop := FrX V0 W ∧ W 170 37 = (T : Int) ∧ (0 ≤ W 170 38 ∧ W 170 38 ≤ (C : Int)) ∧ (∀ i : Nat, i < T → 0 ≤ W 189 i ∧ W 189 i < V0 171 1) ∧ (∀ i : Nat, i < n → 0 ≤ W 190 i ∧ W 190 i < V0 171 1)
def qA (X : Nat → List Int32) (S : m_H) (V0 : v_V) (form N d : Int) (T r n : Nat) : Prop := ∀ (us : Int) (C : Nat) (W : v_V) (K : v_K) (u w : Nat), 0 ≤ us → us < 65536 → C + 4 ^ r ≤ 300 → AR V0 T n C W → (∀ W2, AR V0 T n (C + 4 ^ r) W2 → K u w none S W2) → y_R X (11 + r) 163 u w [.ref 170, iv (n : Int), iv us, iv form, iv N, iv d] S W K
section
variable {X : Nat → List Int32} {u w : Nat} {S : m_H} {V : v_V} {K : v_K}
set_option maxRecDepth 100000 in
set_option maxHeartbeats 4000000 in
theorem lp_thr (hM : MdS S) {tl : Nat → List p_Li} {cnt : Nat} (hSO : SO cnt (V 171)) (hTO : ∀ i : Nat, (i : Int) < V 171 0 → TO (tl i)) (hMTs : ∀ i : Nat, (i : Int) < V 171 0 → MT V i (tl i)) {form N : Int} {d : Nat} (hf : 0 ≤ form ∧ form ≤ 4) (hN : 0 ≤ N ∧ N ≤ 99) (hd : d ≤ 3) {T : Nat} (hT : T ≤ 4) {us : Int} {V1 : v_V} (h190o : ∀ q : Nat, q < T → 0 ≤ V1 190 q ∧ V1 190 q < V 171 1) {F : Nat} : ∀ (m : Nat) (i : Nat) (W : v_V), T - i < m → (i ≤ T) → (FrX V W) → (W 170 27 = (T : Int) ∧ W 170 37 = (T : Int) ∧ W 170 38 = V1 170 38) → (W 189 = V1 189) → (W 190 = V1 190) → (∀ q : Nat, q < i → W 182 q = V 171 (178 + (V1 190 q).toNat)) → (∀ W : v_V, FrX V W → (W 170 27 = (T : Int) ∧ W 170 37 = (T : Int) ∧ W 170 38 = V1 170 38) → W 189 = V1 189 → W 190 = V1 190 → (∀ q : Nat, q < T → W 182 q = V 171 (178 + (V1 190 q).toNat)) → y_E X 10 163 F u w 57 [(0, .ref 170), (1, iv (T : Int)), (2, iv us), (3, iv form), (4, iv N), (5, iv (d : Int))] [] S W K) → y_E X 10 163 (40 * m + F) u w 19 [(0, .ref 170), (1, iv (T : Int)), (2, iv us), (3, iv form), (4, iv N), (5, iv (d : Int)), (6, iv (i : Int))] [] S W K := by
  intro m
  induction m with
  | zero => intros; omega
  | succ m ih =>
    intro i W hm hI hF h27 h189 h190 h182 hx
    refine y_mono (F' := (40 * m + F) + 40) ?_ (by omega)
    refine y_ld (x := iv (i : Int)) rfl rfl (fun d => rfl) ?_
    refine y_ld (x := .ref 170) rfl rfl (fun d => rfl) ?_
    refine y_gI (i := 37) (e := (T : Int)) rfl rfl rfl (md170 hM) rfl h27.2.1 ?_
    refine y_jge rfl rfl rfl (by omega) (fun g1 => ?_) (fun g1 => ?_)
    · refine y_lv (l' := [(0, .ref 170), (1, iv (T : Int)), (2, iv us), (3, iv form), (4, iv N), (5, iv (d : Int))]) rfl ⟨rfl, rfl, rfl, rfl, rfl, rfl, trivial⟩ ?_
      exact y_mono (hx W hF h27 h189 h190 (fun q hq => h182 q (by omega))) (by omega)
    · have hsz := hSO.1
      have hor := h190o i (by omega)
      have h171 : W 171 = V 171 := hF.1 171 (by omega)
      have e190 : W 190 i = V1 190 i := by rw [h190]
      refine y_ld (x := .ref 170) rfl rfl (fun d => rfl) ?_
      refine y_gR (i := 26) rfl rfl rfl (md170 hM) rfl ?_
      refine y_ld (x := iv (i : Int)) rfl rfl (fun d => rfl) ?_
      refine y_ld (x := .ref 170) rfl rfl (fun d => rfl) ?_
      refine y_gR (i := 1) rfl rfl rfl (md170 hM) rfl ?_
      refine y_si rfl rfl (by decide) ?_
      refine y_ld (x := .ref 170) rfl rfl (fun d => rfl) ?_
      refine y_gR (i := 35) rfl rfl rfl (md170 hM) rfl ?_
      refine y_ld (x := iv (i : Int)) rfl rfl (fun d => rfl) ?_
      refine y_ild (x := (V1 190 i)) (q := i) rfl rfl (md190 hM) (by omega) (by decide) (by omega) e190 ?_
      refine y_add (z := (178 + V1 190 i)) rfl rfl (by omega) ?_
      refine y_ild (x := (V 171 (178 + (V1 190 i).toNat))) (q := (178 + (V1 190 i).toNat)) rfl rfl (md171 hM) (by omega) (by decide) (by omega) (by rw [h171]) ?_
      refine y_ist (q := i) rfl rfl (md182 hM) (by omega) (by decide) (by omega) ?_
      refine y_inc (z := ((i + 1 : Nat) : Int)) (lv' := [(6, iv ((i + 1 : Nat) : Int)), (0, .ref 170), (1, iv (T : Int)), (2, iv us), (3, iv form), (4, iv N), (5, iv (d : Int))]) rfl rfl rfl (by omega) rfl ?_
      refine y_go rfl rfl ?_
      refine y_lv (l' := [(0, .ref 170), (1, iv (T : Int)), (2, iv us), (3, iv form), (4, iv N), (5, iv (d : Int)), (6, iv ((i + 1 : Nat) : Int))]) rfl ⟨rfl, rfl, rfl, rfl, rfl, rfl, rfl, trivial⟩ ?_
      refine y_mono (ih (i + 1) (v_up W 182 i (V 171 (178 + (V1 190 i).toNat))) (by omega) (by omega) (FrX_tr hF ⟨fun k hk => v_up_ne (by omega), fun i2 _ => by rw [v_up_ne (by decide)]⟩) (by rw [v_up_ne (by decide)]; exact h27) (by rw [v_up_ne (by decide)]; exact h189) (by rw [v_up_ne (by decide)]; exact h190) (fun q hq => ?_) hx) (by omega)
      rcases (show q < i ∨ q = i by omega) with h7 | h7
      · rw [v_up_ni (by omega)]; exact h182 q h7
      · rw [h7, v_up_eq]
set_option maxRecDepth 100000 in
set_option maxHeartbeats 4000000 in
theorem lp_fst (hM : MdS S) {form N us : Int} {d T : Nat} (hT : T ≤ 4) {V1 : v_V} (h37 : V1 170 37 = (T : Int)) (h38 : 0 ≤ V1 170 38 ∧ V1 170 38 ≤ 300) {F : Nat} : ∀ (m : Nat) (i : Nat) (W : v_V), T - i < m → (i ≤ T) → (∀ k, k ≠ 191 → W k = V1 k) → (∀ W : v_V, (∀ k, k ≠ 191 → W k = V1 k) → y_E X 10 163 F u w 108 [(0, .ref 170), (1, iv (T : Int)), (2, iv us), (3, iv form), (4, iv N), (5, iv (d : Int))] [] S W K) → y_E X 10 163 (40 * m + F) u w 72 [(0, .ref 170), (1, iv (T : Int)), (2, iv us), (3, iv form), (4, iv N), (5, iv (d : Int)), (6, iv (i : Int))] [] S W K := by
  intro m
  induction m with
  | zero => intros; omega
  | succ m ih =>
    intro i W hm hI hQ hx
    refine y_mono (F' := (40 * m + F) + 40) ?_ (by omega)
    refine y_ld (x := iv (i : Int)) rfl rfl (fun d => rfl) ?_
    have h170 : W 170 = V1 170 := hQ 170 (by decide)
    refine y_ld (x := .ref 170) rfl rfl (fun d => rfl) ?_
    refine y_gI (i := 37) (e := (T : Int)) rfl rfl rfl (md170 hM) rfl (by rw [h170]; exact h37) ?_
    refine y_jge rfl rfl rfl (by omega) (fun g1 => ?_) (fun g1 => ?_)
    · refine y_lv (l' := [(0, .ref 170), (1, iv (T : Int)), (2, iv us), (3, iv form), (4, iv N), (5, iv (d : Int))]) rfl ⟨rfl, rfl, rfl, rfl, rfl, rfl, trivial⟩ ?_
      exact y_mono (hx W hQ) (by omega)
    · refine y_ld (x := .ref 170) rfl rfl (fun d => rfl) ?_
      refine y_gI (i := 38) (e := (V1 170 38)) rfl rfl rfl (md170 hM) rfl (by rw [h170]) ?_
      refine y_zne rfl rfl rfl (by omega) (fun g2 => ?_) (fun g2 => ?_)
      · refine y_lv (l' := [(0, .ref 170), (1, iv (T : Int)), (2, iv us), (3, iv form), (4, iv N), (5, iv (d : Int))]) rfl ⟨rfl, rfl, rfl, rfl, rfl, rfl, trivial⟩ ?_
        exact y_mono (hx W hQ) (by omega)
      · refine y_ld (x := .ref 170) rfl rfl (fun d => rfl) ?_
        refine y_gR (i := 36) rfl rfl rfl (md170 hM) rfl ?_
        refine y_ld (x := iv (i : Int)) rfl rfl (fun d => rfl) ?_
        refine y_ld (x := .ref 170) rfl rfl (fun d => rfl) ?_
        refine y_gR (i := 35) rfl rfl rfl (md170 hM) rfl ?_
        refine y_ld (x := iv (i : Int)) rfl rfl (fun d => rfl) ?_
        refine y_ild (x := (W 190 i)) (q := i) rfl rfl (md190 hM) (by omega) (by decide) (by omega) rfl ?_
        refine y_ist (q := i) rfl rfl (md191 hM) (by omega) (by decide) (by omega) ?_
        refine y_inc (z := ((i + 1 : Nat) : Int)) (lv' := [(6, iv ((i + 1 : Nat) : Int)), (0, .ref 170), (1, iv (T : Int)), (2, iv us), (3, iv form), (4, iv N), (5, iv (d : Int))]) rfl rfl rfl (by omega) rfl ?_
        refine y_go rfl rfl ?_
        refine y_lv (l' := [(0, .ref 170), (1, iv (T : Int)), (2, iv us), (3, iv form), (4, iv N), (5, iv (d : Int)), (6, iv ((i + 1 : Nat) : Int))]) rfl ⟨rfl, rfl, rfl, rfl, rfl, rfl, rfl, trivial⟩ ?_
        refine y_mono (ih (i + 1) (v_up W 191 i (W 190 i)) (by omega) (by omega) (fun k hk => by rw [v_up_ne hk]; exact hQ k hk) hx) (by omega)
set_option maxRecDepth 100000 in
set_option maxHeartbeats 4000000 in
theorem ct_arr0 (hM : MdS S) {tl : Nat → List p_Li} {cnt : Nat} (hSO : SO cnt (V 171)) (hTO : ∀ i : Nat, (i : Int) < V 171 0 → TO (tl i)) (hMTs : ∀ i : Nat, (i : Int) < V 171 0 → MT V i (tl i)) {form N : Int} {d : Nat} (hf : 0 ≤ form ∧ form ≤ 4) (hN : 0 ≤ N ∧ N ≤ 99) (hd : d ≤ 3) {T : Nat} (hT : T ≤ 4) {us : Int} {C : Nat} (hC3 : C + 1 ≤ 300) {W : v_V} (hA : AR V T T C W) (k : ∀ W2, AR V T T (C + 1) W2 → K u w none S W2) : y_R X 11 163 u w [.ref 170, iv (T : Int), iv us, iv form, iv N, iv (d : Int)] S W K := by
  obtain ⟨h1, h2, h3, h4, h5⟩ := hA
  refine y_ent (lv' := [(0, .ref 170), (1, iv (T : Int)), (2, iv us), (3, iv form), (4, iv N), (5, iv (d : Int))]) (Nat.le_of_ble_eq_true rfl) rfl ?_
  refine y_ld (x := iv (T : Int)) rfl rfl (fun d => rfl) ?_
  refine y_ld (x := .ref 170) rfl rfl (fun d => rfl) ?_
  refine y_gI (i := 37) (e := (T : Int)) rfl rfl rfl (md170 hM) rfl h2 ?_
  refine y_jne rfl rfl rfl (by omega) (fun g1 => absurd rfl g1) (fun g1 => ?_)
  refine y_ld (x := .ref 170) rfl rfl (fun d => rfl) ?_
  refine y_ld (x := .ref 170) rfl rfl (fun d => rfl) ?_
  refine y_gI (i := 37) (e := (T : Int)) rfl rfl rfl (md170 hM) rfl h2 ?_
  refine y_pI (i := 27) rfl rfl rfl (md170 hM) rfl rfl ?_
  refine y_ic rfl rfl ?_
  refine y_st (lv' := [(6, iv 0), (0, .ref 170), (1, iv (T : Int)), (2, iv us), (3, iv form), (4, iv N), (5, iv (d : Int))]) rfl rfl (fun d => rfl) ?_
  refine y_lv (l' := [(0, .ref 170), (1, iv (T : Int)), (2, iv us), (3, iv form), (4, iv N), (5, iv (d : Int)), (6, iv ((0 : Nat) : Int))]) rfl ⟨rfl, rfl, rfl, rfl, rfl, rfl, rfl, trivial⟩ ?_
  refine y_mono (lp_thr (F := 2000) (V1 := W) hM hSO hTO hMTs hf hN hd hT h5 5 0 (v_up W 170 27 (T : Int)) (by omega) (by omega) (FrX_tr h1 ⟨fun k hk => v_up_ne (by omega), fun i hi => v_up_ni (by omega)⟩) ⟨v_up_eq _ _ _ _, (v_up_ni (by decide)).trans h2, v_up_ni (by decide)⟩ (v_up_ne (by decide)) (v_up_ne (by decide)) (fun q hq => absurd hq (by omega)) (fun W1 f1 f2 f3 f4 f5 => ?_)) (by decide)
  refine y_ld (x := .ref 170) rfl rfl (fun d => rfl) ?_
  refine y_ld (x := iv form) rfl rfl (fun d => rfl) ?_
  refine y_ld (x := iv N) rfl rfl (fun d => rfl) ?_
  refine y_ld (x := iv (d : Int)) rfl rfl (fun d => rfl) ?_
  have hsz := hSO.1
  obtain ⟨al, hal⟩ : ∃ al : Nat, V 171 5 = (al : Int) := ⟨(V 171 5).toNat, by omega⟩
  have e171 : W1 171 = V 171 := f1.1 171 (by omega)
  have hvt : ∀ q : Nat, q < T → 0 ≤ V 171 (178 + (W 190 q).toNat) ∧ V 171 (178 + (W 190 q).toNat) < V 171 0 := fun q hq => by
    have := h5 q hq
    have := hSO.2.2.1 (W 190 q).toNat (by omega)
    exact ⟨this.2.1.1, this.2.1.2.2 (by omega)⟩
  have hth : ThM W1 T (fun q => tl (V 171 (178 + (W 190 q).toNat)).toNat) := ⟨f2.1, fun q hq => ⟨(V 171 (178 + (W 190 q).toNat)).toNat, by have := hvt q hq; omega, by rw [f5 q hq]; have := hvt q hq; omega, MT_x (hMTs _ (by have := hvt q hq; omega)) (fun k a b => f1.1 k (by omega))⟩⟩
  have hpq : ∀ q : Nat, q < al → pkO (V 171 (1770 + 4 * q)) (V 171 (1770 + 4 * q + 1)) (V 171 (1770 + 4 * q + 2)) (V 171 (1770 + 4 * q + 3)) := fun q hq => hSO.2.2.2.2.2.2 q (by omega)
  refine y_cV (as := [.ref 170, iv form, iv N, iv (d : Int)]) rfl rfl rfl rfl rfl (md170 hM) ⟨rfl, (Nat.le_of_ble_eq_true rfl), (Nat.le_of_ble_eq_true rfl)⟩ (by decide) (ct_breach (V := W1) (al := al) (ts := (fun q => tl (V 171 (178 + (W 190 q).toNat)).toNat)) hM hT (fun q hq => hTO _ (by have := hvt q hq; omega)) (by omega) (by rw [e171]; exact hpq) (by omega) (by omega) (by rw [e171]; exact hal) hth (by omega) (fun l v V2 q1 q2 q3 q4 => ?_) (fun q2 V2 q4 => ?_))
  · have hl1 := q2.1
    refine y_nv ?_
    refine y_zne rfl rfl rfl (by omega) (fun g2 => ?_) (fun g2 => absurd g2 (by omega))
    refine y_ret rfl (fun d => rfl) ?_
    have e37 : V2 170 37 = (T : Int) := by rw [q4.2 37 (by decide)]; exact f2.2.1
    have e38 : V2 170 38 = W 170 38 := by rw [q4.2 38 (by decide)]; exact f2.2.2
    have e189 : V2 189 = W 189 := by rw [q4.1 189 (by decide) (by decide) (by decide) (by decide) (by decide)]; exact f3
    have e190 : V2 190 = W 190 := by rw [q4.1 190 (by decide) (by decide) (by decide) (by decide) (by decide)]; exact f4
    have hfx := FrX_tr f1 (FrX_B q4)
    exact k V2 ⟨hfx, e37, by rw [e38]; omega, by rw [e189]; exact h4, by rw [e190]; exact h5⟩
  · refine y_nv ?_
    refine y_zne rfl rfl rfl (by decide) (fun g3 => absurd g3 (by decide)) (fun g3 => ?_)
    refine y_ic rfl rfl ?_
    refine y_st (lv' := [(6, iv 0), (0, .ref 170), (1, iv (T : Int)), (2, iv us), (3, iv form), (4, iv N), (5, iv (d : Int))]) rfl rfl (fun d => rfl) ?_
    have e37 : V2 170 37 = (T : Int) := by rw [q4.2 37 (by decide)]; exact f2.2.1
    have e38 : V2 170 38 = W 170 38 := by rw [q4.2 38 (by decide)]; exact f2.2.2
    have e189 : V2 189 = W 189 := by rw [q4.1 189 (by decide) (by decide) (by decide) (by decide) (by decide)]; exact f3
    have e190 : V2 190 = W 190 := by rw [q4.1 190 (by decide) (by decide) (by decide) (by decide) (by decide)]; exact f4
    have hfx := FrX_tr f1 (FrX_B q4)
    refine y_lv (l' := [(0, .ref 170), (1, iv (T : Int)), (2, iv us), (3, iv form), (4, iv N), (5, iv (d : Int)), (6, iv ((0 : Nat) : Int))]) rfl ⟨rfl, rfl, rfl, rfl, rfl, rfl, rfl, trivial⟩ ?_
    refine y_mono (lp_fst (F := 500) (V1 := V2) hM hT e37 (by rw [e38]; omega) 5 0 V2 (by omega) (by omega) (fun k _ => rfl) (fun W2 w1 => ?_)) (by decide)
    refine y_ld (x := .ref 170) rfl rfl (fun d => rfl) ?_
    refine y_in rfl rfl (fun d => rfl) ?_
    refine y_gI (i := 38) (e := (W 170 38)) rfl rfl rfl (md170 hM) rfl (by rw [w1 170 (by decide)]; exact e38) ?_
    refine y_ic rfl rfl ?_
    refine y_add (z := ((W 170 38) + 1)) rfl rfl rfl ?_
    refine y_pI (i := 38) rfl rfl rfl (md170 hM) rfl rfl ?_
    refine y_ret rfl (fun d => rfl) ?_
    have t170 : ∀ i : Nat, i ≠ 38 → ((v_up W2 170 38 ((W 170 38) + 1))) 170 i = V2 170 i := fun i hi => by rw [v_up_ni hi, w1 170 (by decide)]
    exact k _ ⟨FrX_tr hfx ⟨fun k hk => by rw [v_up_ne (by omega), w1 k (by omega)], fun i hi => t170 i (by omega)⟩, (t170 37 (by decide)).trans e37, by rw [v_up_eq]; omega, by rw [v_up_ne (by decide), w1 189 (by decide), e189]; exact h4, by rw [v_up_ne (by decide), w1 190 (by decide), e190]; exact h5⟩
end
