/-! the orders of BOXES: the reference, all of them -/
theorem AR_le {V0 W : v_V} {T n C C2 : Nat} (h : AR V0 T n C W) (hc : C ≤ C2) : AR V0 T n C2 W := ⟨h.1, h.2.1, ⟨h.2.2.1.1, by have := h.2.2.1.2; omega⟩, h.2.2.2⟩
theorem AR_n {V0 W : v_V} {T n n2 C : Nat} (h : AR V0 T n C W) (hc : n2 ≤ n) : AR V0 T n2 C W := ⟨h.1, h.2.1, h.2.2.1, h.2.2.2.1, fun i hi => h.2.2.2.2 i (by omega)⟩
theorem v_bs_mono (x : Int) (j : Nat) : ∀ k, j ≤ k → v_bs x j ≤ v_bs x k
  | 0, h => by
    have : j = 0 := by omega
    subst this
    exact Int.le_refl _
  | k + 1, h => by
    by_cases e : j = k + 1
    · subst e
      exact Int.le_refl _
    · have := v_bs_mono x j k (by omega)
      have := v_bit01 x k
      simp only [v_bs]
      omega
section
variable {X : Nat → List Int32} {u w : Nat} {S : m_H} {V : v_V} {K : v_K}
set_option maxRecDepth 100000 in
set_option maxHeartbeats 4000000 in
theorem lp_arr (hM : MdS S) {tl : Nat → List p_Li} {cnt : Nat} (hSO : SO cnt (V 171)) (hTO : ∀ i : Nat, (i : Int) < V 171 0 → TO (tl i)) (hMTs : ∀ i : Nat, (i : Int) < V 171 0 → MT V i (tl i)) {form N : Int} {d : Nat} (hf : 0 ≤ form ∧ form ≤ 4) (hN : 0 ≤ N ∧ N ≤ 99) (hd : d ≤ 3) {T : Nat} (hT : T ≤ 4) {r n C : Nat} (hnT : n + (r + 1) = T) {us : Int} (hus : 0 ≤ us ∧ us < 65536) (hC3 : C + 4 * 4 ^ r ≤ 300) (hrec : qA X S V form N (d : Int) T r (n + 1)) (k : ∀ W2, AR V T n (C + 4 * 4 ^ r) W2 → K u w none S W2) {F : Nat} : ∀ (m : Nat) (i : Nat) (W : v_V), T - i < m → (i ≤ T) → (AR V T n (C + i * 4 ^ r) W) → y_E X (11 + r) 163 (60 * m + F) u w 122 [(0, .ref 170), (1, iv (n : Int)), (2, iv us), (3, iv form), (4, iv N), (5, iv (d : Int)), (6, iv (i : Int))] [] S W K := by
  intro m
  induction m with
  | zero => intros; omega
  | succ m ih =>
    intro i W hm hI hA 
    refine y_mono (F' := (60 * m + F) + 60) ?_ (by omega)
    refine y_ld (x := iv (i : Int)) rfl rfl (fun d => rfl) ?_
    refine y_ld (x := .ref 170) rfl rfl (fun d => rfl) ?_
    refine y_gI (i := 37) (e := (T : Int)) rfl rfl rfl (md170 hM) rfl hA.2.1 ?_
    refine y_jge rfl rfl rfl (by omega) (fun g1 => ?_) (fun g1 => ?_)
    · refine y_ret rfl (fun d => rfl) ?_
      have hm4 : i * 4 ^ r ≤ 4 * 4 ^ r := Nat.mul_le_mul_right _ (by omega)
      exact k W (AR_le hA (by omega))
    · have hb01 := v_bit01 us i
      have hA0 := hA
      obtain ⟨h1, h2, h3, h4, h5⟩ := hA0
      have h4i := h4 i (by omega)
      have hsz := hSO.1
      have hmu : (i + 1) * 4 ^ r = i * 4 ^ r + 4 ^ r := Nat.succ_mul i (4 ^ r)
      have hm4 : (i + 1) * 4 ^ r ≤ 4 * 4 ^ r := Nat.mul_le_mul_right _ (by omega)
      have hu2 := v_o2_lt16 hus (c := i) (by omega)
      refine y_ld (x := iv us) rfl rfl (fun d => rfl) ?_
      refine y_ld (x := iv (i : Int)) rfl rfl (fun d => rfl) ?_
      refine y_op (z := (us / 2 ^ i)) rfl rfl (fun d => rfl) (v_shr (by omega) (by omega)) ?_
      refine y_ic rfl rfl ?_
      refine y_op (z := (us / 2 ^ i % 2)) rfl rfl (fun d => rfl) (v_and1 (Int.ediv_nonneg (by omega) (Int.le_of_lt (v_p2 _)))) ?_
      refine y_zne rfl rfl rfl (by omega) (fun g2 => ?_) (fun g2 => ?_)
      · refine y_inc (z := ((i + 1 : Nat) : Int)) (lv' := [(6, iv ((i + 1 : Nat) : Int)), (0, .ref 170), (1, iv (n : Int)), (2, iv us), (3, iv form), (4, iv N), (5, iv (d : Int))]) rfl rfl rfl (by omega) rfl ?_
        refine y_go rfl rfl ?_
        refine y_lv (l' := [(0, .ref 170), (1, iv (n : Int)), (2, iv us), (3, iv form), (4, iv N), (5, iv (d : Int)), (6, iv ((i + 1 : Nat) : Int))]) rfl ⟨rfl, rfl, rfl, rfl, rfl, rfl, rfl, trivial⟩ ?_
        refine y_mono (ih (i + 1) W (by omega) (by omega) (AR_le hA (by omega))) (by omega)
      · refine y_ld (x := .ref 170) rfl rfl (fun d => rfl) ?_
        refine y_gR (i := 35) rfl rfl rfl (md170 hM) rfl ?_
        refine y_ld (x := iv (n : Int)) rfl rfl (fun d => rfl) ?_
        refine y_ld (x := .ref 170) rfl rfl (fun d => rfl) ?_
        refine y_gR (i := 34) rfl rfl rfl (md170 hM) rfl ?_
        refine y_ld (x := iv (i : Int)) rfl rfl (fun d => rfl) ?_
        refine y_ild (x := (W 189 i)) (q := i) rfl rfl (md189 hM) (by omega) (by decide) (by omega) rfl ?_
        refine y_ist (q := n) rfl rfl (md190 hM) (by omega) (by decide) (by omega) ?_
        refine y_ld (x := .ref 170) rfl rfl (fun d => rfl) ?_
        refine y_ld (x := iv (n : Int)) rfl rfl (fun d => rfl) ?_
        refine y_ic rfl rfl ?_
        refine y_add (z := ((n + 1 : Nat) : Int)) rfl rfl (by omega) ?_
        refine y_ld (x := iv us) rfl rfl (fun d => rfl) ?_
        refine y_ic rfl rfl ?_
        refine y_ld (x := iv (i : Int)) rfl rfl (fun d => rfl) ?_
        refine y_op (z := (2 ^ i)) rfl rfl (fun d => rfl) (v_shl1 (k := (i : Int)) (by omega)) ?_
        refine y_op (z := (v_o2 us i)) rfl rfl (fun d => rfl) (v_or_o2 (by omega) i) ?_
        refine y_ld (x := iv form) rfl rfl (fun d => rfl) ?_
        refine y_ld (x := iv N) rfl rfl (fun d => rfl) ?_
        refine y_ld (x := iv (d : Int)) rfl rfl (fun d => rfl) ?_
        have hA1 : AR V T (n + 1) (C + i * 4 ^ r) (v_up W 190 n (W 189 i)) := ⟨FrX_tr h1 ⟨fun k hk => v_up_ne (by omega), fun i2 _ => by rw [v_up_ne (by decide)]⟩, by rw [v_up_ne (by decide)]; exact h2, by rw [v_up_ne (by decide)]; exact h3, by rw [v_up_ne (by decide)]; exact h4, fun q hq => by
      rcases (show q < n ∨ q = n by omega) with h7 | h7
      · rw [v_up_ni (by omega)]; exact h5 q h7
      · rw [h7, v_up_eq]; exact h4i⟩
        refine y_cV (as := [.ref 170, iv ((n + 1 : Nat) : Int), iv (v_o2 us i), iv form, iv N, iv (d : Int)]) rfl rfl rfl rfl rfl (md170 hM) ⟨rfl, (Nat.le_of_ble_eq_true rfl), (Nat.le_of_ble_eq_true rfl)⟩ (by omega) (hrec (v_o2 us i) (C + i * 4 ^ r) _ _ _ _ hu2.1 hu2.2 (by omega) hA1 (fun W2 a1 => ?_))
        refine y_n0 ?_
        refine y_inc (z := ((i + 1 : Nat) : Int)) (lv' := [(6, iv ((i + 1 : Nat) : Int)), (0, .ref 170), (1, iv (n : Int)), (2, iv us), (3, iv form), (4, iv N), (5, iv (d : Int))]) rfl rfl rfl (by omega) rfl ?_
        refine y_go rfl rfl ?_
        refine y_lv (l' := [(0, .ref 170), (1, iv (n : Int)), (2, iv us), (3, iv form), (4, iv N), (5, iv (d : Int)), (6, iv ((i + 1 : Nat) : Int))]) rfl ⟨rfl, rfl, rfl, rfl, rfl, rfl, rfl, trivial⟩ ?_
        refine y_mono (ih (i + 1) W2 (by omega) (by omega) (AR_n (AR_le a1 (by omega)) (by omega))) (by omega)
set_option maxRecDepth 100000 in
set_option maxHeartbeats 4000000 in
theorem ct_arr (hM : MdS S) {tl : Nat → List p_Li} {cnt : Nat} (hSO : SO cnt (V 171)) (hTO : ∀ i : Nat, (i : Int) < V 171 0 → TO (tl i)) (hMTs : ∀ i : Nat, (i : Int) < V 171 0 → MT V i (tl i)) {form N : Int} {d : Nat} (hf : 0 ≤ form ∧ form ≤ 4) (hN : 0 ≤ N ∧ N ≤ 99) (hd : d ≤ 3) {T : Nat} (hT : T ≤ 4) : ∀ (r n : Nat), n + r = T → qA X S V form N (d : Int) T r n
  | 0, n, hn => by
    intro us C W K u w h0 h1 hC hA k
    obtain rfl : n = T := by omega
    exact ct_arr0 hM hSO hTO hMTs hf hN hd hT hC hA k
  | r + 1, n, hn => by
    intro us C W K u w h0 h1 hC hA k
    have hrec : qA X S V form N (d : Int) T r (n + 1) := ct_arr hM hSO hTO hMTs hf hN hd hT r (n + 1) (by omega)
    have e4 : 4 ^ (r + 1) = 4 * 4 ^ r := by rw [Nat.pow_succ, Nat.mul_comm]
    rw [e4] at hC k
    show y_R X (11 + r + 1) 163 u w _ S W K
    refine y_ent (lv' := [(0, .ref 170), (1, iv (n : Int)), (2, iv us), (3, iv form), (4, iv N), (5, iv (d : Int))]) (Nat.le_of_ble_eq_true rfl) rfl ?_
    refine y_ld (x := iv (n : Int)) rfl rfl (fun d => rfl) ?_
    refine y_ld (x := .ref 170) rfl rfl (fun d => rfl) ?_
    refine y_gI (i := 37) (e := (T : Int)) rfl rfl rfl (md170 hM) rfl hA.2.1 ?_
    refine y_jne rfl rfl rfl (by omega) (fun g1 => ?_) (fun g1 => absurd g1 (by omega))
    refine y_ic rfl rfl ?_
    refine y_st (lv' := [(6, iv 0), (0, .ref 170), (1, iv (n : Int)), (2, iv us), (3, iv form), (4, iv N), (5, iv (d : Int))]) rfl rfl (fun d => rfl) ?_
    refine y_lv (l' := [(0, .ref 170), (1, iv (n : Int)), (2, iv us), (3, iv form), (4, iv N), (5, iv (d : Int)), (6, iv ((0 : Nat) : Int))]) rfl ⟨rfl, rfl, rfl, rfl, rfl, rfl, rfl, trivial⟩ ?_
    exact y_mono (lp_arr (F := 100) hM hSO hTO hMTs hf hN hd hT hn ⟨h0, h1⟩ hC hrec k 5 0 W (by omega) (by omega) (by rw [Nat.zero_mul]; exact hA)) (by decide)
set_option maxRecDepth 100000 in
set_option maxHeartbeats 4000000 in
theorem lp_told (hM : MdS S) {x y n i : Int} {d B : Nat} (hx0 : 0 ≤ x ∧ x < 65536) (hbs : v_bs x 16 ≤ 4) (hB : V 171 1 = (B : Int)) (hB8 : B ≤ 8) {F : Nat} : ∀ (m : Nat) (j : Nat) (W : v_V), B - j < m → (j ≤ B) → (FrX V W) → (W 170 37 = v_bs x j) → (∀ q : Nat, (q : Int) < v_bs x j → 0 ≤ W 189 q ∧ W 189 q < (B : Int)) → (∀ W : v_V, FrX V W → W 170 37 = v_bs x B → (∀ q : Nat, (q : Int) < v_bs x B → 0 ≤ W 189 q ∧ W 189 q < (B : Int)) → y_E X 15 164 F u w 126 [(0, .ref 170), (1, iv x), (2, iv y), (3, iv n), (4, iv (d : Int)), (5, iv i)] [] S W K) → y_E X 15 164 (60 * m + F) u w 78 [(0, .ref 170), (1, iv x), (2, iv y), (3, iv n), (4, iv (d : Int)), (5, iv i), (6, iv (j : Int))] [] S W K := by
  intro m
  induction m with
  | zero => intros; omega
  | succ m ih =>
    intro j W hm hI hF h37 htd hx
    refine y_mono (F' := (60 * m + F) + 60) ?_ (by omega)
    refine y_ld (x := iv (j : Int)) rfl rfl (fun d => rfl) ?_
    refine y_ld (x := .ref 170) rfl rfl (fun d => rfl) ?_
    refine y_gR (i := 1) rfl rfl rfl (md170 hM) rfl ?_
    refine y_ic rfl rfl ?_
    refine y_ild (x := (B : Int)) (q := 1) rfl rfl (md171 hM) (by decide) (by decide) rfl (by rw [hF.1 171 (by omega)]; exact hB) ?_
    refine y_jge rfl rfl rfl (by omega) (fun g1 => ?_) (fun g1 => ?_)
    · obtain rfl : j = B := by omega
      refine y_lv (l' := [(0, .ref 170), (1, iv x), (2, iv y), (3, iv n), (4, iv (d : Int)), (5, iv i)]) rfl ⟨rfl, rfl, rfl, rfl, rfl, rfl, trivial⟩ ?_
      exact y_mono (hx W hF h37 htd) (by omega)
    · have hb01 := v_bit01 x j
      have hle := v_bs_le x j
      have e1 : v_bs x (j + 1) = v_bs x j + x / 2 ^ j % 2 := rfl
      have hmo := v_bs_mono x (j + 1) 16 (by omega)
      refine y_ld (x := iv x) rfl rfl (fun d => rfl) ?_
      refine y_ld (x := iv (j : Int)) rfl rfl (fun d => rfl) ?_
      refine y_op (z := (x / 2 ^ j)) rfl rfl (fun d => rfl) (v_shr (by omega) (by omega)) ?_
      refine y_ic rfl rfl ?_
      refine y_op (z := (x / 2 ^ j % 2)) rfl rfl (fun d => rfl) (v_and1 (Int.ediv_nonneg (by omega) (Int.le_of_lt (v_p2 _)))) ?_
      refine y_ic rfl rfl ?_
      refine y_jne rfl rfl rfl (by omega) (fun g2 => ?_) (fun g2 => ?_)
      · refine y_inc (z := ((j + 1 : Nat) : Int)) (lv' := [(6, iv ((j + 1 : Nat) : Int)), (0, .ref 170), (1, iv x), (2, iv y), (3, iv n), (4, iv (d : Int)), (5, iv i)]) rfl rfl rfl (by omega) rfl ?_
        refine y_go rfl rfl ?_
        refine y_lv (l' := [(0, .ref 170), (1, iv x), (2, iv y), (3, iv n), (4, iv (d : Int)), (5, iv i), (6, iv ((j + 1 : Nat) : Int))]) rfl ⟨rfl, rfl, rfl, rfl, rfl, rfl, rfl, trivial⟩ ?_
        exact y_mono (ih (j + 1) W (by omega) (by omega) hF (by rw [e1]; omega) (fun q hq => htd q (by omega)) hx) (by omega)
      · refine y_ld (x := .ref 170) rfl rfl (fun d => rfl) ?_
        refine y_gR (i := 34) rfl rfl rfl (md170 hM) rfl ?_
        refine y_ld (x := .ref 170) rfl rfl (fun d => rfl) ?_
        refine y_gI (i := 37) (e := (v_bs x j)) rfl rfl rfl (md170 hM) rfl h37 ?_
        refine y_ld (x := iv (j : Int)) rfl rfl (fun d => rfl) ?_
        refine y_ist (q := ((v_bs x j).toNat)) rfl rfl (md189 hM) (by omega) (by decide) (by omega) ?_
        refine y_ld (x := .ref 170) rfl rfl (fun d => rfl) ?_
        refine y_in rfl rfl (fun d => rfl) ?_
        refine y_gI (i := 37) (e := (v_bs x j)) rfl rfl rfl (md170 hM) rfl (by rw [v_up_ne (by decide)]; exact h37) ?_
        refine y_ic rfl rfl ?_
        refine y_add (z := ((v_bs x j) + 1)) rfl rfl rfl ?_
        refine y_pI (i := 37) rfl rfl rfl (md170 hM) rfl rfl ?_
        refine y_inc (z := ((j + 1 : Nat) : Int)) (lv' := [(6, iv ((j + 1 : Nat) : Int)), (0, .ref 170), (1, iv x), (2, iv y), (3, iv n), (4, iv (d : Int)), (5, iv i)]) rfl rfl rfl (by omega) rfl ?_
        refine y_go rfl rfl ?_
        refine y_lv (l' := [(0, .ref 170), (1, iv x), (2, iv y), (3, iv n), (4, iv (d : Int)), (5, iv i), (6, iv ((j + 1 : Nat) : Int))]) rfl ⟨rfl, rfl, rfl, rfl, rfl, rfl, rfl, trivial⟩ ?_
        refine y_mono (ih (j + 1) (v_up (v_up W 189 ((v_bs x j).toNat) (j : Int)) 170 37 ((v_bs x j) + 1)) (by omega) (by omega) (FrX_tr hF ⟨fun k hk => by rw [v_up_ne (by omega), v_up_ne (by omega)], fun i2 hi => by rw [v_up_ni (by omega), v_up_ne (by decide)]⟩) (by rw [v_up_eq, e1]; omega) (fun q hq => ?_) hx) (by omega)
        rw [v_up_ne (by decide)]
        rcases (show q < (v_bs x j).toNat ∨ q = (v_bs x j).toNat by omega) with h7 | h7
        · rw [v_up_ni (by omega)]; exact htd q (by omega)
        · rw [h7, v_up_eq]; omega
set_option maxRecDepth 100000 in
set_option maxHeartbeats 4000000 in
theorem ms_orders (hM : MdS S) {tl : Nat → List p_Li} {cnt : Nat} (hSO : SO cnt (V 171)) (hTO : ∀ i : Nat, (i : Int) < V 171 0 → TO (tl i)) (hMTs : ∀ i : Nat, (i : Int) < V 171 0 → MT V i (tl i)) {x : Int} (hx : (-2147483648 ≤ x ∧ x < 2147483648)) {y : Int} (hy : (-2147483648 ≤ y ∧ y < 2147483648)) {n : Int} (hn : (-2147483648 ≤ n ∧ n < 2147483648)) {d : Int} (hd : (-2147483648 ≤ d ∧ d < 2147483648)) {i : Int} (hi : (-2147483648 ≤ i ∧ i < 2147483648)) (k0 : ¬ ((0 ≤ y ∧ y ≤ 4) ∧ -1 ≤ i) → K u w (some (iv (-1))) S V) (k1 : ((0 ≤ y ∧ y ≤ 4) ∧ -1 ≤ i) → ¬ ((0 ≤ x ∧ x ≤ 2 ^ (V 171 1).toNat - 1) ∧ (2 ≤ v_bs x 16 ∧ v_bs x 16 ≤ 4) ∧ (0 ≤ n ∧ n ≤ 99) ∧ (1 ≤ d ∧ d ≤ 3)) → K u w (some (iv (-2))) S V) (k2 : ((0 ≤ y ∧ y ≤ 4) ∧ -1 ≤ i) → ((0 ≤ x ∧ x ≤ 2 ^ (V 171 1).toNat - 1) ∧ (2 ≤ v_bs x 16 ∧ v_bs x 16 ≤ 4) ∧ (0 ≤ n ∧ n ≤ 99) ∧ (1 ≤ d ∧ d ≤ 3)) → ∀ r V2, FrX V V2 → K u w (some (iv r)) S V2) : y_R X 16 164 u w [.ref 170, iv x, iv y, iv n, iv d, iv i] S V K := by
  have hsz := hSO.1
  have hp2 : 1 ≤ (2 ^ (V 171 1).toNat : Int) ∧ (2 ^ (V 171 1).toNat : Int) ≤ 256 := by
    rcases (show V 171 1 = 0 ∨ V 171 1 = 1 ∨ V 171 1 = 2 ∨ V 171 1 = 3 ∨ V 171 1 = 4 ∨ V 171 1 = 5 ∨ V 171 1 = 6 ∨ V 171 1 = 7 ∨ V 171 1 = 8 by omega) with h | h | h | h | h | h | h | h | h <;> rw [h] <;> decide
  have hv16 := v_bs_le x 16
  refine y_ent (lv' := [(0, .ref 170), (1, iv x), (2, iv y), (3, iv n), (4, iv d), (5, iv i)]) (Nat.le_of_ble_eq_true rfl) rfl ?_
  refine y_ld (x := iv y) rfl rfl (fun d => rfl) ?_
  refine y_ic rfl rfl ?_
  refine y_ic rfl rfl ?_
  refine y_cS (as := [iv y, iv 0, iv 4]) rfl (by decide) rfl rfl rfl rfl ⟨(Nat.le_of_ble_eq_true rfl), (Nat.le_of_ble_eq_true rfl)⟩ (by omega) (ct_in (by omega) ?_)
  refine y_nv ?_
  refine y_beq rfl rfl rfl (fun g1 => ?_) (fun g1 => ?_)
  · refine y_ic rfl rfl ?_
    refine y_rI rfl (Or.inl rfl) ?_
    exact k0 (by omega)
  · refine y_ld (x := iv i) rfl rfl (fun d => rfl) ?_
    refine y_ic rfl rfl ?_
    refine y_jge rfl rfl rfl (by omega) (fun g2 => ?_) (fun g2 => ?_)
    · refine y_ld (x := iv x) rfl rfl (fun d => rfl) ?_
      refine y_ic rfl rfl ?_
      refine y_ic rfl rfl ?_
      refine y_ld (x := .ref 170) rfl rfl (fun d => rfl) ?_
      refine y_gR (i := 1) rfl rfl rfl (md170 hM) rfl ?_
      refine y_ic rfl rfl ?_
      refine y_ild (x := (V 171 1)) (q := 1) rfl rfl (md171 hM) (by decide) (by decide) rfl rfl ?_
      refine y_op (z := (2 ^ (V 171 1).toNat)) rfl rfl (fun d => rfl) (v_shl1 (k := V 171 1) (by omega)) ?_
      refine y_ic rfl rfl ?_
      refine y_sub (z := ((2 ^ (V 171 1).toNat) - 1)) rfl rfl rfl ?_
      refine y_cS (as := [iv x, iv 0, iv ((2 ^ (V 171 1).toNat) - 1)]) rfl (by decide) rfl rfl rfl rfl ⟨(Nat.le_of_ble_eq_true rfl), (Nat.le_of_ble_eq_true rfl)⟩ (by omega) (ct_in (by omega) ?_)
      refine y_nv ?_
      refine y_beq rfl rfl rfl (fun g3 => ?_) (fun g3 => ?_)
      · refine y_bi rfl rfl (by decide) ?_
        refine y_rI rfl (Or.inl rfl) ?_
        exact k1 (by omega) (by omega)
      · refine y_ld (x := iv x) rfl rfl (fun d => rfl) ?_
        refine y_cS (as := [iv x]) rfl (by decide) rfl rfl rfl rfl ⟨(Nat.le_of_ble_eq_true rfl), (Nat.le_of_ble_eq_true rfl)⟩ (by omega) (ct_count1 (by omega) ?_)
        refine y_nv ?_
        refine y_ic rfl rfl ?_
        refine y_ic rfl rfl ?_
        refine y_cS (as := [iv (v_bs x 16), iv 2, iv 4]) rfl (by decide) rfl rfl rfl rfl ⟨(Nat.le_of_ble_eq_true rfl), (Nat.le_of_ble_eq_true rfl)⟩ (by omega) (ct_in (by omega) ?_)
        refine y_nv ?_
        refine y_beq rfl rfl rfl (fun g4 => ?_) (fun g4 => ?_)
        · refine y_bi rfl rfl (by decide) ?_
          refine y_rI rfl (Or.inl rfl) ?_
          exact k1 (by omega) (by omega)
        · refine y_ld (x := iv n) rfl rfl (fun d => rfl) ?_
          refine y_ic rfl rfl ?_
          refine y_bi rfl rfl (by decide) ?_
          refine y_cS (as := [iv n, iv 0, iv 99]) rfl (by decide) rfl rfl rfl rfl ⟨(Nat.le_of_ble_eq_true rfl), (Nat.le_of_ble_eq_true rfl)⟩ (by omega) (ct_in (by omega) ?_)
          refine y_nv ?_
          refine y_beq rfl rfl rfl (fun g5 => ?_) (fun g5 => ?_)
          · refine y_bi rfl rfl (by decide) ?_
            refine y_rI rfl (Or.inl rfl) ?_
            exact k1 (by omega) (by omega)
          · refine y_ld (x := iv d) rfl rfl (fun d => rfl) ?_
            refine y_ic rfl rfl ?_
            refine y_ic rfl rfl ?_
            refine y_cS (as := [iv d, iv 1, iv 3]) rfl (by decide) rfl rfl rfl rfl ⟨(Nat.le_of_ble_eq_true rfl), (Nat.le_of_ble_eq_true rfl)⟩ (by omega) (ct_in (by omega) ?_)
            refine y_nv ?_
            refine y_bne rfl rfl rfl (fun g6 => ?_) (fun g6 => ?_)
            · obtain ⟨dn, rfl⟩ : ∃ dn : Nat, d = (dn : Int) := ⟨d.toNat, by omega⟩
              obtain ⟨B, hBn⟩ : ∃ B : Nat, V 171 1 = (B : Int) := ⟨(V 171 1).toNat, by omega⟩
              refine y_ld (x := .ref 170) rfl rfl (fun d => rfl) ?_
              refine y_ic rfl rfl ?_
              refine y_pI (i := 37) rfl rfl rfl (md170 hM) rfl rfl ?_
              refine y_ic rfl rfl ?_
              refine y_st (lv' := [(6, iv 0), (0, .ref 170), (1, iv x), (2, iv y), (3, iv n), (4, iv (dn : Int)), (5, iv i)]) rfl rfl (fun d => rfl) ?_
              refine y_lv (l' := [(0, .ref 170), (1, iv x), (2, iv y), (3, iv n), (4, iv (dn : Int)), (5, iv i), (6, iv ((0 : Nat) : Int))]) rfl ⟨rfl, rfl, rfl, rfl, rfl, rfl, rfl, trivial⟩ ?_
              refine y_mono (lp_told (F := 2000) (d := dn) hM (by omega) (by omega) hBn (by omega) 9 0 (v_up V 170 37 0) (by omega) (by omega) ⟨fun k hk => v_up_ne (by omega), fun i2 hi => v_up_ni (by omega)⟩ (v_up_eq _ _ _ _) (fun q hq => absurd hq (by show ¬ (q : Int) < 0; omega)) (fun W1 f1 f2 f3 => ?_)) (by decide)
              refine y_ld (x := .ref 170) rfl rfl (fun d => rfl) ?_
              refine y_ic rfl rfl ?_
              refine y_pI (i := 38) rfl rfl rfl (md170 hM) rfl rfl ?_
              refine y_ld (x := .ref 170) rfl rfl (fun d => rfl) ?_
              refine y_ic rfl rfl ?_
              refine y_ic rfl rfl ?_
              refine y_ld (x := iv y) rfl rfl (fun d => rfl) ?_
              refine y_ld (x := iv n) rfl rfl (fun d => rfl) ?_
              refine y_ld (x := iv (dn : Int)) rfl rfl (fun d => rfl) ?_
              have hle := v_bs_le x B
              have hmo := v_bs_mono x B 16 (by omega)
              obtain ⟨T, hT⟩ : ∃ T : Nat, v_bs x B = (T : Int) := ⟨(v_bs x B).toNat, by omega⟩
              rw [hT] at f2 f3
              have hT4 : T ≤ 4 := by omega
              have hp4 : 4 ^ T ≤ 256 := by
                have := Nat.pow_le_pow_right (show 0 < 4 by decide) hT4
                omega
              have hA1 : AR V T 0 0 (v_up W1 170 38 0) := ⟨FrX_tr f1 ⟨fun k hk => v_up_ne (by omega), fun i2 hi => v_up_ni (by omega)⟩, by rw [v_up_ni (by decide)]; exact f2, by rw [v_up_eq]; omega, by rw [v_up_ne (by decide), hBn]; exact fun q hq => f3 q (by omega), fun q hq => absurd hq (by omega)⟩
              refine y_cV (as := [.ref 170, iv ((0 : Nat) : Int), iv 0, iv y, iv n, iv (dn : Int)]) rfl rfl rfl rfl rfl (md170 hM) ⟨rfl, (Nat.le_of_ble_eq_true rfl), (Nat.le_of_ble_eq_true rfl)⟩ (by omega) (ct_arr hM hSO hTO hMTs (by omega) (by omega) (by omega) hT4 T 0 (by omega) 0 0 _ _ _ _ (by decide) (by decide) (by omega) hA1 (fun W2 a1 => ?_))
              obtain ⟨b1, b2, b3, b4, b5⟩ := a1
              refine y_n0 ?_
              refine y_ld (x := iv i) rfl rfl (fun d => rfl) ?_
              refine y_ic rfl rfl ?_
              refine y_jne rfl rfl rfl (by omega) (fun g7 => ?_) (fun g7 => ?_)
              · refine y_ld (x := .ref 170) rfl rfl (fun d => rfl) ?_
                refine y_gI (i := 38) (e := (W2 170 38)) rfl rfl rfl (md170 hM) rfl rfl ?_
                refine y_zle rfl rfl rfl (by omega) (fun g8 => ?_) (fun g8 => ?_)
                · refine y_ic rfl rfl ?_
                  refine y_rI rfl (Or.inl rfl) ?_
                  exact k2 (by omega) (by omega) _ W2 b1
                · refine y_ld (x := iv i) rfl rfl (fun d => rfl) ?_
                  refine y_ld (x := .ref 170) rfl rfl (fun d => rfl) ?_
                  refine y_gI (i := 37) (e := (T : Int)) rfl rfl rfl (md170 hM) rfl b2 ?_
                  refine y_jge rfl rfl rfl (by omega) (fun g9 => ?_) (fun g9 => ?_)
                  · refine y_ic rfl rfl ?_
                    refine y_rI rfl (Or.inl rfl) ?_
                    exact k2 (by omega) (by omega) _ W2 b1
                  · refine y_ld (x := .ref 170) rfl rfl (fun d => rfl) ?_
                    refine y_gR (i := 36) rfl rfl rfl (md170 hM) rfl ?_
                    refine y_ld (x := iv i) rfl rfl (fun d => rfl) ?_
                    refine y_ild (x := (W2 191 i.toNat)) (q := i.toNat) rfl rfl (md191 hM) (by omega) (by decide) (by omega) rfl ?_
                    refine y_go rfl rfl ?_
                    refine y_rI rfl (Or.inl rfl) ?_
                    exact k2 (by omega) (by omega) _ W2 b1
              · refine y_ld (x := .ref 170) rfl rfl (fun d => rfl) ?_
                refine y_gI (i := 38) (e := (W2 170 38)) rfl rfl rfl (md170 hM) rfl rfl ?_
                refine y_rI rfl (Or.inl rfl) ?_
                exact k2 (by omega) (by omega) _ W2 b1
            · refine y_bi rfl rfl (by decide) ?_
              refine y_rI rfl (Or.inl rfl) ?_
              exact k1 (by omega) (by omega)
    · refine y_ic rfl rfl ?_
      refine y_rI rfl (Or.inl rfl) ?_
      exact k0 (by omega)
end
