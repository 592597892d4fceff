/-! the orders of BOXES: the reference, what it counts -/
def KPm (form N : Int) (σ : Nat → Int) (tl : Nat → List p_Li) (td : List Nat) (T al d : Nat) (l : List Nat) : Prop := nbP (brkV form N σ (fun q => tl (σ (178 + (bxs td l).getD q 0)).toNat) T al) al d
def AJ (V0 : v_V) (T n : Nat) (td : List Nat) (P : List Nat → Prop) (dn : List (List Nat)) (p : List Nat) (W : v_V) : Prop := FrX V0 W ∧ W 170 37 = (T : Int) ∧ W 170 38 = (cK P dn : Int) ∧ (∀ i : Nat, i < T → W 189 i = ((td.getD i 0 : Nat) : Int)) ∧ (∀ i : Nat, i < n → W 190 i = ((td.getD (p.getD i 0) 0 : Nat) : Int)) ∧ (0 < cK P dn → ∀ i : Nat, i < T → W 191 i = ((td.getD ((fK P dn).getD i 0) 0 : Nat) : Int))
theorem AJ_n {V0 W : v_V} {T n n2 : Nat} {td : List Nat} {P : List Nat → Prop} {dn : List (List Nat)} {p p2 : List Nat} (h : AJ V0 T n td P dn p W) (hc : n2 ≤ n) (he : ∀ i, i < n2 → p2.getD i 0 = p.getD i 0) : AJ V0 T n2 td P dn p2 W := ⟨h.1, h.2.1, h.2.2.1, h.2.2.2.1, fun i hi => by rw [he i hi]; exact h.2.2.2.2.1 i (by omega), h.2.2.2.2.2⟩
theorem arrL_len {T : Nat} (hT : T ≤ 4) : ∀ (r : Nat) (p : List Nat) (us : Int), (arrL T r p us).length ≤ 4 ^ r
  | 0, p, us => Nat.le_refl 1
  | r + 1, p, us => by
    have h : ∀ n : Nat, (arrI T r p us n).length ≤ n * 4 ^ r := fun n => by
      induction n with
      | zero => exact Nat.zero_le _
      | succ n ih =>
        rw [arrI_s, List.length_append, Nat.succ_mul]
        refine Nat.add_le_add ih ?_
        split
        · exact arrL_len hT r _ _
        · exact Nat.zero_le _
    have h2 := h T
    have h3 : T * 4 ^ r ≤ 4 * 4 ^ r := Nat.mul_le_mul_right _ hT
    show (arrI T r p us T).length ≤ _
    rw [Nat.pow_succ, Nat.mul_comm]
    omega
theorem arrI_len {T : Nat} (hT : T ≤ 4) (r : Nat) (p : List Nat) (us : Int) : ∀ n : Nat, (arrI T r p us n).length ≤ n * 4 ^ r := fun n => by
  induction n with
  | zero => exact Nat.zero_le _
  | succ n ih =>
    rw [arrI_s, List.length_append, Nat.succ_mul]
    refine Nat.add_le_add ih ?_
    split
    · exact arrL_len hT r _ _
    · exact Nat.zero_le _
def qJ (X : Nat → List Int32) (S : m_H) (V0 : v_V) (form N d : Int) (T : Nat) (td : List Nat) (P : List Nat → Prop) (r n : Nat) : Prop := ∀ (us : Int) (C : Nat) (dn : List (List Nat)) (p : List Nat) (W : v_V) (K : v_K) (u w : Nat), 0 ≤ us → us < 65536 → p.length = n → (∀ a ∈ p, a < T) → dn.length ≤ C → C + 4 ^ r ≤ 300 → AJ V0 T n td P dn p W → (∀ W2, AJ V0 T n td P (dn ++ arrL T r p us) p W2 → K u w none S W2) → y_R X (11 + r) 163 u w [.ref 170, iv (n : Int), iv us, iv form, iv N, iv d] S W K
section
variable {X : Nat → List Int32} {u w : Nat} {S : m_H} {V : v_V} {K : v_K}
set_option maxRecDepth 100000 in
set_option maxHeartbeats 4000000 in
theorem lp_fstJ (hM : MdS S) {form N us : Int} {d T : Nat} (hT : T ≤ 4) {V1 : v_V} (h37 : V1 170 37 = (T : Int)) (h38 : 0 ≤ V1 170 38 ∧ V1 170 38 ≤ 300) {F : Nat} : ∀ (m : Nat) (i : Nat) (W : v_V), T - i < m → (i ≤ T) → (∀ k, k ≠ 191 → W k = V1 k) → (V1 170 38 ≠ 0 → W 191 = V1 191) → (V1 170 38 = 0 → ∀ q : Nat, q < i → W 191 q = V1 190 q) → (∀ W : v_V, (∀ k, k ≠ 191 → W k = V1 k) → (V1 170 38 ≠ 0 → W 191 = V1 191) → (V1 170 38 = 0 → ∀ q : Nat, q < T → W 191 q = V1 190 q) → y_E X 10 163 F u w 108 [(0, .ref 170), (1, iv (T : Int)), (2, iv us), (3, iv form), (4, iv N), (5, iv (d : Int))] [] S W K) → y_E X 10 163 (40 * m + F) u w 72 [(0, .ref 170), (1, iv (T : Int)), (2, iv us), (3, iv form), (4, iv N), (5, iv (d : Int)), (6, iv (i : Int))] [] S W K := by
  intro m
  induction m with
  | zero => intros; omega
  | succ m ih =>
    intro i W hm hI hQ hQ1 hQ0 hx
    refine y_mono (F' := (40 * m + F) + 40) ?_ (by omega)
    refine y_ld (x := iv (i : Int)) rfl rfl (fun d => rfl) ?_
    have h170 : W 170 = V1 170 := hQ 170 (by decide)
    refine y_ld (x := .ref 170) rfl rfl (fun d => rfl) ?_
    refine y_gI (i := 37) (e := (T : Int)) rfl rfl rfl (md170 hM) rfl (by rw [h170]; exact h37) ?_
    refine y_jge rfl rfl rfl (by omega) (fun g1 => ?_) (fun g1 => ?_)
    · refine y_lv (l' := [(0, .ref 170), (1, iv (T : Int)), (2, iv us), (3, iv form), (4, iv N), (5, iv (d : Int))]) rfl ⟨rfl, rfl, rfl, rfl, rfl, rfl, trivial⟩ ?_
      exact y_mono (hx W hQ hQ1 (fun h0 q hq => hQ0 h0 q (by omega))) (by omega)
    · refine y_ld (x := .ref 170) rfl rfl (fun d => rfl) ?_
      refine y_gI (i := 38) (e := (V1 170 38)) rfl rfl rfl (md170 hM) rfl (by rw [h170]) ?_
      refine y_zne rfl rfl rfl (by omega) (fun g2 => ?_) (fun g2 => ?_)
      · refine y_lv (l' := [(0, .ref 170), (1, iv (T : Int)), (2, iv us), (3, iv form), (4, iv N), (5, iv (d : Int))]) rfl ⟨rfl, rfl, rfl, rfl, rfl, rfl, trivial⟩ ?_
        exact y_mono (hx W hQ hQ1 (fun h0 q hq => hQ0 h0 q (by omega))) (by omega)
      · refine y_ld (x := .ref 170) rfl rfl (fun d => rfl) ?_
        refine y_gR (i := 36) rfl rfl rfl (md170 hM) rfl ?_
        refine y_ld (x := iv (i : Int)) rfl rfl (fun d => rfl) ?_
        refine y_ld (x := .ref 170) rfl rfl (fun d => rfl) ?_
        refine y_gR (i := 35) rfl rfl rfl (md170 hM) rfl ?_
        refine y_ld (x := iv (i : Int)) rfl rfl (fun d => rfl) ?_
        refine y_ild (x := (W 190 i)) (q := i) rfl rfl (md190 hM) (by omega) (by decide) (by omega) rfl ?_
        refine y_ist (q := i) rfl rfl (md191 hM) (by omega) (by decide) (by omega) ?_
        refine y_inc (z := ((i + 1 : Nat) : Int)) (lv' := [(6, iv ((i + 1 : Nat) : Int)), (0, .ref 170), (1, iv (T : Int)), (2, iv us), (3, iv form), (4, iv N), (5, iv (d : Int))]) rfl rfl rfl (by omega) rfl ?_
        refine y_go rfl rfl ?_
        refine y_lv (l' := [(0, .ref 170), (1, iv (T : Int)), (2, iv us), (3, iv form), (4, iv N), (5, iv (d : Int)), (6, iv ((i + 1 : Nat) : Int))]) rfl ⟨rfl, rfl, rfl, rfl, rfl, rfl, rfl, trivial⟩ ?_
        refine y_mono (ih (i + 1) (v_up W 191 i (W 190 i)) (by omega) (by omega) (fun k hk => by rw [v_up_ne hk]; exact hQ k hk) (fun h0 => absurd h0 (by omega)) (fun h0 q hq => ?_) hx) (by omega)
        rcases (show q < i ∨ q = i by omega) with h7 | h7
        · rw [v_up_ni (by omega)]; exact hQ0 h0 q h7
        · rw [h7, v_up_eq]; exact congrFun (hQ 190 (by decide)) i
set_option maxRecDepth 100000 in
set_option maxHeartbeats 4000000 in
theorem lp_thrJ (hM : MdS S) {tl : Nat → List p_Li} {cnt : Nat} (hSO : SO cnt (V 171)) (hTO : ∀ i : Nat, (i : Int) < V 171 0 → TO (tl i)) (hMTs : ∀ i : Nat, (i : Int) < V 171 0 → MT V i (tl i)) {form N : Int} {d : Nat} (hf : 0 ≤ form ∧ form ≤ 4) (hN : 0 ≤ N ∧ N ≤ 99) (hd : d ≤ 3) {T : Nat} (hT : T ≤ 4) {us : Int} {V1 : v_V} (h190o : ∀ q : Nat, q < T → 0 ≤ V1 190 q ∧ V1 190 q < V 171 1) {F : Nat} : ∀ (m : Nat) (i : Nat) (W : v_V), T - i < m → (i ≤ T) → (FrX V W) → (W 170 27 = (T : Int) ∧ W 170 37 = (T : Int) ∧ W 170 38 = V1 170 38) → (W 189 = V1 189) → (W 190 = V1 190) → (W 191 = V1 191) → (∀ q : Nat, q < i → W 182 q = V 171 (178 + (V1 190 q).toNat)) → (∀ W : v_V, FrX V W → (W 170 27 = (T : Int) ∧ W 170 37 = (T : Int) ∧ W 170 38 = V1 170 38) → W 189 = V1 189 → W 190 = V1 190 → (∀ q : Nat, q < T → W 182 q = V 171 (178 + (V1 190 q).toNat)) → W 191 = V1 191 → y_E X 10 163 F u w 57 [(0, .ref 170), (1, iv (T : Int)), (2, iv us), (3, iv form), (4, iv N), (5, iv (d : Int))] [] S W K) → y_E X 10 163 (40 * m + F) u w 19 [(0, .ref 170), (1, iv (T : Int)), (2, iv us), (3, iv form), (4, iv N), (5, iv (d : Int)), (6, iv (i : Int))] [] S W K := by
  intro m
  induction m with
  | zero => intros; omega
  | succ m ih =>
    intro i W hm hI hF h27 h189 h190 h191 h182 hx
    refine y_mono (F' := (40 * m + F) + 40) ?_ (by omega)
    refine y_ld (x := iv (i : Int)) rfl rfl (fun d => rfl) ?_
    refine y_ld (x := .ref 170) rfl rfl (fun d => rfl) ?_
    refine y_gI (i := 37) (e := (T : Int)) rfl rfl rfl (md170 hM) rfl h27.2.1 ?_
    refine y_jge rfl rfl rfl (by omega) (fun g1 => ?_) (fun g1 => ?_)
    · refine y_lv (l' := [(0, .ref 170), (1, iv (T : Int)), (2, iv us), (3, iv form), (4, iv N), (5, iv (d : Int))]) rfl ⟨rfl, rfl, rfl, rfl, rfl, rfl, trivial⟩ ?_
      exact y_mono (hx W hF h27 h189 h190 (fun q hq => h182 q (by omega)) h191) (by omega)
    · have hsz := hSO.1
      have hor := h190o i (by omega)
      have h171 : W 171 = V 171 := hF.1 171 (by omega)
      have e190 : W 190 i = V1 190 i := by rw [h190]
      refine y_ld (x := .ref 170) rfl rfl (fun d => rfl) ?_
      refine y_gR (i := 26) rfl rfl rfl (md170 hM) rfl ?_
      refine y_ld (x := iv (i : Int)) rfl rfl (fun d => rfl) ?_
      refine y_ld (x := .ref 170) rfl rfl (fun d => rfl) ?_
      refine y_gR (i := 1) rfl rfl rfl (md170 hM) rfl ?_
      refine y_si rfl rfl (by decide) ?_
      refine y_ld (x := .ref 170) rfl rfl (fun d => rfl) ?_
      refine y_gR (i := 35) rfl rfl rfl (md170 hM) rfl ?_
      refine y_ld (x := iv (i : Int)) rfl rfl (fun d => rfl) ?_
      refine y_ild (x := (V1 190 i)) (q := i) rfl rfl (md190 hM) (by omega) (by decide) (by omega) e190 ?_
      refine y_add (z := (178 + V1 190 i)) rfl rfl (by omega) ?_
      refine y_ild (x := (V 171 (178 + (V1 190 i).toNat))) (q := (178 + (V1 190 i).toNat)) rfl rfl (md171 hM) (by omega) (by decide) (by omega) (by rw [h171]) ?_
      refine y_ist (q := i) rfl rfl (md182 hM) (by omega) (by decide) (by omega) ?_
      refine y_inc (z := ((i + 1 : Nat) : Int)) (lv' := [(6, iv ((i + 1 : Nat) : Int)), (0, .ref 170), (1, iv (T : Int)), (2, iv us), (3, iv form), (4, iv N), (5, iv (d : Int))]) rfl rfl rfl (by omega) rfl ?_
      refine y_go rfl rfl ?_
      refine y_lv (l' := [(0, .ref 170), (1, iv (T : Int)), (2, iv us), (3, iv form), (4, iv N), (5, iv (d : Int)), (6, iv ((i + 1 : Nat) : Int))]) rfl ⟨rfl, rfl, rfl, rfl, rfl, rfl, rfl, trivial⟩ ?_
      refine y_mono (ih (i + 1) (v_up W 182 i (V 171 (178 + (V1 190 i).toNat))) (by omega) (by omega) (FrX_tr hF ⟨fun k hk => v_up_ne (by omega), fun i2 _ => by rw [v_up_ne (by decide)]⟩) (by rw [v_up_ne (by decide)]; exact h27) (by rw [v_up_ne (by decide)]; exact h189) (by rw [v_up_ne (by decide)]; exact h190) (by rw [v_up_ne (by decide)]; exact h191) (fun q hq => ?_) hx) (by omega)
      rcases (show q < i ∨ q = i by omega) with h7 | h7
      · rw [v_up_ni (by omega)]; exact h182 q h7
      · rw [h7, v_up_eq]
set_option maxRecDepth 100000 in
set_option maxHeartbeats 4000000 in
theorem ct_arrJ0 (hM : MdS S) {tl : Nat → List p_Li} {cnt : Nat} (hSO : SO cnt (V 171)) (hTO : ∀ i : Nat, (i : Int) < V 171 0 → TO (tl i)) (hMTs : ∀ i : Nat, (i : Int) < V 171 0 → MT V i (tl i)) {form N : Int} {d : Nat} (hf : 0 ≤ form ∧ form ≤ 4) (hN : 0 ≤ N ∧ N ≤ 99) (hd : d ≤ 3) {T : Nat} (hT : T ≤ 4) {td : List Nat} (htd : ∀ i : Nat, i < T → (td.getD i 0 : Int) < V 171 1) {al : Nat} (hal : V 171 5 = (al : Int)) {us : Int} {C : Nat} {dn : List (List Nat)} {p : List Nat} (hpl : p.length = T) (hp : ∀ a ∈ p, a < T) (hdC : dn.length ≤ C) (hC3 : C + 1 ≤ 300) {W : v_V} (hA : AJ V T T td (KPm form N (V 171) tl td T al d) dn p W) (k : ∀ W2, AJ V T T td (KPm form N (V 171) tl td T al d) (dn ++ [p]) p W2 → K u w none S W2) : y_R X 11 163 u w [.ref 170, iv (T : Int), iv us, iv form, iv N, iv (d : Int)] S W K := by
  obtain ⟨h1, h2, h3, h4, h5, h6⟩ := hA
  refine y_ent (lv' := [(0, .ref 170), (1, iv (T : Int)), (2, iv us), (3, iv form), (4, iv N), (5, iv (d : Int))]) (Nat.le_of_ble_eq_true rfl) rfl ?_
  refine y_ld (x := iv (T : Int)) rfl rfl (fun d => rfl) ?_
  refine y_ld (x := .ref 170) rfl rfl (fun d => rfl) ?_
  refine y_gI (i := 37) (e := (T : Int)) rfl rfl rfl (md170 hM) rfl h2 ?_
  refine y_jne rfl rfl rfl (by omega) (fun g1 => absurd rfl g1) (fun g1 => ?_)
  refine y_ld (x := .ref 170) rfl rfl (fun d => rfl) ?_
  refine y_ld (x := .ref 170) rfl rfl (fun d => rfl) ?_
  refine y_gI (i := 37) (e := (T : Int)) rfl rfl rfl (md170 hM) rfl h2 ?_
  refine y_pI (i := 27) rfl rfl rfl (md170 hM) rfl rfl ?_
  refine y_ic rfl rfl ?_
  refine y_st (lv' := [(6, iv 0), (0, .ref 170), (1, iv (T : Int)), (2, iv us), (3, iv form), (4, iv N), (5, iv (d : Int))]) rfl rfl (fun d => rfl) ?_
  refine y_lv (l' := [(0, .ref 170), (1, iv (T : Int)), (2, iv us), (3, iv form), (4, iv N), (5, iv (d : Int)), (6, iv ((0 : Nat) : Int))]) rfl ⟨rfl, rfl, rfl, rfl, rfl, rfl, rfl, trivial⟩ ?_
  have hpe : ∀ q : Nat, q < T → p.getD q 0 < T := fun q hq => hp _ (gd_mem (by omega))
  have h5r : ∀ q : Nat, q < T → 0 ≤ W 190 q ∧ W 190 q < V 171 1 := fun q hq => by rw [h5 q hq]; have := htd _ (hpe q hq); omega
  refine y_mono (lp_thrJ (F := 2000) (V1 := W) hM hSO hTO hMTs hf hN hd hT h5r 5 0 (v_up W 170 27 (T : Int)) (by omega) (by omega) (FrX_tr h1 ⟨fun k hk => v_up_ne (by omega), fun i hi => v_up_ni (by omega)⟩) ⟨v_up_eq _ _ _ _, (v_up_ni (by decide)).trans h2, v_up_ni (by decide)⟩ (v_up_ne (by decide)) (v_up_ne (by decide)) (v_up_ne (by decide)) (fun q hq => absurd hq (by omega)) (fun W1 f1 f2 f3 f4 f5 f6 => ?_)) (by decide)
  refine y_ld (x := .ref 170) rfl rfl (fun d => rfl) ?_
  refine y_ld (x := iv form) rfl rfl (fun d => rfl) ?_
  refine y_ld (x := iv N) rfl rfl (fun d => rfl) ?_
  refine y_ld (x := iv (d : Int)) rfl rfl (fun d => rfl) ?_
  have hsz := hSO.1
  have e171 : W1 171 = V 171 := f1.1 171 (by omega)
  have hcl := cK_le (KPm form N (V 171) tl td T al d) dn
  have hbx : ∀ q : Nat, q < T → (bxs td p).getD q 0 = (W 190 q).toNat := fun q hq => by rw [bxs_gd (by omega), h5 q hq, Int.toNat_natCast]
  have hvt : ∀ q : Nat, q < T → 0 ≤ V 171 (178 + (W 190 q).toNat) ∧ V 171 (178 + (W 190 q).toNat) < V 171 0 := fun q hq => by
    have := h5r q hq
    have := hSO.2.2.1 (W 190 q).toNat (by omega)
    exact ⟨this.2.1.1, this.2.1.2.2 (by omega)⟩
  have hth : ThM W1 T (fun q => tl (V 171 (178 + (bxs td p).getD q 0)).toNat) := ⟨f2.1, fun q hq => ⟨(V 171 (178 + (W 190 q).toNat)).toNat, by have := hvt q hq; omega, by rw [f5 q hq]; have := hvt q hq; omega, by dsimp only; rw [hbx q hq]; exact MT_x (hMTs _ (by have := hvt q hq; omega)) (fun k a b => f1.1 k (by omega))⟩⟩
  have hpq : ∀ q : Nat, q < al → pkO (V 171 (1770 + 4 * q)) (V 171 (1770 + 4 * q + 1)) (V 171 (1770 + 4 * q + 2)) (V 171 (1770 + 4 * q + 3)) := fun q hq => hSO.2.2.2.2.2.2 q (by omega)
  refine y_cV (as := [.ref 170, iv form, iv N, iv (d : Int)]) rfl rfl rfl rfl rfl (md170 hM) ⟨rfl, (Nat.le_of_ble_eq_true rfl), (Nat.le_of_ble_eq_true rfl)⟩ (by decide) (ct_breach (V := W1) (al := al) (ts := (fun q => tl (V 171 (178 + (bxs td p).getD q 0)).toNat)) hM hT (fun q hq => by rw [hbx q hq]; exact hTO _ (by have := hvt q hq; omega)) (by omega) (by rw [e171]; exact hpq) (by omega) (by omega) (by rw [e171]; exact hal) hth (by omega) (fun l v V2 q1 q2 q3 q4 => ?_) (fun q2 V2 q4 => ?_))
  · have hl1 := q2.1
    rw [e171] at q2
    have hKP : ¬ (KPm form N (V 171) tl td T al d) p := fun h => h l q2.1 q1 v q2.2.1 q2.2.2.1
    refine y_nv ?_
    refine y_zne rfl rfl rfl (by omega) (fun g2 => ?_) (fun g2 => absurd g2 (by omega))
    refine y_ret rfl (fun d => rfl) ?_
    have hck : cK (KPm form N (V 171) tl td T al d) (dn ++ [p]) = cK (KPm form N (V 171) tl td T al d) dn + 0 := by rw [cK_app, cK_0 _ hKP]; rfl
    have e37 : V2 170 37 = (T : Int) := by rw [q4.2 37 (by decide)]; exact f2.2.1
    have e38 : V2 170 38 = W 170 38 := by rw [q4.2 38 (by decide)]; exact f2.2.2
    have e189 : V2 189 = W 189 := by rw [q4.1 189 (by decide) (by decide) (by decide) (by decide) (by decide)]; exact f3
    have e190 : V2 190 = W 190 := by rw [q4.1 190 (by decide) (by decide) (by decide) (by decide) (by decide)]; exact f4
    have hfx := FrX_tr f1 (FrX_B q4)
    have e191 : V2 191 = W 191 := by rw [q4.1 191 (by decide) (by decide) (by decide) (by decide) (by decide)]; exact f6
    exact k V2 ⟨hfx, e37, by rw [e38, hck]; omega, by rw [e189]; exact h4, by rw [e190]; exact h5, fun h0 => by rw [hck] at h0; rw [fK_a1 _ _ (by omega), e191]; exact h6 (by omega)⟩
  · rw [e171] at q2
    have hKP : (KPm form N (V 171) tl td T al d) p := q2
    refine y_nv ?_
    refine y_zne rfl rfl rfl (by decide) (fun g3 => absurd g3 (by decide)) (fun g3 => ?_)
    refine y_ic rfl rfl ?_
    refine y_st (lv' := [(6, iv 0), (0, .ref 170), (1, iv (T : Int)), (2, iv us), (3, iv form), (4, iv N), (5, iv (d : Int))]) rfl rfl (fun d => rfl) ?_
    have e37 : V2 170 37 = (T : Int) := by rw [q4.2 37 (by decide)]; exact f2.2.1
    have e38 : V2 170 38 = W 170 38 := by rw [q4.2 38 (by decide)]; exact f2.2.2
    have e189 : V2 189 = W 189 := by rw [q4.1 189 (by decide) (by decide) (by decide) (by decide) (by decide)]; exact f3
    have e190 : V2 190 = W 190 := by rw [q4.1 190 (by decide) (by decide) (by decide) (by decide) (by decide)]; exact f4
    have hfx := FrX_tr f1 (FrX_B q4)
    have e191 : V2 191 = W 191 := by rw [q4.1 191 (by decide) (by decide) (by decide) (by decide) (by decide)]; exact f6
    refine y_lv (l' := [(0, .ref 170), (1, iv (T : Int)), (2, iv us), (3, iv form), (4, iv N), (5, iv (d : Int)), (6, iv ((0 : Nat) : Int))]) rfl ⟨rfl, rfl, rfl, rfl, rfl, rfl, rfl, trivial⟩ ?_
    refine y_mono (lp_fstJ (F := 500) (V1 := V2) hM hT e37 (by rw [e38]; omega) 5 0 V2 (by omega) (by omega) (fun k _ => rfl) (fun _ => rfl) (fun _ q hq => absurd hq (by omega)) (fun W2 w1 w2 w3 => ?_)) (by decide)
    refine y_ld (x := .ref 170) rfl rfl (fun d => rfl) ?_
    refine y_in rfl rfl (fun d => rfl) ?_
    refine y_gI (i := 38) (e := (W 170 38)) rfl rfl rfl (md170 hM) rfl (by rw [w1 170 (by decide)]; exact e38) ?_
    refine y_ic rfl rfl ?_
    refine y_add (z := ((W 170 38) + 1)) rfl rfl rfl ?_
    refine y_pI (i := 38) rfl rfl rfl (md170 hM) rfl rfl ?_
    refine y_ret rfl (fun d => rfl) ?_
    have hck : cK (KPm form N (V 171) tl td T al d) (dn ++ [p]) = cK (KPm form N (V 171) tl td T al d) dn + 1 := by rw [cK_app, cK_1 _ hKP]; rfl
    have t170 : ∀ i : Nat, i ≠ 38 → ((v_up W2 170 38 ((W 170 38) + 1))) 170 i = V2 170 i := fun i hi => by rw [v_up_ni hi, w1 170 (by decide)]
    refine k _ ⟨FrX_tr hfx ⟨fun k hk => by rw [v_up_ne (by omega), w1 k (by omega)], fun i hi => t170 i (by omega)⟩, (t170 37 (by decide)).trans e37, by rw [v_up_eq, hck]; omega, by rw [v_up_ne (by decide), w1 189 (by decide), e189]; exact h4, by rw [v_up_ne (by decide), w1 190 (by decide), e190]; exact h5, fun h0 i hi => ?_⟩
    rw [v_up_ne (by decide)]
    by_cases hc0 : cK (KPm form N (V 171) tl td T al d) dn = 0
    · rw [fK_a0 _ _ hc0, fK_1 _ hKP, w3 (by rw [e38]; omega) i hi, e190]; exact h5 i hi
    · rw [fK_a1 _ _ (by omega), w2 (by rw [e38]; omega), e191]; exact h6 (by omega) i hi
set_option maxRecDepth 100000 in
set_option maxHeartbeats 4000000 in
theorem lp_arrJ (hM : MdS S) {tl : Nat → List p_Li} {cnt : Nat} (hSO : SO cnt (V 171)) (hTO : ∀ i : Nat, (i : Int) < V 171 0 → TO (tl i)) (hMTs : ∀ i : Nat, (i : Int) < V 171 0 → MT V i (tl i)) {form N : Int} {d : Nat} (hf : 0 ≤ form ∧ form ≤ 4) (hN : 0 ≤ N ∧ N ≤ 99) (hd : d ≤ 3) {T : Nat} (hT : T ≤ 4) {td : List Nat} (htd : ∀ i : Nat, i < T → (td.getD i 0 : Int) < V 171 1) {al : Nat} (hal : V 171 5 = (al : Int)) {P : List Nat → Prop} {r n C : Nat} (hnT : n + (r + 1) = T) {us : Int} (hus : 0 ≤ us ∧ us < 65536) {dn : List (List Nat)} {p : List Nat} (hpl : p.length = n) (hp : ∀ a ∈ p, a < T) (hdC : dn.length ≤ C) (hC3 : C + 4 * 4 ^ r ≤ 300) (hrec : qJ X S V form N (d : Int) T td P r (n + 1)) (k : ∀ W2, AJ V T n td P (dn ++ arrI T r p us T) p W2 → K u w none S W2) {F : Nat} : ∀ (m : Nat) (i : Nat) (W : v_V), T - i < m → (i ≤ T) → (AJ V T n td P (dn ++ arrI T r p us i) p W) → y_E X (11 + r) 163 (60 * m + F) u w 122 [(0, .ref 170), (1, iv (n : Int)), (2, iv us), (3, iv form), (4, iv N), (5, iv (d : Int)), (6, iv (i : Int))] [] S W K := by
  intro m
  induction m with
  | zero => intros; omega
  | succ m ih =>
    intro i W hm hI hA 
    refine y_mono (F' := (60 * m + F) + 60) ?_ (by omega)
    refine y_ld (x := iv (i : Int)) rfl rfl (fun d => rfl) ?_
    refine y_ld (x := .ref 170) rfl rfl (fun d => rfl) ?_
    refine y_gI (i := 37) (e := (T : Int)) rfl rfl rfl (md170 hM) rfl hA.2.1 ?_
    refine y_jge rfl rfl rfl (by omega) (fun g1 => ?_) (fun g1 => ?_)
    · refine y_ret rfl (fun d => rfl) ?_
      obtain rfl : i = T := by omega
      exact k W hA
    · have hb01 := v_bit01 us i
      have hA0 := hA
      obtain ⟨h1, h2, h3, h4, h5, h6⟩ := hA0
      have h4i := h4 i (by omega)
      have hti := htd i (by omega)
      have hsz := hSO.1
      have hmu : (i + 1) * 4 ^ r = i * 4 ^ r + 4 ^ r := Nat.succ_mul i (4 ^ r)
      have hm4 : (i + 1) * 4 ^ r ≤ 4 * 4 ^ r := Nat.mul_le_mul_right _ (by omega)
      have hil := arrI_len hT r p us i
      have hu2 := v_o2_lt16 hus (c := i) (by omega)
      refine y_ld (x := iv us) rfl rfl (fun d => rfl) ?_
      refine y_ld (x := iv (i : Int)) rfl rfl (fun d => rfl) ?_
      refine y_op (z := (us / 2 ^ i)) rfl rfl (fun d => rfl) (v_shr (by omega) (by omega)) ?_
      refine y_ic rfl rfl ?_
      refine y_op (z := (us / 2 ^ i % 2)) rfl rfl (fun d => rfl) (v_and1 (Int.ediv_nonneg (by omega) (Int.le_of_lt (v_p2 _)))) ?_
      refine y_zne rfl rfl rfl (by omega) (fun g2 => ?_) (fun g2 => ?_)
      · refine y_inc (z := ((i + 1 : Nat) : Int)) (lv' := [(6, iv ((i + 1 : Nat) : Int)), (0, .ref 170), (1, iv (n : Int)), (2, iv us), (3, iv form), (4, iv N), (5, iv (d : Int))]) rfl rfl rfl (by omega) rfl ?_
        refine y_go rfl rfl ?_
        refine y_lv (l' := [(0, .ref 170), (1, iv (n : Int)), (2, iv us), (3, iv form), (4, iv N), (5, iv (d : Int)), (6, iv ((i + 1 : Nat) : Int))]) rfl ⟨rfl, rfl, rfl, rfl, rfl, rfl, rfl, trivial⟩ ?_
        have e8 : dn ++ arrI T r p us (i + 1) = dn ++ arrI T r p us i := by rw [arrI_s, if_neg (by omega), List.append_nil]
        refine y_mono (ih (i + 1) W (by omega) (by omega) (by rw [e8]; exact hA)) (by omega)
      · refine y_ld (x := .ref 170) rfl rfl (fun d => rfl) ?_
        refine y_gR (i := 35) rfl rfl rfl (md170 hM) rfl ?_
        refine y_ld (x := iv (n : Int)) rfl rfl (fun d => rfl) ?_
        refine y_ld (x := .ref 170) rfl rfl (fun d => rfl) ?_
        refine y_gR (i := 34) rfl rfl rfl (md170 hM) rfl ?_
        refine y_ld (x := iv (i : Int)) rfl rfl (fun d => rfl) ?_
        refine y_ild (x := (W 189 i)) (q := i) rfl rfl (md189 hM) (by omega) (by decide) (by omega) rfl ?_
        refine y_ist (q := n) rfl rfl (md190 hM) (by omega) (by decide) (by omega) ?_
        refine y_ld (x := .ref 170) rfl rfl (fun d => rfl) ?_
        refine y_ld (x := iv (n : Int)) rfl rfl (fun d => rfl) ?_
        refine y_ic rfl rfl ?_
        refine y_add (z := ((n + 1 : Nat) : Int)) rfl rfl (by omega) ?_
        refine y_ld (x := iv us) rfl rfl (fun d => rfl) ?_
        refine y_ic rfl rfl ?_
        refine y_ld (x := iv (i : Int)) rfl rfl (fun d => rfl) ?_
        refine y_op (z := (2 ^ i)) rfl rfl (fun d => rfl) (v_shl1 (k := (i : Int)) (by omega)) ?_
        refine y_op (z := (v_o2 us i)) rfl rfl (fun d => rfl) (v_or_o2 (by omega) i) ?_
        refine y_ld (x := iv form) rfl rfl (fun d => rfl) ?_
        refine y_ld (x := iv N) rfl rfl (fun d => rfl) ?_
        refine y_ld (x := iv (d : Int)) rfl rfl (fun d => rfl) ?_
        have hA1 : AJ V T (n + 1) td P (dn ++ arrI T r p us i) (p ++ [i]) (v_up W 190 n (W 189 i)) := ⟨FrX_tr h1 ⟨fun k hk => v_up_ne (by omega), fun i2 _ => by rw [v_up_ne (by decide)]⟩, by rw [v_up_ne (by decide)]; exact h2, by rw [v_up_ne (by decide)]; exact h3, by rw [v_up_ne (by decide)]; exact h4, fun q hq => by
      rcases (show q < n ∨ q = n by omega) with h7 | h7
      · rw [v_up_ni (by omega), gd_lt (by omega)]; exact h5 q h7
      · rw [h7, v_up_eq, ← hpl, gd_eq]; exact h4i, by rw [v_up_ne (by decide)]; exact h6⟩
        refine y_cV (as := [.ref 170, iv ((n + 1 : Nat) : Int), iv (v_o2 us i), iv form, iv N, iv (d : Int)]) rfl rfl rfl rfl rfl (md170 hM) ⟨rfl, (Nat.le_of_ble_eq_true rfl), (Nat.le_of_ble_eq_true rfl)⟩ (by omega) (hrec (v_o2 us i) (C + i * 4 ^ r) (dn ++ arrI T r p us i) (p ++ [i]) _ _ _ _ hu2.1 hu2.2 (by rw [List.length_append, List.length_singleton]; omega) (fun a ha => by rcases List.mem_append.mp ha with h8 | h8; exact hp a h8; rw [List.mem_singleton.mp h8]; omega) (by rw [List.length_append]; omega) (by omega) hA1 (fun W2 a1 => ?_))
        refine y_n0 ?_
        refine y_inc (z := ((i + 1 : Nat) : Int)) (lv' := [(6, iv ((i + 1 : Nat) : Int)), (0, .ref 170), (1, iv (n : Int)), (2, iv us), (3, iv form), (4, iv N), (5, iv (d : Int))]) rfl rfl rfl (by omega) rfl ?_
        refine y_go rfl rfl ?_
        refine y_lv (l' := [(0, .ref 170), (1, iv (n : Int)), (2, iv us), (3, iv form), (4, iv N), (5, iv (d : Int)), (6, iv ((i + 1 : Nat) : Int))]) rfl ⟨rfl, rfl, rfl, rfl, rfl, rfl, rfl, trivial⟩ ?_
        have e8 : dn ++ arrI T r p us (i + 1) = dn ++ arrI T r p us i ++ arrL T r (p ++ [i]) (v_o2 us i) := by rw [arrI_s, if_pos (by omega), List.append_assoc]
        refine y_mono (ih (i + 1) W2 (by omega) (by omega) (by rw [e8]; exact AJ_n a1 (by omega) (fun q hq => (gd_lt (by omega)).symm))) (by omega)
set_option maxRecDepth 100000 in
set_option maxHeartbeats 4000000 in
theorem ct_arrJ (hM : MdS S) {tl : Nat → List p_Li} {cnt : Nat} (hSO : SO cnt (V 171)) (hTO : ∀ i : Nat, (i : Int) < V 171 0 → TO (tl i)) (hMTs : ∀ i : Nat, (i : Int) < V 171 0 → MT V i (tl i)) {form N : Int} {d : Nat} (hf : 0 ≤ form ∧ form ≤ 4) (hN : 0 ≤ N ∧ N ≤ 99) (hd : d ≤ 3) {T : Nat} (hT : T ≤ 4) {td : List Nat} (htd : ∀ i : Nat, i < T → (td.getD i 0 : Int) < V 171 1) {al : Nat} (hal : V 171 5 = (al : Int)) : ∀ (r n : Nat), n + r = T → qJ X S V form N (d : Int) T td (KPm form N (V 171) tl td T al d) r n
  | 0, n, hn => by
    intro us C dn p W K u w h0 h1 hpl hp hdC hC hA k
    obtain rfl : n = T := by omega
    exact ct_arrJ0 hM hSO hTO hMTs hf hN hd hT htd hal hpl hp hdC hC hA k
  | r + 1, n, hn => by
    intro us C dn p W K u w h0 h1 hpl hp hdC hC hA k
    have hrec : qJ X S V form N (d : Int) T td (KPm form N (V 171) tl td T al d) r (n + 1) := ct_arrJ hM hSO hTO hMTs hf hN hd hT htd hal r (n + 1) (by omega)
    have e4 : 4 ^ (r + 1) = 4 * 4 ^ r := by rw [Nat.pow_succ, Nat.mul_comm]
    rw [e4] at hC
    show y_R X (11 + r + 1) 163 u w _ S W K
    refine y_ent (lv' := [(0, .ref 170), (1, iv (n : Int)), (2, iv us), (3, iv form), (4, iv N), (5, iv (d : Int))]) (Nat.le_of_ble_eq_true rfl) rfl ?_
    refine y_ld (x := iv (n : Int)) rfl rfl (fun d => rfl) ?_
    refine y_ld (x := .ref 170) rfl rfl (fun d => rfl) ?_
    refine y_gI (i := 37) (e := (T : Int)) rfl rfl rfl (md170 hM) rfl hA.2.1 ?_
    refine y_jne rfl rfl rfl (by omega) (fun g1 => ?_) (fun g1 => absurd g1 (by omega))
    refine y_ic rfl rfl ?_
    refine y_st (lv' := [(6, iv 0), (0, .ref 170), (1, iv (n : Int)), (2, iv us), (3, iv form), (4, iv N), (5, iv (d : Int))]) rfl rfl (fun d => rfl) ?_
    refine y_lv (l' := [(0, .ref 170), (1, iv (n : Int)), (2, iv us), (3, iv form), (4, iv N), (5, iv (d : Int)), (6, iv ((0 : Nat) : Int))]) rfl ⟨rfl, rfl, rfl, rfl, rfl, rfl, rfl, trivial⟩ ?_
    exact y_mono (lp_arrJ (F := 100) hM hSO hTO hMTs hf hN hd hT htd hal hn ⟨h0, h1⟩ hpl hp hdC hC hrec (fun W2 h => k W2 h) 5 0 W (by omega) (by omega) (by rw [show arrI T r p us 0 = [] from rfl, List.append_nil]; exact hA)) (by decide)
end
