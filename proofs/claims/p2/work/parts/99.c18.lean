/-! who leads what: the loops over boxes and talks -/
section
variable {X : Nat → List Int32} {u w : Nat} {S : m_H} {V : v_V} {K : v_K}
def z_na (f : Nat → Int) (x : Int) : Nat → Int
  | 0 => 0
  | n + 1 => z_na f x n + (if f n = x then 0 else 1)
theorem z_na_e {f : Nat → Int} {x : Int} {n : Nat} (h : f n = x) : z_na f x (n + 1) = z_na f x n := by
  show z_na f x n + (if f n = x then 0 else 1) = _
  rw [if_pos h]; omega
theorem z_na_n {f : Nat → Int} {x : Int} {n : Nat} (h : f n ≠ x) : z_na f x (n + 1) = z_na f x n + 1 := by
  show z_na f x n + (if f n = x then 0 else 1) = _
  rw [if_neg h]
theorem z_na_lt (f : Nat → Int) (x : Int) (n : Nat) : 0 ≤ z_na f x n ∧ z_na f x n ≤ n := by
  induction n with
  | zero => exact ⟨Int.le_refl 0, Int.le_refl 0⟩
  | succ n ih =>
    have e : z_na f x (n + 1) = z_na f x n + (if f n = x then 0 else 1) := rfl
    rw [e]
    split <;> omega
theorem z_na_c {f g : Nat → Int} {x : Int} {n : Nat} (h : ∀ i, i < n → f i = g i) : z_na f x n = z_na g x n := by
  induction n with
  | zero => rfl
  | succ n ih =>
    show z_na f x n + (if f n = x then 0 else 1) = z_na g x n + (if g n = x then 0 else 1)
    rw [ih (fun i hi => h i (by omega)), h n (by omega)]
set_option maxRecDepth 100000 in
set_option maxHeartbeats 4000000 in
theorem lp_leadsTo (hC : ClF S) {b : Nat} (hb : b < 8) {x : Int} (hx : (-2147483648 ≤ x ∧ x < 2147483648)) (hL : ∀ t : Nat, t < 16 → 0 ≤ V (10 + 6 * b + 1) t ∧ V (10 + 6 * b + 1) t ≤ 7) (k1 : (∃ t : Nat, t < 16 ∧ V (10 + 6 * b + 1) t = x) → K u w (some (iv 1)) S V) (k0 : (∀ t : Nat, t < 16 → V (10 + 6 * b + 1) t ≠ x) → K u w (some (iv 0)) S V) {F : Nat} : ∀ (m : Nat) (i : Nat), 16 - i < m → (i ≤ 16) → (∀ t : Nat, t < i → V (10 + 6 * b + 1) t ≠ x) → y_E X 0 5 (20 * m + F) u w 2 [(0, .ref (10 + 6 * b)), (1, iv x), (2, iv (i : Int))] [] S V K := by
  intro m
  induction m with
  | zero => intros; omega
  | succ m ih =>
    intro i hm hI hJ 
    refine y_mono (F' := (20 * m + F) + 20) ?_ (by omega)
    refine y_ld (x := iv (i : Int)) rfl rfl (fun d => rfl) ?_
    refine y_bi rfl rfl (by decide) ?_
    refine y_jge rfl rfl rfl (by omega) (fun g1 => ?_) (fun g1 => ?_)
    · refine y_ic rfl rfl ?_
      refine y_rI rfl (by decide) ?_
      exact k0 (fun t ht => hJ t (by omega))
    · have hq := hL i (by omega)
      refine y_ld (x := .ref (10 + 6 * b)) rfl rfl (fun d => rfl) ?_
      refine y_gR (i := 5) rfl rfl rfl (bx_ob hC (i := b) (by omega)) rfl ?_
      refine y_ld (x := iv (i : Int)) rfl rfl (fun d => rfl) ?_
      refine y_ild (x := (V (10 + 6 * b + 1) i)) (q := i) rfl rfl (bx_led hC (i := b) (by omega)) (by omega) (by decide) (by omega) rfl ?_
      refine y_ld (x := iv x) rfl rfl (fun d => rfl) ?_
      refine y_jne rfl rfl rfl (by omega) (fun g2 => ?_) (fun g2 => ?_)
      · refine y_inc (z := ((i + 1 : Nat) : Int)) (lv' := [(2, iv ((i + 1 : Nat) : Int)), (0, .ref (10 + 6 * b)), (1, iv x)]) rfl rfl rfl (by omega) rfl ?_
        refine y_go rfl rfl ?_
        refine y_lv (l' := [(0, .ref (10 + 6 * b)), (1, iv x), (2, iv ((i + 1 : Nat) : Int))]) rfl ⟨rfl, rfl, rfl, trivial⟩ ?_
        exact y_mono (ih (i + 1) (by omega) (by omega) (fun t ht => by rcases (show t < i ∨ t = i by omega) with h | h <;> first | exact hJ t h | (rw [h]; omega))) (by omega)
      · refine y_ic rfl rfl ?_
        refine y_rI rfl (by decide) ?_
        exact k1 ⟨i, by omega, by omega⟩
set_option maxRecDepth 100000 in
set_option maxHeartbeats 4000000 in
theorem cb_leadsTo (hC : ClF S) {b : Nat} (hb : b < 8) {x : Int} (hx : (-2147483648 ≤ x ∧ x < 2147483648)) (hL : ∀ t : Nat, t < 16 → 0 ≤ V (10 + 6 * b + 1) t ∧ V (10 + 6 * b + 1) t ≤ 7) (k1 : (∃ t : Nat, t < 16 ∧ V (10 + 6 * b + 1) t = x) → K u w (some (iv 1)) S V) (k0 : (∀ t : Nat, t < 16 → V (10 + 6 * b + 1) t ≠ x) → K u w (some (iv 0)) S V) : y_R X 1 5 u w [.ref (10 + 6 * b), iv x] S V K := by
  refine y_ent (lv' := [(0, .ref (10 + 6 * b)), (1, iv x)]) (Nat.le_of_ble_eq_true rfl) rfl ?_
  refine y_ic rfl rfl ?_
  refine y_st (lv' := [(2, iv 0), (0, .ref (10 + 6 * b)), (1, iv x)]) rfl rfl (fun d => rfl) ?_
  refine y_lv (l' := [(0, .ref (10 + 6 * b)), (1, iv x), (2, iv 0)]) rfl ⟨rfl, rfl, rfl, trivial⟩ ?_
  exact y_mono (lp_leadsTo (F := 100) hC hb hx hL k1 k0 17 0 (by omega) (by omega) (fun t ht => absurd ht (Nat.not_lt_zero t))) (by decide)
set_option maxRecDepth 100000 in
set_option maxHeartbeats 4000000 in
theorem lp_isInRow (hC : ClF S) {x : Int} (hx : (-2147483648 ≤ x ∧ x < 2147483648)) (hn : 0 ≤ V 1 7 ∧ V 1 7 ≤ 6) (hL : ∀ t : Nat, t < 6 → 0 ≤ V 5 t ∧ V 5 t ≤ 7) (k1 : (∃ t : Nat, (t : Int) < V 1 7 ∧ V 5 t = x) → K u w (some (iv 1)) S V) (k0 : (∀ t : Nat, (t : Int) < V 1 7 → V 5 t ≠ x) → K u w (some (iv 0)) S V) {F : Nat} : ∀ (m : Nat) (i : Nat), 6 - i < m → ((i : Int) ≤ V 1 7) → (∀ t : Nat, t < i → V 5 t ≠ x) → y_E X 0 45 (20 * m + F) u w 2 [(0, .ref 1), (1, iv x), (2, iv (i : Int))] [] S V K := by
  intro m
  induction m with
  | zero => intros; omega
  | succ m ih =>
    intro i hm hI hJ 
    refine y_mono (F' := (20 * m + F) + 20) ?_ (by omega)
    refine y_ld (x := iv (i : Int)) rfl rfl (fun d => rfl) ?_
    refine y_ld (x := .ref 1) rfl rfl (fun d => rfl) ?_
    refine y_gI (i := 7) (e := (V 1 7)) rfl rfl rfl (hC 1 _ _ rfl) rfl rfl ?_
    refine y_jge rfl rfl rfl (by omega) (fun g1 => ?_) (fun g1 => ?_)
    · refine y_ic rfl rfl ?_
      refine y_rI rfl (by decide) ?_
      exact k0 (fun t ht => hJ t (by omega))
    · have hq := hL i (by omega)
      refine y_ld (x := .ref 1) rfl rfl (fun d => rfl) ?_
      refine y_gR (i := 6) rfl rfl rfl (hC 1 _ _ rfl) rfl ?_
      refine y_ld (x := iv (i : Int)) rfl rfl (fun d => rfl) ?_
      refine y_ild (x := (V 5 i)) (q := i) rfl rfl (cl_ia hC (k := 5) (N := 6) rfl) (by omega) (by decide) (by omega) rfl ?_
      refine y_ld (x := iv x) rfl rfl (fun d => rfl) ?_
      refine y_jne rfl rfl rfl (by omega) (fun g2 => ?_) (fun g2 => ?_)
      · refine y_inc (z := ((i + 1 : Nat) : Int)) (lv' := [(2, iv ((i + 1 : Nat) : Int)), (0, .ref 1), (1, iv x)]) rfl rfl rfl (by omega) rfl ?_
        refine y_go rfl rfl ?_
        refine y_lv (l' := [(0, .ref 1), (1, iv x), (2, iv ((i + 1 : Nat) : Int))]) rfl ⟨rfl, rfl, rfl, trivial⟩ ?_
        exact y_mono (ih (i + 1) (by omega) (by omega) (fun t ht => by rcases (show t < i ∨ t = i by omega) with h | h <;> first | exact hJ t h | (rw [h]; omega))) (by omega)
      · refine y_ic rfl rfl ?_
        refine y_rI rfl (by decide) ?_
        exact k1 ⟨i, by omega, by omega⟩
set_option maxRecDepth 100000 in
set_option maxHeartbeats 4000000 in
theorem cb_isInRow (hC : ClF S) {x : Int} (hx : (-2147483648 ≤ x ∧ x < 2147483648)) (hn : 0 ≤ V 1 7 ∧ V 1 7 ≤ 6) (hL : ∀ t : Nat, t < 6 → 0 ≤ V 5 t ∧ V 5 t ≤ 7) (k1 : (∃ t : Nat, (t : Int) < V 1 7 ∧ V 5 t = x) → K u w (some (iv 1)) S V) (k0 : (∀ t : Nat, (t : Int) < V 1 7 → V 5 t ≠ x) → K u w (some (iv 0)) S V) : y_R X 1 45 u w [.ref 1, iv x] S V K := by
  refine y_ent (lv' := [(0, .ref 1), (1, iv x)]) (Nat.le_of_ble_eq_true rfl) rfl ?_
  refine y_ic rfl rfl ?_
  refine y_st (lv' := [(2, iv 0), (0, .ref 1), (1, iv x)]) rfl rfl (fun d => rfl) ?_
  refine y_lv (l' := [(0, .ref 1), (1, iv x), (2, iv 0)]) rfl ⟨rfl, rfl, rfl, trivial⟩ ?_
  exact y_mono (lp_isInRow (F := 100) hC hx hn hL k1 k0 7 0 (by omega) (by omega) (fun t ht => absurd ht (Nat.not_lt_zero t))) (by decide)
set_option maxRecDepth 100000 in
set_option maxHeartbeats 4000000 in
theorem lp_ledAway (hC : ClF S) {b : Nat} (hb : b < 8) (hx : 0 ≤ V (10 + 6 * b) 0 ∧ V (10 + 6 * b) 0 ≤ 7) (hL : ∀ t : Nat, t < 16 → 0 ≤ V (10 + 6 * b + 1) t ∧ V (10 + 6 * b + 1) t ≤ 7) (k : K u w (some (iv (z_na (V (10 + 6 * b + 1)) (V (10 + 6 * b) 0) 16))) S V) {F : Nat} : ∀ (m : Nat) (i : Nat), 16 - i < m → (i ≤ 16) → y_E X 0 4 (24 * m + F) u w 4 [(0, .ref (10 + 6 * b)), (1, iv (z_na (V (10 + 6 * b + 1)) (V (10 + 6 * b) 0) i)), (2, iv (i : Int))] [] S V K := by
  intro m
  induction m with
  | zero => intros; omega
  | succ m ih =>
    intro i hm hI 
    refine y_mono (F' := (24 * m + F) + 24) ?_ (by omega)
    refine y_ld (x := iv (i : Int)) rfl rfl (fun d => rfl) ?_
    refine y_bi rfl rfl (by decide) ?_
    refine y_jge rfl rfl rfl (by omega) (fun g1 => ?_) (fun g1 => ?_)
    · obtain rfl : i = 16 := by omega
      have hqz := z_na_lt (V (10 + 6 * b + 1)) (V (10 + 6 * b) 0) 16
      refine y_ld (x := iv (z_na (V (10 + 6 * b + 1)) (V (10 + 6 * b) 0) 16)) rfl rfl (fun d => rfl) ?_
      refine y_rI rfl (Or.inl rfl) ?_
      exact k
    · have hq := hL i (by omega)
      have hqz := z_na_lt (V (10 + 6 * b + 1)) (V (10 + 6 * b) 0) i
      refine y_ld (x := .ref (10 + 6 * b)) rfl rfl (fun d => rfl) ?_
      refine y_gR (i := 5) rfl rfl rfl (bx_ob hC (i := b) (by omega)) rfl ?_
      refine y_ld (x := iv (i : Int)) rfl rfl (fun d => rfl) ?_
      refine y_ild (x := (V (10 + 6 * b + 1) i)) (q := i) rfl rfl (bx_led hC (i := b) (by omega)) (by omega) (by decide) (by omega) rfl ?_
      refine y_ld (x := .ref (10 + 6 * b)) rfl rfl (fun d => rfl) ?_
      refine y_gI (i := 0) (e := (V (10 + 6 * b) 0)) rfl rfl rfl (bx_ob hC (i := b) (by omega)) rfl rfl ?_
      refine y_jeq rfl rfl rfl (by omega) (fun g2 => ?_) (fun g2 => ?_)
      · refine y_inc (z := ((i + 1 : Nat) : Int)) (lv' := [(2, iv ((i + 1 : Nat) : Int)), (0, .ref (10 + 6 * b)), (1, iv (z_na (V (10 + 6 * b + 1)) (V (10 + 6 * b) 0) i))]) rfl rfl rfl (by omega) rfl ?_
        refine y_go rfl rfl ?_
        have hz := z_na_e (f := (V (10 + 6 * b + 1))) (x := (V (10 + 6 * b) 0)) (n := i) (by omega)
        refine y_lv (l' := [(0, .ref (10 + 6 * b)), (1, iv (z_na (V (10 + 6 * b + 1)) (V (10 + 6 * b) 0) (i + 1))), (2, iv ((i + 1 : Nat) : Int))]) rfl ⟨rfl, congrArg (fun e => some (iv e)) hz.symm, rfl, trivial⟩ ?_
        exact y_mono (ih (i + 1) (by omega) (by omega)) (by omega)
      · have hz := z_na_n (f := (V (10 + 6 * b + 1))) (x := (V (10 + 6 * b) 0)) (n := i) (by omega)
        refine y_inc (z := (z_na (V (10 + 6 * b + 1)) (V (10 + 6 * b) 0) (i + 1))) (lv' := [(1, iv (z_na (V (10 + 6 * b + 1)) (V (10 + 6 * b) 0) (i + 1))), (0, .ref (10 + 6 * b)), (2, iv (i : Int))]) rfl rfl rfl (by omega) rfl ?_
        refine y_inc (z := ((i + 1 : Nat) : Int)) (lv' := [(2, iv ((i + 1 : Nat) : Int)), (1, iv (z_na (V (10 + 6 * b + 1)) (V (10 + 6 * b) 0) (i + 1))), (0, .ref (10 + 6 * b))]) rfl rfl rfl (by omega) rfl ?_
        refine y_go rfl rfl ?_
        refine y_lv (l' := [(0, .ref (10 + 6 * b)), (1, iv (z_na (V (10 + 6 * b + 1)) (V (10 + 6 * b) 0) (i + 1))), (2, iv ((i + 1 : Nat) : Int))]) rfl ⟨rfl, rfl, rfl, trivial⟩ ?_
        exact y_mono (ih (i + 1) (by omega) (by omega)) (by omega)
set_option maxRecDepth 100000 in
set_option maxHeartbeats 4000000 in
theorem cb_ledAway (hC : ClF S) {b : Nat} (hb : b < 8) (hx : 0 ≤ V (10 + 6 * b) 0 ∧ V (10 + 6 * b) 0 ≤ 7) (hL : ∀ t : Nat, t < 16 → 0 ≤ V (10 + 6 * b + 1) t ∧ V (10 + 6 * b + 1) t ≤ 7) (k : K u w (some (iv (z_na (V (10 + 6 * b + 1)) (V (10 + 6 * b) 0) 16))) S V) : y_R X 1 4 u w [.ref (10 + 6 * b)] S V K := by
  refine y_ent (lv' := [(0, .ref (10 + 6 * b))]) (Nat.le_of_ble_eq_true rfl) rfl ?_
  refine y_ic rfl rfl ?_
  refine y_st (lv' := [(1, iv 0), (0, .ref (10 + 6 * b))]) rfl rfl (fun d => rfl) ?_
  refine y_ic rfl rfl ?_
  refine y_st (lv' := [(2, iv 0), (1, iv 0), (0, .ref (10 + 6 * b))]) rfl rfl (fun d => rfl) ?_
  refine y_lv (l' := [(0, .ref (10 + 6 * b)), (1, iv (z_na (V (10 + 6 * b + 1)) (V (10 + 6 * b) 0) 0)), (2, iv ((0 : Nat) : Int))]) rfl ⟨rfl, rfl, rfl, trivial⟩ ?_
  exact y_mono (lp_ledAway (F := 100) hC hb hx hL k 17 0 (by omega) (by omega)) (by decide)
set_option maxRecDepth 100000 in
set_option maxHeartbeats 4000000 in
theorem lp_isLedTo (hC : ClF S) {x : Int} (hx : (-2147483648 ≤ x ∧ x < 2147483648)) (hB : 0 ≤ V 1 5 ∧ V 1 5 ≤ 8) (hL : ∀ b : Nat, (b : Int) < V 1 5 → ∀ t : Nat, t < 16 → 0 ≤ V (10 + 6 * b + 1) t ∧ V (10 + 6 * b + 1) t ≤ 7) (k1 : (∃ b : Nat, (b : Int) < V 1 5 ∧ (b : Int) ≠ x ∧ ∃ t : Nat, t < 16 ∧ V (10 + 6 * b + 1) t = x) → K u w (some (iv 1)) S V) (k0 : (∀ b : Nat, (b : Int) < V 1 5 → (b : Int) ≠ x → ∀ t : Nat, t < 16 → V (10 + 6 * b + 1) t ≠ x) → K u w (some (iv 0)) S V) {F : Nat} : ∀ (m : Nat) (i : Nat), 8 - i < m → ((i : Int) ≤ V 1 5) → (∀ b : Nat, b < i → (b : Int) ≠ x → ∀ t : Nat, t < 16 → V (10 + 6 * b + 1) t ≠ x) → y_E X 1 46 (600 * m + F) u w 2 [(0, .ref 1), (1, iv x), (2, iv (i : Int))] [] S V K := by
  intro m
  induction m with
  | zero => intros; omega
  | succ m ih =>
    intro i hm hI hJ 
    refine y_mono (F' := (600 * m + F) + 600) ?_ (by omega)
    refine y_ld (x := iv (i : Int)) rfl rfl (fun d => rfl) ?_
    refine y_ld (x := .ref 1) rfl rfl (fun d => rfl) ?_
    refine y_gI (i := 5) (e := (V 1 5)) rfl rfl rfl (hC 1 _ _ rfl) rfl rfl ?_
    refine y_jge rfl rfl rfl (by omega) (fun g1 => ?_) (fun g1 => ?_)
    · refine y_ic rfl rfl ?_
      refine y_rI rfl (by decide) ?_
      exact k0 (fun b hb => hJ b (by omega))
    · refine y_ld (x := iv (i : Int)) rfl rfl (fun d => rfl) ?_
      refine y_ld (x := iv x) rfl rfl (fun d => rfl) ?_
      refine y_jeq rfl rfl rfl (by omega) (fun g2 => ?_) (fun g2 => ?_)
      · refine y_inc (z := ((i + 1 : Nat) : Int)) (lv' := [(2, iv ((i + 1 : Nat) : Int)), (0, .ref 1), (1, iv x)]) rfl rfl rfl (by omega) rfl ?_
        refine y_go rfl rfl ?_
        refine y_lv (l' := [(0, .ref 1), (1, iv x), (2, iv ((i + 1 : Nat) : Int))]) rfl ⟨rfl, rfl, rfl, trivial⟩ ?_
        exact y_mono (ih (i + 1) (by omega) (by omega) (fun b hb hbx => by rcases (show b < i ∨ b = i by omega) with h | h <;> first | exact hJ b h hbx | (exfalso; omega))) (by omega)
      · obtain ⟨vs, hb1, hb2⟩ := bx_ref hC (i := i) (by omega)
        refine y_ld (x := .ref 1) rfl rfl (fun d => rfl) ?_
        refine y_gR (i := 4) rfl rfl rfl (hC 1 _ _ rfl) rfl ?_
        refine y_ld (x := iv (i : Int)) rfl rfl (fun d => rfl) ?_
        refine y_rld (i := i) (x := 10 + 6 * i) rfl rfl hb1 (by decide) (by omega) (by omega) hb2 ?_
        refine y_ld (x := iv x) rfl rfl (fun d => rfl) ?_
        refine y_cV (as := [.ref (10 + 6 * i), iv x]) rfl rfl rfl rfl rfl (bx_ob hC (i := i) (by omega)) ⟨rfl, (Nat.le_of_ble_eq_true rfl), (Nat.le_of_ble_eq_true rfl)⟩ (by decide) (cb_leadsTo (b := i) hC (by omega) hx (hL i (by omega)) (fun q1 => ?_) (fun q1 => ?_))
        · refine y_nv ?_
          refine y_zeq rfl rfl rfl (by decide) (fun g3 => absurd g3 (by decide)) (fun g3 => ?_)
          refine y_ic rfl rfl ?_
          refine y_rI rfl (by decide) ?_
          exact k1 ⟨i, by omega, by omega, q1⟩
        · refine y_nv ?_
          refine y_zeq rfl rfl rfl (by decide) (fun g4 => ?_) (fun g4 => absurd g4 (by decide))
          refine y_inc (z := ((i + 1 : Nat) : Int)) (lv' := [(2, iv ((i + 1 : Nat) : Int)), (0, .ref 1), (1, iv x)]) rfl rfl rfl (by omega) rfl ?_
          refine y_go rfl rfl ?_
          refine y_lv (l' := [(0, .ref 1), (1, iv x), (2, iv ((i + 1 : Nat) : Int))]) rfl ⟨rfl, rfl, rfl, trivial⟩ ?_
          exact y_mono (ih (i + 1) (by omega) (by omega) (fun b hb hbx => by rcases (show b < i ∨ b = i by omega) with h | h <;> first | exact hJ b h hbx | (rw [h]; exact q1))) (by omega)
set_option maxRecDepth 100000 in
set_option maxHeartbeats 4000000 in
theorem cb_isLedTo (hC : ClF S) {x : Int} (hx : (-2147483648 ≤ x ∧ x < 2147483648)) (hB : 0 ≤ V 1 5 ∧ V 1 5 ≤ 8) (hL : ∀ b : Nat, (b : Int) < V 1 5 → ∀ t : Nat, t < 16 → 0 ≤ V (10 + 6 * b + 1) t ∧ V (10 + 6 * b + 1) t ≤ 7) (k1 : (∃ b : Nat, (b : Int) < V 1 5 ∧ (b : Int) ≠ x ∧ ∃ t : Nat, t < 16 ∧ V (10 + 6 * b + 1) t = x) → K u w (some (iv 1)) S V) (k0 : (∀ b : Nat, (b : Int) < V 1 5 → (b : Int) ≠ x → ∀ t : Nat, t < 16 → V (10 + 6 * b + 1) t ≠ x) → K u w (some (iv 0)) S V) : y_R X 2 46 u w [.ref 1, iv x] S V K := by
  refine y_ent (lv' := [(0, .ref 1), (1, iv x)]) (Nat.le_of_ble_eq_true rfl) rfl ?_
  refine y_ic rfl rfl ?_
  refine y_st (lv' := [(2, iv 0), (0, .ref 1), (1, iv x)]) rfl rfl (fun d => rfl) ?_
  refine y_lv (l' := [(0, .ref 1), (1, iv x), (2, iv 0)]) rfl ⟨rfl, rfl, rfl, trivial⟩ ?_
  exact y_mono (lp_isLedTo (F := 100) hC hx hB hL k1 k0 9 0 (by omega) (by omega) (fun t ht => absurd ht (Nat.not_lt_zero t))) (by decide)
end
