section
/-! who leads what, in the reference -/
section
variable {X : Nat → List Int32} {u w : Nat} {S : m_H} {V : v_V} {K : v_K}
set_option maxRecDepth 100000 in
set_option maxHeartbeats 4000000 in
theorem lq_leading (hM : MdS S) {x : Int} (hx : 0 ≤ x ∧ x < 8) (hL : ∀ t : Nat, t < 16 → 0 ≤ V 171 (1552 + 16 * x.toNat + t) ∧ V 171 (1552 + 16 * x.toNat + t) ≤ 7) (k : K u w (some (iv (z_na (fun t : Nat => V 171 (1552 + 16 * x.toNat + t)) x 16))) S V) {F : Nat} : ∀ (m : Nat) (i : Nat), 16 - i < m → (i ≤ 16) → y_E X 0 140 (28 * m + F) u w 4 [(0, .ref 170), (1, iv x), (2, iv (z_na (fun t : Nat => V 171 (1552 + 16 * x.toNat + t)) x i)), (3, iv (i : Int))] [] S V K := by
  intro m
  induction m with
  | zero => intros; omega
  | succ m ih =>
    intro i hm hI 
    refine y_mono (F' := (28 * m + F) + 28) ?_ (by omega)
    refine y_ld (x := iv (i : Int)) rfl rfl (fun d => rfl) ?_
    refine y_bi rfl rfl (by decide) ?_
    refine y_jge rfl rfl rfl (by omega) (fun g1 => ?_) (fun g1 => ?_)
    · obtain rfl : i = 16 := by omega
      have hqz := z_na_lt (fun t : Nat => V 171 (1552 + 16 * x.toNat + t)) x 16
      refine y_ld (x := iv (z_na (fun t : Nat => V 171 (1552 + 16 * x.toNat + t)) x 16)) rfl rfl (fun d => rfl) ?_
      refine y_rI rfl (Or.inl rfl) ?_
      exact k
    · have hq := hL i (by omega)
      have hqz := z_na_lt (fun t : Nat => V 171 (1552 + 16 * x.toNat + t)) x i
      refine y_ld (x := iv (z_na (fun t : Nat => V 171 (1552 + 16 * x.toNat + t)) x i)) rfl rfl (fun d => rfl) ?_
      refine y_ld (x := .ref 170) rfl rfl (fun d => rfl) ?_
      refine y_gR (i := 1) rfl rfl rfl (md170 hM) rfl ?_
      refine y_si rfl rfl (by decide) ?_
      refine y_bi rfl rfl (by decide) ?_
      refine y_ld (x := iv x) rfl rfl (fun d => rfl) ?_
      refine y_mul (z := (16 * x)) rfl rfl rfl ?_
      refine y_add (z := (1552 + (16 * x))) rfl rfl rfl ?_
      refine y_ld (x := iv (i : Int)) rfl rfl (fun d => rfl) ?_
      refine y_add (z := ((1552 + (16 * x)) + (i : Int))) rfl rfl rfl ?_
      refine y_ild (x := (V 171 (1552 + 16 * x.toNat + i))) (q := (1552 + 16 * x.toNat + i)) rfl rfl (md171 hM) (by omega) (by decide) (by omega) rfl ?_
      refine y_ld (x := iv x) rfl rfl (fun d => rfl) ?_
      refine y_jne rfl rfl rfl (by omega) (fun g2 => ?_) (fun g2 => ?_)
      · have hz := z_na_n (f := (fun t : Nat => V 171 (1552 + 16 * x.toNat + t))) (x := x) (n := i) (by show V 171 (1552 + 16 * x.toNat + i) ≠ x; omega)
        refine y_ic rfl rfl ?_
        refine y_add (z := (z_na (fun t : Nat => V 171 (1552 + 16 * x.toNat + t)) x (i + 1))) rfl rfl (by omega) ?_
        refine y_st (lv' := [(2, iv (z_na (fun t : Nat => V 171 (1552 + 16 * x.toNat + t)) x (i + 1))), (0, .ref 170), (1, iv x), (3, iv (i : Int))]) rfl rfl (fun d => rfl) ?_
        refine y_inc (z := ((i + 1 : Nat) : Int)) (lv' := [(3, iv ((i + 1 : Nat) : Int)), (2, iv (z_na (fun t : Nat => V 171 (1552 + 16 * x.toNat + t)) x (i + 1))), (0, .ref 170), (1, iv x)]) rfl rfl rfl (by omega) rfl ?_
        refine y_go rfl rfl ?_
        refine y_lv (l' := [(0, .ref 170), (1, iv x), (2, iv (z_na (fun t : Nat => V 171 (1552 + 16 * x.toNat + t)) x (i + 1))), (3, iv ((i + 1 : Nat) : Int))]) rfl ⟨rfl, rfl, rfl, rfl, trivial⟩ ?_
        exact y_mono (ih (i + 1) (by omega) (by omega)) (by omega)
      · have hz := z_na_e (f := (fun t : Nat => V 171 (1552 + 16 * x.toNat + t))) (x := x) (n := i) (by show V 171 (1552 + 16 * x.toNat + i) = x; omega)
        refine y_ic rfl rfl ?_
        refine y_go rfl rfl ?_
        refine y_add (z := (z_na (fun t : Nat => V 171 (1552 + 16 * x.toNat + t)) x (i + 1))) rfl rfl (by omega) ?_
        refine y_st (lv' := [(2, iv (z_na (fun t : Nat => V 171 (1552 + 16 * x.toNat + t)) x (i + 1))), (0, .ref 170), (1, iv x), (3, iv (i : Int))]) rfl rfl (fun d => rfl) ?_
        refine y_inc (z := ((i + 1 : Nat) : Int)) (lv' := [(3, iv ((i + 1 : Nat) : Int)), (2, iv (z_na (fun t : Nat => V 171 (1552 + 16 * x.toNat + t)) x (i + 1))), (0, .ref 170), (1, iv x)]) rfl rfl rfl (by omega) rfl ?_
        refine y_go rfl rfl ?_
        refine y_lv (l' := [(0, .ref 170), (1, iv x), (2, iv (z_na (fun t : Nat => V 171 (1552 + 16 * x.toNat + t)) x (i + 1))), (3, iv ((i + 1 : Nat) : Int))]) rfl ⟨rfl, rfl, rfl, rfl, trivial⟩ ?_
        exact y_mono (ih (i + 1) (by omega) (by omega)) (by omega)
set_option maxRecDepth 100000 in
set_option maxHeartbeats 4000000 in
theorem ct_leading (hM : MdS S) {x : Int} (hx : 0 ≤ x ∧ x < 8) (hL : ∀ t : Nat, t < 16 → 0 ≤ V 171 (1552 + 16 * x.toNat + t) ∧ V 171 (1552 + 16 * x.toNat + t) ≤ 7) (k : K u w (some (iv (z_na (fun t : Nat => V 171 (1552 + 16 * x.toNat + t)) x 16))) S V) : y_R X 1 140 u w [.ref 170, iv x] S V K := by
  refine y_ent (lv' := [(0, .ref 170), (1, iv x)]) (Nat.le_of_ble_eq_true rfl) rfl ?_
  refine y_ic rfl rfl ?_
  refine y_st (lv' := [(2, iv 0), (0, .ref 170), (1, iv x)]) rfl rfl (fun d => rfl) ?_
  refine y_ic rfl rfl ?_
  refine y_st (lv' := [(3, iv 0), (2, iv 0), (0, .ref 170), (1, iv x)]) rfl rfl (fun d => rfl) ?_
  refine y_lv (l' := [(0, .ref 170), (1, iv x), (2, iv (z_na (fun t : Nat => V 171 (1552 + 16 * x.toNat + t)) x 0)), (3, iv ((0 : Nat) : Int))]) rfl ⟨rfl, rfl, rfl, rfl, trivial⟩ ?_
  exact y_mono (lq_leading (F := 100) hM hx hL k 17 0 (by omega) (by omega)) (by decide)
set_option maxRecDepth 100000 in
set_option maxHeartbeats 4000000 in
theorem lq_isInRow (hM : MdS S) {x : Int} (hx : (-2147483648 ≤ x ∧ x < 2147483648)) (hn : 0 ≤ V 171 2 ∧ V 171 2 ≤ 6) (hL : ∀ t : Nat, t < 6 → 0 ≤ V 171 (1680 + t) ∧ V 171 (1680 + t) ≤ 7) (k1 : (∃ t : Nat, (t : Int) < V 171 2 ∧ V 171 (1680 + t) = x) → K u w (some (iv 1)) S V) (k0 : (∀ t : Nat, (t : Int) < V 171 2 → V 171 (1680 + t) ≠ x) → K u w (some (iv 0)) S V) {F : Nat} : ∀ (m : Nat) (r : Int) (i : Nat), 6 - i < m → ((i : Int) ≤ V 171 2) → (0 ≤ r ∧ r ≤ 1) → ((r = 1 ∧ ∃ t : Nat, (t : Int) < V 171 2 ∧ V 171 (1680 + t) = x) ∨ (r = 0 ∧ ∀ t : Nat, t < i → V 171 (1680 + t) ≠ x)) → y_E X 0 145 (28 * m + F) u w 4 [(0, .ref 170), (1, iv x), (2, iv r), (3, iv (i : Int))] [] S V K := by
  intro m
  induction m with
  | zero => intros; omega
  | succ m ih =>
    intro r i hm hI hr hJ 
    refine y_mono (F' := (28 * m + F) + 28) ?_ (by omega)
    refine y_ld (x := iv (i : Int)) rfl rfl (fun d => rfl) ?_
    refine y_ld (x := .ref 170) rfl rfl (fun d => rfl) ?_
    refine y_gR (i := 1) rfl rfl rfl (md170 hM) rfl ?_
    refine y_ic rfl rfl ?_
    refine y_ild (x := (V 171 2)) (q := 2) rfl rfl (md171 hM) (by decide) (by decide) rfl rfl ?_
    refine y_jge rfl rfl rfl (by omega) (fun g1 => ?_) (fun g1 => ?_)
    · refine y_ld (x := iv r) rfl rfl (fun d => rfl) ?_
      refine y_rI rfl (by omega) ?_
      rcases hJ with ⟨rfl, e⟩ | ⟨rfl, e⟩
      · exact k1 e
      · exact k0 (fun t ht => e t (by omega))
    · refine y_ld (x := iv r) rfl rfl (fun d => rfl) ?_
      refine y_zne rfl rfl rfl (by omega) (fun g2 => ?_) (fun g2 => ?_)
      · refine y_ic rfl rfl ?_
        refine y_go rfl rfl ?_
        refine y_st (lv' := [(2, iv 1), (0, .ref 170), (1, iv x), (3, iv (i : Int))]) rfl rfl (fun d => rfl) ?_
        refine y_inc (z := ((i + 1 : Nat) : Int)) (lv' := [(3, iv ((i + 1 : Nat) : Int)), (2, iv 1), (0, .ref 170), (1, iv x)]) rfl rfl rfl (by omega) rfl ?_
        refine y_go rfl rfl ?_
        refine y_lv (l' := [(0, .ref 170), (1, iv x), (2, iv 1), (3, iv ((i + 1 : Nat) : Int))]) rfl ⟨rfl, rfl, rfl, rfl, trivial⟩ ?_
        have hK : ∃ t : Nat, (t : Int) < V 171 2 ∧ V 171 (1680 + t) = x := by
          rcases hJ with ⟨_, e⟩ | ⟨h, _⟩
          · exact e
          · first | omega | exact ⟨i, by omega, by omega⟩
        exact y_mono (ih 1 (i + 1) (by omega) (by omega) (by decide) (Or.inl ⟨rfl, hK⟩)) (by omega)
      · have hq := hL i (by omega)
        refine y_ld (x := .ref 170) rfl rfl (fun d => rfl) ?_
        refine y_gR (i := 1) rfl rfl rfl (md170 hM) rfl ?_
        refine y_si rfl rfl (by decide) ?_
        refine y_ld (x := iv (i : Int)) rfl rfl (fun d => rfl) ?_
        refine y_add (z := (1680 + (i : Int))) rfl rfl rfl ?_
        refine y_ild (x := (V 171 (1680 + i))) (q := (1680 + i)) rfl rfl (md171 hM) (by omega) (by decide) (by omega) rfl ?_
        refine y_ld (x := iv x) rfl rfl (fun d => rfl) ?_
        refine y_jne rfl rfl rfl (by omega) (fun g3 => ?_) (fun g3 => ?_)
        · refine y_ic rfl rfl ?_
          refine y_st (lv' := [(2, iv 0), (0, .ref 170), (1, iv x), (3, iv (i : Int))]) rfl rfl (fun d => rfl) ?_
          refine y_inc (z := ((i + 1 : Nat) : Int)) (lv' := [(3, iv ((i + 1 : Nat) : Int)), (2, iv 0), (0, .ref 170), (1, iv x)]) rfl rfl rfl (by omega) rfl ?_
          refine y_go rfl rfl ?_
          refine y_lv (l' := [(0, .ref 170), (1, iv x), (2, iv 0), (3, iv ((i + 1 : Nat) : Int))]) rfl ⟨rfl, rfl, rfl, rfl, trivial⟩ ?_
          have hK : ∀ t : Nat, t < i + 1 → V 171 (1680 + t) ≠ x := by
            rcases hJ with ⟨h, _⟩ | ⟨_, e⟩
            · omega
            · intro t ht
              rcases (show t < i ∨ t = i by omega) with h | h <;> first | exact e t h | (rw [h]; omega)
          exact y_mono (ih 0 (i + 1) (by omega) (by omega) (by decide) (Or.inr ⟨rfl, hK⟩)) (by omega)
        · refine y_ic rfl rfl ?_
          refine y_go rfl rfl ?_
          refine y_st (lv' := [(2, iv 1), (0, .ref 170), (1, iv x), (3, iv (i : Int))]) rfl rfl (fun d => rfl) ?_
          refine y_inc (z := ((i + 1 : Nat) : Int)) (lv' := [(3, iv ((i + 1 : Nat) : Int)), (2, iv 1), (0, .ref 170), (1, iv x)]) rfl rfl rfl (by omega) rfl ?_
          refine y_go rfl rfl ?_
          refine y_lv (l' := [(0, .ref 170), (1, iv x), (2, iv 1), (3, iv ((i + 1 : Nat) : Int))]) rfl ⟨rfl, rfl, rfl, rfl, trivial⟩ ?_
          have hK : ∃ t : Nat, (t : Int) < V 171 2 ∧ V 171 (1680 + t) = x := by
            rcases hJ with ⟨_, e⟩ | ⟨h, _⟩
            · exact e
            · first | omega | exact ⟨i, by omega, by omega⟩
          exact y_mono (ih 1 (i + 1) (by omega) (by omega) (by decide) (Or.inl ⟨rfl, hK⟩)) (by omega)
set_option maxRecDepth 100000 in
set_option maxHeartbeats 4000000 in
theorem ct_isInRow (hM : MdS S) {x : Int} (hx : (-2147483648 ≤ x ∧ x < 2147483648)) (hn : 0 ≤ V 171 2 ∧ V 171 2 ≤ 6) (hL : ∀ t : Nat, t < 6 → 0 ≤ V 171 (1680 + t) ∧ V 171 (1680 + t) ≤ 7) (k1 : (∃ t : Nat, (t : Int) < V 171 2 ∧ V 171 (1680 + t) = x) → K u w (some (iv 1)) S V) (k0 : (∀ t : Nat, (t : Int) < V 171 2 → V 171 (1680 + t) ≠ x) → K u w (some (iv 0)) S V) : y_R X 1 145 u w [.ref 170, iv x] S V K := by
  refine y_ent (lv' := [(0, .ref 170), (1, iv x)]) (Nat.le_of_ble_eq_true rfl) rfl ?_
  refine y_ic rfl rfl ?_
  refine y_st (lv' := [(2, iv 0), (0, .ref 170), (1, iv x)]) rfl rfl (fun d => rfl) ?_
  refine y_ic rfl rfl ?_
  refine y_st (lv' := [(3, iv 0), (2, iv 0), (0, .ref 170), (1, iv x)]) rfl rfl (fun d => rfl) ?_
  refine y_lv (l' := [(0, .ref 170), (1, iv x), (2, iv 0), (3, iv 0)]) rfl ⟨rfl, rfl, rfl, rfl, trivial⟩ ?_
  exact y_mono (lq_isInRow (F := 100) hM hx hn hL k1 k0 7 0 0 (by omega) (by omega) (by decide) (Or.inr ⟨rfl, fun t ht => absurd ht (Nat.not_lt_zero t)⟩)) (by decide)
set_option maxRecDepth 100000 in
set_option maxHeartbeats 4000000 in
theorem lq_isLedToI (hM : MdS S) {x : Int} (hx : (-2147483648 ≤ x ∧ x < 2147483648)) (hn : 0 ≤ V 171 1 ∧ V 171 1 ≤ 8) (hL : ∀ b : Nat, (b : Int) < V 171 1 → ∀ t : Nat, t < 16 → 0 ≤ V 171 (1552 + 16 * b + t) ∧ V 171 (1552 + 16 * b + t) ≤ 7) {i : Nat} (hi : (i : Int) < V 171 1) {F : Nat} : ∀ (m : Nat) (r : Int) (jj : Nat), 16 - jj < m → (jj ≤ 16) → (0 ≤ r ∧ r ≤ 1) → ((r = 1 ∧ ∃ b : Nat, (b : Int) < V 171 1 ∧ (b : Int) ≠ x ∧ ∃ t : Nat, t < 16 ∧ V 171 (1552 + 16 * b + t) = x) ∨ (r = 0 ∧ (∀ b : Nat, b < i → (b : Int) ≠ x → ∀ t : Nat, t < 16 → V 171 (1552 + 16 * b + t) ≠ x) ∧ ∀ t : Nat, t < jj → (i : Int) ≠ x → V 171 (1552 + 16 * i + t) ≠ x)) → (∀ r : Int, 0 ≤ r ∧ r ≤ 1 → (r = 1 ∧ ∃ b : Nat, (b : Int) < V 171 1 ∧ (b : Int) ≠ x ∧ ∃ t : Nat, t < 16 ∧ V 171 (1552 + 16 * b + t) = x) ∨ (r = 0 ∧ (∀ b : Nat, b < i + 1 → (b : Int) ≠ x → ∀ t : Nat, t < 16 → V 171 (1552 + 16 * b + t) ≠ x)) → y_E X 0 141 F u w 65 [(0, .ref 170), (1, iv x), (2, iv r), (3, iv (i : Int))] [] S V K) → y_E X 0 141 (36 * m + F) u w 17 [(0, .ref 170), (1, iv x), (2, iv r), (3, iv (i : Int)), (4, iv (jj : Int))] [] S V K := by
  intro m
  induction m with
  | zero => intros; omega
  | succ m ih =>
    intro r jj hm hI hr hJ hx2
    refine y_mono (F' := (36 * m + F) + 36) ?_ (by omega)
    refine y_ld (x := iv (jj : Int)) rfl rfl (fun d => rfl) ?_
    refine y_bi rfl rfl (by decide) ?_
    refine y_jge rfl rfl rfl (by omega) (fun g1 => ?_) (fun g1 => ?_)
    · refine y_lv (l' := [(0, .ref 170), (1, iv x), (2, iv r), (3, iv (i : Int))]) rfl ⟨rfl, rfl, rfl, rfl, trivial⟩ ?_
      obtain rfl : jj = 16 := by omega
      refine y_mono (hx2 r hr ?_) (by omega)
      rcases hJ with h | ⟨h, a, a2⟩
      · exact Or.inl h
      · refine Or.inr ⟨h, fun b hb hbx => ?_⟩
        rcases (show b < i ∨ b = i by omega) with h | h
        · exact a b h hbx
        · subst h; exact fun t ht => a2 t ht hbx
    · refine y_ld (x := iv r) rfl rfl (fun d => rfl) ?_
      refine y_zne rfl rfl rfl (by omega) (fun g2 => ?_) (fun g2 => ?_)
      · refine y_ic rfl rfl ?_
        refine y_go rfl rfl ?_
        refine y_st (lv' := [(2, iv 1), (0, .ref 170), (1, iv x), (3, iv (i : Int)), (4, iv (jj : Int))]) rfl rfl (fun d => rfl) ?_
        refine y_inc (z := ((jj + 1 : Nat) : Int)) (lv' := [(4, iv ((jj + 1 : Nat) : Int)), (2, iv 1), (0, .ref 170), (1, iv x), (3, iv (i : Int))]) rfl rfl rfl (by omega) rfl ?_
        refine y_go rfl rfl ?_
        refine y_lv (l' := [(0, .ref 170), (1, iv x), (2, iv 1), (3, iv (i : Int)), (4, iv ((jj + 1 : Nat) : Int))]) rfl ⟨rfl, rfl, rfl, rfl, rfl, trivial⟩ ?_
        have hK : ∃ b : Nat, (b : Int) < V 171 1 ∧ (b : Int) ≠ x ∧ ∃ t : Nat, t < 16 ∧ V 171 (1552 + 16 * b + t) = x := by
          rcases hJ with ⟨_, e⟩ | ⟨h, _⟩
          · exact e
          · first | omega | exact ⟨i, by omega, by omega, jj, by omega, by omega⟩
        exact y_mono (ih 1 (jj + 1) (by omega) (by omega) (by decide) (Or.inl ⟨rfl, hK⟩) hx2) (by omega)
      · refine y_ld (x := iv (i : Int)) rfl rfl (fun d => rfl) ?_
        refine y_ld (x := iv x) rfl rfl (fun d => rfl) ?_
        refine y_jeq rfl rfl rfl (by omega) (fun g3 => ?_) (fun g3 => ?_)
        · refine y_ic rfl rfl ?_
          refine y_st (lv' := [(2, iv 0), (0, .ref 170), (1, iv x), (3, iv (i : Int)), (4, iv (jj : Int))]) rfl rfl (fun d => rfl) ?_
          refine y_inc (z := ((jj + 1 : Nat) : Int)) (lv' := [(4, iv ((jj + 1 : Nat) : Int)), (2, iv 0), (0, .ref 170), (1, iv x), (3, iv (i : Int))]) rfl rfl rfl (by omega) rfl ?_
          refine y_go rfl rfl ?_
          refine y_lv (l' := [(0, .ref 170), (1, iv x), (2, iv 0), (3, iv (i : Int)), (4, iv ((jj + 1 : Nat) : Int))]) rfl ⟨rfl, rfl, rfl, rfl, rfl, trivial⟩ ?_
          have hK : (∀ b : Nat, b < i → (b : Int) ≠ x → ∀ t : Nat, t < 16 → V 171 (1552 + 16 * b + t) ≠ x) ∧ ∀ t : Nat, t < jj + 1 → (i : Int) ≠ x → V 171 (1552 + 16 * i + t) ≠ x := by
            rcases hJ with ⟨h, _⟩ | ⟨_, a, a2⟩
            · omega
            · refine ⟨a, fun t ht hix => ?_⟩
              rcases (show t < jj ∨ t = jj by omega) with h | h <;> first | exact a2 t h hix | (rw [h]; omega)
          exact y_mono (ih 0 (jj + 1) (by omega) (by omega) (by decide) (Or.inr ⟨rfl, hK⟩) hx2) (by omega)
        · have hq := hL i (by omega) jj (by omega)
          refine y_ld (x := .ref 170) rfl rfl (fun d => rfl) ?_
          refine y_gR (i := 1) rfl rfl rfl (md170 hM) rfl ?_
          refine y_si rfl rfl (by decide) ?_
          refine y_bi rfl rfl (by decide) ?_
          refine y_ld (x := iv (i : Int)) rfl rfl (fun d => rfl) ?_
          refine y_mul (z := (16 * (i : Int))) rfl rfl rfl ?_
          refine y_add (z := (1552 + (16 * (i : Int)))) rfl rfl rfl ?_
          refine y_ld (x := iv (jj : Int)) rfl rfl (fun d => rfl) ?_
          refine y_add (z := ((1552 + (16 * (i : Int))) + (jj : Int))) rfl rfl rfl ?_
          refine y_ild (x := (V 171 (1552 + 16 * i + jj))) (q := (1552 + 16 * i + jj)) rfl rfl (md171 hM) (by omega) (by decide) (by omega) rfl ?_
          refine y_ld (x := iv x) rfl rfl (fun d => rfl) ?_
          refine y_jne rfl rfl rfl (by omega) (fun g4 => ?_) (fun g4 => ?_)
          · refine y_ic rfl rfl ?_
            refine y_st (lv' := [(2, iv 0), (0, .ref 170), (1, iv x), (3, iv (i : Int)), (4, iv (jj : Int))]) rfl rfl (fun d => rfl) ?_
            refine y_inc (z := ((jj + 1 : Nat) : Int)) (lv' := [(4, iv ((jj + 1 : Nat) : Int)), (2, iv 0), (0, .ref 170), (1, iv x), (3, iv (i : Int))]) rfl rfl rfl (by omega) rfl ?_
            refine y_go rfl rfl ?_
            refine y_lv (l' := [(0, .ref 170), (1, iv x), (2, iv 0), (3, iv (i : Int)), (4, iv ((jj + 1 : Nat) : Int))]) rfl ⟨rfl, rfl, rfl, rfl, rfl, trivial⟩ ?_
            have hK : (∀ b : Nat, b < i → (b : Int) ≠ x → ∀ t : Nat, t < 16 → V 171 (1552 + 16 * b + t) ≠ x) ∧ ∀ t : Nat, t < jj + 1 → (i : Int) ≠ x → V 171 (1552 + 16 * i + t) ≠ x := by
              rcases hJ with ⟨h, _⟩ | ⟨_, a, a2⟩
              · omega
              · refine ⟨a, fun t ht hix => ?_⟩
                rcases (show t < jj ∨ t = jj by omega) with h | h <;> first | exact a2 t h hix | (rw [h]; omega)
            exact y_mono (ih 0 (jj + 1) (by omega) (by omega) (by decide) (Or.inr ⟨rfl, hK⟩) hx2) (by omega)
          · refine y_ic rfl rfl ?_
            refine y_go rfl rfl ?_
            refine y_st (lv' := [(2, iv 1), (0, .ref 170), (1, iv x), (3, iv (i : Int)), (4, iv (jj : Int))]) rfl rfl (fun d => rfl) ?_
            refine y_inc (z := ((jj + 1 : Nat) : Int)) (lv' := [(4, iv ((jj + 1 : Nat) : Int)), (2, iv 1), (0, .ref 170), (1, iv x), (3, iv (i : Int))]) rfl rfl rfl (by omega) rfl ?_
            refine y_go rfl rfl ?_
            refine y_lv (l' := [(0, .ref 170), (1, iv x), (2, iv 1), (3, iv (i : Int)), (4, iv ((jj + 1 : Nat) : Int))]) rfl ⟨rfl, rfl, rfl, rfl, rfl, trivial⟩ ?_
            have hK : ∃ b : Nat, (b : Int) < V 171 1 ∧ (b : Int) ≠ x ∧ ∃ t : Nat, t < 16 ∧ V 171 (1552 + 16 * b + t) = x := by
              rcases hJ with ⟨_, e⟩ | ⟨h, _⟩
              · exact e
              · first | omega | exact ⟨i, by omega, by omega, jj, by omega, by omega⟩
            exact y_mono (ih 1 (jj + 1) (by omega) (by omega) (by decide) (Or.inl ⟨rfl, hK⟩) hx2) (by omega)
set_option maxRecDepth 100000 in
set_option maxHeartbeats 4000000 in
theorem lq_isLedTo (hM : MdS S) {x : Int} (hx : (-2147483648 ≤ x ∧ x < 2147483648)) (hn : 0 ≤ V 171 1 ∧ V 171 1 ≤ 8) (hL : ∀ b : Nat, (b : Int) < V 171 1 → ∀ t : Nat, t < 16 → 0 ≤ V 171 (1552 + 16 * b + t) ∧ V 171 (1552 + 16 * b + t) ≤ 7) (k1 : (∃ b : Nat, (b : Int) < V 171 1 ∧ (b : Int) ≠ x ∧ ∃ t : Nat, t < 16 ∧ V 171 (1552 + 16 * b + t) = x) → K u w (some (iv 1)) S V) (k0 : (∀ b : Nat, (b : Int) < V 171 1 → (b : Int) ≠ x → ∀ t : Nat, t < 16 → V 171 (1552 + 16 * b + t) ≠ x) → K u w (some (iv 0)) S V) {F : Nat} : ∀ (m : Nat) (r : Int) (i : Nat), 8 - i < m → ((i : Int) ≤ V 171 1) → (0 ≤ r ∧ r ≤ 1) → ((r = 1 ∧ ∃ b : Nat, (b : Int) < V 171 1 ∧ (b : Int) ≠ x ∧ ∃ t : Nat, t < 16 ∧ V 171 (1552 + 16 * b + t) = x) ∨ (r = 0 ∧ (∀ b : Nat, b < i → (b : Int) ≠ x → ∀ t : Nat, t < 16 → V 171 (1552 + 16 * b + t) ≠ x))) → y_E X 0 141 (800 * m + F) u w 4 [(0, .ref 170), (1, iv x), (2, iv r), (3, iv (i : Int))] [] S V K := by
  intro m
  induction m with
  | zero => intros; omega
  | succ m ih =>
    intro r i hm hI hr hJ 
    refine y_mono (F' := (800 * m + F) + 800) ?_ (by omega)
    refine y_ld (x := iv (i : Int)) rfl rfl (fun d => rfl) ?_
    refine y_ld (x := .ref 170) rfl rfl (fun d => rfl) ?_
    refine y_gR (i := 1) rfl rfl rfl (md170 hM) rfl ?_
    refine y_ic rfl rfl ?_
    refine y_ild (x := (V 171 1)) (q := 1) rfl rfl (md171 hM) (by decide) (by decide) rfl rfl ?_
    refine y_jge rfl rfl rfl (by omega) (fun g1 => ?_) (fun g1 => ?_)
    · refine y_ld (x := iv r) rfl rfl (fun d => rfl) ?_
      refine y_rI rfl (by omega) ?_
      rcases hJ with ⟨rfl, e⟩ | ⟨rfl, e⟩
      · exact k1 e
      · exact k0 (fun t ht => e t (by omega))
    · refine y_ic rfl rfl ?_
      refine y_st (lv' := [(4, iv 0), (0, .ref 170), (1, iv x), (2, iv r), (3, iv (i : Int))]) rfl rfl (fun d => rfl) ?_
      refine y_lv (l' := [(0, .ref 170), (1, iv x), (2, iv r), (3, iv (i : Int)), (4, iv ((0 : Nat) : Int))]) rfl ⟨rfl, rfl, rfl, rfl, rfl, trivial⟩ ?_
      refine y_mono (lq_isLedToI (F := 800 * m + F + 50) hM hx hn hL (i := i) (by omega) 17 r 0 (by omega) (by omega) hr (hJ.imp id (fun h => ⟨h.1, h.2, fun t ht => absurd ht (Nat.not_lt_zero t)⟩)) ?_) (by omega)
      intro r2 hr2 hJ2
      refine y_inc (z := ((i + 1 : Nat) : Int)) (lv' := [(3, iv ((i + 1 : Nat) : Int)), (0, .ref 170), (1, iv x), (2, iv r2)]) rfl rfl rfl (by omega) rfl ?_
      refine y_go rfl rfl ?_
      refine y_lv (l' := [(0, .ref 170), (1, iv x), (2, iv r2), (3, iv ((i + 1 : Nat) : Int))]) rfl ⟨rfl, rfl, rfl, rfl, trivial⟩ ?_
      exact y_mono (ih r2 (i + 1) (by clear hJ2 hJ; omega) (by clear hJ2 hJ; omega) hr2 hJ2) (by clear hJ2 hJ; omega)
set_option maxRecDepth 100000 in
set_option maxHeartbeats 4000000 in
theorem ct_isLedTo (hM : MdS S) {x : Int} (hx : (-2147483648 ≤ x ∧ x < 2147483648)) (hn : 0 ≤ V 171 1 ∧ V 171 1 ≤ 8) (hL : ∀ b : Nat, (b : Int) < V 171 1 → ∀ t : Nat, t < 16 → 0 ≤ V 171 (1552 + 16 * b + t) ∧ V 171 (1552 + 16 * b + t) ≤ 7) (k1 : (∃ b : Nat, (b : Int) < V 171 1 ∧ (b : Int) ≠ x ∧ ∃ t : Nat, t < 16 ∧ V 171 (1552 + 16 * b + t) = x) → K u w (some (iv 1)) S V) (k0 : (∀ b : Nat, (b : Int) < V 171 1 → (b : Int) ≠ x → ∀ t : Nat, t < 16 → V 171 (1552 + 16 * b + t) ≠ x) → K u w (some (iv 0)) S V) : y_R X 1 141 u w [.ref 170, iv x] S V K := by
  refine y_ent (lv' := [(0, .ref 170), (1, iv x)]) (Nat.le_of_ble_eq_true rfl) rfl ?_
  refine y_ic rfl rfl ?_
  refine y_st (lv' := [(2, iv 0), (0, .ref 170), (1, iv x)]) rfl rfl (fun d => rfl) ?_
  refine y_ic rfl rfl ?_
  refine y_st (lv' := [(3, iv 0), (2, iv 0), (0, .ref 170), (1, iv x)]) rfl rfl (fun d => rfl) ?_
  refine y_lv (l' := [(0, .ref 170), (1, iv x), (2, iv 0), (3, iv 0)]) rfl ⟨rfl, rfl, rfl, rfl, trivial⟩ ?_
  exact y_mono (lq_isLedTo (F := 100) hM hx hn hL k1 k0 9 0 0 (by omega) (by omega) (by decide) (Or.inr ⟨rfl, fun t ht => absurd ht (Nat.not_lt_zero t)⟩)) (by decide)
end
end
section
/-! row and copy, both sides -/
section
variable {X : Nat → List Int32} {u w : Nat} {S : m_H} {V : v_V} {K : v_K}
set_option maxRecDepth 100000 in
set_option maxHeartbeats 4000000 in
theorem cs_row (hC : ClF S) (hB : 0 ≤ V 1 5 ∧ V 1 5 ≤ 8) (hL : ∀ b : Nat, (b : Int) < V 1 5 → ∀ t : Nat, t < 16 → 0 ≤ V (10 + 6 * b + 1) t ∧ V (10 + 6 * b + 1) t ≤ 7) {x : Int} (hx : (-2147483648 ≤ x ∧ x < 2147483648)) (hn : 0 ≤ V 1 7 ∧ V 1 7 ≤ 6) (k0 : (x : Int) ≠ (-1) → ¬ (0 ≤ x ∧ x < V 1 5) → K u w (some (iv (-1))) S V) (k1 : (x : Int) ≠ (-1) → 0 ≤ x ∧ x < V 1 5 → (∃ b : Nat, (b : Int) < V 1 5 ∧ (b : Int) ≠ x ∧ ∃ t : Nat, t < 16 ∧ V (10 + 6 * b + 1) t = x) → ¬ ((1 : Int) = 0) → K u w (some (iv (-3))) S V) (k2 : (x : Int) ≠ (-1) → 0 ≤ x ∧ x < V 1 5 → (∀ b : Nat, (b : Int) < V 1 5 → (b : Int) ≠ x → ∀ t : Nat, t < 16 → V (10 + 6 * b + 1) t ≠ x) → (0 : Int) = 0 → (V 1 7 : Int) < 6 → K u w (some (iv ((V 1 7) + 1))) S (v_up (v_up V 5 ((V 1 7).toNat) x) 1 7 ((V 1 7) + 1))) (k3 : (x : Int) ≠ (-1) → 0 ≤ x ∧ x < V 1 5 → (∀ b : Nat, (b : Int) < V 1 5 → (b : Int) ≠ x → ∀ t : Nat, t < 16 → V (10 + 6 * b + 1) t ≠ x) → (0 : Int) = 0 → ¬ ((V 1 7 : Int) < 6) → K u w (some (iv (-4))) S V) (k4 : ¬ ((x : Int) ≠ (-1)) → K u w (some (iv 0)) S (v_up V 1 7 0)) : y_R X 3 78 u w [.ref 0, iv x] S V K := by
  refine y_ent (lv' := [(0, .ref 0), (1, iv x)]) (Nat.le_of_ble_eq_true rfl) rfl ?_
  refine y_ld (x := iv x) rfl rfl (fun d => rfl) ?_
  refine y_ic rfl rfl ?_
  refine y_jne rfl rfl rfl (by omega) (fun g1 => ?_) (fun g1 => ?_)
  · refine y_ld (x := .ref 0) rfl rfl (fun d => rfl) ?_
    refine y_gR (i := 0) rfl rfl rfl (hC 0 _ _ rfl) rfl ?_
    refine y_ld (x := iv x) rfl rfl (fun d => rfl) ?_
    refine y_cV (as := [.ref 1, iv x]) rfl rfl rfl rfl rfl (hC 1 _ _ rfl) ⟨rfl, (Nat.le_of_ble_eq_true rfl), (Nat.le_of_ble_eq_true rfl)⟩ (by decide) (cb_boxAt (x := x) hC hB (by omega) (fun gb1 => ?_) (fun gb1 => ?_))
    · refine y_nv ?_
      refine y_in (pc' := 26) rfl rfl (fun d => rfl) ?_
      refine y_ic rfl rfl ?_
      refine y_rI rfl (Or.inl rfl) ?_
      exact k0 (by omega) gb1
    · refine y_nv ?_
      refine y_in (pc' := 28) rfl rfl (fun d => rfl) ?_
      refine y_ld (x := .ref 0) rfl rfl (fun d => rfl) ?_
      refine y_gR (i := 0) rfl rfl rfl (hC 0 _ _ rfl) rfl ?_
      refine y_ld (x := iv x) rfl rfl (fun d => rfl) ?_
      refine y_cV (as := [.ref 1, iv x]) rfl rfl rfl rfl rfl (hC 1 _ _ rfl) ⟨rfl, (Nat.le_of_ble_eq_true rfl), (Nat.le_of_ble_eq_true rfl)⟩ (by decide) (cb_isLedTo (x := x) hC hx hB hL (fun qL => ?_) (fun qL => ?_))
      · refine y_nv ?_
        refine y_zeq rfl rfl rfl (by decide) (fun g2 => absurd g2 (by decide)) (fun g2 => ?_)
        refine y_bi rfl rfl (by decide) ?_
        refine y_rI rfl (Or.inl rfl) ?_
        exact k1 (by omega) gb1 qL (by omega)
      · refine y_nv ?_
        refine y_zeq rfl rfl rfl (by decide) (fun g3 => ?_) (fun g3 => absurd g3 (by decide))
        refine y_ld (x := .ref 0) rfl rfl (fun d => rfl) ?_
        refine y_gR (i := 0) rfl rfl rfl (hC 0 _ _ rfl) rfl ?_
        refine y_gI (i := 7) (e := (V 1 7)) rfl rfl rfl (hC 1 _ _ rfl) rfl rfl ?_
        refine y_bi rfl rfl (by decide) ?_
        refine y_jlt rfl rfl rfl (by omega) (fun g4 => ?_) (fun g4 => ?_)
        · refine y_ld (x := .ref 0) rfl rfl (fun d => rfl) ?_
          refine y_gR (i := 0) rfl rfl rfl (hC 0 _ _ rfl) rfl ?_
          refine y_gR (i := 6) rfl rfl rfl (hC 1 _ _ rfl) rfl ?_
          refine y_ld (x := .ref 0) rfl rfl (fun d => rfl) ?_
          refine y_gR (i := 0) rfl rfl rfl (hC 0 _ _ rfl) rfl ?_
          refine y_gI (i := 7) (e := (V 1 7)) rfl rfl rfl (hC 1 _ _ rfl) rfl rfl ?_
          refine y_ld (x := iv x) rfl rfl (fun d => rfl) ?_
          refine y_ist (q := ((V 1 7).toNat)) rfl rfl (cl_ia hC (k := 5) (N := 6) rfl) (by omega) (by decide) rfl ?_
          refine y_ld (x := .ref 0) rfl rfl (fun d => rfl) ?_
          refine y_gR (i := 0) rfl rfl rfl (hC 0 _ _ rfl) rfl ?_
          refine y_in rfl rfl (fun d => rfl) ?_
          refine y_gI (i := 7) (e := (V 1 7)) rfl rfl rfl (hC 1 _ _ rfl) rfl rfl ?_
          refine y_ic rfl rfl ?_
          refine y_add (z := ((V 1 7) + 1)) rfl rfl rfl ?_
          refine y_pI (i := 7) rfl rfl rfl (hC 1 _ _ rfl) rfl rfl ?_
          refine y_ld (x := .ref 0) rfl rfl (fun d => rfl) ?_
          refine y_gR (i := 0) rfl rfl rfl (hC 0 _ _ rfl) rfl ?_
          refine y_gI (i := 7) (e := ((V 1 7) + 1)) rfl rfl rfl (hC 1 _ _ rfl) rfl rfl ?_
          refine y_rI rfl (Or.inl rfl) ?_
          exact k2 (by omega) gb1 qL (by omega) (by omega)
        · refine y_bi rfl rfl (by decide) ?_
          refine y_rI rfl (Or.inl rfl) ?_
          exact k3 (by omega) gb1 qL (by omega) (by omega)
  · refine y_ld (x := .ref 0) rfl rfl (fun d => rfl) ?_
    refine y_gR (i := 0) rfl rfl rfl (hC 0 _ _ rfl) rfl ?_
    refine y_ic rfl rfl ?_
    refine y_pI (i := 7) rfl rfl rfl (hC 1 _ _ rfl) rfl rfl ?_
    refine y_ic rfl rfl ?_
    refine y_rI rfl (Or.inl rfl) ?_
    exact k4 (by omega)
set_option maxRecDepth 100000 in
set_option maxHeartbeats 4000000 in
theorem ms_row (hM : MdS S) (hB : 0 ≤ V 171 1 ∧ V 171 1 ≤ 8) (hL : ∀ b : Nat, (b : Int) < V 171 1 → ∀ t : Nat, t < 16 → 0 ≤ V 171 (1552 + 16 * b + t) ∧ V 171 (1552 + 16 * b + t) ≤ 7) {x : Int} (hx : (-2147483648 ≤ x ∧ x < 2147483648)) (hn : 0 ≤ V 171 2 ∧ V 171 2 ≤ 6) (k0 : (x : Int) ≠ (-1) → (0 ≤ x ∧ x ≤ V 171 1 - 1) → (∃ b : Nat, (b : Int) < V 171 1 ∧ (b : Int) ≠ x ∧ ∃ t : Nat, t < 16 ∧ V 171 (1552 + 16 * b + t) = x) → ¬ ((1 : Int) = 0) → K u w (some (iv (-3))) S V) (k1 : (x : Int) ≠ (-1) → (0 ≤ x ∧ x ≤ V 171 1 - 1) → (∀ b : Nat, (b : Int) < V 171 1 → (b : Int) ≠ x → ∀ t : Nat, t < 16 → V 171 (1552 + 16 * b + t) ≠ x) → (0 : Int) = 0 → (V 171 2 : Int) ≠ 6 → K u w (some (iv ((V 171 2) + 1))) S (v_up (v_up V 171 ((1680 + (V 171 2)).toNat) x) 171 2 ((V 171 2) + 1))) (k2 : (x : Int) ≠ (-1) → (0 ≤ x ∧ x ≤ V 171 1 - 1) → (∀ b : Nat, (b : Int) < V 171 1 → (b : Int) ≠ x → ∀ t : Nat, t < 16 → V 171 (1552 + 16 * b + t) ≠ x) → (0 : Int) = 0 → ¬ ((V 171 2 : Int) ≠ 6) → K u w (some (iv (-4))) S V) (k3 : (x : Int) ≠ (-1) → ¬ (0 ≤ x ∧ x ≤ V 171 1 - 1) → K u w (some (iv (-1))) S V) (k4 : ¬ ((x : Int) ≠ (-1)) → K u w (some (iv 0)) S (v_up V 171 2 0)) : y_R X 3 142 u w [.ref 170, iv x] S V K := by
  refine y_ent (lv' := [(0, .ref 170), (1, iv x)]) (Nat.le_of_ble_eq_true rfl) rfl ?_
  refine y_ld (x := iv x) rfl rfl (fun d => rfl) ?_
  refine y_ic rfl rfl ?_
  refine y_jne rfl rfl rfl (by omega) (fun g1 => ?_) (fun g1 => ?_)
  · refine y_ld (x := .ref 170) rfl rfl (fun d => rfl) ?_
    refine y_ld (x := iv x) rfl rfl (fun d => rfl) ?_
    refine y_cV (as := [.ref 170, iv x]) rfl rfl rfl rfl rfl (md170 hM) ⟨rfl, (Nat.le_of_ble_eq_true rfl), (Nat.le_of_ble_eq_true rfl)⟩ (by decide) (ct_isBox hM (by omega) ⟨rfl, by omega⟩ ?_)
    refine y_nv ?_
    refine y_bne rfl rfl rfl (fun g2 => ?_) (fun g2 => ?_)
    · refine y_ld (x := .ref 170) rfl rfl (fun d => rfl) ?_
      refine y_ld (x := iv x) rfl rfl (fun d => rfl) ?_
      refine y_cV (as := [.ref 170, iv x]) rfl rfl rfl rfl rfl (md170 hM) ⟨rfl, (Nat.le_of_ble_eq_true rfl), (Nat.le_of_ble_eq_true rfl)⟩ (by decide) (ct_isLedTo (x := x) hM hx hB hL (fun qL => ?_) (fun qL => ?_))
      · refine y_nv ?_
        refine y_zeq rfl rfl rfl (by decide) (fun g3 => absurd g3 (by decide)) (fun g3 => ?_)
        refine y_bi rfl rfl (by decide) ?_
        refine y_rI rfl (Or.inl rfl) ?_
        exact k0 (by omega) g2 qL (by omega)
      · refine y_nv ?_
        refine y_zeq rfl rfl rfl (by decide) (fun g4 => ?_) (fun g4 => absurd g4 (by decide))
        refine y_ld (x := .ref 170) rfl rfl (fun d => rfl) ?_
        refine y_gR (i := 1) rfl rfl rfl (md170 hM) rfl ?_
        refine y_ic rfl rfl ?_
        refine y_ild (x := (V 171 2)) (q := 2) rfl rfl (md171 hM) (by decide) (by decide) rfl rfl ?_
        refine y_bi rfl rfl (by decide) ?_
        refine y_jne rfl rfl rfl (by omega) (fun g5 => ?_) (fun g5 => ?_)
        · refine y_ld (x := .ref 170) rfl rfl (fun d => rfl) ?_
          refine y_gR (i := 1) rfl rfl rfl (md170 hM) rfl ?_
          refine y_si rfl rfl (by decide) ?_
          refine y_ld (x := .ref 170) rfl rfl (fun d => rfl) ?_
          refine y_gR (i := 1) rfl rfl rfl (md170 hM) rfl ?_
          refine y_ic rfl rfl ?_
          refine y_ild (x := (V 171 2)) (q := 2) rfl rfl (md171 hM) (by decide) (by decide) rfl rfl ?_
          refine y_add (z := (1680 + (V 171 2))) rfl rfl rfl ?_
          refine y_ld (x := iv x) rfl rfl (fun d => rfl) ?_
          refine y_ist (q := ((1680 + (V 171 2)).toNat)) rfl rfl (md171 hM) (by omega) (by decide) rfl ?_
          refine y_ld (x := .ref 170) rfl rfl (fun d => rfl) ?_
          refine y_gR (i := 1) rfl rfl rfl (md170 hM) rfl ?_
          refine y_ic rfl rfl ?_
          refine y_in rfl rfl (fun d => rfl) ?_
          refine y_ild (x := (V 171 2)) (q := 2) rfl rfl (md171 hM) (by decide) (by decide) rfl (by rw [v_up_ni (by omega)]) ?_
          refine y_ic rfl rfl ?_
          refine y_add (z := ((V 171 2) + 1)) rfl rfl rfl ?_
          refine y_ist (q := 2) rfl rfl (md171 hM) (by decide) (by decide) rfl ?_
          refine y_ld (x := .ref 170) rfl rfl (fun d => rfl) ?_
          refine y_gR (i := 1) rfl rfl rfl (md170 hM) rfl ?_
          refine y_ic rfl rfl ?_
          refine y_ild (x := ((V 171 2) + 1)) (q := 2) rfl rfl (md171 hM) (by decide) (by decide) rfl (by rw [v_up_eq]) ?_
          refine y_rI rfl (Or.inl rfl) ?_
          exact k1 (by omega) g2 qL (by omega) (by omega)
        · refine y_bi rfl rfl (by decide) ?_
          refine y_rI rfl (Or.inl rfl) ?_
          exact k2 (by omega) g2 qL (by omega) (by omega)
    · refine y_ic rfl rfl ?_
      refine y_rI rfl (Or.inl rfl) ?_
      exact k3 (by omega) g2
  · refine y_ld (x := .ref 170) rfl rfl (fun d => rfl) ?_
    refine y_gR (i := 1) rfl rfl rfl (md170 hM) rfl ?_
    refine y_ic rfl rfl ?_
    refine y_ic rfl rfl ?_
    refine y_ist (q := 2) rfl rfl (md171 hM) (by decide) (by decide) rfl ?_
    refine y_ic rfl rfl ?_
    refine y_rI rfl (Or.inl rfl) ?_
    exact k4 (by omega)
set_option maxRecDepth 100000 in
set_option maxHeartbeats 4000000 in
theorem cs_copy (hC : ClF S) (hB : 0 ≤ V 1 5 ∧ V 1 5 ≤ 8) {x : Int} (hx : (-2147483648 ≤ x ∧ x < 2147483648)) (hk : ∀ b : Nat, b < 8 → 0 ≤ V (10 + 6 * b) 4 ∧ V (10 + 6 * b) 4 < 2147483647) (k0 : ¬ (0 ≤ x ∧ x < V 1 5) → K u w (some (iv (-1))) S V) (k1 : 0 ≤ x ∧ x < V 1 5 → K u w (some (iv (((V (10 + 6 * x.toNat) 4) + 1) - 1))) S (v_up (v_ur V (10 + 6 * x.toNat + 5) (V (10 + 6 * x.toNat + 3))) (10 + 6 * x.toNat) 4 ((V (10 + 6 * x.toNat) 4) + 1))) : y_R X 2 85 u w [.ref 0, iv x] S V K := by
  refine y_ent (lv' := [(0, .ref 0), (1, iv x)]) (Nat.le_of_ble_eq_true rfl) rfl ?_
  refine y_ld (x := .ref 0) rfl rfl (fun d => rfl) ?_
  refine y_gR (i := 0) rfl rfl rfl (hC 0 _ _ rfl) rfl ?_
  refine y_ld (x := iv x) rfl rfl (fun d => rfl) ?_
  refine y_cV (as := [.ref 1, iv x]) rfl rfl rfl rfl rfl (hC 1 _ _ rfl) ⟨rfl, (Nat.le_of_ble_eq_true rfl), (Nat.le_of_ble_eq_true rfl)⟩ (by decide) (cb_boxAt (x := x) hC hB (by omega) (fun gb1 => ?_) (fun gb1 => ?_))
  · refine y_nv ?_
    refine y_st (lv' := [(2, .null), (0, .ref 0), (1, iv x)]) rfl rfl (fun d => rfl) ?_
    refine y_ld (x := .null) rfl rfl (fun d => rfl) ?_
    refine y_in (pc' := 13) rfl rfl (fun d => rfl) ?_
    refine y_ic rfl rfl ?_
    refine y_rI rfl (Or.inl rfl) ?_
    exact k0 gb1
  · refine y_nv ?_
    refine y_st (lv' := [(2, .ref (10 + 6 * x.toNat)), (0, .ref 0), (1, iv x)]) rfl rfl (fun d => rfl) ?_
    refine y_ld (x := .ref (10 + 6 * x.toNat)) rfl rfl (fun d => rfl) ?_
    refine y_in (pc' := 15) rfl rfl (fun d => rfl) ?_
    refine y_ld (x := .ref (10 + 6 * x.toNat)) rfl rfl (fun d => rfl) ?_
    refine y_gR (i := 7) rfl rfl rfl (bx_ob hC (i := x.toNat) (by omega)) rfl ?_
    refine y_ld (x := .ref (10 + 6 * x.toNat)) rfl rfl (fun d => rfl) ?_
    refine y_gR (i := 6) rfl rfl rfl (bx_ob hC (i := x.toNat) (by omega)) rfl ?_
    refine y_cV (as := [.ref (10 + 6 * x.toNat + 4), .ref (10 + 6 * x.toNat + 2)]) rfl rfl rfl rfl rfl (bx_cop hC (i := x.toNat) (by omega)) ⟨rfl, (Nat.le_of_ble_eq_true rfl), (Nat.le_of_ble_eq_true rfl)⟩ (by decide) (cc_mbec ⟨(bx_cop hC (i := x.toNat) (by omega)), (bx_ccl hC (i := x.toNat) (by omega))⟩ ⟨(bx_mem hC (i := x.toNat) (by omega)), (bx_mcl hC (i := x.toNat) (by omega))⟩ ?_)
    refine y_n0 ?_
    have hkx := hk x.toNat (by omega)
    refine y_ld (x := .ref (10 + 6 * x.toNat)) rfl rfl (fun d => rfl) ?_
    refine y_in rfl rfl (fun d => rfl) ?_
    refine y_gI (i := 4) (e := (V (10 + 6 * x.toNat) 4)) rfl rfl rfl (bx_ob hC (i := x.toNat) (by omega)) rfl (by rw [v_ur_ne (by omega)]) ?_
    refine y_ic rfl rfl ?_
    refine y_add (z := ((V (10 + 6 * x.toNat) 4) + 1)) rfl rfl rfl ?_
    refine y_pI (i := 4) rfl rfl rfl (bx_ob hC (i := x.toNat) (by omega)) rfl rfl ?_
    refine y_ld (x := .ref (10 + 6 * x.toNat)) rfl rfl (fun d => rfl) ?_
    refine y_gI (i := 4) (e := ((V (10 + 6 * x.toNat) 4) + 1)) rfl rfl rfl (bx_ob hC (i := x.toNat) (by omega)) rfl (by rw [v_up_eq]) ?_
    refine y_ic rfl rfl ?_
    refine y_sub (z := (((V (10 + 6 * x.toNat) 4) + 1) - 1)) rfl rfl rfl ?_
    refine y_rI rfl (Or.inl rfl) ?_
    exact k1 gb1
theorem v_cp_up2 (V : v_V) (a i q : Nat) (k : Nat) : v_up (v_ur V a (v_cp (V a) (V a) i q k)) a (q + k) (V a (i + k)) = v_ur V a (v_cp (V a) (V a) i q (k + 1)) := by
  rw [v_up_ur, v_ur_ur, v_ur_eq]
  congr 1
  funext j
  unfold v_uf v_cp
  by_cases h1 : j = q + k
  · subst h1
    rw [if_pos rfl, if_pos (by omega), show q + k - q + i = i + k by omega]
  · rw [if_neg h1]
    by_cases h2 : q ≤ j ∧ j < q + k
    · rw [if_pos h2, if_pos (by omega)]
    · rw [if_neg h2, if_neg (by omega)]
theorem v_cp_0 (V : v_V) (a i q : Nat) : v_ur V a (v_cp (V a) (V a) i q 0) = V := by
  rw [show v_cp (V a) (V a) i q 0 = V a from funext (fun j => if_neg (by omega)), v_ur_self]
set_option maxRecDepth 100000 in
set_option maxHeartbeats 4000000 in
theorem lq_copy (hM : MdS S) {x : Int} (hx : 0 ≤ x ∧ x < 8) {F : Nat} : ∀ (m : Nat) (k : Nat), 84 - k < m → (k ≤ 84) → (y_E X 2 151 F u w 54 [(0, .ref 170), (1, iv x), (2, iv ((84 : Nat) : Int))] [] S (v_ur V 171 (v_cp (V 171) (V 171) (200 + 84 * x.toNat) (880 + 84 * x.toNat) 84)) K) → y_E X 2 151 (36 * m + F) u w 12 [(0, .ref 170), (1, iv x), (2, iv (k : Int))] [] S (v_ur V 171 (v_cp (V 171) (V 171) (200 + 84 * x.toNat) (880 + 84 * x.toNat) k)) K := by
  intro m
  induction m with
  | zero => intros; omega
  | succ m ih =>
    intro k hm hI hx2
    refine y_mono (F' := (36 * m + F) + 36) ?_ (by omega)
    refine y_ld (x := iv (k : Int)) rfl rfl (fun d => rfl) ?_
    refine y_bi rfl rfl (by decide) ?_
    refine y_jge rfl rfl rfl (by omega) (fun g1 => ?_) (fun g1 => ?_)
    · obtain rfl : k = 84 := by omega
      exact y_mono hx2 (by omega)
    · refine y_ld (x := .ref 170) rfl rfl (fun d => rfl) ?_
      refine y_gR (i := 1) rfl rfl rfl (md170 hM) rfl ?_
      refine y_si rfl rfl (by decide) ?_
      refine y_bi rfl rfl (by decide) ?_
      refine y_ld (x := iv x) rfl rfl (fun d => rfl) ?_
      refine y_mul (z := (84 * x)) rfl rfl rfl ?_
      refine y_add (z := (880 + (84 * x))) rfl rfl rfl ?_
      refine y_ld (x := iv (k : Int)) rfl rfl (fun d => rfl) ?_
      refine y_add (z := ((880 + (84 * x)) + (k : Int))) rfl rfl rfl ?_
      refine y_ld (x := .ref 170) rfl rfl (fun d => rfl) ?_
      refine y_gR (i := 1) rfl rfl rfl (md170 hM) rfl ?_
      refine y_si rfl rfl (by decide) ?_
      refine y_bi rfl rfl (by decide) ?_
      refine y_ld (x := iv x) rfl rfl (fun d => rfl) ?_
      refine y_mul (z := (84 * x)) rfl rfl rfl ?_
      refine y_add (z := (200 + (84 * x))) rfl rfl rfl ?_
      refine y_ld (x := iv (k : Int)) rfl rfl (fun d => rfl) ?_
      refine y_add (z := ((200 + (84 * x)) + (k : Int))) rfl rfl rfl ?_
      refine y_ild (x := (V 171 (200 + 84 * x.toNat + k))) (q := (200 + 84 * x.toNat + k)) rfl rfl (md171 hM) (by omega) (by decide) (by omega) (by rw [v_ur_eq]; unfold v_cp; rw [if_neg (by omega)]) ?_
      refine y_ist (q := (880 + 84 * x.toNat + k)) rfl rfl (md171 hM) (by omega) (by decide) (by omega) ?_
      refine y_inc (z := ((k + 1 : Nat) : Int)) (lv' := [(2, iv ((k + 1 : Nat) : Int)), (0, .ref 170), (1, iv x)]) rfl rfl rfl (by omega) rfl ?_
      refine y_go rfl rfl ?_
      refine y_lv (l' := [(0, .ref 170), (1, iv x), (2, iv ((k + 1 : Nat) : Int))]) rfl ⟨rfl, rfl, rfl, trivial⟩ ?_
      refine y_V (V' := v_ur V 171 (v_cp (V 171) (V 171) (200 + 84 * x.toNat) (880 + 84 * x.toNat) (k + 1))) (v_cp_up2 V 171 _ _ k) ?_
      exact y_mono (ih (k + 1) (by omega) (by omega) hx2) (by omega)
set_option maxRecDepth 100000 in
set_option maxHeartbeats 4000000 in
theorem ms_copy (hM : MdS S) (hB : 0 ≤ V 171 1 ∧ V 171 1 ≤ 8) {x : Int} (hx : (-2147483648 ≤ x ∧ x < 2147483648)) (hk : ∀ b : Nat, b < 8 → 0 ≤ V 171 (872 + b) ∧ V 171 (872 + b) < 2147483647) (k0 : (0 ≤ x ∧ x ≤ V 171 1 - 1) → K u w (some (iv (((V 171 (872 + x.toNat)) + 1) - 1))) S (v_up (v_ur V 171 (v_cp (V 171) (V 171) (200 + 84 * x.toNat) (880 + 84 * x.toNat) 84)) 171 (872 + x.toNat) ((V 171 (872 + x.toNat)) + 1))) (k1 : ¬ (0 ≤ x ∧ x ≤ V 171 1 - 1) → K u w (some (iv (-1))) S V) : y_R X 3 151 u w [.ref 170, iv x] S V K := by
  refine y_ent (lv' := [(0, .ref 170), (1, iv x)]) (Nat.le_of_ble_eq_true rfl) rfl ?_
  refine y_ld (x := .ref 170) rfl rfl (fun d => rfl) ?_
  refine y_ld (x := iv x) rfl rfl (fun d => rfl) ?_
  refine y_cV (as := [.ref 170, iv x]) rfl rfl rfl rfl rfl (md170 hM) ⟨rfl, (Nat.le_of_ble_eq_true rfl), (Nat.le_of_ble_eq_true rfl)⟩ (by decide) (ct_isBox hM (by omega) ⟨rfl, by omega⟩ ?_)
  refine y_nv ?_
  refine y_bne rfl rfl rfl (fun g1 => ?_) (fun g1 => ?_)
  · refine y_ic rfl rfl ?_
    refine y_st (lv' := [(2, iv 0), (0, .ref 170), (1, iv x)]) rfl rfl (fun d => rfl) ?_
    refine y_lv (l' := [(0, .ref 170), (1, iv x), (2, iv 0)]) rfl ⟨rfl, rfl, rfl, trivial⟩ ?_
    refine y_V (V' := v_ur V 171 (v_cp (V 171) (V 171) (200 + 84 * x.toNat) (880 + 84 * x.toNat) 0)) (v_cp_0 V 171 _ _).symm ?_
    refine y_mono (lq_copy (F := 2000) hM (x := x) (by omega) 85 0 (by omega) (by omega) ?_) (by decide)
    have hkx := hk x.toNat (by omega)
    have e872 : (872 + x).toNat = 872 + x.toNat := by omega
    refine y_ld (x := .ref 170) rfl rfl (fun d => rfl) ?_
    refine y_gR (i := 1) rfl rfl rfl (md170 hM) rfl ?_
    refine y_si rfl rfl (by decide) ?_
    refine y_ld (x := iv x) rfl rfl (fun d => rfl) ?_
    refine y_add (z := (872 + x)) rfl rfl rfl ?_
    refine y_in rfl rfl (fun d => rfl) ?_
    refine y_ild (x := (V 171 (872 + x.toNat))) (q := (872 + x.toNat)) rfl rfl (md171 hM) (by omega) (by decide) (by omega) (by rw [v_ur_eq]; unfold v_cp; rw [if_neg (by omega)]) ?_
    refine y_ic rfl rfl ?_
    refine y_add (z := ((V 171 (872 + x.toNat)) + 1)) rfl rfl rfl ?_
    refine y_ist (q := (872 + x.toNat)) rfl rfl (md171 hM) (by omega) (by decide) (by omega) ?_
    refine y_ld (x := .ref 170) rfl rfl (fun d => rfl) ?_
    refine y_gR (i := 1) rfl rfl rfl (md170 hM) rfl ?_
    refine y_si rfl rfl (by decide) ?_
    refine y_ld (x := iv x) rfl rfl (fun d => rfl) ?_
    refine y_add (z := (872 + x)) rfl rfl rfl ?_
    refine y_ild (x := ((V 171 (872 + x.toNat)) + 1)) (q := (872 + x.toNat)) rfl rfl (md171 hM) (by omega) (by decide) (by omega) (by rw [v_up_eq]) ?_
    refine y_ic rfl rfl ?_
    refine y_sub (z := (((V 171 (872 + x.toNat)) + 1) - 1)) rfl rfl rfl ?_
    refine y_rI rfl (Or.inl rfl) ?_
    exact k0 g1
  · refine y_ic rfl rfl ?_
    refine y_rI rfl (Or.inl rfl) ?_
    exact k1 g1
end
end
section
/-! box, both sides -/
section
variable {X : Nat → List Int32} {u w : Nat} {S : m_H} {V : v_V} {K : v_K}
set_option maxRecDepth 100000 in
set_option maxHeartbeats 4000000 in
theorem cc_clear {m c : Nat} (hm : MeS S m c) (k : K u w none S (v_ur V c (fun _ => 0))) : y_R X 2 7 u w [.ref m] S V K := by
  refine y_ent (lv' := [(0, .ref m)]) (Nat.le_of_ble_eq_true rfl) rfl ?_
  refine y_ld (x := .ref m) rfl rfl (fun d => rfl) ?_
  refine y_gR (i := 0) rfl rfl rfl hm.1 rfl ?_
  refine y_ic rfl rfl ?_
  refine y_cS (as := [.ref c, iv 0]) rfl (by decide) rfl rfl rfl rfl ⟨(Nat.le_of_ble_eq_true rfl), (Nat.le_of_ble_eq_true rfl)⟩ (by decide) (cc_fill (x := 0) hm.2 (by decide) ?_)
  refine y_n0 ?_
  refine y_ret rfl (fun d => rfl) ?_
  exact k
set_option maxRecDepth 100000 in
set_option maxHeartbeats 4000000 in
theorem cb_begin (hC : ClF S) {b : Nat} (hb : b < 8) {n y t : Int} (k : K u w none S (v_ur (v_ur (v_ur (v_up (v_up (v_up (v_up (v_up V (10 + 6 * b) 0 n) (10 + 6 * b) 1 y) (10 + 6 * b) 2 t) (10 + 6 * b) 3 (-5)) (10 + 6 * b) 4 0) (10 + 6 * b + 1) (fun _ => n)) (10 + 6 * b + 3) (fun _ => 0)) (10 + 6 * b + 5) (fun _ => 0))) : y_R X 3 1 u w [.ref (10 + 6 * b), iv n, iv y, iv t] S V K := by
  refine y_ent (lv' := [(0, .ref (10 + 6 * b)), (1, iv n), (2, iv y), (3, iv t)]) (Nat.le_of_ble_eq_true rfl) rfl ?_
  refine y_ld (x := .ref (10 + 6 * b)) rfl rfl (fun d => rfl) ?_
  refine y_ld (x := iv n) rfl rfl (fun d => rfl) ?_
  refine y_pI (i := 0) rfl rfl rfl (bx_ob hC (i := b) (by omega)) rfl rfl ?_
  refine y_ld (x := .ref (10 + 6 * b)) rfl rfl (fun d => rfl) ?_
  refine y_ld (x := iv y) rfl rfl (fun d => rfl) ?_
  refine y_pI (i := 1) rfl rfl rfl (bx_ob hC (i := b) (by omega)) rfl rfl ?_
  refine y_ld (x := .ref (10 + 6 * b)) rfl rfl (fun d => rfl) ?_
  refine y_ld (x := iv t) rfl rfl (fun d => rfl) ?_
  refine y_pI (i := 2) rfl rfl rfl (bx_ob hC (i := b) (by omega)) rfl rfl ?_
  refine y_ld (x := .ref (10 + 6 * b)) rfl rfl (fun d => rfl) ?_
  refine y_bi rfl rfl (by decide) ?_
  refine y_pI (i := 3) rfl rfl rfl (bx_ob hC (i := b) (by omega)) rfl rfl ?_
  refine y_ld (x := .ref (10 + 6 * b)) rfl rfl (fun d => rfl) ?_
  refine y_ic rfl rfl ?_
  refine y_pI (i := 4) rfl rfl rfl (bx_ob hC (i := b) (by omega)) rfl rfl ?_
  refine y_ld (x := .ref (10 + 6 * b)) rfl rfl (fun d => rfl) ?_
  refine y_gR (i := 5) rfl rfl rfl (bx_ob hC (i := b) (by omega)) rfl ?_
  refine y_ld (x := iv n) rfl rfl (fun d => rfl) ?_
  refine y_cS (as := [.ref (10 + 6 * b + 1), iv n]) rfl (by decide) rfl rfl rfl rfl ⟨(Nat.le_of_ble_eq_true rfl), (Nat.le_of_ble_eq_true rfl)⟩ (by decide) (cc_fill (x := n) (bx_led hC (i := b) (by omega)) (by decide) ?_)
  refine y_n0 ?_
  refine y_ld (x := .ref (10 + 6 * b)) rfl rfl (fun d => rfl) ?_
  refine y_gR (i := 6) rfl rfl rfl (bx_ob hC (i := b) (by omega)) rfl ?_
  refine y_cV (as := [.ref (10 + 6 * b + 2)]) rfl rfl rfl rfl rfl (bx_mem hC (i := b) (by omega)) ⟨rfl, (Nat.le_of_ble_eq_true rfl), (Nat.le_of_ble_eq_true rfl)⟩ (by decide) (cc_clear ⟨(bx_mem hC (i := b) (by omega)), (bx_mcl hC (i := b) (by omega))⟩ ?_)
  refine y_n0 ?_
  refine y_ld (x := .ref (10 + 6 * b)) rfl rfl (fun d => rfl) ?_
  refine y_gR (i := 7) rfl rfl rfl (bx_ob hC (i := b) (by omega)) rfl ?_
  refine y_cV (as := [.ref (10 + 6 * b + 4)]) rfl rfl rfl rfl rfl (bx_cop hC (i := b) (by omega)) ⟨rfl, (Nat.le_of_ble_eq_true rfl), (Nat.le_of_ble_eq_true rfl)⟩ (by decide) (cc_clear ⟨(bx_cop hC (i := b) (by omega)), (bx_ccl hC (i := b) (by omega))⟩ ?_)
  refine y_n0 ?_
  refine y_ret rfl (fun d => rfl) ?_
  exact k
set_option maxRecDepth 100000 in
set_option maxHeartbeats 4000000 in
theorem cs_box (hC : ClF S) {ta : List Value} (hT : TAx S V ta) {n : Nat} (hB : V 1 5 = (n : Int) ∧ n ≤ 8) {y : Int} (hy : (-2147483648 ≤ y ∧ y < 2147483648)) {x : Int} (hx : (-2147483648 ≤ x ∧ x < 2147483648)) (k0 : (y : Int) < 0 → K u w (some (iv (-1))) S V) (k1 : ¬ ((y : Int) < 0) → (y : Int) ≥ 7 → K u w (some (iv (-1))) S V) (k2 : ¬ ((y : Int) < 0) → ¬ ((y : Int) ≥ 7) → ¬ (0 ≤ x ∧ x < V 1 3) → K u w (some (iv (-1))) S V) (k3 : ∀ t1 : Nat, ¬ ((y : Int) < 0) → ¬ ((y : Int) ≥ 7) → 0 ≤ x ∧ x < V 1 3 → m_nth ta (x).toNat = some (.ref t1) → 193 ≤ t1 → TxS S t1 → ((n : Int) : Int) < 8 → K u w (some (iv (((n : Int) + 1) - 1))) S (v_up (v_ur (v_ur (v_ur (v_up (v_up (v_up (v_up (v_up V (10 + 6 * n) 0 (n : Int)) (10 + 6 * n) 1 y) (10 + 6 * n) 2 x) (10 + 6 * n) 3 (-5)) (10 + 6 * n) 4 0) (10 + 6 * n + 1) (fun _ => (n : Int))) (10 + 6 * n + 3) (fun _ => 0)) (10 + 6 * n + 5) (fun _ => 0)) 1 5 ((n : Int) + 1))) (k4 : ∀ t1 : Nat, ¬ ((y : Int) < 0) → ¬ ((y : Int) ≥ 7) → 0 ≤ x ∧ x < V 1 3 → m_nth ta (x).toNat = some (.ref t1) → 193 ≤ t1 → TxS S t1 → ¬ (((n : Int) : Int) < 8) → K u w (some (iv (-4))) S V) : y_R X 4 74 u w [.ref 0, iv y, iv x] S V K := by
  have hTa := hT.2.2.1
  have hTb := hT.2.2.2.1
  have hB1 := hB.1
  refine y_ent (lv' := [(0, .ref 0), (1, iv y), (2, iv x)]) (Nat.le_of_ble_eq_true rfl) rfl ?_
  refine y_ld (x := iv y) rfl rfl (fun d => rfl) ?_
  refine y_zlt rfl rfl rfl (by omega) (fun g1 => ?_) (fun g1 => ?_)
  · refine y_ic rfl rfl ?_
    refine y_rI rfl (Or.inl rfl) ?_
    exact k0 (by omega)
  · refine y_ld (x := iv y) rfl rfl (fun d => rfl) ?_
    refine y_bi rfl rfl (by decide) ?_
    refine y_jge rfl rfl rfl (by omega) (fun g2 => ?_) (fun g2 => ?_)
    · refine y_ic rfl rfl ?_
      refine y_rI rfl (Or.inl rfl) ?_
      exact k1 (by omega) (by omega)
    · refine y_ld (x := .ref 0) rfl rfl (fun d => rfl) ?_
      refine y_gR (i := 0) rfl rfl rfl (hC 0 _ _ rfl) rfl ?_
      refine y_ld (x := iv x) rfl rfl (fun d => rfl) ?_
      refine y_cV (as := [.ref 1, iv x]) rfl rfl rfl rfl rfl (hC 1 _ _ rfl) ⟨rfl, (Nat.le_of_ble_eq_true rfl), (Nat.le_of_ble_eq_true rfl)⟩ (by decide) (cb_textAt (x := x) hC hT (by omega) (fun gt1 => ?_) (fun (t1 : Nat) gt1 ht11 ht21 ht31 => ?_))
      · refine y_nv ?_
        refine y_in (pc' := 21) rfl rfl (fun d => rfl) ?_
        refine y_ic rfl rfl ?_
        refine y_rI rfl (Or.inl rfl) ?_
        exact k2 (by omega) (by omega) gt1
      · refine y_nv ?_
        refine y_in (pc' := 23) rfl rfl (fun d => rfl) ?_
        refine y_ld (x := .ref 0) rfl rfl (fun d => rfl) ?_
        refine y_gR (i := 0) rfl rfl rfl (hC 0 _ _ rfl) rfl ?_
        refine y_gI (i := 5) (e := (n : Int)) rfl rfl rfl (hC 1 _ _ rfl) rfl hB.1 ?_
        refine y_bi rfl rfl (by decide) ?_
        refine y_jlt rfl rfl rfl (by omega) (fun g3 => ?_) (fun g3 => ?_)
        · refine y_ld (x := .ref 0) rfl rfl (fun d => rfl) ?_
          refine y_gR (i := 0) rfl rfl rfl (hC 0 _ _ rfl) rfl ?_
          refine y_gR (i := 4) rfl rfl rfl (hC 1 _ _ rfl) rfl ?_
          refine y_ld (x := .ref 0) rfl rfl (fun d => rfl) ?_
          refine y_gR (i := 0) rfl rfl rfl (hC 0 _ _ rfl) rfl ?_
          refine y_gI (i := 5) (e := (n : Int)) rfl rfl rfl (hC 1 _ _ rfl) rfl hB.1 ?_
          obtain ⟨vs, hb1, hb2⟩ := bx_ref hC (i := n) (by omega)
          refine y_rld (i := n) (x := 10 + 6 * n) rfl rfl hb1 (by decide) (by omega) (by omega) hb2 ?_
          refine y_ld (x := .ref 0) rfl rfl (fun d => rfl) ?_
          refine y_gR (i := 0) rfl rfl rfl (hC 0 _ _ rfl) rfl ?_
          refine y_gI (i := 5) (e := (n : Int)) rfl rfl rfl (hC 1 _ _ rfl) rfl hB.1 ?_
          refine y_ld (x := iv y) rfl rfl (fun d => rfl) ?_
          refine y_ld (x := iv x) rfl rfl (fun d => rfl) ?_
          refine y_cV (as := [.ref (10 + 6 * n), iv (n : Int), iv y, iv x]) rfl rfl rfl rfl rfl (bx_ob hC (i := n) (by omega)) ⟨rfl, (Nat.le_of_ble_eq_true rfl), (Nat.le_of_ble_eq_true rfl)⟩ (by decide) (cb_begin (b := n) hC (by omega) ?_)
          refine y_n0 ?_
          refine y_ld (x := .ref 0) rfl rfl (fun d => rfl) ?_
          refine y_gR (i := 0) rfl rfl rfl (hC 0 _ _ rfl) rfl ?_
          refine y_in rfl rfl (fun d => rfl) ?_
          refine y_gI (i := 5) (e := (n : Int)) rfl rfl rfl (hC 1 _ _ rfl) rfl (by rw [v_ur_ne (by omega), v_ur_ne (by omega), v_ur_ne (by omega), v_up_ne (by omega), v_up_ne (by omega), v_up_ne (by omega), v_up_ne (by omega), v_up_ne (by omega)]; exact hB.1) ?_
          refine y_ic rfl rfl ?_
          refine y_add (z := ((n : Int) + 1)) rfl rfl rfl ?_
          refine y_pI (i := 5) rfl rfl rfl (hC 1 _ _ rfl) rfl rfl ?_
          refine y_ld (x := .ref 0) rfl rfl (fun d => rfl) ?_
          refine y_gR (i := 0) rfl rfl rfl (hC 0 _ _ rfl) rfl ?_
          refine y_gI (i := 5) (e := ((n : Int) + 1)) rfl rfl rfl (hC 1 _ _ rfl) rfl (by rw [v_up_eq]) ?_
          refine y_ic rfl rfl ?_
          refine y_sub (z := (((n : Int) + 1) - 1)) rfl rfl rfl ?_
          refine y_rI rfl (Or.inl rfl) ?_
          exact k3 t1 (by omega) (by omega) gt1 ht11 ht21 ht31 (by omega)
        · refine y_bi rfl rfl (by decide) ?_
          refine y_rI rfl (Or.inl rfl) ?_
          exact k4 t1 (by omega) (by omega) gt1 ht11 ht21 ht31 (by omega)
def z_fl (f : Nat → Int) (q n : Nat) (x : Int) : Nat → Int := fun p => if q ≤ p ∧ p < q + n then x else f p
theorem z_fl_0 (f : Nat → Int) (q : Nat) (x : Int) : z_fl f q 0 x = f := funext (fun j => if_neg (by omega))
theorem z_fl_s (f : Nat → Int) (q k : Nat) (x : Int) : v_uf (z_fl f q k x) (q + k) x = z_fl f q (k + 1) x := by
  funext j
  unfold v_uf z_fl
  by_cases h : j = q + k
  · rw [if_pos h, if_pos (by omega)]
  · rw [if_neg h]
    by_cases h2 : q ≤ j ∧ j < q + k
    · rw [if_pos h2, if_pos (by omega)]
    · rw [if_neg h2, if_neg (by omega)]
theorem z_fl_c (f : Nat → Int) {q k i : Nat} {x y : Int} (h : i < q ∨ q + k ≤ i) : v_uf (z_fl f q k x) i y = z_fl (v_uf f i y) q k x := by
  funext j
  unfold v_uf z_fl
  by_cases h2 : j = i
  · rw [if_pos h2, if_neg (by omega)]; exact (if_pos h2).symm
  · rw [if_neg h2]
    by_cases h3 : q ≤ j ∧ j < q + k
    · rw [if_pos h3, if_pos h3]
    · rw [if_neg h3, if_neg h3]; exact (if_neg h2).symm
theorem v_up_r (V : v_V) (a i : Nat) (f : Nat → Int) (x : Int) : v_up (v_ur V a f) a i x = v_ur V a (v_uf f i x) := by
  rw [v_up_ur, v_ur_ur, v_ur_eq]
theorem z_fl2 (V : v_V) (a q p k : Nat) (h : q + 84 ≤ p) (hk : k < 84) : v_up (v_up (v_ur V a (z_fl (z_fl (V a) q k 0) p k 0)) a (q + k) 0) a (p + k) 0 = v_ur V a (z_fl (z_fl (V a) q (k + 1) 0) p (k + 1) 0) := by
  rw [v_up_r, v_up_r, z_fl_c _ (Or.inl (by omega)), z_fl_s, z_fl_s]
set_option maxRecDepth 100000 in
set_option maxHeartbeats 4000000 in
theorem lq_boxA (hM : MdS S) {n : Nat} (hn : n < 8) {y x : Int} {F : Nat} : ∀ (m : Nat) (k : Nat), 84 - k < m → (k ≤ 84) → (y_E X 2 136 F u w 136 [(0, .ref 170), (1, iv y), (2, iv x), (3, iv (n : Int)), (4, iv ((84 : Nat) : Int))] [] S (v_ur V 171 (z_fl (z_fl (V 171) (200 + 84 * n) 84 0) (880 + 84 * n) 84 0)) K) → y_E X 2 136 (36 * m + F) u w 89 [(0, .ref 170), (1, iv y), (2, iv x), (3, iv (n : Int)), (4, iv (k : Int))] [] S (v_ur V 171 (z_fl (z_fl (V 171) (200 + 84 * n) k 0) (880 + 84 * n) k 0)) K := by
  intro m
  induction m with
  | zero => intros; omega
  | succ m ih =>
    intro k hm hI hx2
    refine y_mono (F' := (36 * m + F) + 36) ?_ (by omega)
    refine y_ld (x := iv (k : Int)) rfl rfl (fun d => rfl) ?_
    refine y_bi rfl rfl (by decide) ?_
    refine y_jge rfl rfl rfl (by omega) (fun g1 => ?_) (fun g1 => ?_)
    · refine y_lv (l' := [(0, .ref 170), (1, iv y), (2, iv x), (3, iv (n : Int)), (4, iv (k : Int))]) rfl ⟨rfl, rfl, rfl, rfl, rfl, trivial⟩ ?_
      obtain rfl : k = 84 := by omega
      exact y_mono hx2 (by omega)
    · refine y_ld (x := .ref 170) rfl rfl (fun d => rfl) ?_
      refine y_gR (i := 1) rfl rfl rfl (md170 hM) rfl ?_
      refine y_si rfl rfl (by decide) ?_
      refine y_bi rfl rfl (by decide) ?_
      refine y_ld (x := iv (n : Int)) rfl rfl (fun d => rfl) ?_
      refine y_mul (z := (84 * (n : Int))) rfl rfl rfl ?_
      refine y_add (z := (200 + (84 * (n : Int)))) rfl rfl rfl ?_
      refine y_ld (x := iv (k : Int)) rfl rfl (fun d => rfl) ?_
      refine y_add (z := ((200 + (84 * (n : Int))) + (k : Int))) rfl rfl rfl ?_
      refine y_ic rfl rfl ?_
      refine y_ist (q := (200 + 84 * n + k)) rfl rfl (md171 hM) (by omega) (by decide) (by omega) ?_
      refine y_ld (x := .ref 170) rfl rfl (fun d => rfl) ?_
      refine y_gR (i := 1) rfl rfl rfl (md170 hM) rfl ?_
      refine y_si rfl rfl (by decide) ?_
      refine y_bi rfl rfl (by decide) ?_
      refine y_ld (x := iv (n : Int)) rfl rfl (fun d => rfl) ?_
      refine y_mul (z := (84 * (n : Int))) rfl rfl rfl ?_
      refine y_add (z := (880 + (84 * (n : Int)))) rfl rfl rfl ?_
      refine y_ld (x := iv (k : Int)) rfl rfl (fun d => rfl) ?_
      refine y_add (z := ((880 + (84 * (n : Int))) + (k : Int))) rfl rfl rfl ?_
      refine y_ic rfl rfl ?_
      refine y_ist (q := (880 + 84 * n + k)) rfl rfl (md171 hM) (by omega) (by decide) (by omega) ?_
      refine y_inc (z := ((k + 1 : Nat) : Int)) (lv' := [(4, iv ((k + 1 : Nat) : Int)), (0, .ref 170), (1, iv y), (2, iv x), (3, iv (n : Int))]) rfl rfl rfl (by omega) rfl ?_
      refine y_go rfl rfl ?_
      refine y_lv (l' := [(0, .ref 170), (1, iv y), (2, iv x), (3, iv (n : Int)), (4, iv ((k + 1 : Nat) : Int))]) rfl ⟨rfl, rfl, rfl, rfl, rfl, trivial⟩ ?_
      refine y_V (V' := v_ur V 171 (z_fl (z_fl (V 171) (200 + 84 * n) (k + 1) 0) (880 + 84 * n) (k + 1) 0)) (z_fl2 V 171 _ _ k (by omega) (by omega)) ?_
      exact y_mono (ih (k + 1) (by omega) (by omega) hx2) (by omega)
set_option maxRecDepth 100000 in
set_option maxHeartbeats 4000000 in
theorem lq_boxB (hM : MdS S) {n : Nat} (hn : n < 8) {y x : Int} {F : Nat} : ∀ (m : Nat) (k : Nat), 16 - k < m → (k ≤ 16) → (y_E X 2 136 F u w 169 [(0, .ref 170), (1, iv y), (2, iv x), (3, iv (n : Int)), (4, iv ((16 : Nat) : Int))] [] S (v_ur V 171 (z_fl (V 171) (1552 + 16 * n) 16 n)) K) → y_E X 2 136 (36 * m + F) u w 139 [(0, .ref 170), (1, iv y), (2, iv x), (3, iv (n : Int)), (4, iv (k : Int))] [] S (v_ur V 171 (z_fl (V 171) (1552 + 16 * n) k n)) K := by
  intro m
  induction m with
  | zero => intros; omega
  | succ m ih =>
    intro k hm hI hx2
    refine y_mono (F' := (36 * m + F) + 36) ?_ (by omega)
    refine y_ld (x := iv (k : Int)) rfl rfl (fun d => rfl) ?_
    refine y_bi rfl rfl (by decide) ?_
    refine y_jge rfl rfl rfl (by omega) (fun g1 => ?_) (fun g1 => ?_)
    · refine y_lv (l' := [(0, .ref 170), (1, iv y), (2, iv x), (3, iv (n : Int)), (4, iv (k : Int))]) rfl ⟨rfl, rfl, rfl, rfl, rfl, trivial⟩ ?_
      obtain rfl : k = 16 := by omega
      exact y_mono hx2 (by omega)
    · refine y_ld (x := .ref 170) rfl rfl (fun d => rfl) ?_
      refine y_gR (i := 1) rfl rfl rfl (md170 hM) rfl ?_
      refine y_si rfl rfl (by decide) ?_
      refine y_bi rfl rfl (by decide) ?_
      refine y_ld (x := iv (n : Int)) rfl rfl (fun d => rfl) ?_
      refine y_mul (z := (16 * (n : Int))) rfl rfl rfl ?_
      refine y_add (z := (1552 + (16 * (n : Int)))) rfl rfl rfl ?_
      refine y_ld (x := iv (k : Int)) rfl rfl (fun d => rfl) ?_
      refine y_add (z := ((1552 + (16 * (n : Int))) + (k : Int))) rfl rfl rfl ?_
      refine y_ld (x := iv (n : Int)) rfl rfl (fun d => rfl) ?_
      refine y_ist (q := (1552 + 16 * n + k)) rfl rfl (md171 hM) (by omega) (by decide) (by omega) ?_
      refine y_inc (z := ((k + 1 : Nat) : Int)) (lv' := [(4, iv ((k + 1 : Nat) : Int)), (0, .ref 170), (1, iv y), (2, iv x), (3, iv (n : Int))]) rfl rfl rfl (by omega) rfl ?_
      refine y_go rfl rfl ?_
      refine y_lv (l' := [(0, .ref 170), (1, iv y), (2, iv x), (3, iv (n : Int)), (4, iv ((k + 1 : Nat) : Int))]) rfl ⟨rfl, rfl, rfl, rfl, rfl, trivial⟩ ?_
      refine y_V (V' := v_ur V 171 (z_fl (V 171) (1552 + 16 * n) (k + 1) n)) (by rw [v_up_r, z_fl_s]) ?_
      exact y_mono (ih (k + 1) (by omega) (by omega) hx2) (by omega)
set_option maxRecDepth 100000 in
set_option maxHeartbeats 4000000 in
theorem ms_box (hM : MdS S) (hT : 0 ≤ V 171 0 ∧ V 171 0 ≤ 8) {n : Nat} (hB : V 171 1 = (n : Int) ∧ n ≤ 8) {y : Int} (hy : (-2147483648 ≤ y ∧ y < 2147483648)) {x : Int} (hx : (-2147483648 ≤ x ∧ x < 2147483648)) (k0 : ¬ ((0 ≤ y ∧ y ≤ 6) ∧ 0 ≤ x ∧ x ≤ V 171 0 - 1) → K u w (some (iv (-1))) S V) (k1 : (0 ≤ y ∧ y ≤ 6) ∧ 0 ≤ x ∧ x ≤ V 171 0 - 1 → n = 8 → K u w (some (iv (-4))) S V) (k2 : (0 ≤ y ∧ y ≤ 6) ∧ 0 ≤ x ∧ x ≤ V 171 0 - 1 → n < 8 → K u w (some (iv (n : Int))) S (v_up (v_ur (v_ur (v_up (v_up (v_up (v_up V 171 (170 + n) y) 171 (178 + n) x) 171 (186 + n) (-5)) 171 (872 + n) 0) 171 (z_fl (z_fl ((v_up (v_up (v_up (v_up V 171 (170 + n) y) 171 (178 + n) x) 171 (186 + n) (-5)) 171 (872 + n) 0) 171) (200 + 84 * n) 84 0) (880 + 84 * n) 84 0)) 171 (z_fl ((v_ur (v_up (v_up (v_up (v_up V 171 (170 + n) y) 171 (178 + n) x) 171 (186 + n) (-5)) 171 (872 + n) 0) 171 (z_fl (z_fl ((v_up (v_up (v_up (v_up V 171 (170 + n) y) 171 (178 + n) x) 171 (186 + n) (-5)) 171 (872 + n) 0) 171) (200 + 84 * n) 84 0) (880 + 84 * n) 84 0)) 171) (1552 + 16 * n) 16 n)) 171 1 (n + 1))) : y_R X 3 136 u w [.ref 170, iv y, iv x] S V K := by
  have hB1 := hB.1
  refine y_ent (lv' := [(0, .ref 170), (1, iv y), (2, iv x)]) (Nat.le_of_ble_eq_true rfl) rfl ?_
  refine y_ld (x := iv y) rfl rfl (fun d => rfl) ?_
  refine y_ic rfl rfl ?_
  refine y_bi rfl rfl (by decide) ?_
  refine y_cS (as := [iv y, iv 0, iv 6]) rfl (by decide) rfl rfl rfl rfl ⟨(Nat.le_of_ble_eq_true rfl), (Nat.le_of_ble_eq_true rfl)⟩ (by decide) (ct_in (by omega) ?_)
  refine y_nv ?_
  refine y_beq rfl rfl rfl (fun g1 => ?_) (fun g1 => ?_)
  · refine y_ic rfl rfl ?_
    refine y_rI rfl (Or.inl rfl) ?_
    exact k0 (by omega)
  · refine y_ld (x := .ref 170) rfl rfl (fun d => rfl) ?_
    refine y_ld (x := iv x) rfl rfl (fun d => rfl) ?_
    refine y_cV (as := [.ref 170, iv x]) rfl rfl rfl rfl rfl (md170 hM) ⟨rfl, (Nat.le_of_ble_eq_true rfl), (Nat.le_of_ble_eq_true rfl)⟩ (by decide) (ct_isText hM (by omega) ⟨rfl, by omega⟩ ?_)
    refine y_nv ?_
    refine y_bne rfl rfl rfl (fun g2 => ?_) (fun g2 => ?_)
    · refine y_ld (x := .ref 170) rfl rfl (fun d => rfl) ?_
      refine y_gR (i := 1) rfl rfl rfl (md170 hM) rfl ?_
      refine y_ic rfl rfl ?_
      refine y_ild (x := (n : Int)) (q := 1) rfl rfl (md171 hM) (by decide) (by decide) rfl hB.1 ?_
      refine y_bi rfl rfl (by decide) ?_
      refine y_jne rfl rfl rfl (by omega) (fun g3 => ?_) (fun g3 => ?_)
      · refine y_ld (x := .ref 170) rfl rfl (fun d => rfl) ?_
        refine y_gR (i := 1) rfl rfl rfl (md170 hM) rfl ?_
        refine y_ic rfl rfl ?_
        refine y_ild (x := (n : Int)) (q := 1) rfl rfl (md171 hM) (by decide) (by decide) rfl hB.1 ?_
        refine y_st (lv' := [(3, iv (n : Int)), (0, .ref 170), (1, iv y), (2, iv x)]) rfl rfl (fun d => rfl) ?_
        refine y_ld (x := .ref 170) rfl rfl (fun d => rfl) ?_
        refine y_gR (i := 1) rfl rfl rfl (md170 hM) rfl ?_
        refine y_si rfl rfl (by decide) ?_
        refine y_ld (x := iv (n : Int)) rfl rfl (fun d => rfl) ?_
        refine y_add (z := (170 + (n : Int))) rfl rfl rfl ?_
        refine y_ld (x := iv y) rfl rfl (fun d => rfl) ?_
        refine y_ist (q := (170 + n)) rfl rfl (md171 hM) (by omega) (by decide) (by omega) ?_
        refine y_ld (x := .ref 170) rfl rfl (fun d => rfl) ?_
        refine y_gR (i := 1) rfl rfl rfl (md170 hM) rfl ?_
        refine y_si rfl rfl (by decide) ?_
        refine y_ld (x := iv (n : Int)) rfl rfl (fun d => rfl) ?_
        refine y_add (z := (178 + (n : Int))) rfl rfl rfl ?_
        refine y_ld (x := iv x) rfl rfl (fun d => rfl) ?_
        refine y_ist (q := (178 + n)) rfl rfl (md171 hM) (by omega) (by decide) (by omega) ?_
        refine y_ld (x := .ref 170) rfl rfl (fun d => rfl) ?_
        refine y_gR (i := 1) rfl rfl rfl (md170 hM) rfl ?_
        refine y_si rfl rfl (by decide) ?_
        refine y_ld (x := iv (n : Int)) rfl rfl (fun d => rfl) ?_
        refine y_add (z := (186 + (n : Int))) rfl rfl rfl ?_
        refine y_bi rfl rfl (by decide) ?_
        refine y_ist (q := (186 + n)) rfl rfl (md171 hM) (by omega) (by decide) (by omega) ?_
        refine y_ld (x := .ref 170) rfl rfl (fun d => rfl) ?_
        refine y_gR (i := 1) rfl rfl rfl (md170 hM) rfl ?_
        refine y_si rfl rfl (by decide) ?_
        refine y_ld (x := iv (n : Int)) rfl rfl (fun d => rfl) ?_
        refine y_add (z := (872 + (n : Int))) rfl rfl rfl ?_
        refine y_ic rfl rfl ?_
        refine y_ist (q := (872 + n)) rfl rfl (md171 hM) (by omega) (by decide) (by omega) ?_
        refine y_ic rfl rfl ?_
        refine y_st (lv' := [(4, iv 0), (3, iv (n : Int)), (0, .ref 170), (1, iv y), (2, iv x)]) rfl rfl (fun d => rfl) ?_
        refine y_lv (l' := [(0, .ref 170), (1, iv y), (2, iv x), (3, iv (n : Int)), (4, iv 0)]) rfl ⟨rfl, rfl, rfl, rfl, rfl, trivial⟩ ?_
        generalize hW : (v_up (v_up (v_up (v_up V 171 (170 + n) y) 171 (178 + n) x) 171 (186 + n) (-5)) 171 (872 + n) 0) = W
        refine y_V (V' := v_ur W 171 (z_fl (z_fl (W 171) (200 + 84 * n) 0 0) (880 + 84 * n) 0 0)) (by rw [z_fl_0, z_fl_0, v_ur_self]) ?_
        refine y_mono (lq_boxA (F := 4000) hM (n := n) (by omega) 85 0 (by omega) (by omega) ?_) (by decide)
        have e1 : W 171 1 = (n : Int) := by rw [← hW, v_up_ni (by omega), v_up_ni (by omega), v_up_ni (by omega), v_up_ni (by omega)]; exact hB.1
        refine y_ic rfl rfl ?_
        refine y_st (lv' := [(4, iv 0), (0, .ref 170), (1, iv y), (2, iv x), (3, iv (n : Int))]) rfl rfl (fun d => rfl) ?_
        refine y_lv (l' := [(0, .ref 170), (1, iv y), (2, iv x), (3, iv (n : Int)), (4, iv 0)]) rfl ⟨rfl, rfl, rfl, rfl, rfl, trivial⟩ ?_
        refine y_V (V' := v_ur (v_ur W 171 (z_fl (z_fl (W 171) (200 + 84 * n) 84 0) (880 + 84 * n) 84 0)) 171 (z_fl ((v_ur W 171 (z_fl (z_fl (W 171) (200 + 84 * n) 84 0) (880 + 84 * n) 84 0)) 171) (1552 + 16 * n) 0 n)) (by rw [z_fl_0, v_ur_self]) ?_
        refine y_mono (lq_boxB (F := 2000) hM (n := n) (by omega) 17 0 (by omega) (by omega) ?_) (by decide)
        have e2 : v_ur (v_ur W 171 (z_fl (z_fl (W 171) (200 + 84 * n) 84 0) (880 + 84 * n) 84 0)) 171 (z_fl ((v_ur W 171 (z_fl (z_fl (W 171) (200 + 84 * n) 84 0) (880 + 84 * n) 84 0)) 171) (1552 + 16 * n) 16 n) 171 1 = (n : Int) := by rw [v_ur_eq]; unfold z_fl; rw [if_neg (by omega), v_ur_eq]; show (if _ then _ else if _ then _ else _) = _; rw [if_neg (by omega), if_neg (by omega)]; exact e1
        refine y_ld (x := .ref 170) rfl rfl (fun d => rfl) ?_
        refine y_gR (i := 1) rfl rfl rfl (md170 hM) rfl ?_
        refine y_ic rfl rfl ?_
        refine y_in rfl rfl (fun d => rfl) ?_
        refine y_ild (x := (n : Int)) (q := 1) rfl rfl (md171 hM) (by decide) (by decide) rfl e2 ?_
        refine y_ic rfl rfl ?_
        refine y_add (z := ((n : Int) + 1)) rfl rfl rfl ?_
        refine y_ist (q := 1) rfl rfl (md171 hM) (by decide) (by decide) rfl ?_
        refine y_ld (x := iv (n : Int)) rfl rfl (fun d => rfl) ?_
        refine y_rI rfl (Or.inl rfl) ?_
        subst hW
        exact k2 (by omega) (by omega)
      · refine y_bi rfl rfl (by decide) ?_
        refine y_rI rfl (Or.inl rfl) ?_
        exact k1 (by omega) (by omega)
    · refine y_ic rfl rfl ?_
      refine y_rI rfl (Or.inl rfl) ?_
      exact k0 (by omega)
end
end
section
/-! count, letter, the trace, both sides -/
section
variable {X : Nat → List Int32} {u w : Nat} {S : m_H} {V : v_V} {K : v_K}
theorem y_tso {X : Nat → List Int32} {D j F u w pc : Nat} {lv : m_L} {S : m_H} {V : v_V} {K : v_K} {d lo hi x a : Int} {offs : Array Int} {len b p2 : Nat} {r : List Value} (hc : m_nth (m_code j) pc = some (some (.tableswitch d lo hi offs, len, a, b))) (hx : -2147483648 ≤ x ∧ x < 2147483648) (h : x < lo ∨ hi < x) (hp : m_go pc d = some p2) (k : y_E X D j F u w p2 lv r S V K) : y_E X D j (F + 1) u w pc lv (iv x :: r) S V K := by
  refine y_in hc rfl (fun d' => ?_) k
  rw [m_s_tableswitch]
  show (if (Int32.ofInt x).toInt < lo ∨ hi < (Int32.ofInt x).toInt then _ else _) = _
  rw [v_ti hx.1 hx.2, if_pos h, hp]
set_option maxRecDepth 100000 in
set_option maxHeartbeats 4000000 in
theorem cs_count (hC : ClF S) {x : Int} (hx : (-2147483648 ≤ x ∧ x < 2147483648)) (k0 : x = 0 → K u w (some (iv (V 1 3))) S V) (k1 : x = 1 → K u w (some (iv (V 1 5))) S V) (k2 : x = 2 → K u w (some (iv (V 1 7))) S V) (k3 : x = 3 → K u w (some (iv (V 1 9))) S V) (k4 : x = 4 → K u w (some (iv (V 1 10))) S V) (k5 : x = 5 → K u w (some (iv (V 1 12))) S V) (k6 : x = 6 → K u w (some (iv (V 1 1))) S V) (k7 : x = 7 → K u w (some (iv (V 8 1))) S V) (k8 : x < 0 ∨ 7 < x → K u w (some (iv (-1))) S V) : y_R X 1 96 u w [.ref 0, iv x] S V K := by
  refine y_ent (lv' := [(0, .ref 0), (1, iv x)]) (Nat.le_of_ble_eq_true rfl) rfl ?_
  refine y_ld (x := iv x) rfl rfl (fun d => rfl) ?_
  rcases (show x = 0 ∨ x = 1 ∨ x = 2 ∨ x = 3 ∨ x = 4 ∨ x = 5 ∨ x = 6 ∨ x = 7 ∨ (x < 0 ∨ 7 < x) by omega) with hq | hq | hq | hq | hq | hq | hq | hq | hq
  · rw [hq]
    refine y_lv (l' := [(0, .ref 0), (1, iv 0)]) rfl ⟨rfl, rfl, trivial⟩ ?_
    refine y_in (pc' := 48) rfl rfl (fun d => rfl) ?_
    refine y_ld (x := .ref 0) rfl rfl (fun d => rfl) ?_
    refine y_gR (i := 0) rfl rfl rfl (hC 0 _ _ rfl) rfl ?_
    refine y_gI (i := 3) (e := (V 1 3)) rfl rfl rfl (hC 1 _ _ rfl) rfl rfl ?_
    refine y_rI rfl (Or.inl rfl) ?_
    exact k0 hq
  · rw [hq]
    refine y_lv (l' := [(0, .ref 0), (1, iv 1)]) rfl ⟨rfl, rfl, trivial⟩ ?_
    refine y_in (pc' := 56) rfl rfl (fun d => rfl) ?_
    refine y_ld (x := .ref 0) rfl rfl (fun d => rfl) ?_
    refine y_gR (i := 0) rfl rfl rfl (hC 0 _ _ rfl) rfl ?_
    refine y_gI (i := 5) (e := (V 1 5)) rfl rfl rfl (hC 1 _ _ rfl) rfl rfl ?_
    refine y_rI rfl (Or.inl rfl) ?_
    exact k1 hq
  · rw [hq]
    refine y_lv (l' := [(0, .ref 0), (1, iv 2)]) rfl ⟨rfl, rfl, trivial⟩ ?_
    refine y_in (pc' := 64) rfl rfl (fun d => rfl) ?_
    refine y_ld (x := .ref 0) rfl rfl (fun d => rfl) ?_
    refine y_gR (i := 0) rfl rfl rfl (hC 0 _ _ rfl) rfl ?_
    refine y_gI (i := 7) (e := (V 1 7)) rfl rfl rfl (hC 1 _ _ rfl) rfl rfl ?_
    refine y_rI rfl (Or.inl rfl) ?_
    exact k2 hq
  · rw [hq]
    refine y_lv (l' := [(0, .ref 0), (1, iv 3)]) rfl ⟨rfl, rfl, trivial⟩ ?_
    refine y_in (pc' := 72) rfl rfl (fun d => rfl) ?_
    refine y_ld (x := .ref 0) rfl rfl (fun d => rfl) ?_
    refine y_gR (i := 0) rfl rfl rfl (hC 0 _ _ rfl) rfl ?_
    refine y_gI (i := 9) (e := (V 1 9)) rfl rfl rfl (hC 1 _ _ rfl) rfl rfl ?_
    refine y_rI rfl (Or.inl rfl) ?_
    exact k3 hq
  · rw [hq]
    refine y_lv (l' := [(0, .ref 0), (1, iv 4)]) rfl ⟨rfl, rfl, trivial⟩ ?_
    refine y_in (pc' := 80) rfl rfl (fun d => rfl) ?_
    refine y_ld (x := .ref 0) rfl rfl (fun d => rfl) ?_
    refine y_gR (i := 0) rfl rfl rfl (hC 0 _ _ rfl) rfl ?_
    refine y_gI (i := 10) (e := (V 1 10)) rfl rfl rfl (hC 1 _ _ rfl) rfl rfl ?_
    refine y_rI rfl (Or.inl rfl) ?_
    exact k4 hq
  · rw [hq]
    refine y_lv (l' := [(0, .ref 0), (1, iv 5)]) rfl ⟨rfl, rfl, trivial⟩ ?_
    refine y_in (pc' := 88) rfl rfl (fun d => rfl) ?_
    refine y_ld (x := .ref 0) rfl rfl (fun d => rfl) ?_
    refine y_gR (i := 0) rfl rfl rfl (hC 0 _ _ rfl) rfl ?_
    refine y_gI (i := 12) (e := (V 1 12)) rfl rfl rfl (hC 1 _ _ rfl) rfl rfl ?_
    refine y_rI rfl (Or.inl rfl) ?_
    exact k5 hq
  · rw [hq]
    refine y_lv (l' := [(0, .ref 0), (1, iv 6)]) rfl ⟨rfl, rfl, trivial⟩ ?_
    refine y_in (pc' := 96) rfl rfl (fun d => rfl) ?_
    refine y_ld (x := .ref 0) rfl rfl (fun d => rfl) ?_
    refine y_gR (i := 0) rfl rfl rfl (hC 0 _ _ rfl) rfl ?_
    refine y_gI (i := 1) (e := (V 1 1)) rfl rfl rfl (hC 1 _ _ rfl) rfl rfl ?_
    refine y_rI rfl (Or.inl rfl) ?_
    exact k6 hq
  · rw [hq]
    refine y_lv (l' := [(0, .ref 0), (1, iv 7)]) rfl ⟨rfl, rfl, trivial⟩ ?_
    refine y_in (pc' := 104) rfl rfl (fun d => rfl) ?_
    refine y_ld (x := .ref 0) rfl rfl (fun d => rfl) ?_
    refine y_gR (i := 0) rfl rfl rfl (hC 0 _ _ rfl) rfl ?_
    refine y_gR (i := 13) rfl rfl rfl (hC 1 _ _ rfl) rfl ?_
    refine y_gI (i := 1) (e := (V 8 1)) rfl rfl rfl (hC 8 _ _ rfl) rfl rfl ?_
    refine y_rI rfl (Or.inl rfl) ?_
    exact k7 hq
  · refine y_tso rfl (by omega) hq rfl ?_
    refine y_ic rfl rfl ?_
    refine y_rI rfl (Or.inl rfl) ?_
    exact k8 hq
set_option maxRecDepth 100000 in
set_option maxHeartbeats 4000000 in
theorem ms_count (hM : MdS S) {x : Int} (hx : (-2147483648 ≤ x ∧ x < 2147483648)) (k0 : x = 0 → K u w (some (iv (V 171 0))) S V) (k1 : x = 1 → K u w (some (iv (V 171 1))) S V) (k2 : x = 2 → K u w (some (iv (V 171 2))) S V) (k3 : x = 3 → K u w (some (iv (V 171 3))) S V) (k4 : x = 4 → K u w (some (iv (V 171 4))) S V) (k5 : x = 5 → K u w (some (iv (V 171 5))) S V) (k6 : x = 6 → K u w (some (iv (V 171 6))) S V) (k7 : x = 7 → K u w (some (iv (V 170 40))) S V) (k8 : x < 0 ∨ 7 < x → K u w (some (iv (-1))) S V) : y_R X 1 178 u w [.ref 170, iv x] S V K := by
  refine y_ent (lv' := [(0, .ref 170), (1, iv x)]) (Nat.le_of_ble_eq_true rfl) rfl ?_
  refine y_ld (x := iv x) rfl rfl (fun d => rfl) ?_
  rcases (show x = 0 ∨ x = 1 ∨ x = 2 ∨ x = 3 ∨ x = 4 ∨ x = 5 ∨ x = 6 ∨ x = 7 ∨ (x < 0 ∨ 7 < x) by omega) with hq | hq | hq | hq | hq | hq | hq | hq | hq
  · rw [hq]
    refine y_lv (l' := [(0, .ref 170), (1, iv 0)]) rfl ⟨rfl, rfl, trivial⟩ ?_
    refine y_in (pc' := 48) rfl rfl (fun d => rfl) ?_
    refine y_ld (x := .ref 170) rfl rfl (fun d => rfl) ?_
    refine y_gR (i := 1) rfl rfl rfl (md170 hM) rfl ?_
    refine y_ic rfl rfl ?_
    refine y_ild (x := (V 171 0)) (q := 0) rfl rfl (md171 hM) (by decide) (by decide) rfl rfl ?_
    refine y_rI rfl (Or.inl rfl) ?_
    exact k0 hq
  · rw [hq]
    refine y_lv (l' := [(0, .ref 170), (1, iv 1)]) rfl ⟨rfl, rfl, trivial⟩ ?_
    refine y_in (pc' := 55) rfl rfl (fun d => rfl) ?_
    refine y_ld (x := .ref 170) rfl rfl (fun d => rfl) ?_
    refine y_gR (i := 1) rfl rfl rfl (md170 hM) rfl ?_
    refine y_ic rfl rfl ?_
    refine y_ild (x := (V 171 1)) (q := 1) rfl rfl (md171 hM) (by decide) (by decide) rfl rfl ?_
    refine y_rI rfl (Or.inl rfl) ?_
    exact k1 hq
  · rw [hq]
    refine y_lv (l' := [(0, .ref 170), (1, iv 2)]) rfl ⟨rfl, rfl, trivial⟩ ?_
    refine y_in (pc' := 62) rfl rfl (fun d => rfl) ?_
    refine y_ld (x := .ref 170) rfl rfl (fun d => rfl) ?_
    refine y_gR (i := 1) rfl rfl rfl (md170 hM) rfl ?_
    refine y_ic rfl rfl ?_
    refine y_ild (x := (V 171 2)) (q := 2) rfl rfl (md171 hM) (by decide) (by decide) rfl rfl ?_
    refine y_rI rfl (Or.inl rfl) ?_
    exact k2 hq
  · rw [hq]
    refine y_lv (l' := [(0, .ref 170), (1, iv 3)]) rfl ⟨rfl, rfl, trivial⟩ ?_
    refine y_in (pc' := 69) rfl rfl (fun d => rfl) ?_
    refine y_ld (x := .ref 170) rfl rfl (fun d => rfl) ?_
    refine y_gR (i := 1) rfl rfl rfl (md170 hM) rfl ?_
    refine y_ic rfl rfl ?_
    refine y_ild (x := (V 171 3)) (q := 3) rfl rfl (md171 hM) (by decide) (by decide) rfl rfl ?_
    refine y_rI rfl (Or.inl rfl) ?_
    exact k3 hq
  · rw [hq]
    refine y_lv (l' := [(0, .ref 170), (1, iv 4)]) rfl ⟨rfl, rfl, trivial⟩ ?_
    refine y_in (pc' := 76) rfl rfl (fun d => rfl) ?_
    refine y_ld (x := .ref 170) rfl rfl (fun d => rfl) ?_
    refine y_gR (i := 1) rfl rfl rfl (md170 hM) rfl ?_
    refine y_ic rfl rfl ?_
    refine y_ild (x := (V 171 4)) (q := 4) rfl rfl (md171 hM) (by decide) (by decide) rfl rfl ?_
    refine y_rI rfl (Or.inl rfl) ?_
    exact k4 hq
  · rw [hq]
    refine y_lv (l' := [(0, .ref 170), (1, iv 5)]) rfl ⟨rfl, rfl, trivial⟩ ?_
    refine y_in (pc' := 83) rfl rfl (fun d => rfl) ?_
    refine y_ld (x := .ref 170) rfl rfl (fun d => rfl) ?_
    refine y_gR (i := 1) rfl rfl rfl (md170 hM) rfl ?_
    refine y_ic rfl rfl ?_
    refine y_ild (x := (V 171 5)) (q := 5) rfl rfl (md171 hM) (by decide) (by decide) rfl rfl ?_
    refine y_rI rfl (Or.inl rfl) ?_
    exact k5 hq
  · rw [hq]
    refine y_lv (l' := [(0, .ref 170), (1, iv 6)]) rfl ⟨rfl, rfl, trivial⟩ ?_
    refine y_in (pc' := 90) rfl rfl (fun d => rfl) ?_
    refine y_ld (x := .ref 170) rfl rfl (fun d => rfl) ?_
    refine y_gR (i := 1) rfl rfl rfl (md170 hM) rfl ?_
    refine y_bi rfl rfl (by decide) ?_
    refine y_ild (x := (V 171 6)) (q := 6) rfl rfl (md171 hM) (by decide) (by decide) rfl rfl ?_
    refine y_rI rfl (Or.inl rfl) ?_
    exact k6 hq
  · rw [hq]
    refine y_lv (l' := [(0, .ref 170), (1, iv 7)]) rfl ⟨rfl, rfl, trivial⟩ ?_
    refine y_in (pc' := 98) rfl rfl (fun d => rfl) ?_
    refine y_ld (x := .ref 170) rfl rfl (fun d => rfl) ?_
    refine y_gI (i := 40) (e := (V 170 40)) rfl rfl rfl (md170 hM) rfl rfl ?_
    refine y_rI rfl (Or.inl rfl) ?_
    exact k7 hq
  · refine y_tso rfl (by omega) hq rfl ?_
    refine y_ic rfl rfl ?_
    refine y_rI rfl (Or.inl rfl) ?_
    exact k8 hq
set_option maxRecDepth 100000 in
set_option maxHeartbeats 4000000 in
theorem ms_trace (hM : MdS S) {x : Int} (hx : (-2147483648 ≤ x ∧ x < 2147483648)) (hr : 0 ≤ V 170 40 ∧ V 170 40 < 2147483648) (k0 : (V 170 40 : Int) ≥ 20 → ¬ (0 ≤ x ∧ x ≤ 19) → K u w (some (iv (-1))) S V) (k1 : (V 170 40 : Int) ≥ 20 → (0 ≤ x ∧ x ≤ 19) → K u w (some (iv (V 192 ((x).toNat)))) S V) (k2 : ¬ ((V 170 40 : Int) ≥ 20) → ¬ (0 ≤ x ∧ x ≤ ((V 170 40) - 1)) → K u w (some (iv (-1))) S V) (k3 : ¬ ((V 170 40 : Int) ≥ 20) → (0 ≤ x ∧ x ≤ ((V 170 40) - 1)) → K u w (some (iv (V 192 ((x).toNat)))) S V) : y_R X 2 174 u w [.ref 170, iv x] S V K := by
  refine y_ent (lv' := [(0, .ref 170), (1, iv x)]) (Nat.le_of_ble_eq_true rfl) rfl ?_
  refine y_ld (x := iv x) rfl rfl (fun d => rfl) ?_
  refine y_ic rfl rfl ?_
  refine y_ld (x := .ref 170) rfl rfl (fun d => rfl) ?_
  refine y_gI (i := 40) (e := (V 170 40)) rfl rfl rfl (md170 hM) rfl rfl ?_
  refine y_bi rfl rfl (by decide) ?_
  refine y_jge rfl rfl rfl (by omega) (fun g1 => ?_) (fun g1 => ?_)
  · refine y_bi rfl rfl (by decide) ?_
    refine y_ic rfl rfl ?_
    refine y_sub (z := 19) rfl rfl rfl ?_
    refine y_cS (as := [iv x, iv 0, iv 19]) rfl (by decide) rfl rfl rfl rfl ⟨(Nat.le_of_ble_eq_true rfl), (Nat.le_of_ble_eq_true rfl)⟩ (by decide) (ct_in (by omega) ?_)
    refine y_nv ?_
    refine y_beq rfl rfl rfl (fun g2 => ?_) (fun g2 => ?_)
    · refine y_ic rfl rfl ?_
      refine y_rI rfl (Or.inl rfl) ?_
      exact k0 (by omega) g2
    · refine y_ld (x := .ref 170) rfl rfl (fun d => rfl) ?_
      refine y_gR (i := 39) rfl rfl rfl (md170 hM) rfl ?_
      refine y_ld (x := iv x) rfl rfl (fun d => rfl) ?_
      refine y_ild (x := (V 192 ((x).toNat))) (q := ((x).toNat)) rfl rfl (md192 hM) (by omega) (by decide) rfl rfl ?_
      refine y_go rfl rfl ?_
      refine y_rI rfl (Or.inl rfl) ?_
      exact k1 (by omega) g2
  · refine y_ld (x := .ref 170) rfl rfl (fun d => rfl) ?_
    refine y_gI (i := 40) (e := (V 170 40)) rfl rfl rfl (md170 hM) rfl rfl ?_
    refine y_go rfl rfl ?_
    refine y_ic rfl rfl ?_
    refine y_sub (z := ((V 170 40) - 1)) rfl rfl rfl ?_
    refine y_cS (as := [iv x, iv 0, iv ((V 170 40) - 1)]) rfl (by decide) rfl rfl rfl rfl ⟨(Nat.le_of_ble_eq_true rfl), (Nat.le_of_ble_eq_true rfl)⟩ (by decide) (ct_in (by omega) ?_)
    refine y_nv ?_
    refine y_beq rfl rfl rfl (fun g3 => ?_) (fun g3 => ?_)
    · refine y_ic rfl rfl ?_
      refine y_rI rfl (Or.inl rfl) ?_
      exact k2 (by omega) g3
    · refine y_ld (x := .ref 170) rfl rfl (fun d => rfl) ?_
      refine y_gR (i := 39) rfl rfl rfl (md170 hM) rfl ?_
      refine y_ld (x := iv x) rfl rfl (fun d => rfl) ?_
      refine y_ild (x := (V 192 ((x).toNat))) (q := ((x).toNat)) rfl rfl (md192 hM) (by omega) (by decide) rfl rfl ?_
      refine y_go rfl rfl ?_
      refine y_rI rfl (Or.inl rfl) ?_
      exact k3 (by omega) g3
set_option maxRecDepth 100000 in
set_option maxHeartbeats 4000000 in
theorem cp_init {a : Nat} (ha : ce S a 2 [.int 0, .int 0, .int 0, .int 0]) {t h y n : Int} (k : K u w none S (v_up (v_up (v_up (v_up V a 0 t) a 1 h) a 2 y) a 3 n)) : y_R X 1 15 u w [.ref a, iv t, iv h, iv y, iv n] S V K := by
  refine y_ent (lv' := [(0, .ref a), (1, iv t), (2, iv h), (3, iv y), (4, iv n)]) (Nat.le_of_ble_eq_true rfl) rfl ?_
  refine y_ld (x := .ref a) rfl rfl (fun d => rfl) ?_
  refine y_in rfl rfl (fun d => rfl) ?_
  refine y_ld (x := .ref a) rfl rfl (fun d => rfl) ?_
  refine y_ld (x := iv t) rfl rfl (fun d => rfl) ?_
  refine y_pI (i := 0) rfl rfl rfl ha rfl rfl ?_
  refine y_ld (x := .ref a) rfl rfl (fun d => rfl) ?_
  refine y_ld (x := iv h) rfl rfl (fun d => rfl) ?_
  refine y_pI (i := 1) rfl rfl rfl ha rfl rfl ?_
  refine y_ld (x := .ref a) rfl rfl (fun d => rfl) ?_
  refine y_ld (x := iv y) rfl rfl (fun d => rfl) ?_
  refine y_pI (i := 2) rfl rfl rfl ha rfl rfl ?_
  refine y_ld (x := .ref a) rfl rfl (fun d => rfl) ?_
  refine y_ld (x := iv n) rfl rfl (fun d => rfl) ?_
  refine y_pI (i := 3) rfl rfl rfl ha rfl rfl ?_
  refine y_ret rfl (fun d => rfl) ?_
  exact k
theorem cl_app {S : m_H} (hC : ClF S) {c : Nat × List Value} : ClF (S ++ [c]) := fun k t vs hk => ce_app (hC k t vs hk)
set_option maxRecDepth 100000 in
set_option maxHeartbeats 4000000 in
theorem cs_letter (hC : ClF S) (hSl : 193 ≤ S.length ∧ S.length + 7 < 1000000) {la : List Value} (hla : ce S 7 24 la) (hll : la.length = 5) {n : Nat} (hn : V 1 12 = (n : Int) ∧ n ≤ 5) {t : Int} (ht : (-2147483648 ≤ t ∧ t < 2147483648)) {h : Int} (hh1 : (-2147483648 ≤ h ∧ h < 2147483648)) {y : Int} (hy : (-2147483648 ≤ y ∧ y < 2147483648)) {o : Int} (ho : (-2147483648 ≤ o ∧ o < 2147483648)) (k0 : (z_rf t h y o : Int) = 0 → ((n : Int) : Int) < 5 → K (u + 1) (w + 4) (some (iv ((n : Int) + 1))) ((S ++ [(2, m_dfl 2)]).set 7 (24, la.set n (.ref S.length))) (v_up (v_up (v_up (v_up (v_up (v_ur V S.length (fun _ => 0)) S.length 0 t) S.length 1 h) S.length 2 y) S.length 3 o) 1 12 ((n : Int) + 1))) (k1 : (z_rf t h y o : Int) = 0 → ¬ (((n : Int) : Int) < 5) → K u w (some (iv (-4))) S V) (k2 : ¬ ((z_rf t h y o : Int) = 0) → K u w (some (iv (z_rf t h y o))) S V) : y_R X 3 87 u w [.ref 0, iv t, iv h, iv y, iv o] S V K := by
  have hn1 := hn.1
  refine y_ent (lv' := [(0, .ref 0), (1, iv t), (2, iv h), (3, iv y), (4, iv o)]) (Nat.le_of_ble_eq_true rfl) rfl ?_
  refine y_ld (x := iv t) rfl rfl (fun d => rfl) ?_
  refine y_ld (x := iv h) rfl rfl (fun d => rfl) ?_
  refine y_ld (x := iv y) rfl rfl (fun d => rfl) ?_
  refine y_ld (x := iv o) rfl rfl (fun d => rfl) ?_
  refine y_cS (as := [iv t, iv h, iv y, iv o]) rfl (by decide) rfl rfl rfl rfl ⟨(Nat.le_of_ble_eq_true rfl), (Nat.le_of_ble_eq_true rfl)⟩ (by decide) (cc_refusalOf (by omega) ?_)
  refine y_nv ?_
  refine y_st (lv' := [(5, iv (z_rf t h y o)), (0, .ref 0), (1, iv t), (2, iv h), (3, iv y), (4, iv o)]) rfl rfl (fun d => rfl) ?_
  refine y_ld (x := iv (z_rf t h y o)) rfl rfl (fun d => rfl) ?_
  have hrf : -2147483648 ≤ z_rf t h y o ∧ z_rf t h y o < 2147483648 := by unfold z_rf; (split <;> try split) <;> omega
  refine y_zeq rfl rfl rfl (by omega) (fun g1 => ?_) (fun g1 => ?_)
  · refine y_ld (x := .ref 0) rfl rfl (fun d => rfl) ?_
    refine y_gR (i := 0) rfl rfl rfl (hC 0 _ _ rfl) rfl ?_
    refine y_gI (i := 12) (e := (n : Int)) rfl rfl rfl (hC 1 _ _ rfl) rfl hn.1 ?_
    refine y_ic rfl rfl ?_
    refine y_jlt rfl rfl rfl (by omega) (fun g2 => ?_) (fun g2 => ?_)
    · refine y_ld (x := .ref 0) rfl rfl (fun d => rfl) ?_
      refine y_gR (i := 0) rfl rfl rfl (hC 0 _ _ rfl) rfl ?_
      refine y_gR (i := 11) rfl rfl rfl (hC 1 _ _ rfl) rfl ?_
      refine y_ld (x := .ref 0) rfl rfl (fun d => rfl) ?_
      refine y_gR (i := 0) rfl rfl rfl (hC 0 _ _ rfl) rfl ?_
      refine y_gI (i := 12) (e := (n : Int)) rfl rfl rfl (hC 1 _ _ rfl) rfl hn.1 ?_
      refine y_new (z := 4) rfl rfl (by omega) rfl (dfl_ok (by decide)) ?_
      refine y_V (V' := v_ur V S.length (fun _ => 0)) rfl ?_
      have hp : ce (S ++ [(2, m_dfl 2)]) S.length 2 [.int 0, .int 0, .int 0, .int 0] := ce_new (by omega)
      have h7 : ce (S ++ [(2, m_dfl 2)]) 7 24 la := ce_app hla
      have hCp : ClF (S ++ [(2, m_dfl 2)]) := cl_app hC
      refine y_in rfl rfl (fun d => rfl) ?_
      refine y_ld (x := iv t) rfl rfl (fun d => rfl) ?_
      refine y_ld (x := iv h) rfl rfl (fun d => rfl) ?_
      refine y_ld (x := iv y) rfl rfl (fun d => rfl) ?_
      refine y_ld (x := iv o) rfl rfl (fun d => rfl) ?_
      refine y_cI (as := [.ref S.length, iv t, iv h, iv y, iv o]) rfl (by decide) rfl rfl rfl rfl ⟨(Nat.le_of_ble_eq_true rfl), (Nat.le_of_ble_eq_true rfl), (by omega)⟩ (by decide) (cp_init hp ?_)
      refine y_n0 ?_
      refine y_rst (i := n) rfl rfl h7 (by decide) (by omega) (by omega) (by omega) (Or.inr ⟨S.length, _, rfl, hp⟩) ?_
      have hCq : ClF ((S ++ [(2, m_dfl 2)]).set 7 (24, la.set n (.ref S.length))) := cl_set hCp (by decide)
      refine y_ld (x := .ref 0) rfl rfl (fun d => rfl) ?_
      refine y_gR (i := 0) rfl rfl rfl (hCq 0 _ _ rfl) rfl ?_
      refine y_in rfl rfl (fun d => rfl) ?_
      refine y_gI (i := 12) (e := (n : Int)) rfl rfl rfl (hCq 1 _ _ rfl) rfl (by rw [v_up_ne (by omega), v_up_ne (by omega), v_up_ne (by omega), v_up_ne (by omega), v_ur_ne (by omega)]; exact hn.1) ?_
      refine y_ic rfl rfl ?_
      refine y_add (z := ((n : Int) + 1)) rfl rfl rfl ?_
      refine y_pI (i := 12) rfl rfl rfl (hCq 1 _ _ rfl) rfl rfl ?_
      refine y_ld (x := .ref 0) rfl rfl (fun d => rfl) ?_
      refine y_gR (i := 0) rfl rfl rfl (hCq 0 _ _ rfl) rfl ?_
      refine y_gI (i := 12) (e := ((n : Int) + 1)) rfl rfl rfl (hCq 1 _ _ rfl) rfl (by rw [v_up_eq]) ?_
      refine y_rI rfl (Or.inl rfl) ?_
      exact k0 (by omega) (by omega)
    · refine y_bi rfl rfl (by decide) ?_
      refine y_rI rfl (Or.inl rfl) ?_
      exact k1 (by omega) (by omega)
  · refine y_ld (x := iv (z_rf t h y o)) rfl rfl (fun d => rfl) ?_
    refine y_rI rfl (Or.inl rfl) ?_
    exact k2 (by omega)
set_option maxRecDepth 100000 in
set_option maxHeartbeats 4000000 in
theorem ct_isPacket {t h y : Int} (e : (-2147483648 ≤ t ∧ t < 2147483648) ∧ (-2147483648 ≤ h ∧ h < 2147483648) ∧ (-2147483648 ≤ y ∧ y < 2147483648)) (k : K u w (some (iv (v_b ((0 ≤ t ∧ t ≤ 15) ∧ (0 ≤ h ∧ h ≤ 3) ∧ (0 ≤ y ∧ y ≤ 3))))) S V) : y_R X 3 135 u w [iv t, iv h, iv y] S V K := by
  refine y_ent (lv' := [(0, iv t), (1, iv h), (2, iv y)]) (Nat.le_of_ble_eq_true rfl) rfl ?_
  refine y_ld (x := iv t) rfl rfl (fun d => rfl) ?_
  refine y_cS (as := [iv t]) rfl (by decide) rfl rfl rfl rfl ⟨(Nat.le_of_ble_eq_true rfl), (Nat.le_of_ble_eq_true rfl)⟩ (by decide) (ct_isTalk (by omega) ?_)
  refine y_nv ?_
  refine y_beq rfl rfl rfl (fun g1 => ?_) (fun g1 => ?_)
  · refine y_ic rfl rfl ?_
    refine y_rI rfl (by decide) ?_
    rwa [v_b0 (by omega)] at k
  · refine y_ld (x := iv h) rfl rfl (fun d => rfl) ?_
    refine y_cS (as := [iv h]) rfl (by decide) rfl rfl rfl rfl ⟨(Nat.le_of_ble_eq_true rfl), (Nat.le_of_ble_eq_true rfl)⟩ (by decide) (ct_isFour (by omega) ?_)
    refine y_nv ?_
    refine y_beq rfl rfl rfl (fun g2 => ?_) (fun g2 => ?_)
    · refine y_ic rfl rfl ?_
      refine y_rI rfl (by decide) ?_
      rwa [v_b0 (by omega)] at k
    · refine y_ld (x := iv y) rfl rfl (fun d => rfl) ?_
      refine y_cS (as := [iv y]) rfl (by decide) rfl rfl rfl rfl ⟨(Nat.le_of_ble_eq_true rfl), (Nat.le_of_ble_eq_true rfl)⟩ (by decide) (ct_isFour (by omega) ?_)
      refine y_nv ?_
      refine y_beq rfl rfl rfl (fun g3 => ?_) (fun g3 => ?_)
      · refine y_ic rfl rfl ?_
        refine y_rI rfl (by decide) ?_
        rwa [v_b0 (by omega)] at k
      · refine y_ic rfl rfl ?_
        refine y_go rfl rfl ?_
        refine y_rI rfl (by decide) ?_
        rwa [v_b1 (by omega)] at k
set_option maxRecDepth 100000 in
set_option maxHeartbeats 4000000 in
theorem ms_letter (hM : MdS S) {n : Nat} (hn : V 171 5 = (n : Int) ∧ n ≤ 5) {t : Int} (ht : (-2147483648 ≤ t ∧ t < 2147483648)) {h : Int} (hh1 : (-2147483648 ≤ h ∧ h < 2147483648)) {y : Int} (hy : (-2147483648 ≤ y ∧ y < 2147483648)) {o : Int} (ho : (-2147483648 ≤ o ∧ o < 2147483648)) (k0 : ((0 ≤ t ∧ t ≤ 15) ∧ (0 ≤ h ∧ h ≤ 3) ∧ (0 ≤ y ∧ y ≤ 3)) → (0 ≤ o ∧ o ≤ 99) → ((n : Int) : Int) ≠ 5 → K u w (some (iv ((n : Int) + 1))) S (v_up (v_up (v_up (v_up (v_up V 171 (1770 + 4 * n) t) 171 (1770 + 4 * n + 1) h) 171 (1770 + 4 * n + 2) y) 171 (1770 + 4 * n + 3) o) 171 5 ((n : Int) + 1))) (k1 : ((0 ≤ t ∧ t ≤ 15) ∧ (0 ≤ h ∧ h ≤ 3) ∧ (0 ≤ y ∧ y ≤ 3)) → (0 ≤ o ∧ o ≤ 99) → ¬ (((n : Int) : Int) ≠ 5) → K u w (some (iv (-4))) S V) (k2 : ((0 ≤ t ∧ t ≤ 15) ∧ (0 ≤ h ∧ h ≤ 3) ∧ (0 ≤ y ∧ y ≤ 3)) → ¬ (0 ≤ o ∧ o ≤ 99) → K u w (some (iv (-2))) S V) (k3 : ¬ ((0 ≤ t ∧ t ≤ 15) ∧ (0 ≤ h ∧ h ≤ 3) ∧ (0 ≤ y ∧ y ≤ 3)) → K u w (some (iv (-1))) S V) : y_R X 4 153 u w [.ref 170, iv t, iv h, iv y, iv o] S V K := by
  have hn1 := hn.1
  refine y_ent (lv' := [(0, .ref 170), (1, iv t), (2, iv h), (3, iv y), (4, iv o)]) (Nat.le_of_ble_eq_true rfl) rfl ?_
  refine y_ld (x := iv t) rfl rfl (fun d => rfl) ?_
  refine y_ld (x := iv h) rfl rfl (fun d => rfl) ?_
  refine y_ld (x := iv y) rfl rfl (fun d => rfl) ?_
  refine y_cS (as := [iv t, iv h, iv y]) rfl (by decide) rfl rfl rfl rfl ⟨(Nat.le_of_ble_eq_true rfl), (Nat.le_of_ble_eq_true rfl)⟩ (by decide) (ct_isPacket (by omega) ?_)
  refine y_nv ?_
  refine y_bne rfl rfl rfl (fun g1 => ?_) (fun g1 => ?_)
  · refine y_ld (x := iv o) rfl rfl (fun d => rfl) ?_
    refine y_ic rfl rfl ?_
    refine y_bi rfl rfl (by decide) ?_
    refine y_cS (as := [iv o, iv 0, iv 99]) rfl (by decide) rfl rfl rfl rfl ⟨(Nat.le_of_ble_eq_true rfl), (Nat.le_of_ble_eq_true rfl)⟩ (by decide) (ct_in (by omega) ?_)
    refine y_nv ?_
    refine y_bne rfl rfl rfl (fun g2 => ?_) (fun g2 => ?_)
    · refine y_ld (x := .ref 170) rfl rfl (fun d => rfl) ?_
      refine y_gR (i := 1) rfl rfl rfl (md170 hM) rfl ?_
      refine y_ic rfl rfl ?_
      refine y_ild (x := (n : Int)) (q := 5) rfl rfl (md171 hM) (by decide) (by decide) rfl hn.1 ?_
      refine y_ic rfl rfl ?_
      refine y_jne rfl rfl rfl (by omega) (fun g3 => ?_) (fun g3 => ?_)
      · refine y_si rfl rfl (by decide) ?_
        refine y_ic rfl rfl ?_
        refine y_ld (x := .ref 170) rfl rfl (fun d => rfl) ?_
        refine y_gR (i := 1) rfl rfl rfl (md170 hM) rfl ?_
        refine y_ic rfl rfl ?_
        refine y_ild (x := (n : Int)) (q := 5) rfl rfl (md171 hM) (by decide) (by decide) rfl hn.1 ?_
        refine y_mul (z := (4 * (n : Int))) rfl rfl rfl ?_
        refine y_add (z := (1770 + (4 * (n : Int)))) rfl rfl rfl ?_
        refine y_st (lv' := [(5, iv (1770 + (4 * (n : Int)))), (0, .ref 170), (1, iv t), (2, iv h), (3, iv y), (4, iv o)]) rfl rfl (fun d => rfl) ?_
        refine y_ld (x := .ref 170) rfl rfl (fun d => rfl) ?_
        refine y_gR (i := 1) rfl rfl rfl (md170 hM) rfl ?_
        refine y_ld (x := iv (1770 + (4 * (n : Int)))) rfl rfl (fun d => rfl) ?_
        refine y_ld (x := iv t) rfl rfl (fun d => rfl) ?_
        refine y_ist (q := (1770 + 4 * n)) rfl rfl (md171 hM) (by omega) (by decide) (by omega) ?_
        refine y_ld (x := .ref 170) rfl rfl (fun d => rfl) ?_
        refine y_gR (i := 1) rfl rfl rfl (md170 hM) rfl ?_
        refine y_ld (x := iv (1770 + (4 * (n : Int)))) rfl rfl (fun d => rfl) ?_
        refine y_ic rfl rfl ?_
        refine y_add (z := ((1770 + (4 * (n : Int))) + 1)) rfl rfl rfl ?_
        refine y_ld (x := iv h) rfl rfl (fun d => rfl) ?_
        refine y_ist (q := (1770 + 4 * n + 1)) rfl rfl (md171 hM) (by omega) (by decide) (by omega) ?_
        refine y_ld (x := .ref 170) rfl rfl (fun d => rfl) ?_
        refine y_gR (i := 1) rfl rfl rfl (md170 hM) rfl ?_
        refine y_ld (x := iv (1770 + (4 * (n : Int)))) rfl rfl (fun d => rfl) ?_
        refine y_ic rfl rfl ?_
        refine y_add (z := ((1770 + (4 * (n : Int))) + 2)) rfl rfl rfl ?_
        refine y_ld (x := iv y) rfl rfl (fun d => rfl) ?_
        refine y_ist (q := (1770 + 4 * n + 2)) rfl rfl (md171 hM) (by omega) (by decide) (by omega) ?_
        refine y_ld (x := .ref 170) rfl rfl (fun d => rfl) ?_
        refine y_gR (i := 1) rfl rfl rfl (md170 hM) rfl ?_
        refine y_ld (x := iv (1770 + (4 * (n : Int)))) rfl rfl (fun d => rfl) ?_
        refine y_ic rfl rfl ?_
        refine y_add (z := ((1770 + (4 * (n : Int))) + 3)) rfl rfl rfl ?_
        refine y_ld (x := iv o) rfl rfl (fun d => rfl) ?_
        refine y_ist (q := (1770 + 4 * n + 3)) rfl rfl (md171 hM) (by omega) (by decide) (by omega) ?_
        refine y_ld (x := .ref 170) rfl rfl (fun d => rfl) ?_
        refine y_gR (i := 1) rfl rfl rfl (md170 hM) rfl ?_
        refine y_ic rfl rfl ?_
        refine y_in rfl rfl (fun d => rfl) ?_
        refine y_ild (x := (n : Int)) (q := 5) rfl rfl (md171 hM) (by decide) (by decide) rfl (by rw [v_up_ni (by omega), v_up_ni (by omega), v_up_ni (by omega), v_up_ni (by omega)]; exact hn.1) ?_
        refine y_ic rfl rfl ?_
        refine y_add (z := ((n : Int) + 1)) rfl rfl rfl ?_
        refine y_ist (q := 5) rfl rfl (md171 hM) (by decide) (by decide) rfl ?_
        refine y_ld (x := .ref 170) rfl rfl (fun d => rfl) ?_
        refine y_gR (i := 1) rfl rfl rfl (md170 hM) rfl ?_
        refine y_ic rfl rfl ?_
        refine y_ild (x := ((n : Int) + 1)) (q := 5) rfl rfl (md171 hM) (by decide) (by decide) rfl (by rw [v_up_eq]) ?_
        refine y_rI rfl (Or.inl rfl) ?_
        exact k0 g1 g2 (by omega)
      · refine y_bi rfl rfl (by decide) ?_
        refine y_rI rfl (Or.inl rfl) ?_
        exact k1 g1 g2 (by omega)
    · refine y_bi rfl rfl (by decide) ?_
      refine y_rI rfl (Or.inl rfl) ?_
      exact k2 g1 g2
  · refine y_ic rfl rfl ?_
    refine y_rI rfl (Or.inl rfl) ?_
    exact k3 g1
end
end
section
/-! a memory: put, take and forget a talk, have one -/
section
variable {X : Nat → List Int32} {u w : Nat} {S : m_H} {V : v_V} {K : v_K}
set_option maxRecDepth 100000 in
set_option maxHeartbeats 4000000 in
theorem cc_put {m c : Nat} (hm : MeS S m c) {x v : Int} {q : Nat} (hq : x = (q : Int)) (h : q < 84) (k : K u w none S (v_up V c q v)) : y_R X 1 10 u w [.ref m, iv x, iv v] S V K := by
  refine y_ent (lv' := [(0, .ref m), (1, iv x), (2, iv v)]) (Nat.le_of_ble_eq_true rfl) rfl ?_
  refine y_ld (x := iv x) rfl rfl (fun d => rfl) ?_
  refine y_zlt rfl rfl rfl (by omega) (fun g1 => absurd g1 (by omega)) (fun g1 => ?_)
  refine y_ld (x := iv x) rfl rfl (fun d => rfl) ?_
  refine y_bi rfl rfl (by decide) ?_
  refine y_jge rfl rfl rfl (by omega) (fun g2 => absurd g2 (by omega)) (fun g2 => ?_)
  refine y_ld (x := .ref m) rfl rfl (fun d => rfl) ?_
  refine y_gR (i := 0) rfl rfl rfl hm.1 rfl ?_
  refine y_ld (x := iv x) rfl rfl (fun d => rfl) ?_
  refine y_ld (x := iv v) rfl rfl (fun d => rfl) ?_
  refine y_ist (q := q) rfl rfl hm.2 (by omega) (by decide) (by omega) ?_
  refine y_ret rfl (fun d => rfl) ?_
  exact k
theorem cc_at2 {m c : Nat} (hm : MeS S m c) {x e : Int} {q : Nat} (hq : x = (q : Int)) (h : q < 84) (he : V c q = e) (k : K u w (some (iv e)) S V) : y_R X 1 9 u w [.ref m, iv x] S V K := by
  subst hq he
  exact cc_at hm (by omega) k
theorem v_fg4 (V : v_V) (c q : Nat) : v_up (v_up (v_up (v_up V c (q + 0) 0) c (q + 1) 0) c (q + 2) 0) c (q + 3) 0 = v_ur V c (z_fl (V c) q 4 0) := by
  rw [show v_up V c (q + 0) 0 = v_up (v_ur V c (z_fl (V c) q 0 0)) c (q + 0) 0 by rw [z_fl_0, v_ur_self]]
  rw [v_up_r, z_fl_s, v_up_r, z_fl_s, v_up_r, z_fl_s, v_up_r, z_fl_s]
theorem z_cp_s (f g : Nat → Int) (q k : Nat) : v_uf (v_cp f g q q k) (q + k) (f (q + k)) = v_cp f g q q (k + 1) := by
  funext j
  unfold v_uf v_cp
  by_cases h1 : j = q + k
  · rw [if_pos h1, if_pos (by omega), show j - q + q = q + k by omega]
  · rw [if_neg h1]
    by_cases h2 : q ≤ j ∧ j < q + k
    · rw [if_pos h2, if_pos (by omega)]
    · rw [if_neg h2, if_neg (by omega)]
theorem v_tk4 (V : v_V) (c d q : Nat) : v_up (v_up (v_up (v_up V c (q + 0) (V d (q + 0))) c (q + 1) (V d (q + 1))) c (q + 2) (V d (q + 2))) c (q + 3) (V d (q + 3)) = v_ur V c (v_cp (V d) (V c) q q 4) := by
  rw [show v_up V c (q + 0) (V d (q + 0)) = v_up (v_ur V c (v_cp (V d) (V c) q q 0)) c (q + 0) (V d (q + 0)) by rw [show v_cp (V d) (V c) q q 0 = V c from funext (fun j => if_neg (by omega)), v_ur_self]]
  rw [v_up_r, z_cp_s, v_up_r, z_cp_s, v_up_r, z_cp_s, v_up_r, z_cp_s]
set_option maxRecDepth 100000 in
set_option maxHeartbeats 4000000 in
theorem cc_forget {m c t : Nat} (hm : MeS S m c) (ht : t < 16) (k : K u w none S (v_ur V c (z_fl (V c) (4 * t) 4 0))) : y_R X 2 11 u w [.ref m, iv (t : Int)] S V K := by
  refine y_ent (lv' := [(0, .ref m), (1, iv (t : Int))]) (Nat.le_of_ble_eq_true rfl) rfl ?_
  refine y_ic rfl rfl ?_
  refine y_st (lv' := [(2, iv 0), (0, .ref m), (1, iv (t : Int))]) rfl rfl (fun d => rfl) ?_
  refine y_ld (x := iv 0) rfl rfl (fun d => rfl) ?_
  refine y_ic rfl rfl ?_
  refine y_jge rfl rfl rfl (by decide) (fun g1 => absurd g1 (by decide)) (fun g1 => ?_)
  refine y_ld (x := .ref m) rfl rfl (fun d => rfl) ?_
  refine y_ld (x := iv (t : Int)) rfl rfl (fun d => rfl) ?_
  refine y_ic rfl rfl ?_
  refine y_mul (z := ((t : Int) * 4)) rfl rfl rfl ?_
  refine y_ld (x := iv 0) rfl rfl (fun d => rfl) ?_
  refine y_add (z := (((t : Int) * 4) + 0)) rfl rfl rfl ?_
  refine y_ic rfl rfl ?_
  refine y_cV (as := [.ref m, iv (((t : Int) * 4) + 0), iv 0]) rfl rfl rfl rfl rfl hm.1 ⟨rfl, (Nat.le_of_ble_eq_true rfl), (Nat.le_of_ble_eq_true rfl)⟩ (by decide) (cc_put (q := 4 * t + 0) hm (by omega) (by omega) ?_)
  refine y_n0 ?_
  refine y_inc (z := 1) (lv' := [(2, iv 1), (0, .ref m), (1, iv (t : Int))]) rfl rfl rfl rfl rfl ?_
  refine y_go rfl rfl ?_
  refine y_ld (x := iv 1) rfl rfl (fun d => rfl) ?_
  refine y_ic rfl rfl ?_
  refine y_jge rfl rfl rfl (by decide) (fun g2 => absurd g2 (by decide)) (fun g2 => ?_)
  refine y_ld (x := .ref m) rfl rfl (fun d => rfl) ?_
  refine y_ld (x := iv (t : Int)) rfl rfl (fun d => rfl) ?_
  refine y_ic rfl rfl ?_
  refine y_mul (z := ((t : Int) * 4)) rfl rfl rfl ?_
  refine y_ld (x := iv 1) rfl rfl (fun d => rfl) ?_
  refine y_add (z := (((t : Int) * 4) + 1)) rfl rfl rfl ?_
  refine y_ic rfl rfl ?_
  refine y_cV (as := [.ref m, iv (((t : Int) * 4) + 1), iv 0]) rfl rfl rfl rfl rfl hm.1 ⟨rfl, (Nat.le_of_ble_eq_true rfl), (Nat.le_of_ble_eq_true rfl)⟩ (by decide) (cc_put (q := 4 * t + 1) hm (by omega) (by omega) ?_)
  refine y_n0 ?_
  refine y_inc (z := 2) (lv' := [(2, iv 2), (0, .ref m), (1, iv (t : Int))]) rfl rfl rfl rfl rfl ?_
  refine y_go rfl rfl ?_
  refine y_ld (x := iv 2) rfl rfl (fun d => rfl) ?_
  refine y_ic rfl rfl ?_
  refine y_jge rfl rfl rfl (by decide) (fun g3 => absurd g3 (by decide)) (fun g3 => ?_)
  refine y_ld (x := .ref m) rfl rfl (fun d => rfl) ?_
  refine y_ld (x := iv (t : Int)) rfl rfl (fun d => rfl) ?_
  refine y_ic rfl rfl ?_
  refine y_mul (z := ((t : Int) * 4)) rfl rfl rfl ?_
  refine y_ld (x := iv 2) rfl rfl (fun d => rfl) ?_
  refine y_add (z := (((t : Int) * 4) + 2)) rfl rfl rfl ?_
  refine y_ic rfl rfl ?_
  refine y_cV (as := [.ref m, iv (((t : Int) * 4) + 2), iv 0]) rfl rfl rfl rfl rfl hm.1 ⟨rfl, (Nat.le_of_ble_eq_true rfl), (Nat.le_of_ble_eq_true rfl)⟩ (by decide) (cc_put (q := 4 * t + 2) hm (by omega) (by omega) ?_)
  refine y_n0 ?_
  refine y_inc (z := 3) (lv' := [(2, iv 3), (0, .ref m), (1, iv (t : Int))]) rfl rfl rfl rfl rfl ?_
  refine y_go rfl rfl ?_
  refine y_ld (x := iv 3) rfl rfl (fun d => rfl) ?_
  refine y_ic rfl rfl ?_
  refine y_jge rfl rfl rfl (by decide) (fun g4 => absurd g4 (by decide)) (fun g4 => ?_)
  refine y_ld (x := .ref m) rfl rfl (fun d => rfl) ?_
  refine y_ld (x := iv (t : Int)) rfl rfl (fun d => rfl) ?_
  refine y_ic rfl rfl ?_
  refine y_mul (z := ((t : Int) * 4)) rfl rfl rfl ?_
  refine y_ld (x := iv 3) rfl rfl (fun d => rfl) ?_
  refine y_add (z := (((t : Int) * 4) + 3)) rfl rfl rfl ?_
  refine y_ic rfl rfl ?_
  refine y_cV (as := [.ref m, iv (((t : Int) * 4) + 3), iv 0]) rfl rfl rfl rfl rfl hm.1 ⟨rfl, (Nat.le_of_ble_eq_true rfl), (Nat.le_of_ble_eq_true rfl)⟩ (by decide) (cc_put (q := 4 * t + 3) hm (by omega) (by omega) ?_)
  refine y_n0 ?_
  refine y_inc (z := 4) (lv' := [(2, iv 4), (0, .ref m), (1, iv (t : Int))]) rfl rfl rfl rfl rfl ?_
  refine y_go rfl rfl ?_
  refine y_ld (x := iv 4) rfl rfl (fun d => rfl) ?_
  refine y_ic rfl rfl ?_
  refine y_jge rfl rfl rfl (by decide) (fun g5 => ?_) (fun g5 => absurd g5 (by decide))
  refine y_ret rfl (fun d => rfl) ?_
  exact cast (congrArg (fun W => K u w none S W) (v_fg4 V c (4 * t)).symm) k
set_option maxRecDepth 100000 in
set_option maxHeartbeats 4000000 in
theorem cc_take {m c o d t : Nat} (hm : MeS S m c) (ho : MeS S o d) (hcd : c ≠ d) (ht : t < 16) (k : K u w none S (v_ur (v_ur V c (v_cp (V d) (V c) (4 * t) (4 * t) 4)) d (z_fl (V d) (4 * t) 4 0))) : y_R X 3 12 u w [.ref m, .ref o, iv (t : Int)] S V K := by
  refine y_ent (lv' := [(0, .ref m), (1, .ref o), (2, iv (t : Int))]) (Nat.le_of_ble_eq_true rfl) rfl ?_
  refine y_ic rfl rfl ?_
  refine y_st (lv' := [(3, iv 0), (0, .ref m), (1, .ref o), (2, iv (t : Int))]) rfl rfl (fun d => rfl) ?_
  refine y_ld (x := iv 0) rfl rfl (fun d => rfl) ?_
  refine y_ic rfl rfl ?_
  refine y_jge rfl rfl rfl (by decide) (fun g1 => absurd g1 (by decide)) (fun g1 => ?_)
  refine y_ld (x := .ref m) rfl rfl (fun d => rfl) ?_
  refine y_ld (x := iv (t : Int)) rfl rfl (fun d => rfl) ?_
  refine y_ic rfl rfl ?_
  refine y_mul (z := ((t : Int) * 4)) rfl rfl rfl ?_
  refine y_ld (x := iv 0) rfl rfl (fun d => rfl) ?_
  refine y_add (z := (((t : Int) * 4) + 0)) rfl rfl rfl ?_
  refine y_ld (x := .ref o) rfl rfl (fun d => rfl) ?_
  refine y_ld (x := iv (t : Int)) rfl rfl (fun d => rfl) ?_
  refine y_ic rfl rfl ?_
  refine y_mul (z := ((t : Int) * 4)) rfl rfl rfl ?_
  refine y_ld (x := iv 0) rfl rfl (fun d => rfl) ?_
  refine y_add (z := (((t : Int) * 4) + 0)) rfl rfl rfl ?_
  refine y_cV (as := [.ref o, iv (((t : Int) * 4) + 0)]) rfl rfl rfl rfl rfl ho.1 ⟨rfl, (Nat.le_of_ble_eq_true rfl), (Nat.le_of_ble_eq_true rfl)⟩ (by decide) (cc_at2 (q := 4 * t + 0) ho (by omega) (by omega) rfl ?_)
  refine y_nv ?_
  refine y_cV (as := [.ref m, iv (((t : Int) * 4) + 0), iv (V d (4 * t + 0))]) rfl rfl rfl rfl rfl hm.1 ⟨rfl, (Nat.le_of_ble_eq_true rfl), (Nat.le_of_ble_eq_true rfl)⟩ (by decide) (cc_put (q := 4 * t + 0) hm (by omega) (by omega) ?_)
  refine y_n0 ?_
  refine y_inc (z := 1) (lv' := [(3, iv 1), (0, .ref m), (1, .ref o), (2, iv (t : Int))]) rfl rfl rfl rfl rfl ?_
  refine y_go rfl rfl ?_
  refine y_ld (x := iv 1) rfl rfl (fun d => rfl) ?_
  refine y_ic rfl rfl ?_
  refine y_jge rfl rfl rfl (by decide) (fun g2 => absurd g2 (by decide)) (fun g2 => ?_)
  refine y_ld (x := .ref m) rfl rfl (fun d => rfl) ?_
  refine y_ld (x := iv (t : Int)) rfl rfl (fun d => rfl) ?_
  refine y_ic rfl rfl ?_
  refine y_mul (z := ((t : Int) * 4)) rfl rfl rfl ?_
  refine y_ld (x := iv 1) rfl rfl (fun d => rfl) ?_
  refine y_add (z := (((t : Int) * 4) + 1)) rfl rfl rfl ?_
  refine y_ld (x := .ref o) rfl rfl (fun d => rfl) ?_
  refine y_ld (x := iv (t : Int)) rfl rfl (fun d => rfl) ?_
  refine y_ic rfl rfl ?_
  refine y_mul (z := ((t : Int) * 4)) rfl rfl rfl ?_
  refine y_ld (x := iv 1) rfl rfl (fun d => rfl) ?_
  refine y_add (z := (((t : Int) * 4) + 1)) rfl rfl rfl ?_
  refine y_cV (as := [.ref o, iv (((t : Int) * 4) + 1)]) rfl rfl rfl rfl rfl ho.1 ⟨rfl, (Nat.le_of_ble_eq_true rfl), (Nat.le_of_ble_eq_true rfl)⟩ (by decide) (cc_at2 (q := 4 * t + 1) ho (by omega) (by omega) (by rw [v_up_ne (by omega)]) ?_)
  refine y_nv ?_
  refine y_cV (as := [.ref m, iv (((t : Int) * 4) + 1), iv (V d (4 * t + 1))]) rfl rfl rfl rfl rfl hm.1 ⟨rfl, (Nat.le_of_ble_eq_true rfl), (Nat.le_of_ble_eq_true rfl)⟩ (by decide) (cc_put (q := 4 * t + 1) hm (by omega) (by omega) ?_)
  refine y_n0 ?_
  refine y_inc (z := 2) (lv' := [(3, iv 2), (0, .ref m), (1, .ref o), (2, iv (t : Int))]) rfl rfl rfl rfl rfl ?_
  refine y_go rfl rfl ?_
  refine y_ld (x := iv 2) rfl rfl (fun d => rfl) ?_
  refine y_ic rfl rfl ?_
  refine y_jge rfl rfl rfl (by decide) (fun g3 => absurd g3 (by decide)) (fun g3 => ?_)
  refine y_ld (x := .ref m) rfl rfl (fun d => rfl) ?_
  refine y_ld (x := iv (t : Int)) rfl rfl (fun d => rfl) ?_
  refine y_ic rfl rfl ?_
  refine y_mul (z := ((t : Int) * 4)) rfl rfl rfl ?_
  refine y_ld (x := iv 2) rfl rfl (fun d => rfl) ?_
  refine y_add (z := (((t : Int) * 4) + 2)) rfl rfl rfl ?_
  refine y_ld (x := .ref o) rfl rfl (fun d => rfl) ?_
  refine y_ld (x := iv (t : Int)) rfl rfl (fun d => rfl) ?_
  refine y_ic rfl rfl ?_
  refine y_mul (z := ((t : Int) * 4)) rfl rfl rfl ?_
  refine y_ld (x := iv 2) rfl rfl (fun d => rfl) ?_
  refine y_add (z := (((t : Int) * 4) + 2)) rfl rfl rfl ?_
  refine y_cV (as := [.ref o, iv (((t : Int) * 4) + 2)]) rfl rfl rfl rfl rfl ho.1 ⟨rfl, (Nat.le_of_ble_eq_true rfl), (Nat.le_of_ble_eq_true rfl)⟩ (by decide) (cc_at2 (q := 4 * t + 2) ho (by omega) (by omega) (by rw [v_up_ne (by omega), v_up_ne (by omega)]) ?_)
  refine y_nv ?_
  refine y_cV (as := [.ref m, iv (((t : Int) * 4) + 2), iv (V d (4 * t + 2))]) rfl rfl rfl rfl rfl hm.1 ⟨rfl, (Nat.le_of_ble_eq_true rfl), (Nat.le_of_ble_eq_true rfl)⟩ (by decide) (cc_put (q := 4 * t + 2) hm (by omega) (by omega) ?_)
  refine y_n0 ?_
  refine y_inc (z := 3) (lv' := [(3, iv 3), (0, .ref m), (1, .ref o), (2, iv (t : Int))]) rfl rfl rfl rfl rfl ?_
  refine y_go rfl rfl ?_
  refine y_ld (x := iv 3) rfl rfl (fun d => rfl) ?_
  refine y_ic rfl rfl ?_
  refine y_jge rfl rfl rfl (by decide) (fun g4 => absurd g4 (by decide)) (fun g4 => ?_)
  refine y_ld (x := .ref m) rfl rfl (fun d => rfl) ?_
  refine y_ld (x := iv (t : Int)) rfl rfl (fun d => rfl) ?_
  refine y_ic rfl rfl ?_
  refine y_mul (z := ((t : Int) * 4)) rfl rfl rfl ?_
  refine y_ld (x := iv 3) rfl rfl (fun d => rfl) ?_
  refine y_add (z := (((t : Int) * 4) + 3)) rfl rfl rfl ?_
  refine y_ld (x := .ref o) rfl rfl (fun d => rfl) ?_
  refine y_ld (x := iv (t : Int)) rfl rfl (fun d => rfl) ?_
  refine y_ic rfl rfl ?_
  refine y_mul (z := ((t : Int) * 4)) rfl rfl rfl ?_
  refine y_ld (x := iv 3) rfl rfl (fun d => rfl) ?_
  refine y_add (z := (((t : Int) * 4) + 3)) rfl rfl rfl ?_
  refine y_cV (as := [.ref o, iv (((t : Int) * 4) + 3)]) rfl rfl rfl rfl rfl ho.1 ⟨rfl, (Nat.le_of_ble_eq_true rfl), (Nat.le_of_ble_eq_true rfl)⟩ (by decide) (cc_at2 (q := 4 * t + 3) ho (by omega) (by omega) (by rw [v_up_ne (by omega), v_up_ne (by omega), v_up_ne (by omega)]) ?_)
  refine y_nv ?_
  refine y_cV (as := [.ref m, iv (((t : Int) * 4) + 3), iv (V d (4 * t + 3))]) rfl rfl rfl rfl rfl hm.1 ⟨rfl, (Nat.le_of_ble_eq_true rfl), (Nat.le_of_ble_eq_true rfl)⟩ (by decide) (cc_put (q := 4 * t + 3) hm (by omega) (by omega) ?_)
  refine y_n0 ?_
  refine y_inc (z := 4) (lv' := [(3, iv 4), (0, .ref m), (1, .ref o), (2, iv (t : Int))]) rfl rfl rfl rfl rfl ?_
  refine y_go rfl rfl ?_
  refine y_ld (x := iv 4) rfl rfl (fun d => rfl) ?_
  refine y_ic rfl rfl ?_
  refine y_jge rfl rfl rfl (by decide) (fun g5 => ?_) (fun g5 => absurd g5 (by decide))
  refine y_V (V' := v_ur V c (v_cp (V d) (V c) (4 * t) (4 * t) 4)) (v_tk4 V c d (4 * t)) ?_
  refine y_ld (x := .ref o) rfl rfl (fun d => rfl) ?_
  refine y_ld (x := iv (t : Int)) rfl rfl (fun d => rfl) ?_
  refine y_cV (as := [.ref o, iv (t : Int)]) rfl rfl rfl rfl rfl ho.1 ⟨rfl, (Nat.le_of_ble_eq_true rfl), (Nat.le_of_ble_eq_true rfl)⟩ (by decide) (cc_forget (t := t) ho ht ?_)
  refine y_n0 ?_
  refine y_ret rfl (fun d => rfl) ?_
  rw [v_ur_ne (Ne.symm hcd)]; exact k
set_option maxRecDepth 100000 in
set_option maxHeartbeats 4000000 in
theorem cc_has {m c o d t : Nat} (hm : MeS S m c) (ho : MeS S o d) (ht : t < 16) (hr : ∀ p : Nat, p < 84 → (-2147483648 ≤ V c p ∧ V c p < 2147483648) ∧ -2147483648 ≤ V d p ∧ V d p < 2147483648) (k1 : (V c (4 * t + 0) = V d (4 * t + 0) ∧ V c (4 * t + 1) = V d (4 * t + 1) ∧ V c (4 * t + 2) = V d (4 * t + 2) ∧ V c (4 * t + 3) = V d (4 * t + 3)) → K u w (some (iv 1)) S V) (k0 : ¬ (V c (4 * t + 0) = V d (4 * t + 0) ∧ V c (4 * t + 1) = V d (4 * t + 1) ∧ V c (4 * t + 2) = V d (4 * t + 2) ∧ V c (4 * t + 3) = V d (4 * t + 3)) → K u w (some (iv 0)) S V) : y_R X 2 13 u w [.ref m, .ref o, iv (t : Int)] S V K := by
  have hr0 := hr (4 * t + 0) (by omega)
  have hr1 := hr (4 * t + 1) (by omega)
  have hr2 := hr (4 * t + 2) (by omega)
  have hr3 := hr (4 * t + 3) (by omega)
  refine y_ent (lv' := [(0, .ref m), (1, .ref o), (2, iv (t : Int))]) (Nat.le_of_ble_eq_true rfl) rfl ?_
  refine y_ic rfl rfl ?_
  refine y_st (lv' := [(3, iv 0), (0, .ref m), (1, .ref o), (2, iv (t : Int))]) rfl rfl (fun d => rfl) ?_
  refine y_ld (x := iv 0) rfl rfl (fun d => rfl) ?_
  refine y_ic rfl rfl ?_
  refine y_jge rfl rfl rfl (by decide) (fun g1 => absurd g1 (by decide)) (fun g1 => ?_)
  refine y_ld (x := .ref m) rfl rfl (fun d => rfl) ?_
  refine y_ld (x := iv (t : Int)) rfl rfl (fun d => rfl) ?_
  refine y_ic rfl rfl ?_
  refine y_mul (z := ((t : Int) * 4)) rfl rfl rfl ?_
  refine y_ld (x := iv 0) rfl rfl (fun d => rfl) ?_
  refine y_add (z := (((t : Int) * 4) + 0)) rfl rfl rfl ?_
  refine y_cV (as := [.ref m, iv (((t : Int) * 4) + 0)]) rfl rfl rfl rfl rfl hm.1 ⟨rfl, (Nat.le_of_ble_eq_true rfl), (Nat.le_of_ble_eq_true rfl)⟩ (by decide) (cc_at2 (q := 4 * t + 0) hm (by omega) (by omega) rfl ?_)
  refine y_nv ?_
  refine y_ld (x := .ref o) rfl rfl (fun d => rfl) ?_
  refine y_ld (x := iv (t : Int)) rfl rfl (fun d => rfl) ?_
  refine y_ic rfl rfl ?_
  refine y_mul (z := ((t : Int) * 4)) rfl rfl rfl ?_
  refine y_ld (x := iv 0) rfl rfl (fun d => rfl) ?_
  refine y_add (z := (((t : Int) * 4) + 0)) rfl rfl rfl ?_
  refine y_cV (as := [.ref o, iv (((t : Int) * 4) + 0)]) rfl rfl rfl rfl rfl ho.1 ⟨rfl, (Nat.le_of_ble_eq_true rfl), (Nat.le_of_ble_eq_true rfl)⟩ (by decide) (cc_at2 (q := 4 * t + 0) ho (by omega) (by omega) rfl ?_)
  refine y_nv ?_
  refine y_jeq rfl rfl rfl (by omega) (fun g2 => ?_) (fun g2 => ?_)
  · refine y_inc (z := 1) (lv' := [(3, iv 1), (0, .ref m), (1, .ref o), (2, iv (t : Int))]) rfl rfl rfl rfl rfl ?_
    refine y_go rfl rfl ?_
    refine y_ld (x := iv 1) rfl rfl (fun d => rfl) ?_
    refine y_ic rfl rfl ?_
    refine y_jge rfl rfl rfl (by decide) (fun g3 => absurd g3 (by decide)) (fun g3 => ?_)
    refine y_ld (x := .ref m) rfl rfl (fun d => rfl) ?_
    refine y_ld (x := iv (t : Int)) rfl rfl (fun d => rfl) ?_
    refine y_ic rfl rfl ?_
    refine y_mul (z := ((t : Int) * 4)) rfl rfl rfl ?_
    refine y_ld (x := iv 1) rfl rfl (fun d => rfl) ?_
    refine y_add (z := (((t : Int) * 4) + 1)) rfl rfl rfl ?_
    refine y_cV (as := [.ref m, iv (((t : Int) * 4) + 1)]) rfl rfl rfl rfl rfl hm.1 ⟨rfl, (Nat.le_of_ble_eq_true rfl), (Nat.le_of_ble_eq_true rfl)⟩ (by decide) (cc_at2 (q := 4 * t + 1) hm (by omega) (by omega) rfl ?_)
    refine y_nv ?_
    refine y_ld (x := .ref o) rfl rfl (fun d => rfl) ?_
    refine y_ld (x := iv (t : Int)) rfl rfl (fun d => rfl) ?_
    refine y_ic rfl rfl ?_
    refine y_mul (z := ((t : Int) * 4)) rfl rfl rfl ?_
    refine y_ld (x := iv 1) rfl rfl (fun d => rfl) ?_
    refine y_add (z := (((t : Int) * 4) + 1)) rfl rfl rfl ?_
    refine y_cV (as := [.ref o, iv (((t : Int) * 4) + 1)]) rfl rfl rfl rfl rfl ho.1 ⟨rfl, (Nat.le_of_ble_eq_true rfl), (Nat.le_of_ble_eq_true rfl)⟩ (by decide) (cc_at2 (q := 4 * t + 1) ho (by omega) (by omega) rfl ?_)
    refine y_nv ?_
    refine y_jeq rfl rfl rfl (by omega) (fun g4 => ?_) (fun g4 => ?_)
    · refine y_inc (z := 2) (lv' := [(3, iv 2), (0, .ref m), (1, .ref o), (2, iv (t : Int))]) rfl rfl rfl rfl rfl ?_
      refine y_go rfl rfl ?_
      refine y_ld (x := iv 2) rfl rfl (fun d => rfl) ?_
      refine y_ic rfl rfl ?_
      refine y_jge rfl rfl rfl (by decide) (fun g5 => absurd g5 (by decide)) (fun g5 => ?_)
      refine y_ld (x := .ref m) rfl rfl (fun d => rfl) ?_
      refine y_ld (x := iv (t : Int)) rfl rfl (fun d => rfl) ?_
      refine y_ic rfl rfl ?_
      refine y_mul (z := ((t : Int) * 4)) rfl rfl rfl ?_
      refine y_ld (x := iv 2) rfl rfl (fun d => rfl) ?_
      refine y_add (z := (((t : Int) * 4) + 2)) rfl rfl rfl ?_
      refine y_cV (as := [.ref m, iv (((t : Int) * 4) + 2)]) rfl rfl rfl rfl rfl hm.1 ⟨rfl, (Nat.le_of_ble_eq_true rfl), (Nat.le_of_ble_eq_true rfl)⟩ (by decide) (cc_at2 (q := 4 * t + 2) hm (by omega) (by omega) rfl ?_)
      refine y_nv ?_
      refine y_ld (x := .ref o) rfl rfl (fun d => rfl) ?_
      refine y_ld (x := iv (t : Int)) rfl rfl (fun d => rfl) ?_
      refine y_ic rfl rfl ?_
      refine y_mul (z := ((t : Int) * 4)) rfl rfl rfl ?_
      refine y_ld (x := iv 2) rfl rfl (fun d => rfl) ?_
      refine y_add (z := (((t : Int) * 4) + 2)) rfl rfl rfl ?_
      refine y_cV (as := [.ref o, iv (((t : Int) * 4) + 2)]) rfl rfl rfl rfl rfl ho.1 ⟨rfl, (Nat.le_of_ble_eq_true rfl), (Nat.le_of_ble_eq_true rfl)⟩ (by decide) (cc_at2 (q := 4 * t + 2) ho (by omega) (by omega) rfl ?_)
      refine y_nv ?_
      refine y_jeq rfl rfl rfl (by omega) (fun g6 => ?_) (fun g6 => ?_)
      · refine y_inc (z := 3) (lv' := [(3, iv 3), (0, .ref m), (1, .ref o), (2, iv (t : Int))]) rfl rfl rfl rfl rfl ?_
        refine y_go rfl rfl ?_
        refine y_ld (x := iv 3) rfl rfl (fun d => rfl) ?_
        refine y_ic rfl rfl ?_
        refine y_jge rfl rfl rfl (by decide) (fun g7 => absurd g7 (by decide)) (fun g7 => ?_)
        refine y_ld (x := .ref m) rfl rfl (fun d => rfl) ?_
        refine y_ld (x := iv (t : Int)) rfl rfl (fun d => rfl) ?_
        refine y_ic rfl rfl ?_
        refine y_mul (z := ((t : Int) * 4)) rfl rfl rfl ?_
        refine y_ld (x := iv 3) rfl rfl (fun d => rfl) ?_
        refine y_add (z := (((t : Int) * 4) + 3)) rfl rfl rfl ?_
        refine y_cV (as := [.ref m, iv (((t : Int) * 4) + 3)]) rfl rfl rfl rfl rfl hm.1 ⟨rfl, (Nat.le_of_ble_eq_true rfl), (Nat.le_of_ble_eq_true rfl)⟩ (by decide) (cc_at2 (q := 4 * t + 3) hm (by omega) (by omega) rfl ?_)
        refine y_nv ?_
        refine y_ld (x := .ref o) rfl rfl (fun d => rfl) ?_
        refine y_ld (x := iv (t : Int)) rfl rfl (fun d => rfl) ?_
        refine y_ic rfl rfl ?_
        refine y_mul (z := ((t : Int) * 4)) rfl rfl rfl ?_
        refine y_ld (x := iv 3) rfl rfl (fun d => rfl) ?_
        refine y_add (z := (((t : Int) * 4) + 3)) rfl rfl rfl ?_
        refine y_cV (as := [.ref o, iv (((t : Int) * 4) + 3)]) rfl rfl rfl rfl rfl ho.1 ⟨rfl, (Nat.le_of_ble_eq_true rfl), (Nat.le_of_ble_eq_true rfl)⟩ (by decide) (cc_at2 (q := 4 * t + 3) ho (by omega) (by omega) rfl ?_)
        refine y_nv ?_
        refine y_jeq rfl rfl rfl (by omega) (fun g8 => ?_) (fun g8 => ?_)
        · refine y_inc (z := 4) (lv' := [(3, iv 4), (0, .ref m), (1, .ref o), (2, iv (t : Int))]) rfl rfl rfl rfl rfl ?_
          refine y_go rfl rfl ?_
          refine y_ld (x := iv 4) rfl rfl (fun d => rfl) ?_
          refine y_ic rfl rfl ?_
          refine y_jge rfl rfl rfl (by decide) (fun g9 => ?_) (fun g9 => absurd g9 (by decide))
          refine y_ic rfl rfl ?_
          refine y_rI rfl (by decide) ?_
          exact k1 (by omega)
        · refine y_ic rfl rfl ?_
          refine y_rI rfl (by decide) ?_
          exact k0 (by omega)
      · refine y_ic rfl rfl ?_
        refine y_rI rfl (by decide) ?_
        exact k0 (by omega)
    · refine y_ic rfl rfl ?_
      refine y_rI rfl (by decide) ?_
      exact k0 (by omega)
  · refine y_ic rfl rfl ?_
    refine y_rI rfl (by decide) ?_
    exact k0 (by omega)
end
end
section
/-! undo, both sides -/
section
variable {X : Nat → List Int32} {u w : Nat} {S : m_H} {V : v_V} {K : v_K}
set_option maxRecDepth 100000 in
set_option maxHeartbeats 4000000 in
theorem cc_undo (hC : ClF S) {ta tb wa wb la lb : List Value} (hta : ce S 60 22 ta) (htb : ce S 3 22 tb) (hwa : ce S 63 24 wa) (hwb : ce S 6 24 wb) (hla : ce S 64 24 la) (hlb : ce S 7 24 lb) (hlta : ta.length = 8) (hltb : tb.length = 8) (hlwa : wa.length = 20) (hlwb : wb.length = 20) (hlla : la.length = 5) (hllb : lb.length = 5) (hvT : ∀ v ∈ ta, v_asg S 22 v) (hvW : ∀ v ∈ wa, v_asg S 24 v) (hvL : ∀ v ∈ la, v_asg S 24 v) (hI : 0 ≤ V 0 2 ∧ V 0 2 ≤ 1) (k0 : V 0 2 = 0 → K u w (some (iv (-3))) S V) (k1 : ∀ V', V 0 2 = 1 → CpV 1 58 V V' → K u w (some (iv (V' 1 5))) (((S.set 3 (22, ta)).set 6 (24, wa)).set 7 (24, la)) V') : y_R X 4 95 u w [.ref 0] S V K := by
  refine y_ent (lv' := [(0, .ref 0)]) (Nat.le_of_ble_eq_true rfl) rfl ?_
  refine y_ld (x := .ref 0) rfl rfl (fun d => rfl) ?_
  refine y_gI (i := 2) (e := (V 0 2)) rfl rfl rfl (hC 0 _ _ rfl) rfl rfl ?_
  refine y_zne rfl rfl rfl (by omega) (fun g1 => ?_) (fun g1 => ?_)
  · refine y_ld (x := .ref 0) rfl rfl (fun d => rfl) ?_
    refine y_gR (i := 0) rfl rfl rfl (hC 0 _ _ rfl) rfl ?_
    refine y_ld (x := .ref 0) rfl rfl (fun d => rfl) ?_
    refine y_gR (i := 1) rfl rfl rfl (hC 0 _ _ rfl) rfl ?_
    refine y_cV (as := [.ref 1, .ref 58]) rfl rfl rfl rfl rfl (hC 1 _ _ rfl) ⟨rfl, (Nat.le_of_ble_eq_true rfl), (Nat.le_of_ble_eq_true rfl)⟩ (by decide) (cc_sbec1 hC hta htb hwa hwb hla hlb hlta hltb hlwa hlwb hlla hllb hvT hvW hvL (fun V1 hV1 => ?_))
    have hCn : ClF (((S.set 3 (22, ta)).set 6 (24, wa)).set 7 (24, la)) := cl_set (cl_set (cl_set hC (by decide)) (by decide)) (by decide)
    refine y_n0 ?_
    refine y_ld (x := .ref 0) rfl rfl (fun d => rfl) ?_
    refine y_gR (i := 0) rfl rfl rfl (hCn 0 _ _ rfl) rfl ?_
    refine y_gI (i := 5) (e := (V1 1 5)) rfl rfl rfl (hCn 1 _ _ rfl) rfl rfl ?_
    refine y_rI rfl (Or.inl rfl) ?_
    exact k1 V1 (by omega) hV1
  · refine y_bi rfl rfl (by decide) ?_
    refine y_rI rfl (Or.inl rfl) ?_
    exact k0 (by omega)
set_option maxRecDepth 100000 in
set_option maxHeartbeats 4000000 in
theorem lp_undo (hM : MdS S) {F : Nat} : ∀ (m : Nat) (k : Nat), 1800 - k < m → (k ≤ 1800) → (y_E X 0 177 F u w 37 [(0, .ref 170), (1, iv ((1800 : Nat) : Int))] [] S (v_ur V 171 (v_cp (V 172) (V 171) 0 0 1800)) K) → y_E X 0 177 (20 * m + F) u w 12 [(0, .ref 170), (1, iv (k : Int))] [] S (v_ur V 171 (v_cp (V 172) (V 171) 0 0 k)) K := by
  intro m
  induction m with
  | zero => intros; omega
  | succ m ih =>
    intro k hm hI hx
    refine y_mono (F' := (20 * m + F) + 20) ?_ (by omega)
    refine y_ld (x := iv (k : Int)) rfl rfl (fun d => rfl) ?_
    refine y_si rfl rfl (by decide) ?_
    refine y_jge rfl rfl rfl (by omega) (fun g1 => ?_) (fun g1 => ?_)
    · obtain rfl : k = 1800 := by omega
      exact y_mono hx (by omega)
    · refine y_ld (x := .ref 170) rfl rfl (fun d => rfl) ?_
      refine y_gR (i := 1) rfl rfl rfl (md170 hM) rfl ?_
      refine y_ld (x := iv (k : Int)) rfl rfl (fun d => rfl) ?_
      refine y_ld (x := .ref 170) rfl rfl (fun d => rfl) ?_
      refine y_gR (i := 2) rfl rfl rfl (md170 hM) rfl ?_
      refine y_ld (x := iv (k : Int)) rfl rfl (fun d => rfl) ?_
      refine y_ild (x := (V 172 k)) (q := k) rfl rfl (md172 hM) (by omega) (by decide) (by omega) (by rw [v_ur_ne (by decide)]) ?_
      refine y_ist (q := k) rfl rfl (md171 hM) (by omega) (by decide) (by omega) ?_
      refine y_inc (z := ((k + 1 : Nat) : Int)) (lv' := [(1, iv ((k + 1 : Nat) : Int)), (0, .ref 170)]) rfl rfl rfl (by omega) rfl ?_
      refine y_go rfl rfl ?_
      refine y_lv (l' := [(0, .ref 170), (1, iv ((k + 1 : Nat) : Int))]) rfl ⟨rfl, rfl, trivial⟩ ?_
      refine y_V (V' := (v_ur V 171 (v_cp (V 172) (V 171) 0 0 (k + 1)))) (v_cp_up V (by decide) k) ?_
      exact y_mono (ih (k + 1) (by omega) (by omega) hx) (by omega)
set_option maxRecDepth 100000 in
set_option maxHeartbeats 4000000 in
theorem ct_undo (hM : MdS S) (hI : 0 ≤ V 170 3 ∧ V 170 3 ≤ 1) (k0 : V 170 3 = 0 → K u w (some (iv (-3))) S V) (k1 : V 170 3 = 1 → K u w (some (iv (V 172 1))) S (v_ur V 171 (V 172))) : y_R X 1 177 u w [.ref 170] S V K := by
  refine y_ent (lv' := [(0, .ref 170)]) (Nat.le_of_ble_eq_true rfl) rfl ?_
  refine y_ld (x := .ref 170) rfl rfl (fun d => rfl) ?_
  refine y_gI (i := 3) (e := (V 170 3)) rfl rfl rfl (md170 hM) rfl rfl ?_
  refine y_zne rfl rfl rfl (by omega) (fun g1 => ?_) (fun g1 => ?_)
  · refine y_ic rfl rfl ?_
    refine y_st (lv' := [(1, iv 0), (0, .ref 170)]) rfl rfl (fun d => rfl) ?_
    refine y_lv (l' := [(0, .ref 170), (1, iv 0)]) rfl ⟨rfl, rfl, trivial⟩ ?_
    refine y_V (V' := (v_ur V 171 (v_cp (V 172) (V 171) 0 0 0))) ?_ ?_
    · rw [show v_cp (V 172) (V 171) 0 0 0 = V 171 from funext (fun j => if_neg (by omega)), v_ur_self]
    refine y_mono (lp_undo hM 1801 0 (by omega) (by omega) ?_) (Nat.le_of_ble_eq_true rfl : 20 * 1801 + 900000 ≤ _)
    refine y_row (g := V 172) (md171 hM) (fun i x hx => if_pos (by have := v_repI hx; omega)) ?_
    refine y_ld (x := .ref 170) rfl rfl (fun d => rfl) ?_
    refine y_gR (i := 1) rfl rfl rfl (md170 hM) rfl ?_
    refine y_ic rfl rfl ?_
    refine y_ild (x := ((V 172) 1)) (q := 1) rfl rfl (md171 hM) (by decide) (by decide) rfl rfl ?_
    refine y_rI rfl (Or.inl rfl) ?_
    exact k1 (by omega)
  · refine y_bi rfl rfl (by decide) ?_
    refine y_rI rfl (Or.inl rfl) ?_
    exact k0 (by omega)
end
end
section
/-! lead, the class -/
section
variable {X : Nat → List Int32} {u w : Nat} {S : m_H} {V : v_V} {K : v_K}
/-- a talk t led on: from the box of number a to the one of number y (the class) -/
def z_ldC (a : Nat) (y m : Int) : Nat → v_V → v_V
  | 0, V => V
  | t + 1, V =>
    if m / 2 ^ t % 2 = 1 then
      v_up (if z_ldC a y m t V (10 + 6 * a + 1) t = y then z_ldC a y m t V else
        v_ur (v_ur (z_ldC a y m t V) (10 + 6 * y.toNat + 3) (v_cp (z_ldC a y m t V (10 + 6 * (z_ldC a y m t V (10 + 6 * a + 1) t).toNat + 3)) (z_ldC a y m t V (10 + 6 * y.toNat + 3)) (4 * t) (4 * t) 4)) (10 + 6 * (z_ldC a y m t V (10 + 6 * a + 1) t).toNat + 3) (z_fl (z_ldC a y m t V (10 + 6 * (z_ldC a y m t V (10 + 6 * a + 1) t).toNat + 3)) (4 * t) 4 0)) (10 + 6 * a + 1) t y
    else z_ldC a y m t V
theorem z_ldC_0 {a t : Nat} {y m : Int} {V : v_V} (h : ¬ m / 2 ^ t % 2 = 1) : z_ldC a y m (t + 1) V = z_ldC a y m t V := if_neg h
theorem z_ldC_1 {a t : Nat} {y m : Int} {V : v_V} (h : m / 2 ^ t % 2 = 1) (h2 : z_ldC a y m t V (10 + 6 * a + 1) t = y) : z_ldC a y m (t + 1) V = v_up (z_ldC a y m t V) (10 + 6 * a + 1) t y := by
  have e : z_ldC a y m (t + 1) V = _ := if_pos h
  rw [e, if_pos h2]
theorem z_ldC_2 {a t c : Nat} {y m : Int} {V : v_V} (h : m / 2 ^ t % 2 = 1) (hc : z_ldC a y m t V (10 + 6 * a + 1) t = (c : Int)) (h2 : (c : Int) ≠ y) : z_ldC a y m (t + 1) V = v_up (v_ur (v_ur (z_ldC a y m t V) (10 + 6 * y.toNat + 3) (v_cp (z_ldC a y m t V (10 + 6 * c + 3)) (z_ldC a y m t V (10 + 6 * y.toNat + 3)) (4 * t) (4 * t) 4)) (10 + 6 * c + 3) (z_fl (z_ldC a y m t V (10 + 6 * c + 3)) (4 * t) 4 0)) (10 + 6 * a + 1) t y := by
  have e : z_ldC a y m (t + 1) V = _ := if_pos h
  rw [e, hc, if_neg h2]
  rfl
theorem z_ldC_fr {a : Nat} {y m : Int} {V : v_V} (k : Nat) (h1 : k ≠ 10 + 6 * a + 1) (h2 : ∀ i : Nat, k ≠ 10 + 6 * i + 3) : ∀ t : Nat, z_ldC a y m t V k = V k
  | 0 => rfl
  | t + 1 => by
    have ih := z_ldC_fr (V := V) (y := y) (m := m) k h1 h2 t
    by_cases h : m / 2 ^ t % 2 = 1
    · have e : z_ldC a y m (t + 1) V = _ := if_pos h
      rw [e, v_up_ne h1]
      split
      · exact ih
      · rw [v_ur_ne (h2 _), v_ur_ne (h2 _)]
        exact ih
    · rw [z_ldC_0 h]
      exact ih
theorem z_ldC_led {a : Nat} {y m : Int} {V : v_V} (j : Nat) : ∀ t : Nat, z_ldC a y m t V (10 + 6 * a + 1) j = if j < t ∧ m / 2 ^ j % 2 = 1 then y else V (10 + 6 * a + 1) j
  | 0 => (if_neg (by omega)).symm
  | t + 1 => by
    have ih := z_ldC_led (a := a) (V := V) (y := y) (m := m) j t
    by_cases h : m / 2 ^ t % 2 = 1
    · have e : z_ldC a y m (t + 1) V = _ := if_pos h
      rw [e]
      by_cases hj : j = t
      · subst hj
        rw [v_up_eq, if_pos ⟨by omega, h⟩]
      · rw [v_up_ni hj]
        have e2 : ∀ W : v_V, (if z_ldC a y m t V (10 + 6 * a + 1) t = y then z_ldC a y m t V else W) (10 + 6 * a + 1) j = if z_ldC a y m t V (10 + 6 * a + 1) t = y then z_ldC a y m t V (10 + 6 * a + 1) j else W (10 + 6 * a + 1) j := fun W => by split <;> rfl
        rw [e2, v_ur_ne (by omega), v_ur_ne (by omega), ite_self, ih]
        by_cases h5 : j < t ∧ m / 2 ^ j % 2 = 1
        · rw [if_pos h5, if_pos ⟨by omega, h5.2⟩]
        · rw [if_neg h5, if_neg (fun q => h5 ⟨by omega, q.2⟩)]
    · rw [z_ldC_0 h, ih]
      by_cases h5 : j < t ∧ m / 2 ^ j % 2 = 1
      · rw [if_pos h5, if_pos ⟨by omega, h5.2⟩]
      · rw [if_neg h5, if_neg (fun q => h5 ⟨by rcases (show j < t ∨ j = t by omega) with r | r; exact r; exact absurd (r ▸ q.2) h, q.2⟩)]
theorem z_p2le {i : Nat} (h : i < 16) : (2 : Int) ^ i ≤ 32768 := by
  have : ∀ i : Nat, i < 16 → (2 : Int) ^ i ≤ 32768 := by decide
  exact this i h
set_option maxRecDepth 100000 in
set_option maxHeartbeats 4000000 in
theorem lp_lead (hC : ClF S) {x y q : Int} (hx : 0 ≤ x ∧ x < V 1 5) (hy : 0 ≤ y ∧ y < V 1 5) (hq : 0 ≤ q ∧ q ≤ 65535) (hB : 0 ≤ V 1 5 ∧ V 1 5 ≤ 8) (hL : ∀ b : Nat, (b : Int) < V 1 5 → ∀ t : Nat, t < 16 → 0 ≤ V (10 + 6 * b + 1) t ∧ V (10 + 6 * b + 1) t < V 1 5) (hN : ∀ b : Nat, (b : Int) < V 1 5 → V (10 + 6 * b) 0 = (b : Int)) {F : Nat} : ∀ (m : Nat) (i : Nat), 16 - i < m → (i ≤ 16) → (y_E X 3 80 F u w 166 [(0, .ref 0), (1, iv x), (2, iv y), (3, iv q), (4, .ref (10 + 6 * x.toNat)), (5, .ref (10 + 6 * y.toNat))] [] S (z_ldC x.toNat y q 16 V) K) → y_E X 3 80 (400 * m + F) u w 86 [(0, .ref 0), (1, iv x), (2, iv y), (3, iv q), (4, .ref (10 + 6 * x.toNat)), (5, .ref (10 + 6 * y.toNat)), (6, iv (i : Int))] [] S (z_ldC x.toNat y q i V) K := by
  intro m
  induction m with
  | zero => intros; omega
  | succ m ih =>
    intro i hm hI hx2
    refine y_mono (F' := (400 * m + F) + 400) ?_ (by omega)
    refine y_ld (x := iv (i : Int)) rfl rfl (fun d => rfl) ?_
    refine y_bi rfl rfl (by decide) ?_
    refine y_jge rfl rfl rfl (by omega) (fun g1 => ?_) (fun g1 => ?_)
    · refine y_lv (l' := [(0, .ref 0), (1, iv x), (2, iv y), (3, iv q), (4, .ref (10 + 6 * x.toNat)), (5, .ref (10 + 6 * y.toNat))]) rfl ⟨rfl, rfl, rfl, rfl, rfl, rfl, trivial⟩ ?_
      obtain rfl : i = 16 := by omega
      exact y_mono hx2 (by omega)
    · have hp2 := v_p2 i
      have hp3 : (2 : Int) ^ i ≤ 32768 := z_p2le (by omega)
      rcases (show q / 2 ^ i % 2 = 0 ∨ q / 2 ^ i % 2 = 1 by have := v_bit01 q i; omega) with hd | hd
      · refine y_ld (x := iv q) rfl rfl (fun d => rfl) ?_
        refine y_ic rfl rfl ?_
        refine y_ld (x := iv (i : Int)) rfl rfl (fun d => rfl) ?_
        refine y_op (z := (2 ^ i)) rfl rfl (fun d => rfl) (v_shl1 (k := (i : Int)) (by omega)) ?_
        refine y_op (z := 0) rfl rfl (fun d => rfl) ((v_and2 (x := q) (k := i) (by omega) (by omega)).trans (by rw [hd, Int.mul_zero])) ?_
        refine y_zne rfl rfl rfl (by decide) (fun g2 => absurd g2 (by decide)) (fun g2 => ?_)
        refine y_go rfl rfl ?_
        refine y_inc (z := ((i + 1 : Nat) : Int)) (lv' := [(6, iv ((i + 1 : Nat) : Int)), (0, .ref 0), (1, iv x), (2, iv y), (3, iv q), (4, .ref (10 + 6 * x.toNat)), (5, .ref (10 + 6 * y.toNat))]) rfl rfl rfl (by omega) rfl ?_
        refine y_go rfl rfl ?_
        refine y_lv (l' := [(0, .ref 0), (1, iv x), (2, iv y), (3, iv q), (4, .ref (10 + 6 * x.toNat)), (5, .ref (10 + 6 * y.toNat)), (6, iv ((i + 1 : Nat) : Int))]) rfl ⟨rfl, rfl, rfl, rfl, rfl, rfl, rfl, trivial⟩ ?_
        refine y_V (V' := z_ldC x.toNat y q (i + 1) V) (z_ldC_0 (by omega)).symm ?_
        exact y_mono (ih (i + 1) (by omega) (by omega) hx2) (by omega)
      · refine y_ld (x := iv q) rfl rfl (fun d => rfl) ?_
        refine y_ic rfl rfl ?_
        refine y_ld (x := iv (i : Int)) rfl rfl (fun d => rfl) ?_
        refine y_op (z := (2 ^ i)) rfl rfl (fun d => rfl) (v_shl1 (k := (i : Int)) (by omega)) ?_
        refine y_op (z := (2 ^ i)) rfl rfl (fun d => rfl) ((v_and2 (x := q) (k := i) (by omega) (by omega)).trans (by rw [hd, Int.mul_one])) ?_
        refine y_zne rfl rfl rfl (by omega) (fun g3 => ?_) (fun g3 => absurd g3 (by omega))
        have e5 : (z_ldC x.toNat y q i V) 1 5 = V 1 5 := by rw [z_ldC_fr 1 (by omega) (fun _ => by omega)]
        have el := z_ldC_led (a := x.toNat) (V := V) (y := y) (m := q) i i
        rw [if_neg (by omega)] at el
        have hl := hL x.toNat (by omega) i (by omega)
        obtain ⟨c, hc⟩ : ∃ c : Nat, (z_ldC x.toNat y q i V) (10 + 6 * x.toNat + 1) i = (c : Int) := ⟨((z_ldC x.toNat y q i V) (10 + 6 * x.toNat + 1) i).toNat, by omega⟩
        have hc8 : (c : Int) < V 1 5 := by omega
        have hnum : (z_ldC x.toNat y q i V) (10 + 6 * c) 0 = (c : Int) := by rw [z_ldC_fr (10 + 6 * c) (by omega) (fun _ => by omega)]; exact hN c hc8
        refine y_ld (x := .ref 0) rfl rfl (fun d => rfl) ?_
        refine y_gR (i := 0) rfl rfl rfl (hC 0 _ _ rfl) rfl ?_
        refine y_ld (x := .ref (10 + 6 * x.toNat)) rfl rfl (fun d => rfl) ?_
        refine y_gR (i := 5) rfl rfl rfl (bx_ob hC (i := x.toNat) (by omega)) rfl ?_
        refine y_ld (x := iv (i : Int)) rfl rfl (fun d => rfl) ?_
        refine y_ild (x := (c : Int)) (q := i) rfl rfl (bx_led hC (i := x.toNat) (by omega)) (by omega) (by decide) (by omega) hc ?_
        refine y_cV (as := [.ref 1, iv (c : Int)]) rfl rfl rfl rfl rfl (hC 1 _ _ rfl) ⟨rfl, (Nat.le_of_ble_eq_true rfl), (Nat.le_of_ble_eq_true rfl)⟩ (by decide) (cb_boxAt (V := (z_ldC x.toNat y q i V)) (x := (c : Int)) hC (by omega) (by omega) (fun hno => absurd (show 0 ≤ (c : Int) ∧ (c : Int) < (z_ldC x.toNat y q i V) 1 5 by omega) hno) (fun gB => ?_))
        refine y_nv ?_
        refine y_st (lv' := [(7, .ref (10 + 6 * c)), (0, .ref 0), (1, iv x), (2, iv y), (3, iv q), (4, .ref (10 + 6 * x.toNat)), (5, .ref (10 + 6 * y.toNat)), (6, iv (i : Int))]) rfl rfl (fun d => rfl) ?_
        refine y_ld (x := .ref (10 + 6 * c)) rfl rfl (fun d => rfl) ?_
        refine y_in (pc' := 127) rfl rfl (fun d => rfl) ?_
        refine y_ld (x := .ref (10 + 6 * c)) rfl rfl (fun d => rfl) ?_
        refine y_gI (i := 0) (e := (c : Int)) rfl rfl rfl (bx_ob hC (i := c) (by omega)) rfl hnum ?_
        refine y_ld (x := iv y) rfl rfl (fun d => rfl) ?_
        refine y_jeq rfl rfl rfl (by omega) (fun g4 => ?_) (fun g4 => ?_)
        · refine y_ld (x := .ref (10 + 6 * x.toNat)) rfl rfl (fun d => rfl) ?_
          refine y_gR (i := 5) rfl rfl rfl (bx_ob hC (i := x.toNat) (by omega)) rfl ?_
          refine y_ld (x := iv (i : Int)) rfl rfl (fun d => rfl) ?_
          refine y_ld (x := iv y) rfl rfl (fun d => rfl) ?_
          refine y_ist (q := i) rfl rfl (bx_led hC (i := x.toNat) (by omega)) (by omega) (by decide) (by omega) ?_
          refine y_inc (z := ((i + 1 : Nat) : Int)) (lv' := [(6, iv ((i + 1 : Nat) : Int)), (7, .ref (10 + 6 * c)), (0, .ref 0), (1, iv x), (2, iv y), (3, iv q), (4, .ref (10 + 6 * x.toNat)), (5, .ref (10 + 6 * y.toNat))]) rfl rfl rfl (by omega) rfl ?_
          refine y_go rfl rfl ?_
          refine y_lv (l' := [(0, .ref 0), (1, iv x), (2, iv y), (3, iv q), (4, .ref (10 + 6 * x.toNat)), (5, .ref (10 + 6 * y.toNat)), (6, iv ((i + 1 : Nat) : Int))]) rfl ⟨rfl, rfl, rfl, rfl, rfl, rfl, rfl, trivial⟩ ?_
          refine y_V (V' := z_ldC x.toNat y q (i + 1) V) (z_ldC_1 hd (by omega)).symm ?_
          exact y_mono (ih (i + 1) (by omega) (by omega) hx2) (by omega)
        · refine y_ld (x := .ref (10 + 6 * y.toNat)) rfl rfl (fun d => rfl) ?_
          refine y_gR (i := 6) rfl rfl rfl (bx_ob hC (i := y.toNat) (by omega)) rfl ?_
          refine y_ld (x := .ref (10 + 6 * c)) rfl rfl (fun d => rfl) ?_
          refine y_gR (i := 6) rfl rfl rfl (bx_ob hC (i := c) (by omega)) rfl ?_
          refine y_ld (x := iv (i : Int)) rfl rfl (fun d => rfl) ?_
          refine y_cV (as := [.ref (10 + 6 * y.toNat + 2), .ref (10 + 6 * c + 2), iv (i : Int)]) rfl rfl rfl rfl rfl (bx_mem hC (i := y.toNat) (by omega)) ⟨rfl, (Nat.le_of_ble_eq_true rfl), (Nat.le_of_ble_eq_true rfl)⟩ (by decide) (cc_take (V := (z_ldC x.toNat y q i V)) (t := i) ⟨(bx_mem hC (i := y.toNat) (by omega)), (bx_mcl hC (i := y.toNat) (by omega))⟩ ⟨(bx_mem hC (i := c) (by omega)), (bx_mcl hC (i := c) (by omega))⟩ (by omega) (by omega) ?_)
          refine y_n0 ?_
          refine y_ld (x := .ref (10 + 6 * x.toNat)) rfl rfl (fun d => rfl) ?_
          refine y_gR (i := 5) rfl rfl rfl (bx_ob hC (i := x.toNat) (by omega)) rfl ?_
          refine y_ld (x := iv (i : Int)) rfl rfl (fun d => rfl) ?_
          refine y_ld (x := iv y) rfl rfl (fun d => rfl) ?_
          refine y_ist (q := i) rfl rfl (bx_led hC (i := x.toNat) (by omega)) (by omega) (by decide) (by omega) ?_
          refine y_inc (z := ((i + 1 : Nat) : Int)) (lv' := [(6, iv ((i + 1 : Nat) : Int)), (7, .ref (10 + 6 * c)), (0, .ref 0), (1, iv x), (2, iv y), (3, iv q), (4, .ref (10 + 6 * x.toNat)), (5, .ref (10 + 6 * y.toNat))]) rfl rfl rfl (by omega) rfl ?_
          refine y_go rfl rfl ?_
          refine y_lv (l' := [(0, .ref 0), (1, iv x), (2, iv y), (3, iv q), (4, .ref (10 + 6 * x.toNat)), (5, .ref (10 + 6 * y.toNat)), (6, iv ((i + 1 : Nat) : Int))]) rfl ⟨rfl, rfl, rfl, rfl, rfl, rfl, rfl, trivial⟩ ?_
          refine y_V (V' := z_ldC x.toNat y q (i + 1) V) (z_ldC_2 hd hc (by omega)).symm ?_
          exact y_mono (ih (i + 1) (by omega) (by omega) hx2) (by omega)
end
end
section
/-! lead, the class, whole -/
section
variable {X : Nat → List Int32} {u w : Nat} {S : m_H} {V : v_V} {K : v_K}
set_option maxRecDepth 100000 in
set_option maxHeartbeats 4000000 in
theorem cs_lead (hC : ClF S) {x y q : Int} (hxr : (-2147483648 ≤ x ∧ x < 2147483648)) (hyr : (-2147483648 ≤ y ∧ y < 2147483648)) (hqr : (-2147483648 ≤ q ∧ q < 2147483648)) (hB : 0 ≤ V 1 5 ∧ V 1 5 ≤ 8) (hL : ∀ b : Nat, (b : Int) < V 1 5 → ∀ t : Nat, t < 16 → 0 ≤ V (10 + 6 * b + 1) t ∧ V (10 + 6 * b + 1) t < V 1 5) (hN : ∀ b : Nat, (b : Int) < V 1 5 → V (10 + 6 * b) 0 = (b : Int)) (hn : 0 ≤ V 1 7 ∧ V 1 7 ≤ 6) (hRw : ∀ t : Nat, t < 6 → 0 ≤ V 5 t ∧ V 5 t ≤ 7) (k0 : ¬ (0 ≤ x ∧ x < V 1 5) → ¬ (0 ≤ y ∧ y < V 1 5) → K u w (some (iv (-1))) S V) (k1 : ¬ (0 ≤ x ∧ x < V 1 5) → 0 ≤ y ∧ y < V 1 5 → K u w (some (iv (-1))) S V) (k2 : 0 ≤ x ∧ x < V 1 5 → ¬ (0 ≤ y ∧ y < V 1 5) → K u w (some (iv (-1))) S V) (k3 : 0 ≤ x ∧ x < V 1 5 → 0 ≤ y ∧ y < V 1 5 → (0 ≤ q ∧ q ≤ 65535) → (∃ b : Nat, (b : Int) < V 1 5 ∧ (b : Int) ≠ x ∧ ∃ t : Nat, t < 16 ∧ V (10 + 6 * b + 1) t = x) → ¬ ((1 : Int) = 0) → K u w (some (iv (-3))) S V) (k4 : 0 ≤ x ∧ x < V 1 5 → 0 ≤ y ∧ y < V 1 5 → (0 ≤ q ∧ q ≤ 65535) → (∀ b : Nat, (b : Int) < V 1 5 → (b : Int) ≠ x → ∀ t : Nat, t < 16 → V (10 + 6 * b + 1) t ≠ x) → (0 : Int) = 0 → (y : Int) = x → K u w (some (iv (z_na ((z_ldC x.toNat y q 16 V) (10 + 6 * x.toNat + 1)) ((z_ldC x.toNat y q 16 V) (10 + 6 * x.toNat) 0) 16))) S (z_ldC x.toNat y q 16 V)) (k5 : 0 ≤ x ∧ x < V 1 5 → 0 ≤ y ∧ y < V 1 5 → (0 ≤ q ∧ q ≤ 65535) → (∀ b : Nat, (b : Int) < V 1 5 → (b : Int) ≠ x → ∀ t : Nat, t < 16 → V (10 + 6 * b + 1) t ≠ x) → (0 : Int) = 0 → ¬ ((y : Int) = x) → (∃ t : Nat, (t : Int) < V 1 7 ∧ V 5 t = y) → (1 : Int) ≠ 0 → K u w (some (iv (-3))) S V) (k6 : 0 ≤ x ∧ x < V 1 5 → 0 ≤ y ∧ y < V 1 5 → (0 ≤ q ∧ q ≤ 65535) → (∀ b : Nat, (b : Int) < V 1 5 → (b : Int) ≠ x → ∀ t : Nat, t < 16 → V (10 + 6 * b + 1) t ≠ x) → (0 : Int) = 0 → ¬ ((y : Int) = x) → (∀ t : Nat, (t : Int) < V 1 7 → V 5 t ≠ y) → ¬ ((0 : Int) ≠ 0) → (z_na (V (10 + 6 * y.toNat + 1)) (V (10 + 6 * y.toNat) 0) 16 : Int) ≤ 0 → K u w (some (iv (z_na ((z_ldC x.toNat y q 16 V) (10 + 6 * x.toNat + 1)) ((z_ldC x.toNat y q 16 V) (10 + 6 * x.toNat) 0) 16))) S (z_ldC x.toNat y q 16 V)) (k7 : 0 ≤ x ∧ x < V 1 5 → 0 ≤ y ∧ y < V 1 5 → (0 ≤ q ∧ q ≤ 65535) → (∀ b : Nat, (b : Int) < V 1 5 → (b : Int) ≠ x → ∀ t : Nat, t < 16 → V (10 + 6 * b + 1) t ≠ x) → (0 : Int) = 0 → ¬ ((y : Int) = x) → (∀ t : Nat, (t : Int) < V 1 7 → V 5 t ≠ y) → ¬ ((0 : Int) ≠ 0) → ¬ ((z_na (V (10 + 6 * y.toNat + 1)) (V (10 + 6 * y.toNat) 0) 16 : Int) ≤ 0) → K u w (some (iv (-3))) S V) (k8 : 0 ≤ x ∧ x < V 1 5 → 0 ≤ y ∧ y < V 1 5 → ¬ (0 ≤ q ∧ q ≤ 65535) → K u w (some (iv (-2))) S V) : y_R X 4 80 u w [.ref 0, iv x, iv y, iv q] S V K := by
  have hL7 : ∀ b : Nat, (b : Int) < V 1 5 → ∀ t : Nat, t < 16 → 0 ≤ V (10 + 6 * b + 1) t ∧ V (10 + 6 * b + 1) t ≤ 7 := fun b hb t ht => by have := hL b hb t ht; omega
  refine y_ent (lv' := [(0, .ref 0), (1, iv x), (2, iv y), (3, iv q)]) (Nat.le_of_ble_eq_true rfl) rfl ?_
  refine y_ld (x := .ref 0) rfl rfl (fun d => rfl) ?_
  refine y_gR (i := 0) rfl rfl rfl (hC 0 _ _ rfl) rfl ?_
  refine y_ld (x := iv x) rfl rfl (fun d => rfl) ?_
  refine y_cV (as := [.ref 1, iv x]) rfl rfl rfl rfl rfl (hC 1 _ _ rfl) ⟨rfl, (Nat.le_of_ble_eq_true rfl), (Nat.le_of_ble_eq_true rfl)⟩ (by decide) (cb_boxAt (x := x) hC hB (by omega) (fun gb1 => ?_) (fun gb1 => ?_))
  · refine y_nv ?_
    refine y_st (lv' := [(4, .null), (0, .ref 0), (1, iv x), (2, iv y), (3, iv q)]) rfl rfl (fun d => rfl) ?_
    refine y_ld (x := .ref 0) rfl rfl (fun d => rfl) ?_
    refine y_gR (i := 0) rfl rfl rfl (hC 0 _ _ rfl) rfl ?_
    refine y_ld (x := iv y) rfl rfl (fun d => rfl) ?_
    refine y_cV (as := [.ref 1, iv y]) rfl rfl rfl rfl rfl (hC 1 _ _ rfl) ⟨rfl, (Nat.le_of_ble_eq_true rfl), (Nat.le_of_ble_eq_true rfl)⟩ (by decide) (cb_boxAt (x := y) hC hB (by omega) (fun gb2 => ?_) (fun gb2 => ?_))
    · refine y_nv ?_
      refine y_st (lv' := [(5, .null), (4, .null), (0, .ref 0), (1, iv x), (2, iv y), (3, iv q)]) rfl rfl (fun d => rfl) ?_
      refine y_ld (x := .null) rfl rfl (fun d => rfl) ?_
      refine y_in (pc' := 30) rfl rfl (fun d => rfl) ?_
      refine y_ic rfl rfl ?_
      refine y_rI rfl (Or.inl rfl) ?_
      exact k0 gb1 gb2
    · refine y_nv ?_
      refine y_st (lv' := [(5, .ref (10 + 6 * y.toNat)), (4, .null), (0, .ref 0), (1, iv x), (2, iv y), (3, iv q)]) rfl rfl (fun d => rfl) ?_
      refine y_ld (x := .null) rfl rfl (fun d => rfl) ?_
      refine y_in (pc' := 30) rfl rfl (fun d => rfl) ?_
      refine y_ic rfl rfl ?_
      refine y_rI rfl (Or.inl rfl) ?_
      exact k1 gb1 gb2
  · refine y_nv ?_
    refine y_st (lv' := [(4, .ref (10 + 6 * x.toNat)), (0, .ref 0), (1, iv x), (2, iv y), (3, iv q)]) rfl rfl (fun d => rfl) ?_
    refine y_ld (x := .ref 0) rfl rfl (fun d => rfl) ?_
    refine y_gR (i := 0) rfl rfl rfl (hC 0 _ _ rfl) rfl ?_
    refine y_ld (x := iv y) rfl rfl (fun d => rfl) ?_
    refine y_cV (as := [.ref 1, iv y]) rfl rfl rfl rfl rfl (hC 1 _ _ rfl) ⟨rfl, (Nat.le_of_ble_eq_true rfl), (Nat.le_of_ble_eq_true rfl)⟩ (by decide) (cb_boxAt (x := y) hC hB (by omega) (fun gb3 => ?_) (fun gb3 => ?_))
    · refine y_nv ?_
      refine y_st (lv' := [(5, .null), (4, .ref (10 + 6 * x.toNat)), (0, .ref 0), (1, iv x), (2, iv y), (3, iv q)]) rfl rfl (fun d => rfl) ?_
      refine y_ld (x := .ref (10 + 6 * x.toNat)) rfl rfl (fun d => rfl) ?_
      refine y_in (pc' := 25) rfl rfl (fun d => rfl) ?_
      refine y_ld (x := .null) rfl rfl (fun d => rfl) ?_
      refine y_in (pc' := 30) rfl rfl (fun d => rfl) ?_
      refine y_ic rfl rfl ?_
      refine y_rI rfl (Or.inl rfl) ?_
      exact k2 gb1 gb3
    · refine y_nv ?_
      refine y_st (lv' := [(5, .ref (10 + 6 * y.toNat)), (4, .ref (10 + 6 * x.toNat)), (0, .ref 0), (1, iv x), (2, iv y), (3, iv q)]) rfl rfl (fun d => rfl) ?_
      refine y_ld (x := .ref (10 + 6 * x.toNat)) rfl rfl (fun d => rfl) ?_
      refine y_in (pc' := 25) rfl rfl (fun d => rfl) ?_
      refine y_ld (x := .ref (10 + 6 * y.toNat)) rfl rfl (fun d => rfl) ?_
      refine y_in (pc' := 32) rfl rfl (fun d => rfl) ?_
      refine y_ld (x := iv q) rfl rfl (fun d => rfl) ?_
      refine y_cS (as := [iv q]) rfl (by decide) rfl rfl rfl rfl ⟨(Nat.le_of_ble_eq_true rfl), (Nat.le_of_ble_eq_true rfl)⟩ (by decide) (cc_areTalks (by omega) ?_)
      refine y_nv ?_
      refine y_bne rfl rfl rfl (fun g1 => ?_) (fun g1 => ?_)
      · refine y_ld (x := .ref 0) rfl rfl (fun d => rfl) ?_
        refine y_gR (i := 0) rfl rfl rfl (hC 0 _ _ rfl) rfl ?_
        refine y_ld (x := iv x) rfl rfl (fun d => rfl) ?_
        refine y_cV (as := [.ref 1, iv x]) rfl rfl rfl rfl rfl (hC 1 _ _ rfl) ⟨rfl, (Nat.le_of_ble_eq_true rfl), (Nat.le_of_ble_eq_true rfl)⟩ (by decide) (cb_isLedTo (x := x) hC hxr hB hL7 (fun qL => ?_) (fun qL => ?_))
        · refine y_nv ?_
          refine y_zeq rfl rfl rfl (by decide) (fun g2 => absurd g2 (by decide)) (fun g2 => ?_)
          refine y_bi rfl rfl (by decide) ?_
          refine y_rI rfl (Or.inl rfl) ?_
          exact k3 gb1 gb3 g1 qL (by omega)
        · refine y_nv ?_
          refine y_zeq rfl rfl rfl (by decide) (fun g3 => ?_) (fun g3 => absurd g3 (by decide))
          refine y_ld (x := iv y) rfl rfl (fun d => rfl) ?_
          refine y_ld (x := iv x) rfl rfl (fun d => rfl) ?_
          refine y_jeq rfl rfl rfl (by omega) (fun g4 => ?_) (fun g4 => ?_)
          · refine y_ic rfl rfl ?_
            refine y_st (lv' := [(6, iv 0), (5, .ref (10 + 6 * y.toNat)), (4, .ref (10 + 6 * x.toNat)), (0, .ref 0), (1, iv x), (2, iv y), (3, iv q)]) rfl rfl (fun d => rfl) ?_
            refine y_lv (l' := [(0, .ref 0), (1, iv x), (2, iv y), (3, iv q), (4, .ref (10 + 6 * x.toNat)), (5, .ref (10 + 6 * y.toNat)), (6, iv 0)]) rfl ⟨rfl, rfl, rfl, rfl, rfl, rfl, rfl, trivial⟩ ?_
            refine y_V (V' := z_ldC x.toNat y q 0 V) rfl ?_
            refine y_mono (lp_lead (F := 20000) hC (x := x) (y := y) (q := q) (by omega) (by omega) (by omega) hB hL hN 17 0 (by omega) (by omega) ?_) (by decide)
            have hw0 : 0 ≤ (z_ldC x.toNat y q 16 V) (10 + 6 * x.toNat) 0 ∧ (z_ldC x.toNat y q 16 V) (10 + 6 * x.toNat) 0 ≤ 7 := by
              have := hN x.toNat (by omega)
              rw [z_ldC_fr (10 + 6 * x.toNat) (by omega) (fun _ => by omega)]
              omega
            have hw1 : ∀ t : Nat, t < 16 → 0 ≤ (z_ldC x.toNat y q 16 V) (10 + 6 * x.toNat + 1) t ∧ (z_ldC x.toNat y q 16 V) (10 + 6 * x.toNat + 1) t ≤ 7 := by
              intro t ht
              have := hL7 x.toNat (by omega) t ht
              rw [z_ldC_led]
              split <;> omega
            refine y_ld (x := .ref (10 + 6 * x.toNat)) rfl rfl (fun d => rfl) ?_
            refine y_cV (as := [.ref (10 + 6 * x.toNat)]) rfl rfl rfl rfl rfl (bx_ob hC (i := x.toNat) (by omega)) ⟨rfl, (Nat.le_of_ble_eq_true rfl), (Nat.le_of_ble_eq_true rfl)⟩ (by decide) (cb_ledAway (V := (z_ldC x.toNat y q 16 V)) (b := x.toNat) hC (by omega) hw0 hw1 ?_)
            have hz4 := z_na_lt ((z_ldC x.toNat y q 16 V) (10 + 6 * x.toNat + 1)) ((z_ldC x.toNat y q 16 V) (10 + 6 * x.toNat) 0) 16
            refine y_nv ?_
            refine y_rI rfl (Or.inl rfl) ?_
            exact k4 gb1 gb3 g1 qL (by omega) (by omega)
          · refine y_ld (x := .ref 0) rfl rfl (fun d => rfl) ?_
            refine y_gR (i := 0) rfl rfl rfl (hC 0 _ _ rfl) rfl ?_
            refine y_ld (x := iv y) rfl rfl (fun d => rfl) ?_
            refine y_cV (as := [.ref 1, iv y]) rfl rfl rfl rfl rfl (hC 1 _ _ rfl) ⟨rfl, (Nat.le_of_ble_eq_true rfl), (Nat.le_of_ble_eq_true rfl)⟩ (by decide) (cb_isInRow (x := y) hC hyr hn hRw (fun qI => ?_) (fun qI => ?_))
            · refine y_nv ?_
              refine y_zne rfl rfl rfl (by decide) (fun g5 => ?_) (fun g5 => absurd g5 (by decide))
              refine y_bi rfl rfl (by decide) ?_
              refine y_rI rfl (Or.inl rfl) ?_
              exact k5 gb1 gb3 g1 qL (by omega) (by omega) qI (by omega)
            · refine y_nv ?_
              refine y_zne rfl rfl rfl (by decide) (fun g6 => absurd g6 (by decide)) (fun g6 => ?_)
              refine y_ld (x := .ref (10 + 6 * y.toNat)) rfl rfl (fun d => rfl) ?_
              have hla1 : 0 ≤ V (10 + 6 * y.toNat) 0 ∧ V (10 + 6 * y.toNat) 0 ≤ 7 := by have := hN y.toNat (by omega); omega
              have hla2 : ∀ t : Nat, t < 16 → 0 ≤ V (10 + 6 * y.toNat + 1) t ∧ V (10 + 6 * y.toNat + 1) t ≤ 7 := fun t ht => hL7 y.toNat (by omega) t ht
              have hz3 := z_na_lt (V (10 + 6 * y.toNat + 1)) (V (10 + 6 * y.toNat) 0) 16
              refine y_cV (as := [.ref (10 + 6 * y.toNat)]) rfl rfl rfl rfl rfl (bx_ob hC (i := y.toNat) (by omega)) ⟨rfl, (Nat.le_of_ble_eq_true rfl), (Nat.le_of_ble_eq_true rfl)⟩ (by decide) (cb_ledAway (V := V) (b := y.toNat) hC (by omega) hla1 hla2 ?_)
              have hz4 := z_na_lt (V (10 + 6 * y.toNat + 1)) (V (10 + 6 * y.toNat) 0) 16
              refine y_nv ?_
              refine y_zle rfl rfl rfl (by omega) (fun g7 => ?_) (fun g7 => ?_)
              · refine y_ic rfl rfl ?_
                refine y_st (lv' := [(6, iv 0), (5, .ref (10 + 6 * y.toNat)), (4, .ref (10 + 6 * x.toNat)), (0, .ref 0), (1, iv x), (2, iv y), (3, iv q)]) rfl rfl (fun d => rfl) ?_
                refine y_lv (l' := [(0, .ref 0), (1, iv x), (2, iv y), (3, iv q), (4, .ref (10 + 6 * x.toNat)), (5, .ref (10 + 6 * y.toNat)), (6, iv 0)]) rfl ⟨rfl, rfl, rfl, rfl, rfl, rfl, rfl, trivial⟩ ?_
                refine y_V (V' := z_ldC x.toNat y q 0 V) rfl ?_
                refine y_mono (lp_lead (F := 20000) hC (x := x) (y := y) (q := q) (by omega) (by omega) (by omega) hB hL hN 17 0 (by omega) (by omega) ?_) (by decide)
                have hw0 : 0 ≤ (z_ldC x.toNat y q 16 V) (10 + 6 * x.toNat) 0 ∧ (z_ldC x.toNat y q 16 V) (10 + 6 * x.toNat) 0 ≤ 7 := by
                  have := hN x.toNat (by omega)
                  rw [z_ldC_fr (10 + 6 * x.toNat) (by omega) (fun _ => by omega)]
                  omega
                have hw1 : ∀ t : Nat, t < 16 → 0 ≤ (z_ldC x.toNat y q 16 V) (10 + 6 * x.toNat + 1) t ∧ (z_ldC x.toNat y q 16 V) (10 + 6 * x.toNat + 1) t ≤ 7 := by
                  intro t ht
                  have := hL7 x.toNat (by omega) t ht
                  rw [z_ldC_led]
                  split <;> omega
                refine y_ld (x := .ref (10 + 6 * x.toNat)) rfl rfl (fun d => rfl) ?_
                refine y_cV (as := [.ref (10 + 6 * x.toNat)]) rfl rfl rfl rfl rfl (bx_ob hC (i := x.toNat) (by omega)) ⟨rfl, (Nat.le_of_ble_eq_true rfl), (Nat.le_of_ble_eq_true rfl)⟩ (by decide) (cb_ledAway (V := (z_ldC x.toNat y q 16 V)) (b := x.toNat) hC (by omega) hw0 hw1 ?_)
                have hz4 := z_na_lt ((z_ldC x.toNat y q 16 V) (10 + 6 * x.toNat + 1)) ((z_ldC x.toNat y q 16 V) (10 + 6 * x.toNat) 0) 16
                refine y_nv ?_
                refine y_rI rfl (Or.inl rfl) ?_
                exact k6 gb1 gb3 g1 qL (by omega) (by omega) qI (by omega) (by omega)
              · refine y_bi rfl rfl (by decide) ?_
                refine y_rI rfl (Or.inl rfl) ?_
                exact k7 gb1 gb3 g1 qL (by omega) (by omega) qI (by omega) (by omega)
      · refine y_bi rfl rfl (by decide) ?_
        refine y_rI rfl (Or.inl rfl) ?_
        exact k8 gb1 gb3 g1
end
end
section
/-! lead, the reference -/
section
variable {X : Nat → List Int32} {u w : Nat} {S : m_H} {V : v_V} {K : v_K}
def z_mv (g : Nat → Int) (p q : Nat) : Nat → Int := v_uf (v_uf (v_uf (v_uf (v_uf (v_uf (v_uf (v_uf g (q + 0) (g (p + 0))) (p + 0) 0) (q + 1) (g (p + 1))) (p + 1) 0) (q + 2) (g (p + 2))) (p + 2) 0) (q + 3) (g (p + 3))) (p + 3) 0
theorem z_mv_ne {g : Nat → Int} {p q k : Nat} (h1 : k < p ∨ p + 3 < k) (h2 : k < q ∨ q + 3 < k) : z_mv g p q k = g k := by
  unfold z_mv
  rw [v_uf_ne (by omega), v_uf_ne (by omega), v_uf_ne (by omega), v_uf_ne (by omega), v_uf_ne (by omega), v_uf_ne (by omega), v_uf_ne (by omega), v_uf_ne (by omega)]
/-- a talk t led on, in the reference's row of numbers -/
def z_ldR (a : Nat) (y m : Int) : Nat → (Nat → Int) → Nat → Int
  | 0, f => f
  | t + 1, f =>
    if m / 2 ^ t % 2 = 1 ∧ z_ldR a y m t f (1552 + 16 * a + t) ≠ y then
      v_uf (z_mv (z_ldR a y m t f) (200 + 84 * (z_ldR a y m t f (1552 + 16 * a + t)).toNat + 4 * t) (200 + 84 * y.toNat + 4 * t)) (1552 + 16 * a + t) y
    else z_ldR a y m t f
theorem z_ldR_0 {a t : Nat} {y m : Int} {f : Nat → Int} (h : ¬ (m / 2 ^ t % 2 = 1 ∧ z_ldR a y m t f (1552 + 16 * a + t) ≠ y)) : z_ldR a y m (t + 1) f = z_ldR a y m t f := if_neg h
theorem z_ldR_1 {a t c : Nat} {y m : Int} {f : Nat → Int} (h : m / 2 ^ t % 2 = 1) (hc : z_ldR a y m t f (1552 + 16 * a + t) = (c : Int)) (h2 : (c : Int) ≠ y) : z_ldR a y m (t + 1) f = v_uf (z_mv (z_ldR a y m t f) (200 + 84 * c + 4 * t) (200 + 84 * y.toNat + 4 * t)) (1552 + 16 * a + t) y := by
  have e : z_ldR a y m (t + 1) f = _ := if_pos ⟨h, by rw [hc]; exact h2⟩
  rw [e, hc]
  rfl
theorem z_ldR_led {a : Nat} {y m : Int} {f : Nat → Int} (ha : a < 8) (hy : 0 ≤ y ∧ y < 8) (hL : ∀ j : Nat, j < 16 → 0 ≤ f (1552 + 16 * a + j) ∧ f (1552 + 16 * a + j) < 8) : ∀ t : Nat, t ≤ 16 → z_ldR a y m t f 1 = f 1 ∧ ∀ j : Nat, j < 16 → z_ldR a y m t f (1552 + 16 * a + j) = if j < t ∧ m / 2 ^ j % 2 = 1 then y else f (1552 + 16 * a + j)
  | 0, _ => ⟨rfl, fun j _ => (if_neg (by omega)).symm⟩
  | t + 1, ht => by
    have ih := z_ldR_led (m := m) ha hy hL t (by omega)
    have it := ih.2 t (by omega)
    rw [if_neg (by omega)] at it
    have hl := hL t (by omega)
    by_cases h : m / 2 ^ t % 2 = 1 ∧ z_ldR a y m t f (1552 + 16 * a + t) ≠ y
    · have e : z_ldR a y m (t + 1) f = _ := if_pos h
      rw [e]
      refine ⟨?_, fun j hj => ?_⟩
      · rw [v_uf_ne (by omega), z_mv_ne (by omega) (by omega)]
        exact ih.1
      · by_cases hjt : j = t
        · subst hjt
          rw [v_uf_eq, if_pos ⟨by omega, h.1⟩]
        · rw [v_uf_ne (by omega), z_mv_ne (by omega) (by omega), ih.2 j hj]
          by_cases h5 : j < t ∧ m / 2 ^ j % 2 = 1
          · rw [if_pos h5, if_pos ⟨by omega, h5.2⟩]
          · rw [if_neg h5, if_neg (fun q => h5 ⟨by omega, q.2⟩)]
    · rw [z_ldR_0 h]
      refine ⟨ih.1, fun j hj => ?_⟩
      rw [ih.2 j hj]
      by_cases h5 : j < t ∧ m / 2 ^ j % 2 = 1
      · rw [if_pos h5, if_pos ⟨by omega, h5.2⟩]
      · by_cases h6 : j < t + 1 ∧ m / 2 ^ j % 2 = 1
        · have hjt : j = t := by
            rcases (show j < t ∨ j = t by omega) with r | r
            · exact absurd ⟨r, h6.2⟩ h5
            · exact r
          subst hjt
          rw [if_neg h5, if_pos h6, ← it]
          by_cases h7 : z_ldR a y m j f (1552 + 16 * a + j) = y
          · exact h7
          · exact absurd ⟨h6.2, h7⟩ h
        · rw [if_neg h5, if_neg h6]
set_option maxRecDepth 100000 in
set_option maxHeartbeats 4000000 in
theorem lq_lead (hM : MdS S) {x y q : Int} (hx : 0 ≤ x ∧ x < V 171 1) (hy : 0 ≤ y ∧ y < V 171 1) (hq : 0 ≤ q ∧ q ≤ 65535) (hB : 0 ≤ V 171 1 ∧ V 171 1 ≤ 8) (hL : ∀ b : Nat, (b : Int) < V 171 1 → ∀ t : Nat, t < 16 → 0 ≤ V 171 (1552 + 16 * b + t) ∧ V 171 (1552 + 16 * b + t) < V 171 1) {F : Nat} : ∀ (m : Nat) (i : Nat), 16 - i < m → (i ≤ 16) → (y_E X 3 146 F u w 211 [(0, .ref 170), (1, iv x), (2, iv y), (3, iv q)] [] S (v_ur V 171 (z_ldR x.toNat y q 16 (V 171))) K) → y_E X 3 146 (500 * m + F) u w 66 [(0, .ref 170), (1, iv x), (2, iv y), (3, iv q), (4, iv (i : Int))] [] S (v_ur V 171 (z_ldR x.toNat y q i (V 171))) K := by
  intro m
  induction m with
  | zero => intros; omega
  | succ m ih =>
    intro i hm hI hx2
    refine y_mono (F' := (500 * m + F) + 500) ?_ (by omega)
    refine y_ld (x := iv (i : Int)) rfl rfl (fun d => rfl) ?_
    refine y_bi rfl rfl (by decide) ?_
    refine y_jge rfl rfl rfl (by omega) (fun g1 => ?_) (fun g1 => ?_)
    · refine y_lv (l' := [(0, .ref 170), (1, iv x), (2, iv y), (3, iv q)]) rfl ⟨rfl, rfl, rfl, rfl, trivial⟩ ?_
      obtain rfl : i = 16 := by omega
      exact y_mono hx2 (by omega)
    · have el := (z_ldR_led (m := q) (a := x.toNat) (f := V 171) (y := y) (by omega) (by omega) (fun j hj => by have := hL x.toNat (by omega) j hj; omega) i (by omega)).2 i (by omega)
      rw [if_neg (by omega)] at el
      have hl := hL x.toNat (by omega) i (by omega)
      obtain ⟨c, hc⟩ : ∃ c : Nat, (z_ldR x.toNat y q i (V 171)) (1552 + 16 * x.toNat + i) = (c : Int) := ⟨((z_ldR x.toNat y q i (V 171)) (1552 + 16 * x.toNat + i)).toNat, by omega⟩
      have hc8 : c < 8 := by omega
      have hb01 := v_bit01 q i
      obtain ⟨b, hby⟩ : ∃ b : Nat, y = (b : Int) := ⟨y.toNat, by omega⟩
      refine y_ld (x := .ref 170) rfl rfl (fun d => rfl) ?_
      refine y_gR (i := 1) rfl rfl rfl (md170 hM) rfl ?_
      refine y_si rfl rfl (by decide) ?_
      refine y_bi rfl rfl (by decide) ?_
      refine y_ld (x := iv x) rfl rfl (fun d => rfl) ?_
      refine y_mul (z := (16 * x)) rfl rfl rfl ?_
      refine y_add (z := (1552 + (16 * x))) rfl rfl rfl ?_
      refine y_ld (x := iv (i : Int)) rfl rfl (fun d => rfl) ?_
      refine y_add (z := ((1552 + (16 * x)) + (i : Int))) rfl rfl rfl ?_
      refine y_ild (x := (c : Int)) (q := (1552 + 16 * x.toNat + i)) rfl rfl (md171 hM) (by omega) (by decide) (by omega) (by rw [v_ur_eq]; exact hc) ?_
      refine y_st (lv' := [(5, iv (c : Int)), (0, .ref 170), (1, iv x), (2, iv y), (3, iv q), (4, iv (i : Int))]) rfl rfl (fun d => rfl) ?_
      refine y_ld (x := iv q) rfl rfl (fun d => rfl) ?_
      refine y_ld (x := iv (i : Int)) rfl rfl (fun d => rfl) ?_
      refine y_op (z := (q / 2 ^ i)) rfl rfl (fun d => rfl) (v_shr (k := (i : Int)) (by omega) (by omega)) ?_
      refine y_ic rfl rfl ?_
      refine y_op (z := (q / 2 ^ i % 2)) rfl rfl (fun d => rfl) (v_and1 (Int.ediv_nonneg (by omega) (Int.le_of_lt (v_p2 _)))) ?_
      refine y_ic rfl rfl ?_
      refine y_jne rfl rfl rfl (by omega) (fun g2 => ?_) (fun g2 => ?_)
      · refine y_inc (z := ((i + 1 : Nat) : Int)) (lv' := [(4, iv ((i + 1 : Nat) : Int)), (5, iv (c : Int)), (0, .ref 170), (1, iv x), (2, iv y), (3, iv q)]) rfl rfl rfl (by omega) rfl ?_
        refine y_go rfl rfl ?_
        refine y_lv (l' := [(0, .ref 170), (1, iv x), (2, iv y), (3, iv q), (4, iv ((i + 1 : Nat) : Int))]) rfl ⟨rfl, rfl, rfl, rfl, rfl, trivial⟩ ?_
        refine y_V (V' := v_ur V 171 (z_ldR x.toNat y q (i + 1) (V 171))) (by rw [z_ldR_0 (by omega)]) ?_
        exact y_mono (ih (i + 1) (by omega) (by omega) hx2) (by omega)
      · refine y_ld (x := iv (c : Int)) rfl rfl (fun d => rfl) ?_
        refine y_ld (x := iv y) rfl rfl (fun d => rfl) ?_
        refine y_jeq rfl rfl rfl (by omega) (fun g3 => ?_) (fun g3 => ?_)
        · refine y_inc (z := ((i + 1 : Nat) : Int)) (lv' := [(4, iv ((i + 1 : Nat) : Int)), (5, iv (c : Int)), (0, .ref 170), (1, iv x), (2, iv y), (3, iv q)]) rfl rfl rfl (by omega) rfl ?_
          refine y_go rfl rfl ?_
          refine y_lv (l' := [(0, .ref 170), (1, iv x), (2, iv y), (3, iv q), (4, iv ((i + 1 : Nat) : Int))]) rfl ⟨rfl, rfl, rfl, rfl, rfl, trivial⟩ ?_
          refine y_V (V' := v_ur V 171 (z_ldR x.toNat y q (i + 1) (V 171))) (by rw [z_ldR_0 (by omega)]) ?_
          exact y_mono (ih (i + 1) (by omega) (by omega) hx2) (by omega)
        · refine y_ic rfl rfl ?_
          refine y_st (lv' := [(6, iv 0), (5, iv (c : Int)), (0, .ref 170), (1, iv x), (2, iv y), (3, iv q), (4, iv (i : Int))]) rfl rfl (fun d => rfl) ?_
          refine y_ld (x := iv 0) rfl rfl (fun d => rfl) ?_
          refine y_ic rfl rfl ?_
          refine y_jge rfl rfl rfl (by decide) (fun g4 => absurd g4 (by decide)) (fun g4 => ?_)
          refine y_ld (x := .ref 170) rfl rfl (fun d => rfl) ?_
          refine y_gR (i := 1) rfl rfl rfl (md170 hM) rfl ?_
          refine y_si rfl rfl (by decide) ?_
          refine y_bi rfl rfl (by decide) ?_
          refine y_ld (x := iv y) rfl rfl (fun d => rfl) ?_
          refine y_mul (z := (84 * y)) rfl rfl rfl ?_
          refine y_add (z := (200 + (84 * y))) rfl rfl rfl ?_
          refine y_ic rfl rfl ?_
          refine y_ld (x := iv (i : Int)) rfl rfl (fun d => rfl) ?_
          refine y_mul (z := (4 * (i : Int))) rfl rfl rfl ?_
          refine y_add (z := ((200 + (84 * y)) + (4 * (i : Int)))) rfl rfl rfl ?_
          refine y_ld (x := iv 0) rfl rfl (fun d => rfl) ?_
          refine y_add (z := (((200 + (84 * y)) + (4 * (i : Int))) + 0)) rfl rfl rfl ?_
          refine y_ld (x := .ref 170) rfl rfl (fun d => rfl) ?_
          refine y_gR (i := 1) rfl rfl rfl (md170 hM) rfl ?_
          refine y_si rfl rfl (by decide) ?_
          refine y_bi rfl rfl (by decide) ?_
          refine y_ld (x := iv (c : Int)) rfl rfl (fun d => rfl) ?_
          refine y_mul (z := (84 * (c : Int))) rfl rfl rfl ?_
          refine y_add (z := (200 + (84 * (c : Int)))) rfl rfl rfl ?_
          refine y_ic rfl rfl ?_
          refine y_ld (x := iv (i : Int)) rfl rfl (fun d => rfl) ?_
          refine y_mul (z := (4 * (i : Int))) rfl rfl rfl ?_
          refine y_add (z := ((200 + (84 * (c : Int))) + (4 * (i : Int)))) rfl rfl rfl ?_
          refine y_ld (x := iv 0) rfl rfl (fun d => rfl) ?_
          refine y_add (z := (((200 + (84 * (c : Int))) + (4 * (i : Int))) + 0)) rfl rfl rfl ?_
          refine y_ild (x := ((v_ur V 171 (z_ldR x.toNat y q i (V 171))) 171 (200 + 84 * c + 4 * i + 0))) (q := (200 + 84 * c + 4 * i + 0)) rfl rfl (md171 hM) (by omega) (by decide) (by omega) rfl ?_
          refine y_ist (q := (200 + 84 * y.toNat + 4 * i + 0)) rfl rfl (md171 hM) (by omega) (by decide) (by omega) ?_
          refine y_ld (x := .ref 170) rfl rfl (fun d => rfl) ?_
          refine y_gR (i := 1) rfl rfl rfl (md170 hM) rfl ?_
          refine y_si rfl rfl (by decide) ?_
          refine y_bi rfl rfl (by decide) ?_
          refine y_ld (x := iv (c : Int)) rfl rfl (fun d => rfl) ?_
          refine y_mul (z := (84 * (c : Int))) rfl rfl rfl ?_
          refine y_add (z := (200 + (84 * (c : Int)))) rfl rfl rfl ?_
          refine y_ic rfl rfl ?_
          refine y_ld (x := iv (i : Int)) rfl rfl (fun d => rfl) ?_
          refine y_mul (z := (4 * (i : Int))) rfl rfl rfl ?_
          refine y_add (z := ((200 + (84 * (c : Int))) + (4 * (i : Int)))) rfl rfl rfl ?_
          refine y_ld (x := iv 0) rfl rfl (fun d => rfl) ?_
          refine y_add (z := (((200 + (84 * (c : Int))) + (4 * (i : Int))) + 0)) rfl rfl rfl ?_
          refine y_ic rfl rfl ?_
          refine y_ist (q := (200 + 84 * c + 4 * i + 0)) rfl rfl (md171 hM) (by omega) (by decide) (by omega) ?_
          refine y_inc (z := 1) (lv' := [(6, iv 1), (5, iv (c : Int)), (0, .ref 170), (1, iv x), (2, iv y), (3, iv q), (4, iv (i : Int))]) rfl rfl rfl rfl rfl ?_
          refine y_go rfl rfl ?_
          refine y_ld (x := iv 1) rfl rfl (fun d => rfl) ?_
          refine y_ic rfl rfl ?_
          refine y_jge rfl rfl rfl (by decide) (fun g5 => absurd g5 (by decide)) (fun g5 => ?_)
          refine y_ld (x := .ref 170) rfl rfl (fun d => rfl) ?_
          refine y_gR (i := 1) rfl rfl rfl (md170 hM) rfl ?_
          refine y_si rfl rfl (by decide) ?_
          refine y_bi rfl rfl (by decide) ?_
          refine y_ld (x := iv y) rfl rfl (fun d => rfl) ?_
          refine y_mul (z := (84 * y)) rfl rfl rfl ?_
          refine y_add (z := (200 + (84 * y))) rfl rfl rfl ?_
          refine y_ic rfl rfl ?_
          refine y_ld (x := iv (i : Int)) rfl rfl (fun d => rfl) ?_
          refine y_mul (z := (4 * (i : Int))) rfl rfl rfl ?_
          refine y_add (z := ((200 + (84 * y)) + (4 * (i : Int)))) rfl rfl rfl ?_
          refine y_ld (x := iv 1) rfl rfl (fun d => rfl) ?_
          refine y_add (z := (((200 + (84 * y)) + (4 * (i : Int))) + 1)) rfl rfl rfl ?_
          refine y_ld (x := .ref 170) rfl rfl (fun d => rfl) ?_
          refine y_gR (i := 1) rfl rfl rfl (md170 hM) rfl ?_
          refine y_si rfl rfl (by decide) ?_
          refine y_bi rfl rfl (by decide) ?_
          refine y_ld (x := iv (c : Int)) rfl rfl (fun d => rfl) ?_
          refine y_mul (z := (84 * (c : Int))) rfl rfl rfl ?_
          refine y_add (z := (200 + (84 * (c : Int)))) rfl rfl rfl ?_
          refine y_ic rfl rfl ?_
          refine y_ld (x := iv (i : Int)) rfl rfl (fun d => rfl) ?_
          refine y_mul (z := (4 * (i : Int))) rfl rfl rfl ?_
          refine y_add (z := ((200 + (84 * (c : Int))) + (4 * (i : Int)))) rfl rfl rfl ?_
          refine y_ld (x := iv 1) rfl rfl (fun d => rfl) ?_
          refine y_add (z := (((200 + (84 * (c : Int))) + (4 * (i : Int))) + 1)) rfl rfl rfl ?_
          refine y_ild (x := ((v_ur V 171 (z_ldR x.toNat y q i (V 171))) 171 (200 + 84 * c + 4 * i + 1))) (q := (200 + 84 * c + 4 * i + 1)) rfl rfl (md171 hM) (by omega) (by decide) (by omega) (by rw [v_up_ni (by omega), v_up_ni (by omega)]) ?_
          refine y_ist (q := (200 + 84 * y.toNat + 4 * i + 1)) rfl rfl (md171 hM) (by omega) (by decide) (by omega) ?_
          refine y_ld (x := .ref 170) rfl rfl (fun d => rfl) ?_
          refine y_gR (i := 1) rfl rfl rfl (md170 hM) rfl ?_
          refine y_si rfl rfl (by decide) ?_
          refine y_bi rfl rfl (by decide) ?_
          refine y_ld (x := iv (c : Int)) rfl rfl (fun d => rfl) ?_
          refine y_mul (z := (84 * (c : Int))) rfl rfl rfl ?_
          refine y_add (z := (200 + (84 * (c : Int)))) rfl rfl rfl ?_
          refine y_ic rfl rfl ?_
          refine y_ld (x := iv (i : Int)) rfl rfl (fun d => rfl) ?_
          refine y_mul (z := (4 * (i : Int))) rfl rfl rfl ?_
          refine y_add (z := ((200 + (84 * (c : Int))) + (4 * (i : Int)))) rfl rfl rfl ?_
          refine y_ld (x := iv 1) rfl rfl (fun d => rfl) ?_
          refine y_add (z := (((200 + (84 * (c : Int))) + (4 * (i : Int))) + 1)) rfl rfl rfl ?_
          refine y_ic rfl rfl ?_
          refine y_ist (q := (200 + 84 * c + 4 * i + 1)) rfl rfl (md171 hM) (by omega) (by decide) (by omega) ?_
          refine y_inc (z := 2) (lv' := [(6, iv 2), (5, iv (c : Int)), (0, .ref 170), (1, iv x), (2, iv y), (3, iv q), (4, iv (i : Int))]) rfl rfl rfl rfl rfl ?_
          refine y_go rfl rfl ?_
          refine y_ld (x := iv 2) rfl rfl (fun d => rfl) ?_
          refine y_ic rfl rfl ?_
          refine y_jge rfl rfl rfl (by decide) (fun g6 => absurd g6 (by decide)) (fun g6 => ?_)
          refine y_ld (x := .ref 170) rfl rfl (fun d => rfl) ?_
          refine y_gR (i := 1) rfl rfl rfl (md170 hM) rfl ?_
          refine y_si rfl rfl (by decide) ?_
          refine y_bi rfl rfl (by decide) ?_
          refine y_ld (x := iv y) rfl rfl (fun d => rfl) ?_
          refine y_mul (z := (84 * y)) rfl rfl rfl ?_
          refine y_add (z := (200 + (84 * y))) rfl rfl rfl ?_
          refine y_ic rfl rfl ?_
          refine y_ld (x := iv (i : Int)) rfl rfl (fun d => rfl) ?_
          refine y_mul (z := (4 * (i : Int))) rfl rfl rfl ?_
          refine y_add (z := ((200 + (84 * y)) + (4 * (i : Int)))) rfl rfl rfl ?_
          refine y_ld (x := iv 2) rfl rfl (fun d => rfl) ?_
          refine y_add (z := (((200 + (84 * y)) + (4 * (i : Int))) + 2)) rfl rfl rfl ?_
          refine y_ld (x := .ref 170) rfl rfl (fun d => rfl) ?_
          refine y_gR (i := 1) rfl rfl rfl (md170 hM) rfl ?_
          refine y_si rfl rfl (by decide) ?_
          refine y_bi rfl rfl (by decide) ?_
          refine y_ld (x := iv (c : Int)) rfl rfl (fun d => rfl) ?_
          refine y_mul (z := (84 * (c : Int))) rfl rfl rfl ?_
          refine y_add (z := (200 + (84 * (c : Int)))) rfl rfl rfl ?_
          refine y_ic rfl rfl ?_
          refine y_ld (x := iv (i : Int)) rfl rfl (fun d => rfl) ?_
          refine y_mul (z := (4 * (i : Int))) rfl rfl rfl ?_
          refine y_add (z := ((200 + (84 * (c : Int))) + (4 * (i : Int)))) rfl rfl rfl ?_
          refine y_ld (x := iv 2) rfl rfl (fun d => rfl) ?_
          refine y_add (z := (((200 + (84 * (c : Int))) + (4 * (i : Int))) + 2)) rfl rfl rfl ?_
          refine y_ild (x := ((v_ur V 171 (z_ldR x.toNat y q i (V 171))) 171 (200 + 84 * c + 4 * i + 2))) (q := (200 + 84 * c + 4 * i + 2)) rfl rfl (md171 hM) (by omega) (by decide) (by omega) (by rw [v_up_ni (by omega), v_up_ni (by omega), v_up_ni (by omega), v_up_ni (by omega)]) ?_
          refine y_ist (q := (200 + 84 * y.toNat + 4 * i + 2)) rfl rfl (md171 hM) (by omega) (by decide) (by omega) ?_
          refine y_ld (x := .ref 170) rfl rfl (fun d => rfl) ?_
          refine y_gR (i := 1) rfl rfl rfl (md170 hM) rfl ?_
          refine y_si rfl rfl (by decide) ?_
          refine y_bi rfl rfl (by decide) ?_
          refine y_ld (x := iv (c : Int)) rfl rfl (fun d => rfl) ?_
          refine y_mul (z := (84 * (c : Int))) rfl rfl rfl ?_
          refine y_add (z := (200 + (84 * (c : Int)))) rfl rfl rfl ?_
          refine y_ic rfl rfl ?_
          refine y_ld (x := iv (i : Int)) rfl rfl (fun d => rfl) ?_
          refine y_mul (z := (4 * (i : Int))) rfl rfl rfl ?_
          refine y_add (z := ((200 + (84 * (c : Int))) + (4 * (i : Int)))) rfl rfl rfl ?_
          refine y_ld (x := iv 2) rfl rfl (fun d => rfl) ?_
          refine y_add (z := (((200 + (84 * (c : Int))) + (4 * (i : Int))) + 2)) rfl rfl rfl ?_
          refine y_ic rfl rfl ?_
          refine y_ist (q := (200 + 84 * c + 4 * i + 2)) rfl rfl (md171 hM) (by omega) (by decide) (by omega) ?_
          refine y_inc (z := 3) (lv' := [(6, iv 3), (5, iv (c : Int)), (0, .ref 170), (1, iv x), (2, iv y), (3, iv q), (4, iv (i : Int))]) rfl rfl rfl rfl rfl ?_
          refine y_go rfl rfl ?_
          refine y_ld (x := iv 3) rfl rfl (fun d => rfl) ?_
          refine y_ic rfl rfl ?_
          refine y_jge rfl rfl rfl (by decide) (fun g7 => absurd g7 (by decide)) (fun g7 => ?_)
          refine y_ld (x := .ref 170) rfl rfl (fun d => rfl) ?_
          refine y_gR (i := 1) rfl rfl rfl (md170 hM) rfl ?_
          refine y_si rfl rfl (by decide) ?_
          refine y_bi rfl rfl (by decide) ?_
          refine y_ld (x := iv y) rfl rfl (fun d => rfl) ?_
          refine y_mul (z := (84 * y)) rfl rfl rfl ?_
          refine y_add (z := (200 + (84 * y))) rfl rfl rfl ?_
          refine y_ic rfl rfl ?_
          refine y_ld (x := iv (i : Int)) rfl rfl (fun d => rfl) ?_
          refine y_mul (z := (4 * (i : Int))) rfl rfl rfl ?_
          refine y_add (z := ((200 + (84 * y)) + (4 * (i : Int)))) rfl rfl rfl ?_
          refine y_ld (x := iv 3) rfl rfl (fun d => rfl) ?_
          refine y_add (z := (((200 + (84 * y)) + (4 * (i : Int))) + 3)) rfl rfl rfl ?_
          refine y_ld (x := .ref 170) rfl rfl (fun d => rfl) ?_
          refine y_gR (i := 1) rfl rfl rfl (md170 hM) rfl ?_
          refine y_si rfl rfl (by decide) ?_
          refine y_bi rfl rfl (by decide) ?_
          refine y_ld (x := iv (c : Int)) rfl rfl (fun d => rfl) ?_
          refine y_mul (z := (84 * (c : Int))) rfl rfl rfl ?_
          refine y_add (z := (200 + (84 * (c : Int)))) rfl rfl rfl ?_
          refine y_ic rfl rfl ?_
          refine y_ld (x := iv (i : Int)) rfl rfl (fun d => rfl) ?_
          refine y_mul (z := (4 * (i : Int))) rfl rfl rfl ?_
          refine y_add (z := ((200 + (84 * (c : Int))) + (4 * (i : Int)))) rfl rfl rfl ?_
          refine y_ld (x := iv 3) rfl rfl (fun d => rfl) ?_
          refine y_add (z := (((200 + (84 * (c : Int))) + (4 * (i : Int))) + 3)) rfl rfl rfl ?_
          refine y_ild (x := ((v_ur V 171 (z_ldR x.toNat y q i (V 171))) 171 (200 + 84 * c + 4 * i + 3))) (q := (200 + 84 * c + 4 * i + 3)) rfl rfl (md171 hM) (by omega) (by decide) (by omega) (by rw [v_up_ni (by omega), v_up_ni (by omega), v_up_ni (by omega), v_up_ni (by omega), v_up_ni (by omega), v_up_ni (by omega)]) ?_
          refine y_ist (q := (200 + 84 * y.toNat + 4 * i + 3)) rfl rfl (md171 hM) (by omega) (by decide) (by omega) ?_
          refine y_ld (x := .ref 170) rfl rfl (fun d => rfl) ?_
          refine y_gR (i := 1) rfl rfl rfl (md170 hM) rfl ?_
          refine y_si rfl rfl (by decide) ?_
          refine y_bi rfl rfl (by decide) ?_
          refine y_ld (x := iv (c : Int)) rfl rfl (fun d => rfl) ?_
          refine y_mul (z := (84 * (c : Int))) rfl rfl rfl ?_
          refine y_add (z := (200 + (84 * (c : Int)))) rfl rfl rfl ?_
          refine y_ic rfl rfl ?_
          refine y_ld (x := iv (i : Int)) rfl rfl (fun d => rfl) ?_
          refine y_mul (z := (4 * (i : Int))) rfl rfl rfl ?_
          refine y_add (z := ((200 + (84 * (c : Int))) + (4 * (i : Int)))) rfl rfl rfl ?_
          refine y_ld (x := iv 3) rfl rfl (fun d => rfl) ?_
          refine y_add (z := (((200 + (84 * (c : Int))) + (4 * (i : Int))) + 3)) rfl rfl rfl ?_
          refine y_ic rfl rfl ?_
          refine y_ist (q := (200 + 84 * c + 4 * i + 3)) rfl rfl (md171 hM) (by omega) (by decide) (by omega) ?_
          refine y_inc (z := 4) (lv' := [(6, iv 4), (5, iv (c : Int)), (0, .ref 170), (1, iv x), (2, iv y), (3, iv q), (4, iv (i : Int))]) rfl rfl rfl rfl rfl ?_
          refine y_go rfl rfl ?_
          refine y_ld (x := iv 4) rfl rfl (fun d => rfl) ?_
          refine y_ic rfl rfl ?_
          refine y_jge rfl rfl rfl (by decide) (fun g8 => ?_) (fun g8 => absurd g8 (by decide))
          refine y_ld (x := .ref 170) rfl rfl (fun d => rfl) ?_
          refine y_gR (i := 1) rfl rfl rfl (md170 hM) rfl ?_
          refine y_si rfl rfl (by decide) ?_
          refine y_bi rfl rfl (by decide) ?_
          refine y_ld (x := iv x) rfl rfl (fun d => rfl) ?_
          refine y_mul (z := (16 * x)) rfl rfl rfl ?_
          refine y_add (z := (1552 + (16 * x))) rfl rfl rfl ?_
          refine y_ld (x := iv (i : Int)) rfl rfl (fun d => rfl) ?_
          refine y_add (z := ((1552 + (16 * x)) + (i : Int))) rfl rfl rfl ?_
          refine y_ld (x := iv y) rfl rfl (fun d => rfl) ?_
          refine y_ist (q := (1552 + 16 * x.toNat + i)) rfl rfl (md171 hM) (by omega) (by decide) (by omega) ?_
          refine y_inc (z := ((i + 1 : Nat) : Int)) (lv' := [(4, iv ((i + 1 : Nat) : Int)), (6, iv 4), (5, iv (c : Int)), (0, .ref 170), (1, iv x), (2, iv y), (3, iv q)]) rfl rfl rfl (by omega) rfl ?_
          refine y_go rfl rfl ?_
          refine y_lv (l' := [(0, .ref 170), (1, iv x), (2, iv y), (3, iv q), (4, iv ((i + 1 : Nat) : Int))]) rfl ⟨rfl, rfl, rfl, rfl, rfl, trivial⟩ ?_
          refine y_V (V' := v_ur V 171 (z_ldR x.toNat y q (i + 1) (V 171))) ?_ ?_
          · rw [z_ldR_1 (c := c) (by omega) hc (by omega)]
            unfold z_mv
            simp only [v_ur_eq, v_up_r]
          exact y_mono (ih (i + 1) (by omega) (by omega) hx2) (by omega)
end
end
section
/-! lead, the reference, whole -/
section
variable {X : Nat → List Int32} {u w : Nat} {S : m_H} {V : v_V} {K : v_K}
set_option maxRecDepth 100000 in
set_option maxHeartbeats 4000000 in
theorem ms_lead (hM : MdS S) {x y q : Int} (hxr : (-2147483648 ≤ x ∧ x < 2147483648)) (hyr : (-2147483648 ≤ y ∧ y < 2147483648)) (hqr : (-2147483648 ≤ q ∧ q < 2147483648)) (hB : 0 ≤ V 171 1 ∧ V 171 1 ≤ 8) (hL : ∀ b : Nat, (b : Int) < V 171 1 → ∀ t : Nat, t < 16 → 0 ≤ V 171 (1552 + 16 * b + t) ∧ V 171 (1552 + 16 * b + t) < V 171 1) (hn : 0 ≤ V 171 2 ∧ V 171 2 ≤ 6) (hRw : ∀ t : Nat, t < 6 → 0 ≤ V 171 (1680 + t) ∧ V 171 (1680 + t) ≤ 7) (k0 : ¬ (0 ≤ x ∧ x ≤ V 171 1 - 1) → K u w (some (iv (-1))) S V) (k1 : (0 ≤ x ∧ x ≤ V 171 1 - 1) → (0 ≤ y ∧ y ≤ V 171 1 - 1) → (0 ≤ q ∧ q ≤ 65535) → (x : Int) = y → (∃ b : Nat, (b : Int) < V 171 1 ∧ (b : Int) ≠ x ∧ ∃ t : Nat, t < 16 ∧ V 171 (1552 + 16 * b + t) = x) → ¬ ((1 : Int) = 0) → K u w (some (iv (-3))) S V) (k2 : (0 ≤ x ∧ x ≤ V 171 1 - 1) → (0 ≤ y ∧ y ≤ V 171 1 - 1) → (0 ≤ q ∧ q ≤ 65535) → (x : Int) = y → (∀ b : Nat, (b : Int) < V 171 1 → (b : Int) ≠ x → ∀ t : Nat, t < 16 → V 171 (1552 + 16 * b + t) ≠ x) → (0 : Int) = 0 → K u w (some (iv (z_na (fun t : Nat => (v_ur V 171 (z_ldR x.toNat y q 16 (V 171))) 171 (1552 + 16 * x.toNat + t)) x 16))) S (v_ur V 171 (z_ldR x.toNat y q 16 (V 171)))) (k3 : (0 ≤ x ∧ x ≤ V 171 1 - 1) → (0 ≤ y ∧ y ≤ V 171 1 - 1) → (0 ≤ q ∧ q ≤ 65535) → ¬ ((x : Int) = y) → (∃ t : Nat, (t : Int) < V 171 2 ∧ V 171 (1680 + t) = y) → (1 : Int) ≠ 0 → K u w (some (iv (-3))) S V) (k4 : (0 ≤ x ∧ x ≤ V 171 1 - 1) → (0 ≤ y ∧ y ≤ V 171 1 - 1) → (0 ≤ q ∧ q ≤ 65535) → ¬ ((x : Int) = y) → (∀ t : Nat, (t : Int) < V 171 2 → V 171 (1680 + t) ≠ y) → ¬ ((0 : Int) ≠ 0) → (z_na (fun t : Nat => V 171 (1552 + 16 * y.toNat + t)) y 16 : Int) > 0 → K u w (some (iv (-3))) S V) (k5 : (0 ≤ x ∧ x ≤ V 171 1 - 1) → (0 ≤ y ∧ y ≤ V 171 1 - 1) → (0 ≤ q ∧ q ≤ 65535) → ¬ ((x : Int) = y) → (∀ t : Nat, (t : Int) < V 171 2 → V 171 (1680 + t) ≠ y) → ¬ ((0 : Int) ≠ 0) → ¬ ((z_na (fun t : Nat => V 171 (1552 + 16 * y.toNat + t)) y 16 : Int) > 0) → (∃ b : Nat, (b : Int) < V 171 1 ∧ (b : Int) ≠ x ∧ ∃ t : Nat, t < 16 ∧ V 171 (1552 + 16 * b + t) = x) → ¬ ((1 : Int) = 0) → K u w (some (iv (-3))) S V) (k6 : (0 ≤ x ∧ x ≤ V 171 1 - 1) → (0 ≤ y ∧ y ≤ V 171 1 - 1) → (0 ≤ q ∧ q ≤ 65535) → ¬ ((x : Int) = y) → (∀ t : Nat, (t : Int) < V 171 2 → V 171 (1680 + t) ≠ y) → ¬ ((0 : Int) ≠ 0) → ¬ ((z_na (fun t : Nat => V 171 (1552 + 16 * y.toNat + t)) y 16 : Int) > 0) → (∀ b : Nat, (b : Int) < V 171 1 → (b : Int) ≠ x → ∀ t : Nat, t < 16 → V 171 (1552 + 16 * b + t) ≠ x) → (0 : Int) = 0 → K u w (some (iv (z_na (fun t : Nat => (v_ur V 171 (z_ldR x.toNat y q 16 (V 171))) 171 (1552 + 16 * x.toNat + t)) x 16))) S (v_ur V 171 (z_ldR x.toNat y q 16 (V 171)))) (k7 : (0 ≤ x ∧ x ≤ V 171 1 - 1) → (0 ≤ y ∧ y ≤ V 171 1 - 1) → ¬ (0 ≤ q ∧ q ≤ 65535) → K u w (some (iv (-2))) S V) (k8 : (0 ≤ x ∧ x ≤ V 171 1 - 1) → ¬ (0 ≤ y ∧ y ≤ V 171 1 - 1) → K u w (some (iv (-1))) S V) : y_R X 4 146 u w [.ref 170, iv x, iv y, iv q] S V K := by
  have hL7 : ∀ b : Nat, (b : Int) < V 171 1 → ∀ t : Nat, t < 16 → 0 ≤ V 171 (1552 + 16 * b + t) ∧ V 171 (1552 + 16 * b + t) ≤ 7 := fun b hb t ht => by have := hL b hb t ht; omega
  refine y_ent (lv' := [(0, .ref 170), (1, iv x), (2, iv y), (3, iv q)]) (Nat.le_of_ble_eq_true rfl) rfl ?_
  refine y_ld (x := .ref 170) rfl rfl (fun d => rfl) ?_
  refine y_ld (x := iv x) rfl rfl (fun d => rfl) ?_
  refine y_cV (as := [.ref 170, iv x]) rfl rfl rfl rfl rfl (md170 hM) ⟨rfl, (Nat.le_of_ble_eq_true rfl), (Nat.le_of_ble_eq_true rfl)⟩ (by decide) (ct_isBox hM (by omega) ⟨rfl, by omega⟩ ?_)
  refine y_nv ?_
  refine y_beq rfl rfl rfl (fun g1 => ?_) (fun g1 => ?_)
  · refine y_ic rfl rfl ?_
    refine y_rI rfl (Or.inl rfl) ?_
    exact k0 g1
  · refine y_ld (x := .ref 170) rfl rfl (fun d => rfl) ?_
    refine y_ld (x := iv y) rfl rfl (fun d => rfl) ?_
    refine y_cV (as := [.ref 170, iv y]) rfl rfl rfl rfl rfl (md170 hM) ⟨rfl, (Nat.le_of_ble_eq_true rfl), (Nat.le_of_ble_eq_true rfl)⟩ (by decide) (ct_isBox hM (by omega) ⟨rfl, by omega⟩ ?_)
    refine y_nv ?_
    refine y_bne rfl rfl rfl (fun g2 => ?_) (fun g2 => ?_)
    · refine y_ld (x := iv q) rfl rfl (fun d => rfl) ?_
      refine y_ic rfl rfl ?_
      refine y_ld (x := iv 65535) rfl rfl (fun d => rfl) ?_
      refine y_cS (as := [iv q, iv 0, iv 65535]) rfl (by decide) rfl rfl rfl rfl ⟨(Nat.le_of_ble_eq_true rfl), (Nat.le_of_ble_eq_true rfl)⟩ (by decide) (ct_in (by omega) ?_)
      refine y_nv ?_
      refine y_bne rfl rfl rfl (fun g3 => ?_) (fun g3 => ?_)
      · refine y_ld (x := iv x) rfl rfl (fun d => rfl) ?_
        refine y_ld (x := iv y) rfl rfl (fun d => rfl) ?_
        refine y_jeq rfl rfl rfl (by omega) (fun g4 => ?_) (fun g4 => ?_)
        · refine y_ld (x := .ref 170) rfl rfl (fun d => rfl) ?_
          refine y_ld (x := iv x) rfl rfl (fun d => rfl) ?_
          refine y_cV (as := [.ref 170, iv x]) rfl rfl rfl rfl rfl (md170 hM) ⟨rfl, (Nat.le_of_ble_eq_true rfl), (Nat.le_of_ble_eq_true rfl)⟩ (by decide) (ct_isLedTo (x := x) hM hxr hB hL7 (fun qL => ?_) (fun qL => ?_))
          · refine y_nv ?_
            refine y_zeq rfl rfl rfl (by decide) (fun g5 => absurd g5 (by decide)) (fun g5 => ?_)
            refine y_bi rfl rfl (by decide) ?_
            refine y_rI rfl (Or.inl rfl) ?_
            exact k1 g1 g2 g3 (by omega) qL (by omega)
          · refine y_nv ?_
            refine y_zeq rfl rfl rfl (by decide) (fun g6 => ?_) (fun g6 => absurd g6 (by decide))
            refine y_ic rfl rfl ?_
            refine y_st (lv' := [(4, iv 0), (0, .ref 170), (1, iv x), (2, iv y), (3, iv q)]) rfl rfl (fun d => rfl) ?_
            refine y_lv (l' := [(0, .ref 170), (1, iv x), (2, iv y), (3, iv q), (4, iv 0)]) rfl ⟨rfl, rfl, rfl, rfl, rfl, trivial⟩ ?_
            refine y_V (V' := v_ur V 171 (z_ldR x.toNat y q 0 (V 171))) (v_ur_self V 171).symm ?_
            refine y_mono (lq_lead (F := 20000) hM (x := x) (y := y) (q := q) (by omega) (by omega) (by omega) hB hL 17 0 (by omega) (by omega) ?_) (by decide)
            have hw1 : ∀ t : Nat, t < 16 → 0 ≤ (v_ur V 171 (z_ldR x.toNat y q 16 (V 171))) 171 (1552 + 16 * x.toNat + t) ∧ (v_ur V 171 (z_ldR x.toNat y q 16 (V 171))) 171 (1552 + 16 * x.toNat + t) ≤ 7 := by
              intro t ht
              have h1 := hL7 x.toNat (by omega) t ht
              have h2 := (z_ldR_led (m := q) (a := x.toNat) (f := V 171) (y := y) (by omega) (by omega) (fun j hj => by have := hL x.toNat (by omega) j hj; omega) 16 (by omega)).2 t ht
              rw [v_ur_eq, h2]
              split <;> omega
            refine y_ld (x := .ref 170) rfl rfl (fun d => rfl) ?_
            refine y_ld (x := iv x) rfl rfl (fun d => rfl) ?_
            have hz4 := z_na_lt (fun t : Nat => (v_ur V 171 (z_ldR x.toNat y q 16 (V 171))) 171 (1552 + 16 * x.toNat + t)) x 16
            refine y_cV (as := [.ref 170, iv x]) rfl rfl rfl rfl rfl (md170 hM) ⟨rfl, (Nat.le_of_ble_eq_true rfl), (Nat.le_of_ble_eq_true rfl)⟩ (by decide) (ct_leading (V := (v_ur V 171 (z_ldR x.toNat y q 16 (V 171)))) (x := x) hM (by omega) hw1 ?_)
            refine y_nv ?_
            refine y_rI rfl (Or.inl rfl) ?_
            exact k2 g1 g2 g3 (by omega) qL (by omega)
        · refine y_ld (x := .ref 170) rfl rfl (fun d => rfl) ?_
          refine y_ld (x := iv y) rfl rfl (fun d => rfl) ?_
          refine y_cV (as := [.ref 170, iv y]) rfl rfl rfl rfl rfl (md170 hM) ⟨rfl, (Nat.le_of_ble_eq_true rfl), (Nat.le_of_ble_eq_true rfl)⟩ (by decide) (ct_isInRow (x := y) hM hyr hn hRw (fun qI => ?_) (fun qI => ?_))
          · refine y_nv ?_
            refine y_zne rfl rfl rfl (by decide) (fun g7 => ?_) (fun g7 => absurd g7 (by decide))
            refine y_bi rfl rfl (by decide) ?_
            refine y_rI rfl (Or.inl rfl) ?_
            exact k3 g1 g2 g3 (by omega) qI (by omega)
          · refine y_nv ?_
            refine y_zne rfl rfl rfl (by decide) (fun g8 => absurd g8 (by decide)) (fun g8 => ?_)
            refine y_ld (x := .ref 170) rfl rfl (fun d => rfl) ?_
            refine y_ld (x := iv y) rfl rfl (fun d => rfl) ?_
            have hla2 : ∀ t : Nat, t < 16 → 0 ≤ V 171 (1552 + 16 * y.toNat + t) ∧ V 171 (1552 + 16 * y.toNat + t) ≤ 7 := fun t ht => hL7 y.toNat (by omega) t ht
            have hz3 := z_na_lt (fun t : Nat => V 171 (1552 + 16 * y.toNat + t)) y 16
            refine y_cV (as := [.ref 170, iv y]) rfl rfl rfl rfl rfl (md170 hM) ⟨rfl, (Nat.le_of_ble_eq_true rfl), (Nat.le_of_ble_eq_true rfl)⟩ (by decide) (ct_leading (V := V) (x := y) hM (by omega) hla2 ?_)
            refine y_nv ?_
            refine y_zgt rfl rfl rfl (by omega) (fun g9 => ?_) (fun g9 => ?_)
            · refine y_bi rfl rfl (by decide) ?_
              refine y_rI rfl (Or.inl rfl) ?_
              exact k4 g1 g2 g3 (by omega) qI (by omega) (by omega)
            · refine y_ld (x := .ref 170) rfl rfl (fun d => rfl) ?_
              refine y_ld (x := iv x) rfl rfl (fun d => rfl) ?_
              refine y_cV (as := [.ref 170, iv x]) rfl rfl rfl rfl rfl (md170 hM) ⟨rfl, (Nat.le_of_ble_eq_true rfl), (Nat.le_of_ble_eq_true rfl)⟩ (by decide) (ct_isLedTo (x := x) hM hxr hB hL7 (fun qL => ?_) (fun qL => ?_))
              · refine y_nv ?_
                refine y_zeq rfl rfl rfl (by decide) (fun g10 => absurd g10 (by decide)) (fun g10 => ?_)
                refine y_bi rfl rfl (by decide) ?_
                refine y_rI rfl (Or.inl rfl) ?_
                exact k5 g1 g2 g3 (by omega) qI (by omega) (by omega) qL (by omega)
              · refine y_nv ?_
                refine y_zeq rfl rfl rfl (by decide) (fun g11 => ?_) (fun g11 => absurd g11 (by decide))
                refine y_ic rfl rfl ?_
                refine y_st (lv' := [(4, iv 0), (0, .ref 170), (1, iv x), (2, iv y), (3, iv q)]) rfl rfl (fun d => rfl) ?_
                refine y_lv (l' := [(0, .ref 170), (1, iv x), (2, iv y), (3, iv q), (4, iv 0)]) rfl ⟨rfl, rfl, rfl, rfl, rfl, trivial⟩ ?_
                refine y_V (V' := v_ur V 171 (z_ldR x.toNat y q 0 (V 171))) (v_ur_self V 171).symm ?_
                refine y_mono (lq_lead (F := 20000) hM (x := x) (y := y) (q := q) (by omega) (by omega) (by omega) hB hL 17 0 (by omega) (by omega) ?_) (by decide)
                have hw1 : ∀ t : Nat, t < 16 → 0 ≤ (v_ur V 171 (z_ldR x.toNat y q 16 (V 171))) 171 (1552 + 16 * x.toNat + t) ∧ (v_ur V 171 (z_ldR x.toNat y q 16 (V 171))) 171 (1552 + 16 * x.toNat + t) ≤ 7 := by
                  intro t ht
                  have h1 := hL7 x.toNat (by omega) t ht
                  have h2 := (z_ldR_led (m := q) (a := x.toNat) (f := V 171) (y := y) (by omega) (by omega) (fun j hj => by have := hL x.toNat (by omega) j hj; omega) 16 (by omega)).2 t ht
                  rw [v_ur_eq, h2]
                  split <;> omega
                refine y_ld (x := .ref 170) rfl rfl (fun d => rfl) ?_
                refine y_ld (x := iv x) rfl rfl (fun d => rfl) ?_
                have hz4 := z_na_lt (fun t : Nat => (v_ur V 171 (z_ldR x.toNat y q 16 (V 171))) 171 (1552 + 16 * x.toNat + t)) x 16
                refine y_cV (as := [.ref 170, iv x]) rfl rfl rfl rfl rfl (md170 hM) ⟨rfl, (Nat.le_of_ble_eq_true rfl), (Nat.le_of_ble_eq_true rfl)⟩ (by decide) (ct_leading (V := (v_ur V 171 (z_ldR x.toNat y q 16 (V 171)))) (x := x) hM (by omega) hw1 ?_)
                refine y_nv ?_
                refine y_rI rfl (Or.inl rfl) ?_
                exact k6 g1 g2 g3 (by omega) qI (by omega) (by omega) qL (by omega)
      · refine y_bi rfl rfl (by decide) ?_
        refine y_rI rfl (Or.inl rfl) ?_
        exact k7 g1 g2 g3
    · refine y_ic rfl rfl ?_
      refine y_rI rfl (Or.inl rfl) ?_
      exact k8 g1 g2
end
end
section
/-! lead: both sides in lockstep -/
theorem z_mv_at {g : Nat → Int} {p q k : Nat} (hpq : p + 4 ≤ q ∨ q + 4 ≤ p) : z_mv g p q k = if p ≤ k ∧ k < p + 4 then 0 else if q ≤ k ∧ k < q + 4 then g (k - q + p) else g k := by
  by_cases h1 : p ≤ k ∧ k < p + 4
  · rw [if_pos h1]
    unfold z_mv
    rcases (show k = p + 0 ∨ k = p + 1 ∨ k = p + 2 ∨ k = p + 3 by omega) with rfl | rfl | rfl | rfl
    · rw [v_uf_ne (by omega), v_uf_ne (by omega), v_uf_ne (by omega), v_uf_ne (by omega), v_uf_ne (by omega), v_uf_ne (by omega)]
      exact v_uf_eq _ _ _
    · rw [v_uf_ne (by omega), v_uf_ne (by omega), v_uf_ne (by omega), v_uf_ne (by omega), v_uf_eq]
    · rw [v_uf_ne (by omega), v_uf_ne (by omega), v_uf_eq]
    · rw [v_uf_eq]
  · rw [if_neg h1]
    by_cases h2 : q ≤ k ∧ k < q + 4
    · rw [if_pos h2]
      unfold z_mv
      rcases (show k = q + 0 ∨ k = q + 1 ∨ k = q + 2 ∨ k = q + 3 by omega) with rfl | rfl | rfl | rfl
      · rw [v_uf_ne (by omega), v_uf_ne (by omega), v_uf_ne (by omega), v_uf_ne (by omega), v_uf_ne (by omega), v_uf_ne (by omega), v_uf_ne (by omega)]
        exact (v_uf_eq _ _ _).trans (congrArg g (by omega))
      · rw [v_uf_ne (by omega), v_uf_ne (by omega), v_uf_ne (by omega), v_uf_ne (by omega), v_uf_ne (by omega), v_uf_eq, show q + 1 - q + p = p + 1 by omega]
      · rw [v_uf_ne (by omega), v_uf_ne (by omega), v_uf_ne (by omega), v_uf_eq, show q + 2 - q + p = p + 2 by omega]
      · rw [v_uf_ne (by omega), v_uf_eq, show q + 3 - q + p = p + 3 by omega]
    · rw [if_neg h2, z_mv_ne (by omega) (by omega)]
/-- led and memory of the boxes, the same on both sides -/
def LdR (n : Nat) (V : v_V) (f : Nat → Int) : Prop := (∀ b : Nat, b < n → ∀ t : Nat, t < 16 → V (10 + 6 * b + 1) t = f (1552 + 16 * b + t)) ∧ (∀ b : Nat, b < n → ∀ p : Nat, p < 84 → V (10 + 6 * b + 3) p = f (200 + 84 * b + p))
theorem ld_lock {n a : Nat} {y m : Int} {V : v_V} {f : Nat → Int} (hn : n ≤ 8) (ha : a < n) (hy : 0 ≤ y ∧ y < n) (hR : LdR n V f) (hL : ∀ t : Nat, t < 16 → 0 ≤ V (10 + 6 * a + 1) t ∧ V (10 + 6 * a + 1) t < n) : ∀ t : Nat, t ≤ 16 → LdR n (z_ldC a y m t V) (z_ldR a y m t f)
  | 0, _ => hR
  | t + 1, ht => by
    have ih := ld_lock (m := m) hn ha hy hR hL t (by omega)
    have hw := z_ldC_led (a := a) (V := V) (y := y) (m := m) t t
    rw [if_neg (by omega)] at hw
    have hl := hL t (by omega)
    have hg := ih.1 a ha t (by omega)
    by_cases h : m / 2 ^ t % 2 = 1
    · obtain ⟨c, hc⟩ : ∃ c : Nat, z_ldC a y m t V (10 + 6 * a + 1) t = (c : Int) := ⟨(z_ldC a y m t V (10 + 6 * a + 1) t).toNat, by omega⟩
      obtain ⟨d, rfl⟩ : ∃ d : Nat, y = (d : Int) := ⟨y.toNat, by omega⟩
      have hcn : c < n := by omega
      have hdn : d < n := by omega
      by_cases hcy : (c : Int) = (d : Int)
      · rw [z_ldC_1 h (hc.trans hcy), z_ldR_0 (fun q => q.2 (by rw [← hg, hc, hcy]))]
        refine ⟨fun b hb j hj => ?_, fun b hb p hp => ?_⟩
        · by_cases hba : b = a
          · subst hba
            by_cases hjt : j = t
            · subst hjt
              rw [v_up_eq, ← hg, hc, hcy]
            · rw [v_up_ni hjt]
              exact ih.1 b hb j hj
          · rw [v_up_ne (by omega)]
            exact ih.1 b hb j hj
        · rw [v_up_ne (by omega)]
          exact ih.2 b hb p hp
      · rw [z_ldC_2 h hc hcy, z_ldR_1 h (hg.symm.trans hc) hcy, show ((d : Int)).toNat = d from rfl]
        refine ⟨fun b hb j hj => ?_, fun b hb p hp => ?_⟩
        · by_cases hba : b = a
          · subst hba
            by_cases hjt : j = t
            · subst hjt
              rw [v_up_eq, v_uf_eq]
            · rw [v_up_ni hjt, v_ur_ne (by omega), v_ur_ne (by omega), v_uf_ne (by omega), z_mv_ne (by omega) (by omega)]
              exact ih.1 b hb j hj
          · rw [v_up_ne (by omega), v_ur_ne (by omega), v_ur_ne (by omega), v_uf_ne (by omega), z_mv_ne (by omega) (by omega)]
            exact ih.1 b hb j hj
        · rw [v_up_ne (by omega), v_uf_ne (by omega), z_mv_at (by omega)]
          by_cases hbc : b = c
          · subst hbc
            rw [v_ur_eq]
            unfold z_fl
            by_cases h4 : 4 * t ≤ p ∧ p < 4 * t + 4
            · rw [if_pos h4, if_pos (by omega)]
            · rw [if_neg h4, if_neg (by omega), if_neg (by omega)]
              exact ih.2 b hb p hp
          · rw [v_ur_ne (by omega)]
            by_cases hbd : b = d
            · subst hbd
              rw [v_ur_eq]
              unfold v_cp
              by_cases h4 : 4 * t ≤ p ∧ p < 4 * t + 4
              · rw [if_pos h4, if_neg (by omega), if_pos (by omega), ih.2 c hcn _ (by omega)]
                congr 1
                omega
              · rw [if_neg h4, if_neg (by omega), if_neg (by omega)]
                exact ih.2 b hb p hp
            · rw [v_ur_ne (by omega), if_neg (by omega), if_neg (by omega)]
              exact ih.2 b hb p hp
    · rw [z_ldC_0 h, z_ldR_0 (fun q => h q.1)]
      exact ih
end
section
/-! feed: the bytes of a long, both sides -/
theorem z_bb (x : BitVec 64) (n : Nat) (hn : n ≤ 56) : ((x >>> n).signExtend 32 &&& 255#32) = ((x.sshiftRight n) &&& 255#64).signExtend 32 := by
  apply BitVec.eq_of_getLsbD_eq_iff.mpr
  intro i hi
  rw [BitVec.signExtend_eq_setWidth_of_le _ (by decide), BitVec.signExtend_eq_setWidth_of_le _ (by decide)]
  simp only [BitVec.getLsbD_and, BitVec.getLsbD_setWidth, BitVec.getLsbD_ushiftRight, BitVec.getLsbD_sshiftRight]
  by_cases h8 : i < 8
  · rw [if_pos (by omega), decide_eq_true hi, decide_eq_false (by omega : ¬ 64 ≤ i)]
    have e : ∀ i : Nat, i < 8 → (255#32).getLsbD i = true ∧ (255#64).getLsbD i = true := by decide
    rw [(e i h8).1, (e i h8).2]
    simp
  · have e : ∀ i : Nat, i < 32 → ¬ i < 8 → (255#32).getLsbD i = false ∧ (255#64).getLsbD i = false := by decide
    rw [(e i hi h8).1, (e i hi h8).2]
    simp
theorem z_be (w : Int64) : ∀ k : Nat, k < 8 → ((w.toUInt64 >>> ((Int32.ofInt ((8 * k : Nat) : Int)).toInt64.toUInt64 &&& Int64.toUInt64 63)).toInt64).toInt32 &&& Int32.ofInt 255 = ((w >>> ((Int32.ofInt ((8 * k : Nat) : Int)).toInt64 &&& 63)) &&& Int64.ofInt 255).toInt32
  | 0, _ => Int32.toBitVec.inj (z_bb w.toBitVec 0 (by decide))
  | 1, _ => Int32.toBitVec.inj (z_bb w.toBitVec 8 (by decide))
  | 2, _ => Int32.toBitVec.inj (z_bb w.toBitVec 16 (by decide))
  | 3, _ => Int32.toBitVec.inj (z_bb w.toBitVec 24 (by decide))
  | 4, _ => Int32.toBitVec.inj (z_bb w.toBitVec 32 (by decide))
  | 5, _ => Int32.toBitVec.inj (z_bb w.toBitVec 40 (by decide))
  | 6, _ => Int32.toBitVec.inj (z_bb w.toBitVec 48 (by decide))
  | 7, _ => Int32.toBitVec.inj (z_bb w.toBitVec 56 (by decide))
  | n + 8, h => absurd h (by omega)
theorem z_br (x : Int64) : 0 ≤ ((x &&& Int64.ofInt 255).toInt32).toInt ∧ ((x &&& Int64.ofInt 255).toInt32).toInt ≤ 255 := by
  have e : ((x &&& Int64.ofInt 255).toInt32).toBitVec = x.toBitVec.setWidth 32 &&& 255#32 := by
    apply BitVec.eq_of_getLsbD_eq_iff.mpr
    intro i hi
    show ((x.toBitVec &&& 255#64).signExtend 32).getLsbD i = _
    rw [BitVec.signExtend_eq_setWidth_of_le _ (by decide)]
    simp only [BitVec.getLsbD_and, BitVec.getLsbD_setWidth, decide_eq_true hi, Bool.true_and]
    congr 1
  have h2 : ((x.toBitVec.setWidth 32 &&& 255#32).toNat) ≤ 255 := by
    rw [BitVec.toNat_and]
    exact Nat.and_le_right
  show 0 ≤ (((x &&& Int64.ofInt 255).toInt32).toBitVec).toInt ∧ (((x &&& Int64.ofInt 255).toInt32).toBitVec).toInt ≤ 255
  rw [e, BitVec.toInt_eq_toNat_cond, if_pos (by omega)]
  omega
/-- byte k of a long, counted from its end -/
def z_by (x : Int64) (k : Nat) : Int := (((x >>> ((Int32.ofInt (8 * (k : Int))).toInt64 &&& 63)) &&& Int64.ofInt 255).toInt32).toInt
theorem z_by_r (x : Int64) (k : Nat) : 0 ≤ z_by x k ∧ z_by x k ≤ 255 := z_br _
theorem z_byC (x : Int64) {k : Nat} (h : k < 8) : ((x.toUInt64 >>> ((Int32.ofInt (8 * (k : Int))).toInt64.toUInt64 &&& Int64.toUInt64 63)).toInt64).toInt32 &&& Int32.ofInt 255 = Int32.ofInt (z_by x k) := by
  have e := z_be x k h
  rw [show ((8 * k : Nat) : Int) = 8 * (k : Int) by omega] at e
  rw [e]
  unfold z_by
  rw [Int32.ofInt_toInt]
/-- so many bytes written from place q on -/
def z_fd (x : Int64) : Nat → Nat → (Nat → Int) → Nat → Int
  | 0, _, f => f
  | r + 1, q, f => z_fd x r (q + 1) (v_uf f q (z_by x r))
theorem v_fd1 (V : v_V) (a b : Nat) (hab : a ≠ b) (q : Nat) (x y s : Int) (g : Nat → Int) : v_up (v_ur (v_up (v_up V b q x) a 1 y) b g) a 1 s = v_up (v_ur V b g) a 1 s := by
  funext k j
  unfold v_up v_ur v_uf
  by_cases h1 : k = a
  · subst h1
    by_cases h2 : j = 1
    · simp [h2]
    · simp [h2, hab]
  · by_cases h2 : k = b
    · simp [h2, Ne.symm hab]
    · simp [h1, h2]
theorem v_up_same {V : v_V} {a i : Nat} {x : Int} (h : V a i = x) : v_up V a i x = V := by
  subst h
  unfold v_up
  rw [v_uf_self, v_ur_self]
end
section
/-! feed, the class -/
section
variable {X : Nat → List Int32} {u w : Nat} {S : m_H} {V : v_V} {K : v_K}
set_option maxRecDepth 100000 in
set_option maxHeartbeats 4000000 in
theorem lp_feed (hC : ClF S) {z : Int64} {y : Int} {F : Nat} : ∀ (m : Nat) (r q : Nat) (V : v_V), r < m → (r ≤ 8) → (q + r ≤ 160) → (V 1 1 = (q : Int)) → (K u w (some (iv ((q + r : Nat) : Int))) S (v_up (v_ur V 2 (z_fd z r q (V 2))) 1 1 ((q + r : Nat) : Int))) → y_E X 0 70 (40 * m + F) u w 37 [(0, .ref 0), (1, .long z), (3, iv y), (4, iv ((r : Int) - 1))] [] S V K := by
  intro m
  induction m with
  | zero => intros; omega
  | succ m ih =>
    intro r q V hm hr8 hq hV hx2
    refine y_mono (F' := (40 * m + F) + 40) ?_ (by omega)
    refine y_ld (x := iv ((r : Int) - 1)) rfl rfl (fun d => rfl) ?_
    refine y_zlt rfl rfl rfl (by omega) (fun g1 => ?_) (fun g1 => ?_)
    · refine y_ld (x := .ref 0) rfl rfl (fun d => rfl) ?_
      refine y_gR (i := 0) rfl rfl rfl (hC 0 _ _ rfl) rfl ?_
      refine y_gI (i := 1) (e := (q : Int)) rfl rfl rfl (hC 1 _ _ rfl) rfl hV ?_
      refine y_rI rfl (Or.inl rfl) ?_
      obtain rfl : r = 0 := by omega
      rw [show z_fd z 0 q (V 2) = V 2 from rfl, v_ur_self, v_up_same (show V 1 1 = ((q + 0 : Nat) : Int) from hV)] at hx2
      exact hx2
    · obtain ⟨r, rfl⟩ : ∃ t, r = t + 1 := ⟨r - 1, by omega⟩
      refine y_lv (l' := [(0, .ref 0), (1, .long z), (3, iv y), (4, iv (r : Int))]) rfl ⟨rfl, rfl, rfl, congrArg (fun e => some (iv e)) (by omega), trivial⟩ ?_
      refine y_ld (x := .ref 0) rfl rfl (fun d => rfl) ?_
      refine y_gR (i := 0) rfl rfl rfl (hC 0 _ _ rfl) rfl ?_
      refine y_gR (i := 0) rfl rfl rfl (hC 1 _ _ rfl) rfl ?_
      refine y_ld (x := .ref 0) rfl rfl (fun d => rfl) ?_
      refine y_gR (i := 0) rfl rfl rfl (hC 0 _ _ rfl) rfl ?_
      refine y_gI (i := 1) (e := (q : Int)) rfl rfl rfl (hC 1 _ _ rfl) rfl hV ?_
      refine y_ld (x := .long z) rfl rfl (fun d => rfl) ?_
      refine y_bi rfl rfl (by decide) ?_
      refine y_ld (x := iv (r : Int)) rfl rfl (fun d => rfl) ?_
      refine y_mul (z := 8 * (r : Int)) rfl rfl rfl ?_
      refine y_in rfl rfl (fun d => rfl) ?_
      refine y_in rfl rfl (fun d => rfl) ?_
      refine y_si rfl rfl (by decide) ?_
      refine y_op (z := z_by z r) rfl rfl (fun d => rfl) (z_byC z (by omega)) ?_
      refine y_ist (q := q) rfl rfl (cl_ia hC (k := 2) (N := 160) rfl) (by omega) (by decide) (by omega) ?_
      refine y_ld (x := .ref 0) rfl rfl (fun d => rfl) ?_
      refine y_gR (i := 0) rfl rfl rfl (hC 0 _ _ rfl) rfl ?_
      refine y_in rfl rfl (fun d => rfl) ?_
      refine y_gI (i := 1) (e := (q : Int)) rfl rfl rfl (hC 1 _ _ rfl) rfl hV ?_
      refine y_ic rfl rfl ?_
      refine y_add (z := ((q : Int) + 1)) rfl rfl rfl ?_
      refine y_pI (i := 1) rfl rfl rfl (hC 1 _ _ rfl) rfl rfl ?_
      refine y_inc (z := ((r : Int) - 1)) (lv' := [(4, iv ((r : Int) - 1)), (0, .ref 0), (1, .long z), (3, iv y)]) rfl rfl rfl (by omega) rfl ?_
      refine y_go rfl rfl ?_
      refine y_lv (l' := [(0, .ref 0), (1, .long z), (3, iv y), (4, iv ((r : Int) - 1))]) rfl ⟨rfl, rfl, rfl, rfl, trivial⟩ ?_
      refine y_mono (ih r (q + 1) _ (by omega) (by omega) (by omega) (by rw [v_up_eq]; omega) ?_) (by omega)
      rw [v_fd1 V 1 2 (by decide), v_up_ne (by decide), v_up_row, show q + 1 + r = q + (r + 1) by omega]
      exact hx2
set_option maxRecDepth 100000 in
set_option maxHeartbeats 4000000 in
theorem cs_feed (hC : ClF S) {z : Int64} {y : Int} (hy : (-2147483648 ≤ y ∧ y < 2147483648)) {q : Nat} (hV : V 1 1 = (q : Int)) (hq : q ≤ 160) (k0 : ¬ (1 ≤ y ∧ y ≤ 8) → K u w (some (iv (-2))) S V) (k1 : (1 ≤ y ∧ y ≤ 8) → 160 < q + y → K u w (some (iv (-4))) S V) (k2 : ∀ r : Nat, y = (r : Int) → (1 ≤ r ∧ r ≤ 8) → q + r ≤ 160 → K u w (some (iv ((q + r : Nat) : Int))) S (v_up (v_ur V 2 (z_fd z r q (V 2))) 1 1 ((q + r : Nat) : Int))) : y_R X 1 70 u w [.ref 0, .long z, iv y] S V K := by
  refine y_ent (lv' := [(0, .ref 0), (1, .long z), (3, iv y)]) (Nat.le_of_ble_eq_true rfl) rfl ?_
  refine y_ld (x := iv y) rfl rfl (fun d => rfl) ?_
  refine y_ic rfl rfl ?_
  refine y_jlt rfl rfl rfl (by omega) (fun g1 => ?_) (fun g1 => ?_)
  · refine y_bi rfl rfl (by decide) ?_
    refine y_rI rfl (Or.inl rfl) ?_
    exact k0 (by omega)
  · refine y_ld (x := iv y) rfl rfl (fun d => rfl) ?_
    refine y_bi rfl rfl (by decide) ?_
    refine y_jle rfl rfl rfl (by omega) (fun g2 => ?_) (fun g2 => ?_)
    · refine y_ld (x := .ref 0) rfl rfl (fun d => rfl) ?_
      refine y_gR (i := 0) rfl rfl rfl (hC 0 _ _ rfl) rfl ?_
      refine y_gI (i := 1) (e := (q : Int)) rfl rfl rfl (hC 1 _ _ rfl) rfl hV ?_
      refine y_ld (x := iv y) rfl rfl (fun d => rfl) ?_
      refine y_add (z := ((q : Int) + y)) rfl rfl rfl ?_
      refine y_si rfl rfl (by decide) ?_
      refine y_jle rfl rfl rfl (by omega) (fun g3 => ?_) (fun g3 => ?_)
      · refine y_ld (x := iv y) rfl rfl (fun d => rfl) ?_
        refine y_ic rfl rfl ?_
        refine y_sub (z := (y - 1)) rfl rfl rfl ?_
        refine y_st (lv' := [(4, iv (y - 1)), (0, .ref 0), (1, .long z), (3, iv y)]) rfl rfl (fun d => rfl) ?_
        obtain ⟨r, rfl⟩ : ∃ t : Nat, y = (t : Int) := ⟨y.toNat, by omega⟩
        refine y_lv (l' := [(0, .ref 0), (1, .long z), (3, iv (r : Int)), (4, iv ((r : Int) - 1))]) rfl ⟨rfl, rfl, rfl, rfl, trivial⟩ ?_
        exact y_mono (lp_feed (F := 200) hC 9 r q V (by omega) (by omega) (by omega) hV (k2 r rfl (by omega) (by omega))) (by decide)
      · refine y_bi rfl rfl (by decide) ?_
        refine y_rI rfl (Or.inl rfl) ?_
        exact k1 (by omega) (by omega)
    · refine y_bi rfl rfl (by decide) ?_
      refine y_rI rfl (Or.inl rfl) ?_
      exact k0 (by omega)
end
end
section
/-! feed, the reference -/
theorem v_uf_cm {f : Nat → Int} {i j : Nat} {x y : Int} (h : i ≠ j) : v_uf (v_uf f i x) j y = v_uf (v_uf f j y) i x := by
  funext k
  unfold v_uf
  by_cases h1 : k = j
  · by_cases h2 : k = i
    · exact absurd (h2.symm.trans h1) h
    · simp [h1, Ne.symm h]
  · simp [h1]
theorem v_uf_2 {f : Nat → Int} {i : Nat} {x y : Int} : v_uf (v_uf f i x) i y = v_uf f i y := by
  funext k
  unfold v_uf
  by_cases h1 : k = i
  · simp [h1]
  · simp [h1]
theorem z_fd_c (z : Int64) {i : Nat} {x : Int} : ∀ (r p : Nat) (f : Nat → Int), i < p → z_fd z r p (v_uf f i x) = v_uf (z_fd z r p f) i x
  | 0, _, _, _ => rfl
  | r + 1, p, f, h => by
    show z_fd z r (p + 1) (v_uf (v_uf f i x) p (z_by z r)) = v_uf (z_fd z r (p + 1) (v_uf f p (z_by z r))) i x
    rw [v_uf_cm (by omega), z_fd_c z r (p + 1) _ (by omega)]
theorem v_fd2 (V : v_V) (z : Int64) (r q : Nat) (x y s : Int) : v_ur (v_up (v_up V 171 (10 + q) x) 171 6 y) 171 (v_uf (z_fd z r (10 + (q + 1)) (v_up (v_up V 171 (10 + q) x) 171 6 y 171)) 6 s) = v_ur V 171 (v_uf (z_fd z r (10 + q + 1) (v_uf (V 171) (10 + q) x)) 6 s) := by
  rw [v_up_row, v_up_row, z_fd_c z r _ _ (by omega), v_uf_2]
  unfold v_up
  rw [v_ur_ur, v_ur_ur]
  rfl
section
variable {X : Nat → List Int32} {u w : Nat} {S : m_H} {V : v_V} {K : v_K}
set_option maxRecDepth 100000 in
set_option maxHeartbeats 4000000 in
theorem lq_feed (hM : MdS S) {z : Int64} {y : Int} {F : Nat} : ∀ (m : Nat) (r q : Nat) (V : v_V), r < m → (r ≤ 8) → (q + r ≤ 160) → (V 171 6 = (q : Int)) → (K u w (some (iv ((q + r : Nat) : Int))) S (v_ur V 171 (v_uf (z_fd z r (10 + q) (V 171)) 6 ((q + r : Nat) : Int)))) → y_E X 1 111 (50 * m + F) u w 36 [(0, .ref 170), (1, .long z), (3, iv y), (4, iv ((r : Int) - 1))] [] S V K := by
  intro m
  induction m with
  | zero => intros; omega
  | succ m ih =>
    intro r q V hm hr8 hq hV hx2
    refine y_mono (F' := (50 * m + F) + 50) ?_ (by omega)
    refine y_ld (x := iv ((r : Int) - 1)) rfl rfl (fun d => rfl) ?_
    refine y_zlt rfl rfl rfl (by omega) (fun g1 => ?_) (fun g1 => ?_)
    · refine y_ld (x := .ref 170) rfl rfl (fun d => rfl) ?_
      refine y_gR (i := 1) rfl rfl rfl (md170 hM) rfl ?_
      refine y_bi rfl rfl (by decide) ?_
      refine y_ild (x := (q : Int)) (q := 6) rfl rfl (md171 hM) (by decide) (by decide) rfl hV ?_
      refine y_rI rfl (Or.inl rfl) ?_
      obtain rfl : r = 0 := by omega
      rw [show z_fd z 0 (10 + q) (V 171) = V 171 from rfl, ← v_up_ur, v_up_same (show V 171 6 = ((q + 0 : Nat) : Int) from hV)] at hx2
      exact hx2
    · obtain ⟨r, rfl⟩ : ∃ t, r = t + 1 := ⟨r - 1, by omega⟩
      refine y_lv (l' := [(0, .ref 170), (1, .long z), (3, iv y), (4, iv (r : Int))]) rfl ⟨rfl, rfl, rfl, congrArg (fun e => some (iv e)) (by omega), trivial⟩ ?_
      refine y_ld (x := .ref 170) rfl rfl (fun d => rfl) ?_
      refine y_gR (i := 1) rfl rfl rfl (md170 hM) rfl ?_
      refine y_bi rfl rfl (by decide) ?_
      refine y_ld (x := .ref 170) rfl rfl (fun d => rfl) ?_
      refine y_gR (i := 1) rfl rfl rfl (md170 hM) rfl ?_
      refine y_bi rfl rfl (by decide) ?_
      refine y_ild (x := (q : Int)) (q := 6) rfl rfl (md171 hM) (by decide) (by decide) rfl hV ?_
      refine y_add (z := (10 + (q : Int))) rfl rfl rfl ?_
      refine y_ld (x := .long z) rfl rfl (fun d => rfl) ?_
      refine y_bi rfl rfl (by decide) ?_
      refine y_ld (x := iv (r : Int)) rfl rfl (fun d => rfl) ?_
      refine y_mul (z := 8 * (r : Int)) rfl rfl rfl ?_
      refine y_in rfl rfl (fun d => rfl) ?_
      refine y_ld rfl rfl (fun d => rfl) ?_
      refine y_in rfl rfl (fun d => rfl) ?_
      refine y_in rfl rfl (fun d => rfl) ?_
      refine y_top (v' := iv (z_by z r)) (v_oi _).symm ?_
      refine y_ist (q := (10 + q)) rfl rfl (md171 hM) (by omega) (by decide) (by omega) ?_
      refine y_ld (x := .ref 170) rfl rfl (fun d => rfl) ?_
      refine y_gR (i := 1) rfl rfl rfl (md170 hM) rfl ?_
      refine y_bi rfl rfl (by decide) ?_
      refine y_in rfl rfl (fun d => rfl) ?_
      refine y_ild (x := (q : Int)) (q := 6) rfl rfl (md171 hM) (by decide) (by decide) rfl (by rw [v_up_ni (by omega)]; exact hV) ?_
      refine y_ic rfl rfl ?_
      refine y_add (z := ((q : Int) + 1)) rfl rfl rfl ?_
      refine y_ist (q := 6) rfl rfl (md171 hM) (by decide) (by decide) rfl ?_
      refine y_inc (z := ((r : Int) - 1)) (lv' := [(4, iv ((r : Int) - 1)), (0, .ref 170), (1, .long z), (3, iv y)]) rfl rfl rfl (by omega) rfl ?_
      refine y_go rfl rfl ?_
      refine y_lv (l' := [(0, .ref 170), (1, .long z), (3, iv y), (4, iv ((r : Int) - 1))]) rfl ⟨rfl, rfl, rfl, rfl, trivial⟩ ?_
      refine y_mono (ih r (q + 1) _ (by omega) (by omega) (by omega) (by rw [v_up_eq]; omega) ?_) (by omega)
      rw [v_fd2, show q + 1 + r = q + (r + 1) by omega]
      exact hx2
set_option maxRecDepth 100000 in
set_option maxHeartbeats 4000000 in
theorem ms_feed (hM : MdS S) {z : Int64} {y : Int} (hy : (-2147483648 ≤ y ∧ y < 2147483648)) {q : Nat} (hV : V 171 6 = (q : Int)) (hq : q ≤ 160) (k0 : ¬ (1 ≤ y ∧ y ≤ 8) → K u w (some (iv (-2))) S V) (k1 : (1 ≤ y ∧ y ≤ 8) → 160 < q + y → K u w (some (iv (-4))) S V) (k2 : ∀ r : Nat, y = (r : Int) → (1 ≤ r ∧ r ≤ 8) → q + r ≤ 160 → K u w (some (iv ((q + r : Nat) : Int))) S (v_ur V 171 (v_uf (z_fd z r (10 + q) (V 171)) 6 ((q + r : Nat) : Int)))) : y_R X 2 111 u w [.ref 170, .long z, iv y] S V K := by
  refine y_ent (lv' := [(0, .ref 170), (1, .long z), (3, iv y)]) (Nat.le_of_ble_eq_true rfl) rfl ?_
  refine y_ld (x := iv y) rfl rfl (fun d => rfl) ?_
  refine y_ic rfl rfl ?_
  refine y_bi rfl rfl (by decide) ?_
  refine y_cS (as := [iv y, iv 1, iv 8]) rfl (by decide) rfl rfl rfl rfl ⟨(Nat.le_of_ble_eq_true rfl), (Nat.le_of_ble_eq_true rfl)⟩ (by decide) (ct_in (by omega) ?_)
  refine y_nv ?_
  refine y_bne rfl rfl rfl (fun g1 => ?_) (fun g1 => ?_)
  · refine y_ld (x := .ref 170) rfl rfl (fun d => rfl) ?_
    refine y_gR (i := 1) rfl rfl rfl (md170 hM) rfl ?_
    refine y_bi rfl rfl (by decide) ?_
    refine y_ild (x := (q : Int)) (q := 6) rfl rfl (md171 hM) (by decide) (by decide) rfl hV ?_
    refine y_ld (x := iv y) rfl rfl (fun d => rfl) ?_
    refine y_add (z := ((q : Int) + y)) rfl rfl rfl ?_
    refine y_si rfl rfl (by decide) ?_
    refine y_jle rfl rfl rfl (by omega) (fun g2 => ?_) (fun g2 => ?_)
    · refine y_ld (x := iv y) rfl rfl (fun d => rfl) ?_
      refine y_ic rfl rfl ?_
      refine y_sub (z := (y - 1)) rfl rfl rfl ?_
      refine y_st (lv' := [(4, iv (y - 1)), (0, .ref 170), (1, .long z), (3, iv y)]) rfl rfl (fun d => rfl) ?_
      obtain ⟨r, rfl⟩ : ∃ t : Nat, y = (t : Int) := ⟨y.toNat, by omega⟩
      refine y_lv (l' := [(0, .ref 170), (1, .long z), (3, iv (r : Int)), (4, iv ((r : Int) - 1))]) rfl ⟨rfl, rfl, rfl, rfl, trivial⟩ ?_
      exact y_mono (lq_feed (F := 200) hM 9 r q V (by omega) (by omega) (by omega) hV (k2 r rfl (by omega) (by omega))) (by decide)
    · refine y_bi rfl rfl (by decide) ?_
      refine y_rI rfl (Or.inl rfl) ?_
      exact k1 (by omega) (by omega)
  · refine y_bi rfl rfl (by decide) ?_
    refine y_rI rfl (Or.inl rfl) ?_
    exact k0 (by omega)
end
end
section
/-! a number of a static table; as, the reference -/
theorem y_sti {X : Nat → List Int32} {D j F u w pc : Nat} {lv : m_L} {S : m_H} {V : v_V} {K : v_K} {len n i pc' : Nat} {a e f : Int} {b : Nat} {L : List Int32} {r : List Value} (hc : m_nth (m_code j) pc = some (some (.iaload, len, a, b))) (hp : pc + len = pc') (hX : X n = L) (h3 : X 3 = []) (hn : n < 3) (hix : m_ix (Int32.ofInt e) = some i) (hv : m_nth L i = some (Int32.ofInt f)) (k : y_E X D j F u w pc' lv (iv f :: r) S V K) : y_E X D j (F + 1) u w pc lv (iv e :: .ref (1000000 + n) :: r) S V K := by
  subst hp
  refine y_in hc rfl (fun d => ?_) k
  have h : m_el X (mkh S V) 20 (1000000 + n) (Int32.ofInt e) = some (iv f) := by
    unfold m_el
    rw [hix]
    show (if 1000000 + n < 1000000 then _ else if (20 = 20 ∧ 1000000 + n - 1000000 < 3 ∧ X 3 = []) then (m_nth (X (1000000 + n - 1000000)) i).map Value.int else none) = _
    rw [if_neg (by omega), if_pos ⟨rfl, by omega, h3⟩, show 1000000 + n - 1000000 = n by omega, hX, hv]
    rfl
  rw [m_s_iaload]
  show (match m_el X (mkh S V) 20 (1000000 + n) (Int32.ofInt e) with
    | some (.int x) => m_nx (pc + len) lv (.int x :: r) (mkh S V)
    | _ => none) = _
  rw [h]
section
variable {X : Nat → List Int32} {u w : Nat} {S : m_H} {V : v_V} {K : v_K}
set_option maxRecDepth 100000 in
set_option maxHeartbeats 4000000 in
theorem ct_isUnder {x y : Int} (hx : (-2147483648 ≤ x ∧ x < 2147483648)) (hy : (-2147483648 ≤ y ∧ y < 2147483648)) (k : K u w (some (iv (v_b (y = 0 ∨ y = x ∨ (y = 1 ∧ x = 4) ∨ (y = 3 ∧ x = 5))))) S V) : y_R X 1 166 u w [iv x, iv y] S V K := by
  refine y_ent (lv' := [(0, iv x), (1, iv y)]) (Nat.le_of_ble_eq_true rfl) rfl ?_
  refine y_ld (x := iv y) rfl rfl (fun d => rfl) ?_
  refine y_zeq rfl rfl rfl (by omega) (fun g1 => ?_) (fun g1 => ?_)
  · refine y_ic rfl rfl ?_
    refine y_go rfl rfl ?_
    refine y_rI rfl (by decide) ?_
    rwa [v_b1 (by omega)] at k
  · refine y_ld (x := iv y) rfl rfl (fun d => rfl) ?_
    refine y_ld (x := iv x) rfl rfl (fun d => rfl) ?_
    refine y_jeq rfl rfl rfl (by omega) (fun g2 => ?_) (fun g2 => ?_)
    · refine y_ic rfl rfl ?_
      refine y_go rfl rfl ?_
      refine y_rI rfl (by decide) ?_
      rwa [v_b1 (by omega)] at k
    · refine y_ld (x := iv y) rfl rfl (fun d => rfl) ?_
      refine y_ic rfl rfl ?_
      refine y_jne rfl rfl rfl (by omega) (fun g3 => ?_) (fun g3 => ?_)
      · refine y_ld (x := iv y) rfl rfl (fun d => rfl) ?_
        refine y_ic rfl rfl ?_
        refine y_jne rfl rfl rfl (by omega) (fun g4 => ?_) (fun g4 => ?_)
        · refine y_ic rfl rfl ?_
          refine y_rI rfl (by decide) ?_
          rwa [v_b0 (by omega)] at k
        · refine y_ld (x := iv x) rfl rfl (fun d => rfl) ?_
          refine y_ic rfl rfl ?_
          refine y_jne rfl rfl rfl (by omega) (fun g5 => ?_) (fun g5 => ?_)
          · refine y_ic rfl rfl ?_
            refine y_rI rfl (by decide) ?_
            rwa [v_b0 (by omega)] at k
          · refine y_ic rfl rfl ?_
            refine y_go rfl rfl ?_
            refine y_rI rfl (by decide) ?_
            rwa [v_b1 (by omega)] at k
      · refine y_ld (x := iv x) rfl rfl (fun d => rfl) ?_
        refine y_ic rfl rfl ?_
        refine y_jeq rfl rfl rfl (by omega) (fun g6 => ?_) (fun g6 => ?_)
        · refine y_ic rfl rfl ?_
          refine y_go rfl rfl ?_
          refine y_rI rfl (by decide) ?_
          rwa [v_b1 (by omega)] at k
        · refine y_ld (x := iv y) rfl rfl (fun d => rfl) ?_
          refine y_ic rfl rfl ?_
          refine y_jne rfl rfl rfl (by omega) (fun g7 => ?_) (fun g7 => ?_)
          · refine y_ic rfl rfl ?_
            refine y_rI rfl (by decide) ?_
            rwa [v_b0 (by omega)] at k
          · refine y_ld (x := iv x) rfl rfl (fun d => rfl) ?_
            refine y_ic rfl rfl ?_
            refine y_jne rfl rfl rfl (by omega) (fun g8 => ?_) (fun g8 => ?_)
            · refine y_ic rfl rfl ?_
              refine y_rI rfl (by decide) ?_
              rwa [v_b0 (by omega)] at k
            · refine y_ic rfl rfl ?_
              refine y_go rfl rfl ?_
              refine y_rI rfl (by decide) ?_
              rwa [v_b1 (by omega)] at k
set_option maxRecDepth 100000 in
set_option maxHeartbeats 4000000 in
theorem ms_as (hM : MdS S) (hB : 0 ≤ V 171 1 ∧ V 171 1 ≤ 8) {x : Int} (hx : (-2147483648 ≤ x ∧ x < 2147483648)) {y : Int} (hy : (-2147483648 ≤ y ∧ y < 2147483648)) (hk : ∀ b : Nat, b < 8 → 0 ≤ V 171 (170 + b) ∧ V 171 (170 + b) ≤ 6) (k0 : ¬ (0 ≤ x ∧ x ≤ V 171 1 - 1) → K u w (some (iv (-1))) S V) (k1 : (0 ≤ x ∧ x ≤ V 171 1 - 1) → (0 ≤ y ∧ y ≤ 6) → ¬ (y = 0 ∨ y = V 171 (170 + x.toNat) ∨ (y = 1 ∧ V 171 (170 + x.toNat) = 4) ∨ (y = 3 ∧ V 171 (170 + x.toNat) = 5)) → K u w (some (iv (-6))) S V) (k2 : (0 ≤ x ∧ x ≤ V 171 1 - 1) → (0 ≤ y ∧ y ≤ 6) → (y = 0 ∨ y = V 171 (170 + x.toNat) ∨ (y = 1 ∧ V 171 (170 + x.toNat) = 4) ∨ (y = 3 ∧ V 171 (170 + x.toNat) = 5)) → K u w (some (iv (V 171 (178 + x.toNat)))) S V) (k3 : (0 ≤ x ∧ x ≤ V 171 1 - 1) → ¬ (0 ≤ y ∧ y ≤ 6) → K u w (some (iv (-1))) S V) : y_R X 3 175 u w [.ref 170, iv x, iv y] S V K := by
  refine y_ent (lv' := [(0, .ref 170), (1, iv x), (2, iv y)]) (Nat.le_of_ble_eq_true rfl) rfl ?_
  refine y_ld (x := .ref 170) rfl rfl (fun d => rfl) ?_
  refine y_ld (x := iv x) rfl rfl (fun d => rfl) ?_
  refine y_cV (as := [.ref 170, iv x]) rfl rfl rfl rfl rfl (md170 hM) ⟨rfl, (Nat.le_of_ble_eq_true rfl), (Nat.le_of_ble_eq_true rfl)⟩ (by decide) (ct_isBox hM (by omega) ⟨rfl, by omega⟩ ?_)
  refine y_nv ?_
  refine y_beq rfl rfl rfl (fun g1 => ?_) (fun g1 => ?_)
  · refine y_ic rfl rfl ?_
    refine y_rI rfl (Or.inl rfl) ?_
    exact k0 g1
  · refine y_ld (x := iv y) rfl rfl (fun d => rfl) ?_
    refine y_ic rfl rfl ?_
    refine y_bi rfl rfl (by decide) ?_
    refine y_cS (as := [iv y, iv 0, iv 6]) rfl (by decide) rfl rfl rfl rfl ⟨(Nat.le_of_ble_eq_true rfl), (Nat.le_of_ble_eq_true rfl)⟩ (by decide) (ct_in (by omega) ?_)
    refine y_nv ?_
    refine y_bne rfl rfl rfl (fun g2 => ?_) (fun g2 => ?_)
    · have hkx := hk x.toNat (by omega)
      refine y_ld (x := .ref 170) rfl rfl (fun d => rfl) ?_
      refine y_gR (i := 1) rfl rfl rfl (md170 hM) rfl ?_
      refine y_si rfl rfl (by decide) ?_
      refine y_ld (x := iv x) rfl rfl (fun d => rfl) ?_
      refine y_add (z := (170 + x)) rfl rfl rfl ?_
      refine y_ild (x := (V 171 (170 + x.toNat))) (q := (170 + x.toNat)) rfl rfl (md171 hM) (by omega) (by decide) (by omega) rfl ?_
      refine y_ld (x := iv y) rfl rfl (fun d => rfl) ?_
      refine y_cS (as := [iv (V 171 (170 + x.toNat)), iv y]) rfl (by decide) rfl rfl rfl rfl ⟨(Nat.le_of_ble_eq_true rfl), (Nat.le_of_ble_eq_true rfl)⟩ (by decide) (ct_isUnder (by omega) (by omega) ?_)
      refine y_nv ?_
      refine y_beq rfl rfl rfl (fun g3 => ?_) (fun g3 => ?_)
      · refine y_bi rfl rfl (by decide) ?_
        refine y_rI rfl (Or.inl rfl) ?_
        exact k1 g1 g2 g3
      · refine y_ld (x := .ref 170) rfl rfl (fun d => rfl) ?_
        refine y_gR (i := 1) rfl rfl rfl (md170 hM) rfl ?_
        refine y_si rfl rfl (by decide) ?_
        refine y_ld (x := iv x) rfl rfl (fun d => rfl) ?_
        refine y_add (z := (178 + x)) rfl rfl rfl ?_
        refine y_ild (x := (V 171 (178 + x.toNat))) (q := (178 + x.toNat)) rfl rfl (md171 hM) (by omega) (by decide) (by omega) rfl ?_
        refine y_go rfl rfl ?_
        refine y_rI rfl (Or.inl rfl) ?_
        exact k2 g1 g2 g3
    · refine y_ic rfl rfl ?_
      refine y_rI rfl (Or.inl rfl) ?_
      exact k3 g1 g2
end
end
