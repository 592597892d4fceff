/-! who leads what, in the reference -/
section
variable {X : Nat → List Int32} {u w : Nat} {S : m_H} {V : v_V} {K : v_K}
set_option maxRecDepth 100000 in
set_option maxHeartbeats 4000000 in
theorem lq_leading (hM : MdS S) {x : Int} (hx : 0 ≤ x ∧ x < 8) (hL : ∀ t : Nat, t < 16 → 0 ≤ V 171 (1552 + 16 * x.toNat + t) ∧ V 171 (1552 + 16 * x.toNat + t) ≤ 7) (k : K u w (some (iv (z_na (fun t : Nat => V 171 (1552 + 16 * x.toNat + t)) x 16))) S V) {F : Nat} : ∀ (m : Nat) (i : Nat), 16 - i < m → (i ≤ 16) → y_E X 0 140 (28 * m + F) u w 4 [(0, .ref 170), (1, iv x), (2, iv (z_na (fun t : Nat => V 171 (1552 + 16 * x.toNat + t)) x i)), (3, iv (i : Int))] [] S V K := by
  intro m
  induction m with
  | zero => intros; omega
  | succ m ih =>
    intro i hm hI 
    refine y_mono (F' := (28 * m + F) + 28) ?_ (by omega)
    refine y_ld (x := iv (i : Int)) rfl rfl (fun d => rfl) ?_
    refine y_bi rfl rfl (by decide) ?_
    refine y_jge rfl rfl rfl (by omega) (fun g1 => ?_) (fun g1 => ?_)
    · obtain rfl : i = 16 := by omega
      have hqz := z_na_lt (fun t : Nat => V 171 (1552 + 16 * x.toNat + t)) x 16
      refine y_ld (x := iv (z_na (fun t : Nat => V 171 (1552 + 16 * x.toNat + t)) x 16)) rfl rfl (fun d => rfl) ?_
      refine y_rI rfl (Or.inl rfl) ?_
      exact k
    · have hq := hL i (by omega)
      have hqz := z_na_lt (fun t : Nat => V 171 (1552 + 16 * x.toNat + t)) x i
      refine y_ld (x := iv (z_na (fun t : Nat => V 171 (1552 + 16 * x.toNat + t)) x i)) rfl rfl (fun d => rfl) ?_
      refine y_ld (x := .ref 170) rfl rfl (fun d => rfl) ?_
      refine y_gR (i := 1) rfl rfl rfl (md170 hM) rfl ?_
      refine y_si rfl rfl (by decide) ?_
      refine y_bi rfl rfl (by decide) ?_
      refine y_ld (x := iv x) rfl rfl (fun d => rfl) ?_
      refine y_mul (z := (16 * x)) rfl rfl rfl ?_
      refine y_add (z := (1552 + (16 * x))) rfl rfl rfl ?_
      refine y_ld (x := iv (i : Int)) rfl rfl (fun d => rfl) ?_
      refine y_add (z := ((1552 + (16 * x)) + (i : Int))) rfl rfl rfl ?_
      refine y_ild (x := (V 171 (1552 + 16 * x.toNat + i))) (q := (1552 + 16 * x.toNat + i)) rfl rfl (md171 hM) (by omega) (by decide) (by omega) rfl ?_
      refine y_ld (x := iv x) rfl rfl (fun d => rfl) ?_
      refine y_jne rfl rfl rfl (by omega) (fun g2 => ?_) (fun g2 => ?_)
      · have hz := z_na_n (f := (fun t : Nat => V 171 (1552 + 16 * x.toNat + t))) (x := x) (n := i) (by show V 171 (1552 + 16 * x.toNat + i) ≠ x; omega)
        refine y_ic rfl rfl ?_
        refine y_add (z := (z_na (fun t : Nat => V 171 (1552 + 16 * x.toNat + t)) x (i + 1))) rfl rfl (by omega) ?_
        refine y_st (lv' := [(2, iv (z_na (fun t : Nat => V 171 (1552 + 16 * x.toNat + t)) x (i + 1))), (0, .ref 170), (1, iv x), (3, iv (i : Int))]) rfl rfl (fun d => rfl) ?_
        refine y_inc (z := ((i + 1 : Nat) : Int)) (lv' := [(3, iv ((i + 1 : Nat) : Int)), (2, iv (z_na (fun t : Nat => V 171 (1552 + 16 * x.toNat + t)) x (i + 1))), (0, .ref 170), (1, iv x)]) rfl rfl rfl (by omega) rfl ?_
        refine y_go rfl rfl ?_
        refine y_lv (l' := [(0, .ref 170), (1, iv x), (2, iv (z_na (fun t : Nat => V 171 (1552 + 16 * x.toNat + t)) x (i + 1))), (3, iv ((i + 1 : Nat) : Int))]) rfl ⟨rfl, rfl, rfl, rfl, trivial⟩ ?_
        exact y_mono (ih (i + 1) (by omega) (by omega)) (by omega)
      · have hz := z_na_e (f := (fun t : Nat => V 171 (1552 + 16 * x.toNat + t))) (x := x) (n := i) (by show V 171 (1552 + 16 * x.toNat + i) = x; omega)
        refine y_ic rfl rfl ?_
        refine y_go rfl rfl ?_
        refine y_add (z := (z_na (fun t : Nat => V 171 (1552 + 16 * x.toNat + t)) x (i + 1))) rfl rfl (by omega) ?_
        refine y_st (lv' := [(2, iv (z_na (fun t : Nat => V 171 (1552 + 16 * x.toNat + t)) x (i + 1))), (0, .ref 170), (1, iv x), (3, iv (i : Int))]) rfl rfl (fun d => rfl) ?_
        refine y_inc (z := ((i + 1 : Nat) : Int)) (lv' := [(3, iv ((i + 1 : Nat) : Int)), (2, iv (z_na (fun t : Nat => V 171 (1552 + 16 * x.toNat + t)) x (i + 1))), (0, .ref 170), (1, iv x)]) rfl rfl rfl (by omega) rfl ?_
        refine y_go rfl rfl ?_
        refine y_lv (l' := [(0, .ref 170), (1, iv x), (2, iv (z_na (fun t : Nat => V 171 (1552 + 16 * x.toNat + t)) x (i + 1))), (3, iv ((i + 1 : Nat) : Int))]) rfl ⟨rfl, rfl, rfl, rfl, trivial⟩ ?_
        exact y_mono (ih (i + 1) (by omega) (by omega)) (by omega)
set_option maxRecDepth 100000 in
set_option maxHeartbeats 4000000 in
theorem ct_leading (hM : MdS S) {x : Int} (hx : 0 ≤ x ∧ x < 8) (hL : ∀ t : Nat, t < 16 → 0 ≤ V 171 (1552 + 16 * x.toNat + t) ∧ V 171 (1552 + 16 * x.toNat + t) ≤ 7) (k : K u w (some (iv (z_na (fun t : Nat => V 171 (1552 + 16 * x.toNat + t)) x 16))) S V) : y_R X 1 140 u w [.ref 170, iv x] S V K := by
  refine y_ent (lv' := [(0, .ref 170), (1, iv x)]) (Nat.le_of_ble_eq_true rfl) rfl ?_
  refine y_ic rfl rfl ?_
  refine y_st (lv' := [(2, iv 0), (0, .ref 170), (1, iv x)]) rfl rfl (fun d => rfl) ?_
  refine y_ic rfl rfl ?_
  refine y_st (lv' := [(3, iv 0), (2, iv 0), (0, .ref 170), (1, iv x)]) rfl rfl (fun d => rfl) ?_
  refine y_lv (l' := [(0, .ref 170), (1, iv x), (2, iv (z_na (fun t : Nat => V 171 (1552 + 16 * x.toNat + t)) x 0)), (3, iv ((0 : Nat) : Int))]) rfl ⟨rfl, rfl, rfl, rfl, trivial⟩ ?_
  exact y_mono (lq_leading (F := 100) hM hx hL k 17 0 (by omega) (by omega)) (by decide)
set_option maxRecDepth 100000 in
set_option maxHeartbeats 4000000 in
theorem lq_isInRow (hM : MdS S) {x : Int} (hx : (-2147483648 ≤ x ∧ x < 2147483648)) (hn : 0 ≤ V 171 2 ∧ V 171 2 ≤ 6) (hL : ∀ t : Nat, t < 6 → 0 ≤ V 171 (1680 + t) ∧ V 171 (1680 + t) ≤ 7) (k1 : (∃ t : Nat, (t : Int) < V 171 2 ∧ V 171 (1680 + t) = x) → K u w (some (iv 1)) S V) (k0 : (∀ t : Nat, (t : Int) < V 171 2 → V 171 (1680 + t) ≠ x) → K u w (some (iv 0)) S V) {F : Nat} : ∀ (m : Nat) (r : Int) (i : Nat), 6 - i < m → ((i : Int) ≤ V 171 2) → (0 ≤ r ∧ r ≤ 1) → ((r = 1 ∧ ∃ t : Nat, (t : Int) < V 171 2 ∧ V 171 (1680 + t) = x) ∨ (r = 0 ∧ ∀ t : Nat, t < i → V 171 (1680 + t) ≠ x)) → y_E X 0 145 (28 * m + F) u w 4 [(0, .ref 170), (1, iv x), (2, iv r), (3, iv (i : Int))] [] S V K := by
  intro m
  induction m with
  | zero => intros; omega
  | succ m ih =>
    intro r i hm hI hr hJ 
    refine y_mono (F' := (28 * m + F) + 28) ?_ (by omega)
    refine y_ld (x := iv (i : Int)) rfl rfl (fun d => rfl) ?_
    refine y_ld (x := .ref 170) rfl rfl (fun d => rfl) ?_
    refine y_gR (i := 1) rfl rfl rfl (md170 hM) rfl ?_
    refine y_ic rfl rfl ?_
    refine y_ild (x := (V 171 2)) (q := 2) rfl rfl (md171 hM) (by decide) (by decide) rfl rfl ?_
    refine y_jge rfl rfl rfl (by omega) (fun g1 => ?_) (fun g1 => ?_)
    · refine y_ld (x := iv r) rfl rfl (fun d => rfl) ?_
      refine y_rI rfl (by omega) ?_
      rcases hJ with ⟨rfl, e⟩ | ⟨rfl, e⟩
      · exact k1 e
      · exact k0 (fun t ht => e t (by omega))
    · refine y_ld (x := iv r) rfl rfl (fun d => rfl) ?_
      refine y_zne rfl rfl rfl (by omega) (fun g2 => ?_) (fun g2 => ?_)
      · refine y_ic rfl rfl ?_
        refine y_go rfl rfl ?_
        refine y_st (lv' := [(2, iv 1), (0, .ref 170), (1, iv x), (3, iv (i : Int))]) rfl rfl (fun d => rfl) ?_
        refine y_inc (z := ((i + 1 : Nat) : Int)) (lv' := [(3, iv ((i + 1 : Nat) : Int)), (2, iv 1), (0, .ref 170), (1, iv x)]) rfl rfl rfl (by omega) rfl ?_
        refine y_go rfl rfl ?_
        refine y_lv (l' := [(0, .ref 170), (1, iv x), (2, iv 1), (3, iv ((i + 1 : Nat) : Int))]) rfl ⟨rfl, rfl, rfl, rfl, trivial⟩ ?_
        have hK : ∃ t : Nat, (t : Int) < V 171 2 ∧ V 171 (1680 + t) = x := by
          rcases hJ with ⟨_, e⟩ | ⟨h, _⟩
          · exact e
          · first | omega | exact ⟨i, by omega, by omega⟩
        exact y_mono (ih 1 (i + 1) (by omega) (by omega) (by decide) (Or.inl ⟨rfl, hK⟩)) (by omega)
      · have hq := hL i (by omega)
        refine y_ld (x := .ref 170) rfl rfl (fun d => rfl) ?_
        refine y_gR (i := 1) rfl rfl rfl (md170 hM) rfl ?_
        refine y_si rfl rfl (by decide) ?_
        refine y_ld (x := iv (i : Int)) rfl rfl (fun d => rfl) ?_
        refine y_add (z := (1680 + (i : Int))) rfl rfl rfl ?_
        refine y_ild (x := (V 171 (1680 + i))) (q := (1680 + i)) rfl rfl (md171 hM) (by omega) (by decide) (by omega) rfl ?_
        refine y_ld (x := iv x) rfl rfl (fun d => rfl) ?_
        refine y_jne rfl rfl rfl (by omega) (fun g3 => ?_) (fun g3 => ?_)
        · refine y_ic rfl rfl ?_
          refine y_st (lv' := [(2, iv 0), (0, .ref 170), (1, iv x), (3, iv (i : Int))]) rfl rfl (fun d => rfl) ?_
          refine y_inc (z := ((i + 1 : Nat) : Int)) (lv' := [(3, iv ((i + 1 : Nat) : Int)), (2, iv 0), (0, .ref 170), (1, iv x)]) rfl rfl rfl (by omega) rfl ?_
          refine y_go rfl rfl ?_
          refine y_lv (l' := [(0, .ref 170), (1, iv x), (2, iv 0), (3, iv ((i + 1 : Nat) : Int))]) rfl ⟨rfl, rfl, rfl, rfl, trivial⟩ ?_
          have hK : ∀ t : Nat, t < i + 1 → V 171 (1680 + t) ≠ x := by
            rcases hJ with ⟨h, _⟩ | ⟨_, e⟩
            · omega
            · intro t ht
              rcases (show t < i ∨ t = i by omega) with h | h <;> first | exact e t h | (rw [h]; omega)
          exact y_mono (ih 0 (i + 1) (by omega) (by omega) (by decide) (Or.inr ⟨rfl, hK⟩)) (by omega)
        · refine y_ic rfl rfl ?_
          refine y_go rfl rfl ?_
          refine y_st (lv' := [(2, iv 1), (0, .ref 170), (1, iv x), (3, iv (i : Int))]) rfl rfl (fun d => rfl) ?_
          refine y_inc (z := ((i + 1 : Nat) : Int)) (lv' := [(3, iv ((i + 1 : Nat) : Int)), (2, iv 1), (0, .ref 170), (1, iv x)]) rfl rfl rfl (by omega) rfl ?_
          refine y_go rfl rfl ?_
          refine y_lv (l' := [(0, .ref 170), (1, iv x), (2, iv 1), (3, iv ((i + 1 : Nat) : Int))]) rfl ⟨rfl, rfl, rfl, rfl, trivial⟩ ?_
          have hK : ∃ t : Nat, (t : Int) < V 171 2 ∧ V 171 (1680 + t) = x := by
            rcases hJ with ⟨_, e⟩ | ⟨h, _⟩
            · exact e
            · first | omega | exact ⟨i, by omega, by omega⟩
          exact y_mono (ih 1 (i + 1) (by omega) (by omega) (by decide) (Or.inl ⟨rfl, hK⟩)) (by omega)
set_option maxRecDepth 100000 in
set_option maxHeartbeats 4000000 in
theorem ct_isInRow (hM : MdS S) {x : Int} (hx : (-2147483648 ≤ x ∧ x < 2147483648)) (hn : 0 ≤ V 171 2 ∧ V 171 2 ≤ 6) (hL : ∀ t : Nat, t < 6 → 0 ≤ V 171 (1680 + t) ∧ V 171 (1680 + t) ≤ 7) (k1 : (∃ t : Nat, (t : Int) < V 171 2 ∧ V 171 (1680 + t) = x) → K u w (some (iv 1)) S V) (k0 : (∀ t : Nat, (t : Int) < V 171 2 → V 171 (1680 + t) ≠ x) → K u w (some (iv 0)) S V) : y_R X 1 145 u w [.ref 170, iv x] S V K := by
  refine y_ent (lv' := [(0, .ref 170), (1, iv x)]) (Nat.le_of_ble_eq_true rfl) rfl ?_
  refine y_ic rfl rfl ?_
  refine y_st (lv' := [(2, iv 0), (0, .ref 170), (1, iv x)]) rfl rfl (fun d => rfl) ?_
  refine y_ic rfl rfl ?_
  refine y_st (lv' := [(3, iv 0), (2, iv 0), (0, .ref 170), (1, iv x)]) rfl rfl (fun d => rfl) ?_
  refine y_lv (l' := [(0, .ref 170), (1, iv x), (2, iv 0), (3, iv 0)]) rfl ⟨rfl, rfl, rfl, rfl, trivial⟩ ?_
  exact y_mono (lq_isInRow (F := 100) hM hx hn hL k1 k0 7 0 0 (by omega) (by omega) (by decide) (Or.inr ⟨rfl, fun t ht => absurd ht (Nat.not_lt_zero t)⟩)) (by decide)
set_option maxRecDepth 100000 in
set_option maxHeartbeats 4000000 in
theorem lq_isLedToI (hM : MdS S) {x : Int} (hx : (-2147483648 ≤ x ∧ x < 2147483648)) (hn : 0 ≤ V 171 1 ∧ V 171 1 ≤ 8) (hL : ∀ b : Nat, (b : Int) < V 171 1 → ∀ t : Nat, t < 16 → 0 ≤ V 171 (1552 + 16 * b + t) ∧ V 171 (1552 + 16 * b + t) ≤ 7) {i : Nat} (hi : (i : Int) < V 171 1) {F : Nat} : ∀ (m : Nat) (r : Int) (jj : Nat), 16 - jj < m → (jj ≤ 16) → (0 ≤ r ∧ r ≤ 1) → ((r = 1 ∧ ∃ b : Nat, (b : Int) < V 171 1 ∧ (b : Int) ≠ x ∧ ∃ t : Nat, t < 16 ∧ V 171 (1552 + 16 * b + t) = x) ∨ (r = 0 ∧ (∀ b : Nat, b < i → (b : Int) ≠ x → ∀ t : Nat, t < 16 → V 171 (1552 + 16 * b + t) ≠ x) ∧ ∀ t : Nat, t < jj → (i : Int) ≠ x → V 171 (1552 + 16 * i + t) ≠ x)) → (∀ r : Int, 0 ≤ r ∧ r ≤ 1 → (r = 1 ∧ ∃ b : Nat, (b : Int) < V 171 1 ∧ (b : Int) ≠ x ∧ ∃ t : Nat, t < 16 ∧ V 171 (1552 + 16 * b + t) = x) ∨ (r = 0 ∧ (∀ b : Nat, b < i + 1 → (b : Int) ≠ x → ∀ t : Nat, t < 16 → V 171 (1552 + 16 * b + t) ≠ x)) → y_E X 0 141 F u w 65 [(0, .ref 170), (1, iv x), (2, iv r), (3, iv (i : Int))] [] S V K) → y_E X 0 141 (36 * m + F) u w 17 [(0, .ref 170), (1, iv x), (2, iv r), (3, iv (i : Int)), (4, iv (jj : Int))] [] S V K := by
  intro m
  induction m with
  | zero => intros; omega
  | succ m ih =>
    intro r jj hm hI hr hJ hx2
    refine y_mono (F' := (36 * m + F) + 36) ?_ (by omega)
    refine y_ld (x := iv (jj : Int)) rfl rfl (fun d => rfl) ?_
    refine y_bi rfl rfl (by decide) ?_
    refine y_jge rfl rfl rfl (by omega) (fun g1 => ?_) (fun g1 => ?_)
    · refine y_lv (l' := [(0, .ref 170), (1, iv x), (2, iv r), (3, iv (i : Int))]) rfl ⟨rfl, rfl, rfl, rfl, trivial⟩ ?_
      obtain rfl : jj = 16 := by omega
      refine y_mono (hx2 r hr ?_) (by omega)
      rcases hJ with h | ⟨h, a, a2⟩
      · exact Or.inl h
      · refine Or.inr ⟨h, fun b hb hbx => ?_⟩
        rcases (show b < i ∨ b = i by omega) with h | h
        · exact a b h hbx
        · subst h; exact fun t ht => a2 t ht hbx
    · refine y_ld (x := iv r) rfl rfl (fun d => rfl) ?_
      refine y_zne rfl rfl rfl (by omega) (fun g2 => ?_) (fun g2 => ?_)
      · refine y_ic rfl rfl ?_
        refine y_go rfl rfl ?_
        refine y_st (lv' := [(2, iv 1), (0, .ref 170), (1, iv x), (3, iv (i : Int)), (4, iv (jj : Int))]) rfl rfl (fun d => rfl) ?_
        refine y_inc (z := ((jj + 1 : Nat) : Int)) (lv' := [(4, iv ((jj + 1 : Nat) : Int)), (2, iv 1), (0, .ref 170), (1, iv x), (3, iv (i : Int))]) rfl rfl rfl (by omega) rfl ?_
        refine y_go rfl rfl ?_
        refine y_lv (l' := [(0, .ref 170), (1, iv x), (2, iv 1), (3, iv (i : Int)), (4, iv ((jj + 1 : Nat) : Int))]) rfl ⟨rfl, rfl, rfl, rfl, rfl, trivial⟩ ?_
        have hK : ∃ b : Nat, (b : Int) < V 171 1 ∧ (b : Int) ≠ x ∧ ∃ t : Nat, t < 16 ∧ V 171 (1552 + 16 * b + t) = x := by
          rcases hJ with ⟨_, e⟩ | ⟨h, _⟩
          · exact e
          · first | omega | exact ⟨i, by omega, by omega, jj, by omega, by omega⟩
        exact y_mono (ih 1 (jj + 1) (by omega) (by omega) (by decide) (Or.inl ⟨rfl, hK⟩) hx2) (by omega)
      · refine y_ld (x := iv (i : Int)) rfl rfl (fun d => rfl) ?_
        refine y_ld (x := iv x) rfl rfl (fun d => rfl) ?_
        refine y_jeq rfl rfl rfl (by omega) (fun g3 => ?_) (fun g3 => ?_)
        · refine y_ic rfl rfl ?_
          refine y_st (lv' := [(2, iv 0), (0, .ref 170), (1, iv x), (3, iv (i : Int)), (4, iv (jj : Int))]) rfl rfl (fun d => rfl) ?_
          refine y_inc (z := ((jj + 1 : Nat) : Int)) (lv' := [(4, iv ((jj + 1 : Nat) : Int)), (2, iv 0), (0, .ref 170), (1, iv x), (3, iv (i : Int))]) rfl rfl rfl (by omega) rfl ?_
          refine y_go rfl rfl ?_
          refine y_lv (l' := [(0, .ref 170), (1, iv x), (2, iv 0), (3, iv (i : Int)), (4, iv ((jj + 1 : Nat) : Int))]) rfl ⟨rfl, rfl, rfl, rfl, rfl, trivial⟩ ?_
          have hK : (∀ b : Nat, b < i → (b : Int) ≠ x → ∀ t : Nat, t < 16 → V 171 (1552 + 16 * b + t) ≠ x) ∧ ∀ t : Nat, t < jj + 1 → (i : Int) ≠ x → V 171 (1552 + 16 * i + t) ≠ x := by
            rcases hJ with ⟨h, _⟩ | ⟨_, a, a2⟩
            · omega
            · refine ⟨a, fun t ht hix => ?_⟩
              rcases (show t < jj ∨ t = jj by omega) with h | h <;> first | exact a2 t h hix | (rw [h]; omega)
          exact y_mono (ih 0 (jj + 1) (by omega) (by omega) (by decide) (Or.inr ⟨rfl, hK⟩) hx2) (by omega)
        · have hq := hL i (by omega) jj (by omega)
          refine y_ld (x := .ref 170) rfl rfl (fun d => rfl) ?_
          refine y_gR (i := 1) rfl rfl rfl (md170 hM) rfl ?_
          refine y_si rfl rfl (by decide) ?_
          refine y_bi rfl rfl (by decide) ?_
          refine y_ld (x := iv (i : Int)) rfl rfl (fun d => rfl) ?_
          refine y_mul (z := (16 * (i : Int))) rfl rfl rfl ?_
          refine y_add (z := (1552 + (16 * (i : Int)))) rfl rfl rfl ?_
          refine y_ld (x := iv (jj : Int)) rfl rfl (fun d => rfl) ?_
          refine y_add (z := ((1552 + (16 * (i : Int))) + (jj : Int))) rfl rfl rfl ?_
          refine y_ild (x := (V 171 (1552 + 16 * i + jj))) (q := (1552 + 16 * i + jj)) rfl rfl (md171 hM) (by omega) (by decide) (by omega) rfl ?_
          refine y_ld (x := iv x) rfl rfl (fun d => rfl) ?_
          refine y_jne rfl rfl rfl (by omega) (fun g4 => ?_) (fun g4 => ?_)
          · refine y_ic rfl rfl ?_
            refine y_st (lv' := [(2, iv 0), (0, .ref 170), (1, iv x), (3, iv (i : Int)), (4, iv (jj : Int))]) rfl rfl (fun d => rfl) ?_
            refine y_inc (z := ((jj + 1 : Nat) : Int)) (lv' := [(4, iv ((jj + 1 : Nat) : Int)), (2, iv 0), (0, .ref 170), (1, iv x), (3, iv (i : Int))]) rfl rfl rfl (by omega) rfl ?_
            refine y_go rfl rfl ?_
            refine y_lv (l' := [(0, .ref 170), (1, iv x), (2, iv 0), (3, iv (i : Int)), (4, iv ((jj + 1 : Nat) : Int))]) rfl ⟨rfl, rfl, rfl, rfl, rfl, trivial⟩ ?_
            have hK : (∀ b : Nat, b < i → (b : Int) ≠ x → ∀ t : Nat, t < 16 → V 171 (1552 + 16 * b + t) ≠ x) ∧ ∀ t : Nat, t < jj + 1 → (i : Int) ≠ x → V 171 (1552 + 16 * i + t) ≠ x := by
              rcases hJ with ⟨h, _⟩ | ⟨_, a, a2⟩
              · omega
              · refine ⟨a, fun t ht hix => ?_⟩
                rcases (show t < jj ∨ t = jj by omega) with h | h <;> first | exact a2 t h hix | (rw [h]; omega)
            exact y_mono (ih 0 (jj + 1) (by omega) (by omega) (by decide) (Or.inr ⟨rfl, hK⟩) hx2) (by omega)
          · refine y_ic rfl rfl ?_
            refine y_go rfl rfl ?_
            refine y_st (lv' := [(2, iv 1), (0, .ref 170), (1, iv x), (3, iv (i : Int)), (4, iv (jj : Int))]) rfl rfl (fun d => rfl) ?_
            refine y_inc (z := ((jj + 1 : Nat) : Int)) (lv' := [(4, iv ((jj + 1 : Nat) : Int)), (2, iv 1), (0, .ref 170), (1, iv x), (3, iv (i : Int))]) rfl rfl rfl (by omega) rfl ?_
            refine y_go rfl rfl ?_
            refine y_lv (l' := [(0, .ref 170), (1, iv x), (2, iv 1), (3, iv (i : Int)), (4, iv ((jj + 1 : Nat) : Int))]) rfl ⟨rfl, rfl, rfl, rfl, rfl, trivial⟩ ?_
            have hK : ∃ b : Nat, (b : Int) < V 171 1 ∧ (b : Int) ≠ x ∧ ∃ t : Nat, t < 16 ∧ V 171 (1552 + 16 * b + t) = x := by
              rcases hJ with ⟨_, e⟩ | ⟨h, _⟩
              · exact e
              · first | omega | exact ⟨i, by omega, by omega, jj, by omega, by omega⟩
            exact y_mono (ih 1 (jj + 1) (by omega) (by omega) (by decide) (Or.inl ⟨rfl, hK⟩) hx2) (by omega)
set_option maxRecDepth 100000 in
set_option maxHeartbeats 4000000 in
theorem lq_isLedTo (hM : MdS S) {x : Int} (hx : (-2147483648 ≤ x ∧ x < 2147483648)) (hn : 0 ≤ V 171 1 ∧ V 171 1 ≤ 8) (hL : ∀ b : Nat, (b : Int) < V 171 1 → ∀ t : Nat, t < 16 → 0 ≤ V 171 (1552 + 16 * b + t) ∧ V 171 (1552 + 16 * b + t) ≤ 7) (k1 : (∃ b : Nat, (b : Int) < V 171 1 ∧ (b : Int) ≠ x ∧ ∃ t : Nat, t < 16 ∧ V 171 (1552 + 16 * b + t) = x) → K u w (some (iv 1)) S V) (k0 : (∀ b : Nat, (b : Int) < V 171 1 → (b : Int) ≠ x → ∀ t : Nat, t < 16 → V 171 (1552 + 16 * b + t) ≠ x) → K u w (some (iv 0)) S V) {F : Nat} : ∀ (m : Nat) (r : Int) (i : Nat), 8 - i < m → ((i : Int) ≤ V 171 1) → (0 ≤ r ∧ r ≤ 1) → ((r = 1 ∧ ∃ b : Nat, (b : Int) < V 171 1 ∧ (b : Int) ≠ x ∧ ∃ t : Nat, t < 16 ∧ V 171 (1552 + 16 * b + t) = x) ∨ (r = 0 ∧ (∀ b : Nat, b < i → (b : Int) ≠ x → ∀ t : Nat, t < 16 → V 171 (1552 + 16 * b + t) ≠ x))) → y_E X 0 141 (800 * m + F) u w 4 [(0, .ref 170), (1, iv x), (2, iv r), (3, iv (i : Int))] [] S V K := by
  intro m
  induction m with
  | zero => intros; omega
  | succ m ih =>
    intro r i hm hI hr hJ 
    refine y_mono (F' := (800 * m + F) + 800) ?_ (by omega)
    refine y_ld (x := iv (i : Int)) rfl rfl (fun d => rfl) ?_
    refine y_ld (x := .ref 170) rfl rfl (fun d => rfl) ?_
    refine y_gR (i := 1) rfl rfl rfl (md170 hM) rfl ?_
    refine y_ic rfl rfl ?_
    refine y_ild (x := (V 171 1)) (q := 1) rfl rfl (md171 hM) (by decide) (by decide) rfl rfl ?_
    refine y_jge rfl rfl rfl (by omega) (fun g1 => ?_) (fun g1 => ?_)
    · refine y_ld (x := iv r) rfl rfl (fun d => rfl) ?_
      refine y_rI rfl (by omega) ?_
      rcases hJ with ⟨rfl, e⟩ | ⟨rfl, e⟩
      · exact k1 e
      · exact k0 (fun t ht => e t (by omega))
    · refine y_ic rfl rfl ?_
      refine y_st (lv' := [(4, iv 0), (0, .ref 170), (1, iv x), (2, iv r), (3, iv (i : Int))]) rfl rfl (fun d => rfl) ?_
      refine y_lv (l' := [(0, .ref 170), (1, iv x), (2, iv r), (3, iv (i : Int)), (4, iv ((0 : Nat) : Int))]) rfl ⟨rfl, rfl, rfl, rfl, rfl, trivial⟩ ?_
      refine y_mono (lq_isLedToI (F := 800 * m + F + 50) hM hx hn hL (i := i) (by omega) 17 r 0 (by omega) (by omega) hr (hJ.imp id (fun h => ⟨h.1, h.2, fun t ht => absurd ht (Nat.not_lt_zero t)⟩)) ?_) (by omega)
      intro r2 hr2 hJ2
      refine y_inc (z := ((i + 1 : Nat) : Int)) (lv' := [(3, iv ((i + 1 : Nat) : Int)), (0, .ref 170), (1, iv x), (2, iv r2)]) rfl rfl rfl (by omega) rfl ?_
      refine y_go rfl rfl ?_
      refine y_lv (l' := [(0, .ref 170), (1, iv x), (2, iv r2), (3, iv ((i + 1 : Nat) : Int))]) rfl ⟨rfl, rfl, rfl, rfl, trivial⟩ ?_
      exact y_mono (ih r2 (i + 1) (by clear hJ2 hJ; omega) (by clear hJ2 hJ; omega) hr2 hJ2) (by clear hJ2 hJ; omega)
set_option maxRecDepth 100000 in
set_option maxHeartbeats 4000000 in
theorem ct_isLedTo (hM : MdS S) {x : Int} (hx : (-2147483648 ≤ x ∧ x < 2147483648)) (hn : 0 ≤ V 171 1 ∧ V 171 1 ≤ 8) (hL : ∀ b : Nat, (b : Int) < V 171 1 → ∀ t : Nat, t < 16 → 0 ≤ V 171 (1552 + 16 * b + t) ∧ V 171 (1552 + 16 * b + t) ≤ 7) (k1 : (∃ b : Nat, (b : Int) < V 171 1 ∧ (b : Int) ≠ x ∧ ∃ t : Nat, t < 16 ∧ V 171 (1552 + 16 * b + t) = x) → K u w (some (iv 1)) S V) (k0 : (∀ b : Nat, (b : Int) < V 171 1 → (b : Int) ≠ x → ∀ t : Nat, t < 16 → V 171 (1552 + 16 * b + t) ≠ x) → K u w (some (iv 0)) S V) : y_R X 1 141 u w [.ref 170, iv x] S V K := by
  refine y_ent (lv' := [(0, .ref 170), (1, iv x)]) (Nat.le_of_ble_eq_true rfl) rfl ?_
  refine y_ic rfl rfl ?_
  refine y_st (lv' := [(2, iv 0), (0, .ref 170), (1, iv x)]) rfl rfl (fun d => rfl) ?_
  refine y_ic rfl rfl ?_
  refine y_st (lv' := [(3, iv 0), (2, iv 0), (0, .ref 170), (1, iv x)]) rfl rfl (fun d => rfl) ?_
  refine y_lv (l' := [(0, .ref 170), (1, iv x), (2, iv 0), (3, iv 0)]) rfl ⟨rfl, rfl, rfl, rfl, trivial⟩ ?_
  exact y_mono (lq_isLedTo (F := 100) hM hx hn hL k1 k0 9 0 0 (by omega) (by omega) (by decide) (Or.inr ⟨rfl, fun t ht => absurd ht (Nat.not_lt_zero t)⟩)) (by decide)
end
