/-! part, whole, fall: the reference -/
theorem n_xorm {n : Nat} (h : n < 2 ^ 32) : n ^^^ 4294967295 = 2 ^ 32 - (n + 1) := by
  apply Nat.eq_of_testBit_eq
  intro i
  rw [Nat.testBit_two_pow_sub_succ h, show (4294967295 : Nat) = 2 ^ 32 - 1 by decide, Nat.testBit_xor, Nat.testBit_two_pow_sub_one]
  by_cases hi : i < 32
  · simp [hi]
  · have : n.testBit i = false := Nat.testBit_lt_two_pow (Nat.lt_of_lt_of_le h (Nat.pow_le_pow_right (by decide) (by omega)))
    simp [hi, this]
theorem v_not {x : Int} (hx : 0 ≤ x ∧ x < 2147483648) : Int32.ofInt x ^^^ Int32.ofInt (-1) = Int32.ofInt (4294967295 - x) := by
  rw [show Int32.ofInt (-1) = Int32.ofInt 4294967295 by decide, v_xor hx.1 (by decide)]
  congr 1
  show ((x.toNat ^^^ 4294967295 : Nat) : Int) = _
  rw [n_xorm (by omega)]
  omega
def v_x2 (x : Int) (c : Nat) : Int := ((x.toNat &&& (2 ^ 32 - (2 ^ c + 1)) : Nat) : Int)
theorem v_x2_rg {x : Int} (hx : 0 ≤ x ∧ x < 65536) (c : Nat) : 0 ≤ v_x2 x c ∧ v_x2 x c < 65536 := by
  have h : x.toNat &&& (2 ^ 32 - (2 ^ c + 1)) ≤ x.toNat := Nat.and_le_left
  unfold v_x2
  omega
theorem v_andn {x : Int} (hx : 0 ≤ x ∧ x < 65536) {c : Nat} (hc : c < 16) : Int32.ofInt x &&& Int32.ofInt (4294967295 - 2 ^ c) = Int32.ofInt (v_x2 x c) := by
  have hp := v_p2 c
  have hp3 : (2 : Int) ^ c ≤ 32768 := z_p2le hc
  rw [v_and hx.1 (by omega)]
  unfold v_x2
  congr 4
  have e : (2 : Int) ^ c = ((2 ^ c : Nat) : Int) := by rw [Int.natCast_pow]; rfl
  rw [e] at hp3 ⊢
  have : (2 ^ 32 : Nat) = 4294967296 := by decide
  omega
theorem v_x2_bit {x : Int} (hx : 0 ≤ x ∧ x < 65536) {c : Nat} (hc : c < 16) (t : Nat) : v_x2 x c / 2 ^ t % 2 = if t = c then 0 else x / 2 ^ t % 2 := by
  rw [v_bitI (v_x2_rg hx c).1, v_bitI hx.1]
  unfold v_x2
  rw [Int.toNat_natCast, Nat.testBit_and, Nat.testBit_two_pow_sub_succ (Nat.pow_lt_pow_right (by decide) (by omega)), Nat.testBit_two_pow]
  by_cases h : t = c
  · subst h
    simp
  · rw [if_neg h]
    by_cases ht : t < 32
    · simp [ht, show ¬ c = t from fun e => h e.symm]
    · have : x.toNat.testBit t = false := Nat.testBit_lt_two_pow (Nat.lt_of_lt_of_le (show x.toNat < 2 ^ 16 by omega) (Nat.pow_le_pow_right (by decide) (by omega)))
      simp [this]
theorem v_and16 {x : Int} (hx : 0 ≤ x ∧ x < 65536) : Int32.ofInt x &&& Int32.ofInt 65535 = Int32.ofInt x := by
  rw [v_and hx.1 (by decide)]
  congr 1
  show ((x.toNat &&& 2 ^ 16 - 1 : Nat) : Int) = _
  rw [Nat.and_two_pow_sub_one_eq_mod, Nat.mod_eq_of_lt (by omega)]
  omega
theorem z_65535 : ∀ t : Nat, t < 16 → (65535 : Int) / 2 ^ t % 2 = 1 := by decide
/-- as tuB, so far -/
def tuM (σ : Nat → Int) (b k t : Nat) (v : Int) : Prop := ((∀ d : Nat, d < 4 → 4 * t + d < k → σ (200 + 84 * b + (4 * t + d)) = σ (880 + 84 * b + (4 * t + d))) → v = 1) ∧ (¬ (∀ d : Nat, d < 4 → 4 * t + d < k → σ (200 + 84 * b + (4 * t + d)) = σ (880 + 84 * b + (4 * t + d))) → v = 0)
theorem tuM_B {σ : Nat → Int} {b k t : Nat} {v : Int} (hk : 64 ≤ k) (ht : t < 16) (h : tuM σ b k t v) : tuB σ b 16 t v :=
  ⟨fun q => h.1 (fun d hd _ => q.2 d hd), fun q => h.2 (fun f => q ⟨ht, fun d hd => f d hd (by omega)⟩)⟩
def whQ (σ : Nat → Int) (a b c p : Nat) : Prop := (p < 64 → σ (200 + 84 * c + p) = σ (200 + 84 * (σ (1552 + 16 * a + p / 4)).toNat + p)) ∧ (64 ≤ p → σ (200 + 84 * c + p) = wr (σ (200 + 84 * a + p) + σ (200 + 84 * b + p)))
theorem whQ_P {σ : Nat → Int} {a b c : Nat} : whP σ a b c ↔ ∀ p : Nat, p < 84 → whQ σ a b c p :=
  ⟨fun h p hp => ⟨fun q => h.1 p q, fun q => h.2 p q hp⟩, fun h => ⟨fun p hp => (h p (by omega)).1 hp, fun p q hp => (h p hp).2 q⟩⟩
section
variable {X : Nat → List Int32} {u w : Nat} {S : m_H} {V : v_V} {K : v_K}
set_option maxRecDepth 100000 in
set_option maxHeartbeats 4000000 in
theorem ms_part (hM : MdS S) {tl : Nat → List p_Li} {cnt : Nat} (hSO : SO cnt (V 171)) (hTO : ∀ i : Nat, (i : Int) < V 171 0 → TO (tl i)) (hMTs : ∀ i : Nat, (i : Int) < V 171 0 → MT V i (tl i)) {x : Int} (hx : (-2147483648 ≤ x ∧ x < 2147483648)) {y : Int} (hy : (-2147483648 ≤ y ∧ y < 2147483648)) {d : Int} (hd : (-2147483648 ≤ d ∧ d < 2147483648)) {q : Int} (hq : (-2147483648 ≤ q ∧ q < 2147483648)) (k0 : ¬ ((0 ≤ x ∧ x < V 171 0) ∧ (0 ≤ y ∧ y ≤ 1) ∧ (0 ≤ d ∧ d ≤ 3) ∧ (0 ≤ q ∧ q ≤ 1)) → K u w (some (iv (-1))) S V) (k1 : (0 ≤ x ∧ x < V 171 0) ∧ (0 ≤ y ∧ y ≤ 1) ∧ (0 ≤ d ∧ d ≤ 3) ∧ (0 ≤ q ∧ q ≤ 1) → K u w (some (iv (ptA (gP (tl x.toNat) (y * 4 + d).toNat) q))) S V) : y_R X 3 126 u w [.ref 170, iv x, iv y, iv d, iv q] S V K := by
  have hsz := hSO.1
  have hT : 0 ≤ V 171 0 ∧ V 171 0 ≤ 8 := by omega
  refine y_ent (lv' := [(0, .ref 170), (1, iv x), (2, iv y), (3, iv d), (4, iv q)]) (Nat.le_of_ble_eq_true rfl) rfl ?_
  refine y_ld (x := .ref 170) rfl rfl (fun d => rfl) ?_
  refine y_ld (x := iv x) rfl rfl (fun d => rfl) ?_
  refine y_cV (as := [.ref 170, iv x]) rfl rfl rfl rfl rfl (md170 hM) ⟨rfl, (Nat.le_of_ble_eq_true rfl), (Nat.le_of_ble_eq_true rfl)⟩ (by decide) (ct_isText hM (by omega) ⟨rfl, by omega⟩ ?_)
  refine y_nv ?_
  refine y_beq rfl rfl rfl (fun g1 => ?_) (fun g1 => ?_)
  · refine y_ic rfl rfl ?_
    refine y_rI rfl (Or.inl rfl) ?_
    exact k0 (by omega)
  · refine y_ld (x := iv y) rfl rfl (fun d => rfl) ?_
    refine y_ic rfl rfl ?_
    refine y_ic rfl rfl ?_
    refine y_cS (as := [iv y, iv 0, iv 1]) rfl (by decide) rfl rfl rfl rfl ⟨(Nat.le_of_ble_eq_true rfl), (Nat.le_of_ble_eq_true rfl)⟩ (by decide) (ct_in (by omega) ?_)
    refine y_nv ?_
    refine y_beq rfl rfl rfl (fun g2 => ?_) (fun g2 => ?_)
    · refine y_ic rfl rfl ?_
      refine y_rI rfl (Or.inl rfl) ?_
      exact k0 (by omega)
    · refine y_ld (x := iv d) rfl rfl (fun d => rfl) ?_
      refine y_cS (as := [iv d]) rfl (by decide) rfl rfl rfl rfl ⟨(Nat.le_of_ble_eq_true rfl), (Nat.le_of_ble_eq_true rfl)⟩ (by decide) (ct_isFour (by omega) ?_)
      refine y_nv ?_
      refine y_beq rfl rfl rfl (fun g3 => ?_) (fun g3 => ?_)
      · refine y_ic rfl rfl ?_
        refine y_rI rfl (Or.inl rfl) ?_
        exact k0 (by omega)
      · refine y_ld (x := iv q) rfl rfl (fun d => rfl) ?_
        refine y_ic rfl rfl ?_
        refine y_ic rfl rfl ?_
        refine y_cS (as := [iv q, iv 0, iv 1]) rfl (by decide) rfl rfl rfl rfl ⟨(Nat.le_of_ble_eq_true rfl), (Nat.le_of_ble_eq_true rfl)⟩ (by decide) (ct_in (by omega) ?_)
        refine y_nv ?_
        refine y_bne rfl rfl rfl (fun g4 => ?_) (fun g4 => ?_)
        · refine y_ld (x := .ref 170) rfl rfl (fun d => rfl) ?_
          refine y_gR (i := 8) rfl rfl rfl (md170 hM) rfl ?_
          refine y_bi rfl rfl (by decide) ?_
          refine y_ld (x := iv x) rfl rfl (fun d => rfl) ?_
          refine y_mul (z := (8 * x)) rfl rfl rfl ?_
          refine y_ic rfl rfl ?_
          refine y_ld (x := iv y) rfl rfl (fun d => rfl) ?_
          refine y_mul (z := (4 * y)) rfl rfl rfl ?_
          refine y_add (z := ((8 * x) + (4 * y))) rfl rfl rfl ?_
          refine y_ld (x := iv d) rfl rfl (fun d => rfl) ?_
          refine y_add (z := (((8 * x) + (4 * y)) + d)) rfl rfl rfl ?_
          refine y_ild (x := (V 177 (8 * x.toNat + (y * 4 + d).toNat))) (q := (8 * x.toNat + (y * 4 + d).toNat)) rfl rfl (md177 hM) (by omega) (by decide) (by omega) rfl ?_
          refine y_st (lv' := [(5, iv (V 177 (8 * x.toNat + (y * 4 + d).toNat))), (0, .ref 170), (1, iv x), (2, iv y), (3, iv d), (4, iv q)]) rfl rfl (fun d => rfl) ?_
          have hl := hTO x.toNat (by omega)
          have hMx := hMTs x.toNat (by omega)
          have e7 : V 177 (8 * x.toNat + (y * 4 + d).toNat) = mkP 0 (fun _ => 0) (tl x.toNat) (y * 4 + d).toNat := hMx.2.2.2.2 _ (by omega)
          have hg : 0 ≤ mkP 0 (fun _ => 0) (tl x.toNat) (y * 4 + d).toNat ∧ mkP 0 (fun _ => 0) (tl x.toNat) (y * 4 + d).toNat ≤ 10 := gP_rg hl (by omega)
          refine y_ld (x := iv q) rfl rfl (fun d => rfl) ?_
          refine y_zne rfl rfl rfl (by omega) (fun g5 => ?_) (fun g5 => ?_)
          · refine y_ld (x := iv (V 177 (8 * x.toNat + (y * 4 + d).toNat))) rfl rfl (fun d => rfl) ?_
            refine y_ic rfl rfl ?_
            refine y_jle rfl rfl rfl (by omega) (fun g6 => ?_) (fun g6 => ?_)
            · refine y_bi rfl rfl (by decide) ?_
              refine y_rI rfl (Or.inl rfl) ?_
              have k2 := k1 (by omega)
              have e9 : ptA (mkP 0 (fun _ => 0) (tl x.toNat) (y * 4 + d).toNat) q = -5 := by
                unfold ptA
                rw [if_pos (by omega), if_neg (by omega)]
              rwa [e9] at k2
            · refine y_ld (x := iv (V 177 (8 * x.toNat + (y * 4 + d).toNat))) rfl rfl (fun d => rfl) ?_
              refine y_ic rfl rfl ?_
              refine y_sub (z := ((V 177 (8 * x.toNat + (y * 4 + d).toNat)) - 2)) rfl rfl rfl ?_
              refine y_go rfl rfl ?_
              refine y_rI rfl (Or.inl rfl) ?_
              have k2 := k1 (by omega)
              have e9 : ptA (mkP 0 (fun _ => 0) (tl x.toNat) (y * 4 + d).toNat) q = (V 177 (8 * x.toNat + (y * 4 + d).toNat)) - 2 := by
                unfold ptA
                rw [if_pos (by omega), if_pos (by omega), e7]
              rwa [e9] at k2
          · refine y_ld (x := iv (V 177 (8 * x.toNat + (y * 4 + d).toNat))) rfl rfl (fun d => rfl) ?_
            refine y_ic rfl rfl ?_
            refine y_jle rfl rfl rfl (by omega) (fun g7 => ?_) (fun g7 => ?_)
            · refine y_ld (x := iv (V 177 (8 * x.toNat + (y * 4 + d).toNat))) rfl rfl (fun d => rfl) ?_
              refine y_go rfl rfl ?_
              refine y_rI rfl (Or.inl rfl) ?_
              have k2 := k1 (by omega)
              have e9 : ptA (mkP 0 (fun _ => 0) (tl x.toNat) (y * 4 + d).toNat) q = V 177 (8 * x.toNat + (y * 4 + d).toNat) := by
                unfold ptA
                rw [if_neg (by omega), e7]
                by_cases h2 : 1 < mkP 0 (fun _ => 0) (tl x.toNat) (y * 4 + d).toNat
                · rw [if_pos h2]; omega
                · rw [if_neg h2]; split <;> omega
              rwa [e9] at k2
            · refine y_ic rfl rfl ?_
              refine y_go rfl rfl ?_
              refine y_rI rfl (Or.inl rfl) ?_
              have k2 := k1 (by omega)
              have e9 : ptA (mkP 0 (fun _ => 0) (tl x.toNat) (y * 4 + d).toNat) q = 2 := by
                unfold ptA
                rw [if_neg (by omega), if_pos (by omega)]
              rwa [e9] at k2
        · refine y_ic rfl rfl ?_
          refine y_rI rfl (Or.inl rfl) ?_
          exact k0 (by omega)
set_option maxRecDepth 100000 in
set_option maxHeartbeats 4000000 in
theorem lq_whole (hM : MdS S) {cnt : Nat} (hSO : SO cnt (V 171)) {x y q : Int} (hx : 0 ≤ x ∧ x < V 171 1) (hy : 0 ≤ y ∧ y < V 171 1) (hq : 0 ≤ q ∧ q < V 171 1) (k2 : whP (V 171) x.toNat y.toNat q.toNat → K u w (some (iv 1)) S V) (k3 : ¬ whP (V 171) x.toNat y.toNat q.toNat → K u w (some (iv 0)) S V) {F : Nat} : ∀ (m : Nat) (k : Nat) (e : Int), 84 - k < m → (k ≤ 84) → ((e = 1 ∧ ∀ p : Nat, p < k → whQ (V 171) x.toNat y.toNat q.toNat p) ∨ (e = 0 ∧ ¬ ∀ p : Nat, p < k → whQ (V 171) x.toNat y.toNat q.toNat p)) → y_E X 3 150 (100 * m + F) u w 50 [(0, .ref 170), (1, iv x), (2, iv y), (3, iv q), (4, iv e), (5, iv (k : Int))] [] S V K := by
  intro m
  induction m with
  | zero => intros; omega
  | succ m ih =>
    intro k e hm hI hJ 
    refine y_mono (F' := (100 * m + F) + 100) ?_ (by omega)
    refine y_ld (x := iv (k : Int)) rfl rfl (fun d => rfl) ?_
    refine y_bi rfl rfl (by decide) ?_
    refine y_jge rfl rfl rfl (by omega) (fun g1 => ?_) (fun g1 => ?_)
    · obtain rfl : k = 84 := by omega
      rcases hJ with ⟨rfl, hJ⟩ | ⟨rfl, hJ⟩
      · refine y_ld (x := iv 1) rfl rfl (fun d => rfl) ?_
        refine y_zeq rfl rfl rfl (by decide) (fun g2 => absurd g2 (by decide)) (fun g2 => ?_)
        refine y_ic rfl rfl ?_
        refine y_go rfl rfl ?_
        refine y_rI rfl (Or.inl rfl) ?_
        exact k2 (whQ_P.mpr hJ)
      · refine y_ld (x := iv 0) rfl rfl (fun d => rfl) ?_
        refine y_zeq rfl rfl rfl (by decide) (fun g3 => ?_) (fun g3 => absurd g3 (by decide))
        refine y_ic rfl rfl ?_
        refine y_rI rfl (Or.inl rfl) ?_
        exact k3 (fun h => hJ (whQ_P.mp h))
    · have hsz := hSO.1
      have hra := (hSO.2.2.1 x.toNat (by omega)).2.2.2.2.1
      have hrb := (hSO.2.2.1 y.toNat (by omega)).2.2.2.2.1
      have hrc := (hSO.2.2.1 q.toNat (by omega)).2.2.2.2.1 k (by omega)
      have hrc2 : -2147483648 ≤ V 171 (200 + 84 * q.toNat + k) ∧ V 171 (200 + 84 * q.toNat + k) < 2147483648 := hrc
      rcases hJ with ⟨rfl, hJ⟩ | ⟨rfl, hJ⟩
      · refine y_ld (x := iv (k : Int)) rfl rfl (fun d => rfl) ?_
        refine y_bi rfl rfl (by decide) ?_
        refine y_jge rfl rfl rfl (by omega) (fun g4 => ?_) (fun g4 => ?_)
        · refine y_ld (x := .ref 170) rfl rfl (fun d => rfl) ?_
          refine y_gR (i := 1) rfl rfl rfl (md170 hM) rfl ?_
          refine y_si rfl rfl (by decide) ?_
          refine y_bi rfl rfl (by decide) ?_
          refine y_ld (x := iv x) rfl rfl (fun d => rfl) ?_
          refine y_mul (z := (84 * x)) rfl rfl rfl ?_
          refine y_add (z := (200 + (84 * x))) rfl rfl rfl ?_
          refine y_ld (x := iv (k : Int)) rfl rfl (fun d => rfl) ?_
          refine y_add (z := ((200 + (84 * x)) + (k : Int))) rfl rfl rfl ?_
          refine y_ild (x := (V 171 (200 + 84 * x.toNat + k))) (q := (200 + 84 * x.toNat + k)) rfl rfl (md171 hM) (by omega) (by decide) (by omega) rfl ?_
          refine y_ld (x := .ref 170) rfl rfl (fun d => rfl) ?_
          refine y_gR (i := 1) rfl rfl rfl (md170 hM) rfl ?_
          refine y_si rfl rfl (by decide) ?_
          refine y_bi rfl rfl (by decide) ?_
          refine y_ld (x := iv y) rfl rfl (fun d => rfl) ?_
          refine y_mul (z := (84 * y)) rfl rfl rfl ?_
          refine y_add (z := (200 + (84 * y))) rfl rfl rfl ?_
          refine y_ld (x := iv (k : Int)) rfl rfl (fun d => rfl) ?_
          refine y_add (z := ((200 + (84 * y)) + (k : Int))) rfl rfl rfl ?_
          refine y_ild (x := (V 171 (200 + 84 * y.toNat + k))) (q := (200 + 84 * y.toNat + k)) rfl rfl (md171 hM) (by omega) (by decide) (by omega) rfl ?_
          refine y_add (z := ((V 171 (200 + 84 * x.toNat + k)) + (V 171 (200 + 84 * y.toNat + k)))) rfl rfl rfl ?_
          refine y_top (wr_iv _) ?_
          have hw := wr_rg (V 171 (200 + 84 * x.toNat + k) + V 171 (200 + 84 * y.toNat + k))
          refine y_st (lv' := [(6, iv (wr (V 171 (200 + 84 * x.toNat + k) + V 171 (200 + 84 * y.toNat + k)))), (0, .ref 170), (1, iv x), (2, iv y), (3, iv q), (4, iv 1), (5, iv (k : Int))]) rfl rfl (fun d => rfl) ?_
          refine y_ld (x := iv 1) rfl rfl (fun d => rfl) ?_
          refine y_zeq rfl rfl rfl (by decide) (fun g5 => absurd g5 (by decide)) (fun g5 => ?_)
          refine y_ld (x := iv (wr (V 171 (200 + 84 * x.toNat + k) + V 171 (200 + 84 * y.toNat + k)))) rfl rfl (fun d => rfl) ?_
          refine y_ld (x := .ref 170) rfl rfl (fun d => rfl) ?_
          refine y_gR (i := 1) rfl rfl rfl (md170 hM) rfl ?_
          refine y_si rfl rfl (by decide) ?_
          refine y_bi rfl rfl (by decide) ?_
          refine y_ld (x := iv q) rfl rfl (fun d => rfl) ?_
          refine y_mul (z := (84 * q)) rfl rfl rfl ?_
          refine y_add (z := (200 + (84 * q))) rfl rfl rfl ?_
          refine y_ld (x := iv (k : Int)) rfl rfl (fun d => rfl) ?_
          refine y_add (z := ((200 + (84 * q)) + (k : Int))) rfl rfl rfl ?_
          refine y_ild (x := (V 171 (200 + 84 * q.toNat + k))) (q := (200 + 84 * q.toNat + k)) rfl rfl (md171 hM) (by omega) (by decide) (by omega) rfl ?_
          refine y_jne rfl rfl rfl (by omega) (fun g6 => ?_) (fun g6 => ?_)
          · refine y_ic rfl rfl ?_
            refine y_st (lv' := [(4, iv 0), (6, iv (wr (V 171 (200 + 84 * x.toNat + k) + V 171 (200 + 84 * y.toNat + k)))), (0, .ref 170), (1, iv x), (2, iv y), (3, iv q), (5, iv (k : Int))]) rfl rfl (fun d => rfl) ?_
            refine y_inc (z := ((k + 1 : Nat) : Int)) (lv' := [(5, iv ((k + 1 : Nat) : Int)), (4, iv 0), (6, iv (wr (V 171 (200 + 84 * x.toNat + k) + V 171 (200 + 84 * y.toNat + k)))), (0, .ref 170), (1, iv x), (2, iv y), (3, iv q)]) rfl rfl rfl (by omega) rfl ?_
            refine y_go rfl rfl ?_
            refine y_lv (l' := [(0, .ref 170), (1, iv x), (2, iv y), (3, iv q), (4, iv 0), (5, iv ((k + 1 : Nat) : Int))]) rfl ⟨rfl, rfl, rfl, rfl, rfl, rfl, trivial⟩ ?_
            have hq : ¬ whQ (V 171) x.toNat y.toNat q.toNat k := fun hq => (by have h2 := hq.2 (by omega); omega)
            exact y_mono (ih (k + 1) 0 (by omega) (by omega) (Or.inr ⟨rfl, fun hf => hq (hf k (by omega))⟩)) (by omega)
          · refine y_ic rfl rfl ?_
            refine y_go rfl rfl ?_
            refine y_st (lv' := [(4, iv 1), (6, iv (wr (V 171 (200 + 84 * x.toNat + k) + V 171 (200 + 84 * y.toNat + k)))), (0, .ref 170), (1, iv x), (2, iv y), (3, iv q), (5, iv (k : Int))]) rfl rfl (fun d => rfl) ?_
            refine y_inc (z := ((k + 1 : Nat) : Int)) (lv' := [(5, iv ((k + 1 : Nat) : Int)), (4, iv 1), (6, iv (wr (V 171 (200 + 84 * x.toNat + k) + V 171 (200 + 84 * y.toNat + k)))), (0, .ref 170), (1, iv x), (2, iv y), (3, iv q)]) rfl rfl rfl (by omega) rfl ?_
            refine y_go rfl rfl ?_
            refine y_lv (l' := [(0, .ref 170), (1, iv x), (2, iv y), (3, iv q), (4, iv 1), (5, iv ((k + 1 : Nat) : Int))]) rfl ⟨rfl, rfl, rfl, rfl, rfl, rfl, trivial⟩ ?_
            have hq : whQ (V 171) x.toNat y.toNat q.toNat k := ⟨fun h => absurd h (by omega), fun _ => by omega⟩
            exact y_mono (ih (k + 1) 1 (by omega) (by omega) (Or.inl ⟨rfl, fun p hp => by rcases (show p < k ∨ p = k by omega) with h | h; exact hJ p h; exact h ▸ hq⟩)) (by omega)
        · have hL := hSO.2.2.2.1 x.toNat (by omega) (k / 4) (by omega)
          have hl1 := hL.2.2 (by omega)
          obtain ⟨c, hc⟩ : ∃ c : Nat, V 171 (1552 + 16 * x.toNat + k / 4) = (c : Int) := ⟨(V 171 (1552 + 16 * x.toNat + k / 4)).toNat, by omega⟩
          have hrd := (hSO.2.2.1 c (by omega)).2.2.2.2.1 k (by omega)
          have hrd2 : -2147483648 ≤ V 171 (200 + 84 * c + k) ∧ V 171 (200 + 84 * c + k) < 2147483648 := hrd
          refine y_ld (x := .ref 170) rfl rfl (fun d => rfl) ?_
          refine y_gR (i := 1) rfl rfl rfl (md170 hM) rfl ?_
          refine y_si rfl rfl (by decide) ?_
          refine y_bi rfl rfl (by decide) ?_
          refine y_ld (x := .ref 170) rfl rfl (fun d => rfl) ?_
          refine y_gR (i := 1) rfl rfl rfl (md170 hM) rfl ?_
          refine y_si rfl rfl (by decide) ?_
          refine y_bi rfl rfl (by decide) ?_
          refine y_ld (x := iv x) rfl rfl (fun d => rfl) ?_
          refine y_mul (z := (16 * x)) rfl rfl rfl ?_
          refine y_add (z := (1552 + (16 * x))) rfl rfl rfl ?_
          refine y_ld (x := iv (k : Int)) rfl rfl (fun d => rfl) ?_
          refine y_ic rfl rfl ?_
          refine y_op (z := ((k / 4 : Nat) : Int)) rfl rfl (fun d => rfl) ((v_div (by omega) (by decide)).trans (congrArg Int32.ofInt (by omega))) ?_
          refine y_add (z := ((1552 + (16 * x)) + ((k / 4 : Nat) : Int))) rfl rfl rfl ?_
          refine y_ild (x := (c : Int)) (q := (1552 + 16 * x.toNat + k / 4)) rfl rfl (md171 hM) (by omega) (by decide) (by omega) hc ?_
          refine y_mul (z := (84 * (c : Int))) rfl rfl rfl ?_
          refine y_add (z := (200 + (84 * (c : Int)))) rfl rfl rfl ?_
          refine y_ld (x := iv (k : Int)) rfl rfl (fun d => rfl) ?_
          refine y_add (z := ((200 + (84 * (c : Int))) + (k : Int))) rfl rfl rfl ?_
          refine y_ild (x := (V 171 (200 + 84 * c + k))) (q := (200 + 84 * c + k)) rfl rfl (md171 hM) (by omega) (by decide) (by omega) rfl ?_
          refine y_go rfl rfl ?_
          refine y_st (lv' := [(6, iv (V 171 (200 + 84 * c + k))), (0, .ref 170), (1, iv x), (2, iv y), (3, iv q), (4, iv 1), (5, iv (k : Int))]) rfl rfl (fun d => rfl) ?_
          refine y_ld (x := iv 1) rfl rfl (fun d => rfl) ?_
          refine y_zeq rfl rfl rfl (by decide) (fun g7 => absurd g7 (by decide)) (fun g7 => ?_)
          refine y_ld (x := iv (V 171 (200 + 84 * c + k))) rfl rfl (fun d => rfl) ?_
          refine y_ld (x := .ref 170) rfl rfl (fun d => rfl) ?_
          refine y_gR (i := 1) rfl rfl rfl (md170 hM) rfl ?_
          refine y_si rfl rfl (by decide) ?_
          refine y_bi rfl rfl (by decide) ?_
          refine y_ld (x := iv q) rfl rfl (fun d => rfl) ?_
          refine y_mul (z := (84 * q)) rfl rfl rfl ?_
          refine y_add (z := (200 + (84 * q))) rfl rfl rfl ?_
          refine y_ld (x := iv (k : Int)) rfl rfl (fun d => rfl) ?_
          refine y_add (z := ((200 + (84 * q)) + (k : Int))) rfl rfl rfl ?_
          refine y_ild (x := (V 171 (200 + 84 * q.toNat + k))) (q := (200 + 84 * q.toNat + k)) rfl rfl (md171 hM) (by omega) (by decide) (by omega) rfl ?_
          refine y_jne rfl rfl rfl (by omega) (fun g8 => ?_) (fun g8 => ?_)
          · refine y_ic rfl rfl ?_
            refine y_st (lv' := [(4, iv 0), (6, iv (V 171 (200 + 84 * c + k))), (0, .ref 170), (1, iv x), (2, iv y), (3, iv q), (5, iv (k : Int))]) rfl rfl (fun d => rfl) ?_
            refine y_inc (z := ((k + 1 : Nat) : Int)) (lv' := [(5, iv ((k + 1 : Nat) : Int)), (4, iv 0), (6, iv (V 171 (200 + 84 * c + k))), (0, .ref 170), (1, iv x), (2, iv y), (3, iv q)]) rfl rfl rfl (by omega) rfl ?_
            refine y_go rfl rfl ?_
            refine y_lv (l' := [(0, .ref 170), (1, iv x), (2, iv y), (3, iv q), (4, iv 0), (5, iv ((k + 1 : Nat) : Int))]) rfl ⟨rfl, rfl, rfl, rfl, rfl, rfl, trivial⟩ ?_
            have hq : ¬ whQ (V 171) x.toNat y.toNat q.toNat k := fun hq => (by have h2 := hq.1 (by omega); rw [hc, Int.toNat_natCast] at h2; omega)
            exact y_mono (ih (k + 1) 0 (by omega) (by omega) (Or.inr ⟨rfl, fun hf => hq (hf k (by omega))⟩)) (by omega)
          · refine y_ic rfl rfl ?_
            refine y_go rfl rfl ?_
            refine y_st (lv' := [(4, iv 1), (6, iv (V 171 (200 + 84 * c + k))), (0, .ref 170), (1, iv x), (2, iv y), (3, iv q), (5, iv (k : Int))]) rfl rfl (fun d => rfl) ?_
            refine y_inc (z := ((k + 1 : Nat) : Int)) (lv' := [(5, iv ((k + 1 : Nat) : Int)), (4, iv 1), (6, iv (V 171 (200 + 84 * c + k))), (0, .ref 170), (1, iv x), (2, iv y), (3, iv q)]) rfl rfl rfl (by omega) rfl ?_
            refine y_go rfl rfl ?_
            refine y_lv (l' := [(0, .ref 170), (1, iv x), (2, iv y), (3, iv q), (4, iv 1), (5, iv ((k + 1 : Nat) : Int))]) rfl ⟨rfl, rfl, rfl, rfl, rfl, rfl, trivial⟩ ?_
            have hq : whQ (V 171) x.toNat y.toNat q.toNat k := ⟨fun _ => by rw [hc, Int.toNat_natCast]; omega, fun h => absurd h (by omega)⟩
            exact y_mono (ih (k + 1) 1 (by omega) (by omega) (Or.inl ⟨rfl, fun p hp => by rcases (show p < k ∨ p = k by omega) with h | h; exact hJ p h; exact h ▸ hq⟩)) (by omega)
      · refine y_ld (x := iv (k : Int)) rfl rfl (fun d => rfl) ?_
        refine y_bi rfl rfl (by decide) ?_
        refine y_jge rfl rfl rfl (by omega) (fun g9 => ?_) (fun g9 => ?_)
        · refine y_ld (x := .ref 170) rfl rfl (fun d => rfl) ?_
          refine y_gR (i := 1) rfl rfl rfl (md170 hM) rfl ?_
          refine y_si rfl rfl (by decide) ?_
          refine y_bi rfl rfl (by decide) ?_
          refine y_ld (x := iv x) rfl rfl (fun d => rfl) ?_
          refine y_mul (z := (84 * x)) rfl rfl rfl ?_
          refine y_add (z := (200 + (84 * x))) rfl rfl rfl ?_
          refine y_ld (x := iv (k : Int)) rfl rfl (fun d => rfl) ?_
          refine y_add (z := ((200 + (84 * x)) + (k : Int))) rfl rfl rfl ?_
          refine y_ild (x := (V 171 (200 + 84 * x.toNat + k))) (q := (200 + 84 * x.toNat + k)) rfl rfl (md171 hM) (by omega) (by decide) (by omega) rfl ?_
          refine y_ld (x := .ref 170) rfl rfl (fun d => rfl) ?_
          refine y_gR (i := 1) rfl rfl rfl (md170 hM) rfl ?_
          refine y_si rfl rfl (by decide) ?_
          refine y_bi rfl rfl (by decide) ?_
          refine y_ld (x := iv y) rfl rfl (fun d => rfl) ?_
          refine y_mul (z := (84 * y)) rfl rfl rfl ?_
          refine y_add (z := (200 + (84 * y))) rfl rfl rfl ?_
          refine y_ld (x := iv (k : Int)) rfl rfl (fun d => rfl) ?_
          refine y_add (z := ((200 + (84 * y)) + (k : Int))) rfl rfl rfl ?_
          refine y_ild (x := (V 171 (200 + 84 * y.toNat + k))) (q := (200 + 84 * y.toNat + k)) rfl rfl (md171 hM) (by omega) (by decide) (by omega) rfl ?_
          refine y_add (z := ((V 171 (200 + 84 * x.toNat + k)) + (V 171 (200 + 84 * y.toNat + k)))) rfl rfl rfl ?_
          refine y_top (wr_iv _) ?_
          have hw := wr_rg (V 171 (200 + 84 * x.toNat + k) + V 171 (200 + 84 * y.toNat + k))
          refine y_st (lv' := [(6, iv (wr (V 171 (200 + 84 * x.toNat + k) + V 171 (200 + 84 * y.toNat + k)))), (0, .ref 170), (1, iv x), (2, iv y), (3, iv q), (4, iv 0), (5, iv (k : Int))]) rfl rfl (fun d => rfl) ?_
          refine y_ld (x := iv 0) rfl rfl (fun d => rfl) ?_
          refine y_zeq rfl rfl rfl (by decide) (fun g10 => ?_) (fun g10 => absurd g10 (by decide))
          refine y_ic rfl rfl ?_
          refine y_st (lv' := [(4, iv 0), (6, iv (wr (V 171 (200 + 84 * x.toNat + k) + V 171 (200 + 84 * y.toNat + k)))), (0, .ref 170), (1, iv x), (2, iv y), (3, iv q), (5, iv (k : Int))]) rfl rfl (fun d => rfl) ?_
          refine y_inc (z := ((k + 1 : Nat) : Int)) (lv' := [(5, iv ((k + 1 : Nat) : Int)), (4, iv 0), (6, iv (wr (V 171 (200 + 84 * x.toNat + k) + V 171 (200 + 84 * y.toNat + k)))), (0, .ref 170), (1, iv x), (2, iv y), (3, iv q)]) rfl rfl rfl (by omega) rfl ?_
          refine y_go rfl rfl ?_
          refine y_lv (l' := [(0, .ref 170), (1, iv x), (2, iv y), (3, iv q), (4, iv 0), (5, iv ((k + 1 : Nat) : Int))]) rfl ⟨rfl, rfl, rfl, rfl, rfl, rfl, trivial⟩ ?_
          exact y_mono (ih (k + 1) 0 (by omega) (by omega) (Or.inr ⟨rfl, fun hf => hJ (fun p hp => hf p (by omega))⟩)) (by omega)
        · have hL := hSO.2.2.2.1 x.toNat (by omega) (k / 4) (by omega)
          have hl1 := hL.2.2 (by omega)
          obtain ⟨c, hc⟩ : ∃ c : Nat, V 171 (1552 + 16 * x.toNat + k / 4) = (c : Int) := ⟨(V 171 (1552 + 16 * x.toNat + k / 4)).toNat, by omega⟩
          have hrd := (hSO.2.2.1 c (by omega)).2.2.2.2.1 k (by omega)
          have hrd2 : -2147483648 ≤ V 171 (200 + 84 * c + k) ∧ V 171 (200 + 84 * c + k) < 2147483648 := hrd
          refine y_ld (x := .ref 170) rfl rfl (fun d => rfl) ?_
          refine y_gR (i := 1) rfl rfl rfl (md170 hM) rfl ?_
          refine y_si rfl rfl (by decide) ?_
          refine y_bi rfl rfl (by decide) ?_
          refine y_ld (x := .ref 170) rfl rfl (fun d => rfl) ?_
          refine y_gR (i := 1) rfl rfl rfl (md170 hM) rfl ?_
          refine y_si rfl rfl (by decide) ?_
          refine y_bi rfl rfl (by decide) ?_
          refine y_ld (x := iv x) rfl rfl (fun d => rfl) ?_
          refine y_mul (z := (16 * x)) rfl rfl rfl ?_
          refine y_add (z := (1552 + (16 * x))) rfl rfl rfl ?_
          refine y_ld (x := iv (k : Int)) rfl rfl (fun d => rfl) ?_
          refine y_ic rfl rfl ?_
          refine y_op (z := ((k / 4 : Nat) : Int)) rfl rfl (fun d => rfl) ((v_div (by omega) (by decide)).trans (congrArg Int32.ofInt (by omega))) ?_
          refine y_add (z := ((1552 + (16 * x)) + ((k / 4 : Nat) : Int))) rfl rfl rfl ?_
          refine y_ild (x := (c : Int)) (q := (1552 + 16 * x.toNat + k / 4)) rfl rfl (md171 hM) (by omega) (by decide) (by omega) hc ?_
          refine y_mul (z := (84 * (c : Int))) rfl rfl rfl ?_
          refine y_add (z := (200 + (84 * (c : Int)))) rfl rfl rfl ?_
          refine y_ld (x := iv (k : Int)) rfl rfl (fun d => rfl) ?_
          refine y_add (z := ((200 + (84 * (c : Int))) + (k : Int))) rfl rfl rfl ?_
          refine y_ild (x := (V 171 (200 + 84 * c + k))) (q := (200 + 84 * c + k)) rfl rfl (md171 hM) (by omega) (by decide) (by omega) rfl ?_
          refine y_go rfl rfl ?_
          refine y_st (lv' := [(6, iv (V 171 (200 + 84 * c + k))), (0, .ref 170), (1, iv x), (2, iv y), (3, iv q), (4, iv 0), (5, iv (k : Int))]) rfl rfl (fun d => rfl) ?_
          refine y_ld (x := iv 0) rfl rfl (fun d => rfl) ?_
          refine y_zeq rfl rfl rfl (by decide) (fun g11 => ?_) (fun g11 => absurd g11 (by decide))
          refine y_ic rfl rfl ?_
          refine y_st (lv' := [(4, iv 0), (6, iv (V 171 (200 + 84 * c + k))), (0, .ref 170), (1, iv x), (2, iv y), (3, iv q), (5, iv (k : Int))]) rfl rfl (fun d => rfl) ?_
          refine y_inc (z := ((k + 1 : Nat) : Int)) (lv' := [(5, iv ((k + 1 : Nat) : Int)), (4, iv 0), (6, iv (V 171 (200 + 84 * c + k))), (0, .ref 170), (1, iv x), (2, iv y), (3, iv q)]) rfl rfl rfl (by omega) rfl ?_
          refine y_go rfl rfl ?_
          refine y_lv (l' := [(0, .ref 170), (1, iv x), (2, iv y), (3, iv q), (4, iv 0), (5, iv ((k + 1 : Nat) : Int))]) rfl ⟨rfl, rfl, rfl, rfl, rfl, rfl, trivial⟩ ?_
          exact y_mono (ih (k + 1) 0 (by omega) (by omega) (Or.inr ⟨rfl, fun hf => hJ (fun p hp => hf p (by omega))⟩)) (by omega)
set_option maxRecDepth 100000 in
set_option maxHeartbeats 4000000 in
theorem ms_whole (hM : MdS S) {cnt : Nat} (hSO : SO cnt (V 171)) {x : Int} (hx : (-2147483648 ≤ x ∧ x < 2147483648)) {y : Int} (hy : (-2147483648 ≤ y ∧ y < 2147483648)) {q : Int} (hq : (-2147483648 ≤ q ∧ q < 2147483648)) (k0 : ¬ ((0 ≤ x ∧ x < V 171 1) ∧ (0 ≤ y ∧ y < V 171 1) ∧ (0 ≤ q ∧ q < V 171 1)) → K u w (some (iv (-1))) S V) (k1 : ((0 ≤ x ∧ x < V 171 1) ∧ (0 ≤ y ∧ y < V 171 1) ∧ (0 ≤ q ∧ q < V 171 1)) → (x = y ∨ x = q ∨ y = q) → K u w (some (iv (-2))) S V) (k2 : ((0 ≤ x ∧ x < V 171 1) ∧ (0 ≤ y ∧ y < V 171 1) ∧ (0 ≤ q ∧ q < V 171 1)) → ¬ (x = y ∨ x = q ∨ y = q) → whP (V 171) x.toNat y.toNat q.toNat → K u w (some (iv 1)) S V) (k3 : ((0 ≤ x ∧ x < V 171 1) ∧ (0 ≤ y ∧ y < V 171 1) ∧ (0 ≤ q ∧ q < V 171 1)) → ¬ (x = y ∨ x = q ∨ y = q) → ¬ whP (V 171) x.toNat y.toNat q.toNat → K u w (some (iv 0)) S V) : y_R X 4 150 u w [.ref 170, iv x, iv y, iv q] S V K := by
  have hsz := hSO.1
  have hB : 0 ≤ V 171 1 ∧ V 171 1 ≤ 8 := by omega
  refine y_ent (lv' := [(0, .ref 170), (1, iv x), (2, iv y), (3, iv q)]) (Nat.le_of_ble_eq_true rfl) rfl ?_
  refine y_ld (x := .ref 170) rfl rfl (fun d => rfl) ?_
  refine y_ld (x := iv x) rfl rfl (fun d => rfl) ?_
  refine y_cV (as := [.ref 170, iv x]) rfl rfl rfl rfl rfl (md170 hM) ⟨rfl, (Nat.le_of_ble_eq_true rfl), (Nat.le_of_ble_eq_true rfl)⟩ (by decide) (ct_isBox hM (by omega) ⟨rfl, by omega⟩ ?_)
  refine y_nv ?_
  refine y_beq rfl rfl rfl (fun g1 => ?_) (fun g1 => ?_)
  · refine y_ic rfl rfl ?_
    refine y_rI rfl (Or.inl rfl) ?_
    exact k0 (by omega)
  · refine y_ld (x := .ref 170) rfl rfl (fun d => rfl) ?_
    refine y_ld (x := iv y) rfl rfl (fun d => rfl) ?_
    refine y_cV (as := [.ref 170, iv y]) rfl rfl rfl rfl rfl (md170 hM) ⟨rfl, (Nat.le_of_ble_eq_true rfl), (Nat.le_of_ble_eq_true rfl)⟩ (by decide) (ct_isBox hM (by omega) ⟨rfl, by omega⟩ ?_)
    refine y_nv ?_
    refine y_beq rfl rfl rfl (fun g2 => ?_) (fun g2 => ?_)
    · refine y_ic rfl rfl ?_
      refine y_rI rfl (Or.inl rfl) ?_
      exact k0 (by omega)
    · refine y_ld (x := .ref 170) rfl rfl (fun d => rfl) ?_
      refine y_ld (x := iv q) rfl rfl (fun d => rfl) ?_
      refine y_cV (as := [.ref 170, iv q]) rfl rfl rfl rfl rfl (md170 hM) ⟨rfl, (Nat.le_of_ble_eq_true rfl), (Nat.le_of_ble_eq_true rfl)⟩ (by decide) (ct_isBox hM (by omega) ⟨rfl, by omega⟩ ?_)
      refine y_nv ?_
      refine y_bne rfl rfl rfl (fun g3 => ?_) (fun g3 => ?_)
      · refine y_ld (x := iv x) rfl rfl (fun d => rfl) ?_
        refine y_ld (x := iv y) rfl rfl (fun d => rfl) ?_
        refine y_jeq rfl rfl rfl (by omega) (fun g4 => ?_) (fun g4 => ?_)
        · refine y_bi rfl rfl (by decide) ?_
          refine y_rI rfl (Or.inl rfl) ?_
          exact k1 (by omega) (by omega)
        · refine y_ld (x := iv x) rfl rfl (fun d => rfl) ?_
          refine y_ld (x := iv q) rfl rfl (fun d => rfl) ?_
          refine y_jeq rfl rfl rfl (by omega) (fun g5 => ?_) (fun g5 => ?_)
          · refine y_bi rfl rfl (by decide) ?_
            refine y_rI rfl (Or.inl rfl) ?_
            exact k1 (by omega) (by omega)
          · refine y_ld (x := iv y) rfl rfl (fun d => rfl) ?_
            refine y_ld (x := iv q) rfl rfl (fun d => rfl) ?_
            refine y_jne rfl rfl rfl (by omega) (fun g6 => ?_) (fun g6 => ?_)
            · refine y_ic rfl rfl ?_
              refine y_st (lv' := [(4, iv 1), (0, .ref 170), (1, iv x), (2, iv y), (3, iv q)]) rfl rfl (fun d => rfl) ?_
              refine y_ic rfl rfl ?_
              refine y_st (lv' := [(5, iv 0), (4, iv 1), (0, .ref 170), (1, iv x), (2, iv y), (3, iv q)]) rfl rfl (fun d => rfl) ?_
              refine y_lv (l' := [(0, .ref 170), (1, iv x), (2, iv y), (3, iv q), (4, iv 1), (5, iv ((0 : Nat) : Int))]) rfl ⟨rfl, rfl, rfl, rfl, rfl, rfl, trivial⟩ ?_
              exact y_mono (lq_whole (F := 200) hM hSO (by omega) (by omega) (by omega) (k2 (by omega) (by omega)) (k3 (by omega) (by omega)) 85 0 1 (by omega) (by omega) (Or.inl ⟨rfl, fun p hp => absurd hp (by omega)⟩)) (by decide)
            · refine y_bi rfl rfl (by decide) ?_
              refine y_rI rfl (Or.inl rfl) ?_
              exact k1 (by omega) (by omega)
      · refine y_ic rfl rfl ?_
        refine y_rI rfl (Or.inl rfl) ?_
        exact k0 (by omega)
set_option maxRecDepth 100000 in
set_option maxHeartbeats 4000000 in
theorem lq_fall (hM : MdS S) {cnt : Nat} (hSO : SO cnt (V 171)) {x : Int} (hx : 0 ≤ x ∧ x < V 171 1) {F : Nat} : ∀ (m : Nat) (k : Nat) (r : Int), 84 - k < m → (k ≤ 84) → (0 ≤ r ∧ r < 65536) → (∀ t : Nat, t < 16 → tuM (V 171) x.toNat k t (r / 2 ^ t % 2)) → (∀ r : Int, 0 ≤ r ∧ r < 65536 → (∀ t : Nat, t < 16 → tuB (V 171) x.toNat 16 t (r / 2 ^ t % 2)) → y_E X 2 152 F u w 111 [(0, .ref 170), (1, iv x), (2, iv r)] [] S (v_ur V 171 (v_cp (V 171) (V 171) (880 + 84 * x.toNat) (200 + 84 * x.toNat) 84)) K) → y_E X 2 152 (60 * m + F) u w 15 [(0, .ref 170), (1, iv x), (2, iv r), (3, iv (k : Int))] [] S (v_ur V 171 (v_cp (V 171) (V 171) (880 + 84 * x.toNat) (200 + 84 * x.toNat) k)) K := by
  intro m
  induction m with
  | zero => intros; omega
  | succ m ih =>
    intro k r hm hI hr hJ hx2
    refine y_mono (F' := (60 * m + F) + 60) ?_ (by omega)
    refine y_ld (x := iv (k : Int)) rfl rfl (fun d => rfl) ?_
    refine y_bi rfl rfl (by decide) ?_
    refine y_jge rfl rfl rfl (by omega) (fun g1 => ?_) (fun g1 => ?_)
    · obtain rfl : k = 84 := by omega
      refine y_lv (l' := [(0, .ref 170), (1, iv x), (2, iv r)]) rfl ⟨rfl, rfl, rfl, trivial⟩ ?_
      exact y_mono (hx2 r hr (fun t ht => tuM_B (by decide) ht (hJ t ht))) (by omega)
    · have hsz := hSO.1
      have hra := (hSO.2.2.1 x.toNat (by omega)).2.2.2.2.1 k (by omega)
      have hrb := (hSO.2.2.1 x.toNat (by omega)).2.2.2.2.2 k (by omega)
      have hra2 : -2147483648 ≤ V 171 (200 + 84 * x.toNat + k) ∧ V 171 (200 + 84 * x.toNat + k) < 2147483648 := hra
      have hrb2 : -2147483648 ≤ V 171 (880 + 84 * x.toNat + k) ∧ V 171 (880 + 84 * x.toNat + k) < 2147483648 := hrb
      refine y_ld (x := iv r) rfl rfl (fun d => rfl) ?_
      refine y_ld (x := iv (k : Int)) rfl rfl (fun d => rfl) ?_
      refine y_bi rfl rfl (by decide) ?_
      refine y_jge rfl rfl rfl (by omega) (fun g2 => ?_) (fun g2 => ?_)
      · refine y_ld (x := iv 65535) rfl rfl (fun d => rfl) ?_
        refine y_op (z := r) rfl rfl (fun d => rfl) (v_and16 hr) ?_
        refine y_st (lv' := [(2, iv r), (0, .ref 170), (1, iv x), (3, iv (k : Int))]) rfl rfl (fun d => rfl) ?_
        refine y_ld (x := .ref 170) rfl rfl (fun d => rfl) ?_
        refine y_gR (i := 1) rfl rfl rfl (md170 hM) rfl ?_
        refine y_si rfl rfl (by decide) ?_
        refine y_bi rfl rfl (by decide) ?_
        refine y_ld (x := iv x) rfl rfl (fun d => rfl) ?_
        refine y_mul (z := (84 * x)) rfl rfl rfl ?_
        refine y_add (z := (200 + (84 * x))) rfl rfl rfl ?_
        refine y_ld (x := iv (k : Int)) rfl rfl (fun d => rfl) ?_
        refine y_add (z := ((200 + (84 * x)) + (k : Int))) rfl rfl rfl ?_
        refine y_ld (x := .ref 170) rfl rfl (fun d => rfl) ?_
        refine y_gR (i := 1) rfl rfl rfl (md170 hM) rfl ?_
        refine y_si rfl rfl (by decide) ?_
        refine y_bi rfl rfl (by decide) ?_
        refine y_ld (x := iv x) rfl rfl (fun d => rfl) ?_
        refine y_mul (z := (84 * x)) rfl rfl rfl ?_
        refine y_add (z := (880 + (84 * x))) rfl rfl rfl ?_
        refine y_ld (x := iv (k : Int)) rfl rfl (fun d => rfl) ?_
        refine y_add (z := ((880 + (84 * x)) + (k : Int))) rfl rfl rfl ?_
        refine y_ild (x := (V 171 (880 + 84 * x.toNat + k))) (q := (880 + 84 * x.toNat + k)) rfl rfl (md171 hM) (by omega) (by decide) (by omega) (by rw [v_ur_eq]; unfold v_cp; rw [if_neg (by omega)]) ?_
        refine y_ist (q := (200 + 84 * x.toNat + k)) rfl rfl (md171 hM) (by omega) (by decide) (by omega) ?_
        refine y_inc (z := ((k + 1 : Nat) : Int)) (lv' := [(3, iv ((k + 1 : Nat) : Int)), (2, iv r), (0, .ref 170), (1, iv x)]) rfl rfl rfl (by omega) rfl ?_
        refine y_go rfl rfl ?_
        refine y_lv (l' := [(0, .ref 170), (1, iv x), (2, iv r), (3, iv ((k + 1 : Nat) : Int))]) rfl ⟨rfl, rfl, rfl, rfl, trivial⟩ ?_
        refine y_V (V' := v_ur V 171 (v_cp (V 171) (V 171) (880 + 84 * x.toNat) (200 + 84 * x.toNat) (k + 1))) (v_cp_up2 V 171 _ _ k) ?_
        refine y_mono (ih (k + 1) r (by omega) (by omega) hr (fun t ht => ?_) hx2) (by omega)
        have hj := hJ t ht
        refine ⟨fun hf => hj.1 (fun d hd hk => hf d hd (by omega)), fun hf => hj.2 (fun g => hf (fun d hd hk => ?_))⟩
        by_cases h : 4 * t + d < k
        · exact g d hd h
        · rw [show 4 * t + d = k by omega]; omega
      · refine y_ld (x := .ref 170) rfl rfl (fun d => rfl) ?_
        refine y_gR (i := 1) rfl rfl rfl (md170 hM) rfl ?_
        refine y_si rfl rfl (by decide) ?_
        refine y_bi rfl rfl (by decide) ?_
        refine y_ld (x := iv x) rfl rfl (fun d => rfl) ?_
        refine y_mul (z := (84 * x)) rfl rfl rfl ?_
        refine y_add (z := (880 + (84 * x))) rfl rfl rfl ?_
        refine y_ld (x := iv (k : Int)) rfl rfl (fun d => rfl) ?_
        refine y_add (z := ((880 + (84 * x)) + (k : Int))) rfl rfl rfl ?_
        refine y_ild (x := (V 171 (880 + 84 * x.toNat + k))) (q := (880 + 84 * x.toNat + k)) rfl rfl (md171 hM) (by omega) (by decide) (by omega) (by rw [v_ur_eq]; unfold v_cp; rw [if_neg (by omega)]) ?_
        refine y_ld (x := .ref 170) rfl rfl (fun d => rfl) ?_
        refine y_gR (i := 1) rfl rfl rfl (md170 hM) rfl ?_
        refine y_si rfl rfl (by decide) ?_
        refine y_bi rfl rfl (by decide) ?_
        refine y_ld (x := iv x) rfl rfl (fun d => rfl) ?_
        refine y_mul (z := (84 * x)) rfl rfl rfl ?_
        refine y_add (z := (200 + (84 * x))) rfl rfl rfl ?_
        refine y_ld (x := iv (k : Int)) rfl rfl (fun d => rfl) ?_
        refine y_add (z := ((200 + (84 * x)) + (k : Int))) rfl rfl rfl ?_
        refine y_ild (x := (V 171 (200 + 84 * x.toNat + k))) (q := (200 + 84 * x.toNat + k)) rfl rfl (md171 hM) (by omega) (by decide) (by omega) (by rw [v_ur_eq]; unfold v_cp; rw [if_neg (by omega)]) ?_
        refine y_jeq rfl rfl rfl (by omega) (fun g3 => ?_) (fun g3 => ?_)
        · refine y_ld (x := iv 65535) rfl rfl (fun d => rfl) ?_
          refine y_op (z := r) rfl rfl (fun d => rfl) (v_and16 hr) ?_
          refine y_st (lv' := [(2, iv r), (0, .ref 170), (1, iv x), (3, iv (k : Int))]) rfl rfl (fun d => rfl) ?_
          refine y_ld (x := .ref 170) rfl rfl (fun d => rfl) ?_
          refine y_gR (i := 1) rfl rfl rfl (md170 hM) rfl ?_
          refine y_si rfl rfl (by decide) ?_
          refine y_bi rfl rfl (by decide) ?_
          refine y_ld (x := iv x) rfl rfl (fun d => rfl) ?_
          refine y_mul (z := (84 * x)) rfl rfl rfl ?_
          refine y_add (z := (200 + (84 * x))) rfl rfl rfl ?_
          refine y_ld (x := iv (k : Int)) rfl rfl (fun d => rfl) ?_
          refine y_add (z := ((200 + (84 * x)) + (k : Int))) rfl rfl rfl ?_
          refine y_ld (x := .ref 170) rfl rfl (fun d => rfl) ?_
          refine y_gR (i := 1) rfl rfl rfl (md170 hM) rfl ?_
          refine y_si rfl rfl (by decide) ?_
          refine y_bi rfl rfl (by decide) ?_
          refine y_ld (x := iv x) rfl rfl (fun d => rfl) ?_
          refine y_mul (z := (84 * x)) rfl rfl rfl ?_
          refine y_add (z := (880 + (84 * x))) rfl rfl rfl ?_
          refine y_ld (x := iv (k : Int)) rfl rfl (fun d => rfl) ?_
          refine y_add (z := ((880 + (84 * x)) + (k : Int))) rfl rfl rfl ?_
          refine y_ild (x := (V 171 (880 + 84 * x.toNat + k))) (q := (880 + 84 * x.toNat + k)) rfl rfl (md171 hM) (by omega) (by decide) (by omega) (by rw [v_ur_eq]; unfold v_cp; rw [if_neg (by omega)]) ?_
          refine y_ist (q := (200 + 84 * x.toNat + k)) rfl rfl (md171 hM) (by omega) (by decide) (by omega) ?_
          refine y_inc (z := ((k + 1 : Nat) : Int)) (lv' := [(3, iv ((k + 1 : Nat) : Int)), (2, iv r), (0, .ref 170), (1, iv x)]) rfl rfl rfl (by omega) rfl ?_
          refine y_go rfl rfl ?_
          refine y_lv (l' := [(0, .ref 170), (1, iv x), (2, iv r), (3, iv ((k + 1 : Nat) : Int))]) rfl ⟨rfl, rfl, rfl, rfl, trivial⟩ ?_
          refine y_V (V' := v_ur V 171 (v_cp (V 171) (V 171) (880 + 84 * x.toNat) (200 + 84 * x.toNat) (k + 1))) (v_cp_up2 V 171 _ _ k) ?_
          refine y_mono (ih (k + 1) r (by omega) (by omega) hr (fun t ht => ?_) hx2) (by omega)
          have hj := hJ t ht
          refine ⟨fun hf => hj.1 (fun d hd hk => hf d hd (by omega)), fun hf => hj.2 (fun g => hf (fun d hd hk => ?_))⟩
          by_cases h : 4 * t + d < k
          · exact g d hd h
          · rw [show 4 * t + d = k by omega]; omega
        · refine y_ic rfl rfl ?_
          refine y_ld (x := iv (k : Int)) rfl rfl (fun d => rfl) ?_
          refine y_ic rfl rfl ?_
          refine y_op (z := ((k / 4 : Nat) : Int)) rfl rfl (fun d => rfl) ((v_div (by omega) (by decide)).trans (congrArg Int32.ofInt (by omega))) ?_
          refine y_op (z := (2 ^ (k / 4))) rfl rfl (fun d => rfl) (v_shl1 (k := ((k / 4 : Nat) : Int)) (by omega)) ?_
          refine y_ic rfl rfl ?_
          have hp2 := v_p2 (k / 4)
          have hp3 : (2 : Int) ^ (k / 4) ≤ 32768 := z_p2le (by omega)
          refine y_op (z := (4294967295 - 2 ^ (k / 4))) rfl rfl (fun d => rfl) (v_not (by omega)) ?_
          refine y_go rfl rfl ?_
          refine y_op (z := (v_x2 r (k / 4))) rfl rfl (fun d => rfl) (v_andn hr (by omega)) ?_
          refine y_st (lv' := [(2, iv (v_x2 r (k / 4))), (0, .ref 170), (1, iv x), (3, iv (k : Int))]) rfl rfl (fun d => rfl) ?_
          refine y_ld (x := .ref 170) rfl rfl (fun d => rfl) ?_
          refine y_gR (i := 1) rfl rfl rfl (md170 hM) rfl ?_
          refine y_si rfl rfl (by decide) ?_
          refine y_bi rfl rfl (by decide) ?_
          refine y_ld (x := iv x) rfl rfl (fun d => rfl) ?_
          refine y_mul (z := (84 * x)) rfl rfl rfl ?_
          refine y_add (z := (200 + (84 * x))) rfl rfl rfl ?_
          refine y_ld (x := iv (k : Int)) rfl rfl (fun d => rfl) ?_
          refine y_add (z := ((200 + (84 * x)) + (k : Int))) rfl rfl rfl ?_
          refine y_ld (x := .ref 170) rfl rfl (fun d => rfl) ?_
          refine y_gR (i := 1) rfl rfl rfl (md170 hM) rfl ?_
          refine y_si rfl rfl (by decide) ?_
          refine y_bi rfl rfl (by decide) ?_
          refine y_ld (x := iv x) rfl rfl (fun d => rfl) ?_
          refine y_mul (z := (84 * x)) rfl rfl rfl ?_
          refine y_add (z := (880 + (84 * x))) rfl rfl rfl ?_
          refine y_ld (x := iv (k : Int)) rfl rfl (fun d => rfl) ?_
          refine y_add (z := ((880 + (84 * x)) + (k : Int))) rfl rfl rfl ?_
          refine y_ild (x := (V 171 (880 + 84 * x.toNat + k))) (q := (880 + 84 * x.toNat + k)) rfl rfl (md171 hM) (by omega) (by decide) (by omega) (by rw [v_ur_eq]; unfold v_cp; rw [if_neg (by omega)]) ?_
          refine y_ist (q := (200 + 84 * x.toNat + k)) rfl rfl (md171 hM) (by omega) (by decide) (by omega) ?_
          refine y_inc (z := ((k + 1 : Nat) : Int)) (lv' := [(3, iv ((k + 1 : Nat) : Int)), (2, iv (v_x2 r (k / 4))), (0, .ref 170), (1, iv x)]) rfl rfl rfl (by omega) rfl ?_
          refine y_go rfl rfl ?_
          refine y_lv (l' := [(0, .ref 170), (1, iv x), (2, iv (v_x2 r (k / 4))), (3, iv ((k + 1 : Nat) : Int))]) rfl ⟨rfl, rfl, rfl, rfl, trivial⟩ ?_
          refine y_V (V' := v_ur V 171 (v_cp (V 171) (V 171) (880 + 84 * x.toNat) (200 + 84 * x.toNat) (k + 1))) (v_cp_up2 V 171 _ _ k) ?_
          refine y_mono (ih (k + 1) (v_x2 r (k / 4)) (by omega) (by omega) (v_x2_rg hr _) (fun t ht => ?_) hx2) (by omega)
          have hj := hJ t ht
          rw [v_x2_bit hr (by omega)]
          by_cases h : t = k / 4
          · rw [if_pos h]
            refine ⟨fun hf => ?_, fun _ => rfl⟩
            have h2 := hf (k % 4) (by omega) (by omega)
            rw [show 4 * t + k % 4 = k by omega] at h2
            omega
          · rw [if_neg h]
            exact ⟨fun hf => hj.1 (fun d hd hk => hf d hd (by omega)), fun hf => hj.2 (fun g => hf (fun d hd hk => g d hd (by omega)))⟩
set_option maxRecDepth 100000 in
set_option maxHeartbeats 4000000 in
theorem ms_fall (hM : MdS S) {cnt : Nat} (hSO : SO cnt (V 171)) {x : Int} (hx : (-2147483648 ≤ x ∧ x < 2147483648)) (k0 : ¬ (0 ≤ x ∧ x < V 171 1) → K u w (some (iv (-1))) S V) (k1 : 0 ≤ x ∧ x < V 171 1 → ∀ r : Int, 0 ≤ r ∧ r < 65536 → (∀ t : Nat, t < 16 → tuB (V 171) x.toNat 16 t (r / 2 ^ t % 2)) → K u w (some (iv r)) S (v_ur V 171 (v_cp (V 171) (V 171) (880 + 84 * x.toNat) (200 + 84 * x.toNat) 84))) : y_R X 3 152 u w [.ref 170, iv x] S V K := by
  have hsz := hSO.1
  have hB : 0 ≤ V 171 1 ∧ V 171 1 ≤ 8 := by omega
  refine y_ent (lv' := [(0, .ref 170), (1, iv x)]) (Nat.le_of_ble_eq_true rfl) rfl ?_
  refine y_ld (x := .ref 170) rfl rfl (fun d => rfl) ?_
  refine y_ld (x := iv x) rfl rfl (fun d => rfl) ?_
  refine y_cV (as := [.ref 170, iv x]) rfl rfl rfl rfl rfl (md170 hM) ⟨rfl, (Nat.le_of_ble_eq_true rfl), (Nat.le_of_ble_eq_true rfl)⟩ (by decide) (ct_isBox hM (by omega) ⟨rfl, by omega⟩ ?_)
  refine y_nv ?_
  refine y_bne rfl rfl rfl (fun g1 => ?_) (fun g1 => ?_)
  · refine y_ld (x := iv 65535) rfl rfl (fun d => rfl) ?_
    refine y_st (lv' := [(2, iv 65535), (0, .ref 170), (1, iv x)]) rfl rfl (fun d => rfl) ?_
    refine y_ic rfl rfl ?_
    refine y_st (lv' := [(3, iv 0), (2, iv 65535), (0, .ref 170), (1, iv x)]) rfl rfl (fun d => rfl) ?_
    refine y_lv (l' := [(0, .ref 170), (1, iv x), (2, iv 65535), (3, iv ((0 : Nat) : Int))]) rfl ⟨rfl, rfl, rfl, rfl, trivial⟩ ?_
    refine y_V (V' := v_ur V 171 (v_cp (V 171) (V 171) (880 + 84 * x.toNat) (200 + 84 * x.toNat) 0)) (v_cp_0 V 171 _ _).symm ?_
    refine y_mono (lq_fall (F := 200) hM hSO (x := x) (by omega) 85 0 65535 (by omega) (by omega) (by decide) (fun t ht => ⟨fun _ => z_65535 t ht, fun hf => absurd (fun d _ hk => absurd hk (by omega)) hf⟩) (fun r hr1 hr2 => ?_)) (by decide)
    refine y_ld (x := iv r) rfl rfl (fun d => rfl) ?_
    refine y_rI rfl (Or.inl rfl) ?_
    exact k1 (by omega) r hr1 hr2
  · refine y_ic rfl rfl ?_
    refine y_rI rfl (Or.inl rfl) ?_
    exact k0 (by omega)
end
