/-! a number of a static table; as, the reference -/
theorem y_sti {X : Nat → List Int32} {D j F u w pc : Nat} {lv : m_L} {S : m_H} {V : v_V} {K : v_K} {len n i pc' : Nat} {a e f : Int} {b : Nat} {L : List Int32} {r : List Value} (hc : m_nth (m_code j) pc = some (some (.iaload, len, a, b))) (hp : pc + len = pc') (hX : X n = L) (h3 : X 3 = []) (hn : n < 3) (hix : m_ix (Int32.ofInt e) = some i) (hv : m_nth L i = some (Int32.ofInt f)) (k : y_E X D j F u w pc' lv (iv f :: r) S V K) : y_E X D j (F + 1) u w pc lv (iv e :: .ref (1000000 + n) :: r) S V K := by
  subst hp
  refine y_in hc rfl (fun d => ?_) k
  have h : m_el X (mkh S V) 20 (1000000 + n) (Int32.ofInt e) = some (iv f) := by
    unfold m_el
    rw [hix]
    show (if 1000000 + n < 1000000 then _ else if (20 = 20 ∧ 1000000 + n - 1000000 < 3 ∧ X 3 = []) then (m_nth (X (1000000 + n - 1000000)) i).map Value.int else none) = _
    rw [if_neg (by omega), if_pos ⟨rfl, by omega, h3⟩, show 1000000 + n - 1000000 = n by omega, hX, hv]
    rfl
  rw [m_s_iaload]
  show (match m_el X (mkh S V) 20 (1000000 + n) (Int32.ofInt e) with
    | some (.int x) => m_nx (pc + len) lv (.int x :: r) (mkh S V)
    | _ => none) = _
  rw [h]
section
variable {X : Nat → List Int32} {u w : Nat} {S : m_H} {V : v_V} {K : v_K}
set_option maxRecDepth 100000 in
set_option maxHeartbeats 4000000 in
theorem ct_isUnder {x y : Int} (hx : (-2147483648 ≤ x ∧ x < 2147483648)) (hy : (-2147483648 ≤ y ∧ y < 2147483648)) (k : K u w (some (iv (v_b (y = 0 ∨ y = x ∨ (y = 1 ∧ x = 4) ∨ (y = 3 ∧ x = 5))))) S V) : y_R X 1 166 u w [iv x, iv y] S V K := by
  refine y_ent (lv' := [(0, iv x), (1, iv y)]) (Nat.le_of_ble_eq_true rfl) rfl ?_
  refine y_ld (x := iv y) rfl rfl (fun d => rfl) ?_
  refine y_zeq rfl rfl rfl (by omega) (fun g1 => ?_) (fun g1 => ?_)
  · refine y_ic rfl rfl ?_
    refine y_go rfl rfl ?_
    refine y_rI rfl (by decide) ?_
    rwa [v_b1 (by omega)] at k
  · refine y_ld (x := iv y) rfl rfl (fun d => rfl) ?_
    refine y_ld (x := iv x) rfl rfl (fun d => rfl) ?_
    refine y_jeq rfl rfl rfl (by omega) (fun g2 => ?_) (fun g2 => ?_)
    · refine y_ic rfl rfl ?_
      refine y_go rfl rfl ?_
      refine y_rI rfl (by decide) ?_
      rwa [v_b1 (by omega)] at k
    · refine y_ld (x := iv y) rfl rfl (fun d => rfl) ?_
      refine y_ic rfl rfl ?_
      refine y_jne rfl rfl rfl (by omega) (fun g3 => ?_) (fun g3 => ?_)
      · refine y_ld (x := iv y) rfl rfl (fun d => rfl) ?_
        refine y_ic rfl rfl ?_
        refine y_jne rfl rfl rfl (by omega) (fun g4 => ?_) (fun g4 => ?_)
        · refine y_ic rfl rfl ?_
          refine y_rI rfl (by decide) ?_
          rwa [v_b0 (by omega)] at k
        · refine y_ld (x := iv x) rfl rfl (fun d => rfl) ?_
          refine y_ic rfl rfl ?_
          refine y_jne rfl rfl rfl (by omega) (fun g5 => ?_) (fun g5 => ?_)
          · refine y_ic rfl rfl ?_
            refine y_rI rfl (by decide) ?_
            rwa [v_b0 (by omega)] at k
          · refine y_ic rfl rfl ?_
            refine y_go rfl rfl ?_
            refine y_rI rfl (by decide) ?_
            rwa [v_b1 (by omega)] at k
      · refine y_ld (x := iv x) rfl rfl (fun d => rfl) ?_
        refine y_ic rfl rfl ?_
        refine y_jeq rfl rfl rfl (by omega) (fun g6 => ?_) (fun g6 => ?_)
        · refine y_ic rfl rfl ?_
          refine y_go rfl rfl ?_
          refine y_rI rfl (by decide) ?_
          rwa [v_b1 (by omega)] at k
        · refine y_ld (x := iv y) rfl rfl (fun d => rfl) ?_
          refine y_ic rfl rfl ?_
          refine y_jne rfl rfl rfl (by omega) (fun g7 => ?_) (fun g7 => ?_)
          · refine y_ic rfl rfl ?_
            refine y_rI rfl (by decide) ?_
            rwa [v_b0 (by omega)] at k
          · refine y_ld (x := iv x) rfl rfl (fun d => rfl) ?_
            refine y_ic rfl rfl ?_
            refine y_jne rfl rfl rfl (by omega) (fun g8 => ?_) (fun g8 => ?_)
            · refine y_ic rfl rfl ?_
              refine y_rI rfl (by decide) ?_
              rwa [v_b0 (by omega)] at k
            · refine y_ic rfl rfl ?_
              refine y_go rfl rfl ?_
              refine y_rI rfl (by decide) ?_
              rwa [v_b1 (by omega)] at k
set_option maxRecDepth 100000 in
set_option maxHeartbeats 4000000 in
theorem ms_as (hM : MdS S) (hB : 0 ≤ V 171 1 ∧ V 171 1 ≤ 8) {x : Int} (hx : (-2147483648 ≤ x ∧ x < 2147483648)) {y : Int} (hy : (-2147483648 ≤ y ∧ y < 2147483648)) (hk : ∀ b : Nat, b < 8 → 0 ≤ V 171 (170 + b) ∧ V 171 (170 + b) ≤ 6) (k0 : ¬ (0 ≤ x ∧ x ≤ V 171 1 - 1) → K u w (some (iv (-1))) S V) (k1 : (0 ≤ x ∧ x ≤ V 171 1 - 1) → (0 ≤ y ∧ y ≤ 6) → ¬ (y = 0 ∨ y = V 171 (170 + x.toNat) ∨ (y = 1 ∧ V 171 (170 + x.toNat) = 4) ∨ (y = 3 ∧ V 171 (170 + x.toNat) = 5)) → K u w (some (iv (-6))) S V) (k2 : (0 ≤ x ∧ x ≤ V 171 1 - 1) → (0 ≤ y ∧ y ≤ 6) → (y = 0 ∨ y = V 171 (170 + x.toNat) ∨ (y = 1 ∧ V 171 (170 + x.toNat) = 4) ∨ (y = 3 ∧ V 171 (170 + x.toNat) = 5)) → K u w (some (iv (V 171 (178 + x.toNat)))) S V) (k3 : (0 ≤ x ∧ x ≤ V 171 1 - 1) → ¬ (0 ≤ y ∧ y ≤ 6) → K u w (some (iv (-1))) S V) : y_R X 3 175 u w [.ref 170, iv x, iv y] S V K := by
  refine y_ent (lv' := [(0, .ref 170), (1, iv x), (2, iv y)]) (Nat.le_of_ble_eq_true rfl) rfl ?_
  refine y_ld (x := .ref 170) rfl rfl (fun d => rfl) ?_
  refine y_ld (x := iv x) rfl rfl (fun d => rfl) ?_
  refine y_cV (as := [.ref 170, iv x]) rfl rfl rfl rfl rfl (md170 hM) ⟨rfl, (Nat.le_of_ble_eq_true rfl), (Nat.le_of_ble_eq_true rfl)⟩ (by decide) (ct_isBox hM (by omega) ⟨rfl, by omega⟩ ?_)
  refine y_nv ?_
  refine y_beq rfl rfl rfl (fun g1 => ?_) (fun g1 => ?_)
  · refine y_ic rfl rfl ?_
    refine y_rI rfl (Or.inl rfl) ?_
    exact k0 g1
  · refine y_ld (x := iv y) rfl rfl (fun d => rfl) ?_
    refine y_ic rfl rfl ?_
    refine y_bi rfl rfl (by decide) ?_
    refine y_cS (as := [iv y, iv 0, iv 6]) rfl (by decide) rfl rfl rfl rfl ⟨(Nat.le_of_ble_eq_true rfl), (Nat.le_of_ble_eq_true rfl)⟩ (by decide) (ct_in (by omega) ?_)
    refine y_nv ?_
    refine y_bne rfl rfl rfl (fun g2 => ?_) (fun g2 => ?_)
    · have hkx := hk x.toNat (by omega)
      refine y_ld (x := .ref 170) rfl rfl (fun d => rfl) ?_
      refine y_gR (i := 1) rfl rfl rfl (md170 hM) rfl ?_
      refine y_si rfl rfl (by decide) ?_
      refine y_ld (x := iv x) rfl rfl (fun d => rfl) ?_
      refine y_add (z := (170 + x)) rfl rfl rfl ?_
      refine y_ild (x := (V 171 (170 + x.toNat))) (q := (170 + x.toNat)) rfl rfl (md171 hM) (by omega) (by decide) (by omega) rfl ?_
      refine y_ld (x := iv y) rfl rfl (fun d => rfl) ?_
      refine y_cS (as := [iv (V 171 (170 + x.toNat)), iv y]) rfl (by decide) rfl rfl rfl rfl ⟨(Nat.le_of_ble_eq_true rfl), (Nat.le_of_ble_eq_true rfl)⟩ (by decide) (ct_isUnder (by omega) (by omega) ?_)
      refine y_nv ?_
      refine y_beq rfl rfl rfl (fun g3 => ?_) (fun g3 => ?_)
      · refine y_bi rfl rfl (by decide) ?_
        refine y_rI rfl (Or.inl rfl) ?_
        exact k1 g1 g2 g3
      · refine y_ld (x := .ref 170) rfl rfl (fun d => rfl) ?_
        refine y_gR (i := 1) rfl rfl rfl (md170 hM) rfl ?_
        refine y_si rfl rfl (by decide) ?_
        refine y_ld (x := iv x) rfl rfl (fun d => rfl) ?_
        refine y_add (z := (178 + x)) rfl rfl rfl ?_
        refine y_ild (x := (V 171 (178 + x.toNat))) (q := (178 + x.toNat)) rfl rfl (md171 hM) (by omega) (by decide) (by omega) rfl ?_
        refine y_go rfl rfl ?_
        refine y_rI rfl (Or.inl rfl) ?_
        exact k2 g1 g2 g3
    · refine y_ic rfl rfl ?_
      refine y_rI rfl (Or.inl rfl) ?_
      exact k3 g1 g2
end
