section
variable {X : Nat → List Int32} {u w : Nat} {S : m_H} {V : v_V} {K : v_K}
set_option maxRecDepth 100000 in
set_option maxHeartbeats 4000000 in
theorem lp_count1 {x : Int} {F : Nat} : ∀ (m : Nat) (k : Nat), 16 - k < m → (0 ≤ x ∧ x < 2147483648 ∧ k ≤ 16) → (y_E X 0 110 F u w 24 [(0, iv x), (1, iv (v_bs x 16)), (2, iv ((16 : Nat) : Int))] [] S V K) → y_E X 0 110 (20 * m + F) u w 4 [(0, iv x), (1, iv (v_bs x k)), (2, iv (k : Int))] [] S V K := by
  intro m
  induction m with
  | zero => intros; omega
  | succ m ih =>
    intro k hm hI hx
    refine y_mono (F' := (20 * m + F) + 20) ?_ (by omega)
    refine y_ld (x := iv (k : Int)) rfl rfl (fun d => rfl) ?_
    refine y_bi rfl rfl (by decide) ?_
    refine y_jge rfl rfl rfl (by omega) (fun g1 => ?_) (fun g1 => ?_)
    · obtain rfl : k = 16 := by omega
      exact y_mono hx (by omega)
    · refine y_ld (x := iv (v_bs x k)) rfl rfl (fun d => rfl) ?_
      refine y_ld (x := iv x) rfl rfl (fun d => rfl) ?_
      refine y_ld (x := iv (k : Int)) rfl rfl (fun d => rfl) ?_
      refine y_op (z := (x / 2 ^ ((k : Int)).toNat)) rfl rfl (fun d => rfl) (v_shr (by omega) (by omega)) ?_
      refine y_ic rfl rfl ?_
      refine y_op (z := ((x / 2 ^ ((k : Int)).toNat) % 2)) rfl rfl (fun d => rfl) (v_and1 (Int.ediv_nonneg (by omega) (Int.le_of_lt (v_p2 _)))) ?_
      refine y_add (z := ((v_bs x k) + ((x / 2 ^ ((k : Int)).toNat) % 2))) rfl rfl rfl ?_
      refine y_st (lv' := [(1, iv ((v_bs x k) + ((x / 2 ^ ((k : Int)).toNat) % 2))), (0, iv x), (2, iv (k : Int))]) rfl rfl (fun d => rfl) ?_
      refine y_inc (z := ((k + 1 : Nat) : Int)) (lv' := [(2, iv ((k + 1 : Nat) : Int)), (1, iv ((v_bs x k) + ((x / 2 ^ ((k : Int)).toNat) % 2))), (0, iv x)]) rfl rfl rfl (by omega) rfl ?_
      refine y_go rfl rfl ?_
      refine y_lv (l' := [(0, iv x), (1, iv ((v_bs x k) + ((x / 2 ^ ((k : Int)).toNat) % 2))), (2, iv ((k + 1 : Nat) : Int))]) rfl ⟨rfl, rfl, rfl, trivial⟩ ?_
      have e1 : v_bs x k + x / 2 ^ ((k : Int)).toNat % 2 = v_bs x (k + 1) := by rw [Int.toNat_natCast]; rfl
      rw [e1]
      exact y_mono (ih (k + 1) (by omega) (by omega) hx) (by omega)
set_option maxRecDepth 100000 in
set_option maxHeartbeats 4000000 in
theorem ct_count1 {x : Int} (h : 0 ≤ x ∧ x < 2147483648) (k : K u w (some (iv (v_bs x 16))) S V) : y_R X 1 110 u w [iv x] S V K := by
  refine y_ent (lv' := [(0, iv x)]) (Nat.le_of_ble_eq_true rfl) rfl ?_
  refine y_ic rfl rfl ?_
  refine y_st (lv' := [(1, iv 0), (0, iv x)]) rfl rfl (fun d => rfl) ?_
  refine y_ic rfl rfl ?_
  refine y_st (lv' := [(2, iv 0), (1, iv 0), (0, iv x)]) rfl rfl (fun d => rfl) ?_
  refine y_lv (l' := [(0, iv x), (1, iv 0), (2, iv 0)]) rfl ⟨rfl, rfl, rfl, trivial⟩ ?_
  refine y_mono (lp_count1 17 0 (by omega) (by omega) ?_) (Nat.le_of_ble_eq_true rfl : 20 * 17 + 2 ≤ _)
  refine y_ld (x := iv (v_bs x 16)) rfl rfl (fun d => rfl) ?_
  exact y_rI rfl (Or.inl rfl) k
end
