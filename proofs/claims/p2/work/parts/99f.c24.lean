/-! undo, both sides -/
section
variable {X : Nat → List Int32} {u w : Nat} {S : m_H} {V : v_V} {K : v_K}
set_option maxRecDepth 100000 in
set_option maxHeartbeats 4000000 in
theorem cc_undo (hC : ClF S) {ta tb wa wb la lb : List Value} (hta : ce S 60 22 ta) (htb : ce S 3 22 tb) (hwa : ce S 63 24 wa) (hwb : ce S 6 24 wb) (hla : ce S 64 24 la) (hlb : ce S 7 24 lb) (hlta : ta.length = 8) (hltb : tb.length = 8) (hlwa : wa.length = 20) (hlwb : wb.length = 20) (hlla : la.length = 5) (hllb : lb.length = 5) (hvT : ∀ v ∈ ta, v_asg S 22 v) (hvW : ∀ v ∈ wa, v_asg S 24 v) (hvL : ∀ v ∈ la, v_asg S 24 v) (hI : 0 ≤ V 0 2 ∧ V 0 2 ≤ 1) (k0 : V 0 2 = 0 → K u w (some (iv (-3))) S V) (k1 : ∀ V', V 0 2 = 1 → CpV 1 58 V V' → K u w (some (iv (V' 1 5))) (((S.set 3 (22, ta)).set 6 (24, wa)).set 7 (24, la)) V') : y_R X 4 95 u w [.ref 0] S V K := by
  refine y_ent (lv' := [(0, .ref 0)]) (Nat.le_of_ble_eq_true rfl) rfl ?_
  refine y_ld (x := .ref 0) rfl rfl (fun d => rfl) ?_
  refine y_gI (i := 2) (e := (V 0 2)) rfl rfl rfl (hC 0 _ _ rfl) rfl rfl ?_
  refine y_zne rfl rfl rfl (by omega) (fun g1 => ?_) (fun g1 => ?_)
  · refine y_ld (x := .ref 0) rfl rfl (fun d => rfl) ?_
    refine y_gR (i := 0) rfl rfl rfl (hC 0 _ _ rfl) rfl ?_
    refine y_ld (x := .ref 0) rfl rfl (fun d => rfl) ?_
    refine y_gR (i := 1) rfl rfl rfl (hC 0 _ _ rfl) rfl ?_
    refine y_cV (as := [.ref 1, .ref 58]) rfl rfl rfl rfl rfl (hC 1 _ _ rfl) ⟨rfl, (Nat.le_of_ble_eq_true rfl), (Nat.le_of_ble_eq_true rfl)⟩ (by decide) (cc_sbec1 hC hta htb hwa hwb hla hlb hlta hltb hlwa hlwb hlla hllb hvT hvW hvL (fun V1 hV1 => ?_))
    have hCn : ClF (((S.set 3 (22, ta)).set 6 (24, wa)).set 7 (24, la)) := cl_set (cl_set (cl_set hC (by decide)) (by decide)) (by decide)
    refine y_n0 ?_
    refine y_ld (x := .ref 0) rfl rfl (fun d => rfl) ?_
    refine y_gR (i := 0) rfl rfl rfl (hCn 0 _ _ rfl) rfl ?_
    refine y_gI (i := 5) (e := (V1 1 5)) rfl rfl rfl (hCn 1 _ _ rfl) rfl rfl ?_
    refine y_rI rfl (Or.inl rfl) ?_
    exact k1 V1 (by omega) hV1
  · refine y_bi rfl rfl (by decide) ?_
    refine y_rI rfl (Or.inl rfl) ?_
    exact k0 (by omega)
set_option maxRecDepth 100000 in
set_option maxHeartbeats 4000000 in
theorem lp_undo (hM : MdS S) {F : Nat} : ∀ (m : Nat) (k : Nat), 1800 - k < m → (k ≤ 1800) → (y_E X 0 177 F u w 37 [(0, .ref 170), (1, iv ((1800 : Nat) : Int))] [] S (v_ur V 171 (v_cp (V 172) (V 171) 0 0 1800)) K) → y_E X 0 177 (20 * m + F) u w 12 [(0, .ref 170), (1, iv (k : Int))] [] S (v_ur V 171 (v_cp (V 172) (V 171) 0 0 k)) K := by
  intro m
  induction m with
  | zero => intros; omega
  | succ m ih =>
    intro k hm hI hx
    refine y_mono (F' := (20 * m + F) + 20) ?_ (by omega)
    refine y_ld (x := iv (k : Int)) rfl rfl (fun d => rfl) ?_
    refine y_si rfl rfl (by decide) ?_
    refine y_jge rfl rfl rfl (by omega) (fun g1 => ?_) (fun g1 => ?_)
    · obtain rfl : k = 1800 := by omega
      exact y_mono hx (by omega)
    · refine y_ld (x := .ref 170) rfl rfl (fun d => rfl) ?_
      refine y_gR (i := 1) rfl rfl rfl (md170 hM) rfl ?_
      refine y_ld (x := iv (k : Int)) rfl rfl (fun d => rfl) ?_
      refine y_ld (x := .ref 170) rfl rfl (fun d => rfl) ?_
      refine y_gR (i := 2) rfl rfl rfl (md170 hM) rfl ?_
      refine y_ld (x := iv (k : Int)) rfl rfl (fun d => rfl) ?_
      refine y_ild (x := (V 172 k)) (q := k) rfl rfl (md172 hM) (by omega) (by decide) (by omega) (by rw [v_ur_ne (by decide)]) ?_
      refine y_ist (q := k) rfl rfl (md171 hM) (by omega) (by decide) (by omega) ?_
      refine y_inc (z := ((k + 1 : Nat) : Int)) (lv' := [(1, iv ((k + 1 : Nat) : Int)), (0, .ref 170)]) rfl rfl rfl (by omega) rfl ?_
      refine y_go rfl rfl ?_
      refine y_lv (l' := [(0, .ref 170), (1, iv ((k + 1 : Nat) : Int))]) rfl ⟨rfl, rfl, trivial⟩ ?_
      refine y_V (V' := (v_ur V 171 (v_cp (V 172) (V 171) 0 0 (k + 1)))) (v_cp_up V (by decide) k) ?_
      exact y_mono (ih (k + 1) (by omega) (by omega) hx) (by omega)
set_option maxRecDepth 100000 in
set_option maxHeartbeats 4000000 in
theorem ct_undo (hM : MdS S) (hI : 0 ≤ V 170 3 ∧ V 170 3 ≤ 1) (k0 : V 170 3 = 0 → K u w (some (iv (-3))) S V) (k1 : V 170 3 = 1 → K u w (some (iv (V 172 1))) S (v_ur V 171 (V 172))) : y_R X 1 177 u w [.ref 170] S V K := by
  refine y_ent (lv' := [(0, .ref 170)]) (Nat.le_of_ble_eq_true rfl) rfl ?_
  refine y_ld (x := .ref 170) rfl rfl (fun d => rfl) ?_
  refine y_gI (i := 3) (e := (V 170 3)) rfl rfl rfl (md170 hM) rfl rfl ?_
  refine y_zne rfl rfl rfl (by omega) (fun g1 => ?_) (fun g1 => ?_)
  · refine y_ic rfl rfl ?_
    refine y_st (lv' := [(1, iv 0), (0, .ref 170)]) rfl rfl (fun d => rfl) ?_
    refine y_lv (l' := [(0, .ref 170), (1, iv 0)]) rfl ⟨rfl, rfl, trivial⟩ ?_
    refine y_V (V' := (v_ur V 171 (v_cp (V 172) (V 171) 0 0 0))) ?_ ?_
    · rw [show v_cp (V 172) (V 171) 0 0 0 = V 171 from funext (fun j => if_neg (by omega)), v_ur_self]
    refine y_mono (lp_undo hM 1801 0 (by omega) (by omega) ?_) (Nat.le_of_ble_eq_true rfl : 20 * 1801 + 900000 ≤ _)
    refine y_row (g := V 172) (md171 hM) (fun i x hx => if_pos (by have := v_repI hx; omega)) ?_
    refine y_ld (x := .ref 170) rfl rfl (fun d => rfl) ?_
    refine y_gR (i := 1) rfl rfl rfl (md170 hM) rfl ?_
    refine y_ic rfl rfl ?_
    refine y_ild (x := ((V 172) 1)) (q := 1) rfl rfl (md171 hM) (by decide) (by decide) rfl rfl ?_
    refine y_rI rfl (Or.inl rfl) ?_
    exact k1 (by omega)
  · refine y_bi rfl rfl (by decide) ?_
    refine y_rI rfl (Or.inl rfl) ?_
    exact k0 (by omega)
end
