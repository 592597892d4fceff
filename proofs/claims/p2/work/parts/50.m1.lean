/-! THE REFERENCE: its cells in the shape -/
def md_obj : List Value := [.int 0, .ref 171, .ref 172, .int 0, .ref 173, .ref 174, .ref 175, .ref 176, .ref 177, .int 0, .int 0, .int 0, .int 0, .int 0, .int 0, .ref 178, .ref 179, .int 0, .int 0, .int 0, .int 0, .int 0, .int 0, .int 0, .ref 180, .ref 181, .ref 182, .int 0, .ref 183, .ref 184, .ref 185, .ref 186, .ref 187, .ref 188, .ref 189, .ref 190, .ref 191, .int 0, .int 0, .ref 192, .int 0, .int 0, .int 0, .int 0]
def MdS (S : m_H) : Prop := ce S 170 10 md_obj ∧ v_ia S 171 20 1800 ∧ v_ia S 172 20 1800 ∧ v_ia S 173 20 1600 ∧ v_ia S 174 20 8 ∧ v_ia S 175 20 8 ∧ v_ia S 176 20 64 ∧ v_ia S 177 20 64 ∧ v_ia S 178 20 336 ∧ v_ia S 179 21 80 ∧ v_ia S 180 20 3 ∧ v_ia S 181 20 3 ∧ v_ia S 182 20 4 ∧ v_ia S 183 21 16 ∧ v_ia S 184 21 16 ∧ v_ia S 185 21 16 ∧ v_ia S 186 20 16 ∧ v_ia S 187 20 16 ∧ v_ia S 188 20 16 ∧ v_ia S 189 20 4 ∧ v_ia S 190 20 4 ∧ v_ia S 191 20 4 ∧ v_ia S 192 20 20
theorem md170 {S : m_H} (hM : MdS S) : ce S 170 10 md_obj := hM.1
theorem md171 {S : m_H} (hM : MdS S) : v_ia S 171 20 1800 := hM.2.1
theorem md172 {S : m_H} (hM : MdS S) : v_ia S 172 20 1800 := hM.2.2.1
theorem md173 {S : m_H} (hM : MdS S) : v_ia S 173 20 1600 := hM.2.2.2.1
theorem md174 {S : m_H} (hM : MdS S) : v_ia S 174 20 8 := hM.2.2.2.2.1
theorem md175 {S : m_H} (hM : MdS S) : v_ia S 175 20 8 := hM.2.2.2.2.2.1
theorem md176 {S : m_H} (hM : MdS S) : v_ia S 176 20 64 := hM.2.2.2.2.2.2.1
theorem md177 {S : m_H} (hM : MdS S) : v_ia S 177 20 64 := hM.2.2.2.2.2.2.2.1
theorem md178 {S : m_H} (hM : MdS S) : v_ia S 178 20 336 := hM.2.2.2.2.2.2.2.2.1
theorem md179 {S : m_H} (hM : MdS S) : v_ia S 179 21 80 := hM.2.2.2.2.2.2.2.2.2.1
theorem md180 {S : m_H} (hM : MdS S) : v_ia S 180 20 3 := hM.2.2.2.2.2.2.2.2.2.2.1
theorem md181 {S : m_H} (hM : MdS S) : v_ia S 181 20 3 := hM.2.2.2.2.2.2.2.2.2.2.2.1
theorem md182 {S : m_H} (hM : MdS S) : v_ia S 182 20 4 := hM.2.2.2.2.2.2.2.2.2.2.2.2.1
theorem md183 {S : m_H} (hM : MdS S) : v_ia S 183 21 16 := hM.2.2.2.2.2.2.2.2.2.2.2.2.2.1
theorem md184 {S : m_H} (hM : MdS S) : v_ia S 184 21 16 := hM.2.2.2.2.2.2.2.2.2.2.2.2.2.2.1
theorem md185 {S : m_H} (hM : MdS S) : v_ia S 185 21 16 := hM.2.2.2.2.2.2.2.2.2.2.2.2.2.2.2.1
theorem md186 {S : m_H} (hM : MdS S) : v_ia S 186 20 16 := hM.2.2.2.2.2.2.2.2.2.2.2.2.2.2.2.2.1
theorem md187 {S : m_H} (hM : MdS S) : v_ia S 187 20 16 := hM.2.2.2.2.2.2.2.2.2.2.2.2.2.2.2.2.2.1
theorem md188 {S : m_H} (hM : MdS S) : v_ia S 188 20 16 := hM.2.2.2.2.2.2.2.2.2.2.2.2.2.2.2.2.2.2.1
theorem md189 {S : m_H} (hM : MdS S) : v_ia S 189 20 4 := hM.2.2.2.2.2.2.2.2.2.2.2.2.2.2.2.2.2.2.2.1
theorem md190 {S : m_H} (hM : MdS S) : v_ia S 190 20 4 := hM.2.2.2.2.2.2.2.2.2.2.2.2.2.2.2.2.2.2.2.2.1
theorem md191 {S : m_H} (hM : MdS S) : v_ia S 191 20 4 := hM.2.2.2.2.2.2.2.2.2.2.2.2.2.2.2.2.2.2.2.2.2.1
theorem md192 {S : m_H} (hM : MdS S) : v_ia S 192 20 20 := hM.2.2.2.2.2.2.2.2.2.2.2.2.2.2.2.2.2.2.2.2.2.2
section
variable {X : Nat → List Int32} {u w : Nat} {S : m_H} {V : v_V} {K : v_K}
set_option maxRecDepth 100000 in
set_option maxHeartbeats 4000000 in
theorem ct_in {x a b : Int} (h : (-2147483648 ≤ x ∧ x < 2147483648) ∧ (-2147483648 ≤ a ∧ a < 2147483648) ∧ (-2147483648 ≤ b ∧ b < 2147483648)) (k : K u w (some (iv (v_b (a ≤ x ∧ x ≤ b)))) S V) : y_R X 1 105 u w [iv x, iv a, iv b] S V K := by
  refine y_ent (lv' := [(0, iv x), (1, iv a), (2, iv b)]) (Nat.le_of_ble_eq_true rfl) rfl ?_
  refine y_ld (x := iv x) rfl rfl (fun d => rfl) ?_
  refine y_ld (x := iv a) rfl rfl (fun d => rfl) ?_
  refine y_jlt rfl rfl rfl (by omega) (fun g1 => ?_) (fun g1 => ?_)
  · refine y_ic rfl rfl ?_
    refine y_rI rfl (by decide) ?_
    rwa [v_b0 (by omega)] at k
  · refine y_ld (x := iv x) rfl rfl (fun d => rfl) ?_
    refine y_ld (x := iv b) rfl rfl (fun d => rfl) ?_
    refine y_jgt rfl rfl rfl (by omega) (fun g2 => ?_) (fun g2 => ?_)
    · refine y_ic rfl rfl ?_
      refine y_rI rfl (by decide) ?_
      rwa [v_b0 (by omega)] at k
    · refine y_ic rfl rfl ?_
      refine y_go rfl rfl ?_
      refine y_rI rfl (by decide) ?_
      rwa [v_b1 (by omega)] at k
set_option maxRecDepth 100000 in
set_option maxHeartbeats 4000000 in
theorem ct_isTalk {t : Int} (h : (-2147483648 ≤ t ∧ t < 2147483648)) (k : K u w (some (iv (v_b (0 ≤ t ∧ t ≤ 15)))) S V) : y_R X 2 108 u w [iv t] S V K := by
  refine y_ent (lv' := [(0, iv t)]) (Nat.le_of_ble_eq_true rfl) rfl ?_
  refine y_ld (x := iv t) rfl rfl (fun d => rfl) ?_
  refine y_ic rfl rfl ?_
  refine y_bi rfl rfl (by decide) ?_
  refine y_cS (as := [iv t, iv 0, iv 15]) rfl (by decide) rfl rfl rfl rfl ⟨(Nat.le_of_ble_eq_true rfl), (Nat.le_of_ble_eq_true rfl)⟩ (by decide) (ct_in (by omega) ?_)
  refine y_nv ?_
  refine y_rI rfl (by have := v_br (0 ≤ t ∧ t ≤ 15); omega) ?_
  exact k
set_option maxRecDepth 100000 in
set_option maxHeartbeats 4000000 in
theorem ct_isFour {t : Int} (h : (-2147483648 ≤ t ∧ t < 2147483648)) (k : K u w (some (iv (v_b (0 ≤ t ∧ t ≤ 3)))) S V) : y_R X 2 109 u w [iv t] S V K := by
  refine y_ent (lv' := [(0, iv t)]) (Nat.le_of_ble_eq_true rfl) rfl ?_
  refine y_ld (x := iv t) rfl rfl (fun d => rfl) ?_
  refine y_ic rfl rfl ?_
  refine y_ic rfl rfl ?_
  refine y_cS (as := [iv t, iv 0, iv 3]) rfl (by decide) rfl rfl rfl rfl ⟨(Nat.le_of_ble_eq_true rfl), (Nat.le_of_ble_eq_true rfl)⟩ (by decide) (ct_in (by omega) ?_)
  refine y_nv ?_
  refine y_rI rfl (by have := v_br (0 ≤ t ∧ t ≤ 3); omega) ?_
  exact k
set_option maxRecDepth 100000 in
set_option maxHeartbeats 4000000 in
theorem ct_isText (hM : MdS S) {t n : Int} (h : (-2147483648 ≤ t ∧ t < 2147483648)) (hn : V 171 0 = n ∧ 0 ≤ n ∧ n ≤ 8) (k : K u w (some (iv (v_b (0 ≤ t ∧ t ≤ n - 1)))) S V) : y_R X 2 106 u w [.ref 170, iv t] S V K := by
  refine y_ent (lv' := [(0, .ref 170), (1, iv t)]) (Nat.le_of_ble_eq_true rfl) rfl ?_
  refine y_ld (x := iv t) rfl rfl (fun d => rfl) ?_
  refine y_ic rfl rfl ?_
  refine y_ld (x := .ref 170) rfl rfl (fun d => rfl) ?_
  refine y_gR rfl rfl rfl (md170 hM) rfl ?_
  refine y_ic rfl rfl ?_
  refine y_ild (x := n) (q := 0) rfl rfl (md171 hM) (by decide) (by decide) rfl hn.1 ?_
  refine y_ic rfl rfl ?_
  refine y_sub (z := (n - 1)) rfl rfl rfl ?_
  refine y_cS (as := [iv t, iv 0, iv (n - 1)]) rfl (by decide) rfl rfl rfl rfl ⟨(Nat.le_of_ble_eq_true rfl), (Nat.le_of_ble_eq_true rfl)⟩ (by decide) (ct_in (by omega) ?_)
  refine y_nv ?_
  refine y_rI rfl (by have := v_br (0 ≤ t ∧ t ≤ (n - 1)); omega) ?_
  exact k
set_option maxRecDepth 100000 in
set_option maxHeartbeats 4000000 in
theorem ct_isBox (hM : MdS S) {t n : Int} (h : (-2147483648 ≤ t ∧ t < 2147483648)) (hn : V 171 1 = n ∧ 0 ≤ n ∧ n ≤ 8) (k : K u w (some (iv (v_b (0 ≤ t ∧ t ≤ n - 1)))) S V) : y_R X 2 107 u w [.ref 170, iv t] S V K := by
  refine y_ent (lv' := [(0, .ref 170), (1, iv t)]) (Nat.le_of_ble_eq_true rfl) rfl ?_
  refine y_ld (x := iv t) rfl rfl (fun d => rfl) ?_
  refine y_ic rfl rfl ?_
  refine y_ld (x := .ref 170) rfl rfl (fun d => rfl) ?_
  refine y_gR rfl rfl rfl (md170 hM) rfl ?_
  refine y_ic rfl rfl ?_
  refine y_ild (x := n) (q := 1) rfl rfl (md171 hM) (by decide) (by decide) rfl hn.1 ?_
  refine y_ic rfl rfl ?_
  refine y_sub (z := (n - 1)) rfl rfl rfl ?_
  refine y_cS (as := [iv t, iv 0, iv (n - 1)]) rfl (by decide) rfl rfl rfl rfl ⟨(Nat.le_of_ble_eq_true rfl), (Nat.le_of_ble_eq_true rfl)⟩ (by decide) (ct_in (by omega) ?_)
  refine y_nv ?_
  refine y_rI rfl (by have := v_br (0 ≤ t ∧ t ≤ (n - 1)); omega) ?_
  exact k
end
