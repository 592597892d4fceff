/-! the LINE for a packet; its ACTS: the class -/
theorem encTc_ge : ∀ l : List p_Tk, l.length ≤ (encTc l).length
  | [] => Nat.le_refl _
  | (c, x, y) :: r => by
    have ih := encTc_ge r
    by_cases hc : c ≤ 122
    · rw [encTc_t hc]; simp only [List.length_cons]; omega
    · rw [encTc_o hc]; simp only [List.length_cons]; omega
theorem lnO_dp {x : p_Li} (h : lnO x) : ∃ D, dpt 14 x.2.2.1 0 D := by
  rcases h with ⟨-, h⟩ | ⟨-, h⟩
  · exact ⟨1, h⟩
  · exact ⟨0, by rw [h]; exact rfl⟩
theorem CT_6 {V : v_V} {t : Nat} {l : List p_Li} (h : CT V t l) (h6 : V t 6 ≤ 160) : (l.length : Int) = V t 0 := h.1.symm
theorem encAc_ge {c : Int} {l : List Int} {q : List p_Ac} : 1 + (encAc q).length ≤ (encAc ((c, l) :: q)).length := by
  by_cases hc : 126 ≤ c
  · rw [encAc_e hc]; simp only [List.length_cons]; omega
  · rw [encAc_c hc]; simp only [List.length_cons, List.length_append]; omega
section
variable {X : Nat → List Int32} {u w : Nat} {S : m_H} {V : v_V} {K : v_K}
set_option maxRecDepth 100000 in
set_option maxHeartbeats 4000000 in
theorem lp_lineFor {t me c pk : Nat} {μ : Nat → Int} {a h κ n : Int} {l : List p_Li} (hX : TxS S t) (hm : MeS S me c) (hμ : V c = μ) (hP : PkS S V pk a h κ n) (hpk : pkO a h κ n) (hμr : muO μ) (h6 : V t 6 ≤ 160) (hCT : CT V t l) (hlo : lsO l) (hld : ∀ x ∈ l, lnO x) (hl8 : l.length ≤ 8) {F : Nat} : ∀ (m : Nat) (i : Nat) (r : List p_Li), r.length < m → (i + r.length = l.length) → (∀ j, m_nth r j = m_nth l (i + j)) → (K u w (some (iv (eL μ a h κ n i r))) S V) → y_E X 4 54 (60 * m + F) u w 2 [(0, .ref t), (1, .ref pk), (2, .ref me), (3, iv (i : Int))] [] S V K := by
  intro m
  induction m with
  | zero => intros; omega
  | succ m ih =>
    intro i r hm1 hI hR hx2
    refine y_mono (F' := (60 * m + F) + 60) ?_ (by omega)
    refine y_ld (x := iv (i : Int)) rfl rfl (fun d => rfl) ?_
    refine y_ld (x := .ref t) rfl rfl (fun d => rfl) ?_
    refine y_gI (i := 0) (e := (l.length : Int)) rfl rfl rfl hX.1 rfl hCT.1 ?_
    refine y_jge rfl rfl rfl (by omega) (fun g1 => ?_) (fun g1 => ?_)
    · refine y_bi rfl rfl (by decide) ?_
      refine y_rI rfl (Or.inl rfl) ?_
      rcases r with _ | ⟨x, r⟩
      · exact hx2
      · exact absurd hI (by simp only [List.length_cons]; omega)
    · rcases r with _ | ⟨x, r⟩
      · exact absurd hI (by simp only [List.length_nil]; omega)
      have hll : ((x :: r).length) = r.length + 1 := rfl
      have hxi : m_nth l i = some x := (hR 0).symm
      have hxm : x ∈ l := by rw [m_nth_eq] at hxi; exact List.mem_of_getElem? hxi
      have hxo := hlo x hxm
      have hx04 : 0 ≤ x.1 ∧ x.1 ≤ 4 := ⟨hxo.2.2.1, hxo.2.2.2.1⟩
      obtain ⟨p, b1, b2, b3, b4, b5, b6, b7⟩ := CT_line hCT hxi
      obtain ⟨D, hD⟩ := lnO_dp (hld x hxm)
      have hg := encTc_ge x.2.2.1
      have hpo := hpk
      obtain ⟨p1, p2, p3, p4⟩ := hpo
      refine y_ld (x := .ref t) rfl rfl (fun d => rfl) ?_
      refine y_gR (i := 1) rfl rfl rfl hX.1 rfl ?_
      refine y_ld (x := iv (i : Int)) rfl rfl (fun d => rfl) ?_
      refine y_ild (x := x.1) (q := i) rfl rfl hX.2.1 (by omega) (by decide) (by omega) b1 ?_
      refine y_ic rfl rfl ?_
      refine y_jeq rfl rfl rfl (by omega) (fun g2 => ?_) (fun g2 => ?_)
      · refine y_ic rfl rfl ?_
        refine y_go rfl rfl ?_
        refine y_st (lv' := [(4, iv 1), (0, .ref t), (1, .ref pk), (2, .ref me), (3, iv (i : Int))]) rfl rfl (fun d => rfl) ?_
        refine y_ld (x := iv 1) rfl rfl (fun d => rfl) ?_
        refine y_zeq rfl rfl rfl (by decide) (fun g3 => absurd g3 (by decide)) (fun g3 => ?_)
        refine y_ld (x := .ref t) rfl rfl (fun d => rfl) ?_
        refine y_ld (x := iv (i : Int)) rfl rfl (fun d => rfl) ?_
        refine y_ld (x := .ref pk) rfl rfl (fun d => rfl) ?_
        refine y_ld (x := .ref me) rfl rfl (fun d => rfl) ?_
        refine y_cV (as := [.ref t, iv (i : Int), .ref pk, .ref me]) rfl rfl rfl rfl rfl hX.1 ⟨rfl, (Nat.le_of_ble_eq_true rfl), (Nat.le_of_ble_eq_true rfl)⟩ (by decide) (cc_holds hX hm hμ hP hpk hμr h6 (by omega) b2 b3 b5 hxo.1 hD (by omega) (by omega) ?_)
        refine y_nv ?_
        refine y_beq rfl rfl rfl (fun g4 => ?_) (fun g4 => ?_)
        · refine y_inc (z := ((i + 1 : Nat) : Int)) (lv' := [(3, iv ((i + 1 : Nat) : Int)), (4, iv 1), (0, .ref t), (1, .ref pk), (2, .ref me)]) rfl rfl rfl (by omega) rfl ?_
          refine y_go rfl rfl ?_
          refine y_lv (l' := [(0, .ref t), (1, .ref pk), (2, .ref me), (3, iv ((i + 1 : Nat) : Int))]) rfl ⟨rfl, rfl, rfl, rfl, trivial⟩ ?_
          rw [eL_f (fun hq => by rw [eM_i] at hq; first | exact absurd hq.2 (by assumption) | omega)] at hx2
          exact y_mono (ih (i + 1) r (by simp only [List.length_cons] at hm1; omega) (by omega) (fun j => by rw [show i + 1 + j = i + (j + 1) by omega]; exact hR (j + 1)) hx2) (by omega)
        · refine y_ld (x := iv (i : Int)) rfl rfl (fun d => rfl) ?_
          refine y_rI rfl (Or.inl rfl) ?_
          rw [eL_t (eM_i.mpr ⟨by omega, by assumption⟩)] at hx2
          exact hx2
      · refine y_ld (x := .ref t) rfl rfl (fun d => rfl) ?_
        refine y_gR (i := 1) rfl rfl rfl hX.1 rfl ?_
        refine y_ld (x := iv (i : Int)) rfl rfl (fun d => rfl) ?_
        refine y_ild (x := x.1) (q := i) rfl rfl hX.2.1 (by omega) (by decide) (by omega) b1 ?_
        refine y_ld (x := .ref pk) rfl rfl (fun d => rfl) ?_
        refine y_gI (i := 2) (e := κ) rfl rfl rfl hP.1 rfl hP.2.2.2.1 ?_
        refine y_jne rfl rfl rfl (by omega) (fun g5 => ?_) (fun g5 => ?_)
        · refine y_ic rfl rfl ?_
          refine y_st (lv' := [(4, iv 0), (0, .ref t), (1, .ref pk), (2, .ref me), (3, iv (i : Int))]) rfl rfl (fun d => rfl) ?_
          refine y_ld (x := iv 0) rfl rfl (fun d => rfl) ?_
          refine y_zeq rfl rfl rfl (by decide) (fun g6 => ?_) (fun g6 => absurd g6 (by decide))
          refine y_inc (z := ((i + 1 : Nat) : Int)) (lv' := [(3, iv ((i + 1 : Nat) : Int)), (4, iv 0), (0, .ref t), (1, .ref pk), (2, .ref me)]) rfl rfl rfl (by omega) rfl ?_
          refine y_go rfl rfl ?_
          refine y_lv (l' := [(0, .ref t), (1, .ref pk), (2, .ref me), (3, iv ((i + 1 : Nat) : Int))]) rfl ⟨rfl, rfl, rfl, rfl, trivial⟩ ?_
          rw [eL_f (fun hq => by rw [eM_i] at hq; first | exact absurd hq.2 (by assumption) | omega)] at hx2
          exact y_mono (ih (i + 1) r (by simp only [List.length_cons] at hm1; omega) (by omega) (fun j => by rw [show i + 1 + j = i + (j + 1) by omega]; exact hR (j + 1)) hx2) (by omega)
        · refine y_ic rfl rfl ?_
          refine y_go rfl rfl ?_
          refine y_st (lv' := [(4, iv 1), (0, .ref t), (1, .ref pk), (2, .ref me), (3, iv (i : Int))]) rfl rfl (fun d => rfl) ?_
          refine y_ld (x := iv 1) rfl rfl (fun d => rfl) ?_
          refine y_zeq rfl rfl rfl (by decide) (fun g7 => absurd g7 (by decide)) (fun g7 => ?_)
          refine y_ld (x := .ref t) rfl rfl (fun d => rfl) ?_
          refine y_ld (x := iv (i : Int)) rfl rfl (fun d => rfl) ?_
          refine y_ld (x := .ref pk) rfl rfl (fun d => rfl) ?_
          refine y_ld (x := .ref me) rfl rfl (fun d => rfl) ?_
          refine y_cV (as := [.ref t, iv (i : Int), .ref pk, .ref me]) rfl rfl rfl rfl rfl hX.1 ⟨rfl, (Nat.le_of_ble_eq_true rfl), (Nat.le_of_ble_eq_true rfl)⟩ (by decide) (cc_holds hX hm hμ hP hpk hμr h6 (by omega) b2 b3 b5 hxo.1 hD (by omega) (by omega) ?_)
          refine y_nv ?_
          refine y_beq rfl rfl rfl (fun g8 => ?_) (fun g8 => ?_)
          · refine y_inc (z := ((i + 1 : Nat) : Int)) (lv' := [(3, iv ((i + 1 : Nat) : Int)), (4, iv 1), (0, .ref t), (1, .ref pk), (2, .ref me)]) rfl rfl rfl (by omega) rfl ?_
            refine y_go rfl rfl ?_
            refine y_lv (l' := [(0, .ref t), (1, .ref pk), (2, .ref me), (3, iv ((i + 1 : Nat) : Int))]) rfl ⟨rfl, rfl, rfl, rfl, trivial⟩ ?_
            rw [eL_f (fun hq => by rw [eM_i] at hq; first | exact absurd hq.2 (by assumption) | omega)] at hx2
            exact y_mono (ih (i + 1) r (by simp only [List.length_cons] at hm1; omega) (by omega) (fun j => by rw [show i + 1 + j = i + (j + 1) by omega]; exact hR (j + 1)) hx2) (by omega)
          · refine y_ld (x := iv (i : Int)) rfl rfl (fun d => rfl) ?_
            refine y_rI rfl (Or.inl rfl) ?_
            rw [eL_t (eM_i.mpr ⟨by omega, by assumption⟩)] at hx2
            exact hx2
set_option maxRecDepth 100000 in
set_option maxHeartbeats 4000000 in
theorem cc_lineFor {t me c pk : Nat} {μ : Nat → Int} {a h κ n : Int} {l : List p_Li} (hX : TxS S t) (hm : MeS S me c) (hμ : V c = μ) (hP : PkS S V pk a h κ n) (hpk : pkO a h κ n) (hμr : muO μ) (h6 : V t 6 ≤ 160) (hCT : CT V t l) (hlo : lsO l) (hld : ∀ x ∈ l, lnO x) (hl8 : l.length ≤ 8) (k : K u w (some (iv (eL μ a h κ n 0 l))) S V) : y_R X 5 54 u w [.ref t, .ref pk, .ref me] S V K := by
  refine y_ent (lv' := [(0, .ref t), (1, .ref pk), (2, .ref me)]) (Nat.le_of_ble_eq_true rfl) rfl ?_
  refine y_ic rfl rfl ?_
  refine y_st (lv' := [(3, iv 0), (0, .ref t), (1, .ref pk), (2, .ref me)]) rfl rfl (fun d => rfl) ?_
  refine y_lv (l' := [(0, .ref t), (1, .ref pk), (2, .ref me), (3, iv ((0 : Nat) : Int))]) rfl ⟨rfl, rfl, rfl, rfl, trivial⟩ ?_
  exact y_mono (lp_lineFor (F := 100) hX hm hμ hP hpk hμr h6 hCT hlo hld hl8 9 0 l (by omega) (by omega) (fun j => by rw [Nat.zero_add]) k) (by decide)
set_option maxRecDepth 100000 in
set_option maxHeartbeats 4000000 in
theorem lp_does {t me c pk i : Nat} {a h κ n : Int} (hX : TxS S t) (hm : MeS S me c) (hpk : pkO a h κ n) (hcl : c < 193) (htl : 193 ≤ t) (hkl : 193 ≤ pk) (hi : i < 8) {F : Nat} : ∀ (m : Nat) (j p : Nat) (L : List p_Ac) (W : v_V), L.length < m → (W (t + 4) i = ((j + L.length : Nat) : Int) ∧ j + L.length ≤ 200) → (SG W (t + 5) p (encAc L)) → (acO L) → (PkS S W pk a h κ n) → (muO (W c)) → (((p + (encAc L).length : Nat) : Int) ≤ W t 6) → (W t 6 ≤ 160) → (K u w (some (iv (eA a h κ n L (W c)).1)) S (v_ur W c (eA a h κ n L (W c)).2)) → y_E X 4 56 (100 * m + F) u w 25 [(0, .ref t), (1, iv (i : Int)), (2, .ref pk), (3, .ref me), (4, iv (p : Int)), (5, iv (j : Int))] [] S W K := by
  intro m
  induction m with
  | zero => intros; omega
  | succ m ih =>
    intro j p L W hm1 hE hL ho hP hμr h6b h6 hx2
    refine y_mono (F' := (100 * m + F) + 100) ?_ (by omega)
    refine y_ld (x := iv (j : Int)) rfl rfl (fun d => rfl) ?_
    refine y_ld (x := .ref t) rfl rfl (fun d => rfl) ?_
    refine y_gR (i := 4) rfl rfl rfl hX.1 rfl ?_
    refine y_ld (x := iv (i : Int)) rfl rfl (fun d => rfl) ?_
    refine y_ild (x := ((j + L.length : Nat) : Int)) (q := i) rfl rfl hX.2.2.2.2.1 (by omega) (by decide) (by omega) hE.1 ?_
    refine y_jge rfl rfl rfl (by omega) (fun g1 => ?_) (fun g1 => ?_)
    · refine y_ic rfl rfl ?_
      refine y_rI rfl (Or.inl rfl) ?_
      rcases L with _ | ⟨⟨c1, y⟩, r⟩
      · have e : v_ur W c (eA a h κ n [] (W c)).2 = W := v_ur_self W c
        rw [e] at hx2
        exact hx2
      · exact absurd hE (by simp only [List.length_cons]; omega)
    · rcases L with _ | ⟨⟨c1, y⟩, r⟩
      · exact absurd hE (by simp only [List.length_nil]; omega)
      have hll : (((c1, y) :: r).length) = r.length + 1 := rfl
      have hor : acO r := fun q hq => ho q (List.mem_cons_of_mem _ hq)
      have hc1 := ho _ List.mem_cons_self
      simp only at hc1
      have hpo := hpk
      obtain ⟨p1, p2, p3, p4⟩ := hpo
      have hc4 : c1 = 126 ∨ c1 = 127 ∨ c1 = 128 ∨ (104 ≤ c1 ∧ c1 ≤ 115) := by rcases hc1 with q | q <;> omega
      rcases hc4 with rfl | rfl | rfl | hc4
      · rw [encAc_e (by decide)] at hL h6b
        simp only [List.length_cons] at h6b
        have hL1 := hL.1
        rw [eA_p] at hx2
        rw [v_ur_self] at hx2
        refine y_ld (x := .ref t) rfl rfl (fun d => rfl) ?_
        refine y_ld (x := iv (p : Int)) rfl rfl (fun d => rfl) ?_
        refine y_cV (as := [.ref t, iv (p : Int)]) rfl rfl rfl rfl rfl hX.1 ⟨rfl, (Nat.le_of_ble_eq_true rfl), (Nat.le_of_ble_eq_true rfl)⟩ (by decide) (cc_signAt (q := p) hX rfl (by omega) hL1 ?_)
        refine y_nv ?_
        refine y_st (lv' := [(6, iv 126), (0, .ref t), (1, iv (i : Int)), (2, .ref pk), (3, .ref me), (4, iv (p : Int)), (5, iv (j : Int))]) rfl rfl (fun d => rfl) ?_
        refine y_ld (x := iv 126) rfl rfl (fun d => rfl) ?_
        refine y_bi rfl rfl (by decide) ?_
        refine y_jne rfl rfl rfl (by decide) (fun g2 => absurd g2 (by decide)) (fun g2 => ?_)
        refine y_ic rfl rfl ?_
        refine y_rI rfl (Or.inl rfl) ?_
        exact hx2
      · rw [encAc_e (by decide)] at hL h6b
        simp only [List.length_cons] at h6b
        have hL1 := hL.1
        rw [eA_d] at hx2
        rw [v_ur_self] at hx2
        refine y_ld (x := .ref t) rfl rfl (fun d => rfl) ?_
        refine y_ld (x := iv (p : Int)) rfl rfl (fun d => rfl) ?_
        refine y_cV (as := [.ref t, iv (p : Int)]) rfl rfl rfl rfl rfl hX.1 ⟨rfl, (Nat.le_of_ble_eq_true rfl), (Nat.le_of_ble_eq_true rfl)⟩ (by decide) (cc_signAt (q := p) hX rfl (by omega) hL1 ?_)
        refine y_nv ?_
        refine y_st (lv' := [(6, iv 127), (0, .ref t), (1, iv (i : Int)), (2, .ref pk), (3, .ref me), (4, iv (p : Int)), (5, iv (j : Int))]) rfl rfl (fun d => rfl) ?_
        refine y_ld (x := iv 127) rfl rfl (fun d => rfl) ?_
        refine y_bi rfl rfl (by decide) ?_
        refine y_jne rfl rfl rfl (by decide) (fun g3 => ?_) (fun g3 => absurd g3 (by decide))
        refine y_ld (x := iv 127) rfl rfl (fun d => rfl) ?_
        refine y_bi rfl rfl (by decide) ?_
        refine y_jne rfl rfl rfl (by decide) (fun g4 => absurd g4 (by decide)) (fun g4 => ?_)
        refine y_ic rfl rfl ?_
        refine y_rI rfl (Or.inl rfl) ?_
        exact hx2
      · rw [encAc_e (by decide)] at hL h6b
        simp only [List.length_cons] at h6b
        have hL1 := hL.1
        rw [eA_b] at hx2
        refine y_ld (x := .ref t) rfl rfl (fun d => rfl) ?_
        refine y_ld (x := iv (p : Int)) rfl rfl (fun d => rfl) ?_
        refine y_cV (as := [.ref t, iv (p : Int)]) rfl rfl rfl rfl rfl hX.1 ⟨rfl, (Nat.le_of_ble_eq_true rfl), (Nat.le_of_ble_eq_true rfl)⟩ (by decide) (cc_signAt (q := p) hX rfl (by omega) hL1 ?_)
        refine y_nv ?_
        refine y_st (lv' := [(6, iv 128), (0, .ref t), (1, iv (i : Int)), (2, .ref pk), (3, .ref me), (4, iv (p : Int)), (5, iv (j : Int))]) rfl rfl (fun d => rfl) ?_
        refine y_ld (x := iv 128) rfl rfl (fun d => rfl) ?_
        refine y_bi rfl rfl (by decide) ?_
        refine y_jne rfl rfl rfl (by decide) (fun g5 => ?_) (fun g5 => absurd g5 (by decide))
        refine y_ld (x := iv 128) rfl rfl (fun d => rfl) ?_
        refine y_bi rfl rfl (by decide) ?_
        refine y_jne rfl rfl rfl (by decide) (fun g6 => ?_) (fun g6 => absurd g6 (by decide))
        refine y_ld (x := iv 128) rfl rfl (fun d => rfl) ?_
        refine y_si rfl rfl (by decide) ?_
        refine y_jne rfl rfl rfl (by decide) (fun g7 => absurd g7 (by decide)) (fun g7 => ?_)
        refine y_ld (x := .ref me) rfl rfl (fun d => rfl) ?_
        refine y_ld (x := .ref pk) rfl rfl (fun d => rfl) ?_
        refine y_gI (i := 0) (e := a) rfl rfl rfl hP.1 rfl hP.2.1 ?_
        refine y_iv (e' := ((a.toNat : Nat) : Int)) (by omega) ?_
        refine y_cV (as := [.ref me, iv ((a.toNat : Nat) : Int)]) rfl rfl rfl rfl rfl hm.1 ⟨rfl, (Nat.le_of_ble_eq_true rfl), (Nat.le_of_ble_eq_true rfl)⟩ (by decide) (cc_forget (t := a.toNat) hm (by omega) ?_)
        refine y_n0 ?_
        refine y_ic rfl rfl ?_
        refine y_rI rfl (Or.inl rfl) ?_
        exact hx2
      · have hc5 : smO y ∧ 1 ≤ y.length ∧ y.length ≤ 4 := by
          rcases hc1 with q | q
          · omega
          · exact q.2.2
        rw [encAc_c (by omega)] at hL h6b
        simp only [List.length_cons, List.length_append] at h6b
        obtain ⟨hL1, hL2, hL3⟩ := hL
        have hL4 := SG_app hL3
        rw [eA_c (by omega)] at hx2
        refine y_ld (x := .ref t) rfl rfl (fun d => rfl) ?_
        refine y_ld (x := iv (p : Int)) rfl rfl (fun d => rfl) ?_
        refine y_cV (as := [.ref t, iv (p : Int)]) rfl rfl rfl rfl rfl hX.1 ⟨rfl, (Nat.le_of_ble_eq_true rfl), (Nat.le_of_ble_eq_true rfl)⟩ (by decide) (cc_signAt (q := p) hX rfl (by omega) hL1 ?_)
        refine y_nv ?_
        refine y_st (lv' := [(6, iv c1), (0, .ref t), (1, iv (i : Int)), (2, .ref pk), (3, .ref me), (4, iv (p : Int)), (5, iv (j : Int))]) rfl rfl (fun d => rfl) ?_
        refine y_ld (x := iv c1) rfl rfl (fun d => rfl) ?_
        refine y_bi rfl rfl (by decide) ?_
        refine y_jne rfl rfl rfl (by omega) (fun g8 => ?_) (fun g8 => ?_)
        · refine y_ld (x := iv c1) rfl rfl (fun d => rfl) ?_
          refine y_bi rfl rfl (by decide) ?_
          refine y_jne rfl rfl rfl (by omega) (fun g9 => ?_) (fun g9 => ?_)
          · refine y_ld (x := iv c1) rfl rfl (fun d => rfl) ?_
            refine y_si rfl rfl (by decide) ?_
            refine y_jne rfl rfl rfl (by omega) (fun g10 => ?_) (fun g10 => ?_)
            · refine y_ld (x := .ref t) rfl rfl (fun d => rfl) ?_
              refine y_ld (x := iv (p : Int)) rfl rfl (fun d => rfl) ?_
              refine y_ic rfl rfl ?_
              refine y_add (z := ((p + 1 : Nat) : Int)) rfl rfl (by omega) ?_
              refine y_cV (as := [.ref t, iv ((p + 1 : Nat) : Int)]) rfl rfl rfl rfl rfl hX.1 ⟨rfl, (Nat.le_of_ble_eq_true rfl), (Nat.le_of_ble_eq_true rfl)⟩ (by decide) (cc_signAt (q := p + 1) hX (by omega) (by omega) hL2 ?_)
              refine y_nv ?_
              refine y_st (lv' := [(7, iv (y.length : Int)), (6, iv c1), (0, .ref t), (1, iv (i : Int)), (2, .ref pk), (3, .ref me), (4, iv (p : Int)), (5, iv (j : Int))]) rfl rfl (fun d => rfl) ?_
              refine y_ld (x := .ref t) rfl rfl (fun d => rfl) ?_
              refine y_ld (x := iv (p : Int)) rfl rfl (fun d => rfl) ?_
              refine y_ic rfl rfl ?_
              refine y_add (z := ((p + 1 + 1 : Nat) : Int)) rfl rfl (by omega) ?_
              refine y_ld (x := iv (y.length : Int)) rfl rfl (fun d => rfl) ?_
              refine y_ld (x := .ref pk) rfl rfl (fun d => rfl) ?_
              refine y_ld (x := .ref me) rfl rfl (fun d => rfl) ?_
              refine y_cV (as := [.ref t, iv ((p + 1 + 1 : Nat) : Int), iv (y.length : Int), .ref pk, .ref me]) rfl rfl rfl rfl rfl hX.1 ⟨rfl, (Nat.le_of_ble_eq_true rfl), (Nat.le_of_ble_eq_true rfl)⟩ (by decide) (cc_sumOf (μ := W c) (q := p + 1 + 1) (L := y) hX hm rfl hP hpk hμr (by omega) ⟨by omega, rfl, hc5.2.2⟩ hL4.1 hc5.1 (by omega) ?_)
              refine y_nv ?_
              refine y_st (lv' := [(8, iv (eS (W c) a h κ n 0 y)), (7, iv (y.length : Int)), (6, iv c1), (0, .ref t), (1, iv (i : Int)), (2, .ref pk), (3, .ref me), (4, iv (p : Int)), (5, iv (j : Int))]) rfl rfl (fun d => rfl) ?_
              refine y_ld (x := .ref me) rfl rfl (fun d => rfl) ?_
              refine y_ld (x := iv c1) rfl rfl (fun d => rfl) ?_
              refine y_bi rfl rfl (by decide) ?_
              refine y_sub (z := (c1 - 104)) rfl rfl rfl ?_
              refine y_ld (x := .ref pk) rfl rfl (fun d => rfl) ?_
              refine y_gI (i := 0) (e := a) rfl rfl rfl hP.1 rfl hP.2.1 ?_
              refine y_ld (x := .ref pk) rfl rfl (fun d => rfl) ?_
              refine y_gI (i := 1) (e := h) rfl rfl rfl hP.1 rfl hP.2.2.1 ?_
              have hz := tcd_pl (c := c1) (Or.inr hc4) hpk (by omega)
              refine y_cS (as := [iv (c1 - 104), iv a, iv h]) rfl (by decide) rfl rfl rfl rfl ⟨(Nat.le_of_ble_eq_true rfl), (Nat.le_of_ble_eq_true rfl)⟩ (by decide) (cc_placeOf (by omega) (by omega) (by omega) ?_)
              refine y_nv ?_
              refine y_ld (x := iv (eS (W c) a h κ n 0 y)) rfl rfl (fun d => rfl) ?_
              refine y_top (wr_iv (eS (W c) a h κ n 0 y)) ?_
              refine y_cV (as := [.ref me, iv (z_pl (c1 - 104) a h), iv (wr (eS (W c) a h κ n 0 y))]) rfl rfl rfl rfl rfl hm.1 ⟨rfl, (Nat.le_of_ble_eq_true rfl), (Nat.le_of_ble_eq_true rfl)⟩ (by decide) (cc_put (q := (z_pl (c1 - 104) a h).toNat) hm (by omega) (by omega) ?_)
              refine y_n0 ?_
              refine y_ld (x := iv (p : Int)) rfl rfl (fun d => rfl) ?_
              refine y_ic rfl rfl ?_
              refine y_ld (x := iv (y.length : Int)) rfl rfl (fun d => rfl) ?_
              refine y_add (z := (2 + (y.length : Int))) rfl rfl rfl ?_
              refine y_add (z := ((p + 1 + 1 + y.length : Nat) : Int)) rfl rfl (by omega) ?_
              refine y_st (lv' := [(4, iv ((p + 1 + 1 + y.length : Nat) : Int)), (8, iv (eS (W c) a h κ n 0 y)), (7, iv (y.length : Int)), (6, iv c1), (0, .ref t), (1, iv (i : Int)), (2, .ref pk), (3, .ref me), (5, iv (j : Int))]) rfl rfl (fun d => rfl) ?_
              refine y_inc (z := ((j + 1 : Nat) : Int)) (lv' := [(5, iv ((j + 1 : Nat) : Int)), (4, iv ((p + 1 + 1 + y.length : Nat) : Int)), (8, iv (eS (W c) a h κ n 0 y)), (7, iv (y.length : Int)), (6, iv c1), (0, .ref t), (1, iv (i : Int)), (2, .ref pk), (3, .ref me)]) rfl rfl rfl (by omega) rfl ?_
              refine y_go rfl rfl ?_
              refine y_lv (l' := [(0, .ref t), (1, iv (i : Int)), (2, .ref pk), (3, .ref me), (4, iv ((p + 1 + 1 + y.length : Nat) : Int)), (5, iv ((j + 1 : Nat) : Int))]) rfl ⟨rfl, rfl, rfl, rfl, rfl, rfl, trivial⟩ ?_
              have eu : ∀ f, v_ur (v_up W c ((z_pl (c1 - 104) a h).toNat) (wr (eS (W c) a h κ n 0 y))) c f = v_ur W c f := fun f => by rw [v_up_ur, v_ur_ur]
              have er : (v_up W c ((z_pl (c1 - 104) a h).toNat) (wr (eS (W c) a h κ n 0 y))) c = v_uf (W c) (z_pl (c1 - 104) a h).toNat (wr (eS (W c) a h κ n 0 y)) := v_up_row _ _ _ _
              have en : ∀ k, k ≠ c → (v_up W c ((z_pl (c1 - 104) a h).toNat) (wr (eS (W c) a h κ n 0 y))) k = W k := fun k hk => v_up_ne hk
              refine y_mono (ih (j + 1) (p + 1 + 1 + y.length) r (v_up W c ((z_pl (c1 - 104) a h).toNat) (wr (eS (W c) a h κ n 0 y))) (by simp only [List.length_cons] at hm1; omega) ?_ (SG_c (en _ (by omega)) hL4.2) hor (PkS_r hP (en _ (by omega))) ?_ ?_ ?_ ?_) (by omega)
              · rw [en _ (by omega), hE.1]; omega
              · rw [er]
                intro q hq
                unfold v_uf
                split
                · exact wr_rg _
                · exact hμr q hq
              · rw [en _ (by omega)]; omega
              · rw [en _ (by omega)]; exact h6
              · rw [eu, er]; exact hx2
            · refine y_ld (x := .ref me) rfl rfl (fun d => rfl) ?_
              refine y_ld (x := .ref pk) rfl rfl (fun d => rfl) ?_
              refine y_gI (i := 0) (e := a) rfl rfl rfl hP.1 rfl hP.2.1 ?_
              refine y_iv (e' := ((a.toNat : Nat) : Int)) (by omega) ?_
              refine y_cV (as := [.ref me, iv ((a.toNat : Nat) : Int)]) rfl rfl rfl rfl rfl hm.1 ⟨rfl, (Nat.le_of_ble_eq_true rfl), (Nat.le_of_ble_eq_true rfl)⟩ (by decide) (cc_forget (t := a.toNat) hm (by omega) ?_)
              refine y_n0 ?_
              refine y_ic rfl rfl ?_
              refine y_rI rfl (Or.inl rfl) ?_
              omega
          · refine y_ic rfl rfl ?_
            refine y_rI rfl (Or.inl rfl) ?_
            omega
        · refine y_ic rfl rfl ?_
          refine y_rI rfl (Or.inl rfl) ?_
          omega
set_option maxRecDepth 100000 in
set_option maxHeartbeats 4000000 in
theorem cc_does {t me c pk i : Nat} {a h κ n : Int} (hX : TxS S t) (hm : MeS S me c) (hpk : pkO a h κ n) (hcl : c < 193) (htl : 193 ≤ t) (hkl : 193 ≤ pk) (hi : i < 8) {p : Nat} {L : List p_Ac} (h0 : (i : Int) < V t 0 ∧ V t 0 ≤ 8) (hb : V (t + 3) i = (p : Int)) (hE : V (t + 4) i = (L.length : Int)) (hll : L.length < 200) (hL : SG V (t + 5) p (encAc L)) (ho : acO L) (hP : PkS S V pk a h κ n) (hμr : muO (V c)) (h6b : ((p + (encAc L).length : Nat) : Int) ≤ V t 6) (h6 : V t 6 ≤ 160) (k : K u w (some (iv (eA a h κ n L (V c)).1)) S (v_ur V c (eA a h κ n L (V c)).2)) : y_R X 5 56 u w [.ref t, iv (i : Int), .ref pk, .ref me] S V K := by
  refine y_ent (lv' := [(0, .ref t), (1, iv (i : Int)), (2, .ref pk), (3, .ref me)]) (Nat.le_of_ble_eq_true rfl) rfl ?_
  refine y_ld (x := iv (i : Int)) rfl rfl (fun d => rfl) ?_
  refine y_zlt rfl rfl rfl (by omega) (fun g1 => ?_) (fun g1 => ?_)
  · refine y_ic rfl rfl ?_
    refine y_rI rfl (Or.inl rfl) ?_
    exact absurd h0 (by omega)
  · refine y_ld (x := iv (i : Int)) rfl rfl (fun d => rfl) ?_
    refine y_ld (x := .ref t) rfl rfl (fun d => rfl) ?_
    refine y_gI (i := 0) (e := (V t 0)) rfl rfl rfl hX.1 rfl rfl ?_
    refine y_jlt rfl rfl rfl (by omega) (fun g2 => ?_) (fun g2 => ?_)
    · refine y_ld (x := .ref t) rfl rfl (fun d => rfl) ?_
      refine y_gR (i := 3) rfl rfl rfl hX.1 rfl ?_
      refine y_ld (x := iv (i : Int)) rfl rfl (fun d => rfl) ?_
      refine y_ild (x := (p : Int)) (q := i) rfl rfl hX.2.2.2.1 (by omega) (by decide) (by omega) hb ?_
      refine y_st (lv' := [(4, iv (p : Int)), (0, .ref t), (1, iv (i : Int)), (2, .ref pk), (3, .ref me)]) rfl rfl (fun d => rfl) ?_
      refine y_ic rfl rfl ?_
      refine y_st (lv' := [(5, iv 0), (4, iv (p : Int)), (0, .ref t), (1, iv (i : Int)), (2, .ref pk), (3, .ref me)]) rfl rfl (fun d => rfl) ?_
      refine y_lv (l' := [(0, .ref t), (1, iv (i : Int)), (2, .ref pk), (3, .ref me), (4, iv (p : Int)), (5, iv ((0 : Nat) : Int))]) rfl ⟨rfl, rfl, rfl, rfl, rfl, rfl, trivial⟩ ?_
      exact y_mono (lp_does (F := 100) hX hm hpk hcl htl hkl hi 200 0 p L V hll ⟨by rw [hE, Nat.zero_add], by omega⟩ hL ho hP hμr h6b h6 k) (by decide)
    · refine y_ic rfl rfl ?_
      refine y_rI rfl (Or.inl rfl) ?_
      exact absurd h0 (by omega)
set_option maxRecDepth 100000 in
set_option maxHeartbeats 4000000 in
theorem cc_does5 {t : Nat} (hX : TxS S t) {pk me : Nat} (k : K u w (some (iv 1)) S V) : y_R X 1 56 u w [.ref t, iv (-5), .ref pk, .ref me] S V K := by
  refine y_ent (lv' := [(0, .ref t), (1, iv (-5)), (2, .ref pk), (3, .ref me)]) (Nat.le_of_ble_eq_true rfl) rfl ?_
  refine y_ld (x := iv (-5)) rfl rfl (fun d => rfl) ?_
  refine y_zlt rfl rfl rfl (by decide) (fun g1 => ?_) (fun g1 => absurd g1 (by decide))
  refine y_ic rfl rfl ?_
  refine y_rI rfl (Or.inl rfl) ?_
  exact k
end
