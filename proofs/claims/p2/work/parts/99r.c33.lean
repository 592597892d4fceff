/-! what a TEXT does with a packet: the class -/
/-- a row of numbers stands at a cell from a place on -/
def SG (V : v_V) (a : Nat) : Nat → List Int → Prop
  | _, [] => True
  | p, x :: r => V a p = x ∧ SG V a (p + 1) r
theorem SG_app {V : v_V} {a : Nat} : ∀ {l r : List Int} {p : Nat}, SG V a p (l ++ r) → SG V a p l ∧ SG V a (p + l.length) r
  | [], r, p, h => ⟨trivial, h⟩
  | x :: l, r, p, h => by
    have h2 := SG_app (l := l) (r := r) (p := p + 1) h.2
    exact ⟨⟨h.1, h2.1⟩, by rw [List.length_cons, show p + (l.length + 1) = p + 1 + l.length by omega]; exact h2.2⟩
theorem SG_of {V : v_V} {a : Nat} : ∀ {l : List Int} {p : Nat}, (∀ i x, m_nth l i = some x → V a (p + i) = x) → SG V a p l
  | [], _, _ => trivial
  | x :: l, p, h => ⟨h 0 x rfl, SG_of (fun i y hi => by rw [show p + 1 + i = p + (i + 1) by omega]; exact h (i + 1) y hi)⟩
theorem SG_c {V V' : v_V} {a : Nat} (h : V' a = V a) : ∀ {l : List Int} {p : Nat}, SG V a p l → SG V' a p l
  | [], _, _ => trivial
  | x :: l, p, h2 => ⟨by rw [h]; exact h2.1, SG_c h h2.2⟩
theorem encPc_cut : ∀ (l : List p_Li) (i : Nat) (x : p_Li), m_nth l i = some x → ∃ r, encPc l = encPc (l.take i) ++ (encTc x.2.2.1 ++ (encAc x.2.2.2 ++ r))
  | [], _, _, h => by cases h
  | y :: l, 0, x, h => by
    cases h
    exact ⟨encPc l, by simp [encPc]⟩
  | y :: l, i + 1, x, h => by
    obtain ⟨r, e⟩ := encPc_cut l i x h
    refine ⟨r, ?_⟩
    show (encTc y.2.2.1 ++ encAc y.2.2.2) ++ encPc l = ((encTc y.2.2.1 ++ encAc y.2.2.2) ++ encPc (l.take i)) ++ _
    rw [e]
    simp only [List.append_assoc]
/-- a LINE's signs where the class has them -/
theorem CT_line {V : v_V} {t : Nat} {l : List p_Li} (h : CT V t l) {i : Nat} {x : p_Li} (hi : m_nth l i = some x) : ∃ p : Nat, V (t + 1) i = x.1 ∧ V (t + 2) i = (p : Int) ∧ V (t + 3) i = ((p + (encTc x.2.2.1).length : Nat) : Int) ∧ V (t + 4) i = (x.2.2.2.length : Int) ∧ SG V (t + 5) p (encTc x.2.2.1) ∧ SG V (t + 5) (p + (encTc x.2.2.1).length) (encAc x.2.2.2) ∧ ((p + (encTc x.2.2.1).length + (encAc x.2.2.2).length : Nat) : Int) ≤ V t 6 := by
  obtain ⟨a1, a2, a3, a4, -, -⟩ := h
  obtain ⟨b1, b2, b3, b4⟩ := a4 i x hi
  obtain ⟨r, e⟩ := encPc_cut l i x hi
  have hs : SG V (t + 5) 0 (encPc l) := SG_of (fun j y hj => by rw [Nat.zero_add]; exact a3 j y hj)
  rw [e] at hs
  have h1 := (SG_app hs).2
  rw [Nat.zero_add] at h1
  have h2 := SG_app h1
  have h3 := SG_app h2.2
  refine ⟨(encPc (l.take i)).length, b1, b2, by rw [b3]; omega, b4, h2.1, h3.1, ?_⟩
  rw [a2, e]
  simp only [List.length_append]
  omega
/-- a packet of the class -/
def PkS (S : m_H) (V : v_V) (pk : Nat) (t h k n : Int) : Prop := ce S pk 2 [.int 0, .int 0, .int 0, .int 0] ∧ V pk 0 = t ∧ V pk 1 = h ∧ V pk 2 = k ∧ V pk 3 = n
theorem PkS_r {S : m_H} {V V' : v_V} {pk : Nat} {t h k n : Int} (hp : PkS S V pk t h k n) (e : V' pk = V pk) : PkS S V' pk t h k n := by
  obtain ⟨a, b, c, d, g⟩ := hp
  exact ⟨a, by rw [e]; exact b, by rw [e]; exact c, by rw [e]; exact d, by rw [e]; exact g⟩
theorem CT_r {V V' : v_V} {t : Nat} {l : List p_Li} (h : CT V t l) (e : ∀ i, i ≤ 6 → V' (t + i) = V (t + i)) : CT V' t l := by
  have e0 := e 0 (by decide)
  rw [Nat.add_zero] at e0
  obtain ⟨a1, a2, a3, a4, a5, a6⟩ := h
  refine ⟨by rw [e0]; exact a1, by rw [e0]; exact a2, ?_, ?_, ?_, by rw [e0]; exact a6⟩
  · intro i x hi
    rw [e 5 (by decide)]
    exact a3 i x hi
  · intro i x hi
    rw [e 1 (by decide), e 2 (by decide), e 3 (by decide), e 4 (by decide)]
    exact a4 i x hi
  · intro c hc
    rw [e 6 (by decide)]
    exact a5 c hc
section
variable {X : Nat → List Int32} {u w : Nat} {S : m_H} {V : v_V} {K : v_K}
set_option maxRecDepth 100000 in
set_option maxHeartbeats 4000000 in
theorem cc_signAt {t : Nat} (hX : TxS S t) {x e : Int} {q : Nat} (hq : x = (q : Int)) (h6 : (q : Int) < V t 6 ∧ V t 6 ≤ 160) (he : V (t + 5) q = e) (k : K u w (some (iv e)) S V) : y_R X 1 52 u w [.ref t, iv x] S V K := by
  refine y_ent (lv' := [(0, .ref t), (1, iv x)]) (Nat.le_of_ble_eq_true rfl) rfl ?_
  refine y_ld (x := iv x) rfl rfl (fun d => rfl) ?_
  refine y_zlt rfl rfl rfl (by omega) (fun g1 => ?_) (fun g1 => ?_)
  · refine y_ic rfl rfl ?_
    refine y_rI rfl (Or.inl rfl) ?_
    exact absurd hq (by omega)
  · refine y_ld (x := iv x) rfl rfl (fun d => rfl) ?_
    refine y_ld (x := .ref t) rfl rfl (fun d => rfl) ?_
    refine y_gI (i := 6) (e := (V t 6)) rfl rfl rfl hX.1 rfl rfl ?_
    refine y_jge rfl rfl rfl (by omega) (fun g2 => ?_) (fun g2 => ?_)
    · refine y_ic rfl rfl ?_
      refine y_rI rfl (Or.inl rfl) ?_
      exact absurd hq (by omega)
    · refine y_ld (x := .ref t) rfl rfl (fun d => rfl) ?_
      refine y_gR (i := 5) rfl rfl rfl hX.1 rfl ?_
      refine y_ld (x := iv x) rfl rfl (fun d => rfl) ?_
      refine y_ild (x := e) (q := q) rfl rfl hX.2.2.2.2.2.1 (by omega) (by decide) (by omega) he ?_
      refine y_go rfl rfl ?_
      refine y_rI rfl (Or.inl rfl) ?_
      exact k
set_option maxRecDepth 100000 in
set_option maxHeartbeats 4000000 in
theorem cc_value {me c pk : Nat} {μ : Nat → Int} {a h κ n x : Int} (hm : MeS S me c) (hμ : V c = μ) (hP : PkS S V pk a h κ n) (hpk : pkO a h κ n) (hx : tcd x) (k : K u w (some (iv (eV μ a h κ n x))) S V) : y_R X 2 58 u w [iv x, .ref pk, .ref me] S V K := by
  have hpo := hpk
  obtain ⟨p1, p2, p3, p4⟩ := hpo
  have hxr : 0 ≤ x ∧ x ≤ 115 := by unfold tcd at hx; omega
  refine y_ent (lv' := [(0, iv x), (1, .ref pk), (2, .ref me)]) (Nat.le_of_ble_eq_true rfl) rfl ?_
  refine y_ld (x := iv x) rfl rfl (fun d => rfl) ?_
  refine y_bi rfl rfl (by decide) ?_
  refine y_jge rfl rfl rfl (by omega) (fun g1 => ?_) (fun g1 => ?_)
  · refine y_ld (x := iv x) rfl rfl (fun d => rfl) ?_
    refine y_bi rfl rfl (by decide) ?_
    refine y_jne rfl rfl rfl (by omega) (fun g2 => ?_) (fun g2 => ?_)
    · refine y_ld (x := iv x) rfl rfl (fun d => rfl) ?_
      refine y_bi rfl rfl (by decide) ?_
      refine y_jne rfl rfl rfl (by omega) (fun g3 => ?_) (fun g3 => ?_)
      · refine y_ld (x := iv x) rfl rfl (fun d => rfl) ?_
        refine y_bi rfl rfl (by decide) ?_
        refine y_jne rfl rfl rfl (by omega) (fun g4 => ?_) (fun g4 => ?_)
        · refine y_ld (x := .ref me) rfl rfl (fun d => rfl) ?_
          refine y_ld (x := iv x) rfl rfl (fun d => rfl) ?_
          refine y_bi rfl rfl (by decide) ?_
          refine y_sub (z := (x - 104)) rfl rfl rfl ?_
          refine y_ld (x := .ref pk) rfl rfl (fun d => rfl) ?_
          refine y_gI (i := 0) (e := a) rfl rfl rfl hP.1 rfl hP.2.1 ?_
          refine y_ld (x := .ref pk) rfl rfl (fun d => rfl) ?_
          refine y_gI (i := 1) (e := h) rfl rfl rfl hP.1 rfl hP.2.2.1 ?_
          have hz := tcd_pl hx hpk (by omega)
          refine y_cS (as := [iv (x - 104), iv a, iv h]) rfl (by decide) rfl rfl rfl rfl ⟨(Nat.le_of_ble_eq_true rfl), (Nat.le_of_ble_eq_true rfl)⟩ (by decide) (cc_placeOf (by unfold tcd at hx; omega) (by omega) (by omega) ?_)
          refine y_nv ?_
          refine y_cV (as := [.ref me, iv (z_pl (x - 104) a h)]) rfl rfl rfl rfl rfl hm.1 ⟨rfl, (Nat.le_of_ble_eq_true rfl), (Nat.le_of_ble_eq_true rfl)⟩ (by decide) (cc_at2 (q := (z_pl (x - 104) a h).toNat) hm (by omega) (by omega) (congrFun hμ _) ?_)
          refine y_nv ?_
          refine y_rI rfl (Or.inl rfl) ?_
          have e : eV μ a h κ n x = μ (z_pl (x - 104) a h).toNat := by
            unfold eV
            rw [if_neg (by omega), if_neg (by omega), if_neg (by omega), if_neg (by omega)]
          rwa [e] at k
        · refine y_ld (x := .ref pk) rfl rfl (fun d => rfl) ?_
          refine y_gI (i := 3) (e := n) rfl rfl rfl hP.1 rfl hP.2.2.2.2 ?_
          refine y_rI rfl (Or.inl rfl) ?_
          have e : eV μ a h κ n x = n := by
            unfold eV
            rw [if_neg (by omega), if_neg (by omega), if_neg (by omega), if_pos (by omega)]
          rwa [e] at k
      · refine y_ld (x := .ref pk) rfl rfl (fun d => rfl) ?_
        refine y_gI (i := 1) (e := h) rfl rfl rfl hP.1 rfl hP.2.2.1 ?_
        refine y_rI rfl (Or.inl rfl) ?_
        have e : eV μ a h κ n x = h := by
          unfold eV
          rw [if_neg (by omega), if_neg (by omega), if_pos (by omega)]
        rwa [e] at k
    · refine y_ld (x := .ref pk) rfl rfl (fun d => rfl) ?_
      refine y_gI (i := 2) (e := κ) rfl rfl rfl hP.1 rfl hP.2.2.2.1 ?_
      refine y_rI rfl (Or.inl rfl) ?_
      have e : eV μ a h κ n x = κ := by
        unfold eV
        rw [if_neg (by omega), if_pos (by omega)]
      rwa [e] at k
  · refine y_ld (x := iv x) rfl rfl (fun d => rfl) ?_
    refine y_rI rfl (Or.inl rfl) ?_
    have e : eV μ a h κ n x = x := by
      unfold eV
      rw [if_pos (by omega)]
    rwa [e] at k
set_option maxRecDepth 100000 in
set_option maxHeartbeats 4000000 in
theorem lp_sumOf {t me c pk : Nat} {μ : Nat → Int} {a h κ n : Int} (hX : TxS S t) (hm : MeS S me c) (hμ : V c = μ) (hP : PkS S V pk a h κ n) (hpk : pkO a h κ n) (hμr : muO μ) {b d : Int} (h6 : V t 6 ≤ 160) {F : Nat} : ∀ (m : Nat) (p : Nat) (s : Int) (L : List Int), L.length < m → (b + d = (p : Int) + L.length ∧ 0 ≤ b ∧ 0 ≤ d ∧ d ≤ 4 ∧ b ≤ 160) → (SG V (t + 5) p L) → (smO L) → ((p : Int) + L.length ≤ V t 6) → (K u w (some (iv (eS μ a h κ n s L))) S V) → y_E X 2 57 (60 * m + F) u w 6 [(0, .ref t), (1, iv b), (2, iv d), (3, .ref pk), (4, .ref me), (5, iv s), (6, iv (p : Int))] [] S V K := by
  intro m
  induction m with
  | zero => intros; omega
  | succ m ih =>
    intro p s L hm1 hb hL ho h6b hx2
    refine y_mono (F' := (60 * m + F) + 60) ?_ (by omega)
    refine y_ld (x := iv (p : Int)) rfl rfl (fun d => rfl) ?_
    refine y_ld (x := iv b) rfl rfl (fun d => rfl) ?_
    refine y_ld (x := iv d) rfl rfl (fun d => rfl) ?_
    refine y_add (z := (b + d)) rfl rfl rfl ?_
    refine y_jge rfl rfl rfl (by omega) (fun g1 => ?_) (fun g1 => ?_)
    · refine y_ld (x := iv s) rfl rfl (fun d => rfl) ?_
      refine y_rI rfl (Or.inl rfl) ?_
      rcases L with _ | ⟨y, r⟩
      · exact hx2
      · exact absurd hb (by simp only [List.length_cons]; omega)
    · rcases L with _ | ⟨y, r⟩
      · exact absurd hb (by simp only [List.length_nil]; omega)
      have hL1 := hL.1
      have hy := ho y List.mem_cons_self
      have hl : ((y :: r).length : Int) = r.length + 1 := by simp
      have hyr : 0 ≤ y ∧ y ≤ 371 := by unfold raw tcd at hy; split at hy <;> omega
      refine y_ld (x := .ref t) rfl rfl (fun d => rfl) ?_
      refine y_ld (x := iv (p : Int)) rfl rfl (fun d => rfl) ?_
      refine y_cV (as := [.ref t, iv (p : Int)]) rfl rfl rfl rfl rfl hX.1 ⟨rfl, (Nat.le_of_ble_eq_true rfl), (Nat.le_of_ble_eq_true rfl)⟩ (by decide) (cc_signAt (q := p) hX rfl (by omega) hL1 ?_)
      refine y_nv ?_
      refine y_st (lv' := [(7, iv y), (0, .ref t), (1, iv b), (2, iv d), (3, .ref pk), (4, .ref me), (5, iv s), (6, iv (p : Int))]) rfl rfl (fun d => rfl) ?_
      refine y_ld (x := iv y) rfl rfl (fun d => rfl) ?_
      refine y_si rfl rfl (by decide) ?_
      refine y_jlt rfl rfl rfl (by omega) (fun g2 => ?_) (fun g2 => ?_)
      · refine y_ld (x := iv s) rfl rfl (fun d => rfl) ?_
        refine y_ld (x := iv y) rfl rfl (fun d => rfl) ?_
        refine y_ld (x := .ref pk) rfl rfl (fun d => rfl) ?_
        refine y_ld (x := .ref me) rfl rfl (fun d => rfl) ?_
        have hv := eV_rg (c := y) hμr (by have hy2 := hy; unfold raw at hy2; first | rwa [if_pos (by omega)] at hy2 | rwa [if_neg (by omega)] at hy2) hpk
        refine y_cS (as := [iv y, .ref pk, .ref me]) rfl (by decide) rfl rfl rfl rfl ⟨(Nat.le_of_ble_eq_true rfl), (Nat.le_of_ble_eq_true rfl)⟩ (by decide) (cc_value (μ := μ) hm hμ hP hpk (by have hy2 := hy; unfold raw at hy2; first | rwa [if_pos (by omega)] at hy2 | rwa [if_neg (by omega)] at hy2) ?_)
        refine y_nv ?_
        refine y_add (z := (s + (eV μ a h κ n y))) rfl rfl rfl ?_
        refine y_st (lv' := [(5, iv (s + (eV μ a h κ n y))), (7, iv y), (0, .ref t), (1, iv b), (2, iv d), (3, .ref pk), (4, .ref me), (6, iv (p : Int))]) rfl rfl (fun d => rfl) ?_
        refine y_inc (z := ((p + 1 : Nat) : Int)) (lv' := [(6, iv ((p + 1 : Nat) : Int)), (5, iv (s + (eV μ a h κ n y))), (7, iv y), (0, .ref t), (1, iv b), (2, iv d), (3, .ref pk), (4, .ref me)]) rfl rfl rfl (by omega) rfl ?_
        refine y_go rfl rfl ?_
        refine y_lv (l' := [(0, .ref t), (1, iv b), (2, iv d), (3, .ref pk), (4, .ref me), (5, iv (s + (eV μ a h κ n y))), (6, iv ((p + 1 : Nat) : Int))]) rfl ⟨rfl, rfl, rfl, rfl, rfl, rfl, rfl, trivial⟩ ?_
        rw [show s + (eV μ a h κ n y) = eS1 μ a h κ n s y from (if_pos (by omega)).symm]
        exact y_mono (ih (p + 1) _ r (by simp only [List.length_cons] at hm1; omega) (by omega) hL.2 (fun x hx => ho x (List.mem_cons_of_mem _ hx)) (by omega) hx2) (by omega)
      · refine y_ld (x := iv s) rfl rfl (fun d => rfl) ?_
        refine y_ld (x := iv y) rfl rfl (fun d => rfl) ?_
        refine y_si rfl rfl (by decide) ?_
        refine y_sub (z := (y - 256)) rfl rfl rfl ?_
        refine y_ld (x := .ref pk) rfl rfl (fun d => rfl) ?_
        refine y_ld (x := .ref me) rfl rfl (fun d => rfl) ?_
        have hv := eV_rg (c := y - 256) hμr (by have hy2 := hy; unfold raw at hy2; first | rwa [if_pos (by omega)] at hy2 | rwa [if_neg (by omega)] at hy2) hpk
        refine y_cS (as := [iv (y - 256), .ref pk, .ref me]) rfl (by decide) rfl rfl rfl rfl ⟨(Nat.le_of_ble_eq_true rfl), (Nat.le_of_ble_eq_true rfl)⟩ (by decide) (cc_value (μ := μ) hm hμ hP hpk (by have hy2 := hy; unfold raw at hy2; first | rwa [if_pos (by omega)] at hy2 | rwa [if_neg (by omega)] at hy2) ?_)
        refine y_nv ?_
        refine y_sub (z := (s - (eV μ a h κ n (y - 256)))) rfl rfl rfl ?_
        refine y_st (lv' := [(5, iv (s - (eV μ a h κ n (y - 256)))), (7, iv y), (0, .ref t), (1, iv b), (2, iv d), (3, .ref pk), (4, .ref me), (6, iv (p : Int))]) rfl rfl (fun d => rfl) ?_
        refine y_go rfl rfl ?_
        refine y_inc (z := ((p + 1 : Nat) : Int)) (lv' := [(6, iv ((p + 1 : Nat) : Int)), (5, iv (s - (eV μ a h κ n (y - 256)))), (7, iv y), (0, .ref t), (1, iv b), (2, iv d), (3, .ref pk), (4, .ref me)]) rfl rfl rfl (by omega) rfl ?_
        refine y_go rfl rfl ?_
        refine y_lv (l' := [(0, .ref t), (1, iv b), (2, iv d), (3, .ref pk), (4, .ref me), (5, iv (s - (eV μ a h κ n (y - 256)))), (6, iv ((p + 1 : Nat) : Int))]) rfl ⟨rfl, rfl, rfl, rfl, rfl, rfl, rfl, trivial⟩ ?_
        rw [show s - (eV μ a h κ n (y - 256)) = eS1 μ a h κ n s y from (if_neg (by omega)).symm]
        exact y_mono (ih (p + 1) _ r (by simp only [List.length_cons] at hm1; omega) (by omega) hL.2 (fun x hx => ho x (List.mem_cons_of_mem _ hx)) (by omega) hx2) (by omega)
set_option maxRecDepth 100000 in
set_option maxHeartbeats 4000000 in
theorem cc_sumOf {t me c pk : Nat} {μ : Nat → Int} {a h κ n : Int} (hX : TxS S t) (hm : MeS S me c) (hμ : V c = μ) (hP : PkS S V pk a h κ n) (hpk : pkO a h κ n) (hμr : muO μ) {b d : Int} (h6 : V t 6 ≤ 160) {q : Nat} {L : List Int} (hb : b = (q : Int) ∧ d = L.length ∧ L.length ≤ 4) (hL : SG V (t + 5) q L) (ho : smO L) (h6b : (q : Int) + L.length ≤ V t 6) (k : K u w (some (iv (eS μ a h κ n 0 L))) S V) : y_R X 3 57 u w [.ref t, iv b, iv d, .ref pk, .ref me] S V K := by
  refine y_ent (lv' := [(0, .ref t), (1, iv b), (2, iv d), (3, .ref pk), (4, .ref me)]) (Nat.le_of_ble_eq_true rfl) rfl ?_
  refine y_ic rfl rfl ?_
  refine y_st (lv' := [(5, iv 0), (0, .ref t), (1, iv b), (2, iv d), (3, .ref pk), (4, .ref me)]) rfl rfl (fun d => rfl) ?_
  refine y_ld (x := iv b) rfl rfl (fun d => rfl) ?_
  refine y_st (lv' := [(6, iv b), (5, iv 0), (0, .ref t), (1, iv b), (2, iv d), (3, .ref pk), (4, .ref me)]) rfl rfl (fun d => rfl) ?_
  refine y_lv (l' := [(0, .ref t), (1, iv b), (2, iv d), (3, .ref pk), (4, .ref me), (5, iv 0), (6, iv (q : Int))]) rfl ⟨rfl, rfl, rfl, rfl, rfl, rfl, congrArg (fun e => some (iv e)) hb.1, trivial⟩ ?_
  exact y_mono (lp_sumOf (F := 100) hX hm hμ hP hpk hμr h6 5 q 0 L (by omega) (by omega) hL ho h6b k) (by decide)
set_option maxRecDepth 100000 in
set_option maxHeartbeats 4000000 in
theorem lp_holds {t me c pk : Nat} {μ : Nat → Int} {a h κ n : Int} (hX : TxS S t) (hm : MeS S me c) (hμ : V c = μ) (hP : PkS S V pk a h κ n) (hpk : pkO a h κ n) (hμr : muO μ) (h6 : V t 6 ≤ 160) {i D : Nat} (hi : i < 8) {F : Nat} : ∀ (m : Nat) (p : Nat) (s : List Bool) (L : List p_Tk), L.length < m → (V (t + 3) i = ((p + (encTc L).length : Nat) : Int)) → (SG V (t + 5) p (encTc L)) → (tkO L) → (dpt 14 L s.length D) → (s.length ≤ 14) → (((p + (encTc L).length : Nat) : Int) ≤ V t 6) → (K u w (some (iv (v_b (hd1 (eK μ a h κ n L s) = true)))) S V) → y_E X 3 55 (100 * m + F) u w 11 [(0, .ref t), (1, iv (i : Int)), (2, .ref pk), (3, .ref me), (4, iv (bB s)), (5, iv (p : Int))] [] S V K := by
  intro m
  induction m with
  | zero => intros; omega
  | succ m ih =>
    intro p s L hm1 hE hL ho hd hs h6b hx2
    refine y_mono (F' := (100 * m + F) + 100) ?_ (by omega)
    refine y_ld (x := iv (p : Int)) rfl rfl (fun d => rfl) ?_
    refine y_ld (x := .ref t) rfl rfl (fun d => rfl) ?_
    refine y_gR (i := 3) rfl rfl rfl hX.1 rfl ?_
    refine y_ld (x := iv (i : Int)) rfl rfl (fun d => rfl) ?_
    refine y_ild (x := ((p + (encTc L).length : Nat) : Int)) (q := i) rfl rfl hX.2.2.2.1 (by omega) (by decide) (by omega) hE ?_
    refine y_jge rfl rfl rfl (by omega) (fun g1 => ?_) (fun g1 => ?_)
    · obtain rfl : L = [] := by
        rcases L with _ | ⟨⟨c1, x, y⟩, r⟩
        · rfl
        · exfalso
          have : 1 ≤ (encTc ((c1, x, y) :: r)).length := by
            by_cases hc : c1 ≤ 122
            · rw [encTc_t hc]; simp only [List.length_cons]; omega
            · rw [encTc_o hc]; simp only [List.length_cons]; omega
          omega
      refine y_ld (x := iv (bB s)) rfl rfl (fun d => rfl) ?_
      refine y_ic rfl rfl ?_
      refine y_op (z := (if hd1 s = true then 1 else 0)) rfl rfl (fun d => rfl) ((v_and1 (by have := bB_bd hs; omega)).trans (congrArg Int32.ofInt (bB_hd s))) ?_
      refine y_ic rfl rfl ?_
      refine y_jne rfl rfl rfl (by split <;> omega) (fun g2 => ?_) (fun g2 => ?_)
      · refine y_ic rfl rfl ?_
        refine y_rI rfl (by decide) ?_
        have e : v_b (hd1 (eK μ a h κ n [] s) = true) = 0 := by
          show v_b (hd1 s = true) = 0
          exact v_b0 (fun hq => by rw [if_pos hq] at g2; omega)
        rwa [e] at hx2
      · refine y_ic rfl rfl ?_
        refine y_go rfl rfl ?_
        refine y_rI rfl (by decide) ?_
        have e : v_b (hd1 (eK μ a h κ n [] s) = true) = 1 := by
          show v_b (hd1 s = true) = 1
          exact v_b1 (by by_cases hq : hd1 s = true; exact hq; rw [if_neg hq] at g2; omega)
        rwa [e] at hx2
    · rcases L with _ | ⟨⟨c1, x, y⟩, r⟩
      · exact absurd hE (by simp only [encTc, List.length_nil]; omega)
      have hl : (((c1, x, y) :: r).length) = r.length + 1 := rfl
      have hor : tkO r := fun q hq => ho q (List.mem_cons_of_mem _ hq)
      have hc6 : c1 = 120 ∨ c1 = 121 ∨ c1 = 122 ∨ c1 = 123 ∨ c1 = 124 ∨ c1 = 125 := by
        by_cases h122 : c1 ≤ 122
        · have := ho _ List.mem_cons_self h122
          simp only at this
          omega
        · by_cases h123 : c1 = 123
          · omega
          · have := (dpt_jj (by omega) hd).1
            omega
      rcases hc6 with rfl | rfl | rfl | rfl | rfl | rfl
      · have hw := ho _ List.mem_cons_self (by decide : (120 : Int) ≤ 122)
        have hwx : tcd x := hw.2.1
        have hwy : tcd y := hw.2.2
        rw [encTc_t (by decide)] at hE hL h6b
        simp only [List.length_cons] at hE h6b
        obtain ⟨hL1, hL2, hL3, hL4⟩ := hL
        obtain ⟨hd1, hd2⟩ := dpt_tt (by decide) hd
        have hvx := eV_rg hμr hwx hpk
        have hvy := eV_rg hμr hwy hpk
        rw [eK_t (by decide), eT_0] at hx2
        refine y_ld (x := .ref t) rfl rfl (fun d => rfl) ?_
        refine y_ld (x := iv (p : Int)) rfl rfl (fun d => rfl) ?_
        refine y_cV (as := [.ref t, iv (p : Int)]) rfl rfl rfl rfl rfl hX.1 ⟨rfl, (Nat.le_of_ble_eq_true rfl), (Nat.le_of_ble_eq_true rfl)⟩ (by decide) (cc_signAt (q := p) hX (by omega) (by omega) hL1 ?_)
        refine y_nv ?_
        refine y_st (lv' := [(6, iv 120), (0, .ref t), (1, iv (i : Int)), (2, .ref pk), (3, .ref me), (4, iv (bB s)), (5, iv (p : Int))]) rfl rfl (fun d => rfl) ?_
        refine y_inc (z := ((p + 1 : Nat) : Int)) (lv' := [(5, iv ((p + 1 : Nat) : Int)), (6, iv 120), (0, .ref t), (1, iv (i : Int)), (2, .ref pk), (3, .ref me), (4, iv (bB s))]) rfl rfl rfl (by omega) rfl ?_
        refine y_ld (x := iv 120) rfl rfl (fun d => rfl) ?_
        refine y_bi rfl rfl (by decide) ?_
        refine y_jne rfl rfl rfl (by decide) (fun g3 => ?_) (fun g3 => absurd g3 (by decide))
        refine y_ld (x := iv 120) rfl rfl (fun d => rfl) ?_
        refine y_bi rfl rfl (by decide) ?_
        refine y_jne rfl rfl rfl (by decide) (fun g4 => ?_) (fun g4 => absurd g4 (by decide))
        refine y_ld (x := iv 120) rfl rfl (fun d => rfl) ?_
        refine y_bi rfl rfl (by decide) ?_
        refine y_jne rfl rfl rfl (by decide) (fun g5 => ?_) (fun g5 => absurd g5 (by decide))
        refine y_ld (x := .ref t) rfl rfl (fun d => rfl) ?_
        refine y_ld (x := iv ((p + 1 : Nat) : Int)) rfl rfl (fun d => rfl) ?_
        refine y_cV (as := [.ref t, iv ((p + 1 : Nat) : Int)]) rfl rfl rfl rfl rfl hX.1 ⟨rfl, (Nat.le_of_ble_eq_true rfl), (Nat.le_of_ble_eq_true rfl)⟩ (by decide) (cc_signAt (q := p + 1) hX (by omega) (by omega) hL2 ?_)
        refine y_nv ?_
        refine y_ld (x := .ref pk) rfl rfl (fun d => rfl) ?_
        refine y_ld (x := .ref me) rfl rfl (fun d => rfl) ?_
        refine y_cS (as := [iv x, .ref pk, .ref me]) rfl (by decide) rfl rfl rfl rfl ⟨(Nat.le_of_ble_eq_true rfl), (Nat.le_of_ble_eq_true rfl)⟩ (by decide) (cc_value (μ := μ) hm hμ hP hpk hwx ?_)
        refine y_nv ?_
        refine y_st (lv' := [(7, iv (eV μ a h κ n x)), (5, iv ((p + 1 : Nat) : Int)), (6, iv 120), (0, .ref t), (1, iv (i : Int)), (2, .ref pk), (3, .ref me), (4, iv (bB s))]) rfl rfl (fun d => rfl) ?_
        refine y_ld (x := .ref t) rfl rfl (fun d => rfl) ?_
        refine y_ld (x := iv ((p + 1 : Nat) : Int)) rfl rfl (fun d => rfl) ?_
        refine y_ic rfl rfl ?_
        refine y_add (z := ((p + 1 + 1 : Nat) : Int)) rfl rfl (by omega) ?_
        refine y_cV (as := [.ref t, iv ((p + 1 + 1 : Nat) : Int)]) rfl rfl rfl rfl rfl hX.1 ⟨rfl, (Nat.le_of_ble_eq_true rfl), (Nat.le_of_ble_eq_true rfl)⟩ (by decide) (cc_signAt (q := p + 1 + 1) hX (by omega) (by omega) hL3 ?_)
        refine y_nv ?_
        refine y_ld (x := .ref pk) rfl rfl (fun d => rfl) ?_
        refine y_ld (x := .ref me) rfl rfl (fun d => rfl) ?_
        refine y_cS (as := [iv y, .ref pk, .ref me]) rfl (by decide) rfl rfl rfl rfl ⟨(Nat.le_of_ble_eq_true rfl), (Nat.le_of_ble_eq_true rfl)⟩ (by decide) (cc_value (μ := μ) hm hμ hP hpk hwy ?_)
        refine y_nv ?_
        refine y_st (lv' := [(8, iv (eV μ a h κ n y)), (7, iv (eV μ a h κ n x)), (5, iv ((p + 1 : Nat) : Int)), (6, iv 120), (0, .ref t), (1, iv (i : Int)), (2, .ref pk), (3, .ref me), (4, iv (bB s))]) rfl rfl (fun d => rfl) ?_
        refine y_ld (x := iv 120) rfl rfl (fun d => rfl) ?_
        refine y_bi rfl rfl (by decide) ?_
        refine y_jne rfl rfl rfl (by decide) (fun g6 => absurd g6 (by decide)) (fun g6 => ?_)
        refine y_ld (x := iv (eV μ a h κ n x)) rfl rfl (fun d => rfl) ?_
        refine y_ld (x := iv (eV μ a h κ n y)) rfl rfl (fun d => rfl) ?_
        refine y_jge rfl rfl rfl (by omega) (fun g7 => ?_) (fun g7 => ?_)
        · refine y_ic rfl rfl ?_
          refine y_go rfl rfl ?_
          refine y_st (lv' := [(9, iv 0), (8, iv (eV μ a h κ n y)), (7, iv (eV μ a h κ n x)), (5, iv ((p + 1 : Nat) : Int)), (6, iv 120), (0, .ref t), (1, iv (i : Int)), (2, .ref pk), (3, .ref me), (4, iv (bB s))]) rfl rfl (fun d => rfl) ?_
          refine y_ld (x := iv (bB s)) rfl rfl (fun d => rfl) ?_
          refine y_ic rfl rfl ?_
          refine y_op (z := (bB (false :: s))) rfl rfl (fun d => rfl) (bB_sl hs) ?_
          refine y_ld (x := iv 0) rfl rfl (fun d => rfl) ?_
          refine y_zeq rfl rfl rfl (by decide) (fun g8 => ?_) (fun g8 => absurd g8 (by decide))
          refine y_ic rfl rfl ?_
          refine y_op (z := (bB (false :: s))) rfl rfl (fun d => rfl) (bB_o0 false s) ?_
          refine y_st (lv' := [(4, iv (bB (false :: s))), (9, iv 0), (8, iv (eV μ a h κ n y)), (7, iv (eV μ a h κ n x)), (5, iv ((p + 1 : Nat) : Int)), (6, iv 120), (0, .ref t), (1, iv (i : Int)), (2, .ref pk), (3, .ref me)]) rfl rfl (fun d => rfl) ?_
          refine y_inc (z := ((p + 3 : Nat) : Int)) (lv' := [(5, iv ((p + 3 : Nat) : Int)), (4, iv (bB (false :: s))), (9, iv 0), (8, iv (eV μ a h κ n y)), (7, iv (eV μ a h κ n x)), (6, iv 120), (0, .ref t), (1, iv (i : Int)), (2, .ref pk), (3, .ref me)]) rfl rfl rfl (by omega) rfl ?_
          refine y_go rfl rfl ?_
          refine y_lv (l' := [(0, .ref t), (1, iv (i : Int)), (2, .ref pk), (3, .ref me), (4, iv (bB (false :: s))), (5, iv ((p + 3 : Nat) : Int))]) rfl ⟨rfl, rfl, rfl, rfl, rfl, rfl, trivial⟩ ?_
          rw [decide_eq_false (by omega)] at hx2
          exact y_mono (ih (p + 3) (false :: s) r (by simp only [List.length_cons] at hm1; omega) (by rw [hE]; omega) hL4 hor hd2 (by simp only [List.length_cons]; omega) (by omega) hx2) (by omega)
        · refine y_ic rfl rfl ?_
          refine y_go rfl rfl ?_
          refine y_st (lv' := [(9, iv 1), (8, iv (eV μ a h κ n y)), (7, iv (eV μ a h κ n x)), (5, iv ((p + 1 : Nat) : Int)), (6, iv 120), (0, .ref t), (1, iv (i : Int)), (2, .ref pk), (3, .ref me), (4, iv (bB s))]) rfl rfl (fun d => rfl) ?_
          refine y_ld (x := iv (bB s)) rfl rfl (fun d => rfl) ?_
          refine y_ic rfl rfl ?_
          refine y_op (z := (bB (false :: s))) rfl rfl (fun d => rfl) (bB_sl hs) ?_
          refine y_ld (x := iv 1) rfl rfl (fun d => rfl) ?_
          refine y_zeq rfl rfl rfl (by decide) (fun g9 => absurd g9 (by decide)) (fun g9 => ?_)
          refine y_ic rfl rfl ?_
          refine y_go rfl rfl ?_
          refine y_op (z := (bB (true :: s))) rfl rfl (fun d => rfl) (bB_o1 false s) ?_
          refine y_st (lv' := [(4, iv (bB (true :: s))), (9, iv 1), (8, iv (eV μ a h κ n y)), (7, iv (eV μ a h κ n x)), (5, iv ((p + 1 : Nat) : Int)), (6, iv 120), (0, .ref t), (1, iv (i : Int)), (2, .ref pk), (3, .ref me)]) rfl rfl (fun d => rfl) ?_
          refine y_inc (z := ((p + 3 : Nat) : Int)) (lv' := [(5, iv ((p + 3 : Nat) : Int)), (4, iv (bB (true :: s))), (9, iv 1), (8, iv (eV μ a h κ n y)), (7, iv (eV μ a h κ n x)), (6, iv 120), (0, .ref t), (1, iv (i : Int)), (2, .ref pk), (3, .ref me)]) rfl rfl rfl (by omega) rfl ?_
          refine y_go rfl rfl ?_
          refine y_lv (l' := [(0, .ref t), (1, iv (i : Int)), (2, .ref pk), (3, .ref me), (4, iv (bB (true :: s))), (5, iv ((p + 3 : Nat) : Int))]) rfl ⟨rfl, rfl, rfl, rfl, rfl, rfl, trivial⟩ ?_
          rw [decide_eq_true (by omega)] at hx2
          exact y_mono (ih (p + 3) (true :: s) r (by simp only [List.length_cons] at hm1; omega) (by rw [hE]; omega) hL4 hor hd2 (by simp only [List.length_cons]; omega) (by omega) hx2) (by omega)
      · have hw := ho _ List.mem_cons_self (by decide : (121 : Int) ≤ 122)
        have hwx : tcd x := hw.2.1
        have hwy : tcd y := hw.2.2
        rw [encTc_t (by decide)] at hE hL h6b
        simp only [List.length_cons] at hE h6b
        obtain ⟨hL1, hL2, hL3, hL4⟩ := hL
        obtain ⟨hd1, hd2⟩ := dpt_tt (by decide) hd
        have hvx := eV_rg hμr hwx hpk
        have hvy := eV_rg hμr hwy hpk
        rw [eK_t (by decide), eT_1] at hx2
        refine y_ld (x := .ref t) rfl rfl (fun d => rfl) ?_
        refine y_ld (x := iv (p : Int)) rfl rfl (fun d => rfl) ?_
        refine y_cV (as := [.ref t, iv (p : Int)]) rfl rfl rfl rfl rfl hX.1 ⟨rfl, (Nat.le_of_ble_eq_true rfl), (Nat.le_of_ble_eq_true rfl)⟩ (by decide) (cc_signAt (q := p) hX (by omega) (by omega) hL1 ?_)
        refine y_nv ?_
        refine y_st (lv' := [(6, iv 121), (0, .ref t), (1, iv (i : Int)), (2, .ref pk), (3, .ref me), (4, iv (bB s)), (5, iv (p : Int))]) rfl rfl (fun d => rfl) ?_
        refine y_inc (z := ((p + 1 : Nat) : Int)) (lv' := [(5, iv ((p + 1 : Nat) : Int)), (6, iv 121), (0, .ref t), (1, iv (i : Int)), (2, .ref pk), (3, .ref me), (4, iv (bB s))]) rfl rfl rfl (by omega) rfl ?_
        refine y_ld (x := iv 121) rfl rfl (fun d => rfl) ?_
        refine y_bi rfl rfl (by decide) ?_
        refine y_jne rfl rfl rfl (by decide) (fun g10 => ?_) (fun g10 => absurd g10 (by decide))
        refine y_ld (x := iv 121) rfl rfl (fun d => rfl) ?_
        refine y_bi rfl rfl (by decide) ?_
        refine y_jne rfl rfl rfl (by decide) (fun g11 => ?_) (fun g11 => absurd g11 (by decide))
        refine y_ld (x := iv 121) rfl rfl (fun d => rfl) ?_
        refine y_bi rfl rfl (by decide) ?_
        refine y_jne rfl rfl rfl (by decide) (fun g12 => ?_) (fun g12 => absurd g12 (by decide))
        refine y_ld (x := .ref t) rfl rfl (fun d => rfl) ?_
        refine y_ld (x := iv ((p + 1 : Nat) : Int)) rfl rfl (fun d => rfl) ?_
        refine y_cV (as := [.ref t, iv ((p + 1 : Nat) : Int)]) rfl rfl rfl rfl rfl hX.1 ⟨rfl, (Nat.le_of_ble_eq_true rfl), (Nat.le_of_ble_eq_true rfl)⟩ (by decide) (cc_signAt (q := p + 1) hX (by omega) (by omega) hL2 ?_)
        refine y_nv ?_
        refine y_ld (x := .ref pk) rfl rfl (fun d => rfl) ?_
        refine y_ld (x := .ref me) rfl rfl (fun d => rfl) ?_
        refine y_cS (as := [iv x, .ref pk, .ref me]) rfl (by decide) rfl rfl rfl rfl ⟨(Nat.le_of_ble_eq_true rfl), (Nat.le_of_ble_eq_true rfl)⟩ (by decide) (cc_value (μ := μ) hm hμ hP hpk hwx ?_)
        refine y_nv ?_
        refine y_st (lv' := [(7, iv (eV μ a h κ n x)), (5, iv ((p + 1 : Nat) : Int)), (6, iv 121), (0, .ref t), (1, iv (i : Int)), (2, .ref pk), (3, .ref me), (4, iv (bB s))]) rfl rfl (fun d => rfl) ?_
        refine y_ld (x := .ref t) rfl rfl (fun d => rfl) ?_
        refine y_ld (x := iv ((p + 1 : Nat) : Int)) rfl rfl (fun d => rfl) ?_
        refine y_ic rfl rfl ?_
        refine y_add (z := ((p + 1 + 1 : Nat) : Int)) rfl rfl (by omega) ?_
        refine y_cV (as := [.ref t, iv ((p + 1 + 1 : Nat) : Int)]) rfl rfl rfl rfl rfl hX.1 ⟨rfl, (Nat.le_of_ble_eq_true rfl), (Nat.le_of_ble_eq_true rfl)⟩ (by decide) (cc_signAt (q := p + 1 + 1) hX (by omega) (by omega) hL3 ?_)
        refine y_nv ?_
        refine y_ld (x := .ref pk) rfl rfl (fun d => rfl) ?_
        refine y_ld (x := .ref me) rfl rfl (fun d => rfl) ?_
        refine y_cS (as := [iv y, .ref pk, .ref me]) rfl (by decide) rfl rfl rfl rfl ⟨(Nat.le_of_ble_eq_true rfl), (Nat.le_of_ble_eq_true rfl)⟩ (by decide) (cc_value (μ := μ) hm hμ hP hpk hwy ?_)
        refine y_nv ?_
        refine y_st (lv' := [(8, iv (eV μ a h κ n y)), (7, iv (eV μ a h κ n x)), (5, iv ((p + 1 : Nat) : Int)), (6, iv 121), (0, .ref t), (1, iv (i : Int)), (2, .ref pk), (3, .ref me), (4, iv (bB s))]) rfl rfl (fun d => rfl) ?_
        refine y_ld (x := iv 121) rfl rfl (fun d => rfl) ?_
        refine y_bi rfl rfl (by decide) ?_
        refine y_jne rfl rfl rfl (by decide) (fun g13 => ?_) (fun g13 => absurd g13 (by decide))
        refine y_ld (x := iv 121) rfl rfl (fun d => rfl) ?_
        refine y_bi rfl rfl (by decide) ?_
        refine y_jne rfl rfl rfl (by decide) (fun g14 => absurd g14 (by decide)) (fun g14 => ?_)
        refine y_ld (x := iv (eV μ a h κ n x)) rfl rfl (fun d => rfl) ?_
        refine y_ld (x := iv (eV μ a h κ n y)) rfl rfl (fun d => rfl) ?_
        refine y_jne rfl rfl rfl (by omega) (fun g15 => ?_) (fun g15 => ?_)
        · refine y_ic rfl rfl ?_
          refine y_go rfl rfl ?_
          refine y_st (lv' := [(9, iv 0), (8, iv (eV μ a h κ n y)), (7, iv (eV μ a h κ n x)), (5, iv ((p + 1 : Nat) : Int)), (6, iv 121), (0, .ref t), (1, iv (i : Int)), (2, .ref pk), (3, .ref me), (4, iv (bB s))]) rfl rfl (fun d => rfl) ?_
          refine y_ld (x := iv (bB s)) rfl rfl (fun d => rfl) ?_
          refine y_ic rfl rfl ?_
          refine y_op (z := (bB (false :: s))) rfl rfl (fun d => rfl) (bB_sl hs) ?_
          refine y_ld (x := iv 0) rfl rfl (fun d => rfl) ?_
          refine y_zeq rfl rfl rfl (by decide) (fun g16 => ?_) (fun g16 => absurd g16 (by decide))
          refine y_ic rfl rfl ?_
          refine y_op (z := (bB (false :: s))) rfl rfl (fun d => rfl) (bB_o0 false s) ?_
          refine y_st (lv' := [(4, iv (bB (false :: s))), (9, iv 0), (8, iv (eV μ a h κ n y)), (7, iv (eV μ a h κ n x)), (5, iv ((p + 1 : Nat) : Int)), (6, iv 121), (0, .ref t), (1, iv (i : Int)), (2, .ref pk), (3, .ref me)]) rfl rfl (fun d => rfl) ?_
          refine y_inc (z := ((p + 3 : Nat) : Int)) (lv' := [(5, iv ((p + 3 : Nat) : Int)), (4, iv (bB (false :: s))), (9, iv 0), (8, iv (eV μ a h κ n y)), (7, iv (eV μ a h κ n x)), (6, iv 121), (0, .ref t), (1, iv (i : Int)), (2, .ref pk), (3, .ref me)]) rfl rfl rfl (by omega) rfl ?_
          refine y_go rfl rfl ?_
          refine y_lv (l' := [(0, .ref t), (1, iv (i : Int)), (2, .ref pk), (3, .ref me), (4, iv (bB (false :: s))), (5, iv ((p + 3 : Nat) : Int))]) rfl ⟨rfl, rfl, rfl, rfl, rfl, rfl, trivial⟩ ?_
          rw [decide_eq_false (by omega)] at hx2
          exact y_mono (ih (p + 3) (false :: s) r (by simp only [List.length_cons] at hm1; omega) (by rw [hE]; omega) hL4 hor hd2 (by simp only [List.length_cons]; omega) (by omega) hx2) (by omega)
        · refine y_ic rfl rfl ?_
          refine y_go rfl rfl ?_
          refine y_st (lv' := [(9, iv 1), (8, iv (eV μ a h κ n y)), (7, iv (eV μ a h κ n x)), (5, iv ((p + 1 : Nat) : Int)), (6, iv 121), (0, .ref t), (1, iv (i : Int)), (2, .ref pk), (3, .ref me), (4, iv (bB s))]) rfl rfl (fun d => rfl) ?_
          refine y_ld (x := iv (bB s)) rfl rfl (fun d => rfl) ?_
          refine y_ic rfl rfl ?_
          refine y_op (z := (bB (false :: s))) rfl rfl (fun d => rfl) (bB_sl hs) ?_
          refine y_ld (x := iv 1) rfl rfl (fun d => rfl) ?_
          refine y_zeq rfl rfl rfl (by decide) (fun g17 => absurd g17 (by decide)) (fun g17 => ?_)
          refine y_ic rfl rfl ?_
          refine y_go rfl rfl ?_
          refine y_op (z := (bB (true :: s))) rfl rfl (fun d => rfl) (bB_o1 false s) ?_
          refine y_st (lv' := [(4, iv (bB (true :: s))), (9, iv 1), (8, iv (eV μ a h κ n y)), (7, iv (eV μ a h κ n x)), (5, iv ((p + 1 : Nat) : Int)), (6, iv 121), (0, .ref t), (1, iv (i : Int)), (2, .ref pk), (3, .ref me)]) rfl rfl (fun d => rfl) ?_
          refine y_inc (z := ((p + 3 : Nat) : Int)) (lv' := [(5, iv ((p + 3 : Nat) : Int)), (4, iv (bB (true :: s))), (9, iv 1), (8, iv (eV μ a h κ n y)), (7, iv (eV μ a h κ n x)), (6, iv 121), (0, .ref t), (1, iv (i : Int)), (2, .ref pk), (3, .ref me)]) rfl rfl rfl (by omega) rfl ?_
          refine y_go rfl rfl ?_
          refine y_lv (l' := [(0, .ref t), (1, iv (i : Int)), (2, .ref pk), (3, .ref me), (4, iv (bB (true :: s))), (5, iv ((p + 3 : Nat) : Int))]) rfl ⟨rfl, rfl, rfl, rfl, rfl, rfl, trivial⟩ ?_
          rw [decide_eq_true (by omega)] at hx2
          exact y_mono (ih (p + 3) (true :: s) r (by simp only [List.length_cons] at hm1; omega) (by rw [hE]; omega) hL4 hor hd2 (by simp only [List.length_cons]; omega) (by omega) hx2) (by omega)
      · have hw := ho _ List.mem_cons_self (by decide : (122 : Int) ≤ 122)
        have hwx : tcd x := hw.2.1
        have hwy : tcd y := hw.2.2
        rw [encTc_t (by decide)] at hE hL h6b
        simp only [List.length_cons] at hE h6b
        obtain ⟨hL1, hL2, hL3, hL4⟩ := hL
        obtain ⟨hd1, hd2⟩ := dpt_tt (by decide) hd
        have hvx := eV_rg hμr hwx hpk
        have hvy := eV_rg hμr hwy hpk
        rw [eK_t (by decide), eT_2] at hx2
        refine y_ld (x := .ref t) rfl rfl (fun d => rfl) ?_
        refine y_ld (x := iv (p : Int)) rfl rfl (fun d => rfl) ?_
        refine y_cV (as := [.ref t, iv (p : Int)]) rfl rfl rfl rfl rfl hX.1 ⟨rfl, (Nat.le_of_ble_eq_true rfl), (Nat.le_of_ble_eq_true rfl)⟩ (by decide) (cc_signAt (q := p) hX (by omega) (by omega) hL1 ?_)
        refine y_nv ?_
        refine y_st (lv' := [(6, iv 122), (0, .ref t), (1, iv (i : Int)), (2, .ref pk), (3, .ref me), (4, iv (bB s)), (5, iv (p : Int))]) rfl rfl (fun d => rfl) ?_
        refine y_inc (z := ((p + 1 : Nat) : Int)) (lv' := [(5, iv ((p + 1 : Nat) : Int)), (6, iv 122), (0, .ref t), (1, iv (i : Int)), (2, .ref pk), (3, .ref me), (4, iv (bB s))]) rfl rfl rfl (by omega) rfl ?_
        refine y_ld (x := iv 122) rfl rfl (fun d => rfl) ?_
        refine y_bi rfl rfl (by decide) ?_
        refine y_jne rfl rfl rfl (by decide) (fun g18 => ?_) (fun g18 => absurd g18 (by decide))
        refine y_ld (x := iv 122) rfl rfl (fun d => rfl) ?_
        refine y_bi rfl rfl (by decide) ?_
        refine y_jne rfl rfl rfl (by decide) (fun g19 => ?_) (fun g19 => absurd g19 (by decide))
        refine y_ld (x := iv 122) rfl rfl (fun d => rfl) ?_
        refine y_bi rfl rfl (by decide) ?_
        refine y_jne rfl rfl rfl (by decide) (fun g20 => ?_) (fun g20 => absurd g20 (by decide))
        refine y_ld (x := .ref t) rfl rfl (fun d => rfl) ?_
        refine y_ld (x := iv ((p + 1 : Nat) : Int)) rfl rfl (fun d => rfl) ?_
        refine y_cV (as := [.ref t, iv ((p + 1 : Nat) : Int)]) rfl rfl rfl rfl rfl hX.1 ⟨rfl, (Nat.le_of_ble_eq_true rfl), (Nat.le_of_ble_eq_true rfl)⟩ (by decide) (cc_signAt (q := p + 1) hX (by omega) (by omega) hL2 ?_)
        refine y_nv ?_
        refine y_ld (x := .ref pk) rfl rfl (fun d => rfl) ?_
        refine y_ld (x := .ref me) rfl rfl (fun d => rfl) ?_
        refine y_cS (as := [iv x, .ref pk, .ref me]) rfl (by decide) rfl rfl rfl rfl ⟨(Nat.le_of_ble_eq_true rfl), (Nat.le_of_ble_eq_true rfl)⟩ (by decide) (cc_value (μ := μ) hm hμ hP hpk hwx ?_)
        refine y_nv ?_
        refine y_st (lv' := [(7, iv (eV μ a h κ n x)), (5, iv ((p + 1 : Nat) : Int)), (6, iv 122), (0, .ref t), (1, iv (i : Int)), (2, .ref pk), (3, .ref me), (4, iv (bB s))]) rfl rfl (fun d => rfl) ?_
        refine y_ld (x := .ref t) rfl rfl (fun d => rfl) ?_
        refine y_ld (x := iv ((p + 1 : Nat) : Int)) rfl rfl (fun d => rfl) ?_
        refine y_ic rfl rfl ?_
        refine y_add (z := ((p + 1 + 1 : Nat) : Int)) rfl rfl (by omega) ?_
        refine y_cV (as := [.ref t, iv ((p + 1 + 1 : Nat) : Int)]) rfl rfl rfl rfl rfl hX.1 ⟨rfl, (Nat.le_of_ble_eq_true rfl), (Nat.le_of_ble_eq_true rfl)⟩ (by decide) (cc_signAt (q := p + 1 + 1) hX (by omega) (by omega) hL3 ?_)
        refine y_nv ?_
        refine y_ld (x := .ref pk) rfl rfl (fun d => rfl) ?_
        refine y_ld (x := .ref me) rfl rfl (fun d => rfl) ?_
        refine y_cS (as := [iv y, .ref pk, .ref me]) rfl (by decide) rfl rfl rfl rfl ⟨(Nat.le_of_ble_eq_true rfl), (Nat.le_of_ble_eq_true rfl)⟩ (by decide) (cc_value (μ := μ) hm hμ hP hpk hwy ?_)
        refine y_nv ?_
        refine y_st (lv' := [(8, iv (eV μ a h κ n y)), (7, iv (eV μ a h κ n x)), (5, iv ((p + 1 : Nat) : Int)), (6, iv 122), (0, .ref t), (1, iv (i : Int)), (2, .ref pk), (3, .ref me), (4, iv (bB s))]) rfl rfl (fun d => rfl) ?_
        refine y_ld (x := iv 122) rfl rfl (fun d => rfl) ?_
        refine y_bi rfl rfl (by decide) ?_
        refine y_jne rfl rfl rfl (by decide) (fun g21 => ?_) (fun g21 => absurd g21 (by decide))
        refine y_ld (x := iv 122) rfl rfl (fun d => rfl) ?_
        refine y_bi rfl rfl (by decide) ?_
        refine y_jne rfl rfl rfl (by decide) (fun g22 => ?_) (fun g22 => absurd g22 (by decide))
        refine y_ld (x := iv (eV μ a h κ n x)) rfl rfl (fun d => rfl) ?_
        refine y_ld (x := iv (eV μ a h κ n y)) rfl rfl (fun d => rfl) ?_
        refine y_jle rfl rfl rfl (by omega) (fun g23 => ?_) (fun g23 => ?_)
        · refine y_ic rfl rfl ?_
          refine y_st (lv' := [(9, iv 0), (8, iv (eV μ a h κ n y)), (7, iv (eV μ a h κ n x)), (5, iv ((p + 1 : Nat) : Int)), (6, iv 122), (0, .ref t), (1, iv (i : Int)), (2, .ref pk), (3, .ref me), (4, iv (bB s))]) rfl rfl (fun d => rfl) ?_
          refine y_ld (x := iv (bB s)) rfl rfl (fun d => rfl) ?_
          refine y_ic rfl rfl ?_
          refine y_op (z := (bB (false :: s))) rfl rfl (fun d => rfl) (bB_sl hs) ?_
          refine y_ld (x := iv 0) rfl rfl (fun d => rfl) ?_
          refine y_zeq rfl rfl rfl (by decide) (fun g24 => ?_) (fun g24 => absurd g24 (by decide))
          refine y_ic rfl rfl ?_
          refine y_op (z := (bB (false :: s))) rfl rfl (fun d => rfl) (bB_o0 false s) ?_
          refine y_st (lv' := [(4, iv (bB (false :: s))), (9, iv 0), (8, iv (eV μ a h κ n y)), (7, iv (eV μ a h κ n x)), (5, iv ((p + 1 : Nat) : Int)), (6, iv 122), (0, .ref t), (1, iv (i : Int)), (2, .ref pk), (3, .ref me)]) rfl rfl (fun d => rfl) ?_
          refine y_inc (z := ((p + 3 : Nat) : Int)) (lv' := [(5, iv ((p + 3 : Nat) : Int)), (4, iv (bB (false :: s))), (9, iv 0), (8, iv (eV μ a h κ n y)), (7, iv (eV μ a h κ n x)), (6, iv 122), (0, .ref t), (1, iv (i : Int)), (2, .ref pk), (3, .ref me)]) rfl rfl rfl (by omega) rfl ?_
          refine y_go rfl rfl ?_
          refine y_lv (l' := [(0, .ref t), (1, iv (i : Int)), (2, .ref pk), (3, .ref me), (4, iv (bB (false :: s))), (5, iv ((p + 3 : Nat) : Int))]) rfl ⟨rfl, rfl, rfl, rfl, rfl, rfl, trivial⟩ ?_
          rw [decide_eq_false (by omega)] at hx2
          exact y_mono (ih (p + 3) (false :: s) r (by simp only [List.length_cons] at hm1; omega) (by rw [hE]; omega) hL4 hor hd2 (by simp only [List.length_cons]; omega) (by omega) hx2) (by omega)
        · refine y_ic rfl rfl ?_
          refine y_go rfl rfl ?_
          refine y_st (lv' := [(9, iv 1), (8, iv (eV μ a h κ n y)), (7, iv (eV μ a h κ n x)), (5, iv ((p + 1 : Nat) : Int)), (6, iv 122), (0, .ref t), (1, iv (i : Int)), (2, .ref pk), (3, .ref me), (4, iv (bB s))]) rfl rfl (fun d => rfl) ?_
          refine y_ld (x := iv (bB s)) rfl rfl (fun d => rfl) ?_
          refine y_ic rfl rfl ?_
          refine y_op (z := (bB (false :: s))) rfl rfl (fun d => rfl) (bB_sl hs) ?_
          refine y_ld (x := iv 1) rfl rfl (fun d => rfl) ?_
          refine y_zeq rfl rfl rfl (by decide) (fun g25 => absurd g25 (by decide)) (fun g25 => ?_)
          refine y_ic rfl rfl ?_
          refine y_go rfl rfl ?_
          refine y_op (z := (bB (true :: s))) rfl rfl (fun d => rfl) (bB_o1 false s) ?_
          refine y_st (lv' := [(4, iv (bB (true :: s))), (9, iv 1), (8, iv (eV μ a h κ n y)), (7, iv (eV μ a h κ n x)), (5, iv ((p + 1 : Nat) : Int)), (6, iv 122), (0, .ref t), (1, iv (i : Int)), (2, .ref pk), (3, .ref me)]) rfl rfl (fun d => rfl) ?_
          refine y_inc (z := ((p + 3 : Nat) : Int)) (lv' := [(5, iv ((p + 3 : Nat) : Int)), (4, iv (bB (true :: s))), (9, iv 1), (8, iv (eV μ a h κ n y)), (7, iv (eV μ a h κ n x)), (6, iv 122), (0, .ref t), (1, iv (i : Int)), (2, .ref pk), (3, .ref me)]) rfl rfl rfl (by omega) rfl ?_
          refine y_go rfl rfl ?_
          refine y_lv (l' := [(0, .ref t), (1, iv (i : Int)), (2, .ref pk), (3, .ref me), (4, iv (bB (true :: s))), (5, iv ((p + 3 : Nat) : Int))]) rfl ⟨rfl, rfl, rfl, rfl, rfl, rfl, trivial⟩ ?_
          rw [decide_eq_true (by omega)] at hx2
          exact y_mono (ih (p + 3) (true :: s) r (by simp only [List.length_cons] at hm1; omega) (by rw [hE]; omega) hL4 hor hd2 (by simp only [List.length_cons]; omega) (by omega) hx2) (by omega)
      · rw [encTc_o (by decide)] at hE hL h6b
        simp only [List.length_cons] at hE h6b
        obtain ⟨hL1, hL4⟩ := hL
        obtain ⟨hd1, hd2⟩ := dpt_nn hd
        rcases s with _ | ⟨b, s⟩
        · exact absurd hd1 (by decide)
        rw [eK_n] at hx2
        simp only [List.length_cons] at hs
        refine y_ld (x := .ref t) rfl rfl (fun d => rfl) ?_
        refine y_ld (x := iv (p : Int)) rfl rfl (fun d => rfl) ?_
        refine y_cV (as := [.ref t, iv (p : Int)]) rfl rfl rfl rfl rfl hX.1 ⟨rfl, (Nat.le_of_ble_eq_true rfl), (Nat.le_of_ble_eq_true rfl)⟩ (by decide) (cc_signAt (q := p) hX (by omega) (by omega) hL1 ?_)
        refine y_nv ?_
        refine y_st (lv' := [(6, iv 123), (0, .ref t), (1, iv (i : Int)), (2, .ref pk), (3, .ref me), (4, iv (bB (b :: s))), (5, iv (p : Int))]) rfl rfl (fun d => rfl) ?_
        refine y_inc (z := ((p + 1 : Nat) : Int)) (lv' := [(5, iv ((p + 1 : Nat) : Int)), (6, iv 123), (0, .ref t), (1, iv (i : Int)), (2, .ref pk), (3, .ref me), (4, iv (bB (b :: s)))]) rfl rfl rfl (by omega) rfl ?_
        refine y_ld (x := iv 123) rfl rfl (fun d => rfl) ?_
        refine y_bi rfl rfl (by decide) ?_
        refine y_jne rfl rfl rfl (by decide) (fun g26 => absurd g26 (by decide)) (fun g26 => ?_)
        refine y_ld (x := iv (bB (b :: s))) rfl rfl (fun d => rfl) ?_
        refine y_ic rfl rfl ?_
        refine y_op (z := (bB ((!b) :: s))) rfl rfl (fun d => rfl) (bB_not b s) ?_
        refine y_st (lv' := [(4, iv (bB ((!b) :: s))), (5, iv ((p + 1 : Nat) : Int)), (6, iv 123), (0, .ref t), (1, iv (i : Int)), (2, .ref pk), (3, .ref me)]) rfl rfl (fun d => rfl) ?_
        refine y_go rfl rfl ?_
        refine y_go rfl rfl ?_
        refine y_lv (l' := [(0, .ref t), (1, iv (i : Int)), (2, .ref pk), (3, .ref me), (4, iv (bB ((!b) :: s))), (5, iv ((p + 1 : Nat) : Int))]) rfl ⟨rfl, rfl, rfl, rfl, rfl, rfl, trivial⟩ ?_
        exact y_mono (ih (p + 1) ((!b) :: s) r (by simp only [List.length_cons] at hm1; omega) (by rw [hE]; omega) hL4 hor hd2 (by simp only [List.length_cons]; omega) (by omega) hx2) (by omega)
      · rw [encTc_o (by decide)] at hE hL h6b
        simp only [List.length_cons] at hE h6b
        obtain ⟨hL1, hL4⟩ := hL
        obtain ⟨-, hd1, hd2⟩ := dpt_jj (by decide) hd
        rcases s with _ | ⟨b2, _ | ⟨b1, s⟩⟩
        · exact absurd hd1 (by decide)
        · exact absurd hd1 (by simp)
        simp only [List.length_cons] at hs
        simp only [List.length_cons, Nat.add_sub_cancel] at hd2
        rw [eK_a] at hx2
        cases b2
        · rw [show (b1 && false) = false by cases b1 <;> rfl] at hx2
          refine y_ld (x := .ref t) rfl rfl (fun d => rfl) ?_
          refine y_ld (x := iv (p : Int)) rfl rfl (fun d => rfl) ?_
          refine y_cV (as := [.ref t, iv (p : Int)]) rfl rfl rfl rfl rfl hX.1 ⟨rfl, (Nat.le_of_ble_eq_true rfl), (Nat.le_of_ble_eq_true rfl)⟩ (by decide) (cc_signAt (q := p) hX (by omega) (by omega) hL1 ?_)
          refine y_nv ?_
          refine y_st (lv' := [(6, iv 124), (0, .ref t), (1, iv (i : Int)), (2, .ref pk), (3, .ref me), (4, iv (bB (false :: b1 :: s))), (5, iv (p : Int))]) rfl rfl (fun d => rfl) ?_
          refine y_inc (z := ((p + 1 : Nat) : Int)) (lv' := [(5, iv ((p + 1 : Nat) : Int)), (6, iv 124), (0, .ref t), (1, iv (i : Int)), (2, .ref pk), (3, .ref me), (4, iv (bB (false :: b1 :: s)))]) rfl rfl rfl (by omega) rfl ?_
          refine y_ld (x := iv 124) rfl rfl (fun d => rfl) ?_
          refine y_bi rfl rfl (by decide) ?_
          refine y_jne rfl rfl rfl (by decide) (fun g27 => ?_) (fun g27 => absurd g27 (by decide))
          refine y_ld (x := iv 124) rfl rfl (fun d => rfl) ?_
          refine y_bi rfl rfl (by decide) ?_
          refine y_jne rfl rfl rfl (by decide) (fun g28 => absurd g28 (by decide)) (fun g28 => ?_)
          refine y_ld (x := iv (bB (false :: b1 :: s))) rfl rfl (fun d => rfl) ?_
          refine y_ic rfl rfl ?_
          refine y_op (z := 0) rfl rfl (fun d => rfl) (bB_a1 false (b1 :: s)) ?_
          refine y_ic rfl rfl ?_
          refine y_jne rfl rfl rfl (by decide) (fun g29 => ?_) (fun g29 => absurd g29 (by decide))
          refine y_ld (x := iv (bB (false :: b1 :: s))) rfl rfl (fun d => rfl) ?_
          refine y_ic rfl rfl ?_
          refine y_op (z := (bB (b1 :: s))) rfl rfl (fun d => rfl) (bB_sh (by simp only [List.length_cons]; omega)) ?_
          refine y_bi rfl rfl (by decide) ?_
          refine y_op (z := (bB (false :: s))) rfl rfl (fun d => rfl) (bB_m2 (by omega)) ?_
          refine y_st (lv' := [(4, iv (bB (false :: s))), (5, iv ((p + 1 : Nat) : Int)), (6, iv 124), (0, .ref t), (1, iv (i : Int)), (2, .ref pk), (3, .ref me)]) rfl rfl (fun d => rfl) ?_
          refine y_go rfl rfl ?_
          refine y_go rfl rfl ?_
          refine y_lv (l' := [(0, .ref t), (1, iv (i : Int)), (2, .ref pk), (3, .ref me), (4, iv (bB (false :: s))), (5, iv ((p + 1 : Nat) : Int))]) rfl ⟨rfl, rfl, rfl, rfl, rfl, rfl, trivial⟩ ?_
          exact y_mono (ih (p + 1) (false :: s) r (by simp only [List.length_cons] at hm1; omega) (by rw [hE]; omega) hL4 hor hd2 (by simp only [List.length_cons]; omega) (by omega) hx2) (by omega)
        · rw [show (b1 && true) = b1 by cases b1 <;> rfl] at hx2
          refine y_ld (x := .ref t) rfl rfl (fun d => rfl) ?_
          refine y_ld (x := iv (p : Int)) rfl rfl (fun d => rfl) ?_
          refine y_cV (as := [.ref t, iv (p : Int)]) rfl rfl rfl rfl rfl hX.1 ⟨rfl, (Nat.le_of_ble_eq_true rfl), (Nat.le_of_ble_eq_true rfl)⟩ (by decide) (cc_signAt (q := p) hX (by omega) (by omega) hL1 ?_)
          refine y_nv ?_
          refine y_st (lv' := [(6, iv 124), (0, .ref t), (1, iv (i : Int)), (2, .ref pk), (3, .ref me), (4, iv (bB (true :: b1 :: s))), (5, iv (p : Int))]) rfl rfl (fun d => rfl) ?_
          refine y_inc (z := ((p + 1 : Nat) : Int)) (lv' := [(5, iv ((p + 1 : Nat) : Int)), (6, iv 124), (0, .ref t), (1, iv (i : Int)), (2, .ref pk), (3, .ref me), (4, iv (bB (true :: b1 :: s)))]) rfl rfl rfl (by omega) rfl ?_
          refine y_ld (x := iv 124) rfl rfl (fun d => rfl) ?_
          refine y_bi rfl rfl (by decide) ?_
          refine y_jne rfl rfl rfl (by decide) (fun g30 => ?_) (fun g30 => absurd g30 (by decide))
          refine y_ld (x := iv 124) rfl rfl (fun d => rfl) ?_
          refine y_bi rfl rfl (by decide) ?_
          refine y_jne rfl rfl rfl (by decide) (fun g31 => absurd g31 (by decide)) (fun g31 => ?_)
          refine y_ld (x := iv (bB (true :: b1 :: s))) rfl rfl (fun d => rfl) ?_
          refine y_ic rfl rfl ?_
          refine y_op (z := 1) rfl rfl (fun d => rfl) (bB_a1 true (b1 :: s)) ?_
          refine y_ic rfl rfl ?_
          refine y_jne rfl rfl rfl (by decide) (fun g32 => absurd g32 (by decide)) (fun g32 => ?_)
          refine y_ld (x := iv (bB (true :: b1 :: s))) rfl rfl (fun d => rfl) ?_
          refine y_ic rfl rfl ?_
          refine y_op (z := (bB (b1 :: s))) rfl rfl (fun d => rfl) (bB_sh (by simp only [List.length_cons]; omega)) ?_
          refine y_go rfl rfl ?_
          refine y_st (lv' := [(4, iv (bB (b1 :: s))), (5, iv ((p + 1 : Nat) : Int)), (6, iv 124), (0, .ref t), (1, iv (i : Int)), (2, .ref pk), (3, .ref me)]) rfl rfl (fun d => rfl) ?_
          refine y_go rfl rfl ?_
          refine y_go rfl rfl ?_
          refine y_lv (l' := [(0, .ref t), (1, iv (i : Int)), (2, .ref pk), (3, .ref me), (4, iv (bB (b1 :: s))), (5, iv ((p + 1 : Nat) : Int))]) rfl ⟨rfl, rfl, rfl, rfl, rfl, rfl, trivial⟩ ?_
          exact y_mono (ih (p + 1) (b1 :: s) r (by simp only [List.length_cons] at hm1; omega) (by rw [hE]; omega) hL4 hor hd2 (by simp only [List.length_cons]; omega) (by omega) hx2) (by omega)
      · rw [encTc_o (by decide)] at hE hL h6b
        simp only [List.length_cons] at hE h6b
        obtain ⟨hL1, hL4⟩ := hL
        obtain ⟨-, hd1, hd2⟩ := dpt_jj (by decide) hd
        rcases s with _ | ⟨b2, _ | ⟨b1, s⟩⟩
        · exact absurd hd1 (by decide)
        · exact absurd hd1 (by simp)
        simp only [List.length_cons] at hs
        simp only [List.length_cons, Nat.add_sub_cancel] at hd2
        rw [eK_o] at hx2
        cases b2
        · rw [show (b1 || false) = b1 by cases b1 <;> rfl] at hx2
          refine y_ld (x := .ref t) rfl rfl (fun d => rfl) ?_
          refine y_ld (x := iv (p : Int)) rfl rfl (fun d => rfl) ?_
          refine y_cV (as := [.ref t, iv (p : Int)]) rfl rfl rfl rfl rfl hX.1 ⟨rfl, (Nat.le_of_ble_eq_true rfl), (Nat.le_of_ble_eq_true rfl)⟩ (by decide) (cc_signAt (q := p) hX (by omega) (by omega) hL1 ?_)
          refine y_nv ?_
          refine y_st (lv' := [(6, iv 125), (0, .ref t), (1, iv (i : Int)), (2, .ref pk), (3, .ref me), (4, iv (bB (false :: b1 :: s))), (5, iv (p : Int))]) rfl rfl (fun d => rfl) ?_
          refine y_inc (z := ((p + 1 : Nat) : Int)) (lv' := [(5, iv ((p + 1 : Nat) : Int)), (6, iv 125), (0, .ref t), (1, iv (i : Int)), (2, .ref pk), (3, .ref me), (4, iv (bB (false :: b1 :: s)))]) rfl rfl rfl (by omega) rfl ?_
          refine y_ld (x := iv 125) rfl rfl (fun d => rfl) ?_
          refine y_bi rfl rfl (by decide) ?_
          refine y_jne rfl rfl rfl (by decide) (fun g33 => ?_) (fun g33 => absurd g33 (by decide))
          refine y_ld (x := iv 125) rfl rfl (fun d => rfl) ?_
          refine y_bi rfl rfl (by decide) ?_
          refine y_jne rfl rfl rfl (by decide) (fun g34 => ?_) (fun g34 => absurd g34 (by decide))
          refine y_ld (x := iv 125) rfl rfl (fun d => rfl) ?_
          refine y_bi rfl rfl (by decide) ?_
          refine y_jne rfl rfl rfl (by decide) (fun g35 => absurd g35 (by decide)) (fun g35 => ?_)
          refine y_ld (x := iv (bB (false :: b1 :: s))) rfl rfl (fun d => rfl) ?_
          refine y_ic rfl rfl ?_
          refine y_op (z := 0) rfl rfl (fun d => rfl) (bB_a1 false (b1 :: s)) ?_
          refine y_ic rfl rfl ?_
          refine y_jne rfl rfl rfl (by decide) (fun g36 => ?_) (fun g36 => absurd g36 (by decide))
          refine y_ld (x := iv (bB (false :: b1 :: s))) rfl rfl (fun d => rfl) ?_
          refine y_ic rfl rfl ?_
          refine y_op (z := (bB (b1 :: s))) rfl rfl (fun d => rfl) (bB_sh (by simp only [List.length_cons]; omega)) ?_
          refine y_st (lv' := [(4, iv (bB (b1 :: s))), (5, iv ((p + 1 : Nat) : Int)), (6, iv 125), (0, .ref t), (1, iv (i : Int)), (2, .ref pk), (3, .ref me)]) rfl rfl (fun d => rfl) ?_
          refine y_go rfl rfl ?_
          refine y_go rfl rfl ?_
          refine y_lv (l' := [(0, .ref t), (1, iv (i : Int)), (2, .ref pk), (3, .ref me), (4, iv (bB (b1 :: s))), (5, iv ((p + 1 : Nat) : Int))]) rfl ⟨rfl, rfl, rfl, rfl, rfl, rfl, trivial⟩ ?_
          exact y_mono (ih (p + 1) (b1 :: s) r (by simp only [List.length_cons] at hm1; omega) (by rw [hE]; omega) hL4 hor hd2 (by simp only [List.length_cons]; omega) (by omega) hx2) (by omega)
        · rw [show (b1 || true) = true by cases b1 <;> rfl] at hx2
          refine y_ld (x := .ref t) rfl rfl (fun d => rfl) ?_
          refine y_ld (x := iv (p : Int)) rfl rfl (fun d => rfl) ?_
          refine y_cV (as := [.ref t, iv (p : Int)]) rfl rfl rfl rfl rfl hX.1 ⟨rfl, (Nat.le_of_ble_eq_true rfl), (Nat.le_of_ble_eq_true rfl)⟩ (by decide) (cc_signAt (q := p) hX (by omega) (by omega) hL1 ?_)
          refine y_nv ?_
          refine y_st (lv' := [(6, iv 125), (0, .ref t), (1, iv (i : Int)), (2, .ref pk), (3, .ref me), (4, iv (bB (true :: b1 :: s))), (5, iv (p : Int))]) rfl rfl (fun d => rfl) ?_
          refine y_inc (z := ((p + 1 : Nat) : Int)) (lv' := [(5, iv ((p + 1 : Nat) : Int)), (6, iv 125), (0, .ref t), (1, iv (i : Int)), (2, .ref pk), (3, .ref me), (4, iv (bB (true :: b1 :: s)))]) rfl rfl rfl (by omega) rfl ?_
          refine y_ld (x := iv 125) rfl rfl (fun d => rfl) ?_
          refine y_bi rfl rfl (by decide) ?_
          refine y_jne rfl rfl rfl (by decide) (fun g37 => ?_) (fun g37 => absurd g37 (by decide))
          refine y_ld (x := iv 125) rfl rfl (fun d => rfl) ?_
          refine y_bi rfl rfl (by decide) ?_
          refine y_jne rfl rfl rfl (by decide) (fun g38 => ?_) (fun g38 => absurd g38 (by decide))
          refine y_ld (x := iv 125) rfl rfl (fun d => rfl) ?_
          refine y_bi rfl rfl (by decide) ?_
          refine y_jne rfl rfl rfl (by decide) (fun g39 => absurd g39 (by decide)) (fun g39 => ?_)
          refine y_ld (x := iv (bB (true :: b1 :: s))) rfl rfl (fun d => rfl) ?_
          refine y_ic rfl rfl ?_
          refine y_op (z := 1) rfl rfl (fun d => rfl) (bB_a1 true (b1 :: s)) ?_
          refine y_ic rfl rfl ?_
          refine y_jne rfl rfl rfl (by decide) (fun g40 => absurd g40 (by decide)) (fun g40 => ?_)
          refine y_ld (x := iv (bB (true :: b1 :: s))) rfl rfl (fun d => rfl) ?_
          refine y_ic rfl rfl ?_
          refine y_op (z := (bB (b1 :: s))) rfl rfl (fun d => rfl) (bB_sh (by simp only [List.length_cons]; omega)) ?_
          refine y_ic rfl rfl ?_
          refine y_op (z := (bB (true :: s))) rfl rfl (fun d => rfl) (bB_o1 b1 s) ?_
          refine y_go rfl rfl ?_
          refine y_st (lv' := [(4, iv (bB (true :: s))), (5, iv ((p + 1 : Nat) : Int)), (6, iv 125), (0, .ref t), (1, iv (i : Int)), (2, .ref pk), (3, .ref me)]) rfl rfl (fun d => rfl) ?_
          refine y_go rfl rfl ?_
          refine y_go rfl rfl ?_
          refine y_lv (l' := [(0, .ref t), (1, iv (i : Int)), (2, .ref pk), (3, .ref me), (4, iv (bB (true :: s))), (5, iv ((p + 1 : Nat) : Int))]) rfl ⟨rfl, rfl, rfl, rfl, rfl, rfl, trivial⟩ ?_
          exact y_mono (ih (p + 1) (true :: s) r (by simp only [List.length_cons] at hm1; omega) (by rw [hE]; omega) hL4 hor hd2 (by simp only [List.length_cons]; omega) (by omega) hx2) (by omega)
set_option maxRecDepth 100000 in
set_option maxHeartbeats 4000000 in
theorem cc_holds {t me c pk : Nat} {μ : Nat → Int} {a h κ n : Int} (hX : TxS S t) (hm : MeS S me c) (hμ : V c = μ) (hP : PkS S V pk a h κ n) (hpk : pkO a h κ n) (hμr : muO μ) (h6 : V t 6 ≤ 160) {i D p : Nat} {L : List p_Tk} (hi : i < 8) (hb : V (t + 2) i = (p : Int)) (hE : V (t + 3) i = ((p + (encTc L).length : Nat) : Int)) (hL : SG V (t + 5) p (encTc L)) (ho : tkO L) (hd : dpt 14 L 0 D) (hll : L.length < 200) (h6b : ((p + (encTc L).length : Nat) : Int) ≤ V t 6) (k : K u w (some (iv (v_b (eH μ a h κ n L = true)))) S V) : y_R X 4 55 u w [.ref t, iv (i : Int), .ref pk, .ref me] S V K := by
  refine y_ent (lv' := [(0, .ref t), (1, iv (i : Int)), (2, .ref pk), (3, .ref me)]) (Nat.le_of_ble_eq_true rfl) rfl ?_
  refine y_ic rfl rfl ?_
  refine y_st (lv' := [(4, iv 1), (0, .ref t), (1, iv (i : Int)), (2, .ref pk), (3, .ref me)]) rfl rfl (fun d => rfl) ?_
  refine y_ld (x := .ref t) rfl rfl (fun d => rfl) ?_
  refine y_gR (i := 2) rfl rfl rfl hX.1 rfl ?_
  refine y_ld (x := iv (i : Int)) rfl rfl (fun d => rfl) ?_
  refine y_ild (x := (p : Int)) (q := i) rfl rfl hX.2.2.1 (by omega) (by decide) (by omega) hb ?_
  refine y_st (lv' := [(5, iv (p : Int)), (4, iv 1), (0, .ref t), (1, iv (i : Int)), (2, .ref pk), (3, .ref me)]) rfl rfl (fun d => rfl) ?_
  refine y_lv (l' := [(0, .ref t), (1, iv (i : Int)), (2, .ref pk), (3, .ref me), (4, iv (bB [])), (5, iv (p : Int))]) rfl ⟨rfl, rfl, rfl, rfl, rfl, rfl, trivial⟩ ?_
  exact y_mono (lp_holds (F := 100) hX hm hμ hP hpk hμr h6 hi 200 p [] L hll hE hL ho hd (by decide) h6b k) (by decide)
end
