/-! E: the reference -/
/-- the truths stand, the last one on top -/
def TR (W : v_V) : List Bool → Prop
  | [] => True
  | b :: s => W 179 s.length = v_b (b = true) ∧ TR W s
theorem TR_up {W : v_V} {x : Int} : ∀ {s : List Bool} {i : Nat}, s.length ≤ i → TR W s → TR (v_up W 179 i x) s
  | [], _, _, _ => trivial
  | b :: s, i, h, h2 => ⟨by rw [v_up_ni (by simp only [List.length_cons] at h; omega)]; exact h2.1, TR_up (by simp only [List.length_cons] at h; omega) h2.2⟩
def em : Bool → List Int
  | true => [-4]
  | false => []
theorem encT_t {c x y : Int} {r : List p_Tk} (hc : c ≤ 122) : encT ((c, x, y) :: r) = (100000 + 4 * (200 * mcd x + mcd y) + (c - 120)) :: encT r := by
  show (if c ≤ 122 then _ else _) :: encT r = _
  rw [if_pos hc]
theorem encT_o {c x y : Int} {r : List p_Tk} (hc : ¬ c ≤ 122) : encT ((c, x, y) :: r) = (122 - c) :: encT r := by
  show (if c ≤ 122 then _ else _) :: encT r = _
  rw [if_neg hc]
theorem bodyL_em (x : p_Li) : bodyL x = encT x.2.2.1 ++ (em x.2.1 ++ encA x.2.2.2) := by
  unfold bodyL
  cases x.2.1 <;> rfl
theorem encA_1 {R : List p_Ac} (ho : acO R) {v : Int} {r : List Int} (h : encA R = v :: r) : 0 ≤ v ∧ v < 100000 := by
  rcases R with _ | ⟨⟨c, l⟩, R⟩
  · cases h
  · by_cases hc : 126 ≤ c
    · rw [encA_e hc] at h
      cases h
      split
      · decide
      · split <;> decide
    · rw [encA_c hc] at h
      cases h
      have := ho _ List.mem_cons_self
      simp only at this
      have h2 := mcd_cell (c := c) (by rcases this with q | q <;> omega)
      omega
theorem eK_len {μ : Nat → Int} {t h k n : Int} {D : Nat} : ∀ (l : List p_Tk) (s : List Bool) (j : Nat), dpt D l s.length j → (eK μ t h k n l s).length = j
  | [], s, j, h1 => h1
  | (c, x, y) :: r, s, j, h1 => by
    by_cases hc : c ≤ 122
    · rw [eK_t hc]
      exact eK_len r _ j (dpt_tt hc h1).2
    by_cases hc2 : c = 123
    · subst hc2
      have h2 := dpt_nn h1
      rcases s with _ | ⟨b, s⟩
      · exact absurd h2.1 (by decide)
      · rw [eK_n]
        exact eK_len r _ j h2.2
    · have h2 := dpt_jj (by omega) h1
      rcases s with _ | ⟨b2, _ | ⟨b1, s⟩⟩
      · exact absurd h2.2.1 (by decide)
      · exact absurd h2.2.1 (by simp)
      · rcases h2.1 with rfl | rfl
        · rw [eK_a]
          exact eK_len r _ j h2.2.2
        · rw [eK_o]
          exact eK_len r _ j h2.2.2
section
variable {X : Nat → List Int32} {u w : Nat} {S : m_H} {V : v_V} {K : v_K}
set_option maxRecDepth 100000 in
set_option maxHeartbeats 4000000 in
theorem lp_truths (hM : MdS S) {A B : Nat} {a h κ n : Int} (hE : EvM V A B) (hP : PkM V a h κ n) (hpk : pkO a h κ n) (hA : A = 171 ∨ A = 178) (hμr : muO (zm (V A) B)) {R : List p_Ac} (hoR : acO R) {v1 v3 v4 v5 v7 fh : Int} {pf D : Nat} {st : List Bool} {F : Nat} : ∀ (m : Nat) (p : Nat) (s : List Bool) (L : List p_Tk) (E : Bool) (hv : Int) (W : v_V), (encT L ++ (em E ++ encA R)).length < m → (∀ k, k ≠ 179 → W k = V k) → (SG V 173 p (encT L ++ (em E ++ encA R))) → ((p : Int) + (encT L ++ (em E ++ encA R)).length = v5 ∧ v5 ≤ 1600) → (tkO L) → (dpt 14 L s.length D) → (s.length ≤ 14) → (TR W s) → (eK (zm (V A) B) a h κ n L s = st) → (p + (encT L).length + (em E).length = pf) → ((L ≠ [] ∨ E = true → fh = 1) ∧ (L = [] → E = false → hv = fh)) → (∀ W : v_V, (∀ k, k ≠ 179 → W k = V k) → TR W st → y_E X 5 132 F u w 283 [(0, .ref 170), (1, iv v1), (3, iv v3), (4, iv v4), (5, iv v5), (6, iv (pf : Int)), (7, iv v7), (9, iv fh)] [] S W K) → y_E X 5 132 (80 * m + F) u w 92 [(0, .ref 170), (1, iv v1), (3, iv v3), (4, iv v4), (5, iv v5), (6, iv (p : Int)), (7, iv v7), (8, iv (s.length : Int)), (9, iv hv)] [] S W K := by
  intro m
  induction m with
  | zero => intros; omega
  | succ m ih =>
    intro p s L E hv W hm1 hW hL hn ho hd hs hTR hst hpf hh hx2
    refine y_mono (F' := (80 * m + F) + 80) ?_ (by omega)
    refine y_ld (x := iv (p : Int)) rfl rfl (fun d => rfl) ?_
    refine y_ld (x := iv v5) rfl rfl (fun d => rfl) ?_
    refine y_jge rfl rfl rfl (by omega) (fun g1 => ?_) (fun g1 => ?_)
    · obtain ⟨rfl, rfl⟩ : L = [] ∧ E = false := by
        rcases L with _ | ⟨⟨c1, x, y⟩, r⟩
        · cases E
          · exact ⟨rfl, rfl⟩
          · exfalso
            have hn0 : (p : Int) + ((-4 : Int) :: encA R).length = v5 ∧ v5 ≤ 1600 := hn
            simp only [List.length_cons] at hn0
            omega
        · exfalso
          have he : 1 ≤ (encT ((c1, x, y) :: r)).length := by rw [encT_len]; simp only [List.length_cons]; omega
          rw [List.length_append] at hn
          omega
      obtain rfl : hv = fh := hh.2 rfl rfl
      obtain rfl : p = pf := by have := hpf; simp only [encT, em, List.length_nil] at this; omega
      have hst2 : s = st := hst
      rw [hst2] at hTR
      refine y_lv (l' := [(0, .ref 170), (1, iv v1), (3, iv v3), (4, iv v4), (5, iv v5), (6, iv (p : Int)), (7, iv v7), (9, iv hv)]) rfl ⟨rfl, rfl, rfl, rfl, rfl, rfl, rfl, rfl, trivial⟩ ?_
      exact y_mono (hx2 W hW hTR) (by omega)
    · rcases L with _ | ⟨⟨c1, x, y⟩, r⟩
      · cases E
        · have hL0 : SG V 173 p (encA R) := hL
          have hn0 : (p : Int) + (encA R).length = v5 ∧ v5 ≤ 1600 := hn
          obtain ⟨v0, r0, e0⟩ : ∃ v0 r0, encA R = v0 :: r0 := by
            cases hq : encA R with
            | nil => rw [hq] at hn0; exact absurd hn0.1 (by simp only [List.length_nil]; omega)
            | cons v0 r0 => exact ⟨v0, r0, rfl⟩
          have hv0 := encA_1 hoR e0
          rw [e0] at hL0
          have hL1 := hL0.1
          refine y_ld (x := .ref 170) rfl rfl (fun d => rfl) ?_
          refine y_gR (i := 4) rfl rfl rfl (md170 hM) rfl ?_
          refine y_ld (x := iv (p : Int)) rfl rfl (fun d => rfl) ?_
          refine y_ild (x := v0) (q := p) rfl rfl (md173 hM) (by omega) (by decide) (by omega) ((congrFun (hW 173 (by decide)) _).trans hL1) ?_
          refine y_zlt rfl rfl rfl (by omega) (fun g2 => absurd g2 (by omega)) (fun g2 => ?_)
          refine y_ld (x := .ref 170) rfl rfl (fun d => rfl) ?_
          refine y_gR (i := 4) rfl rfl rfl (md170 hM) rfl ?_
          refine y_ld (x := iv (p : Int)) rfl rfl (fun d => rfl) ?_
          refine y_ild (x := v0) (q := p) rfl rfl (md173 hM) (by omega) (by decide) (by omega) ((congrFun (hW 173 (by decide)) _).trans hL1) ?_
          refine y_ld (x := iv 100000) rfl rfl (fun d => rfl) ?_
          refine y_jlt rfl rfl rfl (by omega) (fun g3 => ?_) (fun g3 => absurd g3 (by omega))
          obtain rfl : hv = fh := hh.2 rfl rfl
          obtain rfl : p = pf := by have := hpf; simp only [encT, em, List.length_nil] at this; omega
          have hst2 : s = st := hst
          rw [hst2] at hTR
          refine y_lv (l' := [(0, .ref 170), (1, iv v1), (3, iv v3), (4, iv v4), (5, iv v5), (6, iv (p : Int)), (7, iv v7), (9, iv hv)]) rfl ⟨rfl, rfl, rfl, rfl, rfl, rfl, rfl, rfl, trivial⟩ ?_
          exact y_mono (hx2 W hW hTR) (by omega)
        · have hL0 : SG V 173 p (-4 :: encA R) := hL
          have hL1 := hL0.1
          have hn0 : (p : Int) + ((-4 : Int) :: encA R).length = v5 ∧ v5 ≤ 1600 := hn
          simp only [List.length_cons] at hn0
          refine y_ld (x := .ref 170) rfl rfl (fun d => rfl) ?_
          refine y_gR (i := 4) rfl rfl rfl (md170 hM) rfl ?_
          refine y_ld (x := iv (p : Int)) rfl rfl (fun d => rfl) ?_
          refine y_ild (x := (-4)) (q := p) rfl rfl (md173 hM) (by omega) (by decide) (by omega) ((congrFun (hW 173 (by decide)) _).trans hL1) ?_
          refine y_zlt rfl rfl rfl (by decide) (fun g4 => ?_) (fun g4 => absurd g4 (by decide))
          refine y_ld (x := .ref 170) rfl rfl (fun d => rfl) ?_
          refine y_gR (i := 4) rfl rfl rfl (md170 hM) rfl ?_
          refine y_ld (x := iv (p : Int)) rfl rfl (fun d => rfl) ?_
          refine y_ild (x := (-4)) (q := p) rfl rfl (md173 hM) (by omega) (by decide) (by omega) ((congrFun (hW 173 (by decide)) _).trans hL1) ?_
          refine y_st (lv' := [(10, iv (-4)), (0, .ref 170), (1, iv v1), (3, iv v3), (4, iv v4), (5, iv v5), (6, iv (p : Int)), (7, iv v7), (8, iv (s.length : Int)), (9, iv hv)]) rfl rfl (fun d => rfl) ?_
          refine y_ic rfl rfl ?_
          refine y_st (lv' := [(9, iv 1), (10, iv (-4)), (0, .ref 170), (1, iv v1), (3, iv v3), (4, iv v4), (5, iv v5), (6, iv (p : Int)), (7, iv v7), (8, iv (s.length : Int))]) rfl rfl (fun d => rfl) ?_
          refine y_ld (x := iv (-4)) rfl rfl (fun d => rfl) ?_
          refine y_ld (x := iv 100000) rfl rfl (fun d => rfl) ?_
          refine y_jlt rfl rfl rfl (by decide) (fun g5 => ?_) (fun g5 => absurd g5 (by decide))
          refine y_ld (x := iv (-4)) rfl rfl (fun d => rfl) ?_
          refine y_ic rfl rfl ?_
          refine y_jne rfl rfl rfl (by decide) (fun g6 => ?_) (fun g6 => absurd g6 (by decide))
          refine y_ld (x := iv (-4)) rfl rfl (fun d => rfl) ?_
          refine y_bi rfl rfl (by decide) ?_
          refine y_jeq rfl rfl rfl (by decide) (fun g7 => ?_) (fun g7 => absurd g7 (by decide))
          refine y_inc (z := ((p + 1 : Nat) : Int)) (lv' := [(6, iv ((p + 1 : Nat) : Int)), (9, iv 1), (10, iv (-4)), (0, .ref 170), (1, iv v1), (3, iv v3), (4, iv v4), (5, iv v5), (7, iv v7), (8, iv (s.length : Int))]) rfl rfl rfl (by omega) rfl ?_
          refine y_go rfl rfl ?_
          refine y_lv (l' := [(0, .ref 170), (1, iv v1), (3, iv v3), (4, iv v4), (5, iv v5), (6, iv ((p + 1 : Nat) : Int)), (7, iv v7), (8, iv (s.length : Int)), (9, iv 1)]) rfl ⟨rfl, rfl, rfl, rfl, rfl, rfl, rfl, rfl, rfl, trivial⟩ ?_
          exact y_mono (ih (p + 1) s [] false 1 W (by simp only [encT, List.nil_append, em, List.singleton_append, List.length_cons] at hm1 ⊢; omega) hW hL0.2 (by show ((p + 1 : Nat) : Int) + (encA R).length = v5 ∧ v5 ≤ 1600; omega) ho hd hs hTR hst (by simp only [encT, em, List.length_nil, List.length_cons] at hpf ⊢; omega) ⟨fun q => by rcases q with q | q; exact absurd rfl q; exact absurd q (by decide), fun _ _ => (hh.1 (Or.inr rfl)).symm⟩ hx2) (by omega)
      · have hor : tkO r := fun q hq => ho q (List.mem_cons_of_mem _ hq)
        have hfh : fh = 1 := hh.1 (Or.inl (List.cons_ne_nil _ _))
        have hc6 : c1 = 120 ∨ c1 = 121 ∨ c1 = 122 ∨ c1 = 123 ∨ c1 = 124 ∨ c1 = 125 := by
          by_cases h122 : c1 ≤ 122
          · have := ho _ List.mem_cons_self h122
            simp only at this
            omega
          · by_cases h123 : c1 = 123
            · omega
            · have := (dpt_jj (by omega) hd).1
              omega
        rcases hc6 with rfl | rfl | rfl | rfl | rfl | rfl
        · have hw := ho _ List.mem_cons_self (by decide : (120 : Int) ≤ 122)
          have hwx : tcd x := hw.2.1
          have hwy : tcd y := hw.2.2
          have hmx := mcd_rg hwx
          have hmy := mcd_rg hwy
          rw [encT_t (by decide), List.cons_append] at hL hn hm1
          simp only [List.length_cons] at hn hm1
          rw [encT_t (by decide)] at hpf
          simp only [List.length_cons] at hpf
          obtain ⟨hL1, hL4⟩ := hL
          obtain ⟨hd1, hd2⟩ := dpt_tt (by decide) hd
          rw [eK_t (by decide)] at hst
          refine y_ld (x := .ref 170) rfl rfl (fun d => rfl) ?_
          refine y_gR (i := 4) rfl rfl rfl (md170 hM) rfl ?_
          refine y_ld (x := iv (p : Int)) rfl rfl (fun d => rfl) ?_
          refine y_ild (x := (100000 + 4 * (200 * mcd x + mcd y) + (120 - 120))) (q := p) rfl rfl (md173 hM) (by omega) (by decide) (by omega) ((congrFun (hW 173 (by decide)) _).trans hL1) ?_
          refine y_zlt rfl rfl rfl (by omega) (fun g8 => absurd g8 (by omega)) (fun g8 => ?_)
          refine y_ld (x := .ref 170) rfl rfl (fun d => rfl) ?_
          refine y_gR (i := 4) rfl rfl rfl (md170 hM) rfl ?_
          refine y_ld (x := iv (p : Int)) rfl rfl (fun d => rfl) ?_
          refine y_ild (x := (100000 + 4 * (200 * mcd x + mcd y) + (120 - 120))) (q := p) rfl rfl (md173 hM) (by omega) (by decide) (by omega) ((congrFun (hW 173 (by decide)) _).trans hL1) ?_
          refine y_ld (x := iv 100000) rfl rfl (fun d => rfl) ?_
          refine y_jlt rfl rfl rfl (by omega) (fun g9 => absurd g9 (by omega)) (fun g9 => ?_)
          refine y_ld (x := .ref 170) rfl rfl (fun d => rfl) ?_
          refine y_gR (i := 4) rfl rfl rfl (md170 hM) rfl ?_
          refine y_ld (x := iv (p : Int)) rfl rfl (fun d => rfl) ?_
          refine y_ild (x := (100000 + 4 * (200 * mcd x + mcd y) + (120 - 120))) (q := p) rfl rfl (md173 hM) (by omega) (by decide) (by omega) ((congrFun (hW 173 (by decide)) _).trans hL1) ?_
          refine y_st (lv' := [(10, iv (100000 + 4 * (200 * mcd x + mcd y) + (120 - 120))), (0, .ref 170), (1, iv v1), (3, iv v3), (4, iv v4), (5, iv v5), (6, iv (p : Int)), (7, iv v7), (8, iv (s.length : Int)), (9, iv hv)]) rfl rfl (fun d => rfl) ?_
          refine y_ic rfl rfl ?_
          refine y_st (lv' := [(9, iv 1), (10, iv (100000 + 4 * (200 * mcd x + mcd y) + (120 - 120))), (0, .ref 170), (1, iv v1), (3, iv v3), (4, iv v4), (5, iv v5), (6, iv (p : Int)), (7, iv v7), (8, iv (s.length : Int))]) rfl rfl (fun d => rfl) ?_
          refine y_ld (x := iv (100000 + 4 * (200 * mcd x + mcd y) + (120 - 120))) rfl rfl (fun d => rfl) ?_
          refine y_ld (x := iv 100000) rfl rfl (fun d => rfl) ?_
          refine y_jlt rfl rfl rfl (by omega) (fun g10 => absurd g10 (by omega)) (fun g10 => ?_)
          refine y_ld (x := .ref 170) rfl rfl (fun d => rfl) ?_
          refine y_gR (i := 16) rfl rfl rfl (md170 hM) rfl ?_
          refine y_ld (x := iv (s.length : Int)) rfl rfl (fun d => rfl) ?_
          refine y_ld (x := .ref 170) rfl rfl (fun d => rfl) ?_
          refine y_ld (x := iv (100000 + 4 * (200 * mcd x + mcd y) + (120 - 120))) rfl rfl (fun d => rfl) ?_
          refine y_cV (as := [.ref 170, iv (100000 + 4 * (200 * mcd x + mcd y) + (120 - 120))]) rfl rfl rfl rfl rfl (md170 hM) ⟨rfl, (Nat.le_of_ble_eq_true rfl), (Nat.le_of_ble_eq_true rfl)⟩ (by decide) (ct_isSo hM (EvM_r hE (fun i _ _ => congrFun (hW 170 (by decide)) i)) (PkM_r hP (fun i _ _ => congrFun (hW 170 (by decide)) i)) hpk (by rw [hW A (by omega)]; exact hμr) (by decide) hwx hwy ?_)
          rw [hW A (by omega)]
          refine y_nv ?_
          refine y_bst (q := s.length) rfl rfl (md179 hM) (by omega) (by decide) (by omega) (by have := v_br (eT (zm (V A) B) a h κ n 120 x y = true); omega) ?_
          refine y_inc (z := ((s.length + 1 : Nat) : Int)) (lv' := [(8, iv ((s.length + 1 : Nat) : Int)), (9, iv 1), (10, iv (100000 + 4 * (200 * mcd x + mcd y) + (120 - 120))), (0, .ref 170), (1, iv v1), (3, iv v3), (4, iv v4), (5, iv v5), (6, iv (p : Int)), (7, iv v7)]) rfl rfl rfl (by omega) rfl ?_
          refine y_go rfl rfl ?_
          refine y_inc (z := ((p + 1 : Nat) : Int)) (lv' := [(6, iv ((p + 1 : Nat) : Int)), (8, iv ((s.length + 1 : Nat) : Int)), (9, iv 1), (10, iv (100000 + 4 * (200 * mcd x + mcd y) + (120 - 120))), (0, .ref 170), (1, iv v1), (3, iv v3), (4, iv v4), (5, iv v5), (7, iv v7)]) rfl rfl rfl (by omega) rfl ?_
          refine y_go rfl rfl ?_
          refine y_lv (l' := [(0, .ref 170), (1, iv v1), (3, iv v3), (4, iv v4), (5, iv v5), (6, iv ((p + 1 : Nat) : Int)), (7, iv v7), (8, iv ((s.length + 1 : Nat) : Int)), (9, iv 1)]) rfl ⟨rfl, rfl, rfl, rfl, rfl, rfl, rfl, rfl, rfl, trivial⟩ ?_
          exact y_mono (ih (p + 1) (eT (zm (V A) B) a h κ n 120 x y :: s) r E 1 (v_up W 179 s.length (v_b (eT (zm (V A) B) a h κ n 120 x y = true))) (by omega) (fun k hk => (v_up_ne hk).trans (hW k hk)) hL4 (by omega) hor hd2 (by simp only [List.length_cons]; omega) ⟨v_up_eq _ _ _ _, TR_up (Nat.le_refl _) hTR⟩ hst (by omega) ⟨fun _ => hfh, fun _ _ => hfh.symm⟩ hx2) (by omega)
        · have hw := ho _ List.mem_cons_self (by decide : (121 : Int) ≤ 122)
          have hwx : tcd x := hw.2.1
          have hwy : tcd y := hw.2.2
          have hmx := mcd_rg hwx
          have hmy := mcd_rg hwy
          rw [encT_t (by decide), List.cons_append] at hL hn hm1
          simp only [List.length_cons] at hn hm1
          rw [encT_t (by decide)] at hpf
          simp only [List.length_cons] at hpf
          obtain ⟨hL1, hL4⟩ := hL
          obtain ⟨hd1, hd2⟩ := dpt_tt (by decide) hd
          rw [eK_t (by decide)] at hst
          refine y_ld (x := .ref 170) rfl rfl (fun d => rfl) ?_
          refine y_gR (i := 4) rfl rfl rfl (md170 hM) rfl ?_
          refine y_ld (x := iv (p : Int)) rfl rfl (fun d => rfl) ?_
          refine y_ild (x := (100000 + 4 * (200 * mcd x + mcd y) + (121 - 120))) (q := p) rfl rfl (md173 hM) (by omega) (by decide) (by omega) ((congrFun (hW 173 (by decide)) _).trans hL1) ?_
          refine y_zlt rfl rfl rfl (by omega) (fun g11 => absurd g11 (by omega)) (fun g11 => ?_)
          refine y_ld (x := .ref 170) rfl rfl (fun d => rfl) ?_
          refine y_gR (i := 4) rfl rfl rfl (md170 hM) rfl ?_
          refine y_ld (x := iv (p : Int)) rfl rfl (fun d => rfl) ?_
          refine y_ild (x := (100000 + 4 * (200 * mcd x + mcd y) + (121 - 120))) (q := p) rfl rfl (md173 hM) (by omega) (by decide) (by omega) ((congrFun (hW 173 (by decide)) _).trans hL1) ?_
          refine y_ld (x := iv 100000) rfl rfl (fun d => rfl) ?_
          refine y_jlt rfl rfl rfl (by omega) (fun g12 => absurd g12 (by omega)) (fun g12 => ?_)
          refine y_ld (x := .ref 170) rfl rfl (fun d => rfl) ?_
          refine y_gR (i := 4) rfl rfl rfl (md170 hM) rfl ?_
          refine y_ld (x := iv (p : Int)) rfl rfl (fun d => rfl) ?_
          refine y_ild (x := (100000 + 4 * (200 * mcd x + mcd y) + (121 - 120))) (q := p) rfl rfl (md173 hM) (by omega) (by decide) (by omega) ((congrFun (hW 173 (by decide)) _).trans hL1) ?_
          refine y_st (lv' := [(10, iv (100000 + 4 * (200 * mcd x + mcd y) + (121 - 120))), (0, .ref 170), (1, iv v1), (3, iv v3), (4, iv v4), (5, iv v5), (6, iv (p : Int)), (7, iv v7), (8, iv (s.length : Int)), (9, iv hv)]) rfl rfl (fun d => rfl) ?_
          refine y_ic rfl rfl ?_
          refine y_st (lv' := [(9, iv 1), (10, iv (100000 + 4 * (200 * mcd x + mcd y) + (121 - 120))), (0, .ref 170), (1, iv v1), (3, iv v3), (4, iv v4), (5, iv v5), (6, iv (p : Int)), (7, iv v7), (8, iv (s.length : Int))]) rfl rfl (fun d => rfl) ?_
          refine y_ld (x := iv (100000 + 4 * (200 * mcd x + mcd y) + (121 - 120))) rfl rfl (fun d => rfl) ?_
          refine y_ld (x := iv 100000) rfl rfl (fun d => rfl) ?_
          refine y_jlt rfl rfl rfl (by omega) (fun g13 => absurd g13 (by omega)) (fun g13 => ?_)
          refine y_ld (x := .ref 170) rfl rfl (fun d => rfl) ?_
          refine y_gR (i := 16) rfl rfl rfl (md170 hM) rfl ?_
          refine y_ld (x := iv (s.length : Int)) rfl rfl (fun d => rfl) ?_
          refine y_ld (x := .ref 170) rfl rfl (fun d => rfl) ?_
          refine y_ld (x := iv (100000 + 4 * (200 * mcd x + mcd y) + (121 - 120))) rfl rfl (fun d => rfl) ?_
          refine y_cV (as := [.ref 170, iv (100000 + 4 * (200 * mcd x + mcd y) + (121 - 120))]) rfl rfl rfl rfl rfl (md170 hM) ⟨rfl, (Nat.le_of_ble_eq_true rfl), (Nat.le_of_ble_eq_true rfl)⟩ (by decide) (ct_isSo hM (EvM_r hE (fun i _ _ => congrFun (hW 170 (by decide)) i)) (PkM_r hP (fun i _ _ => congrFun (hW 170 (by decide)) i)) hpk (by rw [hW A (by omega)]; exact hμr) (by decide) hwx hwy ?_)
          rw [hW A (by omega)]
          refine y_nv ?_
          refine y_bst (q := s.length) rfl rfl (md179 hM) (by omega) (by decide) (by omega) (by have := v_br (eT (zm (V A) B) a h κ n 121 x y = true); omega) ?_
          refine y_inc (z := ((s.length + 1 : Nat) : Int)) (lv' := [(8, iv ((s.length + 1 : Nat) : Int)), (9, iv 1), (10, iv (100000 + 4 * (200 * mcd x + mcd y) + (121 - 120))), (0, .ref 170), (1, iv v1), (3, iv v3), (4, iv v4), (5, iv v5), (6, iv (p : Int)), (7, iv v7)]) rfl rfl rfl (by omega) rfl ?_
          refine y_go rfl rfl ?_
          refine y_inc (z := ((p + 1 : Nat) : Int)) (lv' := [(6, iv ((p + 1 : Nat) : Int)), (8, iv ((s.length + 1 : Nat) : Int)), (9, iv 1), (10, iv (100000 + 4 * (200 * mcd x + mcd y) + (121 - 120))), (0, .ref 170), (1, iv v1), (3, iv v3), (4, iv v4), (5, iv v5), (7, iv v7)]) rfl rfl rfl (by omega) rfl ?_
          refine y_go rfl rfl ?_
          refine y_lv (l' := [(0, .ref 170), (1, iv v1), (3, iv v3), (4, iv v4), (5, iv v5), (6, iv ((p + 1 : Nat) : Int)), (7, iv v7), (8, iv ((s.length + 1 : Nat) : Int)), (9, iv 1)]) rfl ⟨rfl, rfl, rfl, rfl, rfl, rfl, rfl, rfl, rfl, trivial⟩ ?_
          exact y_mono (ih (p + 1) (eT (zm (V A) B) a h κ n 121 x y :: s) r E 1 (v_up W 179 s.length (v_b (eT (zm (V A) B) a h κ n 121 x y = true))) (by omega) (fun k hk => (v_up_ne hk).trans (hW k hk)) hL4 (by omega) hor hd2 (by simp only [List.length_cons]; omega) ⟨v_up_eq _ _ _ _, TR_up (Nat.le_refl _) hTR⟩ hst (by omega) ⟨fun _ => hfh, fun _ _ => hfh.symm⟩ hx2) (by omega)
        · have hw := ho _ List.mem_cons_self (by decide : (122 : Int) ≤ 122)
          have hwx : tcd x := hw.2.1
          have hwy : tcd y := hw.2.2
          have hmx := mcd_rg hwx
          have hmy := mcd_rg hwy
          rw [encT_t (by decide), List.cons_append] at hL hn hm1
          simp only [List.length_cons] at hn hm1
          rw [encT_t (by decide)] at hpf
          simp only [List.length_cons] at hpf
          obtain ⟨hL1, hL4⟩ := hL
          obtain ⟨hd1, hd2⟩ := dpt_tt (by decide) hd
          rw [eK_t (by decide)] at hst
          refine y_ld (x := .ref 170) rfl rfl (fun d => rfl) ?_
          refine y_gR (i := 4) rfl rfl rfl (md170 hM) rfl ?_
          refine y_ld (x := iv (p : Int)) rfl rfl (fun d => rfl) ?_
          refine y_ild (x := (100000 + 4 * (200 * mcd x + mcd y) + (122 - 120))) (q := p) rfl rfl (md173 hM) (by omega) (by decide) (by omega) ((congrFun (hW 173 (by decide)) _).trans hL1) ?_
          refine y_zlt rfl rfl rfl (by omega) (fun g14 => absurd g14 (by omega)) (fun g14 => ?_)
          refine y_ld (x := .ref 170) rfl rfl (fun d => rfl) ?_
          refine y_gR (i := 4) rfl rfl rfl (md170 hM) rfl ?_
          refine y_ld (x := iv (p : Int)) rfl rfl (fun d => rfl) ?_
          refine y_ild (x := (100000 + 4 * (200 * mcd x + mcd y) + (122 - 120))) (q := p) rfl rfl (md173 hM) (by omega) (by decide) (by omega) ((congrFun (hW 173 (by decide)) _).trans hL1) ?_
          refine y_ld (x := iv 100000) rfl rfl (fun d => rfl) ?_
          refine y_jlt rfl rfl rfl (by omega) (fun g15 => absurd g15 (by omega)) (fun g15 => ?_)
          refine y_ld (x := .ref 170) rfl rfl (fun d => rfl) ?_
          refine y_gR (i := 4) rfl rfl rfl (md170 hM) rfl ?_
          refine y_ld (x := iv (p : Int)) rfl rfl (fun d => rfl) ?_
          refine y_ild (x := (100000 + 4 * (200 * mcd x + mcd y) + (122 - 120))) (q := p) rfl rfl (md173 hM) (by omega) (by decide) (by omega) ((congrFun (hW 173 (by decide)) _).trans hL1) ?_
          refine y_st (lv' := [(10, iv (100000 + 4 * (200 * mcd x + mcd y) + (122 - 120))), (0, .ref 170), (1, iv v1), (3, iv v3), (4, iv v4), (5, iv v5), (6, iv (p : Int)), (7, iv v7), (8, iv (s.length : Int)), (9, iv hv)]) rfl rfl (fun d => rfl) ?_
          refine y_ic rfl rfl ?_
          refine y_st (lv' := [(9, iv 1), (10, iv (100000 + 4 * (200 * mcd x + mcd y) + (122 - 120))), (0, .ref 170), (1, iv v1), (3, iv v3), (4, iv v4), (5, iv v5), (6, iv (p : Int)), (7, iv v7), (8, iv (s.length : Int))]) rfl rfl (fun d => rfl) ?_
          refine y_ld (x := iv (100000 + 4 * (200 * mcd x + mcd y) + (122 - 120))) rfl rfl (fun d => rfl) ?_
          refine y_ld (x := iv 100000) rfl rfl (fun d => rfl) ?_
          refine y_jlt rfl rfl rfl (by omega) (fun g16 => absurd g16 (by omega)) (fun g16 => ?_)
          refine y_ld (x := .ref 170) rfl rfl (fun d => rfl) ?_
          refine y_gR (i := 16) rfl rfl rfl (md170 hM) rfl ?_
          refine y_ld (x := iv (s.length : Int)) rfl rfl (fun d => rfl) ?_
          refine y_ld (x := .ref 170) rfl rfl (fun d => rfl) ?_
          refine y_ld (x := iv (100000 + 4 * (200 * mcd x + mcd y) + (122 - 120))) rfl rfl (fun d => rfl) ?_
          refine y_cV (as := [.ref 170, iv (100000 + 4 * (200 * mcd x + mcd y) + (122 - 120))]) rfl rfl rfl rfl rfl (md170 hM) ⟨rfl, (Nat.le_of_ble_eq_true rfl), (Nat.le_of_ble_eq_true rfl)⟩ (by decide) (ct_isSo hM (EvM_r hE (fun i _ _ => congrFun (hW 170 (by decide)) i)) (PkM_r hP (fun i _ _ => congrFun (hW 170 (by decide)) i)) hpk (by rw [hW A (by omega)]; exact hμr) (by decide) hwx hwy ?_)
          rw [hW A (by omega)]
          refine y_nv ?_
          refine y_bst (q := s.length) rfl rfl (md179 hM) (by omega) (by decide) (by omega) (by have := v_br (eT (zm (V A) B) a h κ n 122 x y = true); omega) ?_
          refine y_inc (z := ((s.length + 1 : Nat) : Int)) (lv' := [(8, iv ((s.length + 1 : Nat) : Int)), (9, iv 1), (10, iv (100000 + 4 * (200 * mcd x + mcd y) + (122 - 120))), (0, .ref 170), (1, iv v1), (3, iv v3), (4, iv v4), (5, iv v5), (6, iv (p : Int)), (7, iv v7)]) rfl rfl rfl (by omega) rfl ?_
          refine y_go rfl rfl ?_
          refine y_inc (z := ((p + 1 : Nat) : Int)) (lv' := [(6, iv ((p + 1 : Nat) : Int)), (8, iv ((s.length + 1 : Nat) : Int)), (9, iv 1), (10, iv (100000 + 4 * (200 * mcd x + mcd y) + (122 - 120))), (0, .ref 170), (1, iv v1), (3, iv v3), (4, iv v4), (5, iv v5), (7, iv v7)]) rfl rfl rfl (by omega) rfl ?_
          refine y_go rfl rfl ?_
          refine y_lv (l' := [(0, .ref 170), (1, iv v1), (3, iv v3), (4, iv v4), (5, iv v5), (6, iv ((p + 1 : Nat) : Int)), (7, iv v7), (8, iv ((s.length + 1 : Nat) : Int)), (9, iv 1)]) rfl ⟨rfl, rfl, rfl, rfl, rfl, rfl, rfl, rfl, rfl, trivial⟩ ?_
          exact y_mono (ih (p + 1) (eT (zm (V A) B) a h κ n 122 x y :: s) r E 1 (v_up W 179 s.length (v_b (eT (zm (V A) B) a h κ n 122 x y = true))) (by omega) (fun k hk => (v_up_ne hk).trans (hW k hk)) hL4 (by omega) hor hd2 (by simp only [List.length_cons]; omega) ⟨v_up_eq _ _ _ _, TR_up (Nat.le_refl _) hTR⟩ hst (by omega) ⟨fun _ => hfh, fun _ _ => hfh.symm⟩ hx2) (by omega)
        · rw [encT_o (by decide), List.cons_append] at hL hn hm1
          simp only [List.length_cons] at hn hm1
          rw [encT_o (by decide)] at hpf
          simp only [List.length_cons] at hpf
          obtain ⟨hL1, hL4⟩ := hL
          replace hL1 : V 173 p = -1 := hL1.trans (by decide)
          obtain ⟨hd1, hd2⟩ := dpt_nn hd
          rcases s with _ | ⟨b, s⟩
          · exact absurd hd1 (by decide)
          rw [eK_n] at hst
          simp only [List.length_cons] at hs
          refine y_lv (l' := [(0, .ref 170), (1, iv v1), (3, iv v3), (4, iv v4), (5, iv v5), (6, iv (p : Int)), (7, iv v7), (8, iv ((s.length + 1 : Nat) : Int)), (9, iv hv)]) rfl ⟨rfl, rfl, rfl, rfl, rfl, rfl, rfl, rfl, rfl, trivial⟩ ?_
          cases b
          · have hb1 : W 179 s.length = 0 := hTR.1.trans (v_b0 (by decide))
            refine y_ld (x := .ref 170) rfl rfl (fun d => rfl) ?_
            refine y_gR (i := 4) rfl rfl rfl (md170 hM) rfl ?_
            refine y_ld (x := iv (p : Int)) rfl rfl (fun d => rfl) ?_
            refine y_ild (x := (-1)) (q := p) rfl rfl (md173 hM) (by omega) (by decide) (by omega) ((congrFun (hW 173 (by decide)) _).trans hL1) ?_
            refine y_zlt rfl rfl rfl (by decide) (fun g17 => ?_) (fun g17 => absurd g17 (by decide))
            refine y_ld (x := .ref 170) rfl rfl (fun d => rfl) ?_
            refine y_gR (i := 4) rfl rfl rfl (md170 hM) rfl ?_
            refine y_ld (x := iv (p : Int)) rfl rfl (fun d => rfl) ?_
            refine y_ild (x := (-1)) (q := p) rfl rfl (md173 hM) (by omega) (by decide) (by omega) ((congrFun (hW 173 (by decide)) _).trans hL1) ?_
            refine y_st (lv' := [(10, iv (-1)), (0, .ref 170), (1, iv v1), (3, iv v3), (4, iv v4), (5, iv v5), (6, iv (p : Int)), (7, iv v7), (8, iv ((s.length + 1 : Nat) : Int)), (9, iv hv)]) rfl rfl (fun d => rfl) ?_
            refine y_ic rfl rfl ?_
            refine y_st (lv' := [(9, iv 1), (10, iv (-1)), (0, .ref 170), (1, iv v1), (3, iv v3), (4, iv v4), (5, iv v5), (6, iv (p : Int)), (7, iv v7), (8, iv ((s.length + 1 : Nat) : Int))]) rfl rfl (fun d => rfl) ?_
            refine y_ld (x := iv (-1)) rfl rfl (fun d => rfl) ?_
            refine y_ld (x := iv 100000) rfl rfl (fun d => rfl) ?_
            refine y_jlt rfl rfl rfl (by decide) (fun g18 => ?_) (fun g18 => absurd g18 (by decide))
            refine y_ld (x := iv (-1)) rfl rfl (fun d => rfl) ?_
            refine y_ic rfl rfl ?_
            refine y_jne rfl rfl rfl (by decide) (fun g19 => absurd g19 (by decide)) (fun g19 => ?_)
            refine y_ld (x := .ref 170) rfl rfl (fun d => rfl) ?_
            refine y_gR (i := 16) rfl rfl rfl (md170 hM) rfl ?_
            refine y_ld (x := iv ((s.length + 1 : Nat) : Int)) rfl rfl (fun d => rfl) ?_
            refine y_ic rfl rfl ?_
            refine y_sub (z := (s.length : Int)) rfl rfl (by omega) ?_
            refine y_ld (x := .ref 170) rfl rfl (fun d => rfl) ?_
            refine y_gR (i := 16) rfl rfl rfl (md170 hM) rfl ?_
            refine y_ld (x := iv ((s.length + 1 : Nat) : Int)) rfl rfl (fun d => rfl) ?_
            refine y_ic rfl rfl ?_
            refine y_sub (z := (s.length : Int)) rfl rfl (by omega) ?_
            refine y_bld (x := 0) (q := s.length) rfl rfl (md179 hM) (by omega) (by decide) (by omega) hb1 ?_
            refine y_zne rfl rfl rfl (by decide) (fun g20 => absurd g20 (by decide)) (fun g20 => ?_)
            refine y_ic rfl rfl ?_
            refine y_go rfl rfl ?_
            refine y_bst (q := s.length) rfl rfl (md179 hM) (by omega) (by decide) (by omega) (by decide) ?_
            refine y_go rfl rfl ?_
            refine y_inc (z := ((p + 1 : Nat) : Int)) (lv' := [(6, iv ((p + 1 : Nat) : Int)), (9, iv 1), (10, iv (-1)), (0, .ref 170), (1, iv v1), (3, iv v3), (4, iv v4), (5, iv v5), (7, iv v7), (8, iv ((s.length + 1 : Nat) : Int))]) rfl rfl rfl (by omega) rfl ?_
            refine y_go rfl rfl ?_
            refine y_lv (l' := [(0, .ref 170), (1, iv v1), (3, iv v3), (4, iv v4), (5, iv v5), (6, iv ((p + 1 : Nat) : Int)), (7, iv v7), (8, iv ((s.length + 1 : Nat) : Int)), (9, iv 1)]) rfl ⟨rfl, rfl, rfl, rfl, rfl, rfl, rfl, rfl, rfl, trivial⟩ ?_
            exact y_mono (ih (p + 1) (true :: s) r E 1 (v_up W 179 s.length 1) (by omega) (fun k hk => (v_up_ne hk).trans (hW k hk)) hL4 (by omega) hor hd2 (by simp only [List.length_cons]; omega) ⟨(v_up_eq _ _ _ _).trans ((v_b1 rfl).symm), TR_up (Nat.le_refl _) hTR.2⟩ hst (by omega) ⟨fun _ => hfh, fun _ _ => hfh.symm⟩ hx2) (by omega)
          · have hb1 : W 179 s.length = 1 := hTR.1.trans (v_b1 rfl)
            refine y_ld (x := .ref 170) rfl rfl (fun d => rfl) ?_
            refine y_gR (i := 4) rfl rfl rfl (md170 hM) rfl ?_
            refine y_ld (x := iv (p : Int)) rfl rfl (fun d => rfl) ?_
            refine y_ild (x := (-1)) (q := p) rfl rfl (md173 hM) (by omega) (by decide) (by omega) ((congrFun (hW 173 (by decide)) _).trans hL1) ?_
            refine y_zlt rfl rfl rfl (by decide) (fun g21 => ?_) (fun g21 => absurd g21 (by decide))
            refine y_ld (x := .ref 170) rfl rfl (fun d => rfl) ?_
            refine y_gR (i := 4) rfl rfl rfl (md170 hM) rfl ?_
            refine y_ld (x := iv (p : Int)) rfl rfl (fun d => rfl) ?_
            refine y_ild (x := (-1)) (q := p) rfl rfl (md173 hM) (by omega) (by decide) (by omega) ((congrFun (hW 173 (by decide)) _).trans hL1) ?_
            refine y_st (lv' := [(10, iv (-1)), (0, .ref 170), (1, iv v1), (3, iv v3), (4, iv v4), (5, iv v5), (6, iv (p : Int)), (7, iv v7), (8, iv ((s.length + 1 : Nat) : Int)), (9, iv hv)]) rfl rfl (fun d => rfl) ?_
            refine y_ic rfl rfl ?_
            refine y_st (lv' := [(9, iv 1), (10, iv (-1)), (0, .ref 170), (1, iv v1), (3, iv v3), (4, iv v4), (5, iv v5), (6, iv (p : Int)), (7, iv v7), (8, iv ((s.length + 1 : Nat) : Int))]) rfl rfl (fun d => rfl) ?_
            refine y_ld (x := iv (-1)) rfl rfl (fun d => rfl) ?_
            refine y_ld (x := iv 100000) rfl rfl (fun d => rfl) ?_
            refine y_jlt rfl rfl rfl (by decide) (fun g22 => ?_) (fun g22 => absurd g22 (by decide))
            refine y_ld (x := iv (-1)) rfl rfl (fun d => rfl) ?_
            refine y_ic rfl rfl ?_
            refine y_jne rfl rfl rfl (by decide) (fun g23 => absurd g23 (by decide)) (fun g23 => ?_)
            refine y_ld (x := .ref 170) rfl rfl (fun d => rfl) ?_
            refine y_gR (i := 16) rfl rfl rfl (md170 hM) rfl ?_
            refine y_ld (x := iv ((s.length + 1 : Nat) : Int)) rfl rfl (fun d => rfl) ?_
            refine y_ic rfl rfl ?_
            refine y_sub (z := (s.length : Int)) rfl rfl (by omega) ?_
            refine y_ld (x := .ref 170) rfl rfl (fun d => rfl) ?_
            refine y_gR (i := 16) rfl rfl rfl (md170 hM) rfl ?_
            refine y_ld (x := iv ((s.length + 1 : Nat) : Int)) rfl rfl (fun d => rfl) ?_
            refine y_ic rfl rfl ?_
            refine y_sub (z := (s.length : Int)) rfl rfl (by omega) ?_
            refine y_bld (x := 1) (q := s.length) rfl rfl (md179 hM) (by omega) (by decide) (by omega) hb1 ?_
            refine y_zne rfl rfl rfl (by decide) (fun g24 => ?_) (fun g24 => absurd g24 (by decide))
            refine y_ic rfl rfl ?_
            refine y_bst (q := s.length) rfl rfl (md179 hM) (by omega) (by decide) (by omega) (by decide) ?_
            refine y_go rfl rfl ?_
            refine y_inc (z := ((p + 1 : Nat) : Int)) (lv' := [(6, iv ((p + 1 : Nat) : Int)), (9, iv 1), (10, iv (-1)), (0, .ref 170), (1, iv v1), (3, iv v3), (4, iv v4), (5, iv v5), (7, iv v7), (8, iv ((s.length + 1 : Nat) : Int))]) rfl rfl rfl (by omega) rfl ?_
            refine y_go rfl rfl ?_
            refine y_lv (l' := [(0, .ref 170), (1, iv v1), (3, iv v3), (4, iv v4), (5, iv v5), (6, iv ((p + 1 : Nat) : Int)), (7, iv v7), (8, iv ((s.length + 1 : Nat) : Int)), (9, iv 1)]) rfl ⟨rfl, rfl, rfl, rfl, rfl, rfl, rfl, rfl, rfl, trivial⟩ ?_
            exact y_mono (ih (p + 1) (false :: s) r E 1 (v_up W 179 s.length 0) (by omega) (fun k hk => (v_up_ne hk).trans (hW k hk)) hL4 (by omega) hor hd2 (by simp only [List.length_cons]; omega) ⟨(v_up_eq _ _ _ _).trans ((v_b0 (by decide)).symm), TR_up (Nat.le_refl _) hTR.2⟩ hst (by omega) ⟨fun _ => hfh, fun _ _ => hfh.symm⟩ hx2) (by omega)
        · rw [encT_o (by decide), List.cons_append] at hL hn hm1
          simp only [List.length_cons] at hn hm1
          rw [encT_o (by decide)] at hpf
          simp only [List.length_cons] at hpf
          obtain ⟨hL1, hL4⟩ := hL
          replace hL1 : V 173 p = -2 := hL1.trans (by decide)
          obtain ⟨-, hd1, hd2⟩ := dpt_jj (by decide) hd
          rcases s with _ | ⟨b2, _ | ⟨b1, s⟩⟩
          · exact absurd hd1 (by decide)
          · exact absurd hd1 (by simp)
          simp only [List.length_cons] at hs
          simp only [List.length_cons, Nat.add_sub_cancel] at hd2
          rw [eK_a] at hst
          refine y_lv (l' := [(0, .ref 170), (1, iv v1), (3, iv v3), (4, iv v4), (5, iv v5), (6, iv (p : Int)), (7, iv v7), (8, iv ((s.length + 1 + 1 : Nat) : Int)), (9, iv hv)]) rfl ⟨rfl, rfl, rfl, rfl, rfl, rfl, rfl, rfl, rfl, trivial⟩ ?_
          cases b2 <;> cases b1
          · have hb2 : W 179 (s.length + 1) = 0 := hTR.1.trans (v_b0 (by decide))
            have hb1 : W 179 s.length = 0 := hTR.2.1.trans (v_b0 (by decide))
            refine y_ld (x := .ref 170) rfl rfl (fun d => rfl) ?_
            refine y_gR (i := 4) rfl rfl rfl (md170 hM) rfl ?_
            refine y_ld (x := iv (p : Int)) rfl rfl (fun d => rfl) ?_
            refine y_ild (x := (-2)) (q := p) rfl rfl (md173 hM) (by omega) (by decide) (by omega) ((congrFun (hW 173 (by decide)) _).trans hL1) ?_
            refine y_zlt rfl rfl rfl (by decide) (fun g25 => ?_) (fun g25 => absurd g25 (by decide))
            refine y_ld (x := .ref 170) rfl rfl (fun d => rfl) ?_
            refine y_gR (i := 4) rfl rfl rfl (md170 hM) rfl ?_
            refine y_ld (x := iv (p : Int)) rfl rfl (fun d => rfl) ?_
            refine y_ild (x := (-2)) (q := p) rfl rfl (md173 hM) (by omega) (by decide) (by omega) ((congrFun (hW 173 (by decide)) _).trans hL1) ?_
            refine y_st (lv' := [(10, iv (-2)), (0, .ref 170), (1, iv v1), (3, iv v3), (4, iv v4), (5, iv v5), (6, iv (p : Int)), (7, iv v7), (8, iv ((s.length + 1 + 1 : Nat) : Int)), (9, iv hv)]) rfl rfl (fun d => rfl) ?_
            refine y_ic rfl rfl ?_
            refine y_st (lv' := [(9, iv 1), (10, iv (-2)), (0, .ref 170), (1, iv v1), (3, iv v3), (4, iv v4), (5, iv v5), (6, iv (p : Int)), (7, iv v7), (8, iv ((s.length + 1 + 1 : Nat) : Int))]) rfl rfl (fun d => rfl) ?_
            refine y_ld (x := iv (-2)) rfl rfl (fun d => rfl) ?_
            refine y_ld (x := iv 100000) rfl rfl (fun d => rfl) ?_
            refine y_jlt rfl rfl rfl (by decide) (fun g26 => ?_) (fun g26 => absurd g26 (by decide))
            refine y_ld (x := iv (-2)) rfl rfl (fun d => rfl) ?_
            refine y_ic rfl rfl ?_
            refine y_jne rfl rfl rfl (by decide) (fun g27 => ?_) (fun g27 => absurd g27 (by decide))
            refine y_ld (x := iv (-2)) rfl rfl (fun d => rfl) ?_
            refine y_bi rfl rfl (by decide) ?_
            refine y_jeq rfl rfl rfl (by decide) (fun g28 => absurd g28 (by decide)) (fun g28 => ?_)
            refine y_inc (z := ((s.length + 1 : Nat) : Int)) (lv' := [(8, iv ((s.length + 1 : Nat) : Int)), (9, iv 1), (10, iv (-2)), (0, .ref 170), (1, iv v1), (3, iv v3), (4, iv v4), (5, iv v5), (6, iv (p : Int)), (7, iv v7)]) rfl rfl rfl (by omega) rfl ?_
            refine y_ld (x := .ref 170) rfl rfl (fun d => rfl) ?_
            refine y_gR (i := 16) rfl rfl rfl (md170 hM) rfl ?_
            refine y_ld (x := iv ((s.length + 1 : Nat) : Int)) rfl rfl (fun d => rfl) ?_
            refine y_ic rfl rfl ?_
            refine y_sub (z := (s.length : Int)) rfl rfl (by omega) ?_
            refine y_ld (x := iv (-2)) rfl rfl (fun d => rfl) ?_
            refine y_bi rfl rfl (by decide) ?_
            refine y_jne rfl rfl rfl (by decide) (fun g29 => absurd g29 (by decide)) (fun g29 => ?_)
            refine y_ld (x := .ref 170) rfl rfl (fun d => rfl) ?_
            refine y_gR (i := 16) rfl rfl rfl (md170 hM) rfl ?_
            refine y_ld (x := iv ((s.length + 1 : Nat) : Int)) rfl rfl (fun d => rfl) ?_
            refine y_ic rfl rfl ?_
            refine y_sub (z := (s.length : Int)) rfl rfl (by omega) ?_
            refine y_bld (x := 0) (q := s.length) rfl rfl (md179 hM) (by omega) (by decide) (by omega) hb1 ?_
            refine y_zeq rfl rfl rfl (by decide) (fun g30 => ?_) (fun g30 => absurd g30 (by decide))
            refine y_ic rfl rfl ?_
            refine y_go rfl rfl ?_
            refine y_bst (q := s.length) rfl rfl (md179 hM) (by omega) (by decide) (by omega) (by decide) ?_
            refine y_inc (z := ((p + 1 : Nat) : Int)) (lv' := [(6, iv ((p + 1 : Nat) : Int)), (8, iv ((s.length + 1 : Nat) : Int)), (9, iv 1), (10, iv (-2)), (0, .ref 170), (1, iv v1), (3, iv v3), (4, iv v4), (5, iv v5), (7, iv v7)]) rfl rfl rfl (by omega) rfl ?_
            refine y_go rfl rfl ?_
            refine y_lv (l' := [(0, .ref 170), (1, iv v1), (3, iv v3), (4, iv v4), (5, iv v5), (6, iv ((p + 1 : Nat) : Int)), (7, iv v7), (8, iv ((s.length + 1 : Nat) : Int)), (9, iv 1)]) rfl ⟨rfl, rfl, rfl, rfl, rfl, rfl, rfl, rfl, rfl, trivial⟩ ?_
            exact y_mono (ih (p + 1) (false :: s) r E 1 (v_up W 179 s.length 0) (by omega) (fun k hk => (v_up_ne hk).trans (hW k hk)) hL4 (by omega) hor hd2 (by simp only [List.length_cons]; omega) ⟨(v_up_eq _ _ _ _).trans ((v_b0 (by decide)).symm), TR_up (Nat.le_refl _) hTR.2.2⟩ hst (by omega) ⟨fun _ => hfh, fun _ _ => hfh.symm⟩ hx2) (by omega)
          · have hb2 : W 179 (s.length + 1) = 0 := hTR.1.trans (v_b0 (by decide))
            have hb1 : W 179 s.length = 1 := hTR.2.1.trans (v_b1 rfl)
            refine y_ld (x := .ref 170) rfl rfl (fun d => rfl) ?_
            refine y_gR (i := 4) rfl rfl rfl (md170 hM) rfl ?_
            refine y_ld (x := iv (p : Int)) rfl rfl (fun d => rfl) ?_
            refine y_ild (x := (-2)) (q := p) rfl rfl (md173 hM) (by omega) (by decide) (by omega) ((congrFun (hW 173 (by decide)) _).trans hL1) ?_
            refine y_zlt rfl rfl rfl (by decide) (fun g31 => ?_) (fun g31 => absurd g31 (by decide))
            refine y_ld (x := .ref 170) rfl rfl (fun d => rfl) ?_
            refine y_gR (i := 4) rfl rfl rfl (md170 hM) rfl ?_
            refine y_ld (x := iv (p : Int)) rfl rfl (fun d => rfl) ?_
            refine y_ild (x := (-2)) (q := p) rfl rfl (md173 hM) (by omega) (by decide) (by omega) ((congrFun (hW 173 (by decide)) _).trans hL1) ?_
            refine y_st (lv' := [(10, iv (-2)), (0, .ref 170), (1, iv v1), (3, iv v3), (4, iv v4), (5, iv v5), (6, iv (p : Int)), (7, iv v7), (8, iv ((s.length + 1 + 1 : Nat) : Int)), (9, iv hv)]) rfl rfl (fun d => rfl) ?_
            refine y_ic rfl rfl ?_
            refine y_st (lv' := [(9, iv 1), (10, iv (-2)), (0, .ref 170), (1, iv v1), (3, iv v3), (4, iv v4), (5, iv v5), (6, iv (p : Int)), (7, iv v7), (8, iv ((s.length + 1 + 1 : Nat) : Int))]) rfl rfl (fun d => rfl) ?_
            refine y_ld (x := iv (-2)) rfl rfl (fun d => rfl) ?_
            refine y_ld (x := iv 100000) rfl rfl (fun d => rfl) ?_
            refine y_jlt rfl rfl rfl (by decide) (fun g32 => ?_) (fun g32 => absurd g32 (by decide))
            refine y_ld (x := iv (-2)) rfl rfl (fun d => rfl) ?_
            refine y_ic rfl rfl ?_
            refine y_jne rfl rfl rfl (by decide) (fun g33 => ?_) (fun g33 => absurd g33 (by decide))
            refine y_ld (x := iv (-2)) rfl rfl (fun d => rfl) ?_
            refine y_bi rfl rfl (by decide) ?_
            refine y_jeq rfl rfl rfl (by decide) (fun g34 => absurd g34 (by decide)) (fun g34 => ?_)
            refine y_inc (z := ((s.length + 1 : Nat) : Int)) (lv' := [(8, iv ((s.length + 1 : Nat) : Int)), (9, iv 1), (10, iv (-2)), (0, .ref 170), (1, iv v1), (3, iv v3), (4, iv v4), (5, iv v5), (6, iv (p : Int)), (7, iv v7)]) rfl rfl rfl (by omega) rfl ?_
            refine y_ld (x := .ref 170) rfl rfl (fun d => rfl) ?_
            refine y_gR (i := 16) rfl rfl rfl (md170 hM) rfl ?_
            refine y_ld (x := iv ((s.length + 1 : Nat) : Int)) rfl rfl (fun d => rfl) ?_
            refine y_ic rfl rfl ?_
            refine y_sub (z := (s.length : Int)) rfl rfl (by omega) ?_
            refine y_ld (x := iv (-2)) rfl rfl (fun d => rfl) ?_
            refine y_bi rfl rfl (by decide) ?_
            refine y_jne rfl rfl rfl (by decide) (fun g35 => absurd g35 (by decide)) (fun g35 => ?_)
            refine y_ld (x := .ref 170) rfl rfl (fun d => rfl) ?_
            refine y_gR (i := 16) rfl rfl rfl (md170 hM) rfl ?_
            refine y_ld (x := iv ((s.length + 1 : Nat) : Int)) rfl rfl (fun d => rfl) ?_
            refine y_ic rfl rfl ?_
            refine y_sub (z := (s.length : Int)) rfl rfl (by omega) ?_
            refine y_bld (x := 1) (q := s.length) rfl rfl (md179 hM) (by omega) (by decide) (by omega) hb1 ?_
            refine y_zeq rfl rfl rfl (by decide) (fun g36 => absurd g36 (by decide)) (fun g36 => ?_)
            refine y_ld (x := .ref 170) rfl rfl (fun d => rfl) ?_
            refine y_gR (i := 16) rfl rfl rfl (md170 hM) rfl ?_
            refine y_ld (x := iv ((s.length + 1 : Nat) : Int)) rfl rfl (fun d => rfl) ?_
            refine y_bld (x := 0) (q := (s.length + 1)) rfl rfl (md179 hM) (by omega) (by decide) (by omega) hb2 ?_
            refine y_zeq rfl rfl rfl (by decide) (fun g37 => ?_) (fun g37 => absurd g37 (by decide))
            refine y_ic rfl rfl ?_
            refine y_go rfl rfl ?_
            refine y_bst (q := s.length) rfl rfl (md179 hM) (by omega) (by decide) (by omega) (by decide) ?_
            refine y_inc (z := ((p + 1 : Nat) : Int)) (lv' := [(6, iv ((p + 1 : Nat) : Int)), (8, iv ((s.length + 1 : Nat) : Int)), (9, iv 1), (10, iv (-2)), (0, .ref 170), (1, iv v1), (3, iv v3), (4, iv v4), (5, iv v5), (7, iv v7)]) rfl rfl rfl (by omega) rfl ?_
            refine y_go rfl rfl ?_
            refine y_lv (l' := [(0, .ref 170), (1, iv v1), (3, iv v3), (4, iv v4), (5, iv v5), (6, iv ((p + 1 : Nat) : Int)), (7, iv v7), (8, iv ((s.length + 1 : Nat) : Int)), (9, iv 1)]) rfl ⟨rfl, rfl, rfl, rfl, rfl, rfl, rfl, rfl, rfl, trivial⟩ ?_
            exact y_mono (ih (p + 1) (false :: s) r E 1 (v_up W 179 s.length 0) (by omega) (fun k hk => (v_up_ne hk).trans (hW k hk)) hL4 (by omega) hor hd2 (by simp only [List.length_cons]; omega) ⟨(v_up_eq _ _ _ _).trans ((v_b0 (by decide)).symm), TR_up (Nat.le_refl _) hTR.2.2⟩ hst (by omega) ⟨fun _ => hfh, fun _ _ => hfh.symm⟩ hx2) (by omega)
          · have hb2 : W 179 (s.length + 1) = 1 := hTR.1.trans (v_b1 rfl)
            have hb1 : W 179 s.length = 0 := hTR.2.1.trans (v_b0 (by decide))
            refine y_ld (x := .ref 170) rfl rfl (fun d => rfl) ?_
            refine y_gR (i := 4) rfl rfl rfl (md170 hM) rfl ?_
            refine y_ld (x := iv (p : Int)) rfl rfl (fun d => rfl) ?_
            refine y_ild (x := (-2)) (q := p) rfl rfl (md173 hM) (by omega) (by decide) (by omega) ((congrFun (hW 173 (by decide)) _).trans hL1) ?_
            refine y_zlt rfl rfl rfl (by decide) (fun g38 => ?_) (fun g38 => absurd g38 (by decide))
            refine y_ld (x := .ref 170) rfl rfl (fun d => rfl) ?_
            refine y_gR (i := 4) rfl rfl rfl (md170 hM) rfl ?_
            refine y_ld (x := iv (p : Int)) rfl rfl (fun d => rfl) ?_
            refine y_ild (x := (-2)) (q := p) rfl rfl (md173 hM) (by omega) (by decide) (by omega) ((congrFun (hW 173 (by decide)) _).trans hL1) ?_
            refine y_st (lv' := [(10, iv (-2)), (0, .ref 170), (1, iv v1), (3, iv v3), (4, iv v4), (5, iv v5), (6, iv (p : Int)), (7, iv v7), (8, iv ((s.length + 1 + 1 : Nat) : Int)), (9, iv hv)]) rfl rfl (fun d => rfl) ?_
            refine y_ic rfl rfl ?_
            refine y_st (lv' := [(9, iv 1), (10, iv (-2)), (0, .ref 170), (1, iv v1), (3, iv v3), (4, iv v4), (5, iv v5), (6, iv (p : Int)), (7, iv v7), (8, iv ((s.length + 1 + 1 : Nat) : Int))]) rfl rfl (fun d => rfl) ?_
            refine y_ld (x := iv (-2)) rfl rfl (fun d => rfl) ?_
            refine y_ld (x := iv 100000) rfl rfl (fun d => rfl) ?_
            refine y_jlt rfl rfl rfl (by decide) (fun g39 => ?_) (fun g39 => absurd g39 (by decide))
            refine y_ld (x := iv (-2)) rfl rfl (fun d => rfl) ?_
            refine y_ic rfl rfl ?_
            refine y_jne rfl rfl rfl (by decide) (fun g40 => ?_) (fun g40 => absurd g40 (by decide))
            refine y_ld (x := iv (-2)) rfl rfl (fun d => rfl) ?_
            refine y_bi rfl rfl (by decide) ?_
            refine y_jeq rfl rfl rfl (by decide) (fun g41 => absurd g41 (by decide)) (fun g41 => ?_)
            refine y_inc (z := ((s.length + 1 : Nat) : Int)) (lv' := [(8, iv ((s.length + 1 : Nat) : Int)), (9, iv 1), (10, iv (-2)), (0, .ref 170), (1, iv v1), (3, iv v3), (4, iv v4), (5, iv v5), (6, iv (p : Int)), (7, iv v7)]) rfl rfl rfl (by omega) rfl ?_
            refine y_ld (x := .ref 170) rfl rfl (fun d => rfl) ?_
            refine y_gR (i := 16) rfl rfl rfl (md170 hM) rfl ?_
            refine y_ld (x := iv ((s.length + 1 : Nat) : Int)) rfl rfl (fun d => rfl) ?_
            refine y_ic rfl rfl ?_
            refine y_sub (z := (s.length : Int)) rfl rfl (by omega) ?_
            refine y_ld (x := iv (-2)) rfl rfl (fun d => rfl) ?_
            refine y_bi rfl rfl (by decide) ?_
            refine y_jne rfl rfl rfl (by decide) (fun g42 => absurd g42 (by decide)) (fun g42 => ?_)
            refine y_ld (x := .ref 170) rfl rfl (fun d => rfl) ?_
            refine y_gR (i := 16) rfl rfl rfl (md170 hM) rfl ?_
            refine y_ld (x := iv ((s.length + 1 : Nat) : Int)) rfl rfl (fun d => rfl) ?_
            refine y_ic rfl rfl ?_
            refine y_sub (z := (s.length : Int)) rfl rfl (by omega) ?_
            refine y_bld (x := 0) (q := s.length) rfl rfl (md179 hM) (by omega) (by decide) (by omega) hb1 ?_
            refine y_zeq rfl rfl rfl (by decide) (fun g43 => ?_) (fun g43 => absurd g43 (by decide))
            refine y_ic rfl rfl ?_
            refine y_go rfl rfl ?_
            refine y_bst (q := s.length) rfl rfl (md179 hM) (by omega) (by decide) (by omega) (by decide) ?_
            refine y_inc (z := ((p + 1 : Nat) : Int)) (lv' := [(6, iv ((p + 1 : Nat) : Int)), (8, iv ((s.length + 1 : Nat) : Int)), (9, iv 1), (10, iv (-2)), (0, .ref 170), (1, iv v1), (3, iv v3), (4, iv v4), (5, iv v5), (7, iv v7)]) rfl rfl rfl (by omega) rfl ?_
            refine y_go rfl rfl ?_
            refine y_lv (l' := [(0, .ref 170), (1, iv v1), (3, iv v3), (4, iv v4), (5, iv v5), (6, iv ((p + 1 : Nat) : Int)), (7, iv v7), (8, iv ((s.length + 1 : Nat) : Int)), (9, iv 1)]) rfl ⟨rfl, rfl, rfl, rfl, rfl, rfl, rfl, rfl, rfl, trivial⟩ ?_
            exact y_mono (ih (p + 1) (false :: s) r E 1 (v_up W 179 s.length 0) (by omega) (fun k hk => (v_up_ne hk).trans (hW k hk)) hL4 (by omega) hor hd2 (by simp only [List.length_cons]; omega) ⟨(v_up_eq _ _ _ _).trans ((v_b0 (by decide)).symm), TR_up (Nat.le_refl _) hTR.2.2⟩ hst (by omega) ⟨fun _ => hfh, fun _ _ => hfh.symm⟩ hx2) (by omega)
          · have hb2 : W 179 (s.length + 1) = 1 := hTR.1.trans (v_b1 rfl)
            have hb1 : W 179 s.length = 1 := hTR.2.1.trans (v_b1 rfl)
            refine y_ld (x := .ref 170) rfl rfl (fun d => rfl) ?_
            refine y_gR (i := 4) rfl rfl rfl (md170 hM) rfl ?_
            refine y_ld (x := iv (p : Int)) rfl rfl (fun d => rfl) ?_
            refine y_ild (x := (-2)) (q := p) rfl rfl (md173 hM) (by omega) (by decide) (by omega) ((congrFun (hW 173 (by decide)) _).trans hL1) ?_
            refine y_zlt rfl rfl rfl (by decide) (fun g44 => ?_) (fun g44 => absurd g44 (by decide))
            refine y_ld (x := .ref 170) rfl rfl (fun d => rfl) ?_
            refine y_gR (i := 4) rfl rfl rfl (md170 hM) rfl ?_
            refine y_ld (x := iv (p : Int)) rfl rfl (fun d => rfl) ?_
            refine y_ild (x := (-2)) (q := p) rfl rfl (md173 hM) (by omega) (by decide) (by omega) ((congrFun (hW 173 (by decide)) _).trans hL1) ?_
            refine y_st (lv' := [(10, iv (-2)), (0, .ref 170), (1, iv v1), (3, iv v3), (4, iv v4), (5, iv v5), (6, iv (p : Int)), (7, iv v7), (8, iv ((s.length + 1 + 1 : Nat) : Int)), (9, iv hv)]) rfl rfl (fun d => rfl) ?_
            refine y_ic rfl rfl ?_
            refine y_st (lv' := [(9, iv 1), (10, iv (-2)), (0, .ref 170), (1, iv v1), (3, iv v3), (4, iv v4), (5, iv v5), (6, iv (p : Int)), (7, iv v7), (8, iv ((s.length + 1 + 1 : Nat) : Int))]) rfl rfl (fun d => rfl) ?_
            refine y_ld (x := iv (-2)) rfl rfl (fun d => rfl) ?_
            refine y_ld (x := iv 100000) rfl rfl (fun d => rfl) ?_
            refine y_jlt rfl rfl rfl (by decide) (fun g45 => ?_) (fun g45 => absurd g45 (by decide))
            refine y_ld (x := iv (-2)) rfl rfl (fun d => rfl) ?_
            refine y_ic rfl rfl ?_
            refine y_jne rfl rfl rfl (by decide) (fun g46 => ?_) (fun g46 => absurd g46 (by decide))
            refine y_ld (x := iv (-2)) rfl rfl (fun d => rfl) ?_
            refine y_bi rfl rfl (by decide) ?_
            refine y_jeq rfl rfl rfl (by decide) (fun g47 => absurd g47 (by decide)) (fun g47 => ?_)
            refine y_inc (z := ((s.length + 1 : Nat) : Int)) (lv' := [(8, iv ((s.length + 1 : Nat) : Int)), (9, iv 1), (10, iv (-2)), (0, .ref 170), (1, iv v1), (3, iv v3), (4, iv v4), (5, iv v5), (6, iv (p : Int)), (7, iv v7)]) rfl rfl rfl (by omega) rfl ?_
            refine y_ld (x := .ref 170) rfl rfl (fun d => rfl) ?_
            refine y_gR (i := 16) rfl rfl rfl (md170 hM) rfl ?_
            refine y_ld (x := iv ((s.length + 1 : Nat) : Int)) rfl rfl (fun d => rfl) ?_
            refine y_ic rfl rfl ?_
            refine y_sub (z := (s.length : Int)) rfl rfl (by omega) ?_
            refine y_ld (x := iv (-2)) rfl rfl (fun d => rfl) ?_
            refine y_bi rfl rfl (by decide) ?_
            refine y_jne rfl rfl rfl (by decide) (fun g48 => absurd g48 (by decide)) (fun g48 => ?_)
            refine y_ld (x := .ref 170) rfl rfl (fun d => rfl) ?_
            refine y_gR (i := 16) rfl rfl rfl (md170 hM) rfl ?_
            refine y_ld (x := iv ((s.length + 1 : Nat) : Int)) rfl rfl (fun d => rfl) ?_
            refine y_ic rfl rfl ?_
            refine y_sub (z := (s.length : Int)) rfl rfl (by omega) ?_
            refine y_bld (x := 1) (q := s.length) rfl rfl (md179 hM) (by omega) (by decide) (by omega) hb1 ?_
            refine y_zeq rfl rfl rfl (by decide) (fun g49 => absurd g49 (by decide)) (fun g49 => ?_)
            refine y_ld (x := .ref 170) rfl rfl (fun d => rfl) ?_
            refine y_gR (i := 16) rfl rfl rfl (md170 hM) rfl ?_
            refine y_ld (x := iv ((s.length + 1 : Nat) : Int)) rfl rfl (fun d => rfl) ?_
            refine y_bld (x := 1) (q := (s.length + 1)) rfl rfl (md179 hM) (by omega) (by decide) (by omega) hb2 ?_
            refine y_zeq rfl rfl rfl (by decide) (fun g50 => absurd g50 (by decide)) (fun g50 => ?_)
            refine y_ic rfl rfl ?_
            refine y_go rfl rfl ?_
            refine y_bst (q := s.length) rfl rfl (md179 hM) (by omega) (by decide) (by omega) (by decide) ?_
            refine y_inc (z := ((p + 1 : Nat) : Int)) (lv' := [(6, iv ((p + 1 : Nat) : Int)), (8, iv ((s.length + 1 : Nat) : Int)), (9, iv 1), (10, iv (-2)), (0, .ref 170), (1, iv v1), (3, iv v3), (4, iv v4), (5, iv v5), (7, iv v7)]) rfl rfl rfl (by omega) rfl ?_
            refine y_go rfl rfl ?_
            refine y_lv (l' := [(0, .ref 170), (1, iv v1), (3, iv v3), (4, iv v4), (5, iv v5), (6, iv ((p + 1 : Nat) : Int)), (7, iv v7), (8, iv ((s.length + 1 : Nat) : Int)), (9, iv 1)]) rfl ⟨rfl, rfl, rfl, rfl, rfl, rfl, rfl, rfl, rfl, trivial⟩ ?_
            exact y_mono (ih (p + 1) (true :: s) r E 1 (v_up W 179 s.length 1) (by omega) (fun k hk => (v_up_ne hk).trans (hW k hk)) hL4 (by omega) hor hd2 (by simp only [List.length_cons]; omega) ⟨(v_up_eq _ _ _ _).trans ((v_b1 rfl).symm), TR_up (Nat.le_refl _) hTR.2.2⟩ hst (by omega) ⟨fun _ => hfh, fun _ _ => hfh.symm⟩ hx2) (by omega)
        · rw [encT_o (by decide), List.cons_append] at hL hn hm1
          simp only [List.length_cons] at hn hm1
          rw [encT_o (by decide)] at hpf
          simp only [List.length_cons] at hpf
          obtain ⟨hL1, hL4⟩ := hL
          replace hL1 : V 173 p = -3 := hL1.trans (by decide)
          obtain ⟨-, hd1, hd2⟩ := dpt_jj (by decide) hd
          rcases s with _ | ⟨b2, _ | ⟨b1, s⟩⟩
          · exact absurd hd1 (by decide)
          · exact absurd hd1 (by simp)
          simp only [List.length_cons] at hs
          simp only [List.length_cons, Nat.add_sub_cancel] at hd2
          rw [eK_o] at hst
          refine y_lv (l' := [(0, .ref 170), (1, iv v1), (3, iv v3), (4, iv v4), (5, iv v5), (6, iv (p : Int)), (7, iv v7), (8, iv ((s.length + 1 + 1 : Nat) : Int)), (9, iv hv)]) rfl ⟨rfl, rfl, rfl, rfl, rfl, rfl, rfl, rfl, rfl, trivial⟩ ?_
          cases b2 <;> cases b1
          · have hb2 : W 179 (s.length + 1) = 0 := hTR.1.trans (v_b0 (by decide))
            have hb1 : W 179 s.length = 0 := hTR.2.1.trans (v_b0 (by decide))
            refine y_ld (x := .ref 170) rfl rfl (fun d => rfl) ?_
            refine y_gR (i := 4) rfl rfl rfl (md170 hM) rfl ?_
            refine y_ld (x := iv (p : Int)) rfl rfl (fun d => rfl) ?_
            refine y_ild (x := (-3)) (q := p) rfl rfl (md173 hM) (by omega) (by decide) (by omega) ((congrFun (hW 173 (by decide)) _).trans hL1) ?_
            refine y_zlt rfl rfl rfl (by decide) (fun g51 => ?_) (fun g51 => absurd g51 (by decide))
            refine y_ld (x := .ref 170) rfl rfl (fun d => rfl) ?_
            refine y_gR (i := 4) rfl rfl rfl (md170 hM) rfl ?_
            refine y_ld (x := iv (p : Int)) rfl rfl (fun d => rfl) ?_
            refine y_ild (x := (-3)) (q := p) rfl rfl (md173 hM) (by omega) (by decide) (by omega) ((congrFun (hW 173 (by decide)) _).trans hL1) ?_
            refine y_st (lv' := [(10, iv (-3)), (0, .ref 170), (1, iv v1), (3, iv v3), (4, iv v4), (5, iv v5), (6, iv (p : Int)), (7, iv v7), (8, iv ((s.length + 1 + 1 : Nat) : Int)), (9, iv hv)]) rfl rfl (fun d => rfl) ?_
            refine y_ic rfl rfl ?_
            refine y_st (lv' := [(9, iv 1), (10, iv (-3)), (0, .ref 170), (1, iv v1), (3, iv v3), (4, iv v4), (5, iv v5), (6, iv (p : Int)), (7, iv v7), (8, iv ((s.length + 1 + 1 : Nat) : Int))]) rfl rfl (fun d => rfl) ?_
            refine y_ld (x := iv (-3)) rfl rfl (fun d => rfl) ?_
            refine y_ld (x := iv 100000) rfl rfl (fun d => rfl) ?_
            refine y_jlt rfl rfl rfl (by decide) (fun g52 => ?_) (fun g52 => absurd g52 (by decide))
            refine y_ld (x := iv (-3)) rfl rfl (fun d => rfl) ?_
            refine y_ic rfl rfl ?_
            refine y_jne rfl rfl rfl (by decide) (fun g53 => ?_) (fun g53 => absurd g53 (by decide))
            refine y_ld (x := iv (-3)) rfl rfl (fun d => rfl) ?_
            refine y_bi rfl rfl (by decide) ?_
            refine y_jeq rfl rfl rfl (by decide) (fun g54 => absurd g54 (by decide)) (fun g54 => ?_)
            refine y_inc (z := ((s.length + 1 : Nat) : Int)) (lv' := [(8, iv ((s.length + 1 : Nat) : Int)), (9, iv 1), (10, iv (-3)), (0, .ref 170), (1, iv v1), (3, iv v3), (4, iv v4), (5, iv v5), (6, iv (p : Int)), (7, iv v7)]) rfl rfl rfl (by omega) rfl ?_
            refine y_ld (x := .ref 170) rfl rfl (fun d => rfl) ?_
            refine y_gR (i := 16) rfl rfl rfl (md170 hM) rfl ?_
            refine y_ld (x := iv ((s.length + 1 : Nat) : Int)) rfl rfl (fun d => rfl) ?_
            refine y_ic rfl rfl ?_
            refine y_sub (z := (s.length : Int)) rfl rfl (by omega) ?_
            refine y_ld (x := iv (-3)) rfl rfl (fun d => rfl) ?_
            refine y_bi rfl rfl (by decide) ?_
            refine y_jne rfl rfl rfl (by decide) (fun g55 => ?_) (fun g55 => absurd g55 (by decide))
            refine y_ld (x := .ref 170) rfl rfl (fun d => rfl) ?_
            refine y_gR (i := 16) rfl rfl rfl (md170 hM) rfl ?_
            refine y_ld (x := iv ((s.length + 1 : Nat) : Int)) rfl rfl (fun d => rfl) ?_
            refine y_ic rfl rfl ?_
            refine y_sub (z := (s.length : Int)) rfl rfl (by omega) ?_
            refine y_bld (x := 0) (q := s.length) rfl rfl (md179 hM) (by omega) (by decide) (by omega) hb1 ?_
            refine y_zne rfl rfl rfl (by decide) (fun g56 => absurd g56 (by decide)) (fun g56 => ?_)
            refine y_ld (x := .ref 170) rfl rfl (fun d => rfl) ?_
            refine y_gR (i := 16) rfl rfl rfl (md170 hM) rfl ?_
            refine y_ld (x := iv ((s.length + 1 : Nat) : Int)) rfl rfl (fun d => rfl) ?_
            refine y_bld (x := 0) (q := (s.length + 1)) rfl rfl (md179 hM) (by omega) (by decide) (by omega) hb2 ?_
            refine y_zeq rfl rfl rfl (by decide) (fun g57 => ?_) (fun g57 => absurd g57 (by decide))
            refine y_ic rfl rfl ?_
            refine y_bst (q := s.length) rfl rfl (md179 hM) (by omega) (by decide) (by omega) (by decide) ?_
            refine y_inc (z := ((p + 1 : Nat) : Int)) (lv' := [(6, iv ((p + 1 : Nat) : Int)), (8, iv ((s.length + 1 : Nat) : Int)), (9, iv 1), (10, iv (-3)), (0, .ref 170), (1, iv v1), (3, iv v3), (4, iv v4), (5, iv v5), (7, iv v7)]) rfl rfl rfl (by omega) rfl ?_
            refine y_go rfl rfl ?_
            refine y_lv (l' := [(0, .ref 170), (1, iv v1), (3, iv v3), (4, iv v4), (5, iv v5), (6, iv ((p + 1 : Nat) : Int)), (7, iv v7), (8, iv ((s.length + 1 : Nat) : Int)), (9, iv 1)]) rfl ⟨rfl, rfl, rfl, rfl, rfl, rfl, rfl, rfl, rfl, trivial⟩ ?_
            exact y_mono (ih (p + 1) (false :: s) r E 1 (v_up W 179 s.length 0) (by omega) (fun k hk => (v_up_ne hk).trans (hW k hk)) hL4 (by omega) hor hd2 (by simp only [List.length_cons]; omega) ⟨(v_up_eq _ _ _ _).trans ((v_b0 (by decide)).symm), TR_up (Nat.le_refl _) hTR.2.2⟩ hst (by omega) ⟨fun _ => hfh, fun _ _ => hfh.symm⟩ hx2) (by omega)
          · have hb2 : W 179 (s.length + 1) = 0 := hTR.1.trans (v_b0 (by decide))
            have hb1 : W 179 s.length = 1 := hTR.2.1.trans (v_b1 rfl)
            refine y_ld (x := .ref 170) rfl rfl (fun d => rfl) ?_
            refine y_gR (i := 4) rfl rfl rfl (md170 hM) rfl ?_
            refine y_ld (x := iv (p : Int)) rfl rfl (fun d => rfl) ?_
            refine y_ild (x := (-3)) (q := p) rfl rfl (md173 hM) (by omega) (by decide) (by omega) ((congrFun (hW 173 (by decide)) _).trans hL1) ?_
            refine y_zlt rfl rfl rfl (by decide) (fun g58 => ?_) (fun g58 => absurd g58 (by decide))
            refine y_ld (x := .ref 170) rfl rfl (fun d => rfl) ?_
            refine y_gR (i := 4) rfl rfl rfl (md170 hM) rfl ?_
            refine y_ld (x := iv (p : Int)) rfl rfl (fun d => rfl) ?_
            refine y_ild (x := (-3)) (q := p) rfl rfl (md173 hM) (by omega) (by decide) (by omega) ((congrFun (hW 173 (by decide)) _).trans hL1) ?_
            refine y_st (lv' := [(10, iv (-3)), (0, .ref 170), (1, iv v1), (3, iv v3), (4, iv v4), (5, iv v5), (6, iv (p : Int)), (7, iv v7), (8, iv ((s.length + 1 + 1 : Nat) : Int)), (9, iv hv)]) rfl rfl (fun d => rfl) ?_
            refine y_ic rfl rfl ?_
            refine y_st (lv' := [(9, iv 1), (10, iv (-3)), (0, .ref 170), (1, iv v1), (3, iv v3), (4, iv v4), (5, iv v5), (6, iv (p : Int)), (7, iv v7), (8, iv ((s.length + 1 + 1 : Nat) : Int))]) rfl rfl (fun d => rfl) ?_
            refine y_ld (x := iv (-3)) rfl rfl (fun d => rfl) ?_
            refine y_ld (x := iv 100000) rfl rfl (fun d => rfl) ?_
            refine y_jlt rfl rfl rfl (by decide) (fun g59 => ?_) (fun g59 => absurd g59 (by decide))
            refine y_ld (x := iv (-3)) rfl rfl (fun d => rfl) ?_
            refine y_ic rfl rfl ?_
            refine y_jne rfl rfl rfl (by decide) (fun g60 => ?_) (fun g60 => absurd g60 (by decide))
            refine y_ld (x := iv (-3)) rfl rfl (fun d => rfl) ?_
            refine y_bi rfl rfl (by decide) ?_
            refine y_jeq rfl rfl rfl (by decide) (fun g61 => absurd g61 (by decide)) (fun g61 => ?_)
            refine y_inc (z := ((s.length + 1 : Nat) : Int)) (lv' := [(8, iv ((s.length + 1 : Nat) : Int)), (9, iv 1), (10, iv (-3)), (0, .ref 170), (1, iv v1), (3, iv v3), (4, iv v4), (5, iv v5), (6, iv (p : Int)), (7, iv v7)]) rfl rfl rfl (by omega) rfl ?_
            refine y_ld (x := .ref 170) rfl rfl (fun d => rfl) ?_
            refine y_gR (i := 16) rfl rfl rfl (md170 hM) rfl ?_
            refine y_ld (x := iv ((s.length + 1 : Nat) : Int)) rfl rfl (fun d => rfl) ?_
            refine y_ic rfl rfl ?_
            refine y_sub (z := (s.length : Int)) rfl rfl (by omega) ?_
            refine y_ld (x := iv (-3)) rfl rfl (fun d => rfl) ?_
            refine y_bi rfl rfl (by decide) ?_
            refine y_jne rfl rfl rfl (by decide) (fun g62 => ?_) (fun g62 => absurd g62 (by decide))
            refine y_ld (x := .ref 170) rfl rfl (fun d => rfl) ?_
            refine y_gR (i := 16) rfl rfl rfl (md170 hM) rfl ?_
            refine y_ld (x := iv ((s.length + 1 : Nat) : Int)) rfl rfl (fun d => rfl) ?_
            refine y_ic rfl rfl ?_
            refine y_sub (z := (s.length : Int)) rfl rfl (by omega) ?_
            refine y_bld (x := 1) (q := s.length) rfl rfl (md179 hM) (by omega) (by decide) (by omega) hb1 ?_
            refine y_zne rfl rfl rfl (by decide) (fun g63 => ?_) (fun g63 => absurd g63 (by decide))
            refine y_ic rfl rfl ?_
            refine y_go rfl rfl ?_
            refine y_bst (q := s.length) rfl rfl (md179 hM) (by omega) (by decide) (by omega) (by decide) ?_
            refine y_inc (z := ((p + 1 : Nat) : Int)) (lv' := [(6, iv ((p + 1 : Nat) : Int)), (8, iv ((s.length + 1 : Nat) : Int)), (9, iv 1), (10, iv (-3)), (0, .ref 170), (1, iv v1), (3, iv v3), (4, iv v4), (5, iv v5), (7, iv v7)]) rfl rfl rfl (by omega) rfl ?_
            refine y_go rfl rfl ?_
            refine y_lv (l' := [(0, .ref 170), (1, iv v1), (3, iv v3), (4, iv v4), (5, iv v5), (6, iv ((p + 1 : Nat) : Int)), (7, iv v7), (8, iv ((s.length + 1 : Nat) : Int)), (9, iv 1)]) rfl ⟨rfl, rfl, rfl, rfl, rfl, rfl, rfl, rfl, rfl, trivial⟩ ?_
            exact y_mono (ih (p + 1) (true :: s) r E 1 (v_up W 179 s.length 1) (by omega) (fun k hk => (v_up_ne hk).trans (hW k hk)) hL4 (by omega) hor hd2 (by simp only [List.length_cons]; omega) ⟨(v_up_eq _ _ _ _).trans ((v_b1 rfl).symm), TR_up (Nat.le_refl _) hTR.2.2⟩ hst (by omega) ⟨fun _ => hfh, fun _ _ => hfh.symm⟩ hx2) (by omega)
          · have hb2 : W 179 (s.length + 1) = 1 := hTR.1.trans (v_b1 rfl)
            have hb1 : W 179 s.length = 0 := hTR.2.1.trans (v_b0 (by decide))
            refine y_ld (x := .ref 170) rfl rfl (fun d => rfl) ?_
            refine y_gR (i := 4) rfl rfl rfl (md170 hM) rfl ?_
            refine y_ld (x := iv (p : Int)) rfl rfl (fun d => rfl) ?_
            refine y_ild (x := (-3)) (q := p) rfl rfl (md173 hM) (by omega) (by decide) (by omega) ((congrFun (hW 173 (by decide)) _).trans hL1) ?_
            refine y_zlt rfl rfl rfl (by decide) (fun g64 => ?_) (fun g64 => absurd g64 (by decide))
            refine y_ld (x := .ref 170) rfl rfl (fun d => rfl) ?_
            refine y_gR (i := 4) rfl rfl rfl (md170 hM) rfl ?_
            refine y_ld (x := iv (p : Int)) rfl rfl (fun d => rfl) ?_
            refine y_ild (x := (-3)) (q := p) rfl rfl (md173 hM) (by omega) (by decide) (by omega) ((congrFun (hW 173 (by decide)) _).trans hL1) ?_
            refine y_st (lv' := [(10, iv (-3)), (0, .ref 170), (1, iv v1), (3, iv v3), (4, iv v4), (5, iv v5), (6, iv (p : Int)), (7, iv v7), (8, iv ((s.length + 1 + 1 : Nat) : Int)), (9, iv hv)]) rfl rfl (fun d => rfl) ?_
            refine y_ic rfl rfl ?_
            refine y_st (lv' := [(9, iv 1), (10, iv (-3)), (0, .ref 170), (1, iv v1), (3, iv v3), (4, iv v4), (5, iv v5), (6, iv (p : Int)), (7, iv v7), (8, iv ((s.length + 1 + 1 : Nat) : Int))]) rfl rfl (fun d => rfl) ?_
            refine y_ld (x := iv (-3)) rfl rfl (fun d => rfl) ?_
            refine y_ld (x := iv 100000) rfl rfl (fun d => rfl) ?_
            refine y_jlt rfl rfl rfl (by decide) (fun g65 => ?_) (fun g65 => absurd g65 (by decide))
            refine y_ld (x := iv (-3)) rfl rfl (fun d => rfl) ?_
            refine y_ic rfl rfl ?_
            refine y_jne rfl rfl rfl (by decide) (fun g66 => ?_) (fun g66 => absurd g66 (by decide))
            refine y_ld (x := iv (-3)) rfl rfl (fun d => rfl) ?_
            refine y_bi rfl rfl (by decide) ?_
            refine y_jeq rfl rfl rfl (by decide) (fun g67 => absurd g67 (by decide)) (fun g67 => ?_)
            refine y_inc (z := ((s.length + 1 : Nat) : Int)) (lv' := [(8, iv ((s.length + 1 : Nat) : Int)), (9, iv 1), (10, iv (-3)), (0, .ref 170), (1, iv v1), (3, iv v3), (4, iv v4), (5, iv v5), (6, iv (p : Int)), (7, iv v7)]) rfl rfl rfl (by omega) rfl ?_
            refine y_ld (x := .ref 170) rfl rfl (fun d => rfl) ?_
            refine y_gR (i := 16) rfl rfl rfl (md170 hM) rfl ?_
            refine y_ld (x := iv ((s.length + 1 : Nat) : Int)) rfl rfl (fun d => rfl) ?_
            refine y_ic rfl rfl ?_
            refine y_sub (z := (s.length : Int)) rfl rfl (by omega) ?_
            refine y_ld (x := iv (-3)) rfl rfl (fun d => rfl) ?_
            refine y_bi rfl rfl (by decide) ?_
            refine y_jne rfl rfl rfl (by decide) (fun g68 => ?_) (fun g68 => absurd g68 (by decide))
            refine y_ld (x := .ref 170) rfl rfl (fun d => rfl) ?_
            refine y_gR (i := 16) rfl rfl rfl (md170 hM) rfl ?_
            refine y_ld (x := iv ((s.length + 1 : Nat) : Int)) rfl rfl (fun d => rfl) ?_
            refine y_ic rfl rfl ?_
            refine y_sub (z := (s.length : Int)) rfl rfl (by omega) ?_
            refine y_bld (x := 0) (q := s.length) rfl rfl (md179 hM) (by omega) (by decide) (by omega) hb1 ?_
            refine y_zne rfl rfl rfl (by decide) (fun g69 => absurd g69 (by decide)) (fun g69 => ?_)
            refine y_ld (x := .ref 170) rfl rfl (fun d => rfl) ?_
            refine y_gR (i := 16) rfl rfl rfl (md170 hM) rfl ?_
            refine y_ld (x := iv ((s.length + 1 : Nat) : Int)) rfl rfl (fun d => rfl) ?_
            refine y_bld (x := 1) (q := (s.length + 1)) rfl rfl (md179 hM) (by omega) (by decide) (by omega) hb2 ?_
            refine y_zeq rfl rfl rfl (by decide) (fun g70 => absurd g70 (by decide)) (fun g70 => ?_)
            refine y_ic rfl rfl ?_
            refine y_go rfl rfl ?_
            refine y_bst (q := s.length) rfl rfl (md179 hM) (by omega) (by decide) (by omega) (by decide) ?_
            refine y_inc (z := ((p + 1 : Nat) : Int)) (lv' := [(6, iv ((p + 1 : Nat) : Int)), (8, iv ((s.length + 1 : Nat) : Int)), (9, iv 1), (10, iv (-3)), (0, .ref 170), (1, iv v1), (3, iv v3), (4, iv v4), (5, iv v5), (7, iv v7)]) rfl rfl rfl (by omega) rfl ?_
            refine y_go rfl rfl ?_
            refine y_lv (l' := [(0, .ref 170), (1, iv v1), (3, iv v3), (4, iv v4), (5, iv v5), (6, iv ((p + 1 : Nat) : Int)), (7, iv v7), (8, iv ((s.length + 1 : Nat) : Int)), (9, iv 1)]) rfl ⟨rfl, rfl, rfl, rfl, rfl, rfl, rfl, rfl, rfl, trivial⟩ ?_
            exact y_mono (ih (p + 1) (true :: s) r E 1 (v_up W 179 s.length 1) (by omega) (fun k hk => (v_up_ne hk).trans (hW k hk)) hL4 (by omega) hor hd2 (by simp only [List.length_cons]; omega) ⟨(v_up_eq _ _ _ _).trans ((v_b1 rfl).symm), TR_up (Nat.le_refl _) hTR.2.2⟩ hst (by omega) ⟨fun _ => hfh, fun _ _ => hfh.symm⟩ hx2) (by omega)
          · have hb2 : W 179 (s.length + 1) = 1 := hTR.1.trans (v_b1 rfl)
            have hb1 : W 179 s.length = 1 := hTR.2.1.trans (v_b1 rfl)
            refine y_ld (x := .ref 170) rfl rfl (fun d => rfl) ?_
            refine y_gR (i := 4) rfl rfl rfl (md170 hM) rfl ?_
            refine y_ld (x := iv (p : Int)) rfl rfl (fun d => rfl) ?_
            refine y_ild (x := (-3)) (q := p) rfl rfl (md173 hM) (by omega) (by decide) (by omega) ((congrFun (hW 173 (by decide)) _).trans hL1) ?_
            refine y_zlt rfl rfl rfl (by decide) (fun g71 => ?_) (fun g71 => absurd g71 (by decide))
            refine y_ld (x := .ref 170) rfl rfl (fun d => rfl) ?_
            refine y_gR (i := 4) rfl rfl rfl (md170 hM) rfl ?_
            refine y_ld (x := iv (p : Int)) rfl rfl (fun d => rfl) ?_
            refine y_ild (x := (-3)) (q := p) rfl rfl (md173 hM) (by omega) (by decide) (by omega) ((congrFun (hW 173 (by decide)) _).trans hL1) ?_
            refine y_st (lv' := [(10, iv (-3)), (0, .ref 170), (1, iv v1), (3, iv v3), (4, iv v4), (5, iv v5), (6, iv (p : Int)), (7, iv v7), (8, iv ((s.length + 1 + 1 : Nat) : Int)), (9, iv hv)]) rfl rfl (fun d => rfl) ?_
            refine y_ic rfl rfl ?_
            refine y_st (lv' := [(9, iv 1), (10, iv (-3)), (0, .ref 170), (1, iv v1), (3, iv v3), (4, iv v4), (5, iv v5), (6, iv (p : Int)), (7, iv v7), (8, iv ((s.length + 1 + 1 : Nat) : Int))]) rfl rfl (fun d => rfl) ?_
            refine y_ld (x := iv (-3)) rfl rfl (fun d => rfl) ?_
            refine y_ld (x := iv 100000) rfl rfl (fun d => rfl) ?_
            refine y_jlt rfl rfl rfl (by decide) (fun g72 => ?_) (fun g72 => absurd g72 (by decide))
            refine y_ld (x := iv (-3)) rfl rfl (fun d => rfl) ?_
            refine y_ic rfl rfl ?_
            refine y_jne rfl rfl rfl (by decide) (fun g73 => ?_) (fun g73 => absurd g73 (by decide))
            refine y_ld (x := iv (-3)) rfl rfl (fun d => rfl) ?_
            refine y_bi rfl rfl (by decide) ?_
            refine y_jeq rfl rfl rfl (by decide) (fun g74 => absurd g74 (by decide)) (fun g74 => ?_)
            refine y_inc (z := ((s.length + 1 : Nat) : Int)) (lv' := [(8, iv ((s.length + 1 : Nat) : Int)), (9, iv 1), (10, iv (-3)), (0, .ref 170), (1, iv v1), (3, iv v3), (4, iv v4), (5, iv v5), (6, iv (p : Int)), (7, iv v7)]) rfl rfl rfl (by omega) rfl ?_
            refine y_ld (x := .ref 170) rfl rfl (fun d => rfl) ?_
            refine y_gR (i := 16) rfl rfl rfl (md170 hM) rfl ?_
            refine y_ld (x := iv ((s.length + 1 : Nat) : Int)) rfl rfl (fun d => rfl) ?_
            refine y_ic rfl rfl ?_
            refine y_sub (z := (s.length : Int)) rfl rfl (by omega) ?_
            refine y_ld (x := iv (-3)) rfl rfl (fun d => rfl) ?_
            refine y_bi rfl rfl (by decide) ?_
            refine y_jne rfl rfl rfl (by decide) (fun g75 => ?_) (fun g75 => absurd g75 (by decide))
            refine y_ld (x := .ref 170) rfl rfl (fun d => rfl) ?_
            refine y_gR (i := 16) rfl rfl rfl (md170 hM) rfl ?_
            refine y_ld (x := iv ((s.length + 1 : Nat) : Int)) rfl rfl (fun d => rfl) ?_
            refine y_ic rfl rfl ?_
            refine y_sub (z := (s.length : Int)) rfl rfl (by omega) ?_
            refine y_bld (x := 1) (q := s.length) rfl rfl (md179 hM) (by omega) (by decide) (by omega) hb1 ?_
            refine y_zne rfl rfl rfl (by decide) (fun g76 => ?_) (fun g76 => absurd g76 (by decide))
            refine y_ic rfl rfl ?_
            refine y_go rfl rfl ?_
            refine y_bst (q := s.length) rfl rfl (md179 hM) (by omega) (by decide) (by omega) (by decide) ?_
            refine y_inc (z := ((p + 1 : Nat) : Int)) (lv' := [(6, iv ((p + 1 : Nat) : Int)), (8, iv ((s.length + 1 : Nat) : Int)), (9, iv 1), (10, iv (-3)), (0, .ref 170), (1, iv v1), (3, iv v3), (4, iv v4), (5, iv v5), (7, iv v7)]) rfl rfl rfl (by omega) rfl ?_
            refine y_go rfl rfl ?_
            refine y_lv (l' := [(0, .ref 170), (1, iv v1), (3, iv v3), (4, iv v4), (5, iv v5), (6, iv ((p + 1 : Nat) : Int)), (7, iv v7), (8, iv ((s.length + 1 : Nat) : Int)), (9, iv 1)]) rfl ⟨rfl, rfl, rfl, rfl, rfl, rfl, rfl, rfl, rfl, trivial⟩ ?_
            exact y_mono (ih (p + 1) (true :: s) r E 1 (v_up W 179 s.length 1) (by omega) (fun k hk => (v_up_ne hk).trans (hW k hk)) hL4 (by omega) hor hd2 (by simp only [List.length_cons]; omega) ⟨(v_up_eq _ _ _ _).trans ((v_b1 rfl).symm), TR_up (Nat.le_refl _) hTR.2.2⟩ hst (by omega) ⟨fun _ => hfh, fun _ _ => hfh.symm⟩ hx2) (by omega)
end
