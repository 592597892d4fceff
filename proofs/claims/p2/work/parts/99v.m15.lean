/-! ACTS: the reference -/
/-- as eA, without what BROKEN makes 0 -/
def eAr (t h k n : Int) : List p_Ac → (Nat → Int) → Int × (Nat → Int)
  | [], μ => (1, μ)
  | (c, l) :: r, μ => if c = 126 then (1, μ) else if c = 127 then (0, μ) else if c = 128 then (2, μ)
    else eAr t h k n r (v_uf μ (z_pl (c - 104) t h).toNat (wr (eS μ t h k n 0 l)))
theorem eA_raw (t h k n : Int) : ∀ (l : List p_Ac) (μ : Nat → Int), (eA t h k n l μ).1 = (eAr t h k n l μ).1 ∧ (eA t h k n l μ).2 = if (eAr t h k n l μ).1 = 2 then z_fl (eAr t h k n l μ).2 (4 * t.toNat) 4 0 else (eAr t h k n l μ).2
  | [], μ => ⟨rfl, (if_neg (by decide : ¬ (1 : Int) = 2)).symm⟩
  | (c, l) :: r, μ => by
    unfold eA eAr
    by_cases h1 : c = 126
    · rw [if_pos h1, if_pos h1]
      exact ⟨rfl, (if_neg (by decide : ¬ (1 : Int) = 2)).symm⟩
    rw [if_neg h1, if_neg h1]
    by_cases h2 : c = 127
    · rw [if_pos h2, if_pos h2]
      exact ⟨rfl, (if_neg (by decide : ¬ (0 : Int) = 2)).symm⟩
    rw [if_neg h2, if_neg h2]
    by_cases h3 : c = 128
    · rw [if_pos h3, if_pos h3]
      exact ⟨rfl, (if_pos rfl).symm⟩
    rw [if_neg h3, if_neg h3]
    exact eA_raw t h k n r _
theorem eAr_rg (t h k n : Int) (l : List p_Ac) (μ : Nat → Int) : 0 ≤ (eAr t h k n l μ).1 ∧ (eAr t h k n l μ).1 ≤ 2 := by
  induction l generalizing μ with
  | nil => exact ⟨by show (0 : Int) ≤ 1; decide, by show (1 : Int) ≤ 2; decide⟩
  | cons x r ih =>
    obtain ⟨c, l⟩ := x
    unfold eAr
    split
    · exact ⟨by show (0 : Int) ≤ 1; decide, by show (1 : Int) ≤ 2; decide⟩
    split
    · exact ⟨by show (0 : Int) ≤ 0; decide, by show (0 : Int) ≤ 2; decide⟩
    split
    · exact ⟨by show (0 : Int) ≤ 2; decide, by show (2 : Int) ≤ 2; decide⟩
    · exact ih _
theorem eAr_mu {t h k n : Int} : ∀ (l : List p_Ac) (μ : Nat → Int), muO μ → muO (eAr t h k n l μ).2
  | [], μ, hm => hm
  | (c, l) :: r, μ, hm => by
    unfold eAr
    split
    · exact hm
    split
    · exact hm
    split
    · exact hm
    · refine eAr_mu r _ (fun p hp => ?_)
      unfold v_uf
      split
      · exact wr_rg _
      · exact hm p hp
/-- a CELL that waits for its SUM -/
def pce : Option Int → Int
  | none => -1
  | some c => mcd c
def pnd (t h k n : Int) (μ : Nat → Int) : Option Int → Int → List Int → Nat → Int
  | none, _, _ => μ
  | some c, s, T => v_uf μ (z_pl (c - 104) t h).toNat (wr (eS μ t h k n s T))
theorem zi_ufm {f : Nat → Int} {B q : Nat} {v : Int} (hq : q < 84) : zi f B (v_uf (zm f B) q v) = v_uf f (B + q) v := by
  rw [← zm_uf, ← zi_uf hq, zi_zm]
section ENC
variable {t h k n c : Int} {l : List Int} {r : List p_Ac} {μ : Nat → Int}
theorem encA_e (hc : 126 ≤ c) : encA ((c, l) :: r) = (5000 + (if c = 126 then 1 else if c = 127 then 0 else 2)) :: encA r := by
  show (if 126 ≤ c then _ else _) ++ encA r = _
  rw [if_pos hc]
  rfl
theorem encA_c (hc : ¬ 126 ≤ c) : encA ((c, l) :: r) = (2000 + mcd c) :: (l.map encM1 ++ encA r) := by
  show (if 126 ≤ c then _ else _) ++ encA r = _
  rw [if_neg hc]
  rfl
theorem eAr_p : eAr t h k n ((126, l) :: r) μ = (1, μ) := rfl
theorem eAr_d : eAr t h k n ((127, l) :: r) μ = (0, μ) := rfl
theorem eAr_b : eAr t h k n ((128, l) :: r) μ = (2, μ) := rfl
theorem eAr_c (hc : c < 126) : eAr t h k n ((c, l) :: r) μ = eAr t h k n r (v_uf μ (z_pl (c - 104) t h).toNat (wr (eS μ t h k n 0 l))) := by
  show (if c = 126 then _ else if c = 127 then _ else if c = 128 then _ else _) = _
  rw [if_neg (by omega), if_neg (by omega), if_neg (by omega)]
end ENC
section
variable {X : Nat → List Int32} {u w : Nat} {S : m_H} {V : v_V} {K : v_K}
set_option maxRecDepth 100000 in
set_option maxHeartbeats 4000000 in
theorem lp_mActs (hM : MdS S) {A B : Nat} {a h κ n : Int} (hpk : pkO a h κ n) (hA : A = 171 ∨ A = 178) {f e : Int} {F : Nat} : ∀ (m : Nat) (p : Nat) (P : Option Int) (s : Int) (T : List Int) (R : List p_Ac) (W : v_V), (T.map encM1 ++ encA R).length < m → (EvM W A B) → (PkM W a h κ n) → (muO (zm (W A) B)) → (SG W 173 p (T.map encM1 ++ encA R)) → ((p : Int) + (T.map encM1 ++ encA R).length = e ∧ e ≤ 1600) → (smO T) → (acO R) → (P = none → T = []) → (∀ c, P = some c → 104 ≤ c ∧ c ≤ 115) → (K u w (some (iv (eAr a h κ n R (pnd a h κ n (zm (W A) B) P s T)).1)) S (v_ur W A (zi (W A) B (eAr a h κ n R (pnd a h κ n (zm (W A) B) P s T)).2))) → y_E X 4 131 (60 * m + F) u w 8 [(0, .ref 170), (1, iv f), (2, iv e), (3, iv (pce P)), (4, iv s), (5, iv (p : Int))] [] S W K := by
  intro m
  induction m with
  | zero => intros; omega
  | succ m ih =>
    intro p P s T R W hm1 hE hP hμr hL hn hT ho hPc hPd hx2
    refine y_mono (F' := (60 * m + F) + 60) ?_ (by omega)
    refine y_ld (x := iv (p : Int)) rfl rfl (fun d => rfl) ?_
    refine y_ld (x := iv e) rfl rfl (fun d => rfl) ?_
    refine y_jge rfl rfl rfl (by omega) (fun g1 => ?_) (fun g1 => ?_)
    · obtain ⟨rfl, rfl⟩ : T = [] ∧ R = [] := by
        rcases T with _ | ⟨t, T⟩
        · rcases R with _ | ⟨⟨c1, y⟩, R⟩
          · exact ⟨rfl, rfl⟩
          · exfalso
            rw [List.map_nil, List.nil_append] at hn
            by_cases hc : 126 ≤ c1
            · rw [encA_e hc] at hn; simp only [List.length_cons] at hn; omega
            · rw [encA_c hc] at hn; simp only [List.length_cons] at hn; omega
        · exfalso
          rw [List.map_cons, List.cons_append] at hn; simp only [List.length_cons] at hn; omega
      rcases P with _ | c0
      · refine y_lv (l' := [(0, .ref 170), (1, iv f), (2, iv e), (3, iv (-1)), (4, iv s), (5, iv (p : Int))]) rfl ⟨rfl, rfl, rfl, rfl, rfl, rfl, trivial⟩ ?_
        refine y_ld (x := iv (-1)) rfl rfl (fun d => rfl) ?_
        refine y_ic rfl rfl ?_
        refine y_jeq rfl rfl rfl (by decide) (fun g2 => ?_) (fun g2 => absurd g2 (by decide))
        refine y_ic rfl rfl ?_
        refine y_rI rfl (Or.inl rfl) ?_
        rw [show ∀ μ, eAr a h κ n [] μ = (1, μ) from fun _ => rfl] at hx2
        rw [show pnd a h κ n (zm (W A) B) none s [] = zm (W A) B from rfl, zi_zm, v_ur_self] at hx2
        exact hx2
      · refine y_lv (l' := [(0, .ref 170), (1, iv f), (2, iv e), (3, iv (mcd c0)), (4, iv s), (5, iv (p : Int))]) rfl ⟨rfl, rfl, rfl, rfl, rfl, rfl, trivial⟩ ?_
        have hx4 := hPd c0 rfl
        have hm0 := mcd_cell hx4
        have hz0 := tcd_pl (Or.inr hx4) hpk (by omega)
        refine y_ld (x := iv (mcd c0)) rfl rfl (fun d => rfl) ?_
        refine y_ic rfl rfl ?_
        refine y_jeq rfl rfl rfl (by omega) (fun g3 => absurd g3 (by omega)) (fun g3 => ?_)
        refine y_ld (x := .ref 170) rfl rfl (fun d => rfl) ?_
        refine y_ld (x := iv (mcd c0)) rfl rfl (fun d => rfl) ?_
        refine y_ld (x := iv s) rfl rfl (fun d => rfl) ?_
        refine y_top (wr_iv s) ?_
        refine y_cV (as := [.ref 170, iv (mcd c0), iv (wr s)]) rfl rfl rfl rfl rfl (md170 hM) ⟨rfl, (Nat.le_of_ble_eq_true rfl), (Nat.le_of_ble_eq_true rfl)⟩ (by decide) (ct_becomes (x := c0) hM hE hP hpk hx4 ?_)
        refine y_n0 ?_
        refine y_ic rfl rfl ?_
        refine y_rI rfl (Or.inl rfl) ?_
        rw [show ∀ μ, eAr a h κ n [] μ = (1, μ) from fun _ => rfl] at hx2
        rw [show pnd a h κ n (zm (W A) B) (some c0) s [] = v_uf (zm (W A) B) (z_pl (c0 - 104) a h).toNat (wr s) from rfl, zi_ufm (by omega)] at hx2
        exact hx2
    · rcases P with _ | c0
      · obtain rfl := hPc rfl
        refine y_lv (l' := [(0, .ref 170), (1, iv f), (2, iv e), (3, iv (-1)), (4, iv s), (5, iv (p : Int))]) rfl ⟨rfl, rfl, rfl, rfl, rfl, rfl, trivial⟩ ?_
        rcases R with _ | ⟨⟨c1, y⟩, R⟩
        · exact absurd hn (by simp only [List.map_nil, List.nil_append, encA, List.length_nil]; omega)
        have hor : acO R := fun q hq => ho q (List.mem_cons_of_mem _ hq)
        have hc1 := ho _ List.mem_cons_self
        simp only at hc1
        have hc4 : c1 = 126 ∨ c1 = 127 ∨ c1 = 128 ∨ (104 ≤ c1 ∧ c1 ≤ 115) := by rcases hc1 with q | q <;> omega
        rw [List.map_nil, List.nil_append] at hL hn hm1
        rcases hc4 with rfl | rfl | rfl | hc4
        · rw [encA_e (by decide)] at hL hn
          simp only [List.length_cons] at hn
          have hL1 := hL.1
          rw [eAr_p] at hx2
          refine y_ld (x := .ref 170) rfl rfl (fun d => rfl) ?_
          refine y_gR (i := 4) rfl rfl rfl (md170 hM) rfl ?_
          refine y_ld (x := iv (p : Int)) rfl rfl (fun d => rfl) ?_
          refine y_ild (x := 5001) (q := p) rfl rfl (md173 hM) (by omega) (by decide) (by omega) hL1 ?_
          refine y_st (lv' := [(6, iv 5001), (0, .ref 170), (1, iv f), (2, iv e), (3, iv (-1)), (4, iv s), (5, iv (p : Int))]) rfl rfl (fun d => rfl) ?_
          refine y_ld (x := iv 5001) rfl rfl (fun d => rfl) ?_
          refine y_si rfl rfl (by decide) ?_
          refine y_jge rfl rfl rfl (by decide) (fun g4 => ?_) (fun g4 => absurd g4 (by decide))
          refine y_ld (x := iv (-1)) rfl rfl (fun d => rfl) ?_
          refine y_ic rfl rfl ?_
          refine y_jeq rfl rfl rfl (by decide) (fun g5 => ?_) (fun g5 => absurd g5 (by decide))
          refine y_ld (x := iv 5001) rfl rfl (fun d => rfl) ?_
          refine y_si rfl rfl (by decide) ?_
          refine y_jge rfl rfl rfl (by decide) (fun g6 => ?_) (fun g6 => absurd g6 (by decide))
          refine y_ic rfl rfl ?_
          refine y_st (lv' := [(3, iv (-1)), (6, iv 5001), (0, .ref 170), (1, iv f), (2, iv e), (4, iv s), (5, iv (p : Int))]) rfl rfl (fun d => rfl) ?_
          refine y_ic rfl rfl ?_
          refine y_st (lv' := [(4, iv 0), (3, iv (-1)), (6, iv 5001), (0, .ref 170), (1, iv f), (2, iv e), (5, iv (p : Int))]) rfl rfl (fun d => rfl) ?_
          refine y_ld (x := iv 5001) rfl rfl (fun d => rfl) ?_
          refine y_si rfl rfl (by decide) ?_
          refine y_jlt rfl rfl rfl (by decide) (fun g7 => absurd g7 (by decide)) (fun g7 => ?_)
          refine y_ld (x := iv 5001) rfl rfl (fun d => rfl) ?_
          refine y_si rfl rfl (by decide) ?_
          refine y_sub (z := 1) rfl rfl rfl ?_
          refine y_rI rfl (Or.inl rfl) ?_
          rw [show pnd a h κ n (zm (W A) B) none s [] = zm (W A) B from rfl, zi_zm, v_ur_self] at hx2
          exact hx2
        · rw [encA_e (by decide)] at hL hn
          simp only [List.length_cons] at hn
          have hL1 := hL.1
          rw [eAr_d] at hx2
          refine y_ld (x := .ref 170) rfl rfl (fun d => rfl) ?_
          refine y_gR (i := 4) rfl rfl rfl (md170 hM) rfl ?_
          refine y_ld (x := iv (p : Int)) rfl rfl (fun d => rfl) ?_
          refine y_ild (x := 5000) (q := p) rfl rfl (md173 hM) (by omega) (by decide) (by omega) hL1 ?_
          refine y_st (lv' := [(6, iv 5000), (0, .ref 170), (1, iv f), (2, iv e), (3, iv (-1)), (4, iv s), (5, iv (p : Int))]) rfl rfl (fun d => rfl) ?_
          refine y_ld (x := iv 5000) rfl rfl (fun d => rfl) ?_
          refine y_si rfl rfl (by decide) ?_
          refine y_jge rfl rfl rfl (by decide) (fun g8 => ?_) (fun g8 => absurd g8 (by decide))
          refine y_ld (x := iv (-1)) rfl rfl (fun d => rfl) ?_
          refine y_ic rfl rfl ?_
          refine y_jeq rfl rfl rfl (by decide) (fun g9 => ?_) (fun g9 => absurd g9 (by decide))
          refine y_ld (x := iv 5000) rfl rfl (fun d => rfl) ?_
          refine y_si rfl rfl (by decide) ?_
          refine y_jge rfl rfl rfl (by decide) (fun g10 => ?_) (fun g10 => absurd g10 (by decide))
          refine y_ic rfl rfl ?_
          refine y_st (lv' := [(3, iv (-1)), (6, iv 5000), (0, .ref 170), (1, iv f), (2, iv e), (4, iv s), (5, iv (p : Int))]) rfl rfl (fun d => rfl) ?_
          refine y_ic rfl rfl ?_
          refine y_st (lv' := [(4, iv 0), (3, iv (-1)), (6, iv 5000), (0, .ref 170), (1, iv f), (2, iv e), (5, iv (p : Int))]) rfl rfl (fun d => rfl) ?_
          refine y_ld (x := iv 5000) rfl rfl (fun d => rfl) ?_
          refine y_si rfl rfl (by decide) ?_
          refine y_jlt rfl rfl rfl (by decide) (fun g11 => absurd g11 (by decide)) (fun g11 => ?_)
          refine y_ld (x := iv 5000) rfl rfl (fun d => rfl) ?_
          refine y_si rfl rfl (by decide) ?_
          refine y_sub (z := 0) rfl rfl rfl ?_
          refine y_rI rfl (Or.inl rfl) ?_
          rw [show pnd a h κ n (zm (W A) B) none s [] = zm (W A) B from rfl, zi_zm, v_ur_self] at hx2
          exact hx2
        · rw [encA_e (by decide)] at hL hn
          simp only [List.length_cons] at hn
          have hL1 := hL.1
          rw [eAr_b] at hx2
          refine y_ld (x := .ref 170) rfl rfl (fun d => rfl) ?_
          refine y_gR (i := 4) rfl rfl rfl (md170 hM) rfl ?_
          refine y_ld (x := iv (p : Int)) rfl rfl (fun d => rfl) ?_
          refine y_ild (x := 5002) (q := p) rfl rfl (md173 hM) (by omega) (by decide) (by omega) hL1 ?_
          refine y_st (lv' := [(6, iv 5002), (0, .ref 170), (1, iv f), (2, iv e), (3, iv (-1)), (4, iv s), (5, iv (p : Int))]) rfl rfl (fun d => rfl) ?_
          refine y_ld (x := iv 5002) rfl rfl (fun d => rfl) ?_
          refine y_si rfl rfl (by decide) ?_
          refine y_jge rfl rfl rfl (by decide) (fun g12 => ?_) (fun g12 => absurd g12 (by decide))
          refine y_ld (x := iv (-1)) rfl rfl (fun d => rfl) ?_
          refine y_ic rfl rfl ?_
          refine y_jeq rfl rfl rfl (by decide) (fun g13 => ?_) (fun g13 => absurd g13 (by decide))
          refine y_ld (x := iv 5002) rfl rfl (fun d => rfl) ?_
          refine y_si rfl rfl (by decide) ?_
          refine y_jge rfl rfl rfl (by decide) (fun g14 => ?_) (fun g14 => absurd g14 (by decide))
          refine y_ic rfl rfl ?_
          refine y_st (lv' := [(3, iv (-1)), (6, iv 5002), (0, .ref 170), (1, iv f), (2, iv e), (4, iv s), (5, iv (p : Int))]) rfl rfl (fun d => rfl) ?_
          refine y_ic rfl rfl ?_
          refine y_st (lv' := [(4, iv 0), (3, iv (-1)), (6, iv 5002), (0, .ref 170), (1, iv f), (2, iv e), (5, iv (p : Int))]) rfl rfl (fun d => rfl) ?_
          refine y_ld (x := iv 5002) rfl rfl (fun d => rfl) ?_
          refine y_si rfl rfl (by decide) ?_
          refine y_jlt rfl rfl rfl (by decide) (fun g15 => absurd g15 (by decide)) (fun g15 => ?_)
          refine y_ld (x := iv 5002) rfl rfl (fun d => rfl) ?_
          refine y_si rfl rfl (by decide) ?_
          refine y_sub (z := 2) rfl rfl rfl ?_
          refine y_rI rfl (Or.inl rfl) ?_
          rw [show pnd a h κ n (zm (W A) B) none s [] = zm (W A) B from rfl, zi_zm, v_ur_self] at hx2
          exact hx2
        · have hc5 : smO y := by
            rcases hc1 with q | q
            · omega
            · exact q.2.2.1
          have hmc := mcd_cell hc4
          rw [encA_c (by omega)] at hL hn hm1
          simp only [List.length_cons] at hn hm1
          have hL1 := hL.1
          rw [eAr_c (by omega)] at hx2
          refine y_ld (x := .ref 170) rfl rfl (fun d => rfl) ?_
          refine y_gR (i := 4) rfl rfl rfl (md170 hM) rfl ?_
          refine y_ld (x := iv (p : Int)) rfl rfl (fun d => rfl) ?_
          refine y_ild (x := (2000 + mcd c1)) (q := p) rfl rfl (md173 hM) (by omega) (by decide) (by omega) hL1 ?_
          refine y_st (lv' := [(6, iv (2000 + mcd c1)), (0, .ref 170), (1, iv f), (2, iv e), (3, iv (-1)), (4, iv s), (5, iv (p : Int))]) rfl rfl (fun d => rfl) ?_
          refine y_ld (x := iv (2000 + mcd c1)) rfl rfl (fun d => rfl) ?_
          refine y_si rfl rfl (by decide) ?_
          refine y_jge rfl rfl rfl (by omega) (fun g16 => absurd g16 (by omega)) (fun g16 => ?_)
          refine y_ld (x := iv (2000 + mcd c1)) rfl rfl (fun d => rfl) ?_
          refine y_si rfl rfl (by decide) ?_
          refine y_jge rfl rfl rfl (by omega) (fun g17 => absurd g17 (by omega)) (fun g17 => ?_)
          refine y_ld (x := iv (-1)) rfl rfl (fun d => rfl) ?_
          refine y_ic rfl rfl ?_
          refine y_jeq rfl rfl rfl (by decide) (fun g18 => ?_) (fun g18 => absurd g18 (by decide))
          refine y_ld (x := iv (2000 + mcd c1)) rfl rfl (fun d => rfl) ?_
          refine y_si rfl rfl (by decide) ?_
          refine y_jge rfl rfl rfl (by omega) (fun g19 => absurd g19 (by omega)) (fun g19 => ?_)
          refine y_ld (x := iv (2000 + mcd c1)) rfl rfl (fun d => rfl) ?_
          refine y_si rfl rfl (by decide) ?_
          refine y_sub (z := (mcd c1)) rfl rfl (by omega) ?_
          refine y_go rfl rfl ?_
          refine y_st (lv' := [(3, iv (mcd c1)), (6, iv (2000 + mcd c1)), (0, .ref 170), (1, iv f), (2, iv e), (4, iv s), (5, iv (p : Int))]) rfl rfl (fun d => rfl) ?_
          refine y_ic rfl rfl ?_
          refine y_st (lv' := [(4, iv 0), (3, iv (mcd c1)), (6, iv (2000 + mcd c1)), (0, .ref 170), (1, iv f), (2, iv e), (5, iv (p : Int))]) rfl rfl (fun d => rfl) ?_
          refine y_ld (x := iv (2000 + mcd c1)) rfl rfl (fun d => rfl) ?_
          refine y_si rfl rfl (by decide) ?_
          refine y_jlt rfl rfl rfl (by omega) (fun g20 => ?_) (fun g20 => absurd g20 (by omega))
          refine y_inc (z := ((p + 1 : Nat) : Int)) (lv' := [(5, iv ((p + 1 : Nat) : Int)), (4, iv 0), (3, iv (mcd c1)), (6, iv (2000 + mcd c1)), (0, .ref 170), (1, iv f), (2, iv e)]) rfl rfl rfl (by omega) rfl ?_
          refine y_go rfl rfl ?_
          refine y_lv (l' := [(0, .ref 170), (1, iv f), (2, iv e), (3, iv (mcd c1)), (4, iv 0), (5, iv ((p + 1 : Nat) : Int))]) rfl ⟨rfl, rfl, rfl, rfl, rfl, rfl, trivial⟩ ?_
          exact y_mono (ih (p + 1) (some c1) 0 y R W (by omega) hE hP hμr hL.2 (by omega) hc5 hor (fun q => by cases q) (fun q hq => by cases hq; exact hc4) hx2) (by omega)
      · have hx4 := hPd c0 rfl
        have hm0 := mcd_cell hx4
        have hz0 := tcd_pl (Or.inr hx4) hpk (by omega)
        refine y_lv (l' := [(0, .ref 170), (1, iv f), (2, iv e), (3, iv (mcd c0)), (4, iv s), (5, iv (p : Int))]) rfl ⟨rfl, rfl, rfl, rfl, rfl, rfl, trivial⟩ ?_
        rcases T with _ | ⟨t, T⟩
        · rcases R with _ | ⟨⟨c1, y⟩, R⟩
          · exact absurd hn (by simp only [List.map_nil, List.nil_append, encA, List.length_nil]; omega)
          have hor : acO R := fun q hq => ho q (List.mem_cons_of_mem _ hq)
          have hc1 := ho _ List.mem_cons_self
          simp only at hc1
          have hc4 : c1 = 126 ∨ c1 = 127 ∨ c1 = 128 ∨ (104 ≤ c1 ∧ c1 ≤ 115) := by rcases hc1 with q | q <;> omega
          rw [List.map_nil, List.nil_append] at hL hn hm1
          rcases hc4 with rfl | rfl | rfl | hc4
          · rw [encA_e (by decide)] at hL hn
            simp only [List.length_cons] at hn
            have hL1 := hL.1
            rw [eAr_p] at hx2
            refine y_ld (x := .ref 170) rfl rfl (fun d => rfl) ?_
            refine y_gR (i := 4) rfl rfl rfl (md170 hM) rfl ?_
            refine y_ld (x := iv (p : Int)) rfl rfl (fun d => rfl) ?_
            refine y_ild (x := 5001) (q := p) rfl rfl (md173 hM) (by omega) (by decide) (by omega) hL1 ?_
            refine y_st (lv' := [(6, iv 5001), (0, .ref 170), (1, iv f), (2, iv e), (3, iv (mcd c0)), (4, iv s), (5, iv (p : Int))]) rfl rfl (fun d => rfl) ?_
            refine y_ld (x := iv 5001) rfl rfl (fun d => rfl) ?_
            refine y_si rfl rfl (by decide) ?_
            refine y_jge rfl rfl rfl (by decide) (fun g21 => ?_) (fun g21 => absurd g21 (by decide))
            refine y_ld (x := iv (mcd c0)) rfl rfl (fun d => rfl) ?_
            refine y_ic rfl rfl ?_
            refine y_jeq rfl rfl rfl (by omega) (fun g22 => absurd g22 (by omega)) (fun g22 => ?_)
            refine y_ld (x := .ref 170) rfl rfl (fun d => rfl) ?_
            refine y_ld (x := iv (mcd c0)) rfl rfl (fun d => rfl) ?_
            refine y_ld (x := iv s) rfl rfl (fun d => rfl) ?_
            refine y_top (wr_iv s) ?_
            refine y_cV (as := [.ref 170, iv (mcd c0), iv (wr s)]) rfl rfl rfl rfl rfl (md170 hM) ⟨rfl, (Nat.le_of_ble_eq_true rfl), (Nat.le_of_ble_eq_true rfl)⟩ (by decide) (ct_becomes (x := c0) hM hE hP hpk hx4 ?_)
            refine y_n0 ?_
            refine y_ld (x := iv 5001) rfl rfl (fun d => rfl) ?_
            refine y_si rfl rfl (by decide) ?_
            refine y_jge rfl rfl rfl (by decide) (fun g23 => ?_) (fun g23 => absurd g23 (by decide))
            refine y_ic rfl rfl ?_
            refine y_st (lv' := [(3, iv (-1)), (6, iv 5001), (0, .ref 170), (1, iv f), (2, iv e), (4, iv s), (5, iv (p : Int))]) rfl rfl (fun d => rfl) ?_
            refine y_ic rfl rfl ?_
            refine y_st (lv' := [(4, iv 0), (3, iv (-1)), (6, iv 5001), (0, .ref 170), (1, iv f), (2, iv e), (5, iv (p : Int))]) rfl rfl (fun d => rfl) ?_
            refine y_ld (x := iv 5001) rfl rfl (fun d => rfl) ?_
            refine y_si rfl rfl (by decide) ?_
            refine y_jlt rfl rfl rfl (by decide) (fun g24 => absurd g24 (by decide)) (fun g24 => ?_)
            refine y_ld (x := iv 5001) rfl rfl (fun d => rfl) ?_
            refine y_si rfl rfl (by decide) ?_
            refine y_sub (z := 1) rfl rfl rfl ?_
            refine y_rI rfl (Or.inl rfl) ?_
            rw [show pnd a h κ n (zm (W A) B) (some c0) s [] = v_uf (zm (W A) B) (z_pl (c0 - 104) a h).toNat (wr s) from rfl, zi_ufm (by omega)] at hx2
            exact hx2
          · rw [encA_e (by decide)] at hL hn
            simp only [List.length_cons] at hn
            have hL1 := hL.1
            rw [eAr_d] at hx2
            refine y_ld (x := .ref 170) rfl rfl (fun d => rfl) ?_
            refine y_gR (i := 4) rfl rfl rfl (md170 hM) rfl ?_
            refine y_ld (x := iv (p : Int)) rfl rfl (fun d => rfl) ?_
            refine y_ild (x := 5000) (q := p) rfl rfl (md173 hM) (by omega) (by decide) (by omega) hL1 ?_
            refine y_st (lv' := [(6, iv 5000), (0, .ref 170), (1, iv f), (2, iv e), (3, iv (mcd c0)), (4, iv s), (5, iv (p : Int))]) rfl rfl (fun d => rfl) ?_
            refine y_ld (x := iv 5000) rfl rfl (fun d => rfl) ?_
            refine y_si rfl rfl (by decide) ?_
            refine y_jge rfl rfl rfl (by decide) (fun g25 => ?_) (fun g25 => absurd g25 (by decide))
            refine y_ld (x := iv (mcd c0)) rfl rfl (fun d => rfl) ?_
            refine y_ic rfl rfl ?_
            refine y_jeq rfl rfl rfl (by omega) (fun g26 => absurd g26 (by omega)) (fun g26 => ?_)
            refine y_ld (x := .ref 170) rfl rfl (fun d => rfl) ?_
            refine y_ld (x := iv (mcd c0)) rfl rfl (fun d => rfl) ?_
            refine y_ld (x := iv s) rfl rfl (fun d => rfl) ?_
            refine y_top (wr_iv s) ?_
            refine y_cV (as := [.ref 170, iv (mcd c0), iv (wr s)]) rfl rfl rfl rfl rfl (md170 hM) ⟨rfl, (Nat.le_of_ble_eq_true rfl), (Nat.le_of_ble_eq_true rfl)⟩ (by decide) (ct_becomes (x := c0) hM hE hP hpk hx4 ?_)
            refine y_n0 ?_
            refine y_ld (x := iv 5000) rfl rfl (fun d => rfl) ?_
            refine y_si rfl rfl (by decide) ?_
            refine y_jge rfl rfl rfl (by decide) (fun g27 => ?_) (fun g27 => absurd g27 (by decide))
            refine y_ic rfl rfl ?_
            refine y_st (lv' := [(3, iv (-1)), (6, iv 5000), (0, .ref 170), (1, iv f), (2, iv e), (4, iv s), (5, iv (p : Int))]) rfl rfl (fun d => rfl) ?_
            refine y_ic rfl rfl ?_
            refine y_st (lv' := [(4, iv 0), (3, iv (-1)), (6, iv 5000), (0, .ref 170), (1, iv f), (2, iv e), (5, iv (p : Int))]) rfl rfl (fun d => rfl) ?_
            refine y_ld (x := iv 5000) rfl rfl (fun d => rfl) ?_
            refine y_si rfl rfl (by decide) ?_
            refine y_jlt rfl rfl rfl (by decide) (fun g28 => absurd g28 (by decide)) (fun g28 => ?_)
            refine y_ld (x := iv 5000) rfl rfl (fun d => rfl) ?_
            refine y_si rfl rfl (by decide) ?_
            refine y_sub (z := 0) rfl rfl rfl ?_
            refine y_rI rfl (Or.inl rfl) ?_
            rw [show pnd a h κ n (zm (W A) B) (some c0) s [] = v_uf (zm (W A) B) (z_pl (c0 - 104) a h).toNat (wr s) from rfl, zi_ufm (by omega)] at hx2
            exact hx2
          · rw [encA_e (by decide)] at hL hn
            simp only [List.length_cons] at hn
            have hL1 := hL.1
            rw [eAr_b] at hx2
            refine y_ld (x := .ref 170) rfl rfl (fun d => rfl) ?_
            refine y_gR (i := 4) rfl rfl rfl (md170 hM) rfl ?_
            refine y_ld (x := iv (p : Int)) rfl rfl (fun d => rfl) ?_
            refine y_ild (x := 5002) (q := p) rfl rfl (md173 hM) (by omega) (by decide) (by omega) hL1 ?_
            refine y_st (lv' := [(6, iv 5002), (0, .ref 170), (1, iv f), (2, iv e), (3, iv (mcd c0)), (4, iv s), (5, iv (p : Int))]) rfl rfl (fun d => rfl) ?_
            refine y_ld (x := iv 5002) rfl rfl (fun d => rfl) ?_
            refine y_si rfl rfl (by decide) ?_
            refine y_jge rfl rfl rfl (by decide) (fun g29 => ?_) (fun g29 => absurd g29 (by decide))
            refine y_ld (x := iv (mcd c0)) rfl rfl (fun d => rfl) ?_
            refine y_ic rfl rfl ?_
            refine y_jeq rfl rfl rfl (by omega) (fun g30 => absurd g30 (by omega)) (fun g30 => ?_)
            refine y_ld (x := .ref 170) rfl rfl (fun d => rfl) ?_
            refine y_ld (x := iv (mcd c0)) rfl rfl (fun d => rfl) ?_
            refine y_ld (x := iv s) rfl rfl (fun d => rfl) ?_
            refine y_top (wr_iv s) ?_
            refine y_cV (as := [.ref 170, iv (mcd c0), iv (wr s)]) rfl rfl rfl rfl rfl (md170 hM) ⟨rfl, (Nat.le_of_ble_eq_true rfl), (Nat.le_of_ble_eq_true rfl)⟩ (by decide) (ct_becomes (x := c0) hM hE hP hpk hx4 ?_)
            refine y_n0 ?_
            refine y_ld (x := iv 5002) rfl rfl (fun d => rfl) ?_
            refine y_si rfl rfl (by decide) ?_
            refine y_jge rfl rfl rfl (by decide) (fun g31 => ?_) (fun g31 => absurd g31 (by decide))
            refine y_ic rfl rfl ?_
            refine y_st (lv' := [(3, iv (-1)), (6, iv 5002), (0, .ref 170), (1, iv f), (2, iv e), (4, iv s), (5, iv (p : Int))]) rfl rfl (fun d => rfl) ?_
            refine y_ic rfl rfl ?_
            refine y_st (lv' := [(4, iv 0), (3, iv (-1)), (6, iv 5002), (0, .ref 170), (1, iv f), (2, iv e), (5, iv (p : Int))]) rfl rfl (fun d => rfl) ?_
            refine y_ld (x := iv 5002) rfl rfl (fun d => rfl) ?_
            refine y_si rfl rfl (by decide) ?_
            refine y_jlt rfl rfl rfl (by decide) (fun g32 => absurd g32 (by decide)) (fun g32 => ?_)
            refine y_ld (x := iv 5002) rfl rfl (fun d => rfl) ?_
            refine y_si rfl rfl (by decide) ?_
            refine y_sub (z := 2) rfl rfl rfl ?_
            refine y_rI rfl (Or.inl rfl) ?_
            rw [show pnd a h κ n (zm (W A) B) (some c0) s [] = v_uf (zm (W A) B) (z_pl (c0 - 104) a h).toNat (wr s) from rfl, zi_ufm (by omega)] at hx2
            exact hx2
          · have hc5 : smO y := by
              rcases hc1 with q | q
              · omega
              · exact q.2.2.1
            have hmc := mcd_cell hc4
            rw [encA_c (by omega)] at hL hn hm1
            simp only [List.length_cons] at hn hm1
            have hL1 := hL.1
            rw [eAr_c (by omega)] at hx2
            refine y_ld (x := .ref 170) rfl rfl (fun d => rfl) ?_
            refine y_gR (i := 4) rfl rfl rfl (md170 hM) rfl ?_
            refine y_ld (x := iv (p : Int)) rfl rfl (fun d => rfl) ?_
            refine y_ild (x := (2000 + mcd c1)) (q := p) rfl rfl (md173 hM) (by omega) (by decide) (by omega) hL1 ?_
            refine y_st (lv' := [(6, iv (2000 + mcd c1)), (0, .ref 170), (1, iv f), (2, iv e), (3, iv (mcd c0)), (4, iv s), (5, iv (p : Int))]) rfl rfl (fun d => rfl) ?_
            refine y_ld (x := iv (2000 + mcd c1)) rfl rfl (fun d => rfl) ?_
            refine y_si rfl rfl (by decide) ?_
            refine y_jge rfl rfl rfl (by omega) (fun g33 => absurd g33 (by omega)) (fun g33 => ?_)
            refine y_ld (x := iv (2000 + mcd c1)) rfl rfl (fun d => rfl) ?_
            refine y_si rfl rfl (by decide) ?_
            refine y_jge rfl rfl rfl (by omega) (fun g34 => absurd g34 (by omega)) (fun g34 => ?_)
            refine y_ld (x := iv (mcd c0)) rfl rfl (fun d => rfl) ?_
            refine y_ic rfl rfl ?_
            refine y_jeq rfl rfl rfl (by omega) (fun g35 => absurd g35 (by omega)) (fun g35 => ?_)
            refine y_ld (x := .ref 170) rfl rfl (fun d => rfl) ?_
            refine y_ld (x := iv (mcd c0)) rfl rfl (fun d => rfl) ?_
            refine y_ld (x := iv s) rfl rfl (fun d => rfl) ?_
            refine y_top (wr_iv s) ?_
            refine y_cV (as := [.ref 170, iv (mcd c0), iv (wr s)]) rfl rfl rfl rfl rfl (md170 hM) ⟨rfl, (Nat.le_of_ble_eq_true rfl), (Nat.le_of_ble_eq_true rfl)⟩ (by decide) (ct_becomes (x := c0) hM hE hP hpk hx4 ?_)
            refine y_n0 ?_
            refine y_ld (x := iv (2000 + mcd c1)) rfl rfl (fun d => rfl) ?_
            refine y_si rfl rfl (by decide) ?_
            refine y_jge rfl rfl rfl (by omega) (fun g36 => absurd g36 (by omega)) (fun g36 => ?_)
            refine y_ld (x := iv (2000 + mcd c1)) rfl rfl (fun d => rfl) ?_
            refine y_si rfl rfl (by decide) ?_
            refine y_sub (z := (mcd c1)) rfl rfl (by omega) ?_
            refine y_go rfl rfl ?_
            refine y_st (lv' := [(3, iv (mcd c1)), (6, iv (2000 + mcd c1)), (0, .ref 170), (1, iv f), (2, iv e), (4, iv s), (5, iv (p : Int))]) rfl rfl (fun d => rfl) ?_
            refine y_ic rfl rfl ?_
            refine y_st (lv' := [(4, iv 0), (3, iv (mcd c1)), (6, iv (2000 + mcd c1)), (0, .ref 170), (1, iv f), (2, iv e), (5, iv (p : Int))]) rfl rfl (fun d => rfl) ?_
            refine y_ld (x := iv (2000 + mcd c1)) rfl rfl (fun d => rfl) ?_
            refine y_si rfl rfl (by decide) ?_
            refine y_jlt rfl rfl rfl (by omega) (fun g37 => ?_) (fun g37 => absurd g37 (by omega))
            refine y_inc (z := ((p + 1 : Nat) : Int)) (lv' := [(5, iv ((p + 1 : Nat) : Int)), (4, iv 0), (3, iv (mcd c1)), (6, iv (2000 + mcd c1)), (0, .ref 170), (1, iv f), (2, iv e)]) rfl rfl rfl (by omega) rfl ?_
            refine y_go rfl rfl ?_
            refine y_lv (l' := [(0, .ref 170), (1, iv f), (2, iv e), (3, iv (mcd c1)), (4, iv 0), (5, iv ((p + 1 : Nat) : Int))]) rfl ⟨rfl, rfl, rfl, rfl, rfl, rfl, trivial⟩ ?_
            have en : ∀ k, k ≠ A → (v_up W A (B + (z_pl (c0 - 104) a h).toNat) (wr s)) k = W k := fun k hk => v_up_ne hk
            have er : (v_up W A (B + (z_pl (c0 - 104) a h).toNat) (wr s)) A = v_uf (W A) (B + (z_pl (c0 - 104) a h).toNat) (wr s) := v_up_row _ _ _ _
            have ez : zm ((v_up W A (B + (z_pl (c0 - 104) a h).toNat) (wr s)) A) B = v_uf (zm (W A) B) (z_pl (c0 - 104) a h).toNat (wr s) := by rw [er, zm_uf]
            have hμ1 : muO (zm ((v_up W A (B + (z_pl (c0 - 104) a h).toNat) (wr s)) A) B) := by
              rw [ez]
              intro q hq
              unfold v_uf
              split
              · exact wr_rg _
              · exact hμr q hq
            refine y_mono (ih (p + 1) (some c1) 0 y R (v_up W A (B + (z_pl (c0 - 104) a h).toNat) (wr s)) (by omega) (EvM_r hE (fun i _ _ => congrFun (en _ (by omega)) i)) (PkM_r hP (fun i _ _ => congrFun (en _ (by omega)) i)) hμ1 (SG_c (en _ (by omega)) hL.2) (by omega) hc5 hor (fun q => by cases q) (fun q hq => by cases hq; exact hc4) ?_) (by omega)
            rw [ez, er, zi_uf (by omega), v_up_ur, v_ur_ur]
            exact hx2
        · have hT1 := hT t List.mem_cons_self
          have hTr : smO T := fun q hq => hT q (List.mem_cons_of_mem _ hq)
          have hL1 : W 173 p = encM1 t := hL.1
          have hL2 : SG W 173 (p + 1) (T.map encM1 ++ encA R) := hL.2
          rw [List.map_cons, List.cons_append] at hn hm1
          simp only [List.length_cons] at hn hm1
          by_cases h256 : t < 256
          · have hTt : tcd (t) := by have q := hT1; unfold raw at q; rwa [if_pos h256] at q
            have hmt := mcd_rg hTt
            have hv := eV_rg hμr hTt hpk
            refine y_ld (x := .ref 170) rfl rfl (fun d => rfl) ?_
            refine y_gR (i := 4) rfl rfl rfl (md170 hM) rfl ?_
            refine y_ld (x := iv (p : Int)) rfl rfl (fun d => rfl) ?_
            refine y_ild (x := (3000 + mcd (t))) (q := p) rfl rfl (md173 hM) (by omega) (by decide) (by omega) (hL1.trans (if_pos h256)) ?_
            refine y_st (lv' := [(6, iv (3000 + mcd (t))), (0, .ref 170), (1, iv f), (2, iv e), (3, iv (mcd c0)), (4, iv s), (5, iv (p : Int))]) rfl rfl (fun d => rfl) ?_
            refine y_ld (x := iv (3000 + mcd (t))) rfl rfl (fun d => rfl) ?_
            refine y_si rfl rfl (by decide) ?_
            refine y_jge rfl rfl rfl (by omega) (fun g38 => absurd g38 (by omega)) (fun g38 => ?_)
            refine y_ld (x := iv (3000 + mcd (t))) rfl rfl (fun d => rfl) ?_
            refine y_si rfl rfl (by decide) ?_
            refine y_jge rfl rfl rfl (by omega) (fun g39 => ?_) (fun g39 => absurd g39 (by omega))
            refine y_ld (x := iv s) rfl rfl (fun d => rfl) ?_
            refine y_ld (x := iv (3000 + mcd (t))) rfl rfl (fun d => rfl) ?_
            refine y_si rfl rfl (by decide) ?_
            refine y_jlt rfl rfl rfl (by omega) (fun g40 => ?_) (fun g40 => absurd g40 (by omega))
            refine y_ld (x := .ref 170) rfl rfl (fun d => rfl) ?_
            refine y_ld (x := iv (3000 + mcd (t))) rfl rfl (fun d => rfl) ?_
            refine y_si rfl rfl (by decide) ?_
            refine y_sub (z := (mcd t)) rfl rfl (by omega) ?_
            refine y_cV (as := [.ref 170, iv (mcd t)]) rfl rfl rfl rfl rfl (md170 hM) ⟨rfl, (Nat.le_of_ble_eq_true rfl), (Nat.le_of_ble_eq_true rfl)⟩ (by decide) (ct_value (x := t) hM hE hP hpk hTt ?_)
            refine y_nv ?_
            refine y_add (z := (s + (eV (zm (W A) B) a h κ n t))) rfl rfl rfl ?_
            refine y_st (lv' := [(4, iv (s + (eV (zm (W A) B) a h κ n t))), (6, iv (3000 + mcd (t))), (0, .ref 170), (1, iv f), (2, iv e), (3, iv (mcd c0)), (5, iv (p : Int))]) rfl rfl (fun d => rfl) ?_
            refine y_inc (z := ((p + 1 : Nat) : Int)) (lv' := [(5, iv ((p + 1 : Nat) : Int)), (4, iv (s + (eV (zm (W A) B) a h κ n t))), (6, iv (3000 + mcd (t))), (0, .ref 170), (1, iv f), (2, iv e), (3, iv (mcd c0))]) rfl rfl rfl (by omega) rfl ?_
            refine y_go rfl rfl ?_
            refine y_lv (l' := [(0, .ref 170), (1, iv f), (2, iv e), (3, iv (mcd c0)), (4, iv (s + (eV (zm (W A) B) a h κ n t))), (5, iv ((p + 1 : Nat) : Int))]) rfl ⟨rfl, rfl, rfl, rfl, rfl, rfl, trivial⟩ ?_
            have es : s + (eV (zm (W A) B) a h κ n t) = eS1 (zm (W A) B) a h κ n s t := by
              unfold eS1
              rw [if_pos h256]
            rw [es]
            exact y_mono (ih (p + 1) (some c0) _ T R W (by omega) hE hP hμr hL2 (by omega) hTr ho (fun q => by cases q) hPd hx2) (by omega)
          · have hTt : tcd (t - 256) := by have q := hT1; unfold raw at q; rwa [if_neg h256] at q
            have hmt := mcd_rg hTt
            have hv := eV_rg hμr hTt hpk
            refine y_ld (x := .ref 170) rfl rfl (fun d => rfl) ?_
            refine y_gR (i := 4) rfl rfl rfl (md170 hM) rfl ?_
            refine y_ld (x := iv (p : Int)) rfl rfl (fun d => rfl) ?_
            refine y_ild (x := (4000 + mcd (t - 256))) (q := p) rfl rfl (md173 hM) (by omega) (by decide) (by omega) (hL1.trans (if_neg h256)) ?_
            refine y_st (lv' := [(6, iv (4000 + mcd (t - 256))), (0, .ref 170), (1, iv f), (2, iv e), (3, iv (mcd c0)), (4, iv s), (5, iv (p : Int))]) rfl rfl (fun d => rfl) ?_
            refine y_ld (x := iv (4000 + mcd (t - 256))) rfl rfl (fun d => rfl) ?_
            refine y_si rfl rfl (by decide) ?_
            refine y_jge rfl rfl rfl (by omega) (fun g41 => absurd g41 (by omega)) (fun g41 => ?_)
            refine y_ld (x := iv (4000 + mcd (t - 256))) rfl rfl (fun d => rfl) ?_
            refine y_si rfl rfl (by decide) ?_
            refine y_jge rfl rfl rfl (by omega) (fun g42 => ?_) (fun g42 => absurd g42 (by omega))
            refine y_ld (x := iv s) rfl rfl (fun d => rfl) ?_
            refine y_ld (x := iv (4000 + mcd (t - 256))) rfl rfl (fun d => rfl) ?_
            refine y_si rfl rfl (by decide) ?_
            refine y_jlt rfl rfl rfl (by omega) (fun g43 => absurd g43 (by omega)) (fun g43 => ?_)
            refine y_ld (x := .ref 170) rfl rfl (fun d => rfl) ?_
            refine y_ld (x := iv (4000 + mcd (t - 256))) rfl rfl (fun d => rfl) ?_
            refine y_si rfl rfl (by decide) ?_
            refine y_sub (z := (mcd (t - 256))) rfl rfl (by omega) ?_
            refine y_cV (as := [.ref 170, iv (mcd (t - 256))]) rfl rfl rfl rfl rfl (md170 hM) ⟨rfl, (Nat.le_of_ble_eq_true rfl), (Nat.le_of_ble_eq_true rfl)⟩ (by decide) (ct_value (x := t - 256) hM hE hP hpk hTt ?_)
            refine y_nv ?_
            refine y_neg (z := (-(eV (zm (W A) B) a h κ n (t - 256)))) rfl rfl rfl ?_
            refine y_go rfl rfl ?_
            refine y_add (z := (s + (-(eV (zm (W A) B) a h κ n (t - 256))))) rfl rfl rfl ?_
            refine y_st (lv' := [(4, iv (s + (-(eV (zm (W A) B) a h κ n (t - 256))))), (6, iv (4000 + mcd (t - 256))), (0, .ref 170), (1, iv f), (2, iv e), (3, iv (mcd c0)), (5, iv (p : Int))]) rfl rfl (fun d => rfl) ?_
            refine y_inc (z := ((p + 1 : Nat) : Int)) (lv' := [(5, iv ((p + 1 : Nat) : Int)), (4, iv (s + (-(eV (zm (W A) B) a h κ n (t - 256))))), (6, iv (4000 + mcd (t - 256))), (0, .ref 170), (1, iv f), (2, iv e), (3, iv (mcd c0))]) rfl rfl rfl (by omega) rfl ?_
            refine y_go rfl rfl ?_
            refine y_lv (l' := [(0, .ref 170), (1, iv f), (2, iv e), (3, iv (mcd c0)), (4, iv (s + (-(eV (zm (W A) B) a h κ n (t - 256))))), (5, iv ((p + 1 : Nat) : Int))]) rfl ⟨rfl, rfl, rfl, rfl, rfl, rfl, trivial⟩ ?_
            have es : s + (-(eV (zm (W A) B) a h κ n (t - 256))) = eS1 (zm (W A) B) a h κ n s t := by
              unfold eS1
              rw [if_neg h256]
              omega
            rw [es]
            exact y_mono (ih (p + 1) (some c0) _ T R W (by omega) hE hP hμr hL2 (by omega) hTr ho (fun q => by cases q) hPd hx2) (by omega)
set_option maxRecDepth 100000 in
set_option maxHeartbeats 4000000 in
theorem ct_acts (hM : MdS S) {A B : Nat} {a h κ n : Int} (hpk : pkO a h κ n) (hA : A = 171 ∨ A = 178) {f e : Int} (hE : EvM V A B) (hP : PkM V a h κ n) (hμr : muO (zm (V A) B)) {p : Nat} {R : List p_Ac} (hL : SG V 173 p (encA R)) (hf : f = (p : Int)) (hn : (p : Int) + (encA R).length = e ∧ e ≤ 1600) (hll : (encA R).length < 200) (ho : acO R) (k : K u w (some (iv (eAr a h κ n R (zm (V A) B)).1)) S (v_ur V A (zi (V A) B (eAr a h κ n R (zm (V A) B)).2))) : y_R X 5 131 u w [.ref 170, iv f, iv e] S V K := by
  refine y_ent (lv' := [(0, .ref 170), (1, iv f), (2, iv e)]) (Nat.le_of_ble_eq_true rfl) rfl ?_
  refine y_ic rfl rfl ?_
  refine y_st (lv' := [(3, iv (-1)), (0, .ref 170), (1, iv f), (2, iv e)]) rfl rfl (fun d => rfl) ?_
  refine y_ic rfl rfl ?_
  refine y_st (lv' := [(4, iv 0), (3, iv (-1)), (0, .ref 170), (1, iv f), (2, iv e)]) rfl rfl (fun d => rfl) ?_
  refine y_ld (x := iv f) rfl rfl (fun d => rfl) ?_
  refine y_st (lv' := [(5, iv f), (4, iv 0), (3, iv (-1)), (0, .ref 170), (1, iv f), (2, iv e)]) rfl rfl (fun d => rfl) ?_
  refine y_lv (l' := [(0, .ref 170), (1, iv f), (2, iv e), (3, iv (pce none)), (4, iv 0), (5, iv (p : Int))]) rfl ⟨rfl, rfl, rfl, rfl, rfl, congrArg (fun e => some (iv e)) hf, trivial⟩ ?_
  exact y_mono (lp_mActs (F := 100) hM hpk hA 200 p none 0 [] R V hll hE hP hμr hL hn (fun q hq => by cases hq) ho (fun _ => rfl) (fun q hq => by cases hq) k) (by decide)
end
