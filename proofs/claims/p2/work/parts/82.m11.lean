section
variable {X : Nat → List Int32} {u w : Nat} {S : m_H} {V : v_V} {K : v_K}
set_option maxRecDepth 100000 in
set_option maxHeartbeats 4000000 in
theorem lp_lines (hM : MdS S) {a z F : Nat} {τ : Nat → Int} (hT : Tp τ a z) : ∀ (m n : Nat) (V : v_V) (K : v_K) (u w p : Nat) (acc : List p_Li), n + m = 9 → 1 ≤ m → acc.length = n → 1 ≤ n → p ≤ z → (encP 0 acc).length ≤ p → lsO acc → MP V a z τ p 0 ((0 : Nat) : Int) (n : Int) (encP 0 acc) (mkP 0 (fun _ => 0) acc) → AM V a acc → (∀ l q V', (if 8 - n ≠ 0 ∧ hr τ z p = 59 then pLs τ z (8 - n) (p + 1) acc else (some acc, p)) = (some l, q) → MP V' a z τ q 0 ((0 : Nat) : Int) (l.length : Int) (encP 0 l) (mkP 0 (fun _ => 0) l) → AM V' a l → MF a V V' → y_E X 22 124 F u w 148 [(0, .ref 170)] [] S V' K) → (∀ q V' st' g' o' ln', (if 8 - n ≠ 0 ∧ hr τ z p = 59 then pLs τ z (8 - n) (p + 1) acc else (some acc, p)) = (none, q) → MP V' a z τ q 1 o' ln' st' g' → MF a V V' → y_E X 22 124 F u w 148 [(0, .ref 170)] [] S V' K) → y_E X 22 124 (100 * m + F) u w 106 [(0, .ref 170)] [] S V K := by
  intro m
  induction m with
  | zero => intros; omega
  | succ m ih =>
    intro n V K u w p acc hnm hm1 hal hn1 hp hle hlo h hAM k1 k2
    have hz := hT.2.1
    have hq0 := hr_rg hT p
    refine y_mono (F' := (100 * m + F) + 100) ?_ (by omega)
    refine y_ld (x := .ref 170) rfl rfl (fun d => rfl) ?_
    refine y_gI (i := 12) (e := 0) rfl rfl rfl (md170 hM) rfl h.2.2.2.1 ?_
    refine y_zne rfl rfl rfl (by decide) (fun g1 => absurd g1 (by decide)) (fun g1 => ?_)
    refine y_ld (x := .ref 170) rfl rfl (fun d => rfl) ?_
    refine y_gI (i := 14) (e := (n : Int)) rfl rfl rfl (md170 hM) rfl h.2.2.2.2.2.1 ?_
    refine y_bi rfl rfl (by decide) ?_
    refine y_jge rfl rfl rfl (by omega) (fun g2 => ?_) (fun g2 => ?_)
    · refine y_lv (l' := [(0, .ref 170)]) rfl ⟨rfl, trivial⟩ ?_
      exact y_mono (k1 acc p V (if_neg (by omega)) (by rw [hal]; exact h) hAM (MF_rf a V)) (by omega)
    · refine y_ld (x := .ref 170) rfl rfl (fun d => rfl) ?_
      refine y_cV (as := [.ref 170]) rfl rfl rfl rfl rfl (md170 hM) ⟨rfl, (Nat.le_of_ble_eq_true rfl), (Nat.le_of_ble_eq_true rfl)⟩ (by decide) (ct_here hM h (by omega) ?_)
      have hq123 := hr_rg hT (p)
      refine y_nv ?_
      refine y_bi rfl rfl (by decide) ?_
      refine y_jne rfl rfl rfl (by omega) (fun g3 => ?_) (fun g3 => ?_)
      · refine y_lv (l' := [(0, .ref 170)]) rfl ⟨rfl, trivial⟩ ?_
        exact y_mono (k1 acc p V (if_neg (by omega)) (by rw [hal]; exact h) hAM (MF_rf a V)) (by omega)
      · refine y_ld (x := .ref 170) rfl rfl (fun d => rfl) ?_
        refine y_in rfl rfl (fun d => rfl) ?_
        refine y_gI (i := 10) (e := ((p : Nat) : Int)) rfl rfl rfl (md170 hM) rfl h.2.1 ?_
        refine y_ic rfl rfl ?_
        refine y_add (z := (((p : Nat) : Int) + 1)) rfl rfl rfl ?_
        refine y_pI (i := 10) rfl rfl rfl (md170 hM) rfl rfl ?_
        have pl0 := hr_le (τ := τ) (z := z) (p := p) (by omega)
        refine y_ld (x := .ref 170) rfl rfl (fun d => rfl) ?_
        refine y_cV (as := [.ref 170]) rfl rfl rfl rfl rfl (md170 hM) ⟨rfl, (Nat.le_of_ble_eq_true rfl), (Nat.le_of_ble_eq_true rfl)⟩ (by decide) (ct_lineHere (lnn := n) hM hT (by omega) (mkP_bd acc 0 _ (by omega) (by omega) hlo (fun _ _ => ⟨Int.le_refl 0, (by decide : (0 : Int) ≤ 10)⟩)) ⟨rfl, by omega⟩ (by omega) (by omega) (MP_f (p' := (p + 1)) (wr' := 0) (o' := ((0 : Nat) : Int)) (ln' := (n : Int)) h ⟨rfl, rfl, rfl, rfl, rfl, rfl⟩ rfl h.2.2.2.1 h.2.2.2.2.1 h.2.2.2.2.2.1) (fun y1 r1 V1 x1 h1 f1 e1 => ?_) (fun r2 V2 s2 g_2 o2 x2 h2 f2 e2 => ?_))
        · have po3 := pL_ok (by omega) hz x1
          have ppo3 := po3.2.2 _ rfl
          refine y_n0 ?_
          refine y_go rfl rfl ?_
          refine y_lv (l' := [(0, .ref 170)]) rfl ⟨rfl, trivial⟩ ?_
          have eR : pLs τ z (8 - n) (p + 1) acc = (if 8 - (n + 1) ≠ 0 ∧ hr τ z r1 = 59 then pLs τ z (8 - (n + 1)) (r1 + 1) (acc ++ [y1]) else (some (acc ++ [y1]), r1)) := by
            rw [show 8 - n = (8 - (n + 1)) + 1 by omega, pLs_s]; simp only [x1]
          have el : (encP 0 (acc ++ [y1])).length = (encP 0 acc).length + ((bodyL y1).length + 2) := by rw [encP_app, List.length_append, encL_len]
          refine y_mono (ih (n + 1) _ _ _ _ r1 (acc ++ [y1]) (by omega) (by omega) (by simp; omega) (by omega) (by omega) (by omega) (lsO_app hlo ppo3.2) ?_ (AM_app hAM (by rw [hal]; exact e1)) ?_ ?_) (by omega)
          · rw [encP_app, mkP_app, hal, Nat.zero_add, show (0 : Int) + (n : Int) = (n : Int) by omega]
            exact h1
          · intro l2 q2 V' a1 a2 a3 a4
            exact k1 l2 q2 V' (by rw [if_pos ⟨by omega, g3⟩, eR]; exact a1) a2 a3 (MF_tr (MF_tr (MF_u0 (by decide) (MF_rf a V)) f1) a4)
          · intro q2 V' st' g' o' ln' a1 a2 a3
            exact k2 q2 V' st' g' o' ln' (by rw [if_pos ⟨by omega, g3⟩, eR]; exact a1) a2 (MF_tr (MF_tr (MF_u0 (by decide) (MF_rf a V)) f1) a3)
        · have po4 := pL_ok (by omega) hz x2
          refine y_n0 ?_
          refine y_go rfl rfl ?_
          refine y_lv (l' := [(0, .ref 170)]) rfl ⟨rfl, trivial⟩ ?_
          refine y_ld (x := .ref 170) rfl rfl (fun d => rfl) ?_
          refine y_gI (i := 12) (e := 1) rfl rfl rfl (md170 hM) rfl h2.2.2.2.1 ?_
          refine y_zne rfl rfl rfl (by decide) (fun g4 => ?_) (fun g4 => absurd g4 (by decide))
          refine y_lv (l' := [(0, .ref 170)]) rfl ⟨rfl, trivial⟩ ?_
          exact y_mono (k2 _ _ _ _ _ _ (by rw [if_pos ⟨by omega, g3⟩, show 8 - n = (8 - (n + 1)) + 1 by omega]; unfold pLs; rw [x2]) h2 (MF_tr (MF_u0 (by decide) (MF_rf a V)) f2)) (by omega)
end
