/-! LINES and a whole TEXT with a packet: the reference -/
theorem WV_eq {V W : v_V} {e : Int} (h : ∀ k, k ≠ 179 → W k = v_up V 170 23 e k) : W = v_up (v_ur V 179 (W 179)) 170 23 e := by
  funext k
  by_cases h1 : k = 179
  · subst h1
    rw [v_up_ne (by decide), v_ur_eq]
  · rw [h k h1]
    by_cases h2 : k = 170
    · subst h2
      rw [v_up_row, v_up_row, v_ur_ne (by decide)]
    · rw [v_up_ne h2, v_up_ne h2, v_ur_ne h1]
theorem zi_up {W : v_V} {A B q : Nat} {f g : Nat → Int} {x : Int} (hq : q < 84) : v_up (v_ur W A (zi f B g)) A (B + q) x = v_ur W A (zi f B (v_uf g q x)) := by
  rw [v_up_ur, v_ur_ur, v_ur_eq]
  congr 1
  funext j
  unfold zi v_uf
  by_cases h1 : j = B + q
  · rw [if_pos h1, if_pos (by omega), if_pos (by omega)]
  · rw [if_neg h1]
    show (if B ≤ j ∧ j < B + 84 then g (j - B) else f j) = _
    by_cases h2 : B ≤ j ∧ j < B + 84
    · rw [if_pos h2, if_pos h2, if_neg (by omega)]
    · rw [if_neg h2, if_neg h2]
theorem z_fl4 (g : Nat → Int) (q : Nat) : v_uf (v_uf (v_uf (v_uf g (q + 0) 0) (q + 1) 0) (q + 2) 0) (q + 3) 0 = z_fl g q 4 0 := by
  funext j
  unfold v_uf z_fl
  by_cases h : q ≤ j ∧ j < q + 4
  · rw [if_pos h]
    split
    · rfl
    · split
      · rfl
      · split
        · rfl
        · rw [if_pos (by omega)]
  · rw [if_neg h, if_neg (by omega), if_neg (by omega), if_neg (by omega), if_neg (by omega)]
theorem MT_SG {V : v_V} {i : Nat} {l : List p_Li} (h : MT V i l) : SG V 173 (200 * i + 0) (encP 0 l) := SG_of (fun j y hj => by rw [Nat.add_zero]; exact h.2.1 j y hj)
theorem encP_cons {q : Nat} {x : p_Li} {r : List p_Li} : encP q (x :: r) = (1000 + x.1) :: ((q + 2 + (bodyL x).length : Nat) : Int) :: (bodyL x ++ encP (q + (2 + (bodyL x).length)) r) := by
  show encL q x ++ encP (q + (encL q x).length) r = _
  rw [encL_len, show (bodyL x).length + 2 = 2 + (bodyL x).length by omega]
  rfl
theorem eH_0 {μ : Nat → Int} {t h k n : Int} {x : p_Li} (hx : lnO x) (he : x.2.1 = false) : eH μ t h k n x.2.2.1 = true := by
  rcases hx with ⟨h1, -⟩ | ⟨-, h1⟩
  · rw [he] at h1; cases h1
  · rw [h1]; rfl
section
variable {X : Nat → List Int32} {u w : Nat} {S : m_H} {V : v_V} {K : v_K}
set_option maxRecDepth 100000 in
set_option maxHeartbeats 4000000 in
theorem lp_works (hM : MdS S) {A B : Nat} {a h κ n : Int} (hE : EvM V A B) (hP : PkM V a h κ n) (hpk : pkO a h κ n) (hA : A = 171 ∨ A = 178) (hμr : muO (zm (V A) B)) {i : Nat} {l : List p_Li} (hi : i < 8) {z0 : Nat} (hz0 : z0 ≤ 200) {F : Nat} : ∀ (m : Nat) (q c : Nat) (r : List p_Li) (W : v_V), r.length < m → (∀ k, k ≠ 179 → W k = v_up V 170 23 (-5) k) → (SG V 173 (200 * i + q) (encP q r)) → (q + (encP q r).length = z0) → (c + r.length ≤ 8) → (lsO r) → (∀ x ∈ r, lnO x) → (∀ τ, K u w (some (iv (eW a h κ n r (zm (V A) B)).1)) S (v_ur (v_up (v_ur V 179 τ) 170 23 (eL (zm (V A) B) a h κ n c r)) A (zi (V A) B (eW a h κ n r (zm (V A) B)).2))) → y_E X 5 132 (30000 * m + F) u w 24 [(0, .ref 170), (1, iv (i : Int)), (2, iv ((200 * i + q : Nat) : Int)), (3, iv ((200 * i + z0 : Nat) : Int)), (4, iv (c : Int))] [] S W K := by
  intro m
  induction m with
  | zero => intros; omega
  | succ m ih =>
    intro q c r W hm1 hW hL hn hc8 hlo hld hx2
    refine y_mono (F' := (30000 * m + F) + 30000) ?_ (by omega)
    refine y_ld (x := iv ((200 * i + q : Nat) : Int)) rfl rfl (fun d => rfl) ?_
    refine y_ld (x := iv ((200 * i + z0 : Nat) : Int)) rfl rfl (fun d => rfl) ?_
    refine y_jge rfl rfl rfl (by omega) (fun g1 => ?_) (fun g1 => ?_)
    · refine y_ic rfl rfl ?_
      refine y_rI rfl (Or.inl rfl) ?_
      obtain rfl : r = [] := by
        rcases r with _ | ⟨x, r⟩
        · rfl
        · exfalso; rw [encP_cons] at hn; simp only [List.length_cons, List.length_append] at hn; omega
      have hx3 := hx2 (W 179)
      rw [show eL (zm (V A) B) a h κ n c [] = -5 from rfl, show eW a h κ n [] (zm (V A) B) = (1, (zm (V A) B)) from rfl, ← WV_eq hW, zi_zm] at hx3
      rw [show v_ur W A (V A) = W by rw [← (hW A (by omega)).trans (v_up_ne (by omega)), v_ur_self]] at hx3
      exact hx3
    · rcases r with _ | ⟨x, r⟩
      · exact absurd hn (by simp only [encP, List.length_nil]; omega)
      have hxo := hlo x List.mem_cons_self
      have hxd := hld x List.mem_cons_self
      have hlor : lsO r := fun y hy => hlo y (List.mem_cons_of_mem _ hy)
      have hldr : ∀ y ∈ r, lnO y := fun y hy => hld y (List.mem_cons_of_mem _ hy)
      have hx04 : 0 ≤ x.1 ∧ x.1 ≤ 4 := ⟨hxo.2.2.1, hxo.2.2.2.1⟩
      have hpo := hpk
      obtain ⟨p1, p2, p3, p4⟩ := hpo
      rw [encP_cons] at hL hn
      simp only [List.length_cons, List.length_append] at hn
      simp only [List.length_cons] at hc8
      obtain ⟨hL1, hL2, hL3⟩ := hL
      have hL4 := SG_app hL3
      have hL4a := hL4.1
      have hL4b := hL4.2
      rw [bodyL_em] at hL4a
      have hw173 : ∀ j, W 173 j = V 173 j := fun j => congrFun ((hW 173 (by decide)).trans (v_up_ne (by decide))) j
      have hw170 : W 170 = v_uf (V 170) 23 (-5) := (hW 170 (by decide)).trans (v_up_row _ _ _ _)
      have hwA : W A = V A := (hW A (by omega)).trans (v_up_ne (by omega))
      refine y_si rfl rfl (by decide) ?_
      refine y_ld (x := iv (i : Int)) rfl rfl (fun d => rfl) ?_
      refine y_mul (z := (200 * (i : Int))) rfl rfl rfl ?_
      refine y_ld (x := .ref 170) rfl rfl (fun d => rfl) ?_
      refine y_gR (i := 4) rfl rfl rfl (md170 hM) rfl ?_
      refine y_ld (x := iv ((200 * i + q : Nat) : Int)) rfl rfl (fun d => rfl) ?_
      refine y_ic rfl rfl ?_
      refine y_add (z := ((200 * i + q + 1 : Nat) : Int)) rfl rfl (by omega) ?_
      refine y_ild (x := ((q + 2 + (bodyL x).length : Nat) : Int)) (q := (200 * i + q + 1)) rfl rfl (md173 hM) (by omega) (by decide) (by omega) ((hw173 _).trans hL2) ?_
      refine y_add (z := ((200 * i + q + 2 + (bodyL x).length : Nat) : Int)) rfl rfl (by omega) ?_
      refine y_st (lv' := [(5, iv ((200 * i + q + 2 + (bodyL x).length : Nat) : Int)), (0, .ref 170), (1, iv (i : Int)), (2, iv ((200 * i + q : Nat) : Int)), (3, iv ((200 * i + z0 : Nat) : Int)), (4, iv (c : Int))]) rfl rfl (fun d => rfl) ?_
      refine y_ld (x := iv ((200 * i + q : Nat) : Int)) rfl rfl (fun d => rfl) ?_
      refine y_ic rfl rfl ?_
      refine y_add (z := ((200 * i + q + 2 : Nat) : Int)) rfl rfl (by omega) ?_
      refine y_st (lv' := [(6, iv ((200 * i + q + 2 : Nat) : Int)), (5, iv ((200 * i + q + 2 + (bodyL x).length : Nat) : Int)), (0, .ref 170), (1, iv (i : Int)), (2, iv ((200 * i + q : Nat) : Int)), (3, iv ((200 * i + z0 : Nat) : Int)), (4, iv (c : Int))]) rfl rfl (fun d => rfl) ?_
      refine y_ld (x := .ref 170) rfl rfl (fun d => rfl) ?_
      refine y_gR (i := 4) rfl rfl rfl (md170 hM) rfl ?_
      refine y_ld (x := iv ((200 * i + q : Nat) : Int)) rfl rfl (fun d => rfl) ?_
      refine y_ild (x := (1000 + x.1)) (q := (200 * i + q)) rfl rfl (md173 hM) (by omega) (by decide) (by omega) ((hw173 _).trans hL1) ?_
      refine y_si rfl rfl (by decide) ?_
      refine y_jeq rfl rfl rfl (by omega) (fun g2 => ?_) (fun g2 => ?_)
      · refine y_ic rfl rfl ?_
        refine y_go rfl rfl ?_
        refine y_st (lv' := [(7, iv 1), (6, iv ((200 * i + q + 2 : Nat) : Int)), (5, iv ((200 * i + q + 2 + (bodyL x).length : Nat) : Int)), (0, .ref 170), (1, iv (i : Int)), (2, iv ((200 * i + q : Nat) : Int)), (3, iv ((200 * i + z0 : Nat) : Int)), (4, iv (c : Int))]) rfl rfl (fun d => rfl) ?_
        refine y_ic rfl rfl ?_
        refine y_st (lv' := [(8, iv 0), (7, iv 1), (6, iv ((200 * i + q + 2 : Nat) : Int)), (5, iv ((200 * i + q + 2 + (bodyL x).length : Nat) : Int)), (0, .ref 170), (1, iv (i : Int)), (2, iv ((200 * i + q : Nat) : Int)), (3, iv ((200 * i + z0 : Nat) : Int)), (4, iv (c : Int))]) rfl rfl (fun d => rfl) ?_
        refine y_ic rfl rfl ?_
        refine y_st (lv' := [(9, iv 0), (8, iv 0), (7, iv 1), (6, iv ((200 * i + q + 2 : Nat) : Int)), (5, iv ((200 * i + q + 2 + (bodyL x).length : Nat) : Int)), (0, .ref 170), (1, iv (i : Int)), (2, iv ((200 * i + q : Nat) : Int)), (3, iv ((200 * i + z0 : Nat) : Int)), (4, iv (c : Int))]) rfl rfl (fun d => rfl) ?_
        refine y_lv (l' := [(0, .ref 170), (1, iv (i : Int)), (3, iv ((200 * i + z0 : Nat) : Int)), (4, iv (c : Int)), (5, iv ((200 * i + q + 2 + (bodyL x).length : Nat) : Int)), (6, iv ((200 * i + q + 2 : Nat) : Int)), (7, iv 1), (8, iv (([] : List Bool).length : Int)), (9, iv 0)]) rfl ⟨rfl, rfl, rfl, rfl, rfl, rfl, rfl, rfl, rfl, trivial⟩ ?_
        have hxd2 := hxd
        rcases hxd2 with ⟨hx1, hx2d⟩ | ⟨hx1, hx2d⟩
        · have hk1 := eK_len (μ := (zm (V A) B)) (t := a) (h := h) (k := κ) (n := n) x.2.2.1 [] 1 hx2d
          obtain ⟨b, hb⟩ : ∃ b, eK (zm (V A) B) a h κ n x.2.2.1 [] = [b] := List.length_eq_one_iff.mp hk1
          have heH : eH (zm (V A) B) a h κ n x.2.2.1 = b := by unfold eH; rw [hb]; rfl
          refine y_mono (lp_truths (V := v_up V 170 23 (-5)) (fh := 1) (st := [b]) (D := 1) (pf := 200 * i + q + 2 + (encT x.2.2.1).length + (em x.2.1).length) (F := 30000 * m + F + 2000) hM (EvM_r hE (fun j _ _ => (congrFun (v_up_row _ _ _ _) j).trans (v_uf_ne (by omega)))) (PkM_r hP (fun j _ _ => (congrFun (v_up_row _ _ _ _) j).trans (v_uf_ne (by omega)))) hpk hA (by rw [v_up_ne (by omega)]; exact hμr) hxo.2.1 300 (200 * i + q + 2) [] x.2.2.1 x.2.1 0 W (by rw [← bodyL_em]; omega) hW ?_ (by rw [← bodyL_em]; omega) hxo.1 hx2d (by decide) trivial (by rw [v_up_ne (by omega)]; exact hb) rfl ⟨fun _ => rfl, fun _ q2 => (by rw [hx1] at q2; cases q2)⟩ (fun W2 hW2 hTR2 => ?_)) (by omega)
          · exact SG_c (v_up_ne (by decide)) (by rw [show 200 * i + q + 2 = 200 * i + q + 1 + 1 by omega]; exact hL4a)
          cases b
          · have htr : W2 179 0 = 0 := hTR2.1.trans (v_b0 (by decide))
            refine y_ld (x := iv 1) rfl rfl (fun d => rfl) ?_
            refine y_zeq rfl rfl rfl (by decide) (fun g3 => absurd g3 (by decide)) (fun g3 => ?_)
            refine y_ld (x := iv 1) rfl rfl (fun d => rfl) ?_
            refine y_zeq rfl rfl rfl (by decide) (fun g4 => absurd g4 (by decide)) (fun g4 => ?_)
            refine y_ld (x := .ref 170) rfl rfl (fun d => rfl) ?_
            refine y_gR (i := 16) rfl rfl rfl (md170 hM) rfl ?_
            refine y_ic rfl rfl ?_
            refine y_bld (x := 0) (q := 0) rfl rfl (md179 hM) (by decide) (by decide) rfl htr ?_
            refine y_zeq rfl rfl rfl (by decide) (fun g5 => ?_) (fun g5 => absurd g5 (by decide))
            refine y_ld (x := iv ((200 * i + q + 2 + (bodyL x).length : Nat) : Int)) rfl rfl (fun d => rfl) ?_
            refine y_st (lv' := [(2, iv ((200 * i + q + 2 + (bodyL x).length : Nat) : Int)), (0, .ref 170), (1, iv (i : Int)), (3, iv ((200 * i + z0 : Nat) : Int)), (4, iv (c : Int)), (5, iv ((200 * i + q + 2 + (bodyL x).length : Nat) : Int)), (6, iv ((200 * i + q + 2 + (encT x.2.2.1).length + (em x.2.1).length : Nat) : Int)), (7, iv 1), (9, iv 1)]) rfl rfl (fun d => rfl) ?_
            refine y_inc (z := ((c + 1 : Nat) : Int)) (lv' := [(4, iv ((c + 1 : Nat) : Int)), (2, iv ((200 * i + q + 2 + (bodyL x).length : Nat) : Int)), (0, .ref 170), (1, iv (i : Int)), (3, iv ((200 * i + z0 : Nat) : Int)), (5, iv ((200 * i + q + 2 + (bodyL x).length : Nat) : Int)), (6, iv ((200 * i + q + 2 + (encT x.2.2.1).length + (em x.2.1).length : Nat) : Int)), (7, iv 1), (9, iv 1)]) rfl rfl rfl (by omega) rfl ?_
            refine y_go rfl rfl ?_
            refine y_lv (l' := [(0, .ref 170), (1, iv (i : Int)), (2, iv ((200 * i + q + 2 + (bodyL x).length : Nat) : Int)), (3, iv ((200 * i + z0 : Nat) : Int)), (4, iv ((c + 1 : Nat) : Int))]) rfl ⟨rfl, rfl, rfl, rfl, rfl, trivial⟩ ?_
            have hne : ¬ eM (zm (V A) B) a h κ n x = true := fun hq => by have hq2 := eM_i.mp hq; first | omega | (rw [heH] at hq2; exact absurd hq2.2 (by decide))
            rw [eL_f hne, show eW a h κ n (x :: r) (zm (V A) B) = eW a h κ n r (zm (V A) B) from if_neg hne] at hx2
            refine y_lv (l' := [(0, .ref 170), (1, iv (i : Int)), (2, iv ((200 * i + (q + (2 + (bodyL x).length)) : Nat) : Int)), (3, iv ((200 * i + z0 : Nat) : Int)), (4, iv ((c + 1 : Nat) : Int))]) rfl ⟨rfl, rfl, congrArg (fun e => some (iv e)) (by omega), rfl, rfl, trivial⟩ ?_
            exact y_mono (ih (q + (2 + (bodyL x).length)) (c + 1) r W2 (by simp only [List.length_cons] at hm1; omega) hW2 (by rw [show 200 * i + (q + (2 + (bodyL x).length)) = 200 * i + q + 1 + 1 + (bodyL x).length by omega]; exact hL4b) (by omega) (by omega) hlor hldr hx2) (by omega)
          · have htr : W2 179 0 = 1 := hTR2.1.trans (v_b1 rfl)
            refine y_ld (x := iv 1) rfl rfl (fun d => rfl) ?_
            refine y_zeq rfl rfl rfl (by decide) (fun g6 => absurd g6 (by decide)) (fun g6 => ?_)
            refine y_ld (x := iv 1) rfl rfl (fun d => rfl) ?_
            refine y_zeq rfl rfl rfl (by decide) (fun g7 => absurd g7 (by decide)) (fun g7 => ?_)
            refine y_ld (x := .ref 170) rfl rfl (fun d => rfl) ?_
            refine y_gR (i := 16) rfl rfl rfl (md170 hM) rfl ?_
            refine y_ic rfl rfl ?_
            refine y_bld (x := 1) (q := 0) rfl rfl (md179 hM) (by decide) (by decide) rfl htr ?_
            refine y_zeq rfl rfl rfl (by decide) (fun g8 => absurd g8 (by decide)) (fun g8 => ?_)
            rw [eL_t (eM_i.mpr ⟨by omega, heH⟩), show eW a h κ n (x :: r) (zm (V A) B) = eA a h κ n x.2.2.2 (zm (V A) B) from if_pos (eM_i.mpr ⟨by omega, heH⟩)] at hx2
            refine y_ld (x := .ref 170) rfl rfl (fun d => rfl) ?_
            refine y_ld (x := iv (c : Int)) rfl rfl (fun d => rfl) ?_
            refine y_pI (i := 23) rfl rfl rfl (md170 hM) rfl rfl ?_
            refine y_ld (x := .ref 170) rfl rfl (fun d => rfl) ?_
            refine y_ld (x := iv ((200 * i + q + 2 + (encT x.2.2.1).length + (em x.2.1).length : Nat) : Int)) rfl rfl (fun d => rfl) ?_
            refine y_ld (x := iv ((200 * i + q + 2 + (bodyL x).length : Nat) : Int)) rfl rfl (fun d => rfl) ?_
            have hw2 : ∀ k, k ≠ 179 → (v_up W2 170 23 (c : Int)) k = v_up V 170 23 (c : Int) k := by
              intro k hk
              by_cases h2 : k = 170
              · subst h2
                rw [v_up_row, v_up_row, (hW2 170 (by decide)).trans (v_up_row _ _ _ _), v_uf_uf]
              · rw [v_up_ne h2, v_up_ne h2, hW2 k hk, v_up_ne h2]
            have hq170 : (v_up W2 170 23 (c : Int)) 170 = v_uf (V 170) 23 (c : Int) := (hw2 170 (by decide)).trans (v_up_row _ _ _ _)
            have hqA : (v_up W2 170 23 (c : Int)) A = V A := (hw2 A (by omega)).trans (v_up_ne (by omega))
            have hq173 : (v_up W2 170 23 (c : Int)) 173 = V 173 := (hw2 173 (by decide)).trans (v_up_ne (by decide))
            have heb : (bodyL x).length = (encT x.2.2.1).length + ((em x.2.1).length + (encA x.2.2.2).length) := by rw [bodyL_em, List.length_append, List.length_append]
            have hLA := SG_c hq173 (SG_app (SG_app hL4a).2).2
            rw [show 200 * i + q + 1 + 1 + (encT x.2.2.1).length + (em x.2.1).length = 200 * i + q + 2 + (encT x.2.2.1).length + (em x.2.1).length by omega] at hLA
            have hea := eAr_rg a h κ n x.2.2.2 (zm (V A) B)
            have hraw := eA_raw a h κ n x.2.2.2 (zm (V A) B)
            have hVV := WV_eq hw2
            refine y_cV (as := [.ref 170, iv ((200 * i + q + 2 + (encT x.2.2.1).length + (em x.2.1).length : Nat) : Int), iv ((200 * i + q + 2 + (bodyL x).length : Nat) : Int)]) rfl rfl rfl rfl rfl (md170 hM) ⟨rfl, (Nat.le_of_ble_eq_true rfl), (Nat.le_of_ble_eq_true rfl)⟩ (by decide) (ct_acts (R := x.2.2.2) (A := A) (B := B) hM hpk hA (EvM_r hE (fun j _ _ => (congrFun (hq170) j).trans (v_uf_ne (by omega)))) (PkM_r hP (fun j _ _ => (congrFun (hq170) j).trans (v_uf_ne (by omega)))) (by rw [hqA]; exact hμr) hLA rfl ⟨by rw [heb]; omega, by omega⟩ (by omega) hxo.2.1 ?_)
            rw [hqA]
            refine y_nv ?_
            refine y_st (lv' := [(10, iv ((eAr a h κ n x.2.2.2 (zm (V A) B)).1)), (0, .ref 170), (1, iv (i : Int)), (3, iv ((200 * i + z0 : Nat) : Int)), (4, iv (c : Int)), (5, iv ((200 * i + q + 2 + (bodyL x).length : Nat) : Int)), (6, iv ((200 * i + q + 2 + (encT x.2.2.1).length + (em x.2.1).length : Nat) : Int)), (7, iv 1), (9, iv 1)]) rfl rfl (fun d => rfl) ?_
            refine y_ic rfl rfl ?_
            refine y_st (lv' := [(11, iv 0), (10, iv ((eAr a h κ n x.2.2.2 (zm (V A) B)).1)), (0, .ref 170), (1, iv (i : Int)), (3, iv ((200 * i + z0 : Nat) : Int)), (4, iv (c : Int)), (5, iv ((200 * i + q + 2 + (bodyL x).length : Nat) : Int)), (6, iv ((200 * i + q + 2 + (encT x.2.2.1).length + (em x.2.1).length : Nat) : Int)), (7, iv 1), (9, iv 1)]) rfl rfl (fun d => rfl) ?_
            rcases (show (eAr a h κ n x.2.2.2 (zm (V A) B)).1 = 0 ∨ (eAr a h κ n x.2.2.2 (zm (V A) B)).1 = 1 ∨ (eAr a h κ n x.2.2.2 (zm (V A) B)).1 = 2 by omega) with hw | hw | hw
            · rw [hraw.1, hraw.2, hw, if_neg (by decide)] at hx2
              refine y_lv (l' := [(11, iv 0), (10, iv 0), (0, .ref 170), (1, iv (i : Int)), (3, iv ((200 * i + z0 : Nat) : Int)), (4, iv (c : Int)), (5, iv ((200 * i + q + 2 + (bodyL x).length : Nat) : Int)), (6, iv ((200 * i + q + 2 + (encT x.2.2.1).length + (em x.2.1).length : Nat) : Int)), (7, iv 1), (9, iv 1)]) rfl ⟨rfl, congrArg (fun e => some (iv e)) hw, rfl, rfl, rfl, rfl, rfl, rfl, rfl, rfl, trivial⟩ ?_
              refine y_ld (x := iv 0) rfl rfl (fun d => rfl) ?_
              refine y_ic rfl rfl ?_
              refine y_jge rfl rfl rfl (by decide) (fun g9 => absurd g9 (by decide)) (fun g9 => ?_)
              refine y_ld (x := iv 0) rfl rfl (fun d => rfl) ?_
              refine y_ic rfl rfl ?_
              refine y_jne rfl rfl rfl (by decide) (fun g10 => ?_) (fun g10 => absurd g10 (by decide))
              refine y_ld (x := iv 0) rfl rfl (fun d => rfl) ?_
              refine y_rI rfl (Or.inl rfl) ?_
              rw [hVV]
              exact hx2 _
            · rw [hraw.1, hraw.2, hw, if_neg (by decide)] at hx2
              refine y_lv (l' := [(11, iv 0), (10, iv 1), (0, .ref 170), (1, iv (i : Int)), (3, iv ((200 * i + z0 : Nat) : Int)), (4, iv (c : Int)), (5, iv ((200 * i + q + 2 + (bodyL x).length : Nat) : Int)), (6, iv ((200 * i + q + 2 + (encT x.2.2.1).length + (em x.2.1).length : Nat) : Int)), (7, iv 1), (9, iv 1)]) rfl ⟨rfl, congrArg (fun e => some (iv e)) hw, rfl, rfl, rfl, rfl, rfl, rfl, rfl, rfl, trivial⟩ ?_
              refine y_ld (x := iv 0) rfl rfl (fun d => rfl) ?_
              refine y_ic rfl rfl ?_
              refine y_jge rfl rfl rfl (by decide) (fun g11 => absurd g11 (by decide)) (fun g11 => ?_)
              refine y_ld (x := iv 1) rfl rfl (fun d => rfl) ?_
              refine y_ic rfl rfl ?_
              refine y_jne rfl rfl rfl (by decide) (fun g12 => ?_) (fun g12 => absurd g12 (by decide))
              refine y_ld (x := iv 1) rfl rfl (fun d => rfl) ?_
              refine y_rI rfl (Or.inl rfl) ?_
              rw [hVV]
              exact hx2 _
            · rw [hraw.1, hraw.2, hw, if_pos rfl] at hx2
              refine y_lv (l' := [(11, iv 0), (10, iv 2), (0, .ref 170), (1, iv (i : Int)), (3, iv ((200 * i + z0 : Nat) : Int)), (4, iv (c : Int)), (5, iv ((200 * i + q + 2 + (bodyL x).length : Nat) : Int)), (6, iv ((200 * i + q + 2 + (encT x.2.2.1).length + (em x.2.1).length : Nat) : Int)), (7, iv 1), (9, iv 1)]) rfl ⟨rfl, congrArg (fun e => some (iv e)) hw, rfl, rfl, rfl, rfl, rfl, rfl, rfl, rfl, trivial⟩ ?_
              have eat0 : (z_pl (104 - 104) a h).toNat = 4 * a.toNat + 0 := by unfold z_pl; rw [if_pos (by decide)]; omega
              have eat1 : (z_pl (105 - 104) a h).toNat = 4 * a.toNat + 1 := by unfold z_pl; rw [if_pos (by decide)]; omega
              have eat2 : (z_pl (106 - 104) a h).toNat = 4 * a.toNat + 2 := by unfold z_pl; rw [if_pos (by decide)]; omega
              have eat3 : (z_pl (107 - 104) a h).toNat = 4 * a.toNat + 3 := by unfold z_pl; rw [if_pos (by decide)]; omega
              refine y_ld (x := iv 0) rfl rfl (fun d => rfl) ?_
              refine y_ic rfl rfl ?_
              refine y_jge rfl rfl rfl (by decide) (fun g13 => absurd g13 (by decide)) (fun g13 => ?_)
              refine y_ld (x := iv 2) rfl rfl (fun d => rfl) ?_
              refine y_ic rfl rfl ?_
              refine y_jne rfl rfl rfl (by decide) (fun g14 => absurd g14 (by decide)) (fun g14 => ?_)
              refine y_ld (x := .ref 170) rfl rfl (fun d => rfl) ?_
              refine y_bi rfl rfl (by decide) ?_
              refine y_ld (x := iv 0) rfl rfl (fun d => rfl) ?_
              refine y_add (z := 110) rfl rfl rfl ?_
              refine y_iv (e' := mcd 104) (by decide) ?_
              refine y_ic rfl rfl ?_
              refine y_cV (as := [.ref 170, iv (mcd 104), iv 0]) rfl rfl rfl rfl rfl (md170 hM) ⟨rfl, (Nat.le_of_ble_eq_true rfl), (Nat.le_of_ble_eq_true rfl)⟩ (by decide) (ct_becomes (A := A) (B := B) (x := 104) hM (EvM_r hE (fun j _ _ => by rw [v_ur_ne (by omega), congrFun hq170 j]; exact v_uf_ne (by omega))) (PkM_r hP (fun j _ _ => by rw [v_ur_ne (by omega), congrFun hq170 j]; exact v_uf_ne (by omega))) hpk (by decide) ?_)
              rw [eat0, zi_up (by omega)]
              refine y_n0 ?_
              refine y_inc (z := 1) (lv' := [(11, iv 1), (10, iv 2), (0, .ref 170), (1, iv (i : Int)), (3, iv ((200 * i + z0 : Nat) : Int)), (4, iv (c : Int)), (5, iv ((200 * i + q + 2 + (bodyL x).length : Nat) : Int)), (6, iv ((200 * i + q + 2 + (encT x.2.2.1).length + (em x.2.1).length : Nat) : Int)), (7, iv 1), (9, iv 1)]) rfl rfl rfl rfl rfl ?_
              refine y_go rfl rfl ?_
              refine y_ld (x := iv 1) rfl rfl (fun d => rfl) ?_
              refine y_ic rfl rfl ?_
              refine y_jge rfl rfl rfl (by decide) (fun g15 => absurd g15 (by decide)) (fun g15 => ?_)
              refine y_ld (x := iv 2) rfl rfl (fun d => rfl) ?_
              refine y_ic rfl rfl ?_
              refine y_jne rfl rfl rfl (by decide) (fun g16 => absurd g16 (by decide)) (fun g16 => ?_)
              refine y_ld (x := .ref 170) rfl rfl (fun d => rfl) ?_
              refine y_bi rfl rfl (by decide) ?_
              refine y_ld (x := iv 1) rfl rfl (fun d => rfl) ?_
              refine y_add (z := 111) rfl rfl rfl ?_
              refine y_iv (e' := mcd 105) (by decide) ?_
              refine y_ic rfl rfl ?_
              refine y_cV (as := [.ref 170, iv (mcd 105), iv 0]) rfl rfl rfl rfl rfl (md170 hM) ⟨rfl, (Nat.le_of_ble_eq_true rfl), (Nat.le_of_ble_eq_true rfl)⟩ (by decide) (ct_becomes (A := A) (B := B) (x := 105) hM (EvM_r hE (fun j _ _ => by rw [v_ur_ne (by omega), congrFun hq170 j]; exact v_uf_ne (by omega))) (PkM_r hP (fun j _ _ => by rw [v_ur_ne (by omega), congrFun hq170 j]; exact v_uf_ne (by omega))) hpk (by decide) ?_)
              rw [eat1, zi_up (by omega)]
              refine y_n0 ?_
              refine y_inc (z := 2) (lv' := [(11, iv 2), (10, iv 2), (0, .ref 170), (1, iv (i : Int)), (3, iv ((200 * i + z0 : Nat) : Int)), (4, iv (c : Int)), (5, iv ((200 * i + q + 2 + (bodyL x).length : Nat) : Int)), (6, iv ((200 * i + q + 2 + (encT x.2.2.1).length + (em x.2.1).length : Nat) : Int)), (7, iv 1), (9, iv 1)]) rfl rfl rfl rfl rfl ?_
              refine y_go rfl rfl ?_
              refine y_ld (x := iv 2) rfl rfl (fun d => rfl) ?_
              refine y_ic rfl rfl ?_
              refine y_jge rfl rfl rfl (by decide) (fun g17 => absurd g17 (by decide)) (fun g17 => ?_)
              refine y_ld (x := iv 2) rfl rfl (fun d => rfl) ?_
              refine y_ic rfl rfl ?_
              refine y_jne rfl rfl rfl (by decide) (fun g18 => absurd g18 (by decide)) (fun g18 => ?_)
              refine y_ld (x := .ref 170) rfl rfl (fun d => rfl) ?_
              refine y_bi rfl rfl (by decide) ?_
              refine y_ld (x := iv 2) rfl rfl (fun d => rfl) ?_
              refine y_add (z := 112) rfl rfl rfl ?_
              refine y_iv (e' := mcd 106) (by decide) ?_
              refine y_ic rfl rfl ?_
              refine y_cV (as := [.ref 170, iv (mcd 106), iv 0]) rfl rfl rfl rfl rfl (md170 hM) ⟨rfl, (Nat.le_of_ble_eq_true rfl), (Nat.le_of_ble_eq_true rfl)⟩ (by decide) (ct_becomes (A := A) (B := B) (x := 106) hM (EvM_r hE (fun j _ _ => by rw [v_ur_ne (by omega), congrFun hq170 j]; exact v_uf_ne (by omega))) (PkM_r hP (fun j _ _ => by rw [v_ur_ne (by omega), congrFun hq170 j]; exact v_uf_ne (by omega))) hpk (by decide) ?_)
              rw [eat2, zi_up (by omega)]
              refine y_n0 ?_
              refine y_inc (z := 3) (lv' := [(11, iv 3), (10, iv 2), (0, .ref 170), (1, iv (i : Int)), (3, iv ((200 * i + z0 : Nat) : Int)), (4, iv (c : Int)), (5, iv ((200 * i + q + 2 + (bodyL x).length : Nat) : Int)), (6, iv ((200 * i + q + 2 + (encT x.2.2.1).length + (em x.2.1).length : Nat) : Int)), (7, iv 1), (9, iv 1)]) rfl rfl rfl rfl rfl ?_
              refine y_go rfl rfl ?_
              refine y_ld (x := iv 3) rfl rfl (fun d => rfl) ?_
              refine y_ic rfl rfl ?_
              refine y_jge rfl rfl rfl (by decide) (fun g19 => absurd g19 (by decide)) (fun g19 => ?_)
              refine y_ld (x := iv 2) rfl rfl (fun d => rfl) ?_
              refine y_ic rfl rfl ?_
              refine y_jne rfl rfl rfl (by decide) (fun g20 => absurd g20 (by decide)) (fun g20 => ?_)
              refine y_ld (x := .ref 170) rfl rfl (fun d => rfl) ?_
              refine y_bi rfl rfl (by decide) ?_
              refine y_ld (x := iv 3) rfl rfl (fun d => rfl) ?_
              refine y_add (z := 113) rfl rfl rfl ?_
              refine y_iv (e' := mcd 107) (by decide) ?_
              refine y_ic rfl rfl ?_
              refine y_cV (as := [.ref 170, iv (mcd 107), iv 0]) rfl rfl rfl rfl rfl (md170 hM) ⟨rfl, (Nat.le_of_ble_eq_true rfl), (Nat.le_of_ble_eq_true rfl)⟩ (by decide) (ct_becomes (A := A) (B := B) (x := 107) hM (EvM_r hE (fun j _ _ => by rw [v_ur_ne (by omega), congrFun hq170 j]; exact v_uf_ne (by omega))) (PkM_r hP (fun j _ _ => by rw [v_ur_ne (by omega), congrFun hq170 j]; exact v_uf_ne (by omega))) hpk (by decide) ?_)
              rw [eat3, zi_up (by omega)]
              refine y_n0 ?_
              refine y_inc (z := 4) (lv' := [(11, iv 4), (10, iv 2), (0, .ref 170), (1, iv (i : Int)), (3, iv ((200 * i + z0 : Nat) : Int)), (4, iv (c : Int)), (5, iv ((200 * i + q + 2 + (bodyL x).length : Nat) : Int)), (6, iv ((200 * i + q + 2 + (encT x.2.2.1).length + (em x.2.1).length : Nat) : Int)), (7, iv 1), (9, iv 1)]) rfl rfl rfl rfl rfl ?_
              refine y_go rfl rfl ?_
              refine y_ld (x := iv 4) rfl rfl (fun d => rfl) ?_
              refine y_ic rfl rfl ?_
              refine y_jge rfl rfl rfl (by decide) (fun g21 => ?_) (fun g21 => absurd g21 (by decide))
              refine y_ld (x := iv 2) rfl rfl (fun d => rfl) ?_
              refine y_rI rfl (Or.inl rfl) ?_
              rw [z_fl4, hVV]
              exact hx2 _
        · have heH := eH_0 (μ := (zm (V A) B)) (t := a) (h := h) (k := κ) (n := n) hxd hx1
          refine y_mono (lp_truths (V := v_up V 170 23 (-5)) (fh := 0) (st := []) (D := 0) (pf := 200 * i + q + 2 + (encT x.2.2.1).length + (em x.2.1).length) (F := 30000 * m + F + 2000) hM (EvM_r hE (fun j _ _ => (congrFun (v_up_row _ _ _ _) j).trans (v_uf_ne (by omega)))) (PkM_r hP (fun j _ _ => (congrFun (v_up_row _ _ _ _) j).trans (v_uf_ne (by omega)))) hpk hA (by rw [v_up_ne (by omega)]; exact hμr) hxo.2.1 300 (200 * i + q + 2) [] x.2.2.1 x.2.1 0 W (by rw [← bodyL_em]; omega) hW ?_ (by rw [← bodyL_em]; omega) hxo.1 (by rw [hx2d]; exact rfl) (by decide) trivial (by rw [hx2d]; rfl) rfl ⟨fun q2 => (by rcases q2 with q2 | q2; exact absurd hx2d q2; rw [hx1] at q2; cases q2), fun _ _ => rfl⟩ (fun W2 hW2 hTR2 => ?_)) (by omega)
          · exact SG_c (v_up_ne (by decide)) (by rw [show 200 * i + q + 2 = 200 * i + q + 1 + 1 by omega]; exact hL4a)
          refine y_ld (x := iv 1) rfl rfl (fun d => rfl) ?_
          refine y_zeq rfl rfl rfl (by decide) (fun g22 => absurd g22 (by decide)) (fun g22 => ?_)
          refine y_ld (x := iv 0) rfl rfl (fun d => rfl) ?_
          refine y_zeq rfl rfl rfl (by decide) (fun g23 => ?_) (fun g23 => absurd g23 (by decide))
          rw [eL_t (eM_i.mpr ⟨by omega, heH⟩), show eW a h κ n (x :: r) (zm (V A) B) = eA a h κ n x.2.2.2 (zm (V A) B) from if_pos (eM_i.mpr ⟨by omega, heH⟩)] at hx2
          refine y_ld (x := .ref 170) rfl rfl (fun d => rfl) ?_
          refine y_ld (x := iv (c : Int)) rfl rfl (fun d => rfl) ?_
          refine y_pI (i := 23) rfl rfl rfl (md170 hM) rfl rfl ?_
          refine y_ld (x := .ref 170) rfl rfl (fun d => rfl) ?_
          refine y_ld (x := iv ((200 * i + q + 2 + (encT x.2.2.1).length + (em x.2.1).length : Nat) : Int)) rfl rfl (fun d => rfl) ?_
          refine y_ld (x := iv ((200 * i + q + 2 + (bodyL x).length : Nat) : Int)) rfl rfl (fun d => rfl) ?_
          have hw2 : ∀ k, k ≠ 179 → (v_up W2 170 23 (c : Int)) k = v_up V 170 23 (c : Int) k := by
            intro k hk
            by_cases h2 : k = 170
            · subst h2
              rw [v_up_row, v_up_row, (hW2 170 (by decide)).trans (v_up_row _ _ _ _), v_uf_uf]
            · rw [v_up_ne h2, v_up_ne h2, hW2 k hk, v_up_ne h2]
          have hq170 : (v_up W2 170 23 (c : Int)) 170 = v_uf (V 170) 23 (c : Int) := (hw2 170 (by decide)).trans (v_up_row _ _ _ _)
          have hqA : (v_up W2 170 23 (c : Int)) A = V A := (hw2 A (by omega)).trans (v_up_ne (by omega))
          have hq173 : (v_up W2 170 23 (c : Int)) 173 = V 173 := (hw2 173 (by decide)).trans (v_up_ne (by decide))
          have heb : (bodyL x).length = (encT x.2.2.1).length + ((em x.2.1).length + (encA x.2.2.2).length) := by rw [bodyL_em, List.length_append, List.length_append]
          have hLA := SG_c hq173 (SG_app (SG_app hL4a).2).2
          rw [show 200 * i + q + 1 + 1 + (encT x.2.2.1).length + (em x.2.1).length = 200 * i + q + 2 + (encT x.2.2.1).length + (em x.2.1).length by omega] at hLA
          have hea := eAr_rg a h κ n x.2.2.2 (zm (V A) B)
          have hraw := eA_raw a h κ n x.2.2.2 (zm (V A) B)
          have hVV := WV_eq hw2
          refine y_cV (as := [.ref 170, iv ((200 * i + q + 2 + (encT x.2.2.1).length + (em x.2.1).length : Nat) : Int), iv ((200 * i + q + 2 + (bodyL x).length : Nat) : Int)]) rfl rfl rfl rfl rfl (md170 hM) ⟨rfl, (Nat.le_of_ble_eq_true rfl), (Nat.le_of_ble_eq_true rfl)⟩ (by decide) (ct_acts (R := x.2.2.2) (A := A) (B := B) hM hpk hA (EvM_r hE (fun j _ _ => (congrFun (hq170) j).trans (v_uf_ne (by omega)))) (PkM_r hP (fun j _ _ => (congrFun (hq170) j).trans (v_uf_ne (by omega)))) (by rw [hqA]; exact hμr) hLA rfl ⟨by rw [heb]; omega, by omega⟩ (by omega) hxo.2.1 ?_)
          rw [hqA]
          refine y_nv ?_
          refine y_st (lv' := [(10, iv ((eAr a h κ n x.2.2.2 (zm (V A) B)).1)), (0, .ref 170), (1, iv (i : Int)), (3, iv ((200 * i + z0 : Nat) : Int)), (4, iv (c : Int)), (5, iv ((200 * i + q + 2 + (bodyL x).length : Nat) : Int)), (6, iv ((200 * i + q + 2 + (encT x.2.2.1).length + (em x.2.1).length : Nat) : Int)), (7, iv 1), (9, iv 0)]) rfl rfl (fun d => rfl) ?_
          refine y_ic rfl rfl ?_
          refine y_st (lv' := [(11, iv 0), (10, iv ((eAr a h κ n x.2.2.2 (zm (V A) B)).1)), (0, .ref 170), (1, iv (i : Int)), (3, iv ((200 * i + z0 : Nat) : Int)), (4, iv (c : Int)), (5, iv ((200 * i + q + 2 + (bodyL x).length : Nat) : Int)), (6, iv ((200 * i + q + 2 + (encT x.2.2.1).length + (em x.2.1).length : Nat) : Int)), (7, iv 1), (9, iv 0)]) rfl rfl (fun d => rfl) ?_
          rcases (show (eAr a h κ n x.2.2.2 (zm (V A) B)).1 = 0 ∨ (eAr a h κ n x.2.2.2 (zm (V A) B)).1 = 1 ∨ (eAr a h κ n x.2.2.2 (zm (V A) B)).1 = 2 by omega) with hw | hw | hw
          · rw [hraw.1, hraw.2, hw, if_neg (by decide)] at hx2
            refine y_lv (l' := [(11, iv 0), (10, iv 0), (0, .ref 170), (1, iv (i : Int)), (3, iv ((200 * i + z0 : Nat) : Int)), (4, iv (c : Int)), (5, iv ((200 * i + q + 2 + (bodyL x).length : Nat) : Int)), (6, iv ((200 * i + q + 2 + (encT x.2.2.1).length + (em x.2.1).length : Nat) : Int)), (7, iv 1), (9, iv 0)]) rfl ⟨rfl, congrArg (fun e => some (iv e)) hw, rfl, rfl, rfl, rfl, rfl, rfl, rfl, rfl, trivial⟩ ?_
            refine y_ld (x := iv 0) rfl rfl (fun d => rfl) ?_
            refine y_ic rfl rfl ?_
            refine y_jge rfl rfl rfl (by decide) (fun g24 => absurd g24 (by decide)) (fun g24 => ?_)
            refine y_ld (x := iv 0) rfl rfl (fun d => rfl) ?_
            refine y_ic rfl rfl ?_
            refine y_jne rfl rfl rfl (by decide) (fun g25 => ?_) (fun g25 => absurd g25 (by decide))
            refine y_ld (x := iv 0) rfl rfl (fun d => rfl) ?_
            refine y_rI rfl (Or.inl rfl) ?_
            rw [hVV]
            exact hx2 _
          · rw [hraw.1, hraw.2, hw, if_neg (by decide)] at hx2
            refine y_lv (l' := [(11, iv 0), (10, iv 1), (0, .ref 170), (1, iv (i : Int)), (3, iv ((200 * i + z0 : Nat) : Int)), (4, iv (c : Int)), (5, iv ((200 * i + q + 2 + (bodyL x).length : Nat) : Int)), (6, iv ((200 * i + q + 2 + (encT x.2.2.1).length + (em x.2.1).length : Nat) : Int)), (7, iv 1), (9, iv 0)]) rfl ⟨rfl, congrArg (fun e => some (iv e)) hw, rfl, rfl, rfl, rfl, rfl, rfl, rfl, rfl, trivial⟩ ?_
            refine y_ld (x := iv 0) rfl rfl (fun d => rfl) ?_
            refine y_ic rfl rfl ?_
            refine y_jge rfl rfl rfl (by decide) (fun g26 => absurd g26 (by decide)) (fun g26 => ?_)
            refine y_ld (x := iv 1) rfl rfl (fun d => rfl) ?_
            refine y_ic rfl rfl ?_
            refine y_jne rfl rfl rfl (by decide) (fun g27 => ?_) (fun g27 => absurd g27 (by decide))
            refine y_ld (x := iv 1) rfl rfl (fun d => rfl) ?_
            refine y_rI rfl (Or.inl rfl) ?_
            rw [hVV]
            exact hx2 _
          · rw [hraw.1, hraw.2, hw, if_pos rfl] at hx2
            refine y_lv (l' := [(11, iv 0), (10, iv 2), (0, .ref 170), (1, iv (i : Int)), (3, iv ((200 * i + z0 : Nat) : Int)), (4, iv (c : Int)), (5, iv ((200 * i + q + 2 + (bodyL x).length : Nat) : Int)), (6, iv ((200 * i + q + 2 + (encT x.2.2.1).length + (em x.2.1).length : Nat) : Int)), (7, iv 1), (9, iv 0)]) rfl ⟨rfl, congrArg (fun e => some (iv e)) hw, rfl, rfl, rfl, rfl, rfl, rfl, rfl, rfl, trivial⟩ ?_
            have eat0 : (z_pl (104 - 104) a h).toNat = 4 * a.toNat + 0 := by unfold z_pl; rw [if_pos (by decide)]; omega
            have eat1 : (z_pl (105 - 104) a h).toNat = 4 * a.toNat + 1 := by unfold z_pl; rw [if_pos (by decide)]; omega
            have eat2 : (z_pl (106 - 104) a h).toNat = 4 * a.toNat + 2 := by unfold z_pl; rw [if_pos (by decide)]; omega
            have eat3 : (z_pl (107 - 104) a h).toNat = 4 * a.toNat + 3 := by unfold z_pl; rw [if_pos (by decide)]; omega
            refine y_ld (x := iv 0) rfl rfl (fun d => rfl) ?_
            refine y_ic rfl rfl ?_
            refine y_jge rfl rfl rfl (by decide) (fun g28 => absurd g28 (by decide)) (fun g28 => ?_)
            refine y_ld (x := iv 2) rfl rfl (fun d => rfl) ?_
            refine y_ic rfl rfl ?_
            refine y_jne rfl rfl rfl (by decide) (fun g29 => absurd g29 (by decide)) (fun g29 => ?_)
            refine y_ld (x := .ref 170) rfl rfl (fun d => rfl) ?_
            refine y_bi rfl rfl (by decide) ?_
            refine y_ld (x := iv 0) rfl rfl (fun d => rfl) ?_
            refine y_add (z := 110) rfl rfl rfl ?_
            refine y_iv (e' := mcd 104) (by decide) ?_
            refine y_ic rfl rfl ?_
            refine y_cV (as := [.ref 170, iv (mcd 104), iv 0]) rfl rfl rfl rfl rfl (md170 hM) ⟨rfl, (Nat.le_of_ble_eq_true rfl), (Nat.le_of_ble_eq_true rfl)⟩ (by decide) (ct_becomes (A := A) (B := B) (x := 104) hM (EvM_r hE (fun j _ _ => by rw [v_ur_ne (by omega), congrFun hq170 j]; exact v_uf_ne (by omega))) (PkM_r hP (fun j _ _ => by rw [v_ur_ne (by omega), congrFun hq170 j]; exact v_uf_ne (by omega))) hpk (by decide) ?_)
            rw [eat0, zi_up (by omega)]
            refine y_n0 ?_
            refine y_inc (z := 1) (lv' := [(11, iv 1), (10, iv 2), (0, .ref 170), (1, iv (i : Int)), (3, iv ((200 * i + z0 : Nat) : Int)), (4, iv (c : Int)), (5, iv ((200 * i + q + 2 + (bodyL x).length : Nat) : Int)), (6, iv ((200 * i + q + 2 + (encT x.2.2.1).length + (em x.2.1).length : Nat) : Int)), (7, iv 1), (9, iv 0)]) rfl rfl rfl rfl rfl ?_
            refine y_go rfl rfl ?_
            refine y_ld (x := iv 1) rfl rfl (fun d => rfl) ?_
            refine y_ic rfl rfl ?_
            refine y_jge rfl rfl rfl (by decide) (fun g30 => absurd g30 (by decide)) (fun g30 => ?_)
            refine y_ld (x := iv 2) rfl rfl (fun d => rfl) ?_
            refine y_ic rfl rfl ?_
            refine y_jne rfl rfl rfl (by decide) (fun g31 => absurd g31 (by decide)) (fun g31 => ?_)
            refine y_ld (x := .ref 170) rfl rfl (fun d => rfl) ?_
            refine y_bi rfl rfl (by decide) ?_
            refine y_ld (x := iv 1) rfl rfl (fun d => rfl) ?_
            refine y_add (z := 111) rfl rfl rfl ?_
            refine y_iv (e' := mcd 105) (by decide) ?_
            refine y_ic rfl rfl ?_
            refine y_cV (as := [.ref 170, iv (mcd 105), iv 0]) rfl rfl rfl rfl rfl (md170 hM) ⟨rfl, (Nat.le_of_ble_eq_true rfl), (Nat.le_of_ble_eq_true rfl)⟩ (by decide) (ct_becomes (A := A) (B := B) (x := 105) hM (EvM_r hE (fun j _ _ => by rw [v_ur_ne (by omega), congrFun hq170 j]; exact v_uf_ne (by omega))) (PkM_r hP (fun j _ _ => by rw [v_ur_ne (by omega), congrFun hq170 j]; exact v_uf_ne (by omega))) hpk (by decide) ?_)
            rw [eat1, zi_up (by omega)]
            refine y_n0 ?_
            refine y_inc (z := 2) (lv' := [(11, iv 2), (10, iv 2), (0, .ref 170), (1, iv (i : Int)), (3, iv ((200 * i + z0 : Nat) : Int)), (4, iv (c : Int)), (5, iv ((200 * i + q + 2 + (bodyL x).length : Nat) : Int)), (6, iv ((200 * i + q + 2 + (encT x.2.2.1).length + (em x.2.1).length : Nat) : Int)), (7, iv 1), (9, iv 0)]) rfl rfl rfl rfl rfl ?_
            refine y_go rfl rfl ?_
            refine y_ld (x := iv 2) rfl rfl (fun d => rfl) ?_
            refine y_ic rfl rfl ?_
            refine y_jge rfl rfl rfl (by decide) (fun g32 => absurd g32 (by decide)) (fun g32 => ?_)
            refine y_ld (x := iv 2) rfl rfl (fun d => rfl) ?_
            refine y_ic rfl rfl ?_
            refine y_jne rfl rfl rfl (by decide) (fun g33 => absurd g33 (by decide)) (fun g33 => ?_)
            refine y_ld (x := .ref 170) rfl rfl (fun d => rfl) ?_
            refine y_bi rfl rfl (by decide) ?_
            refine y_ld (x := iv 2) rfl rfl (fun d => rfl) ?_
            refine y_add (z := 112) rfl rfl rfl ?_
            refine y_iv (e' := mcd 106) (by decide) ?_
            refine y_ic rfl rfl ?_
            refine y_cV (as := [.ref 170, iv (mcd 106), iv 0]) rfl rfl rfl rfl rfl (md170 hM) ⟨rfl, (Nat.le_of_ble_eq_true rfl), (Nat.le_of_ble_eq_true rfl)⟩ (by decide) (ct_becomes (A := A) (B := B) (x := 106) hM (EvM_r hE (fun j _ _ => by rw [v_ur_ne (by omega), congrFun hq170 j]; exact v_uf_ne (by omega))) (PkM_r hP (fun j _ _ => by rw [v_ur_ne (by omega), congrFun hq170 j]; exact v_uf_ne (by omega))) hpk (by decide) ?_)
            rw [eat2, zi_up (by omega)]
            refine y_n0 ?_
            refine y_inc (z := 3) (lv' := [(11, iv 3), (10, iv 2), (0, .ref 170), (1, iv (i : Int)), (3, iv ((200 * i + z0 : Nat) : Int)), (4, iv (c : Int)), (5, iv ((200 * i + q + 2 + (bodyL x).length : Nat) : Int)), (6, iv ((200 * i + q + 2 + (encT x.2.2.1).length + (em x.2.1).length : Nat) : Int)), (7, iv 1), (9, iv 0)]) rfl rfl rfl rfl rfl ?_
            refine y_go rfl rfl ?_
            refine y_ld (x := iv 3) rfl rfl (fun d => rfl) ?_
            refine y_ic rfl rfl ?_
            refine y_jge rfl rfl rfl (by decide) (fun g34 => absurd g34 (by decide)) (fun g34 => ?_)
            refine y_ld (x := iv 2) rfl rfl (fun d => rfl) ?_
            refine y_ic rfl rfl ?_
            refine y_jne rfl rfl rfl (by decide) (fun g35 => absurd g35 (by decide)) (fun g35 => ?_)
            refine y_ld (x := .ref 170) rfl rfl (fun d => rfl) ?_
            refine y_bi rfl rfl (by decide) ?_
            refine y_ld (x := iv 3) rfl rfl (fun d => rfl) ?_
            refine y_add (z := 113) rfl rfl rfl ?_
            refine y_iv (e' := mcd 107) (by decide) ?_
            refine y_ic rfl rfl ?_
            refine y_cV (as := [.ref 170, iv (mcd 107), iv 0]) rfl rfl rfl rfl rfl (md170 hM) ⟨rfl, (Nat.le_of_ble_eq_true rfl), (Nat.le_of_ble_eq_true rfl)⟩ (by decide) (ct_becomes (A := A) (B := B) (x := 107) hM (EvM_r hE (fun j _ _ => by rw [v_ur_ne (by omega), congrFun hq170 j]; exact v_uf_ne (by omega))) (PkM_r hP (fun j _ _ => by rw [v_ur_ne (by omega), congrFun hq170 j]; exact v_uf_ne (by omega))) hpk (by decide) ?_)
            rw [eat3, zi_up (by omega)]
            refine y_n0 ?_
            refine y_inc (z := 4) (lv' := [(11, iv 4), (10, iv 2), (0, .ref 170), (1, iv (i : Int)), (3, iv ((200 * i + z0 : Nat) : Int)), (4, iv (c : Int)), (5, iv ((200 * i + q + 2 + (bodyL x).length : Nat) : Int)), (6, iv ((200 * i + q + 2 + (encT x.2.2.1).length + (em x.2.1).length : Nat) : Int)), (7, iv 1), (9, iv 0)]) rfl rfl rfl rfl rfl ?_
            refine y_go rfl rfl ?_
            refine y_ld (x := iv 4) rfl rfl (fun d => rfl) ?_
            refine y_ic rfl rfl ?_
            refine y_jge rfl rfl rfl (by decide) (fun g36 => ?_) (fun g36 => absurd g36 (by decide))
            refine y_ld (x := iv 2) rfl rfl (fun d => rfl) ?_
            refine y_rI rfl (Or.inl rfl) ?_
            rw [z_fl4, hVV]
            exact hx2 _
      · refine y_ld (x := .ref 170) rfl rfl (fun d => rfl) ?_
        refine y_gR (i := 4) rfl rfl rfl (md170 hM) rfl ?_
        refine y_ld (x := iv ((200 * i + q : Nat) : Int)) rfl rfl (fun d => rfl) ?_
        refine y_ild (x := (1000 + x.1)) (q := (200 * i + q)) rfl rfl (md173 hM) (by omega) (by decide) (by omega) ((hw173 _).trans hL1) ?_
        refine y_si rfl rfl (by decide) ?_
        refine y_ld (x := .ref 170) rfl rfl (fun d => rfl) ?_
        refine y_gI (i := 19) (e := κ) rfl rfl rfl (md170 hM) rfl ((congrFun hw170 19).trans ((v_uf_ne (by decide)).trans hP.2.2.1)) ?_
        refine y_add (z := (1000 + κ)) rfl rfl rfl ?_
        refine y_jne rfl rfl rfl (by omega) (fun g37 => ?_) (fun g37 => ?_)
        · refine y_ic rfl rfl ?_
          refine y_st (lv' := [(7, iv 0), (6, iv ((200 * i + q + 2 : Nat) : Int)), (5, iv ((200 * i + q + 2 + (bodyL x).length : Nat) : Int)), (0, .ref 170), (1, iv (i : Int)), (2, iv ((200 * i + q : Nat) : Int)), (3, iv ((200 * i + z0 : Nat) : Int)), (4, iv (c : Int))]) rfl rfl (fun d => rfl) ?_
          refine y_ic rfl rfl ?_
          refine y_st (lv' := [(8, iv 0), (7, iv 0), (6, iv ((200 * i + q + 2 : Nat) : Int)), (5, iv ((200 * i + q + 2 + (bodyL x).length : Nat) : Int)), (0, .ref 170), (1, iv (i : Int)), (2, iv ((200 * i + q : Nat) : Int)), (3, iv ((200 * i + z0 : Nat) : Int)), (4, iv (c : Int))]) rfl rfl (fun d => rfl) ?_
          refine y_ic rfl rfl ?_
          refine y_st (lv' := [(9, iv 0), (8, iv 0), (7, iv 0), (6, iv ((200 * i + q + 2 : Nat) : Int)), (5, iv ((200 * i + q + 2 + (bodyL x).length : Nat) : Int)), (0, .ref 170), (1, iv (i : Int)), (2, iv ((200 * i + q : Nat) : Int)), (3, iv ((200 * i + z0 : Nat) : Int)), (4, iv (c : Int))]) rfl rfl (fun d => rfl) ?_
          refine y_lv (l' := [(0, .ref 170), (1, iv (i : Int)), (3, iv ((200 * i + z0 : Nat) : Int)), (4, iv (c : Int)), (5, iv ((200 * i + q + 2 + (bodyL x).length : Nat) : Int)), (6, iv ((200 * i + q + 2 : Nat) : Int)), (7, iv 0), (8, iv (([] : List Bool).length : Int)), (9, iv 0)]) rfl ⟨rfl, rfl, rfl, rfl, rfl, rfl, rfl, rfl, rfl, trivial⟩ ?_
          have hxd2 := hxd
          rcases hxd2 with ⟨hx1, hx2d⟩ | ⟨hx1, hx2d⟩
          · have hk1 := eK_len (μ := (zm (V A) B)) (t := a) (h := h) (k := κ) (n := n) x.2.2.1 [] 1 hx2d
            obtain ⟨b, hb⟩ : ∃ b, eK (zm (V A) B) a h κ n x.2.2.1 [] = [b] := List.length_eq_one_iff.mp hk1
            have heH : eH (zm (V A) B) a h κ n x.2.2.1 = b := by unfold eH; rw [hb]; rfl
            refine y_mono (lp_truths (V := v_up V 170 23 (-5)) (fh := 1) (st := [b]) (D := 1) (pf := 200 * i + q + 2 + (encT x.2.2.1).length + (em x.2.1).length) (F := 30000 * m + F + 2000) hM (EvM_r hE (fun j _ _ => (congrFun (v_up_row _ _ _ _) j).trans (v_uf_ne (by omega)))) (PkM_r hP (fun j _ _ => (congrFun (v_up_row _ _ _ _) j).trans (v_uf_ne (by omega)))) hpk hA (by rw [v_up_ne (by omega)]; exact hμr) hxo.2.1 300 (200 * i + q + 2) [] x.2.2.1 x.2.1 0 W (by rw [← bodyL_em]; omega) hW ?_ (by rw [← bodyL_em]; omega) hxo.1 hx2d (by decide) trivial (by rw [v_up_ne (by omega)]; exact hb) rfl ⟨fun _ => rfl, fun _ q2 => (by rw [hx1] at q2; cases q2)⟩ (fun W2 hW2 hTR2 => ?_)) (by omega)
            · exact SG_c (v_up_ne (by decide)) (by rw [show 200 * i + q + 2 = 200 * i + q + 1 + 1 by omega]; exact hL4a)
            refine y_ld (x := iv 0) rfl rfl (fun d => rfl) ?_
            refine y_zeq rfl rfl rfl (by decide) (fun g38 => ?_) (fun g38 => absurd g38 (by decide))
            refine y_ld (x := iv ((200 * i + q + 2 + (bodyL x).length : Nat) : Int)) rfl rfl (fun d => rfl) ?_
            refine y_st (lv' := [(2, iv ((200 * i + q + 2 + (bodyL x).length : Nat) : Int)), (0, .ref 170), (1, iv (i : Int)), (3, iv ((200 * i + z0 : Nat) : Int)), (4, iv (c : Int)), (5, iv ((200 * i + q + 2 + (bodyL x).length : Nat) : Int)), (6, iv ((200 * i + q + 2 + (encT x.2.2.1).length + (em x.2.1).length : Nat) : Int)), (7, iv 0), (9, iv 1)]) rfl rfl (fun d => rfl) ?_
            refine y_inc (z := ((c + 1 : Nat) : Int)) (lv' := [(4, iv ((c + 1 : Nat) : Int)), (2, iv ((200 * i + q + 2 + (bodyL x).length : Nat) : Int)), (0, .ref 170), (1, iv (i : Int)), (3, iv ((200 * i + z0 : Nat) : Int)), (5, iv ((200 * i + q + 2 + (bodyL x).length : Nat) : Int)), (6, iv ((200 * i + q + 2 + (encT x.2.2.1).length + (em x.2.1).length : Nat) : Int)), (7, iv 0), (9, iv 1)]) rfl rfl rfl (by omega) rfl ?_
            refine y_go rfl rfl ?_
            refine y_lv (l' := [(0, .ref 170), (1, iv (i : Int)), (2, iv ((200 * i + q + 2 + (bodyL x).length : Nat) : Int)), (3, iv ((200 * i + z0 : Nat) : Int)), (4, iv ((c + 1 : Nat) : Int))]) rfl ⟨rfl, rfl, rfl, rfl, rfl, trivial⟩ ?_
            have hne : ¬ eM (zm (V A) B) a h κ n x = true := fun hq => by have hq2 := eM_i.mp hq; first | omega | (rw [heH] at hq2; exact absurd hq2.2 (by decide))
            rw [eL_f hne, show eW a h κ n (x :: r) (zm (V A) B) = eW a h κ n r (zm (V A) B) from if_neg hne] at hx2
            refine y_lv (l' := [(0, .ref 170), (1, iv (i : Int)), (2, iv ((200 * i + (q + (2 + (bodyL x).length)) : Nat) : Int)), (3, iv ((200 * i + z0 : Nat) : Int)), (4, iv ((c + 1 : Nat) : Int))]) rfl ⟨rfl, rfl, congrArg (fun e => some (iv e)) (by omega), rfl, rfl, trivial⟩ ?_
            exact y_mono (ih (q + (2 + (bodyL x).length)) (c + 1) r W2 (by simp only [List.length_cons] at hm1; omega) hW2 (by rw [show 200 * i + (q + (2 + (bodyL x).length)) = 200 * i + q + 1 + 1 + (bodyL x).length by omega]; exact hL4b) (by omega) (by omega) hlor hldr hx2) (by omega)
          · have heH := eH_0 (μ := (zm (V A) B)) (t := a) (h := h) (k := κ) (n := n) hxd hx1
            refine y_mono (lp_truths (V := v_up V 170 23 (-5)) (fh := 0) (st := []) (D := 0) (pf := 200 * i + q + 2 + (encT x.2.2.1).length + (em x.2.1).length) (F := 30000 * m + F + 2000) hM (EvM_r hE (fun j _ _ => (congrFun (v_up_row _ _ _ _) j).trans (v_uf_ne (by omega)))) (PkM_r hP (fun j _ _ => (congrFun (v_up_row _ _ _ _) j).trans (v_uf_ne (by omega)))) hpk hA (by rw [v_up_ne (by omega)]; exact hμr) hxo.2.1 300 (200 * i + q + 2) [] x.2.2.1 x.2.1 0 W (by rw [← bodyL_em]; omega) hW ?_ (by rw [← bodyL_em]; omega) hxo.1 (by rw [hx2d]; exact rfl) (by decide) trivial (by rw [hx2d]; rfl) rfl ⟨fun q2 => (by rcases q2 with q2 | q2; exact absurd hx2d q2; rw [hx1] at q2; cases q2), fun _ _ => rfl⟩ (fun W2 hW2 hTR2 => ?_)) (by omega)
            · exact SG_c (v_up_ne (by decide)) (by rw [show 200 * i + q + 2 = 200 * i + q + 1 + 1 by omega]; exact hL4a)
            refine y_ld (x := iv 0) rfl rfl (fun d => rfl) ?_
            refine y_zeq rfl rfl rfl (by decide) (fun g39 => ?_) (fun g39 => absurd g39 (by decide))
            refine y_ld (x := iv ((200 * i + q + 2 + (bodyL x).length : Nat) : Int)) rfl rfl (fun d => rfl) ?_
            refine y_st (lv' := [(2, iv ((200 * i + q + 2 + (bodyL x).length : Nat) : Int)), (0, .ref 170), (1, iv (i : Int)), (3, iv ((200 * i + z0 : Nat) : Int)), (4, iv (c : Int)), (5, iv ((200 * i + q + 2 + (bodyL x).length : Nat) : Int)), (6, iv ((200 * i + q + 2 + (encT x.2.2.1).length + (em x.2.1).length : Nat) : Int)), (7, iv 0), (9, iv 0)]) rfl rfl (fun d => rfl) ?_
            refine y_inc (z := ((c + 1 : Nat) : Int)) (lv' := [(4, iv ((c + 1 : Nat) : Int)), (2, iv ((200 * i + q + 2 + (bodyL x).length : Nat) : Int)), (0, .ref 170), (1, iv (i : Int)), (3, iv ((200 * i + z0 : Nat) : Int)), (5, iv ((200 * i + q + 2 + (bodyL x).length : Nat) : Int)), (6, iv ((200 * i + q + 2 + (encT x.2.2.1).length + (em x.2.1).length : Nat) : Int)), (7, iv 0), (9, iv 0)]) rfl rfl rfl (by omega) rfl ?_
            refine y_go rfl rfl ?_
            refine y_lv (l' := [(0, .ref 170), (1, iv (i : Int)), (2, iv ((200 * i + q + 2 + (bodyL x).length : Nat) : Int)), (3, iv ((200 * i + z0 : Nat) : Int)), (4, iv ((c + 1 : Nat) : Int))]) rfl ⟨rfl, rfl, rfl, rfl, rfl, trivial⟩ ?_
            have hne : ¬ eM (zm (V A) B) a h κ n x = true := fun hq => by have hq2 := eM_i.mp hq; first | omega | (rw [heH] at hq2; exact absurd hq2.2 (by decide))
            rw [eL_f hne, show eW a h κ n (x :: r) (zm (V A) B) = eW a h κ n r (zm (V A) B) from if_neg hne] at hx2
            refine y_lv (l' := [(0, .ref 170), (1, iv (i : Int)), (2, iv ((200 * i + (q + (2 + (bodyL x).length)) : Nat) : Int)), (3, iv ((200 * i + z0 : Nat) : Int)), (4, iv ((c + 1 : Nat) : Int))]) rfl ⟨rfl, rfl, congrArg (fun e => some (iv e)) (by omega), rfl, rfl, trivial⟩ ?_
            exact y_mono (ih (q + (2 + (bodyL x).length)) (c + 1) r W2 (by simp only [List.length_cons] at hm1; omega) hW2 (by rw [show 200 * i + (q + (2 + (bodyL x).length)) = 200 * i + q + 1 + 1 + (bodyL x).length by omega]; exact hL4b) (by omega) (by omega) hlor hldr hx2) (by omega)
        · refine y_ic rfl rfl ?_
          refine y_go rfl rfl ?_
          refine y_st (lv' := [(7, iv 1), (6, iv ((200 * i + q + 2 : Nat) : Int)), (5, iv ((200 * i + q + 2 + (bodyL x).length : Nat) : Int)), (0, .ref 170), (1, iv (i : Int)), (2, iv ((200 * i + q : Nat) : Int)), (3, iv ((200 * i + z0 : Nat) : Int)), (4, iv (c : Int))]) rfl rfl (fun d => rfl) ?_
          refine y_ic rfl rfl ?_
          refine y_st (lv' := [(8, iv 0), (7, iv 1), (6, iv ((200 * i + q + 2 : Nat) : Int)), (5, iv ((200 * i + q + 2 + (bodyL x).length : Nat) : Int)), (0, .ref 170), (1, iv (i : Int)), (2, iv ((200 * i + q : Nat) : Int)), (3, iv ((200 * i + z0 : Nat) : Int)), (4, iv (c : Int))]) rfl rfl (fun d => rfl) ?_
          refine y_ic rfl rfl ?_
          refine y_st (lv' := [(9, iv 0), (8, iv 0), (7, iv 1), (6, iv ((200 * i + q + 2 : Nat) : Int)), (5, iv ((200 * i + q + 2 + (bodyL x).length : Nat) : Int)), (0, .ref 170), (1, iv (i : Int)), (2, iv ((200 * i + q : Nat) : Int)), (3, iv ((200 * i + z0 : Nat) : Int)), (4, iv (c : Int))]) rfl rfl (fun d => rfl) ?_
          refine y_lv (l' := [(0, .ref 170), (1, iv (i : Int)), (3, iv ((200 * i + z0 : Nat) : Int)), (4, iv (c : Int)), (5, iv ((200 * i + q + 2 + (bodyL x).length : Nat) : Int)), (6, iv ((200 * i + q + 2 : Nat) : Int)), (7, iv 1), (8, iv (([] : List Bool).length : Int)), (9, iv 0)]) rfl ⟨rfl, rfl, rfl, rfl, rfl, rfl, rfl, rfl, rfl, trivial⟩ ?_
          have hxd2 := hxd
          rcases hxd2 with ⟨hx1, hx2d⟩ | ⟨hx1, hx2d⟩
          · have hk1 := eK_len (μ := (zm (V A) B)) (t := a) (h := h) (k := κ) (n := n) x.2.2.1 [] 1 hx2d
            obtain ⟨b, hb⟩ : ∃ b, eK (zm (V A) B) a h κ n x.2.2.1 [] = [b] := List.length_eq_one_iff.mp hk1
            have heH : eH (zm (V A) B) a h κ n x.2.2.1 = b := by unfold eH; rw [hb]; rfl
            refine y_mono (lp_truths (V := v_up V 170 23 (-5)) (fh := 1) (st := [b]) (D := 1) (pf := 200 * i + q + 2 + (encT x.2.2.1).length + (em x.2.1).length) (F := 30000 * m + F + 2000) hM (EvM_r hE (fun j _ _ => (congrFun (v_up_row _ _ _ _) j).trans (v_uf_ne (by omega)))) (PkM_r hP (fun j _ _ => (congrFun (v_up_row _ _ _ _) j).trans (v_uf_ne (by omega)))) hpk hA (by rw [v_up_ne (by omega)]; exact hμr) hxo.2.1 300 (200 * i + q + 2) [] x.2.2.1 x.2.1 0 W (by rw [← bodyL_em]; omega) hW ?_ (by rw [← bodyL_em]; omega) hxo.1 hx2d (by decide) trivial (by rw [v_up_ne (by omega)]; exact hb) rfl ⟨fun _ => rfl, fun _ q2 => (by rw [hx1] at q2; cases q2)⟩ (fun W2 hW2 hTR2 => ?_)) (by omega)
            · exact SG_c (v_up_ne (by decide)) (by rw [show 200 * i + q + 2 = 200 * i + q + 1 + 1 by omega]; exact hL4a)
            cases b
            · have htr : W2 179 0 = 0 := hTR2.1.trans (v_b0 (by decide))
              refine y_ld (x := iv 1) rfl rfl (fun d => rfl) ?_
              refine y_zeq rfl rfl rfl (by decide) (fun g40 => absurd g40 (by decide)) (fun g40 => ?_)
              refine y_ld (x := iv 1) rfl rfl (fun d => rfl) ?_
              refine y_zeq rfl rfl rfl (by decide) (fun g41 => absurd g41 (by decide)) (fun g41 => ?_)
              refine y_ld (x := .ref 170) rfl rfl (fun d => rfl) ?_
              refine y_gR (i := 16) rfl rfl rfl (md170 hM) rfl ?_
              refine y_ic rfl rfl ?_
              refine y_bld (x := 0) (q := 0) rfl rfl (md179 hM) (by decide) (by decide) rfl htr ?_
              refine y_zeq rfl rfl rfl (by decide) (fun g42 => ?_) (fun g42 => absurd g42 (by decide))
              refine y_ld (x := iv ((200 * i + q + 2 + (bodyL x).length : Nat) : Int)) rfl rfl (fun d => rfl) ?_
              refine y_st (lv' := [(2, iv ((200 * i + q + 2 + (bodyL x).length : Nat) : Int)), (0, .ref 170), (1, iv (i : Int)), (3, iv ((200 * i + z0 : Nat) : Int)), (4, iv (c : Int)), (5, iv ((200 * i + q + 2 + (bodyL x).length : Nat) : Int)), (6, iv ((200 * i + q + 2 + (encT x.2.2.1).length + (em x.2.1).length : Nat) : Int)), (7, iv 1), (9, iv 1)]) rfl rfl (fun d => rfl) ?_
              refine y_inc (z := ((c + 1 : Nat) : Int)) (lv' := [(4, iv ((c + 1 : Nat) : Int)), (2, iv ((200 * i + q + 2 + (bodyL x).length : Nat) : Int)), (0, .ref 170), (1, iv (i : Int)), (3, iv ((200 * i + z0 : Nat) : Int)), (5, iv ((200 * i + q + 2 + (bodyL x).length : Nat) : Int)), (6, iv ((200 * i + q + 2 + (encT x.2.2.1).length + (em x.2.1).length : Nat) : Int)), (7, iv 1), (9, iv 1)]) rfl rfl rfl (by omega) rfl ?_
              refine y_go rfl rfl ?_
              refine y_lv (l' := [(0, .ref 170), (1, iv (i : Int)), (2, iv ((200 * i + q + 2 + (bodyL x).length : Nat) : Int)), (3, iv ((200 * i + z0 : Nat) : Int)), (4, iv ((c + 1 : Nat) : Int))]) rfl ⟨rfl, rfl, rfl, rfl, rfl, trivial⟩ ?_
              have hne : ¬ eM (zm (V A) B) a h κ n x = true := fun hq => by have hq2 := eM_i.mp hq; first | omega | (rw [heH] at hq2; exact absurd hq2.2 (by decide))
              rw [eL_f hne, show eW a h κ n (x :: r) (zm (V A) B) = eW a h κ n r (zm (V A) B) from if_neg hne] at hx2
              refine y_lv (l' := [(0, .ref 170), (1, iv (i : Int)), (2, iv ((200 * i + (q + (2 + (bodyL x).length)) : Nat) : Int)), (3, iv ((200 * i + z0 : Nat) : Int)), (4, iv ((c + 1 : Nat) : Int))]) rfl ⟨rfl, rfl, congrArg (fun e => some (iv e)) (by omega), rfl, rfl, trivial⟩ ?_
              exact y_mono (ih (q + (2 + (bodyL x).length)) (c + 1) r W2 (by simp only [List.length_cons] at hm1; omega) hW2 (by rw [show 200 * i + (q + (2 + (bodyL x).length)) = 200 * i + q + 1 + 1 + (bodyL x).length by omega]; exact hL4b) (by omega) (by omega) hlor hldr hx2) (by omega)
            · have htr : W2 179 0 = 1 := hTR2.1.trans (v_b1 rfl)
              refine y_ld (x := iv 1) rfl rfl (fun d => rfl) ?_
              refine y_zeq rfl rfl rfl (by decide) (fun g43 => absurd g43 (by decide)) (fun g43 => ?_)
              refine y_ld (x := iv 1) rfl rfl (fun d => rfl) ?_
              refine y_zeq rfl rfl rfl (by decide) (fun g44 => absurd g44 (by decide)) (fun g44 => ?_)
              refine y_ld (x := .ref 170) rfl rfl (fun d => rfl) ?_
              refine y_gR (i := 16) rfl rfl rfl (md170 hM) rfl ?_
              refine y_ic rfl rfl ?_
              refine y_bld (x := 1) (q := 0) rfl rfl (md179 hM) (by decide) (by decide) rfl htr ?_
              refine y_zeq rfl rfl rfl (by decide) (fun g45 => absurd g45 (by decide)) (fun g45 => ?_)
              rw [eL_t (eM_i.mpr ⟨by omega, heH⟩), show eW a h κ n (x :: r) (zm (V A) B) = eA a h κ n x.2.2.2 (zm (V A) B) from if_pos (eM_i.mpr ⟨by omega, heH⟩)] at hx2
              refine y_ld (x := .ref 170) rfl rfl (fun d => rfl) ?_
              refine y_ld (x := iv (c : Int)) rfl rfl (fun d => rfl) ?_
              refine y_pI (i := 23) rfl rfl rfl (md170 hM) rfl rfl ?_
              refine y_ld (x := .ref 170) rfl rfl (fun d => rfl) ?_
              refine y_ld (x := iv ((200 * i + q + 2 + (encT x.2.2.1).length + (em x.2.1).length : Nat) : Int)) rfl rfl (fun d => rfl) ?_
              refine y_ld (x := iv ((200 * i + q + 2 + (bodyL x).length : Nat) : Int)) rfl rfl (fun d => rfl) ?_
              have hw2 : ∀ k, k ≠ 179 → (v_up W2 170 23 (c : Int)) k = v_up V 170 23 (c : Int) k := by
                intro k hk
                by_cases h2 : k = 170
                · subst h2
                  rw [v_up_row, v_up_row, (hW2 170 (by decide)).trans (v_up_row _ _ _ _), v_uf_uf]
                · rw [v_up_ne h2, v_up_ne h2, hW2 k hk, v_up_ne h2]
              have hq170 : (v_up W2 170 23 (c : Int)) 170 = v_uf (V 170) 23 (c : Int) := (hw2 170 (by decide)).trans (v_up_row _ _ _ _)
              have hqA : (v_up W2 170 23 (c : Int)) A = V A := (hw2 A (by omega)).trans (v_up_ne (by omega))
              have hq173 : (v_up W2 170 23 (c : Int)) 173 = V 173 := (hw2 173 (by decide)).trans (v_up_ne (by decide))
              have heb : (bodyL x).length = (encT x.2.2.1).length + ((em x.2.1).length + (encA x.2.2.2).length) := by rw [bodyL_em, List.length_append, List.length_append]
              have hLA := SG_c hq173 (SG_app (SG_app hL4a).2).2
              rw [show 200 * i + q + 1 + 1 + (encT x.2.2.1).length + (em x.2.1).length = 200 * i + q + 2 + (encT x.2.2.1).length + (em x.2.1).length by omega] at hLA
              have hea := eAr_rg a h κ n x.2.2.2 (zm (V A) B)
              have hraw := eA_raw a h κ n x.2.2.2 (zm (V A) B)
              have hVV := WV_eq hw2
              refine y_cV (as := [.ref 170, iv ((200 * i + q + 2 + (encT x.2.2.1).length + (em x.2.1).length : Nat) : Int), iv ((200 * i + q + 2 + (bodyL x).length : Nat) : Int)]) rfl rfl rfl rfl rfl (md170 hM) ⟨rfl, (Nat.le_of_ble_eq_true rfl), (Nat.le_of_ble_eq_true rfl)⟩ (by decide) (ct_acts (R := x.2.2.2) (A := A) (B := B) hM hpk hA (EvM_r hE (fun j _ _ => (congrFun (hq170) j).trans (v_uf_ne (by omega)))) (PkM_r hP (fun j _ _ => (congrFun (hq170) j).trans (v_uf_ne (by omega)))) (by rw [hqA]; exact hμr) hLA rfl ⟨by rw [heb]; omega, by omega⟩ (by omega) hxo.2.1 ?_)
              rw [hqA]
              refine y_nv ?_
              refine y_st (lv' := [(10, iv ((eAr a h κ n x.2.2.2 (zm (V A) B)).1)), (0, .ref 170), (1, iv (i : Int)), (3, iv ((200 * i + z0 : Nat) : Int)), (4, iv (c : Int)), (5, iv ((200 * i + q + 2 + (bodyL x).length : Nat) : Int)), (6, iv ((200 * i + q + 2 + (encT x.2.2.1).length + (em x.2.1).length : Nat) : Int)), (7, iv 1), (9, iv 1)]) rfl rfl (fun d => rfl) ?_
              refine y_ic rfl rfl ?_
              refine y_st (lv' := [(11, iv 0), (10, iv ((eAr a h κ n x.2.2.2 (zm (V A) B)).1)), (0, .ref 170), (1, iv (i : Int)), (3, iv ((200 * i + z0 : Nat) : Int)), (4, iv (c : Int)), (5, iv ((200 * i + q + 2 + (bodyL x).length : Nat) : Int)), (6, iv ((200 * i + q + 2 + (encT x.2.2.1).length + (em x.2.1).length : Nat) : Int)), (7, iv 1), (9, iv 1)]) rfl rfl (fun d => rfl) ?_
              rcases (show (eAr a h κ n x.2.2.2 (zm (V A) B)).1 = 0 ∨ (eAr a h κ n x.2.2.2 (zm (V A) B)).1 = 1 ∨ (eAr a h κ n x.2.2.2 (zm (V A) B)).1 = 2 by omega) with hw | hw | hw
              · rw [hraw.1, hraw.2, hw, if_neg (by decide)] at hx2
                refine y_lv (l' := [(11, iv 0), (10, iv 0), (0, .ref 170), (1, iv (i : Int)), (3, iv ((200 * i + z0 : Nat) : Int)), (4, iv (c : Int)), (5, iv ((200 * i + q + 2 + (bodyL x).length : Nat) : Int)), (6, iv ((200 * i + q + 2 + (encT x.2.2.1).length + (em x.2.1).length : Nat) : Int)), (7, iv 1), (9, iv 1)]) rfl ⟨rfl, congrArg (fun e => some (iv e)) hw, rfl, rfl, rfl, rfl, rfl, rfl, rfl, rfl, trivial⟩ ?_
                refine y_ld (x := iv 0) rfl rfl (fun d => rfl) ?_
                refine y_ic rfl rfl ?_
                refine y_jge rfl rfl rfl (by decide) (fun g46 => absurd g46 (by decide)) (fun g46 => ?_)
                refine y_ld (x := iv 0) rfl rfl (fun d => rfl) ?_
                refine y_ic rfl rfl ?_
                refine y_jne rfl rfl rfl (by decide) (fun g47 => ?_) (fun g47 => absurd g47 (by decide))
                refine y_ld (x := iv 0) rfl rfl (fun d => rfl) ?_
                refine y_rI rfl (Or.inl rfl) ?_
                rw [hVV]
                exact hx2 _
              · rw [hraw.1, hraw.2, hw, if_neg (by decide)] at hx2
                refine y_lv (l' := [(11, iv 0), (10, iv 1), (0, .ref 170), (1, iv (i : Int)), (3, iv ((200 * i + z0 : Nat) : Int)), (4, iv (c : Int)), (5, iv ((200 * i + q + 2 + (bodyL x).length : Nat) : Int)), (6, iv ((200 * i + q + 2 + (encT x.2.2.1).length + (em x.2.1).length : Nat) : Int)), (7, iv 1), (9, iv 1)]) rfl ⟨rfl, congrArg (fun e => some (iv e)) hw, rfl, rfl, rfl, rfl, rfl, rfl, rfl, rfl, trivial⟩ ?_
                refine y_ld (x := iv 0) rfl rfl (fun d => rfl) ?_
                refine y_ic rfl rfl ?_
                refine y_jge rfl rfl rfl (by decide) (fun g48 => absurd g48 (by decide)) (fun g48 => ?_)
                refine y_ld (x := iv 1) rfl rfl (fun d => rfl) ?_
                refine y_ic rfl rfl ?_
                refine y_jne rfl rfl rfl (by decide) (fun g49 => ?_) (fun g49 => absurd g49 (by decide))
                refine y_ld (x := iv 1) rfl rfl (fun d => rfl) ?_
                refine y_rI rfl (Or.inl rfl) ?_
                rw [hVV]
                exact hx2 _
              · rw [hraw.1, hraw.2, hw, if_pos rfl] at hx2
                refine y_lv (l' := [(11, iv 0), (10, iv 2), (0, .ref 170), (1, iv (i : Int)), (3, iv ((200 * i + z0 : Nat) : Int)), (4, iv (c : Int)), (5, iv ((200 * i + q + 2 + (bodyL x).length : Nat) : Int)), (6, iv ((200 * i + q + 2 + (encT x.2.2.1).length + (em x.2.1).length : Nat) : Int)), (7, iv 1), (9, iv 1)]) rfl ⟨rfl, congrArg (fun e => some (iv e)) hw, rfl, rfl, rfl, rfl, rfl, rfl, rfl, rfl, trivial⟩ ?_
                have eat0 : (z_pl (104 - 104) a h).toNat = 4 * a.toNat + 0 := by unfold z_pl; rw [if_pos (by decide)]; omega
                have eat1 : (z_pl (105 - 104) a h).toNat = 4 * a.toNat + 1 := by unfold z_pl; rw [if_pos (by decide)]; omega
                have eat2 : (z_pl (106 - 104) a h).toNat = 4 * a.toNat + 2 := by unfold z_pl; rw [if_pos (by decide)]; omega
                have eat3 : (z_pl (107 - 104) a h).toNat = 4 * a.toNat + 3 := by unfold z_pl; rw [if_pos (by decide)]; omega
                refine y_ld (x := iv 0) rfl rfl (fun d => rfl) ?_
                refine y_ic rfl rfl ?_
                refine y_jge rfl rfl rfl (by decide) (fun g50 => absurd g50 (by decide)) (fun g50 => ?_)
                refine y_ld (x := iv 2) rfl rfl (fun d => rfl) ?_
                refine y_ic rfl rfl ?_
                refine y_jne rfl rfl rfl (by decide) (fun g51 => absurd g51 (by decide)) (fun g51 => ?_)
                refine y_ld (x := .ref 170) rfl rfl (fun d => rfl) ?_
                refine y_bi rfl rfl (by decide) ?_
                refine y_ld (x := iv 0) rfl rfl (fun d => rfl) ?_
                refine y_add (z := 110) rfl rfl rfl ?_
                refine y_iv (e' := mcd 104) (by decide) ?_
                refine y_ic rfl rfl ?_
                refine y_cV (as := [.ref 170, iv (mcd 104), iv 0]) rfl rfl rfl rfl rfl (md170 hM) ⟨rfl, (Nat.le_of_ble_eq_true rfl), (Nat.le_of_ble_eq_true rfl)⟩ (by decide) (ct_becomes (A := A) (B := B) (x := 104) hM (EvM_r hE (fun j _ _ => by rw [v_ur_ne (by omega), congrFun hq170 j]; exact v_uf_ne (by omega))) (PkM_r hP (fun j _ _ => by rw [v_ur_ne (by omega), congrFun hq170 j]; exact v_uf_ne (by omega))) hpk (by decide) ?_)
                rw [eat0, zi_up (by omega)]
                refine y_n0 ?_
                refine y_inc (z := 1) (lv' := [(11, iv 1), (10, iv 2), (0, .ref 170), (1, iv (i : Int)), (3, iv ((200 * i + z0 : Nat) : Int)), (4, iv (c : Int)), (5, iv ((200 * i + q + 2 + (bodyL x).length : Nat) : Int)), (6, iv ((200 * i + q + 2 + (encT x.2.2.1).length + (em x.2.1).length : Nat) : Int)), (7, iv 1), (9, iv 1)]) rfl rfl rfl rfl rfl ?_
                refine y_go rfl rfl ?_
                refine y_ld (x := iv 1) rfl rfl (fun d => rfl) ?_
                refine y_ic rfl rfl ?_
                refine y_jge rfl rfl rfl (by decide) (fun g52 => absurd g52 (by decide)) (fun g52 => ?_)
                refine y_ld (x := iv 2) rfl rfl (fun d => rfl) ?_
                refine y_ic rfl rfl ?_
                refine y_jne rfl rfl rfl (by decide) (fun g53 => absurd g53 (by decide)) (fun g53 => ?_)
                refine y_ld (x := .ref 170) rfl rfl (fun d => rfl) ?_
                refine y_bi rfl rfl (by decide) ?_
                refine y_ld (x := iv 1) rfl rfl (fun d => rfl) ?_
                refine y_add (z := 111) rfl rfl rfl ?_
                refine y_iv (e' := mcd 105) (by decide) ?_
                refine y_ic rfl rfl ?_
                refine y_cV (as := [.ref 170, iv (mcd 105), iv 0]) rfl rfl rfl rfl rfl (md170 hM) ⟨rfl, (Nat.le_of_ble_eq_true rfl), (Nat.le_of_ble_eq_true rfl)⟩ (by decide) (ct_becomes (A := A) (B := B) (x := 105) hM (EvM_r hE (fun j _ _ => by rw [v_ur_ne (by omega), congrFun hq170 j]; exact v_uf_ne (by omega))) (PkM_r hP (fun j _ _ => by rw [v_ur_ne (by omega), congrFun hq170 j]; exact v_uf_ne (by omega))) hpk (by decide) ?_)
                rw [eat1, zi_up (by omega)]
                refine y_n0 ?_
                refine y_inc (z := 2) (lv' := [(11, iv 2), (10, iv 2), (0, .ref 170), (1, iv (i : Int)), (3, iv ((200 * i + z0 : Nat) : Int)), (4, iv (c : Int)), (5, iv ((200 * i + q + 2 + (bodyL x).length : Nat) : Int)), (6, iv ((200 * i + q + 2 + (encT x.2.2.1).length + (em x.2.1).length : Nat) : Int)), (7, iv 1), (9, iv 1)]) rfl rfl rfl rfl rfl ?_
                refine y_go rfl rfl ?_
                refine y_ld (x := iv 2) rfl rfl (fun d => rfl) ?_
                refine y_ic rfl rfl ?_
                refine y_jge rfl rfl rfl (by decide) (fun g54 => absurd g54 (by decide)) (fun g54 => ?_)
                refine y_ld (x := iv 2) rfl rfl (fun d => rfl) ?_
                refine y_ic rfl rfl ?_
                refine y_jne rfl rfl rfl (by decide) (fun g55 => absurd g55 (by decide)) (fun g55 => ?_)
                refine y_ld (x := .ref 170) rfl rfl (fun d => rfl) ?_
                refine y_bi rfl rfl (by decide) ?_
                refine y_ld (x := iv 2) rfl rfl (fun d => rfl) ?_
                refine y_add (z := 112) rfl rfl rfl ?_
                refine y_iv (e' := mcd 106) (by decide) ?_
                refine y_ic rfl rfl ?_
                refine y_cV (as := [.ref 170, iv (mcd 106), iv 0]) rfl rfl rfl rfl rfl (md170 hM) ⟨rfl, (Nat.le_of_ble_eq_true rfl), (Nat.le_of_ble_eq_true rfl)⟩ (by decide) (ct_becomes (A := A) (B := B) (x := 106) hM (EvM_r hE (fun j _ _ => by rw [v_ur_ne (by omega), congrFun hq170 j]; exact v_uf_ne (by omega))) (PkM_r hP (fun j _ _ => by rw [v_ur_ne (by omega), congrFun hq170 j]; exact v_uf_ne (by omega))) hpk (by decide) ?_)
                rw [eat2, zi_up (by omega)]
                refine y_n0 ?_
                refine y_inc (z := 3) (lv' := [(11, iv 3), (10, iv 2), (0, .ref 170), (1, iv (i : Int)), (3, iv ((200 * i + z0 : Nat) : Int)), (4, iv (c : Int)), (5, iv ((200 * i + q + 2 + (bodyL x).length : Nat) : Int)), (6, iv ((200 * i + q + 2 + (encT x.2.2.1).length + (em x.2.1).length : Nat) : Int)), (7, iv 1), (9, iv 1)]) rfl rfl rfl rfl rfl ?_
                refine y_go rfl rfl ?_
                refine y_ld (x := iv 3) rfl rfl (fun d => rfl) ?_
                refine y_ic rfl rfl ?_
                refine y_jge rfl rfl rfl (by decide) (fun g56 => absurd g56 (by decide)) (fun g56 => ?_)
                refine y_ld (x := iv 2) rfl rfl (fun d => rfl) ?_
                refine y_ic rfl rfl ?_
                refine y_jne rfl rfl rfl (by decide) (fun g57 => absurd g57 (by decide)) (fun g57 => ?_)
                refine y_ld (x := .ref 170) rfl rfl (fun d => rfl) ?_
                refine y_bi rfl rfl (by decide) ?_
                refine y_ld (x := iv 3) rfl rfl (fun d => rfl) ?_
                refine y_add (z := 113) rfl rfl rfl ?_
                refine y_iv (e' := mcd 107) (by decide) ?_
                refine y_ic rfl rfl ?_
                refine y_cV (as := [.ref 170, iv (mcd 107), iv 0]) rfl rfl rfl rfl rfl (md170 hM) ⟨rfl, (Nat.le_of_ble_eq_true rfl), (Nat.le_of_ble_eq_true rfl)⟩ (by decide) (ct_becomes (A := A) (B := B) (x := 107) hM (EvM_r hE (fun j _ _ => by rw [v_ur_ne (by omega), congrFun hq170 j]; exact v_uf_ne (by omega))) (PkM_r hP (fun j _ _ => by rw [v_ur_ne (by omega), congrFun hq170 j]; exact v_uf_ne (by omega))) hpk (by decide) ?_)
                rw [eat3, zi_up (by omega)]
                refine y_n0 ?_
                refine y_inc (z := 4) (lv' := [(11, iv 4), (10, iv 2), (0, .ref 170), (1, iv (i : Int)), (3, iv ((200 * i + z0 : Nat) : Int)), (4, iv (c : Int)), (5, iv ((200 * i + q + 2 + (bodyL x).length : Nat) : Int)), (6, iv ((200 * i + q + 2 + (encT x.2.2.1).length + (em x.2.1).length : Nat) : Int)), (7, iv 1), (9, iv 1)]) rfl rfl rfl rfl rfl ?_
                refine y_go rfl rfl ?_
                refine y_ld (x := iv 4) rfl rfl (fun d => rfl) ?_
                refine y_ic rfl rfl ?_
                refine y_jge rfl rfl rfl (by decide) (fun g58 => ?_) (fun g58 => absurd g58 (by decide))
                refine y_ld (x := iv 2) rfl rfl (fun d => rfl) ?_
                refine y_rI rfl (Or.inl rfl) ?_
                rw [z_fl4, hVV]
                exact hx2 _
          · have heH := eH_0 (μ := (zm (V A) B)) (t := a) (h := h) (k := κ) (n := n) hxd hx1
            refine y_mono (lp_truths (V := v_up V 170 23 (-5)) (fh := 0) (st := []) (D := 0) (pf := 200 * i + q + 2 + (encT x.2.2.1).length + (em x.2.1).length) (F := 30000 * m + F + 2000) hM (EvM_r hE (fun j _ _ => (congrFun (v_up_row _ _ _ _) j).trans (v_uf_ne (by omega)))) (PkM_r hP (fun j _ _ => (congrFun (v_up_row _ _ _ _) j).trans (v_uf_ne (by omega)))) hpk hA (by rw [v_up_ne (by omega)]; exact hμr) hxo.2.1 300 (200 * i + q + 2) [] x.2.2.1 x.2.1 0 W (by rw [← bodyL_em]; omega) hW ?_ (by rw [← bodyL_em]; omega) hxo.1 (by rw [hx2d]; exact rfl) (by decide) trivial (by rw [hx2d]; rfl) rfl ⟨fun q2 => (by rcases q2 with q2 | q2; exact absurd hx2d q2; rw [hx1] at q2; cases q2), fun _ _ => rfl⟩ (fun W2 hW2 hTR2 => ?_)) (by omega)
            · exact SG_c (v_up_ne (by decide)) (by rw [show 200 * i + q + 2 = 200 * i + q + 1 + 1 by omega]; exact hL4a)
            refine y_ld (x := iv 1) rfl rfl (fun d => rfl) ?_
            refine y_zeq rfl rfl rfl (by decide) (fun g59 => absurd g59 (by decide)) (fun g59 => ?_)
            refine y_ld (x := iv 0) rfl rfl (fun d => rfl) ?_
            refine y_zeq rfl rfl rfl (by decide) (fun g60 => ?_) (fun g60 => absurd g60 (by decide))
            rw [eL_t (eM_i.mpr ⟨by omega, heH⟩), show eW a h κ n (x :: r) (zm (V A) B) = eA a h κ n x.2.2.2 (zm (V A) B) from if_pos (eM_i.mpr ⟨by omega, heH⟩)] at hx2
            refine y_ld (x := .ref 170) rfl rfl (fun d => rfl) ?_
            refine y_ld (x := iv (c : Int)) rfl rfl (fun d => rfl) ?_
            refine y_pI (i := 23) rfl rfl rfl (md170 hM) rfl rfl ?_
            refine y_ld (x := .ref 170) rfl rfl (fun d => rfl) ?_
            refine y_ld (x := iv ((200 * i + q + 2 + (encT x.2.2.1).length + (em x.2.1).length : Nat) : Int)) rfl rfl (fun d => rfl) ?_
            refine y_ld (x := iv ((200 * i + q + 2 + (bodyL x).length : Nat) : Int)) rfl rfl (fun d => rfl) ?_
            have hw2 : ∀ k, k ≠ 179 → (v_up W2 170 23 (c : Int)) k = v_up V 170 23 (c : Int) k := by
              intro k hk
              by_cases h2 : k = 170
              · subst h2
                rw [v_up_row, v_up_row, (hW2 170 (by decide)).trans (v_up_row _ _ _ _), v_uf_uf]
              · rw [v_up_ne h2, v_up_ne h2, hW2 k hk, v_up_ne h2]
            have hq170 : (v_up W2 170 23 (c : Int)) 170 = v_uf (V 170) 23 (c : Int) := (hw2 170 (by decide)).trans (v_up_row _ _ _ _)
            have hqA : (v_up W2 170 23 (c : Int)) A = V A := (hw2 A (by omega)).trans (v_up_ne (by omega))
            have hq173 : (v_up W2 170 23 (c : Int)) 173 = V 173 := (hw2 173 (by decide)).trans (v_up_ne (by decide))
            have heb : (bodyL x).length = (encT x.2.2.1).length + ((em x.2.1).length + (encA x.2.2.2).length) := by rw [bodyL_em, List.length_append, List.length_append]
            have hLA := SG_c hq173 (SG_app (SG_app hL4a).2).2
            rw [show 200 * i + q + 1 + 1 + (encT x.2.2.1).length + (em x.2.1).length = 200 * i + q + 2 + (encT x.2.2.1).length + (em x.2.1).length by omega] at hLA
            have hea := eAr_rg a h κ n x.2.2.2 (zm (V A) B)
            have hraw := eA_raw a h κ n x.2.2.2 (zm (V A) B)
            have hVV := WV_eq hw2
            refine y_cV (as := [.ref 170, iv ((200 * i + q + 2 + (encT x.2.2.1).length + (em x.2.1).length : Nat) : Int), iv ((200 * i + q + 2 + (bodyL x).length : Nat) : Int)]) rfl rfl rfl rfl rfl (md170 hM) ⟨rfl, (Nat.le_of_ble_eq_true rfl), (Nat.le_of_ble_eq_true rfl)⟩ (by decide) (ct_acts (R := x.2.2.2) (A := A) (B := B) hM hpk hA (EvM_r hE (fun j _ _ => (congrFun (hq170) j).trans (v_uf_ne (by omega)))) (PkM_r hP (fun j _ _ => (congrFun (hq170) j).trans (v_uf_ne (by omega)))) (by rw [hqA]; exact hμr) hLA rfl ⟨by rw [heb]; omega, by omega⟩ (by omega) hxo.2.1 ?_)
            rw [hqA]
            refine y_nv ?_
            refine y_st (lv' := [(10, iv ((eAr a h κ n x.2.2.2 (zm (V A) B)).1)), (0, .ref 170), (1, iv (i : Int)), (3, iv ((200 * i + z0 : Nat) : Int)), (4, iv (c : Int)), (5, iv ((200 * i + q + 2 + (bodyL x).length : Nat) : Int)), (6, iv ((200 * i + q + 2 + (encT x.2.2.1).length + (em x.2.1).length : Nat) : Int)), (7, iv 1), (9, iv 0)]) rfl rfl (fun d => rfl) ?_
            refine y_ic rfl rfl ?_
            refine y_st (lv' := [(11, iv 0), (10, iv ((eAr a h κ n x.2.2.2 (zm (V A) B)).1)), (0, .ref 170), (1, iv (i : Int)), (3, iv ((200 * i + z0 : Nat) : Int)), (4, iv (c : Int)), (5, iv ((200 * i + q + 2 + (bodyL x).length : Nat) : Int)), (6, iv ((200 * i + q + 2 + (encT x.2.2.1).length + (em x.2.1).length : Nat) : Int)), (7, iv 1), (9, iv 0)]) rfl rfl (fun d => rfl) ?_
            rcases (show (eAr a h κ n x.2.2.2 (zm (V A) B)).1 = 0 ∨ (eAr a h κ n x.2.2.2 (zm (V A) B)).1 = 1 ∨ (eAr a h κ n x.2.2.2 (zm (V A) B)).1 = 2 by omega) with hw | hw | hw
            · rw [hraw.1, hraw.2, hw, if_neg (by decide)] at hx2
              refine y_lv (l' := [(11, iv 0), (10, iv 0), (0, .ref 170), (1, iv (i : Int)), (3, iv ((200 * i + z0 : Nat) : Int)), (4, iv (c : Int)), (5, iv ((200 * i + q + 2 + (bodyL x).length : Nat) : Int)), (6, iv ((200 * i + q + 2 + (encT x.2.2.1).length + (em x.2.1).length : Nat) : Int)), (7, iv 1), (9, iv 0)]) rfl ⟨rfl, congrArg (fun e => some (iv e)) hw, rfl, rfl, rfl, rfl, rfl, rfl, rfl, rfl, trivial⟩ ?_
              refine y_ld (x := iv 0) rfl rfl (fun d => rfl) ?_
              refine y_ic rfl rfl ?_
              refine y_jge rfl rfl rfl (by decide) (fun g61 => absurd g61 (by decide)) (fun g61 => ?_)
              refine y_ld (x := iv 0) rfl rfl (fun d => rfl) ?_
              refine y_ic rfl rfl ?_
              refine y_jne rfl rfl rfl (by decide) (fun g62 => ?_) (fun g62 => absurd g62 (by decide))
              refine y_ld (x := iv 0) rfl rfl (fun d => rfl) ?_
              refine y_rI rfl (Or.inl rfl) ?_
              rw [hVV]
              exact hx2 _
            · rw [hraw.1, hraw.2, hw, if_neg (by decide)] at hx2
              refine y_lv (l' := [(11, iv 0), (10, iv 1), (0, .ref 170), (1, iv (i : Int)), (3, iv ((200 * i + z0 : Nat) : Int)), (4, iv (c : Int)), (5, iv ((200 * i + q + 2 + (bodyL x).length : Nat) : Int)), (6, iv ((200 * i + q + 2 + (encT x.2.2.1).length + (em x.2.1).length : Nat) : Int)), (7, iv 1), (9, iv 0)]) rfl ⟨rfl, congrArg (fun e => some (iv e)) hw, rfl, rfl, rfl, rfl, rfl, rfl, rfl, rfl, trivial⟩ ?_
              refine y_ld (x := iv 0) rfl rfl (fun d => rfl) ?_
              refine y_ic rfl rfl ?_
              refine y_jge rfl rfl rfl (by decide) (fun g63 => absurd g63 (by decide)) (fun g63 => ?_)
              refine y_ld (x := iv 1) rfl rfl (fun d => rfl) ?_
              refine y_ic rfl rfl ?_
              refine y_jne rfl rfl rfl (by decide) (fun g64 => ?_) (fun g64 => absurd g64 (by decide))
              refine y_ld (x := iv 1) rfl rfl (fun d => rfl) ?_
              refine y_rI rfl (Or.inl rfl) ?_
              rw [hVV]
              exact hx2 _
            · rw [hraw.1, hraw.2, hw, if_pos rfl] at hx2
              refine y_lv (l' := [(11, iv 0), (10, iv 2), (0, .ref 170), (1, iv (i : Int)), (3, iv ((200 * i + z0 : Nat) : Int)), (4, iv (c : Int)), (5, iv ((200 * i + q + 2 + (bodyL x).length : Nat) : Int)), (6, iv ((200 * i + q + 2 + (encT x.2.2.1).length + (em x.2.1).length : Nat) : Int)), (7, iv 1), (9, iv 0)]) rfl ⟨rfl, congrArg (fun e => some (iv e)) hw, rfl, rfl, rfl, rfl, rfl, rfl, rfl, rfl, trivial⟩ ?_
              have eat0 : (z_pl (104 - 104) a h).toNat = 4 * a.toNat + 0 := by unfold z_pl; rw [if_pos (by decide)]; omega
              have eat1 : (z_pl (105 - 104) a h).toNat = 4 * a.toNat + 1 := by unfold z_pl; rw [if_pos (by decide)]; omega
              have eat2 : (z_pl (106 - 104) a h).toNat = 4 * a.toNat + 2 := by unfold z_pl; rw [if_pos (by decide)]; omega
              have eat3 : (z_pl (107 - 104) a h).toNat = 4 * a.toNat + 3 := by unfold z_pl; rw [if_pos (by decide)]; omega
              refine y_ld (x := iv 0) rfl rfl (fun d => rfl) ?_
              refine y_ic rfl rfl ?_
              refine y_jge rfl rfl rfl (by decide) (fun g65 => absurd g65 (by decide)) (fun g65 => ?_)
              refine y_ld (x := iv 2) rfl rfl (fun d => rfl) ?_
              refine y_ic rfl rfl ?_
              refine y_jne rfl rfl rfl (by decide) (fun g66 => absurd g66 (by decide)) (fun g66 => ?_)
              refine y_ld (x := .ref 170) rfl rfl (fun d => rfl) ?_
              refine y_bi rfl rfl (by decide) ?_
              refine y_ld (x := iv 0) rfl rfl (fun d => rfl) ?_
              refine y_add (z := 110) rfl rfl rfl ?_
              refine y_iv (e' := mcd 104) (by decide) ?_
              refine y_ic rfl rfl ?_
              refine y_cV (as := [.ref 170, iv (mcd 104), iv 0]) rfl rfl rfl rfl rfl (md170 hM) ⟨rfl, (Nat.le_of_ble_eq_true rfl), (Nat.le_of_ble_eq_true rfl)⟩ (by decide) (ct_becomes (A := A) (B := B) (x := 104) hM (EvM_r hE (fun j _ _ => by rw [v_ur_ne (by omega), congrFun hq170 j]; exact v_uf_ne (by omega))) (PkM_r hP (fun j _ _ => by rw [v_ur_ne (by omega), congrFun hq170 j]; exact v_uf_ne (by omega))) hpk (by decide) ?_)
              rw [eat0, zi_up (by omega)]
              refine y_n0 ?_
              refine y_inc (z := 1) (lv' := [(11, iv 1), (10, iv 2), (0, .ref 170), (1, iv (i : Int)), (3, iv ((200 * i + z0 : Nat) : Int)), (4, iv (c : Int)), (5, iv ((200 * i + q + 2 + (bodyL x).length : Nat) : Int)), (6, iv ((200 * i + q + 2 + (encT x.2.2.1).length + (em x.2.1).length : Nat) : Int)), (7, iv 1), (9, iv 0)]) rfl rfl rfl rfl rfl ?_
              refine y_go rfl rfl ?_
              refine y_ld (x := iv 1) rfl rfl (fun d => rfl) ?_
              refine y_ic rfl rfl ?_
              refine y_jge rfl rfl rfl (by decide) (fun g67 => absurd g67 (by decide)) (fun g67 => ?_)
              refine y_ld (x := iv 2) rfl rfl (fun d => rfl) ?_
              refine y_ic rfl rfl ?_
              refine y_jne rfl rfl rfl (by decide) (fun g68 => absurd g68 (by decide)) (fun g68 => ?_)
              refine y_ld (x := .ref 170) rfl rfl (fun d => rfl) ?_
              refine y_bi rfl rfl (by decide) ?_
              refine y_ld (x := iv 1) rfl rfl (fun d => rfl) ?_
              refine y_add (z := 111) rfl rfl rfl ?_
              refine y_iv (e' := mcd 105) (by decide) ?_
              refine y_ic rfl rfl ?_
              refine y_cV (as := [.ref 170, iv (mcd 105), iv 0]) rfl rfl rfl rfl rfl (md170 hM) ⟨rfl, (Nat.le_of_ble_eq_true rfl), (Nat.le_of_ble_eq_true rfl)⟩ (by decide) (ct_becomes (A := A) (B := B) (x := 105) hM (EvM_r hE (fun j _ _ => by rw [v_ur_ne (by omega), congrFun hq170 j]; exact v_uf_ne (by omega))) (PkM_r hP (fun j _ _ => by rw [v_ur_ne (by omega), congrFun hq170 j]; exact v_uf_ne (by omega))) hpk (by decide) ?_)
              rw [eat1, zi_up (by omega)]
              refine y_n0 ?_
              refine y_inc (z := 2) (lv' := [(11, iv 2), (10, iv 2), (0, .ref 170), (1, iv (i : Int)), (3, iv ((200 * i + z0 : Nat) : Int)), (4, iv (c : Int)), (5, iv ((200 * i + q + 2 + (bodyL x).length : Nat) : Int)), (6, iv ((200 * i + q + 2 + (encT x.2.2.1).length + (em x.2.1).length : Nat) : Int)), (7, iv 1), (9, iv 0)]) rfl rfl rfl rfl rfl ?_
              refine y_go rfl rfl ?_
              refine y_ld (x := iv 2) rfl rfl (fun d => rfl) ?_
              refine y_ic rfl rfl ?_
              refine y_jge rfl rfl rfl (by decide) (fun g69 => absurd g69 (by decide)) (fun g69 => ?_)
              refine y_ld (x := iv 2) rfl rfl (fun d => rfl) ?_
              refine y_ic rfl rfl ?_
              refine y_jne rfl rfl rfl (by decide) (fun g70 => absurd g70 (by decide)) (fun g70 => ?_)
              refine y_ld (x := .ref 170) rfl rfl (fun d => rfl) ?_
              refine y_bi rfl rfl (by decide) ?_
              refine y_ld (x := iv 2) rfl rfl (fun d => rfl) ?_
              refine y_add (z := 112) rfl rfl rfl ?_
              refine y_iv (e' := mcd 106) (by decide) ?_
              refine y_ic rfl rfl ?_
              refine y_cV (as := [.ref 170, iv (mcd 106), iv 0]) rfl rfl rfl rfl rfl (md170 hM) ⟨rfl, (Nat.le_of_ble_eq_true rfl), (Nat.le_of_ble_eq_true rfl)⟩ (by decide) (ct_becomes (A := A) (B := B) (x := 106) hM (EvM_r hE (fun j _ _ => by rw [v_ur_ne (by omega), congrFun hq170 j]; exact v_uf_ne (by omega))) (PkM_r hP (fun j _ _ => by rw [v_ur_ne (by omega), congrFun hq170 j]; exact v_uf_ne (by omega))) hpk (by decide) ?_)
              rw [eat2, zi_up (by omega)]
              refine y_n0 ?_
              refine y_inc (z := 3) (lv' := [(11, iv 3), (10, iv 2), (0, .ref 170), (1, iv (i : Int)), (3, iv ((200 * i + z0 : Nat) : Int)), (4, iv (c : Int)), (5, iv ((200 * i + q + 2 + (bodyL x).length : Nat) : Int)), (6, iv ((200 * i + q + 2 + (encT x.2.2.1).length + (em x.2.1).length : Nat) : Int)), (7, iv 1), (9, iv 0)]) rfl rfl rfl rfl rfl ?_
              refine y_go rfl rfl ?_
              refine y_ld (x := iv 3) rfl rfl (fun d => rfl) ?_
              refine y_ic rfl rfl ?_
              refine y_jge rfl rfl rfl (by decide) (fun g71 => absurd g71 (by decide)) (fun g71 => ?_)
              refine y_ld (x := iv 2) rfl rfl (fun d => rfl) ?_
              refine y_ic rfl rfl ?_
              refine y_jne rfl rfl rfl (by decide) (fun g72 => absurd g72 (by decide)) (fun g72 => ?_)
              refine y_ld (x := .ref 170) rfl rfl (fun d => rfl) ?_
              refine y_bi rfl rfl (by decide) ?_
              refine y_ld (x := iv 3) rfl rfl (fun d => rfl) ?_
              refine y_add (z := 113) rfl rfl rfl ?_
              refine y_iv (e' := mcd 107) (by decide) ?_
              refine y_ic rfl rfl ?_
              refine y_cV (as := [.ref 170, iv (mcd 107), iv 0]) rfl rfl rfl rfl rfl (md170 hM) ⟨rfl, (Nat.le_of_ble_eq_true rfl), (Nat.le_of_ble_eq_true rfl)⟩ (by decide) (ct_becomes (A := A) (B := B) (x := 107) hM (EvM_r hE (fun j _ _ => by rw [v_ur_ne (by omega), congrFun hq170 j]; exact v_uf_ne (by omega))) (PkM_r hP (fun j _ _ => by rw [v_ur_ne (by omega), congrFun hq170 j]; exact v_uf_ne (by omega))) hpk (by decide) ?_)
              rw [eat3, zi_up (by omega)]
              refine y_n0 ?_
              refine y_inc (z := 4) (lv' := [(11, iv 4), (10, iv 2), (0, .ref 170), (1, iv (i : Int)), (3, iv ((200 * i + z0 : Nat) : Int)), (4, iv (c : Int)), (5, iv ((200 * i + q + 2 + (bodyL x).length : Nat) : Int)), (6, iv ((200 * i + q + 2 + (encT x.2.2.1).length + (em x.2.1).length : Nat) : Int)), (7, iv 1), (9, iv 0)]) rfl rfl rfl rfl rfl ?_
              refine y_go rfl rfl ?_
              refine y_ld (x := iv 4) rfl rfl (fun d => rfl) ?_
              refine y_ic rfl rfl ?_
              refine y_jge rfl rfl rfl (by decide) (fun g73 => ?_) (fun g73 => absurd g73 (by decide))
              refine y_ld (x := iv 2) rfl rfl (fun d => rfl) ?_
              refine y_rI rfl (Or.inl rfl) ?_
              rw [z_fl4, hVV]
              exact hx2 _
set_option maxRecDepth 100000 in
set_option maxHeartbeats 4000000 in
theorem ct_works (hM : MdS S) {A B : Nat} {a h κ n : Int} (hE : EvM V A B) (hP : PkM V a h κ n) (hpk : pkO a h κ n) (hA : A = 171 ∨ A = 178) (hμr : muO (zm (V A) B)) {i : Nat} {l : List p_Li} (hi : i < 8) (hT : MT V i l) (hz0 : (encP 0 l).length ≤ 200) (hl8 : l.length ≤ 8) (hlo : lsO l) (hld : ∀ x ∈ l, lnO x) (k : ∀ τ, K u w (some (iv (eW a h κ n l (zm (V A) B)).1)) S (v_ur (v_up (v_ur V 179 τ) 170 23 (eL (zm (V A) B) a h κ n 0 l)) A (zi (V A) B (eW a h κ n l (zm (V A) B)).2))) : y_R X 6 132 u w [.ref 170, iv (i : Int)] S V K := by
  refine y_ent (lv' := [(0, .ref 170), (1, iv (i : Int))]) (Nat.le_of_ble_eq_true rfl) rfl ?_
  refine y_si rfl rfl (by decide) ?_
  refine y_ld (x := iv (i : Int)) rfl rfl (fun d => rfl) ?_
  refine y_mul (z := (200 * (i : Int))) rfl rfl rfl ?_
  refine y_st (lv' := [(2, iv (200 * (i : Int))), (0, .ref 170), (1, iv (i : Int))]) rfl rfl (fun d => rfl) ?_
  refine y_ld (x := iv (200 * (i : Int))) rfl rfl (fun d => rfl) ?_
  refine y_ld (x := .ref 170) rfl rfl (fun d => rfl) ?_
  refine y_gR (i := 5) rfl rfl rfl (md170 hM) rfl ?_
  refine y_ld (x := iv (i : Int)) rfl rfl (fun d => rfl) ?_
  refine y_ild (x := ((encP 0 l).length : Int)) (q := i) rfl rfl (md174 hM) (by omega) (by decide) (by omega) hT.1 ?_
  refine y_add (z := ((200 * (i : Int)) + ((encP 0 l).length : Int))) rfl rfl rfl ?_
  refine y_st (lv' := [(3, iv ((200 * (i : Int)) + ((encP 0 l).length : Int))), (2, iv (200 * (i : Int))), (0, .ref 170), (1, iv (i : Int))]) rfl rfl (fun d => rfl) ?_
  refine y_ld (x := .ref 170) rfl rfl (fun d => rfl) ?_
  refine y_bi rfl rfl (by decide) ?_
  refine y_pI (i := 23) rfl rfl rfl (md170 hM) rfl rfl ?_
  refine y_ic rfl rfl ?_
  refine y_st (lv' := [(4, iv 0), (3, iv ((200 * (i : Int)) + ((encP 0 l).length : Int))), (2, iv (200 * (i : Int))), (0, .ref 170), (1, iv (i : Int))]) rfl rfl (fun d => rfl) ?_
  refine y_lv (l' := [(0, .ref 170), (1, iv (i : Int)), (2, iv ((200 * i + 0 : Nat) : Int)), (3, iv ((200 * i + (encP 0 l).length : Nat) : Int)), (4, iv ((0 : Nat) : Int))]) rfl ⟨rfl, rfl, congrArg (fun e => some (iv e)) (by omega), congrArg (fun e => some (iv e)) (by omega), rfl, trivial⟩ ?_
  exact y_mono (lp_works (F := 100) hM hE hP hpk hA hμr (l := l) hi hz0 9 0 0 l (v_up V 170 23 (-5)) (by omega) (fun k _ => rfl) (MT_SG hT) (by omega) (by omega) hlo hld k) (by decide)
end
