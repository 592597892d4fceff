/-! a PROMISE kept: the reference -/
section
variable {X : Nat → List Int32} {u w : Nat} {S : m_H} {V : v_V} {K : v_K}
set_option maxRecDepth 100000 in
set_option maxHeartbeats 4000000 in
theorem lp_isKept (hM : MdS S) {A : Aw} {j : Nat} (hR : RWm V A) (hA : awO j A) (hj : j ≤ 100) {a form N : Int} (ha : 0 ≤ a ∧ a < 16) (hf : 0 ≤ form ∧ form ≤ 4) (hN : 0 ≤ N ∧ N ≤ 99) (h17 : V 170 17 = a) (hop : aOp A a.toNat = true) (hf13 : form = 1 ∨ form = 3) {F : Nat} : ∀ (m : Nat) (t : Nat), 16 - t < m → (t ≤ 16) → (y_E X 0 156 F u w 142 [(0, .ref 170), (1, iv form), (2, iv N), (3, iv (cnA (aOp A) (aHo A) (aHo A a.toNat) 16)), (4, iv (cnA (aOp A) (aNu A) (aNu A a.toNat) 16))] [] S V K) → y_E X 0 156 (80 * m + F) u w 32 [(0, .ref 170), (1, iv form), (2, iv N), (3, iv (cnA (aOp A) (aHo A) (aHo A a.toNat) t)), (4, iv (cnA (aOp A) (aNu A) (aNu A a.toNat) t)), (5, iv (t : Int))] [] S V K := by
  intro m
  induction m with
  | zero => intros; omega
  | succ m ih =>
    intro t hm hI hx2
    refine y_mono (F' := (80 * m + F) + 80) ?_ (by omega)
    refine y_ld (x := iv (t : Int)) rfl rfl (fun d => rfl) ?_
    refine y_bi rfl rfl (by decide) ?_
    refine y_jge rfl rfl rfl (by omega) (fun g1 => ?_) (fun g1 => ?_)
    · obtain rfl : t = 16 := by omega
      refine y_lv (l' := [(0, .ref 170), (1, iv form), (2, iv N), (3, iv (cnA (aOp A) (aHo A) (aHo A a.toNat) 16)), (4, iv (cnA (aOp A) (aNu A) (aNu A a.toNat) 16))]) rfl ⟨rfl, rfl, rfl, rfl, rfl, trivial⟩ ?_
      exact y_mono hx2 (by omega)
    · obtain ⟨g1_, g2_, g3_, g4_, g5_⟩ := hR t (by omega)
      obtain ⟨o1, o2, o3⟩ := hA t (by omega)
      obtain ⟨q1, q2, q3⟩ := hA a.toNat (by omega)
      have hoa := hR a.toNat (by omega)
      have hha := hoa.2.2.2.2 hop
      cases hot : aOp A t
      · refine y_ld (x := .ref 170) rfl rfl (fun d => rfl) ?_
        refine y_gR (i := 29) rfl rfl rfl (md170 hM) rfl ?_
        refine y_ld (x := .ref 170) rfl rfl (fun d => rfl) ?_
        refine y_gI (i := 17) (e := a) rfl rfl rfl (md170 hM) rfl h17 ?_
        refine y_bld (x := 1) (q := a.toNat) rfl rfl (md184 hM) (by omega) (by decide) (by omega) (hoa.2.1.trans (by rw [hop]; rfl)) ?_
        refine y_zeq rfl rfl rfl (by decide) (fun g2 => absurd g2 (by decide)) (fun g2 => ?_)
        refine y_ld (x := iv form) rfl rfl (fun d => rfl) ?_
        refine y_zeq rfl rfl rfl (by omega) (fun g3 => absurd g3 (by omega)) (fun g3 => ?_)
        refine y_ld (x := iv form) rfl rfl (fun d => rfl) ?_
        refine y_ic rfl rfl ?_
        refine y_jeq rfl rfl rfl (by omega) (fun g4 => absurd g4 (by omega)) (fun g4 => ?_)
        refine y_ld (x := iv (cnA (aOp A) (aHo A) (aHo A a.toNat) t)) rfl rfl (fun d => rfl) ?_
        refine y_ld (x := .ref 170) rfl rfl (fun d => rfl) ?_
        refine y_gR (i := 29) rfl rfl rfl (md170 hM) rfl ?_
        refine y_ld (x := iv (t : Int)) rfl rfl (fun d => rfl) ?_
        refine y_bld (x := 0) (q := t) rfl rfl (md184 hM) (by omega) (by decide) (by omega) (g2_.trans (by rw [hot]; rfl)) ?_
        refine y_zeq rfl rfl rfl (by decide) (fun g5 => ?_) (fun g5 => absurd g5 (by decide))
        refine y_ic rfl rfl ?_
        refine y_add (z := ((cnA (aOp A) (aHo A) (aHo A a.toNat) t) + 0)) rfl rfl rfl ?_
        refine y_st (lv' := [(3, iv ((cnA (aOp A) (aHo A) (aHo A a.toNat) t) + 0)), (0, .ref 170), (1, iv form), (2, iv N), (4, iv (cnA (aOp A) (aNu A) (aNu A a.toNat) t)), (5, iv (t : Int))]) rfl rfl (fun d => rfl) ?_
        refine y_ld (x := iv (cnA (aOp A) (aNu A) (aNu A a.toNat) t)) rfl rfl (fun d => rfl) ?_
        refine y_ld (x := .ref 170) rfl rfl (fun d => rfl) ?_
        refine y_gR (i := 29) rfl rfl rfl (md170 hM) rfl ?_
        refine y_ld (x := iv (t : Int)) rfl rfl (fun d => rfl) ?_
        refine y_bld (x := 0) (q := t) rfl rfl (md184 hM) (by omega) (by decide) (by omega) (g2_.trans (by rw [hot]; rfl)) ?_
        refine y_zeq rfl rfl rfl (by decide) (fun g6 => ?_) (fun g6 => absurd g6 (by decide))
        refine y_ic rfl rfl ?_
        refine y_add (z := ((cnA (aOp A) (aNu A) (aNu A a.toNat) t) + 0)) rfl rfl rfl ?_
        refine y_st (lv' := [(4, iv ((cnA (aOp A) (aNu A) (aNu A a.toNat) t) + 0)), (3, iv ((cnA (aOp A) (aHo A) (aHo A a.toNat) t) + 0)), (0, .ref 170), (1, iv form), (2, iv N), (5, iv (t : Int))]) rfl rfl (fun d => rfl) ?_
        refine y_inc (z := ((t + 1 : Nat) : Int)) (lv' := [(5, iv ((t + 1 : Nat) : Int)), (4, iv ((cnA (aOp A) (aNu A) (aNu A a.toNat) t) + 0)), (3, iv ((cnA (aOp A) (aHo A) (aHo A a.toNat) t) + 0)), (0, .ref 170), (1, iv form), (2, iv N)]) rfl rfl rfl (by omega) rfl ?_
        refine y_go rfl rfl ?_
        refine y_lv (l' := [(0, .ref 170), (1, iv form), (2, iv N), (3, iv ((cnA (aOp A) (aHo A) (aHo A a.toNat) t) + 0)), (4, iv ((cnA (aOp A) (aNu A) (aNu A a.toNat) t) + 0)), (5, iv ((t + 1 : Nat) : Int))]) rfl ⟨rfl, rfl, rfl, rfl, rfl, rfl, trivial⟩ ?_
        rw [show (cnA (aOp A) (aHo A) (aHo A a.toNat) t) + 0 = cnA (aOp A) (aHo A) (aHo A a.toNat) (t + 1) from (Int.add_zero _).trans (cnA_0 (op := aOp A) (f := aHo A) (x := aHo A a.toNat) (t := t) (fun q => by rw [hot] at q; exact absurd q.1 (by decide))).symm]
        rw [show (cnA (aOp A) (aNu A) (aNu A a.toNat) t) + 0 = cnA (aOp A) (aNu A) (aNu A a.toNat) (t + 1) from (Int.add_zero _).trans (cnA_0 (op := aOp A) (f := aNu A) (x := aNu A a.toNat) (t := t) (fun q => by rw [hot] at q; exact absurd q.1 (by decide))).symm]
        exact y_mono (ih (t + 1) (by omega) (by omega) hx2) (by omega)
      · have hht := g5_ hot
        refine y_ld (x := .ref 170) rfl rfl (fun d => rfl) ?_
        refine y_gR (i := 29) rfl rfl rfl (md170 hM) rfl ?_
        refine y_ld (x := .ref 170) rfl rfl (fun d => rfl) ?_
        refine y_gI (i := 17) (e := a) rfl rfl rfl (md170 hM) rfl h17 ?_
        refine y_bld (x := 1) (q := a.toNat) rfl rfl (md184 hM) (by omega) (by decide) (by omega) (hoa.2.1.trans (by rw [hop]; rfl)) ?_
        refine y_zeq rfl rfl rfl (by decide) (fun g7 => absurd g7 (by decide)) (fun g7 => ?_)
        refine y_ld (x := iv form) rfl rfl (fun d => rfl) ?_
        refine y_zeq rfl rfl rfl (by omega) (fun g8 => absurd g8 (by omega)) (fun g8 => ?_)
        refine y_ld (x := iv form) rfl rfl (fun d => rfl) ?_
        refine y_ic rfl rfl ?_
        refine y_jeq rfl rfl rfl (by omega) (fun g9 => absurd g9 (by omega)) (fun g9 => ?_)
        refine y_ld (x := iv (cnA (aOp A) (aHo A) (aHo A a.toNat) t)) rfl rfl (fun d => rfl) ?_
        refine y_ld (x := .ref 170) rfl rfl (fun d => rfl) ?_
        refine y_gR (i := 29) rfl rfl rfl (md170 hM) rfl ?_
        refine y_ld (x := iv (t : Int)) rfl rfl (fun d => rfl) ?_
        refine y_bld (x := 1) (q := t) rfl rfl (md184 hM) (by omega) (by decide) (by omega) (g2_.trans (by rw [hot]; rfl)) ?_
        refine y_zeq rfl rfl rfl (by decide) (fun g10 => absurd g10 (by decide)) (fun g10 => ?_)
        refine y_ld (x := .ref 170) rfl rfl (fun d => rfl) ?_
        refine y_gR (i := 31) rfl rfl rfl (md170 hM) rfl ?_
        refine y_ld (x := .ref 170) rfl rfl (fun d => rfl) ?_
        refine y_gI (i := 17) (e := a) rfl rfl rfl (md170 hM) rfl h17 ?_
        refine y_ild (x := (aHo A a.toNat)) (q := a.toNat) rfl rfl (md186 hM) (by omega) (by decide) (by omega) hha.1 ?_
        refine y_ld (x := .ref 170) rfl rfl (fun d => rfl) ?_
        refine y_gR (i := 31) rfl rfl rfl (md170 hM) rfl ?_
        refine y_ld (x := iv (t : Int)) rfl rfl (fun d => rfl) ?_
        refine y_ild (x := (aHo A t)) (q := t) rfl rfl (md186 hM) (by omega) (by decide) (by omega) hht.1 ?_
        refine y_jne rfl rfl rfl (by omega) (fun g11 => ?_) (fun g11 => ?_)
        · refine y_ic rfl rfl ?_
          refine y_add (z := ((cnA (aOp A) (aHo A) (aHo A a.toNat) t) + 0)) rfl rfl rfl ?_
          refine y_st (lv' := [(3, iv ((cnA (aOp A) (aHo A) (aHo A a.toNat) t) + 0)), (0, .ref 170), (1, iv form), (2, iv N), (4, iv (cnA (aOp A) (aNu A) (aNu A a.toNat) t)), (5, iv (t : Int))]) rfl rfl (fun d => rfl) ?_
          refine y_ld (x := iv (cnA (aOp A) (aNu A) (aNu A a.toNat) t)) rfl rfl (fun d => rfl) ?_
          refine y_ld (x := .ref 170) rfl rfl (fun d => rfl) ?_
          refine y_gR (i := 29) rfl rfl rfl (md170 hM) rfl ?_
          refine y_ld (x := iv (t : Int)) rfl rfl (fun d => rfl) ?_
          refine y_bld (x := 1) (q := t) rfl rfl (md184 hM) (by omega) (by decide) (by omega) (g2_.trans (by rw [hot]; rfl)) ?_
          refine y_zeq rfl rfl rfl (by decide) (fun g12 => absurd g12 (by decide)) (fun g12 => ?_)
          refine y_ld (x := .ref 170) rfl rfl (fun d => rfl) ?_
          refine y_gR (i := 32) rfl rfl rfl (md170 hM) rfl ?_
          refine y_ld (x := .ref 170) rfl rfl (fun d => rfl) ?_
          refine y_gI (i := 17) (e := a) rfl rfl rfl (md170 hM) rfl h17 ?_
          refine y_ild (x := (aNu A a.toNat)) (q := a.toNat) rfl rfl (md187 hM) (by omega) (by decide) (by omega) hha.2 ?_
          refine y_ld (x := .ref 170) rfl rfl (fun d => rfl) ?_
          refine y_gR (i := 32) rfl rfl rfl (md170 hM) rfl ?_
          refine y_ld (x := iv (t : Int)) rfl rfl (fun d => rfl) ?_
          refine y_ild (x := (aNu A t)) (q := t) rfl rfl (md187 hM) (by omega) (by decide) (by omega) hht.2 ?_
          refine y_jne rfl rfl rfl (by omega) (fun g13 => ?_) (fun g13 => ?_)
          · refine y_ic rfl rfl ?_
            refine y_add (z := ((cnA (aOp A) (aNu A) (aNu A a.toNat) t) + 0)) rfl rfl rfl ?_
            refine y_st (lv' := [(4, iv ((cnA (aOp A) (aNu A) (aNu A a.toNat) t) + 0)), (3, iv ((cnA (aOp A) (aHo A) (aHo A a.toNat) t) + 0)), (0, .ref 170), (1, iv form), (2, iv N), (5, iv (t : Int))]) rfl rfl (fun d => rfl) ?_
            refine y_inc (z := ((t + 1 : Nat) : Int)) (lv' := [(5, iv ((t + 1 : Nat) : Int)), (4, iv ((cnA (aOp A) (aNu A) (aNu A a.toNat) t) + 0)), (3, iv ((cnA (aOp A) (aHo A) (aHo A a.toNat) t) + 0)), (0, .ref 170), (1, iv form), (2, iv N)]) rfl rfl rfl (by omega) rfl ?_
            refine y_go rfl rfl ?_
            refine y_lv (l' := [(0, .ref 170), (1, iv form), (2, iv N), (3, iv ((cnA (aOp A) (aHo A) (aHo A a.toNat) t) + 0)), (4, iv ((cnA (aOp A) (aNu A) (aNu A a.toNat) t) + 0)), (5, iv ((t + 1 : Nat) : Int))]) rfl ⟨rfl, rfl, rfl, rfl, rfl, rfl, trivial⟩ ?_
            rw [show (cnA (aOp A) (aHo A) (aHo A a.toNat) t) + 0 = cnA (aOp A) (aHo A) (aHo A a.toNat) (t + 1) from (Int.add_zero _).trans (cnA_0 (op := aOp A) (f := aHo A) (x := aHo A a.toNat) (t := t) (fun q => by omega)).symm]
            rw [show (cnA (aOp A) (aNu A) (aNu A a.toNat) t) + 0 = cnA (aOp A) (aNu A) (aNu A a.toNat) (t + 1) from (Int.add_zero _).trans (cnA_0 (op := aOp A) (f := aNu A) (x := aNu A a.toNat) (t := t) (fun q => by omega)).symm]
            exact y_mono (ih (t + 1) (by omega) (by omega) hx2) (by omega)
          · refine y_ic rfl rfl ?_
            refine y_go rfl rfl ?_
            refine y_add (z := ((cnA (aOp A) (aNu A) (aNu A a.toNat) t) + 1)) rfl rfl rfl ?_
            refine y_st (lv' := [(4, iv ((cnA (aOp A) (aNu A) (aNu A a.toNat) t) + 1)), (3, iv ((cnA (aOp A) (aHo A) (aHo A a.toNat) t) + 0)), (0, .ref 170), (1, iv form), (2, iv N), (5, iv (t : Int))]) rfl rfl (fun d => rfl) ?_
            refine y_inc (z := ((t + 1 : Nat) : Int)) (lv' := [(5, iv ((t + 1 : Nat) : Int)), (4, iv ((cnA (aOp A) (aNu A) (aNu A a.toNat) t) + 1)), (3, iv ((cnA (aOp A) (aHo A) (aHo A a.toNat) t) + 0)), (0, .ref 170), (1, iv form), (2, iv N)]) rfl rfl rfl (by omega) rfl ?_
            refine y_go rfl rfl ?_
            refine y_lv (l' := [(0, .ref 170), (1, iv form), (2, iv N), (3, iv ((cnA (aOp A) (aHo A) (aHo A a.toNat) t) + 0)), (4, iv ((cnA (aOp A) (aNu A) (aNu A a.toNat) t) + 1)), (5, iv ((t + 1 : Nat) : Int))]) rfl ⟨rfl, rfl, rfl, rfl, rfl, rfl, trivial⟩ ?_
            rw [show (cnA (aOp A) (aHo A) (aHo A a.toNat) t) + 0 = cnA (aOp A) (aHo A) (aHo A a.toNat) (t + 1) from (Int.add_zero _).trans (cnA_0 (op := aOp A) (f := aHo A) (x := aHo A a.toNat) (t := t) (fun q => by omega)).symm]
            rw [show (cnA (aOp A) (aNu A) (aNu A a.toNat) t) + 1 = cnA (aOp A) (aNu A) (aNu A a.toNat) (t + 1) from (cnA_1 (op := aOp A) (f := aNu A) (x := aNu A a.toNat) (t := t) ⟨hot, by omega⟩).symm]
            exact y_mono (ih (t + 1) (by omega) (by omega) hx2) (by omega)
        · refine y_ic rfl rfl ?_
          refine y_go rfl rfl ?_
          refine y_add (z := ((cnA (aOp A) (aHo A) (aHo A a.toNat) t) + 1)) rfl rfl rfl ?_
          refine y_st (lv' := [(3, iv ((cnA (aOp A) (aHo A) (aHo A a.toNat) t) + 1)), (0, .ref 170), (1, iv form), (2, iv N), (4, iv (cnA (aOp A) (aNu A) (aNu A a.toNat) t)), (5, iv (t : Int))]) rfl rfl (fun d => rfl) ?_
          refine y_ld (x := iv (cnA (aOp A) (aNu A) (aNu A a.toNat) t)) rfl rfl (fun d => rfl) ?_
          refine y_ld (x := .ref 170) rfl rfl (fun d => rfl) ?_
          refine y_gR (i := 29) rfl rfl rfl (md170 hM) rfl ?_
          refine y_ld (x := iv (t : Int)) rfl rfl (fun d => rfl) ?_
          refine y_bld (x := 1) (q := t) rfl rfl (md184 hM) (by omega) (by decide) (by omega) (g2_.trans (by rw [hot]; rfl)) ?_
          refine y_zeq rfl rfl rfl (by decide) (fun g14 => absurd g14 (by decide)) (fun g14 => ?_)
          refine y_ld (x := .ref 170) rfl rfl (fun d => rfl) ?_
          refine y_gR (i := 32) rfl rfl rfl (md170 hM) rfl ?_
          refine y_ld (x := .ref 170) rfl rfl (fun d => rfl) ?_
          refine y_gI (i := 17) (e := a) rfl rfl rfl (md170 hM) rfl h17 ?_
          refine y_ild (x := (aNu A a.toNat)) (q := a.toNat) rfl rfl (md187 hM) (by omega) (by decide) (by omega) hha.2 ?_
          refine y_ld (x := .ref 170) rfl rfl (fun d => rfl) ?_
          refine y_gR (i := 32) rfl rfl rfl (md170 hM) rfl ?_
          refine y_ld (x := iv (t : Int)) rfl rfl (fun d => rfl) ?_
          refine y_ild (x := (aNu A t)) (q := t) rfl rfl (md187 hM) (by omega) (by decide) (by omega) hht.2 ?_
          refine y_jne rfl rfl rfl (by omega) (fun g15 => ?_) (fun g15 => ?_)
          · refine y_ic rfl rfl ?_
            refine y_add (z := ((cnA (aOp A) (aNu A) (aNu A a.toNat) t) + 0)) rfl rfl rfl ?_
            refine y_st (lv' := [(4, iv ((cnA (aOp A) (aNu A) (aNu A a.toNat) t) + 0)), (3, iv ((cnA (aOp A) (aHo A) (aHo A a.toNat) t) + 1)), (0, .ref 170), (1, iv form), (2, iv N), (5, iv (t : Int))]) rfl rfl (fun d => rfl) ?_
            refine y_inc (z := ((t + 1 : Nat) : Int)) (lv' := [(5, iv ((t + 1 : Nat) : Int)), (4, iv ((cnA (aOp A) (aNu A) (aNu A a.toNat) t) + 0)), (3, iv ((cnA (aOp A) (aHo A) (aHo A a.toNat) t) + 1)), (0, .ref 170), (1, iv form), (2, iv N)]) rfl rfl rfl (by omega) rfl ?_
            refine y_go rfl rfl ?_
            refine y_lv (l' := [(0, .ref 170), (1, iv form), (2, iv N), (3, iv ((cnA (aOp A) (aHo A) (aHo A a.toNat) t) + 1)), (4, iv ((cnA (aOp A) (aNu A) (aNu A a.toNat) t) + 0)), (5, iv ((t + 1 : Nat) : Int))]) rfl ⟨rfl, rfl, rfl, rfl, rfl, rfl, trivial⟩ ?_
            rw [show (cnA (aOp A) (aHo A) (aHo A a.toNat) t) + 1 = cnA (aOp A) (aHo A) (aHo A a.toNat) (t + 1) from (cnA_1 (op := aOp A) (f := aHo A) (x := aHo A a.toNat) (t := t) ⟨hot, by omega⟩).symm]
            rw [show (cnA (aOp A) (aNu A) (aNu A a.toNat) t) + 0 = cnA (aOp A) (aNu A) (aNu A a.toNat) (t + 1) from (Int.add_zero _).trans (cnA_0 (op := aOp A) (f := aNu A) (x := aNu A a.toNat) (t := t) (fun q => by omega)).symm]
            exact y_mono (ih (t + 1) (by omega) (by omega) hx2) (by omega)
          · refine y_ic rfl rfl ?_
            refine y_go rfl rfl ?_
            refine y_add (z := ((cnA (aOp A) (aNu A) (aNu A a.toNat) t) + 1)) rfl rfl rfl ?_
            refine y_st (lv' := [(4, iv ((cnA (aOp A) (aNu A) (aNu A a.toNat) t) + 1)), (3, iv ((cnA (aOp A) (aHo A) (aHo A a.toNat) t) + 1)), (0, .ref 170), (1, iv form), (2, iv N), (5, iv (t : Int))]) rfl rfl (fun d => rfl) ?_
            refine y_inc (z := ((t + 1 : Nat) : Int)) (lv' := [(5, iv ((t + 1 : Nat) : Int)), (4, iv ((cnA (aOp A) (aNu A) (aNu A a.toNat) t) + 1)), (3, iv ((cnA (aOp A) (aHo A) (aHo A a.toNat) t) + 1)), (0, .ref 170), (1, iv form), (2, iv N)]) rfl rfl rfl (by omega) rfl ?_
            refine y_go rfl rfl ?_
            refine y_lv (l' := [(0, .ref 170), (1, iv form), (2, iv N), (3, iv ((cnA (aOp A) (aHo A) (aHo A a.toNat) t) + 1)), (4, iv ((cnA (aOp A) (aNu A) (aNu A a.toNat) t) + 1)), (5, iv ((t + 1 : Nat) : Int))]) rfl ⟨rfl, rfl, rfl, rfl, rfl, rfl, trivial⟩ ?_
            rw [show (cnA (aOp A) (aHo A) (aHo A a.toNat) t) + 1 = cnA (aOp A) (aHo A) (aHo A a.toNat) (t + 1) from (cnA_1 (op := aOp A) (f := aHo A) (x := aHo A a.toNat) (t := t) ⟨hot, by omega⟩).symm]
            rw [show (cnA (aOp A) (aNu A) (aNu A a.toNat) t) + 1 = cnA (aOp A) (aNu A) (aNu A a.toNat) (t + 1) from (cnA_1 (op := aOp A) (f := aNu A) (x := aNu A a.toNat) (t := t) ⟨hot, by omega⟩).symm]
            exact y_mono (ih (t + 1) (by omega) (by omega) hx2) (by omega)
set_option maxRecDepth 100000 in
set_option maxHeartbeats 4000000 in
theorem ct_isKept (hM : MdS S) {A : Aw} {j : Nat} (hR : RWm V A) (hA : awO j A) (hj : j ≤ 100) {a form N : Int} (ha : 0 ≤ a ∧ a < 16) (hf : 0 ≤ form ∧ form ≤ 4) (hN : 0 ≤ N ∧ N ≤ 99) (h17 : V 170 17 = a) (k1 : keptM A a form N → K u w (some (iv 1)) S V) (k0 : ¬ keptM A a form N → K u w (some (iv 0)) S V) : y_R X 1 156 u w [.ref 170, iv form, iv N] S V K := by
  refine y_ent (lv' := [(0, .ref 170), (1, iv form), (2, iv N)]) (Nat.le_of_ble_eq_true rfl) rfl ?_
  have hoa := hR a.toNat (by omega)
  obtain ⟨q1, q2, q3⟩ := hA a.toNat (by omega)
  rcases (show form = 0 ∨ form = 1 ∨ form = 2 ∨ form = 3 ∨ form = 4 by omega) with rfl | rfl | rfl | rfl | rfl
  · cases hop : aOp A a.toNat
    · refine y_ld (x := iv 0) rfl rfl (fun d => rfl) ?_
      refine y_ic rfl rfl ?_
      refine y_jne rfl rfl rfl (by decide) (fun g1 => ?_) (fun g1 => absurd g1 (by decide))
      refine y_ic rfl rfl ?_
      refine y_st (lv' := [(3, iv 0), (0, .ref 170), (1, iv 0), (2, iv N)]) rfl rfl (fun d => rfl) ?_
      refine y_ic rfl rfl ?_
      refine y_st (lv' := [(4, iv 0), (3, iv 0), (0, .ref 170), (1, iv 0), (2, iv N)]) rfl rfl (fun d => rfl) ?_
      refine y_ic rfl rfl ?_
      refine y_st (lv' := [(5, iv 0), (4, iv 0), (3, iv 0), (0, .ref 170), (1, iv 0), (2, iv N)]) rfl rfl (fun d => rfl) ?_
      refine y_ld (x := iv 0) rfl rfl (fun d => rfl) ?_
      refine y_bi rfl rfl (by decide) ?_
      refine y_jge rfl rfl rfl (by decide) (fun g2 => absurd g2 (by decide)) (fun g2 => ?_)
      refine y_ld (x := .ref 170) rfl rfl (fun d => rfl) ?_
      refine y_gR (i := 29) rfl rfl rfl (md170 hM) rfl ?_
      refine y_ld (x := .ref 170) rfl rfl (fun d => rfl) ?_
      refine y_gI (i := 17) (e := a) rfl rfl rfl (md170 hM) rfl h17 ?_
      refine y_bld (x := 0) (q := a.toNat) rfl rfl (md184 hM) (by omega) (by decide) (by omega) (hoa.2.1.trans (by rw [hop]; rfl)) ?_
      refine y_zeq rfl rfl rfl (by decide) (fun g3 => ?_) (fun g3 => absurd g3 (by decide))
      refine y_ld (x := iv 0) rfl rfl (fun d => rfl) ?_
      refine y_ic rfl rfl ?_
      refine y_jne rfl rfl rfl (by decide) (fun g4 => ?_) (fun g4 => absurd g4 (by decide))
      refine y_ld (x := iv 0) rfl rfl (fun d => rfl) ?_
      refine y_ic rfl rfl ?_
      refine y_jne rfl rfl rfl (by decide) (fun g5 => ?_) (fun g5 => absurd g5 (by decide))
      refine y_ic rfl rfl ?_
      refine y_go rfl rfl ?_
      refine y_rI rfl (by decide) ?_
      exact k1 ⟨(fun h => absurd h (by decide)), (fun h _ => absurd h (by decide)), (fun h _ => absurd h (by decide))⟩
    · refine y_ld (x := iv 0) rfl rfl (fun d => rfl) ?_
      refine y_ic rfl rfl ?_
      refine y_jne rfl rfl rfl (by decide) (fun g6 => ?_) (fun g6 => absurd g6 (by decide))
      refine y_ic rfl rfl ?_
      refine y_st (lv' := [(3, iv 0), (0, .ref 170), (1, iv 0), (2, iv N)]) rfl rfl (fun d => rfl) ?_
      refine y_ic rfl rfl ?_
      refine y_st (lv' := [(4, iv 0), (3, iv 0), (0, .ref 170), (1, iv 0), (2, iv N)]) rfl rfl (fun d => rfl) ?_
      refine y_ic rfl rfl ?_
      refine y_st (lv' := [(5, iv 0), (4, iv 0), (3, iv 0), (0, .ref 170), (1, iv 0), (2, iv N)]) rfl rfl (fun d => rfl) ?_
      refine y_ld (x := iv 0) rfl rfl (fun d => rfl) ?_
      refine y_bi rfl rfl (by decide) ?_
      refine y_jge rfl rfl rfl (by decide) (fun g7 => absurd g7 (by decide)) (fun g7 => ?_)
      refine y_ld (x := .ref 170) rfl rfl (fun d => rfl) ?_
      refine y_gR (i := 29) rfl rfl rfl (md170 hM) rfl ?_
      refine y_ld (x := .ref 170) rfl rfl (fun d => rfl) ?_
      refine y_gI (i := 17) (e := a) rfl rfl rfl (md170 hM) rfl h17 ?_
      refine y_bld (x := 1) (q := a.toNat) rfl rfl (md184 hM) (by omega) (by decide) (by omega) (hoa.2.1.trans (by rw [hop]; rfl)) ?_
      refine y_zeq rfl rfl rfl (by decide) (fun g8 => absurd g8 (by decide)) (fun g8 => ?_)
      refine y_ld (x := iv 0) rfl rfl (fun d => rfl) ?_
      refine y_zeq rfl rfl rfl (by decide) (fun g9 => ?_) (fun g9 => absurd g9 (by decide))
      refine y_ld (x := iv 0) rfl rfl (fun d => rfl) ?_
      refine y_ic rfl rfl ?_
      refine y_jne rfl rfl rfl (by decide) (fun g10 => ?_) (fun g10 => absurd g10 (by decide))
      refine y_ld (x := iv 0) rfl rfl (fun d => rfl) ?_
      refine y_ic rfl rfl ?_
      refine y_jne rfl rfl rfl (by decide) (fun g11 => ?_) (fun g11 => absurd g11 (by decide))
      refine y_ic rfl rfl ?_
      refine y_go rfl rfl ?_
      refine y_rI rfl (by decide) ?_
      exact k1 ⟨(fun h => absurd h (by decide)), (fun h _ => absurd h (by decide)), (fun h _ => absurd h (by decide))⟩
  · cases hop : aOp A a.toNat
    · refine y_ld (x := iv 1) rfl rfl (fun d => rfl) ?_
      refine y_ic rfl rfl ?_
      refine y_jne rfl rfl rfl (by decide) (fun g12 => ?_) (fun g12 => absurd g12 (by decide))
      refine y_ic rfl rfl ?_
      refine y_st (lv' := [(3, iv 0), (0, .ref 170), (1, iv 1), (2, iv N)]) rfl rfl (fun d => rfl) ?_
      refine y_ic rfl rfl ?_
      refine y_st (lv' := [(4, iv 0), (3, iv 0), (0, .ref 170), (1, iv 1), (2, iv N)]) rfl rfl (fun d => rfl) ?_
      refine y_ic rfl rfl ?_
      refine y_st (lv' := [(5, iv 0), (4, iv 0), (3, iv 0), (0, .ref 170), (1, iv 1), (2, iv N)]) rfl rfl (fun d => rfl) ?_
      refine y_ld (x := iv 0) rfl rfl (fun d => rfl) ?_
      refine y_bi rfl rfl (by decide) ?_
      refine y_jge rfl rfl rfl (by decide) (fun g13 => absurd g13 (by decide)) (fun g13 => ?_)
      refine y_ld (x := .ref 170) rfl rfl (fun d => rfl) ?_
      refine y_gR (i := 29) rfl rfl rfl (md170 hM) rfl ?_
      refine y_ld (x := .ref 170) rfl rfl (fun d => rfl) ?_
      refine y_gI (i := 17) (e := a) rfl rfl rfl (md170 hM) rfl h17 ?_
      refine y_bld (x := 0) (q := a.toNat) rfl rfl (md184 hM) (by omega) (by decide) (by omega) (hoa.2.1.trans (by rw [hop]; rfl)) ?_
      refine y_zeq rfl rfl rfl (by decide) (fun g14 => ?_) (fun g14 => absurd g14 (by decide))
      refine y_ld (x := iv 1) rfl rfl (fun d => rfl) ?_
      refine y_ic rfl rfl ?_
      refine y_jne rfl rfl rfl (by decide) (fun g15 => absurd g15 (by decide)) (fun g15 => ?_)
      refine y_ld (x := iv 0) rfl rfl (fun d => rfl) ?_
      refine y_ld (x := iv N) rfl rfl (fun d => rfl) ?_
      refine y_jgt rfl rfl rfl (by omega) (fun g16 => ?_) (fun g16 => ?_)
      · refine y_ic rfl rfl ?_
        refine y_rI rfl (by decide) ?_
        omega
      · refine y_ld (x := iv 1) rfl rfl (fun d => rfl) ?_
        refine y_ic rfl rfl ?_
        refine y_jne rfl rfl rfl (by decide) (fun g17 => ?_) (fun g17 => absurd g17 (by decide))
        refine y_ic rfl rfl ?_
        refine y_go rfl rfl ?_
        refine y_rI rfl (by decide) ?_
        exact k1 ⟨(fun h => absurd h (by decide)), (fun _ h => by rw [hop] at h; exact absurd h (by decide)), (fun h _ => absurd h (by decide))⟩
    · refine y_ld (x := iv 1) rfl rfl (fun d => rfl) ?_
      refine y_ic rfl rfl ?_
      refine y_jne rfl rfl rfl (by decide) (fun g18 => ?_) (fun g18 => absurd g18 (by decide))
      refine y_ic rfl rfl ?_
      refine y_st (lv' := [(3, iv 0), (0, .ref 170), (1, iv 1), (2, iv N)]) rfl rfl (fun d => rfl) ?_
      refine y_ic rfl rfl ?_
      refine y_st (lv' := [(4, iv 0), (3, iv 0), (0, .ref 170), (1, iv 1), (2, iv N)]) rfl rfl (fun d => rfl) ?_
      refine y_ic rfl rfl ?_
      refine y_st (lv' := [(5, iv 0), (4, iv 0), (3, iv 0), (0, .ref 170), (1, iv 1), (2, iv N)]) rfl rfl (fun d => rfl) ?_
      refine y_lv (l' := [(0, .ref 170), (1, iv 1), (2, iv N), (3, iv (cnA (aOp A) (aHo A) (aHo A a.toNat) 0)), (4, iv (cnA (aOp A) (aNu A) (aNu A a.toNat) 0)), (5, iv ((0 : Nat) : Int))]) rfl ⟨rfl, rfl, rfl, rfl, rfl, rfl, trivial⟩ ?_
      refine y_mono (lp_isKept (F := 100) hM hR hA hj ha (by decide) hN h17 hop (by decide) 17 0 (by omega) (by omega) ?_) (by decide)
      have r1 := cnA_rg (aOp A) (aHo A) (aHo A a.toNat) 16
      have r2 := cnA_rg (aOp A) (aNu A) (aNu A a.toNat) 16
      refine y_ld (x := iv 1) rfl rfl (fun d => rfl) ?_
      refine y_ic rfl rfl ?_
      refine y_jne rfl rfl rfl (by decide) (fun g19 => absurd g19 (by decide)) (fun g19 => ?_)
      refine y_ld (x := iv (cnA (aOp A) (aHo A) (aHo A a.toNat) 16)) rfl rfl (fun d => rfl) ?_
      refine y_ld (x := iv N) rfl rfl (fun d => rfl) ?_
      refine y_jgt rfl rfl rfl (by omega) (fun g20 => ?_) (fun g20 => ?_)
      · refine y_ic rfl rfl ?_
        refine y_rI rfl (by decide) ?_
        exact k0 (fun q => absurd (q.2.1 rfl hop) (by omega))
      · refine y_ld (x := iv 1) rfl rfl (fun d => rfl) ?_
        refine y_ic rfl rfl ?_
        refine y_jne rfl rfl rfl (by decide) (fun g21 => ?_) (fun g21 => absurd g21 (by decide))
        refine y_ic rfl rfl ?_
        refine y_go rfl rfl ?_
        refine y_rI rfl (by decide) ?_
        exact k1 ⟨(fun h => absurd h (by decide)), (fun _ _ => by omega), (fun h _ => absurd h (by decide))⟩
  · refine y_ld (x := iv 2) rfl rfl (fun d => rfl) ?_
    refine y_ic rfl rfl ?_
    refine y_jne rfl rfl rfl (by decide) (fun g22 => absurd g22 (by decide)) (fun g22 => ?_)
    refine y_ld (x := .ref 170) rfl rfl (fun d => rfl) ?_
    refine y_gR (i := 33) rfl rfl rfl (md170 hM) rfl ?_
    refine y_ld (x := .ref 170) rfl rfl (fun d => rfl) ?_
    refine y_gI (i := 17) (e := a) rfl rfl rfl (md170 hM) rfl h17 ?_
    refine y_ild (x := (aPa A a.toNat)) (q := a.toNat) rfl rfl (md188 hM) (by omega) (by decide) (by omega) hoa.2.2.2.1 ?_
    refine y_ld (x := iv N) rfl rfl (fun d => rfl) ?_
    refine y_jgt rfl rfl rfl (by omega) (fun g23 => ?_) (fun g23 => ?_)
    · refine y_ic rfl rfl ?_
      refine y_rI rfl (by decide) ?_
      exact k0 (fun q => absurd (q.1 rfl) (by omega))
    · refine y_ic rfl rfl ?_
      refine y_go rfl rfl ?_
      refine y_rI rfl (by decide) ?_
      exact k1 ⟨(fun _ => by omega), (fun h _ => absurd h (by decide)), (fun h _ => absurd h (by decide))⟩
  · cases hop : aOp A a.toNat
    · refine y_ld (x := iv 3) rfl rfl (fun d => rfl) ?_
      refine y_ic rfl rfl ?_
      refine y_jne rfl rfl rfl (by decide) (fun g24 => ?_) (fun g24 => absurd g24 (by decide))
      refine y_ic rfl rfl ?_
      refine y_st (lv' := [(3, iv 0), (0, .ref 170), (1, iv 3), (2, iv N)]) rfl rfl (fun d => rfl) ?_
      refine y_ic rfl rfl ?_
      refine y_st (lv' := [(4, iv 0), (3, iv 0), (0, .ref 170), (1, iv 3), (2, iv N)]) rfl rfl (fun d => rfl) ?_
      refine y_ic rfl rfl ?_
      refine y_st (lv' := [(5, iv 0), (4, iv 0), (3, iv 0), (0, .ref 170), (1, iv 3), (2, iv N)]) rfl rfl (fun d => rfl) ?_
      refine y_ld (x := iv 0) rfl rfl (fun d => rfl) ?_
      refine y_bi rfl rfl (by decide) ?_
      refine y_jge rfl rfl rfl (by decide) (fun g25 => absurd g25 (by decide)) (fun g25 => ?_)
      refine y_ld (x := .ref 170) rfl rfl (fun d => rfl) ?_
      refine y_gR (i := 29) rfl rfl rfl (md170 hM) rfl ?_
      refine y_ld (x := .ref 170) rfl rfl (fun d => rfl) ?_
      refine y_gI (i := 17) (e := a) rfl rfl rfl (md170 hM) rfl h17 ?_
      refine y_bld (x := 0) (q := a.toNat) rfl rfl (md184 hM) (by omega) (by decide) (by omega) (hoa.2.1.trans (by rw [hop]; rfl)) ?_
      refine y_zeq rfl rfl rfl (by decide) (fun g26 => ?_) (fun g26 => absurd g26 (by decide))
      refine y_ld (x := iv 3) rfl rfl (fun d => rfl) ?_
      refine y_ic rfl rfl ?_
      refine y_jne rfl rfl rfl (by decide) (fun g27 => ?_) (fun g27 => absurd g27 (by decide))
      refine y_ld (x := iv 3) rfl rfl (fun d => rfl) ?_
      refine y_ic rfl rfl ?_
      refine y_jne rfl rfl rfl (by decide) (fun g28 => absurd g28 (by decide)) (fun g28 => ?_)
      refine y_ld (x := iv 0) rfl rfl (fun d => rfl) ?_
      refine y_ic rfl rfl ?_
      refine y_jgt rfl rfl rfl (by decide) (fun g29 => absurd g29 (by decide)) (fun g29 => ?_)
      refine y_ic rfl rfl ?_
      refine y_go rfl rfl ?_
      refine y_rI rfl (by decide) ?_
      exact k1 ⟨(fun h => absurd h (by decide)), (fun h _ => absurd h (by decide)), (fun _ h => by rw [hop] at h; exact absurd h (by decide))⟩
    · refine y_ld (x := iv 3) rfl rfl (fun d => rfl) ?_
      refine y_ic rfl rfl ?_
      refine y_jne rfl rfl rfl (by decide) (fun g30 => ?_) (fun g30 => absurd g30 (by decide))
      refine y_ic rfl rfl ?_
      refine y_st (lv' := [(3, iv 0), (0, .ref 170), (1, iv 3), (2, iv N)]) rfl rfl (fun d => rfl) ?_
      refine y_ic rfl rfl ?_
      refine y_st (lv' := [(4, iv 0), (3, iv 0), (0, .ref 170), (1, iv 3), (2, iv N)]) rfl rfl (fun d => rfl) ?_
      refine y_ic rfl rfl ?_
      refine y_st (lv' := [(5, iv 0), (4, iv 0), (3, iv 0), (0, .ref 170), (1, iv 3), (2, iv N)]) rfl rfl (fun d => rfl) ?_
      refine y_lv (l' := [(0, .ref 170), (1, iv 3), (2, iv N), (3, iv (cnA (aOp A) (aHo A) (aHo A a.toNat) 0)), (4, iv (cnA (aOp A) (aNu A) (aNu A a.toNat) 0)), (5, iv ((0 : Nat) : Int))]) rfl ⟨rfl, rfl, rfl, rfl, rfl, rfl, trivial⟩ ?_
      refine y_mono (lp_isKept (F := 100) hM hR hA hj ha (by decide) hN h17 hop (by decide) 17 0 (by omega) (by omega) ?_) (by decide)
      have r1 := cnA_rg (aOp A) (aHo A) (aHo A a.toNat) 16
      have r2 := cnA_rg (aOp A) (aNu A) (aNu A a.toNat) 16
      refine y_ld (x := iv 3) rfl rfl (fun d => rfl) ?_
      refine y_ic rfl rfl ?_
      refine y_jne rfl rfl rfl (by decide) (fun g31 => ?_) (fun g31 => absurd g31 (by decide))
      refine y_ld (x := iv 3) rfl rfl (fun d => rfl) ?_
      refine y_ic rfl rfl ?_
      refine y_jne rfl rfl rfl (by decide) (fun g32 => absurd g32 (by decide)) (fun g32 => ?_)
      refine y_ld (x := iv (cnA (aOp A) (aNu A) (aNu A a.toNat) 16)) rfl rfl (fun d => rfl) ?_
      refine y_ic rfl rfl ?_
      refine y_jgt rfl rfl rfl (by omega) (fun g33 => ?_) (fun g33 => ?_)
      · refine y_ic rfl rfl ?_
        refine y_rI rfl (by decide) ?_
        exact k0 (fun q => absurd (q.2.2 rfl hop) (by omega))
      · refine y_ic rfl rfl ?_
        refine y_go rfl rfl ?_
        refine y_rI rfl (by decide) ?_
        exact k1 ⟨(fun h => absurd h (by decide)), (fun h _ => absurd h (by decide)), (fun _ _ => by omega)⟩
  · cases hop : aOp A a.toNat
    · refine y_ld (x := iv 4) rfl rfl (fun d => rfl) ?_
      refine y_ic rfl rfl ?_
      refine y_jne rfl rfl rfl (by decide) (fun g34 => ?_) (fun g34 => absurd g34 (by decide))
      refine y_ic rfl rfl ?_
      refine y_st (lv' := [(3, iv 0), (0, .ref 170), (1, iv 4), (2, iv N)]) rfl rfl (fun d => rfl) ?_
      refine y_ic rfl rfl ?_
      refine y_st (lv' := [(4, iv 0), (3, iv 0), (0, .ref 170), (1, iv 4), (2, iv N)]) rfl rfl (fun d => rfl) ?_
      refine y_ic rfl rfl ?_
      refine y_st (lv' := [(5, iv 0), (4, iv 0), (3, iv 0), (0, .ref 170), (1, iv 4), (2, iv N)]) rfl rfl (fun d => rfl) ?_
      refine y_ld (x := iv 0) rfl rfl (fun d => rfl) ?_
      refine y_bi rfl rfl (by decide) ?_
      refine y_jge rfl rfl rfl (by decide) (fun g35 => absurd g35 (by decide)) (fun g35 => ?_)
      refine y_ld (x := .ref 170) rfl rfl (fun d => rfl) ?_
      refine y_gR (i := 29) rfl rfl rfl (md170 hM) rfl ?_
      refine y_ld (x := .ref 170) rfl rfl (fun d => rfl) ?_
      refine y_gI (i := 17) (e := a) rfl rfl rfl (md170 hM) rfl h17 ?_
      refine y_bld (x := 0) (q := a.toNat) rfl rfl (md184 hM) (by omega) (by decide) (by omega) (hoa.2.1.trans (by rw [hop]; rfl)) ?_
      refine y_zeq rfl rfl rfl (by decide) (fun g36 => ?_) (fun g36 => absurd g36 (by decide))
      refine y_ld (x := iv 4) rfl rfl (fun d => rfl) ?_
      refine y_ic rfl rfl ?_
      refine y_jne rfl rfl rfl (by decide) (fun g37 => ?_) (fun g37 => absurd g37 (by decide))
      refine y_ld (x := iv 4) rfl rfl (fun d => rfl) ?_
      refine y_ic rfl rfl ?_
      refine y_jne rfl rfl rfl (by decide) (fun g38 => ?_) (fun g38 => absurd g38 (by decide))
      refine y_ic rfl rfl ?_
      refine y_go rfl rfl ?_
      refine y_rI rfl (by decide) ?_
      exact k1 ⟨(fun h => absurd h (by decide)), (fun h _ => absurd h (by decide)), (fun h _ => absurd h (by decide))⟩
    · refine y_ld (x := iv 4) rfl rfl (fun d => rfl) ?_
      refine y_ic rfl rfl ?_
      refine y_jne rfl rfl rfl (by decide) (fun g39 => ?_) (fun g39 => absurd g39 (by decide))
      refine y_ic rfl rfl ?_
      refine y_st (lv' := [(3, iv 0), (0, .ref 170), (1, iv 4), (2, iv N)]) rfl rfl (fun d => rfl) ?_
      refine y_ic rfl rfl ?_
      refine y_st (lv' := [(4, iv 0), (3, iv 0), (0, .ref 170), (1, iv 4), (2, iv N)]) rfl rfl (fun d => rfl) ?_
      refine y_ic rfl rfl ?_
      refine y_st (lv' := [(5, iv 0), (4, iv 0), (3, iv 0), (0, .ref 170), (1, iv 4), (2, iv N)]) rfl rfl (fun d => rfl) ?_
      refine y_ld (x := iv 0) rfl rfl (fun d => rfl) ?_
      refine y_bi rfl rfl (by decide) ?_
      refine y_jge rfl rfl rfl (by decide) (fun g40 => absurd g40 (by decide)) (fun g40 => ?_)
      refine y_ld (x := .ref 170) rfl rfl (fun d => rfl) ?_
      refine y_gR (i := 29) rfl rfl rfl (md170 hM) rfl ?_
      refine y_ld (x := .ref 170) rfl rfl (fun d => rfl) ?_
      refine y_gI (i := 17) (e := a) rfl rfl rfl (md170 hM) rfl h17 ?_
      refine y_bld (x := 1) (q := a.toNat) rfl rfl (md184 hM) (by omega) (by decide) (by omega) (hoa.2.1.trans (by rw [hop]; rfl)) ?_
      refine y_zeq rfl rfl rfl (by decide) (fun g41 => absurd g41 (by decide)) (fun g41 => ?_)
      refine y_ld (x := iv 4) rfl rfl (fun d => rfl) ?_
      refine y_zeq rfl rfl rfl (by decide) (fun g42 => absurd g42 (by decide)) (fun g42 => ?_)
      refine y_ld (x := iv 4) rfl rfl (fun d => rfl) ?_
      refine y_ic rfl rfl ?_
      refine y_jeq rfl rfl rfl (by decide) (fun g43 => ?_) (fun g43 => absurd g43 (by decide))
      refine y_ld (x := iv 4) rfl rfl (fun d => rfl) ?_
      refine y_ic rfl rfl ?_
      refine y_jne rfl rfl rfl (by decide) (fun g44 => ?_) (fun g44 => absurd g44 (by decide))
      refine y_ld (x := iv 4) rfl rfl (fun d => rfl) ?_
      refine y_ic rfl rfl ?_
      refine y_jne rfl rfl rfl (by decide) (fun g45 => ?_) (fun g45 => absurd g45 (by decide))
      refine y_ic rfl rfl ?_
      refine y_go rfl rfl ?_
      refine y_rI rfl (by decide) ?_
      exact k1 ⟨(fun h => absurd h (by decide)), (fun h _ => absurd h (by decide)), (fun h _ => absurd h (by decide))⟩
end
