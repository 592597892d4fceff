/-! what a TEXT does with a packet: the reference -/
/-- a MEMORY of the reference: the row A from B on -/
def zm (f : Nat → Int) (B : Nat) : Nat → Int := fun p => f (B + p)
def zi (f : Nat → Int) (B : Nat) (g : Nat → Int) : Nat → Int := fun j => if B ≤ j ∧ j < B + 84 then g (j - B) else f j
theorem zm_zi {f g : Nat → Int} {B p : Nat} (h : p < 84) : zm (zi f B g) B p = g p := by
  unfold zm zi
  rw [if_pos (by omega), show B + p - B = p by omega]
theorem zi_zm (f : Nat → Int) (B : Nat) : zi f B (zm f B) = f := by
  funext j
  unfold zi zm
  split
  · rw [show B + (j - B) = j by omega]
  · rfl
theorem zm_uf (f : Nat → Int) (B q : Nat) (v : Int) : zm (v_uf f (B + q) v) B = v_uf (zm f B) q v := by
  funext p
  unfold zm v_uf
  by_cases h : p = q
  · rw [if_pos (by omega), if_pos h]
  · rw [if_neg (by omega), if_neg h]
theorem zi_uf {f g : Nat → Int} {B q : Nat} {v : Int} (hq : q < 84) : zi (v_uf f (B + q) v) B g = zi f B g := by
  funext j
  unfold zi
  split
  · rfl
  · exact v_uf_ne (by omega)
theorem zi_out {f g : Nat → Int} {B j : Nat} (h : j < B ∨ B + 84 ≤ j) : zi f B g j = f j := if_neg (by omega)
def PkM (V : v_V) (a h κ n : Int) : Prop := V 170 17 = a ∧ V 170 18 = h ∧ V 170 19 = κ ∧ V 170 20 = n
/-- whose MEMORY is meant -/
def EvM (V : v_V) (A B : Nat) : Prop := V 170 22 = (B : Int) ∧ ((V 170 21 = 0 ∧ A = 171 ∧ B + 84 ≤ 1800) ∨ (V 170 21 = 1 ∧ A = 178 ∧ B + 84 ≤ 336))
theorem PkM_r {V V' : v_V} {a h κ n : Int} (hp : PkM V a h κ n) (e : ∀ i, 17 ≤ i → i ≤ 20 → V' 170 i = V 170 i) : PkM V' a h κ n :=
  ⟨(e 17 (by decide) (by decide)).trans hp.1, (e 18 (by decide) (by decide)).trans hp.2.1, (e 19 (by decide) (by decide)).trans hp.2.2.1, (e 20 (by decide) (by decide)).trans hp.2.2.2⟩
theorem EvM_r {V V' : v_V} {A B : Nat} (hp : EvM V A B) (e : ∀ i, 21 ≤ i → i ≤ 22 → V' 170 i = V 170 i) : EvM V' A B := by
  unfold EvM at *
  rw [e 22 (by decide) (by decide), e 21 (by decide) (by decide)]
  exact hp
theorem mcd_pl {c t h : Int} (h1 : 104 ≤ c ∧ c ≤ 115) : z_pl (c - 104) t h = if mcd c < 120 then 4 * t + mcd c - 110 else if mcd c < 130 then 64 + 4 * h + mcd c - 120 else 80 + mcd c - 130 := by
  by_cases h2 : c < 108
  · have e : mcd c = c + 6 := by unfold mcd; rw [if_neg (by omega), if_pos h2]
    rw [e]; unfold z_pl; rw [if_pos (by omega), if_pos (by omega)]; omega
  by_cases h3 : c < 112
  · have e : mcd c = c + 12 := by unfold mcd; rw [if_neg (by omega), if_neg h2, if_pos h3]
    rw [e]; unfold z_pl; rw [if_neg (by omega), if_pos (by omega), if_neg (by omega), if_pos (by omega)]; omega
  · have e : mcd c = c + 18 := by unfold mcd; rw [if_neg (by omega), if_neg h2, if_neg h3]
    rw [e]; unfold z_pl; rw [if_neg (by omega), if_neg (by omega), if_neg (by omega), if_neg (by omega)]; omega
theorem mcd_cell {c : Int} (h1 : 104 ≤ c ∧ c ≤ 115) : 110 ≤ mcd c ∧ mcd c ≤ 133 := by
  unfold mcd
  rw [if_neg (by omega)]
  split
  · omega
  · split <;> omega
theorem mcd_lo {c : Int} (h1 : c < 104) : mcd c = c := if_pos h1
section
variable {X : Nat → List Int32} {u w : Nat} {S : m_H} {V : v_V} {K : v_K}
set_option maxRecDepth 100000 in
set_option maxHeartbeats 4000000 in
theorem ct_place (hM : MdS S) {A B : Nat} {a h κ n : Int} (hE : EvM V A B) (hP : PkM V a h κ n) (hpk : pkO a h κ n) {x : Int} (hx : 104 ≤ x ∧ x ≤ 115) (k : K u w (some (iv ((B : Int) + z_pl (x - 104) a h))) S V) : y_R X 1 127 u w [.ref 170, iv (mcd x)] S V K := by
  have hpo := hpk
  obtain ⟨p1, p2, p3, p4⟩ := hpo
  have hB : B + 84 ≤ 1800 := by have := hE.2; omega
  have hmc := mcd_cell hx
  refine y_ent (lv' := [(0, .ref 170), (1, iv (mcd x))]) (Nat.le_of_ble_eq_true rfl) rfl ?_
  refine y_ld (x := .ref 170) rfl rfl (fun d => rfl) ?_
  refine y_gI (i := 22) (e := (B : Int)) rfl rfl rfl (md170 hM) rfl hE.1 ?_
  refine y_ld (x := iv (mcd x)) rfl rfl (fun d => rfl) ?_
  refine y_bi rfl rfl (by decide) ?_
  refine y_jge rfl rfl rfl (by omega) (fun g1 => ?_) (fun g1 => ?_)
  · refine y_ld (x := iv (mcd x)) rfl rfl (fun d => rfl) ?_
    refine y_si rfl rfl (by decide) ?_
    refine y_jge rfl rfl rfl (by omega) (fun g2 => ?_) (fun g2 => ?_)
    · refine y_bi rfl rfl (by decide) ?_
      refine y_ld (x := iv (mcd x)) rfl rfl (fun d => rfl) ?_
      refine y_add (z := (80 + (mcd x))) rfl rfl rfl ?_
      refine y_si rfl rfl (by decide) ?_
      refine y_sub (z := ((80 + (mcd x)) - 130)) rfl rfl rfl ?_
      refine y_add (z := ((B : Int) + ((80 + (mcd x)) - 130))) rfl rfl rfl ?_
      refine y_rI rfl (Or.inl rfl) ?_
      have e := mcd_pl (t := a) (h := h) hx
      rw [if_neg (by omega), if_neg (by omega)] at e
      have e2 : (B : Int) + ((80 + (mcd x)) - 130) = (B : Int) + z_pl (x - 104) a h := by omega
      rwa [e2]
    · refine y_bi rfl rfl (by decide) ?_
      refine y_ic rfl rfl ?_
      refine y_ld (x := .ref 170) rfl rfl (fun d => rfl) ?_
      refine y_gI (i := 18) (e := h) rfl rfl rfl (md170 hM) rfl hP.2.1 ?_
      refine y_mul (z := (4 * h)) rfl rfl rfl ?_
      refine y_add (z := (64 + (4 * h))) rfl rfl rfl ?_
      refine y_ld (x := iv (mcd x)) rfl rfl (fun d => rfl) ?_
      refine y_add (z := ((64 + (4 * h)) + (mcd x))) rfl rfl rfl ?_
      refine y_bi rfl rfl (by decide) ?_
      refine y_sub (z := (((64 + (4 * h)) + (mcd x)) - 120)) rfl rfl rfl ?_
      refine y_go rfl rfl ?_
      refine y_add (z := ((B : Int) + (((64 + (4 * h)) + (mcd x)) - 120))) rfl rfl rfl ?_
      refine y_rI rfl (Or.inl rfl) ?_
      have e := mcd_pl (t := a) (h := h) hx
      rw [if_neg (by omega), if_pos (by omega)] at e
      have e2 : (B : Int) + (((64 + (4 * h)) + (mcd x)) - 120) = (B : Int) + z_pl (x - 104) a h := by omega
      rwa [e2]
  · refine y_ic rfl rfl ?_
    refine y_ld (x := .ref 170) rfl rfl (fun d => rfl) ?_
    refine y_gI (i := 17) (e := a) rfl rfl rfl (md170 hM) rfl hP.1 ?_
    refine y_mul (z := (4 * a)) rfl rfl rfl ?_
    refine y_ld (x := iv (mcd x)) rfl rfl (fun d => rfl) ?_
    refine y_add (z := ((4 * a) + (mcd x))) rfl rfl rfl ?_
    refine y_bi rfl rfl (by decide) ?_
    refine y_sub (z := (((4 * a) + (mcd x)) - 110)) rfl rfl rfl ?_
    refine y_go rfl rfl ?_
    refine y_add (z := ((B : Int) + (((4 * a) + (mcd x)) - 110))) rfl rfl rfl ?_
    refine y_rI rfl (Or.inl rfl) ?_
    have e := mcd_pl (t := a) (h := h) hx
    rw [if_pos (by omega)] at e
    have e2 : (B : Int) + (((4 * a) + (mcd x)) - 110) = (B : Int) + z_pl (x - 104) a h := by omega
    rwa [e2]
set_option maxRecDepth 100000 in
set_option maxHeartbeats 4000000 in
theorem ct_value (hM : MdS S) {A B : Nat} {a h κ n : Int} (hE : EvM V A B) (hP : PkM V a h κ n) (hpk : pkO a h κ n) {x : Int} (hx : tcd x) (k : K u w (some (iv (eV (zm (V A) B) a h κ n x))) S V) : y_R X 2 128 u w [.ref 170, iv (mcd x)] S V K := by
  have hpo := hpk
  obtain ⟨p1, p2, p3, p4⟩ := hpo
  have hB : B + 84 ≤ 1800 := by have := hE.2; omega
  have hmc := mcd_rg hx
  refine y_ent (lv' := [(0, .ref 170), (1, iv (mcd x))]) (Nat.le_of_ble_eq_true rfl) rfl ?_
  refine y_ld (x := iv (mcd x)) rfl rfl (fun d => rfl) ?_
  refine y_bi rfl rfl (by decide) ?_
  refine y_jge rfl rfl rfl (by omega) (fun g1 => ?_) (fun g1 => ?_)
  · refine y_ld (x := iv (mcd x)) rfl rfl (fun d => rfl) ?_
    refine y_bi rfl rfl (by decide) ?_
    refine y_jge rfl rfl rfl (by omega) (fun g2 => ?_) (fun g2 => ?_)
    · have hx4 : 104 ≤ x ∧ x ≤ 115 := by have := (mcd_rg hx).2.2.2.2; unfold tcd at hx; omega
      have hz := tcd_pl hx hpk (by omega)
      have hE2 := hE.2
      rcases hE2 with ⟨hq, rfl, hN⟩ | ⟨hq, rfl, hN⟩
      · refine y_ld (x := .ref 170) rfl rfl (fun d => rfl) ?_
        refine y_gI (i := 21) (e := 0) rfl rfl rfl (md170 hM) rfl hq ?_
        refine y_zeq rfl rfl rfl (by decide) (fun g3 => ?_) (fun g3 => absurd g3 (by decide))
        refine y_ld (x := .ref 170) rfl rfl (fun d => rfl) ?_
        refine y_gR (i := 1) rfl rfl rfl (md170 hM) rfl ?_
        refine y_ld (x := .ref 170) rfl rfl (fun d => rfl) ?_
        refine y_ld (x := iv (mcd x)) rfl rfl (fun d => rfl) ?_
        refine y_cV (as := [.ref 170, iv (mcd x)]) rfl rfl rfl rfl rfl (md170 hM) ⟨rfl, (Nat.le_of_ble_eq_true rfl), (Nat.le_of_ble_eq_true rfl)⟩ (by decide) (ct_place hM hE hP hpk hx4 ?_)
        refine y_nv ?_
        refine y_ild (x := (V 171 (B + (z_pl (x - 104) a h).toNat))) (q := (B + (z_pl (x - 104) a h).toNat)) rfl rfl (md171 hM) (by omega) (by decide) (by omega) rfl ?_
        refine y_rI rfl (Or.inl rfl) ?_
        have e : eV (zm (V 171) B) a h κ n x = V 171 (B + (z_pl (x - 104) a h).toNat) := by
          unfold eV
          rw [if_neg (by omega), if_neg (by omega), if_neg (by omega), if_neg (by omega)]
          rfl
        rwa [e] at k
      · refine y_ld (x := .ref 170) rfl rfl (fun d => rfl) ?_
        refine y_gI (i := 21) (e := 1) rfl rfl rfl (md170 hM) rfl hq ?_
        refine y_zeq rfl rfl rfl (by decide) (fun g4 => absurd g4 (by decide)) (fun g4 => ?_)
        refine y_ld (x := .ref 170) rfl rfl (fun d => rfl) ?_
        refine y_gR (i := 15) rfl rfl rfl (md170 hM) rfl ?_
        refine y_ld (x := .ref 170) rfl rfl (fun d => rfl) ?_
        refine y_ld (x := iv (mcd x)) rfl rfl (fun d => rfl) ?_
        refine y_cV (as := [.ref 170, iv (mcd x)]) rfl rfl rfl rfl rfl (md170 hM) ⟨rfl, (Nat.le_of_ble_eq_true rfl), (Nat.le_of_ble_eq_true rfl)⟩ (by decide) (ct_place hM hE hP hpk hx4 ?_)
        refine y_nv ?_
        refine y_ild (x := (V 178 (B + (z_pl (x - 104) a h).toNat))) (q := (B + (z_pl (x - 104) a h).toNat)) rfl rfl (md178 hM) (by omega) (by decide) (by omega) rfl ?_
        refine y_go rfl rfl ?_
        refine y_rI rfl (Or.inl rfl) ?_
        have e : eV (zm (V 178) B) a h κ n x = V 178 (B + (z_pl (x - 104) a h).toNat) := by
          unfold eV
          rw [if_neg (by omega), if_neg (by omega), if_neg (by omega), if_neg (by omega)]
          rfl
        rwa [e] at k
    · refine y_ld (x := iv (mcd x)) rfl rfl (fun d => rfl) ?_
      refine y_bi rfl rfl (by decide) ?_
      refine y_jne rfl rfl rfl (by omega) (fun g5 => ?_) (fun g5 => ?_)
      · refine y_ld (x := iv (mcd x)) rfl rfl (fun d => rfl) ?_
        refine y_bi rfl rfl (by decide) ?_
        refine y_jne rfl rfl rfl (by omega) (fun g6 => ?_) (fun g6 => ?_)
        · refine y_ld (x := .ref 170) rfl rfl (fun d => rfl) ?_
          refine y_gI (i := 20) (e := n) rfl rfl rfl (md170 hM) rfl hP.2.2.2 ?_
          refine y_rI rfl (Or.inl rfl) ?_
          have hx1 : x < 104 := by have := (mcd_rg hx).2.2.2.2; omega
          have e : eV (zm (V A) B) a h κ n x = n := by
            rw [mcd_lo hx1] at *
            unfold tcd at hx
            unfold eV
            rw [if_neg (by omega), if_neg (by omega), if_neg (by omega), if_pos (by omega)]
          rwa [e] at k
        · refine y_ld (x := .ref 170) rfl rfl (fun d => rfl) ?_
          refine y_gI (i := 18) (e := h) rfl rfl rfl (md170 hM) rfl hP.2.1 ?_
          refine y_go rfl rfl ?_
          refine y_rI rfl (Or.inl rfl) ?_
          have hx1 : x < 104 := by have := (mcd_rg hx).2.2.2.2; omega
          have e : eV (zm (V A) B) a h κ n x = h := by
            rw [mcd_lo hx1] at *
            unfold tcd at hx
            unfold eV
            rw [if_neg (by omega), if_neg (by omega), if_pos (by omega)]
          rwa [e] at k
      · refine y_ld (x := .ref 170) rfl rfl (fun d => rfl) ?_
        refine y_gI (i := 19) (e := κ) rfl rfl rfl (md170 hM) rfl hP.2.2.1 ?_
        refine y_go rfl rfl ?_
        refine y_rI rfl (Or.inl rfl) ?_
        have hx1 : x < 104 := by have := (mcd_rg hx).2.2.2.2; omega
        have e : eV (zm (V A) B) a h κ n x = κ := by
          rw [mcd_lo hx1] at *
          unfold tcd at hx
          unfold eV
          rw [if_neg (by omega), if_pos (by omega)]
        rwa [e] at k
  · refine y_ld (x := iv (mcd x)) rfl rfl (fun d => rfl) ?_
    refine y_rI rfl (Or.inl rfl) ?_
    have hx1 : x < 104 := by have := (mcd_rg hx).2.2.2.2; omega
    have e : eV (zm (V A) B) a h κ n x = mcd x := by
      rw [mcd_lo hx1] at *
      unfold eV
      rw [if_pos (by omega)]
    rwa [e] at k
set_option maxRecDepth 100000 in
set_option maxHeartbeats 4000000 in
theorem ct_becomes (hM : MdS S) {A B : Nat} {a h κ n : Int} (hE : EvM V A B) (hP : PkM V a h κ n) (hpk : pkO a h κ n) {x v : Int} (hx4 : 104 ≤ x ∧ x ≤ 115) (k : K u w none S (v_up V A (B + (z_pl (x - 104) a h).toNat) v)) : y_R X 2 129 u w [.ref 170, iv (mcd x), iv v] S V K := by
  have hpo := hpk
  obtain ⟨p1, p2, p3, p4⟩ := hpo
  have hB : B + 84 ≤ 1800 := by have := hE.2; omega
  have hmc := mcd_cell hx4
  refine y_ent (lv' := [(0, .ref 170), (1, iv (mcd x)), (2, iv v)]) (Nat.le_of_ble_eq_true rfl) rfl ?_
  have hz := tcd_pl (Or.inr hx4) hpk (by omega)
  have hE2 := hE.2
  rcases hE2 with ⟨hq, rfl, hN⟩ | ⟨hq, rfl, hN⟩
  · refine y_ld (x := .ref 170) rfl rfl (fun d => rfl) ?_
    refine y_gI (i := 21) (e := 0) rfl rfl rfl (md170 hM) rfl hq ?_
    refine y_zeq rfl rfl rfl (by decide) (fun g1 => ?_) (fun g1 => absurd g1 (by decide))
    refine y_ld (x := .ref 170) rfl rfl (fun d => rfl) ?_
    refine y_gR (i := 1) rfl rfl rfl (md170 hM) rfl ?_
    refine y_ld (x := .ref 170) rfl rfl (fun d => rfl) ?_
    refine y_ld (x := iv (mcd x)) rfl rfl (fun d => rfl) ?_
    refine y_cV (as := [.ref 170, iv (mcd x)]) rfl rfl rfl rfl rfl (md170 hM) ⟨rfl, (Nat.le_of_ble_eq_true rfl), (Nat.le_of_ble_eq_true rfl)⟩ (by decide) (ct_place hM hE hP hpk hx4 ?_)
    refine y_nv ?_
    refine y_ld (x := iv v) rfl rfl (fun d => rfl) ?_
    refine y_ist (q := (B + (z_pl (x - 104) a h).toNat)) rfl rfl (md171 hM) (by omega) (by decide) (by omega) ?_
    refine y_ret rfl (fun d => rfl) ?_
    exact k
  · refine y_ld (x := .ref 170) rfl rfl (fun d => rfl) ?_
    refine y_gI (i := 21) (e := 1) rfl rfl rfl (md170 hM) rfl hq ?_
    refine y_zeq rfl rfl rfl (by decide) (fun g2 => absurd g2 (by decide)) (fun g2 => ?_)
    refine y_ld (x := .ref 170) rfl rfl (fun d => rfl) ?_
    refine y_gR (i := 15) rfl rfl rfl (md170 hM) rfl ?_
    refine y_ld (x := .ref 170) rfl rfl (fun d => rfl) ?_
    refine y_ld (x := iv (mcd x)) rfl rfl (fun d => rfl) ?_
    refine y_cV (as := [.ref 170, iv (mcd x)]) rfl rfl rfl rfl rfl (md170 hM) ⟨rfl, (Nat.le_of_ble_eq_true rfl), (Nat.le_of_ble_eq_true rfl)⟩ (by decide) (ct_place hM hE hP hpk hx4 ?_)
    refine y_nv ?_
    refine y_ld (x := iv v) rfl rfl (fun d => rfl) ?_
    refine y_ist (q := (B + (z_pl (x - 104) a h).toNat)) rfl rfl (md178 hM) (by omega) (by decide) (by omega) ?_
    refine y_go rfl rfl ?_
    refine y_ret rfl (fun d => rfl) ?_
    exact k
set_option maxRecDepth 100000 in
set_option maxHeartbeats 4000000 in
theorem ct_isSo (hM : MdS S) {A B : Nat} {a h κ n : Int} (hE : EvM V A B) (hP : PkM V a h κ n) (hpk : pkO a h κ n) (hμr : muO (zm (V A) B)) {c x y : Int} (hc : 120 ≤ c ∧ c ≤ 122) (hx : tcd x) (hy : tcd y) (k : K u w (some (iv (v_b (eT (zm (V A) B) a h κ n c x y = true)))) S V) : y_R X 3 130 u w [.ref 170, iv (100000 + 4 * (200 * mcd x + mcd y) + (c - 120))] S V K := by
  have hmx := mcd_rg hx
  have hmy := mcd_rg hy
  have hvx := eV_rg hμr hx hpk
  have hvy := eV_rg hμr hy hpk
  refine y_ent (lv' := [(0, .ref 170), (1, iv (100000 + 4 * (200 * mcd x + mcd y) + (c - 120)))]) (Nat.le_of_ble_eq_true rfl) rfl ?_
  rcases (show c = 120 ∨ c = 121 ∨ c = 122 by omega) with rfl | rfl | rfl
  · rw [eT_0] at k
    refine y_ld (x := iv (100000 + 4 * (200 * mcd x + mcd y) + (120 - 120))) rfl rfl (fun d => rfl) ?_
    refine y_ld (x := iv 100000) rfl rfl (fun d => rfl) ?_
    refine y_sub (z := ((100000 + 4 * (200 * mcd x + mcd y) + (120 - 120)) - 100000)) rfl rfl rfl ?_
    refine y_ic rfl rfl ?_
    refine y_op (z := (200 * mcd x + mcd y)) rfl rfl (fun d => rfl) ((v_div (by omega) (by decide)).trans (congrArg Int32.ofInt (by omega))) ?_
    refine y_st (lv' := [(2, iv (200 * mcd x + mcd y)), (0, .ref 170), (1, iv (100000 + 4 * (200 * mcd x + mcd y) + (120 - 120)))]) rfl rfl (fun d => rfl) ?_
    refine y_ld (x := .ref 170) rfl rfl (fun d => rfl) ?_
    refine y_ld (x := iv (200 * mcd x + mcd y)) rfl rfl (fun d => rfl) ?_
    refine y_si rfl rfl (by decide) ?_
    refine y_op (z := (mcd x)) rfl rfl (fun d => rfl) ((v_div (by omega) (by decide)).trans (congrArg Int32.ofInt (by omega))) ?_
    refine y_cV (as := [.ref 170, iv (mcd x)]) rfl rfl rfl rfl rfl (md170 hM) ⟨rfl, (Nat.le_of_ble_eq_true rfl), (Nat.le_of_ble_eq_true rfl)⟩ (by decide) (ct_value hM hE hP hpk hx ?_)
    refine y_nv ?_
    refine y_st (lv' := [(3, iv (eV (zm (V A) B) a h κ n x)), (2, iv (200 * mcd x + mcd y)), (0, .ref 170), (1, iv (100000 + 4 * (200 * mcd x + mcd y) + (120 - 120)))]) rfl rfl (fun d => rfl) ?_
    refine y_ld (x := .ref 170) rfl rfl (fun d => rfl) ?_
    refine y_ld (x := iv (200 * mcd x + mcd y)) rfl rfl (fun d => rfl) ?_
    refine y_si rfl rfl (by decide) ?_
    refine y_op (z := (mcd y)) rfl rfl (fun d => rfl) ((v_rem (by omega) (by decide)).trans (congrArg Int32.ofInt (by omega))) ?_
    refine y_cV (as := [.ref 170, iv (mcd y)]) rfl rfl rfl rfl rfl (md170 hM) ⟨rfl, (Nat.le_of_ble_eq_true rfl), (Nat.le_of_ble_eq_true rfl)⟩ (by decide) (ct_value hM hE hP hpk hy ?_)
    refine y_nv ?_
    refine y_st (lv' := [(4, iv (eV (zm (V A) B) a h κ n y)), (3, iv (eV (zm (V A) B) a h κ n x)), (2, iv (200 * mcd x + mcd y)), (0, .ref 170), (1, iv (100000 + 4 * (200 * mcd x + mcd y) + (120 - 120)))]) rfl rfl (fun d => rfl) ?_
    refine y_ld (x := iv (100000 + 4 * (200 * mcd x + mcd y) + (120 - 120))) rfl rfl (fun d => rfl) ?_
    refine y_ld (x := iv 100000) rfl rfl (fun d => rfl) ?_
    refine y_sub (z := ((100000 + 4 * (200 * mcd x + mcd y) + (120 - 120)) - 100000)) rfl rfl rfl ?_
    refine y_ic rfl rfl ?_
    refine y_op (z := 0) rfl rfl (fun d => rfl) ((v_rem (by omega) (by decide)).trans (congrArg Int32.ofInt (by omega))) ?_
    refine y_st (lv' := [(5, iv 0), (4, iv (eV (zm (V A) B) a h κ n y)), (3, iv (eV (zm (V A) B) a h κ n x)), (2, iv (200 * mcd x + mcd y)), (0, .ref 170), (1, iv (100000 + 4 * (200 * mcd x + mcd y) + (120 - 120)))]) rfl rfl (fun d => rfl) ?_
    refine y_ld (x := iv 0) rfl rfl (fun d => rfl) ?_
    refine y_zne rfl rfl rfl (by decide) (fun g1 => absurd g1 (by decide)) (fun g1 => ?_)
    refine y_ld (x := iv (eV (zm (V A) B) a h κ n x)) rfl rfl (fun d => rfl) ?_
    refine y_ld (x := iv (eV (zm (V A) B) a h κ n y)) rfl rfl (fun d => rfl) ?_
    refine y_jge rfl rfl rfl (by omega) (fun g2 => ?_) (fun g2 => ?_)
    · refine y_ic rfl rfl ?_
      refine y_go rfl rfl ?_
      refine y_rI rfl (by decide) ?_
      rw [show v_b (decide _ = true) = 0 from v_b0 (fun hq => absurd (of_decide_eq_true hq) (by omega))] at k
      exact k
    · refine y_ic rfl rfl ?_
      refine y_go rfl rfl ?_
      refine y_rI rfl (by decide) ?_
      rw [show v_b (decide _ = true) = 1 from v_b1 (decide_eq_true (by omega))] at k
      exact k
  · rw [eT_1] at k
    refine y_ld (x := iv (100000 + 4 * (200 * mcd x + mcd y) + (121 - 120))) rfl rfl (fun d => rfl) ?_
    refine y_ld (x := iv 100000) rfl rfl (fun d => rfl) ?_
    refine y_sub (z := ((100000 + 4 * (200 * mcd x + mcd y) + (121 - 120)) - 100000)) rfl rfl rfl ?_
    refine y_ic rfl rfl ?_
    refine y_op (z := (200 * mcd x + mcd y)) rfl rfl (fun d => rfl) ((v_div (by omega) (by decide)).trans (congrArg Int32.ofInt (by omega))) ?_
    refine y_st (lv' := [(2, iv (200 * mcd x + mcd y)), (0, .ref 170), (1, iv (100000 + 4 * (200 * mcd x + mcd y) + (121 - 120)))]) rfl rfl (fun d => rfl) ?_
    refine y_ld (x := .ref 170) rfl rfl (fun d => rfl) ?_
    refine y_ld (x := iv (200 * mcd x + mcd y)) rfl rfl (fun d => rfl) ?_
    refine y_si rfl rfl (by decide) ?_
    refine y_op (z := (mcd x)) rfl rfl (fun d => rfl) ((v_div (by omega) (by decide)).trans (congrArg Int32.ofInt (by omega))) ?_
    refine y_cV (as := [.ref 170, iv (mcd x)]) rfl rfl rfl rfl rfl (md170 hM) ⟨rfl, (Nat.le_of_ble_eq_true rfl), (Nat.le_of_ble_eq_true rfl)⟩ (by decide) (ct_value hM hE hP hpk hx ?_)
    refine y_nv ?_
    refine y_st (lv' := [(3, iv (eV (zm (V A) B) a h κ n x)), (2, iv (200 * mcd x + mcd y)), (0, .ref 170), (1, iv (100000 + 4 * (200 * mcd x + mcd y) + (121 - 120)))]) rfl rfl (fun d => rfl) ?_
    refine y_ld (x := .ref 170) rfl rfl (fun d => rfl) ?_
    refine y_ld (x := iv (200 * mcd x + mcd y)) rfl rfl (fun d => rfl) ?_
    refine y_si rfl rfl (by decide) ?_
    refine y_op (z := (mcd y)) rfl rfl (fun d => rfl) ((v_rem (by omega) (by decide)).trans (congrArg Int32.ofInt (by omega))) ?_
    refine y_cV (as := [.ref 170, iv (mcd y)]) rfl rfl rfl rfl rfl (md170 hM) ⟨rfl, (Nat.le_of_ble_eq_true rfl), (Nat.le_of_ble_eq_true rfl)⟩ (by decide) (ct_value hM hE hP hpk hy ?_)
    refine y_nv ?_
    refine y_st (lv' := [(4, iv (eV (zm (V A) B) a h κ n y)), (3, iv (eV (zm (V A) B) a h κ n x)), (2, iv (200 * mcd x + mcd y)), (0, .ref 170), (1, iv (100000 + 4 * (200 * mcd x + mcd y) + (121 - 120)))]) rfl rfl (fun d => rfl) ?_
    refine y_ld (x := iv (100000 + 4 * (200 * mcd x + mcd y) + (121 - 120))) rfl rfl (fun d => rfl) ?_
    refine y_ld (x := iv 100000) rfl rfl (fun d => rfl) ?_
    refine y_sub (z := ((100000 + 4 * (200 * mcd x + mcd y) + (121 - 120)) - 100000)) rfl rfl rfl ?_
    refine y_ic rfl rfl ?_
    refine y_op (z := 1) rfl rfl (fun d => rfl) ((v_rem (by omega) (by decide)).trans (congrArg Int32.ofInt (by omega))) ?_
    refine y_st (lv' := [(5, iv 1), (4, iv (eV (zm (V A) B) a h κ n y)), (3, iv (eV (zm (V A) B) a h κ n x)), (2, iv (200 * mcd x + mcd y)), (0, .ref 170), (1, iv (100000 + 4 * (200 * mcd x + mcd y) + (121 - 120)))]) rfl rfl (fun d => rfl) ?_
    refine y_ld (x := iv 1) rfl rfl (fun d => rfl) ?_
    refine y_zne rfl rfl rfl (by decide) (fun g3 => ?_) (fun g3 => absurd g3 (by decide))
    refine y_ld (x := iv 1) rfl rfl (fun d => rfl) ?_
    refine y_ic rfl rfl ?_
    refine y_jne rfl rfl rfl (by decide) (fun g4 => absurd g4 (by decide)) (fun g4 => ?_)
    refine y_ld (x := iv (eV (zm (V A) B) a h κ n x)) rfl rfl (fun d => rfl) ?_
    refine y_ld (x := iv (eV (zm (V A) B) a h κ n y)) rfl rfl (fun d => rfl) ?_
    refine y_jne rfl rfl rfl (by omega) (fun g5 => ?_) (fun g5 => ?_)
    · refine y_ic rfl rfl ?_
      refine y_go rfl rfl ?_
      refine y_rI rfl (by decide) ?_
      rw [show v_b (decide _ = true) = 0 from v_b0 (fun hq => absurd (of_decide_eq_true hq) (by omega))] at k
      exact k
    · refine y_ic rfl rfl ?_
      refine y_go rfl rfl ?_
      refine y_rI rfl (by decide) ?_
      rw [show v_b (decide _ = true) = 1 from v_b1 (decide_eq_true (by omega))] at k
      exact k
  · rw [eT_2] at k
    refine y_ld (x := iv (100000 + 4 * (200 * mcd x + mcd y) + (122 - 120))) rfl rfl (fun d => rfl) ?_
    refine y_ld (x := iv 100000) rfl rfl (fun d => rfl) ?_
    refine y_sub (z := ((100000 + 4 * (200 * mcd x + mcd y) + (122 - 120)) - 100000)) rfl rfl rfl ?_
    refine y_ic rfl rfl ?_
    refine y_op (z := (200 * mcd x + mcd y)) rfl rfl (fun d => rfl) ((v_div (by omega) (by decide)).trans (congrArg Int32.ofInt (by omega))) ?_
    refine y_st (lv' := [(2, iv (200 * mcd x + mcd y)), (0, .ref 170), (1, iv (100000 + 4 * (200 * mcd x + mcd y) + (122 - 120)))]) rfl rfl (fun d => rfl) ?_
    refine y_ld (x := .ref 170) rfl rfl (fun d => rfl) ?_
    refine y_ld (x := iv (200 * mcd x + mcd y)) rfl rfl (fun d => rfl) ?_
    refine y_si rfl rfl (by decide) ?_
    refine y_op (z := (mcd x)) rfl rfl (fun d => rfl) ((v_div (by omega) (by decide)).trans (congrArg Int32.ofInt (by omega))) ?_
    refine y_cV (as := [.ref 170, iv (mcd x)]) rfl rfl rfl rfl rfl (md170 hM) ⟨rfl, (Nat.le_of_ble_eq_true rfl), (Nat.le_of_ble_eq_true rfl)⟩ (by decide) (ct_value hM hE hP hpk hx ?_)
    refine y_nv ?_
    refine y_st (lv' := [(3, iv (eV (zm (V A) B) a h κ n x)), (2, iv (200 * mcd x + mcd y)), (0, .ref 170), (1, iv (100000 + 4 * (200 * mcd x + mcd y) + (122 - 120)))]) rfl rfl (fun d => rfl) ?_
    refine y_ld (x := .ref 170) rfl rfl (fun d => rfl) ?_
    refine y_ld (x := iv (200 * mcd x + mcd y)) rfl rfl (fun d => rfl) ?_
    refine y_si rfl rfl (by decide) ?_
    refine y_op (z := (mcd y)) rfl rfl (fun d => rfl) ((v_rem (by omega) (by decide)).trans (congrArg Int32.ofInt (by omega))) ?_
    refine y_cV (as := [.ref 170, iv (mcd y)]) rfl rfl rfl rfl rfl (md170 hM) ⟨rfl, (Nat.le_of_ble_eq_true rfl), (Nat.le_of_ble_eq_true rfl)⟩ (by decide) (ct_value hM hE hP hpk hy ?_)
    refine y_nv ?_
    refine y_st (lv' := [(4, iv (eV (zm (V A) B) a h κ n y)), (3, iv (eV (zm (V A) B) a h κ n x)), (2, iv (200 * mcd x + mcd y)), (0, .ref 170), (1, iv (100000 + 4 * (200 * mcd x + mcd y) + (122 - 120)))]) rfl rfl (fun d => rfl) ?_
    refine y_ld (x := iv (100000 + 4 * (200 * mcd x + mcd y) + (122 - 120))) rfl rfl (fun d => rfl) ?_
    refine y_ld (x := iv 100000) rfl rfl (fun d => rfl) ?_
    refine y_sub (z := ((100000 + 4 * (200 * mcd x + mcd y) + (122 - 120)) - 100000)) rfl rfl rfl ?_
    refine y_ic rfl rfl ?_
    refine y_op (z := 2) rfl rfl (fun d => rfl) ((v_rem (by omega) (by decide)).trans (congrArg Int32.ofInt (by omega))) ?_
    refine y_st (lv' := [(5, iv 2), (4, iv (eV (zm (V A) B) a h κ n y)), (3, iv (eV (zm (V A) B) a h κ n x)), (2, iv (200 * mcd x + mcd y)), (0, .ref 170), (1, iv (100000 + 4 * (200 * mcd x + mcd y) + (122 - 120)))]) rfl rfl (fun d => rfl) ?_
    refine y_ld (x := iv 2) rfl rfl (fun d => rfl) ?_
    refine y_zne rfl rfl rfl (by decide) (fun g6 => ?_) (fun g6 => absurd g6 (by decide))
    refine y_ld (x := iv 2) rfl rfl (fun d => rfl) ?_
    refine y_ic rfl rfl ?_
    refine y_jne rfl rfl rfl (by decide) (fun g7 => ?_) (fun g7 => absurd g7 (by decide))
    refine y_ld (x := iv (eV (zm (V A) B) a h κ n x)) rfl rfl (fun d => rfl) ?_
    refine y_ld (x := iv (eV (zm (V A) B) a h κ n y)) rfl rfl (fun d => rfl) ?_
    refine y_jle rfl rfl rfl (by omega) (fun g8 => ?_) (fun g8 => ?_)
    · refine y_ic rfl rfl ?_
      refine y_rI rfl (by decide) ?_
      rw [show v_b (decide _ = true) = 0 from v_b0 (fun hq => absurd (of_decide_eq_true hq) (by omega))] at k
      exact k
    · refine y_ic rfl rfl ?_
      refine y_go rfl rfl ?_
      refine y_rI rfl (by decide) ?_
      rw [show v_b (decide _ = true) = 1 from v_b1 (decide_eq_true (by omega))] at k
      exact k
end
