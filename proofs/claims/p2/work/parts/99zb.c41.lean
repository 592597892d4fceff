/-! what a row has shown: the class -/
theorem ww_ref {S : m_H} (hC : ClF S) {i : Nat} (h : i < 4) : ∃ vs, ce S 118 26 vs ∧ m_nth vs i = some (.ref (154 + 4 * i)) :=
  match i, h with
  | 0, _ => ⟨_, hC 118 _ _ rfl, rfl⟩
  | 1, _ => ⟨_, hC 118 _ _ rfl, rfl⟩
  | 2, _ => ⟨_, hC 118 _ _ rfl, rfl⟩
  | 3, _ => ⟨_, hC 118 _ _ rfl, rfl⟩
  | n + 4, h => absurd h (by omega)
theorem ww_ob {S : m_H} (hC : ClF S) {i : Nat} (h : i < 4) : ce S (154 + 4 * i) 8 [.int 0, .int 0, .int 0, .ref (154 + 4 * i + 1), .ref (154 + 4 * i + 2), .ref (154 + 4 * i + 3)] :=
  match i, h with
  | 0, _ => hC 154 _ _ rfl
  | 1, _ => hC 158 _ _ rfl
  | 2, _ => hC 162 _ _ rfl
  | 3, _ => hC 166 _ _ rfl
  | n + 4, h => absurd h (by omega)
theorem ww_a1 {S : m_H} (hC : ClF S) {i : Nat} (h : i < 4) : v_ia S (154 + 4 * i + 1) 20 16 :=
  match i, h with
  | 0, _ => cl_ia hC rfl
  | 1, _ => cl_ia hC rfl
  | 2, _ => cl_ia hC rfl
  | 3, _ => cl_ia hC rfl
  | n + 4, h => absurd h (by omega)
theorem ww_a2 {S : m_H} (hC : ClF S) {i : Nat} (h : i < 4) : v_ia S (154 + 4 * i + 2) 20 16 :=
  match i, h with
  | 0, _ => cl_ia hC rfl
  | 1, _ => cl_ia hC rfl
  | 2, _ => cl_ia hC rfl
  | 3, _ => cl_ia hC rfl
  | n + 4, h => absurd h (by omega)
theorem ww_a3 {S : m_H} (hC : ClF S) {i : Nat} (h : i < 4) : v_ia S (154 + 4 * i + 3) 20 16 :=
  match i, h with
  | 0, _ => cl_ia hC rfl
  | 1, _ => cl_ia hC rfl
  | 2, _ => cl_ia hC rfl
  | 3, _ => cl_ia hC rfl
  | n + 4, h => absurd h (by omega)
theorem mm_ref {S : m_H} (hC : ClF S) {i : Nat} (h : i < 16) : ∃ vs, ce S 117 25 vs ∧ m_nth vs i = some (.ref (122 + 2 * i)) :=
  match i, h with
  | 0, _ => ⟨_, hC 117 _ _ rfl, rfl⟩
  | 1, _ => ⟨_, hC 117 _ _ rfl, rfl⟩
  | 2, _ => ⟨_, hC 117 _ _ rfl, rfl⟩
  | 3, _ => ⟨_, hC 117 _ _ rfl, rfl⟩
  | 4, _ => ⟨_, hC 117 _ _ rfl, rfl⟩
  | 5, _ => ⟨_, hC 117 _ _ rfl, rfl⟩
  | 6, _ => ⟨_, hC 117 _ _ rfl, rfl⟩
  | 7, _ => ⟨_, hC 117 _ _ rfl, rfl⟩
  | 8, _ => ⟨_, hC 117 _ _ rfl, rfl⟩
  | 9, _ => ⟨_, hC 117 _ _ rfl, rfl⟩
  | 10, _ => ⟨_, hC 117 _ _ rfl, rfl⟩
  | 11, _ => ⟨_, hC 117 _ _ rfl, rfl⟩
  | 12, _ => ⟨_, hC 117 _ _ rfl, rfl⟩
  | 13, _ => ⟨_, hC 117 _ _ rfl, rfl⟩
  | 14, _ => ⟨_, hC 117 _ _ rfl, rfl⟩
  | 15, _ => ⟨_, hC 117 _ _ rfl, rfl⟩
  | n + 16, h => absurd h (by omega)
theorem mm_ob {S : m_H} (hC : ClF S) {i : Nat} (h : i < 16) : MeS S (122 + 2 * i) (123 + 2 * i) :=
  match i, h with
  | 0, _ => ⟨hC 122 _ _ rfl, cl_ia hC rfl⟩
  | 1, _ => ⟨hC 124 _ _ rfl, cl_ia hC rfl⟩
  | 2, _ => ⟨hC 126 _ _ rfl, cl_ia hC rfl⟩
  | 3, _ => ⟨hC 128 _ _ rfl, cl_ia hC rfl⟩
  | 4, _ => ⟨hC 130 _ _ rfl, cl_ia hC rfl⟩
  | 5, _ => ⟨hC 132 _ _ rfl, cl_ia hC rfl⟩
  | 6, _ => ⟨hC 134 _ _ rfl, cl_ia hC rfl⟩
  | 7, _ => ⟨hC 136 _ _ rfl, cl_ia hC rfl⟩
  | 8, _ => ⟨hC 138 _ _ rfl, cl_ia hC rfl⟩
  | 9, _ => ⟨hC 140 _ _ rfl, cl_ia hC rfl⟩
  | 10, _ => ⟨hC 142 _ _ rfl, cl_ia hC rfl⟩
  | 11, _ => ⟨hC 144 _ _ rfl, cl_ia hC rfl⟩
  | 12, _ => ⟨hC 146 _ _ rfl, cl_ia hC rfl⟩
  | 13, _ => ⟨hC 148 _ _ rfl, cl_ia hC rfl⟩
  | 14, _ => ⟨hC 150 _ _ rfl, cl_ia hC rfl⟩
  | 15, _ => ⟨hC 152 _ _ rfl, cl_ia hC rfl⟩
  | n + 16, h => absurd h (by omega)
section
variable {X : Nat → List Int32} {u w : Nat} {S : m_H} {V : v_V} {K : v_K}
set_option maxRecDepth 100000 in
set_option maxHeartbeats 4000000 in
theorem cw_become (hC : ClF S) {i : Nat} (hi : i < 3) {A : Aw} (h : RWc V i A) (k : ∀ V2, RWc V2 (i + 1) A → (∀ q, (q < 154 + 4 * (i + 1) ∨ 154 + 4 * (i + 1) + 3 < q) → V2 q = V q) → K u w none S V2) : y_R X 1 65 u w [.ref (154 + 4 * (i + 1)), .ref (154 + 4 * i)] S V K := by
  refine y_ent (lv' := [(0, .ref (154 + 4 * (i + 1))), (1, .ref (154 + 4 * i))]) (Nat.le_of_ble_eq_true rfl) rfl ?_
  refine y_ld (x := .ref (154 + 4 * (i + 1))) rfl rfl (fun d => rfl) ?_
  refine y_ld (x := .ref (154 + 4 * i)) rfl rfl (fun d => rfl) ?_
  refine y_gI (i := 0) (e := (V (154 + 4 * i) 0)) rfl rfl rfl (ww_ob hC (i := i) (by omega)) rfl rfl ?_
  refine y_pI (i := 0) rfl rfl rfl (ww_ob hC (i := i + 1) (by omega)) rfl rfl ?_
  refine y_ld (x := .ref (154 + 4 * (i + 1))) rfl rfl (fun d => rfl) ?_
  refine y_ld (x := .ref (154 + 4 * i)) rfl rfl (fun d => rfl) ?_
  refine y_gI (i := 1) (e := (V (154 + 4 * i) 1)) rfl rfl rfl (ww_ob hC (i := i) (by omega)) rfl (by rw [v_up_ne (by omega)]) ?_
  refine y_pI (i := 1) rfl rfl rfl (ww_ob hC (i := i + 1) (by omega)) rfl rfl ?_
  refine y_ld (x := .ref (154 + 4 * (i + 1))) rfl rfl (fun d => rfl) ?_
  refine y_ld (x := .ref (154 + 4 * i)) rfl rfl (fun d => rfl) ?_
  refine y_gI (i := 2) (e := (V (154 + 4 * i) 2)) rfl rfl rfl (ww_ob hC (i := i) (by omega)) rfl (by rw [v_up_ne (by omega), v_up_ne (by omega)]) ?_
  refine y_pI (i := 2) rfl rfl rfl (ww_ob hC (i := i + 1) (by omega)) rfl rfl ?_
  refine y_ld (x := .ref (154 + 4 * i)) rfl rfl (fun d => rfl) ?_
  refine y_gR (i := 3) rfl rfl rfl (ww_ob hC (i := i) (by omega)) rfl ?_
  refine y_ic rfl rfl ?_
  refine y_ld (x := .ref (154 + 4 * (i + 1))) rfl rfl (fun d => rfl) ?_
  refine y_gR (i := 3) rfl rfl rfl (ww_ob hC (i := i + 1) (by omega)) rfl ?_
  refine y_ic rfl rfl ?_
  refine y_bi rfl rfl (by decide) ?_
  refine y_acF rfl rfl rfl (ww_a1 hC (i := i) (by omega)) (ww_a1 hC (i := i + 1) (by omega)) rfl (by decide) (Nat.le_of_ble_eq_true rfl) ?_
  refine y_ld (x := .ref (154 + 4 * i)) rfl rfl (fun d => rfl) ?_
  refine y_gR (i := 4) rfl rfl rfl (ww_ob hC (i := i) (by omega)) rfl ?_
  refine y_ic rfl rfl ?_
  refine y_ld (x := .ref (154 + 4 * (i + 1))) rfl rfl (fun d => rfl) ?_
  refine y_gR (i := 4) rfl rfl rfl (ww_ob hC (i := i + 1) (by omega)) rfl ?_
  refine y_ic rfl rfl ?_
  refine y_bi rfl rfl (by decide) ?_
  refine y_acF rfl rfl rfl (ww_a2 hC (i := i) (by omega)) (ww_a2 hC (i := i + 1) (by omega)) rfl (by decide) (Nat.le_of_ble_eq_true rfl) ?_
  refine y_ld (x := .ref (154 + 4 * i)) rfl rfl (fun d => rfl) ?_
  refine y_gR (i := 5) rfl rfl rfl (ww_ob hC (i := i) (by omega)) rfl ?_
  refine y_ic rfl rfl ?_
  refine y_ld (x := .ref (154 + 4 * (i + 1))) rfl rfl (fun d => rfl) ?_
  refine y_gR (i := 5) rfl rfl rfl (ww_ob hC (i := i + 1) (by omega)) rfl ?_
  refine y_ic rfl rfl ?_
  refine y_bi rfl rfl (by decide) ?_
  refine y_acF rfl rfl rfl (ww_a3 hC (i := i) (by omega)) (ww_a3 hC (i := i + 1) (by omega)) rfl (by decide) (Nat.le_of_ble_eq_true rfl) ?_
  refine y_ret rfl (fun d => rfl) ?_
  refine k _ ?_ (fun q hq => ?_)
  · refine RWc_r h ⟨?_, ?_, ?_⟩ ?_ ?_ ?_
    · rw [v_ur_ne (show 154 + 4 * (i + 1) ≠ 154 + 4 * (i + 1) + 3 by omega), v_ur_ne (show 154 + 4 * (i + 1) ≠ 154 + 4 * (i + 1) + 2 by omega), v_ur_ne (show 154 + 4 * (i + 1) ≠ 154 + 4 * (i + 1) + 1 by omega), v_up_ni (show 0 ≠ 2 by decide), v_up_ni (show 0 ≠ 1 by decide), v_up_eq]
    · rw [v_ur_ne (show 154 + 4 * (i + 1) ≠ 154 + 4 * (i + 1) + 3 by omega), v_ur_ne (show 154 + 4 * (i + 1) ≠ 154 + 4 * (i + 1) + 2 by omega), v_ur_ne (show 154 + 4 * (i + 1) ≠ 154 + 4 * (i + 1) + 1 by omega), v_up_ni (show 1 ≠ 2 by decide), v_up_eq]
    · rw [v_ur_ne (show 154 + 4 * (i + 1) ≠ 154 + 4 * (i + 1) + 3 by omega), v_ur_ne (show 154 + 4 * (i + 1) ≠ 154 + 4 * (i + 1) + 2 by omega), v_ur_ne (show 154 + 4 * (i + 1) ≠ 154 + 4 * (i + 1) + 1 by omega), v_up_eq]
    · rw [v_ur_ne (show 154 + 4 * (i + 1) + 1 ≠ 154 + 4 * (i + 1) + 3 by omega), v_ur_ne (show 154 + 4 * (i + 1) + 1 ≠ 154 + 4 * (i + 1) + 2 by omega), v_ur_eq, v_up_ne (show 154 + 4 * i + 1 ≠ 154 + 4 * (i + 1) by omega), v_up_ne (show 154 + 4 * i + 1 ≠ 154 + 4 * (i + 1) by omega), v_up_ne (show 154 + 4 * i + 1 ≠ 154 + 4 * (i + 1) by omega)]
    · rw [v_ur_ne (show 154 + 4 * (i + 1) + 2 ≠ 154 + 4 * (i + 1) + 3 by omega), v_ur_eq, v_ur_ne (show 154 + 4 * i + 2 ≠ 154 + 4 * (i + 1) + 1 by omega), v_up_ne (show 154 + 4 * i + 2 ≠ 154 + 4 * (i + 1) by omega), v_up_ne (show 154 + 4 * i + 2 ≠ 154 + 4 * (i + 1) by omega), v_up_ne (show 154 + 4 * i + 2 ≠ 154 + 4 * (i + 1) by omega)]
    · rw [v_ur_eq, v_ur_ne (show 154 + 4 * i + 3 ≠ 154 + 4 * (i + 1) + 2 by omega), v_ur_ne (show 154 + 4 * i + 3 ≠ 154 + 4 * (i + 1) + 1 by omega), v_up_ne (show 154 + 4 * i + 3 ≠ 154 + 4 * (i + 1) by omega), v_up_ne (show 154 + 4 * i + 3 ≠ 154 + 4 * (i + 1) by omega), v_up_ne (show 154 + 4 * i + 3 ≠ 154 + 4 * (i + 1) by omega)]
  · rw [v_ur_ne (by omega), v_ur_ne (by omega), v_ur_ne (by omega), v_up_ne (by omega), v_up_ne (by omega), v_up_ne (by omega)]
set_option maxRecDepth 100000 in
set_option maxHeartbeats 4000000 in
theorem lp_opens (hC : ClF S) {i : Nat} (hi : i < 4) {A : Aw} {j : Nat} (h : RWc V i A) (hA : awO j A) {x N : Int} (hx : 0 ≤ x ∧ x ≤ 3) (hN : 0 ≤ N ∧ N ≤ 99) (k1 : N < cnA (aOp A) (aHo A) x 16 → K u w (some (iv 1)) S V) (k0 : ¬ N < cnA (aOp A) (aHo A) x 16 → K u w (some (iv 0)) S V) {F : Nat} : ∀ (m : Nat) (t : Nat), 16 - t < m → (t ≤ 16) → y_E X 0 67 (40 * m + F) u w 5 [(0, .ref (154 + 4 * i)), (1, iv x), (2, iv N), (3, iv (cnA (aOp A) (aHo A) x t)), (4, iv (t : Int))] [] S V K := by
  intro m
  induction m with
  | zero => intros; omega
  | succ m ih =>
    intro t hm hI 
    refine y_mono (F' := (40 * m + F) + 40) ?_ (by omega)
    refine y_ld (x := iv (t : Int)) rfl rfl (fun d => rfl) ?_
    refine y_bi rfl rfl (by decide) ?_
    refine y_jge rfl rfl rfl (by omega) (fun g1 => ?_) (fun g1 => ?_)
    · obtain rfl : t = 16 := by omega
      have hcr := cnA_rg (aOp A) (aHo A) x 16
      refine y_lv (l' := [(0, .ref (154 + 4 * i)), (1, iv x), (2, iv N), (3, iv (cnA (aOp A) (aHo A) x 16)), (4, iv ((16 : Nat) : Int))]) rfl ⟨rfl, rfl, rfl, rfl, rfl, trivial⟩ ?_
      refine y_ld (x := iv (cnA (aOp A) (aHo A) x 16)) rfl rfl (fun d => rfl) ?_
      refine y_ld (x := iv N) rfl rfl (fun d => rfl) ?_
      refine y_jle rfl rfl rfl (by omega) (fun g2 => ?_) (fun g2 => ?_)
      · refine y_ic rfl rfl ?_
        refine y_rI rfl (by decide) ?_
        exact k0 (by omega)
      · refine y_ic rfl rfl ?_
        refine y_go rfl rfl ?_
        refine y_rI rfl (by decide) ?_
        exact k1 (by omega)
    · obtain ⟨⟨r1, r2, r3⟩, h2⟩ := h
      obtain ⟨f1, f2, f3, f4, f5, f6⟩ := h2 t (by omega)
      obtain ⟨a1, a2, a3⟩ := hA t (by omega)
      have hp2 := v_p2 t
      have hp3 : (2 : Int) ^ t ≤ 32768 := z_p2le (by omega)
      cases ho : aOp A t
      · have hd : V (154 + 4 * i) 1 / 2 ^ t % 2 = 0 := f2.trans (by rw [ho]; rfl)
        refine y_ld (x := .ref (154 + 4 * i)) rfl rfl (fun d => rfl) ?_
        refine y_gI (i := 1) (e := (V (154 + 4 * i) 1)) rfl rfl rfl (ww_ob hC (i := i) (by omega)) rfl rfl ?_
        refine y_ic rfl rfl ?_
        refine y_ld (x := iv (t : Int)) rfl rfl (fun d => rfl) ?_
        refine y_op (z := (2 ^ t)) rfl rfl (fun d => rfl) (v_shl1 (k := (t : Int)) (by omega)) ?_
        refine y_op (z := 0) rfl rfl (fun d => rfl) ((v_and2 (x := V (154 + 4 * i) 1) (k := t) (by omega) (by omega)).trans (by rw [hd, Int.mul_zero])) ?_
        refine y_zeq rfl rfl rfl (by decide) (fun g3 => ?_) (fun g3 => absurd g3 (by decide))
        refine y_inc (z := ((t + 1 : Nat) : Int)) (lv' := [(4, iv ((t + 1 : Nat) : Int)), (0, .ref (154 + 4 * i)), (1, iv x), (2, iv N), (3, iv (cnA (aOp A) (aHo A) x t))]) rfl rfl rfl (by omega) rfl ?_
        refine y_go rfl rfl ?_
        refine y_lv (l' := [(0, .ref (154 + 4 * i)), (1, iv x), (2, iv N), (3, iv (cnA (aOp A) (aHo A) x t)), (4, iv ((t + 1 : Nat) : Int))]) rfl ⟨rfl, rfl, rfl, rfl, rfl, trivial⟩ ?_
        rw [show cnA (aOp A) (aHo A) x t = cnA (aOp A) (aHo A) x (t + 1) from (cnA_0 (fun q => by rw [ho] at q; exact absurd q.1 (by decide))).symm]
        exact y_mono (ih (t + 1) (by omega) (by omega)) (by omega)
      · have hd : V (154 + 4 * i) 1 / 2 ^ t % 2 = 1 := f2.trans (by rw [ho]; rfl)
        refine y_ld (x := .ref (154 + 4 * i)) rfl rfl (fun d => rfl) ?_
        refine y_gI (i := 1) (e := (V (154 + 4 * i) 1)) rfl rfl rfl (ww_ob hC (i := i) (by omega)) rfl rfl ?_
        refine y_ic rfl rfl ?_
        refine y_ld (x := iv (t : Int)) rfl rfl (fun d => rfl) ?_
        refine y_op (z := (2 ^ t)) rfl rfl (fun d => rfl) (v_shl1 (k := (t : Int)) (by omega)) ?_
        refine y_op (z := (2 ^ t)) rfl rfl (fun d => rfl) ((v_and2 (x := V (154 + 4 * i) 1) (k := t) (by omega) (by omega)).trans (by rw [hd, Int.mul_one])) ?_
        refine y_zeq rfl rfl rfl (by omega) (fun g4 => absurd g4 (by omega)) (fun g4 => ?_)
        refine y_ld (x := .ref (154 + 4 * i)) rfl rfl (fun d => rfl) ?_
        refine y_gR (i := 3) rfl rfl rfl (ww_ob hC (i := i) (by omega)) rfl ?_
        refine y_ld (x := iv (t : Int)) rfl rfl (fun d => rfl) ?_
        refine y_ild (x := (aHo A t)) (q := t) rfl rfl (ww_a1 hC (i := i) (by omega)) (by omega) (by decide) (by omega) f4 ?_
        refine y_ld (x := iv x) rfl rfl (fun d => rfl) ?_
        refine y_jne rfl rfl rfl (by omega) (fun g5 => ?_) (fun g5 => ?_)
        · refine y_inc (z := ((t + 1 : Nat) : Int)) (lv' := [(4, iv ((t + 1 : Nat) : Int)), (0, .ref (154 + 4 * i)), (1, iv x), (2, iv N), (3, iv (cnA (aOp A) (aHo A) x t))]) rfl rfl rfl (by omega) rfl ?_
          refine y_go rfl rfl ?_
          refine y_lv (l' := [(0, .ref (154 + 4 * i)), (1, iv x), (2, iv N), (3, iv (cnA (aOp A) (aHo A) x t)), (4, iv ((t + 1 : Nat) : Int))]) rfl ⟨rfl, rfl, rfl, rfl, rfl, trivial⟩ ?_
          rw [show cnA (aOp A) (aHo A) x t = cnA (aOp A) (aHo A) x (t + 1) from (cnA_0 (fun q => by omega)).symm]
          exact y_mono (ih (t + 1) (by omega) (by omega)) (by omega)
        · refine y_inc (z := (cnA (aOp A) (aHo A) x t + 1)) (lv' := [(3, iv (cnA (aOp A) (aHo A) x t + 1)), (0, .ref (154 + 4 * i)), (1, iv x), (2, iv N), (4, iv (t : Int))]) rfl rfl rfl (by omega) rfl ?_
          refine y_inc (z := ((t + 1 : Nat) : Int)) (lv' := [(4, iv ((t + 1 : Nat) : Int)), (3, iv (cnA (aOp A) (aHo A) x t + 1)), (0, .ref (154 + 4 * i)), (1, iv x), (2, iv N)]) rfl rfl rfl (by omega) rfl ?_
          refine y_go rfl rfl ?_
          refine y_lv (l' := [(0, .ref (154 + 4 * i)), (1, iv x), (2, iv N), (3, iv (cnA (aOp A) (aHo A) x t + 1)), (4, iv ((t + 1 : Nat) : Int))]) rfl ⟨rfl, rfl, rfl, rfl, rfl, trivial⟩ ?_
          rw [show cnA (aOp A) (aHo A) x t + 1 = cnA (aOp A) (aHo A) x (t + 1) from (cnA_1 ⟨ho, by omega⟩).symm]
          exact y_mono (ih (t + 1) (by omega) (by omega)) (by omega)
set_option maxRecDepth 100000 in
set_option maxHeartbeats 4000000 in
theorem cw_opens (hC : ClF S) {i : Nat} (hi : i < 4) {A : Aw} {j : Nat} (h : RWc V i A) (hA : awO j A) {x N : Int} (hx : 0 ≤ x ∧ x ≤ 3) (hN : 0 ≤ N ∧ N ≤ 99) (k1 : N < cnA (aOp A) (aHo A) x 16 → K u w (some (iv 1)) S V) (k0 : ¬ N < cnA (aOp A) (aHo A) x 16 → K u w (some (iv 0)) S V) : y_R X 1 67 u w [.ref (154 + 4 * i), iv x, iv N] S V K := by
  refine y_ent (lv' := [(0, .ref (154 + 4 * i)), (1, iv x), (2, iv N)]) (Nat.le_of_ble_eq_true rfl) rfl ?_
  refine y_ic rfl rfl ?_
  refine y_st (lv' := [(3, iv 0), (0, .ref (154 + 4 * i)), (1, iv x), (2, iv N)]) rfl rfl (fun d => rfl) ?_
  refine y_ic rfl rfl ?_
  refine y_st (lv' := [(4, iv 0), (3, iv 0), (0, .ref (154 + 4 * i)), (1, iv x), (2, iv N)]) rfl rfl (fun d => rfl) ?_
  refine y_lv (l' := [(0, .ref (154 + 4 * i)), (1, iv x), (2, iv N), (3, iv (cnA (aOp A) (aHo A) x 0)), (4, iv ((0 : Nat) : Int))]) rfl ⟨rfl, rfl, rfl, rfl, rfl, trivial⟩ ?_
  exact y_mono (lp_opens (F := 100) hC hi h hA hx hN k1 k0 17 0 (by omega) (by omega)) (by decide)
set_option maxRecDepth 100000 in
set_option maxHeartbeats 4000000 in
theorem lp_twice (hC : ClF S) {i : Nat} (hi : i < 4) {A : Aw} {j : Nat} (h : RWc V i A) (hA : awO j A) {x : Nat} (hx : x < 16) (hox : aOp A x = true) (hnx : V (154 + 4 * i + 2) x = aNu A x ∧ 0 ≤ aNu A x ∧ aNu A x ≤ 99) (k1 : (aOp A x = true ∧ ∃ s : Nat, s < 16 ∧ s ≠ x ∧ aOp A s = true ∧ aNu A s = aNu A x) → K u w (some (iv 1)) S V) (k0 : ¬ (aOp A x = true ∧ ∃ s : Nat, s < 16 ∧ s ≠ x ∧ aOp A s = true ∧ aNu A s = aNu A x) → K u w (some (iv 0)) S V) {F : Nat} : ∀ (m : Nat) (t : Nat), 16 - t < m → (t ≤ 16) → (∀ s : Nat, s < t → s ≠ x → aOp A s = true → aNu A s ≠ aNu A x) → y_E X 0 68 (60 * m + F) u w 15 [(0, .ref (154 + 4 * i)), (1, iv (x : Int)), (2, iv (t : Int))] [] S V K := by
  intro m
  induction m with
  | zero => intros; omega
  | succ m ih =>
    intro t hm hI hJ 
    refine y_mono (F' := (60 * m + F) + 60) ?_ (by omega)
    refine y_ld (x := iv (t : Int)) rfl rfl (fun d => rfl) ?_
    refine y_bi rfl rfl (by decide) ?_
    refine y_jge rfl rfl rfl (by omega) (fun g1 => ?_) (fun g1 => ?_)
    · refine y_ic rfl rfl ?_
      refine y_rI rfl (by decide) ?_
      exact k0 (fun q => by obtain ⟨-, s, h5, h6, h7, h8⟩ := q; exact hJ s (by omega) h6 h7 h8)
    · refine y_ld (x := iv (t : Int)) rfl rfl (fun d => rfl) ?_
      refine y_ld (x := iv (x : Int)) rfl rfl (fun d => rfl) ?_
      refine y_jeq rfl rfl rfl (by omega) (fun g2 => ?_) (fun g2 => ?_)
      · refine y_ic rfl rfl ?_
        refine y_st (lv' := [(3, iv 0), (0, .ref (154 + 4 * i)), (1, iv (x : Int)), (2, iv (t : Int))]) rfl rfl (fun d => rfl) ?_
        refine y_ld (x := iv 0) rfl rfl (fun d => rfl) ?_
        refine y_zeq rfl rfl rfl (by decide) (fun g3 => ?_) (fun g3 => absurd g3 (by decide))
        refine y_inc (z := ((t + 1 : Nat) : Int)) (lv' := [(2, iv ((t + 1 : Nat) : Int)), (3, iv 0), (0, .ref (154 + 4 * i)), (1, iv (x : Int))]) rfl rfl rfl (by omega) rfl ?_
        refine y_go rfl rfl ?_
        refine y_lv (l' := [(0, .ref (154 + 4 * i)), (1, iv (x : Int)), (2, iv ((t + 1 : Nat) : Int))]) rfl ⟨rfl, rfl, rfl, trivial⟩ ?_
        refine y_mono (ih (t + 1) (by omega) (by omega) (fun s hs h5 h6 => ?_)) (by omega)
        rcases (show s < t ∨ s = t by omega) with h7 | h7
        · exact hJ s h7 h5 h6
        · subst h7
          exact absurd (show s = x by omega) h5
      · obtain ⟨⟨r1, r2, r3⟩, h2⟩ := h
        obtain ⟨f1, f2, f3, f4, f5, f6⟩ := h2 t (by omega)
        obtain ⟨a1, a2, a3⟩ := hA t (by omega)
        have hp2 := v_p2 t
        have hp3 : (2 : Int) ^ t ≤ 32768 := z_p2le (by omega)
        cases ho : aOp A t
        · have hd : V (154 + 4 * i) 1 / 2 ^ t % 2 = 0 := f2.trans (by rw [ho]; rfl)
          refine y_ld (x := .ref (154 + 4 * i)) rfl rfl (fun d => rfl) ?_
          refine y_gI (i := 1) (e := (V (154 + 4 * i) 1)) rfl rfl rfl (ww_ob hC (i := i) (by omega)) rfl rfl ?_
          refine y_ic rfl rfl ?_
          refine y_ld (x := iv (t : Int)) rfl rfl (fun d => rfl) ?_
          refine y_op (z := (2 ^ t)) rfl rfl (fun d => rfl) (v_shl1 (k := (t : Int)) (by omega)) ?_
          refine y_op (z := 0) rfl rfl (fun d => rfl) ((v_and2 (x := V (154 + 4 * i) 1) (k := t) (by omega) (by omega)).trans (by rw [hd, Int.mul_zero])) ?_
          refine y_zeq rfl rfl rfl (by decide) (fun g4 => ?_) (fun g4 => absurd g4 (by decide))
          refine y_ic rfl rfl ?_
          refine y_st (lv' := [(3, iv 0), (0, .ref (154 + 4 * i)), (1, iv (x : Int)), (2, iv (t : Int))]) rfl rfl (fun d => rfl) ?_
          refine y_ld (x := iv 0) rfl rfl (fun d => rfl) ?_
          refine y_zeq rfl rfl rfl (by decide) (fun g5 => ?_) (fun g5 => absurd g5 (by decide))
          refine y_inc (z := ((t + 1 : Nat) : Int)) (lv' := [(2, iv ((t + 1 : Nat) : Int)), (3, iv 0), (0, .ref (154 + 4 * i)), (1, iv (x : Int))]) rfl rfl rfl (by omega) rfl ?_
          refine y_go rfl rfl ?_
          refine y_lv (l' := [(0, .ref (154 + 4 * i)), (1, iv (x : Int)), (2, iv ((t + 1 : Nat) : Int))]) rfl ⟨rfl, rfl, rfl, trivial⟩ ?_
          refine y_mono (ih (t + 1) (by omega) (by omega) (fun s hs h5 h6 => ?_)) (by omega)
          rcases (show s < t ∨ s = t by omega) with h7 | h7
          · exact hJ s h7 h5 h6
          · subst h7
            rw [ho] at h6; exact absurd h6 (by decide)
        · have hd : V (154 + 4 * i) 1 / 2 ^ t % 2 = 1 := f2.trans (by rw [ho]; rfl)
          refine y_ld (x := .ref (154 + 4 * i)) rfl rfl (fun d => rfl) ?_
          refine y_gI (i := 1) (e := (V (154 + 4 * i) 1)) rfl rfl rfl (ww_ob hC (i := i) (by omega)) rfl rfl ?_
          refine y_ic rfl rfl ?_
          refine y_ld (x := iv (t : Int)) rfl rfl (fun d => rfl) ?_
          refine y_op (z := (2 ^ t)) rfl rfl (fun d => rfl) (v_shl1 (k := (t : Int)) (by omega)) ?_
          refine y_op (z := (2 ^ t)) rfl rfl (fun d => rfl) ((v_and2 (x := V (154 + 4 * i) 1) (k := t) (by omega) (by omega)).trans (by rw [hd, Int.mul_one])) ?_
          refine y_zeq rfl rfl rfl (by omega) (fun g6 => absurd g6 (by omega)) (fun g6 => ?_)
          refine y_ic rfl rfl ?_
          refine y_go rfl rfl ?_
          refine y_st (lv' := [(3, iv 1), (0, .ref (154 + 4 * i)), (1, iv (x : Int)), (2, iv (t : Int))]) rfl rfl (fun d => rfl) ?_
          refine y_ld (x := iv 1) rfl rfl (fun d => rfl) ?_
          refine y_zeq rfl rfl rfl (by decide) (fun g7 => absurd g7 (by decide)) (fun g7 => ?_)
          refine y_ld (x := .ref (154 + 4 * i)) rfl rfl (fun d => rfl) ?_
          refine y_gR (i := 4) rfl rfl rfl (ww_ob hC (i := i) (by omega)) rfl ?_
          refine y_ld (x := iv (t : Int)) rfl rfl (fun d => rfl) ?_
          refine y_ild (x := (aNu A t)) (q := t) rfl rfl (ww_a2 hC (i := i) (by omega)) (by omega) (by decide) (by omega) f5 ?_
          refine y_ld (x := .ref (154 + 4 * i)) rfl rfl (fun d => rfl) ?_
          refine y_gR (i := 4) rfl rfl rfl (ww_ob hC (i := i) (by omega)) rfl ?_
          refine y_ld (x := iv (x : Int)) rfl rfl (fun d => rfl) ?_
          refine y_ild (x := (aNu A x)) (q := x) rfl rfl (ww_a2 hC (i := i) (by omega)) (by omega) (by decide) (by omega) hnx.1 ?_
          refine y_jne rfl rfl rfl (by omega) (fun g8 => ?_) (fun g8 => ?_)
          · refine y_inc (z := ((t + 1 : Nat) : Int)) (lv' := [(2, iv ((t + 1 : Nat) : Int)), (3, iv 1), (0, .ref (154 + 4 * i)), (1, iv (x : Int))]) rfl rfl rfl (by omega) rfl ?_
            refine y_go rfl rfl ?_
            refine y_lv (l' := [(0, .ref (154 + 4 * i)), (1, iv (x : Int)), (2, iv ((t + 1 : Nat) : Int))]) rfl ⟨rfl, rfl, rfl, trivial⟩ ?_
            refine y_mono (ih (t + 1) (by omega) (by omega) (fun s hs h5 h6 => ?_)) (by omega)
            rcases (show s < t ∨ s = t by omega) with h7 | h7
            · exact hJ s h7 h5 h6
            · subst h7
              intro h8; omega
          · refine y_ic rfl rfl ?_
            refine y_rI rfl (by decide) ?_
            exact k1 ⟨hox, t, by omega, by omega, ho, by omega⟩
set_option maxRecDepth 100000 in
set_option maxHeartbeats 4000000 in
theorem cw_twice (hC : ClF S) {i : Nat} (hi : i < 4) {A : Aw} {j : Nat} (h : RWc V i A) (hA : awO j A) {x : Nat} (hx : x < 16) (k1 : (aOp A x = true ∧ ∃ s : Nat, s < 16 ∧ s ≠ x ∧ aOp A s = true ∧ aNu A s = aNu A x) → K u w (some (iv 1)) S V) (k0 : ¬ (aOp A x = true ∧ ∃ s : Nat, s < 16 ∧ s ≠ x ∧ aOp A s = true ∧ aNu A s = aNu A x) → K u w (some (iv 0)) S V) : y_R X 1 68 u w [.ref (154 + 4 * i), iv (x : Int)] S V K := by
  refine y_ent (lv' := [(0, .ref (154 + 4 * i)), (1, iv (x : Int))]) (Nat.le_of_ble_eq_true rfl) rfl ?_
  have h9 := h
  obtain ⟨⟨r1, r2, r3⟩, h2⟩ := h9
  obtain ⟨f1, f2, f3, f4, f5, f6⟩ := h2 x (by omega)
  obtain ⟨a1, a2, a3⟩ := hA x (by omega)
  have hp2 := v_p2 x
  have hp3 : (2 : Int) ^ x ≤ 32768 := z_p2le (by omega)
  cases ho : aOp A x
  · have hd : V (154 + 4 * i) 1 / 2 ^ x % 2 = 0 := f2.trans (by rw [ho]; rfl)
    refine y_ld (x := .ref (154 + 4 * i)) rfl rfl (fun d => rfl) ?_
    refine y_gI (i := 1) (e := (V (154 + 4 * i) 1)) rfl rfl rfl (ww_ob hC (i := i) (by omega)) rfl rfl ?_
    refine y_ic rfl rfl ?_
    refine y_ld (x := iv (x : Int)) rfl rfl (fun d => rfl) ?_
    refine y_op (z := (2 ^ x)) rfl rfl (fun d => rfl) (v_shl1 (k := (x : Int)) (by omega)) ?_
    refine y_op (z := 0) rfl rfl (fun d => rfl) ((v_and2 (x := V (154 + 4 * i) 1) (k := x) (by omega) (by omega)).trans (by rw [hd, Int.mul_zero])) ?_
    refine y_zne rfl rfl rfl (by decide) (fun g1 => absurd g1 (by decide)) (fun g1 => ?_)
    refine y_ic rfl rfl ?_
    refine y_rI rfl (by decide) ?_
    exact k0 (fun q => by rw [ho] at q; exact absurd q.1 (by decide))
  · have hd : V (154 + 4 * i) 1 / 2 ^ x % 2 = 1 := f2.trans (by rw [ho]; rfl)
    refine y_ld (x := .ref (154 + 4 * i)) rfl rfl (fun d => rfl) ?_
    refine y_gI (i := 1) (e := (V (154 + 4 * i) 1)) rfl rfl rfl (ww_ob hC (i := i) (by omega)) rfl rfl ?_
    refine y_ic rfl rfl ?_
    refine y_ld (x := iv (x : Int)) rfl rfl (fun d => rfl) ?_
    refine y_op (z := (2 ^ x)) rfl rfl (fun d => rfl) (v_shl1 (k := (x : Int)) (by omega)) ?_
    refine y_op (z := (2 ^ x)) rfl rfl (fun d => rfl) ((v_and2 (x := V (154 + 4 * i) 1) (k := x) (by omega) (by omega)).trans (by rw [hd, Int.mul_one])) ?_
    refine y_zne rfl rfl rfl (by omega) (fun g2 => ?_) (fun g2 => absurd g2 (by omega))
    refine y_ic rfl rfl ?_
    refine y_st (lv' := [(2, iv 0), (0, .ref (154 + 4 * i)), (1, iv (x : Int))]) rfl rfl (fun d => rfl) ?_
    refine y_lv (l' := [(0, .ref (154 + 4 * i)), (1, iv (x : Int)), (2, iv ((0 : Nat) : Int))]) rfl ⟨rfl, rfl, rfl, trivial⟩ ?_
    exact y_mono (lp_twice (F := 100) hC hi h hA hx ho ⟨f5, a2⟩ k1 k0 17 0 (by omega) (by omega) (fun s hs => absurd hs (by omega))) (by decide)
end
