/-! THE CLASS: a state becomes another one -/
theorem cl_set {S : m_H} (hC : ClF S) {q : Nat} {c : Nat × List Value} (h : cl_mut.contains q = true) : ClF (S.set q c) := by
  intro k t vs hk
  refine ce_ne (hC k t vs hk) (fun e => ?_)
  subst e
  unfold cl_at at hk
  rw [if_pos h] at hk
  cases hk
theorem v_set_self {S : m_H} {k t : Nat} {vs : List Value} (h : ce S k t vs) : S.set k (t, vs) = S := by
  apply v_list_ext
  intro j
  rw [m_nth_set]
  split
  · rename_i e
    rw [e, h.2]
    rfl
  · rfl
theorem v_tkd {α : Type} {va vb : List α} {k N : Nat} {v : α} (h1 : va.length = N) (h2 : vb.length = N) (h3 : m_nth va k = some v) : (va.take k ++ vb.drop k).set k v = va.take (k + 1) ++ vb.drop (k + 1) := by
  have hk : k < va.length := by
    rw [m_nth_eq] at h3
    exact (List.getElem?_eq_some_iff.mp h3).1
  apply List.ext_getElem?
  intro i
  rw [m_nth_eq] at h3
  rw [List.getElem?_set]
  by_cases hi : k = i
  · subst hi
    rw [if_pos rfl, if_pos (by simp; omega), List.getElem?_append_left (by simp; omega), List.getElem?_take, if_pos (by omega), h3]
  · rw [if_neg hi]
    by_cases h4 : i < k
    · rw [List.getElem?_append_left (by simp; omega), List.getElem?_append_left (by simp; omega), List.getElem?_take, List.getElem?_take, if_pos h4, if_pos (by omega)]
    · rw [List.getElem?_append_right (by simp; omega), List.getElem?_append_right (by simp; omega), List.getElem?_drop, List.getElem?_drop]
      congr 1
      simp
      omega
theorem v_asg_r {S : m_H} {t : Nat} {v : Value} (h : v_asg S t v) : v = .null ∨ ∃ x, v = .ref x := by
  rcases h with h | ⟨x, _, h, _⟩
  · exact Or.inl h
  · exact Or.inr ⟨x, h⟩
theorem v_mem {α : Type} {l : List α} {k : Nat} {v : α} (h : m_nth l k = some v) : v ∈ l := by
  rw [m_nth_eq] at h
  exact List.mem_of_getElem? h
theorem v_get {α : Type} {l : List α} {k : Nat} (h : k < l.length) : ∃ v, m_nth l k = some v := ⟨l[k], by rw [m_nth_eq]; exact List.getElem?_eq_getElem h⟩
def St_int (i : Nat) : Bool := [1, 3, 5, 7, 9, 10, 12].contains i
/-- the numbers of a state copied -/
def CpV (B B' : Nat) (V V' : v_V) : Prop := (∀ i, St_int i = true → V' B i = V B' i) ∧ V' (B + 1) = V (B' + 1) ∧ V' (B + 4) = V (B' + 4) ∧ V' (B + 8) = V (B' + 8) ∧ V' (B + 7) 1 = V (B' + 7) 1 ∧
  (∀ b, b < 8 → V' (B + 9 + 6 * b) = V (B' + 9 + 6 * b) ∧ V' (B + 9 + 6 * b + 1) = V (B' + 9 + 6 * b + 1) ∧ V' (B + 9 + 6 * b + 3) = V (B' + 9 + 6 * b + 3) ∧ V' (B + 9 + 6 * b + 5) = V (B' + 9 + 6 * b + 5)) ∧
  ∀ k, k < B ∨ B + 57 ≤ k → V' k = V k
section
variable {X : Nat → List Int32} {u w : Nat} {S : m_H} {V : v_V} {K : v_K}
set_option maxRecDepth 100000 in
set_option maxHeartbeats 4000000 in
theorem lp_sbT1 (hC : ClF S) {va vb : List Value} (ha : ce S 60 22 va) (hb : ce S 3 22 vb) (hla : va.length = 8) (hlb : vb.length = 8) (hv : ∀ v ∈ va, v_asg S 22 v) {F : Nat} : ∀ (m : Nat) (k : Nat), 8 - k < m → (k ≤ 8) → (y_E X 2 42 F u w 50 [(0, .ref 1), (1, .ref 58), (2, iv ((8 : Nat) : Int))] [] (S.set 3 (22, va)) V K) → y_E X 2 42 (20 * m + F) u w 26 [(0, .ref 1), (1, .ref 58), (2, iv (k : Int))] [] (S.set 3 (22, va.take k ++ vb.drop k)) V K := by
  intro m
  induction m with
  | zero => intros; omega
  | succ m ih =>
    intro k hm hI hx
    refine y_mono (F' := (20 * m + F) + 20) ?_ (by omega)
    have hCk : ClF (S.set 3 (22, va.take k ++ vb.drop k)) := cl_set hC (by decide)
    have hAk := ce_ne (c := (22, va.take k ++ vb.drop k)) ha (show 60 ≠ 3 by decide)
    have hBk := ce_eq (t' := 22) (vs' := va.take k ++ vb.drop k) hb
    refine y_ld (x := iv (k : Int)) rfl rfl (fun d => rfl) ?_
    refine y_bi rfl rfl (by decide) ?_
    refine y_jge rfl rfl rfl (by omega) (fun g1 => ?_) (fun g1 => ?_)
    · obtain rfl : k = 8 := by omega
      rw [List.take_of_length_le (by omega), List.drop_eq_nil_of_le (by omega), List.append_nil]
      exact y_mono hx (by omega)
    · refine y_ld (x := .ref 1) rfl rfl (fun d => rfl) ?_
      refine y_gR (i := 2) rfl rfl rfl (hCk 1 _ _ rfl) rfl ?_
      refine y_ld (x := iv (k : Int)) rfl rfl (fun d => rfl) ?_
      refine y_ld (x := .ref 58) rfl rfl (fun d => rfl) ?_
      refine y_gR (i := 2) rfl rfl rfl (hCk 58 _ _ rfl) rfl ?_
      refine y_ld (x := iv (k : Int)) rfl rfl (fun d => rfl) ?_
      obtain ⟨v, hv1⟩ := v_get (show k < va.length by omega)
      refine y_rldV (i := k) (v := v) rfl rfl hAk (by decide) (by omega) (by omega) hv1 (v_asg_r (hv v (v_mem hv1))) ?_
      refine y_rst (i := k) rfl rfl hBk (by decide) (by omega) (by omega) (by simp; omega) (asg_set hb (by decide) (hv v (v_mem hv1)) rfl) ?_
      refine y_S (S' := S.set 3 (22, va.take (k + 1) ++ vb.drop (k + 1))) (by rw [List.set_set, v_tkd hla hlb hv1]) ?_
      refine y_inc (z := ((k + 1 : Nat) : Int)) (lv' := [(2, iv ((k + 1 : Nat) : Int)), (0, .ref 1), (1, .ref 58)]) rfl rfl rfl (by omega) rfl ?_
      refine y_go rfl rfl ?_
      refine y_lv (l' := [(0, .ref 1), (1, .ref 58), (2, iv ((k + 1 : Nat) : Int))]) rfl ⟨rfl, rfl, rfl, trivial⟩ ?_
      exact y_mono (ih (k + 1) (by omega) (by omega) hx) (by omega)
set_option maxRecDepth 100000 in
set_option maxHeartbeats 4000000 in
theorem lp_sbW1 (hC : ClF S) {va vb : List Value} (ha : ce S 63 24 va) (hb : ce S 6 24 vb) (hla : va.length = 20) (hlb : vb.length = 20) (hv : ∀ v ∈ va, v_asg S 24 v) {F : Nat} : ∀ (m : Nat) (k : Nat), 20 - k < m → (k ≤ 20) → (y_E X 2 42 F u w 144 [(0, .ref 1), (1, .ref 58), (2, iv ((20 : Nat) : Int))] [] (S.set 6 (24, va)) V K) → y_E X 2 42 (20 * m + F) u w 120 [(0, .ref 1), (1, .ref 58), (2, iv (k : Int))] [] (S.set 6 (24, va.take k ++ vb.drop k)) V K := by
  intro m
  induction m with
  | zero => intros; omega
  | succ m ih =>
    intro k hm hI hx
    refine y_mono (F' := (20 * m + F) + 20) ?_ (by omega)
    have hCk : ClF (S.set 6 (24, va.take k ++ vb.drop k)) := cl_set hC (by decide)
    have hAk := ce_ne (c := (24, va.take k ++ vb.drop k)) ha (show 63 ≠ 6 by decide)
    have hBk := ce_eq (t' := 24) (vs' := va.take k ++ vb.drop k) hb
    refine y_ld (x := iv (k : Int)) rfl rfl (fun d => rfl) ?_
    refine y_bi rfl rfl (by decide) ?_
    refine y_jge rfl rfl rfl (by omega) (fun g1 => ?_) (fun g1 => ?_)
    · obtain rfl : k = 20 := by omega
      rw [List.take_of_length_le (by omega), List.drop_eq_nil_of_le (by omega), List.append_nil]
      exact y_mono hx (by omega)
    · refine y_ld (x := .ref 1) rfl rfl (fun d => rfl) ?_
      refine y_gR (i := 8) rfl rfl rfl (hCk 1 _ _ rfl) rfl ?_
      refine y_ld (x := iv (k : Int)) rfl rfl (fun d => rfl) ?_
      refine y_ld (x := .ref 58) rfl rfl (fun d => rfl) ?_
      refine y_gR (i := 8) rfl rfl rfl (hCk 58 _ _ rfl) rfl ?_
      refine y_ld (x := iv (k : Int)) rfl rfl (fun d => rfl) ?_
      obtain ⟨v, hv1⟩ := v_get (show k < va.length by omega)
      refine y_rldV (i := k) (v := v) rfl rfl hAk (by decide) (by omega) (by omega) hv1 (v_asg_r (hv v (v_mem hv1))) ?_
      refine y_rst (i := k) rfl rfl hBk (by decide) (by omega) (by omega) (by simp; omega) (asg_set hb (by decide) (hv v (v_mem hv1)) rfl) ?_
      refine y_S (S' := S.set 6 (24, va.take (k + 1) ++ vb.drop (k + 1))) (by rw [List.set_set, v_tkd hla hlb hv1]) ?_
      refine y_inc (z := ((k + 1 : Nat) : Int)) (lv' := [(2, iv ((k + 1 : Nat) : Int)), (0, .ref 1), (1, .ref 58)]) rfl rfl rfl (by omega) rfl ?_
      refine y_go rfl rfl ?_
      refine y_lv (l' := [(0, .ref 1), (1, .ref 58), (2, iv ((k + 1 : Nat) : Int))]) rfl ⟨rfl, rfl, rfl, trivial⟩ ?_
      exact y_mono (ih (k + 1) (by omega) (by omega) hx) (by omega)
set_option maxRecDepth 100000 in
set_option maxHeartbeats 4000000 in
theorem lp_sbL1 (hC : ClF S) {va vb : List Value} (ha : ce S 64 24 va) (hb : ce S 7 24 vb) (hla : va.length = 5) (hlb : vb.length = 5) (hv : ∀ v ∈ va, v_asg S 24 v) {F : Nat} : ∀ (m : Nat) (k : Nat), 5 - k < m → (k ≤ 5) → (y_E X 2 42 F u w 185 [(0, .ref 1), (1, .ref 58), (2, iv ((5 : Nat) : Int))] [] (S.set 7 (24, va)) V K) → y_E X 2 42 (20 * m + F) u w 162 [(0, .ref 1), (1, .ref 58), (2, iv (k : Int))] [] (S.set 7 (24, va.take k ++ vb.drop k)) V K := by
  intro m
  induction m with
  | zero => intros; omega
  | succ m ih =>
    intro k hm hI hx
    refine y_mono (F' := (20 * m + F) + 20) ?_ (by omega)
    have hCk : ClF (S.set 7 (24, va.take k ++ vb.drop k)) := cl_set hC (by decide)
    have hAk := ce_ne (c := (24, va.take k ++ vb.drop k)) ha (show 64 ≠ 7 by decide)
    have hBk := ce_eq (t' := 24) (vs' := va.take k ++ vb.drop k) hb
    refine y_ld (x := iv (k : Int)) rfl rfl (fun d => rfl) ?_
    refine y_ic rfl rfl ?_
    refine y_jge rfl rfl rfl (by omega) (fun g1 => ?_) (fun g1 => ?_)
    · obtain rfl : k = 5 := by omega
      rw [List.take_of_length_le (by omega), List.drop_eq_nil_of_le (by omega), List.append_nil]
      exact y_mono hx (by omega)
    · refine y_ld (x := .ref 1) rfl rfl (fun d => rfl) ?_
      refine y_gR (i := 11) rfl rfl rfl (hCk 1 _ _ rfl) rfl ?_
      refine y_ld (x := iv (k : Int)) rfl rfl (fun d => rfl) ?_
      refine y_ld (x := .ref 58) rfl rfl (fun d => rfl) ?_
      refine y_gR (i := 11) rfl rfl rfl (hCk 58 _ _ rfl) rfl ?_
      refine y_ld (x := iv (k : Int)) rfl rfl (fun d => rfl) ?_
      obtain ⟨v, hv1⟩ := v_get (show k < va.length by omega)
      refine y_rldV (i := k) (v := v) rfl rfl hAk (by decide) (by omega) (by omega) hv1 (v_asg_r (hv v (v_mem hv1))) ?_
      refine y_rst (i := k) rfl rfl hBk (by decide) (by omega) (by omega) (by simp; omega) (asg_set hb (by decide) (hv v (v_mem hv1)) rfl) ?_
      refine y_S (S' := S.set 7 (24, va.take (k + 1) ++ vb.drop (k + 1))) (by rw [List.set_set, v_tkd hla hlb hv1]) ?_
      refine y_inc (z := ((k + 1 : Nat) : Int)) (lv' := [(2, iv ((k + 1 : Nat) : Int)), (0, .ref 1), (1, .ref 58)]) rfl rfl rfl (by omega) rfl ?_
      refine y_go rfl rfl ?_
      refine y_lv (l' := [(0, .ref 1), (1, .ref 58), (2, iv ((k + 1 : Nat) : Int))]) rfl ⟨rfl, rfl, rfl, trivial⟩ ?_
      exact y_mono (ih (k + 1) (by omega) (by omega) hx) (by omega)
set_option maxRecDepth 100000 in
set_option maxHeartbeats 4000000 in
theorem lp_sbT58 (hC : ClF S) {va vb : List Value} (ha : ce S 3 22 va) (hb : ce S 60 22 vb) (hla : va.length = 8) (hlb : vb.length = 8) (hv : ∀ v ∈ va, v_asg S 22 v) {F : Nat} : ∀ (m : Nat) (k : Nat), 8 - k < m → (k ≤ 8) → (y_E X 2 42 F u w 50 [(0, .ref 58), (1, .ref 1), (2, iv ((8 : Nat) : Int))] [] (S.set 60 (22, va)) V K) → y_E X 2 42 (20 * m + F) u w 26 [(0, .ref 58), (1, .ref 1), (2, iv (k : Int))] [] (S.set 60 (22, va.take k ++ vb.drop k)) V K := by
  intro m
  induction m with
  | zero => intros; omega
  | succ m ih =>
    intro k hm hI hx
    refine y_mono (F' := (20 * m + F) + 20) ?_ (by omega)
    have hCk : ClF (S.set 60 (22, va.take k ++ vb.drop k)) := cl_set hC (by decide)
    have hAk := ce_ne (c := (22, va.take k ++ vb.drop k)) ha (show 3 ≠ 60 by decide)
    have hBk := ce_eq (t' := 22) (vs' := va.take k ++ vb.drop k) hb
    refine y_ld (x := iv (k : Int)) rfl rfl (fun d => rfl) ?_
    refine y_bi rfl rfl (by decide) ?_
    refine y_jge rfl rfl rfl (by omega) (fun g1 => ?_) (fun g1 => ?_)
    · obtain rfl : k = 8 := by omega
      rw [List.take_of_length_le (by omega), List.drop_eq_nil_of_le (by omega), List.append_nil]
      exact y_mono hx (by omega)
    · refine y_ld (x := .ref 58) rfl rfl (fun d => rfl) ?_
      refine y_gR (i := 2) rfl rfl rfl (hCk 58 _ _ rfl) rfl ?_
      refine y_ld (x := iv (k : Int)) rfl rfl (fun d => rfl) ?_
      refine y_ld (x := .ref 1) rfl rfl (fun d => rfl) ?_
      refine y_gR (i := 2) rfl rfl rfl (hCk 1 _ _ rfl) rfl ?_
      refine y_ld (x := iv (k : Int)) rfl rfl (fun d => rfl) ?_
      obtain ⟨v, hv1⟩ := v_get (show k < va.length by omega)
      refine y_rldV (i := k) (v := v) rfl rfl hAk (by decide) (by omega) (by omega) hv1 (v_asg_r (hv v (v_mem hv1))) ?_
      refine y_rst (i := k) rfl rfl hBk (by decide) (by omega) (by omega) (by simp; omega) (asg_set hb (by decide) (hv v (v_mem hv1)) rfl) ?_
      refine y_S (S' := S.set 60 (22, va.take (k + 1) ++ vb.drop (k + 1))) (by rw [List.set_set, v_tkd hla hlb hv1]) ?_
      refine y_inc (z := ((k + 1 : Nat) : Int)) (lv' := [(2, iv ((k + 1 : Nat) : Int)), (0, .ref 58), (1, .ref 1)]) rfl rfl rfl (by omega) rfl ?_
      refine y_go rfl rfl ?_
      refine y_lv (l' := [(0, .ref 58), (1, .ref 1), (2, iv ((k + 1 : Nat) : Int))]) rfl ⟨rfl, rfl, rfl, trivial⟩ ?_
      exact y_mono (ih (k + 1) (by omega) (by omega) hx) (by omega)
set_option maxRecDepth 100000 in
set_option maxHeartbeats 4000000 in
theorem lp_sbW58 (hC : ClF S) {va vb : List Value} (ha : ce S 6 24 va) (hb : ce S 63 24 vb) (hla : va.length = 20) (hlb : vb.length = 20) (hv : ∀ v ∈ va, v_asg S 24 v) {F : Nat} : ∀ (m : Nat) (k : Nat), 20 - k < m → (k ≤ 20) → (y_E X 2 42 F u w 144 [(0, .ref 58), (1, .ref 1), (2, iv ((20 : Nat) : Int))] [] (S.set 63 (24, va)) V K) → y_E X 2 42 (20 * m + F) u w 120 [(0, .ref 58), (1, .ref 1), (2, iv (k : Int))] [] (S.set 63 (24, va.take k ++ vb.drop k)) V K := by
  intro m
  induction m with
  | zero => intros; omega
  | succ m ih =>
    intro k hm hI hx
    refine y_mono (F' := (20 * m + F) + 20) ?_ (by omega)
    have hCk : ClF (S.set 63 (24, va.take k ++ vb.drop k)) := cl_set hC (by decide)
    have hAk := ce_ne (c := (24, va.take k ++ vb.drop k)) ha (show 6 ≠ 63 by decide)
    have hBk := ce_eq (t' := 24) (vs' := va.take k ++ vb.drop k) hb
    refine y_ld (x := iv (k : Int)) rfl rfl (fun d => rfl) ?_
    refine y_bi rfl rfl (by decide) ?_
    refine y_jge rfl rfl rfl (by omega) (fun g1 => ?_) (fun g1 => ?_)
    · obtain rfl : k = 20 := by omega
      rw [List.take_of_length_le (by omega), List.drop_eq_nil_of_le (by omega), List.append_nil]
      exact y_mono hx (by omega)
    · refine y_ld (x := .ref 58) rfl rfl (fun d => rfl) ?_
      refine y_gR (i := 8) rfl rfl rfl (hCk 58 _ _ rfl) rfl ?_
      refine y_ld (x := iv (k : Int)) rfl rfl (fun d => rfl) ?_
      refine y_ld (x := .ref 1) rfl rfl (fun d => rfl) ?_
      refine y_gR (i := 8) rfl rfl rfl (hCk 1 _ _ rfl) rfl ?_
      refine y_ld (x := iv (k : Int)) rfl rfl (fun d => rfl) ?_
      obtain ⟨v, hv1⟩ := v_get (show k < va.length by omega)
      refine y_rldV (i := k) (v := v) rfl rfl hAk (by decide) (by omega) (by omega) hv1 (v_asg_r (hv v (v_mem hv1))) ?_
      refine y_rst (i := k) rfl rfl hBk (by decide) (by omega) (by omega) (by simp; omega) (asg_set hb (by decide) (hv v (v_mem hv1)) rfl) ?_
      refine y_S (S' := S.set 63 (24, va.take (k + 1) ++ vb.drop (k + 1))) (by rw [List.set_set, v_tkd hla hlb hv1]) ?_
      refine y_inc (z := ((k + 1 : Nat) : Int)) (lv' := [(2, iv ((k + 1 : Nat) : Int)), (0, .ref 58), (1, .ref 1)]) rfl rfl rfl (by omega) rfl ?_
      refine y_go rfl rfl ?_
      refine y_lv (l' := [(0, .ref 58), (1, .ref 1), (2, iv ((k + 1 : Nat) : Int))]) rfl ⟨rfl, rfl, rfl, trivial⟩ ?_
      exact y_mono (ih (k + 1) (by omega) (by omega) hx) (by omega)
set_option maxRecDepth 100000 in
set_option maxHeartbeats 4000000 in
theorem lp_sbL58 (hC : ClF S) {va vb : List Value} (ha : ce S 7 24 va) (hb : ce S 64 24 vb) (hla : va.length = 5) (hlb : vb.length = 5) (hv : ∀ v ∈ va, v_asg S 24 v) {F : Nat} : ∀ (m : Nat) (k : Nat), 5 - k < m → (k ≤ 5) → (y_E X 2 42 F u w 185 [(0, .ref 58), (1, .ref 1), (2, iv ((5 : Nat) : Int))] [] (S.set 64 (24, va)) V K) → y_E X 2 42 (20 * m + F) u w 162 [(0, .ref 58), (1, .ref 1), (2, iv (k : Int))] [] (S.set 64 (24, va.take k ++ vb.drop k)) V K := by
  intro m
  induction m with
  | zero => intros; omega
  | succ m ih =>
    intro k hm hI hx
    refine y_mono (F' := (20 * m + F) + 20) ?_ (by omega)
    have hCk : ClF (S.set 64 (24, va.take k ++ vb.drop k)) := cl_set hC (by decide)
    have hAk := ce_ne (c := (24, va.take k ++ vb.drop k)) ha (show 7 ≠ 64 by decide)
    have hBk := ce_eq (t' := 24) (vs' := va.take k ++ vb.drop k) hb
    refine y_ld (x := iv (k : Int)) rfl rfl (fun d => rfl) ?_
    refine y_ic rfl rfl ?_
    refine y_jge rfl rfl rfl (by omega) (fun g1 => ?_) (fun g1 => ?_)
    · obtain rfl : k = 5 := by omega
      rw [List.take_of_length_le (by omega), List.drop_eq_nil_of_le (by omega), List.append_nil]
      exact y_mono hx (by omega)
    · refine y_ld (x := .ref 58) rfl rfl (fun d => rfl) ?_
      refine y_gR (i := 11) rfl rfl rfl (hCk 58 _ _ rfl) rfl ?_
      refine y_ld (x := iv (k : Int)) rfl rfl (fun d => rfl) ?_
      refine y_ld (x := .ref 1) rfl rfl (fun d => rfl) ?_
      refine y_gR (i := 11) rfl rfl rfl (hCk 1 _ _ rfl) rfl ?_
      refine y_ld (x := iv (k : Int)) rfl rfl (fun d => rfl) ?_
      obtain ⟨v, hv1⟩ := v_get (show k < va.length by omega)
      refine y_rldV (i := k) (v := v) rfl rfl hAk (by decide) (by omega) (by omega) hv1 (v_asg_r (hv v (v_mem hv1))) ?_
      refine y_rst (i := k) rfl rfl hBk (by decide) (by omega) (by omega) (by simp; omega) (asg_set hb (by decide) (hv v (v_mem hv1)) rfl) ?_
      refine y_S (S' := S.set 64 (24, va.take (k + 1) ++ vb.drop (k + 1))) (by rw [List.set_set, v_tkd hla hlb hv1]) ?_
      refine y_inc (z := ((k + 1 : Nat) : Int)) (lv' := [(2, iv ((k + 1 : Nat) : Int)), (0, .ref 58), (1, .ref 1)]) rfl rfl rfl (by omega) rfl ?_
      refine y_go rfl rfl ?_
      refine y_lv (l' := [(0, .ref 58), (1, .ref 1), (2, iv ((k + 1 : Nat) : Int))]) rfl ⟨rfl, rfl, rfl, trivial⟩ ?_
      exact y_mono (ih (k + 1) (by omega) (by omega) hx) (by omega)
end
