/-! the steps that call -/
theorem m_cl_cn {t : Nat} (h : t < 11) : (m_cl t).1 = m_cn t := by
  have : t = 0 ∨ t = 1 ∨ t = 2 ∨ t = 3 ∨ t = 4 ∨ t = 5 ∨ t = 6 ∨ t = 7 ∨ t = 8 ∨ t = 9 ∨ t = 10 := by omega
  rcases this with rfl | rfl | rfl | rfl | rfl | rfl | rfl | rfl | rfl | rfl | rfl <;> rfl
theorem m_cpy_len {us vs : List Value} {x y w : Nat} (h1 : x + w ≤ us.length) (h2 : y + w ≤ vs.length) : (vs.take y ++ ((us.drop x).take w ++ vs.drop (y + w))).length = vs.length := by
  simp only [List.length_append, List.length_take, List.length_drop]
  omega
theorem m_cpy {us vs : List Value} {x y w : Nat} (h1 : x + w ≤ us.length) (h2 : y + w ≤ vs.length) : va_cpy (fun q => m_i1 (us.getD q (.int 0))) (fun q => m_i1 (vs.getD q (.int 0))) x y w = fun q => m_i1 ((vs.take y ++ ((us.drop x).take w ++ vs.drop (y + w))).getD q (.int 0)) := by
  funext q
  unfold va_cpy
  simp only [List.getD_eq_getElem?_getD, List.getElem?_append, List.length_take, List.length_drop, List.getElem?_take, List.getElem?_drop]
  by_cases g1 : y ≤ q ∧ q < y + w
  · rw [if_pos g1, if_neg (by omega), if_pos (by omega), if_pos (by omega)]
    congr 3
    omega
  · rw [if_neg g1]
    by_cases g2 : q < y
    · rw [if_pos (by omega), if_pos g2]
    · rw [if_neg (by omega), if_neg (by omega)]
      congr 3
      omega
theorem m_acp_sp {h h' : m_H} {x q : Nat} {sp dp n : Int32} (hE : m_acp h x sp q dp n = some h') : ∃ i j w us vs, m_ix sp = some i ∧ m_ix dp = some j ∧ m_ix n = some w ∧ x < 1000000 ∧ m_nth h x = some (20, us) ∧ q < 1000000 ∧ m_nth h q = some (20, vs) ∧ i + w ≤ us.length ∧ j + w ≤ vs.length ∧ h' = h.set q (20, vs.take j ++ ((us.drop i).take w ++ vs.drop (j + w))) := by
  unfold m_acp at hE
  split at hE
  · rename_i i j w hi hj hw
    split at hE
    · rename_i t us t' vs ho ho'
      split at hE
      · rename_i e3
        obtain ⟨rfl, rfl, e4, e5⟩ := e3
        cases hE
        exact ⟨i, j, w, us, vs, hi, hj, hw, (m_ob_nth ho).1, (m_ob_nth ho).2, (m_ob_nth ho').1, (m_ob_nth ho').2, e4, e5, rfl⟩
      · cases hE
    · cases hE
  · cases hE
theorem m_po_in {o k : Nat} (h : (o, k) ∈ m_po) : Cond.methodLink (m_cn o) k objectInit ∈ lw_good ∧ Cond.instanceMethod objectInit ∈ lw_good ∧ Cond.code objectInit ⟨#[0xb1]⟩ 1 none ∈ lw_good := by
  have h1 := List.all_eq_true.mp m_po_ok _ h
  simp only [Bool.and_eq_true] at h1
  exact ⟨m_has_in h1.1, m_has_in h1.2.1, m_has_in h1.2.2⟩
theorem m_pa_in {o k : Nat} (h : (o, k) ∈ m_pa) : Cond.methodLink (m_cn o) k arraycopyName ∈ lw_good ∧ Cond.native arraycopyName ∈ lw_good ∧ Cond.static arraycopyName ∈ lw_good ∧ Cond.initialized "java/lang/System" ∈ lw_good := by
  have h1 := List.all_eq_true.mp m_pa_ok _ h
  simp only [Bool.and_eq_true] at h1
  exact ⟨m_has_in h1.1, m_has_in h1.2.1, m_has_in h1.2.2.1, m_has_in h1.2.2.2⟩
theorem m_acp_room : nativeFrameWords "java/lang/System" "arraycopy" 5 + 11 ≤ 90 := by decide +kernel
section HEAP
variable {p : Program} {l : Launch} {e : Env} {R : Room} {s : State} {m : MethodId} {args : Array Value} {below : List Frame} {meth : Method} {c : Code} {Q : State → Prop}
variable {E : m_AE} {D : va_G} {ty : Nat → ClassId} {X : Nat → List Int32} {i d n0 z0 : Nat} {call : Nat → List Value → m_H → Option m_R} {len : Nat} {a : Int} {b pc : Nat} {lv : m_L} {st : List Value} {h : m_H} {C' : m_C}
theorem k_invokevirtual (F : m_Fix E D ty X i d n0 p R s m args meth c) {q : Nat} (hok : m_ok i pc (.invokevirtual q, len, a, b) = true) (hs : m_stp X call (.invokevirtual q, len, a, b) pc lv st h = some (.inl C')) (hn : n0 ≤ h.length) (hz : z0 ≤ m_sz h) (hc1 : C'.2.2.2.length - n0 ≤ R.cells) (hc2 : m_sz C'.2.2.2 - z0 ≤ R.slots) (hM : m_Met l E D ty X call d)
    (k : m_At E D ty i n0 z0 p l e R s m args below meth c Q C') : m_At E D ty i n0 z0 p l e R s m args below meth c Q (pc, lv, st, h) := by
  intro H locs ls hP hS hl
  dsimp only at hP hl ⊢
  obtain ⟨⟨hx, hb, hml, hown, hts⟩, hKn, hEx, hsz, hi, hini, hR⟩ := F
  obtain ⟨hdg, hI⟩ := m_ok_sp hok
  obtain ⟨e1, e2, e2b⟩ : len = 3 ∧ (m_oc i, q, a.toNat) ∈ m_pmV ∧ b = m_na a.toNat := of_decide_eq_true hI
  subst e1
  obtain ⟨g1, g2⟩ := m_pmV_in e2
  simp only [m_callV, Bool.and_eq_true, decide_eq_true_eq] at g2
  obtain ⟨g3, g4, g5, g6⟩ := g2
  rw [m_s_invokevirtual] at hs
  split at hs
  · rename_i x r heq
    split at hs
    · rename_i t vs ho
      obtain ⟨ho1, ho2⟩ := m_ob_nth ho
      split at hs
      · rename_i e3
        obtain ⟨e3, e4, e5⟩ := e3
        split at hs
        · rename_i v h' hcall
          cases hs
          obtain ⟨hm, hMet⟩ := hM _ _ _ _ _ (m_calls_sp g5).2.2.2.2 hcall
          dsimp only at hc1 hc2
          have hrl : m_rv E (.ref x) = .ref (m_rl E x) := rfl
          have hst2 : st.map (m_rv E) = (((st.take b).reverse).map (m_rv E)).reverse ++ .ref (m_rl E x) :: r.map (m_rv E) := by
            rw [← hrl, ← List.map_cons, ← heq, List.map_reverse, List.reverse_reverse, ← List.map_append, List.take_append_drop]
          have he : (m_ws E ty h)[x]? = some (E.1 + x, .inr (t, vs.map (m_rv E))) := by
            rw [m_ws_at ho2, m_cell_o E ty (by omega)]
          refine m_W_sz (fun hH => ?_)
          refine m_back (X := X) hsz (as := .ref x :: (st.take b).reverse) ?_ hS hl hn hz hm k
          have hlen : (((st.take b).reverse).map (m_rv E)).length = m_na a.toNat := by
            rw [List.length_map, List.length_reverse, List.length_take, ← e2b]
            omega
          have hpre : PreV s H (m_cn (m_oc a.toNat)) (m_rl E x) (m_Pc E D ty X (.ref x :: (st.take b).reverse) h) (((st.take b).reverse).map (m_rv E)) := by
            refine ⟨m_Pc_blind, ?_, fun U hU hW => ⟨by rw [List.map_cons, hrl], m_B_at hsz hKn hEx hP hS hn hH hU hW⟩⟩
            have := va_recv hKn.1 hP (m_cl_at (i := t) (by omega)) he
            dsimp only at this
            rw [m_cl_cn (by omega), e3] at this
            rw [m_rl_in E ho1]
            exact this
          have hrm : h.length - n0 + (h'.length - h.length) ≤ R.cells ∧ m_sz h - z0 + (m_sz h' - m_sz h) ≤ R.slots := ⟨by omega, by omega⟩
          exact va_runV ⟨hx, hb, hml, hown, hts⟩ hMet ⟨m_cwB hts g5 hR g1, hts _ (m_hi_in g3), hts _ (m_hi_in g4)⟩ hpre rfl hlen hl.1 hst2 (lv_room (m_cat_sum e4)) hdg hrm
        · cases hs
      · cases hs
    · cases hs
  · cases hs
theorem k_invokestatic (F : m_Fix E D ty X i d n0 p R s m args meth c) {q : Nat} (hok : m_ok i pc (.invokestatic q, len, a, b) = true) (hs : m_stp X call (.invokestatic q, len, a, b) pc lv st h = some (.inl C')) (hn : n0 ≤ h.length) (hz : z0 ≤ m_sz h) (hc1 : C'.2.2.2.length - n0 ≤ R.cells) (hc2 : m_sz C'.2.2.2 - z0 ≤ R.slots) (hM : m_Met l E D ty X call d)
    (k : m_At E D ty i n0 z0 p l e R s m args below meth c Q C') : m_At E D ty i n0 z0 p l e R s m args below meth c Q (pc, lv, st, h) := by
  intro H locs ls hP hS hl
  dsimp only at hP hl ⊢
  obtain ⟨⟨hx, hb, hml, hown, hts⟩, hKn, hEx, hsz, hi, hini, hR⟩ := F
  obtain ⟨hdg, hI⟩ := m_ok_sp hok
  rw [m_s_invokestatic] at hs
  by_cases h9 : a.toNat = 9999
  · rw [if_pos h9] at hs
    have hI : (if a.toNat = 9999 then decide (len = 3 ∧ (m_oc i, q) ∈ m_pa) else decide (len = 3 ∧ ((m_oc i, q, a.toNat) ∈ m_pmS ∨ (m_oc i, q, a.toNat) ∈ m_pmSN) ∧ b = m_na a.toNat)) = true := hI
    rw [if_pos h9, decide_eq_true_eq] at hI
    obtain ⟨e1, e2⟩ := hI
    subst e1
    obtain ⟨p1, p2, p3, p4⟩ := m_pa_in e2
    split at hs
    · rename_i n dp y sp x r
      split at hs
      · rename_i h' hE
        split at hs
        · rename_i hr4
          cases hs
          obtain ⟨i1, j1, w1, us, vs, f1, f2, f3, f4, f5, f6, f7, f8, f9, rfl⟩ := m_acp_sp hE
          obtain ⟨u1, u2⟩ := m_ix_sp f1
          obtain ⟨u3, u4⟩ := m_ix_sp f2
          obtain ⟨u5, u6⟩ := m_ix_sp f3
          show W _ _ _ _ _ _ _ _ _ _ _ _ _ _ _ (F0 m pc ls (.int n :: .int dp :: .ref (m_rl E y) :: .int sp :: .ref (m_rl E x) :: r.map (m_rv E)))
          rw [m_rl_in E f4, m_rl_in E f6]
          refine va_copyi hx hb (hml.trans hl.1.symm) hown (hts _ p1) (hts _ p2) (hts _ p3) (hts _ p4) hKn.1 hP (m_ws_D E ty h) hS x y 0 0 (by rw [m_ws_at f5, m_cell_i]) (by rw [m_ws_at f7, m_cell_i]) rfl rfl rfl u1 u3 u5 (by rw [u2, u6]; exact f8) (by rw [u4, u6]; exact f9) (fun _ _ => rfl) (by omega) ?_ hdg (fun H1 locs1 hP1 _ hS1 => ?_)
          · have h1 := m_cat_sum (E := E) hr4
            have h2 := m_acp_room
            omega
          · have kz := k H1 locs1 ls (by
              show va_P D vwCl (m_ws E ty (h.set y (20, vs.take j1 ++ ((us.drop i1).take w1 ++ vs.drop (j1 + w1))))) H1
              rw [m_ws_set, m_cell_i, ← m_cpy f8 f9, m_cpy_len f8 f9]
              rw [u2, u4, u6] at hP1
              exact hP1) hS1 hl
            dsimp only at kz
            rw [List.length_set, m_sz_set f7 (m_cpy_len f8 f9)] at kz
            exact kz
        · cases hs
      · cases hs
    · cases hs
  · rw [if_neg h9] at hs
    have hI : (if a.toNat = 9999 then decide (len = 3 ∧ (m_oc i, q) ∈ m_pa) else decide (len = 3 ∧ ((m_oc i, q, a.toNat) ∈ m_pmS ∨ (m_oc i, q, a.toNat) ∈ m_pmSN) ∧ b = m_na a.toNat)) = true := hI
    rw [if_neg h9, decide_eq_true_eq] at hI
    obtain ⟨e1, e2, e2b⟩ := hI
    subst e1
    have hcs : m_callS a.toNat = true := by
      rcases e2 with e2 | e2
      · exact (m_pmS_in e2).2
      · exact (m_pmSN_in e2).2
    simp only [m_callS, Bool.and_eq_true] at hcs
    obtain ⟨g3, g5⟩ := hcs
    split at hs
    · rename_i e3
      obtain ⟨e4, e5⟩ := e3
      split at hs
      · rename_i v h' hcall
        cases hs
        obtain ⟨hm, hMet⟩ := hM _ _ _ _ _ (m_calls_sp g5).2.2.2.2 hcall
        dsimp only at hc1 hc2
        have hst2 : st.map (m_rv E) = (((st.take b).reverse).map (m_rv E)).reverse ++ (st.drop b).map (m_rv E) := by
          rw [List.map_reverse, List.reverse_reverse, ← List.map_append, List.take_append_drop]
        have hlen : (((st.take b).reverse).map (m_rv E)).length = m_na a.toNat := by
          rw [List.length_map, List.length_reverse, List.length_take, ← e2b]
          omega
        refine m_W_sz (fun hH => ?_)
        refine m_back (X := X) hsz (as := (st.take b).reverse) ?_ hS hl hn hz hm k
        have hpre : PreS s H (m_Pc E D ty X (st.take b).reverse h) (((st.take b).reverse).map (m_rv E)) := ⟨m_Pc_blind, fun U hU hW => ⟨rfl, m_B_at hsz hKn hEx hP hS hn hH hU hW⟩⟩
        have hrm : h.length - n0 + (h'.length - h.length) ≤ R.cells ∧ m_sz h - z0 + (m_sz h' - m_sz h) ≤ R.slots := ⟨by omega, by omega⟩
        rcases e2 with e2 | e2
        · exact va_runS ⟨hx, hb, hml, hown, hts⟩ hMet ⟨m_cwB hts g5 hR (m_pmS_in e2).1, hts _ (m_hi_in g3)⟩ hpre rfl hlen hl.1 hst2 (lv_room (m_cat_sum e4)) hdg hrm
        · exact va_runSN ⟨hx, hb, hml, hown, hts⟩ hMet ⟨m_cnB hts g5 hR (hKn.2.1 _ (m_pmSN_in e2).1), hts _ (m_hi_in g3), trivial⟩ hpre rfl hlen hl.1 hst2 (lv_room (m_cat_sum e4)) hdg hrm
      · cases hs
    · cases hs
theorem k_invokespecial (F : m_Fix E D ty X i d n0 p R s m args meth c) {q : Nat} (hok : m_ok i pc (.invokespecial q, len, a, b) = true) (hs : m_stp X call (.invokespecial q, len, a, b) pc lv st h = some (.inl C')) (hn : n0 ≤ h.length) (hz : z0 ≤ m_sz h) (hc1 : C'.2.2.2.length - n0 ≤ R.cells) (hc2 : m_sz C'.2.2.2 - z0 ≤ R.slots) (hM : m_Met l E D ty X call d)
    (k : m_At E D ty i n0 z0 p l e R s m args below meth c Q C') : m_At E D ty i n0 z0 p l e R s m args below meth c Q (pc, lv, st, h) := by
  intro H locs ls hP hS hl
  dsimp only at hP hl ⊢
  obtain ⟨⟨hx, hb, hml, hown, hts⟩, hKn, hEx, hsz, hi, hini, hR⟩ := F
  obtain ⟨hdg, hI⟩ := m_ok_sp hok
  rw [m_s_invokespecial] at hs
  by_cases h9 : a.toNat = 9998
  · rw [if_pos h9] at hs
    have hI : (if a.toNat = 9998 then decide (len = 3 ∧ (m_oc i, q) ∈ m_po) else decide (len = 3 ∧ ((m_oc i, q, a.toNat) ∈ m_pmI ∨ (m_oc i, q, a.toNat) ∈ m_pmIN) ∧ b = m_na a.toNat)) = true := hI
    rw [if_pos h9, decide_eq_true_eq] at hI
    obtain ⟨e1, e2⟩ := hI
    subst e1
    obtain ⟨p1, p2, p3⟩ := m_po_in e2
    split at hs
    · rename_i x r
      split at hs
      · rename_i hr4
        cases hs
        refine W.objInit hx hb hown (hts _ p1) (hts _ p2) (hts _ p3) (g := F0 m pc ls ((Value.ref x :: r).map (m_rv E))) rfl (hl.1.trans hml.symm) rfl hdg (by omega) ?_ (k _ _ _ hP hS hl)
        have h1 := m_cat_sum (E := E) hr4
        show 2 * 0 + _ + 12 ≤ R.locals
        omega
      · cases hs
    · cases hs
  · rw [if_neg h9] at hs
    have hI : (if a.toNat = 9998 then decide (len = 3 ∧ (m_oc i, q) ∈ m_po) else decide (len = 3 ∧ ((m_oc i, q, a.toNat) ∈ m_pmI ∨ (m_oc i, q, a.toNat) ∈ m_pmIN) ∧ b = m_na a.toNat)) = true := hI
    rw [if_neg h9, decide_eq_true_eq] at hI
    obtain ⟨e1, e2, e2b⟩ := hI
    subst e1
    have hcs : m_inits a.toNat = true := by
      rcases e2 with e2 | e2
      · exact (m_pmI_in e2).2
      · exact (m_pmIN_in e2).2
    simp only [m_inits, Bool.and_eq_true, decide_eq_true_eq] at hcs
    obtain ⟨g3, g4, g5, g6⟩ := hcs
    split at hs
    · rename_i x r heq
      split at hs
      · rename_i e3
        obtain ⟨e4, e5, e6⟩ := e3
        split at hs
        · rename_i v h' hcall
          cases hs
          obtain ⟨hm, hMet⟩ := hM _ _ _ _ _ (m_calls_sp g5).2.2.2.2 hcall
          dsimp only at hc1 hc2
          have hrl : m_rv E (.ref x) = .ref (m_rl E x) := rfl
          have hst2 : st.map (m_rv E) = (((st.take b).reverse).map (m_rv E)).reverse ++ .ref (m_rl E x) :: r.map (m_rv E) := by
            rw [← hrl, ← List.map_cons, ← heq, List.map_reverse, List.reverse_reverse, ← List.map_append, List.take_append_drop]
          have hlen : (((st.take b).reverse).map (m_rv E)).length = m_na a.toNat := by
            rw [List.length_map, List.length_reverse, List.length_take, ← e2b]
            omega
          refine m_W_sz (fun hH => ?_)
          refine m_back (X := X) hsz (as := .ref x :: (st.take b).reverse) ?_ hS hl hn hz hm k
          have hpre : PreS s H (m_Pc E D ty X (.ref x :: (st.take b).reverse) h) (.ref (m_rl E x) :: ((st.take b).reverse).map (m_rv E)) := ⟨m_Pc_blind, fun U hU hW => ⟨by rw [List.map_cons, hrl], m_B_at hsz hKn hEx hP hS hn hH hU hW⟩⟩
          have hrm : h.length - n0 + (h'.length - h.length) ≤ R.cells ∧ m_sz h - z0 + (m_sz h' - m_sz h) ≤ R.slots := ⟨by omega, by omega⟩
          rcases e2 with e2 | e2
          · have hcw := m_cwB (mc := h'.length - h.length) (ms := m_sz h' - m_sz h) hts g5 hR (m_pmI_in e2).1
            rw [g6] at hcw
            exact va_runI ⟨hx, hb, hml, hown, hts⟩ hMet ⟨hcw, g4, hts _ (m_hi_in g3)⟩ hpre rfl hlen hl.1 hst2 (lv_room (m_cat_sum e4)) hdg hrm
          · have hcw := m_cnB (mc := h'.length - h.length) (ms := m_sz h' - m_sz h) hts g5 hR (hKn.2.1 _ (m_pmIN_in e2).1)
            rw [g6] at hcw
            exact va_runIN ⟨hx, hb, hml, hown, hts⟩ hMet ⟨hcw, g4, hts _ (m_hi_in g3)⟩ hpre rfl hlen hl.1 hst2 (lv_room (m_cat_sum e4)) hdg hrm
        · cases hs
      · cases hs
    · cases hs
end HEAP
