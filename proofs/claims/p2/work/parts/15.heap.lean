/-! the steps that look at the heap or change it -/
theorem m_ix_sp {x : Int32} {j : Nat} (h : m_ix x = some j) : ¬ x < 0 ∧ x.toNatClampNeg = j := by
  unfold m_ix at h
  split at h
  · cases h
  · rename_i h1
    cases h
    exact ⟨h1, rfl⟩
theorem m_fit_ok (E : m_AE) {ft : FieldType} {v : Value} (h : m_fit (m_fc ft) v = true) : narrow ft (m_rv E v) = m_rv E v ∧ fits ft (m_rv E v) = true := by
  cases ft <;> cases v <;> simp [m_fit, m_fc] at h <;> simp [m_rv, narrow, fits]
  rcases h with rfl | rfl <;> decide
theorem m_fdef (c k : Nat) : m_fd c k = (m_cl c).2.1 k := rfl
theorem m_cell_i (E : m_AE) (ty : Nat → ClassId) (vs : List Value) : m_cell E ty (20, vs) = .inl (ty 0, vs.length, .inl (fun j => m_i1 (vs.getD j (.int 0)))) := rfl
theorem m_cell_z (E : m_AE) (ty : Nat → ClassId) (vs : List Value) : m_cell E ty (21, vs) = .inl (ty 1, vs.length, .inl (fun j => m_i1 (vs.getD j (.int 0)))) := rfl
theorem m_cell_q (E : m_AE) (ty : Nat → ClassId) {t : Nat} (h : 22 ≤ t) (vs : List Value) : m_cell E ty (t, vs) = .inl (ty (t - 20), vs.length, .inr (.inr (.inr (.inr (fun j => m_or E (vs.getD j .null)))))) := by
  unfold m_cell
  rw [if_neg (by show ¬ t < 20; omega), if_neg (by show ¬ t < 22; omega)]
def m_cn5 (t : Nat) : String := (m_cl (m_cmp t)).1
theorem m_tys_q (ty : Nat → ClassId) {t : Nat} (h : 22 ≤ t ∧ t ≤ 26) : (m_tys ty)[t - 20]? = some (ty (t - 20), .object (m_cn5 t)) ∧ m_cmp t < 11 ∧ m_cn5 t ∈ m_ao := by
  have : t = 22 ∨ t = 23 ∨ t = 24 ∨ t = 25 ∨ t = 26 := by omega
  rcases this with rfl | rfl | rfl | rfl | rfl <;> exact ⟨rfl, by decide, by decide +kernel⟩
theorem m_set_i {vs : List Value} {j : Nat} (hj : j < vs.length) (x : Int32) : upd (fun q => m_i1 (vs.getD q (.int 0))) j x = fun q => m_i1 ((vs.set j (.int x)).getD q (.int 0)) := by
  funext q
  unfold upd
  by_cases hq : q = j
  · subst hq
    simp [hj, m_i1]
  · simp [hq, List.getD_eq_getElem?_getD, List.getElem?_set, Ne.symm hq]
theorem m_set_q (E : m_AE) {vs : List Value} {j : Nat} (hj : j < vs.length) (v : Value) : va_up (fun q => m_or E (vs.getD q .null)) j (m_or E v) = fun q => m_or E ((vs.set j v).getD q .null) := by
  funext q
  unfold va_up
  by_cases hq : q = j
  · subst hq
    simp [hj]
  · simp [hq, List.getD_eq_getElem?_getD, List.getElem?_set, Ne.symm hq]
theorem m_rv_rf (E : m_AE) {v : Value} (h : (∃ x, v = .ref x) ∨ v = .null) : va_rf (m_or E v) = m_rv E v := by
  rcases h with ⟨x, rfl⟩ | rfl <;> rfl
theorem m_getD_nth {vs : List Value} {j : Nat} {v dv : Value} (h : m_nth vs j = some v) : vs.getD j dv = v := by
  rw [m_nth_eq] at h
  simp [List.getD_eq_getElem?_getD, h]
theorem m_ps_in {o k j : Nat} (h : (o, k, j) ∈ m_ps) : Cond.fieldLink (m_cn o) k m_host (m_sn j) "[I" ∈ lw_good ∧ (j = 1 ∨ j = 2) := by
  have h1 := List.all_eq_true.mp m_ps_ok _ h
  dsimp only at h1
  refine ⟨m_has_in h1, ?_⟩
  simp only [m_ps, List.mem_singleton, Prod.mk.injEq] at h
  omega
theorem m_psN_in {o k j : Nat} (h : (o, k, j) ∈ m_psN) : Cond.fieldLinkNest (m_cn o) k m_host (m_sn j) "[I" m_host ∈ m_nw ∧ (j = 1 ∨ j = 2) := by
  refine ⟨?_, ?_⟩
  · unfold m_nw
    exact List.mem_append_left _ (List.mem_append_left _ (List.mem_append_right _ (List.mem_map.mpr ⟨_, h, rfl⟩)))
  · simp only [m_psN, List.mem_cons, Prod.mk.injEq, List.not_mem_nil, or_false] at h
    omega
theorem m_pc_in {o k f : Nat} (h : (o, k, f) ∈ m_pc) : Cond.classLink (m_cn o) k (m_cl f).1 ∈ lw_good ∧ Cond.instantiable (m_cl f).1 (m_cl f).2.2 ∈ lw_good ∧ Cond.initialized (m_cl f).1 ∈ lw_good ∧ f < 11 := by
  obtain ⟨j, hj⟩ := m_zip m_pc_ln m_pc_ok h
  simp only [Bool.and_eq_true, decide_eq_true_eq] at hj
  exact ⟨m_hi_in hj.1, m_hi_in hj.2.1, m_hi_in hj.2.2.1, hj.2.2.2⟩
theorem m_dfl_len {f : Nat} (h : f < 11) : (m_dfl f).length = (m_cl f).2.2 := by
  have : f = 0 ∨ f = 1 ∨ f = 2 ∨ f = 3 ∨ f = 4 ∨ f = 5 ∨ f = 6 ∨ f = 7 ∨ f = 8 ∨ f = 9 ∨ f = 10 := by omega
  rcases this with rfl | rfl | rfl | rfl | rfl | rfl | rfl | rfl | rfl | rfl | rfl <;> rfl
theorem m_dfl_ok : (List.range 11).all (fun f => (List.range (m_cl f).2.2).all (fun j => decide (defaultValue (m_ty f j) = vp_V (m_dfl f) j) && (decide (m_rv (0, fun _ => 0) (vp_V (m_dfl f) j) = vp_V (m_dfl f) j)))) = true := by decide +kernel
theorem m_dfl_rv (E : m_AE) {f : Nat} (h : f < 11) : (m_dfl f).map (m_rv E) = m_dfl f := by
  have : f = 0 ∨ f = 1 ∨ f = 2 ∨ f = 3 ∨ f = 4 ∨ f = 5 ∨ f = 6 ∨ f = 7 ∨ f = 8 ∨ f = 9 ∨ f = 10 := by omega
  rcases this with rfl | rfl | rfl | rfl | rfl | rfl | rfl | rfl | rfl | rfl | rfl <;> rfl
theorem m_dfl_at {f j : Nat} (h : f < 11) (hj : j < (m_cl f).2.2) : defaultValue (m_ty f j) = vp_V (m_dfl f) j := by
  have h1 := List.all_eq_true.mp (List.all_eq_true.mp m_dfl_ok f (List.mem_range.mpr h)) j (List.mem_range.mpr hj)
  simp only [Bool.and_eq_true, decide_eq_true_eq] at h1
  exact h1.1
theorem m_A0 {E : m_AE} {n0 : Nat} {s : State} (hsz : s.heap.size = E.1 + n0) : ∀ q : Nat, s.heap.size ≤ q → m_A E q := fun q h => Nat.le_trans (Nat.le_add_right _ _) (hsz ▸ h)
section HEAP
variable {p : Program} {l : Launch} {e : Env} {R : Room} {s : State} {m : MethodId} {args : Array Value} {below : List Frame} {meth : Method} {c : Code} {Q : State → Prop}
variable {E : m_AE} {D : va_G} {ty : Nat → ClassId} {X : Nat → List Int32} {i d n0 z0 : Nat} {call : Nat → List Value → m_H → Option m_R} {len : Nat} {a : Int} {b pc : Nat} {lv : m_L} {st : List Value} {h : m_H} {C' : m_C}
/-- how large the heap is: as large as the plain one -/
theorem m_W_sz {H : Heap} {locs : List Loc} {cells slots : Nat} {g : JFrame} (k : H.size ≤ s.heap.size + cells → W p l e R s m args below meth c H locs cells slots Q g) : W p l e R s m args below meth c H locs cells slots Q g := fun T hT Y => k (by rw [← hT]; exact Y.heapSize) T hT Y
/-- a new cell is the next one -/
theorem m_new_q {H1 : Heap} {q : Nat} {x : va_E} (hP : va_P D vwCl (m_ws E ty h ++ [(q, x)]) H1) (hD : va_D (m_A E) (m_ws E ty h ++ [(q, x)])) (hH : H1.size ≤ E.1 + h.length + 1) : q = E.1 + h.length := by
  have hq : (m_ws E ty h ++ [(q, x)])[h.length]? = some (q, x) := by
    rw [List.getElem?_append_right (by rw [m_ws_len]; exact Nat.le_refl _), m_ws_len, Nat.sub_self]
    rfl
  have h1 : q < H1.size := (hP _ _ hq).lt
  have h2 : E.1 ≤ q := hD.2 _ _ hq
  by_cases h3 : q - E.1 < h.length
  · exfalso
    have h4 : (m_ws E ty h ++ [(q, x)])[q - E.1]? = some (E.1 + (q - E.1), m_cell E ty h[q - E.1]) := by
      rw [List.getElem?_append_left (by rw [m_ws_len]; exact h3), m_ws_get, List.getElem?_eq_getElem h3]
      rfl
    have h5 := hD.1 _ _ _ _ h4 hq (by show E.1 + (q - E.1) = q; omega)
    omega
  · omega
/-- behind an allocation -/
theorem m_alloc {H1 : Heap} {locs1 : List Loc} {ls : Array Slot} {q N : Nat} {t : Nat} {vs : List Value} {x : va_E} {r : List Value} {pc' : Nat} (hsz : s.heap.size = E.1 + n0) (hn : n0 ≤ h.length) (hz : z0 ≤ m_sz h)
    (hx : x = m_cell E ty (t, vs)) (hN : vs.length = N) (hlen : h.length < 1000000) (hP : va_P D vwCl (m_ws E ty h ++ [(q, x)]) H1) (hD : va_D (m_A E) (m_ws E ty h ++ [(q, x)])) (hS : va_S (m_A E) s.heap H1 locs1) (hl : lv_has ls (m_nl i) (lv.map (m_rq E)))
    (k : m_At E D ty i n0 z0 p l e R s m args below meth c Q (pc', lv, .ref h.length :: r, h ++ [(t, vs)])) : W p l e R s m args below meth c H1 locs1 (h.length - n0 + 1) (m_sz h - z0 + N) Q (F0 m pc' ls (.ref q :: r.map (m_rv E))) := by
  refine m_W_sz (fun hH => ?_)
  have hq := m_new_q hP hD (by omega)
  subst hx
  subst hq
  have kz := k H1 locs1 ls (by rw [m_ws_add]; exact hP) hS hl
  rw [m_sz_add, List.length_append, List.length_singleton] at kz
  have e1 : h.length + 1 - n0 = h.length - n0 + 1 := by omega
  have e2 : m_sz h + vs.length - z0 = m_sz h - z0 + N := by omega
  rw [e1, e2] at kz
  have e3 : m_rv E (.ref h.length) = .ref (E.1 + h.length) := congrArg Value.ref (m_rl_in E hlen)
  have e4 : (Value.ref h.length :: r).map (m_rv E) = .ref (E.1 + h.length) :: r.map (m_rv E) := by rw [List.map_cons, e3]
  rw [e4] at kz
  exact kz
theorem m_add_sp {t : Nat} {vs : List Value} {h' : m_H} (ha : m_add h t vs = some h') : h.length < 1000000 ∧ h' = h ++ [(t, vs)] := by
  unfold m_add at ha
  split at ha
  · rename_i h1
    cases ha
    exact ⟨h1, rfl⟩
  · cases ha
theorem k_putfield (F : m_Fix E D ty X i d n0 p R s m args meth c) {q : Nat} (hok : m_ok i pc (.putfield q, len, a, b) = true) (hs : m_stp X call (.putfield q, len, a, b) pc lv st h = some (.inl C'))
    (k : m_At E D ty i n0 z0 p l e R s m args below meth c Q C') : m_At E D ty i n0 z0 p l e R s m args below meth c Q (pc, lv, st, h) := by
  intro H locs ls hP hS hl
  dsimp only at hP hl ⊢
  obtain ⟨⟨hx, hb, hml, hown, hts⟩, hKn, hEx, hsz, hi, hini, hR⟩ := F
  obtain ⟨hdg, hI⟩ := m_ok_sp hok
  have hI : (decide (len = 3 ∧ (m_oc i, q, b, a.toNat % 100) ∈ m_pf ∧ m_fc (m_ty b (a.toNat % 100)) = a.toNat / 100) && (!(m_fd b (a.toNat % 100)).2.2.2 || decide ((m_y i).name = "<init>" ∧ (m_fd b (a.toNat % 100)).1 = m_cn (m_oc i)))) = true := hI
  rw [Bool.and_eq_true, decide_eq_true_eq] at hI
  obtain ⟨⟨e1, e2, e3⟩, e4⟩ := hI
  subst e1
  obtain ⟨g1, g2, g3⟩ := m_pf_in e2
  rw [m_s_putfield] at hs
  split at hs
  · rename_i v x r
    split at hs
    · rename_i t vs ho
      obtain ⟨ho1, ho2⟩ := m_ob_nth ho
      split at hs
      · rename_i e5
        obtain ⟨e5, e6, e7⟩ := e5
        subst e5
        cases hs
        show W _ _ _ _ _ _ _ _ _ _ _ _ _ _ _ (F0 m pc ls (m_rv E v :: .ref (m_rl E x) :: r.map (m_rv E)))
        rw [m_rl_in E ho1]
        have he : (m_ws E ty h)[x]? = some (E.1 + x, .inr (t, vs.map (m_rv E))) := by
          rw [m_ws_at ho2, m_cell_o E ty (by omega)]
        rw [← e3] at e7
        obtain ⟨f1, f2⟩ := m_fit_ok E e7
        have kk : ∀ (H1 : Heap) (locs1 : List Loc), va_P D vwCl ((m_ws E ty h).set x (E.1 + x, .inr (t, (vs.map (m_rv E)).set (a.toNat % 100) (m_rv E v)))) H1 → va_D (m_A E) ((m_ws E ty h).set x (E.1 + x, .inr (t, (vs.map (m_rv E)).set (a.toNat % 100) (m_rv E v)))) → va_S (m_A E) s.heap H1 locs1 → W p l e R s m args below meth c H1 locs1 (h.length - n0) (m_sz h - z0) Q (F0 m (pc + 3) ls (r.map (m_rv E))) := by
          intro H1 locs1 hP1 _ hS1
          have kz := k H1 locs1 ls (by show va_P D vwCl (m_ws E ty (h.set x (t, vs.set (a.toNat % 100) v))) H1; rw [m_ws_set, m_cell_o E ty (by omega), List.map_set]; exact hP1) hS1 hl
          rw [List.length_set, m_sz_set ho2 (by simp)] at kz
          exact kz
        by_cases hfin : (m_fd t (a.toNat % 100)).2.2.2 = true
        · rw [hfin] at e4
          simp only [Bool.not_true, Bool.false_or, decide_eq_true_eq] at e4
          exact va_putF hx hb hts (m_in_ok g2) (m_ty t) (m_ty_ok g2) (m_nm_ok g2) hown hKn.1 hP (m_ws_D E ty h) hS x he (m_cl_at g2) (a.toNat % 100) g3 (hts _ g1) (fun _ z => z) hfin (hini e4.1) e4.2 (m_ty_ok g2 _ g3) f1 f2 (by simpa using e6) hdg kk
        · exact va_put hx hb hts (m_in_ok g2) (m_ty t) (m_ty_ok g2) (m_nm_ok g2) hown hKn.1 hP (m_ws_D E ty h) hS x he (m_cl_at g2) (a.toNat % 100) g3 (hts _ g1) (fun _ z => z) (Bool.not_eq_true _ ▸ hfin) (m_ty_ok g2 _ g3) f1 f2 (by simpa using e6) hdg kk
      · cases hs
    · cases hs
  · cases hs
theorem k_getstatic (F : m_Fix E D ty X i d n0 p R s m args meth c) {q : Nat} (hok : m_ok i pc (.getstatic q, len, a, b) = true) (hs : m_stp X call (.getstatic q, len, a, b) pc lv st h = some (.inl C'))
    (k : m_At E D ty i n0 z0 p l e R s m args below meth c Q C') : m_At E D ty i n0 z0 p l e R s m args below meth c Q (pc, lv, st, h) := by
  intro H locs ls hP hS hl
  dsimp only at hP hl ⊢
  obtain ⟨⟨hx, hb, hml, hown, hts⟩, hKn, hEx, hsz, hi, hini, hR⟩ := F
  obtain ⟨hdg, hI⟩ := m_ok_sp hok
  obtain ⟨e1, e2⟩ : len = 3 ∧ ((m_oc i, q, b) ∈ m_ps ∨ (m_oc i, q, b) ∈ m_psN) := of_decide_eq_true hI
  subst e1
  rw [m_s_getstatic] at hs
  cases hs
  have hv : m_rv E (.ref (1000000 + b)) = .ref (E.2 b) := by
    show Value.ref (m_rl E (1000000 + b)) = _
    unfold m_rl
    rw [if_neg (by omega), Nat.add_sub_cancel_left]
  have k2 : W p l e R s m args below meth c H locs (h.length - n0) (m_sz h - z0) Q (F0 m (pc + 3) ls (.ref (E.2 b) :: st.map (m_rv E))) := by
    have kz := k _ _ _ hP hS hl
    rw [List.map_cons, hv] at kz
    exact kz
  rcases e2 with e2 | e2
  · exact va_gets hx hb (hEx.2 b (m_ps_in e2).2) hS hown (hts _ (m_ps_in e2).1) (fun _ z => z) hdg k2
  · exact va_getsN hx hb (hEx.2 b (m_psN_in e2).2) hS hown (va_Nw.use rfl (hKn.2.1 _ (m_psN_in e2).1)) (fun _ z => z) hdg k2
theorem k_new (F : m_Fix E D ty X i d n0 p R s m args meth c) {q : Nat} (hok : m_ok i pc (.new q, len, a, b) = true) (hs : m_stp X call (.new q, len, a, b) pc lv st h = some (.inl C')) (hn : n0 ≤ h.length) (hz : z0 ≤ m_sz h) (hc1 : C'.2.2.2.length - n0 ≤ R.cells) (hc2 : m_sz C'.2.2.2 - z0 ≤ R.slots)
    (k : m_At E D ty i n0 z0 p l e R s m args below meth c Q C') : m_At E D ty i n0 z0 p l e R s m args below meth c Q (pc, lv, st, h) := by
  intro H locs ls hP hS hl
  dsimp only at hP hl ⊢
  obtain ⟨⟨hx, hb, hml, hown, hts⟩, hKn, hEx, hsz, hi, hini, hR⟩ := F
  obtain ⟨hdg, hI⟩ := m_ok_sp hok
  obtain ⟨e1, e2⟩ : len = 3 ∧ (m_oc i, q, b) ∈ m_pc := of_decide_eq_true hI
  subst e1
  obtain ⟨g1, g2, g3, g4⟩ := m_pc_in e2
  rw [m_s_new] at hs
  split at hs
  · rename_i h' ha
    cases hs
    obtain ⟨a1, rfl⟩ := m_add_sp ha
    rw [List.length_append, List.length_singleton] at hc1
    rw [m_sz_add, m_dfl_len g4] at hc2
    refine va_new hx hb hts (m_in_ok g4) (m_ty b) (m_ty_ok g4) hown (hts _ g1) (hts _ g2) (hts _ g3) hKn.1 hP (m_ws_D E ty h) hS (m_A0 hsz) (m_cl_at g4) (fs := m_dfl b) (fun j hj => m_dfl_at g4 hj) (by omega) (by omega) hdg (fun x H1 hP1 hD1 hS1 => ?_)
    exact m_alloc hsz hn hz (by rw [m_cell_o E ty (by omega), m_dfl_rv E g4]) (m_dfl_len g4) a1 hP1 hD1 hS1 hl k
  · cases hs
theorem k_newarray (F : m_Fix E D ty X i d n0 p R s m args meth c) {q : ArrayType} (hok : m_ok i pc (.newarray q, len, a, b) = true) (hs : m_stp X call (.newarray q, len, a, b) pc lv st h = some (.inl C')) (hn : n0 ≤ h.length) (hz : z0 ≤ m_sz h) (hc1 : C'.2.2.2.length - n0 ≤ R.cells) (hc2 : m_sz C'.2.2.2 - z0 ≤ R.slots)
    (k : m_At E D ty i n0 z0 p l e R s m args below meth c Q C') : m_At E D ty i n0 z0 p l e R s m args below meth c Q (pc, lv, st, h) := by
  intro H locs ls hP hS hl
  dsimp only at hP hl ⊢
  obtain ⟨⟨hx, hb, hml, hown, hts⟩, hKn, hEx, hsz, hi, hini, hR⟩ := F
  obtain ⟨hdg, hI⟩ := m_ok_sp hok
  obtain ⟨e1, e2⟩ : len = 2 ∧ ((q = .int ∧ b = 20) ∨ (q = .boolean ∧ b = 21)) := of_decide_eq_true hI
  subst e1
  rw [m_s_newarray] at hs
  split at hs
  · rename_i x r
    split at hs
    · rename_i w hw
      obtain ⟨w1, w2⟩ := m_ix_sp hw
      split at hs
      · rename_i w3
        split at hs
        · rename_i h' ha
          cases hs
          obtain ⟨a1, rfl⟩ := m_add_sp ha
          rw [List.length_append, List.length_singleton] at hc1
          rw [m_sz_add, List.length_replicate] at hc2
          have hf : (fun j => m_i1 ((List.replicate w (Value.int 0)).getD j (.int 0))) = fun _ => (0 : Int32) := by
            funext j
            by_cases hj : j < w <;> simp [List.getD_eq_getElem?_getD, List.getElem?_replicate, hj, m_i1]
          rcases e2 with ⟨rfl, rfl⟩ | ⟨rfl, rfl⟩
          · refine va_newa (atype := .int) (a0 := (w, .inl (fun _ => 0))) hx hb (hts _ (m_has_in m_arr_ok.1)) rfl hKn.1 hP (m_ws_D E ty h) hS (m_A0 hsz) (fun cA => rfl) w1 w2 (by show w * 4 ≤ _; omega) (by omega) (by omega) hdg (fun y cA H1 hK1 hP1 hD1 hS1 => ?_)
            have hcA : cA = ty 0 := Option.some.inj (((hK1.2 7 (cA, .int) rfl).2.symm.trans (hKn.1.2 0 (ty 0, .int) rfl).2))
            subst hcA
            exact m_alloc (t := 20) hsz hn hz (by rw [m_cell_i, hf, List.length_replicate]) (List.length_replicate ..) a1 hP1 hD1 hS1 hl k
          · refine va_newa (atype := .boolean) (a0 := (w, .inl (fun _ => 0))) hx hb (hts _ (m_has_in m_arr_ok.2)) rfl hKn.1 hP (m_ws_D E ty h) hS (m_A0 hsz) (fun cA => rfl) w1 w2 (by show w * 1 ≤ _; omega) (by omega) (by omega) hdg (fun y cA H1 hK1 hP1 hD1 hS1 => ?_)
            have hcA : cA = ty 1 := Option.some.inj (((hK1.2 7 (cA, .boolean) rfl).2.symm.trans (hKn.1.2 1 (ty 1, .boolean) rfl).2))
            subst hcA
            exact m_alloc (t := 21) hsz hn hz (by rw [m_cell_z, hf, List.length_replicate]) (List.length_replicate ..) a1 hP1 hD1 hS1 hl k
        · cases hs
      · cases hs
    · cases hs
  · cases hs
theorem k_anewarray (F : m_Fix E D ty X i d n0 p R s m args meth c) {q : Nat} (hok : m_ok i pc (.anewarray q, len, a, b) = true) (hs : m_stp X call (.anewarray q, len, a, b) pc lv st h = some (.inl C')) (hn : n0 ≤ h.length) (hz : z0 ≤ m_sz h) (hc1 : C'.2.2.2.length - n0 ≤ R.cells) (hc2 : m_sz C'.2.2.2 - z0 ≤ R.slots)
    (k : m_At E D ty i n0 z0 p l e R s m args below meth c Q C') : m_At E D ty i n0 z0 p l e R s m args below meth c Q (pc, lv, st, h) := by
  intro H locs ls hP hS hl
  dsimp only at hP hl ⊢
  obtain ⟨⟨hx, hb, hml, hown, hts⟩, hKn, hEx, hsz, hi, hini, hR⟩ := F
  obtain ⟨hdg, hI⟩ := m_ok_sp hok
  obtain ⟨e1, e2, e3⟩ : len = 3 ∧ (m_oc i, q, m_cmp b) ∈ m_pc ∧ 22 ≤ b ∧ b ≤ 26 := of_decide_eq_true hI
  subst e1
  obtain ⟨g1, -, -, g4⟩ := m_pc_in e2
  obtain ⟨t1, t2, t3⟩ := m_tys_q ty e3
  rw [m_s_anewarray] at hs
  split at hs
  · rename_i x r
    split at hs
    · rename_i w hw
      obtain ⟨w1, w2⟩ := m_ix_sp hw
      split at hs
      · rename_i w3
        split at hs
        · rename_i h' ha
          cases hs
          obtain ⟨a1, rfl⟩ := m_add_sp ha
          rw [List.length_append, List.length_singleton] at hc1
          rw [m_sz_add, List.length_replicate] at hc2
          have hf : (fun j => m_or E ((List.replicate w Value.null).getD j .null)) = fun _ => none := by
            funext j
            by_cases hj : j < w <;> simp [List.getD_eq_getElem?_getD, List.getElem?_replicate, hj, m_or]
          refine va_newq hx hb hown (hts _ g1) (hKn.2.2 _ t3) hKn.1 hP (m_ws_D E ty h) hS (m_A0 hsz) w1 w2 (by omega) (by omega) (by omega) hdg (fun y cA H1 hK1 hP1 hD1 hS1 => ?_)
          obtain ⟨_, _, -, -, -, n1⟩ := (hK1.2 7 (cA, .object (m_cn5 b)) rfl).2
          obtain ⟨_, _, -, -, -, n2⟩ := (hKn.1.2 _ _ t1).2
          have hcA : cA = ty (b - 20) := Option.some.inj (n1.symm.trans n2)
          subst hcA
          exact m_alloc (t := b) hsz hn hz (by rw [m_cell_q E ty e3.1, hf, List.length_replicate]) (List.length_replicate ..) a1 hP1 hD1 hS1 hl k
        · cases hs
      · cases hs
    · cases hs
  · cases hs
end HEAP
