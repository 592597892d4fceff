/-! ONE STEP of the small machine is steps of the machine -/
/-- what is fixed while a method runs: i its number, d how deep calls may go, n0, z0 how much there was at its start -/
def m_Fix (E : m_AE) (D : va_G) (ty : Nat → ClassId) (X : Nat → List Int32) (i d n0 : Nat) (p : Program) (R : Room) (s : State) (m : MethodId) (args : Array Value) (meth : Method) (c : Code) : Prop :=
  (p.tables.exec = Jvm.exec ∧ c.code = m_b i ∧ c.maxLocals = m_nl i ∧ s.vm.findClass (m_cn (m_oc i)) = some m.cls ∧ ∀ w ∈ lw_good, w.before args s = true) ∧ m_Kn D ty s ∧ m_Ex E X s s.heap ∧ s.heap.size = E.1 + n0 ∧ i < 182 ∧ ((m_y i).name = "<init>" → meth.name = "<init>") ∧ d + 1 ≤ R.frames ∧ 100 * (d + 1) ≤ R.locals
/-- at a place of the small machine the machine comes to Q, whatever heap holds the plain one -/
def m_At (E : m_AE) (D : va_G) (ty : Nat → ClassId) (i n0 z0 : Nat) (p : Program) (l : Launch) (e : Env) (R : Room) (s : State) (m : MethodId) (args : Array Value) (below : List Frame) (meth : Method) (c : Code) (Q : State → Prop) (C : m_C) : Prop :=
  ∀ (H : Heap) (locs : List Loc) (ls : Array Slot), va_P D vwCl (m_ws E ty C.2.2.2) H → va_S (m_A E) s.heap H locs → lv_has ls (m_nl i) (C.2.1.map (m_rq E)) → W p l e R s m args below meth c H locs (C.2.2.2.length - n0) (m_sz C.2.2.2 - z0) Q (F0 m C.1 ls (C.2.2.1.map (m_rv E)))
theorem m_ok_sp {i pc : Nat} {en : m_E} (h : m_ok i pc en = true) : decode (m_b i) pc = .ok (en.1, en.2.1) ∧ m_okI i pc en = true := by
  simp only [m_ok, Bool.and_eq_true, decide_eq_true_eq] at h
  exact h
theorem m_go_sp {pc t : Nat} {off : Int} (h : m_go pc off = some t) : (pc : Int) + off = (t : Int) := by
  unfold m_go at h
  split at h
  · cases h
    omega
  · cases h
theorem m_pk_in {o k : Nat} {v : Int} (h : (o, k, v) ∈ m_pk) : Cond.constant (m_cn o) k (Int32.ofInt v) ∈ lw_good := by
  have h1 := List.all_eq_true.mp m_pk_ok _ h
  dsimp only at h1
  exact m_has_in h1
theorem m_pl_in {o k : Nat} {v : Int} (h : (o, k, v) ∈ m_pl) : Cond.constantLong (m_cn o) k (Int64.ofInt v) ∈ lw_good := by
  have h1 := List.all_eq_true.mp m_pl_ok _ h
  dsimp only at h1
  exact m_has_in h1
theorem m_pf_in {o k f g : Nat} (h : (o, k, f, g) ∈ m_pf) : Cond.fieldLink (m_cn o) k (m_fd f g).1 (m_fd f g).2.1 (m_fd f g).2.2.1 ∈ lw_good ∧ f < 11 ∧ g < (m_cl f).2.2 := by
  obtain ⟨j, hj⟩ := m_zip m_pf_ln m_pf_ok h
  simp only [Bool.and_eq_true, decide_eq_true_eq] at hj
  exact ⟨m_hi_in hj.1, hj.2.1, hj.2.2⟩
theorem m_pfN_in {o k f g : Nat} (h : (o, k, f, g) ∈ m_pfN) : Cond.fieldLinkNest (m_cn o) k (m_fd f g).1 (m_fd f g).2.1 (m_fd f g).2.2.1 m_host ∈ m_nw ∧ f < 11 ∧ g < (m_cl f).2.2 := by
  have hj := List.all_eq_true.mp m_pfN_ok _ h
  simp only [Bool.and_eq_true, decide_eq_true_eq] at hj
  refine ⟨?_, hj⟩
  unfold m_nw
  exact List.mem_append_left _ (List.mem_append_left _ (List.mem_append_left _ (List.mem_map.mpr ⟨_, h, rfl⟩)))
theorem m_cell_o (E : m_AE) (ty : Nat → ClassId) {t : Nat} (h : t < 20) (vs : List Value) : m_cell E ty (t, vs) = .inr (t, vs.map (m_rv E)) := if_pos h
section STEP
variable {p : Program} {l : Launch} {e : Env} {R : Room} {s : State} {m : MethodId} {args : Array Value} {below : List Frame} {meth : Method} {c : Code} {Q : State → Prop}
variable {E : m_AE} {D : va_G} {ty : Nat → ClassId} {X : Nat → List Int32} {i d n0 z0 : Nat} {call : Nat → List Value → m_H → Option m_R} {len : Nat} {a : Int} {b pc : Nat} {lv : m_L} {st : List Value} {h : m_H} {C' : m_C}
theorem k_iconst (F : m_Fix E D ty X i d n0 p R s m args meth c) {q : Int} (hok : m_ok i pc (.iconst q, len, a, b) = true) (hs : m_stp X call (.iconst q, len, a, b) pc lv st h = some (.inl C'))
    (k : m_At E D ty i n0 z0 p l e R s m args below meth c Q C') : m_At E D ty i n0 z0 p l e R s m args below meth c Q (pc, lv, st, h) := by
  intro H locs ls hP hS hl
  obtain ⟨⟨hx, hb, hml, hown, hts⟩, hKn, hEx, hsz, hi, hini, hR⟩ := F
  obtain ⟨hdg, hI⟩ := m_ok_sp hok
  have e1 : len = 1 := of_decide_eq_true hI
  subst e1
  rw [m_s_iconst] at hs
  cases hs
  exact lv_iconst hx hb hdg rfl (k _ _ _ hP hS hl)
theorem k_bipush (F : m_Fix E D ty X i d n0 p R s m args meth c) {q : Int} (hok : m_ok i pc (.bipush q, len, a, b) = true) (hs : m_stp X call (.bipush q, len, a, b) pc lv st h = some (.inl C'))
    (k : m_At E D ty i n0 z0 p l e R s m args below meth c Q C') : m_At E D ty i n0 z0 p l e R s m args below meth c Q (pc, lv, st, h) := by
  intro H locs ls hP hS hl
  obtain ⟨⟨hx, hb, hml, hown, hts⟩, hKn, hEx, hsz, hi, hini, hR⟩ := F
  obtain ⟨hdg, hI⟩ := m_ok_sp hok
  have e1 : len = 2 := of_decide_eq_true hI
  subst e1
  rw [m_s_bipush] at hs
  cases hs
  exact lv_bipush hx hb hdg rfl (k _ _ _ hP hS hl)
theorem k_sipush (F : m_Fix E D ty X i d n0 p R s m args meth c) {q : Int} (hok : m_ok i pc (.sipush q, len, a, b) = true) (hs : m_stp X call (.sipush q, len, a, b) pc lv st h = some (.inl C'))
    (k : m_At E D ty i n0 z0 p l e R s m args below meth c Q C') : m_At E D ty i n0 z0 p l e R s m args below meth c Q (pc, lv, st, h) := by
  intro H locs ls hP hS hl
  obtain ⟨⟨hx, hb, hml, hown, hts⟩, hKn, hEx, hsz, hi, hini, hR⟩ := F
  obtain ⟨hdg, hI⟩ := m_ok_sp hok
  have e1 : len = 3 := of_decide_eq_true hI
  subst e1
  rw [m_s_sipush] at hs
  cases hs
  exact lv_sipush hx hb hdg rfl (k _ _ _ hP hS hl)
theorem k_ldc (F : m_Fix E D ty X i d n0 p R s m args meth c) {q : Nat} (hok : m_ok i pc (.ldc q, len, a, b) = true) (hs : m_stp X call (.ldc q, len, a, b) pc lv st h = some (.inl C'))
    (k : m_At E D ty i n0 z0 p l e R s m args below meth c Q C') : m_At E D ty i n0 z0 p l e R s m args below meth c Q (pc, lv, st, h) := by
  intro H locs ls hP hS hl
  obtain ⟨⟨hx, hb, hml, hown, hts⟩, hKn, hEx, hsz, hi, hini, hR⟩ := F
  obtain ⟨hdg, hI⟩ := m_ok_sp hok
  obtain ⟨e1, e2⟩ : len = 2 ∧ (m_oc i, q, a) ∈ m_pk := of_decide_eq_true hI
  subst e1
  rw [m_s_ldc] at hs
  cases hs
  exact lv_ldc hx hb hown (hts _ (m_pk_in e2)) hdg (k _ _ _ hP hS hl)
theorem k_ldc_w (F : m_Fix E D ty X i d n0 p R s m args meth c) {q : Nat} (hok : m_ok i pc (.ldc_w q, len, a, b) = true) (hs : m_stp X call (.ldc_w q, len, a, b) pc lv st h = some (.inl C'))
    (k : m_At E D ty i n0 z0 p l e R s m args below meth c Q C') : m_At E D ty i n0 z0 p l e R s m args below meth c Q (pc, lv, st, h) := by
  intro H locs ls hP hS hl
  obtain ⟨⟨hx, hb, hml, hown, hts⟩, hKn, hEx, hsz, hi, hini, hR⟩ := F
  obtain ⟨hdg, hI⟩ := m_ok_sp hok
  obtain ⟨e1, e2⟩ : len = 3 ∧ (m_oc i, q, a) ∈ m_pk := of_decide_eq_true hI
  subst e1
  rw [m_s_ldc_w] at hs
  cases hs
  exact lv_ldcw hx hb hown (hts _ (m_pk_in e2)) hdg (k _ _ _ hP hS hl)
theorem k_ldc2_w (F : m_Fix E D ty X i d n0 p R s m args meth c) {q : Nat} (hok : m_ok i pc (.ldc2_w q, len, a, b) = true) (hs : m_stp X call (.ldc2_w q, len, a, b) pc lv st h = some (.inl C'))
    (k : m_At E D ty i n0 z0 p l e R s m args below meth c Q C') : m_At E D ty i n0 z0 p l e R s m args below meth c Q (pc, lv, st, h) := by
  intro H locs ls hP hS hl
  obtain ⟨⟨hx, hb, hml, hown, hts⟩, hKn, hEx, hsz, hi, hini, hR⟩ := F
  obtain ⟨hdg, hI⟩ := m_ok_sp hok
  obtain ⟨e1, e2⟩ : len = 3 ∧ (m_oc i, q, a) ∈ m_pl := of_decide_eq_true hI
  subst e1
  rw [m_s_ldc2_w] at hs
  cases hs
  exact lv_ldc2 hx hb hown (hts _ (m_pl_in e2)) hdg (k _ _ _ hP hS hl)
theorem k_aconst_null (F : m_Fix E D ty X i d n0 p R s m args meth c) (hok : m_ok i pc (.aconst_null, len, a, b) = true) (hs : m_stp X call (.aconst_null, len, a, b) pc lv st h = some (.inl C'))
    (k : m_At E D ty i n0 z0 p l e R s m args below meth c Q C') : m_At E D ty i n0 z0 p l e R s m args below meth c Q (pc, lv, st, h) := by
  intro H locs ls hP hS hl
  obtain ⟨⟨hx, hb, hml, hown, hts⟩, hKn, hEx, hsz, hi, hini, hR⟩ := F
  obtain ⟨hdg, hI⟩ := m_ok_sp hok
  have e1 : len = 1 := of_decide_eq_true hI
  subst e1
  rw [m_s_aconst_null] at hs
  cases hs
  exact lv_null hx hb hdg (k _ _ _ hP hS hl)
theorem k_iload_n (F : m_Fix E D ty X i d n0 p R s m args meth c) {q : Fin 4} (hok : m_ok i pc (.iload_n q, len, a, b) = true) (hs : m_stp X call (.iload_n q, len, a, b) pc lv st h = some (.inl C'))
    (k : m_At E D ty i n0 z0 p l e R s m args below meth c Q C') : m_At E D ty i n0 z0 p l e R s m args below meth c Q (pc, lv, st, h) := by
  intro H locs ls hP hS hl
  obtain ⟨⟨hx, hb, hml, hown, hts⟩, hKn, hEx, hsz, hi, hini, hR⟩ := F
  obtain ⟨hdg, hI⟩ := m_ok_sp hok
  have e1 : len = 1 := of_decide_eq_true hI
  subst e1
  rw [m_s_iload_n] at hs
  split at hs
  · rename_i hg
    cases hs
    exact lv_iload_n hx hb hdg rfl (m_lat hl hg) (k _ _ _ hP hS hl)
  · cases hs
theorem k_iload (F : m_Fix E D ty X i d n0 p R s m args meth c) {q : Nat} (hok : m_ok i pc (.iload q, len, a, b) = true) (hs : m_stp X call (.iload q, len, a, b) pc lv st h = some (.inl C'))
    (k : m_At E D ty i n0 z0 p l e R s m args below meth c Q C') : m_At E D ty i n0 z0 p l e R s m args below meth c Q (pc, lv, st, h) := by
  intro H locs ls hP hS hl
  obtain ⟨⟨hx, hb, hml, hown, hts⟩, hKn, hEx, hsz, hi, hini, hR⟩ := F
  obtain ⟨hdg, hI⟩ := m_ok_sp hok
  have e1 : len = 2 := of_decide_eq_true hI
  subst e1
  rw [m_s_iload] at hs
  split at hs
  · rename_i hg
    cases hs
    exact lv_iload hx hb hdg (m_lat hl hg) (k _ _ _ hP hS hl)
  · cases hs
theorem k_lload_n (F : m_Fix E D ty X i d n0 p R s m args meth c) {q : Fin 4} (hok : m_ok i pc (.lload_n q, len, a, b) = true) (hs : m_stp X call (.lload_n q, len, a, b) pc lv st h = some (.inl C'))
    (k : m_At E D ty i n0 z0 p l e R s m args below meth c Q C') : m_At E D ty i n0 z0 p l e R s m args below meth c Q (pc, lv, st, h) := by
  intro H locs ls hP hS hl
  obtain ⟨⟨hx, hb, hml, hown, hts⟩, hKn, hEx, hsz, hi, hini, hR⟩ := F
  obtain ⟨hdg, hI⟩ := m_ok_sp hok
  have e1 : len = 1 := of_decide_eq_true hI
  subst e1
  rw [m_s_lload_n] at hs
  split at hs
  · rename_i hg
    cases hs
    exact lv_lload_n hx hb hdg rfl (m_lat hl hg) (k _ _ _ hP hS hl)
  · cases hs
theorem k_lload (F : m_Fix E D ty X i d n0 p R s m args meth c) {q : Nat} (hok : m_ok i pc (.lload q, len, a, b) = true) (hs : m_stp X call (.lload q, len, a, b) pc lv st h = some (.inl C'))
    (k : m_At E D ty i n0 z0 p l e R s m args below meth c Q C') : m_At E D ty i n0 z0 p l e R s m args below meth c Q (pc, lv, st, h) := by
  intro H locs ls hP hS hl
  obtain ⟨⟨hx, hb, hml, hown, hts⟩, hKn, hEx, hsz, hi, hini, hR⟩ := F
  obtain ⟨hdg, hI⟩ := m_ok_sp hok
  have e1 : len = 2 := of_decide_eq_true hI
  subst e1
  rw [m_s_lload] at hs
  split at hs
  · rename_i hg
    cases hs
    exact lv_lload hx hb hdg (m_lat hl hg) (k _ _ _ hP hS hl)
  · cases hs
theorem k_aload_n (F : m_Fix E D ty X i d n0 p R s m args meth c) {q : Fin 4} (hok : m_ok i pc (.aload_n q, len, a, b) = true) (hs : m_stp X call (.aload_n q, len, a, b) pc lv st h = some (.inl C'))
    (k : m_At E D ty i n0 z0 p l e R s m args below meth c Q C') : m_At E D ty i n0 z0 p l e R s m args below meth c Q (pc, lv, st, h) := by
  intro H locs ls hP hS hl
  obtain ⟨⟨hx, hb, hml, hown, hts⟩, hKn, hEx, hsz, hi, hini, hR⟩ := F
  obtain ⟨hdg, hI⟩ := m_ok_sp hok
  have e1 : len = 1 := of_decide_eq_true hI
  subst e1
  rw [m_s_aload_n] at hs
  split at hs
  · rename_i hg
    cases hs
    exact lv_aload_n hx hb hdg rfl (m_lat hl hg) (k _ _ _ hP hS hl)
  · rename_i hg
    cases hs
    exact lv_aload_nN hx hb hdg rfl (m_lat hl hg) (k _ _ _ hP hS hl)
  · cases hs
theorem k_aload (F : m_Fix E D ty X i d n0 p R s m args meth c) {q : Nat} (hok : m_ok i pc (.aload q, len, a, b) = true) (hs : m_stp X call (.aload q, len, a, b) pc lv st h = some (.inl C'))
    (k : m_At E D ty i n0 z0 p l e R s m args below meth c Q C') : m_At E D ty i n0 z0 p l e R s m args below meth c Q (pc, lv, st, h) := by
  intro H locs ls hP hS hl
  obtain ⟨⟨hx, hb, hml, hown, hts⟩, hKn, hEx, hsz, hi, hini, hR⟩ := F
  obtain ⟨hdg, hI⟩ := m_ok_sp hok
  have e1 : len = 2 := of_decide_eq_true hI
  subst e1
  rw [m_s_aload] at hs
  split at hs
  · rename_i hg
    cases hs
    exact lv_aload hx hb hdg (m_lat hl hg) (k _ _ _ hP hS hl)
  · rename_i hg
    cases hs
    exact lv_aloadN hx hb hdg (m_lat hl hg) (k _ _ _ hP hS hl)
  · cases hs
theorem k_istore_n (F : m_Fix E D ty X i d n0 p R s m args meth c) {q : Fin 4} (hok : m_ok i pc (.istore_n q, len, a, b) = true) (hs : m_stp X call (.istore_n q, len, a, b) pc lv st h = some (.inl C'))
    (k : m_At E D ty i n0 z0 p l e R s m args below meth c Q C') : m_At E D ty i n0 z0 p l e R s m args below meth c Q (pc, lv, st, h) := by
  intro H locs ls hP hS hl
  obtain ⟨⟨hx, hb, hml, hown, hts⟩, hKn, hEx, hsz, hi, hini, hR⟩ := F
  obtain ⟨hdg, hI⟩ := m_ok_sp hok
  obtain ⟨e1, e2⟩ : len = 1 ∧ q.val < m_nl i := of_decide_eq_true hI
  subst e1
  rw [m_s_istore_n] at hs
  split at hs
  · cases hs
    exact lv_istore_n hx hb hdg rfl hl e2 (m_st_map E lv q.val (.int _)) (fun ls' hl' => k _ _ _ hP hS hl')
  · cases hs
theorem k_istore (F : m_Fix E D ty X i d n0 p R s m args meth c) {q : Nat} (hok : m_ok i pc (.istore q, len, a, b) = true) (hs : m_stp X call (.istore q, len, a, b) pc lv st h = some (.inl C'))
    (k : m_At E D ty i n0 z0 p l e R s m args below meth c Q C') : m_At E D ty i n0 z0 p l e R s m args below meth c Q (pc, lv, st, h) := by
  intro H locs ls hP hS hl
  obtain ⟨⟨hx, hb, hml, hown, hts⟩, hKn, hEx, hsz, hi, hini, hR⟩ := F
  obtain ⟨hdg, hI⟩ := m_ok_sp hok
  obtain ⟨e1, e2⟩ : len = 2 ∧ q < m_nl i := of_decide_eq_true hI
  subst e1
  rw [m_s_istore] at hs
  split at hs
  · cases hs
    exact lv_istore hx hb hdg hl e2 (m_st_map E lv q (.int _)) (fun ls' hl' => k _ _ _ hP hS hl')
  · cases hs
theorem k_astore_n (F : m_Fix E D ty X i d n0 p R s m args meth c) {q : Fin 4} (hok : m_ok i pc (.astore_n q, len, a, b) = true) (hs : m_stp X call (.astore_n q, len, a, b) pc lv st h = some (.inl C'))
    (k : m_At E D ty i n0 z0 p l e R s m args below meth c Q C') : m_At E D ty i n0 z0 p l e R s m args below meth c Q (pc, lv, st, h) := by
  intro H locs ls hP hS hl
  obtain ⟨⟨hx, hb, hml, hown, hts⟩, hKn, hEx, hsz, hi, hini, hR⟩ := F
  obtain ⟨hdg, hI⟩ := m_ok_sp hok
  obtain ⟨e1, e2⟩ : len = 1 ∧ q.val < m_nl i := of_decide_eq_true hI
  subst e1
  rw [m_s_astore_n] at hs
  split at hs
  · cases hs
    exact lv_astore_n hx hb hdg rfl hl e2 (m_st_map E lv q.val (.ref _)) (fun ls' hl' => k _ _ _ hP hS hl')
  · cases hs
    exact lv_astore_nN hx hb hdg rfl hl e2 (m_st_map E lv q.val .null) (fun ls' hl' => k _ _ _ hP hS hl')
  · cases hs
theorem k_astore (F : m_Fix E D ty X i d n0 p R s m args meth c) {q : Nat} (hok : m_ok i pc (.astore q, len, a, b) = true) (hs : m_stp X call (.astore q, len, a, b) pc lv st h = some (.inl C'))
    (k : m_At E D ty i n0 z0 p l e R s m args below meth c Q C') : m_At E D ty i n0 z0 p l e R s m args below meth c Q (pc, lv, st, h) := by
  intro H locs ls hP hS hl
  obtain ⟨⟨hx, hb, hml, hown, hts⟩, hKn, hEx, hsz, hi, hini, hR⟩ := F
  obtain ⟨hdg, hI⟩ := m_ok_sp hok
  obtain ⟨e1, e2⟩ : len = 2 ∧ q < m_nl i := of_decide_eq_true hI
  subst e1
  rw [m_s_astore] at hs
  split at hs
  · cases hs
    exact lv_astore hx hb hdg hl e2 (m_st_map E lv q (.ref _)) (fun ls' hl' => k _ _ _ hP hS hl')
  · cases hs
    exact lv_astoreN hx hb hdg hl e2 (m_st_map E lv q .null) (fun ls' hl' => k _ _ _ hP hS hl')
  · cases hs
theorem k_iinc (F : m_Fix E D ty X i d n0 p R s m args meth c) {q : Nat} {q2 : Int} (hok : m_ok i pc (.iinc q q2, len, a, b) = true) (hs : m_stp X call (.iinc q q2, len, a, b) pc lv st h = some (.inl C'))
    (k : m_At E D ty i n0 z0 p l e R s m args below meth c Q C') : m_At E D ty i n0 z0 p l e R s m args below meth c Q (pc, lv, st, h) := by
  intro H locs ls hP hS hl
  obtain ⟨⟨hx, hb, hml, hown, hts⟩, hKn, hEx, hsz, hi, hini, hR⟩ := F
  obtain ⟨hdg, hI⟩ := m_ok_sp hok
  obtain ⟨e1, e2⟩ : len = 3 ∧ q < m_nl i := of_decide_eq_true hI
  subst e1
  rw [m_s_iinc] at hs
  split at hs
  · rename_i hg
    cases hs
    obtain ⟨k1, hk1⟩ := m_lmem (E := E) hg
    exact lv_iinc hx hb hdg hl hk1 rfl e2 (m_st_map E lv q (.int _)) (fun ls' hl' => k _ _ _ hP hS hl')
  · cases hs
theorem k_iadd (F : m_Fix E D ty X i d n0 p R s m args meth c) (hok : m_ok i pc (.iadd, len, a, b) = true) (hs : m_stp X call (.iadd, len, a, b) pc lv st h = some (.inl C'))
    (k : m_At E D ty i n0 z0 p l e R s m args below meth c Q C') : m_At E D ty i n0 z0 p l e R s m args below meth c Q (pc, lv, st, h) := by
  intro H locs ls hP hS hl
  obtain ⟨⟨hx, hb, hml, hown, hts⟩, hKn, hEx, hsz, hi, hini, hR⟩ := F
  obtain ⟨hdg, hI⟩ := m_ok_sp hok
  have e1 : len = 1 := of_decide_eq_true hI
  subst e1
  rw [m_s_iadd] at hs
  split at hs
  · cases hs
    exact lv_iadd hx hb hdg (k _ _ _ hP hS hl)
  · cases hs
theorem k_isub (F : m_Fix E D ty X i d n0 p R s m args meth c) (hok : m_ok i pc (.isub, len, a, b) = true) (hs : m_stp X call (.isub, len, a, b) pc lv st h = some (.inl C'))
    (k : m_At E D ty i n0 z0 p l e R s m args below meth c Q C') : m_At E D ty i n0 z0 p l e R s m args below meth c Q (pc, lv, st, h) := by
  intro H locs ls hP hS hl
  obtain ⟨⟨hx, hb, hml, hown, hts⟩, hKn, hEx, hsz, hi, hini, hR⟩ := F
  obtain ⟨hdg, hI⟩ := m_ok_sp hok
  have e1 : len = 1 := of_decide_eq_true hI
  subst e1
  rw [m_s_isub] at hs
  split at hs
  · cases hs
    exact lv_isub hx hb hdg (k _ _ _ hP hS hl)
  · cases hs
theorem k_imul (F : m_Fix E D ty X i d n0 p R s m args meth c) (hok : m_ok i pc (.imul, len, a, b) = true) (hs : m_stp X call (.imul, len, a, b) pc lv st h = some (.inl C'))
    (k : m_At E D ty i n0 z0 p l e R s m args below meth c Q C') : m_At E D ty i n0 z0 p l e R s m args below meth c Q (pc, lv, st, h) := by
  intro H locs ls hP hS hl
  obtain ⟨⟨hx, hb, hml, hown, hts⟩, hKn, hEx, hsz, hi, hini, hR⟩ := F
  obtain ⟨hdg, hI⟩ := m_ok_sp hok
  have e1 : len = 1 := of_decide_eq_true hI
  subst e1
  rw [m_s_imul] at hs
  split at hs
  · cases hs
    exact lv_imul hx hb hdg (k _ _ _ hP hS hl)
  · cases hs
theorem k_iand (F : m_Fix E D ty X i d n0 p R s m args meth c) (hok : m_ok i pc (.iand, len, a, b) = true) (hs : m_stp X call (.iand, len, a, b) pc lv st h = some (.inl C'))
    (k : m_At E D ty i n0 z0 p l e R s m args below meth c Q C') : m_At E D ty i n0 z0 p l e R s m args below meth c Q (pc, lv, st, h) := by
  intro H locs ls hP hS hl
  obtain ⟨⟨hx, hb, hml, hown, hts⟩, hKn, hEx, hsz, hi, hini, hR⟩ := F
  obtain ⟨hdg, hI⟩ := m_ok_sp hok
  have e1 : len = 1 := of_decide_eq_true hI
  subst e1
  rw [m_s_iand] at hs
  split at hs
  · cases hs
    exact lv_iand hx hb hdg (k _ _ _ hP hS hl)
  · cases hs
theorem k_ior (F : m_Fix E D ty X i d n0 p R s m args meth c) (hok : m_ok i pc (.ior, len, a, b) = true) (hs : m_stp X call (.ior, len, a, b) pc lv st h = some (.inl C'))
    (k : m_At E D ty i n0 z0 p l e R s m args below meth c Q C') : m_At E D ty i n0 z0 p l e R s m args below meth c Q (pc, lv, st, h) := by
  intro H locs ls hP hS hl
  obtain ⟨⟨hx, hb, hml, hown, hts⟩, hKn, hEx, hsz, hi, hini, hR⟩ := F
  obtain ⟨hdg, hI⟩ := m_ok_sp hok
  have e1 : len = 1 := of_decide_eq_true hI
  subst e1
  rw [m_s_ior] at hs
  split at hs
  · cases hs
    exact lv_ior hx hb hdg (k _ _ _ hP hS hl)
  · cases hs
theorem k_ixor (F : m_Fix E D ty X i d n0 p R s m args meth c) (hok : m_ok i pc (.ixor, len, a, b) = true) (hs : m_stp X call (.ixor, len, a, b) pc lv st h = some (.inl C'))
    (k : m_At E D ty i n0 z0 p l e R s m args below meth c Q C') : m_At E D ty i n0 z0 p l e R s m args below meth c Q (pc, lv, st, h) := by
  intro H locs ls hP hS hl
  obtain ⟨⟨hx, hb, hml, hown, hts⟩, hKn, hEx, hsz, hi, hini, hR⟩ := F
  obtain ⟨hdg, hI⟩ := m_ok_sp hok
  have e1 : len = 1 := of_decide_eq_true hI
  subst e1
  rw [m_s_ixor] at hs
  split at hs
  · cases hs
    exact lv_ixor hx hb hdg (k _ _ _ hP hS hl)
  · cases hs
theorem k_ishl (F : m_Fix E D ty X i d n0 p R s m args meth c) (hok : m_ok i pc (.ishl, len, a, b) = true) (hs : m_stp X call (.ishl, len, a, b) pc lv st h = some (.inl C'))
    (k : m_At E D ty i n0 z0 p l e R s m args below meth c Q C') : m_At E D ty i n0 z0 p l e R s m args below meth c Q (pc, lv, st, h) := by
  intro H locs ls hP hS hl
  obtain ⟨⟨hx, hb, hml, hown, hts⟩, hKn, hEx, hsz, hi, hini, hR⟩ := F
  obtain ⟨hdg, hI⟩ := m_ok_sp hok
  have e1 : len = 1 := of_decide_eq_true hI
  subst e1
  rw [m_s_ishl] at hs
  split at hs
  · cases hs
    exact lv_ishl hx hb hdg (k _ _ _ hP hS hl)
  · cases hs
theorem k_ishr (F : m_Fix E D ty X i d n0 p R s m args meth c) (hok : m_ok i pc (.ishr, len, a, b) = true) (hs : m_stp X call (.ishr, len, a, b) pc lv st h = some (.inl C'))
    (k : m_At E D ty i n0 z0 p l e R s m args below meth c Q C') : m_At E D ty i n0 z0 p l e R s m args below meth c Q (pc, lv, st, h) := by
  intro H locs ls hP hS hl
  obtain ⟨⟨hx, hb, hml, hown, hts⟩, hKn, hEx, hsz, hi, hini, hR⟩ := F
  obtain ⟨hdg, hI⟩ := m_ok_sp hok
  have e1 : len = 1 := of_decide_eq_true hI
  subst e1
  rw [m_s_ishr] at hs
  split at hs
  · cases hs
    exact lv_ishr hx hb hdg (k _ _ _ hP hS hl)
  · cases hs
theorem k_land (F : m_Fix E D ty X i d n0 p R s m args meth c) (hok : m_ok i pc (.land, len, a, b) = true) (hs : m_stp X call (.land, len, a, b) pc lv st h = some (.inl C'))
    (k : m_At E D ty i n0 z0 p l e R s m args below meth c Q C') : m_At E D ty i n0 z0 p l e R s m args below meth c Q (pc, lv, st, h) := by
  intro H locs ls hP hS hl
  obtain ⟨⟨hx, hb, hml, hown, hts⟩, hKn, hEx, hsz, hi, hini, hR⟩ := F
  obtain ⟨hdg, hI⟩ := m_ok_sp hok
  have e1 : len = 1 := of_decide_eq_true hI
  subst e1
  rw [m_s_land] at hs
  split at hs
  · cases hs
    exact lv_land hx hb hdg (k _ _ _ hP hS hl)
  · cases hs
theorem k_lor (F : m_Fix E D ty X i d n0 p R s m args meth c) (hok : m_ok i pc (.lor, len, a, b) = true) (hs : m_stp X call (.lor, len, a, b) pc lv st h = some (.inl C'))
    (k : m_At E D ty i n0 z0 p l e R s m args below meth c Q C') : m_At E D ty i n0 z0 p l e R s m args below meth c Q (pc, lv, st, h) := by
  intro H locs ls hP hS hl
  obtain ⟨⟨hx, hb, hml, hown, hts⟩, hKn, hEx, hsz, hi, hini, hR⟩ := F
  obtain ⟨hdg, hI⟩ := m_ok_sp hok
  have e1 : len = 1 := of_decide_eq_true hI
  subst e1
  rw [m_s_lor] at hs
  split at hs
  · cases hs
    exact lv_lor hx hb hdg (k _ _ _ hP hS hl)
  · cases hs
theorem k_ineg (F : m_Fix E D ty X i d n0 p R s m args meth c) (hok : m_ok i pc (.ineg, len, a, b) = true) (hs : m_stp X call (.ineg, len, a, b) pc lv st h = some (.inl C'))
    (k : m_At E D ty i n0 z0 p l e R s m args below meth c Q C') : m_At E D ty i n0 z0 p l e R s m args below meth c Q (pc, lv, st, h) := by
  intro H locs ls hP hS hl
  obtain ⟨⟨hx, hb, hml, hown, hts⟩, hKn, hEx, hsz, hi, hini, hR⟩ := F
  obtain ⟨hdg, hI⟩ := m_ok_sp hok
  have e1 : len = 1 := of_decide_eq_true hI
  subst e1
  rw [m_s_ineg] at hs
  split at hs
  · cases hs
    exact lv_ineg hx hb hdg (k _ _ _ hP hS hl)
  · cases hs
theorem k_iushr (F : m_Fix E D ty X i d n0 p R s m args meth c) (hok : m_ok i pc (.iushr, len, a, b) = true) (hs : m_stp X call (.iushr, len, a, b) pc lv st h = some (.inl C'))
    (k : m_At E D ty i n0 z0 p l e R s m args below meth c Q C') : m_At E D ty i n0 z0 p l e R s m args below meth c Q (pc, lv, st, h) := by
  intro H locs ls hP hS hl
  obtain ⟨⟨hx, hb, hml, hown, hts⟩, hKn, hEx, hsz, hi, hini, hR⟩ := F
  obtain ⟨hdg, hI⟩ := m_ok_sp hok
  have e1 : len = 1 := of_decide_eq_true hI
  subst e1
  rw [m_s_iushr] at hs
  split at hs
  · cases hs
    exact lv_iushr hx hb hdg rfl (k _ _ _ hP hS hl)
  · cases hs
theorem k_lshl (F : m_Fix E D ty X i d n0 p R s m args meth c) (hok : m_ok i pc (.lshl, len, a, b) = true) (hs : m_stp X call (.lshl, len, a, b) pc lv st h = some (.inl C'))
    (k : m_At E D ty i n0 z0 p l e R s m args below meth c Q C') : m_At E D ty i n0 z0 p l e R s m args below meth c Q (pc, lv, st, h) := by
  intro H locs ls hP hS hl
  obtain ⟨⟨hx, hb, hml, hown, hts⟩, hKn, hEx, hsz, hi, hini, hR⟩ := F
  obtain ⟨hdg, hI⟩ := m_ok_sp hok
  have e1 : len = 1 := of_decide_eq_true hI
  subst e1
  rw [m_s_lshl] at hs
  split at hs
  · cases hs
    exact lv_lshl hx hb hdg rfl (k _ _ _ hP hS hl)
  · cases hs
theorem k_lshr (F : m_Fix E D ty X i d n0 p R s m args meth c) (hok : m_ok i pc (.lshr, len, a, b) = true) (hs : m_stp X call (.lshr, len, a, b) pc lv st h = some (.inl C'))
    (k : m_At E D ty i n0 z0 p l e R s m args below meth c Q C') : m_At E D ty i n0 z0 p l e R s m args below meth c Q (pc, lv, st, h) := by
  intro H locs ls hP hS hl
  obtain ⟨⟨hx, hb, hml, hown, hts⟩, hKn, hEx, hsz, hi, hini, hR⟩ := F
  obtain ⟨hdg, hI⟩ := m_ok_sp hok
  have e1 : len = 1 := of_decide_eq_true hI
  subst e1
  rw [m_s_lshr] at hs
  split at hs
  · cases hs
    exact lv_lshr hx hb hdg rfl (k _ _ _ hP hS hl)
  · cases hs
theorem k_lushr (F : m_Fix E D ty X i d n0 p R s m args meth c) (hok : m_ok i pc (.lushr, len, a, b) = true) (hs : m_stp X call (.lushr, len, a, b) pc lv st h = some (.inl C'))
    (k : m_At E D ty i n0 z0 p l e R s m args below meth c Q C') : m_At E D ty i n0 z0 p l e R s m args below meth c Q (pc, lv, st, h) := by
  intro H locs ls hP hS hl
  obtain ⟨⟨hx, hb, hml, hown, hts⟩, hKn, hEx, hsz, hi, hini, hR⟩ := F
  obtain ⟨hdg, hI⟩ := m_ok_sp hok
  have e1 : len = 1 := of_decide_eq_true hI
  subst e1
  rw [m_s_lushr] at hs
  split at hs
  · cases hs
    exact lv_lushr hx hb hdg rfl (k _ _ _ hP hS hl)
  · cases hs
theorem k_i2l (F : m_Fix E D ty X i d n0 p R s m args meth c) (hok : m_ok i pc (.i2l, len, a, b) = true) (hs : m_stp X call (.i2l, len, a, b) pc lv st h = some (.inl C'))
    (k : m_At E D ty i n0 z0 p l e R s m args below meth c Q C') : m_At E D ty i n0 z0 p l e R s m args below meth c Q (pc, lv, st, h) := by
  intro H locs ls hP hS hl
  obtain ⟨⟨hx, hb, hml, hown, hts⟩, hKn, hEx, hsz, hi, hini, hR⟩ := F
  obtain ⟨hdg, hI⟩ := m_ok_sp hok
  have e1 : len = 1 := of_decide_eq_true hI
  subst e1
  rw [m_s_i2l] at hs
  split at hs
  · cases hs
    exact lv_i2l hx hb hdg rfl (k _ _ _ hP hS hl)
  · cases hs
theorem k_l2i (F : m_Fix E D ty X i d n0 p R s m args meth c) (hok : m_ok i pc (.l2i, len, a, b) = true) (hs : m_stp X call (.l2i, len, a, b) pc lv st h = some (.inl C'))
    (k : m_At E D ty i n0 z0 p l e R s m args below meth c Q C') : m_At E D ty i n0 z0 p l e R s m args below meth c Q (pc, lv, st, h) := by
  intro H locs ls hP hS hl
  obtain ⟨⟨hx, hb, hml, hown, hts⟩, hKn, hEx, hsz, hi, hini, hR⟩ := F
  obtain ⟨hdg, hI⟩ := m_ok_sp hok
  have e1 : len = 1 := of_decide_eq_true hI
  subst e1
  rw [m_s_l2i] at hs
  split at hs
  · cases hs
    exact lv_l2i hx hb hdg rfl (k _ _ _ hP hS hl)
  · cases hs
theorem k_idiv (F : m_Fix E D ty X i d n0 p R s m args meth c) (hok : m_ok i pc (.idiv, len, a, b) = true) (hs : m_stp X call (.idiv, len, a, b) pc lv st h = some (.inl C'))
    (k : m_At E D ty i n0 z0 p l e R s m args below meth c Q C') : m_At E D ty i n0 z0 p l e R s m args below meth c Q (pc, lv, st, h) := by
  intro H locs ls hP hS hl
  obtain ⟨⟨hx, hb, hml, hown, hts⟩, hKn, hEx, hsz, hi, hini, hR⟩ := F
  obtain ⟨hdg, hI⟩ := m_ok_sp hok
  have e1 : len = 1 := of_decide_eq_true hI
  subst e1
  rw [m_s_idiv] at hs
  split at hs
  · split at hs
    · cases hs
    · rename_i h1
      cases hs
      exact lv_idiv hx hb hdg h1 (k _ _ _ hP hS hl)
  · cases hs
theorem k_irem (F : m_Fix E D ty X i d n0 p R s m args meth c) (hok : m_ok i pc (.irem, len, a, b) = true) (hs : m_stp X call (.irem, len, a, b) pc lv st h = some (.inl C'))
    (k : m_At E D ty i n0 z0 p l e R s m args below meth c Q C') : m_At E D ty i n0 z0 p l e R s m args below meth c Q (pc, lv, st, h) := by
  intro H locs ls hP hS hl
  obtain ⟨⟨hx, hb, hml, hown, hts⟩, hKn, hEx, hsz, hi, hini, hR⟩ := F
  obtain ⟨hdg, hI⟩ := m_ok_sp hok
  have e1 : len = 1 := of_decide_eq_true hI
  subst e1
  rw [m_s_irem] at hs
  split at hs
  · split at hs
    · cases hs
    · rename_i h1
      cases hs
      exact lv_irem hx hb hdg h1 (k _ _ _ hP hS hl)
  · cases hs
theorem k_dup (F : m_Fix E D ty X i d n0 p R s m args meth c) (hok : m_ok i pc (.dup, len, a, b) = true) (hs : m_stp X call (.dup, len, a, b) pc lv st h = some (.inl C'))
    (k : m_At E D ty i n0 z0 p l e R s m args below meth c Q C') : m_At E D ty i n0 z0 p l e R s m args below meth c Q (pc, lv, st, h) := by
  intro H locs ls hP hS hl
  obtain ⟨⟨hx, hb, hml, hown, hts⟩, hKn, hEx, hsz, hi, hini, hR⟩ := F
  obtain ⟨hdg, hI⟩ := m_ok_sp hok
  have e1 : len = 1 := of_decide_eq_true hI
  subst e1
  rw [m_s_dup] at hs
  split at hs
  · cases hs
    exact lv_dup hx hb hdg rfl (k _ _ _ hP hS hl)
  · cases hs
    exact lv_dup hx hb hdg rfl (k _ _ _ hP hS hl)
  · cases hs
theorem k_dup2 (F : m_Fix E D ty X i d n0 p R s m args meth c) (hok : m_ok i pc (.dup2, len, a, b) = true) (hs : m_stp X call (.dup2, len, a, b) pc lv st h = some (.inl C'))
    (k : m_At E D ty i n0 z0 p l e R s m args below meth c Q C') : m_At E D ty i n0 z0 p l e R s m args below meth c Q (pc, lv, st, h) := by
  intro H locs ls hP hS hl
  obtain ⟨⟨hx, hb, hml, hown, hts⟩, hKn, hEx, hsz, hi, hini, hR⟩ := F
  obtain ⟨hdg, hI⟩ := m_ok_sp hok
  have e1 : len = 1 := of_decide_eq_true hI
  subst e1
  rw [m_s_dup2] at hs
  split at hs
  · cases hs
    exact lv_dup2_11 hx hb hdg rfl rfl (k _ _ _ hP hS hl)
  · cases hs
theorem k_pop (F : m_Fix E D ty X i d n0 p R s m args meth c) (hok : m_ok i pc (.pop, len, a, b) = true) (hs : m_stp X call (.pop, len, a, b) pc lv st h = some (.inl C'))
    (k : m_At E D ty i n0 z0 p l e R s m args below meth c Q C') : m_At E D ty i n0 z0 p l e R s m args below meth c Q (pc, lv, st, h) := by
  intro H locs ls hP hS hl
  obtain ⟨⟨hx, hb, hml, hown, hts⟩, hKn, hEx, hsz, hi, hini, hR⟩ := F
  obtain ⟨hdg, hI⟩ := m_ok_sp hok
  have e1 : len = 1 := of_decide_eq_true hI
  subst e1
  rw [m_s_pop] at hs
  split at hs
  · cases hs
    exact lv_pop hx hb hdg rfl (k _ _ _ hP hS hl)
  · cases hs
theorem k_ifCond_eq (F : m_Fix E D ty X i d n0 p R s m args meth c) {q : Int} (hok : m_ok i pc (.ifCond .eq q, len, a, b) = true) (hs : m_stp X call (.ifCond .eq q, len, a, b) pc lv st h = some (.inl C'))
    (k : m_At E D ty i n0 z0 p l e R s m args below meth c Q C') : m_At E D ty i n0 z0 p l e R s m args below meth c Q (pc, lv, st, h) := by
  intro H locs ls hP hS hl
  obtain ⟨⟨hx, hb, hml, hown, hts⟩, hKn, hEx, hsz, hi, hini, hR⟩ := F
  obtain ⟨hdg, hI⟩ := m_ok_sp hok
  obtain ⟨e1, e2⟩ : len = 3 ∧ (pc : Int) + q = ((a.toNat : Nat) : Int) := of_decide_eq_true hI
  subst e1
  rw [m_s_ifCond_eq] at hs
  split at hs
  · refine lv_if_eq hx hb hdg e2 (fun h1 => ?_) (fun h1 => ?_)
    · rw [if_pos h1] at hs
      cases hs
      exact k _ _ _ hP hS hl
    · rw [if_neg h1] at hs
      cases hs
      exact k _ _ _ hP hS hl
  · cases hs
theorem k_if_icmp_eq (F : m_Fix E D ty X i d n0 p R s m args meth c) {q : Int} (hok : m_ok i pc (.if_icmp .eq q, len, a, b) = true) (hs : m_stp X call (.if_icmp .eq q, len, a, b) pc lv st h = some (.inl C'))
    (k : m_At E D ty i n0 z0 p l e R s m args below meth c Q C') : m_At E D ty i n0 z0 p l e R s m args below meth c Q (pc, lv, st, h) := by
  intro H locs ls hP hS hl
  obtain ⟨⟨hx, hb, hml, hown, hts⟩, hKn, hEx, hsz, hi, hini, hR⟩ := F
  obtain ⟨hdg, hI⟩ := m_ok_sp hok
  obtain ⟨e1, e2⟩ : len = 3 ∧ (pc : Int) + q = ((a.toNat : Nat) : Int) := of_decide_eq_true hI
  subst e1
  rw [m_s_if_icmp_eq] at hs
  split at hs
  · refine lv_icmp_eq hx hb hdg e2 (fun h1 => ?_) (fun h1 => ?_)
    · rw [if_pos h1] at hs
      cases hs
      exact k _ _ _ hP hS hl
    · rw [if_neg h1] at hs
      cases hs
      exact k _ _ _ hP hS hl
  · cases hs
theorem k_ifCond_ne (F : m_Fix E D ty X i d n0 p R s m args meth c) {q : Int} (hok : m_ok i pc (.ifCond .ne q, len, a, b) = true) (hs : m_stp X call (.ifCond .ne q, len, a, b) pc lv st h = some (.inl C'))
    (k : m_At E D ty i n0 z0 p l e R s m args below meth c Q C') : m_At E D ty i n0 z0 p l e R s m args below meth c Q (pc, lv, st, h) := by
  intro H locs ls hP hS hl
  obtain ⟨⟨hx, hb, hml, hown, hts⟩, hKn, hEx, hsz, hi, hini, hR⟩ := F
  obtain ⟨hdg, hI⟩ := m_ok_sp hok
  obtain ⟨e1, e2⟩ : len = 3 ∧ (pc : Int) + q = ((a.toNat : Nat) : Int) := of_decide_eq_true hI
  subst e1
  rw [m_s_ifCond_ne] at hs
  split at hs
  · refine lv_if_ne hx hb hdg e2 (fun h1 => ?_) (fun h1 => ?_)
    · rw [if_neg h1] at hs
      cases hs
      exact k _ _ _ hP hS hl
    · rw [if_pos h1] at hs
      cases hs
      exact k _ _ _ hP hS hl
  · cases hs
theorem k_if_icmp_ne (F : m_Fix E D ty X i d n0 p R s m args meth c) {q : Int} (hok : m_ok i pc (.if_icmp .ne q, len, a, b) = true) (hs : m_stp X call (.if_icmp .ne q, len, a, b) pc lv st h = some (.inl C'))
    (k : m_At E D ty i n0 z0 p l e R s m args below meth c Q C') : m_At E D ty i n0 z0 p l e R s m args below meth c Q (pc, lv, st, h) := by
  intro H locs ls hP hS hl
  obtain ⟨⟨hx, hb, hml, hown, hts⟩, hKn, hEx, hsz, hi, hini, hR⟩ := F
  obtain ⟨hdg, hI⟩ := m_ok_sp hok
  obtain ⟨e1, e2⟩ : len = 3 ∧ (pc : Int) + q = ((a.toNat : Nat) : Int) := of_decide_eq_true hI
  subst e1
  rw [m_s_if_icmp_ne] at hs
  split at hs
  · refine lv_icmp_ne hx hb hdg e2 (fun h1 => ?_) (fun h1 => ?_)
    · rw [if_neg h1] at hs
      cases hs
      exact k _ _ _ hP hS hl
    · rw [if_pos h1] at hs
      cases hs
      exact k _ _ _ hP hS hl
  · cases hs
theorem k_ifCond_lt (F : m_Fix E D ty X i d n0 p R s m args meth c) {q : Int} (hok : m_ok i pc (.ifCond .lt q, len, a, b) = true) (hs : m_stp X call (.ifCond .lt q, len, a, b) pc lv st h = some (.inl C'))
    (k : m_At E D ty i n0 z0 p l e R s m args below meth c Q C') : m_At E D ty i n0 z0 p l e R s m args below meth c Q (pc, lv, st, h) := by
  intro H locs ls hP hS hl
  obtain ⟨⟨hx, hb, hml, hown, hts⟩, hKn, hEx, hsz, hi, hini, hR⟩ := F
  obtain ⟨hdg, hI⟩ := m_ok_sp hok
  obtain ⟨e1, e2⟩ : len = 3 ∧ (pc : Int) + q = ((a.toNat : Nat) : Int) := of_decide_eq_true hI
  subst e1
  rw [m_s_ifCond_lt] at hs
  split at hs
  · refine lv_if_lt hx hb hdg e2 (fun h1 => ?_) (fun h1 => ?_)
    · rw [if_pos h1] at hs
      cases hs
      exact k _ _ _ hP hS hl
    · rw [if_neg h1] at hs
      cases hs
      exact k _ _ _ hP hS hl
  · cases hs
theorem k_if_icmp_lt (F : m_Fix E D ty X i d n0 p R s m args meth c) {q : Int} (hok : m_ok i pc (.if_icmp .lt q, len, a, b) = true) (hs : m_stp X call (.if_icmp .lt q, len, a, b) pc lv st h = some (.inl C'))
    (k : m_At E D ty i n0 z0 p l e R s m args below meth c Q C') : m_At E D ty i n0 z0 p l e R s m args below meth c Q (pc, lv, st, h) := by
  intro H locs ls hP hS hl
  obtain ⟨⟨hx, hb, hml, hown, hts⟩, hKn, hEx, hsz, hi, hini, hR⟩ := F
  obtain ⟨hdg, hI⟩ := m_ok_sp hok
  obtain ⟨e1, e2⟩ : len = 3 ∧ (pc : Int) + q = ((a.toNat : Nat) : Int) := of_decide_eq_true hI
  subst e1
  rw [m_s_if_icmp_lt] at hs
  split at hs
  · refine lv_icmp_lt hx hb hdg e2 (fun h1 => ?_) (fun h1 => ?_)
    · rw [if_pos h1] at hs
      cases hs
      exact k _ _ _ hP hS hl
    · rw [if_neg h1] at hs
      cases hs
      exact k _ _ _ hP hS hl
  · cases hs
theorem k_ifCond_ge (F : m_Fix E D ty X i d n0 p R s m args meth c) {q : Int} (hok : m_ok i pc (.ifCond .ge q, len, a, b) = true) (hs : m_stp X call (.ifCond .ge q, len, a, b) pc lv st h = some (.inl C'))
    (k : m_At E D ty i n0 z0 p l e R s m args below meth c Q C') : m_At E D ty i n0 z0 p l e R s m args below meth c Q (pc, lv, st, h) := by
  intro H locs ls hP hS hl
  obtain ⟨⟨hx, hb, hml, hown, hts⟩, hKn, hEx, hsz, hi, hini, hR⟩ := F
  obtain ⟨hdg, hI⟩ := m_ok_sp hok
  obtain ⟨e1, e2⟩ : len = 3 ∧ (pc : Int) + q = ((a.toNat : Nat) : Int) := of_decide_eq_true hI
  subst e1
  rw [m_s_ifCond_ge] at hs
  split at hs
  · refine lv_if_ge hx hb hdg e2 (fun h1 => ?_) (fun h1 => ?_)
    · rw [if_pos h1] at hs
      cases hs
      exact k _ _ _ hP hS hl
    · rw [if_neg h1] at hs
      cases hs
      exact k _ _ _ hP hS hl
  · cases hs
theorem k_if_icmp_ge (F : m_Fix E D ty X i d n0 p R s m args meth c) {q : Int} (hok : m_ok i pc (.if_icmp .ge q, len, a, b) = true) (hs : m_stp X call (.if_icmp .ge q, len, a, b) pc lv st h = some (.inl C'))
    (k : m_At E D ty i n0 z0 p l e R s m args below meth c Q C') : m_At E D ty i n0 z0 p l e R s m args below meth c Q (pc, lv, st, h) := by
  intro H locs ls hP hS hl
  obtain ⟨⟨hx, hb, hml, hown, hts⟩, hKn, hEx, hsz, hi, hini, hR⟩ := F
  obtain ⟨hdg, hI⟩ := m_ok_sp hok
  obtain ⟨e1, e2⟩ : len = 3 ∧ (pc : Int) + q = ((a.toNat : Nat) : Int) := of_decide_eq_true hI
  subst e1
  rw [m_s_if_icmp_ge] at hs
  split at hs
  · refine lv_icmp_ge hx hb hdg e2 (fun h1 => ?_) (fun h1 => ?_)
    · rw [if_pos h1] at hs
      cases hs
      exact k _ _ _ hP hS hl
    · rw [if_neg h1] at hs
      cases hs
      exact k _ _ _ hP hS hl
  · cases hs
theorem k_ifCond_gt (F : m_Fix E D ty X i d n0 p R s m args meth c) {q : Int} (hok : m_ok i pc (.ifCond .gt q, len, a, b) = true) (hs : m_stp X call (.ifCond .gt q, len, a, b) pc lv st h = some (.inl C'))
    (k : m_At E D ty i n0 z0 p l e R s m args below meth c Q C') : m_At E D ty i n0 z0 p l e R s m args below meth c Q (pc, lv, st, h) := by
  intro H locs ls hP hS hl
  obtain ⟨⟨hx, hb, hml, hown, hts⟩, hKn, hEx, hsz, hi, hini, hR⟩ := F
  obtain ⟨hdg, hI⟩ := m_ok_sp hok
  obtain ⟨e1, e2⟩ : len = 3 ∧ (pc : Int) + q = ((a.toNat : Nat) : Int) := of_decide_eq_true hI
  subst e1
  rw [m_s_ifCond_gt] at hs
  split at hs
  · refine lv_if_gt hx hb hdg e2 (fun h1 => ?_) (fun h1 => ?_)
    · rw [if_pos h1] at hs
      cases hs
      exact k _ _ _ hP hS hl
    · rw [if_neg h1] at hs
      cases hs
      exact k _ _ _ hP hS hl
  · cases hs
theorem k_if_icmp_gt (F : m_Fix E D ty X i d n0 p R s m args meth c) {q : Int} (hok : m_ok i pc (.if_icmp .gt q, len, a, b) = true) (hs : m_stp X call (.if_icmp .gt q, len, a, b) pc lv st h = some (.inl C'))
    (k : m_At E D ty i n0 z0 p l e R s m args below meth c Q C') : m_At E D ty i n0 z0 p l e R s m args below meth c Q (pc, lv, st, h) := by
  intro H locs ls hP hS hl
  obtain ⟨⟨hx, hb, hml, hown, hts⟩, hKn, hEx, hsz, hi, hini, hR⟩ := F
  obtain ⟨hdg, hI⟩ := m_ok_sp hok
  obtain ⟨e1, e2⟩ : len = 3 ∧ (pc : Int) + q = ((a.toNat : Nat) : Int) := of_decide_eq_true hI
  subst e1
  rw [m_s_if_icmp_gt] at hs
  split at hs
  · refine lv_icmp_gt hx hb hdg e2 (fun h1 => ?_) (fun h1 => ?_)
    · rw [if_pos h1] at hs
      cases hs
      exact k _ _ _ hP hS hl
    · rw [if_neg h1] at hs
      cases hs
      exact k _ _ _ hP hS hl
  · cases hs
theorem k_ifCond_le (F : m_Fix E D ty X i d n0 p R s m args meth c) {q : Int} (hok : m_ok i pc (.ifCond .le q, len, a, b) = true) (hs : m_stp X call (.ifCond .le q, len, a, b) pc lv st h = some (.inl C'))
    (k : m_At E D ty i n0 z0 p l e R s m args below meth c Q C') : m_At E D ty i n0 z0 p l e R s m args below meth c Q (pc, lv, st, h) := by
  intro H locs ls hP hS hl
  obtain ⟨⟨hx, hb, hml, hown, hts⟩, hKn, hEx, hsz, hi, hini, hR⟩ := F
  obtain ⟨hdg, hI⟩ := m_ok_sp hok
  obtain ⟨e1, e2⟩ : len = 3 ∧ (pc : Int) + q = ((a.toNat : Nat) : Int) := of_decide_eq_true hI
  subst e1
  rw [m_s_ifCond_le] at hs
  split at hs
  · refine lv_if_le hx hb hdg e2 (fun h1 => ?_) (fun h1 => ?_)
    · rw [if_pos h1] at hs
      cases hs
      exact k _ _ _ hP hS hl
    · rw [if_neg h1] at hs
      cases hs
      exact k _ _ _ hP hS hl
  · cases hs
theorem k_if_icmp_le (F : m_Fix E D ty X i d n0 p R s m args meth c) {q : Int} (hok : m_ok i pc (.if_icmp .le q, len, a, b) = true) (hs : m_stp X call (.if_icmp .le q, len, a, b) pc lv st h = some (.inl C'))
    (k : m_At E D ty i n0 z0 p l e R s m args below meth c Q C') : m_At E D ty i n0 z0 p l e R s m args below meth c Q (pc, lv, st, h) := by
  intro H locs ls hP hS hl
  obtain ⟨⟨hx, hb, hml, hown, hts⟩, hKn, hEx, hsz, hi, hini, hR⟩ := F
  obtain ⟨hdg, hI⟩ := m_ok_sp hok
  obtain ⟨e1, e2⟩ : len = 3 ∧ (pc : Int) + q = ((a.toNat : Nat) : Int) := of_decide_eq_true hI
  subst e1
  rw [m_s_if_icmp_le] at hs
  split at hs
  · refine lv_icmp_le hx hb hdg e2 (fun h1 => ?_) (fun h1 => ?_)
    · rw [if_pos h1] at hs
      cases hs
      exact k _ _ _ hP hS hl
    · rw [if_neg h1] at hs
      cases hs
      exact k _ _ _ hP hS hl
  · cases hs
theorem k_ifnull (F : m_Fix E D ty X i d n0 p R s m args meth c) {q : Int} (hok : m_ok i pc (.ifnull q, len, a, b) = true) (hs : m_stp X call (.ifnull q, len, a, b) pc lv st h = some (.inl C'))
    (k : m_At E D ty i n0 z0 p l e R s m args below meth c Q C') : m_At E D ty i n0 z0 p l e R s m args below meth c Q (pc, lv, st, h) := by
  intro H locs ls hP hS hl
  obtain ⟨⟨hx, hb, hml, hown, hts⟩, hKn, hEx, hsz, hi, hini, hR⟩ := F
  obtain ⟨hdg, hI⟩ := m_ok_sp hok
  obtain ⟨e1, e2⟩ : len = 3 ∧ (pc : Int) + q = ((a.toNat : Nat) : Int) := of_decide_eq_true hI
  subst e1
  rw [m_s_ifnull] at hs
  split at hs
  · cases hs
    exact lv_ifnullN hx hb hdg e2 (k _ _ _ hP hS hl)
  · cases hs
    exact lv_ifnull hx hb hdg (k _ _ _ hP hS hl)
  · cases hs
theorem k_ifnonnull (F : m_Fix E D ty X i d n0 p R s m args meth c) {q : Int} (hok : m_ok i pc (.ifnonnull q, len, a, b) = true) (hs : m_stp X call (.ifnonnull q, len, a, b) pc lv st h = some (.inl C'))
    (k : m_At E D ty i n0 z0 p l e R s m args below meth c Q C') : m_At E D ty i n0 z0 p l e R s m args below meth c Q (pc, lv, st, h) := by
  intro H locs ls hP hS hl
  obtain ⟨⟨hx, hb, hml, hown, hts⟩, hKn, hEx, hsz, hi, hini, hR⟩ := F
  obtain ⟨hdg, hI⟩ := m_ok_sp hok
  obtain ⟨e1, e2⟩ : len = 3 ∧ (pc : Int) + q = ((a.toNat : Nat) : Int) := of_decide_eq_true hI
  subst e1
  rw [m_s_ifnonnull] at hs
  split at hs
  · cases hs
    exact lv_ifnonnullN hx hb hdg (k _ _ _ hP hS hl)
  · cases hs
    exact lv_ifnonnull hx hb hdg e2 (k _ _ _ hP hS hl)
  · cases hs
theorem k_goto (F : m_Fix E D ty X i d n0 p R s m args meth c) {q : Int} (hok : m_ok i pc (.goto q, len, a, b) = true) (hs : m_stp X call (.goto q, len, a, b) pc lv st h = some (.inl C'))
    (k : m_At E D ty i n0 z0 p l e R s m args below meth c Q C') : m_At E D ty i n0 z0 p l e R s m args below meth c Q (pc, lv, st, h) := by
  intro H locs ls hP hS hl
  obtain ⟨⟨hx, hb, hml, hown, hts⟩, hKn, hEx, hsz, hi, hini, hR⟩ := F
  obtain ⟨hdg, hI⟩ := m_ok_sp hok
  obtain ⟨e1, e2⟩ : len = 3 ∧ (pc : Int) + q = ((a.toNat : Nat) : Int) := of_decide_eq_true hI
  subst e1
  rw [m_s_goto] at hs
  cases hs
  exact lv_goto hx hb hdg e2 (k _ _ _ hP hS hl)
theorem k_tableswitch (F : m_Fix E D ty X i d n0 p R s m args meth c) {q lo hi2 : Int} {offs : Array Int} (hok : m_ok i pc (.tableswitch q lo hi2 offs, len, a, b) = true) (hs : m_stp X call (.tableswitch q lo hi2 offs, len, a, b) pc lv st h = some (.inl C'))
    (k : m_At E D ty i n0 z0 p l e R s m args below meth c Q C') : m_At E D ty i n0 z0 p l e R s m args below meth c Q (pc, lv, st, h) := by
  intro H locs ls hP hS hl
  obtain ⟨⟨hx, hb, hml, hown, hts⟩, hKn, hEx, hsz, hi, hini, hR⟩ := F
  obtain ⟨hdg, hI⟩ := m_ok_sp hok
  rw [m_s_tableswitch] at hs
  split at hs
  · split at hs
    · rename_i h1
      split at hs
      · rename_i hg
        cases hs
        exact lv_tableOut hx hb hdg h1 (m_go_sp hg) (k _ _ _ hP hS hl)
      · cases hs
    · rename_i h1
      split at hs
      · rename_i ho
        split at hs
        · rename_i hg
          cases hs
          rw [m_nth_eq, Array.getElem?_toList] at ho
          exact lv_tableIn hx hb hdg (fun z => h1 (Or.inl z)) (fun z => h1 (Or.inr z)) ho (m_go_sp hg) (k _ _ _ hP hS hl)
        · cases hs
      · cases hs
  · cases hs
theorem k_lookupswitch (F : m_Fix E D ty X i d n0 p R s m args meth c) {q : Int} {ps : Array (Int × Int)} (hok : m_ok i pc (.lookupswitch q ps, len, a, b) = true) (hs : m_stp X call (.lookupswitch q ps, len, a, b) pc lv st h = some (.inl C'))
    (k : m_At E D ty i n0 z0 p l e R s m args below meth c Q C') : m_At E D ty i n0 z0 p l e R s m args below meth c Q (pc, lv, st, h) := by
  intro H locs ls hP hS hl
  obtain ⟨⟨hx, hb, hml, hown, hts⟩, hKn, hEx, hsz, hi, hini, hR⟩ := F
  obtain ⟨hdg, hI⟩ := m_ok_sp hok
  rw [m_s_lookupswitch] at hs
  split at hs
  · split at hs
    · rename_i hg
      cases hs
      exact lv_lookup hx hb hdg hI rfl (m_go_sp hg) (k _ _ _ hP hS hl)
    · cases hs
  · cases hs
theorem k_getfield (F : m_Fix E D ty X i d n0 p R s m args meth c) {q : Nat} (hok : m_ok i pc (.getfield q, len, a, b) = true) (hs : m_stp X call (.getfield q, len, a, b) pc lv st h = some (.inl C'))
    (k : m_At E D ty i n0 z0 p l e R s m args below meth c Q C') : m_At E D ty i n0 z0 p l e R s m args below meth c Q (pc, lv, st, h) := by
  intro H locs ls hP hS hl
  obtain ⟨⟨hx, hb, hml, hown, hts⟩, hKn, hEx, hsz, hi, hini, hR⟩ := F
  obtain ⟨hdg, hI⟩ := m_ok_sp hok
  obtain ⟨e1, e2⟩ : len = 3 ∧ ((m_oc i, q, b, a.toNat % 100) ∈ m_pf ∨ (m_oc i, q, b, a.toNat % 100) ∈ m_pfN) := of_decide_eq_true hI
  subst e1
  have hbk : b < 11 ∧ a.toNat % 100 < (m_cl b).2.2 := by
    rcases e2 with e2 | e2
    · exact (m_pf_in e2).2
    · exact (m_pfN_in e2).2
  rw [m_s_getfield] at hs
  split at hs
  · rename_i x r
    split at hs
    · rename_i t vs ho
      obtain ⟨ho1, ho2⟩ := m_ob_nth ho
      split at hs
      · rename_i e3
        subst e3
        have key : ∀ v, m_nth vs (a.toNat % 100) = some v → m_At E D ty i n0 z0 p l e R s m args below meth c Q (pc + 3, lv, v :: r, h) → W p l e R s m args below meth c H locs (h.length - n0) (m_sz h - z0) Q (F0 m pc ls ((Value.ref x :: r).map (m_rv E))) := by
          intro v hv k
          show W _ _ _ _ _ _ _ _ _ _ _ _ _ _ _ (F0 m pc ls (.ref (m_rl E x) :: r.map (m_rv E)))
          rw [m_rl_in E ho1]
          have he : (m_ws E ty h)[x]? = some (E.1 + x, .inr (t, vs.map (m_rv E))) := by
            rw [m_ws_at ho2, m_cell_o E ty (by omega)]
          have hv2 : (vs.map (m_rv E))[a.toNat % 100]? = some (m_rv E v) := by
            rw [List.getElem?_map, ← m_nth_eq, hv]
            rfl
          rcases e2 with e2 | e2
          · exact va_get hx hb hts (m_in_ok hbk.1) hown hKn.1 hP x he (m_cl_at hbk.1) (a.toNat % 100) hbk.2 (hts _ (m_pf_in e2).1) (fun _ z => z) hv2 hdg (k _ _ _ hP hS hl)
          · exact va_getN hx hb hts (m_in_ok hbk.1) hown hKn.1 hP x he (m_cl_at hbk.1) (a.toNat % 100) hbk.2 (va_Nw.use rfl (hKn.2.1 _ (m_pfN_in e2).1)) (fun _ z => z) hv2 hdg (k _ _ _ hP hS hl)
        split at hs
        · rename_i y hv
          cases hs
          exact key _ hv k
        · rename_i y hv
          cases hs
          exact key _ hv k
        · rename_i hv
          cases hs
          exact key _ hv k
        · cases hs
      · cases hs
    · cases hs
  · cases hs
end STEP
