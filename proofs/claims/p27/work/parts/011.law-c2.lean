section
/-! THE LAW: what the small machine makes of the law's code, from an empty heap, is what the machine does -/
/-! THE CLAIM OUT OF ONE WALK OF THE LAW'S BODY. Your part is whole_start (and what it stands on); all else here is the same for every law, but numbers. -/
def R_law : String := "WayBoxesLaw"
def lw_P (b : Addr) (xs : List Int32) (args : Array Value) (s : State) : Prop := args = #[.ref b] ∧ s.IntsAt b xs ∧ xs.length ≤ 384 ∧ (Jvm.Cond.and given_1 narrow_1).before args s = true
def lw_Q (_ : Array Value) (s : State) (o : Outcome) (t : State) : Prop := o = .returned (some (.int 1)) ∧ Framed s o t [] 600000 7302250
def lw_Z (below : List Frame) (a : Array Value) (s : State) : State → Prop := fun t => ∃ o, t.status = .running ∧ Ended t below o ∧ lw_Q a s o t
/-- the law's own end, with 1 on the stack, nothing written that was there before, its room as the claim has it -/
theorem lw_ret {p : Program} {l : Launch} {e : Env} {s : State} {m : MethodId} {below : List Frame} {meth : Method} {c : Code} {b : Nat} (hx : p.tables.exec = Jvm.exec) (hb : c.code = code) (hr : meth.sig.returnType = ret) (hlocks : meth.locks = false) {pc : Nat} {H : Heap} {ls : Array Slot} (hdg : decode code pc = .ok (.ireturn, 1)) : W p l e room_1 s m #[Value.ref b] below meth c H [] 600000 7302250 (lw_Z below #[Value.ref b] s) (F0 m pc ls [.int 1]) := by
  intro T hT X
  obtain ⟨fs, hret, hrun, hended, hW, hframe⟩ := X.leave (v := some (.int 1)) (hlocks := hlocks) (fun h => by rw [hr] at h; cases h)
  have hmeth' : T.vm.method? m = some meth := X.method'
  refine ⟨T.setFrames fs, ?_, .returned (some (.int 1)), hrun, hended, rfl, ⟨_, rfl⟩, hW, hframe⟩
  jvm_step X.here [X.here.top, hx, hb, hdg, hmeth', hr, ret, narrow_b1]
  (try refine ⟨rfl, ?_⟩); (try refine ⟨rfl, ?_⟩)
  first | (intro acts; rw [hret _ acts rfl rfl rfl]) | rw [hret _ _ rfl rfl rfl]
  exact Steps.refl _
/-- what holds at the law's entry: the machine, the code, the tables' words (any of lw_tbl by 'hts w (by decide +kernel)'), the script of L ints xs at the cell b, what the Statement gives of the start (any of its parts by flat_of_before) -/
def lw_At (p : Program) (s : State) (m : MethodId) (meth : Method) (c : Code) (b L : Nat) (xs : Nat → Int32) : Prop :=
  p.tables.exec = Jvm.exec ∧ c.code = code ∧ meth.sig.returnType = ret ∧ c.maxLocals = 4 ∧ s.vm.findClass R_law = some m.cls ∧ (∀ w ∈ lw_tbl, w.before #[Value.ref b] s = true) ∧ va_X b L xs s s.heap ∧ b < s.heap.size ∧ meth.locks = false ∧ (Jvm.Cond.and given_1 narrow_1).before #[Value.ref b] s = true
theorem m_cni_ok : (List.range 11).all (fun k => m_hi (m_cni.getD k 0) (.instantiable (m_cl k).1 (m_cl k).2.2)) = true := by decide +kernel
def m_bodies : List Int32 := [1, 2, 3, 0, 11, 0, 21, 0, 0, 0, 0, 31, 0, 0, 41, 0, 51, 0, 61, 0, 0]
def m_above : List Int32 := [-1, 0, 0, 0, 1, 3, 0]
def m_X (xs : List Int32) : Nat → List Int32 := fun j => match j with
  | 0 => xs
  | 1 => m_bodies
  | 2 => m_above
  | _ => []
/-- the law in the small machine answers true, within the room -/
def m_Ok (xs : List Int32) : Prop := ∃ hf : m_H, m_exec (m_X xs) (m_run (m_X xs) 60) (m_code 181) 1000000 0 [(0, .ref 1000000)] [] [] = some (some (.int 1), hf) ∧ hf.length ≤ 600000 ∧ m_sz hf ≤ 7302250
theorem m_arr_of {args : Array Value} {s : State} {t : FieldType} (h : (Cond.arrayClass t).before args s = true) (ht : t = .int ∨ t = .boolean) : ∃ cA : ClassId, ArrOfT s cA t ∧ va_RA s cA t := by
  obtain ⟨cA, kA, comp, h1, h2, h3⟩ := Cond.arrayClass_spec h
  refine ⟨cA, fun n z => ⟨fun k h => (by cases h), kA, h2, comp, h3⟩, ?_⟩
  rcases ht with rfl | rfl <;> exact h1
theorem m_arr_ob {args : Array Value} {s : State} {C : String} (h : (Cond.arrayOver (.object C)).before args s = true) : ∃ cA : ClassId, ArrOfT s cA (.object C) ∧ va_RA s cA (.object C) := by
  obtain ⟨comp, cA, kA, h1, h2, h3, h4, h5⟩ := Cond.arrayOver_spec h
  exact ⟨cA, fun n z => ⟨fun k h => (by cases h), kA, h3, comp, h4⟩, kA, comp, h3, h4, h1, h5⟩
set_option maxRecDepth 100000 in
theorem m_st1 : (List.range 21).all (fun j => decide (Cond.eq (.elem (.static "WayBoxes" "BODIES" "[I") (.int (Int32.ofNat j))) (.int (m_bodies.getD j 0)) ∈ flatC (Jvm.Cond.and given_1 narrow_1))) = true := by decide +kernel
set_option maxRecDepth 100000 in
theorem m_st2 : (List.range 7).all (fun j => decide (Cond.eq (.elem (.static "WayBoxes" "ABOVE" "[I") (.int (Int32.ofNat j))) (.int (m_above.getD j 0)) ∈ flatC (Jvm.Cond.and given_1 narrow_1))) = true := by decide +kernel
set_option maxRecDepth 100000 in
theorem m_st3 : Cond.arrayOf (.static "WayBoxes" "BODIES" "[I") .int ∈ flatC (Jvm.Cond.and given_1 narrow_1) ∧ Cond.arrayOf (.static "WayBoxes" "ABOVE" "[I") .int ∈ flatC (Jvm.Cond.and given_1 narrow_1) ∧ Cond.eq (.length (.static "WayBoxes" "BODIES" "[I")) (.int 21) ∈ flatC (Jvm.Cond.and given_1 narrow_1) ∧ Cond.eq (.length (.static "WayBoxes" "ABOVE" "[I")) (.int 7) ∈ flatC (Jvm.Cond.and given_1 narrow_1) := by decide +kernel
set_option maxRecDepth 100000 in
theorem m_st4 : Cond.laysStatic "WayBoxes" "BODIES" "[I" ∈ lw_tbl ∧ Cond.laysStatic "WayBoxes" "ABOVE" "[I" ∈ lw_tbl ∧ Cond.initialized "WayBoxes" ∈ lw_tbl := by decide +kernel
/-- a constant row -/
theorem m_static {args : Array Value} {s : State} {A : Nat → Prop} {nm : String} {N : Nat} {vs : List Int32} (hN : N < 2 ^ 31) (hl : vs.length = N) (hg : ∀ w ∈ flatC (Jvm.Cond.and given_1 narrow_1), w.before args s = true)
    (h1 : Cond.arrayOf (.static "WayBoxes" nm "[I") .int ∈ flatC (Jvm.Cond.and given_1 narrow_1)) (h2 : Cond.eq (.length (.static "WayBoxes" nm "[I")) (.int (Int32.ofNat N)) ∈ flatC (Jvm.Cond.and given_1 narrow_1))
    (h3 : (List.range N).all (fun j => decide (Cond.eq (.elem (.static "WayBoxes" nm "[I") (.int (Int32.ofNat j))) (.int (vs.getD j 0)) ∈ flatC (Jvm.Cond.and given_1 narrow_1))) = true)
    (h4 : (Cond.laysStatic "WayBoxes" nm "[I").before args s = true) (h5 : (Cond.initialized "WayBoxes").before args s = true) (hA : ∀ a : Nat, a < s.heap.size → ¬ A a) :
    ∃ t : Nat, va_T .int t vs.length (fun k => .int (vs.getD k 0)) A s s.heap ∧ va_Z "WayBoxes" nm "[I" (.ref t) A s s.heap := by
  subst hl
  obtain ⟨t, ht, hT⟩ := va_Tof (f := fun k => .int (vs.getD k 0)) (A := A) hN (hg _ h1) (va_eqt (hg _ h2)) (fun j hj => va_eqt (hg _ (of_decide_eq_true (List.all_eq_true.mp h3 j (List.mem_range.mpr hj))))) hA
  exact ⟨t, hT, va_Zof h4 h5 ht hA⟩
theorem m_inr {X : Nat → List Int32} {call : Nat → List Value → m_H → Option m_R} {ins : Instr} {len : Nat} {a : Int} {b pc : Nat} {lv : m_L} {st : List Value} {h : m_H} {r : m_R} (hs : m_stp X call (ins, len, a, b) pc lv st h = some (.inr r)) : ins = .ireturn ∨ ins = .areturn ∨ ins = .return_ := by
  cases ins
  case ireturn => exact Or.inl rfl
  case areturn => exact Or.inr (Or.inl rfl)
  case return_ => exact Or.inr (Or.inr rfl)
  all_goals
    exfalso
    first
    | (have h2 : (none : Option (m_C ⊕ m_R)) = some (.inr r) := hs
       cases h2; done)
    | (unfold m_stp at hs
       dsimp only at hs
       (repeat' split at hs) <;> first | contradiction | (cases hs; done))
set_option maxHeartbeats 4000000 in
/-- the law's walk is the small machine's run -/
theorem m_law {p : Program} {e : Env} {s : State} {m : MethodId} {below : List Frame} {meth : Method} {c : Code} (l : Launch) {b L : Nat} {xs : Nat → Int32} (C0 : lw_At p s m meth c b L xs) (hL : L < 2 ^ 31) (hok : m_Ok ((List.range L).map xs)) :
    W p l e room_1 s m #[Value.ref b] below meth c s.heap [] 0 0 (lw_Z below #[Value.ref b] s) (entryFrame m ([Value.ref b] : List Value).toArray 4) := by
  obtain ⟨hx, hb, hr, hml, hown, hts, hX, hbl, hlocks, hgv⟩ := id C0
  obtain ⟨hf, hrun, hf1, hf2⟩ := hok
  have hg : ∀ w ∈ flatC (Jvm.Cond.and given_1 narrow_1), w.before #[Value.ref b] s = true := flat_of_before _ hgv
  have hgood : ∀ w ∈ lw_good, w.before #[Value.ref b] s = true := fun w hw => hts w (lw_good_in hw)
  have hA : ∀ a : Nat, a < s.heap.size → ¬ (fun q : Nat => s.heap.size ≤ q) a := fun a h1 h2 => by have h2 : s.heap.size ≤ a := h2; omega
  obtain ⟨t1, hT1, hZ1⟩ := m_static (A := fun q : Nat => s.heap.size ≤ q) (nm := "BODIES") (N := 21) (vs := m_bodies) (by decide) rfl hg m_st3.1 m_st3.2.2.1 m_st1 (hts _ m_st4.1) (hts _ m_st4.2.2) hA
  obtain ⟨t2, hT2, hZ2⟩ := m_static (A := fun q : Nat => s.heap.size ≤ q) (nm := "ABOVE") (N := 7) (vs := m_above) (by decide) rfl hg m_st3.2.1 m_st3.2.2.2 m_st2 (hts _ m_st4.2.1) (hts _ m_st4.2.2) hA
  have hcl : ∀ k : Nat, ∃ (cC : ClassId) (iS : Nat → Nat), k < 11 → u_Kn s (m_cl k).1 (m_cl k).2.1 (m_cl k).2.2 cC iS := by
    intro k
    by_cases hk : k < 11
    · have hin : Cond.instantiable (m_cl k).1 (m_cl k).2.2 ∈ lw_good := by
        have : (List.range 11).all (fun k => m_hi (m_cni.getD k 0) (.instantiable (m_cl k).1 (m_cl k).2.2)) = true := m_cni_ok
        exact m_hi_in (List.all_eq_true.mp this k (List.mem_range.mpr hk))
      obtain ⟨cC, iS, h1⟩ := u_known hgood (m_in_ok hk) (hgood _ hin)
      exact ⟨cC, iS, fun _ => h1⟩
    · exact ⟨0, fun _ => 0, fun h => absurd h hk⟩
  have hD : ∃ D : va_G, ∀ (k : Nat) (q : vw_C), vwCl[k]? = some q → u_Kn s q.1 q.2.1 q.2.2 (D.1 k) (D.2 k) := by
    refine ⟨(fun k => (hcl k).choose, fun k => (hcl k).choose_spec.choose), fun k q hq => ?_⟩
    have hk : k < 11 := (List.getElem?_eq_some_iff.mp hq).1
    have h1 := (hcl k).choose_spec.choose_spec hk
    rw [m_cl_at hk] at hq
    cases hq
    exact h1
  obtain ⟨D, hD⟩ := hD
  have hao : ∀ C ∈ m_ao, (Cond.arrayOver (.object C)).before #[Value.ref b] s = true := fun C hC => hts _ (of_decide_eq_true (List.all_eq_true.mp m_ao_ok C hC))
  obtain ⟨a0, ha0⟩ := m_arr_of (hgood _ (m_has_in m_arr_ok.1)) (Or.inl rfl)
  obtain ⟨a1, ha1⟩ := m_arr_of (hgood _ (m_has_in m_arr_ok.2)) (Or.inr rfl)
  obtain ⟨a2, ha2⟩ := m_arr_ob (hao "WayBoxes$Text" (by decide))
  obtain ⟨a3, ha3⟩ := m_arr_ob (hao "WayBoxes$Box" (by decide))
  obtain ⟨a4, ha4⟩ := m_arr_ob (hao "WayBoxes$Packet" (by decide))
  obtain ⟨a5, ha5⟩ := m_arr_ob (hao "WayBoxes$Memory" (by decide))
  obtain ⟨a6, ha6⟩ := m_arr_ob (hao "WayBoxes$Watch" (by decide))
  have hKn : m_Kn D (fun k => [a0, a1, a2, a3, a4, a5, a6].getD k 0) s := by
    refine ⟨⟨hD, ?_⟩, fun w hw => va_Nw.of (m_nw_tab hw) (hts _ (of_decide_eq_true (List.all_eq_true.mp m_nw_ok w hw))), fun C hC => va_AO.of (hao C hC)⟩
    intro k q hq
    have hk : k < 7 := (List.getElem?_eq_some_iff.mp hq).1
    have : k = 0 ∨ k = 1 ∨ k = 2 ∨ k = 3 ∨ k = 4 ∨ k = 5 ∨ k = 6 := by omega
    rcases this with rfl | rfl | rfl | rfl | rfl | rfl | rfl <;> cases hq
    · exact ha0
    · exact ha1
    · exact ha2
    · exact ha3
    · exact ha4
    · exact ha5
    · exact ha6
  have hEx : m_Ex (s.heap.size, fun j => if j = 0 then b else if j = 1 then t1 else t2) (m_X ((List.range L).map xs)) s s.heap := by
    refine ⟨fun j hj => ?_, fun j hj => ?_⟩
    · have : j = 0 ∨ j = 1 ∨ j = 2 := by omega
      rcases this with rfl | rfl | rfl
      · obtain ⟨scr, g1, g2, g3, g4, g5⟩ := hX
        refine ⟨scr, g1, g2, g3, ?_, ?_, fun k hk => ?_, hA b hbl⟩
        · show ((List.range L).map xs).length ≤ _
          simp [g4]
        · show _ = Int32.ofNat ((List.range L).map xs).length
          simp [g4]
        · have hk : k < ((List.range L).map xs).length := hk
          have hk2 : k < L := by simpa using hk
          rw [g5 k hk2]
          show _ = some (Value.int (((List.range L).map xs).getD k 0))
          simp [List.getD_eq_getElem?_getD, hk2]
      · exact hT1
      · exact hT2
    · rcases hj with rfl | rfl
      · exact hZ1
      · exact hZ2
  have F : m_Fix (s.heap.size, fun j => if j = 0 then b else if j = 1 then t1 else t2) D (fun k => [a0, a1, a2, a3, a4, a5, a6].getD k 0) (m_X ((List.range L).map xs)) 181 60 0 p room_1 s m #[Value.ref b] meth c :=
    ⟨⟨hx, hb, hml, hown, hgood⟩, hKn, hEx, rfl, by decide, fun h => absurd h (by decide +kernel), by decide, by decide⟩
  have hl := lv_entry ([.ref b]) (n := 4) (Nat.le_of_ble_eq_true rfl)
  rw [lg_entry_eq]
  generalize (lg_sl ([.ref b]) ++ List.replicate (4 - (lg_sl ([.ref b])).length) Slot.unset).toArray = ls at hl ⊢
  have hl : lv_has ls (m_nl 181) (([(0, .ref 1000000)] : m_L).map (m_rq (s.heap.size, fun j => if j = 0 then b else if j = 1 then t1 else t2))) := hl
  refine m_exec_sim (z0 := 0) (l := l) (e := e) (below := below) (Q := lw_Z below #[Value.ref b] s) F (m_met_all 60) (m_run_mono 60) (v := some (.int 1)) (hf := hf) hf1 hf2 ?_ _ _ _ _ _ hrun (Nat.le_refl _) (Nat.le_refl _) s.heap [] ls (fun k q h => by simp [m_ws] at h) va_S.rf hl
  intro en pc lv st h hen hn hz hs
  obtain ⟨ins, len, a, bb⟩ := en
  intro H locs ls2 hP hS hl2
  dsimp only at hP hl2 ⊢
  obtain ⟨hdg, hI⟩ := m_ok_sp hen
  rcases m_inr hs with rfl | rfl | rfl
  · obtain ⟨e1, e2⟩ : len = 1 ∧ ((m_rt 181 = some .int ∧ bb = 0) ∨ (m_rt 181 = some .boolean ∧ bb = 1)) := of_decide_eq_true hI
    subst e1
    rw [m_s_ireturn] at hs
    split at hs
    · rename_i x
      split at hs
      · cases hs
        refine va_forget (fun q hq => hS.2.2 q hq) ?_
        refine W.widen (k := 600000) (n := 7302250) (by omega) (by omega) ?_
        exact lw_ret hx hb hr hlocks hdg
      · cases hs
    · cases hs
  · exfalso
    have hI : (match m_rt 181 with
      | some (.object _) => decide (len = 1)
      | _ => false) = true := hI
    cases hI
  · exfalso
    obtain ⟨e1, e2⟩ : len = 1 ∧ m_rt 181 = none := of_decide_eq_true hI
    cases e2
end
section
/-! walking the small machine, row by row; a and b bound how large the heap is -/
def x_E (X : Nat → List Int32) (d j u w n pc : Nat) (lv : m_L) (st : List Value) (h : m_H) (K : Nat → Nat → m_R → Prop) : Prop :=
  h.length ≤ u → m_sz h ≤ w → ∃ (r : m_R) (u' w' : Nat), m_exec X (m_run X d) (m_code j) n pc lv st h = some r ∧ r.2.length ≤ u' ∧ m_sz r.2 ≤ w' ∧ K u' w' r
def x_R (X : Nat → List Int32) (d j u w : Nat) (as : List Value) (h : m_H) (K : Nat → Nat → m_R → Prop) : Prop :=
  h.length ≤ u → m_sz h ≤ w → ∃ (r : m_R) (u' w' : Nat), m_run X d j as h = some r ∧ r.2.length ≤ u' ∧ m_sz r.2 ≤ w' ∧ K u' w' r
def x_pure : Instr → Bool
  | .new _ => false
  | .newarray _ => false
  | .anewarray _ => false
  | .invokevirtual _ => false
  | .invokespecial _ => false
  | _ => true
def x_noStatic (en : m_E) : Bool := match en.1 with
  | .invokestatic _ => en.2.2.1.toNat == 9999
  | .invokespecial _ => en.2.2.1.toNat == 9998
  | i => x_pure i
section WALK
variable {X : Nat → List Int32} {d j u w n pc : Nat} {lv : m_L} {st : List Value} {h : m_H} {K : Nat → Nat → m_R → Prop} {en : m_E}
theorem x_same_set {h : m_H} {k t t' : Nat} {us vs : List Value} (ho : m_ob h k = some (t, us)) (hl : vs.length = us.length) : (h.set k (t', vs)).length = h.length ∧ m_sz (h.set k (t', vs)) = m_sz h :=
  ⟨List.length_set, m_sz_set (m_ob_nth ho).2 hl⟩
theorem x_same_se {h h' : m_H} {t x : Nat} {y : Int32} {v : Value} (ha : m_se h t x y v = some h') : h'.length = h.length ∧ m_sz h' = m_sz h := by
  obtain ⟨j, vs, -, h1, g1, -, rfl⟩ := m_se_sp ha
  refine x_same_set (t := t) (us := vs) ?_ (by simp)
  unfold m_ob
  rw [if_pos h1]
  exact g1
theorem x_same_acp {h h' : m_H} {x q : Nat} {sp dp n : Int32} (ha : m_acp h x sp q dp n = some h') : h'.length = h.length ∧ m_sz h' = m_sz h := by
  obtain ⟨i, j, w, us, vs, -, -, -, -, -, f6, f7, f8, f9, rfl⟩ := m_acp_sp ha
  refine x_same_set (t := 20) (us := vs) ?_ (m_cpy_len f8 f9)
  unfold m_ob
  rw [if_pos f6]
  exact f7
set_option maxHeartbeats 4000000 in
theorem x_same {call : Nat → List Value → m_H → Option m_R} {C : m_C} (ha : x_noStatic en = true) (hs : m_stp X call en pc lv st h = some (.inl C)) : C.2.2.2.length = h.length ∧ m_sz C.2.2.2 = m_sz h := by
  obtain ⟨ins, len, a, b⟩ := en
  unfold m_stp at hs
  dsimp only at hs
  split at hs
  all_goals (repeat' split at hs)
  all_goals first
    | (cases hs; done)
    | (cases hs; exact ⟨rfl, rfl⟩)
    | (cases hs; exact x_same_se (by assumption))
    | (cases hs; exact x_same_acp (by assumption))
    | (cases hs; exact x_same_set (by assumption) (by simp))
    | (exfalso; simp_all [x_noStatic, x_pure]; done)
theorem x_in {pc' : Nat} {lv' : m_L} {st' : List Value} {h' : m_H} (hc : m_nth (m_code j) pc = some (some en)) (ha : x_noStatic en = true) (hs : m_stp X (m_run X d) en pc lv st h = m_nx pc' lv' st' h') (k : x_E X d j u w n pc' lv' st' h' K) : x_E X d j u w (n + 1) pc lv st h K := by
  intro h1 h2
  obtain ⟨g1, g2⟩ := x_same ha hs
  dsimp only at g1 g2
  obtain ⟨r, u', w', k1, k2⟩ := k (by rw [g1]; exact h1) (by rw [g2]; exact h2)
  refine ⟨r, u', w', ?_, k2⟩
  simp only [m_exec, hc, hs]
  exact k1
theorem x_br {c : Prop} {i : Decidable c} {p1 p2 : Nat} {st' : List Value} (hc : m_nth (m_code j) pc = some (some en)) (hs : m_stp X (m_run X d) en pc lv st h = @ite _ c i (m_nx p1 lv st' h) (m_nx p2 lv st' h))
    (k1 : c → x_E X d j u w n p1 lv st' h K) (k2 : ¬ c → x_E X d j u w n p2 lv st' h K) : x_E X d j u w (n + 1) pc lv st h K := by
  intro h1 h2
  by_cases hcc : c
  · obtain ⟨r, u', w', k3, k4⟩ := k1 hcc h1 h2
    refine ⟨r, u', w', ?_, k4⟩
    rw [if_pos hcc] at hs
    simp only [m_exec, hc, hs]
    exact k3
  · obtain ⟨r, u', w', k3, k4⟩ := k2 hcc h1 h2
    refine ⟨r, u', w', ?_, k4⟩
    rw [if_neg hcc] at hs
    simp only [m_exec, hc, hs]
    exact k3
theorem x_bT {c : Prop} {i : Decidable c} {p1 p2 : Nat} {st' : List Value} (hc : m_nth (m_code j) pc = some (some en)) (hs : m_stp X (m_run X d) en pc lv st h = @ite _ c i (m_nx p1 lv st' h) (m_nx p2 lv st' h))
    (hp : c) (k1 : x_E X d j u w n p1 lv st' h K) : x_E X d j u w (n + 1) pc lv st h K := x_br hc hs (fun _ => k1) (fun q => absurd hp q)
theorem x_bF {c : Prop} {i : Decidable c} {p1 p2 : Nat} {st' : List Value} (hc : m_nth (m_code j) pc = some (some en)) (hs : m_stp X (m_run X d) en pc lv st h = @ite _ c i (m_nx p1 lv st' h) (m_nx p2 lv st' h))
    (hp : ¬ c) (k2 : x_E X d j u w n p2 lv st' h K) : x_E X d j u w (n + 1) pc lv st h K := x_br hc hs (fun q => absurd q hp) (fun _ => k2)
theorem x_top {v v' : Value} {r : List Value} (e : v = v') (k : x_E X d j u w n pc lv (v' :: r) h K) : x_E X d j u w n pc lv (v :: r) h K := e ▸ k
theorem x_gen {v : Int32} {r : List Value} (k : ∀ y : Int32, x_E X d j u w n pc lv (.int y :: r) h K) : x_E X d j u w n pc lv (.int v :: r) h K := k v
theorem x_iinc {q : Nat} {x z : Int32} {k : Int} {len b : Nat} {a : Int} (hc : m_nth (m_code j) pc = some (some (.iinc q k, len, a, b))) (hl : m_lg lv q = some (.int x)) (hz : x + Int32.ofInt k = z) (kk : x_E X d j u w n (pc + len) (m_st lv q (.int z)) st h K) : x_E X d j u w (n + 1) pc lv st h K := by
  subst hz
  refine x_in hc rfl ?_ kk
  rw [m_s_iinc, hl]
theorem x_al {t : Nat} {vs : List Value} {z : Nat} {pc' : Nat} {st' : List Value} (hc : m_nth (m_code j) pc = some (some en)) (hs : m_stp X (m_run X d) en pc lv st h = m_nx pc' lv st' (h ++ [(t, vs)])) (hz : vs.length = z) (k : x_E X d j (u + 1) (w + z) n pc' lv st' (h ++ [(t, vs)]) K) : x_E X d j u w (n + 1) pc lv st h K := by
  intro h1 h2
  obtain ⟨r, u', w', k1, k2⟩ := k (by simp; exact h1) (by rw [m_sz_add, hz]; omega)
  refine ⟨r, u', w', ?_, k2⟩
  simp only [m_exec, hc, hs]
  exact k1
theorem x_ret {v : Option Value} (hc : m_nth (m_code j) pc = some (some en)) (hs : m_stp X (m_run X d) en pc lv st h = some (.inr (v, h))) (k : K u w (v, h)) : x_E X d j u w (n + 1) pc lv st h K := by
  intro h1 h2
  refine ⟨(v, h), u, w, ?_, h1, h2, k⟩
  simp only [m_exec, hc, hs]
theorem x_enter {as : List Value} (hlg : (lg_sl as).length ≤ m_nl j) (k : x_E X d j u w 1000000 0 (lv_args 0 as) [] h K) : x_R X (d + 1) j u w as h K := by
  intro h1 h2
  obtain ⟨r, u', w', k1, k2⟩ := k h1 h2
  refine ⟨r, u', w', ?_, k2⟩
  simp only [m_run, if_pos hlg]
  exact k1
theorem x_back {j' pc' : Nat} {as rst : List Value} (hcall : ∀ v h', m_run X d j' as h = some (v, h') → m_exec X (m_run X d) (m_code j) (n + 1) pc lv st h = m_exec X (m_run X d) (m_code j) n pc' lv (v.toList ++ rst) h')
    (kk : x_R X d j' u w as h (fun u' w' r => x_E X d j u' w' n pc' lv (r.1.toList ++ rst) r.2 K)) : x_E X d j u w (n + 1) pc lv st h K := by
  intro h1 h2
  obtain ⟨⟨v, h'⟩, u', w', k1, k2, k3, k4⟩ := kk h1 h2
  obtain ⟨r, u'', w'', g1, g2⟩ := k4 k2 k3
  refine ⟨r, u'', w'', ?_, g2⟩
  rw [hcall v h' k1]
  exact g1
theorem x_cV {q len b : Nat} {a : Int} {k t : Nat} {vs rst : List Value} (hc : m_nth (m_code j) pc = some (some (.invokevirtual q, len, a, b))) (e1 : st.drop b = .ref k :: rst) (ho : m_ob h k = some (t, vs)) (e2 : (Value.ref k :: (st.take b).reverse) = (Value.ref k :: (st.take b).reverse)) (ht : t = m_oc a.toNat ∧ rst.length ≤ 4 ∧ b ≤ st.length)
    (kk : x_R X d a.toNat u w (.ref k :: (st.take b).reverse) h (fun u' w' r => x_E X d j u' w' n (pc + len) lv (r.1.toList ++ rst) r.2 K)) : x_E X d j u w (n + 1) pc lv st h K := by
  refine x_back (fun v h' e => ?_) kk
  simp only [m_exec, hc, m_s_invokevirtual, e1, ho, if_pos ht, e]
theorem x_cS {q len b : Nat} {a : Int} {rst : List Value} (hc : m_nth (m_code j) pc = some (some (.invokestatic q, len, a, b))) (h9 : ¬ a.toNat = 9999) (e1 : st.drop b = rst) (e2 : (st.take b).reverse = (st.take b).reverse) (ht : (st.drop b).length ≤ 4 ∧ b ≤ st.length)
    (kk : x_R X d a.toNat u w (st.take b).reverse h (fun u' w' r => x_E X d j u' w' n (pc + len) lv (r.1.toList ++ rst) r.2 K)) : x_E X d j u w (n + 1) pc lv st h K := by
  subst e1
  refine x_back (fun v h' e => ?_) kk
  simp only [m_exec, hc, m_s_invokestatic, if_neg h9, if_pos ht, e]
theorem x_cI {q len b : Nat} {a : Int} {k : Nat} {rst : List Value} (hc : m_nth (m_code j) pc = some (some (.invokespecial q, len, a, b))) (h9 : ¬ a.toNat = 9998) (e1 : st.drop b = .ref k :: rst) (e2 : (st.take b).reverse = (st.take b).reverse) (ht : rst.length ≤ 4 ∧ b ≤ st.length ∧ k < 1000000)
    (kk : x_R X d a.toNat u w (.ref k :: (st.take b).reverse) h (fun u' w' r => x_E X d j u' w' n (pc + len) lv (r.1.toList ++ rst) r.2 K)) : x_E X d j u w (n + 1) pc lv st h K := by
  refine x_back (fun v h' e => ?_) kk
  simp only [m_exec, hc, m_s_invokespecial, if_neg h9, e1, if_pos ht, e]
theorem x_swD {q lo hi : Int} {offs : Array Int} {len b t : Nat} {a : Int} {x : Int32} {r : List Value} (hc : m_nth (m_code j) pc = some (some (.tableswitch q lo hi offs, len, a, b))) (hx : x.toInt < lo ∨ hi < x.toInt) (hg : m_go pc q = some t) (k : x_E X d j u w n t lv r h K) : x_E X d j u w (n + 1) pc lv (.int x :: r) h K := by
  refine x_in (en := (.tableswitch q lo hi offs, len, a, b)) hc rfl ?_ k
  rw [m_s_tableswitch]
  simp only [if_pos hx, hg]
theorem x_new {q len b L z : Nat} {a : Int} (hc : m_nth (m_code j) pc = some (some (.new q, len, a, b))) (hL : h.length = L) (hb : L < 1000000) (hz : (m_dfl b).length = z) (k : x_E X d j (u + 1) (w + z) n (pc + len) lv (.ref L :: st) (h ++ [(b, m_dfl b)]) K) : x_E X d j u w (n + 1) pc lv st h K := by
  subst hL
  refine x_al hc ?_ hz k
  rw [m_s_new]
  unfold m_add
  rw [if_pos hb]
theorem x_hs0 {g : m_H} {k : Nat} {c1 c2 : Nat × List Value} (kk : x_E X d j u w n pc lv st (g.set k c2) K) : x_E X d j u w n pc lv st ((g.set k c1).set k c2) K := by
  rw [List.set_set]
  exact kk
theorem x_hs1 {g : m_H} {k k1 : Nat} {c1 c2 e1 : Nat × List Value} (h1 : k ≠ k1) (kk : x_E X d j u w n pc lv st ((g.set k c2).set k1 e1) K) : x_E X d j u w n pc lv st (((g.set k c1).set k1 e1).set k c2) K := by
  rw [List.set_comm _ _ (Ne.symm h1), List.set_set]
  exact kk
theorem x_hs2 {g : m_H} {k k1 k2 : Nat} {c1 c2 e1 e2 : Nat × List Value} (h1 : k ≠ k1) (h2 : k ≠ k2) (kk : x_E X d j u w n pc lv st (((g.set k c2).set k1 e1).set k2 e2) K) : x_E X d j u w n pc lv st ((((g.set k c1).set k1 e1).set k2 e2).set k c2) K := by
  rw [List.set_comm _ _ (Ne.symm h2), List.set_comm _ _ (Ne.symm h1), List.set_set]
  exact kk
theorem x_hs3 {g : m_H} {k k1 k2 k3 : Nat} {c1 c2 e1 e2 e3 : Nat × List Value} (h1 : k ≠ k1) (h2 : k ≠ k2) (h3 : k ≠ k3) (kk : x_E X d j u w n pc lv st ((((g.set k c2).set k1 e1).set k2 e2).set k3 e3) K) : x_E X d j u w n pc lv st (((((g.set k c1).set k1 e1).set k2 e2).set k3 e3).set k c2) K := by
  rw [List.set_comm _ _ (Ne.symm h3), List.set_comm _ _ (Ne.symm h2), List.set_comm _ _ (Ne.symm h1), List.set_set]
  exact kk
/-- a call that was computed -/
theorem x_done {as : List Value} {r : m_R} {u' w' : Nat} (hr : m_run X d j as h = some r) (hb : h.length ≤ u → m_sz h ≤ w → r.2.length ≤ u' ∧ m_sz r.2 ≤ w') (k : K u' w' r) : x_R X d j u w as h K := fun h1 h2 => ⟨r, u', w', hr, (hb h1 h2).1, (hb h1 h2).2, k⟩
end WALK
theorem z_1 {x c : Int32} (k : Int) (hk : c.toInt = k) : x < c ↔ x.toInt < k := by rw [Int32.lt_iff_toInt_lt, hk]
theorem z_2 {x c : Int32} (k : Int) (hk : c.toInt = k) : c < x ↔ k < x.toInt := by rw [Int32.lt_iff_toInt_lt, hk]
theorem z_3 {x c : Int32} (k : Int) (hk : c.toInt = k) : x ≤ c ↔ x.toInt ≤ k := by rw [Int32.le_iff_toInt_le, hk]
theorem z_4 {x c : Int32} (k : Int) (hk : c.toInt = k) : c ≤ x ↔ k ≤ x.toInt := by rw [Int32.le_iff_toInt_le, hk]
theorem z_5 {x c : Int32} (k : Int) (hk : c.toInt = k) : x = c ↔ x.toInt = k := by rw [← hk, Int32.toInt_inj]
theorem z_6 {x c : Int32} (k : Int) (hk : c.toInt = k) : c = x ↔ x.toInt = k := by rw [← hk, ← Int32.toInt_inj, eq_comm]
theorem z_ush0 (x : Int32) : (x.toUInt32 >>> (((0 : Int32)).toUInt32 &&& Int32.toUInt32 31)).toInt32 = x := by
  apply Int32.toBitVec_inj.mp
  simp
end
section
/-! the two objects, made: computed once, where nothing outside is looked at; so it is wherever the machine is -/
def m_X0 : Nat → List Int32 := fun _ => [0]
theorem x_el0 {X : Nat → List Int32} {h : m_H} {t k : Nat} {i : Int32} {v : Value} (he : m_el m_X0 h t k i = some v) : m_el X h t k i = some v := by
  unfold m_el at he ⊢
  split at he
  · cases he
  · split at he
    · rename_i h1
      rw [if_pos h1]
      exact he
    · split at he
      · rename_i h2
        exact absurd h2.2.2 (by decide)
      · cases he
theorem x_ln0 {X : Nat → List Int32} {h : m_H} {k : Nat} {v : Int32} (he : m_ln m_X0 h k = some v) : m_ln X h k = some v := by
  unfold m_ln at he ⊢
  split at he
  · rename_i h1
    rw [if_pos h1]
    exact he
  · split at he
    · rename_i h2
      exact absurd h2.2 (by decide)
    · cases he
set_option maxRecDepth 100000 in
set_option maxHeartbeats 4000000 in
theorem x_stp0 {X : Nat → List Int32} {c0 call : Nat → List Value → m_H → Option m_R} (hcall : ∀ j as h r, c0 j as h = some r → call j as h = some r) {en : m_E} {pc : Nat} {lv : m_L} {st : List Value} {h : m_H} {r : m_C ⊕ m_R} (hs : m_stp m_X0 c0 en pc lv st h = some r) : m_stp X call en pc lv st h = some r := by
  obtain ⟨ins, len, a, b⟩ := en
  cases ins
  case iaload =>
    rw [m_s_iaload] at hs ⊢
    split at hs
    · split at hs
      · rename_i hv
        simp only [x_el0 hv]
        exact hs
      · cases hs
    · cases hs
  case baload =>
    rw [m_s_baload] at hs ⊢
    split at hs
    · split at hs
      · rename_i hv
        simp only [x_el0 hv]
        exact hs
      · cases hs
    · cases hs
  case arraylength =>
    rw [m_s_arraylength] at hs ⊢
    split at hs
    · split at hs
      · rename_i hv
        simp only [x_ln0 hv]
        exact hs
      · cases hs
    · cases hs
  case invokevirtual q =>
    rw [m_s_invokevirtual] at hs ⊢
    split at hs
    · rename_i x r h1
      split at hs
      · rename_i t vs h2
        split at hs
        · rename_i h3
          split at hs
          · rename_i hv
            simp only [h1, h2, if_pos h3, hcall _ _ _ _ hv]
            exact hs
          · cases hs
        · cases hs
      · cases hs
    · cases hs
  case invokestatic q =>
    rw [m_s_invokestatic] at hs ⊢
    split at hs
    · rename_i h9
      rw [if_pos h9]
      exact hs
    · rename_i h9
      rw [if_neg h9]
      split at hs
      · rename_i h3
        rw [if_pos h3]
        split at hs
        · rename_i hv
          simp only [hcall _ _ _ _ hv]
          exact hs
        · cases hs
      · cases hs
  case invokespecial q =>
    rw [m_s_invokespecial] at hs ⊢
    split at hs
    · rename_i h9
      rw [if_pos h9]
      exact hs
    · rename_i h9
      rw [if_neg h9]
      split at hs
      · rename_i x r h1
        split at hs
        · rename_i h3
          split at hs
          · rename_i hv
            simp only [h1, if_pos h3, hcall _ _ _ _ hv]
            exact hs
          · cases hs
        · cases hs
      · cases hs
  case iconst x1 =>
    rw [m_s_iconst] at hs ⊢
    exact hs
  case bipush x1 =>
    rw [m_s_bipush] at hs ⊢
    exact hs
  case sipush x1 =>
    rw [m_s_sipush] at hs ⊢
    exact hs
  case ldc x1 =>
    rw [m_s_ldc] at hs ⊢
    exact hs
  case ldc_w x1 =>
    rw [m_s_ldc_w] at hs ⊢
    exact hs
  case ldc2_w x1 =>
    rw [m_s_ldc2_w] at hs ⊢
    exact hs
  case aconst_null  =>
    rw [m_s_aconst_null] at hs ⊢
    exact hs
  case iload_n x1 =>
    rw [m_s_iload_n] at hs ⊢
    exact hs
  case iload x1 =>
    rw [m_s_iload] at hs ⊢
    exact hs
  case lload_n x1 =>
    rw [m_s_lload_n] at hs ⊢
    exact hs
  case lload x1 =>
    rw [m_s_lload] at hs ⊢
    exact hs
  case aload_n x1 =>
    rw [m_s_aload_n] at hs ⊢
    exact hs
  case aload x1 =>
    rw [m_s_aload] at hs ⊢
    exact hs
  case istore_n x1 =>
    rw [m_s_istore_n] at hs ⊢
    exact hs
  case istore x1 =>
    rw [m_s_istore] at hs ⊢
    exact hs
  case astore_n x1 =>
    rw [m_s_astore_n] at hs ⊢
    exact hs
  case astore x1 =>
    rw [m_s_astore] at hs ⊢
    exact hs
  case iinc x1 x2 =>
    rw [m_s_iinc] at hs ⊢
    exact hs
  case iadd  =>
    rw [m_s_iadd] at hs ⊢
    exact hs
  case isub  =>
    rw [m_s_isub] at hs ⊢
    exact hs
  case imul  =>
    rw [m_s_imul] at hs ⊢
    exact hs
  case iand  =>
    rw [m_s_iand] at hs ⊢
    exact hs
  case ior  =>
    rw [m_s_ior] at hs ⊢
    exact hs
  case ixor  =>
    rw [m_s_ixor] at hs ⊢
    exact hs
  case idiv  =>
    rw [m_s_idiv] at hs ⊢
    exact hs
  case irem  =>
    rw [m_s_irem] at hs ⊢
    exact hs
  case ishl  =>
    rw [m_s_ishl] at hs ⊢
    exact hs
  case ishr  =>
    rw [m_s_ishr] at hs ⊢
    exact hs
  case iushr  =>
    rw [m_s_iushr] at hs ⊢
    exact hs
  case land  =>
    rw [m_s_land] at hs ⊢
    exact hs
  case lor  =>
    rw [m_s_lor] at hs ⊢
    exact hs
  case lshl  =>
    rw [m_s_lshl] at hs ⊢
    exact hs
  case lshr  =>
    rw [m_s_lshr] at hs ⊢
    exact hs
  case lushr  =>
    rw [m_s_lushr] at hs ⊢
    exact hs
  case ineg  =>
    rw [m_s_ineg] at hs ⊢
    exact hs
  case i2l  =>
    rw [m_s_i2l] at hs ⊢
    exact hs
  case l2i  =>
    rw [m_s_l2i] at hs ⊢
    exact hs
  case dup  =>
    rw [m_s_dup] at hs ⊢
    exact hs
  case dup2  =>
    rw [m_s_dup2] at hs ⊢
    exact hs
  case pop  =>
    rw [m_s_pop] at hs ⊢
    exact hs
  case ifCond c q =>
    cases c
    · rw [m_s_ifCond_eq] at hs ⊢
      exact hs
    · rw [m_s_ifCond_ne] at hs ⊢
      exact hs
    · rw [m_s_ifCond_lt] at hs ⊢
      exact hs
    · rw [m_s_ifCond_ge] at hs ⊢
      exact hs
    · rw [m_s_ifCond_gt] at hs ⊢
      exact hs
    · rw [m_s_ifCond_le] at hs ⊢
      exact hs
  case if_icmp c q =>
    cases c
    · rw [m_s_if_icmp_eq] at hs ⊢
      exact hs
    · rw [m_s_if_icmp_ne] at hs ⊢
      exact hs
    · rw [m_s_if_icmp_lt] at hs ⊢
      exact hs
    · rw [m_s_if_icmp_ge] at hs ⊢
      exact hs
    · rw [m_s_if_icmp_gt] at hs ⊢
      exact hs
    · rw [m_s_if_icmp_le] at hs ⊢
      exact hs
  case ifnull x1 =>
    rw [m_s_ifnull] at hs ⊢
    exact hs
  case ifnonnull x1 =>
    rw [m_s_ifnonnull] at hs ⊢
    exact hs
  case goto x1 =>
    rw [m_s_goto] at hs ⊢
    exact hs
  case tableswitch x1 x2 x3 x4 =>
    rw [m_s_tableswitch] at hs ⊢
    exact hs
  case lookupswitch x1 x2 =>
    rw [m_s_lookupswitch] at hs ⊢
    exact hs
  case getfield x1 =>
    rw [m_s_getfield] at hs ⊢
    exact hs
  case putfield x1 =>
    rw [m_s_putfield] at hs ⊢
    exact hs
  case getstatic x1 =>
    rw [m_s_getstatic] at hs ⊢
    exact hs
  case new x1 =>
    rw [m_s_new] at hs ⊢
    exact hs
  case newarray x1 =>
    rw [m_s_newarray] at hs ⊢
    exact hs
  case anewarray x1 =>
    rw [m_s_anewarray] at hs ⊢
    exact hs
  case aaload  =>
    rw [m_s_aaload] at hs ⊢
    exact hs
  case iastore  =>
    rw [m_s_iastore] at hs ⊢
    exact hs
  case bastore  =>
    rw [m_s_bastore] at hs ⊢
    exact hs
  case aastore  =>
    rw [m_s_aastore] at hs ⊢
    exact hs
  case ireturn  =>
    rw [m_s_ireturn] at hs ⊢
    exact hs
  case areturn  =>
    rw [m_s_areturn] at hs ⊢
    exact hs
  case return_  =>
    rw [m_s_return_] at hs ⊢
    exact hs
  all_goals
    have h2 : (none : Option (m_C ⊕ m_R)) = some r := hs
    cases h2
theorem x_exec0 {X : Nat → List Int32} {c0 call : Nat → List Value → m_H → Option m_R} (hcall : ∀ j as h r, c0 j as h = some r → call j as h = some r) {code : List (Option m_E)} : ∀ (n pc : Nat) (lv : m_L) (st : List Value) (h : m_H) (r : m_R), m_exec m_X0 c0 code n pc lv st h = some r → m_exec X call code n pc lv st h = some r := by
  intro n
  induction n with
  | zero => intro pc lv st h r he; cases he
  | succ n ih =>
    intro pc lv st h r he
    simp only [m_exec] at he ⊢
    split at he
    · split at he
      · rename_i hs
        rw [x_stp0 hcall hs]
        exact ih _ _ _ _ _ he
      · rename_i hs
        rw [x_stp0 hcall hs]
        exact he
      · cases he
    · cases he
theorem x_run0 {X : Nat → List Int32} : ∀ (d j : Nat) (as : List Value) (h : m_H) (r : m_R), m_run m_X0 d j as h = some r → m_run X d j as h = some r := by
  intro d
  induction d with
  | zero => intro j as h r he; cases he
  | succ d ih =>
    intro j as h r he
    simp only [m_run] at he ⊢
    split at he
    · rename_i h1
      rw [if_pos h1]
      exact x_exec0 ih _ _ _ _ _ _ he
    · cases he
def m_hX : m_H := [(9, [.ref 1, .ref 58, .int 0, .ref 115, .ref 116]), (5, [.ref 2, .int 0, .ref 3, .int 0, .ref 4, .int 0, .ref 5, .int 0, .ref 6, .int 0, .int 0, .ref 7, .int 0, .ref 8]), (20, List.replicate 160 (.int 0)), (22, [.null, .null, .null, .null, .null, .null, .null, .null]), (23, [.ref 10, .ref 16, .ref 22, .ref 28, .ref 34, .ref 40, .ref 46, .ref 52]), (20, [.int 0, .int 0, .int 0, .int 0, .int 0, .int 0]), (24, List.replicate 20 (.null)), (24, [.null, .null, .null, .null, .null]), (7, [.ref 9, .int 0, .int 0, .int 0, .int 0]), (20, List.replicate 20 (.int 0)), (0, [.int 0, .int 0, .int 0, .int 0, .int 0, .ref 11, .ref 12, .ref 14]), (20, List.replicate 16 (.int 0)), (1, [.ref 13]), (20, List.replicate 84 (.int 0)), (1, [.ref 15]), (20, List.replicate 84 (.int 0)), (0, [.int 0, .int 0, .int 0, .int 0, .int 0, .ref 17, .ref 18, .ref 20]), (20, List.replicate 16 (.int 0)), (1, [.ref 19]), (20, List.replicate 84 (.int 0)), (1, [.ref 21]), (20, List.replicate 84 (.int 0)), (0, [.int 0, .int 0, .int 0, .int 0, .int 0, .ref 23, .ref 24, .ref 26]), (20, List.replicate 16 (.int 0)), (1, [.ref 25]), (20, List.replicate 84 (.int 0)), (1, [.ref 27]), (20, List.replicate 84 (.int 0)), (0, [.int 0, .int 0, .int 0, .int 0, .int 0, .ref 29, .ref 30, .ref 32]), (20, List.replicate 16 (.int 0)), (1, [.ref 31]), (20, List.replicate 84 (.int 0)), (1, [.ref 33]), (20, List.replicate 84 (.int 0)), (0, [.int 0, .int 0, .int 0, .int 0, .int 0, .ref 35, .ref 36, .ref 38]), (20, List.replicate 16 (.int 0)), (1, [.ref 37]), (20, List.replicate 84 (.int 0)), (1, [.ref 39]), (20, List.replicate 84 (.int 0)), (0, [.int 0, .int 0, .int 0, .int 0, .int 0, .ref 41, .ref 42, .ref 44]), (20, List.replicate 16 (.int 0)), (1, [.ref 43]), (20, List.replicate 84 (.int 0)), (1, [.ref 45]), (20, List.replicate 84 (.int 0)), (0, [.int 0, .int 0, .int 0, .int 0, .int 0, .ref 47, .ref 48, .ref 50]), (20, List.replicate 16 (.int 0)), (1, [.ref 49]), (20, List.replicate 84 (.int 0)), (1, [.ref 51]), (20, List.replicate 84 (.int 0)), (0, [.int 0, .int 0, .int 0, .int 0, .int 0, .ref 53, .ref 54, .ref 56]), (20, List.replicate 16 (.int 0)), (1, [.ref 55]), (20, List.replicate 84 (.int 0)), (1, [.ref 57]), (20, List.replicate 84 (.int 0)), (5, [.ref 59, .int 0, .ref 60, .int 0, .ref 61, .int 0, .ref 62, .int 0, .ref 63, .int 0, .int 0, .ref 64, .int 0, .ref 65]), (20, List.replicate 160 (.int 0)), (22, [.null, .null, .null, .null, .null, .null, .null, .null]), (23, [.ref 67, .ref 73, .ref 79, .ref 85, .ref 91, .ref 97, .ref 103, .ref 109]), (20, [.int 0, .int 0, .int 0, .int 0, .int 0, .int 0]), (24, List.replicate 20 (.null)), (24, [.null, .null, .null, .null, .null]), (7, [.ref 66, .int 0, .int 0, .int 0, .int 0]), (20, List.replicate 20 (.int 0)), (0, [.int 0, .int 0, .int 0, .int 0, .int 0, .ref 68, .ref 69, .ref 71]), (20, List.replicate 16 (.int 0)), (1, [.ref 70]), (20, List.replicate 84 (.int 0)), (1, [.ref 72]), (20, List.replicate 84 (.int 0)), (0, [.int 0, .int 0, .int 0, .int 0, .int 0, .ref 74, .ref 75, .ref 77]), (20, List.replicate 16 (.int 0)), (1, [.ref 76]), (20, List.replicate 84 (.int 0)), (1, [.ref 78]), (20, List.replicate 84 (.int 0)), (0, [.int 0, .int 0, .int 0, .int 0, .int 0, .ref 80, .ref 81, .ref 83]), (20, List.replicate 16 (.int 0)), (1, [.ref 82]), (20, List.replicate 84 (.int 0)), (1, [.ref 84]), (20, List.replicate 84 (.int 0)), (0, [.int 0, .int 0, .int 0, .int 0, .int 0, .ref 86, .ref 87, .ref 89]), (20, List.replicate 16 (.int 0)), (1, [.ref 88]), (20, List.replicate 84 (.int 0)), (1, [.ref 90]), (20, List.replicate 84 (.int 0)), (0, [.int 0, .int 0, .int 0, .int 0, .int 0, .ref 92, .ref 93, .ref 95]), (20, List.replicate 16 (.int 0)), (1, [.ref 94]), (20, List.replicate 84 (.int 0)), (1, [.ref 96]), (20, List.replicate 84 (.int 0)), (0, [.int 0, .int 0, .int 0, .int 0, .int 0, .ref 98, .ref 99, .ref 101]), (20, List.replicate 16 (.int 0)), (1, [.ref 100]), (20, List.replicate 84 (.int 0)), (1, [.ref 102]), (20, List.replicate 84 (.int 0)), (0, [.int 0, .int 0, .int 0, .int 0, .int 0, .ref 104, .ref 105, .ref 107]), (20, List.replicate 16 (.int 0)), (1, [.ref 106]), (20, List.replicate 84 (.int 0)), (1, [.ref 108]), (20, List.replicate 84 (.int 0)), (0, [.int 0, .int 0, .int 0, .int 0, .int 0, .ref 110, .ref 111, .ref 113]), (20, List.replicate 16 (.int 0)), (1, [.ref 112]), (20, List.replicate 84 (.int 0)), (1, [.ref 114]), (20, List.replicate 84 (.int 0)), (3, [.null, .int 0, .int 0, .null]), (4, [.ref 117, .ref 118, .ref 119, .ref 120, .int 0, .null, .int 0, .int 0, .int 0, .ref 121]), (25, [.ref 122, .ref 124, .ref 126, .ref 128, .ref 130, .ref 132, .ref 134, .ref 136, .ref 138, .ref 140, .ref 142, .ref 144, .ref 146, .ref 148, .ref 150, .ref 152]), (26, [.ref 154, .ref 158, .ref 162, .ref 166]), (22, [.null, .null, .null, .null]), (20, [.int 0, .int 0, .int 0, .int 0]), (20, [.int 0, .int 0, .int 0]), (1, [.ref 123]), (20, List.replicate 84 (.int 0)), (1, [.ref 125]), (20, List.replicate 84 (.int 0)), (1, [.ref 127]), (20, List.replicate 84 (.int 0)), (1, [.ref 129]), (20, List.replicate 84 (.int 0)), (1, [.ref 131]), (20, List.replicate 84 (.int 0)), (1, [.ref 133]), (20, List.replicate 84 (.int 0)), (1, [.ref 135]), (20, List.replicate 84 (.int 0)), (1, [.ref 137]), (20, List.replicate 84 (.int 0)), (1, [.ref 139]), (20, List.replicate 84 (.int 0)), (1, [.ref 141]), (20, List.replicate 84 (.int 0)), (1, [.ref 143]), (20, List.replicate 84 (.int 0)), (1, [.ref 145]), (20, List.replicate 84 (.int 0)), (1, [.ref 147]), (20, List.replicate 84 (.int 0)), (1, [.ref 149]), (20, List.replicate 84 (.int 0)), (1, [.ref 151]), (20, List.replicate 84 (.int 0)), (1, [.ref 153]), (20, List.replicate 84 (.int 0)), (8, [.int 0, .int 0, .int 0, .ref 155, .ref 156, .ref 157]), (20, List.replicate 16 (.int 0)), (20, List.replicate 16 (.int 0)), (20, List.replicate 16 (.int 0)), (8, [.int 0, .int 0, .int 0, .ref 159, .ref 160, .ref 161]), (20, List.replicate 16 (.int 0)), (20, List.replicate 16 (.int 0)), (20, List.replicate 16 (.int 0)), (8, [.int 0, .int 0, .int 0, .ref 163, .ref 164, .ref 165]), (20, List.replicate 16 (.int 0)), (20, List.replicate 16 (.int 0)), (20, List.replicate 16 (.int 0)), (8, [.int 0, .int 0, .int 0, .ref 167, .ref 168, .ref 169]), (20, List.replicate 16 (.int 0)), (20, List.replicate 16 (.int 0)), (20, List.replicate 16 (.int 0))]
def m_hM : m_H := [(10, [.int 0, .ref 171, .ref 172, .int 0, .ref 173, .ref 174, .ref 175, .ref 176, .ref 177, .int 0, .int 0, .int 0, .int 0, .int 0, .int 0, .ref 178, .ref 179, .int 0, .int 0, .int 0, .int 0, .int 0, .int 0, .int 0, .ref 180, .ref 181, .ref 182, .int 0, .ref 183, .ref 184, .ref 185, .ref 186, .ref 187, .ref 188, .ref 189, .ref 190, .ref 191, .int 0, .int 0, .ref 192, .int 0, .int 0, .int 0, .int 0]), (20, List.replicate 1800 (.int 0)), (20, List.replicate 1800 (.int 0)), (20, List.replicate 1600 (.int 0)), (20, [.int 0, .int 0, .int 0, .int 0, .int 0, .int 0, .int 0, .int 0]), (20, [.int 0, .int 0, .int 0, .int 0, .int 0, .int 0, .int 0, .int 0]), (20, List.replicate 64 (.int 0)), (20, List.replicate 64 (.int 0)), (20, List.replicate 336 (.int 0)), (21, List.replicate 80 (.int 0)), (20, [.int 0, .int 0, .int 0]), (20, [.int 0, .int 0, .int 0]), (20, [.int 0, .int 0, .int 0, .int 0]), (21, List.replicate 16 (.int 0)), (21, List.replicate 16 (.int 0)), (21, List.replicate 16 (.int 0)), (20, List.replicate 16 (.int 0)), (20, List.replicate 16 (.int 0)), (20, List.replicate 16 (.int 0)), (20, [.int 0, .int 0, .int 0, .int 0]), (20, [.int 0, .int 0, .int 0, .int 0]), (20, [.int 0, .int 0, .int 0, .int 0]), (20, List.replicate 20 (.int 0))]
def m_h0 : m_H := m_hX ++ m_hM
set_option maxRecDepth 100000 in
theorem x_ctorX : m_run m_X0 60 69 [.ref 0] [(9, m_dfl 9)] = some (none, m_hX) := by decide +kernel
set_option maxRecDepth 100000 in
theorem x_ctorM : m_run m_X0 60 104 [.ref 170] (m_hX ++ [(10, m_dfl 10)]) = some (none, m_h0) := by decide +kernel
theorem x_h0_ln : m_h0.length = 193 ∧ m_sz m_h0 = 11164 := by decide +kernel
end
section
/-! THE HEAP AS A SHAPE AND NUMBERS: S has the references (and a number's place), V the numbers as integers -/
abbrev v_V : Type := Nat → Nat → Int
abbrev iv (e : Int) : Value := .int (Int32.ofInt e)
def v_cv (f : Nat → Int) (i : Nat) : Value → Value
  | .int _ => iv (f i)
  | w => w
def v_mc (f : Nat → Int) : Nat → List Value → List Value
  | _, [] => []
  | i, v :: r => v_cv f i v :: v_mc f (i + 1) r
def v_mg (V : v_V) : Nat → m_H → m_H
  | _, [] => []
  | k, c :: r => (c.1, v_mc (V k) 0 c.2) :: v_mg V (k + 1) r
def mkh (S : m_H) (V : v_V) : m_H := v_mg V 0 S
theorem v_mc_nth (f : Nat → Int) : ∀ (vs : List Value) (i0 i : Nat), m_nth (v_mc f i0 vs) i = (m_nth vs i).map (v_cv f (i0 + i))
  | [], _, _ => rfl
  | v :: r, i0, 0 => rfl
  | v :: r, i0, i + 1 => by
    show m_nth (v_mc f (i0 + 1) r) i = _
    rw [v_mc_nth f r (i0 + 1) i, show i0 + 1 + i = i0 + (i + 1) by omega]
    rfl
theorem v_mc_len (f : Nat → Int) : ∀ (vs : List Value) (i0 : Nat), (v_mc f i0 vs).length = vs.length
  | [], _ => rfl
  | v :: r, i0 => by simp [v_mc, v_mc_len f r]
theorem v_mg_nth (V : v_V) : ∀ (S : m_H) (k0 k : Nat), m_nth (v_mg V k0 S) k = (m_nth S k).map (fun c => (c.1, v_mc (V (k0 + k)) 0 c.2))
  | [], _, _ => rfl
  | c :: r, k0, 0 => rfl
  | c :: r, k0, k + 1 => by
    show m_nth (v_mg V (k0 + 1) r) k = _
    rw [v_mg_nth V r (k0 + 1) k, show k0 + 1 + k = k0 + (k + 1) by omega]
    rfl
theorem v_mg_len (V : v_V) : ∀ (S : m_H) (k0 : Nat), (v_mg V k0 S).length = S.length
  | [], _ => rfl
  | c :: r, k0 => by simp [v_mg, v_mg_len V r]
theorem mkh_nth (S : m_H) (V : v_V) (k : Nat) : m_nth (mkh S V) k = (m_nth S k).map (fun c => (c.1, v_mc (V k) 0 c.2)) := by
  unfold mkh
  rw [v_mg_nth, Nat.zero_add]
theorem mkh_len (S : m_H) (V : v_V) : (mkh S V).length = S.length := v_mg_len V S 0
theorem v_list_ext {α : Type} {a b : List α} (h : ∀ k, m_nth a k = m_nth b k) : a = b := by
  apply List.ext_getElem?
  intro k
  rw [← m_nth_eq, ← m_nth_eq, h]
theorem m_nth_set {α : Type} (l : List α) (k : Nat) (a : α) (j : Nat) : m_nth (l.set k a) j = if j = k then (m_nth l k).map (fun _ => a) else m_nth l j := by
  simp only [m_nth_eq]
  by_cases h : j = k
  · subst h
    rw [if_pos rfl]
    by_cases h2 : j < l.length
    · simp [h2]
    · simp [h2]
  · rw [if_neg h, List.getElem?_set_ne (Ne.symm h)]
theorem m_nth_app {α : Type} (l : List α) (a : α) (j : Nat) : m_nth (l ++ [a]) j = if j = l.length then some a else m_nth l j := by
  simp only [m_nth_eq]
  by_cases h : j = l.length
  · subst h
    simp
  · rw [if_neg h]
    by_cases h2 : j < l.length
    · rw [List.getElem?_append_left h2]
    · rw [List.getElem?_append_right (by omega), List.getElem?_eq_none (by simp; omega), List.getElem?_eq_none (by omega)]
/-- a number changed -/
def v_uf (f : Nat → Int) (i : Nat) (x : Int) : Nat → Int := fun j => if j = i then x else f j
def v_ur (V : v_V) (k : Nat) (f : Nat → Int) : v_V := fun j => if j = k then f else V j
def v_up (V : v_V) (k i : Nat) (x : Int) : v_V := v_ur V k (v_uf (V k) i x)
theorem v_uf_eq (f : Nat → Int) (i : Nat) (x : Int) : v_uf f i x i = x := if_pos rfl
theorem v_uf_ne {f : Nat → Int} {i j : Nat} {x : Int} (h : j ≠ i) : v_uf f i x j = f j := if_neg h
theorem v_ur_eq (V : v_V) (k : Nat) (f : Nat → Int) : v_ur V k f k = f := if_pos rfl
theorem v_ur_ne {V : v_V} {k j : Nat} {f : Nat → Int} (h : j ≠ k) : v_ur V k f j = V j := if_neg h
theorem v_ur_ur (V : v_V) (k : Nat) (f g : Nat → Int) : v_ur (v_ur V k f) k g = v_ur V k g := by
  funext j
  unfold v_ur
  split <;> rfl
theorem v_ur_comm (V : v_V) {k k' : Nat} (f g : Nat → Int) (h : k ≠ k') : v_ur (v_ur V k f) k' g = v_ur (v_ur V k' g) k f := by
  funext j
  unfold v_ur
  split
  · rename_i h1
    subst h1
    rw [if_neg (Ne.symm h)]
  · rfl
theorem v_ur_self (V : v_V) (k : Nat) : v_ur V k (V k) = V := by
  funext j
  unfold v_ur
  split
  · rename_i h
    rw [h]
  · rfl
theorem v_uf_self (f : Nat → Int) (i : Nat) : v_uf f i (f i) = f := by
  funext j
  unfold v_uf
  split
  · rename_i h
    rw [h]
  · rfl
theorem v_uf_uf (f : Nat → Int) (i : Nat) (x y : Int) : v_uf (v_uf f i x) i y = v_uf f i y := by
  funext j
  unfold v_uf
  split <;> rfl
theorem v_uf_comm (f : Nat → Int) {i j : Nat} (x y : Int) (h : i ≠ j) : v_uf (v_uf f i x) j y = v_uf (v_uf f j y) i x := by
  funext q
  unfold v_uf
  split
  · rename_i h1
    subst h1
    rw [if_neg (Ne.symm h)]
  · rfl
theorem v_up_eq (V : v_V) (k i : Nat) (x : Int) : v_up V k i x k i = x := by
  unfold v_up
  rw [v_ur_eq, v_uf_eq]
theorem v_up_ni {V : v_V} {k i j : Nat} {x : Int} (h : j ≠ i) : v_up V k i x k j = V k j := by
  unfold v_up
  rw [v_ur_eq, v_uf_ne h]
theorem v_up_ne {V : v_V} {k i q : Nat} {x : Int} (h : q ≠ k) : v_up V k i x q = V q := v_ur_ne h
theorem v_up_row (V : v_V) (k i : Nat) (x : Int) : v_up V k i x k = v_uf (V k) i x := v_ur_eq _ _ _
theorem v_up_ur (V : v_V) (k i : Nat) (x : Int) : v_up V k i x = v_ur V k (v_uf (V k) i x) := rfl
/-- a cell of the shape -/
def ce (S : m_H) (k t : Nat) (vs : List Value) : Prop := k < 1000000 ∧ m_nth S k = some (t, vs)
theorem v_ob {S : m_H} {V : v_V} {k t : Nat} {vs : List Value} (h : ce S k t vs) : m_ob (mkh S V) k = some (t, v_mc (V k) 0 vs) := by
  unfold m_ob
  rw [if_pos h.1, mkh_nth, h.2]
  rfl
theorem v_set_int {S : m_H} {V : v_V} {k t i : Nat} {vs : List Value} {x : Int32} {e : Int} (h : ce S k t vs) (hi : m_nth vs i = some (.int x)) : (mkh S V).set k (t, (v_mc (V k) 0 vs).set i (iv e)) = mkh S (v_up V k i e) := by
  apply v_list_ext
  intro j
  rw [m_nth_set, mkh_nth, mkh_nth, mkh_nth]
  by_cases hj : j = k
  · subst hj
    rw [if_pos rfl, h.2]
    refine congrArg some (congrArg (Prod.mk t) ?_)
    show (v_mc (V j) 0 vs).set i (iv e) = v_mc (v_ur V j (v_uf (V j) i e) j) 0 vs
    rw [v_ur_eq]
    apply v_list_ext
    intro q
    rw [m_nth_set, v_mc_nth, v_mc_nth (v_uf (V j) i e)]
    by_cases hq : q = i
    · subst hq
      rw [if_pos rfl, hi]
      show some _ = some _
      rw [Nat.zero_add]
      simp [v_cv, v_uf]
    · rw [if_neg hq, v_mc_nth]
      cases hv : m_nth vs q with
      | none => rfl
      | some v =>
        show some _ = some _
        rw [Nat.zero_add]
        cases v <;> simp [v_cv, v_uf, hq]
  · rw [if_neg hj, show v_up V k i e j = V j from v_ur_ne hj]
theorem v_mc_set (f : Nat → Int) (vs : List Value) (i0 i : Nat) (w : Value) (hw : ∀ x, w ≠ .int x) : (v_mc f i0 vs).set i w = v_mc f i0 (vs.set i w) := by
  apply v_list_ext
  intro q
  rw [m_nth_set, v_mc_nth, v_mc_nth, v_mc_nth, m_nth_set]
  by_cases hq : q = i
  · subst hq
    rw [if_pos rfl, if_pos rfl]
    cases m_nth vs q with
    | none => rfl
    | some v =>
      show some _ = some _
      cases w <;> first | rfl | (exact absurd rfl (hw _))
  · rw [if_neg hq, if_neg hq]
theorem v_set_ref {S : m_H} {V : v_V} {k t i : Nat} {vs : List Value} {w : Value} (h : ce S k t vs) (hw : ∀ x, w ≠ .int x) : (mkh S V).set k (t, (v_mc (V k) 0 vs).set i w) = mkh (S.set k (t, vs.set i w)) V := by
  apply v_list_ext
  intro j
  rw [m_nth_set, mkh_nth, mkh_nth, mkh_nth, m_nth_set]
  by_cases hj : j = k
  · subst hj
    rw [if_pos rfl, if_pos rfl, h.2]
    show some _ = some _
    rw [v_mc_set _ _ _ _ _ hw]
  · rw [if_neg hj, if_neg hj]
/-- a new cell, all its numbers 0 -/
def v_zer (V : v_V) (k : Nat) : v_V := v_ur V k (fun _ => 0)
theorem v_mc_zero : ∀ (vs : List Value) (i0 : Nat), (∀ v ∈ vs, v = iv 0 ∨ ∀ x, v ≠ .int x) → v_mc (fun _ => 0) i0 vs = vs
  | [], _, _ => rfl
  | v :: r, i0, h => by
    show v_cv _ i0 v :: v_mc _ (i0 + 1) r = _
    rw [v_mc_zero r (i0 + 1) (fun w hw => h w (List.mem_cons_of_mem _ hw))]
    congr 1
    rcases h v List.mem_cons_self with rfl | h2
    · rfl
    · cases v <;> first | rfl | (exact absurd rfl (h2 _))
theorem v_mk_add {S : m_H} {V : v_V} {t : Nat} {vs : List Value} (h : ∀ v ∈ vs, v = iv 0 ∨ ∀ x, v ≠ .int x) : mkh S V ++ [(t, vs)] = mkh (S ++ [(t, vs)]) (v_zer V S.length) := by
  apply v_list_ext
  intro j
  rw [m_nth_app, mkh_len, mkh_nth, mkh_nth, m_nth_app]
  by_cases hj : j = S.length
  · rw [if_pos hj, if_pos hj]
    show some _ = some _
    rw [hj]
    unfold v_zer
    rw [v_ur_eq]
    show _ = some (t, v_mc (fun _ => 0) 0 vs)
    rw [v_mc_zero _ _ h]
  · rw [if_neg hj, if_neg hj]
    unfold v_zer
    rw [v_ur_ne hj]
theorem v_oi (x : Int32) : iv x.toInt = .int x := by
  show Value.int _ = _
  rw [Int32.ofInt_toInt]
theorem v_ti {x : Int} (h1 : -2147483648 ≤ x) (h2 : x < 2147483648) : (Int32.ofInt x).toInt = x := Int32.toInt_ofInt_of_le h1 h2
theorem v_inj {x y : Int} (h1 : -2147483648 ≤ x) (h2 : x < 2147483648) (h3 : -2147483648 ≤ y) (h4 : y < 2147483648) : Int32.ofInt x = Int32.ofInt y ↔ x = y := by
  constructor
  · intro h
    rw [← v_ti h1 h2, h, v_ti h3 h4]
  · rintro rfl
    rfl
theorem v_lt {x y : Int} (h1 : -2147483648 ≤ x) (h2 : x < 2147483648) (h3 : -2147483648 ≤ y) (h4 : y < 2147483648) : Int32.ofInt x < Int32.ofInt y ↔ x < y := by
  rw [Int32.lt_iff_toInt_lt, v_ti h1 h2, v_ti h3 h4]
theorem v_le {x y : Int} (h1 : -2147483648 ≤ x) (h2 : x < 2147483648) (h3 : -2147483648 ≤ y) (h4 : y < 2147483648) : Int32.ofInt x ≤ Int32.ofInt y ↔ x ≤ y := by
  rw [Int32.le_iff_toInt_le, v_ti h1 h2, v_ti h3 h4]
theorem v_ix {e : Int} (h1 : 0 ≤ e) (h2 : e < 2147483648) : m_ix (Int32.ofInt e) = some e.toNat := by
  unfold m_ix
  rw [if_neg (by
    rw [show (0 : Int32) = Int32.ofInt 0 from rfl, v_lt (by omega) (by omega) (by omega) (by omega)]
    omega)]
  congr 1
  show (Int32.ofInt e).toInt.toNat = _
  rw [v_ti (by omega) h2]
end
section
/-! ROWS OF THE WALK over shape and numbers; D bounds the depth of calls, F the steps, from above -/
abbrev v_K : Type := Nat → Nat → Option Value → m_H → v_V → Prop
def v_k (K : v_K) : Nat → Nat → m_R → Prop := fun u w r => ∃ S V, r.2 = mkh S V ∧ K u w r.1 S V
def y_E (X : Nat → List Int32) (D j F u w pc : Nat) (lv : m_L) (st : List Value) (S : m_H) (V : v_V) (K : v_K) : Prop :=
  ∀ d n, D ≤ d → F ≤ n → x_E X d j u w n pc lv st (mkh S V) (v_k K)
def y_R (X : Nat → List Int32) (D j u w : Nat) (as : List Value) (S : m_H) (V : v_V) (K : v_K) : Prop :=
  ∀ d, D ≤ d → x_R X d j u w as (mkh S V) (v_k K)
section ROWS
variable {X : Nat → List Int32} {D j F u w pc : Nat} {lv : m_L} {st : List Value} {S : m_H} {V : v_V} {K : v_K} {en : m_E}
theorem y_mono {F' : Nat} (k : y_E X D j F' u w pc lv st S V K) (h : F' ≤ F) : y_E X D j F u w pc lv st S V K := fun d n h1 h2 => k d n h1 (Nat.le_trans h h2)
theorem y_up {u' w' : Nat} (k : y_E X D j F u' w' pc lv st S V K) (h1 : u ≤ u') (h2 : w ≤ w') : y_E X D j F u w pc lv st S V K := fun d n g1 g2 g3 g4 => k d n g1 g2 (Nat.le_trans g3 h1) (Nat.le_trans g4 h2)
theorem y_V {V' : v_V} (e : V = V') (k : y_E X D j F u w pc lv st S V' K) : y_E X D j F u w pc lv st S V K := e ▸ k
theorem y_S {S' : m_H} (e : S = S') (k : y_E X D j F u w pc lv st S' V K) : y_E X D j F u w pc lv st S V K := e ▸ k
theorem y_in {pc' : Nat} {lv' : m_L} {st' : List Value} (hc : m_nth (m_code j) pc = some (some en)) (ha : x_noStatic en = true) (hs : ∀ d, m_stp X (m_run X d) en pc lv st (mkh S V) = m_nx pc' lv' st' (mkh S V)) (k : y_E X D j F u w pc' lv' st' S V K) : y_E X D j (F + 1) u w pc lv st S V K := by
  intro d n h1 h2
  obtain ⟨n, rfl⟩ : ∃ q, n = q + 1 := ⟨n - 1, by omega⟩
  exact x_in hc ha (hs d) (k d n h1 (by omega))
theorem y_wr {pc' : Nat} {lv' : m_L} {st' : List Value} {S' : m_H} {V' : v_V} (hc : m_nth (m_code j) pc = some (some en)) (ha : x_noStatic en = true) (hs : ∀ d, m_stp X (m_run X d) en pc lv st (mkh S V) = m_nx pc' lv' st' (mkh S' V')) (k : y_E X D j F u w pc' lv' st' S' V' K) : y_E X D j (F + 1) u w pc lv st S V K := by
  intro d n h1 h2
  obtain ⟨n, rfl⟩ : ∃ q, n = q + 1 := ⟨n - 1, by omega⟩
  exact x_in hc ha (hs d) (k d n h1 (by omega))
theorem y_br {c : Prop} {i : Decidable c} {p1 p2 : Nat} {st' : List Value} (hc : m_nth (m_code j) pc = some (some en)) (hs : ∀ d, m_stp X (m_run X d) en pc lv st (mkh S V) = @ite _ c i (m_nx p1 lv st' (mkh S V)) (m_nx p2 lv st' (mkh S V)))
    (k1 : c → y_E X D j F u w p1 lv st' S V K) (k2 : ¬ c → y_E X D j F u w p2 lv st' S V K) : y_E X D j (F + 1) u w pc lv st S V K := by
  intro d n h1 h2
  obtain ⟨n, rfl⟩ : ∃ q, n = q + 1 := ⟨n - 1, by omega⟩
  exact x_br hc (hs d) (fun q => k1 q d n h1 (by omega)) (fun q => k2 q d n h1 (by omega))
theorem y_ret {v : Option Value} (hc : m_nth (m_code j) pc = some (some en)) (hs : ∀ d, m_stp X (m_run X d) en pc lv st (mkh S V) = some (.inr (v, mkh S V))) (k : K u w v S V) : y_E X D j (F + 1) u w pc lv st S V K := by
  intro d n h1 h2
  obtain ⟨n, rfl⟩ : ∃ q, n = q + 1 := ⟨n - 1, by omega⟩
  exact x_ret hc (hs d) ⟨S, V, rfl, k⟩
theorem y_enter {as : List Value} (hlg : (lg_sl as).length ≤ m_nl j) (k : y_E X D j 1000000 u w 0 (lv_args 0 as) [] S V K) : y_R X (D + 1) j u w as S V K := by
  intro d h1
  obtain ⟨d, rfl⟩ : ∃ q, d = q + 1 := ⟨d - 1, by omega⟩
  exact x_enter hlg (k d 1000000 (by omega) (Nat.le_refl _))
theorem y_Rm {D' : Nat} {as : List Value} (k : y_R X D' j u w as S V K) (h : D' ≤ D) : y_R X D j u w as S V K := fun d h1 => k d (Nat.le_trans h h1)
theorem y_Rk {as : List Value} {K' : v_K} (k : y_R X D j u w as S V K') (h : ∀ u w v S V, K' u w v S V → K u w v S V) : y_R X D j u w as S V K := by
  intro d h1 h2 h3
  obtain ⟨r, u', w', g1, g2, g3, S', V', g4, g5⟩ := k d h1 h2 h3
  exact ⟨r, u', w', g1, g2, g3, S', V', g4, h _ _ _ _ _ g5⟩
theorem y_bk {D' j' : Nat} {as rst : List Value} {pc' : Nat} (hD : D' ≤ D) (hcall : ∀ d n v h', m_run X d j' as (mkh S V) = some (v, h') → m_exec X (m_run X d) (m_code j) (n + 1) pc lv st (mkh S V) = m_exec X (m_run X d) (m_code j) n pc' lv (v.toList ++ rst) h')
    (kk : y_R X D' j' u w as S V (fun u' w' v S' V' => y_E X D j F u' w' pc' lv (v.toList ++ rst) S' V' K)) : y_E X D j (F + 1) u w pc lv st S V K := by
  intro d n h1 h2 h3 h4
  obtain ⟨n, rfl⟩ : ∃ q, n = q + 1 := ⟨n - 1, by omega⟩
  obtain ⟨⟨v, h'⟩, u', w', k1, k2, k3, S', V', k4, k5⟩ := kk d (Nat.le_trans hD h1) h3 h4
  dsimp only at k1 k2 k3 k4 k5
  subst k4
  obtain ⟨r, u'', w'', g1, g2⟩ := k5 d n h1 (by omega) k2 k3
  refine ⟨r, u'', w'', ?_, g2⟩
  rw [hcall d n v _ k1]
  exact g1
theorem y_cV {D' q len b J pc' : Nat} {a : Int} {k t : Nat} {vs rst as : List Value} (hc : m_nth (m_code j) pc = some (some (.invokevirtual q, len, a, b))) (e1 : st.drop b = .ref k :: rst) (e2 : (Value.ref k :: (st.take b).reverse) = as) (hJ : a.toNat = J) (hp : pc + len = pc') (hs : ce S k t vs) (ht : t = m_oc a.toNat ∧ rst.length ≤ 4 ∧ b ≤ st.length) (hD : D' ≤ D)
    (kk : y_R X D' J u w as S V (fun u' w' v S' V' => y_E X D j F u' w' pc' lv (v.toList ++ rst) S' V' K)) : y_E X D j (F + 1) u w pc lv st S V K := by
  subst hJ hp e2
  refine y_bk hD (fun d n v h' e => ?_) kk
  simp only [m_exec, hc, m_s_invokevirtual, e1, v_ob hs, if_pos ht, e]
theorem y_cS {D' q len b J pc' : Nat} {a : Int} {rst as : List Value} (hc : m_nth (m_code j) pc = some (some (.invokestatic q, len, a, b))) (h9 : ¬ a.toNat = 9999) (e1 : st.drop b = rst) (e2 : (st.take b).reverse = as) (hJ : a.toNat = J) (hp : pc + len = pc') (ht : (st.drop b).length ≤ 4 ∧ b ≤ st.length) (hD : D' ≤ D)
    (kk : y_R X D' J u w as S V (fun u' w' v S' V' => y_E X D j F u' w' pc' lv (v.toList ++ rst) S' V' K)) : y_E X D j (F + 1) u w pc lv st S V K := by
  subst hJ hp e1 e2
  refine y_bk hD (fun d n v h' e => ?_) kk
  simp only [m_exec, hc, m_s_invokestatic, if_neg h9, if_pos ht, e]
theorem y_cI {D' q len b J pc' : Nat} {a : Int} {k : Nat} {rst as : List Value} (hc : m_nth (m_code j) pc = some (some (.invokespecial q, len, a, b))) (h9 : ¬ a.toNat = 9998) (e1 : st.drop b = .ref k :: rst) (e2 : (Value.ref k :: (st.take b).reverse) = as) (hJ : a.toNat = J) (hp : pc + len = pc') (ht : rst.length ≤ 4 ∧ b ≤ st.length ∧ k < 1000000) (hD : D' ≤ D)
    (kk : y_R X D' J u w as S V (fun u' w' v S' V' => y_E X D j F u' w' pc' lv (v.toList ++ rst) S' V' K)) : y_E X D j (F + 1) u w pc lv st S V K := by
  subst hJ hp e2
  refine y_bk hD (fun d n v h' e => ?_) kk
  simp only [m_exec, hc, m_s_invokespecial, if_neg h9, e1, if_pos ht, e]
theorem y_nv {v : Value} {r : List Value} (k : y_E X D j F u w pc lv (v :: r) S V K) : y_E X D j F u w pc lv ((some v).toList ++ r) S V K := k
theorem y_n0 {r : List Value} (k : y_E X D j F u w pc lv r S V K) : y_E X D j F u w pc lv ((none : Option Value).toList ++ r) S V K := k
theorem y_top {v v' : Value} {r : List Value} (e : v = v') (k : y_E X D j F u w pc lv (v' :: r) S V K) : y_E X D j F u w pc lv (v :: r) S V K := e ▸ k
theorem y_iv {e e' : Int} {r : List Value} (h : e = e') (k : y_E X D j F u w pc lv (iv e' :: r) S V K) : y_E X D j F u w pc lv (iv e :: r) S V K := h ▸ k
/-- constants, locals, numbers -/
theorem y_ic {n : Int} {len b pc' : Nat} {a : Int} (hc : m_nth (m_code j) pc = some (some (.iconst n, len, a, b))) (hp : pc + len = pc') (k : y_E X D j F u w pc' lv (iv n :: st) S V K) : y_E X D j (F + 1) u w pc lv st S V K := by
  subst hp
  exact y_in hc rfl (fun d => rfl) k
theorem y_bi {n : Int} {len b pc' : Nat} {a : Int} (hc : m_nth (m_code j) pc = some (some (.bipush n, len, a, b))) (hp : pc + len = pc') (he : (Int8.ofInt n).toInt32 = Int32.ofInt n) (k : y_E X D j F u w pc' lv (iv n :: st) S V K) : y_E X D j (F + 1) u w pc lv st S V K := by
  subst hp
  exact y_in hc rfl (fun d => by rw [m_s_bipush, he]) k
theorem y_si {n : Int} {len b pc' : Nat} {a : Int} (hc : m_nth (m_code j) pc = some (some (.sipush n, len, a, b))) (hp : pc + len = pc') (he : (Int16.ofInt n).toInt32 = Int32.ofInt n) (k : y_E X D j F u w pc' lv (iv n :: st) S V K) : y_E X D j (F + 1) u w pc lv st S V K := by
  subst hp
  exact y_in hc rfl (fun d => by rw [m_s_sipush, he]) k
theorem y_ld {x : Value} {pc' : Nat} (hc : m_nth (m_code j) pc = some (some en)) (ha : x_noStatic en = true) (hs : ∀ d, m_stp X (m_run X d) en pc lv st (mkh S V) = m_nx pc' lv (x :: st) (mkh S V)) (k : y_E X D j F u w pc' lv (x :: st) S V K) : y_E X D j (F + 1) u w pc lv st S V K := y_in hc ha hs k
theorem y_inc {q : Nat} {x z n : Int} {len b pc' : Nat} {a : Int} {lv' : m_L} (hc : m_nth (m_code j) pc = some (some (.iinc q n, len, a, b))) (hp : pc + len = pc') (hl : m_lg lv q = some (iv x)) (hz : x + n = z) (hv : m_st lv q (iv z) = lv') (k : y_E X D j F u w pc' lv' st S V K) : y_E X D j (F + 1) u w pc lv st S V K := by
  subst hp hv hz
  refine y_in hc rfl (fun d => ?_) k
  rw [m_s_iinc, hl, iv, iv, Int32.ofInt_add]
theorem y_add {x y z : Int} {r : List Value} {len b pc' : Nat} {a : Int} (hc : m_nth (m_code j) pc = some (some (.iadd, len, a, b))) (hp : pc + len = pc') (hz : x + y = z) (k : y_E X D j F u w pc' lv (iv z :: r) S V K) : y_E X D j (F + 1) u w pc lv (iv y :: iv x :: r) S V K := by
  subst hp hz
  refine y_in hc rfl (fun d => ?_) k
  show m_nx _ _ (Value.int (Int32.ofInt x + Int32.ofInt y) :: r) _ = _
  rw [← Int32.ofInt_add]
theorem y_sub {x y z : Int} {r : List Value} {len b pc' : Nat} {a : Int} (hc : m_nth (m_code j) pc = some (some (.isub, len, a, b))) (hp : pc + len = pc') (hz : x - y = z) (k : y_E X D j F u w pc' lv (iv z :: r) S V K) : y_E X D j (F + 1) u w pc lv (iv y :: iv x :: r) S V K := by
  subst hp hz
  refine y_in hc rfl (fun d => ?_) k
  show m_nx _ _ (Value.int (Int32.ofInt x - Int32.ofInt y) :: r) _ = _
  rw [← Int32.ofInt_sub]
theorem y_mul {x y z : Int} {r : List Value} {len b pc' : Nat} {a : Int} (hc : m_nth (m_code j) pc = some (some (.imul, len, a, b))) (hp : pc + len = pc') (hz : x * y = z) (k : y_E X D j F u w pc' lv (iv z :: r) S V K) : y_E X D j (F + 1) u w pc lv (iv y :: iv x :: r) S V K := by
  subst hp hz
  refine y_in hc rfl (fun d => ?_) k
  show m_nx _ _ (Value.int (Int32.ofInt x * Int32.ofInt y) :: r) _ = _
  rw [← Int32.ofInt_mul]
theorem y_neg {x z : Int} {r : List Value} {len b pc' : Nat} {a : Int} (hc : m_nth (m_code j) pc = some (some (.ineg, len, a, b))) (hp : pc + len = pc') (hz : -x = z) (k : y_E X D j F u w pc' lv (iv z :: r) S V K) : y_E X D j (F + 1) u w pc lv (iv x :: r) S V K := by
  subst hp hz
  refine y_in hc rfl (fun d => ?_) k
  show m_nx _ _ (Value.int (-Int32.ofInt x) :: r) _ = _
  rw [← Int32.ofInt_neg]
/-- two ints on the stack make one: the number is told with its proof -/
theorem y_op {x y : Int32} {z : Int} {c : Int32} {r : List Value} {pc' : Nat} (hc : m_nth (m_code j) pc = some (some en)) (ha : x_noStatic en = true) (hs : ∀ d, m_stp X (m_run X d) en pc lv (.int y :: .int x :: r) (mkh S V) = m_nx pc' lv (.int c :: r) (mkh S V)) (hz : c = Int32.ofInt z) (k : y_E X D j F u w pc' lv (iv z :: r) S V K) : y_E X D j (F + 1) u w pc lv (.int y :: .int x :: r) S V K := by
  subst hz
  exact y_in hc ha hs k
theorem y_go {q : Int} {len b pc' : Nat} {a : Int} (hc : m_nth (m_code j) pc = some (some (.goto q, len, a, b))) (hp : a.toNat = pc') (k : y_E X D j F u w pc' lv st S V K) : y_E X D j (F + 1) u w pc lv st S V K := by
  subst hp
  exact y_in hc rfl (fun d => rfl) k
/-- branches on numbers in range -/
theorem y_jlt {x y : Int} {r : List Value} {q a : Int} {len b p1 p2 : Nat} (hc : m_nth (m_code j) pc = some (some (.if_icmp .lt q, len, a, b))) (g1 : a.toNat = p1) (g2 : pc + len = p2) (h : (-2147483648 ≤ x ∧ x < 2147483648) ∧ -2147483648 ≤ y ∧ y < 2147483648)
    (k1 : x < y → y_E X D j F u w p1 lv r S V K) (k2 : ¬ x < y → y_E X D j F u w p2 lv r S V K) : y_E X D j (F + 1) u w pc lv (iv y :: iv x :: r) S V K := by
  subst g1 g2
  exact y_br hc (fun d => rfl) (fun g => k1 ((v_lt h.1.1 h.1.2 h.2.1 h.2.2).mp g)) (fun g => k2 (mt (v_lt h.1.1 h.1.2 h.2.1 h.2.2).mpr g))
theorem y_jge {x y : Int} {r : List Value} {q a : Int} {len b p1 p2 : Nat} (hc : m_nth (m_code j) pc = some (some (.if_icmp .ge q, len, a, b))) (g1 : a.toNat = p1) (g2 : pc + len = p2) (h : (-2147483648 ≤ x ∧ x < 2147483648) ∧ -2147483648 ≤ y ∧ y < 2147483648)
    (k1 : y ≤ x → y_E X D j F u w p1 lv r S V K) (k2 : ¬ y ≤ x → y_E X D j F u w p2 lv r S V K) : y_E X D j (F + 1) u w pc lv (iv y :: iv x :: r) S V K := by
  subst g1 g2
  exact y_br hc (fun d => rfl) (fun g => k1 ((v_le h.2.1 h.2.2 h.1.1 h.1.2).mp g)) (fun g => k2 (mt (v_le h.2.1 h.2.2 h.1.1 h.1.2).mpr g))
theorem y_jgt {x y : Int} {r : List Value} {q a : Int} {len b p1 p2 : Nat} (hc : m_nth (m_code j) pc = some (some (.if_icmp .gt q, len, a, b))) (g1 : a.toNat = p1) (g2 : pc + len = p2) (h : (-2147483648 ≤ x ∧ x < 2147483648) ∧ -2147483648 ≤ y ∧ y < 2147483648)
    (k1 : y < x → y_E X D j F u w p1 lv r S V K) (k2 : ¬ y < x → y_E X D j F u w p2 lv r S V K) : y_E X D j (F + 1) u w pc lv (iv y :: iv x :: r) S V K := by
  subst g1 g2
  exact y_br hc (fun d => rfl) (fun g => k1 ((v_lt h.2.1 h.2.2 h.1.1 h.1.2).mp g)) (fun g => k2 (mt (v_lt h.2.1 h.2.2 h.1.1 h.1.2).mpr g))
theorem y_jle {x y : Int} {r : List Value} {q a : Int} {len b p1 p2 : Nat} (hc : m_nth (m_code j) pc = some (some (.if_icmp .le q, len, a, b))) (g1 : a.toNat = p1) (g2 : pc + len = p2) (h : (-2147483648 ≤ x ∧ x < 2147483648) ∧ -2147483648 ≤ y ∧ y < 2147483648)
    (k1 : x ≤ y → y_E X D j F u w p1 lv r S V K) (k2 : ¬ x ≤ y → y_E X D j F u w p2 lv r S V K) : y_E X D j (F + 1) u w pc lv (iv y :: iv x :: r) S V K := by
  subst g1 g2
  exact y_br hc (fun d => rfl) (fun g => k1 ((v_le h.1.1 h.1.2 h.2.1 h.2.2).mp g)) (fun g => k2 (mt (v_le h.1.1 h.1.2 h.2.1 h.2.2).mpr g))
theorem y_jeq {x y : Int} {r : List Value} {q a : Int} {len b p1 p2 : Nat} (hc : m_nth (m_code j) pc = some (some (.if_icmp .eq q, len, a, b))) (g1 : a.toNat = p1) (g2 : pc + len = p2) (h : (-2147483648 ≤ x ∧ x < 2147483648) ∧ -2147483648 ≤ y ∧ y < 2147483648)
    (k1 : x = y → y_E X D j F u w p1 lv r S V K) (k2 : ¬ x = y → y_E X D j F u w p2 lv r S V K) : y_E X D j (F + 1) u w pc lv (iv y :: iv x :: r) S V K := by
  subst g1 g2
  exact y_br hc (fun d => rfl) (fun g => k1 ((v_inj h.1.1 h.1.2 h.2.1 h.2.2).mp g)) (fun g => k2 (mt (v_inj h.1.1 h.1.2 h.2.1 h.2.2).mpr g))
theorem y_jne {x y : Int} {r : List Value} {q a : Int} {len b p1 p2 : Nat} (hc : m_nth (m_code j) pc = some (some (.if_icmp .ne q, len, a, b))) (g1 : a.toNat = p1) (g2 : pc + len = p2) (h : (-2147483648 ≤ x ∧ x < 2147483648) ∧ -2147483648 ≤ y ∧ y < 2147483648)
    (k1 : ¬ x = y → y_E X D j F u w p1 lv r S V K) (k2 : x = y → y_E X D j F u w p2 lv r S V K) : y_E X D j (F + 1) u w pc lv (iv y :: iv x :: r) S V K := by
  subst g1 g2
  exact y_br hc (fun d => rfl) (fun g => k2 ((v_inj h.1.1 h.1.2 h.2.1 h.2.2).mp g)) (fun g => k1 (mt (v_inj h.1.1 h.1.2 h.2.1 h.2.2).mpr g))
theorem y_zeq {x : Int} {r : List Value} {q a : Int} {len b p1 p2 : Nat} (hc : m_nth (m_code j) pc = some (some (.ifCond .eq q, len, a, b))) (g1 : a.toNat = p1) (g2 : pc + len = p2) (h : -2147483648 ≤ x ∧ x < 2147483648)
    (k1 : x = 0 → y_E X D j F u w p1 lv r S V K) (k2 : ¬ x = 0 → y_E X D j F u w p2 lv r S V K) : y_E X D j (F + 1) u w pc lv (iv x :: r) S V K := by
  subst g1 g2
  exact y_br hc (fun d => rfl) (fun g => k1 ((v_inj h.1 h.2 (by omega) (by omega)).mp g)) (fun g => k2 (mt (v_inj (y := 0) h.1 h.2 (by omega) (by omega)).mpr g))
theorem y_zne {x : Int} {r : List Value} {q a : Int} {len b p1 p2 : Nat} (hc : m_nth (m_code j) pc = some (some (.ifCond .ne q, len, a, b))) (g1 : a.toNat = p1) (g2 : pc + len = p2) (h : -2147483648 ≤ x ∧ x < 2147483648)
    (k1 : ¬ x = 0 → y_E X D j F u w p1 lv r S V K) (k2 : x = 0 → y_E X D j F u w p2 lv r S V K) : y_E X D j (F + 1) u w pc lv (iv x :: r) S V K := by
  subst g1 g2
  exact y_br hc (fun d => rfl) (fun g => k2 ((v_inj h.1 h.2 (by omega) (by omega)).mp g)) (fun g => k1 (mt (v_inj (y := 0) h.1 h.2 (by omega) (by omega)).mpr g))
theorem y_zlt {x : Int} {r : List Value} {q a : Int} {len b p1 p2 : Nat} (hc : m_nth (m_code j) pc = some (some (.ifCond .lt q, len, a, b))) (g1 : a.toNat = p1) (g2 : pc + len = p2) (h : -2147483648 ≤ x ∧ x < 2147483648)
    (k1 : x < 0 → y_E X D j F u w p1 lv r S V K) (k2 : ¬ x < 0 → y_E X D j F u w p2 lv r S V K) : y_E X D j (F + 1) u w pc lv (iv x :: r) S V K := by
  subst g1 g2
  exact y_br hc (fun d => rfl) (fun g => k1 ((v_lt (y := 0) h.1 h.2 (by omega) (by omega)).mp g)) (fun g => k2 (mt (v_lt (y := 0) h.1 h.2 (by omega) (by omega)).mpr g))
theorem y_zge {x : Int} {r : List Value} {q a : Int} {len b p1 p2 : Nat} (hc : m_nth (m_code j) pc = some (some (.ifCond .ge q, len, a, b))) (g1 : a.toNat = p1) (g2 : pc + len = p2) (h : -2147483648 ≤ x ∧ x < 2147483648)
    (k1 : 0 ≤ x → y_E X D j F u w p1 lv r S V K) (k2 : ¬ 0 ≤ x → y_E X D j F u w p2 lv r S V K) : y_E X D j (F + 1) u w pc lv (iv x :: r) S V K := by
  subst g1 g2
  exact y_br hc (fun d => rfl) (fun g => k1 ((v_le (x := 0) (by omega) (by omega) h.1 h.2).mp g)) (fun g => k2 (mt (v_le (x := 0) (by omega) (by omega) h.1 h.2).mpr g))
theorem y_zgt {x : Int} {r : List Value} {q a : Int} {len b p1 p2 : Nat} (hc : m_nth (m_code j) pc = some (some (.ifCond .gt q, len, a, b))) (g1 : a.toNat = p1) (g2 : pc + len = p2) (h : -2147483648 ≤ x ∧ x < 2147483648)
    (k1 : 0 < x → y_E X D j F u w p1 lv r S V K) (k2 : ¬ 0 < x → y_E X D j F u w p2 lv r S V K) : y_E X D j (F + 1) u w pc lv (iv x :: r) S V K := by
  subst g1 g2
  exact y_br hc (fun d => rfl) (fun g => k1 ((v_lt (x := 0) (by omega) (by omega) h.1 h.2).mp g)) (fun g => k2 (mt (v_lt (x := 0) (by omega) (by omega) h.1 h.2).mpr g))
theorem y_zle {x : Int} {r : List Value} {q a : Int} {len b p1 p2 : Nat} (hc : m_nth (m_code j) pc = some (some (.ifCond .le q, len, a, b))) (g1 : a.toNat = p1) (g2 : pc + len = p2) (h : -2147483648 ≤ x ∧ x < 2147483648)
    (k1 : x ≤ 0 → y_E X D j F u w p1 lv r S V K) (k2 : ¬ x ≤ 0 → y_E X D j F u w p2 lv r S V K) : y_E X D j (F + 1) u w pc lv (iv x :: r) S V K := by
  subst g1 g2
  exact y_br hc (fun d => rfl) (fun g => k1 ((v_le (y := 0) h.1 h.2 (by omega) (by omega)).mp g)) (fun g => k2 (mt (v_le (y := 0) h.1 h.2 (by omega) (by omega)).mpr g))
/-- a truth on the stack -/
def v_b (c : Prop) [Decidable c] : Int := if c then 1 else 0
theorem v_b1 {c : Prop} [Decidable c] (h : c) : v_b c = 1 := if_pos h
theorem v_b0 {c : Prop} [Decidable c] (h : ¬ c) : v_b c = 0 := if_neg h
theorem v_br (c : Prop) [Decidable c] : 0 ≤ v_b c ∧ v_b c ≤ 1 := by
  unfold v_b
  split <;> omega
theorem v_be {c c' : Prop} [Decidable c] [Decidable c'] (h : c ↔ c') : v_b c = v_b c' := by
  by_cases hc : c
  · rw [v_b1 hc, v_b1 (h.mp hc)]
  · rw [v_b0 hc, v_b0 (mt h.mpr hc)]
theorem y_beq {c : Prop} [Decidable c] {r : List Value} {q a : Int} {len b p1 p2 : Nat} (hc : m_nth (m_code j) pc = some (some (.ifCond .eq q, len, a, b))) (g1 : a.toNat = p1) (g2 : pc + len = p2)
    (k1 : ¬ c → y_E X D j F u w p1 lv r S V K) (k2 : c → y_E X D j F u w p2 lv r S V K) : y_E X D j (F + 1) u w pc lv (iv (v_b c) :: r) S V K := by
  have hb := v_br c
  refine y_zeq hc g1 g2 (by omega) (fun g => k1 (fun h => ?_)) (fun g => k2 ?_)
  · rw [v_b1 h] at g
    omega
  · by_cases h : c
    · exact h
    · exact absurd (v_b0 h) g
theorem y_bne {c : Prop} [Decidable c] {r : List Value} {q a : Int} {len b p1 p2 : Nat} (hc : m_nth (m_code j) pc = some (some (.ifCond .ne q, len, a, b))) (g1 : a.toNat = p1) (g2 : pc + len = p2)
    (k1 : c → y_E X D j F u w p1 lv r S V K) (k2 : ¬ c → y_E X D j F u w p2 lv r S V K) : y_E X D j (F + 1) u w pc lv (iv (v_b c) :: r) S V K := by
  have hb := v_br c
  refine y_zne hc g1 g2 (by omega) (fun g => k1 ?_) (fun g => k2 (fun h => ?_))
  · by_cases h : c
    · exact h
    · exact absurd (v_b0 h) g
  · rw [v_b1 h] at g
    omega
/-- fields -/
theorem y_gI {q len b i k pc' : Nat} {a : Int} {vs r : List Value} {x : Int32} {e : Int} (hc : m_nth (m_code j) pc = some (some (.getfield q, len, a, b))) (hp : pc + len = pc') (hi : a.toNat % 100 = i) (hs : ce S k b vs) (hf : m_nth vs i = some (.int x)) (he : V k i = e) (kk : y_E X D j F u w pc' lv (iv e :: r) S V K) : y_E X D j (F + 1) u w pc lv (.ref k :: r) S V K := by
  subst hp hi he
  refine y_in hc rfl (fun d => ?_) kk
  rw [m_s_getfield]
  simp only [v_ob hs, if_true, v_mc_nth, hf, Option.map_some, v_cv, Nat.zero_add]
theorem y_gR {q len b i k x pc' : Nat} {a : Int} {vs r : List Value} (hc : m_nth (m_code j) pc = some (some (.getfield q, len, a, b))) (hp : pc + len = pc') (hi : a.toNat % 100 = i) (hs : ce S k b vs) (hf : m_nth vs i = some (.ref x)) (kk : y_E X D j F u w pc' lv (.ref x :: r) S V K) : y_E X D j (F + 1) u w pc lv (.ref k :: r) S V K := by
  subst hp hi
  refine y_in hc rfl (fun d => ?_) kk
  rw [m_s_getfield]
  simp only [v_ob hs, if_true, v_mc_nth, hf, Option.map_some, v_cv]
theorem y_gN {q len b i k pc' : Nat} {a : Int} {vs r : List Value} (hc : m_nth (m_code j) pc = some (some (.getfield q, len, a, b))) (hp : pc + len = pc') (hi : a.toNat % 100 = i) (hs : ce S k b vs) (hf : m_nth vs i = some .null) (kk : y_E X D j F u w pc' lv (.null :: r) S V K) : y_E X D j (F + 1) u w pc lv (.ref k :: r) S V K := by
  subst hp hi
  refine y_in hc rfl (fun d => ?_) kk
  rw [m_s_getfield]
  simp only [v_ob hs, if_true, v_mc_nth, hf, Option.map_some, v_cv]
/-- a number into a field of ints (0) or truths (1) -/
theorem y_pI {q len b i k pc' : Nat} {a : Int} {vs r : List Value} {x : Int32} {e : Int} (hc : m_nth (m_code j) pc = some (some (.putfield q, len, a, b))) (hp : pc + len = pc') (hi : a.toNat % 100 = i) (hs : ce S k b vs) (hf : m_nth vs i = some (.int x)) (ht : a.toNat / 100 = 0) (kk : y_E X D j F u w pc' lv r S (v_up V k i e) K) : y_E X D j (F + 1) u w pc lv (iv e :: .ref k :: r) S V K := by
  subst hp hi
  refine y_wr hc rfl (fun d => ?_) kk
  rw [m_s_putfield]
  have hlt : a.toNat % 100 < (v_mc (V k) 0 vs).length := by
    rw [v_mc_len]
    exact m_nth_lt hf
  simp only [v_ob hs]
  rw [if_pos ⟨trivial, hlt, by rw [ht]; rfl⟩, v_set_int hs hf]
theorem y_pZ {q len b i k pc' : Nat} {a : Int} {vs r : List Value} {x : Int32} {e : Int} (hc : m_nth (m_code j) pc = some (some (.putfield q, len, a, b))) (hp : pc + len = pc') (hi : a.toNat % 100 = i) (hs : ce S k b vs) (hf : m_nth vs i = some (.int x)) (ht : a.toNat / 100 = 1) (he : e = 0 ∨ e = 1) (kk : y_E X D j F u w pc' lv r S (v_up V k i e) K) : y_E X D j (F + 1) u w pc lv (iv e :: .ref k :: r) S V K := by
  subst hp hi
  refine y_wr hc rfl (fun d => ?_) kk
  rw [m_s_putfield]
  have hlt : a.toNat % 100 < (v_mc (V k) 0 vs).length := by
    rw [v_mc_len]
    exact m_nth_lt hf
  simp only [v_ob hs]
  rw [if_pos ⟨trivial, hlt, by rw [ht]; rcases he with rfl | rfl <;> rfl⟩, v_set_int hs hf]
theorem y_pR {q len b i k pc' : Nat} {a : Int} {vs r : List Value} {v : Value} (hc : m_nth (m_code j) pc = some (some (.putfield q, len, a, b))) (hp : pc + len = pc') (hi : a.toNat % 100 = i) (hs : ce S k b vs) (hl : i < vs.length) (hv : m_fit (a.toNat / 100) v = true ∧ ∀ x, v ≠ .int x) (kk : y_E X D j F u w pc' lv r (S.set k (b, vs.set i v)) V K) : y_E X D j (F + 1) u w pc lv (v :: .ref k :: r) S V K := by
  subst hp hi
  refine y_wr hc rfl (fun d => ?_) kk
  rw [m_s_putfield]
  simp only [v_ob hs]
  rw [if_pos ⟨trivial, by rw [v_mc_len]; exact hl, hv.1⟩, v_set_ref hs hv.2]
/-- arrays -/
theorem y_al {q len : Nat} {a : Int} {b k t pc' N : Nat} {vs r : List Value} (hc : m_nth (m_code j) pc = some (some (.arraylength, len, a, b))) (hp : pc + len = pc') (hs : ce S k t vs) (ht : 20 ≤ t ∧ t ≤ 26) (hN : vs.length = N) (kk : y_E X D j F u w pc' lv (iv N :: r) S V K) : y_E X D j (F + 1) u w pc lv (.ref k :: r) S V K := by
  subst hp hN
  refine y_in hc rfl (fun d => ?_) kk
  rw [m_s_arraylength]
  unfold m_ln
  simp only [if_pos hs.1, mkh_nth, hs.2, Option.map_some, if_pos ht, v_mc_len]
  rfl
def v_ia (S : m_H) (k t N : Nat) : Prop := ce S k t (List.replicate N (.int 0))
theorem v_rep {α : Type} {N i : Nat} {a : α} (h : i < N) : m_nth (List.replicate N a) i = some a := by
  rw [m_nth_eq, List.getElem?_replicate, if_pos h]
theorem y_ild {len : Nat} {a : Int} {b k pc' N : Nat} {r : List Value} {e x : Int} {q : Nat} (hc : m_nth (m_code j) pc = some (some (.iaload, len, a, b))) (hp : pc + len = pc') (hs : v_ia S k 20 N) (hi : 0 ≤ e ∧ e < N) (hN : (N : Int) ≤ 2147483648) (hq : e.toNat = q) (hx : V k q = x) (kk : y_E X D j F u w pc' lv (iv x :: r) S V K) : y_E X D j (F + 1) u w pc lv (iv e :: .ref k :: r) S V K := by
  subst hp hq hx
  refine y_in hc rfl (fun d => ?_) kk
  rw [m_s_iaload]
  unfold m_el
  simp only [v_ix hi.1 (by omega), if_pos hs.1, mkh_nth, hs.2, Option.map_some, if_true, v_mc_nth, v_rep (show e.toNat < N by omega), v_cv, Nat.zero_add]
theorem y_bld {len : Nat} {a : Int} {b k pc' N : Nat} {r : List Value} {e x : Int} {q : Nat} (hc : m_nth (m_code j) pc = some (some (.baload, len, a, b))) (hp : pc + len = pc') (hs : v_ia S k 21 N) (hi : 0 ≤ e ∧ e < N) (hN : (N : Int) ≤ 2147483648) (hq : e.toNat = q) (hx : V k q = x) (kk : y_E X D j F u w pc' lv (iv x :: r) S V K) : y_E X D j (F + 1) u w pc lv (iv e :: .ref k :: r) S V K := by
  subst hp hq hx
  refine y_in hc rfl (fun d => ?_) kk
  rw [m_s_baload]
  unfold m_el
  simp only [v_ix hi.1 (by omega), if_pos hs.1, mkh_nth, hs.2, Option.map_some, if_true, v_mc_nth, v_rep (show e.toNat < N by omega), v_cv, Nat.zero_add]
theorem y_ist {len : Nat} {a : Int} {b k pc' N : Nat} {r : List Value} {e x : Int} {q : Nat} (hc : m_nth (m_code j) pc = some (some (.iastore, len, a, b))) (hp : pc + len = pc') (hs : v_ia S k 20 N) (hi : 0 ≤ e ∧ e < N) (hN : (N : Int) ≤ 2147483648) (hq : e.toNat = q) (kk : y_E X D j F u w pc' lv r S (v_up V k q x) K) : y_E X D j (F + 1) u w pc lv (iv x :: iv e :: .ref k :: r) S V K := by
  subst hp hq
  refine y_wr hc rfl (fun d => ?_) kk
  rw [m_s_iastore]
  unfold m_se
  simp only [v_ix hi.1 (by omega), v_ob hs]
  rw [if_pos ⟨trivial, by rw [v_mc_len, List.length_replicate]; omega⟩]
  simp only [v_set_int hs (v_rep (show e.toNat < N by omega))]
theorem y_bst {len : Nat} {a : Int} {b k pc' N : Nat} {r : List Value} {e x : Int} {q : Nat} (hc : m_nth (m_code j) pc = some (some (.bastore, len, a, b))) (hp : pc + len = pc') (hs : v_ia S k 21 N) (hi : 0 ≤ e ∧ e < N) (hN : (N : Int) ≤ 2147483648) (hq : e.toNat = q) (hx : x = 0 ∨ x = 1) (kk : y_E X D j F u w pc' lv r S (v_up V k q x) K) : y_E X D j (F + 1) u w pc lv (iv x :: iv e :: .ref k :: r) S V K := by
  subst hp hq
  refine y_wr hc rfl (fun d => ?_) kk
  rw [m_s_bastore]
  have hx2 : Int32.ofInt x = 0 ∨ Int32.ofInt x = 1 := by
    rcases hx with rfl | rfl
    · exact Or.inl rfl
    · exact Or.inr rfl
  unfold m_se
  simp only [if_pos hx2, v_ix hi.1 (by omega), v_ob hs]
  rw [if_pos ⟨trivial, by rw [v_mc_len, List.length_replicate]; omega⟩]
  simp only [v_set_int hs (v_rep (show e.toNat < N by omega))]
theorem y_rld {len : Nat} {a : Int} {b k t x i pc' : Nat} {vs r : List Value} {e : Int} (hc : m_nth (m_code j) pc = some (some (.aaload, len, a, b))) (hp : pc + len = pc') (hs : ce S k t vs) (ht : 22 ≤ t ∧ t ≤ 26) (hi : 0 ≤ e ∧ e < 2147483648) (he : e.toNat = i) (hv : m_nth vs i = some (.ref x)) (kk : y_E X D j F u w pc' lv (.ref x :: r) S V K) : y_E X D j (F + 1) u w pc lv (iv e :: .ref k :: r) S V K := by
  subst hp he
  refine y_in hc rfl (fun d => ?_) kk
  rw [m_s_aaload]
  simp only [v_ix hi.1 hi.2, v_ob hs, if_pos ht, v_mc_nth, hv, Option.map_some, v_cv]
theorem y_rldN {len : Nat} {a : Int} {b k t i pc' : Nat} {vs r : List Value} {e : Int} (hc : m_nth (m_code j) pc = some (some (.aaload, len, a, b))) (hp : pc + len = pc') (hs : ce S k t vs) (ht : 22 ≤ t ∧ t ≤ 26) (hi : 0 ≤ e ∧ e < 2147483648) (he : e.toNat = i) (hv : m_nth vs i = some .null) (kk : y_E X D j F u w pc' lv (.null :: r) S V K) : y_E X D j (F + 1) u w pc lv (iv e :: .ref k :: r) S V K := by
  subst hp he
  refine y_in hc rfl (fun d => ?_) kk
  rw [m_s_aaload]
  simp only [v_ix hi.1 hi.2, v_ob hs, if_pos ht, v_mc_nth, hv, Option.map_some, v_cv]
/-- what may stand in an array of references -/
def v_asg (S : m_H) (t : Nat) (v : Value) : Prop := v = .null ∨ ∃ x ws, v = .ref x ∧ ce S x (m_cmp t) ws
theorem y_rst {len : Nat} {a : Int} {b k t i pc' : Nat} {vs r : List Value} {e : Int} {v : Value} (hc : m_nth (m_code j) pc = some (some (.aastore, len, a, b))) (hp : pc + len = pc') (hs : ce S k t vs) (ht : 22 ≤ t ∧ t ≤ 26) (hi : 0 ≤ e ∧ e < 2147483648) (he : e.toNat = i) (hl : i < vs.length) (hv : v_asg S t v) (kk : y_E X D j F u w pc' lv r (S.set k (t, vs.set i v)) V K) : y_E X D j (F + 1) u w pc lv (v :: iv e :: .ref k :: r) S V K := by
  subst hp he
  refine y_wr hc rfl (fun d => ?_) kk
  have hv2 : ∀ x, v ≠ .int x := by
    rcases hv with rfl | ⟨x, ws, rfl, -⟩ <;> intro x h <;> cases h
  have hv3 : m_asg (mkh S V) t v = true := by
    rcases hv with rfl | ⟨x, ws, rfl, h⟩
    · rfl
    · unfold m_asg
      simp only [v_ob h]
      simp
  rw [m_s_aastore]
  simp only [v_ix hi.1 hi.2, v_ob hs]
  rw [if_pos ⟨ht.1, ht.2, by rw [v_mc_len]; exact hl, hv3⟩, v_set_ref hs hv2]
/-- making -/
theorem y_alc {t : Nat} {vs : List Value} {z : Nat} {pc' : Nat} {st' : List Value} (hc : m_nth (m_code j) pc = some (some en)) (hs : ∀ d, m_stp X (m_run X d) en pc lv st (mkh S V) = m_nx pc' lv st' (mkh S V ++ [(t, vs)])) (hz : vs.length = z) (h0 : ∀ v ∈ vs, v = iv 0 ∨ ∀ x, v ≠ .int x) (k : y_E X D j F (u + 1) (w + z) pc' lv st' (S ++ [(t, vs)]) (v_zer V S.length) K) : y_E X D j (F + 1) u w pc lv st S V K := by
  intro d n h1 h2
  obtain ⟨n, rfl⟩ : ∃ q, n = q + 1 := ⟨n - 1, by omega⟩
  refine x_al hc (hs d) hz ?_
  rw [v_mk_add h0]
  exact k d n h1 (by omega)
theorem y_new {q len b z pc' : Nat} {a : Int} (hc : m_nth (m_code j) pc = some (some (.new q, len, a, b))) (hp : pc + len = pc') (hb : S.length < 1000000) (hz : (m_dfl b).length = z) (h0 : ∀ v ∈ m_dfl b, v = iv 0 ∨ ∀ x, v ≠ .int x) (k : y_E X D j F (u + 1) (w + z) pc' lv (.ref S.length :: st) (S ++ [(b, m_dfl b)]) (v_zer V S.length) K) : y_E X D j (F + 1) u w pc lv st S V K := by
  subst hp
  refine y_alc hc (fun d => ?_) hz h0 k
  rw [m_s_new]
  unfold m_add
  rw [mkh_len, if_pos hb]
theorem y_nwi {q : ArrayType} {len b N pc' : Nat} {a e : Int} {r : List Value} (hc : m_nth (m_code j) pc = some (some (.newarray q, len, a, b))) (hp : pc + len = pc') (hb : S.length < 1000000) (he : e = N) (hN : N ≤ 100000) (k : y_E X D j F (u + 1) (w + N) pc' lv (.ref S.length :: r) (S ++ [(b, List.replicate N (.int 0))]) (v_zer V S.length) K) : y_E X D j (F + 1) u w pc lv (iv e :: r) S V K := by
  subst hp he
  refine y_alc (vs := List.replicate N (.int 0)) hc (fun d => ?_) (by simp) (fun v hv => Or.inl (List.eq_of_mem_replicate hv)) k
  rw [m_s_newarray]
  simp only [v_ix (show (0 : Int) ≤ N by omega) (show (N : Int) < 2147483648 by omega), Int.toNat_natCast, if_pos hN]
  unfold m_add
  rw [mkh_len, if_pos hb]
/-- arraycopy -/
def v_cp (f g : Nat → Int) (i q n : Nat) : Nat → Int := fun p => if q ≤ p ∧ p < q + n then f (p - q + i) else g p
theorem y_acp {len b A B N M pc' : Nat} {a : Int} {q : Nat} {r : List Value} {i p n : Int} (hc : m_nth (m_code j) pc = some (some (.invokestatic q, len, a, b))) (h9 : a.toNat = 9999) (hp : pc + len = pc') (hA : v_ia S A 20 N) (hB : v_ia S B 20 M) (hi : 0 ≤ i ∧ 0 ≤ p ∧ 0 ≤ n ∧ i + n ≤ N ∧ p + n ≤ M) (hN : (N : Int) < 2147483648 ∧ (M : Int) < 2147483648) (hr : r.length ≤ 4) (kk : y_E X D j F u w pc' lv r S (v_ur V B (v_cp (V A) (V B) i.toNat p.toNat n.toNat)) K) : y_E X D j (F + 1) u w pc lv (iv n :: iv p :: .ref B :: iv i :: .ref A :: r) S V K := by
  subst hp
  refine y_wr hc (by simp [x_noStatic, h9]) (fun d => ?_) kk
  rw [m_s_invokestatic, if_pos h9]
  have e1 : m_acp (mkh S V) A (Int32.ofInt i) B (Int32.ofInt p) (Int32.ofInt n) = some (mkh S (v_ur V B (v_cp (V A) (V B) i.toNat p.toNat n.toNat))) := by
    unfold m_acp
    simp only [v_ix hi.1 (by omega), v_ix hi.2.1 (by omega), v_ix hi.2.2.1 (by omega), v_ob hA, v_ob hB]
    rw [if_pos ⟨trivial, trivial, by rw [v_mc_len, List.length_replicate]; omega, by rw [v_mc_len, List.length_replicate]; omega⟩]
    congr 1
    apply v_list_ext
    intro k
    rw [m_nth_set, mkh_nth, mkh_nth, mkh_nth]
    by_cases hk : k = B
    · subst hk
      rw [if_pos rfl, hB.2]
      refine congrArg some (congrArg (Prod.mk 20) ?_)
      show _ = v_mc (v_ur V k (v_cp (V A) (V k) i.toNat p.toNat n.toNat) k) 0 (List.replicate M (Value.int 0))
      rw [v_ur_eq]
      apply List.ext_getElem?
      intro z
      rw [← m_nth_eq (v_mc (v_cp _ _ _ _ _) _ _), v_mc_nth]
      have eA : ∀ z, (v_mc (V A) 0 (List.replicate N (Value.int 0)))[z]? = (m_nth (List.replicate N (Value.int 0)) z).map (v_cv (V A) z) := fun z => by
        rw [← m_nth_eq, v_mc_nth, Nat.zero_add]
      have eB : ∀ z, (v_mc (V k) 0 (List.replicate M (Value.int 0)))[z]? = (m_nth (List.replicate M (Value.int 0)) z).map (v_cv (V k) z) := fun z => by
        rw [← m_nth_eq, v_mc_nth, Nat.zero_add]
      have lB : (v_mc (V k) 0 (List.replicate M (Value.int 0))).length = M := by rw [v_mc_len, List.length_replicate]
      have lA : (v_mc (V A) 0 (List.replicate N (Value.int 0))).length = N := by rw [v_mc_len, List.length_replicate]
      have e1 : (i.toNat : Int) = i := Int.toNat_of_nonneg hi.1
      have e2 : (p.toNat : Int) = p := Int.toNat_of_nonneg hi.2.1
      have e3 : (n.toNat : Int) = n := Int.toNat_of_nonneg hi.2.2.1
      have r0 : ∀ {N z : Nat}, m_nth (List.replicate N (Value.int 0)) z = if z < N then some (.int 0) else none := fun {N z} => by
        rw [m_nth_eq, List.getElem?_replicate]
      rw [Nat.zero_add]
      by_cases c1 : z < p.toNat
      · rw [List.getElem?_append_left (by rw [List.length_take, lB]; omega), List.getElem?_take, if_pos c1, eB]
        congr 1
        funext v
        cases v <;> simp [v_cv, v_cp, show ¬ (p.toNat ≤ z) by omega]
      · rw [List.getElem?_append_right (by rw [List.length_take, lB]; omega), List.length_take, lB, Nat.min_eq_left (by omega)]
        by_cases c2 : z < p.toNat + n.toNat
        · rw [List.getElem?_append_left (by rw [List.length_take, List.length_drop, lA]; omega), List.getElem?_take, if_pos (by omega), List.getElem?_drop, eA, r0, r0, if_pos (by omega), if_pos (by omega)]
          show some _ = some _
          simp only [v_cv, v_cp]
          rw [if_pos ⟨by omega, c2⟩]
          congr 3
          omega
        · rw [List.getElem?_append_right (by rw [List.length_take, List.length_drop, lA]; omega), List.length_take, List.length_drop, lA, Nat.min_eq_left (by omega), List.getElem?_drop, eB, r0, r0]
          rw [show p.toNat + n.toNat + (z - p.toNat - n.toNat) = z by omega]
          by_cases c3 : z < M
          · rw [if_pos c3]
            show some _ = some _
            simp only [v_cv, v_cp]
            rw [if_neg (by omega)]
          · rw [if_neg c3]
            rfl
    · rw [if_neg hk, v_ur_ne hk]
  simp only [e1, if_pos hr]
theorem y_rldV {len : Nat} {a : Int} {b k t i pc' : Nat} {vs r : List Value} {e : Int} {v : Value} (hc : m_nth (m_code j) pc = some (some (.aaload, len, a, b))) (hp : pc + len = pc') (hs : ce S k t vs) (ht : 22 ≤ t ∧ t ≤ 26) (hi : 0 ≤ e ∧ e < 2147483648) (he : e.toNat = i) (hv : m_nth vs i = some v) (hr : v = .null ∨ ∃ x, v = .ref x) (kk : y_E X D j F u w pc' lv (v :: r) S V K) : y_E X D j (F + 1) u w pc lv (iv e :: .ref k :: r) S V K := by
  rcases hr with rfl | ⟨x, rfl⟩
  · exact y_rldN hc hp hs ht hi he hv kk
  · exact y_rld hc hp hs ht hi he hv kk
theorem v_mg_ext {V V' : v_V} : ∀ (S : m_H) (k0 : Nat), (∀ k t vs, m_nth S k = some (t, vs) → v_mc (V (k0 + k)) 0 vs = v_mc (V' (k0 + k)) 0 vs) → v_mg V k0 S = v_mg V' k0 S
  | [], _, _ => rfl
  | c :: r, k0, h => by
    show (c.1, _) :: v_mg V (k0 + 1) r = (c.1, _) :: v_mg V' (k0 + 1) r
    have e1 : v_mc (V k0) 0 c.2 = v_mc (V' k0) 0 c.2 := h 0 c.1 c.2 rfl
    have e2 : v_mg V (k0 + 1) r = v_mg V' (k0 + 1) r := v_mg_ext r (k0 + 1) (fun k t vs hk => by
      have := h (k + 1) t vs hk
      rw [show k0 + (k + 1) = k0 + 1 + k by omega] at this
      exact this)
    rw [e1, e2]
theorem v_mc_ext {f g : Nat → Int} {vs : List Value} (h : ∀ i x, m_nth vs i = some (.int x) → f i = g i) : v_mc f 0 vs = v_mc g 0 vs := by
  apply v_list_ext
  intro q
  rw [v_mc_nth, v_mc_nth, Nat.zero_add]
  cases hv : m_nth vs q with
  | none => rfl
  | some v =>
    cases v <;> first | rfl | (simp only [Option.map_some, v_cv]; rw [h _ _ hv])
/-- a row may be told by any function that has its numbers -/
theorem y_row {k t : Nat} {vs : List Value} {f g : Nat → Int} (hs : ce S k t vs) (h : ∀ i x, m_nth vs i = some (.int x) → f i = g i) (kk : y_E X D j F u w pc lv st S (v_ur V k g) K) : y_E X D j F u w pc lv st S (v_ur V k f) K := by
  have e : mkh S (v_ur V k f) = mkh S (v_ur V k g) := by
    unfold mkh
    refine v_mg_ext S 0 (fun q t' vs' hq => ?_)
    rw [Nat.zero_add]
    by_cases hqk : q = k
    · subst hqk
      rw [v_ur_eq, v_ur_eq]
      rw [hs.2] at hq
      cases hq
      exact v_mc_ext h
    · rw [v_ur_ne hqk, v_ur_ne hqk]
  intro d n h1 h2
  rw [e]
  exact kk d n h1 h2
theorem v_repI {N i : Nat} {x : Int32} (h : m_nth (List.replicate N (Value.int 0)) i = some (.int x)) : i < N := by
  rw [m_nth_eq, List.getElem?_replicate] at h
  split at h
  · assumption
  · cases h
theorem y_acF {len b A B N pc' : Nat} {a : Int} {q : Nat} {r : List Value} {n : Int} (hc : m_nth (m_code j) pc = some (some (.invokestatic q, len, a, b))) (h9 : a.toNat = 9999) (hp : pc + len = pc') (hA : v_ia S A 20 N) (hB : v_ia S B 20 N) (hi : n = N) (hN : (N : Int) < 2147483648) (hr : r.length ≤ 4) (kk : y_E X D j F u w pc' lv r S (v_ur V B (V A)) K) : y_E X D j (F + 1) u w pc lv (iv n :: iv 0 :: .ref B :: iv 0 :: .ref A :: r) S V K := by
  subst hi
  refine y_acp hc h9 hp hA hB ⟨by omega, by omega, by omega, by omega, by omega⟩ ⟨hN, hN⟩ hr (y_row hB (fun i x hx => ?_) kk)
  have := v_repI hx
  unfold v_cp
  rw [if_pos (by omega)]
  rfl
theorem ce_eq {k t t' : Nat} {vs vs' : List Value} (h : ce S k t vs) : ce (S.set k (t', vs')) k t' vs' := by
  refine ⟨h.1, ?_⟩
  rw [m_nth_set, if_pos rfl, h.2]
  rfl
theorem ce_ne {k q t : Nat} {vs : List Value} {c : Nat × List Value} (h : ce S k t vs) (hk : k ≠ q) : ce (S.set q c) k t vs := by
  refine ⟨h.1, ?_⟩
  rw [m_nth_set, if_neg hk]
  exact h.2
theorem asg_set {k t t' : Nat} {vs vs' : List Value} {v : Value} (hk : ce S k t vs) (ht : 22 ≤ t ∧ t ≤ 26) (h : v_asg S t' v) (ht' : t' = t) : v_asg (S.set k (t, vs')) t' v := by
  rcases h with h | ⟨x, ws, h1, h2⟩
  · exact Or.inl h
  · refine Or.inr ⟨x, ws, h1, ce_ne h2 (fun e => ?_)⟩
    subst e ht'
    have := hk.2.symm.trans h2.2
    simp only [Option.some.injEq, Prod.mk.injEq] at this
    have h3 : t' = 22 ∨ t' = 23 ∨ t' = 24 ∨ t' = 25 ∨ t' = 26 := by omega
    rcases h3 with rfl | rfl | rfl | rfl | rfl <;> exact absurd this.1 (by decide)
theorem ce_app {k t : Nat} {vs : List Value} {c : Nat × List Value} (h : ce S k t vs) : ce (S ++ [c]) k t vs := by
  refine ⟨h.1, ?_⟩
  rw [m_nth_app, if_neg (Nat.ne_of_lt (m_nth_lt h.2))]
  exact h.2
theorem ce_new {t : Nat} {vs : List Value} (h : S.length < 1000000) : ce (S ++ [(t, vs)]) S.length t vs := by
  refine ⟨h, ?_⟩
  rw [m_nth_app, if_pos rfl]
theorem y_ent {as : List Value} {lv' : m_L} (hlg : (lg_sl as).length ≤ m_nl j) (hlv : lv_args 0 as = lv') (k : y_E X D j 1000000 u w 0 lv' [] S V K) : y_R X (D + 1) j u w as S V K := by
  subst hlv
  exact y_enter hlg k
theorem y_rI {len b : Nat} {a e : Int} (hc : m_nth (m_code j) pc = some (some (.ireturn, len, a, b))) (hb : b = 0 ∨ e = 0 ∨ e = 1) (k : K u w (some (iv e)) S V) : y_E X D j (F + 1) u w pc lv [iv e] S V K := by
  refine y_ret hc (fun d => ?_) k
  have h2 : b = 0 ∨ Int32.ofInt e = 0 ∨ Int32.ofInt e = 1 := by
    rcases hb with h | rfl | rfl
    · exact Or.inl h
    · exact Or.inr (Or.inl rfl)
    · exact Or.inr (Or.inr rfl)
  show (if b = 0 ∨ Int32.ofInt e = 0 ∨ Int32.ofInt e = 1 then _ else none) = _
  rw [if_pos h2]
theorem y_st {lv' : m_L} {st' : List Value} {pc' : Nat} (hc : m_nth (m_code j) pc = some (some en)) (ha : x_noStatic en = true) (hs : ∀ d, m_stp X (m_run X d) en pc lv st (mkh S V) = m_nx pc' lv' st' (mkh S V)) (k : y_E X D j F u w pc' lv' st' S V K) : y_E X D j (F + 1) u w pc lv st S V K := y_in hc ha hs k
end ROWS
end
section
/-! numbers' bits, by division -/
theorem v_N (n : Nat) : Int32.ofInt (n : Int) = nI n := by
  apply Int32.toBitVec_inj.mp
  show BitVec.ofInt 32 (n : Int) = BitVec.ofNat 32 n
  exact BitVec.ofInt_natCast 32 n
theorem v_Nz {x : Int} (h : 0 ≤ x) : Int32.ofInt x = nI x.toNat := by
  rw [← v_N, Int.toNat_of_nonneg h]
theorem v_and {x y : Int} (hx : 0 ≤ x) (hy : 0 ≤ y) : Int32.ofInt x &&& Int32.ofInt y = Int32.ofInt ((x.toNat &&& y.toNat : Nat) : Int) := by
  rw [v_Nz hx, v_Nz hy, v_N]
  apply Int32.toBitVec_inj.mp
  show BitVec.ofNat 32 _ &&& BitVec.ofNat 32 _ = BitVec.ofNat 32 _
  rw [BitVec.ofNat_and]
theorem v_or {x y : Int} (hx : 0 ≤ x) (hy : 0 ≤ y) : Int32.ofInt x ||| Int32.ofInt y = Int32.ofInt ((x.toNat ||| y.toNat : Nat) : Int) := by
  rw [v_Nz hx, v_Nz hy, v_N]
  apply Int32.toBitVec_inj.mp
  show BitVec.ofNat 32 _ ||| BitVec.ofNat 32 _ = BitVec.ofNat 32 _
  rw [BitVec.ofNat_or]
theorem v_xor {x y : Int} (hx : 0 ≤ x) (hy : 0 ≤ y) : Int32.ofInt x ^^^ Int32.ofInt y = Int32.ofInt ((x.toNat ^^^ y.toNat : Nat) : Int) := by
  rw [v_Nz hx, v_Nz hy, v_N]
  apply Int32.toBitVec_inj.mp
  show BitVec.ofNat 32 _ ^^^ BitVec.ofNat 32 _ = BitVec.ofNat 32 _
  rw [BitVec.ofNat_xor]
theorem v_sh31 {k : Nat} (h : k < 32) : nI k &&& 31 = nI k := by
  rw [pk_andN (by omega) 5 (by decide), Nat.mod_eq_of_lt (by omega)]
theorem v_smod : ∀ k : Nat, k < 32 → ((nI k).toBitVec.smod 32).toNat = k := by decide
theorem v_shr {x k : Int} (hx : 0 ≤ x ∧ x < 2147483648) (hk : 0 ≤ k ∧ k < 32) : Int32.ofInt x >>> (Int32.ofInt k &&& 31) = Int32.ofInt (x / 2 ^ k.toNat) := by
  rw [v_Nz hx.1, v_Nz hk.1, v_sh31 (by omega), pk_shrN (by omega) _ k.toNat (v_smod _ (by omega)), ← v_N, Int.natCast_ediv, Int.toNat_of_nonneg hx.1]
  rfl
theorem v_ushr {x k : Int} (hx : 0 ≤ x ∧ x < 2147483648) (hk : 0 ≤ k ∧ k < 32) : ((Int32.ofInt x).toUInt32 >>> ((Int32.ofInt k).toUInt32 &&& Int32.toUInt32 31)).toInt32 = Int32.ofInt (x / 2 ^ k.toNat) := by
  have h : ∀ k : Nat, k < 32 → (((nI k).toUInt32 &&& Int32.toUInt32 31).toBitVec % 32).toNat = k := by decide
  rw [v_Nz hx.1, v_Nz hk.1, pk_ushrN (by omega) _ k.toNat (h _ (by omega)), ← v_N, Int.natCast_ediv, Int.toNat_of_nonneg hx.1]
  rfl
theorem v_and1 {x : Int} (hx : 0 ≤ x) : Int32.ofInt x &&& Int32.ofInt 1 = Int32.ofInt (x % 2) := by
  rw [v_and hx (by decide)]
  congr 1
  show ((x.toNat &&& 1 : Nat) : Int) = _
  rw [Nat.and_one_is_mod]
  omega
theorem v_shl1 {k : Int} (hk : 0 ≤ k ∧ k < 31) : Int32.ofInt 1 <<< (Int32.ofInt k &&& 31) = Int32.ofInt (2 ^ k.toNat) := by
  rw [v_Nz hk.1, v_sh31 (by omega), show Int32.ofInt 1 = nI 1 from rfl, pk_shlN _ k.toNat (v_smod _ (by omega)) (by
    have : 2 ^ k.toNat ≤ 2 ^ 30 := Nat.pow_le_pow_right (by decide) (by omega)
    omega), ← v_N]
  congr 1
  rw [Nat.one_mul, Int.natCast_pow]
  rfl
theorem v_div {x d : Int} (hx : 0 ≤ x ∧ x < 2147483648) (hd : 0 < d ∧ d < 2147483648) : Int32.ofInt x / Int32.ofInt d = Int32.ofInt (x / d) := by
  rw [v_Nz hx.1, v_Nz (show 0 ≤ d by omega), pk_div (by omega) (by omega) (by omega), ← v_N, Int.natCast_ediv, Int.toNat_of_nonneg hx.1, Int.toNat_of_nonneg (by omega)]
theorem v_rem {x d : Int} (hx : 0 ≤ x ∧ x < 2147483648) (hd : 0 < d ∧ d < 2147483648) : Int32.ofInt x - Int32.ofInt x / Int32.ofInt d * Int32.ofInt d = Int32.ofInt (x % d) := by
  rw [v_Nz hx.1, v_Nz (show 0 ≤ d by omega), pk_rem (by omega) (by omega) (by omega), ← v_N, Int.natCast_emod, Int.toNat_of_nonneg hx.1, Int.toNat_of_nonneg (by omega)]
theorem v_p2 (k : Nat) : 0 < (2 : Int) ^ k := Int.pow_pos (by decide)
theorem v_bit01 (x : Int) (k : Nat) : 0 ≤ x / 2 ^ k % 2 ∧ x / 2 ^ k % 2 ≤ 1 := by omega
/-- a bit of two: x &&& 2 ^ k -/
theorem v_and2 {x : Int} {k : Nat} (hx : 0 ≤ x ∧ x < 2147483648) (hk : k < 31) : Int32.ofInt x &&& Int32.ofInt (2 ^ k) = Int32.ofInt (2 ^ k * (x / 2 ^ k % 2)) := by
  rw [v_and hx.1 (Int.le_of_lt (v_p2 k))]
  congr 1
  have e1 : ((2 : Int) ^ k).toNat = 2 ^ k := by
    rw [show (2 : Int) ^ k = ((2 ^ k : Nat) : Int) by rw [Int.natCast_pow]; rfl, Int.toNat_natCast]
  rw [e1]
  obtain ⟨n, rfl⟩ : ∃ n : Nat, x = n := ⟨x.toNat, (Int.toNat_of_nonneg hx.1).symm⟩
  rw [Int.toNat_natCast]
  have e2 : n &&& 2 ^ k = 2 ^ k * (n / 2 ^ k % 2) := by
    apply Nat.eq_of_testBit_eq
    intro i
    rw [Nat.testBit_and, Nat.testBit_two_pow, Nat.testBit_two_pow_mul]
    by_cases h : k = i
    · subst h
      simp [Nat.testBit_eq_decide_div_mod_eq]
    · have : (n / 2 ^ k % 2).testBit (i - k) = false ∨ ¬ i ≥ k := by
        by_cases h3 : i ≥ k
        · left
          rw [Nat.testBit_eq_decide_div_mod_eq]
          have : n / 2 ^ k % 2 / 2 ^ (i - k) = 0 := Nat.div_eq_of_lt (by
            have : 2 ^ 1 ≤ 2 ^ (i - k) := Nat.pow_le_pow_right (by decide) (by omega)
            omega)
          rw [this]
          rfl
        · exact Or.inr h3
      rcases this with h4 | h4
      · simp [h, h4]
      · simp [h, h4]
  rw [e2]
  simp
/-- how many of the lowest k bits -/
def v_bs (x : Int) : Nat → Int
  | 0 => 0
  | k + 1 => v_bs x k + x / 2 ^ k % 2
theorem v_bs_le (x : Int) : ∀ k, 0 ≤ v_bs x k ∧ v_bs x k ≤ k
  | 0 => by simp [v_bs]
  | k + 1 => by
    have := v_bs_le x k
    have := v_bit01 x k
    simp only [v_bs]
    omega
end
section
/-! locals in another order, or fewer of them -/
def v_free : Instr → Bool
  | .iload_n _ => false
  | .iload _ => false
  | .lload_n _ => false
  | .lload _ => false
  | .aload_n _ => false
  | .aload _ => false
  | .istore_n _ => false
  | .istore _ => false
  | .astore_n _ => false
  | .astore _ => false
  | .iinc _ _ => false
  | _ => true
def v_relv (lv : m_L) : m_C ⊕ m_R → m_C ⊕ m_R
  | .inl (pc, _, st, h) => .inl (pc, lv, st, h)
  | .inr r => .inr r
set_option maxRecDepth 100000 in
set_option maxHeartbeats 8000000 in
theorem v_lvfree {X : Nat → List Int32} {call : Nat → List Value → m_H → Option m_R} {ins : Instr} {len : Nat} {a : Int} {b pc : Nat} {lv : m_L} {st : List Value} {h : m_H} {r : m_C ⊕ m_R} (hf : v_free ins = true) (hs : m_stp X call (ins, len, a, b) pc lv st h = some r) (lv2 : m_L) : m_stp X call (ins, len, a, b) pc lv2 st h = some (v_relv lv2 r) ∧ v_relv lv r = r := by
  unfold m_stp at hs
  dsimp only at hs
  split at hs
  all_goals (repeat' split at hs)
  all_goals first
    | (cases hs; done)
    | (exfalso; revert hf; simp [v_free]; done)
    | (cases hs; exact ⟨rfl, rfl⟩)
    | (cases hs; refine ⟨?_, rfl⟩; unfold m_stp; dsimp only; first | (rw [if_pos (by assumption)]; rfl) | (rw [if_neg (by assumption)]; rfl))
    | (cases hs; refine ⟨?_, rfl⟩; unfold m_stp; dsimp only; rw [if_neg (by assumption)]; simp only [*]; rfl)
    | (cases hs; refine ⟨?_, rfl⟩; unfold m_stp; simp_all [v_relv]; done)
def v_keys : m_L → Bool
  | [] => true
  | (i, _) :: r => r.all (fun q => !(q.1 == i)) && v_keys r
/-- what is known of the locals: some of them, in any order -/
def v_sub (l' l : m_L) : Prop := ∀ i v, m_lg l' i = some v → m_lg l i = some v
theorem v_lg_flt {l : m_L} {f : Nat × Value → Bool} {j : Nat} {w : Value} (h : m_lg l j = some w) (hf : f (j, w) = true) : m_lg (l.filter f) j = some w := by
  induction l with
  | nil => cases h
  | cons q r ih =>
    obtain ⟨i, v⟩ := q
    simp only [m_lg] at h
    by_cases hi : i = j
    · rw [if_pos hi] at h
      cases h
      subst hi
      rw [List.filter_cons_of_pos hf]
      simp [m_lg]
    · rw [if_neg hi] at h
      by_cases hp : f (i, v) = true
      · rw [List.filter_cons_of_pos hp]
        simp only [m_lg, if_neg hi]
        exact ih h
      · rw [List.filter_cons_of_neg hp]
        exact ih h
theorem v_lg_none {l : m_L} {j : Nat} (h : l.all (fun q => !(q.1 == j)) = true) : m_lg l j = none := by
  induction l with
  | nil => rfl
  | cons q r ih =>
    obtain ⟨i, v⟩ := q
    simp only [List.all_cons, Bool.and_eq_true, Bool.not_eq_true', beq_eq_false_iff_ne] at h
    simp only [m_lg, if_neg h.1]
    exact ih h.2
theorem v_all_flt {l : m_L} {f g : Nat × Value → Bool} (h : l.all g = true) : (l.filter f).all g = true := by
  rw [List.all_eq_true] at h ⊢
  intro x hx
  exact h x (List.mem_filter.mp hx).1
theorem v_lg_back {l : m_L} {f : Nat × Value → Bool} {j : Nat} {w : Value} (hk : v_keys l = true) (h : m_lg (l.filter f) j = some w) : m_lg l j = some w ∧ f (j, w) = true := by
  induction l with
  | nil => cases h
  | cons q r ih =>
    obtain ⟨i, v⟩ := q
    simp only [v_keys, Bool.and_eq_true] at hk
    by_cases hp : f (i, v) = true
    · rw [List.filter_cons_of_pos hp] at h
      simp only [m_lg] at h ⊢
      by_cases hi : i = j
      · rw [if_pos hi] at h ⊢
        cases h
        subst hi
        exact ⟨rfl, hp⟩
      · rw [if_neg hi] at h ⊢
        exact ih hk.2 h
    · rw [List.filter_cons_of_neg hp] at h
      have h2 := ih hk.2 h
      by_cases hi : i = j
      · subst hi
        rw [v_lg_none hk.1] at h2
        cases h2.1
      · simp only [m_lg, if_neg hi]
        exact h2
theorem v_keys_flt {l : m_L} {f : Nat × Value → Bool} (hk : v_keys l = true) : v_keys (l.filter f) = true := by
  induction l with
  | nil => rfl
  | cons q r ih =>
    obtain ⟨i, v⟩ := q
    simp only [v_keys, Bool.and_eq_true] at hk
    by_cases hp : f (i, v) = true
    · rw [List.filter_cons_of_pos hp]
      simp only [v_keys, Bool.and_eq_true]
      exact ⟨v_all_flt hk.1, ih hk.2⟩
    · rw [List.filter_cons_of_neg hp]
      exact ih hk.2
theorem v_sub_st {l' l : m_L} (h : v_sub l' l) (hk : v_keys l' = true) (i : Nat) (v : Value) : v_sub (m_st l' i v) (m_st l i v) ∧ v_keys (m_st l' i v) = true := by
  constructor
  · intro j w hj
    unfold m_st at hj ⊢
    simp only [m_lg] at hj ⊢
    by_cases hi : i = j
    · rw [if_pos hi] at hj ⊢
      exact hj
    · rw [if_neg hi] at hj ⊢
      have h2 := v_lg_back hk hj
      exact v_lg_flt (h _ _ h2.1) h2.2
  · unfold m_st
    simp only [v_keys, Bool.and_eq_true]
    refine ⟨?_, v_keys_flt hk⟩
    rw [List.all_eq_true]
    intro x hx
    have := (List.mem_filter.mp hx).2
    simp only [Bool.and_eq_true] at this
    exact this.1
theorem v_exec_lv {X : Nat → List Int32} {call : Nat → List Value → m_H → Option m_R} {code : List (Option m_E)} : ∀ (n pc : Nat) (l' l : m_L) (st : List Value) (h : m_H) (r : m_R), v_keys l' = true → v_sub l' l → m_exec X call code n pc l' st h = some r → m_exec X call code n pc l st h = some r
  | 0, _, _, _, _, _, _, _, _, he => by cases he
  | n + 1, pc, l', l, st, h, r, hk, hs, he => by
    simp only [m_exec] at he ⊢
    split at he
    · rename_i en hc
      obtain ⟨ins, len, a, b⟩ := en
      split at he
      · rename_i pc1 lv1 st1 h1 hx
        have key : ∃ l1, m_stp X call (ins, len, a, b) pc l st h = some (.inl (pc1, l1, st1, h1)) ∧ v_keys lv1 = true ∧ v_sub lv1 l1 := by
          by_cases hf : v_free ins = true
          · obtain ⟨g1, g2⟩ := v_lvfree hf hx l
            cases g2
            exact ⟨l, g1, hk, hs⟩
          · cases ins
            case iload_n k =>
              rw [m_s_iload_n] at hx ⊢
              split at hx
              · rename_i x e
                cases hx
                exact ⟨l, by rw [hs _ _ e], hk, hs⟩
              · cases hx
            case iload k =>
              rw [m_s_iload] at hx ⊢
              split at hx
              · rename_i x e
                cases hx
                exact ⟨l, by rw [hs _ _ e], hk, hs⟩
              · cases hx
            case lload_n k =>
              rw [m_s_lload_n] at hx ⊢
              split at hx
              · rename_i x e
                cases hx
                exact ⟨l, by rw [hs _ _ e], hk, hs⟩
              · cases hx
            case lload k =>
              rw [m_s_lload] at hx ⊢
              split at hx
              · rename_i x e
                cases hx
                exact ⟨l, by rw [hs _ _ e], hk, hs⟩
              · cases hx
            case aload_n k =>
              rw [m_s_aload_n] at hx ⊢
              split at hx
              · rename_i x e
                cases hx
                exact ⟨l, by rw [hs _ _ e], hk, hs⟩
              · rename_i e
                cases hx
                exact ⟨l, by rw [hs _ _ e], hk, hs⟩
              · cases hx
            case aload k =>
              rw [m_s_aload] at hx ⊢
              split at hx
              · rename_i x e
                cases hx
                exact ⟨l, by rw [hs _ _ e], hk, hs⟩
              · rename_i e
                cases hx
                exact ⟨l, by rw [hs _ _ e], hk, hs⟩
              · cases hx
            case istore_n k =>
              rw [m_s_istore_n] at hx ⊢
              split at hx
              · rename_i x r2
                cases hx
                have h3 := v_sub_st hs hk k.val (.int x)
                exact ⟨_, rfl, h3.2, h3.1⟩
              · cases hx
            case istore k =>
              rw [m_s_istore] at hx ⊢
              split at hx
              · rename_i x r2
                cases hx
                have h3 := v_sub_st hs hk k (.int x)
                exact ⟨_, rfl, h3.2, h3.1⟩
              · cases hx
            case astore_n k =>
              rw [m_s_astore_n] at hx ⊢
              split at hx
              · rename_i x r2
                cases hx
                have h3 := v_sub_st hs hk k.val (.ref x)
                exact ⟨_, rfl, h3.2, h3.1⟩
              · cases hx
                have h3 := v_sub_st hs hk k.val .null
                exact ⟨_, rfl, h3.2, h3.1⟩
              · cases hx
            case astore k =>
              rw [m_s_astore] at hx ⊢
              split at hx
              · rename_i x r2
                cases hx
                have h3 := v_sub_st hs hk k (.ref x)
                exact ⟨_, rfl, h3.2, h3.1⟩
              · cases hx
                have h3 := v_sub_st hs hk k .null
                exact ⟨_, rfl, h3.2, h3.1⟩
              · cases hx
            case iinc i k =>
              rw [m_s_iinc] at hx ⊢
              split at hx
              · rename_i x e
                cases hx
                have h3 := v_sub_st hs hk i (.int (x + Int32.ofInt k))
                exact ⟨_, by rw [hs _ _ e], h3.2, h3.1⟩
              · cases hx
            all_goals exact absurd rfl hf
        obtain ⟨l1, k1, k2, k3⟩ := key
        simp only [k1]
        exact v_exec_lv n pc1 lv1 l1 st1 h1 r k2 k3 he
      · rename_i r1 hx
        have hf : v_free ins = true := by
          rcases m_inr hx with rfl | rfl | rfl <;> rfl
        obtain ⟨g1, g2⟩ := v_lvfree hf hx l
        simp only [g1]
        exact he
      · cases he
    · cases he
def v_sb : m_L → m_L → Prop
  | [], _ => True
  | (i, v) :: r, l => m_lg l i = some v ∧ v_sb r l
theorem v_sb_sub {l' l : m_L} (h : v_sb l' l) : v_sub l' l := by
  induction l' with
  | nil => intro i v h; cases h
  | cons q r ih =>
    obtain ⟨j, w⟩ := q
    intro i v hi
    simp only [m_lg] at hi
    by_cases hj : j = i
    · rw [if_pos hj] at hi
      cases hi
      subst hj
      exact h.1
    · rw [if_neg hj] at hi
      exact ih h.2 i v hi
theorem y_lv {X : Nat → List Int32} {D j F u w pc : Nat} {l' l : m_L} {st : List Value} {S : m_H} {V : v_V} {K : v_K} (hk : v_keys l' = true) (hs : v_sb l' l) (k : y_E X D j F u w pc l' st S V K) : y_E X D j F u w pc l st S V K := by
  intro d n h1 h2 h3 h4
  obtain ⟨r, u', w', g1, g2⟩ := k d n h1 h2 h3 h4
  exact ⟨r, u', w', v_exec_lv n pc l' l st _ r hk (v_sb_sub hs) g1, g2⟩
end
section
/-! THE REFERENCE: its cells in the shape -/
def md_obj : List Value := [.int 0, .ref 171, .ref 172, .int 0, .ref 173, .ref 174, .ref 175, .ref 176, .ref 177, .int 0, .int 0, .int 0, .int 0, .int 0, .int 0, .ref 178, .ref 179, .int 0, .int 0, .int 0, .int 0, .int 0, .int 0, .int 0, .ref 180, .ref 181, .ref 182, .int 0, .ref 183, .ref 184, .ref 185, .ref 186, .ref 187, .ref 188, .ref 189, .ref 190, .ref 191, .int 0, .int 0, .ref 192, .int 0, .int 0, .int 0, .int 0]
def MdS (S : m_H) : Prop := ce S 170 10 md_obj ∧ v_ia S 171 20 1800 ∧ v_ia S 172 20 1800 ∧ v_ia S 173 20 1600 ∧ v_ia S 174 20 8 ∧ v_ia S 175 20 8 ∧ v_ia S 176 20 64 ∧ v_ia S 177 20 64 ∧ v_ia S 178 20 336 ∧ v_ia S 179 21 80 ∧ v_ia S 180 20 3 ∧ v_ia S 181 20 3 ∧ v_ia S 182 20 4 ∧ v_ia S 183 21 16 ∧ v_ia S 184 21 16 ∧ v_ia S 185 21 16 ∧ v_ia S 186 20 16 ∧ v_ia S 187 20 16 ∧ v_ia S 188 20 16 ∧ v_ia S 189 20 4 ∧ v_ia S 190 20 4 ∧ v_ia S 191 20 4 ∧ v_ia S 192 20 20
theorem md170 {S : m_H} (hM : MdS S) : ce S 170 10 md_obj := hM.1
theorem md171 {S : m_H} (hM : MdS S) : v_ia S 171 20 1800 := hM.2.1
theorem md172 {S : m_H} (hM : MdS S) : v_ia S 172 20 1800 := hM.2.2.1
theorem md173 {S : m_H} (hM : MdS S) : v_ia S 173 20 1600 := hM.2.2.2.1
theorem md174 {S : m_H} (hM : MdS S) : v_ia S 174 20 8 := hM.2.2.2.2.1
theorem md175 {S : m_H} (hM : MdS S) : v_ia S 175 20 8 := hM.2.2.2.2.2.1
theorem md176 {S : m_H} (hM : MdS S) : v_ia S 176 20 64 := hM.2.2.2.2.2.2.1
theorem md177 {S : m_H} (hM : MdS S) : v_ia S 177 20 64 := hM.2.2.2.2.2.2.2.1
theorem md178 {S : m_H} (hM : MdS S) : v_ia S 178 20 336 := hM.2.2.2.2.2.2.2.2.1
theorem md179 {S : m_H} (hM : MdS S) : v_ia S 179 21 80 := hM.2.2.2.2.2.2.2.2.2.1
theorem md180 {S : m_H} (hM : MdS S) : v_ia S 180 20 3 := hM.2.2.2.2.2.2.2.2.2.2.1
theorem md181 {S : m_H} (hM : MdS S) : v_ia S 181 20 3 := hM.2.2.2.2.2.2.2.2.2.2.2.1
theorem md182 {S : m_H} (hM : MdS S) : v_ia S 182 20 4 := hM.2.2.2.2.2.2.2.2.2.2.2.2.1
theorem md183 {S : m_H} (hM : MdS S) : v_ia S 183 21 16 := hM.2.2.2.2.2.2.2.2.2.2.2.2.2.1
theorem md184 {S : m_H} (hM : MdS S) : v_ia S 184 21 16 := hM.2.2.2.2.2.2.2.2.2.2.2.2.2.2.1
theorem md185 {S : m_H} (hM : MdS S) : v_ia S 185 21 16 := hM.2.2.2.2.2.2.2.2.2.2.2.2.2.2.2.1
theorem md186 {S : m_H} (hM : MdS S) : v_ia S 186 20 16 := hM.2.2.2.2.2.2.2.2.2.2.2.2.2.2.2.2.1
theorem md187 {S : m_H} (hM : MdS S) : v_ia S 187 20 16 := hM.2.2.2.2.2.2.2.2.2.2.2.2.2.2.2.2.2.1
theorem md188 {S : m_H} (hM : MdS S) : v_ia S 188 20 16 := hM.2.2.2.2.2.2.2.2.2.2.2.2.2.2.2.2.2.2.1
theorem md189 {S : m_H} (hM : MdS S) : v_ia S 189 20 4 := hM.2.2.2.2.2.2.2.2.2.2.2.2.2.2.2.2.2.2.2.1
theorem md190 {S : m_H} (hM : MdS S) : v_ia S 190 20 4 := hM.2.2.2.2.2.2.2.2.2.2.2.2.2.2.2.2.2.2.2.2.1
theorem md191 {S : m_H} (hM : MdS S) : v_ia S 191 20 4 := hM.2.2.2.2.2.2.2.2.2.2.2.2.2.2.2.2.2.2.2.2.2.1
theorem md192 {S : m_H} (hM : MdS S) : v_ia S 192 20 20 := hM.2.2.2.2.2.2.2.2.2.2.2.2.2.2.2.2.2.2.2.2.2.2
section
variable {X : Nat → List Int32} {u w : Nat} {S : m_H} {V : v_V} {K : v_K}
set_option maxRecDepth 100000 in
set_option maxHeartbeats 4000000 in
theorem ct_in {x a b : Int} (h : (-2147483648 ≤ x ∧ x < 2147483648) ∧ (-2147483648 ≤ a ∧ a < 2147483648) ∧ (-2147483648 ≤ b ∧ b < 2147483648)) (k : K u w (some (iv (v_b (a ≤ x ∧ x ≤ b)))) S V) : y_R X 1 105 u w [iv x, iv a, iv b] S V K := by
  refine y_ent (lv' := [(0, iv x), (1, iv a), (2, iv b)]) (Nat.le_of_ble_eq_true rfl) rfl ?_
  refine y_ld (x := iv x) rfl rfl (fun d => rfl) ?_
  refine y_ld (x := iv a) rfl rfl (fun d => rfl) ?_
  refine y_jlt rfl rfl rfl (by omega) (fun g1 => ?_) (fun g1 => ?_)
  · refine y_ic rfl rfl ?_
    refine y_rI rfl (by decide) ?_
    rwa [v_b0 (by omega)] at k
  · refine y_ld (x := iv x) rfl rfl (fun d => rfl) ?_
    refine y_ld (x := iv b) rfl rfl (fun d => rfl) ?_
    refine y_jgt rfl rfl rfl (by omega) (fun g2 => ?_) (fun g2 => ?_)
    · refine y_ic rfl rfl ?_
      refine y_rI rfl (by decide) ?_
      rwa [v_b0 (by omega)] at k
    · refine y_ic rfl rfl ?_
      refine y_go rfl rfl ?_
      refine y_rI rfl (by decide) ?_
      rwa [v_b1 (by omega)] at k
set_option maxRecDepth 100000 in
set_option maxHeartbeats 4000000 in
theorem ct_isTalk {t : Int} (h : (-2147483648 ≤ t ∧ t < 2147483648)) (k : K u w (some (iv (v_b (0 ≤ t ∧ t ≤ 15)))) S V) : y_R X 2 108 u w [iv t] S V K := by
  refine y_ent (lv' := [(0, iv t)]) (Nat.le_of_ble_eq_true rfl) rfl ?_
  refine y_ld (x := iv t) rfl rfl (fun d => rfl) ?_
  refine y_ic rfl rfl ?_
  refine y_bi rfl rfl (by decide) ?_
  refine y_cS (as := [iv t, iv 0, iv 15]) rfl (by decide) rfl rfl rfl rfl ⟨(Nat.le_of_ble_eq_true rfl), (Nat.le_of_ble_eq_true rfl)⟩ (by decide) (ct_in (by omega) ?_)
  refine y_nv ?_
  refine y_rI rfl (by have := v_br (0 ≤ t ∧ t ≤ 15); omega) ?_
  exact k
set_option maxRecDepth 100000 in
set_option maxHeartbeats 4000000 in
theorem ct_isFour {t : Int} (h : (-2147483648 ≤ t ∧ t < 2147483648)) (k : K u w (some (iv (v_b (0 ≤ t ∧ t ≤ 3)))) S V) : y_R X 2 109 u w [iv t] S V K := by
  refine y_ent (lv' := [(0, iv t)]) (Nat.le_of_ble_eq_true rfl) rfl ?_
  refine y_ld (x := iv t) rfl rfl (fun d => rfl) ?_
  refine y_ic rfl rfl ?_
  refine y_ic rfl rfl ?_
  refine y_cS (as := [iv t, iv 0, iv 3]) rfl (by decide) rfl rfl rfl rfl ⟨(Nat.le_of_ble_eq_true rfl), (Nat.le_of_ble_eq_true rfl)⟩ (by decide) (ct_in (by omega) ?_)
  refine y_nv ?_
  refine y_rI rfl (by have := v_br (0 ≤ t ∧ t ≤ 3); omega) ?_
  exact k
set_option maxRecDepth 100000 in
set_option maxHeartbeats 4000000 in
theorem ct_isText (hM : MdS S) {t n : Int} (h : (-2147483648 ≤ t ∧ t < 2147483648)) (hn : V 171 0 = n ∧ 0 ≤ n ∧ n ≤ 8) (k : K u w (some (iv (v_b (0 ≤ t ∧ t ≤ n - 1)))) S V) : y_R X 2 106 u w [.ref 170, iv t] S V K := by
  refine y_ent (lv' := [(0, .ref 170), (1, iv t)]) (Nat.le_of_ble_eq_true rfl) rfl ?_
  refine y_ld (x := iv t) rfl rfl (fun d => rfl) ?_
  refine y_ic rfl rfl ?_
  refine y_ld (x := .ref 170) rfl rfl (fun d => rfl) ?_
  refine y_gR rfl rfl rfl (md170 hM) rfl ?_
  refine y_ic rfl rfl ?_
  refine y_ild (x := n) (q := 0) rfl rfl (md171 hM) (by decide) (by decide) rfl hn.1 ?_
  refine y_ic rfl rfl ?_
  refine y_sub (z := (n - 1)) rfl rfl rfl ?_
  refine y_cS (as := [iv t, iv 0, iv (n - 1)]) rfl (by decide) rfl rfl rfl rfl ⟨(Nat.le_of_ble_eq_true rfl), (Nat.le_of_ble_eq_true rfl)⟩ (by decide) (ct_in (by omega) ?_)
  refine y_nv ?_
  refine y_rI rfl (by have := v_br (0 ≤ t ∧ t ≤ (n - 1)); omega) ?_
  exact k
set_option maxRecDepth 100000 in
set_option maxHeartbeats 4000000 in
theorem ct_isBox (hM : MdS S) {t n : Int} (h : (-2147483648 ≤ t ∧ t < 2147483648)) (hn : V 171 1 = n ∧ 0 ≤ n ∧ n ≤ 8) (k : K u w (some (iv (v_b (0 ≤ t ∧ t ≤ n - 1)))) S V) : y_R X 2 107 u w [.ref 170, iv t] S V K := by
  refine y_ent (lv' := [(0, .ref 170), (1, iv t)]) (Nat.le_of_ble_eq_true rfl) rfl ?_
  refine y_ld (x := iv t) rfl rfl (fun d => rfl) ?_
  refine y_ic rfl rfl ?_
  refine y_ld (x := .ref 170) rfl rfl (fun d => rfl) ?_
  refine y_gR rfl rfl rfl (md170 hM) rfl ?_
  refine y_ic rfl rfl ?_
  refine y_ild (x := n) (q := 1) rfl rfl (md171 hM) (by decide) (by decide) rfl hn.1 ?_
  refine y_ic rfl rfl ?_
  refine y_sub (z := (n - 1)) rfl rfl rfl ?_
  refine y_cS (as := [iv t, iv 0, iv (n - 1)]) rfl (by decide) rfl rfl rfl rfl ⟨(Nat.le_of_ble_eq_true rfl), (Nat.le_of_ble_eq_true rfl)⟩ (by decide) (ct_in (by omega) ?_)
  refine y_nv ?_
  refine y_rI rfl (by have := v_br (0 ≤ t ∧ t ≤ (n - 1)); omega) ?_
  exact k
end
end
section
section
variable {X : Nat → List Int32} {u w : Nat} {S : m_H} {V : v_V} {K : v_K}
set_option maxRecDepth 100000 in
set_option maxHeartbeats 4000000 in
theorem lp_count1 {x : Int} {F : Nat} : ∀ (m : Nat) (k : Nat), 16 - k < m → (0 ≤ x ∧ x < 2147483648 ∧ k ≤ 16) → (y_E X 0 110 F u w 24 [(0, iv x), (1, iv (v_bs x 16)), (2, iv ((16 : Nat) : Int))] [] S V K) → y_E X 0 110 (20 * m + F) u w 4 [(0, iv x), (1, iv (v_bs x k)), (2, iv (k : Int))] [] S V K := by
  intro m
  induction m with
  | zero => intros; omega
  | succ m ih =>
    intro k hm hI hx
    refine y_mono (F' := (20 * m + F) + 20) ?_ (by omega)
    refine y_ld (x := iv (k : Int)) rfl rfl (fun d => rfl) ?_
    refine y_bi rfl rfl (by decide) ?_
    refine y_jge rfl rfl rfl (by omega) (fun g1 => ?_) (fun g1 => ?_)
    · obtain rfl : k = 16 := by omega
      exact y_mono hx (by omega)
    · refine y_ld (x := iv (v_bs x k)) rfl rfl (fun d => rfl) ?_
      refine y_ld (x := iv x) rfl rfl (fun d => rfl) ?_
      refine y_ld (x := iv (k : Int)) rfl rfl (fun d => rfl) ?_
      refine y_op (z := (x / 2 ^ ((k : Int)).toNat)) rfl rfl (fun d => rfl) (v_shr (by omega) (by omega)) ?_
      refine y_ic rfl rfl ?_
      refine y_op (z := ((x / 2 ^ ((k : Int)).toNat) % 2)) rfl rfl (fun d => rfl) (v_and1 (Int.ediv_nonneg (by omega) (Int.le_of_lt (v_p2 _)))) ?_
      refine y_add (z := ((v_bs x k) + ((x / 2 ^ ((k : Int)).toNat) % 2))) rfl rfl rfl ?_
      refine y_st (lv' := [(1, iv ((v_bs x k) + ((x / 2 ^ ((k : Int)).toNat) % 2))), (0, iv x), (2, iv (k : Int))]) rfl rfl (fun d => rfl) ?_
      refine y_inc (z := ((k + 1 : Nat) : Int)) (lv' := [(2, iv ((k + 1 : Nat) : Int)), (1, iv ((v_bs x k) + ((x / 2 ^ ((k : Int)).toNat) % 2))), (0, iv x)]) rfl rfl rfl (by omega) rfl ?_
      refine y_go rfl rfl ?_
      refine y_lv (l' := [(0, iv x), (1, iv ((v_bs x k) + ((x / 2 ^ ((k : Int)).toNat) % 2))), (2, iv ((k + 1 : Nat) : Int))]) rfl ⟨rfl, rfl, rfl, trivial⟩ ?_
      have e1 : v_bs x k + x / 2 ^ ((k : Int)).toNat % 2 = v_bs x (k + 1) := by rw [Int.toNat_natCast]; rfl
      rw [e1]
      exact y_mono (ih (k + 1) (by omega) (by omega) hx) (by omega)
set_option maxRecDepth 100000 in
set_option maxHeartbeats 4000000 in
theorem ct_count1 {x : Int} (h : 0 ≤ x ∧ x < 2147483648) (k : K u w (some (iv (v_bs x 16))) S V) : y_R X 1 110 u w [iv x] S V K := by
  refine y_ent (lv' := [(0, iv x)]) (Nat.le_of_ble_eq_true rfl) rfl ?_
  refine y_ic rfl rfl ?_
  refine y_st (lv' := [(1, iv 0), (0, iv x)]) rfl rfl (fun d => rfl) ?_
  refine y_ic rfl rfl ?_
  refine y_st (lv' := [(2, iv 0), (1, iv 0), (0, iv x)]) rfl rfl (fun d => rfl) ?_
  refine y_lv (l' := [(0, iv x), (1, iv 0), (2, iv 0)]) rfl ⟨rfl, rfl, rfl, trivial⟩ ?_
  refine y_mono (lp_count1 17 0 (by omega) (by omega) ?_) (Nat.le_of_ble_eq_true rfl : 20 * 17 + 2 ≤ _)
  refine y_ld (x := iv (v_bs x 16)) rfl rfl (fun d => rfl) ?_
  exact y_rI rfl (Or.inl rfl) k
end
end
section
/-! THE CLASS: its cells in the shape; those that hold other references now and then are not among them -/
def cl_mut : List Nat := [3, 6, 7, 60, 63, 64, 115, 116, 119]
def cl_at (k : Nat) : Option (Nat × List Value) := if cl_mut.contains k then none else if k < 170 then m_nth m_h0 k else none
def ClF (S : m_H) : Prop := ∀ k t vs, cl_at k = some (t, vs) → ce S k t vs
theorem cl_ia {S : m_H} (hC : ClF S) {k N : Nat} (h : cl_at k = some (20, List.replicate N (.int 0))) : v_ia S k 20 N := hC k _ _ h
section
variable {X : Nat → List Int32} {u w : Nat} {S : m_H} {V : v_V} {K : v_K}
set_option maxRecDepth 100000 in
set_option maxHeartbeats 4000000 in
theorem cc_isTalk {x : Int} (h : (-2147483648 ≤ x ∧ x < 2147483648)) (k : K u w (some (iv (v_b (0 ≤ x ∧ x < 16)))) S V) : y_R X 1 98 u w [iv x] S V K := by
  refine y_ent (lv' := [(0, iv x)]) (Nat.le_of_ble_eq_true rfl) rfl ?_
  refine y_ld (x := iv x) rfl rfl (fun d => rfl) ?_
  refine y_zlt rfl rfl rfl (by omega) (fun g1 => ?_) (fun g1 => ?_)
  · refine y_ic rfl rfl ?_
    refine y_rI rfl (by decide) ?_
    rwa [v_b0 (by omega)] at k
  · refine y_ld (x := iv x) rfl rfl (fun d => rfl) ?_
    refine y_bi rfl rfl (by decide) ?_
    refine y_jge rfl rfl rfl (by omega) (fun g2 => ?_) (fun g2 => ?_)
    · refine y_ic rfl rfl ?_
      refine y_rI rfl (by decide) ?_
      rwa [v_b0 (by omega)] at k
    · refine y_ic rfl rfl ?_
      refine y_go rfl rfl ?_
      refine y_rI rfl (by decide) ?_
      rwa [v_b1 (by omega)] at k
set_option maxRecDepth 100000 in
set_option maxHeartbeats 4000000 in
theorem cc_areTalks {x : Int} (h : (-2147483648 ≤ x ∧ x < 2147483648)) (k : K u w (some (iv (v_b (0 ≤ x ∧ x ≤ 65535)))) S V) : y_R X 1 99 u w [iv x] S V K := by
  refine y_ent (lv' := [(0, iv x)]) (Nat.le_of_ble_eq_true rfl) rfl ?_
  refine y_ld (x := iv x) rfl rfl (fun d => rfl) ?_
  refine y_zlt rfl rfl rfl (by omega) (fun g1 => ?_) (fun g1 => ?_)
  · refine y_ic rfl rfl ?_
    refine y_rI rfl (by decide) ?_
    rwa [v_b0 (by omega)] at k
  · refine y_ld (x := iv x) rfl rfl (fun d => rfl) ?_
    refine y_ld (x := iv 65535) rfl rfl (fun d => rfl) ?_
    refine y_jgt rfl rfl rfl (by omega) (fun g2 => ?_) (fun g2 => ?_)
    · refine y_ic rfl rfl ?_
      refine y_rI rfl (by decide) ?_
      rwa [v_b0 (by omega)] at k
    · refine y_ic rfl rfl ?_
      refine y_go rfl rfl ?_
      refine y_rI rfl (by decide) ?_
      rwa [v_b1 (by omega)] at k
set_option maxRecDepth 100000 in
set_option maxHeartbeats 4000000 in
theorem cc_isN {x : Int} (h : (-2147483648 ≤ x ∧ x < 2147483648)) (k : K u w (some (iv (v_b (0 ≤ x ∧ x ≤ 99)))) S V) : y_R X 1 100 u w [iv x] S V K := by
  refine y_ent (lv' := [(0, iv x)]) (Nat.le_of_ble_eq_true rfl) rfl ?_
  refine y_ld (x := iv x) rfl rfl (fun d => rfl) ?_
  refine y_zlt rfl rfl rfl (by omega) (fun g1 => ?_) (fun g1 => ?_)
  · refine y_ic rfl rfl ?_
    refine y_rI rfl (by decide) ?_
    rwa [v_b0 (by omega)] at k
  · refine y_ld (x := iv x) rfl rfl (fun d => rfl) ?_
    refine y_bi rfl rfl (by decide) ?_
    refine y_jgt rfl rfl rfl (by omega) (fun g2 => ?_) (fun g2 => ?_)
    · refine y_ic rfl rfl ?_
      refine y_rI rfl (by decide) ?_
      rwa [v_b0 (by omega)] at k
    · refine y_ic rfl rfl ?_
      refine y_go rfl rfl ?_
      refine y_rI rfl (by decide) ?_
      rwa [v_b1 (by omega)] at k
set_option maxRecDepth 100000 in
set_option maxHeartbeats 4000000 in
theorem cc_isForm {x : Int} (h : (-2147483648 ≤ x ∧ x < 2147483648)) (k : K u w (some (iv (v_b (0 ≤ x ∧ x < 5)))) S V) : y_R X 1 101 u w [iv x] S V K := by
  refine y_ent (lv' := [(0, iv x)]) (Nat.le_of_ble_eq_true rfl) rfl ?_
  refine y_ld (x := iv x) rfl rfl (fun d => rfl) ?_
  refine y_zlt rfl rfl rfl (by omega) (fun g1 => ?_) (fun g1 => ?_)
  · refine y_ic rfl rfl ?_
    refine y_rI rfl (by decide) ?_
    rwa [v_b0 (by omega)] at k
  · refine y_ld (x := iv x) rfl rfl (fun d => rfl) ?_
    refine y_ic rfl rfl ?_
    refine y_jge rfl rfl rfl (by omega) (fun g2 => ?_) (fun g2 => ?_)
    · refine y_ic rfl rfl ?_
      refine y_rI rfl (by decide) ?_
      rwa [v_b0 (by omega)] at k
    · refine y_ic rfl rfl ?_
      refine y_go rfl rfl ?_
      refine y_rI rfl (by decide) ?_
      rwa [v_b1 (by omega)] at k
set_option maxRecDepth 100000 in
set_option maxHeartbeats 4000000 in
theorem cc_isDepth {x : Int} (h : (-2147483648 ≤ x ∧ x < 2147483648)) (k : K u w (some (iv (v_b (1 ≤ x ∧ x ≤ 3)))) S V) : y_R X 1 102 u w [iv x] S V K := by
  refine y_ent (lv' := [(0, iv x)]) (Nat.le_of_ble_eq_true rfl) rfl ?_
  refine y_ld (x := iv x) rfl rfl (fun d => rfl) ?_
  refine y_ic rfl rfl ?_
  refine y_jlt rfl rfl rfl (by omega) (fun g1 => ?_) (fun g1 => ?_)
  · refine y_ic rfl rfl ?_
    refine y_rI rfl (by decide) ?_
    rwa [v_b0 (by omega)] at k
  · refine y_ld (x := iv x) rfl rfl (fun d => rfl) ?_
    refine y_ic rfl rfl ?_
    refine y_jgt rfl rfl rfl (by omega) (fun g2 => ?_) (fun g2 => ?_)
    · refine y_ic rfl rfl ?_
      refine y_rI rfl (by decide) ?_
      rwa [v_b0 (by omega)] at k
    · refine y_ic rfl rfl ?_
      refine y_go rfl rfl ?_
      refine y_rI rfl (by decide) ?_
      rwa [v_b1 (by omega)] at k
end
end
section
/-! THE CLASS: copies of MEMORIES, BOXES, states -/
/-- a MEMORY at m with its cells at c -/
def MeS (S : m_H) (m c : Nat) : Prop := ce S m 1 [.ref c] ∧ v_ia S c 20 84
/-- a BOX at a -/
def BxS (S : m_H) (a : Nat) : Prop := ce S a 0 [.int 0, .int 0, .int 0, .int 0, .int 0, .ref (a + 1), .ref (a + 2), .ref (a + 4)] ∧ v_ia S (a + 1) 20 16 ∧ MeS S (a + 2) (a + 3) ∧ MeS S (a + 4) (a + 5)
theorem bx_cl {S : m_H} (hC : ClF S) {B b : Nat} (hB : B = 1 ∨ B = 58) (hb : b < 8) : BxS S (B + 9 + 6 * b) := by
  have h8 : b = 0 ∨ b = 1 ∨ b = 2 ∨ b = 3 ∨ b = 4 ∨ b = 5 ∨ b = 6 ∨ b = 7 := by omega
  rcases hB with rfl | rfl <;> rcases h8 with rfl | rfl | rfl | rfl | rfl | rfl | rfl | rfl
  · exact ⟨hC 10 _ _ rfl, cl_ia hC (k := 11) rfl, ⟨hC 12 _ _ rfl, cl_ia hC (k := 13) rfl⟩, hC 14 _ _ rfl, cl_ia hC (k := 15) rfl⟩
  · exact ⟨hC 16 _ _ rfl, cl_ia hC (k := 17) rfl, ⟨hC 18 _ _ rfl, cl_ia hC (k := 19) rfl⟩, hC 20 _ _ rfl, cl_ia hC (k := 21) rfl⟩
  · exact ⟨hC 22 _ _ rfl, cl_ia hC (k := 23) rfl, ⟨hC 24 _ _ rfl, cl_ia hC (k := 25) rfl⟩, hC 26 _ _ rfl, cl_ia hC (k := 27) rfl⟩
  · exact ⟨hC 28 _ _ rfl, cl_ia hC (k := 29) rfl, ⟨hC 30 _ _ rfl, cl_ia hC (k := 31) rfl⟩, hC 32 _ _ rfl, cl_ia hC (k := 33) rfl⟩
  · exact ⟨hC 34 _ _ rfl, cl_ia hC (k := 35) rfl, ⟨hC 36 _ _ rfl, cl_ia hC (k := 37) rfl⟩, hC 38 _ _ rfl, cl_ia hC (k := 39) rfl⟩
  · exact ⟨hC 40 _ _ rfl, cl_ia hC (k := 41) rfl, ⟨hC 42 _ _ rfl, cl_ia hC (k := 43) rfl⟩, hC 44 _ _ rfl, cl_ia hC (k := 45) rfl⟩
  · exact ⟨hC 46 _ _ rfl, cl_ia hC (k := 47) rfl, ⟨hC 48 _ _ rfl, cl_ia hC (k := 49) rfl⟩, hC 50 _ _ rfl, cl_ia hC (k := 51) rfl⟩
  · exact ⟨hC 52 _ _ rfl, cl_ia hC (k := 53) rfl, ⟨hC 54 _ _ rfl, cl_ia hC (k := 55) rfl⟩, hC 56 _ _ rfl, cl_ia hC (k := 57) rfl⟩
  · exact ⟨hC 67 _ _ rfl, cl_ia hC (k := 68) rfl, ⟨hC 69 _ _ rfl, cl_ia hC (k := 70) rfl⟩, hC 71 _ _ rfl, cl_ia hC (k := 72) rfl⟩
  · exact ⟨hC 73 _ _ rfl, cl_ia hC (k := 74) rfl, ⟨hC 75 _ _ rfl, cl_ia hC (k := 76) rfl⟩, hC 77 _ _ rfl, cl_ia hC (k := 78) rfl⟩
  · exact ⟨hC 79 _ _ rfl, cl_ia hC (k := 80) rfl, ⟨hC 81 _ _ rfl, cl_ia hC (k := 82) rfl⟩, hC 83 _ _ rfl, cl_ia hC (k := 84) rfl⟩
  · exact ⟨hC 85 _ _ rfl, cl_ia hC (k := 86) rfl, ⟨hC 87 _ _ rfl, cl_ia hC (k := 88) rfl⟩, hC 89 _ _ rfl, cl_ia hC (k := 90) rfl⟩
  · exact ⟨hC 91 _ _ rfl, cl_ia hC (k := 92) rfl, ⟨hC 93 _ _ rfl, cl_ia hC (k := 94) rfl⟩, hC 95 _ _ rfl, cl_ia hC (k := 96) rfl⟩
  · exact ⟨hC 97 _ _ rfl, cl_ia hC (k := 98) rfl, ⟨hC 99 _ _ rfl, cl_ia hC (k := 100) rfl⟩, hC 101 _ _ rfl, cl_ia hC (k := 102) rfl⟩
  · exact ⟨hC 103 _ _ rfl, cl_ia hC (k := 104) rfl, ⟨hC 105 _ _ rfl, cl_ia hC (k := 106) rfl⟩, hC 107 _ _ rfl, cl_ia hC (k := 108) rfl⟩
  · exact ⟨hC 109 _ _ rfl, cl_ia hC (k := 110) rfl, ⟨hC 111 _ _ rfl, cl_ia hC (k := 112) rfl⟩, hC 113 _ _ rfl, cl_ia hC (k := 114) rfl⟩
section
variable {X : Nat → List Int32} {u w : Nat} {S : m_H} {V : v_V} {K : v_K}
set_option maxRecDepth 100000 in
set_option maxHeartbeats 4000000 in
theorem cc_mbec {m c o d : Nat} (hm : MeS S m c) (ho : MeS S o d) (k : K u w none S (v_ur V c (V d))) : y_R X 1 8 u w [.ref m, .ref o] S V K := by
  refine y_ent (lv' := [(0, .ref m), (1, .ref o)]) (Nat.le_of_ble_eq_true rfl) rfl ?_
  refine y_ld (x := .ref o) rfl rfl (fun d => rfl) ?_
  refine y_gR (i := 0) rfl rfl rfl ho.1 rfl ?_
  refine y_ic rfl rfl ?_
  refine y_ld (x := .ref m) rfl rfl (fun d => rfl) ?_
  refine y_gR (i := 0) rfl rfl rfl hm.1 rfl ?_
  refine y_ic rfl rfl ?_
  refine y_bi rfl rfl (by decide) ?_
  refine y_acF rfl rfl rfl ho.2 hm.2 rfl (by decide) (Nat.le_of_ble_eq_true rfl) ?_
  refine y_ret rfl (fun d => rfl) ?_
  exact k
theorem bx_int {a i : Nat} {x : Int32} (h : m_nth ([.int 0, .int 0, .int 0, .int 0, .int 0, .ref (a + 1), .ref (a + 2), .ref (a + 4)] : List Value) i = some (.int x)) : i < 5 := by
  match i with
  | 0 => decide
  | 1 => decide
  | 2 => decide
  | 3 => decide
  | 4 => decide
  | 5 => cases h
  | 6 => cases h
  | 7 => cases h
  | n + 8 => cases h
set_option maxRecDepth 100000 in
set_option maxHeartbeats 4000000 in
theorem cc_bbec {a b : Nat} (ha : BxS S a) (hb : BxS S b) (hab : a + 6 ≤ b ∨ b + 6 ≤ a) (k : K u w none S (v_ur (v_ur (v_ur (v_ur V a (V b)) (a + 1) (V (b + 1))) (a + 3) (V (b + 3))) (a + 5) (V (b + 5)))) : y_R X 2 2 u w [.ref a, .ref b] S V K := by
  refine y_ent (lv' := [(0, .ref a), (1, .ref b)]) (Nat.le_of_ble_eq_true rfl) rfl ?_
  refine y_ld (x := .ref a) rfl rfl (fun d => rfl) ?_
  refine y_ld (x := .ref b) rfl rfl (fun d => rfl) ?_
  refine y_gI (i := 0) (e := (V b 0)) rfl rfl rfl hb.1 rfl rfl ?_
  refine y_pI (i := 0) rfl rfl rfl ha.1 rfl rfl ?_
  refine y_ld (x := .ref a) rfl rfl (fun d => rfl) ?_
  refine y_ld (x := .ref b) rfl rfl (fun d => rfl) ?_
  refine y_gI (i := 1) (e := (V b 1)) rfl rfl rfl hb.1 rfl (by rw [v_up_ne (by omega)]) ?_
  refine y_pI (i := 1) rfl rfl rfl ha.1 rfl rfl ?_
  refine y_ld (x := .ref a) rfl rfl (fun d => rfl) ?_
  refine y_ld (x := .ref b) rfl rfl (fun d => rfl) ?_
  refine y_gI (i := 2) (e := (V b 2)) rfl rfl rfl hb.1 rfl (by rw [v_up_ne (by omega), v_up_ne (by omega)]) ?_
  refine y_pI (i := 2) rfl rfl rfl ha.1 rfl rfl ?_
  refine y_ld (x := .ref a) rfl rfl (fun d => rfl) ?_
  refine y_ld (x := .ref b) rfl rfl (fun d => rfl) ?_
  refine y_gI (i := 3) (e := (V b 3)) rfl rfl rfl hb.1 rfl (by rw [v_up_ne (by omega), v_up_ne (by omega), v_up_ne (by omega)]) ?_
  refine y_pI (i := 3) rfl rfl rfl ha.1 rfl rfl ?_
  refine y_ld (x := .ref a) rfl rfl (fun d => rfl) ?_
  refine y_ld (x := .ref b) rfl rfl (fun d => rfl) ?_
  refine y_gI (i := 4) (e := (V b 4)) rfl rfl rfl hb.1 rfl (by rw [v_up_ne (by omega), v_up_ne (by omega), v_up_ne (by omega), v_up_ne (by omega)]) ?_
  refine y_pI (i := 4) rfl rfl rfl ha.1 rfl rfl ?_
  refine y_V (V' := v_ur V a (v_uf (v_uf (v_uf (v_uf (v_uf (V a) 0 (V b 0)) 1 (V b 1)) 2 (V b 2)) 3 (V b 3)) 4 (V b 4))) (by simp only [v_up_ur, v_ur_ur, v_ur_eq]) ?_
  refine y_row (g := V b) ha.1 (fun i x hx => ?_) ?_
  · have h5 : i < 5 := bx_int hx
    have h6 : i = 0 ∨ i = 1 ∨ i = 2 ∨ i = 3 ∨ i = 4 := by omega
    rcases h6 with rfl | rfl | rfl | rfl | rfl <;> rfl
  refine y_ld (x := .ref b) rfl rfl (fun d => rfl) ?_
  refine y_gR (i := 5) rfl rfl rfl hb.1 rfl ?_
  refine y_ic rfl rfl ?_
  refine y_ld (x := .ref a) rfl rfl (fun d => rfl) ?_
  refine y_gR (i := 5) rfl rfl rfl ha.1 rfl ?_
  refine y_ic rfl rfl ?_
  refine y_bi rfl rfl (by decide) ?_
  refine y_acF rfl rfl rfl hb.2.1 ha.2.1 rfl (by decide) (Nat.le_of_ble_eq_true rfl) ?_
  refine y_ld (x := .ref a) rfl rfl (fun d => rfl) ?_
  refine y_gR (i := 6) rfl rfl rfl ha.1 rfl ?_
  refine y_ld (x := .ref b) rfl rfl (fun d => rfl) ?_
  refine y_gR (i := 6) rfl rfl rfl hb.1 rfl ?_
  refine y_cV (as := [.ref (a + 2), .ref (b + 2)]) rfl rfl rfl rfl rfl ha.2.2.1.1 ⟨rfl, (Nat.le_of_ble_eq_true rfl), (Nat.le_of_ble_eq_true rfl)⟩ (by decide) (cc_mbec ha.2.2.1 hb.2.2.1 ?_)
  refine y_n0 ?_
  refine y_ld (x := .ref a) rfl rfl (fun d => rfl) ?_
  refine y_gR (i := 7) rfl rfl rfl ha.1 rfl ?_
  refine y_ld (x := .ref b) rfl rfl (fun d => rfl) ?_
  refine y_gR (i := 7) rfl rfl rfl hb.1 rfl ?_
  refine y_cV (as := [.ref (a + 4), .ref (b + 4)]) rfl rfl rfl rfl rfl ha.2.2.2.1 ⟨rfl, (Nat.le_of_ble_eq_true rfl), (Nat.le_of_ble_eq_true rfl)⟩ (by decide) (cc_mbec ha.2.2.2 hb.2.2.2 ?_)
  refine y_n0 ?_
  refine y_V (V' := v_ur (v_ur (v_ur (v_ur V a (V b)) (a + 1) (V (b + 1))) (a + 3) (V (b + 3))) (a + 5) (V (b + 5))) (by simp only [v_ur_ne (show b + 1 ≠ a by omega), v_ur_ne (show b + 3 ≠ a by omega), v_ur_ne (show b + 5 ≠ a by omega), v_ur_ne (show b + 3 ≠ a + 1 by omega), v_ur_ne (show b + 5 ≠ a + 1 by omega), v_ur_ne (show b + 5 ≠ a + 3 by omega)]) ?_
  refine y_ret rfl (fun d => rfl) ?_
  exact k
end
end
section
/-! THE CLASS: a state becomes another one -/
theorem cl_set {S : m_H} (hC : ClF S) {q : Nat} {c : Nat × List Value} (h : cl_mut.contains q = true) : ClF (S.set q c) := by
  intro k t vs hk
  refine ce_ne (hC k t vs hk) (fun e => ?_)
  subst e
  unfold cl_at at hk
  rw [if_pos h] at hk
  cases hk
theorem v_set_self {S : m_H} {k t : Nat} {vs : List Value} (h : ce S k t vs) : S.set k (t, vs) = S := by
  apply v_list_ext
  intro j
  rw [m_nth_set]
  split
  · rename_i e
    rw [e, h.2]
    rfl
  · rfl
theorem v_tkd {α : Type} {va vb : List α} {k N : Nat} {v : α} (h1 : va.length = N) (h2 : vb.length = N) (h3 : m_nth va k = some v) : (va.take k ++ vb.drop k).set k v = va.take (k + 1) ++ vb.drop (k + 1) := by
  have hk : k < va.length := by
    rw [m_nth_eq] at h3
    exact (List.getElem?_eq_some_iff.mp h3).1
  apply List.ext_getElem?
  intro i
  rw [m_nth_eq] at h3
  rw [List.getElem?_set]
  by_cases hi : k = i
  · subst hi
    rw [if_pos rfl, if_pos (by simp; omega), List.getElem?_append_left (by simp; omega), List.getElem?_take, if_pos (by omega), h3]
  · rw [if_neg hi]
    by_cases h4 : i < k
    · rw [List.getElem?_append_left (by simp; omega), List.getElem?_append_left (by simp; omega), List.getElem?_take, List.getElem?_take, if_pos h4, if_pos (by omega)]
    · rw [List.getElem?_append_right (by simp; omega), List.getElem?_append_right (by simp; omega), List.getElem?_drop, List.getElem?_drop]
      congr 1
      simp
      omega
theorem v_asg_r {S : m_H} {t : Nat} {v : Value} (h : v_asg S t v) : v = .null ∨ ∃ x, v = .ref x := by
  rcases h with h | ⟨x, _, h, _⟩
  · exact Or.inl h
  · exact Or.inr ⟨x, h⟩
theorem v_mem {α : Type} {l : List α} {k : Nat} {v : α} (h : m_nth l k = some v) : v ∈ l := by
  rw [m_nth_eq] at h
  exact List.mem_of_getElem? h
theorem v_get {α : Type} {l : List α} {k : Nat} (h : k < l.length) : ∃ v, m_nth l k = some v := ⟨l[k], by rw [m_nth_eq]; exact List.getElem?_eq_getElem h⟩
def St_int (i : Nat) : Bool := [1, 3, 5, 7, 9, 10, 12].contains i
/-- the numbers of a state copied -/
def CpV (B B' : Nat) (V V' : v_V) : Prop := (∀ i, St_int i = true → V' B i = V B' i) ∧ V' (B + 1) = V (B' + 1) ∧ V' (B + 4) = V (B' + 4) ∧ V' (B + 8) = V (B' + 8) ∧ V' (B + 7) 1 = V (B' + 7) 1 ∧
  (∀ b, b < 8 → V' (B + 9 + 6 * b) = V (B' + 9 + 6 * b) ∧ V' (B + 9 + 6 * b + 1) = V (B' + 9 + 6 * b + 1) ∧ V' (B + 9 + 6 * b + 3) = V (B' + 9 + 6 * b + 3) ∧ V' (B + 9 + 6 * b + 5) = V (B' + 9 + 6 * b + 5)) ∧
  ∀ k, k < B ∨ B + 57 ≤ k → V' k = V k
section
variable {X : Nat → List Int32} {u w : Nat} {S : m_H} {V : v_V} {K : v_K}
set_option maxRecDepth 100000 in
set_option maxHeartbeats 4000000 in
theorem lp_sbT1 (hC : ClF S) {va vb : List Value} (ha : ce S 60 22 va) (hb : ce S 3 22 vb) (hla : va.length = 8) (hlb : vb.length = 8) (hv : ∀ v ∈ va, v_asg S 22 v) {F : Nat} : ∀ (m : Nat) (k : Nat), 8 - k < m → (k ≤ 8) → (y_E X 2 42 F u w 50 [(0, .ref 1), (1, .ref 58), (2, iv ((8 : Nat) : Int))] [] (S.set 3 (22, va)) V K) → y_E X 2 42 (20 * m + F) u w 26 [(0, .ref 1), (1, .ref 58), (2, iv (k : Int))] [] (S.set 3 (22, va.take k ++ vb.drop k)) V K := by
  intro m
  induction m with
  | zero => intros; omega
  | succ m ih =>
    intro k hm hI hx
    refine y_mono (F' := (20 * m + F) + 20) ?_ (by omega)
    have hCk : ClF (S.set 3 (22, va.take k ++ vb.drop k)) := cl_set hC (by decide)
    have hAk := ce_ne (c := (22, va.take k ++ vb.drop k)) ha (show 60 ≠ 3 by decide)
    have hBk := ce_eq (t' := 22) (vs' := va.take k ++ vb.drop k) hb
    refine y_ld (x := iv (k : Int)) rfl rfl (fun d => rfl) ?_
    refine y_bi rfl rfl (by decide) ?_
    refine y_jge rfl rfl rfl (by omega) (fun g1 => ?_) (fun g1 => ?_)
    · obtain rfl : k = 8 := by omega
      rw [List.take_of_length_le (by omega), List.drop_eq_nil_of_le (by omega), List.append_nil]
      exact y_mono hx (by omega)
    · refine y_ld (x := .ref 1) rfl rfl (fun d => rfl) ?_
      refine y_gR (i := 2) rfl rfl rfl (hCk 1 _ _ rfl) rfl ?_
      refine y_ld (x := iv (k : Int)) rfl rfl (fun d => rfl) ?_
      refine y_ld (x := .ref 58) rfl rfl (fun d => rfl) ?_
      refine y_gR (i := 2) rfl rfl rfl (hCk 58 _ _ rfl) rfl ?_
      refine y_ld (x := iv (k : Int)) rfl rfl (fun d => rfl) ?_
      obtain ⟨v, hv1⟩ := v_get (show k < va.length by omega)
      refine y_rldV (i := k) (v := v) rfl rfl hAk (by decide) (by omega) (by omega) hv1 (v_asg_r (hv v (v_mem hv1))) ?_
      refine y_rst (i := k) rfl rfl hBk (by decide) (by omega) (by omega) (by simp; omega) (asg_set hb (by decide) (hv v (v_mem hv1)) rfl) ?_
      refine y_S (S' := S.set 3 (22, va.take (k + 1) ++ vb.drop (k + 1))) (by rw [List.set_set, v_tkd hla hlb hv1]) ?_
      refine y_inc (z := ((k + 1 : Nat) : Int)) (lv' := [(2, iv ((k + 1 : Nat) : Int)), (0, .ref 1), (1, .ref 58)]) rfl rfl rfl (by omega) rfl ?_
      refine y_go rfl rfl ?_
      refine y_lv (l' := [(0, .ref 1), (1, .ref 58), (2, iv ((k + 1 : Nat) : Int))]) rfl ⟨rfl, rfl, rfl, trivial⟩ ?_
      exact y_mono (ih (k + 1) (by omega) (by omega) hx) (by omega)
set_option maxRecDepth 100000 in
set_option maxHeartbeats 4000000 in
theorem lp_sbW1 (hC : ClF S) {va vb : List Value} (ha : ce S 63 24 va) (hb : ce S 6 24 vb) (hla : va.length = 20) (hlb : vb.length = 20) (hv : ∀ v ∈ va, v_asg S 24 v) {F : Nat} : ∀ (m : Nat) (k : Nat), 20 - k < m → (k ≤ 20) → (y_E X 2 42 F u w 144 [(0, .ref 1), (1, .ref 58), (2, iv ((20 : Nat) : Int))] [] (S.set 6 (24, va)) V K) → y_E X 2 42 (20 * m + F) u w 120 [(0, .ref 1), (1, .ref 58), (2, iv (k : Int))] [] (S.set 6 (24, va.take k ++ vb.drop k)) V K := by
  intro m
  induction m with
  | zero => intros; omega
  | succ m ih =>
    intro k hm hI hx
    refine y_mono (F' := (20 * m + F) + 20) ?_ (by omega)
    have hCk : ClF (S.set 6 (24, va.take k ++ vb.drop k)) := cl_set hC (by decide)
    have hAk := ce_ne (c := (24, va.take k ++ vb.drop k)) ha (show 63 ≠ 6 by decide)
    have hBk := ce_eq (t' := 24) (vs' := va.take k ++ vb.drop k) hb
    refine y_ld (x := iv (k : Int)) rfl rfl (fun d => rfl) ?_
    refine y_bi rfl rfl (by decide) ?_
    refine y_jge rfl rfl rfl (by omega) (fun g1 => ?_) (fun g1 => ?_)
    · obtain rfl : k = 20 := by omega
      rw [List.take_of_length_le (by omega), List.drop_eq_nil_of_le (by omega), List.append_nil]
      exact y_mono hx (by omega)
    · refine y_ld (x := .ref 1) rfl rfl (fun d => rfl) ?_
      refine y_gR (i := 8) rfl rfl rfl (hCk 1 _ _ rfl) rfl ?_
      refine y_ld (x := iv (k : Int)) rfl rfl (fun d => rfl) ?_
      refine y_ld (x := .ref 58) rfl rfl (fun d => rfl) ?_
      refine y_gR (i := 8) rfl rfl rfl (hCk 58 _ _ rfl) rfl ?_
      refine y_ld (x := iv (k : Int)) rfl rfl (fun d => rfl) ?_
      obtain ⟨v, hv1⟩ := v_get (show k < va.length by omega)
      refine y_rldV (i := k) (v := v) rfl rfl hAk (by decide) (by omega) (by omega) hv1 (v_asg_r (hv v (v_mem hv1))) ?_
      refine y_rst (i := k) rfl rfl hBk (by decide) (by omega) (by omega) (by simp; omega) (asg_set hb (by decide) (hv v (v_mem hv1)) rfl) ?_
      refine y_S (S' := S.set 6 (24, va.take (k + 1) ++ vb.drop (k + 1))) (by rw [List.set_set, v_tkd hla hlb hv1]) ?_
      refine y_inc (z := ((k + 1 : Nat) : Int)) (lv' := [(2, iv ((k + 1 : Nat) : Int)), (0, .ref 1), (1, .ref 58)]) rfl rfl rfl (by omega) rfl ?_
      refine y_go rfl rfl ?_
      refine y_lv (l' := [(0, .ref 1), (1, .ref 58), (2, iv ((k + 1 : Nat) : Int))]) rfl ⟨rfl, rfl, rfl, trivial⟩ ?_
      exact y_mono (ih (k + 1) (by omega) (by omega) hx) (by omega)
set_option maxRecDepth 100000 in
set_option maxHeartbeats 4000000 in
theorem lp_sbL1 (hC : ClF S) {va vb : List Value} (ha : ce S 64 24 va) (hb : ce S 7 24 vb) (hla : va.length = 5) (hlb : vb.length = 5) (hv : ∀ v ∈ va, v_asg S 24 v) {F : Nat} : ∀ (m : Nat) (k : Nat), 5 - k < m → (k ≤ 5) → (y_E X 2 42 F u w 185 [(0, .ref 1), (1, .ref 58), (2, iv ((5 : Nat) : Int))] [] (S.set 7 (24, va)) V K) → y_E X 2 42 (20 * m + F) u w 162 [(0, .ref 1), (1, .ref 58), (2, iv (k : Int))] [] (S.set 7 (24, va.take k ++ vb.drop k)) V K := by
  intro m
  induction m with
  | zero => intros; omega
  | succ m ih =>
    intro k hm hI hx
    refine y_mono (F' := (20 * m + F) + 20) ?_ (by omega)
    have hCk : ClF (S.set 7 (24, va.take k ++ vb.drop k)) := cl_set hC (by decide)
    have hAk := ce_ne (c := (24, va.take k ++ vb.drop k)) ha (show 64 ≠ 7 by decide)
    have hBk := ce_eq (t' := 24) (vs' := va.take k ++ vb.drop k) hb
    refine y_ld (x := iv (k : Int)) rfl rfl (fun d => rfl) ?_
    refine y_ic rfl rfl ?_
    refine y_jge rfl rfl rfl (by omega) (fun g1 => ?_) (fun g1 => ?_)
    · obtain rfl : k = 5 := by omega
      rw [List.take_of_length_le (by omega), List.drop_eq_nil_of_le (by omega), List.append_nil]
      exact y_mono hx (by omega)
    · refine y_ld (x := .ref 1) rfl rfl (fun d => rfl) ?_
      refine y_gR (i := 11) rfl rfl rfl (hCk 1 _ _ rfl) rfl ?_
      refine y_ld (x := iv (k : Int)) rfl rfl (fun d => rfl) ?_
      refine y_ld (x := .ref 58) rfl rfl (fun d => rfl) ?_
      refine y_gR (i := 11) rfl rfl rfl (hCk 58 _ _ rfl) rfl ?_
      refine y_ld (x := iv (k : Int)) rfl rfl (fun d => rfl) ?_
      obtain ⟨v, hv1⟩ := v_get (show k < va.length by omega)
      refine y_rldV (i := k) (v := v) rfl rfl hAk (by decide) (by omega) (by omega) hv1 (v_asg_r (hv v (v_mem hv1))) ?_
      refine y_rst (i := k) rfl rfl hBk (by decide) (by omega) (by omega) (by simp; omega) (asg_set hb (by decide) (hv v (v_mem hv1)) rfl) ?_
      refine y_S (S' := S.set 7 (24, va.take (k + 1) ++ vb.drop (k + 1))) (by rw [List.set_set, v_tkd hla hlb hv1]) ?_
      refine y_inc (z := ((k + 1 : Nat) : Int)) (lv' := [(2, iv ((k + 1 : Nat) : Int)), (0, .ref 1), (1, .ref 58)]) rfl rfl rfl (by omega) rfl ?_
      refine y_go rfl rfl ?_
      refine y_lv (l' := [(0, .ref 1), (1, .ref 58), (2, iv ((k + 1 : Nat) : Int))]) rfl ⟨rfl, rfl, rfl, trivial⟩ ?_
      exact y_mono (ih (k + 1) (by omega) (by omega) hx) (by omega)
set_option maxRecDepth 100000 in
set_option maxHeartbeats 4000000 in
theorem lp_sbT58 (hC : ClF S) {va vb : List Value} (ha : ce S 3 22 va) (hb : ce S 60 22 vb) (hla : va.length = 8) (hlb : vb.length = 8) (hv : ∀ v ∈ va, v_asg S 22 v) {F : Nat} : ∀ (m : Nat) (k : Nat), 8 - k < m → (k ≤ 8) → (y_E X 2 42 F u w 50 [(0, .ref 58), (1, .ref 1), (2, iv ((8 : Nat) : Int))] [] (S.set 60 (22, va)) V K) → y_E X 2 42 (20 * m + F) u w 26 [(0, .ref 58), (1, .ref 1), (2, iv (k : Int))] [] (S.set 60 (22, va.take k ++ vb.drop k)) V K := by
  intro m
  induction m with
  | zero => intros; omega
  | succ m ih =>
    intro k hm hI hx
    refine y_mono (F' := (20 * m + F) + 20) ?_ (by omega)
    have hCk : ClF (S.set 60 (22, va.take k ++ vb.drop k)) := cl_set hC (by decide)
    have hAk := ce_ne (c := (22, va.take k ++ vb.drop k)) ha (show 3 ≠ 60 by decide)
    have hBk := ce_eq (t' := 22) (vs' := va.take k ++ vb.drop k) hb
    refine y_ld (x := iv (k : Int)) rfl rfl (fun d => rfl) ?_
    refine y_bi rfl rfl (by decide) ?_
    refine y_jge rfl rfl rfl (by omega) (fun g1 => ?_) (fun g1 => ?_)
    · obtain rfl : k = 8 := by omega
      rw [List.take_of_length_le (by omega), List.drop_eq_nil_of_le (by omega), List.append_nil]
      exact y_mono hx (by omega)
    · refine y_ld (x := .ref 58) rfl rfl (fun d => rfl) ?_
      refine y_gR (i := 2) rfl rfl rfl (hCk 58 _ _ rfl) rfl ?_
      refine y_ld (x := iv (k : Int)) rfl rfl (fun d => rfl) ?_
      refine y_ld (x := .ref 1) rfl rfl (fun d => rfl) ?_
      refine y_gR (i := 2) rfl rfl rfl (hCk 1 _ _ rfl) rfl ?_
      refine y_ld (x := iv (k : Int)) rfl rfl (fun d => rfl) ?_
      obtain ⟨v, hv1⟩ := v_get (show k < va.length by omega)
      refine y_rldV (i := k) (v := v) rfl rfl hAk (by decide) (by omega) (by omega) hv1 (v_asg_r (hv v (v_mem hv1))) ?_
      refine y_rst (i := k) rfl rfl hBk (by decide) (by omega) (by omega) (by simp; omega) (asg_set hb (by decide) (hv v (v_mem hv1)) rfl) ?_
      refine y_S (S' := S.set 60 (22, va.take (k + 1) ++ vb.drop (k + 1))) (by rw [List.set_set, v_tkd hla hlb hv1]) ?_
      refine y_inc (z := ((k + 1 : Nat) : Int)) (lv' := [(2, iv ((k + 1 : Nat) : Int)), (0, .ref 58), (1, .ref 1)]) rfl rfl rfl (by omega) rfl ?_
      refine y_go rfl rfl ?_
      refine y_lv (l' := [(0, .ref 58), (1, .ref 1), (2, iv ((k + 1 : Nat) : Int))]) rfl ⟨rfl, rfl, rfl, trivial⟩ ?_
      exact y_mono (ih (k + 1) (by omega) (by omega) hx) (by omega)
set_option maxRecDepth 100000 in
set_option maxHeartbeats 4000000 in
theorem lp_sbW58 (hC : ClF S) {va vb : List Value} (ha : ce S 6 24 va) (hb : ce S 63 24 vb) (hla : va.length = 20) (hlb : vb.length = 20) (hv : ∀ v ∈ va, v_asg S 24 v) {F : Nat} : ∀ (m : Nat) (k : Nat), 20 - k < m → (k ≤ 20) → (y_E X 2 42 F u w 144 [(0, .ref 58), (1, .ref 1), (2, iv ((20 : Nat) : Int))] [] (S.set 63 (24, va)) V K) → y_E X 2 42 (20 * m + F) u w 120 [(0, .ref 58), (1, .ref 1), (2, iv (k : Int))] [] (S.set 63 (24, va.take k ++ vb.drop k)) V K := by
  intro m
  induction m with
  | zero => intros; omega
  | succ m ih =>
    intro k hm hI hx
    refine y_mono (F' := (20 * m + F) + 20) ?_ (by omega)
    have hCk : ClF (S.set 63 (24, va.take k ++ vb.drop k)) := cl_set hC (by decide)
    have hAk := ce_ne (c := (24, va.take k ++ vb.drop k)) ha (show 6 ≠ 63 by decide)
    have hBk := ce_eq (t' := 24) (vs' := va.take k ++ vb.drop k) hb
    refine y_ld (x := iv (k : Int)) rfl rfl (fun d => rfl) ?_
    refine y_bi rfl rfl (by decide) ?_
    refine y_jge rfl rfl rfl (by omega) (fun g1 => ?_) (fun g1 => ?_)
    · obtain rfl : k = 20 := by omega
      rw [List.take_of_length_le (by omega), List.drop_eq_nil_of_le (by omega), List.append_nil]
      exact y_mono hx (by omega)
    · refine y_ld (x := .ref 58) rfl rfl (fun d => rfl) ?_
      refine y_gR (i := 8) rfl rfl rfl (hCk 58 _ _ rfl) rfl ?_
      refine y_ld (x := iv (k : Int)) rfl rfl (fun d => rfl) ?_
      refine y_ld (x := .ref 1) rfl rfl (fun d => rfl) ?_
      refine y_gR (i := 8) rfl rfl rfl (hCk 1 _ _ rfl) rfl ?_
      refine y_ld (x := iv (k : Int)) rfl rfl (fun d => rfl) ?_
      obtain ⟨v, hv1⟩ := v_get (show k < va.length by omega)
      refine y_rldV (i := k) (v := v) rfl rfl hAk (by decide) (by omega) (by omega) hv1 (v_asg_r (hv v (v_mem hv1))) ?_
      refine y_rst (i := k) rfl rfl hBk (by decide) (by omega) (by omega) (by simp; omega) (asg_set hb (by decide) (hv v (v_mem hv1)) rfl) ?_
      refine y_S (S' := S.set 63 (24, va.take (k + 1) ++ vb.drop (k + 1))) (by rw [List.set_set, v_tkd hla hlb hv1]) ?_
      refine y_inc (z := ((k + 1 : Nat) : Int)) (lv' := [(2, iv ((k + 1 : Nat) : Int)), (0, .ref 58), (1, .ref 1)]) rfl rfl rfl (by omega) rfl ?_
      refine y_go rfl rfl ?_
      refine y_lv (l' := [(0, .ref 58), (1, .ref 1), (2, iv ((k + 1 : Nat) : Int))]) rfl ⟨rfl, rfl, rfl, trivial⟩ ?_
      exact y_mono (ih (k + 1) (by omega) (by omega) hx) (by omega)
set_option maxRecDepth 100000 in
set_option maxHeartbeats 4000000 in
theorem lp_sbL58 (hC : ClF S) {va vb : List Value} (ha : ce S 7 24 va) (hb : ce S 64 24 vb) (hla : va.length = 5) (hlb : vb.length = 5) (hv : ∀ v ∈ va, v_asg S 24 v) {F : Nat} : ∀ (m : Nat) (k : Nat), 5 - k < m → (k ≤ 5) → (y_E X 2 42 F u w 185 [(0, .ref 58), (1, .ref 1), (2, iv ((5 : Nat) : Int))] [] (S.set 64 (24, va)) V K) → y_E X 2 42 (20 * m + F) u w 162 [(0, .ref 58), (1, .ref 1), (2, iv (k : Int))] [] (S.set 64 (24, va.take k ++ vb.drop k)) V K := by
  intro m
  induction m with
  | zero => intros; omega
  | succ m ih =>
    intro k hm hI hx
    refine y_mono (F' := (20 * m + F) + 20) ?_ (by omega)
    have hCk : ClF (S.set 64 (24, va.take k ++ vb.drop k)) := cl_set hC (by decide)
    have hAk := ce_ne (c := (24, va.take k ++ vb.drop k)) ha (show 7 ≠ 64 by decide)
    have hBk := ce_eq (t' := 24) (vs' := va.take k ++ vb.drop k) hb
    refine y_ld (x := iv (k : Int)) rfl rfl (fun d => rfl) ?_
    refine y_ic rfl rfl ?_
    refine y_jge rfl rfl rfl (by omega) (fun g1 => ?_) (fun g1 => ?_)
    · obtain rfl : k = 5 := by omega
      rw [List.take_of_length_le (by omega), List.drop_eq_nil_of_le (by omega), List.append_nil]
      exact y_mono hx (by omega)
    · refine y_ld (x := .ref 58) rfl rfl (fun d => rfl) ?_
      refine y_gR (i := 11) rfl rfl rfl (hCk 58 _ _ rfl) rfl ?_
      refine y_ld (x := iv (k : Int)) rfl rfl (fun d => rfl) ?_
      refine y_ld (x := .ref 1) rfl rfl (fun d => rfl) ?_
      refine y_gR (i := 11) rfl rfl rfl (hCk 1 _ _ rfl) rfl ?_
      refine y_ld (x := iv (k : Int)) rfl rfl (fun d => rfl) ?_
      obtain ⟨v, hv1⟩ := v_get (show k < va.length by omega)
      refine y_rldV (i := k) (v := v) rfl rfl hAk (by decide) (by omega) (by omega) hv1 (v_asg_r (hv v (v_mem hv1))) ?_
      refine y_rst (i := k) rfl rfl hBk (by decide) (by omega) (by omega) (by simp; omega) (asg_set hb (by decide) (hv v (v_mem hv1)) rfl) ?_
      refine y_S (S' := S.set 64 (24, va.take (k + 1) ++ vb.drop (k + 1))) (by rw [List.set_set, v_tkd hla hlb hv1]) ?_
      refine y_inc (z := ((k + 1 : Nat) : Int)) (lv' := [(2, iv ((k + 1 : Nat) : Int)), (0, .ref 58), (1, .ref 1)]) rfl rfl rfl (by omega) rfl ?_
      refine y_go rfl rfl ?_
      refine y_lv (l' := [(0, .ref 58), (1, .ref 1), (2, iv ((k + 1 : Nat) : Int))]) rfl ⟨rfl, rfl, rfl, trivial⟩ ?_
      exact y_mono (ih (k + 1) (by omega) (by omega) hx) (by omega)
end
end
