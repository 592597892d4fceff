/-! the small machine, run, is the machine -/
def m_le (h h' : m_H) : Prop := h.length ≤ h'.length ∧ m_sz h ≤ m_sz h'
theorem m_le_rf (h : m_H) : m_le h h := ⟨Nat.le_refl _, Nat.le_refl _⟩
theorem m_le_tr {a b c : m_H} (h1 : m_le a b) (h2 : m_le b c) : m_le a c := ⟨Nat.le_trans h1.1 h2.1, Nat.le_trans h1.2 h2.2⟩
def m_out : m_C ⊕ m_R → m_H
  | .inl C => C.2.2.2
  | .inr q => q.2
theorem m_le_set {h : m_H} {k t t' : Nat} {us vs : List Value} (ho : m_ob h k = some (t, us)) (hl : vs.length = us.length) : m_le h (h.set k (t', vs)) := by
  refine ⟨by rw [List.length_set]; exact Nat.le_refl _, ?_⟩
  rw [m_sz_set (m_ob_nth ho).2 hl]
  exact Nat.le_refl _
theorem m_le_add {h h' : m_H} {t : Nat} {vs : List Value} (ha : m_add h t vs = some h') : m_le h h' := by
  obtain ⟨-, rfl⟩ := m_add_sp ha
  refine ⟨by simp, ?_⟩
  rw [m_sz_add]
  exact Nat.le_add_right _ _
theorem m_le_se {h h' : m_H} {t x : Nat} {y : Int32} {v : Value} (ha : m_se h t x y v = some h') : m_le h h' := by
  obtain ⟨j, vs, -, h1, g1, -, rfl⟩ := m_se_sp ha
  refine m_le_set (t := t) (us := vs) ?_ (by simp)
  unfold m_ob
  rw [if_pos h1]
  exact g1
theorem m_le_acp {h h' : m_H} {x q : Nat} {sp dp n : Int32} (ha : m_acp h x sp q dp n = some h') : m_le h h' := by
  obtain ⟨i, j, w, us, vs, -, -, -, -, -, f6, f7, f8, f9, rfl⟩ := m_acp_sp ha
  refine m_le_set (t := 20) (us := vs) ?_ (m_cpy_len f8 f9)
  unfold m_ob
  rw [if_pos f6]
  exact f7
def m_mono (call : Nat → List Value → m_H → Option m_R) : Prop := ∀ j as h v h', call j as h = some (v, h') → m_le h h'
section RUN
variable {p : Program} {l : Launch} {e : Env} {R : Room} {s : State} {m : MethodId} {args : Array Value} {below : List Frame} {meth : Method} {c : Code} {Q : State → Prop}
variable {E : m_AE} {D : va_G} {ty : Nat → ClassId} {X : Nat → List Int32} {i d n0 z0 : Nat} {call : Nat → List Value → m_H → Option m_R} {len : Nat} {a : Int} {b pc : Nat} {lv : m_L} {st : List Value} {h : m_H} {C' : m_C}
set_option maxHeartbeats 4000000 in
theorem m_stp_mono (hcall : m_mono call) {en : m_E} {r : m_C ⊕ m_R} (hs : m_stp X call en pc lv st h = some r) : m_le h (m_out r) := by
  obtain ⟨ins, len, a, b⟩ := en
  unfold m_stp at hs
  dsimp only at hs
  split at hs
  all_goals (repeat' split at hs)
  all_goals first
    | (cases hs; done)
    | (cases hs; exact m_le_rf _)
    | (cases hs; exact m_le_add (by assumption))
    | (cases hs; exact m_le_se (by assumption))
    | (cases hs; exact m_le_acp (by assumption))
    | (cases hs; exact hcall _ _ _ _ _ (by assumption))
    | (cases hs; exact m_le_set (by assumption) (by simp))
theorem m_exec_mono (hcall : m_mono call) {code : List (Option m_E)} : ∀ (n pc : Nat) (lv : m_L) (st : List Value) (h : m_H) (v : Option Value) (h' : m_H), m_exec X call code n pc lv st h = some (v, h') → m_le h h' := by
  intro n
  induction n with
  | zero => intro pc lv st h v h' he; cases he
  | succ n ih =>
    intro pc lv st h v h' he
    simp only [m_exec] at he
    split at he
    · split at he
      · rename_i hs
        exact m_le_tr (m_stp_mono hcall hs) (ih _ _ _ _ _ _ he)
      · rename_i hs
        cases he
        exact m_stp_mono hcall hs
      · cases he
    · cases he
theorem m_run_mono : ∀ d, m_mono (m_run X d) := by
  intro d
  induction d with
  | zero => intro j as h v h' he; cases he
  | succ d ih =>
    intro j as h v h' he
    simp only [m_run] at he
    split at he
    · exact m_exec_mono ih _ _ _ _ _ _ _ he
    · cases he
theorem m_step (F : m_Fix E D ty X i d n0 p R s m args meth c) {en : m_E} (hok : m_ok i pc en = true) (hs : m_stp X call en pc lv st h = some (.inl C')) (hn : n0 ≤ h.length) (hz : z0 ≤ m_sz h) (hc1 : C'.2.2.2.length - n0 ≤ R.cells) (hc2 : m_sz C'.2.2.2 - z0 ≤ R.slots) (hM : m_Met l E D ty X call d)
    (k : m_At E D ty i n0 z0 p l e R s m args below meth c Q C') : m_At E D ty i n0 z0 p l e R s m args below meth c Q (pc, lv, st, h) := by
  obtain ⟨ins, len, a, b⟩ := en
  cases ins
  case iconst x1 => exact k_iconst F hok hs k
  case bipush x1 => exact k_bipush F hok hs k
  case sipush x1 => exact k_sipush F hok hs k
  case ldc x1 => exact k_ldc F hok hs k
  case ldc_w x1 => exact k_ldc_w F hok hs k
  case ldc2_w x1 => exact k_ldc2_w F hok hs k
  case aconst_null  => exact k_aconst_null F hok hs k
  case iload_n x1 => exact k_iload_n F hok hs k
  case iload x1 => exact k_iload F hok hs k
  case lload_n x1 => exact k_lload_n F hok hs k
  case lload x1 => exact k_lload F hok hs k
  case aload_n x1 => exact k_aload_n F hok hs k
  case aload x1 => exact k_aload F hok hs k
  case istore_n x1 => exact k_istore_n F hok hs k
  case istore x1 => exact k_istore F hok hs k
  case astore_n x1 => exact k_astore_n F hok hs k
  case astore x1 => exact k_astore F hok hs k
  case iinc x1 x2 => exact k_iinc F hok hs k
  case iadd  => exact k_iadd F hok hs k
  case isub  => exact k_isub F hok hs k
  case imul  => exact k_imul F hok hs k
  case iand  => exact k_iand F hok hs k
  case ior  => exact k_ior F hok hs k
  case ixor  => exact k_ixor F hok hs k
  case idiv  => exact k_idiv F hok hs k
  case irem  => exact k_irem F hok hs k
  case ishl  => exact k_ishl F hok hs k
  case ishr  => exact k_ishr F hok hs k
  case iushr  => exact k_iushr F hok hs k
  case land  => exact k_land F hok hs k
  case lor  => exact k_lor F hok hs k
  case lshl  => exact k_lshl F hok hs k
  case lshr  => exact k_lshr F hok hs k
  case lushr  => exact k_lushr F hok hs k
  case ineg  => exact k_ineg F hok hs k
  case i2l  => exact k_i2l F hok hs k
  case l2i  => exact k_l2i F hok hs k
  case dup  => exact k_dup F hok hs k
  case dup2  => exact k_dup2 F hok hs k
  case pop  => exact k_pop F hok hs k
  case ifCond c q =>
    cases c
    · exact k_ifCond_eq F hok hs k
    · exact k_ifCond_ne F hok hs k
    · exact k_ifCond_lt F hok hs k
    · exact k_ifCond_ge F hok hs k
    · exact k_ifCond_gt F hok hs k
    · exact k_ifCond_le F hok hs k
  case if_icmp c q =>
    cases c
    · exact k_if_icmp_eq F hok hs k
    · exact k_if_icmp_ne F hok hs k
    · exact k_if_icmp_lt F hok hs k
    · exact k_if_icmp_ge F hok hs k
    · exact k_if_icmp_gt F hok hs k
    · exact k_if_icmp_le F hok hs k
  case ifnull x1 => exact k_ifnull F hok hs k
  case ifnonnull x1 => exact k_ifnonnull F hok hs k
  case goto x1 => exact k_goto F hok hs k
  case tableswitch x1 x2 x3 x4 => exact k_tableswitch F hok hs k
  case lookupswitch x1 x2 => exact k_lookupswitch F hok hs k
  case getfield x1 => exact k_getfield F hok hs k
  case putfield x1 => exact k_putfield F hok hs k
  case getstatic x1 => exact k_getstatic F hok hs k
  case new x1 => exact k_new F hok hs hn hz hc1 hc2 k
  case newarray x1 => exact k_newarray F hok hs hn hz hc1 hc2 k
  case anewarray x1 => exact k_anewarray F hok hs hn hz hc1 hc2 k
  case arraylength  => exact k_arraylength F hok hs k
  case iaload  => exact k_iaload F hok hs k
  case baload  => exact k_baload F hok hs k
  case aaload  => exact k_aaload F hok hs k
  case iastore  => exact k_iastore F hok hs k
  case bastore  => exact k_bastore F hok hs k
  case aastore  => exact k_aastore F hok hs k
  case invokevirtual x1 => exact k_invokevirtual F hok hs hn hz hc1 hc2 hM k
  case invokestatic x1 => exact k_invokestatic F hok hs hn hz hc1 hc2 hM k
  case invokespecial x1 => exact k_invokespecial F hok hs hn hz hc1 hc2 hM k
  case ireturn =>
    rw [m_s_ireturn] at hs
    (repeat' split at hs) <;> cases hs
  case areturn =>
    rw [m_s_areturn] at hs
    (repeat' split at hs) <;> cases hs
  case return_ =>
    rw [m_s_return_] at hs
    (repeat' split at hs) <;> cases hs
  all_goals
    have h2 : (none : Option (m_C ⊕ m_R)) = some (.inl C') := hs
    cases h2
theorem m_exec_sim (F : m_Fix E D ty X i d n0 p R s m args meth c) (hM : m_Met l E D ty X call d) (hcall : m_mono call) {v : Option Value} {hf : m_H} (hc1 : hf.length - n0 ≤ R.cells) (hc2 : m_sz hf - z0 ≤ R.slots)
    (hret : ∀ (en : m_E) (pc : Nat) (lv : m_L) (st : List Value) (h : m_H), m_ok i pc en = true → n0 ≤ h.length → z0 ≤ m_sz h → m_stp X call en pc lv st h = some (.inr (v, hf)) → m_At E D ty i n0 z0 p l e R s m args below meth c Q (pc, lv, st, h)) :
    ∀ (n pc : Nat) (lv : m_L) (st : List Value) (h : m_H), m_exec X call (m_code i) n pc lv st h = some (v, hf) → n0 ≤ h.length → z0 ≤ m_sz h → m_At E D ty i n0 z0 p l e R s m args below meth c Q (pc, lv, st, h) := by
  have hi : i < 182 := F.2.2.2.2.1
  intro n
  induction n with
  | zero => intro pc lv st h he; cases he
  | succ n ih =>
    intro pc lv st h he hn hz
    simp only [m_exec] at he
    split at he
    · rename_i en hen
      have hok := m_ok_at hi hen
      split at he
      · rename_i hs
        have h1 := m_stp_mono hcall hs
        have h2 := m_exec_mono hcall _ _ _ _ _ _ _ he
        refine m_step F hok hs hn hz ?_ ?_ hM (ih _ _ _ _ he (Nat.le_trans hn h1.1) (Nat.le_trans hz h1.2))
        · have := h2.1
          dsimp only
          omega
        · have := h2.2
          dsimp only
          omega
      · rename_i hs
        cases he
        exact hret _ _ _ _ _ hok hn hz hs
      · cases he
    · cases he
theorem m_ret (F : m_Fix E D ty X i d n0 p R s m args meth c) (hr : meth.sig.returnType = m_rt i) (hlocks : meth.locks = false) {en : m_E} (hok : m_ok i pc en = true) (hn : n0 ≤ h.length) {v : Option Value} {hf : m_H} (hs : m_stp X call en pc lv st h = some (.inr (v, hf))) :
    m_At E D ty i n0 z0 p l e R s m args below meth c (MQ below (m_Qc E D ty X v hf) args s (hf.length - n0) (m_sz hf - z0) (m_A E)) (pc, lv, st, h) := by
  obtain ⟨ins, len, a, b⟩ := en
  intro H locs ls hP hS hl
  dsimp only at hP hl ⊢
  refine m_W_sz (fun hH => ?_)
  obtain ⟨⟨hx, hb, hml, hown, hts⟩, hKn, hEx, hsz, hi, hini, hR⟩ := F
  obtain ⟨hdg, hI⟩ := m_ok_sp hok
  have hq : ∀ (w : Option Value) (t : State), t.heap = H → s.WarmedH t.vm → m_Qc E D ty X w h args s (.returned (w.map (m_rv E))) t := fun w t ht hW => ⟨rfl, m_B_at hsz hKn hEx hP hS hn hH ht hW, hS.F ht⟩
  cases ins
  case ireturn =>
    obtain ⟨e1, e2⟩ : len = 1 ∧ ((m_rt i = some .int ∧ b = 0) ∨ (m_rt i = some .boolean ∧ b = 1)) := of_decide_eq_true hI
    subst e1
    rw [m_s_ireturn] at hs
    split at hs
    · rename_i x
      split at hs
      · rename_i h1
        cases hs
        rcases e2 with ⟨e2, e3⟩ | ⟨e2, e3⟩
        · exact W.iret hx hb (hr.trans e2) (hq (some (.int x))) hS.2.2 hdg
        · refine W.zret hx hb (hr.trans e2) ?_ (hq (some (.int x))) hS.2.2 hdg
          subst e3
          rcases h1 with h1 | rfl | rfl
          · exact absurd h1 (by decide)
          · rfl
          · rfl
      · cases hs
    · cases hs
  case areturn =>
    have hI : (match m_rt i with
      | some (.object _) => decide (len = 1)
      | _ => false) = true := hI
    split at hI
    · rename_i C hC
      have e1 : len = 1 := of_decide_eq_true hI
      subst e1
      rw [m_s_areturn] at hs
      split at hs
      · rename_i x
        cases hs
        exact W.aret hx hb (hr.trans hC) (Or.inl ⟨_, rfl⟩) (Or.inr ⟨_, rfl⟩) (hq (some (.ref x))) hS.2.2 hdg
      · cases hs
        exact W.aret hx hb (hr.trans hC) (Or.inl ⟨_, rfl⟩) (Or.inl rfl) (hq (some .null)) hS.2.2 hdg
      · cases hs
    · cases hI
  case return_ =>
    obtain ⟨e1, e2⟩ : len = 1 ∧ m_rt i = none := of_decide_eq_true hI
    subst e1
    rw [m_s_return_] at hs
    split at hs
    · cases hs
      exact W.vret hx hb (hr.trans e2) (hq none) hS.2.2 hdg
    · cases hs
  all_goals
    exfalso
    first
    | (have h2 : (none : Option (m_C ⊕ m_R)) = some (.inr (v, hf)) := hs
       cases h2; done)
    | (unfold m_stp at hs
       dsimp only at hs
       (repeat' split at hs) <;> first | contradiction | (cases hs; done))
theorem m_lg_len (E : m_AE) (as : List Value) : (lg_sl (as.map (m_rv E))).length = (lg_sl as).length := by
  induction as with
  | nil => rfl
  | cons v r ih =>
    simp only [lg_sl, List.map_cons, List.flatMap_cons, List.length_append, m_rv_cat] at ih ⊢
    rw [ih]
    split <;> rfl
theorem m_lv_args (E : m_AE) (as : List Value) : ∀ k, lv_args k (as.map (m_rv E)) = (lv_args k as).map (m_rq E) := by
  induction as with
  | nil => intro k; rfl
  | cons v r ih =>
    intro k
    simp only [List.map_cons, lv_args, m_rv_cat, ih]
    rfl
theorem m_plain_all : (List.range 182).all (fun j => plainName (m_y j).cls && decide ((m_y j).cls = m_cn (m_oc j))) = true := by decide +kernel
theorem m_plain {j : Nat} (h : j < 182) : plainName (m_y j).cls = true ∧ (m_y j).cls = m_cn (m_oc j) := by
  have h1 := List.all_eq_true.mp m_plain_all j (List.mem_range.mpr h)
  simp only [Bool.and_eq_true, decide_eq_true_eq] at h1
  exact h1
set_option maxHeartbeats 4000000 in
theorem m_met_all : ∀ d, m_Met l E D ty X (m_run X d) d := by
  intro d
  induction d with
  | zero => intro j as h v h' hj he; cases he
  | succ d ih =>
    intro j as h v h' hj he
    have hle := m_run_mono _ _ _ _ _ _ he
    refine ⟨hle, ?_⟩
    simp only [m_run] at he
    split at he
    · rename_i hlg
      refine Met.ofW (cc := m_b j) (maxL := m_nl j) (ret := m_rt j) (m_plain hj.1).1 rfl ?_
      intro p e s m args below meth c s₁ B hml hv
      obtain ⟨rfl, hB1, hB2, hB3, hB4⟩ := hv
      have hts0 := atoms_spec (ws := m_wsM j) B.pre
      have hown : s.vm.findClass (m_cn (m_oc j)) = some m.cls := by
        rw [← (m_plain hj.1).2]
        exact findClass_of_methodNamed B.named
      have F : m_Fix E D ty X j d h.length p ({ frames := d + 1, cells := h'.length - h.length, slots := m_sz h' - m_sz h, locals := 100 * (d + 1) } : Room) s m ((as.map (m_rv E)).toArray) meth c :=
        ⟨⟨B.exec, B.bytes, hml, hown, fun w hw => hts0 w (List.mem_cons_of_mem _ hw)⟩, hB3, hB4, hB1, hj.1, fun hi => (name_of_methodNamed B.named B.method).1.trans hi, Nat.le_refl _, Nat.le_refl _⟩
      have hl := lv_entry (as.map (m_rv E)) (n := m_nl j) (by rw [m_lg_len]; exact hlg)
      rw [lg_entry_eq]
      generalize (lg_sl (as.map (m_rv E)) ++ List.replicate (m_nl j - (lg_sl (as.map (m_rv E))).length) Slot.unset).toArray = ls at hl ⊢
      rw [m_lv_args] at hl
      have K := m_exec_sim (z0 := m_sz h) (l := l) (e := e) (below := below) (Q := MQ below (m_Qc E D ty X v h') ((as.map (m_rv E)).toArray) s (h'.length - h.length) (m_sz h' - m_sz h) (m_A E)) F ih (m_run_mono d) (v := v) (hf := h') (Nat.le_refl _) (Nat.le_refl _) (fun en pc lv st h2 hok hn hz hs => m_ret F B.returns B.notSynchronized hok hn hs) _ _ _ _ _ he (Nat.le_refl _) (Nat.le_refl _) s.heap [] ls hB2 va_S.rf hl
      dsimp only at K
      rw [Nat.sub_self, Nat.sub_self] at K
      exact K
    · cases he
end RUN
