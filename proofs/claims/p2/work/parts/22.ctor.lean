/-! the two objects, made: computed once, where nothing outside is looked at; so it is wherever the machine is -/
def m_X0 : Nat → List Int32 := fun _ => [0]
theorem x_el0 {X : Nat → List Int32} {h : m_H} {t k : Nat} {i : Int32} {v : Value} (he : m_el m_X0 h t k i = some v) : m_el X h t k i = some v := by
  unfold m_el at he ⊢
  split at he
  · cases he
  · split at he
    · rename_i h1
      rw [if_pos h1]
      exact he
    · split at he
      · rename_i h2
        exact absurd h2.2.2 (by decide)
      · cases he
theorem x_ln0 {X : Nat → List Int32} {h : m_H} {k : Nat} {v : Int32} (he : m_ln m_X0 h k = some v) : m_ln X h k = some v := by
  unfold m_ln at he ⊢
  split at he
  · rename_i h1
    rw [if_pos h1]
    exact he
  · split at he
    · rename_i h2
      exact absurd h2.2 (by decide)
    · cases he
set_option maxRecDepth 100000 in
set_option maxHeartbeats 4000000 in
theorem x_stp0 {X : Nat → List Int32} {c0 call : Nat → List Value → m_H → Option m_R} (hcall : ∀ j as h r, c0 j as h = some r → call j as h = some r) {en : m_E} {pc : Nat} {lv : m_L} {st : List Value} {h : m_H} {r : m_C ⊕ m_R} (hs : m_stp m_X0 c0 en pc lv st h = some r) : m_stp X call en pc lv st h = some r := by
  obtain ⟨ins, len, a, b⟩ := en
  cases ins
  case iaload =>
    rw [m_s_iaload] at hs ⊢
    split at hs
    · split at hs
      · rename_i hv
        simp only [x_el0 hv]
        exact hs
      · cases hs
    · cases hs
  case baload =>
    rw [m_s_baload] at hs ⊢
    split at hs
    · split at hs
      · rename_i hv
        simp only [x_el0 hv]
        exact hs
      · cases hs
    · cases hs
  case arraylength =>
    rw [m_s_arraylength] at hs ⊢
    split at hs
    · split at hs
      · rename_i hv
        simp only [x_ln0 hv]
        exact hs
      · cases hs
    · cases hs
  case invokevirtual q =>
    rw [m_s_invokevirtual] at hs ⊢
    split at hs
    · rename_i x r h1
      split at hs
      · rename_i t vs h2
        split at hs
        · rename_i h3
          split at hs
          · rename_i hv
            simp only [h1, h2, if_pos h3, hcall _ _ _ _ hv]
            exact hs
          · cases hs
        · cases hs
      · cases hs
    · cases hs
  case invokestatic q =>
    rw [m_s_invokestatic] at hs ⊢
    split at hs
    · rename_i h9
      rw [if_pos h9]
      exact hs
    · rename_i h9
      rw [if_neg h9]
      split at hs
      · rename_i h3
        rw [if_pos h3]
        split at hs
        · rename_i hv
          simp only [hcall _ _ _ _ hv]
          exact hs
        · cases hs
      · cases hs
  case invokespecial q =>
    rw [m_s_invokespecial] at hs ⊢
    split at hs
    · rename_i h9
      rw [if_pos h9]
      exact hs
    · rename_i h9
      rw [if_neg h9]
      split at hs
      · rename_i x r h1
        split at hs
        · rename_i h3
          split at hs
          · rename_i hv
            simp only [h1, if_pos h3, hcall _ _ _ _ hv]
            exact hs
          · cases hs
        · cases hs
      · cases hs
  case iconst x1 =>
    rw [m_s_iconst] at hs ⊢
    exact hs
  case bipush x1 =>
    rw [m_s_bipush] at hs ⊢
    exact hs
  case sipush x1 =>
    rw [m_s_sipush] at hs ⊢
    exact hs
  case ldc x1 =>
    rw [m_s_ldc] at hs ⊢
    exact hs
  case ldc_w x1 =>
    rw [m_s_ldc_w] at hs ⊢
    exact hs
  case ldc2_w x1 =>
    rw [m_s_ldc2_w] at hs ⊢
    exact hs
  case aconst_null  =>
    rw [m_s_aconst_null] at hs ⊢
    exact hs
  case iload_n x1 =>
    rw [m_s_iload_n] at hs ⊢
    exact hs
  case iload x1 =>
    rw [m_s_iload] at hs ⊢
    exact hs
  case lload_n x1 =>
    rw [m_s_lload_n] at hs ⊢
    exact hs
  case lload x1 =>
    rw [m_s_lload] at hs ⊢
    exact hs
  case aload_n x1 =>
    rw [m_s_aload_n] at hs ⊢
    exact hs
  case aload x1 =>
    rw [m_s_aload] at hs ⊢
    exact hs
  case istore_n x1 =>
    rw [m_s_istore_n] at hs ⊢
    exact hs
  case istore x1 =>
    rw [m_s_istore] at hs ⊢
    exact hs
  case astore_n x1 =>
    rw [m_s_astore_n] at hs ⊢
    exact hs
  case astore x1 =>
    rw [m_s_astore] at hs ⊢
    exact hs
  case iinc x1 x2 =>
    rw [m_s_iinc] at hs ⊢
    exact hs
  case iadd  =>
    rw [m_s_iadd] at hs ⊢
    exact hs
  case isub  =>
    rw [m_s_isub] at hs ⊢
    exact hs
  case imul  =>
    rw [m_s_imul] at hs ⊢
    exact hs
  case iand  =>
    rw [m_s_iand] at hs ⊢
    exact hs
  case ior  =>
    rw [m_s_ior] at hs ⊢
    exact hs
  case ixor  =>
    rw [m_s_ixor] at hs ⊢
    exact hs
  case idiv  =>
    rw [m_s_idiv] at hs ⊢
    exact hs
  case irem  =>
    rw [m_s_irem] at hs ⊢
    exact hs
  case ishl  =>
    rw [m_s_ishl] at hs ⊢
    exact hs
  case ishr  =>
    rw [m_s_ishr] at hs ⊢
    exact hs
  case iushr  =>
    rw [m_s_iushr] at hs ⊢
    exact hs
  case land  =>
    rw [m_s_land] at hs ⊢
    exact hs
  case lor  =>
    rw [m_s_lor] at hs ⊢
    exact hs
  case lshl  =>
    rw [m_s_lshl] at hs ⊢
    exact hs
  case lshr  =>
    rw [m_s_lshr] at hs ⊢
    exact hs
  case lushr  =>
    rw [m_s_lushr] at hs ⊢
    exact hs
  case ineg  =>
    rw [m_s_ineg] at hs ⊢
    exact hs
  case i2l  =>
    rw [m_s_i2l] at hs ⊢
    exact hs
  case l2i  =>
    rw [m_s_l2i] at hs ⊢
    exact hs
  case dup  =>
    rw [m_s_dup] at hs ⊢
    exact hs
  case dup2  =>
    rw [m_s_dup2] at hs ⊢
    exact hs
  case pop  =>
    rw [m_s_pop] at hs ⊢
    exact hs
  case ifCond c q =>
    cases c
    · rw [m_s_ifCond_eq] at hs ⊢
      exact hs
    · rw [m_s_ifCond_ne] at hs ⊢
      exact hs
    · rw [m_s_ifCond_lt] at hs ⊢
      exact hs
    · rw [m_s_ifCond_ge] at hs ⊢
      exact hs
    · rw [m_s_ifCond_gt] at hs ⊢
      exact hs
    · rw [m_s_ifCond_le] at hs ⊢
      exact hs
  case if_icmp c q =>
    cases c
    · rw [m_s_if_icmp_eq] at hs ⊢
      exact hs
    · rw [m_s_if_icmp_ne] at hs ⊢
      exact hs
    · rw [m_s_if_icmp_lt] at hs ⊢
      exact hs
    · rw [m_s_if_icmp_ge] at hs ⊢
      exact hs
    · rw [m_s_if_icmp_gt] at hs ⊢
      exact hs
    · rw [m_s_if_icmp_le] at hs ⊢
      exact hs
  case ifnull x1 =>
    rw [m_s_ifnull] at hs ⊢
    exact hs
  case ifnonnull x1 =>
    rw [m_s_ifnonnull] at hs ⊢
    exact hs
  case goto x1 =>
    rw [m_s_goto] at hs ⊢
    exact hs
  case tableswitch x1 x2 x3 x4 =>
    rw [m_s_tableswitch] at hs ⊢
    exact hs
  case lookupswitch x1 x2 =>
    rw [m_s_lookupswitch] at hs ⊢
    exact hs
  case getfield x1 =>
    rw [m_s_getfield] at hs ⊢
    exact hs
  case putfield x1 =>
    rw [m_s_putfield] at hs ⊢
    exact hs
  case getstatic x1 =>
    rw [m_s_getstatic] at hs ⊢
    exact hs
  case new x1 =>
    rw [m_s_new] at hs ⊢
    exact hs
  case newarray x1 =>
    rw [m_s_newarray] at hs ⊢
    exact hs
  case anewarray x1 =>
    rw [m_s_anewarray] at hs ⊢
    exact hs
  case aaload  =>
    rw [m_s_aaload] at hs ⊢
    exact hs
  case iastore  =>
    rw [m_s_iastore] at hs ⊢
    exact hs
  case bastore  =>
    rw [m_s_bastore] at hs ⊢
    exact hs
  case aastore  =>
    rw [m_s_aastore] at hs ⊢
    exact hs
  case ireturn  =>
    rw [m_s_ireturn] at hs ⊢
    exact hs
  case areturn  =>
    rw [m_s_areturn] at hs ⊢
    exact hs
  case return_  =>
    rw [m_s_return_] at hs ⊢
    exact hs
  all_goals
    have h2 : (none : Option (m_C ⊕ m_R)) = some r := hs
    cases h2
theorem x_exec0 {X : Nat → List Int32} {c0 call : Nat → List Value → m_H → Option m_R} (hcall : ∀ j as h r, c0 j as h = some r → call j as h = some r) {code : List (Option m_E)} : ∀ (n pc : Nat) (lv : m_L) (st : List Value) (h : m_H) (r : m_R), m_exec m_X0 c0 code n pc lv st h = some r → m_exec X call code n pc lv st h = some r := by
  intro n
  induction n with
  | zero => intro pc lv st h r he; cases he
  | succ n ih =>
    intro pc lv st h r he
    simp only [m_exec] at he ⊢
    split at he
    · split at he
      · rename_i hs
        rw [x_stp0 hcall hs]
        exact ih _ _ _ _ _ he
      · rename_i hs
        rw [x_stp0 hcall hs]
        exact he
      · cases he
    · cases he
theorem x_run0 {X : Nat → List Int32} : ∀ (d j : Nat) (as : List Value) (h : m_H) (r : m_R), m_run m_X0 d j as h = some r → m_run X d j as h = some r := by
  intro d
  induction d with
  | zero => intro j as h r he; cases he
  | succ d ih =>
    intro j as h r he
    simp only [m_run] at he ⊢
    split at he
    · rename_i h1
      rw [if_pos h1]
      exact x_exec0 ih _ _ _ _ _ _ he
    · cases he
def m_hX : m_H := [(9, [.ref 1, .ref 58, .int 0, .ref 115, .ref 116]), (5, [.ref 2, .int 0, .ref 3, .int 0, .ref 4, .int 0, .ref 5, .int 0, .ref 6, .int 0, .int 0, .ref 7, .int 0, .ref 8]), (20, List.replicate 160 (.int 0)), (22, [.null, .null, .null, .null, .null, .null, .null, .null]), (23, [.ref 10, .ref 16, .ref 22, .ref 28, .ref 34, .ref 40, .ref 46, .ref 52]), (20, [.int 0, .int 0, .int 0, .int 0, .int 0, .int 0]), (24, List.replicate 20 (.null)), (24, [.null, .null, .null, .null, .null]), (7, [.ref 9, .int 0, .int 0, .int 0, .int 0]), (20, List.replicate 20 (.int 0)), (0, [.int 0, .int 0, .int 0, .int 0, .int 0, .ref 11, .ref 12, .ref 14]), (20, List.replicate 16 (.int 0)), (1, [.ref 13]), (20, List.replicate 84 (.int 0)), (1, [.ref 15]), (20, List.replicate 84 (.int 0)), (0, [.int 0, .int 0, .int 0, .int 0, .int 0, .ref 17, .ref 18, .ref 20]), (20, List.replicate 16 (.int 0)), (1, [.ref 19]), (20, List.replicate 84 (.int 0)), (1, [.ref 21]), (20, List.replicate 84 (.int 0)), (0, [.int 0, .int 0, .int 0, .int 0, .int 0, .ref 23, .ref 24, .ref 26]), (20, List.replicate 16 (.int 0)), (1, [.ref 25]), (20, List.replicate 84 (.int 0)), (1, [.ref 27]), (20, List.replicate 84 (.int 0)), (0, [.int 0, .int 0, .int 0, .int 0, .int 0, .ref 29, .ref 30, .ref 32]), (20, List.replicate 16 (.int 0)), (1, [.ref 31]), (20, List.replicate 84 (.int 0)), (1, [.ref 33]), (20, List.replicate 84 (.int 0)), (0, [.int 0, .int 0, .int 0, .int 0, .int 0, .ref 35, .ref 36, .ref 38]), (20, List.replicate 16 (.int 0)), (1, [.ref 37]), (20, List.replicate 84 (.int 0)), (1, [.ref 39]), (20, List.replicate 84 (.int 0)), (0, [.int 0, .int 0, .int 0, .int 0, .int 0, .ref 41, .ref 42, .ref 44]), (20, List.replicate 16 (.int 0)), (1, [.ref 43]), (20, List.replicate 84 (.int 0)), (1, [.ref 45]), (20, List.replicate 84 (.int 0)), (0, [.int 0, .int 0, .int 0, .int 0, .int 0, .ref 47, .ref 48, .ref 50]), (20, List.replicate 16 (.int 0)), (1, [.ref 49]), (20, List.replicate 84 (.int 0)), (1, [.ref 51]), (20, List.replicate 84 (.int 0)), (0, [.int 0, .int 0, .int 0, .int 0, .int 0, .ref 53, .ref 54, .ref 56]), (20, List.replicate 16 (.int 0)), (1, [.ref 55]), (20, List.replicate 84 (.int 0)), (1, [.ref 57]), (20, List.replicate 84 (.int 0)), (5, [.ref 59, .int 0, .ref 60, .int 0, .ref 61, .int 0, .ref 62, .int 0, .ref 63, .int 0, .int 0, .ref 64, .int 0, .ref 65]), (20, List.replicate 160 (.int 0)), (22, [.null, .null, .null, .null, .null, .null, .null, .null]), (23, [.ref 67, .ref 73, .ref 79, .ref 85, .ref 91, .ref 97, .ref 103, .ref 109]), (20, [.int 0, .int 0, .int 0, .int 0, .int 0, .int 0]), (24, List.replicate 20 (.null)), (24, [.null, .null, .null, .null, .null]), (7, [.ref 66, .int 0, .int 0, .int 0, .int 0]), (20, List.replicate 20 (.int 0)), (0, [.int 0, .int 0, .int 0, .int 0, .int 0, .ref 68, .ref 69, .ref 71]), (20, List.replicate 16 (.int 0)), (1, [.ref 70]), (20, List.replicate 84 (.int 0)), (1, [.ref 72]), (20, List.replicate 84 (.int 0)), (0, [.int 0, .int 0, .int 0, .int 0, .int 0, .ref 74, .ref 75, .ref 77]), (20, List.replicate 16 (.int 0)), (1, [.ref 76]), (20, List.replicate 84 (.int 0)), (1, [.ref 78]), (20, List.replicate 84 (.int 0)), (0, [.int 0, .int 0, .int 0, .int 0, .int 0, .ref 80, .ref 81, .ref 83]), (20, List.replicate 16 (.int 0)), (1, [.ref 82]), (20, List.replicate 84 (.int 0)), (1, [.ref 84]), (20, List.replicate 84 (.int 0)), (0, [.int 0, .int 0, .int 0, .int 0, .int 0, .ref 86, .ref 87, .ref 89]), (20, List.replicate 16 (.int 0)), (1, [.ref 88]), (20, List.replicate 84 (.int 0)), (1, [.ref 90]), (20, List.replicate 84 (.int 0)), (0, [.int 0, .int 0, .int 0, .int 0, .int 0, .ref 92, .ref 93, .ref 95]), (20, List.replicate 16 (.int 0)), (1, [.ref 94]), (20, List.replicate 84 (.int 0)), (1, [.ref 96]), (20, List.replicate 84 (.int 0)), (0, [.int 0, .int 0, .int 0, .int 0, .int 0, .ref 98, .ref 99, .ref 101]), (20, List.replicate 16 (.int 0)), (1, [.ref 100]), (20, List.replicate 84 (.int 0)), (1, [.ref 102]), (20, List.replicate 84 (.int 0)), (0, [.int 0, .int 0, .int 0, .int 0, .int 0, .ref 104, .ref 105, .ref 107]), (20, List.replicate 16 (.int 0)), (1, [.ref 106]), (20, List.replicate 84 (.int 0)), (1, [.ref 108]), (20, List.replicate 84 (.int 0)), (0, [.int 0, .int 0, .int 0, .int 0, .int 0, .ref 110, .ref 111, .ref 113]), (20, List.replicate 16 (.int 0)), (1, [.ref 112]), (20, List.replicate 84 (.int 0)), (1, [.ref 114]), (20, List.replicate 84 (.int 0)), (3, [.null, .int 0, .int 0, .null]), (4, [.ref 117, .ref 118, .ref 119, .ref 120, .int 0, .null, .int 0, .int 0, .int 0, .ref 121]), (25, [.ref 122, .ref 124, .ref 126, .ref 128, .ref 130, .ref 132, .ref 134, .ref 136, .ref 138, .ref 140, .ref 142, .ref 144, .ref 146, .ref 148, .ref 150, .ref 152]), (26, [.ref 154, .ref 158, .ref 162, .ref 166]), (22, [.null, .null, .null, .null]), (20, [.int 0, .int 0, .int 0, .int 0]), (20, [.int 0, .int 0, .int 0]), (1, [.ref 123]), (20, List.replicate 84 (.int 0)), (1, [.ref 125]), (20, List.replicate 84 (.int 0)), (1, [.ref 127]), (20, List.replicate 84 (.int 0)), (1, [.ref 129]), (20, List.replicate 84 (.int 0)), (1, [.ref 131]), (20, List.replicate 84 (.int 0)), (1, [.ref 133]), (20, List.replicate 84 (.int 0)), (1, [.ref 135]), (20, List.replicate 84 (.int 0)), (1, [.ref 137]), (20, List.replicate 84 (.int 0)), (1, [.ref 139]), (20, List.replicate 84 (.int 0)), (1, [.ref 141]), (20, List.replicate 84 (.int 0)), (1, [.ref 143]), (20, List.replicate 84 (.int 0)), (1, [.ref 145]), (20, List.replicate 84 (.int 0)), (1, [.ref 147]), (20, List.replicate 84 (.int 0)), (1, [.ref 149]), (20, List.replicate 84 (.int 0)), (1, [.ref 151]), (20, List.replicate 84 (.int 0)), (1, [.ref 153]), (20, List.replicate 84 (.int 0)), (8, [.int 0, .int 0, .int 0, .ref 155, .ref 156, .ref 157]), (20, List.replicate 16 (.int 0)), (20, List.replicate 16 (.int 0)), (20, List.replicate 16 (.int 0)), (8, [.int 0, .int 0, .int 0, .ref 159, .ref 160, .ref 161]), (20, List.replicate 16 (.int 0)), (20, List.replicate 16 (.int 0)), (20, List.replicate 16 (.int 0)), (8, [.int 0, .int 0, .int 0, .ref 163, .ref 164, .ref 165]), (20, List.replicate 16 (.int 0)), (20, List.replicate 16 (.int 0)), (20, List.replicate 16 (.int 0)), (8, [.int 0, .int 0, .int 0, .ref 167, .ref 168, .ref 169]), (20, List.replicate 16 (.int 0)), (20, List.replicate 16 (.int 0)), (20, List.replicate 16 (.int 0))]
def m_hM : m_H := [(10, [.int 0, .ref 171, .ref 172, .int 0, .ref 173, .ref 174, .ref 175, .ref 176, .ref 177, .int 0, .int 0, .int 0, .int 0, .int 0, .int 0, .ref 178, .ref 179, .int 0, .int 0, .int 0, .int 0, .int 0, .int 0, .int 0, .ref 180, .ref 181, .ref 182, .int 0, .ref 183, .ref 184, .ref 185, .ref 186, .ref 187, .ref 188, .ref 189, .ref 190, .ref 191, .int 0, .int 0, .ref 192, .int 0, .int 0, .int 0, .int 0]), (20, List.replicate 1800 (.int 0)), (20, List.replicate 1800 (.int 0)), (20, List.replicate 1600 (.int 0)), (20, [.int 0, .int 0, .int 0, .int 0, .int 0, .int 0, .int 0, .int 0]), (20, [.int 0, .int 0, .int 0, .int 0, .int 0, .int 0, .int 0, .int 0]), (20, List.replicate 64 (.int 0)), (20, List.replicate 64 (.int 0)), (20, List.replicate 336 (.int 0)), (21, List.replicate 80 (.int 0)), (20, [.int 0, .int 0, .int 0]), (20, [.int 0, .int 0, .int 0]), (20, [.int 0, .int 0, .int 0, .int 0]), (21, List.replicate 16 (.int 0)), (21, List.replicate 16 (.int 0)), (21, List.replicate 16 (.int 0)), (20, List.replicate 16 (.int 0)), (20, List.replicate 16 (.int 0)), (20, List.replicate 16 (.int 0)), (20, [.int 0, .int 0, .int 0, .int 0]), (20, [.int 0, .int 0, .int 0, .int 0]), (20, [.int 0, .int 0, .int 0, .int 0]), (20, List.replicate 20 (.int 0))]
def m_h0 : m_H := m_hX ++ m_hM
set_option maxRecDepth 100000 in
theorem x_ctorX : m_run m_X0 60 69 [.ref 0] [(9, m_dfl 9)] = some (none, m_hX) := by decide +kernel
set_option maxRecDepth 100000 in
theorem x_ctorM : m_run m_X0 60 104 [.ref 170] (m_hX ++ [(10, m_dfl 10)]) = some (none, m_h0) := by decide +kernel
theorem x_h0_ln : m_h0.length = 193 ∧ m_sz m_h0 = 11164 := by decide +kernel
