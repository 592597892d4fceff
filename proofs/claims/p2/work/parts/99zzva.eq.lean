/-! THE SAME ROWS: what the class' search looks for (its last packet breaks the PROMISE) and what the reference looks for (some packet of it does) -/
theorem cnA_pos {op : Nat → Bool} {f : Nat → Int} {x : Int} : ∀ m : Nat, 0 < cnA op f x m ↔ ∃ s, s < m ∧ op s = true ∧ f s = x
  | 0 => ⟨fun h => absurd h (by show ¬ (0 : Int) < 0; omega), fun ⟨s, h, _⟩ => absurd h (by omega)⟩
  | m + 1 => by
    have ih := cnA_pos (op := op) (f := f) (x := x) m
    have h0 := cnA_rg op f x m
    by_cases hm : op m = true ∧ f m = x
    · rw [cnA_1 hm]
      exact ⟨fun _ => ⟨m, by omega, hm⟩, fun _ => by omega⟩
    · rw [cnA_0 hm, ih]
      constructor
      · rintro ⟨s, h1, h2⟩
        exact ⟨s, by omega, h2⟩
      · rintro ⟨s, h1, h2⟩
        rcases (show s < m ∨ s = m by omega) with h3 | h3
        · exact ⟨s, h3, h2⟩
        · exact absurd (h3 ▸ h2) hm
theorem cnA_mono {op op' : Nat → Bool} {f f' : Nat → Int} {x : Int} (h : ∀ s : Nat, op s = true ∧ f s = x → op' s = true ∧ f' s = x) : ∀ m : Nat, cnA op f x m ≤ cnA op' f' x m
  | 0 => Int.le_refl _
  | m + 1 => by
    have ih := cnA_mono h m
    by_cases hm : op m = true ∧ f m = x
    · rw [cnA_1 hm, cnA_1 (h m hm)]
      omega
    · rw [cnA_0 hm]
      by_cases hm' : op' m = true ∧ f' m = x
      · rw [cnA_1 hm']
        omega
      · rw [cnA_0 hm']
        exact ih
theorem cnA_off {op : Nat → Bool} {f : Nat → Int} {t : Nat} (ht : op t = true) : ∀ m : Nat, cnA op f (f t) m = cnA (uB op t false) f (f t) m + (if t < m then 1 else 0)
  | 0 => by
    rw [if_neg (by omega)]
    rfl
  | m + 1 => by
    have ih := cnA_off (f := f) ht m
    by_cases e : m = t
    · subst e
      rw [cnA_1 ⟨ht, rfl⟩, cnA_0 (by rw [uB_eq]; exact fun h => absurd h.1 (by decide)), ih, if_neg (by omega), if_pos (by omega)]
      omega
    · have e3 : uB op t false m = op m := uB_ne e
      have e4 : (if t < m then (1 : Int) else 0) = if t < m + 1 then 1 else 0 := by
        by_cases h : t < m
        · rw [if_pos h, if_pos (by omega)]
        · rw [if_neg h, if_neg (by omega)]
      by_cases hm : op m = true ∧ f m = f t
      · rw [cnA_1 hm, cnA_1 (by rw [e3]; exact hm), ih, e4]
        omega
      · rw [cnA_0 hm, cnA_0 (by rw [e3]; exact hm), ih, e4]
theorem cnA_two {op : Nat → Bool} {f : Nat → Int} {t : Nat} (ht : op t = true) (h16 : t < 16) : (∃ s : Nat, s < 16 ∧ s ≠ t ∧ op s = true ∧ f s = f t) ↔ ¬ cnA op f (f t) 16 ≤ 1 := by
  have h1 := cnA_off (f := f) ht 16
  rw [if_pos h16] at h1
  have h2 := cnA_pos (op := uB op t false) (f := f) (x := f t) 16
  constructor
  · rintro ⟨s, s1, s2, s3, s4⟩
    have := h2.mpr ⟨s, s1, by rw [uB_ne s2]; exact s3, s4⟩
    omega
  · intro h
    obtain ⟨s, s1, s2, s3⟩ := h2.mp (by omega)
    have s4 : s ≠ t := fun e => by
      rw [e, uB_eq] at s2
      exact absurd s2 (by decide)
    rw [uB_ne s4] at s2
    exact ⟨s, s1, s4, s2, s3⟩
theorem cn_open {op : Nat → Bool} {g : Nat → Int} {t : Nat} {y M : Int} (hI : ∀ x, cnA op g x 16 ≤ M) (h : cnA (uB op t true) (v_uf g t y) y 16 ≤ M) : ∀ x, cnA (uB op t true) (v_uf g t y) x 16 ≤ M := by
  intro x
  by_cases e : x = y
  · rw [e]
    exact h
  · refine Int.le_trans (cnA_mono (fun s hs => ?_) 16) (hI x)
    have s1 : s ≠ t := fun q => by
      rw [q, v_uf_eq] at hs
      exact e hs.2.symm
    rw [uB_ne s1, v_uf_ne s1] at hs
    exact hs
theorem cn_close {op : Nat → Bool} {g : Nat → Int} {t : Nat} {M : Int} (hI : ∀ x, cnA op g x 16 ≤ M) : ∀ x, cnA (uB op t false) g x 16 ≤ M := by
  intro x
  refine Int.le_trans (cnA_mono (fun s hs => ?_) 16) (hI x)
  have s1 : s ≠ t := fun q => by
    rw [q, uB_eq] at hs
    exact absurd hs.1 (by decide)
  rw [uB_ne s1] at hs
  exact hs
/-- what holds behind packets none of which broke the PROMISE -/
def InA (form N : Int) (A : Aw) : Prop := (form = 1 → ∀ x, cnA (aOp A) (aHo A) x 16 ≤ N) ∧ (form = 2 → ∀ t : Nat, t < 16 → aPa A t ≤ N) ∧ (form = 3 → ∀ x, cnA (aOp A) (aNu A) x 16 ≤ 1)
theorem InA_0 {form N : Int} (hN : 0 ≤ N) : InA form N aw0 := by
  have h : ∀ (f : Nat → Int) (x : Int), cnA (fun _ => false) f x 16 ≤ 0 := fun f x => by
    have h1 := cnA_pos (op := fun _ => false) (f := f) (x := x) 16
    by_cases h2 : 0 < cnA (fun _ => false) f x 16
    · obtain ⟨s, -, h3, -⟩ := h1.mp h2
      exact absurd h3 (by decide)
    · omega
  exact ⟨fun _ x => Int.le_trans (h _ x) hN, fun _ t _ => hN, fun _ x => Int.le_trans (h _ x) (by decide)⟩
theorem aw_pa (A : Aw) (t h k n how : Int) (s : Nat) : aPa (awS A t h k n how) s = if how = 1 ∧ s = t.toNat then aPa A s + 1 else aPa A s := by
  unfold awS
  by_cases h2 : how = 2
  · rw [if_pos h2, if_neg (by omega)]
    rfl
  · rw [if_neg h2]
    by_cases h1 : how = 1
    · have e : v_uf (aPa A) t.toNat (aPa A t.toNat + 1) s = if how = 1 ∧ s = t.toNat then aPa A s + 1 else aPa A s := by
        by_cases hs : s = t.toNat
        · rw [hs, v_uf_eq, if_pos ⟨h1, rfl⟩]
        · rw [v_uf_ne hs, if_neg (fun q => hs q.2)]
      rw [if_pos h1]
      by_cases k0 : k = 0
      · rw [if_pos k0]
        exact e
      · rw [if_neg k0]
        by_cases k2 : k = 2
        · rw [if_pos k2]
          exact e
        · rw [if_neg k2]
          exact e
    · rw [if_neg h1, if_neg (fun q => h1 q.1)]
theorem aw_1 (A : Aw) (t h k n how : Int) (h1 : how = 1) (h2 : k = 0) : aOp (awS A t h k n how) = uB (aOp A) t.toNat true ∧ aHo (awS A t h k n how) = v_uf (aHo A) t.toNat h ∧ aNu (awS A t h k n how) = v_uf (aNu A) t.toNat n := by
  unfold awS
  rw [if_neg (by omega), if_pos h1, if_pos h2]
  exact ⟨rfl, rfl, rfl⟩
theorem aw_2 (A : Aw) (t h k n how : Int) (h1 : how = 1) (h2 : k = 2) : aOp (awS A t h k n how) = uB (aOp A) t.toNat false ∧ aHo (awS A t h k n how) = aHo A ∧ aNu (awS A t h k n how) = aNu A := by
  unfold awS
  rw [if_neg (by omega), if_pos h1, if_neg (by omega), if_pos h2]
  exact ⟨rfl, rfl, rfl⟩
theorem aw_3 (A : Aw) (t h k n how : Int) (hn : ¬ (how = 1 ∧ (k = 0 ∨ k = 2))) : aOp (awS A t h k n how) = aOp A ∧ aHo (awS A t h k n how) = aHo A ∧ aNu (awS A t h k n how) = aNu A := by
  unfold awS
  by_cases h2 : how = 2
  · rw [if_pos h2]
    exact ⟨rfl, rfl, rfl⟩
  · rw [if_neg h2]
    by_cases h1 : how = 1
    · rw [if_pos h1, if_neg (by omega), if_neg (by omega)]
      exact ⟨rfl, rfl, rfl⟩
    · rw [if_neg h1]
      exact ⟨rfl, rfl, rfl⟩
theorem stepV {form N : Int} (hN : 0 ≤ N) (hf : 0 ≤ form ∧ form ≤ 4) {A : Aw} (hI : InA form N A) {t h k n how : Int} (hp : pkO t h k n) (hh : 0 ≤ how ∧ how ≤ 2) :
    (vioC (awS A t h k n how) t h k how form N ↔ vioM (awS A t h k n how) t k how form N) ∧ (¬ vioM (awS A t h k n how) t k how form N → InA form N (awS A t h k n how)) := by
  have t16 : t.toNat < 16 := by
    have := hp.1
    omega
  have hf5 : form = 0 ∨ form = 1 ∨ form = 2 ∨ form = 3 ∨ form = 4 := by omega
  rcases hf5 with rfl | rfl | rfl | rfl | rfl
  · refine ⟨?_, fun _ => ⟨fun e => absurd e (by decide), fun e => absurd e (by decide), fun e => absurd e (by decide)⟩⟩
    simp [vioC, vioM, keptM]
  · -- FORM 1
    have hI1 := hI.1 rfl
    have hC : vioC (awS A t h k n how) t h k how 1 N ↔ how = 1 ∧ N < cnA (aOp (awS A t h k n how)) (aHo (awS A t h k n how)) h 16 := by simp [vioC]
    have hM : vioM (awS A t h k n how) t k how 1 N ↔ aOp (awS A t h k n how) t.toNat = true ∧ N < cnA (aOp (awS A t h k n how)) (aHo (awS A t h k n how)) (aHo (awS A t h k n how) t.toNat) 16 := by simp [vioM, keptM]
    rw [hC, hM]
    have hG : ∀ A2 : Aw, (∀ x, cnA (aOp A2) (aHo A2) x 16 ≤ N) → InA 1 N A2 := fun A2 h2 => ⟨fun _ => h2, fun e => absurd e (by decide), fun e => absurd e (by decide)⟩
    by_cases c1 : how = 1 ∧ k = 0
    · obtain ⟨e1, e2, e3⟩ := aw_1 A t h k n how c1.1 c1.2
      rw [e1, e2, uB_eq, v_uf_eq]
      refine ⟨⟨fun q => ⟨rfl, q.2⟩, fun q => ⟨c1.1, q.2⟩⟩, fun q => hG _ ?_⟩
      rw [e1, e2]
      exact cn_open hI1 (by
        by_cases z : cnA (uB (aOp A) t.toNat true) (v_uf (aHo A) t.toNat h) h 16 ≤ N
        · exact z
        · exact absurd ⟨rfl, by omega⟩ q)
    · by_cases c2 : how = 1 ∧ k = 2
      · obtain ⟨e1, e2, e3⟩ := aw_2 A t h k n how c2.1 c2.2
        rw [e1, e2, uB_eq]
        have hc := cn_close (t := t.toNat) hI1
        refine ⟨⟨fun q => absurd q.2 (by have := hc h; omega), fun q => absurd q.1 (by decide)⟩, fun _ => hG _ ?_⟩
        rw [e1, e2]
        exact hc
      · obtain ⟨e1, e2, e3⟩ := aw_3 A t h k n how (by omega)
        rw [e1, e2]
        refine ⟨⟨fun q => absurd q.2 (by have := hI1 h; omega), fun q => absurd q.2 (by have := hI1 (aHo A t.toNat); omega)⟩, fun _ => hG _ ?_⟩
        rw [e1, e2]
        exact hI1
  · -- FORM 2
    have hI2 := hI.2.1 rfl
    have hC : vioC (awS A t h k n how) t h k how 2 N ↔ how = 1 ∧ N < aPa (awS A t h k n how) t.toNat := by simp [vioC]
    have hM : vioM (awS A t h k n how) t k how 2 N ↔ N < aPa (awS A t h k n how) t.toNat := by simp [vioM, keptM]
    rw [hC, hM]
    have ht := hI2 t.toNat t16
    refine ⟨⟨fun q => q.2, fun q => ⟨?_, q⟩⟩, fun q => ⟨fun e => absurd e (by decide), fun _ s hs => ?_, fun e => absurd e (by decide)⟩⟩
    · rw [aw_pa] at q
      by_cases h1 : how = 1
      · exact h1
      · rw [if_neg (fun z => h1 z.1)] at q
        omega
    · by_cases e : s = t.toNat
      · rw [e]
        omega
      · rw [aw_pa, if_neg (fun z => e z.2)]
        exact hI2 s hs
  · -- FORM 3
    have hI3 := hI.2.2 rfl
    have hC : vioC (awS A t h k n how) t h k how 3 N ↔ how = 1 ∧ aOp (awS A t h k n how) t.toNat = true ∧ ∃ s : Nat, s < 16 ∧ s ≠ t.toNat ∧ aOp (awS A t h k n how) s = true ∧ aNu (awS A t h k n how) s = aNu (awS A t h k n how) t.toNat := by simp [vioC]
    have hM : vioM (awS A t h k n how) t k how 3 N ↔ aOp (awS A t h k n how) t.toNat = true ∧ ¬ cnA (aOp (awS A t h k n how)) (aNu (awS A t h k n how)) (aNu (awS A t h k n how) t.toNat) 16 ≤ 1 := by simp [vioM, keptM]
    have hC2 : vioC (awS A t h k n how) t h k how 3 N ↔ how = 1 ∧ aOp (awS A t h k n how) t.toNat = true ∧ ¬ cnA (aOp (awS A t h k n how)) (aNu (awS A t h k n how)) (aNu (awS A t h k n how) t.toNat) 16 ≤ 1 := by
      rw [hC]
      constructor
      · rintro ⟨q1, q2, q3⟩
        exact ⟨q1, q2, (cnA_two q2 t16).mp q3⟩
      · rintro ⟨q1, q2, q3⟩
        exact ⟨q1, q2, (cnA_two q2 t16).mpr q3⟩
    rw [hC2, hM]
    have hG : ∀ A2 : Aw, (∀ x, cnA (aOp A2) (aNu A2) x 16 ≤ 1) → InA 3 N A2 := fun A2 h2 => ⟨fun e => absurd e (by decide), fun e => absurd e (by decide), fun _ => h2⟩
    by_cases c1 : how = 1 ∧ k = 0
    · obtain ⟨e1, e2, e3⟩ := aw_1 A t h k n how c1.1 c1.2
      rw [e1, e3, uB_eq, v_uf_eq]
      refine ⟨⟨fun q => q.2, fun q => ⟨c1.1, q⟩⟩, fun q => hG _ ?_⟩
      rw [e1, e3]
      exact cn_open hI3 (by
        by_cases z : cnA (uB (aOp A) t.toNat true) (v_uf (aNu A) t.toNat n) n 16 ≤ 1
        · exact z
        · exact absurd ⟨rfl, z⟩ q)
    · by_cases c2 : how = 1 ∧ k = 2
      · obtain ⟨e1, e2, e3⟩ := aw_2 A t h k n how c2.1 c2.2
        rw [e1, e3, uB_eq]
        refine ⟨⟨fun q => q.2, fun q => absurd q.1 (by decide)⟩, fun _ => hG _ ?_⟩
        rw [e1, e3]
        exact cn_close hI3
      · obtain ⟨e1, e2, e3⟩ := aw_3 A t h k n how (by omega)
        rw [e1, e3]
        refine ⟨⟨fun q => q.2, fun q => absurd (hI3 _) q.2⟩, fun _ => hG _ ?_⟩
        rw [e1, e3]
        exact hI3
  · refine ⟨?_, fun _ => ⟨fun e => absurd e (by decide), fun e => absurd e (by decide), fun e => absurd e (by decide)⟩⟩
    simp [vioC, vioM, keptM]
theorem wd_pre {v a L j : Nat} (h : j < L) : v / a / a ^ (L - 1 - j) = v / a ^ (L + 1 - 1 - j) := by
  rw [Nat.div_div_eq_div_mul, Nat.mul_comm a, ← Nat.pow_succ, show (L - 1 - j).succ = L + 1 - 1 - j by omega]
section
variable {form N : Int} {σ : Nat → Int} {ts : Nat → List p_Li} {m a : Nat}
theorem howV_rg (ha : 0 < a) (hlt : ∀ q : Nat, q < a → pkO (σ (1770 + 4 * q)) (σ (1770 + 4 * q + 1)) (σ (1770 + 4 * q + 2)) (σ (1770 + 4 * q + 3))) (j v : Nat) : 0 ≤ howV form σ ts m a j v ∧ howV form σ ts m a j v ≤ 2 :=
  hwP_rg (wdS_ok (form := form) (ts := ts) (m := m) hlt ha j (v / a)).1 m (Nat.le_refl m)
theorem wdS_A (hf : 0 ≤ form ∧ form ≤ 4) (L v : Nat) : (wdS form σ ts m a (L + 1) v).2 = awS (wdS form σ ts m a L (v / a)).2 (σ (1770 + 4 * (v % a))) (σ (1770 + 4 * (v % a) + 1)) (σ (1770 + 4 * (v % a) + 2)) (σ (1770 + 4 * (v % a) + 3)) (howV form σ ts m a L v) := by
  rw [wdS]
  show stA form _ _ _ _ ts m _ _ = _
  unfold stA
  rw [if_neg (by omega)]
  rfl
theorem inv_row (hN : 0 ≤ N) (hf : 0 ≤ form ∧ form ≤ 4) (ha : 0 < a) (hlt : ∀ q : Nat, q < a → pkO (σ (1770 + 4 * q)) (σ (1770 + 4 * q + 1)) (σ (1770 + 4 * q + 2)) (σ (1770 + 4 * q + 3))) : ∀ (L v : Nat), (∀ j, j < L → ¬ vioV form N σ ts m a (j + 1) (v / a ^ (L - 1 - j))) → InA form N (wdS form σ ts m a L v).2
  | 0, v, _ => InA_0 hN
  | L + 1, v, h => by
    have ih := inv_row hN hf ha hlt L (v / a) (fun j hj => by
      rw [wd_pre hj]
      exact h j (by omega))
    have h1 := h L (by omega)
    rw [show L + 1 - 1 - L = 0 by omega, Nat.pow_zero, Nat.div_one] at h1
    rw [vioV, wdS_A hf] at h1
    rw [wdS_A hf]
    exact (stepV hN hf ih (hlt _ (Nat.mod_lt _ ha)) (howV_rg ha hlt L v)).2 h1
theorem hit_vio (hN : 0 ≤ N) (hf : 0 ≤ form ∧ form ≤ 4) (ha : 0 < a) (hlt : ∀ q : Nat, q < a → pkO (σ (1770 + 4 * q)) (σ (1770 + 4 * q + 1)) (σ (1770 + 4 * q + 2)) (σ (1770 + 4 * q + 3))) (L v : Nat) (h : ∀ j, j < L → ¬ vioV form N σ ts m a (j + 1) (v / a ^ (L + 1 - 1 - j))) : hitV form N σ ts m a (L + 1) v ↔ vioV form N σ ts m a (L + 1) v := by
  have ih := inv_row (ts := ts) (m := m) hN hf ha hlt L (v / a) (fun j hj => by
    rw [wd_pre hj]
    exact h j hj)
  rw [hitV, vioV, wdS_A hf]
  refine Iff.trans ?_ (stepV hN hf ih (hlt _ (Nat.mod_lt _ ha)) (howV_rg ha hlt L v)).1
  constructor
  · rintro (⟨q, -⟩ | ⟨-, q⟩)
    · omega
    · exact q
  · intro q
    exact Or.inr ⟨by omega, q⟩
theorem brk_iff (hN : 0 ≤ N) (hf : 0 ≤ form ∧ form ≤ 4) (hlt : ∀ q : Nat, q < a → pkO (σ (1770 + 4 * q)) (σ (1770 + 4 * q + 1)) (σ (1770 + 4 * q + 2)) (σ (1770 + 4 * q + 3))) (l : Nat) (hl : 1 ≤ l) (hs : ∀ l', 1 ≤ l' → l' < l → ∀ v', v' < a ^ l' → ¬ brkV form N σ ts m a l' v') (v : Nat) (hv : v < a ^ l) : hitV form N σ ts m a l v ↔ brkV form N σ ts m a l v := by
  obtain ⟨L, rfl⟩ : ∃ L, l = L + 1 := ⟨l - 1, by omega⟩
  have ha : 0 < a := by
    rcases Nat.eq_zero_or_pos a with h | h
    · rw [h, Nat.pow_succ, Nat.mul_zero] at hv
      omega
    · exact h
  have hno : ∀ j, j < L → ¬ vioV form N σ ts m a (j + 1) (v / a ^ (L + 1 - 1 - j)) := fun j hj hq => by
    refine hs (j + 1) (by omega) (by omega) (v / a ^ (L + 1 - 1 - j)) ?_ ⟨j, by omega, ?_⟩
    · refine Nat.div_lt_of_lt_mul ?_
      rw [← Nat.pow_add, show L + 1 - 1 - j + (j + 1) = L + 1 by omega]
      exact hv
    · rw [show j + 1 - 1 - j = 0 by omega, Nat.pow_zero, Nat.div_one]
      exact hq
  rw [hit_vio hN hf ha hlt L v hno]
  constructor
  · intro q
    refine ⟨L, by omega, ?_⟩
    rw [show L + 1 - 1 - L = 0 by omega, Nat.pow_zero, Nat.div_one]
    exact q
  · rintro ⟨j, h1, h2⟩
    rcases (show j < L ∨ j = L by omega) with h3 | h3
    · exact absurd h2 (hno j h3)
    · subst h3
      rw [show j + 1 - 1 - j = 0 by omega, Nat.pow_zero, Nat.div_one] at h2
      exact h2
end
section
variable {H1 H2 : Nat → Nat → Prop} {a : Nat}
theorem br_no (C : ∀ l, 1 ≤ l → (∀ l', 1 ≤ l' → l' < l → ∀ v', v' < a ^ l' → ¬ H2 l' v') → ∀ v, v < a ^ l → (H1 l v ↔ H2 l v)) : ∀ l, (∀ l', 1 ≤ l' → l' < l → ∀ v', v' < a ^ l' → ¬ H1 l' v') ↔ (∀ l', 1 ≤ l' → l' < l → ∀ v', v' < a ^ l' → ¬ H2 l' v')
  | 0 => ⟨fun _ l' _ h => absurd h (by omega), fun _ l' _ h => absurd h (by omega)⟩
  | l + 1 => by
    have ih := br_no C l
    constructor
    · intro h
      have h2 := ih.mp (fun l' a1 a2 => h l' a1 (by omega))
      intro l' a1 a2 v' a3
      rcases (show l' < l ∨ l' = l by omega) with q | q
      · exact h2 l' a1 q v' a3
      · subst q
        exact fun z => h l' a1 a2 v' a3 ((C l' a1 h2 v' a3).mpr z)
    · intro h
      have h2 : ∀ l', 1 ≤ l' → l' < l → ∀ v', v' < a ^ l' → ¬ H2 l' v' := fun l' a1 a2 => h l' a1 (by omega)
      have h1 := ih.mpr h2
      intro l' a1 a2 v' a3
      rcases (show l' < l ∨ l' = l by omega) with q | q
      · exact h1 l' a1 q v' a3
      · subst q
        exact fun z => h l' a1 a2 v' a3 ((C l' a1 h2 v' a3).mp z)
theorem brP_same (C : ∀ l, 1 ≤ l → (∀ l', 1 ≤ l' → l' < l → ∀ v', v' < a ^ l' → ¬ H2 l' v') → ∀ v, v < a ^ l → (H1 l v ↔ H2 l v)) {l v : Nat} (h : brP H1 a l v) : brP H2 a l v := by
  obtain ⟨a1, a2, a3, a4, a5⟩ := h
  have h2 := (br_no C l).mp a4
  exact ⟨a1, a2, (C l a1 h2 v a2).mp a3, h2, fun v' hv' z => a5 v' hv' ((C l a1 h2 v' (Nat.lt_trans hv' a2)).mpr z)⟩
theorem nbP_same (C : ∀ l, 1 ≤ l → (∀ l', 1 ≤ l' → l' < l → ∀ v', v' < a ^ l' → ¬ H2 l' v') → ∀ v, v < a ^ l → (H1 l v ↔ H2 l v)) {d : Nat} (h : nbP H1 a d) : nbP H2 a d := fun l a1 a2 => (br_no C (d + 1)).mp (fun l' b1 b2 => h l' b1 (by omega)) l a1 (by omega)
theorem resP_same (C : ∀ l, 1 ≤ l → (∀ l', 1 ≤ l' → l' < l → ∀ v', v' < a ^ l' → ¬ H2 l' v') → ∀ v, v < a ^ l → (H1 l v ↔ H2 l v)) {d l v : Nat} (h : resP H1 a d l v) : resP H2 a d l v := by
  rcases h with ⟨h1, h2⟩ | ⟨h1, h2, h3⟩
  · exact Or.inl ⟨h1, brP_same C h2⟩
  · exact Or.inr ⟨h1, h2, nbP_same C h3⟩
end
/-- two TEXTS side by side: how each ends the last packet -/
theorem hwP_one (t h k n : Int) (ts : Nat → List p_Li) (M : Nat → Nat → Int) : hwP t h k n ts M 1 = (eW t h k n (ts 0) (M 0)).1 := by
  rw [hwP, if_pos (by rfl)]
theorem wdS_side {σ : Nat → Int} {ts : Nat → List p_Li} {m a : Nat} (i : Nat) : ∀ j v : Nat, (wdS (-1) σ ts m a j v).1 i = (wdS 0 σ (fun _ => ts i) 1 a j v).1 0
  | 0, _ => rfl
  | j + 1, v => by
    have ih := wdS_side (σ := σ) (ts := ts) (m := m) (a := a) i j (v / a)
    rw [wdS, wdS]
    show stM (-1) _ _ _ _ ts _ i = stM 0 _ _ _ _ (fun _ => ts i) _ 0
    unfold stM
    rw [if_pos rfl, if_neg (by decide), if_pos (by rfl), ih]
theorem last_hw {σ : Nat → Int} {ts : Nat → List p_Li} {m a : Nat} (i j v : Nat) : lastH σ (ts i) a (j + 1) v = (eW (σ (1770 + 4 * (v % a))) (σ (1770 + 4 * (v % a) + 1)) (σ (1770 + 4 * (v % a) + 2)) (σ (1770 + 4 * (v % a) + 3)) (ts i) ((wdS (-1) σ ts m a j (v / a)).1 i)).1 := by
  rw [wdS_side]
  show howV 0 σ (fun _ => ts i) 1 a j v = _
  unfold howV
  rw [hwP_one]
theorem way_iff {σ : Nat → Int} {tx ty : List p_Li} {a : Nat} (l : Nat) (hl : 1 ≤ l) (v : Nat) : hitV (-1) 0 σ (fun i => if i = 0 then tx else ty) 2 a l v ↔ wyH σ tx ty a l v := by
  obtain ⟨j, rfl⟩ : ∃ j, l = j + 1 := ⟨l - 1, by omega⟩
  have e0 : lastH σ tx a (j + 1) v = (eW (σ (1770 + 4 * (v % a))) (σ (1770 + 4 * (v % a) + 1)) (σ (1770 + 4 * (v % a) + 2)) (σ (1770 + 4 * (v % a) + 3)) tx ((wdS (-1) σ (fun i => if i = 0 then tx else ty) 2 a j (v / a)).1 0)).1 := last_hw (ts := fun i => if i = 0 then tx else ty) (m := 2) 0 j v
  have e1 : lastH σ ty a (j + 1) v = (eW (σ (1770 + 4 * (v % a))) (σ (1770 + 4 * (v % a) + 1)) (σ (1770 + 4 * (v % a) + 2)) (σ (1770 + 4 * (v % a) + 3)) ty ((wdS (-1) σ (fun i => if i = 0 then tx else ty) 2 a j (v / a)).1 1)).1 := last_hw (ts := fun i => if i = 0 then tx else ty) (m := 2) 1 j v
  rw [hitV]
  unfold wyH hitP
  rw [e0, e1]
  constructor
  · rintro (⟨-, i, i1, i2⟩ | ⟨q, -⟩)
    · rcases (show i = 0 ∨ i = 1 by omega) with z | z
      · subst z
        exact absurd rfl i2
      · subst z
        exact fun z => i2 z.symm
    · exact absurd rfl q
  · intro q
    exact Or.inl ⟨rfl, 1, by decide, fun z => q z.symm⟩
