/-- the class's reading stands at the place B of the tape T, of the length L -/
def PosR (T : Nat → Int32) (L : Nat) (σ : Sto) (B : Nat) : Prop := σ 5 1 = nI B ∧ B ≤ L ∧ σ 5 2 = nI L ∧ L ≤ 120 ∧ ∀ i, i < L → σ 6 i = T i ∧ 0 ≤ T i
def FailR (σ : Sto) (s : PS) : Prop := σ 5 3 = s.2.2 ∧ σ 5 4 = nI s.1
def fr5 (σ σ' : Sto) : Prop := ∀ k, k ≠ 5 → σ' k = σ k
theorem fr5_tr {a b c : Sto} (h1 : fr5 a b) (h2 : fr5 b c) : fr5 a c := fun k hk => (h2 k hk).trans (h1 k hk)
section RD
variable {T : Nat → Int32} {L : Nat}
theorem PosR_o {σ σ' : Sto} {B : Nat} (h : PosR T L σ B) (h5 : σ' 5 = σ 5) (h6 : σ' 6 = σ 6) : PosR T L σ' B := by
  unfold PosR
  rw [h5, h6]
  exact h
theorem PosR_adv {σ : Sto} {B k : Nat} (h : PosR T L σ B) (hk : B + k ≤ L) : PosR T L (advS σ (nI k)) (B + k) := by
  obtain ⟨h1, h2, h3, h4, h5⟩ := h
  refine ⟨?_, hk, ?_, h4, h5⟩
  · unfold advS; rw [upc_same, upd_same, h1, nI_add]
  · unfold advS; rw [upc_same, upd_ne (by decide)]; exact h3
theorem fr5_adv (σ : Sto) (k : Int32) : fr5 σ (advS σ k) := fun _ hk => upc_ne hk
theorem fr5_fail (σ : Sto) (k : Int32) : fr5 σ (failS σ k) := fun _ hk => upc_ne hk
theorem fail_R {σ : Sto} {B : Nat} (h : PosR T L σ B) (c : Int32) (R : Nat → Int32) : FailR (failS σ c) (B, R, c) := by
  unfold FailR failS
  rw [upc_same, upd_ne (show (3 : Nat) ≠ 4 by decide), upd_same, upd_same]
  exact ⟨rfl, h.1⟩
theorem run_cg {f g : Nat → Int32} : ∀ m q, (∀ i, q ≤ i → i < q + m → f i = g i) → s_run f q m = s_run g q m := by
  intro m
  induction m with
  | zero => intro q _; rfl
  | succ m ih =>
    intro q h
    simp only [s_run]
    rw [h q (Nat.le_refl _) (by omega), ih (q + 1) (fun i h1 h2 => h i (by omega) (by omega))]
theorem val_cg {f g : Nat → Int32} {q : Nat} : ∀ m, (∀ i, q ≤ i → i < q + m → f i = g i) → s_val f q m = s_val g q m := by
  intro m
  induction m with
  | zero => intro _; rfl
  | succ m ih =>
    intro h
    simp only [s_val]
    rw [ih (fun i h1 h2 => h i h1 (by omega)), h (q + m) (by omega) (by omega)]
theorem nx_R {σ : Sto} {B : Nat} (h : PosR T L σ B) : nxS σ = if B = L then -1 else T B := by
  obtain ⟨h1, h2, h3, h4, h5⟩ := h
  unfold nxS
  rw [h1, h3]
  by_cases q : B = L
  · rw [if_pos q, if_pos (by rw [q]; exact Int32.le_refl _)]
  · rw [if_neg q, if_neg (nI_ge (by omega) (by omega)), nI_clamp (by omega)]
    exact (h5 B (by omega)).1
theorem fig_R {σ : Sto} {B : Nat} (h : PosR T L σ B) : figS σ = runM T L B := by
  obtain ⟨h1, h2, h3, h4, h5⟩ := h
  unfold figS runM
  rw [h1, h3, nI_clamp (by omega), nI_clamp (by omega)]
  exact run_cg _ _ (fun i h6 h7 => (h5 i (by omega)).1)
theorem digit {m B : Nat} (h : 0 < s_run T B m) : wi (T B) 48 57 = true := by
  cases m with
  | zero => exact absurd h (Nat.not_lt_zero _)
  | succ m =>
    cases q : wi (T B) 48 57
    · rw [run_n q] at h; exact absurd h (Nat.not_lt_zero _)
    · rfl
theorem val_mv {B : Nat} (h2 : runM T L B ≤ 2) : s_val T B (runM T L B) = mvN T B (runM T L B) := by
  rcases (show runM T L B = 0 ∨ runM T L B = 1 ∨ runM T L B = 2 by omega) with q | q | q
  · rw [q]; rfl
  · rw [q]
    show (0 : Int32) * 10 + T (B + 0) - 48 = if (0 : Int32) ≤ 99 then 10 * 0 + T (B + 0) - 48 else 0
    rw [if_pos (by decide), Int32.mul_comm]
  · have hd := digit (T := T) (m := L - B) (B := B) (by unfold runM at q; omega)
    have hv := wi_in (N := 58) hd (by decide) (by decide)
    obtain ⟨e, hl⟩ := vp_to hv (by decide)
    simp only [wi, Bool.and_eq_true, decide_eq_true_eq] at hd
    have h48 : 48 ≤ (T B).toNatClampNeg := by
      have := hd.1
      rw [e] at this
      exact (nI_leI (a := 48) (by decide) (by omega)).mp this
    have e1 : mvN T B 1 = T B - 48 := by
      show (if (0 : Int32) ≤ 99 then 10 * 0 + T (B + 0) - 48 else 0) = _
      rw [if_pos (by decide), Int32.mul_zero, Int32.zero_add]
      rfl
    have e2 : s_val T B 1 = T B - 48 := by
      show (0 : Int32) * 10 + T (B + 0) - 48 = _
      rw [Int32.zero_mul, Int32.zero_add]
      rfl
    have h9 : T B - 48 ≤ 99 := by
      rw [e, show (48 : Int32) = nI 48 from rfl, pk_sub h48]
      exact nI_le (b := 99) (by omega) (by decide)
    rw [q]
    show s_val T B 1 * 10 + T (B + 1) - 48 = if mvN T B 1 ≤ 99 then 10 * mvN T B 1 + T (B + 1) - 48 else mvN T B 1
    rw [e1, e2, if_pos h9, Int32.mul_comm]
theorem lt_R {σ : Sto} {B : Nat} (h : PosR T L σ B) {c : Int32} (hc1 : wi c 97 122 = true ∨ c = 44 ∨ c = 59) (hc2 : wi c 48 57 = false) (hc3 : ¬ c = -1) : (isLt T L B c = true ↔ nxS σ = c) ∧ (isLt T L B c = true → (tk3 T L B).1 = B + 1 ∧ B + 1 ≤ L) := by
  rw [nx_R h]
  unfold isLt tk3
  by_cases q : 0 < runM T L B
  · have hd := digit (T := T) (m := L - B) (B := B) q
    have hBL : ¬ B = L := fun e => by unfold runM at q; rw [e, Nat.sub_self] at q; exact absurd q (Nat.not_lt_zero _)
    rw [if_pos q, if_neg hBL]
    have hf : (((if runM T L B ≤ 2 then (2 : Int32) else 0) == 1) && (mvN T B (runM T L B) == c)) = false := by
      have : ((if runM T L B ≤ 2 then (2 : Int32) else 0) == 1) = false := by split <;> rfl
      rw [this, Bool.false_and]
    refine ⟨⟨fun z => absurd (hf.symm.trans z) (by decide), fun z => ?_⟩, fun z => absurd (hf.symm.trans z) (by decide)⟩
    rw [z, hc2] at hd
    exact absurd hd (by decide)
  · rw [if_neg q]
    by_cases e : B = L
    · rw [if_pos e, if_pos e]
      refine ⟨⟨fun z => absurd z ?_, fun z => absurd z.symm hc3⟩, fun z => absurd z ?_⟩
      · show ¬ (((3 : Int32) == 1) && ((0 : Int32) == c)) = true
        rw [show ((3 : Int32) == 1) = false from rfl, Bool.false_and]
        decide
      · show ¬ (((3 : Int32) == 1) && ((0 : Int32) == c)) = true
        rw [show ((3 : Int32) == 1) = false from rfl, Bool.false_and]
        decide
    · rw [if_neg e, if_neg e]
      have hB := h.2.1
      refine ⟨⟨fun z => ?_, fun z => ?_⟩, fun _ => ⟨rfl, by omega⟩⟩
      · rw [Bool.and_eq_true] at z
        exact eq_of_beq z.2
      · show (((if wi (T B) 97 122 = true ∨ T B = 44 ∨ T B = 59 then (1 : Int32) else 0) == 1) && (T B == c)) = true
        rw [z, if_pos hc1, beq_self_eq_true, beq_self_eq_true]
        rfl
/-- a sign, on both sides -/
theorem sgn {σ : Sto} {B : Nat} (h : PosR T L σ B) (c : Int32) (hc1 : wi c 97 122 = true ∨ c = 44 ∨ c = 59) (hc2 : wi c 48 57 = false) (hc3 : ¬ c = -1) (R : Nat → Int32) (w : Int32) :
    (∃ σ' B', s_sign σ c = (true, σ') ∧ p_takes T L c (B, R, w) = (true, (B', R, w)) ∧ PosR T L σ' B' ∧ fr5 σ σ') ∨
    (∃ σ' s', s_sign σ c = (false, σ') ∧ p_takes T L c (B, R, w) = (false, s') ∧ FailR σ' s' ∧ fr5 σ σ') := by
  obtain ⟨k1, k2⟩ := lt_R h hc1 hc2 hc3
  unfold s_sign p_takes
  by_cases q : isLt T L B c = true
  · obtain ⟨k3, k4⟩ := k2 q
    rw [if_pos (k1.mp q), if_neg (by show ¬ isLt T L B c = false; rw [q]; decide)]
    refine Or.inl ⟨_, _, rfl, rfl, ?_, fr5_adv σ 1⟩
    show PosR T L (advS σ 1) (tk3 T L B).1
    rw [k3]
    exact PosR_adv h k4
  · rw [if_neg (fun z => q (k1.mpr z)), if_pos (by show isLt T L B c = false; simpa using q)]
    exact Or.inr ⟨_, _, rfl, rfl, fail_R h 1 R, fr5_fail σ 1⟩
/-- a number, on both sides -/
theorem nm1 {σ : Sto} {B : Nat} (h : PosR T L σ B) (lo hi : Int32) (hlo : 0 ≤ lo) :
    (∃ x σ1, s_num σ lo hi = (x, σ1) ∧ ¬ x = -1 ∧ (tk3 T L B).2.1 = 2 ∧ (tk3 T L B).2.2 = x ∧ wi x lo hi = true ∧ PosR T L σ1 (tk3 T L B).1 ∧ fr5 σ σ1) ∨
    (∃ σ1, s_num σ lo hi = (-1, σ1) ∧ (((tk3 T L B).2.1 = 2 ∧ wi (tk3 T L B).2.2 lo hi = false ∧ ∀ R, FailR σ1 (B, R, 2)) ∨ (¬ (tk3 T L B).2.1 = 2 ∧ ∀ R, FailR σ1 (B, R, 1))) ∧ fr5 σ σ1) := by
  have hf := fig_R h
  have hrl := runM_le T h.2.1
  have hBL := h.2.1
  have hL := h.2.2.2.1
  unfold s_num valS
  rw [hf]
  by_cases q0 : runM T L B = 0
  · rw [if_pos (Or.inl q0)]
    refine Or.inr ⟨_, rfl, Or.inr ⟨?_, fun R => fail_R h 1 R⟩, fr5_fail σ 1⟩
    unfold tk3
    rw [if_neg (by omega)]
    split
    · show ¬ (3 : Int32) = 2; decide
    · show ¬ (if wi (T B) 97 122 = true ∨ T B = 44 ∨ T B = 59 then (1 : Int32) else 0) = 2
      split <;> decide
  · by_cases q2 : 2 < runM T L B
    · rw [if_pos (Or.inr q2)]
      refine Or.inr ⟨_, rfl, Or.inr ⟨?_, fun R => fail_R h 1 R⟩, fr5_fail σ 1⟩
      unfold tk3
      rw [if_pos (by omega)]
      show ¬ (if runM T L B ≤ 2 then (2 : Int32) else 0) = 2
      rw [if_neg (by omega)]
      decide
    · rw [if_neg (fun z => z.elim q0 q2)]
      have et : tk3 T L B = (B + runM T L B, 2, mvN T B (runM T L B)) := by
        unfold tk3
        rw [if_pos (by omega), if_pos (by omega)]
      have ev : s_val (σ 6) ((σ 5 1).toNatClampNeg) (runM T L B) = mvN T B (runM T L B) := by
        rw [h.1, nI_clamp (by omega), ← val_mv (by omega)]
        exact val_cg _ (fun i h1 h2 => (h.2.2.2.2 i (by omega)).1)
      rw [ev, et]
      generalize mvN T B (runM T L B) = x
      by_cases q : wi x lo hi = true
      · have hq := q
        simp only [wi, Bool.and_eq_true, decide_eq_true_eq] at hq
        rw [if_neg (fun z => z.elim (fun z => absurd hq.1 (Int32.not_le.mpr z)) (fun z => absurd hq.2 (Int32.not_le.mpr z)))]
        refine Or.inl ⟨x, _, rfl, ?_, rfl, rfl, q, PosR_adv h hrl, fr5_adv σ _⟩
        intro e
        rw [e] at hq
        exact absurd (Int32.le_trans hlo hq.1) (by decide)
      · have q' : wi x lo hi = false := by simpa using q
        rw [if_pos (by
          simp only [wi, Bool.and_eq_false_iff, decide_eq_false_iff_not] at q'
          exact q'.imp Int32.not_le.mp Int32.not_le.mp)]
        exact Or.inr ⟨_, rfl, Or.inl ⟨rfl, q', fun R => fail_R h 2 R⟩, fr5_fail σ 2⟩
/-- a number and the sign behind it, on both sides -/
theorem nmb {σ : Sto} {B : Nat} (h : PosR T L σ B) (lo hi : Int32) (hlo : 0 ≤ lo) (c : Int32) (hc1 : wi c 97 122 = true ∨ c = 44 ∨ c = 59) (hc2 : wi c 48 57 = false) (hc3 : ¬ c = -1) (idx : Nat) (R : Nat → Int32) (w : Int32) :
    (∃ x σ1 σ2 B', s_num σ lo hi = (x, σ1) ∧ ¬ x = -1 ∧ s_sign σ1 c = (true, σ2) ∧ p_num T L lo hi idx c (B, R, w) = (true, (B', upd R idx x, w)) ∧ wi x lo hi = true ∧ PosR T L σ2 B' ∧ fr5 σ σ2 ∧ fr5 σ σ1) ∨
    (∃ x σ1 σ2 s', s_num σ lo hi = (x, σ1) ∧ ¬ x = -1 ∧ s_sign σ1 c = (false, σ2) ∧ p_num T L lo hi idx c (B, R, w) = (false, s') ∧ FailR σ2 s' ∧ fr5 σ σ2) ∨
    (∃ σ1 s', s_num σ lo hi = (-1, σ1) ∧ p_num T L lo hi idx c (B, R, w) = (false, s') ∧ FailR σ1 s' ∧ fr5 σ σ1) := by
  rcases nm1 h lo hi hlo with ⟨x, σ1, e1, n1, t1, t2, hw, p1, f1⟩ | ⟨σ1, e1, hr, f1⟩
  · have ep : p_num T L lo hi idx c (B, R, w) = p_takes T L c ((tk3 T L B).1, upd R idx x, w) := by
      unfold p_num
      show (if (tk3 T L B).2.1 = 2 then (if wi (tk3 T L B).2.2 lo hi = false then (false, (B, R, (2 : Int32))) else p_takes T L c ((tk3 T L B).1, upd R idx (tk3 T L B).2.2, w)) else (false, (B, R, (1 : Int32)))) = _
      rw [if_pos t1, t2, if_neg (by rw [hw]; decide)]
    rcases sgn p1 c hc1 hc2 hc3 (upd R idx x) w with ⟨σ2, B', e2, e3, p2, f2⟩ | ⟨σ2, s', e2, e3, p2, f2⟩
    · exact Or.inl ⟨x, σ1, σ2, B', e1, n1, e2, ep.trans e3, hw, p2, fr5_tr f1 f2, f1⟩
    · exact Or.inr (Or.inl ⟨x, σ1, σ2, s', e1, n1, e2, ep.trans e3, p2, fr5_tr f1 f2⟩)
  · refine Or.inr (Or.inr ?_)
    rcases hr with ⟨t1, t2, q⟩ | ⟨t1, q⟩
    · refine ⟨σ1, (B, R, 2), e1, ?_, q R, f1⟩
      unfold p_num
      show (if (tk3 T L B).2.1 = 2 then (if wi (tk3 T L B).2.2 lo hi = false then (false, (B, R, (2 : Int32))) else _) else (false, (B, R, (1 : Int32)))) = _
      rw [if_pos t1, if_pos t2]
    · refine ⟨σ1, (B, R, 1), e1, ?_, q R, f1⟩
      unfold p_num
      show (if (tk3 T L B).2.1 = 2 then (if wi (tk3 T L B).2.2 lo hi = false then (false, (B, R, (2 : Int32))) else _) else (false, (B, R, (1 : Int32)))) = _
      rw [if_neg t1]
theorem law_R {σ : Sto} {R : Nat → Int32} {w : Int32} (h : PosR T L σ 0) :
    (∃ σ' s', s_law σ = (false, σ') ∧ p_head T L (0, R, w) = (false, s') ∧ FailR σ' s' ∧ fr5 σ σ') ∨
    (∃ σ1 B x0 x1 x2 x3, s_law σ = (true, upc σ1 17 (upd (upd (upd (upd (σ1 17) 0 x0) 1 x1) 2 x2) 3 x3)) ∧ p_head T L (0, R, w) = (true, (B, upd (upd (upd (upd R 0 x0) 1 x1) 2 x2) 3 x3, w)) ∧ PosR T L σ1 B ∧ fr5 σ σ1 ∧ wi x0 1 6 = true ∧ wi x1 0 (x0 - 1) = true ∧ wi x2 0 40 = true ∧ wi x3 0 99 = true) := by
  rcases sgn h 110 (Or.inl (by decide)) (by decide) (by decide) R w with ⟨σa, Ba, eA, eA', pA, fA⟩ | ⟨σa, s', eA, eA', qA, fA⟩
  · rcases nmb pA 1 6 (by decide) 44 (Or.inr (Or.inl rfl)) (by decide) (by decide) 0 R w with ⟨x0, σb1, σb, Bb, eB1, nB, eB2, eB', wB, pB, fB, fB1⟩ | ⟨x0, σb1, σb, s', eB1, nB, eB2, eB', qB, fB⟩ | ⟨σb, s', eB1, eB', qB, fB⟩
    · rcases nmb pB 0 (x0 - 1) (by decide) 44 (Or.inr (Or.inl rfl)) (by decide) (by decide) 1 (upd R 0 x0) w with ⟨x1, σc1, σc, Bc, eC1, nC, eC2, eC', wC, pC, fC, fC1⟩ | ⟨x1, σc1, σc, s', eC1, nC, eC2, eC', qC, fC⟩ | ⟨σc, s', eC1, eC', qC, fC⟩
      · rcases nmb pC 0 40 (by decide) 44 (Or.inr (Or.inl rfl)) (by decide) (by decide) 2 (upd (upd R 0 x0) 1 x1) w with ⟨x2, σd1, σd, Bd, eD1, nD, eD2, eD', wD, pD, fD, fD1⟩ | ⟨x2, σd1, σd, s', eD1, nD, eD2, eD', qD, fD⟩ | ⟨σd, s', eD1, eD', qD, fD⟩
        · rcases nmb pD 0 99 (by decide) 59 (Or.inr (Or.inr rfl)) (by decide) (by decide) 3 (upd (upd (upd R 0 x0) 1 x1) 2 x2) w with ⟨x3, σe1, σe, Be, eE1, nE, eE2, eE', wE, pE, fE, fE1⟩ | ⟨x3, σe1, σe, s', eE1, nE, eE2, eE', qE, fE⟩ | ⟨σe, s', eE1, eE', qE, fE⟩
          · exact Or.inr ⟨σe, Be, x0, x1, x2, x3, by simp only [s_law, eA, eB1, nB, eB2, eC1, nC, eC2, eD1, nD, eD2, eE1, nE, eE2, if_true, if_false, Bool.true_eq_false, Bool.false_eq_true, reduceIte, reduceCtorEq], by simp only [p_head, eA', eB', eC', eD', eE', upd_same, if_true, if_false, Bool.true_eq_false, Bool.false_eq_true, reduceIte, reduceCtorEq], pE, (fr5_tr (fr5_tr (fr5_tr (fr5_tr fA fB) fC) fD) fE), wB, wC, wD, wE⟩
          · exact Or.inl ⟨σe, s', by simp only [s_law, eA, eB1, nB, eB2, eC1, nC, eC2, eD1, nD, eD2, eE1, nE, eE2, if_true, if_false, Bool.true_eq_false, Bool.false_eq_true, reduceIte, reduceCtorEq], by simp only [p_head, eA', eB', eC', eD', eE', upd_same, if_true, if_false, Bool.true_eq_false, Bool.false_eq_true, reduceIte, reduceCtorEq], qE, (fr5_tr (fr5_tr (fr5_tr (fr5_tr fA fB) fC) fD) fE)⟩
          · exact Or.inl ⟨σe, s', by simp only [s_law, eA, eB1, nB, eB2, eC1, nC, eC2, eD1, nD, eD2, eE1, if_true, if_false, Bool.true_eq_false, Bool.false_eq_true, reduceIte, reduceCtorEq], by simp only [p_head, eA', eB', eC', eD', eE', upd_same, if_true, if_false, Bool.true_eq_false, Bool.false_eq_true, reduceIte, reduceCtorEq], qE, (fr5_tr (fr5_tr (fr5_tr (fr5_tr fA fB) fC) fD) fE)⟩
        · exact Or.inl ⟨σd, s', by simp only [s_law, eA, eB1, nB, eB2, eC1, nC, eC2, eD1, nD, eD2, if_true, if_false, Bool.true_eq_false, Bool.false_eq_true, reduceIte, reduceCtorEq], by simp only [p_head, eA', eB', eC', eD', upd_same, if_true, if_false, Bool.true_eq_false, Bool.false_eq_true, reduceIte, reduceCtorEq], qD, (fr5_tr (fr5_tr (fr5_tr fA fB) fC) fD)⟩
        · exact Or.inl ⟨σd, s', by simp only [s_law, eA, eB1, nB, eB2, eC1, nC, eC2, eD1, if_true, if_false, Bool.true_eq_false, Bool.false_eq_true, reduceIte, reduceCtorEq], by simp only [p_head, eA', eB', eC', eD', upd_same, if_true, if_false, Bool.true_eq_false, Bool.false_eq_true, reduceIte, reduceCtorEq], qD, (fr5_tr (fr5_tr (fr5_tr fA fB) fC) fD)⟩
      · exact Or.inl ⟨σc, s', by simp only [s_law, eA, eB1, nB, eB2, eC1, nC, eC2, if_true, if_false, Bool.true_eq_false, Bool.false_eq_true, reduceIte, reduceCtorEq], by simp only [p_head, eA', eB', eC', upd_same, if_true, if_false, Bool.true_eq_false, Bool.false_eq_true, reduceIte, reduceCtorEq], qC, (fr5_tr (fr5_tr fA fB) fC)⟩
      · exact Or.inl ⟨σc, s', by simp only [s_law, eA, eB1, nB, eB2, eC1, if_true, if_false, Bool.true_eq_false, Bool.false_eq_true, reduceIte, reduceCtorEq], by simp only [p_head, eA', eB', eC', upd_same, if_true, if_false, Bool.true_eq_false, Bool.false_eq_true, reduceIte, reduceCtorEq], qC, (fr5_tr (fr5_tr fA fB) fC)⟩
    · exact Or.inl ⟨σb, s', by simp only [s_law, eA, eB1, nB, eB2, if_true, if_false, Bool.true_eq_false, Bool.false_eq_true, reduceIte, reduceCtorEq], by simp only [p_head, eA', eB', upd_same, if_true, if_false, Bool.true_eq_false, Bool.false_eq_true, reduceIte, reduceCtorEq], qB, (fr5_tr fA fB)⟩
    · exact Or.inl ⟨σb, s', by simp only [s_law, eA, eB1, if_true, if_false, Bool.true_eq_false, Bool.false_eq_true, reduceIte, reduceCtorEq], by simp only [p_head, eA', eB', upd_same, if_true, if_false, Bool.true_eq_false, Bool.false_eq_true, reduceIte, reduceCtorEq], qB, (fr5_tr fA fB)⟩
  · exact Or.inl ⟨σa, s', by simp only [s_law, eA, if_true, if_false, Bool.true_eq_false, Bool.false_eq_true, reduceIte, reduceCtorEq], by simp only [p_head, eA', if_true, if_false, Bool.true_eq_false, Bool.false_eq_true, reduceIte, reduceCtorEq], qA, fA⟩
end RD
