def LoopR (cl : Bool × Sto) (md : Bool × PS) (σ0 : Sto) : Prop := cl.1 = md.1 ∧ (md.1 = false → FailR cl.2 md.2) ∧ (md.1 = true → HR (vw cl.2 17) md.2.2.1 ∧ 0 < md.2.2.1 0) ∧ fr17 σ0 cl.2
theorem LoopR_tr {cl : Bool × Sto} {md : Bool × PS} {σ0 σ1 : Sto} (h1 : fr17 σ0 σ1) (h : LoopR cl md σ1) : LoopR cl md σ0 := ⟨h.1, h.2.1, h.2.2.1, fr17_tr h1 h.2.2.2⟩
section RD3
variable {T : Nat → Int32} {L : Nat}
theorem tok3 {B : Nat} : (tk3 T L B).2.1 = 3 ↔ B = L := by
  unfold tk3
  by_cases q : 0 < runM T L B
  · rw [if_pos q]
    constructor
    · intro z
      have z : (if runM T L B ≤ 2 then (2 : Int32) else 0) = 3 := z
      split at z <;> exact absurd z (by decide)
    · intro e
      unfold runM at q
      rw [e, Nat.sub_self] at q
      exact absurd q (Nat.not_lt_zero _)
  · rw [if_neg q]
    by_cases e : B = L
    · rw [if_pos e]; exact ⟨fun _ => e, fun _ => rfl⟩
    · rw [if_neg e]
      refine ⟨fun z => ?_, fun z => absurd z e⟩
      have z : (if wi (T B) 97 122 = true ∨ T B = 44 ∨ T B = 59 then (1 : Int32) else 0) = 3 := z
      split at z <;> exact absurd z (by decide)
theorem nx_end {σ : Sto} {B : Nat} (h : PosR T L σ B) : nxS σ = -1 ↔ B = L := by
  rw [nx_R h]
  by_cases e : B = L
  · rw [if_pos e]; exact ⟨fun _ => e, fun _ => rfl⟩
  · rw [if_neg e]
    have hB := h.2.1
    refine ⟨fun z => ?_, fun z => absurd z e⟩
    have := (h.2.2.2.2 B (by omega)).2
    rw [z] at this
    exact absurd this (by decide)
theorem loop_s (n : Nat) (s : PS) : p_loop T L (n + 1) s = if (tk3 T L s.1).2.1 = 3 then (true, s) else if (p_item T L s).1 = false then (false, (p_item T L s).2) else p_loop T L n (p_item T L s).2 := rfl
theorem inv_R {σ : Sto} {B : Nat} {R : Nat → Int32} {w : Int32} (h : PosR T L σ B) (hr : HR (vw σ 17) R) : invR L (B, R, w) := ⟨h.2.1, hr.1.1.2.1.2.2.1, hr.1.1.2.1.2.2.2⟩
theorem pos_tn {x : Int32} {K : Nat} (hK : K < 2 ^ 31) (h : vp_in x K) : 0 < x ↔ 0 < x.toNatClampNeg := by
  obtain ⟨e, hl⟩ := vp_to h hK
  constructor
  · intro q
    rw [e] at q
    exact (nI_ltI (a := 0) (by decide) (by omega)).mp q
  · intro q
    rw [e]
    exact nI_lt (a := 0) q (by omega)
theorem item_0 {σ : Sto} {B : Nat} {R : Nat → Int32} {w : Int32} (h : PosR T L σ B) (hz : s_kl (nxS σ) = 0) (h0 : ¬ 0 < R 5 → ¬ nxS σ = 100) : p_item T L (B, R, w) = (false, (B, R, 1)) := by
  unfold p_item
  rw [if_pos (show pk T L B = 0 by rw [pk_kl h]; exact hz)]
  by_cases c : isLt T L B 100 = false
  · rw [if_pos c]
  · rw [if_neg c]
    have nx := (lt_R h (c := 100) (Or.inl (by decide)) (by decide) (by decide)).1.mp (by simpa using c)
    have h5 : 0 < R 5 := by
      rcases Decidable.em (0 < R 5) with q | q
      · exact q
      · exact absurd nx (h0 q)
    unfold p_door
    show (if R 4 = 8 ∨ 0 < R 5 then (false, (B, R, if 0 < R 5 then (1 : Int32) else 3)) else _) = _
    rw [if_pos (Or.inr h5), if_pos h5]
theorem fail_L {σ : Sto} {B : Nat} {R : Nat → Int32} (h : PosR T L σ B) (c : Int32) : LoopR (false, failS σ c) (false, (B, R, c)) σ := ⟨rfl, fun _ => fail_R h c R, fun q => (Bool.false_ne_true q).elim, fr17_5 (fr5_fail σ c)⟩
theorem sits_R : ∀ (m n : Nat) (σ : Sto) (B : Nat) (R : Nat → Int32) (w : Int32), PosR T L σ B → HR (vw σ 17) R → 0 < R 0 → (R 5).toNatClampNeg + m = 5 → (¬ 0 < R 5 → ¬ nxS σ = 100) → L - B < n → LoopR (s_sitters σ m) (p_loop T L n (B, R, w)) σ := by
  intro m
  induction m with
  | zero =>
    intro n σ B R w h hr hp hm h0 hn
    obtain ⟨n, rfl⟩ : ∃ k, n = k + 1 := ⟨n - 1, by omega⟩
    rw [s_sitters_z, loop_s]
    by_cases e : B = L
    · rw [if_pos ((nx_end h).mpr e), if_pos (show (tk3 T L B).2.1 = 3 from tok3.mpr e)]
      exact ⟨rfl, fun q => (Bool.false_ne_true q.symm).elim, fun _ => ⟨hr, hp⟩, fun _ _ _ => rfl⟩
    · rw [if_neg (fun z => e ((nx_end h).mp z)), if_neg (show ¬ (tk3 T L B).2.1 = 3 from fun z => e (tok3.mp z))]
      by_cases z : s_kl (nxS σ) = 0
      · rw [if_pos z, item_0 h z h0, if_pos rfl]
        exact fail_L h 1
      · have hpk : ¬ pk T L B = 0 := by rw [pk_kl h]; exact z
        have hi : p_item T L (B, R, w) = (false, (B, R, 3)) := by
          unfold p_item
          rw [if_neg (show ¬ pk T L B = 0 from hpk)]
          unfold p_sit
          show (if R 5 = 5 then (false, (B, R, (3 : Int32))) else _) = _
          rw [if_pos (by rw [(wfm_n hr.1.1.2).2.2.2.1, show (R 5).toNatClampNeg = 5 by omega]; rfl)]
        rw [if_neg z, hi, if_pos rfl]
        exact fail_L h 3
  | succ m ih =>
    intro n σ B R w h hr hp hm h0 hn
    obtain ⟨n, rfl⟩ : ∃ k, n = k + 1 := ⟨n - 1, by omega⟩
    rw [s_sitters_s, loop_s]
    by_cases e : B = L
    · rw [if_pos ((nx_end h).mpr e), if_pos (show (tk3 T L B).2.1 = 3 from tok3.mpr e)]
      exact ⟨rfl, fun q => (Bool.false_ne_true q.symm).elim, fun _ => ⟨hr, hp⟩, fun _ _ _ => rfl⟩
    · rw [if_neg (fun z => e ((nx_end h).mp z)), if_neg (show ¬ (tk3 T L B).2.1 = 3 from fun z => e (tok3.mp z))]
      by_cases z : s_kl (nxS σ) = 0
      · have hs : s_sitter σ = (false, failS σ 1) := by unfold s_sitter; rw [if_pos z]
        rw [hs, if_pos rfl, item_0 h z h0, if_pos rfl]
        exact fail_L h 1
      · have hpk : ¬ pk T L B = 0 := by rw [pk_kl h]; exact z
        have hi : p_item T L (B, R, w) = p_sit T L (pk T L B) (B, R, w) := by
          unfold p_item
          rw [if_neg (show ¬ pk T L B = 0 from hpk)]
        have hinv := item_inv (T := T) (inv_R (w := w) h hr)
        rw [hi] at hinv ⊢
        rcases sitr_R (w := w) h hr hp (by omega) z with ⟨σ', s', e1, e2, q, f⟩ | ⟨σ', s', e1, e2, q1, q2, q3, q4, f⟩
        · rw [e1, e2, if_pos rfl, if_pos rfl]
          exact ⟨rfl, fun _ => q, fun q => (Bool.false_ne_true q).elim, f⟩
        · rw [e2] at hinv
          have hadv := (hinv (fun q => Bool.false_ne_true q.symm)).2
          rw [e1, e2, if_neg (fun q => Bool.false_ne_true q.symm), if_neg (fun q => Bool.false_ne_true q.symm)]
          obtain ⟨B', R', w'⟩ := s'
          have q3 : R' 0 = R 0 := q3
          have q4 : (R' 5).toNatClampNeg = (R 5).toNatClampNeg + 1 := q4
          have hadv : B < B' := hadv
          refine LoopR_tr f (ih n σ' B' R' w' q1 q2 (by rw [q3]; exact hp) (by omega) (fun z => absurd ((pos_tn (K := 6) (by decide) q2.1.1.2.1.2.2.2).mpr (by omega)) z) (by have := h.2.1; omega))
theorem doors_R : ∀ (m n : Nat) (σ : Sto) (B : Nat) (R : Nat → Int32) (w : Int32), PosR T L σ B → HR (vw σ 17) R → 0 < R 0 → (R 4).toNatClampNeg + m = 8 → (R 5).toNatClampNeg = 0 → L - B < n → LoopR (if (s_doors σ m).1 = false then (false, (s_doors σ m).2) else s_sitters (s_doors σ m).2 5) (p_loop T L n (B, R, w)) σ := by
  intro m
  induction m with
  | zero =>
    intro n σ B R w h hr hp hm h5 hn
    have hn5 : ¬ 0 < R 5 := fun z => by have := (pos_tn (K := 6) (by decide) hr.1.1.2.1.2.2.2).mp z; omega
    rw [s_doors_z]
    by_cases e : nxS σ = 100
    · obtain ⟨n, rfl⟩ : ∃ k, n = k + 1 := ⟨n - 1, by omega⟩
      have hB : ¬ B = L := fun z => by rw [(nx_end h).mpr z] at e; exact absurd e (by decide)
      have hi : p_item T L (B, R, w) = (false, (B, R, 3)) := by
        unfold p_item
        rw [if_pos (show pk T L B = 0 by rw [pk_kl h, e]; decide), if_neg (show ¬ isLt T L B 100 = false by rw [(lt_R h (c := 100) (Or.inl (by decide)) (by decide) (by decide)).1.mpr e]; decide)]
        unfold p_door
        show (if R 4 = 8 ∨ 0 < R 5 then (false, (B, R, if 0 < R 5 then (1 : Int32) else 3)) else _) = _
        rw [if_pos (Or.inl (by rw [(wfm_n hr.1.1.2).2.2.1.1, show (R 4).toNatClampNeg = 8 by omega]; rfl)), if_neg hn5]
      rw [if_pos e, if_pos rfl, loop_s, if_neg (show ¬ (tk3 T L B).2.1 = 3 from fun z => hB (tok3.mp z)), hi, if_pos rfl]
      exact fail_L h 3
    · rw [if_neg e, if_neg (fun q => Bool.false_ne_true q.symm)]
      exact sits_R 5 n σ B R w h hr hp (by omega) (fun _ => e) hn
  | succ m ih =>
    intro n σ B R w h hr hp hm h5 hn
    have hn5 : ¬ 0 < R 5 := fun z => by have := (pos_tn (K := 6) (by decide) hr.1.1.2.1.2.2.2).mp z; omega
    rw [s_doors_s]
    by_cases e : nxS σ = 100
    · obtain ⟨n, rfl⟩ : ∃ k, n = k + 1 := ⟨n - 1, by omega⟩
      have hB : ¬ B = L := fun z => by rw [(nx_end h).mpr z] at e; exact absurd e (by decide)
      have hi : p_item T L (B, R, w) = p_door T L (B, R, w) := by
        unfold p_item
        rw [if_pos (show pk T L B = 0 by rw [pk_kl h, e]; decide), if_neg (show ¬ isLt T L B 100 = false by rw [(lt_R h (c := 100) (Or.inl (by decide)) (by decide) (by decide)).1.mpr e]; decide)]
      have hinv := item_inv (T := T) (inv_R (w := w) h hr)
      rw [if_pos e, loop_s, if_neg (show ¬ (tk3 T L B).2.1 = 3 from fun z => hB (tok3.mp z))]
      rw [hi] at hinv ⊢
      rcases door_R (w := w) h hr (by omega) hn5 e with ⟨σ', s', e1, e2, q, f⟩ | ⟨σ', s', e1, e2, q1, q2, q3, q4, q5, f⟩
      · rw [e1, e2, if_pos rfl, if_pos rfl, if_pos rfl]
        exact ⟨rfl, fun _ => q, fun q => (Bool.false_ne_true q).elim, f⟩
      · rw [e2] at hinv
        have hadv := (hinv (fun q => Bool.false_ne_true q.symm)).2
        have ed : (if (s_door σ).1 = false then (false, (s_door σ).2) else s_doors (s_door σ).2 m) = s_doors σ' m := by rw [e1, if_neg (fun q => Bool.false_ne_true q.symm)]
        rw [ed, e2, if_neg (show ¬ (true, s').1 = false from fun q => Bool.false_ne_true q.symm)]
        obtain ⟨B', R', w'⟩ := s'
        have q3 : R' 0 = R 0 := q3
        have q4 : (R' 4).toNatClampNeg = (R 4).toNatClampNeg + 1 := q4
        have q5 : R' 5 = R 5 := q5
        have hadv : B < B' := hadv
        exact LoopR_tr f (ih n σ' B' R' w' q1 q2 (by rw [q3]; exact hp) (by omega) (by rw [q5]; exact h5) (by have := h.2.1; omega))
    · rw [if_neg e, if_neg (fun q => Bool.false_ne_true q.symm)]
      exact sits_R 5 n σ B R w h hr hp (by omega) (fun _ => e) hn
end RD3
theorem HR_law {σ : Sto} {Z : Nat → Int32} (h4 : σ 17 4 = 0) (h5 : σ 17 5 = 0) (h6 : σ 17 6 = 0) (h7 : σ 17 7 = 0) (hc : ∀ r, r < 6 → σ 23 r = 0) (hZ : ∀ j, j < 52 → Z j = 0) {x0 x1 x2 x3 : Int32} (w0 : wi x0 1 6 = true) (w1 : wi x1 0 (x0 - 1) = true) (w2 : wi x2 0 40 = true) : HR (vw (upc σ 17 (upd (upd (upd (upd (σ 17) 0 x0) 1 x1) 2 x2) 3 x3)) 17) (upd (upd (upd (upd Z 0 x0) 1 x1) 2 x2) 3 x3) ∧ 0 < x0 := by
  have v0 : vp_in x0 7 := wi_in (N := 7) w0 (by decide) (by decide)
  have v1 : vp_in x1 6 := wi_m1 (N := 6) (by decide) v0 w1
  have p0 : 0 < x0 := by
    simp only [wi, Bool.and_eq_true, decide_eq_true_eq] at w0
    exact Int32.lt_of_lt_of_le (by decide) w0.1
  have c0 : ∀ j, vw (upc σ 17 (upd (upd (upd (upd (σ 17) 0 x0) 1 x1) 2 x2) 3 x3)) 17 0 j = upd (upd (upd (upd (σ 17) 0 x0) 1 x1) 2 x2) 3 x3 j := fun j => by
    show upc σ 17 _ 17 j = _
    rw [upc_same]
  have ck : ∀ k, 1 ≤ k → vw (upc σ 17 (upd (upd (upd (upd (σ 17) 0 x0) 1 x1) 2 x2) 3 x3)) 17 k = σ (17 + k) := fun k q => by
    show upc σ 17 _ (17 + k) = _
    rw [upc_ne (by omega)]
  obtain ⟨V, hV⟩ : ∃ V, upd (upd (upd (upd (σ 17) 0 x0) 1 x1) 2 x2) 3 x3 = V := ⟨_, rfl⟩
  obtain ⟨R, hR⟩ : ∃ R, upd (upd (upd (upd Z 0 x0) 1 x1) 2 x2) 3 x3 = R := ⟨_, rfl⟩
  rw [hV] at c0 ck
  have a0 : V 0 = x0 ∧ V 1 = x1 ∧ V 2 = x2 ∧ V 3 = x3 ∧ V 4 = 0 ∧ V 5 = 0 ∧ V 6 = 0 ∧ V 7 = 0 := by
    rw [← hV]
    exact ⟨rfl, rfl, rfl, rfl, h4, h5, h6, h7⟩
  have r0 : R 0 = x0 ∧ R 1 = x1 ∧ R 2 = x2 ∧ R 3 = x3 := by
    rw [← hR]
    exact ⟨rfl, rfl, rfl, rfl⟩
  have rz : ∀ j, 4 ≤ j → j < 52 → R j = 0 := fun j q1 q2 => by
    rw [← hR, upd_ne (by omega), upd_ne (by omega), upd_ne (by omega), upd_ne (by omega)]
    exact hZ j q2
  have vz : ∀ K, 0 < K → K < 2 ^ 31 → vp_in 0 K := fun K q1 q2 => vp_in_nI (n := 0) q1 q2
  rw [hR, hV]
  refine ⟨⟨⟨⟨?_, ?_⟩, ?_, ?_, ⟨?_, ?_⟩, ?_, ?_⟩, ?_, ?_⟩, p0⟩
  · unfold WFV
    rw [c0, c0, c0, c0, a0.1, a0.2.1, a0.2.2.2.2.2.1, a0.2.2.2.2.2.2.2]
    exact ⟨⟨v0, v1, vz 9 (by decide) (by decide), vz 6 (by decide) (by decide)⟩, fun d q => absurd q (Nat.not_lt_zero _), fun d q => absurd q (Nat.not_lt_zero _)⟩
  · unfold WFM
    rw [r0.1, r0.2.1, rz 4 (by decide) (by decide), rz 5 (by decide) (by decide)]
    refine ⟨⟨v0, v1, vz 9 (by decide) (by decide), vz 6 (by decide) (by decide)⟩, fun d q => ?_, fun d q => ?_⟩
    · rw [rz (13 + d) (by omega) (by omega), rz (21 + d) (by omega) (by omega)]
      exact ⟨vz 6 (by decide) (by decide), vz 6 (by decide) (by decide)⟩
    · rw [rz (42 + d) (by omega) (by omega)]
      exact vz 6 (by decide) (by decide)
  · rw [c0, c0, c0, c0, c0, c0, a0.1, a0.2.1, a0.2.2.1, a0.2.2.2.1, a0.2.2.2.2.2.1, a0.2.2.2.2.2.2.2, r0.1, r0.2.1, r0.2.2.1, r0.2.2.2, rz 4 (by decide) (by decide), rz 5 (by decide) (by decide)]
    exact ⟨rfl, rfl, rfl, rfl, rfl, rfl⟩
  · rw [rz 4 (by decide) (by decide)]
    exact fun d q => absurd q (Nat.not_lt_zero _)
  · intro d q
    exact Or.inl (rz (29 + d) (by omega) (by omega))
  · rw [c0, a0.2.2.2.2.2.2.1, rz 4 (by decide) (by decide)]
    rfl
  · rw [rz 5 (by decide) (by decide)]
    exact fun d q => absurd q (Nat.not_lt_zero _)
  · rw [r0.2.2.1, rz 5 (by decide) (by decide)]
    refine ⟨?_, fun q => absurd q (by decide), ?_⟩
    · simp only [wi, Bool.and_eq_true, decide_eq_true_eq] at w2
      exact w2
    · unfold DE
      rw [rz 4 (by decide) (by decide)]
      exact fun d q => absurd q (Nat.not_lt_zero _)
  · rw [ck 6 (by decide)]
    intro r q
    rw [rz (7 + r) (by omega) (by omega), show σ (17 + 6) r = 0 from hc r q]
    exact ⟨rfl, by decide, by decide⟩
  · rw [c0, a0.2.2.2.2.1, rz 6 (by decide) (by decide)]
theorem read_R {a b : Sto} (h : RT a b) : LoopR (s_read a) (p_house (b 46) ((a 5 2).toNatClampNeg) (0, zf (b 47) 0 52, b 40 14)) a := by
  obtain ⟨t1, t2, t3⟩ := h
  obtain ⟨e, hl⟩ := vp_to t1 (by decide)
  have h0 : PosR (b 46) ((a 5 2).toNatClampNeg) (clrS (upc a 5 (upd (a 5) 1 0)) 17) 0 := by
    refine ⟨?_, Nat.zero_le _, ?_, by omega, ?_⟩
    · rfl
    · exact e
    · exact t3
  have f0 : fr17 a (clrS (upc a 5 (upd (a 5) 1 0)) 17) := by
    intro k k5 k17
    unfold clrS
    rw [upc_ne (by omega), upc_ne (by omega), upc_ne k5]
  have er : s_read a = if (s_law (clrS (upc a 5 (upd (a 5) 1 0)) 17)).1 = false then (false, (s_law (clrS (upc a 5 (upd (a 5) 1 0)) 17)).2) else (if (s_doors (s_law (clrS (upc a 5 (upd (a 5) 1 0)) 17)).2 8).1 = false then (false, (s_doors (s_law (clrS (upc a 5 (upd (a 5) 1 0)) 17)).2 8).2) else s_sitters (s_doors (s_law (clrS (upc a 5 (upd (a 5) 1 0)) 17)).2 8).2 5) := rfl
  rw [er]
  unfold p_house
  rcases law_R (R := zf (b 47) 0 52) (w := b 40 14) h0 with ⟨σ', s', e1, e2, q, f⟩ | ⟨σ1, B, x0, x1, x2, x3, e1, e2, p1, f1, w0, w1, w2, w3⟩
  · rw [e1, e2, if_pos rfl, if_pos rfl]
    exact ⟨rfl, fun _ => q, fun q => (Bool.false_ne_true q).elim, fr17_tr f0 (fr17_5 f)⟩
  · rw [e1, e2]
    have g17 : σ1 17 = clrS (upc a 5 (upd (a 5) 1 0)) 17 17 := f1 17 (by decide)
    have g23 : σ1 23 = clrS (upc a 5 (upd (a 5) 1 0)) 17 23 := f1 23 (by decide)
    obtain ⟨k1, k2⟩ := HR_law (σ := σ1) (Z := zf (b 47) 0 52) (x3 := x3) (by rw [g17]; rfl) (by rw [g17]; rfl) (by rw [g17]; rfl) (by rw [g17]; rfl) (fun r q => by
      rw [g23]
      show zf _ 0 6 r = 0
      unfold zf
      rw [if_pos (by omega)]) (fun j q => by unfold zf; rw [if_pos (by omega)]) w0 w1 w2
    have hR4 : (upd (upd (upd (upd (zf (b 47) 0 52) 0 x0) 1 x1) 2 x2) 3 x3 4).toNatClampNeg = 0 := rfl
    have hR5 : (upd (upd (upd (upd (zf (b 47) 0 52) 0 x0) 1 x1) 2 x2) 3 x3 5).toNatClampNeg = 0 := rfl
    have hlp := doors_R 8 122 (upc σ1 17 (upd (upd (upd (upd (σ1 17) 0 x0) 1 x1) 2 x2) 3 x3)) B (upd (upd (upd (upd (zf (b 47) 0 52) 0 x0) 1 x1) 2 x2) 3 x3) (b 40 14) (PosR_o p1 (upc_ne (by decide)) (upc_ne (by decide))) k1 k2 (by rw [hR4]) hR5 (by omega)
    rw [if_neg (show ¬ (true, upc σ1 17 (upd (upd (upd (upd (σ1 17) 0 x0) 1 x1) 2 x2) 3 x3)).1 = false from fun q => Bool.false_ne_true q.symm), if_neg (show ¬ (true, ((B, upd (upd (upd (upd (zf (b 47) 0 52) 0 x0) 1 x1) 2 x2) 3 x3, b 40 14) : PS)).1 = false from fun q => Bool.false_ne_true q.symm)]
    exact LoopR_tr (fr17_tr (fr17_tr f0 (fr17_5 f1)) (fun k _ k17 => upc_ne (by omega))) hlp
theorem rel_house {a b : Sto} (h : REL a b) : (m_house a).1 = (q_house b ((a 5 2).toNatClampNeg)).1 ∧ REL (m_house a).2 (q_house b ((a 5 2).toNatClampNeg)).2 := by
  obtain ⟨h1, h2, h3, h4, h5, h6, h7⟩ := h
  have hl := read_R h3
  unfold m_house q_house
  generalize s_read a = CL at *
  generalize p_house (b 46) ((a 5 2).toNatClampNeg) (0, zf (b 47) 0 52, b 40 14) = MD at *
  obtain ⟨l1, l2, l3, l4⟩ := hl
  have he : ∀ {k : Nat}, k ≠ 5 → empS CL.2 k = CL.2 k := fun q => upc_ne q
  have hf : ∀ {k : Nat}, k ≠ 5 → ¬ (17 ≤ k ∧ k < 24) → empS CL.2 k = a k := fun q1 q2 => (he q1).trans (l4 _ q1 q2)
  have hb : ∀ {k : Nat}, k ≠ 40 → k ≠ 47 → mkR b ((a 5 2).toNatClampNeg) MD.2 k = b k := fun q1 q2 => mr_o _ _ _ q1 q2
  have hb40 : ∀ j, ¬ (10 ≤ j ∧ j < 15) → mkR b ((a 5 2).toNatClampNeg) MD.2 40 j = b 40 j := fun j q => by
    unfold mkR
    rw [upc_same, upd_ne (by omega)]
    unfold setf
    rw [if_neg (by omega), if_neg (by omega), if_neg (by omega), if_neg (by omega)]
  by_cases c : MD.1 = false
  · have cc : CL.1 = false := l1.trans c
    obtain ⟨q1, q2⟩ := l2 c
    rw [if_pos cc, if_pos c]
    have e3 : empS CL.2 5 3 = MD.2.2.2 := by
      unfold empS
      rw [upc_same, upd_ne (by decide)]
      exact q1
    have e4 : empS CL.2 5 4 = nI MD.2.1 := by
      unfold empS
      rw [upc_same, upd_ne (by decide)]
      exact q2
    rw [e3, e4]
    dsimp only
    refine ⟨rfl, RR_fr (a := a) (b := b) ?_ ?_ ?_ ?_ ?_ ?_ h1, ⟨?_, ?_⟩, ⟨?_, ?_, ?_⟩, RH_fr (a := a) (b := b) (fun k q => ?_) ?_ ?_ h4, RA_fr (a := a) (b := b) (fun k q _ _ _ => ?_) (fun j _ _ => ?_) ?_ ?_ ?_ ?_ h5, RI_fr (a := a) (b := b) (fun k k1 k2 => ?_) ?_ ?_ ?_ h6, RC_fr (a := a) (b := b) ?_ ?_ ?_ ?_ h7⟩
    · rw [upc_ne (by decide)]; exact hf (by decide) (by decide)
    · rw [upc_ne (by decide)]; exact hf (by decide) (by decide)
    · rw [upc_ne (by decide)]; exact hf (by decide) (by decide)
    · rw [upc_ne (by decide)]; exact hb (by decide) (by decide)
    · rw [upc_ne (by decide)]; exact hb (by decide) (by decide)
    · rw [upc_ne (by decide)]; exact hb (by decide) (by decide)
    · rw [upc_same, upc_same, upd_ne (by decide), upd_ne (by decide), upd_ne (by decide), hf (by decide) (by decide), hb40 3 (by omega)]; exact h2.1
    · rw [upc_same, upc_same, upd_same, upd_same]
    · rw [upc_ne (by decide)]
      show vp_in (empS CL.2 5 2) 121
      unfold empS
      rw [upc_same, upd_same]
      exact vp_in_nI (n := 0) (by decide) (by decide)
    · rw [upc_ne (by decide), upc_same, upd_ne (by decide), upd_same]
      show empS CL.2 5 2 = 0
      unfold empS
      rw [upc_same, upd_same]
    · intro i hi
      rw [upc_ne (by decide)] at hi
      have hi : i < (empS CL.2 5 2).toNatClampNeg := hi
      unfold empS at hi
      rw [upc_same, upd_same] at hi
      exact absurd hi (Nat.not_lt_zero _)
    · rw [upc_ne (by omega)]; exact hf (by omega) (by omega)
    · rw [upc_same, upd_ne (by decide), upd_ne (by decide), hb40 4 (by omega)]
    · rw [upc_ne (by decide)]; exact hb (by decide) (by decide)
    · rw [upc_ne (by omega)]; exact hf (by omega) (by omega)
    · rw [upc_ne (by decide), hf (by decide) (by decide)]
    · rw [upc_ne (by decide)]; exact hf (by decide) (by decide)
    · rw [upc_ne (by decide)]; exact hf (by decide) (by decide)
    · rw [upc_same, upd_ne (by decide), upd_ne (by decide), hb40 17 (by omega)]
    · rw [upc_ne (by decide)]; exact hb (by decide) (by decide)
    · rw [upc_ne (by omega)]; exact hf (by omega) (by omega)
    · rw [upc_ne (by decide)]; exact hb (by decide) (by decide)
    · rw [upc_ne (by decide)]; exact hb (by decide) (by decide)
    · rw [upc_same, upd_ne (by decide), upd_ne (by decide), hb40 4 (by omega)]; exact id
    · rw [upc_ne (by decide), hf (by decide) (by decide)]
    · rw [upc_ne (by decide)]; exact hf (by decide) (by decide)
    · rw [upc_same, upd_ne (by decide), upd_ne (by decide), hb40 22 (by omega)]
    · rw [upc_ne (by decide)]; exact hb (by decide) (by decide)
  · have c' : MD.1 = true := by simpa using c
    have cc : ¬ CL.1 = false := by rw [l1]; exact c
    obtain ⟨q1, q2⟩ := l3 c'
    rw [if_neg cc, if_neg c]
    dsimp only
    have hk : ∀ {k : Nat} {f : Nat → Int32}, k ≠ 5 → ¬ (7 ≤ k ∧ k < 15) → ¬ (17 ≤ k ∧ k < 24) → upc (bec (empS CL.2) 7 17) 14 f k = a k := fun q1 q2 q3 => (upc_ne (by omega)).trans ((bec_ne _ (by omega)).trans (hf q1 q3))
    have h7k : ∀ (f : Nat → Int32) k, k ≤ 6 → upc (bec (empS CL.2) 7 17) 14 f (7 + k) = CL.2 (17 + k) := fun f k q => by
      rw [upc_ne (by omega), bec_at _ 7 17 k q]
      exact he (by omega)
    refine ⟨?_, RR_fr (a := a) (b := b) ?_ ?_ ?_ ?_ ?_ ?_ h1, ⟨?_, ?_⟩, ⟨?_, ?_, ?_⟩, ⟨?_, ?_⟩, ⟨?_, ?_, ?_⟩, RI_fr (a := a) (b := b) (fun k k1 k2 => ?_) ?_ ?_ ?_ h6, RC_fr (a := a) (b := b) ?_ ?_ ?_ ?_ h7⟩
    · have := h7k (upd (bec (empS CL.2) 7 17 14) 2 0) 0 (by decide)
      rw [show upc (bec (empS CL.2) 7 17) 14 (upd (bec (empS CL.2) 7 17 14) 2 0) 7 = CL.2 17 from this]
      exact q1.1.2.1.2.2.2.2.2
    · exact hk (by decide) (by decide) (by decide)
    · exact hk (by decide) (by decide) (by decide)
    · exact hk (by decide) (by decide) (by decide)
    · rw [upc_ne (by decide), upc_ne (by decide)]; exact hb (by decide) (by decide)
    · rw [upc_ne (by decide), upc_ne (by decide)]; exact hb (by decide) (by decide)
    · rw [upc_ne (by decide), upc_ne (by decide)]; exact hb (by decide) (by decide)
    · rw [hk (by decide) (by decide) (by decide), upc_same, upd_ne (by decide), upd_ne (by decide), upd_ne (by decide), hb40 3 (by omega)]; exact h2.1
    · rw [hk (by decide) (by decide) (by decide), upc_same, upd_ne (by decide), upd_ne (by decide), upd_ne (by decide), hb40 9 (by omega)]; exact h2.2
    · rw [upc_ne (by decide), bec_ne _ (by decide)]
      unfold empS
      rw [upc_same, upd_same]
      exact vp_in_nI (n := 0) (by decide) (by decide)
    · rw [upc_ne (by decide), bec_ne _ (by decide), upc_same, upd_ne (by decide), upd_ne (by decide), upd_same]
      unfold empS
      rw [upc_same, upd_same]
    · intro i hi
      rw [upc_ne (by decide), bec_ne _ (by decide)] at hi
      unfold empS at hi
      rw [upc_same, upd_same] at hi
      exact absurd hi (Nat.not_lt_zero _)
    · rw [upc_ne (show (44 : Nat) ≠ 40 by decide), upc_same]
      exact HR_cg (v := vw CL.2 17) (fun k q => h7k _ k q) q1
    · rw [upc_same, upd_ne (by decide), upd_same]
      have e0 := h7k (upd (bec (empS CL.2) 7 17 14) 2 0) 0 (by decide)
      have e0 : upc (bec (empS CL.2) 7 17) 14 (upd (bec (empS CL.2) 7 17 14) 2 0) 7 = CL.2 17 := e0
      rw [e0, show CL.2 17 0 = MD.2.2.1 0 from q1.1.2.1.1]
      exact ⟨fun z => absurd z (by decide), fun z => absurd q2 z⟩
    · unfold WFP
      rw [upc_same, upd_same, upd_ne (by decide), bec_ne _ (by decide), hf (by decide) (by decide)]
      exact ⟨h5.1.1, vp_in_nI (n := 0) (by decide) (by decide)⟩
    · rw [upc_same, upc_same, upd_same, upd_same]
    · intro i hi
      rw [upc_same, upd_same] at hi
      exact absurd hi (Nat.not_lt_zero _)
    · exact hk (by omega) (by omega) (by omega)
    · rw [upc_ne (by decide), upc_ne (by decide)]; exact hb (by decide) (by decide)
    · rw [upc_ne (by decide), upc_ne (by decide)]; exact hb (by decide) (by decide)
    · rw [upc_same, upd_ne (by decide), upd_same]
      exact fun z => absurd z (by decide)
    · rw [hk (by decide) (by decide) (by decide)]
    · exact hk (by decide) (by decide) (by decide)
    · rw [upc_same, upd_ne (by decide), upd_ne (by decide), upd_ne (by decide), hb40 22 (by omega)]
    · rw [upc_ne (by decide), upc_ne (by decide)]; exact hb (by decide) (by decide)
