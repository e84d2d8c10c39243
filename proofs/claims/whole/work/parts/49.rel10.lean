def fr17 (σ σ' : Sto) : Prop := ∀ k, k ≠ 5 → ¬ (17 ≤ k ∧ k < 24) → σ' k = σ k
theorem fr17_5 {a b : Sto} (h : fr5 a b) : fr17 a b := fun k h1 _ => h k h1
theorem fr17_tr {a b c : Sto} (h1 : fr17 a b) (h2 : fr17 b c) : fr17 a c := fun k q1 q2 => (h2 k q1 q2).trans (h1 k q1 q2)
theorem wi_rm {x z : Int32} {K : Nat} (hK : K < 2 ^ 30) (hz : vp_in z K) (h : wi x 0 (z - 1) = true) : x = nI (x.toNatClampNeg) ∧ x.toNatClampNeg < z.toNatClampNeg := wi_lt hK hz (by rw [h]; decide)
/-- a door more, on both sides -/
theorem HR_door {σ : Sto} {R : Nat → Int32} (h : HR (vw σ 17) R) (hD : (R 4).toNatClampNeg < 8) {x1 x2 x3 : Int32} (h1 : x1 = nI (x1.toNatClampNeg) ∧ x1.toNatClampNeg < (R 0).toNatClampNeg) (h2 : x2 = nI (x2.toNatClampNeg) ∧ x2.toNatClampNeg < (R 0).toNatClampNeg) (h3 : x3 = 0 ∨ x3 = 1) : HR (vw (s_addDoor σ 17 x1 x2 (if x3 = 1 then 1 else 0)) 17) (upd (upd (upd (upd R (13 + (R 4).toNatClampNeg) x1) 4 (R 4 + 1)) (21 + (R 4).toNatClampNeg) x2) (29 + (R 4).toNatClampNeg) x3) := by
  obtain ⟨⟨⟨w1, w2⟩, e, hd, ⟨ho, hp⟩, hs, hx⟩, hc, h4⟩ := h
  obtain ⟨⟨e0, b0⟩, ⟨e1, b1⟩, ⟨e4, b4⟩, ⟨e5, b5⟩⟩ := wfm_n w2
  have ev5 : σ 17 5 = R 4 := e.2.2.2.2.1
  have ev7 : σ 17 7 = R 5 := e.2.2.2.2.2
  generalize hDD : (R 4).toNatClampNeg = D at *
  have hv1 : vp_in x1 6 := by rw [h1.1]; exact vp_in_nI (by omega) (by decide)
  have hv2 : vp_in x2 6 := by rw [h2.1]; exact vp_in_nI (by omega) (by decide)
  have e41 : R 4 + 1 = nI (D + 1) := by rw [e4, nI_1]
  have t41 : (R 4 + 1).toNatClampNeg = D + 1 := by rw [e41]; exact nI_clamp (by omega)
  -- the class's new house, slot by slot
  have c0 : ∀ j, j ≠ 5 → j ≠ 6 → vw (s_addDoor σ 17 x1 x2 (if x3 = 1 then 1 else 0)) 17 0 j = σ 17 j := by
    intro j j5 j6
    show s_addDoor σ 17 x1 x2 (if x3 = 1 then 1 else 0) 17 j = σ 17 j
    unfold s_addDoor
    rw [upc_same, upd_ne j5]
    rcases h3 with z | z
    · rw [z, if_neg (show ¬ (0 : Int32) = 1 by decide), if_pos rfl]
    · rw [z, if_pos rfl, if_neg (by decide), upd_ne j6]
  have c5 : vw (s_addDoor σ 17 x1 x2 (if x3 = 1 then 1 else 0)) 17 0 5 = R 4 + 1 := by
    show s_addDoor σ 17 x1 x2 (if x3 = 1 then 1 else 0) 17 5 = _
    unfold s_addDoor
    rw [upc_same, upd_same, ev5]
  have c6 : vw (s_addDoor σ 17 x1 x2 (if x3 = 1 then 1 else 0)) 17 0 6 = s_opM R D ||| (x3 <<< (nI D &&& 31)) := by
    show s_addDoor σ 17 x1 x2 (if x3 = 1 then 1 else 0) 17 6 = _
    unfold s_addDoor
    rw [upc_same, upd_ne (by decide)]
    rcases h3 with z | z
    · rw [z, if_neg (show ¬ (0 : Int32) = 1 by decide), if_pos rfl, op_z D hD, Int32.or_zero]
      exact hp
    · rw [z, if_pos rfl, if_neg (by decide), upd_same, show σ 17 6 = s_opM R D from hp, ev5, e4]
  have c1 : ∀ d, vw (s_addDoor σ 17 x1 x2 (if x3 = 1 then 1 else 0)) 17 1 d = upd (σ 18) D x1 d := by
    intro d
    show s_addDoor σ 17 x1 x2 (if x3 = 1 then 1 else 0) (17 + 1) d = _
    unfold s_addDoor
    rw [upc_ne (by decide), upc_ne (by decide), upc_same, ev5, hDD]
  have c2 : ∀ d, vw (s_addDoor σ 17 x1 x2 (if x3 = 1 then 1 else 0)) 17 2 d = upd (σ 19) D x2 d := by
    intro d
    show s_addDoor σ 17 x1 x2 (if x3 = 1 then 1 else 0) (17 + 2) d = _
    unfold s_addDoor
    rw [upc_ne (by decide), upc_same, ev5, hDD]
  have ck : ∀ k, 3 ≤ k → k ≤ 6 → vw (s_addDoor σ 17 x1 x2 (if x3 = 1 then 1 else 0)) 17 k = σ (17 + k) := by
    intro k k1 k2
    show s_addDoor σ 17 x1 x2 (if x3 = 1 then 1 else 0) (17 + k) = _
    unfold s_addDoor
    rw [upc_ne (by omega), upc_ne (by omega), upc_ne (by omega)]
  -- the model's, place by place
  obtain ⟨R', hR'⟩ : ∃ R', upd (upd (upd (upd R (13 + D) x1) 4 (R 4 + 1)) (21 + D) x2) (29 + D) x3 = R' := ⟨_, rfl⟩
  rw [hR']
  have r4 : R' 4 = R 4 + 1 := by rw [← hR', upd_ne (by omega), upd_ne (by omega), upd_same]
  have ro : ∀ j, j ≠ 4 → j ≠ 13 + D → j ≠ 21 + D → j ≠ 29 + D → R' j = R j := fun j q1 q2 q3 q4 => by rw [← hR', upd_ne q4, upd_ne q3, upd_ne q1, upd_ne q2]
  have r13 : R' (13 + D) = x1 := by rw [← hR', upd_ne (by omega), upd_ne (by omega), upd_ne (by omega), upd_same]
  have r21 : R' (21 + D) = x2 := by rw [← hR', upd_ne (by omega), upd_same]
  have r29 : R' (29 + D) = x3 := by rw [← hR', upd_same]
  have d13 : ∀ d, d ≠ D → d < 8 → R' (13 + d) = R (13 + d) ∧ R' (21 + d) = R (21 + d) ∧ R' (29 + d) = R (29 + d) := fun d q1 q2 => ⟨ro _ (by omega) (by omega) (by omega) (by omega), ro _ (by omega) (by omega) (by omega) (by omega), ro _ (by omega) (by omega) (by omega) (by omega)⟩
  have rs : ∀ j, j < 13 → j ≠ 4 → R' j = R j := fun j q1 q2 => ro j q2 (by omega) (by omega) (by omega)
  have rb : ∀ j, 37 ≤ j → R' j = R j := fun j q1 => ro j (by omega) (by omega) (by omega) (by omega)
  have wm : WFM R' := by
    unfold WFM
    rw [rs 0 (by decide) (by decide), rs 1 (by decide) (by decide), r4, rs 5 (by decide) (by decide)]
    refine ⟨⟨w2.1.1, w2.1.2.1, by rw [e41]; exact vp_in_nI (by omega) (by decide), w2.1.2.2.2⟩, fun d q => ?_, fun s q => ?_⟩
    · by_cases z : d = D
      · rw [z, r13, r21]; exact ⟨hv1, hv2⟩
      · rw [(d13 d z q).1, (d13 d z q).2.1]; exact w2.2.1 d q
    · rw [rb (42 + s) (by omega)]; exact w2.2.2 s q
  refine ⟨⟨⟨?_, wm⟩, ?_, ?_, ⟨?_, ?_⟩, ?_, ?_⟩, ?_, ?_⟩
  · unfold WFV
    rw [c0 0 (by decide) (by decide), c0 1 (by decide) (by decide), c5, c0 7 (by decide) (by decide), t41]
    refine ⟨⟨w1.1.1, w1.1.2.1, by rw [e41]; exact vp_in_nI (by omega) (by decide), w1.1.2.2.2⟩, fun d q => ?_, fun s q => ?_⟩
    · rw [c1, c2]
      by_cases z : d = D
      · rw [z, upd_same, upd_same]; exact ⟨hv1, hv2⟩
      · rw [upd_ne z, upd_ne z]; exact w1.2.1 d (by show d < (σ 17 5).toNatClampNeg; rw [ev5, hDD]; omega)
    · rw [ck 3 (by decide) (by decide), ck 4 (by decide) (by decide)]; exact w1.2.2 s q
  · rw [c0 0 (by decide) (by decide), c0 1 (by decide) (by decide), c0 2 (by decide) (by decide), c0 3 (by decide) (by decide), c5, c0 7 (by decide) (by decide), rs 0 (by decide) (by decide), rs 1 (by decide) (by decide), rs 2 (by decide) (by decide), rs 3 (by decide) (by decide), r4, rs 5 (by decide) (by decide)]
    exact ⟨e.1, e.2.1, e.2.2.1, e.2.2.2.1, rfl, e.2.2.2.2.2⟩
  · rw [r4, t41]
    intro d q
    rw [c1, c2]
    by_cases z : d = D
    · rw [z, upd_same, upd_same, r13, r21]; exact ⟨rfl, rfl⟩
    · rw [upd_ne z, upd_ne z, (d13 d z (by omega)).1, (d13 d z (by omega)).2.1]; exact hd d (by omega)
  · intro d q
    by_cases z : d = D
    · rw [z, r29]; exact h3
    · rw [(d13 d z q).2.2]; exact ho d q
  · rw [c6, r4, t41]
    show _ = s_opM R' D ||| (R' (29 + D) <<< (nI D &&& 31))
    rw [r29, opM_ag D (fun d q => (d13 d (by omega) (by omega)).2.2)]
  · rw [rs 5 (by decide) (by decide)]
    intro s q
    rw [ck 3 (by decide) (by decide), ck 4 (by decide) (by decide), ck 5 (by decide) (by decide), rb (37 + s) (by omega), rb (42 + s) (by omega), rb (47 + s) (by omega)]
    exact hs s q
  · rw [rs 2 (by decide) (by decide), rs 5 (by decide) (by decide), rs 0 (by decide) (by decide)]
    refine ⟨hx.1, hx.2.1, ?_⟩
    intro d q
    rw [r4, t41] at q
    rw [rs 0 (by decide) (by decide)]
    by_cases z : d = D
    · rw [z, r13, r21]; exact ⟨h1.2, h2.2⟩
    · rw [(d13 d z (by omega)).1, (d13 d z (by omega)).2.1]; exact hx.2.2 d (by omega)
  · rw [ck 6 (by decide) (by decide)]
    exact CR_ag hc (fun r q => rs (7 + r) (by omega) (by omega))
  · rw [c0 4 (by decide) (by decide), rs 6 (by decide) (by decide)]; exact h4
/-- a sitter more, on both sides -/
theorem HR_sitr {σ : Sto} {R : Nat → Int32} (h : HR (vw σ 17) R) (hp0 : 0 < R 0) (hP : (R 5).toNatClampNeg < 5) {k x1 x2 : Int32} (hk : 1 ≤ k ∧ k ≤ 5) (h1 : x1 = nI (x1.toNatClampNeg) ∧ x1.toNatClampNeg < (R 0).toNatClampNeg) : HR (vw (s_addSitter σ 17 k x1 x2) 17) (upd (upd (upd (upd R (37 + (R 5).toNatClampNeg) k) 5 (R 5 + 1)) (42 + (R 5).toNatClampNeg) x1) (47 + (R 5).toNatClampNeg) x2) := by
  obtain ⟨⟨⟨w1, w2⟩, e, hd, ⟨ho, hp⟩, hs, hx⟩, hc, h4⟩ := h
  obtain ⟨⟨e0, b0⟩, ⟨e1, b1⟩, ⟨e4, b4⟩, ⟨e5, b5⟩⟩ := wfm_n w2
  have ev7 : σ 17 7 = R 5 := e.2.2.2.2.2
  generalize hDD : (R 5).toNatClampNeg = P at *
  have hv1 : vp_in x1 6 := by rw [h1.1]; exact vp_in_nI (by omega) (by decide)
  have hvk : vp_in k 6 := by rcases kd_rg hk with z | z | z | z | z <;> rw [z, vp_in_iff] <;> decide
  have e51 : R 5 + 1 = nI (P + 1) := by rw [e5, nI_1]
  have t51 : (R 5 + 1).toNatClampNeg = P + 1 := by rw [e51]; exact nI_clamp (by omega)
  have c0 : ∀ j, j ≠ 7 → vw (s_addSitter σ 17 k x1 x2) 17 0 j = σ 17 j := by
    intro j j7
    show s_addSitter σ 17 k x1 x2 17 j = σ 17 j
    unfold s_addSitter
    rw [upc_same, upd_ne j7]
  have c7 : vw (s_addSitter σ 17 k x1 x2) 17 0 7 = R 5 + 1 := by
    show s_addSitter σ 17 k x1 x2 17 7 = _
    unfold s_addSitter
    rw [upc_same, upd_same, ev7]
  have c3 : ∀ d, vw (s_addSitter σ 17 k x1 x2) 17 3 d = upd (σ 20) P k d := by
    intro d
    show s_addSitter σ 17 k x1 x2 (17 + 3) d = _
    unfold s_addSitter
    rw [upc_ne (by decide), upc_ne (by decide), upc_ne (by decide), upc_same, ev7, hDD]
  have c4 : ∀ d, vw (s_addSitter σ 17 k x1 x2) 17 4 d = upd (σ 21) P x1 d := by
    intro d
    show s_addSitter σ 17 k x1 x2 (17 + 4) d = _
    unfold s_addSitter
    rw [upc_ne (by decide), upc_ne (by decide), upc_same, ev7, hDD]
  have c5 : ∀ d, vw (s_addSitter σ 17 k x1 x2) 17 5 d = upd (σ 22) P x2 d := by
    intro d
    show s_addSitter σ 17 k x1 x2 (17 + 5) d = _
    unfold s_addSitter
    rw [upc_ne (by decide), upc_same, ev7, hDD]
  have ck : ∀ j, j = 1 ∨ j = 2 ∨ j = 6 → vw (s_addSitter σ 17 k x1 x2) 17 j = σ (17 + j) := by
    intro j hj
    show s_addSitter σ 17 k x1 x2 (17 + j) = _
    unfold s_addSitter
    rw [upc_ne (by omega), upc_ne (by omega), upc_ne (by omega), upc_ne (by omega)]
  obtain ⟨R', hR'⟩ : ∃ R', upd (upd (upd (upd R (37 + P) k) 5 (R 5 + 1)) (42 + P) x1) (47 + P) x2 = R' := ⟨_, rfl⟩
  rw [hR']
  have r5 : R' 5 = R 5 + 1 := by rw [← hR', upd_ne (by omega), upd_ne (by omega), upd_same]
  have ro : ∀ j, j ≠ 5 → j ≠ 37 + P → j ≠ 42 + P → j ≠ 47 + P → R' j = R j := fun j q1 q2 q3 q4 => by rw [← hR', upd_ne q4, upd_ne q3, upd_ne q1, upd_ne q2]
  have r37 : R' (37 + P) = k := by rw [← hR', upd_ne (by omega), upd_ne (by omega), upd_ne (by omega), upd_same]
  have r42 : R' (42 + P) = x1 := by rw [← hR', upd_ne (by omega), upd_same]
  have r47 : R' (47 + P) = x2 := by rw [← hR', upd_same]
  have rs : ∀ j, j < 37 → j ≠ 5 → R' j = R j := fun j q1 q2 => ro j q2 (by omega) (by omega) (by omega)
  have d37 : ∀ d, d ≠ P → d < 5 → R' (37 + d) = R (37 + d) ∧ R' (42 + d) = R (42 + d) ∧ R' (47 + d) = R (47 + d) := fun d q1 q2 => ⟨ro _ (by omega) (by omega) (by omega) (by omega), ro _ (by omega) (by omega) (by omega) (by omega), ro _ (by omega) (by omega) (by omega) (by omega)⟩
  have wm : WFM R' := by
    unfold WFM
    rw [rs 0 (by decide) (by decide), rs 1 (by decide) (by decide), rs 4 (by decide) (by decide), r5]
    refine ⟨⟨w2.1.1, w2.1.2.1, w2.1.2.2.1, by rw [e51]; exact vp_in_nI (by omega) (by decide)⟩, fun d q => ?_, fun s q => ?_⟩
    · rw [rs (13 + d) (by omega) (by omega), rs (21 + d) (by omega) (by omega)]; exact w2.2.1 d q
    · by_cases z : s = P
      · rw [z, r42]; exact hv1
      · rw [(d37 s z q).2.1]; exact w2.2.2 s q
  refine ⟨⟨⟨?_, wm⟩, ?_, ?_, ⟨?_, ?_⟩, ?_, ?_⟩, ?_, ?_⟩
  · unfold WFV
    rw [c0 0 (by decide), c0 1 (by decide), c0 5 (by decide), c7, t51]
    refine ⟨⟨w1.1.1, w1.1.2.1, w1.1.2.2.1, by rw [e51]; exact vp_in_nI (by omega) (by decide)⟩, fun d q => ?_, fun s q => ?_⟩
    · rw [ck 1 (by omega), ck 2 (by omega)]; exact w1.2.1 d q
    · rw [c3, c4]
      by_cases z : s = P
      · rw [z, upd_same, upd_same]; exact ⟨hvk, hv1⟩
      · rw [upd_ne z, upd_ne z]; exact w1.2.2 s (by show s < (σ 17 7).toNatClampNeg; rw [ev7, hDD]; omega)
  · rw [c0 0 (by decide), c0 1 (by decide), c0 2 (by decide), c0 3 (by decide), c0 5 (by decide), c7, rs 0 (by decide) (by decide), rs 1 (by decide) (by decide), rs 2 (by decide) (by decide), rs 3 (by decide) (by decide), rs 4 (by decide) (by decide), r5]
    exact ⟨e.1, e.2.1, e.2.2.1, e.2.2.2.1, e.2.2.2.2.1, rfl⟩
  · rw [rs 4 (by decide) (by decide)]
    intro d q
    rw [ck 1 (by omega), ck 2 (by omega), rs (13 + d) (by omega) (by omega), rs (21 + d) (by omega) (by omega)]
    exact hd d q
  · intro d q
    rw [rs (29 + d) (by omega) (by omega)]; exact ho d q
  · rw [c0 6 (by decide), rs 4 (by decide) (by decide), opM_ag _ (fun d q => rs (29 + d) (by omega) (by omega))]
    exact hp
  · rw [r5, t51]
    intro s q
    rw [c3, c4, c5]
    by_cases z : s = P
    · rw [z, upd_same, upd_same, upd_same, r37, r42, r47]; exact ⟨rfl, rfl, rfl, hk⟩
    · rw [upd_ne z, upd_ne z, upd_ne z, (d37 s z (by omega)).1, (d37 s z (by omega)).2.1, (d37 s z (by omega)).2.2]; exact hs s (by omega)
  · rw [rs 2 (by decide) (by decide), rs 0 (by decide) (by decide)]
    exact ⟨hx.1, fun _ => hp0, DE_ag (rs 4 (by decide) (by decide)) (rs 0 (by decide) (by decide)) (fun d q => ⟨rs (13 + d) (by omega) (by omega), rs (21 + d) (by omega) (by omega)⟩) b4 hx.2.2⟩
  · rw [ck 6 (by omega)]
    exact CR_ag hc (fun r q => rs (7 + r) (by omega) (by omega))
  · rw [c0 4 (by decide), rs 6 (by decide) (by decide)]; exact h4
section RD2
variable {T : Nat → Int32} {L : Nat}
theorem door_R {σ : Sto} {B : Nat} {R : Nat → Int32} {w : Int32} (h : PosR T L σ B) (hr : HR (vw σ 17) R) (hD : (R 4).toNatClampNeg < 8) (h5 : ¬ 0 < R 5) (hn : nxS σ = 100) :
    (∃ σ' s', s_door σ = (false, σ') ∧ p_door T L (B, R, w) = (false, s') ∧ FailR σ' s' ∧ fr17 σ σ') ∨
    (∃ σ' s', s_door σ = (true, σ') ∧ p_door T L (B, R, w) = (true, s') ∧ PosR T L σ' s'.1 ∧ HR (vw σ' 17) s'.2.1 ∧ s'.2.1 0 = R 0 ∧ (s'.2.1 4).toNatClampNeg = (R 4).toNatClampNeg + 1 ∧ s'.2.1 5 = R 5 ∧ fr17 σ σ') := by
  have e4 := (wfm_n hr.1.1.2).2.2.1
  have hk := lt_R h (c := 100) (Or.inl (by decide)) (by decide) (by decide)
  obtain ⟨k1, k2⟩ := hk.2 (hk.1.mpr hn)
  have hc : ¬ (R 4 = 8 ∨ 0 < R 5) := fun q => q.elim (fun z => by rw [e4.1] at z; have := (nI_eq (b := 8) (by omega) (by decide)).mp z; omega) h5
  have h0 : PosR T L (advS σ 1) (B + 1) := PosR_adv h k2
  have f0 : fr5 σ (advS σ 1) := fr5_adv σ 1
  have e17 : σ 17 0 = R 0 := hr.1.2.1.1
  have hv0 := hr.1.1.2.1.1
  rcases nmb h0 0 (R 0 - 1) (by decide) 44 (Or.inr (Or.inl rfl)) (by decide) (by decide) (13 + (R 4).toNatClampNeg) R w with ⟨x1, σa1, σa, Ba, eA1, nA, eA2, eA', wA, pA, fA, fA1⟩ | ⟨x1, σa1, σa, s', eA1, nA, eA2, eA', qA, fA⟩ | ⟨σa, s', eA1, eA', qA, fA⟩
  · have q4 : upd R (13 + (R 4).toNatClampNeg) x1 4 = R 4 := upd_ne (by omega)
    obtain ⟨R2, hR2⟩ : ∃ R2, upd (upd R (13 + (R 4).toNatClampNeg) x1) 4 (R 4 + 1) = R2 := ⟨_, rfl⟩
    have q0 : R2 0 = R 0 := by rw [← hR2, upd_ne (by decide), upd_ne (by omega)]
    have q13 : upd R (13 + (R 4).toNatClampNeg) x1 (13 + (R 4).toNatClampNeg) = x1 := upd_same _ _ _
    rcases nm1 pA 0 (R 0 - 1) (by decide) with ⟨x2, σb1, eB1, nB, t1, t2, wB, pB1, fB1⟩ | ⟨σb, eB1, hrr, fB⟩
    · by_cases hx : x2 = x1
      · refine Or.inl ⟨failS (upc σb1 5 (upd (σb1 5) 1 (σa 5 1))) 2, (Ba, upd R (13 + (R 4).toNatClampNeg) x1, 2), ?_, ?_, ?_, ?_⟩
        · simp only [s_door, e17, eA1, nA, eA2, eB1, nB, hx, if_true, if_false, Bool.true_eq_false, Bool.false_eq_true, reduceIte, reduceCtorEq]
        · simp only [p_door, hc, k1, eA', t1, t2, hx, q13, and_self, if_true, if_false, Bool.true_eq_false, Bool.false_eq_true, reduceIte, reduceCtorEq]
        · unfold FailR failS
          simp only [upc_same]
          rw [upd_ne (show (3 : Nat) ≠ 4 by decide), upd_same, upd_same, upd_same]
          exact ⟨rfl, pA.1⟩
        · intro k k5 _
          show failS (upc σb1 5 _) 2 k = σ k
          unfold failS
          rw [upc_ne k5, upc_ne k5, fB1 k k5, fA k k5, f0 k k5]
      · have ep : p_num T L 0 (R 0 - 1) (21 + (R 4).toNatClampNeg) 44 (Ba, R2, w) = p_takes T L 44 ((tk3 T L Ba).1, upd R2 (21 + (R 4).toNatClampNeg) x2, w) := by
          unfold p_num
          show (if (tk3 T L Ba).2.1 = 2 then (if wi (tk3 T L Ba).2.2 0 (R 0 - 1) = false then (false, (Ba, R2, (2 : Int32))) else p_takes T L 44 ((tk3 T L Ba).1, upd R2 (21 + (R 4).toNatClampNeg) (tk3 T L Ba).2.2, w)) else (false, (Ba, R2, (1 : Int32)))) = _
          rw [if_pos t1, t2, if_neg (by rw [wB]; decide)]
        rcases sgn pB1 44 (Or.inr (Or.inl rfl)) (by decide) (by decide) (upd R2 (21 + (R 4).toNatClampNeg) x2) w with ⟨σb, Bb, eB2, eB', pB, fB⟩ | ⟨σb, s', eB2, eB', qB, fB⟩
        · rcases nmb pB 0 1 (by decide) 59 (Or.inr (Or.inr rfl)) (by decide) (by decide) (29 + (R 4).toNatClampNeg) (upd R2 (21 + (R 4).toNatClampNeg) x2) w with ⟨x3, σc1, σc, Bc, eC1, nC, eC2, eC', wC, pC, fC, fC1⟩ | ⟨x3, σc1, σc, s', eC1, nC, eC2, eC', qC, fC⟩ | ⟨σc, s', eC1, eC', qC, fC⟩
          · have fall : fr5 σ σc := fr5_tr (fr5_tr (fr5_tr (fr5_tr f0 fA) fB1) fB) fC
            have hvw : ∀ k, k ≤ 6 → vw σc 17 k = vw σ 17 k := fun k q => fall (17 + k) (by omega)
            refine Or.inr ⟨s_addDoor σc 17 x1 x2 (if x3 = 1 then 1 else 0), (Bc, upd (upd R2 (21 + (R 4).toNatClampNeg) x2) (29 + (R 4).toNatClampNeg) x3, w), ?_, ?_, ?_, ?_, ?_, ?_, ?_, ?_⟩
            · simp only [s_door, e17, eA1, nA, eA2, eB1, nB, hx, eB2, eC1, nC, eC2, if_true, if_false, Bool.true_eq_false, Bool.false_eq_true, reduceIte, reduceCtorEq]
            · simp only [p_door, hc, k1, eA', t1, t2, hx, q13, q4, hR2, q0, ep, eB', eC', and_false, if_true, if_false, Bool.true_eq_false, Bool.false_eq_true, reduceIte, reduceCtorEq]
            · exact PosR_o pC rfl rfl
            · rw [← hR2]
              exact HR_door (σ := σc) (HR_cg hvw hr) hD (wi_rm (K := 7) (by decide) hv0 wA) (wi_rm (K := 7) (by decide) hv0 wB) (wi01 wC)
            · show upd (upd R2 (21 + (R 4).toNatClampNeg) x2) (29 + (R 4).toNatClampNeg) x3 0 = R 0
              rw [upd_ne (by omega), upd_ne (by omega), q0]
            · show (upd (upd R2 (21 + (R 4).toNatClampNeg) x2) (29 + (R 4).toNatClampNeg) x3 4).toNatClampNeg = _
              rw [upd_ne (by omega), upd_ne (by omega), ← hR2, upd_same]
              have : R 4 + 1 = nI ((R 4).toNatClampNeg + 1) := by rw [← nI_1, ← e4.1]
              rw [this, nI_clamp (by omega)]
            · show upd (upd R2 (21 + (R 4).toNatClampNeg) x2) (29 + (R 4).toNatClampNeg) x3 5 = R 5
              rw [upd_ne (by omega), upd_ne (by omega), ← hR2, upd_ne (by decide), upd_ne (by omega)]
            · intro k k5 k17
              show s_addDoor σc 17 x1 x2 _ k = σ k
              unfold s_addDoor
              rw [upc_ne (by omega), upc_ne (by omega), upc_ne (by omega)]
              exact fall k k5
          · exact Or.inl ⟨σc, s', by simp only [s_door, e17, eA1, nA, eA2, eB1, nB, hx, eB2, eC1, nC, eC2, if_true, if_false, Bool.true_eq_false, Bool.false_eq_true, reduceIte, reduceCtorEq], by simp only [p_door, hc, k1, eA', t1, t2, hx, q13, q4, hR2, q0, ep, eB', eC', and_false, if_true, if_false, Bool.true_eq_false, Bool.false_eq_true, reduceIte, reduceCtorEq], qC, fr17_5 (fr5_tr (fr5_tr (fr5_tr (fr5_tr f0 fA) fB1) fB) fC)⟩
          · exact Or.inl ⟨σc, s', by simp only [s_door, e17, eA1, nA, eA2, eB1, nB, hx, eB2, eC1, if_true, if_false, Bool.true_eq_false, Bool.false_eq_true, reduceIte, reduceCtorEq], by simp only [p_door, hc, k1, eA', t1, t2, hx, q13, q4, hR2, q0, ep, eB', eC', and_false, if_true, if_false, Bool.true_eq_false, Bool.false_eq_true, reduceIte, reduceCtorEq], qC, fr17_5 (fr5_tr (fr5_tr (fr5_tr (fr5_tr f0 fA) fB1) fB) fC)⟩
        · exact Or.inl ⟨σb, s', by simp only [s_door, e17, eA1, nA, eA2, eB1, nB, hx, eB2, if_true, if_false, Bool.true_eq_false, Bool.false_eq_true, reduceIte, reduceCtorEq], by simp only [p_door, hc, k1, eA', t1, t2, hx, q13, q4, hR2, q0, ep, eB', and_false, if_true, if_false, Bool.true_eq_false, Bool.false_eq_true, reduceIte, reduceCtorEq], qB, fr17_5 (fr5_tr (fr5_tr (fr5_tr f0 fA) fB1) fB)⟩
    · have hchk : ¬ ((tk3 T L Ba).2.1 = 2 ∧ (tk3 T L Ba).2.2 = x1) := by
        intro q
        rcases hrr with ⟨-, z, -⟩ | ⟨z, -⟩
        · rw [q.2, wA] at z; exact absurd z (by decide)
        · exact z q.1
      have ep : ∃ f, p_num T L 0 (R 0 - 1) (21 + (R 4).toNatClampNeg) 44 (Ba, R2, w) = (false, (Ba, R2, f)) ∧ FailR σb (Ba, R2, f) := by
        rcases hrr with ⟨z1, z2, z3⟩ | ⟨z1, z3⟩
        · refine ⟨2, ?_, z3 R2⟩
          unfold p_num
          show (if (tk3 T L Ba).2.1 = 2 then (if wi (tk3 T L Ba).2.2 0 (R 0 - 1) = false then (false, (Ba, R2, (2 : Int32))) else _) else (false, (Ba, R2, (1 : Int32)))) = _
          rw [if_pos z1, if_pos z2]
        · refine ⟨1, ?_, z3 R2⟩
          unfold p_num
          show (if (tk3 T L Ba).2.1 = 2 then (if wi (tk3 T L Ba).2.2 0 (R 0 - 1) = false then (false, (Ba, R2, (2 : Int32))) else _) else (false, (Ba, R2, (1 : Int32)))) = _
          rw [if_neg z1]
      obtain ⟨f, ep, qF⟩ := ep
      exact Or.inl ⟨σb, (Ba, R2, f), by simp only [s_door, e17, eA1, nA, eA2, eB1, if_true, if_false, Bool.true_eq_false, Bool.false_eq_true, reduceIte, reduceCtorEq], by simp only [p_door, hc, k1, eA', q13, hchk, q4, hR2, q0, ep, if_true, if_false, Bool.true_eq_false, Bool.false_eq_true, reduceIte, reduceCtorEq], qF, fr17_5 (fr5_tr (fr5_tr f0 fA) fB)⟩
  · exact Or.inl ⟨σa, s', by simp only [s_door, e17, eA1, nA, eA2, if_true, if_false, Bool.true_eq_false, Bool.false_eq_true, reduceIte, reduceCtorEq], by simp only [p_door, hc, k1, eA', if_true, if_false, Bool.true_eq_false, Bool.false_eq_true, reduceIte, reduceCtorEq], qA, fr17_5 (fr5_tr f0 fA)⟩
  · exact Or.inl ⟨σa, s', by simp only [s_door, e17, eA1, if_true, if_false, Bool.true_eq_false, Bool.false_eq_true, reduceIte, reduceCtorEq], by simp only [p_door, hc, k1, eA', if_true, if_false, Bool.true_eq_false, Bool.false_eq_true, reduceIte, reduceCtorEq], qA, fr17_5 (fr5_tr f0 fA)⟩
theorem pk_kl {σ : Sto} {B : Nat} (h : PosR T L σ B) : pk T L B = s_kl (nxS σ) := by
  have g : ∀ c, (c = 114 ∨ c = 112 ∨ c = 116 ∨ c = 102 ∨ c = 105) → (isLt T L B c = true ↔ nxS σ = c) := by
    intro c hc
    rcases hc with rfl | rfl | rfl | rfl | rfl <;> exact (lt_R h (Or.inl (by decide)) (by decide) (by decide)).1
  unfold pk s_kl
  simp only [g 114 (by decide), g 112 (by decide), g 116 (by decide), g 102 (by decide), g 105 (by decide)]
theorem kl_rg {c : Int32} (h : ¬ s_kl c = 0) : 1 ≤ s_kl c ∧ s_kl c ≤ 5 := by
  unfold s_kl at h ⊢
  split
  · decide
  · split
    · decide
    · split
      · decide
      · split
        · decide
        · split
          · decide
          · rename_i q1 q2 q3 q4 q5
            rw [if_neg q1, if_neg q2, if_neg q3, if_neg q4, if_neg q5] at h
            exact absurd rfl h
theorem lt_of_pk {σ : Sto} {B : Nat} (h : PosR T L σ B) (hk : ¬ pk T L B = 0) : (tk3 T L B).1 = B + 1 ∧ B + 1 ≤ L := by
  have g : ∀ c, (c = 114 ∨ c = 112 ∨ c = 116 ∨ c = 102 ∨ c = 105) → isLt T L B c = true → (tk3 T L B).1 = B + 1 ∧ B + 1 ≤ L := by
    intro c hc
    rcases hc with rfl | rfl | rfl | rfl | rfl <;> exact (lt_R h (Or.inl (by decide)) (by decide) (by decide)).2
  unfold pk at hk
  by_cases c1 : isLt T L B 114 = true
  · exact g 114 (by decide) c1
  by_cases c2 : isLt T L B 112 = true
  · exact g 112 (by decide) c2
  by_cases c3 : isLt T L B 116 = true
  · exact g 116 (by decide) c3
  by_cases c4 : isLt T L B 102 = true
  · exact g 102 (by decide) c4
  by_cases c5 : isLt T L B 105 = true
  · exact g 105 (by decide) c5
  rw [if_neg c1, if_neg c2, if_neg c3, if_neg c4, if_neg c5] at hk
  exact absurd rfl hk
theorem sitr_R {σ : Sto} {B : Nat} {R : Nat → Int32} {w : Int32} (h : PosR T L σ B) (hr : HR (vw σ 17) R) (hp0 : 0 < R 0) (hP : (R 5).toNatClampNeg < 5) (hn : ¬ s_kl (nxS σ) = 0) :
    (∃ σ' s', s_sitter σ = (false, σ') ∧ p_sit T L (pk T L B) (B, R, w) = (false, s') ∧ FailR σ' s' ∧ fr17 σ σ') ∨
    (∃ σ' s', s_sitter σ = (true, σ') ∧ p_sit T L (pk T L B) (B, R, w) = (true, s') ∧ PosR T L σ' s'.1 ∧ HR (vw σ' 17) s'.2.1 ∧ s'.2.1 0 = R 0 ∧ (s'.2.1 5).toNatClampNeg = (R 5).toNatClampNeg + 1 ∧ fr17 σ σ') := by
  have e5 := (wfm_n hr.1.1.2).2.2.2
  have hpk := pk_kl h
  have hk0 : ¬ pk T L B = 0 := by rw [hpk]; exact hn
  have hkl := lt_of_pk h hk0
  obtain ⟨k1, k2⟩ := hkl
  have hc : ¬ R 5 = 5 := fun z => by rw [e5.1] at z; have := (nI_eq (b := 5) (by omega) (by decide)).mp z; omega
  have h0 : PosR T L (advS σ 1) (B + 1) := PosR_adv h k2
  have f0 : fr5 σ (advS σ 1) := fr5_adv σ 1
  have e17 : σ 17 0 = R 0 := hr.1.2.1.1
  have hv0 := hr.1.1.2.1.1
  rw [hpk]
  have q5 : upd R (37 + (R 5).toNatClampNeg) (s_kl (nxS σ)) 5 = R 5 := upd_ne (by omega)
  obtain ⟨R1, hR1⟩ : ∃ R1, upd (upd R (37 + (R 5).toNatClampNeg) (s_kl (nxS σ))) 5 (R 5 + 1) = R1 := ⟨_, rfl⟩
  have q0 : R1 0 = R 0 := by rw [← hR1, upd_ne (by decide), upd_ne (by omega)]
  rcases nmb h0 0 (R 0 - 1) (by decide) 44 (Or.inr (Or.inl rfl)) (by decide) (by decide) (42 + (R 5).toNatClampNeg) R1 w with ⟨x1, σa1, σa, Ba, eA1, nA, eA2, eA', wA, pA, fA, fA1⟩ | ⟨x1, σa1, σa, s', eA1, nA, eA2, eA', qA, fA⟩ | ⟨σa, s', eA1, eA', qA, fA⟩
  · rcases nmb pA 0 20 (by decide) 59 (Or.inr (Or.inr rfl)) (by decide) (by decide) (47 + (R 5).toNatClampNeg) (upd R1 (42 + (R 5).toNatClampNeg) x1) w with ⟨x2, σb1, σb, Bb, eB1, nB, eB2, eB', wB, pB, fB, fB1⟩ | ⟨x2, σb1, σb, s', eB1, nB, eB2, eB', qB, fB⟩ | ⟨σb, s', eB1, eB', qB, fB⟩
    · have fall : fr5 σ σb := fr5_tr (fr5_tr f0 fA) fB
      have hvw : ∀ k, k ≤ 6 → vw σb 17 k = vw σ 17 k := fun k q => fall (17 + k) (by omega)
      refine Or.inr ⟨s_addSitter σb 17 (s_kl (nxS σ)) x1 x2, (Bb, upd (upd R1 (42 + (R 5).toNatClampNeg) x1) (47 + (R 5).toNatClampNeg) x2, w), ?_, ?_, ?_, ?_, ?_, ?_, ?_⟩
      · simp only [s_sitter, hn, e17, eA1, nA, eA2, eB1, nB, eB2, if_true, if_false, Bool.true_eq_false, Bool.false_eq_true, reduceIte, reduceCtorEq]
      · simp only [p_sit, hc, k1, q5, hR1, q0, eA', eB', if_true, if_false, Bool.true_eq_false, Bool.false_eq_true, reduceIte, reduceCtorEq]
      · exact PosR_o pB rfl rfl
      · rw [← hR1]
        exact HR_sitr (σ := σb) (HR_cg hvw hr) hp0 hP (kl_rg hn) (wi_rm (K := 7) (by decide) hv0 wA)
      · show upd (upd R1 (42 + (R 5).toNatClampNeg) x1) (47 + (R 5).toNatClampNeg) x2 0 = R 0
        rw [upd_ne (by omega), upd_ne (by omega), q0]
      · show (upd (upd R1 (42 + (R 5).toNatClampNeg) x1) (47 + (R 5).toNatClampNeg) x2 5).toNatClampNeg = _
        rw [upd_ne (by omega), upd_ne (by omega), ← hR1, upd_same]
        have : R 5 + 1 = nI ((R 5).toNatClampNeg + 1) := by rw [← nI_1, ← e5.1]
        rw [this, nI_clamp (by omega)]
      · intro k k5 k17
        show s_addSitter σb 17 _ x1 x2 k = σ k
        unfold s_addSitter
        rw [upc_ne (by omega), upc_ne (by omega), upc_ne (by omega), upc_ne (by omega)]
        exact fall k k5
    · exact Or.inl ⟨σb, s', by simp only [s_sitter, hn, e17, eA1, nA, eA2, eB1, nB, eB2, if_true, if_false, Bool.true_eq_false, Bool.false_eq_true, reduceIte, reduceCtorEq], by simp only [p_sit, hc, k1, q5, hR1, q0, eA', eB', if_true, if_false, Bool.true_eq_false, Bool.false_eq_true, reduceIte, reduceCtorEq], qB, fr17_5 (fr5_tr (fr5_tr f0 fA) fB)⟩
    · exact Or.inl ⟨σb, s', by simp only [s_sitter, hn, e17, eA1, nA, eA2, eB1, if_true, if_false, Bool.true_eq_false, Bool.false_eq_true, reduceIte, reduceCtorEq], by simp only [p_sit, hc, k1, q5, hR1, q0, eA', eB', if_true, if_false, Bool.true_eq_false, Bool.false_eq_true, reduceIte, reduceCtorEq], qB, fr17_5 (fr5_tr (fr5_tr f0 fA) fB)⟩
  · exact Or.inl ⟨σa, s', by simp only [s_sitter, hn, e17, eA1, nA, eA2, if_true, if_false, Bool.true_eq_false, Bool.false_eq_true, reduceIte, reduceCtorEq], by simp only [p_sit, hc, k1, q5, hR1, q0, eA', if_true, if_false, Bool.true_eq_false, Bool.false_eq_true, reduceIte, reduceCtorEq], qA, fr17_5 (fr5_tr f0 fA)⟩
  · exact Or.inl ⟨σa, s', by simp only [s_sitter, hn, e17, eA1, if_true, if_false, Bool.true_eq_false, Bool.false_eq_true, reduceIte, reduceCtorEq], by simp only [p_sit, hc, k1, q5, hR1, q0, eA', if_true, if_false, Bool.true_eq_false, Bool.false_eq_true, reduceIte, reduceCtorEq], qA, fr17_5 (fr5_tr f0 fA)⟩
end RD2
