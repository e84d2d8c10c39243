theorem st_0 {a b : Sto} (h : RH a b) : stB a = false ↔ b 40 4 = 0 := by
  unfold stB
  rw [h.2, decide_eq_false_iff_not]
theorem tb_ne (a : Sto) {k : Nat} (h1 : k ≠ 14) (h2 : k ≠ 7) (h3 : k ≠ 13) (h4 : k ≠ 11) : tb a k = a k := by
  unfold tb
  rw [if_neg h1, if_neg h2, if_neg h3, if_neg h4]
theorem held_n {x : Int32} (h : vp_in x 25) (h0 : ¬ x = 0) : ∃ N, N < 24 ∧ x = nI (N + 1) ∧ x - 1 = nI N := by
  obtain ⟨e, hl⟩ := vp_to h (by decide)
  rcases Nat.eq_zero_or_pos (x.toNatClampNeg) with q | q
  · rw [q] at e
    exact absurd e h0
  · refine ⟨x.toNatClampNeg - 1, by omega, ?_, ?_⟩
    · rw [show x.toNatClampNeg - 1 + 1 = x.toNatClampNeg by omega]; exact e
    · have e2 : x = nI (x.toNatClampNeg - 1 + 1) := by rw [show x.toNatClampNeg - 1 + 1 = x.toNatClampNeg by omega]; exact e
      rw [e2, nI_pred, nI_clamp (by omega)]
      congr 1
theorem rel_undo {a b : Sto} (h : REL a b) : (m_undo a).1 = (q_undo b).1 ∧ REL (m_undo a).2 (q_undo b).2 := by
  obtain ⟨h1, h2, h3, h4, h5, h6, h7⟩ := h
  obtain ⟨w, e, hi⟩ := h5
  unfold m_undo q_undo
  rw [← e]
  by_cases c : a 14 2 = 0
  · rw [if_pos c, if_pos c]; exact ⟨rfl, h1, h2, h3, h4, ⟨w, e, hi⟩, h6, h7⟩
  rw [if_neg c, if_neg c]
  obtain ⟨N, hN, e1, e2⟩ := held_n w.2 c
  have t1 : (a 14 2).toNatClampNeg = N + 1 := by rw [e1]; exact nI_clamp (by omega)
  have t2 : (a 14 2 - 1).toNatClampNeg = N := by rw [e2]; exact nI_clamp (by omega)
  have hv := hi N (by omega)
  have hpb : pb (a 14 1) (a 14 2 - 1) = pbN a N := by unfold pb pbN; rw [t2]
  dsimp only
  refine ⟨rfl, RR_fr (a := a) (b := b) (tb_ne a (by decide) (by decide) (by decide) (by decide)) (tb_ne a (by decide) (by decide) (by decide) (by decide)) (tb_ne a (by decide) (by decide) (by decide) (by decide)) rfl rfl rfl h1, RF_fr (a := a) (b := b) rfl rfl rfl rfl h2, RT_fr (a := a) (b := b) rfl (tb_ne a (by decide) (by decide) (by decide) (by decide)) rfl rfl h3, ⟨?_, ?_⟩, ⟨?_, ?_, ?_⟩, RI_fr (a := a) (b := b) (fun k k1 k2 => tb_ne a (by omega) (by omega) (by omega) (by omega)) rfl rfl id h6, RC_fr (a := a) (b := b) rfl (tb_ne a (by decide) (by decide) (by decide) (by decide)) rfl rfl h7⟩
  · show HR (vw (tb a) 7) (fun j => b 48 (52 * (a 14 2 - 1).toNatClampNeg + j))
    rw [t2]
    refine HR_cg (v := vP a N) (fun k hk => ?_) hv
    show tb a (7 + k) = vP a N k
    unfold tb vP
    rw [hpb]
    by_cases k0 : k = 0
    · subst k0; rfl
    · rw [if_neg (by omega), if_neg (by omega), if_neg k0]
      by_cases k4 : k = 4
      · subst k4; rfl
      · rw [if_neg k4]
        by_cases k6 : k = 6
        · subst k6; rfl
        · rw [if_neg (by omega), if_neg (by omega), if_neg k6]
  · exact h4.2
  · refine ⟨w.1, ?_⟩
    show vp_in (a 14 2 - 1) 25
    rw [e2]
    exact vp_in_nI (by omega) (by decide)
  · rfl
  · intro i hil
    have hil : i < (a 14 2 - 1).toNatClampNeg := hil
    rw [t2] at hil
    refine HR_cg (v := vP a i) (vP_cg (fun k hk q4 q6 q0 => tb_ne a (by omega) (by omega) (by omega) (by omega)) (fun j j4 j6 => ?_) rfl rfl i) (hi i (by omega))
    show upd (upd (a 7) 4 _) 6 _ j = a 7 j
    rw [upd_ne j6, upd_ne j4]
-- what an act keeps
theorem kpW_n (a : Sto) (B : Nat) : kpW a B B = a 7 4 ∧ kpW a B (B + 1) = a 7 6 ∧ (∀ j, j < 6 → kpW a B (B + 2 + j) = a 13 j) ∧ (∀ j, j < 5 → kpW a B (B + 8 + j) = a 11 j) := by
  unfold kpW va_cpy
  refine ⟨?_, ?_, fun j hj => ?_, fun j hj => ?_⟩
  · simp only [show ¬ (B + 8 ≤ B ∧ B < B + 8 + 5) by omega, show ¬ (B + 2 ≤ B ∧ B < B + 2 + 6) by omega, if_false]
    rw [upd_ne (by omega), upd_same]
  · simp only [show ¬ (B + 8 ≤ B + 1 ∧ B + 1 < B + 8 + 5) by omega, show ¬ (B + 2 ≤ B + 1 ∧ B + 1 < B + 2 + 6) by omega, if_false]
    rw [upd_same]
  · simp only [show ¬ (B + 8 ≤ B + 2 + j ∧ B + 2 + j < B + 8 + 5) by omega, show (B + 2 ≤ B + 2 + j ∧ B + 2 + j < B + 2 + 6) by omega, and_self, if_false, if_true]
    rw [show 0 + (B + 2 + j - (B + 2)) = j by omega]
  · simp only [show (B + 8 ≤ B + 8 + j ∧ B + 8 + j < B + 8 + 5) by omega, and_self, if_true]
    rw [show 0 + (B + 8 + j - (B + 8)) = j by omega]
theorem kpW_o (a : Sto) {B k : Nat} (h : k < B ∨ B + 13 ≤ k) : kpW a B k = a 15 k := by
  unfold kpW va_cpy
  simp only [show ¬ (B + 8 ≤ k ∧ k < B + 8 + 5) by omega, show ¬ (B + 2 ≤ k ∧ k < B + 2 + 6) by omega, if_false]
  rw [upd_ne (by omega), upd_ne (by omega)]
theorem blk {p q t : Nat} (h : p ≠ q) (ht : t < 13) : p * 13 + t < q * 13 ∨ q * 13 + 13 ≤ p * 13 + t := by omega
/-- an act that is not overwritten -/
theorem vP_old {a a' : Sto} {p q i i' : Nat} (hp : pbN a i = p * 13) (hp' : pbN a' i' = p * 13) (hq : p ≠ q) (hw : a' 15 = kpW a (q * 13)) (hh : ∀ k, k ≤ 6 → a' (7 + k) = a (7 + k)) {m m' : Nat → Int32} (hm : ∀ j, j < 52 → m' j = m j) (h : HR (vP a i) m) : HR (vP a' i') m' := by
  have kk : ∀ t, t < 13 → a' 15 (p * 13 + t) = a 15 (p * 13 + t) := fun t ht => by rw [hw]; exact kpW_o a (blk hq ht)
  have e0 := hh 0 (by decide)
  refine HR_pt (v := vP a i) (m := m) (fun j hj => ?_) (fun d hd => ?_) (fun s hs => ?_) (fun r hr => ?_) hm h
  · show upd (upd (a' 7) 4 (a' 15 (pbN a' i'))) 6 (a' 15 (pbN a' i' + 1)) j = upd (upd (a 7) 4 (a 15 (pbN a i))) 6 (a 15 (pbN a i + 1)) j
    rw [hp, hp', kk 1 (by decide), show a' 15 (p * 13) = a 15 (p * 13) from kk 0 (by decide), show a' 7 = a 7 from e0]
  · show a' (7 + 1) d = a (7 + 1) d ∧ a' (7 + 2) d = a (7 + 2) d
    rw [hh 1 (by decide), hh 2 (by decide)]
    exact ⟨rfl, rfl⟩
  · show a' (7 + 3) s = a (7 + 3) s ∧ a' 15 (pbN a' i' + 8 + s) = a 15 (pbN a i + 8 + s) ∧ a' (7 + 5) s = a (7 + 5) s
    rw [hh 3 (by decide), hh 5 (by decide), hp, hp', Nat.add_assoc, kk (8 + s) (by omega)]
    exact ⟨rfl, rfl, rfl⟩
  · show a' 15 (pbN a' i' + 2 + r) = a 15 (pbN a i + 2 + r)
    rw [hp, hp', Nat.add_assoc, kk (2 + r) (by omega)]
/-- the act that is kept now -/
theorem vP_new {a a' : Sto} {q i' : Nat} (hp' : pbN a' i' = q * 13) (hw : a' 15 = kpW a (q * 13)) (hh : ∀ k, k ≤ 6 → a' (7 + k) = a (7 + k)) {m m' : Nat → Int32} (hm : ∀ j, j < 52 → m' j = m j) (h : HR (vw a 7) m) : HR (vP a' i') m' := by
  obtain ⟨n0, n1, n2, n3⟩ := kpW_n a (q * 13)
  have e0 := hh 0 (by decide)
  refine HR_pt (v := vw a 7) (m := m) (fun j hj => ?_) (fun d hd => ?_) (fun s hs => ?_) (fun r hr => ?_) hm h
  · show upd (upd (a' 7) 4 (a' 15 (pbN a' i'))) 6 (a' 15 (pbN a' i' + 1)) j = a 7 j
    rw [hp', hw, n0, n1, show a' 7 = a 7 from e0, upd_id, upd_id]
  · show a' (7 + 1) d = a (7 + 1) d ∧ a' (7 + 2) d = a (7 + 2) d
    rw [hh 1 (by decide), hh 2 (by decide)]
    exact ⟨rfl, rfl⟩
  · show a' (7 + 3) s = a (7 + 3) s ∧ a' 15 (pbN a' i' + 8 + s) = a 11 s ∧ a' (7 + 5) s = a (7 + 5) s
    rw [hh 3 (by decide), hh 5 (by decide), hp', hw, n3 s hs]
    exact ⟨rfl, rfl, rfl⟩
  · show a' 15 (pbN a' i' + 2 + r) = a 13 r
    rw [hp', hw, n2 r hr]
theorem rel_note {a b : Sto} (h : REL a b) : REL (kp a) (q_note b) := by
  obtain ⟨h1, h2, h3, h4, h5, h6, h7⟩ := h
  obtain ⟨w, e, hi⟩ := h5
  obtain ⟨e1, b1⟩ := vp_to w.1 (by decide)
  obtain ⟨e2, b2⟩ := vp_to w.2 (by decide)
  have hk : ∀ {k : Nat}, k ≠ 14 → k ≠ 15 → kp a k = a k := fun x y => kp_ne a x y
  have hn : ∀ {k : Nat}, k ≠ 48 → k ≠ 40 → q_note b k = b k := fun x y => note_ne b x y
  have hn40 : ∀ j, j ≠ 17 → q_note b 40 j = b 40 j := fun j hj => by
    unfold q_note
    split <;> rw [upc_same, upd_ne hj]
  refine ⟨RR_fr (a := a) (b := b) (hk (by decide) (by decide)) (hk (by decide) (by decide)) (hk (by decide) (by decide)) (hn (by decide) (by decide)) (hn (by decide) (by decide)) (hn (by decide) (by decide)) h1, RF_fr (a := a) (b := b) (by rw [hk (by decide) (by decide)]) (by rw [hk (by decide) (by decide)]) (hn40 _ (by decide)) (hn40 _ (by decide)) h2, RT_fr (a := a) (b := b) (by rw [hk (by decide) (by decide)]) (hk (by decide) (by decide)) (hn40 _ (by decide)) (hn (by decide) (by decide)) h3, RH_fr (a := a) (b := b) (fun k q => hk (by omega) (by omega)) (hn40 _ (by decide)) (hn (by decide) (by decide)) h4, ?_, RI_fr (a := a) (b := b) (fun k k1 k2 => hk (by omega) (by omega)) (hn (by decide) (by decide)) (hn (by decide) (by decide)) (by rw [hn40 _ (by decide)]; exact id) h6, RC_fr (a := a) (b := b) (by rw [hk (by decide) (by decide)]) (hk (by decide) (by decide)) (hn40 _ (by decide)) (hn (by decide) (by decide)) h7⟩
  have hh : ∀ k, k ≤ 6 → kp a (7 + k) = a (7 + k) := fun k q => hk (by omega) (by omega)
  refine ⟨wfp_kp w, ?_, ?_⟩
  · unfold kp q_note
    rw [← e]
    by_cases c : a 14 2 = 24
    · rw [if_pos (by rw [c]; decide), if_pos c]
      rw [upc_same, upc_same, upd_same, upd_ne (show (2 : Nat) ≠ 1 by decide)]
      exact c
    · rw [if_neg (fun q => by rw [e2] at q c; exact c (by rw [show (a 14 2).toNatClampNeg = 24 by have := (nI_leI (a := 24) (by decide) (by omega)).mp q; omega]; rfl)), if_neg c]
      rw [upc_same, upc_same, upd_same, upd_same]
  · by_cases c : a 14 2 = 24
    · have hkp : kp a = upc (upc a 15 (kpW a (pb (a 14 1) (a 14 2)))) 14 (upd (a 14) 1 ((a 14 1 + 1) - (a 14 1 + 1) / 24 * 24)) := by unfold kp; rw [if_pos (by rw [c]; decide)]
      have hqn : q_note b = upc (upc b 48 (va_cpy (b 44) (q_sh (b 48)) 0 (52 * 23) 52)) 40 (upd (b 40) 17 24) := by unfold q_note; rw [if_pos (by rw [← e]; exact c)]
      have t24 : (a 14 2).toNatClampNeg = 24 := by rw [c]; decide
      have hB : pb (a 14 1) (a 14 2) = (a 14 1).toNatClampNeg * 13 := by
        unfold pb
        rw [t24, Nat.add_mod_right, Nat.mod_eq_of_lt b1]
      have h15 : kp a 15 = kpW a ((a 14 1).toNatClampNeg * 13) := by rw [hkp, upc_ne (by decide), upc_same, hB]
      have h141 : kp a 14 1 = nI (((a 14 1).toNatClampNeg + 1) % 24) := by
        rw [hkp, upc_same, upd_same, e1, nI_1, show (24 : Int32) = nI 24 from rfl, pk_rem (by omega) (by decide) (by decide), nI_clamp (by omega)]
      have h142 : kp a 14 2 = a 14 2 := by rw [hkp, upc_same, upd_ne (by decide)]
      intro i hil
      rw [h142, t24] at hil
      have hpn : pbN (kp a) i = ((a 14 1).toNatClampNeg + (i + 1)) % 24 * 13 := by
        unfold pbN
        rw [h141, nI_clamp (by omega)]
        congr 1
        omega
      by_cases c2 : i = 23
      · subst c2
        refine vP_new (q := (a 14 1).toNatClampNeg) (m := b 44) (by rw [hpn]; omega) h15 hh (fun j hj => ?_) h4.1
        rw [hqn, upc_ne (by decide), upc_same]
        unfold va_cpy
        rw [if_pos (by omega), show 0 + (52 * 23 + j - 52 * 23) = j by omega]
      · refine vP_old (p := ((a 14 1).toNatClampNeg + (i + 1)) % 24) (q := (a 14 1).toNatClampNeg) (i := i + 1) (m := fun j => b 48 (52 * (i + 1) + j)) rfl hpn (by omega) h15 hh (fun j hj => ?_) (hi (i + 1) (by rw [t24]; omega))
        rw [hqn, upc_ne (by decide), upc_same]
        unfold va_cpy q_sh cpF
        rw [if_neg (by omega), if_pos (by omega)]
        congr 1
        omega
    · have hkp : kp a = upc (upc a 15 (kpW a (pb (a 14 1) (a 14 2)))) 14 (upd (a 14) 2 (a 14 2 + 1)) := by
        unfold kp
        rw [if_neg (fun q => by rw [e2] at q c; exact c (by rw [show (a 14 2).toNatClampNeg = 24 by have := (nI_leI (a := 24) (by decide) (by omega)).mp q; omega]; rfl))]
      have hqn : q_note b = upc (upc b 48 (va_cpy (b 44) (b 48) 0 (52 * (a 14 2).toNatClampNeg) 52)) 40 (upd (b 40) 17 (b 40 17 + 1)) := by unfold q_note; rw [if_neg (by rw [← e]; exact c), ← e]
      have bl : (a 14 2).toNatClampNeg < 24 := (vp_to (lt24 w.2 c) (by decide)).2
      have h15 : kp a 15 = kpW a (((a 14 1).toNatClampNeg + (a 14 2).toNatClampNeg) % 24 * 13) := by rw [hkp, upc_ne (by decide), upc_same]; rfl
      have h141 : kp a 14 1 = a 14 1 := by rw [hkp, upc_same, upd_ne (by decide)]
      have h142 : kp a 14 2 = nI ((a 14 2).toNatClampNeg + 1) := by rw [hkp, upc_same, upd_same, ← nI_1, ← e2]
      intro i hil
      rw [h142, nI_clamp (by omega)] at hil
      have hpn : pbN (kp a) i = ((a 14 1).toNatClampNeg + i) % 24 * 13 := by unfold pbN; rw [h141]
      by_cases c2 : i = (a 14 2).toNatClampNeg
      · subst c2
        refine vP_new (q := ((a 14 1).toNatClampNeg + (a 14 2).toNatClampNeg) % 24) (m := b 44) hpn h15 hh (fun j hj => ?_) h4.1
        rw [hqn, upc_ne (by decide), upc_same]
        unfold va_cpy
        rw [if_pos (by omega)]
        congr 1
        omega
      · refine vP_old (p := ((a 14 1).toNatClampNeg + i) % 24) (q := ((a 14 1).toNatClampNeg + (a 14 2).toNatClampNeg) % 24) (i := i) (m := fun j => b 48 (52 * i + j)) rfl hpn (by omega) h15 hh (fun j hj => ?_) (hi i (by omega))
        rw [hqn, upc_ne (by decide), upc_same]
        unfold va_cpy
        rw [if_neg (by omega)]
theorem hour_6 {m : Nat → Int32} (w : WFM m) : q_hour m 6 = m 6 + 1 := by
  obtain ⟨-, -, ⟨-, b4⟩, ⟨-, b5⟩⟩ := wfm_n w
  have w1 := wfm_ag (ag_h1 w) w
  have w2 := wfm_ag (ag_hd w1 _ b4) w1
  unfold q_hour
  rw [upd_same, ag_hs w2 _ b5 6 (by omega), ag_hd w1 _ b4 6 (by omega), ag_h1 w 6 (by omega)]
theorem HR_hour {v v' : Sto} {m : Nat → Int32} (h : HR v m) (h0 : ∀ j, j ≠ 4 → v' 0 j = v 0 j) (hk : ∀ k, 1 ≤ k → k ≤ 5 → v' k = v k) (h6 : v' 6 = HC v (v 6)) (h4 : v' 0 4 = v 0 4 + 1) : HR v' (q_hour m) := by
  refine ⟨HS_cg h0 hk (HS_ag (agH_hour h.1.1.2) h.1), ?_, ?_⟩
  · rw [h6]; exact CR_hour h.1 h.2.1
  · rw [h4, h.2.2, hour_6 h.1.1.2]
theorem rel_hour {a b : Sto} (h : REL a b) : REL (hrs a 7 1) (upc b 44 (q_hour (b 44))) := by
  obtain ⟨h1, h2, h3, h4, h5, h6, h7⟩ := h
  have hk : ∀ {k : Nat}, k ≠ 7 → k ≠ 13 → hrs a 7 1 k = a k := fun x y => mk_o _ _ _ _ _ x y
  have h7j : ∀ j, j ≠ 4 → hrs a 7 1 7 j = a 7 j := fun j hj => mk_hj _ _ _ _ _ hj
  refine ⟨RR_fr (a := a) (b := b) (hk (by decide) (by decide)) (hk (by decide) (by decide)) (hk (by decide) (by decide)) rfl rfl rfl h1, RF_fr (a := a) (b := b) (by rw [hk (by decide) (by decide)]) (by rw [hk (by decide) (by decide)]) rfl rfl h2, RT_fr (a := a) (b := b) (by rw [hk (by decide) (by decide)]) (hk (by decide) (by decide)) rfl rfl h3, ⟨?_, ?_⟩, RA_fr (a := a) (b := b) (fun k q q4 q6 q0 => hk (by omega) (by omega)) (fun j j4 _ => h7j j j4) (hk (by decide) (by decide)) (hk (by decide) (by decide)) rfl rfl h5, RI_fr (a := a) (b := b) (fun k k1 k2 => hk (by omega) (by omega)) rfl rfl id h6, RC_fr (a := a) (b := b) (by rw [hk (by decide) (by decide)]) (hk (by decide) (by decide)) rfl rfl h7⟩
  · rw [upc_same]
    refine HR_hour (v := vw a 7) h4.1 (fun j hj => h7j j hj) (fun k k1 k2 => hk (by omega) (by omega)) ?_ ?_
    · show hrs a 7 1 (7 + 6) = _
      unfold hrs
      rw [mk_6]
      rfl
    · show hrs a 7 1 7 4 = _
      unfold hrs
      rw [mk_h4]
      rfl
  · rw [h7j 0 (by decide)]; exact h4.2
theorem ac_eq {c m : Nat → Int32} (h : CR c m) : ∀ n, n ≤ 6 → s_ac c n = s_ac (fun r => m (7 + r)) n := by
  intro n
  induction n with
  | zero => intro _; rfl
  | succ n ih =>
    intro hn
    simp only [s_ac]
    rw [ih (by omega), (h n (by omega)).1]
theorem rel_hS {a b : Sto} (h : REL a b) (i : Nat) : REL (hS a i) (nS b i) := by
  induction i with
  | zero => exact h
  | succ i ih => exact rel_hour (rel_note ih)
theorem ac_rel {a b : Sto} (h : REL a b) : s_ac (a (7 + 6)) ((a 7 0).toNatClampNeg) = s_ac (fun r => b 44 (7 + r)) ((b 44 0).toNatClampNeg) := by
  have hr := h.2.2.2.1.1
  rw [show a 7 0 = b 44 0 from hr.1.2.1.1]
  exact ac_eq hr.2.1 _ (wfm_n hr.1.1.2).1.2
theorem rel_hours {a b : Sto} (h : REL a b) (n : Int32) : (m_hours a n).1 = (q_hours b n).1 ∧ REL (m_hours a n).2 (q_hours b n).2 := by
  have hs := st_0 h.2.2.2.1
  unfold m_hours q_hours
  by_cases c1 : b 40 4 = 0
  · rw [if_pos (hs.mpr c1), if_pos c1]; exact ⟨rfl, h⟩
  rw [if_neg (fun q => c1 (hs.mp q)), if_neg c1]
  by_cases c2 : wi n 1 24 = false
  · rw [if_pos c2, if_pos c2]; exact ⟨rfl, h⟩
  rw [if_neg c2, if_neg c2, show a 7 4 = b 44 6 from h.2.2.2.1.1.2.2]
  by_cases c3 : b 44 6 + n ≤ 999
  · rw [if_pos c3, if_pos c3]
    have hi := rel_hS h (n.toNatClampNeg)
    exact ⟨ac_rel hi, hi⟩
  · rw [if_neg c3, if_neg c3]; exact ⟨rfl, h⟩
-- doors moved
theorem nI_xor (x y : Nat) : nI (x ^^^ y) = nI x ^^^ nI y := by
  apply Int32.toBitVec_inj.mp
  show BitVec.ofNat 32 (x ^^^ y) = BitVec.ofNat 32 x ^^^ BitVec.ofNat 32 y
  exact BitVec.ofNat_xor
theorem opN_tb (m : Nat → Int32) (D d : Nat) : (opN m D).testBit d = (decide (d < D) && decide (m (29 + d) = 1)) := by
  by_cases h : d < D
  · rw [Nat.testBit_eq_decide_div_mod_eq, opN_bit m D d h, decide_eq_true h, Bool.true_and]
    split
    · rename_i q; rw [decide_eq_true q]; rfl
    · rename_i q; rw [decide_eq_false q]; rfl
  · rw [decide_eq_false h, Bool.false_and]
    exact Nat.testBit_lt_two_pow (Nat.lt_of_lt_of_le (opN_lt m D) (Nat.pow_le_pow_right (by decide) (by omega)))
theorem hs_tb {S d : Nat} (hS : S < 256) (hd : d < 8) : ((nI S >>> (nI d &&& 31)) &&& 1 == 1) = S.testBit d := by
  rw [bitI d hd S hS, Nat.testBit_eq_decide_div_mod_eq]
  have : S / 2 ^ d % 2 < 2 := Nat.mod_lt _ (by decide)
  rcases (show S / 2 ^ d % 2 = 0 ∨ S / 2 ^ d % 2 = 1 by omega) with q | q <;> rw [q] <;> rfl
theorem tu_at (m : Nat → Int32) (s : Int32) : ∀ D d, d < D → q_tu m s D (29 + d) = if ((s >>> (nI d &&& 31)) &&& 1 == 1) = true then 1 - m (29 + d) else m (29 + d) := by
  intro D
  induction D with
  | zero => intro d h; exact absurd h (Nat.not_lt_zero _)
  | succ D ih =>
    intro d hd
    show upd (q_tu m s D) (29 + D) _ (29 + d) = _
    by_cases e : d = D
    · subst e
      rw [upd_same, ag_tu m s d (29 + d) (by omega)]
    · rw [upd_ne (by omega)]
      exact ih d (by omega)
theorem fl01 {x : Int32} (h : x = 0 ∨ x = 1) : (1 - x = 0 ∨ 1 - x = 1) ∧ (1 - x = 1 ↔ ¬ x = 1) := by
  rcases h with rfl | rfl <;> decide
theorem tu_01 {m : Nat → Int32} (hb : ∀ d, d < 8 → m (29 + d) = 0 ∨ m (29 + d) = 1) (s : Int32) (D : Nat) : ∀ d, d < 8 → q_tu m s D (29 + d) = 0 ∨ q_tu m s D (29 + d) = 1 := by
  intro d hd
  by_cases h : d < D
  · rw [tu_at m s D d h]
    split
    · exact (fl01 (hb d hd)).1
    · exact hb d hd
  · rw [ag_tu m s D (29 + d) (by omega)]
    exact hb d hd
theorem tu_N {m : Nat → Int32} (hb : ∀ d, d < 8 → m (29 + d) = 0 ∨ m (29 + d) = 1) {S D : Nat} (hD : D ≤ 8) (hS : S < 2 ^ D) : opN (q_tu m (nI S) D) D = opN m D ^^^ S := by
  have hp := pw8 hD
  apply Nat.eq_of_testBit_eq
  intro d
  rw [Nat.testBit_xor, opN_tb, opN_tb]
  by_cases h : d < D
  · rw [decide_eq_true h, Bool.true_and, Bool.true_and, tu_at m _ D d h, hs_tb (by omega) (by omega)]
    cases S.testBit d
    · rw [if_neg (by decide), Bool.xor_false]
    · rw [if_pos rfl, Bool.xor_true]
      have := (fl01 (hb d (by omega))).2
      by_cases q : m (29 + d) = 1
      · rw [decide_eq_true q, decide_eq_false (fun z => (this.mp z) q)]; rfl
      · rw [decide_eq_false q, decide_eq_true (this.mpr q)]; rfl
  · rw [decide_eq_false h, Bool.false_and, Bool.false_and, Nat.testBit_lt_two_pow (Nat.lt_of_lt_of_le hS (Nat.pow_le_pow_right (by decide) (by omega)))]
    rfl
theorem tu_M {m : Nat → Int32} (hb : ∀ d, d < 8 → m (29 + d) = 0 ∨ m (29 + d) = 1) {S D : Nat} (hD : D ≤ 8) (hS : S < 2 ^ D) : s_opM (q_tu m (nI S) D) D = s_opM m D ^^^ nI S := by
  rw [opM_N (tu_01 hb _ D) D hD, opM_N hb D hD, tu_N hb hD hS, nI_xor]
theorem HS_tu {v : Sto} {m : Nat → Int32} (h : HS v m) {S : Nat} (hS : S < 2 ^ (m 4).toNatClampNeg) : HS (vDoors v (nI S)) (q_tu m (nI S) ((m 4).toNatClampNeg)) := by
  obtain ⟨⟨w1, w2⟩, e, hd, ⟨ho, hp⟩, hs, hx⟩ := h
  have b4 := (wfm_n w2).2.2.1.2
  have b5 := (wfm_n w2).2.2.2.2
  have ag : ∀ j, ¬ (29 ≤ j ∧ j < 29 + (m 4).toNatClampNeg) → q_tu m (nI S) ((m 4).toNatClampNeg) j = m j := ag_tu m (nI S) ((m 4).toNatClampNeg)
  refine ⟨⟨wfv_mv w1 _, wfm_tu w2 _ _ b4⟩, ?_, ?_, ⟨tu_01 ho _ _, ?_⟩, ?_, ?_⟩
  · rw [ag 0 (by omega), ag 1 (by omega), ag 2 (by omega), ag 3 (by omega), ag 4 (by omega), ag 5 (by omega)]
    exact e
  · rw [ag 4 (by omega)]
    intro d q
    rw [ag (13 + d) (by omega), ag (21 + d) (by omega)]
    exact hd d q
  · rw [ag 4 (by omega), tu_M ho b4 hS, ← hp]
    rfl
  · rw [ag 5 (by omega)]
    intro s q
    rw [ag (37 + s) (by omega), ag (42 + s) (by omega), ag (47 + s) (by omega)]
    exact hs s q
  · rw [ag 2 (by omega), ag 5 (by omega), ag 0 (by omega)]
    exact ⟨hx.1, hx.2.1, DE_ag (ag 4 (by omega)) (ag 0 (by omega)) (fun d hd => ⟨ag (13 + d) (by omega), ag (21 + d) (by omega)⟩) b4 hx.2.2⟩
theorem CR_tu {c m : Nat → Int32} (h : CR c m) (s : Int32) (D : Nat) : CR c (q_tu m s D) := CR_ag h (fun r hr => ag_tu m s D (7 + r) (by omega))
theorem tu_one {m : Nat → Int32} {D d : Nat} (hD : D ≤ 8) (hd : d < D) : q_tu m (nI (2 ^ d)) D = upd m (29 + d) (1 - m (29 + d)) := by
  have hp := Nat.pow_lt_pow_right (a := 2) (by decide) (show d < 8 by omega)
  funext j
  by_cases h : 29 ≤ j ∧ j < 29 + D
  · obtain ⟨t, rfl⟩ : ∃ t, j = 29 + t := ⟨j - 29, by omega⟩
    rw [tu_at m _ D t (by omega), hs_tb (by omega) (by omega), Nat.testBit_two_pow]
    by_cases e : d = t
    · subst e
      rw [if_pos (by simp), upd_same]
    · rw [if_neg (by simpa using e), upd_ne (by omega)]
  · rw [ag_tu m _ D j h, upd_ne (by omega)]
theorem HS_sit {v : Sto} {m : Nat → Int32} (h : HS v m) {s : Nat} (hs5 : s < 5) {r : Int32} (hr : vp_in r 6) : HS (vSit v s r) (upd m (42 + s) r) := by
  obtain ⟨⟨w1, w2⟩, e, hd, ⟨ho, hp⟩, hs, hx⟩ := h
  have b4 := (wfm_n w2).2.2.1.2
  have b5 := (wfm_n w2).2.2.2.2
  refine ⟨⟨wfv_sit w1 hr, wfm_sit w2 hs5 hr⟩, ?_, ?_, ⟨?_, ?_⟩, ?_, ?_⟩
  · rw [upd_ne (by omega), upd_ne (by omega), upd_ne (by omega), upd_ne (by omega), upd_ne (by omega), upd_ne (by omega)]
    exact e
  · rw [upd_ne (by omega)]
    intro d q
    rw [upd_ne (by omega), upd_ne (by omega)]
    exact hd d q
  · intro d q
    rw [upd_ne (by omega)]
    exact ho d q
  · rw [upd_ne (by omega), opM_ag _ (fun d hd => upd_ne (by omega))]
    exact hp
  · rw [upd_ne (by omega)]
    intro t q
    rw [upd_ne (show 37 + t ≠ 42 + s by omega), upd_ne (show 47 + t ≠ 42 + s by omega)]
    obtain ⟨q1, q2, q3, q4⟩ := hs t q
    refine ⟨q1, ?_, q3, q4⟩
    show upd (v 4) s r t = upd m (42 + s) r (42 + t)
    by_cases z : t = s
    · subst z; rw [upd_same, upd_same]
    · rw [upd_ne z, upd_ne (by omega)]; exact q2
  · rw [upd_ne (by omega), upd_ne (by omega), upd_ne (by omega)]
    exact ⟨hx.1, hx.2.1, DE_ag (upd_ne (by omega)) (upd_ne (by omega)) (fun d hd => ⟨upd_ne (by omega), upd_ne (by omega)⟩) b4 hx.2.2⟩
theorem HS_kind {v : Sto} {m : Nat → Int32} (h : HS v m) {s : Nat} (hs5 : s < 5) {k : Int32} (hk : 1 ≤ k ∧ k ≤ 5) (hk6 : vp_in k 6) : HS (vKind v s k) (upd m (37 + s) k) := by
  obtain ⟨⟨w1, w2⟩, e, hd, ⟨ho, hp⟩, hs, hx⟩ := h
  have b4 := (wfm_n w2).2.2.1.2
  have b5 := (wfm_n w2).2.2.2.2
  refine ⟨⟨wfv_kind w1 hk6, wfm_kind w2 hs5⟩, ?_, ?_, ⟨?_, ?_⟩, ?_, ?_⟩
  · rw [upd_ne (by omega), upd_ne (by omega), upd_ne (by omega), upd_ne (by omega), upd_ne (by omega), upd_ne (by omega)]
    exact e
  · rw [upd_ne (by omega)]
    intro d q
    rw [upd_ne (by omega), upd_ne (by omega)]
    exact hd d q
  · intro d q
    rw [upd_ne (by omega)]
    exact ho d q
  · rw [upd_ne (by omega), opM_ag _ (fun d hd => upd_ne (by omega))]
    exact hp
  · rw [upd_ne (by omega)]
    intro t q
    rw [upd_ne (show 42 + t ≠ 37 + s by omega), upd_ne (show 47 + t ≠ 37 + s by omega)]
    obtain ⟨q1, q2, q3, q4⟩ := hs t q
    show upd (v 3) s k t = upd m (37 + s) k (37 + t) ∧ v 4 t = _ ∧ v 5 t = _ ∧ (1 ≤ upd (v 3) s k t ∧ upd (v 3) s k t ≤ 5)
    by_cases z : t = s
    · subst z; rw [upd_same, upd_same]; exact ⟨rfl, q2, q3, hk⟩
    · rw [upd_ne z, upd_ne (by omega)]; exact ⟨q1, q2, q3, q4⟩
  · rw [upd_ne (by omega), upd_ne (by omega), upd_ne (by omega)]
    exact ⟨hx.1, hx.2.1, DE_ag (upd_ne (by omega)) (upd_ne (by omega)) (fun d hd => ⟨upd_ne (by omega), upd_ne (by omega)⟩) b4 hx.2.2⟩
theorem HS_in {v : Sto} {m : Nat → Int32} (h : HS v m) {r : Int32} (hr : vp_in r 6) : HS (vIn v r) (upd m 1 r) := by
  obtain ⟨⟨w1, w2⟩, e, hd, ⟨ho, hp⟩, hs, hx⟩ := h
  have b4 := (wfm_n w2).2.2.1.2
  refine ⟨⟨wfv_in w1 hr, wfm_in w2 hr⟩, ?_, ?_, ⟨?_, ?_⟩, ?_, ?_⟩
  · rw [upd_same, upd_ne (by omega), upd_ne (by omega), upd_ne (by omega), upd_ne (by omega), upd_ne (by omega)]
    exact ⟨e.1, rfl, e.2.2⟩
  · rw [upd_ne (by omega)]
    intro d q
    rw [upd_ne (by omega), upd_ne (by omega)]
    exact hd d q
  · intro d q
    rw [upd_ne (by omega)]
    exact ho d q
  · rw [upd_ne (by omega), opM_ag _ (fun d hd => upd_ne (by omega))]
    exact hp
  · rw [upd_ne (by omega)]
    intro t q
    rw [upd_ne (by omega), upd_ne (by omega), upd_ne (by omega)]
    exact hs t q
  · rw [upd_ne (by omega), upd_ne (by omega), upd_ne (by omega)]
    exact ⟨hx.1, hx.2.1, DE_ag (upd_ne (by omega)) (upd_ne (by omega)) (fun d hd => ⟨upd_ne (by omega), upd_ne (by omega)⟩) b4 hx.2.2⟩
/-- a house changed on both sides, its act kept: what stays of the relation -/
theorem REL_act {a b a' b' : Sto} (h : REL a b) (ha : ∀ k, k ≠ 7 → k ≠ 11 → k ≠ 13 → a' k = a k) (h7 : ∀ j, j ≠ 4 → j ≠ 6 → a' 7 j = a 7 j) (hb : ∀ k, k ≠ 44 → b' k = b k) (hr : HR (vw a' 7) (b' 44)) : REL a' b' := by
  obtain ⟨h1, h2, h3, h4, h5, h6, h7'⟩ := h
  have q40 := hb 40 (by decide)
  refine ⟨RR_fr (a := a) (b := b) (ha _ (by decide) (by decide) (by decide)) (ha _ (by decide) (by decide) (by decide)) (ha _ (by decide) (by decide) (by decide)) (hb _ (by decide)) (hb _ (by decide)) (hb _ (by decide)) h1, RF_fr (a := a) (b := b) (by rw [ha _ (by decide) (by decide) (by decide)]) (by rw [ha _ (by decide) (by decide) (by decide)]) (by rw [q40]) (by rw [q40]) h2, RT_fr (a := a) (b := b) (by rw [ha _ (by decide) (by decide) (by decide)]) (ha _ (by decide) (by decide) (by decide)) (by rw [q40]) (hb _ (by decide)) h3, ⟨hr, ?_⟩, RA_fr (a := a) (b := b) (fun k q q4 q6 q0 => ha _ (by omega) (by omega) (by omega)) h7 (ha _ (by decide) (by decide) (by decide)) (ha _ (by decide) (by decide) (by decide)) (by rw [q40]) (hb _ (by decide)) h5, RI_fr (a := a) (b := b) (fun k k1 k2 => ha _ (by omega) (by omega) (by omega)) (hb _ (by decide)) (hb _ (by decide)) (by rw [q40]; exact id) h6, RC_fr (a := a) (b := b) (by rw [ha _ (by decide) (by decide) (by decide)]) (ha _ (by decide) (by decide) (by decide)) (by rw [q40]) (hb _ (by decide)) h7'⟩
  rw [q40, h7 0 (by decide) (by decide)]
  exact h4.2
theorem door_wi {a b : Sto} (h : HR (vw a 7) (b 44)) (d : Int32) : s_lt d (a 7 5) = wi d 0 (b 44 4 - 1) := by
  rw [show a 7 5 = b 44 4 from h.1.2.1.2.2.2.2.1]
  exact lt_wi (K := 9) (by decide) h.1.1.2.1.2.2.1
theorem room_wi {a b : Sto} (h : HR (vw a 7) (b 44)) (d : Int32) : s_lt d (a 7 0) = wi d 0 (b 44 0 - 1) := by
  rw [show a 7 0 = b 44 0 from h.1.2.1.1]
  exact lt_wi (K := 7) (by decide) h.1.1.2.1.1
theorem sit_wi {a b : Sto} (h : HR (vw a 7) (b 44)) (d : Int32) : s_lt d (a 7 7) = wi d 0 (b 44 5 - 1) := by
  rw [show a 7 7 = b 44 5 from h.1.2.1.2.2.2.2.2]
  exact lt_wi (K := 6) (by decide) h.1.1.2.1.2.2.2
/-- a number that is told of something of which there are n -/
theorem wi_lt {d n : Int32} {K : Nat} (hK : K < 2 ^ 30) (hn : vp_in n K) (h : ¬ wi d 0 (n - 1) = false) : d = nI (d.toNatClampNeg) ∧ d.toNatClampNeg < n.toNatClampNeg := by
  rw [← lt_wi hK hn] at h
  have h : s_lt d n = true := by simpa using h
  simp only [s_lt, Bool.and_eq_true, decide_eq_true_eq] at h
  obtain ⟨e, hl⟩ := nn_to (Int32.not_lt.mpr h.1)
  obtain ⟨e2, hl2⟩ := vp_to hn (by omega)
  have h2 := h.2
  rw [e, e2] at h2
  exact ⟨e, (nI_ltI hl (by omega)).mp h2⟩
theorem opB_M {a b : Sto} (h : HR (vw a 7) (b 44)) {d : Int32} (hd : d = nI (d.toNatClampNeg) ∧ d.toNatClampNeg < (b 44 4).toNatClampNeg) : bI (opB a d) = b 44 (29 + d.toNatClampNeg) ∧ (a 7 6 >>> (d &&& 31)) &&& 1 = b 44 (29 + d.toNatClampNeg) := by
  have b4 := (wfm_n h.1.1.2).2.2.1.2
  have e : (a 7 6 >>> (d &&& 31)) &&& 1 = b 44 (29 + d.toNatClampNeg) := by
    rw [show a 7 6 = s_opM (b 44) ((b 44 4).toNatClampNeg) from h.1.2.2.2.1.2, hd.1, op_bit h.1.2.2.2.1.1 b4 hd.2, nI_clamp (by omega)]
  refine ⟨?_, e⟩
  unfold opB
  rw [e]
  rcases h.1.2.2.2.1.1 (d.toNatClampNeg) (by omega) with q | q <;> rw [q] <;> rfl
theorem rel_door {a b : Sto} (h : REL a b) (d o : Int32) : (m_door a d o).1 = (q_door b d o).1 ∧ REL (m_door a d o).2 (q_door b d o).2 := by
  have hr := h.2.2.2.1.1
  have b4 := (wfm_n hr.1.1.2).2.2.1.2
  unfold m_door q_door
  rw [door_wi hr]
  by_cases c1 : wi d 0 (b 44 4 - 1) = false
  · rw [if_pos c1, if_pos c1]; exact ⟨rfl, h⟩
  rw [if_neg c1, if_neg c1]
  by_cases c2 : wi o 0 1 = false
  · rw [if_pos c2, if_pos c2]; exact ⟨rfl, h⟩
  rw [if_neg c2, if_neg c2]
  have hd := wi_lt (K := 9) (by decide) hr.1.1.2.1.2.2.1 c1
  have ho := (opB_M hr hd).1
  rw [ho]
  have e01 := hr.1.2.2.2.1.1 (d.toNatClampNeg) (by omega)
  have key : ¬ b 44 (29 + d.toNatClampNeg) = o → drS a d 7 6 = s_opM (doS b d o 44) ((doS b d o 44 4).toNatClampNeg) ∧ REL (drS a d) (doS b d o) := by
    intro q
    have hn := rel_note h
    have ho1 : o = 1 - b 44 (29 + d.toNatClampNeg) := by
      rcases wi01 (by simpa using c2) with z | z <;> rcases e01 with y | y <;> rw [z] at q ⊢ <;> rw [y] at q ⊢ <;> first | exact absurd rfl q | rfl
    have hm : upd (b 44) (29 + d.toNatClampNeg) o = q_tu (b 44) (nI (2 ^ d.toNatClampNeg)) ((b 44 4).toNatClampNeg) := by rw [ho1, tu_one b4 hd.2]
    have hS : 2 ^ d.toNatClampNeg < 2 ^ (b 44 4).toNatClampNeg := Nat.pow_lt_pow_right (by decide) hd.2
    have hsh : (1 : Int32) <<< (d &&& 31) = nI (2 ^ d.toNatClampNeg) := by
      have := sh1 (D := d.toNatClampNeg) (by omega)
      rw [← hd.1] at this
      exact this
    have hHS := HS_tu hr.1 hS
    have hCR := CR_tu hr.2.1 (nI (2 ^ d.toNatClampNeg)) ((b 44 4).toNatClampNeg)
    have k7 : kp a 7 = a 7 := kp_ne a (by decide) (by decide)
    have hr2 : HR (vw (drS a d) 7) (doS b d o 44) := by
      unfold doS
      rw [upc_same, hm]
      refine ⟨HS_cg (v := vDoors (vw a 7) (nI (2 ^ d.toNatClampNeg))) (fun j hj => ?_) (fun k k1 k2 => ?_) hHS, ?_, ?_⟩
      · show upc (kp a) 7 _ 7 j = upc (vw a 7) 0 _ 0 j
        rw [upc_same, upc_same, k7, hsh]
        rfl
      · show upc (kp a) 7 _ (7 + k) = upc (vw a 7) 0 _ k
        rw [upc_ne (by omega), upc_ne (by omega), kp_ne a (by omega) (by omega)]
        rfl
      · show CR (drS a d (7 + 6)) _
        unfold drS
        rw [upc_ne (by decide), kp_ne a (by decide) (by decide)]
        exact hCR
      · show drS a d 7 4 = _
        unfold drS
        rw [upc_same, upd_ne (by decide), k7, ag_tu _ _ _ 6 (by omega)]
        exact hr.2.2
    refine ⟨?_, ?_⟩
    · exact hr2.1.2.2.2.1.2
    · refine REL_act hn (fun k q7 q11 q13 => upc_ne q7) (fun j j4 j6 => ?_) (fun k q44 => upc_ne q44) hr2
      show upc (kp a) 7 _ 7 j = _
      rw [upc_same, upd_ne j6]
  rcases wi01 (by simpa using c2) with z | z
  · subst z
    rw [if_neg (by decide)]
    by_cases q : b 44 (29 + d.toNatClampNeg) = 0
    · rw [if_pos q, if_pos q]; exact ⟨rfl, h⟩
    · rw [if_neg q, if_neg q]; exact key q
  · subst z
    rw [if_pos rfl]
    by_cases q : b 44 (29 + d.toNatClampNeg) = 1
    · rw [if_pos q, if_pos q]; exact ⟨rfl, h⟩
    · rw [if_neg q, if_neg q]; exact key q
theorem rel_sit {a b : Sto} (h : REL a b) (s r : Int32) : (m_sit a s r).1 = (q_sit b s r).1 ∧ REL (m_sit a s r).2 (q_sit b s r).2 := by
  have hr := h.2.2.2.1.1
  have b5 := (wfm_n hr.1.1.2).2.2.2.2
  unfold m_sit q_sit
  rw [sit_wi hr, room_wi hr]
  by_cases c1 : wi s 0 (b 44 5 - 1) = false
  · rw [if_pos c1, if_pos c1]; exact ⟨rfl, h⟩
  rw [if_neg c1, if_neg c1]
  by_cases c2 : wi r 0 (b 44 0 - 1) = false
  · rw [if_pos c2, if_pos c2]; exact ⟨rfl, h⟩
  rw [if_neg c2, if_neg c2]
  have hs := wi_lt (K := 6) (by decide) hr.1.1.2.1.2.2.2 c1
  have hrm := wi_m1 (N := 6) (by decide) hr.1.1.2.1.1 (by simpa using c2)
  have e4 : a (7 + 4) (s.toNatClampNeg) = b 44 (42 + s.toNatClampNeg) := (hr.1.2.2.2.2.1 (s.toNatClampNeg) hs.2).2.1
  rw [e4]
  by_cases c3 : b 44 (42 + s.toNatClampNeg) = r
  · rw [if_pos c3, if_pos c3]; exact ⟨rfl, h⟩
  rw [if_neg c3, if_neg c3]
  dsimp only
  refine ⟨rfl, REL_act (rel_note h) (fun k q7 q11 q13 => upc_ne q11) (fun j j4 j6 => by rw [upc_ne (by decide)]) (fun k q44 => upc_ne q44) ?_⟩
  show HR _ (upc (q_note b) 44 _ 44)
  rw [upc_same]
  refine ⟨HS_cg (v := vSit (vw a 7) (s.toNatClampNeg) r) (fun j hj => ?_) (fun k k1 k2 => ?_) (HS_sit hr.1 (by omega) hrm), ?_, ?_⟩
  · show upc (kp a) (7 + 4) _ 7 j = upc (vw a 7) 4 _ 0 j
    rw [upc_ne (by decide), upc_ne (by decide), kp_ne a (by decide) (by decide)]
    rfl
  · show upc (kp a) (7 + 4) _ (7 + k) = upc (vw a 7) 4 _ k
    by_cases z : k = 4
    · subst z
      rw [upc_same, upc_same, kp_ne a (by decide) (by decide)]
      rfl
    · rw [upc_ne (by omega), upc_ne z, kp_ne a (by omega) (by omega)]
      rfl
  · show CR (upc (kp a) (7 + 4) _ (7 + 6)) _
    rw [upc_ne (by decide), kp_ne a (by decide) (by decide)]
    exact CR_o hr.2.1 (by omega) _
  · show upc (kp a) (7 + 4) _ 7 4 = _
    rw [upc_ne (by decide), kp_ne a (by decide) (by decide), upd_ne (by omega)]
    exact hr.2.2
