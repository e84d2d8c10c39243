theorem wi_c1 {u : Int32} (h : wi u 0 1 = true) : u = 0 ∨ u = 1 := by
  obtain ⟨e, hl⟩ := vp_to (wi_in (N := 2) h (by decide) (by decide)) (by decide)
  rw [e]
  rcases (show u.toNatClampNeg = 0 ∨ u.toNatClampNeg = 1 by omega) with q | q <;> rw [q] <;> decide
theorem wi_c2 {u : Int32} (h : wi u 0 2 = true) : u = 0 ∨ u = 1 ∨ u = 2 := by
  obtain ⟨e, hl⟩ := vp_to (wi_in (N := 3) h (by decide) (by decide)) (by decide)
  rw [e]
  rcases (show u.toNatClampNeg = 0 ∨ u.toNatClampNeg = 1 ∨ u.toNatClampNeg = 2 by omega) with q | q | q <;> rw [q] <;> decide
theorem wi_c4 {u : Int32} (h : wi u 0 4 = true) : u = 0 ∨ u = 1 ∨ u = 2 ∨ u = 3 ∨ u = 4 := by
  obtain ⟨e, hl⟩ := vp_to (wi_in (N := 5) h (by decide) (by decide)) (by decide)
  rw [e]
  rcases (show u.toNatClampNeg = 0 ∨ u.toNatClampNeg = 1 ∨ u.toNatClampNeg = 2 ∨ u.toNatClampNeg = 3 ∨ u.toNatClampNeg = 4 by omega) with q | q | q | q | q <;> rw [q] <;> decide
theorem wi_c5 {u : Int32} (h : wi u 0 5 = true) : u = 0 ∨ u = 1 ∨ u = 2 ∨ u = 3 ∨ u = 4 ∨ u = 5 := by
  obtain ⟨e, hl⟩ := vp_to (wi_in (N := 6) h (by decide) (by decide)) (by decide)
  rw [e]
  rcases (show u.toNatClampNeg = 0 ∨ u.toNatClampNeg = 1 ∨ u.toNatClampNeg = 2 ∨ u.toNatClampNeg = 3 ∨ u.toNatClampNeg = 4 ∨ u.toNatClampNeg = 5 by omega) with q | q | q | q | q | q <;> rw [q] <;> decide
theorem si_cg {pl pl' : Nat → Int32} (r : Int32) : ∀ n, (∀ i, i < n → pl i = pl' i) → s_si pl r n = s_si pl' r n := by
  intro n
  induction n with
  | zero => intro _; rfl
  | succ n ih =>
    intro h
    simp only [s_si]
    rw [ih (fun i hi => h i (by omega)), h n (by omega)]
theorem do_cg {p1 p1' p2 p2' : Nat → Int32} (r : Int32) : ∀ n, (∀ i, i < n → p1 i = p1' i ∧ p2 i = p2' i) → s_do p1 p2 r n = s_do p1' p2' r n := by
  intro n
  induction n with
  | zero => intro _; rfl
  | succ n ih =>
    intro h
    simp only [s_do]
    rw [ih (fun i hi => h i (by omega)), (h n (by omega)).1, (h n (by omega)).2]
theorem rel_room {a b : Sto} (h : REL a b) (r u : Int32) : (m_room a r u).1 = (q_room b r u).1 ∧ REL (m_room a r u).2 (q_room b r u).2 := by
  have hr := h.2.2.2.1.1
  have hs := st_0 h.2.2.2.1
  unfold m_room q_room
  by_cases c1 : b 40 4 = 0
  · rw [if_pos (hs.mpr c1), if_pos c1]; exact ⟨rfl, h⟩
  rw [if_neg (fun q => c1 (hs.mp q)), if_neg c1, room_wi hr]
  by_cases c2 : wi r 0 (b 44 0 - 1) = false
  · rw [if_pos c2, if_pos c2]; exact ⟨rfl, h⟩
  rw [if_neg c2, if_neg c2]
  have hd := wi_lt (K := 7) (by decide) hr.1.1.2.1.1 c2
  have b0 := (wfm_n hr.1.1.2).1.2
  have hrm : vp_in r 6 := by rw [hd.1]; exact vp_in_nI (by omega) (by decide)
  by_cases c0 : wi u 0 4 = false
  · rw [if_pos c0]
    have n0 : ¬ u = 0 := fun e => by rw [e] at c0; exact absurd c0 (by decide)
    have n1 : ¬ u = 1 := fun e => by rw [e] at c0; exact absurd c0 (by decide)
    have n2 : ¬ u = 2 := fun e => by rw [e] at c0; exact absurd c0 (by decide)
    have n3 : ¬ u = 3 := fun e => by rw [e] at c0; exact absurd c0 (by decide)
    have n4 : ¬ u = 4 := fun e => by rw [e] at c0; exact absurd c0 (by decide)
    rw [if_neg n0, if_neg n1, if_neg n2, if_neg n3, if_neg n4]; exact ⟨rfl, h⟩
  · rw [if_neg c0]
    have e7 : a 7 7 = b 44 5 := hr.1.2.1.2.2.2.2.2
    have e5 : a 7 5 = b 44 4 := hr.1.2.1.2.2.2.2.1
    rcases wi_c4 (by simpa using c0) with q | q | q | q | q <;> subst q
    · exact ⟨(hr.2.1 (r.toNatClampNeg) (by omega)).1, h⟩
    · refine ⟨?_, h⟩
      show s_si (a (7 + 4)) r ((a 7 7).toNatClampNeg) = s_si (fun p => b 44 (42 + p)) r ((b 44 5).toNatClampNeg)
      rw [e7]
      exact si_cg r _ (fun i hi => (hr.1.2.2.2.2.1 i hi).2.1)
    · refine ⟨?_, h⟩
      exact kept_0 hr.1 hrm (Or.inl ⟨rfl, rfl⟩)
    · refine ⟨?_, h⟩
      exact kept_0 hr.1 hrm (Or.inr ⟨rfl, rfl⟩)
    · refine ⟨?_, h⟩
      show s_do (a (7 + 1)) (a (7 + 2)) r ((a 7 5).toNatClampNeg) = s_do (fun d => b 44 (13 + d)) (fun d => b 44 (21 + d)) r ((b 44 4).toNatClampNeg)
      rw [e5]
      exact do_cg r _ (fun i hi => hr.1.2.2.1 i hi)
theorem rel_doorHas {a b : Sto} (h : REL a b) (d u : Int32) : (m_doorHas a d u).1 = (q_doorHas b d u).1 ∧ REL (m_doorHas a d u).2 (q_doorHas b d u).2 := by
  have hr := h.2.2.2.1.1
  unfold m_doorHas q_doorHas
  rw [door_wi hr]
  by_cases c1 : wi d 0 (b 44 4 - 1) = false
  · rw [if_pos c1, if_pos c1]; exact ⟨rfl, h⟩
  rw [if_neg c1, if_neg c1]
  have hd := wi_lt (K := 9) (by decide) hr.1.1.2.1.2.2.1 c1
  by_cases c0 : wi u 0 2 = false
  · rw [if_pos c0]
    have n0 : ¬ u = 0 := fun e => by rw [e] at c0; exact absurd c0 (by decide)
    have n1 : ¬ u = 1 := fun e => by rw [e] at c0; exact absurd c0 (by decide)
    have n2 : ¬ u = 2 := fun e => by rw [e] at c0; exact absurd c0 (by decide)
    rw [if_neg n0, if_neg n1, if_neg n2]; exact ⟨rfl, h⟩
  · rw [if_neg c0]
    rcases wi_c2 (by simpa using c0) with q | q | q <;> subst q
    · exact ⟨(hr.1.2.2.1 (d.toNatClampNeg) hd.2).1, h⟩
    · exact ⟨(hr.1.2.2.1 (d.toNatClampNeg) hd.2).2, h⟩
    · exact ⟨(opB_M hr hd).1, h⟩
theorem cld_eq {v : Sto} {c m : Nat → Int32} (h : HS v m) (hc : CR c m) {s : Nat} (hs : s < (m 5).toNatClampNeg) : decide (v 0 3 < c ((v 4 s).toNatClampNeg)) = cldM m s := by
  have b5 := (wfm_n h.1.2).2.2.2.2
  unfold cldM
  rw [h.2.1.2.2.2.1, (hc _ (vp_to (HS_s h hs).2 (by decide)).2).1, (h.2.2.2.2.1 s hs).2.1]
theorem rel_sitter {a b : Sto} (h : REL a b) (s u : Int32) : (m_sitter a s u).1 = (q_sitter b s u).1 ∧ REL (m_sitter a s u).2 (q_sitter b s u).2 := by
  have hr := h.2.2.2.1.1
  unfold m_sitter q_sitter
  rw [sit_wi hr]
  by_cases c1 : wi s 0 (b 44 5 - 1) = false
  · rw [if_pos c1, if_pos c1]; exact ⟨rfl, h⟩
  rw [if_neg c1, if_neg c1]
  have hd := wi_lt (K := 6) (by decide) hr.1.1.2.1.2.2.2 c1
  by_cases c0 : wi u 0 2 = false
  · rw [if_pos c0]
    have n0 : ¬ u = 0 := fun e => by rw [e] at c0; exact absurd c0 (by decide)
    have n1 : ¬ u = 1 := fun e => by rw [e] at c0; exact absurd c0 (by decide)
    have n2 : ¬ u = 2 := fun e => by rw [e] at c0; exact absurd c0 (by decide)
    rw [if_neg n0, if_neg n1, if_neg n2]; exact ⟨rfl, h⟩
  · rw [if_neg c0]
    rcases wi_c2 (by simpa using c0) with q | q | q <;> subst q
    · exact ⟨(hr.1.2.2.2.2.1 (s.toNatClampNeg) hd.2).2.1, h⟩
    · exact ⟨(hr.1.2.2.2.2.1 (s.toNatClampNeg) hd.2).2.2.1, h⟩
    · exact ⟨congrArg bI (cld_eq hr.1 hr.2.1 hd.2), h⟩
theorem rel_kind {a b : Sto} (h : REL a b) (s : Int32) : (m_kind a s).1 = (q_kind b s).1 ∧ REL (m_kind a s).2 (q_kind b s).2 := by
  have hr := h.2.2.2.1.1
  unfold m_kind q_kind
  rw [sit_wi hr]
  by_cases c1 : wi s 0 (b 44 5 - 1) = false
  · rw [if_pos c1, if_pos c1]; exact ⟨rfl, h⟩
  rw [if_neg c1, if_neg c1]
  have hd := wi_lt (K := 6) (by decide) hr.1.1.2.1.2.2.2 c1
  exact ⟨(hr.1.2.2.2.2.1 (s.toNatClampNeg) hd.2).1, h⟩
theorem isA_K {k o : Int32} (hk : 1 ≤ k ∧ k ≤ 5) (ho : wi o 0 5 = true) : s_isA k o = isK k o := by
  rcases kd_rg hk with rfl | rfl | rfl | rfl | rfl <;> rcases wi_c5 ho with rfl | rfl | rfl | rfl | rfl | rfl <;> decide
theorem rel_as {a b : Sto} (h : REL a b) (s k : Int32) : (m_as a s k).1 = (q_as b s k).1 ∧ REL (m_as a s k).2 (q_as b s k).2 := by
  have hr := h.2.2.2.1.1
  unfold m_as q_as
  rw [sit_wi hr]
  by_cases c1 : wi s 0 (b 44 5 - 1) = false
  · rw [if_pos c1, if_pos c1]; exact ⟨rfl, h⟩
  rw [if_neg c1, if_neg c1]
  by_cases c2 : wi k 0 5 = false
  · rw [if_pos c2, if_pos c2]; exact ⟨rfl, h⟩
  rw [if_neg c2, if_neg c2]
  have hd := wi_lt (K := 6) (by decide) hr.1.1.2.1.2.2.2 c1
  obtain ⟨q1, -, -, q4⟩ := hr.1.2.2.2.2.1 (s.toNatClampNeg) hd.2
  rw [isA_K (k := a (7 + 3) (s.toNatClampNeg)) q4 (by simpa using c2), show a (7 + 3) (s.toNatClampNeg) = b 44 (37 + s.toNatClampNeg) from q1]
  by_cases c3 : isK (b 44 (37 + s.toNatClampNeg)) k = false
  · rw [if_pos c3, if_pos c3]; exact ⟨rfl, REL_f h 3⟩
  · rw [if_neg c3, if_neg c3]; exact ⟨rfl, REL_f h 0⟩
theorem cnt_eq {f g : Nat → Int32} : ∀ n, (∀ i, i < n → f i = g i ∧ (f i = -1 ∨ vp_in (f i) 41)) → s_count f n = cntM g n := by
  intro n
  induction n with
  | zero => intro _; rfl
  | succ n ih =>
    intro h
    simp only [s_count, cntM]
    rw [ih (fun i hi => h i (by omega)), ← (h n (by omega)).1]
    rcases (h n (by omega)).2 with q | q
    · rw [q, if_pos rfl, if_pos (by decide)]
    · have h1 : ¬ f n < 0 := fun z => q (Or.inl z)
      rw [if_neg h1, if_neg (fun z => h1 (by rw [z]; decide))]
theorem rel_count {a b : Sto} (h : REL a b) (u : Int32) : (m_count a u).1 = (q_count b u).1 ∧ REL (m_count a u).2 (q_count b u).2 := by
  have hr := h.2.2.2.1.1
  unfold m_count q_count
  by_cases c0 : u = 0
  · rw [if_pos c0, if_pos c0]
    exact ⟨cnt_eq 8 (fun i hi => ⟨(h.1.2.1 i hi).1, h.1.1 i hi⟩), h⟩
  rw [if_neg c0, if_neg c0]
  by_cases c1 : u = 1
  · rw [if_pos c1, if_pos c1]; exact ⟨hr.1.2.1.1, h⟩
  rw [if_neg c1, if_neg c1]
  by_cases c2 : u = 2
  · rw [if_pos c2, if_pos c2]; exact ⟨hr.1.2.1.2.2.2.2.1, h⟩
  rw [if_neg c2, if_neg c2]
  by_cases c3 : u = 3
  · rw [if_pos c3, if_pos c3]; exact ⟨hr.1.2.1.2.2.2.2.2, h⟩
  rw [if_neg c3, if_neg c3]
  by_cases c4 : u = 4
  · rw [if_pos c4, if_pos c4]; exact ⟨hr.2.2, h⟩
  rw [if_neg c4, if_neg c4]
  by_cases c5 : u = 5
  · rw [if_pos c5, if_pos c5]; exact ⟨ac_rel h, h⟩
  rw [if_neg c5, if_neg c5]
  by_cases c6 : u = 6
  · rw [if_pos c6, if_pos c6]; exact ⟨hr.1.2.2.2.1.2, h⟩
  rw [if_neg c6, if_neg c6]
  by_cases c7 : u = 7
  · rw [if_pos c7, if_pos c7]; exact ⟨h.2.2.2.2.1.2.1, h⟩
  rw [if_neg c7, if_neg c7]
  by_cases c8 : u = 8
  · rw [if_pos c8, if_pos c8]; exact ⟨h.2.2.1.2.1, h⟩
  rw [if_neg c8, if_neg c8]
  exact ⟨rfl, h⟩
-- asks
theorem rel_bg {a b : Sto} (h : REL a b) (x : Int32) : REL (bg a x) (bgM b x) := by
  obtain ⟨h1, h2, h3, h4, h5, h6, h7⟩ := h
  obtain ⟨t1, t2, t3⟩ := h7
  have hkeep : REL a b := ⟨h1, h2, h3, h4, h5, h6, t1, t2, t3⟩
  unfold bg bgM
  rw [← t2]
  by_cases c : 16 ≤ a 24 1
  · rw [if_pos c, if_pos c]; exact hkeep
  rw [if_neg c, if_neg c]
  have e := vp_to (tr_lt t1 c) (by decide)
  have hk : ∀ {k : Nat} {f g : Nat → Int32}, k ≠ 24 → k ≠ 25 → upc (upc a 25 f) 24 g k = a k := fun x y => (upc_ne x).trans (upc_ne y)
  refine ⟨RR_fr (a := a) (b := b) rfl rfl rfl rfl rfl rfl h1, RF_fr (a := a) (b := b) rfl rfl rfl rfl h2, RT_fr (a := a) (b := b) rfl rfl rfl rfl h3, RH_fr (a := a) (b := b) (fun k q => hk (by omega) (by omega)) rfl rfl h4, RA_fr (a := a) (b := b) (fun k q _ _ _ => hk (by omega) (by omega)) (fun j _ _ => rfl) rfl rfl rfl rfl h5, RI_fr (a := a) (b := b) (fun k k1 k2 => hk (by omega) (by omega)) rfl rfl id h6, ?_, ?_, ?_⟩
  · have := trOK_bg t1 x
    unfold bg at this
    rw [if_neg c] at this
    exact this
  · rfl
  · intro i hi
    have hi : i < (a 24 1 + 1).toNatClampNeg := hi
    rw [e.1, nI_1, nI_clamp (by omega)] at hi
    show upd (a 25) ((a 24 1).toNatClampNeg) x i = upd (b 52) ((a 24 1).toNatClampNeg) x i
    unfold upd
    split
    · rfl
    · exact t3 i (by omega)
theorem rel_bgs : ∀ (l : List Int32) {a b : Sto}, REL a b → REL (bgs a l) (bgsM b l) := by
  intro l
  induction l with
  | nil => intro a b h; exact h
  | cons x l ih => intro a b h; exact ih (rel_bg h x)
theorem rel_stA {a b : Sto} (h : REL a b) : REL (stA a) (stAM b) := by
  obtain ⟨h1, h2, h3, h4, h5, h6, h7⟩ := h
  unfold stA stAM
  refine ⟨RR_fr (a := a) (b := b) rfl rfl rfl rfl rfl rfl h1, RF_fr (a := a) (b := b) rfl rfl rfl rfl h2, RT_fr (a := a) (b := b) rfl rfl rfl rfl h3, RH_fr (a := a) (b := b) (fun k q => upc_ne (by omega)) rfl rfl h4, RA_fr (a := a) (b := b) (fun k q _ _ _ => upc_ne (by omega)) (fun j _ _ => rfl) rfl rfl rfl rfl h5, RI_fr (a := a) (b := b) (fun k k1 k2 => upc_ne (by omega)) rfl rfl id h6, ?_, rfl, ?_⟩
  · unfold trOK
    rw [upc_same, upd_same]
    exact vp_in_nI (n := 0) (by decide) (by decide)
  · intro i hi
    have hi : i < (0 : Int32).toNatClampNeg := hi
    exact absurd hi (Nat.not_lt_zero _)
theorem ask_eq {k : Int32} (hk : 1 ≤ k ∧ k ≤ 5) (s pl f : Int32) : vSize k s pl f = vSzM k s pl f ∧ tSize k = tSzM k ∧ vMark k s pl f = vMkM k s pl f ∧ tMark k = tMkM k := by
  rcases kd_rg hk with rfl | rfl | rfl | rfl | rfl <;> exact ⟨rfl, rfl, rfl, rfl⟩
theorem rel_ask {a b : Sto} (h : REL a b) (s u : Int32) : (m_ask a s u).1 = (q_ask b s u).1 ∧ REL (m_ask a s u).2 (q_ask b s u).2 := by
  have hr := h.2.2.2.1.1
  unfold m_ask q_ask
  rw [sit_wi hr]
  by_cases c1 : wi s 0 (b 44 5 - 1) = false
  · rw [if_pos c1, if_pos c1]; exact ⟨rfl, h⟩
  rw [if_neg c1, if_neg c1]
  by_cases c2 : wi u 0 1 = false
  · rw [if_pos c2, if_pos c2]; exact ⟨rfl, h⟩
  rw [if_neg c2, if_neg c2]
  have hd := wi_lt (K := 6) (by decide) hr.1.1.2.1.2.2.2 c1
  obtain ⟨q1, q2, q3, q4⟩ := hr.1.2.2.2.2.1 (s.toNatClampNeg) hd.2
  have q1 : a (7 + 3) (s.toNatClampNeg) = b 44 (37 + s.toNatClampNeg) := q1
  have q2 : a (7 + 4) (s.toNatClampNeg) = b 44 (42 + s.toNatClampNeg) := q2
  have q3 : a (7 + 5) (s.toNatClampNeg) = b 44 (47 + s.toNatClampNeg) := q3
  have q4 : 1 ≤ a (7 + 3) (s.toNatClampNeg) ∧ a (7 + 3) (s.toNatClampNeg) ≤ 5 := q4
  rw [q1, q2, q3]
  rw [q1] at q4
  obtain ⟨z1, z2, z3, z4⟩ := ask_eq q4 s (b 44 (42 + s.toNatClampNeg)) (b 44 (47 + s.toNatClampNeg))
  by_cases c3 : u = 0
  · rw [if_pos c3, if_pos c3, z1, z2]; exact ⟨rfl, rel_bgs _ (rel_stA h)⟩
  · rw [if_neg c3, if_neg c3, z3, z4]; exact ⟨rfl, rel_bgs _ (rel_stA h)⟩
theorem rel_trace {a b : Sto} (h : REL a b) (i : Int32) : (m_trace a i).1 = (q_trace b i).1 ∧ REL (m_trace a i).2 (q_trace b i).2 := by
  obtain ⟨t1, t2, t3⟩ := h.2.2.2.2.2.2
  unfold m_trace q_trace
  rw [← t2, ← lt_wi (K := 17) (by decide) t1]
  by_cases c1 : i < 0
  · rw [if_pos c1, if_pos (by unfold s_lt; rw [decide_eq_false (Int32.not_le.mpr c1), Bool.false_and])]; exact ⟨rfl, h⟩
  · rw [if_neg c1]
    by_cases c2 : a 24 1 ≤ i
    · rw [if_pos c2, if_pos (by unfold s_lt; rw [decide_eq_false (Int32.not_lt.mpr c2), Bool.and_false])]; exact ⟨rfl, h⟩
    · rw [if_neg c2, if_neg (by unfold s_lt; rw [decide_eq_true (Int32.not_lt.mp c1), decide_eq_true (Int32.not_le.mp c2)]; decide)]
      refine ⟨?_, h⟩
      obtain ⟨e, hl⟩ := vp_to t1 (by decide)
      obtain ⟨e2, hl2⟩ := nn_to c1
      rw [e, e2] at c2
      exact t3 (i.toNatClampNeg) (by rcases Nat.lt_or_ge (i.toNatClampNeg) ((a 24 1).toNatClampNeg) with q | q; exact q; exact absurd (nI_le q hl2) c2)
-- images
theorem bec_ne (a : Sto) {h o k : Nat} (hk : ¬ (h ≤ k ∧ k < h + 7)) : bec a h o k = a k := by unfold bec; rw [if_neg hk]
theorem vw_bec (a : Sto) (h o : Nat) : ∀ k, k ≤ 6 → vw (bec a h o) h k = vw a o k := fun k hk => bec_at a h o k hk
theorem rel_image {a b : Sto} (h : REL a b) (k : Int32) : (m_image a k).1 = (q_image b k).1 ∧ REL (m_image a k).2 (q_image b k).2 := by
  obtain ⟨h1, h2, h3, h4, h5, h6, h7⟩ := h
  have h : REL a b := ⟨h1, h2, h3, h4, h5, h6, h7⟩
  have hs := st_0 h4
  unfold m_image q_image
  by_cases c1 : wi k 0 1 = false
  · rw [if_pos c1, if_pos c1]; exact ⟨rfl, h⟩
  rw [if_neg c1, if_neg c1]
  by_cases c2 : b 40 4 = 0
  · rw [if_pos (hs.mpr c2), if_pos c2]; exact ⟨rfl, h⟩
  rw [if_neg (fun q => c2 (hs.mp q)), if_neg c2]
  have hp : 0 < a 7 0 := by
    rcases Decidable.em (0 < a 7 0) with q | q
    · exact q
    · exact absurd (h4.2.mpr q) c2
  have key : ∀ K, K < 2 → (if k = 0 then 26 else 33) = 26 + 7 * K → k.toNatClampNeg = K → REL (bec a (if k = 0 then 26 else 33) 7) (upc (upc b 51 (va_cpy (b 44) (b 51) 0 (52 * k.toNatClampNeg) 52)) 50 (upd (b 50) (k.toNatClampNeg) 1)) := by
    intro K hK e1 e2
    rw [e1, e2]
    have hk : ∀ {j : Nat}, j < 26 → bec a (26 + 7 * K) 7 j = a j := fun q => bec_ne a (by omega)
    refine ⟨RR_fr (a := a) (b := b) (hk (by decide)) (hk (by decide)) (hk (by decide)) rfl rfl rfl h1, RF_fr (a := a) (b := b) (by rw [hk (by decide)]) (by rw [hk (by decide)]) rfl rfl h2, RT_fr (a := a) (b := b) (by rw [hk (by decide)]) (hk (by decide)) rfl rfl h3, RH_fr (a := a) (b := b) (fun j q => hk (by omega)) rfl rfl h4, RA_fr (a := a) (b := b) (fun j q _ _ _ => hk (by omega)) (fun j _ _ => by rw [hk (by decide)]) (hk (by decide)) (hk (by decide)) rfl rfl h5, ?_, RC_fr (a := a) (b := b) (by rw [hk (by decide)]) (hk (by decide)) rfl rfl h7⟩
    intro J hJ
    show HR (vw (bec a (26 + 7 * K) 7) (26 + 7 * J)) (fun j => va_cpy (b 44) (b 51) 0 (52 * K) 52 (52 * J + j)) ∧ (upd (b 50) K 1 J = 0 ↔ ¬ 0 < bec a (26 + 7 * K) 7 (26 + 7 * J) 0) ∧ (b 40 4 = 0 → upd (b 50) K 1 J = 0)
    by_cases e : J = K
    · subst e
      refine ⟨?_, ?_, fun q => absurd q c2⟩
      · refine HR_pt (v := vw a 7) (m := b 44) (fun j _ => by rw [vw_bec a _ 7 0 (by decide)]) (fun d _ => by rw [vw_bec a _ 7 1 (by decide), vw_bec a _ 7 2 (by decide)]; exact ⟨rfl, rfl⟩) (fun s _ => by rw [vw_bec a _ 7 3 (by decide), vw_bec a _ 7 4 (by decide), vw_bec a _ 7 5 (by decide)]; exact ⟨rfl, rfl, rfl⟩) (fun r _ => by rw [vw_bec a _ 7 6 (by decide)]) (fun j hj => ?_) h4.1
        unfold va_cpy
        rw [if_pos (by omega)]
        congr 1
        omega
      · rw [upd_same, bec_at0]
        exact ⟨fun q => absurd q (by decide), fun q => absurd hp q⟩
    · obtain ⟨i1, i2, i3⟩ := h6 J hJ
      have hne : ∀ j, j ≤ 6 → bec a (26 + 7 * K) 7 (26 + 7 * J + j) = a (26 + 7 * J + j) := fun j hj => bec_ne a (by omega)
      refine ⟨?_, ?_, ?_⟩
      · refine HR_pt (v := vw a (26 + 7 * J)) (m := fun j => b 51 (52 * J + j)) (fun j _ => ?_) (fun d _ => ?_) (fun s _ => ?_) (fun r _ => ?_) (fun j hj => ?_) i1
        · exact congrFun (hne 0 (by decide)) j
        · exact ⟨congrFun (hne 1 (by decide)) d, congrFun (hne 2 (by decide)) d⟩
        · exact ⟨congrFun (hne 3 (by decide)) s, congrFun (hne 4 (by decide)) s, congrFun (hne 5 (by decide)) s⟩
        · exact congrFun (hne 6 (by decide)) r
        · unfold va_cpy
          rw [if_neg (by omega)]
      · rw [upd_ne e, show bec a (26 + 7 * K) 7 (26 + 7 * J) = a (26 + 7 * J) from hne 0 (by decide)]
        exact i2
      · rw [upd_ne e]; exact i3
  rcases wi01 (by simpa using c1) with q | q
  · exact ⟨rfl, key 0 (by decide) (by rw [if_pos q]) (by rw [q]; rfl)⟩
  · exact ⟨rfl, key 1 (by decide) (by rw [if_neg (by rw [q]; decide)]) (by rw [q]; rfl)⟩
theorem rel_restore {a b : Sto} (h : REL a b) (k : Int32) : (m_restore a k).1 = (q_restore b k).1 ∧ REL (m_restore a k).2 (q_restore b k).2 := by
  obtain ⟨h1, h2, h3, h4, h5, h6, h7⟩ := h
  have h : REL a b := ⟨h1, h2, h3, h4, h5, h6, h7⟩
  unfold m_restore q_restore
  by_cases c1 : wi k 0 1 = false
  · rw [if_pos c1, if_pos c1]; exact ⟨rfl, h⟩
  rw [if_neg c1, if_neg c1]
  have key : ∀ K, K < 2 → (if k = 0 then 26 else 33) = 26 + 7 * K → k.toNatClampNeg = K → (if decide (0 < a (if k = 0 then 26 else 33) 0) = false then ((-1000002 : Int32), a) else (1, upc (bec a 7 (if k = 0 then 26 else 33)) 14 (upd (bec a 7 (if k = 0 then 26 else 33) 14) 2 0))).1 = (if b 50 (k.toNatClampNeg) = 0 then ((-1000002 : Int32), b) else (1, upc (upc b 44 (fun j => b 51 (52 * k.toNatClampNeg + j))) 40 (upd (b 40) 17 0))).1 ∧ REL (if decide (0 < a (if k = 0 then 26 else 33) 0) = false then ((-1000002 : Int32), a) else (1, upc (bec a 7 (if k = 0 then 26 else 33)) 14 (upd (bec a 7 (if k = 0 then 26 else 33) 14) 2 0))).2 (if b 50 (k.toNatClampNeg) = 0 then ((-1000002 : Int32), b) else (1, upc (upc b 44 (fun j => b 51 (52 * k.toNatClampNeg + j))) 40 (upd (b 40) 17 0))).2 := by
    intro K hK e1 e2
    rw [e1, e2]
    obtain ⟨i1, i2, i3⟩ := h6 K hK
    by_cases c2 : b 50 K = 0
    · rw [if_pos c2, if_pos (decide_eq_false (i2.mp c2))]; exact ⟨rfl, h⟩
    have hp : 0 < a (26 + 7 * K) 0 := by
      rcases Decidable.em (0 < a (26 + 7 * K) 0) with q | q
      · exact q
      · exact absurd (i2.mpr q) c2
    rw [if_neg c2, if_neg (by rw [decide_eq_true hp]; decide)]
    have hk : ∀ {j : Nat} {f : Nat → Int32}, j ≠ 14 → ¬ (7 ≤ j ∧ j < 14) → upc (bec a 7 (26 + 7 * K)) 14 f j = a j := fun q1 q2 => (upc_ne q1).trans (bec_ne a (by omega))
    dsimp only
    refine ⟨rfl, RR_fr (a := a) (b := b) (hk (by decide) (by decide)) (hk (by decide) (by decide)) (hk (by decide) (by decide)) rfl rfl rfl h1, RF_fr (a := a) (b := b) (by rw [hk (by decide) (by decide)]) (by rw [hk (by decide) (by decide)]) rfl rfl h2, RT_fr (a := a) (b := b) (by rw [hk (by decide) (by decide)]) (hk (by decide) (by decide)) rfl rfl h3, ⟨?_, ?_⟩, ⟨?_, ?_, ?_⟩, RI_fr (a := a) (b := b) (fun j k1 k2 => hk (by omega) (by omega)) rfl rfl id h6, RC_fr (a := a) (b := b) (by rw [hk (by decide) (by decide)]) (hk (by decide) (by decide)) rfl rfl h7⟩
    · refine HR_cg (v := vw a (26 + 7 * K)) (fun j hj => ?_) i1
      show upc (bec a 7 (26 + 7 * K)) 14 _ (7 + j) = _
      rw [upc_ne (by omega)]
      exact bec_at a 7 (26 + 7 * K) j hj
    · show b 40 4 = 0 ↔ ¬ 0 < upc (bec a 7 (26 + 7 * K)) 14 _ 7 0
      rw [upc_ne (by decide), bec_at0]
      exact ⟨fun q => absurd (i3 q) c2, fun q => absurd hp q⟩
    · unfold WFP
      rw [upc_same, upd_same, upd_ne (by decide), bec_ne a (by decide)]
      exact ⟨h5.1.1, vp_in_nI (n := 0) (by decide) (by decide)⟩
    · show upc _ 14 _ 14 2 = upc _ 40 _ 40 17
      rw [upc_same, upc_same, upd_same, upd_same]
    · intro i hi
      have hi : i < (upc (bec a 7 (26 + 7 * K)) 14 (upd (bec a 7 (26 + 7 * K) 14) 2 0) 14 2).toNatClampNeg := hi
      rw [upc_same, upd_same] at hi
      exact absurd hi (Nat.not_lt_zero _)
  rcases wi01 (by simpa using c1) with q | q
  · exact key 0 (by decide) (by rw [if_pos q]) (by rw [q]; rfl)
  · exact key 1 (by decide) (by rw [if_neg (by rw [q]; decide)]) (by rw [q]; rfl)
