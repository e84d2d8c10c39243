theorem REL_S {a b a' b' : Sto} (h : REL a b) (ha : frS a a') (hb : ∀ k, k ≠ 49 → b' k = b k) : REL a' b' := REL_fr (fun k _ q => ha k q) (fun k _ _ _ q => hb k q) h
theorem hr_of {a b : Sto} (h : REL a b) : HS (vw a 7) (b 44) ∧ CR (a (7 + 6)) (b 44) := ⟨h.2.2.2.1.1.1, h.2.2.2.1.1.2.1⟩
theorem rel_ahead {a b : Sto} (h : REL a b) (n r : Int32) : m_ahead a n r = (q_ahead b n r).1 ∧ ∀ k, k ≠ 49 → (q_ahead b n r).2 k = b k := by
  have hs := st_0 h.2.2.2.1
  have hr := h.2.2.2.1.1
  unfold m_ahead q_ahead
  by_cases c1 : b 40 4 = 0
  · rw [if_pos (hs.mpr c1), if_pos c1]; exact ⟨rfl, fun _ _ => rfl⟩
  rw [if_neg (fun q => c1 (hs.mp q)), if_neg c1, room_wi hr]
  by_cases c2 : wi n 0 60 = false
  · rw [if_pos c2, if_pos c2]; exact ⟨rfl, fun _ _ => rfl⟩
  rw [if_neg c2, if_neg c2]
  by_cases c3 : wi r 0 (b 44 0 - 1) = false
  · rw [if_pos c3, if_pos c3]; exact ⟨rfl, fun _ _ => rfl⟩
  rw [if_neg c3, if_neg c3]
  have hd := wi_lt (K := 7) (by decide) hr.1.1.2.1.1 c3
  have b0 := (wfm_n hr.1.1.2).1.2
  exact ⟨((CR_hrs hr.1 hr.2.1 (n.toNatClampNeg)).1 (r.toNatClampNeg) (by omega)).1, fun k q => asd_ne q⟩
theorem rel_allAhead {a b : Sto} (h : REL a b) (n : Int32) : m_allAhead a n = (q_allAhead b n).1 ∧ ∀ k, k ≠ 49 → (q_allAhead b n).2 k = b k := by
  have hs := st_0 h.2.2.2.1
  have hr := h.2.2.2.1.1
  unfold m_allAhead q_allAhead
  by_cases c1 : b 40 4 = 0
  · rw [if_pos (hs.mpr c1), if_pos c1]; exact ⟨rfl, fun _ _ => rfl⟩
  rw [if_neg (fun q => c1 (hs.mp q)), if_neg c1]
  by_cases c2 : wi n 0 60 = false
  · rw [if_pos c2, if_pos c2]; exact ⟨rfl, fun _ _ => rfl⟩
  rw [if_neg c2, if_neg c2]
  refine ⟨?_, fun k q => asd_ne q⟩
  show s_ac _ _ = s_ac _ _
  rw [hrs_0 hr.1.1.2 _ 0 (by decide) (by omega), show a 7 0 = b 44 0 from hr.1.2.1.1]
  exact ac_eq (CR_hrs hr.1 hr.2.1 (n.toNatClampNeg)).1 _ (wfm_n hr.1.1.2).1.2
theorem fs_cg {f g : Nat → Bool} : ∀ m i, (∀ j, i ≤ j → j < i + m → f j = g j) → s_fs f i m = s_fs g i m := by
  intro m
  induction m with
  | zero => intro i _; rfl
  | succ m ih =>
    intro i h
    simp only [s_fs]
    rw [h i (Nat.le_refl _) (by omega), ih (i + 1) (fun j h1 h2 => h j (by omega) (by omega))]
theorem fs_rg (f : Nat → Bool) : ∀ m i, s_fs f i m = -1 ∨ ∃ j, j < i + m ∧ s_fs f i m = nI j := by
  intro m
  induction m with
  | zero => intro i; exact Or.inl rfl
  | succ m ih =>
    intro i
    simp only [s_fs]
    split
    · exact Or.inr ⟨i, by omega, rfl⟩
    · rcases ih (i + 1) with q | ⟨j, hj, q⟩
      · exact Or.inl q
      · exact Or.inr ⟨j, by omega, q⟩
theorem fs_eq {v : Sto} {c m : Nat → Int32} (h : HS v m) (hc : CR c m) : fsV v c = fsM m := by
  unfold fsV fsM
  rw [h.2.1.2.2.2.2.2]
  exact fs_cg _ _ (fun j _ hj => cld_eq h hc (by omega))
theorem fs_neg {m : Nat → Int32} (w : WFM m) : (fsM m = -1 ↔ fsM m < 0) ∧ (fsM m = -1 ↔ ¬ 0 ≤ fsM m) := by
  have b5 := (wfm_n w).2.2.2.2
  rcases fs_rg (cldM m) ((m 5).toNatClampNeg) 0 with q | ⟨j, hj, q⟩
  · unfold fsM; rw [q]; decide
  · unfold fsM; rw [q]
    have h0 : ¬ nI j < 0 := nI_pos (by omega)
    have h1 : ¬ nI j = -1 := fun e => h0 (by rw [e]; decide)
    exact ⟨⟨fun e => absurd e h1, fun e => absurd e h0⟩, ⟨fun e => absurd e h1, fun e => absurd (Int32.not_lt.mp h0) e⟩⟩
theorem sh_eq {v : Sto} : ∀ k (c m : Nat → Int32) (t : Nat), HS v m → CR c m → s_sh v c t (k + 1) = if 0 ≤ (shM m t k).2 then shM m t k else (NO, NO) := by
  intro k
  induction k with
  | zero =>
    intro c m t h hc
    have hn := fs_neg h.1.2
    show (if fsV v c = -1 then (NO, NO) else (nI t, fsV v c)) = if 0 ≤ fsM m then (nI t, fsM m) else (NO, NO)
    rw [fs_eq h hc]
    by_cases q : fsM m = -1
    · rw [if_pos q, if_neg (hn.2.mp q)]
    · rw [if_neg q, if_pos (Decidable.not_not.mp (fun z => q (hn.2.mpr z)))]
  | succ k ih =>
    intro c m t h hc
    have hn := fs_neg h.1.2
    have hv := fs_eq h hc
    by_cases q : fsM m = -1
    · have e : shM m t (k + 1) = shM (q_hour m) (t + 1) k := if_pos (hn.1.mp q)
      have e2 : s_sh v c t (k + 1 + 1) = s_sh v (HC v c) (t + 1) (k + 1) := if_pos (by rw [hv]; exact q)
      rw [e, e2]
      exact ih (HC v c) (q_hour m) (t + 1) (HS_ag (agH_hour h.1.2) h) (CR_hour h hc)
    · have e : shM m t (k + 1) = (nI t, fsM m) := if_neg (fun z => q (hn.1.mpr z))
      have e2 : s_sh v c t (k + 1 + 1) = (nI t, fsV v c) := if_neg (by rw [hv]; exact q)
      rw [e, e2, hv]
      exact (if_pos (show 0 ≤ fsM m from Decidable.not_not.mp (fun z => q (hn.2.mpr z)))).symm
theorem rel_shivers {a b : Sto} (h : REL a b) (u : Int32) : m_shivers a u = (q_shivers b u).1 ∧ ∀ k, k ≠ 49 → (q_shivers b u).2 k = b k := by
  have hs := st_0 h.2.2.2.1
  have hr := h.2.2.2.1.1
  unfold m_shivers q_shivers
  by_cases c1 : b 40 4 = 0
  · rw [if_pos (hs.mpr c1), if_pos c1]; exact ⟨rfl, fun _ _ => rfl⟩
  rw [if_neg (fun q => c1 (hs.mp q)), if_neg c1]
  by_cases c2 : wi u 0 1 = false
  · rw [if_pos c2, if_pos c2]; exact ⟨rfl, fun _ _ => rfl⟩
  rw [if_neg c2, if_neg c2]
  refine ⟨?_, fun k q => asd_ne q⟩
  rw [sh_eq 60 _ _ 0 hr.1 (hr_of h).2]
  by_cases q : 0 ≤ (shM (b 44) 0 60).2
  · simp only [if_pos q]
  · simp only [if_neg q]
    split <;> rfl
theorem co_eq {c m : Nat → Int32} (h : CR c m) : ∀ k, k < 6 → s_co c k = (nI (coM (fun r => m (7 + r)) k), m (7 + coM (fun r => m (7 + r)) k)) := by
  intro k
  induction k with
  | zero =>
    intro _
    simp only [s_co, coM]
    rw [(h 0 (by decide)).1]
    rfl
  | succ k ih =>
    intro hk
    simp only [s_co, coM]
    rw [ih (by omega), (h (k + 1) hk).1]
    split
    · rfl
    · rfl
theorem rel_coldest {a b : Sto} (h : REL a b) (n u : Int32) : m_coldest a n u = (q_coldest b n u).1 ∧ ∀ k, k ≠ 49 → (q_coldest b n u).2 k = b k := by
  have hs := st_0 h.2.2.2.1
  have hr := h.2.2.2.1.1
  unfold m_coldest q_coldest
  by_cases c1 : b 40 4 = 0
  · rw [if_pos (hs.mpr c1), if_pos c1]; exact ⟨rfl, fun _ _ => rfl⟩
  rw [if_neg (fun q => c1 (hs.mp q)), if_neg c1]
  by_cases c2 : wi n 0 60 = false
  · rw [if_pos c2, if_pos c2]; exact ⟨rfl, fun _ _ => rfl⟩
  rw [if_neg c2, if_neg c2]
  by_cases c3 : wi u 0 1 = false
  · rw [if_pos c3, if_pos c3]; exact ⟨rfl, fun _ _ => rfl⟩
  rw [if_neg c3, if_neg c3]
  refine ⟨?_, fun k q => asd_ne q⟩
  have b0 := (wfm_n hr.1.1.2).1.2
  rw [show a 7 0 = b 44 0 from hr.1.2.1.1, co_eq (CR_hrs hr.1 (hr_of h).2 (n.toNatClampNeg)).1 _ (by omega)]
theorem seat_eq {x y : Nat → Int32} {N : Nat} (hN : N < 2 ^ 31) (h : ∀ i, i < N → x i = y i) : ∀ i, i < N → s_seat x (i + 1) = seM y (i + 1) ∧ ∃ j, j ≤ i ∧ (seM y (i + 1)).1 = nI j := by
  intro i
  induction i with
  | zero =>
    intro hi
    have e1 : s_seat x (0 + 1) = (nI 0, x 0) := if_pos (Or.inl rfl)
    have e2 : seM y (0 + 1) = (nI 0, y 0) := if_pos (Or.inl (show (-1 : Int32) < 0 by decide))
    rw [e1, e2, h 0 hi]
    exact ⟨rfl, 0, Nat.le_refl _, rfl⟩
  | succ i ih =>
    intro hi
    obtain ⟨e, j, hj, ej⟩ := ih (by omega)
    have hs : s_seat x (i + 1 + 1) = if (s_seat x (i + 1)).1 = NO ∨ x (i + 1) < (s_seat x (i + 1)).2 then (nI (i + 1), x (i + 1)) else s_seat x (i + 1) := rfl
    have hm : seM y (i + 1 + 1) = if (seM y (i + 1)).1 < 0 ∨ y (i + 1) < (seM y (i + 1)).2 then (nI (i + 1), y (i + 1)) else seM y (i + 1) := rfl
    have n1 : ¬ (seM y (i + 1)).1 = NO := fun q => by rw [ej] at q; exact absurd (show nI j < 0 by rw [q]; decide) (nI_pos (by omega))
    have n2 : ¬ (seM y (i + 1)).1 < 0 := by rw [ej]; exact nI_pos (by omega)
    rw [hs, hm, e, h (i + 1) hi]
    by_cases q : y (i + 1) < (seM y (i + 1)).2
    · rw [if_pos (Or.inr q), if_pos (Or.inr q)]
      exact ⟨rfl, i + 1, Nat.le_refl _, rfl⟩
    · rw [if_neg (fun z => z.elim n1 q), if_neg (fun z => z.elim n2 q)]
      exact ⟨rfl, j, by omega, ej⟩
theorem rel_sitWhere {a b : Sto} (h : REL a b) (s r n u : Int32) : m_sitWhere a s r n u = (q_sitWhere b s r n u).1 ∧ ∀ k, k ≠ 49 → (q_sitWhere b s r n u).2 k = b k := by
  have hr := h.2.2.2.1.1
  unfold m_sitWhere q_sitWhere
  rw [sit_wi hr, room_wi hr]
  by_cases c1 : wi s 0 (b 44 5 - 1) = false
  · rw [if_pos c1, if_pos c1]; exact ⟨rfl, fun _ _ => rfl⟩
  rw [if_neg c1, if_neg c1]
  by_cases c2 : wi r 0 (b 44 0 - 1) = false
  · rw [if_pos c2, if_pos c2]; exact ⟨rfl, fun _ _ => rfl⟩
  rw [if_neg c2, if_neg c2]
  by_cases c3 : wi n 1 24 = false
  · rw [if_pos c3, if_pos c3]; exact ⟨rfl, fun _ _ => rfl⟩
  rw [if_neg c3, if_neg c3]
  by_cases c4 : wi u 0 1 = false
  · rw [if_pos c4, if_pos c4]; exact ⟨rfl, fun _ _ => rfl⟩
  rw [if_neg c4, if_neg c4]
  refine ⟨?_, fun k q => asd_ne q⟩
  have b0 := (wfm_n hr.1.1.2).1.2
  have b5 := (wfm_n hr.1.1.2).2.2.2.2
  have hd := wi_lt (K := 6) (by decide) hr.1.1.2.1.2.2.2 c1
  have hm := wi_lt (K := 7) (by decide) hr.1.1.2.1.1 c2
  rw [show a 7 0 = b 44 0 from hr.1.2.1.1]
  obtain ⟨N, hN⟩ : ∃ N, (b 44 0).toNatClampNeg = N + 1 := ⟨(b 44 0).toNatClampNeg - 1, by omega⟩
  rw [hN]
  have he := (seat_eq (N := N + 1) (x := fun i => hcs (vSit (vw a 7) (s.toNatClampNeg) (nI i)) (a (7 + 6)) (n.toNatClampNeg) (r.toNatClampNeg)) (y := seX b s r n) (by omega) (fun i hi => ((CR_hrs (HS_sit hr.1 (by omega) (vp_in_nI (by omega) (by decide))) (CR_o (hr_of h).2 (by omega) _) (n.toNatClampNeg)).1 (r.toNatClampNeg) (by omega)).1) N (Nat.lt_succ_self N)).1
  rw [he]
-- led
def fhM (m : Nat → Int32) (r : Nat) (t : Int32) (h : Nat) : Nat → Nat
  | 0 => h
  | k + 1 => if m (7 + r) < t then fhM (q_hour m) r t (h + 1) k else h
theorem ci_fh (r : Nat) (t : Int32) : ∀ k m h, ciM m r t h k = nI (fhM m r t h k) ∧ h ≤ fhM m r t h k ∧ fhM m r t h k ≤ h + k := by
  intro k
  induction k with
  | zero => intro m h; exact ⟨rfl, Nat.le_refl _, Nat.le_refl _⟩
  | succ k ih =>
    intro m h
    simp only [ciM, fhM]
    split
    · obtain ⟨q1, q2, q3⟩ := ih (q_hour m) (h + 1)
      exact ⟨q1, by omega, by omega⟩
    · exact ⟨rfl, Nat.le_refl _, by omega⟩
theorem hu_fh {v : Sto} {r : Int32} (hr : r.toNatClampNeg < 6) (t : Int32) : ∀ M k (c m : Nat → Int32) (h : Nat), M ≤ k → HS v m → CR c m → s_hu v c r t h M = if fhM m (r.toNatClampNeg) t h k < h + M then nI (fhM m (r.toNatClampNeg) t h k) else NO := by
  intro M
  induction M with
  | zero =>
    intro k c m h _ _ _
    have := (ci_fh (r.toNatClampNeg) t k m h).2.1
    rw [if_neg (by omega)]
    rfl
  | succ M ih =>
    intro k c m h hk hs hc
    obtain ⟨K, rfl⟩ : ∃ K, k = K + 1 := ⟨k - 1, by omega⟩
    have ec := (hc (r.toNatClampNeg) hr).1
    by_cases q : m (7 + r.toNatClampNeg) < t
    · have e : fhM m (r.toNatClampNeg) t h (K + 1) = fhM (q_hour m) (r.toNatClampNeg) t (h + 1) K := if_pos q
      have e2 : s_hu v c r t h (M + 1) = s_hu v (HC v c) r t (h + 1) M := if_pos (by rw [ec]; exact q)
      rw [e, e2, ih K (HC v c) (q_hour m) (h + 1) (by omega) (HS_ag (agH_hour hs.1.2) hs) (CR_hour hs hc)]
      rw [show h + 1 + M = h + (M + 1) by omega]
    · have e : fhM m (r.toNatClampNeg) t h (K + 1) = h := if_neg q
      have e2 : s_hu v c r t h (M + 1) = nI h := if_neg (by rw [ec]; exact q)
      rw [e, e2, if_pos (by omega)]
/-- the class's pair and the model's -/
def leR (p q : Int32 × Int32) : Prop := ∃ l, l ≤ 41 ∧ q.1 = nI l ∧ p.1 = (if l < 41 then nI l else NO) ∧ p.2 = q.2 ∧ (l = 41 → q.2 = NO)
theorem nI_NO {l : Nat} (h : l ≤ 41) : ¬ nI l = NO := fun q => absurd (show nI l < 0 by rw [q]; decide) (nI_pos (by omega))
theorem so_step {hu : Nat → Nat → Nat → Int32} {s r f : Nat} (hf : f ≤ 41) (hh : ∀ M, M ≤ 41 → hu s r M = if f < 0 + M then nI f else NO) {p q : Int32 × Int32} (h : leR p q) {x w : Int32} (hx : x = nI f) (hw : w = 10 * nI s + nI r) : leR (soStep hu 41 s r p) (if x < q.1 then (x, w) else q) := by
  obtain ⟨l, hl, e1, e2, e3, e4⟩ := h
  unfold soStep
  have hM : (if p.1 = NO then 41 else p.1.toNatClampNeg) = l := by
    rw [e2]
    by_cases z : l < 41
    · rw [if_pos z, if_neg (nI_NO hl), nI_clamp (by omega)]
    · rw [if_neg z, if_pos rfl]; omega
  rw [hM, hh l hl, Nat.zero_add, e1, hx]
  by_cases z : f < l
  · rw [if_pos z, if_neg (nI_NO hf), if_pos (nI_lt z (by omega))]
    exact ⟨f, hf, rfl, by rw [if_pos (by omega)], hw.symm, fun q => absurd q (by omega)⟩
  · rw [if_neg z, if_pos rfl, if_neg (fun q => z ((nI_ltI (by omega) (by omega)).mp q))]
    exact ⟨l, hl, e1, e2, e3, e4⟩
theorem so_eq1 {hu : Nat → Nat → Nat → Int32} {x : Nat → Int32} {z : Int32} {W : Nat} (hW : 0 < W) {F : Nat → Nat → Nat} (s : Nat) (hf : ∀ r, r < W → F s r ≤ 41 ∧ (∀ M, M ≤ 41 → hu s r M = if F s r < 0 + M then nI (F s r) else NO) ∧ x (s * W + r) = nI (F s r)) {p : Int32 × Int32} (h : leR p (leM x z W (s * W))) : ∀ r, r ≤ W → leR (s_so1 hu 41 s p r) (leM x z W (s * W + r)) := by
  intro r
  induction r with
  | zero => intro _; exact h
  | succ r ih =>
    intro hr
    obtain ⟨f1, f2, f3⟩ := hf r (by omega)
    have e1 : (s * W + r) / W = s := by rw [Nat.mul_comm, Nat.mul_add_div hW, Nat.div_eq_of_lt (by omega), Nat.add_zero]
    have e2 : (s * W + r) % W = r := by rw [Nat.mul_comm, Nat.mul_add_mod, Nat.mod_eq_of_lt (by omega)]
    show leR (soStep hu 41 s r (s_so1 hu 41 s p r)) (if x (s * W + r) < (leM x z W (s * W + r)).1 then (x (s * W + r), 10 * nI ((s * W + r) / W) + nI ((s * W + r) % W)) else leM x z W (s * W + r))
    exact so_step f1 f2 (ih (by omega)) f3 (by rw [e1, e2])
theorem so_eq2 {hu : Nat → Nat → Nat → Int32} {x : Nat → Int32} {z : Int32} {W : Nat} {F : Nat → Nat → Nat} {S : Nat} (hf : ∀ s, s < S → ∀ r, r < W → F s r ≤ 41 ∧ (∀ M, M ≤ 41 → hu s r M = if F s r < 0 + M then nI (F s r) else NO) ∧ x (s * W + r) = nI (F s r)) {p : Int32 × Int32} (h : leR p (leM x z W 0)) : ∀ s, s ≤ S → leR (s_so hu 41 W p s) (leM x z W (s * W)) := by
  intro s
  induction s with
  | zero => intro _; rw [Nat.zero_mul]; exact h
  | succ s ih =>
    intro hs
    have ih := ih (by omega)
    rcases Nat.eq_zero_or_pos W with q | q
    · subst q
      show leR (s_so1 hu 41 s (s_so hu 41 0 p s) 0) _
      rw [Nat.mul_zero] at ih ⊢
      exact ih
    · have := so_eq1 q s (hf s (by omega)) ih W (Nat.le_refl _)
      rw [Nat.succ_mul]
      exact this
theorem rel_led {a b : Sto} (h : REL a b) (ro t u : Int32) : m_led a ro t u = (q_led b ro t u).1 ∧ ∀ k, k ≠ 49 → (q_led b ro t u).2 k = b k := by
  have hs := st_0 h.2.2.2.1
  have hr := h.2.2.2.1.1
  unfold m_led q_led
  by_cases c1 : b 40 4 = 0
  · rw [if_pos (hs.mpr c1), if_pos c1]; exact ⟨rfl, fun _ _ => rfl⟩
  rw [if_neg (fun q => c1 (hs.mp q)), if_neg c1, room_wi hr]
  by_cases c2 : wi ro 0 (b 44 0 - 1) = false
  · rw [if_pos c2, if_pos c2]; exact ⟨rfl, fun _ _ => rfl⟩
  rw [if_neg c2, if_neg c2]
  by_cases c3 : wi t 1 999 = false
  · rw [if_pos c3, if_pos c3]; exact ⟨rfl, fun _ _ => rfl⟩
  rw [if_neg c3, if_neg c3]
  by_cases c4 : wi u 0 1 = false
  · rw [if_pos c4, if_pos c4]; exact ⟨rfl, fun _ _ => rfl⟩
  rw [if_neg c4, if_neg c4]
  refine ⟨?_, fun k q => asd_ne q⟩
  have b0 := (wfm_n hr.1.1.2).1.2
  have b5 := (wfm_n hr.1.1.2).2.2.2.2
  have hm := wi_lt (K := 7) (by decide) hr.1.1.2.1.1 c2
  have hro : ro.toNatClampNeg < 6 := by omega
  have hc := (hr_of h).2
  rw [show a 7 0 = b 44 0 from hr.1.2.1.1, show a 7 7 = b 44 5 from hr.1.2.1.2.2.2.2.2]
  have key := so_eq2 (hu := fun s r M => s_hu (vSit (vw a 7) s (nI r)) (a (7 + 6)) ro t 0 M) (x := leX b ro t) (z := ciM (b 44) (ro.toNatClampNeg) t 0 41) (W := (b 44 0).toNatClampNeg) (F := fun s r => fhM (upd (b 44) (42 + s) (nI r)) (ro.toNatClampNeg) t 0 41) (S := (b 44 5).toNatClampNeg) (p := (s_hu (vw a 7) (a (7 + 6)) ro t 0 41, NO)) (fun s hs r hrr => ⟨by have := (ci_fh (ro.toNatClampNeg) t 41 (upd (b 44) (42 + s) (nI r)) 0).2.2; omega, fun M hM => hu_fh hro t M 41 _ _ 0 hM (HS_sit hr.1 (by omega) (vp_in_nI (by omega) (by decide))) (CR_o hc (by omega) _), by
      have e1 : (s * (b 44 0).toNatClampNeg + r) / (b 44 0).toNatClampNeg = s := by rw [Nat.mul_comm, Nat.mul_add_div (by omega), Nat.div_eq_of_lt (by omega), Nat.add_zero]
      have e2 : (s * (b 44 0).toNatClampNeg + r) % (b 44 0).toNatClampNeg = r := by rw [Nat.mul_comm, Nat.mul_add_mod, Nat.mod_eq_of_lt (by omega)]
      show leX b ro t (s * (b 44 0).toNatClampNeg + r) = _
      unfold leX
      rw [e1, e2]
      exact (ci_fh (ro.toNatClampNeg) t 41 _ 0).1⟩) (by
      obtain ⟨q1, q2, q3⟩ := ci_fh (ro.toNatClampNeg) t 41 (b 44) 0
      refine ⟨fhM (b 44) (ro.toNatClampNeg) t 0 41, by omega, q1, ?_, rfl, fun _ => rfl⟩
      show s_hu _ _ _ _ _ _ = _
      rw [hu_fh hro t 41 41 _ _ 0 (Nat.le_refl _) hr.1 hc, Nat.zero_add]) ((b 44 5).toNatClampNeg) (Nat.le_refl _)
  obtain ⟨l, hl, e1, e2, e3, e4⟩ := key
  rw [e1, e2, e3]
  by_cases z : l < 41
  · rw [if_pos z, if_pos (show nI l ≤ 40 from nI_le (b := 40) (by omega) (by decide))]
  · rw [if_neg z, if_neg (show ¬ nI l ≤ 40 from nI_ge (a := 40) (by omega) (by omega)), e4 (by omega)]
    split <;> rfl
