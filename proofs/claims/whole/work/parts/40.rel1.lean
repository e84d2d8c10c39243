theorem rgN {x : Int32} (h : 0 ≤ x ∧ x ≤ 999) : ∃ n, n ≤ 999 ∧ x = nI n := nI_of2 (M := 999) (n := 999) rfl (Int32.not_lt.mpr h.1) h.2
theorem nrg {n : Nat} (h : n ≤ 999) : 0 ≤ nI n ∧ nI n ≤ 999 := ⟨nI_pos' (by omega), nI_le (b := 999) h (by decide)⟩
/-- the cold of the class's house and of the model's -/
def CR (c m : Nat → Int32) : Prop := ∀ r, r < 6 → c r = m (7 + r) ∧ 0 ≤ c r ∧ c r ≤ 999
theorem CR_upd {c m : Nat → Int32} (h : CR c m) (j : Nat) {x : Int32} (hx : 0 ≤ x ∧ x ≤ 999) : CR (upd c j x) (upd m (7 + j) x) := by
  intro r hr
  by_cases e : r = j
  · subst e
    rw [upd_same, upd_same]
    exact ⟨rfl, hx⟩
  · rw [upd_ne e, upd_ne (by omega)]
    exact h r hr
theorem CR_o {c m : Nat → Int32} (h : CR c m) {k : Nat} (hk : ¬ (7 ≤ k ∧ k < 13)) (x : Int32) : CR c (upd m k x) := by
  intro r hr
  rw [upd_ne (by omega)]
  exact h r hr
theorem CR_ag {c m m' : Nat → Int32} (h : CR c m) (a : ∀ r, r < 6 → m' (7 + r) = m (7 + r)) : CR c m' := by
  intro r hr
  rw [a r hr]
  exact h r hr
/-- the doors lead to rooms that are there -/
def DE (m : Nat → Int32) : Prop := ∀ d, d < (m 4).toNatClampNeg → (m (13 + d)).toNatClampNeg < (m 0).toNatClampNeg ∧ (m (21 + d)).toNatClampNeg < (m 0).toNatClampNeg
theorem DE_ag {m m' : Nat → Int32} (h4 : m' 4 = m 4) (h0 : m' 0 = m 0) (hd : ∀ d, d < 8 → m' (13 + d) = m (13 + d) ∧ m' (21 + d) = m (21 + d)) (b4 : (m 4).toNatClampNeg ≤ 8) (h : DE m) : DE m' := by
  intro d q
  rw [h4] at q
  rw [h0, (hd d (by omega)).1, (hd d (by omega)).2]
  exact h d q
/-- what the houses tell but the cold and the hour -/
def HS (v : Sto) (m : Nat → Int32) : Prop := (WFV v ∧ WFM m) ∧ (v 0 0 = m 0 ∧ v 0 1 = m 1 ∧ v 0 2 = m 2 ∧ v 0 3 = m 3 ∧ v 0 5 = m 4 ∧ v 0 7 = m 5) ∧ (∀ d, d < (m 4).toNatClampNeg → v 1 d = m (13 + d) ∧ v 2 d = m (21 + d)) ∧ ((∀ d, d < 8 → m (29 + d) = 0 ∨ m (29 + d) = 1) ∧ v 0 6 = s_opM m ((m 4).toNatClampNeg)) ∧ (∀ s, s < (m 5).toNatClampNeg → v 3 s = m (37 + s) ∧ v 4 s = m (42 + s) ∧ v 5 s = m (47 + s) ∧ (1 ≤ v 3 s ∧ v 3 s ≤ 5)) ∧ ((0 ≤ m 2 ∧ m 2 ≤ 40) ∧ (0 < m 5 → 0 < m 0) ∧ DE m)
theorem HS_s {v : Sto} {m : Nat → Int32} (h : HS v m) {s : Nat} (hs : s < (m 5).toNatClampNeg) : vp_in (v 3 s) 6 ∧ vp_in (v 4 s) 6 := h.1.1.2.2 s (by rw [h.2.1.2.2.2.2.2]; exact hs)
theorem HS_d {v : Sto} {m : Nat → Int32} (h : HS v m) {d : Nat} (hd : d < (m 4).toNatClampNeg) : vp_in (v 1 d) 6 ∧ vp_in (v 2 d) 6 := h.1.1.2.1 d (by rw [h.2.1.2.2.2.2.1]; exact hd)
def agH (m m' : Nat → Int32) : Prop := ∀ j, j ≠ 6 → ¬ (7 ≤ j ∧ j < 13) → m' j = m j
theorem agH_F {m m' : Nat → Int32} (h : agF m m') : agH m m' := fun j _ hj => h j hj
theorem agH_tr {a b c : Nat → Int32} (h1 : agH a b) (h2 : agH b c) : agH a c := fun j h h' => (h2 j h h').trans (h1 j h h')
theorem opM_ag {m m' : Nat → Int32} : ∀ D, (∀ d, d < D → m' (29 + d) = m (29 + d)) → s_opM m' D = s_opM m D := by
  intro D
  induction D with
  | zero => intro _; rfl
  | succ D ih =>
    intro h
    simp only [s_opM]
    rw [ih (fun d hd => h d (by omega)), h D (by omega)]
theorem wfm_agH {m m' : Nat → Int32} (a : agH m m') (w : WFM m) : WFM m' := by
  unfold WFM
  rw [a 0 (by decide) (by omega), a 1 (by decide) (by omega), a 4 (by decide) (by omega), a 5 (by decide) (by omega)]
  refine ⟨w.1, fun d hd => ?_, fun s hs => ?_⟩
  · rw [a (13 + d) (by omega) (by omega), a (21 + d) (by omega) (by omega)]; exact w.2.1 d hd
  · rw [a (42 + s) (by omega) (by omega)]; exact w.2.2 s hs
theorem HS_ag {v : Sto} {m m' : Nat → Int32} (a : agH m m') (h : HS v m) : HS v m' := by
  obtain ⟨⟨h1, h2⟩, h3, h4, ⟨h5, h6⟩, h7, h8⟩ := h
  have b4 := (wfm_n h2).2.2.1.2
  have b5 := (wfm_n h2).2.2.2.2
  refine ⟨⟨h1, wfm_agH a h2⟩, ?_, ?_, ⟨?_, ?_⟩, ?_, ?_⟩
  · rw [a 0 (by decide) (by omega), a 1 (by decide) (by omega), a 2 (by decide) (by omega), a 3 (by decide) (by omega), a 4 (by decide) (by omega), a 5 (by decide) (by omega)]; exact h3
  · rw [a 4 (by decide) (by omega)]
    intro d hd
    rw [a (13 + d) (by omega) (by omega), a (21 + d) (by omega) (by omega)]; exact h4 d hd
  · intro d hd
    rw [a (29 + d) (by omega) (by omega)]; exact h5 d hd
  · rw [a 4 (by decide) (by omega), opM_ag _ (fun d hd => a (29 + d) (by omega) (by omega))]; exact h6
  · rw [a 5 (by decide) (by omega)]
    intro s hs
    rw [a (37 + s) (by omega) (by omega), a (42 + s) (by omega) (by omega), a (47 + s) (by omega) (by omega)]; exact h7 s hs
  · rw [a 2 (by decide) (by omega), a 5 (by decide) (by omega), a 0 (by decide) (by omega)]
    exact ⟨h8.1, h8.2.1, DE_ag (a 4 (by decide) (by omega)) (a 0 (by decide) (by omega)) (fun d hd => ⟨a (13 + d) (by omega) (by omega), a (21 + d) (by omega) (by omega)⟩) b4 h8.2.2⟩
theorem agH_hour {m : Nat → Int32} (w : WFM m) : agH m (q_hour m) := fun j h1 h2 => hrs_0 w 1 j h1 h2
-- the doors' bits
def opN (m : Nat → Int32) : Nat → Nat
  | 0 => 0
  | d + 1 => opN m d + (if m (29 + d) = 1 then 2 ^ d else 0)
theorem opN_lt (m : Nat → Int32) (D : Nat) : opN m D < 2 ^ D := by
  induction D with
  | zero => exact Nat.one_pos
  | succ D ih =>
    simp only [opN]
    rw [Nat.pow_succ]
    split <;> omega
theorem op_or : ∀ d, d < 8 → ∀ a, a < 2 ^ d → nI a ||| ((1 : Int32) <<< (nI d &&& 31)) = nI (a + 2 ^ d) := by decide +kernel
theorem op_z : ∀ d, d < 8 → (0 : Int32) <<< (nI d &&& 31) = 0 := by decide +kernel
theorem opM_N {m : Nat → Int32} (hb : ∀ d, d < 8 → m (29 + d) = 0 ∨ m (29 + d) = 1) : ∀ D, D ≤ 8 → s_opM m D = nI (opN m D) := by
  intro D
  induction D with
  | zero => intro _; rfl
  | succ D ih =>
    intro hD
    simp only [s_opM, opN]
    rw [ih (by omega)]
    rcases hb D (by omega) with h | h
    · rw [h, op_z D (by omega), Int32.or_zero, if_neg (by decide), Nat.add_zero]
    · rw [h, op_or D (by omega) _ (opN_lt m D), if_pos rfl]
theorem bitI : ∀ d, d < 8 → ∀ x, x < 256 → (nI x >>> (nI d &&& 31)) &&& 1 = nI (x / 2 ^ d % 2) := by decide +kernel
theorem bitN {a b D d : Nat} (hd : d < D) : (a + 2 ^ D * b) / 2 ^ d % 2 = a / 2 ^ d % 2 := by
  obtain ⟨e, rfl⟩ : ∃ e, D = d + 1 + e := ⟨D - d - 1, by omega⟩
  rw [show 2 ^ (d + 1 + e) * b = 2 ^ d * (2 * (2 ^ e * b)) by rw [Nat.pow_add, Nat.pow_succ, Nat.mul_assoc, Nat.mul_assoc]]
  rw [Nat.add_mul_div_left _ _ (Nat.two_pow_pos d), Nat.add_mul_mod_self_left]
theorem opN_bit (m : Nat → Int32) : ∀ D d, d < D → opN m D / 2 ^ d % 2 = if m (29 + d) = 1 then 1 else 0 := by
  intro D
  induction D with
  | zero => intro d h; exact absurd h (Nat.not_lt_zero _)
  | succ D ih =>
    intro d hd
    simp only [opN]
    by_cases e : d = D
    · subst e
      have hl := opN_lt m d
      split
      · rw [Nat.add_div_right _ (Nat.two_pow_pos d), Nat.div_eq_of_lt hl]
      · rw [Nat.add_zero, Nat.div_eq_of_lt hl]
    · split
      · have := bitN (a := opN m D) (b := 1) (show d < D by omega)
        rw [Nat.mul_one] at this
        rw [this]
        exact ih d (by omega)
      · rw [Nat.add_zero]; exact ih d (by omega)
theorem pw8 {D : Nat} (h : D ≤ 8) : 2 ^ D ≤ 256 := Nat.pow_le_pow_right (by decide) h
theorem op_bit {m : Nat → Int32} (hb : ∀ d, d < 8 → m (29 + d) = 0 ∨ m (29 + d) = 1) {D d : Nat} (hD : D ≤ 8) (hd : d < D) : (s_opM m D >>> (nI d &&& 31)) &&& 1 = m (29 + d) := by
  have hl := opN_lt m D
  have hp := pw8 hD
  rw [opM_N hb D hD, bitI d (by omega) _ (by omega), opN_bit m D d hd]
  rcases hb d (by omega) with h | h
  · rw [h]; rfl
  · rw [h]; rfl
-- who holds where
theorem or_b : ∀ x, x < 64 → ∀ p, p < 6 → (nI x ||| ((1 : Int32) <<< (nI p &&& 31))) = nI (x ||| 2 ^ p) ∧ x ||| 2 ^ p < 64 := by decide +kernel
theorem or_bit : ∀ x, x < 64 → ∀ p, p < 6 → ∀ r, r < 6 → (x ||| 2 ^ p) / 2 ^ r % 2 = if p = r then 1 else x / 2 ^ r % 2 := by decide +kernel
theorem kd_rg {k : Int32} (h : 1 ≤ k ∧ k ≤ 5) : k = 1 ∨ k = 2 ∨ k = 3 ∨ k = 4 ∨ k = 5 := by
  obtain ⟨n, hn, rfl⟩ := nI_of2 (M := 5) (n := 5) (x := k) rfl (Int32.not_lt.mpr (Int32.le_trans (by decide) h.1)) h.2
  rcases (show n = 0 ∨ n = 1 ∨ n = 2 ∨ n = 3 ∨ n = 4 ∨ n = 5 by omega) with rfl | rfl | rfl | rfl | rfl | rfl
  · exact absurd h.1 (by decide)
  · exact Or.inl rfl
  · exact Or.inr (Or.inl rfl)
  · exact Or.inr (Or.inr (Or.inl rfl))
  · exact Or.inr (Or.inr (Or.inr (Or.inl rfl)))
  · exact Or.inr (Or.inr (Or.inr (Or.inr rfl)))
theorem kb_ok {kb kp k : Int32} (hk : (kb = 14 ∧ kp = 0) ∨ (kb = 4 ∧ kp = 1)) (h : 1 ≤ k ∧ k ≤ 5) : (k == 2 || (kp == 0 && decide (k < 4))) = !((kb >>> (k &&& 31)) &&& 1 == 0) := by
  rcases hk with ⟨rfl, rfl⟩ | ⟨rfl, rfl⟩ <;> rcases kd_rg h with rfl | rfl | rfl | rfl | rfl <;> decide
theorem kept_bit {v : Sto} {m : Nat → Int32} (h : HS v m) {r kb kp : Int32} (hr : vp_in r 6) (hk : (kb = 14 ∧ kp = 0) ∨ (kb = 4 ∧ kp = 1)) : ∀ S, S ≤ (m 5).toNatClampNeg → ∃ x, x < 64 ∧ s_rw kb (v 3) (v 4) S = nI x ∧ (nI x >>> (r &&& 31)) &&& 1 = bI (s_kept m r kp S) := by
  obtain ⟨er, br⟩ := vp_to hr (by decide)
  have b5 := (wfm_n h.1.2).2.2.2.2
  intro S
  induction S with
  | zero => intro _; exact ⟨0, by decide, rfl, by rw [er, bitI _ (by omega) 0 (by decide), Nat.zero_div]; rfl⟩
  | succ S ih =>
    intro hS
    obtain ⟨x, hx, e1, e2⟩ := ih (by omega)
    obtain ⟨h3, h4, -, h6⟩ := h.2.2.2.2.1 S (by omega)
    obtain ⟨ep, bp⟩ := vp_to (HS_s h (show S < (m 5).toNatClampNeg by omega)).2 (by decide)
    have hkb := kb_ok hk h6
    simp only [s_rw, s_kept]
    rw [← h3, ← h4, hkb]
    by_cases c : (kb >>> (v 3 S &&& 31)) &&& 1 = 0
    · rw [if_pos c]
      refine ⟨x, hx, e1, ?_⟩
      rw [c, e2]
      simp
    · rw [if_neg c, e1, ep]
      obtain ⟨o1, o2⟩ := or_b x hx _ bp
      refine ⟨x ||| 2 ^ (v 4 S).toNatClampNeg, o2, o1, ?_⟩
      rw [er, bitI _ (by omega) _ (by omega), or_bit x hx _ bp _ br]
      rw [er, bitI _ (by omega) _ (by omega)] at e2
      have c2 : ((kb >>> (v 3 S &&& 31)) &&& 1 == 0) = false := by simpa using c
      rw [c2]
      by_cases q : (v 4 S).toNatClampNeg = r.toNatClampNeg
      · rw [if_pos q, q]
        simp [bI]; rfl
      · rw [if_neg q, e2]
        have q2 : (nI ((v 4 S).toNatClampNeg) == nI (r.toNatClampNeg)) = false := by
          rw [beq_eq_false_iff_ne]
          intro z
          exact q ((nI_eq (by omega) (by omega)).mp z)
        rw [q2]
        simp
theorem kept_0 {v : Sto} {m : Nat → Int32} (h : HS v m) {r kb kp : Int32} (hr : vp_in r 6) (hk : (kb = 14 ∧ kp = 0) ∨ (kb = 4 ∧ kp = 1)) : (s_rw kb (v 3) (v 4) ((v 0 7).toNatClampNeg) >>> (r &&& 31)) &&& 1 = bI (s_kept m r kp ((m 5).toNatClampNeg)) := by
  rw [h.2.1.2.2.2.2.2]
  obtain ⟨x, -, e1, e2⟩ := kept_bit h hr hk ((m 5).toNatClampNeg) (Nat.le_refl _)
  rw [e1, e2]
-- one hour
theorem bnd_rg (v : Int32) : 0 ≤ bnd v ∧ bnd v ≤ 999 := by
  unfold bnd
  split
  · split
    · exact ⟨by assumption, by assumption⟩
    · exact ⟨by decide, by decide⟩
  · exact ⟨by decide, by decide⟩
theorem clamp_b (v : Int32) : clampC v = bnd v := by
  unfold clampC bnd
  by_cases h0 : 0 ≤ v
  · rw [if_pos h0]
    by_cases h1 : v < 999
    · rw [if_pos h1, if_pos (Int32.le_of_lt h1)]
      by_cases h2 : 0 < v
      · rw [if_pos h2]
      · rw [if_neg h2]
        exact Int32.le_antisymm h0 (Int32.not_lt.mp h2)
    · rw [if_neg h1, if_pos (by decide)]
      by_cases h2 : v ≤ 999
      · rw [if_pos h2]
        exact Int32.le_antisymm (Int32.not_lt.mp h1) h2
      · rw [if_neg h2]
  · rw [if_neg h0]
    have h1 : v < 999 := Int32.lt_trans (Int32.not_le.mp h0) (by decide)
    rw [if_pos h1, if_neg (fun q => h0 (Int32.le_of_lt q))]
theorem chill_M (k f : Int32) : s_chill k f = chM k f := by
  unfold s_chill chM
  by_cases h3 : k = 3
  · subst h3; simp
  · by_cases h4 : k = 4
    · subst h4; simp
    · by_cases h5 : k = 5
      · subst h5; simp
      · simp [h3, h4, h5]
theorem min_b {a q : Int32} (ha : 0 ≤ a ∧ a ≤ 999) (hq : 0 ≤ q ∧ q ≤ 40) : (if a + q < 999 then a + q else 999) = bnd (a + q) := by
  obtain ⟨x, hx, rfl⟩ := rgN ha
  obtain ⟨y, hy, rfl⟩ := rgN ⟨hq.1, Int32.le_trans hq.2 (by decide)⟩
  rw [← clamp_b]
  unfold clampC
  rw [nI_add]
  split
  · rename_i h
    by_cases z : 0 < nI (x + y)
    · rw [if_pos z]
    · rw [if_neg z]
      exact Int32.le_antisymm (Int32.not_lt.mp z) (nI_pos' (by omega))
  · rw [if_pos (by decide)]
theorem CR_h1 {v : Sto} {c m : Nat → Int32} (h : HS v m) (hc : CR c m) : CR (upd c ((v 0 1).toNatClampNeg) (if c ((v 0 1).toNatClampNeg) + v 0 2 < 999 then c ((v 0 1).toNatClampNeg) + v 0 2 else 999)) (q_h1 m) := by
  have b1 := (vp_to h.1.1.1.2.1 (by decide)).2
  have e := hc _ b1
  unfold q_h1
  rw [← h.2.1.2.1, ← e.1, ← h.2.1.2.2.1, min_b e.2 (by rw [h.2.1.2.2.1]; exact h.2.2.2.2.2.1)]
  exact CR_upd hc _ (bnd_rg _)
theorem fl_arith {F T : Int32} (hF : 0 ≤ F ∧ F ≤ 999) (hT : 0 ≤ T ∧ T ≤ 999) (hTF : T ≤ F) {g : Int32} (hg : g = (F - T) / 4 ∨ g = (F - T) / 4 / 2 ∨ g = 0) : (0 ≤ F - g ∧ F - g ≤ 999) ∧ (0 ≤ T + g ∧ T + g ≤ 999) ∧ F - g + g = F := by
  obtain ⟨f, hf, rfl⟩ := rgN hF
  obtain ⟨t, ht, rfl⟩ := rgN hT
  have htf : t ≤ f := (nI_leI (by omega) (by omega)).mp hTF
  have : ∃ γ, γ ≤ f - t ∧ g = nI γ := by
    rw [pk_sub htf] at hg
    rcases hg with h | h | h
    · exact ⟨(f - t) / 4, by omega, by rw [h, show (4 : Int32) = nI 4 from rfl, pk_div (by omega) (by decide) (by decide)]⟩
    · exact ⟨(f - t) / 4 / 2, by omega, by rw [h, show (4 : Int32) = nI 4 from rfl, pk_div (by omega) (by decide) (by decide), show (2 : Int32) = nI 2 from rfl, pk_div (by omega) (by decide) (by decide)]⟩
    · exact ⟨0, by omega, h⟩
  obtain ⟨γ, hγ, rfl⟩ := this
  rw [pk_sub (show γ ≤ f by omega), nI_add, nI_add]
  exact ⟨nrg (by omega), nrg (by omega), by rw [show f - γ + γ = f by omega]⟩
theorem upd_id (f : Nat → Int32) (k : Nat) : upd f k (f k) = f := by
  funext j
  unfold upd
  split
  · rename_i e; rw [e]
  · rfl
theorem fl_z (m : Nat → Int32) (a b : Nat) : flM m a b 0 = m := by
  unfold flM
  rw [Int32.sub_zero, Int32.add_zero, upd_id, upd_id]
/-- the flow from one room to another, the same on both sides -/
theorem CR_flow2 {v : Sto} {c m : Nat → Int32} (h : HS v m) (hc : CR c m) {fr to : Int32} (hf : vp_in fr 6) (ht : vp_in to 6) (hle : c (to.toNatClampNeg) ≤ c (fr.toNatClampNeg)) :
    CR (if (s_rw 4 (v 3) (v 4) ((v 0 7).toNatClampNeg) >>> (fr &&& 31)) &&& 1 = 0 then upd (upd c (fr.toNatClampNeg) (c (fr.toNatClampNeg) - (if (s_rw 14 (v 3) (v 4) ((v 0 7).toNatClampNeg) >>> (fr &&& 31)) &&& 1 = 0 then (c (fr.toNatClampNeg) - c (to.toNatClampNeg)) / 4 else (c (fr.toNatClampNeg) - c (to.toNatClampNeg)) / 4 / 2))) (to.toNatClampNeg) (upd c (fr.toNatClampNeg) (c (fr.toNatClampNeg) - (if (s_rw 14 (v 3) (v 4) ((v 0 7).toNatClampNeg) >>> (fr &&& 31)) &&& 1 = 0 then (c (fr.toNatClampNeg) - c (to.toNatClampNeg)) / 4 else (c (fr.toNatClampNeg) - c (to.toNatClampNeg)) / 4 / 2)) (to.toNatClampNeg) + (if (s_rw 14 (v 3) (v 4) ((v 0 7).toNatClampNeg) >>> (fr &&& 31)) &&& 1 = 0 then (c (fr.toNatClampNeg) - c (to.toNatClampNeg)) / 4 else (c (fr.toNatClampNeg) - c (to.toNatClampNeg)) / 4 / 2)) else c) (q_fl m fr to) := by
  have bf := (vp_to hf (by decide)).2
  have bt := (vp_to ht (by decide)).2
  have ef := hc _ bf
  have et := hc _ bt
  rw [kept_0 h hf (Or.inr ⟨rfl, rfl⟩), kept_0 h hf (Or.inl ⟨rfl, rfl⟩)]
  unfold q_fl flV
  by_cases k1 : s_kept m fr 1 ((m 5).toNatClampNeg) = true
  · rw [if_neg (by rw [k1]; decide), if_pos k1, fl_z]
    exact hc
  · have k1' : s_kept m fr 1 ((m 5).toNatClampNeg) = false := by simpa using k1
    rw [if_pos (by rw [k1']; rfl), if_neg k1]
    have e4 : (c (fr.toNatClampNeg) - c (to.toNatClampNeg)) / 4 = (m (7 + fr.toNatClampNeg) - m (7 + to.toNatClampNeg)) / 4 := by rw [ef.1, et.1]
    have key : ∀ g : Int32, (g = (c (fr.toNatClampNeg) - c (to.toNatClampNeg)) / 4 ∨ g = (c (fr.toNatClampNeg) - c (to.toNatClampNeg)) / 4 / 2 ∨ g = 0) → CR (upd (upd c (fr.toNatClampNeg) (c (fr.toNatClampNeg) - g)) (to.toNatClampNeg) (upd c (fr.toNatClampNeg) (c (fr.toNatClampNeg) - g) (to.toNatClampNeg) + g)) (flM m (fr.toNatClampNeg) (to.toNatClampNeg) g) := by
      intro g hg
      have ar := fl_arith ef.2 et.2 hle hg
      unfold flM
      rw [← ef.1]
      have hc2 := CR_upd hc (fr.toNatClampNeg) ar.1
      have hv := hc2 _ bt
      rw [← hv.1]
      refine CR_upd hc2 (to.toNatClampNeg) ?_
      by_cases e : to.toNatClampNeg = fr.toNatClampNeg
      · rw [e, upd_same, ar.2.2]; exact ef.2
      · rw [upd_ne e]; exact ar.2.1
    by_cases k0 : s_kept m fr 0 ((m 5).toNatClampNeg) = true
    · rw [if_neg (by rw [k0]; decide), if_pos k0, ← e4]
      exact key _ (Or.inr (Or.inl rfl))
    · have k0' : s_kept m fr 0 ((m 5).toNatClampNeg) = false := by simpa using k0
      rw [if_pos (by rw [k0']; rfl), if_neg k0, ← e4]
      exact key _ (Or.inl rfl)
theorem CR_flow {v : Sto} {c m : Nat → Int32} (h : HS v m) (hc : CR c m) {a b : Int32} (ha : vp_in a 6) (hb : vp_in b 6) : CR (s_flow (s_rw 14 (v 3) (v 4) ((v 0 7).toNatClampNeg)) (s_rw 4 (v 3) (v 4) ((v 0 7).toNatClampNeg)) c a b) (if m (7 + a.toNatClampNeg) ≤ m (7 + b.toNatClampNeg) then q_fl m b a else q_fl m a b) := by
  rw [← (hc _ (vp_to ha (by decide)).2).1, ← (hc _ (vp_to hb (by decide)).2).1]
  unfold s_flow
  by_cases q : c (a.toNatClampNeg) ≤ c (b.toNatClampNeg)
  · simp only [if_pos q]
    have et : (if b = a then b else a) = a := by
      split
      · assumption
      · rfl
    rw [et]
    exact CR_flow2 h hc hb ha q
  · simp only [if_neg q, if_true]
    exact CR_flow2 h hc ha hb (Int32.le_of_lt (Int32.not_le.mp q))
theorem CR_doors {v : Sto} {c m : Nat → Int32} (h : HS v m) (hc : CR c m) : ∀ d, d ≤ (m 4).toNatClampNeg → CR (s_pd (s_rw 14 (v 3) (v 4) ((v 0 7).toNatClampNeg)) (s_rw 4 (v 3) (v 4) ((v 0 7).toNatClampNeg)) (v 0 6) (v 1) (v 2) c d) (q_hd m d) := by
  have b4 := (wfm_n h.1.2).2.2.1.2
  intro d
  induction d with
  | zero => intro _; exact hc
  | succ d ih =>
    intro hd
    have ih := ih (by omega)
    have ag := ag_hd h.1.2 d (by omega)
    have h2 := HS_ag (agH_F ag) h
    simp only [s_pd, q_hd]
    rw [ag (29 + d) (by omega), ag (13 + d) (by omega), ag (21 + d) (by omega), h.2.2.2.1.2, op_bit h.2.2.2.1.1 b4 (by omega)]
    rcases h.2.2.2.1.1 d (by omega) with e | e
    · rw [e, if_pos rfl, if_neg (by decide), ← h.2.2.2.1.2]
      exact ih
    · rw [e, if_neg (by decide), if_pos rfl, (h.2.2.1 d (by omega)).1, (h.2.2.1 d (by omega)).2, ← h.2.2.2.1.2]
      exact CR_flow h2 ih (h.1.2.2.1 d (by omega)).1 (h.1.2.2.1 d (by omega)).2
theorem CR_sit {v : Sto} {c m : Nat → Int32} (h : HS v m) (hc : CR c m) : ∀ d, d ≤ (m 5).toNatClampNeg → CR (s_ps (v 3) (v 4) (v 5) c d) (q_hs m d) := by
  have b5 := (wfm_n h.1.2).2.2.2.2
  intro d
  induction d with
  | zero => intro _; exact hc
  | succ d ih =>
    intro hd
    have ih := ih (by omega)
    have ag := ag_hs h.1.2 d (by omega)
    obtain ⟨h3, h4, h5, -⟩ := h.2.2.2.2.1 d (by omega)
    have bp := (vp_to (HS_s h (show d < (m 5).toNatClampNeg by omega)).2 (by decide)).2
    simp only [s_ps, q_hs]
    rw [ag (42 + d) (by omega), ag (37 + d) (by omega), ag (47 + d) (by omega), ← h3, ← h4, ← h5, clamp_b, chill_M, ← (ih _ bp).1]
    exact CR_upd ih _ (bnd_rg _)
theorem CR_hour {v : Sto} {c m : Nat → Int32} (h : HS v m) (hc : CR c m) : CR (HC v c) (q_hour m) := by
  have b4 := (wfm_n h.1.2).2.2.1.2
  have b5 := (wfm_n h.1.2).2.2.2.2
  have a1 := ag_h1 h.1.2
  have h1 := HS_ag (agH_F a1) h
  have c1 := CR_h1 h hc
  have a2 := ag_hd h1.1.2 ((m 4).toNatClampNeg) b4
  have c2 := CR_doors h1 c1 ((m 4).toNatClampNeg) (by rw [a1 4 (by omega)]; exact Nat.le_refl _)
  have h2 := HS_ag (agH_F a2) h1
  have c3 := CR_sit h2 c2 ((m 5).toNatClampNeg) (by rw [a2 5 (by omega), a1 5 (by omega)]; exact Nat.le_refl _)
  unfold HC q_hour
  refine CR_o ?_ (by omega) _
  rw [h.2.1.2.2.2.2.1, h.2.1.2.2.2.2.2] at *
  exact c3
theorem CR_hrs {v : Sto} {c m : Nat → Int32} (h : HS v m) (hc : CR c m) (n : Nat) : CR (hcs v c n) (q_hrs m n) ∧ HS v (q_hrs m n) := by
  induction n with
  | zero => exact ⟨hc, h⟩
  | succ n ih => exact ⟨CR_hour ih.2 ih.1, HS_ag (agH_hour ih.2.1.2) ih.2⟩
