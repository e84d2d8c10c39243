theorem ci_cg {f g : Nat → Bool} : ∀ n, (∀ i, i < n → f i = g i) → s_ci f n = s_ci g n := by
  intro n
  induction n with
  | zero => intro _; rfl
  | succ n ih =>
    intro h
    simp only [s_ci]
    rw [ih (fun i hi => h i (by omega)), h n (by omega)]
theorem in_iff (it c : Nat → Int32) (b : Nat) : ∀ m r, s_in it c b r m = true ↔ ∀ j, r ≤ j → j < r + m → it (b + j) = c j := by
  intro m
  induction m with
  | zero => intro r; exact ⟨fun _ j h1 h2 => absurd h2 (by omega), fun _ => rfl⟩
  | succ m ih =>
    intro r
    by_cases q : it (b + r) = c r
    · have e : s_in it c b r (m + 1) = s_in it c b (r + 1) m := if_pos q
      rw [e, ih (r + 1)]
      constructor
      · intro h j h1 h2
        rcases Nat.eq_or_lt_of_le h1 with z | z
        · rw [← z]; exact q
        · exact h j z (by omega)
      · intro h j h1 h2
        exact h j (by omega) (by omega)
    · have e : s_in it c b r (m + 1) = false := if_neg q
      rw [e]
      exact ⟨fun z => absurd z (by decide), fun h => absurd (h r (Nat.le_refl _) (by omega)) q⟩
theorem hcs_S (v : Sto) (c : Nat → Int32) : ∀ n, hcs v (HC v c) n = hcs v c (n + 1) := by
  intro n
  induction n with
  | zero => rfl
  | succ n ih => show HC v (hcs v (HC v c) n) = HC v (hcs v c (n + 1)); rw [ih]
theorem at_iff (it : Nat → Int32) (v : Sto) (a R : Nat) : ∀ m (c : Nat → Int32) h, s_at it v a R c h m = true ↔ ∀ k, k < m → ∀ j, j < R → it (a + (h + k) * R + j) = hcs v c (k + 1) j := by
  intro m
  induction m with
  | zero => intro c h; exact ⟨fun _ k hk => absurd hk (Nat.not_lt_zero _), fun _ => rfl⟩
  | succ m ih =>
    intro c h
    have e : s_at it v a R c h (m + 1) = (s_in it (HC v c) (a + h * R) 0 R && s_at it v a R (HC v c) (h + 1) m) := rfl
    rw [e, Bool.and_eq_true, in_iff, ih (HC v c) (h + 1)]
    constructor
    · intro ⟨h1, h2⟩ k hk j hj
      cases k with
      | zero => exact h1 j (Nat.zero_le _) (by omega)
      | succ k =>
        have := h2 k (by omega) j hj
        rw [hcs_S, show h + 1 + k = h + (k + 1) by omega] at this
        exact this
    · intro hh
      refine ⟨fun j _ hj => hh 0 (by omega) j (by omega), fun k hk j hj => ?_⟩
      rw [hcs_S, show h + 1 + k = h + (k + 1) by omega]
      exact hh (k + 1) (by omega) j hj
theorem soM_iff (it m : Nat → Int32) (A W : Nat) : ∀ k, soM it m A W k = true ↔ ∀ j, j < k → it (A + j) = q_hrs m (j / W + 1) (7 + j % W) := by
  intro k
  induction k with
  | zero => exact ⟨fun _ j hj => absurd hj (Nat.not_lt_zero _), fun _ => rfl⟩
  | succ k ih =>
    have e : soM it m A W (k + 1) = (soM it m A W k && (it (A + k) == q_hrs m (k / W + 1) (7 + k % W))) := rfl
    rw [e, Bool.and_eq_true, ih, beq_iff_eq]
    constructor
    · intro ⟨h1, h2⟩ j hj
      by_cases z : j = k
      · rw [z]; exact h2
      · exact h1 j (by omega)
    · intro h
      exact ⟨fun j hj => h j (by omega), h k (by omega)⟩
/-- the told hours are so on the class's side just where they are on the model's -/
theorem told_eq {v : Sto} {c m it it' : Nat → Int32} (h : HS v m) (hc : CR c m) {a A N : Nat} (hN : N = (m 0).toNatClampNeg) {n : Nat} (hit : ∀ j, j < n * N → it (a + j) = it' (A + j)) : s_at it v a N c 0 n = soM it' m A N (n * N) := by
  rw [Bool.eq_iff_iff, at_iff, soM_iff]
  have b0 := (wfm_n h.1.2).1.2
  constructor
  · intro hh j hj
    have hN0 : 0 < N := Nat.pos_of_ne_zero (fun z => by rw [z, Nat.mul_zero] at hj; exact Nat.not_lt_zero _ hj)
    have hm := Nat.mod_lt j hN0
    have hd : j / N < n := (Nat.div_lt_iff_lt_mul hN0).mpr hj
    have e := Nat.div_add_mod j N
    have := hh (j / N) hd (j % N) hm
    rw [Nat.zero_add, Nat.add_assoc, show j / N * N + j % N = j by rw [Nat.mul_comm]; exact e] at this
    rw [← hit j hj, this]
    exact ((CR_hrs h hc (j / N + 1)).1 (j % N) (by omega)).1
  · intro hh k hk j hj
    have hb := mulb (R := N) hk
    have e1 : (k * N + j) / N = k := by rw [Nat.mul_comm, Nat.mul_add_div (by omega), Nat.div_eq_of_lt hj, Nat.add_zero]
    have e2 : (k * N + j) % N = j := by rw [Nat.mul_comm, Nat.mul_add_mod, Nat.mod_eq_of_lt hj]
    have := hh (k * N + j) (by omega)
    rw [e1, e2] at this
    rw [Nat.zero_add, Nat.add_assoc, hit _ (by omega), this]
    exact (((CR_hrs h hc (k + 1)).1 j (by omega)).1).symm
theorem hp_wi2 {z i : Int32} {N : Nat} (hz : z = -1 ∨ vp_in z 41) (h0 : 0 ≤ z) (hN : N ≤ 36) : s_hasPlaces z i (nI N) = wi i 0 (z - nI N) := by
  have hz2 : vp_in z 41 := by
    rcases hz with rfl | hz
    · exact absurd h0 (by decide)
    · exact hz
  obtain ⟨e, hl⟩ := vp_to hz2 (by decide)
  unfold s_hasPlaces wi
  rw [decide_eq_true (nI_pos' (show N < 2 ^ 31 by omega)), Bool.and_true]
  by_cases c : 0 ≤ i
  · rw [decide_eq_true c, Bool.true_and, Bool.true_and]
    obtain ⟨ei, hi⟩ := nn_to (Int32.not_lt.mpr c)
    rw [show decide (i ≤ z - nI N) = decide (i.toInt ≤ (z - nI N).toInt) from decide_eq_decide.mpr Int32.le_iff_toInt_le]
    rw [e, ei]
    generalize z.toNatClampNeg = Z at *
    generalize i.toNatClampNeg = J at *
    rw [pk_sub_toInt (by omega) (by omega), nI_toInt hi]
    by_cases q : J ≤ Z
    · rw [decide_eq_true (nI_le q (by omega)), Bool.true_and, pk_sub q, decide_eq_decide, nI_leI (by omega) (by omega)]
      omega
    · rw [decide_eq_false (nI_ge (by omega) hi), Bool.false_and]
      exact (decide_eq_false (by omega)).symm
  · rw [decide_eq_false c, Bool.false_and, Bool.false_and, Bool.false_and]
/-- what a told row gives: a finding, or the places -/
theorem lacks_eq {a b : Sto} (h : REL a b) {ro i n : Int32} (hro : ¬ wi ro 0 7 = false) (hn : ¬ wi n 1 6 = false) :
    ((a 4 (ro.toNatClampNeg) == -1) = true ∧ q_lacks b ro i (n * b 44 0) = (-1000010 - 1, fndM b 1)) ∨
    (¬ (a 4 (ro.toNatClampNeg) == -1) = true ∧ s_hasPlaces (a 4 (ro.toNatClampNeg)) i (n * a 7 0) = false ∧ q_lacks b ro i (n * b 44 0) = (-1000010 - 2, fndM b 2)) ∨
    (¬ (a 4 (ro.toNatClampNeg) == -1) = true ∧ ¬ s_hasPlaces (a 4 (ro.toNatClampNeg)) i (n * a 7 0) = false ∧ q_lacks b ro i (n * b 44 0) = (0, b) ∧ (∀ j, j < n.toNatClampNeg * (b 44 0).toNatClampNeg → a 2 (40 * ro.toNatClampNeg + (i.toNatClampNeg + j)) = b 43 (40 * ro.toNatClampNeg + i.toNatClampNeg + j))) := by
  obtain ⟨er, br⟩ := row_in hro
  have hr := h.2.2.2.1.1
  have hs := h.1.1 _ br
  have he := h.1.2.1 _ br
  have e0 : a 7 0 = b 44 0 := hr.1.2.1.1
  obtain ⟨en, bn⟩ := vp_to (wi_in (N := 7) (by simpa using hn) (by decide) (by decide)) (by decide)
  obtain ⟨em, b0⟩ := (wfm_n hr.1.1.2).1
  have eN : n * b 44 0 = nI (n.toNatClampNeg * (b 44 0).toNatClampNeg) := by
    have := pk_mul (n.toNatClampNeg) ((b 44 0).toNatClampNeg)
    rw [← en, ← em] at this
    exact this
  have bN : n.toNatClampNeg * (b 44 0).toNatClampNeg ≤ 36 := Nat.mul_le_mul (show n.toNatClampNeg ≤ 6 by omega) b0
  unfold q_lacks
  rw [← he.1, e0, eN]
  by_cases c : 0 ≤ a 4 (ro.toNatClampNeg)
  · have c' : ¬ (a 4 (ro.toNatClampNeg) == -1) = true := by rw [sz_neg hs]; exact fun q => q c
    rw [if_pos c, hp_wi2 hs c bN]
    by_cases c2 : wi i 0 (a 4 (ro.toNatClampNeg) - nI (n.toNatClampNeg * (b 44 0).toNatClampNeg)) = false
    · rw [if_pos c2]
      exact Or.inr (Or.inl ⟨c', c2, rfl⟩)
    · rw [if_neg c2]
      refine Or.inr (Or.inr ⟨c', c2, rfl, fun j hj => ?_⟩)
      have hp := hp_of hs (i := i) (n := nI (n.toNatClampNeg * (b 44 0).toNatClampNeg)) (by rw [hp_wi2 hs c bN]; simpa using c2)
      have hk := hp.2.2.2.2
      rw [nI_clamp (by omega)] at hk
      have := h.1.2.2 (ro.toNatClampNeg) br (i.toNatClampNeg + j) (by omega)
      rw [Nat.add_assoc]
      exact this
  · rw [if_neg c]
    exact Or.inl ⟨(sz_neg hs).mpr c, rfl⟩
theorem REL_C {a b a' b' : Sto} (h : REL a b) {x : Int32} (ha : frC a a') (h8 : a' 0 8 = a 0 8) (h9 : a' 0 9 = x) (hb : ∀ k, k ≠ 49 → b' k = fndM b x k) : REL a' b' := by
  obtain ⟨h1, h2, h3, h4, h5, h6, h7⟩ := h
  have hk : ∀ {k : Nat}, k ≠ 0 → ¬ (16 ≤ k ∧ k < 24) → a' k = a k := fun q1 q2 => ha _ q1 q2
  have q40 : ∀ j, j ≠ 3 → b' 40 j = b 40 j := fun j hj => by rw [hb 40 (by decide)]; exact upd_ne hj
  have hn : ∀ {k : Nat}, k ≠ 49 → k ≠ 40 → b' k = b k := fun q1 q2 => (hb _ q1).trans (upc_ne q2)
  refine ⟨RR_fr (a := a) (b := b) (hk (by decide) (by decide)) (hk (by decide) (by decide)) (hk (by decide) (by decide)) (hn (by decide) (by decide)) (hn (by decide) (by decide)) (hn (by decide) (by decide)) h1, ⟨?_, ?_⟩, RT_fr (a := a) (b := b) (by rw [hk (by decide) (by decide)]) (hk (by decide) (by decide)) (q40 _ (by decide)) (hn (by decide) (by decide)) h3, RH_fr (a := a) (b := b) (fun k q => hk (by omega) (by omega)) (q40 _ (by decide)) (hn (by decide) (by decide)) h4, RA_fr (a := a) (b := b) (fun k q _ _ _ => hk (by omega) (by omega)) (fun j _ _ => by rw [hk (by decide) (by decide)]) (hk (by decide) (by decide)) (hk (by decide) (by decide)) (q40 _ (by decide)) (hn (by decide) (by decide)) h5, RI_fr (a := a) (b := b) (fun k k1 k2 => hk (by omega) (by omega)) (hn (by decide) (by decide)) (hn (by decide) (by decide)) (by rw [q40 _ (by decide)]; exact id) h6, RC_fr (a := a) (b := b) (by rw [hk (by decide) (by decide)]) (hk (by decide) (by decide)) (q40 _ (by decide)) (hn (by decide) (by decide)) h7⟩
  · rw [h9, hb 40 (by decide)]
    show x = upc b 40 (upd (b 40) 3 x) 40 3
    rw [upc_same, upd_same]
  · rw [h8, q40 9 (by decide)]
    exact h2.2
theorem rel_came {a b : Sto} (h : REL a b) (ro i n : Int32) : (m_came a ro i n).1 = (q_came b ro i n).1 ∧ ∀ k, k ≠ 49 → (q_came b ro i n).2 k = fndM b (m_came a ro i n).2 k := by
  have hs := st_0 h.2.2.2.1
  have hr := h.2.2.2.1.1
  have hst : ∀ k, k ≠ 49 → b k = fndM b (a 0 9) k := fun k _ => by
    rw [show a 0 9 = b 40 3 from h.2.1.1]
    unfold fndM
    rw [upd_id, upc_id]
  unfold m_came q_came
  by_cases c1 : b 40 4 = 0
  · rw [if_pos (hs.mpr c1), if_pos c1]; exact ⟨rfl, hst⟩
  rw [if_neg (fun q => c1 (hs.mp q)), if_neg c1, rowB_wi]
  by_cases c2 : wi ro 0 7 = false
  · rw [if_pos c2, if_pos c2]; exact ⟨rfl, hst⟩
  rw [if_neg c2, if_neg c2]
  by_cases c3 : wi n 1 6 = false
  · rw [if_pos c3, if_pos c3]; exact ⟨rfl, hst⟩
  rw [if_neg c3, if_neg c3]
  have b0 := (wfm_n hr.1.1.2).1.2
  rcases lacks_eq h (i := i) c2 c3 with ⟨q1, q2⟩ | ⟨q1, q2, q3⟩ | ⟨q1, q2, q3, q4⟩
  · rw [if_pos q1, q2, if_neg (show ¬ (0 : Int32) ≤ -1000010 - 1 by decide)]
    exact ⟨rfl, fun _ _ => rfl⟩
  · rw [if_neg q1, if_pos q2, q3, if_neg (show ¬ (0 : Int32) ≤ -1000010 - 2 by decide)]
    exact ⟨rfl, fun _ _ => rfl⟩
  · rw [if_neg q1, if_neg q2, q3, if_pos (show (0 : Int32) ≤ 0 by decide)]
    refine ⟨?_, fun k q => ?_⟩
    · show s_ci _ _ = s_ci _ _
      rw [show a 7 0 = b 44 0 from hr.1.2.1.1]
      refine ci_cg _ (fun r hrr => ?_)
      unfold caX
      exact told_eq (HS_in hr.1 (vp_in_nI (by omega) (by decide))) (CR_o (hr_of h).2 (by omega) _) (by rw [upd_ne (by decide)]) q4
    · show upc (asd b) 40 (upd (asd b 40) 3 0) k = upc b 40 (upd (b 40) 3 0) k
      by_cases e : k = 40
      · subst e; rw [upc_same, upc_same]; rfl
      · rw [upc_ne e, upc_ne e]; exact asd_ne q
theorem rel_who {a b : Sto} (h : REL a b) (s ro i n : Int32) : (m_who a s ro i n).1 = (q_who b s ro i n).1 ∧ ∀ k, k ≠ 49 → (q_who b s ro i n).2 k = fndM b (m_who a s ro i n).2 k := by
  have hr := h.2.2.2.1.1
  have hst : ∀ k, k ≠ 49 → b k = fndM b (a 0 9) k := fun k _ => by
    rw [show a 0 9 = b 40 3 from h.2.1.1]
    unfold fndM
    rw [upd_id, upc_id]
  unfold m_who q_who
  rw [sit_wi hr, rowB_wi]
  by_cases c1 : wi s 0 (b 44 5 - 1) = false
  · rw [if_pos c1, if_pos c1]; exact ⟨rfl, hst⟩
  rw [if_neg c1, if_neg c1]
  by_cases c2 : wi ro 0 7 = false
  · rw [if_pos c2, if_pos c2]; exact ⟨rfl, hst⟩
  rw [if_neg c2, if_neg c2]
  by_cases c3 : wi n 1 6 = false
  · rw [if_pos c3, if_pos c3]; exact ⟨rfl, hst⟩
  rw [if_neg c3, if_neg c3]
  have b5 := (wfm_n hr.1.1.2).2.2.2.2
  have hd := wi_lt (K := 6) (by decide) hr.1.1.2.1.2.2.2 c1
  rcases lacks_eq h (i := i) c2 c3 with ⟨q1, q2⟩ | ⟨q1, q2, q3⟩ | ⟨q1, q2, q3, q4⟩
  · rw [if_pos q1, q2, if_neg (show ¬ (0 : Int32) ≤ -1000010 - 1 by decide)]
    exact ⟨rfl, fun _ _ => rfl⟩
  · rw [if_neg q1, if_pos q2, q3, if_neg (show ¬ (0 : Int32) ≤ -1000010 - 2 by decide)]
    exact ⟨rfl, fun _ _ => rfl⟩
  · rw [if_neg q1, if_neg q2, q3, if_pos (show (0 : Int32) ≤ 0 by decide)]
    refine ⟨?_, fun k q => ?_⟩
    · show s_ci _ _ = s_ci _ _
      refine ci_cg _ (fun r hrr => ?_)
      by_cases z : 1 ≤ r
      · rw [decide_eq_true z, Bool.true_and, Bool.true_and, show a 7 0 = b 44 0 from hr.1.2.1.1]
        unfold whX
        have hk : 1 ≤ nI r ∧ nI r ≤ 5 := ⟨nI_le (a := 1) z (by omega), nI_le (b := 5) (by omega) (by decide)⟩
        exact told_eq (HS_kind hr.1 (by omega) hk (vp_in_nI hrr (by decide))) (CR_o (hr_of h).2 (by omega) _) (by rw [upd_ne (by omega)]) q4
      · rw [decide_eq_false z, Bool.false_and, Bool.false_and]
    · show upc (asd b) 40 (upd (asd b 40) 3 0) k = upc b 40 (upd (b 40) 3 0) k
      by_cases e : k = 40
      · subst e; rw [upc_same, upc_same]; rfl
      · rw [upc_ne e, upc_ne e]; exact asd_ne q
-- draws
def nL (n : Nat) : Int64 := Int64.ofNat n
theorem nL_toInt {n : Nat} (h : n < 2 ^ 63) : (nL n).toInt = n := Int64.toInt_ofNat_of_lt h
theorem nL_inj {a b : Nat} (ha : a < 2 ^ 63) (hb : b < 2 ^ 63) (h : nL a = nL b) : a = b := by
  have := congrArg Int64.toInt h
  rw [nL_toInt ha, nL_toInt hb] at this
  omega
theorem nL_mul (a b : Nat) : nL a * nL b = nL (a * b) := (Int64.ofNat_mul a b).symm
theorem nL_add (a b : Nat) : nL a + nL b = nL (a + b) := (Int64.ofNat_add a b).symm
theorem i64_ext {x y : Int64} (h : x.toInt = y.toInt) : x = y := Int64.toInt_inj.mp h
theorem nL_div {a b : Nat} (ha : a < 2 ^ 63) (hb : b < 2 ^ 63) (h0 : 0 < b) : nL a / nL b = nL (a / b) := by
  apply i64_ext
  have h1 : a / b ≤ a := Nat.div_le_self a b
  rw [Int64.toInt_div, nL_toInt ha, nL_toInt hb, nL_toInt (by omega), ← Int.ofNat_tdiv]
  generalize a / b = q at *
  apply Int.bmod_eq_of_le <;> omega
theorem nL_rem {a b : Nat} (ha : a < 2 ^ 63) (hb : b < 2 ^ 63) (h0 : 0 < b) : nL a - nL a / nL b * nL b = nL (a % b) := by
  rw [nL_div ha hb h0, nL_mul]
  have e := Nat.div_add_mod a b
  have e2 : nL a = nL (a / b * b) + nL (a % b) := by rw [nL_add, Nat.mul_comm, e]
  rw [e2, Int64.add_comm, Int64.add_sub_cancel]
theorem i2l_nL {n : Nat} (h : n < 2 ^ 31) : (nI n).toInt64 = nL n := by
  apply i64_ext
  rw [Int32.toInt_toInt64, nI_toInt h, nL_toInt (by omega)]
theorem l2i_nL (n : Nat) : (nL n).toInt32 = nI n := by
  apply Int32.toInt_inj.mp
  rw [Int64.toInt_toInt32]
  unfold nL nI
  rw [Int64.toInt_ofNat', Int32.toInt_ofNat']
  exact Int.bmod_bmod_of_dvd (by decide)
theorem lcg_n {n : Nat} (h : n < 2 ^ 31) : lcgN (nL n) = nL (n * 16807 % 2147483647) ∧ n * 16807 % 2147483647 < 2 ^ 31 := by
  refine ⟨?_, by have := Nat.mod_lt (n * 16807) (show 0 < 2147483647 by decide); omega⟩
  unfold lcgN
  rw [show (16807 : Int64) = nL 16807 from rfl, show (2147483647 : Int64) = nL 2147483647 from rfl, nL_mul, nL_rem (by omega) (by decide) (by decide)]
theorem dr_eq {v : Sto} {c m : Nat → Int32} (h : HS v m) (hc : CR c m) {n : Nat} (hn : n < 2 ^ 31) : ∀ k, (HS (dr v c (nL n) k).1 (drM m (nL n) k).1 ∧ CR (dr v c (nL n) k).2.1 (drM m (nL n) k).1) ∧ (dr v c (nL n) k).2.2.1 = (drM m (nL n) k).2.1 ∧ (∃ x, x < 2 ^ 31 ∧ (drM m (nL n) k).2.1 = nL x) ∧ (dr v c (nL n) k).2.2.2 = (drM m (nL n) k).2.2 := by
  intro k
  induction k with
  | zero => exact ⟨⟨h, hc⟩, rfl, ⟨n, hn, rfl⟩, rfl⟩
  | succ k ih =>
    obtain ⟨⟨i1, i2⟩, i3, ⟨x, hx, i4⟩, i5⟩ := ih
    have eM : drM m (nL n) (k + 1) = (q_hour (dmV (drM m (nL n) k).1 (lcgN (drM m (nL n) k).2.1)), lcgN (drM m (nL n) k).2.1, if 0 ≤ fsM (q_hour (dmV (drM m (nL n) k).1 (lcgN (drM m (nL n) k).2.1))) then (drM m (nL n) k).2.2 + 1 else (drM m (nL n) k).2.2) := rfl
    have eC : dr v c (nL n) (k + 1) = (drV (dr v c (nL n) k).1 (lcgN (dr v c (nL n) k).2.2.1), HC (drV (dr v c (nL n) k).1 (lcgN (dr v c (nL n) k).2.2.1)) (dr v c (nL n) k).2.1, lcgN (dr v c (nL n) k).2.2.1, if fsV (drV (dr v c (nL n) k).1 (lcgN (dr v c (nL n) k).2.2.1)) (HC (drV (dr v c (nL n) k).1 (lcgN (dr v c (nL n) k).2.2.1)) (dr v c (nL n) k).2.1) = -1 then (dr v c (nL n) k).2.2.2 else (dr v c (nL n) k).2.2.2 + 1) := rfl
    rw [eM, eC, i3, i4, i5]
    generalize (dr v c (nL n) k).1 = V at *
    generalize (dr v c (nL n) k).2.1 = C at *
    generalize (drM m (nL n) k).1 = M at *
    obtain ⟨l1, l2⟩ := lcg_n hx
    rw [l1]
    generalize x * 16807 % 2147483647 = y at *
    have key : HS (drV V (nL y)) (dmV M (nL y)) ∧ CR C (dmV M (nL y)) := by
      unfold drV dmV
      have b4 := (wfm_n i1.1.2).2.2.1
      rw [show V 0 5 = M 4 from i1.2.1.2.2.2.2.1]
      by_cases q : M 4 ≤ 0
      · rw [if_pos q, if_pos q]; exact ⟨i1, i2⟩
      · rw [if_neg q, if_neg q]
        have hp : 0 < (M 4).toNatClampNeg := by
          rcases Nat.eq_zero_or_pos ((M 4).toNatClampNeg) with z | z
          · rw [b4.1, z] at q; exact absurd (Int32.le_refl _) q
          · exact z
        have e1 : (nL y - nL y / (M 4).toInt64 * (M 4).toInt64).toInt32 = nI (y % (M 4).toNatClampNeg) := by
          rw [b4.1, i2l_nL (by omega), nL_rem (by omega) (by omega) hp, l2i_nL, nI_clamp (by omega)]
        have hm := Nat.mod_lt y hp
        rw [e1, sh1 (D := y % (M 4).toNatClampNeg) (by omega)]
        exact ⟨HS_tu i1 (Nat.pow_lt_pow_right (by decide) hm), CR_tu i2 _ _⟩
    obtain ⟨k1, k2⟩ := key
    have k3 := CR_hour k1 k2
    have k4 := HS_ag (agH_hour k1.1.2) k1
    refine ⟨⟨k4, k3⟩, rfl, ⟨y, l2, rfl⟩, ?_⟩
    show (if fsV _ _ = -1 then _ else _) = if 0 ≤ fsM _ then _ else _
    rw [fs_eq k4 k3]
    have hneg := fs_neg k4.1.2
    by_cases q : fsM (q_hour (dmV M (nL y))) = -1
    · rw [if_pos q, if_neg (hneg.2.mp q)]
    · rw [if_neg q, if_pos (Decidable.not_not.mp (fun z => q (hneg.2.mpr z)))]
theorem rel_drawn {a b : Sto} (h : REL a b) (n sd u : Int32) : m_drawn a n sd u = (q_drawn b n sd u).1 ∧ ∀ k, k ≠ 49 → (q_drawn b n sd u).2 k = b k := by
  have hs := st_0 h.2.2.2.1
  have hr := h.2.2.2.1.1
  unfold m_drawn q_drawn
  by_cases c1 : b 40 4 = 0
  · rw [if_pos (hs.mpr c1), if_pos c1]; exact ⟨rfl, fun _ _ => rfl⟩
  rw [if_neg (fun q => c1 (hs.mp q)), if_neg c1]
  by_cases c2 : wi n 0 60 = false
  · rw [if_pos c2, if_pos c2]; exact ⟨rfl, fun _ _ => rfl⟩
  rw [if_neg c2, if_neg c2]
  by_cases c3 : wi sd 1 999999 = false
  · rw [if_pos c3, if_pos c3]; exact ⟨rfl, fun _ _ => rfl⟩
  rw [if_neg c3, if_neg c3]
  by_cases c4 : wi u 0 1 = false
  · rw [if_pos c4, if_pos c4]; exact ⟨rfl, fun _ _ => rfl⟩
  rw [if_neg c4, if_neg c4]
  refine ⟨?_, fun k q => asd_ne q⟩
  obtain ⟨es, bs⟩ := nn_to (wi_nn (v := sd) (by simpa using c3) (by decide))
  have e : sd.toInt64 = nL (sd.toNatClampNeg) := by
    have := i2l_nL bs
    rw [← es] at this
    exact this
  rw [e]
  obtain ⟨⟨i1, i2⟩, -, -, i5⟩ := dr_eq hr.1 (hr_of h).2 bs (n.toNatClampNeg)
  have e0 : (dr (vw a 7) (a (7 + 6)) (nL (sd.toNatClampNeg)) (n.toNatClampNeg)).1 0 0 = (drM (b 44) (nL (sd.toNatClampNeg)) (n.toNatClampNeg)).1 0 := i1.2.1.1
  rw [i5, e0, ac_eq i2 _ (wfm_n i1.1.2).1.2]
