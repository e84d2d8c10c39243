def stepN (x p q : Nat) : Nat := if (x.testBit p || x.testBit q) = true then x ||| 2 ^ p ||| 2 ^ q else x
theorem st_cl : ∀ x, x < 64 → ∀ p, p < 6 → ∀ q, q < 6 → (if nI x &&& (((1 : Int32) <<< (nI p &&& 31)) ||| ((1 : Int32) <<< (nI q &&& 31))) = 0 then nI x else nI x ||| (((1 : Int32) <<< (nI p &&& 31)) ||| ((1 : Int32) <<< (nI q &&& 31)))) = nI (stepN x p q) := by decide +kernel
theorem st_m1 : ∀ x, x < 64 → ∀ p, p < 6 → ∀ q, q < 6 → (if hsB (nI x) (nI p) = true then nI x ||| ((1 : Int32) <<< (nI q &&& 31)) else nI x) = nI (if x.testBit p = true then x ||| 2 ^ q else x) ∧ (if x.testBit p = true then x ||| 2 ^ q else x) < 64 := by decide +kernel
theorem st_m2 : ∀ x, x < 64 → ∀ p, p < 6 → ∀ q, q < 6 → (if (if x.testBit p = true then x ||| 2 ^ q else x).testBit q = true then (if x.testBit p = true then x ||| 2 ^ q else x) ||| 2 ^ p else (if x.testBit p = true then x ||| 2 ^ q else x)) = stepN x p q := by decide +kernel
theorem st_lt {x p q R : Nat} (hx : x < 2 ^ R) (hp : p < R) (hq : q < R) : stepN x p q < 2 ^ R := by
  unfold stepN
  split
  · exact Nat.or_lt_two_pow (Nat.or_lt_two_pow hx (Nat.pow_lt_pow_right (by decide) hp)) (Nat.pow_lt_pow_right (by decide) hq)
  · exact hx
theorem st_sub (x p q : Nat) : x ||| stepN x p q = stepN x p q := by
  unfold stepN
  split
  · rw [← Nat.or_assoc, ← Nat.or_assoc, Nat.or_self]
  · exact Nat.or_self x
/-- one round over the doors -/
def fN (dr : Nat → Bool) (one oth : Nat → Nat) (x : Nat) : Nat → Nat
  | 0 => x
  | d + 1 => if dr d = true then stepN (fN dr one oth x d) (one d) (oth d) else fN dr one oth x d
theorem fN_lt {dr : Nat → Bool} {one oth : Nat → Nat} {x R : Nat} (hx : x < 2 ^ R) : ∀ D, (∀ d, d < D → dr d = true → one d < R ∧ oth d < R) → fN dr one oth x D < 2 ^ R := by
  intro D
  induction D with
  | zero => intro _; exact hx
  | succ D ih =>
    intro h
    have i := ih (fun d hd => h d (by omega))
    show (if dr D = true then _ else _) < 2 ^ R
    split
    · rename_i q
      exact st_lt i (h D (by omega) q).1 (h D (by omega) q).2
    · exact i
theorem or_tr {a b c : Nat} (h1 : a ||| b = b) (h2 : b ||| c = c) : a ||| c = c := by rw [← h2, ← Nat.or_assoc, h1]
theorem fN_sub (dr : Nat → Bool) (one oth : Nat → Nat) (x : Nat) : ∀ D, x ||| fN dr one oth x D = fN dr one oth x D := by
  intro D
  induction D with
  | zero => exact Nat.or_self x
  | succ D ih =>
    show x ||| (if dr D = true then _ else _) = (if dr D = true then _ else _)
    split
    · exact or_tr ih (st_sub _ _ _)
    · exact ih
theorem fN_ext {dr : Nat → Bool} {one oth : Nat → Nat} (x : Nat) {D : Nat} : ∀ e, (∀ d, D ≤ d → d < D + e → dr d = false) → fN dr one oth x (D + e) = fN dr one oth x D := by
  intro e
  induction e with
  | zero => intro _; rfl
  | succ e ih =>
    intro h
    show (if dr (D + e) = true then _ else _) = _
    rw [if_neg (by rw [h (D + e) (by omega) (by omega)]; decide)]
    exact ih (fun d h1 h2 => h d h1 (by omega))
theorem fN_cg {dr : Nat → Bool} {one oth one' oth' : Nat → Nat} (x : Nat) : ∀ D, (∀ d, d < D → one d = one' d ∧ oth d = oth' d) → fN dr one oth x D = fN dr one' oth' x D := by
  intro D
  induction D with
  | zero => intro _; rfl
  | succ D ih =>
    intro h
    simp only [fN]
    rw [ih (fun d hd => h d (by omega)), (h D (by omega)).1, (h D (by omega)).2]
def itN (f : Nat → Nat) (x : Nat) : Nat → Nat
  | 0 => x
  | k + 1 => f (itN f x k)
theorem pop_R : ∀ R, R ≤ 8 → ∀ x, x < 2 ^ R → pop8 x ≤ R := by decide +kernel
theorem pop_1 : ∀ r, r < 6 → pop8 (2 ^ r) = 1 := by decide
theorem pop_s : ∀ x, x < 64 → ∀ y, y < 64 → x ||| y = y → x ≠ y → pop8 x < pop8 y := by decide +kernel
/-- so many rounds as there are rooms less one, and nothing comes any more -/
theorem it_fix {f : Nat → Nat} {R r : Nat} (hR : R ≤ 6) (hr : r < R) (hl : ∀ x, x < 2 ^ R → f x < 2 ^ R) (hs : ∀ x, x < 2 ^ R → x ||| f x = f x) : ∀ n, R - 1 ≤ n → itN f (2 ^ r) n = itN f (2 ^ r) (R - 1) := by
  have h64 : 2 ^ R ≤ 64 := Nat.pow_le_pow_right (n := 2) (by decide) hR
  have hlt : ∀ k, itN f (2 ^ r) k < 2 ^ R := by
    intro k
    induction k with
    | zero => exact Nat.pow_lt_pow_right (by decide) hr
    | succ k ih => exact hl _ ih
  have hP : ∀ k, f (itN f (2 ^ r) k) = itN f (2 ^ r) k ∨ k + 2 ≤ pop8 (itN f (2 ^ r) (k + 1)) := by
    intro k
    induction k with
    | zero =>
      by_cases q : f (2 ^ r) = 2 ^ r
      · exact Or.inl q
      · refine Or.inr ?_
        have := pop_s (2 ^ r) (by have := hlt 0; exact Nat.lt_of_lt_of_le this h64) (f (2 ^ r)) (by have := hlt 1; exact Nat.lt_of_lt_of_le this h64) (hs _ (hlt 0)) (Ne.symm q)
        rw [pop_1 r (by omega)] at this
        exact this
    | succ k ih =>
      rcases ih with q | q
      · have e : itN f (2 ^ r) (k + 1) = itN f (2 ^ r) k := q
        refine Or.inl ?_
        rw [e]; exact q
      · by_cases z : f (itN f (2 ^ r) (k + 1)) = itN f (2 ^ r) (k + 1)
        · exact Or.inl z
        · refine Or.inr ?_
          have := pop_s (itN f (2 ^ r) (k + 1)) (Nat.lt_of_lt_of_le (hlt _) h64) (f (itN f (2 ^ r) (k + 1))) (Nat.lt_of_lt_of_le (hlt (k + 1 + 1)) h64) (hs _ (hlt _)) (Ne.symm z)
          show k + 1 + 2 ≤ pop8 (f (itN f (2 ^ r) (k + 1)))
          omega
  have hfix : f (itN f (2 ^ r) (R - 1)) = itN f (2 ^ r) (R - 1) := by
    rcases hP (R - 1) with q | q
    · exact q
    · have := pop_R R (by omega) _ (hlt (R - 1 + 1))
      omega
  intro n hn
  obtain ⟨e, rfl⟩ : ∃ e, n = R - 1 + e := ⟨n - (R - 1), by omega⟩
  clear hn
  induction e with
  | zero => rfl
  | succ e ih =>
    show f (itN f (2 ^ r) (R - 1 + e)) = _
    rw [ih]
    exact hfix
theorem tb_I {y d : Nat} (hy : y < 256) (hd : d < 8) : (nI y >>> (nI d &&& 31)) &&& 1 = 0 ↔ ¬ y.testBit d = true := by
  rw [bitI d hd y hy, Nat.testBit_eq_decide_div_mod_eq, decide_eq_true_eq]
  have : y / 2 ^ d % 2 < 2 := Nat.mod_lt _ (by decide)
  rcases (show y / 2 ^ d % 2 = 0 ∨ y / 2 ^ d % 2 = 1 by omega) with q | q <;> rw [q] <;> decide
theorem rl1_N {y : Nat} (hy : y < 256) {one oth : Nat → Int32} {x : Nat} (hx : x < 64) : ∀ D, D ≤ 8 → (∀ d, d < D → vp_in (one d) 6 ∧ vp_in (oth d) 6) → s_rl1 (nI y) one oth (nI x) D = nI (fN (fun d => y.testBit d) (fun d => (one d).toNatClampNeg) (fun d => (oth d).toNatClampNeg) x D) := by
  intro D
  induction D with
  | zero => intro _ _; rfl
  | succ D ih =>
    intro hD h
    have i := ih (by omega) (fun d hd => h d (by omega))
    obtain ⟨e1, b1⟩ := vp_to (h D (by omega)).1 (by decide)
    obtain ⟨e2, b2⟩ := vp_to (h D (by omega)).2 (by decide)
    have hl : fN (fun d => y.testBit d) (fun d => (one d).toNatClampNeg) (fun d => (oth d).toNatClampNeg) x D < 2 ^ 6 := fN_lt hx D (fun d hd _ => ⟨(vp_to (h d (by omega)).1 (by decide)).2, (vp_to (h d (by omega)).2 (by decide)).2⟩)
    have hf : fN (fun d => y.testBit d) (fun d => (one d).toNatClampNeg) (fun d => (oth d).toNatClampNeg) x (D + 1) = if y.testBit D = true then stepN (fN (fun d => y.testBit d) (fun d => (one d).toNatClampNeg) (fun d => (oth d).toNatClampNeg) x D) ((one D).toNatClampNeg) ((oth D).toNatClampNeg) else fN (fun d => y.testBit d) (fun d => (one d).toNatClampNeg) (fun d => (oth d).toNatClampNeg) x D := rfl
    rw [hf]
    simp only [s_rl1]
    rw [i]
    by_cases q : y.testBit D = true
    · rw [if_neg (fun z => (tb_I hy (by omega)).mp z q), if_pos q, ← st_cl _ hl _ b1 _ b2, ← e1, ← e2]
    · rw [if_pos ((tb_I hy (by omega)).mpr q), if_neg q]
theorem rl_N {y : Nat} (hy : y < 256) {one oth : Nat → Int32} {r : Int32} (hr : vp_in r 6) {D : Nat} (hD : D ≤ 8) (h : ∀ d, d < D → vp_in (one d) 6 ∧ vp_in (oth d) 6) : ∀ k, s_rl (nI y) one oth D r k = nI (itN (fun x => fN (fun d => y.testBit d) (fun d => (one d).toNatClampNeg) (fun d => (oth d).toNatClampNeg) x D) (2 ^ r.toNatClampNeg) k) ∧ itN (fun x => fN (fun d => y.testBit d) (fun d => (one d).toNatClampNeg) (fun d => (oth d).toNatClampNeg) x D) (2 ^ r.toNatClampNeg) k < 64 := by
  obtain ⟨er, br⟩ := vp_to hr (by decide)
  intro k
  induction k with
  | zero =>
    refine ⟨?_, Nat.pow_lt_pow_right (a := 2) (n := 6) (by decide) br⟩
    show (1 : Int32) <<< (r &&& 31) = nI (2 ^ r.toNatClampNeg)
    have := sh1 (D := r.toNatClampNeg) (by omega)
    rw [← er] at this
    exact this
  | succ k ih =>
    refine ⟨?_, fN_lt (R := 6) ih.2 D (fun d hd _ => ⟨(vp_to (h d hd).1 (by decide)).2, (vp_to (h d hd).2 (by decide)).2⟩)⟩
    simp only [s_rl]
    rw [ih.1, rl1_N hy ih.2 D hD h]
    rfl
theorem rb_N {m : Nat → Int32} {y : Nat} (hy : y < 256) (h : ∀ d, d < 8 → vp_in (m (13 + d)) 6 ∧ vp_in (m (21 + d)) 6) {f : Int32} (j : Nat) {x : Nat} (hx : x < 64) (h0 : rbM m (nI y) f (8 * j) = nI x) : ∀ e, e ≤ 8 → rbM m (nI y) f (8 * j + e) = nI (fN (fun d => y.testBit d) (fun d => (m (13 + d)).toNatClampNeg) (fun d => (m (21 + d)).toNatClampNeg) x e) := by
  intro e
  induction e with
  | zero => intro _; exact h0
  | succ e ih =>
    intro he
    have i := ih (by omega)
    obtain ⟨e1, b1⟩ := vp_to (h e (by omega)).1 (by decide)
    obtain ⟨e2, b2⟩ := vp_to (h e (by omega)).2 (by decide)
    have hl : fN (fun d => y.testBit d) (fun d => (m (13 + d)).toNatClampNeg) (fun d => (m (21 + d)).toNatClampNeg) x e < 2 ^ 6 := fN_lt hx e (fun d hd _ => ⟨(vp_to (h d (by omega)).1 (by decide)).2, (vp_to (h d (by omega)).2 (by decide)).2⟩)
    have hmod : (8 * j + e) % 8 = e := by omega
    have hb : rbM m (nI y) f (8 * j + (e + 1)) = if hsB (nI y) (nI ((8 * j + e) % 8)) = true then rb2 m ((8 * j + e) % 8) (rb1 m ((8 * j + e) % 8) (rbM m (nI y) f (8 * j + e))) else rbM m (nI y) f (8 * j + e) := rfl
    have hf : fN (fun d => y.testBit d) (fun d => (m (13 + d)).toNatClampNeg) (fun d => (m (21 + d)).toNatClampNeg) x (e + 1) = if y.testBit e = true then stepN (fN (fun d => y.testBit d) (fun d => (m (13 + d)).toNatClampNeg) (fun d => (m (21 + d)).toNatClampNeg) x e) ((m (13 + e)).toNatClampNeg) ((m (21 + e)).toNatClampNeg) else fN (fun d => y.testBit d) (fun d => (m (13 + d)).toNatClampNeg) (fun d => (m (21 + d)).toNatClampNeg) x e := rfl
    rw [hb, hf, hmod, i, show hsB (nI y) (nI e) = y.testBit e from hs_tb hy (by omega)]
    generalize fN (fun d => y.testBit d) (fun d => (m (13 + d)).toNatClampNeg) (fun d => (m (21 + d)).toNatClampNeg) x e = X at *
    by_cases q : y.testBit e = true
    · rw [if_pos q, if_pos q]
      obtain ⟨k1, k2⟩ := st_m1 X hl _ b1 _ b2
      obtain ⟨k3, -⟩ := st_m1 _ k2 _ b2 _ b1
      rw [← st_m2 X hl _ b1 _ b2, ← k3, ← k1, ← e1, ← e2]
      rfl
    · rw [if_neg q, if_neg q]
theorem rb_it {m : Nat → Int32} {y : Nat} (hy : y < 256) (h : ∀ d, d < 8 → vp_in (m (13 + d)) 6 ∧ vp_in (m (21 + d)) 6) {f : Int32} (hf : vp_in f 6) : ∀ j, rbM m (nI y) f (8 * j) = nI (itN (fun x => fN (fun d => y.testBit d) (fun d => (m (13 + d)).toNatClampNeg) (fun d => (m (21 + d)).toNatClampNeg) x 8) (2 ^ f.toNatClampNeg) j) ∧ itN (fun x => fN (fun d => y.testBit d) (fun d => (m (13 + d)).toNatClampNeg) (fun d => (m (21 + d)).toNatClampNeg) x 8) (2 ^ f.toNatClampNeg) j < 64 := by
  obtain ⟨er, br⟩ := vp_to hf (by decide)
  intro j
  induction j with
  | zero =>
    refine ⟨?_, Nat.pow_lt_pow_right (a := 2) (n := 6) (by decide) br⟩
    show (1 : Int32) <<< (f &&& 31) = nI (2 ^ f.toNatClampNeg)
    have := sh1 (D := f.toNatClampNeg) (by omega)
    rw [← er] at this
    exact this
  | succ j ih =>
    exact ⟨rb_N hy h j ih.2 ih.1 8 (Nat.le_refl _), fN_lt (R := 6) ih.2 8 (fun d hd _ => ⟨(vp_to (h d hd).1 (by decide)).2, (vp_to (h d hd).2 (by decide)).2⟩)⟩
/-- the rooms led to, the same on both sides -/
theorem reach_eq {v : Sto} {m : Nat → Int32} (h : HS v m) {y : Nat} (hy : y < 2 ^ (m 4).toNatClampNeg) {r : Int32} (hr : r = nI (r.toNatClampNeg) ∧ r.toNatClampNeg < (m 0).toNatClampNeg) : s_rl (nI y) (v 1) (v 2) ((m 4).toNatClampNeg) r ((m 0).toNatClampNeg - 1) = rbM m (nI y) r 64 ∧ ∃ x, x < 64 ∧ rbM m (nI y) r 64 = nI x := by
  have b4 := (wfm_n h.1.2).2.2.1.2
  have b0 := (wfm_n h.1.2).1.2
  have hp := pw8 b4
  have hrv : vp_in r 6 := by rw [hr.1]; exact vp_in_nI (by omega) (by decide)
  have hm := h.1.2.2.1
  have r1 := rl_N (y := y) (by omega) hrv b4 (one := v 1) (oth := v 2) (fun d hd => HS_d h hd) ((m 0).toNatClampNeg - 1)
  have r2 := rb_it (m := m) (y := y) (by omega) hm hrv 8
  have hF : ∀ x, fN (fun d => y.testBit d) (fun d => (v 1 d).toNatClampNeg) (fun d => (v 2 d).toNatClampNeg) x ((m 4).toNatClampNeg) = fN (fun d => y.testBit d) (fun d => (m (13 + d)).toNatClampNeg) (fun d => (m (21 + d)).toNatClampNeg) x 8 := by
    intro x
    rw [fN_cg (one' := fun d => (m (13 + d)).toNatClampNeg) (oth' := fun d => (m (21 + d)).toNatClampNeg) x _ (fun d hd => ⟨by rw [(h.2.2.1 d hd).1], by rw [(h.2.2.1 d hd).2]⟩)]
    have := fN_ext (dr := fun d => y.testBit d) (one := fun d => (m (13 + d)).toNatClampNeg) (oth := fun d => (m (21 + d)).toNatClampNeg) x (D := (m 4).toNatClampNeg) (8 - (m 4).toNatClampNeg) (fun d h1 h2 => Nat.testBit_lt_two_pow (Nat.lt_of_lt_of_le hy (Nat.pow_le_pow_right (by decide) h1)))
    rw [show (m 4).toNatClampNeg + (8 - (m 4).toNatClampNeg) = 8 by omega] at this
    exact this.symm
  have hFF : (fun x => fN (fun d => y.testBit d) (fun d => (v 1 d).toNatClampNeg) (fun d => (v 2 d).toNatClampNeg) x ((m 4).toNatClampNeg)) = (fun x => fN (fun d => y.testBit d) (fun d => (m (13 + d)).toNatClampNeg) (fun d => (m (21 + d)).toNatClampNeg) x 8) := funext hF
  have hfix := it_fix (f := fun x => fN (fun d => y.testBit d) (fun d => (v 1 d).toNatClampNeg) (fun d => (v 2 d).toNatClampNeg) x ((m 4).toNatClampNeg)) b0 hr.2 (fun x hx => fN_lt hx _ (fun d hd _ => by
    rw [(h.2.2.1 d hd).1, (h.2.2.1 d hd).2]
    exact h.2.2.2.2.2.2.2 d hd)) (fun x _ => fN_sub _ _ _ x _) 8 (by omega)
  rw [hFF] at hfix
  rw [hFF] at r1
  refine ⟨?_, _, r2.2, r2.1⟩
  rw [r1.1, show (64 : Nat) = 8 * 8 from rfl, r2.1, hfix]
theorem and_N {O : Nat} (hO : O < 256) (z : Int32) : nI O &&& z = nI (O &&& z.toBitVec.toNat) := by
  apply Int32.toBitVec_inj.mp
  show BitVec.ofNat 32 O &&& z.toBitVec = BitVec.ofNat 32 (O &&& z.toBitVec.toNat)
  apply BitVec.eq_of_toNat_eq
  have : O &&& z.toBitVec.toNat ≤ O := Nat.and_le_left
  rw [BitVec.toNat_and, BitVec.toNat_ofNat, BitVec.toNat_ofNat, Nat.mod_eq_of_lt (by omega), Nat.mod_eq_of_lt (by omega)]
theorem rel_guest {a b : Sto} (h : REL a b) (r : Int32) : (m_guest a r).1 = (q_guest b r).1 ∧ REL (m_guest a r).2 (q_guest b r).2 := by
  have hs := st_0 h.2.2.2.1
  have hr := h.2.2.2.1.1
  unfold m_guest q_guest
  by_cases c1 : b 40 4 = 0
  · rw [if_pos (hs.mpr c1), if_pos c1]; exact ⟨rfl, h⟩
  rw [if_neg (fun q => c1 (hs.mp q)), if_neg c1, room_wi hr]
  by_cases c2 : wi r 0 (b 44 0 - 1) = false
  · rw [if_pos c2, if_pos c2]; exact ⟨rfl, h⟩
  rw [if_neg c2, if_neg c2]
  refine ⟨?_, h⟩
  have hd := wi_lt (K := 7) (by decide) hr.1.1.2.1.1 c2
  have b4 := (wfm_n hr.1.1.2).2.2.1.2
  have e6 : a 7 6 = nI (opN (b 44) ((b 44 4).toNatClampNeg)) := by rw [show a 7 6 = s_opM (b 44) ((b 44 4).toNatClampNeg) from hr.1.2.2.2.1.2, opM_N hr.1.2.2.2.1.1 _ b4]
  show s_rl (a 7 6) (a (7 + 1)) (a (7 + 2)) ((a 7 5).toNatClampNeg) r ((a 7 0).toNatClampNeg - 1) = rbM (b 44) (s_opM (b 44) ((b 44 4).toNatClampNeg)) r 64
  rw [e6, opM_N hr.1.2.2.2.1.1 _ b4, show a 7 5 = b 44 4 from hr.1.2.1.2.2.2.2.1, show a 7 0 = b 44 0 from hr.1.2.1.1]
  exact (reach_eq hr.1 (opN_lt _ _) hd).1
-- doors to part two rooms
def toP : Option Nat → Int32 × Int32
  | none => (NO, NO)
  | some b => (nI (pop8 b), nI b)
theorem bs_some {hit : Nat → Bool} : ∀ N j, j < N → hit j = true → bsM hit N ≠ none := by
  intro N
  induction N with
  | zero => intro j hj; exact absurd hj (Nat.not_lt_zero _)
  | succ N ih =>
    intro j hj hh
    have e : bsM hit (N + 1) = if (btr (bsM hit N) N && hit N) = true then some N else bsM hit N := rfl
    rw [e]
    by_cases q : (btr (bsM hit N) N && hit N) = true
    · rw [if_pos q]; simp
    · rw [if_neg q]
      by_cases z : j = N
      · subst z
        intro hn
        rw [hn, hh] at q
        exact q rfl
      · exact ih j (by omega) hh
theorem pop_NO {b : Nat} : ¬ nI (pop8 b) = NO := fun q => absurd (show nI (pop8 b) < 0 by rw [q]; decide) (nI_pos (by have := pop_le b; omega))
theorem btr_iff {o : Option Nat} {j : Nat} (hj : j < 256) : ((toP o).1 = NO ∨ s_bc (nI j) < (toP o).1) ↔ btr o j = true := by
  have h1 := pop_le j
  cases o with
  | none => exact ⟨fun _ => rfl, fun _ => Or.inl rfl⟩
  | some b =>
    have h2 := pop_le b
    show (nI (pop8 b) = NO ∨ s_bc (nI j) < nI (pop8 b)) ↔ decide (pop8 j < pop8 b) = true
    rw [bc_ok j hj, decide_eq_true_eq, nI_ltI (by omega) (by omega)]
    exact ⟨fun q => q.elim (fun z => absurd z pop_NO) id, Or.inr⟩
theorem ds_eq {v : Sto} {a b : Int32} {hit : Nat → Bool} {N : Nat} (hN : N ≤ 256) (hh : ∀ j, j < N → (nI j &&& (v 0 6 ^^^ (-1)) = 0 ∧ pbV v a b j = true ↔ hit j = true)) : ∀ j, j ≤ N → s_ds v a b j = toP (bsM hit j) := by
  intro j
  induction j with
  | zero => intro _; rfl
  | succ j ih =>
    intro hj
    have i := ih (by omega)
    have e1 : s_ds v a b (j + 1) = if ((s_ds v a b j).1 = NO ∨ s_bc (nI j) < (s_ds v a b j).1) ∧ nI j &&& (v 0 6 ^^^ (-1)) = 0 ∧ pbV v a b j = true then (s_bc (nI j), nI j) else s_ds v a b j := rfl
    have e2 : bsM hit (j + 1) = if (btr (bsM hit j) j && hit j) = true then some j else bsM hit j := rfl
    rw [e1, e2, i]
    have hb := btr_iff (o := bsM hit j) (j := j) (by omega)
    by_cases q : btr (bsM hit j) j = true ∧ hit j = true
    · rw [if_pos ⟨hb.mpr q.1, (hh j (by omega)).mpr q.2⟩, if_pos (by rw [q.1, q.2]; rfl), bc_ok j (by omega)]
      rfl
    · rw [if_neg (fun z => q ⟨hb.mp z.1, (hh j (by omega)).mp z.2⟩), if_neg (fun z => q (by rw [Bool.and_eq_true] at z; exact z))]
theorem and_self0 : ∀ O, O < 256 → nI O &&& (nI O ^^^ (-1)) = 0 := by decide +kernel
theorem bit01 {x k : Nat} (hx : x < 64) (hk : k < 6) : ((nI x >>> (nI k &&& 31)) &&& 1 == 0) = !hsB (nI x) (nI k) := by
  unfold hsB
  rw [bitI k (by omega) x (by omega)]
  have : x / 2 ^ k % 2 < 2 := Nat.mod_lt _ (by decide)
  rcases (show x / 2 ^ k % 2 = 0 ∨ x / 2 ^ k % 2 = 1 by omega) with q | q <;> rw [q] <;> rfl
theorem rb_0 (m : Nat → Int32) (f : Int32) : ∀ k, rbM m 0 f k = 1 <<< (f &&& 31) := by
  have hz : ∀ d, d < 8 → hsB 0 (nI d) = false := by decide
  intro k
  induction k with
  | zero => rfl
  | succ k ih =>
    show (if hsB 0 (nI (k % 8)) = true then _ else _) = _
    rw [if_neg (by rw [hz _ (Nat.mod_lt _ (by decide))]; decide)]
    exact ih
theorem one_bit : ∀ p, p < 6 → ∀ q, q < 6 → p ≠ q → hsB (nI (2 ^ p)) (nI q) = false := by decide
theorem rel_parted {a b : Sto} (h : REL a b) (x y u : Int32) : m_parted a x y u = (q_parted b x y u).1 ∧ ∀ k, (q_parted b x y u).2 k = b k := by
  have hs := st_0 h.2.2.2.1
  have hr := h.2.2.2.1.1
  unfold m_parted q_parted
  by_cases c1 : b 40 4 = 0
  · rw [if_pos (hs.mpr c1), if_pos c1]; exact ⟨rfl, fun _ => rfl⟩
  rw [if_neg (fun q => c1 (hs.mp q)), if_neg c1, room_wi hr, room_wi hr]
  by_cases c2 : wi x 0 (b 44 0 - 1) = false
  · rw [if_pos c2, if_pos c2]; exact ⟨rfl, fun _ => rfl⟩
  rw [if_neg c2, if_neg c2]
  by_cases c3 : wi y 0 (b 44 0 - 1) = false
  · rw [if_pos c3, if_pos c3]; exact ⟨rfl, fun _ => rfl⟩
  rw [if_neg c3, if_neg c3]
  by_cases c4 : wi u 0 1 = false
  · rw [if_pos c4, if_pos c4]; exact ⟨rfl, fun _ => rfl⟩
  rw [if_neg c4, if_neg c4]
  by_cases c5 : x = y
  · simp only [if_pos c5]
    refine ⟨?_, fun _ => trivial⟩
    split <;> rfl
  simp only [if_neg c5]
  refine ⟨?_, fun _ => trivial⟩
  have b4 := (wfm_n hr.1.1.2).2.2.1.2
  have b0 := (wfm_n hr.1.1.2).1.2
  have hp := pw8 b4
  have hx := wi_lt (K := 7) (by decide) hr.1.1.2.1.1 c2
  have hy := wi_lt (K := 7) (by decide) hr.1.1.2.1.1 c3
  have ho := opN_lt (b 44) ((b 44 4).toNatClampNeg)
  have eO : s_opM (b 44) ((b 44 4).toNatClampNeg) = nI (opN (b 44) ((b 44 4).toNatClampNeg)) := opM_N hr.1.2.2.2.1.1 _ b4
  have e6 : vw a 7 0 6 = s_opM (b 44) ((b 44 4).toNatClampNeg) := hr.1.2.2.2.1.2
  have hb : ∀ j, j < 2 ^ (b 44 4).toNatClampNeg → (nI j &&& (vw a 7 0 6 ^^^ (-1)) = 0 ∧ pbV (vw a 7) x y j = true ↔ paX b x y j = true) := by
    intro j hj
    unfold pbV paX
    rw [e6, show vw a 7 0 5 = b 44 4 from hr.1.2.1.2.2.2.2.1, show vw a 7 0 0 = b 44 0 from hr.1.2.1.1]
    have hy2 : nI (opN (b 44) ((b 44 4).toNatClampNeg)) &&& (nI j ^^^ (-1)) = nI (opN (b 44) ((b 44 4).toNatClampNeg) &&& (nI j ^^^ (-1)).toBitVec.toNat) := and_N (by omega) _
    have hl : opN (b 44) ((b 44 4).toNatClampNeg) &&& (nI j ^^^ (-1)).toBitVec.toNat < 2 ^ (b 44 4).toNatClampNeg := Nat.lt_of_le_of_lt Nat.and_le_left ho
    obtain ⟨q1, X, q2, q3⟩ := reach_eq hr.1 hl hx
    rw [eO, hy2, q1, q3, Bool.and_eq_true]
    have hbit := bit01 q2 (show y.toNatClampNeg < 6 by omega)
    rw [← hy.1] at hbit
    rw [hbit]
    exact ⟨fun ⟨p1, p2⟩ => ⟨beq_iff_eq.mpr p1, p2⟩, fun ⟨p1, p2⟩ => ⟨beq_iff_eq.mp p1, p2⟩⟩
  have e5 : a 7 5 = b 44 4 := hr.1.2.1.2.2.2.2.1
  rw [e5, ds_eq (hit := paX b x y) hp hb _ (Nat.le_refl _)]
  have hne : bsM (paX b x y) (2 ^ (b 44 4).toNatClampNeg) ≠ none := by
    refine bs_some _ (opN (b 44) ((b 44 4).toNatClampNeg)) ho ?_
    unfold paX
    rw [eO, and_self0 _ (by omega), rb_0]
    have e1 : (1 : Int32) <<< (x &&& 31) = nI (2 ^ x.toNatClampNeg) := by
      have := sh1 (D := x.toNatClampNeg) (by omega)
      rw [← hx.1] at this
      exact this
    have e2 := one_bit (x.toNatClampNeg) (by omega) (y.toNatClampNeg) (by omega) (fun q => c5 (by rw [hx.1, hy.1, q]))
    rw [← hy.1] at e2
    rw [e1, e2]
    rfl
  unfold paR
  cases hc : bsM (paX b x y) (2 ^ (b 44 4).toNatClampNeg) with
  | none => exact absurd hc hne
  | some z => rfl
-- doors to be moved
theorem bs_none {hit : Nat → Bool} {N : Nat} (h : bsM hit N = none) : ∀ j, j < N → hit j = false := by
  intro j hj
  cases q : hit j
  · rfl
  · exact absurd h (bs_some N j hj q)
theorem bs_spec {hit : Nat → Bool} : ∀ N b, bsM hit N = some b → b < N ∧ hit b = true ∧ (∀ j, j < N → hit j = true → pop8 b ≤ pop8 j) ∧ (∀ j, j < b → hit j = true → pop8 b < pop8 j) := by
  intro N
  induction N with
  | zero => intro b h; exact absurd h (by simp [bsM])
  | succ N ih =>
    intro b h
    have e : bsM hit (N + 1) = if (btr (bsM hit N) N && hit N) = true then some N else bsM hit N := rfl
    rw [e] at h
    by_cases q : (btr (bsM hit N) N && hit N) = true
    · rw [if_pos q] at h
      have hb : N = b := Option.some.inj h
      subst hb
      rw [Bool.and_eq_true] at q
      refine ⟨Nat.lt_succ_self N, q.2, ?_⟩
      cases hc : bsM hit N with
      | none =>
        have hn := bs_none hc
        refine ⟨fun j hj hh => ?_, fun j hj hh => ?_⟩
        · by_cases z : j = N
          · rw [z]; exact Nat.le_refl _
          · rw [hn j (by omega)] at hh; exact absurd hh (by decide)
        · rw [hn j hj] at hh; exact absurd hh (by decide)
      | some c =>
        obtain ⟨k1, k2, k3, k4⟩ := ih c hc
        have hlt : pop8 N < pop8 c := by
          have := q.1
          rw [hc] at this
          exact of_decide_eq_true this
        refine ⟨fun j hj hh => ?_, fun j hj hh => ?_⟩
        · by_cases z : j = N
          · rw [z]; exact Nat.le_refl _
          · have := k3 j (by omega) hh; omega
        · have := k3 j hj hh; omega
    · rw [if_neg q] at h
      obtain ⟨k1, k2, k3, k4⟩ := ih b h
      refine ⟨by omega, k2, fun j hj hh => ?_, k4⟩
      by_cases z : j = N
      · rw [z] at hh ⊢
        rw [hh, Bool.and_true, h] at q
        have q : ¬ decide (pop8 N < pop8 b) = true := q
        rw [decide_eq_true_eq] at q
        omega
      · exact k3 j (by omega) hh
theorem dm1_none {hit : Nat → Nat → Bool} {i : Nat} {k : Int32 × Int32} : ∀ m j, (∀ t, j ≤ t → t < j + m → hit i t = false) → s_dm1 hit i j k m = k := by
  intro m
  induction m with
  | zero => intro j _; rfl
  | succ m ih =>
    intro j h
    have e : s_dm1 hit i j k (m + 1) = if hit i j = true then (nI i, nI j) else s_dm1 hit i (j + 1) k m := rfl
    rw [e, if_neg (by rw [h j (Nat.le_refl _) (by omega)]; decide)]
    exact ih (j + 1) (fun t h1 h2 => h t (by omega) (by omega))
theorem dm1_some {hit : Nat → Nat → Bool} {i b : Nat} {k : Int32 × Int32} (hb : hit i b = true) : ∀ m j, j ≤ b → b < j + m → (∀ t, j ≤ t → t < b → hit i t = false) → s_dm1 hit i j k m = (nI i, nI b) := by
  intro m
  induction m with
  | zero => intro j h1 h2; exact absurd h2 (by omega)
  | succ m ih =>
    intro j h1 h2 h3
    have e : s_dm1 hit i j k (m + 1) = if hit i j = true then (nI i, nI j) else s_dm1 hit i (j + 1) k m := rfl
    rw [e]
    by_cases z : j = b
    · subst z; rw [if_pos hb]
    · rw [if_neg (by rw [h3 j (Nat.le_refl _) (by omega)]; decide)]
      exact ih (j + 1) (by omega) (by omega) (fun t h4 h5 => h3 t (by omega) h5)
theorem dm_none {hit : Nat → Nat → Bool} {S : Nat} : ∀ m i, (∀ t, i ≤ t → t < i + m → ∀ j, j < S → hit t j = false) → s_dm hit S i m = (NO, NO) := by
  intro m
  induction m with
  | zero => intro i _; rfl
  | succ m ih =>
    intro i h
    show s_dm1 hit i 0 (s_dm hit S (i + 1) m) S = _
    rw [dm1_none S 0 (fun t _ h2 => h i (Nat.le_refl _) (by omega) t (by omega))]
    exact ih (i + 1) (fun t h1 h2 => h t (by omega) (by omega))
theorem dm_some {hit : Nat → Nat → Bool} {S P b : Nat} (hS : b < S) (hb : hit P b = true) (hf : ∀ t, t < b → hit P t = false) : ∀ m i, i ≤ P → P < i + m → (∀ t, i ≤ t → t < P → ∀ j, j < S → hit t j = false) → s_dm hit S i m = (nI P, nI b) := by
  intro m
  induction m with
  | zero => intro i h1 h2; exact absurd h2 (by omega)
  | succ m ih =>
    intro i h1 h2 h3
    show s_dm1 hit i 0 (s_dm hit S (i + 1) m) S = _
    by_cases z : i = P
    · subst z
      exact dm1_some hb S 0 (Nat.zero_le _) (by omega) (fun t _ h5 => hf t h5)
    · rw [dm1_none S 0 (fun t _ h5 => h3 i (Nat.le_refl _) (by omega) t (by omega))]
      exact ih (i + 1) (by omega) (by omega) (fun t h4 h5 => h3 t (by omega) h5)
/-- by number of doors and then by set, or by set with fewer doors alone: the same -/
theorem dm_eq {hit : Nat → Nat → Bool} {ok : Nat → Bool} {D : Nat} (hD : D ≤ 8) (hh : ∀ i j, j < 2 ^ D → i ≤ D → hit i j = (decide (pop8 j = i) && ok j)) : s_dm hit (2 ^ D) 0 (D + 1) = toP (bsM ok (2 ^ D)) := by
  cases hc : bsM ok (2 ^ D) with
  | none =>
    have hn := bs_none hc
    exact dm_none (D + 1) 0 (fun t _ h2 j hj => by rw [hh t j hj (by omega), hn j hj, Bool.and_false])
  | some b =>
    obtain ⟨k1, k2, k3, k4⟩ := bs_spec _ b hc
    have hp := pop_R D hD b k1
    refine dm_some k1 (by rw [hh _ b k1 hp, k2, decide_eq_true rfl]; rfl) (fun t ht => ?_) (D + 1) 0 (Nat.zero_le _) (by omega) (fun t _ h2 j hj => ?_)
    · rw [hh _ t (by omega) hp]
      cases z : ok t
      · rw [Bool.and_false]
      · rw [decide_eq_false (by have := k4 t ht z; omega), Bool.false_and]
    · rw [hh t j hj (by omega)]
      cases z : ok j
      · rw [Bool.and_false]
      · rw [decide_eq_false (by have := k3 j hj z; omega), Bool.false_and]
def crN (m : Nat → Int32) (t : Int32) : Nat → Nat
  | 0 => 0
  | r + 1 => crN m t r + (if m (7 + r) < t then 0 else 2 ^ r)
theorem crN_lt (m : Nat → Int32) (t : Int32) (R : Nat) : crN m t R < 2 ^ R := by
  induction R with
  | zero => exact Nat.one_pos
  | succ R ih =>
    simp only [crN]
    rw [Nat.pow_succ]
    split <;> omega
theorem crM_N (m : Nat → Int32) (t : Int32) : ∀ R, R ≤ 8 → s_crM m t R = nI (crN m t R) := by
  intro R
  induction R with
  | zero => intro _; rfl
  | succ R ih =>
    intro hR
    have e : s_crM m t (R + 1) = s_crM m t R ||| (if m (7 + R) < t then (0 : Int32) else 1 <<< (nI R &&& 31)) := rfl
    have e2 : crN m t (R + 1) = crN m t R + (if m (7 + R) < t then 0 else 2 ^ R) := rfl
    rw [e, e2, ih (by omega)]
    by_cases q : m (7 + R) < t
    · rw [if_pos q, if_pos q, Int32.or_zero, Nat.add_zero]
    · rw [if_neg q, if_neg q, op_or R (by omega) _ (crN_lt m t R)]
theorem crN_tb (m : Nat → Int32) (t : Int32) : ∀ R r, r < R → ((crN m t R).testBit r = true ↔ ¬ m (7 + r) < t) := by
  intro R
  induction R with
  | zero => intro r h; exact absurd h (Nat.not_lt_zero _)
  | succ R ih =>
    intro r hr
    have e2 : crN m t (R + 1) = crN m t R + (if m (7 + R) < t then 0 else 2 ^ R) := rfl
    have hl := crN_lt m t R
    rw [e2, Nat.testBit_eq_decide_div_mod_eq, decide_eq_true_eq]
    by_cases z : r = R
    · subst z
      by_cases q : m (7 + r) < t
      · rw [if_pos q, Nat.add_zero, Nat.div_eq_of_lt hl]
        exact ⟨fun w => absurd w (by decide), fun w => absurd q w⟩
      · rw [if_neg q, Nat.add_div_right _ (Nat.two_pow_pos r), Nat.div_eq_of_lt hl]
        exact ⟨fun _ => q, fun _ => rfl⟩
    · have := ih r (by omega)
      rw [Nat.testBit_eq_decide_div_mod_eq, decide_eq_true_eq] at this
      rw [← this]
      split
      · rw [Nat.add_zero]
      · have hb := bitN (a := crN m t R) (b := 1) (show r < R by omega)
        rw [Nat.mul_one] at hb
        rw [hb]
theorem and_nt : ∀ x, x < 64 → ∀ y, y < 64 → (nI x &&& (nI y ^^^ (-1)) = 0 ↔ ∀ r, r < 6 → x.testBit r = true → y.testBit r = true) := by decide +kernel
theorem and_0 : ∀ x, x < 64 → ∀ y, y < 64 → (nI x &&& nI y = 0 ↔ ∀ r, r < 6 → x.testBit r = true → ¬ y.testBit r = true) := by decide +kernel
theorem cw_iff (c : Nat → Int32) (cold warm t : Int32) : ∀ m i, s_cw c cold warm t i m = true ↔ ∀ r, i ≤ r → r < i + m → ((if c r < t then cold else warm) >>> (nI r &&& 31)) &&& 1 = 0 := by
  intro m
  induction m with
  | zero => intro i; exact ⟨fun _ r h1 h2 => absurd h2 (by omega), fun _ => rfl⟩
  | succ m ih =>
    intro i
    by_cases q : ((if c i < t then cold else warm) >>> (nI i &&& 31)) &&& 1 = 0
    · have e : s_cw c cold warm t i (m + 1) = s_cw c cold warm t (i + 1) m := if_pos q
      rw [e, ih (i + 1)]
      constructor
      · intro h r h1 h2
        rcases Nat.eq_or_lt_of_le h1 with z | z
        · rw [← z]; exact q
        · exact h r z (by omega)
      · intro h r h1 h2
        exact h r (by omega) (by omega)
    · have e : s_cw c cold warm t i (m + 1) = false := if_neg q
      rw [e]
      exact ⟨fun z => absurd z (by decide), fun h => absurd (h i (Nat.le_refl _) (by omega)) q⟩
theorem cw_eq {c m : Nat → Int32} (hc : CR c m) {R : Nat} (hR : R ≤ 6) {x y : Nat} (hx : x < 2 ^ R) (hy : y < 2 ^ R) (t : Int32) : s_cw c (nI x) (nI y) t 0 R = ((nI x &&& (s_crM m t R ^^^ (-1)) == 0) && (nI y &&& s_crM m t R == 0)) := by
  have h64 : 2 ^ R ≤ 64 := Nat.pow_le_pow_right (n := 2) (by decide) hR
  have hl := crN_lt m t R
  rw [Bool.eq_iff_iff, cw_iff, Bool.and_eq_true, beq_iff_eq, beq_iff_eq, crM_N m t R (by omega), and_nt x (by omega) _ (by omega), and_0 y (by omega) _ (by omega)]
  have hz : ∀ z, z < 2 ^ R → ∀ r, ¬ r < R → z.testBit r = false := fun z h1 r h2 => Nat.testBit_lt_two_pow (Nat.lt_of_lt_of_le h1 (Nat.pow_le_pow_right (by decide) (by omega)))
  constructor
  · intro h
    refine ⟨fun r hr hb => ?_, fun r hr hb => ?_⟩
    · have hrR : r < R := by
        rcases Nat.lt_or_ge r R with q | q
        · exact q
        · rw [hz x hx r (by omega)] at hb; exact absurd hb (by decide)
      rw [crN_tb m t R r hrR]
      intro q
      have := h r (Nat.zero_le _) (by omega)
      rw [(hc r (by omega)).1, if_pos q, tb_I (by omega) (by omega)] at this
      exact this hb
    · have hrR : r < R := by
        rcases Nat.lt_or_ge r R with q | q
        · exact q
        · rw [hz y hy r (by omega)] at hb; exact absurd hb (by decide)
      rw [crN_tb m t R r hrR]
      intro q
      have := h r (Nat.zero_le _) (by omega)
      rw [(hc r (by omega)).1, if_neg q, tb_I (by omega) (by omega)] at this
      exact this hb
  · intro ⟨h1, h2⟩ r _ hr
    rw [(hc r (by omega)).1]
    have hk := crN_tb m t R r (by omega)
    by_cases q : m (7 + r) < t
    · rw [if_pos q, tb_I (by omega) (by omega)]
      intro z
      exact (hk.mp (h1 r (by omega) z)) q
    · rw [if_neg q, tb_I (by omega) (by omega)]
      intro z
      exact h2 r (by omega) z (hk.mpr q)
theorem rooms_wi {a b : Sto} (h : HR (vw a 7) (b 44)) (x : Int32) : s_lt x (1 <<< (a 7 0 &&& 31)) = wi x 0 ((1 <<< (b 44 0 &&& 31)) - 1) ∧ (¬ wi x 0 ((1 <<< (b 44 0 &&& 31)) - 1) = false → x = nI (x.toNatClampNeg) ∧ x.toNatClampNeg < 2 ^ (b 44 0).toNatClampNeg) := by
  obtain ⟨e, b0⟩ := (wfm_n h.1.1.2).1
  have h64 : 2 ^ (b 44 0).toNatClampNeg ≤ 64 := Nat.pow_le_pow_right (n := 2) (by decide) b0
  have e2 : (1 : Int32) <<< (b 44 0 &&& 31) = nI (2 ^ (b 44 0).toNatClampNeg) := by
    have := sh1 (D := (b 44 0).toNatClampNeg) (by omega)
    rw [← e] at this
    exact this
  have hv : vp_in (nI (2 ^ (b 44 0).toNatClampNeg)) 65 := vp_in_nI (by omega) (by decide)
  rw [show a 7 0 = b 44 0 from h.1.2.1.1, e2]
  refine ⟨lt_wi (K := 65) (by decide) hv, fun q => ?_⟩
  have := wi_lt (K := 65) (by decide) hv q
  rw [nI_clamp (by omega)] at this
  exact this
theorem rel_moved {a b : Sto} (h : REL a b) (x y t n u : Int32) : m_moved a x y t n u = (q_moved b x y t n u).1 ∧ ∀ k, k ≠ 49 → (q_moved b x y t n u).2 k = b k := by
  have hs := st_0 h.2.2.2.1
  have hr := h.2.2.2.1.1
  unfold m_moved q_moved
  by_cases c1 : b 40 4 = 0
  · rw [if_pos (hs.mpr c1), if_pos c1]; exact ⟨rfl, fun _ _ => rfl⟩
  rw [if_neg (fun q => c1 (hs.mp q)), if_neg c1, (rooms_wi hr x).1, (rooms_wi hr y).1]
  by_cases c2 : wi x 0 ((1 <<< (b 44 0 &&& 31)) - 1) = false
  · rw [if_pos c2, if_pos c2]; exact ⟨rfl, fun _ _ => rfl⟩
  rw [if_neg c2, if_neg c2]
  by_cases c3 : wi y 0 ((1 <<< (b 44 0 &&& 31)) - 1) = false
  · rw [if_pos c3, if_pos c3]; exact ⟨rfl, fun _ _ => rfl⟩
  rw [if_neg c3, if_neg c3]
  by_cases c4 : ¬ x &&& y = 0
  · rw [if_pos c4, if_pos c4]; exact ⟨rfl, fun _ _ => rfl⟩
  rw [if_neg c4, if_neg c4]
  by_cases c5 : wi t 1 999 = false
  · rw [if_pos c5, if_pos c5]; exact ⟨rfl, fun _ _ => rfl⟩
  rw [if_neg c5, if_neg c5]
  by_cases c6 : wi n 1 24 = false
  · rw [if_pos c6, if_pos c6]; exact ⟨rfl, fun _ _ => rfl⟩
  rw [if_neg c6, if_neg c6]
  by_cases c7 : wi u 0 1 = false
  · rw [if_pos c7, if_pos c7]; exact ⟨rfl, fun _ _ => rfl⟩
  rw [if_neg c7, if_neg c7]
  refine ⟨?_, fun k q => asd_ne q⟩
  have b4 := (wfm_n hr.1.1.2).2.2.1.2
  have b0 := (wfm_n hr.1.1.2).1.2
  have hp := pw8 b4
  have hx := (rooms_wi hr x).2 c2
  have hy := (rooms_wi hr y).2 c3
  rw [show a 7 5 = b 44 4 from hr.1.2.1.2.2.2.2.1]
  have hd := dm_eq (hit := dmHit (vw a 7) (a (7 + 6)) x y t (n.toNatClampNeg)) (ok := mvX b x y t n) (D := (b 44 4).toNatClampNeg) b4 (fun i j hj hi => by
    have hpj := pop_le j
    have h1 := HS_tu hr.1 hj
    have h2 := CR_hrs h1 (CR_tu (hr_of h).2 (nI j) ((b 44 4).toNatClampNeg)) (n.toNatClampNeg)
    unfold dmHit mvX mvS
    rw [bc_ok j (by omega), show vDoors (vw a 7) (nI j) 0 0 = b 44 0 from hr.1.2.1.1]
    rw [hrs_0 h1.1.2 (n.toNatClampNeg) 0 (by decide) (by omega), ag_tu _ _ _ 0 (by omega)]
    have := cw_eq h2.1 b0 hx.2 hy.2 t
    rw [← hx.1, ← hy.1] at this
    rw [this]
    congr 1
    by_cases z : pop8 j = i
    · rw [z, decide_eq_true rfl]; simp
    · rw [decide_eq_false z, beq_eq_false_iff_ne]
      exact fun q => z ((nI_eq (by omega) (by omega)).mp q))
  rw [hd]
  unfold mvR
  cases hc : bsM (mvX b x y t n) (2 ^ (b 44 4).toNatClampNeg) with
  | none =>
    show (if u = 0 then NO else NO) = if 0 ≤ (-1 : Int32) then (if u = 0 then nI 32 else -1) else -1000000
    rw [if_neg (show ¬ (0 : Int32) ≤ -1 by decide)]
    split <;> rfl
  | some z =>
    have hz := bs_lt _ _ z hc
    show (if u = 0 then nI (pop8 z) else nI z) = if 0 ≤ nI z then (if u = 0 then nI (pop8 z) else nI z) else -1000000
    rw [if_pos (nI_pos' (by omega))]
