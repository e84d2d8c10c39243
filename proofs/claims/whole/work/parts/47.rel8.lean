theorem pw_N (p : Nat) : ∀ n, s_pw (nL p) n = nL (p ^ n) := by
  intro n
  induction n with
  | zero => rfl
  | succ n ih =>
    show s_pw (nL p) n * nL p = _
    rw [ih, nL_mul, Nat.pow_succ]
def bt (x d : Nat) : Nat := if x.testBit d = true then 1 else 0
def popk (x : Nat) : Nat → Nat
  | 0 => 0
  | d + 1 => popk x d + bt x d
theorem pop_k : ∀ x, x < 256 → pop8 x = popk x 8 := by decide +kernel
theorem popk_ext {x D : Nat} (hx : x < 2 ^ D) : ∀ e, popk x (D + e) = popk x D := by
  intro e
  induction e with
  | zero => rfl
  | succ e ih =>
    show popk x (D + e) + bt x (D + e) = _
    rw [ih]
    unfold bt
    rw [if_neg (by rw [Nat.testBit_lt_two_pow (Nat.lt_of_lt_of_le hx (Nat.pow_le_pow_right (by decide) (Nat.le_add_right D e)))]; decide), Nat.add_zero]
theorem pop_D {x D : Nat} (hD : D ≤ 8) (hx : x < 2 ^ D) : pop8 x = popk x D := by
  have hp := pw8 hD
  rw [pop_k x (by omega)]
  have := popk_ext hx (8 - D)
  rw [show D + (8 - D) = 8 by omega] at this
  exact this
def prN (S O p : Nat) : Nat → Nat
  | 0 => 1
  | d + 1 => prN S O p d * (if S.testBit d = true then p else if O.testBit d = true then 10 - p else 1)
theorem prN_le {S O p : Nat} (hp : p ≤ 10) : ∀ D, prN S O p D ≤ 10 ^ D := by
  intro D
  induction D with
  | zero => exact Nat.le_refl _
  | succ D ih =>
    show prN S O p D * _ ≤ 10 ^ D * 10
    apply Nat.mul_le_mul ih
    split
    · exact hp
    · split <;> omega
theorem prM_N {S O p : Nat} (hS : S < 256) (hO : O < 256) (hp : p ≤ 10) : ∀ D, D ≤ 8 → prM (nI S) (nI O) (nI p) D = nL (prN S O p D) := by
  intro D
  induction D with
  | zero => intro _; rfl
  | succ D ih =>
    intro hD
    have e : prM (nI S) (nI O) (nI p) (D + 1) = prM (nI S) (nI O) (nI p) D * (if hsB (nI S) (nI D) = true then (nI p).toInt64 else if hsB (nI O) (nI D) = true then (10 - nI p).toInt64 else 1) := rfl
    have e2 : prN S O p (D + 1) = prN S O p D * (if S.testBit D = true then p else if O.testBit D = true then 10 - p else 1) := rfl
    rw [e, e2, ih (by omega), show hsB (nI S) (nI D) = S.testBit D from hs_tb hS (by omega), show hsB (nI O) (nI D) = O.testBit D from hs_tb hO (by omega), i2l_nL (show p < 2 ^ 31 by omega), show (10 : Int32) = nI 10 from rfl, pk_sub hp, i2l_nL (show 10 - p < 2 ^ 31 by omega), ← nL_mul]
    congr 1
    split
    · rfl
    · split <;> rfl
theorem prN_pw {S O p : Nat} : ∀ D, (∀ d, d < D → S.testBit d = true → O.testBit d = true) → popk S D ≤ popk O D ∧ prN S O p D = p ^ popk S D * (10 - p) ^ (popk O D - popk S D) := by
  intro D
  induction D with
  | zero => intro _; exact ⟨Nat.le_refl _, rfl⟩
  | succ D ih =>
    intro h
    obtain ⟨i1, i2⟩ := ih (fun d hd => h d (by omega))
    have e2 : prN S O p (D + 1) = prN S O p D * (if S.testBit D = true then p else if O.testBit D = true then 10 - p else 1) := rfl
    have e3 : popk S (D + 1) = popk S D + bt S D := rfl
    have e4 : popk O (D + 1) = popk O D + bt O D := rfl
    rw [e2, e3, e4, i2]
    unfold bt
    by_cases q : S.testBit D = true
    · rw [if_pos q, if_pos q, if_pos (h D (by omega) q)]
      refine ⟨by omega, ?_⟩
      rw [show popk O D + 1 - (popk S D + 1) = popk O D - popk S D by omega, Nat.pow_succ, Nat.mul_assoc, Nat.mul_comm _ p, ← Nat.mul_assoc]
    · rw [if_neg q, if_neg q]
      by_cases z : O.testBit D = true
      · rw [if_pos z, if_pos z]
        refine ⟨by omega, ?_⟩
        rw [Nat.add_zero, show popk O D + 1 - popk S D = popk O D - popk S D + 1 by omega, Nat.pow_succ, Nat.mul_assoc]
      · rw [if_neg z, if_neg z]
        refine ⟨by omega, ?_⟩
        rw [Nat.add_zero, Nat.add_zero, Nat.mul_one]
theorem sub_bits {S O : Nat} (h : nI S &&& (nI O ^^^ (-1)) = 0) : ∀ d, d < 8 → S.testBit d = true → O.testBit d = true := by
  intro d hd hS
  have h1 : (-1 : Int32).toBitVec.getLsbD d = true := by
    have : ∀ d, d < 8 → (-1 : Int32).toBitVec.getLsbD d = true := by decide
    exact this d hd
  have h2 : (nI S &&& (nI O ^^^ (-1))).toBitVec.getLsbD d = (0 : Int32).toBitVec.getLsbD d := by rw [h]
  rw [Int32.toBitVec_and, BitVec.getLsbD_and, Int32.toBitVec_xor, BitVec.getLsbD_xor, h1, show (nI S).toBitVec = BitVec.ofNat 32 S from rfl, show (nI O).toBitVec = BitVec.ofNat 32 O from rfl, BitVec.getLsbD_ofNat, BitVec.getLsbD_ofNat, decide_eq_true (show d < 32 by omega), Bool.true_and, Bool.true_and, hS, Bool.true_and, show (0 : Int32).toBitVec = 0#32 from rfl, BitVec.getLsbD_zero] at h2
  cases q : O.testBit d
  · rw [q] at h2; exact absurd h2 (by decide)
  · rfl
theorem odds_N {v : Sto} {c : Nat → Int32} {r : Int32} {p O j D : Nat} (hD : D ≤ 8) (hO : O < 2 ^ D) (hj : j < 2 ^ D) (hp : p ≤ 10) (h6 : v 0 6 = nI O) (hs : nI j &&& (nI O ^^^ (-1)) = 0) : oddsT v c r (nI p) j = prM (nI j) (nI O) (nI p) D := by
  have h8 := pw8 hD
  obtain ⟨k1, k2⟩ := prN_pw (S := j) (O := O) (p := p) D (fun d hd => sub_bits hs d (by omega))
  have hpj := pop_le j
  have hpO := pop_le O
  rw [prM_N (by omega) (by omega) hp D hD, k2]
  unfold oddsT
  rw [h6, bc_ok j (by omega), bc_ok O (by omega), nI_clamp (by omega), pop_D hD hj, pop_D hD hO] at *
  rw [pk_sub k1, nI_clamp (by omega), i2l_nL (show p < 2 ^ 31 by omega), show (10 : Int32) = nI 10 from rfl, pk_sub hp, i2l_nL (show 10 - p < 2 ^ 31 by omega), pw_N, pw_N, nL_mul]
theorem od_eq {v : Sto} {c m : Nat → Int32} (h : HS v m) (hc : CR c m) {r : Int32} (hr : r.toNatClampNeg < 6) {p O : Nat} (hp : p ≤ 10) (hO : O < 2 ^ (m 4).toNatClampNeg) (h6 : v 0 6 = nI O) : ∀ j, j ≤ 2 ^ (m 4).toNatClampNeg → s_od v c r (nI p) j = odM m (r.toNatClampNeg) (nI p) (nI O) ((m 4).toNatClampNeg) j := by
  have b4 := (wfm_n h.1.2).2.2.1.2
  intro j
  induction j with
  | zero => intro _; rfl
  | succ j ih =>
    intro hj
    have i := ih (by omega)
    have e1 : s_od v c r (nI p) (j + 1) = if nI j &&& (v 0 6 ^^^ (-1)) = 0 then (if hcs (vDoors v (nI j)) c 1 (r.toNatClampNeg) ≤ v 0 3 then s_od v c r (nI p) j else s_od v c r (nI p) j + oddsT v c r (nI p) j) else s_od v c r (nI p) j := rfl
    have e2 : odM m (r.toNatClampNeg) (nI p) (nI O) ((m 4).toNatClampNeg) (j + 1) = if nI j &&& (nI O ^^^ (-1)) = 0 then odM m (r.toNatClampNeg) (nI p) (nI O) ((m 4).toNatClampNeg) j + (if q_hour (q_tu m (nI j) ((m 4).toNatClampNeg)) (7 + r.toNatClampNeg) ≤ q_hour (q_tu m (nI j) ((m 4).toNatClampNeg)) 3 then 0 else prM (nI j) (nI O) (nI p) ((m 4).toNatClampNeg)) else odM m (r.toNatClampNeg) (nI p) (nI O) ((m 4).toNatClampNeg) j := rfl
    rw [e1, e2, h6, i]
    by_cases q : nI j &&& (nI O ^^^ (-1)) = 0
    · rw [if_pos q, if_pos q]
      have h1 := HS_tu h (S := j) (by omega)
      have h2 := CR_hour h1 (CR_tu hc (nI j) ((m 4).toNatClampNeg))
      have h3 : q_hour (q_tu m (nI j) ((m 4).toNatClampNeg)) 3 = v 0 3 := by rw [agH_hour h1.1.2 3 (by decide) (by omega), ag_tu _ _ _ 3 (by omega)]; exact h.2.1.2.2.2.1.symm
      have h4 : hcs (vDoors v (nI j)) c 1 (r.toNatClampNeg) = q_hour (q_tu m (nI j) ((m 4).toNatClampNeg)) (7 + r.toNatClampNeg) := (h2 (r.toNatClampNeg) hr).1
      rw [h3, h4, odds_N (D := (m 4).toNatClampNeg) b4 hO (by omega) hp h6 q]
      split
      · rw [Int64.add_zero]
      · rfl
    · rw [if_neg q, if_neg q]
theorem odM_N (m : Nat → Int32) (r : Nat) {p O G : Nat} (hp : p ≤ 10) (hO : O < 256) (hG : G ≤ 8) : ∀ j, j ≤ 256 → ∃ x, x ≤ j * 10 ^ 8 ∧ odM m r (nI p) (nI O) G j = nL x := by
  intro j
  induction j with
  | zero => intro _; exact ⟨0, Nat.le_refl _, rfl⟩
  | succ j ih =>
    intro hj
    obtain ⟨x, hx, e⟩ := ih (by omega)
    have e2 : odM m r (nI p) (nI O) G (j + 1) = if nI j &&& (nI O ^^^ (-1)) = 0 then odM m r (nI p) (nI O) G j + (if q_hour (q_tu m (nI j) G) (7 + r) ≤ q_hour (q_tu m (nI j) G) 3 then 0 else prM (nI j) (nI O) (nI p) G) else odM m r (nI p) (nI O) G j := rfl
    have hpr : prN j O p G ≤ 10 ^ 8 := Nat.le_trans (prN_le hp G) (Nat.pow_le_pow_right (by decide) hG)
    rw [e2, e]
    split
    · split
      · exact ⟨x, Nat.le_trans hx (Nat.mul_le_mul_right _ (Nat.le_succ j)), by rw [Int64.add_zero]⟩
      · exact ⟨x + prN j O p G, by rw [Nat.succ_mul]; exact Nat.add_le_add hx hpr, by rw [prM_N (by omega) hO hp G hG, nL_add]⟩
    · exact ⟨x, Nat.le_trans hx (Nat.mul_le_mul_right _ (Nat.le_succ j)), rfl⟩
theorem nL_0 {n : Nat} (h : n < 2 ^ 63) : nL n = 0 ↔ n = 0 := ⟨fun e => nL_inj h (by decide) e, fun e => by rw [e]; rfl⟩
theorem eu_N : ∀ N x y, x < 2 ^ 63 → y < 2 ^ 63 → y < N → eu (nL x) (nL y) N = some (nL (Nat.gcd y x)) := by
  intro N
  induction N with
  | zero => intro x y _ _ h; exact absurd h (Nat.not_lt_zero _)
  | succ N ih =>
    intro x y hx hy hN
    have e : eu (nL x) (nL y) (N + 1) = if nL y = 0 then some (nL x) else eu (nL y) (nL x - nL x / nL y * nL y) N := rfl
    rw [e]
    by_cases q : y = 0
    · subst q
      rw [if_pos (show nL 0 = 0 from rfl), Nat.gcd_zero_left]
    · have h0 : 0 < y := by omega
      have hm := Nat.mod_lt x h0
      rw [if_neg (fun z => q ((nL_0 hy).mp z)), nL_rem hx hy h0, ih y (x % y) hy (by omega) (by omega), ← Nat.gcd_rec]
theorem gcd_N : ∀ k a b m, a < 2 ^ 63 → b < 2 ^ 63 → b < 2 ^ k → 2 * k ≤ m → s_gcd (nL a) (nL b) m = nL (Nat.gcd b a) := by
  intro k
  induction k with
  | zero =>
    intro a b m ha hb h1 _
    have : b = 0 := by omega
    subst this
    rw [Nat.gcd_zero_left]
    cases m with
    | zero => rfl
    | succ m => exact if_pos rfl
  | succ k ih =>
    intro a b m ha hb h1 hm
    by_cases q : b = 0
    · subst q
      rw [Nat.gcd_zero_left]
      cases m with
      | zero => rfl
      | succ m => exact if_pos rfl
    · have h0 : 0 < b := by omega
      obtain ⟨m1, rfl⟩ : ∃ m1, m = m1 + 1 + 1 := ⟨m - 2, by omega⟩
      have e : s_gcd (nL a) (nL b) (m1 + 1 + 1) = if nL b = 0 then nL a else s_gcd (nL b) (nL a - nL a / nL b * nL b) (m1 + 1) := rfl
      have hc := Nat.mod_lt a h0
      rw [e, if_neg (fun z => q ((nL_0 hb).mp z)), nL_rem ha hb h0, Nat.gcd_rec b a]
      generalize a % b = c at *
      have e2 : s_gcd (nL b) (nL c) (m1 + 1) = if nL c = 0 then nL b else s_gcd (nL c) (nL b - nL b / nL c * nL c) m1 := rfl
      rw [e2]
      by_cases z : c = 0
      · subst z
        rw [if_pos (show nL 0 = 0 from rfl), Nat.gcd_zero_left]
      · have h2 : 0 < c := by omega
        have hd := Nat.mod_lt b h2
        have hle : b % c + c ≤ b := by
          have e3 := Nat.div_add_mod b c
          have h3 : 1 ≤ b / c := (Nat.one_le_div_iff h2).mpr (by omega)
          have h4 : c * 1 ≤ c * (b / c) := Nat.mul_le_mul_left c h3
          omega
        have hpk : 2 ^ (k + 1) = 2 * 2 ^ k := by rw [Nat.pow_succ, Nat.mul_comm]
        rw [if_neg (fun w => z ((nL_0 (by omega)).mp w)), nL_rem hb (by omega) h2, ih c (b % c) m1 (by omega) (by omega) (by omega) (by omega), ← Nat.gcd_rec]
theorem gcd_64 {x y : Nat} (hx : x < 2 ^ 62) (hy : y < 2 ^ 27) : s_gcd (nL y) (nL x) 64 = nL (Nat.gcd y x) := by
  have h27 : (2 : Nat) ^ 27 < 2 ^ 62 := by decide
  by_cases q : x = 0
  · subst q
    rw [Nat.gcd_zero_right]
    exact if_pos rfl
  · have e : s_gcd (nL y) (nL x) 64 = if nL x = 0 then nL y else s_gcd (nL x) (nL y - nL y / nL x * nL x) 63 := rfl
    have h0 : 0 < x := by omega
    rw [e, if_neg (fun z => q ((nL_0 (by omega)).mp z)), nL_rem (by omega) (by omega) h0]
    have hm : y % x ≤ y := Nat.mod_le y x
    have hm2 := Nat.mod_lt y h0
    rw [gcd_N 27 x (y % x) 63 (by omega) (by omega) (by omega) (by decide), ← Nat.gcd_rec, Nat.gcd_comm]
/-- the wind's odds, the same on both sides: with what the model's reading of them needs -/
theorem rel_wind {a b : Sto} (h : REL a b) (r pp : Int32) : ∃ (O NN : Nat) (g : Int64), s_opM (b 44) ((b 44 4).toNatClampNeg) = nI O ∧ O < 256 ∧ (wi pp 0 10 = true → (eu (wiA b r pp O) (s_pw 10 (pop8 O)) NN = some g ∧ ¬ g = 0)) ∧ ∀ u, m_wind a r pp u = (q_wind b r pp u O g).1 ∧ ∀ k, k ≠ 49 → (q_wind b r pp u O g).2 k = b k := by
  have hs := st_0 h.2.2.2.1
  have hr := h.2.2.2.1.1
  have b4 := (wfm_n hr.1.1.2).2.2.1.2
  have b0 := (wfm_n hr.1.1.2).1.2
  have hp8 := pw8 b4
  have ho := opN_lt (b 44) ((b 44 4).toNatClampNeg)
  have eO : s_opM (b 44) ((b 44 4).toNatClampNeg) = nI (opN (b 44) ((b 44 4).toNatClampNeg)) := opM_N hr.1.2.2.2.1.1 _ b4
  have h6 : vw a 7 0 6 = nI (opN (b 44) ((b 44 4).toNatClampNeg)) := hr.1.2.2.2.1.2.trans eO
  generalize hOO : opN (b 44) ((b 44 4).toNatClampNeg) = O at *
  have hpO := pop_le O
  by_cases cp : wi pp 0 10 = true
  · obtain ⟨ep, bp⟩ := vp_to (wi_in (N := 11) cp (by decide) (by decide)) (by decide)
    obtain ⟨x, hx, ex⟩ := odM_N (b 44) (r.toNatClampNeg) (p := pp.toNatClampNeg) (O := O) (G := (b 44 4).toNatClampNeg) (by omega) (by omega) b4 (2 ^ (b 44 4).toNatClampNeg) hp8
    have hx2 : x < 2 ^ 62 := by
      have h1 : 2 ^ (b 44 4).toNatClampNeg * 10 ^ 8 ≤ 256 * 10 ^ 8 := Nat.mul_le_mul_right _ hp8
      have h2 : 256 * 10 ^ 8 < 2 ^ 62 := by decide
      omega
    have eA : wiA b r pp O = nL x := by
      unfold wiA
      rw [ep]
      exact ex
    have hy : 10 ^ pop8 O ≤ 10 ^ 8 := Nat.pow_le_pow_right (by decide) hpO
    have hy0 : 0 < 10 ^ pop8 O := Nat.pow_pos (by decide)
    have hy2 : 10 ^ 8 < 2 ^ 27 := by decide
    have eB : s_pw 10 (pop8 O) = nL (10 ^ pop8 O) := pw_N 10 _
    generalize 10 ^ pop8 O = y at *
    have hg0 : 0 < Nat.gcd y x := Nat.gcd_pos_of_pos_left x hy0
    have hgl : Nat.gcd y x ≤ y := Nat.gcd_le_left x hy0
    have hgn : ¬ nL (Nat.gcd y x) = 0 := fun z => by have := (nL_0 (by omega)).mp z; omega
    refine ⟨O, y + 1, nL (Nat.gcd y x), eO, by omega, fun _ => ⟨?_, hgn⟩, fun u => ?_⟩
    · rw [eA, eB]
      exact eu_N _ _ _ (by omega) (by omega) (Nat.lt_succ_self y)
    · unfold m_wind q_wind
      by_cases c1 : b 40 4 = 0
      · rw [if_pos (hs.mpr c1), if_pos c1]; exact ⟨rfl, fun _ _ => rfl⟩
      rw [if_neg (fun q => c1 (hs.mp q)), if_neg c1, room_wi hr]
      by_cases c2 : wi r 0 (b 44 0 - 1) = false
      · rw [if_pos c2, if_pos c2]; exact ⟨rfl, fun _ _ => rfl⟩
      rw [if_neg c2, if_neg c2, if_neg (show ¬ wi pp 0 10 = false by rw [cp]; decide), if_neg (show ¬ wi pp 0 10 = false by rw [cp]; decide)]
      by_cases c4 : wi u 0 1 = false
      · rw [if_pos c4, if_pos c4]; exact ⟨rfl, fun _ _ => rfl⟩
      rw [if_neg c4, if_neg c4]
      refine ⟨?_, fun k q => asd_ne q⟩
      have hd := wi_lt (K := 7) (by decide) hr.1.1.2.1.1 c2
      have eU : s_od (vw a 7) (a (7 + 6)) r pp (2 ^ (a 7 5).toNatClampNeg) = nL x := by
        rw [show a 7 5 = b 44 4 from hr.1.2.1.2.2.2.2.1]
        have := od_eq hr.1 (hr_of h).2 (r := r) (by omega) (p := pp.toNatClampNeg) (O := O) (by omega) ho h6 _ (Nat.le_refl _)
        rw [← ep] at this
        rw [this]
        rw [← ep] at ex
        exact ex
      have eL : s_pw 10 ((s_bc (a 7 6)).toNatClampNeg) = nL y := by
        rw [show a 7 6 = nI O from h6, bc_ok O (by omega), nI_clamp (by omega)]
        exact eB
      have ec : comm (nL x) (nL y) = nL (Nat.gcd y x) := by
        unfold comm
        rw [gcd_64 hx2 (by omega)]
        rw [if_neg]
        rw [Int64.lt_iff_toInt_lt, nL_toInt (by omega), show (1 : Int64).toInt = 1 from rfl]
        omega
      rw [eU, eL, ec, eA, eB]
  · have cp' : wi pp 0 10 = false := by simpa using cp
    refine ⟨O, 0, 1, eO, by omega, fun q => absurd q cp, fun u => ?_⟩
    unfold m_wind q_wind
    by_cases c1 : b 40 4 = 0
    · rw [if_pos (hs.mpr c1), if_pos c1]; exact ⟨rfl, fun _ _ => rfl⟩
    rw [if_neg (fun q => c1 (hs.mp q)), if_neg c1, room_wi hr]
    by_cases c2 : wi r 0 (b 44 0 - 1) = false
    · rw [if_pos c2, if_pos c2]; exact ⟨rfl, fun _ _ => rfl⟩
    rw [if_neg c2, if_neg c2, if_pos cp', if_pos cp']
    exact ⟨rfl, fun _ _ => rfl⟩
