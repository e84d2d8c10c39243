/-- the class's house v and the model's m tell the same -/
def HR (v : Sto) (m : Nat → Int32) : Prop := HS v m ∧ CR (v 6) m ∧ v 0 4 = m 6
theorem HS_cg {v v' : Sto} {m : Nat → Int32} (h0 : ∀ j, j ≠ 4 → v' 0 j = v 0 j) (hk : ∀ k, 1 ≤ k → k ≤ 5 → v' k = v k) (h : HS v m) : HS v' m := by
  unfold HS WFV
  rw [h0 0 (by decide), h0 1 (by decide), h0 2 (by decide), h0 3 (by decide), h0 5 (by decide), h0 6 (by decide), h0 7 (by decide), hk 1 (by decide) (by decide), hk 2 (by decide) (by decide), hk 3 (by decide) (by decide), hk 4 (by decide) (by decide), hk 5 (by decide) (by decide)]
  exact h
theorem HS_pt {v v' : Sto} {m m' : Nat → Int32} (h0 : ∀ j, j < 8 → j ≠ 4 → v' 0 j = v 0 j) (h1 : ∀ d, d < 8 → v' 1 d = v 1 d ∧ v' 2 d = v 2 d) (h3 : ∀ s, s < 5 → v' 3 s = v 3 s ∧ v' 4 s = v 4 s ∧ v' 5 s = v 5 s) (hm : ∀ j, j < 52 → m' j = m j) (h : HS v m) : HS v' m' := by
  obtain ⟨⟨w1, w2⟩, e, hd, ⟨ho, hp⟩, hs, hx⟩ := h
  have b4 := (wfm_n w2).2.2.1.2
  have b5 := (wfm_n w2).2.2.2.2
  unfold HS WFV WFM
  rw [h0 0 (by decide) (by decide), h0 1 (by decide) (by decide), h0 2 (by decide) (by decide), h0 3 (by decide) (by decide), h0 5 (by decide) (by decide), h0 6 (by decide) (by decide), h0 7 (by decide) (by decide), hm 0 (by decide), hm 1 (by decide), hm 2 (by decide), hm 3 (by decide), hm 4 (by decide), hm 5 (by decide)]
  refine ⟨⟨⟨w1.1, fun d q => ?_, fun s q => ?_⟩, ⟨w2.1, fun d q => ?_, fun s q => ?_⟩⟩, e, fun d q => ?_, ⟨fun d q => ?_, ?_⟩, fun s q => ?_, ⟨hx.1, hx.2.1, DE_ag (hm 4 (by decide)) (hm 0 (by decide)) (fun d hd => ⟨hm (13 + d) (by omega), hm (21 + d) (by omega)⟩) b4 hx.2.2⟩⟩
  · have z := (vp_to w1.1.2.2.1 (by decide)).2
    rw [(h1 d (by omega)).1, (h1 d (by omega)).2]; exact w1.2.1 d q
  · have z := (vp_to w1.1.2.2.2 (by decide)).2
    rw [(h3 s (by omega)).1, (h3 s (by omega)).2.1]; exact w1.2.2 s q
  · rw [hm (13 + d) (by omega), hm (21 + d) (by omega)]; exact w2.2.1 d q
  · rw [hm (42 + s) (by omega)]; exact w2.2.2 s q
  · rw [(h1 d (by omega)).1, (h1 d (by omega)).2, hm (13 + d) (by omega), hm (21 + d) (by omega)]; exact hd d q
  · rw [hm (29 + d) (by omega)]; exact ho d q
  · rw [hp]; exact (opM_ag _ (fun d hd => hm (29 + d) (by omega))).symm
  · rw [(h3 s (by omega)).1, (h3 s (by omega)).2.1, (h3 s (by omega)).2.2, hm (37 + s) (by omega), hm (42 + s) (by omega), hm (47 + s) (by omega)]; exact hs s q
theorem HR_pt {v v' : Sto} {m m' : Nat → Int32} (h0 : ∀ j, j < 8 → v' 0 j = v 0 j) (h1 : ∀ d, d < 8 → v' 1 d = v 1 d ∧ v' 2 d = v 2 d) (h3 : ∀ s, s < 5 → v' 3 s = v 3 s ∧ v' 4 s = v 4 s ∧ v' 5 s = v 5 s) (h6 : ∀ r, r < 6 → v' 6 r = v 6 r) (hm : ∀ j, j < 52 → m' j = m j) (h : HR v m) : HR v' m' := by
  refine ⟨HS_pt (fun j q _ => h0 j q) h1 h3 hm h.1, fun r hr => ?_, ?_⟩
  · rw [h6 r hr, hm (7 + r) (by omega)]; exact h.2.1 r hr
  · rw [h0 4 (by decide), hm 6 (by decide)]; exact h.2.2
theorem HR_cg {v v' : Sto} {m : Nat → Int32} (hk : ∀ k, k ≤ 6 → v' k = v k) (h : HR v m) : HR v' m := by
  refine ⟨HS_cg (fun j _ => by rw [hk 0 (by decide)]) (fun k _ h2 => hk k (by omega)) h.1, ?_, ?_⟩
  · rw [hk 6 (by decide)]; exact h.2.1
  · rw [hk 0 (by decide)]; exact h.2.2
def pbN (a : Sto) (i : Nat) : Nat := ((a 14 1).toNatClampNeg + i) % 24 * 13
/-- the house as it was ahead of the i-th act that is kept -/
def vP (a : Sto) (i : Nat) : Sto := fun k => if k = 0 then upd (upd (a 7) 4 (a 15 (pbN a i))) 6 (a 15 (pbN a i + 1)) else if k = 4 then (fun j => a 15 (pbN a i + 8 + j)) else if k = 6 then (fun j => a 15 (pbN a i + 2 + j)) else a (7 + k)
def RR (a b : Sto) : Prop := SZ a ∧ (∀ r, r < 8 → a 4 r = b 42 r ∧ a 3 r = b 41 r) ∧ ∀ r, r < 8 → ∀ i, i < (a 4 r).toNatClampNeg → a 2 (40 * r + i) = b 43 (40 * r + i)
def RF (a b : Sto) : Prop := a 0 9 = b 40 3 ∧ a 0 8 = b 40 9
def RT (a b : Sto) : Prop := vp_in (a 5 2) 121 ∧ a 5 2 = b 40 8 ∧ ∀ i, i < (a 5 2).toNatClampNeg → a 6 i = b 46 i ∧ 0 ≤ b 46 i
def RH (a b : Sto) : Prop := HR (vw a 7) (b 44) ∧ (b 40 4 = 0 ↔ ¬ 0 < a 7 0)
def RA (a b : Sto) : Prop := WFP a ∧ a 14 2 = b 40 17 ∧ ∀ i, i < (a 14 2).toNatClampNeg → HR (vP a i) (fun j => b 48 (52 * i + j))
def RI (a b : Sto) : Prop := ∀ k, k < 2 → HR (vw a (26 + 7 * k)) (fun j => b 51 (52 * k + j)) ∧ (b 50 k = 0 ↔ ¬ 0 < a (26 + 7 * k) 0) ∧ (b 40 4 = 0 → b 50 k = 0)
def RC (a b : Sto) : Prop := trOK a ∧ a 24 1 = b 40 22 ∧ ∀ i, i < (a 24 1).toNatClampNeg → a 25 i = b 52 i
def REL (a b : Sto) : Prop := RR a b ∧ RF a b ∧ RT a b ∧ RH a b ∧ RA a b ∧ RI a b ∧ RC a b
theorem vw_cg {a a' : Sto} {h : Nat} (e : ∀ k, k ≤ 6 → a' (h + k) = a (h + k)) : ∀ k, k ≤ 6 → vw a' h k = vw a h k := e
section FR
variable {a a' b b' : Sto}
theorem RR_fr (h2 : a' 2 = a 2) (h3 : a' 3 = a 3) (h4 : a' 4 = a 4) (k1 : b' 41 = b 41) (k2 : b' 42 = b 42) (k3 : b' 43 = b 43) (h : RR a b) : RR a' b' := by
  unfold RR SZ at *
  rw [h2, h3, h4, k1, k2, k3]
  exact h
theorem RF_fr (h9 : a' 0 9 = a 0 9) (h8 : a' 0 8 = a 0 8) (k3 : b' 40 3 = b 40 3) (k9 : b' 40 9 = b 40 9) (h : RF a b) : RF a' b' := by
  unfold RF at *
  rw [h9, h8, k3, k9]
  exact h
theorem RT_fr (h5 : a' 5 2 = a 5 2) (h6 : a' 6 = a 6) (k8 : b' 40 8 = b 40 8) (k6 : b' 46 = b 46) (h : RT a b) : RT a' b' := by
  unfold RT at *
  rw [h5, h6, k8, k6]
  exact h
theorem RH_fr (hh : ∀ k, k ≤ 6 → a' (7 + k) = a (7 + k)) (k4 : b' 40 4 = b 40 4) (k44 : b' 44 = b 44) (h : RH a b) : RH a' b' := by
  refine ⟨?_, ?_⟩
  · rw [k44]; exact HR_cg (vw_cg hh) h.1
  · rw [k4, show a' 7 = a 7 from hh 0 (by decide)]; exact h.2
theorem vP_cg (hh : ∀ k, k ≤ 6 → k ≠ 4 → k ≠ 6 → k ≠ 0 → a' (7 + k) = a (7 + k)) (h7 : ∀ j, j ≠ 4 → j ≠ 6 → a' 7 j = a 7 j) (h14 : a' 14 1 = a 14 1) (h15 : a' 15 = a 15) (i : Nat) : ∀ k, k ≤ 6 → vP a' i k = vP a i k := by
  intro k hk
  unfold vP pbN
  rw [h14, h15]
  by_cases e0 : k = 0
  · rw [if_pos e0, if_pos e0]
    funext j
    unfold upd
    by_cases e1 : j = 6
    · simp [e1]
    · by_cases e2 : j = 4
      · simp [e2]
      · simp [e1, e2, h7 j e2 e1]
  · rw [if_neg e0, if_neg e0]
    by_cases e1 : k = 4
    · rw [if_pos e1, if_pos e1]
    · rw [if_neg e1, if_neg e1]
      by_cases e2 : k = 6
      · rw [if_pos e2, if_pos e2]
      · rw [if_neg e2, if_neg e2]
        exact hh k hk e1 e2 e0
theorem RA_fr (hh : ∀ k, k ≤ 6 → k ≠ 4 → k ≠ 6 → k ≠ 0 → a' (7 + k) = a (7 + k)) (h7 : ∀ j, j ≠ 4 → j ≠ 6 → a' 7 j = a 7 j) (h14 : a' 14 = a 14) (h15 : a' 15 = a 15) (k17 : b' 40 17 = b 40 17) (k48 : b' 48 = b 48) (h : RA a b) : RA a' b' := by
  obtain ⟨w, e, hi⟩ := h
  refine ⟨?_, ?_, ?_⟩
  · unfold WFP at *; rw [h14]; exact w
  · rw [h14, k17]; exact e
  · rw [h14, k48]
    intro i hl
    exact HR_cg (vP_cg hh h7 (by rw [h14]) h15 i) (hi i hl)
theorem RI_fr (hh : ∀ k, 26 ≤ k → k < 40 → a' k = a k) (k50 : b' 50 = b 50) (k51 : b' 51 = b 51) (k4 : b' 40 4 = 0 → b 40 4 = 0) (h : RI a b) : RI a' b' := by
  intro k hk
  obtain ⟨h1, h2, h3⟩ := h k hk
  refine ⟨?_, ?_, ?_⟩
  · rw [k51]; exact HR_cg (vw_cg (fun j hj => hh _ (by omega) (by omega))) h1
  · rw [k50, hh _ (by omega) (by omega)]; exact h2
  · rw [k50]; exact fun q => h3 (k4 q)
theorem RC_fr (h24 : a' 24 1 = a 24 1) (h25 : a' 25 = a 25) (k22 : b' 40 22 = b 40 22) (k52 : b' 52 = b 52) (h : RC a b) : RC a' b' := by
  unfold RC trOK at *
  rw [h24, h25, k22, k52]
  exact h
/-- where neither side's story has changed -/
theorem REL_fr (ha : ∀ k, k < 40 → ¬ (16 ≤ k ∧ k < 24) → a' k = a k) (hb : ∀ k, 40 ≤ k → k ≠ 45 → k ≠ 47 → k ≠ 49 → b' k = b k) (h : REL a b) : REL a' b' := by
  obtain ⟨h1, h2, h3, h4, h5, h6, h7⟩ := h
  have q40 := hb 40 (by decide) (by decide) (by decide) (by decide)
  refine ⟨RR_fr ?_ ?_ ?_ ?_ ?_ ?_ h1, RF_fr ?_ ?_ ?_ ?_ h2, RT_fr ?_ ?_ ?_ ?_ h3, RH_fr ?_ ?_ ?_ h4, RA_fr ?_ ?_ ?_ ?_ ?_ ?_ h5, RI_fr ?_ ?_ ?_ ?_ h6, RC_fr ?_ ?_ ?_ ?_ h7⟩
  all_goals first
    | exact ha _ (by decide) (by decide)
    | exact hb _ (by decide) (by decide) (by decide) (by decide)
    | (rw [q40]; done)
    | (rw [q40]; exact id)
    | (rw [ha _ (by decide) (by decide)]; done)
    | (intro k hk; exact ha _ (by omega) (by omega))
    | (intro k hk _ _ _; exact ha _ (by omega) (by omega))
    | (intro j _ _; rw [ha 7 (by decide) (by decide)])
    | (intro k h1 h2; exact ha _ (by omega) (by omega))
end FR
/-- a finding told on both sides -/
theorem REL_f {a b : Sto} (h : REL a b) (n : Int32) : REL (fnd a n) (fndM b n) := by
  obtain ⟨h1, h2, h3, h4, h5, h6, h7⟩ := h
  refine ⟨RR_fr ?_ ?_ ?_ ?_ ?_ ?_ h1, ?_, RT_fr ?_ ?_ ?_ ?_ h3, RH_fr ?_ ?_ ?_ h4, RA_fr ?_ ?_ ?_ ?_ ?_ ?_ h5, RI_fr ?_ ?_ ?_ ?_ h6, RC_fr ?_ ?_ ?_ ?_ h7⟩
  all_goals try first
    | rfl
    | exact id
    | (intro k hk; exact upc_ne (by omega))
    | (intro k hk _ _ _; exact upc_ne (by omega))
    | (intro j _ _; rfl)
    | (intro k h1 h2; exact upc_ne (by omega))
  unfold RF fnd fndM
  rw [upc_same, upc_same, upd_same, upd_same, upd_ne (by decide), upd_ne (by decide)]
  exact ⟨rfl, h2.2⟩
theorem rowB_wi (r : Int32) : s_rowB r = wi r 0 7 := by
  unfold s_rowB wi
  congr 1
  rw [decide_eq_decide, Int32.lt_iff_toInt_lt, Int32.le_iff_toInt_le]
  have h1 : (8 : Int32).toInt = 8 := rfl
  have h2 : (7 : Int32).toInt = 7 := rfl
  omega
theorem lt_wi {r n : Int32} {K : Nat} (hK : K < 2 ^ 30) (hn : vp_in n K) : s_lt r n = wi r 0 (n - 1) := by
  obtain ⟨e, hl⟩ := vp_to hn (by omega)
  unfold s_lt wi
  congr 1
  rw [decide_eq_decide, Int32.lt_iff_toInt_lt, Int32.le_iff_toInt_le, e, show (1 : Int32) = nI 1 from rfl, pk_sub_toInt (by omega) (by decide), nI_toInt (by omega)]
  omega
theorem low8 (v : Int32) : v.toInt8.toInt32 = (v <<< ((24 : Int32) &&& 31)) >>> ((24 : Int32) &&& 31) := by
  apply Int32.toBitVec_inj.mp
  rw [Int8.toBitVec_toInt32, Int32.toBitVec_toInt8]
  have e : ((v <<< ((24 : Int32) &&& 31)) >>> ((24 : Int32) &&& 31)).toBitVec = (v.toBitVec <<< 24).sshiftRight 24 := rfl
  rw [e]
  apply BitVec.eq_of_getLsbD_eq
  intro i hi
  have g1 : ∀ j, j < 8 → (v.toBitVec.signExtend 8).getLsbD j = v.toBitVec.getLsbD j := fun j hj => by rw [BitVec.getLsbD_signExtend, if_pos (by omega), decide_eq_true hj, Bool.true_and]
  have g2 : ∀ j, j < 8 → (v.toBitVec <<< 24).getLsbD (24 + j) = v.toBitVec.getLsbD j := fun j hj => by rw [BitVec.getLsbD_shiftLeft, decide_eq_true (show 24 + j < 32 by omega), decide_eq_false (show ¬ 24 + j < 24 by omega), Nat.add_sub_cancel_left]; rfl
  rw [BitVec.getLsbD_signExtend, BitVec.getLsbD_sshiftRight, BitVec.msb_eq_getLsbD_last, BitVec.msb_eq_getLsbD_last, decide_eq_true hi, decide_eq_false (show ¬ 32 ≤ i by omega), Bool.true_and]
  by_cases h : i < 8
  · rw [if_pos h, if_pos (by omega), g1 i h, g2 i h]; rfl
  · rw [if_neg h, if_neg (by omega), g1 (8 - 1) (by decide), show (32 - 1 : Nat) = 24 + (8 - 1) from rfl, g2 (8 - 1) (by decide)]; rfl
theorem low16 (v : Int32) : v.toInt16.toInt32 = (v <<< ((16 : Int32) &&& 31)) >>> ((16 : Int32) &&& 31) := by
  apply Int32.toBitVec_inj.mp
  rw [Int16.toBitVec_toInt32, Int32.toBitVec_toInt16]
  have e : ((v <<< ((16 : Int32) &&& 31)) >>> ((16 : Int32) &&& 31)).toBitVec = (v.toBitVec <<< 16).sshiftRight 16 := rfl
  rw [e]
  apply BitVec.eq_of_getLsbD_eq
  intro i hi
  have g1 : ∀ j, j < 16 → (v.toBitVec.signExtend 16).getLsbD j = v.toBitVec.getLsbD j := fun j hj => by rw [BitVec.getLsbD_signExtend, if_pos (by omega), decide_eq_true hj, Bool.true_and]
  have g2 : ∀ j, j < 16 → (v.toBitVec <<< 16).getLsbD (16 + j) = v.toBitVec.getLsbD j := fun j hj => by rw [BitVec.getLsbD_shiftLeft, decide_eq_true (show 16 + j < 32 by omega), decide_eq_false (show ¬ 16 + j < 16 by omega), Nat.add_sub_cancel_left]; rfl
  rw [BitVec.getLsbD_signExtend, BitVec.getLsbD_sshiftRight, BitVec.msb_eq_getLsbD_last, BitVec.msb_eq_getLsbD_last, decide_eq_true hi, decide_eq_false (show ¬ 32 ≤ i by omega), Bool.true_and]
  by_cases h : i < 16
  · rw [if_pos h, if_pos (by omega), g1 i h, g2 i h]; rfl
  · rw [if_neg h, if_neg (by omega), g1 (16 - 1) (by decide), show (32 - 1 : Nat) = 16 + (16 - 1) from rfl, g2 (16 - 1) (by decide)]; rfl
theorem low_as (l v : Int32) : s_low l v = asL l v := by
  unfold s_low asL
  rw [low8, low16]
theorem sz_neg {z : Int32} (h : z = -1 ∨ vp_in z 41) : (z == -1) = true ↔ ¬ 0 ≤ z := by
  constructor
  · intro q
    rw [eq_of_beq q]
    decide
  · intro q
    rcases h with rfl | h
    · rfl
    · exact absurd (Int32.not_lt.mp (fun z => h (Or.inl z))) q
theorem row_in {r : Int32} (h : ¬ wi r 0 7 = false) : r = nI (r.toNatClampNeg) ∧ r.toNatClampNeg < 8 := vp_to (wi_in (N := 8) (by simpa using h) (by decide) (by decide)) (by decide)
-- the rows
theorem rel_row {a b : Sto} (h : REL a b) (r l n : Int32) : (m_row a r l n).1 = (q_row b r l n).1 ∧ REL (m_row a r l n).2 (q_row b r l n).2 := by
  unfold m_row q_row
  rw [rowB_wi]
  by_cases c1 : wi r 0 7 = false
  · rw [if_pos c1, if_pos c1]; exact ⟨rfl, h⟩
  rw [if_neg c1, if_neg c1]
  by_cases c2 : wi l 0 2 = false
  · rw [if_pos c2, if_pos c2]; exact ⟨rfl, h⟩
  rw [if_neg c2, if_neg c2]
  by_cases c3 : n ≤ 40
  · rw [if_pos c3, if_pos c3]
    by_cases c4 : 0 ≤ n
    · rw [if_pos c4, if_pos c4]
      refine ⟨rfl, REL_f ?_ 0⟩
      obtain ⟨er, br⟩ := row_in c1
      have hn := mid_in c3 c4
      have bn := (vp_to hn (by decide)).2
      obtain ⟨h1, h2, h3, h4, h5, h6, h7⟩ := h
      unfold layS
      refine ⟨?_, RF_fr (a := a) (b := b) rfl rfl rfl rfl h2, RT_fr (a := a) (b := b) rfl rfl rfl rfl h3, RH_fr (a := a) (b := b) (fun k hk => ?_) rfl rfl h4, RA_fr (a := a) (b := b) (fun k hk _ _ _ => ?_) (fun j _ _ => rfl) rfl rfl rfl rfl h5, RI_fr (a := a) (b := b) (fun k k1 k2 => ?_) rfl rfl id h6, RC_fr (a := a) (b := b) rfl rfl rfl rfl h7⟩
      · obtain ⟨s1, s2, s3⟩ := h1
        refine ⟨fun q hq => ?_, fun q hq => ?_, fun q hq i hi => ?_⟩
        · show upd (a 4) (r.toNatClampNeg) n q = -1 ∨ vp_in (upd (a 4) (r.toNatClampNeg) n q) 41
          unfold upd
          split
          · exact Or.inr hn
          · exact s1 q hq
        · show upd (a 4) (r.toNatClampNeg) n q = upd (b 42) (r.toNatClampNeg) n q ∧ upd (a 3) (r.toNatClampNeg) l q = upd (b 41) (r.toNatClampNeg) l q
          unfold upd
          split
          · exact ⟨rfl, rfl⟩
          · exact s2 q hq
        · have hi : i < (upd (a 4) (r.toNatClampNeg) n q).toNatClampNeg := hi
          show zf (a 2) (40 * r.toNatClampNeg) (n.toNatClampNeg) (40 * q + i) = zf (b 43) (40 * r.toNatClampNeg) 40 (40 * q + i)
          by_cases e : q = r.toNatClampNeg
          · subst e
            rw [upd_same] at hi
            unfold zf
            rw [if_pos (by omega), if_pos (by omega)]
          · rw [upd_ne e] at hi
            have hz : (a 4 q).toNatClampNeg ≤ 40 := by
              rcases s1 q hq with z | z
              · rw [z]; decide
              · have := (vp_to z (by decide)).2; omega
            unfold zf
            rw [if_neg (by omega), if_neg (by omega)]
            exact s3 q hq i hi
      · rw [upc_ne (by omega), upc_ne (by omega), upc_ne (by omega)]
      · rw [upc_ne (by omega), upc_ne (by omega), upc_ne (by omega)]
      · rw [upc_ne (by omega), upc_ne (by omega), upc_ne (by omega)]
    · rw [if_neg c4, if_neg c4]; exact ⟨rfl, REL_f h 4⟩
  · rw [if_neg c3, if_neg c3]; exact ⟨rfl, h⟩
theorem hp_wi {z i : Int32} (hz : z = -1 ∨ vp_in z 41) (h0 : 0 ≤ z) : s_hasPlaces z i 1 = wi i 0 (z - 1) := by
  have hz2 : vp_in z 41 := by
    rcases hz with rfl | hz
    · exact absurd h0 (by decide)
    · exact hz
  obtain ⟨e, hl⟩ := vp_to hz2 (by decide)
  rw [← lt_wi (K := 41) (by decide) hz2]
  unfold s_hasPlaces s_lt
  rw [show decide ((0 : Int32) ≤ 1) = true from by decide, Bool.and_true]
  by_cases c : 0 ≤ i
  · rw [decide_eq_true c, Bool.true_and, Bool.true_and]
    obtain ⟨ei, hi⟩ := nn_to (Int32.not_lt.mpr c)
    rw [e, ei]
    generalize z.toNatClampNeg = Z at *
    generalize i.toNatClampNeg = J at *
    by_cases q : J ≤ Z
    · rw [decide_eq_true (nI_le q (by omega)), Bool.true_and, pk_sub q, decide_eq_decide, show (1 : Int32) = nI 1 from rfl, nI_leI (by decide) (by omega), nI_ltI (by omega) (by omega)]
      omega
    · rw [decide_eq_false (nI_ge (by omega) (by omega)), Bool.false_and]
      exact (decide_eq_false (fun w => by have := (nI_ltI (by omega) (by omega)).mp w; omega)).symm
  · rw [decide_eq_false c, Bool.false_and, Bool.false_and, Bool.false_and]
theorem rel_set {a b : Sto} (h : REL a b) (r i v : Int32) : (m_set a r i v).1 = (q_set b r i v).1 ∧ REL (m_set a r i v).2 (q_set b r i v).2 := by
  unfold m_set q_set
  rw [rowB_wi]
  by_cases c1 : wi r 0 7 = false
  · rw [if_pos c1, if_pos c1]; exact ⟨rfl, h⟩
  rw [if_neg c1, if_neg c1]
  obtain ⟨er, br⟩ := row_in c1
  have hs := h.1.1 _ br
  have he := h.1.2.1 _ br
  rw [← he.1, ← he.2]
  by_cases c2 : 0 ≤ a 4 (r.toNatClampNeg)
  · rw [if_neg (by rw [sz_neg hs]; exact fun q => q c2), if_pos c2, hp_wi hs c2, low_as]
    by_cases c3 : wi i 0 (a 4 (r.toNatClampNeg) - 1) = false
    · rw [if_pos c3, if_pos c3]; exact ⟨rfl, REL_f h 2⟩
    · rw [if_neg c3, if_neg c3]
      refine ⟨rfl, REL_f ?_ 0⟩
      have bi := (vp_to (lim_in hs c2 (by simpa using c3)) (by decide)).2
      obtain ⟨h1, h2, h3, h4, h5, h6, h7⟩ := h
      refine ⟨?_, RF_fr (a := a) (b := b) rfl rfl rfl rfl h2, RT_fr (a := a) (b := b) rfl rfl rfl rfl h3, RH_fr (a := a) (b := b) (fun k hk => upc_ne (by omega)) rfl rfl h4, RA_fr (a := a) (b := b) (fun k hk _ _ _ => upc_ne (by omega)) (fun j _ _ => rfl) rfl rfl rfl rfl h5, RI_fr (a := a) (b := b) (fun k k1 k2 => upc_ne (by omega)) rfl rfl id h6, RC_fr (a := a) (b := b) rfl rfl rfl rfl h7⟩
      obtain ⟨s1, s2, s3⟩ := h1
      refine ⟨s1, s2, fun q hq j hj => ?_⟩
      have hj : j < (a 4 q).toNatClampNeg := hj
      show upd (a 2) (40 * r.toNatClampNeg + i.toNatClampNeg) _ (40 * q + j) = upd (b 43) (40 * r.toNatClampNeg + i.toNatClampNeg) _ (40 * q + j)
      unfold upd
      split
      · rfl
      · exact s3 q hq j hj
  · rw [if_pos ((sz_neg hs).mpr c2), if_neg c2]; exact ⟨rfl, REL_f h 1⟩
theorem rel_drop {a b : Sto} (h : REL a b) (r : Int32) : (m_drop a r).1 = (q_drop b r).1 ∧ REL (m_drop a r).2 (q_drop b r).2 := by
  unfold m_drop q_drop
  rw [rowB_wi]
  by_cases c1 : wi r 0 7 = false
  · rw [if_pos c1, if_pos c1]; exact ⟨rfl, h⟩
  rw [if_neg c1, if_neg c1]
  obtain ⟨er, br⟩ := row_in c1
  have hs := h.1.1 _ br
  have he := h.1.2.1 _ br
  rw [← he.1]
  by_cases c2 : 0 ≤ a 4 (r.toNatClampNeg)
  · rw [if_neg (by rw [sz_neg hs]; exact fun q => q c2), if_pos c2]
    refine ⟨rfl, REL_f ?_ 0⟩
    obtain ⟨h1, h2, h3, h4, h5, h6, h7⟩ := h
    refine ⟨?_, RF_fr (a := a) (b := b) rfl rfl rfl rfl h2, RT_fr (a := a) (b := b) rfl rfl rfl rfl h3, RH_fr (a := a) (b := b) (fun k hk => upc_ne (by omega)) rfl rfl h4, RA_fr (a := a) (b := b) (fun k hk _ _ _ => upc_ne (by omega)) (fun j _ _ => rfl) rfl rfl rfl rfl h5, RI_fr (a := a) (b := b) (fun k k1 k2 => upc_ne (by omega)) rfl rfl id h6, RC_fr (a := a) (b := b) rfl rfl rfl rfl h7⟩
    obtain ⟨s1, s2, s3⟩ := h1
    refine ⟨fun q hq => ?_, fun q hq => ?_, fun q hq j hj => ?_⟩
    · show upd (a 4) (r.toNatClampNeg) (-1) q = -1 ∨ vp_in (upd (a 4) (r.toNatClampNeg) (-1) q) 41
      unfold upd
      split
      · exact Or.inl rfl
      · exact s1 q hq
    · show upd (a 4) (r.toNatClampNeg) (-1) q = upd (b 42) (r.toNatClampNeg) (-1) q ∧ a 3 q = b 41 q
      unfold upd
      split
      · exact ⟨rfl, (s2 q hq).2⟩
      · exact s2 q hq
    · have hj : j < (upd (a 4) (r.toNatClampNeg) (-1) q).toNatClampNeg := hj
      show a 2 (40 * q + j) = b 43 (40 * q + j)
      by_cases e : q = r.toNatClampNeg
      · rw [e, upd_same, show (-1 : Int32).toNatClampNeg = 0 from by decide] at hj
        exact absurd hj (Nat.not_lt_zero _)
      · rw [upd_ne e] at hj
        exact s3 q hq j hj
  · rw [if_pos ((sz_neg hs).mpr c2), if_neg c2]; exact ⟨rfl, REL_f h 1⟩
theorem hp_in {z i n : Int32} (hz : z = -1 ∨ vp_in z 41) (h0 : 0 ≤ z) (hn : 0 ≤ n) : s_hasPlaces z i n = inL i.toInt64 0 (z.toInt64 - n.toInt64) := by
  have hz2 : vp_in z 41 := by
    rcases hz with rfl | hz
    · exact absurd h0 (by decide)
    · exact hz
  obtain ⟨e, hl⟩ := vp_to hz2 (by decide)
  obtain ⟨en, bn⟩ := nn_to (Int32.not_lt.mpr hn)
  rw [inL_eq]
  unfold s_hasPlaces
  rw [decide_eq_true hn, Bool.and_true]
  have e0 : decide ((0 : Int64) ≤ i.toInt64) = decide (0 ≤ i) := decide_eq_decide.mpr (i2l_le 0 i)
  rw [e0]
  by_cases c : 0 ≤ i
  · rw [decide_eq_true c, Bool.true_and, Bool.true_and]
    obtain ⟨ei, hi⟩ := nn_to (Int32.not_lt.mpr c)
    rw [show decide (i.toInt64 ≤ z.toInt64 - n.toInt64) = decide (i.toInt ≤ z.toInt - n.toInt) from decide_eq_decide.mpr (by rw [Int64.le_iff_toInt_le, sub_l, Int32.toInt_toInt64])]
    rw [e, ei, en]
    generalize z.toNatClampNeg = Z at *
    generalize i.toNatClampNeg = J at *
    generalize n.toNatClampNeg = N at *
    rw [nI_toInt hi, nI_toInt (show Z < 2 ^ 31 by omega), nI_toInt bn]
    by_cases q : J ≤ Z
    · rw [decide_eq_true (nI_le q (by omega)), Bool.true_and, pk_sub q, decide_eq_decide, nI_leI (by omega) (by omega)]
      omega
    · rw [decide_eq_false (nI_ge (by omega) hi), Bool.false_and]
      exact (decide_eq_false (by omega)).symm
  · rw [decide_eq_false c, Bool.false_and, Bool.false_and, Bool.false_and]
theorem hp_neg {z i n : Int32} (h : ¬ 0 ≤ n) : s_hasPlaces z i n = false := by
  unfold s_hasPlaces
  rw [decide_eq_false h, Bool.and_false, Bool.false_and, Bool.false_and]
theorem rel_copy {a b : Sto} (h : REL a b) (x i y j n : Int32) : (m_copy a x i y j n).1 = (q_copy b x i y j n).1 ∧ REL (m_copy a x i y j n).2 (q_copy b x i y j n).2 := by
  unfold m_copy q_copy
  rw [rowB_wi, rowB_wi]
  by_cases c1 : wi x 0 7 = false
  · rw [if_pos c1, if_pos c1]; exact ⟨rfl, h⟩
  rw [if_neg c1, if_neg c1]
  by_cases c2 : wi y 0 7 = false
  · rw [if_pos c2, if_pos c2]; exact ⟨rfl, h⟩
  rw [if_neg c2, if_neg c2]
  obtain ⟨ex, bx⟩ := row_in c1
  obtain ⟨ey, qy⟩ := row_in c2
  have sx := h.1.1 _ bx
  have sy := h.1.1 _ qy
  have hx := h.1.2.1 _ bx
  have hy := h.1.2.1 _ qy
  rw [← hx.1, ← hy.1, ← hx.2, ← hy.2]
  by_cases nc3 : ¬ 0 ≤ a 4 (x.toNatClampNeg)
  · have c3 := nc3
    rw [if_pos ((sz_neg sx).mpr c3), if_pos (Int32.not_le.mp c3)]; exact ⟨rfl, REL_f h 1⟩
  have c3 := Decidable.not_not.mp nc3
  rw [if_neg (by rw [sz_neg sx]; exact fun q => q c3), if_neg (Int32.not_lt.mpr c3)]
  by_cases nc4 : ¬ 0 ≤ a 4 (y.toNatClampNeg)
  · have c4 := nc4
    rw [if_pos ((sz_neg sy).mpr c4), if_neg c4]; exact ⟨rfl, REL_f h 1⟩
  have c4 := Decidable.not_not.mp nc4
  rw [if_neg (by rw [sz_neg sy]; exact fun q => q c4), if_pos c4]
  by_cases nc5 : ¬ a 3 (x.toNatClampNeg) = a 3 (y.toNatClampNeg)
  · have c5 := nc5
    rw [if_pos (beq_eq_false_iff_ne.mpr c5), if_neg c5]; exact ⟨rfl, REL_f h 5⟩
  have c5 := Decidable.not_not.mp nc5
  rw [if_neg (by rw [c5]; simp), if_pos c5]
  by_cases nc6 : ¬ 0 ≤ n
  · have c6 := nc6
    rw [if_pos (hp_neg c6), if_pos (Int32.not_le.mp c6)]; exact ⟨rfl, REL_f h 2⟩
  have c6 := Decidable.not_not.mp nc6
  rw [if_neg (Int32.not_lt.mpr c6), hp_in sx c3 c6, hp_in sy c4 c6]
  by_cases c7 : inL i.toInt64 0 ((a 4 (x.toNatClampNeg)).toInt64 - n.toInt64) = false
  · rw [if_pos c7, if_pos c7]; exact ⟨rfl, REL_f h 2⟩
  rw [if_neg c7, if_neg c7]
  by_cases c8 : inL j.toInt64 0 ((a 4 (y.toNatClampNeg)).toInt64 - n.toInt64) = false
  · rw [if_pos c8, if_pos c8]; exact ⟨rfl, REL_f h 2⟩
  rw [if_neg c8, if_neg c8]
  have k1 := cp_in sx (Int32.not_lt.mpr c3) (Int32.not_lt.mpr c6) (by simpa using c7)
  have k2 := cp_in sy (Int32.not_lt.mpr c4) (Int32.not_lt.mpr c6) (by simpa using c8)
  refine ⟨rfl, REL_f ?_ 0⟩
  obtain ⟨h1, h2, h3, h4, h5, h6, h7⟩ := h
  refine ⟨?_, RF_fr (a := a) (b := b) rfl rfl rfl rfl h2, RT_fr (a := a) (b := b) rfl rfl rfl rfl h3, RH_fr (a := a) (b := b) (fun k hk => upc_ne (by omega)) rfl rfl h4, RA_fr (a := a) (b := b) (fun k hk _ _ _ => upc_ne (by omega)) (fun j _ _ => rfl) rfl rfl rfl rfl h5, RI_fr (a := a) (b := b) (fun k k1 k2 => upc_ne (by omega)) rfl rfl id h6, RC_fr (a := a) (b := b) rfl rfl rfl rfl h7⟩
  obtain ⟨s1, s2, s3⟩ := h1
  refine ⟨s1, s2, fun q hq t ht => ?_⟩
  have ht : t < (a 4 q).toNatClampNeg := ht
  have hz : (a 4 q).toNatClampNeg ≤ 40 := by
    rcases s1 q hq with z | z
    · rw [z]; decide
    · have := (vp_to z (by decide)).2; omega
  show va_cpy (a 2) (a 2) (40 * x.toNatClampNeg + i.toNatClampNeg) (40 * y.toNatClampNeg + j.toNatClampNeg) (n.toNatClampNeg) (40 * q + t) = va_cpy (b 43) (b 43) (40 * x.toNatClampNeg + i.toNatClampNeg) (40 * y.toNatClampNeg + j.toNatClampNeg) (n.toNatClampNeg) (40 * q + t)
  unfold va_cpy
  by_cases e : 40 * y.toNatClampNeg + j.toNatClampNeg ≤ 40 * q + t ∧ 40 * q + t < 40 * y.toNatClampNeg + j.toNatClampNeg + n.toNatClampNeg
  · rw [if_pos e, if_pos e]
    have := s3 (x.toNatClampNeg) bx (i.toNatClampNeg + (40 * q + t - (40 * y.toNatClampNeg + j.toNatClampNeg))) (by omega)
    rw [← Nat.add_assoc] at this
    exact this
  · rw [if_neg e, if_neg e]
    exact s3 q hq t ht
theorem rel_feed {a b : Sto} (h : REL a b) (v : Int32) : (m_feed a v).1 = (q_feed b v).1 ∧ REL (m_feed a v).2 (q_feed b v).2 := by
  unfold m_feed q_feed
  by_cases c1 : wi v 0 255 = false
  · rw [if_pos c1, if_pos c1]; exact ⟨rfl, h⟩
  rw [if_neg c1, if_neg c1]
  obtain ⟨h1, h2, h3, h4, h5, h6, h7⟩ := h
  obtain ⟨t1, t2, t3⟩ := h3
  obtain ⟨e, hl⟩ := vp_to t1 (by decide)
  rw [← t2]
  by_cases c2 : a 5 2 = 120
  · rw [if_pos (by rw [c2]; decide), if_pos c2]; exact ⟨rfl, h1, h2, ⟨t1, t2, t3⟩, h4, h5, h6, h7⟩
  have bl := (vp_to (lt120 t1 c2) (by decide)).2
  rw [if_neg (by rw [decide_eq_true_eq]; intro q; rw [e] at q; exact absurd q (nI_ge (show (a 5 2).toNatClampNeg < 120 from bl) (by decide))), if_neg c2]
  refine ⟨rfl, RR_fr (a := a) (b := b) rfl rfl rfl rfl rfl rfl h1, RF_fr (a := a) (b := b) rfl rfl rfl rfl h2, ?_, RH_fr (a := a) (b := b) (fun k hk => ?_) rfl rfl h4, RA_fr (a := a) (b := b) (fun k hk _ _ _ => ?_) (fun j _ _ => rfl) rfl rfl rfl rfl h5, RI_fr (a := a) (b := b) (fun k k1 k2 => ?_) rfl rfl id h6, RC_fr (a := a) (b := b) rfl rfl rfl rfl h7⟩
  · refine ⟨?_, ?_, ?_⟩
    · show vp_in (a 5 2 + 1) 121
      rw [e, nI_1]
      exact vp_in_nI (by omega) (by decide)
    · rfl
    · intro i hi
      have hi : i < (a 5 2 + 1).toNatClampNeg := hi
      rw [e, nI_1, nI_clamp (by omega)] at hi
      show upd (a 6) ((a 5 2).toNatClampNeg) v i = upd (b 46) ((a 5 2).toNatClampNeg) v i ∧ 0 ≤ upd (b 46) ((a 5 2).toNatClampNeg) v i
      unfold upd
      split
      · exact ⟨rfl, Int32.not_lt.mp (wi_nn (v := v) (by simpa using c1) (by decide))⟩
      · exact t3 i (by omega)
  · show upc (upc a 6 _) 5 _ (7 + k) = a (7 + k); rw [upc_ne (by omega), upc_ne (by omega)]
  · show upc (upc a 6 _) 5 _ (7 + k) = a (7 + k); rw [upc_ne (by omega), upc_ne (by omega)]
  · show upc (upc a 6 _) 5 _ k = a k; rw [upc_ne (by omega), upc_ne (by omega)]
