def p_door (T : Nat → Int32) (L : Nat) (s : PS) : Bool × PS :=
  if s.2.1 4 = 8 ∨ 0 < s.2.1 5 then (false, (s.1, s.2.1, if 0 < s.2.1 5 then 1 else 3)) else
  let a := p_num T L 0 (s.2.1 0 - 1) (13 + (s.2.1 4).toNatClampNeg) 44 ((tk3 T L s.1).1, s.2.1, s.2.2)
  if a.1 = false then (false, a.2) else
  if (tk3 T L a.2.1).2.1 = 2 ∧ (tk3 T L a.2.1).2.2 = a.2.2.1 (13 + (s.2.1 4).toNatClampNeg) then (false, (a.2.1, a.2.2.1, 2)) else
  let b := p_num T L 0 (upd a.2.2.1 4 (a.2.2.1 4 + 1) 0 - 1) (21 + (s.2.1 4).toNatClampNeg) 44 (a.2.1, upd a.2.2.1 4 (a.2.2.1 4 + 1), a.2.2.2)
  if b.1 = false then (false, b.2) else
  p_num T L 0 1 (29 + (s.2.1 4).toNatClampNeg) 59 b.2
def p_sit (T : Nat → Int32) (L : Nat) (k : Int32) (s : PS) : Bool × PS :=
  if s.2.1 5 = 5 then (false, (s.1, s.2.1, 3)) else
  let R1 := upd (upd s.2.1 (37 + (s.2.1 5).toNatClampNeg) k) 5 (upd s.2.1 (37 + (s.2.1 5).toNatClampNeg) k 5 + 1)
  let a := p_num T L 0 (R1 0 - 1) (42 + (s.2.1 5).toNatClampNeg) 44 ((tk3 T L s.1).1, R1, s.2.2)
  if a.1 = false then (false, a.2) else
  p_num T L 0 20 (47 + (s.2.1 5).toNatClampNeg) 59 a.2
def pk (T : Nat → Int32) (L B : Nat) : Int32 := if isLt T L B 114 = true then 1 else if isLt T L B 112 = true then 2 else if isLt T L B 116 = true then 3 else if isLt T L B 102 = true then 4 else if isLt T L B 105 = true then 5 else 0
def p_item (T : Nat → Int32) (L : Nat) (s : PS) : Bool × PS := if pk T L s.1 = 0 then (if isLt T L s.1 100 = false then (false, (s.1, s.2.1, 1)) else p_door T L s) else p_sit T L (pk T L s.1) s
def p_loop (T : Nat → Int32) (L : Nat) : Nat → PS → Bool × PS
  | 0, s => (true, s)
  | n + 1, s => if (tk3 T L s.1).2.1 = 3 then (true, s) else if (p_item T L s).1 = false then (false, (p_item T L s).2) else p_loop T L n (p_item T L s).2
def p_head (T : Nat → Int32) (L : Nat) (s : PS) : Bool × PS :=
  let a := p_takes T L 110 s
  if a.1 = false then (false, a.2) else
  let b := p_num T L 1 6 0 44 a.2
  if b.1 = false then (false, b.2) else
  let c := p_num T L 0 (b.2.2.1 0 - 1) 1 44 b.2
  if c.1 = false then (false, c.2) else
  let d := p_num T L 0 40 2 44 c.2
  if d.1 = false then (false, d.2) else
  p_num T L 0 99 3 59 d.2
def p_house (T : Nat → Int32) (L : Nat) (s : PS) : Bool × PS := if (p_head T L s).1 = false then (false, (p_head T L s).2) else p_loop T L 122 (p_head T L s).2
theorem pt_le {T : Nat → Int32} {L : Nat} {c : Int32} {s : PS} (h : s.1 ≤ L) : s.1 ≤ (p_takes T L c s).2.1 ∧ (p_takes T L c s).2.1 ≤ L := by
  unfold p_takes
  split
  · exact ⟨Nat.le_refl _, h⟩
  · exact tk_le T h
theorem pt_R (T : Nat → Int32) (L : Nat) (c : Int32) (s : PS) : (p_takes T L c s).2.2.1 = s.2.1 := by
  unfold p_takes
  split <;> rfl
theorem pn_le {T : Nat → Int32} {L : Nat} {lo hi c : Int32} {a : Nat} {s : PS} (h : s.1 ≤ L) : s.1 ≤ (p_num T L lo hi a c s).2.1 ∧ (p_num T L lo hi a c s).2.1 ≤ L := by
  unfold p_num
  split
  · split
    · exact ⟨Nat.le_refl _, h⟩
    · have h1 := tk_le T h
      have h2 := pt_le (T := T) (c := c) (s := ((tk3 T L s.1).1, upd s.2.1 a (tk3 T L s.1).2.2, s.2.2)) h1.2
      exact ⟨Nat.le_trans h1.1 h2.1, h2.2⟩
  · exact ⟨Nat.le_refl _, h⟩
theorem pn_R (T : Nat → Int32) (L : Nat) (lo hi c : Int32) {a : Nat} (s : PS) {k : Nat} (h : k ≠ a) : (p_num T L lo hi a c s).2.2.1 k = s.2.1 k := by
  unfold p_num
  split
  · split
    · rfl
    · rw [pt_R]
      exact upd_ne h
  · rfl
theorem lt_adv {T : Nat → Int32} {L B : Nat} {c : Int32} (h : isLt T L B c = true) : B < (tk3 T L B).1 := by
  have h1 : (tk3 T L B).2.1 = 1 := by
    unfold isLt at h
    rw [Bool.and_eq_true] at h
    exact eq_of_beq h.1
  unfold tk3 at h1 ⊢
  split
  · omega
  · rename_i q
    rw [if_neg q] at h1
    split
    · rename_i q2
      rw [if_pos q2] at h1
      exact absurd (show (3 : Int32) = 1 from h1) (by decide)
    · exact Nat.lt_succ_self B
theorem pk_adv {T : Nat → Int32} {L B : Nat} (h : ¬ pk T L B = 0) : B < (tk3 T L B).1 := by
  unfold pk at h
  by_cases c1 : isLt T L B 114 = true
  · exact lt_adv c1
  by_cases c2 : isLt T L B 112 = true
  · exact lt_adv c2
  by_cases c3 : isLt T L B 116 = true
  · exact lt_adv c3
  by_cases c4 : isLt T L B 102 = true
  · exact lt_adv c4
  by_cases c5 : isLt T L B 105 = true
  · exact lt_adv c5
  rw [if_neg c1, if_neg c2, if_neg c3, if_neg c4, if_neg c5] at h
  exact absurd rfl h
def invR (L : Nat) (s : PS) : Prop := s.1 ≤ L ∧ vp_in (s.2.1 4) 9 ∧ vp_in (s.2.1 5) 6
theorem inc_in {x : Int32} {N : Nat} (hN : N + 1 < 2 ^ 31) (h : vp_in x (N + 1)) (hc : ¬ x = nI N) : vp_in (x + 1) (N + 1) := by
  obtain ⟨e, hl⟩ := vp_to h hN
  rw [e] at hc ⊢
  rw [nI_1]
  refine vp_in_nI ?_ hN
  rcases Nat.lt_or_ge (x.toNatClampNeg) N with q | q
  · omega
  · exact absurd (by rw [show x.toNatClampNeg = N by omega]) hc
theorem door_inv {T : Nat → Int32} {L : Nat} {s : PS} (hi : invR L s) (hd : isLt T L s.1 100 = true) : ¬ (p_door T L s).1 = false → invR L (p_door T L s).2 ∧ s.1 < (p_door T L s).2.1 := by
  obtain ⟨h1, h4, h5⟩ := hi
  have e4 := (vp_to h4 (by decide)).2
  have k0 := lt_adv hd
  have k1 := tk_le T h1
  unfold p_door
  dsimp only
  split
  · intro q; exact absurd rfl q
  · rename_i hc
    obtain ⟨A, hA⟩ : ∃ A, p_num T L 0 (s.2.1 0 - 1) (13 + (s.2.1 4).toNatClampNeg) 44 ((tk3 T L s.1).1, s.2.1, s.2.2) = A := ⟨_, rfl⟩
    rw [hA]
    have A1 : (tk3 T L s.1).1 ≤ A.2.1 ∧ A.2.1 ≤ L := by rw [← hA]; exact pn_le (s := ((tk3 T L s.1).1, s.2.1, s.2.2)) k1.2
    have A4 : A.2.2.1 4 = s.2.1 4 := by rw [← hA]; exact pn_R T L 0 (s.2.1 0 - 1) 44 (a := 13 + (s.2.1 4).toNatClampNeg) ((tk3 T L s.1).1, s.2.1, s.2.2) (by omega)
    have A5 : A.2.2.1 5 = s.2.1 5 := by rw [← hA]; exact pn_R T L 0 (s.2.1 0 - 1) 44 (a := 13 + (s.2.1 4).toNatClampNeg) ((tk3 T L s.1).1, s.2.1, s.2.2) (by omega)
    split
    · intro q; exact absurd rfl q
    · split
      · intro q; exact absurd rfl q
      · obtain ⟨B, hB⟩ : ∃ B, p_num T L 0 (upd A.2.2.1 4 (A.2.2.1 4 + 1) 0 - 1) (21 + (s.2.1 4).toNatClampNeg) 44 (A.2.1, upd A.2.2.1 4 (A.2.2.1 4 + 1), A.2.2.2) = B := ⟨_, rfl⟩
        rw [hB]
        have B1 : A.2.1 ≤ B.2.1 ∧ B.2.1 ≤ L := by rw [← hB]; exact pn_le (s := (A.2.1, upd A.2.2.1 4 (A.2.2.1 4 + 1), A.2.2.2)) A1.2
        have B4 : B.2.2.1 4 = s.2.1 4 + 1 := by
          rw [← hB]
          exact (pn_R T L 0 (upd A.2.2.1 4 (A.2.2.1 4 + 1) 0 - 1) 44 (a := 21 + (s.2.1 4).toNatClampNeg) (A.2.1, upd A.2.2.1 4 (A.2.2.1 4 + 1), A.2.2.2) (k := 4) (by omega)).trans ((upd_same A.2.2.1 4 (A.2.2.1 4 + 1)).trans (by rw [A4]))
        have B5 : B.2.2.1 5 = s.2.1 5 := by
          rw [← hB]
          exact (pn_R T L 0 (upd A.2.2.1 4 (A.2.2.1 4 + 1) 0 - 1) 44 (a := 21 + (s.2.1 4).toNatClampNeg) (A.2.1, upd A.2.2.1 4 (A.2.2.1 4 + 1), A.2.2.2) (k := 5) (by omega)).trans ((upd_ne (f := A.2.2.1) (x := A.2.2.1 4 + 1) (show (5 : Nat) ≠ 4 by decide)).trans A5)
        split
        · intro q; exact absurd rfl q
        · intro _
          have C1 := pn_le (T := T) (lo := 0) (hi := 1) (c := 59) (a := 29 + (s.2.1 4).toNatClampNeg) (s := B.2) B1.2
          refine ⟨⟨C1.2, ?_, ?_⟩, by omega⟩
          · rw [pn_R T L 0 1 59 (a := 29 + (s.2.1 4).toNatClampNeg) B.2 (by omega), B4]
            exact inc_in (by decide) h4 (fun e => hc (Or.inl e))
          · rw [pn_R T L 0 1 59 (a := 29 + (s.2.1 4).toNatClampNeg) B.2 (by omega), B5]
            exact h5
theorem sit_inv {T : Nat → Int32} {L : Nat} {k : Int32} {s : PS} (hi : invR L s) (hd : s.1 < (tk3 T L s.1).1) : ¬ (p_sit T L k s).1 = false → invR L (p_sit T L k s).2 ∧ s.1 < (p_sit T L k s).2.1 := by
  obtain ⟨h1, h4, h5⟩ := hi
  have e5 := (vp_to h5 (by decide)).2
  have k1 := tk_le T h1
  unfold p_sit
  dsimp only
  split
  · intro q; exact absurd rfl q
  · rename_i hc
    obtain ⟨R1, hR⟩ : ∃ R, upd (upd s.2.1 (37 + (s.2.1 5).toNatClampNeg) k) 5 (upd s.2.1 (37 + (s.2.1 5).toNatClampNeg) k 5 + 1) = R := ⟨_, rfl⟩
    rw [hR]
    have R4 : R1 4 = s.2.1 4 := by rw [← hR, upd_ne (by decide), upd_ne (by omega)]
    have R5 : R1 5 = s.2.1 5 + 1 := by rw [← hR, upd_same, upd_ne (by omega)]
    obtain ⟨A, hA⟩ : ∃ A, p_num T L 0 (R1 0 - 1) (42 + (s.2.1 5).toNatClampNeg) 44 ((tk3 T L s.1).1, R1, s.2.2) = A := ⟨_, rfl⟩
    rw [hA]
    have A1 : (tk3 T L s.1).1 ≤ A.2.1 ∧ A.2.1 ≤ L := by rw [← hA]; exact pn_le (s := ((tk3 T L s.1).1, R1, s.2.2)) k1.2
    have A4 : A.2.2.1 4 = R1 4 := by rw [← hA]; exact pn_R T L 0 (R1 0 - 1) 44 (a := 42 + (s.2.1 5).toNatClampNeg) ((tk3 T L s.1).1, R1, s.2.2) (by omega)
    have A5 : A.2.2.1 5 = R1 5 := by rw [← hA]; exact pn_R T L 0 (R1 0 - 1) 44 (a := 42 + (s.2.1 5).toNatClampNeg) ((tk3 T L s.1).1, R1, s.2.2) (by omega)
    split
    · intro q; exact absurd rfl q
    · intro _
      have C1 := pn_le (T := T) (lo := 0) (hi := 20) (c := 59) (a := 47 + (s.2.1 5).toNatClampNeg) (s := A.2) A1.2
      refine ⟨⟨C1.2, ?_, ?_⟩, by omega⟩
      · rw [pn_R T L 0 20 59 (a := 47 + (s.2.1 5).toNatClampNeg) A.2 (by omega), A4, R4]
        exact h4
      · rw [pn_R T L 0 20 59 (a := 47 + (s.2.1 5).toNatClampNeg) A.2 (by omega), A5, R5]
        exact inc_in (by decide) h5 hc
theorem item_inv {T : Nat → Int32} {L : Nat} {s : PS} (hi : invR L s) : ¬ (p_item T L s).1 = false → invR L (p_item T L s).2 ∧ s.1 < (p_item T L s).2.1 := by
  unfold p_item
  by_cases c1 : pk T L s.1 = 0
  · rw [if_pos c1]
    by_cases c2 : isLt T L s.1 100 = false
    · rw [if_pos c2]; intro q; exact absurd rfl q
    · rw [if_neg c2]; exact door_inv hi (by simpa using c2)
  · rw [if_neg c1]; exact sit_inv hi (pk_adv c1)
theorem head_inv {T : Nat → Int32} {L : Nat} {s : PS} (hi : invR L s) : invR L (p_head T L s).2 := by
  obtain ⟨h1, h4, h5⟩ := hi
  have g : ∀ {lo hi c : Int32} {a : Nat} {t : PS}, a < 4 → invR L t → invR L (p_num T L lo hi a c t).2 := fun ha ht => ⟨(pn_le ht.1).2, by rw [pn_R _ _ _ _ _ _ (by omega)]; exact ht.2.1, by rw [pn_R _ _ _ _ _ _ (by omega)]; exact ht.2.2⟩
  unfold p_head
  dsimp only
  obtain ⟨A, hA⟩ : ∃ A, p_takes T L 110 s = A := ⟨_, rfl⟩
  rw [hA]
  have a1 : invR L A.2 := by rw [← hA]; exact ⟨(pt_le h1).2, by rw [pt_R]; exact h4, by rw [pt_R]; exact h5⟩
  split
  · exact a1
  · obtain ⟨B, hB⟩ : ∃ B, p_num T L 1 6 0 44 A.2 = B := ⟨_, rfl⟩
    rw [hB]
    have b1 : invR L B.2 := by rw [← hB]; exact g (by decide) a1
    split
    · exact b1
    · obtain ⟨C, hC⟩ : ∃ C, p_num T L 0 (B.2.2.1 0 - 1) 1 44 B.2 = C := ⟨_, rfl⟩
      rw [hC]
      have c1 : invR L C.2 := by rw [← hC]; exact g (by decide) b1
      split
      · exact c1
      · obtain ⟨D, hD⟩ : ∃ D, p_num T L 0 40 2 44 C.2 = D := ⟨_, rfl⟩
        rw [hD]
        have d1 : invR L D.2 := by rw [← hD]; exact g (by decide) c1
        split
        · exact d1
        · exact g (by decide) d1
theorem mr_0 (σ : Sto) (L : Nat) (R : Nat → Int32) : nxM (upc (upc σ 40 (upd (σ 40) 10 0)) 47 R) L 0 = mkR σ L (0, R, σ 40 14) := by
  unfold nxM mkR
  rw [upc_ne (show (46 : Nat) ≠ 47 by decide), upc_ne (show (46 : Nat) ≠ 40 by decide), upc_ne (show (40 : Nat) ≠ 47 by decide), upc_same]
  funext k
  by_cases h : k = 40
  · subst h
    rw [upc_same, upc_same]
    funext j
    unfold setf upd
    by_cases h1 : j = 14
    · subst h1; rfl
    · by_cases h0 : j = 10
      · subst h0; rfl
      · simp only [h1, h0, if_false]
  · rw [upc_ne h, upc_ne h]
    by_cases h2 : k = 47
    · subst h2; rw [upc_same, upc_same]
    · rw [upc_ne h2, upc_ne h2, upc_ne h]
def q_house (σ : Sto) (L : Nat) : Int32 × Sto := if (p_house (σ 46) L (0, zf (σ 47) 0 52, σ 40 14)).1 = false then (-1000100 - nI (p_house (σ 46) L (0, zf (σ 47) 0 52, σ 40 14)).2.1, upc (mkR σ L (p_house (σ 46) L (0, zf (σ 47) 0 52, σ 40 14)).2) 40 (upd (upd (mkR σ L (p_house (σ 46) L (0, zf (σ 47) 0 52, σ 40 14)).2 40) 8 0) 9 (p_house (σ 46) L (0, zf (σ 47) 0 52, σ 40 14)).2.2.2)) else ((p_house (σ 46) L (0, zf (σ 47) 0 52, σ 40 14)).2.2.1 5, upc (upc (mkR σ L (p_house (σ 46) L (0, zf (σ 47) 0 52, σ 40 14)).2) 44 (p_house (σ 46) L (0, zf (σ 47) 0 52, σ 40 14)).2.2.1) 40 (upd (upd (upd (mkR σ L (p_house (σ 46) L (0, zf (σ 47) 0 52, σ 40 14)).2 40) 8 0) 4 1) 17 0))
set_option maxRecDepth 20000 in
set_option maxHeartbeats 4000000 in
theorem c_X7_readDoor {E : EE} (hE : inj E 40 13) {σ : Sto} {τ : Stl} {σ0 : Sto} {L : Nat} {s : PS} (hσ : σ = mkR σ0 L s) (hL : σ0 40 8 = nI L) (hB : s.1 ≤ L) (h120 : L ≤ 120) (h4 : vp_in (s.2.1 4) 9) : Ct E 40 13 yX7_readDoor cX7_readDoor 2 (some FieldType.boolean) { frames := 4, cells := 0, slots := 0, locals := 90 } [.ref (E.2.1 40)] σ τ (Pi (bI (p_door (σ0 46) L s).1) (mkR σ0 L (p_door (σ0 46) L s).2) (τ)) := by
  refine ct_of hE RX7 [some (.ref (E.2.1 40)), none] (by decide) rfl (Nat.le_of_ble_eq_true rfl) rfl (fun X => ?_)
  subst hσ
  have e4 := vp_to h4 (by decide)
  refine g_aload_n (q := 1) dX7_readDoor_0 rfl rfl ?_
  refine f7_15 (q := 4) wd_863 dX7_readDoor_1 rfl ?_
  refine g_iconst (q := 5) dX7_readDoor_4 ci_4 rfl ?_
  refine g_ialdJ (q := 6) (k := 47) (j := 4) (N := 52) (by decide) (by decide) rfl rfl (by decide) (show (4 : Int32) = nI 4 from rfl) (by omega) dX7_readDoor_5 rfl ?_
  refine g_istore_n (j := 1) (q := 7) dX7_readDoor_6 rfl (by decide) rfl rfl ?_
  refine g_ls (ls' := [some (.ref (E.2.1 40)), some (.int (nI ((s.2.1 4).toNatClampNeg)))]) (by rw [← e4.1]; rfl) ?_
  refine g_iload_n (q := 8) dX7_readDoor_7 rfl rfl ?_
  refine g_bipush (q := 10) dX7_readDoor_8 cb_8 rfl ?_
  refine g_icmp_eq (t := 22) (q := 13) dX7_readDoor_10 (by decide) rfl (fun c_10 => ?_) (fun c_10 => ?_)
  · rw [← e4.1] at c_10
    refine g_aload_n (q := 23) dX7_readDoor_22 rfl rfl ?_
    refine g_aload_n (q := 24) dX7_readDoor_23 rfl rfl ?_
    refine f7_15 (q := 27) wd_863 dX7_readDoor_24 rfl ?_
    refine g_iconst (q := 28) dX7_readDoor_27 ci_5 rfl ?_
    refine g_ialdJ (q := 29) (k := 47) (j := 5) (N := 52) (by decide) (by decide) rfl rfl (by decide) (show (5 : Int32) = nI 5 from rfl) (by omega) dX7_readDoor_28 rfl ?_
    refine g_if_le (t := 36) (q := 32) dX7_readDoor_29 (by decide) rfl (fun c_29 => ?_) (fun c_29 => ?_)
    · rw [mr47] at c_29
      refine g_iconst (q := 37) dX7_readDoor_36 ci_3 rfl ?_
      refine g_callVi (q := 40) (c_X7_faults hE rfl) lk_RX7_108 (by decide) (by decide) rfl (by decide) rfl rfl rfl rfl rfl rfl (Nat.le_of_ble_eq_true rfl) (Nat.le_of_ble_eq_true rfl) (Nat.le_of_ble_eq_true rfl) dX7_readDoor_37 rfl ?_
      exact g_zret dX7_readDoor_40 (by first | decide | exact bI_nar _) (pi_i (by unfold p_door; rw [if_pos (Or.inl c_10), if_neg (Int32.not_lt.mpr c_29)]) (by unfold p_door; rw [if_pos (Or.inl c_10), if_neg (Int32.not_lt.mpr c_29)]) rfl)
    · rw [mr47] at c_29
      refine g_iconst (q := 33) dX7_readDoor_32 ci_1 rfl ?_
      refine g_goto (t := 37) dX7_readDoor_33 (by decide) ?_
      refine g_callVi (q := 40) (c_X7_faults hE rfl) lk_RX7_108 (by decide) (by decide) rfl (by decide) rfl rfl rfl rfl rfl rfl (Nat.le_of_ble_eq_true rfl) (Nat.le_of_ble_eq_true rfl) (Nat.le_of_ble_eq_true rfl) dX7_readDoor_37 rfl ?_
      exact g_zret dX7_readDoor_40 (by first | decide | exact bI_nar _) (pi_i (by unfold p_door; rw [if_pos (Or.inl c_10), if_pos (Int32.not_le.mp c_29)]) (by unfold p_door; rw [if_pos (Or.inl c_10), if_pos (Int32.not_le.mp c_29)]) rfl)
  · rw [← e4.1] at c_10
    refine g_aload_n (q := 14) dX7_readDoor_13 rfl rfl ?_
    refine f7_15 (q := 17) wd_863 dX7_readDoor_14 rfl ?_
    refine g_iconst (q := 18) dX7_readDoor_17 ci_5 rfl ?_
    refine g_ialdJ (q := 19) (k := 47) (j := 5) (N := 52) (by decide) (by decide) rfl rfl (by decide) (show (5 : Int32) = nI 5 from rfl) (by omega) dX7_readDoor_18 rfl ?_
    refine g_if_le (t := 41) (q := 22) dX7_readDoor_19 (by decide) rfl (fun c_19 => ?_) (fun c_19 => ?_)
    · rw [mr47] at c_19
      have c19 : ¬ 0 < s.2.1 5 := Int32.not_lt.mpr c_19
      refine g_aload_n (q := 42) dX7_readDoor_41 rfl rfl ?_
      have hc : ¬ (s.2.1 4 = 8 ∨ 0 < s.2.1 5) := fun q => q.elim c_10 c19
      refine g_callVv (q := 45) (c_X7_nextToken hE hL rfl (tk_le _ hB).2 h120) lk_RX7_111 (by decide) (by decide) rfl (by decide) rfl rfl rfl rfl rfl rfl (Nat.le_of_ble_eq_true rfl) (Nat.le_of_ble_eq_true rfl) (Nat.le_of_ble_eq_true rfl) dX7_readDoor_42 rfl ?_
      refine g_sg (σ' := mkR σ0 L ((tk3 (σ0 46) L s.1).1, s.2.1, s.2.2)) (mr_n _ _ _) ?_
      refine g_aload_n (q := 46) dX7_readDoor_45 rfl rfl ?_
      refine g_iconst (q := 47) dX7_readDoor_46 ci_0 rfl ?_
      refine g_aload_n (q := 48) dX7_readDoor_47 rfl rfl ?_
      refine f7_15 (q := 51) wd_863 dX7_readDoor_48 rfl ?_
      refine g_iconst (q := 52) dX7_readDoor_51 ci_0 rfl ?_
      refine g_ialdJ (q := 53) (k := 47) (j := 0) (N := 52) (by decide) (by decide) rfl rfl (by decide) (show (0 : Int32) = nI 0 from rfl) (by omega) dX7_readDoor_52 rfl ?_
      refine g_iconst (q := 54) dX7_readDoor_53 ci_1 rfl ?_
      refine g_isub (q := 55) dX7_readDoor_54 rfl ?_
      refine g_bipush (q := 57) dX7_readDoor_55 cb_13 rfl ?_
      refine g_iload_n (q := 58) dX7_readDoor_57 rfl rfl ?_
      refine g_iadd (q := 59) dX7_readDoor_58 rfl ?_
      refine g_bipush (q := 61) dX7_readDoor_59 cb_44 rfl ?_
      refine g_st (stk' := [.int 44, .int (nI (13 + (s.2.1 4).toNatClampNeg)), .int (s.2.1 0 - 1), .int 0, .ref (E.2.1 40)]) (by rw [show (13 : Int32) + nI ((s.2.1 4).toNatClampNeg) = nI (13 + (s.2.1 4).toNatClampNeg) from ad2 (show (13 : Int32) = nI 13 from rfl) rfl, mr47]) ?_
      refine g_callVi (q := 64) (c_X7_takesNumber hE rfl hL (tk_le _ hB).2 h120 (by omega)) lk_RX7_117 (by decide) (by decide) rfl (by decide) rfl rfl rfl rfl rfl rfl (Nat.le_of_ble_eq_true rfl) (Nat.le_of_ble_eq_true rfl) (Nat.le_of_ble_eq_true rfl) dX7_readDoor_61 rfl ?_
      refine g_if_ne (t := 69) (q := 67) dX7_readDoor_64 (by decide) rfl (fun c_64 => ?_) (fun c_64 => ?_)
      · rw [bI_n0] at c_64
        refine g_aload_n (q := 70) dX7_readDoor_69 rfl rfl ?_
        refine f7_11 (q := 73) wd_859 dX7_readDoor_70 rfl ?_
        refine g_iconst (q := 74) dX7_readDoor_73 ci_2 rfl ?_
        refine g_icmp_ne (t := 99) (q := 77) dX7_readDoor_74 (by decide) rfl (fun c_74 => ?_) (fun c_74 => ?_)
        · rw [mr11] at c_74
          refine g_aload_n (q := 100) dX7_readDoor_99 rfl rfl ?_
          refine f7_15 (q := 103) wd_863 dX7_readDoor_100 rfl ?_
          refine g_iconst (q := 104) dX7_readDoor_103 ci_4 rfl ?_
          refine g_dup2 (q := 105) dX7_readDoor_104 rfl rfl rfl ?_
          refine g_ialdJ (q := 106) (k := 47) (j := 4) (N := 52) (by decide) (by decide) rfl rfl (by decide) (show (4 : Int32) = nI 4 from rfl) (by omega) dX7_readDoor_105 rfl ?_
          refine g_iconst (q := 107) dX7_readDoor_106 ci_1 rfl ?_
          refine g_iadd (q := 108) dX7_readDoor_107 rfl ?_
          refine g_iastJ (q := 109) (k := 47) (j := 4) (N := 52) (by decide) (by decide) rfl rfl (by decide) (show (4 : Int32) = nI 4 from rfl) (by omega) dX7_readDoor_108 rfl ?_
          refine g_sg (σ' := mkR σ0 L ((p_num (σ0 46) L 0 (s.2.1 0 - 1) (13 + (s.2.1 4).toNatClampNeg) 44 ((tk3 (σ0 46) L s.1).1, s.2.1, s.2.2)).2.1, (upd (p_num (σ0 46) L 0 (s.2.1 0 - 1) (13 + (s.2.1 4).toNatClampNeg) 44 ((tk3 (σ0 46) L s.1).1, s.2.1, s.2.2)).2.2.1 4 ((p_num (σ0 46) L 0 (s.2.1 0 - 1) (13 + (s.2.1 4).toNatClampNeg) 44 ((tk3 (σ0 46) L s.1).1, s.2.1, s.2.2)).2.2.1 4 + 1)), (p_num (σ0 46) L 0 (s.2.1 0 - 1) (13 + (s.2.1 4).toNatClampNeg) 44 ((tk3 (σ0 46) L s.1).1, s.2.1, s.2.2)).2.2.2)) (mr_r _ _ _ _) ?_
          refine g_aload_n (q := 110) dX7_readDoor_109 rfl rfl ?_
          refine g_iconst (q := 111) dX7_readDoor_110 ci_0 rfl ?_
          refine g_aload_n (q := 112) dX7_readDoor_111 rfl rfl ?_
          refine f7_15 (q := 115) wd_863 dX7_readDoor_112 rfl ?_
          refine g_iconst (q := 116) dX7_readDoor_115 ci_0 rfl ?_
          refine g_ialdJ (q := 117) (k := 47) (j := 0) (N := 52) (by decide) (by decide) rfl rfl (by decide) (show (0 : Int32) = nI 0 from rfl) (by omega) dX7_readDoor_116 rfl ?_
          refine g_iconst (q := 118) dX7_readDoor_117 ci_1 rfl ?_
          refine g_isub (q := 119) dX7_readDoor_118 rfl ?_
          refine g_bipush (q := 121) dX7_readDoor_119 cb_21 rfl ?_
          refine g_iload_n (q := 122) dX7_readDoor_121 rfl rfl ?_
          refine g_iadd (q := 123) dX7_readDoor_122 rfl ?_
          refine g_bipush (q := 125) dX7_readDoor_123 cb_44 rfl ?_
          have hA1 : (p_num (σ0 46) L 0 (s.2.1 0 - 1) (13 + (s.2.1 4).toNatClampNeg) 44 ((tk3 (σ0 46) L s.1).1, s.2.1, s.2.2)).2.1 ≤ L := (pn_le (s := ((tk3 (σ0 46) L s.1).1, s.2.1, s.2.2)) (tk_le _ hB).2).2
          refine g_st (stk' := [.int 44, .int (nI (21 + (s.2.1 4).toNatClampNeg)), .int ((upd (p_num (σ0 46) L 0 (s.2.1 0 - 1) (13 + (s.2.1 4).toNatClampNeg) 44 ((tk3 (σ0 46) L s.1).1, s.2.1, s.2.2)).2.2.1 4 ((p_num (σ0 46) L 0 (s.2.1 0 - 1) (13 + (s.2.1 4).toNatClampNeg) 44 ((tk3 (σ0 46) L s.1).1, s.2.1, s.2.2)).2.2.1 4 + 1)) 0 - 1), .int 0, .ref (E.2.1 40)]) (by rw [show (21 : Int32) + nI ((s.2.1 4).toNatClampNeg) = nI (21 + (s.2.1 4).toNatClampNeg) from ad2 (show (21 : Int32) = nI 21 from rfl) rfl, mr47]) ?_
          refine g_callVi (q := 128) (c_X7_takesNumber hE rfl hL hA1 h120 (by omega)) lk_RX7_117 (by decide) (by decide) rfl (by decide) rfl rfl rfl rfl rfl rfl (Nat.le_of_ble_eq_true rfl) (Nat.le_of_ble_eq_true rfl) (Nat.le_of_ble_eq_true rfl) dX7_readDoor_125 rfl ?_
          refine g_if_eq (t := 150) (q := 131) dX7_readDoor_128 (by decide) rfl (fun c_128 => ?_) (fun c_128 => ?_)
          · rw [bI_0] at c_128
            refine g_iconst (q := 151) dX7_readDoor_150 ci_0 rfl ?_
            exact g_zret dX7_readDoor_151 (by first | decide | exact bI_nar _) (pi_i (by simp only [p_door, if_neg hc, c_64, c_74, c_128, bI_t, bI_f, if_true, if_false, Bool.true_eq_false, Bool.false_eq_true, reduceIte, and_true, true_and, and_self, false_and, and_false, or_true, true_or, or_self, false_or, or_false]) (by simp only [p_door, if_neg hc, c_64, c_74, c_128, bI_t, bI_f, if_true, if_false, Bool.true_eq_false, Bool.false_eq_true, reduceIte, and_true, true_and, and_self, false_and, and_false, or_true, true_or, or_self, false_or, or_false]) rfl)
          · rw [bI_n0] at c_128
            refine g_aload_n (q := 132) dX7_readDoor_131 rfl rfl ?_
            refine g_iconst (q := 133) dX7_readDoor_132 ci_0 rfl ?_
            refine g_iconst (q := 134) dX7_readDoor_133 ci_1 rfl ?_
            refine g_bipush (q := 136) dX7_readDoor_134 cb_29 rfl ?_
            refine g_iload_n (q := 137) dX7_readDoor_136 rfl rfl ?_
            refine g_iadd (q := 138) dX7_readDoor_137 rfl ?_
            refine g_bipush (q := 140) dX7_readDoor_138 cb_59 rfl ?_
            have hB1 : (p_num (σ0 46) L 0 ((upd (p_num (σ0 46) L 0 (s.2.1 0 - 1) (13 + (s.2.1 4).toNatClampNeg) 44 ((tk3 (σ0 46) L s.1).1, s.2.1, s.2.2)).2.2.1 4 ((p_num (σ0 46) L 0 (s.2.1 0 - 1) (13 + (s.2.1 4).toNatClampNeg) 44 ((tk3 (σ0 46) L s.1).1, s.2.1, s.2.2)).2.2.1 4 + 1)) 0 - 1) (21 + (s.2.1 4).toNatClampNeg) 44 ((p_num (σ0 46) L 0 (s.2.1 0 - 1) (13 + (s.2.1 4).toNatClampNeg) 44 ((tk3 (σ0 46) L s.1).1, s.2.1, s.2.2)).2.1, (upd (p_num (σ0 46) L 0 (s.2.1 0 - 1) (13 + (s.2.1 4).toNatClampNeg) 44 ((tk3 (σ0 46) L s.1).1, s.2.1, s.2.2)).2.2.1 4 ((p_num (σ0 46) L 0 (s.2.1 0 - 1) (13 + (s.2.1 4).toNatClampNeg) 44 ((tk3 (σ0 46) L s.1).1, s.2.1, s.2.2)).2.2.1 4 + 1)), (p_num (σ0 46) L 0 (s.2.1 0 - 1) (13 + (s.2.1 4).toNatClampNeg) 44 ((tk3 (σ0 46) L s.1).1, s.2.1, s.2.2)).2.2.2)).2.1 ≤ L := (pn_le (s := ((p_num (σ0 46) L 0 (s.2.1 0 - 1) (13 + (s.2.1 4).toNatClampNeg) 44 ((tk3 (σ0 46) L s.1).1, s.2.1, s.2.2)).2.1, (upd (p_num (σ0 46) L 0 (s.2.1 0 - 1) (13 + (s.2.1 4).toNatClampNeg) 44 ((tk3 (σ0 46) L s.1).1, s.2.1, s.2.2)).2.2.1 4 ((p_num (σ0 46) L 0 (s.2.1 0 - 1) (13 + (s.2.1 4).toNatClampNeg) 44 ((tk3 (σ0 46) L s.1).1, s.2.1, s.2.2)).2.2.1 4 + 1)), (p_num (σ0 46) L 0 (s.2.1 0 - 1) (13 + (s.2.1 4).toNatClampNeg) 44 ((tk3 (σ0 46) L s.1).1, s.2.1, s.2.2)).2.2.2)) hA1).2
            refine g_st (stk' := [.int 59, .int (nI (29 + (s.2.1 4).toNatClampNeg)), .int (1), .int 0, .ref (E.2.1 40)]) (by rw [show (29 : Int32) + nI ((s.2.1 4).toNatClampNeg) = nI (29 + (s.2.1 4).toNatClampNeg) from ad2 (show (29 : Int32) = nI 29 from rfl) rfl]) ?_
            refine g_callVi (q := 143) (c_X7_takesNumber hE rfl hL hB1 h120 (by omega)) lk_RX7_117 (by decide) (by decide) rfl (by decide) rfl rfl rfl rfl rfl rfl (Nat.le_of_ble_eq_true rfl) (Nat.le_of_ble_eq_true rfl) (Nat.le_of_ble_eq_true rfl) dX7_readDoor_140 rfl ?_
            refine g_if_eq (t := 150) (q := 146) dX7_readDoor_143 (by decide) rfl (fun c_143 => ?_) (fun c_143 => ?_)
            · rw [bI_0] at c_143
              refine g_iconst (q := 151) dX7_readDoor_150 ci_0 rfl ?_
              exact g_zret dX7_readDoor_151 (by first | decide | exact bI_nar _) (pi_i (by simp only [p_door, if_neg hc, c_64, c_74, c_128, c_143, bI_t, bI_f, if_true, if_false, Bool.true_eq_false, Bool.false_eq_true, reduceIte, and_true, true_and, and_self, false_and, and_false, or_true, true_or, or_self, false_or, or_false]) (by simp only [p_door, if_neg hc, c_64, c_74, c_128, c_143, bI_t, bI_f, if_true, if_false, Bool.true_eq_false, Bool.false_eq_true, reduceIte, and_true, true_and, and_self, false_and, and_false, or_true, true_or, or_self, false_or, or_false]) rfl)
            · rw [bI_n0] at c_143
              refine g_iconst (q := 147) dX7_readDoor_146 ci_1 rfl ?_
              refine g_goto (t := 151) dX7_readDoor_147 (by decide) ?_
              exact g_zret dX7_readDoor_151 (by first | decide | exact bI_nar _) (pi_i (by simp only [p_door, if_neg hc, c_64, c_74, c_128, c_143, bI_t, bI_f, if_true, if_false, Bool.true_eq_false, Bool.false_eq_true, reduceIte, and_true, true_and, and_self, false_and, and_false, or_true, true_or, or_self, false_or, or_false]) (by simp only [p_door, if_neg hc, c_64, c_74, c_128, c_143, bI_t, bI_f, if_true, if_false, Bool.true_eq_false, Bool.false_eq_true, reduceIte, and_true, true_and, and_self, false_and, and_false, or_true, true_or, or_self, false_or, or_false]) rfl)
        · rw [mr11] at c_74
          refine g_aload_n (q := 78) dX7_readDoor_77 rfl rfl ?_
          refine f7_12 (q := 81) wd_860 dX7_readDoor_78 rfl ?_
          refine g_aload_n (q := 82) dX7_readDoor_81 rfl rfl ?_
          refine f7_15 (q := 85) wd_863 dX7_readDoor_82 rfl ?_
          refine g_bipush (q := 87) dX7_readDoor_85 cb_13 rfl ?_
          refine g_iload_n (q := 88) dX7_readDoor_87 rfl rfl ?_
          refine g_iadd (q := 89) dX7_readDoor_88 rfl ?_
          refine g_ialdJ (q := 90) (k := 47) (j := (13 + (s.2.1 4).toNatClampNeg)) (N := 52) (by decide) (by decide) rfl rfl (by decide) (ad2 (show (13 : Int32) = nI 13 from rfl) rfl) (by omega) dX7_readDoor_89 rfl ?_
          refine g_icmp_ne (t := 99) (q := 93) dX7_readDoor_90 (by decide) rfl (fun c_90 => ?_) (fun c_90 => ?_)
          · rw [mr12, mr47] at c_90
            refine g_aload_n (q := 100) dX7_readDoor_99 rfl rfl ?_
            refine f7_15 (q := 103) wd_863 dX7_readDoor_100 rfl ?_
            refine g_iconst (q := 104) dX7_readDoor_103 ci_4 rfl ?_
            refine g_dup2 (q := 105) dX7_readDoor_104 rfl rfl rfl ?_
            refine g_ialdJ (q := 106) (k := 47) (j := 4) (N := 52) (by decide) (by decide) rfl rfl (by decide) (show (4 : Int32) = nI 4 from rfl) (by omega) dX7_readDoor_105 rfl ?_
            refine g_iconst (q := 107) dX7_readDoor_106 ci_1 rfl ?_
            refine g_iadd (q := 108) dX7_readDoor_107 rfl ?_
            refine g_iastJ (q := 109) (k := 47) (j := 4) (N := 52) (by decide) (by decide) rfl rfl (by decide) (show (4 : Int32) = nI 4 from rfl) (by omega) dX7_readDoor_108 rfl ?_
            refine g_sg (σ' := mkR σ0 L ((p_num (σ0 46) L 0 (s.2.1 0 - 1) (13 + (s.2.1 4).toNatClampNeg) 44 ((tk3 (σ0 46) L s.1).1, s.2.1, s.2.2)).2.1, (upd (p_num (σ0 46) L 0 (s.2.1 0 - 1) (13 + (s.2.1 4).toNatClampNeg) 44 ((tk3 (σ0 46) L s.1).1, s.2.1, s.2.2)).2.2.1 4 ((p_num (σ0 46) L 0 (s.2.1 0 - 1) (13 + (s.2.1 4).toNatClampNeg) 44 ((tk3 (σ0 46) L s.1).1, s.2.1, s.2.2)).2.2.1 4 + 1)), (p_num (σ0 46) L 0 (s.2.1 0 - 1) (13 + (s.2.1 4).toNatClampNeg) 44 ((tk3 (σ0 46) L s.1).1, s.2.1, s.2.2)).2.2.2)) (mr_r _ _ _ _) ?_
            refine g_aload_n (q := 110) dX7_readDoor_109 rfl rfl ?_
            refine g_iconst (q := 111) dX7_readDoor_110 ci_0 rfl ?_
            refine g_aload_n (q := 112) dX7_readDoor_111 rfl rfl ?_
            refine f7_15 (q := 115) wd_863 dX7_readDoor_112 rfl ?_
            refine g_iconst (q := 116) dX7_readDoor_115 ci_0 rfl ?_
            refine g_ialdJ (q := 117) (k := 47) (j := 0) (N := 52) (by decide) (by decide) rfl rfl (by decide) (show (0 : Int32) = nI 0 from rfl) (by omega) dX7_readDoor_116 rfl ?_
            refine g_iconst (q := 118) dX7_readDoor_117 ci_1 rfl ?_
            refine g_isub (q := 119) dX7_readDoor_118 rfl ?_
            refine g_bipush (q := 121) dX7_readDoor_119 cb_21 rfl ?_
            refine g_iload_n (q := 122) dX7_readDoor_121 rfl rfl ?_
            refine g_iadd (q := 123) dX7_readDoor_122 rfl ?_
            refine g_bipush (q := 125) dX7_readDoor_123 cb_44 rfl ?_
            have hA1 : (p_num (σ0 46) L 0 (s.2.1 0 - 1) (13 + (s.2.1 4).toNatClampNeg) 44 ((tk3 (σ0 46) L s.1).1, s.2.1, s.2.2)).2.1 ≤ L := (pn_le (s := ((tk3 (σ0 46) L s.1).1, s.2.1, s.2.2)) (tk_le _ hB).2).2
            refine g_st (stk' := [.int 44, .int (nI (21 + (s.2.1 4).toNatClampNeg)), .int ((upd (p_num (σ0 46) L 0 (s.2.1 0 - 1) (13 + (s.2.1 4).toNatClampNeg) 44 ((tk3 (σ0 46) L s.1).1, s.2.1, s.2.2)).2.2.1 4 ((p_num (σ0 46) L 0 (s.2.1 0 - 1) (13 + (s.2.1 4).toNatClampNeg) 44 ((tk3 (σ0 46) L s.1).1, s.2.1, s.2.2)).2.2.1 4 + 1)) 0 - 1), .int 0, .ref (E.2.1 40)]) (by rw [show (21 : Int32) + nI ((s.2.1 4).toNatClampNeg) = nI (21 + (s.2.1 4).toNatClampNeg) from ad2 (show (21 : Int32) = nI 21 from rfl) rfl, mr47]) ?_
            refine g_callVi (q := 128) (c_X7_takesNumber hE rfl hL hA1 h120 (by omega)) lk_RX7_117 (by decide) (by decide) rfl (by decide) rfl rfl rfl rfl rfl rfl (Nat.le_of_ble_eq_true rfl) (Nat.le_of_ble_eq_true rfl) (Nat.le_of_ble_eq_true rfl) dX7_readDoor_125 rfl ?_
            refine g_if_eq (t := 150) (q := 131) dX7_readDoor_128 (by decide) rfl (fun c_128 => ?_) (fun c_128 => ?_)
            · rw [bI_0] at c_128
              refine g_iconst (q := 151) dX7_readDoor_150 ci_0 rfl ?_
              exact g_zret dX7_readDoor_151 (by first | decide | exact bI_nar _) (pi_i (by simp only [p_door, if_neg hc, c_64, c_74, c_90, c_128, bI_t, bI_f, if_true, if_false, Bool.true_eq_false, Bool.false_eq_true, reduceIte, and_true, true_and, and_self, false_and, and_false, or_true, true_or, or_self, false_or, or_false]) (by simp only [p_door, if_neg hc, c_64, c_74, c_90, c_128, bI_t, bI_f, if_true, if_false, Bool.true_eq_false, Bool.false_eq_true, reduceIte, and_true, true_and, and_self, false_and, and_false, or_true, true_or, or_self, false_or, or_false]) rfl)
            · rw [bI_n0] at c_128
              refine g_aload_n (q := 132) dX7_readDoor_131 rfl rfl ?_
              refine g_iconst (q := 133) dX7_readDoor_132 ci_0 rfl ?_
              refine g_iconst (q := 134) dX7_readDoor_133 ci_1 rfl ?_
              refine g_bipush (q := 136) dX7_readDoor_134 cb_29 rfl ?_
              refine g_iload_n (q := 137) dX7_readDoor_136 rfl rfl ?_
              refine g_iadd (q := 138) dX7_readDoor_137 rfl ?_
              refine g_bipush (q := 140) dX7_readDoor_138 cb_59 rfl ?_
              have hB1 : (p_num (σ0 46) L 0 ((upd (p_num (σ0 46) L 0 (s.2.1 0 - 1) (13 + (s.2.1 4).toNatClampNeg) 44 ((tk3 (σ0 46) L s.1).1, s.2.1, s.2.2)).2.2.1 4 ((p_num (σ0 46) L 0 (s.2.1 0 - 1) (13 + (s.2.1 4).toNatClampNeg) 44 ((tk3 (σ0 46) L s.1).1, s.2.1, s.2.2)).2.2.1 4 + 1)) 0 - 1) (21 + (s.2.1 4).toNatClampNeg) 44 ((p_num (σ0 46) L 0 (s.2.1 0 - 1) (13 + (s.2.1 4).toNatClampNeg) 44 ((tk3 (σ0 46) L s.1).1, s.2.1, s.2.2)).2.1, (upd (p_num (σ0 46) L 0 (s.2.1 0 - 1) (13 + (s.2.1 4).toNatClampNeg) 44 ((tk3 (σ0 46) L s.1).1, s.2.1, s.2.2)).2.2.1 4 ((p_num (σ0 46) L 0 (s.2.1 0 - 1) (13 + (s.2.1 4).toNatClampNeg) 44 ((tk3 (σ0 46) L s.1).1, s.2.1, s.2.2)).2.2.1 4 + 1)), (p_num (σ0 46) L 0 (s.2.1 0 - 1) (13 + (s.2.1 4).toNatClampNeg) 44 ((tk3 (σ0 46) L s.1).1, s.2.1, s.2.2)).2.2.2)).2.1 ≤ L := (pn_le (s := ((p_num (σ0 46) L 0 (s.2.1 0 - 1) (13 + (s.2.1 4).toNatClampNeg) 44 ((tk3 (σ0 46) L s.1).1, s.2.1, s.2.2)).2.1, (upd (p_num (σ0 46) L 0 (s.2.1 0 - 1) (13 + (s.2.1 4).toNatClampNeg) 44 ((tk3 (σ0 46) L s.1).1, s.2.1, s.2.2)).2.2.1 4 ((p_num (σ0 46) L 0 (s.2.1 0 - 1) (13 + (s.2.1 4).toNatClampNeg) 44 ((tk3 (σ0 46) L s.1).1, s.2.1, s.2.2)).2.2.1 4 + 1)), (p_num (σ0 46) L 0 (s.2.1 0 - 1) (13 + (s.2.1 4).toNatClampNeg) 44 ((tk3 (σ0 46) L s.1).1, s.2.1, s.2.2)).2.2.2)) hA1).2
              refine g_st (stk' := [.int 59, .int (nI (29 + (s.2.1 4).toNatClampNeg)), .int (1), .int 0, .ref (E.2.1 40)]) (by rw [show (29 : Int32) + nI ((s.2.1 4).toNatClampNeg) = nI (29 + (s.2.1 4).toNatClampNeg) from ad2 (show (29 : Int32) = nI 29 from rfl) rfl]) ?_
              refine g_callVi (q := 143) (c_X7_takesNumber hE rfl hL hB1 h120 (by omega)) lk_RX7_117 (by decide) (by decide) rfl (by decide) rfl rfl rfl rfl rfl rfl (Nat.le_of_ble_eq_true rfl) (Nat.le_of_ble_eq_true rfl) (Nat.le_of_ble_eq_true rfl) dX7_readDoor_140 rfl ?_
              refine g_if_eq (t := 150) (q := 146) dX7_readDoor_143 (by decide) rfl (fun c_143 => ?_) (fun c_143 => ?_)
              · rw [bI_0] at c_143
                refine g_iconst (q := 151) dX7_readDoor_150 ci_0 rfl ?_
                exact g_zret dX7_readDoor_151 (by first | decide | exact bI_nar _) (pi_i (by simp only [p_door, if_neg hc, c_64, c_74, c_90, c_128, c_143, bI_t, bI_f, if_true, if_false, Bool.true_eq_false, Bool.false_eq_true, reduceIte, and_true, true_and, and_self, false_and, and_false, or_true, true_or, or_self, false_or, or_false]) (by simp only [p_door, if_neg hc, c_64, c_74, c_90, c_128, c_143, bI_t, bI_f, if_true, if_false, Bool.true_eq_false, Bool.false_eq_true, reduceIte, and_true, true_and, and_self, false_and, and_false, or_true, true_or, or_self, false_or, or_false]) rfl)
              · rw [bI_n0] at c_143
                refine g_iconst (q := 147) dX7_readDoor_146 ci_1 rfl ?_
                refine g_goto (t := 151) dX7_readDoor_147 (by decide) ?_
                exact g_zret dX7_readDoor_151 (by first | decide | exact bI_nar _) (pi_i (by simp only [p_door, if_neg hc, c_64, c_74, c_90, c_128, c_143, bI_t, bI_f, if_true, if_false, Bool.true_eq_false, Bool.false_eq_true, reduceIte, and_true, true_and, and_self, false_and, and_false, or_true, true_or, or_self, false_or, or_false]) (by simp only [p_door, if_neg hc, c_64, c_74, c_90, c_128, c_143, bI_t, bI_f, if_true, if_false, Bool.true_eq_false, Bool.false_eq_true, reduceIte, and_true, true_and, and_self, false_and, and_false, or_true, true_or, or_self, false_or, or_false]) rfl)
          · rw [mr12, mr47] at c_90
            refine g_aload_n (q := 94) dX7_readDoor_93 rfl rfl ?_
            refine g_iconst (q := 95) dX7_readDoor_94 ci_2 rfl ?_
            refine g_callVi (q := 98) (c_X7_faults hE rfl) lk_RX7_108 (by decide) (by decide) rfl (by decide) rfl rfl rfl rfl rfl rfl (Nat.le_of_ble_eq_true rfl) (Nat.le_of_ble_eq_true rfl) (Nat.le_of_ble_eq_true rfl) dX7_readDoor_95 rfl ?_
            exact g_zret dX7_readDoor_98 (by first | decide | exact bI_nar _) (pi_i (by simp only [p_door, if_neg hc, c_64, c_74, c_90, bI_t, bI_f, if_true, if_false, Bool.true_eq_false, Bool.false_eq_true, reduceIte, and_true, true_and, and_self, false_and, and_false, or_true, true_or, or_self, false_or, or_false]) (by simp only [p_door, if_neg hc, c_64, c_74, c_90, bI_t, bI_f, if_true, if_false, Bool.true_eq_false, Bool.false_eq_true, reduceIte, and_true, true_and, and_self, false_and, and_false, or_true, true_or, or_self, false_or, or_false]) rfl)
      · rw [bI_0] at c_64
        refine g_iconst (q := 68) dX7_readDoor_67 ci_0 rfl ?_
        exact g_zret dX7_readDoor_68 (by first | decide | exact bI_nar _) (pi_i (by simp only [p_door, if_neg hc, c_64, bI_t, bI_f, if_true, if_false, Bool.true_eq_false, Bool.false_eq_true, reduceIte, and_true, true_and, and_self, false_and, and_false, or_true, true_or, or_self, false_or, or_false]) (by simp only [p_door, if_neg hc, c_64, bI_t, bI_f, if_true, if_false, Bool.true_eq_false, Bool.false_eq_true, reduceIte, and_true, true_and, and_self, false_and, and_false, or_true, true_or, or_self, false_or, or_false]) rfl)
    · rw [mr47] at c_19
      refine g_aload_n (q := 23) dX7_readDoor_22 rfl rfl ?_
      refine g_aload_n (q := 24) dX7_readDoor_23 rfl rfl ?_
      refine f7_15 (q := 27) wd_863 dX7_readDoor_24 rfl ?_
      refine g_iconst (q := 28) dX7_readDoor_27 ci_5 rfl ?_
      refine g_ialdJ (q := 29) (k := 47) (j := 5) (N := 52) (by decide) (by decide) rfl rfl (by decide) (show (5 : Int32) = nI 5 from rfl) (by omega) dX7_readDoor_28 rfl ?_
      refine g_if_le (t := 36) (q := 32) dX7_readDoor_29 (by decide) rfl (fun c_29 => ?_) (fun c_29 => ?_)
      · rw [mr47] at c_29
        exact absurd c_29 c_19
      · rw [mr47] at c_29
        refine g_iconst (q := 33) dX7_readDoor_32 ci_1 rfl ?_
        refine g_goto (t := 37) dX7_readDoor_33 (by decide) ?_
        refine g_callVi (q := 40) (c_X7_faults hE rfl) lk_RX7_108 (by decide) (by decide) rfl (by decide) rfl rfl rfl rfl rfl rfl (Nat.le_of_ble_eq_true rfl) (Nat.le_of_ble_eq_true rfl) (Nat.le_of_ble_eq_true rfl) dX7_readDoor_37 rfl ?_
        exact g_zret dX7_readDoor_40 (by first | decide | exact bI_nar _) (pi_i (by unfold p_door; rw [if_pos (Or.inr (Int32.not_le.mp c_19)), if_pos (Int32.not_le.mp c_29)]) (by unfold p_door; rw [if_pos (Or.inr (Int32.not_le.mp c_19)), if_pos (Int32.not_le.mp c_29)]) rfl)
set_option maxRecDepth 20000 in
set_option maxHeartbeats 4000000 in
theorem c_X7_readSitter {E : EE} (hE : inj E 40 13) {σ : Sto} {τ : Stl} {σ0 : Sto} {L : Nat} {s : PS} {k : Int32} (hσ : σ = mkR σ0 L s) (hL : σ0 40 8 = nI L) (hB : s.1 ≤ L) (h120 : L ≤ 120) (h5 : vp_in (s.2.1 5) 6) : Ct E 40 13 yX7_readSitter cX7_readSitter 3 (some FieldType.boolean) { frames := 4, cells := 0, slots := 0, locals := 90 } [.ref (E.2.1 40), .int k] σ τ (Pi (bI (p_sit (σ0 46) L k s).1) (mkR σ0 L (p_sit (σ0 46) L k s).2) (τ)) := by
  refine ct_of hE RX7 [some (.ref (E.2.1 40)), some (.int k), none] (by decide) rfl (Nat.le_of_ble_eq_true rfl) rfl (fun X => ?_)
  subst hσ
  have e5 := vp_to h5 (by decide)
  refine g_aload_n (q := 1) dX7_readSitter_0 rfl rfl ?_
  refine f7_15 (q := 4) wd_863 dX7_readSitter_1 rfl ?_
  refine g_iconst (q := 5) dX7_readSitter_4 ci_5 rfl ?_
  refine g_ialdJ (q := 6) (k := 47) (j := 5) (N := 52) (by decide) (by decide) rfl rfl (by decide) (show (5 : Int32) = nI 5 from rfl) (by omega) dX7_readSitter_5 rfl ?_
  refine g_istore_n (j := 2) (q := 7) dX7_readSitter_6 rfl (by decide) rfl rfl ?_
  refine g_ls (ls' := [some (.ref (E.2.1 40)), some (.int k), some (.int (nI ((s.2.1 5).toNatClampNeg)))]) (by rw [← e5.1]; rfl) ?_
  refine g_iload_n (q := 8) dX7_readSitter_7 rfl rfl ?_
  refine g_iconst (q := 9) dX7_readSitter_8 ci_5 rfl ?_
  refine g_icmp_ne (t := 18) (q := 12) dX7_readSitter_9 (by decide) rfl (fun c_9 => ?_) (fun c_9 => ?_)
  · rw [← e5.1] at c_9
    have b5 : (s.2.1 5).toNatClampNeg < 5 := by have z := e5.2; rcases Nat.lt_or_ge ((s.2.1 5).toNatClampNeg) 5 with q | q; exact q; exact absurd (by rw [e5.1, show (s.2.1 5).toNatClampNeg = 5 by omega]; rfl) c_9
    refine g_aload_n (q := 19) dX7_readSitter_18 rfl rfl ?_
    refine g_callVv (q := 22) (c_X7_nextToken hE hL rfl (tk_le _ hB).2 h120) lk_RX7_111 (by decide) (by decide) rfl (by decide) rfl rfl rfl rfl rfl rfl (Nat.le_of_ble_eq_true rfl) (Nat.le_of_ble_eq_true rfl) (Nat.le_of_ble_eq_true rfl) dX7_readSitter_19 rfl ?_
    refine g_sg (σ' := mkR σ0 L ((tk3 (σ0 46) L s.1).1, s.2.1, s.2.2)) (mr_n _ _ _) ?_
    refine g_aload_n (q := 23) dX7_readSitter_22 rfl rfl ?_
    refine f7_15 (q := 26) wd_863 dX7_readSitter_23 rfl ?_
    refine g_bipush (q := 28) dX7_readSitter_26 cb_37 rfl ?_
    refine g_iload_n (q := 29) dX7_readSitter_28 rfl rfl ?_
    refine g_iadd (q := 30) dX7_readSitter_29 rfl ?_
    refine g_iload_n (q := 31) dX7_readSitter_30 rfl rfl ?_
    refine g_iastJ (q := 32) (k := 47) (j := (37 + (s.2.1 5).toNatClampNeg)) (N := 52) (by decide) (by decide) rfl rfl (by decide) (ad2 (show (37 : Int32) = nI 37 from rfl) rfl) (by omega) dX7_readSitter_31 rfl ?_
    refine g_sg (σ' := mkR σ0 L ((tk3 (σ0 46) L s.1).1, upd s.2.1 (37 + (s.2.1 5).toNatClampNeg) k, s.2.2)) (mr_r _ _ _ _) ?_
    refine g_aload_n (q := 33) dX7_readSitter_32 rfl rfl ?_
    refine f7_15 (q := 36) wd_863 dX7_readSitter_33 rfl ?_
    refine g_iconst (q := 37) dX7_readSitter_36 ci_5 rfl ?_
    refine g_dup2 (q := 38) dX7_readSitter_37 rfl rfl rfl ?_
    refine g_ialdJ (q := 39) (k := 47) (j := 5) (N := 52) (by decide) (by decide) rfl rfl (by decide) (show (5 : Int32) = nI 5 from rfl) (by omega) dX7_readSitter_38 rfl ?_
    refine g_iconst (q := 40) dX7_readSitter_39 ci_1 rfl ?_
    refine g_iadd (q := 41) dX7_readSitter_40 rfl ?_
    refine g_iastJ (q := 42) (k := 47) (j := 5) (N := 52) (by decide) (by decide) rfl rfl (by decide) (show (5 : Int32) = nI 5 from rfl) (by omega) dX7_readSitter_41 rfl ?_
    refine g_sg (σ' := mkR σ0 L ((tk3 (σ0 46) L s.1).1, (upd (upd s.2.1 (37 + (s.2.1 5).toNatClampNeg) k) 5 (upd s.2.1 (37 + (s.2.1 5).toNatClampNeg) k 5 + 1)), s.2.2)) (mr_r _ _ _ _) ?_
    refine g_aload_n (q := 43) dX7_readSitter_42 rfl rfl ?_
    refine g_iconst (q := 44) dX7_readSitter_43 ci_0 rfl ?_
    refine g_aload_n (q := 45) dX7_readSitter_44 rfl rfl ?_
    refine f7_15 (q := 48) wd_863 dX7_readSitter_45 rfl ?_
    refine g_iconst (q := 49) dX7_readSitter_48 ci_0 rfl ?_
    refine g_ialdJ (q := 50) (k := 47) (j := 0) (N := 52) (by decide) (by decide) rfl rfl (by decide) (show (0 : Int32) = nI 0 from rfl) (by omega) dX7_readSitter_49 rfl ?_
    refine g_iconst (q := 51) dX7_readSitter_50 ci_1 rfl ?_
    refine g_isub (q := 52) dX7_readSitter_51 rfl ?_
    refine g_bipush (q := 54) dX7_readSitter_52 cb_42 rfl ?_
    refine g_iload_n (q := 55) dX7_readSitter_54 rfl rfl ?_
    refine g_iadd (q := 56) dX7_readSitter_55 rfl ?_
    refine g_bipush (q := 58) dX7_readSitter_56 cb_44 rfl ?_
    refine g_st (stk' := [.int 44, .int (nI (42 + (s.2.1 5).toNatClampNeg)), .int ((upd (upd s.2.1 (37 + (s.2.1 5).toNatClampNeg) k) 5 (upd s.2.1 (37 + (s.2.1 5).toNatClampNeg) k 5 + 1)) 0 - 1), .int 0, .ref (E.2.1 40)]) (by rw [show (42 : Int32) + nI ((s.2.1 5).toNatClampNeg) = nI (42 + (s.2.1 5).toNatClampNeg) from ad2 (show (42 : Int32) = nI 42 from rfl) rfl, mr47]) ?_
    refine g_callVi (q := 61) (c_X7_takesNumber hE rfl hL (tk_le _ hB).2 h120 (by omega)) lk_RX7_117 (by decide) (by decide) rfl (by decide) rfl rfl rfl rfl rfl rfl (Nat.le_of_ble_eq_true rfl) (Nat.le_of_ble_eq_true rfl) (Nat.le_of_ble_eq_true rfl) dX7_readSitter_58 rfl ?_
    refine g_if_eq (t := 84) (q := 64) dX7_readSitter_61 (by decide) rfl (fun c_61 => ?_) (fun c_61 => ?_)
    · rw [bI_0] at c_61
      refine g_iconst (q := 85) dX7_readSitter_84 ci_0 rfl ?_
      exact g_zret dX7_readSitter_85 (by first | decide | exact bI_nar _) (pi_i (by simp only [p_sit, c_9, c_61, bI_t, bI_f, if_true, if_false, Bool.true_eq_false, Bool.false_eq_true, reduceIte, and_true, true_and, and_self, false_and, and_false, or_true, true_or, or_self, false_or, or_false]) (by simp only [p_sit, c_9, c_61, bI_t, bI_f, if_true, if_false, Bool.true_eq_false, Bool.false_eq_true, reduceIte, and_true, true_and, and_self, false_and, and_false, or_true, true_or, or_self, false_or, or_false]) rfl)
    · rw [bI_n0] at c_61
      refine g_aload_n (q := 65) dX7_readSitter_64 rfl rfl ?_
      refine g_iconst (q := 66) dX7_readSitter_65 ci_0 rfl ?_
      refine g_bipush (q := 68) dX7_readSitter_66 cb_20 rfl ?_
      refine g_bipush (q := 70) dX7_readSitter_68 cb_47 rfl ?_
      refine g_iload_n (q := 71) dX7_readSitter_70 rfl rfl ?_
      refine g_iadd (q := 72) dX7_readSitter_71 rfl ?_
      refine g_bipush (q := 74) dX7_readSitter_72 cb_59 rfl ?_
      have hA1 : (p_num (σ0 46) L 0 ((upd (upd s.2.1 (37 + (s.2.1 5).toNatClampNeg) k) 5 (upd s.2.1 (37 + (s.2.1 5).toNatClampNeg) k 5 + 1)) 0 - 1) (42 + (s.2.1 5).toNatClampNeg) 44 ((tk3 (σ0 46) L s.1).1, (upd (upd s.2.1 (37 + (s.2.1 5).toNatClampNeg) k) 5 (upd s.2.1 (37 + (s.2.1 5).toNatClampNeg) k 5 + 1)), s.2.2)).2.1 ≤ L := (pn_le (s := ((tk3 (σ0 46) L s.1).1, (upd (upd s.2.1 (37 + (s.2.1 5).toNatClampNeg) k) 5 (upd s.2.1 (37 + (s.2.1 5).toNatClampNeg) k 5 + 1)), s.2.2)) (tk_le _ hB).2).2
      refine g_st (stk' := [.int 59, .int (nI (47 + (s.2.1 5).toNatClampNeg)), .int (20), .int 0, .ref (E.2.1 40)]) (by rw [show (47 : Int32) + nI ((s.2.1 5).toNatClampNeg) = nI (47 + (s.2.1 5).toNatClampNeg) from ad2 (show (47 : Int32) = nI 47 from rfl) rfl]) ?_
      refine g_callVi (q := 77) (c_X7_takesNumber hE rfl hL hA1 h120 (by omega)) lk_RX7_117 (by decide) (by decide) rfl (by decide) rfl rfl rfl rfl rfl rfl (Nat.le_of_ble_eq_true rfl) (Nat.le_of_ble_eq_true rfl) (Nat.le_of_ble_eq_true rfl) dX7_readSitter_74 rfl ?_
      refine g_if_eq (t := 84) (q := 80) dX7_readSitter_77 (by decide) rfl (fun c_77 => ?_) (fun c_77 => ?_)
      · rw [bI_0] at c_77
        refine g_iconst (q := 85) dX7_readSitter_84 ci_0 rfl ?_
        exact g_zret dX7_readSitter_85 (by first | decide | exact bI_nar _) (pi_i (by simp only [p_sit, c_9, c_61, c_77, bI_t, bI_f, if_true, if_false, Bool.true_eq_false, Bool.false_eq_true, reduceIte, and_true, true_and, and_self, false_and, and_false, or_true, true_or, or_self, false_or, or_false]) (by simp only [p_sit, c_9, c_61, c_77, bI_t, bI_f, if_true, if_false, Bool.true_eq_false, Bool.false_eq_true, reduceIte, and_true, true_and, and_self, false_and, and_false, or_true, true_or, or_self, false_or, or_false]) rfl)
      · rw [bI_n0] at c_77
        refine g_iconst (q := 81) dX7_readSitter_80 ci_1 rfl ?_
        refine g_goto (t := 85) dX7_readSitter_81 (by decide) ?_
        exact g_zret dX7_readSitter_85 (by first | decide | exact bI_nar _) (pi_i (by simp only [p_sit, c_9, c_61, c_77, bI_t, bI_f, if_true, if_false, Bool.true_eq_false, Bool.false_eq_true, reduceIte, and_true, true_and, and_self, false_and, and_false, or_true, true_or, or_self, false_or, or_false]) (by simp only [p_sit, c_9, c_61, c_77, bI_t, bI_f, if_true, if_false, Bool.true_eq_false, Bool.false_eq_true, reduceIte, and_true, true_and, and_self, false_and, and_false, or_true, true_or, or_self, false_or, or_false]) rfl)
  · rw [← e5.1] at c_9
    refine g_aload_n (q := 13) dX7_readSitter_12 rfl rfl ?_
    refine g_iconst (q := 14) dX7_readSitter_13 ci_3 rfl ?_
    refine g_callVi (q := 17) (c_X7_faults hE rfl) lk_RX7_108 (by decide) (by decide) rfl (by decide) rfl rfl rfl rfl rfl rfl (Nat.le_of_ble_eq_true rfl) (Nat.le_of_ble_eq_true rfl) (Nat.le_of_ble_eq_true rfl) dX7_readSitter_14 rfl ?_
    exact g_zret dX7_readSitter_17 (by first | decide | exact bI_nar _) (pi_i (by simp only [p_sit, c_9, bI_t, bI_f, if_true, if_false, Bool.true_eq_false, Bool.false_eq_true, reduceIte, and_true, true_and, and_self, false_and, and_false, or_true, true_or, or_self, false_or, or_false]) (by simp only [p_sit, c_9, bI_t, bI_f, if_true, if_false, Bool.true_eq_false, Bool.false_eq_true, reduceIte, and_true, true_and, and_self, false_and, and_false, or_true, true_or, or_self, false_or, or_false]) rfl)
set_option maxRecDepth 20000 in
set_option maxHeartbeats 4000000 in
theorem c_X7_readHouse {E : EE} (hE : inj E 40 13) {σ : Sto} {τ : Stl} {L : Nat} (hL : σ 40 8 = nI L) (h120 : L ≤ 120) : Ct E 40 13 yX7_readHouse cX7_readHouse 3 (some FieldType.boolean) { frames := 5, cells := 0, slots := 0, locals := 112 } [.ref (E.2.1 40)] σ τ (Pi (bI (p_house (σ 46) L ((0, zf (σ 47) 0 52, σ 40 14) : PS)).1) (mkR σ L (p_house (σ 46) L ((0, zf (σ 47) 0 52, σ 40 14) : PS)).2) (τ)) := by
  refine ct_of hE RX7 [some (.ref (E.2.1 40)), none, none] (by decide) rfl (Nat.le_of_ble_eq_true rfl) rfl (fun X => ?_)
  refine g_aload_n (q := 1) dX7_readHouse_0 rfl rfl ?_
  refine g_iconst (q := 2) dX7_readHouse_1 ci_0 rfl ?_
  refine p7_10 (q := 5) wd_858 dX7_readHouse_2 rfl ?_
  refine g_iconst (q := 6) dX7_readHouse_5 ci_0 rfl ?_
  refine g_istore_n (j := 1) (q := 7) dX7_readHouse_6 rfl (by decide) rfl rfl ?_
  refine g_for (I := fun i => [some (.ref (E.2.1 40)), some (.int (nI i)), none]) (S := fun i => upc (upc σ 40 (upd (σ 40) 10 0)) 47 (zf (σ 47) 0 i)) (T := fun i => τ) (0) (52) (Nat.zero_le _) (by rfl) (by rw [zf_0]; exact (upc_idx () rfl).symm) (by rfl) (fun i i0 i1 kk_i => ?_) ?_
  · have hci : (nI i).toNatClampNeg = i := nI_clamp (by omega)
    refine g_iload_n (q := 8) dX7_readHouse_7 rfl rfl ?_
    refine g_bipush (q := 10) dX7_readHouse_8 cb_52 rfl ?_
    refine g_icmp_ge (t := 26) (q := 13) dX7_readHouse_10 (by decide) rfl (fun c_10 => ?_) (fun c_10 => ?_)
    · exact absurd c_10 (lp_in (by rfl) (by omega) i1)
    · refine g_aload_n (q := 14) dX7_readHouse_13 rfl rfl ?_
      refine f7_15 (q := 17) wd_863 dX7_readHouse_14 rfl ?_
      refine g_iload_n (q := 18) dX7_readHouse_17 rfl rfl ?_
      refine g_iconst (q := 19) dX7_readHouse_18 ci_0 rfl ?_
      refine g_iastJ (q := 20) (k := 47) (j := i) (N := 52) (by decide) (by decide) rfl rfl (by decide) rfl (by omega) dX7_readHouse_19 rfl ?_
      refine g_iinc (q := 23) dX7_readHouse_20 rfl ci_1 (by decide) rfl rfl ?_
      refine g_goto (t := 7) dX7_readHouse_23 (by decide) ?_
      exact g_eqw kk_i (by simp [lsub, nI_succ]) (by rw [upc_upc, upc_same]; congr 1; have := zf_s (σ 47) 0 i; rw [Nat.zero_add] at this; exact this) rfl
  · refine g_iload_n (q := 8) dX7_readHouse_7 rfl rfl ?_
    refine g_bipush (q := 10) dX7_readHouse_8 cb_52 rfl ?_
    refine g_icmp_ge (t := 26) (q := 13) dX7_readHouse_10 (by decide) rfl (fun c_10 => ?_) (fun c_10 => ?_)
    · refine g_aload_n (q := 27) dX7_readHouse_26 rfl rfl ?_
      refine g_callVv (q := 30) (c_X7_nextToken hE (by rw [upc_ne (by decide), upc_same, upd_ne (by decide)]; exact hL) rfl (Nat.zero_le _) h120) lk_RX7_111 (by decide) (by decide) rfl (by decide) rfl rfl rfl rfl rfl rfl (Nat.le_of_ble_eq_true rfl) (Nat.le_of_ble_eq_true rfl) (Nat.le_of_ble_eq_true rfl) dX7_readHouse_27 rfl ?_
      refine g_sg (σ' := mkR σ L ((0, zf (σ 47) 0 52, σ 40 14) : PS)) (mr_0 _ _ _) ?_
      refine g_aload_n (q := 31) dX7_readHouse_30 rfl rfl ?_
      refine g_bipush (q := 33) dX7_readHouse_31 cb_110 rfl ?_
      refine g_callVi (q := 36) (c_X7_takes hE rfl hL (Nat.zero_le _) h120) lk_RX7_114 (by decide) (by decide) rfl (by decide) rfl rfl rfl rfl rfl rfl (Nat.le_of_ble_eq_true rfl) (Nat.le_of_ble_eq_true rfl) (Nat.le_of_ble_eq_true rfl) dX7_readHouse_33 rfl ?_
      refine g_if_eq (t := 97) (q := 39) dX7_readHouse_36 (by decide) rfl (fun c_36 => ?_) (fun c_36 => ?_)
      · rw [bI_0] at c_36
        refine g_iconst (q := 98) dX7_readHouse_97 ci_0 rfl ?_
        exact g_zret dX7_readHouse_98 (by first | decide | exact bI_nar _) (pi_i (by simp only [p_house, p_head, c_36, bI_t, bI_f, if_true, if_false, Bool.true_eq_false, Bool.false_eq_true, reduceIte, and_true, true_and, and_self, false_and, and_false, or_true, true_or, or_self, false_or, or_false]) (by simp only [p_house, p_head, c_36, bI_t, bI_f, if_true, if_false, Bool.true_eq_false, Bool.false_eq_true, reduceIte, and_true, true_and, and_self, false_and, and_false, or_true, true_or, or_self, false_or, or_false]) rfl)
      · rw [bI_n0] at c_36
        refine g_aload_n (q := 40) dX7_readHouse_39 rfl rfl ?_
        refine g_iconst (q := 41) dX7_readHouse_40 ci_1 rfl ?_
        refine g_bipush (q := 43) dX7_readHouse_41 cb_6 rfl ?_
        refine g_iconst (q := 44) dX7_readHouse_43 ci_0 rfl ?_
        refine g_bipush (q := 46) dX7_readHouse_44 cb_44 rfl ?_
        refine g_st (stk' := [.int 44, .int (nI 0), .int (6), .int 1, .ref (E.2.1 40)]) rfl ?_
        refine g_callVi (q := 49) (c_X7_takesNumber hE rfl hL (pt_le (Nat.zero_le _)).2 h120 (by decide)) lk_RX7_117 (by decide) (by decide) rfl (by decide) rfl rfl rfl rfl rfl rfl (Nat.le_of_ble_eq_true rfl) (Nat.le_of_ble_eq_true rfl) (Nat.le_of_ble_eq_true rfl) dX7_readHouse_46 rfl ?_
        refine g_if_eq (t := 97) (q := 52) dX7_readHouse_49 (by decide) rfl (fun c_49 => ?_) (fun c_49 => ?_)
        · rw [bI_0] at c_49
          refine g_iconst (q := 98) dX7_readHouse_97 ci_0 rfl ?_
          exact g_zret dX7_readHouse_98 (by first | decide | exact bI_nar _) (pi_i (by simp only [p_house, p_head, c_36, c_49, bI_t, bI_f, if_true, if_false, Bool.true_eq_false, Bool.false_eq_true, reduceIte, and_true, true_and, and_self, false_and, and_false, or_true, true_or, or_self, false_or, or_false]) (by simp only [p_house, p_head, c_36, c_49, bI_t, bI_f, if_true, if_false, Bool.true_eq_false, Bool.false_eq_true, reduceIte, and_true, true_and, and_self, false_and, and_false, or_true, true_or, or_self, false_or, or_false]) rfl)
        · rw [bI_n0] at c_49
          refine g_aload_n (q := 53) dX7_readHouse_52 rfl rfl ?_
          refine g_iconst (q := 54) dX7_readHouse_53 ci_0 rfl ?_
          refine g_aload_n (q := 55) dX7_readHouse_54 rfl rfl ?_
          refine f7_15 (q := 58) wd_863 dX7_readHouse_55 rfl ?_
          refine g_iconst (q := 59) dX7_readHouse_58 ci_0 rfl ?_
          refine g_ialdJ (q := 60) (k := 47) (j := 0) (N := 52) (by decide) (by decide) rfl rfl (by decide) (show (0 : Int32) = nI 0 from rfl) (by omega) dX7_readHouse_59 rfl ?_
          refine g_iconst (q := 61) dX7_readHouse_60 ci_1 rfl ?_
          refine g_isub (q := 62) dX7_readHouse_61 rfl ?_
          refine g_iconst (q := 63) dX7_readHouse_62 ci_1 rfl ?_
          refine g_bipush (q := 65) dX7_readHouse_63 cb_44 rfl ?_
          refine g_st (stk' := [.int 44, .int (nI 1), .int ((p_num (σ 46) L 1 6 0 44 (p_takes (σ 46) L 110 ((0, zf (σ 47) 0 52, σ 40 14) : PS)).2).2.2.1 0 - 1), .int 0, .ref (E.2.1 40)]) (by rw [mr47]; rfl) ?_
          refine g_callVi (q := 68) (c_X7_takesNumber hE rfl hL (pn_le (pt_le (Nat.zero_le _)).2).2 h120 (by decide)) lk_RX7_117 (by decide) (by decide) rfl (by decide) rfl rfl rfl rfl rfl rfl (Nat.le_of_ble_eq_true rfl) (Nat.le_of_ble_eq_true rfl) (Nat.le_of_ble_eq_true rfl) dX7_readHouse_65 rfl ?_
          refine g_if_eq (t := 97) (q := 71) dX7_readHouse_68 (by decide) rfl (fun c_68 => ?_) (fun c_68 => ?_)
          · rw [bI_0] at c_68
            refine g_iconst (q := 98) dX7_readHouse_97 ci_0 rfl ?_
            exact g_zret dX7_readHouse_98 (by first | decide | exact bI_nar _) (pi_i (by simp only [p_house, p_head, c_36, c_49, c_68, bI_t, bI_f, if_true, if_false, Bool.true_eq_false, Bool.false_eq_true, reduceIte, and_true, true_and, and_self, false_and, and_false, or_true, true_or, or_self, false_or, or_false]) (by simp only [p_house, p_head, c_36, c_49, c_68, bI_t, bI_f, if_true, if_false, Bool.true_eq_false, Bool.false_eq_true, reduceIte, and_true, true_and, and_self, false_and, and_false, or_true, true_or, or_self, false_or, or_false]) rfl)
          · rw [bI_n0] at c_68
            refine g_aload_n (q := 72) dX7_readHouse_71 rfl rfl ?_
            refine g_iconst (q := 73) dX7_readHouse_72 ci_0 rfl ?_
            refine g_bipush (q := 75) dX7_readHouse_73 cb_40 rfl ?_
            refine g_iconst (q := 76) dX7_readHouse_75 ci_2 rfl ?_
            refine g_bipush (q := 78) dX7_readHouse_76 cb_44 rfl ?_
            refine g_st (stk' := [.int 44, .int (nI 2), .int (40), .int 0, .ref (E.2.1 40)]) rfl ?_
            refine g_callVi (q := 81) (c_X7_takesNumber hE rfl hL (pn_le (pn_le (pt_le (Nat.zero_le _)).2).2).2 h120 (by decide)) lk_RX7_117 (by decide) (by decide) rfl (by decide) rfl rfl rfl rfl rfl rfl (Nat.le_of_ble_eq_true rfl) (Nat.le_of_ble_eq_true rfl) (Nat.le_of_ble_eq_true rfl) dX7_readHouse_78 rfl ?_
            refine g_if_eq (t := 97) (q := 84) dX7_readHouse_81 (by decide) rfl (fun c_81 => ?_) (fun c_81 => ?_)
            · rw [bI_0] at c_81
              refine g_iconst (q := 98) dX7_readHouse_97 ci_0 rfl ?_
              exact g_zret dX7_readHouse_98 (by first | decide | exact bI_nar _) (pi_i (by simp only [p_house, p_head, c_36, c_49, c_68, c_81, bI_t, bI_f, if_true, if_false, Bool.true_eq_false, Bool.false_eq_true, reduceIte, and_true, true_and, and_self, false_and, and_false, or_true, true_or, or_self, false_or, or_false]) (by simp only [p_house, p_head, c_36, c_49, c_68, c_81, bI_t, bI_f, if_true, if_false, Bool.true_eq_false, Bool.false_eq_true, reduceIte, and_true, true_and, and_self, false_and, and_false, or_true, true_or, or_self, false_or, or_false]) rfl)
            · rw [bI_n0] at c_81
              refine g_aload_n (q := 85) dX7_readHouse_84 rfl rfl ?_
              refine g_iconst (q := 86) dX7_readHouse_85 ci_0 rfl ?_
              refine g_bipush (q := 88) dX7_readHouse_86 cb_99 rfl ?_
              refine g_iconst (q := 89) dX7_readHouse_88 ci_3 rfl ?_
              refine g_bipush (q := 91) dX7_readHouse_89 cb_59 rfl ?_
              refine g_st (stk' := [.int 59, .int (nI 3), .int (99), .int 0, .ref (E.2.1 40)]) rfl ?_
              refine g_callVi (q := 94) (c_X7_takesNumber hE rfl hL (pn_le (pn_le (pn_le (pt_le (Nat.zero_le _)).2).2).2).2 h120 (by decide)) lk_RX7_117 (by decide) (by decide) rfl (by decide) rfl rfl rfl rfl rfl rfl (Nat.le_of_ble_eq_true rfl) (Nat.le_of_ble_eq_true rfl) (Nat.le_of_ble_eq_true rfl) dX7_readHouse_91 rfl ?_
              refine g_if_ne (t := 99) (q := 97) dX7_readHouse_94 (by decide) rfl (fun c_94 => ?_) (fun c_94 => ?_)
              · rw [bI_n0] at c_94
                refine g_iconst (q := 100) dX7_readHouse_99 ci_1 rfl ?_
                refine g_istore_n (j := 1) (q := 101) dX7_readHouse_100 rfl (by decide) rfl rfl ?_
                have fls : ∀ (RES : Bool × PS) (s : PS), RES = (false, s) → G E 40 13 { frames := 5, cells := 0, slots := 0, locals := 112 } X cX7_readHouse RX7 3 (some FieldType.boolean) (Pi (bI RES.1) (mkR σ L RES.2) τ) 101 [some (.ref (E.2.1 40)), some (.int 0), none] [] (mkR σ L s) τ := by
                  intro RES s hq
                  refine g_iload_n (q := 102) dX7_readHouse_101 rfl rfl ?_
                  refine g_if_eq (t := 217) (q := 105) dX7_readHouse_102 (by decide) rfl (fun c_102 => ?_) (fun c_102 => ?_)
                  · refine g_iload_n (q := 218) dX7_readHouse_217 rfl rfl ?_
                    exact g_zret dX7_readHouse_218 (by first | decide | exact bI_nar _) (pi_i (by rw [hq]; rfl) (by rw [hq]) rfl)
                  · exact absurd rfl c_102
                have key : ∀ (RES : Bool × PS) n (s : PS), L - s.1 < n → invR L s → p_loop (σ 46) L n s = RES → G E 40 13 { frames := 5, cells := 0, slots := 0, locals := 112 } X cX7_readHouse RX7 3 (some FieldType.boolean) (Pi (bI RES.1) (mkR σ L RES.2) τ) 101 [some (.ref (E.2.1 40)), some (.int 1), none] [] (mkR σ L s) τ := by
                  intro RES n
                  induction n with
                  | zero => intro s h1; exact absurd h1 (Nat.not_lt_zero _)
                  | succ n ih =>
                    intro s hn hinv hr
                    simp only [p_loop] at hr
                    refine g_iload_n (q := 102) dX7_readHouse_101 rfl rfl ?_
                    refine g_if_eq (t := 217) (q := 105) dX7_readHouse_102 (by decide) rfl (fun c_102 => ?_) (fun c_102 => ?_)
                    · exact absurd c_102 (by decide)
                    · refine g_aload_n (q := 106) dX7_readHouse_105 rfl rfl ?_
                      refine f7_11 (q := 109) wd_859 dX7_readHouse_106 rfl ?_
                      refine g_iconst (q := 110) dX7_readHouse_109 ci_3 rfl ?_
                      refine g_icmp_eq (t := 217) (q := 113) dX7_readHouse_110 (by decide) rfl (fun c_110 => ?_) (fun c_110 => ?_)
                      · rw [mr11] at c_110
                        rw [if_pos c_110] at hr
                        refine g_iload_n (q := 218) dX7_readHouse_217 rfl rfl ?_
                        exact g_zret dX7_readHouse_218 (by first | decide | exact bI_nar _) (pi_i (by rw [← hr]; rfl) (by rw [← hr]) rfl)
                      · rw [mr11] at c_110
                        rw [if_neg c_110] at hr
                        refine g_aload_n (q := 114) dX7_readHouse_113 rfl rfl ?_
                        refine g_bipush (q := 116) dX7_readHouse_114 cb_114 rfl ?_
                        refine g_callVi (q := 119) (c_X7_isLetter hE rfl) lk_RX7_105 (by decide) (by decide) rfl (by decide) rfl rfl rfl rfl rfl rfl (Nat.le_of_ble_eq_true rfl) (Nat.le_of_ble_eq_true rfl) (Nat.le_of_ble_eq_true rfl) dX7_readHouse_116 rfl ?_
                        refine g_if_eq (t := 126) (q := 122) dX7_readHouse_119 (by decide) rfl (fun c_119 => ?_) (fun c_119 => ?_)
                        · rw [bI_0] at c_119
                          refine g_aload_n (q := 127) dX7_readHouse_126 rfl rfl ?_
                          refine g_bipush (q := 129) dX7_readHouse_127 cb_112 rfl ?_
                          refine g_callVi (q := 132) (c_X7_isLetter hE rfl) lk_RX7_105 (by decide) (by decide) rfl (by decide) rfl rfl rfl rfl rfl rfl (Nat.le_of_ble_eq_true rfl) (Nat.le_of_ble_eq_true rfl) (Nat.le_of_ble_eq_true rfl) dX7_readHouse_129 rfl ?_
                          refine g_if_eq (t := 139) (q := 135) dX7_readHouse_132 (by decide) rfl (fun c_132 => ?_) (fun c_132 => ?_)
                          · rw [bI_0] at c_132
                            refine g_aload_n (q := 140) dX7_readHouse_139 rfl rfl ?_
                            refine g_bipush (q := 142) dX7_readHouse_140 cb_116 rfl ?_
                            refine g_callVi (q := 145) (c_X7_isLetter hE rfl) lk_RX7_105 (by decide) (by decide) rfl (by decide) rfl rfl rfl rfl rfl rfl (Nat.le_of_ble_eq_true rfl) (Nat.le_of_ble_eq_true rfl) (Nat.le_of_ble_eq_true rfl) dX7_readHouse_142 rfl ?_
                            refine g_if_eq (t := 152) (q := 148) dX7_readHouse_145 (by decide) rfl (fun c_145 => ?_) (fun c_145 => ?_)
                            · rw [bI_0] at c_145
                              refine g_aload_n (q := 153) dX7_readHouse_152 rfl rfl ?_
                              refine g_bipush (q := 155) dX7_readHouse_153 cb_102 rfl ?_
                              refine g_callVi (q := 158) (c_X7_isLetter hE rfl) lk_RX7_105 (by decide) (by decide) rfl (by decide) rfl rfl rfl rfl rfl rfl (Nat.le_of_ble_eq_true rfl) (Nat.le_of_ble_eq_true rfl) (Nat.le_of_ble_eq_true rfl) dX7_readHouse_155 rfl ?_
                              refine g_if_eq (t := 165) (q := 161) dX7_readHouse_158 (by decide) rfl (fun c_158 => ?_) (fun c_158 => ?_)
                              · rw [bI_0] at c_158
                                refine g_aload_n (q := 166) dX7_readHouse_165 rfl rfl ?_
                                refine g_bipush (q := 168) dX7_readHouse_166 cb_105 rfl ?_
                                refine g_callVi (q := 171) (c_X7_isLetter hE rfl) lk_RX7_105 (by decide) (by decide) rfl (by decide) rfl rfl rfl rfl rfl rfl (Nat.le_of_ble_eq_true rfl) (Nat.le_of_ble_eq_true rfl) (Nat.le_of_ble_eq_true rfl) dX7_readHouse_168 rfl ?_
                                refine g_if_eq (t := 178) (q := 174) dX7_readHouse_171 (by decide) rfl (fun c_171 => ?_) (fun c_171 => ?_)
                                · rw [bI_0] at c_171
                                  refine g_iconst (q := 179) dX7_readHouse_178 ci_0 rfl ?_
                                  refine g_istore_n (j := 2) (q := 180) dX7_readHouse_179 rfl (by decide) rfl rfl ?_
                                  refine g_iload_n (q := 181) dX7_readHouse_180 rfl rfl ?_
                                  refine g_if_le (t := 192) (q := 184) dX7_readHouse_181 (by decide) rfl (fun c_181 => ?_) (fun c_181 => ?_)
                                  · refine g_aload_n (q := 193) dX7_readHouse_192 rfl rfl ?_
                                    refine g_bipush (q := 195) dX7_readHouse_193 cb_100 rfl ?_
                                    refine g_callVi (q := 198) (c_X7_isLetter hE rfl) lk_RX7_105 (by decide) (by decide) rfl (by decide) rfl rfl rfl rfl rfl rfl (Nat.le_of_ble_eq_true rfl) (Nat.le_of_ble_eq_true rfl) (Nat.le_of_ble_eq_true rfl) dX7_readHouse_195 rfl ?_
                                    refine g_if_eq (t := 208) (q := 201) dX7_readHouse_198 (by decide) rfl (fun c_198 => ?_) (fun c_198 => ?_)
                                    · rw [bI_0] at c_198
                                      refine g_aload_n (q := 209) dX7_readHouse_208 rfl rfl ?_
                                      refine g_iconst (q := 210) dX7_readHouse_209 ci_1 rfl ?_
                                      refine g_callVi (q := 213) (c_X7_faults hE rfl) lk_RX7_108 (by decide) (by decide) rfl (by decide) rfl rfl rfl rfl rfl rfl (Nat.le_of_ble_eq_true rfl) (Nat.le_of_ble_eq_true rfl) (Nat.le_of_ble_eq_true rfl) dX7_readHouse_210 rfl ?_
                                      refine g_istore_n (j := 1) (q := 214) dX7_readHouse_213 rfl (by decide) rfl rfl ?_
                                      refine g_goto (t := 101) dX7_readHouse_214 (by decide) ?_
                                      have hk : pk (σ 46) L s.1 = 0 := by simp only [pk, c_119, c_132, c_145, c_158, c_171, bI_t, bI_f, if_true, if_false, Bool.true_eq_false, Bool.false_eq_true, reduceIte, and_true, true_and, and_self, false_and, and_false, or_true, true_or, or_self, false_or, or_false]
                                      have hi : p_item (σ 46) L s = (false, (s.1, s.2.1, 1)) := by unfold p_item; rw [if_pos hk, if_pos c_198]
                                      rw [hi, if_pos rfl] at hr
                                      exact g_eqw (fls RES _ hr.symm) (by simp [lsub, bI]) rfl rfl
                                    · rw [bI_n0] at c_198
                                      refine g_aload_n (q := 202) dX7_readHouse_201 rfl rfl ?_
                                      refine g_callVi (q := 205) (c_X7_readDoor hE rfl hL hinv.1 h120 hinv.2.1) lk_RX7_124 (by decide) (by decide) rfl (by decide) rfl rfl rfl rfl rfl rfl (Nat.le_of_ble_eq_true rfl) (Nat.le_of_ble_eq_true rfl) (Nat.le_of_ble_eq_true rfl) dX7_readHouse_202 rfl ?_
                                      refine g_goto (t := 213) dX7_readHouse_205 (by decide) ?_
                                      refine g_istore_n (j := 1) (q := 214) dX7_readHouse_213 rfl (by decide) rfl rfl ?_
                                      refine g_goto (t := 101) dX7_readHouse_214 (by decide) ?_
                                      have hk : pk (σ 46) L s.1 = 0 := by simp only [pk, c_119, c_132, c_145, c_158, c_171, bI_t, bI_f, if_true, if_false, Bool.true_eq_false, Bool.false_eq_true, reduceIte, and_true, true_and, and_self, false_and, and_false, or_true, true_or, or_self, false_or, or_false]
                                      have hi : p_item (σ 46) L s = (p_door (σ 46) L s) := by unfold p_item; rw [if_pos hk, if_neg (by rw [c_198]; decide)]
                                      rw [hi] at hr
                                      by_cases hq : (p_door (σ 46) L s).1 = false
                                      · rw [if_pos hq] at hr
                                        exact g_eqw (fls RES _ hr.symm) (by simp [lsub, hq, bI]) rfl rfl
                                      · rw [if_neg hq] at hr
                                        have hv := item_inv (T := (σ 46)) hinv (by rw [hi]; exact hq)
                                        rw [hi] at hv
                                        exact g_eqw (ih (p_door (σ 46) L s).2 (by have z1 := hv.2; have z2 := hv.1.1; omega) hv.1 hr) (by simp [lsub, hq, bI]) rfl rfl
                                  · exact absurd (Int32.le_refl _) c_181
                                · rw [bI_n0] at c_171
                                  refine g_iconst (q := 175) dX7_readHouse_174 ci_5 rfl ?_
                                  refine g_goto (t := 179) dX7_readHouse_175 (by decide) ?_
                                  refine g_istore_n (j := 2) (q := 180) dX7_readHouse_179 rfl (by decide) rfl rfl ?_
                                  refine g_iload_n (q := 181) dX7_readHouse_180 rfl rfl ?_
                                  refine g_if_le (t := 192) (q := 184) dX7_readHouse_181 (by decide) rfl (fun c_181 => ?_) (fun c_181 => ?_)
                                  · exact absurd c_181 (by decide)
                                  · refine g_aload_n (q := 185) dX7_readHouse_184 rfl rfl ?_
                                    refine g_iload_n (q := 186) dX7_readHouse_185 rfl rfl ?_
                                    refine g_callVi (q := 189) (c_X7_readSitter hE rfl hL hinv.1 h120 hinv.2.2) lk_RX7_121 (by decide) (by decide) rfl (by decide) rfl rfl rfl rfl rfl rfl (Nat.le_of_ble_eq_true rfl) (Nat.le_of_ble_eq_true rfl) (Nat.le_of_ble_eq_true rfl) dX7_readHouse_186 rfl ?_
                                    refine g_goto (t := 213) dX7_readHouse_189 (by decide) ?_
                                    refine g_istore_n (j := 1) (q := 214) dX7_readHouse_213 rfl (by decide) rfl rfl ?_
                                    refine g_goto (t := 101) dX7_readHouse_214 (by decide) ?_
                                    have hk : pk (σ 46) L s.1 = 5 := by simp only [pk, c_119, c_132, c_145, c_158, c_171, bI_t, bI_f, if_true, if_false, Bool.true_eq_false, Bool.false_eq_true, reduceIte, and_true, true_and, and_self, false_and, and_false, or_true, true_or, or_self, false_or, or_false]
                                    have hi : p_item (σ 46) L s = (p_sit (σ 46) L 5 s) := by unfold p_item; rw [hk, if_neg (by decide)]
                                    rw [hi] at hr
                                    by_cases hq : (p_sit (σ 46) L 5 s).1 = false
                                    · rw [if_pos hq] at hr
                                      exact g_eqw (fls RES _ hr.symm) (by simp [lsub, hq, bI]) rfl rfl
                                    · rw [if_neg hq] at hr
                                      have hv := item_inv (T := (σ 46)) hinv (by rw [hi]; exact hq)
                                      rw [hi] at hv
                                      exact g_eqw (ih (p_sit (σ 46) L 5 s).2 (by have z1 := hv.2; have z2 := hv.1.1; omega) hv.1 hr) (by simp [lsub, hq, bI]) rfl rfl
                              · rw [bI_n0] at c_158
                                refine g_iconst (q := 162) dX7_readHouse_161 ci_4 rfl ?_
                                refine g_goto (t := 179) dX7_readHouse_162 (by decide) ?_
                                refine g_istore_n (j := 2) (q := 180) dX7_readHouse_179 rfl (by decide) rfl rfl ?_
                                refine g_iload_n (q := 181) dX7_readHouse_180 rfl rfl ?_
                                refine g_if_le (t := 192) (q := 184) dX7_readHouse_181 (by decide) rfl (fun c_181 => ?_) (fun c_181 => ?_)
                                · exact absurd c_181 (by decide)
                                · refine g_aload_n (q := 185) dX7_readHouse_184 rfl rfl ?_
                                  refine g_iload_n (q := 186) dX7_readHouse_185 rfl rfl ?_
                                  refine g_callVi (q := 189) (c_X7_readSitter hE rfl hL hinv.1 h120 hinv.2.2) lk_RX7_121 (by decide) (by decide) rfl (by decide) rfl rfl rfl rfl rfl rfl (Nat.le_of_ble_eq_true rfl) (Nat.le_of_ble_eq_true rfl) (Nat.le_of_ble_eq_true rfl) dX7_readHouse_186 rfl ?_
                                  refine g_goto (t := 213) dX7_readHouse_189 (by decide) ?_
                                  refine g_istore_n (j := 1) (q := 214) dX7_readHouse_213 rfl (by decide) rfl rfl ?_
                                  refine g_goto (t := 101) dX7_readHouse_214 (by decide) ?_
                                  have hk : pk (σ 46) L s.1 = 4 := by simp only [pk, c_119, c_132, c_145, c_158, bI_t, bI_f, if_true, if_false, Bool.true_eq_false, Bool.false_eq_true, reduceIte, and_true, true_and, and_self, false_and, and_false, or_true, true_or, or_self, false_or, or_false]
                                  have hi : p_item (σ 46) L s = (p_sit (σ 46) L 4 s) := by unfold p_item; rw [hk, if_neg (by decide)]
                                  rw [hi] at hr
                                  by_cases hq : (p_sit (σ 46) L 4 s).1 = false
                                  · rw [if_pos hq] at hr
                                    exact g_eqw (fls RES _ hr.symm) (by simp [lsub, hq, bI]) rfl rfl
                                  · rw [if_neg hq] at hr
                                    have hv := item_inv (T := (σ 46)) hinv (by rw [hi]; exact hq)
                                    rw [hi] at hv
                                    exact g_eqw (ih (p_sit (σ 46) L 4 s).2 (by have z1 := hv.2; have z2 := hv.1.1; omega) hv.1 hr) (by simp [lsub, hq, bI]) rfl rfl
                            · rw [bI_n0] at c_145
                              refine g_iconst (q := 149) dX7_readHouse_148 ci_3 rfl ?_
                              refine g_goto (t := 179) dX7_readHouse_149 (by decide) ?_
                              refine g_istore_n (j := 2) (q := 180) dX7_readHouse_179 rfl (by decide) rfl rfl ?_
                              refine g_iload_n (q := 181) dX7_readHouse_180 rfl rfl ?_
                              refine g_if_le (t := 192) (q := 184) dX7_readHouse_181 (by decide) rfl (fun c_181 => ?_) (fun c_181 => ?_)
                              · exact absurd c_181 (by decide)
                              · refine g_aload_n (q := 185) dX7_readHouse_184 rfl rfl ?_
                                refine g_iload_n (q := 186) dX7_readHouse_185 rfl rfl ?_
                                refine g_callVi (q := 189) (c_X7_readSitter hE rfl hL hinv.1 h120 hinv.2.2) lk_RX7_121 (by decide) (by decide) rfl (by decide) rfl rfl rfl rfl rfl rfl (Nat.le_of_ble_eq_true rfl) (Nat.le_of_ble_eq_true rfl) (Nat.le_of_ble_eq_true rfl) dX7_readHouse_186 rfl ?_
                                refine g_goto (t := 213) dX7_readHouse_189 (by decide) ?_
                                refine g_istore_n (j := 1) (q := 214) dX7_readHouse_213 rfl (by decide) rfl rfl ?_
                                refine g_goto (t := 101) dX7_readHouse_214 (by decide) ?_
                                have hk : pk (σ 46) L s.1 = 3 := by simp only [pk, c_119, c_132, c_145, bI_t, bI_f, if_true, if_false, Bool.true_eq_false, Bool.false_eq_true, reduceIte, and_true, true_and, and_self, false_and, and_false, or_true, true_or, or_self, false_or, or_false]
                                have hi : p_item (σ 46) L s = (p_sit (σ 46) L 3 s) := by unfold p_item; rw [hk, if_neg (by decide)]
                                rw [hi] at hr
                                by_cases hq : (p_sit (σ 46) L 3 s).1 = false
                                · rw [if_pos hq] at hr
                                  exact g_eqw (fls RES _ hr.symm) (by simp [lsub, hq, bI]) rfl rfl
                                · rw [if_neg hq] at hr
                                  have hv := item_inv (T := (σ 46)) hinv (by rw [hi]; exact hq)
                                  rw [hi] at hv
                                  exact g_eqw (ih (p_sit (σ 46) L 3 s).2 (by have z1 := hv.2; have z2 := hv.1.1; omega) hv.1 hr) (by simp [lsub, hq, bI]) rfl rfl
                          · rw [bI_n0] at c_132
                            refine g_iconst (q := 136) dX7_readHouse_135 ci_2 rfl ?_
                            refine g_goto (t := 179) dX7_readHouse_136 (by decide) ?_
                            refine g_istore_n (j := 2) (q := 180) dX7_readHouse_179 rfl (by decide) rfl rfl ?_
                            refine g_iload_n (q := 181) dX7_readHouse_180 rfl rfl ?_
                            refine g_if_le (t := 192) (q := 184) dX7_readHouse_181 (by decide) rfl (fun c_181 => ?_) (fun c_181 => ?_)
                            · exact absurd c_181 (by decide)
                            · refine g_aload_n (q := 185) dX7_readHouse_184 rfl rfl ?_
                              refine g_iload_n (q := 186) dX7_readHouse_185 rfl rfl ?_
                              refine g_callVi (q := 189) (c_X7_readSitter hE rfl hL hinv.1 h120 hinv.2.2) lk_RX7_121 (by decide) (by decide) rfl (by decide) rfl rfl rfl rfl rfl rfl (Nat.le_of_ble_eq_true rfl) (Nat.le_of_ble_eq_true rfl) (Nat.le_of_ble_eq_true rfl) dX7_readHouse_186 rfl ?_
                              refine g_goto (t := 213) dX7_readHouse_189 (by decide) ?_
                              refine g_istore_n (j := 1) (q := 214) dX7_readHouse_213 rfl (by decide) rfl rfl ?_
                              refine g_goto (t := 101) dX7_readHouse_214 (by decide) ?_
                              have hk : pk (σ 46) L s.1 = 2 := by simp only [pk, c_119, c_132, bI_t, bI_f, if_true, if_false, Bool.true_eq_false, Bool.false_eq_true, reduceIte, and_true, true_and, and_self, false_and, and_false, or_true, true_or, or_self, false_or, or_false]
                              have hi : p_item (σ 46) L s = (p_sit (σ 46) L 2 s) := by unfold p_item; rw [hk, if_neg (by decide)]
                              rw [hi] at hr
                              by_cases hq : (p_sit (σ 46) L 2 s).1 = false
                              · rw [if_pos hq] at hr
                                exact g_eqw (fls RES _ hr.symm) (by simp [lsub, hq, bI]) rfl rfl
                              · rw [if_neg hq] at hr
                                have hv := item_inv (T := (σ 46)) hinv (by rw [hi]; exact hq)
                                rw [hi] at hv
                                exact g_eqw (ih (p_sit (σ 46) L 2 s).2 (by have z1 := hv.2; have z2 := hv.1.1; omega) hv.1 hr) (by simp [lsub, hq, bI]) rfl rfl
                        · rw [bI_n0] at c_119
                          refine g_iconst (q := 123) dX7_readHouse_122 ci_1 rfl ?_
                          refine g_goto (t := 179) dX7_readHouse_123 (by decide) ?_
                          refine g_istore_n (j := 2) (q := 180) dX7_readHouse_179 rfl (by decide) rfl rfl ?_
                          refine g_iload_n (q := 181) dX7_readHouse_180 rfl rfl ?_
                          refine g_if_le (t := 192) (q := 184) dX7_readHouse_181 (by decide) rfl (fun c_181 => ?_) (fun c_181 => ?_)
                          · exact absurd c_181 (by decide)
                          · refine g_aload_n (q := 185) dX7_readHouse_184 rfl rfl ?_
                            refine g_iload_n (q := 186) dX7_readHouse_185 rfl rfl ?_
                            refine g_callVi (q := 189) (c_X7_readSitter hE rfl hL hinv.1 h120 hinv.2.2) lk_RX7_121 (by decide) (by decide) rfl (by decide) rfl rfl rfl rfl rfl rfl (Nat.le_of_ble_eq_true rfl) (Nat.le_of_ble_eq_true rfl) (Nat.le_of_ble_eq_true rfl) dX7_readHouse_186 rfl ?_
                            refine g_goto (t := 213) dX7_readHouse_189 (by decide) ?_
                            refine g_istore_n (j := 1) (q := 214) dX7_readHouse_213 rfl (by decide) rfl rfl ?_
                            refine g_goto (t := 101) dX7_readHouse_214 (by decide) ?_
                            have hk : pk (σ 46) L s.1 = 1 := by simp only [pk, c_119, bI_t, bI_f, if_true, if_false, Bool.true_eq_false, Bool.false_eq_true, reduceIte, and_true, true_and, and_self, false_and, and_false, or_true, true_or, or_self, false_or, or_false]
                            have hi : p_item (σ 46) L s = (p_sit (σ 46) L 1 s) := by unfold p_item; rw [hk, if_neg (by decide)]
                            rw [hi] at hr
                            by_cases hq : (p_sit (σ 46) L 1 s).1 = false
                            · rw [if_pos hq] at hr
                              exact g_eqw (fls RES _ hr.symm) (by simp [lsub, hq, bI]) rfl rfl
                            · rw [if_neg hq] at hr
                              have hv := item_inv (T := (σ 46)) hinv (by rw [hi]; exact hq)
                              rw [hi] at hv
                              exact g_eqw (ih (p_sit (σ 46) L 1 s).2 (by have z1 := hv.2; have z2 := hv.1.1; omega) hv.1 hr) (by simp [lsub, hq, bI]) rfl rfl
                have hph : p_house (σ 46) L ((0, zf (σ 47) 0 52, σ 40 14) : PS) = p_loop (σ 46) L 122 (p_num (σ 46) L 0 99 3 59 (p_num (σ 46) L 0 40 2 44 (p_num (σ 46) L 0 ((p_num (σ 46) L 1 6 0 44 (p_takes (σ 46) L 110 ((0, zf (σ 47) 0 52, σ 40 14) : PS)).2).2.2.1 0 - 1) 1 44 (p_num (σ 46) L 1 6 0 44 (p_takes (σ 46) L 110 ((0, zf (σ 47) 0 52, σ 40 14) : PS)).2).2).2).2).2 := by simp only [p_house, p_head, c_36, c_49, c_68, c_81, c_94, bI_t, bI_f, if_true, if_false, Bool.true_eq_false, Bool.false_eq_true, reduceIte, and_true, true_and, and_self, false_and, and_false, or_true, true_or, or_self, false_or, or_false]
                have hpe : p_head (σ 46) L ((0, zf (σ 47) 0 52, σ 40 14) : PS) = (p_num (σ 46) L 0 99 3 59 (p_num (σ 46) L 0 40 2 44 (p_num (σ 46) L 0 ((p_num (σ 46) L 1 6 0 44 (p_takes (σ 46) L 110 ((0, zf (σ 47) 0 52, σ 40 14) : PS)).2).2.2.1 0 - 1) 1 44 (p_num (σ 46) L 1 6 0 44 (p_takes (σ 46) L 110 ((0, zf (σ 47) 0 52, σ 40 14) : PS)).2).2).2).2) := by simp only [p_head, c_36, c_49, c_68, c_81, bI_t, bI_f, if_true, if_false, Bool.true_eq_false, Bool.false_eq_true, reduceIte, and_true, true_and, and_self, false_and, and_false, or_true, true_or, or_self, false_or, or_false]
                have hiv : invR L (p_num (σ 46) L 0 99 3 59 (p_num (σ 46) L 0 40 2 44 (p_num (σ 46) L 0 ((p_num (σ 46) L 1 6 0 44 (p_takes (σ 46) L 110 ((0, zf (σ 47) 0 52, σ 40 14) : PS)).2).2.2.1 0 - 1) 1 44 (p_num (σ 46) L 1 6 0 44 (p_takes (σ 46) L 110 ((0, zf (σ 47) 0 52, σ 40 14) : PS)).2).2).2).2).2 := by rw [← hpe]; exact head_inv ⟨Nat.zero_le _, (by exact vp_in_nI (n := 0) (by decide) (by decide)), (by exact vp_in_nI (n := 0) (by decide) (by decide))⟩
                exact g_eqw (key (p_house (σ 46) L ((0, zf (σ 47) 0 52, σ 40 14) : PS)) 122 (p_num (σ 46) L 0 99 3 59 (p_num (σ 46) L 0 40 2 44 (p_num (σ 46) L 0 ((p_num (σ 46) L 1 6 0 44 (p_takes (σ 46) L 110 ((0, zf (σ 47) 0 52, σ 40 14) : PS)).2).2.2.1 0 - 1) 1 44 (p_num (σ 46) L 1 6 0 44 (p_takes (σ 46) L 110 ((0, zf (σ 47) 0 52, σ 40 14) : PS)).2).2).2).2).2 (by have := hiv.1; omega) hiv hph.symm) (by simp [lsub]) rfl rfl
              · rw [bI_0] at c_94
                refine g_iconst (q := 98) dX7_readHouse_97 ci_0 rfl ?_
                exact g_zret dX7_readHouse_98 (by first | decide | exact bI_nar _) (pi_i (by simp only [p_house, p_head, c_36, c_49, c_68, c_81, c_94, bI_t, bI_f, if_true, if_false, Bool.true_eq_false, Bool.false_eq_true, reduceIte, and_true, true_and, and_self, false_and, and_false, or_true, true_or, or_self, false_or, or_false]) (by simp only [p_house, p_head, c_36, c_49, c_68, c_81, c_94, bI_t, bI_f, if_true, if_false, Bool.true_eq_false, Bool.false_eq_true, reduceIte, and_true, true_and, and_self, false_and, and_false, or_true, true_or, or_self, false_or, or_false]) rfl)
    · exact absurd (lp_out (by rfl)) c_10
theorem ho_eqv {s : Sto} {f g : Nat → Int32} : eqv (upc s 44 (cpF f g 0 52)) (upc s 44 f) := by
  intro k j hj
  by_cases h : k = 44
  · subst h
    have : j < 52 := hj
    rw [upc_same, upc_same]
    unfold cpF
    rw [if_pos this, Nat.zero_add]
  · rw [upc_ne h, upc_ne h]
theorem ho_e2 (s : Sto) (f : Nat → Int32) : upc (upc (upc (upc s 40 (upd (s 40) 8 0)) 44 f) 40 (upd (upc (upc s 40 (upd (s 40) 8 0)) 44 f 40) 4 1)) 40 (upd (upc (upc (upc s 40 (upd (s 40) 8 0)) 44 f) 40 (upd (upc (upc s 40 (upd (s 40) 8 0)) 44 f 40) 4 1) 40) 17 0) = upc (upc s 44 f) 40 (upd (upd (upd (s 40) 8 0) 4 1) 17 0) := by
  rw [upc_upc, upc_same, upc_ne (show (40 : Nat) ≠ 44 by decide), upc_same]
  funext k
  by_cases h : k = 40
  · subst h; rw [upc_same, upc_same]
  · rw [upc_ne h, upc_ne h]
    by_cases h2 : k = 44
    · subst h2; rw [upc_same, upc_same]
    · rw [upc_ne h2, upc_ne h2, upc_ne h]
theorem ho_e1 (s : Sto) (w : Int32) : upc (upc s 40 (upd (s 40) 8 0)) 40 (upd (upc s 40 (upd (s 40) 8 0) 40) 9 w) = upc s 40 (upd (upd (s 40) 8 0) 9 w) := by rw [upc_upc, upc_same]
set_option maxRecDepth 20000 in
set_option maxHeartbeats 4000000 in
theorem c_X7_house {E : EE} (hE : inj E 40 13) {σ : Sto} {τ : Stl} {L : Nat} (hL : σ 40 8 = nI L) (h120 : L ≤ 120) : Ct E 40 13 yX7_house cX7_house 3 (some FieldType.int) { frames := 6, cells := 0, slots := 0, locals := 134 } [.ref (E.2.1 40)] σ τ (Pi ((q_house σ L).1) ((q_house σ L).2) (τ)) := by
  refine ct_of hE RX7 [some (.ref (E.2.1 40)), none, none] (by decide) rfl (Nat.le_of_ble_eq_true rfl) rfl (fun X => ?_)
  refine g_aload_n (q := 1) dX7_house_0 rfl rfl ?_
  refine g_callVi (q := 4) (c_X7_readHouse hE hL h120) lk_RX7_128 (by decide) (by decide) rfl (by decide) rfl rfl rfl rfl rfl rfl (Nat.le_of_ble_eq_true rfl) (Nat.le_of_ble_eq_true rfl) (Nat.le_of_ble_eq_true rfl) dX7_house_1 rfl ?_
  refine g_istore_n (j := 1) (q := 5) dX7_house_4 rfl (by decide) rfl rfl ?_
  refine g_aload_n (q := 6) dX7_house_5 rfl rfl ?_
  refine g_iconst (q := 7) dX7_house_6 ci_0 rfl ?_
  refine p7_8 (q := 10) wd_856 dX7_house_7 rfl ?_
  refine g_iload_n (q := 11) dX7_house_10 rfl rfl ?_
  refine g_if_ne (t := 30) (q := 14) dX7_house_11 (by decide) rfl (fun c_11 => ?_) (fun c_11 => ?_)
  · rw [bI_n0] at c_11
    refine g_iconst (q := 31) dX7_house_30 ci_0 rfl ?_
    refine g_istore_n (j := 2) (q := 32) dX7_house_31 rfl (by decide) rfl rfl ?_
    refine g_for (I := fun i => [some (.ref (E.2.1 40)), some (.int (bI (p_house (σ 46) L ((0, zf (σ 47) 0 52, σ 40 14) : PS)).1)), some (.int (nI i))]) (S := fun i => upc (upc (mkR σ L (p_house (σ 46) L ((0, zf (σ 47) 0 52, σ 40 14) : PS)).2) 40 (upd (mkR σ L (p_house (σ 46) L ((0, zf (σ 47) 0 52, σ 40 14) : PS)).2 40) 8 0)) 44 (cpF (p_house (σ 46) L ((0, zf (σ 47) 0 52, σ 40 14) : PS)).2.2.1 (σ 44) 0 i)) (T := fun i => τ) (0) (52) (Nat.zero_le _) (by rfl) (by rw [cpF_0]; exact (upc_idx () rfl).symm) (by rfl) (fun i i0 i1 kk_i => ?_) ?_
    · have hci : (nI i).toNatClampNeg = i := nI_clamp (by omega)
      refine g_iload_n (q := 33) dX7_house_32 rfl rfl ?_
      refine g_bipush (q := 35) dX7_house_33 cb_52 rfl ?_
      refine g_icmp_ge (t := 56) (q := 38) dX7_house_35 (by decide) rfl (fun c_35 => ?_) (fun c_35 => ?_)
      · exact absurd c_35 (lp_in (by rfl) (by omega) i1)
      · refine g_aload_n (q := 39) dX7_house_38 rfl rfl ?_
        refine f7_5 (q := 42) wd_853 dX7_house_39 rfl ?_
        refine g_iload_n (q := 43) dX7_house_42 rfl rfl ?_
        refine g_aload_n (q := 44) dX7_house_43 rfl rfl ?_
        refine f7_15 (q := 47) wd_863 dX7_house_44 rfl ?_
        refine g_iload_n (q := 48) dX7_house_47 rfl rfl ?_
        refine g_ialdJ (q := 49) (k := 47) (j := i) (N := 52) (by decide) (by decide) rfl rfl (by decide) rfl (by omega) dX7_house_48 rfl ?_
        refine g_iastJ (q := 50) (k := 44) (j := i) (N := 52) (by decide) (by decide) rfl rfl (by decide) rfl (by omega) dX7_house_49 rfl ?_
        refine g_iinc (q := 53) dX7_house_50 rfl ci_1 (by decide) rfl rfl ?_
        refine g_goto (t := 32) dX7_house_53 (by decide) ?_
        exact g_eqw kk_i (by simp [lsub, nI_succ]) (by rw [upc_upc, upc_same]; congr 1; have := cpF_s (p_house (σ 46) L ((0, zf (σ 47) 0 52, σ 40 14) : PS)).2.2.1 (σ 44) 0 i; rw [Nat.zero_add] at this; exact this) rfl
    · refine g_iload_n (q := 33) dX7_house_32 rfl rfl ?_
      refine g_bipush (q := 35) dX7_house_33 cb_52 rfl ?_
      refine g_icmp_ge (t := 56) (q := 38) dX7_house_35 (by decide) rfl (fun c_35 => ?_) (fun c_35 => ?_)
      · refine g_eqv (σ' := upc (upc (mkR σ L (p_house (σ 46) L ((0, zf (σ 47) 0 52, σ 40 14) : PS)).2) 40 (upd (mkR σ L (p_house (σ 46) L ((0, zf (σ 47) 0 52, σ 40 14) : PS)).2 40) 8 0)) 44 (p_house (σ 46) L ((0, zf (σ 47) 0 52, σ 40 14) : PS)).2.2.1) ?_ ?_
        · exact ho_eqv
        refine g_aload_n (q := 57) dX7_house_56 rfl rfl ?_
        refine g_iconst (q := 58) dX7_house_57 ci_1 rfl ?_
        refine p7_4 (q := 61) (by decide) (by decide) wd_852 dX7_house_58 rfl ?_
        refine g_aload_n (q := 62) dX7_house_61 rfl rfl ?_
        refine g_iconst (q := 63) dX7_house_62 ci_0 rfl ?_
        refine p7_17 (q := 66) wd_865 dX7_house_63 rfl ?_
        refine g_aload_n (q := 67) dX7_house_66 rfl rfl ?_
        refine f7_5 (q := 70) wd_853 dX7_house_67 rfl ?_
        refine g_iconst (q := 71) dX7_house_70 ci_5 rfl ?_
        refine g_ialdJ (q := 72) (k := 44) (j := 5) (N := 52) (by decide) (by decide) rfl rfl (by decide) (show (5 : Int32) = nI 5 from rfl) (by omega) dX7_house_71 rfl ?_
        exact g_iret dX7_house_72 (pi_i (by simp only [q_house, c_11, bI_t, bI_f, if_true, if_false, Bool.true_eq_false, Bool.false_eq_true, reduceIte, and_true, true_and, and_self, false_and, and_false, or_true, true_or, or_self, false_or, or_false, upc_same, upc_ne (show (44 : Nat) ≠ 40 by decide)]) (by simp only [q_house, c_11, bI_t, bI_f, if_true, if_false, Bool.true_eq_false, Bool.false_eq_true, reduceIte, and_true, true_and, and_self, false_and, and_false, or_true, true_or, or_self, false_or, or_false]; exact ho_e2 _ _) rfl)
      · exact absurd (lp_out (by rfl)) c_35
  · rw [bI_0] at c_11
    refine g_aload_n (q := 15) dX7_house_14 rfl rfl ?_
    refine g_aload_n (q := 16) dX7_house_15 rfl rfl ?_
    refine f7_14 (q := 19) wd_862 dX7_house_16 rfl ?_
    refine g_st (stk' := [.int (p_house (σ 46) L ((0, zf (σ 47) 0 52, σ 40 14) : PS)).2.2.2, .ref (E.2.1 40)]) (by rw [upc_same, upd_ne (by decide), mr14]) ?_
    refine p7_9 (q := 22) wd_857 dX7_house_19 rfl ?_
    refine g_ldc (q := 24) dX7_house_22 wd_1002 rfl ?_
    refine g_aload_n (q := 25) dX7_house_24 rfl rfl ?_
    refine f7_13 (q := 28) wd_861 dX7_house_25 rfl ?_
    refine g_st (stk' := [.int (nI (p_house (σ 46) L ((0, zf (σ 47) 0 52, σ 40 14) : PS)).2.1), .int (-1000100)]) (by rw [upc_same, upd_ne (by decide), upc_same, upd_ne (by decide), mr13]) ?_
    refine g_isub (q := 29) dX7_house_28 rfl ?_
    exact g_iret dX7_house_29 (pi_i (by simp only [q_house, c_11, bI_t, bI_f, if_true, if_false, Bool.true_eq_false, Bool.false_eq_true, reduceIte, and_true, true_and, and_self, false_and, and_false, or_true, true_or, or_self, false_or, or_false]) (by simp only [q_house, c_11, bI_t, bI_f, if_true, if_false, Bool.true_eq_false, Bool.false_eq_true, reduceIte, and_true, true_and, and_self, false_and, and_false, or_true, true_or, or_self, false_or, or_false]; exact ho_e1 _ _) rfl)
