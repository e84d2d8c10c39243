theorem s_doors_z (σ : Sto) : s_doors σ 0 = if nxS σ = 100 then (false, failS σ 3) else (true, σ) := rfl
theorem s_doors_s (σ : Sto) (m : Nat) : s_doors σ (m + 1) = if nxS σ = 100 then (if (s_door σ).1 = false then (false, (s_door σ).2) else s_doors (s_door σ).2 m) else (true, σ) := rfl
theorem s_sitters_z (σ : Sto) : s_sitters σ 0 = if nxS σ = -1 then (true, σ) else (false, failS σ (if s_kl (nxS σ) = 0 then 1 else 3)) := rfl
theorem s_sitters_s (σ : Sto) (m : Nat) : s_sitters σ (m + 1) = if nxS σ = -1 then (true, σ) else if (s_sitter σ).1 = false then (false, (s_sitter σ).2) else s_sitters (s_sitter σ).2 m := rfl
set_option maxRecDepth 20000 in
set_option maxHeartbeats 4000000 in
theorem c_X5_readDoors {E : EE} (hE : inj E 0 40) {σ : Sto} {τ : Stl}  (h : TOK σ) (h0 : σ 17 5 = nI 0) : Ct E 0 40 yX5_readDoors cX5_readDoors 3 (some FieldType.boolean) { frames := 3, cells := 0, slots := 0, locals := 71 } [.ref (E.2.1 5), .ref (E.2.1 17)] σ τ (Pi (bI (s_doors σ 8).1) ((s_doors σ 8).2) (τ)) := by
  refine ct_of hE RX5 [some (.ref (E.2.1 5)), some (.ref (E.2.1 17)), none] (by decide) rfl (Nat.le_of_ble_eq_true rfl) rfl (fun X => ?_)
  refine g_iconst (q := 1) dX5_readDoors_0 ci_0 rfl ?_
  refine g_istore_n (j := 2) (q := 2) dX5_readDoors_1 rfl (by decide) rfl rfl ?_
  refine g_loop (I := fun i => [some (.ref (E.2.1 5)), some (.ref (E.2.1 17)), some (.int (nI i))]) (J := fun i σ' τ' => TOK σ' ∧ σ' 17 5 = nI i ∧ s_doors σ' (8 - i) = s_doors σ 8 ∧ τ' = τ) (0) (8) (Nat.zero_le _) (by simp [lsub, nI_0]) (⟨h, h0, rfl, rfl⟩) (fun i σi τi i0 i1 hJ_i kk_i => ?_) (fun σi τi hJ_i => ?_)
  · have hci : (nI i).toNatClampNeg = i := nI_clamp (by omega)
    obtain ⟨hT, h5, hR, rfl⟩ := hJ_i
    obtain ⟨m, hm⟩ : ∃ m, 8 - i = m + 1 := ⟨8 - i - 1, by omega⟩
    rw [hm, s_doors_s] at hR
    refine g_iload_n (q := 3) dX5_readDoors_2 rfl rfl ?_
    refine g_bipush (q := 5) dX5_readDoors_3 cb_8 rfl ?_
    refine g_icmp_ge (t := 35) (q := 8) dX5_readDoors_5 (by decide) rfl (fun c_5 => ?_) (fun c_5 => ?_)
    · exact absurd c_5 (lp_in (by rfl) (by omega) i1)
    · refine g_aload_n (q := 9) dX5_readDoors_8 rfl rfl ?_
      refine g_callVi (q := 12) (c_X5_next hE (by exact hT)) lk_RX5_47 (by decide) (by decide) rfl (by decide) rfl rfl rfl rfl rfl rfl (Nat.le_of_ble_eq_true rfl) (Nat.le_of_ble_eq_true rfl) (Nat.le_of_ble_eq_true rfl) dX5_readDoors_9 rfl ?_
      refine g_bipush (q := 14) dX5_readDoors_12 cb_100 rfl ?_
      refine g_icmp_eq (t := 19) (q := 17) dX5_readDoors_14 (by decide) rfl (fun c_14 => ?_) (fun c_14 => ?_)
      · rw [if_pos c_14] at hR
        refine g_aload_n (q := 20) dX5_readDoors_19 rfl rfl ?_
        refine g_aload_n (q := 21) dX5_readDoors_20 rfl rfl ?_
        refine g_callVi (q := 24) (c_X5_readDoor hE hT (nx_lt hT c_14 (by decide)) (by rw [h5]; exact vp_in_nI (by omega) (by decide))) lk_RX5_51 (by decide) (by decide) rfl (by decide) rfl rfl rfl rfl rfl rfl (Nat.le_of_ble_eq_true rfl) (Nat.le_of_ble_eq_true rfl) (Nat.le_of_ble_eq_true rfl) dX5_readDoors_21 rfl ?_
        refine g_if_ne (t := 29) (q := 27) dX5_readDoors_24 (by decide) rfl (fun c_24 => ?_) (fun c_24 => ?_)
        · rw [bI_n0] at c_24
          have hk := door_ok hT (nx_lt hT c_14 (by decide)) (by rw [c_24]; decide)
          rw [if_neg (by rw [c_24]; decide)] at hR
          refine g_iinc (q := 32) dX5_readDoors_29 rfl ci_1 (by decide) rfl rfl ?_
          refine g_goto (t := 2) dX5_readDoors_32 (by decide) ?_
          exact g_eqw (kk_i _ _ (⟨hk.1, by rw [hk.2.1, h5, nI_1], by rw [show 8 - (i + 1) = m by omega]; exact hR, rfl⟩)) (by simp [lsub, hci, nI_succ, c_14, c_24]) rfl rfl
        · rw [bI_0] at c_24
          rw [if_pos c_24] at hR
          refine g_iconst (q := 28) dX5_readDoors_27 ci_0 rfl ?_
          exact g_zret dX5_readDoors_28 (by first | decide | exact bI_nar _) (pi_i (by rw [← hR]; rfl) (by rw [← hR]) rfl)
      · rw [if_neg c_14] at hR
        refine g_iconst (q := 18) dX5_readDoors_17 ci_1 rfl ?_
        exact g_zret dX5_readDoors_18 (by first | decide | exact bI_nar _) (pi_i (by rw [← hR]; rfl) (by rw [← hR]) rfl)
  · obtain ⟨hT, h5, hR, rfl⟩ := hJ_i
    rw [Nat.sub_self, s_doors_z] at hR
    refine g_iload_n (q := 3) dX5_readDoors_2 rfl rfl ?_
    refine g_bipush (q := 5) dX5_readDoors_3 cb_8 rfl ?_
    refine g_icmp_ge (t := 35) (q := 8) dX5_readDoors_5 (by decide) rfl (fun c_5 => ?_) (fun c_5 => ?_)
    · refine g_aload_n (q := 36) dX5_readDoors_35 rfl rfl ?_
      refine g_callVi (q := 39) (c_X5_next hE (by exact hT)) lk_RX5_47 (by decide) (by decide) rfl (by decide) rfl rfl rfl rfl rfl rfl (Nat.le_of_ble_eq_true rfl) (Nat.le_of_ble_eq_true rfl) (Nat.le_of_ble_eq_true rfl) dX5_readDoors_36 rfl ?_
      refine g_bipush (q := 41) dX5_readDoors_39 cb_100 rfl ?_
      refine g_icmp_ne (t := 52) (q := 44) dX5_readDoors_41 (by decide) rfl (fun c_41 => ?_) (fun c_41 => ?_)
      · rw [if_neg c_41] at hR
        refine g_iconst (q := 53) dX5_readDoors_52 ci_1 rfl ?_
        refine g_goto (t := 57) dX5_readDoors_53 (by decide) ?_
        exact g_zret dX5_readDoors_57 (by first | decide | exact bI_nar _) (pi_i (by rw [← hR]; rfl) (by rw [← hR]) rfl)
      · rw [if_pos c_41] at hR
        refine g_aload_n (q := 45) dX5_readDoors_44 rfl rfl ?_
        refine g_iconst (q := 46) dX5_readDoors_45 ci_3 rfl ?_
        refine g_callVi (q := 49) (c_X5_fail hE ) lk_RX5_54 (by decide) (by decide) rfl (by decide) rfl rfl rfl rfl rfl rfl (Nat.le_of_ble_eq_true rfl) (Nat.le_of_ble_eq_true rfl) (Nat.le_of_ble_eq_true rfl) dX5_readDoors_46 rfl ?_
        refine g_if_eq (t := 56) (q := 52) dX5_readDoors_49 (by decide) rfl (fun c_49 => ?_) (fun c_49 => ?_)
        · rw [bI_0] at c_49
          refine g_iconst (q := 57) dX5_readDoors_56 ci_0 rfl ?_
          exact g_zret dX5_readDoors_57 (by first | decide | exact bI_nar _) (pi_i (by rw [← hR]; rfl) (by rw [← hR]) rfl)
        · exact absurd c_49 (by decide)
    · exact absurd (lp_out (by rfl)) c_5
theorem kl_ne {c : Int32} (h : ¬ s_kl c = 0) : ¬ c = -1 := fun e => h (by rw [e]; decide)
theorem sit_nx {σ : Sto} (hs : ¬ (s_sitter σ).1 = false) : ¬ nxS σ = -1 := by
  intro e
  apply hs
  unfold s_sitter
  rw [if_pos (by rw [e]; decide)]
set_option maxRecDepth 20000 in
set_option maxHeartbeats 4000000 in
theorem c_X5_readSitters {E : EE} (hE : inj E 0 40) {σ : Sto} {τ : Stl}  (h : TOK σ) (h0 : σ 17 7 = nI 0) : Ct E 0 40 yX5_readSitters cX5_readSitters 3 (some FieldType.boolean) { frames := 3, cells := 0, slots := 0, locals := 70 } [.ref (E.2.1 5), .ref (E.2.1 17)] σ τ (Pi (bI (s_sitters σ 5).1) ((s_sitters σ 5).2) (τ)) := by
  refine ct_of hE RX5 [some (.ref (E.2.1 5)), some (.ref (E.2.1 17)), none] (by decide) rfl (Nat.le_of_ble_eq_true rfl) rfl (fun X => ?_)
  refine g_iconst (q := 1) dX5_readSitters_0 ci_0 rfl ?_
  refine g_istore_n (j := 2) (q := 2) dX5_readSitters_1 rfl (by decide) rfl rfl ?_
  refine g_loop (I := fun i => [some (.ref (E.2.1 5)), some (.ref (E.2.1 17)), some (.int (nI i))]) (J := fun i σ' τ' => TOK σ' ∧ σ' 17 7 = nI i ∧ s_sitters σ' (5 - i) = s_sitters σ 5 ∧ τ' = τ) (0) (5) (Nat.zero_le _) (by simp [lsub, nI_0]) (⟨h, h0, rfl, rfl⟩) (fun i σi τi i0 i1 hJ_i kk_i => ?_) (fun σi τi hJ_i => ?_)
  · have hci : (nI i).toNatClampNeg = i := nI_clamp (by omega)
    obtain ⟨hT, h7, hR, rfl⟩ := hJ_i
    obtain ⟨m, hm⟩ : ∃ m, 5 - i = m + 1 := ⟨5 - i - 1, by omega⟩
    rw [hm, s_sitters_s] at hR
    refine g_iload_n (q := 3) dX5_readSitters_2 rfl rfl ?_
    refine g_iconst (q := 4) dX5_readSitters_3 ci_5 rfl ?_
    refine g_icmp_ge (t := 33) (q := 7) dX5_readSitters_4 (by decide) rfl (fun c_4 => ?_) (fun c_4 => ?_)
    · exact absurd c_4 (lp_in (by rfl) (by omega) i1)
    · refine g_aload_n (q := 8) dX5_readSitters_7 rfl rfl ?_
      refine g_callVi (q := 11) (c_X5_next hE (by exact hT)) lk_RX5_47 (by decide) (by decide) rfl (by decide) rfl rfl rfl rfl rfl rfl (Nat.le_of_ble_eq_true rfl) (Nat.le_of_ble_eq_true rfl) (Nat.le_of_ble_eq_true rfl) dX5_readSitters_8 rfl ?_
      refine g_iconst (q := 12) dX5_readSitters_11 ci_m1 rfl ?_
      refine g_icmp_ne (t := 17) (q := 15) dX5_readSitters_12 (by decide) rfl (fun c_12 => ?_) (fun c_12 => ?_)
      · rw [if_neg c_12] at hR
        refine g_aload_n (q := 18) dX5_readSitters_17 rfl rfl ?_
        refine g_aload_n (q := 19) dX5_readSitters_18 rfl rfl ?_
        refine g_callVi (q := 22) (c_X5_readSitter hE hT (by rw [h7]; exact vp_in_nI (by omega) (by decide))) lk_RX5_64 (by decide) (by decide) rfl (by decide) rfl rfl rfl rfl rfl rfl (Nat.le_of_ble_eq_true rfl) (Nat.le_of_ble_eq_true rfl) (Nat.le_of_ble_eq_true rfl) dX5_readSitters_19 rfl ?_
        refine g_if_ne (t := 27) (q := 25) dX5_readSitters_22 (by decide) rfl (fun c_22 => ?_) (fun c_22 => ?_)
        · rw [bI_n0] at c_22
          have hq : ¬ (s_sitter σi).1 = false := by rw [c_22]; decide
          have hk := sitter_ok hT (nx_lt hT rfl (sit_nx hq)) hq
          rw [if_neg hq] at hR
          refine g_iinc (q := 30) dX5_readSitters_27 rfl ci_1 (by decide) rfl rfl ?_
          refine g_goto (t := 2) dX5_readSitters_30 (by decide) ?_
          exact g_eqw (kk_i _ _ (⟨hk.1, by rw [hk.2.1, h7, nI_1], by rw [show 5 - (i + 1) = m by omega]; exact hR, rfl⟩)) (by simp [lsub, hci, nI_succ, c_12, c_22]) rfl rfl
        · rw [bI_0] at c_22
          rw [if_pos c_22] at hR
          refine g_iconst (q := 26) dX5_readSitters_25 ci_0 rfl ?_
          exact g_zret dX5_readSitters_26 (by first | decide | exact bI_nar _) (pi_i (by rw [← hR]; rfl) (by rw [← hR]) rfl)
      · rw [if_pos c_12] at hR
        refine g_iconst (q := 16) dX5_readSitters_15 ci_1 rfl ?_
        exact g_zret dX5_readSitters_16 (by first | decide | exact bI_nar _) (pi_i (by rw [← hR]; rfl) (by rw [← hR]) rfl)
  · obtain ⟨hT, h7, hR, rfl⟩ := hJ_i
    rw [Nat.sub_self, s_sitters_z] at hR
    refine g_iload_n (q := 3) dX5_readSitters_2 rfl rfl ?_
    refine g_iconst (q := 4) dX5_readSitters_3 ci_5 rfl ?_
    refine g_icmp_ge (t := 33) (q := 7) dX5_readSitters_4 (by decide) rfl (fun c_4 => ?_) (fun c_4 => ?_)
    · refine g_aload_n (q := 34) dX5_readSitters_33 rfl rfl ?_
      refine g_callVi (q := 37) (c_X5_next hE (by exact hT)) lk_RX5_47 (by decide) (by decide) rfl (by decide) rfl rfl rfl rfl rfl rfl (Nat.le_of_ble_eq_true rfl) (Nat.le_of_ble_eq_true rfl) (Nat.le_of_ble_eq_true rfl) dX5_readSitters_34 rfl ?_
      refine g_iconst (q := 38) dX5_readSitters_37 ci_m1 rfl ?_
      refine g_icmp_ne (t := 43) (q := 41) dX5_readSitters_38 (by decide) rfl (fun c_38 => ?_) (fun c_38 => ?_)
      · rw [if_neg c_38] at hR
        refine g_aload_n (q := 44) dX5_readSitters_43 rfl rfl ?_
        refine g_aload_n (q := 45) dX5_readSitters_44 rfl rfl ?_
        refine g_callVi (q := 48) (c_X5_next hE (by exact hT)) lk_RX5_47 (by decide) (by decide) rfl (by decide) rfl rfl rfl rfl rfl rfl (Nat.le_of_ble_eq_true rfl) (Nat.le_of_ble_eq_true rfl) (Nat.le_of_ble_eq_true rfl) dX5_readSitters_45 rfl ?_
        refine g_callSi (q := 51) (c_X5_kindOfLetter hE ) lk_RX5_67 rfl rfl rfl rfl (Nat.le_of_ble_eq_true rfl) (Nat.le_of_ble_eq_true rfl) (Nat.le_of_ble_eq_true rfl) dX5_readSitters_48 rfl ?_
        refine g_if_ne (t := 58) (q := 54) dX5_readSitters_51 (by decide) rfl (fun c_51 => ?_) (fun c_51 => ?_)
        · rw [if_neg c_51] at hR
          refine g_iconst (q := 59) dX5_readSitters_58 ci_3 rfl ?_
          refine g_callVi (q := 62) (c_X5_fail hE ) lk_RX5_54 (by decide) (by decide) rfl (by decide) rfl rfl rfl rfl rfl rfl (Nat.le_of_ble_eq_true rfl) (Nat.le_of_ble_eq_true rfl) (Nat.le_of_ble_eq_true rfl) dX5_readSitters_59 rfl ?_
          exact g_zret dX5_readSitters_62 (by first | decide | exact bI_nar _) (pi_i (by rw [← hR]) (by rw [← hR]) rfl)
        · rw [if_pos c_51] at hR
          refine g_iconst (q := 55) dX5_readSitters_54 ci_1 rfl ?_
          refine g_goto (t := 59) dX5_readSitters_55 (by decide) ?_
          refine g_callVi (q := 62) (c_X5_fail hE ) lk_RX5_54 (by decide) (by decide) rfl (by decide) rfl rfl rfl rfl rfl rfl (Nat.le_of_ble_eq_true rfl) (Nat.le_of_ble_eq_true rfl) (Nat.le_of_ble_eq_true rfl) dX5_readSitters_59 rfl ?_
          exact g_zret dX5_readSitters_62 (by first | decide | exact bI_nar _) (pi_i (by rw [← hR]) (by rw [← hR]) rfl)
      · rw [if_pos c_38] at hR
        refine g_iconst (q := 42) dX5_readSitters_41 ci_1 rfl ?_
        exact g_zret dX5_readSitters_42 (by first | decide | exact bI_nar _) (pi_i (by rw [← hR]; rfl) (by rw [← hR]) rfl)
    · exact absurd (lp_out (by rfl)) c_4
theorem law_ok {σ : Sto} (h : TOK σ) : ¬ (s_law σ).1 = false → TOK (s_law σ).2 ∧ (s_law σ).2 17 5 = σ 17 5 ∧ (s_law σ).2 17 7 = σ 17 7 := by
  unfold s_law
  dsimp only
  iterate 9 (split; · intro q; exact absurd rfl q)
  intro _
  dsimp only
  refine ⟨?_, ?_, ?_⟩
  · repeat' (first | with_reducible assumption | (with_reducible refine tok_upc ?_ ?_ _) | with_reducible apply tok_num | (with_reducible refine tok_sign ?_ _ ?_) | decide)
  · simp [upc, sign_ne (show (17 : Nat) ≠ 5 by decide), num_ne (show (17 : Nat) ≠ 5 by decide), upd]
  · simp [upc, sign_ne (show (17 : Nat) ≠ 5 by decide), num_ne (show (17 : Nat) ≠ 5 by decide), upd]
theorem doors_ok : ∀ (m : Nat) {σ : Sto}, TOK σ → ¬ (s_doors σ m).1 = false → TOK (s_doors σ m).2 ∧ (s_doors σ m).2 17 7 = σ 17 7 := by
  intro m
  induction m with
  | zero =>
    intro σ h
    simp only [s_doors]
    split
    · intro q; exact absurd rfl q
    · intro _; exact ⟨h, rfl⟩
  | succ m ih =>
    intro σ h
    simp only [s_doors]
    split
    · rename_i c
      split
      · intro q; exact absurd rfl q
      · rename_i q
        have hk := door_ok h (nx_lt h c (by decide)) q
        intro q2
        have := ih hk.1 q2
        exact ⟨this.1, this.2.trans hk.2.2.1⟩
    · intro _; exact ⟨h, rfl⟩
theorem tok_0 {σ : Sto} (h : vp_in (σ 5 2) 121) : TOK (clrS (upc σ 5 (upd (σ 5) 1 0)) 17) := by
  obtain ⟨e, hl⟩ := vp_to h (by decide)
  refine ⟨(σ 5 2).toNatClampNeg, 0, ?_, ?_, Nat.zero_le _, by omega⟩
  · simp [clrS, upc, upd]; exact e
  · simp [clrS, upc, upd]; rfl
set_option maxRecDepth 20000 in
set_option maxHeartbeats 4000000 in
theorem c_X5_readInto {E : EE} (hE : inj E 0 40) {σ : Sto} {τ : Stl}  (h : vp_in (σ 5 2) 121) : Ct E 0 40 yX5_readInto cX5_readInto 2 (some FieldType.boolean) { frames := 4, cells := 0, slots := 0, locals := 93 } [.ref (E.2.1 5), .ref (E.2.1 17)] σ τ (Pi (bI (s_read σ).1) ((s_read σ).2) (τ)) := by
  refine ct_of hE RX5 [some (.ref (E.2.1 5)), some (.ref (E.2.1 17))] (by decide) rfl (Nat.le_of_ble_eq_true rfl) rfl (fun X => ?_)
  refine g_aload_n (q := 1) dX5_readInto_0 rfl rfl ?_
  refine g_iconst (q := 2) dX5_readInto_1 ci_0 rfl ?_
  refine p5_1 (q := 5) wd_114 dX5_readInto_2 rfl ?_
  refine g_aload_n (q := 6) dX5_readInto_5 rfl rfl ?_
  refine g_callVv (q := 9) (c_X1_clear hE rfl) lk_RX5_20 (Nat.zero_le _) (h_lt rfl) rfl (by decide) rfl rfl rfl rfl rfl rfl (Nat.le_of_ble_eq_true rfl) (Nat.le_of_ble_eq_true rfl) (Nat.le_of_ble_eq_true rfl) dX5_readInto_6 rfl ?_
  refine g_sg (σ' := clrS (upc σ 5 (upd (σ 5) 1 0)) 17) rfl ?_
  have h0 := tok_0 h
  refine g_aload_n (q := 10) dX5_readInto_9 rfl rfl ?_
  refine g_aload_n (q := 11) dX5_readInto_10 rfl rfl ?_
  refine g_callVi (q := 14) (c_X5_readLaw hE h0) lk_RX5_25 (by decide) (by decide) rfl (by decide) rfl rfl rfl rfl rfl rfl (Nat.le_of_ble_eq_true rfl) (Nat.le_of_ble_eq_true rfl) (Nat.le_of_ble_eq_true rfl) dX5_readInto_11 rfl ?_
  refine g_if_eq (t := 37) (q := 17) dX5_readInto_14 (by decide) rfl (fun c_14 => ?_) (fun c_14 => ?_)
  · rw [bI_0] at c_14
    refine g_iconst (q := 38) dX5_readInto_37 ci_0 rfl ?_
    exact g_zret dX5_readInto_38 (by first | decide | exact bI_nar _) (pi_i (by simp only [s_read, c_14, if_true, if_false, Bool.true_eq_false, reduceIte, bI_t, bI_f]) (by simp only [s_read, c_14, if_true, if_false, Bool.true_eq_false, reduceIte]) rfl)
  · rw [bI_n0] at c_14
    have h1 := law_ok h0 (by rw [c_14]; decide)
    refine g_aload_n (q := 18) dX5_readInto_17 rfl rfl ?_
    refine g_aload_n (q := 19) dX5_readInto_18 rfl rfl ?_
    refine g_callVi (q := 22) (c_X5_readDoors hE h1.1 (by rw [h1.2.1]; rfl)) lk_RX5_29 (by decide) (by decide) rfl (by decide) rfl rfl rfl rfl rfl rfl (Nat.le_of_ble_eq_true rfl) (Nat.le_of_ble_eq_true rfl) (Nat.le_of_ble_eq_true rfl) dX5_readInto_19 rfl ?_
    refine g_if_eq (t := 37) (q := 25) dX5_readInto_22 (by decide) rfl (fun c_22 => ?_) (fun c_22 => ?_)
    · rw [bI_0] at c_22
      refine g_iconst (q := 38) dX5_readInto_37 ci_0 rfl ?_
      exact g_zret dX5_readInto_38 (by first | decide | exact bI_nar _) (pi_i (by simp only [s_read, c_14, c_22, if_true, if_false, Bool.true_eq_false, reduceIte, bI_t, bI_f]) (by simp only [s_read, c_14, c_22, if_true, if_false, Bool.true_eq_false, reduceIte]) rfl)
    · rw [bI_n0] at c_22
      have h2 := doors_ok 8 h1.1 (by rw [c_22]; decide)
      refine g_aload_n (q := 26) dX5_readInto_25 rfl rfl ?_
      refine g_aload_n (q := 27) dX5_readInto_26 rfl rfl ?_
      refine g_callVi (q := 30) (c_X5_readSitters hE h2.1 (by rw [h2.2, h1.2.2]; rfl)) lk_RX5_32 (by decide) (by decide) rfl (by decide) rfl rfl rfl rfl rfl rfl (Nat.le_of_ble_eq_true rfl) (Nat.le_of_ble_eq_true rfl) (Nat.le_of_ble_eq_true rfl) dX5_readInto_27 rfl ?_
      refine g_if_eq (t := 37) (q := 33) dX5_readInto_30 (by decide) rfl (fun c_30 => ?_) (fun c_30 => ?_)
      · rw [bI_0] at c_30
        refine g_iconst (q := 38) dX5_readInto_37 ci_0 rfl ?_
        exact g_zret dX5_readInto_38 (by first | decide | exact bI_nar _) (pi_i (by simp only [s_read, c_14, c_22, c_30, if_true, if_false, Bool.true_eq_false, reduceIte, bI_t, bI_f]) (by simp only [s_read, c_14, c_22, c_30, if_true, if_false, Bool.true_eq_false, reduceIte]) rfl)
      · rw [bI_n0] at c_30
        refine g_iconst (q := 34) dX5_readInto_33 ci_1 rfl ?_
        refine g_goto (t := 38) dX5_readInto_34 (by decide) ?_
        exact g_zret dX5_readInto_38 (by first | decide | exact bI_nar _) (pi_i (by simp only [s_read, c_14, c_22, c_30, if_true, if_false, Bool.true_eq_false, reduceIte, bI_t, bI_f]) (by simp only [s_read, c_14, c_22, c_30, if_true, if_false, Bool.true_eq_false, reduceIte]) rfl)
