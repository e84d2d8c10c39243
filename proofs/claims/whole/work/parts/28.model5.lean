theorem note_eq {σ : Sto} {V S : Nat → Int32} : upc (upc (upc (upc σ 48 S) 40 (upd (σ 40) 17 23)) 48 V) 40 (upd (upc (upc (upc σ 48 S) 40 (upd (σ 40) 17 23)) 48 V 40) 17 (upc (upc (upc σ 48 S) 40 (upd (σ 40) 17 23)) 48 V 40 17 + 1)) = upc (upc σ 48 V) 40 (upd (σ 40) 17 24) := by
  funext a
  by_cases h1 : a = 40
  · subst h1
    rw [upc_same, upc_same, upc_ne (by decide), upc_same, upd_same]
    funext j
    unfold upd
    split
    · rfl
    · rfl
  · rw [upc_ne h1, upc_ne h1]
    by_cases h2 : a = 48
    · subst h2; rw [upc_same, upc_same]
    · rw [upc_ne h2, upc_ne h2, upc_ne h1, upc_ne h2]
theorem lt24 {x : Int32} (h : vp_in x 25) (hc : ¬ x = 24) : vp_in x 24 := by
  obtain ⟨e, hl⟩ := vp_to h (by decide)
  rw [e] at hc ⊢
  refine vp_in_nI ?_ (by decide)
  rcases Nat.lt_or_ge (x.toNatClampNeg) 24 with q | q
  · exact q
  · exact absurd (by rw [show x.toNatClampNeg = 24 by omega]; rfl) hc
set_option maxRecDepth 20000 in
set_option maxHeartbeats 4000000 in
theorem c_X7_note {E : EE} (hE : inj E 40 13) {σ : Sto} {τ : Stl}  (h : vp_in (σ 40 17) 25) : Ct E 40 13 yX7_note cX7_note 2 none { frames := 0, cells := 0, slots := 0, locals := 0 } [.ref (E.2.1 40)] σ τ (Pv (q_note σ) (τ)) := by
  refine ct_of hE RX7 [some (.ref (E.2.1 40)), none] (by decide) rfl (Nat.le_of_ble_eq_true rfl) rfl (fun X => ?_)
  refine g_aload_n (q := 1) dX7_note_0 rfl rfl ?_
  refine f7_17 (q := 4) wd_865 dX7_note_1 rfl ?_
  refine g_bipush (q := 6) dX7_note_4 cb_24 rfl ?_
  refine g_icmp_ne (t := 49) (q := 9) dX7_note_6 (by decide) rfl (fun c_6 => ?_) (fun c_6 => ?_)
  · have em := vp_to (lt24 h c_6) (by decide)
    refine g_iconst (q := 50) dX7_note_49 ci_0 rfl ?_
    refine g_istore_n (j := 1) (q := 51) dX7_note_50 rfl (by decide) rfl rfl ?_
    refine g_for (I := fun i => [some (.ref (E.2.1 40)), some (.int (nI i))]) (S := fun i => upc (σ) 48 (va_cpy (σ 44) (σ 48) 0 (52 * (σ 40 17).toNatClampNeg) i)) (T := fun i => τ) (0) (52) (Nat.zero_le _) (by rfl) (by rw [cpy_0]; exact (upc_idx () rfl).symm) (by rfl) (fun i i0 i1 kk_i => ?_) ?_
    · have hci : (nI i).toNatClampNeg = i := nI_clamp (by omega)
      refine g_iload_n (q := 52) dX7_note_51 rfl rfl ?_
      refine g_bipush (q := 54) dX7_note_52 cb_52 rfl ?_
      refine g_icmp_ge (t := 83) (q := 57) dX7_note_54 (by decide) rfl (fun c_54 => ?_) (fun c_54 => ?_)
      · exact absurd c_54 (lp_in (by rfl) (by omega) i1)
      · refine g_aload_n (q := 58) dX7_note_57 rfl rfl ?_
        refine f7_16 (q := 61) wd_864 dX7_note_58 rfl ?_
        refine g_bipush (q := 63) dX7_note_61 cb_52 rfl ?_
        refine g_aload_n (q := 64) dX7_note_63 rfl rfl ?_
        refine f7_17 (q := 67) wd_865 dX7_note_64 rfl ?_
        refine g_imul (q := 68) dX7_note_67 rfl ?_
        refine g_iload_n (q := 69) dX7_note_68 rfl rfl ?_
        refine g_iadd (q := 70) dX7_note_69 rfl ?_
        refine g_aload_n (q := 71) dX7_note_70 rfl rfl ?_
        refine f7_5 (q := 74) wd_853 dX7_note_71 rfl ?_
        refine g_iload_n (q := 75) dX7_note_74 rfl rfl ?_
        refine g_ialdJ (q := 76) (k := 44) (j := i) (N := 52) (by decide) (by decide) rfl rfl (by decide) rfl (by omega) dX7_note_75 rfl ?_
        refine g_iastJ (q := 77) (k := 48) (j := ((52 * (σ 40 17).toNatClampNeg) + i)) (N := 1248) (by decide) (by decide) rfl rfl (by decide) (ad2 (mu2 (show (52 : Int32) = nI 52 from rfl) em.1) rfl) (by omega) dX7_note_76 rfl ?_
        refine g_iinc (q := 80) dX7_note_77 rfl ci_1 (by decide) rfl rfl ?_
        refine g_goto (t := 51) dX7_note_80 (by decide) ?_
        exact g_eqw kk_i (by simp [lsub, nI_succ]) (by rw [upc_upc, upc_same]; congr 1; have := cpy_s (σ 44) (σ 48) 0 (52 * (σ 40 17).toNatClampNeg) i; rw [Nat.zero_add] at this; exact this) rfl
    · refine g_iload_n (q := 52) dX7_note_51 rfl rfl ?_
      refine g_bipush (q := 54) dX7_note_52 cb_52 rfl ?_
      refine g_icmp_ge (t := 83) (q := 57) dX7_note_54 (by decide) rfl (fun c_54 => ?_) (fun c_54 => ?_)
      · refine g_aload_n (q := 84) dX7_note_83 rfl rfl ?_
        refine g_dup (q := 85) dX7_note_84 rfl rfl ?_
        refine f7_17 (q := 88) wd_865 dX7_note_85 rfl ?_
        refine g_iconst (q := 89) dX7_note_88 ci_1 rfl ?_
        refine g_iadd (q := 90) dX7_note_89 rfl ?_
        refine p7_17 (q := 93) wd_865 dX7_note_90 rfl ?_
        exact g_vret dX7_note_93 (pv_i (by simp only [q_note, if_neg c_6]; rfl) rfl)
      · exact absurd (lp_out (by rfl)) c_54
  · refine g_iconst (q := 10) dX7_note_9 ci_0 rfl ?_
    refine g_istore_n (j := 1) (q := 11) dX7_note_10 rfl (by decide) rfl rfl ?_
    refine g_for (I := fun i => [some (.ref (E.2.1 40)), some (.int (nI i))]) (S := fun i => upc σ 48 (cpF (σ 48) (σ 48) 52 i)) (T := fun i => τ) (0) (1196) (Nat.zero_le _) (by rfl) (by rw [cpF_0]; exact (upc_id _ _).symm) (by rfl) (fun i i0 i1 kk_i => ?_) ?_
    · have hci : (nI i).toNatClampNeg = i := nI_clamp (by omega)
      refine g_iload_n (q := 12) dX7_note_11 rfl rfl ?_
      refine g_sipush (q := 15) dX7_note_12 cs_1196 rfl ?_
      refine g_icmp_ge (t := 39) (q := 18) dX7_note_15 (by decide) rfl (fun c_15 => ?_) (fun c_15 => ?_)
      · exact absurd c_15 (lp_in (by rfl) (by omega) i1)
      · refine g_aload_n (q := 19) dX7_note_18 rfl rfl ?_
        refine f7_16 (q := 22) wd_864 dX7_note_19 rfl ?_
        refine g_iload_n (q := 23) dX7_note_22 rfl rfl ?_
        refine g_aload_n (q := 24) dX7_note_23 rfl rfl ?_
        refine f7_16 (q := 27) wd_864 dX7_note_24 rfl ?_
        refine g_iload_n (q := 28) dX7_note_27 rfl rfl ?_
        refine g_bipush (q := 30) dX7_note_28 cb_52 rfl ?_
        refine g_iadd (q := 31) dX7_note_30 rfl ?_
        refine g_ialdJ (q := 32) (k := 48) (j := (i + 52)) (N := 1248) (by decide) (by decide) rfl rfl (by decide) (ad2 rfl (show (52 : Int32) = nI 52 from rfl)) (by omega) dX7_note_31 rfl ?_
        refine g_iastJ (q := 33) (k := 48) (j := i) (N := 1248) (by decide) (by decide) rfl rfl (by decide) rfl (by omega) dX7_note_32 rfl ?_
        refine g_iinc (q := 36) dX7_note_33 rfl ci_1 (by decide) rfl rfl ?_
        refine g_goto (t := 11) dX7_note_36 (by decide) ?_
        exact g_eqw kk_i (by simp [lsub, nI_succ]) (by rw [upc_upc, upc_same]; congr 1; exact cpF_sh (σ 48) i) rfl
    · refine g_iload_n (q := 12) dX7_note_11 rfl rfl ?_
      refine g_sipush (q := 15) dX7_note_12 cs_1196 rfl ?_
      refine g_icmp_ge (t := 39) (q := 18) dX7_note_15 (by decide) rfl (fun c_15 => ?_) (fun c_15 => ?_)
      · refine g_aload_n (q := 40) dX7_note_39 rfl rfl ?_
        refine g_dup (q := 41) dX7_note_40 rfl rfl ?_
        refine f7_17 (q := 44) wd_865 dX7_note_41 rfl ?_
        refine g_iconst (q := 45) dX7_note_44 ci_1 rfl ?_
        refine g_isub (q := 46) dX7_note_45 rfl ?_
        refine p7_17 (q := 49) wd_865 dX7_note_46 rfl ?_
        refine g_iconst (q := 50) dX7_note_49 ci_0 rfl ?_
        refine g_istore_n (j := 1) (q := 51) dX7_note_50 rfl (by decide) rfl rfl ?_
        refine g_sg (σ' := upc (upc σ 48 (q_sh (σ 48))) 40 (upd (σ 40) 17 23)) (by simp only [upc_ne (show (40 : Nat) ≠ 48 by decide), c_6]; rfl) ?_
        refine g_for (I := fun i => [some (.ref (E.2.1 40)), some (.int (nI i))]) (S := fun i => upc (upc (upc σ 48 (q_sh (σ 48))) 40 (upd (σ 40) 17 23)) 48 (va_cpy (σ 44) (q_sh (σ 48)) 0 (52 * 23) i)) (T := fun i => τ) (0) (52) (Nat.zero_le _) (by rfl) (by rw [cpy_0]; exact (upc_idx () rfl).symm) (by rfl) (fun i i0 i1 kk_i => ?_) ?_
        · have hci : (nI i).toNatClampNeg = i := nI_clamp (by omega)
          refine g_iload_n (q := 52) dX7_note_51 rfl rfl ?_
          refine g_bipush (q := 54) dX7_note_52 cb_52 rfl ?_
          refine g_icmp_ge (t := 83) (q := 57) dX7_note_54 (by decide) rfl (fun c_54 => ?_) (fun c_54 => ?_)
          · exact absurd c_54 (lp_in (by rfl) (by omega) i1)
          · refine g_aload_n (q := 58) dX7_note_57 rfl rfl ?_
            refine f7_16 (q := 61) wd_864 dX7_note_58 rfl ?_
            refine g_bipush (q := 63) dX7_note_61 cb_52 rfl ?_
            refine g_aload_n (q := 64) dX7_note_63 rfl rfl ?_
            refine f7_17 (q := 67) wd_865 dX7_note_64 rfl ?_
            refine g_imul (q := 68) dX7_note_67 rfl ?_
            refine g_iload_n (q := 69) dX7_note_68 rfl rfl ?_
            refine g_iadd (q := 70) dX7_note_69 rfl ?_
            refine g_aload_n (q := 71) dX7_note_70 rfl rfl ?_
            refine f7_5 (q := 74) wd_853 dX7_note_71 rfl ?_
            refine g_iload_n (q := 75) dX7_note_74 rfl rfl ?_
            refine g_ialdJ (q := 76) (k := 44) (j := i) (N := 52) (by decide) (by decide) rfl rfl (by decide) rfl (by omega) dX7_note_75 rfl ?_
            refine g_iastJ (q := 77) (k := 48) (j := ((52 * 23) + i)) (N := 1248) (by decide) (by decide) rfl rfl (by decide) (ad2 (mu2 (show (52 : Int32) = nI 52 from rfl) (show (23 : Int32) = nI 23 from rfl)) rfl) (by omega) dX7_note_76 rfl ?_
            refine g_iinc (q := 80) dX7_note_77 rfl ci_1 (by decide) rfl rfl ?_
            refine g_goto (t := 51) dX7_note_80 (by decide) ?_
            exact g_eqw kk_i (by simp [lsub, nI_succ]) (by rw [upc_upc, upc_same]; congr 1; have := cpy_s (σ 44) (q_sh (σ 48)) 0 (52 * 23) i; rw [Nat.zero_add] at this; exact this) rfl
        · refine g_iload_n (q := 52) dX7_note_51 rfl rfl ?_
          refine g_bipush (q := 54) dX7_note_52 cb_52 rfl ?_
          refine g_icmp_ge (t := 83) (q := 57) dX7_note_54 (by decide) rfl (fun c_54 => ?_) (fun c_54 => ?_)
          · refine g_aload_n (q := 84) dX7_note_83 rfl rfl ?_
            refine g_dup (q := 85) dX7_note_84 rfl rfl ?_
            refine f7_17 (q := 88) wd_865 dX7_note_85 rfl ?_
            refine g_iconst (q := 89) dX7_note_88 ci_1 rfl ?_
            refine g_iadd (q := 90) dX7_note_89 rfl ?_
            refine p7_17 (q := 93) wd_865 dX7_note_90 rfl ?_
            exact g_vret dX7_note_93 (pv_i (by simp only [q_note, if_pos c_6]; exact note_eq) rfl)
          · exact absurd (lp_out (by rfl)) c_54
      · exact absurd (lp_out (by rfl)) c_15
theorem un_eqv {s : Sto} {f g : Nat → Int32} {A : Nat} : eqv (upc s 44 (cpF f g A 52)) (upc s 44 (fun j => f (A + j))) := by
  intro k j hj
  by_cases h : k = 44
  · subst h
    have : j < 52 := hj
    rw [upc_same, upc_same]
    unfold cpF
    rw [if_pos this]
  · rw [upc_ne h, upc_ne h]
set_option maxRecDepth 20000 in
set_option maxHeartbeats 4000000 in
theorem c_X7_undo {E : EE} (hE : inj E 40 13) {σ : Sto} {τ : Stl}  (h : vp_in (σ 40 17) 25) : Ct E 40 13 yX7_undo cX7_undo 2 (some FieldType.int) { frames := 0, cells := 0, slots := 0, locals := 0 } [.ref (E.2.1 40)] σ τ (Pi ((q_undo σ).1) ((q_undo σ).2) (τ)) := by
  refine ct_of hE RX7 [some (.ref (E.2.1 40)), none] (by decide) rfl (Nat.le_of_ble_eq_true rfl) rfl (fun X => ?_)
  refine g_aload_n (q := 1) dX7_undo_0 rfl rfl ?_
  refine f7_17 (q := 4) wd_865 dX7_undo_1 rfl ?_
  refine g_if_ne (t := 10) (q := 7) dX7_undo_4 (by decide) rfl (fun c_4 => ?_) (fun c_4 => ?_)
  · have eu := vp_to (held1 h c_4) (by decide)
    refine g_aload_n (q := 11) dX7_undo_10 rfl rfl ?_
    refine g_dup (q := 12) dX7_undo_11 rfl rfl ?_
    refine f7_17 (q := 15) wd_865 dX7_undo_12 rfl ?_
    refine g_iconst (q := 16) dX7_undo_15 ci_1 rfl ?_
    refine g_isub (q := 17) dX7_undo_16 rfl ?_
    refine p7_17 (q := 20) wd_865 dX7_undo_17 rfl ?_
    refine g_iconst (q := 21) dX7_undo_20 ci_0 rfl ?_
    refine g_istore_n (j := 1) (q := 22) dX7_undo_21 rfl (by decide) rfl rfl ?_
    refine g_for (I := fun i => [some (.ref (E.2.1 40)), some (.int (nI i))]) (S := fun i => upc (upc σ 40 (upd (σ 40) 17 (σ 40 17 - 1))) 44 (cpF (σ 48) (σ 44) (52 * (σ 40 17 - 1).toNatClampNeg) i)) (T := fun i => τ) (0) (52) (Nat.zero_le _) (by rfl) (by rw [cpF_0]; exact (upc_idx () rfl).symm) (by rfl) (fun i i0 i1 kk_i => ?_) ?_
    · have hci : (nI i).toNatClampNeg = i := nI_clamp (by omega)
      refine g_iload_n (q := 23) dX7_undo_22 rfl rfl ?_
      refine g_bipush (q := 25) dX7_undo_23 cb_52 rfl ?_
      refine g_icmp_ge (t := 54) (q := 28) dX7_undo_25 (by decide) rfl (fun c_25 => ?_) (fun c_25 => ?_)
      · exact absurd c_25 (lp_in (by rfl) (by omega) i1)
      · refine g_aload_n (q := 29) dX7_undo_28 rfl rfl ?_
        refine f7_5 (q := 32) wd_853 dX7_undo_29 rfl ?_
        refine g_iload_n (q := 33) dX7_undo_32 rfl rfl ?_
        refine g_aload_n (q := 34) dX7_undo_33 rfl rfl ?_
        refine f7_16 (q := 37) wd_864 dX7_undo_34 rfl ?_
        refine g_bipush (q := 39) dX7_undo_37 cb_52 rfl ?_
        refine g_aload_n (q := 40) dX7_undo_39 rfl rfl ?_
        refine f7_17 (q := 43) wd_865 dX7_undo_40 rfl ?_
        refine g_imul (q := 44) dX7_undo_43 rfl ?_
        refine g_iload_n (q := 45) dX7_undo_44 rfl rfl ?_
        refine g_iadd (q := 46) dX7_undo_45 rfl ?_
        refine g_ialdJ (q := 47) (k := 48) (j := ((52 * (σ 40 17 - 1).toNatClampNeg) + i)) (N := 1248) (by decide) (by decide) rfl rfl (by decide) (ad2 (mu2 (show (52 : Int32) = nI 52 from rfl) eu.1) rfl) (by omega) dX7_undo_46 rfl ?_
        refine g_iastJ (q := 48) (k := 44) (j := i) (N := 52) (by decide) (by decide) rfl rfl (by decide) rfl (by omega) dX7_undo_47 rfl ?_
        refine g_iinc (q := 51) dX7_undo_48 rfl ci_1 (by decide) rfl rfl ?_
        refine g_goto (t := 22) dX7_undo_51 (by decide) ?_
        exact g_eqw kk_i (by simp [lsub, nI_succ]) (by rw [upc_upc, upc_same]; congr 1; exact cpF_s (σ 48) (σ 44) _ i) rfl
    · refine g_iload_n (q := 23) dX7_undo_22 rfl rfl ?_
      refine g_bipush (q := 25) dX7_undo_23 cb_52 rfl ?_
      refine g_icmp_ge (t := 54) (q := 28) dX7_undo_25 (by decide) rfl (fun c_25 => ?_) (fun c_25 => ?_)
      · refine g_eqv (σ' := upc (upc σ 40 (upd (σ 40) 17 (σ 40 17 - 1))) 44 (fun j => σ 48 (52 * (σ 40 17 - 1).toNatClampNeg + j))) ?_ ?_
        · exact un_eqv
        refine g_aload_n (q := 55) dX7_undo_54 rfl rfl ?_
        refine f7_17 (q := 58) wd_865 dX7_undo_55 rfl ?_
        exact g_iret dX7_undo_58 (pi_i (by simp only [q_undo, if_neg c_4]; rfl) (by simp only [q_undo, if_neg c_4]) rfl)
      · exact absurd (lp_out (by rfl)) c_25
  · refine g_ldc (q := 9) dX7_undo_7 wd_1011 rfl ?_
    exact g_iret dX7_undo_9 (pi_i (by simp only [q_undo, if_pos c_4]) (by simp only [q_undo, if_pos c_4]) rfl)
