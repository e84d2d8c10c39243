def SZM (σ : Sto) : Prop := ∀ r, r < 8 → σ 42 r = -1 ∨ vp_in (σ 42 r) 41
theorem i40 {r i : Int32} {a b : Nat} (hr : r = nI a) (hi : i = nI b) : 40 * r + i = nI (40 * a + b) := ad2 (mu2 (show (40 : Int32) = nI 40 from rfl) hr) hi
def q_row (σ : Sto) (r l n : Int32) : Int32 × Sto := if wi r 0 7 = false then (-1000001, σ) else if wi l 0 2 = false then (-1000001, σ) else if n ≤ 40 then (if 0 ≤ n then (n, fndM (upc (upc (upc σ 41 (upd (σ 41) (r.toNatClampNeg) l)) 42 (upd (σ 42) (r.toNatClampNeg) n)) 43 (zf (σ 43) (40 * r.toNatClampNeg) 40)) 0) else (-1000010 - 4, fndM σ 4)) else (-1000001, σ)
def q_set (σ : Sto) (r i v : Int32) : Int32 × Sto := if wi r 0 7 = false then (-1000001, σ) else if 0 ≤ σ 42 (r.toNatClampNeg) then (if wi i 0 (σ 42 (r.toNatClampNeg) - 1) = false then (-1000010 - 2, fndM σ 2) else (asL (σ 41 (r.toNatClampNeg)) v, fndM (upc σ 43 (upd (σ 43) (40 * r.toNatClampNeg + i.toNatClampNeg) (asL (σ 41 (r.toNatClampNeg)) v))) 0)) else (-1000010 - 1, fndM σ 1)
def q_drop (σ : Sto) (r : Int32) : Int32 × Sto := if wi r 0 7 = false then (-1000001, σ) else if 0 ≤ σ 42 (r.toNatClampNeg) then (σ 42 (r.toNatClampNeg), fndM (upc σ 42 (upd (σ 42) (r.toNatClampNeg) (-1))) 0) else (-1000010 - 1, fndM σ 1)
def q_feed (σ : Sto) (b : Int32) : Int32 × Sto := if wi b 0 255 = false then (-1000001, σ) else if σ 40 8 = 120 then (-1000003, σ) else (σ 40 8 + 1, upc (upc σ 46 (upd (σ 46) ((σ 40 8).toNatClampNeg) b)) 40 (upd (σ 40) 8 (σ 40 8 + 1)))
def cpF (f g : Nat → Int32) (A n : Nat) : Nat → Int32 := fun k => if k < n then f (A + k) else g k
theorem cpF_s (f g : Nat → Int32) (A n : Nat) : upd (cpF f g A n) n (f (A + n)) = cpF f g A (n + 1) := by
  funext k
  unfold cpF upd
  by_cases h : k = n
  · subst h
    rw [if_pos rfl, if_pos (by omega)]
  · rw [if_neg h]
    dsimp only
    by_cases h2 : k < n
    · rw [if_pos h2, if_pos (by omega)]
    · rw [if_neg h2, if_neg (by omega)]
theorem cpF_0 (f g : Nat → Int32) (A : Nat) : cpF f g A 0 = g := by
  funext k
  unfold cpF
  rw [if_neg (by omega)]
theorem cpy_s (f g : Nat → Int32) (A B n : Nat) : upd (va_cpy f g A B n) (B + n) (f (A + n)) = va_cpy f g A B (n + 1) := by
  funext k
  unfold va_cpy upd
  by_cases h : k = B + n
  · subst h
    rw [if_pos rfl, if_pos (by omega)]
    congr 1
    omega
  · rw [if_neg h]
    dsimp only
    by_cases h2 : B ≤ k ∧ k < B + n
    · rw [if_pos h2, if_pos (by omega)]
    · rw [if_neg h2, if_neg (by omega)]
theorem cpy_0 (f g : Nat → Int32) (A B : Nat) : va_cpy f g A B 0 = g := by
  funext k
  unfold va_cpy
  rw [if_neg (by omega)]
theorem lim_in {z i : Int32} (hz : z = -1 ∨ vp_in z 41) (h0 : 0 ≤ z) (h : wi i 0 (z - 1) = true) : vp_in i 40 := by
  have hz2 : vp_in z 41 := by
    rcases hz with rfl | hz
    · exact absurd h0 (by decide)
    · exact hz
  obtain ⟨e, hl⟩ := vp_to hz2 (by decide)
  simp only [wi, Bool.and_eq_true, decide_eq_true_eq] at h
  obtain ⟨ei, bi⟩ := nn_to (Int32.not_lt.mpr h.1)
  have h2 := h.2
  rw [e] at h2
  generalize z.toNatClampNeg = Z at *
  rw [ei] at h2 ⊢
  refine vp_in_nI ?_ (by decide)
  rcases Nat.eq_zero_or_pos Z with q | q
  · subst q
    exact absurd (Int32.le_trans (nI_pos' bi) h2) (by decide)
  · obtain ⟨M, rfl⟩ : ∃ M, Z = M + 1 := ⟨Z - 1, by omega⟩
    rw [nI_pred] at h2
    have := (nI_leI bi (by omega)).mp h2
    omega
theorem lt120 {x : Int32} (h : vp_in x 121) (hc : ¬ x = 120) : vp_in x 120 := by
  obtain ⟨e, hl⟩ := vp_to h (by decide)
  rw [e] at hc ⊢
  refine vp_in_nI ?_ (by decide)
  rcases Nat.lt_or_ge (x.toNatClampNeg) 120 with q | q
  · exact q
  · exact absurd (by rw [show x.toNatClampNeg = 120 by omega]; rfl) hc
set_option maxRecDepth 20000 in
set_option maxHeartbeats 4000000 in
theorem c_X7_row {E : EE} (hE : inj E 40 13) {σ : Sto} {τ : Stl} {r l n : Int32}  : Ct E 40 13 yX7_row cX7_row 5 (some FieldType.int) { frames := 2, cells := 0, slots := 0, locals := 45 } [.ref (E.2.1 40), .int r, .int l, .int n] σ τ (Pi ((q_row σ r l n).1) ((q_row σ r l n).2) (τ)) := by
  refine ct_of hE RX7 [some (.ref (E.2.1 40)), some (.int r), some (.int l), some (.int n), none] (by decide) rfl (Nat.le_of_ble_eq_true rfl) rfl (fun X => ?_)
  refine g_iload_n (q := 1) dX7_row_0 rfl rfl ?_
  refine g_callSi (q := 4) (c_X7_isRow hE ) lk_RX7_58 rfl rfl rfl rfl (Nat.le_of_ble_eq_true rfl) (Nat.le_of_ble_eq_true rfl) (Nat.le_of_ble_eq_true rfl) dX7_row_1 rfl ?_
  refine g_if_eq (t := 25) (q := 7) dX7_row_4 (by decide) rfl (fun c_4 => ?_) (fun c_4 => ?_)
  · rw [bI_0] at c_4
    refine g_ldc (q := 27) dX7_row_25 wd_931 rfl ?_
    exact g_iret dX7_row_27 (pi_i (by simp only [q_row, c_4, not_true_eq_false, not_false_eq_true, if_true, if_false, Bool.true_eq_false, Bool.false_eq_true, reduceIte, reduceCtorEq]) (by simp only [q_row, c_4, not_true_eq_false, not_false_eq_true, if_true, if_false, Bool.true_eq_false, Bool.false_eq_true, reduceIte, reduceCtorEq]) rfl)
  · rw [bI_n0] at c_4
    refine g_iload_n (q := 8) dX7_row_7 rfl rfl ?_
    refine g_i2l (q := 9) dX7_row_8 rfl ?_
    refine g_lconst (q := 10) dX7_row_9 cl_0 rfl ?_
    refine g_ldc2 (q := 13) dX7_row_10 wd_930 rfl ?_
    refine g_callSi (q := 16) (c_X7_in hE ) lk_RX7_54 rfl rfl rfl rfl (Nat.le_of_ble_eq_true rfl) (Nat.le_of_ble_eq_true rfl) (Nat.le_of_ble_eq_true rfl) dX7_row_13 rfl ?_
    refine g_if_eq (t := 25) (q := 19) dX7_row_16 (by decide) rfl (fun c_16 => ?_) (fun c_16 => ?_)
    · rw [bI_0] at c_16
      rw [show inL l.toInt64 0 2 = wi l 0 2 from inL_i l 0 2] at c_16
      refine g_ldc (q := 27) dX7_row_25 wd_931 rfl ?_
      exact g_iret dX7_row_27 (pi_i (by simp only [q_row, c_4, c_16, not_true_eq_false, not_false_eq_true, if_true, if_false, Bool.true_eq_false, Bool.false_eq_true, reduceIte, reduceCtorEq]) (by simp only [q_row, c_4, c_16, not_true_eq_false, not_false_eq_true, if_true, if_false, Bool.true_eq_false, Bool.false_eq_true, reduceIte, reduceCtorEq]) rfl)
    · rw [bI_n0] at c_16
      rw [show inL l.toInt64 0 2 = wi l 0 2 from inL_i l 0 2] at c_16
      refine g_iload_n (q := 20) dX7_row_19 rfl rfl ?_
      refine g_bipush (q := 22) dX7_row_20 cb_40 rfl ?_
      refine g_icmp_le (t := 28) (q := 25) dX7_row_22 (by decide) rfl (fun c_22 => ?_) (fun c_22 => ?_)
      · have er := vp_to (wi_in (N := 8) c_4 (by decide) (by decide)) (by decide)
        refine g_iload_n (q := 29) dX7_row_28 rfl rfl ?_
        refine g_if_ge (t := 38) (q := 32) dX7_row_29 (by decide) rfl (fun c_29 => ?_) (fun c_29 => ?_)
        · refine g_aload_n (q := 39) dX7_row_38 rfl rfl ?_
          refine f7_0 (q := 42) wd_848 dX7_row_39 rfl ?_
          refine g_iload_n (q := 43) dX7_row_42 rfl rfl ?_
          refine g_iload_n (q := 44) dX7_row_43 rfl rfl ?_
          refine g_iastJ (q := 45) (k := 41) (j := r.toNatClampNeg) (N := 8) (by decide) (by decide) rfl rfl (by decide) er.1 (by omega) dX7_row_44 rfl ?_
          refine g_aload_n (q := 46) dX7_row_45 rfl rfl ?_
          refine f7_1 (q := 49) wd_849 dX7_row_46 rfl ?_
          refine g_iload_n (q := 50) dX7_row_49 rfl rfl ?_
          refine g_iload_n (q := 51) dX7_row_50 rfl rfl ?_
          refine g_iastJ (q := 52) (k := 42) (j := r.toNatClampNeg) (N := 8) (by decide) (by decide) rfl rfl (by decide) er.1 (by omega) dX7_row_51 rfl ?_
          refine g_iconst (q := 53) dX7_row_52 ci_0 rfl ?_
          refine g_istore (q := 55) dX7_row_53 (by decide) rfl rfl ?_
          refine g_for (I := fun i => [some (.ref (E.2.1 40)), some (.int r), some (.int l), some (.int n), some (.int (nI i))]) (S := fun i => upc (upc (upc σ 41 (upd (σ 41) (r.toNatClampNeg) l)) 42 (upd (σ 42) (r.toNatClampNeg) n)) 43 (zf (σ 43) (40 * r.toNatClampNeg) i)) (T := fun i => τ) (0) (40) (Nat.zero_le _) (by rfl) (by rw [zf_0]; exact (upc_id _ 43).symm) (by rfl) (fun i i0 i1 kk_i => ?_) ?_
          · have hci : (nI i).toNatClampNeg = i := nI_clamp (by omega)
            refine g_iload (q := 57) dX7_row_55 rfl rfl ?_
            refine g_bipush (q := 59) dX7_row_57 cb_40 rfl ?_
            refine g_icmp_ge (t := 81) (q := 62) dX7_row_59 (by decide) rfl (fun c_59 => ?_) (fun c_59 => ?_)
            · exact absurd c_59 (lp_in (by rfl) (by omega) i1)
            · refine g_aload_n (q := 63) dX7_row_62 rfl rfl ?_
              refine f7_2 (q := 66) wd_850 dX7_row_63 rfl ?_
              refine g_bipush (q := 68) dX7_row_66 cb_40 rfl ?_
              refine g_iload_n (q := 69) dX7_row_68 rfl rfl ?_
              refine g_imul (q := 70) dX7_row_69 rfl ?_
              refine g_iload (q := 72) dX7_row_70 rfl rfl ?_
              refine g_iadd (q := 73) dX7_row_72 rfl ?_
              refine g_iconst (q := 74) dX7_row_73 ci_0 rfl ?_
              refine g_iastJ (q := 75) (k := 43) (j := ((40 * r.toNatClampNeg) + i)) (N := 320) (by decide) (by decide) rfl rfl (by decide) (ad2 (mu2 (show (40 : Int32) = nI 40 from rfl) er.1) rfl) (by omega) dX7_row_74 rfl ?_
              refine g_iinc (q := 78) dX7_row_75 rfl ci_1 (by decide) rfl rfl ?_
              refine g_goto (t := 55) dX7_row_78 (by decide) ?_
              exact g_eqw kk_i (by simp [lsub, nI_succ]) (by rw [upc_upc, upc_same, zf_s]) rfl
          · refine g_iload (q := 57) dX7_row_55 rfl rfl ?_
            refine g_bipush (q := 59) dX7_row_57 cb_40 rfl ?_
            refine g_icmp_ge (t := 81) (q := 62) dX7_row_59 (by decide) rfl (fun c_59 => ?_) (fun c_59 => ?_)
            · refine g_aload_n (q := 82) dX7_row_81 rfl rfl ?_
              refine g_iload_n (q := 83) dX7_row_82 rfl rfl ?_
              refine g_callVi (q := 86) (c_X7_well hE ) lk_RX7_69 (by decide) (by decide) rfl (by decide) rfl rfl rfl rfl rfl rfl (Nat.le_of_ble_eq_true rfl) (Nat.le_of_ble_eq_true rfl) (Nat.le_of_ble_eq_true rfl) dX7_row_83 rfl ?_
              exact g_iret dX7_row_86 (pi_i (by simp only [q_row, c_4, c_16, c_22, c_29, c_59, not_true_eq_false, not_false_eq_true, if_true, if_false, Bool.true_eq_false, Bool.false_eq_true, reduceIte, reduceCtorEq]) (by simp only [q_row, c_4, c_16, c_22, c_29, c_59, not_true_eq_false, not_false_eq_true, if_true, if_false, Bool.true_eq_false, Bool.false_eq_true, reduceIte, reduceCtorEq]) rfl)
            · exact absurd (lp_out (by rfl)) c_59
        · refine g_aload_n (q := 33) dX7_row_32 rfl rfl ?_
          refine g_iconst (q := 34) dX7_row_33 ci_4 rfl ?_
          refine g_callVi (q := 37) (c_X7_find hE ) lk_RX7_65 (by decide) (by decide) rfl (by decide) rfl rfl rfl rfl rfl rfl (Nat.le_of_ble_eq_true rfl) (Nat.le_of_ble_eq_true rfl) (Nat.le_of_ble_eq_true rfl) dX7_row_34 rfl ?_
          exact g_iret dX7_row_37 (pi_i (by simp only [q_row, c_4, c_16, c_22, c_29, not_true_eq_false, not_false_eq_true, if_true, if_false, Bool.true_eq_false, Bool.false_eq_true, reduceIte, reduceCtorEq]) (by simp only [q_row, c_4, c_16, c_22, c_29, not_true_eq_false, not_false_eq_true, if_true, if_false, Bool.true_eq_false, Bool.false_eq_true, reduceIte, reduceCtorEq]) rfl)
      · refine g_ldc (q := 27) dX7_row_25 wd_931 rfl ?_
        exact g_iret dX7_row_27 (pi_i (by simp only [q_row, c_4, c_16, c_22, not_true_eq_false, not_false_eq_true, if_true, if_false, Bool.true_eq_false, Bool.false_eq_true, reduceIte, reduceCtorEq]) (by simp only [q_row, c_4, c_16, c_22, not_true_eq_false, not_false_eq_true, if_true, if_false, Bool.true_eq_false, Bool.false_eq_true, reduceIte, reduceCtorEq]) rfl)
set_option maxRecDepth 20000 in
set_option maxHeartbeats 4000000 in
theorem c_X7_set {E : EE} (hE : inj E 40 13) {σ : Sto} {τ : Stl} {r i v : Int32} (sz : SZM σ) : Ct E 40 13 yX7_set cX7_set 4 (some FieldType.int) { frames := 2, cells := 0, slots := 0, locals := 45 } [.ref (E.2.1 40), .int r, .int i, .int v] σ τ (Pi ((q_set σ r i v).1) ((q_set σ r i v).2) (τ)) := by
  refine ct_of hE RX7 [some (.ref (E.2.1 40)), some (.int r), some (.int i), some (.int v)] (by decide) rfl (Nat.le_of_ble_eq_true rfl) rfl (fun X => ?_)
  refine g_iload_n (q := 1) dX7_set_0 rfl rfl ?_
  refine g_callSi (q := 4) (c_X7_isRow hE ) lk_RX7_58 rfl rfl rfl rfl (Nat.le_of_ble_eq_true rfl) (Nat.le_of_ble_eq_true rfl) (Nat.le_of_ble_eq_true rfl) dX7_set_1 rfl ?_
  refine g_if_ne (t := 10) (q := 7) dX7_set_4 (by decide) rfl (fun c_4 => ?_) (fun c_4 => ?_)
  · rw [bI_n0] at c_4
    have er := vp_to (wi_in (N := 8) c_4 (by decide) (by decide)) (by decide)
    refine g_aload_n (q := 11) dX7_set_10 rfl rfl ?_
    refine f7_1 (q := 14) wd_849 dX7_set_11 rfl ?_
    refine g_iload_n (q := 15) dX7_set_14 rfl rfl ?_
    refine g_ialdJ (q := 16) (k := 42) (j := r.toNatClampNeg) (N := 8) (by decide) (by decide) rfl rfl (by decide) er.1 (by omega) dX7_set_15 rfl ?_
    refine g_if_ge (t := 25) (q := 19) dX7_set_16 (by decide) rfl (fun c_16 => ?_) (fun c_16 => ?_)
    · refine g_iload_n (q := 26) dX7_set_25 rfl rfl ?_
      refine g_i2l (q := 27) dX7_set_26 rfl ?_
      refine g_lconst (q := 28) dX7_set_27 cl_0 rfl ?_
      refine g_aload_n (q := 29) dX7_set_28 rfl rfl ?_
      refine f7_1 (q := 32) wd_849 dX7_set_29 rfl ?_
      refine g_iload_n (q := 33) dX7_set_32 rfl rfl ?_
      refine g_ialdJ (q := 34) (k := 42) (j := r.toNatClampNeg) (N := 8) (by decide) (by decide) rfl rfl (by decide) er.1 (by omega) dX7_set_33 rfl ?_
      refine g_iconst (q := 35) dX7_set_34 ci_1 rfl ?_
      refine g_isub (q := 36) dX7_set_35 rfl ?_
      refine g_i2l (q := 37) dX7_set_36 rfl ?_
      refine g_callSi (q := 40) (c_X7_in hE ) lk_RX7_54 rfl rfl rfl rfl (Nat.le_of_ble_eq_true rfl) (Nat.le_of_ble_eq_true rfl) (Nat.le_of_ble_eq_true rfl) dX7_set_37 rfl ?_
      refine g_if_ne (t := 49) (q := 43) dX7_set_40 (by decide) rfl (fun c_40 => ?_) (fun c_40 => ?_)
      · rw [bI_n0] at c_40
        rw [show inL i.toInt64 0 (σ 42 (r.toNatClampNeg) - 1).toInt64 = wi i 0 (σ 42 (r.toNatClampNeg) - 1) from inL_i i 0 _] at c_40
        have hi := lim_in (sz _ er.2) c_16 c_40
        have ei := vp_to hi (by decide)
        refine g_aload_n (q := 50) dX7_set_49 rfl rfl ?_
        refine f7_2 (q := 53) wd_850 dX7_set_50 rfl ?_
        refine g_bipush (q := 55) dX7_set_53 cb_40 rfl ?_
        refine g_iload_n (q := 56) dX7_set_55 rfl rfl ?_
        refine g_imul (q := 57) dX7_set_56 rfl ?_
        refine g_iload_n (q := 58) dX7_set_57 rfl rfl ?_
        refine g_iadd (q := 59) dX7_set_58 rfl ?_
        refine g_aload_n (q := 60) dX7_set_59 rfl rfl ?_
        refine f7_0 (q := 63) wd_848 dX7_set_60 rfl ?_
        refine g_iload_n (q := 64) dX7_set_63 rfl rfl ?_
        refine g_ialdJ (q := 65) (k := 41) (j := r.toNatClampNeg) (N := 8) (by decide) (by decide) rfl rfl (by decide) er.1 (by omega) dX7_set_64 rfl ?_
        refine g_iload_n (q := 66) dX7_set_65 rfl rfl ?_
        refine g_callSi (q := 69) (c_X7_asLane hE ) lk_RX7_72 rfl rfl rfl rfl (Nat.le_of_ble_eq_true rfl) (Nat.le_of_ble_eq_true rfl) (Nat.le_of_ble_eq_true rfl) dX7_set_66 rfl ?_
        refine g_iastJ (q := 70) (k := 43) (j := ((40 * r.toNatClampNeg) + i.toNatClampNeg)) (N := 320) (by decide) (by decide) rfl rfl (by decide) (ad2 (mu2 (show (40 : Int32) = nI 40 from rfl) er.1) ei.1) (by omega) dX7_set_69 rfl ?_
        refine g_aload_n (q := 71) dX7_set_70 rfl rfl ?_
        refine g_aload_n (q := 72) dX7_set_71 rfl rfl ?_
        refine f7_2 (q := 75) wd_850 dX7_set_72 rfl ?_
        refine g_bipush (q := 77) dX7_set_75 cb_40 rfl ?_
        refine g_iload_n (q := 78) dX7_set_77 rfl rfl ?_
        refine g_imul (q := 79) dX7_set_78 rfl ?_
        refine g_iload_n (q := 80) dX7_set_79 rfl rfl ?_
        refine g_iadd (q := 81) dX7_set_80 rfl ?_
        refine g_ialdJ (q := 82) (k := 43) (j := ((40 * r.toNatClampNeg) + i.toNatClampNeg)) (N := 320) (by decide) (by decide) rfl rfl (by decide) (ad2 (mu2 (show (40 : Int32) = nI 40 from rfl) er.1) ei.1) (by omega) dX7_set_81 rfl ?_
        refine g_callVi (q := 85) (c_X7_well hE ) lk_RX7_69 (by decide) (by decide) rfl (by decide) rfl rfl rfl rfl rfl rfl (Nat.le_of_ble_eq_true rfl) (Nat.le_of_ble_eq_true rfl) (Nat.le_of_ble_eq_true rfl) dX7_set_82 rfl ?_
        exact g_iret dX7_set_85 (pi_i (by simp only [q_set, c_4, c_16, c_40, not_true_eq_false, not_false_eq_true, if_true, if_false, Bool.true_eq_false, Bool.false_eq_true, reduceIte, reduceCtorEq, upc_same, upd_same]) (by simp only [q_set, c_4, c_16, c_40, not_true_eq_false, not_false_eq_true, if_true, if_false, Bool.true_eq_false, Bool.false_eq_true, reduceIte, reduceCtorEq, upc_same, upd_same]) rfl)
      · rw [bI_0] at c_40
        rw [show inL i.toInt64 0 (σ 42 (r.toNatClampNeg) - 1).toInt64 = wi i 0 (σ 42 (r.toNatClampNeg) - 1) from inL_i i 0 _] at c_40
        refine g_aload_n (q := 44) dX7_set_43 rfl rfl ?_
        refine g_iconst (q := 45) dX7_set_44 ci_2 rfl ?_
        refine g_callVi (q := 48) (c_X7_find hE ) lk_RX7_65 (by decide) (by decide) rfl (by decide) rfl rfl rfl rfl rfl rfl (Nat.le_of_ble_eq_true rfl) (Nat.le_of_ble_eq_true rfl) (Nat.le_of_ble_eq_true rfl) dX7_set_45 rfl ?_
        exact g_iret dX7_set_48 (pi_i (by simp only [q_set, c_4, c_16, c_40, not_true_eq_false, not_false_eq_true, if_true, if_false, Bool.true_eq_false, Bool.false_eq_true, reduceIte, reduceCtorEq, upc_same, upd_same]) (by simp only [q_set, c_4, c_16, c_40, not_true_eq_false, not_false_eq_true, if_true, if_false, Bool.true_eq_false, Bool.false_eq_true, reduceIte, reduceCtorEq, upc_same, upd_same]) rfl)
    · refine g_aload_n (q := 20) dX7_set_19 rfl rfl ?_
      refine g_iconst (q := 21) dX7_set_20 ci_1 rfl ?_
      refine g_callVi (q := 24) (c_X7_find hE ) lk_RX7_65 (by decide) (by decide) rfl (by decide) rfl rfl rfl rfl rfl rfl (Nat.le_of_ble_eq_true rfl) (Nat.le_of_ble_eq_true rfl) (Nat.le_of_ble_eq_true rfl) dX7_set_21 rfl ?_
      exact g_iret dX7_set_24 (pi_i (by simp only [q_set, c_4, c_16, not_true_eq_false, not_false_eq_true, if_true, if_false, Bool.true_eq_false, Bool.false_eq_true, reduceIte, reduceCtorEq, upc_same, upd_same]) (by simp only [q_set, c_4, c_16, not_true_eq_false, not_false_eq_true, if_true, if_false, Bool.true_eq_false, Bool.false_eq_true, reduceIte, reduceCtorEq, upc_same, upd_same]) rfl)
  · rw [bI_0] at c_4
    refine g_ldc (q := 9) dX7_set_7 wd_931 rfl ?_
    exact g_iret dX7_set_9 (pi_i (by simp only [q_set, c_4, not_true_eq_false, not_false_eq_true, if_true, if_false, Bool.true_eq_false, Bool.false_eq_true, reduceIte, reduceCtorEq, upc_same, upd_same]) (by simp only [q_set, c_4, not_true_eq_false, not_false_eq_true, if_true, if_false, Bool.true_eq_false, Bool.false_eq_true, reduceIte, reduceCtorEq, upc_same, upd_same]) rfl)
set_option maxRecDepth 20000 in
set_option maxHeartbeats 4000000 in
theorem c_X7_drop {E : EE} (hE : inj E 40 13) {σ : Sto} {τ : Stl} {r : Int32}  : Ct E 40 13 yX7_drop cX7_drop 3 (some FieldType.int) { frames := 2, cells := 0, slots := 0, locals := 45 } [.ref (E.2.1 40), .int r] σ τ (Pi ((q_drop σ r).1) ((q_drop σ r).2) (τ)) := by
  refine ct_of hE RX7 [some (.ref (E.2.1 40)), some (.int r), none] (by decide) rfl (Nat.le_of_ble_eq_true rfl) rfl (fun X => ?_)
  refine g_iload_n (q := 1) dX7_drop_0 rfl rfl ?_
  refine g_callSi (q := 4) (c_X7_isRow hE ) lk_RX7_58 rfl rfl rfl rfl (Nat.le_of_ble_eq_true rfl) (Nat.le_of_ble_eq_true rfl) (Nat.le_of_ble_eq_true rfl) dX7_drop_1 rfl ?_
  refine g_if_ne (t := 10) (q := 7) dX7_drop_4 (by decide) rfl (fun c_4 => ?_) (fun c_4 => ?_)
  · rw [bI_n0] at c_4
    have er := vp_to (wi_in (N := 8) c_4 (by decide) (by decide)) (by decide)
    refine g_aload_n (q := 11) dX7_drop_10 rfl rfl ?_
    refine f7_1 (q := 14) wd_849 dX7_drop_11 rfl ?_
    refine g_iload_n (q := 15) dX7_drop_14 rfl rfl ?_
    refine g_ialdJ (q := 16) (k := 42) (j := r.toNatClampNeg) (N := 8) (by decide) (by decide) rfl rfl (by decide) er.1 (by omega) dX7_drop_15 rfl ?_
    refine g_if_ge (t := 25) (q := 19) dX7_drop_16 (by decide) rfl (fun c_16 => ?_) (fun c_16 => ?_)
    · refine g_aload_n (q := 26) dX7_drop_25 rfl rfl ?_
      refine f7_1 (q := 29) wd_849 dX7_drop_26 rfl ?_
      refine g_iload_n (q := 30) dX7_drop_29 rfl rfl ?_
      refine g_ialdJ (q := 31) (k := 42) (j := r.toNatClampNeg) (N := 8) (by decide) (by decide) rfl rfl (by decide) er.1 (by omega) dX7_drop_30 rfl ?_
      refine g_istore_n (j := 2) (q := 32) dX7_drop_31 rfl (by decide) rfl rfl ?_
      refine g_aload_n (q := 33) dX7_drop_32 rfl rfl ?_
      refine f7_1 (q := 36) wd_849 dX7_drop_33 rfl ?_
      refine g_iload_n (q := 37) dX7_drop_36 rfl rfl ?_
      refine g_iconst (q := 38) dX7_drop_37 ci_m1 rfl ?_
      refine g_iastJ (q := 39) (k := 42) (j := r.toNatClampNeg) (N := 8) (by decide) (by decide) rfl rfl (by decide) er.1 (by omega) dX7_drop_38 rfl ?_
      refine g_aload_n (q := 40) dX7_drop_39 rfl rfl ?_
      refine g_iload_n (q := 41) dX7_drop_40 rfl rfl ?_
      refine g_callVi (q := 44) (c_X7_well hE ) lk_RX7_69 (by decide) (by decide) rfl (by decide) rfl rfl rfl rfl rfl rfl (Nat.le_of_ble_eq_true rfl) (Nat.le_of_ble_eq_true rfl) (Nat.le_of_ble_eq_true rfl) dX7_drop_41 rfl ?_
      exact g_iret dX7_drop_44 (pi_i (by simp only [q_drop, c_4, c_16, not_true_eq_false, not_false_eq_true, if_true, if_false, Bool.true_eq_false, Bool.false_eq_true, reduceIte, reduceCtorEq]) (by simp only [q_drop, c_4, c_16, not_true_eq_false, not_false_eq_true, if_true, if_false, Bool.true_eq_false, Bool.false_eq_true, reduceIte, reduceCtorEq]) rfl)
    · refine g_aload_n (q := 20) dX7_drop_19 rfl rfl ?_
      refine g_iconst (q := 21) dX7_drop_20 ci_1 rfl ?_
      refine g_callVi (q := 24) (c_X7_find hE ) lk_RX7_65 (by decide) (by decide) rfl (by decide) rfl rfl rfl rfl rfl rfl (Nat.le_of_ble_eq_true rfl) (Nat.le_of_ble_eq_true rfl) (Nat.le_of_ble_eq_true rfl) dX7_drop_21 rfl ?_
      exact g_iret dX7_drop_24 (pi_i (by simp only [q_drop, c_4, c_16, not_true_eq_false, not_false_eq_true, if_true, if_false, Bool.true_eq_false, Bool.false_eq_true, reduceIte, reduceCtorEq]) (by simp only [q_drop, c_4, c_16, not_true_eq_false, not_false_eq_true, if_true, if_false, Bool.true_eq_false, Bool.false_eq_true, reduceIte, reduceCtorEq]) rfl)
  · rw [bI_0] at c_4
    refine g_ldc (q := 9) dX7_drop_7 wd_931 rfl ?_
    exact g_iret dX7_drop_9 (pi_i (by simp only [q_drop, c_4, not_true_eq_false, not_false_eq_true, if_true, if_false, Bool.true_eq_false, Bool.false_eq_true, reduceIte, reduceCtorEq]) (by simp only [q_drop, c_4, not_true_eq_false, not_false_eq_true, if_true, if_false, Bool.true_eq_false, Bool.false_eq_true, reduceIte, reduceCtorEq]) rfl)
set_option maxRecDepth 20000 in
set_option maxHeartbeats 4000000 in
theorem c_X7_feed {E : EE} (hE : inj E 40 13) {σ : Sto} {τ : Stl} {b : Int32} (h : vp_in (σ 40 8) 121) : Ct E 40 13 yX7_feed cX7_feed 2 (some FieldType.int) { frames := 1, cells := 0, slots := 0, locals := 25 } [.ref (E.2.1 40), .int b] σ τ (Pi ((q_feed σ b).1) ((q_feed σ b).2) (τ)) := by
  refine ct_of hE RX7 [some (.ref (E.2.1 40)), some (.int b)] (by decide) rfl (Nat.le_of_ble_eq_true rfl) rfl (fun X => ?_)
  refine g_iload_n (q := 1) dX7_feed_0 rfl rfl ?_
  refine g_i2l (q := 2) dX7_feed_1 rfl ?_
  refine g_lconst (q := 3) dX7_feed_2 cl_0 rfl ?_
  refine g_ldc2 (q := 6) dX7_feed_3 wd_960 rfl ?_
  refine g_callSi (q := 9) (c_X7_in hE ) lk_RX7_54 rfl rfl rfl rfl (Nat.le_of_ble_eq_true rfl) (Nat.le_of_ble_eq_true rfl) (Nat.le_of_ble_eq_true rfl) dX7_feed_6 rfl ?_
  refine g_if_ne (t := 15) (q := 12) dX7_feed_9 (by decide) rfl (fun c_9 => ?_) (fun c_9 => ?_)
  · rw [bI_n0] at c_9
    rw [show inL b.toInt64 0 255 = wi b 0 255 from inL_i b 0 255] at c_9
    refine g_aload_n (q := 16) dX7_feed_15 rfl rfl ?_
    refine f7_8 (q := 19) wd_856 dX7_feed_16 rfl ?_
    refine g_bipush (q := 21) dX7_feed_19 cb_120 rfl ?_
    refine g_icmp_ne (t := 27) (q := 24) dX7_feed_21 (by decide) rfl (fun c_21 => ?_) (fun c_21 => ?_)
    · have eb := vp_to (lt120 h c_21) (by decide)
      refine g_aload_n (q := 28) dX7_feed_27 rfl rfl ?_
      refine f7_7 (q := 31) wd_855 dX7_feed_28 rfl ?_
      refine g_aload_n (q := 32) dX7_feed_31 rfl rfl ?_
      refine f7_8 (q := 35) wd_856 dX7_feed_32 rfl ?_
      refine g_iload_n (q := 36) dX7_feed_35 rfl rfl ?_
      refine g_iastJ (q := 37) (k := 46) (j := (σ 40 8).toNatClampNeg) (N := 120) (by decide) (by decide) rfl rfl (by decide) eb.1 (by omega) dX7_feed_36 rfl ?_
      refine g_aload_n (q := 38) dX7_feed_37 rfl rfl ?_
      refine g_dup (q := 39) dX7_feed_38 rfl rfl ?_
      refine f7_8 (q := 42) wd_856 dX7_feed_39 rfl ?_
      refine g_iconst (q := 43) dX7_feed_42 ci_1 rfl ?_
      refine g_iadd (q := 44) dX7_feed_43 rfl ?_
      refine p7_8 (q := 47) wd_856 dX7_feed_44 rfl ?_
      refine g_aload_n (q := 48) dX7_feed_47 rfl rfl ?_
      refine f7_8 (q := 51) wd_856 dX7_feed_48 rfl ?_
      exact g_iret dX7_feed_51 (pi_i (by simp only [q_feed, c_9, c_21, not_true_eq_false, not_false_eq_true, if_true, if_false, Bool.true_eq_false, Bool.false_eq_true, reduceIte, reduceCtorEq, upc_same, upd_same, upc_ne (show (40 : Nat) ≠ 46 by decide)]) (by simp only [q_feed, c_9, c_21, not_true_eq_false, not_false_eq_true, if_true, if_false, Bool.true_eq_false, Bool.false_eq_true, reduceIte, reduceCtorEq, upc_same, upd_same, upc_ne (show (40 : Nat) ≠ 46 by decide)]) rfl)
    · refine g_ldc (q := 26) dX7_feed_24 wd_961 rfl ?_
      exact g_iret dX7_feed_26 (pi_i (by simp only [q_feed, c_9, c_21, not_true_eq_false, not_false_eq_true, if_true, if_false, Bool.true_eq_false, Bool.false_eq_true, reduceIte, reduceCtorEq, upc_same, upd_same, upc_ne (show (40 : Nat) ≠ 46 by decide)]) (by simp only [q_feed, c_9, c_21, not_true_eq_false, not_false_eq_true, if_true, if_false, Bool.true_eq_false, Bool.false_eq_true, reduceIte, reduceCtorEq, upc_same, upd_same, upc_ne (show (40 : Nat) ≠ 46 by decide)]) rfl)
  · rw [bI_0] at c_9
    rw [show inL b.toInt64 0 255 = wi b 0 255 from inL_i b 0 255] at c_9
    refine g_ldc (q := 14) dX7_feed_12 wd_931 rfl ?_
    exact g_iret dX7_feed_14 (pi_i (by simp only [q_feed, c_9, not_true_eq_false, not_false_eq_true, if_true, if_false, Bool.true_eq_false, Bool.false_eq_true, reduceIte, reduceCtorEq, upc_same, upd_same, upc_ne (show (40 : Nat) ≠ 46 by decide)]) (by simp only [q_feed, c_9, not_true_eq_false, not_false_eq_true, if_true, if_false, Bool.true_eq_false, Bool.false_eq_true, reduceIte, reduceCtorEq, upc_same, upd_same, upc_ne (show (40 : Nat) ≠ 46 by decide)]) rfl)
theorem sub_l {z n : Int32} : (z.toInt64 - n.toInt64).toInt = z.toInt - n.toInt := by
  have h1 := Int32.toInt_lt z
  have h2 := Int32.le_toInt z
  have h3 := Int32.toInt_lt n
  have h4 := Int32.le_toInt n
  rw [Int64.toInt_sub, Int32.toInt_toInt64, Int32.toInt_toInt64]
  apply Int.bmod_eq_of_le <;> omega
theorem cp_in {z i n : Int32} (hz : z = -1 ∨ vp_in z 41) (h0 : ¬ z < 0) (hn : ¬ n < 0) (h : inL i.toInt64 0 (z.toInt64 - n.toInt64) = true) : (i = nI (i.toNatClampNeg) ∧ n = nI (n.toNatClampNeg)) ∧ i.toNatClampNeg + n.toNatClampNeg ≤ 40 ∧ i.toNatClampNeg + n.toNatClampNeg ≤ z.toNatClampNeg := by
  have hz2 : vp_in z 41 := by
    rcases hz with rfl | hz
    · exact absurd (by decide) h0
    · exact hz
  obtain ⟨ez, bz⟩ := vp_to hz2 (by decide)
  obtain ⟨en, bn⟩ := nn_to hn
  rw [inL_eq, Bool.and_eq_true, decide_eq_true_eq, decide_eq_true_eq] at h
  obtain ⟨h1, h2⟩ := h
  have h3 : ¬ i < 0 := by
    rw [Int32.not_lt]
    exact (i2l_le 0 i).mp h1
  obtain ⟨ei, bi⟩ := nn_to h3
  rw [Int64.le_iff_toInt_le, sub_l, Int32.toInt_toInt64] at h2
  refine ⟨⟨ei, en⟩, ?_⟩
  rw [ez, en, ei, nI_toInt bi, nI_toInt (show z.toNatClampNeg < 2 ^ 31 by omega), nI_toInt bn] at h2
  omega
def q_copy (σ : Sto) (a i b j n : Int32) : Int32 × Sto := if wi a 0 7 = false then (-1000001, σ) else if wi b 0 7 = false then (-1000001, σ) else if σ 42 (a.toNatClampNeg) < 0 then (-1000010 - 1, fndM σ 1) else if 0 ≤ σ 42 (b.toNatClampNeg) then (if σ 41 (a.toNatClampNeg) = σ 41 (b.toNatClampNeg) then (if n < 0 then (-1000010 - 2, fndM σ 2) else if inL i.toInt64 0 ((σ 42 (a.toNatClampNeg)).toInt64 - n.toInt64) = false then (-1000010 - 2, fndM σ 2) else if inL j.toInt64 0 ((σ 42 (b.toNatClampNeg)).toInt64 - n.toInt64) = false then (-1000010 - 2, fndM σ 2) else (n, fndM (upc (upc σ 45 (cpF (σ 43) (σ 45) (40 * a.toNatClampNeg + i.toNatClampNeg) (n.toNatClampNeg))) 43 (va_cpy (σ 43) (σ 43) (40 * a.toNatClampNeg + i.toNatClampNeg) (40 * b.toNatClampNeg + j.toNatClampNeg) (n.toNatClampNeg))) 0)) else (-1000010 - 5, fndM σ 5)) else (-1000010 - 1, fndM σ 1)
set_option maxRecDepth 20000 in
set_option maxHeartbeats 4000000 in
theorem c_X7_copy {E : EE} (hE : inj E 40 13) {σ : Sto} {τ : Stl} {a i b j n : Int32} (sz : SZM σ) : Ct E 40 13 yX7_copy cX7_copy 7 (some FieldType.int) { frames := 2, cells := 0, slots := 0, locals := 45 } [.ref (E.2.1 40), .int a, .int i, .int b, .int j, .int n] σ τ (Pi ((q_copy σ a i b j n).1) ((q_copy σ a i b j n).2) (τ)) := by
  refine ct_of hE RX7 [some (.ref (E.2.1 40)), some (.int a), some (.int i), some (.int b), some (.int j), some (.int n), none] (by decide) rfl (Nat.le_of_ble_eq_true rfl) rfl (fun X => ?_)
  refine g_iload_n (q := 1) dX7_copy_0 rfl rfl ?_
  refine g_callSi (q := 4) (c_X7_isRow hE ) lk_RX7_58 rfl rfl rfl rfl (Nat.le_of_ble_eq_true rfl) (Nat.le_of_ble_eq_true rfl) (Nat.le_of_ble_eq_true rfl) dX7_copy_1 rfl ?_
  refine g_if_eq (t := 14) (q := 7) dX7_copy_4 (by decide) rfl (fun c_4 => ?_) (fun c_4 => ?_)
  · rw [bI_0] at c_4
    refine g_ldc (q := 16) dX7_copy_14 wd_931 rfl ?_
    exact g_iret dX7_copy_16 (pi_i (by simp only [q_copy, c_4, not_true_eq_false, not_false_eq_true, if_true, if_false, Bool.true_eq_false, Bool.false_eq_true, reduceIte, reduceCtorEq]) (by simp only [q_copy, c_4, not_true_eq_false, not_false_eq_true, if_true, if_false, Bool.true_eq_false, Bool.false_eq_true, reduceIte, reduceCtorEq]) rfl)
  · rw [bI_n0] at c_4
    refine g_iload_n (q := 8) dX7_copy_7 rfl rfl ?_
    refine g_callSi (q := 11) (c_X7_isRow hE ) lk_RX7_58 rfl rfl rfl rfl (Nat.le_of_ble_eq_true rfl) (Nat.le_of_ble_eq_true rfl) (Nat.le_of_ble_eq_true rfl) dX7_copy_8 rfl ?_
    refine g_if_ne (t := 17) (q := 14) dX7_copy_11 (by decide) rfl (fun c_11 => ?_) (fun c_11 => ?_)
    · rw [bI_n0] at c_11
      have ea := vp_to (wi_in (N := 8) c_4 (by decide) (by decide)) (by decide)
      have eb := vp_to (wi_in (N := 8) c_11 (by decide) (by decide)) (by decide)
      refine g_aload_n (q := 18) dX7_copy_17 rfl rfl ?_
      refine f7_1 (q := 21) wd_849 dX7_copy_18 rfl ?_
      refine g_iload_n (q := 22) dX7_copy_21 rfl rfl ?_
      refine g_ialdJ (q := 23) (k := 42) (j := a.toNatClampNeg) (N := 8) (by decide) (by decide) rfl rfl (by decide) ea.1 (by omega) dX7_copy_22 rfl ?_
      refine g_if_lt (t := 35) (q := 26) dX7_copy_23 (by decide) rfl (fun c_23 => ?_) (fun c_23 => ?_)
      · refine g_aload_n (q := 36) dX7_copy_35 rfl rfl ?_
        refine g_iconst (q := 37) dX7_copy_36 ci_1 rfl ?_
        refine g_callVi (q := 40) (c_X7_find hE ) lk_RX7_65 (by decide) (by decide) rfl (by decide) rfl rfl rfl rfl rfl rfl (Nat.le_of_ble_eq_true rfl) (Nat.le_of_ble_eq_true rfl) (Nat.le_of_ble_eq_true rfl) dX7_copy_37 rfl ?_
        exact g_iret dX7_copy_40 (pi_i (by simp only [q_copy, c_4, c_11, c_23, not_true_eq_false, not_false_eq_true, if_true, if_false, Bool.true_eq_false, Bool.false_eq_true, reduceIte, reduceCtorEq]) (by simp only [q_copy, c_4, c_11, c_23, not_true_eq_false, not_false_eq_true, if_true, if_false, Bool.true_eq_false, Bool.false_eq_true, reduceIte, reduceCtorEq]) rfl)
      · refine g_aload_n (q := 27) dX7_copy_26 rfl rfl ?_
        refine f7_1 (q := 30) wd_849 dX7_copy_27 rfl ?_
        refine g_iload_n (q := 31) dX7_copy_30 rfl rfl ?_
        refine g_ialdJ (q := 32) (k := 42) (j := b.toNatClampNeg) (N := 8) (by decide) (by decide) rfl rfl (by decide) eb.1 (by omega) dX7_copy_31 rfl ?_
        refine g_if_ge (t := 41) (q := 35) dX7_copy_32 (by decide) rfl (fun c_32 => ?_) (fun c_32 => ?_)
        · refine g_aload_n (q := 42) dX7_copy_41 rfl rfl ?_
          refine f7_0 (q := 45) wd_848 dX7_copy_42 rfl ?_
          refine g_iload_n (q := 46) dX7_copy_45 rfl rfl ?_
          refine g_ialdJ (q := 47) (k := 41) (j := a.toNatClampNeg) (N := 8) (by decide) (by decide) rfl rfl (by decide) ea.1 (by omega) dX7_copy_46 rfl ?_
          refine g_aload_n (q := 48) dX7_copy_47 rfl rfl ?_
          refine f7_0 (q := 51) wd_848 dX7_copy_48 rfl ?_
          refine g_iload_n (q := 52) dX7_copy_51 rfl rfl ?_
          refine g_ialdJ (q := 53) (k := 41) (j := b.toNatClampNeg) (N := 8) (by decide) (by decide) rfl rfl (by decide) eb.1 (by omega) dX7_copy_52 rfl ?_
          refine g_icmp_eq (t := 62) (q := 56) dX7_copy_53 (by decide) rfl (fun c_53 => ?_) (fun c_53 => ?_)
          · refine g_iload (q := 64) dX7_copy_62 rfl rfl ?_
            refine g_if_lt (t := 108) (q := 67) dX7_copy_64 (by decide) rfl (fun c_64 => ?_) (fun c_64 => ?_)
            · refine g_aload_n (q := 109) dX7_copy_108 rfl rfl ?_
              refine g_iconst (q := 110) dX7_copy_109 ci_2 rfl ?_
              refine g_callVi (q := 113) (c_X7_find hE ) lk_RX7_65 (by decide) (by decide) rfl (by decide) rfl rfl rfl rfl rfl rfl (Nat.le_of_ble_eq_true rfl) (Nat.le_of_ble_eq_true rfl) (Nat.le_of_ble_eq_true rfl) dX7_copy_110 rfl ?_
              exact g_iret dX7_copy_113 (pi_i (by simp only [q_copy, c_4, c_11, c_23, c_32, c_53, c_64, not_true_eq_false, not_false_eq_true, if_true, if_false, Bool.true_eq_false, Bool.false_eq_true, reduceIte, reduceCtorEq]) (by simp only [q_copy, c_4, c_11, c_23, c_32, c_53, c_64, not_true_eq_false, not_false_eq_true, if_true, if_false, Bool.true_eq_false, Bool.false_eq_true, reduceIte, reduceCtorEq]) rfl)
            · refine g_iload_n (q := 68) dX7_copy_67 rfl rfl ?_
              refine g_i2l (q := 69) dX7_copy_68 rfl ?_
              refine g_lconst (q := 70) dX7_copy_69 cl_0 rfl ?_
              refine g_aload_n (q := 71) dX7_copy_70 rfl rfl ?_
              refine f7_1 (q := 74) wd_849 dX7_copy_71 rfl ?_
              refine g_iload_n (q := 75) dX7_copy_74 rfl rfl ?_
              refine g_ialdJ (q := 76) (k := 42) (j := a.toNatClampNeg) (N := 8) (by decide) (by decide) rfl rfl (by decide) ea.1 (by omega) dX7_copy_75 rfl ?_
              refine g_i2l (q := 77) dX7_copy_76 rfl ?_
              refine g_iload (q := 79) dX7_copy_77 rfl rfl ?_
              refine g_i2l (q := 80) dX7_copy_79 rfl ?_
              refine g_lsub (q := 81) dX7_copy_80 rfl ?_
              refine g_callSi (q := 84) (c_X7_in hE ) lk_RX7_54 rfl rfl rfl rfl (Nat.le_of_ble_eq_true rfl) (Nat.le_of_ble_eq_true rfl) (Nat.le_of_ble_eq_true rfl) dX7_copy_81 rfl ?_
              refine g_if_eq (t := 108) (q := 87) dX7_copy_84 (by decide) rfl (fun c_84 => ?_) (fun c_84 => ?_)
              · rw [bI_0] at c_84
                refine g_aload_n (q := 109) dX7_copy_108 rfl rfl ?_
                refine g_iconst (q := 110) dX7_copy_109 ci_2 rfl ?_
                refine g_callVi (q := 113) (c_X7_find hE ) lk_RX7_65 (by decide) (by decide) rfl (by decide) rfl rfl rfl rfl rfl rfl (Nat.le_of_ble_eq_true rfl) (Nat.le_of_ble_eq_true rfl) (Nat.le_of_ble_eq_true rfl) dX7_copy_110 rfl ?_
                exact g_iret dX7_copy_113 (pi_i (by simp only [q_copy, c_4, c_11, c_23, c_32, c_53, c_64, c_84, not_true_eq_false, not_false_eq_true, if_true, if_false, Bool.true_eq_false, Bool.false_eq_true, reduceIte, reduceCtorEq]) (by simp only [q_copy, c_4, c_11, c_23, c_32, c_53, c_64, c_84, not_true_eq_false, not_false_eq_true, if_true, if_false, Bool.true_eq_false, Bool.false_eq_true, reduceIte, reduceCtorEq]) rfl)
              · rw [bI_n0] at c_84
                refine g_iload (q := 89) dX7_copy_87 rfl rfl ?_
                refine g_i2l (q := 90) dX7_copy_89 rfl ?_
                refine g_lconst (q := 91) dX7_copy_90 cl_0 rfl ?_
                refine g_aload_n (q := 92) dX7_copy_91 rfl rfl ?_
                refine f7_1 (q := 95) wd_849 dX7_copy_92 rfl ?_
                refine g_iload_n (q := 96) dX7_copy_95 rfl rfl ?_
                refine g_ialdJ (q := 97) (k := 42) (j := b.toNatClampNeg) (N := 8) (by decide) (by decide) rfl rfl (by decide) eb.1 (by omega) dX7_copy_96 rfl ?_
                refine g_i2l (q := 98) dX7_copy_97 rfl ?_
                refine g_iload (q := 100) dX7_copy_98 rfl rfl ?_
                refine g_i2l (q := 101) dX7_copy_100 rfl ?_
                refine g_lsub (q := 102) dX7_copy_101 rfl ?_
                refine g_callSi (q := 105) (c_X7_in hE ) lk_RX7_54 rfl rfl rfl rfl (Nat.le_of_ble_eq_true rfl) (Nat.le_of_ble_eq_true rfl) (Nat.le_of_ble_eq_true rfl) dX7_copy_102 rfl ?_
                refine g_if_ne (t := 114) (q := 108) dX7_copy_105 (by decide) rfl (fun c_105 => ?_) (fun c_105 => ?_)
                · rw [bI_n0] at c_105
                  have q1 := cp_in (sz _ ea.2) c_23 c_64 c_84
                  have q2 := cp_in (sz _ eb.2) (fun z => absurd c_32 (Int32.not_le.mpr z)) c_64 c_105
                  refine g_iconst (q := 115) dX7_copy_114 ci_0 rfl ?_
                  refine g_istore (q := 117) dX7_copy_115 (by decide) rfl rfl ?_
                  refine g_for (I := fun k => [some (.ref (E.2.1 40)), some (.int a), some (.int i), some (.int b), some (.int j), some (.int n), some (.int (nI k))]) (S := fun k => upc σ 45 (cpF (σ 43) (σ 45) (40 * a.toNatClampNeg + i.toNatClampNeg) k)) (T := fun k => τ) (0) (n.toNatClampNeg) (Nat.zero_le _) (by rfl) (by rw [cpF_0]; exact (upc_id _ 45).symm) (by rfl) (fun k k0 k1 kk_k => ?_) ?_
                  · have hck : (nI k).toNatClampNeg = k := nI_clamp (by omega)
                    refine g_iload (q := 119) dX7_copy_117 rfl rfl ?_
                    refine g_iload (q := 121) dX7_copy_119 rfl rfl ?_
                    refine g_icmp_ge (t := 151) (q := 124) dX7_copy_121 (by decide) rfl (fun c_121 => ?_) (fun c_121 => ?_)
                    · exact absurd c_121 (lp_in (by exact q1.1.2) (by omega) k1)
                    · refine g_aload_n (q := 125) dX7_copy_124 rfl rfl ?_
                      refine f7_6 (q := 128) wd_854 dX7_copy_125 rfl ?_
                      refine g_iload (q := 130) dX7_copy_128 rfl rfl ?_
                      refine g_aload_n (q := 131) dX7_copy_130 rfl rfl ?_
                      refine f7_2 (q := 134) wd_850 dX7_copy_131 rfl ?_
                      refine g_bipush (q := 136) dX7_copy_134 cb_40 rfl ?_
                      refine g_iload_n (q := 137) dX7_copy_136 rfl rfl ?_
                      refine g_imul (q := 138) dX7_copy_137 rfl ?_
                      refine g_iload_n (q := 139) dX7_copy_138 rfl rfl ?_
                      refine g_iadd (q := 140) dX7_copy_139 rfl ?_
                      refine g_iload (q := 142) dX7_copy_140 rfl rfl ?_
                      refine g_iadd (q := 143) dX7_copy_142 rfl ?_
                      refine g_ialdJ (q := 144) (k := 43) (j := (((40 * a.toNatClampNeg) + i.toNatClampNeg) + k)) (N := 320) (by decide) (by decide) rfl rfl (by decide) (ad2 (ad2 (mu2 (show (40 : Int32) = nI 40 from rfl) ea.1) q1.1.1) rfl) (by omega) dX7_copy_143 rfl ?_
                      refine g_iastJ (q := 145) (k := 45) (j := k) (N := 40) (by decide) (by decide) rfl rfl (by decide) rfl (by omega) dX7_copy_144 rfl ?_
                      refine g_iinc (q := 148) dX7_copy_145 rfl ci_1 (by decide) rfl rfl ?_
                      refine g_goto (t := 117) dX7_copy_148 (by decide) ?_
                      exact g_eqw kk_k (by simp [lsub, nI_succ]) (by rw [upc_upc, upc_same, upc_ne (show (43 : Nat) ≠ 45 by decide), cpF_s]) rfl
                  · refine g_iload (q := 119) dX7_copy_117 rfl rfl ?_
                    refine g_iload (q := 121) dX7_copy_119 rfl rfl ?_
                    refine g_icmp_ge (t := 151) (q := 124) dX7_copy_121 (by decide) rfl (fun c_121 => ?_) (fun c_121 => ?_)
                    · refine g_iconst (q := 152) dX7_copy_151 ci_0 rfl ?_
                      refine g_istore (q := 154) dX7_copy_152 (by decide) rfl rfl ?_
                      refine g_for (I := fun k => [some (.ref (E.2.1 40)), some (.int a), some (.int i), some (.int b), some (.int j), some (.int n), some (.int (nI k))]) (S := fun k => upc (upc σ 45 (cpF (σ 43) (σ 45) (40 * a.toNatClampNeg + i.toNatClampNeg) (n.toNatClampNeg))) 43 (va_cpy (σ 43) (σ 43) (40 * a.toNatClampNeg + i.toNatClampNeg) (40 * b.toNatClampNeg + j.toNatClampNeg) k)) (T := fun k => τ) (0) (n.toNatClampNeg) (Nat.zero_le _) (by simp [nI_0]) (by rw [cpy_0]; exact (upc_idx () (upc_ne (by decide))).symm) (by rfl) (fun k k0 k1 kk_k => ?_) ?_
                      · have hck : (nI k).toNatClampNeg = k := nI_clamp (by omega)
                        refine g_iload (q := 156) dX7_copy_154 rfl rfl ?_
                        refine g_iload (q := 158) dX7_copy_156 rfl rfl ?_
                        refine g_icmp_ge (t := 189) (q := 161) dX7_copy_158 (by decide) rfl (fun c_158 => ?_) (fun c_158 => ?_)
                        · exact absurd c_158 (lp_in (by exact q1.1.2) (by omega) k1)
                        · refine g_aload_n (q := 162) dX7_copy_161 rfl rfl ?_
                          refine f7_2 (q := 165) wd_850 dX7_copy_162 rfl ?_
                          refine g_bipush (q := 167) dX7_copy_165 cb_40 rfl ?_
                          refine g_iload_n (q := 168) dX7_copy_167 rfl rfl ?_
                          refine g_imul (q := 169) dX7_copy_168 rfl ?_
                          refine g_iload (q := 171) dX7_copy_169 rfl rfl ?_
                          refine g_iadd (q := 172) dX7_copy_171 rfl ?_
                          refine g_iload (q := 174) dX7_copy_172 rfl rfl ?_
                          refine g_iadd (q := 175) dX7_copy_174 rfl ?_
                          refine g_aload_n (q := 176) dX7_copy_175 rfl rfl ?_
                          refine f7_6 (q := 179) wd_854 dX7_copy_176 rfl ?_
                          refine g_iload (q := 181) dX7_copy_179 rfl rfl ?_
                          refine g_ialdJ (q := 182) (k := 45) (j := k) (N := 40) (by decide) (by decide) rfl rfl (by decide) rfl (by omega) dX7_copy_181 rfl ?_
                          refine g_iastJ (q := 183) (k := 43) (j := (((40 * b.toNatClampNeg) + j.toNatClampNeg) + k)) (N := 320) (by decide) (by decide) rfl rfl (by decide) (ad2 (ad2 (mu2 (show (40 : Int32) = nI 40 from rfl) eb.1) q2.1.1) rfl) (by omega) dX7_copy_182 rfl ?_
                          refine g_iinc (q := 186) dX7_copy_183 rfl ci_1 (by decide) rfl rfl ?_
                          refine g_goto (t := 154) dX7_copy_186 (by decide) ?_
                          exact g_eqw kk_k (by simp [lsub, nI_succ]) (by rw [upc_upc, upc_same, upc_ne (show (45 : Nat) ≠ 43 by decide), upc_same]; congr 1; rw [← cpy_s]; congr 1; exact if_pos k1) rfl
                      · refine g_iload (q := 156) dX7_copy_154 rfl rfl ?_
                        refine g_iload (q := 158) dX7_copy_156 rfl rfl ?_
                        refine g_icmp_ge (t := 189) (q := 161) dX7_copy_158 (by decide) rfl (fun c_158 => ?_) (fun c_158 => ?_)
                        · refine g_aload_n (q := 190) dX7_copy_189 rfl rfl ?_
                          refine g_iload (q := 192) dX7_copy_190 rfl rfl ?_
                          refine g_callVi (q := 195) (c_X7_well hE ) lk_RX7_69 (by decide) (by decide) rfl (by decide) rfl rfl rfl rfl rfl rfl (Nat.le_of_ble_eq_true rfl) (Nat.le_of_ble_eq_true rfl) (Nat.le_of_ble_eq_true rfl) dX7_copy_192 rfl ?_
                          exact g_iret dX7_copy_195 (pi_i (by simp only [q_copy, c_4, c_11, c_23, c_32, c_53, c_64, c_84, c_105, c_121, c_158, not_true_eq_false, not_false_eq_true, if_true, if_false, Bool.true_eq_false, Bool.false_eq_true, reduceIte, reduceCtorEq]) (by simp only [q_copy, c_4, c_11, c_23, c_32, c_53, c_64, c_84, c_105, c_121, c_158, not_true_eq_false, not_false_eq_true, if_true, if_false, Bool.true_eq_false, Bool.false_eq_true, reduceIte, reduceCtorEq]) rfl)
                        · exact absurd (lp_out (by exact q1.1.2)) c_158
                    · exact absurd (lp_out (by exact q1.1.2)) c_121
                · rw [bI_0] at c_105
                  refine g_aload_n (q := 109) dX7_copy_108 rfl rfl ?_
                  refine g_iconst (q := 110) dX7_copy_109 ci_2 rfl ?_
                  refine g_callVi (q := 113) (c_X7_find hE ) lk_RX7_65 (by decide) (by decide) rfl (by decide) rfl rfl rfl rfl rfl rfl (Nat.le_of_ble_eq_true rfl) (Nat.le_of_ble_eq_true rfl) (Nat.le_of_ble_eq_true rfl) dX7_copy_110 rfl ?_
                  exact g_iret dX7_copy_113 (pi_i (by simp only [q_copy, c_4, c_11, c_23, c_32, c_53, c_64, c_84, c_105, not_true_eq_false, not_false_eq_true, if_true, if_false, Bool.true_eq_false, Bool.false_eq_true, reduceIte, reduceCtorEq]) (by simp only [q_copy, c_4, c_11, c_23, c_32, c_53, c_64, c_84, c_105, not_true_eq_false, not_false_eq_true, if_true, if_false, Bool.true_eq_false, Bool.false_eq_true, reduceIte, reduceCtorEq]) rfl)
          · refine g_aload_n (q := 57) dX7_copy_56 rfl rfl ?_
            refine g_iconst (q := 58) dX7_copy_57 ci_5 rfl ?_
            refine g_callVi (q := 61) (c_X7_find hE ) lk_RX7_65 (by decide) (by decide) rfl (by decide) rfl rfl rfl rfl rfl rfl (Nat.le_of_ble_eq_true rfl) (Nat.le_of_ble_eq_true rfl) (Nat.le_of_ble_eq_true rfl) dX7_copy_58 rfl ?_
            exact g_iret dX7_copy_61 (pi_i (by simp only [q_copy, c_4, c_11, c_23, c_32, c_53, not_true_eq_false, not_false_eq_true, if_true, if_false, Bool.true_eq_false, Bool.false_eq_true, reduceIte, reduceCtorEq]) (by simp only [q_copy, c_4, c_11, c_23, c_32, c_53, not_true_eq_false, not_false_eq_true, if_true, if_false, Bool.true_eq_false, Bool.false_eq_true, reduceIte, reduceCtorEq]) rfl)
        · refine g_aload_n (q := 36) dX7_copy_35 rfl rfl ?_
          refine g_iconst (q := 37) dX7_copy_36 ci_1 rfl ?_
          refine g_callVi (q := 40) (c_X7_find hE ) lk_RX7_65 (by decide) (by decide) rfl (by decide) rfl rfl rfl rfl rfl rfl (Nat.le_of_ble_eq_true rfl) (Nat.le_of_ble_eq_true rfl) (Nat.le_of_ble_eq_true rfl) dX7_copy_37 rfl ?_
          exact g_iret dX7_copy_40 (pi_i (by simp only [q_copy, c_4, c_11, c_23, c_32, not_true_eq_false, not_false_eq_true, if_true, if_false, Bool.true_eq_false, Bool.false_eq_true, reduceIte, reduceCtorEq]) (by simp only [q_copy, c_4, c_11, c_23, c_32, not_true_eq_false, not_false_eq_true, if_true, if_false, Bool.true_eq_false, Bool.false_eq_true, reduceIte, reduceCtorEq]) rfl)
    · rw [bI_0] at c_11
      refine g_ldc (q := 16) dX7_copy_14 wd_931 rfl ?_
      exact g_iret dX7_copy_16 (pi_i (by simp only [q_copy, c_4, c_11, not_true_eq_false, not_false_eq_true, if_true, if_false, Bool.true_eq_false, Bool.false_eq_true, reduceIte, reduceCtorEq]) (by simp only [q_copy, c_4, c_11, not_true_eq_false, not_false_eq_true, if_true, if_false, Bool.true_eq_false, Bool.false_eq_true, reduceIte, reduceCtorEq]) rfl)
