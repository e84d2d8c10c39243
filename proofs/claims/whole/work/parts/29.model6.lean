theorem wi_m1 {v z : Int32} {N : Nat} (hN : N + 1 < 2 ^ 31) (hz : vp_in z (N + 1)) (h : wi v 0 (z - 1) = true) : vp_in v N := by
  obtain ⟨e, hl⟩ := vp_to hz (by omega)
  simp only [wi, Bool.and_eq_true, decide_eq_true_eq] at h
  obtain ⟨ei, bi⟩ := nn_to (Int32.not_lt.mpr h.1)
  have h2 := h.2
  rw [e] at h2
  generalize z.toNatClampNeg = Z at *
  rw [ei] at h2 ⊢
  refine vp_in_nI ?_ (by omega)
  rcases Nat.eq_zero_or_pos Z with q | q
  · subst q
    exact absurd (Int32.le_trans (nI_pos' bi) h2) (by decide)
  · obtain ⟨M, rfl⟩ : ∃ M, Z = M + 1 := ⟨Z - 1, by omega⟩
    rw [nI_pred] at h2
    have := (nI_leI bi (by omega)).mp h2
    omega
theorem roomM {m : Nat → Int32} (w : WFM m) {v : Int32} (h : wi v 0 (m 0 - 1) = true) : v = nI (v.toNatClampNeg) ∧ v.toNatClampNeg < 6 := vp_to (wi_m1 (by decide) w.1.1 h) (by decide)
theorem doorM {m : Nat → Int32} (w : WFM m) {v : Int32} (h : wi v 0 (m 4 - 1) = true) : v = nI (v.toNatClampNeg) ∧ v.toNatClampNeg < 8 := vp_to (wi_m1 (by decide) w.1.2.2.1 h) (by decide)
theorem sitM {m : Nat → Int32} (w : WFM m) {v : Int32} (h : wi v 0 (m 5 - 1) = true) : v = nI (v.toNatClampNeg) ∧ v.toNatClampNeg < 5 := vp_to (wi_m1 (by decide) w.1.2.2.2 h) (by decide)
theorem note_ne (σ : Sto) {k : Nat} (h1 : k ≠ 48) (h2 : k ≠ 40) : q_note σ k = σ k := by
  unfold q_note
  split <;> rw [upc_ne h2, upc_ne h1]
theorem note_17 {σ : Sto} (h : vp_in (σ 40 17) 25) : vp_in (q_note σ 40 17) 25 := by
  unfold q_note
  split
  · rw [upc_same, upd_same]
    exact vp_in_nI (n := 24) (by decide) (by decide)
  · rename_i hc
    rw [upc_same, upd_same]
    have e := vp_to (lt24 h hc) (by decide)
    rw [e.1, nI_1]
    exact vp_in_nI (by omega) (by decide)
def nS (σ : Sto) : Nat → Sto
  | 0 => σ
  | i + 1 => upc (q_note (nS σ i)) 44 (q_hour (q_note (nS σ i) 44))
theorem nS_ok {σ : Sto} (w : WFM (σ 44)) (h : vp_in (σ 40 17) 25) (i : Nat) : WFM (nS σ i 44) ∧ vp_in (nS σ i 40 17) 25 := by
  induction i with
  | zero => exact ⟨w, h⟩
  | succ i ih =>
    refine ⟨?_, ?_⟩
    · show WFM (upc (q_note (nS σ i)) 44 (q_hour (q_note (nS σ i) 44)) 44)
      rw [upc_same, note_ne _ (by decide) (by decide)]
      exact wfm_hour ih.1
    · show vp_in (upc (q_note (nS σ i)) 44 (q_hour (q_note (nS σ i) 44)) 40 17) 25
      rw [upc_ne (by decide)]
      exact note_17 ih.2
def q_hours (σ : Sto) (n : Int32) : Int32 × Sto := if σ 40 4 = 0 then (-1000002, σ) else if wi n 1 24 = false then (-1000001, σ) else if σ 44 6 + n ≤ 999 then (s_ac (fun r => nS σ (n.toNatClampNeg) 44 (7 + r)) ((nS σ (n.toNatClampNeg) 44 0).toNatClampNeg), nS σ (n.toNatClampNeg)) else (-1000003, σ)
def doS (σ : Sto) (d o : Int32) : Sto := upc (q_note σ) 44 (upd (σ 44) (29 + d.toNatClampNeg) o)
def q_door (σ : Sto) (d o : Int32) : Int32 × Sto := if wi d 0 (σ 44 4 - 1) = false then (-1000001, σ) else if wi o 0 1 = false then (-1000001, σ) else if σ 44 (29 + d.toNatClampNeg) = o then (-1000002, σ) else (s_opM (doS σ d o 44) ((doS σ d o 44 4).toNatClampNeg), doS σ d o)
def q_sit (σ : Sto) (s r : Int32) : Int32 × Sto := if wi s 0 (σ 44 5 - 1) = false then (-1000001, σ) else if wi r 0 (σ 44 0 - 1) = false then (-1000001, σ) else if σ 44 (42 + s.toNatClampNeg) = r then (-1000002, σ) else (σ 44 (42 + s.toNatClampNeg), upc (q_note σ) 44 (upd (σ 44) (42 + s.toNatClampNeg) r))
def q_doorHas (σ : Sto) (d u : Int32) : Int32 × Sto := if wi d 0 (σ 44 4 - 1) = false then (-1000001, σ) else if wi u 0 2 = false then (-1000001, σ) else if u = 0 then (σ 44 (13 + d.toNatClampNeg), σ) else if u = 1 then (σ 44 (21 + d.toNatClampNeg), σ) else (σ 44 (29 + d.toNatClampNeg), σ)
def q_sitter (σ : Sto) (s u : Int32) : Int32 × Sto := if wi s 0 (σ 44 5 - 1) = false then (-1000001, σ) else if wi u 0 2 = false then (-1000001, σ) else if u = 0 then (σ 44 (42 + s.toNatClampNeg), σ) else if u = 1 then (σ 44 (47 + s.toNatClampNeg), σ) else (bI (cldM (σ 44) (s.toNatClampNeg)), σ)
def q_kind (σ : Sto) (s : Int32) : Int32 × Sto := if wi s 0 (σ 44 5 - 1) = false then (-1000001, σ) else (σ 44 (37 + s.toNatClampNeg), σ)
def isK (o k : Int32) : Bool := k == 0 || o == k || (k == 1 && decide (o < 4)) || (k == 4 && o == 5)
def q_as (σ : Sto) (s k : Int32) : Int32 × Sto := if wi s 0 (σ 44 5 - 1) = false then (-1000001, σ) else if wi k 0 5 = false then (-1000001, σ) else if isK (σ 44 (37 + s.toNatClampNeg)) k = false then (-1000010 - 3, fndM σ 3) else (s, fndM σ 0)
theorem wfm_door {m : Nat → Int32} (w : WFM m) {d : Nat} (hd : d < 8) {o : Int32} : WFM (upd m (29 + d) o) := by
  unfold WFM
  rw [upd_ne (show (0 : Nat) ≠ 29 + d by omega), upd_ne (show (1 : Nat) ≠ 29 + d by omega), upd_ne (show (4 : Nat) ≠ 29 + d by omega), upd_ne (show (5 : Nat) ≠ 29 + d by omega)]
  refine ⟨w.1, fun i hi => ?_, fun i hi => ?_⟩
  · rw [upd_ne (show 13 + i ≠ 29 + d by omega), upd_ne (show 21 + i ≠ 29 + d by omega)]; exact w.2.1 i hi
  · rw [upd_ne (show 42 + i ≠ 29 + d by omega)]; exact w.2.2 i hi
set_option maxRecDepth 20000 in
set_option maxHeartbeats 4000000 in
theorem c_X7_hours {E : EE} (hE : inj E 40 13) {σ : Sto} {τ : Stl} {n : Int32} (w : WFM (σ 44)) (h : vp_in (σ 40 17) 25) : Ct E 40 13 yX7_hours cX7_hours 3 (some FieldType.int) { frames := 3, cells := 0, slots := 0, locals := 72 } [.ref (E.2.1 40), .int n] σ τ (Pi ((q_hours σ n).1) ((q_hours σ n).2) (τ)) := by
  refine ct_of hE RX7 [some (.ref (E.2.1 40)), some (.int n), none] (by decide) rfl (Nat.le_of_ble_eq_true rfl) rfl (fun X => ?_)
  refine g_aload_n (q := 1) dX7_hours_0 rfl rfl ?_
  refine f7_4 (q := 4) wd_852 dX7_hours_1 rfl ?_
  refine g_if_ne (t := 10) (q := 7) dX7_hours_4 (by decide) rfl (fun c_4 => ?_) (fun c_4 => ?_)
  · refine g_iload_n (q := 11) dX7_hours_10 rfl rfl ?_
    refine g_i2l (q := 12) dX7_hours_11 rfl ?_
    refine g_lconst (q := 13) dX7_hours_12 cl_1 rfl ?_
    refine g_ldc2 (q := 16) dX7_hours_13 wd_1016 rfl ?_
    refine g_callSi (q := 19) (c_X7_in hE ) lk_RX7_54 rfl rfl rfl rfl (Nat.le_of_ble_eq_true rfl) (Nat.le_of_ble_eq_true rfl) (Nat.le_of_ble_eq_true rfl) dX7_hours_16 rfl ?_
    refine g_if_ne (t := 25) (q := 22) dX7_hours_19 (by decide) rfl (fun c_19 => ?_) (fun c_19 => ?_)
    · rw [bI_n0] at c_19
      rw [show inL n.toInt64 1 24 = wi n 1 24 from inL_i n 1 24] at c_19
      refine g_aload_n (q := 26) dX7_hours_25 rfl rfl ?_
      refine f7_5 (q := 29) wd_853 dX7_hours_26 rfl ?_
      refine g_bipush (q := 31) dX7_hours_29 cb_6 rfl ?_
      refine g_ialdJ (q := 32) (k := 44) (j := 6) (N := 52) (by decide) (by decide) rfl rfl (by decide) (show (6 : Int32) = nI 6 from rfl) (by omega) dX7_hours_31 rfl ?_
      refine g_iload_n (q := 33) dX7_hours_32 rfl rfl ?_
      refine g_iadd (q := 34) dX7_hours_33 rfl ?_
      refine g_sipush (q := 37) dX7_hours_34 cs_999 rfl ?_
      refine g_icmp_le (t := 43) (q := 40) dX7_hours_37 (by decide) rfl (fun c_37 => ?_) (fun c_37 => ?_)
      · obtain ⟨en, bn⟩ := vp_to (wi_in (N := 25) c_19 (by decide) (by decide)) (by decide)
        refine g_iconst (q := 44) dX7_hours_43 ci_0 rfl ?_
        refine g_istore_n (j := 2) (q := 45) dX7_hours_44 rfl (by decide) rfl rfl ?_
        refine g_for (I := fun i => [some (.ref (E.2.1 40)), some (.int n), some (.int (nI i))]) (S := fun i => nS σ i) (T := fun i => τ) (0) (n.toNatClampNeg) (Nat.zero_le _) (by rfl) (by rfl) (by rfl) (fun i i0 i1 kk_i => ?_) ?_
        · have hci : (nI i).toNatClampNeg = i := nI_clamp (by omega)
          refine g_iload_n (q := 46) dX7_hours_45 rfl rfl ?_
          refine g_iload_n (q := 47) dX7_hours_46 rfl rfl ?_
          refine g_icmp_ge (t := 64) (q := 50) dX7_hours_47 (by decide) rfl (fun c_47 => ?_) (fun c_47 => ?_)
          · exact absurd c_47 (lp_in (by exact en) (by omega) i1)
          · refine g_aload_n (q := 51) dX7_hours_50 rfl rfl ?_
            refine g_callVv (q := 54) (c_X7_note hE (nS_ok w h i).2) lk_RX7_156 (by decide) (by decide) rfl (by decide) rfl rfl rfl rfl rfl rfl (Nat.le_of_ble_eq_true rfl) (Nat.le_of_ble_eq_true rfl) (Nat.le_of_ble_eq_true rfl) dX7_hours_51 rfl ?_
            refine g_aload_n (q := 55) dX7_hours_54 rfl rfl ?_
            refine g_callVv (q := 58) (c_X7_oneHour hE (by rw [note_ne _ (by decide) (by decide)]; exact (nS_ok w h i).1)) lk_RX7_159 (by decide) (by decide) rfl (by decide) rfl rfl rfl rfl rfl rfl (Nat.le_of_ble_eq_true rfl) (Nat.le_of_ble_eq_true rfl) (Nat.le_of_ble_eq_true rfl) dX7_hours_55 rfl ?_
            refine g_iinc (q := 61) dX7_hours_58 rfl ci_1 (by decide) rfl rfl ?_
            refine g_goto (t := 45) dX7_hours_61 (by decide) ?_
            exact g_eqw kk_i (by simp [lsub, nI_succ]) rfl rfl
        · refine g_iload_n (q := 46) dX7_hours_45 rfl rfl ?_
          refine g_iload_n (q := 47) dX7_hours_46 rfl rfl ?_
          refine g_icmp_ge (t := 64) (q := 50) dX7_hours_47 (by decide) rfl (fun c_47 => ?_) (fun c_47 => ?_)
          · refine g_aload_n (q := 65) dX7_hours_64 rfl rfl ?_
            refine g_callVi (q := 68) (c_X7_allCold hE (nS_ok w h _).1) lk_RX7_162 (by decide) (by decide) rfl (by decide) rfl rfl rfl rfl rfl rfl (Nat.le_of_ble_eq_true rfl) (Nat.le_of_ble_eq_true rfl) (Nat.le_of_ble_eq_true rfl) dX7_hours_65 rfl ?_
            exact g_iret dX7_hours_68 (pi_i (by simp only [q_hours, c_4, c_19, c_37, c_47, not_true_eq_false, not_false_eq_true, if_true, if_false, Bool.true_eq_false, Bool.false_eq_true, reduceIte, reduceCtorEq]) (by simp only [q_hours, c_4, c_19, c_37, c_47, not_true_eq_false, not_false_eq_true, if_true, if_false, Bool.true_eq_false, Bool.false_eq_true, reduceIte, reduceCtorEq]) rfl)
          · exact absurd (lp_out (by exact en)) c_47
      · refine g_ldc (q := 42) dX7_hours_40 wd_961 rfl ?_
        exact g_iret dX7_hours_42 (pi_i (by simp only [q_hours, c_4, c_19, c_37, not_true_eq_false, not_false_eq_true, if_true, if_false, Bool.true_eq_false, Bool.false_eq_true, reduceIte, reduceCtorEq]) (by simp only [q_hours, c_4, c_19, c_37, not_true_eq_false, not_false_eq_true, if_true, if_false, Bool.true_eq_false, Bool.false_eq_true, reduceIte, reduceCtorEq]) rfl)
    · rw [bI_0] at c_19
      rw [show inL n.toInt64 1 24 = wi n 1 24 from inL_i n 1 24] at c_19
      refine g_ldc (q := 24) dX7_hours_22 wd_931 rfl ?_
      exact g_iret dX7_hours_24 (pi_i (by simp only [q_hours, c_4, c_19, not_true_eq_false, not_false_eq_true, if_true, if_false, Bool.true_eq_false, Bool.false_eq_true, reduceIte, reduceCtorEq]) (by simp only [q_hours, c_4, c_19, not_true_eq_false, not_false_eq_true, if_true, if_false, Bool.true_eq_false, Bool.false_eq_true, reduceIte, reduceCtorEq]) rfl)
  · refine g_ldc (q := 9) dX7_hours_7 wd_1011 rfl ?_
    exact g_iret dX7_hours_9 (pi_i (by simp only [q_hours, c_4, not_true_eq_false, not_false_eq_true, if_true, if_false, Bool.true_eq_false, Bool.false_eq_true, reduceIte, reduceCtorEq]) (by simp only [q_hours, c_4, not_true_eq_false, not_false_eq_true, if_true, if_false, Bool.true_eq_false, Bool.false_eq_true, reduceIte, reduceCtorEq]) rfl)
set_option maxRecDepth 20000 in
set_option maxHeartbeats 4000000 in
theorem c_X7_door {E : EE} (hE : inj E 40 13) {σ : Sto} {τ : Stl} {d o : Int32} (w : WFM (σ 44)) (h : vp_in (σ 40 17) 25) : Ct E 40 13 yX7_door cX7_door 3 (some FieldType.int) { frames := 2, cells := 0, slots := 0, locals := 46 } [.ref (E.2.1 40), .int d, .int o] σ τ (Pi ((q_door σ d o).1) ((q_door σ d o).2) (τ)) := by
  refine ct_of hE RX7 [some (.ref (E.2.1 40)), some (.int d), some (.int o)] (by decide) rfl (Nat.le_of_ble_eq_true rfl) rfl (fun X => ?_)
  refine g_aload_n (q := 1) dX7_door_0 rfl rfl ?_
  refine g_iload_n (q := 2) dX7_door_1 rfl rfl ?_
  refine g_callVi (q := 5) (c_X7_isDoor hE ) lk_RX7_166 (by decide) (by decide) rfl (by decide) rfl rfl rfl rfl rfl rfl (Nat.le_of_ble_eq_true rfl) (Nat.le_of_ble_eq_true rfl) (Nat.le_of_ble_eq_true rfl) dX7_door_2 rfl ?_
  refine g_if_eq (t := 18) (q := 8) dX7_door_5 (by decide) rfl (fun c_5 => ?_) (fun c_5 => ?_)
  · rw [bI_0] at c_5
    refine g_ldc (q := 20) dX7_door_18 wd_931 rfl ?_
    exact g_iret dX7_door_20 (pi_i (by simp only [q_door, c_5, not_true_eq_false, not_false_eq_true, if_true, if_false, Bool.true_eq_false, Bool.false_eq_true, reduceIte, reduceCtorEq]) (by simp only [q_door, c_5, not_true_eq_false, not_false_eq_true, if_true, if_false, Bool.true_eq_false, Bool.false_eq_true, reduceIte, reduceCtorEq]) rfl)
  · rw [bI_n0] at c_5
    refine g_iload_n (q := 9) dX7_door_8 rfl rfl ?_
    refine g_i2l (q := 10) dX7_door_9 rfl ?_
    refine g_lconst (q := 11) dX7_door_10 cl_0 rfl ?_
    refine g_lconst (q := 12) dX7_door_11 cl_1 rfl ?_
    refine g_callSi (q := 15) (c_X7_in hE ) lk_RX7_54 rfl rfl rfl rfl (Nat.le_of_ble_eq_true rfl) (Nat.le_of_ble_eq_true rfl) (Nat.le_of_ble_eq_true rfl) dX7_door_12 rfl ?_
    refine g_if_ne (t := 21) (q := 18) dX7_door_15 (by decide) rfl (fun c_15 => ?_) (fun c_15 => ?_)
    · rw [bI_n0] at c_15
      rw [show inL o.toInt64 0 1 = wi o 0 1 from inL_i o 0 1] at c_15
      have ed := doorM w c_5
      refine g_aload_n (q := 22) dX7_door_21 rfl rfl ?_
      refine f7_5 (q := 25) wd_853 dX7_door_22 rfl ?_
      refine g_bipush (q := 27) dX7_door_25 cb_29 rfl ?_
      refine g_iload_n (q := 28) dX7_door_27 rfl rfl ?_
      refine g_iadd (q := 29) dX7_door_28 rfl ?_
      refine g_ialdJ (q := 30) (k := 44) (j := (29 + d.toNatClampNeg)) (N := 52) (by decide) (by decide) rfl rfl (by decide) (ad2 (show (29 : Int32) = nI 29 from rfl) ed.1) (by omega) dX7_door_29 rfl ?_
      refine g_iload_n (q := 31) dX7_door_30 rfl rfl ?_
      refine g_icmp_ne (t := 37) (q := 34) dX7_door_31 (by decide) rfl (fun c_31 => ?_) (fun c_31 => ?_)
      · refine g_aload_n (q := 38) dX7_door_37 rfl rfl ?_
        refine g_callVv (q := 41) (c_X7_note hE h) lk_RX7_156 (by decide) (by decide) rfl (by decide) rfl rfl rfl rfl rfl rfl (Nat.le_of_ble_eq_true rfl) (Nat.le_of_ble_eq_true rfl) (Nat.le_of_ble_eq_true rfl) dX7_door_38 rfl ?_
        refine g_aload_n (q := 42) dX7_door_41 rfl rfl ?_
        refine f7_5 (q := 45) wd_853 dX7_door_42 rfl ?_
        refine g_bipush (q := 47) dX7_door_45 cb_29 rfl ?_
        refine g_iload_n (q := 48) dX7_door_47 rfl rfl ?_
        refine g_iadd (q := 49) dX7_door_48 rfl ?_
        refine g_iload_n (q := 50) dX7_door_49 rfl rfl ?_
        refine g_iastJ (q := 51) (k := 44) (j := (29 + d.toNatClampNeg)) (N := 52) (by decide) (by decide) rfl rfl (by decide) (ad2 (show (29 : Int32) = nI 29 from rfl) ed.1) (by omega) dX7_door_50 rfl ?_
        refine g_sg (σ' := doS σ d o) (by rw [note_ne σ (show (44 : Nat) ≠ 48 by decide) (by decide)]; rfl) ?_
        refine g_aload_n (q := 52) dX7_door_51 rfl rfl ?_
        refine g_callVi (q := 55) (c_X7_openDoors hE (by unfold doS; rw [upc_same]; exact wfm_door w ed.2)) lk_RX7_169 (by decide) (by decide) rfl (by decide) rfl rfl rfl rfl rfl rfl (Nat.le_of_ble_eq_true rfl) (Nat.le_of_ble_eq_true rfl) (Nat.le_of_ble_eq_true rfl) dX7_door_52 rfl ?_
        exact g_iret dX7_door_55 (pi_i (by simp only [q_door, c_5, c_15, c_31, not_true_eq_false, not_false_eq_true, if_true, if_false, Bool.true_eq_false, Bool.false_eq_true, reduceIte, reduceCtorEq]) (by simp only [q_door, c_5, c_15, c_31, not_true_eq_false, not_false_eq_true, if_true, if_false, Bool.true_eq_false, Bool.false_eq_true, reduceIte, reduceCtorEq]) rfl)
      · refine g_ldc (q := 36) dX7_door_34 wd_1011 rfl ?_
        exact g_iret dX7_door_36 (pi_i (by simp only [q_door, c_5, c_15, c_31, not_true_eq_false, not_false_eq_true, if_true, if_false, Bool.true_eq_false, Bool.false_eq_true, reduceIte, reduceCtorEq]) (by simp only [q_door, c_5, c_15, c_31, not_true_eq_false, not_false_eq_true, if_true, if_false, Bool.true_eq_false, Bool.false_eq_true, reduceIte, reduceCtorEq]) rfl)
    · rw [bI_0] at c_15
      rw [show inL o.toInt64 0 1 = wi o 0 1 from inL_i o 0 1] at c_15
      refine g_ldc (q := 20) dX7_door_18 wd_931 rfl ?_
      exact g_iret dX7_door_20 (pi_i (by simp only [q_door, c_5, c_15, not_true_eq_false, not_false_eq_true, if_true, if_false, Bool.true_eq_false, Bool.false_eq_true, reduceIte, reduceCtorEq]) (by simp only [q_door, c_5, c_15, not_true_eq_false, not_false_eq_true, if_true, if_false, Bool.true_eq_false, Bool.false_eq_true, reduceIte, reduceCtorEq]) rfl)
set_option maxRecDepth 20000 in
set_option maxHeartbeats 4000000 in
theorem c_X7_sit {E : EE} (hE : inj E 40 13) {σ : Sto} {τ : Stl} {s r : Int32} (w : WFM (σ 44)) (h : vp_in (σ 40 17) 25) : Ct E 40 13 yX7_sit cX7_sit 4 (some FieldType.int) { frames := 2, cells := 0, slots := 0, locals := 46 } [.ref (E.2.1 40), .int s, .int r] σ τ (Pi ((q_sit σ s r).1) ((q_sit σ s r).2) (τ)) := by
  refine ct_of hE RX7 [some (.ref (E.2.1 40)), some (.int s), some (.int r), none] (by decide) rfl (Nat.le_of_ble_eq_true rfl) rfl (fun X => ?_)
  refine g_aload_n (q := 1) dX7_sit_0 rfl rfl ?_
  refine g_iload_n (q := 2) dX7_sit_1 rfl rfl ?_
  refine g_callVi (q := 5) (c_X7_isSitter hE ) lk_RX7_172 (by decide) (by decide) rfl (by decide) rfl rfl rfl rfl rfl rfl (Nat.le_of_ble_eq_true rfl) (Nat.le_of_ble_eq_true rfl) (Nat.le_of_ble_eq_true rfl) dX7_sit_2 rfl ?_
  refine g_if_eq (t := 16) (q := 8) dX7_sit_5 (by decide) rfl (fun c_5 => ?_) (fun c_5 => ?_)
  · rw [bI_0] at c_5
    refine g_ldc (q := 18) dX7_sit_16 wd_931 rfl ?_
    exact g_iret dX7_sit_18 (pi_i (by simp only [q_sit, c_5, not_true_eq_false, not_false_eq_true, if_true, if_false, Bool.true_eq_false, Bool.false_eq_true, reduceIte, reduceCtorEq, note_ne σ (show (44 : Nat) ≠ 48 by decide) (by decide)]) (by simp only [q_sit, c_5, not_true_eq_false, not_false_eq_true, if_true, if_false, Bool.true_eq_false, Bool.false_eq_true, reduceIte, reduceCtorEq, note_ne σ (show (44 : Nat) ≠ 48 by decide) (by decide)]) rfl)
  · rw [bI_n0] at c_5
    refine g_aload_n (q := 9) dX7_sit_8 rfl rfl ?_
    refine g_iload_n (q := 10) dX7_sit_9 rfl rfl ?_
    refine g_callVi (q := 13) (c_X7_isRoom hE ) lk_RX7_175 (by decide) (by decide) rfl (by decide) rfl rfl rfl rfl rfl rfl (Nat.le_of_ble_eq_true rfl) (Nat.le_of_ble_eq_true rfl) (Nat.le_of_ble_eq_true rfl) dX7_sit_10 rfl ?_
    refine g_if_ne (t := 19) (q := 16) dX7_sit_13 (by decide) rfl (fun c_13 => ?_) (fun c_13 => ?_)
    · rw [bI_n0] at c_13
      have es := sitM w c_5
      refine g_aload_n (q := 20) dX7_sit_19 rfl rfl ?_
      refine f7_5 (q := 23) wd_853 dX7_sit_20 rfl ?_
      refine g_bipush (q := 25) dX7_sit_23 cb_42 rfl ?_
      refine g_iload_n (q := 26) dX7_sit_25 rfl rfl ?_
      refine g_iadd (q := 27) dX7_sit_26 rfl ?_
      refine g_ialdJ (q := 28) (k := 44) (j := (42 + s.toNatClampNeg)) (N := 52) (by decide) (by decide) rfl rfl (by decide) (ad2 (show (42 : Int32) = nI 42 from rfl) es.1) (by omega) dX7_sit_27 rfl ?_
      refine g_istore_n (j := 3) (q := 29) dX7_sit_28 rfl (by decide) rfl rfl ?_
      refine g_iload_n (q := 30) dX7_sit_29 rfl rfl ?_
      refine g_iload_n (q := 31) dX7_sit_30 rfl rfl ?_
      refine g_icmp_ne (t := 37) (q := 34) dX7_sit_31 (by decide) rfl (fun c_31 => ?_) (fun c_31 => ?_)
      · refine g_aload_n (q := 38) dX7_sit_37 rfl rfl ?_
        refine g_callVv (q := 41) (c_X7_note hE h) lk_RX7_156 (by decide) (by decide) rfl (by decide) rfl rfl rfl rfl rfl rfl (Nat.le_of_ble_eq_true rfl) (Nat.le_of_ble_eq_true rfl) (Nat.le_of_ble_eq_true rfl) dX7_sit_38 rfl ?_
        refine g_aload_n (q := 42) dX7_sit_41 rfl rfl ?_
        refine f7_5 (q := 45) wd_853 dX7_sit_42 rfl ?_
        refine g_bipush (q := 47) dX7_sit_45 cb_42 rfl ?_
        refine g_iload_n (q := 48) dX7_sit_47 rfl rfl ?_
        refine g_iadd (q := 49) dX7_sit_48 rfl ?_
        refine g_iload_n (q := 50) dX7_sit_49 rfl rfl ?_
        refine g_iastJ (q := 51) (k := 44) (j := (42 + s.toNatClampNeg)) (N := 52) (by decide) (by decide) rfl rfl (by decide) (ad2 (show (42 : Int32) = nI 42 from rfl) es.1) (by omega) dX7_sit_50 rfl ?_
        refine g_iload_n (q := 52) dX7_sit_51 rfl rfl ?_
        exact g_iret dX7_sit_52 (pi_i (by simp only [q_sit, c_5, c_13, c_31, not_true_eq_false, not_false_eq_true, if_true, if_false, Bool.true_eq_false, Bool.false_eq_true, reduceIte, reduceCtorEq, note_ne σ (show (44 : Nat) ≠ 48 by decide) (by decide)]) (by simp only [q_sit, c_5, c_13, c_31, not_true_eq_false, not_false_eq_true, if_true, if_false, Bool.true_eq_false, Bool.false_eq_true, reduceIte, reduceCtorEq, note_ne σ (show (44 : Nat) ≠ 48 by decide) (by decide)]) rfl)
      · refine g_ldc (q := 36) dX7_sit_34 wd_1011 rfl ?_
        exact g_iret dX7_sit_36 (pi_i (by simp only [q_sit, c_5, c_13, c_31, not_true_eq_false, not_false_eq_true, if_true, if_false, Bool.true_eq_false, Bool.false_eq_true, reduceIte, reduceCtorEq, note_ne σ (show (44 : Nat) ≠ 48 by decide) (by decide)]) (by simp only [q_sit, c_5, c_13, c_31, not_true_eq_false, not_false_eq_true, if_true, if_false, Bool.true_eq_false, Bool.false_eq_true, reduceIte, reduceCtorEq, note_ne σ (show (44 : Nat) ≠ 48 by decide) (by decide)]) rfl)
    · rw [bI_0] at c_13
      refine g_ldc (q := 18) dX7_sit_16 wd_931 rfl ?_
      exact g_iret dX7_sit_18 (pi_i (by simp only [q_sit, c_5, c_13, not_true_eq_false, not_false_eq_true, if_true, if_false, Bool.true_eq_false, Bool.false_eq_true, reduceIte, reduceCtorEq, note_ne σ (show (44 : Nat) ≠ 48 by decide) (by decide)]) (by simp only [q_sit, c_5, c_13, not_true_eq_false, not_false_eq_true, if_true, if_false, Bool.true_eq_false, Bool.false_eq_true, reduceIte, reduceCtorEq, note_ne σ (show (44 : Nat) ≠ 48 by decide) (by decide)]) rfl)
set_option maxRecDepth 20000 in
set_option maxHeartbeats 4000000 in
theorem c_X7_doorHas {E : EE} (hE : inj E 40 13) {σ : Sto} {τ : Stl} {d u : Int32} (w : WFM (σ 44)) : Ct E 40 13 yX7_doorHas cX7_doorHas 3 (some FieldType.int) { frames := 2, cells := 0, slots := 0, locals := 46 } [.ref (E.2.1 40), .int d, .int u] σ τ (Pi ((q_doorHas σ d u).1) ((q_doorHas σ d u).2) (τ)) := by
  refine ct_of hE RX7 [some (.ref (E.2.1 40)), some (.int d), some (.int u)] (by decide) rfl (Nat.le_of_ble_eq_true rfl) rfl (fun X => ?_)
  refine g_aload_n (q := 1) dX7_doorHas_0 rfl rfl ?_
  refine g_iload_n (q := 2) dX7_doorHas_1 rfl rfl ?_
  refine g_callVi (q := 5) (c_X7_isDoor hE ) lk_RX7_166 (by decide) (by decide) rfl (by decide) rfl rfl rfl rfl rfl rfl (Nat.le_of_ble_eq_true rfl) (Nat.le_of_ble_eq_true rfl) (Nat.le_of_ble_eq_true rfl) dX7_doorHas_2 rfl ?_
  refine g_if_eq (t := 20) (q := 8) dX7_doorHas_5 (by decide) rfl (fun c_5 => ?_) (fun c_5 => ?_)
  · rw [bI_0] at c_5
    refine g_ldc (q := 22) dX7_doorHas_20 wd_931 rfl ?_
    exact g_iret dX7_doorHas_22 (pi_i (by simp only [q_doorHas, c_5, not_true_eq_false, not_false_eq_true, if_true, if_false, Bool.true_eq_false, Bool.false_eq_true, reduceIte, reduceCtorEq, show wi 0 0 2 = true from by decide, show wi 1 0 2 = true from by decide, show ((1 : Int32) = 0) = False from by decide]) (by simp only [q_doorHas, c_5, not_true_eq_false, not_false_eq_true, if_true, if_false, Bool.true_eq_false, Bool.false_eq_true, reduceIte, reduceCtorEq, show wi 0 0 2 = true from by decide, show wi 1 0 2 = true from by decide, show ((1 : Int32) = 0) = False from by decide]) rfl)
  · rw [bI_n0] at c_5
    refine g_iload_n (q := 9) dX7_doorHas_8 rfl rfl ?_
    refine g_i2l (q := 10) dX7_doorHas_9 rfl ?_
    refine g_lconst (q := 11) dX7_doorHas_10 cl_0 rfl ?_
    refine g_ldc2 (q := 14) dX7_doorHas_11 wd_930 rfl ?_
    refine g_callSi (q := 17) (c_X7_in hE ) lk_RX7_54 rfl rfl rfl rfl (Nat.le_of_ble_eq_true rfl) (Nat.le_of_ble_eq_true rfl) (Nat.le_of_ble_eq_true rfl) dX7_doorHas_14 rfl ?_
    refine g_if_ne (t := 23) (q := 20) dX7_doorHas_17 (by decide) rfl (fun c_17 => ?_) (fun c_17 => ?_)
    · rw [bI_n0] at c_17
      rw [show inL u.toInt64 0 2 = wi u 0 2 from inL_i u 0 2] at c_17
      have ed := doorM w c_5
      refine g_iload_n (q := 24) dX7_doorHas_23 rfl rfl ?_
      refine g_if_ne (t := 39) (q := 27) dX7_doorHas_24 (by decide) rfl (fun c_24 => ?_) (fun c_24 => ?_)
      · refine g_iload_n (q := 40) dX7_doorHas_39 rfl rfl ?_
        refine g_iconst (q := 41) dX7_doorHas_40 ci_1 rfl ?_
        refine g_icmp_ne (t := 56) (q := 44) dX7_doorHas_41 (by decide) rfl (fun c_41 => ?_) (fun c_41 => ?_)
        · refine g_aload_n (q := 57) dX7_doorHas_56 rfl rfl ?_
          refine f7_5 (q := 60) wd_853 dX7_doorHas_57 rfl ?_
          refine g_bipush (q := 62) dX7_doorHas_60 cb_29 rfl ?_
          refine g_iload_n (q := 63) dX7_doorHas_62 rfl rfl ?_
          refine g_iadd (q := 64) dX7_doorHas_63 rfl ?_
          refine g_ialdJ (q := 65) (k := 44) (j := (29 + d.toNatClampNeg)) (N := 52) (by decide) (by decide) rfl rfl (by decide) (ad2 (show (29 : Int32) = nI 29 from rfl) ed.1) (by omega) dX7_doorHas_64 rfl ?_
          exact g_iret dX7_doorHas_65 (pi_i (by simp only [q_doorHas, c_5, c_17, c_24, c_41, not_true_eq_false, not_false_eq_true, if_true, if_false, Bool.true_eq_false, Bool.false_eq_true, reduceIte, reduceCtorEq, show wi 0 0 2 = true from by decide, show wi 1 0 2 = true from by decide, show ((1 : Int32) = 0) = False from by decide]) (by simp only [q_doorHas, c_5, c_17, c_24, c_41, not_true_eq_false, not_false_eq_true, if_true, if_false, Bool.true_eq_false, Bool.false_eq_true, reduceIte, reduceCtorEq, show wi 0 0 2 = true from by decide, show wi 1 0 2 = true from by decide, show ((1 : Int32) = 0) = False from by decide]) rfl)
        · refine g_aload_n (q := 45) dX7_doorHas_44 rfl rfl ?_
          refine f7_5 (q := 48) wd_853 dX7_doorHas_45 rfl ?_
          refine g_bipush (q := 50) dX7_doorHas_48 cb_21 rfl ?_
          refine g_iload_n (q := 51) dX7_doorHas_50 rfl rfl ?_
          refine g_iadd (q := 52) dX7_doorHas_51 rfl ?_
          refine g_ialdJ (q := 53) (k := 44) (j := (21 + d.toNatClampNeg)) (N := 52) (by decide) (by decide) rfl rfl (by decide) (ad2 (show (21 : Int32) = nI 21 from rfl) ed.1) (by omega) dX7_doorHas_52 rfl ?_
          refine g_goto (t := 65) dX7_doorHas_53 (by decide) ?_
          exact g_iret dX7_doorHas_65 (pi_i (by simp only [q_doorHas, c_5, c_17, c_24, c_41, not_true_eq_false, not_false_eq_true, if_true, if_false, Bool.true_eq_false, Bool.false_eq_true, reduceIte, reduceCtorEq, show wi 0 0 2 = true from by decide, show wi 1 0 2 = true from by decide, show ((1 : Int32) = 0) = False from by decide]) (by simp only [q_doorHas, c_5, c_17, c_24, c_41, not_true_eq_false, not_false_eq_true, if_true, if_false, Bool.true_eq_false, Bool.false_eq_true, reduceIte, reduceCtorEq, show wi 0 0 2 = true from by decide, show wi 1 0 2 = true from by decide, show ((1 : Int32) = 0) = False from by decide]) rfl)
      · refine g_aload_n (q := 28) dX7_doorHas_27 rfl rfl ?_
        refine f7_5 (q := 31) wd_853 dX7_doorHas_28 rfl ?_
        refine g_bipush (q := 33) dX7_doorHas_31 cb_13 rfl ?_
        refine g_iload_n (q := 34) dX7_doorHas_33 rfl rfl ?_
        refine g_iadd (q := 35) dX7_doorHas_34 rfl ?_
        refine g_ialdJ (q := 36) (k := 44) (j := (13 + d.toNatClampNeg)) (N := 52) (by decide) (by decide) rfl rfl (by decide) (ad2 (show (13 : Int32) = nI 13 from rfl) ed.1) (by omega) dX7_doorHas_35 rfl ?_
        refine g_goto (t := 65) dX7_doorHas_36 (by decide) ?_
        exact g_iret dX7_doorHas_65 (pi_i (by simp only [q_doorHas, c_5, c_17, c_24, not_true_eq_false, not_false_eq_true, if_true, if_false, Bool.true_eq_false, Bool.false_eq_true, reduceIte, reduceCtorEq, show wi 0 0 2 = true from by decide, show wi 1 0 2 = true from by decide, show ((1 : Int32) = 0) = False from by decide]) (by simp only [q_doorHas, c_5, c_17, c_24, not_true_eq_false, not_false_eq_true, if_true, if_false, Bool.true_eq_false, Bool.false_eq_true, reduceIte, reduceCtorEq, show wi 0 0 2 = true from by decide, show wi 1 0 2 = true from by decide, show ((1 : Int32) = 0) = False from by decide]) rfl)
    · rw [bI_0] at c_17
      rw [show inL u.toInt64 0 2 = wi u 0 2 from inL_i u 0 2] at c_17
      refine g_ldc (q := 22) dX7_doorHas_20 wd_931 rfl ?_
      exact g_iret dX7_doorHas_22 (pi_i (by simp only [q_doorHas, c_5, c_17, not_true_eq_false, not_false_eq_true, if_true, if_false, Bool.true_eq_false, Bool.false_eq_true, reduceIte, reduceCtorEq, show wi 0 0 2 = true from by decide, show wi 1 0 2 = true from by decide, show ((1 : Int32) = 0) = False from by decide]) (by simp only [q_doorHas, c_5, c_17, not_true_eq_false, not_false_eq_true, if_true, if_false, Bool.true_eq_false, Bool.false_eq_true, reduceIte, reduceCtorEq, show wi 0 0 2 = true from by decide, show wi 1 0 2 = true from by decide, show ((1 : Int32) = 0) = False from by decide]) rfl)
set_option maxRecDepth 20000 in
set_option maxHeartbeats 4000000 in
theorem c_X7_sitter {E : EE} (hE : inj E 40 13) {σ : Sto} {τ : Stl} {s u : Int32} (w : WFM (σ 44)) : Ct E 40 13 yX7_sitter cX7_sitter 3 (some FieldType.int) { frames := 2, cells := 0, slots := 0, locals := 46 } [.ref (E.2.1 40), .int s, .int u] σ τ (Pi ((q_sitter σ s u).1) ((q_sitter σ s u).2) (τ)) := by
  refine ct_of hE RX7 [some (.ref (E.2.1 40)), some (.int s), some (.int u)] (by decide) rfl (Nat.le_of_ble_eq_true rfl) rfl (fun X => ?_)
  refine g_aload_n (q := 1) dX7_sitter_0 rfl rfl ?_
  refine g_iload_n (q := 2) dX7_sitter_1 rfl rfl ?_
  refine g_callVi (q := 5) (c_X7_isSitter hE ) lk_RX7_172 (by decide) (by decide) rfl (by decide) rfl rfl rfl rfl rfl rfl (Nat.le_of_ble_eq_true rfl) (Nat.le_of_ble_eq_true rfl) (Nat.le_of_ble_eq_true rfl) dX7_sitter_2 rfl ?_
  refine g_if_eq (t := 20) (q := 8) dX7_sitter_5 (by decide) rfl (fun c_5 => ?_) (fun c_5 => ?_)
  · rw [bI_0] at c_5
    refine g_ldc (q := 22) dX7_sitter_20 wd_931 rfl ?_
    exact g_iret dX7_sitter_22 (pi_i (by simp only [q_sitter, c_5, not_true_eq_false, not_false_eq_true, if_true, if_false, Bool.true_eq_false, Bool.false_eq_true, reduceIte, reduceCtorEq, bI_t, bI_f, show wi 0 0 2 = true from by decide, show wi 1 0 2 = true from by decide, show ((1 : Int32) = 0) = False from by decide]) (by simp only [q_sitter, c_5, not_true_eq_false, not_false_eq_true, if_true, if_false, Bool.true_eq_false, Bool.false_eq_true, reduceIte, reduceCtorEq, bI_t, bI_f, show wi 0 0 2 = true from by decide, show wi 1 0 2 = true from by decide, show ((1 : Int32) = 0) = False from by decide]) rfl)
  · rw [bI_n0] at c_5
    refine g_iload_n (q := 9) dX7_sitter_8 rfl rfl ?_
    refine g_i2l (q := 10) dX7_sitter_9 rfl ?_
    refine g_lconst (q := 11) dX7_sitter_10 cl_0 rfl ?_
    refine g_ldc2 (q := 14) dX7_sitter_11 wd_930 rfl ?_
    refine g_callSi (q := 17) (c_X7_in hE ) lk_RX7_54 rfl rfl rfl rfl (Nat.le_of_ble_eq_true rfl) (Nat.le_of_ble_eq_true rfl) (Nat.le_of_ble_eq_true rfl) dX7_sitter_14 rfl ?_
    refine g_if_ne (t := 23) (q := 20) dX7_sitter_17 (by decide) rfl (fun c_17 => ?_) (fun c_17 => ?_)
    · rw [bI_n0] at c_17
      rw [show inL u.toInt64 0 2 = wi u 0 2 from inL_i u 0 2] at c_17
      have es := sitM w c_5
      refine g_iload_n (q := 24) dX7_sitter_23 rfl rfl ?_
      refine g_if_ne (t := 39) (q := 27) dX7_sitter_24 (by decide) rfl (fun c_24 => ?_) (fun c_24 => ?_)
      · refine g_iload_n (q := 40) dX7_sitter_39 rfl rfl ?_
        refine g_iconst (q := 41) dX7_sitter_40 ci_1 rfl ?_
        refine g_icmp_ne (t := 56) (q := 44) dX7_sitter_41 (by decide) rfl (fun c_41 => ?_) (fun c_41 => ?_)
        · refine g_aload_n (q := 57) dX7_sitter_56 rfl rfl ?_
          refine g_ls (ls' := [some (.ref (E.2.1 40)), some (.int (nI (s.toNatClampNeg))), some (.int u)]) (by rw [← es.1]) ?_
          refine g_iload_n (q := 58) dX7_sitter_57 rfl rfl ?_
          refine g_callVi (q := 61) (c_X7_isCold hE w es.2) lk_RX7_180 (by decide) (by decide) rfl (by decide) rfl rfl rfl rfl rfl rfl (Nat.le_of_ble_eq_true rfl) (Nat.le_of_ble_eq_true rfl) (Nat.le_of_ble_eq_true rfl) dX7_sitter_58 rfl ?_
          refine g_if_eq (t := 68) (q := 64) dX7_sitter_61 (by decide) rfl (fun c_61 => ?_) (fun c_61 => ?_)
          · rw [bI_0] at c_61
            refine g_iconst (q := 69) dX7_sitter_68 ci_0 rfl ?_
            exact g_iret dX7_sitter_69 (pi_i (by simp only [q_sitter, c_5, c_17, c_24, c_41, c_61, not_true_eq_false, not_false_eq_true, if_true, if_false, Bool.true_eq_false, Bool.false_eq_true, reduceIte, reduceCtorEq, bI_t, bI_f, show wi 0 0 2 = true from by decide, show wi 1 0 2 = true from by decide, show ((1 : Int32) = 0) = False from by decide]) (by simp only [q_sitter, c_5, c_17, c_24, c_41, c_61, not_true_eq_false, not_false_eq_true, if_true, if_false, Bool.true_eq_false, Bool.false_eq_true, reduceIte, reduceCtorEq, bI_t, bI_f, show wi 0 0 2 = true from by decide, show wi 1 0 2 = true from by decide, show ((1 : Int32) = 0) = False from by decide]) rfl)
          · rw [bI_n0] at c_61
            refine g_iconst (q := 65) dX7_sitter_64 ci_1 rfl ?_
            refine g_goto (t := 69) dX7_sitter_65 (by decide) ?_
            exact g_iret dX7_sitter_69 (pi_i (by simp only [q_sitter, c_5, c_17, c_24, c_41, c_61, not_true_eq_false, not_false_eq_true, if_true, if_false, Bool.true_eq_false, Bool.false_eq_true, reduceIte, reduceCtorEq, bI_t, bI_f, show wi 0 0 2 = true from by decide, show wi 1 0 2 = true from by decide, show ((1 : Int32) = 0) = False from by decide]) (by simp only [q_sitter, c_5, c_17, c_24, c_41, c_61, not_true_eq_false, not_false_eq_true, if_true, if_false, Bool.true_eq_false, Bool.false_eq_true, reduceIte, reduceCtorEq, bI_t, bI_f, show wi 0 0 2 = true from by decide, show wi 1 0 2 = true from by decide, show ((1 : Int32) = 0) = False from by decide]) rfl)
        · refine g_aload_n (q := 45) dX7_sitter_44 rfl rfl ?_
          refine f7_5 (q := 48) wd_853 dX7_sitter_45 rfl ?_
          refine g_bipush (q := 50) dX7_sitter_48 cb_47 rfl ?_
          refine g_iload_n (q := 51) dX7_sitter_50 rfl rfl ?_
          refine g_iadd (q := 52) dX7_sitter_51 rfl ?_
          refine g_ialdJ (q := 53) (k := 44) (j := (47 + s.toNatClampNeg)) (N := 52) (by decide) (by decide) rfl rfl (by decide) (ad2 (show (47 : Int32) = nI 47 from rfl) es.1) (by omega) dX7_sitter_52 rfl ?_
          refine g_goto (t := 69) dX7_sitter_53 (by decide) ?_
          exact g_iret dX7_sitter_69 (pi_i (by simp only [q_sitter, c_5, c_17, c_24, c_41, not_true_eq_false, not_false_eq_true, if_true, if_false, Bool.true_eq_false, Bool.false_eq_true, reduceIte, reduceCtorEq, bI_t, bI_f, show wi 0 0 2 = true from by decide, show wi 1 0 2 = true from by decide, show ((1 : Int32) = 0) = False from by decide]) (by simp only [q_sitter, c_5, c_17, c_24, c_41, not_true_eq_false, not_false_eq_true, if_true, if_false, Bool.true_eq_false, Bool.false_eq_true, reduceIte, reduceCtorEq, bI_t, bI_f, show wi 0 0 2 = true from by decide, show wi 1 0 2 = true from by decide, show ((1 : Int32) = 0) = False from by decide]) rfl)
      · refine g_aload_n (q := 28) dX7_sitter_27 rfl rfl ?_
        refine f7_5 (q := 31) wd_853 dX7_sitter_28 rfl ?_
        refine g_bipush (q := 33) dX7_sitter_31 cb_42 rfl ?_
        refine g_iload_n (q := 34) dX7_sitter_33 rfl rfl ?_
        refine g_iadd (q := 35) dX7_sitter_34 rfl ?_
        refine g_ialdJ (q := 36) (k := 44) (j := (42 + s.toNatClampNeg)) (N := 52) (by decide) (by decide) rfl rfl (by decide) (ad2 (show (42 : Int32) = nI 42 from rfl) es.1) (by omega) dX7_sitter_35 rfl ?_
        refine g_goto (t := 69) dX7_sitter_36 (by decide) ?_
        exact g_iret dX7_sitter_69 (pi_i (by simp only [q_sitter, c_5, c_17, c_24, not_true_eq_false, not_false_eq_true, if_true, if_false, Bool.true_eq_false, Bool.false_eq_true, reduceIte, reduceCtorEq, bI_t, bI_f, show wi 0 0 2 = true from by decide, show wi 1 0 2 = true from by decide, show ((1 : Int32) = 0) = False from by decide]) (by simp only [q_sitter, c_5, c_17, c_24, not_true_eq_false, not_false_eq_true, if_true, if_false, Bool.true_eq_false, Bool.false_eq_true, reduceIte, reduceCtorEq, bI_t, bI_f, show wi 0 0 2 = true from by decide, show wi 1 0 2 = true from by decide, show ((1 : Int32) = 0) = False from by decide]) rfl)
    · rw [bI_0] at c_17
      rw [show inL u.toInt64 0 2 = wi u 0 2 from inL_i u 0 2] at c_17
      refine g_ldc (q := 22) dX7_sitter_20 wd_931 rfl ?_
      exact g_iret dX7_sitter_22 (pi_i (by simp only [q_sitter, c_5, c_17, not_true_eq_false, not_false_eq_true, if_true, if_false, Bool.true_eq_false, Bool.false_eq_true, reduceIte, reduceCtorEq, bI_t, bI_f, show wi 0 0 2 = true from by decide, show wi 1 0 2 = true from by decide, show ((1 : Int32) = 0) = False from by decide]) (by simp only [q_sitter, c_5, c_17, not_true_eq_false, not_false_eq_true, if_true, if_false, Bool.true_eq_false, Bool.false_eq_true, reduceIte, reduceCtorEq, bI_t, bI_f, show wi 0 0 2 = true from by decide, show wi 1 0 2 = true from by decide, show ((1 : Int32) = 0) = False from by decide]) rfl)
set_option maxRecDepth 20000 in
set_option maxHeartbeats 4000000 in
theorem c_X7_kind {E : EE} (hE : inj E 40 13) {σ : Sto} {τ : Stl} {s : Int32} (w : WFM (σ 44)) : Ct E 40 13 yX7_kind cX7_kind 2 (some FieldType.int) { frames := 2, cells := 0, slots := 0, locals := 46 } [.ref (E.2.1 40), .int s] σ τ (Pi ((q_kind σ s).1) ((q_kind σ s).2) (τ)) := by
  refine ct_of hE RX7 [some (.ref (E.2.1 40)), some (.int s)] (by decide) rfl (Nat.le_of_ble_eq_true rfl) rfl (fun X => ?_)
  refine g_aload_n (q := 1) dX7_kind_0 rfl rfl ?_
  refine g_iload_n (q := 2) dX7_kind_1 rfl rfl ?_
  refine g_callVi (q := 5) (c_X7_isSitter hE ) lk_RX7_172 (by decide) (by decide) rfl (by decide) rfl rfl rfl rfl rfl rfl (Nat.le_of_ble_eq_true rfl) (Nat.le_of_ble_eq_true rfl) (Nat.le_of_ble_eq_true rfl) dX7_kind_2 rfl ?_
  refine g_if_eq (t := 20) (q := 8) dX7_kind_5 (by decide) rfl (fun c_5 => ?_) (fun c_5 => ?_)
  · rw [bI_0] at c_5
    refine g_ldc (q := 22) dX7_kind_20 wd_931 rfl ?_
    exact g_iret dX7_kind_22 (pi_i (by simp only [q_kind, c_5, not_true_eq_false, not_false_eq_true, if_true, if_false, Bool.true_eq_false, Bool.false_eq_true, reduceIte, reduceCtorEq]) (by simp only [q_kind, c_5, not_true_eq_false, not_false_eq_true, if_true, if_false, Bool.true_eq_false, Bool.false_eq_true, reduceIte, reduceCtorEq]) rfl)
  · rw [bI_n0] at c_5
    have es := sitM w c_5
    refine g_aload_n (q := 9) dX7_kind_8 rfl rfl ?_
    refine f7_5 (q := 12) wd_853 dX7_kind_9 rfl ?_
    refine g_bipush (q := 14) dX7_kind_12 cb_37 rfl ?_
    refine g_iload_n (q := 15) dX7_kind_14 rfl rfl ?_
    refine g_iadd (q := 16) dX7_kind_15 rfl ?_
    refine g_ialdJ (q := 17) (k := 44) (j := (37 + s.toNatClampNeg)) (N := 52) (by decide) (by decide) rfl rfl (by decide) (ad2 (show (37 : Int32) = nI 37 from rfl) es.1) (by omega) dX7_kind_16 rfl ?_
    refine g_goto (t := 22) dX7_kind_17 (by decide) ?_
    exact g_iret dX7_kind_22 (pi_i (by simp only [q_kind, c_5, not_true_eq_false, not_false_eq_true, if_true, if_false, Bool.true_eq_false, Bool.false_eq_true, reduceIte, reduceCtorEq]) (by simp only [q_kind, c_5, not_true_eq_false, not_false_eq_true, if_true, if_false, Bool.true_eq_false, Bool.false_eq_true, reduceIte, reduceCtorEq]) rfl)
set_option maxRecDepth 20000 in
set_option maxHeartbeats 4000000 in
theorem c_X7_isKind {E : EE} (hE : inj E 40 13) {σ : Sto} {τ : Stl} {o k : Int32}  : Ct E 40 13 yX7_isKind cX7_isKind 2 (some FieldType.boolean) { frames := 0, cells := 0, slots := 0, locals := 0 } [.int o, .int k] σ τ (Pi (bI (isK o k)) (σ) (τ)) := by
  refine ct_of hE RX7 [some (.int o), some (.int k)] (by decide) rfl (Nat.le_of_ble_eq_true rfl) rfl (fun X => ?_)
  refine g_iload_n (q := 1) dX7_isKind_0 rfl rfl ?_
  refine g_if_eq (t := 29) (q := 4) dX7_isKind_1 (by decide) rfl (fun c_1 => ?_) (fun c_1 => ?_)
  · refine g_iconst (q := 30) dX7_isKind_29 ci_1 rfl ?_
    refine g_goto (t := 34) dX7_isKind_30 (by decide) ?_
    exact g_zret dX7_isKind_34 (by first | decide | exact bI_nar _) (pi_i (by simp only [isK, bI]; grind) (by rfl) rfl)
  · refine g_iload_n (q := 5) dX7_isKind_4 rfl rfl ?_
    refine g_iload_n (q := 6) dX7_isKind_5 rfl rfl ?_
    refine g_icmp_eq (t := 29) (q := 9) dX7_isKind_6 (by decide) rfl (fun c_6 => ?_) (fun c_6 => ?_)
    · refine g_iconst (q := 30) dX7_isKind_29 ci_1 rfl ?_
      refine g_goto (t := 34) dX7_isKind_30 (by decide) ?_
      exact g_zret dX7_isKind_34 (by first | decide | exact bI_nar _) (pi_i (by simp only [isK, bI]; grind) (by rfl) rfl)
    · refine g_iload_n (q := 10) dX7_isKind_9 rfl rfl ?_
      refine g_iconst (q := 11) dX7_isKind_10 ci_1 rfl ?_
      refine g_icmp_ne (t := 19) (q := 14) dX7_isKind_11 (by decide) rfl (fun c_11 => ?_) (fun c_11 => ?_)
      · refine g_iload_n (q := 20) dX7_isKind_19 rfl rfl ?_
        refine g_iconst (q := 21) dX7_isKind_20 ci_4 rfl ?_
        refine g_icmp_ne (t := 33) (q := 24) dX7_isKind_21 (by decide) rfl (fun c_21 => ?_) (fun c_21 => ?_)
        · refine g_iconst (q := 34) dX7_isKind_33 ci_0 rfl ?_
          exact g_zret dX7_isKind_34 (by first | decide | exact bI_nar _) (pi_i (by simp only [isK, bI]; grind) (by rfl) rfl)
        · refine g_iload_n (q := 25) dX7_isKind_24 rfl rfl ?_
          refine g_iconst (q := 26) dX7_isKind_25 ci_5 rfl ?_
          refine g_icmp_ne (t := 33) (q := 29) dX7_isKind_26 (by decide) rfl (fun c_26 => ?_) (fun c_26 => ?_)
          · refine g_iconst (q := 34) dX7_isKind_33 ci_0 rfl ?_
            exact g_zret dX7_isKind_34 (by first | decide | exact bI_nar _) (pi_i (by simp only [isK, bI]; grind) (by rfl) rfl)
          · refine g_iconst (q := 30) dX7_isKind_29 ci_1 rfl ?_
            refine g_goto (t := 34) dX7_isKind_30 (by decide) ?_
            exact g_zret dX7_isKind_34 (by first | decide | exact bI_nar _) (pi_i (by simp only [isK, bI]; grind) (by rfl) rfl)
      · refine g_iload_n (q := 15) dX7_isKind_14 rfl rfl ?_
        refine g_iconst (q := 16) dX7_isKind_15 ci_4 rfl ?_
        refine g_icmp_lt (t := 29) (q := 19) dX7_isKind_16 (by decide) rfl (fun c_16 => ?_) (fun c_16 => ?_)
        · refine g_iconst (q := 30) dX7_isKind_29 ci_1 rfl ?_
          refine g_goto (t := 34) dX7_isKind_30 (by decide) ?_
          exact g_zret dX7_isKind_34 (by first | decide | exact bI_nar _) (pi_i (by simp only [isK, bI]; grind) (by rfl) rfl)
        · refine g_iload_n (q := 20) dX7_isKind_19 rfl rfl ?_
          refine g_iconst (q := 21) dX7_isKind_20 ci_4 rfl ?_
          refine g_icmp_ne (t := 33) (q := 24) dX7_isKind_21 (by decide) rfl (fun c_21 => ?_) (fun c_21 => ?_)
          · refine g_iconst (q := 34) dX7_isKind_33 ci_0 rfl ?_
            exact g_zret dX7_isKind_34 (by first | decide | exact bI_nar _) (pi_i (by simp only [isK, bI]; grind) (by rfl) rfl)
          · refine g_iload_n (q := 25) dX7_isKind_24 rfl rfl ?_
            refine g_iconst (q := 26) dX7_isKind_25 ci_5 rfl ?_
            refine g_icmp_ne (t := 33) (q := 29) dX7_isKind_26 (by decide) rfl (fun c_26 => ?_) (fun c_26 => ?_)
            · refine g_iconst (q := 34) dX7_isKind_33 ci_0 rfl ?_
              exact g_zret dX7_isKind_34 (by first | decide | exact bI_nar _) (pi_i (by simp only [isK, bI]; grind) (by rfl) rfl)
            · refine g_iconst (q := 30) dX7_isKind_29 ci_1 rfl ?_
              refine g_goto (t := 34) dX7_isKind_30 (by decide) ?_
              exact g_zret dX7_isKind_34 (by first | decide | exact bI_nar _) (pi_i (by simp only [isK, bI]; grind) (by rfl) rfl)
set_option maxRecDepth 20000 in
set_option maxHeartbeats 4000000 in
theorem c_X7_as {E : EE} (hE : inj E 40 13) {σ : Sto} {τ : Stl} {s k : Int32} (w : WFM (σ 44)) : Ct E 40 13 yX7_as cX7_as 3 (some FieldType.int) { frames := 2, cells := 0, slots := 0, locals := 46 } [.ref (E.2.1 40), .int s, .int k] σ τ (Pi ((q_as σ s k).1) ((q_as σ s k).2) (τ)) := by
  refine ct_of hE RX7 [some (.ref (E.2.1 40)), some (.int s), some (.int k)] (by decide) rfl (Nat.le_of_ble_eq_true rfl) rfl (fun X => ?_)
  refine g_aload_n (q := 1) dX7_as_0 rfl rfl ?_
  refine g_iload_n (q := 2) dX7_as_1 rfl rfl ?_
  refine g_callVi (q := 5) (c_X7_isSitter hE ) lk_RX7_172 (by decide) (by decide) rfl (by decide) rfl rfl rfl rfl rfl rfl (Nat.le_of_ble_eq_true rfl) (Nat.le_of_ble_eq_true rfl) (Nat.le_of_ble_eq_true rfl) dX7_as_2 rfl ?_
  refine g_if_eq (t := 20) (q := 8) dX7_as_5 (by decide) rfl (fun c_5 => ?_) (fun c_5 => ?_)
  · rw [bI_0] at c_5
    refine g_ldc (q := 22) dX7_as_20 wd_931 rfl ?_
    exact g_iret dX7_as_22 (pi_i (by simp only [q_as, c_5, not_true_eq_false, not_false_eq_true, if_true, if_false, Bool.true_eq_false, Bool.false_eq_true, reduceIte, reduceCtorEq]) (by simp only [q_as, c_5, not_true_eq_false, not_false_eq_true, if_true, if_false, Bool.true_eq_false, Bool.false_eq_true, reduceIte, reduceCtorEq]) rfl)
  · rw [bI_n0] at c_5
    refine g_iload_n (q := 9) dX7_as_8 rfl rfl ?_
    refine g_i2l (q := 10) dX7_as_9 rfl ?_
    refine g_lconst (q := 11) dX7_as_10 cl_0 rfl ?_
    refine g_ldc2 (q := 14) dX7_as_11 wd_1209 rfl ?_
    refine g_callSi (q := 17) (c_X7_in hE ) lk_RX7_54 rfl rfl rfl rfl (Nat.le_of_ble_eq_true rfl) (Nat.le_of_ble_eq_true rfl) (Nat.le_of_ble_eq_true rfl) dX7_as_14 rfl ?_
    refine g_if_ne (t := 23) (q := 20) dX7_as_17 (by decide) rfl (fun c_17 => ?_) (fun c_17 => ?_)
    · rw [bI_n0] at c_17
      rw [show inL k.toInt64 0 5 = wi k 0 5 from inL_i k 0 5] at c_17
      have es := sitM w c_5
      refine g_aload_n (q := 24) dX7_as_23 rfl rfl ?_
      refine f7_5 (q := 27) wd_853 dX7_as_24 rfl ?_
      refine g_bipush (q := 29) dX7_as_27 cb_37 rfl ?_
      refine g_iload_n (q := 30) dX7_as_29 rfl rfl ?_
      refine g_iadd (q := 31) dX7_as_30 rfl ?_
      refine g_ialdJ (q := 32) (k := 44) (j := (37 + s.toNatClampNeg)) (N := 52) (by decide) (by decide) rfl rfl (by decide) (ad2 (show (37 : Int32) = nI 37 from rfl) es.1) (by omega) dX7_as_31 rfl ?_
      refine g_iload_n (q := 33) dX7_as_32 rfl rfl ?_
      refine g_callSi (q := 36) (c_X7_isKind hE ) lk_RX7_246 rfl rfl rfl rfl (Nat.le_of_ble_eq_true rfl) (Nat.le_of_ble_eq_true rfl) (Nat.le_of_ble_eq_true rfl) dX7_as_33 rfl ?_
      refine g_if_eq (t := 47) (q := 39) dX7_as_36 (by decide) rfl (fun c_36 => ?_) (fun c_36 => ?_)
      · rw [bI_0] at c_36
        refine g_aload_n (q := 48) dX7_as_47 rfl rfl ?_
        refine g_iconst (q := 49) dX7_as_48 ci_3 rfl ?_
        refine g_callVi (q := 52) (c_X7_find hE ) lk_RX7_65 (by decide) (by decide) rfl (by decide) rfl rfl rfl rfl rfl rfl (Nat.le_of_ble_eq_true rfl) (Nat.le_of_ble_eq_true rfl) (Nat.le_of_ble_eq_true rfl) dX7_as_49 rfl ?_
        exact g_iret dX7_as_52 (pi_i (by simp only [q_as, c_5, c_17, c_36, not_true_eq_false, not_false_eq_true, if_true, if_false, Bool.true_eq_false, Bool.false_eq_true, reduceIte, reduceCtorEq]) (by simp only [q_as, c_5, c_17, c_36, not_true_eq_false, not_false_eq_true, if_true, if_false, Bool.true_eq_false, Bool.false_eq_true, reduceIte, reduceCtorEq]) rfl)
      · rw [bI_n0] at c_36
        refine g_aload_n (q := 40) dX7_as_39 rfl rfl ?_
        refine g_iload_n (q := 41) dX7_as_40 rfl rfl ?_
        refine g_callVi (q := 44) (c_X7_well hE ) lk_RX7_69 (by decide) (by decide) rfl (by decide) rfl rfl rfl rfl rfl rfl (Nat.le_of_ble_eq_true rfl) (Nat.le_of_ble_eq_true rfl) (Nat.le_of_ble_eq_true rfl) dX7_as_41 rfl ?_
        refine g_goto (t := 52) dX7_as_44 (by decide) ?_
        exact g_iret dX7_as_52 (pi_i (by simp only [q_as, c_5, c_17, c_36, not_true_eq_false, not_false_eq_true, if_true, if_false, Bool.true_eq_false, Bool.false_eq_true, reduceIte, reduceCtorEq]) (by simp only [q_as, c_5, c_17, c_36, not_true_eq_false, not_false_eq_true, if_true, if_false, Bool.true_eq_false, Bool.false_eq_true, reduceIte, reduceCtorEq]) rfl)
    · rw [bI_0] at c_17
      rw [show inL k.toInt64 0 5 = wi k 0 5 from inL_i k 0 5] at c_17
      refine g_ldc (q := 22) dX7_as_20 wd_931 rfl ?_
      exact g_iret dX7_as_22 (pi_i (by simp only [q_as, c_5, c_17, not_true_eq_false, not_false_eq_true, if_true, if_false, Bool.true_eq_false, Bool.false_eq_true, reduceIte, reduceCtorEq]) (by simp only [q_as, c_5, c_17, not_true_eq_false, not_false_eq_true, if_true, if_false, Bool.true_eq_false, Bool.false_eq_true, reduceIte, reduceCtorEq]) rfl)
