def fsV (v : Sto) (c : Nat → Int32) : Int32 := s_fs (fun i => decide (v 0 3 < c ((v 4 i).toNatClampNeg))) 0 ((v 0 7).toNatClampNeg)
theorem fs_TV {σ v : Sto} {c : Nat → Int32} (h : TV σ v c) : s_fs (fun i => decide (σ 17 3 < σ (17 + 6) ((σ (17 + 4) i).toNatClampNeg))) 0 ((σ 17 7).toNatClampNeg) = fsV v c := by
  rw [h.1 3 (by decide), h.1 7 (by decide), h.2.1 4 (by decide) (by decide), h.2.2]
  rfl
def NO : Int32 := -1000000
def s_sh (v : Sto) (c : Nat → Int32) (h : Nat) : Nat → Int32 × Int32
  | 0 => (NO, NO)
  | m + 1 => if fsV v c = -1 then s_sh v (HC v c) (h + 1) m else (nI h, fsV v c)
def s_hu (v : Sto) (c : Nat → Int32) (r t : Int32) (h : Nat) : Nat → Int32
  | 0 => NO
  | m + 1 => if c (r.toNatClampNeg) < t then s_hu v (HC v c) r t (h + 1) m else nI h
def s_cw (c : Nat → Int32) (cold warm t : Int32) (i : Nat) : Nat → Bool
  | 0 => true
  | m + 1 => if ((if c i < t then cold else warm) >>> (nI i &&& 31)) &&& 1 = 0 then s_cw c cold warm t (i + 1) m else false
theorem tell_1 (a : Sto) (x y : Int32) : upc a 16 (upd (upd (a 16) 1 x) 2 y) 16 1 = x := by rw [upc_same, upd_ne (by decide), upd_same]
theorem tell_2 (a : Sto) (x y : Int32) : upc a 16 (upd (upd (a 16) 1 x) 2 y) 16 2 = y := by rw [upc_same, upd_same]

set_option maxRecDepth 20000 in
set_option maxHeartbeats 4000000 in
theorem c_X4_findShiver {E : EE} (hE : inj E 0 40) {σ : Sto} {τ : Stl} {mo : Int32} {N : Nat} (w : WFH σ 7) (hmo : mo = nI N - 1) (hN : N ≤ 61) : Ct E 0 40 yX4_findShiver cX4_findShiver 5 none { frames := 4, cells := 0, slots := 0, locals := 94 } [.ref (E.2.1 16), .ref (E.2.1 7), .int mo] σ τ (PvP (fun σ' τ' => frS σ σ' ∧ σ' 16 1 = (s_sh (vw σ 7) (σ (7 + 6)) 0 N).1 ∧ σ' 16 2 = (s_sh (vw σ 7) (σ (7 + 6)) 0 N).2 ∧ τ' = τ)) := by
  refine ct_of hE RX4 [some (.ref (E.2.1 16)), some (.ref (E.2.1 7)), some (.int mo), none, none] (by decide) rfl (Nat.le_of_ble_eq_true rfl) rfl (fun X => ?_)
  refine g_aload_n (q := 1) dX4_findShiver_0 rfl rfl ?_
  refine g_ldc (q := 3) dX4_findShiver_1 wd_596 rfl ?_
  refine g_ldc (q := 5) dX4_findShiver_3 wd_596 rfl ?_
  refine g_callVv (q := 8) (c_X4_tell hE ) lk_RX4_34 (by decide) (by decide) rfl (by decide) rfl rfl rfl rfl rfl rfl (Nat.le_of_ble_eq_true rfl) (Nat.le_of_ble_eq_true rfl) (Nat.le_of_ble_eq_true rfl) dX4_findShiver_5 rfl ?_
  refine g_aload_n (q := 9) dX4_findShiver_8 rfl rfl ?_
  refine f4_0 (q := 12) wd_234 dX4_findShiver_9 rfl ?_
  refine g_aload_n (q := 13) dX4_findShiver_12 rfl rfl ?_
  refine g_callVv (q := 16) (c_X1_become hE rfl rfl (by decide)) lk_RX4_25 (Nat.zero_le _) (h_lt rfl) rfl (by decide) rfl rfl rfl rfl rfl rfl (Nat.le_of_ble_eq_true rfl) (Nat.le_of_ble_eq_true rfl) (Nat.le_of_ble_eq_true rfl) dX4_findShiver_13 rfl ?_
  refine g_iconst (q := 17) dX4_findShiver_16 ci_0 rfl ?_
  refine g_istore_n (j := 3) (q := 18) dX4_findShiver_17 rfl (by decide) rfl rfl ?_
  refine g_loop (I := fun i => [some (.ref (E.2.1 16)), some (.ref (E.2.1 7)), some (.int mo), some (.int (nI i)), none]) (J := fun i σ' τ' => frS σ σ' ∧ TV σ' (vw σ 7) (hcs (vw σ 7) (σ (7 + 6)) i) ∧ σ' 16 1 = NO ∧ σ' 16 2 = NO ∧ s_sh (vw σ 7) (hcs (vw σ 7) (σ (7 + 6)) i) i (N - i) = s_sh (vw σ 7) (σ (7 + 6)) 0 N ∧ τ' = τ) (0) (N) (Nat.zero_le _) (by simp [lsub, nI_0]) (⟨frS_T (frS_16 (frS_rf σ) _) (fr_bec _ _), TV_bec2 (frS_16 (frS_rf σ) _), by rw [fr_bec _ _ 16 (by omega)]; exact tell_1 _ _ _, by rw [fr_bec _ _ 16 (by omega)]; exact tell_2 _ _ _, by rw [Nat.sub_zero]; rfl, rfl⟩) (fun i σi τi i0 i1 hJ_i kk_i => ?_) (fun σi τi hJ_i => ?_)
  · have hci : (nI i).toNatClampNeg = i := nI_clamp (by omega)
    obtain ⟨hf, hT, ha, hb, hR, ht⟩ := hJ_i
    obtain ⟨m, hm⟩ : ∃ m, N - i = m + 1 := ⟨N - i - 1, by omega⟩
    rw [hm] at hR
    simp only [s_sh] at hR
    refine g_iload_n (q := 19) dX4_findShiver_18 rfl rfl ?_
    refine g_iload_n (q := 20) dX4_findShiver_19 rfl rfl ?_
    refine g_icmp_gt (t := 59) (q := 23) dX4_findShiver_20 (by decide) rfl (fun c_20 => ?_) (fun c_20 => ?_)
    · exact absurd c_20 (lpg_in (by exact hmo) (by omega) i1)
    · refine g_aload_n (q := 24) dX4_findShiver_23 rfl rfl ?_
      refine f4_0 (q := 27) wd_234 dX4_findShiver_24 rfl ?_
      refine g_callVi (q := 30) (c_X1_firstShivering hE rfl (WF_TV (wfv_of w) hT)) lk_RX4_38 (Nat.zero_le _) (h_lt rfl) rfl (by decide) rfl rfl rfl rfl rfl rfl (Nat.le_of_ble_eq_true rfl) (Nat.le_of_ble_eq_true rfl) (Nat.le_of_ble_eq_true rfl) dX4_findShiver_27 rfl ?_
      refine g_istore (q := 32) dX4_findShiver_30 (by decide) rfl rfl ?_
      refine g_iload (q := 34) dX4_findShiver_32 rfl rfl ?_
      refine g_iconst (q := 35) dX4_findShiver_34 ci_m1 rfl ?_
      refine g_icmp_eq (t := 46) (q := 38) dX4_findShiver_35 (by decide) rfl (fun c_35 => ?_) (fun c_35 => ?_)
      · rw [fs_TV hT] at c_35
        rw [if_pos c_35] at hR
        refine g_aload_n (q := 47) dX4_findShiver_46 rfl rfl ?_
        refine f4_0 (q := 50) wd_234 dX4_findShiver_47 rfl ?_
        refine g_callVv (q := 53) (c_X1_passHour hE rfl (WF_TV (wfv_of w) hT)) lk_RX4_42 (Nat.zero_le _) (h_lt rfl) rfl (by decide) rfl rfl rfl rfl rfl rfl (Nat.le_of_ble_eq_true rfl) (Nat.le_of_ble_eq_true rfl) (Nat.le_of_ble_eq_true rfl) dX4_findShiver_50 rfl ?_
        refine g_iinc (q := 56) dX4_findShiver_53 rfl ci_1 (by decide) rfl rfl ?_
        refine g_goto (t := 18) dX4_findShiver_56 (by decide) ?_
        exact g_eqw (kk_i _ _ (⟨frS_T hf (fr_hrs _ _), TV_hrs hT 1, by rw [fr_hrs _ _ 16 (by omega)]; exact ha, by rw [fr_hrs _ _ 16 (by omega)]; exact hb, by rw [show N - (i + 1) = m by omega]; exact hR, ht⟩)) (by simp [lsub, hci, nI_succ, c_35]) rfl rfl
      · rw [fs_TV hT] at c_35
        rw [if_neg c_35] at hR
        refine g_aload_n (q := 39) dX4_findShiver_38 rfl rfl ?_
        refine g_iload_n (q := 40) dX4_findShiver_39 rfl rfl ?_
        refine g_iload (q := 42) dX4_findShiver_40 rfl rfl ?_
        refine g_callVv (q := 45) (c_X4_tell hE ) lk_RX4_34 (by decide) (by decide) rfl (by decide) rfl rfl rfl rfl rfl rfl (Nat.le_of_ble_eq_true rfl) (Nat.le_of_ble_eq_true rfl) (Nat.le_of_ble_eq_true rfl) dX4_findShiver_42 rfl ?_
        refine g_vret dX4_findShiver_45 ⟨rfl, ?_⟩
        rw [fs_TV hT]
        exact ⟨frS_16 hf _, by rw [tell_1, ← hR], by rw [tell_2, ← hR], ht⟩
  · obtain ⟨hf, hT, ha, hb, hR, ht⟩ := hJ_i
    refine g_iload_n (q := 19) dX4_findShiver_18 rfl rfl ?_
    refine g_iload_n (q := 20) dX4_findShiver_19 rfl rfl ?_
    refine g_icmp_gt (t := 59) (q := 23) dX4_findShiver_20 (by decide) rfl (fun c_20 => ?_) (fun c_20 => ?_)
    · refine g_vret dX4_findShiver_59 ⟨rfl, ?_⟩
      rw [Nat.sub_self] at hR
      exact ⟨hf, by rw [ha, ← hR]; rfl, by rw [hb, ← hR]; rfl, ht⟩
    · exact absurd (lpg_out (by exact hmo) (by omega)) c_20
set_option maxRecDepth 20000 in
set_option maxHeartbeats 4000000 in
theorem c_X4_hoursUntil {E : EE} (hE : inj E 0 40) {σ : Sto} {τ : Stl} {r t mo : Int32} {N : Nat} {v : Sto} {c : Nat → Int32} (w : WFV v) (hT0 : TV σ v c) (hr : vp_in r 6) (hmo : mo = nI N - 1) (hN : N ≤ 61) : Ct E 0 40 yX4_hoursUntil cX4_hoursUntil 5 (some FieldType.int) { frames := 4, cells := 0, slots := 0, locals := 94 } [.ref (E.2.1 16), .int r, .int t, .int mo] σ τ (PiP (fun x σ' τ' => x = s_hu v c r t 0 N ∧ frT σ σ' ∧ τ' = τ)) := by
  refine ct_of hE RX4 [some (.ref (E.2.1 16)), some (.int r), some (.int t), some (.int mo), none] (by decide) rfl (Nat.le_of_ble_eq_true rfl) rfl (fun X => ?_)
  refine g_iconst (q := 1) dX4_hoursUntil_0 ci_0 rfl ?_
  refine g_istore (q := 3) dX4_hoursUntil_1 (by decide) rfl rfl ?_
  refine g_loop (I := fun i => [some (.ref (E.2.1 16)), some (.int r), some (.int t), some (.int mo), some (.int (nI i))]) (J := fun i σ' τ' => frT σ σ' ∧ TV σ' v (hcs v c i) ∧ s_hu v (hcs v c i) r t i (N - i) = s_hu v c r t 0 N ∧ τ' = τ) (0) (N) (Nat.zero_le _) (by simp [lsub, nI_0]) (⟨frT_rf σ, hT0, by rw [Nat.sub_zero]; rfl, rfl⟩) (fun i σi τi i0 i1 hJ_i kk_i => ?_) (fun σi τi hJ_i => ?_)
  · have hci : (nI i).toNatClampNeg = i := nI_clamp (by omega)
    obtain ⟨hf, hT, hR, ht⟩ := hJ_i
    obtain ⟨m, hm⟩ : ∃ m, N - i = m + 1 := ⟨N - i - 1, by omega⟩
    rw [hm] at hR
    simp only [s_hu] at hR
    refine g_iload (q := 5) dX4_hoursUntil_3 rfl rfl ?_
    refine g_iload_n (q := 6) dX4_hoursUntil_5 rfl rfl ?_
    refine g_icmp_gt (t := 38) (q := 9) dX4_hoursUntil_6 (by decide) rfl (fun c_6 => ?_) (fun c_6 => ?_)
    · exact absurd c_6 (lpg_in (by exact hmo) (by omega) i1)
    · refine g_aload_n (q := 10) dX4_hoursUntil_9 rfl rfl ?_
      refine f4_0 (q := 13) wd_234 dX4_hoursUntil_10 rfl ?_
      refine f1_13 (q := 16) rfl wd_178 dX4_hoursUntil_13 rfl ?_
      refine g_iload_n (q := 17) dX4_hoursUntil_16 rfl rfl ?_
      refine g_aldH (q := 18) (c := 6) rfl (by decide) (by decide) (show vp_in _ 6 by exact hr) dX4_hoursUntil_17 rfl ?_
      refine g_iload_n (q := 19) dX4_hoursUntil_18 rfl rfl ?_
      refine g_icmp_lt (t := 25) (q := 22) dX4_hoursUntil_19 (by decide) rfl (fun c_19 => ?_) (fun c_19 => ?_)
      · rw [hT.2.2] at c_19
        rw [if_pos c_19] at hR
        refine g_aload_n (q := 26) dX4_hoursUntil_25 rfl rfl ?_
        refine f4_0 (q := 29) wd_234 dX4_hoursUntil_26 rfl ?_
        refine g_callVv (q := 32) (c_X1_passHour hE rfl (WF_TV w hT)) lk_RX4_42 (Nat.zero_le _) (h_lt rfl) rfl (by decide) rfl rfl rfl rfl rfl rfl (Nat.le_of_ble_eq_true rfl) (Nat.le_of_ble_eq_true rfl) (Nat.le_of_ble_eq_true rfl) dX4_hoursUntil_29 rfl ?_
        refine g_iinc (q := 35) dX4_hoursUntil_32 rfl ci_1 (by decide) rfl rfl ?_
        refine g_goto (t := 3) dX4_hoursUntil_35 (by decide) ?_
        exact g_eqw (kk_i _ _ (⟨frT_tr hf (fr_hrs _ _), TV_hrs hT 1, by rw [show N - (i + 1) = m by omega]; exact hR, ht⟩)) (by simp [lsub, hci, nI_succ, c_19]) rfl rfl
      · rw [hT.2.2] at c_19
        rw [if_neg c_19] at hR
        refine g_iload (q := 24) dX4_hoursUntil_22 rfl rfl ?_
        refine g_iret dX4_hoursUntil_24 ⟨_, rfl, ?_⟩
        exact ⟨hR, hf, ht⟩
  · obtain ⟨hf, hT, hR, ht⟩ := hJ_i
    refine g_iload (q := 5) dX4_hoursUntil_3 rfl rfl ?_
    refine g_iload_n (q := 6) dX4_hoursUntil_5 rfl rfl ?_
    refine g_icmp_gt (t := 38) (q := 9) dX4_hoursUntil_6 (by decide) rfl (fun c_6 => ?_) (fun c_6 => ?_)
    · refine g_ldc (q := 40) dX4_hoursUntil_38 wd_596 rfl ?_
      refine g_iret dX4_hoursUntil_40 ⟨_, rfl, ?_⟩
      rw [Nat.sub_self] at hR
      exact ⟨hR, hf, ht⟩
    · exact absurd (lpg_out (by exact hmo) (by omega)) c_6
set_option maxRecDepth 20000 in
set_option maxHeartbeats 4000000 in
theorem c_X4_isColdAndWarm {E : EE} (hE : inj E 0 40) {σ : Sto} {τ : Stl} {a b t : Int32} {v : Sto} {c : Nat → Int32} (w : WFV v) (hT : TV σ v c) : Ct E 0 40 yX4_isColdAndWarm cX4_isColdAndWarm 6 (some FieldType.boolean) { frames := 0, cells := 0, slots := 0, locals := 0 } [.ref (E.2.1 16), .int a, .int b, .int t] σ τ (Pi (bI (s_cw c a b t 0 ((v 0 0).toNatClampNeg))) (σ) (τ)) := by
  refine ct_of hE RX4 [some (.ref (E.2.1 16)), some (.int a), some (.int b), some (.int t), none, none] (by decide) rfl (Nat.le_of_ble_eq_true rfl) rfl (fun X => ?_)
  obtain ⟨e0, b0⟩ := vp_to w.1.1 (by decide)
  refine g_iconst (q := 1) dX4_isColdAndWarm_0 ci_0 rfl ?_
  refine g_istore (q := 3) dX4_isColdAndWarm_1 (by decide) rfl rfl ?_
  refine g_loop (I := fun i => [some (.ref (E.2.1 16)), some (.int a), some (.int b), some (.int t), some (.int (nI i)), none]) (J := fun i σ' τ' => σ' = σ ∧ s_cw c a b t i ((v 0 0).toNatClampNeg - i) = s_cw c a b t 0 ((v 0 0).toNatClampNeg) ∧ τ' = τ) (0) ((v 0 0).toNatClampNeg) (Nat.zero_le _) (by simp [lsub, nI_0]) (⟨rfl, rfl, rfl⟩) (fun i σi τi i0 i1 hJ_i kk_i => ?_) (fun σi τi hJ_i => ?_)
  · have hci : (nI i).toNatClampNeg = i := nI_clamp (by omega)
    obtain ⟨rfl, hR, rfl⟩ := hJ_i
    obtain ⟨m, hm⟩ : ∃ m, (v 0 0).toNatClampNeg - i = m + 1 := ⟨(v 0 0).toNatClampNeg - i - 1, by omega⟩
    rw [hm] at hR
    simp only [s_cw] at hR
    refine g_iload (q := 5) dX4_isColdAndWarm_3 rfl rfl ?_
    refine g_aload_n (q := 6) dX4_isColdAndWarm_5 rfl rfl ?_
    refine f4_0 (q := 9) wd_234 dX4_isColdAndWarm_6 rfl ?_
    refine f1_0 (q := 12) rfl wd_139 dX4_isColdAndWarm_9 rfl ?_
    refine g_icmp_ge (t := 54) (q := 15) dX4_isColdAndWarm_12 (by decide) rfl (fun c_12 => ?_) (fun c_12 => ?_)
    · exact absurd c_12 (lp_in (by rw [hT.1 0 (by decide)]; exact e0) (by omega) i1)
    · refine g_aload_n (q := 16) dX4_isColdAndWarm_15 rfl rfl ?_
      refine f4_0 (q := 19) wd_234 dX4_isColdAndWarm_16 rfl ?_
      refine f1_13 (q := 22) rfl wd_178 dX4_isColdAndWarm_19 rfl ?_
      refine g_iload (q := 24) dX4_isColdAndWarm_22 rfl rfl ?_
      refine g_aldH (q := 25) (c := 6) rfl (by decide) (by decide) (show vp_in _ 6 by ((with_reducible refine vp_in_nI ?_ ?_); (omega); (decide))) dX4_isColdAndWarm_24 rfl ?_
      refine g_iload_n (q := 26) dX4_isColdAndWarm_25 rfl rfl ?_
      refine g_icmp_lt (t := 33) (q := 29) dX4_isColdAndWarm_26 (by decide) rfl (fun c_26 => ?_) (fun c_26 => ?_)
      · rw [hT.2.2, hci] at c_26
        rw [if_pos c_26] at hR
        refine g_iload_n (q := 34) dX4_isColdAndWarm_33 rfl rfl ?_
        refine g_istore (q := 36) dX4_isColdAndWarm_34 (by decide) rfl rfl ?_
        refine g_iload (q := 38) dX4_isColdAndWarm_36 rfl rfl ?_
        refine g_iload (q := 40) dX4_isColdAndWarm_38 rfl rfl ?_
        refine g_ishr (q := 41) dX4_isColdAndWarm_40 rfl ?_
        refine g_iconst (q := 42) dX4_isColdAndWarm_41 ci_1 rfl ?_
        refine g_iand (q := 43) dX4_isColdAndWarm_42 rfl ?_
        refine g_if_eq (t := 48) (q := 46) dX4_isColdAndWarm_43 (by decide) rfl (fun c_43 => ?_) (fun c_43 => ?_)
        · rw [if_pos c_43] at hR
          refine g_iinc (q := 51) dX4_isColdAndWarm_48 rfl ci_1 (by decide) rfl rfl ?_
          refine g_goto (t := 3) dX4_isColdAndWarm_51 (by decide) ?_
          exact g_eqw (kk_i _ _ (⟨rfl, by rw [show (v 0 0).toNatClampNeg - (i + 1) = m by omega]; exact hR, rfl⟩)) (by simp [lsub, hci, nI_succ, c_26, c_43]) rfl rfl
        · rw [if_neg c_43] at hR
          refine g_iconst (q := 47) dX4_isColdAndWarm_46 ci_0 rfl ?_
          exact g_zret dX4_isColdAndWarm_47 (by first | decide | exact bI_nar _) (pi_i (by rw [← hR]; rfl) (by rfl) rfl)
      · rw [hT.2.2, hci] at c_26
        rw [if_neg c_26] at hR
        refine g_iload_n (q := 30) dX4_isColdAndWarm_29 rfl rfl ?_
        refine g_goto (t := 34) dX4_isColdAndWarm_30 (by decide) ?_
        refine g_istore (q := 36) dX4_isColdAndWarm_34 (by decide) rfl rfl ?_
        refine g_iload (q := 38) dX4_isColdAndWarm_36 rfl rfl ?_
        refine g_iload (q := 40) dX4_isColdAndWarm_38 rfl rfl ?_
        refine g_ishr (q := 41) dX4_isColdAndWarm_40 rfl ?_
        refine g_iconst (q := 42) dX4_isColdAndWarm_41 ci_1 rfl ?_
        refine g_iand (q := 43) dX4_isColdAndWarm_42 rfl ?_
        refine g_if_eq (t := 48) (q := 46) dX4_isColdAndWarm_43 (by decide) rfl (fun c_43 => ?_) (fun c_43 => ?_)
        · rw [if_pos c_43] at hR
          refine g_iinc (q := 51) dX4_isColdAndWarm_48 rfl ci_1 (by decide) rfl rfl ?_
          refine g_goto (t := 3) dX4_isColdAndWarm_51 (by decide) ?_
          exact g_eqw (kk_i _ _ (⟨rfl, by rw [show (v 0 0).toNatClampNeg - (i + 1) = m by omega]; exact hR, rfl⟩)) (by simp [lsub, hci, nI_succ, c_26, c_43]) rfl rfl
        · rw [if_neg c_43] at hR
          refine g_iconst (q := 47) dX4_isColdAndWarm_46 ci_0 rfl ?_
          exact g_zret dX4_isColdAndWarm_47 (by first | decide | exact bI_nar _) (pi_i (by rw [← hR]; rfl) (by rfl) rfl)
  · obtain ⟨rfl, hR, rfl⟩ := hJ_i
    refine g_iload (q := 5) dX4_isColdAndWarm_3 rfl rfl ?_
    refine g_aload_n (q := 6) dX4_isColdAndWarm_5 rfl rfl ?_
    refine f4_0 (q := 9) wd_234 dX4_isColdAndWarm_6 rfl ?_
    refine f1_0 (q := 12) rfl wd_139 dX4_isColdAndWarm_9 rfl ?_
    refine g_icmp_ge (t := 54) (q := 15) dX4_isColdAndWarm_12 (by decide) rfl (fun c_12 => ?_) (fun c_12 => ?_)
    · refine g_iconst (q := 55) dX4_isColdAndWarm_54 ci_1 rfl ?_
      exact g_zret dX4_isColdAndWarm_55 (by first | decide | exact bI_nar _) (pi_i (by rw [Nat.sub_self] at hR; rw [← hR]; rfl) (by rfl) rfl)
    · exact absurd (lp_out (by rw [hT.1 0 (by decide)]; exact e0)) c_12
