theorem HN_0 {W : Nat} (h : 0 < W) : HN W 0 = 0 := by rw [HN_z h (Nat.zero_mod _), Nat.zero_div]
theorem so_eq {σ : Sto} {f : Nat → Int32} {A N : Nat} (h : f 0 = σ 44 0) : soM (upc (asd σ) 44 f 43) (upc (asd σ) 44 f 44) A ((upc (asd σ) 44 f 44 0).toNatClampNeg) (N * (upc (asd σ) 44 f 44 0).toNatClampNeg) = soM (σ 43) f A ((σ 44 0).toNatClampNeg) (N * (σ 44 0).toNatClampNeg) := by
  rw [upc_same, upc_ne (by decide), asd_ne (by decide), h]
theorem wi_pos {v z : Int32} {N : Nat} (hN : N < 2 ^ 31) (hz : vp_in z N) (h : wi v 0 (z - 1) = true) : 0 < z := by
  obtain ⟨e, hl⟩ := vp_to hz hN
  rcases Nat.eq_zero_or_pos (z.toNatClampNeg) with q | q
  · rw [e, q] at h
    simp only [wi, Bool.and_eq_true, decide_eq_true_eq] at h
    exact absurd (Int32.le_trans h.1 h.2) (by decide)
  · rw [e, ← nI_0]
    exact nI_lt q (by omega)
set_option maxRecDepth 20000 in
set_option maxHeartbeats 4000000 in
theorem c_X7_lacks {E : EE} (hE : inj E 40 13) {σ : Sto} {τ : Stl} {r i n : Int32} (hr : vp_in r 8) : Ct E 40 13 yX7_lacks cX7_lacks 4 (some FieldType.int) { frames := 1, cells := 0, slots := 0, locals := 25 } [.ref (E.2.1 40), .int r, .int i, .int n] σ τ (Pi ((q_lacks σ r i n).1) ((q_lacks σ r i n).2) (τ)) := by
  refine ct_of hE RX7 [some (.ref (E.2.1 40)), some (.int r), some (.int i), some (.int n)] (by decide) rfl (Nat.le_of_ble_eq_true rfl) rfl (fun X => ?_)
  refine g_aload_n (q := 1) dX7_lacks_0 rfl rfl ?_
  refine f7_1 (q := 4) wd_849 dX7_lacks_1 rfl ?_
  have er := vp_to hr (by decide)
  refine g_iload_n (q := 5) dX7_lacks_4 rfl rfl ?_
  refine g_ialdJ (q := 6) (k := 42) (j := r.toNatClampNeg) (N := 8) (by decide) (by decide) rfl rfl (by decide) er.1 (by omega) dX7_lacks_5 rfl ?_
  refine g_if_ge (t := 15) (q := 9) dX7_lacks_6 (by decide) rfl (fun c_6 => ?_) (fun c_6 => ?_)
  · refine g_iload_n (q := 16) dX7_lacks_15 rfl rfl ?_
    refine g_i2l (q := 17) dX7_lacks_16 rfl ?_
    refine g_lconst (q := 18) dX7_lacks_17 cl_0 rfl ?_
    refine g_aload_n (q := 19) dX7_lacks_18 rfl rfl ?_
    refine f7_1 (q := 22) wd_849 dX7_lacks_19 rfl ?_
    refine g_iload_n (q := 23) dX7_lacks_22 rfl rfl ?_
    refine g_ialdJ (q := 24) (k := 42) (j := r.toNatClampNeg) (N := 8) (by decide) (by decide) rfl rfl (by decide) er.1 (by omega) dX7_lacks_23 rfl ?_
    refine g_iload_n (q := 25) dX7_lacks_24 rfl rfl ?_
    refine g_isub (q := 26) dX7_lacks_25 rfl ?_
    refine g_i2l (q := 27) dX7_lacks_26 rfl ?_
    refine g_callSi (q := 30) (c_X7_in hE ) lk_RX7_54 rfl rfl rfl rfl (Nat.le_of_ble_eq_true rfl) (Nat.le_of_ble_eq_true rfl) (Nat.le_of_ble_eq_true rfl) dX7_lacks_27 rfl ?_
    refine g_if_eq (t := 37) (q := 33) dX7_lacks_30 (by decide) rfl (fun c_30 => ?_) (fun c_30 => ?_)
    · rw [bI_0] at c_30
      rw [show inL i.toInt64 0 (σ 42 (r.toNatClampNeg) - n).toInt64 = wi i 0 (σ 42 (r.toNatClampNeg) - n) from inL_i i 0 _] at c_30
      refine g_aload_n (q := 38) dX7_lacks_37 rfl rfl ?_
      refine g_iconst (q := 39) dX7_lacks_38 ci_2 rfl ?_
      refine g_callVi (q := 42) (c_X7_find hE ) lk_RX7_65 (by decide) (by decide) rfl (by decide) rfl rfl rfl rfl rfl rfl (Nat.le_of_ble_eq_true rfl) (Nat.le_of_ble_eq_true rfl) (Nat.le_of_ble_eq_true rfl) dX7_lacks_39 rfl ?_
      exact g_iret dX7_lacks_42 (pi_i (by simp only [q_lacks, c_6, c_30, not_true_eq_false, not_false_eq_true, if_true, if_false, Bool.true_eq_false, Bool.false_eq_true, reduceIte, reduceCtorEq]) (by simp only [q_lacks, c_6, c_30, not_true_eq_false, not_false_eq_true, if_true, if_false, Bool.true_eq_false, Bool.false_eq_true, reduceIte, reduceCtorEq]) rfl)
    · rw [bI_n0] at c_30
      rw [show inL i.toInt64 0 (σ 42 (r.toNatClampNeg) - n).toInt64 = wi i 0 (σ 42 (r.toNatClampNeg) - n) from inL_i i 0 _] at c_30
      refine g_iconst (q := 34) dX7_lacks_33 ci_0 rfl ?_
      refine g_goto (t := 42) dX7_lacks_34 (by decide) ?_
      exact g_iret dX7_lacks_42 (pi_i (by simp only [q_lacks, c_6, c_30, not_true_eq_false, not_false_eq_true, if_true, if_false, Bool.true_eq_false, Bool.false_eq_true, reduceIte, reduceCtorEq]) (by simp only [q_lacks, c_6, c_30, not_true_eq_false, not_false_eq_true, if_true, if_false, Bool.true_eq_false, Bool.false_eq_true, reduceIte, reduceCtorEq]) rfl)
  · refine g_aload_n (q := 10) dX7_lacks_9 rfl rfl ?_
    refine g_iconst (q := 11) dX7_lacks_10 ci_1 rfl ?_
    refine g_callVi (q := 14) (c_X7_find hE ) lk_RX7_65 (by decide) (by decide) rfl (by decide) rfl rfl rfl rfl rfl rfl (Nat.le_of_ble_eq_true rfl) (Nat.le_of_ble_eq_true rfl) (Nat.le_of_ble_eq_true rfl) dX7_lacks_11 rfl ?_
    exact g_iret dX7_lacks_14 (pi_i (by simp only [q_lacks, c_6, not_true_eq_false, not_false_eq_true, if_true, if_false, Bool.true_eq_false, Bool.false_eq_true, reduceIte, reduceCtorEq]) (by simp only [q_lacks, c_6, not_true_eq_false, not_false_eq_true, if_true, if_false, Bool.true_eq_false, Bool.false_eq_true, reduceIte, reduceCtorEq]) rfl)
set_option maxRecDepth 20000 in
set_option maxHeartbeats 4000000 in
theorem c_X7_isSo {E : EE} (hE : inj E 40 13) {σ : Sto} {τ : Stl} {A N : Nat} (w : WFM (σ 44)) (w0 : 0 < (σ 44 0).toNatClampNeg) (hb : A + N * (σ 44 0).toNatClampNeg ≤ 320) (hN : N ≤ 6) : Ct E 40 13 yX7_isSo cX7_isSo 5 (some FieldType.boolean) { frames := 3, cells := 0, slots := 0, locals := 72 } [.ref (E.2.1 40), .int (nI A), .int (nI N)] σ τ (Pi (bI (soM (σ 43) (σ 44) A ((σ 44 0).toNatClampNeg) (N * (σ 44 0).toNatClampNeg))) (upc σ 44 (σ 49)) (τ)) := by
  refine ct_of hE RX7 [some (.ref (E.2.1 40)), some (.int (nI A)), some (.int (nI N)), none, none] (by decide) rfl (Nat.le_of_ble_eq_true rfl) rfl (fun X => ?_)
  obtain ⟨⟨e0, b0⟩, ⟨e1, b1⟩, ⟨e4, b4⟩, ⟨e5, b5⟩⟩ := wfm_n w
  refine g_iconst (q := 1) dX7_isSo_0 ci_1 rfl ?_
  refine g_istore_n (j := 3) (q := 2) dX7_isSo_1 rfl (by decide) rfl rfl ?_
  refine g_iconst (q := 3) dX7_isSo_2 ci_0 rfl ?_
  refine g_istore (q := 5) dX7_isSo_3 (by decide) rfl rfl ?_
  refine g_for (I := fun k => [some (.ref (E.2.1 40)), some (.int (nI A)), some (.int (nI N)), some (.int (bI (soM (σ 43) (σ 44) A ((σ 44 0).toNatClampNeg) k))), some (.int (nI k))]) (S := fun k => upc σ 44 (q_hrs (σ 44) (HN ((σ 44 0).toNatClampNeg) k))) (T := fun k => τ) (0) (N * (σ 44 0).toNatClampNeg) (Nat.zero_le _) (by rfl) (by rw [HN_0 w0]; exact (upc_id _ _).symm) (by rfl) (fun k k0 k1 kk_k => ?_) ?_
  · have hck : (nI k).toNatClampNeg = k := nI_clamp (by omega)
    have st0 : upc σ 44 (q_hrs (σ 44) (HN ((σ 44 0).toNatClampNeg) k)) 44 0 = σ 44 0 := by rw [upc_same, hrs_0 w _ 0 (by decide) (by decide)]
    have st1 : upc σ 44 (q_hrs (σ 44) (k / (σ 44 0).toNatClampNeg + 1)) 44 0 = σ 44 0 := by rw [upc_same, hrs_0 w _ 0 (by decide) (by decide)]
    have rm : nI k - nI k / σ 44 0 * σ 44 0 = nI (k % (σ 44 0).toNatClampNeg) := by rw [e0, nI_clamp (by omega)]; exact pk_rem (by omega) w0 (by omega)
    have kml := Nat.mod_lt k w0
    refine g_iload (q := 7) dX7_isSo_5 rfl rfl ?_
    refine g_iload_n (q := 8) dX7_isSo_7 rfl rfl ?_
    refine g_aload_n (q := 9) dX7_isSo_8 rfl rfl ?_
    refine f7_5 (q := 12) wd_853 dX7_isSo_9 rfl ?_
    refine g_iconst (q := 13) dX7_isSo_12 ci_0 rfl ?_
    refine g_ialdJ (q := 14) (k := 44) (j := 0) (N := 52) (by decide) (by decide) rfl rfl (by decide) (show (0 : Int32) = nI 0 from rfl) (by omega) dX7_isSo_13 rfl ?_
    refine g_imul (q := 15) dX7_isSo_14 rfl ?_
    refine g_icmp_ge (t := 79) (q := 18) dX7_isSo_15 (by decide) rfl (fun c_15 => ?_) (fun c_15 => ?_)
    · exact absurd c_15 (lp_in (by rw [upc_same, hrs_0 w _ 0 (by decide) (by decide)]; exact mu2 rfl e0) (by omega) k1)
    · refine g_iload (q := 20) dX7_isSo_18 rfl rfl ?_
      refine g_aload_n (q := 21) dX7_isSo_20 rfl rfl ?_
      refine f7_5 (q := 24) wd_853 dX7_isSo_21 rfl ?_
      refine g_iconst (q := 25) dX7_isSo_24 ci_0 rfl ?_
      refine g_ialdJ (q := 26) (k := 44) (j := 0) (N := 52) (by decide) (by decide) rfl rfl (by decide) (show (0 : Int32) = nI 0 from rfl) (by omega) dX7_isSo_25 rfl ?_
      refine g_irem (q := 27) dX7_isSo_26 (by rw [st0, e0]; exact nI_ne0 w0 (by omega)) rfl ?_
      refine g_st (stk' := [.int (nI (k % (σ 44 0).toNatClampNeg))]) (by rw [st0, rm]) ?_
      refine g_if_ne (t := 34) (q := 30) dX7_isSo_27 (by decide) rfl (fun c_27 => ?_) (fun c_27 => ?_)
      · have hz : ¬ k % (σ 44 0).toNatClampNeg = 0 := fun q => c_27 (by rw [q]; rfl)
        refine g_sg (σ' := upc σ 44 (q_hrs (σ 44) (k / (σ 44 0).toNatClampNeg + 1))) (by rw [HN_n w0 hz]) ?_
        refine g_iload_n (q := 35) dX7_isSo_34 rfl rfl ?_
        refine g_if_eq (t := 71) (q := 38) dX7_isSo_35 (by decide) rfl (fun c_35 => ?_) (fun c_35 => ?_)
        · rw [bI_0] at c_35
          refine g_iconst (q := 72) dX7_isSo_71 ci_0 rfl ?_
          refine g_istore_n (j := 3) (q := 73) dX7_isSo_72 rfl (by decide) rfl rfl ?_
          refine g_iinc (q := 76) dX7_isSo_73 rfl ci_1 (by decide) rfl rfl ?_
          refine g_goto (t := 5) dX7_isSo_76 (by decide) ?_
          (try rw [upc_same] at c_64)
          exact g_eqw kk_k (by simp [lsub, soM, nI_succ, bI, c_35]) (by rw [HN_s w0]) rfl
        · rw [bI_n0] at c_35
          refine g_aload_n (q := 39) dX7_isSo_38 rfl rfl ?_
          refine f7_2 (q := 42) wd_850 dX7_isSo_39 rfl ?_
          refine g_iload_n (q := 43) dX7_isSo_42 rfl rfl ?_
          refine g_iload (q := 45) dX7_isSo_43 rfl rfl ?_
          refine g_iadd (q := 46) dX7_isSo_45 rfl ?_
          refine g_ialdJ (q := 47) (k := 43) (j := (A + k)) (N := 320) (by decide) (by decide) rfl rfl (by decide) (ad2 rfl rfl) (by omega) dX7_isSo_46 rfl ?_
          refine g_aload_n (q := 48) dX7_isSo_47 rfl rfl ?_
          refine f7_5 (q := 51) wd_853 dX7_isSo_48 rfl ?_
          refine g_bipush (q := 53) dX7_isSo_51 cb_7 rfl ?_
          refine g_iload (q := 55) dX7_isSo_53 rfl rfl ?_
          refine g_aload_n (q := 56) dX7_isSo_55 rfl rfl ?_
          refine f7_5 (q := 59) wd_853 dX7_isSo_56 rfl ?_
          refine g_iconst (q := 60) dX7_isSo_59 ci_0 rfl ?_
          refine g_ialdJ (q := 61) (k := 44) (j := 0) (N := 52) (by decide) (by decide) rfl rfl (by decide) (show (0 : Int32) = nI 0 from rfl) (by omega) dX7_isSo_60 rfl ?_
          refine g_irem (q := 62) dX7_isSo_61 (by rw [st1, e0]; exact nI_ne0 w0 (by omega)) rfl ?_
          refine g_st (stk' := [.int (nI (k % (σ 44 0).toNatClampNeg)), .int 7, .ref (E.2.1 44), .int (σ 43 (A + k))]) (by rw [st1, rm, upc_ne (show (43 : Nat) ≠ 44 by decide)]) ?_
          refine g_iadd (q := 63) dX7_isSo_62 rfl ?_
          refine g_ialdJ (q := 64) (k := 44) (j := (7 + k % (σ 44 0).toNatClampNeg)) (N := 52) (by decide) (by decide) rfl rfl (by decide) (ad2 (show (7 : Int32) = nI 7 from rfl) rfl) (by omega) dX7_isSo_63 rfl ?_
          refine g_icmp_ne (t := 71) (q := 67) dX7_isSo_64 (by decide) rfl (fun c_64 => ?_) (fun c_64 => ?_)
          · refine g_iconst (q := 72) dX7_isSo_71 ci_0 rfl ?_
            refine g_istore_n (j := 3) (q := 73) dX7_isSo_72 rfl (by decide) rfl rfl ?_
            refine g_iinc (q := 76) dX7_isSo_73 rfl ci_1 (by decide) rfl rfl ?_
            refine g_goto (t := 5) dX7_isSo_76 (by decide) ?_
            (try rw [upc_same] at c_64)
            exact g_eqw kk_k (by simp [lsub, soM, nI_succ, bI, c_35, c_64]) (by rw [HN_s w0]) rfl
          · refine g_iconst (q := 68) dX7_isSo_67 ci_1 rfl ?_
            refine g_goto (t := 72) dX7_isSo_68 (by decide) ?_
            refine g_istore_n (j := 3) (q := 73) dX7_isSo_72 rfl (by decide) rfl rfl ?_
            refine g_iinc (q := 76) dX7_isSo_73 rfl ci_1 (by decide) rfl rfl ?_
            refine g_goto (t := 5) dX7_isSo_76 (by decide) ?_
            (try rw [upc_same] at c_64)
            exact g_eqw kk_k (by simp [lsub, soM, nI_succ, bI, c_35, c_64]) (by rw [HN_s w0]) rfl
      · have hz : k % (σ 44 0).toNatClampNeg = 0 := (nI_eq (by omega) (by decide)).mp c_27
        refine g_aload_n (q := 31) dX7_isSo_30 rfl rfl ?_
        refine g_callVv (q := 34) (c_X7_oneHour hE (by rw [upc_same]; exact wfm_hrs w _)) lk_RX7_159 (by decide) (by decide) rfl (by decide) rfl rfl rfl rfl rfl rfl (Nat.le_of_ble_eq_true rfl) (Nat.le_of_ble_eq_true rfl) (Nat.le_of_ble_eq_true rfl) dX7_isSo_31 rfl ?_
        refine g_sg (σ' := upc σ 44 (q_hrs (σ 44) (k / (σ 44 0).toNatClampNeg + 1))) (by rw [upc_upc, upc_same, HN_z w0 hz]; rfl) ?_
        refine g_iload_n (q := 35) dX7_isSo_34 rfl rfl ?_
        refine g_if_eq (t := 71) (q := 38) dX7_isSo_35 (by decide) rfl (fun c_35 => ?_) (fun c_35 => ?_)
        · rw [bI_0] at c_35
          refine g_iconst (q := 72) dX7_isSo_71 ci_0 rfl ?_
          refine g_istore_n (j := 3) (q := 73) dX7_isSo_72 rfl (by decide) rfl rfl ?_
          refine g_iinc (q := 76) dX7_isSo_73 rfl ci_1 (by decide) rfl rfl ?_
          refine g_goto (t := 5) dX7_isSo_76 (by decide) ?_
          (try rw [upc_same] at c_64)
          exact g_eqw kk_k (by simp [lsub, soM, nI_succ, bI, c_35]) (by rw [HN_s w0]) rfl
        · rw [bI_n0] at c_35
          refine g_aload_n (q := 39) dX7_isSo_38 rfl rfl ?_
          refine f7_2 (q := 42) wd_850 dX7_isSo_39 rfl ?_
          refine g_iload_n (q := 43) dX7_isSo_42 rfl rfl ?_
          refine g_iload (q := 45) dX7_isSo_43 rfl rfl ?_
          refine g_iadd (q := 46) dX7_isSo_45 rfl ?_
          refine g_ialdJ (q := 47) (k := 43) (j := (A + k)) (N := 320) (by decide) (by decide) rfl rfl (by decide) (ad2 rfl rfl) (by omega) dX7_isSo_46 rfl ?_
          refine g_aload_n (q := 48) dX7_isSo_47 rfl rfl ?_
          refine f7_5 (q := 51) wd_853 dX7_isSo_48 rfl ?_
          refine g_bipush (q := 53) dX7_isSo_51 cb_7 rfl ?_
          refine g_iload (q := 55) dX7_isSo_53 rfl rfl ?_
          refine g_aload_n (q := 56) dX7_isSo_55 rfl rfl ?_
          refine f7_5 (q := 59) wd_853 dX7_isSo_56 rfl ?_
          refine g_iconst (q := 60) dX7_isSo_59 ci_0 rfl ?_
          refine g_ialdJ (q := 61) (k := 44) (j := 0) (N := 52) (by decide) (by decide) rfl rfl (by decide) (show (0 : Int32) = nI 0 from rfl) (by omega) dX7_isSo_60 rfl ?_
          refine g_irem (q := 62) dX7_isSo_61 (by rw [st1, e0]; exact nI_ne0 w0 (by omega)) rfl ?_
          refine g_st (stk' := [.int (nI (k % (σ 44 0).toNatClampNeg)), .int 7, .ref (E.2.1 44), .int (σ 43 (A + k))]) (by rw [st1, rm, upc_ne (show (43 : Nat) ≠ 44 by decide)]) ?_
          refine g_iadd (q := 63) dX7_isSo_62 rfl ?_
          refine g_ialdJ (q := 64) (k := 44) (j := (7 + k % (σ 44 0).toNatClampNeg)) (N := 52) (by decide) (by decide) rfl rfl (by decide) (ad2 (show (7 : Int32) = nI 7 from rfl) rfl) (by omega) dX7_isSo_63 rfl ?_
          refine g_icmp_ne (t := 71) (q := 67) dX7_isSo_64 (by decide) rfl (fun c_64 => ?_) (fun c_64 => ?_)
          · refine g_iconst (q := 72) dX7_isSo_71 ci_0 rfl ?_
            refine g_istore_n (j := 3) (q := 73) dX7_isSo_72 rfl (by decide) rfl rfl ?_
            refine g_iinc (q := 76) dX7_isSo_73 rfl ci_1 (by decide) rfl rfl ?_
            refine g_goto (t := 5) dX7_isSo_76 (by decide) ?_
            (try rw [upc_same] at c_64)
            exact g_eqw kk_k (by simp [lsub, soM, nI_succ, bI, c_35, c_64]) (by rw [HN_s w0]) rfl
          · refine g_iconst (q := 68) dX7_isSo_67 ci_1 rfl ?_
            refine g_goto (t := 72) dX7_isSo_68 (by decide) ?_
            refine g_istore_n (j := 3) (q := 73) dX7_isSo_72 rfl (by decide) rfl rfl ?_
            refine g_iinc (q := 76) dX7_isSo_73 rfl ci_1 (by decide) rfl rfl ?_
            refine g_goto (t := 5) dX7_isSo_76 (by decide) ?_
            (try rw [upc_same] at c_64)
            exact g_eqw kk_k (by simp [lsub, soM, nI_succ, bI, c_35, c_64]) (by rw [HN_s w0]) rfl
  · refine g_iload (q := 7) dX7_isSo_5 rfl rfl ?_
    refine g_iload_n (q := 8) dX7_isSo_7 rfl rfl ?_
    refine g_aload_n (q := 9) dX7_isSo_8 rfl rfl ?_
    refine f7_5 (q := 12) wd_853 dX7_isSo_9 rfl ?_
    refine g_iconst (q := 13) dX7_isSo_12 ci_0 rfl ?_
    refine g_ialdJ (q := 14) (k := 44) (j := 0) (N := 52) (by decide) (by decide) rfl rfl (by decide) (show (0 : Int32) = nI 0 from rfl) (by omega) dX7_isSo_13 rfl ?_
    refine g_imul (q := 15) dX7_isSo_14 rfl ?_
    refine g_icmp_ge (t := 79) (q := 18) dX7_isSo_15 (by decide) rfl (fun c_15 => ?_) (fun c_15 => ?_)
    · refine g_aload_n (q := 80) dX7_isSo_79 rfl rfl ?_
      refine g_callVv (q := 83) (c_X7_takeBack hE ) lk_RX7_192 (by decide) (by decide) rfl (by decide) rfl rfl rfl rfl rfl rfl (Nat.le_of_ble_eq_true rfl) (Nat.le_of_ble_eq_true rfl) (Nat.le_of_ble_eq_true rfl) dX7_isSo_80 rfl ?_
      refine g_iload_n (q := 84) dX7_isSo_83 rfl rfl ?_
      exact g_zret dX7_isSo_84 (by first | decide | exact bI_nar _) (pi_i (by rfl) (by rw [upc_upc, upc_ne (by decide)]) rfl)
    · exact absurd (lp_out (by rw [upc_same, hrs_0 w _ 0 (by decide) (by decide)]; exact mu2 rfl e0)) c_15
set_option maxRecDepth 20000 in
set_option maxHeartbeats 4000000 in
theorem c_X7_came {E : EE} (hE : inj E 40 13) {σ : Sto} {τ : Stl} {ro i n : Int32} (w : WFM (σ 44)) (th : ¬ σ 40 4 = 0 → 0 < σ 44 0) (sz : SZM σ) : Ct E 40 13 yX7_came cX7_came 7 (some FieldType.int) { frames := 4, cells := 0, slots := 0, locals := 96 } [.ref (E.2.1 40), .int ro, .int i, .int n] σ τ (Pi ((q_came σ ro i n).1) ((q_came σ ro i n).2) (τ)) := by
  refine ct_of hE RX7 [some (.ref (E.2.1 40)), some (.int ro), some (.int i), some (.int n), none, none, none] (by decide) rfl (Nat.le_of_ble_eq_true rfl) rfl (fun X => ?_)
  obtain ⟨⟨e0, b0⟩, ⟨e1, b1⟩, ⟨e4, b4⟩, ⟨e5, b5⟩⟩ := wfm_n w
  refine g_aload_n (q := 1) dX7_came_0 rfl rfl ?_
  refine f7_4 (q := 4) wd_852 dX7_came_1 rfl ?_
  refine g_if_ne (t := 10) (q := 7) dX7_came_4 (by decide) rfl (fun c_4 => ?_) (fun c_4 => ?_)
  · refine g_iload_n (q := 11) dX7_came_10 rfl rfl ?_
    refine g_callSi (q := 14) (c_X7_isRow hE ) lk_RX7_58 rfl rfl rfl rfl (Nat.le_of_ble_eq_true rfl) (Nat.le_of_ble_eq_true rfl) (Nat.le_of_ble_eq_true rfl) dX7_came_11 rfl ?_
    refine g_if_eq (t := 29) (q := 17) dX7_came_14 (by decide) rfl (fun c_14 => ?_) (fun c_14 => ?_)
    · rw [bI_0] at c_14
      refine g_ldc (q := 31) dX7_came_29 wd_931 rfl ?_
      exact g_iret dX7_came_31 (pi_i (by simp only [q_came, c_4, c_14, not_true_eq_false, not_false_eq_true, if_true, if_false, Bool.true_eq_false, Bool.false_eq_true, reduceIte, reduceCtorEq]) (by simp only [q_came, c_4, c_14, not_true_eq_false, not_false_eq_true, if_true, if_false, Bool.true_eq_false, Bool.false_eq_true, reduceIte, reduceCtorEq]) rfl)
    · rw [bI_n0] at c_14
      refine g_iload_n (q := 18) dX7_came_17 rfl rfl ?_
      refine g_i2l (q := 19) dX7_came_18 rfl ?_
      refine g_lconst (q := 20) dX7_came_19 cl_1 rfl ?_
      refine g_ldc2 (q := 23) dX7_came_20 wd_1150 rfl ?_
      refine g_callSi (q := 26) (c_X7_in hE ) lk_RX7_54 rfl rfl rfl rfl (Nat.le_of_ble_eq_true rfl) (Nat.le_of_ble_eq_true rfl) (Nat.le_of_ble_eq_true rfl) dX7_came_23 rfl ?_
      refine g_if_ne (t := 32) (q := 29) dX7_came_26 (by decide) rfl (fun c_26 => ?_) (fun c_26 => ?_)
      · rw [bI_n0] at c_26
        rw [show inL n.toInt64 1 6 = wi n 1 6 from inL_i n 1 6] at c_26
        have er := vp_to (wi_in (N := 8) c_14 (by decide) (by decide)) (by decide)
        have w0 : 0 < (σ 44 0).toNatClampNeg := tn_pos w (th c_4)
        refine g_aload_n (q := 33) dX7_came_32 rfl rfl ?_
        refine g_iload_n (q := 34) dX7_came_33 rfl rfl ?_
        refine g_iload_n (q := 35) dX7_came_34 rfl rfl ?_
        refine g_iload_n (q := 36) dX7_came_35 rfl rfl ?_
        refine g_aload_n (q := 37) dX7_came_36 rfl rfl ?_
        refine f7_5 (q := 40) wd_853 dX7_came_37 rfl ?_
        refine g_iconst (q := 41) dX7_came_40 ci_0 rfl ?_
        refine g_ialdJ (q := 42) (k := 44) (j := 0) (N := 52) (by decide) (by decide) rfl rfl (by decide) (show (0 : Int32) = nI 0 from rfl) (by omega) dX7_came_41 rfl ?_
        refine g_imul (q := 43) dX7_came_42 rfl ?_
        refine g_callVi (q := 46) (c_X7_lacks hE (er.1 ▸ vp_in_nI er.2 (by decide))) lk_RX7_222 (by decide) (by decide) rfl (by decide) rfl rfl rfl rfl rfl rfl (Nat.le_of_ble_eq_true rfl) (Nat.le_of_ble_eq_true rfl) (Nat.le_of_ble_eq_true rfl) dX7_came_43 rfl ?_
        refine g_istore (q := 48) dX7_came_46 (by decide) rfl rfl ?_
        refine g_iload (q := 50) dX7_came_48 rfl rfl ?_
        refine g_if_ge (t := 56) (q := 53) dX7_came_50 (by decide) rfl (fun c_50 => ?_) (fun c_50 => ?_)
        · obtain ⟨ei, en, hn6, hbd⟩ := lk_b w sz er.2 c_26 c_50
          refine g_sg (σ' := σ) (lk_ok c_50).2.2 ?_
          refine g_aload_n (q := 57) dX7_came_56 rfl rfl ?_
          refine g_callVv (q := 60) (c_X7_putAside hE ) lk_RX7_185 (by decide) (by decide) rfl (by decide) rfl rfl rfl rfl rfl rfl (Nat.le_of_ble_eq_true rfl) (Nat.le_of_ble_eq_true rfl) (Nat.le_of_ble_eq_true rfl) dX7_came_57 rfl ?_
          refine g_sg (σ' := asd σ) rfl ?_
          refine g_iconst (q := 61) dX7_came_60 ci_0 rfl ?_
          refine g_istore (q := 63) dX7_came_61 (by decide) rfl rfl ?_
          refine g_iconst (q := 64) dX7_came_63 ci_0 rfl ?_
          refine g_istore (q := 66) dX7_came_64 (by decide) rfl rfl ?_
          refine g_eqw (ls := [some (.ref (E.2.1 40)), some (.int ro), some (.int i), some (.int n), none, some (.int 0), some (.int 0)]) ?_ (by simp [lsub]) rfl rfl
          refine g_for (I := fun j => [some (.ref (E.2.1 40)), some (.int ro), some (.int i), some (.int n), none, some (.int (s_ci (caX σ ro i n) j)), some (.int (nI j))]) (S := fun j => asd σ) (T := fun j => τ) (0) ((σ 44 0).toNatClampNeg) (Nat.zero_le _) (by rfl) (by rfl) (by rfl) (fun j j0 j1 kk_j => ?_) ?_
          · have hcj : (nI j).toNatClampNeg = j := nI_clamp (by omega)
            refine g_iload (q := 68) dX7_came_66 rfl rfl ?_
            refine g_aload_n (q := 69) dX7_came_68 rfl rfl ?_
            refine f7_18 (q := 72) wd_866 dX7_came_69 rfl ?_
            refine g_iconst (q := 73) dX7_came_72 ci_0 rfl ?_
            refine g_ialdJ (q := 74) (k := 49) (j := 0) (N := 52) (by decide) (by decide) rfl rfl (by decide) (show (0 : Int32) = nI 0 from rfl) (by omega) dX7_came_73 rfl ?_
            refine g_icmp_ge (t := 118) (q := 77) dX7_came_74 (by decide) rfl (fun c_74 => ?_) (fun c_74 => ?_)
            · exact absurd c_74 (lp_in (by rw [asd_49]; exact e0) (by omega) j1)
            · refine g_aload_n (q := 78) dX7_came_77 rfl rfl ?_
              refine f7_5 (q := 81) wd_853 dX7_came_78 rfl ?_
              refine g_iconst (q := 82) dX7_came_81 ci_1 rfl ?_
              refine g_iload (q := 84) dX7_came_82 rfl rfl ?_
              refine g_iastJ (q := 85) (k := 44) (j := 1) (N := 52) (by decide) (by decide) rfl rfl (by decide) (show (1 : Int32) = nI 1 from rfl) (by omega) dX7_came_84 rfl ?_
              refine g_sg (σ' := upc (asd σ) 44 (upd (σ 44) 1 (nI j))) (by rw [asd_44]) ?_
              refine g_iload (q := 87) dX7_came_85 rfl rfl ?_
              refine g_aload_n (q := 88) dX7_came_87 rfl rfl ?_
              refine g_bipush (q := 90) dX7_came_88 cb_40 rfl ?_
              refine g_iload_n (q := 91) dX7_came_90 rfl rfl ?_
              refine g_imul (q := 92) dX7_came_91 rfl ?_
              refine g_iload_n (q := 93) dX7_came_92 rfl rfl ?_
              refine g_iadd (q := 94) dX7_came_93 rfl ?_
              refine g_iload_n (q := 95) dX7_came_94 rfl rfl ?_
              refine g_st (stk' := [.int (nI (n.toNatClampNeg)), .int (nI (40 * ro.toNatClampNeg + i.toNatClampNeg)), .ref (E.2.1 40), .int (s_ci (caX σ ro i n) j)]) (by rw [i40 er.1 ei, ← en]) ?_
              refine g_callVi (q := 98) (c_X7_isSo hE (by rw [upc_same]; exact wfm_in w (vp_in_nI (by omega) (by decide))) (by rw [upc_same, upd_ne (show (0 : Nat) ≠ 1 by decide)]; exact w0) (by rw [upc_same, upd_ne (show (0 : Nat) ≠ 1 by decide)]; exact hbd) hn6) lk_RX7_226 (by decide) (by decide) rfl (by decide) rfl rfl rfl rfl rfl rfl (Nat.le_of_ble_eq_true rfl) (Nat.le_of_ble_eq_true rfl) (Nat.le_of_ble_eq_true rfl) dX7_came_95 rfl ?_
              refine g_st (stk' := [.int (bI (caX σ ro i n j)), .int (s_ci (caX σ ro i n) j)]) (by rw [so_eq (upd_ne (show (0 : Nat) ≠ 1 by decide))]; rfl) ?_
              refine g_sg (σ' := asd σ) (tkb (fun k hk => by simp only [upc_ne hk])) ?_
              refine g_if_eq (t := 108) (q := 101) dX7_came_98 (by decide) rfl (fun c_98 => ?_) (fun c_98 => ?_)
              · rw [bI_0] at c_98
                refine g_iconst (q := 109) dX7_came_108 ci_0 rfl ?_
                refine g_ior (q := 110) dX7_came_109 rfl ?_
                refine g_istore (q := 112) dX7_came_110 (by decide) rfl rfl ?_
                refine g_iinc (q := 115) dX7_came_112 rfl ci_1 (by decide) rfl rfl ?_
                refine g_goto (t := 66) dX7_came_115 (by decide) ?_
                exact g_eqw kk_j (by simp [lsub, s_ci, nI_succ, c_98, Int32.or_zero]) rfl rfl
              · rw [bI_n0] at c_98
                refine g_iconst (q := 102) dX7_came_101 ci_1 rfl ?_
                refine g_iload (q := 104) dX7_came_102 rfl rfl ?_
                refine g_ishl (q := 105) dX7_came_104 rfl ?_
                refine g_goto (t := 109) dX7_came_105 (by decide) ?_
                refine g_ior (q := 110) dX7_came_109 rfl ?_
                refine g_istore (q := 112) dX7_came_110 (by decide) rfl rfl ?_
                refine g_iinc (q := 115) dX7_came_112 rfl ci_1 (by decide) rfl rfl ?_
                refine g_goto (t := 66) dX7_came_115 (by decide) ?_
                exact g_eqw kk_j (by simp [lsub, s_ci, nI_succ, c_98, Int32.or_zero]) rfl rfl
          · refine g_iload (q := 68) dX7_came_66 rfl rfl ?_
            refine g_aload_n (q := 69) dX7_came_68 rfl rfl ?_
            refine f7_18 (q := 72) wd_866 dX7_came_69 rfl ?_
            refine g_iconst (q := 73) dX7_came_72 ci_0 rfl ?_
            refine g_ialdJ (q := 74) (k := 49) (j := 0) (N := 52) (by decide) (by decide) rfl rfl (by decide) (show (0 : Int32) = nI 0 from rfl) (by omega) dX7_came_73 rfl ?_
            refine g_icmp_ge (t := 118) (q := 77) dX7_came_74 (by decide) rfl (fun c_74 => ?_) (fun c_74 => ?_)
            · refine g_aload_n (q := 119) dX7_came_118 rfl rfl ?_
              refine g_iload (q := 121) dX7_came_119 rfl rfl ?_
              refine g_callVi (q := 124) (c_X7_well hE ) lk_RX7_69 (by decide) (by decide) rfl (by decide) rfl rfl rfl rfl rfl rfl (Nat.le_of_ble_eq_true rfl) (Nat.le_of_ble_eq_true rfl) (Nat.le_of_ble_eq_true rfl) dX7_came_121 rfl ?_
              exact g_iret dX7_came_124 (pi_i (by simp only [q_came, c_4, c_14, c_26, c_50, c_74, not_true_eq_false, not_false_eq_true, if_true, if_false, Bool.true_eq_false, Bool.false_eq_true, reduceIte, reduceCtorEq]) (by simp only [q_came, c_4, c_14, c_26, c_50, c_74, not_true_eq_false, not_false_eq_true, if_true, if_false, Bool.true_eq_false, Bool.false_eq_true, reduceIte, reduceCtorEq]) rfl)
            · exact absurd (lp_out (by rw [asd_49]; exact e0)) c_74
        · refine g_iload (q := 55) dX7_came_53 rfl rfl ?_
          exact g_iret dX7_came_55 (pi_i (by simp only [q_came, c_4, c_14, c_26, c_50, not_true_eq_false, not_false_eq_true, if_true, if_false, Bool.true_eq_false, Bool.false_eq_true, reduceIte, reduceCtorEq]) (by simp only [q_came, c_4, c_14, c_26, c_50, not_true_eq_false, not_false_eq_true, if_true, if_false, Bool.true_eq_false, Bool.false_eq_true, reduceIte, reduceCtorEq]) rfl)
      · rw [bI_0] at c_26
        rw [show inL n.toInt64 1 6 = wi n 1 6 from inL_i n 1 6] at c_26
        refine g_ldc (q := 31) dX7_came_29 wd_931 rfl ?_
        exact g_iret dX7_came_31 (pi_i (by simp only [q_came, c_4, c_14, c_26, not_true_eq_false, not_false_eq_true, if_true, if_false, Bool.true_eq_false, Bool.false_eq_true, reduceIte, reduceCtorEq]) (by simp only [q_came, c_4, c_14, c_26, not_true_eq_false, not_false_eq_true, if_true, if_false, Bool.true_eq_false, Bool.false_eq_true, reduceIte, reduceCtorEq]) rfl)
  · refine g_ldc (q := 9) dX7_came_7 wd_1011 rfl ?_
    exact g_iret dX7_came_9 (pi_i (by simp only [q_came, c_4, not_true_eq_false, not_false_eq_true, if_true, if_false, Bool.true_eq_false, Bool.false_eq_true, reduceIte, reduceCtorEq]) (by simp only [q_came, c_4, not_true_eq_false, not_false_eq_true, if_true, if_false, Bool.true_eq_false, Bool.false_eq_true, reduceIte, reduceCtorEq]) rfl)
set_option maxRecDepth 20000 in
set_option maxHeartbeats 4000000 in
theorem c_X7_who {E : EE} (hE : inj E 40 13) {σ : Sto} {τ : Stl} {s ro i n : Int32} (w : WFM (σ 44)) (th2 : 0 < σ 44 5 → 0 < σ 44 0) (sz : SZM σ) : Ct E 40 13 yX7_who cX7_who 8 (some FieldType.int) { frames := 4, cells := 0, slots := 0, locals := 96 } [.ref (E.2.1 40), .int s, .int ro, .int i, .int n] σ τ (Pi ((q_who σ s ro i n).1) ((q_who σ s ro i n).2) (τ)) := by
  refine ct_of hE RX7 [some (.ref (E.2.1 40)), some (.int s), some (.int ro), some (.int i), some (.int n), none, none, none] (by decide) rfl (Nat.le_of_ble_eq_true rfl) rfl (fun X => ?_)
  obtain ⟨⟨e0, b0⟩, ⟨e1, b1⟩, ⟨e4, b4⟩, ⟨e5, b5⟩⟩ := wfm_n w
  refine g_aload_n (q := 1) dX7_who_0 rfl rfl ?_
  refine g_iload_n (q := 2) dX7_who_1 rfl rfl ?_
  refine g_callVi (q := 5) (c_X7_isSitter hE ) lk_RX7_172 (by decide) (by decide) rfl (by decide) rfl rfl rfl rfl rfl rfl (Nat.le_of_ble_eq_true rfl) (Nat.le_of_ble_eq_true rfl) (Nat.le_of_ble_eq_true rfl) dX7_who_2 rfl ?_
  refine g_if_eq (t := 28) (q := 8) dX7_who_5 (by decide) rfl (fun c_5 => ?_) (fun c_5 => ?_)
  · rw [bI_0] at c_5
    refine g_ldc (q := 30) dX7_who_28 wd_931 rfl ?_
    exact g_iret dX7_who_30 (pi_i (by simp only [q_who, c_5, not_true_eq_false, not_false_eq_true, if_true, if_false, Bool.true_eq_false, Bool.false_eq_true, reduceIte, reduceCtorEq]) (by simp only [q_who, c_5, not_true_eq_false, not_false_eq_true, if_true, if_false, Bool.true_eq_false, Bool.false_eq_true, reduceIte, reduceCtorEq]) rfl)
  · rw [bI_n0] at c_5
    refine g_iload_n (q := 9) dX7_who_8 rfl rfl ?_
    refine g_callSi (q := 12) (c_X7_isRow hE ) lk_RX7_58 rfl rfl rfl rfl (Nat.le_of_ble_eq_true rfl) (Nat.le_of_ble_eq_true rfl) (Nat.le_of_ble_eq_true rfl) dX7_who_9 rfl ?_
    refine g_if_eq (t := 28) (q := 15) dX7_who_12 (by decide) rfl (fun c_12 => ?_) (fun c_12 => ?_)
    · rw [bI_0] at c_12
      refine g_ldc (q := 30) dX7_who_28 wd_931 rfl ?_
      exact g_iret dX7_who_30 (pi_i (by simp only [q_who, c_5, c_12, not_true_eq_false, not_false_eq_true, if_true, if_false, Bool.true_eq_false, Bool.false_eq_true, reduceIte, reduceCtorEq]) (by simp only [q_who, c_5, c_12, not_true_eq_false, not_false_eq_true, if_true, if_false, Bool.true_eq_false, Bool.false_eq_true, reduceIte, reduceCtorEq]) rfl)
    · rw [bI_n0] at c_12
      refine g_iload (q := 17) dX7_who_15 rfl rfl ?_
      refine g_i2l (q := 18) dX7_who_17 rfl ?_
      refine g_lconst (q := 19) dX7_who_18 cl_1 rfl ?_
      refine g_ldc2 (q := 22) dX7_who_19 wd_1150 rfl ?_
      refine g_callSi (q := 25) (c_X7_in hE ) lk_RX7_54 rfl rfl rfl rfl (Nat.le_of_ble_eq_true rfl) (Nat.le_of_ble_eq_true rfl) (Nat.le_of_ble_eq_true rfl) dX7_who_22 rfl ?_
      refine g_if_ne (t := 31) (q := 28) dX7_who_25 (by decide) rfl (fun c_25 => ?_) (fun c_25 => ?_)
      · rw [bI_n0] at c_25
        rw [show inL n.toInt64 1 6 = wi n 1 6 from inL_i n 1 6] at c_25
        have er := vp_to (wi_in (N := 8) c_12 (by decide) (by decide)) (by decide)
        have es := sitM w c_5
        have w0 : 0 < (σ 44 0).toNatClampNeg := tn_pos w (th2 (wi_pos (by decide) w.1.2.2.2 c_5))
        refine g_aload_n (q := 32) dX7_who_31 rfl rfl ?_
        refine g_iload_n (q := 33) dX7_who_32 rfl rfl ?_
        refine g_iload_n (q := 34) dX7_who_33 rfl rfl ?_
        refine g_iload (q := 36) dX7_who_34 rfl rfl ?_
        refine g_aload_n (q := 37) dX7_who_36 rfl rfl ?_
        refine f7_5 (q := 40) wd_853 dX7_who_37 rfl ?_
        refine g_iconst (q := 41) dX7_who_40 ci_0 rfl ?_
        refine g_ialdJ (q := 42) (k := 44) (j := 0) (N := 52) (by decide) (by decide) rfl rfl (by decide) (show (0 : Int32) = nI 0 from rfl) (by omega) dX7_who_41 rfl ?_
        refine g_imul (q := 43) dX7_who_42 rfl ?_
        refine g_callVi (q := 46) (c_X7_lacks hE (er.1 ▸ vp_in_nI er.2 (by decide))) lk_RX7_222 (by decide) (by decide) rfl (by decide) rfl rfl rfl rfl rfl rfl (Nat.le_of_ble_eq_true rfl) (Nat.le_of_ble_eq_true rfl) (Nat.le_of_ble_eq_true rfl) dX7_who_43 rfl ?_
        refine g_istore (q := 48) dX7_who_46 (by decide) rfl rfl ?_
        refine g_iload (q := 50) dX7_who_48 rfl rfl ?_
        refine g_if_ge (t := 56) (q := 53) dX7_who_50 (by decide) rfl (fun c_50 => ?_) (fun c_50 => ?_)
        · obtain ⟨ei, en, hn6, hbd⟩ := lk_b w sz er.2 c_25 c_50
          refine g_sg (σ' := σ) (lk_ok c_50).2.2 ?_
          refine g_aload_n (q := 57) dX7_who_56 rfl rfl ?_
          refine g_callVv (q := 60) (c_X7_putAside hE ) lk_RX7_185 (by decide) (by decide) rfl (by decide) rfl rfl rfl rfl rfl rfl (Nat.le_of_ble_eq_true rfl) (Nat.le_of_ble_eq_true rfl) (Nat.le_of_ble_eq_true rfl) dX7_who_57 rfl ?_
          refine g_sg (σ' := asd σ) rfl ?_
          refine g_iconst (q := 61) dX7_who_60 ci_0 rfl ?_
          refine g_istore (q := 63) dX7_who_61 (by decide) rfl rfl ?_
          refine g_iconst (q := 64) dX7_who_63 ci_1 rfl ?_
          refine g_istore (q := 66) dX7_who_64 (by decide) rfl rfl ?_
          refine g_eqw (ls := [some (.ref (E.2.1 40)), some (.int s), some (.int ro), some (.int i), some (.int n), none, some (.int 0), some (.int 1)]) ?_ (by simp [lsub]) rfl rfl
          refine g_for (I := fun j => [some (.ref (E.2.1 40)), some (.int s), some (.int ro), some (.int i), some (.int n), none, some (.int (s_ci (fun k => decide (1 ≤ k) && whX σ s ro i n k) j)), some (.int (nI j))]) (S := fun j => asd σ) (T := fun j => τ) (1) (6) (by decide) (by rfl) (by rfl) (by rfl) (fun j j0 j1 kk_j => ?_) ?_
          · have hcj : (nI j).toNatClampNeg = j := nI_clamp (by omega)
            refine g_iload (q := 68) dX7_who_66 rfl rfl ?_
            refine g_iconst (q := 69) dX7_who_68 ci_5 rfl ?_
            refine g_icmp_gt (t := 117) (q := 72) dX7_who_69 (by decide) rfl (fun c_69 => ?_) (fun c_69 => ?_)
            · exact absurd c_69 (lpg_in (show (5 : Int32) = nI 6 - 1 from rfl) (by decide) j1)
            · refine g_aload_n (q := 73) dX7_who_72 rfl rfl ?_
              refine f7_5 (q := 76) wd_853 dX7_who_73 rfl ?_
              refine g_bipush (q := 78) dX7_who_76 cb_37 rfl ?_
              refine g_iload_n (q := 79) dX7_who_78 rfl rfl ?_
              refine g_iadd (q := 80) dX7_who_79 rfl ?_
              refine g_iload (q := 82) dX7_who_80 rfl rfl ?_
              refine g_iastJ (q := 83) (k := 44) (j := (37 + s.toNatClampNeg)) (N := 52) (by decide) (by decide) rfl rfl (by decide) (ad2 (show (37 : Int32) = nI 37 from rfl) es.1) (by omega) dX7_who_82 rfl ?_
              refine g_sg (σ' := upc (asd σ) 44 (upd (σ 44) (37 + s.toNatClampNeg) (nI j))) (by rw [asd_44]) ?_
              refine g_iload (q := 85) dX7_who_83 rfl rfl ?_
              refine g_aload_n (q := 86) dX7_who_85 rfl rfl ?_
              refine g_bipush (q := 88) dX7_who_86 cb_40 rfl ?_
              refine g_iload_n (q := 89) dX7_who_88 rfl rfl ?_
              refine g_imul (q := 90) dX7_who_89 rfl ?_
              refine g_iload_n (q := 91) dX7_who_90 rfl rfl ?_
              refine g_iadd (q := 92) dX7_who_91 rfl ?_
              refine g_iload (q := 94) dX7_who_92 rfl rfl ?_
              refine g_st (stk' := [.int (nI (n.toNatClampNeg)), .int (nI (40 * ro.toNatClampNeg + i.toNatClampNeg)), .ref (E.2.1 40), .int (s_ci (fun k => decide (1 ≤ k) && whX σ s ro i n k) j)]) (by rw [i40 er.1 ei, ← en]) ?_
              refine g_callVi (q := 97) (c_X7_isSo hE (by rw [upc_same]; exact wfm_kind w es.2) (by rw [upc_same, upd_ne (show (0 : Nat) ≠ 37 + s.toNatClampNeg by omega)]; exact w0) (by rw [upc_same, upd_ne (show (0 : Nat) ≠ 37 + s.toNatClampNeg by omega)]; exact hbd) hn6) lk_RX7_226 (by decide) (by decide) rfl (by decide) rfl rfl rfl rfl rfl rfl (Nat.le_of_ble_eq_true rfl) (Nat.le_of_ble_eq_true rfl) (Nat.le_of_ble_eq_true rfl) dX7_who_94 rfl ?_
              refine g_st (stk' := [.int (bI (whX σ s ro i n j)), .int (s_ci (fun k => decide (1 ≤ k) && whX σ s ro i n k) j)]) (by rw [so_eq (upd_ne (show (0 : Nat) ≠ 37 + s.toNatClampNeg by omega))]; rfl) ?_
              refine g_sg (σ' := asd σ) (tkb (fun k hk => by simp only [upc_ne hk])) ?_
              refine g_if_eq (t := 107) (q := 100) dX7_who_97 (by decide) rfl (fun c_97 => ?_) (fun c_97 => ?_)
              · rw [bI_0] at c_97
                refine g_iconst (q := 108) dX7_who_107 ci_0 rfl ?_
                refine g_ior (q := 109) dX7_who_108 rfl ?_
                refine g_istore (q := 111) dX7_who_109 (by decide) rfl rfl ?_
                refine g_iinc (q := 114) dX7_who_111 rfl ci_1 (by decide) rfl rfl ?_
                refine g_goto (t := 66) dX7_who_114 (by decide) ?_
                exact g_eqw kk_j (by simp [lsub, s_ci, nI_succ, c_97, j0, Int32.or_zero]) rfl rfl
              · rw [bI_n0] at c_97
                refine g_iconst (q := 101) dX7_who_100 ci_1 rfl ?_
                refine g_iload (q := 103) dX7_who_101 rfl rfl ?_
                refine g_ishl (q := 104) dX7_who_103 rfl ?_
                refine g_goto (t := 108) dX7_who_104 (by decide) ?_
                refine g_ior (q := 109) dX7_who_108 rfl ?_
                refine g_istore (q := 111) dX7_who_109 (by decide) rfl rfl ?_
                refine g_iinc (q := 114) dX7_who_111 rfl ci_1 (by decide) rfl rfl ?_
                refine g_goto (t := 66) dX7_who_114 (by decide) ?_
                exact g_eqw kk_j (by simp [lsub, s_ci, nI_succ, c_97, j0, Int32.or_zero]) rfl rfl
          · refine g_iload (q := 68) dX7_who_66 rfl rfl ?_
            refine g_iconst (q := 69) dX7_who_68 ci_5 rfl ?_
            refine g_icmp_gt (t := 117) (q := 72) dX7_who_69 (by decide) rfl (fun c_69 => ?_) (fun c_69 => ?_)
            · refine g_aload_n (q := 118) dX7_who_117 rfl rfl ?_
              refine g_iload (q := 120) dX7_who_118 rfl rfl ?_
              refine g_callVi (q := 123) (c_X7_well hE ) lk_RX7_69 (by decide) (by decide) rfl (by decide) rfl rfl rfl rfl rfl rfl (Nat.le_of_ble_eq_true rfl) (Nat.le_of_ble_eq_true rfl) (Nat.le_of_ble_eq_true rfl) dX7_who_120 rfl ?_
              exact g_iret dX7_who_123 (pi_i (by simp only [q_who, c_5, c_12, c_25, c_50, c_69, not_true_eq_false, not_false_eq_true, if_true, if_false, Bool.true_eq_false, Bool.false_eq_true, reduceIte, reduceCtorEq]) (by simp only [q_who, c_5, c_12, c_25, c_50, c_69, not_true_eq_false, not_false_eq_true, if_true, if_false, Bool.true_eq_false, Bool.false_eq_true, reduceIte, reduceCtorEq]) rfl)
            · exact absurd (lpg_out (show (5 : Int32) = nI 6 - 1 from rfl) (by decide)) c_69
        · refine g_iload (q := 55) dX7_who_53 rfl rfl ?_
          exact g_iret dX7_who_55 (pi_i (by simp only [q_who, c_5, c_12, c_25, c_50, not_true_eq_false, not_false_eq_true, if_true, if_false, Bool.true_eq_false, Bool.false_eq_true, reduceIte, reduceCtorEq]) (by simp only [q_who, c_5, c_12, c_25, c_50, not_true_eq_false, not_false_eq_true, if_true, if_false, Bool.true_eq_false, Bool.false_eq_true, reduceIte, reduceCtorEq]) rfl)
      · rw [bI_0] at c_25
        rw [show inL n.toInt64 1 6 = wi n 1 6 from inL_i n 1 6] at c_25
        refine g_ldc (q := 30) dX7_who_28 wd_931 rfl ?_
        exact g_iret dX7_who_30 (pi_i (by simp only [q_who, c_5, c_12, c_25, not_true_eq_false, not_false_eq_true, if_true, if_false, Bool.true_eq_false, Bool.false_eq_true, reduceIte, reduceCtorEq]) (by simp only [q_who, c_5, c_12, c_25, not_true_eq_false, not_false_eq_true, if_true, if_false, Bool.true_eq_false, Bool.false_eq_true, reduceIte, reduceCtorEq]) rfl)
