set_option maxRecDepth 20000 in
set_option maxHeartbeats 4000000 in
theorem c_X1_passHours {E : EE} (hE : inj E 0 40) {h : Nat} (hh : kd h = 1) {σ : Sto} {τ : Stl} {m : Int32} (w : WFH σ h) (hm : ¬ m < 0) : Ct E 0 40 yX1_passHours cX1_passHours 5 none { frames := 2, cells := 0, slots := 0, locals := 50 } [.ref (E.2.1 h), .int m] σ τ (Pv (hrs σ h (m.toNatClampNeg)) (τ)) := by
  refine ct_of hE RX1 [some (.ref (E.2.1 h)), some (.int m), none, none, none] (by decide) rfl (Nat.le_of_ble_eq_true rfl) rfl (fun X => ?_)
  obtain ⟨⟨e0, b0⟩, ⟨e5, b5⟩, ⟨e7, b7⟩⟩ := wf_n w
  obtain ⟨em, bm⟩ := nn_to hm
  refine g_aload_n (q := 1) dX1_passHours_0 rfl rfl ?_
  refine g_bipush (q := 3) dX1_passHours_1 cb_14 rfl ?_
  refine g_callVi (q := 6) (c_X1_roomsWith hE hh (by assumption)) lk_RX1_65 (Nat.zero_le _) (h_lt hh) hh (by decide) rfl rfl rfl rfl rfl rfl (Nat.le_of_ble_eq_true rfl) (Nat.le_of_ble_eq_true rfl) (Nat.le_of_ble_eq_true rfl) dX1_passHours_3 rfl ?_
  refine g_istore_n (j := 2) (q := 7) dX1_passHours_6 rfl (by decide) rfl rfl ?_
  refine g_aload_n (q := 8) dX1_passHours_7 rfl rfl ?_
  refine g_iconst (q := 9) dX1_passHours_8 ci_4 rfl ?_
  refine g_callVi (q := 12) (c_X1_roomsWith hE hh (by assumption)) lk_RX1_65 (Nat.zero_le _) (h_lt hh) hh (by decide) rfl rfl rfl rfl rfl rfl (Nat.le_of_ble_eq_true rfl) (Nat.le_of_ble_eq_true rfl) (Nat.le_of_ble_eq_true rfl) dX1_passHours_9 rfl ?_
  refine g_istore_n (j := 3) (q := 13) dX1_passHours_12 rfl (by decide) rfl rfl ?_
  refine g_iconst (q := 14) dX1_passHours_13 ci_0 rfl ?_
  refine g_istore (q := 16) dX1_passHours_14 (by decide) rfl rfl ?_
  refine g_for (I := fun i => [some (.ref (E.2.1 h)), some (.int m), some (.int (s_rw 14 (σ (h + 3)) (σ (h + 4)) ((σ h 7).toNatClampNeg))), some (.int (s_rw 4 (σ (h + 3)) (σ (h + 4)) ((σ h 7).toNatClampNeg))), some (.int (nI i))]) (S := fun i => mkH σ h (hrsC σ h (σ (h + 6)) i) (σ h 4 + nI i)) (T := fun i => τ) (0) (m.toNatClampNeg) (Nat.zero_le _) (by rfl) (by rw [nI_0, Int32.add_zero]; exact (mk_0 σ h).symm) (by rfl) (fun i i0 i1 kk_i => ?_) ?_
  · have hci : (nI i).toNatClampNeg = i := nI_clamp (by omega)
    refine g_iload (q := 18) dX1_passHours_16 rfl rfl ?_
    refine g_iload_n (q := 19) dX1_passHours_18 rfl rfl ?_
    refine g_icmp_ge (t := 77) (q := 22) dX1_passHours_19 (by decide) rfl (fun c_19 => ?_) (fun c_19 => ?_)
    · exact absurd c_19 (lp_in (by exact em) (by omega) i1)
    · refine g_aload_n (q := 23) dX1_passHours_22 rfl rfl ?_
      refine f1_13 (q := 26) hh wd_176 dX1_passHours_23 rfl ?_
      refine g_aload_n (q := 27) dX1_passHours_26 rfl rfl ?_
      refine f1_1 (q := 30) hh wd_142 dX1_passHours_27 rfl ?_
      refine g_sipush (q := 33) dX1_passHours_30 cs_999 rfl ?_
      refine g_aload_n (q := 34) dX1_passHours_33 rfl rfl ?_
      refine f1_13 (q := 37) hh wd_176 dX1_passHours_34 rfl ?_
      refine g_aload_n (q := 38) dX1_passHours_37 rfl rfl ?_
      refine f1_1 (q := 41) hh wd_142 dX1_passHours_38 rfl ?_
      refine g_aldH (q := 42) (c := 6) hh (by decide) (by decide) (show vp_in _ 6 by simp only [mk_h, upd_ne (show (1 : Nat) ≠ 4 by decide)]; exact w.1.2.1) dX1_passHours_41 rfl ?_
      refine g_aload_n (q := 43) dX1_passHours_42 rfl rfl ?_
      refine f1_2 (q := 46) hh wd_144 dX1_passHours_43 rfl ?_
      refine g_iadd (q := 47) dX1_passHours_46 rfl ?_
      refine g_mmin (q := 50) wd_495 wd_496 wd_80 wd_497 (Nat.le_of_ble_eq_true rfl) (Nat.le_of_ble_eq_true rfl) dX1_passHours_47 rfl ?_
      refine g_astH (q := 51) (c := 6) hh (by decide) (by decide) (show vp_in _ 6 by simp only [mk_h, upd_ne (show (1 : Nat) ≠ 4 by decide)]; exact w.1.2.1) dX1_passHours_50 rfl ?_
      simp only [mk_u6, mk_6, mk_h, upd_ne (show (1 : Nat) ≠ 4 by decide), upd_ne (show (2 : Nat) ≠ 4 by decide), upd_ne (show (6 : Nat) ≠ 4 by decide), upd_ne (show (5 : Nat) ≠ 4 by decide), upd_ne (show (7 : Nat) ≠ 4 by decide), upd_same, mk_k _ _ _ _ 1 (by decide) (by decide), mk_k _ _ _ _ 2 (by decide) (by decide), mk_k _ _ _ _ 3 (by decide) (by decide), mk_k _ _ _ _ 4 (by decide) (by decide), mk_k _ _ _ _ 5 (by decide) (by decide)]
      refine g_aload_n (q := 52) dX1_passHours_51 rfl rfl ?_
      refine g_iload_n (q := 53) dX1_passHours_52 rfl rfl ?_
      refine g_iload_n (q := 54) dX1_passHours_53 rfl rfl ?_
      refine g_callVv (q := 57) (c_X1_passDoors hE hh (by exact wfh_mk w)) lk_RX1_75 (Nat.zero_le _) (h_lt hh) hh (by decide) rfl rfl rfl rfl rfl rfl (Nat.le_of_ble_eq_true rfl) (Nat.le_of_ble_eq_true rfl) (Nat.le_of_ble_eq_true rfl) dX1_passHours_54 rfl ?_
      simp only [mk_u6, mk_6, mk_h, upd_ne (show (1 : Nat) ≠ 4 by decide), upd_ne (show (2 : Nat) ≠ 4 by decide), upd_ne (show (6 : Nat) ≠ 4 by decide), upd_ne (show (5 : Nat) ≠ 4 by decide), upd_ne (show (7 : Nat) ≠ 4 by decide), upd_same, mk_k _ _ _ _ 1 (by decide) (by decide), mk_k _ _ _ _ 2 (by decide) (by decide), mk_k _ _ _ _ 3 (by decide) (by decide), mk_k _ _ _ _ 4 (by decide) (by decide), mk_k _ _ _ _ 5 (by decide) (by decide)]
      refine g_aload_n (q := 58) dX1_passHours_57 rfl rfl ?_
      refine g_callVv (q := 61) (c_X1_passSitters hE hh (by exact wfh_mk w)) lk_RX1_79 (Nat.zero_le _) (h_lt hh) hh (by decide) rfl rfl rfl rfl rfl rfl (Nat.le_of_ble_eq_true rfl) (Nat.le_of_ble_eq_true rfl) (Nat.le_of_ble_eq_true rfl) dX1_passHours_58 rfl ?_
      simp only [mk_u6, mk_6, mk_h, upd_ne (show (1 : Nat) ≠ 4 by decide), upd_ne (show (2 : Nat) ≠ 4 by decide), upd_ne (show (6 : Nat) ≠ 4 by decide), upd_ne (show (5 : Nat) ≠ 4 by decide), upd_ne (show (7 : Nat) ≠ 4 by decide), upd_same, mk_k _ _ _ _ 1 (by decide) (by decide), mk_k _ _ _ _ 2 (by decide) (by decide), mk_k _ _ _ _ 3 (by decide) (by decide), mk_k _ _ _ _ 4 (by decide) (by decide), mk_k _ _ _ _ 5 (by decide) (by decide)]
      refine g_aload_n (q := 62) dX1_passHours_61 rfl rfl ?_
      refine g_dup (q := 63) dX1_passHours_62 rfl rfl ?_
      refine f1_4 (q := 66) hh wd_148 dX1_passHours_63 rfl ?_
      refine g_iconst (q := 67) dX1_passHours_66 ci_1 rfl ?_
      refine g_iadd (q := 68) dX1_passHours_67 rfl ?_
      refine p1_4 (q := 71) hh wd_148 dX1_passHours_68 rfl ?_
      simp only [mk_u4, mk_h, upd_same]
      refine g_iinc (q := 74) dX1_passHours_71 rfl ci_1 (by decide) rfl rfl ?_
      refine g_goto (t := 16) dX1_passHours_74 (by decide) ?_
      exact g_eqw kk_i (by simp [lsub, hci, nI_succ]) (by rw [nI_succ, ← Int32.add_assoc]; rfl) rfl
  · refine g_iload (q := 18) dX1_passHours_16 rfl rfl ?_
    refine g_iload_n (q := 19) dX1_passHours_18 rfl rfl ?_
    refine g_icmp_ge (t := 77) (q := 22) dX1_passHours_19 (by decide) rfl (fun c_19 => ?_) (fun c_19 => ?_)
    · exact g_vret dX1_passHours_77 (pv_i (by rfl) rfl)
    · exact absurd (lp_out (by exact em)) c_19
set_option maxRecDepth 20000 in
set_option maxHeartbeats 4000000 in
theorem c_X1_passHour {E : EE} (hE : inj E 0 40) {h : Nat} (hh : kd h = 1) {σ : Sto} {τ : Stl}  (w : WFH σ h) : Ct E 0 40 yX1_passHour cX1_passHour 1 none { frames := 3, cells := 0, slots := 0, locals := 74 } [.ref (E.2.1 h)] σ τ (Pv (hrs σ h 1) (τ)) := by
  refine ct_of hE RX1 [some (.ref (E.2.1 h))] (by decide) rfl (Nat.le_of_ble_eq_true rfl) rfl (fun X => ?_)
  refine g_aload_n (q := 1) dX1_passHour_0 rfl rfl ?_
  refine g_iconst (q := 2) dX1_passHour_1 ci_1 rfl ?_
  refine g_callVv (q := 5) (c_X1_passHours hE hh w (by decide)) lk_RX1_61 (Nat.zero_le _) (h_lt hh) hh (by decide) rfl rfl rfl rfl rfl rfl (Nat.le_of_ble_eq_true rfl) (Nat.le_of_ble_eq_true rfl) (Nat.le_of_ble_eq_true rfl) dX1_passHour_2 rfl ?_
  exact g_vret dX1_passHour_5 (pv_i (by rfl) rfl)
theorem one_le {x : Int32} (h : 0 < x) : 1 ≤ x.toNatClampNeg := by
  obtain ⟨j, hj, rfl⟩ := nI_of (Int32.not_lt.mpr (Int32.le_of_lt h))
  rw [nI_clamp hj]
  rcases Nat.eq_zero_or_pos j with rfl | h1
  · exact absurd h (by decide)
  · exact h1
def s_rl1 (byd : Int32) (one oth : Nat → Int32) (b : Int32) : Nat → Int32
  | 0 => b
  | i + 1 => if (byd >>> (nI i &&& 31)) &&& 1 = 0 then s_rl1 byd one oth b i else if s_rl1 byd one oth b i &&& ((1 <<< (one i &&& 31)) ||| (1 <<< (oth i &&& 31))) = 0 then s_rl1 byd one oth b i else s_rl1 byd one oth b i ||| ((1 <<< (one i &&& 31)) ||| (1 <<< (oth i &&& 31)))
def s_rl (byd : Int32) (one oth : Nat → Int32) (D : Nat) (r : Int32) : Nat → Int32
  | 0 => 1 <<< (r &&& 31)
  | k + 1 => s_rl1 byd one oth (s_rl byd one oth D r k) D
def s_fs (f : Nat → Bool) (i : Nat) : Nat → Int32
  | 0 => -1
  | m + 1 => if f i then nI i else s_fs f (i + 1) m
set_option maxRecDepth 20000 in
set_option maxHeartbeats 4000000 in
theorem c_X1_roomsLedTo {E : EE} (hE : inj E 0 40) {h : Nat} (hh : kd h = 1) {σ : Sto} {τ : Stl} {r byd : Int32} (w : WFH σ h) (hp : 0 < σ h 0) : Ct E 0 40 yX1_roomsLedTo cX1_roomsLedTo 7 (some FieldType.int) { frames := 0, cells := 0, slots := 0, locals := 0 } [.ref (E.2.1 h), .int r, .int byd] σ τ (Pi (s_rl byd (σ (h + 1)) (σ (h + 2)) ((σ h 5).toNatClampNeg) r ((σ h 0).toNatClampNeg - 1)) (σ) (τ)) := by
  refine ct_of hE RX1 [some (.ref (E.2.1 h)), some (.int r), some (.int byd), none, none, none, none] (by decide) rfl (Nat.le_of_ble_eq_true rfl) rfl (fun X => ?_)
  obtain ⟨⟨e0, b0⟩, ⟨e5, b5⟩, ⟨e7, b7⟩⟩ := wf_n w
  have hp1 : 1 ≤ (σ h 0).toNatClampNeg := one_le hp
  refine g_iconst (q := 1) dX1_roomsLedTo_0 ci_1 rfl ?_
  refine g_iload_n (q := 2) dX1_roomsLedTo_1 rfl rfl ?_
  refine g_ishl (q := 3) dX1_roomsLedTo_2 rfl ?_
  refine g_istore_n (j := 3) (q := 4) dX1_roomsLedTo_3 rfl (by decide) rfl rfl ?_
  refine g_iconst (q := 5) dX1_roomsLedTo_4 ci_1 rfl ?_
  refine g_istore (q := 7) dX1_roomsLedTo_5 (by decide) rfl rfl ?_
  refine g_for (I := fun k => [some (.ref (E.2.1 h)), some (.int r), some (.int byd), some (.int (s_rl byd (σ (h + 1)) (σ (h + 2)) ((σ h 5).toNatClampNeg) r (k - 1))), some (.int (nI k)), none, none]) (S := fun k => σ) (T := fun k => τ) (1) ((σ h 0).toNatClampNeg) (hp1) (by simp [s_rl]; rfl) (by rfl) (by rfl) (fun k k0 k1 kk_k => ?_) ?_
  · have hck : (nI k).toNatClampNeg = k := nI_clamp (by omega)
    refine g_iload (q := 9) dX1_roomsLedTo_7 rfl rfl ?_
    refine g_aload_n (q := 10) dX1_roomsLedTo_9 rfl rfl ?_
    refine f1_0 (q := 13) hh wd_138 dX1_roomsLedTo_10 rfl ?_
    refine g_icmp_ge (t := 82) (q := 16) dX1_roomsLedTo_13 (by decide) rfl (fun c_13 => ?_) (fun c_13 => ?_)
    · exact absurd c_13 (lp_in (by exact e0) (by omega) k1)
    · refine g_iconst (q := 17) dX1_roomsLedTo_16 ci_0 rfl ?_
      refine g_istore (q := 19) dX1_roomsLedTo_17 (by decide) rfl rfl ?_
      refine g_for (I := fun i => [some (.ref (E.2.1 h)), some (.int r), some (.int byd), some (.int (s_rl1 byd (σ (h + 1)) (σ (h + 2)) (s_rl byd (σ (h + 1)) (σ (h + 2)) ((σ h 5).toNatClampNeg) r (k - 1)) i)), some (.int (nI k)), some (.int (nI i)), none]) (S := fun i => σ) (T := fun i => τ) (0) ((σ h 5).toNatClampNeg) (Nat.zero_le _) (by simp [s_rl1, nI_0]) (by rfl) (by rfl) (fun i i0 i1 kk_i => ?_) ?_
      · have hci : (nI i).toNatClampNeg = i := nI_clamp (by omega)
        refine g_iload (q := 21) dX1_roomsLedTo_19 rfl rfl ?_
        refine g_aload_n (q := 22) dX1_roomsLedTo_21 rfl rfl ?_
        refine f1_5 (q := 25) hh wd_150 dX1_roomsLedTo_22 rfl ?_
        refine g_icmp_ge (t := 76) (q := 28) dX1_roomsLedTo_25 (by decide) rfl (fun c_25 => ?_) (fun c_25 => ?_)
        · exact absurd c_25 (lp_in (by exact e5) (by omega) i1)
        · refine g_iconst (q := 29) dX1_roomsLedTo_28 ci_1 rfl ?_
          refine g_aload_n (q := 30) dX1_roomsLedTo_29 rfl rfl ?_
          refine f1_8 (q := 33) hh wd_160 dX1_roomsLedTo_30 rfl ?_
          refine g_iload (q := 35) dX1_roomsLedTo_33 rfl rfl ?_
          refine g_aldH (q := 36) (c := 1) hh (by decide) (by decide) (show vp_in _ 8 by first | ((with_reducible refine vp_in_nI ?_ ?_); (omega); (decide))) dX1_roomsLedTo_35 rfl ?_
          refine g_ishl (q := 37) dX1_roomsLedTo_36 rfl ?_
          refine g_iconst (q := 38) dX1_roomsLedTo_37 ci_1 rfl ?_
          refine g_aload_n (q := 39) dX1_roomsLedTo_38 rfl rfl ?_
          refine f1_9 (q := 42) hh wd_162 dX1_roomsLedTo_39 rfl ?_
          refine g_iload (q := 44) dX1_roomsLedTo_42 rfl rfl ?_
          refine g_aldH (q := 45) (c := 2) hh (by decide) (by decide) (show vp_in _ 8 by first | ((with_reducible refine vp_in_nI ?_ ?_); (omega); (decide))) dX1_roomsLedTo_44 rfl ?_
          refine g_ishl (q := 46) dX1_roomsLedTo_45 rfl ?_
          refine g_ior (q := 47) dX1_roomsLedTo_46 rfl ?_
          refine g_istore (q := 49) dX1_roomsLedTo_47 (by decide) rfl rfl ?_
          refine g_iload_n (q := 50) dX1_roomsLedTo_49 rfl rfl ?_
          refine g_iload (q := 52) dX1_roomsLedTo_50 rfl rfl ?_
          refine g_ishr (q := 53) dX1_roomsLedTo_52 rfl ?_
          refine g_iconst (q := 54) dX1_roomsLedTo_53 ci_1 rfl ?_
          refine g_iand (q := 55) dX1_roomsLedTo_54 rfl ?_
          refine g_if_eq (t := 70) (q := 58) dX1_roomsLedTo_55 (by decide) rfl (fun c_55 => ?_) (fun c_55 => ?_)
          · refine g_iinc (q := 73) dX1_roomsLedTo_70 rfl ci_1 (by decide) rfl rfl ?_
            refine g_goto (t := 19) dX1_roomsLedTo_73 (by decide) ?_
            (try simp only [hci] at c_55)
            exact g_eqw kk_i (by simp [lsub, s_rl1, hci, nI_succ, c_55]) (by rfl) rfl
          · refine g_iload_n (q := 59) dX1_roomsLedTo_58 rfl rfl ?_
            refine g_iload (q := 61) dX1_roomsLedTo_59 rfl rfl ?_
            refine g_iand (q := 62) dX1_roomsLedTo_61 rfl ?_
            refine g_if_eq (t := 70) (q := 65) dX1_roomsLedTo_62 (by decide) rfl (fun c_62 => ?_) (fun c_62 => ?_)
            · refine g_iinc (q := 73) dX1_roomsLedTo_70 rfl ci_1 (by decide) rfl rfl ?_
              refine g_goto (t := 19) dX1_roomsLedTo_73 (by decide) ?_
              (try simp only [hci] at c_55)
              (try simp only [hci] at c_62)
              exact g_eqw kk_i (by simp [lsub, s_rl1, hci, nI_succ, c_55, c_62]) (by rfl) rfl
            · refine g_iload_n (q := 66) dX1_roomsLedTo_65 rfl rfl ?_
              refine g_iload (q := 68) dX1_roomsLedTo_66 rfl rfl ?_
              refine g_ior (q := 69) dX1_roomsLedTo_68 rfl ?_
              refine g_istore_n (j := 3) (q := 70) dX1_roomsLedTo_69 rfl (by decide) rfl rfl ?_
              refine g_iinc (q := 73) dX1_roomsLedTo_70 rfl ci_1 (by decide) rfl rfl ?_
              refine g_goto (t := 19) dX1_roomsLedTo_73 (by decide) ?_
              (try simp only [hci] at c_55)
              (try simp only [hci] at c_62)
              exact g_eqw kk_i (by simp [lsub, s_rl1, hci, nI_succ, c_55, c_62]) (by rfl) rfl
      · refine g_iload (q := 21) dX1_roomsLedTo_19 rfl rfl ?_
        refine g_aload_n (q := 22) dX1_roomsLedTo_21 rfl rfl ?_
        refine f1_5 (q := 25) hh wd_150 dX1_roomsLedTo_22 rfl ?_
        refine g_icmp_ge (t := 76) (q := 28) dX1_roomsLedTo_25 (by decide) rfl (fun c_25 => ?_) (fun c_25 => ?_)
        · refine g_iinc (q := 79) dX1_roomsLedTo_76 rfl ci_1 (by decide) rfl rfl ?_
          refine g_goto (t := 7) dX1_roomsLedTo_79 (by decide) ?_
          exact g_eqw kk_k (by rw [show k + 1 - 1 = (k - 1) + 1 by omega]; simp [lsub, s_rl, nI_succ]) rfl rfl
        · exact absurd (lp_out (by exact e5)) c_25
  · refine g_iload (q := 9) dX1_roomsLedTo_7 rfl rfl ?_
    refine g_aload_n (q := 10) dX1_roomsLedTo_9 rfl rfl ?_
    refine f1_0 (q := 13) hh wd_138 dX1_roomsLedTo_10 rfl ?_
    refine g_icmp_ge (t := 82) (q := 16) dX1_roomsLedTo_13 (by decide) rfl (fun c_13 => ?_) (fun c_13 => ?_)
    · refine g_iload_n (q := 83) dX1_roomsLedTo_82 rfl rfl ?_
      exact g_iret dX1_roomsLedTo_83 (pi_i (by rfl) (by rfl) rfl)
    · exact absurd (lp_out (by exact e0)) c_13
set_option maxRecDepth 20000 in
set_option maxHeartbeats 4000000 in
theorem c_X1_firstShivering {E : EE} (hE : inj E 0 40) {h : Nat} (hh : kd h = 1) {σ : Sto} {τ : Stl}  (w : WFH σ h) : Ct E 0 40 yX1_firstShivering cX1_firstShivering 2 (some FieldType.int) { frames := 1, cells := 0, slots := 0, locals := 21 } [.ref (E.2.1 h)] σ τ (Pi (s_fs (fun i => decide (σ h 3 < σ (h + 6) ((σ (h + 4) i).toNatClampNeg))) 0 ((σ h 7).toNatClampNeg)) (σ) (τ)) := by
  refine ct_of hE RX1 [some (.ref (E.2.1 h)), none] (by decide) rfl (Nat.le_of_ble_eq_true rfl) rfl (fun X => ?_)
  obtain ⟨⟨e0, b0⟩, ⟨e5, b5⟩, ⟨e7, b7⟩⟩ := wf_n w
  refine g_iconst (q := 1) dX1_firstShivering_0 ci_0 rfl ?_
  refine g_istore_n (j := 1) (q := 2) dX1_firstShivering_1 rfl (by decide) rfl rfl ?_
  have key : ∀ m i, i + m = (σ h 7).toNatClampNeg → s_fs (fun i => decide (σ h 3 < σ (h + 6) ((σ (h + 4) i).toNatClampNeg))) i m = s_fs (fun i => decide (σ h 3 < σ (h + 6) ((σ (h + 4) i).toNatClampNeg))) 0 ((σ h 7).toNatClampNeg) → G E 0 40 { frames := 1, cells := 0, slots := 0, locals := 21 } X cX1_firstShivering RX1 2 (some FieldType.int) (Pi (s_fs (fun i => decide (σ h 3 < σ (h + 6) ((σ (h + 4) i).toNatClampNeg))) 0 ((σ h 7).toNatClampNeg)) σ τ) 2 [some (.ref (E.2.1 h)), some (.int (nI i))] [] (σ) τ := by
    intro m
    induction m with
    | zero =>
      intro i hi hr
      refine g_iload_n (q := 3) dX1_firstShivering_2 rfl rfl ?_
      refine g_aload_n (q := 4) dX1_firstShivering_3 rfl rfl ?_
      refine f1_7 (q := 7) hh wd_157 dX1_firstShivering_4 rfl ?_
      refine g_icmp_ge (t := 26) (q := 10) dX1_firstShivering_7 (by decide) rfl (fun c_7 => ?_) (fun c_7 => ?_)
      · refine g_iconst (q := 27) dX1_firstShivering_26 ci_m1 rfl ?_
        exact g_iret dX1_firstShivering_27 (pi_i (by exact hr) (by rfl) rfl)
      · exact absurd (by rw [show i = (σ h 7).toNatClampNeg by omega]; exact lp_out e7) c_7
    | succ m ih =>
      intro i hi hr
      have hci : (nI i).toNatClampNeg = i := nI_clamp (by omega)
      refine g_iload_n (q := 3) dX1_firstShivering_2 rfl rfl ?_
      refine g_aload_n (q := 4) dX1_firstShivering_3 rfl rfl ?_
      refine f1_7 (q := 7) hh wd_157 dX1_firstShivering_4 rfl ?_
      refine g_icmp_ge (t := 26) (q := 10) dX1_firstShivering_7 (by decide) rfl (fun c_7 => ?_) (fun c_7 => ?_)
      · exact absurd c_7 (lp_in e7 (by omega) (by omega))
      · refine g_aload_n (q := 11) dX1_firstShivering_10 rfl rfl ?_
        refine g_iload_n (q := 12) dX1_firstShivering_11 rfl rfl ?_
        refine g_callVi (q := 15) (c_X1_isShivering hE hh (by first | exact w | ((with_reducible refine vp_in_nI ?_ ?_); (omega); (decide)) | (rw [hci]; omega)) (by first | exact w | ((with_reducible refine vp_in_nI ?_ ?_); (omega); (decide)) | (rw [hci]; omega)) (by first | exact w | ((with_reducible refine vp_in_nI ?_ ?_); (omega); (decide)) | (rw [hci]; omega))) lk_RX1_96 (Nat.zero_le _) (h_lt hh) hh (by decide) rfl rfl rfl rfl rfl rfl (Nat.le_of_ble_eq_true rfl) (Nat.le_of_ble_eq_true rfl) (Nat.le_of_ble_eq_true rfl) dX1_firstShivering_12 rfl ?_
        refine g_if_eq (t := 20) (q := 18) dX1_firstShivering_15 (by decide) rfl (fun c_15 => ?_) (fun c_15 => ?_)
        · rw [bI_0] at c_15
          simp only [hci] at c_15
          refine g_iinc (q := 23) dX1_firstShivering_20 rfl ci_1 (by decide) rfl rfl ?_
          refine g_goto (t := 2) dX1_firstShivering_23 (by decide) ?_
          exact g_eqw (ih (i + 1) (by omega) (by rw [← hr]; simp only [s_fs]; rw [if_neg (by rw [c_15]; exact Bool.false_ne_true)])) (by simp [lsub, nI_succ]) rfl rfl
        · rw [bI_n0] at c_15
          simp only [hci] at c_15
          refine g_iload_n (q := 19) dX1_firstShivering_18 rfl rfl ?_
          exact g_iret dX1_firstShivering_19 (pi_i (by rw [← hr]; simp only [s_fs]; rw [if_pos c_15]) (by rfl) rfl)
  exact key _ 0 (by omega) rfl
