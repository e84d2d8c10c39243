theorem upc_idx {s : Sto} {k : Nat} {f : Nat → Int32} (σ0 : Unit) (h : s k = f) : upc s k f = s := by rw [← h]; exact upc_id s k
def s_rw (kb : Int32) (kk pl : Nat → Int32) : Nat → Int32
  | 0 => 0
  | i + 1 => if (kb >>> (kk i &&& 31)) &&& 1 = 0 then s_rw kb kk pl i else s_rw kb kk pl i ||| (1 <<< (pl i &&& 31))
def s_si (pl : Nat → Int32) (r : Int32) : Nat → Int32
  | 0 => 0
  | i + 1 => if pl i = r then s_si pl r i ||| (1 <<< (nI i &&& 31)) else s_si pl r i
def s_do (one oth : Nat → Int32) (r : Int32) : Nat → Int32
  | 0 => 0
  | i + 1 => if one i = r ∨ oth i = r then s_do one oth r i ||| (1 <<< (nI i &&& 31)) else s_do one oth r i
def s_ac (c : Nat → Int32) : Nat → Int32
  | 0 => 0
  | i + 1 => s_ac c i + c i

set_option maxRecDepth 20000 in
set_option maxHeartbeats 4000000 in
theorem c_X1_roomsWith {E : EE} (hE : inj E 0 40) {h : Nat} (hh : kd h = 1) {σ : Sto} {τ : Stl} {kb : Int32} (w : WFH σ h) : Ct E 0 40 yX1_roomsWith cX1_roomsWith 4 (some FieldType.int) { frames := 0, cells := 0, slots := 0, locals := 0 } [.ref (E.2.1 h), .int kb] σ τ (Pi (s_rw kb (σ (h + 3)) (σ (h + 4)) ((σ h 7).toNatClampNeg)) (σ) (τ)) := by
  refine ct_of hE RX1 [some (.ref (E.2.1 h)), some (.int kb), none, none] (by decide) rfl (Nat.le_of_ble_eq_true rfl) rfl (fun X => ?_)
  obtain ⟨⟨e0, b0⟩, ⟨e5, b5⟩, ⟨e7, b7⟩⟩ := wf_n w
  refine g_iconst (q := 1) dX1_roomsWith_0 ci_0 rfl ?_
  refine g_istore_n (j := 2) (q := 2) dX1_roomsWith_1 rfl (by decide) rfl rfl ?_
  refine g_iconst (q := 3) dX1_roomsWith_2 ci_0 rfl ?_
  refine g_istore_n (j := 3) (q := 4) dX1_roomsWith_3 rfl (by decide) rfl rfl ?_
  refine g_for (I := fun i => [some (.ref (E.2.1 h)), some (.int kb), some (.int (s_rw kb (σ (h + 3)) (σ (h + 4)) i)), some (.int (nI i))]) (S := fun i => σ) (T := fun i => τ) (0) ((σ h 7).toNatClampNeg) (Nat.zero_le _) (by rfl) (by rfl) (by rfl) (fun i i0 i1 kk_i => ?_) ?_
  · have hci : (nI i).toNatClampNeg = i := nI_clamp (by omega)
    refine g_iload_n (q := 5) dX1_roomsWith_4 rfl rfl ?_
    refine g_aload_n (q := 6) dX1_roomsWith_5 rfl rfl ?_
    refine f1_7 (q := 9) hh wd_157 dX1_roomsWith_6 rfl ?_
    refine g_icmp_ge (t := 42) (q := 12) dX1_roomsWith_9 (by decide) rfl (fun c_9 => ?_) (fun c_9 => ?_)
    · exact absurd c_9 (lp_in (by exact e7) (by omega) i1)
    · refine g_iload_n (q := 13) dX1_roomsWith_12 rfl rfl ?_
      refine g_aload_n (q := 14) dX1_roomsWith_13 rfl rfl ?_
      refine f1_10 (q := 17) hh wd_164 dX1_roomsWith_14 rfl ?_
      refine g_iload_n (q := 18) dX1_roomsWith_17 rfl rfl ?_
      refine g_aldH (q := 19) (c := 3) hh (by decide) (by decide) (show vp_in _ 5 by first | ((with_reducible refine vp_in_nI ?_ ?_); (omega); (decide)) | (simp only [hci]; first | exact (w.2.2 i (by omega)).1 | exact (w.2.2 i (by omega)).2 | exact (w.2.1 i (by omega)).1 | exact (w.2.1 i (by omega)).2)) dX1_roomsWith_18 rfl ?_
      refine g_ishr (q := 20) dX1_roomsWith_19 rfl ?_
      refine g_iconst (q := 21) dX1_roomsWith_20 ci_1 rfl ?_
      refine g_iand (q := 22) dX1_roomsWith_21 rfl ?_
      refine g_if_eq (t := 36) (q := 25) dX1_roomsWith_22 (by decide) rfl (fun c_22 => ?_) (fun c_22 => ?_)
      · refine g_iinc (q := 39) dX1_roomsWith_36 rfl ci_1 (by decide) rfl rfl ?_
        refine g_goto (t := 4) dX1_roomsWith_39 (by decide) ?_
        (try simp only [hci] at c_22)
        exact g_eqw kk_i (by simp [lsub, s_rw, hci, nI_succ, c_22]) (by rfl) rfl
      · refine g_iload_n (q := 26) dX1_roomsWith_25 rfl rfl ?_
        refine g_iconst (q := 27) dX1_roomsWith_26 ci_1 rfl ?_
        refine g_aload_n (q := 28) dX1_roomsWith_27 rfl rfl ?_
        refine f1_11 (q := 31) hh wd_168 dX1_roomsWith_28 rfl ?_
        refine g_iload_n (q := 32) dX1_roomsWith_31 rfl rfl ?_
        refine g_aldH (q := 33) (c := 4) hh (by decide) (by decide) (show vp_in _ 5 by first | ((with_reducible refine vp_in_nI ?_ ?_); (omega); (decide)) | (simp only [hci]; first | exact (w.2.2 i (by omega)).1 | exact (w.2.2 i (by omega)).2 | exact (w.2.1 i (by omega)).1 | exact (w.2.1 i (by omega)).2)) dX1_roomsWith_32 rfl ?_
        refine g_ishl (q := 34) dX1_roomsWith_33 rfl ?_
        refine g_ior (q := 35) dX1_roomsWith_34 rfl ?_
        refine g_istore_n (j := 2) (q := 36) dX1_roomsWith_35 rfl (by decide) rfl rfl ?_
        refine g_iinc (q := 39) dX1_roomsWith_36 rfl ci_1 (by decide) rfl rfl ?_
        refine g_goto (t := 4) dX1_roomsWith_39 (by decide) ?_
        (try simp only [hci] at c_22)
        exact g_eqw kk_i (by simp [lsub, s_rw, hci, nI_succ, c_22]) (by rfl) rfl
  · refine g_iload_n (q := 5) dX1_roomsWith_4 rfl rfl ?_
    refine g_aload_n (q := 6) dX1_roomsWith_5 rfl rfl ?_
    refine f1_7 (q := 9) hh wd_157 dX1_roomsWith_6 rfl ?_
    refine g_icmp_ge (t := 42) (q := 12) dX1_roomsWith_9 (by decide) rfl (fun c_9 => ?_) (fun c_9 => ?_)
    · refine g_iload_n (q := 43) dX1_roomsWith_42 rfl rfl ?_
      exact g_iret dX1_roomsWith_43 (pi_i (by rfl) (by rfl) rfl)
    · exact absurd (lp_out (by exact e7)) c_9
set_option maxRecDepth 20000 in
set_option maxHeartbeats 4000000 in
theorem c_X1_sittersIn {E : EE} (hE : inj E 0 40) {h : Nat} (hh : kd h = 1) {σ : Sto} {τ : Stl} {r : Int32} (w : WFH σ h) : Ct E 0 40 yX1_sittersIn cX1_sittersIn 4 (some FieldType.int) { frames := 0, cells := 0, slots := 0, locals := 0 } [.ref (E.2.1 h), .int r] σ τ (Pi (s_si (σ (h + 4)) r ((σ h 7).toNatClampNeg)) (σ) (τ)) := by
  refine ct_of hE RX1 [some (.ref (E.2.1 h)), some (.int r), none, none] (by decide) rfl (Nat.le_of_ble_eq_true rfl) rfl (fun X => ?_)
  obtain ⟨⟨e0, b0⟩, ⟨e5, b5⟩, ⟨e7, b7⟩⟩ := wf_n w
  refine g_iconst (q := 1) dX1_sittersIn_0 ci_0 rfl ?_
  refine g_istore_n (j := 2) (q := 2) dX1_sittersIn_1 rfl (by decide) rfl rfl ?_
  refine g_iconst (q := 3) dX1_sittersIn_2 ci_0 rfl ?_
  refine g_istore_n (j := 3) (q := 4) dX1_sittersIn_3 rfl (by decide) rfl rfl ?_
  refine g_for (I := fun i => [some (.ref (E.2.1 h)), some (.int r), some (.int (s_si (σ (h + 4)) r i)), some (.int (nI i))]) (S := fun i => σ) (T := fun i => τ) (0) ((σ h 7).toNatClampNeg) (Nat.zero_le _) (by rfl) (by rfl) (by rfl) (fun i i0 i1 kk_i => ?_) ?_
  · have hci : (nI i).toNatClampNeg = i := nI_clamp (by omega)
    refine g_iload_n (q := 5) dX1_sittersIn_4 rfl rfl ?_
    refine g_aload_n (q := 6) dX1_sittersIn_5 rfl rfl ?_
    refine f1_7 (q := 9) hh wd_157 dX1_sittersIn_6 rfl ?_
    refine g_icmp_ge (t := 34) (q := 12) dX1_sittersIn_9 (by decide) rfl (fun c_9 => ?_) (fun c_9 => ?_)
    · exact absurd c_9 (lp_in (by exact e7) (by omega) i1)
    · refine g_aload_n (q := 13) dX1_sittersIn_12 rfl rfl ?_
      refine f1_11 (q := 16) hh wd_168 dX1_sittersIn_13 rfl ?_
      refine g_iload_n (q := 17) dX1_sittersIn_16 rfl rfl ?_
      refine g_aldH (q := 18) (c := 4) hh (by decide) (by decide) (show vp_in _ 5 by first | ((with_reducible refine vp_in_nI ?_ ?_); (omega); (decide)) | (simp only [hci]; first | exact (w.2.2 i (by omega)).1 | exact (w.2.2 i (by omega)).2 | exact (w.2.1 i (by omega)).1 | exact (w.2.1 i (by omega)).2)) dX1_sittersIn_17 rfl ?_
      refine g_iload_n (q := 19) dX1_sittersIn_18 rfl rfl ?_
      refine g_icmp_ne (t := 28) (q := 22) dX1_sittersIn_19 (by decide) rfl (fun c_19 => ?_) (fun c_19 => ?_)
      · refine g_iinc (q := 31) dX1_sittersIn_28 rfl ci_1 (by decide) rfl rfl ?_
        refine g_goto (t := 4) dX1_sittersIn_31 (by decide) ?_
        (try simp only [hci] at c_19)
        exact g_eqw kk_i (by simp [lsub, s_si, hci, nI_succ, c_19]) (by rfl) rfl
      · refine g_iload_n (q := 23) dX1_sittersIn_22 rfl rfl ?_
        refine g_iconst (q := 24) dX1_sittersIn_23 ci_1 rfl ?_
        refine g_iload_n (q := 25) dX1_sittersIn_24 rfl rfl ?_
        refine g_ishl (q := 26) dX1_sittersIn_25 rfl ?_
        refine g_ior (q := 27) dX1_sittersIn_26 rfl ?_
        refine g_istore_n (j := 2) (q := 28) dX1_sittersIn_27 rfl (by decide) rfl rfl ?_
        refine g_iinc (q := 31) dX1_sittersIn_28 rfl ci_1 (by decide) rfl rfl ?_
        refine g_goto (t := 4) dX1_sittersIn_31 (by decide) ?_
        (try simp only [hci] at c_19)
        exact g_eqw kk_i (by simp [lsub, s_si, hci, nI_succ, c_19]) (by rfl) rfl
  · refine g_iload_n (q := 5) dX1_sittersIn_4 rfl rfl ?_
    refine g_aload_n (q := 6) dX1_sittersIn_5 rfl rfl ?_
    refine f1_7 (q := 9) hh wd_157 dX1_sittersIn_6 rfl ?_
    refine g_icmp_ge (t := 34) (q := 12) dX1_sittersIn_9 (by decide) rfl (fun c_9 => ?_) (fun c_9 => ?_)
    · refine g_iload_n (q := 35) dX1_sittersIn_34 rfl rfl ?_
      exact g_iret dX1_sittersIn_35 (pi_i (by rfl) (by rfl) rfl)
    · exact absurd (lp_out (by exact e7)) c_9
set_option maxRecDepth 20000 in
set_option maxHeartbeats 4000000 in
theorem c_X1_doorsOf {E : EE} (hE : inj E 0 40) {h : Nat} (hh : kd h = 1) {σ : Sto} {τ : Stl} {r : Int32} (w : WFH σ h) : Ct E 0 40 yX1_doorsOf cX1_doorsOf 4 (some FieldType.int) { frames := 0, cells := 0, slots := 0, locals := 0 } [.ref (E.2.1 h), .int r] σ τ (Pi (s_do (σ (h + 1)) (σ (h + 2)) r ((σ h 5).toNatClampNeg)) (σ) (τ)) := by
  refine ct_of hE RX1 [some (.ref (E.2.1 h)), some (.int r), none, none] (by decide) rfl (Nat.le_of_ble_eq_true rfl) rfl (fun X => ?_)
  obtain ⟨⟨e0, b0⟩, ⟨e5, b5⟩, ⟨e7, b7⟩⟩ := wf_n w
  refine g_iconst (q := 1) dX1_doorsOf_0 ci_0 rfl ?_
  refine g_istore_n (j := 2) (q := 2) dX1_doorsOf_1 rfl (by decide) rfl rfl ?_
  refine g_iconst (q := 3) dX1_doorsOf_2 ci_0 rfl ?_
  refine g_istore_n (j := 3) (q := 4) dX1_doorsOf_3 rfl (by decide) rfl rfl ?_
  refine g_for (I := fun i => [some (.ref (E.2.1 h)), some (.int r), some (.int (s_do (σ (h + 1)) (σ (h + 2)) r i)), some (.int (nI i))]) (S := fun i => σ) (T := fun i => τ) (0) ((σ h 5).toNatClampNeg) (Nat.zero_le _) (by rfl) (by rfl) (by rfl) (fun i i0 i1 kk_i => ?_) ?_
  · have hci : (nI i).toNatClampNeg = i := nI_clamp (by omega)
    refine g_iload_n (q := 5) dX1_doorsOf_4 rfl rfl ?_
    refine g_aload_n (q := 6) dX1_doorsOf_5 rfl rfl ?_
    refine f1_5 (q := 9) hh wd_150 dX1_doorsOf_6 rfl ?_
    refine g_icmp_ge (t := 44) (q := 12) dX1_doorsOf_9 (by decide) rfl (fun c_9 => ?_) (fun c_9 => ?_)
    · exact absurd c_9 (lp_in (by exact e5) (by omega) i1)
    · refine g_aload_n (q := 13) dX1_doorsOf_12 rfl rfl ?_
      refine f1_8 (q := 16) hh wd_160 dX1_doorsOf_13 rfl ?_
      refine g_iload_n (q := 17) dX1_doorsOf_16 rfl rfl ?_
      refine g_aldH (q := 18) (c := 1) hh (by decide) (by decide) (show vp_in _ 8 by first | ((with_reducible refine vp_in_nI ?_ ?_); (omega); (decide)) | (simp only [hci]; first | exact (w.2.2 i (by omega)).1 | exact (w.2.2 i (by omega)).2 | exact (w.2.1 i (by omega)).1 | exact (w.2.1 i (by omega)).2)) dX1_doorsOf_17 rfl ?_
      refine g_iload_n (q := 19) dX1_doorsOf_18 rfl rfl ?_
      refine g_icmp_eq (t := 32) (q := 22) dX1_doorsOf_19 (by decide) rfl (fun c_19 => ?_) (fun c_19 => ?_)
      · refine g_iload_n (q := 33) dX1_doorsOf_32 rfl rfl ?_
        refine g_iconst (q := 34) dX1_doorsOf_33 ci_1 rfl ?_
        refine g_iload_n (q := 35) dX1_doorsOf_34 rfl rfl ?_
        refine g_ishl (q := 36) dX1_doorsOf_35 rfl ?_
        refine g_ior (q := 37) dX1_doorsOf_36 rfl ?_
        refine g_istore_n (j := 2) (q := 38) dX1_doorsOf_37 rfl (by decide) rfl rfl ?_
        refine g_iinc (q := 41) dX1_doorsOf_38 rfl ci_1 (by decide) rfl rfl ?_
        refine g_goto (t := 4) dX1_doorsOf_41 (by decide) ?_
        (try simp only [hci] at c_19)
        exact g_eqw kk_i (by simp [lsub, s_do, hci, nI_succ, c_19]) (by rfl) rfl
      · refine g_aload_n (q := 23) dX1_doorsOf_22 rfl rfl ?_
        refine f1_9 (q := 26) hh wd_162 dX1_doorsOf_23 rfl ?_
        refine g_iload_n (q := 27) dX1_doorsOf_26 rfl rfl ?_
        refine g_aldH (q := 28) (c := 2) hh (by decide) (by decide) (show vp_in _ 8 by first | ((with_reducible refine vp_in_nI ?_ ?_); (omega); (decide)) | (simp only [hci]; first | exact (w.2.2 i (by omega)).1 | exact (w.2.2 i (by omega)).2 | exact (w.2.1 i (by omega)).1 | exact (w.2.1 i (by omega)).2)) dX1_doorsOf_27 rfl ?_
        refine g_iload_n (q := 29) dX1_doorsOf_28 rfl rfl ?_
        refine g_icmp_ne (t := 38) (q := 32) dX1_doorsOf_29 (by decide) rfl (fun c_29 => ?_) (fun c_29 => ?_)
        · refine g_iinc (q := 41) dX1_doorsOf_38 rfl ci_1 (by decide) rfl rfl ?_
          refine g_goto (t := 4) dX1_doorsOf_41 (by decide) ?_
          (try simp only [hci] at c_19)
          (try simp only [hci] at c_29)
          exact g_eqw kk_i (by simp [lsub, s_do, hci, nI_succ, c_19, c_29]) (by rfl) rfl
        · refine g_iload_n (q := 33) dX1_doorsOf_32 rfl rfl ?_
          refine g_iconst (q := 34) dX1_doorsOf_33 ci_1 rfl ?_
          refine g_iload_n (q := 35) dX1_doorsOf_34 rfl rfl ?_
          refine g_ishl (q := 36) dX1_doorsOf_35 rfl ?_
          refine g_ior (q := 37) dX1_doorsOf_36 rfl ?_
          refine g_istore_n (j := 2) (q := 38) dX1_doorsOf_37 rfl (by decide) rfl rfl ?_
          refine g_iinc (q := 41) dX1_doorsOf_38 rfl ci_1 (by decide) rfl rfl ?_
          refine g_goto (t := 4) dX1_doorsOf_41 (by decide) ?_
          (try simp only [hci] at c_19)
          (try simp only [hci] at c_29)
          exact g_eqw kk_i (by simp [lsub, s_do, hci, nI_succ, c_19, c_29]) (by rfl) rfl
  · refine g_iload_n (q := 5) dX1_doorsOf_4 rfl rfl ?_
    refine g_aload_n (q := 6) dX1_doorsOf_5 rfl rfl ?_
    refine f1_5 (q := 9) hh wd_150 dX1_doorsOf_6 rfl ?_
    refine g_icmp_ge (t := 44) (q := 12) dX1_doorsOf_9 (by decide) rfl (fun c_9 => ?_) (fun c_9 => ?_)
    · refine g_iload_n (q := 45) dX1_doorsOf_44 rfl rfl ?_
      exact g_iret dX1_doorsOf_45 (pi_i (by rfl) (by rfl) rfl)
    · exact absurd (lp_out (by exact e5)) c_9
set_option maxRecDepth 20000 in
set_option maxHeartbeats 4000000 in
theorem c_X1_allCold {E : EE} (hE : inj E 0 40) {h : Nat} (hh : kd h = 1) {σ : Sto} {τ : Stl}  (w : WFH σ h) : Ct E 0 40 yX1_allCold cX1_allCold 3 (some FieldType.int) { frames := 0, cells := 0, slots := 0, locals := 0 } [.ref (E.2.1 h)] σ τ (Pi (s_ac (σ (h + 6)) ((σ h 0).toNatClampNeg)) (σ) (τ)) := by
  refine ct_of hE RX1 [some (.ref (E.2.1 h)), none, none] (by decide) rfl (Nat.le_of_ble_eq_true rfl) rfl (fun X => ?_)
  obtain ⟨⟨e0, b0⟩, ⟨e5, b5⟩, ⟨e7, b7⟩⟩ := wf_n w
  refine g_iconst (q := 1) dX1_allCold_0 ci_0 rfl ?_
  refine g_istore_n (j := 1) (q := 2) dX1_allCold_1 rfl (by decide) rfl rfl ?_
  refine g_iconst (q := 3) dX1_allCold_2 ci_0 rfl ?_
  refine g_istore_n (j := 2) (q := 4) dX1_allCold_3 rfl (by decide) rfl rfl ?_
  refine g_for (I := fun i => [some (.ref (E.2.1 h)), some (.int (s_ac (σ (h + 6)) i)), some (.int (nI i))]) (S := fun i => σ) (T := fun i => τ) (0) ((σ h 0).toNatClampNeg) (Nat.zero_le _) (by rfl) (by rfl) (by rfl) (fun i i0 i1 kk_i => ?_) ?_
  · have hci : (nI i).toNatClampNeg = i := nI_clamp (by omega)
    refine g_iload_n (q := 5) dX1_allCold_4 rfl rfl ?_
    refine g_aload_n (q := 6) dX1_allCold_5 rfl rfl ?_
    refine f1_0 (q := 9) hh wd_138 dX1_allCold_6 rfl ?_
    refine g_icmp_ge (t := 27) (q := 12) dX1_allCold_9 (by decide) rfl (fun c_9 => ?_) (fun c_9 => ?_)
    · exact absurd c_9 (lp_in (by exact e0) (by omega) i1)
    · refine g_iload_n (q := 13) dX1_allCold_12 rfl rfl ?_
      refine g_aload_n (q := 14) dX1_allCold_13 rfl rfl ?_
      refine f1_13 (q := 17) hh wd_176 dX1_allCold_14 rfl ?_
      refine g_iload_n (q := 18) dX1_allCold_17 rfl rfl ?_
      refine g_aldH (q := 19) (c := 6) hh (by decide) (by decide) (show vp_in _ 6 by first | ((with_reducible refine vp_in_nI ?_ ?_); (omega); (decide)) | (simp only [hci]; first | exact (w.2.2 i (by omega)).1 | exact (w.2.2 i (by omega)).2 | exact (w.2.1 i (by omega)).1 | exact (w.2.1 i (by omega)).2)) dX1_allCold_18 rfl ?_
      refine g_iadd (q := 20) dX1_allCold_19 rfl ?_
      refine g_istore_n (j := 1) (q := 21) dX1_allCold_20 rfl (by decide) rfl rfl ?_
      refine g_iinc (q := 24) dX1_allCold_21 rfl ci_1 (by decide) rfl rfl ?_
      refine g_goto (t := 4) dX1_allCold_24 (by decide) ?_
      exact g_eqw kk_i (by simp [lsub, s_ac, hci, nI_succ]) (by rfl) rfl
  · refine g_iload_n (q := 5) dX1_allCold_4 rfl rfl ?_
    refine g_aload_n (q := 6) dX1_allCold_5 rfl rfl ?_
    refine f1_0 (q := 9) hh wd_138 dX1_allCold_6 rfl ?_
    refine g_icmp_ge (t := 27) (q := 12) dX1_allCold_9 (by decide) rfl (fun c_9 => ?_) (fun c_9 => ?_)
    · refine g_iload_n (q := 28) dX1_allCold_27 rfl rfl ?_
      exact g_iret dX1_allCold_28 (pi_i (by rfl) (by rfl) rfl)
    · exact absurd (lp_out (by exact e0)) c_9
set_option maxRecDepth 20000 in
set_option maxHeartbeats 4000000 in
theorem c_X1_clear {E : EE} (hE : inj E 0 40) {h : Nat} (hh : kd h = 1) {σ : Sto} {τ : Stl}   : Ct E 0 40 yX1_clear cX1_clear 2 none { frames := 0, cells := 0, slots := 0, locals := 0 } [.ref (E.2.1 h)] σ τ (Pv (upc (upc σ h (upd (upd (upd (upd (upd (σ h) 0 0) 4 0) 5 0) 6 0) 7 0)) (h + 6) (zf (σ (h + 6)) 0 6)) (τ)) := by
  refine ct_of hE RX1 [some (.ref (E.2.1 h)), none] (by decide) rfl (Nat.le_of_ble_eq_true rfl) rfl (fun X => ?_)
  refine g_aload_n (q := 1) dX1_clear_0 rfl rfl ?_
  refine g_iconst (q := 2) dX1_clear_1 ci_0 rfl ?_
  refine p1_0 (q := 5) hh wd_138 dX1_clear_2 rfl ?_
  refine g_aload_n (q := 6) dX1_clear_5 rfl rfl ?_
  refine g_iconst (q := 7) dX1_clear_6 ci_0 rfl ?_
  refine p1_4 (q := 10) hh wd_148 dX1_clear_7 rfl ?_
  refine g_aload_n (q := 11) dX1_clear_10 rfl rfl ?_
  refine g_iconst (q := 12) dX1_clear_11 ci_0 rfl ?_
  refine p1_5 (q := 15) hh wd_150 dX1_clear_12 rfl ?_
  refine g_aload_n (q := 16) dX1_clear_15 rfl rfl ?_
  refine g_iconst (q := 17) dX1_clear_16 ci_0 rfl ?_
  refine p1_6 (q := 20) hh wd_154 dX1_clear_17 rfl ?_
  refine g_aload_n (q := 21) dX1_clear_20 rfl rfl ?_
  refine g_iconst (q := 22) dX1_clear_21 ci_0 rfl ?_
  refine p1_7 (q := 25) hh wd_157 dX1_clear_22 rfl ?_
  refine g_iconst (q := 26) dX1_clear_25 ci_0 rfl ?_
  refine g_istore_n (j := 1) (q := 27) dX1_clear_26 rfl (by decide) rfl rfl ?_
  refine g_for (I := fun i => [some (.ref (E.2.1 h)), some (.int (nI i))]) (S := fun i => upc (upc σ h (upd (upd (upd (upd (upd (σ h) 0 0) 4 0) 5 0) 6 0) 7 0)) (h + 6) (zf (σ (h + 6)) 0 i)) (T := fun i => τ) (0) (6) (Nat.zero_le _) (by rfl) (by rw [zf_0]; simp only [upc_upc, upc_same]; exact (upc_idx () (by simp [upc])).symm) (by rfl) (fun i i0 i1 kk_i => ?_) ?_
  · have hci : (nI i).toNatClampNeg = i := nI_clamp (by omega)
    refine g_iload_n (q := 28) dX1_clear_27 rfl rfl ?_
    refine g_bipush (q := 30) dX1_clear_28 cb_6 rfl ?_
    refine g_icmp_ge (t := 46) (q := 33) dX1_clear_30 (by decide) rfl (fun c_30 => ?_) (fun c_30 => ?_)
    · exact absurd c_30 (lp_in (by rfl) (by omega) i1)
    · refine g_aload_n (q := 34) dX1_clear_33 rfl rfl ?_
      refine f1_13 (q := 37) hh wd_176 dX1_clear_34 rfl ?_
      refine g_iload_n (q := 38) dX1_clear_37 rfl rfl ?_
      refine g_iconst (q := 39) dX1_clear_38 ci_0 rfl ?_
      refine g_astH (q := 40) (c := 6) hh (by decide) (by decide) (show vp_in _ 6 by exact vp_in_nI i1 (by decide)) dX1_clear_39 rfl ?_
      refine g_iinc (q := 43) dX1_clear_40 rfl ci_1 (by decide) rfl rfl ?_
      refine g_goto (t := 27) dX1_clear_43 (by decide) ?_
      exact g_eqw kk_i (by simp [lsub, hci, nI_succ]) (by show upc (upc _ _ _) _ _ = _; rw [upc_upc, upc_same, hci]; have := zf_s (σ (h + 6)) 0 i; rw [Nat.zero_add] at this; rw [this]) rfl
  · refine g_iload_n (q := 28) dX1_clear_27 rfl rfl ?_
    refine g_bipush (q := 30) dX1_clear_28 cb_6 rfl ?_
    refine g_icmp_ge (t := 46) (q := 33) dX1_clear_30 (by decide) rfl (fun c_30 => ?_) (fun c_30 => ?_)
    · exact g_vret dX1_clear_46 (pv_i (by rfl) rfl)
    · exact absurd (lp_out (by rfl)) c_30
def s_flow (held kept : Int32) (c : Nat → Int32) (a b : Int32) : Nat → Int32 :=
  let fr := if c (a.toNatClampNeg) ≤ c (b.toNatClampNeg) then b else a
  let to := if fr = a then b else a
  if (kept >>> (fr &&& 31)) &&& 1 = 0 then
    let g0 := (c (fr.toNatClampNeg) - c (to.toNatClampNeg)) / 4
    let g := if (held >>> (fr &&& 31)) &&& 1 = 0 then g0 else g0 / 2
    upd (upd c (fr.toNatClampNeg) (c (fr.toNatClampNeg) - g)) (to.toNatClampNeg) (upd c (fr.toNatClampNeg) (c (fr.toNatClampNeg) - g) (to.toNatClampNeg) + g)
  else c
def s_pd (held kept op : Int32) (one oth c : Nat → Int32) : Nat → (Nat → Int32)
  | 0 => c
  | i + 1 => if (op >>> (nI i &&& 31)) &&& 1 = 0 then s_pd held kept op one oth c i else s_flow held kept (s_pd held kept op one oth c i) (one i) (oth i)
def clampC (v : Int32) : Int32 := if 0 < (if v < 999 then v else 999) then (if v < 999 then v else 999) else 0
def s_ps (kk pl fo c : Nat → Int32) : Nat → (Nat → Int32)
  | 0 => c
  | i + 1 => upd (s_ps kk pl fo c i) ((pl i).toNatClampNeg) (clampC (s_ps kk pl fo c i ((pl i).toNatClampNeg) + s_chill (kk i) (fo i)))
/-- a house seen by its own cells -/
def vw (σ : Sto) (h : Nat) : Sto := fun c => σ (h + c)
/-- one hour: what the cold becomes -/
def HC (v : Sto) (c : Nat → Int32) : Nat → Int32 := s_ps (v 3) (v 4) (v 5) (s_pd (s_rw 14 (v 3) (v 4) ((v 0 7).toNatClampNeg)) (s_rw 4 (v 3) (v 4) ((v 0 7).toNatClampNeg)) (v 0 6) (v 1) (v 2) (upd c ((v 0 1).toNatClampNeg) (if c ((v 0 1).toNatClampNeg) + v 0 2 < 999 then c ((v 0 1).toNatClampNeg) + v 0 2 else 999)) ((v 0 5).toNatClampNeg)) ((v 0 7).toNatClampNeg)
def hcs (v : Sto) (c : Nat → Int32) : Nat → (Nat → Int32)
  | 0 => c
  | n + 1 => HC v (hcs v c n)
def hrsC (σ : Sto) (h : Nat) (c : Nat → Int32) (n : Nat) : Nat → Int32 := hcs (vw σ h) c n
/-- house h with other cold and another hour -/
def mkH (σ : Sto) (h : Nat) (c : Nat → Int32) (v : Int32) : Sto := upc (upc σ (h + 6) c) h (upd (σ h) 4 v)
/-- n hours in house h -/
def hrs (σ : Sto) (h : Nat) (n : Nat) : Sto := mkH σ h (hrsC σ h (σ (h + 6)) n) (σ h 4 + nI n)
theorem mk_h (σ : Sto) (h : Nat) (c : Nat → Int32) (v : Int32) : mkH σ h c v h = upd (σ h) 4 v := upc_same _ _ _
theorem mk_hj (σ : Sto) (h : Nat) (c : Nat → Int32) (v : Int32) (j : Nat) (hj : j ≠ 4) : mkH σ h c v h j = σ h j := by rw [mk_h, upd_ne hj]
theorem mk_h4 (σ : Sto) (h : Nat) (c : Nat → Int32) (v : Int32) : mkH σ h c v h 4 = v := by rw [mk_h, upd_same]
theorem mk_6 (σ : Sto) (h : Nat) (c : Nat → Int32) (v : Int32) : mkH σ h c v (h + 6) = c := by unfold mkH; rw [upc_ne (by omega), upc_same]
theorem mk_o (σ : Sto) (h : Nat) (c : Nat → Int32) (v : Int32) (k : Nat) (h1 : k ≠ h) (h2 : k ≠ h + 6) : mkH σ h c v k = σ k := by unfold mkH; rw [upc_ne h1, upc_ne h2]
theorem mk_k (σ : Sto) (h : Nat) (c : Nat → Int32) (v : Int32) (k : Nat) (h1 : k ≠ 0) (h2 : k ≠ 6) : mkH σ h c v (h + k) = σ (h + k) := mk_o σ h c v _ (by omega) (by omega)
theorem mk_u6 (σ : Sto) (h : Nat) (c c' : Nat → Int32) (v : Int32) : upc (mkH σ h c v) (h + 6) c' = mkH σ h c' v := by
  funext a
  unfold mkH upc
  by_cases h1 : a = h + 6
  · have : ¬ a = h := by omega
    simp [h1]
  · simp [h1]
theorem mk_u4 (σ : Sto) (h : Nat) (c : Nat → Int32) (v v' : Int32) : upc (mkH σ h c v) h (upd (upd (σ h) 4 v) 4 v') = mkH σ h c v' := by
  unfold mkH
  rw [upc_upc]
  congr 1
  funext j
  unfold upd
  split <;> rfl
theorem mk_0 (σ : Sto) (h : Nat) : mkH σ h (σ (h + 6)) (σ h 4) = σ := by
  unfold mkH
  rw [upc_id]
  have : upd (σ h) 4 (σ h 4) = σ h := by
    funext j
    unfold upd
    split
    · rename_i e; rw [e]
    · rfl
  rw [this, upc_id]
theorem wfh_mk {σ : Sto} {h : Nat} {c : Nat → Int32} {v : Int32} (w : WFH σ h) : WFH (mkH σ h c v) h := by
  unfold WFH
  simp only [mk_hj _ _ _ _ _ (show (0 : Nat) ≠ 4 by decide), mk_hj _ _ _ _ _ (show (1 : Nat) ≠ 4 by decide), mk_hj _ _ _ _ _ (show (5 : Nat) ≠ 4 by decide), mk_hj _ _ _ _ _ (show (7 : Nat) ≠ 4 by decide), mk_k _ _ _ _ 1 (by decide) (by decide), mk_k _ _ _ _ 2 (by decide) (by decide), mk_k _ _ _ _ 3 (by decide) (by decide), mk_k _ _ _ _ 4 (by decide) (by decide)]
  exact w
set_option maxRecDepth 20000 in
set_option maxHeartbeats 4000000 in
theorem c_X1_flow {E : EE} (hE : inj E 0 40) {h : Nat} (hh : kd h = 1) {σ : Sto} {τ : Stl} {a b hd kp : Int32} (ha : vp_in a 6) (hb : vp_in b 6) : Ct E 0 40 yX1_flow cX1_flow 8 none { frames := 0, cells := 0, slots := 0, locals := 0 } [.ref (E.2.1 h), .int a, .int b, .int hd, .int kp] σ τ (Pv (upc σ (h + 6) (s_flow hd kp (σ (h + 6)) a b)) (τ)) := by
  refine ct_of hE RX1 [some (.ref (E.2.1 h)), some (.int a), some (.int b), some (.int hd), some (.int kp), none, none, none] (by decide) rfl (Nat.le_of_ble_eq_true rfl) rfl (fun X => ?_)
  refine g_aload_n (q := 1) dX1_flow_0 rfl rfl ?_
  refine f1_13 (q := 4) hh wd_176 dX1_flow_1 rfl ?_
  refine g_iload_n (q := 5) dX1_flow_4 rfl rfl ?_
  refine g_aldH (q := 6) (c := 6) hh (by decide) (by decide) (show vp_in _ 6 by first | assumption | (simp only [upc_same]; assumption)) dX1_flow_5 rfl ?_
  refine g_aload_n (q := 7) dX1_flow_6 rfl rfl ?_
  refine f1_13 (q := 10) hh wd_176 dX1_flow_7 rfl ?_
  refine g_iload_n (q := 11) dX1_flow_10 rfl rfl ?_
  refine g_aldH (q := 12) (c := 6) hh (by decide) (by decide) (show vp_in _ 6 by first | assumption | (simp only [upc_same]; assumption)) dX1_flow_11 rfl ?_
  refine g_icmp_le (t := 19) (q := 15) dX1_flow_12 (by decide) rfl (fun c_12 => ?_) (fun c_12 => ?_)
  · refine g_iload_n (q := 20) dX1_flow_19 rfl rfl ?_
    refine g_istore (q := 22) dX1_flow_20 (by decide) rfl rfl ?_
    refine g_iload (q := 24) dX1_flow_22 rfl rfl ?_
    refine g_iload_n (q := 25) dX1_flow_24 rfl rfl ?_
    refine g_icmp_ne (t := 32) (q := 28) dX1_flow_25 (by decide) rfl (fun c_25 => ?_) (fun c_25 => ?_)
    · refine g_iload_n (q := 33) dX1_flow_32 rfl rfl ?_
      refine g_istore (q := 35) dX1_flow_33 (by decide) rfl rfl ?_
      refine g_iload (q := 37) dX1_flow_35 rfl rfl ?_
      refine g_iload (q := 39) dX1_flow_37 rfl rfl ?_
      refine g_ishr (q := 40) dX1_flow_39 rfl ?_
      refine g_iconst (q := 41) dX1_flow_40 ci_1 rfl ?_
      refine g_iand (q := 42) dX1_flow_41 rfl ?_
      refine g_if_eq (t := 46) (q := 45) dX1_flow_42 (by decide) rfl (fun c_42 => ?_) (fun c_42 => ?_)
      · refine g_aload_n (q := 47) dX1_flow_46 rfl rfl ?_
        refine f1_13 (q := 50) hh wd_176 dX1_flow_47 rfl ?_
        refine g_iload (q := 52) dX1_flow_50 rfl rfl ?_
        refine g_aldH (q := 53) (c := 6) hh (by decide) (by decide) (show vp_in _ 6 by first | assumption | (simp only [upc_same]; assumption)) dX1_flow_52 rfl ?_
        refine g_aload_n (q := 54) dX1_flow_53 rfl rfl ?_
        refine f1_13 (q := 57) hh wd_176 dX1_flow_54 rfl ?_
        refine g_iload (q := 59) dX1_flow_57 rfl rfl ?_
        refine g_aldH (q := 60) (c := 6) hh (by decide) (by decide) (show vp_in _ 6 by first | assumption | (simp only [upc_same]; assumption)) dX1_flow_59 rfl ?_
        refine g_isub (q := 61) dX1_flow_60 rfl ?_
        refine g_iconst (q := 62) dX1_flow_61 ci_4 rfl ?_
        refine g_idiv (q := 63) dX1_flow_62 (by decide) rfl ?_
        refine g_istore (q := 65) dX1_flow_63 (by decide) rfl rfl ?_
        refine g_iload_n (q := 66) dX1_flow_65 rfl rfl ?_
        refine g_iload (q := 68) dX1_flow_66 rfl rfl ?_
        refine g_ishr (q := 69) dX1_flow_68 rfl ?_
        refine g_iconst (q := 70) dX1_flow_69 ci_1 rfl ?_
        refine g_iand (q := 71) dX1_flow_70 rfl ?_
        refine g_if_eq (t := 80) (q := 74) dX1_flow_71 (by decide) rfl (fun c_71 => ?_) (fun c_71 => ?_)
        · refine g_aload_n (q := 81) dX1_flow_80 rfl rfl ?_
          refine f1_13 (q := 84) hh wd_176 dX1_flow_81 rfl ?_
          refine g_iload (q := 86) dX1_flow_84 rfl rfl ?_
          refine g_dup2 (q := 87) dX1_flow_86 rfl rfl rfl ?_
          refine g_aldH (q := 88) (c := 6) hh (by decide) (by decide) (show vp_in _ 6 by first | assumption | (simp only [upc_same]; assumption)) dX1_flow_87 rfl ?_
          refine g_iload (q := 90) dX1_flow_88 rfl rfl ?_
          refine g_isub (q := 91) dX1_flow_90 rfl ?_
          refine g_astH (q := 92) (c := 6) hh (by decide) (by decide) (show vp_in _ 6 by first | assumption | (simp only [upc_same]; assumption)) dX1_flow_91 rfl ?_
          refine g_aload_n (q := 93) dX1_flow_92 rfl rfl ?_
          refine f1_13 (q := 96) hh wd_176 dX1_flow_93 rfl ?_
          refine g_iload (q := 98) dX1_flow_96 rfl rfl ?_
          refine g_dup2 (q := 99) dX1_flow_98 rfl rfl rfl ?_
          refine g_aldH (q := 100) (c := 6) hh (by decide) (by decide) (show vp_in _ 6 by first | assumption | (simp only [upc_same]; assumption)) dX1_flow_99 rfl ?_
          refine g_iload (q := 102) dX1_flow_100 rfl rfl ?_
          refine g_iadd (q := 103) dX1_flow_102 rfl ?_
          refine g_astH (q := 104) (c := 6) hh (by decide) (by decide) (show vp_in _ 6 by first | assumption | (simp only [upc_same]; assumption)) dX1_flow_103 rfl ?_
          exact g_vret dX1_flow_104 (pv_i (by first | (with_reducible exact absurd rfl c_25) | (rw [upc_upc]; simp only [upc_same]; congr 1; simp only [s_flow, if_true, if_pos c_12, if_neg c_25, if_pos c_42, if_pos c_71])) rfl)
        · refine g_iload (q := 76) dX1_flow_74 rfl rfl ?_
          refine g_iconst (q := 77) dX1_flow_76 ci_2 rfl ?_
          refine g_idiv (q := 78) dX1_flow_77 (by decide) rfl ?_
          refine g_istore (q := 80) dX1_flow_78 (by decide) rfl rfl ?_
          refine g_aload_n (q := 81) dX1_flow_80 rfl rfl ?_
          refine f1_13 (q := 84) hh wd_176 dX1_flow_81 rfl ?_
          refine g_iload (q := 86) dX1_flow_84 rfl rfl ?_
          refine g_dup2 (q := 87) dX1_flow_86 rfl rfl rfl ?_
          refine g_aldH (q := 88) (c := 6) hh (by decide) (by decide) (show vp_in _ 6 by first | assumption | (simp only [upc_same]; assumption)) dX1_flow_87 rfl ?_
          refine g_iload (q := 90) dX1_flow_88 rfl rfl ?_
          refine g_isub (q := 91) dX1_flow_90 rfl ?_
          refine g_astH (q := 92) (c := 6) hh (by decide) (by decide) (show vp_in _ 6 by first | assumption | (simp only [upc_same]; assumption)) dX1_flow_91 rfl ?_
          refine g_aload_n (q := 93) dX1_flow_92 rfl rfl ?_
          refine f1_13 (q := 96) hh wd_176 dX1_flow_93 rfl ?_
          refine g_iload (q := 98) dX1_flow_96 rfl rfl ?_
          refine g_dup2 (q := 99) dX1_flow_98 rfl rfl rfl ?_
          refine g_aldH (q := 100) (c := 6) hh (by decide) (by decide) (show vp_in _ 6 by first | assumption | (simp only [upc_same]; assumption)) dX1_flow_99 rfl ?_
          refine g_iload (q := 102) dX1_flow_100 rfl rfl ?_
          refine g_iadd (q := 103) dX1_flow_102 rfl ?_
          refine g_astH (q := 104) (c := 6) hh (by decide) (by decide) (show vp_in _ 6 by first | assumption | (simp only [upc_same]; assumption)) dX1_flow_103 rfl ?_
          exact g_vret dX1_flow_104 (pv_i (by first | (with_reducible exact absurd rfl c_25) | (rw [upc_upc]; simp only [upc_same]; congr 1; simp only [s_flow, if_true, if_pos c_12, if_neg c_25, if_pos c_42, if_neg c_71])) rfl)
      · exact g_vret dX1_flow_45 (pv_i (by rw [show s_flow hd kp (σ (h + 6)) a b = σ (h + 6) from by simp only [s_flow, if_true, if_pos c_12, if_neg c_25, if_neg c_42]]; exact (upc_id _ _).symm) rfl)
    · refine g_iload_n (q := 29) dX1_flow_28 rfl rfl ?_
      refine g_goto (t := 33) dX1_flow_29 (by decide) ?_
      refine g_istore (q := 35) dX1_flow_33 (by decide) rfl rfl ?_
      refine g_iload (q := 37) dX1_flow_35 rfl rfl ?_
      refine g_iload (q := 39) dX1_flow_37 rfl rfl ?_
      refine g_ishr (q := 40) dX1_flow_39 rfl ?_
      refine g_iconst (q := 41) dX1_flow_40 ci_1 rfl ?_
      refine g_iand (q := 42) dX1_flow_41 rfl ?_
      refine g_if_eq (t := 46) (q := 45) dX1_flow_42 (by decide) rfl (fun c_42 => ?_) (fun c_42 => ?_)
      · refine g_aload_n (q := 47) dX1_flow_46 rfl rfl ?_
        refine f1_13 (q := 50) hh wd_176 dX1_flow_47 rfl ?_
        refine g_iload (q := 52) dX1_flow_50 rfl rfl ?_
        refine g_aldH (q := 53) (c := 6) hh (by decide) (by decide) (show vp_in _ 6 by first | assumption | (simp only [upc_same]; assumption)) dX1_flow_52 rfl ?_
        refine g_aload_n (q := 54) dX1_flow_53 rfl rfl ?_
        refine f1_13 (q := 57) hh wd_176 dX1_flow_54 rfl ?_
        refine g_iload (q := 59) dX1_flow_57 rfl rfl ?_
        refine g_aldH (q := 60) (c := 6) hh (by decide) (by decide) (show vp_in _ 6 by first | assumption | (simp only [upc_same]; assumption)) dX1_flow_59 rfl ?_
        refine g_isub (q := 61) dX1_flow_60 rfl ?_
        refine g_iconst (q := 62) dX1_flow_61 ci_4 rfl ?_
        refine g_idiv (q := 63) dX1_flow_62 (by decide) rfl ?_
        refine g_istore (q := 65) dX1_flow_63 (by decide) rfl rfl ?_
        refine g_iload_n (q := 66) dX1_flow_65 rfl rfl ?_
        refine g_iload (q := 68) dX1_flow_66 rfl rfl ?_
        refine g_ishr (q := 69) dX1_flow_68 rfl ?_
        refine g_iconst (q := 70) dX1_flow_69 ci_1 rfl ?_
        refine g_iand (q := 71) dX1_flow_70 rfl ?_
        refine g_if_eq (t := 80) (q := 74) dX1_flow_71 (by decide) rfl (fun c_71 => ?_) (fun c_71 => ?_)
        · refine g_aload_n (q := 81) dX1_flow_80 rfl rfl ?_
          refine f1_13 (q := 84) hh wd_176 dX1_flow_81 rfl ?_
          refine g_iload (q := 86) dX1_flow_84 rfl rfl ?_
          refine g_dup2 (q := 87) dX1_flow_86 rfl rfl rfl ?_
          refine g_aldH (q := 88) (c := 6) hh (by decide) (by decide) (show vp_in _ 6 by first | assumption | (simp only [upc_same]; assumption)) dX1_flow_87 rfl ?_
          refine g_iload (q := 90) dX1_flow_88 rfl rfl ?_
          refine g_isub (q := 91) dX1_flow_90 rfl ?_
          refine g_astH (q := 92) (c := 6) hh (by decide) (by decide) (show vp_in _ 6 by first | assumption | (simp only [upc_same]; assumption)) dX1_flow_91 rfl ?_
          refine g_aload_n (q := 93) dX1_flow_92 rfl rfl ?_
          refine f1_13 (q := 96) hh wd_176 dX1_flow_93 rfl ?_
          refine g_iload (q := 98) dX1_flow_96 rfl rfl ?_
          refine g_dup2 (q := 99) dX1_flow_98 rfl rfl rfl ?_
          refine g_aldH (q := 100) (c := 6) hh (by decide) (by decide) (show vp_in _ 6 by first | assumption | (simp only [upc_same]; assumption)) dX1_flow_99 rfl ?_
          refine g_iload (q := 102) dX1_flow_100 rfl rfl ?_
          refine g_iadd (q := 103) dX1_flow_102 rfl ?_
          refine g_astH (q := 104) (c := 6) hh (by decide) (by decide) (show vp_in _ 6 by first | assumption | (simp only [upc_same]; assumption)) dX1_flow_103 rfl ?_
          exact g_vret dX1_flow_104 (pv_i (by first | (with_reducible exact absurd rfl c_25) | (rw [upc_upc]; simp only [upc_same]; congr 1; simp only [s_flow, if_true, if_pos c_12, if_pos c_25, if_pos c_42, if_pos c_71])) rfl)
        · refine g_iload (q := 76) dX1_flow_74 rfl rfl ?_
          refine g_iconst (q := 77) dX1_flow_76 ci_2 rfl ?_
          refine g_idiv (q := 78) dX1_flow_77 (by decide) rfl ?_
          refine g_istore (q := 80) dX1_flow_78 (by decide) rfl rfl ?_
          refine g_aload_n (q := 81) dX1_flow_80 rfl rfl ?_
          refine f1_13 (q := 84) hh wd_176 dX1_flow_81 rfl ?_
          refine g_iload (q := 86) dX1_flow_84 rfl rfl ?_
          refine g_dup2 (q := 87) dX1_flow_86 rfl rfl rfl ?_
          refine g_aldH (q := 88) (c := 6) hh (by decide) (by decide) (show vp_in _ 6 by first | assumption | (simp only [upc_same]; assumption)) dX1_flow_87 rfl ?_
          refine g_iload (q := 90) dX1_flow_88 rfl rfl ?_
          refine g_isub (q := 91) dX1_flow_90 rfl ?_
          refine g_astH (q := 92) (c := 6) hh (by decide) (by decide) (show vp_in _ 6 by first | assumption | (simp only [upc_same]; assumption)) dX1_flow_91 rfl ?_
          refine g_aload_n (q := 93) dX1_flow_92 rfl rfl ?_
          refine f1_13 (q := 96) hh wd_176 dX1_flow_93 rfl ?_
          refine g_iload (q := 98) dX1_flow_96 rfl rfl ?_
          refine g_dup2 (q := 99) dX1_flow_98 rfl rfl rfl ?_
          refine g_aldH (q := 100) (c := 6) hh (by decide) (by decide) (show vp_in _ 6 by first | assumption | (simp only [upc_same]; assumption)) dX1_flow_99 rfl ?_
          refine g_iload (q := 102) dX1_flow_100 rfl rfl ?_
          refine g_iadd (q := 103) dX1_flow_102 rfl ?_
          refine g_astH (q := 104) (c := 6) hh (by decide) (by decide) (show vp_in _ 6 by first | assumption | (simp only [upc_same]; assumption)) dX1_flow_103 rfl ?_
          exact g_vret dX1_flow_104 (pv_i (by first | (with_reducible exact absurd rfl c_25) | (rw [upc_upc]; simp only [upc_same]; congr 1; simp only [s_flow, if_true, if_pos c_12, if_pos c_25, if_pos c_42, if_neg c_71])) rfl)
      · exact g_vret dX1_flow_45 (pv_i (by rw [show s_flow hd kp (σ (h + 6)) a b = σ (h + 6) from by simp only [s_flow, if_true, if_pos c_12, if_pos c_25, if_neg c_42]]; exact (upc_id _ _).symm) rfl)
  · refine g_iload_n (q := 16) dX1_flow_15 rfl rfl ?_
    refine g_goto (t := 20) dX1_flow_16 (by decide) ?_
    refine g_istore (q := 22) dX1_flow_20 (by decide) rfl rfl ?_
    refine g_iload (q := 24) dX1_flow_22 rfl rfl ?_
    refine g_iload_n (q := 25) dX1_flow_24 rfl rfl ?_
    refine g_icmp_ne (t := 32) (q := 28) dX1_flow_25 (by decide) rfl (fun c_25 => ?_) (fun c_25 => ?_)
    · refine g_iload_n (q := 33) dX1_flow_32 rfl rfl ?_
      refine g_istore (q := 35) dX1_flow_33 (by decide) rfl rfl ?_
      refine g_iload (q := 37) dX1_flow_35 rfl rfl ?_
      refine g_iload (q := 39) dX1_flow_37 rfl rfl ?_
      refine g_ishr (q := 40) dX1_flow_39 rfl ?_
      refine g_iconst (q := 41) dX1_flow_40 ci_1 rfl ?_
      refine g_iand (q := 42) dX1_flow_41 rfl ?_
      refine g_if_eq (t := 46) (q := 45) dX1_flow_42 (by decide) rfl (fun c_42 => ?_) (fun c_42 => ?_)
      · refine g_aload_n (q := 47) dX1_flow_46 rfl rfl ?_
        refine f1_13 (q := 50) hh wd_176 dX1_flow_47 rfl ?_
        refine g_iload (q := 52) dX1_flow_50 rfl rfl ?_
        refine g_aldH (q := 53) (c := 6) hh (by decide) (by decide) (show vp_in _ 6 by first | assumption | (simp only [upc_same]; assumption)) dX1_flow_52 rfl ?_
        refine g_aload_n (q := 54) dX1_flow_53 rfl rfl ?_
        refine f1_13 (q := 57) hh wd_176 dX1_flow_54 rfl ?_
        refine g_iload (q := 59) dX1_flow_57 rfl rfl ?_
        refine g_aldH (q := 60) (c := 6) hh (by decide) (by decide) (show vp_in _ 6 by first | assumption | (simp only [upc_same]; assumption)) dX1_flow_59 rfl ?_
        refine g_isub (q := 61) dX1_flow_60 rfl ?_
        refine g_iconst (q := 62) dX1_flow_61 ci_4 rfl ?_
        refine g_idiv (q := 63) dX1_flow_62 (by decide) rfl ?_
        refine g_istore (q := 65) dX1_flow_63 (by decide) rfl rfl ?_
        refine g_iload_n (q := 66) dX1_flow_65 rfl rfl ?_
        refine g_iload (q := 68) dX1_flow_66 rfl rfl ?_
        refine g_ishr (q := 69) dX1_flow_68 rfl ?_
        refine g_iconst (q := 70) dX1_flow_69 ci_1 rfl ?_
        refine g_iand (q := 71) dX1_flow_70 rfl ?_
        refine g_if_eq (t := 80) (q := 74) dX1_flow_71 (by decide) rfl (fun c_71 => ?_) (fun c_71 => ?_)
        · refine g_aload_n (q := 81) dX1_flow_80 rfl rfl ?_
          refine f1_13 (q := 84) hh wd_176 dX1_flow_81 rfl ?_
          refine g_iload (q := 86) dX1_flow_84 rfl rfl ?_
          refine g_dup2 (q := 87) dX1_flow_86 rfl rfl rfl ?_
          refine g_aldH (q := 88) (c := 6) hh (by decide) (by decide) (show vp_in _ 6 by first | assumption | (simp only [upc_same]; assumption)) dX1_flow_87 rfl ?_
          refine g_iload (q := 90) dX1_flow_88 rfl rfl ?_
          refine g_isub (q := 91) dX1_flow_90 rfl ?_
          refine g_astH (q := 92) (c := 6) hh (by decide) (by decide) (show vp_in _ 6 by first | assumption | (simp only [upc_same]; assumption)) dX1_flow_91 rfl ?_
          refine g_aload_n (q := 93) dX1_flow_92 rfl rfl ?_
          refine f1_13 (q := 96) hh wd_176 dX1_flow_93 rfl ?_
          refine g_iload (q := 98) dX1_flow_96 rfl rfl ?_
          refine g_dup2 (q := 99) dX1_flow_98 rfl rfl rfl ?_
          refine g_aldH (q := 100) (c := 6) hh (by decide) (by decide) (show vp_in _ 6 by first | assumption | (simp only [upc_same]; assumption)) dX1_flow_99 rfl ?_
          refine g_iload (q := 102) dX1_flow_100 rfl rfl ?_
          refine g_iadd (q := 103) dX1_flow_102 rfl ?_
          refine g_astH (q := 104) (c := 6) hh (by decide) (by decide) (show vp_in _ 6 by first | assumption | (simp only [upc_same]; assumption)) dX1_flow_103 rfl ?_
          exact g_vret dX1_flow_104 (pv_i (by first | (with_reducible exact absurd rfl c_25) | (rw [upc_upc]; simp only [upc_same]; congr 1; simp only [s_flow, if_true, if_neg c_12, if_neg c_25, if_pos c_42, if_pos c_71])) rfl)
        · refine g_iload (q := 76) dX1_flow_74 rfl rfl ?_
          refine g_iconst (q := 77) dX1_flow_76 ci_2 rfl ?_
          refine g_idiv (q := 78) dX1_flow_77 (by decide) rfl ?_
          refine g_istore (q := 80) dX1_flow_78 (by decide) rfl rfl ?_
          refine g_aload_n (q := 81) dX1_flow_80 rfl rfl ?_
          refine f1_13 (q := 84) hh wd_176 dX1_flow_81 rfl ?_
          refine g_iload (q := 86) dX1_flow_84 rfl rfl ?_
          refine g_dup2 (q := 87) dX1_flow_86 rfl rfl rfl ?_
          refine g_aldH (q := 88) (c := 6) hh (by decide) (by decide) (show vp_in _ 6 by first | assumption | (simp only [upc_same]; assumption)) dX1_flow_87 rfl ?_
          refine g_iload (q := 90) dX1_flow_88 rfl rfl ?_
          refine g_isub (q := 91) dX1_flow_90 rfl ?_
          refine g_astH (q := 92) (c := 6) hh (by decide) (by decide) (show vp_in _ 6 by first | assumption | (simp only [upc_same]; assumption)) dX1_flow_91 rfl ?_
          refine g_aload_n (q := 93) dX1_flow_92 rfl rfl ?_
          refine f1_13 (q := 96) hh wd_176 dX1_flow_93 rfl ?_
          refine g_iload (q := 98) dX1_flow_96 rfl rfl ?_
          refine g_dup2 (q := 99) dX1_flow_98 rfl rfl rfl ?_
          refine g_aldH (q := 100) (c := 6) hh (by decide) (by decide) (show vp_in _ 6 by first | assumption | (simp only [upc_same]; assumption)) dX1_flow_99 rfl ?_
          refine g_iload (q := 102) dX1_flow_100 rfl rfl ?_
          refine g_iadd (q := 103) dX1_flow_102 rfl ?_
          refine g_astH (q := 104) (c := 6) hh (by decide) (by decide) (show vp_in _ 6 by first | assumption | (simp only [upc_same]; assumption)) dX1_flow_103 rfl ?_
          exact g_vret dX1_flow_104 (pv_i (by first | (with_reducible exact absurd rfl c_25) | (rw [upc_upc]; simp only [upc_same]; congr 1; simp only [s_flow, if_true, if_neg c_12, if_neg c_25, if_pos c_42, if_neg c_71])) rfl)
      · exact g_vret dX1_flow_45 (pv_i (by rw [show s_flow hd kp (σ (h + 6)) a b = σ (h + 6) from by simp only [s_flow, if_true, if_neg c_12, if_neg c_25, if_neg c_42]]; exact (upc_id _ _).symm) rfl)
    · refine g_iload_n (q := 29) dX1_flow_28 rfl rfl ?_
      refine g_goto (t := 33) dX1_flow_29 (by decide) ?_
      refine g_istore (q := 35) dX1_flow_33 (by decide) rfl rfl ?_
      refine g_iload (q := 37) dX1_flow_35 rfl rfl ?_
      refine g_iload (q := 39) dX1_flow_37 rfl rfl ?_
      refine g_ishr (q := 40) dX1_flow_39 rfl ?_
      refine g_iconst (q := 41) dX1_flow_40 ci_1 rfl ?_
      refine g_iand (q := 42) dX1_flow_41 rfl ?_
      refine g_if_eq (t := 46) (q := 45) dX1_flow_42 (by decide) rfl (fun c_42 => ?_) (fun c_42 => ?_)
      · refine g_aload_n (q := 47) dX1_flow_46 rfl rfl ?_
        refine f1_13 (q := 50) hh wd_176 dX1_flow_47 rfl ?_
        refine g_iload (q := 52) dX1_flow_50 rfl rfl ?_
        refine g_aldH (q := 53) (c := 6) hh (by decide) (by decide) (show vp_in _ 6 by first | assumption | (simp only [upc_same]; assumption)) dX1_flow_52 rfl ?_
        refine g_aload_n (q := 54) dX1_flow_53 rfl rfl ?_
        refine f1_13 (q := 57) hh wd_176 dX1_flow_54 rfl ?_
        refine g_iload (q := 59) dX1_flow_57 rfl rfl ?_
        refine g_aldH (q := 60) (c := 6) hh (by decide) (by decide) (show vp_in _ 6 by first | assumption | (simp only [upc_same]; assumption)) dX1_flow_59 rfl ?_
        refine g_isub (q := 61) dX1_flow_60 rfl ?_
        refine g_iconst (q := 62) dX1_flow_61 ci_4 rfl ?_
        refine g_idiv (q := 63) dX1_flow_62 (by decide) rfl ?_
        refine g_istore (q := 65) dX1_flow_63 (by decide) rfl rfl ?_
        refine g_iload_n (q := 66) dX1_flow_65 rfl rfl ?_
        refine g_iload (q := 68) dX1_flow_66 rfl rfl ?_
        refine g_ishr (q := 69) dX1_flow_68 rfl ?_
        refine g_iconst (q := 70) dX1_flow_69 ci_1 rfl ?_
        refine g_iand (q := 71) dX1_flow_70 rfl ?_
        refine g_if_eq (t := 80) (q := 74) dX1_flow_71 (by decide) rfl (fun c_71 => ?_) (fun c_71 => ?_)
        · refine g_aload_n (q := 81) dX1_flow_80 rfl rfl ?_
          refine f1_13 (q := 84) hh wd_176 dX1_flow_81 rfl ?_
          refine g_iload (q := 86) dX1_flow_84 rfl rfl ?_
          refine g_dup2 (q := 87) dX1_flow_86 rfl rfl rfl ?_
          refine g_aldH (q := 88) (c := 6) hh (by decide) (by decide) (show vp_in _ 6 by first | assumption | (simp only [upc_same]; assumption)) dX1_flow_87 rfl ?_
          refine g_iload (q := 90) dX1_flow_88 rfl rfl ?_
          refine g_isub (q := 91) dX1_flow_90 rfl ?_
          refine g_astH (q := 92) (c := 6) hh (by decide) (by decide) (show vp_in _ 6 by first | assumption | (simp only [upc_same]; assumption)) dX1_flow_91 rfl ?_
          refine g_aload_n (q := 93) dX1_flow_92 rfl rfl ?_
          refine f1_13 (q := 96) hh wd_176 dX1_flow_93 rfl ?_
          refine g_iload (q := 98) dX1_flow_96 rfl rfl ?_
          refine g_dup2 (q := 99) dX1_flow_98 rfl rfl rfl ?_
          refine g_aldH (q := 100) (c := 6) hh (by decide) (by decide) (show vp_in _ 6 by first | assumption | (simp only [upc_same]; assumption)) dX1_flow_99 rfl ?_
          refine g_iload (q := 102) dX1_flow_100 rfl rfl ?_
          refine g_iadd (q := 103) dX1_flow_102 rfl ?_
          refine g_astH (q := 104) (c := 6) hh (by decide) (by decide) (show vp_in _ 6 by first | assumption | (simp only [upc_same]; assumption)) dX1_flow_103 rfl ?_
          exact g_vret dX1_flow_104 (pv_i (by first | (with_reducible exact absurd rfl c_25) | (rw [upc_upc]; simp only [upc_same]; congr 1; simp only [s_flow, if_true, if_neg c_12, if_pos c_25, if_pos c_42, if_pos c_71])) rfl)
        · refine g_iload (q := 76) dX1_flow_74 rfl rfl ?_
          refine g_iconst (q := 77) dX1_flow_76 ci_2 rfl ?_
          refine g_idiv (q := 78) dX1_flow_77 (by decide) rfl ?_
          refine g_istore (q := 80) dX1_flow_78 (by decide) rfl rfl ?_
          refine g_aload_n (q := 81) dX1_flow_80 rfl rfl ?_
          refine f1_13 (q := 84) hh wd_176 dX1_flow_81 rfl ?_
          refine g_iload (q := 86) dX1_flow_84 rfl rfl ?_
          refine g_dup2 (q := 87) dX1_flow_86 rfl rfl rfl ?_
          refine g_aldH (q := 88) (c := 6) hh (by decide) (by decide) (show vp_in _ 6 by first | assumption | (simp only [upc_same]; assumption)) dX1_flow_87 rfl ?_
          refine g_iload (q := 90) dX1_flow_88 rfl rfl ?_
          refine g_isub (q := 91) dX1_flow_90 rfl ?_
          refine g_astH (q := 92) (c := 6) hh (by decide) (by decide) (show vp_in _ 6 by first | assumption | (simp only [upc_same]; assumption)) dX1_flow_91 rfl ?_
          refine g_aload_n (q := 93) dX1_flow_92 rfl rfl ?_
          refine f1_13 (q := 96) hh wd_176 dX1_flow_93 rfl ?_
          refine g_iload (q := 98) dX1_flow_96 rfl rfl ?_
          refine g_dup2 (q := 99) dX1_flow_98 rfl rfl rfl ?_
          refine g_aldH (q := 100) (c := 6) hh (by decide) (by decide) (show vp_in _ 6 by first | assumption | (simp only [upc_same]; assumption)) dX1_flow_99 rfl ?_
          refine g_iload (q := 102) dX1_flow_100 rfl rfl ?_
          refine g_iadd (q := 103) dX1_flow_102 rfl ?_
          refine g_astH (q := 104) (c := 6) hh (by decide) (by decide) (show vp_in _ 6 by first | assumption | (simp only [upc_same]; assumption)) dX1_flow_103 rfl ?_
          exact g_vret dX1_flow_104 (pv_i (by first | (with_reducible exact absurd rfl c_25) | (rw [upc_upc]; simp only [upc_same]; congr 1; simp only [s_flow, if_true, if_neg c_12, if_pos c_25, if_pos c_42, if_neg c_71])) rfl)
      · exact g_vret dX1_flow_45 (pv_i (by rw [show s_flow hd kp (σ (h + 6)) a b = σ (h + 6) from by simp only [s_flow, if_true, if_neg c_12, if_pos c_25, if_neg c_42]]; exact (upc_id _ _).symm) rfl)
set_option maxRecDepth 20000 in
set_option maxHeartbeats 4000000 in
theorem c_X1_passDoors {E : EE} (hE : inj E 0 40) {h : Nat} (hh : kd h = 1) {σ : Sto} {τ : Stl} {hd kp : Int32} (w : WFH σ h) : Ct E 0 40 yX1_passDoors cX1_passDoors 4 none { frames := 1, cells := 0, slots := 0, locals := 27 } [.ref (E.2.1 h), .int hd, .int kp] σ τ (Pv (upc σ (h + 6) (s_pd hd kp (σ h 6) (σ (h + 1)) (σ (h + 2)) (σ (h + 6)) ((σ h 5).toNatClampNeg))) (τ)) := by
  refine ct_of hE RX1 [some (.ref (E.2.1 h)), some (.int hd), some (.int kp), none] (by decide) rfl (Nat.le_of_ble_eq_true rfl) rfl (fun X => ?_)
  obtain ⟨⟨e0, b0⟩, ⟨e5, b5⟩, ⟨e7, b7⟩⟩ := wf_n w
  refine g_iconst (q := 1) dX1_passDoors_0 ci_0 rfl ?_
  refine g_istore_n (j := 3) (q := 2) dX1_passDoors_1 rfl (by decide) rfl rfl ?_
  refine g_for (I := fun i => [some (.ref (E.2.1 h)), some (.int hd), some (.int kp), some (.int (nI i))]) (S := fun i => upc σ (h + 6) (s_pd hd kp (σ h 6) (σ (h + 1)) (σ (h + 2)) (σ (h + 6)) i)) (T := fun i => τ) (0) ((σ h 5).toNatClampNeg) (Nat.zero_le _) (by rfl) (by exact (upc_id _ _).symm) (by rfl) (fun i i0 i1 kk_i => ?_) ?_
  · have hci : (nI i).toNatClampNeg = i := nI_clamp (by omega)
    refine g_iload_n (q := 3) dX1_passDoors_2 rfl rfl ?_
    refine g_aload_n (q := 4) dX1_passDoors_3 rfl rfl ?_
    refine f1_5 (q := 7) hh wd_150 dX1_passDoors_4 rfl ?_
    refine g_icmp_ge (t := 42) (q := 10) dX1_passDoors_7 (by decide) rfl (fun c_7 => ?_) (fun c_7 => ?_)
    · exact absurd c_7 (lp_in (by simp only [upc_ne (show h ≠ h + 6 by omega)]; exact e5) (by omega) i1)
    · refine g_aload_n (q := 11) dX1_passDoors_10 rfl rfl ?_
      refine g_iload_n (q := 12) dX1_passDoors_11 rfl rfl ?_
      refine g_callVi (q := 15) (c_X1_isOpen hE hh) lk_RX1_82 (Nat.zero_le _) (h_lt hh) hh (by decide) rfl rfl rfl rfl rfl rfl (Nat.le_of_ble_eq_true rfl) (Nat.le_of_ble_eq_true rfl) (Nat.le_of_ble_eq_true rfl) dX1_passDoors_12 rfl ?_
      refine g_if_eq (t := 36) (q := 18) dX1_passDoors_15 (by decide) rfl (fun c_15 => ?_) (fun c_15 => ?_)
      · rw [bI_0] at c_15
        simp [upc] at c_15
        refine g_iinc (q := 39) dX1_passDoors_36 rfl ci_1 (by decide) rfl rfl ?_
        refine g_goto (t := 2) dX1_passDoors_39 (by decide) ?_
        (try simp only [hci] at c_15)
        exact g_eqw kk_i (by simp [lsub, hci, nI_succ, c_15]) (by simp [upc_upc, upc, s_pd, hci, c_15]) rfl
      · rw [bI_n0] at c_15
        simp [upc] at c_15
        refine g_aload_n (q := 19) dX1_passDoors_18 rfl rfl ?_
        refine g_aload_n (q := 20) dX1_passDoors_19 rfl rfl ?_
        refine f1_8 (q := 23) hh wd_160 dX1_passDoors_20 rfl ?_
        refine g_iload_n (q := 24) dX1_passDoors_23 rfl rfl ?_
        refine g_aldH (q := 25) (c := 1) hh (by decide) (by decide) (show vp_in _ 8 by first | ((with_reducible refine vp_in_nI ?_ ?_); (omega); (decide)) | (simp only [hci, upc_ne (show h + 1 ≠ h + 6 by omega), upc_ne (show h + 2 ≠ h + 6 by omega)]; first | exact (w.2.1 i (by omega)).1 | exact (w.2.1 i (by omega)).2)) dX1_passDoors_24 rfl ?_
        refine g_aload_n (q := 26) dX1_passDoors_25 rfl rfl ?_
        refine f1_9 (q := 29) hh wd_162 dX1_passDoors_26 rfl ?_
        refine g_iload_n (q := 30) dX1_passDoors_29 rfl rfl ?_
        refine g_aldH (q := 31) (c := 2) hh (by decide) (by decide) (show vp_in _ 8 by first | ((with_reducible refine vp_in_nI ?_ ?_); (omega); (decide)) | (simp only [hci, upc_ne (show h + 1 ≠ h + 6 by omega), upc_ne (show h + 2 ≠ h + 6 by omega)]; first | exact (w.2.1 i (by omega)).1 | exact (w.2.1 i (by omega)).2)) dX1_passDoors_30 rfl ?_
        refine g_iload_n (q := 32) dX1_passDoors_31 rfl rfl ?_
        refine g_iload_n (q := 33) dX1_passDoors_32 rfl rfl ?_
        refine g_callVv (q := 36) (c_X1_flow hE hh (by simp only [hci, upc_ne (show h + 1 ≠ h + 6 by omega), upc_ne (show h + 2 ≠ h + 6 by omega)]; first | exact (w.2.1 i (by omega)).1 | exact (w.2.1 i (by omega)).2) (by simp only [hci, upc_ne (show h + 1 ≠ h + 6 by omega), upc_ne (show h + 2 ≠ h + 6 by omega)]; first | exact (w.2.1 i (by omega)).1 | exact (w.2.1 i (by omega)).2)) lk_RX1_86 (Nat.zero_le _) (h_lt hh) hh (by decide) rfl rfl rfl rfl rfl rfl (Nat.le_of_ble_eq_true rfl) (Nat.le_of_ble_eq_true rfl) (Nat.le_of_ble_eq_true rfl) dX1_passDoors_33 rfl ?_
        refine g_iinc (q := 39) dX1_passDoors_36 rfl ci_1 (by decide) rfl rfl ?_
        refine g_goto (t := 2) dX1_passDoors_39 (by decide) ?_
        (try simp only [hci] at c_15)
        exact g_eqw kk_i (by simp [lsub, hci, nI_succ, c_15]) (by simp [upc_upc, upc, s_pd, hci, c_15]) rfl
  · refine g_iload_n (q := 3) dX1_passDoors_2 rfl rfl ?_
    refine g_aload_n (q := 4) dX1_passDoors_3 rfl rfl ?_
    refine f1_5 (q := 7) hh wd_150 dX1_passDoors_4 rfl ?_
    refine g_icmp_ge (t := 42) (q := 10) dX1_passDoors_7 (by decide) rfl (fun c_7 => ?_) (fun c_7 => ?_)
    · exact g_vret dX1_passDoors_42 (pv_i (by rfl) rfl)
    · exact absurd (lp_out (by simp only [upc_ne (show h ≠ h + 6 by omega)]; exact e5)) c_7
set_option maxRecDepth 20000 in
set_option maxHeartbeats 4000000 in
theorem c_X1_passSitters {E : EE} (hE : inj E 0 40) {h : Nat} (hh : kd h = 1) {σ : Sto} {τ : Stl}  (w : WFH σ h) : Ct E 0 40 yX1_passSitters cX1_passSitters 4 none { frames := 1, cells := 0, slots := 0, locals := 26 } [.ref (E.2.1 h)] σ τ (Pv (upc σ (h + 6) (s_ps (σ (h + 3)) (σ (h + 4)) (σ (h + 5)) (σ (h + 6)) ((σ h 7).toNatClampNeg))) (τ)) := by
  refine ct_of hE RX1 [some (.ref (E.2.1 h)), none, none, none] (by decide) rfl (Nat.le_of_ble_eq_true rfl) rfl (fun X => ?_)
  obtain ⟨⟨e0, b0⟩, ⟨e5, b5⟩, ⟨e7, b7⟩⟩ := wf_n w
  refine g_iconst (q := 1) dX1_passSitters_0 ci_0 rfl ?_
  refine g_istore_n (j := 1) (q := 2) dX1_passSitters_1 rfl (by decide) rfl rfl ?_
  refine g_for (I := fun i => [some (.ref (E.2.1 h)), some (.int (nI i)), none, none]) (S := fun i => upc σ (h + 6) (s_ps (σ (h + 3)) (σ (h + 4)) (σ (h + 5)) (σ (h + 6)) i)) (T := fun i => τ) (0) ((σ h 7).toNatClampNeg) (Nat.zero_le _) (by rfl) (by exact (upc_id _ _).symm) (by rfl) (fun i i0 i1 kk_i => ?_) ?_
  · have hci : (nI i).toNatClampNeg = i := nI_clamp (by omega)
    refine g_iload_n (q := 3) dX1_passSitters_2 rfl rfl ?_
    refine g_aload_n (q := 4) dX1_passSitters_3 rfl rfl ?_
    refine f1_7 (q := 7) hh wd_157 dX1_passSitters_4 rfl ?_
    refine g_icmp_ge (t := 63) (q := 10) dX1_passSitters_7 (by decide) rfl (fun c_7 => ?_) (fun c_7 => ?_)
    · exact absurd c_7 (lp_in (by simp only [upc_ne (show h ≠ h + 6 by omega)]; exact e7) (by omega) i1)
    · refine g_aload_n (q := 11) dX1_passSitters_10 rfl rfl ?_
      refine f1_11 (q := 14) hh wd_168 dX1_passSitters_11 rfl ?_
      refine g_iload_n (q := 15) dX1_passSitters_14 rfl rfl ?_
      refine g_aldH (q := 16) (c := 4) hh (by decide) (by decide) (show vp_in _ 5 by first | ((with_reducible refine vp_in_nI ?_ ?_); (omega); (decide)) | (simp only [hci, upc_ne (show h + 4 ≠ h + 6 by omega)]; exact (w.2.2 i (by omega)).2)) dX1_passSitters_15 rfl ?_
      refine g_istore_n (j := 2) (q := 17) dX1_passSitters_16 rfl (by decide) rfl rfl ?_
      refine g_aload_n (q := 18) dX1_passSitters_17 rfl rfl ?_
      refine f1_13 (q := 21) hh wd_176 dX1_passSitters_18 rfl ?_
      refine g_iload_n (q := 22) dX1_passSitters_21 rfl rfl ?_
      refine g_aldH (q := 23) (c := 6) hh (by decide) (by decide) (show vp_in _ 6 by first | ((with_reducible refine vp_in_nI ?_ ?_); (omega); (decide)) | (simp only [hci, upc_ne (show h + 4 ≠ h + 6 by omega)]; exact (w.2.2 i (by omega)).2)) dX1_passSitters_22 rfl ?_
      refine g_aload_n (q := 24) dX1_passSitters_23 rfl rfl ?_
      refine f1_10 (q := 27) hh wd_164 dX1_passSitters_24 rfl ?_
      refine g_iload_n (q := 28) dX1_passSitters_27 rfl rfl ?_
      refine g_aldH (q := 29) (c := 3) hh (by decide) (by decide) (show vp_in _ 5 by first | ((with_reducible refine vp_in_nI ?_ ?_); (omega); (decide)) | (simp only [hci, upc_ne (show h + 4 ≠ h + 6 by omega)]; exact (w.2.2 i (by omega)).2)) dX1_passSitters_28 rfl ?_
      refine g_aload_n (q := 30) dX1_passSitters_29 rfl rfl ?_
      refine f1_12 (q := 33) hh wd_173 dX1_passSitters_30 rfl ?_
      refine g_iload_n (q := 34) dX1_passSitters_33 rfl rfl ?_
      refine g_aldH (q := 35) (c := 5) hh (by decide) (by decide) (show vp_in _ 5 by first | ((with_reducible refine vp_in_nI ?_ ?_); (omega); (decide)) | (simp only [hci, upc_ne (show h + 4 ≠ h + 6 by omega)]; exact (w.2.2 i (by omega)).2)) dX1_passSitters_34 rfl ?_
      refine g_callSi (q := 38) (c_X1_chill hE ) lk_RX1_90 rfl rfl rfl rfl (Nat.le_of_ble_eq_true rfl) (Nat.le_of_ble_eq_true rfl) (Nat.le_of_ble_eq_true rfl) dX1_passSitters_35 rfl ?_
      refine g_iadd (q := 39) dX1_passSitters_38 rfl ?_
      refine g_istore_n (j := 3) (q := 40) dX1_passSitters_39 rfl (by decide) rfl rfl ?_
      refine g_aload_n (q := 41) dX1_passSitters_40 rfl rfl ?_
      refine f1_13 (q := 44) hh wd_176 dX1_passSitters_41 rfl ?_
      refine g_iload_n (q := 45) dX1_passSitters_44 rfl rfl ?_
      refine g_iconst (q := 46) dX1_passSitters_45 ci_0 rfl ?_
      refine g_sipush (q := 49) dX1_passSitters_46 cs_999 rfl ?_
      refine g_iload_n (q := 50) dX1_passSitters_49 rfl rfl ?_
      refine g_mmin (q := 53) wd_495 wd_496 wd_80 wd_497 (Nat.le_of_ble_eq_true rfl) (Nat.le_of_ble_eq_true rfl) dX1_passSitters_50 rfl ?_
      refine g_mmax (q := 56) wd_517 wd_518 wd_80 wd_519 (Nat.le_of_ble_eq_true rfl) (Nat.le_of_ble_eq_true rfl) dX1_passSitters_53 rfl ?_
      refine g_astH (q := 57) (c := 6) hh (by decide) (by decide) (show vp_in _ 6 by first | ((with_reducible refine vp_in_nI ?_ ?_); (omega); (decide)) | (simp only [hci, upc_ne (show h + 4 ≠ h + 6 by omega)]; exact (w.2.2 i (by omega)).2)) dX1_passSitters_56 rfl ?_
      refine g_iinc (q := 60) dX1_passSitters_57 rfl ci_1 (by decide) rfl rfl ?_
      refine g_goto (t := 2) dX1_passSitters_60 (by decide) ?_
      exact g_eqw kk_i (by simp [lsub, hci, nI_succ]) (by simp [upc_upc, upc, s_ps, clampC, hci]) rfl
  · refine g_iload_n (q := 3) dX1_passSitters_2 rfl rfl ?_
    refine g_aload_n (q := 4) dX1_passSitters_3 rfl rfl ?_
    refine f1_7 (q := 7) hh wd_157 dX1_passSitters_4 rfl ?_
    refine g_icmp_ge (t := 63) (q := 10) dX1_passSitters_7 (by decide) rfl (fun c_7 => ?_) (fun c_7 => ?_)
    · exact g_vret dX1_passSitters_63 (pv_i (by rfl) rfl)
    · exact absurd (lp_out (by simp only [upc_ne (show h ≠ h + 6 by omega)]; exact e7)) c_7
