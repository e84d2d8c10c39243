set_option maxRecDepth 20000 in
set_option maxHeartbeats 4000000 in
theorem c_X7_allCold {E : EE} (hE : inj E 40 13) {σ : Sto} {τ : Stl}  (w : WFM (σ 44)) : Ct E 40 13 yX7_allCold cX7_allCold 3 (some FieldType.int) { frames := 0, cells := 0, slots := 0, locals := 0 } [.ref (E.2.1 40)] σ τ (Pi (s_ac (fun r => σ 44 (7 + r)) ((σ 44 0).toNatClampNeg)) (σ) (τ)) := by
  refine ct_of hE RX7 [some (.ref (E.2.1 40)), none, none] (by decide) rfl (Nat.le_of_ble_eq_true rfl) rfl (fun X => ?_)
  obtain ⟨⟨e0, b0⟩, ⟨e1, b1⟩, ⟨e4, b4⟩, ⟨e5, b5⟩⟩ := wfm_n w
  refine g_iconst (q := 1) dX7_allCold_0 ci_0 rfl ?_
  refine g_istore_n (j := 1) (q := 2) dX7_allCold_1 rfl (by decide) rfl rfl ?_
  refine g_iconst (q := 3) dX7_allCold_2 ci_0 rfl ?_
  refine g_istore_n (j := 2) (q := 4) dX7_allCold_3 rfl (by decide) rfl rfl ?_
  refine g_for (I := fun i => [some (.ref (E.2.1 40)), some (.int (s_ac (fun r => σ 44 (7 + r)) i)), some (.int (nI i))]) (S := fun i => σ) (T := fun i => τ) (0) ((σ 44 0).toNatClampNeg) (Nat.zero_le _) (by rfl) (by rfl) (by rfl) (fun i i0 i1 kk_i => ?_) ?_
  · have hci : (nI i).toNatClampNeg = i := nI_clamp (by omega)
    refine g_iload_n (q := 5) dX7_allCold_4 rfl rfl ?_
    refine g_aload_n (q := 6) dX7_allCold_5 rfl rfl ?_
    refine f7_5 (q := 9) wd_853 dX7_allCold_6 rfl ?_
    refine g_iconst (q := 10) dX7_allCold_9 ci_0 rfl ?_
    refine g_ialdJ (q := 11) (k := 44) (j := 0) (N := 52) (by decide) (by decide) rfl rfl (by decide) (show (0 : Int32) = nI 0 from rfl) (by omega) dX7_allCold_10 rfl ?_
    refine g_icmp_ge (t := 32) (q := 14) dX7_allCold_11 (by decide) rfl (fun c_11 => ?_) (fun c_11 => ?_)
    · exact absurd c_11 (lp_in (by exact e0) (by omega) i1)
    · refine g_iload_n (q := 15) dX7_allCold_14 rfl rfl ?_
      refine g_aload_n (q := 16) dX7_allCold_15 rfl rfl ?_
      refine f7_5 (q := 19) wd_853 dX7_allCold_16 rfl ?_
      refine g_bipush (q := 21) dX7_allCold_19 cb_7 rfl ?_
      refine g_iload_n (q := 22) dX7_allCold_21 rfl rfl ?_
      refine g_iadd (q := 23) dX7_allCold_22 rfl ?_
      refine g_ialdJ (q := 24) (k := 44) (j := (7 + i)) (N := 52) (by decide) (by decide) rfl rfl (by decide) (ad2 (show (7 : Int32) = nI 7 from rfl) rfl) (by omega) dX7_allCold_23 rfl ?_
      refine g_iadd (q := 25) dX7_allCold_24 rfl ?_
      refine g_istore_n (j := 1) (q := 26) dX7_allCold_25 rfl (by decide) rfl rfl ?_
      refine g_iinc (q := 29) dX7_allCold_26 rfl ci_1 (by decide) rfl rfl ?_
      refine g_goto (t := 4) dX7_allCold_29 (by decide) ?_
      exact g_eqw kk_i (by simp [lsub, s_ac, hci, nI_succ]) (by rfl) rfl
  · refine g_iload_n (q := 5) dX7_allCold_4 rfl rfl ?_
    refine g_aload_n (q := 6) dX7_allCold_5 rfl rfl ?_
    refine f7_5 (q := 9) wd_853 dX7_allCold_6 rfl ?_
    refine g_iconst (q := 10) dX7_allCold_9 ci_0 rfl ?_
    refine g_ialdJ (q := 11) (k := 44) (j := 0) (N := 52) (by decide) (by decide) rfl rfl (by decide) (show (0 : Int32) = nI 0 from rfl) (by omega) dX7_allCold_10 rfl ?_
    refine g_icmp_ge (t := 32) (q := 14) dX7_allCold_11 (by decide) rfl (fun c_11 => ?_) (fun c_11 => ?_)
    · refine g_iload_n (q := 33) dX7_allCold_32 rfl rfl ?_
      exact g_iret dX7_allCold_33 (pi_i (by rfl) (by rfl) rfl)
    · exact absurd (lp_out (by exact e0)) c_11
set_option maxRecDepth 20000 in
set_option maxHeartbeats 4000000 in
theorem c_X7_isDoor {E : EE} (hE : inj E 40 13) {σ : Sto} {τ : Stl} {v : Int32}  : Ct E 40 13 yX7_isDoor cX7_isDoor 2 (some FieldType.boolean) { frames := 1, cells := 0, slots := 0, locals := 25 } [.ref (E.2.1 40), .int v] σ τ (Pi (bI (wi v 0 (σ 44 4 - 1))) (σ) (τ)) := by
  refine ct_of hE RX7 [some (.ref (E.2.1 40)), some (.int v)] (by decide) rfl (Nat.le_of_ble_eq_true rfl) rfl (fun X => ?_)
  refine g_iload_n (q := 1) dX7_isDoor_0 rfl rfl ?_
  refine g_i2l (q := 2) dX7_isDoor_1 rfl ?_
  refine g_lconst (q := 3) dX7_isDoor_2 cl_0 rfl ?_
  refine g_aload_n (q := 4) dX7_isDoor_3 rfl rfl ?_
  refine f7_5 (q := 7) wd_853 dX7_isDoor_4 rfl ?_
  refine g_iconst (q := 8) dX7_isDoor_7 ci_4 rfl ?_
  refine g_ialdJ (q := 9) (k := 44) (j := 4) (N := 52) (by decide) (by decide) rfl rfl (by decide) (show (4 : Int32) = nI 4 from rfl) (by omega) dX7_isDoor_8 rfl ?_
  refine g_iconst (q := 10) dX7_isDoor_9 ci_1 rfl ?_
  refine g_isub (q := 11) dX7_isDoor_10 rfl ?_
  refine g_i2l (q := 12) dX7_isDoor_11 rfl ?_
  refine g_callSi (q := 15) (c_X7_in hE ) lk_RX7_54 rfl rfl rfl rfl (Nat.le_of_ble_eq_true rfl) (Nat.le_of_ble_eq_true rfl) (Nat.le_of_ble_eq_true rfl) dX7_isDoor_12 rfl ?_
  exact g_zret dX7_isDoor_15 (by first | decide | exact bI_nar _) (pi_i (by rw [← inL_i]; rfl) (by rfl) rfl)
set_option maxRecDepth 20000 in
set_option maxHeartbeats 4000000 in
theorem c_X7_isRoom {E : EE} (hE : inj E 40 13) {σ : Sto} {τ : Stl} {v : Int32}  : Ct E 40 13 yX7_isRoom cX7_isRoom 2 (some FieldType.boolean) { frames := 1, cells := 0, slots := 0, locals := 25 } [.ref (E.2.1 40), .int v] σ τ (Pi (bI (wi v 0 (σ 44 0 - 1))) (σ) (τ)) := by
  refine ct_of hE RX7 [some (.ref (E.2.1 40)), some (.int v)] (by decide) rfl (Nat.le_of_ble_eq_true rfl) rfl (fun X => ?_)
  refine g_iload_n (q := 1) dX7_isRoom_0 rfl rfl ?_
  refine g_i2l (q := 2) dX7_isRoom_1 rfl ?_
  refine g_lconst (q := 3) dX7_isRoom_2 cl_0 rfl ?_
  refine g_aload_n (q := 4) dX7_isRoom_3 rfl rfl ?_
  refine f7_5 (q := 7) wd_853 dX7_isRoom_4 rfl ?_
  refine g_iconst (q := 8) dX7_isRoom_7 ci_0 rfl ?_
  refine g_ialdJ (q := 9) (k := 44) (j := 0) (N := 52) (by decide) (by decide) rfl rfl (by decide) (show (0 : Int32) = nI 0 from rfl) (by omega) dX7_isRoom_8 rfl ?_
  refine g_iconst (q := 10) dX7_isRoom_9 ci_1 rfl ?_
  refine g_isub (q := 11) dX7_isRoom_10 rfl ?_
  refine g_i2l (q := 12) dX7_isRoom_11 rfl ?_
  refine g_callSi (q := 15) (c_X7_in hE ) lk_RX7_54 rfl rfl rfl rfl (Nat.le_of_ble_eq_true rfl) (Nat.le_of_ble_eq_true rfl) (Nat.le_of_ble_eq_true rfl) dX7_isRoom_12 rfl ?_
  exact g_zret dX7_isRoom_15 (by first | decide | exact bI_nar _) (pi_i (by rw [← inL_i]; rfl) (by rfl) rfl)
set_option maxRecDepth 20000 in
set_option maxHeartbeats 4000000 in
theorem c_X7_isSitter {E : EE} (hE : inj E 40 13) {σ : Sto} {τ : Stl} {v : Int32}  : Ct E 40 13 yX7_isSitter cX7_isSitter 2 (some FieldType.boolean) { frames := 1, cells := 0, slots := 0, locals := 25 } [.ref (E.2.1 40), .int v] σ τ (Pi (bI (wi v 0 (σ 44 5 - 1))) (σ) (τ)) := by
  refine ct_of hE RX7 [some (.ref (E.2.1 40)), some (.int v)] (by decide) rfl (Nat.le_of_ble_eq_true rfl) rfl (fun X => ?_)
  refine g_iload_n (q := 1) dX7_isSitter_0 rfl rfl ?_
  refine g_i2l (q := 2) dX7_isSitter_1 rfl ?_
  refine g_lconst (q := 3) dX7_isSitter_2 cl_0 rfl ?_
  refine g_aload_n (q := 4) dX7_isSitter_3 rfl rfl ?_
  refine f7_5 (q := 7) wd_853 dX7_isSitter_4 rfl ?_
  refine g_iconst (q := 8) dX7_isSitter_7 ci_5 rfl ?_
  refine g_ialdJ (q := 9) (k := 44) (j := 5) (N := 52) (by decide) (by decide) rfl rfl (by decide) (show (5 : Int32) = nI 5 from rfl) (by omega) dX7_isSitter_8 rfl ?_
  refine g_iconst (q := 10) dX7_isSitter_9 ci_1 rfl ?_
  refine g_isub (q := 11) dX7_isSitter_10 rfl ?_
  refine g_i2l (q := 12) dX7_isSitter_11 rfl ?_
  refine g_callSi (q := 15) (c_X7_in hE ) lk_RX7_54 rfl rfl rfl rfl (Nat.le_of_ble_eq_true rfl) (Nat.le_of_ble_eq_true rfl) (Nat.le_of_ble_eq_true rfl) dX7_isSitter_12 rfl ?_
  exact g_zret dX7_isSitter_15 (by first | decide | exact bI_nar _) (pi_i (by rw [← inL_i]; rfl) (by rfl) rfl)
set_option maxRecDepth 20000 in
set_option maxHeartbeats 4000000 in
theorem c_X7_areRooms {E : EE} (hE : inj E 40 13) {σ : Sto} {τ : Stl} {v : Int32}  : Ct E 40 13 yX7_areRooms cX7_areRooms 2 (some FieldType.boolean) { frames := 1, cells := 0, slots := 0, locals := 25 } [.ref (E.2.1 40), .int v] σ τ (Pi (bI (wi v 0 ((1 <<< (σ 44 0 &&& 31)) - 1))) (σ) (τ)) := by
  refine ct_of hE RX7 [some (.ref (E.2.1 40)), some (.int v)] (by decide) rfl (Nat.le_of_ble_eq_true rfl) rfl (fun X => ?_)
  refine g_iload_n (q := 1) dX7_areRooms_0 rfl rfl ?_
  refine g_i2l (q := 2) dX7_areRooms_1 rfl ?_
  refine g_lconst (q := 3) dX7_areRooms_2 cl_0 rfl ?_
  refine g_iconst (q := 4) dX7_areRooms_3 ci_1 rfl ?_
  refine g_aload_n (q := 5) dX7_areRooms_4 rfl rfl ?_
  refine f7_5 (q := 8) wd_853 dX7_areRooms_5 rfl ?_
  refine g_iconst (q := 9) dX7_areRooms_8 ci_0 rfl ?_
  refine g_ialdJ (q := 10) (k := 44) (j := 0) (N := 52) (by decide) (by decide) rfl rfl (by decide) (show (0 : Int32) = nI 0 from rfl) (by omega) dX7_areRooms_9 rfl ?_
  refine g_ishl (q := 11) dX7_areRooms_10 rfl ?_
  refine g_iconst (q := 12) dX7_areRooms_11 ci_1 rfl ?_
  refine g_isub (q := 13) dX7_areRooms_12 rfl ?_
  refine g_i2l (q := 14) dX7_areRooms_13 rfl ?_
  refine g_callSi (q := 17) (c_X7_in hE ) lk_RX7_54 rfl rfl rfl rfl (Nat.le_of_ble_eq_true rfl) (Nat.le_of_ble_eq_true rfl) (Nat.le_of_ble_eq_true rfl) dX7_areRooms_14 rfl ?_
  exact g_zret dX7_areRooms_17 (by first | decide | exact bI_nar _) (pi_i (by rw [← inL_i]; rfl) (by rfl) rfl)
def s_opM (m : Nat → Int32) : Nat → Int32
  | 0 => 0
  | d + 1 => s_opM m d ||| (m (29 + d) <<< (nI d &&& 31))
def s_crM (m : Nat → Int32) (t : Int32) : Nat → Int32
  | 0 => 0
  | r + 1 => s_crM m t r ||| (if m (7 + r) < t then (0 : Int32) else 1 <<< (nI r &&& 31))
def q_tu (m : Nat → Int32) (s : Int32) : Nat → (Nat → Int32)
  | 0 => m
  | d + 1 => upd (q_tu m s d) (29 + d) (if ((s >>> (nI d &&& 31)) &&& 1 == 1) = true then 1 - q_tu m s d (29 + d) else q_tu m s d (29 + d))
def q_hrs (m : Nat → Int32) : Nat → (Nat → Int32)
  | 0 => m
  | n + 1 => q_hour (q_hrs m n)
theorem wfm_hrs {m : Nat → Int32} (w : WFM m) (n : Nat) : WFM (q_hrs m n) := by
  induction n with
  | zero => exact w
  | succ n ih => exact wfm_hour ih
def cldM (m : Nat → Int32) (i : Nat) : Bool := decide (m 3 < m (7 + (m (42 + i)).toNatClampNeg))
def fsM (m : Nat → Int32) : Int32 := s_fs (cldM m) 0 ((m 5).toNatClampNeg)
theorem ag_tu (m : Nat → Int32) (s : Int32) : ∀ d, ∀ j, ¬ (29 ≤ j ∧ j < 29 + d) → q_tu m s d j = m j := by
  intro d
  induction d with
  | zero => intro j _; rfl
  | succ d ih =>
    intro j hj
    show upd (q_tu m s d) (29 + d) _ j = m j
    rw [upd_ne (by omega)]
    exact ih j (by omega)
theorem wfm_tu {m : Nat → Int32} (w : WFM m) (s : Int32) (d : Nat) (hd : d ≤ 8) : WFM (q_tu m s d) := by
  unfold WFM
  rw [ag_tu m s d 0 (by omega), ag_tu m s d 1 (by omega), ag_tu m s d 4 (by omega), ag_tu m s d 5 (by omega)]
  refine ⟨w.1, fun i hi => ?_, fun i hi => ?_⟩
  · rw [ag_tu m s d (13 + i) (by omega), ag_tu m s d (21 + i) (by omega)]; exact w.2.1 i hi
  · rw [ag_tu m s d (42 + i) (by omega)]; exact w.2.2 i hi
set_option maxRecDepth 20000 in
set_option maxHeartbeats 4000000 in
theorem c_X7_openDoors {E : EE} (hE : inj E 40 13) {σ : Sto} {τ : Stl}  (w : WFM (σ 44)) : Ct E 40 13 yX7_openDoors cX7_openDoors 3 (some FieldType.int) { frames := 0, cells := 0, slots := 0, locals := 0 } [.ref (E.2.1 40)] σ τ (Pi (s_opM (σ 44) ((σ 44 4).toNatClampNeg)) (σ) (τ)) := by
  refine ct_of hE RX7 [some (.ref (E.2.1 40)), none, none] (by decide) rfl (Nat.le_of_ble_eq_true rfl) rfl (fun X => ?_)
  obtain ⟨⟨e0, b0⟩, ⟨e1, b1⟩, ⟨e4, b4⟩, ⟨e5, b5⟩⟩ := wfm_n w
  refine g_iconst (q := 1) dX7_openDoors_0 ci_0 rfl ?_
  refine g_istore_n (j := 1) (q := 2) dX7_openDoors_1 rfl (by decide) rfl rfl ?_
  refine g_iconst (q := 3) dX7_openDoors_2 ci_0 rfl ?_
  refine g_istore_n (j := 2) (q := 4) dX7_openDoors_3 rfl (by decide) rfl rfl ?_
  refine g_for (I := fun i => [some (.ref (E.2.1 40)), some (.int (s_opM (σ 44) i)), some (.int (nI i))]) (S := fun i => σ) (T := fun i => τ) (0) ((σ 44 4).toNatClampNeg) (Nat.zero_le _) (by rfl) (by rfl) (by rfl) (fun i i0 i1 kk_i => ?_) ?_
  · have hci : (nI i).toNatClampNeg = i := nI_clamp (by omega)
    refine g_iload_n (q := 5) dX7_openDoors_4 rfl rfl ?_
    refine g_aload_n (q := 6) dX7_openDoors_5 rfl rfl ?_
    refine f7_5 (q := 9) wd_853 dX7_openDoors_6 rfl ?_
    refine g_iconst (q := 10) dX7_openDoors_9 ci_4 rfl ?_
    refine g_ialdJ (q := 11) (k := 44) (j := 4) (N := 52) (by decide) (by decide) rfl rfl (by decide) (show (4 : Int32) = nI 4 from rfl) (by omega) dX7_openDoors_10 rfl ?_
    refine g_icmp_ge (t := 34) (q := 14) dX7_openDoors_11 (by decide) rfl (fun c_11 => ?_) (fun c_11 => ?_)
    · exact absurd c_11 (lp_in (by exact e4) (by omega) i1)
    · refine g_iload_n (q := 15) dX7_openDoors_14 rfl rfl ?_
      refine g_aload_n (q := 16) dX7_openDoors_15 rfl rfl ?_
      refine f7_5 (q := 19) wd_853 dX7_openDoors_16 rfl ?_
      refine g_bipush (q := 21) dX7_openDoors_19 cb_29 rfl ?_
      refine g_iload_n (q := 22) dX7_openDoors_21 rfl rfl ?_
      refine g_iadd (q := 23) dX7_openDoors_22 rfl ?_
      refine g_ialdJ (q := 24) (k := 44) (j := (29 + i)) (N := 52) (by decide) (by decide) rfl rfl (by decide) (ad2 (show (29 : Int32) = nI 29 from rfl) rfl) (by omega) dX7_openDoors_23 rfl ?_
      refine g_iload_n (q := 25) dX7_openDoors_24 rfl rfl ?_
      refine g_ishl (q := 26) dX7_openDoors_25 rfl ?_
      refine g_ior (q := 27) dX7_openDoors_26 rfl ?_
      refine g_istore_n (j := 1) (q := 28) dX7_openDoors_27 rfl (by decide) rfl rfl ?_
      refine g_iinc (q := 31) dX7_openDoors_28 rfl ci_1 (by decide) rfl rfl ?_
      refine g_goto (t := 4) dX7_openDoors_31 (by decide) ?_
      exact g_eqw kk_i (by simp [lsub, s_opM, hci, nI_succ]) (by rfl) rfl
  · refine g_iload_n (q := 5) dX7_openDoors_4 rfl rfl ?_
    refine g_aload_n (q := 6) dX7_openDoors_5 rfl rfl ?_
    refine f7_5 (q := 9) wd_853 dX7_openDoors_6 rfl ?_
    refine g_iconst (q := 10) dX7_openDoors_9 ci_4 rfl ?_
    refine g_ialdJ (q := 11) (k := 44) (j := 4) (N := 52) (by decide) (by decide) rfl rfl (by decide) (show (4 : Int32) = nI 4 from rfl) (by omega) dX7_openDoors_10 rfl ?_
    refine g_icmp_ge (t := 34) (q := 14) dX7_openDoors_11 (by decide) rfl (fun c_11 => ?_) (fun c_11 => ?_)
    · refine g_iload_n (q := 35) dX7_openDoors_34 rfl rfl ?_
      exact g_iret dX7_openDoors_35 (pi_i (by rfl) (by rfl) rfl)
    · exact absurd (lp_out (by exact e4)) c_11
set_option maxRecDepth 20000 in
set_option maxHeartbeats 4000000 in
theorem c_X7_coldRooms {E : EE} (hE : inj E 40 13) {σ : Sto} {τ : Stl} {t : Int32} (w : WFM (σ 44)) : Ct E 40 13 yX7_coldRooms cX7_coldRooms 4 (some FieldType.int) { frames := 0, cells := 0, slots := 0, locals := 0 } [.ref (E.2.1 40), .int t] σ τ (Pi (s_crM (σ 44) t ((σ 44 0).toNatClampNeg)) (σ) (τ)) := by
  refine ct_of hE RX7 [some (.ref (E.2.1 40)), some (.int t), none, none] (by decide) rfl (Nat.le_of_ble_eq_true rfl) rfl (fun X => ?_)
  obtain ⟨⟨e0, b0⟩, ⟨e1, b1⟩, ⟨e4, b4⟩, ⟨e5, b5⟩⟩ := wfm_n w
  refine g_iconst (q := 1) dX7_coldRooms_0 ci_0 rfl ?_
  refine g_istore_n (j := 2) (q := 2) dX7_coldRooms_1 rfl (by decide) rfl rfl ?_
  refine g_iconst (q := 3) dX7_coldRooms_2 ci_0 rfl ?_
  refine g_istore_n (j := 3) (q := 4) dX7_coldRooms_3 rfl (by decide) rfl rfl ?_
  refine g_for (I := fun i => [some (.ref (E.2.1 40)), some (.int t), some (.int (s_crM (σ 44) t i)), some (.int (nI i))]) (S := fun i => σ) (T := fun i => τ) (0) ((σ 44 0).toNatClampNeg) (Nat.zero_le _) (by rfl) (by rfl) (by rfl) (fun i i0 i1 kk_i => ?_) ?_
  · have hci : (nI i).toNatClampNeg = i := nI_clamp (by omega)
    refine g_iload_n (q := 5) dX7_coldRooms_4 rfl rfl ?_
    refine g_aload_n (q := 6) dX7_coldRooms_5 rfl rfl ?_
    refine f7_5 (q := 9) wd_853 dX7_coldRooms_6 rfl ?_
    refine g_iconst (q := 10) dX7_coldRooms_9 ci_0 rfl ?_
    refine g_ialdJ (q := 11) (k := 44) (j := 0) (N := 52) (by decide) (by decide) rfl rfl (by decide) (show (0 : Int32) = nI 0 from rfl) (by omega) dX7_coldRooms_10 rfl ?_
    refine g_icmp_ge (t := 43) (q := 14) dX7_coldRooms_11 (by decide) rfl (fun c_11 => ?_) (fun c_11 => ?_)
    · exact absurd c_11 (lp_in (by exact e0) (by omega) i1)
    · refine g_iload_n (q := 15) dX7_coldRooms_14 rfl rfl ?_
      refine g_aload_n (q := 16) dX7_coldRooms_15 rfl rfl ?_
      refine f7_5 (q := 19) wd_853 dX7_coldRooms_16 rfl ?_
      refine g_bipush (q := 21) dX7_coldRooms_19 cb_7 rfl ?_
      refine g_iload_n (q := 22) dX7_coldRooms_21 rfl rfl ?_
      refine g_iadd (q := 23) dX7_coldRooms_22 rfl ?_
      refine g_ialdJ (q := 24) (k := 44) (j := (7 + i)) (N := 52) (by decide) (by decide) rfl rfl (by decide) (ad2 (show (7 : Int32) = nI 7 from rfl) rfl) (by omega) dX7_coldRooms_23 rfl ?_
      refine g_iload_n (q := 25) dX7_coldRooms_24 rfl rfl ?_
      refine g_icmp_lt (t := 34) (q := 28) dX7_coldRooms_25 (by decide) rfl (fun c_25 => ?_) (fun c_25 => ?_)
      · refine g_iconst (q := 35) dX7_coldRooms_34 ci_0 rfl ?_
        refine g_ior (q := 36) dX7_coldRooms_35 rfl ?_
        refine g_istore_n (j := 2) (q := 37) dX7_coldRooms_36 rfl (by decide) rfl rfl ?_
        refine g_iinc (q := 40) dX7_coldRooms_37 rfl ci_1 (by decide) rfl rfl ?_
        refine g_goto (t := 4) dX7_coldRooms_40 (by decide) ?_
        exact g_eqw kk_i (by first | (simp [lsub, s_crM, nI_succ, if_pos c_25]; done) | (simp [lsub, s_crM, nI_succ, if_neg c_25]; done)) rfl rfl
      · refine g_iconst (q := 29) dX7_coldRooms_28 ci_1 rfl ?_
        refine g_iload_n (q := 30) dX7_coldRooms_29 rfl rfl ?_
        refine g_ishl (q := 31) dX7_coldRooms_30 rfl ?_
        refine g_goto (t := 35) dX7_coldRooms_31 (by decide) ?_
        refine g_ior (q := 36) dX7_coldRooms_35 rfl ?_
        refine g_istore_n (j := 2) (q := 37) dX7_coldRooms_36 rfl (by decide) rfl rfl ?_
        refine g_iinc (q := 40) dX7_coldRooms_37 rfl ci_1 (by decide) rfl rfl ?_
        refine g_goto (t := 4) dX7_coldRooms_40 (by decide) ?_
        exact g_eqw kk_i (by first | (simp [lsub, s_crM, nI_succ, if_pos c_25]; done) | (simp [lsub, s_crM, nI_succ, if_neg c_25]; done)) rfl rfl
  · refine g_iload_n (q := 5) dX7_coldRooms_4 rfl rfl ?_
    refine g_aload_n (q := 6) dX7_coldRooms_5 rfl rfl ?_
    refine f7_5 (q := 9) wd_853 dX7_coldRooms_6 rfl ?_
    refine g_iconst (q := 10) dX7_coldRooms_9 ci_0 rfl ?_
    refine g_ialdJ (q := 11) (k := 44) (j := 0) (N := 52) (by decide) (by decide) rfl rfl (by decide) (show (0 : Int32) = nI 0 from rfl) (by omega) dX7_coldRooms_10 rfl ?_
    refine g_icmp_ge (t := 43) (q := 14) dX7_coldRooms_11 (by decide) rfl (fun c_11 => ?_) (fun c_11 => ?_)
    · refine g_iload_n (q := 44) dX7_coldRooms_43 rfl rfl ?_
      exact g_iret dX7_coldRooms_44 (pi_i (by rfl) (by rfl) rfl)
    · exact absurd (lp_out (by exact e0)) c_11
set_option maxRecDepth 20000 in
set_option maxHeartbeats 4000000 in
theorem c_X7_isCold {E : EE} (hE : inj E 40 13) {σ : Sto} {τ : Stl} {i : Nat} (w : WFM (σ 44)) (hi : i < 5) : Ct E 40 13 yX7_isCold cX7_isCold 2 (some FieldType.boolean) { frames := 0, cells := 0, slots := 0, locals := 0 } [.ref (E.2.1 40), .int (nI i)] σ τ (Pi (bI (cldM (σ 44) i)) (σ) (τ)) := by
  refine ct_of hE RX7 [some (.ref (E.2.1 40)), some (.int (nI i))] (by decide) rfl (Nat.le_of_ble_eq_true rfl) rfl (fun X => ?_)
  have ep := vp_to (w.2.2 i hi) (by decide)
  refine g_aload_n (q := 1) dX7_isCold_0 rfl rfl ?_
  refine f7_5 (q := 4) wd_853 dX7_isCold_1 rfl ?_
  refine g_bipush (q := 6) dX7_isCold_4 cb_7 rfl ?_
  refine g_aload_n (q := 7) dX7_isCold_6 rfl rfl ?_
  refine f7_5 (q := 10) wd_853 dX7_isCold_7 rfl ?_
  refine g_bipush (q := 12) dX7_isCold_10 cb_42 rfl ?_
  refine g_iload_n (q := 13) dX7_isCold_12 rfl rfl ?_
  refine g_iadd (q := 14) dX7_isCold_13 rfl ?_
  refine g_ialdJ (q := 15) (k := 44) (j := (42 + i)) (N := 52) (by decide) (by decide) rfl rfl (by decide) (ad2 (show (42 : Int32) = nI 42 from rfl) rfl) (by omega) dX7_isCold_14 rfl ?_
  refine g_iadd (q := 16) dX7_isCold_15 rfl ?_
  refine g_ialdJ (q := 17) (k := 44) (j := (7 + (σ 44 (42 + i)).toNatClampNeg)) (N := 52) (by decide) (by decide) rfl rfl (by decide) (ad2 (show (7 : Int32) = nI 7 from rfl) ep.1) (by omega) dX7_isCold_16 rfl ?_
  refine g_aload_n (q := 18) dX7_isCold_17 rfl rfl ?_
  refine f7_5 (q := 21) wd_853 dX7_isCold_18 rfl ?_
  refine g_iconst (q := 22) dX7_isCold_21 ci_3 rfl ?_
  refine g_ialdJ (q := 23) (k := 44) (j := 3) (N := 52) (by decide) (by decide) rfl rfl (by decide) (show (3 : Int32) = nI 3 from rfl) (by omega) dX7_isCold_22 rfl ?_
  refine g_icmp_le (t := 30) (q := 26) dX7_isCold_23 (by decide) rfl (fun c_23 => ?_) (fun c_23 => ?_)
  · refine g_iconst (q := 31) dX7_isCold_30 ci_0 rfl ?_
    exact g_zret dX7_isCold_31 (by first | decide | exact bI_nar _) (pi_i (by grind [cldM, bI]) (by rfl) rfl)
  · refine g_iconst (q := 27) dX7_isCold_26 ci_1 rfl ?_
    refine g_goto (t := 31) dX7_isCold_27 (by decide) ?_
    exact g_zret dX7_isCold_31 (by first | decide | exact bI_nar _) (pi_i (by grind [cldM, bI]) (by rfl) rfl)
set_option maxRecDepth 20000 in
set_option maxHeartbeats 4000000 in
theorem c_X7_firstCold {E : EE} (hE : inj E 40 13) {σ : Sto} {τ : Stl}  (w : WFM (σ 44)) : Ct E 40 13 yX7_firstCold cX7_firstCold 2 (some FieldType.int) { frames := 1, cells := 0, slots := 0, locals := 21 } [.ref (E.2.1 40)] σ τ (Pi (fsM (σ 44)) (σ) (τ)) := by
  refine ct_of hE RX7 [some (.ref (E.2.1 40)), none] (by decide) rfl (Nat.le_of_ble_eq_true rfl) rfl (fun X => ?_)
  obtain ⟨⟨e0, b0⟩, ⟨e1, b1⟩, ⟨e4, b4⟩, ⟨e5, b5⟩⟩ := wfm_n w
  refine g_iconst (q := 1) dX7_firstCold_0 ci_0 rfl ?_
  refine g_istore_n (j := 1) (q := 2) dX7_firstCold_1 rfl (by decide) rfl rfl ?_
  have key : ∀ m i, i + m = (σ 44 5).toNatClampNeg → s_fs (cldM (σ 44)) i m = fsM (σ 44) → G E 40 13 { frames := 1, cells := 0, slots := 0, locals := 21 } X cX7_firstCold RX7 2 (some FieldType.int) (Pi (fsM (σ 44)) σ τ) 2 [some (.ref (E.2.1 40)), some (.int (nI i))] [] (σ) τ := by
    intro m
    induction m with
    | zero =>
      intro i hi hr
      refine g_iload_n (q := 3) dX7_firstCold_2 rfl rfl ?_
      refine g_aload_n (q := 4) dX7_firstCold_3 rfl rfl ?_
      refine f7_5 (q := 7) wd_853 dX7_firstCold_4 rfl ?_
      refine g_iconst (q := 8) dX7_firstCold_7 ci_5 rfl ?_
      refine g_ialdJ (q := 9) (k := 44) (j := 5) (N := 52) (by decide) (by decide) rfl rfl (by decide) (show (5 : Int32) = nI 5 from rfl) (by omega) dX7_firstCold_8 rfl ?_
      refine g_icmp_ge (t := 28) (q := 12) dX7_firstCold_9 (by decide) rfl (fun c_9 => ?_) (fun c_9 => ?_)
      · refine g_iconst (q := 29) dX7_firstCold_28 ci_m1 rfl ?_
        exact g_iret dX7_firstCold_29 (pi_i (by exact hr) (by rfl) rfl)
      · exact absurd (by rw [show i = (σ 44 5).toNatClampNeg by omega]; exact lp_out e5) c_9
    | succ m ih =>
      intro i hi hr
      refine g_iload_n (q := 3) dX7_firstCold_2 rfl rfl ?_
      refine g_aload_n (q := 4) dX7_firstCold_3 rfl rfl ?_
      refine f7_5 (q := 7) wd_853 dX7_firstCold_4 rfl ?_
      refine g_iconst (q := 8) dX7_firstCold_7 ci_5 rfl ?_
      refine g_ialdJ (q := 9) (k := 44) (j := 5) (N := 52) (by decide) (by decide) rfl rfl (by decide) (show (5 : Int32) = nI 5 from rfl) (by omega) dX7_firstCold_8 rfl ?_
      refine g_icmp_ge (t := 28) (q := 12) dX7_firstCold_9 (by decide) rfl (fun c_9 => ?_) (fun c_9 => ?_)
      · exact absurd c_9 (lp_in e5 (by omega) (by omega))
      · refine g_aload_n (q := 13) dX7_firstCold_12 rfl rfl ?_
        refine g_iload_n (q := 14) dX7_firstCold_13 rfl rfl ?_
        refine g_callVi (q := 17) (c_X7_isCold hE w (by omega)) lk_RX7_180 (by decide) (by decide) rfl (by decide) rfl rfl rfl rfl rfl rfl (Nat.le_of_ble_eq_true rfl) (Nat.le_of_ble_eq_true rfl) (Nat.le_of_ble_eq_true rfl) dX7_firstCold_14 rfl ?_
        refine g_if_eq (t := 22) (q := 20) dX7_firstCold_17 (by decide) rfl (fun c_17 => ?_) (fun c_17 => ?_)
        · rw [bI_0] at c_17
          refine g_iinc (q := 25) dX7_firstCold_22 rfl ci_1 (by decide) rfl rfl ?_
          refine g_goto (t := 2) dX7_firstCold_25 (by decide) ?_
          exact g_eqw (ih (i + 1) (by omega) (by rw [← hr]; simp only [s_fs]; rw [if_neg (by rw [c_17]; exact Bool.false_ne_true)])) (by simp [lsub, nI_succ]) rfl rfl
        · rw [bI_n0] at c_17
          refine g_iload_n (q := 21) dX7_firstCold_20 rfl rfl ?_
          exact g_iret dX7_firstCold_21 (pi_i (by rw [← hr]; simp only [s_fs]; rw [if_pos c_17]) (by rfl) rfl)
  exact key _ 0 (by omega) rfl
theorem cp_eqv {σ : Sto} {a b : Nat} (ha : ln a = 52 := by rfl) (hk : ¬ kd a = 1 := by decide) : eqv (upc σ a (cpF (σ b) (σ a) 0 52)) (upc σ a (σ b)) := by
  intro k j hj
  by_cases h : k = a
  · subst h
    rw [upc_same, upc_same]
    unfold cpF
    have : j < 52 := by
      unfold lu at hj
      rw [if_neg hk, ha] at hj
      exact hj
    rw [if_pos this, Nat.zero_add]
  · rw [upc_ne h, upc_ne h]
set_option maxRecDepth 20000 in
set_option maxHeartbeats 4000000 in
theorem c_X7_putAside {E : EE} (hE : inj E 40 13) {σ : Sto} {τ : Stl}   : Ct E 40 13 yX7_putAside cX7_putAside 2 none { frames := 0, cells := 0, slots := 0, locals := 0 } [.ref (E.2.1 40)] σ τ (Pv (upc σ 49 (σ 44)) (τ)) := by
  refine ct_of hE RX7 [some (.ref (E.2.1 40)), none] (by decide) rfl (Nat.le_of_ble_eq_true rfl) rfl (fun X => ?_)
  refine g_iconst (q := 1) dX7_putAside_0 ci_0 rfl ?_
  refine g_istore_n (j := 1) (q := 2) dX7_putAside_1 rfl (by decide) rfl rfl ?_
  refine g_for (I := fun i => [some (.ref (E.2.1 40)), some (.int (nI i))]) (S := fun i => upc σ 49 (cpF (σ 44) (σ 49) 0 i)) (T := fun i => τ) (0) (52) (Nat.zero_le _) (by rfl) (by rw [cpF_0]; exact (upc_id _ _).symm) (by rfl) (fun i i0 i1 kk_i => ?_) ?_
  · have hci : (nI i).toNatClampNeg = i := nI_clamp (by omega)
    refine g_iload_n (q := 3) dX7_putAside_2 rfl rfl ?_
    refine g_bipush (q := 5) dX7_putAside_3 cb_52 rfl ?_
    refine g_icmp_ge (t := 26) (q := 8) dX7_putAside_5 (by decide) rfl (fun c_5 => ?_) (fun c_5 => ?_)
    · exact absurd c_5 (lp_in (by rfl) (by omega) i1)
    · refine g_aload_n (q := 9) dX7_putAside_8 rfl rfl ?_
      refine f7_18 (q := 12) wd_866 dX7_putAside_9 rfl ?_
      refine g_iload_n (q := 13) dX7_putAside_12 rfl rfl ?_
      refine g_aload_n (q := 14) dX7_putAside_13 rfl rfl ?_
      refine f7_5 (q := 17) wd_853 dX7_putAside_14 rfl ?_
      refine g_iload_n (q := 18) dX7_putAside_17 rfl rfl ?_
      refine g_ialdJ (q := 19) (k := 44) (j := i) (N := 52) (by decide) (by decide) rfl rfl (by decide) rfl (by omega) dX7_putAside_18 rfl ?_
      refine g_iastJ (q := 20) (k := 49) (j := i) (N := 52) (by decide) (by decide) rfl rfl (by decide) rfl (by omega) dX7_putAside_19 rfl ?_
      refine g_iinc (q := 23) dX7_putAside_20 rfl ci_1 (by decide) rfl rfl ?_
      refine g_goto (t := 2) dX7_putAside_23 (by decide) ?_
      exact g_eqw kk_i (by simp [lsub, nI_succ]) (by rw [upc_upc, upc_same, upc_ne (show (44 : Nat) ≠ 49 by decide)]; congr 1; have := cpF_s (σ 44) (σ 49) 0 i; rw [Nat.zero_add] at this; exact this) rfl
  · refine g_iload_n (q := 3) dX7_putAside_2 rfl rfl ?_
    refine g_bipush (q := 5) dX7_putAside_3 cb_52 rfl ?_
    refine g_icmp_ge (t := 26) (q := 8) dX7_putAside_5 (by decide) rfl (fun c_5 => ?_) (fun c_5 => ?_)
    · refine g_eqv (σ' := upc σ 49 (σ 44)) ?_ ?_
      · exact cp_eqv
      exact g_vret dX7_putAside_26 (pv_i (by rfl) rfl)
    · exact absurd (lp_out (by rfl)) c_5
set_option maxRecDepth 20000 in
set_option maxHeartbeats 4000000 in
theorem c_X7_takeBack {E : EE} (hE : inj E 40 13) {σ : Sto} {τ : Stl}   : Ct E 40 13 yX7_takeBack cX7_takeBack 2 none { frames := 0, cells := 0, slots := 0, locals := 0 } [.ref (E.2.1 40)] σ τ (Pv (upc σ 44 (σ 49)) (τ)) := by
  refine ct_of hE RX7 [some (.ref (E.2.1 40)), none] (by decide) rfl (Nat.le_of_ble_eq_true rfl) rfl (fun X => ?_)
  refine g_iconst (q := 1) dX7_takeBack_0 ci_0 rfl ?_
  refine g_istore_n (j := 1) (q := 2) dX7_takeBack_1 rfl (by decide) rfl rfl ?_
  refine g_for (I := fun i => [some (.ref (E.2.1 40)), some (.int (nI i))]) (S := fun i => upc σ 44 (cpF (σ 49) (σ 44) 0 i)) (T := fun i => τ) (0) (52) (Nat.zero_le _) (by rfl) (by rw [cpF_0]; exact (upc_id _ _).symm) (by rfl) (fun i i0 i1 kk_i => ?_) ?_
  · have hci : (nI i).toNatClampNeg = i := nI_clamp (by omega)
    refine g_iload_n (q := 3) dX7_takeBack_2 rfl rfl ?_
    refine g_bipush (q := 5) dX7_takeBack_3 cb_52 rfl ?_
    refine g_icmp_ge (t := 26) (q := 8) dX7_takeBack_5 (by decide) rfl (fun c_5 => ?_) (fun c_5 => ?_)
    · exact absurd c_5 (lp_in (by rfl) (by omega) i1)
    · refine g_aload_n (q := 9) dX7_takeBack_8 rfl rfl ?_
      refine f7_5 (q := 12) wd_853 dX7_takeBack_9 rfl ?_
      refine g_iload_n (q := 13) dX7_takeBack_12 rfl rfl ?_
      refine g_aload_n (q := 14) dX7_takeBack_13 rfl rfl ?_
      refine f7_18 (q := 17) wd_866 dX7_takeBack_14 rfl ?_
      refine g_iload_n (q := 18) dX7_takeBack_17 rfl rfl ?_
      refine g_ialdJ (q := 19) (k := 49) (j := i) (N := 52) (by decide) (by decide) rfl rfl (by decide) rfl (by omega) dX7_takeBack_18 rfl ?_
      refine g_iastJ (q := 20) (k := 44) (j := i) (N := 52) (by decide) (by decide) rfl rfl (by decide) rfl (by omega) dX7_takeBack_19 rfl ?_
      refine g_iinc (q := 23) dX7_takeBack_20 rfl ci_1 (by decide) rfl rfl ?_
      refine g_goto (t := 2) dX7_takeBack_23 (by decide) ?_
      exact g_eqw kk_i (by simp [lsub, nI_succ]) (by rw [upc_upc, upc_same, upc_ne (show (49 : Nat) ≠ 44 by decide)]; congr 1; have := cpF_s (σ 49) (σ 44) 0 i; rw [Nat.zero_add] at this; exact this) rfl
  · refine g_iload_n (q := 3) dX7_takeBack_2 rfl rfl ?_
    refine g_bipush (q := 5) dX7_takeBack_3 cb_52 rfl ?_
    refine g_icmp_ge (t := 26) (q := 8) dX7_takeBack_5 (by decide) rfl (fun c_5 => ?_) (fun c_5 => ?_)
    · refine g_eqv (σ' := upc σ 44 (σ 49)) ?_ ?_
      · exact cp_eqv
      exact g_vret dX7_takeBack_26 (pv_i (by rfl) rfl)
    · exact absurd (lp_out (by rfl)) c_5
set_option maxRecDepth 20000 in
set_option maxHeartbeats 4000000 in
theorem c_X7_goOn {E : EE} (hE : inj E 40 13) {σ : Sto} {τ : Stl} {n : Int32} (w : WFM (σ 44)) (hn : ¬ n < 0) : Ct E 40 13 yX7_goOn cX7_goOn 3 none { frames := 3, cells := 0, slots := 0, locals := 72 } [.ref (E.2.1 40), .int n] σ τ (Pv (upc σ 44 (q_hrs (σ 44) (n.toNatClampNeg))) (τ)) := by
  refine ct_of hE RX7 [some (.ref (E.2.1 40)), some (.int n), none] (by decide) rfl (Nat.le_of_ble_eq_true rfl) rfl (fun X => ?_)
  obtain ⟨en, bn⟩ := nn_to hn
  refine g_iconst (q := 1) dX7_goOn_0 ci_0 rfl ?_
  refine g_istore_n (j := 2) (q := 2) dX7_goOn_1 rfl (by decide) rfl rfl ?_
  refine g_for (I := fun i => [some (.ref (E.2.1 40)), some (.int n), some (.int (nI i))]) (S := fun i => upc σ 44 (q_hrs (σ 44) i)) (T := fun i => τ) (0) (n.toNatClampNeg) (Nat.zero_le _) (by rfl) (by exact (upc_id _ _).symm) (by rfl) (fun i i0 i1 kk_i => ?_) ?_
  · have hci : (nI i).toNatClampNeg = i := nI_clamp (by omega)
    refine g_iload_n (q := 3) dX7_goOn_2 rfl rfl ?_
    refine g_iload_n (q := 4) dX7_goOn_3 rfl rfl ?_
    refine g_icmp_ge (t := 17) (q := 7) dX7_goOn_4 (by decide) rfl (fun c_4 => ?_) (fun c_4 => ?_)
    · exact absurd c_4 (lp_in (by exact en) (by omega) i1)
    · refine g_aload_n (q := 8) dX7_goOn_7 rfl rfl ?_
      refine g_callVv (q := 11) (c_X7_oneHour hE (by rw [upc_same]; exact wfm_hrs w i)) lk_RX7_159 (by decide) (by decide) rfl (by decide) rfl rfl rfl rfl rfl rfl (Nat.le_of_ble_eq_true rfl) (Nat.le_of_ble_eq_true rfl) (Nat.le_of_ble_eq_true rfl) dX7_goOn_8 rfl ?_
      refine g_iinc (q := 14) dX7_goOn_11 rfl ci_1 (by decide) rfl rfl ?_
      refine g_goto (t := 2) dX7_goOn_14 (by decide) ?_
      exact g_eqw kk_i (by simp [lsub, nI_succ]) (by rw [upc_upc, upc_same]; rfl) rfl
  · refine g_iload_n (q := 3) dX7_goOn_2 rfl rfl ?_
    refine g_iload_n (q := 4) dX7_goOn_3 rfl rfl ?_
    refine g_icmp_ge (t := 17) (q := 7) dX7_goOn_4 (by decide) rfl (fun c_4 => ?_) (fun c_4 => ?_)
    · exact g_vret dX7_goOn_17 (pv_i (by rfl) rfl)
    · exact absurd (lp_out (by exact en)) c_4
set_option maxRecDepth 20000 in
set_option maxHeartbeats 4000000 in
theorem c_X7_turn {E : EE} (hE : inj E 40 13) {σ : Sto} {τ : Stl} {s : Int32} (w : WFM (σ 44)) : Ct E 40 13 yX7_turn cX7_turn 3 none { frames := 1, cells := 0, slots := 0, locals := 21 } [.ref (E.2.1 40), .int s] σ τ (Pv (upc σ 44 (q_tu (σ 44) s ((σ 44 4).toNatClampNeg))) (τ)) := by
  refine ct_of hE RX7 [some (.ref (E.2.1 40)), some (.int s), none] (by decide) rfl (Nat.le_of_ble_eq_true rfl) rfl (fun X => ?_)
  obtain ⟨⟨e0, b0⟩, ⟨e1, b1⟩, ⟨e4, b4⟩, ⟨e5, b5⟩⟩ := wfm_n w
  refine g_iconst (q := 1) dX7_turn_0 ci_0 rfl ?_
  refine g_istore_n (j := 2) (q := 2) dX7_turn_1 rfl (by decide) rfl rfl ?_
  refine g_for (I := fun i => [some (.ref (E.2.1 40)), some (.int s), some (.int (nI i))]) (S := fun i => upc σ 44 (q_tu (σ 44) s i)) (T := fun i => τ) (0) ((σ 44 4).toNatClampNeg) (Nat.zero_le _) (by rfl) (by exact (upc_id _ _).symm) (by rfl) (fun i i0 i1 kk_i => ?_) ?_
  · have hci : (nI i).toNatClampNeg = i := nI_clamp (by omega)
    (try simp only [upc_same])
    refine g_iload_n (q := 3) dX7_turn_2 rfl rfl ?_
    refine g_aload_n (q := 4) dX7_turn_3 rfl rfl ?_
    refine f7_5 (q := 7) wd_853 dX7_turn_4 rfl ?_
    refine g_iconst (q := 8) dX7_turn_7 ci_4 rfl ?_
    refine g_ialdJ (q := 9) (k := 44) (j := 4) (N := 52) (by decide) (by decide) rfl rfl (by decide) (show (4 : Int32) = nI 4 from rfl) (by omega) dX7_turn_8 rfl ?_
    refine g_icmp_ge (t := 58) (q := 12) dX7_turn_9 (by decide) rfl (fun c_9 => ?_) (fun c_9 => ?_)
    · exact absurd c_9 (lp_in (by rw [upc_same, ag_tu _ _ _ 4 (by omega)]; exact e4) (by omega) i1)
    · refine g_aload_n (q := 13) dX7_turn_12 rfl rfl ?_
      refine f7_5 (q := 16) wd_853 dX7_turn_13 rfl ?_
      refine g_bipush (q := 18) dX7_turn_16 cb_29 rfl ?_
      refine g_iload_n (q := 19) dX7_turn_18 rfl rfl ?_
      refine g_iadd (q := 20) dX7_turn_19 rfl ?_
      refine g_iload_n (q := 21) dX7_turn_20 rfl rfl ?_
      refine g_iload_n (q := 22) dX7_turn_21 rfl rfl ?_
      refine g_callSi (q := 25) (c_X7_has hE ) lk_RX7_199 rfl rfl rfl rfl (Nat.le_of_ble_eq_true rfl) (Nat.le_of_ble_eq_true rfl) (Nat.le_of_ble_eq_true rfl) dX7_turn_22 rfl ?_
      refine g_if_eq (t := 42) (q := 28) dX7_turn_25 (by decide) rfl (fun c_25 => ?_) (fun c_25 => ?_)
      · rw [bI_0] at c_25
        refine g_aload_n (q := 43) dX7_turn_42 rfl rfl ?_
        refine f7_5 (q := 46) wd_853 dX7_turn_43 rfl ?_
        refine g_bipush (q := 48) dX7_turn_46 cb_29 rfl ?_
        refine g_iload_n (q := 49) dX7_turn_48 rfl rfl ?_
        refine g_iadd (q := 50) dX7_turn_49 rfl ?_
        refine g_ialdJ (q := 51) (k := 44) (j := (29 + i)) (N := 52) (by decide) (by decide) rfl rfl (by decide) (ad2 (show (29 : Int32) = nI 29 from rfl) rfl) (by omega) dX7_turn_50 rfl ?_
        refine g_iastJ (q := 52) (k := 44) (j := (29 + i)) (N := 52) (by decide) (by decide) rfl rfl (by decide) (ad2 (show (29 : Int32) = nI 29 from rfl) rfl) (by omega) dX7_turn_51 rfl ?_
        refine g_iinc (q := 55) dX7_turn_52 rfl ci_1 (by decide) rfl rfl ?_
        refine g_goto (t := 2) dX7_turn_55 (by decide) ?_
        exact g_eqw kk_i (by simp [lsub, nI_succ]) (by simp only [upc_upc, upc_same]; congr 1; simp only [q_tu, c_25, not_true_eq_false, not_false_eq_true, if_true, if_false, Bool.true_eq_false, Bool.false_eq_true, reduceIte, reduceCtorEq]) rfl
      · rw [bI_n0] at c_25
        refine g_iconst (q := 29) dX7_turn_28 ci_1 rfl ?_
        refine g_aload_n (q := 30) dX7_turn_29 rfl rfl ?_
        refine f7_5 (q := 33) wd_853 dX7_turn_30 rfl ?_
        refine g_bipush (q := 35) dX7_turn_33 cb_29 rfl ?_
        refine g_iload_n (q := 36) dX7_turn_35 rfl rfl ?_
        refine g_iadd (q := 37) dX7_turn_36 rfl ?_
        refine g_ialdJ (q := 38) (k := 44) (j := (29 + i)) (N := 52) (by decide) (by decide) rfl rfl (by decide) (ad2 (show (29 : Int32) = nI 29 from rfl) rfl) (by omega) dX7_turn_37 rfl ?_
        refine g_isub (q := 39) dX7_turn_38 rfl ?_
        refine g_goto (t := 51) dX7_turn_39 (by decide) ?_
        refine g_iastJ (q := 52) (k := 44) (j := (29 + i)) (N := 52) (by decide) (by decide) rfl rfl (by decide) (ad2 (show (29 : Int32) = nI 29 from rfl) rfl) (by omega) dX7_turn_51 rfl ?_
        refine g_iinc (q := 55) dX7_turn_52 rfl ci_1 (by decide) rfl rfl ?_
        refine g_goto (t := 2) dX7_turn_55 (by decide) ?_
        exact g_eqw kk_i (by simp [lsub, nI_succ]) (by simp only [upc_upc, upc_same]; congr 1; simp only [q_tu, c_25, not_true_eq_false, not_false_eq_true, if_true, if_false, Bool.true_eq_false, Bool.false_eq_true, reduceIte, reduceCtorEq]) rfl
  · refine g_iload_n (q := 3) dX7_turn_2 rfl rfl ?_
    refine g_aload_n (q := 4) dX7_turn_3 rfl rfl ?_
    refine f7_5 (q := 7) wd_853 dX7_turn_4 rfl ?_
    refine g_iconst (q := 8) dX7_turn_7 ci_4 rfl ?_
    refine g_ialdJ (q := 9) (k := 44) (j := 4) (N := 52) (by decide) (by decide) rfl rfl (by decide) (show (4 : Int32) = nI 4 from rfl) (by omega) dX7_turn_8 rfl ?_
    refine g_icmp_ge (t := 58) (q := 12) dX7_turn_9 (by decide) rfl (fun c_9 => ?_) (fun c_9 => ?_)
    · exact g_vret dX7_turn_58 (pv_i (by rfl) rfl)
    · exact absurd (lp_out (by rw [upc_same, ag_tu _ _ _ 4 (by omega)]; exact e4)) c_9
def q_sh (A : Nat → Int32) : Nat → Int32 := cpF A A 52 1196
def q_note (σ : Sto) : Sto := if σ 40 17 = 24 then upc (upc σ 48 (va_cpy (σ 44) (q_sh (σ 48)) 0 (52 * 23) 52)) 40 (upd (σ 40) 17 24) else upc (upc σ 48 (va_cpy (σ 44) (σ 48) 0 (52 * (σ 40 17).toNatClampNeg) 52)) 40 (upd (σ 40) 17 (σ 40 17 + 1))
def q_undo (σ : Sto) : Int32 × Sto := if σ 40 17 = 0 then (-1000002, σ) else (σ 40 17 - 1, upc (upc σ 40 (upd (σ 40) 17 (σ 40 17 - 1))) 44 (fun j => σ 48 (52 * (σ 40 17 - 1).toNatClampNeg + j)))
theorem cpF_sh (A : Nat → Int32) (i : Nat) : upd (cpF A A 52 i) i (cpF A A 52 i (i + 52)) = cpF A A 52 (i + 1) := by
  have h : cpF A A 52 i (i + 52) = A (52 + i) := by
    unfold cpF
    rw [if_neg (by omega), Nat.add_comm]
  rw [h]
  exact cpF_s A A 52 i
