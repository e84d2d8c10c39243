def m_ahead (σ : Sto) (n r : Int32) : Int32 := if stB σ = false then -1000002 else if wi n 0 60 = false then -1000001 else if s_lt r (σ 7 0) = false then -1000001 else hcs (vw σ 7) (σ (7 + 6)) (n.toNatClampNeg) (r.toNatClampNeg)
set_option maxRecDepth 20000 in
set_option maxHeartbeats 4000000 in
theorem c_X6_ahead {E : EE} (hE : inj E 0 40) {σ : Sto} {τ : Stl} {n r : Int32} (w : WFH σ 7) : Ct E 0 40 yX6_ahead cX6_ahead 3 (some FieldType.int) { frames := 4, cells := 0, slots := 0, locals := 96 } [.ref (E.2.1 0), .int n, .int r] σ τ (PiP (fun x σ' τ' => x = m_ahead σ n r ∧ frS σ σ')) := by
  refine ct_of hE RX6 [some (.ref (E.2.1 0)), some (.int n), some (.int r)] (by decide) rfl (Nat.le_of_ble_eq_true rfl) rfl (fun X => ?_)
  refine g_aload_n (q := 1) dX6_ahead_0 rfl rfl ?_
  refine f6_2 (q := 4) wd_268 dX6_ahead_1 rfl ?_
  refine g_callVi (q := 7) (c_X1_stands hE rfl) lk_RX6_144 (Nat.zero_le _) (h_lt rfl) rfl (by decide) rfl rfl rfl rfl rfl rfl (Nat.le_of_ble_eq_true rfl) (Nat.le_of_ble_eq_true rfl) (Nat.le_of_ble_eq_true rfl) dX6_ahead_4 rfl ?_
  refine g_if_ne (t := 13) (q := 10) dX6_ahead_7 (by decide) rfl (fun c_7 => ?_) (fun c_7 => ?_)
  · rw [bI_n0] at c_7
    change stB σ = true at c_7
    refine g_iload_n (q := 14) dX6_ahead_13 rfl rfl ?_
    refine g_iconst (q := 15) dX6_ahead_14 ci_0 rfl ?_
    refine g_bipush (q := 17) dX6_ahead_15 cb_60 rfl ?_
    refine g_callSi (q := 20) (c_X6_within hE ) lk_RX6_61 rfl rfl rfl rfl (Nat.le_of_ble_eq_true rfl) (Nat.le_of_ble_eq_true rfl) (Nat.le_of_ble_eq_true rfl) dX6_ahead_17 rfl ?_
    refine g_if_eq (t := 34) (q := 23) dX6_ahead_20 (by decide) rfl (fun c_20 => ?_) (fun c_20 => ?_)
    · rw [bI_0] at c_20
      refine g_ldc (q := 36) dX6_ahead_34 wd_307 rfl ?_
      refine g_iret dX6_ahead_36 ⟨_, rfl, ?_⟩
      exact ⟨by simp only [m_ahead, c_7, c_20, not_true_eq_false, not_false_eq_true, if_true, if_false, Bool.true_eq_false, Bool.false_eq_true, reduceIte, reduceCtorEq], frS_rf σ⟩
    · rw [bI_n0] at c_20
      refine g_aload_n (q := 24) dX6_ahead_23 rfl rfl ?_
      refine f6_2 (q := 27) wd_268 dX6_ahead_24 rfl ?_
      refine g_iload_n (q := 28) dX6_ahead_27 rfl rfl ?_
      refine g_callVi (q := 31) (c_X1_hasRoom hE rfl) lk_RX6_176 (Nat.zero_le _) (h_lt rfl) rfl (by decide) rfl rfl rfl rfl rfl rfl (Nat.le_of_ble_eq_true rfl) (Nat.le_of_ble_eq_true rfl) (Nat.le_of_ble_eq_true rfl) dX6_ahead_28 rfl ?_
      refine g_if_ne (t := 37) (q := 34) dX6_ahead_31 (by decide) rfl (fun c_31 => ?_) (fun c_31 => ?_)
      · rw [bI_n0] at c_31
        refine g_aload_n (q := 38) dX6_ahead_37 rfl rfl ?_
        refine f6_4 (q := 41) wd_270 dX6_ahead_38 rfl ?_
        refine g_aload_n (q := 42) dX6_ahead_41 rfl rfl ?_
        refine f6_2 (q := 45) wd_268 dX6_ahead_42 rfl ?_
        refine g_iload_n (q := 46) dX6_ahead_45 rfl rfl ?_
        refine g_callVvp (q := 49) (c_X4_look hE w (frS_rf σ) (wi_nn c_20 (by decide))) lk_RX6_207 (by decide) (by decide) rfl (by decide) rfl rfl rfl rfl rfl rfl (Nat.le_of_ble_eq_true rfl) (Nat.le_of_ble_eq_true rfl) (Nat.le_of_ble_eq_true rfl) dX6_ahead_46 rfl (fun σ_46 τ_46 hp_46 => ?_)
        obtain ⟨hf, hT, ht⟩ := hp_46
        refine g_aload_n (q := 50) dX6_ahead_49 rfl rfl ?_
        refine f6_4 (q := 53) wd_270 dX6_ahead_50 rfl ?_
        refine f4_0 (q := 56) wd_235 dX6_ahead_53 rfl ?_
        refine f1_13 (q := 59) rfl wd_179 dX6_ahead_56 rfl ?_
        refine g_iload_n (q := 60) dX6_ahead_59 rfl rfl ?_
        refine g_aldH (q := 61) (c := 6) rfl (by decide) (by decide) (show vp_in _ 6 by exact room_in w c_31) dX6_ahead_60 rfl ?_
        refine g_iret dX6_ahead_61 ⟨_, rfl, ?_⟩
        exact ⟨by simp only [m_ahead, hT.2.2, c_7, c_20, c_31, not_true_eq_false, not_false_eq_true, if_true, if_false, Bool.true_eq_false, Bool.false_eq_true, reduceIte, reduceCtorEq], frS_T (frS_rf σ) hf⟩
      · rw [bI_0] at c_31
        refine g_ldc (q := 36) dX6_ahead_34 wd_307 rfl ?_
        refine g_iret dX6_ahead_36 ⟨_, rfl, ?_⟩
        exact ⟨by simp only [m_ahead, c_7, c_20, c_31, not_true_eq_false, not_false_eq_true, if_true, if_false, Bool.true_eq_false, Bool.false_eq_true, reduceIte, reduceCtorEq], frS_rf σ⟩
  · rw [bI_0] at c_7
    change stB σ = false at c_7
    refine g_ldc (q := 12) dX6_ahead_10 wd_465 rfl ?_
    refine g_iret dX6_ahead_12 ⟨_, rfl, ?_⟩
    exact ⟨by simp only [m_ahead, c_7, not_true_eq_false, not_false_eq_true, if_true, if_false, Bool.true_eq_false, Bool.false_eq_true, reduceIte, reduceCtorEq], frS_rf σ⟩
def m_allAhead (σ : Sto) (n : Int32) : Int32 := if stB σ = false then -1000002 else if wi n 0 60 = false then -1000001 else s_ac (hcs (vw σ 7) (σ (7 + 6)) (n.toNatClampNeg)) ((σ 7 0).toNatClampNeg)
set_option maxRecDepth 20000 in
set_option maxHeartbeats 4000000 in
theorem c_X6_allAhead {E : EE} (hE : inj E 0 40) {σ : Sto} {τ : Stl} {n : Int32} (w : WFH σ 7) : Ct E 0 40 yX6_allAhead cX6_allAhead 2 (some FieldType.int) { frames := 4, cells := 0, slots := 0, locals := 96 } [.ref (E.2.1 0), .int n] σ τ (PiP (fun x σ' τ' => x = m_allAhead σ n ∧ frS σ σ')) := by
  refine ct_of hE RX6 [some (.ref (E.2.1 0)), some (.int n)] (by decide) rfl (Nat.le_of_ble_eq_true rfl) rfl (fun X => ?_)
  refine g_aload_n (q := 1) dX6_allAhead_0 rfl rfl ?_
  refine f6_2 (q := 4) wd_268 dX6_allAhead_1 rfl ?_
  refine g_callVi (q := 7) (c_X1_stands hE rfl) lk_RX6_144 (Nat.zero_le _) (h_lt rfl) rfl (by decide) rfl rfl rfl rfl rfl rfl (Nat.le_of_ble_eq_true rfl) (Nat.le_of_ble_eq_true rfl) (Nat.le_of_ble_eq_true rfl) dX6_allAhead_4 rfl ?_
  refine g_if_ne (t := 13) (q := 10) dX6_allAhead_7 (by decide) rfl (fun c_7 => ?_) (fun c_7 => ?_)
  · rw [bI_n0] at c_7
    change stB σ = true at c_7
    refine g_iload_n (q := 14) dX6_allAhead_13 rfl rfl ?_
    refine g_iconst (q := 15) dX6_allAhead_14 ci_0 rfl ?_
    refine g_bipush (q := 17) dX6_allAhead_15 cb_60 rfl ?_
    refine g_callSi (q := 20) (c_X6_within hE ) lk_RX6_61 rfl rfl rfl rfl (Nat.le_of_ble_eq_true rfl) (Nat.le_of_ble_eq_true rfl) (Nat.le_of_ble_eq_true rfl) dX6_allAhead_17 rfl ?_
    refine g_if_ne (t := 26) (q := 23) dX6_allAhead_20 (by decide) rfl (fun c_20 => ?_) (fun c_20 => ?_)
    · rw [bI_n0] at c_20
      refine g_aload_n (q := 27) dX6_allAhead_26 rfl rfl ?_
      refine f6_4 (q := 30) wd_270 dX6_allAhead_27 rfl ?_
      refine g_aload_n (q := 31) dX6_allAhead_30 rfl rfl ?_
      refine f6_2 (q := 34) wd_268 dX6_allAhead_31 rfl ?_
      refine g_iload_n (q := 35) dX6_allAhead_34 rfl rfl ?_
      refine g_callVvp (q := 38) (c_X4_look hE w (frS_rf σ) (wi_nn c_20 (by decide))) lk_RX6_207 (by decide) (by decide) rfl (by decide) rfl rfl rfl rfl rfl rfl (Nat.le_of_ble_eq_true rfl) (Nat.le_of_ble_eq_true rfl) (Nat.le_of_ble_eq_true rfl) dX6_allAhead_35 rfl (fun σ_35 τ_35 hp_35 => ?_)
      obtain ⟨hf, hT, ht⟩ := hp_35
      refine g_aload_n (q := 39) dX6_allAhead_38 rfl rfl ?_
      refine f6_4 (q := 42) wd_270 dX6_allAhead_39 rfl ?_
      refine f4_0 (q := 45) wd_235 dX6_allAhead_42 rfl ?_
      refine g_callVi (q := 48) (c_X1_allCold hE rfl (WF_TV (wfv_of w) hT)) lk_RX6_156 (Nat.zero_le _) (h_lt rfl) rfl (by decide) rfl rfl rfl rfl rfl rfl (Nat.le_of_ble_eq_true rfl) (Nat.le_of_ble_eq_true rfl) (Nat.le_of_ble_eq_true rfl) dX6_allAhead_45 rfl ?_
      refine g_iret dX6_allAhead_48 ⟨_, rfl, ?_⟩
      exact ⟨by simp only [m_allAhead, hT.2.2, hT.1 0 (by decide), c_7, c_20, not_true_eq_false, not_false_eq_true, if_true, if_false, Bool.true_eq_false, Bool.false_eq_true, reduceIte, reduceCtorEq]; rfl, frS_T (frS_rf σ) hf⟩
    · rw [bI_0] at c_20
      refine g_ldc (q := 25) dX6_allAhead_23 wd_307 rfl ?_
      refine g_iret dX6_allAhead_25 ⟨_, rfl, ?_⟩
      exact ⟨by simp only [m_allAhead, c_7, c_20, not_true_eq_false, not_false_eq_true, if_true, if_false, Bool.true_eq_false, Bool.false_eq_true, reduceIte, reduceCtorEq], frS_rf σ⟩
  · rw [bI_0] at c_7
    change stB σ = false at c_7
    refine g_ldc (q := 12) dX6_allAhead_10 wd_465 rfl ?_
    refine g_iret dX6_allAhead_12 ⟨_, rfl, ?_⟩
    exact ⟨by simp only [m_allAhead, c_7, not_true_eq_false, not_false_eq_true, if_true, if_false, Bool.true_eq_false, Bool.false_eq_true, reduceIte, reduceCtorEq], frS_rf σ⟩
def m_shivers (σ : Sto) (u : Int32) : Int32 := if stB σ = false then -1000002 else if wi u 0 1 = false then -1000001 else if u = 0 then (s_sh (vw σ 7) (σ (7 + 6)) 0 61).1 else (s_sh (vw σ 7) (σ (7 + 6)) 0 61).2
set_option maxRecDepth 20000 in
set_option maxHeartbeats 4000000 in
theorem c_X6_shivers {E : EE} (hE : inj E 0 40) {σ : Sto} {τ : Stl} {u : Int32} (w : WFH σ 7) : Ct E 0 40 yX6_shivers cX6_shivers 2 (some FieldType.int) { frames := 5, cells := 0, slots := 0, locals := 118 } [.ref (E.2.1 0), .int u] σ τ (PiP (fun x σ' τ' => x = m_shivers σ u ∧ frS σ σ')) := by
  refine ct_of hE RX6 [some (.ref (E.2.1 0)), some (.int u)] (by decide) rfl (Nat.le_of_ble_eq_true rfl) rfl (fun X => ?_)
  refine g_aload_n (q := 1) dX6_shivers_0 rfl rfl ?_
  refine f6_2 (q := 4) wd_268 dX6_shivers_1 rfl ?_
  refine g_callVi (q := 7) (c_X1_stands hE rfl) lk_RX6_144 (Nat.zero_le _) (h_lt rfl) rfl (by decide) rfl rfl rfl rfl rfl rfl (Nat.le_of_ble_eq_true rfl) (Nat.le_of_ble_eq_true rfl) (Nat.le_of_ble_eq_true rfl) dX6_shivers_4 rfl ?_
  refine g_if_ne (t := 13) (q := 10) dX6_shivers_7 (by decide) rfl (fun c_7 => ?_) (fun c_7 => ?_)
  · rw [bI_n0] at c_7
    change stB σ = true at c_7
    refine g_iload_n (q := 14) dX6_shivers_13 rfl rfl ?_
    refine g_iconst (q := 15) dX6_shivers_14 ci_0 rfl ?_
    refine g_iconst (q := 16) dX6_shivers_15 ci_1 rfl ?_
    refine g_callSi (q := 19) (c_X6_within hE ) lk_RX6_61 rfl rfl rfl rfl (Nat.le_of_ble_eq_true rfl) (Nat.le_of_ble_eq_true rfl) (Nat.le_of_ble_eq_true rfl) dX6_shivers_16 rfl ?_
    refine g_if_ne (t := 25) (q := 22) dX6_shivers_19 (by decide) rfl (fun c_19 => ?_) (fun c_19 => ?_)
    · rw [bI_n0] at c_19
      refine g_aload_n (q := 26) dX6_shivers_25 rfl rfl ?_
      refine f6_4 (q := 29) wd_270 dX6_shivers_26 rfl ?_
      refine g_aload_n (q := 30) dX6_shivers_29 rfl rfl ?_
      refine f6_2 (q := 33) wd_268 dX6_shivers_30 rfl ?_
      refine g_bipush (q := 35) dX6_shivers_33 cb_60 rfl ?_
      refine g_callVvp (q := 38) (c_X4_findShiver hE w (show (60 : Int32) = nI 61 - 1 from rfl) (by decide)) lk_RX6_211 (by decide) (by decide) rfl (by decide) rfl rfl rfl rfl rfl rfl (Nat.le_of_ble_eq_true rfl) (Nat.le_of_ble_eq_true rfl) (Nat.le_of_ble_eq_true rfl) dX6_shivers_35 rfl (fun σ_35 τ_35 hp_35 => ?_)
      obtain ⟨hf, q1, q2, ht⟩ := hp_35
      refine g_aload_n (q := 39) dX6_shivers_38 rfl rfl ?_
      refine f6_4 (q := 42) wd_270 dX6_shivers_39 rfl ?_
      refine g_iload_n (q := 43) dX6_shivers_42 rfl rfl ?_
      refine g_callVi (q := 46) (c_X4_told hE ) lk_RX6_214 (by decide) (by decide) rfl (by decide) rfl rfl rfl rfl rfl rfl (Nat.le_of_ble_eq_true rfl) (Nat.le_of_ble_eq_true rfl) (Nat.le_of_ble_eq_true rfl) dX6_shivers_43 rfl ?_
      refine g_iret dX6_shivers_46 ⟨_, rfl, ?_⟩
      have hv : m_shivers σ u = if u = 0 then (s_sh (vw σ 7) (σ (7 + 6)) 0 61).1 else (s_sh (vw σ 7) (σ (7 + 6)) 0 61).2 := by simp only [m_shivers, c_7, c_19, not_true_eq_false, not_false_eq_true, if_true, if_false, Bool.true_eq_false, Bool.false_eq_true, reduceIte, reduceCtorEq]
      rw [hv]
      exact ⟨by rw [q1, q2], hf⟩
    · rw [bI_0] at c_19
      refine g_ldc (q := 24) dX6_shivers_22 wd_307 rfl ?_
      refine g_iret dX6_shivers_24 ⟨_, rfl, ?_⟩
      exact ⟨by simp only [m_shivers, c_7, c_19, not_true_eq_false, not_false_eq_true, if_true, if_false, Bool.true_eq_false, Bool.false_eq_true, reduceIte, reduceCtorEq], frS_rf σ⟩
  · rw [bI_0] at c_7
    change stB σ = false at c_7
    refine g_ldc (q := 12) dX6_shivers_10 wd_465 rfl ?_
    refine g_iret dX6_shivers_12 ⟨_, rfl, ?_⟩
    exact ⟨by simp only [m_shivers, c_7, not_true_eq_false, not_false_eq_true, if_true, if_false, Bool.true_eq_false, Bool.false_eq_true, reduceIte, reduceCtorEq], frS_rf σ⟩
def m_moved (σ : Sto) (a b t n u : Int32) : Int32 := if stB σ = false then -1000002 else if s_lt a (1 <<< (σ 7 0 &&& 31)) = false then -1000001 else if s_lt b (1 <<< (σ 7 0 &&& 31)) = false then -1000001 else if ¬ a &&& b = 0 then -1000001 else if wi t 1 999 = false then -1000001 else if wi n 1 24 = false then -1000001 else if wi u 0 1 = false then -1000001 else if u = 0 then (s_dm (dmHit (vw σ 7) (σ (7 + 6)) a b t (n.toNatClampNeg)) (2 ^ (σ 7 5).toNatClampNeg) 0 ((σ 7 5).toNatClampNeg + 1)).1 else (s_dm (dmHit (vw σ 7) (σ (7 + 6)) a b t (n.toNatClampNeg)) (2 ^ (σ 7 5).toNatClampNeg) 0 ((σ 7 5).toNatClampNeg + 1)).2
set_option maxRecDepth 20000 in
set_option maxHeartbeats 4000000 in
theorem c_X6_moved {E : EE} (hE : inj E 0 40) {σ : Sto} {τ : Stl} {a b t n u : Int32} (w : WFH σ 7) : Ct E 0 40 yX6_moved cX6_moved 6 (some FieldType.int) { frames := 5, cells := 0, slots := 0, locals := 125 } [.ref (E.2.1 0), .int a, .int b, .int t, .int n, .int u] σ τ (PiP (fun x σ' τ' => x = m_moved σ a b t n u ∧ frS σ σ')) := by
  refine ct_of hE RX6 [some (.ref (E.2.1 0)), some (.int a), some (.int b), some (.int t), some (.int n), some (.int u)] (by decide) rfl (Nat.le_of_ble_eq_true rfl) rfl (fun X => ?_)
  refine g_aload_n (q := 1) dX6_moved_0 rfl rfl ?_
  refine f6_2 (q := 4) wd_268 dX6_moved_1 rfl ?_
  refine g_callVi (q := 7) (c_X1_stands hE rfl) lk_RX6_144 (Nat.zero_le _) (h_lt rfl) rfl (by decide) rfl rfl rfl rfl rfl rfl (Nat.le_of_ble_eq_true rfl) (Nat.le_of_ble_eq_true rfl) (Nat.le_of_ble_eq_true rfl) dX6_moved_4 rfl ?_
  refine g_if_ne (t := 13) (q := 10) dX6_moved_7 (by decide) rfl (fun c_7 => ?_) (fun c_7 => ?_)
  · rw [bI_n0] at c_7
    change stB σ = true at c_7
    refine g_aload_n (q := 14) dX6_moved_13 rfl rfl ?_
    refine f6_2 (q := 17) wd_268 dX6_moved_14 rfl ?_
    refine g_iload_n (q := 18) dX6_moved_17 rfl rfl ?_
    refine g_callVi (q := 21) (c_X1_hasRooms hE rfl) lk_RX6_217 (Nat.zero_le _) (h_lt rfl) rfl (by decide) rfl rfl rfl rfl rfl rfl (Nat.le_of_ble_eq_true rfl) (Nat.le_of_ble_eq_true rfl) (Nat.le_of_ble_eq_true rfl) dX6_moved_18 rfl ?_
    refine g_if_eq (t := 41) (q := 24) dX6_moved_21 (by decide) rfl (fun c_21 => ?_) (fun c_21 => ?_)
    · rw [bI_0] at c_21
      refine g_ldc (q := 43) dX6_moved_41 wd_307 rfl ?_
      refine g_iret dX6_moved_43 ⟨_, rfl, ?_⟩
      exact ⟨by simp only [m_moved, c_7, c_21, not_true_eq_false, not_false_eq_true, if_true, if_false, Bool.true_eq_false, Bool.false_eq_true, reduceIte, reduceCtorEq], frS_rf σ⟩
    · rw [bI_n0] at c_21
      refine g_aload_n (q := 25) dX6_moved_24 rfl rfl ?_
      refine f6_2 (q := 28) wd_268 dX6_moved_25 rfl ?_
      refine g_iload_n (q := 29) dX6_moved_28 rfl rfl ?_
      refine g_callVi (q := 32) (c_X1_hasRooms hE rfl) lk_RX6_217 (Nat.zero_le _) (h_lt rfl) rfl (by decide) rfl rfl rfl rfl rfl rfl (Nat.le_of_ble_eq_true rfl) (Nat.le_of_ble_eq_true rfl) (Nat.le_of_ble_eq_true rfl) dX6_moved_29 rfl ?_
      refine g_if_eq (t := 41) (q := 35) dX6_moved_32 (by decide) rfl (fun c_32 => ?_) (fun c_32 => ?_)
      · rw [bI_0] at c_32
        refine g_ldc (q := 43) dX6_moved_41 wd_307 rfl ?_
        refine g_iret dX6_moved_43 ⟨_, rfl, ?_⟩
        exact ⟨by simp only [m_moved, c_7, c_21, c_32, not_true_eq_false, not_false_eq_true, if_true, if_false, Bool.true_eq_false, Bool.false_eq_true, reduceIte, reduceCtorEq], frS_rf σ⟩
      · rw [bI_n0] at c_32
        refine g_iload_n (q := 36) dX6_moved_35 rfl rfl ?_
        refine g_iload_n (q := 37) dX6_moved_36 rfl rfl ?_
        refine g_iand (q := 38) dX6_moved_37 rfl ?_
        refine g_if_eq (t := 44) (q := 41) dX6_moved_38 (by decide) rfl (fun c_38 => ?_) (fun c_38 => ?_)
        · refine g_iload_n (q := 45) dX6_moved_44 rfl rfl ?_
          refine g_iconst (q := 46) dX6_moved_45 ci_1 rfl ?_
          refine g_sipush (q := 49) dX6_moved_46 cs_999 rfl ?_
          refine g_callSi (q := 52) (c_X6_within hE ) lk_RX6_61 rfl rfl rfl rfl (Nat.le_of_ble_eq_true rfl) (Nat.le_of_ble_eq_true rfl) (Nat.le_of_ble_eq_true rfl) dX6_moved_49 rfl ?_
          refine g_if_eq (t := 76) (q := 55) dX6_moved_52 (by decide) rfl (fun c_52 => ?_) (fun c_52 => ?_)
          · rw [bI_0] at c_52
            refine g_ldc (q := 78) dX6_moved_76 wd_307 rfl ?_
            refine g_iret dX6_moved_78 ⟨_, rfl, ?_⟩
            exact ⟨by simp only [m_moved, c_7, c_21, c_32, c_38, c_52, not_true_eq_false, not_false_eq_true, if_true, if_false, Bool.true_eq_false, Bool.false_eq_true, reduceIte, reduceCtorEq], frS_rf σ⟩
          · rw [bI_n0] at c_52
            refine g_iload (q := 57) dX6_moved_55 rfl rfl ?_
            refine g_iconst (q := 58) dX6_moved_57 ci_1 rfl ?_
            refine g_bipush (q := 60) dX6_moved_58 cb_24 rfl ?_
            refine g_callSi (q := 63) (c_X6_within hE ) lk_RX6_61 rfl rfl rfl rfl (Nat.le_of_ble_eq_true rfl) (Nat.le_of_ble_eq_true rfl) (Nat.le_of_ble_eq_true rfl) dX6_moved_60 rfl ?_
            refine g_if_eq (t := 76) (q := 66) dX6_moved_63 (by decide) rfl (fun c_63 => ?_) (fun c_63 => ?_)
            · rw [bI_0] at c_63
              refine g_ldc (q := 78) dX6_moved_76 wd_307 rfl ?_
              refine g_iret dX6_moved_78 ⟨_, rfl, ?_⟩
              exact ⟨by simp only [m_moved, c_7, c_21, c_32, c_38, c_52, c_63, not_true_eq_false, not_false_eq_true, if_true, if_false, Bool.true_eq_false, Bool.false_eq_true, reduceIte, reduceCtorEq], frS_rf σ⟩
            · rw [bI_n0] at c_63
              refine g_iload (q := 68) dX6_moved_66 rfl rfl ?_
              refine g_iconst (q := 69) dX6_moved_68 ci_0 rfl ?_
              refine g_iconst (q := 70) dX6_moved_69 ci_1 rfl ?_
              refine g_callSi (q := 73) (c_X6_within hE ) lk_RX6_61 rfl rfl rfl rfl (Nat.le_of_ble_eq_true rfl) (Nat.le_of_ble_eq_true rfl) (Nat.le_of_ble_eq_true rfl) dX6_moved_70 rfl ?_
              refine g_if_ne (t := 79) (q := 76) dX6_moved_73 (by decide) rfl (fun c_73 => ?_) (fun c_73 => ?_)
              · rw [bI_n0] at c_73
                refine g_aload_n (q := 80) dX6_moved_79 rfl rfl ?_
                refine f6_4 (q := 83) wd_270 dX6_moved_80 rfl ?_
                refine g_aload_n (q := 84) dX6_moved_83 rfl rfl ?_
                refine f6_2 (q := 87) wd_268 dX6_moved_84 rfl ?_
                refine g_iload_n (q := 88) dX6_moved_87 rfl rfl ?_
                refine g_iload_n (q := 89) dX6_moved_88 rfl rfl ?_
                refine g_iload_n (q := 90) dX6_moved_89 rfl rfl ?_
                refine g_iload (q := 92) dX6_moved_90 rfl rfl ?_
                refine g_callVvp (q := 95) (c_X4_findDoorsToMove hE w (wi_nn c_63 (by decide))) lk_RX6_220 (by decide) (by decide) rfl (by decide) rfl rfl rfl rfl rfl rfl (Nat.le_of_ble_eq_true rfl) (Nat.le_of_ble_eq_true rfl) (Nat.le_of_ble_eq_true rfl) dX6_moved_92 rfl (fun σ_92 τ_92 hp_92 => ?_)
                obtain ⟨hf, q1, q2, ht⟩ := hp_92
                refine g_aload_n (q := 96) dX6_moved_95 rfl rfl ?_
                refine f6_4 (q := 99) wd_270 dX6_moved_96 rfl ?_
                refine g_iload (q := 101) dX6_moved_99 rfl rfl ?_
                refine g_callVi (q := 104) (c_X4_told hE ) lk_RX6_214 (by decide) (by decide) rfl (by decide) rfl rfl rfl rfl rfl rfl (Nat.le_of_ble_eq_true rfl) (Nat.le_of_ble_eq_true rfl) (Nat.le_of_ble_eq_true rfl) dX6_moved_101 rfl ?_
                refine g_iret dX6_moved_104 ⟨_, rfl, ?_⟩
                have hv : m_moved σ a b t n u = if u = 0 then (s_dm (dmHit (vw σ 7) (σ (7 + 6)) a b t (n.toNatClampNeg)) (2 ^ (σ 7 5).toNatClampNeg) 0 ((σ 7 5).toNatClampNeg + 1)).1 else (s_dm (dmHit (vw σ 7) (σ (7 + 6)) a b t (n.toNatClampNeg)) (2 ^ (σ 7 5).toNatClampNeg) 0 ((σ 7 5).toNatClampNeg + 1)).2 := by simp only [m_moved, c_7, c_21, c_32, c_38, c_52, c_63, c_73, not_true_eq_false, not_false_eq_true, if_true, if_false, Bool.true_eq_false, Bool.false_eq_true, reduceIte, reduceCtorEq]
                rw [hv]
                exact ⟨by rw [q1, q2], hf⟩
              · rw [bI_0] at c_73
                refine g_ldc (q := 78) dX6_moved_76 wd_307 rfl ?_
                refine g_iret dX6_moved_78 ⟨_, rfl, ?_⟩
                exact ⟨by simp only [m_moved, c_7, c_21, c_32, c_38, c_52, c_63, c_73, not_true_eq_false, not_false_eq_true, if_true, if_false, Bool.true_eq_false, Bool.false_eq_true, reduceIte, reduceCtorEq], frS_rf σ⟩
        · refine g_ldc (q := 43) dX6_moved_41 wd_307 rfl ?_
          refine g_iret dX6_moved_43 ⟨_, rfl, ?_⟩
          exact ⟨by simp only [m_moved, c_7, c_21, c_32, c_38, not_true_eq_false, not_false_eq_true, if_true, if_false, Bool.true_eq_false, Bool.false_eq_true, reduceIte, reduceCtorEq], frS_rf σ⟩
  · rw [bI_0] at c_7
    change stB σ = false at c_7
    refine g_ldc (q := 12) dX6_moved_10 wd_465 rfl ?_
    refine g_iret dX6_moved_12 ⟨_, rfl, ?_⟩
    exact ⟨by simp only [m_moved, c_7, not_true_eq_false, not_false_eq_true, if_true, if_false, Bool.true_eq_false, Bool.false_eq_true, reduceIte, reduceCtorEq], frS_rf σ⟩
def m_sitWhere (σ : Sto) (s r n u : Int32) : Int32 := if s_lt s (σ 7 7) = false then -1000001 else if s_lt r (σ 7 0) = false then -1000001 else if wi n 1 24 = false then -1000001 else if wi u 0 1 = false then -1000001 else if u = 0 then (s_seat (fun i => hcs (vSit (vw σ 7) (s.toNatClampNeg) (nI i)) (σ (7 + 6)) (n.toNatClampNeg) (r.toNatClampNeg)) ((σ 7 0).toNatClampNeg)).1 else (s_seat (fun i => hcs (vSit (vw σ 7) (s.toNatClampNeg) (nI i)) (σ (7 + 6)) (n.toNatClampNeg) (r.toNatClampNeg)) ((σ 7 0).toNatClampNeg)).2
set_option maxRecDepth 20000 in
set_option maxHeartbeats 4000000 in
theorem c_X6_sitWhere {E : EE} (hE : inj E 0 40) {σ : Sto} {τ : Stl} {s r n u : Int32} (w : WFH σ 7) : Ct E 0 40 yX6_sitWhere cX6_sitWhere 5 (some FieldType.int) { frames := 4, cells := 0, slots := 0, locals := 99 } [.ref (E.2.1 0), .int s, .int r, .int n, .int u] σ τ (PiP (fun x σ' τ' => x = m_sitWhere σ s r n u ∧ frS σ σ')) := by
  refine ct_of hE RX6 [some (.ref (E.2.1 0)), some (.int s), some (.int r), some (.int n), some (.int u)] (by decide) rfl (Nat.le_of_ble_eq_true rfl) rfl (fun X => ?_)
  refine g_aload_n (q := 1) dX6_sitWhere_0 rfl rfl ?_
  refine f6_2 (q := 4) wd_268 dX6_sitWhere_1 rfl ?_
  refine g_iload_n (q := 5) dX6_sitWhere_4 rfl rfl ?_
  refine g_callVi (q := 8) (c_X1_hasSitter hE rfl) lk_RX6_173 (Nat.zero_le _) (h_lt rfl) rfl (by decide) rfl rfl rfl rfl rfl rfl (Nat.le_of_ble_eq_true rfl) (Nat.le_of_ble_eq_true rfl) (Nat.le_of_ble_eq_true rfl) dX6_sitWhere_5 rfl ?_
  refine g_if_eq (t := 22) (q := 11) dX6_sitWhere_8 (by decide) rfl (fun c_8 => ?_) (fun c_8 => ?_)
  · rw [bI_0] at c_8
    refine g_ldc (q := 24) dX6_sitWhere_22 wd_307 rfl ?_
    refine g_iret dX6_sitWhere_24 ⟨_, rfl, ?_⟩
    exact ⟨by simp only [m_sitWhere, c_8, not_true_eq_false, not_false_eq_true, if_true, if_false, Bool.true_eq_false, Bool.false_eq_true, reduceIte, reduceCtorEq], frS_rf σ⟩
  · rw [bI_n0] at c_8
    refine g_aload_n (q := 12) dX6_sitWhere_11 rfl rfl ?_
    refine f6_2 (q := 15) wd_268 dX6_sitWhere_12 rfl ?_
    refine g_iload_n (q := 16) dX6_sitWhere_15 rfl rfl ?_
    refine g_callVi (q := 19) (c_X1_hasRoom hE rfl) lk_RX6_176 (Nat.zero_le _) (h_lt rfl) rfl (by decide) rfl rfl rfl rfl rfl rfl (Nat.le_of_ble_eq_true rfl) (Nat.le_of_ble_eq_true rfl) (Nat.le_of_ble_eq_true rfl) dX6_sitWhere_16 rfl ?_
    refine g_if_ne (t := 25) (q := 22) dX6_sitWhere_19 (by decide) rfl (fun c_19 => ?_) (fun c_19 => ?_)
    · rw [bI_n0] at c_19
      refine g_iload_n (q := 26) dX6_sitWhere_25 rfl rfl ?_
      refine g_iconst (q := 27) dX6_sitWhere_26 ci_1 rfl ?_
      refine g_bipush (q := 29) dX6_sitWhere_27 cb_24 rfl ?_
      refine g_callSi (q := 32) (c_X6_within hE ) lk_RX6_61 rfl rfl rfl rfl (Nat.le_of_ble_eq_true rfl) (Nat.le_of_ble_eq_true rfl) (Nat.le_of_ble_eq_true rfl) dX6_sitWhere_29 rfl ?_
      refine g_if_eq (t := 45) (q := 35) dX6_sitWhere_32 (by decide) rfl (fun c_32 => ?_) (fun c_32 => ?_)
      · rw [bI_0] at c_32
        refine g_ldc (q := 47) dX6_sitWhere_45 wd_307 rfl ?_
        refine g_iret dX6_sitWhere_47 ⟨_, rfl, ?_⟩
        exact ⟨by simp only [m_sitWhere, c_8, c_19, c_32, not_true_eq_false, not_false_eq_true, if_true, if_false, Bool.true_eq_false, Bool.false_eq_true, reduceIte, reduceCtorEq], frS_rf σ⟩
      · rw [bI_n0] at c_32
        refine g_iload (q := 37) dX6_sitWhere_35 rfl rfl ?_
        refine g_iconst (q := 38) dX6_sitWhere_37 ci_0 rfl ?_
        refine g_iconst (q := 39) dX6_sitWhere_38 ci_1 rfl ?_
        refine g_callSi (q := 42) (c_X6_within hE ) lk_RX6_61 rfl rfl rfl rfl (Nat.le_of_ble_eq_true rfl) (Nat.le_of_ble_eq_true rfl) (Nat.le_of_ble_eq_true rfl) dX6_sitWhere_39 rfl ?_
        refine g_if_ne (t := 48) (q := 45) dX6_sitWhere_42 (by decide) rfl (fun c_42 => ?_) (fun c_42 => ?_)
        · rw [bI_n0] at c_42
          refine g_aload_n (q := 49) dX6_sitWhere_48 rfl rfl ?_
          refine f6_4 (q := 52) wd_270 dX6_sitWhere_49 rfl ?_
          refine g_aload_n (q := 53) dX6_sitWhere_52 rfl rfl ?_
          refine f6_2 (q := 56) wd_268 dX6_sitWhere_53 rfl ?_
          refine g_iload_n (q := 57) dX6_sitWhere_56 rfl rfl ?_
          refine g_iload_n (q := 58) dX6_sitWhere_57 rfl rfl ?_
          refine g_iload_n (q := 59) dX6_sitWhere_58 rfl rfl ?_
          refine g_callVvp (q := 62) (c_X4_findSeat hE w (sitter_in w c_8) (room_in w c_19) (wi_nn c_32 (by decide))) lk_RX6_224 (by decide) (by decide) rfl (by decide) rfl rfl rfl rfl rfl rfl (Nat.le_of_ble_eq_true rfl) (Nat.le_of_ble_eq_true rfl) (Nat.le_of_ble_eq_true rfl) dX6_sitWhere_59 rfl (fun σ_59 τ_59 hp_59 => ?_)
          obtain ⟨hf, q1, q2, ht⟩ := hp_59
          refine g_aload_n (q := 63) dX6_sitWhere_62 rfl rfl ?_
          refine f6_4 (q := 66) wd_270 dX6_sitWhere_63 rfl ?_
          refine g_iload (q := 68) dX6_sitWhere_66 rfl rfl ?_
          refine g_callVi (q := 71) (c_X4_told hE ) lk_RX6_214 (by decide) (by decide) rfl (by decide) rfl rfl rfl rfl rfl rfl (Nat.le_of_ble_eq_true rfl) (Nat.le_of_ble_eq_true rfl) (Nat.le_of_ble_eq_true rfl) dX6_sitWhere_68 rfl ?_
          refine g_iret dX6_sitWhere_71 ⟨_, rfl, ?_⟩
          have hv : m_sitWhere σ s r n u = if u = 0 then (s_seat (fun i => hcs (vSit (vw σ 7) (s.toNatClampNeg) (nI i)) (σ (7 + 6)) (n.toNatClampNeg) (r.toNatClampNeg)) ((σ 7 0).toNatClampNeg)).1 else (s_seat (fun i => hcs (vSit (vw σ 7) (s.toNatClampNeg) (nI i)) (σ (7 + 6)) (n.toNatClampNeg) (r.toNatClampNeg)) ((σ 7 0).toNatClampNeg)).2 := by simp only [m_sitWhere, c_8, c_19, c_32, c_42, not_true_eq_false, not_false_eq_true, if_true, if_false, Bool.true_eq_false, Bool.false_eq_true, reduceIte, reduceCtorEq]
          rw [hv]
          exact ⟨by rw [q1, q2], hf⟩
        · rw [bI_0] at c_42
          refine g_ldc (q := 47) dX6_sitWhere_45 wd_307 rfl ?_
          refine g_iret dX6_sitWhere_47 ⟨_, rfl, ?_⟩
          exact ⟨by simp only [m_sitWhere, c_8, c_19, c_32, c_42, not_true_eq_false, not_false_eq_true, if_true, if_false, Bool.true_eq_false, Bool.false_eq_true, reduceIte, reduceCtorEq], frS_rf σ⟩
    · rw [bI_0] at c_19
      refine g_ldc (q := 24) dX6_sitWhere_22 wd_307 rfl ?_
      refine g_iret dX6_sitWhere_24 ⟨_, rfl, ?_⟩
      exact ⟨by simp only [m_sitWhere, c_8, c_19, not_true_eq_false, not_false_eq_true, if_true, if_false, Bool.true_eq_false, Bool.false_eq_true, reduceIte, reduceCtorEq], frS_rf σ⟩
def m_led (σ : Sto) (ro t u : Int32) : Int32 := if stB σ = false then -1000002 else if s_lt ro (σ 7 0) = false then -1000001 else if wi t 1 999 = false then -1000001 else if wi u 0 1 = false then -1000001 else if u = 0 then (s_so (fun s r M => s_hu (vSit (vw σ 7) s (nI r)) (σ (7 + 6)) ro t 0 M) 41 ((σ 7 0).toNatClampNeg) (s_hu (vw σ 7) (σ (7 + 6)) ro t 0 41, NO) ((σ 7 7).toNatClampNeg)).1 else (s_so (fun s r M => s_hu (vSit (vw σ 7) s (nI r)) (σ (7 + 6)) ro t 0 M) 41 ((σ 7 0).toNatClampNeg) (s_hu (vw σ 7) (σ (7 + 6)) ro t 0 41, NO) ((σ 7 7).toNatClampNeg)).2
set_option maxRecDepth 20000 in
set_option maxHeartbeats 4000000 in
theorem c_X6_led {E : EE} (hE : inj E 0 40) {σ : Sto} {τ : Stl} {ro t u : Int32} (w : WFH σ 7) : Ct E 0 40 yX6_led cX6_led 4 (some FieldType.int) { frames := 6, cells := 0, slots := 0, locals := 146 } [.ref (E.2.1 0), .int ro, .int t, .int u] σ τ (PiP (fun x σ' τ' => x = m_led σ ro t u ∧ frS σ σ')) := by
  refine ct_of hE RX6 [some (.ref (E.2.1 0)), some (.int ro), some (.int t), some (.int u)] (by decide) rfl (Nat.le_of_ble_eq_true rfl) rfl (fun X => ?_)
  refine g_aload_n (q := 1) dX6_led_0 rfl rfl ?_
  refine f6_2 (q := 4) wd_268 dX6_led_1 rfl ?_
  refine g_callVi (q := 7) (c_X1_stands hE rfl) lk_RX6_144 (Nat.zero_le _) (h_lt rfl) rfl (by decide) rfl rfl rfl rfl rfl rfl (Nat.le_of_ble_eq_true rfl) (Nat.le_of_ble_eq_true rfl) (Nat.le_of_ble_eq_true rfl) dX6_led_4 rfl ?_
  refine g_if_ne (t := 13) (q := 10) dX6_led_7 (by decide) rfl (fun c_7 => ?_) (fun c_7 => ?_)
  · rw [bI_n0] at c_7
    change stB σ = true at c_7
    refine g_aload_n (q := 14) dX6_led_13 rfl rfl ?_
    refine f6_2 (q := 17) wd_268 dX6_led_14 rfl ?_
    refine g_iload_n (q := 18) dX6_led_17 rfl rfl ?_
    refine g_callVi (q := 21) (c_X1_hasRoom hE rfl) lk_RX6_176 (Nat.zero_le _) (h_lt rfl) rfl (by decide) rfl rfl rfl rfl rfl rfl (Nat.le_of_ble_eq_true rfl) (Nat.le_of_ble_eq_true rfl) (Nat.le_of_ble_eq_true rfl) dX6_led_18 rfl ?_
    refine g_if_eq (t := 44) (q := 24) dX6_led_21 (by decide) rfl (fun c_21 => ?_) (fun c_21 => ?_)
    · rw [bI_0] at c_21
      refine g_ldc (q := 46) dX6_led_44 wd_307 rfl ?_
      refine g_iret dX6_led_46 ⟨_, rfl, ?_⟩
      exact ⟨by simp only [m_led, c_7, c_21, not_true_eq_false, not_false_eq_true, if_true, if_false, Bool.true_eq_false, Bool.false_eq_true, reduceIte, reduceCtorEq], frS_rf σ⟩
    · rw [bI_n0] at c_21
      refine g_iload_n (q := 25) dX6_led_24 rfl rfl ?_
      refine g_iconst (q := 26) dX6_led_25 ci_1 rfl ?_
      refine g_sipush (q := 29) dX6_led_26 cs_999 rfl ?_
      refine g_callSi (q := 32) (c_X6_within hE ) lk_RX6_61 rfl rfl rfl rfl (Nat.le_of_ble_eq_true rfl) (Nat.le_of_ble_eq_true rfl) (Nat.le_of_ble_eq_true rfl) dX6_led_29 rfl ?_
      refine g_if_eq (t := 44) (q := 35) dX6_led_32 (by decide) rfl (fun c_32 => ?_) (fun c_32 => ?_)
      · rw [bI_0] at c_32
        refine g_ldc (q := 46) dX6_led_44 wd_307 rfl ?_
        refine g_iret dX6_led_46 ⟨_, rfl, ?_⟩
        exact ⟨by simp only [m_led, c_7, c_21, c_32, not_true_eq_false, not_false_eq_true, if_true, if_false, Bool.true_eq_false, Bool.false_eq_true, reduceIte, reduceCtorEq], frS_rf σ⟩
      · rw [bI_n0] at c_32
        refine g_iload_n (q := 36) dX6_led_35 rfl rfl ?_
        refine g_iconst (q := 37) dX6_led_36 ci_0 rfl ?_
        refine g_iconst (q := 38) dX6_led_37 ci_1 rfl ?_
        refine g_callSi (q := 41) (c_X6_within hE ) lk_RX6_61 rfl rfl rfl rfl (Nat.le_of_ble_eq_true rfl) (Nat.le_of_ble_eq_true rfl) (Nat.le_of_ble_eq_true rfl) dX6_led_38 rfl ?_
        refine g_if_ne (t := 47) (q := 44) dX6_led_41 (by decide) rfl (fun c_41 => ?_) (fun c_41 => ?_)
        · rw [bI_n0] at c_41
          refine g_aload_n (q := 48) dX6_led_47 rfl rfl ?_
          refine f6_4 (q := 51) wd_270 dX6_led_48 rfl ?_
          refine g_aload_n (q := 52) dX6_led_51 rfl rfl ?_
          refine f6_2 (q := 55) wd_268 dX6_led_52 rfl ?_
          refine g_iload_n (q := 56) dX6_led_55 rfl rfl ?_
          refine g_iload_n (q := 57) dX6_led_56 rfl rfl ?_
          refine g_bipush (q := 59) dX6_led_57 cb_40 rfl ?_
          refine g_callVvp (q := 62) (c_X4_findSoonest hE w (room_in w c_21) (show (40 : Int32) = nI 41 - 1 from rfl) (by decide)) lk_RX6_228 (by decide) (by decide) rfl (by decide) rfl rfl rfl rfl rfl rfl (Nat.le_of_ble_eq_true rfl) (Nat.le_of_ble_eq_true rfl) (Nat.le_of_ble_eq_true rfl) dX6_led_59 rfl (fun σ_59 τ_59 hp_59 => ?_)
          obtain ⟨hf, q1, q2, ht⟩ := hp_59
          refine g_aload_n (q := 63) dX6_led_62 rfl rfl ?_
          refine f6_4 (q := 66) wd_270 dX6_led_63 rfl ?_
          refine g_iload_n (q := 67) dX6_led_66 rfl rfl ?_
          refine g_callVi (q := 70) (c_X4_told hE ) lk_RX6_214 (by decide) (by decide) rfl (by decide) rfl rfl rfl rfl rfl rfl (Nat.le_of_ble_eq_true rfl) (Nat.le_of_ble_eq_true rfl) (Nat.le_of_ble_eq_true rfl) dX6_led_67 rfl ?_
          refine g_iret dX6_led_70 ⟨_, rfl, ?_⟩
          have hv : m_led σ ro t u = if u = 0 then (s_so (fun s r M => s_hu (vSit (vw σ 7) s (nI r)) (σ (7 + 6)) ro t 0 M) 41 ((σ 7 0).toNatClampNeg) (s_hu (vw σ 7) (σ (7 + 6)) ro t 0 41, NO) ((σ 7 7).toNatClampNeg)).1 else (s_so (fun s r M => s_hu (vSit (vw σ 7) s (nI r)) (σ (7 + 6)) ro t 0 M) 41 ((σ 7 0).toNatClampNeg) (s_hu (vw σ 7) (σ (7 + 6)) ro t 0 41, NO) ((σ 7 7).toNatClampNeg)).2 := by simp only [m_led, c_7, c_21, c_32, c_41, not_true_eq_false, not_false_eq_true, if_true, if_false, Bool.true_eq_false, Bool.false_eq_true, reduceIte, reduceCtorEq]
          rw [hv]
          exact ⟨by rw [q1, q2], hf⟩
        · rw [bI_0] at c_41
          refine g_ldc (q := 46) dX6_led_44 wd_307 rfl ?_
          refine g_iret dX6_led_46 ⟨_, rfl, ?_⟩
          exact ⟨by simp only [m_led, c_7, c_21, c_32, c_41, not_true_eq_false, not_false_eq_true, if_true, if_false, Bool.true_eq_false, Bool.false_eq_true, reduceIte, reduceCtorEq], frS_rf σ⟩
  · rw [bI_0] at c_7
    change stB σ = false at c_7
    refine g_ldc (q := 12) dX6_led_10 wd_465 rfl ?_
    refine g_iret dX6_led_12 ⟨_, rfl, ?_⟩
    exact ⟨by simp only [m_led, c_7, not_true_eq_false, not_false_eq_true, if_true, if_false, Bool.true_eq_false, Bool.false_eq_true, reduceIte, reduceCtorEq], frS_rf σ⟩
def m_parted (σ : Sto) (a b u : Int32) : Int32 := if stB σ = false then -1000002 else if s_lt a (σ 7 0) = false then -1000001 else if s_lt b (σ 7 0) = false then -1000001 else if wi u 0 1 = false then -1000001 else if u = 0 then (if a = b then (NO, NO) else s_ds (vw σ 7) a b (2 ^ (σ 7 5).toNatClampNeg)).1 else (if a = b then (NO, NO) else s_ds (vw σ 7) a b (2 ^ (σ 7 5).toNatClampNeg)).2
set_option maxRecDepth 20000 in
set_option maxHeartbeats 4000000 in
theorem c_X6_parted {E : EE} (hE : inj E 0 40) {σ : Sto} {τ : Stl} {a b u : Int32} (w : WFH σ 7) : Ct E 0 40 yX6_parted cX6_parted 4 (some FieldType.int) { frames := 3, cells := 0, slots := 0, locals := 76 } [.ref (E.2.1 0), .int a, .int b, .int u] σ τ (PiP (fun x σ' τ' => x = m_parted σ a b u ∧ frS σ σ')) := by
  refine ct_of hE RX6 [some (.ref (E.2.1 0)), some (.int a), some (.int b), some (.int u)] (by decide) rfl (Nat.le_of_ble_eq_true rfl) rfl (fun X => ?_)
  refine g_aload_n (q := 1) dX6_parted_0 rfl rfl ?_
  refine f6_2 (q := 4) wd_268 dX6_parted_1 rfl ?_
  refine g_callVi (q := 7) (c_X1_stands hE rfl) lk_RX6_144 (Nat.zero_le _) (h_lt rfl) rfl (by decide) rfl rfl rfl rfl rfl rfl (Nat.le_of_ble_eq_true rfl) (Nat.le_of_ble_eq_true rfl) (Nat.le_of_ble_eq_true rfl) dX6_parted_4 rfl ?_
  refine g_if_ne (t := 13) (q := 10) dX6_parted_7 (by decide) rfl (fun c_7 => ?_) (fun c_7 => ?_)
  · rw [bI_n0] at c_7
    change stB σ = true at c_7
    refine g_aload_n (q := 14) dX6_parted_13 rfl rfl ?_
    refine f6_2 (q := 17) wd_268 dX6_parted_14 rfl ?_
    refine g_iload_n (q := 18) dX6_parted_17 rfl rfl ?_
    refine g_callVi (q := 21) (c_X1_hasRoom hE rfl) lk_RX6_176 (Nat.zero_le _) (h_lt rfl) rfl (by decide) rfl rfl rfl rfl rfl rfl (Nat.le_of_ble_eq_true rfl) (Nat.le_of_ble_eq_true rfl) (Nat.le_of_ble_eq_true rfl) dX6_parted_18 rfl ?_
    refine g_if_eq (t := 44) (q := 24) dX6_parted_21 (by decide) rfl (fun c_21 => ?_) (fun c_21 => ?_)
    · rw [bI_0] at c_21
      refine g_ldc (q := 46) dX6_parted_44 wd_307 rfl ?_
      refine g_iret dX6_parted_46 ⟨_, rfl, ?_⟩
      exact ⟨by simp only [m_parted, c_7, c_21, not_true_eq_false, not_false_eq_true, if_true, if_false, Bool.true_eq_false, Bool.false_eq_true, reduceIte, reduceCtorEq], frS_rf σ⟩
    · rw [bI_n0] at c_21
      refine g_aload_n (q := 25) dX6_parted_24 rfl rfl ?_
      refine f6_2 (q := 28) wd_268 dX6_parted_25 rfl ?_
      refine g_iload_n (q := 29) dX6_parted_28 rfl rfl ?_
      refine g_callVi (q := 32) (c_X1_hasRoom hE rfl) lk_RX6_176 (Nat.zero_le _) (h_lt rfl) rfl (by decide) rfl rfl rfl rfl rfl rfl (Nat.le_of_ble_eq_true rfl) (Nat.le_of_ble_eq_true rfl) (Nat.le_of_ble_eq_true rfl) dX6_parted_29 rfl ?_
      refine g_if_eq (t := 44) (q := 35) dX6_parted_32 (by decide) rfl (fun c_32 => ?_) (fun c_32 => ?_)
      · rw [bI_0] at c_32
        refine g_ldc (q := 46) dX6_parted_44 wd_307 rfl ?_
        refine g_iret dX6_parted_46 ⟨_, rfl, ?_⟩
        exact ⟨by simp only [m_parted, c_7, c_21, c_32, not_true_eq_false, not_false_eq_true, if_true, if_false, Bool.true_eq_false, Bool.false_eq_true, reduceIte, reduceCtorEq], frS_rf σ⟩
      · rw [bI_n0] at c_32
        refine g_iload_n (q := 36) dX6_parted_35 rfl rfl ?_
        refine g_iconst (q := 37) dX6_parted_36 ci_0 rfl ?_
        refine g_iconst (q := 38) dX6_parted_37 ci_1 rfl ?_
        refine g_callSi (q := 41) (c_X6_within hE ) lk_RX6_61 rfl rfl rfl rfl (Nat.le_of_ble_eq_true rfl) (Nat.le_of_ble_eq_true rfl) (Nat.le_of_ble_eq_true rfl) dX6_parted_38 rfl ?_
        refine g_if_ne (t := 47) (q := 44) dX6_parted_41 (by decide) rfl (fun c_41 => ?_) (fun c_41 => ?_)
        · rw [bI_n0] at c_41
          refine g_aload_n (q := 48) dX6_parted_47 rfl rfl ?_
          refine f6_4 (q := 51) wd_270 dX6_parted_48 rfl ?_
          refine g_aload_n (q := 52) dX6_parted_51 rfl rfl ?_
          refine f6_2 (q := 55) wd_268 dX6_parted_52 rfl ?_
          refine g_iload_n (q := 56) dX6_parted_55 rfl rfl ?_
          refine g_iload_n (q := 57) dX6_parted_56 rfl rfl ?_
          refine g_callVvp (q := 60) (c_X4_findDoorsToShut hE w (of_decide_eq_true c_7)) lk_RX6_242 (by decide) (by decide) rfl (by decide) rfl rfl rfl rfl rfl rfl (Nat.le_of_ble_eq_true rfl) (Nat.le_of_ble_eq_true rfl) (Nat.le_of_ble_eq_true rfl) dX6_parted_57 rfl (fun σ_57 τ_57 hp_57 => ?_)
          obtain ⟨hf, q1, q2, ht⟩ := hp_57
          refine g_aload_n (q := 61) dX6_parted_60 rfl rfl ?_
          refine f6_4 (q := 64) wd_270 dX6_parted_61 rfl ?_
          refine g_iload_n (q := 65) dX6_parted_64 rfl rfl ?_
          refine g_callVi (q := 68) (c_X4_told hE ) lk_RX6_214 (by decide) (by decide) rfl (by decide) rfl rfl rfl rfl rfl rfl (Nat.le_of_ble_eq_true rfl) (Nat.le_of_ble_eq_true rfl) (Nat.le_of_ble_eq_true rfl) dX6_parted_65 rfl ?_
          refine g_iret dX6_parted_68 ⟨_, rfl, ?_⟩
          have hv : m_parted σ a b u = if u = 0 then (if a = b then (NO, NO) else s_ds (vw σ 7) a b (2 ^ (σ 7 5).toNatClampNeg)).1 else (if a = b then (NO, NO) else s_ds (vw σ 7) a b (2 ^ (σ 7 5).toNatClampNeg)).2 := by simp only [m_parted, c_7, c_21, c_32, c_41, not_true_eq_false, not_false_eq_true, if_true, if_false, Bool.true_eq_false, Bool.false_eq_true, reduceIte, reduceCtorEq]
          rw [hv]
          exact ⟨by rw [q1, q2], hf⟩
        · rw [bI_0] at c_41
          refine g_ldc (q := 46) dX6_parted_44 wd_307 rfl ?_
          refine g_iret dX6_parted_46 ⟨_, rfl, ?_⟩
          exact ⟨by simp only [m_parted, c_7, c_21, c_32, c_41, not_true_eq_false, not_false_eq_true, if_true, if_false, Bool.true_eq_false, Bool.false_eq_true, reduceIte, reduceCtorEq], frS_rf σ⟩
  · rw [bI_0] at c_7
    change stB σ = false at c_7
    refine g_ldc (q := 12) dX6_parted_10 wd_465 rfl ?_
    refine g_iret dX6_parted_12 ⟨_, rfl, ?_⟩
    exact ⟨by simp only [m_parted, c_7, not_true_eq_false, not_false_eq_true, if_true, if_false, Bool.true_eq_false, Bool.false_eq_true, reduceIte, reduceCtorEq], frS_rf σ⟩
def m_coldest (σ : Sto) (n u : Int32) : Int32 := if stB σ = false then -1000002 else if wi n 0 60 = false then -1000001 else if wi u 0 1 = false then -1000001 else if u = 0 then (s_co (hcs (vw σ 7) (σ (7 + 6)) (n.toNatClampNeg)) ((σ 7 0).toNatClampNeg - 1)).1 else (s_co (hcs (vw σ 7) (σ (7 + 6)) (n.toNatClampNeg)) ((σ 7 0).toNatClampNeg - 1)).2
set_option maxRecDepth 20000 in
set_option maxHeartbeats 4000000 in
theorem c_X6_coldest {E : EE} (hE : inj E 0 40) {σ : Sto} {τ : Stl} {n u : Int32} (w : WFH σ 7) : Ct E 0 40 yX6_coldest cX6_coldest 3 (some FieldType.int) { frames := 5, cells := 0, slots := 0, locals := 119 } [.ref (E.2.1 0), .int n, .int u] σ τ (PiP (fun x σ' τ' => x = m_coldest σ n u ∧ frS σ σ')) := by
  refine ct_of hE RX6 [some (.ref (E.2.1 0)), some (.int n), some (.int u)] (by decide) rfl (Nat.le_of_ble_eq_true rfl) rfl (fun X => ?_)
  refine g_aload_n (q := 1) dX6_coldest_0 rfl rfl ?_
  refine f6_2 (q := 4) wd_268 dX6_coldest_1 rfl ?_
  refine g_callVi (q := 7) (c_X1_stands hE rfl) lk_RX6_144 (Nat.zero_le _) (h_lt rfl) rfl (by decide) rfl rfl rfl rfl rfl rfl (Nat.le_of_ble_eq_true rfl) (Nat.le_of_ble_eq_true rfl) (Nat.le_of_ble_eq_true rfl) dX6_coldest_4 rfl ?_
  refine g_if_ne (t := 13) (q := 10) dX6_coldest_7 (by decide) rfl (fun c_7 => ?_) (fun c_7 => ?_)
  · rw [bI_n0] at c_7
    change stB σ = true at c_7
    refine g_iload_n (q := 14) dX6_coldest_13 rfl rfl ?_
    refine g_iconst (q := 15) dX6_coldest_14 ci_0 rfl ?_
    refine g_bipush (q := 17) dX6_coldest_15 cb_60 rfl ?_
    refine g_callSi (q := 20) (c_X6_within hE ) lk_RX6_61 rfl rfl rfl rfl (Nat.le_of_ble_eq_true rfl) (Nat.le_of_ble_eq_true rfl) (Nat.le_of_ble_eq_true rfl) dX6_coldest_17 rfl ?_
    refine g_if_eq (t := 32) (q := 23) dX6_coldest_20 (by decide) rfl (fun c_20 => ?_) (fun c_20 => ?_)
    · rw [bI_0] at c_20
      refine g_ldc (q := 34) dX6_coldest_32 wd_307 rfl ?_
      refine g_iret dX6_coldest_34 ⟨_, rfl, ?_⟩
      exact ⟨by simp only [m_coldest, c_7, c_20, not_true_eq_false, not_false_eq_true, if_true, if_false, Bool.true_eq_false, Bool.false_eq_true, reduceIte, reduceCtorEq], frS_rf σ⟩
    · rw [bI_n0] at c_20
      refine g_iload_n (q := 24) dX6_coldest_23 rfl rfl ?_
      refine g_iconst (q := 25) dX6_coldest_24 ci_0 rfl ?_
      refine g_iconst (q := 26) dX6_coldest_25 ci_1 rfl ?_
      refine g_callSi (q := 29) (c_X6_within hE ) lk_RX6_61 rfl rfl rfl rfl (Nat.le_of_ble_eq_true rfl) (Nat.le_of_ble_eq_true rfl) (Nat.le_of_ble_eq_true rfl) dX6_coldest_26 rfl ?_
      refine g_if_ne (t := 35) (q := 32) dX6_coldest_29 (by decide) rfl (fun c_29 => ?_) (fun c_29 => ?_)
      · rw [bI_n0] at c_29
        refine g_aload_n (q := 36) dX6_coldest_35 rfl rfl ?_
        refine f6_4 (q := 39) wd_270 dX6_coldest_36 rfl ?_
        refine g_aload_n (q := 40) dX6_coldest_39 rfl rfl ?_
        refine f6_2 (q := 43) wd_268 dX6_coldest_40 rfl ?_
        refine g_iload_n (q := 44) dX6_coldest_43 rfl rfl ?_
        refine g_callVvp (q := 47) (c_X4_findColdest hE w (wi_nn c_20 (by decide)) (of_decide_eq_true c_7)) lk_RX6_246 (by decide) (by decide) rfl (by decide) rfl rfl rfl rfl rfl rfl (Nat.le_of_ble_eq_true rfl) (Nat.le_of_ble_eq_true rfl) (Nat.le_of_ble_eq_true rfl) dX6_coldest_44 rfl (fun σ_44 τ_44 hp_44 => ?_)
        obtain ⟨hf, q1, q2, ht⟩ := hp_44
        refine g_aload_n (q := 48) dX6_coldest_47 rfl rfl ?_
        refine f6_4 (q := 51) wd_270 dX6_coldest_48 rfl ?_
        refine g_iload_n (q := 52) dX6_coldest_51 rfl rfl ?_
        refine g_callVi (q := 55) (c_X4_told hE ) lk_RX6_214 (by decide) (by decide) rfl (by decide) rfl rfl rfl rfl rfl rfl (Nat.le_of_ble_eq_true rfl) (Nat.le_of_ble_eq_true rfl) (Nat.le_of_ble_eq_true rfl) dX6_coldest_52 rfl ?_
        refine g_iret dX6_coldest_55 ⟨_, rfl, ?_⟩
        have hv : m_coldest σ n u = if u = 0 then (s_co (hcs (vw σ 7) (σ (7 + 6)) (n.toNatClampNeg)) ((σ 7 0).toNatClampNeg - 1)).1 else (s_co (hcs (vw σ 7) (σ (7 + 6)) (n.toNatClampNeg)) ((σ 7 0).toNatClampNeg - 1)).2 := by simp only [m_coldest, c_7, c_20, c_29, not_true_eq_false, not_false_eq_true, if_true, if_false, Bool.true_eq_false, Bool.false_eq_true, reduceIte, reduceCtorEq]
        rw [hv]
        exact ⟨by rw [q1, q2], hf⟩
      · rw [bI_0] at c_29
        refine g_ldc (q := 34) dX6_coldest_32 wd_307 rfl ?_
        refine g_iret dX6_coldest_34 ⟨_, rfl, ?_⟩
        exact ⟨by simp only [m_coldest, c_7, c_20, c_29, not_true_eq_false, not_false_eq_true, if_true, if_false, Bool.true_eq_false, Bool.false_eq_true, reduceIte, reduceCtorEq], frS_rf σ⟩
  · rw [bI_0] at c_7
    change stB σ = false at c_7
    refine g_ldc (q := 12) dX6_coldest_10 wd_465 rfl ?_
    refine g_iret dX6_coldest_12 ⟨_, rfl, ?_⟩
    exact ⟨by simp only [m_coldest, c_7, not_true_eq_false, not_false_eq_true, if_true, if_false, Bool.true_eq_false, Bool.false_eq_true, reduceIte, reduceCtorEq], frS_rf σ⟩
def m_drawn (σ : Sto) (n sd u : Int32) : Int32 := if stB σ = false then -1000002 else if wi n 0 60 = false then -1000001 else if wi sd 1 999999 = false then -1000001 else if wi u 0 1 = false then -1000001 else if u = 0 then s_ac (dr (vw σ 7) (σ (7 + 6)) sd.toInt64 (n.toNatClampNeg)).2.1 (((dr (vw σ 7) (σ (7 + 6)) sd.toInt64 (n.toNatClampNeg)).1 0 0).toNatClampNeg) else (dr (vw σ 7) (σ (7 + 6)) sd.toInt64 (n.toNatClampNeg)).2.2.2
set_option maxRecDepth 20000 in
set_option maxHeartbeats 4000000 in
theorem c_X6_drawn {E : EE} (hE : inj E 0 40) {σ : Sto} {τ : Stl} {n sd u : Int32} (w : WFH σ 7) : Ct E 0 40 yX6_drawn cX6_drawn 4 (some FieldType.int) { frames := 5, cells := 0, slots := 0, locals := 121 } [.ref (E.2.1 0), .int n, .int sd, .int u] σ τ (PiP (fun x σ' τ' => x = m_drawn σ n sd u ∧ frS σ σ')) := by
  refine ct_of hE RX6 [some (.ref (E.2.1 0)), some (.int n), some (.int sd), some (.int u)] (by decide) rfl (Nat.le_of_ble_eq_true rfl) rfl (fun X => ?_)
  refine g_aload_n (q := 1) dX6_drawn_0 rfl rfl ?_
  refine f6_2 (q := 4) wd_268 dX6_drawn_1 rfl ?_
  refine g_callVi (q := 7) (c_X1_stands hE rfl) lk_RX6_144 (Nat.zero_le _) (h_lt rfl) rfl (by decide) rfl rfl rfl rfl rfl rfl (Nat.le_of_ble_eq_true rfl) (Nat.le_of_ble_eq_true rfl) (Nat.le_of_ble_eq_true rfl) dX6_drawn_4 rfl ?_
  refine g_if_ne (t := 13) (q := 10) dX6_drawn_7 (by decide) rfl (fun c_7 => ?_) (fun c_7 => ?_)
  · rw [bI_n0] at c_7
    change stB σ = true at c_7
    refine g_iload_n (q := 14) dX6_drawn_13 rfl rfl ?_
    refine g_iconst (q := 15) dX6_drawn_14 ci_0 rfl ?_
    refine g_bipush (q := 17) dX6_drawn_15 cb_60 rfl ?_
    refine g_callSi (q := 20) (c_X6_within hE ) lk_RX6_61 rfl rfl rfl rfl (Nat.le_of_ble_eq_true rfl) (Nat.le_of_ble_eq_true rfl) (Nat.le_of_ble_eq_true rfl) dX6_drawn_17 rfl ?_
    refine g_if_eq (t := 43) (q := 23) dX6_drawn_20 (by decide) rfl (fun c_20 => ?_) (fun c_20 => ?_)
    · rw [bI_0] at c_20
      refine g_ldc (q := 45) dX6_drawn_43 wd_307 rfl ?_
      refine g_iret dX6_drawn_45 ⟨_, rfl, ?_⟩
      exact ⟨by simp only [m_drawn, c_7, c_20, not_true_eq_false, not_false_eq_true, if_true, if_false, Bool.true_eq_false, Bool.false_eq_true, reduceIte, reduceCtorEq], frS_rf σ⟩
    · rw [bI_n0] at c_20
      refine g_iload_n (q := 24) dX6_drawn_23 rfl rfl ?_
      refine g_iconst (q := 25) dX6_drawn_24 ci_1 rfl ?_
      refine g_ldcw (q := 28) dX6_drawn_25 wd_738 rfl ?_
      refine g_callSi (q := 31) (c_X6_within hE ) lk_RX6_61 rfl rfl rfl rfl (Nat.le_of_ble_eq_true rfl) (Nat.le_of_ble_eq_true rfl) (Nat.le_of_ble_eq_true rfl) dX6_drawn_28 rfl ?_
      refine g_if_eq (t := 43) (q := 34) dX6_drawn_31 (by decide) rfl (fun c_31 => ?_) (fun c_31 => ?_)
      · rw [bI_0] at c_31
        refine g_ldc (q := 45) dX6_drawn_43 wd_307 rfl ?_
        refine g_iret dX6_drawn_45 ⟨_, rfl, ?_⟩
        exact ⟨by simp only [m_drawn, c_7, c_20, c_31, not_true_eq_false, not_false_eq_true, if_true, if_false, Bool.true_eq_false, Bool.false_eq_true, reduceIte, reduceCtorEq], frS_rf σ⟩
      · rw [bI_n0] at c_31
        refine g_iload_n (q := 35) dX6_drawn_34 rfl rfl ?_
        refine g_iconst (q := 36) dX6_drawn_35 ci_0 rfl ?_
        refine g_iconst (q := 37) dX6_drawn_36 ci_1 rfl ?_
        refine g_callSi (q := 40) (c_X6_within hE ) lk_RX6_61 rfl rfl rfl rfl (Nat.le_of_ble_eq_true rfl) (Nat.le_of_ble_eq_true rfl) (Nat.le_of_ble_eq_true rfl) dX6_drawn_37 rfl ?_
        refine g_if_ne (t := 46) (q := 43) dX6_drawn_40 (by decide) rfl (fun c_40 => ?_) (fun c_40 => ?_)
        · rw [bI_n0] at c_40
          refine g_aload_n (q := 47) dX6_drawn_46 rfl rfl ?_
          refine f6_4 (q := 50) wd_270 dX6_drawn_47 rfl ?_
          refine g_aload_n (q := 51) dX6_drawn_50 rfl rfl ?_
          refine f6_2 (q := 54) wd_268 dX6_drawn_51 rfl ?_
          refine g_iload_n (q := 55) dX6_drawn_54 rfl rfl ?_
          refine g_iload_n (q := 56) dX6_drawn_55 rfl rfl ?_
          refine g_callVvp (q := 59) (c_X4_drawHours hE w (wi_nn c_20 (by decide))) lk_RX6_268 (by decide) (by decide) rfl (by decide) rfl rfl rfl rfl rfl rfl (Nat.le_of_ble_eq_true rfl) (Nat.le_of_ble_eq_true rfl) (Nat.le_of_ble_eq_true rfl) dX6_drawn_56 rfl (fun σ_56 τ_56 hp_56 => ?_)
          obtain ⟨hf, q1, q2, ht⟩ := hp_56
          refine g_aload_n (q := 60) dX6_drawn_59 rfl rfl ?_
          refine f6_4 (q := 63) wd_270 dX6_drawn_60 rfl ?_
          refine g_iload_n (q := 64) dX6_drawn_63 rfl rfl ?_
          refine g_callVi (q := 67) (c_X4_told hE ) lk_RX6_214 (by decide) (by decide) rfl (by decide) rfl rfl rfl rfl rfl rfl (Nat.le_of_ble_eq_true rfl) (Nat.le_of_ble_eq_true rfl) (Nat.le_of_ble_eq_true rfl) dX6_drawn_64 rfl ?_
          refine g_iret dX6_drawn_67 ⟨_, rfl, ?_⟩
          have hv : m_drawn σ n sd u = if u = 0 then s_ac (dr (vw σ 7) (σ (7 + 6)) sd.toInt64 (n.toNatClampNeg)).2.1 (((dr (vw σ 7) (σ (7 + 6)) sd.toInt64 (n.toNatClampNeg)).1 0 0).toNatClampNeg) else (dr (vw σ 7) (σ (7 + 6)) sd.toInt64 (n.toNatClampNeg)).2.2.2 := by simp only [m_drawn, c_7, c_20, c_31, c_40, not_true_eq_false, not_false_eq_true, if_true, if_false, Bool.true_eq_false, Bool.false_eq_true, reduceIte, reduceCtorEq]
          rw [hv]
          exact ⟨by rw [q1, q2], hf⟩
        · rw [bI_0] at c_40
          refine g_ldc (q := 45) dX6_drawn_43 wd_307 rfl ?_
          refine g_iret dX6_drawn_45 ⟨_, rfl, ?_⟩
          exact ⟨by simp only [m_drawn, c_7, c_20, c_31, c_40, not_true_eq_false, not_false_eq_true, if_true, if_false, Bool.true_eq_false, Bool.false_eq_true, reduceIte, reduceCtorEq], frS_rf σ⟩
  · rw [bI_0] at c_7
    change stB σ = false at c_7
    refine g_ldc (q := 12) dX6_drawn_10 wd_465 rfl ?_
    refine g_iret dX6_drawn_12 ⟨_, rfl, ?_⟩
    exact ⟨by simp only [m_drawn, c_7, not_true_eq_false, not_false_eq_true, if_true, if_false, Bool.true_eq_false, Bool.false_eq_true, reduceIte, reduceCtorEq], frS_rf σ⟩
def m_wind (σ : Sto) (r pp u : Int32) : Int64 := if stB σ = false then -1000002 else if s_lt r (σ 7 0) = false then -1000001 else if wi pp 0 10 = false then -1000001 else if wi u 0 1 = false then -1000001 else if u = 0 then (s_od (vw σ 7) (σ (7 + 6)) r pp (2 ^ (σ 7 5).toNatClampNeg)) / comm (s_od (vw σ 7) (σ (7 + 6)) r pp (2 ^ (σ 7 5).toNatClampNeg)) (s_pw 10 ((s_bc (σ 7 6)).toNatClampNeg)) else (s_pw 10 ((s_bc (σ 7 6)).toNatClampNeg)) / comm (s_od (vw σ 7) (σ (7 + 6)) r pp (2 ^ (σ 7 5).toNatClampNeg)) (s_pw 10 ((s_bc (σ 7 6)).toNatClampNeg))
set_option maxRecDepth 20000 in
set_option maxHeartbeats 4000000 in
theorem c_X6_wind {E : EE} (hE : inj E 0 40) {σ : Sto} {τ : Stl} {r pp u : Int32} (w : WFH σ 7) : Ct E 0 40 yX6_wind cX6_wind 4 (some FieldType.long) { frames := 5, cells := 0, slots := 0, locals := 126 } [.ref (E.2.1 0), .int r, .int pp, .int u] σ τ (PlP (fun x σ' τ' => x = m_wind σ r pp u ∧ frS σ σ')) := by
  refine ct_of hE RX6 [some (.ref (E.2.1 0)), some (.int r), some (.int pp), some (.int u)] (by decide) rfl (Nat.le_of_ble_eq_true rfl) rfl (fun X => ?_)
  refine g_aload_n (q := 1) dX6_wind_0 rfl rfl ?_
  refine f6_2 (q := 4) wd_268 dX6_wind_1 rfl ?_
  refine g_callVi (q := 7) (c_X1_stands hE rfl) lk_RX6_144 (Nat.zero_le _) (h_lt rfl) rfl (by decide) rfl rfl rfl rfl rfl rfl (Nat.le_of_ble_eq_true rfl) (Nat.le_of_ble_eq_true rfl) (Nat.le_of_ble_eq_true rfl) dX6_wind_4 rfl ?_
  refine g_if_ne (t := 14) (q := 10) dX6_wind_7 (by decide) rfl (fun c_7 => ?_) (fun c_7 => ?_)
  · rw [bI_n0] at c_7
    change stB σ = true at c_7
    refine g_aload_n (q := 15) dX6_wind_14 rfl rfl ?_
    refine f6_2 (q := 18) wd_268 dX6_wind_15 rfl ?_
    refine g_iload_n (q := 19) dX6_wind_18 rfl rfl ?_
    refine g_callVi (q := 22) (c_X1_hasRoom hE rfl) lk_RX6_176 (Nat.zero_le _) (h_lt rfl) rfl (by decide) rfl rfl rfl rfl rfl rfl (Nat.le_of_ble_eq_true rfl) (Nat.le_of_ble_eq_true rfl) (Nat.le_of_ble_eq_true rfl) dX6_wind_19 rfl ?_
    refine g_if_eq (t := 44) (q := 25) dX6_wind_22 (by decide) rfl (fun c_22 => ?_) (fun c_22 => ?_)
    · rw [bI_0] at c_22
      refine g_ldc2 (q := 47) dX6_wind_44 wd_716 rfl ?_
      refine g_lret dX6_wind_47 ⟨_, rfl, ?_⟩
      exact ⟨by simp only [m_wind, c_7, c_22, not_true_eq_false, not_false_eq_true, if_true, if_false, Bool.true_eq_false, Bool.false_eq_true, reduceIte, reduceCtorEq], frS_rf σ⟩
    · rw [bI_n0] at c_22
      refine g_iload_n (q := 26) dX6_wind_25 rfl rfl ?_
      refine g_iconst (q := 27) dX6_wind_26 ci_0 rfl ?_
      refine g_bipush (q := 29) dX6_wind_27 cb_10 rfl ?_
      refine g_callSi (q := 32) (c_X6_within hE ) lk_RX6_61 rfl rfl rfl rfl (Nat.le_of_ble_eq_true rfl) (Nat.le_of_ble_eq_true rfl) (Nat.le_of_ble_eq_true rfl) dX6_wind_29 rfl ?_
      refine g_if_eq (t := 44) (q := 35) dX6_wind_32 (by decide) rfl (fun c_32 => ?_) (fun c_32 => ?_)
      · rw [bI_0] at c_32
        refine g_ldc2 (q := 47) dX6_wind_44 wd_716 rfl ?_
        refine g_lret dX6_wind_47 ⟨_, rfl, ?_⟩
        exact ⟨by simp only [m_wind, c_7, c_22, c_32, not_true_eq_false, not_false_eq_true, if_true, if_false, Bool.true_eq_false, Bool.false_eq_true, reduceIte, reduceCtorEq], frS_rf σ⟩
      · rw [bI_n0] at c_32
        refine g_iload_n (q := 36) dX6_wind_35 rfl rfl ?_
        refine g_iconst (q := 37) dX6_wind_36 ci_0 rfl ?_
        refine g_iconst (q := 38) dX6_wind_37 ci_1 rfl ?_
        refine g_callSi (q := 41) (c_X6_within hE ) lk_RX6_61 rfl rfl rfl rfl (Nat.le_of_ble_eq_true rfl) (Nat.le_of_ble_eq_true rfl) (Nat.le_of_ble_eq_true rfl) dX6_wind_38 rfl ?_
        refine g_if_ne (t := 48) (q := 44) dX6_wind_41 (by decide) rfl (fun c_41 => ?_) (fun c_41 => ?_)
        · rw [bI_n0] at c_41
          refine g_aload_n (q := 49) dX6_wind_48 rfl rfl ?_
          refine f6_4 (q := 52) wd_270 dX6_wind_49 rfl ?_
          refine g_aload_n (q := 53) dX6_wind_52 rfl rfl ?_
          refine f6_2 (q := 56) wd_268 dX6_wind_53 rfl ?_
          refine g_iload_n (q := 57) dX6_wind_56 rfl rfl ?_
          refine g_iload_n (q := 58) dX6_wind_57 rfl rfl ?_
          refine g_callVvp (q := 61) (c_X4_findOdds hE w (room_in w c_22)) lk_RX6_257 (by decide) (by decide) rfl (by decide) rfl rfl rfl rfl rfl rfl (Nat.le_of_ble_eq_true rfl) (Nat.le_of_ble_eq_true rfl) (Nat.le_of_ble_eq_true rfl) dX6_wind_58 rfl (fun σ_58 τ_58 hp_58 => ?_)
          obtain ⟨hf, ht⟩ := hp_58
          refine g_iload_n (q := 62) dX6_wind_61 rfl rfl ?_
          refine g_if_ne (t := 75) (q := 65) dX6_wind_62 (by decide) rfl (fun c_62 => ?_) (fun c_62 => ?_)
          · refine g_aload_n (q := 76) dX6_wind_75 rfl rfl ?_
            refine f6_4 (q := 79) wd_270 dX6_wind_76 rfl ?_
            refine f4_4 (q := 82) wd_241 dX6_wind_79 rfl ?_
            refine g_lret dX6_wind_82 ⟨_, rfl, ?_⟩
            exact ⟨by simp only [m_wind, ht, c_7, c_22, c_32, c_41, c_62, not_true_eq_false, not_false_eq_true, if_true, if_false, Bool.true_eq_false, Bool.false_eq_true, reduceIte, reduceCtorEq]; rfl, frS_T (frS_rf σ) hf⟩
          · refine g_aload_n (q := 66) dX6_wind_65 rfl rfl ?_
            refine f6_4 (q := 69) wd_270 dX6_wind_66 rfl ?_
            refine f4_3 (q := 72) wd_239 dX6_wind_69 rfl ?_
            refine g_goto (t := 82) dX6_wind_72 (by decide) ?_
            refine g_lret dX6_wind_82 ⟨_, rfl, ?_⟩
            exact ⟨by simp only [m_wind, ht, c_7, c_22, c_32, c_41, c_62, not_true_eq_false, not_false_eq_true, if_true, if_false, Bool.true_eq_false, Bool.false_eq_true, reduceIte, reduceCtorEq]; rfl, frS_T (frS_rf σ) hf⟩
        · rw [bI_0] at c_41
          refine g_ldc2 (q := 47) dX6_wind_44 wd_716 rfl ?_
          refine g_lret dX6_wind_47 ⟨_, rfl, ?_⟩
          exact ⟨by simp only [m_wind, c_7, c_22, c_32, c_41, not_true_eq_false, not_false_eq_true, if_true, if_false, Bool.true_eq_false, Bool.false_eq_true, reduceIte, reduceCtorEq], frS_rf σ⟩
  · rw [bI_0] at c_7
    change stB σ = false at c_7
    refine g_ldc2 (q := 13) dX6_wind_10 wd_715 rfl ?_
    refine g_lret dX6_wind_13 ⟨_, rfl, ?_⟩
    exact ⟨by simp only [m_wind, c_7, not_true_eq_false, not_false_eq_true, if_true, if_false, Bool.true_eq_false, Bool.false_eq_true, reduceIte, reduceCtorEq], frS_rf σ⟩
def frC (σ σ' : Sto) : Prop := ∀ k, k ≠ 0 → ¬ (16 ≤ k ∧ k < 24) → σ' k = σ k
theorem frC_rf (σ : Sto) : frC σ σ := fun _ _ _ => rfl
theorem frC_f {σ a : Sto} (h : frC σ a) (n : Int32) : frC σ (fnd a n) := fun k h1 h2 => (upc_ne h1).trans (h k h1 h2)
theorem frC_T {σ a : Sto} (h : frT σ a) : frC σ a := fun k _ h2 => h k (by omega)
theorem fnd_9 (σ : Sto) (n : Int32) : fnd σ n 0 9 = n := by unfold fnd; rw [upc_same, upd_same]
theorem fnd_8 (σ : Sto) (n : Int32) : fnd σ n 0 8 = σ 0 8 := by unfold fnd; rw [upc_same, upd_ne (by decide)]
theorem mul_tn {n r : Int32} (hn : vp_in n 7) (hr : vp_in r 7) : (n * r).toNatClampNeg = n.toNatClampNeg * r.toNatClampNeg := by
  obtain ⟨e1, h1⟩ := vp_to hn (by decide)
  obtain ⟨e2, h2⟩ := vp_to hr (by decide)
  have e3 : n * r = nI (n.toNatClampNeg * r.toNatClampNeg) := by
    have := pk_mul (n.toNatClampNeg) (r.toNatClampNeg)
    rw [← e1, ← e2] at this
    exact this
  rw [e3]
  have : n.toNatClampNeg * r.toNatClampNeg ≤ 6 * 6 := Nat.mul_le_mul (by omega) (by omega)
  exact nI_clamp (by omega)
def m_came (σ : Sto) (ro a n : Int32) : Int32 × Int32 := if stB σ = false then (-1000002, σ 0 9) else if s_rowB ro = false then (-1000001, σ 0 9) else if wi n 1 6 = false then (-1000001, σ 0 9) else if (σ 4 (ro.toNatClampNeg) == -1) = true then (-1000010 - 1, 1) else if s_hasPlaces (σ 4 (ro.toNatClampNeg)) a (n * σ 7 0) = false then (-1000010 - 2, 2) else (s_ci (fun i => s_at (fun j => σ 2 (40 * ro.toNatClampNeg + j)) (vIn (vw σ 7) (nI i)) (a.toNatClampNeg) ((σ 7 0).toNatClampNeg) (σ (7 + 6)) 0 (n.toNatClampNeg)) ((σ 7 0).toNatClampNeg), 0)
set_option maxRecDepth 20000 in
set_option maxHeartbeats 4000000 in
theorem c_X6_came {E : EE} (hE : inj E 0 40) {σ : Sto} {τ : Stl} {ro a n : Int32} (w : WFH σ 7) (sz : SZ σ) : Ct E 0 40 yX6_came cX6_came 4 (some FieldType.int) { frames := 6, cells := 0, slots := 0, locals := 148 } [.ref (E.2.1 0), .int ro, .int a, .int n] σ τ (PiP (fun x σ' τ' => x = (m_came σ ro a n).1 ∧ frC σ σ' ∧ σ' 0 8 = σ 0 8 ∧ σ' 0 9 = (m_came σ ro a n).2)) := by
  refine ct_of hE RX6 [some (.ref (E.2.1 0)), some (.int ro), some (.int a), some (.int n)] (by decide) rfl (Nat.le_of_ble_eq_true rfl) rfl (fun X => ?_)
  refine g_aload_n (q := 1) dX6_came_0 rfl rfl ?_
  refine f6_2 (q := 4) wd_268 dX6_came_1 rfl ?_
  refine g_callVi (q := 7) (c_X1_stands hE rfl) lk_RX6_144 (Nat.zero_le _) (h_lt rfl) rfl (by decide) rfl rfl rfl rfl rfl rfl (Nat.le_of_ble_eq_true rfl) (Nat.le_of_ble_eq_true rfl) (Nat.le_of_ble_eq_true rfl) dX6_came_4 rfl ?_
  refine g_if_ne (t := 13) (q := 10) dX6_came_7 (by decide) rfl (fun c_7 => ?_) (fun c_7 => ?_)
  · rw [bI_n0] at c_7
    change stB σ = true at c_7
    refine g_iload_n (q := 14) dX6_came_13 rfl rfl ?_
    refine g_callSi (q := 17) (c_X3_isRow hE ) lk_RX6_57 rfl rfl rfl rfl (Nat.le_of_ble_eq_true rfl) (Nat.le_of_ble_eq_true rfl) (Nat.le_of_ble_eq_true rfl) dX6_came_14 rfl ?_
    refine g_if_eq (t := 30) (q := 20) dX6_came_17 (by decide) rfl (fun c_17 => ?_) (fun c_17 => ?_)
    · rw [bI_0] at c_17
      refine g_ldc (q := 32) dX6_came_30 wd_307 rfl ?_
      refine g_iret dX6_came_32 ⟨_, rfl, ?_⟩
      exact ⟨by simp only [m_came, c_7, c_17, not_true_eq_false, not_false_eq_true, if_true, if_false, Bool.true_eq_false, Bool.false_eq_true, reduceIte, reduceCtorEq], frC_rf σ, rfl, by simp only [m_came, c_7, c_17, not_true_eq_false, not_false_eq_true, if_true, if_false, Bool.true_eq_false, Bool.false_eq_true, reduceIte, reduceCtorEq]⟩
    · rw [bI_n0] at c_17
      refine g_iload_n (q := 21) dX6_came_20 rfl rfl ?_
      refine g_iconst (q := 22) dX6_came_21 ci_1 rfl ?_
      refine g_bipush (q := 24) dX6_came_22 cb_6 rfl ?_
      refine g_callSi (q := 27) (c_X6_within hE ) lk_RX6_61 rfl rfl rfl rfl (Nat.le_of_ble_eq_true rfl) (Nat.le_of_ble_eq_true rfl) (Nat.le_of_ble_eq_true rfl) dX6_came_24 rfl ?_
      refine g_if_ne (t := 33) (q := 30) dX6_came_27 (by decide) rfl (fun c_27 => ?_) (fun c_27 => ?_)
      · rw [bI_n0] at c_27
        refine g_aload_n (q := 34) dX6_came_33 rfl rfl ?_
        refine f6_0 (q := 37) wd_266 dX6_came_34 rfl ?_
        refine g_iload_n (q := 38) dX6_came_37 rfl rfl ?_
        refine g_callVi (q := 41) (c_X3_isMissing hE (rowB_in c_17)) lk_RX6_77 (by decide) (by decide) rfl (by decide) rfl rfl rfl rfl rfl rfl (Nat.le_of_ble_eq_true rfl) (Nat.le_of_ble_eq_true rfl) (Nat.le_of_ble_eq_true rfl) dX6_came_38 rfl ?_
        refine g_if_eq (t := 50) (q := 44) dX6_came_41 (by decide) rfl (fun c_41 => ?_) (fun c_41 => ?_)
        · rw [bI_0] at c_41
          refine g_aload_n (q := 51) dX6_came_50 rfl rfl ?_
          refine f6_0 (q := 54) wd_266 dX6_came_51 rfl ?_
          refine g_iload_n (q := 55) dX6_came_54 rfl rfl ?_
          refine g_iload_n (q := 56) dX6_came_55 rfl rfl ?_
          refine g_iload_n (q := 57) dX6_came_56 rfl rfl ?_
          refine g_aload_n (q := 58) dX6_came_57 rfl rfl ?_
          refine f6_2 (q := 61) wd_268 dX6_came_58 rfl ?_
          refine f1_0 (q := 64) rfl wd_141 dX6_came_61 rfl ?_
          refine g_imul (q := 65) dX6_came_64 rfl ?_
          refine g_callVi (q := 68) (c_X3_hasPlaces hE (rowB_in c_17)) lk_RX6_80 (by decide) (by decide) rfl (by decide) rfl rfl rfl rfl rfl rfl (Nat.le_of_ble_eq_true rfl) (Nat.le_of_ble_eq_true rfl) (Nat.le_of_ble_eq_true rfl) dX6_came_65 rfl ?_
          refine g_if_ne (t := 77) (q := 71) dX6_came_68 (by decide) rfl (fun c_68 => ?_) (fun c_68 => ?_)
          · rw [bI_n0] at c_68
            refine g_aload_n (q := 78) dX6_came_77 rfl rfl ?_
            refine g_aload_n (q := 79) dX6_came_78 rfl rfl ?_
            refine f6_4 (q := 82) wd_270 dX6_came_79 rfl ?_
            refine g_aload_n (q := 83) dX6_came_82 rfl rfl ?_
            refine f6_2 (q := 86) wd_268 dX6_came_83 rfl ?_
            refine g_aload_n (q := 87) dX6_came_86 rfl rfl ?_
            refine f6_0 (q := 90) wd_266 dX6_came_87 rfl ?_
            refine g_iload_n (q := 91) dX6_came_90 rfl rfl ?_
            refine g_iload_n (q := 92) dX6_came_91 rfl rfl ?_
            refine g_iload_n (q := 93) dX6_came_92 rfl rfl ?_
            have hq := hp_of (sz _ (vp_to (rowB_in c_17) (by decide)).2) c_68
            have hn7 := wi_in (N := 7) c_27 (by decide) (by decide)
            refine g_callVip (q := 96) (c_X4_roomsItCameInto hE w (rowB_in c_17) (fun z => hq.1 (Or.inl z)) hn7 (by have := hq.2.2.1; rw [mul_tn hn7 w.1.1] at this; exact this)) lk_RX6_234 (by decide) (by decide) rfl (by decide) rfl rfl rfl rfl rfl rfl (Nat.le_of_ble_eq_true rfl) (Nat.le_of_ble_eq_true rfl) (Nat.le_of_ble_eq_true rfl) dX6_came_93 rfl (fun v_93 σ_93 τ_93 hp_93 => ?_)
            obtain ⟨hv, hf, ht⟩ := hp_93
            refine g_callVi (q := 99) (c_X6_noFinding hE ) lk_RX6_74 (by decide) (by decide) rfl (by decide) rfl rfl rfl rfl rfl rfl (Nat.le_of_ble_eq_true rfl) (Nat.le_of_ble_eq_true rfl) (Nat.le_of_ble_eq_true rfl) dX6_came_96 rfl ?_
            refine g_iret dX6_came_99 ⟨_, rfl, ?_⟩
            rw [hv]
            exact ⟨by simp only [m_came, c_7, c_17, c_27, c_41, c_68, not_true_eq_false, not_false_eq_true, if_true, if_false, Bool.true_eq_false, Bool.false_eq_true, reduceIte, reduceCtorEq], frC_f (frC_T hf) _, by rw [fnd_8, hf 0 (by omega)], by rw [fnd_9]; simp only [m_came, c_7, c_17, c_27, c_41, c_68, not_true_eq_false, not_false_eq_true, if_true, if_false, Bool.true_eq_false, Bool.false_eq_true, reduceIte, reduceCtorEq]⟩
          · rw [bI_0] at c_68
            refine g_aload_n (q := 72) dX6_came_71 rfl rfl ?_
            refine g_iconst (q := 73) dX6_came_72 ci_2 rfl ?_
            refine g_callVi (q := 76) (c_X6_finding hE ) lk_RX6_66 (by decide) (by decide) rfl (by decide) rfl rfl rfl rfl rfl rfl (Nat.le_of_ble_eq_true rfl) (Nat.le_of_ble_eq_true rfl) (Nat.le_of_ble_eq_true rfl) dX6_came_73 rfl ?_
            refine g_iret dX6_came_76 ⟨_, rfl, ?_⟩
            exact ⟨by simp only [m_came, c_7, c_17, c_27, c_41, c_68, not_true_eq_false, not_false_eq_true, if_true, if_false, Bool.true_eq_false, Bool.false_eq_true, reduceIte, reduceCtorEq], frC_f (frC_rf σ) _, fnd_8 _ _, by rw [fnd_9]; simp only [m_came, c_7, c_17, c_27, c_41, c_68, not_true_eq_false, not_false_eq_true, if_true, if_false, Bool.true_eq_false, Bool.false_eq_true, reduceIte, reduceCtorEq]⟩
        · rw [bI_n0] at c_41
          refine g_aload_n (q := 45) dX6_came_44 rfl rfl ?_
          refine g_iconst (q := 46) dX6_came_45 ci_1 rfl ?_
          refine g_callVi (q := 49) (c_X6_finding hE ) lk_RX6_66 (by decide) (by decide) rfl (by decide) rfl rfl rfl rfl rfl rfl (Nat.le_of_ble_eq_true rfl) (Nat.le_of_ble_eq_true rfl) (Nat.le_of_ble_eq_true rfl) dX6_came_46 rfl ?_
          refine g_iret dX6_came_49 ⟨_, rfl, ?_⟩
          exact ⟨by simp only [m_came, c_7, c_17, c_27, c_41, not_true_eq_false, not_false_eq_true, if_true, if_false, Bool.true_eq_false, Bool.false_eq_true, reduceIte, reduceCtorEq], frC_f (frC_rf σ) _, fnd_8 _ _, by rw [fnd_9]; simp only [m_came, c_7, c_17, c_27, c_41, not_true_eq_false, not_false_eq_true, if_true, if_false, Bool.true_eq_false, Bool.false_eq_true, reduceIte, reduceCtorEq]⟩
      · rw [bI_0] at c_27
        refine g_ldc (q := 32) dX6_came_30 wd_307 rfl ?_
        refine g_iret dX6_came_32 ⟨_, rfl, ?_⟩
        exact ⟨by simp only [m_came, c_7, c_17, c_27, not_true_eq_false, not_false_eq_true, if_true, if_false, Bool.true_eq_false, Bool.false_eq_true, reduceIte, reduceCtorEq], frC_rf σ, rfl, by simp only [m_came, c_7, c_17, c_27, not_true_eq_false, not_false_eq_true, if_true, if_false, Bool.true_eq_false, Bool.false_eq_true, reduceIte, reduceCtorEq]⟩
  · rw [bI_0] at c_7
    change stB σ = false at c_7
    refine g_ldc (q := 12) dX6_came_10 wd_465 rfl ?_
    refine g_iret dX6_came_12 ⟨_, rfl, ?_⟩
    exact ⟨by simp only [m_came, c_7, not_true_eq_false, not_false_eq_true, if_true, if_false, Bool.true_eq_false, Bool.false_eq_true, reduceIte, reduceCtorEq], frC_rf σ, rfl, by simp only [m_came, c_7, not_true_eq_false, not_false_eq_true, if_true, if_false, Bool.true_eq_false, Bool.false_eq_true, reduceIte, reduceCtorEq]⟩
def m_who (σ : Sto) (s ro a n : Int32) : Int32 × Int32 := if s_lt s (σ 7 7) = false then (-1000001, σ 0 9) else if s_rowB ro = false then (-1000001, σ 0 9) else if wi n 1 6 = false then (-1000001, σ 0 9) else if (σ 4 (ro.toNatClampNeg) == -1) = true then (-1000010 - 1, 1) else if s_hasPlaces (σ 4 (ro.toNatClampNeg)) a (n * σ 7 0) = false then (-1000010 - 2, 2) else (s_ci (fun i => decide (1 ≤ i) && s_at (fun j => σ 2 (40 * ro.toNatClampNeg + j)) (vKind (vw σ 7) (s.toNatClampNeg) (nI i)) (a.toNatClampNeg) ((σ 7 0).toNatClampNeg) (σ (7 + 6)) 0 (n.toNatClampNeg)) 6, 0)
set_option maxRecDepth 20000 in
set_option maxHeartbeats 4000000 in
theorem c_X6_who {E : EE} (hE : inj E 0 40) {σ : Sto} {τ : Stl} {s ro a n : Int32} (w : WFH σ 7) (sz : SZ σ) : Ct E 0 40 yX6_who cX6_who 5 (some FieldType.int) { frames := 6, cells := 0, slots := 0, locals := 149 } [.ref (E.2.1 0), .int s, .int ro, .int a, .int n] σ τ (PiP (fun x σ' τ' => x = (m_who σ s ro a n).1 ∧ frC σ σ' ∧ σ' 0 8 = σ 0 8 ∧ σ' 0 9 = (m_who σ s ro a n).2)) := by
  refine ct_of hE RX6 [some (.ref (E.2.1 0)), some (.int s), some (.int ro), some (.int a), some (.int n)] (by decide) rfl (Nat.le_of_ble_eq_true rfl) rfl (fun X => ?_)
  refine g_aload_n (q := 1) dX6_who_0 rfl rfl ?_
  refine f6_2 (q := 4) wd_268 dX6_who_1 rfl ?_
  refine g_iload_n (q := 5) dX6_who_4 rfl rfl ?_
  refine g_callVi (q := 8) (c_X1_hasSitter hE rfl) lk_RX6_173 (Nat.zero_le _) (h_lt rfl) rfl (by decide) rfl rfl rfl rfl rfl rfl (Nat.le_of_ble_eq_true rfl) (Nat.le_of_ble_eq_true rfl) (Nat.le_of_ble_eq_true rfl) dX6_who_5 rfl ?_
  refine g_if_eq (t := 29) (q := 11) dX6_who_8 (by decide) rfl (fun c_8 => ?_) (fun c_8 => ?_)
  · rw [bI_0] at c_8
    refine g_ldc (q := 31) dX6_who_29 wd_307 rfl ?_
    refine g_iret dX6_who_31 ⟨_, rfl, ?_⟩
    exact ⟨by simp only [m_who, c_8, not_true_eq_false, not_false_eq_true, if_true, if_false, Bool.true_eq_false, Bool.false_eq_true, reduceIte, reduceCtorEq], frC_rf σ, rfl, by simp only [m_who, c_8, not_true_eq_false, not_false_eq_true, if_true, if_false, Bool.true_eq_false, Bool.false_eq_true, reduceIte, reduceCtorEq]⟩
  · rw [bI_n0] at c_8
    refine g_iload_n (q := 12) dX6_who_11 rfl rfl ?_
    refine g_callSi (q := 15) (c_X3_isRow hE ) lk_RX6_57 rfl rfl rfl rfl (Nat.le_of_ble_eq_true rfl) (Nat.le_of_ble_eq_true rfl) (Nat.le_of_ble_eq_true rfl) dX6_who_12 rfl ?_
    refine g_if_eq (t := 29) (q := 18) dX6_who_15 (by decide) rfl (fun c_15 => ?_) (fun c_15 => ?_)
    · rw [bI_0] at c_15
      refine g_ldc (q := 31) dX6_who_29 wd_307 rfl ?_
      refine g_iret dX6_who_31 ⟨_, rfl, ?_⟩
      exact ⟨by simp only [m_who, c_8, c_15, not_true_eq_false, not_false_eq_true, if_true, if_false, Bool.true_eq_false, Bool.false_eq_true, reduceIte, reduceCtorEq], frC_rf σ, rfl, by simp only [m_who, c_8, c_15, not_true_eq_false, not_false_eq_true, if_true, if_false, Bool.true_eq_false, Bool.false_eq_true, reduceIte, reduceCtorEq]⟩
    · rw [bI_n0] at c_15
      refine g_iload (q := 20) dX6_who_18 rfl rfl ?_
      refine g_iconst (q := 21) dX6_who_20 ci_1 rfl ?_
      refine g_bipush (q := 23) dX6_who_21 cb_6 rfl ?_
      refine g_callSi (q := 26) (c_X6_within hE ) lk_RX6_61 rfl rfl rfl rfl (Nat.le_of_ble_eq_true rfl) (Nat.le_of_ble_eq_true rfl) (Nat.le_of_ble_eq_true rfl) dX6_who_23 rfl ?_
      refine g_if_ne (t := 32) (q := 29) dX6_who_26 (by decide) rfl (fun c_26 => ?_) (fun c_26 => ?_)
      · rw [bI_n0] at c_26
        refine g_aload_n (q := 33) dX6_who_32 rfl rfl ?_
        refine f6_0 (q := 36) wd_266 dX6_who_33 rfl ?_
        refine g_iload_n (q := 37) dX6_who_36 rfl rfl ?_
        refine g_callVi (q := 40) (c_X3_isMissing hE (rowB_in c_15)) lk_RX6_77 (by decide) (by decide) rfl (by decide) rfl rfl rfl rfl rfl rfl (Nat.le_of_ble_eq_true rfl) (Nat.le_of_ble_eq_true rfl) (Nat.le_of_ble_eq_true rfl) dX6_who_37 rfl ?_
        refine g_if_eq (t := 49) (q := 43) dX6_who_40 (by decide) rfl (fun c_40 => ?_) (fun c_40 => ?_)
        · rw [bI_0] at c_40
          refine g_aload_n (q := 50) dX6_who_49 rfl rfl ?_
          refine f6_0 (q := 53) wd_266 dX6_who_50 rfl ?_
          refine g_iload_n (q := 54) dX6_who_53 rfl rfl ?_
          refine g_iload_n (q := 55) dX6_who_54 rfl rfl ?_
          refine g_iload (q := 57) dX6_who_55 rfl rfl ?_
          refine g_aload_n (q := 58) dX6_who_57 rfl rfl ?_
          refine f6_2 (q := 61) wd_268 dX6_who_58 rfl ?_
          refine f1_0 (q := 64) rfl wd_141 dX6_who_61 rfl ?_
          refine g_imul (q := 65) dX6_who_64 rfl ?_
          refine g_callVi (q := 68) (c_X3_hasPlaces hE (rowB_in c_15)) lk_RX6_80 (by decide) (by decide) rfl (by decide) rfl rfl rfl rfl rfl rfl (Nat.le_of_ble_eq_true rfl) (Nat.le_of_ble_eq_true rfl) (Nat.le_of_ble_eq_true rfl) dX6_who_65 rfl ?_
          refine g_if_ne (t := 77) (q := 71) dX6_who_68 (by decide) rfl (fun c_68 => ?_) (fun c_68 => ?_)
          · rw [bI_n0] at c_68
            refine g_aload_n (q := 78) dX6_who_77 rfl rfl ?_
            refine g_aload_n (q := 79) dX6_who_78 rfl rfl ?_
            refine f6_4 (q := 82) wd_270 dX6_who_79 rfl ?_
            refine g_aload_n (q := 83) dX6_who_82 rfl rfl ?_
            refine f6_2 (q := 86) wd_268 dX6_who_83 rfl ?_
            refine g_iload_n (q := 87) dX6_who_86 rfl rfl ?_
            refine g_aload_n (q := 88) dX6_who_87 rfl rfl ?_
            refine f6_0 (q := 91) wd_266 dX6_who_88 rfl ?_
            refine g_iload_n (q := 92) dX6_who_91 rfl rfl ?_
            refine g_iload_n (q := 93) dX6_who_92 rfl rfl ?_
            refine g_iload (q := 95) dX6_who_93 rfl rfl ?_
            have hq := hp_of (sz _ (vp_to (rowB_in c_15) (by decide)).2) c_68
            have hn7 := wi_in (N := 7) c_26 (by decide) (by decide)
            refine g_callVip (q := 98) (c_X4_kindsItMayBe hE w (sitter_in w c_8) (rowB_in c_15) (fun z => hq.1 (Or.inl z)) hn7 (by have := hq.2.2.1; rw [mul_tn hn7 w.1.1] at this; exact this)) lk_RX6_238 (by decide) (by decide) rfl (by decide) rfl rfl rfl rfl rfl rfl (Nat.le_of_ble_eq_true rfl) (Nat.le_of_ble_eq_true rfl) (Nat.le_of_ble_eq_true rfl) dX6_who_95 rfl (fun v_95 σ_95 τ_95 hp_95 => ?_)
            obtain ⟨hv, hf, ht⟩ := hp_95
            refine g_callVi (q := 101) (c_X6_noFinding hE ) lk_RX6_74 (by decide) (by decide) rfl (by decide) rfl rfl rfl rfl rfl rfl (Nat.le_of_ble_eq_true rfl) (Nat.le_of_ble_eq_true rfl) (Nat.le_of_ble_eq_true rfl) dX6_who_98 rfl ?_
            refine g_iret dX6_who_101 ⟨_, rfl, ?_⟩
            rw [hv]
            exact ⟨by simp only [m_who, c_8, c_15, c_26, c_40, c_68, not_true_eq_false, not_false_eq_true, if_true, if_false, Bool.true_eq_false, Bool.false_eq_true, reduceIte, reduceCtorEq], frC_f (frC_T hf) _, by rw [fnd_8, hf 0 (by omega)], by rw [fnd_9]; simp only [m_who, c_8, c_15, c_26, c_40, c_68, not_true_eq_false, not_false_eq_true, if_true, if_false, Bool.true_eq_false, Bool.false_eq_true, reduceIte, reduceCtorEq]⟩
          · rw [bI_0] at c_68
            refine g_aload_n (q := 72) dX6_who_71 rfl rfl ?_
            refine g_iconst (q := 73) dX6_who_72 ci_2 rfl ?_
            refine g_callVi (q := 76) (c_X6_finding hE ) lk_RX6_66 (by decide) (by decide) rfl (by decide) rfl rfl rfl rfl rfl rfl (Nat.le_of_ble_eq_true rfl) (Nat.le_of_ble_eq_true rfl) (Nat.le_of_ble_eq_true rfl) dX6_who_73 rfl ?_
            refine g_iret dX6_who_76 ⟨_, rfl, ?_⟩
            exact ⟨by simp only [m_who, c_8, c_15, c_26, c_40, c_68, not_true_eq_false, not_false_eq_true, if_true, if_false, Bool.true_eq_false, Bool.false_eq_true, reduceIte, reduceCtorEq], frC_f (frC_rf σ) _, fnd_8 _ _, by rw [fnd_9]; simp only [m_who, c_8, c_15, c_26, c_40, c_68, not_true_eq_false, not_false_eq_true, if_true, if_false, Bool.true_eq_false, Bool.false_eq_true, reduceIte, reduceCtorEq]⟩
        · rw [bI_n0] at c_40
          refine g_aload_n (q := 44) dX6_who_43 rfl rfl ?_
          refine g_iconst (q := 45) dX6_who_44 ci_1 rfl ?_
          refine g_callVi (q := 48) (c_X6_finding hE ) lk_RX6_66 (by decide) (by decide) rfl (by decide) rfl rfl rfl rfl rfl rfl (Nat.le_of_ble_eq_true rfl) (Nat.le_of_ble_eq_true rfl) (Nat.le_of_ble_eq_true rfl) dX6_who_45 rfl ?_
          refine g_iret dX6_who_48 ⟨_, rfl, ?_⟩
          exact ⟨by simp only [m_who, c_8, c_15, c_26, c_40, not_true_eq_false, not_false_eq_true, if_true, if_false, Bool.true_eq_false, Bool.false_eq_true, reduceIte, reduceCtorEq], frC_f (frC_rf σ) _, fnd_8 _ _, by rw [fnd_9]; simp only [m_who, c_8, c_15, c_26, c_40, not_true_eq_false, not_false_eq_true, if_true, if_false, Bool.true_eq_false, Bool.false_eq_true, reduceIte, reduceCtorEq]⟩
      · rw [bI_0] at c_26
        refine g_ldc (q := 31) dX6_who_29 wd_307 rfl ?_
        refine g_iret dX6_who_31 ⟨_, rfl, ?_⟩
        exact ⟨by simp only [m_who, c_8, c_15, c_26, not_true_eq_false, not_false_eq_true, if_true, if_false, Bool.true_eq_false, Bool.false_eq_true, reduceIte, reduceCtorEq], frC_rf σ, rfl, by simp only [m_who, c_8, c_15, c_26, not_true_eq_false, not_false_eq_true, if_true, if_false, Bool.true_eq_false, Bool.false_eq_true, reduceIte, reduceCtorEq]⟩
