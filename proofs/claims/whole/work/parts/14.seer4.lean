def s_in (it c : Nat → Int32) (b r : Nat) : Nat → Bool
  | 0 => true
  | m + 1 => if it (b + r) = c r then s_in it c b (r + 1) m else false
def s_at (it : Nat → Int32) (v : Sto) (a R : Nat) (c : Nat → Int32) (h : Nat) : Nat → Bool
  | 0 => true
  | m + 1 => s_in it (HC v c) (a + h * R) 0 R && s_at it v a R (HC v c) (h + 1) m
def s_ci (f : Nat → Bool) : Nat → Int32
  | 0 => 0
  | i + 1 => if f i then s_ci f i ||| (1 <<< (nI i &&& 31)) else s_ci f i
def s_co (c : Nat → Int32) : Nat → Int32 × Int32
  | 0 => (0, c 0)
  | k + 1 => if c (k + 1) ≤ (s_co c k).2 then s_co c k else (nI (k + 1), c (k + 1))
theorem mulb {h N R : Nat} (h1 : h < N) : h * R + R ≤ N * R := by
  have := Nat.mul_le_mul_right R (show h + 1 ≤ N by omega)
  rwa [Nat.succ_mul] at this
theorem item_at {σ a : Sto} (h : frT σ a) (k : Nat) : a 2 k = σ 2 k := by rw [h 2 (by omega)]
set_option maxRecDepth 20000 in
set_option maxHeartbeats 4000000 in
theorem c_X4_isAsTold {E : EE} (hE : inj E 0 40) {σ : Sto} {τ : Stl} {ro i n : Int32} {v : Sto} {c : Nat → Int32} (w : WFV v) (hT0 : TV σ v c) (hro : vp_in ro 8) (hi : ¬ i < 0) (hn : vp_in n 7) (hb : i.toNatClampNeg + n.toNatClampNeg * (v 0 0).toNatClampNeg ≤ 40) : Ct E 0 40 yX4_isAsTold cX4_isAsTold 8 (some FieldType.boolean) { frames := 4, cells := 0, slots := 0, locals := 94 } [.ref (E.2.1 16), .ref (E.2.1 1), .int ro, .int i, .int n] σ τ (PiP (fun x σ' τ' => x = bI (s_at (fun j => σ 2 (40 * ro.toNatClampNeg + j)) v (i.toNatClampNeg) ((v 0 0).toNatClampNeg) c 0 (n.toNatClampNeg)) ∧ frT σ σ' ∧ τ' = τ)) := by
  refine ct_of hE RX4 [some (.ref (E.2.1 16)), some (.ref (E.2.1 1)), some (.int ro), some (.int i), some (.int n), none, none, none] (by decide) rfl (Nat.le_of_ble_eq_true rfl) rfl (fun X => ?_)
  obtain ⟨e0, b0⟩ := vp_to w.1.1 (by decide)
  obtain ⟨ei, bi⟩ := nn_to hi
  obtain ⟨en, bn⟩ := vp_to hn (by decide)
  refine g_iload_n (q := 1) dX4_isAsTold_0 rfl rfl ?_
  refine g_istore (q := 3) dX4_isAsTold_1 (by decide) rfl rfl ?_
  refine g_iconst (q := 4) dX4_isAsTold_3 ci_0 rfl ?_
  refine g_istore (q := 6) dX4_isAsTold_4 (by decide) rfl rfl ?_
  refine g_loop (I := fun h => [some (.ref (E.2.1 16)), some (.ref (E.2.1 1)), some (.int ro), some (.int i), some (.int n), some (.int (nI (i.toNatClampNeg + h * (v 0 0).toNatClampNeg))), some (.int (nI h)), none]) (J := fun h σ' τ' => frT σ σ' ∧ TV σ' v (hcs v c h) ∧ s_at (fun j => σ 2 (40 * ro.toNatClampNeg + j)) v (i.toNatClampNeg) ((v 0 0).toNatClampNeg) (hcs v c h) h (n.toNatClampNeg - h) = s_at (fun j => σ 2 (40 * ro.toNatClampNeg + j)) v (i.toNatClampNeg) ((v 0 0).toNatClampNeg) c 0 (n.toNatClampNeg) ∧ τ' = τ) (0) (n.toNatClampNeg) (Nat.zero_le _) (by rw [Nat.zero_mul, Nat.add_zero, ← ei]; simp [lsub, nI_0]) (⟨frT_rf σ, hT0, rfl, rfl⟩) (fun h σh τh h0 h1 hJ_h kk_h => ?_) (fun σh τh hJ_h => ?_)
  · have hch : (nI h).toNatClampNeg = h := nI_clamp (by omega)
    obtain ⟨hf, hT, hR, ht⟩ := hJ_h
    obtain ⟨m, hm⟩ : ∃ m, n.toNatClampNeg - h = m + 1 := ⟨n.toNatClampNeg - h - 1, by omega⟩
    rw [hm] at hR
    simp only [s_at] at hR
    rw [show m = n.toNatClampNeg - (h + 1) by omega] at hR
    have hq := mulb (R := (v 0 0).toNatClampNeg) h1
    refine g_iload (q := 8) dX4_isAsTold_6 rfl rfl ?_
    refine g_iload (q := 10) dX4_isAsTold_8 rfl rfl ?_
    refine g_icmp_ge (t := 72) (q := 13) dX4_isAsTold_10 (by decide) rfl (fun c_10 => ?_) (fun c_10 => ?_)
    · exact absurd c_10 (lp_in (by exact en) (by omega) h1)
    · refine g_aload_n (q := 14) dX4_isAsTold_13 rfl rfl ?_
      refine f4_0 (q := 17) wd_234 dX4_isAsTold_14 rfl ?_
      refine g_callVv (q := 20) (c_X1_passHour hE rfl (WF_TV w hT)) lk_RX4_42 (Nat.zero_le _) (h_lt rfl) rfl (by decide) rfl rfl rfl rfl rfl rfl (Nat.le_of_ble_eq_true rfl) (Nat.le_of_ble_eq_true rfl) (Nat.le_of_ble_eq_true rfl) dX4_isAsTold_17 rfl ?_
      refine g_iconst (q := 21) dX4_isAsTold_20 ci_0 rfl ?_
      refine g_istore (q := 23) dX4_isAsTold_21 (by decide) rfl rfl ?_
      refine g_loop (I := fun r => [some (.ref (E.2.1 16)), some (.ref (E.2.1 1)), some (.int ro), some (.int i), some (.int n), some (.int (nI (i.toNatClampNeg + h * (v 0 0).toNatClampNeg + r))), some (.int (nI h)), some (.int (nI r))]) (J := fun r σ' τ' => frT σ σ' ∧ TV σ' v (HC v (hcs v c h)) ∧ (s_in (fun j => σ 2 (40 * ro.toNatClampNeg + j)) (HC v (hcs v c h)) (i.toNatClampNeg + h * (v 0 0).toNatClampNeg) r ((v 0 0).toNatClampNeg - r) && s_at (fun j => σ 2 (40 * ro.toNatClampNeg + j)) v (i.toNatClampNeg) ((v 0 0).toNatClampNeg) (HC v (hcs v c h)) (h + 1) (n.toNatClampNeg - (h + 1))) = s_at (fun j => σ 2 (40 * ro.toNatClampNeg + j)) v (i.toNatClampNeg) ((v 0 0).toNatClampNeg) c 0 (n.toNatClampNeg) ∧ τ' = τ) (0) ((v 0 0).toNatClampNeg) (Nat.zero_le _) (by simp [lsub, nI_0]) (⟨frT_tr hf (fr_hrs _ _), TV_hrs hT 1, by rw [Nat.sub_zero]; exact hR, ht⟩) (fun r σr τr r0 r1 hJ_r kk_r => ?_) (fun σr τr hJ_r => ?_)
      · have hcr : (nI r).toNatClampNeg = r := nI_clamp (by omega)
        obtain ⟨hf, hT, hR, ht⟩ := hJ_r
        obtain ⟨m2, hm2⟩ : ∃ m, (v 0 0).toNatClampNeg - r = m + 1 := ⟨(v 0 0).toNatClampNeg - r - 1, by omega⟩
        rw [hm2] at hR
        simp only [s_in] at hR
        refine g_iload (q := 25) dX4_isAsTold_23 rfl rfl ?_
        refine g_aload_n (q := 26) dX4_isAsTold_25 rfl rfl ?_
        refine f4_0 (q := 29) wd_234 dX4_isAsTold_26 rfl ?_
        refine f1_0 (q := 32) rfl wd_139 dX4_isAsTold_29 rfl ?_
        refine g_icmp_ge (t := 66) (q := 35) dX4_isAsTold_32 (by decide) rfl (fun c_32 => ?_) (fun c_32 => ?_)
        · exact absurd c_32 (lp_in (by rw [hT.1 0 (by decide)]; exact e0) (by omega) r1)
        · refine g_aload_n (q := 36) dX4_isAsTold_35 rfl rfl ?_
          refine g_iload_n (q := 37) dX4_isAsTold_36 rfl rfl ?_
          refine g_iload (q := 39) dX4_isAsTold_37 rfl rfl ?_
          refine g_callVi (q := 42) (c_X3_item hE hro (vp_in_nI (by omega) (by decide))) lk_RX4_92 (by decide) (by decide) rfl (by decide) rfl rfl rfl rfl rfl rfl (Nat.le_of_ble_eq_true rfl) (Nat.le_of_ble_eq_true rfl) (Nat.le_of_ble_eq_true rfl) dX4_isAsTold_39 rfl ?_
          refine g_aload_n (q := 43) dX4_isAsTold_42 rfl rfl ?_
          refine f4_0 (q := 46) wd_234 dX4_isAsTold_43 rfl ?_
          refine f1_13 (q := 49) rfl wd_178 dX4_isAsTold_46 rfl ?_
          refine g_iload (q := 51) dX4_isAsTold_49 rfl rfl ?_
          refine g_aldH (q := 52) (c := 6) rfl (by decide) (by decide) (show vp_in _ 6 by ((with_reducible refine vp_in_nI ?_ ?_); (omega); (decide))) dX4_isAsTold_51 rfl ?_
          refine g_icmp_eq (t := 57) (q := 55) dX4_isAsTold_52 (by decide) rfl (fun c_52 => ?_) (fun c_52 => ?_)
          · have c2 := c_52
            rw [hT.2.2, hcr, nI_clamp (by omega), item_at hf] at c2
            rw [if_pos c2] at hR
            refine g_iinc (q := 60) dX4_isAsTold_57 rfl ci_1 (by decide) rfl rfl ?_
            refine g_iinc (q := 63) dX4_isAsTold_60 rfl ci_1 (by decide) rfl rfl ?_
            refine g_goto (t := 23) dX4_isAsTold_63 (by decide) ?_
            exact g_eqw (kk_r _ _ (⟨hf, hT, by rw [show (v 0 0).toNatClampNeg - (r + 1) = m2 by omega]; exact hR, ht⟩)) (by simp [lsub, hcr, nI_succ, ← nI_succ, Nat.add_assoc, c_52]) rfl rfl
          · have c2 := c_52
            rw [hT.2.2, hcr, nI_clamp (by omega), item_at hf] at c2
            rw [if_neg c2] at hR
            refine g_iconst (q := 56) dX4_isAsTold_55 ci_0 rfl ?_
            refine g_zret dX4_isAsTold_56 (by first | decide | exact bI_nar _) ⟨_, rfl, ?_⟩
            exact ⟨by rw [← hR]; rfl, hf, ht⟩
      · obtain ⟨hf, hT, hR, ht⟩ := hJ_r
        rw [Nat.sub_self] at hR
        simp only [s_in, Bool.true_and] at hR
        refine g_iload (q := 25) dX4_isAsTold_23 rfl rfl ?_
        refine g_aload_n (q := 26) dX4_isAsTold_25 rfl rfl ?_
        refine f4_0 (q := 29) wd_234 dX4_isAsTold_26 rfl ?_
        refine f1_0 (q := 32) rfl wd_139 dX4_isAsTold_29 rfl ?_
        refine g_icmp_ge (t := 66) (q := 35) dX4_isAsTold_32 (by decide) rfl (fun c_32 => ?_) (fun c_32 => ?_)
        · refine g_iinc (q := 69) dX4_isAsTold_66 rfl ci_1 (by decide) rfl rfl ?_
          refine g_goto (t := 6) dX4_isAsTold_69 (by decide) ?_
          exact g_eqw (kk_h _ _ ⟨hf, hT, hR, ht⟩) (by rw [show i.toNatClampNeg + (h + 1) * (v 0 0).toNatClampNeg = i.toNatClampNeg + h * (v 0 0).toNatClampNeg + (v 0 0).toNatClampNeg by rw [Nat.succ_mul]; omega]; simp [lsub, nI_succ]) rfl rfl
        · exact absurd (lp_out (by rw [hT.1 0 (by decide)]; exact e0)) c_32
  · obtain ⟨hf, hT, hR, ht⟩ := hJ_h
    refine g_iload (q := 8) dX4_isAsTold_6 rfl rfl ?_
    refine g_iload (q := 10) dX4_isAsTold_8 rfl rfl ?_
    refine g_icmp_ge (t := 72) (q := 13) dX4_isAsTold_10 (by decide) rfl (fun c_10 => ?_) (fun c_10 => ?_)
    · refine g_iconst (q := 73) dX4_isAsTold_72 ci_1 rfl ?_
      refine g_zret dX4_isAsTold_73 (by first | decide | exact bI_nar _) ⟨_, rfl, ?_⟩
      rw [Nat.sub_self] at hR
      exact ⟨by rw [← hR]; rfl, hf, ht⟩
    · exact absurd (lp_out (by exact en)) c_10
set_option maxRecDepth 20000 in
set_option maxHeartbeats 4000000 in
theorem c_X4_roomsItCameInto {E : EE} (hE : inj E 0 40) {σ : Sto} {τ : Stl} {ro a n : Int32} (w : WFH σ 7) (hro : vp_in ro 8) (ha : ¬ a < 0) (hn : vp_in n 7) (hb : a.toNatClampNeg + n.toNatClampNeg * (σ 7 0).toNatClampNeg ≤ 40) : Ct E 0 40 yX4_roomsItCameInto cX4_roomsItCameInto 8 (some FieldType.int) { frames := 5, cells := 0, slots := 0, locals := 121 } [.ref (E.2.1 16), .ref (E.2.1 7), .ref (E.2.1 1), .int ro, .int a, .int n] σ τ (PiP (fun x σ' τ' => x = s_ci (fun i => s_at (fun j => σ 2 (40 * ro.toNatClampNeg + j)) (vIn (vw σ 7) (nI i)) (a.toNatClampNeg) ((σ 7 0).toNatClampNeg) (σ (7 + 6)) 0 (n.toNatClampNeg)) ((σ 7 0).toNatClampNeg) ∧ frT σ σ' ∧ τ' = τ)) := by
  refine ct_of hE RX4 [some (.ref (E.2.1 16)), some (.ref (E.2.1 7)), some (.ref (E.2.1 1)), some (.int ro), some (.int a), some (.int n), none, none] (by decide) rfl (Nat.le_of_ble_eq_true rfl) rfl (fun X => ?_)
  obtain ⟨⟨e0, b0⟩, ⟨e5, b5⟩, ⟨e7, b7⟩⟩ := wf_n w
  refine g_iconst (q := 1) dX4_roomsItCameInto_0 ci_0 rfl ?_
  refine g_istore (q := 3) dX4_roomsItCameInto_1 (by decide) rfl rfl ?_
  refine g_iconst (q := 4) dX4_roomsItCameInto_3 ci_0 rfl ?_
  refine g_istore (q := 6) dX4_roomsItCameInto_4 (by decide) rfl rfl ?_
  refine g_loop (I := fun i => [some (.ref (E.2.1 16)), some (.ref (E.2.1 7)), some (.ref (E.2.1 1)), some (.int ro), some (.int a), some (.int n), some (.int (s_ci (fun i => s_at (fun j => σ 2 (40 * ro.toNatClampNeg + j)) (vIn (vw σ 7) (nI i)) (a.toNatClampNeg) ((σ 7 0).toNatClampNeg) (σ (7 + 6)) 0 (n.toNatClampNeg)) i)), some (.int (nI i))]) (J := fun i σ' τ' => frT σ σ' ∧ τ' = τ) (0) ((σ 7 0).toNatClampNeg) (Nat.zero_le _) (by simp [lsub, s_ci, nI_0]) (⟨frT_rf σ, rfl⟩) (fun i σi τi i0 i1 hJ_i kk_i => ?_) (fun σi τi hJ_i => ?_)
  · have hci : (nI i).toNatClampNeg = i := nI_clamp (by omega)
    obtain ⟨hf, ht⟩ := hJ_i
    refine g_iload (q := 8) dX4_roomsItCameInto_6 rfl rfl ?_
    refine g_aload_n (q := 9) dX4_roomsItCameInto_8 rfl rfl ?_
    refine f1_0 (q := 12) rfl wd_139 dX4_roomsItCameInto_9 rfl ?_
    refine g_icmp_ge (t := 60) (q := 15) dX4_roomsItCameInto_12 (by decide) rfl (fun c_12 => ?_) (fun c_12 => ?_)
    · exact absurd c_12 (lp_in (by rw [hf 7 (by omega)]; exact e0) (by omega) i1)
    · refine g_aload_n (q := 16) dX4_roomsItCameInto_15 rfl rfl ?_
      refine f4_0 (q := 19) wd_234 dX4_roomsItCameInto_16 rfl ?_
      refine g_aload_n (q := 20) dX4_roomsItCameInto_19 rfl rfl ?_
      refine g_callVv (q := 23) (c_X1_become hE rfl rfl (by decide)) lk_RX4_25 (Nat.zero_le _) (h_lt rfl) rfl (by decide) rfl rfl rfl rfl rfl rfl (Nat.le_of_ble_eq_true rfl) (Nat.le_of_ble_eq_true rfl) (Nat.le_of_ble_eq_true rfl) dX4_roomsItCameInto_20 rfl ?_
      refine g_aload_n (q := 24) dX4_roomsItCameInto_23 rfl rfl ?_
      refine f4_0 (q := 27) wd_234 dX4_roomsItCameInto_24 rfl ?_
      refine g_iload (q := 29) dX4_roomsItCameInto_27 rfl rfl ?_
      refine p1_1 (q := 32) rfl wd_143 dX4_roomsItCameInto_29 rfl ?_
      refine g_aload_n (q := 33) dX4_roomsItCameInto_32 rfl rfl ?_
      refine g_aload_n (q := 34) dX4_roomsItCameInto_33 rfl rfl ?_
      refine g_iload_n (q := 35) dX4_roomsItCameInto_34 rfl rfl ?_
      refine g_iload (q := 37) dX4_roomsItCameInto_35 rfl rfl ?_
      refine g_iload (q := 39) dX4_roomsItCameInto_37 rfl rfl ?_
      refine g_callVip (q := 42) (c_X4_isAsTold hE (wfv_in (wfv_of w) (vp_in_nI (by omega) (by decide))) (TV_in (TV_bec2 (frS_T (frS_rf σ) hf)) (nI i)) hro ha hn hb) lk_RX4_85 (by decide) (by decide) rfl (by decide) rfl rfl rfl rfl rfl rfl (Nat.le_of_ble_eq_true rfl) (Nat.le_of_ble_eq_true rfl) (Nat.le_of_ble_eq_true rfl) dX4_roomsItCameInto_39 rfl (fun v_39 σ_39 τ_39 hp_39 => ?_)
      obtain ⟨hv, hF0, ht2⟩ := hp_39
      have hF := frT_tr (frT_tr (fr_bec σi 7) (fr_upc (by decide))) hF0
      have hit := (hF0 2 (by omega)).symm.trans ((hF 2 (by omega)).trans (hf 2 (by omega)))
      simp only [hit] at hv
      rw [hv]
      refine g_if_eq (t := 54) (q := 45) dX4_roomsItCameInto_42 (by decide) rfl (fun c_42 => ?_) (fun c_42 => ?_)
      · rw [bI_0] at c_42
        refine g_iinc (q := 57) dX4_roomsItCameInto_54 rfl ci_1 (by decide) rfl rfl ?_
        refine g_goto (t := 6) dX4_roomsItCameInto_57 (by decide) ?_
        have hs : s_ci (fun i => s_at (fun j => σ 2 (40 * ro.toNatClampNeg + j)) (vIn (vw σ 7) (nI i)) (a.toNatClampNeg) ((σ 7 0).toNatClampNeg) (σ (7 + 6)) 0 (n.toNatClampNeg)) (i + 1) = s_ci (fun i => s_at (fun j => σ 2 (40 * ro.toNatClampNeg + j)) (vIn (vw σ 7) (nI i)) (a.toNatClampNeg) ((σ 7 0).toNatClampNeg) (σ (7 + 6)) 0 (n.toNatClampNeg)) i := if_neg (fun h => Bool.false_ne_true (c_42.symm.trans h))
        exact g_eqw (kk_i _ _ (⟨frT_tr hf hF, by rw [ht2, ht]⟩)) (by simp [lsub, hci, nI_succ, hs, c_42]) rfl rfl
      · rw [bI_n0] at c_42
        refine g_iload (q := 47) dX4_roomsItCameInto_45 rfl rfl ?_
        refine g_iconst (q := 48) dX4_roomsItCameInto_47 ci_1 rfl ?_
        refine g_iload (q := 50) dX4_roomsItCameInto_48 rfl rfl ?_
        refine g_ishl (q := 51) dX4_roomsItCameInto_50 rfl ?_
        refine g_ior (q := 52) dX4_roomsItCameInto_51 rfl ?_
        refine g_istore (q := 54) dX4_roomsItCameInto_52 (by decide) rfl rfl ?_
        refine g_iinc (q := 57) dX4_roomsItCameInto_54 rfl ci_1 (by decide) rfl rfl ?_
        refine g_goto (t := 6) dX4_roomsItCameInto_57 (by decide) ?_
        have hs : s_ci (fun i => s_at (fun j => σ 2 (40 * ro.toNatClampNeg + j)) (vIn (vw σ 7) (nI i)) (a.toNatClampNeg) ((σ 7 0).toNatClampNeg) (σ (7 + 6)) 0 (n.toNatClampNeg)) (i + 1) = s_ci (fun i => s_at (fun j => σ 2 (40 * ro.toNatClampNeg + j)) (vIn (vw σ 7) (nI i)) (a.toNatClampNeg) ((σ 7 0).toNatClampNeg) (σ (7 + 6)) 0 (n.toNatClampNeg)) i ||| (1 <<< (nI i &&& 31)) := if_pos c_42
        exact g_eqw (kk_i _ _ (⟨frT_tr hf hF, by rw [ht2, ht]⟩)) (by simp [lsub, hci, nI_succ, hs, c_42]) rfl rfl
  · obtain ⟨hf, ht⟩ := hJ_i
    refine g_iload (q := 8) dX4_roomsItCameInto_6 rfl rfl ?_
    refine g_aload_n (q := 9) dX4_roomsItCameInto_8 rfl rfl ?_
    refine f1_0 (q := 12) rfl wd_139 dX4_roomsItCameInto_9 rfl ?_
    refine g_icmp_ge (t := 60) (q := 15) dX4_roomsItCameInto_12 (by decide) rfl (fun c_12 => ?_) (fun c_12 => ?_)
    · refine g_iload (q := 62) dX4_roomsItCameInto_60 rfl rfl ?_
      refine g_iret dX4_roomsItCameInto_62 ⟨_, rfl, ?_⟩
      exact ⟨rfl, hf, ht⟩
    · exact absurd (lp_out (by rw [hf 7 (by omega)]; exact e0)) c_12
set_option maxRecDepth 20000 in
set_option maxHeartbeats 4000000 in
theorem c_X4_kindsItMayBe {E : EE} (hE : inj E 0 40) {σ : Sto} {τ : Stl} {s ro a n : Int32} (w : WFH σ 7) (hs0 : vp_in s 5) (hro : vp_in ro 8) (ha : ¬ a < 0) (hn : vp_in n 7) (hb : a.toNatClampNeg + n.toNatClampNeg * (σ 7 0).toNatClampNeg ≤ 40) : Ct E 0 40 yX4_kindsItMayBe cX4_kindsItMayBe 9 (some FieldType.int) { frames := 5, cells := 0, slots := 0, locals := 121 } [.ref (E.2.1 16), .ref (E.2.1 7), .int s, .ref (E.2.1 1), .int ro, .int a, .int n] σ τ (PiP (fun x σ' τ' => x = s_ci (fun i => decide (1 ≤ i) && s_at (fun j => σ 2 (40 * ro.toNatClampNeg + j)) (vKind (vw σ 7) (s.toNatClampNeg) (nI i)) (a.toNatClampNeg) ((σ 7 0).toNatClampNeg) (σ (7 + 6)) 0 (n.toNatClampNeg)) (6) ∧ frT σ σ' ∧ τ' = τ)) := by
  refine ct_of hE RX4 [some (.ref (E.2.1 16)), some (.ref (E.2.1 7)), some (.int s), some (.ref (E.2.1 1)), some (.int ro), some (.int a), some (.int n), none, none] (by decide) rfl (Nat.le_of_ble_eq_true rfl) rfl (fun X => ?_)
  obtain ⟨⟨e0, b0⟩, ⟨e5, b5⟩, ⟨e7, b7⟩⟩ := wf_n w
  refine g_iconst (q := 1) dX4_kindsItMayBe_0 ci_0 rfl ?_
  refine g_istore (q := 3) dX4_kindsItMayBe_1 (by decide) rfl rfl ?_
  refine g_iconst (q := 4) dX4_kindsItMayBe_3 ci_1 rfl ?_
  refine g_istore (q := 6) dX4_kindsItMayBe_4 (by decide) rfl rfl ?_
  refine g_loop (I := fun i => [some (.ref (E.2.1 16)), some (.ref (E.2.1 7)), some (.int s), some (.ref (E.2.1 1)), some (.int ro), some (.int a), some (.int n), some (.int (s_ci (fun i => decide (1 ≤ i) && s_at (fun j => σ 2 (40 * ro.toNatClampNeg + j)) (vKind (vw σ 7) (s.toNatClampNeg) (nI i)) (a.toNatClampNeg) ((σ 7 0).toNatClampNeg) (σ (7 + 6)) 0 (n.toNatClampNeg)) i)), some (.int (nI i))]) (J := fun i σ' τ' => frT σ σ' ∧ τ' = τ) (1) (6) ((by decide)) (by simp [lsub, s_ci]; rfl) (⟨frT_rf σ, rfl⟩) (fun i σi τi i0 i1 hJ_i kk_i => ?_) (fun σi τi hJ_i => ?_)
  · have hci : (nI i).toNatClampNeg = i := nI_clamp (by omega)
    obtain ⟨hf, ht⟩ := hJ_i
    refine g_iload (q := 8) dX4_kindsItMayBe_6 rfl rfl ?_
    refine g_iconst (q := 9) dX4_kindsItMayBe_8 ci_5 rfl ?_
    refine g_icmp_gt (t := 60) (q := 12) dX4_kindsItMayBe_9 (by decide) rfl (fun c_9 => ?_) (fun c_9 => ?_)
    · exact absurd c_9 (lpg_in (by rfl) (by omega) i1)
    · refine g_aload_n (q := 13) dX4_kindsItMayBe_12 rfl rfl ?_
      refine f4_0 (q := 16) wd_234 dX4_kindsItMayBe_13 rfl ?_
      refine g_aload_n (q := 17) dX4_kindsItMayBe_16 rfl rfl ?_
      refine g_callVv (q := 20) (c_X1_become hE rfl rfl (by decide)) lk_RX4_25 (Nat.zero_le _) (h_lt rfl) rfl (by decide) rfl rfl rfl rfl rfl rfl (Nat.le_of_ble_eq_true rfl) (Nat.le_of_ble_eq_true rfl) (Nat.le_of_ble_eq_true rfl) dX4_kindsItMayBe_17 rfl ?_
      refine g_aload_n (q := 21) dX4_kindsItMayBe_20 rfl rfl ?_
      refine f4_0 (q := 24) wd_234 dX4_kindsItMayBe_21 rfl ?_
      refine f1_10 (q := 27) rfl wd_166 dX4_kindsItMayBe_24 rfl ?_
      refine g_iload_n (q := 28) dX4_kindsItMayBe_27 rfl rfl ?_
      refine g_iload (q := 30) dX4_kindsItMayBe_28 rfl rfl ?_
      refine g_astH (q := 31) (c := 3) rfl (by decide) (by decide) (show vp_in _ 5 by first | assumption | ((with_reducible refine vp_in_nI ?_ ?_); (omega); (decide))) dX4_kindsItMayBe_30 rfl ?_
      refine g_aload_n (q := 32) dX4_kindsItMayBe_31 rfl rfl ?_
      refine g_aload_n (q := 33) dX4_kindsItMayBe_32 rfl rfl ?_
      refine g_iload (q := 35) dX4_kindsItMayBe_33 rfl rfl ?_
      refine g_iload (q := 37) dX4_kindsItMayBe_35 rfl rfl ?_
      refine g_iload (q := 39) dX4_kindsItMayBe_37 rfl rfl ?_
      refine g_callVip (q := 42) (c_X4_isAsTold hE (wfv_kind (wfv_of w) (vp_in_nI (by omega) (by decide))) (TV_kind (TV_bec2 (frS_T (frS_rf σ) hf)) (s.toNatClampNeg) (nI i)) hro ha hn hb) lk_RX4_85 (by decide) (by decide) rfl (by decide) rfl rfl rfl rfl rfl rfl (Nat.le_of_ble_eq_true rfl) (Nat.le_of_ble_eq_true rfl) (Nat.le_of_ble_eq_true rfl) dX4_kindsItMayBe_39 rfl (fun v_39 σ_39 τ_39 hp_39 => ?_)
      obtain ⟨hv, hF0, ht2⟩ := hp_39
      have hF := frT_tr (frT_tr (fr_bec σi 7) (fr_upc (by decide))) hF0
      have hit := (hF0 2 (by omega)).symm.trans ((hF 2 (by omega)).trans (hf 2 (by omega)))
      simp only [hit] at hv
      rw [hv]
      refine g_if_eq (t := 54) (q := 45) dX4_kindsItMayBe_42 (by decide) rfl (fun c_42 => ?_) (fun c_42 => ?_)
      · rw [bI_0] at c_42
        refine g_iinc (q := 57) dX4_kindsItMayBe_54 rfl ci_1 (by decide) rfl rfl ?_
        refine g_goto (t := 6) dX4_kindsItMayBe_57 (by decide) ?_
        have hs : s_ci (fun i => decide (1 ≤ i) && s_at (fun j => σ 2 (40 * ro.toNatClampNeg + j)) (vKind (vw σ 7) (s.toNatClampNeg) (nI i)) (a.toNatClampNeg) ((σ 7 0).toNatClampNeg) (σ (7 + 6)) 0 (n.toNatClampNeg)) (i + 1) = s_ci (fun i => decide (1 ≤ i) && s_at (fun j => σ 2 (40 * ro.toNatClampNeg + j)) (vKind (vw σ 7) (s.toNatClampNeg) (nI i)) (a.toNatClampNeg) ((σ 7 0).toNatClampNeg) (σ (7 + 6)) 0 (n.toNatClampNeg)) i := if_neg (fun h => Bool.false_ne_true (c_42.symm.trans (Bool.and_eq_true_iff.mp h).2))
        exact g_eqw (kk_i _ _ (⟨frT_tr hf hF, by rw [ht2, ht]⟩)) (by simp [lsub, hci, nI_succ, hs, c_42]) rfl rfl
      · rw [bI_n0] at c_42
        refine g_iload (q := 47) dX4_kindsItMayBe_45 rfl rfl ?_
        refine g_iconst (q := 48) dX4_kindsItMayBe_47 ci_1 rfl ?_
        refine g_iload (q := 50) dX4_kindsItMayBe_48 rfl rfl ?_
        refine g_ishl (q := 51) dX4_kindsItMayBe_50 rfl ?_
        refine g_ior (q := 52) dX4_kindsItMayBe_51 rfl ?_
        refine g_istore (q := 54) dX4_kindsItMayBe_52 (by decide) rfl rfl ?_
        refine g_iinc (q := 57) dX4_kindsItMayBe_54 rfl ci_1 (by decide) rfl rfl ?_
        refine g_goto (t := 6) dX4_kindsItMayBe_57 (by decide) ?_
        have hs : s_ci (fun i => decide (1 ≤ i) && s_at (fun j => σ 2 (40 * ro.toNatClampNeg + j)) (vKind (vw σ 7) (s.toNatClampNeg) (nI i)) (a.toNatClampNeg) ((σ 7 0).toNatClampNeg) (σ (7 + 6)) 0 (n.toNatClampNeg)) (i + 1) = s_ci (fun i => decide (1 ≤ i) && s_at (fun j => σ 2 (40 * ro.toNatClampNeg + j)) (vKind (vw σ 7) (s.toNatClampNeg) (nI i)) (a.toNatClampNeg) ((σ 7 0).toNatClampNeg) (σ (7 + 6)) 0 (n.toNatClampNeg)) i ||| (1 <<< (nI i &&& 31)) := if_pos (Bool.and_eq_true_iff.mpr ⟨decide_eq_true i0, c_42⟩)
        exact g_eqw (kk_i _ _ (⟨frT_tr hf hF, by rw [ht2, ht]⟩)) (by simp [lsub, hci, nI_succ, hs, c_42]) rfl rfl
  · obtain ⟨hf, ht⟩ := hJ_i
    refine g_iload (q := 8) dX4_kindsItMayBe_6 rfl rfl ?_
    refine g_iconst (q := 9) dX4_kindsItMayBe_8 ci_5 rfl ?_
    refine g_icmp_gt (t := 60) (q := 12) dX4_kindsItMayBe_9 (by decide) rfl (fun c_9 => ?_) (fun c_9 => ?_)
    · refine g_iload (q := 62) dX4_kindsItMayBe_60 rfl rfl ?_
      refine g_iret dX4_kindsItMayBe_62 ⟨_, rfl, ?_⟩
      exact ⟨rfl, hf, ht⟩
    · exact absurd (lpg_out (by rfl) (by omega)) c_9
theorem TV_16 {σ v : Sto} {c : Nat → Int32} (h : TV σ v c) (f : Nat → Int32) : TV (upc σ 16 f) v c := by
  obtain ⟨h0, hk, h6⟩ := h
  refine ⟨fun j hj => ?_, fun k h1 h2 => ?_, ?_⟩
  · rw [upc_ne (by decide)]; exact h0 j hj
  · rw [upc_ne (by omega)]; exact hk k h1 h2
  · rw [upc_ne (by decide)]; exact h6
set_option maxRecDepth 20000 in
set_option maxHeartbeats 4000000 in
theorem c_X4_findColdest {E : EE} (hE : inj E 0 40) {σ : Sto} {τ : Stl} {n : Int32} (w : WFH σ 7) (hn : ¬ n < 0) (hp : 0 < σ 7 0) : Ct E 0 40 yX4_findColdest cX4_findColdest 4 none { frames := 4, cells := 0, slots := 0, locals := 96 } [.ref (E.2.1 16), .ref (E.2.1 7), .int n] σ τ (PvP (fun σ' τ' => frS σ σ' ∧ σ' 16 1 = (s_co (hcs (vw σ 7) (σ (7 + 6)) (n.toNatClampNeg)) ((σ 7 0).toNatClampNeg - 1)).1 ∧ σ' 16 2 = (s_co (hcs (vw σ 7) (σ (7 + 6)) (n.toNatClampNeg)) ((σ 7 0).toNatClampNeg - 1)).2 ∧ τ' = τ)) := by
  refine ct_of hE RX4 [some (.ref (E.2.1 16)), some (.ref (E.2.1 7)), some (.int n), none] (by decide) rfl (Nat.le_of_ble_eq_true rfl) rfl (fun X => ?_)
  obtain ⟨⟨e0, b0⟩, ⟨e5, b5⟩, ⟨e7, b7⟩⟩ := wf_n w
  refine g_aload_n (q := 1) dX4_findColdest_0 rfl rfl ?_
  refine g_aload_n (q := 2) dX4_findColdest_1 rfl rfl ?_
  refine g_iload_n (q := 3) dX4_findColdest_2 rfl rfl ?_
  refine g_callVvp (q := 6) (c_X4_look hE w (frS_rf σ) hn) lk_RX4_108 (by decide) (by decide) rfl (by decide) rfl rfl rfl rfl rfl rfl (Nat.le_of_ble_eq_true rfl) (Nat.le_of_ble_eq_true rfl) (Nat.le_of_ble_eq_true rfl) dX4_findColdest_3 rfl (fun σ_3 τ_3 hp_3 => ?_)
  obtain ⟨hf2, hT, ht2⟩ := hp_3
  refine g_aload_n (q := 7) dX4_findColdest_6 rfl rfl ?_
  refine g_iconst (q := 8) dX4_findColdest_7 ci_0 rfl ?_
  refine g_aload_n (q := 9) dX4_findColdest_8 rfl rfl ?_
  refine f4_0 (q := 12) wd_234 dX4_findColdest_9 rfl ?_
  refine f1_13 (q := 15) rfl wd_178 dX4_findColdest_12 rfl ?_
  refine g_iconst (q := 16) dX4_findColdest_15 ci_0 rfl ?_
  refine g_aldH (q := 17) (c := 6) rfl (by decide) (by decide) (show vp_in _ 6 by rw [show (0 : Int32) = nI 0 from rfl]; exact vp_in_nI (by decide) (by decide)) dX4_findColdest_16 rfl ?_
  refine g_callVv (q := 20) (c_X4_tell hE ) lk_RX4_34 (by decide) (by decide) rfl (by decide) rfl rfl rfl rfl rfl rfl (Nat.le_of_ble_eq_true rfl) (Nat.le_of_ble_eq_true rfl) (Nat.le_of_ble_eq_true rfl) dX4_findColdest_17 rfl ?_
  refine g_iconst (q := 21) dX4_findColdest_20 ci_1 rfl ?_
  refine g_istore_n (j := 3) (q := 22) dX4_findColdest_21 rfl (by decide) rfl rfl ?_
  refine g_loop (I := fun i => [some (.ref (E.2.1 16)), some (.ref (E.2.1 7)), some (.int n), some (.int (nI i))]) (J := fun i σ' τ' => frS σ σ' ∧ TV σ' (vw σ 7) (hcs (vw σ 7) (σ (7 + 6)) (n.toNatClampNeg)) ∧ σ' 16 1 = (s_co (hcs (vw σ 7) (σ (7 + 6)) (n.toNatClampNeg)) (i - 1)).1 ∧ σ' 16 2 = (s_co (hcs (vw σ 7) (σ (7 + 6)) (n.toNatClampNeg)) (i - 1)).2 ∧ τ' = τ) (1) ((σ 7 0).toNatClampNeg) (one_le hp) (by simp [lsub]; rfl) (⟨frS_16 (frS_T (frS_rf σ) hf2) _, TV_16 hT _, tell_1 _ _ _, by rw [tell_2, hT.2.2]; rfl, ht2⟩) (fun i σi τi i0 i1 hJ_i kk_i => ?_) (fun σi τi hJ_i => ?_)
  · have hci : (nI i).toNatClampNeg = i := nI_clamp (by omega)
    obtain ⟨hf, hT, ha, hb, ht⟩ := hJ_i
    refine g_iload_n (q := 23) dX4_findColdest_22 rfl rfl ?_
    refine g_aload_n (q := 24) dX4_findColdest_23 rfl rfl ?_
    refine f4_0 (q := 27) wd_234 dX4_findColdest_24 rfl ?_
    refine f1_0 (q := 30) rfl wd_139 dX4_findColdest_27 rfl ?_
    refine g_icmp_ge (t := 69) (q := 33) dX4_findColdest_30 (by decide) rfl (fun c_30 => ?_) (fun c_30 => ?_)
    · exact absurd c_30 (lp_in (by rw [hT.1 0 (by decide)]; exact e0) (by omega) i1)
    · refine g_aload_n (q := 34) dX4_findColdest_33 rfl rfl ?_
      refine f4_0 (q := 37) wd_234 dX4_findColdest_34 rfl ?_
      refine f1_13 (q := 40) rfl wd_178 dX4_findColdest_37 rfl ?_
      refine g_iload_n (q := 41) dX4_findColdest_40 rfl rfl ?_
      refine g_aldH (q := 42) (c := 6) rfl (by decide) (by decide) (show vp_in _ 6 by ((with_reducible refine vp_in_nI ?_ ?_); (omega); (decide))) dX4_findColdest_41 rfl ?_
      refine g_aload_n (q := 43) dX4_findColdest_42 rfl rfl ?_
      refine f4_2 (q := 46) wd_237 dX4_findColdest_43 rfl ?_
      refine g_icmp_le (t := 63) (q := 49) dX4_findColdest_46 (by decide) rfl (fun c_46 => ?_) (fun c_46 => ?_)
      · rw [hT.2.2, hb, hci] at c_46
        refine g_iinc (q := 66) dX4_findColdest_63 rfl ci_1 (by decide) rfl rfl ?_
        refine g_goto (t := 22) dX4_findColdest_66 (by decide) ?_
        have hs : s_co (hcs (vw σ 7) (σ (7 + 6)) (n.toNatClampNeg)) (i + 1 - 1) = s_co (hcs (vw σ 7) (σ (7 + 6)) (n.toNatClampNeg)) (i - 1) := by rw [show i + 1 - 1 = (i - 1) + 1 by omega]; exact if_pos (by rw [show i - 1 + 1 = i by omega]; exact c_46)
        exact g_eqw (kk_i _ _ (⟨hf, hT, by rw [hs]; exact ha, by rw [hs]; exact hb, ht⟩)) (by simp [lsub, hci, nI_succ, c_46]) rfl rfl
      · rw [hT.2.2, hb, hci] at c_46
        refine g_aload_n (q := 50) dX4_findColdest_49 rfl rfl ?_
        refine g_iload_n (q := 51) dX4_findColdest_50 rfl rfl ?_
        refine g_aload_n (q := 52) dX4_findColdest_51 rfl rfl ?_
        refine f4_0 (q := 55) wd_234 dX4_findColdest_52 rfl ?_
        refine f1_13 (q := 58) rfl wd_178 dX4_findColdest_55 rfl ?_
        refine g_iload_n (q := 59) dX4_findColdest_58 rfl rfl ?_
        refine g_aldH (q := 60) (c := 6) rfl (by decide) (by decide) (show vp_in _ 6 by ((with_reducible refine vp_in_nI ?_ ?_); (omega); (decide))) dX4_findColdest_59 rfl ?_
        refine g_callVv (q := 63) (c_X4_tell hE ) lk_RX4_34 (by decide) (by decide) rfl (by decide) rfl rfl rfl rfl rfl rfl (Nat.le_of_ble_eq_true rfl) (Nat.le_of_ble_eq_true rfl) (Nat.le_of_ble_eq_true rfl) dX4_findColdest_60 rfl ?_
        refine g_iinc (q := 66) dX4_findColdest_63 rfl ci_1 (by decide) rfl rfl ?_
        refine g_goto (t := 22) dX4_findColdest_66 (by decide) ?_
        have hs : s_co (hcs (vw σ 7) (σ (7 + 6)) (n.toNatClampNeg)) (i + 1 - 1) = (nI i, (hcs (vw σ 7) (σ (7 + 6)) (n.toNatClampNeg)) i) := by rw [show i + 1 - 1 = (i - 1) + 1 by omega]; refine (if_neg ?_).trans ?_ <;> rw [show i - 1 + 1 = i by omega]; exact c_46
        exact g_eqw (kk_i _ _ (⟨frS_16 hf _, TV_16 hT _, by rw [hs, tell_1], by rw [hs, tell_2, hT.2.2, hci], ht⟩)) (by simp [lsub, hci, nI_succ, c_46]) rfl rfl
  · obtain ⟨hf, hT, ha, hb, ht⟩ := hJ_i
    refine g_iload_n (q := 23) dX4_findColdest_22 rfl rfl ?_
    refine g_aload_n (q := 24) dX4_findColdest_23 rfl rfl ?_
    refine f4_0 (q := 27) wd_234 dX4_findColdest_24 rfl ?_
    refine f1_0 (q := 30) rfl wd_139 dX4_findColdest_27 rfl ?_
    refine g_icmp_ge (t := 69) (q := 33) dX4_findColdest_30 (by decide) rfl (fun c_30 => ?_) (fun c_30 => ?_)
    · refine g_vret dX4_findColdest_69 ⟨rfl, ?_⟩
      exact ⟨hf, ha, hb, ht⟩
    · exact absurd (lp_out (by rw [hT.1 0 (by decide)]; exact e0)) c_30
def pbV (v : Sto) (a b : Int32) (j : Nat) : Bool := ((s_rl (v 0 6 &&& (nI j ^^^ (-1))) (v 1) (v 2) ((v 0 5).toNatClampNeg) a ((v 0 0).toNatClampNeg - 1)) >>> (b &&& 31)) &&& 1 == 0
def dsOk (v : Sto) (a b : Int32) (p : Int32 × Int32) (j : Nat) : Prop := (p.1 = NO ∨ s_bc (nI j) < p.1) ∧ nI j &&& (v 0 6 ^^^ (-1)) = 0 ∧ pbV v a b j = true
def s_ds (v : Sto) (a b : Int32) : Nat → Int32 × Int32
  | 0 => (NO, NO)
  | j + 1 => if ((s_ds v a b j).1 = NO ∨ s_bc (nI j) < (s_ds v a b j).1) ∧ nI j &&& (v 0 6 ^^^ (-1)) = 0 ∧ pbV v a b j = true then (s_bc (nI j), nI j) else s_ds v a b j
set_option maxRecDepth 20000 in
set_option maxHeartbeats 4000000 in
theorem c_X4_isPartedBy {E : EE} (hE : inj E 0 40) {h : Nat} (hh : kd h = 1) {σ : Sto} {τ : Stl} {s a b : Int32} (w : WFH σ h) (hp : 0 < σ h 0) : Ct E 0 40 yX4_isPartedBy cX4_isPartedBy 4 (some FieldType.boolean) { frames := 1, cells := 0, slots := 0, locals := 26 } [.ref (E.2.1 h), .int s, .int a, .int b] σ τ (Pi (bI (((s_rl (σ h 6 &&& (s ^^^ (-1))) (σ (h + 1)) (σ (h + 2)) ((σ h 5).toNatClampNeg) a ((σ h 0).toNatClampNeg - 1)) >>> (b &&& 31)) &&& 1 == 0)) (σ) (τ)) := by
  refine ct_of hE RX4 [some (.ref (E.2.1 h)), some (.int s), some (.int a), some (.int b)] (by decide) rfl (Nat.le_of_ble_eq_true rfl) rfl (fun X => ?_)
  refine g_aload_n (q := 1) dX4_isPartedBy_0 rfl rfl ?_
  refine g_iload_n (q := 2) dX4_isPartedBy_1 rfl rfl ?_
  refine g_aload_n (q := 3) dX4_isPartedBy_2 rfl rfl ?_
  refine f1_6 (q := 6) hh wd_156 dX4_isPartedBy_3 rfl ?_
  refine g_iload_n (q := 7) dX4_isPartedBy_6 rfl rfl ?_
  refine g_iconst (q := 8) dX4_isPartedBy_7 ci_m1 rfl ?_
  refine g_ixor (q := 9) dX4_isPartedBy_8 rfl ?_
  refine g_iand (q := 10) dX4_isPartedBy_9 rfl ?_
  refine g_callVi (q := 13) (c_X1_roomsLedTo hE hh (by assumption) (by assumption)) lk_RX4_105 (Nat.zero_le _) (h_lt hh) hh (by decide) rfl rfl rfl rfl rfl rfl (Nat.le_of_ble_eq_true rfl) (Nat.le_of_ble_eq_true rfl) (Nat.le_of_ble_eq_true rfl) dX4_isPartedBy_10 rfl ?_
  refine g_iload_n (q := 14) dX4_isPartedBy_13 rfl rfl ?_
  refine g_ishr (q := 15) dX4_isPartedBy_14 rfl ?_
  refine g_iconst (q := 16) dX4_isPartedBy_15 ci_1 rfl ?_
  refine g_iand (q := 17) dX4_isPartedBy_16 rfl ?_
  refine g_if_ne (t := 24) (q := 20) dX4_isPartedBy_17 (by decide) rfl (fun c_17 => ?_) (fun c_17 => ?_)
  · refine g_iconst (q := 25) dX4_isPartedBy_24 ci_0 rfl ?_
    exact g_zret dX4_isPartedBy_25 (by first | decide | exact bI_nar _) (pi_i (by simp_all [bI]) (by rfl) rfl)
  · refine g_iconst (q := 21) dX4_isPartedBy_20 ci_1 rfl ?_
    refine g_goto (t := 25) dX4_isPartedBy_21 (by decide) ?_
    exact g_zret dX4_isPartedBy_25 (by first | decide | exact bI_nar _) (pi_i (by simp_all [bI]) (by rfl) rfl)
set_option maxRecDepth 20000 in
set_option maxHeartbeats 4000000 in
theorem c_X4_findDoorsToShut {E : EE} (hE : inj E 0 40) {σ : Sto} {τ : Stl} {a b : Int32} (w : WFH σ 7) (hp : 0 < σ 7 0) : Ct E 0 40 yX4_findDoorsToShut cX4_findDoorsToShut 8 none { frames := 2, cells := 0, slots := 0, locals := 49 } [.ref (E.2.1 16), .ref (E.2.1 7), .int a, .int b] σ τ (PvP (fun σ' τ' => frS σ σ' ∧ σ' 16 1 = (if a = b then (NO, NO) else s_ds (vw σ 7) a b (2 ^ (σ 7 5).toNatClampNeg)).1 ∧ σ' 16 2 = (if a = b then (NO, NO) else s_ds (vw σ 7) a b (2 ^ (σ 7 5).toNatClampNeg)).2 ∧ τ' = τ)) := by
  refine ct_of hE RX4 [some (.ref (E.2.1 16)), some (.ref (E.2.1 7)), some (.int a), some (.int b), none, none, none, none] (by decide) rfl (Nat.le_of_ble_eq_true rfl) rfl (fun X => ?_)
  obtain ⟨⟨e0, b0⟩, ⟨e5, b5⟩, ⟨e7, b7⟩⟩ := wf_n w
  have hp8 := pw_le b5
  have hsh := sh1 b5
  rw [← e5] at hsh
  refine g_aload_n (q := 1) dX4_findDoorsToShut_0 rfl rfl ?_
  refine g_ldc (q := 3) dX4_findDoorsToShut_1 wd_596 rfl ?_
  refine g_ldc (q := 5) dX4_findDoorsToShut_3 wd_596 rfl ?_
  refine g_callVv (q := 8) (c_X4_tell hE ) lk_RX4_34 (by decide) (by decide) rfl (by decide) rfl rfl rfl rfl rfl rfl (Nat.le_of_ble_eq_true rfl) (Nat.le_of_ble_eq_true rfl) (Nat.le_of_ble_eq_true rfl) dX4_findDoorsToShut_5 rfl ?_
  refine g_iload_n (q := 9) dX4_findDoorsToShut_8 rfl rfl ?_
  refine g_iload_n (q := 10) dX4_findDoorsToShut_9 rfl rfl ?_
  refine g_icmp_ne (t := 14) (q := 13) dX4_findDoorsToShut_10 (by decide) rfl (fun c_10 => ?_) (fun c_10 => ?_)
  · rw [if_neg c_10]
    refine g_iconst (q := 15) dX4_findDoorsToShut_14 ci_1 rfl ?_
    refine g_aload_n (q := 16) dX4_findDoorsToShut_15 rfl rfl ?_
    refine f1_5 (q := 19) rfl wd_151 dX4_findDoorsToShut_16 rfl ?_
    refine g_ishl (q := 20) dX4_findDoorsToShut_19 rfl ?_
    refine g_st (stk' := [.int (nI (2 ^ (σ 7 5).toNatClampNeg))]) (by rw [upc_ne (show (7 : Nat) ≠ 16 by decide), hsh]) ?_
    refine g_istore (q := 22) dX4_findDoorsToShut_20 (by decide) rfl rfl ?_
    refine g_iconst (q := 23) dX4_findDoorsToShut_22 ci_0 rfl ?_
    refine g_istore (q := 25) dX4_findDoorsToShut_23 (by decide) rfl rfl ?_
    refine g_loop (I := fun i => [some (.ref (E.2.1 16)), some (.ref (E.2.1 7)), some (.int a), some (.int b), some (.int (nI (2 ^ (σ 7 5).toNatClampNeg))), some (.int (nI i)), none, none]) (J := fun i σ' τ' => frS σ σ' ∧ σ' 16 1 = (s_ds (vw σ 7) a b i).1 ∧ σ' 16 2 = (s_ds (vw σ 7) a b i).2 ∧ τ' = τ) (0) (2 ^ (σ 7 5).toNatClampNeg) (Nat.zero_le _) (by simp [lsub, nI_0]) (⟨frS_16 (frS_rf σ) _, tell_1 _ _ _, tell_2 _ _ _, rfl⟩) (fun i σi τi i0 i1 hJ_i kk_i => ?_) (fun σi τi hJ_i => ?_)
    · have hci : (nI i).toNatClampNeg = i := nI_clamp (by omega)
      obtain ⟨hf, ha, hb, ht⟩ := hJ_i
      refine g_iload (q := 27) dX4_findDoorsToShut_25 rfl rfl ?_
      refine g_iload (q := 29) dX4_findDoorsToShut_27 rfl rfl ?_
      refine g_icmp_ge (t := 106) (q := 32) dX4_findDoorsToShut_29 (by decide) rfl (fun c_29 => ?_) (fun c_29 => ?_)
      · exact absurd c_29 (lp_in (by rfl) (by omega) i1)
      · refine g_iload (q := 34) dX4_findDoorsToShut_32 rfl rfl ?_
        refine g_callSi (q := 37) (c_J6_bitCount_0f7a4 hE ) lk_RX4_48 rfl rfl rfl rfl (Nat.le_of_ble_eq_true rfl) (Nat.le_of_ble_eq_true rfl) (Nat.le_of_ble_eq_true rfl) dX4_findDoorsToShut_34 rfl ?_
        refine g_istore (q := 39) dX4_findDoorsToShut_37 (by decide) rfl rfl ?_
        refine g_aload_n (q := 40) dX4_findDoorsToShut_39 rfl rfl ?_
        refine f4_1 (q := 43) wd_236 dX4_findDoorsToShut_40 rfl ?_
        refine g_ldc (q := 45) dX4_findDoorsToShut_43 wd_596 rfl ?_
        refine g_icmp_eq (t := 57) (q := 48) dX4_findDoorsToShut_45 (by decide) rfl (fun c_45 => ?_) (fun c_45 => ?_)
        · rw [ha] at c_45
          refine g_iconst (q := 58) dX4_findDoorsToShut_57 ci_1 rfl ?_
          refine g_goto (t := 62) dX4_findDoorsToShut_58 (by decide) ?_
          refine g_istore (q := 64) dX4_findDoorsToShut_62 (by decide) rfl rfl ?_
          refine g_iload (q := 66) dX4_findDoorsToShut_64 rfl rfl ?_
          refine g_if_eq (t := 100) (q := 69) dX4_findDoorsToShut_66 (by decide) rfl (fun c_66 => ?_) (fun c_66 => ?_)
          · exact absurd c_66 (by decide)
          · refine g_iload (q := 71) dX4_findDoorsToShut_69 rfl rfl ?_
            refine g_aload_n (q := 72) dX4_findDoorsToShut_71 rfl rfl ?_
            refine f1_6 (q := 75) rfl wd_156 dX4_findDoorsToShut_72 rfl ?_
            refine g_iconst (q := 76) dX4_findDoorsToShut_75 ci_m1 rfl ?_
            refine g_ixor (q := 77) dX4_findDoorsToShut_76 rfl ?_
            refine g_iand (q := 78) dX4_findDoorsToShut_77 rfl ?_
            refine g_if_ne (t := 100) (q := 81) dX4_findDoorsToShut_78 (by decide) rfl (fun c_78 => ?_) (fun c_78 => ?_)
            · rw [hf 7 (by omega)] at c_78
              refine g_iinc (q := 103) dX4_findDoorsToShut_100 rfl ci_1 (by decide) rfl rfl ?_
              refine g_goto (t := 25) dX4_findDoorsToShut_103 (by decide) ?_
              have hs : s_ds (vw σ 7) a b (i + 1) = s_ds (vw σ 7) a b i := if_neg (fun h => c_78 h.2.1)
              exact g_eqw (kk_i _ _ (⟨hf, by rw [hs]; exact ha, by rw [hs]; exact hb, ht⟩)) (by simp [lsub, hci, nI_succ, c_45, c_66, c_78]) rfl rfl
            · rw [hf 7 (by omega)] at c_78
              refine g_aload_n (q := 82) dX4_findDoorsToShut_81 rfl rfl ?_
              refine g_iload (q := 84) dX4_findDoorsToShut_82 rfl rfl ?_
              refine g_iload_n (q := 85) dX4_findDoorsToShut_84 rfl rfl ?_
              refine g_iload_n (q := 86) dX4_findDoorsToShut_85 rfl rfl ?_
              refine g_callSi (q := 89) (c_X4_isPartedBy hE rfl (wfh_fr hf w) (by rw [hf 7 (by omega)]; exact hp)) lk_RX4_101 rfl rfl rfl rfl (Nat.le_of_ble_eq_true rfl) (Nat.le_of_ble_eq_true rfl) (Nat.le_of_ble_eq_true rfl) dX4_findDoorsToShut_86 rfl ?_
              refine g_if_eq (t := 100) (q := 92) dX4_findDoorsToShut_89 (by decide) rfl (fun c_89 => ?_) (fun c_89 => ?_)
              · rw [bI_0] at c_89
                rw [hf 7 (by omega), hf (7 + 1) (by omega), hf (7 + 2) (by omega)] at c_89
                refine g_iinc (q := 103) dX4_findDoorsToShut_100 rfl ci_1 (by decide) rfl rfl ?_
                refine g_goto (t := 25) dX4_findDoorsToShut_103 (by decide) ?_
                have hs : s_ds (vw σ 7) a b (i + 1) = s_ds (vw σ 7) a b i := if_neg (fun h => Bool.false_ne_true (c_89.symm.trans h.2.2))
                exact g_eqw (kk_i _ _ (⟨hf, by rw [hs]; exact ha, by rw [hs]; exact hb, ht⟩)) (by simp [lsub, hci, nI_succ, c_45, c_66, c_78, c_89]) rfl rfl
              · rw [bI_n0] at c_89
                rw [hf 7 (by omega), hf (7 + 1) (by omega), hf (7 + 2) (by omega)] at c_89
                refine g_aload_n (q := 93) dX4_findDoorsToShut_92 rfl rfl ?_
                refine g_iload (q := 95) dX4_findDoorsToShut_93 rfl rfl ?_
                refine g_iload (q := 97) dX4_findDoorsToShut_95 rfl rfl ?_
                refine g_callVv (q := 100) (c_X4_tell hE ) lk_RX4_34 (by decide) (by decide) rfl (by decide) rfl rfl rfl rfl rfl rfl (Nat.le_of_ble_eq_true rfl) (Nat.le_of_ble_eq_true rfl) (Nat.le_of_ble_eq_true rfl) dX4_findDoorsToShut_97 rfl ?_
                refine g_iinc (q := 103) dX4_findDoorsToShut_100 rfl ci_1 (by decide) rfl rfl ?_
                refine g_goto (t := 25) dX4_findDoorsToShut_103 (by decide) ?_
                have hs : s_ds (vw σ 7) a b (i + 1) = (s_bc (nI i), nI i) := if_pos ⟨Or.inl c_45, c_78, c_89⟩
                exact g_eqw (kk_i _ _ (⟨frS_16 hf _, by rw [hs, tell_1], by rw [hs, tell_2], ht⟩)) (by simp [lsub, hci, nI_succ, c_45, c_66, c_78, c_89]) rfl rfl
        · rw [ha] at c_45
          refine g_iload (q := 50) dX4_findDoorsToShut_48 rfl rfl ?_
          refine g_aload_n (q := 51) dX4_findDoorsToShut_50 rfl rfl ?_
          refine f4_1 (q := 54) wd_236 dX4_findDoorsToShut_51 rfl ?_
          refine g_icmp_ge (t := 61) (q := 57) dX4_findDoorsToShut_54 (by decide) rfl (fun c_54 => ?_) (fun c_54 => ?_)
          · rw [ha] at c_54
            refine g_iconst (q := 62) dX4_findDoorsToShut_61 ci_0 rfl ?_
            refine g_istore (q := 64) dX4_findDoorsToShut_62 (by decide) rfl rfl ?_
            refine g_iload (q := 66) dX4_findDoorsToShut_64 rfl rfl ?_
            refine g_if_eq (t := 100) (q := 69) dX4_findDoorsToShut_66 (by decide) rfl (fun c_66 => ?_) (fun c_66 => ?_)
            · refine g_iinc (q := 103) dX4_findDoorsToShut_100 rfl ci_1 (by decide) rfl rfl ?_
              refine g_goto (t := 25) dX4_findDoorsToShut_103 (by decide) ?_
              have hs : s_ds (vw σ 7) a b (i + 1) = s_ds (vw σ 7) a b i := if_neg (fun h => h.1.elim c_45 (fun h => absurd h (Int32.not_lt.mpr c_54)))
              exact g_eqw (kk_i _ _ (⟨hf, by rw [hs]; exact ha, by rw [hs]; exact hb, ht⟩)) (by simp [lsub, hci, nI_succ, c_45, c_54, c_66]) rfl rfl
            · exact absurd rfl c_66
          · rw [ha] at c_54
            refine g_iconst (q := 58) dX4_findDoorsToShut_57 ci_1 rfl ?_
            refine g_goto (t := 62) dX4_findDoorsToShut_58 (by decide) ?_
            refine g_istore (q := 64) dX4_findDoorsToShut_62 (by decide) rfl rfl ?_
            refine g_iload (q := 66) dX4_findDoorsToShut_64 rfl rfl ?_
            refine g_if_eq (t := 100) (q := 69) dX4_findDoorsToShut_66 (by decide) rfl (fun c_66 => ?_) (fun c_66 => ?_)
            · exact absurd c_66 (by decide)
            · refine g_iload (q := 71) dX4_findDoorsToShut_69 rfl rfl ?_
              refine g_aload_n (q := 72) dX4_findDoorsToShut_71 rfl rfl ?_
              refine f1_6 (q := 75) rfl wd_156 dX4_findDoorsToShut_72 rfl ?_
              refine g_iconst (q := 76) dX4_findDoorsToShut_75 ci_m1 rfl ?_
              refine g_ixor (q := 77) dX4_findDoorsToShut_76 rfl ?_
              refine g_iand (q := 78) dX4_findDoorsToShut_77 rfl ?_
              refine g_if_ne (t := 100) (q := 81) dX4_findDoorsToShut_78 (by decide) rfl (fun c_78 => ?_) (fun c_78 => ?_)
              · rw [hf 7 (by omega)] at c_78
                refine g_iinc (q := 103) dX4_findDoorsToShut_100 rfl ci_1 (by decide) rfl rfl ?_
                refine g_goto (t := 25) dX4_findDoorsToShut_103 (by decide) ?_
                have hs : s_ds (vw σ 7) a b (i + 1) = s_ds (vw σ 7) a b i := if_neg (fun h => c_78 h.2.1)
                exact g_eqw (kk_i _ _ (⟨hf, by rw [hs]; exact ha, by rw [hs]; exact hb, ht⟩)) (by simp [lsub, hci, nI_succ, c_45, c_54, c_66, c_78]) rfl rfl
              · rw [hf 7 (by omega)] at c_78
                refine g_aload_n (q := 82) dX4_findDoorsToShut_81 rfl rfl ?_
                refine g_iload (q := 84) dX4_findDoorsToShut_82 rfl rfl ?_
                refine g_iload_n (q := 85) dX4_findDoorsToShut_84 rfl rfl ?_
                refine g_iload_n (q := 86) dX4_findDoorsToShut_85 rfl rfl ?_
                refine g_callSi (q := 89) (c_X4_isPartedBy hE rfl (wfh_fr hf w) (by rw [hf 7 (by omega)]; exact hp)) lk_RX4_101 rfl rfl rfl rfl (Nat.le_of_ble_eq_true rfl) (Nat.le_of_ble_eq_true rfl) (Nat.le_of_ble_eq_true rfl) dX4_findDoorsToShut_86 rfl ?_
                refine g_if_eq (t := 100) (q := 92) dX4_findDoorsToShut_89 (by decide) rfl (fun c_89 => ?_) (fun c_89 => ?_)
                · rw [bI_0] at c_89
                  rw [hf 7 (by omega), hf (7 + 1) (by omega), hf (7 + 2) (by omega)] at c_89
                  refine g_iinc (q := 103) dX4_findDoorsToShut_100 rfl ci_1 (by decide) rfl rfl ?_
                  refine g_goto (t := 25) dX4_findDoorsToShut_103 (by decide) ?_
                  have hs : s_ds (vw σ 7) a b (i + 1) = s_ds (vw σ 7) a b i := if_neg (fun h => Bool.false_ne_true (c_89.symm.trans h.2.2))
                  exact g_eqw (kk_i _ _ (⟨hf, by rw [hs]; exact ha, by rw [hs]; exact hb, ht⟩)) (by simp [lsub, hci, nI_succ, c_45, c_54, c_66, c_78, c_89]) rfl rfl
                · rw [bI_n0] at c_89
                  rw [hf 7 (by omega), hf (7 + 1) (by omega), hf (7 + 2) (by omega)] at c_89
                  refine g_aload_n (q := 93) dX4_findDoorsToShut_92 rfl rfl ?_
                  refine g_iload (q := 95) dX4_findDoorsToShut_93 rfl rfl ?_
                  refine g_iload (q := 97) dX4_findDoorsToShut_95 rfl rfl ?_
                  refine g_callVv (q := 100) (c_X4_tell hE ) lk_RX4_34 (by decide) (by decide) rfl (by decide) rfl rfl rfl rfl rfl rfl (Nat.le_of_ble_eq_true rfl) (Nat.le_of_ble_eq_true rfl) (Nat.le_of_ble_eq_true rfl) dX4_findDoorsToShut_97 rfl ?_
                  refine g_iinc (q := 103) dX4_findDoorsToShut_100 rfl ci_1 (by decide) rfl rfl ?_
                  refine g_goto (t := 25) dX4_findDoorsToShut_103 (by decide) ?_
                  have hs : s_ds (vw σ 7) a b (i + 1) = (s_bc (nI i), nI i) := if_pos ⟨Or.inr (Int32.not_le.mp c_54), c_78, c_89⟩
                  exact g_eqw (kk_i _ _ (⟨frS_16 hf _, by rw [hs, tell_1], by rw [hs, tell_2], ht⟩)) (by simp [lsub, hci, nI_succ, c_45, c_54, c_66, c_78, c_89]) rfl rfl
    · obtain ⟨hf, ha, hb, ht⟩ := hJ_i
      refine g_iload (q := 27) dX4_findDoorsToShut_25 rfl rfl ?_
      refine g_iload (q := 29) dX4_findDoorsToShut_27 rfl rfl ?_
      refine g_icmp_ge (t := 106) (q := 32) dX4_findDoorsToShut_29 (by decide) rfl (fun c_29 => ?_) (fun c_29 => ?_)
      · refine g_vret dX4_findDoorsToShut_106 ⟨rfl, ?_⟩
        exact ⟨hf, ha, hb, ht⟩
      · exact absurd (lp_out (by rfl)) c_29
  · refine g_vret dX4_findDoorsToShut_13 ⟨rfl, ?_⟩
    rw [if_pos c_10]
    exact ⟨frS_16 (frS_rf σ) _, tell_1 _ _ _, tell_2 _ _ _, rfl⟩
