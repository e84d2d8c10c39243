theorem sh1 {D : Nat} (h : D ≤ 8) : (1 : Int32) <<< (nI D &&& 31) = nI (2 ^ D) := by
  have : ∀ D, D ≤ 8 → (1 : Int32) <<< (nI D &&& 31) = nI (2 ^ D) := by decide +kernel
  exact this D h
theorem pw_le {D : Nat} (h : D ≤ 8) : 2 ^ D ≤ 256 := Nat.pow_le_pow_right (by decide) h
def s_dm1 (hit : Nat → Nat → Bool) (i j : Nat) (k : Int32 × Int32) : Nat → Int32 × Int32
  | 0 => k
  | m + 1 => if hit i j then (nI i, nI j) else s_dm1 hit i (j + 1) k m
def s_dm (hit : Nat → Nat → Bool) (S i : Nat) : Nat → Int32 × Int32
  | 0 => (NO, NO)
  | m + 1 => s_dm1 hit i 0 (s_dm hit S (i + 1) m) S
def dmHit (v : Sto) (c : Nat → Int32) (a b t : Int32) (n : Nat) (i j : Nat) : Bool := (s_bc (nI j) == nI i) && s_cw (hcs (vDoors v (nI j)) c n) a b t 0 ((vDoors v (nI j) 0 0).toNatClampNeg)
def s_seat (x : Nat → Int32) : Nat → Int32 × Int32
  | 0 => (NO, NO)
  | i + 1 => if (s_seat x i).1 = NO ∨ x i < (s_seat x i).2 then (nI i, x i) else s_seat x i
def soStep (hu : Nat → Nat → Nat → Int32) (N s r : Nat) (p : Int32 × Int32) : Int32 × Int32 := if hu s r (if p.1 = NO then N else p.1.toNatClampNeg) = NO then p else (hu s r (if p.1 = NO then N else p.1.toNatClampNeg), 10 * nI s + nI r)
def s_so1 (hu : Nat → Nat → Nat → Int32) (N s : Nat) (p : Int32 × Int32) : Nat → Int32 × Int32
  | 0 => p
  | r + 1 => soStep hu N s r (s_so1 hu N s p r)
def s_so (hu : Nat → Nat → Nat → Int32) (N Rm : Nat) (p : Int32 × Int32) : Nat → Int32 × Int32
  | 0 => p
  | s + 1 => s_so1 hu N s (s_so hu N Rm p s) Rm
theorem s_hu_rg (v : Sto) (r t : Int32) : ∀ (m h : Nat) (c : Nat → Int32), s_hu v c r t h m = NO ∨ ∃ k, k < h + m ∧ s_hu v c r t h m = nI k := by
  intro m
  induction m with
  | zero => intro h c; exact Or.inl rfl
  | succ m ih =>
    intro h c
    simp only [s_hu]
    split
    · rcases ih (h + 1) (HC v c) with e | ⟨k, hk, e⟩
      · exact Or.inl e
      · exact Or.inr ⟨k, by omega, e⟩
    · exact Or.inr ⟨h, by omega, rfl⟩
set_option maxRecDepth 20000 in
set_option maxHeartbeats 4000000 in
theorem c_X4_findDoorsToMove {E : EE} (hE : inj E 0 40) {σ : Sto} {τ : Stl} {a b t n : Int32} (w : WFH σ 7) (hn : ¬ n < 0) : Ct E 0 40 yX4_findDoorsToMove cX4_findDoorsToMove 9 none { frames := 4, cells := 0, slots := 0, locals := 97 } [.ref (E.2.1 16), .ref (E.2.1 7), .int a, .int b, .int t, .int n] σ τ (PvP (fun σ' τ' => frS σ σ' ∧ σ' 16 1 = (s_dm (dmHit (vw σ 7) (σ (7 + 6)) a b t (n.toNatClampNeg)) (2 ^ (σ 7 5).toNatClampNeg) 0 ((σ 7 5).toNatClampNeg + 1)).1 ∧ σ' 16 2 = (s_dm (dmHit (vw σ 7) (σ (7 + 6)) a b t (n.toNatClampNeg)) (2 ^ (σ 7 5).toNatClampNeg) 0 ((σ 7 5).toNatClampNeg + 1)).2 ∧ τ' = τ)) := by
  refine ct_of hE RX4 [some (.ref (E.2.1 16)), some (.ref (E.2.1 7)), some (.int a), some (.int b), some (.int t), some (.int n), none, none, none] (by decide) rfl (Nat.le_of_ble_eq_true rfl) rfl (fun X => ?_)
  obtain ⟨⟨e0, b0⟩, ⟨e5, b5⟩, ⟨e7, b7⟩⟩ := wf_n w
  have hp8 := pw_le b5
  have hsh := sh1 b5
  rw [← e5] at hsh
  refine g_aload_n (q := 1) dX4_findDoorsToMove_0 rfl rfl ?_
  refine g_ldc (q := 3) dX4_findDoorsToMove_1 wd_596 rfl ?_
  refine g_ldc (q := 5) dX4_findDoorsToMove_3 wd_596 rfl ?_
  refine g_callVv (q := 8) (c_X4_tell hE ) lk_RX4_34 (by decide) (by decide) rfl (by decide) rfl rfl rfl rfl rfl rfl (Nat.le_of_ble_eq_true rfl) (Nat.le_of_ble_eq_true rfl) (Nat.le_of_ble_eq_true rfl) dX4_findDoorsToMove_5 rfl ?_
  refine g_iconst (q := 9) dX4_findDoorsToMove_8 ci_1 rfl ?_
  refine g_aload_n (q := 10) dX4_findDoorsToMove_9 rfl rfl ?_
  refine f1_5 (q := 13) rfl wd_151 dX4_findDoorsToMove_10 rfl ?_
  refine g_ishl (q := 14) dX4_findDoorsToMove_13 rfl ?_
  refine g_st (stk' := [.int (nI (2 ^ (σ 7 5).toNatClampNeg))]) (by rw [upc_ne (show (7 : Nat) ≠ 16 by decide), hsh]) ?_
  refine g_istore (q := 16) dX4_findDoorsToMove_14 (by decide) rfl rfl ?_
  refine g_iconst (q := 17) dX4_findDoorsToMove_16 ci_0 rfl ?_
  refine g_istore (q := 19) dX4_findDoorsToMove_17 (by decide) rfl rfl ?_
  refine g_loop (I := fun i => [some (.ref (E.2.1 16)), some (.ref (E.2.1 7)), some (.int a), some (.int b), some (.int t), some (.int n), some (.int (nI (2 ^ (σ 7 5).toNatClampNeg))), some (.int (nI i)), none]) (J := fun i σ' τ' => frS σ σ' ∧ σ' 16 1 = NO ∧ σ' 16 2 = NO ∧ s_dm (dmHit (vw σ 7) (σ (7 + 6)) a b t (n.toNatClampNeg)) (2 ^ (σ 7 5).toNatClampNeg) i ((σ 7 5).toNatClampNeg + 1 - i) = s_dm (dmHit (vw σ 7) (σ (7 + 6)) a b t (n.toNatClampNeg)) (2 ^ (σ 7 5).toNatClampNeg) 0 ((σ 7 5).toNatClampNeg + 1) ∧ τ' = τ) (0) ((σ 7 5).toNatClampNeg + 1) (Nat.zero_le _) (by simp [lsub, nI_0]) (⟨frS_16 (frS_rf σ) _, tell_1 _ _ _, tell_2 _ _ _, rfl, rfl⟩) (fun i σi τi i0 i1 hJ_i kk_i => ?_) (fun σi τi hJ_i => ?_)
  · have hci : (nI i).toNatClampNeg = i := nI_clamp (by omega)
    obtain ⟨hf, ha, hb, hR, ht⟩ := hJ_i
    obtain ⟨m, hm⟩ : ∃ m, (σ 7 5).toNatClampNeg + 1 - i = m + 1 := ⟨(σ 7 5).toNatClampNeg - i, by omega⟩
    rw [hm] at hR
    simp only [s_dm] at hR
    rw [show m = (σ 7 5).toNatClampNeg + 1 - (i + 1) by omega] at hR
    refine g_iload (q := 21) dX4_findDoorsToMove_19 rfl rfl ?_
    refine g_aload_n (q := 22) dX4_findDoorsToMove_21 rfl rfl ?_
    refine f1_5 (q := 25) rfl wd_151 dX4_findDoorsToMove_22 rfl ?_
    refine g_icmp_gt (t := 92) (q := 28) dX4_findDoorsToMove_25 (by decide) rfl (fun c_25 => ?_) (fun c_25 => ?_)
    · exact absurd c_25 (lpg_in (by rw [hf 7 (by omega), nI_pred]; exact e5) (by omega) i1)
    · refine g_iconst (q := 29) dX4_findDoorsToMove_28 ci_0 rfl ?_
      refine g_istore (q := 31) dX4_findDoorsToMove_29 (by decide) rfl rfl ?_
      refine g_loop (I := fun j => [some (.ref (E.2.1 16)), some (.ref (E.2.1 7)), some (.int a), some (.int b), some (.int t), some (.int n), some (.int (nI (2 ^ (σ 7 5).toNatClampNeg))), some (.int (nI i)), some (.int (nI j))]) (J := fun j σ' τ' => frS σ σ' ∧ σ' 16 1 = NO ∧ σ' 16 2 = NO ∧ s_dm1 (dmHit (vw σ 7) (σ (7 + 6)) a b t (n.toNatClampNeg)) i j (s_dm (dmHit (vw σ 7) (σ (7 + 6)) a b t (n.toNatClampNeg)) (2 ^ (σ 7 5).toNatClampNeg) (i + 1) ((σ 7 5).toNatClampNeg + 1 - (i + 1))) (2 ^ (σ 7 5).toNatClampNeg - j) = s_dm (dmHit (vw σ 7) (σ (7 + 6)) a b t (n.toNatClampNeg)) (2 ^ (σ 7 5).toNatClampNeg) 0 ((σ 7 5).toNatClampNeg + 1) ∧ τ' = τ) (0) (2 ^ (σ 7 5).toNatClampNeg) (Nat.zero_le _) (by simp [lsub, nI_0]) (⟨hf, ha, hb, by rw [Nat.sub_zero]; exact hR, ht⟩) (fun j σj τj j0 j1 hJ_j kk_j => ?_) (fun σj τj hJ_j => ?_)
      · have hcj : (nI j).toNatClampNeg = j := nI_clamp (by omega)
        obtain ⟨hf, ha, hb, hR, ht⟩ := hJ_j
        obtain ⟨m, hm⟩ : ∃ m, 2 ^ (σ 7 5).toNatClampNeg - j = m + 1 := ⟨2 ^ (σ 7 5).toNatClampNeg - j - 1, by omega⟩
        rw [hm] at hR
        simp only [s_dm1] at hR
        refine g_iload (q := 33) dX4_findDoorsToMove_31 rfl rfl ?_
        refine g_iload (q := 35) dX4_findDoorsToMove_33 rfl rfl ?_
        refine g_icmp_ge (t := 86) (q := 38) dX4_findDoorsToMove_35 (by decide) rfl (fun c_35 => ?_) (fun c_35 => ?_)
        · exact absurd c_35 (lp_in (by rfl) (by omega) j1)
        · refine g_iload (q := 40) dX4_findDoorsToMove_38 rfl rfl ?_
          refine g_callSi (q := 43) (c_J6_bitCount_0f7a4 hE ) lk_RX4_48 rfl rfl rfl rfl (Nat.le_of_ble_eq_true rfl) (Nat.le_of_ble_eq_true rfl) (Nat.le_of_ble_eq_true rfl) dX4_findDoorsToMove_40 rfl ?_
          refine g_iload (q := 45) dX4_findDoorsToMove_43 rfl rfl ?_
          refine g_icmp_eq (t := 51) (q := 48) dX4_findDoorsToMove_45 (by decide) rfl (fun c_45 => ?_) (fun c_45 => ?_)
          · refine g_aload_n (q := 52) dX4_findDoorsToMove_51 rfl rfl ?_
            refine g_aload_n (q := 53) dX4_findDoorsToMove_52 rfl rfl ?_
            refine g_iload (q := 55) dX4_findDoorsToMove_53 rfl rfl ?_
            refine g_iload (q := 57) dX4_findDoorsToMove_55 rfl rfl ?_
            refine g_callVvp (q := 60) (c_X4_lookWithMoved hE w hf hn) lk_RX4_54 (by decide) (by decide) rfl (by decide) rfl rfl rfl rfl rfl rfl (Nat.le_of_ble_eq_true rfl) (Nat.le_of_ble_eq_true rfl) (Nat.le_of_ble_eq_true rfl) dX4_findDoorsToMove_57 rfl (fun σ_57 τ_57 hp_57 => ?_)
            obtain ⟨hf2, hT, ht2⟩ := hp_57
            refine g_aload_n (q := 61) dX4_findDoorsToMove_60 rfl rfl ?_
            refine g_iload_n (q := 62) dX4_findDoorsToMove_61 rfl rfl ?_
            refine g_iload_n (q := 63) dX4_findDoorsToMove_62 rfl rfl ?_
            refine g_iload (q := 65) dX4_findDoorsToMove_63 rfl rfl ?_
            refine g_callVi (q := 68) (c_X4_isColdAndWarm hE (wfv_mv (wfv_of w) _) hT) lk_RX4_58 (by decide) (by decide) rfl (by decide) rfl rfl rfl rfl rfl rfl (Nat.le_of_ble_eq_true rfl) (Nat.le_of_ble_eq_true rfl) (Nat.le_of_ble_eq_true rfl) dX4_findDoorsToMove_65 rfl ?_
            refine g_if_eq (t := 80) (q := 71) dX4_findDoorsToMove_68 (by decide) rfl (fun c_68 => ?_) (fun c_68 => ?_)
            · rw [bI_0] at c_68
              rw [if_neg (by simp [dmHit, c_45, c_68])] at hR
              refine g_iinc (q := 83) dX4_findDoorsToMove_80 rfl ci_1 (by decide) rfl rfl ?_
              refine g_goto (t := 31) dX4_findDoorsToMove_83 (by decide) ?_
              exact g_eqw (kk_j _ _ (⟨frS_T hf hf2, by rw [hf2 16 (by omega)]; exact ha, by rw [hf2 16 (by omega)]; exact hb, by rw [show 2 ^ (σ 7 5).toNatClampNeg - (j + 1) = m by omega]; exact hR, by rw [ht2, ht]⟩)) (by simp [lsub, hcj, nI_succ, c_45, c_68]) rfl rfl
            · rw [bI_n0] at c_68
              rw [if_pos (by simp [dmHit, c_45, c_68])] at hR
              refine g_aload_n (q := 72) dX4_findDoorsToMove_71 rfl rfl ?_
              refine g_iload (q := 74) dX4_findDoorsToMove_72 rfl rfl ?_
              refine g_iload (q := 76) dX4_findDoorsToMove_74 rfl rfl ?_
              refine g_callVv (q := 79) (c_X4_tell hE ) lk_RX4_34 (by decide) (by decide) rfl (by decide) rfl rfl rfl rfl rfl rfl (Nat.le_of_ble_eq_true rfl) (Nat.le_of_ble_eq_true rfl) (Nat.le_of_ble_eq_true rfl) dX4_findDoorsToMove_76 rfl ?_
              refine g_vret dX4_findDoorsToMove_79 ⟨rfl, ?_⟩
              exact ⟨frS_16 (frS_T hf hf2) _, by rw [tell_1, ← hR], by rw [tell_2, ← hR], by rw [ht2, ht]⟩
          · rw [if_neg (by simp [dmHit, c_45])] at hR
            refine g_goto (t := 80) dX4_findDoorsToMove_48 (by decide) ?_
            refine g_iinc (q := 83) dX4_findDoorsToMove_80 rfl ci_1 (by decide) rfl rfl ?_
            refine g_goto (t := 31) dX4_findDoorsToMove_83 (by decide) ?_
            exact g_eqw (kk_j _ _ (⟨hf, ha, hb, by rw [show 2 ^ (σ 7 5).toNatClampNeg - (j + 1) = m by omega]; exact hR, ht⟩)) (by simp [lsub, hcj, nI_succ, c_45]) rfl rfl
      · obtain ⟨hf, ha, hb, hR, ht⟩ := hJ_j
        rw [Nat.sub_self] at hR
        simp only [s_dm1] at hR
        refine g_iload (q := 33) dX4_findDoorsToMove_31 rfl rfl ?_
        refine g_iload (q := 35) dX4_findDoorsToMove_33 rfl rfl ?_
        refine g_icmp_ge (t := 86) (q := 38) dX4_findDoorsToMove_35 (by decide) rfl (fun c_35 => ?_) (fun c_35 => ?_)
        · refine g_iinc (q := 89) dX4_findDoorsToMove_86 rfl ci_1 (by decide) rfl rfl ?_
          refine g_goto (t := 19) dX4_findDoorsToMove_89 (by decide) ?_
          exact g_eqw (kk_i _ _ ⟨hf, ha, hb, hR, ht⟩) (by simp [lsub, nI_succ]) rfl rfl
        · exact absurd (lp_out (by rfl)) c_35
  · obtain ⟨hf, ha, hb, hR, ht⟩ := hJ_i
    refine g_iload (q := 21) dX4_findDoorsToMove_19 rfl rfl ?_
    refine g_aload_n (q := 22) dX4_findDoorsToMove_21 rfl rfl ?_
    refine f1_5 (q := 25) rfl wd_151 dX4_findDoorsToMove_22 rfl ?_
    refine g_icmp_gt (t := 92) (q := 28) dX4_findDoorsToMove_25 (by decide) rfl (fun c_25 => ?_) (fun c_25 => ?_)
    · refine g_vret dX4_findDoorsToMove_92 ⟨rfl, ?_⟩
      rw [Nat.sub_self] at hR
      exact ⟨hf, by rw [ha, ← hR]; rfl, by rw [hb, ← hR]; rfl, ht⟩
    · exact absurd (lpg_out (by rw [hf 7 (by omega), nI_pred]; exact e5) (by omega)) c_25
set_option maxRecDepth 20000 in
set_option maxHeartbeats 4000000 in
theorem c_X4_findSeat {E : EE} (hE : inj E 0 40) {σ : Sto} {τ : Stl} {s r n : Int32} (w : WFH σ 7) (hs : vp_in s 5) (hr : vp_in r 6) (hn : ¬ n < 0) : Ct E 0 40 yX4_findSeat cX4_findSeat 6 none { frames := 3, cells := 0, slots := 0, locals := 74 } [.ref (E.2.1 16), .ref (E.2.1 7), .int s, .int r, .int n] σ τ (PvP (fun σ' τ' => frS σ σ' ∧ σ' 16 1 = (s_seat (fun i => hcs (vSit (vw σ 7) (s.toNatClampNeg) (nI i)) (σ (7 + 6)) (n.toNatClampNeg) (r.toNatClampNeg)) ((σ 7 0).toNatClampNeg)).1 ∧ σ' 16 2 = (s_seat (fun i => hcs (vSit (vw σ 7) (s.toNatClampNeg) (nI i)) (σ (7 + 6)) (n.toNatClampNeg) (r.toNatClampNeg)) ((σ 7 0).toNatClampNeg)).2 ∧ τ' = τ)) := by
  refine ct_of hE RX4 [some (.ref (E.2.1 16)), some (.ref (E.2.1 7)), some (.int s), some (.int r), some (.int n), none] (by decide) rfl (Nat.le_of_ble_eq_true rfl) rfl (fun X => ?_)
  obtain ⟨⟨e0, b0⟩, ⟨e5, b5⟩, ⟨e7, b7⟩⟩ := wf_n w
  refine g_aload_n (q := 1) dX4_findSeat_0 rfl rfl ?_
  refine g_ldc (q := 3) dX4_findSeat_1 wd_596 rfl ?_
  refine g_ldc (q := 5) dX4_findSeat_3 wd_596 rfl ?_
  refine g_callVv (q := 8) (c_X4_tell hE ) lk_RX4_34 (by decide) (by decide) rfl (by decide) rfl rfl rfl rfl rfl rfl (Nat.le_of_ble_eq_true rfl) (Nat.le_of_ble_eq_true rfl) (Nat.le_of_ble_eq_true rfl) dX4_findSeat_5 rfl ?_
  refine g_iconst (q := 9) dX4_findSeat_8 ci_0 rfl ?_
  refine g_istore (q := 11) dX4_findSeat_9 (by decide) rfl rfl ?_
  refine g_loop (I := fun i => [some (.ref (E.2.1 16)), some (.ref (E.2.1 7)), some (.int s), some (.int r), some (.int n), some (.int (nI i))]) (J := fun i σ' τ' => frS σ σ' ∧ σ' 16 1 = (s_seat (fun i => hcs (vSit (vw σ 7) (s.toNatClampNeg) (nI i)) (σ (7 + 6)) (n.toNatClampNeg) (r.toNatClampNeg)) i).1 ∧ σ' 16 2 = (s_seat (fun i => hcs (vSit (vw σ 7) (s.toNatClampNeg) (nI i)) (σ (7 + 6)) (n.toNatClampNeg) (r.toNatClampNeg)) i).2 ∧ τ' = τ) (0) ((σ 7 0).toNatClampNeg) (Nat.zero_le _) (by simp [lsub, nI_0]) (⟨frS_16 (frS_rf σ) _, tell_1 _ _ _, tell_2 _ _ _, rfl⟩) (fun i σi τi i0 i1 hJ_i kk_i => ?_) (fun σi τi hJ_i => ?_)
  · have hci : (nI i).toNatClampNeg = i := nI_clamp (by omega)
    obtain ⟨hf, ha, hb, ht⟩ := hJ_i
    refine g_iload (q := 13) dX4_findSeat_11 rfl rfl ?_
    refine g_aload_n (q := 14) dX4_findSeat_13 rfl rfl ?_
    refine f1_0 (q := 17) rfl wd_139 dX4_findSeat_14 rfl ?_
    refine g_icmp_ge (t := 94) (q := 20) dX4_findSeat_17 (by decide) rfl (fun c_17 => ?_) (fun c_17 => ?_)
    · exact absurd c_17 (lp_in (by rw [hf 7 (by omega)]; exact e0) (by omega) i1)
    · refine g_aload_n (q := 21) dX4_findSeat_20 rfl rfl ?_
      refine f4_0 (q := 24) wd_234 dX4_findSeat_21 rfl ?_
      refine g_aload_n (q := 25) dX4_findSeat_24 rfl rfl ?_
      refine g_callVv (q := 28) (c_X1_become hE rfl rfl (by decide)) lk_RX4_25 (Nat.zero_le _) (h_lt rfl) rfl (by decide) rfl rfl rfl rfl rfl rfl (Nat.le_of_ble_eq_true rfl) (Nat.le_of_ble_eq_true rfl) (Nat.le_of_ble_eq_true rfl) dX4_findSeat_25 rfl ?_
      refine g_aload_n (q := 29) dX4_findSeat_28 rfl rfl ?_
      refine f4_0 (q := 32) wd_234 dX4_findSeat_29 rfl ?_
      refine f1_11 (q := 35) rfl wd_170 dX4_findSeat_32 rfl ?_
      refine g_iload_n (q := 36) dX4_findSeat_35 rfl rfl ?_
      refine g_iload (q := 38) dX4_findSeat_36 rfl rfl ?_
      refine g_astH (q := 39) (c := 4) rfl (by decide) (by decide) (show vp_in _ 5 by assumption) dX4_findSeat_38 rfl ?_
      refine g_aload_n (q := 40) dX4_findSeat_39 rfl rfl ?_
      refine f4_0 (q := 43) wd_234 dX4_findSeat_40 rfl ?_
      refine g_iload (q := 45) dX4_findSeat_43 rfl rfl ?_
      refine g_callVv (q := 48) (c_X1_passHours hE rfl (WF_TV (wfv_sit (wfv_of w) (vp_in_nI (by omega) (by decide))) (TV_sit (TV_bec2 hf) (s.toNatClampNeg) (nI i))) hn) lk_RX4_29 (Nat.zero_le _) (h_lt rfl) rfl (by decide) rfl rfl rfl rfl rfl rfl (Nat.le_of_ble_eq_true rfl) (Nat.le_of_ble_eq_true rfl) (Nat.le_of_ble_eq_true rfl) dX4_findSeat_45 rfl ?_
      have hT := TV_hrs (TV_sit (TV_bec2 hf) (s.toNatClampNeg) (nI i)) (n.toNatClampNeg)
      have hF : frT σi (hrs (upc (bec σi 17 7) (17 + 4) (upd (bec σi 17 7 (17 + 4)) (s.toNatClampNeg) (nI i))) 17 (n.toNatClampNeg)) := frT_tr (frT_tr (fr_bec σi 7) (fr_upc (by decide))) (fr_hrs _ _)
      generalize hrs (upc (bec σi 17 7) (17 + 4) (upd (bec σi 17 7 (17 + 4)) (s.toNatClampNeg) (nI i))) 17 (n.toNatClampNeg) = σ2 at hT hF ⊢
      have hA : σ2 16 = σi 16 := hF 16 (by omega)
      refine g_aload_n (q := 49) dX4_findSeat_48 rfl rfl ?_
      refine f4_1 (q := 52) wd_236 dX4_findSeat_49 rfl ?_
      refine g_ldc (q := 54) dX4_findSeat_52 wd_596 rfl ?_
      refine g_icmp_eq (t := 73) (q := 57) dX4_findSeat_54 (by decide) rfl (fun c_54 => ?_) (fun c_54 => ?_)
      · rw [hA, ha] at c_54
        refine g_aload_n (q := 74) dX4_findSeat_73 rfl rfl ?_
        refine g_iload (q := 76) dX4_findSeat_74 rfl rfl ?_
        refine g_aload_n (q := 77) dX4_findSeat_76 rfl rfl ?_
        refine f4_0 (q := 80) wd_234 dX4_findSeat_77 rfl ?_
        refine f1_13 (q := 83) rfl wd_178 dX4_findSeat_80 rfl ?_
        refine g_iload_n (q := 84) dX4_findSeat_83 rfl rfl ?_
        refine g_aldH (q := 85) (c := 6) rfl (by decide) (by decide) (show vp_in _ 6 by assumption) dX4_findSeat_84 rfl ?_
        refine g_callVv (q := 88) (c_X4_tell hE ) lk_RX4_34 (by decide) (by decide) rfl (by decide) rfl rfl rfl rfl rfl rfl (Nat.le_of_ble_eq_true rfl) (Nat.le_of_ble_eq_true rfl) (Nat.le_of_ble_eq_true rfl) dX4_findSeat_85 rfl ?_
        refine g_iinc (q := 91) dX4_findSeat_88 rfl ci_1 (by decide) rfl rfl ?_
        refine g_goto (t := 11) dX4_findSeat_91 (by decide) ?_
        have hs : s_seat (fun i => hcs (vSit (vw σ 7) (s.toNatClampNeg) (nI i)) (σ (7 + 6)) (n.toNatClampNeg) (r.toNatClampNeg)) (i + 1) = (nI i, (fun i => hcs (vSit (vw σ 7) (s.toNatClampNeg) (nI i)) (σ (7 + 6)) (n.toNatClampNeg) (r.toNatClampNeg)) i) := if_pos (Or.inl c_54)
        exact g_eqw (kk_i _ _ (⟨frS_16 (frS_T hf hF) _, by rw [hs, tell_1], by rw [hs, tell_2, hT.2.2], ht⟩)) (by simp [lsub, hci, nI_succ, c_54]) rfl rfl
      · rw [hA, ha] at c_54
        refine g_aload_n (q := 58) dX4_findSeat_57 rfl rfl ?_
        refine f4_0 (q := 61) wd_234 dX4_findSeat_58 rfl ?_
        refine f1_13 (q := 64) rfl wd_178 dX4_findSeat_61 rfl ?_
        refine g_iload_n (q := 65) dX4_findSeat_64 rfl rfl ?_
        refine g_aldH (q := 66) (c := 6) rfl (by decide) (by decide) (show vp_in _ 6 by assumption) dX4_findSeat_65 rfl ?_
        refine g_aload_n (q := 67) dX4_findSeat_66 rfl rfl ?_
        refine f4_2 (q := 70) wd_237 dX4_findSeat_67 rfl ?_
        refine g_icmp_ge (t := 88) (q := 73) dX4_findSeat_70 (by decide) rfl (fun c_70 => ?_) (fun c_70 => ?_)
        · rw [hA, hb, hT.2.2] at c_70
          refine g_iinc (q := 91) dX4_findSeat_88 rfl ci_1 (by decide) rfl rfl ?_
          refine g_goto (t := 11) dX4_findSeat_91 (by decide) ?_
          have hs : s_seat (fun i => hcs (vSit (vw σ 7) (s.toNatClampNeg) (nI i)) (σ (7 + 6)) (n.toNatClampNeg) (r.toNatClampNeg)) (i + 1) = s_seat (fun i => hcs (vSit (vw σ 7) (s.toNatClampNeg) (nI i)) (σ (7 + 6)) (n.toNatClampNeg) (r.toNatClampNeg)) i := if_neg (fun h => h.elim c_54 (fun h => absurd h (Int32.not_lt.mpr c_70)))
          exact g_eqw (kk_i _ _ (⟨frS_T hf hF, by rw [hs, hA]; exact ha, by rw [hs, hA]; exact hb, ht⟩)) (by simp [lsub, hci, nI_succ, c_54, c_70]) rfl rfl
        · rw [hA, hb, hT.2.2] at c_70
          refine g_aload_n (q := 74) dX4_findSeat_73 rfl rfl ?_
          refine g_iload (q := 76) dX4_findSeat_74 rfl rfl ?_
          refine g_aload_n (q := 77) dX4_findSeat_76 rfl rfl ?_
          refine f4_0 (q := 80) wd_234 dX4_findSeat_77 rfl ?_
          refine f1_13 (q := 83) rfl wd_178 dX4_findSeat_80 rfl ?_
          refine g_iload_n (q := 84) dX4_findSeat_83 rfl rfl ?_
          refine g_aldH (q := 85) (c := 6) rfl (by decide) (by decide) (show vp_in _ 6 by assumption) dX4_findSeat_84 rfl ?_
          refine g_callVv (q := 88) (c_X4_tell hE ) lk_RX4_34 (by decide) (by decide) rfl (by decide) rfl rfl rfl rfl rfl rfl (Nat.le_of_ble_eq_true rfl) (Nat.le_of_ble_eq_true rfl) (Nat.le_of_ble_eq_true rfl) dX4_findSeat_85 rfl ?_
          refine g_iinc (q := 91) dX4_findSeat_88 rfl ci_1 (by decide) rfl rfl ?_
          refine g_goto (t := 11) dX4_findSeat_91 (by decide) ?_
          have hs : s_seat (fun i => hcs (vSit (vw σ 7) (s.toNatClampNeg) (nI i)) (σ (7 + 6)) (n.toNatClampNeg) (r.toNatClampNeg)) (i + 1) = (nI i, (fun i => hcs (vSit (vw σ 7) (s.toNatClampNeg) (nI i)) (σ (7 + 6)) (n.toNatClampNeg) (r.toNatClampNeg)) i) := if_pos (Or.inr (Int32.not_le.mp c_70))
          exact g_eqw (kk_i _ _ (⟨frS_16 (frS_T hf hF) _, by rw [hs, tell_1], by rw [hs, tell_2, hT.2.2], ht⟩)) (by simp [lsub, hci, nI_succ, c_54, c_70]) rfl rfl
  · obtain ⟨hf, ha, hb, ht⟩ := hJ_i
    refine g_iload (q := 13) dX4_findSeat_11 rfl rfl ?_
    refine g_aload_n (q := 14) dX4_findSeat_13 rfl rfl ?_
    refine f1_0 (q := 17) rfl wd_139 dX4_findSeat_14 rfl ?_
    refine g_icmp_ge (t := 94) (q := 20) dX4_findSeat_17 (by decide) rfl (fun c_17 => ?_) (fun c_17 => ?_)
    · refine g_vret dX4_findSeat_94 ⟨rfl, ?_⟩
      exact ⟨hf, ha, hb, ht⟩
    · exact absurd (lp_out (by rw [hf 7 (by omega)]; exact e0)) c_17
set_option maxRecDepth 20000 in
set_option maxHeartbeats 4000000 in
theorem c_X4_findSoonest {E : EE} (hE : inj E 0 40) {σ : Sto} {τ : Stl} {ro t mo : Int32} {N : Nat} (w : WFH σ 7) (hro : vp_in ro 6) (hmo : mo = nI N - 1) (hN : N ≤ 61) : Ct E 0 40 yX4_findSoonest cX4_findSoonest 9 none { frames := 5, cells := 0, slots := 0, locals := 118 } [.ref (E.2.1 16), .ref (E.2.1 7), .int ro, .int t, .int mo] σ τ (PvP (fun σ' τ' => frS σ σ' ∧ σ' 16 1 = (s_so (fun s r M => s_hu (vSit (vw σ 7) s (nI r)) (σ (7 + 6)) ro t 0 M) N ((σ 7 0).toNatClampNeg) (s_hu (vw σ 7) (σ (7 + 6)) ro t 0 N, NO) ((σ 7 7).toNatClampNeg)).1 ∧ σ' 16 2 = (s_so (fun s r M => s_hu (vSit (vw σ 7) s (nI r)) (σ (7 + 6)) ro t 0 M) N ((σ 7 0).toNatClampNeg) (s_hu (vw σ 7) (σ (7 + 6)) ro t 0 N, NO) ((σ 7 7).toNatClampNeg)).2 ∧ τ' = τ)) := by
  refine ct_of hE RX4 [some (.ref (E.2.1 16)), some (.ref (E.2.1 7)), some (.int ro), some (.int t), some (.int mo), none, none, none, none] (by decide) rfl (Nat.le_of_ble_eq_true rfl) rfl (fun X => ?_)
  obtain ⟨⟨e0, b0⟩, ⟨e5, b5⟩, ⟨e7, b7⟩⟩ := wf_n w
  refine g_aload_n (q := 1) dX4_findSoonest_0 rfl rfl ?_
  refine f4_0 (q := 4) wd_234 dX4_findSoonest_1 rfl ?_
  refine g_aload_n (q := 5) dX4_findSoonest_4 rfl rfl ?_
  refine g_callVv (q := 8) (c_X1_become hE rfl rfl (by decide)) lk_RX4_25 (Nat.zero_le _) (h_lt rfl) rfl (by decide) rfl rfl rfl rfl rfl rfl (Nat.le_of_ble_eq_true rfl) (Nat.le_of_ble_eq_true rfl) (Nat.le_of_ble_eq_true rfl) dX4_findSoonest_5 rfl ?_
  refine g_aload_n (q := 9) dX4_findSoonest_8 rfl rfl ?_
  refine g_aload_n (q := 10) dX4_findSoonest_9 rfl rfl ?_
  refine g_iload_n (q := 11) dX4_findSoonest_10 rfl rfl ?_
  refine g_iload_n (q := 12) dX4_findSoonest_11 rfl rfl ?_
  refine g_iload (q := 14) dX4_findSoonest_12 rfl rfl ?_
  refine g_callVip (q := 17) (c_X4_hoursUntil hE (wfv_of w) (TV_bec2 (frS_rf σ)) hro hmo hN) lk_RX4_75 (by decide) (by decide) rfl (by decide) rfl rfl rfl rfl rfl rfl (Nat.le_of_ble_eq_true rfl) (Nat.le_of_ble_eq_true rfl) (Nat.le_of_ble_eq_true rfl) dX4_findSoonest_14 rfl (fun v_14 σ_14 τ_14 hp_14 => ?_)
  obtain ⟨hv, hF0, ht2⟩ := hp_14
  refine g_ldc (q := 19) dX4_findSoonest_17 wd_596 rfl ?_
  refine g_callVv (q := 22) (c_X4_tell hE ) lk_RX4_34 (by decide) (by decide) rfl (by decide) rfl rfl rfl rfl rfl rfl (Nat.le_of_ble_eq_true rfl) (Nat.le_of_ble_eq_true rfl) (Nat.le_of_ble_eq_true rfl) dX4_findSoonest_19 rfl ?_
  refine g_iconst (q := 23) dX4_findSoonest_22 ci_0 rfl ?_
  refine g_istore (q := 25) dX4_findSoonest_23 (by decide) rfl rfl ?_
  refine g_loop (I := fun s => [some (.ref (E.2.1 16)), some (.ref (E.2.1 7)), some (.int ro), some (.int t), some (.int mo), some (.int (nI s)), none, none, none]) (J := fun s σ' τ' => frS σ σ' ∧ σ' 16 1 = (s_so (fun s r M => s_hu (vSit (vw σ 7) s (nI r)) (σ (7 + 6)) ro t 0 M) N ((σ 7 0).toNatClampNeg) (s_hu (vw σ 7) (σ (7 + 6)) ro t 0 N, NO) s).1 ∧ σ' 16 2 = (s_so (fun s r M => s_hu (vSit (vw σ 7) s (nI r)) (σ (7 + 6)) ro t 0 M) N ((σ 7 0).toNatClampNeg) (s_hu (vw σ 7) (σ (7 + 6)) ro t 0 N, NO) s).2 ∧ (σ' 16 1 = NO ∨ ∃ k, k < N ∧ σ' 16 1 = nI k) ∧ τ' = τ) (0) ((σ 7 7).toNatClampNeg) (Nat.zero_le _) (by simp [lsub, nI_0]) (⟨frS_16 (frS_T (frS_T (frS_rf σ) (fr_bec σ 7)) hF0) _, by rw [tell_1, hv]; rfl, tell_2 _ _ _, by rw [tell_1, hv]; exact (s_hu_rg _ ro t N 0 _).imp id (fun ⟨k, h1, h2⟩ => ⟨k, by omega, h2⟩), ht2⟩) (fun s σs τs s0 s1 hJ_s kk_s => ?_) (fun σs τs hJ_s => ?_)
  · have hcs : (nI s).toNatClampNeg = s := nI_clamp (by omega)
    obtain ⟨hf, ha, hb, hk, ht⟩ := hJ_s
    refine g_iload (q := 27) dX4_findSoonest_25 rfl rfl ?_
    refine g_aload_n (q := 28) dX4_findSoonest_27 rfl rfl ?_
    refine f1_7 (q := 31) rfl wd_159 dX4_findSoonest_28 rfl ?_
    refine g_icmp_ge (t := 131) (q := 34) dX4_findSoonest_31 (by decide) rfl (fun c_31 => ?_) (fun c_31 => ?_)
    · exact absurd c_31 (lp_in (by rw [hf 7 (by omega)]; exact e7) (by omega) s1)
    · refine g_iconst (q := 35) dX4_findSoonest_34 ci_0 rfl ?_
      refine g_istore (q := 37) dX4_findSoonest_35 (by decide) rfl rfl ?_
      refine g_loop (I := fun r => [some (.ref (E.2.1 16)), some (.ref (E.2.1 7)), some (.int ro), some (.int t), some (.int mo), some (.int (nI s)), some (.int (nI r)), none, none]) (J := fun r σ' τ' => frS σ σ' ∧ σ' 16 1 = (s_so1 (fun s r M => s_hu (vSit (vw σ 7) s (nI r)) (σ (7 + 6)) ro t 0 M) N s (s_so (fun s r M => s_hu (vSit (vw σ 7) s (nI r)) (σ (7 + 6)) ro t 0 M) N ((σ 7 0).toNatClampNeg) (s_hu (vw σ 7) (σ (7 + 6)) ro t 0 N, NO) s) r).1 ∧ σ' 16 2 = (s_so1 (fun s r M => s_hu (vSit (vw σ 7) s (nI r)) (σ (7 + 6)) ro t 0 M) N s (s_so (fun s r M => s_hu (vSit (vw σ 7) s (nI r)) (σ (7 + 6)) ro t 0 M) N ((σ 7 0).toNatClampNeg) (s_hu (vw σ 7) (σ (7 + 6)) ro t 0 N, NO) s) r).2 ∧ (σ' 16 1 = NO ∨ ∃ k, k < N ∧ σ' 16 1 = nI k) ∧ τ' = τ) (0) ((σ 7 0).toNatClampNeg) (Nat.zero_le _) (by simp [lsub, nI_0]) (⟨hf, ha, hb, hk, ht⟩) (fun r σr τr r0 r1 hJ_r kk_r => ?_) (fun σr τr hJ_r => ?_)
      · have hcr : (nI r).toNatClampNeg = r := nI_clamp (by omega)
        obtain ⟨hf, ha, hb, hk, ht⟩ := hJ_r
        refine g_iload (q := 39) dX4_findSoonest_37 rfl rfl ?_
        refine g_aload_n (q := 40) dX4_findSoonest_39 rfl rfl ?_
        refine f1_0 (q := 43) rfl wd_139 dX4_findSoonest_40 rfl ?_
        refine g_icmp_ge (t := 125) (q := 46) dX4_findSoonest_43 (by decide) rfl (fun c_43 => ?_) (fun c_43 => ?_)
        · exact absurd c_43 (lp_in (by rw [hf 7 (by omega)]; exact e0) (by omega) r1)
        · refine g_aload_n (q := 47) dX4_findSoonest_46 rfl rfl ?_
          refine f4_1 (q := 50) wd_236 dX4_findSoonest_47 rfl ?_
          refine g_ldc (q := 52) dX4_findSoonest_50 wd_596 rfl ?_
          refine g_icmp_ne (t := 60) (q := 55) dX4_findSoonest_52 (by decide) rfl (fun c_52 => ?_) (fun c_52 => ?_)
          · refine g_aload_n (q := 61) dX4_findSoonest_60 rfl rfl ?_
            refine f4_1 (q := 64) wd_236 dX4_findSoonest_61 rfl ?_
            refine g_iconst (q := 65) dX4_findSoonest_64 ci_1 rfl ?_
            refine g_isub (q := 66) dX4_findSoonest_65 rfl ?_
            refine g_istore (q := 68) dX4_findSoonest_66 (by decide) rfl rfl ?_
            refine g_aload_n (q := 69) dX4_findSoonest_68 rfl rfl ?_
            refine f4_0 (q := 72) wd_234 dX4_findSoonest_69 rfl ?_
            refine g_aload_n (q := 73) dX4_findSoonest_72 rfl rfl ?_
            refine g_callVv (q := 76) (c_X1_become hE rfl rfl (by decide)) lk_RX4_25 (Nat.zero_le _) (h_lt rfl) rfl (by decide) rfl rfl rfl rfl rfl rfl (Nat.le_of_ble_eq_true rfl) (Nat.le_of_ble_eq_true rfl) (Nat.le_of_ble_eq_true rfl) dX4_findSoonest_73 rfl ?_
            refine g_aload_n (q := 77) dX4_findSoonest_76 rfl rfl ?_
            refine f4_0 (q := 80) wd_234 dX4_findSoonest_77 rfl ?_
            refine f1_11 (q := 83) rfl wd_170 dX4_findSoonest_80 rfl ?_
            refine g_iload (q := 85) dX4_findSoonest_83 rfl rfl ?_
            refine g_iload (q := 87) dX4_findSoonest_85 rfl rfl ?_
            refine g_astH (q := 88) (c := 4) rfl (by decide) (by decide) (show vp_in _ 5 by ((with_reducible refine vp_in_nI ?_ ?_); (omega); (decide))) dX4_findSoonest_87 rfl ?_
            refine g_aload_n (q := 89) dX4_findSoonest_88 rfl rfl ?_
            refine g_iload_n (q := 90) dX4_findSoonest_89 rfl rfl ?_
            refine g_iload_n (q := 91) dX4_findSoonest_90 rfl rfl ?_
            refine g_iload (q := 93) dX4_findSoonest_91 rfl rfl ?_
            refine g_callVip (q := 96) (c_X4_hoursUntil hE (wfv_sit (wfv_of w) (vp_in_nI (by omega) (by decide))) (TV_sit (TV_bec2 hf) _ (nI r)) hro (show _ = nI ((σr 16 1).toNatClampNeg) - 1 by obtain ⟨k, hk1, hk2⟩ := hk.resolve_left c_52; rw [hk2, nI_clamp (by omega)]) (by obtain ⟨k, hk1, hk2⟩ := hk.resolve_left c_52; rw [hk2, nI_clamp (by omega)]; omega)) lk_RX4_75 (by decide) (by decide) rfl (by decide) rfl rfl rfl rfl rfl rfl (Nat.le_of_ble_eq_true rfl) (Nat.le_of_ble_eq_true rfl) (Nat.le_of_ble_eq_true rfl) dX4_findSoonest_93 rfl (fun v_93 σ_93 τ_93 hp_93 => ?_)
            obtain ⟨hv, hF0, ht2⟩ := hp_93
            have hF := frT_tr (frT_tr (fr_bec σr 7) (fr_upc (f := upd (bec σr 17 7 (17 + 4)) ((nI s).toNatClampNeg) (nI r)) (by decide : 17 ≤ 17 + 4 ∧ 17 + 4 < 24))) hF0
            rw [hcs] at hv
            have hM : (if (s_so1 (fun s r M => s_hu (vSit (vw σ 7) s (nI r)) (σ (7 + 6)) ro t 0 M) N s (s_so (fun s r M => s_hu (vSit (vw σ 7) s (nI r)) (σ (7 + 6)) ro t 0 M) N ((σ 7 0).toNatClampNeg) (s_hu (vw σ 7) (σ (7 + 6)) ro t 0 N, NO) s) r).1 = NO then N else ((s_so1 (fun s r M => s_hu (vSit (vw σ 7) s (nI r)) (σ (7 + 6)) ro t 0 M) N s (s_so (fun s r M => s_hu (vSit (vw σ 7) s (nI r)) (σ (7 + 6)) ro t 0 M) N ((σ 7 0).toNatClampNeg) (s_hu (vw σ 7) (σ (7 + 6)) ro t 0 N, NO) s) r).1).toNatClampNeg) = ((σr 16 1).toNatClampNeg) := by rw [if_neg (by rw [← ha]; exact c_52), ← ha]
            have hA : σ_93 16 = σr 16 := hF 16 (by omega)
            have hg := s_hu_rg (vSit (vw σ 7) s (nI r)) ro t ((σr 16 1).toNatClampNeg) 0 (σ (7 + 6))
            refine g_istore (q := 98) dX4_findSoonest_96 (by decide) rfl rfl ?_
            refine g_iload (q := 100) dX4_findSoonest_98 rfl rfl ?_
            refine g_ldc (q := 102) dX4_findSoonest_100 wd_596 rfl ?_
            refine g_icmp_eq (t := 119) (q := 105) dX4_findSoonest_102 (by decide) rfl (fun c_102 => ?_) (fun c_102 => ?_)
            · refine g_iinc (q := 122) dX4_findSoonest_119 rfl ci_1 (by decide) rfl rfl ?_
              refine g_goto (t := 37) dX4_findSoonest_122 (by decide) ?_
              have hstep : s_so1 (fun s r M => s_hu (vSit (vw σ 7) s (nI r)) (σ (7 + 6)) ro t 0 M) N s (s_so (fun s r M => s_hu (vSit (vw σ 7) s (nI r)) (σ (7 + 6)) ro t 0 M) N ((σ 7 0).toNatClampNeg) (s_hu (vw σ 7) (σ (7 + 6)) ro t 0 N, NO) s) (r + 1) = soStep (fun s r M => s_hu (vSit (vw σ 7) s (nI r)) (σ (7 + 6)) ro t 0 M) N s r (s_so1 (fun s r M => s_hu (vSit (vw σ 7) s (nI r)) (σ (7 + 6)) ro t 0 M) N s (s_so (fun s r M => s_hu (vSit (vw σ 7) s (nI r)) (σ (7 + 6)) ro t 0 M) N ((σ 7 0).toNatClampNeg) (s_hu (vw σ 7) (σ (7 + 6)) ro t 0 N, NO) s) r) := rfl
              unfold soStep at hstep
              rw [hM] at hstep
              dsimp only at hstep
              rw [hv] at c_102
              rw [if_pos (show s_hu _ _ _ _ _ _ = NO from c_102)] at hstep
              exact g_eqw (kk_r _ _ (⟨frS_T hf hF, by rw [hstep, hA]; exact ha, by rw [hstep, hA]; exact hb, by rw [hA]; exact hk, by rw [ht2, ht]⟩)) (by simp [lsub, hcr, nI_succ, c_52, c_102]) rfl rfl
            · refine g_aload_n (q := 106) dX4_findSoonest_105 rfl rfl ?_
              refine g_iload (q := 108) dX4_findSoonest_106 rfl rfl ?_
              refine g_bipush (q := 110) dX4_findSoonest_108 cb_10 rfl ?_
              refine g_iload (q := 112) dX4_findSoonest_110 rfl rfl ?_
              refine g_imul (q := 113) dX4_findSoonest_112 rfl ?_
              refine g_iload (q := 115) dX4_findSoonest_113 rfl rfl ?_
              refine g_iadd (q := 116) dX4_findSoonest_115 rfl ?_
              refine g_callVv (q := 119) (c_X4_tell hE ) lk_RX4_34 (by decide) (by decide) rfl (by decide) rfl rfl rfl rfl rfl rfl (Nat.le_of_ble_eq_true rfl) (Nat.le_of_ble_eq_true rfl) (Nat.le_of_ble_eq_true rfl) dX4_findSoonest_116 rfl ?_
              refine g_iinc (q := 122) dX4_findSoonest_119 rfl ci_1 (by decide) rfl rfl ?_
              refine g_goto (t := 37) dX4_findSoonest_122 (by decide) ?_
              have hstep : s_so1 (fun s r M => s_hu (vSit (vw σ 7) s (nI r)) (σ (7 + 6)) ro t 0 M) N s (s_so (fun s r M => s_hu (vSit (vw σ 7) s (nI r)) (σ (7 + 6)) ro t 0 M) N ((σ 7 0).toNatClampNeg) (s_hu (vw σ 7) (σ (7 + 6)) ro t 0 N, NO) s) (r + 1) = soStep (fun s r M => s_hu (vSit (vw σ 7) s (nI r)) (σ (7 + 6)) ro t 0 M) N s r (s_so1 (fun s r M => s_hu (vSit (vw σ 7) s (nI r)) (σ (7 + 6)) ro t 0 M) N s (s_so (fun s r M => s_hu (vSit (vw σ 7) s (nI r)) (σ (7 + 6)) ro t 0 M) N ((σ 7 0).toNatClampNeg) (s_hu (vw σ 7) (σ (7 + 6)) ro t 0 N, NO) s) r) := rfl
              unfold soStep at hstep
              rw [hM] at hstep
              dsimp only at hstep
              have hg2 := by rw [hv] at c_102; exact hg.resolve_left c_102
              rw [hv] at c_102 ⊢
              rw [if_neg (show ¬ s_hu _ _ _ _ _ _ = NO from c_102)] at hstep
              exact g_eqw (kk_r _ _ (⟨frS_16 (frS_T hf hF) _, by rw [hstep, tell_1], by rw [hstep, tell_2], by rw [tell_1]; obtain ⟨k, h1, h2⟩ := hg2; exact Or.inr ⟨k, (by obtain ⟨k2, hk1, hk2⟩ := hk.resolve_left c_52; rw [hk2, nI_clamp (by omega)] at h1; omega), h2⟩, by rw [ht2, ht]⟩)) (by simp [lsub, hcr, nI_succ, c_52, c_102]) rfl rfl
          · refine g_iload (q := 57) dX4_findSoonest_55 rfl rfl ?_
            refine g_goto (t := 66) dX4_findSoonest_57 (by decide) ?_
            refine g_istore (q := 68) dX4_findSoonest_66 (by decide) rfl rfl ?_
            refine g_aload_n (q := 69) dX4_findSoonest_68 rfl rfl ?_
            refine f4_0 (q := 72) wd_234 dX4_findSoonest_69 rfl ?_
            refine g_aload_n (q := 73) dX4_findSoonest_72 rfl rfl ?_
            refine g_callVv (q := 76) (c_X1_become hE rfl rfl (by decide)) lk_RX4_25 (Nat.zero_le _) (h_lt rfl) rfl (by decide) rfl rfl rfl rfl rfl rfl (Nat.le_of_ble_eq_true rfl) (Nat.le_of_ble_eq_true rfl) (Nat.le_of_ble_eq_true rfl) dX4_findSoonest_73 rfl ?_
            refine g_aload_n (q := 77) dX4_findSoonest_76 rfl rfl ?_
            refine f4_0 (q := 80) wd_234 dX4_findSoonest_77 rfl ?_
            refine f1_11 (q := 83) rfl wd_170 dX4_findSoonest_80 rfl ?_
            refine g_iload (q := 85) dX4_findSoonest_83 rfl rfl ?_
            refine g_iload (q := 87) dX4_findSoonest_85 rfl rfl ?_
            refine g_astH (q := 88) (c := 4) rfl (by decide) (by decide) (show vp_in _ 5 by ((with_reducible refine vp_in_nI ?_ ?_); (omega); (decide))) dX4_findSoonest_87 rfl ?_
            refine g_aload_n (q := 89) dX4_findSoonest_88 rfl rfl ?_
            refine g_iload_n (q := 90) dX4_findSoonest_89 rfl rfl ?_
            refine g_iload_n (q := 91) dX4_findSoonest_90 rfl rfl ?_
            refine g_iload (q := 93) dX4_findSoonest_91 rfl rfl ?_
            refine g_callVip (q := 96) (c_X4_hoursUntil hE (wfv_sit (wfv_of w) (vp_in_nI (by omega) (by decide))) (TV_sit (TV_bec2 hf) _ (nI r)) hro hmo (by omega)) lk_RX4_75 (by decide) (by decide) rfl (by decide) rfl rfl rfl rfl rfl rfl (Nat.le_of_ble_eq_true rfl) (Nat.le_of_ble_eq_true rfl) (Nat.le_of_ble_eq_true rfl) dX4_findSoonest_93 rfl (fun v_93 σ_93 τ_93 hp_93 => ?_)
            obtain ⟨hv, hF0, ht2⟩ := hp_93
            have hF := frT_tr (frT_tr (fr_bec σr 7) (fr_upc (f := upd (bec σr 17 7 (17 + 4)) ((nI s).toNatClampNeg) (nI r)) (by decide : 17 ≤ 17 + 4 ∧ 17 + 4 < 24))) hF0
            rw [hcs] at hv
            have hM : (if (s_so1 (fun s r M => s_hu (vSit (vw σ 7) s (nI r)) (σ (7 + 6)) ro t 0 M) N s (s_so (fun s r M => s_hu (vSit (vw σ 7) s (nI r)) (σ (7 + 6)) ro t 0 M) N ((σ 7 0).toNatClampNeg) (s_hu (vw σ 7) (σ (7 + 6)) ro t 0 N, NO) s) r).1 = NO then N else ((s_so1 (fun s r M => s_hu (vSit (vw σ 7) s (nI r)) (σ (7 + 6)) ro t 0 M) N s (s_so (fun s r M => s_hu (vSit (vw σ 7) s (nI r)) (σ (7 + 6)) ro t 0 M) N ((σ 7 0).toNatClampNeg) (s_hu (vw σ 7) (σ (7 + 6)) ro t 0 N, NO) s) r).1).toNatClampNeg) = N := by rw [if_pos (by rw [← ha]; exact c_52)]
            have hA : σ_93 16 = σr 16 := hF 16 (by omega)
            have hg := s_hu_rg (vSit (vw σ 7) s (nI r)) ro t N 0 (σ (7 + 6))
            refine g_istore (q := 98) dX4_findSoonest_96 (by decide) rfl rfl ?_
            refine g_iload (q := 100) dX4_findSoonest_98 rfl rfl ?_
            refine g_ldc (q := 102) dX4_findSoonest_100 wd_596 rfl ?_
            refine g_icmp_eq (t := 119) (q := 105) dX4_findSoonest_102 (by decide) rfl (fun c_102 => ?_) (fun c_102 => ?_)
            · refine g_iinc (q := 122) dX4_findSoonest_119 rfl ci_1 (by decide) rfl rfl ?_
              refine g_goto (t := 37) dX4_findSoonest_122 (by decide) ?_
              have hstep : s_so1 (fun s r M => s_hu (vSit (vw σ 7) s (nI r)) (σ (7 + 6)) ro t 0 M) N s (s_so (fun s r M => s_hu (vSit (vw σ 7) s (nI r)) (σ (7 + 6)) ro t 0 M) N ((σ 7 0).toNatClampNeg) (s_hu (vw σ 7) (σ (7 + 6)) ro t 0 N, NO) s) (r + 1) = soStep (fun s r M => s_hu (vSit (vw σ 7) s (nI r)) (σ (7 + 6)) ro t 0 M) N s r (s_so1 (fun s r M => s_hu (vSit (vw σ 7) s (nI r)) (σ (7 + 6)) ro t 0 M) N s (s_so (fun s r M => s_hu (vSit (vw σ 7) s (nI r)) (σ (7 + 6)) ro t 0 M) N ((σ 7 0).toNatClampNeg) (s_hu (vw σ 7) (σ (7 + 6)) ro t 0 N, NO) s) r) := rfl
              unfold soStep at hstep
              rw [hM] at hstep
              dsimp only at hstep
              rw [hv] at c_102
              rw [if_pos (show s_hu _ _ _ _ _ _ = NO from c_102)] at hstep
              exact g_eqw (kk_r _ _ (⟨frS_T hf hF, by rw [hstep, hA]; exact ha, by rw [hstep, hA]; exact hb, by rw [hA]; exact hk, by rw [ht2, ht]⟩)) (by simp [lsub, hcr, nI_succ, c_52, c_102]) rfl rfl
            · refine g_aload_n (q := 106) dX4_findSoonest_105 rfl rfl ?_
              refine g_iload (q := 108) dX4_findSoonest_106 rfl rfl ?_
              refine g_bipush (q := 110) dX4_findSoonest_108 cb_10 rfl ?_
              refine g_iload (q := 112) dX4_findSoonest_110 rfl rfl ?_
              refine g_imul (q := 113) dX4_findSoonest_112 rfl ?_
              refine g_iload (q := 115) dX4_findSoonest_113 rfl rfl ?_
              refine g_iadd (q := 116) dX4_findSoonest_115 rfl ?_
              refine g_callVv (q := 119) (c_X4_tell hE ) lk_RX4_34 (by decide) (by decide) rfl (by decide) rfl rfl rfl rfl rfl rfl (Nat.le_of_ble_eq_true rfl) (Nat.le_of_ble_eq_true rfl) (Nat.le_of_ble_eq_true rfl) dX4_findSoonest_116 rfl ?_
              refine g_iinc (q := 122) dX4_findSoonest_119 rfl ci_1 (by decide) rfl rfl ?_
              refine g_goto (t := 37) dX4_findSoonest_122 (by decide) ?_
              have hstep : s_so1 (fun s r M => s_hu (vSit (vw σ 7) s (nI r)) (σ (7 + 6)) ro t 0 M) N s (s_so (fun s r M => s_hu (vSit (vw σ 7) s (nI r)) (σ (7 + 6)) ro t 0 M) N ((σ 7 0).toNatClampNeg) (s_hu (vw σ 7) (σ (7 + 6)) ro t 0 N, NO) s) (r + 1) = soStep (fun s r M => s_hu (vSit (vw σ 7) s (nI r)) (σ (7 + 6)) ro t 0 M) N s r (s_so1 (fun s r M => s_hu (vSit (vw σ 7) s (nI r)) (σ (7 + 6)) ro t 0 M) N s (s_so (fun s r M => s_hu (vSit (vw σ 7) s (nI r)) (σ (7 + 6)) ro t 0 M) N ((σ 7 0).toNatClampNeg) (s_hu (vw σ 7) (σ (7 + 6)) ro t 0 N, NO) s) r) := rfl
              unfold soStep at hstep
              rw [hM] at hstep
              dsimp only at hstep
              have hg2 := by rw [hv] at c_102; exact hg.resolve_left c_102
              rw [hv] at c_102 ⊢
              rw [if_neg (show ¬ s_hu _ _ _ _ _ _ = NO from c_102)] at hstep
              exact g_eqw (kk_r _ _ (⟨frS_16 (frS_T hf hF) _, by rw [hstep, tell_1], by rw [hstep, tell_2], by rw [tell_1]; obtain ⟨k, h1, h2⟩ := hg2; exact Or.inr ⟨k, (by omega), h2⟩, by rw [ht2, ht]⟩)) (by simp [lsub, hcr, nI_succ, c_52, c_102]) rfl rfl
      · obtain ⟨hf, ha, hb, hk, ht⟩ := hJ_r
        refine g_iload (q := 39) dX4_findSoonest_37 rfl rfl ?_
        refine g_aload_n (q := 40) dX4_findSoonest_39 rfl rfl ?_
        refine f1_0 (q := 43) rfl wd_139 dX4_findSoonest_40 rfl ?_
        refine g_icmp_ge (t := 125) (q := 46) dX4_findSoonest_43 (by decide) rfl (fun c_43 => ?_) (fun c_43 => ?_)
        · refine g_iinc (q := 128) dX4_findSoonest_125 rfl ci_1 (by decide) rfl rfl ?_
          refine g_goto (t := 25) dX4_findSoonest_128 (by decide) ?_
          exact g_eqw (kk_s _ _ ⟨hf, ha, hb, hk, ht⟩) (by simp [lsub, nI_succ]) rfl rfl
        · exact absurd (lp_out (by rw [hf 7 (by omega)]; exact e0)) c_43
  · obtain ⟨hf, ha, hb, hk, ht⟩ := hJ_s
    refine g_iload (q := 27) dX4_findSoonest_25 rfl rfl ?_
    refine g_aload_n (q := 28) dX4_findSoonest_27 rfl rfl ?_
    refine f1_7 (q := 31) rfl wd_159 dX4_findSoonest_28 rfl ?_
    refine g_icmp_ge (t := 131) (q := 34) dX4_findSoonest_31 (by decide) rfl (fun c_31 => ?_) (fun c_31 => ?_)
    · refine g_vret dX4_findSoonest_131 ⟨rfl, ?_⟩
      exact ⟨hf, ha, hb, ht⟩
    · exact absurd (lp_out (by rw [hf 7 (by omega)]; exact e7)) c_31
