/-- the model's house: an array of 52 -/
def WFM (m : Nat → Int32) : Prop := (vp_in (m 0) 7 ∧ vp_in (m 1) 6 ∧ vp_in (m 4) 9 ∧ vp_in (m 5) 6) ∧ (∀ d, d < 8 → vp_in (m (13 + d)) 6 ∧ vp_in (m (21 + d)) 6) ∧ (∀ s, s < 5 → vp_in (m (42 + s)) 6)
theorem wfm_n {m : Nat → Int32} (w : WFM m) : (m 0 = nI ((m 0).toNatClampNeg) ∧ (m 0).toNatClampNeg ≤ 6) ∧ (m 1 = nI ((m 1).toNatClampNeg) ∧ (m 1).toNatClampNeg ≤ 5) ∧ (m 4 = nI ((m 4).toNatClampNeg) ∧ (m 4).toNatClampNeg ≤ 8) ∧ (m 5 = nI ((m 5).toNatClampNeg) ∧ (m 5).toNatClampNeg ≤ 5) := by
  obtain ⟨a1, b1⟩ := vp_to w.1.1 (by decide)
  obtain ⟨a2, b2⟩ := vp_to w.1.2.1 (by decide)
  obtain ⟨a3, b3⟩ := vp_to w.1.2.2.1 (by decide)
  obtain ⟨a4, b4⟩ := vp_to w.1.2.2.2 (by decide)
  exact ⟨⟨a1, by omega⟩, ⟨a2, by omega⟩, ⟨a3, by omega⟩, ⟨a4, by omega⟩⟩
def agF (m m' : Nat → Int32) : Prop := ∀ j, ¬ (7 ≤ j ∧ j < 13) → m' j = m j
theorem agF_rf (m : Nat → Int32) : agF m m := fun _ _ => rfl
theorem agF_tr {a b c : Nat → Int32} (h1 : agF a b) (h2 : agF b c) : agF a c := fun j hj => (h2 j hj).trans (h1 j hj)
theorem agF_upd (m : Nat → Int32) {k : Nat} (hk : 7 ≤ k ∧ k < 13) (x : Int32) : agF m (upd m k x) := fun j hj => upd_ne (fun e => hj (e ▸ hk))
theorem wfm_ag {m m' : Nat → Int32} (h : agF m m') (w : WFM m) : WFM m' := by
  unfold WFM
  rw [h 0 (by omega), h 1 (by omega), h 4 (by omega), h 5 (by omega)]
  refine ⟨w.1, fun d hd => ?_, fun s hs => ?_⟩
  · rw [h (13 + d) (by omega), h (21 + d) (by omega)]; exact w.2.1 d hd
  · rw [h (42 + s) (by omega)]; exact w.2.2 s hs
def s_kept (m : Nat → Int32) (r kp : Int32) : Nat → Bool
  | 0 => false
  | p + 1 => s_kept m r kp p || (m (42 + p) == r && (m (37 + p) == 2 || (kp == 0 && decide (m (37 + p) < 4))))
def flV (m : Nat → Int32) (a b : Int32) : Int32 := if s_kept m a 1 ((m 5).toNatClampNeg) = true then 0 else if s_kept m a 0 ((m 5).toNatClampNeg) = true then (m (7 + a.toNatClampNeg) - m (7 + b.toNatClampNeg)) / 4 / 2 else (m (7 + a.toNatClampNeg) - m (7 + b.toNatClampNeg)) / 4
def flM (m : Nat → Int32) (a b : Nat) (v : Int32) : Nat → Int32 := upd (upd m (7 + a) (m (7 + a) - v)) (7 + b) (upd m (7 + a) (m (7 + a) - v) (7 + b) + v)
def q_fl (m : Nat → Int32) (a b : Int32) : Nat → Int32 := flM m (a.toNatClampNeg) (b.toNatClampNeg) (flV m a b)
theorem ag_flM (m : Nat → Int32) {a b : Nat} (ha : a < 6) (hb : b < 6) (v : Int32) : agF m (flM m a b v) := agF_tr (agF_upd m (k := 7 + a) (by omega) (m (7 + a) - v)) (agF_upd (upd m (7 + a) (m (7 + a) - v)) (k := 7 + b) (by omega) (upd m (7 + a) (m (7 + a) - v) (7 + b) + v))
theorem ag_fl (m : Nat → Int32) {a b : Int32} (ha : vp_in a 6) (hb : vp_in b 6) : agF m (q_fl m a b) := ag_flM m (vp_to ha (by decide)).2 (vp_to hb (by decide)).2 _
def bnd (v : Int32) : Int32 := if 0 ≤ v then (if v ≤ 999 then v else 999) else 0
def chM (k f : Int32) : Int32 := if k = 5 then f else if k = 4 then -2 * f else if k = 3 then -f else 0
def q_h1 (m : Nat → Int32) : Nat → Int32 := upd m (7 + (m 1).toNatClampNeg) (bnd (m (7 + (m 1).toNatClampNeg) + m 2))
def q_hd (m : Nat → Int32) : Nat → (Nat → Int32)
  | 0 => m
  | d + 1 => if q_hd m d (29 + d) = 1 then (if q_hd m d (7 + (q_hd m d (13 + d)).toNatClampNeg) ≤ q_hd m d (7 + (q_hd m d (21 + d)).toNatClampNeg) then q_fl (q_hd m d) (q_hd m d (21 + d)) (q_hd m d (13 + d)) else q_fl (q_hd m d) (q_hd m d (13 + d)) (q_hd m d (21 + d))) else q_hd m d
theorem q_hd_s (m : Nat → Int32) (d : Nat) : q_hd m (d + 1) = if q_hd m d (29 + d) = 1 then (if q_hd m d (7 + (q_hd m d (13 + d)).toNatClampNeg) ≤ q_hd m d (7 + (q_hd m d (21 + d)).toNatClampNeg) then q_fl (q_hd m d) (q_hd m d (21 + d)) (q_hd m d (13 + d)) else q_fl (q_hd m d) (q_hd m d (13 + d)) (q_hd m d (21 + d))) else q_hd m d := rfl
def q_hs (m : Nat → Int32) : Nat → (Nat → Int32)
  | 0 => m
  | p + 1 => upd (q_hs m p) (7 + (q_hs m p (42 + p)).toNatClampNeg) (bnd (q_hs m p (7 + (q_hs m p (42 + p)).toNatClampNeg) + chM (q_hs m p (37 + p)) (q_hs m p (47 + p))))
def q_hour (m : Nat → Int32) : Nat → Int32 := upd (q_hs (q_hd (q_h1 m) ((m 4).toNatClampNeg)) ((m 5).toNatClampNeg)) 6 (q_hs (q_hd (q_h1 m) ((m 4).toNatClampNeg)) ((m 5).toNatClampNeg) 6 + 1)
theorem ag_h1 {m : Nat → Int32} (w : WFM m) : agF m (q_h1 m) := agF_upd m (k := 7 + (m 1).toNatClampNeg) (by have := (wfm_n w).2.1.2; omega) (bnd (m (7 + (m 1).toNatClampNeg) + m 2))
theorem ag_hd {m : Nat → Int32} (w : WFM m) : ∀ d, d ≤ 8 → agF m (q_hd m d) := by
  intro d
  induction d with
  | zero => intro _; exact agF_rf m
  | succ d ih =>
    intro hd
    have h1 := ih (by omega)
    have w1 := wfm_ag h1 w
    rw [q_hd_s]
    by_cases c1 : q_hd m d (29 + d) = 1
    · rw [if_pos c1]
      by_cases c2 : q_hd m d (7 + (q_hd m d (13 + d)).toNatClampNeg) ≤ q_hd m d (7 + (q_hd m d (21 + d)).toNatClampNeg)
      · rw [if_pos c2]; exact agF_tr h1 (ag_fl _ (w1.2.1 d (by omega)).2 (w1.2.1 d (by omega)).1)
      · rw [if_neg c2]; exact agF_tr h1 (ag_fl _ (w1.2.1 d (by omega)).1 (w1.2.1 d (by omega)).2)
    · rw [if_neg c1]; exact h1
theorem ag_hs {m : Nat → Int32} (w : WFM m) : ∀ d, d ≤ 5 → agF m (q_hs m d) := by
  intro d
  induction d with
  | zero => intro _; exact agF_rf m
  | succ d ih =>
    intro hd
    have h1 := ih (by omega)
    have w1 := wfm_ag h1 w
    have h2 := (vp_to (w1.2.2 d (by omega)) (by decide)).2
    exact agF_tr h1 (agF_upd (q_hs m d) (k := 7 + (q_hs m d (42 + d)).toNatClampNeg) (by omega) _)
theorem wfm_hour {m : Nat → Int32} (w : WFM m) : WFM (q_hour m) := by
  obtain ⟨⟨e0, b0⟩, ⟨e1, b1⟩, ⟨e4, b4⟩, ⟨e5, b5⟩⟩ := wfm_n w
  have w1 := wfm_ag (ag_h1 w) w
  have w2 := wfm_ag (ag_hd w1 _ b4) w1
  have w3 := wfm_ag (ag_hs w2 _ b5) w2
  unfold WFM q_hour
  rw [upd_ne (show (0 : Nat) ≠ 6 by decide), upd_ne (show (1 : Nat) ≠ 6 by decide), upd_ne (show (4 : Nat) ≠ 6 by decide), upd_ne (show (5 : Nat) ≠ 6 by decide)]
  refine ⟨w3.1, fun d hd => ?_, fun s hs => ?_⟩
  · rw [upd_ne (show 13 + d ≠ 6 by omega), upd_ne (show 21 + d ≠ 6 by omega)]; exact w3.2.1 d hd
  · rw [upd_ne (show 42 + s ≠ 6 by omega)]; exact w3.2.2 s hs
set_option maxRecDepth 20000 in
set_option maxHeartbeats 4000000 in
theorem c_X7_isKept {E : EE} (hE : inj E 40 13) {σ : Sto} {τ : Stl} {r kp : Int32} (w : WFM (σ 44)) : Ct E 40 13 yX7_isKept cX7_isKept 6 (some FieldType.boolean) { frames := 0, cells := 0, slots := 0, locals := 0 } [.ref (E.2.1 40), .int r, .int kp] σ τ (Pi (bI (s_kept (σ 44) r kp ((σ 44 5).toNatClampNeg))) (σ) (τ)) := by
  refine ct_of hE RX7 [some (.ref (E.2.1 40)), some (.int r), some (.int kp), none, none, none] (by decide) rfl (Nat.le_of_ble_eq_true rfl) rfl (fun X => ?_)
  obtain ⟨⟨e0, b0⟩, ⟨e1, b1⟩, ⟨e4, b4⟩, ⟨e5, b5⟩⟩ := wfm_n w
  refine g_iconst (q := 1) dX7_isKept_0 ci_0 rfl ?_
  refine g_istore_n (j := 3) (q := 2) dX7_isKept_1 rfl (by decide) rfl rfl ?_
  refine g_iconst (q := 3) dX7_isKept_2 ci_0 rfl ?_
  refine g_istore (q := 5) dX7_isKept_3 (by decide) rfl rfl ?_
  refine g_for (I := fun i => [some (.ref (E.2.1 40)), some (.int r), some (.int kp), some (.int (bI (s_kept (σ 44) r kp i))), some (.int (nI i)), none]) (S := fun i => σ) (T := fun i => τ) 0 ((σ 44 5).toNatClampNeg) (Nat.zero_le _) (by rfl) (by rfl) (by rfl) (fun i i0 i1 kk_i => ?_) ?_
  · refine g_iload (q := 7) dX7_isKept_5 rfl rfl ?_
    refine g_aload_n (q := 8) dX7_isKept_7 rfl rfl ?_
    refine f7_5 (q := 11) wd_853 dX7_isKept_8 rfl ?_
    refine g_iconst (q := 12) dX7_isKept_11 ci_5 rfl ?_
    refine g_ialdJ (q := 13) (k := 44) (j := 5) (N := 52) (by decide) (by decide) rfl rfl (by decide) (show (5 : Int32) = nI 5 from rfl) (by omega) dX7_isKept_12 rfl ?_
    refine g_icmp_ge (t := 74) (q := 16) dX7_isKept_13 (by decide) rfl (fun c_13 => ?_) (fun c_13 => ?_)
    · exact absurd c_13 (lp_in (by exact e5) (by omega) i1)
    · refine g_aload_n (q := 17) dX7_isKept_16 rfl rfl ?_
      refine f7_5 (q := 20) wd_853 dX7_isKept_17 rfl ?_
      refine g_bipush (q := 22) dX7_isKept_20 cb_37 rfl ?_
      refine g_iload (q := 24) dX7_isKept_22 rfl rfl ?_
      refine g_iadd (q := 25) dX7_isKept_24 rfl ?_
      refine g_ialdJ (q := 26) (k := 44) (j := (37 + i)) (N := 52) (by decide) (by decide) rfl rfl (by decide) (ad2 (show (37 : Int32) = nI 37 from rfl) rfl) (by omega) dX7_isKept_25 rfl ?_
      refine g_istore (q := 28) dX7_isKept_26 (by decide) rfl rfl ?_
      refine g_iload_n (q := 29) dX7_isKept_28 rfl rfl ?_
      refine g_if_ne (t := 62) (q := 32) dX7_isKept_29 (by decide) rfl (fun c_29 => ?_) (fun c_29 => ?_)
      · rw [bI_n0] at c_29
        refine g_iconst (q := 63) dX7_isKept_62 ci_1 rfl ?_
        refine g_goto (t := 67) dX7_isKept_63 (by decide) ?_
        refine g_istore_n (j := 3) (q := 68) dX7_isKept_67 rfl (by decide) rfl rfl ?_
        refine g_iinc (q := 71) dX7_isKept_68 rfl ci_1 (by decide) rfl rfl ?_
        refine g_goto (t := 5) dX7_isKept_71 (by decide) ?_
        have hs : s_kept (σ 44) r kp (i + 1) = true := by simp only [s_kept, c_29, Bool.true_or]
        exact g_eqw kk_i (by simp [lsub, hs, nI_succ, bI]) rfl rfl
      · rw [bI_0] at c_29
        refine g_aload_n (q := 33) dX7_isKept_32 rfl rfl ?_
        refine f7_5 (q := 36) wd_853 dX7_isKept_33 rfl ?_
        refine g_bipush (q := 38) dX7_isKept_36 cb_42 rfl ?_
        refine g_iload (q := 40) dX7_isKept_38 rfl rfl ?_
        refine g_iadd (q := 41) dX7_isKept_40 rfl ?_
        refine g_ialdJ (q := 42) (k := 44) (j := (42 + i)) (N := 52) (by decide) (by decide) rfl rfl (by decide) (ad2 (show (42 : Int32) = nI 42 from rfl) rfl) (by omega) dX7_isKept_41 rfl ?_
        refine g_iload_n (q := 43) dX7_isKept_42 rfl rfl ?_
        refine g_icmp_ne (t := 66) (q := 46) dX7_isKept_43 (by decide) rfl (fun c_43 => ?_) (fun c_43 => ?_)
        · refine g_iconst (q := 67) dX7_isKept_66 ci_0 rfl ?_
          refine g_istore_n (j := 3) (q := 68) dX7_isKept_67 rfl (by decide) rfl rfl ?_
          refine g_iinc (q := 71) dX7_isKept_68 rfl ci_1 (by decide) rfl rfl ?_
          refine g_goto (t := 5) dX7_isKept_71 (by decide) ?_
          have hs : s_kept (σ 44) r kp (i + 1) = false := by simp [s_kept, c_29, c_43]
          exact g_eqw kk_i (by simp [lsub, hs, nI_succ, bI]) rfl rfl
        · refine g_iload (q := 48) dX7_isKept_46 rfl rfl ?_
          refine g_iconst (q := 49) dX7_isKept_48 ci_2 rfl ?_
          refine g_icmp_eq (t := 62) (q := 52) dX7_isKept_49 (by decide) rfl (fun c_49 => ?_) (fun c_49 => ?_)
          · refine g_iconst (q := 63) dX7_isKept_62 ci_1 rfl ?_
            refine g_goto (t := 67) dX7_isKept_63 (by decide) ?_
            refine g_istore_n (j := 3) (q := 68) dX7_isKept_67 rfl (by decide) rfl rfl ?_
            refine g_iinc (q := 71) dX7_isKept_68 rfl ci_1 (by decide) rfl rfl ?_
            refine g_goto (t := 5) dX7_isKept_71 (by decide) ?_
            have hs : s_kept (σ 44) r kp (i + 1) = true := by simp [s_kept, c_43, c_49]
            exact g_eqw kk_i (by simp [lsub, hs, nI_succ, bI]) rfl rfl
          · refine g_iload_n (q := 53) dX7_isKept_52 rfl rfl ?_
            refine g_if_ne (t := 66) (q := 56) dX7_isKept_53 (by decide) rfl (fun c_53 => ?_) (fun c_53 => ?_)
            · refine g_iconst (q := 67) dX7_isKept_66 ci_0 rfl ?_
              refine g_istore_n (j := 3) (q := 68) dX7_isKept_67 rfl (by decide) rfl rfl ?_
              refine g_iinc (q := 71) dX7_isKept_68 rfl ci_1 (by decide) rfl rfl ?_
              refine g_goto (t := 5) dX7_isKept_71 (by decide) ?_
              have hs : s_kept (σ 44) r kp (i + 1) = false := by simp [s_kept, c_29, c_49, c_53]
              exact g_eqw kk_i (by simp [lsub, hs, nI_succ, bI]) rfl rfl
            · refine g_iload (q := 58) dX7_isKept_56 rfl rfl ?_
              refine g_iconst (q := 59) dX7_isKept_58 ci_4 rfl ?_
              refine g_icmp_ge (t := 66) (q := 62) dX7_isKept_59 (by decide) rfl (fun c_59 => ?_) (fun c_59 => ?_)
              · refine g_iconst (q := 67) dX7_isKept_66 ci_0 rfl ?_
                refine g_istore_n (j := 3) (q := 68) dX7_isKept_67 rfl (by decide) rfl rfl ?_
                refine g_iinc (q := 71) dX7_isKept_68 rfl ci_1 (by decide) rfl rfl ?_
                refine g_goto (t := 5) dX7_isKept_71 (by decide) ?_
                have hs : s_kept (σ 44) r kp (i + 1) = false := by simp [s_kept, c_29, c_49, Int32.not_lt.mpr c_59, c_59]
                exact g_eqw kk_i (by simp [lsub, hs, nI_succ, bI]) rfl rfl
              · refine g_iconst (q := 63) dX7_isKept_62 ci_1 rfl ?_
                refine g_goto (t := 67) dX7_isKept_63 (by decide) ?_
                refine g_istore_n (j := 3) (q := 68) dX7_isKept_67 rfl (by decide) rfl rfl ?_
                refine g_iinc (q := 71) dX7_isKept_68 rfl ci_1 (by decide) rfl rfl ?_
                refine g_goto (t := 5) dX7_isKept_71 (by decide) ?_
                have hs : s_kept (σ 44) r kp (i + 1) = true := by simp [s_kept, c_43, c_53, Int32.not_le.mp c_59]
                exact g_eqw kk_i (by simp [lsub, hs, nI_succ, bI]) rfl rfl
  · refine g_iload (q := 7) dX7_isKept_5 rfl rfl ?_
    refine g_aload_n (q := 8) dX7_isKept_7 rfl rfl ?_
    refine f7_5 (q := 11) wd_853 dX7_isKept_8 rfl ?_
    refine g_iconst (q := 12) dX7_isKept_11 ci_5 rfl ?_
    refine g_ialdJ (q := 13) (k := 44) (j := 5) (N := 52) (by decide) (by decide) rfl rfl (by decide) (show (5 : Int32) = nI 5 from rfl) (by omega) dX7_isKept_12 rfl ?_
    refine g_icmp_ge (t := 74) (q := 16) dX7_isKept_13 (by decide) rfl (fun c_13 => ?_) (fun c_13 => ?_)
    · refine g_iload_n (q := 75) dX7_isKept_74 rfl rfl ?_
      exact g_zret dX7_isKept_75 (by first | decide | exact bI_nar _) (pi_i (by rfl) (by rfl) rfl)
    · exact absurd (lp_out (by exact e5)) c_13
set_option maxRecDepth 20000 in
set_option maxHeartbeats 4000000 in
theorem c_X7_flow {E : EE} (hE : inj E 40 13) {σ : Sto} {τ : Stl} {a b : Int32} (w : WFM (σ 44)) (ha : vp_in a 6) (hb : vp_in b 6) : Ct E 40 13 yX7_flow cX7_flow 4 none { frames := 1, cells := 0, slots := 0, locals := 25 } [.ref (E.2.1 40), .int a, .int b] σ τ (Pv (upc σ 44 (q_fl (σ 44) a b)) (τ)) := by
  refine ct_of hE RX7 [some (.ref (E.2.1 40)), some (.int a), some (.int b), none] (by decide) rfl (Nat.le_of_ble_eq_true rfl) rfl (fun X => ?_)
  have ea := vp_to ha (by decide)
  have eb := vp_to hb (by decide)
  refine g_aload_n (q := 1) dX7_flow_0 rfl rfl ?_
  refine f7_5 (q := 4) wd_853 dX7_flow_1 rfl ?_
  refine g_bipush (q := 6) dX7_flow_4 cb_7 rfl ?_
  refine g_iload_n (q := 7) dX7_flow_6 rfl rfl ?_
  refine g_iadd (q := 8) dX7_flow_7 rfl ?_
  refine g_ialdJ (q := 9) (k := 44) (j := (7 + a.toNatClampNeg)) (N := 52) (by decide) (by decide) rfl rfl (by decide) (ad2 (show (7 : Int32) = nI 7 from rfl) ea.1) (by omega) dX7_flow_8 rfl ?_
  refine g_aload_n (q := 10) dX7_flow_9 rfl rfl ?_
  refine f7_5 (q := 13) wd_853 dX7_flow_10 rfl ?_
  refine g_bipush (q := 15) dX7_flow_13 cb_7 rfl ?_
  refine g_iload_n (q := 16) dX7_flow_15 rfl rfl ?_
  refine g_iadd (q := 17) dX7_flow_16 rfl ?_
  refine g_ialdJ (q := 18) (k := 44) (j := (7 + b.toNatClampNeg)) (N := 52) (by decide) (by decide) rfl rfl (by decide) (ad2 (show (7 : Int32) = nI 7 from rfl) eb.1) (by omega) dX7_flow_17 rfl ?_
  refine g_isub (q := 19) dX7_flow_18 rfl ?_
  refine g_iconst (q := 20) dX7_flow_19 ci_4 rfl ?_
  refine g_idiv (q := 21) dX7_flow_20 (by decide) rfl ?_
  refine g_istore_n (j := 3) (q := 22) dX7_flow_21 rfl (by decide) rfl rfl ?_
  refine g_aload_n (q := 23) dX7_flow_22 rfl rfl ?_
  refine g_iload_n (q := 24) dX7_flow_23 rfl rfl ?_
  refine g_iconst (q := 25) dX7_flow_24 ci_1 rfl ?_
  refine g_callVi (q := 28) (c_X7_isKept hE (by exact w)) lk_RX7_143 (by decide) (by decide) rfl (by decide) rfl rfl rfl rfl rfl rfl (Nat.le_of_ble_eq_true rfl) (Nat.le_of_ble_eq_true rfl) (Nat.le_of_ble_eq_true rfl) dX7_flow_25 rfl ?_
  refine g_if_eq (t := 35) (q := 31) dX7_flow_28 (by decide) rfl (fun c_28 => ?_) (fun c_28 => ?_)
  · rw [bI_0] at c_28
    refine g_aload_n (q := 36) dX7_flow_35 rfl rfl ?_
    refine g_iload_n (q := 37) dX7_flow_36 rfl rfl ?_
    refine g_iconst (q := 38) dX7_flow_37 ci_0 rfl ?_
    refine g_callVi (q := 41) (c_X7_isKept hE (by exact w)) lk_RX7_143 (by decide) (by decide) rfl (by decide) rfl rfl rfl rfl rfl rfl (Nat.le_of_ble_eq_true rfl) (Nat.le_of_ble_eq_true rfl) (Nat.le_of_ble_eq_true rfl) dX7_flow_38 rfl ?_
    refine g_if_eq (t := 50) (q := 44) dX7_flow_41 (by decide) rfl (fun c_41 => ?_) (fun c_41 => ?_)
    · rw [bI_0] at c_41
      refine g_iload_n (q := 51) dX7_flow_50 rfl rfl ?_
      refine g_istore_n (j := 3) (q := 52) dX7_flow_51 rfl (by decide) rfl rfl ?_
      refine g_aload_n (q := 53) dX7_flow_52 rfl rfl ?_
      refine f7_5 (q := 56) wd_853 dX7_flow_53 rfl ?_
      refine g_bipush (q := 58) dX7_flow_56 cb_7 rfl ?_
      refine g_iload_n (q := 59) dX7_flow_58 rfl rfl ?_
      refine g_iadd (q := 60) dX7_flow_59 rfl ?_
      refine g_dup2 (q := 61) dX7_flow_60 rfl rfl rfl ?_
      refine g_ialdJ (q := 62) (k := 44) (j := (7 + a.toNatClampNeg)) (N := 52) (by decide) (by decide) rfl rfl (by decide) (ad2 (show (7 : Int32) = nI 7 from rfl) ea.1) (by omega) dX7_flow_61 rfl ?_
      refine g_iload_n (q := 63) dX7_flow_62 rfl rfl ?_
      refine g_isub (q := 64) dX7_flow_63 rfl ?_
      refine g_iastJ (q := 65) (k := 44) (j := (7 + a.toNatClampNeg)) (N := 52) (by decide) (by decide) rfl rfl (by decide) (ad2 (show (7 : Int32) = nI 7 from rfl) ea.1) (by omega) dX7_flow_64 rfl ?_
      refine g_aload_n (q := 66) dX7_flow_65 rfl rfl ?_
      refine f7_5 (q := 69) wd_853 dX7_flow_66 rfl ?_
      refine g_bipush (q := 71) dX7_flow_69 cb_7 rfl ?_
      refine g_iload_n (q := 72) dX7_flow_71 rfl rfl ?_
      refine g_iadd (q := 73) dX7_flow_72 rfl ?_
      refine g_dup2 (q := 74) dX7_flow_73 rfl rfl rfl ?_
      refine g_ialdJ (q := 75) (k := 44) (j := (7 + b.toNatClampNeg)) (N := 52) (by decide) (by decide) rfl rfl (by decide) (ad2 (show (7 : Int32) = nI 7 from rfl) eb.1) (by omega) dX7_flow_74 rfl ?_
      refine g_iload_n (q := 76) dX7_flow_75 rfl rfl ?_
      refine g_iadd (q := 77) dX7_flow_76 rfl ?_
      refine g_iastJ (q := 78) (k := 44) (j := (7 + b.toNatClampNeg)) (N := 52) (by decide) (by decide) rfl rfl (by decide) (ad2 (show (7 : Int32) = nI 7 from rfl) eb.1) (by omega) dX7_flow_77 rfl ?_
      exact g_vret dX7_flow_78 (pv_i (by simp only [upc_upc, upc_same]; congr 1; simp only [q_fl, flM, flV, c_28, c_41, not_true_eq_false, not_false_eq_true, if_true, if_false, Bool.true_eq_false, Bool.false_eq_true, reduceIte, reduceCtorEq]) rfl)
    · rw [bI_n0] at c_41
      refine g_iload_n (q := 45) dX7_flow_44 rfl rfl ?_
      refine g_iconst (q := 46) dX7_flow_45 ci_2 rfl ?_
      refine g_idiv (q := 47) dX7_flow_46 (by decide) rfl ?_
      refine g_goto (t := 51) dX7_flow_47 (by decide) ?_
      refine g_istore_n (j := 3) (q := 52) dX7_flow_51 rfl (by decide) rfl rfl ?_
      refine g_aload_n (q := 53) dX7_flow_52 rfl rfl ?_
      refine f7_5 (q := 56) wd_853 dX7_flow_53 rfl ?_
      refine g_bipush (q := 58) dX7_flow_56 cb_7 rfl ?_
      refine g_iload_n (q := 59) dX7_flow_58 rfl rfl ?_
      refine g_iadd (q := 60) dX7_flow_59 rfl ?_
      refine g_dup2 (q := 61) dX7_flow_60 rfl rfl rfl ?_
      refine g_ialdJ (q := 62) (k := 44) (j := (7 + a.toNatClampNeg)) (N := 52) (by decide) (by decide) rfl rfl (by decide) (ad2 (show (7 : Int32) = nI 7 from rfl) ea.1) (by omega) dX7_flow_61 rfl ?_
      refine g_iload_n (q := 63) dX7_flow_62 rfl rfl ?_
      refine g_isub (q := 64) dX7_flow_63 rfl ?_
      refine g_iastJ (q := 65) (k := 44) (j := (7 + a.toNatClampNeg)) (N := 52) (by decide) (by decide) rfl rfl (by decide) (ad2 (show (7 : Int32) = nI 7 from rfl) ea.1) (by omega) dX7_flow_64 rfl ?_
      refine g_aload_n (q := 66) dX7_flow_65 rfl rfl ?_
      refine f7_5 (q := 69) wd_853 dX7_flow_66 rfl ?_
      refine g_bipush (q := 71) dX7_flow_69 cb_7 rfl ?_
      refine g_iload_n (q := 72) dX7_flow_71 rfl rfl ?_
      refine g_iadd (q := 73) dX7_flow_72 rfl ?_
      refine g_dup2 (q := 74) dX7_flow_73 rfl rfl rfl ?_
      refine g_ialdJ (q := 75) (k := 44) (j := (7 + b.toNatClampNeg)) (N := 52) (by decide) (by decide) rfl rfl (by decide) (ad2 (show (7 : Int32) = nI 7 from rfl) eb.1) (by omega) dX7_flow_74 rfl ?_
      refine g_iload_n (q := 76) dX7_flow_75 rfl rfl ?_
      refine g_iadd (q := 77) dX7_flow_76 rfl ?_
      refine g_iastJ (q := 78) (k := 44) (j := (7 + b.toNatClampNeg)) (N := 52) (by decide) (by decide) rfl rfl (by decide) (ad2 (show (7 : Int32) = nI 7 from rfl) eb.1) (by omega) dX7_flow_77 rfl ?_
      exact g_vret dX7_flow_78 (pv_i (by simp only [upc_upc, upc_same]; congr 1; simp only [q_fl, flM, flV, c_28, c_41, not_true_eq_false, not_false_eq_true, if_true, if_false, Bool.true_eq_false, Bool.false_eq_true, reduceIte, reduceCtorEq]) rfl)
  · rw [bI_n0] at c_28
    refine g_iconst (q := 32) dX7_flow_31 ci_0 rfl ?_
    refine g_goto (t := 51) dX7_flow_32 (by decide) ?_
    refine g_istore_n (j := 3) (q := 52) dX7_flow_51 rfl (by decide) rfl rfl ?_
    refine g_aload_n (q := 53) dX7_flow_52 rfl rfl ?_
    refine f7_5 (q := 56) wd_853 dX7_flow_53 rfl ?_
    refine g_bipush (q := 58) dX7_flow_56 cb_7 rfl ?_
    refine g_iload_n (q := 59) dX7_flow_58 rfl rfl ?_
    refine g_iadd (q := 60) dX7_flow_59 rfl ?_
    refine g_dup2 (q := 61) dX7_flow_60 rfl rfl rfl ?_
    refine g_ialdJ (q := 62) (k := 44) (j := (7 + a.toNatClampNeg)) (N := 52) (by decide) (by decide) rfl rfl (by decide) (ad2 (show (7 : Int32) = nI 7 from rfl) ea.1) (by omega) dX7_flow_61 rfl ?_
    refine g_iload_n (q := 63) dX7_flow_62 rfl rfl ?_
    refine g_isub (q := 64) dX7_flow_63 rfl ?_
    refine g_iastJ (q := 65) (k := 44) (j := (7 + a.toNatClampNeg)) (N := 52) (by decide) (by decide) rfl rfl (by decide) (ad2 (show (7 : Int32) = nI 7 from rfl) ea.1) (by omega) dX7_flow_64 rfl ?_
    refine g_aload_n (q := 66) dX7_flow_65 rfl rfl ?_
    refine f7_5 (q := 69) wd_853 dX7_flow_66 rfl ?_
    refine g_bipush (q := 71) dX7_flow_69 cb_7 rfl ?_
    refine g_iload_n (q := 72) dX7_flow_71 rfl rfl ?_
    refine g_iadd (q := 73) dX7_flow_72 rfl ?_
    refine g_dup2 (q := 74) dX7_flow_73 rfl rfl rfl ?_
    refine g_ialdJ (q := 75) (k := 44) (j := (7 + b.toNatClampNeg)) (N := 52) (by decide) (by decide) rfl rfl (by decide) (ad2 (show (7 : Int32) = nI 7 from rfl) eb.1) (by omega) dX7_flow_74 rfl ?_
    refine g_iload_n (q := 76) dX7_flow_75 rfl rfl ?_
    refine g_iadd (q := 77) dX7_flow_76 rfl ?_
    refine g_iastJ (q := 78) (k := 44) (j := (7 + b.toNatClampNeg)) (N := 52) (by decide) (by decide) rfl rfl (by decide) (ad2 (show (7 : Int32) = nI 7 from rfl) eb.1) (by omega) dX7_flow_77 rfl ?_
    exact g_vret dX7_flow_78 (pv_i (by simp only [upc_upc, upc_same]; congr 1; simp only [q_fl, flM, flV, c_28, not_true_eq_false, not_false_eq_true, if_true, if_false, Bool.true_eq_false, Bool.false_eq_true, reduceIte, reduceCtorEq]) rfl)
set_option maxRecDepth 20000 in
set_option maxHeartbeats 4000000 in
theorem c_X7_oneHour {E : EE} (hE : inj E 40 13) {σ : Sto} {τ : Stl}  (w : WFM (σ 44)) : Ct E 40 13 yX7_oneHour cX7_oneHour 5 none { frames := 2, cells := 0, slots := 0, locals := 48 } [.ref (E.2.1 40)] σ τ (Pv (upc σ 44 (q_hour (σ 44))) (τ)) := by
  refine ct_of hE RX7 [some (.ref (E.2.1 40)), none, none, none, none] (by decide) rfl (Nat.le_of_ble_eq_true rfl) rfl (fun X => ?_)
  obtain ⟨⟨e0, b0⟩, ⟨e1, b1⟩, ⟨e4, b4⟩, ⟨e5, b5⟩⟩ := wfm_n w
  have w1 := wfm_ag (ag_h1 w) w
  have w2 := wfm_ag (ag_hd w1 _ b4) w1
  refine g_aload_n (q := 1) dX7_oneHour_0 rfl rfl ?_
  refine f7_5 (q := 4) wd_853 dX7_oneHour_1 rfl ?_
  refine g_bipush (q := 6) dX7_oneHour_4 cb_7 rfl ?_
  refine g_aload_n (q := 7) dX7_oneHour_6 rfl rfl ?_
  refine f7_5 (q := 10) wd_853 dX7_oneHour_7 rfl ?_
  refine g_iconst (q := 11) dX7_oneHour_10 ci_1 rfl ?_
  refine g_ialdJ (q := 12) (k := 44) (j := 1) (N := 52) (by decide) (by decide) rfl rfl (by decide) (show (1 : Int32) = nI 1 from rfl) (by omega) dX7_oneHour_11 rfl ?_
  refine g_iadd (q := 13) dX7_oneHour_12 rfl ?_
  refine g_aload_n (q := 14) dX7_oneHour_13 rfl rfl ?_
  refine f7_5 (q := 17) wd_853 dX7_oneHour_14 rfl ?_
  refine g_bipush (q := 19) dX7_oneHour_17 cb_7 rfl ?_
  refine g_aload_n (q := 20) dX7_oneHour_19 rfl rfl ?_
  refine f7_5 (q := 23) wd_853 dX7_oneHour_20 rfl ?_
  refine g_iconst (q := 24) dX7_oneHour_23 ci_1 rfl ?_
  refine g_ialdJ (q := 25) (k := 44) (j := 1) (N := 52) (by decide) (by decide) rfl rfl (by decide) (show (1 : Int32) = nI 1 from rfl) (by omega) dX7_oneHour_24 rfl ?_
  refine g_iadd (q := 26) dX7_oneHour_25 rfl ?_
  refine g_ialdJ (q := 27) (k := 44) (j := (7 + (σ 44 1).toNatClampNeg)) (N := 52) (by decide) (by decide) rfl rfl (by decide) (ad2 (show (7 : Int32) = nI 7 from rfl) e1) (by omega) dX7_oneHour_26 rfl ?_
  refine g_aload_n (q := 28) dX7_oneHour_27 rfl rfl ?_
  refine f7_5 (q := 31) wd_853 dX7_oneHour_28 rfl ?_
  refine g_iconst (q := 32) dX7_oneHour_31 ci_2 rfl ?_
  refine g_ialdJ (q := 33) (k := 44) (j := 2) (N := 52) (by decide) (by decide) rfl rfl (by decide) (show (2 : Int32) = nI 2 from rfl) (by omega) dX7_oneHour_32 rfl ?_
  refine g_iadd (q := 34) dX7_oneHour_33 rfl ?_
  refine g_callSi (q := 37) (c_X7_bound hE ) lk_RX7_147 rfl rfl rfl rfl (Nat.le_of_ble_eq_true rfl) (Nat.le_of_ble_eq_true rfl) (Nat.le_of_ble_eq_true rfl) dX7_oneHour_34 rfl ?_
  refine g_iastJ (q := 38) (k := 44) (j := (7 + (σ 44 1).toNatClampNeg)) (N := 52) (by decide) (by decide) rfl rfl (by decide) (ad2 (show (7 : Int32) = nI 7 from rfl) e1) (by omega) dX7_oneHour_37 rfl ?_
  refine g_iconst (q := 39) dX7_oneHour_38 ci_0 rfl ?_
  refine g_istore_n (j := 1) (q := 40) dX7_oneHour_39 rfl (by decide) rfl rfl ?_
  refine g_for (I := fun i => [some (.ref (E.2.1 40)), some (.int (nI i)), none, none, none]) (S := fun i => upc σ 44 (q_hd (q_h1 (σ 44)) i)) (T := fun i => τ) (0) ((σ 44 4).toNatClampNeg) (Nat.zero_le _) (by rfl) (by rfl) (by rfl) (fun i i0 i1 kk_i => ?_) ?_
  · have hci : (nI i).toNatClampNeg = i := nI_clamp (by omega)
    have w3 := wfm_ag (ag_hd w1 i (by omega)) w1
    have ea := vp_to (w3.2.1 i (by omega)).1 (by decide)
    have eb := vp_to (w3.2.1 i (by omega)).2 (by decide)
    (try simp only [upc_same])
    refine g_iload_n (q := 41) dX7_oneHour_40 rfl rfl ?_
    refine g_aload_n (q := 42) dX7_oneHour_41 rfl rfl ?_
    refine f7_5 (q := 45) wd_853 dX7_oneHour_42 rfl ?_
    refine g_iconst (q := 46) dX7_oneHour_45 ci_4 rfl ?_
    refine g_ialdJ (q := 47) (k := 44) (j := 4) (N := 52) (by decide) (by decide) rfl rfl (by decide) (show (4 : Int32) = nI 4 from rfl) (by omega) dX7_oneHour_46 rfl ?_
    refine g_icmp_ge (t := 138) (q := 50) dX7_oneHour_47 (by decide) rfl (fun c_47 => ?_) (fun c_47 => ?_)
    · exact absurd c_47 (lp_in (by rw [upc_same, ag_hd w1 _ (by omega) 4 (by omega), ag_h1 w 4 (by omega)]; exact e4) (by omega) i1)
    · refine g_aload_n (q := 51) dX7_oneHour_50 rfl rfl ?_
      refine f7_5 (q := 54) wd_853 dX7_oneHour_51 rfl ?_
      refine g_bipush (q := 56) dX7_oneHour_54 cb_13 rfl ?_
      refine g_iload_n (q := 57) dX7_oneHour_56 rfl rfl ?_
      refine g_iadd (q := 58) dX7_oneHour_57 rfl ?_
      refine g_ialdJ (q := 59) (k := 44) (j := (13 + i)) (N := 52) (by decide) (by decide) rfl rfl (by decide) (ad2 (show (13 : Int32) = nI 13 from rfl) rfl) (by omega) dX7_oneHour_58 rfl ?_
      refine g_istore_n (j := 2) (q := 60) dX7_oneHour_59 rfl (by decide) rfl rfl ?_
      refine g_aload_n (q := 61) dX7_oneHour_60 rfl rfl ?_
      refine f7_5 (q := 64) wd_853 dX7_oneHour_61 rfl ?_
      refine g_bipush (q := 66) dX7_oneHour_64 cb_21 rfl ?_
      refine g_iload_n (q := 67) dX7_oneHour_66 rfl rfl ?_
      refine g_iadd (q := 68) dX7_oneHour_67 rfl ?_
      refine g_ialdJ (q := 69) (k := 44) (j := (21 + i)) (N := 52) (by decide) (by decide) rfl rfl (by decide) (ad2 (show (21 : Int32) = nI 21 from rfl) rfl) (by omega) dX7_oneHour_68 rfl ?_
      refine g_istore_n (j := 3) (q := 70) dX7_oneHour_69 rfl (by decide) rfl rfl ?_
      refine g_aload_n (q := 71) dX7_oneHour_70 rfl rfl ?_
      refine f7_5 (q := 74) wd_853 dX7_oneHour_71 rfl ?_
      refine g_bipush (q := 76) dX7_oneHour_74 cb_29 rfl ?_
      refine g_iload_n (q := 77) dX7_oneHour_76 rfl rfl ?_
      refine g_iadd (q := 78) dX7_oneHour_77 rfl ?_
      refine g_ialdJ (q := 79) (k := 44) (j := (29 + i)) (N := 52) (by decide) (by decide) rfl rfl (by decide) (ad2 (show (29 : Int32) = nI 29 from rfl) rfl) (by omega) dX7_oneHour_78 rfl ?_
      refine g_iconst (q := 80) dX7_oneHour_79 ci_1 rfl ?_
      refine g_icmp_ne (t := 113) (q := 83) dX7_oneHour_80 (by decide) rfl (fun c_80 => ?_) (fun c_80 => ?_)
      · refine g_aload_n (q := 114) dX7_oneHour_113 rfl rfl ?_
        refine f7_5 (q := 117) wd_853 dX7_oneHour_114 rfl ?_
        refine g_bipush (q := 119) dX7_oneHour_117 cb_29 rfl ?_
        refine g_iload_n (q := 120) dX7_oneHour_119 rfl rfl ?_
        refine g_iadd (q := 121) dX7_oneHour_120 rfl ?_
        refine g_ialdJ (q := 122) (k := 44) (j := (29 + i)) (N := 52) (by decide) (by decide) rfl rfl (by decide) (ad2 (show (29 : Int32) = nI 29 from rfl) rfl) (by omega) dX7_oneHour_121 rfl ?_
        refine g_iconst (q := 123) dX7_oneHour_122 ci_1 rfl ?_
        refine g_icmp_ne (t := 132) (q := 126) dX7_oneHour_123 (by decide) rfl (fun c_123 => ?_) (fun c_123 => ?_)
        · refine g_iinc (q := 135) dX7_oneHour_132 rfl ci_1 (by decide) rfl rfl ?_
          refine g_goto (t := 40) dX7_oneHour_135 (by decide) ?_
          (try simp only [upc_same] at c_80)
          (try simp only [upc_same] at c_123)
          exact g_eqw kk_i (by simp [lsub, nI_succ]) (by first | exact absurd c_123 c_80 | exact absurd c_80 c_123 | simp only [upc_upc, upc_same, q_hd, c_80, c_123, not_true_eq_false, not_false_eq_true, if_true, if_false, Bool.true_eq_false, Bool.false_eq_true, reduceIte, reduceCtorEq]) rfl
        · refine g_aload_n (q := 127) dX7_oneHour_126 rfl rfl ?_
          refine g_iload_n (q := 128) dX7_oneHour_127 rfl rfl ?_
          refine g_iload_n (q := 129) dX7_oneHour_128 rfl rfl ?_
          refine g_callVv (q := 132) (c_X7_flow hE (by rw [upc_same]; exact w3) (w3.2.1 i (by omega)).2 (w3.2.1 i (by omega)).1) lk_RX7_150 (by decide) (by decide) rfl (by decide) rfl rfl rfl rfl rfl rfl (Nat.le_of_ble_eq_true rfl) (Nat.le_of_ble_eq_true rfl) (Nat.le_of_ble_eq_true rfl) dX7_oneHour_129 rfl ?_
          refine g_iinc (q := 135) dX7_oneHour_132 rfl ci_1 (by decide) rfl rfl ?_
          refine g_goto (t := 40) dX7_oneHour_135 (by decide) ?_
          (try simp only [upc_same] at c_80)
          (try simp only [upc_same] at c_123)
          exact g_eqw kk_i (by simp [lsub, nI_succ]) (by first | exact absurd c_123 c_80 | exact absurd c_80 c_123 | simp only [upc_upc, upc_same, q_hd, c_80, c_123, not_true_eq_false, not_false_eq_true, if_true, if_false, Bool.true_eq_false, Bool.false_eq_true, reduceIte, reduceCtorEq]) rfl
      · refine g_aload_n (q := 84) dX7_oneHour_83 rfl rfl ?_
        refine f7_5 (q := 87) wd_853 dX7_oneHour_84 rfl ?_
        refine g_bipush (q := 89) dX7_oneHour_87 cb_7 rfl ?_
        refine g_iload_n (q := 90) dX7_oneHour_89 rfl rfl ?_
        refine g_iadd (q := 91) dX7_oneHour_90 rfl ?_
        refine g_ialdJ (q := 92) (k := 44) (j := (7 + (q_hd (q_h1 (σ 44)) i (13 + i)).toNatClampNeg)) (N := 52) (by decide) (by decide) rfl rfl (by decide) (ad2 (show (7 : Int32) = nI 7 from rfl) ea.1) (by omega) dX7_oneHour_91 rfl ?_
        refine g_aload_n (q := 93) dX7_oneHour_92 rfl rfl ?_
        refine f7_5 (q := 96) wd_853 dX7_oneHour_93 rfl ?_
        refine g_bipush (q := 98) dX7_oneHour_96 cb_7 rfl ?_
        refine g_iload_n (q := 99) dX7_oneHour_98 rfl rfl ?_
        refine g_iadd (q := 100) dX7_oneHour_99 rfl ?_
        refine g_ialdJ (q := 101) (k := 44) (j := (7 + (q_hd (q_h1 (σ 44)) i (21 + i)).toNatClampNeg)) (N := 52) (by decide) (by decide) rfl rfl (by decide) (ad2 (show (7 : Int32) = nI 7 from rfl) eb.1) (by omega) dX7_oneHour_100 rfl ?_
        refine g_icmp_le (t := 113) (q := 104) dX7_oneHour_101 (by decide) rfl (fun c_101 => ?_) (fun c_101 => ?_)
        · refine g_aload_n (q := 114) dX7_oneHour_113 rfl rfl ?_
          refine f7_5 (q := 117) wd_853 dX7_oneHour_114 rfl ?_
          refine g_bipush (q := 119) dX7_oneHour_117 cb_29 rfl ?_
          refine g_iload_n (q := 120) dX7_oneHour_119 rfl rfl ?_
          refine g_iadd (q := 121) dX7_oneHour_120 rfl ?_
          refine g_ialdJ (q := 122) (k := 44) (j := (29 + i)) (N := 52) (by decide) (by decide) rfl rfl (by decide) (ad2 (show (29 : Int32) = nI 29 from rfl) rfl) (by omega) dX7_oneHour_121 rfl ?_
          refine g_iconst (q := 123) dX7_oneHour_122 ci_1 rfl ?_
          refine g_icmp_ne (t := 132) (q := 126) dX7_oneHour_123 (by decide) rfl (fun c_123 => ?_) (fun c_123 => ?_)
          · refine g_iinc (q := 135) dX7_oneHour_132 rfl ci_1 (by decide) rfl rfl ?_
            refine g_goto (t := 40) dX7_oneHour_135 (by decide) ?_
            (try simp only [upc_same] at c_80)
            (try simp only [upc_same] at c_101)
            (try simp only [upc_same] at c_123)
            exact g_eqw kk_i (by simp [lsub, nI_succ]) (by first | exact absurd c_123 c_80 | exact absurd c_80 c_123 | simp only [upc_upc, upc_same, q_hd, c_80, c_101, c_123, not_true_eq_false, not_false_eq_true, if_true, if_false, Bool.true_eq_false, Bool.false_eq_true, reduceIte, reduceCtorEq]) rfl
          · refine g_aload_n (q := 127) dX7_oneHour_126 rfl rfl ?_
            refine g_iload_n (q := 128) dX7_oneHour_127 rfl rfl ?_
            refine g_iload_n (q := 129) dX7_oneHour_128 rfl rfl ?_
            refine g_callVv (q := 132) (c_X7_flow hE (by rw [upc_same]; exact w3) (w3.2.1 i (by omega)).2 (w3.2.1 i (by omega)).1) lk_RX7_150 (by decide) (by decide) rfl (by decide) rfl rfl rfl rfl rfl rfl (Nat.le_of_ble_eq_true rfl) (Nat.le_of_ble_eq_true rfl) (Nat.le_of_ble_eq_true rfl) dX7_oneHour_129 rfl ?_
            refine g_iinc (q := 135) dX7_oneHour_132 rfl ci_1 (by decide) rfl rfl ?_
            refine g_goto (t := 40) dX7_oneHour_135 (by decide) ?_
            (try simp only [upc_same] at c_80)
            (try simp only [upc_same] at c_101)
            (try simp only [upc_same] at c_123)
            exact g_eqw kk_i (by simp [lsub, nI_succ]) (by first | exact absurd c_123 c_80 | exact absurd c_80 c_123 | simp only [upc_upc, upc_same, q_hd, c_80, c_101, c_123, not_true_eq_false, not_false_eq_true, if_true, if_false, Bool.true_eq_false, Bool.false_eq_true, reduceIte, reduceCtorEq]) rfl
        · refine g_aload_n (q := 105) dX7_oneHour_104 rfl rfl ?_
          refine g_iload_n (q := 106) dX7_oneHour_105 rfl rfl ?_
          refine g_iload_n (q := 107) dX7_oneHour_106 rfl rfl ?_
          refine g_callVv (q := 110) (c_X7_flow hE (by rw [upc_same]; exact w3) (w3.2.1 i (by omega)).1 (w3.2.1 i (by omega)).2) lk_RX7_150 (by decide) (by decide) rfl (by decide) rfl rfl rfl rfl rfl rfl (Nat.le_of_ble_eq_true rfl) (Nat.le_of_ble_eq_true rfl) (Nat.le_of_ble_eq_true rfl) dX7_oneHour_107 rfl ?_
          refine g_goto (t := 132) dX7_oneHour_110 (by decide) ?_
          refine g_iinc (q := 135) dX7_oneHour_132 rfl ci_1 (by decide) rfl rfl ?_
          refine g_goto (t := 40) dX7_oneHour_135 (by decide) ?_
          (try simp only [upc_same] at c_80)
          (try simp only [upc_same] at c_101)
          exact g_eqw kk_i (by simp [lsub, nI_succ]) (by simp only [upc_upc, upc_same, q_hd, c_80, c_101, not_true_eq_false, not_false_eq_true, if_true, if_false, Bool.true_eq_false, Bool.false_eq_true, reduceIte, reduceCtorEq]) rfl
  · refine g_iload_n (q := 41) dX7_oneHour_40 rfl rfl ?_
    refine g_aload_n (q := 42) dX7_oneHour_41 rfl rfl ?_
    refine f7_5 (q := 45) wd_853 dX7_oneHour_42 rfl ?_
    refine g_iconst (q := 46) dX7_oneHour_45 ci_4 rfl ?_
    refine g_ialdJ (q := 47) (k := 44) (j := 4) (N := 52) (by decide) (by decide) rfl rfl (by decide) (show (4 : Int32) = nI 4 from rfl) (by omega) dX7_oneHour_46 rfl ?_
    refine g_icmp_ge (t := 138) (q := 50) dX7_oneHour_47 (by decide) rfl (fun c_47 => ?_) (fun c_47 => ?_)
    · refine g_iconst (q := 139) dX7_oneHour_138 ci_0 rfl ?_
      refine g_istore_n (j := 1) (q := 140) dX7_oneHour_139 rfl (by decide) rfl rfl ?_
      refine g_for (I := fun i => [some (.ref (E.2.1 40)), some (.int (nI i)), none, none, none]) (S := fun i => upc σ 44 (q_hs (q_hd (q_h1 (σ 44)) ((σ 44 4).toNatClampNeg)) i)) (T := fun i => τ) (0) ((σ 44 5).toNatClampNeg) (Nat.zero_le _) (by rfl) (by rfl) (by rfl) (fun i i0 i1 kk_i => ?_) ?_
      · have hci : (nI i).toNatClampNeg = i := nI_clamp (by omega)
        have w3 := wfm_ag (ag_hs w2 i (by omega)) w2
        have ep := vp_to (w3.2.2 i (by omega)) (by decide)
        (try simp only [upc_same])
        refine g_iload_n (q := 141) dX7_oneHour_140 rfl rfl ?_
        refine g_aload_n (q := 142) dX7_oneHour_141 rfl rfl ?_
        refine f7_5 (q := 145) wd_853 dX7_oneHour_142 rfl ?_
        refine g_iconst (q := 146) dX7_oneHour_145 ci_5 rfl ?_
        refine g_ialdJ (q := 147) (k := 44) (j := 5) (N := 52) (by decide) (by decide) rfl rfl (by decide) (show (5 : Int32) = nI 5 from rfl) (by omega) dX7_oneHour_146 rfl ?_
        refine g_icmp_ge (t := 240) (q := 150) dX7_oneHour_147 (by decide) rfl (fun c_147 => ?_) (fun c_147 => ?_)
        · exact absurd c_147 (lp_in (by rw [upc_same, ag_hs w2 _ (by omega) 5 (by omega), ag_hd w1 _ b4 5 (by omega), ag_h1 w 5 (by omega)]; exact e5) (by omega) i1)
        · refine g_aload_n (q := 151) dX7_oneHour_150 rfl rfl ?_
          refine f7_5 (q := 154) wd_853 dX7_oneHour_151 rfl ?_
          refine g_bipush (q := 156) dX7_oneHour_154 cb_37 rfl ?_
          refine g_iload_n (q := 157) dX7_oneHour_156 rfl rfl ?_
          refine g_iadd (q := 158) dX7_oneHour_157 rfl ?_
          refine g_ialdJ (q := 159) (k := 44) (j := (37 + i)) (N := 52) (by decide) (by decide) rfl rfl (by decide) (ad2 (show (37 : Int32) = nI 37 from rfl) rfl) (by omega) dX7_oneHour_158 rfl ?_
          refine g_istore_n (j := 2) (q := 160) dX7_oneHour_159 rfl (by decide) rfl rfl ?_
          refine g_aload_n (q := 161) dX7_oneHour_160 rfl rfl ?_
          refine f7_5 (q := 164) wd_853 dX7_oneHour_161 rfl ?_
          refine g_bipush (q := 166) dX7_oneHour_164 cb_47 rfl ?_
          refine g_iload_n (q := 167) dX7_oneHour_166 rfl rfl ?_
          refine g_iadd (q := 168) dX7_oneHour_167 rfl ?_
          refine g_ialdJ (q := 169) (k := 44) (j := (47 + i)) (N := 52) (by decide) (by decide) rfl rfl (by decide) (ad2 (show (47 : Int32) = nI 47 from rfl) rfl) (by omega) dX7_oneHour_168 rfl ?_
          refine g_istore_n (j := 3) (q := 170) dX7_oneHour_169 rfl (by decide) rfl rfl ?_
          refine g_bipush (q := 172) dX7_oneHour_170 cb_7 rfl ?_
          refine g_aload_n (q := 173) dX7_oneHour_172 rfl rfl ?_
          refine f7_5 (q := 176) wd_853 dX7_oneHour_173 rfl ?_
          refine g_bipush (q := 178) dX7_oneHour_176 cb_42 rfl ?_
          refine g_iload_n (q := 179) dX7_oneHour_178 rfl rfl ?_
          refine g_iadd (q := 180) dX7_oneHour_179 rfl ?_
          refine g_ialdJ (q := 181) (k := 44) (j := (42 + i)) (N := 52) (by decide) (by decide) rfl rfl (by decide) (ad2 (show (42 : Int32) = nI 42 from rfl) rfl) (by omega) dX7_oneHour_180 rfl ?_
          refine g_iadd (q := 182) dX7_oneHour_181 rfl ?_
          refine g_istore (q := 184) dX7_oneHour_182 (by decide) rfl rfl ?_
          refine g_aload_n (q := 185) dX7_oneHour_184 rfl rfl ?_
          refine f7_5 (q := 188) wd_853 dX7_oneHour_185 rfl ?_
          refine g_iload (q := 190) dX7_oneHour_188 rfl rfl ?_
          refine g_aload_n (q := 191) dX7_oneHour_190 rfl rfl ?_
          refine f7_5 (q := 194) wd_853 dX7_oneHour_191 rfl ?_
          refine g_iload (q := 196) dX7_oneHour_194 rfl rfl ?_
          refine g_ialdJ (q := 197) (k := 44) (j := (7 + (q_hs (q_hd (q_h1 (σ 44)) ((σ 44 4).toNatClampNeg)) i (42 + i)).toNatClampNeg)) (N := 52) (by decide) (by decide) rfl rfl (by decide) (ad2 (show (7 : Int32) = nI 7 from rfl) ep.1) (by omega) dX7_oneHour_196 rfl ?_
          refine g_iload_n (q := 198) dX7_oneHour_197 rfl rfl ?_
          refine g_iconst (q := 199) dX7_oneHour_198 ci_5 rfl ?_
          refine g_icmp_ne (t := 206) (q := 202) dX7_oneHour_199 (by decide) rfl (fun c_199 => ?_) (fun c_199 => ?_)
          · refine g_iload_n (q := 207) dX7_oneHour_206 rfl rfl ?_
            refine g_iconst (q := 208) dX7_oneHour_207 ci_4 rfl ?_
            refine g_icmp_ne (t := 218) (q := 211) dX7_oneHour_208 (by decide) rfl (fun c_208 => ?_) (fun c_208 => ?_)
            · refine g_iload_n (q := 219) dX7_oneHour_218 rfl rfl ?_
              refine g_iconst (q := 220) dX7_oneHour_219 ci_3 rfl ?_
              refine g_icmp_ne (t := 228) (q := 223) dX7_oneHour_220 (by decide) rfl (fun c_220 => ?_) (fun c_220 => ?_)
              · refine g_iconst (q := 229) dX7_oneHour_228 ci_0 rfl ?_
                refine g_iadd (q := 230) dX7_oneHour_229 rfl ?_
                refine g_callSi (q := 233) (c_X7_bound hE ) lk_RX7_147 rfl rfl rfl rfl (Nat.le_of_ble_eq_true rfl) (Nat.le_of_ble_eq_true rfl) (Nat.le_of_ble_eq_true rfl) dX7_oneHour_230 rfl ?_
                refine g_iastJ (q := 234) (k := 44) (j := (7 + (q_hs (q_hd (q_h1 (σ 44)) ((σ 44 4).toNatClampNeg)) i (42 + i)).toNatClampNeg)) (N := 52) (by decide) (by decide) rfl rfl (by decide) (ad2 (show (7 : Int32) = nI 7 from rfl) ep.1) (by omega) dX7_oneHour_233 rfl ?_
                refine g_iinc (q := 237) dX7_oneHour_234 rfl ci_1 (by decide) rfl rfl ?_
                refine g_goto (t := 140) dX7_oneHour_237 (by decide) ?_
                (try simp only [upc_same] at c_199)
                (try simp only [upc_same] at c_208)
                (try simp only [upc_same] at c_220)
                exact g_eqw kk_i (by simp [lsub, nI_succ]) (by simp only [upc_upc, upc_same, q_hs, bnd, chM, c_199, c_208, c_220, not_true_eq_false, not_false_eq_true, if_true, if_false, Bool.true_eq_false, Bool.false_eq_true, reduceIte, reduceCtorEq, show ((3 : Int32) = 5) = False from by decide, show ((3 : Int32) = 4) = False from by decide, show ((4 : Int32) = 5) = False from by decide]) rfl
              · refine g_iload_n (q := 224) dX7_oneHour_223 rfl rfl ?_
                refine g_ineg (q := 225) dX7_oneHour_224 rfl ?_
                refine g_goto (t := 229) dX7_oneHour_225 (by decide) ?_
                refine g_iadd (q := 230) dX7_oneHour_229 rfl ?_
                refine g_callSi (q := 233) (c_X7_bound hE ) lk_RX7_147 rfl rfl rfl rfl (Nat.le_of_ble_eq_true rfl) (Nat.le_of_ble_eq_true rfl) (Nat.le_of_ble_eq_true rfl) dX7_oneHour_230 rfl ?_
                refine g_iastJ (q := 234) (k := 44) (j := (7 + (q_hs (q_hd (q_h1 (σ 44)) ((σ 44 4).toNatClampNeg)) i (42 + i)).toNatClampNeg)) (N := 52) (by decide) (by decide) rfl rfl (by decide) (ad2 (show (7 : Int32) = nI 7 from rfl) ep.1) (by omega) dX7_oneHour_233 rfl ?_
                refine g_iinc (q := 237) dX7_oneHour_234 rfl ci_1 (by decide) rfl rfl ?_
                refine g_goto (t := 140) dX7_oneHour_237 (by decide) ?_
                (try simp only [upc_same] at c_199)
                (try simp only [upc_same] at c_208)
                (try simp only [upc_same] at c_220)
                exact g_eqw kk_i (by simp [lsub, nI_succ]) (by simp only [upc_upc, upc_same, q_hs, bnd, chM, c_199, c_208, c_220, not_true_eq_false, not_false_eq_true, if_true, if_false, Bool.true_eq_false, Bool.false_eq_true, reduceIte, reduceCtorEq, show ((3 : Int32) = 5) = False from by decide, show ((3 : Int32) = 4) = False from by decide, show ((4 : Int32) = 5) = False from by decide]) rfl
            · refine g_bipush (q := 213) dX7_oneHour_211 cb_m2 rfl ?_
              refine g_iload_n (q := 214) dX7_oneHour_213 rfl rfl ?_
              refine g_imul (q := 215) dX7_oneHour_214 rfl ?_
              refine g_goto (t := 229) dX7_oneHour_215 (by decide) ?_
              refine g_iadd (q := 230) dX7_oneHour_229 rfl ?_
              refine g_callSi (q := 233) (c_X7_bound hE ) lk_RX7_147 rfl rfl rfl rfl (Nat.le_of_ble_eq_true rfl) (Nat.le_of_ble_eq_true rfl) (Nat.le_of_ble_eq_true rfl) dX7_oneHour_230 rfl ?_
              refine g_iastJ (q := 234) (k := 44) (j := (7 + (q_hs (q_hd (q_h1 (σ 44)) ((σ 44 4).toNatClampNeg)) i (42 + i)).toNatClampNeg)) (N := 52) (by decide) (by decide) rfl rfl (by decide) (ad2 (show (7 : Int32) = nI 7 from rfl) ep.1) (by omega) dX7_oneHour_233 rfl ?_
              refine g_iinc (q := 237) dX7_oneHour_234 rfl ci_1 (by decide) rfl rfl ?_
              refine g_goto (t := 140) dX7_oneHour_237 (by decide) ?_
              (try simp only [upc_same] at c_199)
              (try simp only [upc_same] at c_208)
              exact g_eqw kk_i (by simp [lsub, nI_succ]) (by simp only [upc_upc, upc_same, q_hs, bnd, chM, c_199, c_208, not_true_eq_false, not_false_eq_true, if_true, if_false, Bool.true_eq_false, Bool.false_eq_true, reduceIte, reduceCtorEq, show ((3 : Int32) = 5) = False from by decide, show ((3 : Int32) = 4) = False from by decide, show ((4 : Int32) = 5) = False from by decide]) rfl
          · refine g_iload_n (q := 203) dX7_oneHour_202 rfl rfl ?_
            refine g_goto (t := 229) dX7_oneHour_203 (by decide) ?_
            refine g_iadd (q := 230) dX7_oneHour_229 rfl ?_
            refine g_callSi (q := 233) (c_X7_bound hE ) lk_RX7_147 rfl rfl rfl rfl (Nat.le_of_ble_eq_true rfl) (Nat.le_of_ble_eq_true rfl) (Nat.le_of_ble_eq_true rfl) dX7_oneHour_230 rfl ?_
            refine g_iastJ (q := 234) (k := 44) (j := (7 + (q_hs (q_hd (q_h1 (σ 44)) ((σ 44 4).toNatClampNeg)) i (42 + i)).toNatClampNeg)) (N := 52) (by decide) (by decide) rfl rfl (by decide) (ad2 (show (7 : Int32) = nI 7 from rfl) ep.1) (by omega) dX7_oneHour_233 rfl ?_
            refine g_iinc (q := 237) dX7_oneHour_234 rfl ci_1 (by decide) rfl rfl ?_
            refine g_goto (t := 140) dX7_oneHour_237 (by decide) ?_
            (try simp only [upc_same] at c_199)
            exact g_eqw kk_i (by simp [lsub, nI_succ]) (by simp only [upc_upc, upc_same, q_hs, bnd, chM, c_199, not_true_eq_false, not_false_eq_true, if_true, if_false, Bool.true_eq_false, Bool.false_eq_true, reduceIte, reduceCtorEq, show ((3 : Int32) = 5) = False from by decide, show ((3 : Int32) = 4) = False from by decide, show ((4 : Int32) = 5) = False from by decide]) rfl
      · refine g_iload_n (q := 141) dX7_oneHour_140 rfl rfl ?_
        refine g_aload_n (q := 142) dX7_oneHour_141 rfl rfl ?_
        refine f7_5 (q := 145) wd_853 dX7_oneHour_142 rfl ?_
        refine g_iconst (q := 146) dX7_oneHour_145 ci_5 rfl ?_
        refine g_ialdJ (q := 147) (k := 44) (j := 5) (N := 52) (by decide) (by decide) rfl rfl (by decide) (show (5 : Int32) = nI 5 from rfl) (by omega) dX7_oneHour_146 rfl ?_
        refine g_icmp_ge (t := 240) (q := 150) dX7_oneHour_147 (by decide) rfl (fun c_147 => ?_) (fun c_147 => ?_)
        · refine g_aload_n (q := 241) dX7_oneHour_240 rfl rfl ?_
          refine f7_5 (q := 244) wd_853 dX7_oneHour_241 rfl ?_
          refine g_bipush (q := 246) dX7_oneHour_244 cb_6 rfl ?_
          refine g_dup2 (q := 247) dX7_oneHour_246 rfl rfl rfl ?_
          refine g_ialdJ (q := 248) (k := 44) (j := 6) (N := 52) (by decide) (by decide) rfl rfl (by decide) (show (6 : Int32) = nI 6 from rfl) (by omega) dX7_oneHour_247 rfl ?_
          refine g_iconst (q := 249) dX7_oneHour_248 ci_1 rfl ?_
          refine g_iadd (q := 250) dX7_oneHour_249 rfl ?_
          refine g_iastJ (q := 251) (k := 44) (j := 6) (N := 52) (by decide) (by decide) rfl rfl (by decide) (show (6 : Int32) = nI 6 from rfl) (by omega) dX7_oneHour_250 rfl ?_
          exact g_vret dX7_oneHour_251 (pv_i (by simp only [upc_upc, upc_same]; rfl) rfl)
        · exact absurd (lp_out (by rw [upc_same, ag_hs w2 _ (by omega) 5 (by omega), ag_hd w1 _ b4 5 (by omega), ag_h1 w 5 (by omega)]; exact e5)) c_147
    · exact absurd (lp_out (by rw [upc_same, ag_hd w1 _ (by omega) 4 (by omega), ag_h1 w 4 (by omega)]; exact e4)) c_47
