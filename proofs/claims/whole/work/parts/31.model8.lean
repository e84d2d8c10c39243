theorem tn_pos {m : Nat → Int32} (w : WFM m) (h : 0 < m 0) : 0 < (m 0).toNatClampNeg := by
  have e := (wfm_n w).1
  rcases Nat.eq_zero_or_pos ((m 0).toNatClampNeg) with q | q
  · rw [e.1, q] at h
    exact absurd h (by decide)
  · exact q
theorem wfm_sit {m : Nat → Int32} (w : WFM m) {s : Nat} (hs : s < 5) {r : Int32} (hr : vp_in r 6) : WFM (upd m (42 + s) r) := by
  unfold WFM
  rw [upd_ne (show (0 : Nat) ≠ 42 + s by omega), upd_ne (show (1 : Nat) ≠ 42 + s by omega), upd_ne (show (4 : Nat) ≠ 42 + s by omega), upd_ne (show (5 : Nat) ≠ 42 + s by omega)]
  refine ⟨w.1, fun i hi => ?_, fun i hi => ?_⟩
  · rw [upd_ne (show 13 + i ≠ 42 + s by omega), upd_ne (show 21 + i ≠ 42 + s by omega)]; exact w.2.1 i hi
  · by_cases e : i = s
    · subst e; rw [upd_same]; exact hr
    · rw [upd_ne (show 42 + i ≠ 42 + s by omega)]; exact w.2.2 i hi
theorem wfm_in {m : Nat → Int32} (w : WFM m) {r : Int32} (hr : vp_in r 6) : WFM (upd m 1 r) := by
  unfold WFM
  rw [upd_ne (show (0 : Nat) ≠ 1 by decide), upd_same, upd_ne (show (4 : Nat) ≠ 1 by decide), upd_ne (show (5 : Nat) ≠ 1 by decide)]
  refine ⟨⟨w.1.1, hr, w.1.2.2⟩, fun i hi => ?_, fun i hi => ?_⟩
  · rw [upd_ne (show 13 + i ≠ 1 by omega), upd_ne (show 21 + i ≠ 1 by omega)]; exact w.2.1 i hi
  · rw [upd_ne (show 42 + i ≠ 1 by omega)]; exact w.2.2 i hi
theorem wfm_kind {m : Nat → Int32} (w : WFM m) {s : Nat} (hs : s < 5) {k : Int32} : WFM (upd m (37 + s) k) := by
  unfold WFM
  rw [upd_ne (show (0 : Nat) ≠ 37 + s by omega), upd_ne (show (1 : Nat) ≠ 37 + s by omega), upd_ne (show (4 : Nat) ≠ 37 + s by omega), upd_ne (show (5 : Nat) ≠ 37 + s by omega)]
  refine ⟨w.1, fun i hi => ?_, fun i hi => ?_⟩
  · rw [upd_ne (show 13 + i ≠ 37 + s by omega), upd_ne (show 21 + i ≠ 37 + s by omega)]; exact w.2.1 i hi
  · rw [upd_ne (show 42 + i ≠ 37 + s by omega)]; exact w.2.2 i hi
def seX (σ : Sto) (s r n : Int32) (i : Nat) : Int32 := q_hrs (upd (σ 44) (42 + s.toNatClampNeg) (nI i)) (n.toNatClampNeg) (7 + r.toNatClampNeg)
def seM (x : Nat → Int32) : Nat → Int32 × Int32
  | 0 => (-1, 0)
  | i + 1 => if (seM x i).1 < 0 ∨ x i < (seM x i).2 then (nI i, x i) else seM x i
def q_sitWhere (σ : Sto) (s r n u : Int32) : Int32 × Sto := if wi s 0 (σ 44 5 - 1) = false then (-1000001, σ) else if wi r 0 (σ 44 0 - 1) = false then (-1000001, σ) else if wi n 1 24 = false then (-1000001, σ) else if wi u 0 1 = false then (-1000001, σ) else (if u = 0 then (seM (seX σ s r n) ((σ 44 0).toNatClampNeg)).1 else (seM (seX σ s r n) ((σ 44 0).toNatClampNeg)).2, asd σ)
def ciM (m : Nat → Int32) (r : Nat) (t : Int32) (h : Nat) : Nat → Int32
  | 0 => nI h
  | k + 1 => if m (7 + r) < t then ciM (q_hour m) r t (h + 1) k else nI h
def leX (σ : Sto) (r t : Int32) (k : Nat) : Int32 := ciM (upd (σ 44) (42 + k / (σ 44 0).toNatClampNeg) (nI (k % (σ 44 0).toNatClampNeg))) (r.toNatClampNeg) t 0 41
def leM (x : Nat → Int32) (z : Int32) (W : Nat) : Nat → Int32 × Int32
  | 0 => (z, NO)
  | k + 1 => if x k < (leM x z W k).1 then (x k, 10 * nI (k / W) + nI (k % W)) else leM x z W k
def q_led (σ : Sto) (r t u : Int32) : Int32 × Sto := if σ 40 4 = 0 then (-1000002, σ) else if wi r 0 (σ 44 0 - 1) = false then (-1000001, σ) else if wi t 1 999 = false then (-1000001, σ) else if wi u 0 1 = false then (-1000001, σ) else (if (leM (leX σ r t) (ciM (σ 44) (r.toNatClampNeg) t 0 41) ((σ 44 0).toNatClampNeg) ((σ 44 5).toNatClampNeg * (σ 44 0).toNatClampNeg)).1 ≤ 40 then (if u = 0 then (leM (leX σ r t) (ciM (σ 44) (r.toNatClampNeg) t 0 41) ((σ 44 0).toNatClampNeg) ((σ 44 5).toNatClampNeg * (σ 44 0).toNatClampNeg)).1 else (leM (leX σ r t) (ciM (σ 44) (r.toNatClampNeg) t 0 41) ((σ 44 0).toNatClampNeg) ((σ 44 5).toNatClampNeg * (σ 44 0).toNatClampNeg)).2) else -1000000, asd σ)
def q_lacks (σ : Sto) (r i n : Int32) : Int32 × Sto := if 0 ≤ σ 42 (r.toNatClampNeg) then (if wi i 0 (σ 42 (r.toNatClampNeg) - n) = false then (-1000010 - 2, fndM σ 2) else (0, σ)) else (-1000010 - 1, fndM σ 1)
theorem lk_ok {σ : Sto} {r i n : Int32} (h : 0 ≤ (q_lacks σ r i n).1) : 0 ≤ σ 42 (r.toNatClampNeg) ∧ wi i 0 (σ 42 (r.toNatClampNeg) - n) = true ∧ (q_lacks σ r i n).2 = σ := by
  unfold q_lacks at h ⊢
  by_cases c1 : 0 ≤ σ 42 (r.toNatClampNeg)
  · rw [if_pos c1] at h ⊢
    by_cases c2 : wi i 0 (σ 42 (r.toNatClampNeg) - n) = false
    · rw [if_pos c2] at h
      exact absurd (show (0 : Int32) ≤ -1000010 - 2 from h) (by decide)
    · rw [if_neg c2]
      exact ⟨c1, by simpa using c2, rfl⟩
  · rw [if_neg c1] at h
    exact absurd (show (0 : Int32) ≤ -1000010 - 1 from h) (by decide)
def HN (W k : Nat) : Nat := (k + W - 1) / W
theorem HN_s {W k : Nat} (hW : 0 < W) : HN W (k + 1) = k / W + 1 := by
  unfold HN
  rw [show k + 1 + W - 1 = k + W by omega, Nat.add_div_right _ hW]
theorem HN_z {W k : Nat} (hW : 0 < W) (h : k % W = 0) : HN W k = k / W := by
  unfold HN
  have e := Nat.div_add_mod k W
  rw [h] at e
  refine Nat.div_eq_of_lt_le ?_ ?_
  · rw [Nat.mul_comm]; omega
  · rw [Nat.succ_mul, Nat.mul_comm (k / W) W]; omega
theorem HN_n {W k : Nat} (hW : 0 < W) (h : ¬ k % W = 0) : HN W k = k / W + 1 := by
  unfold HN
  have e := Nat.div_add_mod k W
  have l := Nat.mod_lt k hW
  refine Nat.div_eq_of_lt_le ?_ ?_
  · rw [Nat.succ_mul, Nat.mul_comm (k / W) W]; omega
  · rw [Nat.succ_mul, Nat.succ_mul, Nat.mul_comm (k / W) W]; omega
def soM (it m : Nat → Int32) (A W : Nat) : Nat → Bool
  | 0 => true
  | k + 1 => soM it m A W k && (it (A + k) == q_hrs m (k / W + 1) (7 + k % W))
def caX (σ : Sto) (ro i n : Int32) (r : Nat) : Bool := soM (σ 43) (upd (σ 44) 1 (nI r)) (40 * ro.toNatClampNeg + i.toNatClampNeg) ((σ 44 0).toNatClampNeg) (n.toNatClampNeg * (σ 44 0).toNatClampNeg)
def q_came (σ : Sto) (ro i n : Int32) : Int32 × Sto := if σ 40 4 = 0 then (-1000002, σ) else if wi ro 0 7 = false then (-1000001, σ) else if wi n 1 6 = false then (-1000001, σ) else if 0 ≤ (q_lacks σ ro i (n * σ 44 0)).1 then (s_ci (caX σ ro i n) ((σ 44 0).toNatClampNeg), fndM (asd σ) 0) else q_lacks σ ro i (n * σ 44 0)
def whX (σ : Sto) (s ro i n : Int32) (k : Nat) : Bool := soM (σ 43) (upd (σ 44) (37 + s.toNatClampNeg) (nI k)) (40 * ro.toNatClampNeg + i.toNatClampNeg) ((σ 44 0).toNatClampNeg) (n.toNatClampNeg * (σ 44 0).toNatClampNeg)
def q_who (σ : Sto) (s ro i n : Int32) : Int32 × Sto := if wi s 0 (σ 44 5 - 1) = false then (-1000001, σ) else if wi ro 0 7 = false then (-1000001, σ) else if wi n 1 6 = false then (-1000001, σ) else if 0 ≤ (q_lacks σ ro i (n * σ 44 0)).1 then (s_ci (fun k => decide (1 ≤ k) && whX σ s ro i n k) 6, fndM (asd σ) 0) else q_lacks σ ro i (n * σ 44 0)
theorem lk_b {σ : Sto} {ro i n : Int32} (w : WFM (σ 44)) (sz : SZM σ) (hr : ro.toNatClampNeg < 8) (hn : wi n 1 6 = true) (h : 0 ≤ (q_lacks σ ro i (n * σ 44 0)).1) : i = nI (i.toNatClampNeg) ∧ n = nI (n.toNatClampNeg) ∧ n.toNatClampNeg ≤ 6 ∧ 40 * ro.toNatClampNeg + i.toNatClampNeg + n.toNatClampNeg * (σ 44 0).toNatClampNeg ≤ 320 := by
  obtain ⟨h1, h2, _⟩ := lk_ok h
  obtain ⟨en, bn⟩ := vp_to (wi_in (N := 7) hn (by decide) (by decide)) (by decide)
  obtain ⟨e0, b0⟩ := (wfm_n w).1
  rcases sz (ro.toNatClampNeg) hr with q | q
  · rw [q] at h1; exact absurd h1 (by decide)
  · obtain ⟨ez, bz⟩ := vp_to q (by decide)
    have hmul : n.toNatClampNeg * (σ 44 0).toNatClampNeg ≤ 36 := Nat.mul_le_mul (show n.toNatClampNeg ≤ 6 by omega) b0
    simp only [wi, Bool.and_eq_true, decide_eq_true_eq] at h2
    obtain ⟨ei, bi⟩ := nn_to (Int32.not_lt.mpr h2.1)
    have h3 := h2.2
    rw [ei, ez, en, e0, pk_mul] at h3
    refine ⟨ei, en, by omega, ?_⟩
    rw [Int32.le_iff_toInt_le, nI_toInt bi, pk_sub_toInt (by omega) (by omega)] at h3
    omega
set_option maxRecDepth 20000 in
set_option maxHeartbeats 4000000 in
theorem c_X7_sitWhere {E : EE} (hE : inj E 40 13) {σ : Sto} {τ : Stl} {s r n u : Int32} (w : WFM (σ 44)) : Ct E 40 13 yX7_sitWhere cX7_sitWhere 9 (some FieldType.int) { frames := 4, cells := 0, slots := 0, locals := 94 } [.ref (E.2.1 40), .int s, .int r, .int n, .int u] σ τ (Pi ((q_sitWhere σ s r n u).1) ((q_sitWhere σ s r n u).2) (τ)) := by
  refine ct_of hE RX7 [some (.ref (E.2.1 40)), some (.int s), some (.int r), some (.int n), some (.int u), none, none, none, none] (by decide) rfl (Nat.le_of_ble_eq_true rfl) rfl (fun X => ?_)
  obtain ⟨⟨e0, b0⟩, ⟨e1, b1⟩, ⟨e4, b4⟩, ⟨e5, b5⟩⟩ := wfm_n w
  refine g_aload_n (q := 1) dX7_sitWhere_0 rfl rfl ?_
  refine g_iload_n (q := 2) dX7_sitWhere_1 rfl rfl ?_
  refine g_callVi (q := 5) (c_X7_isSitter hE ) lk_RX7_172 (by decide) (by decide) rfl (by decide) rfl rfl rfl rfl rfl rfl (Nat.le_of_ble_eq_true rfl) (Nat.le_of_ble_eq_true rfl) (Nat.le_of_ble_eq_true rfl) dX7_sitWhere_2 rfl ?_
  refine g_if_eq (t := 39) (q := 8) dX7_sitWhere_5 (by decide) rfl (fun c_5 => ?_) (fun c_5 => ?_)
  · rw [bI_0] at c_5
    refine g_ldc (q := 41) dX7_sitWhere_39 wd_931 rfl ?_
    exact g_iret dX7_sitWhere_41 (pi_i (by simp only [q_sitWhere, c_5, not_true_eq_false, not_false_eq_true, if_true, if_false, Bool.true_eq_false, Bool.false_eq_true, reduceIte, reduceCtorEq]) (by simp only [q_sitWhere, c_5, not_true_eq_false, not_false_eq_true, if_true, if_false, Bool.true_eq_false, Bool.false_eq_true, reduceIte, reduceCtorEq]) rfl)
  · rw [bI_n0] at c_5
    refine g_aload_n (q := 9) dX7_sitWhere_8 rfl rfl ?_
    refine g_iload_n (q := 10) dX7_sitWhere_9 rfl rfl ?_
    refine g_callVi (q := 13) (c_X7_isRoom hE ) lk_RX7_175 (by decide) (by decide) rfl (by decide) rfl rfl rfl rfl rfl rfl (Nat.le_of_ble_eq_true rfl) (Nat.le_of_ble_eq_true rfl) (Nat.le_of_ble_eq_true rfl) dX7_sitWhere_10 rfl ?_
    refine g_if_eq (t := 39) (q := 16) dX7_sitWhere_13 (by decide) rfl (fun c_13 => ?_) (fun c_13 => ?_)
    · rw [bI_0] at c_13
      refine g_ldc (q := 41) dX7_sitWhere_39 wd_931 rfl ?_
      exact g_iret dX7_sitWhere_41 (pi_i (by simp only [q_sitWhere, c_5, c_13, not_true_eq_false, not_false_eq_true, if_true, if_false, Bool.true_eq_false, Bool.false_eq_true, reduceIte, reduceCtorEq]) (by simp only [q_sitWhere, c_5, c_13, not_true_eq_false, not_false_eq_true, if_true, if_false, Bool.true_eq_false, Bool.false_eq_true, reduceIte, reduceCtorEq]) rfl)
    · rw [bI_n0] at c_13
      refine g_iload_n (q := 17) dX7_sitWhere_16 rfl rfl ?_
      refine g_i2l (q := 18) dX7_sitWhere_17 rfl ?_
      refine g_lconst (q := 19) dX7_sitWhere_18 cl_1 rfl ?_
      refine g_ldc2 (q := 22) dX7_sitWhere_19 wd_1016 rfl ?_
      refine g_callSi (q := 25) (c_X7_in hE ) lk_RX7_54 rfl rfl rfl rfl (Nat.le_of_ble_eq_true rfl) (Nat.le_of_ble_eq_true rfl) (Nat.le_of_ble_eq_true rfl) dX7_sitWhere_22 rfl ?_
      refine g_if_eq (t := 39) (q := 28) dX7_sitWhere_25 (by decide) rfl (fun c_25 => ?_) (fun c_25 => ?_)
      · rw [bI_0] at c_25
        rw [show inL n.toInt64 1 24 = wi n 1 24 from inL_i n 1 24] at c_25
        refine g_ldc (q := 41) dX7_sitWhere_39 wd_931 rfl ?_
        exact g_iret dX7_sitWhere_41 (pi_i (by simp only [q_sitWhere, c_5, c_13, c_25, not_true_eq_false, not_false_eq_true, if_true, if_false, Bool.true_eq_false, Bool.false_eq_true, reduceIte, reduceCtorEq]) (by simp only [q_sitWhere, c_5, c_13, c_25, not_true_eq_false, not_false_eq_true, if_true, if_false, Bool.true_eq_false, Bool.false_eq_true, reduceIte, reduceCtorEq]) rfl)
      · rw [bI_n0] at c_25
        rw [show inL n.toInt64 1 24 = wi n 1 24 from inL_i n 1 24] at c_25
        refine g_iload (q := 30) dX7_sitWhere_28 rfl rfl ?_
        refine g_i2l (q := 31) dX7_sitWhere_30 rfl ?_
        refine g_lconst (q := 32) dX7_sitWhere_31 cl_0 rfl ?_
        refine g_lconst (q := 33) dX7_sitWhere_32 cl_1 rfl ?_
        refine g_callSi (q := 36) (c_X7_in hE ) lk_RX7_54 rfl rfl rfl rfl (Nat.le_of_ble_eq_true rfl) (Nat.le_of_ble_eq_true rfl) (Nat.le_of_ble_eq_true rfl) dX7_sitWhere_33 rfl ?_
        refine g_if_ne (t := 42) (q := 39) dX7_sitWhere_36 (by decide) rfl (fun c_36 => ?_) (fun c_36 => ?_)
        · rw [bI_n0] at c_36
          rw [show inL u.toInt64 0 1 = wi u 0 1 from inL_i u 0 1] at c_36
          have es := sitM w c_5
          have er := roomM w c_13
          refine g_aload_n (q := 43) dX7_sitWhere_42 rfl rfl ?_
          refine g_callVv (q := 46) (c_X7_putAside hE ) lk_RX7_185 (by decide) (by decide) rfl (by decide) rfl rfl rfl rfl rfl rfl (Nat.le_of_ble_eq_true rfl) (Nat.le_of_ble_eq_true rfl) (Nat.le_of_ble_eq_true rfl) dX7_sitWhere_43 rfl ?_
          refine g_sg (σ' := asd σ) rfl ?_
          refine g_iconst (q := 47) dX7_sitWhere_46 ci_m1 rfl ?_
          refine g_istore (q := 49) dX7_sitWhere_47 (by decide) rfl rfl ?_
          refine g_iconst (q := 50) dX7_sitWhere_49 ci_0 rfl ?_
          refine g_istore (q := 52) dX7_sitWhere_50 (by decide) rfl rfl ?_
          refine g_iconst (q := 53) dX7_sitWhere_52 ci_0 rfl ?_
          refine g_istore (q := 55) dX7_sitWhere_53 (by decide) rfl rfl ?_
          refine g_for (I := fun i => [some (.ref (E.2.1 40)), some (.int s), some (.int r), some (.int n), some (.int u), some (.int (seM (seX σ s r n) i).1), some (.int (seM (seX σ s r n) i).2), some (.int (nI i)), none]) (S := fun i => asd σ) (T := fun i => τ) (0) ((σ 44 0).toNatClampNeg) (Nat.zero_le _) (by rfl) (by rfl) (by rfl) (fun i i0 i1 kk_i => ?_) ?_
          · have hci : (nI i).toNatClampNeg = i := nI_clamp (by omega)
            refine g_iload (q := 57) dX7_sitWhere_55 rfl rfl ?_
            refine g_aload_n (q := 58) dX7_sitWhere_57 rfl rfl ?_
            refine f7_5 (q := 61) wd_853 dX7_sitWhere_58 rfl ?_
            refine g_iconst (q := 62) dX7_sitWhere_61 ci_0 rfl ?_
            refine g_ialdJ (q := 63) (k := 44) (j := 0) (N := 52) (by decide) (by decide) rfl rfl (by decide) (show (0 : Int32) = nI 0 from rfl) (by omega) dX7_sitWhere_62 rfl ?_
            refine g_icmp_ge (t := 123) (q := 66) dX7_sitWhere_63 (by decide) rfl (fun c_63 => ?_) (fun c_63 => ?_)
            · exact absurd c_63 (lp_in (by rw [asd_44]; exact e0) (by omega) i1)
            · refine g_aload_n (q := 67) dX7_sitWhere_66 rfl rfl ?_
              refine f7_5 (q := 70) wd_853 dX7_sitWhere_67 rfl ?_
              refine g_bipush (q := 72) dX7_sitWhere_70 cb_42 rfl ?_
              refine g_iload_n (q := 73) dX7_sitWhere_72 rfl rfl ?_
              refine g_iadd (q := 74) dX7_sitWhere_73 rfl ?_
              refine g_iload (q := 76) dX7_sitWhere_74 rfl rfl ?_
              refine g_iastJ (q := 77) (k := 44) (j := (42 + s.toNatClampNeg)) (N := 52) (by decide) (by decide) rfl rfl (by decide) (ad2 (show (42 : Int32) = nI 42 from rfl) es.1) (by omega) dX7_sitWhere_76 rfl ?_
              refine g_aload_n (q := 78) dX7_sitWhere_77 rfl rfl ?_
              refine g_iload_n (q := 79) dX7_sitWhere_78 rfl rfl ?_
              refine g_callVv (q := 82) (c_X7_goOn hE (by rw [upc_same, asd_44]; exact wfm_sit w es.2 (vp_in_nI (by omega) (by decide))) (wi_nn c_25 (by decide))) lk_RX7_188 (by decide) (by decide) rfl (by decide) rfl rfl rfl rfl rfl rfl (Nat.le_of_ble_eq_true rfl) (Nat.le_of_ble_eq_true rfl) (Nat.le_of_ble_eq_true rfl) dX7_sitWhere_79 rfl ?_
              refine g_sg (σ' := upc (asd σ) 44 (q_hrs (upd (σ 44) (42 + s.toNatClampNeg) (nI i)) (n.toNatClampNeg))) (by simp only [upc_upc, upc_same, asd_44]) ?_
              refine g_aload_n (q := 83) dX7_sitWhere_82 rfl rfl ?_
              refine f7_5 (q := 86) wd_853 dX7_sitWhere_83 rfl ?_
              refine g_bipush (q := 88) dX7_sitWhere_86 cb_7 rfl ?_
              refine g_iload_n (q := 89) dX7_sitWhere_88 rfl rfl ?_
              refine g_iadd (q := 90) dX7_sitWhere_89 rfl ?_
              refine g_ialdJ (q := 91) (k := 44) (j := (7 + r.toNatClampNeg)) (N := 52) (by decide) (by decide) rfl rfl (by decide) (ad2 (show (7 : Int32) = nI 7 from rfl) er.1) (by omega) dX7_sitWhere_90 rfl ?_
              refine g_st (stk' := [.int (seX σ s r n i)]) (by rw [upc_same]; rfl) ?_
              refine g_istore (q := 93) dX7_sitWhere_91 (by decide) rfl rfl ?_
              refine g_aload_n (q := 94) dX7_sitWhere_93 rfl rfl ?_
              refine g_callVv (q := 97) (c_X7_takeBack hE ) lk_RX7_192 (by decide) (by decide) rfl (by decide) rfl rfl rfl rfl rfl rfl (Nat.le_of_ble_eq_true rfl) (Nat.le_of_ble_eq_true rfl) (Nat.le_of_ble_eq_true rfl) dX7_sitWhere_94 rfl ?_
              refine g_sg (σ' := asd σ) (tkb (fun k hk => by simp only [upc_ne hk])) ?_
              refine g_iload (q := 99) dX7_sitWhere_97 rfl rfl ?_
              refine g_if_lt (t := 109) (q := 102) dX7_sitWhere_99 (by decide) rfl (fun c_99 => ?_) (fun c_99 => ?_)
              · refine g_iload (q := 111) dX7_sitWhere_109 rfl rfl ?_
                refine g_istore (q := 113) dX7_sitWhere_111 (by decide) rfl rfl ?_
                refine g_iload (q := 115) dX7_sitWhere_113 rfl rfl ?_
                refine g_istore (q := 117) dX7_sitWhere_115 (by decide) rfl rfl ?_
                refine g_iinc (q := 120) dX7_sitWhere_117 rfl ci_1 (by decide) rfl rfl ?_
                refine g_goto (t := 55) dX7_sitWhere_120 (by decide) ?_
                have hs : seM (seX σ s r n) (i + 1) = (nI i, seX σ s r n i) := by simp only [seM]; rw [if_pos (Or.inl c_99)]
                exact g_eqw kk_i (by first | (simp [lsub, hs, nI_succ]; done) | (simp [lsub, hs, nI_succ, if_neg (Int32.not_lt.mpr c_106)]; done) | (simp [lsub, hs, nI_succ, if_pos (Int32.not_le.mp c_106)]; done)) rfl rfl
              · refine g_iload (q := 104) dX7_sitWhere_102 rfl rfl ?_
                refine g_iload (q := 106) dX7_sitWhere_104 rfl rfl ?_
                refine g_icmp_ge (t := 117) (q := 109) dX7_sitWhere_106 (by decide) rfl (fun c_106 => ?_) (fun c_106 => ?_)
                · refine g_iinc (q := 120) dX7_sitWhere_117 rfl ci_1 (by decide) rfl rfl ?_
                  refine g_goto (t := 55) dX7_sitWhere_120 (by decide) ?_
                  have hs : seM (seX σ s r n) (i + 1) = (if seX σ s r n i < (seM (seX σ s r n) i).2 then (nI i, seX σ s r n i) else seM (seX σ s r n) i) := by simp only [seM, c_99, false_or]
                  exact g_eqw kk_i (by first | (simp [lsub, hs, nI_succ]; done) | (simp [lsub, hs, nI_succ, if_neg (Int32.not_lt.mpr c_106)]; done) | (simp [lsub, hs, nI_succ, if_pos (Int32.not_le.mp c_106)]; done)) rfl rfl
                · refine g_iload (q := 111) dX7_sitWhere_109 rfl rfl ?_
                  refine g_istore (q := 113) dX7_sitWhere_111 (by decide) rfl rfl ?_
                  refine g_iload (q := 115) dX7_sitWhere_113 rfl rfl ?_
                  refine g_istore (q := 117) dX7_sitWhere_115 (by decide) rfl rfl ?_
                  refine g_iinc (q := 120) dX7_sitWhere_117 rfl ci_1 (by decide) rfl rfl ?_
                  refine g_goto (t := 55) dX7_sitWhere_120 (by decide) ?_
                  have hs : seM (seX σ s r n) (i + 1) = (if seX σ s r n i < (seM (seX σ s r n) i).2 then (nI i, seX σ s r n i) else seM (seX σ s r n) i) := by simp only [seM, c_99, false_or]
                  exact g_eqw kk_i (by first | (simp [lsub, hs, nI_succ]; done) | (simp [lsub, hs, nI_succ, if_neg (Int32.not_lt.mpr c_106)]; done) | (simp [lsub, hs, nI_succ, if_pos (Int32.not_le.mp c_106)]; done)) rfl rfl
          · refine g_iload (q := 57) dX7_sitWhere_55 rfl rfl ?_
            refine g_aload_n (q := 58) dX7_sitWhere_57 rfl rfl ?_
            refine f7_5 (q := 61) wd_853 dX7_sitWhere_58 rfl ?_
            refine g_iconst (q := 62) dX7_sitWhere_61 ci_0 rfl ?_
            refine g_ialdJ (q := 63) (k := 44) (j := 0) (N := 52) (by decide) (by decide) rfl rfl (by decide) (show (0 : Int32) = nI 0 from rfl) (by omega) dX7_sitWhere_62 rfl ?_
            refine g_icmp_ge (t := 123) (q := 66) dX7_sitWhere_63 (by decide) rfl (fun c_63 => ?_) (fun c_63 => ?_)
            · refine g_iload (q := 125) dX7_sitWhere_123 rfl rfl ?_
              refine g_if_ne (t := 133) (q := 128) dX7_sitWhere_125 (by decide) rfl (fun c_125 => ?_) (fun c_125 => ?_)
              · refine g_iload (q := 135) dX7_sitWhere_133 rfl rfl ?_
                exact g_iret dX7_sitWhere_135 (pi_i (by simp only [q_sitWhere, c_5, c_13, c_25, c_36, c_63, c_125, not_true_eq_false, not_false_eq_true, if_true, if_false, Bool.true_eq_false, Bool.false_eq_true, reduceIte, reduceCtorEq, show wi 0 0 1 = true from by decide]) (by simp only [q_sitWhere, c_5, c_13, c_25, c_36, c_63, c_125, not_true_eq_false, not_false_eq_true, if_true, if_false, Bool.true_eq_false, Bool.false_eq_true, reduceIte, reduceCtorEq, show wi 0 0 1 = true from by decide]) rfl)
              · refine g_iload (q := 130) dX7_sitWhere_128 rfl rfl ?_
                refine g_goto (t := 135) dX7_sitWhere_130 (by decide) ?_
                exact g_iret dX7_sitWhere_135 (pi_i (by simp only [q_sitWhere, c_5, c_13, c_25, c_36, c_63, c_125, not_true_eq_false, not_false_eq_true, if_true, if_false, Bool.true_eq_false, Bool.false_eq_true, reduceIte, reduceCtorEq, show wi 0 0 1 = true from by decide]) (by simp only [q_sitWhere, c_5, c_13, c_25, c_36, c_63, c_125, not_true_eq_false, not_false_eq_true, if_true, if_false, Bool.true_eq_false, Bool.false_eq_true, reduceIte, reduceCtorEq, show wi 0 0 1 = true from by decide]) rfl)
            · exact absurd (lp_out (by rw [asd_44]; exact e0)) c_63
        · rw [bI_0] at c_36
          rw [show inL u.toInt64 0 1 = wi u 0 1 from inL_i u 0 1] at c_36
          refine g_ldc (q := 41) dX7_sitWhere_39 wd_931 rfl ?_
          exact g_iret dX7_sitWhere_41 (pi_i (by simp only [q_sitWhere, c_5, c_13, c_25, c_36, not_true_eq_false, not_false_eq_true, if_true, if_false, Bool.true_eq_false, Bool.false_eq_true, reduceIte, reduceCtorEq]) (by simp only [q_sitWhere, c_5, c_13, c_25, c_36, not_true_eq_false, not_false_eq_true, if_true, if_false, Bool.true_eq_false, Bool.false_eq_true, reduceIte, reduceCtorEq]) rfl)
set_option maxRecDepth 20000 in
set_option maxHeartbeats 4000000 in
theorem c_X7_coldIn {E : EE} (hE : inj E 40 13) {σ : Sto} {τ : Stl} {r t : Int32} (w : WFM (σ 44)) (hr0 : vp_in r 6) : Ct E 40 13 yX7_coldIn cX7_coldIn 4 (some FieldType.int) { frames := 3, cells := 0, slots := 0, locals := 72 } [.ref (E.2.1 40), .int r, .int t] σ τ (Pi (ciM (σ 44) (r.toNatClampNeg) t 0 41) (upc σ 44 (σ 49)) (τ)) := by
  refine ct_of hE RX7 [some (.ref (E.2.1 40)), some (.int r), some (.int t), none] (by decide) rfl (Nat.le_of_ble_eq_true rfl) rfl (fun X => ?_)
  have er := vp_to hr0 (by decide)
  refine g_iconst (q := 1) dX7_coldIn_0 ci_0 rfl ?_
  refine g_istore_n (j := 3) (q := 2) dX7_coldIn_1 rfl (by decide) rfl rfl ?_
  have key : ∀ k i, i + k = 41 → ciM (q_hrs (σ 44) i) (r.toNatClampNeg) t i k = ciM (σ 44) (r.toNatClampNeg) t 0 41 → G E 40 13 { frames := 3, cells := 0, slots := 0, locals := 72 } X cX7_coldIn RX7 4 (some FieldType.int) (Pi (ciM (σ 44) (r.toNatClampNeg) t 0 41) (upc σ 44 (σ 49)) τ) 2 [some (.ref (E.2.1 40)), some (.int r), some (.int t), some (.int (nI i))] [] (upc σ 44 (q_hrs (σ 44) i)) τ := by
    intro k
    induction k with
    | zero =>
      intro i hi hr
      refine g_aload_n (q := 3) dX7_coldIn_2 rfl rfl ?_
      refine f7_5 (q := 6) wd_853 dX7_coldIn_3 rfl ?_
      refine g_bipush (q := 8) dX7_coldIn_6 cb_7 rfl ?_
      refine g_iload_n (q := 9) dX7_coldIn_8 rfl rfl ?_
      refine g_iadd (q := 10) dX7_coldIn_9 rfl ?_
      refine g_ialdJ (q := 11) (k := 44) (j := (7 + r.toNatClampNeg)) (N := 52) (by decide) (by decide) rfl rfl (by decide) (ad2 (show (7 : Int32) = nI 7 from rfl) er.1) (by omega) dX7_coldIn_10 rfl ?_
      refine g_iload_n (q := 12) dX7_coldIn_11 rfl rfl ?_
      refine g_icmp_ge (t := 31) (q := 15) dX7_coldIn_12 (by decide) rfl (fun c_12 => ?_) (fun c_12 => ?_)
      · refine g_aload_n (q := 32) dX7_coldIn_31 rfl rfl ?_
        refine g_callVv (q := 35) (c_X7_takeBack hE ) lk_RX7_192 (by decide) (by decide) rfl (by decide) rfl rfl rfl rfl rfl rfl (Nat.le_of_ble_eq_true rfl) (Nat.le_of_ble_eq_true rfl) (Nat.le_of_ble_eq_true rfl) dX7_coldIn_32 rfl ?_
        refine g_iload_n (q := 36) dX7_coldIn_35 rfl rfl ?_
        exact g_iret dX7_coldIn_36 (pi_i (by rw [← hr]; rfl) (by simp only [upc_upc]; rw [upc_ne (by decide)]) rfl)
      · refine g_iload_n (q := 16) dX7_coldIn_15 rfl rfl ?_
        refine g_bipush (q := 18) dX7_coldIn_16 cb_40 rfl ?_
        refine g_icmp_gt (t := 31) (q := 21) dX7_coldIn_18 (by decide) rfl (fun c_18 => ?_) (fun c_18 => ?_)
        · refine g_aload_n (q := 32) dX7_coldIn_31 rfl rfl ?_
          refine g_callVv (q := 35) (c_X7_takeBack hE ) lk_RX7_192 (by decide) (by decide) rfl (by decide) rfl rfl rfl rfl rfl rfl (Nat.le_of_ble_eq_true rfl) (Nat.le_of_ble_eq_true rfl) (Nat.le_of_ble_eq_true rfl) dX7_coldIn_32 rfl ?_
          refine g_iload_n (q := 36) dX7_coldIn_35 rfl rfl ?_
          exact g_iret dX7_coldIn_36 (pi_i (by rw [← hr]; rfl) (by simp only [upc_upc]; rw [upc_ne (by decide)]) rfl)
        · exact absurd (by rw [show i = 41 by omega]; decide) c_18
    | succ k ih =>
      intro i hi hr
      refine g_aload_n (q := 3) dX7_coldIn_2 rfl rfl ?_
      refine f7_5 (q := 6) wd_853 dX7_coldIn_3 rfl ?_
      refine g_bipush (q := 8) dX7_coldIn_6 cb_7 rfl ?_
      refine g_iload_n (q := 9) dX7_coldIn_8 rfl rfl ?_
      refine g_iadd (q := 10) dX7_coldIn_9 rfl ?_
      refine g_ialdJ (q := 11) (k := 44) (j := (7 + r.toNatClampNeg)) (N := 52) (by decide) (by decide) rfl rfl (by decide) (ad2 (show (7 : Int32) = nI 7 from rfl) er.1) (by omega) dX7_coldIn_10 rfl ?_
      refine g_iload_n (q := 12) dX7_coldIn_11 rfl rfl ?_
      refine g_icmp_ge (t := 31) (q := 15) dX7_coldIn_12 (by decide) rfl (fun c_12 => ?_) (fun c_12 => ?_)
      · rw [upc_same] at c_12
        refine g_aload_n (q := 32) dX7_coldIn_31 rfl rfl ?_
        refine g_callVv (q := 35) (c_X7_takeBack hE ) lk_RX7_192 (by decide) (by decide) rfl (by decide) rfl rfl rfl rfl rfl rfl (Nat.le_of_ble_eq_true rfl) (Nat.le_of_ble_eq_true rfl) (Nat.le_of_ble_eq_true rfl) dX7_coldIn_32 rfl ?_
        refine g_iload_n (q := 36) dX7_coldIn_35 rfl rfl ?_
        exact g_iret dX7_coldIn_36 (pi_i (by rw [← hr]; simp only [ciM, Int32.not_lt.mpr c_12, if_false]) (by simp only [upc_upc]; rw [upc_ne (by decide)]) rfl)
      · rw [upc_same] at c_12
        refine g_iload_n (q := 16) dX7_coldIn_15 rfl rfl ?_
        refine g_bipush (q := 18) dX7_coldIn_16 cb_40 rfl ?_
        refine g_icmp_gt (t := 31) (q := 21) dX7_coldIn_18 (by decide) rfl (fun c_18 => ?_) (fun c_18 => ?_)
        · exact absurd c_18 (lpg_in (show (40 : Int32) = nI 41 - 1 from rfl) (by decide) (by omega))
        · refine g_aload_n (q := 22) dX7_coldIn_21 rfl rfl ?_
          refine g_callVv (q := 25) (c_X7_oneHour hE (by rw [upc_same]; exact wfm_hrs w _)) lk_RX7_159 (by decide) (by decide) rfl (by decide) rfl rfl rfl rfl rfl rfl (Nat.le_of_ble_eq_true rfl) (Nat.le_of_ble_eq_true rfl) (Nat.le_of_ble_eq_true rfl) dX7_coldIn_22 rfl ?_
          refine g_sg (σ' := upc σ 44 (q_hrs (σ 44) (i + 1))) (by rw [upc_upc, upc_same]; rfl) ?_
          refine g_iinc (q := 28) dX7_coldIn_25 rfl ci_1 (by decide) rfl rfl ?_
          refine g_goto (t := 2) dX7_coldIn_28 (by decide) ?_
          exact g_eqw (ih (i + 1) (by omega) (by rw [← hr]; simp only [ciM]; rw [if_pos (Int32.not_le.mp c_12)]; rfl)) (by simp [lsub, nI_succ]) rfl rfl
  refine g_sg (σ' := upc σ 44 (q_hrs (σ 44) 0)) (upc_id _ _).symm ?_
  exact g_eqw (key 41 0 (by omega) rfl) (by simp [lsub, nI_0]) rfl rfl
set_option maxRecDepth 20000 in
set_option maxHeartbeats 4000000 in
theorem c_X7_led {E : EE} (hE : inj E 40 13) {σ : Sto} {τ : Stl} {r t u : Int32} (w : WFM (σ 44)) : Ct E 40 13 yX7_led cX7_led 8 (some FieldType.int) { frames := 4, cells := 0, slots := 0, locals := 95 } [.ref (E.2.1 40), .int r, .int t, .int u] σ τ (Pi ((q_led σ r t u).1) ((q_led σ r t u).2) (τ)) := by
  refine ct_of hE RX7 [some (.ref (E.2.1 40)), some (.int r), some (.int t), some (.int u), none, none, none, none] (by decide) rfl (Nat.le_of_ble_eq_true rfl) rfl (fun X => ?_)
  obtain ⟨⟨e0, b0⟩, ⟨e1, b1⟩, ⟨e4, b4⟩, ⟨e5, b5⟩⟩ := wfm_n w
  refine g_aload_n (q := 1) dX7_led_0 rfl rfl ?_
  refine f7_4 (q := 4) wd_852 dX7_led_1 rfl ?_
  refine g_if_ne (t := 10) (q := 7) dX7_led_4 (by decide) rfl (fun c_4 => ?_) (fun c_4 => ?_)
  · refine g_aload_n (q := 11) dX7_led_10 rfl rfl ?_
    refine g_iload_n (q := 12) dX7_led_11 rfl rfl ?_
    refine g_callVi (q := 15) (c_X7_isRoom hE ) lk_RX7_175 (by decide) (by decide) rfl (by decide) rfl rfl rfl rfl rfl rfl (Nat.le_of_ble_eq_true rfl) (Nat.le_of_ble_eq_true rfl) (Nat.le_of_ble_eq_true rfl) dX7_led_12 rfl ?_
    refine g_if_eq (t := 40) (q := 18) dX7_led_15 (by decide) rfl (fun c_15 => ?_) (fun c_15 => ?_)
    · rw [bI_0] at c_15
      refine g_ldc (q := 42) dX7_led_40 wd_931 rfl ?_
      exact g_iret dX7_led_42 (pi_i (by simp only [q_led, c_4, c_15, not_true_eq_false, not_false_eq_true, if_true, if_false, Bool.true_eq_false, Bool.false_eq_true, reduceIte, reduceCtorEq]) (by simp only [q_led, c_4, c_15, not_true_eq_false, not_false_eq_true, if_true, if_false, Bool.true_eq_false, Bool.false_eq_true, reduceIte, reduceCtorEq]) rfl)
    · rw [bI_n0] at c_15
      refine g_iload_n (q := 19) dX7_led_18 rfl rfl ?_
      refine g_i2l (q := 20) dX7_led_19 rfl ?_
      refine g_lconst (q := 21) dX7_led_20 cl_1 rfl ?_
      refine g_ldc2 (q := 24) dX7_led_21 wd_1119 rfl ?_
      refine g_callSi (q := 27) (c_X7_in hE ) lk_RX7_54 rfl rfl rfl rfl (Nat.le_of_ble_eq_true rfl) (Nat.le_of_ble_eq_true rfl) (Nat.le_of_ble_eq_true rfl) dX7_led_24 rfl ?_
      refine g_if_eq (t := 40) (q := 30) dX7_led_27 (by decide) rfl (fun c_27 => ?_) (fun c_27 => ?_)
      · rw [bI_0] at c_27
        rw [show inL t.toInt64 1 999 = wi t 1 999 from inL_i t 1 999] at c_27
        refine g_ldc (q := 42) dX7_led_40 wd_931 rfl ?_
        exact g_iret dX7_led_42 (pi_i (by simp only [q_led, c_4, c_15, c_27, not_true_eq_false, not_false_eq_true, if_true, if_false, Bool.true_eq_false, Bool.false_eq_true, reduceIte, reduceCtorEq]) (by simp only [q_led, c_4, c_15, c_27, not_true_eq_false, not_false_eq_true, if_true, if_false, Bool.true_eq_false, Bool.false_eq_true, reduceIte, reduceCtorEq]) rfl)
      · rw [bI_n0] at c_27
        rw [show inL t.toInt64 1 999 = wi t 1 999 from inL_i t 1 999] at c_27
        refine g_iload_n (q := 31) dX7_led_30 rfl rfl ?_
        refine g_i2l (q := 32) dX7_led_31 rfl ?_
        refine g_lconst (q := 33) dX7_led_32 cl_0 rfl ?_
        refine g_lconst (q := 34) dX7_led_33 cl_1 rfl ?_
        refine g_callSi (q := 37) (c_X7_in hE ) lk_RX7_54 rfl rfl rfl rfl (Nat.le_of_ble_eq_true rfl) (Nat.le_of_ble_eq_true rfl) (Nat.le_of_ble_eq_true rfl) dX7_led_34 rfl ?_
        refine g_if_ne (t := 43) (q := 40) dX7_led_37 (by decide) rfl (fun c_37 => ?_) (fun c_37 => ?_)
        · rw [bI_n0] at c_37
          rw [show inL u.toInt64 0 1 = wi u 0 1 from inL_i u 0 1] at c_37
          have er := roomM w c_15
          refine g_aload_n (q := 44) dX7_led_43 rfl rfl ?_
          refine g_callVv (q := 47) (c_X7_putAside hE ) lk_RX7_185 (by decide) (by decide) rfl (by decide) rfl rfl rfl rfl rfl rfl (Nat.le_of_ble_eq_true rfl) (Nat.le_of_ble_eq_true rfl) (Nat.le_of_ble_eq_true rfl) dX7_led_44 rfl ?_
          refine g_sg (σ' := asd σ) rfl ?_
          refine g_aload_n (q := 48) dX7_led_47 rfl rfl ?_
          refine g_iload_n (q := 49) dX7_led_48 rfl rfl ?_
          refine g_iload_n (q := 50) dX7_led_49 rfl rfl ?_
          refine g_callVi (q := 53) (c_X7_coldIn hE (by rw [asd_44]; exact w) (er.1 ▸ vp_in_nI er.2 (by decide))) lk_RX7_217 (by decide) (by decide) rfl (by decide) rfl rfl rfl rfl rfl rfl (Nat.le_of_ble_eq_true rfl) (Nat.le_of_ble_eq_true rfl) (Nat.le_of_ble_eq_true rfl) dX7_led_50 rfl ?_
          refine g_st (stk' := [.int (ciM (σ 44) (r.toNatClampNeg) t 0 41)]) (by rw [asd_44]) ?_
          refine g_sg (σ' := asd σ) (tkb (fun k hk => rfl)) ?_
          refine g_istore (q := 55) dX7_led_53 (by decide) rfl rfl ?_
          refine g_ldc (q := 57) dX7_led_55 wd_1110 rfl ?_
          refine g_istore (q := 59) dX7_led_57 (by decide) rfl rfl ?_
          refine g_iconst (q := 60) dX7_led_59 ci_0 rfl ?_
          refine g_istore (q := 62) dX7_led_60 (by decide) rfl rfl ?_
          have hmul : (σ 44 5).toNatClampNeg * (σ 44 0).toNatClampNeg ≤ 30 := Nat.mul_le_mul b5 b0
          refine g_for (I := fun k => [some (.ref (E.2.1 40)), some (.int r), some (.int t), some (.int u), some (.int (leM (leX σ r t) (ciM (σ 44) (r.toNatClampNeg) t 0 41) ((σ 44 0).toNatClampNeg) k).1), some (.int (leM (leX σ r t) (ciM (σ 44) (r.toNatClampNeg) t 0 41) ((σ 44 0).toNatClampNeg) k).2), some (.int (nI k)), none]) (S := fun k => asd σ) (T := fun k => τ) (0) ((σ 44 5).toNatClampNeg * (σ 44 0).toNatClampNeg) (Nat.zero_le _) (by rfl) (by rfl) (by rfl) (fun k k0 k1 kk_k => ?_) ?_
          · have hck : (nI k).toNatClampNeg = k := nI_clamp (by omega)
            have w0 : 0 < (σ 44 0).toNatClampNeg := Nat.pos_of_ne_zero (fun q => by rw [q, Nat.mul_zero] at k1; exact Nat.not_lt_zero _ k1)
            have dv : nI k / σ 44 0 = nI (k / (σ 44 0).toNatClampNeg) := by rw [e0, nI_clamp (by omega)]; exact pk_div (by omega) w0 (by omega)
            have rm : nI k - nI k / σ 44 0 * σ 44 0 = nI (k % (σ 44 0).toNatClampNeg) := by rw [e0, nI_clamp (by omega)]; exact pk_rem (by omega) w0 (by omega)
            have kd5 : k / (σ 44 0).toNatClampNeg < 5 := by have : k / (σ 44 0).toNatClampNeg < (σ 44 5).toNatClampNeg := (Nat.div_lt_iff_lt_mul w0).mpr k1; omega
            have km6 : k % (σ 44 0).toNatClampNeg < 6 := by have := Nat.mod_lt k w0; omega
            refine g_iload (q := 64) dX7_led_62 rfl rfl ?_
            refine g_aload_n (q := 65) dX7_led_64 rfl rfl ?_
            refine f7_5 (q := 68) wd_853 dX7_led_65 rfl ?_
            refine g_iconst (q := 69) dX7_led_68 ci_5 rfl ?_
            refine g_ialdJ (q := 70) (k := 44) (j := 5) (N := 52) (by decide) (by decide) rfl rfl (by decide) (show (5 : Int32) = nI 5 from rfl) (by omega) dX7_led_69 rfl ?_
            refine g_aload_n (q := 71) dX7_led_70 rfl rfl ?_
            refine f7_5 (q := 74) wd_853 dX7_led_71 rfl ?_
            refine g_iconst (q := 75) dX7_led_74 ci_0 rfl ?_
            refine g_ialdJ (q := 76) (k := 44) (j := 0) (N := 52) (by decide) (by decide) rfl rfl (by decide) (show (0 : Int32) = nI 0 from rfl) (by omega) dX7_led_75 rfl ?_
            refine g_imul (q := 77) dX7_led_76 rfl ?_
            refine g_icmp_ge (t := 155) (q := 80) dX7_led_77 (by decide) rfl (fun c_77 => ?_) (fun c_77 => ?_)
            · exact absurd c_77 (lp_in (by simp only [asd_44]; rw [← pk_mul, ← e5, ← e0]) (by omega) k1)
            · refine g_aload_n (q := 81) dX7_led_80 rfl rfl ?_
              refine f7_5 (q := 84) wd_853 dX7_led_81 rfl ?_
              refine g_bipush (q := 86) dX7_led_84 cb_42 rfl ?_
              refine g_iload (q := 88) dX7_led_86 rfl rfl ?_
              refine g_aload_n (q := 89) dX7_led_88 rfl rfl ?_
              refine f7_5 (q := 92) wd_853 dX7_led_89 rfl ?_
              refine g_iconst (q := 93) dX7_led_92 ci_0 rfl ?_
              refine g_ialdJ (q := 94) (k := 44) (j := 0) (N := 52) (by decide) (by decide) rfl rfl (by decide) (show (0 : Int32) = nI 0 from rfl) (by omega) dX7_led_93 rfl ?_
              refine g_idiv (q := 95) dX7_led_94 (by rw [asd_44, e0]; exact nI_ne0 w0 (by omega)) rfl ?_
              refine g_st (stk' := [.int (nI (k / (σ 44 0).toNatClampNeg)), .int 42, .ref (E.2.1 44)]) (by rw [asd_44, dv]) ?_
              refine g_iadd (q := 96) dX7_led_95 rfl ?_
              refine g_iload (q := 98) dX7_led_96 rfl rfl ?_
              refine g_aload_n (q := 99) dX7_led_98 rfl rfl ?_
              refine f7_5 (q := 102) wd_853 dX7_led_99 rfl ?_
              refine g_iconst (q := 103) dX7_led_102 ci_0 rfl ?_
              refine g_ialdJ (q := 104) (k := 44) (j := 0) (N := 52) (by decide) (by decide) rfl rfl (by decide) (show (0 : Int32) = nI 0 from rfl) (by omega) dX7_led_103 rfl ?_
              refine g_irem (q := 105) dX7_led_104 (by rw [asd_44, e0]; exact nI_ne0 w0 (by omega)) rfl ?_
              refine g_st (stk' := [.int (nI (k % (σ 44 0).toNatClampNeg)), .int (42 + nI (k / (σ 44 0).toNatClampNeg)), .ref (E.2.1 44)]) (by rw [asd_44, rm]) ?_
              refine g_iastJ (q := 106) (k := 44) (j := (42 + k / (σ 44 0).toNatClampNeg)) (N := 52) (by decide) (by decide) rfl rfl (by decide) (ad2 (show (42 : Int32) = nI 42 from rfl) rfl) (by omega) dX7_led_105 rfl ?_
              refine g_aload_n (q := 107) dX7_led_106 rfl rfl ?_
              refine g_iload_n (q := 108) dX7_led_107 rfl rfl ?_
              refine g_iload_n (q := 109) dX7_led_108 rfl rfl ?_
              refine g_callVi (q := 112) (c_X7_coldIn hE (by rw [upc_same, asd_44]; exact wfm_sit w kd5 (vp_in_nI km6 (by decide))) (er.1 ▸ vp_in_nI er.2 (by decide))) lk_RX7_217 (by decide) (by decide) rfl (by decide) rfl rfl rfl rfl rfl rfl (Nat.le_of_ble_eq_true rfl) (Nat.le_of_ble_eq_true rfl) (Nat.le_of_ble_eq_true rfl) dX7_led_109 rfl ?_
              refine g_st (stk' := [.int (leX σ r t k)]) (by rw [upc_same, asd_44]; rfl) ?_
              refine g_sg (σ' := asd σ) (tkb (fun k hk => by simp only [upc_ne hk])) ?_
              refine g_istore (q := 114) dX7_led_112 (by decide) rfl rfl ?_
              refine g_iload (q := 116) dX7_led_114 rfl rfl ?_
              refine g_iload (q := 118) dX7_led_116 rfl rfl ?_
              refine g_icmp_ge (t := 149) (q := 121) dX7_led_118 (by decide) rfl (fun c_118 => ?_) (fun c_118 => ?_)
              · refine g_iinc (q := 152) dX7_led_149 rfl ci_1 (by decide) rfl rfl ?_
                refine g_goto (t := 62) dX7_led_152 (by decide) ?_
                exact g_eqw kk_k (by first | (simp [lsub, leM, nI_succ, if_pos (Int32.not_le.mp c_118)]; done) | (simp [lsub, leM, nI_succ, if_neg (Int32.not_lt.mpr c_118)]; done)) rfl rfl
              · refine g_iload (q := 123) dX7_led_121 rfl rfl ?_
                refine g_istore (q := 125) dX7_led_123 (by decide) rfl rfl ?_
                refine g_bipush (q := 127) dX7_led_125 cb_10 rfl ?_
                refine g_iload (q := 129) dX7_led_127 rfl rfl ?_
                refine g_aload_n (q := 130) dX7_led_129 rfl rfl ?_
                refine f7_5 (q := 133) wd_853 dX7_led_130 rfl ?_
                refine g_iconst (q := 134) dX7_led_133 ci_0 rfl ?_
                refine g_ialdJ (q := 135) (k := 44) (j := 0) (N := 52) (by decide) (by decide) rfl rfl (by decide) (show (0 : Int32) = nI 0 from rfl) (by omega) dX7_led_134 rfl ?_
                refine g_idiv (q := 136) dX7_led_135 (by rw [asd_44, e0]; exact nI_ne0 w0 (by omega)) rfl ?_
                refine g_st (stk' := [.int (nI (k / (σ 44 0).toNatClampNeg)), .int 10]) (by rw [asd_44, dv]) ?_
                refine g_imul (q := 137) dX7_led_136 rfl ?_
                refine g_iload (q := 139) dX7_led_137 rfl rfl ?_
                refine g_aload_n (q := 140) dX7_led_139 rfl rfl ?_
                refine f7_5 (q := 143) wd_853 dX7_led_140 rfl ?_
                refine g_iconst (q := 144) dX7_led_143 ci_0 rfl ?_
                refine g_ialdJ (q := 145) (k := 44) (j := 0) (N := 52) (by decide) (by decide) rfl rfl (by decide) (show (0 : Int32) = nI 0 from rfl) (by omega) dX7_led_144 rfl ?_
                refine g_irem (q := 146) dX7_led_145 (by rw [asd_44, e0]; exact nI_ne0 w0 (by omega)) rfl ?_
                refine g_st (stk' := [.int (nI (k % (σ 44 0).toNatClampNeg)), .int (10 * nI (k / (σ 44 0).toNatClampNeg))]) (by rw [asd_44, rm]) ?_
                refine g_iadd (q := 147) dX7_led_146 rfl ?_
                refine g_istore (q := 149) dX7_led_147 (by decide) rfl rfl ?_
                refine g_iinc (q := 152) dX7_led_149 rfl ci_1 (by decide) rfl rfl ?_
                refine g_goto (t := 62) dX7_led_152 (by decide) ?_
                exact g_eqw kk_k (by first | (simp [lsub, leM, nI_succ, if_pos (Int32.not_le.mp c_118)]; done) | (simp [lsub, leM, nI_succ, if_neg (Int32.not_lt.mpr c_118)]; done)) rfl rfl
          · refine g_iload (q := 64) dX7_led_62 rfl rfl ?_
            refine g_aload_n (q := 65) dX7_led_64 rfl rfl ?_
            refine f7_5 (q := 68) wd_853 dX7_led_65 rfl ?_
            refine g_iconst (q := 69) dX7_led_68 ci_5 rfl ?_
            refine g_ialdJ (q := 70) (k := 44) (j := 5) (N := 52) (by decide) (by decide) rfl rfl (by decide) (show (5 : Int32) = nI 5 from rfl) (by omega) dX7_led_69 rfl ?_
            refine g_aload_n (q := 71) dX7_led_70 rfl rfl ?_
            refine f7_5 (q := 74) wd_853 dX7_led_71 rfl ?_
            refine g_iconst (q := 75) dX7_led_74 ci_0 rfl ?_
            refine g_ialdJ (q := 76) (k := 44) (j := 0) (N := 52) (by decide) (by decide) rfl rfl (by decide) (show (0 : Int32) = nI 0 from rfl) (by omega) dX7_led_75 rfl ?_
            refine g_imul (q := 77) dX7_led_76 rfl ?_
            refine g_icmp_ge (t := 155) (q := 80) dX7_led_77 (by decide) rfl (fun c_77 => ?_) (fun c_77 => ?_)
            · refine g_iload (q := 157) dX7_led_155 rfl rfl ?_
              refine g_bipush (q := 159) dX7_led_157 cb_40 rfl ?_
              refine g_icmp_le (t := 167) (q := 162) dX7_led_159 (by decide) rfl (fun c_159 => ?_) (fun c_159 => ?_)
              · refine g_iload_n (q := 168) dX7_led_167 rfl rfl ?_
                refine g_if_ne (t := 176) (q := 171) dX7_led_168 (by decide) rfl (fun c_168 => ?_) (fun c_168 => ?_)
                · refine g_iload (q := 178) dX7_led_176 rfl rfl ?_
                  exact g_iret dX7_led_178 (pi_i (by simp only [q_led, c_4, c_15, c_27, c_37, c_77, c_159, c_168, not_true_eq_false, not_false_eq_true, if_true, if_false, Bool.true_eq_false, Bool.false_eq_true, reduceIte, reduceCtorEq, show wi 0 0 1 = true from by decide]) (by simp only [q_led, c_4, c_15, c_27, c_37, c_77, c_159, c_168, not_true_eq_false, not_false_eq_true, if_true, if_false, Bool.true_eq_false, Bool.false_eq_true, reduceIte, reduceCtorEq, show wi 0 0 1 = true from by decide]) rfl)
                · refine g_iload (q := 173) dX7_led_171 rfl rfl ?_
                  refine g_goto (t := 178) dX7_led_173 (by decide) ?_
                  exact g_iret dX7_led_178 (pi_i (by simp only [q_led, c_4, c_15, c_27, c_37, c_77, c_159, c_168, not_true_eq_false, not_false_eq_true, if_true, if_false, Bool.true_eq_false, Bool.false_eq_true, reduceIte, reduceCtorEq, show wi 0 0 1 = true from by decide]) (by simp only [q_led, c_4, c_15, c_27, c_37, c_77, c_159, c_168, not_true_eq_false, not_false_eq_true, if_true, if_false, Bool.true_eq_false, Bool.false_eq_true, reduceIte, reduceCtorEq, show wi 0 0 1 = true from by decide]) rfl)
              · refine g_ldc (q := 164) dX7_led_162 wd_1110 rfl ?_
                refine g_goto (t := 178) dX7_led_164 (by decide) ?_
                exact g_iret dX7_led_178 (pi_i (by simp only [q_led, c_4, c_15, c_27, c_37, c_77, c_159, not_true_eq_false, not_false_eq_true, if_true, if_false, Bool.true_eq_false, Bool.false_eq_true, reduceIte, reduceCtorEq, show wi 0 0 1 = true from by decide]) (by simp only [q_led, c_4, c_15, c_27, c_37, c_77, c_159, not_true_eq_false, not_false_eq_true, if_true, if_false, Bool.true_eq_false, Bool.false_eq_true, reduceIte, reduceCtorEq, show wi 0 0 1 = true from by decide]) rfl)
            · exact absurd (lp_out (by simp only [asd_44]; rw [← pk_mul, ← e5, ← e0])) c_77
        · rw [bI_0] at c_37
          rw [show inL u.toInt64 0 1 = wi u 0 1 from inL_i u 0 1] at c_37
          refine g_ldc (q := 42) dX7_led_40 wd_931 rfl ?_
          exact g_iret dX7_led_42 (pi_i (by simp only [q_led, c_4, c_15, c_27, c_37, not_true_eq_false, not_false_eq_true, if_true, if_false, Bool.true_eq_false, Bool.false_eq_true, reduceIte, reduceCtorEq]) (by simp only [q_led, c_4, c_15, c_27, c_37, not_true_eq_false, not_false_eq_true, if_true, if_false, Bool.true_eq_false, Bool.false_eq_true, reduceIte, reduceCtorEq]) rfl)
  · refine g_ldc (q := 9) dX7_led_7 wd_1011 rfl ?_
    exact g_iret dX7_led_9 (pi_i (by simp only [q_led, c_4, not_true_eq_false, not_false_eq_true, if_true, if_false, Bool.true_eq_false, Bool.false_eq_true, reduceIte, reduceCtorEq]) (by simp only [q_led, c_4, not_true_eq_false, not_false_eq_true, if_true, if_false, Bool.true_eq_false, Bool.false_eq_true, reduceIte, reduceCtorEq]) rfl)
