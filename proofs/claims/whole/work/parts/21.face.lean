def wi (v a b : Int32) : Bool := decide (a ≤ v) && decide (v ≤ b)
def fnd (σ : Sto) (n : Int32) : Sto := upc σ 0 (upd (σ 0) 9 n)
def layS (σ : Sto) (r l m : Int32) : Sto := upc (upc (upc σ 3 (upd (σ 3) (r.toNatClampNeg) l)) 4 (upd (σ 4) (r.toNatClampNeg) m)) 2 (zf (σ 2) (40 * r.toNatClampNeg) (m.toNatClampNeg))
/-- the rows' lengths: none, or 0 to 40 -/
def SZ (σ : Sto) : Prop := ∀ r, r < 8 → σ 4 r = -1 ∨ vp_in (σ 4 r) 41
theorem rowB_in {r : Int32} (h : s_rowB r = true) : vp_in r 8 := by
  simp only [s_rowB, Bool.and_eq_true, decide_eq_true_eq] at h
  rw [vp_in_iff]
  have h1 := Int32.le_iff_toInt_le.mp h.1
  have h2 := Int32.lt_iff_toInt_lt.mp h.2
  exact ⟨h1, h2⟩
theorem lt_in {r n : Int32} {M : Nat} (hM : M < 2 ^ 31) (hn : vp_in n (M + 1)) (h : s_lt r n = true) : vp_in r M := by
  simp only [s_lt, Bool.and_eq_true, decide_eq_true_eq] at h
  rw [vp_in_iff] at hn ⊢
  have h1 := Int32.le_iff_toInt_le.mp h.1
  have h2 := Int32.lt_iff_toInt_lt.mp h.2
  have h3 : (0 : Int32).toInt = 0 := rfl
  rw [h3] at h1
  refine ⟨h1, ?_⟩
  have := hn.2
  omega
theorem room_in {σ : Sto} {h : Nat} (w : WFH σ h) {r : Int32} (q : s_lt r (σ h 0) = true) : vp_in r 6 := lt_in (by decide) w.1.1 q
theorem doorV_in {σ : Sto} {h : Nat} (w : WFH σ h) {r : Int32} (q : s_lt r (σ h 5) = true) : vp_in r 8 := lt_in (by decide) w.1.2.2.1 q
theorem sitter_in {σ : Sto} {h : Nat} (w : WFH σ h) {r : Int32} (q : s_lt r (σ h 7) = true) : vp_in r 5 := lt_in (by decide) w.1.2.2.2 q
theorem sitter_lt {σ : Sto} {h : Nat} (w : WFH σ h) {r : Int32} (q : s_lt r (σ h 7) = true) : r.toNatClampNeg < (σ h 7).toNatClampNeg := by
  have e := (wf_n w).2.2
  simp only [s_lt, Bool.and_eq_true, decide_eq_true_eq] at q
  obtain ⟨e1, h1⟩ := nn_to (Int32.not_lt.mpr q.1)
  have q2 := q.2
  rw [e1, e.1] at q2
  exact (nI_ltI h1 (by omega)).mp q2
theorem wi_nn {v a b : Int32} (h : wi v a b = true) (ha : 0 ≤ a) : ¬ v < 0 := by
  simp only [wi, Bool.and_eq_true, decide_eq_true_eq] at h
  exact Int32.not_lt.mpr (Int32.le_trans ha h.1)
theorem wi_in {v a b : Int32} {N : Nat} (h : wi v a b = true) (ha : 0 ≤ a) (hb : b.toInt < N) : vp_in v N := by
  simp only [wi, Bool.and_eq_true, decide_eq_true_eq] at h
  rw [vp_in_iff]
  have h1 := Int32.le_iff_toInt_le.mp (Int32.le_trans ha h.1)
  have h2 := Int32.le_iff_toInt_le.mp h.2
  exact ⟨h1, by omega⟩
theorem mid_in {n : Int32} (h1 : n ≤ 40) (h2 : 0 ≤ n) : vp_in n 41 := by
  rw [vp_in_iff]
  have a := Int32.le_iff_toInt_le.mp h1
  have b := Int32.le_iff_toInt_le.mp h2
  have : (40 : Int32).toInt = 40 := rfl
  exact ⟨b, by omega⟩
theorem hp_of {z i n : Int32} (hz : z = -1 ∨ vp_in z 41) (h : s_hasPlaces z i n = true) : vp_in i 41 ∧ vp_in n 41 ∧ i.toNatClampNeg + n.toNatClampNeg ≤ 40 ∧ z = nI (z.toNatClampNeg) ∧ i.toNatClampNeg + n.toNatClampNeg ≤ z.toNatClampNeg := by
  simp only [s_hasPlaces, Bool.and_eq_true, decide_eq_true_eq] at h
  obtain ⟨⟨⟨h1, h2⟩, h3⟩, h4⟩ := h
  have hz2 : vp_in z 41 := by
    rcases hz with rfl | hz
    · exact absurd (Int32.le_trans h1 h3) (by decide)
    · exact hz
  obtain ⟨ez, bz⟩ := vp_to hz2 (by decide)
  obtain ⟨ei, bi⟩ := nn_to (Int32.not_lt.mpr h1)
  obtain ⟨en, bn⟩ := nn_to (Int32.not_lt.mpr h2)
  generalize z.toNatClampNeg = Z at *
  generalize i.toNatClampNeg = a at *
  generalize n.toNatClampNeg = b at *
  subst ez; subst ei; subst en
  have k1 : a ≤ Z := (nI_leI (by omega) (by omega)).mp h3
  rw [pk_sub k1] at h4
  have k2 : b ≤ Z - a := (nI_leI (by omega) (by omega)).mp h4
  exact ⟨vp_in_nI (by omega) (by decide), vp_in_nI (by omega) (by decide), by omega, rfl, by omega⟩
theorem hp_1 {z i : Int32} (hz : z = -1 ∨ vp_in z 41) (h : s_hasPlaces z i 1 = true) : vp_in i 40 := by
  obtain ⟨h1, h2, h3, -⟩ := hp_of hz h
  obtain ⟨e, hl⟩ := vp_to h1 (by decide)
  have : (1 : Int32).toNatClampNeg = 1 := by decide
  rw [e]
  exact vp_in_nI (by omega) (by decide)

set_option maxRecDepth 20000 in
set_option maxHeartbeats 4000000 in
theorem c_X6_within {E : EE} (hE : inj E 0 40) {σ : Sto} {τ : Stl} {v a b : Int32}  : Ct E 0 40 yX6_within cX6_within 3 (some FieldType.boolean) { frames := 0, cells := 0, slots := 0, locals := 0 } [.int v, .int a, .int b] σ τ (Pi (bI (wi v a b)) (σ) (τ)) := by
  refine ct_of hE RX6 [some (.int v), some (.int a), some (.int b)] (by decide) rfl (Nat.le_of_ble_eq_true rfl) rfl (fun X => ?_)
  refine g_iload_n (q := 1) dX6_within_0 rfl rfl ?_
  refine g_iload_n (q := 2) dX6_within_1 rfl rfl ?_
  refine g_icmp_lt (t := 14) (q := 5) dX6_within_2 (by decide) rfl (fun c_2 => ?_) (fun c_2 => ?_)
  · refine g_iconst (q := 15) dX6_within_14 ci_0 rfl ?_
    exact g_zret dX6_within_15 (by first | decide | exact bI_nar _) (pi_i (by grind [wi, bI]) (by rfl) rfl)
  · refine g_iload_n (q := 6) dX6_within_5 rfl rfl ?_
    refine g_iload_n (q := 7) dX6_within_6 rfl rfl ?_
    refine g_icmp_gt (t := 14) (q := 10) dX6_within_7 (by decide) rfl (fun c_7 => ?_) (fun c_7 => ?_)
    · refine g_iconst (q := 15) dX6_within_14 ci_0 rfl ?_
      exact g_zret dX6_within_15 (by first | decide | exact bI_nar _) (pi_i (by grind [wi, bI]) (by rfl) rfl)
    · refine g_iconst (q := 11) dX6_within_10 ci_1 rfl ?_
      refine g_goto (t := 15) dX6_within_11 (by decide) ?_
      exact g_zret dX6_within_15 (by first | decide | exact bI_nar _) (pi_i (by grind [wi, bI]) (by rfl) rfl)
set_option maxRecDepth 20000 in
set_option maxHeartbeats 4000000 in
theorem c_X6_finding {E : EE} (hE : inj E 0 40) {σ : Sto} {τ : Stl} {n : Int32}  : Ct E 0 40 yX6_finding cX6_finding 2 (some FieldType.int) { frames := 0, cells := 0, slots := 0, locals := 0 } [.ref (E.2.1 0), .int n] σ τ (Pi (-1000010 - n) (fnd σ n) (τ)) := by
  refine ct_of hE RX6 [some (.ref (E.2.1 0)), some (.int n)] (by decide) rfl (Nat.le_of_ble_eq_true rfl) rfl (fun X => ?_)
  refine g_aload_n (q := 1) dX6_finding_0 rfl rfl ?_
  refine g_iload_n (q := 2) dX6_finding_1 rfl rfl ?_
  refine p6_9 (q := 5) wd_275 dX6_finding_2 rfl ?_
  refine g_ldcw (q := 8) dX6_finding_5 wd_312 rfl ?_
  refine g_iload_n (q := 9) dX6_finding_8 rfl rfl ?_
  refine g_isub (q := 10) dX6_finding_9 rfl ?_
  exact g_iret dX6_finding_10 (pi_i (by rfl) (by rfl) rfl)
set_option maxRecDepth 20000 in
set_option maxHeartbeats 4000000 in
theorem c_X6_noFinding {E : EE} (hE : inj E 0 40) {σ : Sto} {τ : Stl} {v : Int32}  : Ct E 0 40 yX6_noFinding cX6_noFinding 2 (some FieldType.int) { frames := 0, cells := 0, slots := 0, locals := 0 } [.ref (E.2.1 0), .int v] σ τ (Pi (v) (fnd σ 0) (τ)) := by
  refine ct_of hE RX6 [some (.ref (E.2.1 0)), some (.int v)] (by decide) rfl (Nat.le_of_ble_eq_true rfl) rfl (fun X => ?_)
  refine g_aload_n (q := 1) dX6_noFinding_0 rfl rfl ?_
  refine g_iconst (q := 2) dX6_noFinding_1 ci_0 rfl ?_
  refine p6_9 (q := 5) wd_275 dX6_noFinding_2 rfl ?_
  refine g_iload_n (q := 6) dX6_noFinding_5 rfl rfl ?_
  exact g_iret dX6_noFinding_6 (pi_i (by rfl) (by rfl) rfl)
set_option maxRecDepth 20000 in
set_option maxHeartbeats 4000000 in
theorem c_X6_imageOf_0 {E : EE} (hE : inj E 0 40) {σ : Sto} {τ : Stl}   : Ct E 0 40 yX6_imageOf cX6_imageOf 2 (some (FieldType.object "ColdGuest$House")) { frames := 0, cells := 0, slots := 0, locals := 0 } [.ref (E.2.1 0), .int 0] σ τ (Pr (E.2.1 26) (σ) (τ)) := by
  refine ct_of hE RX6 [some (.ref (E.2.1 0)), some (.int 0)] (by decide) rfl (Nat.le_of_ble_eq_true rfl) rfl (fun X => ?_)
  refine g_iload_n (q := 1) dX6_imageOf_0 rfl rfl ?_
  refine g_if_ne (t := 11) (q := 4) dX6_imageOf_1 (by decide) rfl (fun c_1 => ?_) (fun c_1 => ?_)
  · exact absurd rfl c_1
  · refine g_aload_n (q := 5) dX6_imageOf_4 rfl rfl ?_
    refine f6_6 (q := 8) wd_272 dX6_imageOf_5 rfl ?_
    refine g_goto (t := 15) dX6_imageOf_8 (by decide) ?_
    exact g_aret dX6_imageOf_15 (pr_i (by rfl) (by rfl) rfl)
set_option maxRecDepth 20000 in
set_option maxHeartbeats 4000000 in
theorem c_X6_imageOf_1 {E : EE} (hE : inj E 0 40) {σ : Sto} {τ : Stl}   : Ct E 0 40 yX6_imageOf cX6_imageOf 2 (some (FieldType.object "ColdGuest$House")) { frames := 0, cells := 0, slots := 0, locals := 0 } [.ref (E.2.1 0), .int 1] σ τ (Pr (E.2.1 33) (σ) (τ)) := by
  refine ct_of hE RX6 [some (.ref (E.2.1 0)), some (.int 1)] (by decide) rfl (Nat.le_of_ble_eq_true rfl) rfl (fun X => ?_)
  refine g_iload_n (q := 1) dX6_imageOf_0 rfl rfl ?_
  refine g_if_ne (t := 11) (q := 4) dX6_imageOf_1 (by decide) rfl (fun c_1 => ?_) (fun c_1 => ?_)
  · refine g_aload_n (q := 12) dX6_imageOf_11 rfl rfl ?_
    refine f6_7 (q := 15) wd_273 dX6_imageOf_12 rfl ?_
    exact g_aret dX6_imageOf_15 (pr_i (by rfl) (by rfl) rfl)
  · exact absurd c_1 (by decide)
def m_row (σ : Sto) (r l n : Int32) : Int32 × Sto := if s_rowB r = false then (-1000001, σ) else if wi l 0 2 = false then (-1000001, σ) else if n ≤ 40 then (if 0 ≤ n then (n, fnd (layS σ r l n) 0) else (-1000010 - 4, fnd σ 4)) else (-1000001, σ)
def m_set (σ : Sto) (r i v : Int32) : Int32 × Sto := if s_rowB r = false then (-1000001, σ) else if (σ 4 (r.toNatClampNeg) == -1) = true then (-1000010 - 1, fnd σ 1) else if s_hasPlaces (σ 4 (r.toNatClampNeg)) i 1 = false then (-1000010 - 2, fnd σ 2) else (s_low (σ 3 (r.toNatClampNeg)) v, fnd (upc σ 2 (upd (σ 2) (40 * r.toNatClampNeg + i.toNatClampNeg) (s_low (σ 3 (r.toNatClampNeg)) v))) 0)
def m_copy (σ : Sto) (a i b j n : Int32) : Int32 × Sto := if s_rowB a = false then (-1000001, σ) else if s_rowB b = false then (-1000001, σ) else if (σ 4 (a.toNatClampNeg) == -1) = true then (-1000010 - 1, fnd σ 1) else if (σ 4 (b.toNatClampNeg) == -1) = true then (-1000010 - 1, fnd σ 1) else if (σ 3 (a.toNatClampNeg) == σ 3 (b.toNatClampNeg)) = false then (-1000010 - 5, fnd σ 5) else if s_hasPlaces (σ 4 (a.toNatClampNeg)) i n = false then (-1000010 - 2, fnd σ 2) else if s_hasPlaces (σ 4 (b.toNatClampNeg)) j n = false then (-1000010 - 2, fnd σ 2) else (n, fnd (upc σ 2 (va_cpy (σ 2) (σ 2) (40 * a.toNatClampNeg + i.toNatClampNeg) (40 * b.toNatClampNeg + j.toNatClampNeg) (n.toNatClampNeg))) 0)
def m_drop (σ : Sto) (r : Int32) : Int32 × Sto := if s_rowB r = false then (-1000001, σ) else if (σ 4 (r.toNatClampNeg) == -1) = true then (-1000010 - 1, fnd σ 1) else (σ 4 (r.toNatClampNeg), fnd (upc σ 4 (upd (σ 4) (r.toNatClampNeg) (-1))) 0)
def m_feed (σ : Sto) (b : Int32) : Int32 × Sto := if wi b 0 255 = false then (-1000001, σ) else if decide (120 ≤ σ 5 2) = true then (-1000003, σ) else (σ 5 2 + 1, upc (upc σ 6 (upd (σ 6) ((σ 5 2).toNatClampNeg) b)) 5 (upd (σ 5) 2 (σ 5 2 + 1)))
def m_undo (σ : Sto) : Int32 × Sto := if σ 14 2 = 0 then (-1000002, σ) else (tb σ 14 2, tb σ)
set_option maxRecDepth 20000 in
set_option maxHeartbeats 4000000 in
theorem c_X6_row {E : EE} (hE : inj E 0 40) {σ : Sto} {τ : Stl} {r l n : Int32}  : Ct E 0 40 yX6_row cX6_row 4 (some FieldType.int) { frames := 1, cells := 0, slots := 0, locals := 24 } [.ref (E.2.1 0), .int r, .int l, .int n] σ τ (Pi ((m_row σ r l n).1) ((m_row σ r l n).2) (τ)) := by
  refine ct_of hE RX6 [some (.ref (E.2.1 0)), some (.int r), some (.int l), some (.int n)] (by decide) rfl (Nat.le_of_ble_eq_true rfl) rfl (fun X => ?_)
  refine g_iload_n (q := 1) dX6_row_0 rfl rfl ?_
  refine g_callSi (q := 4) (c_X3_isRow hE ) lk_RX6_57 rfl rfl rfl rfl (Nat.le_of_ble_eq_true rfl) (Nat.le_of_ble_eq_true rfl) (Nat.le_of_ble_eq_true rfl) dX6_row_1 rfl ?_
  refine g_if_eq (t := 22) (q := 7) dX6_row_4 (by decide) rfl (fun c_4 => ?_) (fun c_4 => ?_)
  · rw [bI_0] at c_4
    refine g_ldc (q := 24) dX6_row_22 wd_307 rfl ?_
    exact g_iret dX6_row_24 (pi_i (by simp only [m_row, c_4, not_true_eq_false, not_false_eq_true, if_true, if_false, Bool.true_eq_false, Bool.false_eq_true, reduceIte, reduceCtorEq]) (by simp only [m_row, c_4, not_true_eq_false, not_false_eq_true, if_true, if_false, Bool.true_eq_false, Bool.false_eq_true, reduceIte, reduceCtorEq]) rfl)
  · rw [bI_n0] at c_4
    refine g_iload_n (q := 8) dX6_row_7 rfl rfl ?_
    refine g_iconst (q := 9) dX6_row_8 ci_0 rfl ?_
    refine g_iconst (q := 10) dX6_row_9 ci_2 rfl ?_
    refine g_callSi (q := 13) (c_X6_within hE ) lk_RX6_61 rfl rfl rfl rfl (Nat.le_of_ble_eq_true rfl) (Nat.le_of_ble_eq_true rfl) (Nat.le_of_ble_eq_true rfl) dX6_row_10 rfl ?_
    refine g_if_eq (t := 22) (q := 16) dX6_row_13 (by decide) rfl (fun c_13 => ?_) (fun c_13 => ?_)
    · rw [bI_0] at c_13
      refine g_ldc (q := 24) dX6_row_22 wd_307 rfl ?_
      exact g_iret dX6_row_24 (pi_i (by simp only [m_row, c_4, c_13, not_true_eq_false, not_false_eq_true, if_true, if_false, Bool.true_eq_false, Bool.false_eq_true, reduceIte, reduceCtorEq]) (by simp only [m_row, c_4, c_13, not_true_eq_false, not_false_eq_true, if_true, if_false, Bool.true_eq_false, Bool.false_eq_true, reduceIte, reduceCtorEq]) rfl)
    · rw [bI_n0] at c_13
      refine g_iload_n (q := 17) dX6_row_16 rfl rfl ?_
      refine g_bipush (q := 19) dX6_row_17 cb_40 rfl ?_
      refine g_icmp_le (t := 25) (q := 22) dX6_row_19 (by decide) rfl (fun c_19 => ?_) (fun c_19 => ?_)
      · refine g_iload_n (q := 26) dX6_row_25 rfl rfl ?_
        refine g_if_ge (t := 35) (q := 29) dX6_row_26 (by decide) rfl (fun c_26 => ?_) (fun c_26 => ?_)
        · refine g_aload_n (q := 36) dX6_row_35 rfl rfl ?_
          refine f6_0 (q := 39) wd_266 dX6_row_36 rfl ?_
          refine g_iload_n (q := 40) dX6_row_39 rfl rfl ?_
          refine g_iload_n (q := 41) dX6_row_40 rfl rfl ?_
          refine g_iload_n (q := 42) dX6_row_41 rfl rfl ?_
          refine g_callVv (q := 45) (c_X3_lay hE (rowB_in c_4) (mid_in c_19 c_26)) lk_RX6_70 (by decide) (by decide) rfl (by decide) rfl rfl rfl rfl rfl rfl (Nat.le_of_ble_eq_true rfl) (Nat.le_of_ble_eq_true rfl) (Nat.le_of_ble_eq_true rfl) dX6_row_42 rfl ?_
          refine g_aload_n (q := 46) dX6_row_45 rfl rfl ?_
          refine g_iload_n (q := 47) dX6_row_46 rfl rfl ?_
          refine g_callVi (q := 50) (c_X6_noFinding hE ) lk_RX6_74 (by decide) (by decide) rfl (by decide) rfl rfl rfl rfl rfl rfl (Nat.le_of_ble_eq_true rfl) (Nat.le_of_ble_eq_true rfl) (Nat.le_of_ble_eq_true rfl) dX6_row_47 rfl ?_
          exact g_iret dX6_row_50 (pi_i (by simp only [m_row, c_4, c_13, c_19, c_26, not_true_eq_false, not_false_eq_true, if_true, if_false, Bool.true_eq_false, Bool.false_eq_true, reduceIte, reduceCtorEq]) (by simp only [m_row, layS, c_4, c_13, c_19, c_26, if_true, if_false, Bool.true_eq_false, reduceIte]) rfl)
        · refine g_aload_n (q := 30) dX6_row_29 rfl rfl ?_
          refine g_iconst (q := 31) dX6_row_30 ci_4 rfl ?_
          refine g_callVi (q := 34) (c_X6_finding hE ) lk_RX6_66 (by decide) (by decide) rfl (by decide) rfl rfl rfl rfl rfl rfl (Nat.le_of_ble_eq_true rfl) (Nat.le_of_ble_eq_true rfl) (Nat.le_of_ble_eq_true rfl) dX6_row_31 rfl ?_
          exact g_iret dX6_row_34 (pi_i (by simp only [m_row, c_4, c_13, c_19, c_26, not_true_eq_false, not_false_eq_true, if_true, if_false, Bool.true_eq_false, Bool.false_eq_true, reduceIte, reduceCtorEq]) (by simp only [m_row, c_4, c_13, c_19, c_26, not_true_eq_false, not_false_eq_true, if_true, if_false, Bool.true_eq_false, Bool.false_eq_true, reduceIte, reduceCtorEq]) rfl)
      · refine g_ldc (q := 24) dX6_row_22 wd_307 rfl ?_
        exact g_iret dX6_row_24 (pi_i (by simp only [m_row, c_4, c_13, c_19, not_true_eq_false, not_false_eq_true, if_true, if_false, Bool.true_eq_false, Bool.false_eq_true, reduceIte, reduceCtorEq]) (by simp only [m_row, c_4, c_13, c_19, not_true_eq_false, not_false_eq_true, if_true, if_false, Bool.true_eq_false, Bool.false_eq_true, reduceIte, reduceCtorEq]) rfl)
set_option maxRecDepth 20000 in
set_option maxHeartbeats 4000000 in
theorem c_X6_set {E : EE} (hE : inj E 0 40) {σ : Sto} {τ : Stl} {r i v : Int32} (sz : SZ σ) : Ct E 0 40 yX6_set cX6_set 4 (some FieldType.int) { frames := 2, cells := 0, slots := 0, locals := 45 } [.ref (E.2.1 0), .int r, .int i, .int v] σ τ (Pi ((m_set σ r i v).1) ((m_set σ r i v).2) (τ)) := by
  refine ct_of hE RX6 [some (.ref (E.2.1 0)), some (.int r), some (.int i), some (.int v)] (by decide) rfl (Nat.le_of_ble_eq_true rfl) rfl (fun X => ?_)
  refine g_iload_n (q := 1) dX6_set_0 rfl rfl ?_
  refine g_callSi (q := 4) (c_X3_isRow hE ) lk_RX6_57 rfl rfl rfl rfl (Nat.le_of_ble_eq_true rfl) (Nat.le_of_ble_eq_true rfl) (Nat.le_of_ble_eq_true rfl) dX6_set_1 rfl ?_
  refine g_if_ne (t := 10) (q := 7) dX6_set_4 (by decide) rfl (fun c_4 => ?_) (fun c_4 => ?_)
  · rw [bI_n0] at c_4
    refine g_aload_n (q := 11) dX6_set_10 rfl rfl ?_
    refine f6_0 (q := 14) wd_266 dX6_set_11 rfl ?_
    refine g_iload_n (q := 15) dX6_set_14 rfl rfl ?_
    refine g_callVi (q := 18) (c_X3_isMissing hE (rowB_in c_4)) lk_RX6_77 (by decide) (by decide) rfl (by decide) rfl rfl rfl rfl rfl rfl (Nat.le_of_ble_eq_true rfl) (Nat.le_of_ble_eq_true rfl) (Nat.le_of_ble_eq_true rfl) dX6_set_15 rfl ?_
    refine g_if_eq (t := 27) (q := 21) dX6_set_18 (by decide) rfl (fun c_18 => ?_) (fun c_18 => ?_)
    · rw [bI_0] at c_18
      refine g_aload_n (q := 28) dX6_set_27 rfl rfl ?_
      refine f6_0 (q := 31) wd_266 dX6_set_28 rfl ?_
      refine g_iload_n (q := 32) dX6_set_31 rfl rfl ?_
      refine g_iload_n (q := 33) dX6_set_32 rfl rfl ?_
      refine g_iconst (q := 34) dX6_set_33 ci_1 rfl ?_
      refine g_callVi (q := 37) (c_X3_hasPlaces hE (rowB_in c_4)) lk_RX6_80 (by decide) (by decide) rfl (by decide) rfl rfl rfl rfl rfl rfl (Nat.le_of_ble_eq_true rfl) (Nat.le_of_ble_eq_true rfl) (Nat.le_of_ble_eq_true rfl) dX6_set_34 rfl ?_
      refine g_if_ne (t := 46) (q := 40) dX6_set_37 (by decide) rfl (fun c_37 => ?_) (fun c_37 => ?_)
      · rw [bI_n0] at c_37
        refine g_aload_n (q := 47) dX6_set_46 rfl rfl ?_
        refine g_aload_n (q := 48) dX6_set_47 rfl rfl ?_
        refine f6_0 (q := 51) wd_266 dX6_set_48 rfl ?_
        refine g_iload_n (q := 52) dX6_set_51 rfl rfl ?_
        refine g_iload_n (q := 53) dX6_set_52 rfl rfl ?_
        refine g_iload_n (q := 54) dX6_set_53 rfl rfl ?_
        refine g_callVi (q := 57) (c_X3_put hE (rowB_in c_4) (hp_1 (sz _ (vp_to (rowB_in c_4) (by decide)).2) c_37)) lk_RX6_83 (by decide) (by decide) rfl (by decide) rfl rfl rfl rfl rfl rfl (Nat.le_of_ble_eq_true rfl) (Nat.le_of_ble_eq_true rfl) (Nat.le_of_ble_eq_true rfl) dX6_set_54 rfl ?_
        refine g_callVi (q := 60) (c_X6_noFinding hE ) lk_RX6_74 (by decide) (by decide) rfl (by decide) rfl rfl rfl rfl rfl rfl (Nat.le_of_ble_eq_true rfl) (Nat.le_of_ble_eq_true rfl) (Nat.le_of_ble_eq_true rfl) dX6_set_57 rfl ?_
        exact g_iret dX6_set_60 (pi_i (by simp only [m_set, c_4, c_18, c_37, not_true_eq_false, not_false_eq_true, if_true, if_false, Bool.true_eq_false, Bool.false_eq_true, reduceIte, reduceCtorEq]) (by simp only [m_set, c_4, c_18, c_37, not_true_eq_false, not_false_eq_true, if_true, if_false, Bool.true_eq_false, Bool.false_eq_true, reduceIte, reduceCtorEq]) rfl)
      · rw [bI_0] at c_37
        refine g_aload_n (q := 41) dX6_set_40 rfl rfl ?_
        refine g_iconst (q := 42) dX6_set_41 ci_2 rfl ?_
        refine g_callVi (q := 45) (c_X6_finding hE ) lk_RX6_66 (by decide) (by decide) rfl (by decide) rfl rfl rfl rfl rfl rfl (Nat.le_of_ble_eq_true rfl) (Nat.le_of_ble_eq_true rfl) (Nat.le_of_ble_eq_true rfl) dX6_set_42 rfl ?_
        exact g_iret dX6_set_45 (pi_i (by simp only [m_set, c_4, c_18, c_37, not_true_eq_false, not_false_eq_true, if_true, if_false, Bool.true_eq_false, Bool.false_eq_true, reduceIte, reduceCtorEq]) (by simp only [m_set, c_4, c_18, c_37, not_true_eq_false, not_false_eq_true, if_true, if_false, Bool.true_eq_false, Bool.false_eq_true, reduceIte, reduceCtorEq]) rfl)
    · rw [bI_n0] at c_18
      refine g_aload_n (q := 22) dX6_set_21 rfl rfl ?_
      refine g_iconst (q := 23) dX6_set_22 ci_1 rfl ?_
      refine g_callVi (q := 26) (c_X6_finding hE ) lk_RX6_66 (by decide) (by decide) rfl (by decide) rfl rfl rfl rfl rfl rfl (Nat.le_of_ble_eq_true rfl) (Nat.le_of_ble_eq_true rfl) (Nat.le_of_ble_eq_true rfl) dX6_set_23 rfl ?_
      exact g_iret dX6_set_26 (pi_i (by simp only [m_set, c_4, c_18, not_true_eq_false, not_false_eq_true, if_true, if_false, Bool.true_eq_false, Bool.false_eq_true, reduceIte, reduceCtorEq]) (by simp only [m_set, c_4, c_18, not_true_eq_false, not_false_eq_true, if_true, if_false, Bool.true_eq_false, Bool.false_eq_true, reduceIte, reduceCtorEq]) rfl)
  · rw [bI_0] at c_4
    refine g_ldc (q := 9) dX6_set_7 wd_307 rfl ?_
    exact g_iret dX6_set_9 (pi_i (by simp only [m_set, c_4, not_true_eq_false, not_false_eq_true, if_true, if_false, Bool.true_eq_false, Bool.false_eq_true, reduceIte, reduceCtorEq]) (by simp only [m_set, c_4, not_true_eq_false, not_false_eq_true, if_true, if_false, Bool.true_eq_false, Bool.false_eq_true, reduceIte, reduceCtorEq]) rfl)
set_option maxRecDepth 20000 in
set_option maxHeartbeats 4000000 in
theorem c_X6_copy {E : EE} (hE : inj E 0 40) {σ : Sto} {τ : Stl} {a i b j n : Int32} (sz : SZ σ) : Ct E 0 40 yX6_copy cX6_copy 6 (some FieldType.int) { frames := 2, cells := 0, slots := 0, locals := 51 } [.ref (E.2.1 0), .int a, .int i, .int b, .int j, .int n] σ τ (Pi ((m_copy σ a i b j n).1) ((m_copy σ a i b j n).2) (τ)) := by
  refine ct_of hE RX6 [some (.ref (E.2.1 0)), some (.int a), some (.int i), some (.int b), some (.int j), some (.int n)] (by decide) rfl (Nat.le_of_ble_eq_true rfl) rfl (fun X => ?_)
  refine g_iload_n (q := 1) dX6_copy_0 rfl rfl ?_
  refine g_callSi (q := 4) (c_X3_isRow hE ) lk_RX6_57 rfl rfl rfl rfl (Nat.le_of_ble_eq_true rfl) (Nat.le_of_ble_eq_true rfl) (Nat.le_of_ble_eq_true rfl) dX6_copy_1 rfl ?_
  refine g_if_eq (t := 14) (q := 7) dX6_copy_4 (by decide) rfl (fun c_4 => ?_) (fun c_4 => ?_)
  · rw [bI_0] at c_4
    refine g_ldc (q := 16) dX6_copy_14 wd_307 rfl ?_
    exact g_iret dX6_copy_16 (pi_i (by simp only [m_copy, c_4, not_true_eq_false, not_false_eq_true, if_true, if_false, Bool.true_eq_false, Bool.false_eq_true, reduceIte, reduceCtorEq]) (by simp only [m_copy, c_4, not_true_eq_false, not_false_eq_true, if_true, if_false, Bool.true_eq_false, Bool.false_eq_true, reduceIte, reduceCtorEq]) rfl)
  · rw [bI_n0] at c_4
    refine g_iload_n (q := 8) dX6_copy_7 rfl rfl ?_
    refine g_callSi (q := 11) (c_X3_isRow hE ) lk_RX6_57 rfl rfl rfl rfl (Nat.le_of_ble_eq_true rfl) (Nat.le_of_ble_eq_true rfl) (Nat.le_of_ble_eq_true rfl) dX6_copy_8 rfl ?_
    refine g_if_ne (t := 17) (q := 14) dX6_copy_11 (by decide) rfl (fun c_11 => ?_) (fun c_11 => ?_)
    · rw [bI_n0] at c_11
      refine g_aload_n (q := 18) dX6_copy_17 rfl rfl ?_
      refine f6_0 (q := 21) wd_266 dX6_copy_18 rfl ?_
      refine g_iload_n (q := 22) dX6_copy_21 rfl rfl ?_
      refine g_callVi (q := 25) (c_X3_isMissing hE (rowB_in c_4)) lk_RX6_77 (by decide) (by decide) rfl (by decide) rfl rfl rfl rfl rfl rfl (Nat.le_of_ble_eq_true rfl) (Nat.le_of_ble_eq_true rfl) (Nat.le_of_ble_eq_true rfl) dX6_copy_22 rfl ?_
      refine g_if_ne (t := 39) (q := 28) dX6_copy_25 (by decide) rfl (fun c_25 => ?_) (fun c_25 => ?_)
      · rw [bI_n0] at c_25
        refine g_aload_n (q := 40) dX6_copy_39 rfl rfl ?_
        refine g_iconst (q := 41) dX6_copy_40 ci_1 rfl ?_
        refine g_callVi (q := 44) (c_X6_finding hE ) lk_RX6_66 (by decide) (by decide) rfl (by decide) rfl rfl rfl rfl rfl rfl (Nat.le_of_ble_eq_true rfl) (Nat.le_of_ble_eq_true rfl) (Nat.le_of_ble_eq_true rfl) dX6_copy_41 rfl ?_
        exact g_iret dX6_copy_44 (pi_i (by simp only [m_copy, c_4, c_11, c_25, not_true_eq_false, not_false_eq_true, if_true, if_false, Bool.true_eq_false, Bool.false_eq_true, reduceIte, reduceCtorEq]) (by simp only [m_copy, c_4, c_11, c_25, not_true_eq_false, not_false_eq_true, if_true, if_false, Bool.true_eq_false, Bool.false_eq_true, reduceIte, reduceCtorEq]) rfl)
      · rw [bI_0] at c_25
        refine g_aload_n (q := 29) dX6_copy_28 rfl rfl ?_
        refine f6_0 (q := 32) wd_266 dX6_copy_29 rfl ?_
        refine g_iload_n (q := 33) dX6_copy_32 rfl rfl ?_
        refine g_callVi (q := 36) (c_X3_isMissing hE (rowB_in c_11)) lk_RX6_77 (by decide) (by decide) rfl (by decide) rfl rfl rfl rfl rfl rfl (Nat.le_of_ble_eq_true rfl) (Nat.le_of_ble_eq_true rfl) (Nat.le_of_ble_eq_true rfl) dX6_copy_33 rfl ?_
        refine g_if_eq (t := 45) (q := 39) dX6_copy_36 (by decide) rfl (fun c_36 => ?_) (fun c_36 => ?_)
        · rw [bI_0] at c_36
          refine g_aload_n (q := 46) dX6_copy_45 rfl rfl ?_
          refine f6_0 (q := 49) wd_266 dX6_copy_46 rfl ?_
          refine g_iload_n (q := 50) dX6_copy_49 rfl rfl ?_
          refine g_iload_n (q := 51) dX6_copy_50 rfl rfl ?_
          refine g_callVi (q := 54) (c_X3_sameLane hE (rowB_in c_4) (rowB_in c_11)) lk_RX6_87 (by decide) (by decide) rfl (by decide) rfl rfl rfl rfl rfl rfl (Nat.le_of_ble_eq_true rfl) (Nat.le_of_ble_eq_true rfl) (Nat.le_of_ble_eq_true rfl) dX6_copy_51 rfl ?_
          refine g_if_ne (t := 63) (q := 57) dX6_copy_54 (by decide) rfl (fun c_54 => ?_) (fun c_54 => ?_)
          · rw [bI_n0] at c_54
            refine g_aload_n (q := 64) dX6_copy_63 rfl rfl ?_
            refine f6_0 (q := 67) wd_266 dX6_copy_64 rfl ?_
            refine g_iload_n (q := 68) dX6_copy_67 rfl rfl ?_
            refine g_iload_n (q := 69) dX6_copy_68 rfl rfl ?_
            refine g_iload (q := 71) dX6_copy_69 rfl rfl ?_
            refine g_callVi (q := 74) (c_X3_hasPlaces hE (rowB_in c_4)) lk_RX6_80 (by decide) (by decide) rfl (by decide) rfl rfl rfl rfl rfl rfl (Nat.le_of_ble_eq_true rfl) (Nat.le_of_ble_eq_true rfl) (Nat.le_of_ble_eq_true rfl) dX6_copy_71 rfl ?_
            refine g_if_eq (t := 92) (q := 77) dX6_copy_74 (by decide) rfl (fun c_74 => ?_) (fun c_74 => ?_)
            · rw [bI_0] at c_74
              refine g_aload_n (q := 93) dX6_copy_92 rfl rfl ?_
              refine g_iconst (q := 94) dX6_copy_93 ci_2 rfl ?_
              refine g_callVi (q := 97) (c_X6_finding hE ) lk_RX6_66 (by decide) (by decide) rfl (by decide) rfl rfl rfl rfl rfl rfl (Nat.le_of_ble_eq_true rfl) (Nat.le_of_ble_eq_true rfl) (Nat.le_of_ble_eq_true rfl) dX6_copy_94 rfl ?_
              exact g_iret dX6_copy_97 (pi_i (by simp only [m_copy, c_4, c_11, c_25, c_36, c_54, c_74, not_true_eq_false, not_false_eq_true, if_true, if_false, Bool.true_eq_false, Bool.false_eq_true, reduceIte, reduceCtorEq]) (by simp only [m_copy, c_4, c_11, c_25, c_36, c_54, c_74, not_true_eq_false, not_false_eq_true, if_true, if_false, Bool.true_eq_false, Bool.false_eq_true, reduceIte, reduceCtorEq]) rfl)
            · rw [bI_n0] at c_74
              refine g_aload_n (q := 78) dX6_copy_77 rfl rfl ?_
              refine f6_0 (q := 81) wd_266 dX6_copy_78 rfl ?_
              refine g_iload_n (q := 82) dX6_copy_81 rfl rfl ?_
              refine g_iload (q := 84) dX6_copy_82 rfl rfl ?_
              refine g_iload (q := 86) dX6_copy_84 rfl rfl ?_
              refine g_callVi (q := 89) (c_X3_hasPlaces hE (rowB_in c_11)) lk_RX6_80 (by decide) (by decide) rfl (by decide) rfl rfl rfl rfl rfl rfl (Nat.le_of_ble_eq_true rfl) (Nat.le_of_ble_eq_true rfl) (Nat.le_of_ble_eq_true rfl) dX6_copy_86 rfl ?_
              refine g_if_ne (t := 98) (q := 92) dX6_copy_89 (by decide) rfl (fun c_89 => ?_) (fun c_89 => ?_)
              · rw [bI_n0] at c_89
                refine g_aload_n (q := 99) dX6_copy_98 rfl rfl ?_
                refine f6_0 (q := 102) wd_266 dX6_copy_99 rfl ?_
                refine g_iload_n (q := 103) dX6_copy_102 rfl rfl ?_
                refine g_iload_n (q := 104) dX6_copy_103 rfl rfl ?_
                refine g_iload_n (q := 105) dX6_copy_104 rfl rfl ?_
                refine g_iload (q := 107) dX6_copy_105 rfl rfl ?_
                refine g_iload (q := 109) dX6_copy_107 rfl rfl ?_
                have q1 := hp_of (sz _ (vp_to (rowB_in c_4) (by decide)).2) c_74
                have q2 := hp_of (sz _ (vp_to (rowB_in c_11) (by decide)).2) c_89
                refine g_callVv (q := 112) (c_X3_carry hE (rowB_in c_4) (rowB_in c_11) q1.1 q2.1 q1.2.1 q1.2.2.1 q2.2.2.1) lk_RX6_91 (by decide) (by decide) rfl (by decide) rfl rfl rfl rfl rfl rfl (Nat.le_of_ble_eq_true rfl) (Nat.le_of_ble_eq_true rfl) (Nat.le_of_ble_eq_true rfl) dX6_copy_109 rfl ?_
                refine g_aload_n (q := 113) dX6_copy_112 rfl rfl ?_
                refine g_iload (q := 115) dX6_copy_113 rfl rfl ?_
                refine g_callVi (q := 118) (c_X6_noFinding hE ) lk_RX6_74 (by decide) (by decide) rfl (by decide) rfl rfl rfl rfl rfl rfl (Nat.le_of_ble_eq_true rfl) (Nat.le_of_ble_eq_true rfl) (Nat.le_of_ble_eq_true rfl) dX6_copy_115 rfl ?_
                exact g_iret dX6_copy_118 (pi_i (by simp only [m_copy, c_4, c_11, c_25, c_36, c_54, c_74, c_89, not_true_eq_false, not_false_eq_true, if_true, if_false, Bool.true_eq_false, Bool.false_eq_true, reduceIte, reduceCtorEq]) (by simp only [m_copy, c_4, c_11, c_25, c_36, c_54, c_74, c_89, not_true_eq_false, not_false_eq_true, if_true, if_false, Bool.true_eq_false, Bool.false_eq_true, reduceIte, reduceCtorEq]) rfl)
              · rw [bI_0] at c_89
                refine g_aload_n (q := 93) dX6_copy_92 rfl rfl ?_
                refine g_iconst (q := 94) dX6_copy_93 ci_2 rfl ?_
                refine g_callVi (q := 97) (c_X6_finding hE ) lk_RX6_66 (by decide) (by decide) rfl (by decide) rfl rfl rfl rfl rfl rfl (Nat.le_of_ble_eq_true rfl) (Nat.le_of_ble_eq_true rfl) (Nat.le_of_ble_eq_true rfl) dX6_copy_94 rfl ?_
                exact g_iret dX6_copy_97 (pi_i (by simp only [m_copy, c_4, c_11, c_25, c_36, c_54, c_74, c_89, not_true_eq_false, not_false_eq_true, if_true, if_false, Bool.true_eq_false, Bool.false_eq_true, reduceIte, reduceCtorEq]) (by simp only [m_copy, c_4, c_11, c_25, c_36, c_54, c_74, c_89, not_true_eq_false, not_false_eq_true, if_true, if_false, Bool.true_eq_false, Bool.false_eq_true, reduceIte, reduceCtorEq]) rfl)
          · rw [bI_0] at c_54
            refine g_aload_n (q := 58) dX6_copy_57 rfl rfl ?_
            refine g_iconst (q := 59) dX6_copy_58 ci_5 rfl ?_
            refine g_callVi (q := 62) (c_X6_finding hE ) lk_RX6_66 (by decide) (by decide) rfl (by decide) rfl rfl rfl rfl rfl rfl (Nat.le_of_ble_eq_true rfl) (Nat.le_of_ble_eq_true rfl) (Nat.le_of_ble_eq_true rfl) dX6_copy_59 rfl ?_
            exact g_iret dX6_copy_62 (pi_i (by simp only [m_copy, c_4, c_11, c_25, c_36, c_54, not_true_eq_false, not_false_eq_true, if_true, if_false, Bool.true_eq_false, Bool.false_eq_true, reduceIte, reduceCtorEq]) (by simp only [m_copy, c_4, c_11, c_25, c_36, c_54, not_true_eq_false, not_false_eq_true, if_true, if_false, Bool.true_eq_false, Bool.false_eq_true, reduceIte, reduceCtorEq]) rfl)
        · rw [bI_n0] at c_36
          refine g_aload_n (q := 40) dX6_copy_39 rfl rfl ?_
          refine g_iconst (q := 41) dX6_copy_40 ci_1 rfl ?_
          refine g_callVi (q := 44) (c_X6_finding hE ) lk_RX6_66 (by decide) (by decide) rfl (by decide) rfl rfl rfl rfl rfl rfl (Nat.le_of_ble_eq_true rfl) (Nat.le_of_ble_eq_true rfl) (Nat.le_of_ble_eq_true rfl) dX6_copy_41 rfl ?_
          exact g_iret dX6_copy_44 (pi_i (by simp only [m_copy, c_4, c_11, c_25, c_36, not_true_eq_false, not_false_eq_true, if_true, if_false, Bool.true_eq_false, Bool.false_eq_true, reduceIte, reduceCtorEq]) (by simp only [m_copy, c_4, c_11, c_25, c_36, not_true_eq_false, not_false_eq_true, if_true, if_false, Bool.true_eq_false, Bool.false_eq_true, reduceIte, reduceCtorEq]) rfl)
    · rw [bI_0] at c_11
      refine g_ldc (q := 16) dX6_copy_14 wd_307 rfl ?_
      exact g_iret dX6_copy_16 (pi_i (by simp only [m_copy, c_4, c_11, not_true_eq_false, not_false_eq_true, if_true, if_false, Bool.true_eq_false, Bool.false_eq_true, reduceIte, reduceCtorEq]) (by simp only [m_copy, c_4, c_11, not_true_eq_false, not_false_eq_true, if_true, if_false, Bool.true_eq_false, Bool.false_eq_true, reduceIte, reduceCtorEq]) rfl)
set_option maxRecDepth 20000 in
set_option maxHeartbeats 4000000 in
theorem c_X6_drop {E : EE} (hE : inj E 0 40) {σ : Sto} {τ : Stl} {r : Int32}  : Ct E 0 40 yX6_drop cX6_drop 2 (some FieldType.int) { frames := 1, cells := 0, slots := 0, locals := 22 } [.ref (E.2.1 0), .int r] σ τ (Pi ((m_drop σ r).1) ((m_drop σ r).2) (τ)) := by
  refine ct_of hE RX6 [some (.ref (E.2.1 0)), some (.int r)] (by decide) rfl (Nat.le_of_ble_eq_true rfl) rfl (fun X => ?_)
  refine g_iload_n (q := 1) dX6_drop_0 rfl rfl ?_
  refine g_callSi (q := 4) (c_X3_isRow hE ) lk_RX6_57 rfl rfl rfl rfl (Nat.le_of_ble_eq_true rfl) (Nat.le_of_ble_eq_true rfl) (Nat.le_of_ble_eq_true rfl) dX6_drop_1 rfl ?_
  refine g_if_ne (t := 10) (q := 7) dX6_drop_4 (by decide) rfl (fun c_4 => ?_) (fun c_4 => ?_)
  · rw [bI_n0] at c_4
    refine g_aload_n (q := 11) dX6_drop_10 rfl rfl ?_
    refine f6_0 (q := 14) wd_266 dX6_drop_11 rfl ?_
    refine g_iload_n (q := 15) dX6_drop_14 rfl rfl ?_
    refine g_callVi (q := 18) (c_X3_isMissing hE (rowB_in c_4)) lk_RX6_77 (by decide) (by decide) rfl (by decide) rfl rfl rfl rfl rfl rfl (Nat.le_of_ble_eq_true rfl) (Nat.le_of_ble_eq_true rfl) (Nat.le_of_ble_eq_true rfl) dX6_drop_15 rfl ?_
    refine g_if_eq (t := 27) (q := 21) dX6_drop_18 (by decide) rfl (fun c_18 => ?_) (fun c_18 => ?_)
    · rw [bI_0] at c_18
      refine g_aload_n (q := 28) dX6_drop_27 rfl rfl ?_
      refine g_aload_n (q := 29) dX6_drop_28 rfl rfl ?_
      refine f6_0 (q := 32) wd_266 dX6_drop_29 rfl ?_
      refine g_iload_n (q := 33) dX6_drop_32 rfl rfl ?_
      refine g_callVi (q := 36) (c_X3_takeAway hE (rowB_in c_4)) lk_RX6_95 (by decide) (by decide) rfl (by decide) rfl rfl rfl rfl rfl rfl (Nat.le_of_ble_eq_true rfl) (Nat.le_of_ble_eq_true rfl) (Nat.le_of_ble_eq_true rfl) dX6_drop_33 rfl ?_
      refine g_callVi (q := 39) (c_X6_noFinding hE ) lk_RX6_74 (by decide) (by decide) rfl (by decide) rfl rfl rfl rfl rfl rfl (Nat.le_of_ble_eq_true rfl) (Nat.le_of_ble_eq_true rfl) (Nat.le_of_ble_eq_true rfl) dX6_drop_36 rfl ?_
      exact g_iret dX6_drop_39 (pi_i (by simp only [m_drop, c_4, c_18, not_true_eq_false, not_false_eq_true, if_true, if_false, Bool.true_eq_false, Bool.false_eq_true, reduceIte, reduceCtorEq]) (by simp only [m_drop, c_4, c_18, not_true_eq_false, not_false_eq_true, if_true, if_false, Bool.true_eq_false, Bool.false_eq_true, reduceIte, reduceCtorEq]) rfl)
    · rw [bI_n0] at c_18
      refine g_aload_n (q := 22) dX6_drop_21 rfl rfl ?_
      refine g_iconst (q := 23) dX6_drop_22 ci_1 rfl ?_
      refine g_callVi (q := 26) (c_X6_finding hE ) lk_RX6_66 (by decide) (by decide) rfl (by decide) rfl rfl rfl rfl rfl rfl (Nat.le_of_ble_eq_true rfl) (Nat.le_of_ble_eq_true rfl) (Nat.le_of_ble_eq_true rfl) dX6_drop_23 rfl ?_
      exact g_iret dX6_drop_26 (pi_i (by simp only [m_drop, c_4, c_18, not_true_eq_false, not_false_eq_true, if_true, if_false, Bool.true_eq_false, Bool.false_eq_true, reduceIte, reduceCtorEq]) (by simp only [m_drop, c_4, c_18, not_true_eq_false, not_false_eq_true, if_true, if_false, Bool.true_eq_false, Bool.false_eq_true, reduceIte, reduceCtorEq]) rfl)
  · rw [bI_0] at c_4
    refine g_ldc (q := 9) dX6_drop_7 wd_307 rfl ?_
    exact g_iret dX6_drop_9 (pi_i (by simp only [m_drop, c_4, not_true_eq_false, not_false_eq_true, if_true, if_false, Bool.true_eq_false, Bool.false_eq_true, reduceIte, reduceCtorEq]) (by simp only [m_drop, c_4, not_true_eq_false, not_false_eq_true, if_true, if_false, Bool.true_eq_false, Bool.false_eq_true, reduceIte, reduceCtorEq]) rfl)
theorem tl_in {σ : Sto} (h : vp_in (σ 5 2) 121) (hc : decide (120 ≤ σ 5 2) = false) : vp_in (σ 5 2) 120 := by
  rw [vp_in_iff] at h ⊢
  have hc2 := of_decide_eq_false hc
  rw [Int32.not_le, Int32.lt_iff_toInt_lt] at hc2
  have : (120 : Int32).toInt = 120 := rfl
  exact ⟨h.1, by omega⟩
set_option maxRecDepth 20000 in
set_option maxHeartbeats 4000000 in
theorem c_X6_feed {E : EE} (hE : inj E 0 40) {σ : Sto} {τ : Stl} {b : Int32} (h : vp_in (σ 5 2) 121) : Ct E 0 40 yX6_feed cX6_feed 2 (some FieldType.int) { frames := 1, cells := 0, slots := 0, locals := 22 } [.ref (E.2.1 0), .int b] σ τ (Pi ((m_feed σ b).1) ((m_feed σ b).2) (τ)) := by
  refine ct_of hE RX6 [some (.ref (E.2.1 0)), some (.int b)] (by decide) rfl (Nat.le_of_ble_eq_true rfl) rfl (fun X => ?_)
  refine g_iload_n (q := 1) dX6_feed_0 rfl rfl ?_
  refine g_iconst (q := 2) dX6_feed_1 ci_0 rfl ?_
  refine g_sipush (q := 5) dX6_feed_2 cs_255 rfl ?_
  refine g_callSi (q := 8) (c_X6_within hE ) lk_RX6_61 rfl rfl rfl rfl (Nat.le_of_ble_eq_true rfl) (Nat.le_of_ble_eq_true rfl) (Nat.le_of_ble_eq_true rfl) dX6_feed_5 rfl ?_
  refine g_if_ne (t := 14) (q := 11) dX6_feed_8 (by decide) rfl (fun c_8 => ?_) (fun c_8 => ?_)
  · rw [bI_n0] at c_8
    refine g_aload_n (q := 15) dX6_feed_14 rfl rfl ?_
    refine f6_1 (q := 18) wd_267 dX6_feed_15 rfl ?_
    refine g_callVi (q := 21) (c_X5_isFull hE ) lk_RX6_98 (by decide) (by decide) rfl (by decide) rfl rfl rfl rfl rfl rfl (Nat.le_of_ble_eq_true rfl) (Nat.le_of_ble_eq_true rfl) (Nat.le_of_ble_eq_true rfl) dX6_feed_18 rfl ?_
    refine g_if_eq (t := 29) (q := 24) dX6_feed_21 (by decide) rfl (fun c_21 => ?_) (fun c_21 => ?_)
    · rw [bI_0] at c_21
      refine g_aload_n (q := 30) dX6_feed_29 rfl rfl ?_
      refine f6_1 (q := 33) wd_267 dX6_feed_30 rfl ?_
      refine g_iload_n (q := 34) dX6_feed_33 rfl rfl ?_
      refine g_callVi (q := 37) (c_X5_append hE (tl_in h c_21)) lk_RX6_103 (by decide) (by decide) rfl (by decide) rfl rfl rfl rfl rfl rfl (Nat.le_of_ble_eq_true rfl) (Nat.le_of_ble_eq_true rfl) (Nat.le_of_ble_eq_true rfl) dX6_feed_34 rfl ?_
      exact g_iret dX6_feed_37 (pi_i (by simp only [m_feed, c_8, c_21, not_true_eq_false, not_false_eq_true, if_true, if_false, Bool.true_eq_false, Bool.false_eq_true, reduceIte, reduceCtorEq]) (by simp only [m_feed, c_8, c_21, not_true_eq_false, not_false_eq_true, if_true, if_false, Bool.true_eq_false, Bool.false_eq_true, reduceIte, reduceCtorEq]) rfl)
    · rw [bI_n0] at c_21
      refine g_ldc (q := 26) dX6_feed_24 wd_371 rfl ?_
      refine g_goto (t := 37) dX6_feed_26 (by decide) ?_
      exact g_iret dX6_feed_37 (pi_i (by simp only [m_feed, c_8, c_21, not_true_eq_false, not_false_eq_true, if_true, if_false, Bool.true_eq_false, Bool.false_eq_true, reduceIte, reduceCtorEq]) (by simp only [m_feed, c_8, c_21, not_true_eq_false, not_false_eq_true, if_true, if_false, Bool.true_eq_false, Bool.false_eq_true, reduceIte, reduceCtorEq]) rfl)
  · rw [bI_0] at c_8
    refine g_ldc (q := 13) dX6_feed_11 wd_307 rfl ?_
    exact g_iret dX6_feed_13 (pi_i (by simp only [m_feed, c_8, not_true_eq_false, not_false_eq_true, if_true, if_false, Bool.true_eq_false, Bool.false_eq_true, reduceIte, reduceCtorEq]) (by simp only [m_feed, c_8, not_true_eq_false, not_false_eq_true, if_true, if_false, Bool.true_eq_false, Bool.false_eq_true, reduceIte, reduceCtorEq]) rfl)
set_option maxRecDepth 20000 in
set_option maxHeartbeats 4000000 in
theorem c_X6_undo {E : EE} (hE : inj E 0 40) {σ : Sto} {τ : Stl}  (w : WFP σ) : Ct E 0 40 yX6_undo cX6_undo 1 (some FieldType.int) { frames := 2, cells := 0, slots := 0, locals := 48 } [.ref (E.2.1 0)] σ τ (Pi ((m_undo σ ).1) ((m_undo σ ).2) (τ)) := by
  refine ct_of hE RX6 [some (.ref (E.2.1 0))] (by decide) rfl (Nat.le_of_ble_eq_true rfl) rfl (fun X => ?_)
  refine g_aload_n (q := 1) dX6_undo_0 rfl rfl ?_
  refine f6_3 (q := 4) wd_269 dX6_undo_1 rfl ?_
  refine f2_2 (q := 7) wd_218 dX6_undo_4 rfl ?_
  refine g_if_ne (t := 13) (q := 10) dX6_undo_7 (by decide) rfl (fun c_7 => ?_) (fun c_7 => ?_)
  · refine g_aload_n (q := 14) dX6_undo_13 rfl rfl ?_
    refine f6_3 (q := 17) wd_269 dX6_undo_14 rfl ?_
    refine g_aload_n (q := 18) dX6_undo_17 rfl rfl ?_
    refine f6_2 (q := 21) wd_268 dX6_undo_18 rfl ?_
    refine g_callVv (q := 24) (c_X2_takeBack hE w c_7) lk_RX6_141 (by decide) (by decide) rfl (by decide) rfl rfl rfl rfl rfl rfl (Nat.le_of_ble_eq_true rfl) (Nat.le_of_ble_eq_true rfl) (Nat.le_of_ble_eq_true rfl) dX6_undo_21 rfl ?_
    refine g_aload_n (q := 25) dX6_undo_24 rfl rfl ?_
    refine f6_3 (q := 28) wd_269 dX6_undo_25 rfl ?_
    refine f2_2 (q := 31) wd_218 dX6_undo_28 rfl ?_
    exact g_iret dX6_undo_31 (pi_i (by simp only [m_undo, c_7, not_true_eq_false, not_false_eq_true, if_true, if_false, Bool.true_eq_false, Bool.false_eq_true, reduceIte, reduceCtorEq]) (by simp only [m_undo, c_7, not_true_eq_false, not_false_eq_true, if_true, if_false, Bool.true_eq_false, Bool.false_eq_true, reduceIte, reduceCtorEq]) rfl)
  · refine g_ldc (q := 12) dX6_undo_10 wd_465 rfl ?_
    exact g_iret dX6_undo_12 (pi_i (by simp only [m_undo, c_7, not_true_eq_false, not_false_eq_true, if_true, if_false, Bool.true_eq_false, Bool.false_eq_true, reduceIte, reduceCtorEq]) (by simp only [m_undo, c_7, not_true_eq_false, not_false_eq_true, if_true, if_false, Bool.true_eq_false, Bool.false_eq_true, reduceIte, reduceCtorEq]) rfl)
set_option maxRecDepth 20000 in
set_option maxHeartbeats 4000000 in
theorem c_X6_fault {E : EE} (hE : inj E 0 40) {σ : Sto} {τ : Stl}   : Ct E 0 40 yX6_fault cX6_fault 1 (some FieldType.int) { frames := 0, cells := 0, slots := 0, locals := 0 } [.ref (E.2.1 0)] σ τ (Pi (σ 0 8) (σ) (τ)) := by
  refine ct_of hE RX6 [some (.ref (E.2.1 0))] (by decide) rfl (Nat.le_of_ble_eq_true rfl) rfl (fun X => ?_)
  refine g_aload_n (q := 1) dX6_fault_0 rfl rfl ?_
  refine f6_8 (q := 4) wd_274 dX6_fault_1 rfl ?_
  exact g_iret dX6_fault_4 (pi_i (by rfl) (by rfl) rfl)
set_option maxRecDepth 20000 in
set_option maxHeartbeats 4000000 in
theorem c_X6_status {E : EE} (hE : inj E 0 40) {σ : Sto} {τ : Stl}   : Ct E 0 40 yX6_status cX6_status 1 (some FieldType.int) { frames := 0, cells := 0, slots := 0, locals := 0 } [.ref (E.2.1 0)] σ τ (Pi (σ 0 9) (σ) (τ)) := by
  refine ct_of hE RX6 [some (.ref (E.2.1 0))] (by decide) rfl (Nat.le_of_ble_eq_true rfl) rfl (fun X => ?_)
  refine g_aload_n (q := 1) dX6_status_0 rfl rfl ?_
  refine f6_9 (q := 4) wd_275 dX6_status_1 rfl ?_
  exact g_iret dX6_status_4 (pi_i (by rfl) (by rfl) rfl)
