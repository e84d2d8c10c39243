set_option maxRecDepth 20000 in
set_option maxHeartbeats 4000000 in
theorem c_X0_startAnew {E : EE} (hE : inj E 0 40) {σ : Sto} {τ : Stl}   : Ct E 0 40 yX0_startAnew cX0_startAnew 1 none { frames := 0, cells := 0, slots := 0, locals := 0 } [.ref (E.2.1 24)] σ τ (Pv (upc σ 24 (upd (σ 24) 1 0)) (τ)) := by
  refine ct_of hE RX0 [some (.ref (E.2.1 24))] (by decide) rfl (Nat.le_of_ble_eq_true rfl) rfl (fun X => ?_)
  refine g_aload_n (q := 1) dX0_startAnew_0 rfl rfl ?_
  refine g_iconst (q := 2) dX0_startAnew_1 ci_0 rfl ?_
  refine p0_1 (q := 5) wd_260 dX0_startAnew_2 rfl ?_
  exact g_vret dX0_startAnew_5 (pv_i (by rfl) rfl)
def trOK (σ : Sto) : Prop := vp_in (σ 24 1) 17
def bg (σ : Sto) (b : Int32) : Sto := if 16 ≤ σ 24 1 then σ else upc (upc σ 25 (upd (σ 25) ((σ 24 1).toNatClampNeg) b)) 24 (upd (σ 24) 1 (σ 24 1 + 1))
def bgs (σ : Sto) (l : List Int32) : Sto := l.foldl bg σ
theorem bgs_cons (σ : Sto) (b : Int32) (l : List Int32) : bgs σ (b :: l) = bgs (bgs σ [b]) l := rfl
theorem bg_ne (σ : Sto) (b : Int32) {k : Nat} (h1 : k ≠ 24) (h2 : k ≠ 25) : bg σ b k = σ k := by
  unfold bg
  split
  · rfl
  · rw [upc_ne h1, upc_ne h2]
theorem bgs_ne (l : List Int32) : ∀ (σ : Sto) {k : Nat}, k ≠ 24 → k ≠ 25 → bgs σ l k = σ k := by
  induction l with
  | nil => intro σ k _ _; rfl
  | cons b l ih => intro σ k h1 h2; exact (ih (bg σ b) h1 h2).trans (bg_ne σ b h1 h2)
theorem trOK_bg {σ : Sto} (h : trOK σ) (b : Int32) : trOK (bg σ b) := by
  unfold bg
  split
  · exact h
  · rename_i hc
    unfold trOK at h ⊢
    rw [upc_same, upd_same]
    obtain ⟨e, hl⟩ := vp_to h (by decide)
    rw [e] at hc ⊢
    rw [nI_1]
    refine vp_in_nI ?_ (by decide)
    rcases Nat.lt_or_ge ((σ 24 1).toNatClampNeg) 16 with q | q
    · omega
    · exact absurd (by rw [show (16 : Int32) = nI 16 from rfl]; exact nI_le q (by omega)) hc
theorem trOK_bgs (l : List Int32) : ∀ {σ : Sto}, trOK σ → trOK (bgs σ l) := by
  induction l with
  | nil => intro σ h; exact h
  | cons b l ih => intro σ h; exact ih (trOK_bg h b)
def tMR (k : Int32) : List Int32 := if k = 2 then [24, 21, 20] else if k = 3 then [22, 21, 20] else [21, 20]
def vMR (k s pl : Int32) : Int32 := if k = 2 then 2 * (s + pl) else if k = 3 then s + pl - 1000 else s + pl
def tSF (k : Int32) : List Int32 := if k = 5 then [14, 13, 10] else [13, 10]
def vSF (k f : Int32) : Int32 := if k = 5 then 2 * (f - 100) else f - 100
def tRS (k : Int32) : List Int32 := 11 :: 10 :: tMR k
def tFM (k : Int32) : List Int32 := 23 :: 20 :: tSF k
def tSize (k : Int32) : List Int32 := if k = 1 ∨ k = 3 then tRS k else if k = 2 then 12 :: tRS k else if k = 4 ∨ k = 5 then tSF k else [10]
def vSize (k s pl f : Int32) : Int32 := if k = 1 ∨ k = 3 then f + vMR k s pl else if k = 2 then -(f + vMR k s pl) else if k = 4 ∨ k = 5 then vSF k f else f
def tMark (k : Int32) : List Int32 := if k = 1 ∨ k = 2 ∨ k = 3 then tMR k else if k = 4 ∨ k = 5 then tFM k else [20]
def vMark (k s pl f : Int32) : Int32 := if k = 1 ∨ k = 2 ∨ k = 3 then vMR k s pl else if k = 4 ∨ k = 5 then s - vSF k f else s
theorem tr_lt {σ : Sto} (h : trOK σ) (hc : ¬ 16 ≤ σ 24 1) : vp_in (σ 24 1) 16 := by
  obtain ⟨e, hl⟩ := vp_to h (by decide)
  rw [e] at hc ⊢
  refine vp_in_nI ?_ (by decide)
  rcases Nat.lt_or_ge ((σ 24 1).toNatClampNeg) 16 with q | q
  · exact q
  · exact absurd (by rw [show (16 : Int32) = nI 16 from rfl]; exact nI_le q (by omega)) hc
theorem vin_lt {σ : Sto} (h : trOK σ) {i : Int32} (h1 : ¬ i < 0) (h2 : ¬ σ 24 1 ≤ i) : vp_in i 16 := by
  obtain ⟨e, hl⟩ := vp_to h (by decide)
  obtain ⟨e2, hl2⟩ := nn_to h1
  rw [e, e2] at h2
  rw [e2]
  refine vp_in_nI ?_ (by decide)
  rcases Nat.lt_or_ge (i.toNatClampNeg) ((σ 24 1).toNatClampNeg) with q | q
  · omega
  · exact absurd (nI_le q hl2) h2
set_option maxRecDepth 20000 in
set_option maxHeartbeats 4000000 in
theorem c_X0_begin {E : EE} (hE : inj E 0 40) {σ : Sto} {τ : Stl} {b : Int32} (h : trOK σ) : Ct E 0 40 yX0_begin cX0_begin 2 none { frames := 0, cells := 0, slots := 0, locals := 0 } [.ref (E.2.1 24), .int b] σ τ (Pv (bgs σ [b]) (τ)) := by
  refine ct_of hE RX0 [some (.ref (E.2.1 24)), some (.int b)] (by decide) rfl (Nat.le_of_ble_eq_true rfl) rfl (fun X => ?_)
  refine g_aload_n (q := 1) dX0_begin_0 rfl rfl ?_
  refine f0_1 (q := 4) wd_260 dX0_begin_1 rfl ?_
  refine g_bipush (q := 6) dX0_begin_4 cb_16 rfl ?_
  refine g_icmp_ge (t := 29) (q := 9) dX0_begin_6 (by decide) rfl (fun c_6 => ?_) (fun c_6 => ?_)
  · exact g_vret dX0_begin_29 (pv_i (by show _ = bg σ b; unfold bg; rw [if_pos c_6]) rfl)
  · refine g_aload_n (q := 10) dX0_begin_9 rfl rfl ?_
    refine f0_0 (q := 13) wd_259 dX0_begin_10 rfl ?_
    refine g_aload_n (q := 14) dX0_begin_13 rfl rfl ?_
    refine f0_1 (q := 17) wd_260 dX0_begin_14 rfl ?_
    refine g_iload_n (q := 18) dX0_begin_17 rfl rfl ?_
    refine g_iast (q := 19) (k := 25) (by decide) (by decide) rfl (show vp_in _ 16 by exact tr_lt h c_6) dX0_begin_18 rfl ?_
    refine g_aload_n (q := 20) dX0_begin_19 rfl rfl ?_
    refine g_dup (q := 21) dX0_begin_20 rfl rfl ?_
    refine f0_1 (q := 24) wd_260 dX0_begin_21 rfl ?_
    refine g_iconst (q := 25) dX0_begin_24 ci_1 rfl ?_
    refine g_iadd (q := 26) dX0_begin_25 rfl ?_
    refine p0_1 (q := 29) wd_260 dX0_begin_26 rfl ?_
    exact g_vret dX0_begin_29 (pv_i (by show _ = bg σ b; unfold bg; rw [if_neg c_6]; simp [upc]) rfl)
set_option maxRecDepth 20000 in
set_option maxHeartbeats 4000000 in
theorem c_X0_bodyAt {E : EE} (hE : inj E 0 40) {σ : Sto} {τ : Stl} {i : Int32} (h : trOK σ) : Ct E 0 40 yX0_bodyAt cX0_bodyAt 2 (some FieldType.int) { frames := 0, cells := 0, slots := 0, locals := 0 } [.ref (E.2.1 24), .int i] σ τ (Pi (if i < 0 then -1000000 else if σ 24 1 ≤ i then -1000000 else σ 25 (i.toNatClampNeg)) (σ) (τ)) := by
  refine ct_of hE RX0 [some (.ref (E.2.1 24)), some (.int i)] (by decide) rfl (Nat.le_of_ble_eq_true rfl) rfl (fun X => ?_)
  refine g_iload_n (q := 1) dX0_bodyAt_0 rfl rfl ?_
  refine g_if_lt (t := 21) (q := 4) dX0_bodyAt_1 (by decide) rfl (fun c_1 => ?_) (fun c_1 => ?_)
  · refine g_ldc (q := 23) dX0_bodyAt_21 wd_829 rfl ?_
    exact g_iret dX0_bodyAt_23 (pi_i (by simp only [if_pos c_1]) (by rfl) rfl)
  · refine g_iload_n (q := 5) dX0_bodyAt_4 rfl rfl ?_
    refine g_aload_n (q := 6) dX0_bodyAt_5 rfl rfl ?_
    refine f0_1 (q := 9) wd_260 dX0_bodyAt_6 rfl ?_
    refine g_icmp_ge (t := 21) (q := 12) dX0_bodyAt_9 (by decide) rfl (fun c_9 => ?_) (fun c_9 => ?_)
    · refine g_ldc (q := 23) dX0_bodyAt_21 wd_829 rfl ?_
      exact g_iret dX0_bodyAt_23 (pi_i (by simp only [if_neg c_1, if_pos c_9]) (by rfl) rfl)
    · refine g_aload_n (q := 13) dX0_bodyAt_12 rfl rfl ?_
      refine f0_0 (q := 16) wd_259 dX0_bodyAt_13 rfl ?_
      refine g_iload_n (q := 17) dX0_bodyAt_16 rfl rfl ?_
      refine g_iald (q := 18) (k := 25) (by decide) (by decide) rfl (show vp_in _ 16 by exact vin_lt h c_1 c_9) dX0_bodyAt_17 rfl ?_
      refine g_goto (t := 23) dX0_bodyAt_18 (by decide) ?_
      exact g_iret dX0_bodyAt_23 (pi_i (by simp only [if_neg c_1, if_neg c_9]) (by rfl) rfl)
set_option maxRecDepth 20000 in
set_option maxHeartbeats 4000000 in
theorem c_X0_lentSize {E : EE} (hE : inj E 0 40) {σ : Sto} {τ : Stl} {s : Int32} (h : trOK σ) (hs : vp_in s 5) : Ct E 0 40 yX0_lentSize cX0_lentSize 3 (some FieldType.int) { frames := 1, cells := 0, slots := 0, locals := 21 } [.ref (E.2.1 24), .ref (E.2.1 7), .int s] σ τ (Pi ((σ (7 + 5) (s.toNatClampNeg))) (bgs σ ([10])) (τ)) := by
  refine ct_of hE RX0 [some (.ref (E.2.1 24)), some (.ref (E.2.1 7)), some (.int s)] (by decide) rfl (Nat.le_of_ble_eq_true rfl) rfl (fun X => ?_)
  refine g_aload_n (q := 1) dX0_lentSize_0 rfl rfl ?_
  refine g_bipush (q := 3) dX0_lentSize_1 cb_10 rfl ?_
  refine g_callVv (q := 6) (c_X0_begin hE (by repeat' (first | assumption | apply trOK_bgs))) lk_RX0_29 (by decide) (by decide) rfl (by decide) rfl rfl rfl rfl rfl rfl (Nat.le_of_ble_eq_true rfl) (Nat.le_of_ble_eq_true rfl) (Nat.le_of_ble_eq_true rfl) dX0_lentSize_3 rfl ?_
  refine g_aload_n (q := 7) dX0_lentSize_6 rfl rfl ?_
  refine f1_12 (q := 10) rfl wd_174 dX0_lentSize_7 rfl ?_
  refine g_iload_n (q := 11) dX0_lentSize_10 rfl rfl ?_
  refine g_aldH (q := 12) (c := 5) rfl (by decide) (by decide) (show vp_in _ 5 by assumption) dX0_lentSize_11 rfl ?_
  exact g_iret dX0_lentSize_12 (pi_i (by simp only [bgs_ne _ _ (show 7 + 3 ≠ 24 by decide) (by decide), bgs_ne _ _ (show 7 + 4 ≠ 24 by decide) (by decide), bgs_ne _ _ (show 7 + 5 ≠ 24 by decide) (by decide)]) (by rfl) rfl)
set_option maxRecDepth 20000 in
set_option maxHeartbeats 4000000 in
theorem c_X0_lentMark {E : EE} (hE : inj E 0 40) {σ : Sto} {τ : Stl} {s : Int32} (h : trOK σ) (hs : vp_in s 5) : Ct E 0 40 yX0_lentMark cX0_lentMark 2 (some FieldType.int) { frames := 1, cells := 0, slots := 0, locals := 21 } [.ref (E.2.1 24), .int s] σ τ (Pi (s) (bgs σ ([20])) (τ)) := by
  refine ct_of hE RX0 [some (.ref (E.2.1 24)), some (.int s)] (by decide) rfl (Nat.le_of_ble_eq_true rfl) rfl (fun X => ?_)
  refine g_aload_n (q := 1) dX0_lentMark_0 rfl rfl ?_
  refine g_bipush (q := 3) dX0_lentMark_1 cb_20 rfl ?_
  refine g_callVv (q := 6) (c_X0_begin hE (by repeat' (first | assumption | apply trOK_bgs))) lk_RX0_29 (by decide) (by decide) rfl (by decide) rfl rfl rfl rfl rfl rfl (Nat.le_of_ble_eq_true rfl) (Nat.le_of_ble_eq_true rfl) (Nat.le_of_ble_eq_true rfl) dX0_lentMark_3 rfl ?_
  refine g_iload_n (q := 7) dX0_lentMark_6 rfl rfl ?_
  exact g_iret dX0_lentMark_7 (pi_i (by first | rfl | assumption) (by rfl) rfl)
set_option maxRecDepth 20000 in
set_option maxHeartbeats 4000000 in
theorem c_X0_readerMark {E : EE} (hE : inj E 0 40) {σ : Sto} {τ : Stl} {s : Int32} (h : trOK σ) (hs : vp_in s 5) : Ct E 0 40 yX0_readerMark cX0_readerMark 3 (some FieldType.int) { frames := 2, cells := 0, slots := 0, locals := 42 } [.ref (E.2.1 24), .ref (E.2.1 7), .int s] σ τ (Pi (s + (σ (7 + 4) (s.toNatClampNeg))) (bgs σ ([21, 20])) (τ)) := by
  refine ct_of hE RX0 [some (.ref (E.2.1 24)), some (.ref (E.2.1 7)), some (.int s)] (by decide) rfl (Nat.le_of_ble_eq_true rfl) rfl (fun X => ?_)
  refine g_aload_n (q := 1) dX0_readerMark_0 rfl rfl ?_
  refine g_bipush (q := 3) dX0_readerMark_1 cb_21 rfl ?_
  refine g_callVv (q := 6) (c_X0_begin hE (by repeat' (first | assumption | apply trOK_bgs))) lk_RX0_29 (by decide) (by decide) rfl (by decide) rfl rfl rfl rfl rfl rfl (Nat.le_of_ble_eq_true rfl) (Nat.le_of_ble_eq_true rfl) (Nat.le_of_ble_eq_true rfl) dX0_readerMark_3 rfl ?_
  refine g_aload_n (q := 7) dX0_readerMark_6 rfl rfl ?_
  refine g_iload_n (q := 8) dX0_readerMark_7 rfl rfl ?_
  refine g_callVi (q := 11) (c_X0_lentMark hE (by repeat' (first | assumption | apply trOK_bgs)) (by repeat' (first | assumption | apply trOK_bgs))) lk_RX0_45 (by decide) (by decide) rfl (by decide) rfl rfl rfl rfl rfl rfl (Nat.le_of_ble_eq_true rfl) (Nat.le_of_ble_eq_true rfl) (Nat.le_of_ble_eq_true rfl) dX0_readerMark_8 rfl ?_
  refine g_aload_n (q := 12) dX0_readerMark_11 rfl rfl ?_
  refine f1_11 (q := 15) rfl wd_172 dX0_readerMark_12 rfl ?_
  refine g_iload_n (q := 16) dX0_readerMark_15 rfl rfl ?_
  refine g_aldH (q := 17) (c := 4) rfl (by decide) (by decide) (show vp_in _ 5 by assumption) dX0_readerMark_16 rfl ?_
  refine g_iadd (q := 18) dX0_readerMark_17 rfl ?_
  exact g_iret dX0_readerMark_18 (pi_i (by simp only [bgs_ne _ _ (show 7 + 3 ≠ 24 by decide) (by decide), bgs_ne _ _ (show 7 + 4 ≠ 24 by decide) (by decide), bgs_ne _ _ (show 7 + 5 ≠ 24 by decide) (by decide)]) (by rfl) rfl)
set_option maxRecDepth 20000 in
set_option maxHeartbeats 4000000 in
theorem c_X0_fireSize {E : EE} (hE : inj E 0 40) {σ : Sto} {τ : Stl} {s : Int32} (h : trOK σ) (hs : vp_in s 5) : Ct E 0 40 yX0_fireSize cX0_fireSize 3 (some FieldType.int) { frames := 2, cells := 0, slots := 0, locals := 43 } [.ref (E.2.1 24), .ref (E.2.1 7), .int s] σ τ (Pi ((σ (7 + 5) (s.toNatClampNeg)) - 100) (bgs σ ([13, 10])) (τ)) := by
  refine ct_of hE RX0 [some (.ref (E.2.1 24)), some (.ref (E.2.1 7)), some (.int s)] (by decide) rfl (Nat.le_of_ble_eq_true rfl) rfl (fun X => ?_)
  refine g_aload_n (q := 1) dX0_fireSize_0 rfl rfl ?_
  refine g_bipush (q := 3) dX0_fireSize_1 cb_13 rfl ?_
  refine g_callVv (q := 6) (c_X0_begin hE (by repeat' (first | assumption | apply trOK_bgs))) lk_RX0_29 (by decide) (by decide) rfl (by decide) rfl rfl rfl rfl rfl rfl (Nat.le_of_ble_eq_true rfl) (Nat.le_of_ble_eq_true rfl) (Nat.le_of_ble_eq_true rfl) dX0_fireSize_3 rfl ?_
  refine g_aload_n (q := 7) dX0_fireSize_6 rfl rfl ?_
  refine g_aload_n (q := 8) dX0_fireSize_7 rfl rfl ?_
  refine g_iload_n (q := 9) dX0_fireSize_8 rfl rfl ?_
  refine g_callVi (q := 12) (c_X0_lentSize hE (by repeat' (first | assumption | apply trOK_bgs)) (by repeat' (first | assumption | apply trOK_bgs))) lk_RX0_36 (by decide) (by decide) rfl (by decide) rfl rfl rfl rfl rfl rfl (Nat.le_of_ble_eq_true rfl) (Nat.le_of_ble_eq_true rfl) (Nat.le_of_ble_eq_true rfl) dX0_fireSize_9 rfl ?_
  refine g_bipush (q := 14) dX0_fireSize_12 cb_100 rfl ?_
  refine g_isub (q := 15) dX0_fireSize_14 rfl ?_
  exact g_iret dX0_fireSize_15 (pi_i (by simp only [bgs_ne _ _ (show 7 + 3 ≠ 24 by decide) (by decide), bgs_ne _ _ (show 7 + 4 ≠ 24 by decide) (by decide), bgs_ne _ _ (show 7 + 5 ≠ 24 by decide) (by decide)]) (by rfl) rfl)
set_option maxRecDepth 20000 in
set_option maxHeartbeats 4000000 in
theorem c_X0_sizeOfFires {E : EE} (hE : inj E 0 40) {σ : Sto} {τ : Stl} {s : Int32} (h : trOK σ) (hs : vp_in s 5) : Ct E 0 40 yX0_sizeOfFires cX0_sizeOfFires 3 (some FieldType.int) { frames := 3, cells := 0, slots := 0, locals := 65 } [.ref (E.2.1 24), .ref (E.2.1 7), .int s] σ τ (Pi (vSF (σ (7 + 3) (s.toNatClampNeg)) (σ (7 + 5) (s.toNatClampNeg))) (bgs σ (tSF (σ (7 + 3) (s.toNatClampNeg)))) (τ)) := by
  refine ct_of hE RX0 [some (.ref (E.2.1 24)), some (.ref (E.2.1 7)), some (.int s)] (by decide) rfl (Nat.le_of_ble_eq_true rfl) rfl (fun X => ?_)
  refine g_aload_n (q := 1) dX0_sizeOfFires_0 rfl rfl ?_
  refine f1_10 (q := 4) rfl wd_165 dX0_sizeOfFires_1 rfl ?_
  refine g_iload_n (q := 5) dX0_sizeOfFires_4 rfl rfl ?_
  refine g_aldH (q := 6) (c := 3) rfl (by decide) (by decide) (show vp_in _ 5 by assumption) dX0_sizeOfFires_5 rfl ?_
  refine g_iconst (q := 7) dX0_sizeOfFires_6 ci_5 rfl ?_
  refine g_icmp_ne (t := 25) (q := 10) dX0_sizeOfFires_7 (by decide) rfl (fun c_7 => ?_) (fun c_7 => ?_)
  · refine g_aload_n (q := 26) dX0_sizeOfFires_25 rfl rfl ?_
    refine g_aload_n (q := 27) dX0_sizeOfFires_26 rfl rfl ?_
    refine g_iload_n (q := 28) dX0_sizeOfFires_27 rfl rfl ?_
    refine g_callVi (q := 31) (c_X0_fireSize hE (by repeat' (first | assumption | apply trOK_bgs)) (by repeat' (first | assumption | apply trOK_bgs))) lk_RX0_49 (by decide) (by decide) rfl (by decide) rfl rfl rfl rfl rfl rfl (Nat.le_of_ble_eq_true rfl) (Nat.le_of_ble_eq_true rfl) (Nat.le_of_ble_eq_true rfl) dX0_sizeOfFires_28 rfl ?_
    exact g_iret dX0_sizeOfFires_31 (pi_i (by simp only [vSF, if_neg c_7, bgs_ne _ _ (show 7 + 3 ≠ 24 by decide) (by decide), bgs_ne _ _ (show 7 + 4 ≠ 24 by decide) (by decide), bgs_ne _ _ (show 7 + 5 ≠ 24 by decide) (by decide)]) (by simp only [tSF, if_neg c_7]) rfl)
  · refine g_aload_n (q := 11) dX0_sizeOfFires_10 rfl rfl ?_
    refine g_bipush (q := 13) dX0_sizeOfFires_11 cb_14 rfl ?_
    refine g_callVv (q := 16) (c_X0_begin hE (by repeat' (first | assumption | apply trOK_bgs))) lk_RX0_29 (by decide) (by decide) rfl (by decide) rfl rfl rfl rfl rfl rfl (Nat.le_of_ble_eq_true rfl) (Nat.le_of_ble_eq_true rfl) (Nat.le_of_ble_eq_true rfl) dX0_sizeOfFires_13 rfl ?_
    refine g_iconst (q := 17) dX0_sizeOfFires_16 ci_2 rfl ?_
    refine g_aload_n (q := 18) dX0_sizeOfFires_17 rfl rfl ?_
    refine g_aload_n (q := 19) dX0_sizeOfFires_18 rfl rfl ?_
    refine g_iload_n (q := 20) dX0_sizeOfFires_19 rfl rfl ?_
    refine g_callVi (q := 23) (c_X0_fireSize hE (by repeat' (first | assumption | apply trOK_bgs)) (by repeat' (first | assumption | apply trOK_bgs))) lk_RX0_49 (by decide) (by decide) rfl (by decide) rfl rfl rfl rfl rfl rfl (Nat.le_of_ble_eq_true rfl) (Nat.le_of_ble_eq_true rfl) (Nat.le_of_ble_eq_true rfl) dX0_sizeOfFires_20 rfl ?_
    refine g_imul (q := 24) dX0_sizeOfFires_23 rfl ?_
    exact g_iret dX0_sizeOfFires_24 (pi_i (by simp only [vSF, if_pos c_7, bgs_ne _ _ (show 7 + 3 ≠ 24 by decide) (by decide), bgs_ne _ _ (show 7 + 4 ≠ 24 by decide) (by decide), bgs_ne _ _ (show 7 + 5 ≠ 24 by decide) (by decide)]) (by simp only [tSF, if_pos c_7]; rfl) rfl)
set_option maxRecDepth 20000 in
set_option maxHeartbeats 4000000 in
theorem c_X0_markOfReaders {E : EE} (hE : inj E 0 40) {σ : Sto} {τ : Stl} {s : Int32} (h : trOK σ) (hs : vp_in s 5) : Ct E 0 40 yX0_markOfReaders cX0_markOfReaders 3 (some FieldType.int) { frames := 3, cells := 0, slots := 0, locals := 64 } [.ref (E.2.1 24), .ref (E.2.1 7), .int s] σ τ (Pi (vMR (σ (7 + 3) (s.toNatClampNeg)) s (σ (7 + 4) (s.toNatClampNeg))) (bgs σ (tMR (σ (7 + 3) (s.toNatClampNeg)))) (τ)) := by
  refine ct_of hE RX0 [some (.ref (E.2.1 24)), some (.ref (E.2.1 7)), some (.int s)] (by decide) rfl (Nat.le_of_ble_eq_true rfl) rfl (fun X => ?_)
  refine g_aload_n (q := 1) dX0_markOfReaders_0 rfl rfl ?_
  refine f1_10 (q := 4) rfl wd_165 dX0_markOfReaders_1 rfl ?_
  refine g_iload_n (q := 5) dX0_markOfReaders_4 rfl rfl ?_
  refine g_aldH (q := 6) (c := 3) rfl (by decide) (by decide) (show vp_in _ 5 from hs) dX0_markOfReaders_5 rfl ?_
  by_cases c2 : (σ (7 + 3) (s.toNatClampNeg)) = 2
  · refine g_look (t := 32) dX0_markOfReaders_6 rfl (by rw [c2]) (by decide) ?_
    refine g_aload_n (q := 33) dX0_markOfReaders_32 rfl rfl ?_
    refine g_bipush (q := 35) dX0_markOfReaders_33 cb_24 rfl ?_
    refine g_callVv (q := 38) (c_X0_begin hE (by repeat' (first | assumption | apply trOK_bgs))) lk_RX0_29 (by decide) (by decide) rfl (by decide) rfl rfl rfl rfl rfl rfl (Nat.le_of_ble_eq_true rfl) (Nat.le_of_ble_eq_true rfl) (Nat.le_of_ble_eq_true rfl) dX0_markOfReaders_35 rfl ?_
    refine g_iconst (q := 39) dX0_markOfReaders_38 ci_2 rfl ?_
    refine g_aload_n (q := 40) dX0_markOfReaders_39 rfl rfl ?_
    refine g_aload_n (q := 41) dX0_markOfReaders_40 rfl rfl ?_
    refine g_iload_n (q := 42) dX0_markOfReaders_41 rfl rfl ?_
    refine g_callVi (q := 45) (c_X0_readerMark hE (by repeat' (first | assumption | apply trOK_bgs)) (by repeat' (first | assumption | apply trOK_bgs))) lk_RX0_52 (by decide) (by decide) rfl (by decide) rfl rfl rfl rfl rfl rfl (Nat.le_of_ble_eq_true rfl) (Nat.le_of_ble_eq_true rfl) (Nat.le_of_ble_eq_true rfl) dX0_markOfReaders_42 rfl ?_
    refine g_imul (q := 46) dX0_markOfReaders_45 rfl ?_
    exact g_iret dX0_markOfReaders_46 (pi_i (by simp only [vMR, if_pos c2, bgs_ne _ _ (show 7 + 3 ≠ 24 by decide) (by decide), bgs_ne _ _ (show 7 + 4 ≠ 24 by decide) (by decide), bgs_ne _ _ (show 7 + 5 ≠ 24 by decide) (by decide)]) (by simp only [tMR, if_pos c2]; rfl) rfl)
  · by_cases c3 : (σ (7 + 3) (s.toNatClampNeg)) = 3
    · refine g_look (t := 47) dX0_markOfReaders_6 rfl (by rw [c3]) (by decide) ?_
      refine g_aload_n (q := 48) dX0_markOfReaders_47 rfl rfl ?_
      refine g_bipush (q := 50) dX0_markOfReaders_48 cb_22 rfl ?_
      refine g_callVv (q := 53) (c_X0_begin hE (by repeat' (first | assumption | apply trOK_bgs))) lk_RX0_29 (by decide) (by decide) rfl (by decide) rfl rfl rfl rfl rfl rfl (Nat.le_of_ble_eq_true rfl) (Nat.le_of_ble_eq_true rfl) (Nat.le_of_ble_eq_true rfl) dX0_markOfReaders_50 rfl ?_
      refine g_aload_n (q := 54) dX0_markOfReaders_53 rfl rfl ?_
      refine g_aload_n (q := 55) dX0_markOfReaders_54 rfl rfl ?_
      refine g_iload_n (q := 56) dX0_markOfReaders_55 rfl rfl ?_
      refine g_callVi (q := 59) (c_X0_readerMark hE (by repeat' (first | assumption | apply trOK_bgs)) (by repeat' (first | assumption | apply trOK_bgs))) lk_RX0_52 (by decide) (by decide) rfl (by decide) rfl rfl rfl rfl rfl rfl (Nat.le_of_ble_eq_true rfl) (Nat.le_of_ble_eq_true rfl) (Nat.le_of_ble_eq_true rfl) dX0_markOfReaders_56 rfl ?_
      refine g_sipush (q := 62) dX0_markOfReaders_59 cs_1000 rfl ?_
      refine g_isub (q := 63) dX0_markOfReaders_62 rfl ?_
      exact g_iret dX0_markOfReaders_63 (pi_i (by simp only [vMR, if_neg c2, if_pos c3, bgs_ne _ _ (show 7 + 3 ≠ 24 by decide) (by decide), bgs_ne _ _ (show 7 + 4 ≠ 24 by decide) (by decide), bgs_ne _ _ (show 7 + 5 ≠ 24 by decide) (by decide)]) (by simp only [tMR, if_neg c2, if_pos c3]; rfl) rfl)
    · refine g_look (t := 64) dX0_markOfReaders_6 rfl (look2 _ _ _ (fun h => c2 (Int32.toInt_inj.mp h)) (fun h => c3 (Int32.toInt_inj.mp h))) (by decide) ?_
      refine g_aload_n (q := 65) dX0_markOfReaders_64 rfl rfl ?_
      refine g_aload_n (q := 66) dX0_markOfReaders_65 rfl rfl ?_
      refine g_iload_n (q := 67) dX0_markOfReaders_66 rfl rfl ?_
      refine g_callVi (q := 70) (c_X0_readerMark hE (by repeat' (first | assumption | apply trOK_bgs)) (by repeat' (first | assumption | apply trOK_bgs))) lk_RX0_52 (by decide) (by decide) rfl (by decide) rfl rfl rfl rfl rfl rfl (Nat.le_of_ble_eq_true rfl) (Nat.le_of_ble_eq_true rfl) (Nat.le_of_ble_eq_true rfl) dX0_markOfReaders_67 rfl ?_
      exact g_iret dX0_markOfReaders_70 (pi_i (by simp only [vMR, if_neg c2, if_neg c3, bgs_ne _ _ (show 7 + 3 ≠ 24 by decide) (by decide), bgs_ne _ _ (show 7 + 4 ≠ 24 by decide) (by decide), bgs_ne _ _ (show 7 + 5 ≠ 24 by decide) (by decide)]) (by simp only [tMR, if_neg c2, if_neg c3]) rfl)
set_option maxRecDepth 20000 in
set_option maxHeartbeats 4000000 in
theorem c_X0_readerSize {E : EE} (hE : inj E 0 40) {σ : Sto} {τ : Stl} {s : Int32} (h : trOK σ) (hs : vp_in s 5) : Ct E 0 40 yX0_readerSize cX0_readerSize 4 (some FieldType.int) { frames := 4, cells := 0, slots := 0, locals := 86 } [.ref (E.2.1 24), .ref (E.2.1 7), .int s] σ τ (Pi ((σ (7 + 5) (s.toNatClampNeg)) + vMR (σ (7 + 3) (s.toNatClampNeg)) s (σ (7 + 4) (s.toNatClampNeg))) (bgs σ (tRS (σ (7 + 3) (s.toNatClampNeg)))) (τ)) := by
  refine ct_of hE RX0 [some (.ref (E.2.1 24)), some (.ref (E.2.1 7)), some (.int s), none] (by decide) rfl (Nat.le_of_ble_eq_true rfl) rfl (fun X => ?_)
  refine g_aload_n (q := 1) dX0_readerSize_0 rfl rfl ?_
  refine g_bipush (q := 3) dX0_readerSize_1 cb_11 rfl ?_
  refine g_callVv (q := 6) (c_X0_begin hE (by repeat' (first | assumption | apply trOK_bgs))) lk_RX0_29 (by decide) (by decide) rfl (by decide) rfl rfl rfl rfl rfl rfl (Nat.le_of_ble_eq_true rfl) (Nat.le_of_ble_eq_true rfl) (Nat.le_of_ble_eq_true rfl) dX0_readerSize_3 rfl ?_
  refine g_aload_n (q := 7) dX0_readerSize_6 rfl rfl ?_
  refine g_aload_n (q := 8) dX0_readerSize_7 rfl rfl ?_
  refine g_iload_n (q := 9) dX0_readerSize_8 rfl rfl ?_
  refine g_callVi (q := 12) (c_X0_lentSize hE (by repeat' (first | assumption | apply trOK_bgs)) (by repeat' (first | assumption | apply trOK_bgs))) lk_RX0_36 (by decide) (by decide) rfl (by decide) rfl rfl rfl rfl rfl rfl (Nat.le_of_ble_eq_true rfl) (Nat.le_of_ble_eq_true rfl) (Nat.le_of_ble_eq_true rfl) dX0_readerSize_9 rfl ?_
  refine g_istore_n (j := 3) (q := 13) dX0_readerSize_12 rfl (by decide) rfl rfl ?_
  refine g_iload_n (q := 14) dX0_readerSize_13 rfl rfl ?_
  refine g_aload_n (q := 15) dX0_readerSize_14 rfl rfl ?_
  refine g_aload_n (q := 16) dX0_readerSize_15 rfl rfl ?_
  refine g_iload_n (q := 17) dX0_readerSize_16 rfl rfl ?_
  refine g_callVi (q := 20) (c_X0_markOfReaders hE (by repeat' (first | assumption | apply trOK_bgs)) (by repeat' (first | assumption | apply trOK_bgs))) lk_RX0_39 (by decide) (by decide) rfl (by decide) rfl rfl rfl rfl rfl rfl (Nat.le_of_ble_eq_true rfl) (Nat.le_of_ble_eq_true rfl) (Nat.le_of_ble_eq_true rfl) dX0_readerSize_17 rfl ?_
  refine g_iadd (q := 21) dX0_readerSize_20 rfl ?_
  exact g_iret dX0_readerSize_21 (pi_i (by simp only [bgs_ne _ _ (show 7 + 3 ≠ 24 by decide) (by decide), bgs_ne _ _ (show 7 + 4 ≠ 24 by decide) (by decide), bgs_ne _ _ (show 7 + 5 ≠ 24 by decide) (by decide)]) (by simp only [bgs_ne _ _ (show 7 + 3 ≠ 24 by decide) (by decide), bgs_ne _ _ (show 7 + 4 ≠ 24 by decide) (by decide), bgs_ne _ _ (show 7 + 5 ≠ 24 by decide) (by decide)]; rfl) rfl)
set_option maxRecDepth 20000 in
set_option maxHeartbeats 4000000 in
theorem c_X0_fireMark {E : EE} (hE : inj E 0 40) {σ : Sto} {τ : Stl} {s : Int32} (h : trOK σ) (hs : vp_in s 5) : Ct E 0 40 yX0_fireMark cX0_fireMark 4 (some FieldType.int) { frames := 4, cells := 0, slots := 0, locals := 87 } [.ref (E.2.1 24), .ref (E.2.1 7), .int s] σ τ (Pi (s - vSF (σ (7 + 3) (s.toNatClampNeg)) (σ (7 + 5) (s.toNatClampNeg))) (bgs σ (tFM (σ (7 + 3) (s.toNatClampNeg)))) (τ)) := by
  refine ct_of hE RX0 [some (.ref (E.2.1 24)), some (.ref (E.2.1 7)), some (.int s), none] (by decide) rfl (Nat.le_of_ble_eq_true rfl) rfl (fun X => ?_)
  refine g_aload_n (q := 1) dX0_fireMark_0 rfl rfl ?_
  refine g_bipush (q := 3) dX0_fireMark_1 cb_23 rfl ?_
  refine g_callVv (q := 6) (c_X0_begin hE (by repeat' (first | assumption | apply trOK_bgs))) lk_RX0_29 (by decide) (by decide) rfl (by decide) rfl rfl rfl rfl rfl rfl (Nat.le_of_ble_eq_true rfl) (Nat.le_of_ble_eq_true rfl) (Nat.le_of_ble_eq_true rfl) dX0_fireMark_3 rfl ?_
  refine g_aload_n (q := 7) dX0_fireMark_6 rfl rfl ?_
  refine g_iload_n (q := 8) dX0_fireMark_7 rfl rfl ?_
  refine g_callVi (q := 11) (c_X0_lentMark hE (by repeat' (first | assumption | apply trOK_bgs)) (by repeat' (first | assumption | apply trOK_bgs))) lk_RX0_45 (by decide) (by decide) rfl (by decide) rfl rfl rfl rfl rfl rfl (Nat.le_of_ble_eq_true rfl) (Nat.le_of_ble_eq_true rfl) (Nat.le_of_ble_eq_true rfl) dX0_fireMark_8 rfl ?_
  refine g_istore_n (j := 3) (q := 12) dX0_fireMark_11 rfl (by decide) rfl rfl ?_
  refine g_iload_n (q := 13) dX0_fireMark_12 rfl rfl ?_
  refine g_aload_n (q := 14) dX0_fireMark_13 rfl rfl ?_
  refine g_aload_n (q := 15) dX0_fireMark_14 rfl rfl ?_
  refine g_iload_n (q := 16) dX0_fireMark_15 rfl rfl ?_
  refine g_callVi (q := 19) (c_X0_sizeOfFires hE (by repeat' (first | assumption | apply trOK_bgs)) (by repeat' (first | assumption | apply trOK_bgs))) lk_RX0_33 (by decide) (by decide) rfl (by decide) rfl rfl rfl rfl rfl rfl (Nat.le_of_ble_eq_true rfl) (Nat.le_of_ble_eq_true rfl) (Nat.le_of_ble_eq_true rfl) dX0_fireMark_16 rfl ?_
  refine g_isub (q := 20) dX0_fireMark_19 rfl ?_
  exact g_iret dX0_fireMark_20 (pi_i (by simp only [bgs_ne _ _ (show 7 + 3 ≠ 24 by decide) (by decide), bgs_ne _ _ (show 7 + 4 ≠ 24 by decide) (by decide), bgs_ne _ _ (show 7 + 5 ≠ 24 by decide) (by decide)]) (by simp only [bgs_ne _ _ (show 7 + 3 ≠ 24 by decide) (by decide), bgs_ne _ _ (show 7 + 4 ≠ 24 by decide) (by decide), bgs_ne _ _ (show 7 + 5 ≠ 24 by decide) (by decide)]; rfl) rfl)
set_option maxRecDepth 20000 in
set_option maxHeartbeats 4000000 in
theorem c_X0_sizeOf {E : EE} (hE : inj E 0 40) {σ : Sto} {τ : Stl} {s : Int32} (h : trOK σ) (hs : vp_in s 5) : Ct E 0 40 yX0_sizeOf cX0_sizeOf 3 (some FieldType.int) { frames := 5, cells := 0, slots := 0, locals := 109 } [.ref (E.2.1 24), .ref (E.2.1 7), .int s] σ τ (Pi (vSize (σ (7 + 3) (s.toNatClampNeg)) s (σ (7 + 4) (s.toNatClampNeg)) (σ (7 + 5) (s.toNatClampNeg))) (bgs σ (tSize (σ (7 + 3) (s.toNatClampNeg)))) (τ)) := by
  refine ct_of hE RX0 [some (.ref (E.2.1 24)), some (.ref (E.2.1 7)), some (.int s)] (by decide) rfl (Nat.le_of_ble_eq_true rfl) rfl (fun X => ?_)
  refine g_aload_n (q := 1) dX0_sizeOf_0 rfl rfl ?_
  refine f1_10 (q := 4) rfl wd_165 dX0_sizeOf_1 rfl ?_
  refine g_iload_n (q := 5) dX0_sizeOf_4 rfl rfl ?_
  refine g_aldH (q := 6) (c := 3) rfl (by decide) (by decide) (show vp_in _ 5 by assumption) dX0_sizeOf_5 rfl ?_
  rcases tab_1_5 _ with c_6 | c_6 | c_6 | c_6 | c_6 | c_6
  · refine g_tabOut (t := 68) dX0_sizeOf_6 c_6 (by decide) ?_
    refine g_aload_n (q := 69) dX0_sizeOf_68 rfl rfl ?_
    refine g_aload_n (q := 70) dX0_sizeOf_69 rfl rfl ?_
    refine g_iload_n (q := 71) dX0_sizeOf_70 rfl rfl ?_
    refine g_callVi (q := 74) (c_X0_lentSize hE (by repeat' (first | assumption | apply trOK_bgs)) (by repeat' (first | assumption | apply trOK_bgs))) lk_RX0_36 (by decide) (by decide) rfl (by decide) rfl rfl rfl rfl rfl rfl (Nat.le_of_ble_eq_true rfl) (Nat.le_of_ble_eq_true rfl) (Nat.le_of_ble_eq_true rfl) dX0_sizeOf_71 rfl ?_
    exact g_iret dX0_sizeOf_74 (pi_i (by have n1 : ¬ (σ (7 + 3) (s.toNatClampNeg)) = 1 := (fun e => by rw [e] at c_6; exact absurd c_6 (by decide)); have n2 : ¬ (σ (7 + 3) (s.toNatClampNeg)) = 2 := (fun e => by rw [e] at c_6; exact absurd c_6 (by decide)); have n3 : ¬ (σ (7 + 3) (s.toNatClampNeg)) = 3 := (fun e => by rw [e] at c_6; exact absurd c_6 (by decide)); have n4 : ¬ (σ (7 + 3) (s.toNatClampNeg)) = 4 := (fun e => by rw [e] at c_6; exact absurd c_6 (by decide)); have n5 : ¬ (σ (7 + 3) (s.toNatClampNeg)) = 5 := (fun e => by rw [e] at c_6; exact absurd c_6 (by decide)); simp [vSize, n1, n2, n3, n4, n5, bgs_ne _ _ (show 7 + 3 ≠ 24 by decide) (by decide), bgs_ne _ _ (show 7 + 4 ≠ 24 by decide) (by decide), bgs_ne _ _ (show 7 + 5 ≠ 24 by decide) (by decide)]) (by have n1 : ¬ (σ (7 + 3) (s.toNatClampNeg)) = 1 := (fun e => by rw [e] at c_6; exact absurd c_6 (by decide)); have n2 : ¬ (σ (7 + 3) (s.toNatClampNeg)) = 2 := (fun e => by rw [e] at c_6; exact absurd c_6 (by decide)); have n3 : ¬ (σ (7 + 3) (s.toNatClampNeg)) = 3 := (fun e => by rw [e] at c_6; exact absurd c_6 (by decide)); have n4 : ¬ (σ (7 + 3) (s.toNatClampNeg)) = 4 := (fun e => by rw [e] at c_6; exact absurd c_6 (by decide)); have n5 : ¬ (σ (7 + 3) (s.toNatClampNeg)) = 5 := (fun e => by rw [e] at c_6; exact absurd c_6 (by decide)); simp [tSize, n1, n2, n3, n4, n5]) rfl)
  · refine g_tabV (t := 40) c_6 dX0_sizeOf_6 (by decide) (by decide) rfl (by decide) ?_
    refine g_aload_n (q := 41) dX0_sizeOf_40 rfl rfl ?_
    refine g_aload_n (q := 42) dX0_sizeOf_41 rfl rfl ?_
    refine g_iload_n (q := 43) dX0_sizeOf_42 rfl rfl ?_
    refine g_callVi (q := 46) (c_X0_readerSize hE (by repeat' (first | assumption | apply trOK_bgs)) (by repeat' (first | assumption | apply trOK_bgs))) lk_RX0_25 (by decide) (by decide) rfl (by decide) rfl rfl rfl rfl rfl rfl (Nat.le_of_ble_eq_true rfl) (Nat.le_of_ble_eq_true rfl) (Nat.le_of_ble_eq_true rfl) dX0_sizeOf_43 rfl ?_
    exact g_iret dX0_sizeOf_46 (pi_i (by (try simp only [bgs_ne _ _ (show 7 + 3 ≠ 24 by decide) (by decide), bgs_ne _ _ (show 7 + 4 ≠ 24 by decide) (by decide), bgs_ne _ _ (show 7 + 5 ≠ 24 by decide) (by decide)]); unfold vSize; rw [c_6, if_pos (Or.inl rfl)]) (by (try simp only [bgs_ne _ _ (show 7 + 3 ≠ 24 by decide) (by decide), bgs_ne _ _ (show 7 + 4 ≠ 24 by decide) (by decide), bgs_ne _ _ (show 7 + 5 ≠ 24 by decide) (by decide)]); unfold tSize; rw [c_6, if_pos (Or.inl rfl)]) rfl)
  · refine g_tabV (t := 47) c_6 dX0_sizeOf_6 (by decide) (by decide) rfl (by decide) ?_
    refine g_aload_n (q := 48) dX0_sizeOf_47 rfl rfl ?_
    refine g_bipush (q := 50) dX0_sizeOf_48 cb_12 rfl ?_
    refine g_callVv (q := 53) (c_X0_begin hE (by repeat' (first | assumption | apply trOK_bgs))) lk_RX0_29 (by decide) (by decide) rfl (by decide) rfl rfl rfl rfl rfl rfl (Nat.le_of_ble_eq_true rfl) (Nat.le_of_ble_eq_true rfl) (Nat.le_of_ble_eq_true rfl) dX0_sizeOf_50 rfl ?_
    refine g_aload_n (q := 54) dX0_sizeOf_53 rfl rfl ?_
    refine g_aload_n (q := 55) dX0_sizeOf_54 rfl rfl ?_
    refine g_iload_n (q := 56) dX0_sizeOf_55 rfl rfl ?_
    refine g_callVi (q := 59) (c_X0_readerSize hE (by repeat' (first | assumption | apply trOK_bgs)) (by repeat' (first | assumption | apply trOK_bgs))) lk_RX0_25 (by decide) (by decide) rfl (by decide) rfl rfl rfl rfl rfl rfl (Nat.le_of_ble_eq_true rfl) (Nat.le_of_ble_eq_true rfl) (Nat.le_of_ble_eq_true rfl) dX0_sizeOf_56 rfl ?_
    refine g_ineg (q := 60) dX0_sizeOf_59 rfl ?_
    exact g_iret dX0_sizeOf_60 (pi_i (by (try simp only [bgs_ne _ _ (show 7 + 3 ≠ 24 by decide) (by decide), bgs_ne _ _ (show 7 + 4 ≠ 24 by decide) (by decide), bgs_ne _ _ (show 7 + 5 ≠ 24 by decide) (by decide)]); unfold vSize; rw [c_6, if_neg (by decide), if_pos rfl]) (by (try simp only [bgs_ne _ _ (show 7 + 3 ≠ 24 by decide) (by decide), bgs_ne _ _ (show 7 + 4 ≠ 24 by decide) (by decide), bgs_ne _ _ (show 7 + 5 ≠ 24 by decide) (by decide)]); unfold tSize; rw [c_6, if_neg (by decide), if_pos rfl]; exact (bgs_cons _ _ _).symm) rfl)
  · refine g_tabV (t := 40) c_6 dX0_sizeOf_6 (by decide) (by decide) rfl (by decide) ?_
    refine g_aload_n (q := 41) dX0_sizeOf_40 rfl rfl ?_
    refine g_aload_n (q := 42) dX0_sizeOf_41 rfl rfl ?_
    refine g_iload_n (q := 43) dX0_sizeOf_42 rfl rfl ?_
    refine g_callVi (q := 46) (c_X0_readerSize hE (by repeat' (first | assumption | apply trOK_bgs)) (by repeat' (first | assumption | apply trOK_bgs))) lk_RX0_25 (by decide) (by decide) rfl (by decide) rfl rfl rfl rfl rfl rfl (Nat.le_of_ble_eq_true rfl) (Nat.le_of_ble_eq_true rfl) (Nat.le_of_ble_eq_true rfl) dX0_sizeOf_43 rfl ?_
    exact g_iret dX0_sizeOf_46 (pi_i (by (try simp only [bgs_ne _ _ (show 7 + 3 ≠ 24 by decide) (by decide), bgs_ne _ _ (show 7 + 4 ≠ 24 by decide) (by decide), bgs_ne _ _ (show 7 + 5 ≠ 24 by decide) (by decide)]); unfold vSize; rw [c_6, if_pos (Or.inr rfl)]) (by (try simp only [bgs_ne _ _ (show 7 + 3 ≠ 24 by decide) (by decide), bgs_ne _ _ (show 7 + 4 ≠ 24 by decide) (by decide), bgs_ne _ _ (show 7 + 5 ≠ 24 by decide) (by decide)]); unfold tSize; rw [c_6, if_pos (Or.inr rfl)]) rfl)
  · refine g_tabV (t := 61) c_6 dX0_sizeOf_6 (by decide) (by decide) rfl (by decide) ?_
    refine g_aload_n (q := 62) dX0_sizeOf_61 rfl rfl ?_
    refine g_aload_n (q := 63) dX0_sizeOf_62 rfl rfl ?_
    refine g_iload_n (q := 64) dX0_sizeOf_63 rfl rfl ?_
    refine g_callVi (q := 67) (c_X0_sizeOfFires hE (by repeat' (first | assumption | apply trOK_bgs)) (by repeat' (first | assumption | apply trOK_bgs))) lk_RX0_33 (by decide) (by decide) rfl (by decide) rfl rfl rfl rfl rfl rfl (Nat.le_of_ble_eq_true rfl) (Nat.le_of_ble_eq_true rfl) (Nat.le_of_ble_eq_true rfl) dX0_sizeOf_64 rfl ?_
    exact g_iret dX0_sizeOf_67 (pi_i (by (try simp only [bgs_ne _ _ (show 7 + 3 ≠ 24 by decide) (by decide), bgs_ne _ _ (show 7 + 4 ≠ 24 by decide) (by decide), bgs_ne _ _ (show 7 + 5 ≠ 24 by decide) (by decide)]); unfold vSize; rw [c_6, if_neg (by decide), if_neg (by decide), if_pos (Or.inl rfl)]) (by (try simp only [bgs_ne _ _ (show 7 + 3 ≠ 24 by decide) (by decide), bgs_ne _ _ (show 7 + 4 ≠ 24 by decide) (by decide), bgs_ne _ _ (show 7 + 5 ≠ 24 by decide) (by decide)]); unfold tSize; rw [c_6, if_neg (by decide), if_neg (by decide), if_pos (Or.inl rfl)]) rfl)
  · refine g_tabV (t := 61) c_6 dX0_sizeOf_6 (by decide) (by decide) rfl (by decide) ?_
    refine g_aload_n (q := 62) dX0_sizeOf_61 rfl rfl ?_
    refine g_aload_n (q := 63) dX0_sizeOf_62 rfl rfl ?_
    refine g_iload_n (q := 64) dX0_sizeOf_63 rfl rfl ?_
    refine g_callVi (q := 67) (c_X0_sizeOfFires hE (by repeat' (first | assumption | apply trOK_bgs)) (by repeat' (first | assumption | apply trOK_bgs))) lk_RX0_33 (by decide) (by decide) rfl (by decide) rfl rfl rfl rfl rfl rfl (Nat.le_of_ble_eq_true rfl) (Nat.le_of_ble_eq_true rfl) (Nat.le_of_ble_eq_true rfl) dX0_sizeOf_64 rfl ?_
    exact g_iret dX0_sizeOf_67 (pi_i (by (try simp only [bgs_ne _ _ (show 7 + 3 ≠ 24 by decide) (by decide), bgs_ne _ _ (show 7 + 4 ≠ 24 by decide) (by decide), bgs_ne _ _ (show 7 + 5 ≠ 24 by decide) (by decide)]); unfold vSize; rw [c_6, if_neg (by decide), if_neg (by decide), if_pos (Or.inr rfl)]) (by (try simp only [bgs_ne _ _ (show 7 + 3 ≠ 24 by decide) (by decide), bgs_ne _ _ (show 7 + 4 ≠ 24 by decide) (by decide), bgs_ne _ _ (show 7 + 5 ≠ 24 by decide) (by decide)]); unfold tSize; rw [c_6, if_neg (by decide), if_neg (by decide), if_pos (Or.inr rfl)]) rfl)
set_option maxRecDepth 20000 in
set_option maxHeartbeats 4000000 in
theorem c_X0_markOf {E : EE} (hE : inj E 0 40) {σ : Sto} {τ : Stl} {s : Int32} (h : trOK σ) (hs : vp_in s 5) : Ct E 0 40 yX0_markOf cX0_markOf 3 (some FieldType.int) { frames := 5, cells := 0, slots := 0, locals := 110 } [.ref (E.2.1 24), .ref (E.2.1 7), .int s] σ τ (Pi (vMark (σ (7 + 3) (s.toNatClampNeg)) s (σ (7 + 4) (s.toNatClampNeg)) (σ (7 + 5) (s.toNatClampNeg))) (bgs σ (tMark (σ (7 + 3) (s.toNatClampNeg)))) (τ)) := by
  refine ct_of hE RX0 [some (.ref (E.2.1 24)), some (.ref (E.2.1 7)), some (.int s)] (by decide) rfl (Nat.le_of_ble_eq_true rfl) rfl (fun X => ?_)
  refine g_aload_n (q := 1) dX0_markOf_0 rfl rfl ?_
  refine f1_10 (q := 4) rfl wd_165 dX0_markOf_1 rfl ?_
  refine g_iload_n (q := 5) dX0_markOf_4 rfl rfl ?_
  refine g_aldH (q := 6) (c := 3) rfl (by decide) (by decide) (show vp_in _ 5 by assumption) dX0_markOf_5 rfl ?_
  rcases tab_1_5 _ with c_6 | c_6 | c_6 | c_6 | c_6 | c_6
  · refine g_tabOut (t := 54) dX0_markOf_6 c_6 (by decide) ?_
    refine g_aload_n (q := 55) dX0_markOf_54 rfl rfl ?_
    refine g_iload_n (q := 56) dX0_markOf_55 rfl rfl ?_
    refine g_callVi (q := 59) (c_X0_lentMark hE (by repeat' (first | assumption | apply trOK_bgs)) (by repeat' (first | assumption | apply trOK_bgs))) lk_RX0_45 (by decide) (by decide) rfl (by decide) rfl rfl rfl rfl rfl rfl (Nat.le_of_ble_eq_true rfl) (Nat.le_of_ble_eq_true rfl) (Nat.le_of_ble_eq_true rfl) dX0_markOf_56 rfl ?_
    exact g_iret dX0_markOf_59 (pi_i (by have n1 : ¬ (σ (7 + 3) (s.toNatClampNeg)) = 1 := (fun e => by rw [e] at c_6; exact absurd c_6 (by decide)); have n2 : ¬ (σ (7 + 3) (s.toNatClampNeg)) = 2 := (fun e => by rw [e] at c_6; exact absurd c_6 (by decide)); have n3 : ¬ (σ (7 + 3) (s.toNatClampNeg)) = 3 := (fun e => by rw [e] at c_6; exact absurd c_6 (by decide)); have n4 : ¬ (σ (7 + 3) (s.toNatClampNeg)) = 4 := (fun e => by rw [e] at c_6; exact absurd c_6 (by decide)); have n5 : ¬ (σ (7 + 3) (s.toNatClampNeg)) = 5 := (fun e => by rw [e] at c_6; exact absurd c_6 (by decide)); simp [vMark, n1, n2, n3, n4, n5, bgs_ne _ _ (show 7 + 3 ≠ 24 by decide) (by decide), bgs_ne _ _ (show 7 + 4 ≠ 24 by decide) (by decide), bgs_ne _ _ (show 7 + 5 ≠ 24 by decide) (by decide)]) (by have n1 : ¬ (σ (7 + 3) (s.toNatClampNeg)) = 1 := (fun e => by rw [e] at c_6; exact absurd c_6 (by decide)); have n2 : ¬ (σ (7 + 3) (s.toNatClampNeg)) = 2 := (fun e => by rw [e] at c_6; exact absurd c_6 (by decide)); have n3 : ¬ (σ (7 + 3) (s.toNatClampNeg)) = 3 := (fun e => by rw [e] at c_6; exact absurd c_6 (by decide)); have n4 : ¬ (σ (7 + 3) (s.toNatClampNeg)) = 4 := (fun e => by rw [e] at c_6; exact absurd c_6 (by decide)); have n5 : ¬ (σ (7 + 3) (s.toNatClampNeg)) = 5 := (fun e => by rw [e] at c_6; exact absurd c_6 (by decide)); simp [tMark, n1, n2, n3, n4, n5]) rfl)
  · refine g_tabV (t := 40) c_6 dX0_markOf_6 (by decide) (by decide) rfl (by decide) ?_
    refine g_aload_n (q := 41) dX0_markOf_40 rfl rfl ?_
    refine g_aload_n (q := 42) dX0_markOf_41 rfl rfl ?_
    refine g_iload_n (q := 43) dX0_markOf_42 rfl rfl ?_
    refine g_callVi (q := 46) (c_X0_markOfReaders hE (by repeat' (first | assumption | apply trOK_bgs)) (by repeat' (first | assumption | apply trOK_bgs))) lk_RX0_39 (by decide) (by decide) rfl (by decide) rfl rfl rfl rfl rfl rfl (Nat.le_of_ble_eq_true rfl) (Nat.le_of_ble_eq_true rfl) (Nat.le_of_ble_eq_true rfl) dX0_markOf_43 rfl ?_
    exact g_iret dX0_markOf_46 (pi_i (by (try simp only [bgs_ne _ _ (show 7 + 3 ≠ 24 by decide) (by decide), bgs_ne _ _ (show 7 + 4 ≠ 24 by decide) (by decide), bgs_ne _ _ (show 7 + 5 ≠ 24 by decide) (by decide)]); unfold vMark; rw [c_6, if_pos (Or.inl rfl)]) (by (try simp only [bgs_ne _ _ (show 7 + 3 ≠ 24 by decide) (by decide), bgs_ne _ _ (show 7 + 4 ≠ 24 by decide) (by decide), bgs_ne _ _ (show 7 + 5 ≠ 24 by decide) (by decide)]); unfold tMark; rw [c_6, if_pos (Or.inl rfl)]) rfl)
  · refine g_tabV (t := 40) c_6 dX0_markOf_6 (by decide) (by decide) rfl (by decide) ?_
    refine g_aload_n (q := 41) dX0_markOf_40 rfl rfl ?_
    refine g_aload_n (q := 42) dX0_markOf_41 rfl rfl ?_
    refine g_iload_n (q := 43) dX0_markOf_42 rfl rfl ?_
    refine g_callVi (q := 46) (c_X0_markOfReaders hE (by repeat' (first | assumption | apply trOK_bgs)) (by repeat' (first | assumption | apply trOK_bgs))) lk_RX0_39 (by decide) (by decide) rfl (by decide) rfl rfl rfl rfl rfl rfl (Nat.le_of_ble_eq_true rfl) (Nat.le_of_ble_eq_true rfl) (Nat.le_of_ble_eq_true rfl) dX0_markOf_43 rfl ?_
    exact g_iret dX0_markOf_46 (pi_i (by (try simp only [bgs_ne _ _ (show 7 + 3 ≠ 24 by decide) (by decide), bgs_ne _ _ (show 7 + 4 ≠ 24 by decide) (by decide), bgs_ne _ _ (show 7 + 5 ≠ 24 by decide) (by decide)]); unfold vMark; rw [c_6, if_pos (Or.inr (Or.inl rfl))]) (by (try simp only [bgs_ne _ _ (show 7 + 3 ≠ 24 by decide) (by decide), bgs_ne _ _ (show 7 + 4 ≠ 24 by decide) (by decide), bgs_ne _ _ (show 7 + 5 ≠ 24 by decide) (by decide)]); unfold tMark; rw [c_6, if_pos (Or.inr (Or.inl rfl))]) rfl)
  · refine g_tabV (t := 40) c_6 dX0_markOf_6 (by decide) (by decide) rfl (by decide) ?_
    refine g_aload_n (q := 41) dX0_markOf_40 rfl rfl ?_
    refine g_aload_n (q := 42) dX0_markOf_41 rfl rfl ?_
    refine g_iload_n (q := 43) dX0_markOf_42 rfl rfl ?_
    refine g_callVi (q := 46) (c_X0_markOfReaders hE (by repeat' (first | assumption | apply trOK_bgs)) (by repeat' (first | assumption | apply trOK_bgs))) lk_RX0_39 (by decide) (by decide) rfl (by decide) rfl rfl rfl rfl rfl rfl (Nat.le_of_ble_eq_true rfl) (Nat.le_of_ble_eq_true rfl) (Nat.le_of_ble_eq_true rfl) dX0_markOf_43 rfl ?_
    exact g_iret dX0_markOf_46 (pi_i (by (try simp only [bgs_ne _ _ (show 7 + 3 ≠ 24 by decide) (by decide), bgs_ne _ _ (show 7 + 4 ≠ 24 by decide) (by decide), bgs_ne _ _ (show 7 + 5 ≠ 24 by decide) (by decide)]); unfold vMark; rw [c_6, if_pos (Or.inr (Or.inr rfl))]) (by (try simp only [bgs_ne _ _ (show 7 + 3 ≠ 24 by decide) (by decide), bgs_ne _ _ (show 7 + 4 ≠ 24 by decide) (by decide), bgs_ne _ _ (show 7 + 5 ≠ 24 by decide) (by decide)]); unfold tMark; rw [c_6, if_pos (Or.inr (Or.inr rfl))]) rfl)
  · refine g_tabV (t := 47) c_6 dX0_markOf_6 (by decide) (by decide) rfl (by decide) ?_
    refine g_aload_n (q := 48) dX0_markOf_47 rfl rfl ?_
    refine g_aload_n (q := 49) dX0_markOf_48 rfl rfl ?_
    refine g_iload_n (q := 50) dX0_markOf_49 rfl rfl ?_
    refine g_callVi (q := 53) (c_X0_fireMark hE (by repeat' (first | assumption | apply trOK_bgs)) (by repeat' (first | assumption | apply trOK_bgs))) lk_RX0_42 (by decide) (by decide) rfl (by decide) rfl rfl rfl rfl rfl rfl (Nat.le_of_ble_eq_true rfl) (Nat.le_of_ble_eq_true rfl) (Nat.le_of_ble_eq_true rfl) dX0_markOf_50 rfl ?_
    exact g_iret dX0_markOf_53 (pi_i (by (try simp only [bgs_ne _ _ (show 7 + 3 ≠ 24 by decide) (by decide), bgs_ne _ _ (show 7 + 4 ≠ 24 by decide) (by decide), bgs_ne _ _ (show 7 + 5 ≠ 24 by decide) (by decide)]); unfold vMark; rw [c_6, if_neg (by decide), if_pos (Or.inl rfl)]) (by (try simp only [bgs_ne _ _ (show 7 + 3 ≠ 24 by decide) (by decide), bgs_ne _ _ (show 7 + 4 ≠ 24 by decide) (by decide), bgs_ne _ _ (show 7 + 5 ≠ 24 by decide) (by decide)]); unfold tMark; rw [c_6, if_neg (by decide), if_pos (Or.inl rfl)]) rfl)
  · refine g_tabV (t := 47) c_6 dX0_markOf_6 (by decide) (by decide) rfl (by decide) ?_
    refine g_aload_n (q := 48) dX0_markOf_47 rfl rfl ?_
    refine g_aload_n (q := 49) dX0_markOf_48 rfl rfl ?_
    refine g_iload_n (q := 50) dX0_markOf_49 rfl rfl ?_
    refine g_callVi (q := 53) (c_X0_fireMark hE (by repeat' (first | assumption | apply trOK_bgs)) (by repeat' (first | assumption | apply trOK_bgs))) lk_RX0_42 (by decide) (by decide) rfl (by decide) rfl rfl rfl rfl rfl rfl (Nat.le_of_ble_eq_true rfl) (Nat.le_of_ble_eq_true rfl) (Nat.le_of_ble_eq_true rfl) dX0_markOf_50 rfl ?_
    exact g_iret dX0_markOf_53 (pi_i (by (try simp only [bgs_ne _ _ (show 7 + 3 ≠ 24 by decide) (by decide), bgs_ne _ _ (show 7 + 4 ≠ 24 by decide) (by decide), bgs_ne _ _ (show 7 + 5 ≠ 24 by decide) (by decide)]); unfold vMark; rw [c_6, if_neg (by decide), if_pos (Or.inr rfl)]) (by (try simp only [bgs_ne _ _ (show 7 + 3 ≠ 24 by decide) (by decide), bgs_ne _ _ (show 7 + 4 ≠ 24 by decide) (by decide), bgs_ne _ _ (show 7 + 5 ≠ 24 by decide) (by decide)]); unfold tMark; rw [c_6, if_neg (by decide), if_pos (Or.inr rfl)]) rfl)
