def trM (σ : Sto) : Prop := vp_in (σ 40 22) 17
def bgM (σ : Sto) (b : Int32) : Sto := if 16 ≤ σ 40 22 then σ else upc (upc σ 52 (upd (σ 52) ((σ 40 22).toNatClampNeg) b)) 40 (upd (σ 40) 22 (σ 40 22 + 1))
def bgsM (σ : Sto) (l : List Int32) : Sto := l.foldl bgM σ
theorem bgsM_cons (σ : Sto) (b : Int32) (l : List Int32) : bgsM σ (b :: l) = bgsM (bgsM σ [b]) l := rfl
theorem bgM_ne (σ : Sto) (b : Int32) {k : Nat} (h1 : k ≠ 40) (h2 : k ≠ 52) : bgM σ b k = σ k := by
  unfold bgM
  split
  · rfl
  · rw [upc_ne h1, upc_ne h2]
theorem bgsM_ne (l : List Int32) : ∀ (σ : Sto) {k : Nat}, k ≠ 40 → k ≠ 52 → bgsM σ l k = σ k := by
  induction l with
  | nil => intro σ k _ _; rfl
  | cons b l ih => intro σ k h1 h2; exact (ih (bgM σ b) h1 h2).trans (bgM_ne σ b h1 h2)
theorem bgsM_44 (σ : Sto) (l : List Int32) : bgsM σ l 44 = σ 44 := bgsM_ne l σ (by decide) (by decide)
theorem trM_lt {σ : Sto} (h : trM σ) (hc : ¬ 16 ≤ σ 40 22) : vp_in (σ 40 22) 16 := by
  obtain ⟨e, hl⟩ := vp_to h (by decide)
  rw [e] at hc ⊢
  refine vp_in_nI ?_ (by decide)
  rcases Nat.lt_or_ge ((σ 40 22).toNatClampNeg) 16 with q | q
  · exact q
  · exact absurd (by rw [show (16 : Int32) = nI 16 from rfl]; exact nI_le q (by omega)) hc
theorem trM_bg {σ : Sto} (h : trM σ) (b : Int32) : trM (bgM σ b) := by
  unfold bgM
  split
  · exact h
  · rename_i hc
    unfold trM
    rw [upc_same, upd_same]
    have e := vp_to (trM_lt h hc) (by decide)
    rw [e.1, nI_1]
    exact vp_in_nI (by omega) (by decide)
theorem trM_bgs (l : List Int32) : ∀ {σ : Sto}, trM σ → trM (bgsM σ l) := by
  induction l with
  | nil => intro σ h; exact h
  | cons b l ih => intro σ h; exact ih (trM_bg h b)
def tMkM (k : Int32) : List Int32 := if k = 2 then [24, 21, 20] else if k = 3 then [22, 21, 20] else if k = 1 then [21, 20] else 23 :: 20 :: tSF k
def vMkM (k s pl f : Int32) : Int32 := if k = 2 then 2 * (s + pl) else if k = 3 then s + pl - 1000 else if k = 1 then s + pl else s - vSF k f
def tSzM (k : Int32) : List Int32 := if k = 2 then 12 :: 11 :: 10 :: tMkM k else if k < 4 then 11 :: 10 :: tMkM k else tSF k
def vSzM (k s pl f : Int32) : Int32 := if k = 2 then -(f + vMkM k s pl f) else if k < 4 then f + vMkM k s pl f else vSF k f
def stAM (σ : Sto) : Sto := upc σ 40 (upd (σ 40) 22 0)
def q_ask (σ : Sto) (s u : Int32) : Int32 × Sto := if wi s 0 (σ 44 5 - 1) = false then (-1000001, σ) else if wi u 0 1 = false then (-1000001, σ) else if u = 0 then (vSzM (σ 44 (37 + s.toNatClampNeg)) s (σ 44 (42 + s.toNatClampNeg)) (σ 44 (47 + s.toNatClampNeg)), bgsM (stAM σ) (tSzM (σ 44 (37 + s.toNatClampNeg)))) else (vMkM (σ 44 (37 + s.toNatClampNeg)) s (σ 44 (42 + s.toNatClampNeg)) (σ 44 (47 + s.toNatClampNeg)), bgsM (stAM σ) (tMkM (σ 44 (37 + s.toNatClampNeg))))
def q_trace (σ : Sto) (i : Int32) : Int32 × Sto := if wi i 0 (σ 40 22 - 1) = false then (-1000000, σ) else (σ 52 (i.toNatClampNeg), σ)
def cntM (f : Nat → Int32) : Nat → Int32
  | 0 => 0
  | i + 1 => if f i < 0 then cntM f i else cntM f i + 1
def q_count (σ : Sto) (w : Int32) : Int32 × Sto := if w = 0 then (cntM (σ 42) 8, σ) else if w = 1 then (σ 44 0, σ) else if w = 2 then (σ 44 4, σ) else if w = 3 then (σ 44 5, σ) else if w = 4 then (σ 44 6, σ) else if w = 5 then (s_ac (fun r => σ 44 (7 + r)) ((σ 44 0).toNatClampNeg), σ) else if w = 6 then (s_opM (σ 44) ((σ 44 4).toNatClampNeg), σ) else if w = 7 then (σ 40 17, σ) else if w = 8 then (σ 40 8, σ) else (-1000001, σ)
def q_image (σ : Sto) (k : Int32) : Int32 × Sto := if wi k 0 1 = false then (-1000001, σ) else if σ 40 4 = 0 then (-1000002, σ) else (1, upc (upc σ 51 (va_cpy (σ 44) (σ 51) 0 (52 * k.toNatClampNeg) 52)) 50 (upd (σ 50) (k.toNatClampNeg) 1))
def q_restore (σ : Sto) (k : Int32) : Int32 × Sto := if wi k 0 1 = false then (-1000001, σ) else if σ 50 (k.toNatClampNeg) = 0 then (-1000002, σ) else (1, upc (upc σ 44 (fun j => σ 51 (52 * k.toNatClampNeg + j))) 40 (upd (σ 40) 17 0))
set_option maxRecDepth 20000 in
set_option maxHeartbeats 4000000 in
theorem c_X7_begin {E : EE} (hE : inj E 40 13) {σ : Sto} {τ : Stl} {b : Int32} (h : trM σ) : Ct E 40 13 yX7_begin cX7_begin 2 none { frames := 0, cells := 0, slots := 0, locals := 0 } [.ref (E.2.1 40), .int b] σ τ (Pv (bgsM σ [b]) (τ)) := by
  refine ct_of hE RX7 [some (.ref (E.2.1 40)), some (.int b)] (by decide) rfl (Nat.le_of_ble_eq_true rfl) rfl (fun X => ?_)
  refine g_aload_n (q := 1) dX7_begin_0 rfl rfl ?_
  refine f7_22 (q := 4) wd_870 dX7_begin_1 rfl ?_
  refine g_bipush (q := 6) dX7_begin_4 cb_16 rfl ?_
  refine g_icmp_ge (t := 29) (q := 9) dX7_begin_6 (by decide) rfl (fun c_6 => ?_) (fun c_6 => ?_)
  · exact g_vret dX7_begin_29 (pv_i (by show _ = bgM σ b; unfold bgM; rw [if_pos c_6]) rfl)
  · refine g_aload_n (q := 10) dX7_begin_9 rfl rfl ?_
    refine f7_21 (q := 13) wd_869 dX7_begin_10 rfl ?_
    refine g_aload_n (q := 14) dX7_begin_13 rfl rfl ?_
    refine f7_22 (q := 17) wd_870 dX7_begin_14 rfl ?_
    refine g_iload_n (q := 18) dX7_begin_17 rfl rfl ?_
    have et := vp_to (trM_lt h c_6) (by decide)
    refine g_iastJ (q := 19) (k := 52) (j := (σ 40 22).toNatClampNeg) (N := 16) (by decide) (by decide) rfl rfl (by decide) et.1 (by omega) dX7_begin_18 rfl ?_
    refine g_aload_n (q := 20) dX7_begin_19 rfl rfl ?_
    refine g_dup (q := 21) dX7_begin_20 rfl rfl ?_
    refine f7_22 (q := 24) wd_870 dX7_begin_21 rfl ?_
    refine g_iconst (q := 25) dX7_begin_24 ci_1 rfl ?_
    refine g_iadd (q := 26) dX7_begin_25 rfl ?_
    refine p7_22 (q := 29) wd_870 dX7_begin_26 rfl ?_
    exact g_vret dX7_begin_29 (pv_i (by show _ = bgM σ b; unfold bgM; rw [if_neg c_6]; rfl) rfl)
set_option maxRecDepth 20000 in
set_option maxHeartbeats 4000000 in
theorem c_X7_lent {E : EE} (hE : inj E 40 13) {σ : Sto} {τ : Stl} {s b : Int32} (h : trM σ) (hs : vp_in s 5) : Ct E 40 13 yX7_lent cX7_lent 3 (some FieldType.int) { frames := 1, cells := 0, slots := 0, locals := 21 } [.ref (E.2.1 40), .int s, .int b] σ τ (Pi (if b = 10 then (σ 44 (47 + s.toNatClampNeg)) else s) (bgsM σ ([b])) (τ)) := by
  refine ct_of hE RX7 [some (.ref (E.2.1 40)), some (.int s), some (.int b)] (by decide) rfl (Nat.le_of_ble_eq_true rfl) rfl (fun X => ?_)
  have es := vp_to hs (by decide)
  refine g_aload_n (q := 1) dX7_lent_0 rfl rfl ?_
  refine g_iload_n (q := 2) dX7_lent_1 rfl rfl ?_
  refine g_callVv (q := 5) (c_X7_begin hE (by repeat' (first | assumption | apply trM_bgs))) lk_RX7_252 (by decide) (by decide) rfl (by decide) rfl rfl rfl rfl rfl rfl (Nat.le_of_ble_eq_true rfl) (Nat.le_of_ble_eq_true rfl) (Nat.le_of_ble_eq_true rfl) dX7_lent_2 rfl ?_
  refine g_iload_n (q := 6) dX7_lent_5 rfl rfl ?_
  refine g_bipush (q := 8) dX7_lent_6 cb_10 rfl ?_
  refine g_icmp_ne (t := 23) (q := 11) dX7_lent_8 (by decide) rfl (fun c_8 => ?_) (fun c_8 => ?_)
  · refine g_iload_n (q := 24) dX7_lent_23 rfl rfl ?_
    exact g_iret dX7_lent_24 (pi_i (by simp only [bgsM_44, c_8, if_true, if_false]) (by rfl) rfl)
  · refine g_aload_n (q := 12) dX7_lent_11 rfl rfl ?_
    refine f7_5 (q := 15) wd_853 dX7_lent_12 rfl ?_
    refine g_bipush (q := 17) dX7_lent_15 cb_47 rfl ?_
    refine g_iload_n (q := 18) dX7_lent_17 rfl rfl ?_
    refine g_iadd (q := 19) dX7_lent_18 rfl ?_
    refine g_ialdJ (q := 20) (k := 44) (j := (47 + s.toNatClampNeg)) (N := 52) (by decide) (by decide) rfl rfl (by decide) (ad2 (show (47 : Int32) = nI 47 from rfl) es.1) (by omega) dX7_lent_19 rfl ?_
    refine g_goto (t := 24) dX7_lent_20 (by decide) ?_
    exact g_iret dX7_lent_24 (pi_i (by simp only [bgsM_44, c_8, if_true, if_false]) (by rfl) rfl)
set_option maxRecDepth 20000 in
set_option maxHeartbeats 4000000 in
theorem c_X7_readMark {E : EE} (hE : inj E 40 13) {σ : Sto} {τ : Stl} {s : Int32} (h : trM σ) (hs : vp_in s 5) : Ct E 40 13 yX7_readMark cX7_readMark 2 (some FieldType.int) { frames := 2, cells := 0, slots := 0, locals := 43 } [.ref (E.2.1 40), .int s] σ τ (Pi (s + (σ 44 (42 + s.toNatClampNeg))) (bgsM σ ([21, 20])) (τ)) := by
  refine ct_of hE RX7 [some (.ref (E.2.1 40)), some (.int s)] (by decide) rfl (Nat.le_of_ble_eq_true rfl) rfl (fun X => ?_)
  have es := vp_to hs (by decide)
  refine g_aload_n (q := 1) dX7_readMark_0 rfl rfl ?_
  refine g_bipush (q := 3) dX7_readMark_1 cb_21 rfl ?_
  refine g_callVv (q := 6) (c_X7_begin hE (by repeat' (first | assumption | apply trM_bgs))) lk_RX7_252 (by decide) (by decide) rfl (by decide) rfl rfl rfl rfl rfl rfl (Nat.le_of_ble_eq_true rfl) (Nat.le_of_ble_eq_true rfl) (Nat.le_of_ble_eq_true rfl) dX7_readMark_3 rfl ?_
  refine g_aload_n (q := 7) dX7_readMark_6 rfl rfl ?_
  refine g_iload_n (q := 8) dX7_readMark_7 rfl rfl ?_
  refine g_bipush (q := 10) dX7_readMark_8 cb_20 rfl ?_
  refine g_callVi (q := 13) (c_X7_lent hE (by repeat' (first | assumption | apply trM_bgs)) (by repeat' (first | assumption | apply trM_bgs))) lk_RX7_255 (by decide) (by decide) rfl (by decide) rfl rfl rfl rfl rfl rfl (Nat.le_of_ble_eq_true rfl) (Nat.le_of_ble_eq_true rfl) (Nat.le_of_ble_eq_true rfl) dX7_readMark_10 rfl ?_
  refine g_aload_n (q := 14) dX7_readMark_13 rfl rfl ?_
  refine f7_5 (q := 17) wd_853 dX7_readMark_14 rfl ?_
  refine g_bipush (q := 19) dX7_readMark_17 cb_42 rfl ?_
  refine g_iload_n (q := 20) dX7_readMark_19 rfl rfl ?_
  refine g_iadd (q := 21) dX7_readMark_20 rfl ?_
  refine g_ialdJ (q := 22) (k := 44) (j := (42 + s.toNatClampNeg)) (N := 52) (by decide) (by decide) rfl rfl (by decide) (ad2 (show (42 : Int32) = nI 42 from rfl) es.1) (by omega) dX7_readMark_21 rfl ?_
  refine g_iadd (q := 23) dX7_readMark_22 rfl ?_
  exact g_iret dX7_readMark_23 (pi_i (by simp only [bgsM_44, show ((20 : Int32) = 10) = False from by decide, if_false]) (by rfl) rfl)
set_option maxRecDepth 20000 in
set_option maxHeartbeats 4000000 in
theorem c_X7_fireSize {E : EE} (hE : inj E 40 13) {σ : Sto} {τ : Stl} {s : Int32} (h : trM σ) (hs : vp_in s 5) : Ct E 40 13 yX7_fireSize cX7_fireSize 2 (some FieldType.int) { frames := 2, cells := 0, slots := 0, locals := 43 } [.ref (E.2.1 40), .int s] σ τ (Pi ((σ 44 (47 + s.toNatClampNeg)) - 100) (bgsM σ ([13, 10])) (τ)) := by
  refine ct_of hE RX7 [some (.ref (E.2.1 40)), some (.int s)] (by decide) rfl (Nat.le_of_ble_eq_true rfl) rfl (fun X => ?_)
  have es := vp_to hs (by decide)
  refine g_aload_n (q := 1) dX7_fireSize_0 rfl rfl ?_
  refine g_bipush (q := 3) dX7_fireSize_1 cb_13 rfl ?_
  refine g_callVv (q := 6) (c_X7_begin hE (by repeat' (first | assumption | apply trM_bgs))) lk_RX7_252 (by decide) (by decide) rfl (by decide) rfl rfl rfl rfl rfl rfl (Nat.le_of_ble_eq_true rfl) (Nat.le_of_ble_eq_true rfl) (Nat.le_of_ble_eq_true rfl) dX7_fireSize_3 rfl ?_
  refine g_aload_n (q := 7) dX7_fireSize_6 rfl rfl ?_
  refine g_iload_n (q := 8) dX7_fireSize_7 rfl rfl ?_
  refine g_bipush (q := 10) dX7_fireSize_8 cb_10 rfl ?_
  refine g_callVi (q := 13) (c_X7_lent hE (by repeat' (first | assumption | apply trM_bgs)) (by repeat' (first | assumption | apply trM_bgs))) lk_RX7_255 (by decide) (by decide) rfl (by decide) rfl rfl rfl rfl rfl rfl (Nat.le_of_ble_eq_true rfl) (Nat.le_of_ble_eq_true rfl) (Nat.le_of_ble_eq_true rfl) dX7_fireSize_10 rfl ?_
  refine g_bipush (q := 15) dX7_fireSize_13 cb_100 rfl ?_
  refine g_isub (q := 16) dX7_fireSize_15 rfl ?_
  exact g_iret dX7_fireSize_16 (pi_i (by simp only [bgsM_44, if_true]) (by rfl) rfl)
set_option maxRecDepth 20000 in
set_option maxHeartbeats 4000000 in
theorem c_X7_sizeOfFire {E : EE} (hE : inj E 40 13) {σ : Sto} {τ : Stl} {s : Int32} (h : trM σ) (hs : vp_in s 5) : Ct E 40 13 yX7_sizeOfFire cX7_sizeOfFire 2 (some FieldType.int) { frames := 3, cells := 0, slots := 0, locals := 64 } [.ref (E.2.1 40), .int s] σ τ (Pi (vSF (σ 44 (37 + s.toNatClampNeg)) (σ 44 (47 + s.toNatClampNeg))) (bgsM σ (tSF (σ 44 (37 + s.toNatClampNeg)))) (τ)) := by
  refine ct_of hE RX7 [some (.ref (E.2.1 40)), some (.int s)] (by decide) rfl (Nat.le_of_ble_eq_true rfl) rfl (fun X => ?_)
  have es := vp_to hs (by decide)
  refine g_aload_n (q := 1) dX7_sizeOfFire_0 rfl rfl ?_
  refine f7_5 (q := 4) wd_853 dX7_sizeOfFire_1 rfl ?_
  refine g_bipush (q := 6) dX7_sizeOfFire_4 cb_37 rfl ?_
  refine g_iload_n (q := 7) dX7_sizeOfFire_6 rfl rfl ?_
  refine g_iadd (q := 8) dX7_sizeOfFire_7 rfl ?_
  refine g_ialdJ (q := 9) (k := 44) (j := (37 + s.toNatClampNeg)) (N := 52) (by decide) (by decide) rfl rfl (by decide) (ad2 (show (37 : Int32) = nI 37 from rfl) es.1) (by omega) dX7_sizeOfFire_8 rfl ?_
  refine g_iconst (q := 10) dX7_sizeOfFire_9 ci_5 rfl ?_
  refine g_icmp_ne (t := 27) (q := 13) dX7_sizeOfFire_10 (by decide) rfl (fun c_10 => ?_) (fun c_10 => ?_)
  · refine g_aload_n (q := 28) dX7_sizeOfFire_27 rfl rfl ?_
    refine g_iload_n (q := 29) dX7_sizeOfFire_28 rfl rfl ?_
    refine g_callVi (q := 32) (c_X7_fireSize hE (by repeat' (first | assumption | apply trM_bgs)) (by repeat' (first | assumption | apply trM_bgs))) lk_RX7_258 (by decide) (by decide) rfl (by decide) rfl rfl rfl rfl rfl rfl (Nat.le_of_ble_eq_true rfl) (Nat.le_of_ble_eq_true rfl) (Nat.le_of_ble_eq_true rfl) dX7_sizeOfFire_29 rfl ?_
    exact g_iret dX7_sizeOfFire_32 (pi_i (by simp only [vSF, if_neg c_10]) (by simp only [tSF, if_neg c_10]) rfl)
  · refine g_aload_n (q := 14) dX7_sizeOfFire_13 rfl rfl ?_
    refine g_bipush (q := 16) dX7_sizeOfFire_14 cb_14 rfl ?_
    refine g_callVv (q := 19) (c_X7_begin hE (by repeat' (first | assumption | apply trM_bgs))) lk_RX7_252 (by decide) (by decide) rfl (by decide) rfl rfl rfl rfl rfl rfl (Nat.le_of_ble_eq_true rfl) (Nat.le_of_ble_eq_true rfl) (Nat.le_of_ble_eq_true rfl) dX7_sizeOfFire_16 rfl ?_
    refine g_iconst (q := 20) dX7_sizeOfFire_19 ci_2 rfl ?_
    refine g_aload_n (q := 21) dX7_sizeOfFire_20 rfl rfl ?_
    refine g_iload_n (q := 22) dX7_sizeOfFire_21 rfl rfl ?_
    refine g_callVi (q := 25) (c_X7_fireSize hE (by repeat' (first | assumption | apply trM_bgs)) (by repeat' (first | assumption | apply trM_bgs))) lk_RX7_258 (by decide) (by decide) rfl (by decide) rfl rfl rfl rfl rfl rfl (Nat.le_of_ble_eq_true rfl) (Nat.le_of_ble_eq_true rfl) (Nat.le_of_ble_eq_true rfl) dX7_sizeOfFire_22 rfl ?_
    refine g_imul (q := 26) dX7_sizeOfFire_25 rfl ?_
    exact g_iret dX7_sizeOfFire_26 (pi_i (by simp only [vSF, if_pos c_10, bgsM_44]) (by simp only [tSF, if_pos c_10]; rfl) rfl)
set_option maxRecDepth 20000 in
set_option maxHeartbeats 4000000 in
theorem c_X7_markOf {E : EE} (hE : inj E 40 13) {σ : Sto} {τ : Stl} {s : Int32} (h : trM σ) (hs : vp_in s 5) : Ct E 40 13 yX7_markOf cX7_markOf 4 (some FieldType.int) { frames := 4, cells := 0, slots := 0, locals := 85 } [.ref (E.2.1 40), .int s] σ τ (Pi (vMkM (σ 44 (37 + s.toNatClampNeg)) s (σ 44 (42 + s.toNatClampNeg)) (σ 44 (47 + s.toNatClampNeg))) (bgsM σ (tMkM (σ 44 (37 + s.toNatClampNeg)))) (τ)) := by
  refine ct_of hE RX7 [some (.ref (E.2.1 40)), some (.int s), none, none] (by decide) rfl (Nat.le_of_ble_eq_true rfl) rfl (fun X => ?_)
  have es := vp_to hs (by decide)
  refine g_aload_n (q := 1) dX7_markOf_0 rfl rfl ?_
  refine f7_5 (q := 4) wd_853 dX7_markOf_1 rfl ?_
  refine g_bipush (q := 6) dX7_markOf_4 cb_37 rfl ?_
  refine g_iload_n (q := 7) dX7_markOf_6 rfl rfl ?_
  refine g_iadd (q := 8) dX7_markOf_7 rfl ?_
  refine g_ialdJ (q := 9) (k := 44) (j := (37 + s.toNatClampNeg)) (N := 52) (by decide) (by decide) rfl rfl (by decide) (ad2 (show (37 : Int32) = nI 37 from rfl) es.1) (by omega) dX7_markOf_8 rfl ?_
  refine g_istore_n (j := 2) (q := 10) dX7_markOf_9 rfl (by decide) rfl rfl ?_
  refine g_iload_n (q := 11) dX7_markOf_10 rfl rfl ?_
  refine g_iconst (q := 12) dX7_markOf_11 ci_2 rfl ?_
  refine g_icmp_ne (t := 29) (q := 15) dX7_markOf_12 (by decide) rfl (fun c_12 => ?_) (fun c_12 => ?_)
  · refine g_iload_n (q := 30) dX7_markOf_29 rfl rfl ?_
    refine g_iconst (q := 31) dX7_markOf_30 ci_3 rfl ?_
    refine g_icmp_ne (t := 50) (q := 34) dX7_markOf_31 (by decide) rfl (fun c_31 => ?_) (fun c_31 => ?_)
    · refine g_iload_n (q := 51) dX7_markOf_50 rfl rfl ?_
      refine g_iconst (q := 52) dX7_markOf_51 ci_1 rfl ?_
      refine g_icmp_ne (t := 61) (q := 55) dX7_markOf_52 (by decide) rfl (fun c_52 => ?_) (fun c_52 => ?_)
      · refine g_aload_n (q := 62) dX7_markOf_61 rfl rfl ?_
        refine g_bipush (q := 64) dX7_markOf_62 cb_23 rfl ?_
        refine g_callVv (q := 67) (c_X7_begin hE (by repeat' (first | assumption | apply trM_bgs))) lk_RX7_252 (by decide) (by decide) rfl (by decide) rfl rfl rfl rfl rfl rfl (Nat.le_of_ble_eq_true rfl) (Nat.le_of_ble_eq_true rfl) (Nat.le_of_ble_eq_true rfl) dX7_markOf_64 rfl ?_
        refine g_aload_n (q := 68) dX7_markOf_67 rfl rfl ?_
        refine g_iload_n (q := 69) dX7_markOf_68 rfl rfl ?_
        refine g_bipush (q := 71) dX7_markOf_69 cb_20 rfl ?_
        refine g_callVi (q := 74) (c_X7_lent hE (by repeat' (first | assumption | apply trM_bgs)) (by repeat' (first | assumption | apply trM_bgs))) lk_RX7_255 (by decide) (by decide) rfl (by decide) rfl rfl rfl rfl rfl rfl (Nat.le_of_ble_eq_true rfl) (Nat.le_of_ble_eq_true rfl) (Nat.le_of_ble_eq_true rfl) dX7_markOf_71 rfl ?_
        refine g_istore_n (j := 3) (q := 75) dX7_markOf_74 rfl (by decide) rfl rfl ?_
        refine g_iload_n (q := 76) dX7_markOf_75 rfl rfl ?_
        refine g_aload_n (q := 77) dX7_markOf_76 rfl rfl ?_
        refine g_iload_n (q := 78) dX7_markOf_77 rfl rfl ?_
        refine g_callVi (q := 81) (c_X7_sizeOfFire hE (by repeat' (first | assumption | apply trM_bgs)) (by repeat' (first | assumption | apply trM_bgs))) lk_RX7_264 (by decide) (by decide) rfl (by decide) rfl rfl rfl rfl rfl rfl (Nat.le_of_ble_eq_true rfl) (Nat.le_of_ble_eq_true rfl) (Nat.le_of_ble_eq_true rfl) dX7_markOf_78 rfl ?_
        refine g_isub (q := 82) dX7_markOf_81 rfl ?_
        exact g_iret dX7_markOf_82 (pi_i (by simp only [bgsM_44, vMkM, c_12, c_31, c_52, show ((3 : Int32) = 2) = False from by decide, show ((1 : Int32) = 2) = False from by decide, show ((1 : Int32) = 3) = False from by decide, show ((20 : Int32) = 10) = False from by decide, if_true, if_false]) (by simp only [bgsM_44, tMkM, c_12, c_31, c_52, show ((3 : Int32) = 2) = False from by decide, show ((1 : Int32) = 2) = False from by decide, show ((1 : Int32) = 3) = False from by decide, show ((20 : Int32) = 10) = False from by decide, if_true, if_false]; first | done | with_reducible rfl | exact (bgsM_cons _ _ _).symm | rfl) rfl)
      · refine g_aload_n (q := 56) dX7_markOf_55 rfl rfl ?_
        refine g_iload_n (q := 57) dX7_markOf_56 rfl rfl ?_
        refine g_callVi (q := 60) (c_X7_readMark hE (by repeat' (first | assumption | apply trM_bgs)) (by repeat' (first | assumption | apply trM_bgs))) lk_RX7_261 (by decide) (by decide) rfl (by decide) rfl rfl rfl rfl rfl rfl (Nat.le_of_ble_eq_true rfl) (Nat.le_of_ble_eq_true rfl) (Nat.le_of_ble_eq_true rfl) dX7_markOf_57 rfl ?_
        exact g_iret dX7_markOf_60 (pi_i (by simp only [bgsM_44, vMkM, c_12, c_31, c_52, show ((3 : Int32) = 2) = False from by decide, show ((1 : Int32) = 2) = False from by decide, show ((1 : Int32) = 3) = False from by decide, show ((20 : Int32) = 10) = False from by decide, if_true, if_false]) (by simp only [bgsM_44, tMkM, c_12, c_31, c_52, show ((3 : Int32) = 2) = False from by decide, show ((1 : Int32) = 2) = False from by decide, show ((1 : Int32) = 3) = False from by decide, show ((20 : Int32) = 10) = False from by decide, if_true, if_false]; first | done | with_reducible rfl | exact (bgsM_cons _ _ _).symm | rfl) rfl)
    · refine g_aload_n (q := 35) dX7_markOf_34 rfl rfl ?_
      refine g_bipush (q := 37) dX7_markOf_35 cb_22 rfl ?_
      refine g_callVv (q := 40) (c_X7_begin hE (by repeat' (first | assumption | apply trM_bgs))) lk_RX7_252 (by decide) (by decide) rfl (by decide) rfl rfl rfl rfl rfl rfl (Nat.le_of_ble_eq_true rfl) (Nat.le_of_ble_eq_true rfl) (Nat.le_of_ble_eq_true rfl) dX7_markOf_37 rfl ?_
      refine g_aload_n (q := 41) dX7_markOf_40 rfl rfl ?_
      refine g_iload_n (q := 42) dX7_markOf_41 rfl rfl ?_
      refine g_callVi (q := 45) (c_X7_readMark hE (by repeat' (first | assumption | apply trM_bgs)) (by repeat' (first | assumption | apply trM_bgs))) lk_RX7_261 (by decide) (by decide) rfl (by decide) rfl rfl rfl rfl rfl rfl (Nat.le_of_ble_eq_true rfl) (Nat.le_of_ble_eq_true rfl) (Nat.le_of_ble_eq_true rfl) dX7_markOf_42 rfl ?_
      refine g_sipush (q := 48) dX7_markOf_45 cs_1000 rfl ?_
      refine g_isub (q := 49) dX7_markOf_48 rfl ?_
      exact g_iret dX7_markOf_49 (pi_i (by simp only [bgsM_44, vMkM, c_12, c_31, show ((3 : Int32) = 2) = False from by decide, show ((1 : Int32) = 2) = False from by decide, show ((1 : Int32) = 3) = False from by decide, show ((20 : Int32) = 10) = False from by decide, if_true, if_false]) (by simp only [bgsM_44, tMkM, c_12, c_31, show ((3 : Int32) = 2) = False from by decide, show ((1 : Int32) = 2) = False from by decide, show ((1 : Int32) = 3) = False from by decide, show ((20 : Int32) = 10) = False from by decide, if_true, if_false]; first | done | with_reducible rfl | exact (bgsM_cons _ _ _).symm | rfl) rfl)
  · refine g_aload_n (q := 16) dX7_markOf_15 rfl rfl ?_
    refine g_bipush (q := 18) dX7_markOf_16 cb_24 rfl ?_
    refine g_callVv (q := 21) (c_X7_begin hE (by repeat' (first | assumption | apply trM_bgs))) lk_RX7_252 (by decide) (by decide) rfl (by decide) rfl rfl rfl rfl rfl rfl (Nat.le_of_ble_eq_true rfl) (Nat.le_of_ble_eq_true rfl) (Nat.le_of_ble_eq_true rfl) dX7_markOf_18 rfl ?_
    refine g_iconst (q := 22) dX7_markOf_21 ci_2 rfl ?_
    refine g_aload_n (q := 23) dX7_markOf_22 rfl rfl ?_
    refine g_iload_n (q := 24) dX7_markOf_23 rfl rfl ?_
    refine g_callVi (q := 27) (c_X7_readMark hE (by repeat' (first | assumption | apply trM_bgs)) (by repeat' (first | assumption | apply trM_bgs))) lk_RX7_261 (by decide) (by decide) rfl (by decide) rfl rfl rfl rfl rfl rfl (Nat.le_of_ble_eq_true rfl) (Nat.le_of_ble_eq_true rfl) (Nat.le_of_ble_eq_true rfl) dX7_markOf_24 rfl ?_
    refine g_imul (q := 28) dX7_markOf_27 rfl ?_
    exact g_iret dX7_markOf_28 (pi_i (by simp only [bgsM_44, vMkM, c_12, show ((3 : Int32) = 2) = False from by decide, show ((1 : Int32) = 2) = False from by decide, show ((1 : Int32) = 3) = False from by decide, show ((20 : Int32) = 10) = False from by decide, if_true, if_false]) (by simp only [bgsM_44, tMkM, c_12, show ((3 : Int32) = 2) = False from by decide, show ((1 : Int32) = 2) = False from by decide, show ((1 : Int32) = 3) = False from by decide, show ((20 : Int32) = 10) = False from by decide, if_true, if_false]; first | done | with_reducible rfl | exact (bgsM_cons _ _ _).symm | rfl) rfl)
set_option maxRecDepth 20000 in
set_option maxHeartbeats 4000000 in
theorem c_X7_readSize {E : EE} (hE : inj E 40 13) {σ : Sto} {τ : Stl} {s : Int32} (h : trM σ) (hs : vp_in s 5) : Ct E 40 13 yX7_readSize cX7_readSize 3 (some FieldType.int) { frames := 5, cells := 0, slots := 0, locals := 108 } [.ref (E.2.1 40), .int s] σ τ (Pi ((σ 44 (47 + s.toNatClampNeg)) + vMkM (σ 44 (37 + s.toNatClampNeg)) s (σ 44 (42 + s.toNatClampNeg)) (σ 44 (47 + s.toNatClampNeg))) (bgsM σ (11 :: 10 :: tMkM (σ 44 (37 + s.toNatClampNeg)))) (τ)) := by
  refine ct_of hE RX7 [some (.ref (E.2.1 40)), some (.int s), none] (by decide) rfl (Nat.le_of_ble_eq_true rfl) rfl (fun X => ?_)
  have es := vp_to hs (by decide)
  refine g_aload_n (q := 1) dX7_readSize_0 rfl rfl ?_
  refine g_bipush (q := 3) dX7_readSize_1 cb_11 rfl ?_
  refine g_callVv (q := 6) (c_X7_begin hE (by repeat' (first | assumption | apply trM_bgs))) lk_RX7_252 (by decide) (by decide) rfl (by decide) rfl rfl rfl rfl rfl rfl (Nat.le_of_ble_eq_true rfl) (Nat.le_of_ble_eq_true rfl) (Nat.le_of_ble_eq_true rfl) dX7_readSize_3 rfl ?_
  refine g_aload_n (q := 7) dX7_readSize_6 rfl rfl ?_
  refine g_iload_n (q := 8) dX7_readSize_7 rfl rfl ?_
  refine g_bipush (q := 10) dX7_readSize_8 cb_10 rfl ?_
  refine g_callVi (q := 13) (c_X7_lent hE (by repeat' (first | assumption | apply trM_bgs)) (by repeat' (first | assumption | apply trM_bgs))) lk_RX7_255 (by decide) (by decide) rfl (by decide) rfl rfl rfl rfl rfl rfl (Nat.le_of_ble_eq_true rfl) (Nat.le_of_ble_eq_true rfl) (Nat.le_of_ble_eq_true rfl) dX7_readSize_10 rfl ?_
  refine g_istore_n (j := 2) (q := 14) dX7_readSize_13 rfl (by decide) rfl rfl ?_
  refine g_iload_n (q := 15) dX7_readSize_14 rfl rfl ?_
  refine g_aload_n (q := 16) dX7_readSize_15 rfl rfl ?_
  refine g_iload_n (q := 17) dX7_readSize_16 rfl rfl ?_
  refine g_callVi (q := 20) (c_X7_markOf hE (by repeat' (first | assumption | apply trM_bgs)) (by repeat' (first | assumption | apply trM_bgs))) lk_RX7_267 (by decide) (by decide) rfl (by decide) rfl rfl rfl rfl rfl rfl (Nat.le_of_ble_eq_true rfl) (Nat.le_of_ble_eq_true rfl) (Nat.le_of_ble_eq_true rfl) dX7_readSize_17 rfl ?_
  refine g_iadd (q := 21) dX7_readSize_20 rfl ?_
  exact g_iret dX7_readSize_21 (pi_i (by simp only [bgsM_44, if_true]) (by simp only [bgsM_44]; rfl) rfl)
set_option maxRecDepth 20000 in
set_option maxHeartbeats 4000000 in
theorem c_X7_sizeOf {E : EE} (hE : inj E 40 13) {σ : Sto} {τ : Stl} {s : Int32} (h : trM σ) (hs : vp_in s 5) : Ct E 40 13 yX7_sizeOf cX7_sizeOf 3 (some FieldType.int) { frames := 6, cells := 0, slots := 0, locals := 130 } [.ref (E.2.1 40), .int s] σ τ (Pi (vSzM (σ 44 (37 + s.toNatClampNeg)) s (σ 44 (42 + s.toNatClampNeg)) (σ 44 (47 + s.toNatClampNeg))) (bgsM σ (tSzM (σ 44 (37 + s.toNatClampNeg)))) (τ)) := by
  refine ct_of hE RX7 [some (.ref (E.2.1 40)), some (.int s), none] (by decide) rfl (Nat.le_of_ble_eq_true rfl) rfl (fun X => ?_)
  have es := vp_to hs (by decide)
  refine g_aload_n (q := 1) dX7_sizeOf_0 rfl rfl ?_
  refine f7_5 (q := 4) wd_853 dX7_sizeOf_1 rfl ?_
  refine g_bipush (q := 6) dX7_sizeOf_4 cb_37 rfl ?_
  refine g_iload_n (q := 7) dX7_sizeOf_6 rfl rfl ?_
  refine g_iadd (q := 8) dX7_sizeOf_7 rfl ?_
  refine g_ialdJ (q := 9) (k := 44) (j := (37 + s.toNatClampNeg)) (N := 52) (by decide) (by decide) rfl rfl (by decide) (ad2 (show (37 : Int32) = nI 37 from rfl) es.1) (by omega) dX7_sizeOf_8 rfl ?_
  refine g_istore_n (j := 2) (q := 10) dX7_sizeOf_9 rfl (by decide) rfl rfl ?_
  refine g_iload_n (q := 11) dX7_sizeOf_10 rfl rfl ?_
  refine g_iconst (q := 12) dX7_sizeOf_11 ci_2 rfl ?_
  refine g_icmp_ne (t := 28) (q := 15) dX7_sizeOf_12 (by decide) rfl (fun c_12 => ?_) (fun c_12 => ?_)
  · refine g_iload_n (q := 29) dX7_sizeOf_28 rfl rfl ?_
    refine g_iconst (q := 30) dX7_sizeOf_29 ci_4 rfl ?_
    refine g_icmp_lt (t := 41) (q := 33) dX7_sizeOf_30 (by decide) rfl (fun c_30 => ?_) (fun c_30 => ?_)
    · refine g_aload_n (q := 42) dX7_sizeOf_41 rfl rfl ?_
      refine g_iload_n (q := 43) dX7_sizeOf_42 rfl rfl ?_
      refine g_callVi (q := 46) (c_X7_readSize hE (by repeat' (first | assumption | apply trM_bgs)) (by repeat' (first | assumption | apply trM_bgs))) lk_RX7_270 (by decide) (by decide) rfl (by decide) rfl rfl rfl rfl rfl rfl (Nat.le_of_ble_eq_true rfl) (Nat.le_of_ble_eq_true rfl) (Nat.le_of_ble_eq_true rfl) dX7_sizeOf_43 rfl ?_
      exact g_iret dX7_sizeOf_46 (pi_i (by simp only [bgsM_44, vSzM, c_12, c_30, show ((2 : Int32) < 4) = True from by decide, if_true, if_false]) (by simp only [bgsM_44, tSzM, c_12, c_30, show ((2 : Int32) < 4) = True from by decide, if_true, if_false]) rfl)
    · refine g_aload_n (q := 34) dX7_sizeOf_33 rfl rfl ?_
      refine g_iload_n (q := 35) dX7_sizeOf_34 rfl rfl ?_
      refine g_callVi (q := 38) (c_X7_sizeOfFire hE (by repeat' (first | assumption | apply trM_bgs)) (by repeat' (first | assumption | apply trM_bgs))) lk_RX7_264 (by decide) (by decide) rfl (by decide) rfl rfl rfl rfl rfl rfl (Nat.le_of_ble_eq_true rfl) (Nat.le_of_ble_eq_true rfl) (Nat.le_of_ble_eq_true rfl) dX7_sizeOf_35 rfl ?_
      refine g_goto (t := 46) dX7_sizeOf_38 (by decide) ?_
      exact g_iret dX7_sizeOf_46 (pi_i (by simp only [bgsM_44, vSzM, c_12, c_30, show ((2 : Int32) < 4) = True from by decide, if_true, if_false]) (by simp only [bgsM_44, tSzM, c_12, c_30, show ((2 : Int32) < 4) = True from by decide, if_true, if_false]) rfl)
  · refine g_aload_n (q := 16) dX7_sizeOf_15 rfl rfl ?_
    refine g_bipush (q := 18) dX7_sizeOf_16 cb_12 rfl ?_
    refine g_callVv (q := 21) (c_X7_begin hE (by repeat' (first | assumption | apply trM_bgs))) lk_RX7_252 (by decide) (by decide) rfl (by decide) rfl rfl rfl rfl rfl rfl (Nat.le_of_ble_eq_true rfl) (Nat.le_of_ble_eq_true rfl) (Nat.le_of_ble_eq_true rfl) dX7_sizeOf_18 rfl ?_
    refine g_aload_n (q := 22) dX7_sizeOf_21 rfl rfl ?_
    refine g_iload_n (q := 23) dX7_sizeOf_22 rfl rfl ?_
    refine g_callVi (q := 26) (c_X7_readSize hE (by repeat' (first | assumption | apply trM_bgs)) (by repeat' (first | assumption | apply trM_bgs))) lk_RX7_270 (by decide) (by decide) rfl (by decide) rfl rfl rfl rfl rfl rfl (Nat.le_of_ble_eq_true rfl) (Nat.le_of_ble_eq_true rfl) (Nat.le_of_ble_eq_true rfl) dX7_sizeOf_23 rfl ?_
    refine g_ineg (q := 27) dX7_sizeOf_26 rfl ?_
    exact g_iret dX7_sizeOf_27 (pi_i (by simp only [bgsM_44, vSzM, c_12, show ((2 : Int32) < 4) = True from by decide, if_true, if_false]) (by simp only [bgsM_44, tSzM, c_12, show ((2 : Int32) < 4) = True from by decide, if_true, if_false]; exact (bgsM_cons _ _ _).symm) rfl)
set_option maxRecDepth 20000 in
set_option maxHeartbeats 4000000 in
theorem c_X7_ask {E : EE} (hE : inj E 40 13) {σ : Sto} {τ : Stl} {s u : Int32} (w : WFM (σ 44)) : Ct E 40 13 yX7_ask cX7_ask 3 (some FieldType.int) { frames := 7, cells := 0, slots := 0, locals := 152 } [.ref (E.2.1 40), .int s, .int u] σ τ (Pi ((q_ask σ s u).1) ((q_ask σ s u).2) (τ)) := by
  refine ct_of hE RX7 [some (.ref (E.2.1 40)), some (.int s), some (.int u)] (by decide) rfl (Nat.le_of_ble_eq_true rfl) rfl (fun X => ?_)
  refine g_aload_n (q := 1) dX7_ask_0 rfl rfl ?_
  refine g_iload_n (q := 2) dX7_ask_1 rfl rfl ?_
  refine g_callVi (q := 5) (c_X7_isSitter hE ) lk_RX7_172 (by decide) (by decide) rfl (by decide) rfl rfl rfl rfl rfl rfl (Nat.le_of_ble_eq_true rfl) (Nat.le_of_ble_eq_true rfl) (Nat.le_of_ble_eq_true rfl) dX7_ask_2 rfl ?_
  refine g_if_eq (t := 18) (q := 8) dX7_ask_5 (by decide) rfl (fun c_5 => ?_) (fun c_5 => ?_)
  · rw [bI_0] at c_5
    refine g_ldc (q := 20) dX7_ask_18 wd_931 rfl ?_
    exact g_iret dX7_ask_20 (pi_i (by simp only [q_ask, c_5, not_true_eq_false, not_false_eq_true, if_true, if_false, Bool.true_eq_false, Bool.false_eq_true, reduceIte, reduceCtorEq, stAM, upc_ne (show (44 : Nat) ≠ 40 by decide), show ((0 : Int32) = 0) = True from by decide, show wi 0 0 1 = true from by decide]) (by simp only [q_ask, c_5, not_true_eq_false, not_false_eq_true, if_true, if_false, Bool.true_eq_false, Bool.false_eq_true, reduceIte, reduceCtorEq, stAM, upc_ne (show (44 : Nat) ≠ 40 by decide), show ((0 : Int32) = 0) = True from by decide, show wi 0 0 1 = true from by decide]) rfl)
  · rw [bI_n0] at c_5
    refine g_iload_n (q := 9) dX7_ask_8 rfl rfl ?_
    refine g_i2l (q := 10) dX7_ask_9 rfl ?_
    refine g_lconst (q := 11) dX7_ask_10 cl_0 rfl ?_
    refine g_lconst (q := 12) dX7_ask_11 cl_1 rfl ?_
    refine g_callSi (q := 15) (c_X7_in hE ) lk_RX7_54 rfl rfl rfl rfl (Nat.le_of_ble_eq_true rfl) (Nat.le_of_ble_eq_true rfl) (Nat.le_of_ble_eq_true rfl) dX7_ask_12 rfl ?_
    refine g_if_ne (t := 21) (q := 18) dX7_ask_15 (by decide) rfl (fun c_15 => ?_) (fun c_15 => ?_)
    · rw [bI_n0] at c_15
      rw [show inL u.toInt64 0 1 = wi u 0 1 from inL_i u 0 1] at c_15
      refine g_aload_n (q := 22) dX7_ask_21 rfl rfl ?_
      refine g_iconst (q := 23) dX7_ask_22 ci_0 rfl ?_
      refine p7_22 (q := 26) wd_870 dX7_ask_23 rfl ?_
      refine g_iload_n (q := 27) dX7_ask_26 rfl rfl ?_
      refine g_if_ne (t := 38) (q := 30) dX7_ask_27 (by decide) rfl (fun c_27 => ?_) (fun c_27 => ?_)
      · refine g_aload_n (q := 39) dX7_ask_38 rfl rfl ?_
        refine g_iload_n (q := 40) dX7_ask_39 rfl rfl ?_
        refine g_callVi (q := 43) (c_X7_markOf hE (by unfold trM; rw [upc_same, upd_same]; exact vp_in_nI (n := 0) (by decide) (by decide)) (wi_m1 (by decide) w.1.2.2.2 c_5)) lk_RX7_267 (by decide) (by decide) rfl (by decide) rfl rfl rfl rfl rfl rfl (Nat.le_of_ble_eq_true rfl) (Nat.le_of_ble_eq_true rfl) (Nat.le_of_ble_eq_true rfl) dX7_ask_40 rfl ?_
        exact g_iret dX7_ask_43 (pi_i (by simp only [q_ask, c_5, c_15, c_27, not_true_eq_false, not_false_eq_true, if_true, if_false, Bool.true_eq_false, Bool.false_eq_true, reduceIte, reduceCtorEq, stAM, upc_ne (show (44 : Nat) ≠ 40 by decide), show ((0 : Int32) = 0) = True from by decide, show wi 0 0 1 = true from by decide]) (by simp only [q_ask, c_5, c_15, c_27, not_true_eq_false, not_false_eq_true, if_true, if_false, Bool.true_eq_false, Bool.false_eq_true, reduceIte, reduceCtorEq, stAM, upc_ne (show (44 : Nat) ≠ 40 by decide), show ((0 : Int32) = 0) = True from by decide, show wi 0 0 1 = true from by decide]) rfl)
      · refine g_aload_n (q := 31) dX7_ask_30 rfl rfl ?_
        refine g_iload_n (q := 32) dX7_ask_31 rfl rfl ?_
        refine g_callVi (q := 35) (c_X7_sizeOf hE (by unfold trM; rw [upc_same, upd_same]; exact vp_in_nI (n := 0) (by decide) (by decide)) (wi_m1 (by decide) w.1.2.2.2 c_5)) lk_RX7_273 (by decide) (by decide) rfl (by decide) rfl rfl rfl rfl rfl rfl (Nat.le_of_ble_eq_true rfl) (Nat.le_of_ble_eq_true rfl) (Nat.le_of_ble_eq_true rfl) dX7_ask_32 rfl ?_
        refine g_goto (t := 43) dX7_ask_35 (by decide) ?_
        exact g_iret dX7_ask_43 (pi_i (by simp only [q_ask, c_5, c_15, c_27, not_true_eq_false, not_false_eq_true, if_true, if_false, Bool.true_eq_false, Bool.false_eq_true, reduceIte, reduceCtorEq, stAM, upc_ne (show (44 : Nat) ≠ 40 by decide), show ((0 : Int32) = 0) = True from by decide, show wi 0 0 1 = true from by decide]) (by simp only [q_ask, c_5, c_15, c_27, not_true_eq_false, not_false_eq_true, if_true, if_false, Bool.true_eq_false, Bool.false_eq_true, reduceIte, reduceCtorEq, stAM, upc_ne (show (44 : Nat) ≠ 40 by decide), show ((0 : Int32) = 0) = True from by decide, show wi 0 0 1 = true from by decide]) rfl)
    · rw [bI_0] at c_15
      rw [show inL u.toInt64 0 1 = wi u 0 1 from inL_i u 0 1] at c_15
      refine g_ldc (q := 20) dX7_ask_18 wd_931 rfl ?_
      exact g_iret dX7_ask_20 (pi_i (by simp only [q_ask, c_5, c_15, not_true_eq_false, not_false_eq_true, if_true, if_false, Bool.true_eq_false, Bool.false_eq_true, reduceIte, reduceCtorEq, stAM, upc_ne (show (44 : Nat) ≠ 40 by decide), show ((0 : Int32) = 0) = True from by decide, show wi 0 0 1 = true from by decide]) (by simp only [q_ask, c_5, c_15, not_true_eq_false, not_false_eq_true, if_true, if_false, Bool.true_eq_false, Bool.false_eq_true, reduceIte, reduceCtorEq, stAM, upc_ne (show (44 : Nat) ≠ 40 by decide), show ((0 : Int32) = 0) = True from by decide, show wi 0 0 1 = true from by decide]) rfl)
set_option maxRecDepth 20000 in
set_option maxHeartbeats 4000000 in
theorem c_X7_trace {E : EE} (hE : inj E 40 13) {σ : Sto} {τ : Stl} {i : Int32} (h : trM σ) : Ct E 40 13 yX7_trace cX7_trace 2 (some FieldType.int) { frames := 1, cells := 0, slots := 0, locals := 25 } [.ref (E.2.1 40), .int i] σ τ (Pi ((q_trace σ i).1) ((q_trace σ i).2) (τ)) := by
  refine ct_of hE RX7 [some (.ref (E.2.1 40)), some (.int i)] (by decide) rfl (Nat.le_of_ble_eq_true rfl) rfl (fun X => ?_)
  refine g_iload_n (q := 1) dX7_trace_0 rfl rfl ?_
  refine g_i2l (q := 2) dX7_trace_1 rfl ?_
  refine g_lconst (q := 3) dX7_trace_2 cl_0 rfl ?_
  refine g_aload_n (q := 4) dX7_trace_3 rfl rfl ?_
  refine f7_22 (q := 7) wd_870 dX7_trace_4 rfl ?_
  refine g_iconst (q := 8) dX7_trace_7 ci_1 rfl ?_
  refine g_isub (q := 9) dX7_trace_8 rfl ?_
  refine g_i2l (q := 10) dX7_trace_9 rfl ?_
  refine g_callSi (q := 13) (c_X7_in hE ) lk_RX7_54 rfl rfl rfl rfl (Nat.le_of_ble_eq_true rfl) (Nat.le_of_ble_eq_true rfl) (Nat.le_of_ble_eq_true rfl) dX7_trace_10 rfl ?_
  refine g_if_eq (t := 25) (q := 16) dX7_trace_13 (by decide) rfl (fun c_13 => ?_) (fun c_13 => ?_)
  · rw [bI_0] at c_13
    rw [show inL i.toInt64 0 (σ 40 22 - 1).toInt64 = wi i 0 (σ 40 22 - 1) from inL_i i 0 _] at c_13
    refine g_ldc (q := 27) dX7_trace_25 wd_1110 rfl ?_
    exact g_iret dX7_trace_27 (pi_i (by simp only [q_trace, c_13, not_true_eq_false, not_false_eq_true, if_true, if_false, Bool.true_eq_false, Bool.false_eq_true, reduceIte, reduceCtorEq]) (by simp only [q_trace, c_13, not_true_eq_false, not_false_eq_true, if_true, if_false, Bool.true_eq_false, Bool.false_eq_true, reduceIte, reduceCtorEq]) rfl)
  · rw [bI_n0] at c_13
    rw [show inL i.toInt64 0 (σ 40 22 - 1).toInt64 = wi i 0 (σ 40 22 - 1) from inL_i i 0 _] at c_13
    have ei := vp_to (wi_m1 (N := 16) (by decide) h c_13) (by decide)
    refine g_aload_n (q := 17) dX7_trace_16 rfl rfl ?_
    refine f7_21 (q := 20) wd_869 dX7_trace_17 rfl ?_
    refine g_iload_n (q := 21) dX7_trace_20 rfl rfl ?_
    refine g_ialdJ (q := 22) (k := 52) (j := i.toNatClampNeg) (N := 16) (by decide) (by decide) rfl rfl (by decide) ei.1 (by omega) dX7_trace_21 rfl ?_
    refine g_goto (t := 27) dX7_trace_22 (by decide) ?_
    exact g_iret dX7_trace_27 (pi_i (by simp only [q_trace, c_13, not_true_eq_false, not_false_eq_true, if_true, if_false, Bool.true_eq_false, Bool.false_eq_true, reduceIte, reduceCtorEq]) (by simp only [q_trace, c_13, not_true_eq_false, not_false_eq_true, if_true, if_false, Bool.true_eq_false, Bool.false_eq_true, reduceIte, reduceCtorEq]) rfl)
set_option maxRecDepth 20000 in
set_option maxHeartbeats 4000000 in
theorem c_X7_count {E : EE} (hE : inj E 40 13) {σ : Sto} {τ : Stl} {u : Int32} (w : WFM (σ 44)) : Ct E 40 13 yX7_count cX7_count 4 (some FieldType.int) { frames := 1, cells := 0, slots := 0, locals := 22 } [.ref (E.2.1 40), .int u] σ τ (Pi ((q_count σ u).1) ((q_count σ u).2) (τ)) := by
  refine ct_of hE RX7 [some (.ref (E.2.1 40)), some (.int u), none, none] (by decide) rfl (Nat.le_of_ble_eq_true rfl) rfl (fun X => ?_)
  refine g_iconst (q := 1) dX7_count_0 ci_0 rfl ?_
  refine g_istore_n (j := 2) (q := 2) dX7_count_1 rfl (by decide) rfl rfl ?_
  refine g_iconst (q := 3) dX7_count_2 ci_0 rfl ?_
  refine g_istore_n (j := 3) (q := 4) dX7_count_3 rfl (by decide) rfl rfl ?_
  refine g_eqw (ls := [some (.ref (E.2.1 40)), some (.int u), some (.int 0), some (.int 0)]) ?_ (by simp [lsub]) rfl rfl
  refine g_for (I := fun i => [some (.ref (E.2.1 40)), some (.int u), some (.int (cntM (σ 42) i)), some (.int (nI i))]) (S := fun i => σ) (T := fun i => τ) (0) (8) (Nat.zero_le _) (by rfl) (by rfl) (by rfl) (fun i i0 i1 kk_i => ?_) ?_
  · have hci : (nI i).toNatClampNeg = i := nI_clamp (by omega)
    refine g_iload_n (q := 5) dX7_count_4 rfl rfl ?_
    refine g_bipush (q := 7) dX7_count_5 cb_8 rfl ?_
    refine g_icmp_ge (t := 33) (q := 10) dX7_count_7 (by decide) rfl (fun c_7 => ?_) (fun c_7 => ?_)
    · exact absurd c_7 (lp_in (by rfl) (by omega) i1)
    · refine g_iload_n (q := 11) dX7_count_10 rfl rfl ?_
      refine g_aload_n (q := 12) dX7_count_11 rfl rfl ?_
      refine f7_1 (q := 15) wd_849 dX7_count_12 rfl ?_
      refine g_iload_n (q := 16) dX7_count_15 rfl rfl ?_
      refine g_ialdJ (q := 17) (k := 42) (j := i) (N := 8) (by decide) (by decide) rfl rfl (by decide) rfl (by omega) dX7_count_16 rfl ?_
      refine g_if_lt (t := 24) (q := 20) dX7_count_17 (by decide) rfl (fun c_17 => ?_) (fun c_17 => ?_)
      · refine g_iconst (q := 25) dX7_count_24 ci_0 rfl ?_
        refine g_iadd (q := 26) dX7_count_25 rfl ?_
        refine g_istore_n (j := 2) (q := 27) dX7_count_26 rfl (by decide) rfl rfl ?_
        refine g_iinc (q := 30) dX7_count_27 rfl ci_1 (by decide) rfl rfl ?_
        refine g_goto (t := 4) dX7_count_30 (by decide) ?_
        exact g_eqw kk_i (by simp [lsub, cntM, nI_succ, c_17]) rfl rfl
      · refine g_iconst (q := 21) dX7_count_20 ci_1 rfl ?_
        refine g_goto (t := 25) dX7_count_21 (by decide) ?_
        refine g_iadd (q := 26) dX7_count_25 rfl ?_
        refine g_istore_n (j := 2) (q := 27) dX7_count_26 rfl (by decide) rfl rfl ?_
        refine g_iinc (q := 30) dX7_count_27 rfl ci_1 (by decide) rfl rfl ?_
        refine g_goto (t := 4) dX7_count_30 (by decide) ?_
        exact g_eqw kk_i (by simp [lsub, cntM, nI_succ, c_17]) rfl rfl
  · refine g_iload_n (q := 5) dX7_count_4 rfl rfl ?_
    refine g_bipush (q := 7) dX7_count_5 cb_8 rfl ?_
    refine g_icmp_ge (t := 33) (q := 10) dX7_count_7 (by decide) rfl (fun c_7 => ?_) (fun c_7 => ?_)
    · refine g_iload_n (q := 34) dX7_count_33 rfl rfl ?_
      rcases tab_0_8 _ with c_34 | c_34 | c_34 | c_34 | c_34 | c_34 | c_34 | c_34 | c_34 | c_34
      · refine g_tabOut (t := 135) dX7_count_34 c_34 (by decide) ?_
        refine g_ldc (q := 137) dX7_count_135 wd_931 rfl ?_
        exact g_iret dX7_count_137 (pi_i (by have n0 : ¬ u = 0 := (fun e => by rw [e] at c_34; exact absurd c_34 (by decide)); have n1 : ¬ u = 1 := (fun e => by rw [e] at c_34; exact absurd c_34 (by decide)); have n2 : ¬ u = 2 := (fun e => by rw [e] at c_34; exact absurd c_34 (by decide)); have n3 : ¬ u = 3 := (fun e => by rw [e] at c_34; exact absurd c_34 (by decide)); have n4 : ¬ u = 4 := (fun e => by rw [e] at c_34; exact absurd c_34 (by decide)); have n5 : ¬ u = 5 := (fun e => by rw [e] at c_34; exact absurd c_34 (by decide)); have n6 : ¬ u = 6 := (fun e => by rw [e] at c_34; exact absurd c_34 (by decide)); have n7 : ¬ u = 7 := (fun e => by rw [e] at c_34; exact absurd c_34 (by decide)); have n8 : ¬ u = 8 := (fun e => by rw [e] at c_34; exact absurd c_34 (by decide)); simp only [q_count, c_7, n0, n1, n2, n3, n4, n5, n6, n7, n8, not_true_eq_false, not_false_eq_true, if_true, if_false, Bool.true_eq_false, Bool.false_eq_true, reduceIte, reduceCtorEq]) (by have n0 : ¬ u = 0 := (fun e => by rw [e] at c_34; exact absurd c_34 (by decide)); have n1 : ¬ u = 1 := (fun e => by rw [e] at c_34; exact absurd c_34 (by decide)); have n2 : ¬ u = 2 := (fun e => by rw [e] at c_34; exact absurd c_34 (by decide)); have n3 : ¬ u = 3 := (fun e => by rw [e] at c_34; exact absurd c_34 (by decide)); have n4 : ¬ u = 4 := (fun e => by rw [e] at c_34; exact absurd c_34 (by decide)); have n5 : ¬ u = 5 := (fun e => by rw [e] at c_34; exact absurd c_34 (by decide)); have n6 : ¬ u = 6 := (fun e => by rw [e] at c_34; exact absurd c_34 (by decide)); have n7 : ¬ u = 7 := (fun e => by rw [e] at c_34; exact absurd c_34 (by decide)); have n8 : ¬ u = 8 := (fun e => by rw [e] at c_34; exact absurd c_34 (by decide)); simp only [q_count, c_7, n0, n1, n2, n3, n4, n5, n6, n7, n8, not_true_eq_false, not_false_eq_true, if_true, if_false, Bool.true_eq_false, Bool.false_eq_true, reduceIte, reduceCtorEq]) rfl)
      · refine g_tabV (t := 84) c_34 dX7_count_34 (by decide) (by decide) rfl (by decide) ?_
        refine g_iload_n (q := 85) dX7_count_84 rfl rfl ?_
        exact g_iret dX7_count_85 (pi_i (by simp only [q_count, c_7, c_34, show ((0 : Int32) = 1) = False from by decide, show ((0 : Int32) = 2) = False from by decide, show ((0 : Int32) = 3) = False from by decide, show ((0 : Int32) = 4) = False from by decide, show ((0 : Int32) = 5) = False from by decide, show ((0 : Int32) = 6) = False from by decide, show ((0 : Int32) = 7) = False from by decide, show ((0 : Int32) = 8) = False from by decide, not_true_eq_false, not_false_eq_true, if_true, if_false, Bool.true_eq_false, Bool.false_eq_true, reduceIte, reduceCtorEq]) (by simp only [q_count, c_7, c_34, show ((0 : Int32) = 1) = False from by decide, show ((0 : Int32) = 2) = False from by decide, show ((0 : Int32) = 3) = False from by decide, show ((0 : Int32) = 4) = False from by decide, show ((0 : Int32) = 5) = False from by decide, show ((0 : Int32) = 6) = False from by decide, show ((0 : Int32) = 7) = False from by decide, show ((0 : Int32) = 8) = False from by decide, not_true_eq_false, not_false_eq_true, if_true, if_false, Bool.true_eq_false, Bool.false_eq_true, reduceIte, reduceCtorEq]) rfl)
      · refine g_tabV (t := 86) c_34 dX7_count_34 (by decide) (by decide) rfl (by decide) ?_
        refine g_aload_n (q := 87) dX7_count_86 rfl rfl ?_
        refine f7_5 (q := 90) wd_853 dX7_count_87 rfl ?_
        refine g_iconst (q := 91) dX7_count_90 ci_0 rfl ?_
        refine g_ialdJ (q := 92) (k := 44) (j := 0) (N := 52) (by decide) (by decide) rfl rfl (by decide) (show (0 : Int32) = nI 0 from rfl) (by omega) dX7_count_91 rfl ?_
        exact g_iret dX7_count_92 (pi_i (by simp only [q_count, c_7, c_34, show ((1 : Int32) = 0) = False from by decide, show ((1 : Int32) = 2) = False from by decide, show ((1 : Int32) = 3) = False from by decide, show ((1 : Int32) = 4) = False from by decide, show ((1 : Int32) = 5) = False from by decide, show ((1 : Int32) = 6) = False from by decide, show ((1 : Int32) = 7) = False from by decide, show ((1 : Int32) = 8) = False from by decide, not_true_eq_false, not_false_eq_true, if_true, if_false, Bool.true_eq_false, Bool.false_eq_true, reduceIte, reduceCtorEq]) (by simp only [q_count, c_7, c_34, show ((1 : Int32) = 0) = False from by decide, show ((1 : Int32) = 2) = False from by decide, show ((1 : Int32) = 3) = False from by decide, show ((1 : Int32) = 4) = False from by decide, show ((1 : Int32) = 5) = False from by decide, show ((1 : Int32) = 6) = False from by decide, show ((1 : Int32) = 7) = False from by decide, show ((1 : Int32) = 8) = False from by decide, not_true_eq_false, not_false_eq_true, if_true, if_false, Bool.true_eq_false, Bool.false_eq_true, reduceIte, reduceCtorEq]) rfl)
      · refine g_tabV (t := 93) c_34 dX7_count_34 (by decide) (by decide) rfl (by decide) ?_
        refine g_aload_n (q := 94) dX7_count_93 rfl rfl ?_
        refine f7_5 (q := 97) wd_853 dX7_count_94 rfl ?_
        refine g_iconst (q := 98) dX7_count_97 ci_4 rfl ?_
        refine g_ialdJ (q := 99) (k := 44) (j := 4) (N := 52) (by decide) (by decide) rfl rfl (by decide) (show (4 : Int32) = nI 4 from rfl) (by omega) dX7_count_98 rfl ?_
        exact g_iret dX7_count_99 (pi_i (by simp only [q_count, c_7, c_34, show ((2 : Int32) = 0) = False from by decide, show ((2 : Int32) = 1) = False from by decide, show ((2 : Int32) = 3) = False from by decide, show ((2 : Int32) = 4) = False from by decide, show ((2 : Int32) = 5) = False from by decide, show ((2 : Int32) = 6) = False from by decide, show ((2 : Int32) = 7) = False from by decide, show ((2 : Int32) = 8) = False from by decide, not_true_eq_false, not_false_eq_true, if_true, if_false, Bool.true_eq_false, Bool.false_eq_true, reduceIte, reduceCtorEq]) (by simp only [q_count, c_7, c_34, show ((2 : Int32) = 0) = False from by decide, show ((2 : Int32) = 1) = False from by decide, show ((2 : Int32) = 3) = False from by decide, show ((2 : Int32) = 4) = False from by decide, show ((2 : Int32) = 5) = False from by decide, show ((2 : Int32) = 6) = False from by decide, show ((2 : Int32) = 7) = False from by decide, show ((2 : Int32) = 8) = False from by decide, not_true_eq_false, not_false_eq_true, if_true, if_false, Bool.true_eq_false, Bool.false_eq_true, reduceIte, reduceCtorEq]) rfl)
      · refine g_tabV (t := 100) c_34 dX7_count_34 (by decide) (by decide) rfl (by decide) ?_
        refine g_aload_n (q := 101) dX7_count_100 rfl rfl ?_
        refine f7_5 (q := 104) wd_853 dX7_count_101 rfl ?_
        refine g_iconst (q := 105) dX7_count_104 ci_5 rfl ?_
        refine g_ialdJ (q := 106) (k := 44) (j := 5) (N := 52) (by decide) (by decide) rfl rfl (by decide) (show (5 : Int32) = nI 5 from rfl) (by omega) dX7_count_105 rfl ?_
        exact g_iret dX7_count_106 (pi_i (by simp only [q_count, c_7, c_34, show ((3 : Int32) = 0) = False from by decide, show ((3 : Int32) = 1) = False from by decide, show ((3 : Int32) = 2) = False from by decide, show ((3 : Int32) = 4) = False from by decide, show ((3 : Int32) = 5) = False from by decide, show ((3 : Int32) = 6) = False from by decide, show ((3 : Int32) = 7) = False from by decide, show ((3 : Int32) = 8) = False from by decide, not_true_eq_false, not_false_eq_true, if_true, if_false, Bool.true_eq_false, Bool.false_eq_true, reduceIte, reduceCtorEq]) (by simp only [q_count, c_7, c_34, show ((3 : Int32) = 0) = False from by decide, show ((3 : Int32) = 1) = False from by decide, show ((3 : Int32) = 2) = False from by decide, show ((3 : Int32) = 4) = False from by decide, show ((3 : Int32) = 5) = False from by decide, show ((3 : Int32) = 6) = False from by decide, show ((3 : Int32) = 7) = False from by decide, show ((3 : Int32) = 8) = False from by decide, not_true_eq_false, not_false_eq_true, if_true, if_false, Bool.true_eq_false, Bool.false_eq_true, reduceIte, reduceCtorEq]) rfl)
      · refine g_tabV (t := 107) c_34 dX7_count_34 (by decide) (by decide) rfl (by decide) ?_
        refine g_aload_n (q := 108) dX7_count_107 rfl rfl ?_
        refine f7_5 (q := 111) wd_853 dX7_count_108 rfl ?_
        refine g_bipush (q := 113) dX7_count_111 cb_6 rfl ?_
        refine g_ialdJ (q := 114) (k := 44) (j := 6) (N := 52) (by decide) (by decide) rfl rfl (by decide) (show (6 : Int32) = nI 6 from rfl) (by omega) dX7_count_113 rfl ?_
        exact g_iret dX7_count_114 (pi_i (by simp only [q_count, c_7, c_34, show ((4 : Int32) = 0) = False from by decide, show ((4 : Int32) = 1) = False from by decide, show ((4 : Int32) = 2) = False from by decide, show ((4 : Int32) = 3) = False from by decide, show ((4 : Int32) = 5) = False from by decide, show ((4 : Int32) = 6) = False from by decide, show ((4 : Int32) = 7) = False from by decide, show ((4 : Int32) = 8) = False from by decide, not_true_eq_false, not_false_eq_true, if_true, if_false, Bool.true_eq_false, Bool.false_eq_true, reduceIte, reduceCtorEq]) (by simp only [q_count, c_7, c_34, show ((4 : Int32) = 0) = False from by decide, show ((4 : Int32) = 1) = False from by decide, show ((4 : Int32) = 2) = False from by decide, show ((4 : Int32) = 3) = False from by decide, show ((4 : Int32) = 5) = False from by decide, show ((4 : Int32) = 6) = False from by decide, show ((4 : Int32) = 7) = False from by decide, show ((4 : Int32) = 8) = False from by decide, not_true_eq_false, not_false_eq_true, if_true, if_false, Bool.true_eq_false, Bool.false_eq_true, reduceIte, reduceCtorEq]) rfl)
      · refine g_tabV (t := 115) c_34 dX7_count_34 (by decide) (by decide) rfl (by decide) ?_
        refine g_aload_n (q := 116) dX7_count_115 rfl rfl ?_
        refine g_callVi (q := 119) (c_X7_allCold hE w) lk_RX7_162 (by decide) (by decide) rfl (by decide) rfl rfl rfl rfl rfl rfl (Nat.le_of_ble_eq_true rfl) (Nat.le_of_ble_eq_true rfl) (Nat.le_of_ble_eq_true rfl) dX7_count_116 rfl ?_
        exact g_iret dX7_count_119 (pi_i (by simp only [q_count, c_7, c_34, show ((5 : Int32) = 0) = False from by decide, show ((5 : Int32) = 1) = False from by decide, show ((5 : Int32) = 2) = False from by decide, show ((5 : Int32) = 3) = False from by decide, show ((5 : Int32) = 4) = False from by decide, show ((5 : Int32) = 6) = False from by decide, show ((5 : Int32) = 7) = False from by decide, show ((5 : Int32) = 8) = False from by decide, not_true_eq_false, not_false_eq_true, if_true, if_false, Bool.true_eq_false, Bool.false_eq_true, reduceIte, reduceCtorEq]) (by simp only [q_count, c_7, c_34, show ((5 : Int32) = 0) = False from by decide, show ((5 : Int32) = 1) = False from by decide, show ((5 : Int32) = 2) = False from by decide, show ((5 : Int32) = 3) = False from by decide, show ((5 : Int32) = 4) = False from by decide, show ((5 : Int32) = 6) = False from by decide, show ((5 : Int32) = 7) = False from by decide, show ((5 : Int32) = 8) = False from by decide, not_true_eq_false, not_false_eq_true, if_true, if_false, Bool.true_eq_false, Bool.false_eq_true, reduceIte, reduceCtorEq]) rfl)
      · refine g_tabV (t := 120) c_34 dX7_count_34 (by decide) (by decide) rfl (by decide) ?_
        refine g_aload_n (q := 121) dX7_count_120 rfl rfl ?_
        refine g_callVi (q := 124) (c_X7_openDoors hE w) lk_RX7_169 (by decide) (by decide) rfl (by decide) rfl rfl rfl rfl rfl rfl (Nat.le_of_ble_eq_true rfl) (Nat.le_of_ble_eq_true rfl) (Nat.le_of_ble_eq_true rfl) dX7_count_121 rfl ?_
        exact g_iret dX7_count_124 (pi_i (by simp only [q_count, c_7, c_34, show ((6 : Int32) = 0) = False from by decide, show ((6 : Int32) = 1) = False from by decide, show ((6 : Int32) = 2) = False from by decide, show ((6 : Int32) = 3) = False from by decide, show ((6 : Int32) = 4) = False from by decide, show ((6 : Int32) = 5) = False from by decide, show ((6 : Int32) = 7) = False from by decide, show ((6 : Int32) = 8) = False from by decide, not_true_eq_false, not_false_eq_true, if_true, if_false, Bool.true_eq_false, Bool.false_eq_true, reduceIte, reduceCtorEq]) (by simp only [q_count, c_7, c_34, show ((6 : Int32) = 0) = False from by decide, show ((6 : Int32) = 1) = False from by decide, show ((6 : Int32) = 2) = False from by decide, show ((6 : Int32) = 3) = False from by decide, show ((6 : Int32) = 4) = False from by decide, show ((6 : Int32) = 5) = False from by decide, show ((6 : Int32) = 7) = False from by decide, show ((6 : Int32) = 8) = False from by decide, not_true_eq_false, not_false_eq_true, if_true, if_false, Bool.true_eq_false, Bool.false_eq_true, reduceIte, reduceCtorEq]) rfl)
      · refine g_tabV (t := 125) c_34 dX7_count_34 (by decide) (by decide) rfl (by decide) ?_
        refine g_aload_n (q := 126) dX7_count_125 rfl rfl ?_
        refine f7_17 (q := 129) wd_865 dX7_count_126 rfl ?_
        exact g_iret dX7_count_129 (pi_i (by simp only [q_count, c_7, c_34, show ((7 : Int32) = 0) = False from by decide, show ((7 : Int32) = 1) = False from by decide, show ((7 : Int32) = 2) = False from by decide, show ((7 : Int32) = 3) = False from by decide, show ((7 : Int32) = 4) = False from by decide, show ((7 : Int32) = 5) = False from by decide, show ((7 : Int32) = 6) = False from by decide, show ((7 : Int32) = 8) = False from by decide, not_true_eq_false, not_false_eq_true, if_true, if_false, Bool.true_eq_false, Bool.false_eq_true, reduceIte, reduceCtorEq]) (by simp only [q_count, c_7, c_34, show ((7 : Int32) = 0) = False from by decide, show ((7 : Int32) = 1) = False from by decide, show ((7 : Int32) = 2) = False from by decide, show ((7 : Int32) = 3) = False from by decide, show ((7 : Int32) = 4) = False from by decide, show ((7 : Int32) = 5) = False from by decide, show ((7 : Int32) = 6) = False from by decide, show ((7 : Int32) = 8) = False from by decide, not_true_eq_false, not_false_eq_true, if_true, if_false, Bool.true_eq_false, Bool.false_eq_true, reduceIte, reduceCtorEq]) rfl)
      · refine g_tabV (t := 130) c_34 dX7_count_34 (by decide) (by decide) rfl (by decide) ?_
        refine g_aload_n (q := 131) dX7_count_130 rfl rfl ?_
        refine f7_8 (q := 134) wd_856 dX7_count_131 rfl ?_
        exact g_iret dX7_count_134 (pi_i (by simp only [q_count, c_7, c_34, show ((8 : Int32) = 0) = False from by decide, show ((8 : Int32) = 1) = False from by decide, show ((8 : Int32) = 2) = False from by decide, show ((8 : Int32) = 3) = False from by decide, show ((8 : Int32) = 4) = False from by decide, show ((8 : Int32) = 5) = False from by decide, show ((8 : Int32) = 6) = False from by decide, show ((8 : Int32) = 7) = False from by decide, not_true_eq_false, not_false_eq_true, if_true, if_false, Bool.true_eq_false, Bool.false_eq_true, reduceIte, reduceCtorEq]) (by simp only [q_count, c_7, c_34, show ((8 : Int32) = 0) = False from by decide, show ((8 : Int32) = 1) = False from by decide, show ((8 : Int32) = 2) = False from by decide, show ((8 : Int32) = 3) = False from by decide, show ((8 : Int32) = 4) = False from by decide, show ((8 : Int32) = 5) = False from by decide, show ((8 : Int32) = 6) = False from by decide, show ((8 : Int32) = 7) = False from by decide, not_true_eq_false, not_false_eq_true, if_true, if_false, Bool.true_eq_false, Bool.false_eq_true, reduceIte, reduceCtorEq]) rfl)
    · exact absurd (lp_out (by rfl)) c_7
set_option maxRecDepth 20000 in
set_option maxHeartbeats 4000000 in
theorem c_X7_image {E : EE} (hE : inj E 40 13) {σ : Sto} {τ : Stl} {k : Int32}  : Ct E 40 13 yX7_image cX7_image 3 (some FieldType.int) { frames := 1, cells := 0, slots := 0, locals := 25 } [.ref (E.2.1 40), .int k] σ τ (Pi ((q_image σ k).1) ((q_image σ k).2) (τ)) := by
  refine ct_of hE RX7 [some (.ref (E.2.1 40)), some (.int k), none] (by decide) rfl (Nat.le_of_ble_eq_true rfl) rfl (fun X => ?_)
  refine g_iload_n (q := 1) dX7_image_0 rfl rfl ?_
  refine g_i2l (q := 2) dX7_image_1 rfl ?_
  refine g_lconst (q := 3) dX7_image_2 cl_0 rfl ?_
  refine g_lconst (q := 4) dX7_image_3 cl_1 rfl ?_
  refine g_callSi (q := 7) (c_X7_in hE ) lk_RX7_54 rfl rfl rfl rfl (Nat.le_of_ble_eq_true rfl) (Nat.le_of_ble_eq_true rfl) (Nat.le_of_ble_eq_true rfl) dX7_image_4 rfl ?_
  refine g_if_ne (t := 13) (q := 10) dX7_image_7 (by decide) rfl (fun c_7 => ?_) (fun c_7 => ?_)
  · rw [bI_n0] at c_7
    rw [show inL k.toInt64 0 1 = wi k 0 1 from inL_i k 0 1] at c_7
    refine g_aload_n (q := 14) dX7_image_13 rfl rfl ?_
    refine f7_4 (q := 17) wd_852 dX7_image_14 rfl ?_
    refine g_if_ne (t := 23) (q := 20) dX7_image_17 (by decide) rfl (fun c_17 => ?_) (fun c_17 => ?_)
    · have hk2 := wi_in (N := 2) c_7 (by decide) (by decide)
      have ek := vp_to hk2 (by decide)
      refine g_iconst (q := 24) dX7_image_23 ci_0 rfl ?_
      refine g_istore_n (j := 2) (q := 25) dX7_image_24 rfl (by decide) rfl rfl ?_
      refine g_for (I := fun i => [some (.ref (E.2.1 40)), some (.int k), some (.int (nI i))]) (S := fun i => upc σ 51 (va_cpy (σ 44) (σ 51) 0 (52 * k.toNatClampNeg) i)) (T := fun i => τ) (0) (52) (Nat.zero_le _) (by rfl) (by rw [cpy_0]; exact (upc_id _ _).symm) (by rfl) (fun i i0 i1 kk_i => ?_) ?_
      · have hci : (nI i).toNatClampNeg = i := nI_clamp (by omega)
        refine g_iload_n (q := 26) dX7_image_25 rfl rfl ?_
        refine g_bipush (q := 28) dX7_image_26 cb_52 rfl ?_
        refine g_icmp_ge (t := 54) (q := 31) dX7_image_28 (by decide) rfl (fun c_28 => ?_) (fun c_28 => ?_)
        · exact absurd c_28 (lp_in (by rfl) (by omega) i1)
        · refine g_aload_n (q := 32) dX7_image_31 rfl rfl ?_
          refine f7_20 (q := 35) wd_868 dX7_image_32 rfl ?_
          refine g_bipush (q := 37) dX7_image_35 cb_52 rfl ?_
          refine g_iload_n (q := 38) dX7_image_37 rfl rfl ?_
          refine g_imul (q := 39) dX7_image_38 rfl ?_
          refine g_iload_n (q := 40) dX7_image_39 rfl rfl ?_
          refine g_iadd (q := 41) dX7_image_40 rfl ?_
          refine g_aload_n (q := 42) dX7_image_41 rfl rfl ?_
          refine f7_5 (q := 45) wd_853 dX7_image_42 rfl ?_
          refine g_iload_n (q := 46) dX7_image_45 rfl rfl ?_
          refine g_ialdJ (q := 47) (k := 44) (j := i) (N := 52) (by decide) (by decide) rfl rfl (by decide) rfl (by omega) dX7_image_46 rfl ?_
          refine g_iastJ (q := 48) (k := 51) (j := ((52 * k.toNatClampNeg) + i)) (N := 104) (by decide) (by decide) rfl rfl (by decide) (ad2 (mu2 (show (52 : Int32) = nI 52 from rfl) ek.1) rfl) (by omega) dX7_image_47 rfl ?_
          refine g_iinc (q := 51) dX7_image_48 rfl ci_1 (by decide) rfl rfl ?_
          refine g_goto (t := 25) dX7_image_51 (by decide) ?_
          exact g_eqw kk_i (by simp [lsub, nI_succ]) (by rw [upc_upc, upc_same, upc_ne (show (44 : Nat) ≠ 51 by decide)]; congr 1; have := cpy_s (σ 44) (σ 51) 0 (52 * k.toNatClampNeg) i; rw [Nat.zero_add] at this; exact this) rfl
      · refine g_iload_n (q := 26) dX7_image_25 rfl rfl ?_
        refine g_bipush (q := 28) dX7_image_26 cb_52 rfl ?_
        refine g_icmp_ge (t := 54) (q := 31) dX7_image_28 (by decide) rfl (fun c_28 => ?_) (fun c_28 => ?_)
        · refine g_aload_n (q := 55) dX7_image_54 rfl rfl ?_
          refine f7_19 (q := 58) wd_867 dX7_image_55 rfl ?_
          refine g_iload_n (q := 59) dX7_image_58 rfl rfl ?_
          refine g_iconst (q := 60) dX7_image_59 ci_1 rfl ?_
          refine g_zast (q := 61) (k := 50) (by decide) (by decide) rfl (show vp_in _ 2 by exact hk2) (by decide) dX7_image_60 rfl ?_
          refine g_iconst (q := 62) dX7_image_61 ci_1 rfl ?_
          exact g_iret dX7_image_62 (pi_i (by simp only [q_image, c_7, c_17, c_28, not_true_eq_false, not_false_eq_true, if_true, if_false, Bool.true_eq_false, Bool.false_eq_true, reduceIte, reduceCtorEq, upc_ne (show (50 : Nat) ≠ 51 by decide)]) (by simp only [q_image, c_7, c_17, c_28, not_true_eq_false, not_false_eq_true, if_true, if_false, Bool.true_eq_false, Bool.false_eq_true, reduceIte, reduceCtorEq, upc_ne (show (50 : Nat) ≠ 51 by decide)]) rfl)
        · exact absurd (lp_out (by rfl)) c_28
    · refine g_ldc (q := 22) dX7_image_20 wd_1011 rfl ?_
      exact g_iret dX7_image_22 (pi_i (by simp only [q_image, c_7, c_17, not_true_eq_false, not_false_eq_true, if_true, if_false, Bool.true_eq_false, Bool.false_eq_true, reduceIte, reduceCtorEq]) (by simp only [q_image, c_7, c_17, not_true_eq_false, not_false_eq_true, if_true, if_false, Bool.true_eq_false, Bool.false_eq_true, reduceIte, reduceCtorEq]) rfl)
  · rw [bI_0] at c_7
    rw [show inL k.toInt64 0 1 = wi k 0 1 from inL_i k 0 1] at c_7
    refine g_ldc (q := 12) dX7_image_10 wd_931 rfl ?_
    exact g_iret dX7_image_12 (pi_i (by simp only [q_image, c_7, not_true_eq_false, not_false_eq_true, if_true, if_false, Bool.true_eq_false, Bool.false_eq_true, reduceIte, reduceCtorEq]) (by simp only [q_image, c_7, not_true_eq_false, not_false_eq_true, if_true, if_false, Bool.true_eq_false, Bool.false_eq_true, reduceIte, reduceCtorEq]) rfl)
set_option maxRecDepth 20000 in
set_option maxHeartbeats 4000000 in
theorem c_X7_restore {E : EE} (hE : inj E 40 13) {σ : Sto} {τ : Stl} {k : Int32}  : Ct E 40 13 yX7_restore cX7_restore 3 (some FieldType.int) { frames := 1, cells := 0, slots := 0, locals := 25 } [.ref (E.2.1 40), .int k] σ τ (Pi ((q_restore σ k).1) ((q_restore σ k).2) (τ)) := by
  refine ct_of hE RX7 [some (.ref (E.2.1 40)), some (.int k), none] (by decide) rfl (Nat.le_of_ble_eq_true rfl) rfl (fun X => ?_)
  refine g_iload_n (q := 1) dX7_restore_0 rfl rfl ?_
  refine g_i2l (q := 2) dX7_restore_1 rfl ?_
  refine g_lconst (q := 3) dX7_restore_2 cl_0 rfl ?_
  refine g_lconst (q := 4) dX7_restore_3 cl_1 rfl ?_
  refine g_callSi (q := 7) (c_X7_in hE ) lk_RX7_54 rfl rfl rfl rfl (Nat.le_of_ble_eq_true rfl) (Nat.le_of_ble_eq_true rfl) (Nat.le_of_ble_eq_true rfl) dX7_restore_4 rfl ?_
  refine g_if_ne (t := 13) (q := 10) dX7_restore_7 (by decide) rfl (fun c_7 => ?_) (fun c_7 => ?_)
  · rw [bI_n0] at c_7
    rw [show inL k.toInt64 0 1 = wi k 0 1 from inL_i k 0 1] at c_7
    have hk2 := wi_in (N := 2) c_7 (by decide) (by decide)
    have ek := vp_to hk2 (by decide)
    refine g_aload_n (q := 14) dX7_restore_13 rfl rfl ?_
    refine f7_19 (q := 17) wd_867 dX7_restore_14 rfl ?_
    refine g_iload_n (q := 18) dX7_restore_17 rfl rfl ?_
    refine g_zald (q := 19) (k := 50) (by decide) (by decide) rfl (show vp_in _ 2 by exact hk2) dX7_restore_18 rfl ?_
    refine g_if_ne (t := 25) (q := 22) dX7_restore_19 (by decide) rfl (fun c_19 => ?_) (fun c_19 => ?_)
    · refine g_iconst (q := 26) dX7_restore_25 ci_0 rfl ?_
      refine g_istore_n (j := 2) (q := 27) dX7_restore_26 rfl (by decide) rfl rfl ?_
      refine g_for (I := fun i => [some (.ref (E.2.1 40)), some (.int k), some (.int (nI i))]) (S := fun i => upc σ 44 (cpF (σ 51) (σ 44) (52 * k.toNatClampNeg) i)) (T := fun i => τ) (0) (52) (Nat.zero_le _) (by rfl) (by rw [cpF_0]; exact (upc_id _ _).symm) (by rfl) (fun i i0 i1 kk_i => ?_) ?_
      · have hci : (nI i).toNatClampNeg = i := nI_clamp (by omega)
        refine g_iload_n (q := 28) dX7_restore_27 rfl rfl ?_
        refine g_bipush (q := 30) dX7_restore_28 cb_52 rfl ?_
        refine g_icmp_ge (t := 56) (q := 33) dX7_restore_30 (by decide) rfl (fun c_30 => ?_) (fun c_30 => ?_)
        · exact absurd c_30 (lp_in (by rfl) (by omega) i1)
        · refine g_aload_n (q := 34) dX7_restore_33 rfl rfl ?_
          refine f7_5 (q := 37) wd_853 dX7_restore_34 rfl ?_
          refine g_iload_n (q := 38) dX7_restore_37 rfl rfl ?_
          refine g_aload_n (q := 39) dX7_restore_38 rfl rfl ?_
          refine f7_20 (q := 42) wd_868 dX7_restore_39 rfl ?_
          refine g_bipush (q := 44) dX7_restore_42 cb_52 rfl ?_
          refine g_iload_n (q := 45) dX7_restore_44 rfl rfl ?_
          refine g_imul (q := 46) dX7_restore_45 rfl ?_
          refine g_iload_n (q := 47) dX7_restore_46 rfl rfl ?_
          refine g_iadd (q := 48) dX7_restore_47 rfl ?_
          refine g_ialdJ (q := 49) (k := 51) (j := ((52 * k.toNatClampNeg) + i)) (N := 104) (by decide) (by decide) rfl rfl (by decide) (ad2 (mu2 (show (52 : Int32) = nI 52 from rfl) ek.1) rfl) (by omega) dX7_restore_48 rfl ?_
          refine g_iastJ (q := 50) (k := 44) (j := i) (N := 52) (by decide) (by decide) rfl rfl (by decide) rfl (by omega) dX7_restore_49 rfl ?_
          refine g_iinc (q := 53) dX7_restore_50 rfl ci_1 (by decide) rfl rfl ?_
          refine g_goto (t := 27) dX7_restore_53 (by decide) ?_
          exact g_eqw kk_i (by simp [lsub, nI_succ]) (by rw [upc_upc, upc_same, upc_ne (show (51 : Nat) ≠ 44 by decide)]; congr 1; exact cpF_s (σ 51) (σ 44) _ i) rfl
      · refine g_iload_n (q := 28) dX7_restore_27 rfl rfl ?_
        refine g_bipush (q := 30) dX7_restore_28 cb_52 rfl ?_
        refine g_icmp_ge (t := 56) (q := 33) dX7_restore_30 (by decide) rfl (fun c_30 => ?_) (fun c_30 => ?_)
        · refine g_eqv (σ' := upc σ 44 (fun j => σ 51 (52 * k.toNatClampNeg + j))) ?_ ?_
          · exact un_eqv
          refine g_aload_n (q := 57) dX7_restore_56 rfl rfl ?_
          refine g_iconst (q := 58) dX7_restore_57 ci_0 rfl ?_
          refine p7_17 (q := 61) wd_865 dX7_restore_58 rfl ?_
          refine g_iconst (q := 62) dX7_restore_61 ci_1 rfl ?_
          exact g_iret dX7_restore_62 (pi_i (by simp only [q_restore, c_7, c_19, c_30, not_true_eq_false, not_false_eq_true, if_true, if_false, Bool.true_eq_false, Bool.false_eq_true, reduceIte, reduceCtorEq]) (by simp only [q_restore, c_7, c_19, c_30, not_true_eq_false, not_false_eq_true, if_true, if_false, Bool.true_eq_false, Bool.false_eq_true, reduceIte, reduceCtorEq]; rfl) rfl)
        · exact absurd (lp_out (by rfl)) c_30
    · refine g_ldc (q := 24) dX7_restore_22 wd_1011 rfl ?_
      exact g_iret dX7_restore_24 (pi_i (by simp only [q_restore, c_7, c_19, not_true_eq_false, not_false_eq_true, if_true, if_false, Bool.true_eq_false, Bool.false_eq_true, reduceIte, reduceCtorEq]) (by simp only [q_restore, c_7, c_19, not_true_eq_false, not_false_eq_true, if_true, if_false, Bool.true_eq_false, Bool.false_eq_true, reduceIte, reduceCtorEq]) rfl)
  · rw [bI_0] at c_7
    rw [show inL k.toInt64 0 1 = wi k 0 1 from inL_i k 0 1] at c_7
    refine g_ldc (q := 12) dX7_restore_10 wd_931 rfl ?_
    exact g_iret dX7_restore_12 (pi_i (by simp only [q_restore, c_7, not_true_eq_false, not_false_eq_true, if_true, if_false, Bool.true_eq_false, Bool.false_eq_true, reduceIte, reduceCtorEq]) (by simp only [q_restore, c_7, not_true_eq_false, not_false_eq_true, if_true, if_false, Bool.true_eq_false, Bool.false_eq_true, reduceIte, reduceCtorEq]) rfl)
