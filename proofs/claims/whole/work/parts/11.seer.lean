/-- a house as its own cells tell it -/
def WFV (v : Sto) : Prop := (vp_in (v 0 0) 7 ∧ vp_in (v 0 1) 6 ∧ vp_in (v 0 5) 9 ∧ vp_in (v 0 7) 6) ∧ (∀ d, d < (v 0 5).toNatClampNeg → vp_in (v 1 d) 6 ∧ vp_in (v 2 d) 6) ∧ (∀ s, s < (v 0 7).toNatClampNeg → vp_in (v 3 s) 6 ∧ vp_in (v 4 s) 6)
theorem wfv_of {σ : Sto} {h : Nat} (w : WFH σ h) : WFV (vw σ h) := w
/-- the trial house is v, with cold c -/
def TV (σ : Sto) (v : Sto) (c : Nat → Int32) : Prop := (∀ j, j ≠ 4 → σ 17 j = v 0 j) ∧ (∀ k, 1 ≤ k → k ≤ 5 → σ (17 + k) = v k) ∧ σ (17 + 6) = c
def frT (σ σ' : Sto) : Prop := ∀ k, ¬ (17 ≤ k ∧ k < 24) → σ' k = σ k
theorem frT_rf (σ : Sto) : frT σ σ := fun _ _ => rfl
theorem frT_tr {a b c : Sto} (h1 : frT a b) (h2 : frT b c) : frT a c := fun k hk => (h2 k hk).trans (h1 k hk)
theorem fr_bec (σ : Sto) (o : Nat) : frT σ (bec σ 17 o) := fun k hk => by unfold bec; rw [if_neg (by omega)]
theorem fr_upc {σ : Sto} {k : Nat} {f : Nat → Int32} (h : 17 ≤ k ∧ k < 24) : frT σ (upc σ k f) := fun a ha => upc_ne (fun e => ha (e ▸ h))
theorem fr_hrs (σ : Sto) (n : Nat) : frT σ (hrs σ 17 n) := fun k hk => mk_o _ _ _ _ _ (by omega) (by omega)
theorem bec_at (σ : Sto) (h o c : Nat) (hc : c ≤ 6) : bec σ h o (h + c) = σ (o + c) := by
  unfold bec
  rw [if_pos (by omega), show o + (h + c - h) = o + c by omega]
theorem bec_at0 (σ : Sto) (h o : Nat) : bec σ h o h = σ o := bec_at σ h o 0 (by omega)
theorem TV_bec (σ : Sto) (o : Nat) : TV (bec σ 17 o) (vw σ o) (σ (o + 6)) := by
  refine ⟨fun j _ => ?_, fun k h1 h2 => ?_, ?_⟩
  · rw [bec_at0]; rfl
  · rw [bec_at σ 17 o k (by omega)]; rfl
  · rw [bec_at σ 17 o 6 (by omega)]
theorem HC_cg {v v' : Sto} (c : Nat → Int32) (h0 : ∀ j, j ≠ 4 → v 0 j = v' 0 j) (hk : ∀ k, 1 ≤ k → k ≤ 5 → v k = v' k) : HC v c = HC v' c := by
  unfold HC
  rw [h0 1 (by decide), h0 2 (by decide), h0 5 (by decide), h0 6 (by decide), h0 7 (by decide), hk 1 (by decide) (by decide), hk 2 (by decide) (by decide), hk 3 (by decide) (by decide), hk 4 (by decide) (by decide), hk 5 (by decide) (by decide)]
theorem hcs_cg {v v' : Sto} (c : Nat → Int32) (h0 : ∀ j, j ≠ 4 → v 0 j = v' 0 j) (hk : ∀ k, 1 ≤ k → k ≤ 5 → v k = v' k) (n : Nat) : hcs v c n = hcs v' c n := by
  induction n with
  | zero => rfl
  | succ n ih => simp only [hcs]; rw [ih]; exact HC_cg _ h0 hk
theorem TV_hrs {σ v : Sto} {c : Nat → Int32} (h : TV σ v c) (n : Nat) : TV (hrs σ 17 n) v (hcs v c n) := by
  obtain ⟨h0, hk, h6⟩ := h
  refine ⟨fun j hj => ?_, fun k h1 h2 => ?_, ?_⟩
  · unfold hrs; rw [mk_hj _ _ _ _ _ hj]; exact h0 j hj
  · unfold hrs; rw [mk_k _ _ _ _ k (by omega) (by omega)]; exact hk k h1 h2
  · unfold hrs
    rw [mk_6, h6]
    exact hcs_cg c (fun j hj => h0 j hj) (fun k h1 h2 => hk k h1 h2) n
theorem WF_TV {σ v : Sto} {c : Nat → Int32} (w : WFV v) (h : TV σ v c) : WFH σ 17 := by
  obtain ⟨h0, hk, -⟩ := h
  unfold WFH
  rw [h0 0 (by decide), h0 1 (by decide), h0 5 (by decide), h0 7 (by decide), hk 1 (by decide) (by decide), hk 2 (by decide) (by decide), hk 3 (by decide) (by decide), hk 4 (by decide) (by decide)]
  exact w
def vDoors (v : Sto) (b : Int32) : Sto := upc v 0 (upd (v 0) 6 (v 0 6 ^^^ b))
def vSit (v : Sto) (s : Nat) (r : Int32) : Sto := upc v 4 (upd (v 4) s r)
def vKind (v : Sto) (s : Nat) (k : Int32) : Sto := upc v 3 (upd (v 3) s k)
def vIn (v : Sto) (r : Int32) : Sto := upc v 0 (upd (v 0) 1 r)
theorem TV_fld {σ v : Sto} {c : Nat → Int32} (h : TV σ v c) (j : Nat) (x : Int32) : TV (upc σ 17 (upd (σ 17) j x)) (upc v 0 (upd (v 0) j x)) c := by
  obtain ⟨h0, hk, h6⟩ := h
  refine ⟨fun i hi => ?_, fun k h1 h2 => ?_, ?_⟩
  · rw [upc_same, upc_same]
    unfold upd
    split
    · rfl
    · exact h0 i hi
  · rw [upc_ne (by omega), upc_ne (by omega)]; exact hk k h1 h2
  · rw [upc_ne (by omega)]; exact h6
theorem TV_mv {σ v : Sto} {c : Nat → Int32} (h : TV σ v c) (b : Int32) : TV (upc σ 17 (upd (σ 17) 6 (σ 17 6 ^^^ b))) (vDoors v b) c := by
  have := TV_fld h 6 (v 0 6 ^^^ b)
  rw [h.1 6 (by decide)]
  exact this
theorem TV_in {σ v : Sto} {c : Nat → Int32} (h : TV σ v c) (r : Int32) : TV (upc σ 17 (upd (σ 17) 1 r)) (vIn v r) c := TV_fld h 1 r
theorem TV_arr {σ v : Sto} {c : Nat → Int32} (h : TV σ v c) (a s : Nat) (h1 : 1 ≤ a) (h2 : a ≤ 5) (r : Int32) : TV (upc σ (17 + a) (upd (σ (17 + a)) s r)) (upc v a (upd (v a) s r)) c := by
  obtain ⟨h0, hk, h6⟩ := h
  refine ⟨fun i hi => ?_, fun k k1 k2 => ?_, ?_⟩
  · rw [upc_ne (by omega), upc_ne (by omega)]; exact h0 i hi
  · by_cases e : k = a
    · subst e
      rw [upc_same, upc_same, hk k k1 k2]
    · rw [upc_ne (by omega), upc_ne e]; exact hk k k1 k2
  · rw [upc_ne (by omega)]; exact h6
theorem TV_sit {σ v : Sto} {c : Nat → Int32} (h : TV σ v c) (s : Nat) (r : Int32) : TV (upc σ (17 + 4) (upd (σ (17 + 4)) s r)) (vSit v s r) c := TV_arr h 4 s (by decide) (by decide) r
theorem TV_kind {σ v : Sto} {c : Nat → Int32} (h : TV σ v c) (s : Nat) (r : Int32) : TV (upc σ (17 + 3) (upd (σ (17 + 3)) s r)) (vKind v s r) c := TV_arr h 3 s (by decide) (by decide) r
theorem wfv_fld {v : Sto} (w : WFV v) {j : Nat} {x : Int32} (h0 : j = 0 → vp_in x 7) (h1 : j = 1 → vp_in x 6) (h5 : j ≠ 5) (h7 : j ≠ 7) : WFV (upc v 0 (upd (v 0) j x)) := by
  obtain ⟨⟨a, b, c, d⟩, e, f⟩ := w
  have e5 : upc v 0 (upd (v 0) j x) 0 5 = v 0 5 := by rw [upc_same, upd_ne (Ne.symm h5)]
  have e7 : upc v 0 (upd (v 0) j x) 0 7 = v 0 7 := by rw [upc_same, upd_ne (Ne.symm h7)]
  unfold WFV
  rw [e5, e7]
  refine ⟨⟨?_, ?_, c, d⟩, fun i hi => ?_, fun i hi => ?_⟩
  · rw [upc_same]; unfold upd; split
    · rename_i q; exact h0 q.symm
    · exact a
  · rw [upc_same]; unfold upd; split
    · rename_i q; exact h1 q.symm
    · exact b
  · rw [upc_ne (by decide), upc_ne (by decide)]; exact e i hi
  · rw [upc_ne (by decide), upc_ne (by decide)]; exact f i hi
theorem wfv_mv {v : Sto} (w : WFV v) (b : Int32) : WFV (vDoors v b) := wfv_fld w (by omega) (by omega) (by omega) (by omega)
theorem wfv_in {v : Sto} (w : WFV v) {r : Int32} (h : vp_in r 6) : WFV (vIn v r) := wfv_fld w (by omega) (fun _ => h) (by omega) (by omega)
theorem wfv_sit {v : Sto} (w : WFV v) {s : Nat} {r : Int32} (h : vp_in r 6) : WFV (vSit v s r) := by
  refine ⟨w.1, w.2.1, fun i hi => ⟨?_, ?_⟩⟩
  · exact (w.2.2 i hi).1
  · unfold vSit
    rw [upc_same]
    unfold upd
    split
    · exact h
    · exact (w.2.2 i hi).2
theorem wfv_kind {v : Sto} (w : WFV v) {s : Nat} {r : Int32} (h : vp_in r 6) : WFV (vKind v s r) := by
  refine ⟨w.1, w.2.1, fun i hi => ⟨?_, ?_⟩⟩
  · unfold vKind
    rw [upc_same]
    unfold upd
    split
    · exact h
    · exact (w.2.2 i hi).1
  · exact (w.2.2 i hi).2
def frS (σ σ' : Sto) : Prop := ∀ k, ¬ (16 ≤ k ∧ k < 24) → σ' k = σ k
theorem frS_T {σ a b : Sto} (h : frS σ a) (h2 : frT a b) : frS σ b := fun k hk => (h2 k (by omega)).trans (h k hk)
theorem frS_16 {σ a : Sto} (h : frS σ a) (f : Nat → Int32) : frS σ (upc a 16 f) := fun k hk => (upc_ne (by omega)).trans (h k hk)
theorem frS_rf (σ : Sto) : frS σ σ := fun _ _ => rfl
theorem TV_bec2 {σ a : Sto} (h : frS σ a) : TV (bec a 17 7) (vw σ 7) (σ (7 + 6)) := by
  obtain ⟨h0, hk, h6⟩ := TV_bec a 7
  refine ⟨fun j hj => ?_, fun k h1 h2 => ?_, ?_⟩
  · rw [h0 j hj]; show a (7 + 0) j = σ (7 + 0) j; rw [h _ (by omega)]
  · rw [hk k h1 h2]; show a (7 + k) = σ (7 + k); rw [h _ (by omega)]
  · rw [h6, h _ (by omega)]
theorem wfh_fr {σ a : Sto} (h : frS σ a) (w : WFH σ 7) : WFH a 7 := by
  unfold WFH
  rw [h 7 (by omega), h (7 + 1) (by omega), h (7 + 2) (by omega), h (7 + 3) (by omega), h (7 + 4) (by omega)]
  exact w
theorem lpg_in {B : Int32} {N i : Nat} (hB : B = nI N - 1) (hN : N < 2 ^ 30) (hi : i < N) : ¬ B < nI i := by
  rw [hB, Int32.not_lt]
  obtain ⟨M, rfl⟩ : ∃ M, N = M + 1 := ⟨N - 1, by omega⟩
  rw [nI_pred]
  exact nI_le (by omega) (by omega)
theorem lpg_out {B : Int32} {N : Nat} (hB : B = nI N - 1) (hN : N < 2 ^ 30) : B < nI N := by
  rw [hB]
  rcases Nat.eq_zero_or_pos N with rfl | h
  · decide
  · obtain ⟨M, rfl⟩ : ∃ M, N = M + 1 := ⟨N - 1, by omega⟩
    rw [nI_pred]
    exact nI_lt (by omega) (by omega)
def ush (x s : Int32) : Int32 := (x.toUInt32 >>> (s.toUInt32 &&& Int32.toUInt32 31)).toInt32
def bc1 (x : Int32) : Int32 := x - (ush x 1 &&& 1431655765)
def bc2 (x : Int32) : Int32 := (x &&& 858993459) + (ush x 2 &&& 858993459)
def bc3 (x : Int32) : Int32 := (x + ush x 4) &&& 252645135
def bc4 (x : Int32) : Int32 := x + ush x 8
def bc5 (x : Int32) : Int32 := x + ush x 16
def s_bc (x : Int32) : Int32 := bc5 (bc4 (bc3 (bc2 (bc1 x)))) &&& 63

set_option maxRecDepth 20000 in
set_option maxHeartbeats 4000000 in
theorem c_J6_bitCount_0f7a4 {E : EE} (hE : inj E 0 40) {σ : Sto} {τ : Stl} {x : Int32}  : Ct E 0 40 yJ6_bitCount_0f7a4 cJ6_bitCount_0f7a4 1 (some FieldType.int) { frames := 0, cells := 0, slots := 0, locals := 0 } [.int x] σ τ (Pi (s_bc x) (σ) (τ)) := by
  refine ct_of hE RJ6 [some (.int x)] (by decide) rfl (Nat.le_of_ble_eq_true rfl) rfl (fun X => ?_)
  refine g_iload_n (q := 1) dJ6_bitCount_0f7a4_0 rfl rfl ?_
  refine g_iload_n (q := 2) dJ6_bitCount_0f7a4_1 rfl rfl ?_
  refine g_iconst (q := 3) dJ6_bitCount_0f7a4_2 ci_1 rfl ?_
  refine g_iushr (q := 4) dJ6_bitCount_0f7a4_3 rfl ?_
  refine g_ldcw (q := 7) dJ6_bitCount_0f7a4_4 wd_626 rfl ?_
  refine g_iand (q := 8) dJ6_bitCount_0f7a4_7 rfl ?_
  refine g_isub (q := 9) dJ6_bitCount_0f7a4_8 rfl ?_
  refine g_istore_n (j := 0) (q := 10) dJ6_bitCount_0f7a4_9 rfl (by decide) rfl rfl ?_
  refine g_iload_n (q := 11) dJ6_bitCount_0f7a4_10 rfl rfl ?_
  refine g_ldcw (q := 14) dJ6_bitCount_0f7a4_11 wd_627 rfl ?_
  refine g_iand (q := 15) dJ6_bitCount_0f7a4_14 rfl ?_
  refine g_iload_n (q := 16) dJ6_bitCount_0f7a4_15 rfl rfl ?_
  refine g_iconst (q := 17) dJ6_bitCount_0f7a4_16 ci_2 rfl ?_
  refine g_iushr (q := 18) dJ6_bitCount_0f7a4_17 rfl ?_
  refine g_ldcw (q := 21) dJ6_bitCount_0f7a4_18 wd_627 rfl ?_
  refine g_iand (q := 22) dJ6_bitCount_0f7a4_21 rfl ?_
  refine g_iadd (q := 23) dJ6_bitCount_0f7a4_22 rfl ?_
  refine g_istore_n (j := 0) (q := 24) dJ6_bitCount_0f7a4_23 rfl (by decide) rfl rfl ?_
  refine g_iload_n (q := 25) dJ6_bitCount_0f7a4_24 rfl rfl ?_
  refine g_iload_n (q := 26) dJ6_bitCount_0f7a4_25 rfl rfl ?_
  refine g_iconst (q := 27) dJ6_bitCount_0f7a4_26 ci_4 rfl ?_
  refine g_iushr (q := 28) dJ6_bitCount_0f7a4_27 rfl ?_
  refine g_iadd (q := 29) dJ6_bitCount_0f7a4_28 rfl ?_
  refine g_ldcw (q := 32) dJ6_bitCount_0f7a4_29 wd_628 rfl ?_
  refine g_iand (q := 33) dJ6_bitCount_0f7a4_32 rfl ?_
  refine g_istore_n (j := 0) (q := 34) dJ6_bitCount_0f7a4_33 rfl (by decide) rfl rfl ?_
  refine g_iload_n (q := 35) dJ6_bitCount_0f7a4_34 rfl rfl ?_
  refine g_iload_n (q := 36) dJ6_bitCount_0f7a4_35 rfl rfl ?_
  refine g_bipush (q := 38) dJ6_bitCount_0f7a4_36 cb_8 rfl ?_
  refine g_iushr (q := 39) dJ6_bitCount_0f7a4_38 rfl ?_
  refine g_iadd (q := 40) dJ6_bitCount_0f7a4_39 rfl ?_
  refine g_istore_n (j := 0) (q := 41) dJ6_bitCount_0f7a4_40 rfl (by decide) rfl rfl ?_
  refine g_iload_n (q := 42) dJ6_bitCount_0f7a4_41 rfl rfl ?_
  refine g_iload_n (q := 43) dJ6_bitCount_0f7a4_42 rfl rfl ?_
  refine g_bipush (q := 45) dJ6_bitCount_0f7a4_43 cb_16 rfl ?_
  refine g_iushr (q := 46) dJ6_bitCount_0f7a4_45 rfl ?_
  refine g_iadd (q := 47) dJ6_bitCount_0f7a4_46 rfl ?_
  refine g_istore_n (j := 0) (q := 48) dJ6_bitCount_0f7a4_47 rfl (by decide) rfl rfl ?_
  refine g_iload_n (q := 49) dJ6_bitCount_0f7a4_48 rfl rfl ?_
  refine g_bipush (q := 51) dJ6_bitCount_0f7a4_49 cb_63 rfl ?_
  refine g_iand (q := 52) dJ6_bitCount_0f7a4_51 rfl ?_
  exact g_iret dJ6_bitCount_0f7a4_52 (pi_i (by rfl) (by rfl) rfl)
set_option maxRecDepth 20000 in
set_option maxHeartbeats 4000000 in
theorem c_X4_tell {E : EE} (hE : inj E 0 40) {σ : Sto} {τ : Stl} {a b : Int32}  : Ct E 0 40 yX4_tell cX4_tell 3 none { frames := 0, cells := 0, slots := 0, locals := 0 } [.ref (E.2.1 16), .int a, .int b] σ τ (Pv (upc σ 16 (upd (upd (σ 16) 1 a) 2 b)) (τ)) := by
  refine ct_of hE RX4 [some (.ref (E.2.1 16)), some (.int a), some (.int b)] (by decide) rfl (Nat.le_of_ble_eq_true rfl) rfl (fun X => ?_)
  refine g_aload_n (q := 1) dX4_tell_0 rfl rfl ?_
  refine g_iload_n (q := 2) dX4_tell_1 rfl rfl ?_
  refine p4_1 (q := 5) wd_236 dX4_tell_2 rfl ?_
  refine g_aload_n (q := 6) dX4_tell_5 rfl rfl ?_
  refine g_iload_n (q := 7) dX4_tell_6 rfl rfl ?_
  refine p4_2 (q := 10) wd_237 dX4_tell_7 rfl ?_
  exact g_vret dX4_tell_10 (pv_i (by simp only [upc_upc, upc_same]) rfl)
set_option maxRecDepth 20000 in
set_option maxHeartbeats 4000000 in
theorem c_X4_told {E : EE} (hE : inj E 0 40) {σ : Sto} {τ : Stl} {w : Int32}  : Ct E 0 40 yX4_told cX4_told 2 (some FieldType.int) { frames := 0, cells := 0, slots := 0, locals := 0 } [.ref (E.2.1 16), .int w] σ τ (Pi (if w = 0 then σ 16 1 else σ 16 2) (σ) (τ)) := by
  refine ct_of hE RX4 [some (.ref (E.2.1 16)), some (.int w)] (by decide) rfl (Nat.le_of_ble_eq_true rfl) rfl (fun X => ?_)
  refine g_iload_n (q := 1) dX4_told_0 rfl rfl ?_
  refine g_if_ne (t := 11) (q := 4) dX4_told_1 (by decide) rfl (fun c_1 => ?_) (fun c_1 => ?_)
  · refine g_aload_n (q := 12) dX4_told_11 rfl rfl ?_
    refine f4_2 (q := 15) wd_237 dX4_told_12 rfl ?_
    exact g_iret dX4_told_15 (pi_i (by simp [c_1]) (by rfl) rfl)
  · refine g_aload_n (q := 5) dX4_told_4 rfl rfl ?_
    refine f4_1 (q := 8) wd_236 dX4_told_5 rfl ?_
    refine g_goto (t := 15) dX4_told_8 (by decide) ?_
    exact g_iret dX4_told_15 (pi_i (by simp [c_1]) (by rfl) rfl)
set_option maxRecDepth 20000 in
set_option maxHeartbeats 4000000 in
theorem c_X4_look {E : EE} (hE : inj E 0 40) {σ : Sto} {τ : Stl} {m : Int32} {σ0 : Sto} (w : WFH σ0 7) (h0 : frS σ0 σ) (hm : ¬ m < 0) : Ct E 0 40 yX4_look cX4_look 3 none { frames := 3, cells := 0, slots := 0, locals := 74 } [.ref (E.2.1 16), .ref (E.2.1 7), .int m] σ τ (PvP (fun σ' τ' => frT σ σ' ∧ TV σ' (vw σ0 7) (hcs (vw σ0 7) (σ0 (7 + 6)) (m.toNatClampNeg)) ∧ τ' = τ)) := by
  refine ct_of hE RX4 [some (.ref (E.2.1 16)), some (.ref (E.2.1 7)), some (.int m)] (by decide) rfl (Nat.le_of_ble_eq_true rfl) rfl (fun X => ?_)
  refine g_aload_n (q := 1) dX4_look_0 rfl rfl ?_
  refine f4_0 (q := 4) wd_234 dX4_look_1 rfl ?_
  refine g_aload_n (q := 5) dX4_look_4 rfl rfl ?_
  refine g_callVv (q := 8) (c_X1_become hE rfl rfl (by decide)) lk_RX4_25 (Nat.zero_le _) (h_lt rfl) rfl (by decide) rfl rfl rfl rfl rfl rfl (Nat.le_of_ble_eq_true rfl) (Nat.le_of_ble_eq_true rfl) (Nat.le_of_ble_eq_true rfl) dX4_look_5 rfl ?_
  refine g_aload_n (q := 9) dX4_look_8 rfl rfl ?_
  refine f4_0 (q := 12) wd_234 dX4_look_9 rfl ?_
  refine g_iload_n (q := 13) dX4_look_12 rfl rfl ?_
  refine g_callVv (q := 16) (c_X1_passHours hE rfl (WF_TV (wfv_of w) (TV_bec2 h0)) hm) lk_RX4_29 (Nat.zero_le _) (h_lt rfl) rfl (by decide) rfl rfl rfl rfl rfl rfl (Nat.le_of_ble_eq_true rfl) (Nat.le_of_ble_eq_true rfl) (Nat.le_of_ble_eq_true rfl) dX4_look_13 rfl ?_
  refine g_vret dX4_look_16 ⟨rfl, ?_⟩
  exact ⟨frT_tr (fr_bec σ 7) (fr_hrs _ _), TV_hrs (TV_bec2 h0) _, rfl⟩
set_option maxRecDepth 20000 in
set_option maxHeartbeats 4000000 in
theorem c_X4_lookWithMoved {E : EE} (hE : inj E 0 40) {σ : Sto} {τ : Stl} {b m : Int32} {σ0 : Sto} (w : WFH σ0 7) (h0 : frS σ0 σ) (hm : ¬ m < 0) : Ct E 0 40 yX4_lookWithMoved cX4_lookWithMoved 4 none { frames := 3, cells := 0, slots := 0, locals := 74 } [.ref (E.2.1 16), .ref (E.2.1 7), .int b, .int m] σ τ (PvP (fun σ' τ' => frT σ σ' ∧ TV σ' (vDoors (vw σ0 7) b) (hcs (vDoors (vw σ0 7) b) (σ0 (7 + 6)) (m.toNatClampNeg)) ∧ τ' = τ)) := by
  refine ct_of hE RX4 [some (.ref (E.2.1 16)), some (.ref (E.2.1 7)), some (.int b), some (.int m)] (by decide) rfl (Nat.le_of_ble_eq_true rfl) rfl (fun X => ?_)
  refine g_aload_n (q := 1) dX4_lookWithMoved_0 rfl rfl ?_
  refine f4_0 (q := 4) wd_234 dX4_lookWithMoved_1 rfl ?_
  refine g_aload_n (q := 5) dX4_lookWithMoved_4 rfl rfl ?_
  refine g_callVv (q := 8) (c_X1_become hE rfl rfl (by decide)) lk_RX4_25 (Nat.zero_le _) (h_lt rfl) rfl (by decide) rfl rfl rfl rfl rfl rfl (Nat.le_of_ble_eq_true rfl) (Nat.le_of_ble_eq_true rfl) (Nat.le_of_ble_eq_true rfl) dX4_lookWithMoved_5 rfl ?_
  refine g_aload_n (q := 9) dX4_lookWithMoved_8 rfl rfl ?_
  refine f4_0 (q := 12) wd_234 dX4_lookWithMoved_9 rfl ?_
  refine g_iload_n (q := 13) dX4_lookWithMoved_12 rfl rfl ?_
  refine g_callVv (q := 16) (c_X1_moveDoors hE rfl) lk_RX4_62 (Nat.zero_le _) (h_lt rfl) rfl (by decide) rfl rfl rfl rfl rfl rfl (Nat.le_of_ble_eq_true rfl) (Nat.le_of_ble_eq_true rfl) (Nat.le_of_ble_eq_true rfl) dX4_lookWithMoved_13 rfl ?_
  refine g_aload_n (q := 17) dX4_lookWithMoved_16 rfl rfl ?_
  refine f4_0 (q := 20) wd_234 dX4_lookWithMoved_17 rfl ?_
  refine g_iload_n (q := 21) dX4_lookWithMoved_20 rfl rfl ?_
  refine g_callVv (q := 24) (c_X1_passHours hE rfl (WF_TV (wfv_mv (wfv_of w) b) (TV_mv (TV_bec2 h0) b)) hm) lk_RX4_29 (Nat.zero_le _) (h_lt rfl) rfl (by decide) rfl rfl rfl rfl rfl rfl (Nat.le_of_ble_eq_true rfl) (Nat.le_of_ble_eq_true rfl) (Nat.le_of_ble_eq_true rfl) dX4_lookWithMoved_21 rfl ?_
  refine g_vret dX4_lookWithMoved_24 ⟨rfl, ?_⟩
  exact ⟨frT_tr (frT_tr (fr_bec σ 7) (fr_upc (by decide))) (fr_hrs _ _), TV_hrs (TV_mv (TV_bec2 h0) b) _, rfl⟩
