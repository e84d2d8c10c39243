def inL (v a b : Int64) : Bool := !(decide (lg_cmp v a < 0)) && !(decide (0 < lg_cmp v b))
theorem cmp_lt {x y : Int64} : lg_cmp x y < 0 ↔ x < y := by
  unfold lg_cmp
  by_cases h1 : y < x
  · rw [if_pos h1]
    exact ⟨fun h => absurd h (by decide), fun h => absurd (Int64.lt_trans h h1) (Int64.lt_irrefl)⟩
  · rw [if_neg h1]
    by_cases h2 : x = y
    · rw [if_pos h2]
      exact ⟨fun h => absurd h (by decide), fun h => absurd h (by rw [h2]; exact Int64.lt_irrefl)⟩
    · rw [if_neg h2]
      refine ⟨fun _ => ?_, fun _ => by decide⟩
      rcases Int64.lt_or_eq_of_le (Int64.not_lt.mp h1) with h | h
      · exact h
      · exact absurd h h2
theorem cmp_gt {x y : Int64} : 0 < lg_cmp x y ↔ y < x := by
  unfold lg_cmp
  by_cases h1 : y < x
  · rw [if_pos h1]
    exact ⟨fun _ => h1, fun _ => by decide⟩
  · rw [if_neg h1]
    by_cases h2 : x = y
    · rw [if_pos h2]
      exact ⟨fun h => absurd h (by decide), fun h => absurd h h1⟩
    · rw [if_neg h2]
      exact ⟨fun h => absurd h (by decide), fun h => absurd h h1⟩
theorem inL_eq (v a b : Int64) : inL v a b = (decide (a ≤ v) && decide (v ≤ b)) := by
  unfold inL
  rw [decide_eq_decide.mpr cmp_lt, decide_eq_decide.mpr cmp_gt, ← decide_not, ← decide_not, decide_eq_decide.mpr Int64.not_lt, decide_eq_decide.mpr Int64.not_lt]
theorem i2l_le (a b : Int32) : a.toInt64 ≤ b.toInt64 ↔ a ≤ b := by rw [Int64.le_iff_toInt_le, Int32.le_iff_toInt_le, Int32.toInt_toInt64, Int32.toInt_toInt64]
theorem inL_i (v a b : Int32) : inL v.toInt64 a.toInt64 b.toInt64 = wi v a b := by
  rw [inL_eq]
  unfold wi
  rw [decide_eq_decide.mpr (i2l_le a v), decide_eq_decide.mpr (i2l_le v b)]
def fndM (σ : Sto) (n : Int32) : Sto := upc σ 40 (upd (σ 40) 3 n)
def asL (l v : Int32) : Int32 := if l = 0 then (v <<< (24 &&& 31)) >>> (24 &&& 31) else if l = 1 then (v <<< (16 &&& 31)) >>> (16 &&& 31) else v
def pop8 (j : Nat) : Nat := j % 2 + j / 2 % 2 + j / 4 % 2 + j / 8 % 2 + j / 16 % 2 + j / 32 % 2 + j / 64 % 2 + j / 128 % 2
def itO (x : Int32) : Nat → Int32
  | 0 => x
  | i + 1 => itO x i &&& (itO x i - 1)
theorem ones_ok : ∀ j, j < 256 → itO (nI j) (pop8 j) = 0 ∧ ∀ i, i < pop8 j → ¬ itO (nI j) i = 0 := by decide +kernel
theorem bc_ok : ∀ j, j < 256 → s_bc (nI j) = nI (pop8 j) := by decide +kernel
theorem pop_le (j : Nat) : pop8 j ≤ 8 := by unfold pop8; omega
set_option maxRecDepth 20000 in
set_option maxHeartbeats 4000000 in
theorem c_X7_in {E : EE} (hE : inj E 40 13) {σ : Sto} {τ : Stl} {v a b : Int64}  : Ct E 40 13 yX7_in cX7_in 6 (some FieldType.boolean) { frames := 0, cells := 0, slots := 0, locals := 0 } [.long v, .long a, .long b] σ τ (Pi (bI (inL v a b)) (σ) (τ)) := by
  refine ct_of hE RX7 [some (.long v), none, some (.long a), none, some (.long b), none] (by decide) rfl (Nat.le_of_ble_eq_true rfl) rfl (fun X => ?_)
  refine g_lload_n (q := 1) dX7_in_0 rfl rfl ?_
  refine g_lload_n (q := 2) dX7_in_1 rfl rfl ?_
  refine g_lcmp (q := 3) dX7_in_2 rfl ?_
  refine g_if_lt (t := 17) (q := 6) dX7_in_3 (by decide) rfl (fun c_3 => ?_) (fun c_3 => ?_)
  · refine g_iconst (q := 18) dX7_in_17 ci_0 rfl ?_
    exact g_zret dX7_in_18 (by first | decide | exact bI_nar _) (pi_i (by simp_all [inL, bI]) (by rfl) rfl)
  · refine g_lload_n (q := 7) dX7_in_6 rfl rfl ?_
    refine g_lload (q := 9) dX7_in_7 rfl rfl ?_
    refine g_lcmp (q := 10) dX7_in_9 rfl ?_
    refine g_if_gt (t := 17) (q := 13) dX7_in_10 (by decide) rfl (fun c_10 => ?_) (fun c_10 => ?_)
    · refine g_iconst (q := 18) dX7_in_17 ci_0 rfl ?_
      exact g_zret dX7_in_18 (by first | decide | exact bI_nar _) (pi_i (by simp_all [inL, bI]) (by rfl) rfl)
    · refine g_iconst (q := 14) dX7_in_13 ci_1 rfl ?_
      refine g_goto (t := 18) dX7_in_14 (by decide) ?_
      exact g_zret dX7_in_18 (by first | decide | exact bI_nar _) (pi_i (by simp_all [inL, bI]) (by rfl) rfl)
set_option maxRecDepth 20000 in
set_option maxHeartbeats 4000000 in
theorem c_X7_has {E : EE} (hE : inj E 40 13) {σ : Sto} {τ : Stl} {s k : Int32}  : Ct E 40 13 yX7_has cX7_has 2 (some FieldType.boolean) { frames := 0, cells := 0, slots := 0, locals := 0 } [.int s, .int k] σ τ (Pi (bI ((s >>> (k &&& 31)) &&& 1 == 1)) (σ) (τ)) := by
  refine ct_of hE RX7 [some (.int s), some (.int k)] (by decide) rfl (Nat.le_of_ble_eq_true rfl) rfl (fun X => ?_)
  refine g_iload_n (q := 1) dX7_has_0 rfl rfl ?_
  refine g_iload_n (q := 2) dX7_has_1 rfl rfl ?_
  refine g_ishr (q := 3) dX7_has_2 rfl ?_
  refine g_iconst (q := 4) dX7_has_3 ci_1 rfl ?_
  refine g_iand (q := 5) dX7_has_4 rfl ?_
  refine g_iconst (q := 6) dX7_has_5 ci_1 rfl ?_
  refine g_icmp_ne (t := 13) (q := 9) dX7_has_6 (by decide) rfl (fun c_6 => ?_) (fun c_6 => ?_)
  · refine g_iconst (q := 14) dX7_has_13 ci_0 rfl ?_
    exact g_zret dX7_has_14 (by first | decide | exact bI_nar _) (pi_i (by simp_all [bI]) (by rfl) rfl)
  · refine g_iconst (q := 10) dX7_has_9 ci_1 rfl ?_
    refine g_goto (t := 14) dX7_has_10 (by decide) ?_
    exact g_zret dX7_has_14 (by first | decide | exact bI_nar _) (pi_i (by simp_all [bI]) (by rfl) rfl)
set_option maxRecDepth 20000 in
set_option maxHeartbeats 4000000 in
theorem c_X7_ones {E : EE} (hE : inj E 40 13) {σ : Sto} {τ : Stl} {j : Nat} (hj : j < 256) : Ct E 40 13 yX7_ones cX7_ones 3 (some FieldType.int) { frames := 0, cells := 0, slots := 0, locals := 0 } [.int (nI j)] σ τ (Pi (nI (pop8 j)) (σ) (τ)) := by
  refine ct_of hE RX7 [some (.int (nI j)), none, none] (by decide) rfl (Nat.le_of_ble_eq_true rfl) rfl (fun X => ?_)
  refine g_iconst (q := 1) dX7_ones_0 ci_0 rfl ?_
  refine g_istore_n (j := 1) (q := 2) dX7_ones_1 rfl (by decide) rfl rfl ?_
  refine g_iload_n (q := 3) dX7_ones_2 rfl rfl ?_
  refine g_istore_n (j := 2) (q := 4) dX7_ones_3 rfl (by decide) rfl rfl ?_
  refine g_for (I := fun i => [some (.int (nI j)), some (.int (nI i)), some (.int (itO (nI j) i))]) (S := fun i => σ) (T := fun i => τ) (0) (pop8 j) (Nat.zero_le _) (by rfl) (by rfl) (by rfl) (fun i i0 i1 kk_i => ?_) ?_
  · have hci : (nI i).toNatClampNeg = i := nI_clamp (by (have := pop_le j; omega))
    refine g_iload_n (q := 5) dX7_ones_4 rfl rfl ?_
    refine g_if_eq (t := 20) (q := 8) dX7_ones_5 (by decide) rfl (fun c_5 => ?_) (fun c_5 => ?_)
    · exact absurd c_5 ((ones_ok j hj).2 i i1)
    · refine g_iinc (q := 11) dX7_ones_8 rfl ci_1 (by decide) rfl rfl ?_
      refine g_iload_n (q := 12) dX7_ones_11 rfl rfl ?_
      refine g_iload_n (q := 13) dX7_ones_12 rfl rfl ?_
      refine g_iconst (q := 14) dX7_ones_13 ci_1 rfl ?_
      refine g_isub (q := 15) dX7_ones_14 rfl ?_
      refine g_iand (q := 16) dX7_ones_15 rfl ?_
      refine g_istore_n (j := 2) (q := 17) dX7_ones_16 rfl (by decide) rfl rfl ?_
      refine g_goto (t := 4) dX7_ones_17 (by decide) ?_
      exact g_eqw kk_i (by simp [lsub, itO, hci, nI_succ]) (by rfl) rfl
  · refine g_iload_n (q := 5) dX7_ones_4 rfl rfl ?_
    refine g_if_eq (t := 20) (q := 8) dX7_ones_5 (by decide) rfl (fun c_5 => ?_) (fun c_5 => ?_)
    · refine g_iload_n (q := 21) dX7_ones_20 rfl rfl ?_
      exact g_iret dX7_ones_21 (pi_i (by rfl) (by rfl) rfl)
    · exact absurd (ones_ok j hj).1 c_5
set_option maxRecDepth 20000 in
set_option maxHeartbeats 4000000 in
theorem c_X7_find {E : EE} (hE : inj E 40 13) {σ : Sto} {τ : Stl} {n : Int32}  : Ct E 40 13 yX7_find cX7_find 2 (some FieldType.int) { frames := 0, cells := 0, slots := 0, locals := 0 } [.ref (E.2.1 40), .int n] σ τ (Pi (-1000010 - n) (fndM σ n) (τ)) := by
  refine ct_of hE RX7 [some (.ref (E.2.1 40)), some (.int n)] (by decide) rfl (Nat.le_of_ble_eq_true rfl) rfl (fun X => ?_)
  refine g_aload_n (q := 1) dX7_find_0 rfl rfl ?_
  refine g_iload_n (q := 2) dX7_find_1 rfl rfl ?_
  refine p7_3 (q := 5) wd_851 dX7_find_2 rfl ?_
  refine g_ldc (q := 7) dX7_find_5 wd_936 rfl ?_
  refine g_iload_n (q := 8) dX7_find_7 rfl rfl ?_
  refine g_isub (q := 9) dX7_find_8 rfl ?_
  exact g_iret dX7_find_9 (pi_i (by rfl) (by rfl) rfl)
set_option maxRecDepth 20000 in
set_option maxHeartbeats 4000000 in
theorem c_X7_well {E : EE} (hE : inj E 40 13) {σ : Sto} {τ : Stl} {v : Int32}  : Ct E 40 13 yX7_well cX7_well 2 (some FieldType.int) { frames := 0, cells := 0, slots := 0, locals := 0 } [.ref (E.2.1 40), .int v] σ τ (Pi (v) (fndM σ 0) (τ)) := by
  refine ct_of hE RX7 [some (.ref (E.2.1 40)), some (.int v)] (by decide) rfl (Nat.le_of_ble_eq_true rfl) rfl (fun X => ?_)
  refine g_aload_n (q := 1) dX7_well_0 rfl rfl ?_
  refine g_iconst (q := 2) dX7_well_1 ci_0 rfl ?_
  refine p7_3 (q := 5) wd_851 dX7_well_2 rfl ?_
  refine g_iload_n (q := 6) dX7_well_5 rfl rfl ?_
  exact g_iret dX7_well_6 (pi_i (by rfl) (by rfl) rfl)
set_option maxRecDepth 20000 in
set_option maxHeartbeats 4000000 in
theorem c_X7_isRow {E : EE} (hE : inj E 40 13) {σ : Sto} {τ : Stl} {r : Int32}  : Ct E 40 13 yX7_isRow cX7_isRow 1 (some FieldType.boolean) { frames := 1, cells := 0, slots := 0, locals := 25 } [.int r] σ τ (Pi (bI (wi r 0 7)) (σ) (τ)) := by
  refine ct_of hE RX7 [some (.int r)] (by decide) rfl (Nat.le_of_ble_eq_true rfl) rfl (fun X => ?_)
  refine g_iload_n (q := 1) dX7_isRow_0 rfl rfl ?_
  refine g_i2l (q := 2) dX7_isRow_1 rfl ?_
  refine g_lconst (q := 3) dX7_isRow_2 cl_0 rfl ?_
  refine g_ldc2 (q := 6) dX7_isRow_3 wd_926 rfl ?_
  refine g_callSi (q := 9) (c_X7_in hE ) lk_RX7_54 rfl rfl rfl rfl (Nat.le_of_ble_eq_true rfl) (Nat.le_of_ble_eq_true rfl) (Nat.le_of_ble_eq_true rfl) dX7_isRow_6 rfl ?_
  exact g_zret dX7_isRow_9 (by first | decide | exact bI_nar _) (pi_i (by rw [← inL_i]; rfl) (by rfl) rfl)
set_option maxRecDepth 20000 in
set_option maxHeartbeats 4000000 in
theorem c_X7_asLane {E : EE} (hE : inj E 40 13) {σ : Sto} {τ : Stl} {l v : Int32}  : Ct E 40 13 yX7_asLane cX7_asLane 2 (some FieldType.int) { frames := 0, cells := 0, slots := 0, locals := 0 } [.int l, .int v] σ τ (Pi (asL l v) (σ) (τ)) := by
  refine ct_of hE RX7 [some (.int l), some (.int v)] (by decide) rfl (Nat.le_of_ble_eq_true rfl) rfl (fun X => ?_)
  refine g_iload_n (q := 1) dX7_asLane_0 rfl rfl ?_
  refine g_if_ne (t := 14) (q := 4) dX7_asLane_1 (by decide) rfl (fun c_1 => ?_) (fun c_1 => ?_)
  · refine g_iload_n (q := 15) dX7_asLane_14 rfl rfl ?_
    refine g_iconst (q := 16) dX7_asLane_15 ci_1 rfl ?_
    refine g_icmp_ne (t := 29) (q := 19) dX7_asLane_16 (by decide) rfl (fun c_16 => ?_) (fun c_16 => ?_)
    · refine g_iload_n (q := 30) dX7_asLane_29 rfl rfl ?_
      exact g_iret dX7_asLane_30 (pi_i (by simp_all [asL]) (by rfl) rfl)
    · refine g_iload_n (q := 20) dX7_asLane_19 rfl rfl ?_
      refine g_bipush (q := 22) dX7_asLane_20 cb_16 rfl ?_
      refine g_ishl (q := 23) dX7_asLane_22 rfl ?_
      refine g_bipush (q := 25) dX7_asLane_23 cb_16 rfl ?_
      refine g_ishr (q := 26) dX7_asLane_25 rfl ?_
      refine g_goto (t := 30) dX7_asLane_26 (by decide) ?_
      exact g_iret dX7_asLane_30 (pi_i (by simp_all [asL]) (by rfl) rfl)
  · refine g_iload_n (q := 5) dX7_asLane_4 rfl rfl ?_
    refine g_bipush (q := 7) dX7_asLane_5 cb_24 rfl ?_
    refine g_ishl (q := 8) dX7_asLane_7 rfl ?_
    refine g_bipush (q := 10) dX7_asLane_8 cb_24 rfl ?_
    refine g_ishr (q := 11) dX7_asLane_10 rfl ?_
    refine g_goto (t := 30) dX7_asLane_11 (by decide) ?_
    exact g_iret dX7_asLane_30 (pi_i (by simp_all [asL]) (by rfl) rfl)
set_option maxRecDepth 20000 in
set_option maxHeartbeats 4000000 in
theorem c_X7_bound {E : EE} (hE : inj E 40 13) {σ : Sto} {τ : Stl} {v : Int32}  : Ct E 40 13 yX7_bound cX7_bound 1 (some FieldType.int) { frames := 0, cells := 0, slots := 0, locals := 0 } [.int v] σ τ (Pi (if 0 ≤ v then (if v ≤ 999 then v else 999) else 0) (σ) (τ)) := by
  refine ct_of hE RX7 [some (.int v)] (by decide) rfl (Nat.le_of_ble_eq_true rfl) rfl (fun X => ?_)
  refine g_iload_n (q := 1) dX7_bound_0 rfl rfl ?_
  refine g_if_ge (t := 8) (q := 4) dX7_bound_1 (by decide) rfl (fun c_1 => ?_) (fun c_1 => ?_)
  · refine g_iload_n (q := 9) dX7_bound_8 rfl rfl ?_
    refine g_sipush (q := 12) dX7_bound_9 cs_999 rfl ?_
    refine g_icmp_le (t := 21) (q := 15) dX7_bound_12 (by decide) rfl (fun c_12 => ?_) (fun c_12 => ?_)
    · refine g_iload_n (q := 22) dX7_bound_21 rfl rfl ?_
      exact g_iret dX7_bound_22 (pi_i (by simp only [if_pos c_1, if_pos c_12]) (by rfl) rfl)
    · refine g_sipush (q := 18) dX7_bound_15 cs_999 rfl ?_
      refine g_goto (t := 22) dX7_bound_18 (by decide) ?_
      exact g_iret dX7_bound_22 (pi_i (by simp only [if_pos c_1, if_neg c_12]) (by rfl) rfl)
  · refine g_iconst (q := 5) dX7_bound_4 ci_0 rfl ?_
    refine g_goto (t := 22) dX7_bound_5 (by decide) ?_
    exact g_iret dX7_bound_22 (pi_i (by simp only [if_neg c_1]) (by rfl) rfl)
set_option maxRecDepth 20000 in
set_option maxHeartbeats 4000000 in
theorem c_X7_fault {E : EE} (hE : inj E 40 13) {σ : Sto} {τ : Stl}   : Ct E 40 13 yX7_fault cX7_fault 1 (some FieldType.int) { frames := 0, cells := 0, slots := 0, locals := 0 } [.ref (E.2.1 40)] σ τ (Pi (σ 40 9) (σ) (τ)) := by
  refine ct_of hE RX7 [some (.ref (E.2.1 40))] (by decide) rfl (Nat.le_of_ble_eq_true rfl) rfl (fun X => ?_)
  refine g_aload_n (q := 1) dX7_fault_0 rfl rfl ?_
  refine f7_9 (q := 4) wd_857 dX7_fault_1 rfl ?_
  exact g_iret dX7_fault_4 (pi_i (by rfl) (by rfl) rfl)
set_option maxRecDepth 20000 in
set_option maxHeartbeats 4000000 in
theorem c_X7_status {E : EE} (hE : inj E 40 13) {σ : Sto} {τ : Stl}   : Ct E 40 13 yX7_status cX7_status 1 (some FieldType.int) { frames := 0, cells := 0, slots := 0, locals := 0 } [.ref (E.2.1 40)] σ τ (Pi (σ 40 3) (σ) (τ)) := by
  refine ct_of hE RX7 [some (.ref (E.2.1 40))] (by decide) rfl (Nat.le_of_ble_eq_true rfl) rfl (fun X => ?_)
  refine g_aload_n (q := 1) dX7_status_0 rfl rfl ?_
  refine f7_3 (q := 4) wd_851 dX7_status_1 rfl ?_
  exact g_iret dX7_status_4 (pi_i (by rfl) (by rfl) rfl)
