theorem lp_in {B : Int32} {N i : Nat} (hB : B = nI N) (hN : N < 2 ^ 31) (hi : i < N) : ¬ B ≤ nI i := by rw [hB]; exact nI_ge hi hN
theorem lp_out {B : Int32} {N : Nat} (hB : B = nI N) : B ≤ nI N := by rw [hB]; exact Int32.le_refl _
theorem vp_to {x : Int32} {n : Nat} (h : vp_in x n) (hn : n < 2 ^ 31) : x = nI (x.toNatClampNeg) ∧ x.toNatClampNeg < n := by
  obtain ⟨j, hj, rfl⟩ := vp_in_of h hn
  have : (nI j).toNatClampNeg = j := nI_clamp (by omega)
  rw [this]
  exact ⟨rfl, hj⟩
theorem nn_to {x : Int32} (h : ¬ x < 0) : x = nI (x.toNatClampNeg) ∧ x.toNatClampNeg < 2 ^ 31 := by
  obtain ⟨j, hj, rfl⟩ := nI_of h
  have : (nI j).toNatClampNeg = j := nI_clamp (by omega)
  rw [this]
  exact ⟨rfl, hj⟩
theorem rowix {r i : Int32} (hr : vp_in r 8) (hi : vp_in i 40) : r * 40 + i = nI (40 * r.toNatClampNeg + i.toNatClampNeg) ∧ 40 * r.toNatClampNeg + i.toNatClampNeg < 320 := by
  obtain ⟨e1, h1⟩ := vp_to hr (by decide)
  obtain ⟨e2, h2⟩ := vp_to hi (by decide)
  refine ⟨?_, by omega⟩
  have e3 : nI (r.toNatClampNeg) * 40 + nI (i.toNatClampNeg) = nI (40 * r.toNatClampNeg + i.toNatClampNeg) := by rw [show (40 : Int32) = nI 40 from rfl, pk_mul, nI_add, Nat.mul_comm]
  rw [← e1, ← e2] at e3
  exact e3
theorem rowin {r i : Int32} (hr : vp_in r 8) (hi : vp_in i 40) : vp_in (r * 40 + i) 320 := by
  rw [(rowix hr hi).1]
  exact vp_in_nI (rowix hr hi).2 (by decide)
theorem rowtn {r i : Int32} (hr : vp_in r 8) (hi : vp_in i 40) : (r * 40 + i).toNatClampNeg = 40 * r.toNatClampNeg + i.toNatClampNeg := by
  rw [(rowix hr hi).1]
  exact nI_clamp (by have := (rowix hr hi).2; omega)
theorem look2 {x : Int32} {a b : Int} (o1 o2 d : Int) (h1 : ¬ x.toInt = a) (h2 : ¬ x.toInt = b) : Op.lookupswitch.offset [(a, o1), (b, o2)] d x.toInt = d := by
  simp [Op.lookupswitch.offset, Ne.symm h1, Ne.symm h2, List.find?]
def s_rowB (r : Int32) : Bool := decide (0 ≤ r) && decide (r < 8)
set_option maxRecDepth 20000 in
set_option maxHeartbeats 4000000 in
theorem c_X3_isRow {E : EE} (hE : inj E 0 40) {σ : Sto} {τ : Stl} {r : Int32}  : Ct E 0 40 yX3_isRow cX3_isRow 1 (some FieldType.boolean) { frames := 0, cells := 0, slots := 0, locals := 0 } [.int r] σ τ (Pi (bI (s_rowB r)) (σ) (τ)) := by
  refine ct_of hE RX3 [some (.int r)] (by decide) rfl (Nat.le_of_ble_eq_true rfl) rfl (fun X => ?_)
  refine g_iload_n (q := 1) dX3_isRow_0 rfl rfl ?_
  refine g_if_lt (t := 14) (q := 4) dX3_isRow_1 (by decide) rfl (fun c_1 => ?_) (fun c_1 => ?_)
  · refine g_iconst (q := 15) dX3_isRow_14 ci_0 rfl ?_
    exact g_zret dX3_isRow_15 (by first | decide | exact bI_nar _) (pi_i (by grind [s_rowB, bI]) (by rfl) rfl)
  · refine g_iload_n (q := 5) dX3_isRow_4 rfl rfl ?_
    refine g_bipush (q := 7) dX3_isRow_5 cb_8 rfl ?_
    refine g_icmp_ge (t := 14) (q := 10) dX3_isRow_7 (by decide) rfl (fun c_7 => ?_) (fun c_7 => ?_)
    · refine g_iconst (q := 15) dX3_isRow_14 ci_0 rfl ?_
      exact g_zret dX3_isRow_15 (by first | decide | exact bI_nar _) (pi_i (by grind [s_rowB, bI]) (by rfl) rfl)
    · refine g_iconst (q := 11) dX3_isRow_10 ci_1 rfl ?_
      refine g_goto (t := 15) dX3_isRow_11 (by decide) ?_
      exact g_zret dX3_isRow_15 (by first | decide | exact bI_nar _) (pi_i (by grind [s_rowB, bI]) (by rfl) rfl)
set_option maxRecDepth 20000 in
set_option maxHeartbeats 4000000 in
theorem c_X3_isMissing {E : EE} (hE : inj E 0 40) {σ : Sto} {τ : Stl} {r : Int32} (hr : vp_in r 8) : Ct E 0 40 yX3_isMissing cX3_isMissing 2 (some FieldType.boolean) { frames := 0, cells := 0, slots := 0, locals := 0 } [.ref (E.2.1 1), .int r] σ τ (Pi (bI (σ 4 (r.toNatClampNeg) == -1)) (σ) (τ)) := by
  refine ct_of hE RX3 [some (.ref (E.2.1 1)), some (.int r)] (by decide) rfl (Nat.le_of_ble_eq_true rfl) rfl (fun X => ?_)
  refine g_aload_n (q := 1) dX3_isMissing_0 rfl rfl ?_
  refine f3_2 (q := 4) wd_98 dX3_isMissing_1 rfl ?_
  refine g_iload_n (q := 5) dX3_isMissing_4 rfl rfl ?_
  refine g_iald (q := 6) (k := 4) (by decide) (by decide) rfl (show vp_in _ 8 by first | assumption | omega) dX3_isMissing_5 rfl ?_
  refine g_iconst (q := 7) dX3_isMissing_6 ci_m1 rfl ?_
  refine g_icmp_ne (t := 14) (q := 10) dX3_isMissing_7 (by decide) rfl (fun c_7 => ?_) (fun c_7 => ?_)
  · refine g_iconst (q := 15) dX3_isMissing_14 ci_0 rfl ?_
    exact g_zret dX3_isMissing_15 (by first | decide | exact bI_nar _) (pi_i (by simp_all [bI]) (by rfl) rfl)
  · refine g_iconst (q := 11) dX3_isMissing_10 ci_1 rfl ?_
    refine g_goto (t := 15) dX3_isMissing_11 (by decide) ?_
    exact g_zret dX3_isMissing_15 (by first | decide | exact bI_nar _) (pi_i (by simp_all [bI]) (by rfl) rfl)
set_option maxRecDepth 20000 in
set_option maxHeartbeats 4000000 in
theorem c_X3_sameLane {E : EE} (hE : inj E 0 40) {σ : Sto} {τ : Stl} {a b : Int32} (ha : vp_in a 8) (hb : vp_in b 8) : Ct E 0 40 yX3_sameLane cX3_sameLane 3 (some FieldType.boolean) { frames := 0, cells := 0, slots := 0, locals := 0 } [.ref (E.2.1 1), .int a, .int b] σ τ (Pi (bI (σ 3 (a.toNatClampNeg) == σ 3 (b.toNatClampNeg))) (σ) (τ)) := by
  refine ct_of hE RX3 [some (.ref (E.2.1 1)), some (.int a), some (.int b)] (by decide) rfl (Nat.le_of_ble_eq_true rfl) rfl (fun X => ?_)
  refine g_aload_n (q := 1) dX3_sameLane_0 rfl rfl ?_
  refine f3_1 (q := 4) wd_97 dX3_sameLane_1 rfl ?_
  refine g_iload_n (q := 5) dX3_sameLane_4 rfl rfl ?_
  refine g_iald (q := 6) (k := 3) (by decide) (by decide) rfl (show vp_in _ 8 by first | assumption | omega) dX3_sameLane_5 rfl ?_
  refine g_aload_n (q := 7) dX3_sameLane_6 rfl rfl ?_
  refine f3_1 (q := 10) wd_97 dX3_sameLane_7 rfl ?_
  refine g_iload_n (q := 11) dX3_sameLane_10 rfl rfl ?_
  refine g_iald (q := 12) (k := 3) (by decide) (by decide) rfl (show vp_in _ 8 by first | assumption | omega) dX3_sameLane_11 rfl ?_
  refine g_icmp_ne (t := 19) (q := 15) dX3_sameLane_12 (by decide) rfl (fun c_12 => ?_) (fun c_12 => ?_)
  · refine g_iconst (q := 20) dX3_sameLane_19 ci_0 rfl ?_
    exact g_zret dX3_sameLane_20 (by first | decide | exact bI_nar _) (pi_i (by simp_all [bI]) (by rfl) rfl)
  · refine g_iconst (q := 16) dX3_sameLane_15 ci_1 rfl ?_
    refine g_goto (t := 20) dX3_sameLane_16 (by decide) ?_
    exact g_zret dX3_sameLane_20 (by first | decide | exact bI_nar _) (pi_i (by simp_all [bI]) (by rfl) rfl)
def s_hasPlaces (z i n : Int32) : Bool := decide (0 ≤ i) && decide (0 ≤ n) && decide (i ≤ z) && decide (n ≤ z - i)
set_option maxRecDepth 20000 in
set_option maxHeartbeats 4000000 in
theorem c_X3_hasPlaces {E : EE} (hE : inj E 0 40) {σ : Sto} {τ : Stl} {r i m : Int32} (hr : vp_in r 8) : Ct E 0 40 yX3_hasPlaces cX3_hasPlaces 4 (some FieldType.boolean) { frames := 0, cells := 0, slots := 0, locals := 0 } [.ref (E.2.1 1), .int r, .int i, .int m] σ τ (Pi (bI (s_hasPlaces (σ 4 (r.toNatClampNeg)) i m)) (σ) (τ)) := by
  refine ct_of hE RX3 [some (.ref (E.2.1 1)), some (.int r), some (.int i), some (.int m)] (by decide) rfl (Nat.le_of_ble_eq_true rfl) rfl (fun X => ?_)
  refine g_iload_n (q := 1) dX3_hasPlaces_0 rfl rfl ?_
  refine g_if_lt (t := 34) (q := 4) dX3_hasPlaces_1 (by decide) rfl (fun c_1 => ?_) (fun c_1 => ?_)
  · refine g_iconst (q := 35) dX3_hasPlaces_34 ci_0 rfl ?_
    exact g_zret dX3_hasPlaces_35 (by first | decide | exact bI_nar _) (pi_i (by grind [s_hasPlaces, bI]) (by rfl) rfl)
  · refine g_iload_n (q := 5) dX3_hasPlaces_4 rfl rfl ?_
    refine g_if_lt (t := 34) (q := 8) dX3_hasPlaces_5 (by decide) rfl (fun c_5 => ?_) (fun c_5 => ?_)
    · refine g_iconst (q := 35) dX3_hasPlaces_34 ci_0 rfl ?_
      exact g_zret dX3_hasPlaces_35 (by first | decide | exact bI_nar _) (pi_i (by grind [s_hasPlaces, bI]) (by rfl) rfl)
    · refine g_iload_n (q := 9) dX3_hasPlaces_8 rfl rfl ?_
      refine g_aload_n (q := 10) dX3_hasPlaces_9 rfl rfl ?_
      refine f3_2 (q := 13) wd_98 dX3_hasPlaces_10 rfl ?_
      refine g_iload_n (q := 14) dX3_hasPlaces_13 rfl rfl ?_
      refine g_iald (q := 15) (k := 4) (by decide) (by decide) rfl (show vp_in _ 8 by first | assumption | omega) dX3_hasPlaces_14 rfl ?_
      refine g_icmp_gt (t := 34) (q := 18) dX3_hasPlaces_15 (by decide) rfl (fun c_15 => ?_) (fun c_15 => ?_)
      · refine g_iconst (q := 35) dX3_hasPlaces_34 ci_0 rfl ?_
        exact g_zret dX3_hasPlaces_35 (by first | decide | exact bI_nar _) (pi_i (by grind [s_hasPlaces, bI]) (by rfl) rfl)
      · refine g_iload_n (q := 19) dX3_hasPlaces_18 rfl rfl ?_
        refine g_aload_n (q := 20) dX3_hasPlaces_19 rfl rfl ?_
        refine f3_2 (q := 23) wd_98 dX3_hasPlaces_20 rfl ?_
        refine g_iload_n (q := 24) dX3_hasPlaces_23 rfl rfl ?_
        refine g_iald (q := 25) (k := 4) (by decide) (by decide) rfl (show vp_in _ 8 by first | assumption | omega) dX3_hasPlaces_24 rfl ?_
        refine g_iload_n (q := 26) dX3_hasPlaces_25 rfl rfl ?_
        refine g_isub (q := 27) dX3_hasPlaces_26 rfl ?_
        refine g_icmp_gt (t := 34) (q := 30) dX3_hasPlaces_27 (by decide) rfl (fun c_27 => ?_) (fun c_27 => ?_)
        · refine g_iconst (q := 35) dX3_hasPlaces_34 ci_0 rfl ?_
          exact g_zret dX3_hasPlaces_35 (by first | decide | exact bI_nar _) (pi_i (by grind [s_hasPlaces, bI]) (by rfl) rfl)
        · refine g_iconst (q := 31) dX3_hasPlaces_30 ci_1 rfl ?_
          refine g_goto (t := 35) dX3_hasPlaces_31 (by decide) ?_
          exact g_zret dX3_hasPlaces_35 (by first | decide | exact bI_nar _) (pi_i (by grind [s_hasPlaces, bI]) (by rfl) rfl)
def s_low (l v : Int32) : Int32 := if l = 0 then v.toInt8.toInt32 else if l = 1 then v.toInt16.toInt32 else v
set_option maxRecDepth 20000 in
set_option maxHeartbeats 4000000 in
theorem c_X3_lowestBits {E : EE} (hE : inj E 0 40) {σ : Sto} {τ : Stl} {l v : Int32}  : Ct E 0 40 yX3_lowestBits cX3_lowestBits 2 (some FieldType.int) { frames := 0, cells := 0, slots := 0, locals := 0 } [.int l, .int v] σ τ (Pi (s_low l v) (σ) (τ)) := by
  refine ct_of hE RX3 [some (.int l), some (.int v)] (by decide) rfl (Nat.le_of_ble_eq_true rfl) rfl (fun X => ?_)
  refine g_iload_n (q := 1) dX3_lowestBits_0 rfl rfl ?_
  by_cases c0 : l = 0
  · subst c0
    refine g_look (t := 28) dX3_lowestBits_1 rfl rfl (by decide) ?_
    refine g_iload_n (q := 29) dX3_lowestBits_28 rfl rfl ?_
    refine g_i2b (q := 30) dX3_lowestBits_29 rfl ?_
    exact g_iret dX3_lowestBits_30 (pi_i (by simp_all [s_low]) (by rfl) rfl)
  · by_cases c1 : l = 1
    · subst c1
      refine g_look (t := 31) dX3_lowestBits_1 rfl rfl (by decide) ?_
      refine g_iload_n (q := 32) dX3_lowestBits_31 rfl rfl ?_
      refine g_i2s (q := 33) dX3_lowestBits_32 rfl ?_
      exact g_iret dX3_lowestBits_33 (pi_i (by simp_all [s_low]) (by rfl) rfl)
    · refine g_look (t := 34) dX3_lowestBits_1 rfl (look2 _ _ _ (fun h => c0 (Int32.toInt_inj.mp h)) (fun h => c1 (Int32.toInt_inj.mp h))) (by decide) ?_
      refine g_iload_n (q := 35) dX3_lowestBits_34 rfl rfl ?_
      exact g_iret dX3_lowestBits_35 (pi_i (by simp_all [s_low]) (by rfl) rfl)
set_option maxRecDepth 20000 in
set_option maxHeartbeats 4000000 in
theorem c_X3_item {E : EE} (hE : inj E 0 40) {σ : Sto} {τ : Stl} {r i : Int32} (hr : vp_in r 8) (hi : vp_in i 40) : Ct E 0 40 yX3_item cX3_item 3 (some FieldType.int) { frames := 0, cells := 0, slots := 0, locals := 0 } [.ref (E.2.1 1), .int r, .int i] σ τ (Pi (σ 2 (40 * r.toNatClampNeg + i.toNatClampNeg)) (σ) (τ)) := by
  refine ct_of hE RX3 [some (.ref (E.2.1 1)), some (.int r), some (.int i)] (by decide) rfl (Nat.le_of_ble_eq_true rfl) rfl (fun X => ?_)
  refine g_aload_n (q := 1) dX3_item_0 rfl rfl ?_
  refine f3_0 (q := 4) wd_96 dX3_item_1 rfl ?_
  refine g_iload_n (q := 5) dX3_item_4 rfl rfl ?_
  refine g_bipush (q := 7) dX3_item_5 cb_40 rfl ?_
  refine g_imul (q := 8) dX3_item_7 rfl ?_
  refine g_iload_n (q := 9) dX3_item_8 rfl rfl ?_
  refine g_iadd (q := 10) dX3_item_9 rfl ?_
  refine g_iald (q := 11) (k := 2) (by decide) (by decide) rfl (show vp_in _ 320 by exact rowin hr hi) dX3_item_10 rfl ?_
  exact g_iret dX3_item_11 (pi_i (by rw [← rowtn hr hi]) (by rfl) rfl)
set_option maxRecDepth 20000 in
set_option maxHeartbeats 4000000 in
theorem c_X3_put {E : EE} (hE : inj E 0 40) {σ : Sto} {τ : Stl} {r i v : Int32} (hr : vp_in r 8) (hi : vp_in i 40) : Ct E 0 40 yX3_put cX3_put 5 (some FieldType.int) { frames := 1, cells := 0, slots := 0, locals := 21 } [.ref (E.2.1 1), .int r, .int i, .int v] σ τ (Pi (s_low (σ 3 (r.toNatClampNeg)) v) (upc σ 2 (upd (σ 2) (40 * r.toNatClampNeg + i.toNatClampNeg) (s_low (σ 3 (r.toNatClampNeg)) v))) (τ)) := by
  refine ct_of hE RX3 [some (.ref (E.2.1 1)), some (.int r), some (.int i), some (.int v), none] (by decide) rfl (Nat.le_of_ble_eq_true rfl) rfl (fun X => ?_)
  refine g_aload_n (q := 1) dX3_put_0 rfl rfl ?_
  refine f3_1 (q := 4) wd_97 dX3_put_1 rfl ?_
  refine g_iload_n (q := 5) dX3_put_4 rfl rfl ?_
  refine g_iald (q := 6) (k := 3) (by decide) (by decide) rfl (show vp_in _ 8 by first | assumption | exact rowin hr hi) dX3_put_5 rfl ?_
  refine g_iload_n (q := 7) dX3_put_6 rfl rfl ?_
  refine g_callSi (q := 10) (c_X3_lowestBits hE ) lk_RX3_19 rfl rfl rfl rfl (Nat.le_of_ble_eq_true rfl) (Nat.le_of_ble_eq_true rfl) (Nat.le_of_ble_eq_true rfl) dX3_put_7 rfl ?_
  refine g_istore (q := 12) dX3_put_10 (by decide) rfl rfl ?_
  refine g_aload_n (q := 13) dX3_put_12 rfl rfl ?_
  refine f3_0 (q := 16) wd_96 dX3_put_13 rfl ?_
  refine g_iload_n (q := 17) dX3_put_16 rfl rfl ?_
  refine g_bipush (q := 19) dX3_put_17 cb_40 rfl ?_
  refine g_imul (q := 20) dX3_put_19 rfl ?_
  refine g_iload_n (q := 21) dX3_put_20 rfl rfl ?_
  refine g_iadd (q := 22) dX3_put_21 rfl ?_
  refine g_iload (q := 24) dX3_put_22 rfl rfl ?_
  refine g_iast (q := 25) (k := 2) (by decide) (by decide) rfl (show vp_in _ 320 by first | assumption | exact rowin hr hi) dX3_put_24 rfl ?_
  refine g_iload (q := 27) dX3_put_25 rfl rfl ?_
  exact g_iret dX3_put_27 (pi_i (by rfl) (by rw [← rowtn hr hi]) rfl)
set_option maxRecDepth 20000 in
set_option maxHeartbeats 4000000 in
theorem c_X3_takeAway {E : EE} (hE : inj E 0 40) {σ : Sto} {τ : Stl} {r : Int32} (hr : vp_in r 8) : Ct E 0 40 yX3_takeAway cX3_takeAway 3 (some FieldType.int) { frames := 0, cells := 0, slots := 0, locals := 0 } [.ref (E.2.1 1), .int r] σ τ (Pi (σ 4 (r.toNatClampNeg)) (upc σ 4 (upd (σ 4) (r.toNatClampNeg) (-1))) (τ)) := by
  refine ct_of hE RX3 [some (.ref (E.2.1 1)), some (.int r), none] (by decide) rfl (Nat.le_of_ble_eq_true rfl) rfl (fun X => ?_)
  refine g_aload_n (q := 1) dX3_takeAway_0 rfl rfl ?_
  refine f3_2 (q := 4) wd_98 dX3_takeAway_1 rfl ?_
  refine g_iload_n (q := 5) dX3_takeAway_4 rfl rfl ?_
  refine g_iald (q := 6) (k := 4) (by decide) (by decide) rfl (show vp_in _ 8 by first | assumption | omega) dX3_takeAway_5 rfl ?_
  refine g_istore_n (j := 2) (q := 7) dX3_takeAway_6 rfl (by decide) rfl rfl ?_
  refine g_aload_n (q := 8) dX3_takeAway_7 rfl rfl ?_
  refine f3_2 (q := 11) wd_98 dX3_takeAway_8 rfl ?_
  refine g_iload_n (q := 12) dX3_takeAway_11 rfl rfl ?_
  refine g_iconst (q := 13) dX3_takeAway_12 ci_m1 rfl ?_
  refine g_iast (q := 14) (k := 4) (by decide) (by decide) rfl (show vp_in _ 8 by first | assumption | omega) dX3_takeAway_13 rfl ?_
  refine g_iload_n (q := 15) dX3_takeAway_14 rfl rfl ?_
  exact g_iret dX3_takeAway_15 (pi_i (by rfl) (by rfl) rfl)
theorem rowtn2 {r i : Int32} (hr : vp_in r 8) (hi : vp_in i 41) : ¬ r * 40 + i < 0 ∧ (r * 40 + i).toNatClampNeg = 40 * r.toNatClampNeg + i.toNatClampNeg := by
  obtain ⟨e1, h1⟩ := vp_to hr (by decide)
  obtain ⟨e2, h2⟩ := vp_to hi (by decide)
  have e : r * 40 + i = nI (40 * r.toNatClampNeg + i.toNatClampNeg) := by
    have e3 : nI (r.toNatClampNeg) * 40 + nI (i.toNatClampNeg) = nI (40 * r.toNatClampNeg + i.toNatClampNeg) := by rw [show (40 : Int32) = nI 40 from rfl, pk_mul, nI_add, Nat.mul_comm]
    rw [← e1, ← e2] at e3
    exact e3
  rw [e]
  exact ⟨nI_pos (by omega), nI_clamp (by omega)⟩
set_option maxRecDepth 20000 in
set_option maxHeartbeats 4000000 in
theorem c_X3_carry {E : EE} (hE : inj E 0 40) {σ : Sto} {τ : Stl} {a i b j m : Int32} (ha : vp_in a 8) (hb : vp_in b 8) (hi : vp_in i 41) (hj : vp_in j 41) (hm : vp_in m 41) (h1 : i.toNatClampNeg + m.toNatClampNeg ≤ 40) (h2 : j.toNatClampNeg + m.toNatClampNeg ≤ 40) : Ct E 0 40 yX3_carry cX3_carry 6 none { frames := 1, cells := 0, slots := 0, locals := 26 } [.ref (E.2.1 1), .int a, .int i, .int b, .int j, .int m] σ τ (Pv (upc σ 2 (va_cpy (σ 2) (σ 2) (40 * a.toNatClampNeg + i.toNatClampNeg) (40 * b.toNatClampNeg + j.toNatClampNeg) (m.toNatClampNeg))) (τ)) := by
  refine ct_of hE RX3 [some (.ref (E.2.1 1)), some (.int a), some (.int i), some (.int b), some (.int j), some (.int m)] (by decide) rfl (Nat.le_of_ble_eq_true rfl) rfl (fun X => ?_)
  have k1 := rowtn2 ha hi
  have k2 := rowtn2 hb hj
  have k3 := (vp_to ha (by decide)).2
  have k4 := (vp_to hb (by decide)).2
  refine g_aload_n (q := 1) dX3_carry_0 rfl rfl ?_
  refine f3_0 (q := 4) wd_96 dX3_carry_1 rfl ?_
  refine g_iload_n (q := 5) dX3_carry_4 rfl rfl ?_
  refine g_bipush (q := 7) dX3_carry_5 cb_40 rfl ?_
  refine g_imul (q := 8) dX3_carry_7 rfl ?_
  refine g_iload_n (q := 9) dX3_carry_8 rfl rfl ?_
  refine g_iadd (q := 10) dX3_carry_9 rfl ?_
  refine g_aload_n (q := 11) dX3_carry_10 rfl rfl ?_
  refine f3_0 (q := 14) wd_96 dX3_carry_11 rfl ?_
  refine g_iload_n (q := 15) dX3_carry_14 rfl rfl ?_
  refine g_bipush (q := 17) dX3_carry_15 cb_40 rfl ?_
  refine g_imul (q := 18) dX3_carry_17 rfl ?_
  refine g_iload (q := 20) dX3_carry_18 rfl rfl ?_
  refine g_iadd (q := 21) dX3_carry_20 rfl ?_
  refine g_iload (q := 23) dX3_carry_21 rfl rfl ?_
  refine g_copy (q := 26) (k0 := 2) (k1 := 2) (by decide) (by decide) rfl (by decide) (by decide) rfl wd_352 wd_354 wd_353 wd_79 (by exact k1.1) (by exact k2.1) (by exact fun h => hm (Or.inl h)) (by rw [k1.2]; show _ ≤ 320; omega) (by rw [k2.2]; show _ ≤ 320; omega) (Nat.le_of_ble_eq_true rfl) (Nat.le_of_ble_eq_true rfl) dX3_carry_23 rfl ?_
  exact g_vret dX3_carry_26 (pv_i (by rw [k1.2, k2.2]) rfl)
def s_count (f : Nat → Int32) : Nat → Int32
  | 0 => 0
  | i + 1 => if f i = -1 then s_count f i else s_count f i + 1
set_option maxRecDepth 20000 in
set_option maxHeartbeats 4000000 in
theorem c_X3_howMany {E : EE} (hE : inj E 0 40) {σ : Sto} {τ : Stl}   : Ct E 0 40 yX3_howMany cX3_howMany 3 (some FieldType.int) { frames := 0, cells := 0, slots := 0, locals := 0 } [.ref (E.2.1 1)] σ τ (Pi (s_count (σ 4) 8) (σ) (τ)) := by
  refine ct_of hE RX3 [some (.ref (E.2.1 1)), none, none] (by decide) rfl (Nat.le_of_ble_eq_true rfl) rfl (fun X => ?_)
  refine g_iconst (q := 1) dX3_howMany_0 ci_0 rfl ?_
  refine g_istore_n (j := 1) (q := 2) dX3_howMany_1 rfl (by decide) rfl rfl ?_
  refine g_iconst (q := 3) dX3_howMany_2 ci_0 rfl ?_
  refine g_istore_n (j := 2) (q := 4) dX3_howMany_3 rfl (by decide) rfl rfl ?_
  refine g_for (I := fun i => [some (.ref (E.2.1 1)), some (.int (s_count (σ 4) i)), some (.int (nI i))]) (S := fun i => σ) (T := fun i => τ) (0) (8) (Nat.zero_le _) (by rfl) (by rfl) (by rfl) (fun i i0 i1 kk_i => ?_) ?_
  · have hci : (nI i).toNatClampNeg = i := nI_clamp (by omega)
    refine g_iload_n (q := 5) dX3_howMany_4 rfl rfl ?_
    refine g_bipush (q := 7) dX3_howMany_5 cb_8 rfl ?_
    refine g_icmp_ge (t := 29) (q := 10) dX3_howMany_7 (by decide) rfl (fun c_7 => ?_) (fun c_7 => ?_)
    · exact absurd c_7 (lp_in (by rfl) (by omega) i1)
    · refine g_aload_n (q := 11) dX3_howMany_10 rfl rfl ?_
      refine f3_2 (q := 14) wd_98 dX3_howMany_11 rfl ?_
      refine g_iload_n (q := 15) dX3_howMany_14 rfl rfl ?_
      refine g_iald (q := 16) (k := 4) (by decide) (by decide) rfl (show vp_in _ 8 by exact vp_in_nI i1 (by decide)) dX3_howMany_15 rfl ?_
      refine g_iconst (q := 17) dX3_howMany_16 ci_m1 rfl ?_
      refine g_icmp_eq (t := 23) (q := 20) dX3_howMany_17 (by decide) rfl (fun c_17 => ?_) (fun c_17 => ?_)
      · refine g_iinc (q := 26) dX3_howMany_23 rfl ci_1 (by decide) rfl rfl ?_
        refine g_goto (t := 4) dX3_howMany_26 (by decide) ?_
        (try simp only [hci] at c_17)
        exact g_eqw kk_i (by simp [lsub, s_count, hci, nI_succ, c_17]) (by rfl) rfl
      · refine g_iinc (q := 23) dX3_howMany_20 rfl ci_1 (by decide) rfl rfl ?_
        refine g_iinc (q := 26) dX3_howMany_23 rfl ci_1 (by decide) rfl rfl ?_
        refine g_goto (t := 4) dX3_howMany_26 (by decide) ?_
        (try simp only [hci] at c_17)
        exact g_eqw kk_i (by simp [lsub, s_count, hci, nI_succ, c_17]) (by rfl) rfl
  · refine g_iload_n (q := 5) dX3_howMany_4 rfl rfl ?_
    refine g_bipush (q := 7) dX3_howMany_5 cb_8 rfl ?_
    refine g_icmp_ge (t := 29) (q := 10) dX3_howMany_7 (by decide) rfl (fun c_7 => ?_) (fun c_7 => ?_)
    · refine g_iload_n (q := 30) dX3_howMany_29 rfl rfl ?_
      exact g_iret dX3_howMany_30 (pi_i (by rfl) (by rfl) rfl)
    · exact absurd (lp_out (by rfl)) c_7
def zf (f : Nat → Int32) (b n : Nat) : Nat → Int32 := fun j => if b ≤ j ∧ j < b + n then 0 else f j
theorem zf_0 (f : Nat → Int32) (b : Nat) : zf f b 0 = f := by
  funext j
  unfold zf
  rw [if_neg (by omega)]
theorem zf_s (f : Nat → Int32) (b n : Nat) : upd (zf f b n) (b + n) 0 = zf f b (n + 1) := by
  funext j
  unfold zf upd
  by_cases h : j = b + n
  · rw [if_pos h, if_pos (by omega)]
  · rw [if_neg h]
    dsimp only
    by_cases h2 : b ≤ j ∧ j < b + n
    · rw [if_pos h2, if_pos (by omega)]
    · rw [if_neg h2, if_neg (by omega)]
theorem upc_upc (σ : Sto) (k : Nat) (f g : Nat → Int32) : upc (upc σ k f) k g = upc σ k g := by
  funext a
  unfold upc
  split <;> rfl
theorem upc_id (σ : Sto) (k : Nat) : upc σ k (σ k) = σ := by
  funext a
  unfold upc
  split
  · rename_i h; rw [h]
  · rfl
set_option maxRecDepth 20000 in
set_option maxHeartbeats 4000000 in
theorem c_X3_lay {E : EE} (hE : inj E 0 40) {σ : Sto} {τ : Stl} {r l m : Int32} (hr : vp_in r 8) (hm : vp_in m 41) : Ct E 0 40 yX3_lay cX3_lay 5 none { frames := 0, cells := 0, slots := 0, locals := 0 } [.ref (E.2.1 1), .int r, .int l, .int m] σ τ (Pv (upc (upc (upc σ 3 (upd (σ 3) (r.toNatClampNeg) l)) 4 (upd (σ 4) (r.toNatClampNeg) m)) 2 (zf (σ 2) (40 * r.toNatClampNeg) (m.toNatClampNeg))) (τ)) := by
  refine ct_of hE RX3 [some (.ref (E.2.1 1)), some (.int r), some (.int l), some (.int m), none] (by decide) rfl (Nat.le_of_ble_eq_true rfl) rfl (fun X => ?_)
  obtain ⟨e2, h2⟩ := vp_to hm (by decide)
  refine g_aload_n (q := 1) dX3_lay_0 rfl rfl ?_
  refine f3_1 (q := 4) wd_97 dX3_lay_1 rfl ?_
  refine g_iload_n (q := 5) dX3_lay_4 rfl rfl ?_
  refine g_iload_n (q := 6) dX3_lay_5 rfl rfl ?_
  refine g_iast (q := 7) (k := 3) (by decide) (by decide) rfl (show vp_in _ 8 by first | assumption | omega) dX3_lay_6 rfl ?_
  refine g_aload_n (q := 8) dX3_lay_7 rfl rfl ?_
  refine f3_2 (q := 11) wd_98 dX3_lay_8 rfl ?_
  refine g_iload_n (q := 12) dX3_lay_11 rfl rfl ?_
  refine g_iload_n (q := 13) dX3_lay_12 rfl rfl ?_
  refine g_iast (q := 14) (k := 4) (by decide) (by decide) rfl (show vp_in _ 8 by first | assumption | omega) dX3_lay_13 rfl ?_
  refine g_iconst (q := 15) dX3_lay_14 ci_0 rfl ?_
  refine g_istore (q := 17) dX3_lay_15 (by decide) rfl rfl ?_
  refine g_for (I := fun i => [some (.ref (E.2.1 1)), some (.int r), some (.int l), some (.int m), some (.int (nI i))]) (S := fun i => upc (upc (upc σ 3 (upd (σ 3) (r.toNatClampNeg) l)) 4 (upd (σ 4) (r.toNatClampNeg) m)) 2 (zf (σ 2) (40 * r.toNatClampNeg) i)) (T := fun i => τ) (0) (m.toNatClampNeg) (Nat.zero_le _) (by rfl) (by rw [zf_0]; exact (upc_id _ 2).symm) (by rfl) (fun i i0 i1 kk_i => ?_) ?_
  · have hci : (nI i).toNatClampNeg = i := nI_clamp (by omega)
    refine g_iload (q := 19) dX3_lay_17 rfl rfl ?_
    refine g_iload_n (q := 20) dX3_lay_19 rfl rfl ?_
    refine g_icmp_ge (t := 42) (q := 23) dX3_lay_20 (by decide) rfl (fun c_20 => ?_) (fun c_20 => ?_)
    · exact absurd c_20 (lp_in (by exact e2) (by omega) i1)
    · refine g_aload_n (q := 24) dX3_lay_23 rfl rfl ?_
      refine f3_0 (q := 27) wd_96 dX3_lay_24 rfl ?_
      refine g_iload_n (q := 28) dX3_lay_27 rfl rfl ?_
      refine g_bipush (q := 30) dX3_lay_28 cb_40 rfl ?_
      refine g_imul (q := 31) dX3_lay_30 rfl ?_
      refine g_iload (q := 33) dX3_lay_31 rfl rfl ?_
      refine g_iadd (q := 34) dX3_lay_33 rfl ?_
      refine g_iconst (q := 35) dX3_lay_34 ci_0 rfl ?_
      refine g_iast (q := 36) (k := 2) (by decide) (by decide) rfl (show vp_in _ 320 by exact rowin hr (vp_in_nI (by omega) (by decide))) dX3_lay_35 rfl ?_
      refine g_iinc (q := 39) dX3_lay_36 rfl ci_1 (by decide) rfl rfl ?_
      refine g_goto (t := 17) dX3_lay_39 (by decide) ?_
      exact g_eqw kk_i (by simp [lsub, hci, nI_succ]) (by show upc (upc _ _ _) _ _ = _; rw [upc_upc, upc_same, show (r * 40 + nI i).toNatClampNeg = 40 * r.toNatClampNeg + i from by rw [show (r * 40 + nI i).toNatClampNeg = _ from rowtn hr (vp_in_nI (by omega) (by decide))]; show _ + (nI i).toNatClampNeg = _; rw [hci], zf_s]) rfl
  · refine g_iload (q := 19) dX3_lay_17 rfl rfl ?_
    refine g_iload_n (q := 20) dX3_lay_19 rfl rfl ?_
    refine g_icmp_ge (t := 42) (q := 23) dX3_lay_20 (by decide) rfl (fun c_20 => ?_) (fun c_20 => ?_)
    · exact g_vret dX3_lay_42 (pv_i (by rfl) rfl)
    · exact absurd (lp_out (by exact e2)) c_20
