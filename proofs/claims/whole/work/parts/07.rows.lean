def s_rowB (r : Int32) : Bool := decide (0 ≤ r) && decide (r < 8)
set_option maxRecDepth 20000 in
set_option maxHeartbeats 4000000 in
theorem c_X3_isRow {E : EE} (hE : inj E 0 40) {σ : Sto} {τ : Stl} {r : Int32}  : Ct E 0 40 yX3_isRow cX3_isRow 1 (some FieldType.boolean) { frames := 0, cells := 0, slots := 0, locals := 0 } [.int r] σ τ (Pi (bI (s_rowB r)) (σ) (τ)) := by
  refine ct_of hE RX3 [some (.int r)] (by decide) rfl (Nat.le_of_ble_eq_true rfl) rfl (fun X => ?_)
  refine g_iload_n (q := 1) dX3_isRow_0 rfl rfl ?_
  refine g_if_lt (t := 14) (q := 4) dX3_isRow_1 (by decide) rfl (fun c_1 => ?_) (fun c_1 => ?_)
  · refine g_iconst (q := 15) dX3_isRow_14 ci_0 rfl ?_
    exact g_zret dX3_isRow_15 (by first | decide | exact bI_nar _) (pi_i (by simp_all [s_rowB, bI]) (by rfl) rfl)
  · refine g_iload_n (q := 5) dX3_isRow_4 rfl rfl ?_
    refine g_bipush (q := 7) dX3_isRow_5 cb_8 rfl ?_
    refine g_icmp_ge (t := 14) (q := 10) dX3_isRow_7 (by decide) rfl (fun c_7 => ?_) (fun c_7 => ?_)
    · refine g_iconst (q := 15) dX3_isRow_14 ci_0 rfl ?_
      exact g_zret dX3_isRow_15 (by first | decide | exact bI_nar _) (pi_i (by simp_all [s_rowB, bI]) (by rfl) rfl)
    · refine g_iconst (q := 11) dX3_isRow_10 ci_1 rfl ?_
      refine g_goto (t := 15) dX3_isRow_11 (by decide) ?_
      exact g_zret dX3_isRow_15 (by first | decide | exact bI_nar _) (pi_i (by simp_all [s_rowB, bI]) (by rfl) rfl)
set_option maxRecDepth 20000 in
set_option maxHeartbeats 4000000 in
theorem c_X3_isMissing {E : EE} (hE : inj E 0 40) {σ : Sto} {τ : Stl} {r : Int32} (hr : vp_in r 8) : Ct E 0 40 yX3_isMissing cX3_isMissing 2 (some FieldType.boolean) { frames := 0, cells := 0, slots := 0, locals := 0 } [.ref (E.2.1 1), .int r] σ τ (Pi (bI (σ 4 (tn r) == -1)) (σ) (τ)) := by
  refine ct_of hE RX3 [some (.ref (E.2.1 1)), some (.int r)] (by decide) rfl (Nat.le_of_ble_eq_true rfl) rfl (fun X => ?_)
  refine g_aload_n (q := 1) dX3_isMissing_0 rfl rfl ?_
  refine f3_2 (q := 4) wd_98 dX3_isMissing_1 rfl ?_
  refine g_iload_n (q := 5) dX3_isMissing_4 rfl rfl ?_
  refine g_iald (q := 6) (k := 4) (by decide) (by decide) rfl (show vp_in _ 8 by first | assumption | omega) dX3_isMissing_5 rfl ?_
  refine g_iconst (q := 7) dX3_isMissing_6 ci_m1 rfl ?_
  refine g_icmp_ne (t := 14) (q := 10) dX3_isMissing_7 (by decide) rfl (fun c_7 => ?_) (fun c_7 => ?_)
  · refine g_iconst (q := 15) dX3_isMissing_14 ci_0 rfl ?_
    exact g_zret dX3_isMissing_15 (by first | decide | exact bI_nar _) (pi_i (by simp_all [bI]) (by rfl) rfl)
  · refine g_iconst (q := 11) dX3_isMissing_10 ci_1 rfl ?_
    refine g_goto (t := 15) dX3_isMissing_11 (by decide) ?_
    exact g_zret dX3_isMissing_15 (by first | decide | exact bI_nar _) (pi_i (by simp_all [bI]) (by rfl) rfl)
set_option maxRecDepth 20000 in
set_option maxHeartbeats 4000000 in
theorem c_X3_sameLane {E : EE} (hE : inj E 0 40) {σ : Sto} {τ : Stl} {a b : Int32} (ha : vp_in a 8) (hb : vp_in b 8) : Ct E 0 40 yX3_sameLane cX3_sameLane 3 (some FieldType.boolean) { frames := 0, cells := 0, slots := 0, locals := 0 } [.ref (E.2.1 1), .int a, .int b] σ τ (Pi (bI (σ 3 (tn a) == σ 3 (tn b))) (σ) (τ)) := by
  refine ct_of hE RX3 [some (.ref (E.2.1 1)), some (.int a), some (.int b)] (by decide) rfl (Nat.le_of_ble_eq_true rfl) rfl (fun X => ?_)
  refine g_aload_n (q := 1) dX3_sameLane_0 rfl rfl ?_
  refine f3_1 (q := 4) wd_97 dX3_sameLane_1 rfl ?_
  refine g_iload_n (q := 5) dX3_sameLane_4 rfl rfl ?_
  refine g_iald (q := 6) (k := 3) (by decide) (by decide) rfl (show vp_in _ 8 by first | assumption | omega) dX3_sameLane_5 rfl ?_
  refine g_aload_n (q := 7) dX3_sameLane_6 rfl rfl ?_
  refine f3_1 (q := 10) wd_97 dX3_sameLane_7 rfl ?_
  refine g_iload_n (q := 11) dX3_sameLane_10 rfl rfl ?_
  refine g_iald (q := 12) (k := 3) (by decide) (by decide) rfl (show vp_in _ 8 by first | assumption | omega) dX3_sameLane_11 rfl ?_
  refine g_icmp_ne (t := 19) (q := 15) dX3_sameLane_12 (by decide) rfl (fun c_12 => ?_) (fun c_12 => ?_)
  · refine g_iconst (q := 20) dX3_sameLane_19 ci_0 rfl ?_
    exact g_zret dX3_sameLane_20 (by first | decide | exact bI_nar _) (pi_i (by simp_all [bI]) (by rfl) rfl)
  · refine g_iconst (q := 16) dX3_sameLane_15 ci_1 rfl ?_
    refine g_goto (t := 20) dX3_sameLane_16 (by decide) ?_
    exact g_zret dX3_sameLane_20 (by first | decide | exact bI_nar _) (pi_i (by simp_all [bI]) (by rfl) rfl)
def s_hasPlaces (z i n : Int32) : Bool := decide (0 ≤ i) && decide (0 ≤ n) && decide (i ≤ z) && decide (n ≤ z - i)
set_option maxRecDepth 20000 in
set_option maxHeartbeats 4000000 in
theorem c_X3_hasPlaces {E : EE} (hE : inj E 0 40) {σ : Sto} {τ : Stl} {r i m : Int32} (hr : vp_in r 8) : Ct E 0 40 yX3_hasPlaces cX3_hasPlaces 4 (some FieldType.boolean) { frames := 0, cells := 0, slots := 0, locals := 0 } [.ref (E.2.1 1), .int r, .int i, .int m] σ τ (Pi (bI (s_hasPlaces (σ 4 (tn r)) i m)) (σ) (τ)) := by
  refine ct_of hE RX3 [some (.ref (E.2.1 1)), some (.int r), some (.int i), some (.int m)] (by decide) rfl (Nat.le_of_ble_eq_true rfl) rfl (fun X => ?_)
  refine g_iload_n (q := 1) dX3_hasPlaces_0 rfl rfl ?_
  refine g_if_lt (t := 34) (q := 4) dX3_hasPlaces_1 (by decide) rfl (fun c_1 => ?_) (fun c_1 => ?_)
  · refine g_iconst (q := 35) dX3_hasPlaces_34 ci_0 rfl ?_
    exact g_zret dX3_hasPlaces_35 (by first | decide | exact bI_nar _) (pi_i (by simp_all [s_hasPlaces, bI]) (by rfl) rfl)
  · refine g_iload_n (q := 5) dX3_hasPlaces_4 rfl rfl ?_
    refine g_if_lt (t := 34) (q := 8) dX3_hasPlaces_5 (by decide) rfl (fun c_5 => ?_) (fun c_5 => ?_)
    · refine g_iconst (q := 35) dX3_hasPlaces_34 ci_0 rfl ?_
      exact g_zret dX3_hasPlaces_35 (by first | decide | exact bI_nar _) (pi_i (by simp_all [s_hasPlaces, bI]) (by rfl) rfl)
    · refine g_iload_n (q := 9) dX3_hasPlaces_8 rfl rfl ?_
      refine g_aload_n (q := 10) dX3_hasPlaces_9 rfl rfl ?_
      refine f3_2 (q := 13) wd_98 dX3_hasPlaces_10 rfl ?_
      refine g_iload_n (q := 14) dX3_hasPlaces_13 rfl rfl ?_
      refine g_iald (q := 15) (k := 4) (by decide) (by decide) rfl (show vp_in _ 8 by first | assumption | omega) dX3_hasPlaces_14 rfl ?_
      refine g_icmp_gt (t := 34) (q := 18) dX3_hasPlaces_15 (by decide) rfl (fun c_15 => ?_) (fun c_15 => ?_)
      · refine g_iconst (q := 35) dX3_hasPlaces_34 ci_0 rfl ?_
        exact g_zret dX3_hasPlaces_35 (by first | decide | exact bI_nar _) (pi_i (by simp_all [s_hasPlaces, bI]) (by rfl) rfl)
      · refine g_iload_n (q := 19) dX3_hasPlaces_18 rfl rfl ?_
        refine g_aload_n (q := 20) dX3_hasPlaces_19 rfl rfl ?_
        refine f3_2 (q := 23) wd_98 dX3_hasPlaces_20 rfl ?_
        refine g_iload_n (q := 24) dX3_hasPlaces_23 rfl rfl ?_
        refine g_iald (q := 25) (k := 4) (by decide) (by decide) rfl (show vp_in _ 8 by first | assumption | omega) dX3_hasPlaces_24 rfl ?_
        refine g_iload_n (q := 26) dX3_hasPlaces_25 rfl rfl ?_
        refine g_isub (q := 27) dX3_hasPlaces_26 rfl ?_
        refine g_icmp_gt (t := 34) (q := 30) dX3_hasPlaces_27 (by decide) rfl (fun c_27 => ?_) (fun c_27 => ?_)
        · refine g_iconst (q := 35) dX3_hasPlaces_34 ci_0 rfl ?_
          exact g_zret dX3_hasPlaces_35 (by first | decide | exact bI_nar _) (pi_i (by simp_all [s_hasPlaces, bI]) (by rfl) rfl)
        · refine g_iconst (q := 31) dX3_hasPlaces_30 ci_1 rfl ?_
          refine g_goto (t := 35) dX3_hasPlaces_31 (by decide) ?_
          exact g_zret dX3_hasPlaces_35 (by first | decide | exact bI_nar _) (pi_i (by simp_all [s_hasPlaces, bI]) (by rfl) rfl)
