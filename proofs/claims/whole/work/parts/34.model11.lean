def dmV (m : Nat → Int32) (x : Int64) : Nat → Int32 := if m 4 ≤ 0 then m else q_tu m (1 <<< ((x - x / (m 4).toInt64 * (m 4).toInt64).toInt32 &&& 31)) ((m 4).toNatClampNeg)
def drM (m : Nat → Int32) (x : Int64) : Nat → (Nat → Int32) × Int64 × Int32
  | 0 => (m, x, 0)
  | h + 1 => (q_hour (dmV (drM m x h).1 (lcgN (drM m x h).2.1)), lcgN (drM m x h).2.1, if 0 ≤ fsM (q_hour (dmV (drM m x h).1 (lcgN (drM m x h).2.1))) then (drM m x h).2.2 + 1 else (drM m x h).2.2)
theorem wfm_dmV {m : Nat → Int32} (w : WFM m) (x : Int64) : WFM (dmV m x) := by
  unfold dmV
  split
  · exact w
  · exact wfm_tu w _ _ (wfm_n w).2.2.1.2
theorem wfm_dr {m : Nat → Int32} (w : WFM m) (x : Int64) (h : Nat) : WFM (drM m x h).1 := by
  induction h with
  | zero => exact w
  | succ h ih => exact wfm_hour (wfm_dmV ih _)
def q_drawn (σ : Sto) (n sd u : Int32) : Int32 × Sto := if σ 40 4 = 0 then (-1000002, σ) else if wi n 0 60 = false then (-1000001, σ) else if wi sd 1 999999 = false then (-1000001, σ) else if wi u 0 1 = false then (-1000001, σ) else (if u = 0 then s_ac (fun r => (drM (σ 44) sd.toInt64 (n.toNatClampNeg)).1 (7 + r)) (((drM (σ 44) sd.toInt64 (n.toNatClampNeg)).1 0).toNatClampNeg) else (drM (σ 44) sd.toInt64 (n.toNatClampNeg)).2.2, asd σ)
def prM (S O p : Int32) : Nat → Int64
  | 0 => 1
  | d + 1 => prM S O p d * (if hsB S (nI d) = true then p.toInt64 else if hsB O (nI d) = true then (10 - p).toInt64 else 1)
def odM (m : Nat → Int32) (r : Nat) (p O : Int32) (G : Nat) : Nat → Int64
  | 0 => 0
  | j + 1 => if nI j &&& (O ^^^ (-1)) = 0 then odM m r p O G j + (if q_hour (q_tu m (nI j) G) (7 + r) ≤ q_hour (q_tu m (nI j) G) 3 then 0 else prM (nI j) O p G) else odM m r p O G j
def eu (x y : Int64) : Nat → Option Int64
  | 0 => none
  | N + 1 => if y = 0 then some x else eu y (x - x / y * y) N
def wiA (σ : Sto) (r p : Int32) (O : Nat) : Int64 := odM (σ 44) (r.toNatClampNeg) p (nI O) ((σ 44 4).toNatClampNeg) (2 ^ (σ 44 4).toNatClampNeg)
def q_wind (σ : Sto) (r p u : Int32) (O : Nat) (g : Int64) : Int64 × Sto := if σ 40 4 = 0 then (-1000002, σ) else if wi r 0 (σ 44 0 - 1) = false then (-1000001, σ) else if wi p 0 10 = false then (-1000001, σ) else if wi u 0 1 = false then (-1000001, σ) else (if u = 0 then wiA σ r p O / g else s_pw 10 (pop8 O) / g, asd σ)
set_option maxRecDepth 20000 in
set_option maxHeartbeats 4000000 in
theorem c_X7_drawn {E : EE} (hE : inj E 40 13) {σ : Sto} {τ : Stl} {n sd u : Int32} (w : WFM (σ 44)) : Ct E 40 13 yX7_drawn cX7_drawn 8 (some FieldType.int) { frames := 3, cells := 0, slots := 0, locals := 72 } [.ref (E.2.1 40), .int n, .int sd, .int u] σ τ (Pi ((q_drawn σ n sd u).1) ((q_drawn σ n sd u).2) (τ)) := by
  refine ct_of hE RX7 [some (.ref (E.2.1 40)), some (.int n), some (.int sd), some (.int u), none, none, none, none] (by decide) rfl (Nat.le_of_ble_eq_true rfl) rfl (fun X => ?_)
  refine g_aload_n (q := 1) dX7_drawn_0 rfl rfl ?_
  refine f7_4 (q := 4) wd_852 dX7_drawn_1 rfl ?_
  refine g_if_ne (t := 10) (q := 7) dX7_drawn_4 (by decide) rfl (fun c_4 => ?_) (fun c_4 => ?_)
  · refine g_iload_n (q := 11) dX7_drawn_10 rfl rfl ?_
    refine g_i2l (q := 12) dX7_drawn_11 rfl ?_
    refine g_lconst (q := 13) dX7_drawn_12 cl_0 rfl ?_
    refine g_ldc2 (q := 16) dX7_drawn_13 wd_1085 rfl ?_
    refine g_callSi (q := 19) (c_X7_in hE ) lk_RX7_54 rfl rfl rfl rfl (Nat.le_of_ble_eq_true rfl) (Nat.le_of_ble_eq_true rfl) (Nat.le_of_ble_eq_true rfl) dX7_drawn_16 rfl ?_
    refine g_if_eq (t := 44) (q := 22) dX7_drawn_19 (by decide) rfl (fun c_19 => ?_) (fun c_19 => ?_)
    · rw [bI_0] at c_19
      rw [show inL n.toInt64 0 60 = wi n 0 60 from inL_i n 0 60] at c_19
      refine g_ldc (q := 46) dX7_drawn_44 wd_931 rfl ?_
      exact g_iret dX7_drawn_46 (pi_i (by simp only [q_drawn, c_4, c_19, not_true_eq_false, not_false_eq_true, if_true, if_false, Bool.true_eq_false, Bool.false_eq_true, reduceIte, reduceCtorEq]) (by simp only [q_drawn, c_4, c_19, not_true_eq_false, not_false_eq_true, if_true, if_false, Bool.true_eq_false, Bool.false_eq_true, reduceIte, reduceCtorEq]) rfl)
    · rw [bI_n0] at c_19
      rw [show inL n.toInt64 0 60 = wi n 0 60 from inL_i n 0 60] at c_19
      refine g_iload_n (q := 23) dX7_drawn_22 rfl rfl ?_
      refine g_i2l (q := 24) dX7_drawn_23 rfl ?_
      refine g_lconst (q := 25) dX7_drawn_24 cl_1 rfl ?_
      refine g_ldc2 (q := 28) dX7_drawn_25 wd_1190 rfl ?_
      refine g_callSi (q := 31) (c_X7_in hE ) lk_RX7_54 rfl rfl rfl rfl (Nat.le_of_ble_eq_true rfl) (Nat.le_of_ble_eq_true rfl) (Nat.le_of_ble_eq_true rfl) dX7_drawn_28 rfl ?_
      refine g_if_eq (t := 44) (q := 34) dX7_drawn_31 (by decide) rfl (fun c_31 => ?_) (fun c_31 => ?_)
      · rw [bI_0] at c_31
        rw [show inL sd.toInt64 1 999999 = wi sd 1 999999 from inL_i sd 1 999999] at c_31
        refine g_ldc (q := 46) dX7_drawn_44 wd_931 rfl ?_
        exact g_iret dX7_drawn_46 (pi_i (by simp only [q_drawn, c_4, c_19, c_31, not_true_eq_false, not_false_eq_true, if_true, if_false, Bool.true_eq_false, Bool.false_eq_true, reduceIte, reduceCtorEq]) (by simp only [q_drawn, c_4, c_19, c_31, not_true_eq_false, not_false_eq_true, if_true, if_false, Bool.true_eq_false, Bool.false_eq_true, reduceIte, reduceCtorEq]) rfl)
      · rw [bI_n0] at c_31
        rw [show inL sd.toInt64 1 999999 = wi sd 1 999999 from inL_i sd 1 999999] at c_31
        refine g_iload_n (q := 35) dX7_drawn_34 rfl rfl ?_
        refine g_i2l (q := 36) dX7_drawn_35 rfl ?_
        refine g_lconst (q := 37) dX7_drawn_36 cl_0 rfl ?_
        refine g_lconst (q := 38) dX7_drawn_37 cl_1 rfl ?_
        refine g_callSi (q := 41) (c_X7_in hE ) lk_RX7_54 rfl rfl rfl rfl (Nat.le_of_ble_eq_true rfl) (Nat.le_of_ble_eq_true rfl) (Nat.le_of_ble_eq_true rfl) dX7_drawn_38 rfl ?_
        refine g_if_ne (t := 47) (q := 44) dX7_drawn_41 (by decide) rfl (fun c_41 => ?_) (fun c_41 => ?_)
        · rw [bI_n0] at c_41
          rw [show inL u.toInt64 0 1 = wi u 0 1 from inL_i u 0 1] at c_41
          refine g_aload_n (q := 48) dX7_drawn_47 rfl rfl ?_
          refine g_callVv (q := 51) (c_X7_putAside hE ) lk_RX7_185 (by decide) (by decide) rfl (by decide) rfl rfl rfl rfl rfl rfl (Nat.le_of_ble_eq_true rfl) (Nat.le_of_ble_eq_true rfl) (Nat.le_of_ble_eq_true rfl) dX7_drawn_48 rfl ?_
          refine g_sg (σ' := asd σ) rfl ?_
          refine g_iload_n (q := 52) dX7_drawn_51 rfl rfl ?_
          refine g_i2l (q := 53) dX7_drawn_52 rfl ?_
          refine g_lstore (q := 55) dX7_drawn_53 (by decide) rfl rfl ?_
          refine g_iconst (q := 56) dX7_drawn_55 ci_0 rfl ?_
          refine g_istore (q := 58) dX7_drawn_56 (by decide) rfl rfl ?_
          refine g_iconst (q := 59) dX7_drawn_58 ci_0 rfl ?_
          refine g_istore (q := 61) dX7_drawn_59 (by decide) rfl rfl ?_
          obtain ⟨en, bn⟩ := nn_to (wi_nn c_19 (by decide))
          refine g_eqw (ls := [some (.ref (E.2.1 40)), some (.int n), some (.int sd), some (.int u), some (.long sd.toInt64), none, some (.int 0), some (.int 0)]) ?_ (by simp [lsub]) rfl rfl
          refine g_for (I := fun k => [some (.ref (E.2.1 40)), some (.int n), some (.int sd), some (.int u), some (.long (drM (σ 44) sd.toInt64 k).2.1), none, some (.int (drM (σ 44) sd.toInt64 k).2.2), some (.int (nI k))]) (S := fun k => upc (asd σ) 44 (drM (σ 44) sd.toInt64 k).1) (T := fun k => τ) (0) (n.toNatClampNeg) (Nat.zero_le _) (by rfl) (by show asd σ = upc (asd σ) 44 (σ 44); rw [← asd_44 σ]; exact (upc_id _ _).symm) (by rfl) (fun k k0 k1 kk_k => ?_) ?_
          · have hck : (nI k).toNatClampNeg = k := nI_clamp (by omega)
            have wdr := wfm_dr w sd.toInt64 k
            refine g_iload (q := 63) dX7_drawn_61 rfl rfl ?_
            refine g_iload_n (q := 64) dX7_drawn_63 rfl rfl ?_
            refine g_icmp_ge (t := 132) (q := 67) dX7_drawn_64 (by decide) rfl (fun c_64 => ?_) (fun c_64 => ?_)
            · exact absurd c_64 (lp_in (by exact en) (by omega) k1)
            · refine g_lload (q := 69) dX7_drawn_67 rfl rfl ?_
              refine g_ldc2 (q := 72) dX7_drawn_69 wd_1191 rfl ?_
              refine g_lmul (q := 73) dX7_drawn_72 rfl ?_
              refine g_ldc2 (q := 76) dX7_drawn_73 wd_1192 rfl ?_
              refine g_lrem (q := 77) dX7_drawn_76 (by decide) rfl ?_
              refine g_lstore (q := 79) dX7_drawn_77 (by decide) rfl rfl ?_
              refine g_aload_n (q := 80) dX7_drawn_79 rfl rfl ?_
              refine f7_5 (q := 83) wd_853 dX7_drawn_80 rfl ?_
              refine g_iconst (q := 84) dX7_drawn_83 ci_4 rfl ?_
              refine g_ialdJ (q := 85) (k := 44) (j := 4) (N := 52) (by decide) (by decide) rfl rfl (by decide) (show (4 : Int32) = nI 4 from rfl) (by omega) dX7_drawn_84 rfl ?_
              refine g_if_le (t := 105) (q := 88) dX7_drawn_85 (by decide) rfl (fun c_85 => ?_) (fun c_85 => ?_)
              · rw [upc_same] at c_85
                refine g_sg (σ' := upc (asd σ) 44 (dmV (drM (σ 44) sd.toInt64 k).1 (lcgN (drM (σ 44) sd.toInt64 k).2.1))) (by rw [show dmV _ _ = _ from if_pos c_85]) ?_
                refine g_aload_n (q := 106) dX7_drawn_105 rfl rfl ?_
                refine g_callVv (q := 109) (c_X7_oneHour hE (by rw [upc_same]; exact wfm_dmV wdr _)) lk_RX7_159 (by decide) (by decide) rfl (by decide) rfl rfl rfl rfl rfl rfl (Nat.le_of_ble_eq_true rfl) (Nat.le_of_ble_eq_true rfl) (Nat.le_of_ble_eq_true rfl) dX7_drawn_106 rfl ?_
                refine g_sg (σ' := upc (asd σ) 44 (drM (σ 44) sd.toInt64 (k + 1)).1) (by rw [upc_upc, upc_same]; rfl) ?_
                refine g_iload (q := 111) dX7_drawn_109 rfl rfl ?_
                refine g_aload_n (q := 112) dX7_drawn_111 rfl rfl ?_
                refine g_callVi (q := 115) (c_X7_firstCold hE (by rw [upc_same]; exact wfm_dr w _ (k + 1))) lk_RX7_195 (by decide) (by decide) rfl (by decide) rfl rfl rfl rfl rfl rfl (Nat.le_of_ble_eq_true rfl) (Nat.le_of_ble_eq_true rfl) (Nat.le_of_ble_eq_true rfl) dX7_drawn_112 rfl ?_
                refine g_st (stk' := [.int (fsM (drM (σ 44) sd.toInt64 (k + 1)).1), .int (drM (σ 44) sd.toInt64 k).2.2]) (by rw [upc_same]) ?_
                refine g_if_ge (t := 122) (q := 118) dX7_drawn_115 (by decide) rfl (fun c_115 => ?_) (fun c_115 => ?_)
                · refine g_iconst (q := 123) dX7_drawn_122 ci_1 rfl ?_
                  refine g_iadd (q := 124) dX7_drawn_123 rfl ?_
                  refine g_istore (q := 126) dX7_drawn_124 (by decide) rfl rfl ?_
                  refine g_iinc (q := 129) dX7_drawn_126 rfl ci_1 (by decide) rfl rfl ?_
                  refine g_goto (t := 61) dX7_drawn_129 (by decide) ?_
                  have hs : (drM (σ 44) sd.toInt64 (k + 1)).2.2 = if 0 ≤ fsM (drM (σ 44) sd.toInt64 (k + 1)).1 then (drM (σ 44) sd.toInt64 k).2.2 + 1 else (drM (σ 44) sd.toInt64 k).2.2 := rfl
                  have hx : (drM (σ 44) sd.toInt64 (k + 1)).2.1 = (lcgN (drM (σ 44) sd.toInt64 k).2.1) := rfl
                  exact g_eqw kk_k (by first | (rw [if_pos c_115] at hs; simp [lsub, hs, hx, lcgN, nI_succ]; done) | (rw [if_neg c_115] at hs; simp [lsub, hs, hx, lcgN, nI_succ]; done)) rfl rfl
                · refine g_iconst (q := 119) dX7_drawn_118 ci_0 rfl ?_
                  refine g_goto (t := 123) dX7_drawn_119 (by decide) ?_
                  refine g_iadd (q := 124) dX7_drawn_123 rfl ?_
                  refine g_istore (q := 126) dX7_drawn_124 (by decide) rfl rfl ?_
                  refine g_iinc (q := 129) dX7_drawn_126 rfl ci_1 (by decide) rfl rfl ?_
                  refine g_goto (t := 61) dX7_drawn_129 (by decide) ?_
                  have hs : (drM (σ 44) sd.toInt64 (k + 1)).2.2 = if 0 ≤ fsM (drM (σ 44) sd.toInt64 (k + 1)).1 then (drM (σ 44) sd.toInt64 k).2.2 + 1 else (drM (σ 44) sd.toInt64 k).2.2 := rfl
                  have hx : (drM (σ 44) sd.toInt64 (k + 1)).2.1 = (lcgN (drM (σ 44) sd.toInt64 k).2.1) := rfl
                  exact g_eqw kk_k (by first | (rw [if_pos c_115] at hs; simp [lsub, hs, hx, lcgN, nI_succ]; done) | (rw [if_neg c_115] at hs; simp [lsub, hs, hx, lcgN, nI_succ]; done)) rfl rfl
              · rw [upc_same] at c_85
                refine g_aload_n (q := 89) dX7_drawn_88 rfl rfl ?_
                refine g_iconst (q := 90) dX7_drawn_89 ci_1 rfl ?_
                refine g_lload (q := 92) dX7_drawn_90 rfl rfl ?_
                refine g_aload_n (q := 93) dX7_drawn_92 rfl rfl ?_
                refine f7_5 (q := 96) wd_853 dX7_drawn_93 rfl ?_
                refine g_iconst (q := 97) dX7_drawn_96 ci_4 rfl ?_
                refine g_ialdJ (q := 98) (k := 44) (j := 4) (N := 52) (by decide) (by decide) rfl rfl (by decide) (show (4 : Int32) = nI 4 from rfl) (by omega) dX7_drawn_97 rfl ?_
                refine g_i2l (q := 99) dX7_drawn_98 rfl ?_
                refine g_lrem (q := 100) dX7_drawn_99 (by rw [upc_same]; exact i2l_ne c_85) rfl ?_
                refine g_l2i (q := 101) dX7_drawn_100 rfl ?_
                refine g_ishl (q := 102) dX7_drawn_101 rfl ?_
                refine g_callVv (q := 105) (c_X7_turn hE (by rw [upc_same]; exact wdr)) lk_RX7_211 (by decide) (by decide) rfl (by decide) rfl rfl rfl rfl rfl rfl (Nat.le_of_ble_eq_true rfl) (Nat.le_of_ble_eq_true rfl) (Nat.le_of_ble_eq_true rfl) dX7_drawn_102 rfl ?_
                refine g_sg (σ' := upc (asd σ) 44 (dmV (drM (σ 44) sd.toInt64 k).1 (lcgN (drM (σ 44) sd.toInt64 k).2.1))) (by rw [show dmV _ _ = _ from if_neg c_85]; simp only [upc_upc, upc_same]; rfl) ?_
                refine g_aload_n (q := 106) dX7_drawn_105 rfl rfl ?_
                refine g_callVv (q := 109) (c_X7_oneHour hE (by rw [upc_same]; exact wfm_dmV wdr _)) lk_RX7_159 (by decide) (by decide) rfl (by decide) rfl rfl rfl rfl rfl rfl (Nat.le_of_ble_eq_true rfl) (Nat.le_of_ble_eq_true rfl) (Nat.le_of_ble_eq_true rfl) dX7_drawn_106 rfl ?_
                refine g_sg (σ' := upc (asd σ) 44 (drM (σ 44) sd.toInt64 (k + 1)).1) (by rw [upc_upc, upc_same]; rfl) ?_
                refine g_iload (q := 111) dX7_drawn_109 rfl rfl ?_
                refine g_aload_n (q := 112) dX7_drawn_111 rfl rfl ?_
                refine g_callVi (q := 115) (c_X7_firstCold hE (by rw [upc_same]; exact wfm_dr w _ (k + 1))) lk_RX7_195 (by decide) (by decide) rfl (by decide) rfl rfl rfl rfl rfl rfl (Nat.le_of_ble_eq_true rfl) (Nat.le_of_ble_eq_true rfl) (Nat.le_of_ble_eq_true rfl) dX7_drawn_112 rfl ?_
                refine g_st (stk' := [.int (fsM (drM (σ 44) sd.toInt64 (k + 1)).1), .int (drM (σ 44) sd.toInt64 k).2.2]) (by rw [upc_same]) ?_
                refine g_if_ge (t := 122) (q := 118) dX7_drawn_115 (by decide) rfl (fun c_115 => ?_) (fun c_115 => ?_)
                · refine g_iconst (q := 123) dX7_drawn_122 ci_1 rfl ?_
                  refine g_iadd (q := 124) dX7_drawn_123 rfl ?_
                  refine g_istore (q := 126) dX7_drawn_124 (by decide) rfl rfl ?_
                  refine g_iinc (q := 129) dX7_drawn_126 rfl ci_1 (by decide) rfl rfl ?_
                  refine g_goto (t := 61) dX7_drawn_129 (by decide) ?_
                  have hs : (drM (σ 44) sd.toInt64 (k + 1)).2.2 = if 0 ≤ fsM (drM (σ 44) sd.toInt64 (k + 1)).1 then (drM (σ 44) sd.toInt64 k).2.2 + 1 else (drM (σ 44) sd.toInt64 k).2.2 := rfl
                  have hx : (drM (σ 44) sd.toInt64 (k + 1)).2.1 = (lcgN (drM (σ 44) sd.toInt64 k).2.1) := rfl
                  exact g_eqw kk_k (by first | (rw [if_pos c_115] at hs; simp [lsub, hs, hx, lcgN, nI_succ]; done) | (rw [if_neg c_115] at hs; simp [lsub, hs, hx, lcgN, nI_succ]; done)) rfl rfl
                · refine g_iconst (q := 119) dX7_drawn_118 ci_0 rfl ?_
                  refine g_goto (t := 123) dX7_drawn_119 (by decide) ?_
                  refine g_iadd (q := 124) dX7_drawn_123 rfl ?_
                  refine g_istore (q := 126) dX7_drawn_124 (by decide) rfl rfl ?_
                  refine g_iinc (q := 129) dX7_drawn_126 rfl ci_1 (by decide) rfl rfl ?_
                  refine g_goto (t := 61) dX7_drawn_129 (by decide) ?_
                  have hs : (drM (σ 44) sd.toInt64 (k + 1)).2.2 = if 0 ≤ fsM (drM (σ 44) sd.toInt64 (k + 1)).1 then (drM (σ 44) sd.toInt64 k).2.2 + 1 else (drM (σ 44) sd.toInt64 k).2.2 := rfl
                  have hx : (drM (σ 44) sd.toInt64 (k + 1)).2.1 = (lcgN (drM (σ 44) sd.toInt64 k).2.1) := rfl
                  exact g_eqw kk_k (by first | (rw [if_pos c_115] at hs; simp [lsub, hs, hx, lcgN, nI_succ]; done) | (rw [if_neg c_115] at hs; simp [lsub, hs, hx, lcgN, nI_succ]; done)) rfl rfl
          · refine g_iload (q := 63) dX7_drawn_61 rfl rfl ?_
            refine g_iload_n (q := 64) dX7_drawn_63 rfl rfl ?_
            refine g_icmp_ge (t := 132) (q := 67) dX7_drawn_64 (by decide) rfl (fun c_64 => ?_) (fun c_64 => ?_)
            · refine g_aload_n (q := 133) dX7_drawn_132 rfl rfl ?_
              refine g_callVi (q := 136) (c_X7_allCold hE (by rw [upc_same]; exact wfm_dr w _ _)) lk_RX7_162 (by decide) (by decide) rfl (by decide) rfl rfl rfl rfl rfl rfl (Nat.le_of_ble_eq_true rfl) (Nat.le_of_ble_eq_true rfl) (Nat.le_of_ble_eq_true rfl) dX7_drawn_133 rfl ?_
              refine g_istore (q := 138) dX7_drawn_136 (by decide) rfl rfl ?_
              refine g_aload_n (q := 139) dX7_drawn_138 rfl rfl ?_
              refine g_callVv (q := 142) (c_X7_takeBack hE ) lk_RX7_192 (by decide) (by decide) rfl (by decide) rfl rfl rfl rfl rfl rfl (Nat.le_of_ble_eq_true rfl) (Nat.le_of_ble_eq_true rfl) (Nat.le_of_ble_eq_true rfl) dX7_drawn_139 rfl ?_
              refine g_sg (σ' := asd σ) (tkb (fun k hk => by simp only [upc_ne hk])) ?_
              refine g_iload_n (q := 143) dX7_drawn_142 rfl rfl ?_
              refine g_if_ne (t := 151) (q := 146) dX7_drawn_143 (by decide) rfl (fun c_143 => ?_) (fun c_143 => ?_)
              · refine g_iload (q := 153) dX7_drawn_151 rfl rfl ?_
                exact g_iret dX7_drawn_153 (pi_i (by simp only [q_drawn, c_4, c_19, c_31, c_41, c_64, c_143, not_true_eq_false, not_false_eq_true, if_true, if_false, Bool.true_eq_false, Bool.false_eq_true, reduceIte, reduceCtorEq, upc_same, asd_44, show wi 0 0 1 = true from by decide]) (by simp only [q_drawn, c_4, c_19, c_31, c_41, c_64, c_143, not_true_eq_false, not_false_eq_true, if_true, if_false, Bool.true_eq_false, Bool.false_eq_true, reduceIte, reduceCtorEq, upc_same, asd_44, show wi 0 0 1 = true from by decide]) rfl)
              · refine g_iload (q := 148) dX7_drawn_146 rfl rfl ?_
                refine g_goto (t := 153) dX7_drawn_148 (by decide) ?_
                exact g_iret dX7_drawn_153 (pi_i (by simp only [q_drawn, c_4, c_19, c_31, c_41, c_64, c_143, not_true_eq_false, not_false_eq_true, if_true, if_false, Bool.true_eq_false, Bool.false_eq_true, reduceIte, reduceCtorEq, upc_same, asd_44, show wi 0 0 1 = true from by decide]) (by simp only [q_drawn, c_4, c_19, c_31, c_41, c_64, c_143, not_true_eq_false, not_false_eq_true, if_true, if_false, Bool.true_eq_false, Bool.false_eq_true, reduceIte, reduceCtorEq, upc_same, asd_44, show wi 0 0 1 = true from by decide]) rfl)
            · exact absurd (lp_out (by exact en)) c_64
        · rw [bI_0] at c_41
          rw [show inL u.toInt64 0 1 = wi u 0 1 from inL_i u 0 1] at c_41
          refine g_ldc (q := 46) dX7_drawn_44 wd_931 rfl ?_
          exact g_iret dX7_drawn_46 (pi_i (by simp only [q_drawn, c_4, c_19, c_31, c_41, not_true_eq_false, not_false_eq_true, if_true, if_false, Bool.true_eq_false, Bool.false_eq_true, reduceIte, reduceCtorEq]) (by simp only [q_drawn, c_4, c_19, c_31, c_41, not_true_eq_false, not_false_eq_true, if_true, if_false, Bool.true_eq_false, Bool.false_eq_true, reduceIte, reduceCtorEq]) rfl)
  · refine g_ldc (q := 9) dX7_drawn_7 wd_1011 rfl ?_
    exact g_iret dX7_drawn_9 (pi_i (by simp only [q_drawn, c_4, not_true_eq_false, not_false_eq_true, if_true, if_false, Bool.true_eq_false, Bool.false_eq_true, reduceIte, reduceCtorEq]) (by simp only [q_drawn, c_4, not_true_eq_false, not_false_eq_true, if_true, if_false, Bool.true_eq_false, Bool.false_eq_true, reduceIte, reduceCtorEq]) rfl)
set_option maxRecDepth 20000 in
set_option maxHeartbeats 4000000 in
theorem c_X7_wind {E : EE} (hE : inj E 40 13) {σ : Sto} {τ : Stl} {r pp u : Int32} {O NN : Nat} {g : Int64} (w : WFM (σ 44)) (hO : s_opM (σ 44) ((σ 44 4).toNatClampNeg) = nI O) (hO2 : O < 256) (hg : wi pp 0 10 = true → (eu (wiA σ r pp O) (s_pw 10 (pop8 O)) NN = some g ∧ ¬ g = 0)) : Ct E 40 13 yX7_wind cX7_wind 15 (some FieldType.long) { frames := 3, cells := 0, slots := 0, locals := 72 } [.ref (E.2.1 40), .int r, .int pp, .int u] σ τ (Pl ((q_wind σ r pp u O g).1) ((q_wind σ r pp u O g).2) (τ)) := by
  refine ct_of hE RX7 [some (.ref (E.2.1 40)), some (.int r), some (.int pp), some (.int u), none, none, none, none, none, none, none, none, none, none, none] (by decide) rfl (Nat.le_of_ble_eq_true rfl) rfl (fun X => ?_)
  obtain ⟨⟨e0, b0⟩, ⟨e1, b1⟩, ⟨e4, b4⟩, ⟨e5, b5⟩⟩ := wfm_n w
  refine g_aload_n (q := 1) dX7_wind_0 rfl rfl ?_
  refine f7_4 (q := 4) wd_852 dX7_wind_1 rfl ?_
  refine g_if_ne (t := 11) (q := 7) dX7_wind_4 (by decide) rfl (fun c_4 => ?_) (fun c_4 => ?_)
  · refine g_aload_n (q := 12) dX7_wind_11 rfl rfl ?_
    refine g_iload_n (q := 13) dX7_wind_12 rfl rfl ?_
    refine g_callVi (q := 16) (c_X7_isRoom hE ) lk_RX7_175 (by decide) (by decide) rfl (by decide) rfl rfl rfl rfl rfl rfl (Nat.le_of_ble_eq_true rfl) (Nat.le_of_ble_eq_true rfl) (Nat.le_of_ble_eq_true rfl) dX7_wind_13 rfl ?_
    refine g_if_eq (t := 41) (q := 19) dX7_wind_16 (by decide) rfl (fun c_16 => ?_) (fun c_16 => ?_)
    · rw [bI_0] at c_16
      refine g_ldc2 (q := 44) dX7_wind_41 wd_1185 rfl ?_
      exact g_lret dX7_wind_44 (pl_i (by simp only [q_wind, c_4, c_16, not_true_eq_false, not_false_eq_true, if_true, if_false, Bool.true_eq_false, Bool.false_eq_true, reduceIte, reduceCtorEq]) (by simp only [q_wind, c_4, c_16, not_true_eq_false, not_false_eq_true, if_true, if_false, Bool.true_eq_false, Bool.false_eq_true, reduceIte, reduceCtorEq]) rfl)
    · rw [bI_n0] at c_16
      refine g_iload_n (q := 20) dX7_wind_19 rfl rfl ?_
      refine g_i2l (q := 21) dX7_wind_20 rfl ?_
      refine g_lconst (q := 22) dX7_wind_21 cl_0 rfl ?_
      refine g_ldc2 (q := 25) dX7_wind_22 wd_1184 rfl ?_
      refine g_callSi (q := 28) (c_X7_in hE ) lk_RX7_54 rfl rfl rfl rfl (Nat.le_of_ble_eq_true rfl) (Nat.le_of_ble_eq_true rfl) (Nat.le_of_ble_eq_true rfl) dX7_wind_25 rfl ?_
      refine g_if_eq (t := 41) (q := 31) dX7_wind_28 (by decide) rfl (fun c_28 => ?_) (fun c_28 => ?_)
      · rw [bI_0] at c_28
        rw [show inL pp.toInt64 0 10 = wi pp 0 10 from inL_i pp 0 10] at c_28
        refine g_ldc2 (q := 44) dX7_wind_41 wd_1185 rfl ?_
        exact g_lret dX7_wind_44 (pl_i (by simp only [q_wind, c_4, c_16, c_28, not_true_eq_false, not_false_eq_true, if_true, if_false, Bool.true_eq_false, Bool.false_eq_true, reduceIte, reduceCtorEq]) (by simp only [q_wind, c_4, c_16, c_28, not_true_eq_false, not_false_eq_true, if_true, if_false, Bool.true_eq_false, Bool.false_eq_true, reduceIte, reduceCtorEq]) rfl)
      · rw [bI_n0] at c_28
        rw [show inL pp.toInt64 0 10 = wi pp 0 10 from inL_i pp 0 10] at c_28
        refine g_iload_n (q := 32) dX7_wind_31 rfl rfl ?_
        refine g_i2l (q := 33) dX7_wind_32 rfl ?_
        refine g_lconst (q := 34) dX7_wind_33 cl_0 rfl ?_
        refine g_lconst (q := 35) dX7_wind_34 cl_1 rfl ?_
        refine g_callSi (q := 38) (c_X7_in hE ) lk_RX7_54 rfl rfl rfl rfl (Nat.le_of_ble_eq_true rfl) (Nat.le_of_ble_eq_true rfl) (Nat.le_of_ble_eq_true rfl) dX7_wind_35 rfl ?_
        refine g_if_ne (t := 45) (q := 41) dX7_wind_38 (by decide) rfl (fun c_38 => ?_) (fun c_38 => ?_)
        · rw [bI_n0] at c_38
          rw [show inL u.toInt64 0 1 = wi u 0 1 from inL_i u 0 1] at c_38
          have er := roomM w c_16
          refine g_aload_n (q := 46) dX7_wind_45 rfl rfl ?_
          refine g_callVv (q := 49) (c_X7_putAside hE ) lk_RX7_185 (by decide) (by decide) rfl (by decide) rfl rfl rfl rfl rfl rfl (Nat.le_of_ble_eq_true rfl) (Nat.le_of_ble_eq_true rfl) (Nat.le_of_ble_eq_true rfl) dX7_wind_46 rfl ?_
          refine g_sg (σ' := asd σ) rfl ?_
          refine g_aload_n (q := 50) dX7_wind_49 rfl rfl ?_
          refine g_callVi (q := 53) (c_X7_openDoors hE (by rw [asd_44]; exact w)) lk_RX7_169 (by decide) (by decide) rfl (by decide) rfl rfl rfl rfl rfl rfl (Nat.le_of_ble_eq_true rfl) (Nat.le_of_ble_eq_true rfl) (Nat.le_of_ble_eq_true rfl) dX7_wind_50 rfl ?_
          refine g_st (stk' := [.int (nI O)]) (by rw [asd_44, hO]) ?_
          refine g_istore (q := 55) dX7_wind_53 (by decide) rfl rfl ?_
          refine g_lconst (q := 56) dX7_wind_55 cl_0 rfl ?_
          refine g_lstore (q := 58) dX7_wind_56 (by decide) rfl rfl ?_
          refine g_lconst (q := 59) dX7_wind_58 cl_1 rfl ?_
          refine g_lstore (q := 61) dX7_wind_59 (by decide) rfl rfl ?_
          refine g_iconst (q := 62) dX7_wind_61 ci_0 rfl ?_
          refine g_istore (q := 64) dX7_wind_62 (by decide) rfl rfl ?_
          have pg := pw_le b4
          refine g_eqw (ls := [some (.ref (E.2.1 40)), some (.int r), some (.int pp), some (.int u), some (.int (nI O)), some (.long 0), none, some (.long 1), none, some (.int 0), none, none, none, none, none]) ?_ (by simp [lsub]) rfl rfl
          refine g_for (I := fun k => [some (.ref (E.2.1 40)), some (.int r), some (.int pp), some (.int u), some (.int (nI O)), some (.long 0), none, some (.long (s_pw 10 k)), none, some (.int (nI k)), none, none, none, none, none]) (S := fun k => asd σ) (T := fun k => τ) (0) (pop8 O) (Nat.zero_le _) (by rfl) (by rfl) (by rfl) (fun k k0 k1 kk_k => ?_) ?_
          · have hck : (nI k).toNatClampNeg = k := nI_clamp (by (have := pop_le O; omega))
            refine g_iload (q := 66) dX7_wind_64 rfl rfl ?_
            refine g_iload (q := 68) dX7_wind_66 rfl rfl ?_
            refine g_callSi (q := 71) (c_X7_ones hE hO2) lk_RX7_208 rfl rfl rfl rfl (Nat.le_of_ble_eq_true rfl) (Nat.le_of_ble_eq_true rfl) (Nat.le_of_ble_eq_true rfl) dX7_wind_68 rfl ?_
            refine g_icmp_ge (t := 88) (q := 74) dX7_wind_71 (by decide) rfl (fun c_71 => ?_) (fun c_71 => ?_)
            · exact absurd c_71 (lp_in (by rfl) (by (have := pop_le O; omega)) k1)
            · refine g_lload (q := 76) dX7_wind_74 rfl rfl ?_
              refine g_ldc2 (q := 79) dX7_wind_76 wd_1184 rfl ?_
              refine g_lmul (q := 80) dX7_wind_79 rfl ?_
              refine g_lstore (q := 82) dX7_wind_80 (by decide) rfl rfl ?_
              refine g_iinc (q := 85) dX7_wind_82 rfl ci_1 (by decide) rfl rfl ?_
              refine g_goto (t := 64) dX7_wind_85 (by decide) ?_
              exact g_eqw kk_k (by simp [lsub, s_pw, nI_succ]) rfl rfl
          · refine g_iload (q := 66) dX7_wind_64 rfl rfl ?_
            refine g_iload (q := 68) dX7_wind_66 rfl rfl ?_
            refine g_callSi (q := 71) (c_X7_ones hE hO2) lk_RX7_208 rfl rfl rfl rfl (Nat.le_of_ble_eq_true rfl) (Nat.le_of_ble_eq_true rfl) (Nat.le_of_ble_eq_true rfl) dX7_wind_68 rfl ?_
            refine g_icmp_ge (t := 88) (q := 74) dX7_wind_71 (by decide) rfl (fun c_71 => ?_) (fun c_71 => ?_)
            · refine g_iconst (q := 89) dX7_wind_88 ci_0 rfl ?_
              refine g_istore (q := 91) dX7_wind_89 (by decide) rfl rfl ?_
              refine g_eqw (ls := [some (.ref (E.2.1 40)), some (.int r), some (.int pp), some (.int u), some (.int (nI O)), some (.long 0), none, some (.long (s_pw 10 (pop8 O))), none, some (.int 0), none, none, none, none, none]) ?_ (by simp [lsub]) rfl rfl
              refine g_for (I := fun j => [some (.ref (E.2.1 40)), some (.int r), some (.int pp), some (.int u), some (.int (nI O)), some (.long (odM (σ 44) (r.toNatClampNeg) pp (nI O) ((σ 44 4).toNatClampNeg) j)), none, some (.long (s_pw 10 (pop8 O))), none, some (.int (nI j)), none, none, none, none, none]) (S := fun j => asd σ) (T := fun j => τ) (0) (2 ^ (σ 44 4).toNatClampNeg) (Nat.zero_le _) (by rfl) (by rfl) (by rfl) (fun j j0 j1 kk_j => ?_) ?_
              · have hcj : (nI j).toNatClampNeg = j := nI_clamp (by omega)
                refine g_iload (q := 93) dX7_wind_91 rfl rfl ?_
                refine g_iconst (q := 94) dX7_wind_93 ci_1 rfl ?_
                refine g_aload_n (q := 95) dX7_wind_94 rfl rfl ?_
                refine f7_5 (q := 98) wd_853 dX7_wind_95 rfl ?_
                refine g_iconst (q := 99) dX7_wind_98 ci_4 rfl ?_
                refine g_ialdJ (q := 100) (k := 44) (j := 4) (N := 52) (by decide) (by decide) rfl rfl (by decide) (show (4 : Int32) = nI 4 from rfl) (by omega) dX7_wind_99 rfl ?_
                refine g_ishl (q := 101) dX7_wind_100 rfl ?_
                refine g_icmp_ge (t := 225) (q := 104) dX7_wind_101 (by decide) rfl (fun c_101 => ?_) (fun c_101 => ?_)
                · exact absurd c_101 (lp_in (by rw [asd_44, e4, nI_clamp (by omega)]; exact sh1 b4) (by omega) j1)
                · refine g_iload (q := 106) dX7_wind_104 rfl rfl ?_
                  refine g_iload (q := 108) dX7_wind_106 rfl rfl ?_
                  refine g_iconst (q := 109) dX7_wind_108 ci_m1 rfl ?_
                  refine g_ixor (q := 110) dX7_wind_109 rfl ?_
                  refine g_iand (q := 111) dX7_wind_110 rfl ?_
                  refine g_if_ne (t := 219) (q := 114) dX7_wind_111 (by decide) rfl (fun c_111 => ?_) (fun c_111 => ?_)
                  · refine g_iinc (q := 222) dX7_wind_219 rfl ci_1 (by decide) rfl rfl ?_
                    refine g_goto (t := 91) dX7_wind_222 (by decide) ?_
                    have hs : odM (σ 44) (r.toNatClampNeg) pp (nI O) ((σ 44 4).toNatClampNeg) (j + 1) = odM (σ 44) (r.toNatClampNeg) pp (nI O) ((σ 44 4).toNatClampNeg) j := if_neg c_111
                    exact g_eqw kk_j (by simp [lsub, hs, nI_succ]) rfl rfl
                  · refine g_lconst (q := 115) dX7_wind_114 cl_1 rfl ?_
                    refine g_lstore (q := 117) dX7_wind_115 (by decide) rfl rfl ?_
                    refine g_iconst (q := 118) dX7_wind_117 ci_0 rfl ?_
                    refine g_istore (q := 120) dX7_wind_118 (by decide) rfl rfl ?_
                    refine g_eqw (ls := [some (.ref (E.2.1 40)), some (.int r), some (.int pp), some (.int u), some (.int (nI O)), some (.long (odM (σ 44) (r.toNatClampNeg) pp (nI O) ((σ 44 4).toNatClampNeg) j)), none, some (.long (s_pw 10 (pop8 O))), none, some (.int (nI j)), some (.long 1), none, some (.int 0), none, none]) ?_ (by simp [lsub]) rfl rfl
                    refine g_for (I := fun d => [some (.ref (E.2.1 40)), some (.int r), some (.int pp), some (.int u), some (.int (nI O)), some (.long (odM (σ 44) (r.toNatClampNeg) pp (nI O) ((σ 44 4).toNatClampNeg) j)), none, some (.long (s_pw 10 (pop8 O))), none, some (.int (nI j)), some (.long (prM (nI j) (nI O) pp d)), none, some (.int (nI d)), none, none]) (S := fun d => asd σ) (T := fun d => τ) (0) ((σ 44 4).toNatClampNeg) (Nat.zero_le _) (by rfl) (by rfl) (by rfl) (fun d d0 d1 kk_d => ?_) ?_
                    · have hcd : (nI d).toNatClampNeg = d := nI_clamp (by omega)
                      refine g_iload (q := 122) dX7_wind_120 rfl rfl ?_
                      refine g_aload_n (q := 123) dX7_wind_122 rfl rfl ?_
                      refine f7_5 (q := 126) wd_853 dX7_wind_123 rfl ?_
                      refine g_iconst (q := 127) dX7_wind_126 ci_4 rfl ?_
                      refine g_ialdJ (q := 128) (k := 44) (j := 4) (N := 52) (by decide) (by decide) rfl rfl (by decide) (show (4 : Int32) = nI 4 from rfl) (by omega) dX7_wind_127 rfl ?_
                      refine g_icmp_ge (t := 176) (q := 131) dX7_wind_128 (by decide) rfl (fun c_128 => ?_) (fun c_128 => ?_)
                      · exact absurd c_128 (lp_in (by rw [asd_44]; exact e4) (by omega) d1)
                      · refine g_lload (q := 133) dX7_wind_131 rfl rfl ?_
                        refine g_iload (q := 135) dX7_wind_133 rfl rfl ?_
                        refine g_iload (q := 137) dX7_wind_135 rfl rfl ?_
                        refine g_callSi (q := 140) (c_X7_has hE ) lk_RX7_199 rfl rfl rfl rfl (Nat.le_of_ble_eq_true rfl) (Nat.le_of_ble_eq_true rfl) (Nat.le_of_ble_eq_true rfl) dX7_wind_137 rfl ?_
                        refine g_if_eq (t := 148) (q := 143) dX7_wind_140 (by decide) rfl (fun c_140 => ?_) (fun c_140 => ?_)
                        · rw [bI_0] at c_140
                          refine g_iload (q := 150) dX7_wind_148 rfl rfl ?_
                          refine g_iload (q := 152) dX7_wind_150 rfl rfl ?_
                          refine g_callSi (q := 155) (c_X7_has hE ) lk_RX7_199 rfl rfl rfl rfl (Nat.le_of_ble_eq_true rfl) (Nat.le_of_ble_eq_true rfl) (Nat.le_of_ble_eq_true rfl) dX7_wind_152 rfl ?_
                          refine g_if_eq (t := 166) (q := 158) dX7_wind_155 (by decide) rfl (fun c_155 => ?_) (fun c_155 => ?_)
                          · rw [bI_0] at c_155
                            refine g_lconst (q := 167) dX7_wind_166 cl_1 rfl ?_
                            refine g_lmul (q := 168) dX7_wind_167 rfl ?_
                            refine g_lstore (q := 170) dX7_wind_168 (by decide) rfl rfl ?_
                            refine g_iinc (q := 173) dX7_wind_170 rfl ci_1 (by decide) rfl rfl ?_
                            refine g_goto (t := 120) dX7_wind_173 (by decide) ?_
                            exact g_eqw kk_d (by simp only [lsub, prM, hsB, c_140, c_155, not_true_eq_false, not_false_eq_true, if_true, if_false, Bool.true_eq_false, Bool.false_eq_true, reduceIte, reduceCtorEq, nI_succ, and_self, true_and, and_true, List.set_cons_succ, List.set_cons_zero]) rfl rfl
                          · rw [bI_n0] at c_155
                            refine g_bipush (q := 160) dX7_wind_158 cb_10 rfl ?_
                            refine g_iload_n (q := 161) dX7_wind_160 rfl rfl ?_
                            refine g_isub (q := 162) dX7_wind_161 rfl ?_
                            refine g_i2l (q := 163) dX7_wind_162 rfl ?_
                            refine g_goto (t := 167) dX7_wind_163 (by decide) ?_
                            refine g_lmul (q := 168) dX7_wind_167 rfl ?_
                            refine g_lstore (q := 170) dX7_wind_168 (by decide) rfl rfl ?_
                            refine g_iinc (q := 173) dX7_wind_170 rfl ci_1 (by decide) rfl rfl ?_
                            refine g_goto (t := 120) dX7_wind_173 (by decide) ?_
                            exact g_eqw kk_d (by simp only [lsub, prM, hsB, c_140, c_155, not_true_eq_false, not_false_eq_true, if_true, if_false, Bool.true_eq_false, Bool.false_eq_true, reduceIte, reduceCtorEq, nI_succ, and_self, true_and, and_true, List.set_cons_succ, List.set_cons_zero]) rfl rfl
                        · rw [bI_n0] at c_140
                          refine g_iload_n (q := 144) dX7_wind_143 rfl rfl ?_
                          refine g_i2l (q := 145) dX7_wind_144 rfl ?_
                          refine g_goto (t := 167) dX7_wind_145 (by decide) ?_
                          refine g_lmul (q := 168) dX7_wind_167 rfl ?_
                          refine g_lstore (q := 170) dX7_wind_168 (by decide) rfl rfl ?_
                          refine g_iinc (q := 173) dX7_wind_170 rfl ci_1 (by decide) rfl rfl ?_
                          refine g_goto (t := 120) dX7_wind_173 (by decide) ?_
                          exact g_eqw kk_d (by simp only [lsub, prM, hsB, c_140, not_true_eq_false, not_false_eq_true, if_true, if_false, Bool.true_eq_false, Bool.false_eq_true, reduceIte, reduceCtorEq, nI_succ, and_self, true_and, and_true, List.set_cons_succ, List.set_cons_zero]) rfl rfl
                    · refine g_iload (q := 122) dX7_wind_120 rfl rfl ?_
                      refine g_aload_n (q := 123) dX7_wind_122 rfl rfl ?_
                      refine f7_5 (q := 126) wd_853 dX7_wind_123 rfl ?_
                      refine g_iconst (q := 127) dX7_wind_126 ci_4 rfl ?_
                      refine g_ialdJ (q := 128) (k := 44) (j := 4) (N := 52) (by decide) (by decide) rfl rfl (by decide) (show (4 : Int32) = nI 4 from rfl) (by omega) dX7_wind_127 rfl ?_
                      refine g_icmp_ge (t := 176) (q := 131) dX7_wind_128 (by decide) rfl (fun c_128 => ?_) (fun c_128 => ?_)
                      · refine g_aload_n (q := 177) dX7_wind_176 rfl rfl ?_
                        refine g_iload (q := 179) dX7_wind_177 rfl rfl ?_
                        refine g_callVv (q := 182) (c_X7_turn hE (by rw [asd_44]; exact w)) lk_RX7_211 (by decide) (by decide) rfl (by decide) rfl rfl rfl rfl rfl rfl (Nat.le_of_ble_eq_true rfl) (Nat.le_of_ble_eq_true rfl) (Nat.le_of_ble_eq_true rfl) dX7_wind_179 rfl ?_
                        refine g_aload_n (q := 183) dX7_wind_182 rfl rfl ?_
                        refine g_callVv (q := 186) (c_X7_oneHour hE (by rw [upc_same, asd_44]; exact wfm_tu w _ _ b4)) lk_RX7_159 (by decide) (by decide) rfl (by decide) rfl rfl rfl rfl rfl rfl (Nat.le_of_ble_eq_true rfl) (Nat.le_of_ble_eq_true rfl) (Nat.le_of_ble_eq_true rfl) dX7_wind_183 rfl ?_
                        refine g_sg (σ' := upc (asd σ) 44 (q_hour (q_tu (σ 44) (nI j) ((σ 44 4).toNatClampNeg)))) (by simp only [upc_upc, upc_same, asd_44]) ?_
                        refine g_lload (q := 188) dX7_wind_186 rfl rfl ?_
                        refine g_aload_n (q := 189) dX7_wind_188 rfl rfl ?_
                        refine f7_5 (q := 192) wd_853 dX7_wind_189 rfl ?_
                        refine g_bipush (q := 194) dX7_wind_192 cb_7 rfl ?_
                        refine g_iload_n (q := 195) dX7_wind_194 rfl rfl ?_
                        refine g_iadd (q := 196) dX7_wind_195 rfl ?_
                        refine g_ialdJ (q := 197) (k := 44) (j := (7 + r.toNatClampNeg)) (N := 52) (by decide) (by decide) rfl rfl (by decide) (ad2 (show (7 : Int32) = nI 7 from rfl) er.1) (by omega) dX7_wind_196 rfl ?_
                        refine g_aload_n (q := 198) dX7_wind_197 rfl rfl ?_
                        refine f7_5 (q := 201) wd_853 dX7_wind_198 rfl ?_
                        refine g_iconst (q := 202) dX7_wind_201 ci_3 rfl ?_
                        refine g_ialdJ (q := 203) (k := 44) (j := 3) (N := 52) (by decide) (by decide) rfl rfl (by decide) (show (3 : Int32) = nI 3 from rfl) (by omega) dX7_wind_202 rfl ?_
                        refine g_icmp_le (t := 211) (q := 206) dX7_wind_203 (by decide) rfl (fun c_203 => ?_) (fun c_203 => ?_)
                        · refine g_lconst (q := 212) dX7_wind_211 cl_0 rfl ?_
                          refine g_ladd (q := 213) dX7_wind_212 rfl ?_
                          refine g_lstore (q := 215) dX7_wind_213 (by decide) rfl rfl ?_
                          refine g_aload_n (q := 216) dX7_wind_215 rfl rfl ?_
                          refine g_callVv (q := 219) (c_X7_takeBack hE ) lk_RX7_192 (by decide) (by decide) rfl (by decide) rfl rfl rfl rfl rfl rfl (Nat.le_of_ble_eq_true rfl) (Nat.le_of_ble_eq_true rfl) (Nat.le_of_ble_eq_true rfl) dX7_wind_216 rfl ?_
                          refine g_sg (σ' := asd σ) (tkb (fun k hk => by simp only [upc_ne hk])) ?_
                          refine g_iinc (q := 222) dX7_wind_219 rfl ci_1 (by decide) rfl rfl ?_
                          refine g_goto (t := 91) dX7_wind_222 (by decide) ?_
                          rw [upc_same] at c_203
                          have hs : odM (σ 44) (r.toNatClampNeg) pp (nI O) ((σ 44 4).toNatClampNeg) (j + 1) = odM (σ 44) (r.toNatClampNeg) pp (nI O) ((σ 44 4).toNatClampNeg) j + (if (q_hour (q_tu (σ 44) (nI j) ((σ 44 4).toNatClampNeg))) (7 + r.toNatClampNeg) ≤ (q_hour (q_tu (σ 44) (nI j) ((σ 44 4).toNatClampNeg))) 3 then 0 else prM (nI j) (nI O) pp ((σ 44 4).toNatClampNeg)) := if_pos c_111
                          exact g_eqw kk_j (by first | (rw [if_pos c_203] at hs; simp [lsub, hs, nI_succ]; done) | (rw [if_neg c_203] at hs; simp [lsub, hs, nI_succ]; done)) rfl rfl
                        · refine g_lload (q := 208) dX7_wind_206 rfl rfl ?_
                          refine g_goto (t := 212) dX7_wind_208 (by decide) ?_
                          refine g_ladd (q := 213) dX7_wind_212 rfl ?_
                          refine g_lstore (q := 215) dX7_wind_213 (by decide) rfl rfl ?_
                          refine g_aload_n (q := 216) dX7_wind_215 rfl rfl ?_
                          refine g_callVv (q := 219) (c_X7_takeBack hE ) lk_RX7_192 (by decide) (by decide) rfl (by decide) rfl rfl rfl rfl rfl rfl (Nat.le_of_ble_eq_true rfl) (Nat.le_of_ble_eq_true rfl) (Nat.le_of_ble_eq_true rfl) dX7_wind_216 rfl ?_
                          refine g_sg (σ' := asd σ) (tkb (fun k hk => by simp only [upc_ne hk])) ?_
                          refine g_iinc (q := 222) dX7_wind_219 rfl ci_1 (by decide) rfl rfl ?_
                          refine g_goto (t := 91) dX7_wind_222 (by decide) ?_
                          rw [upc_same] at c_203
                          have hs : odM (σ 44) (r.toNatClampNeg) pp (nI O) ((σ 44 4).toNatClampNeg) (j + 1) = odM (σ 44) (r.toNatClampNeg) pp (nI O) ((σ 44 4).toNatClampNeg) j + (if (q_hour (q_tu (σ 44) (nI j) ((σ 44 4).toNatClampNeg))) (7 + r.toNatClampNeg) ≤ (q_hour (q_tu (σ 44) (nI j) ((σ 44 4).toNatClampNeg))) 3 then 0 else prM (nI j) (nI O) pp ((σ 44 4).toNatClampNeg)) := if_pos c_111
                          exact g_eqw kk_j (by first | (rw [if_pos c_203] at hs; simp [lsub, hs, nI_succ]; done) | (rw [if_neg c_203] at hs; simp [lsub, hs, nI_succ]; done)) rfl rfl
                      · exact absurd (lp_out (by rw [asd_44]; exact e4)) c_128
              · refine g_iload (q := 93) dX7_wind_91 rfl rfl ?_
                refine g_iconst (q := 94) dX7_wind_93 ci_1 rfl ?_
                refine g_aload_n (q := 95) dX7_wind_94 rfl rfl ?_
                refine f7_5 (q := 98) wd_853 dX7_wind_95 rfl ?_
                refine g_iconst (q := 99) dX7_wind_98 ci_4 rfl ?_
                refine g_ialdJ (q := 100) (k := 44) (j := 4) (N := 52) (by decide) (by decide) rfl rfl (by decide) (show (4 : Int32) = nI 4 from rfl) (by omega) dX7_wind_99 rfl ?_
                refine g_ishl (q := 101) dX7_wind_100 rfl ?_
                refine g_icmp_ge (t := 225) (q := 104) dX7_wind_101 (by decide) rfl (fun c_101 => ?_) (fun c_101 => ?_)
                · refine g_lload (q := 227) dX7_wind_225 rfl rfl ?_
                  refine g_lstore (q := 229) dX7_wind_227 (by decide) rfl rfl ?_
                  refine g_lload (q := 231) dX7_wind_229 rfl rfl ?_
                  refine g_lstore (q := 233) dX7_wind_231 (by decide) rfl rfl ?_
                  have hg := hg c_28
                  have hqw : q_wind σ r pp u O g = (if u = 0 then (wiA σ r pp O) / g else (s_pw 10 (pop8 O)) / g, asd σ) := by simp only [q_wind, c_4, c_16, c_28, c_38, not_true_eq_false, not_false_eq_true, if_true, if_false, Bool.true_eq_false, Bool.false_eq_true, reduceIte, reduceCtorEq]
                  rw [hqw]
                  have key : ∀ N x y, eu x y N = some g → G E 40 13 { frames := 3, cells := 0, slots := 0, locals := 72 } X cX7_wind RX7 15 (some FieldType.long) (Pl (if u = 0 then (wiA σ r pp O) / g else (s_pw 10 (pop8 O)) / g) (asd σ) τ) 233 [some (.ref (E.2.1 40)), some (.int r), some (.int pp), some (.int u), some (.int (nI O)), some (.long (wiA σ r pp O)), none, some (.long (s_pw 10 (pop8 O))), none, some (.long x), none, some (.long y), none, none, none] [] (asd σ) τ := by
                    intro N
                    induction N with
                    | zero => intro x y hk; exact absurd hk (by simp [eu])
                    | succ N ih =>
                      intro x y hk
                      refine g_lload (q := 235) dX7_wind_233 rfl rfl ?_
                      refine g_lconst (q := 236) dX7_wind_235 cl_0 rfl ?_
                      refine g_lcmp (q := 237) dX7_wind_236 rfl ?_
                      refine g_if_eq (t := 258) (q := 240) dX7_wind_237 (by decide) rfl (fun c_237 => ?_) (fun c_237 => ?_)
                      · rw [lgc0] at c_237
                        have hx : x = g := by simp only [eu] at hk; rw [if_pos c_237] at hk; exact Option.some.inj hk
                        subst hx
                        refine g_iload_n (q := 259) dX7_wind_258 rfl rfl ?_
                        refine g_if_ne (t := 270) (q := 262) dX7_wind_259 (by decide) rfl (fun c_259 => ?_) (fun c_259 => ?_)
                        · refine g_lload (q := 272) dX7_wind_270 rfl rfl ?_
                          refine g_lload (q := 274) dX7_wind_272 rfl rfl ?_
                          refine g_ldiv (q := 275) dX7_wind_274 hg.2 rfl ?_
                          exact g_lret dX7_wind_275 (pl_i (by simp only [c_259, if_true, if_false]) (by rfl) rfl)
                        · refine g_lload (q := 264) dX7_wind_262 rfl rfl ?_
                          refine g_lload (q := 266) dX7_wind_264 rfl rfl ?_
                          refine g_ldiv (q := 267) dX7_wind_266 hg.2 rfl ?_
                          refine g_goto (t := 275) dX7_wind_267 (by decide) ?_
                          exact g_lret dX7_wind_275 (pl_i (by simp only [c_259, if_true, if_false]) (by rfl) rfl)
                      · rw [lgc0] at c_237
                        refine g_lload (q := 242) dX7_wind_240 rfl rfl ?_
                        refine g_lload (q := 244) dX7_wind_242 rfl rfl ?_
                        refine g_lrem (q := 245) dX7_wind_244 c_237 rfl ?_
                        refine g_lstore (q := 247) dX7_wind_245 (by decide) rfl rfl ?_
                        refine g_lload (q := 249) dX7_wind_247 rfl rfl ?_
                        refine g_lstore (q := 251) dX7_wind_249 (by decide) rfl rfl ?_
                        refine g_lload (q := 253) dX7_wind_251 rfl rfl ?_
                        refine g_lstore (q := 255) dX7_wind_253 (by decide) rfl rfl ?_
                        refine g_goto (t := 233) dX7_wind_255 (by decide) ?_
                        exact g_eqw (ih y (x - x / y * y) (by rw [← hk]; simp only [eu]; rw [if_neg c_237])) (by simp [lsub]) rfl rfl
                  exact g_eqw (key NN _ _ hg.1) (by simp [lsub]; rfl) rfl rfl
                · exact absurd (lp_out (by rw [asd_44, e4, nI_clamp (by omega)]; exact sh1 b4)) c_101
            · exact absurd (lp_out (by rfl)) c_71
        · rw [bI_0] at c_38
          rw [show inL u.toInt64 0 1 = wi u 0 1 from inL_i u 0 1] at c_38
          refine g_ldc2 (q := 44) dX7_wind_41 wd_1185 rfl ?_
          exact g_lret dX7_wind_44 (pl_i (by simp only [q_wind, c_4, c_16, c_28, c_38, not_true_eq_false, not_false_eq_true, if_true, if_false, Bool.true_eq_false, Bool.false_eq_true, reduceIte, reduceCtorEq]) (by simp only [q_wind, c_4, c_16, c_28, c_38, not_true_eq_false, not_false_eq_true, if_true, if_false, Bool.true_eq_false, Bool.false_eq_true, reduceIte, reduceCtorEq]) rfl)
  · refine g_ldc2 (q := 10) dX7_wind_7 wd_1183 rfl ?_
    exact g_lret dX7_wind_10 (pl_i (by simp only [q_wind, c_4, not_true_eq_false, not_false_eq_true, if_true, if_false, Bool.true_eq_false, Bool.false_eq_true, reduceIte, reduceCtorEq]) (by simp only [q_wind, c_4, not_true_eq_false, not_false_eq_true, if_true, if_false, Bool.true_eq_false, Bool.false_eq_true, reduceIte, reduceCtorEq]) rfl)
