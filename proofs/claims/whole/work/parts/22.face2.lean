def stB (σ : Sto) : Bool := decide (0 < σ 7 0)
def empS (σ : Sto) : Sto := upc σ 5 (upd (σ 5) 2 0)
def m_house (σ : Sto) : Int32 × Sto := if (s_read σ).1 = false then (-1000100 - empS (s_read σ).2 5 4, upc (empS (s_read σ).2) 0 (upd (empS (s_read σ).2 0) 8 (empS (s_read σ).2 5 3))) else (upc (bec (empS (s_read σ).2) 7 17) 14 (upd (bec (empS (s_read σ).2) 7 17 14) 2 0) 7 7, upc (bec (empS (s_read σ).2) 7 17) 14 (upd (bec (empS (s_read σ).2) 7 17 14) 2 0))
def hS (σ : Sto) : Nat → Sto
  | 0 => σ
  | i + 1 => hrs (kp (hS σ i)) 7 1
theorem kp_ne (σ : Sto) {k : Nat} (h1 : k ≠ 14) (h2 : k ≠ 15) : kp σ k = σ k := by
  unfold kp
  split <;> rw [upc_ne h1, upc_ne h2]
theorem wfp_kp {σ : Sto} (w : WFP σ) : WFP (kp σ) := by
  unfold kp
  split
  · rename_i hc
    unfold WFP
    rw [upc_same, upd_same, upd_ne (by decide)]
    obtain ⟨e1, h1⟩ := vp_to w.1 (by decide)
    refine ⟨?_, w.2⟩
    have e2 : σ 14 1 + 1 = nI ((σ 14 1).toNatClampNeg + 1) := by rw [← nI_1, ← e1]
    rw [e2, show (24 : Int32) = nI 24 from rfl, pk_rem (by omega) (by decide) (by decide)]
    exact vp_in_nI (Nat.mod_lt _ (by decide)) (by decide)
  · rename_i hc
    unfold WFP
    rw [upc_same, upd_same, upd_ne (by decide)]
    obtain ⟨e1, h1⟩ := vp_to w.2 (by decide)
    refine ⟨w.1, ?_⟩
    rw [e1] at hc ⊢
    rw [nI_1]
    refine vp_in_nI ?_ (by decide)
    rcases Nat.lt_or_ge ((σ 14 2).toNatClampNeg) 24 with q | q
    · omega
    · exact absurd (by rw [show (24 : Int32) = nI 24 from rfl]; exact nI_le q (by omega)) hc
theorem wfh_7 {σ a : Sto} (h : ∀ k, 7 ≤ k → k ≤ 11 → a k = σ k) (w : WFH σ 7) : WFH a 7 := by
  unfold WFH
  rw [h 7 (by omega) (by omega), h (7 + 1) (by omega) (by omega), h (7 + 2) (by omega) (by omega), h (7 + 3) (by omega) (by omega), h (7 + 4) (by omega) (by omega)]
  exact w
theorem wfh_kp {σ : Sto} (w : WFH σ 7) : WFH (kp σ) 7 := wfh_7 (fun k h1 h2 => kp_ne σ (by omega) (by omega)) w
theorem hS_ok {σ : Sto} (w : WFH σ 7) (wp : WFP σ) (i : Nat) : WFH (hS σ i) 7 ∧ WFP (hS σ i) := by
  induction i with
  | zero => exact ⟨w, wp⟩
  | succ i ih =>
    refine ⟨wfh_mk (wfh_kp ih.1), ?_⟩
    have := wfp_kp ih.2
    unfold WFP at this ⊢
    show vp_in (hrs (kp (hS σ i)) 7 1 14 1) 24 ∧ vp_in (hrs (kp (hS σ i)) 7 1 14 2) 25
    unfold hrs
    rw [mk_o _ _ _ _ 14 (by decide) (by decide)]
    exact this
def m_hours (σ : Sto) (n : Int32) : Int32 × Sto := if stB σ = false then (-1000002, σ) else if wi n 1 24 = false then (-1000001, σ) else if σ 7 4 + n ≤ 999 then (s_ac (hS σ (n.toNatClampNeg) (7 + 6)) ((hS σ (n.toNatClampNeg) 7 0).toNatClampNeg), hS σ (n.toNatClampNeg)) else (-1000003, σ)
def opB (σ : Sto) (d : Int32) : Bool := !((σ 7 6 >>> (d &&& 31)) &&& 1 == 0)
def drS (σ : Sto) (d : Int32) : Sto := upc (kp σ) 7 (upd (kp σ 7) 6 (kp σ 7 6 ^^^ (1 <<< (d &&& 31))))
def m_door (σ : Sto) (d o : Int32) : Int32 × Sto := if s_lt d (σ 7 5) = false then (-1000001, σ) else if wi o 0 1 = false then (-1000001, σ) else if o = 1 then (if bI (opB σ d) = 1 then (-1000002, σ) else (drS σ d 7 6, drS σ d)) else (if bI (opB σ d) = 0 then (-1000002, σ) else (drS σ d 7 6, drS σ d))
def m_sit (σ : Sto) (s r : Int32) : Int32 × Sto := if s_lt s (σ 7 7) = false then (-1000001, σ) else if s_lt r (σ 7 0) = false then (-1000001, σ) else if σ (7 + 4) (s.toNatClampNeg) = r then (-1000002, σ) else (σ (7 + 4) (s.toNatClampNeg), upc (kp σ) (7 + 4) (upd (kp σ (7 + 4)) (s.toNatClampNeg) r))
def m_room (σ : Sto) (r w : Int32) : Int32 × Sto := if stB σ = false then (-1000002, σ) else if s_lt r (σ 7 0) = false then (-1000001, σ) else if w = 0 then (σ (7 + 6) (r.toNatClampNeg), σ) else if w = 1 then (s_si (σ (7 + 4)) r ((σ 7 7).toNatClampNeg), σ) else if w = 2 then ((s_rw 14 (σ (7 + 3)) (σ (7 + 4)) ((σ 7 7).toNatClampNeg) >>> (r &&& 31)) &&& 1, σ) else if w = 3 then ((s_rw 4 (σ (7 + 3)) (σ (7 + 4)) ((σ 7 7).toNatClampNeg) >>> (r &&& 31)) &&& 1, σ) else if w = 4 then (s_do (σ (7 + 1)) (σ (7 + 2)) r ((σ 7 5).toNatClampNeg), σ) else (-1000001, σ)
def m_doorHas (σ : Sto) (d w : Int32) : Int32 × Sto := if s_lt d (σ 7 5) = false then (-1000001, σ) else if w = 0 then (σ (7 + 1) (d.toNatClampNeg), σ) else if w = 1 then (σ (7 + 2) (d.toNatClampNeg), σ) else if w = 2 then (bI (opB σ d), σ) else (-1000001, σ)
def m_sitter (σ : Sto) (s w : Int32) : Int32 × Sto := if s_lt s (σ 7 7) = false then (-1000001, σ) else if w = 0 then (σ (7 + 4) (s.toNatClampNeg), σ) else if w = 1 then (σ (7 + 5) (s.toNatClampNeg), σ) else if w = 2 then (bI (decide (σ 7 3 < σ (7 + 6) ((σ (7 + 4) (s.toNatClampNeg)).toNatClampNeg))), σ) else (-1000001, σ)
def m_kind (σ : Sto) (s : Int32) : Int32 × Sto := if s_lt s (σ 7 7) = false then (-1000001, σ) else (σ (7 + 3) (s.toNatClampNeg), σ)
def m_as (σ : Sto) (s k : Int32) : Int32 × Sto := if s_lt s (σ 7 7) = false then (-1000001, σ) else if wi k 0 5 = false then (-1000001, σ) else if s_isA (σ (7 + 3) (s.toNatClampNeg)) k = false then (-1000010 - 3, fnd σ 3) else (s, fnd σ 0)
def stA (σ : Sto) : Sto := upc σ 24 (upd (σ 24) 1 0)
def m_ask (σ : Sto) (s w : Int32) : Int32 × Sto := if s_lt s (σ 7 7) = false then (-1000001, σ) else if wi w 0 1 = false then (-1000001, σ) else if w = 0 then (vSize (σ (7 + 3) (s.toNatClampNeg)) s (σ (7 + 4) (s.toNatClampNeg)) (σ (7 + 5) (s.toNatClampNeg)), bgs (stA σ) (tSize (σ (7 + 3) (s.toNatClampNeg)))) else (vMark (σ (7 + 3) (s.toNatClampNeg)) s (σ (7 + 4) (s.toNatClampNeg)) (σ (7 + 5) (s.toNatClampNeg)), bgs (stA σ) (tMark (σ (7 + 3) (s.toNatClampNeg))))
def m_trace (σ : Sto) (i : Int32) : Int32 × Sto := (if i < 0 then -1000000 else if σ 24 1 ≤ i then -1000000 else σ 25 (i.toNatClampNeg), σ)
def m_count (σ : Sto) (w : Int32) : Int32 × Sto := if w = 0 then (s_count (σ 4) 8, σ) else if w = 1 then (σ 7 0, σ) else if w = 2 then (σ 7 5, σ) else if w = 3 then (σ 7 7, σ) else if w = 4 then (σ 7 4, σ) else if w = 5 then (s_ac (σ (7 + 6)) ((σ 7 0).toNatClampNeg), σ) else if w = 6 then (σ 7 6, σ) else if w = 7 then (σ 14 2, σ) else if w = 8 then (σ 5 2, σ) else (-1000001, σ)
def m_image (σ : Sto) (k : Int32) : Int32 × Sto := if wi k 0 1 = false then (-1000001, σ) else if stB σ = false then (-1000002, σ) else (1, bec σ (if k = 0 then 26 else 33) 7)
def m_restore (σ : Sto) (k : Int32) : Int32 × Sto := if wi k 0 1 = false then (-1000001, σ) else if decide (0 < σ (if k = 0 then 26 else 33) 0) = false then (-1000002, σ) else (1, upc (bec σ 7 (if k = 0 then 26 else 33)) 14 (upd (bec σ 7 (if k = 0 then 26 else 33) 14) 2 0))
def m_guest (σ : Sto) (r : Int32) : Int32 × Sto := if stB σ = false then (-1000002, σ) else if s_lt r (σ 7 0) = false then (-1000001, σ) else (s_rl (σ 7 6) (σ (7 + 1)) (σ (7 + 2)) ((σ 7 5).toNatClampNeg) r ((σ 7 0).toNatClampNeg - 1), σ)
theorem wi01 {k : Int32} (h : wi k 0 1 = true) : k = 0 ∨ k = 1 := by
  have h2 := wi_in (N := 2) h (by decide) (by decide)
  obtain ⟨e, hl⟩ := vp_to h2 (by decide)
  rw [e]
  rcases (show k.toNatClampNeg = 0 ∨ k.toNatClampNeg = 1 by omega) with q | q <;> rw [q]
  · exact Or.inl rfl
  · exact Or.inr rfl
set_option maxRecDepth 20000 in
set_option maxHeartbeats 4000000 in
theorem c_X6_house {E : EE} (hE : inj E 0 40) {σ : Sto} {τ : Stl}  (h : vp_in (σ 5 2) 121) : Ct E 0 40 yX6_house cX6_house 3 (some FieldType.int) { frames := 5, cells := 0, slots := 0, locals := 114 } [.ref (E.2.1 0)] σ τ (Pi ((m_house σ ).1) ((m_house σ ).2) (τ)) := by
  refine ct_of hE RX6 [some (.ref (E.2.1 0)), none, none] (by decide) rfl (Nat.le_of_ble_eq_true rfl) rfl (fun X => ?_)
  refine g_aload_n (q := 1) dX6_house_0 rfl rfl ?_
  refine f6_4 (q := 4) wd_270 dX6_house_1 rfl ?_
  refine f4_0 (q := 7) wd_235 dX6_house_4 rfl ?_
  refine g_astore_n (j := 1) (q := 8) dX6_house_7 rfl (by decide) rfl rfl ?_
  refine g_aload_n (q := 9) dX6_house_8 rfl rfl ?_
  refine f6_1 (q := 12) wd_267 dX6_house_9 rfl ?_
  refine g_aload_n (q := 13) dX6_house_12 rfl rfl ?_
  refine g_callVi (q := 16) (c_X5_readInto hE h) lk_RX6_109 (by decide) (by decide) rfl (by decide) rfl rfl rfl rfl rfl rfl (Nat.le_of_ble_eq_true rfl) (Nat.le_of_ble_eq_true rfl) (Nat.le_of_ble_eq_true rfl) dX6_house_13 rfl ?_
  refine g_istore_n (j := 2) (q := 17) dX6_house_16 rfl (by decide) rfl rfl ?_
  refine g_aload_n (q := 18) dX6_house_17 rfl rfl ?_
  refine f6_1 (q := 21) wd_267 dX6_house_18 rfl ?_
  refine g_callVv (q := 24) (c_X5_empty hE ) lk_RX6_113 (by decide) (by decide) rfl (by decide) rfl rfl rfl rfl rfl rfl (Nat.le_of_ble_eq_true rfl) (Nat.le_of_ble_eq_true rfl) (Nat.le_of_ble_eq_true rfl) dX6_house_21 rfl ?_
  refine g_sg (σ' := empS (s_read σ).2) rfl ?_
  refine g_iload_n (q := 25) dX6_house_24 rfl rfl ?_
  refine g_if_ne (t := 50) (q := 28) dX6_house_25 (by decide) rfl (fun c_25 => ?_) (fun c_25 => ?_)
  · rw [bI_n0] at c_25
    refine g_aload_n (q := 51) dX6_house_50 rfl rfl ?_
    refine f6_2 (q := 54) wd_268 dX6_house_51 rfl ?_
    refine g_aload_n (q := 55) dX6_house_54 rfl rfl ?_
    refine g_callVv (q := 58) (c_X1_become hE rfl rfl (by decide)) lk_RX6_127 (Nat.zero_le _) (h_lt rfl) rfl (by decide) rfl rfl rfl rfl rfl rfl (Nat.le_of_ble_eq_true rfl) (Nat.le_of_ble_eq_true rfl) (Nat.le_of_ble_eq_true rfl) dX6_house_55 rfl ?_
    refine g_aload_n (q := 59) dX6_house_58 rfl rfl ?_
    refine f6_3 (q := 62) wd_269 dX6_house_59 rfl ?_
    refine g_callVv (q := 65) (c_X2_forget hE ) lk_RX6_131 (by decide) (by decide) rfl (by decide) rfl rfl rfl rfl rfl rfl (Nat.le_of_ble_eq_true rfl) (Nat.le_of_ble_eq_true rfl) (Nat.le_of_ble_eq_true rfl) dX6_house_62 rfl ?_
    refine g_aload_n (q := 66) dX6_house_65 rfl rfl ?_
    refine f6_2 (q := 69) wd_268 dX6_house_66 rfl ?_
    refine f1_7 (q := 72) rfl wd_158 dX6_house_69 rfl ?_
    exact g_iret dX6_house_72 (pi_i (by simp only [m_house, c_25, not_true_eq_false, not_false_eq_true, if_true, if_false, Bool.true_eq_false, Bool.false_eq_true, reduceIte, reduceCtorEq, upc_same, upc_ne (show (5 : Nat) ≠ 0 by decide)]) (by simp only [m_house, c_25, not_true_eq_false, not_false_eq_true, if_true, if_false, Bool.true_eq_false, Bool.false_eq_true, reduceIte, reduceCtorEq, upc_same, upc_ne (show (5 : Nat) ≠ 0 by decide)]) rfl)
  · rw [bI_0] at c_25
    refine g_aload_n (q := 29) dX6_house_28 rfl rfl ?_
    refine g_aload_n (q := 30) dX6_house_29 rfl rfl ?_
    refine f6_1 (q := 33) wd_267 dX6_house_30 rfl ?_
    refine f5_3 (q := 36) wd_117 dX6_house_33 rfl ?_
    refine p6_8 (q := 39) wd_274 dX6_house_36 rfl ?_
    refine g_ldc (q := 41) dX6_house_39 wd_447 rfl ?_
    refine g_aload_n (q := 42) dX6_house_41 rfl rfl ?_
    refine f6_1 (q := 45) wd_267 dX6_house_42 rfl ?_
    refine f5_4 (q := 48) wd_119 dX6_house_45 rfl ?_
    refine g_isub (q := 49) dX6_house_48 rfl ?_
    exact g_iret dX6_house_49 (pi_i (by simp only [m_house, c_25, not_true_eq_false, not_false_eq_true, if_true, if_false, Bool.true_eq_false, Bool.false_eq_true, reduceIte, reduceCtorEq, upc_same, upc_ne (show (5 : Nat) ≠ 0 by decide)]) (by simp only [m_house, c_25, not_true_eq_false, not_false_eq_true, if_true, if_false, Bool.true_eq_false, Bool.false_eq_true, reduceIte, reduceCtorEq, upc_same, upc_ne (show (5 : Nat) ≠ 0 by decide)]) rfl)
set_option maxRecDepth 20000 in
set_option maxHeartbeats 4000000 in
theorem c_X6_hours {E : EE} (hE : inj E 0 40) {σ : Sto} {τ : Stl} {n : Int32} (w : WFH σ 7) (wp : WFP σ) : Ct E 0 40 yX6_hours cX6_hours 3 (some FieldType.int) { frames := 4, cells := 0, slots := 0, locals := 94 } [.ref (E.2.1 0), .int n] σ τ (Pi ((m_hours σ n).1) ((m_hours σ n).2) (τ)) := by
  refine ct_of hE RX6 [some (.ref (E.2.1 0)), some (.int n), none] (by decide) rfl (Nat.le_of_ble_eq_true rfl) rfl (fun X => ?_)
  refine g_aload_n (q := 1) dX6_hours_0 rfl rfl ?_
  refine f6_2 (q := 4) wd_268 dX6_hours_1 rfl ?_
  refine g_callVi (q := 7) (c_X1_stands hE rfl) lk_RX6_144 (Nat.zero_le _) (h_lt rfl) rfl (by decide) rfl rfl rfl rfl rfl rfl (Nat.le_of_ble_eq_true rfl) (Nat.le_of_ble_eq_true rfl) (Nat.le_of_ble_eq_true rfl) dX6_hours_4 rfl ?_
  refine g_if_ne (t := 13) (q := 10) dX6_hours_7 (by decide) rfl (fun c_7 => ?_) (fun c_7 => ?_)
  · rw [bI_n0] at c_7
    rw [← stB] at c_7
    refine g_iload_n (q := 14) dX6_hours_13 rfl rfl ?_
    refine g_iconst (q := 15) dX6_hours_14 ci_1 rfl ?_
    refine g_bipush (q := 17) dX6_hours_15 cb_24 rfl ?_
    refine g_callSi (q := 20) (c_X6_within hE ) lk_RX6_61 rfl rfl rfl rfl (Nat.le_of_ble_eq_true rfl) (Nat.le_of_ble_eq_true rfl) (Nat.le_of_ble_eq_true rfl) dX6_hours_17 rfl ?_
    refine g_if_ne (t := 26) (q := 23) dX6_hours_20 (by decide) rfl (fun c_20 => ?_) (fun c_20 => ?_)
    · rw [bI_n0] at c_20
      refine g_aload_n (q := 27) dX6_hours_26 rfl rfl ?_
      refine f6_2 (q := 30) wd_268 dX6_hours_27 rfl ?_
      refine f1_4 (q := 33) rfl wd_149 dX6_hours_30 rfl ?_
      refine g_iload_n (q := 34) dX6_hours_33 rfl rfl ?_
      refine g_iadd (q := 35) dX6_hours_34 rfl ?_
      refine g_sipush (q := 38) dX6_hours_35 cs_999 rfl ?_
      refine g_icmp_le (t := 44) (q := 41) dX6_hours_38 (by decide) rfl (fun c_38 => ?_) (fun c_38 => ?_)
      · obtain ⟨en, bn⟩ := vp_to (wi_in (N := 25) c_20 (by decide) (by decide)) (by decide)
        refine g_iconst (q := 45) dX6_hours_44 ci_0 rfl ?_
        refine g_istore_n (j := 2) (q := 46) dX6_hours_45 rfl (by decide) rfl rfl ?_
        refine g_for (I := fun i => [some (.ref (E.2.1 0)), some (.int n), some (.int (nI i))]) (S := fun i => hS σ i) (T := fun i => τ) (0) (n.toNatClampNeg) (Nat.zero_le _) (by rfl) (by rfl) (by rfl) (fun i i0 i1 kk_i => ?_) ?_
        · have hci : (nI i).toNatClampNeg = i := nI_clamp (by omega)
          refine g_iload_n (q := 47) dX6_hours_46 rfl rfl ?_
          refine g_iload_n (q := 48) dX6_hours_47 rfl rfl ?_
          refine g_icmp_ge (t := 75) (q := 51) dX6_hours_48 (by decide) rfl (fun c_48 => ?_) (fun c_48 => ?_)
          · exact absurd c_48 (lp_in (by exact en) (by omega) i1)
          · refine g_aload_n (q := 52) dX6_hours_51 rfl rfl ?_
            refine f6_3 (q := 55) wd_269 dX6_hours_52 rfl ?_
            refine g_aload_n (q := 56) dX6_hours_55 rfl rfl ?_
            refine f6_2 (q := 59) wd_268 dX6_hours_56 rfl ?_
            refine g_callVv (q := 62) (c_X2_keep hE (hS_ok w wp i).2) lk_RX6_150 (by decide) (by decide) rfl (by decide) rfl rfl rfl rfl rfl rfl (Nat.le_of_ble_eq_true rfl) (Nat.le_of_ble_eq_true rfl) (Nat.le_of_ble_eq_true rfl) dX6_hours_59 rfl ?_
            refine g_aload_n (q := 63) dX6_hours_62 rfl rfl ?_
            refine f6_2 (q := 66) wd_268 dX6_hours_63 rfl ?_
            refine g_callVv (q := 69) (c_X1_passHour hE rfl (wfh_kp (hS_ok w wp i).1)) lk_RX6_153 (Nat.zero_le _) (h_lt rfl) rfl (by decide) rfl rfl rfl rfl rfl rfl (Nat.le_of_ble_eq_true rfl) (Nat.le_of_ble_eq_true rfl) (Nat.le_of_ble_eq_true rfl) dX6_hours_66 rfl ?_
            refine g_iinc (q := 72) dX6_hours_69 rfl ci_1 (by decide) rfl rfl ?_
            refine g_goto (t := 46) dX6_hours_72 (by decide) ?_
            exact g_eqw kk_i (by simp [lsub, nI_succ]) rfl rfl
        · refine g_iload_n (q := 47) dX6_hours_46 rfl rfl ?_
          refine g_iload_n (q := 48) dX6_hours_47 rfl rfl ?_
          refine g_icmp_ge (t := 75) (q := 51) dX6_hours_48 (by decide) rfl (fun c_48 => ?_) (fun c_48 => ?_)
          · refine g_aload_n (q := 76) dX6_hours_75 rfl rfl ?_
            refine f6_2 (q := 79) wd_268 dX6_hours_76 rfl ?_
            refine g_callVi (q := 82) (c_X1_allCold hE rfl (hS_ok w wp _).1) lk_RX6_156 (Nat.zero_le _) (h_lt rfl) rfl (by decide) rfl rfl rfl rfl rfl rfl (Nat.le_of_ble_eq_true rfl) (Nat.le_of_ble_eq_true rfl) (Nat.le_of_ble_eq_true rfl) dX6_hours_79 rfl ?_
            exact g_iret dX6_hours_82 (pi_i (by simp only [m_hours, c_7, c_20, c_38, not_true_eq_false, not_false_eq_true, if_true, if_false, Bool.true_eq_false, Bool.false_eq_true, reduceIte, reduceCtorEq]) (by simp only [m_hours, c_7, c_20, c_38, not_true_eq_false, not_false_eq_true, if_true, if_false, Bool.true_eq_false, Bool.false_eq_true, reduceIte, reduceCtorEq]) rfl)
          · exact absurd (lp_out (by exact en)) c_48
      · refine g_ldc (q := 43) dX6_hours_41 wd_371 rfl ?_
        exact g_iret dX6_hours_43 (pi_i (by simp only [m_hours, c_7, c_20, c_38, not_true_eq_false, not_false_eq_true, if_true, if_false, Bool.true_eq_false, Bool.false_eq_true, reduceIte, reduceCtorEq]) (by simp only [m_hours, c_7, c_20, c_38, not_true_eq_false, not_false_eq_true, if_true, if_false, Bool.true_eq_false, Bool.false_eq_true, reduceIte, reduceCtorEq]) rfl)
    · rw [bI_0] at c_20
      refine g_ldc (q := 25) dX6_hours_23 wd_307 rfl ?_
      exact g_iret dX6_hours_25 (pi_i (by simp only [m_hours, c_7, c_20, not_true_eq_false, not_false_eq_true, if_true, if_false, Bool.true_eq_false, Bool.false_eq_true, reduceIte, reduceCtorEq]) (by simp only [m_hours, c_7, c_20, not_true_eq_false, not_false_eq_true, if_true, if_false, Bool.true_eq_false, Bool.false_eq_true, reduceIte, reduceCtorEq]) rfl)
  · rw [bI_0] at c_7
    rw [← stB] at c_7
    refine g_ldc (q := 12) dX6_hours_10 wd_465 rfl ?_
    exact g_iret dX6_hours_12 (pi_i (by simp only [m_hours, c_7, not_true_eq_false, not_false_eq_true, if_true, if_false, Bool.true_eq_false, Bool.false_eq_true, reduceIte, reduceCtorEq]) (by simp only [m_hours, c_7, not_true_eq_false, not_false_eq_true, if_true, if_false, Bool.true_eq_false, Bool.false_eq_true, reduceIte, reduceCtorEq]) rfl)
set_option maxRecDepth 20000 in
set_option maxHeartbeats 4000000 in
theorem c_X6_door {E : EE} (hE : inj E 0 40) {σ : Sto} {τ : Stl} {d o : Int32} (w : WFH σ 7) (wp : WFP σ) : Ct E 0 40 yX6_door cX6_door 3 (some FieldType.int) { frames := 2, cells := 0, slots := 0, locals := 48 } [.ref (E.2.1 0), .int d, .int o] σ τ (Pi ((m_door σ d o).1) ((m_door σ d o).2) (τ)) := by
  refine ct_of hE RX6 [some (.ref (E.2.1 0)), some (.int d), some (.int o)] (by decide) rfl (Nat.le_of_ble_eq_true rfl) rfl (fun X => ?_)
  refine g_aload_n (q := 1) dX6_door_0 rfl rfl ?_
  refine f6_2 (q := 4) wd_268 dX6_door_1 rfl ?_
  refine g_iload_n (q := 5) dX6_door_4 rfl rfl ?_
  refine g_callVi (q := 8) (c_X1_hasDoor hE rfl) lk_RX6_160 (Nat.zero_le _) (h_lt rfl) rfl (by decide) rfl rfl rfl rfl rfl rfl (Nat.le_of_ble_eq_true rfl) (Nat.le_of_ble_eq_true rfl) (Nat.le_of_ble_eq_true rfl) dX6_door_5 rfl ?_
  refine g_if_eq (t := 20) (q := 11) dX6_door_8 (by decide) rfl (fun c_8 => ?_) (fun c_8 => ?_)
  · rw [bI_0] at c_8
    refine g_ldc (q := 22) dX6_door_20 wd_307 rfl ?_
    exact g_iret dX6_door_22 (pi_i (by simp only [m_door, c_8, not_true_eq_false, not_false_eq_true, if_true, if_false, Bool.true_eq_false, Bool.false_eq_true, reduceIte, reduceCtorEq]) (by simp only [m_door, c_8, not_true_eq_false, not_false_eq_true, if_true, if_false, Bool.true_eq_false, Bool.false_eq_true, reduceIte, reduceCtorEq]) rfl)
  · rw [bI_n0] at c_8
    refine g_iload_n (q := 12) dX6_door_11 rfl rfl ?_
    refine g_iconst (q := 13) dX6_door_12 ci_0 rfl ?_
    refine g_iconst (q := 14) dX6_door_13 ci_1 rfl ?_
    refine g_callSi (q := 17) (c_X6_within hE ) lk_RX6_61 rfl rfl rfl rfl (Nat.le_of_ble_eq_true rfl) (Nat.le_of_ble_eq_true rfl) (Nat.le_of_ble_eq_true rfl) dX6_door_14 rfl ?_
    refine g_if_ne (t := 23) (q := 20) dX6_door_17 (by decide) rfl (fun c_17 => ?_) (fun c_17 => ?_)
    · rw [bI_n0] at c_17
      refine g_aload_n (q := 24) dX6_door_23 rfl rfl ?_
      refine f6_2 (q := 27) wd_268 dX6_door_24 rfl ?_
      refine g_iload_n (q := 28) dX6_door_27 rfl rfl ?_
      refine g_callVi (q := 31) (c_X1_isOpen hE rfl) lk_RX6_163 (Nat.zero_le _) (h_lt rfl) rfl (by decide) rfl rfl rfl rfl rfl rfl (Nat.le_of_ble_eq_true rfl) (Nat.le_of_ble_eq_true rfl) (Nat.le_of_ble_eq_true rfl) dX6_door_28 rfl ?_
      refine g_iload_n (q := 32) dX6_door_31 rfl rfl ?_
      refine g_iconst (q := 33) dX6_door_32 ci_1 rfl ?_
      refine g_icmp_ne (t := 40) (q := 36) dX6_door_33 (by decide) rfl (fun c_33 => ?_) (fun c_33 => ?_)
      · refine g_iconst (q := 41) dX6_door_40 ci_0 rfl ?_
        refine g_icmp_ne (t := 47) (q := 44) dX6_door_41 (by decide) rfl (fun c_41 => ?_) (fun c_41 => ?_)
        · refine g_aload_n (q := 48) dX6_door_47 rfl rfl ?_
          refine f6_3 (q := 51) wd_269 dX6_door_48 rfl ?_
          refine g_aload_n (q := 52) dX6_door_51 rfl rfl ?_
          refine f6_2 (q := 55) wd_268 dX6_door_52 rfl ?_
          refine g_callVv (q := 58) (c_X2_keep hE wp) lk_RX6_150 (by decide) (by decide) rfl (by decide) rfl rfl rfl rfl rfl rfl (Nat.le_of_ble_eq_true rfl) (Nat.le_of_ble_eq_true rfl) (Nat.le_of_ble_eq_true rfl) dX6_door_55 rfl ?_
          refine g_aload_n (q := 59) dX6_door_58 rfl rfl ?_
          refine f6_2 (q := 62) wd_268 dX6_door_59 rfl ?_
          refine g_iconst (q := 63) dX6_door_62 ci_1 rfl ?_
          refine g_iload_n (q := 64) dX6_door_63 rfl rfl ?_
          refine g_ishl (q := 65) dX6_door_64 rfl ?_
          refine g_callVv (q := 68) (c_X1_moveDoors hE rfl) lk_RX6_166 (Nat.zero_le _) (h_lt rfl) rfl (by decide) rfl rfl rfl rfl rfl rfl (Nat.le_of_ble_eq_true rfl) (Nat.le_of_ble_eq_true rfl) (Nat.le_of_ble_eq_true rfl) dX6_door_65 rfl ?_
          refine g_aload_n (q := 69) dX6_door_68 rfl rfl ?_
          refine f6_2 (q := 72) wd_268 dX6_door_69 rfl ?_
          refine f1_6 (q := 75) rfl wd_155 dX6_door_72 rfl ?_
          exact g_iret dX6_door_75 (pi_i (by simp only [m_door, drS, opB, c_8, c_17, c_33, c_41, not_true_eq_false, not_false_eq_true, if_true, if_false, Bool.true_eq_false, Bool.false_eq_true, reduceIte, reduceCtorEq, show ((0 : Int32) = 1) = False from by decide, show wi 1 0 1 = true from by decide]) (by simp only [m_door, drS, opB, c_8, c_17, c_33, c_41, not_true_eq_false, not_false_eq_true, if_true, if_false, Bool.true_eq_false, Bool.false_eq_true, reduceIte, reduceCtorEq, show ((0 : Int32) = 1) = False from by decide, show wi 1 0 1 = true from by decide]) rfl)
        · refine g_ldc (q := 46) dX6_door_44 wd_465 rfl ?_
          exact g_iret dX6_door_46 (pi_i (by simp only [m_door, drS, opB, c_8, c_17, c_33, c_41, not_true_eq_false, not_false_eq_true, if_true, if_false, Bool.true_eq_false, Bool.false_eq_true, reduceIte, reduceCtorEq, show ((0 : Int32) = 1) = False from by decide, show wi 1 0 1 = true from by decide]) (by simp only [m_door, drS, opB, c_8, c_17, c_33, c_41, not_true_eq_false, not_false_eq_true, if_true, if_false, Bool.true_eq_false, Bool.false_eq_true, reduceIte, reduceCtorEq, show ((0 : Int32) = 1) = False from by decide, show wi 1 0 1 = true from by decide]) rfl)
      · refine g_iconst (q := 37) dX6_door_36 ci_1 rfl ?_
        refine g_goto (t := 41) dX6_door_37 (by decide) ?_
        refine g_icmp_ne (t := 47) (q := 44) dX6_door_41 (by decide) rfl (fun c_41 => ?_) (fun c_41 => ?_)
        · refine g_aload_n (q := 48) dX6_door_47 rfl rfl ?_
          refine f6_3 (q := 51) wd_269 dX6_door_48 rfl ?_
          refine g_aload_n (q := 52) dX6_door_51 rfl rfl ?_
          refine f6_2 (q := 55) wd_268 dX6_door_52 rfl ?_
          refine g_callVv (q := 58) (c_X2_keep hE wp) lk_RX6_150 (by decide) (by decide) rfl (by decide) rfl rfl rfl rfl rfl rfl (Nat.le_of_ble_eq_true rfl) (Nat.le_of_ble_eq_true rfl) (Nat.le_of_ble_eq_true rfl) dX6_door_55 rfl ?_
          refine g_aload_n (q := 59) dX6_door_58 rfl rfl ?_
          refine f6_2 (q := 62) wd_268 dX6_door_59 rfl ?_
          refine g_iconst (q := 63) dX6_door_62 ci_1 rfl ?_
          refine g_iload_n (q := 64) dX6_door_63 rfl rfl ?_
          refine g_ishl (q := 65) dX6_door_64 rfl ?_
          refine g_callVv (q := 68) (c_X1_moveDoors hE rfl) lk_RX6_166 (Nat.zero_le _) (h_lt rfl) rfl (by decide) rfl rfl rfl rfl rfl rfl (Nat.le_of_ble_eq_true rfl) (Nat.le_of_ble_eq_true rfl) (Nat.le_of_ble_eq_true rfl) dX6_door_65 rfl ?_
          refine g_aload_n (q := 69) dX6_door_68 rfl rfl ?_
          refine f6_2 (q := 72) wd_268 dX6_door_69 rfl ?_
          refine f1_6 (q := 75) rfl wd_155 dX6_door_72 rfl ?_
          exact g_iret dX6_door_75 (pi_i (by simp only [m_door, drS, opB, c_8, c_17, c_33, c_41, not_true_eq_false, not_false_eq_true, if_true, if_false, Bool.true_eq_false, Bool.false_eq_true, reduceIte, reduceCtorEq, show ((0 : Int32) = 1) = False from by decide, show wi 1 0 1 = true from by decide]) (by simp only [m_door, drS, opB, c_8, c_17, c_33, c_41, not_true_eq_false, not_false_eq_true, if_true, if_false, Bool.true_eq_false, Bool.false_eq_true, reduceIte, reduceCtorEq, show ((0 : Int32) = 1) = False from by decide, show wi 1 0 1 = true from by decide]) rfl)
        · refine g_ldc (q := 46) dX6_door_44 wd_465 rfl ?_
          exact g_iret dX6_door_46 (pi_i (by simp only [m_door, drS, opB, c_8, c_17, c_33, c_41, not_true_eq_false, not_false_eq_true, if_true, if_false, Bool.true_eq_false, Bool.false_eq_true, reduceIte, reduceCtorEq, show ((0 : Int32) = 1) = False from by decide, show wi 1 0 1 = true from by decide]) (by simp only [m_door, drS, opB, c_8, c_17, c_33, c_41, not_true_eq_false, not_false_eq_true, if_true, if_false, Bool.true_eq_false, Bool.false_eq_true, reduceIte, reduceCtorEq, show ((0 : Int32) = 1) = False from by decide, show wi 1 0 1 = true from by decide]) rfl)
    · rw [bI_0] at c_17
      refine g_ldc (q := 22) dX6_door_20 wd_307 rfl ?_
      exact g_iret dX6_door_22 (pi_i (by simp only [m_door, c_8, c_17, not_true_eq_false, not_false_eq_true, if_true, if_false, Bool.true_eq_false, Bool.false_eq_true, reduceIte, reduceCtorEq]) (by simp only [m_door, c_8, c_17, not_true_eq_false, not_false_eq_true, if_true, if_false, Bool.true_eq_false, Bool.false_eq_true, reduceIte, reduceCtorEq]) rfl)
set_option maxRecDepth 20000 in
set_option maxHeartbeats 4000000 in
theorem c_X6_sit {E : EE} (hE : inj E 0 40) {σ : Sto} {τ : Stl} {s r : Int32} (w : WFH σ 7) (wp : WFP σ) : Ct E 0 40 yX6_sit cX6_sit 4 (some FieldType.int) { frames := 2, cells := 0, slots := 0, locals := 48 } [.ref (E.2.1 0), .int s, .int r] σ τ (Pi ((m_sit σ s r).1) ((m_sit σ s r).2) (τ)) := by
  refine ct_of hE RX6 [some (.ref (E.2.1 0)), some (.int s), some (.int r), none] (by decide) rfl (Nat.le_of_ble_eq_true rfl) rfl (fun X => ?_)
  refine g_aload_n (q := 1) dX6_sit_0 rfl rfl ?_
  refine f6_2 (q := 4) wd_268 dX6_sit_1 rfl ?_
  refine g_iload_n (q := 5) dX6_sit_4 rfl rfl ?_
  refine g_callVi (q := 8) (c_X1_hasSitter hE rfl) lk_RX6_173 (Nat.zero_le _) (h_lt rfl) rfl (by decide) rfl rfl rfl rfl rfl rfl (Nat.le_of_ble_eq_true rfl) (Nat.le_of_ble_eq_true rfl) (Nat.le_of_ble_eq_true rfl) dX6_sit_5 rfl ?_
  refine g_if_eq (t := 22) (q := 11) dX6_sit_8 (by decide) rfl (fun c_8 => ?_) (fun c_8 => ?_)
  · rw [bI_0] at c_8
    refine g_ldc (q := 24) dX6_sit_22 wd_307 rfl ?_
    exact g_iret dX6_sit_24 (pi_i (by simp only [m_sit, c_8, not_true_eq_false, not_false_eq_true, if_true, if_false, Bool.true_eq_false, Bool.false_eq_true, reduceIte, reduceCtorEq]) (by simp only [m_sit, c_8, not_true_eq_false, not_false_eq_true, if_true, if_false, Bool.true_eq_false, Bool.false_eq_true, reduceIte, reduceCtorEq]) rfl)
  · rw [bI_n0] at c_8
    refine g_aload_n (q := 12) dX6_sit_11 rfl rfl ?_
    refine f6_2 (q := 15) wd_268 dX6_sit_12 rfl ?_
    refine g_iload_n (q := 16) dX6_sit_15 rfl rfl ?_
    refine g_callVi (q := 19) (c_X1_hasRoom hE rfl) lk_RX6_176 (Nat.zero_le _) (h_lt rfl) rfl (by decide) rfl rfl rfl rfl rfl rfl (Nat.le_of_ble_eq_true rfl) (Nat.le_of_ble_eq_true rfl) (Nat.le_of_ble_eq_true rfl) dX6_sit_16 rfl ?_
    refine g_if_ne (t := 25) (q := 22) dX6_sit_19 (by decide) rfl (fun c_19 => ?_) (fun c_19 => ?_)
    · rw [bI_n0] at c_19
      refine g_aload_n (q := 26) dX6_sit_25 rfl rfl ?_
      refine f6_2 (q := 29) wd_268 dX6_sit_26 rfl ?_
      refine f1_11 (q := 32) rfl wd_171 dX6_sit_29 rfl ?_
      refine g_iload_n (q := 33) dX6_sit_32 rfl rfl ?_
      refine g_aldH (q := 34) (c := 4) rfl (by decide) (by decide) (show vp_in _ 5 by exact sitter_in w c_8) dX6_sit_33 rfl ?_
      refine g_istore_n (j := 3) (q := 35) dX6_sit_34 rfl (by decide) rfl rfl ?_
      refine g_iload_n (q := 36) dX6_sit_35 rfl rfl ?_
      refine g_iload_n (q := 37) dX6_sit_36 rfl rfl ?_
      refine g_icmp_ne (t := 43) (q := 40) dX6_sit_37 (by decide) rfl (fun c_37 => ?_) (fun c_37 => ?_)
      · refine g_aload_n (q := 44) dX6_sit_43 rfl rfl ?_
        refine f6_3 (q := 47) wd_269 dX6_sit_44 rfl ?_
        refine g_aload_n (q := 48) dX6_sit_47 rfl rfl ?_
        refine f6_2 (q := 51) wd_268 dX6_sit_48 rfl ?_
        refine g_callVv (q := 54) (c_X2_keep hE wp) lk_RX6_150 (by decide) (by decide) rfl (by decide) rfl rfl rfl rfl rfl rfl (Nat.le_of_ble_eq_true rfl) (Nat.le_of_ble_eq_true rfl) (Nat.le_of_ble_eq_true rfl) dX6_sit_51 rfl ?_
        refine g_aload_n (q := 55) dX6_sit_54 rfl rfl ?_
        refine f6_2 (q := 58) wd_268 dX6_sit_55 rfl ?_
        refine f1_11 (q := 61) rfl wd_171 dX6_sit_58 rfl ?_
        refine g_iload_n (q := 62) dX6_sit_61 rfl rfl ?_
        refine g_iload_n (q := 63) dX6_sit_62 rfl rfl ?_
        refine g_astH (q := 64) (c := 4) rfl (by decide) (by decide) (show vp_in _ 5 by exact sitter_in w c_8) dX6_sit_63 rfl ?_
        refine g_iload_n (q := 65) dX6_sit_64 rfl rfl ?_
        exact g_iret dX6_sit_65 (pi_i (by simp only [m_sit, c_8, c_19, c_37, not_true_eq_false, not_false_eq_true, if_true, if_false, Bool.true_eq_false, Bool.false_eq_true, reduceIte, reduceCtorEq]) (by simp only [m_sit, c_8, c_19, c_37, not_true_eq_false, not_false_eq_true, if_true, if_false, Bool.true_eq_false, Bool.false_eq_true, reduceIte, reduceCtorEq]) rfl)
      · refine g_ldc (q := 42) dX6_sit_40 wd_465 rfl ?_
        exact g_iret dX6_sit_42 (pi_i (by simp only [m_sit, c_8, c_19, c_37, not_true_eq_false, not_false_eq_true, if_true, if_false, Bool.true_eq_false, Bool.false_eq_true, reduceIte, reduceCtorEq]) (by simp only [m_sit, c_8, c_19, c_37, not_true_eq_false, not_false_eq_true, if_true, if_false, Bool.true_eq_false, Bool.false_eq_true, reduceIte, reduceCtorEq]) rfl)
    · rw [bI_0] at c_19
      refine g_ldc (q := 24) dX6_sit_22 wd_307 rfl ?_
      exact g_iret dX6_sit_24 (pi_i (by simp only [m_sit, c_8, c_19, not_true_eq_false, not_false_eq_true, if_true, if_false, Bool.true_eq_false, Bool.false_eq_true, reduceIte, reduceCtorEq]) (by simp only [m_sit, c_8, c_19, not_true_eq_false, not_false_eq_true, if_true, if_false, Bool.true_eq_false, Bool.false_eq_true, reduceIte, reduceCtorEq]) rfl)
set_option maxRecDepth 20000 in
set_option maxHeartbeats 4000000 in
theorem c_X6_room {E : EE} (hE : inj E 0 40) {σ : Sto} {τ : Stl} {r u : Int32} (w : WFH σ 7) : Ct E 0 40 yX6_room cX6_room 3 (some FieldType.int) { frames := 1, cells := 0, slots := 0, locals := 23 } [.ref (E.2.1 0), .int r, .int u] σ τ (Pi ((m_room σ r u).1) ((m_room σ r u).2) (τ)) := by
  refine ct_of hE RX6 [some (.ref (E.2.1 0)), some (.int r), some (.int u)] (by decide) rfl (Nat.le_of_ble_eq_true rfl) rfl (fun X => ?_)
  refine g_aload_n (q := 1) dX6_room_0 rfl rfl ?_
  refine f6_2 (q := 4) wd_268 dX6_room_1 rfl ?_
  refine g_callVi (q := 7) (c_X1_stands hE rfl) lk_RX6_144 (Nat.zero_le _) (h_lt rfl) rfl (by decide) rfl rfl rfl rfl rfl rfl (Nat.le_of_ble_eq_true rfl) (Nat.le_of_ble_eq_true rfl) (Nat.le_of_ble_eq_true rfl) dX6_room_4 rfl ?_
  refine g_if_ne (t := 13) (q := 10) dX6_room_7 (by decide) rfl (fun c_7 => ?_) (fun c_7 => ?_)
  · rw [bI_n0] at c_7
    change stB σ = true at c_7
    refine g_aload_n (q := 14) dX6_room_13 rfl rfl ?_
    refine f6_2 (q := 17) wd_268 dX6_room_14 rfl ?_
    refine g_iload_n (q := 18) dX6_room_17 rfl rfl ?_
    refine g_callVi (q := 21) (c_X1_hasRoom hE rfl) lk_RX6_176 (Nat.zero_le _) (h_lt rfl) rfl (by decide) rfl rfl rfl rfl rfl rfl (Nat.le_of_ble_eq_true rfl) (Nat.le_of_ble_eq_true rfl) (Nat.le_of_ble_eq_true rfl) dX6_room_18 rfl ?_
    refine g_if_ne (t := 27) (q := 24) dX6_room_21 (by decide) rfl (fun c_21 => ?_) (fun c_21 => ?_)
    · rw [bI_n0] at c_21
      refine g_iload_n (q := 28) dX6_room_27 rfl rfl ?_
      rcases tab_0_4 _ with c_28 | c_28 | c_28 | c_28 | c_28 | c_28
      · refine g_tabOut (t := 119) dX6_room_28 c_28 (by decide) ?_
        refine g_ldc (q := 121) dX6_room_119 wd_307 rfl ?_
        exact g_iret dX6_room_121 (pi_i (by have n0 : ¬ u = 0 := (fun e => by rw [e] at c_28; exact absurd c_28 (by decide)); have n1 : ¬ u = 1 := (fun e => by rw [e] at c_28; exact absurd c_28 (by decide)); have n2 : ¬ u = 2 := (fun e => by rw [e] at c_28; exact absurd c_28 (by decide)); have n3 : ¬ u = 3 := (fun e => by rw [e] at c_28; exact absurd c_28 (by decide)); have n4 : ¬ u = 4 := (fun e => by rw [e] at c_28; exact absurd c_28 (by decide)); simp only [m_room, c_7, c_21, n0, n1, n2, n3, n4, not_true_eq_false, not_false_eq_true, if_true, if_false, Bool.true_eq_false, Bool.false_eq_true, reduceIte, reduceCtorEq]) (by have n0 : ¬ u = 0 := (fun e => by rw [e] at c_28; exact absurd c_28 (by decide)); have n1 : ¬ u = 1 := (fun e => by rw [e] at c_28; exact absurd c_28 (by decide)); have n2 : ¬ u = 2 := (fun e => by rw [e] at c_28; exact absurd c_28 (by decide)); have n3 : ¬ u = 3 := (fun e => by rw [e] at c_28; exact absurd c_28 (by decide)); have n4 : ¬ u = 4 := (fun e => by rw [e] at c_28; exact absurd c_28 (by decide)); simp only [m_room, c_7, c_21, n0, n1, n2, n3, n4, not_true_eq_false, not_false_eq_true, if_true, if_false, Bool.true_eq_false, Bool.false_eq_true, reduceIte, reduceCtorEq]) rfl)
      · refine g_tabV (t := 64) c_28 dX6_room_28 (by decide) (by decide) rfl (by decide) ?_
        refine g_aload_n (q := 65) dX6_room_64 rfl rfl ?_
        refine f6_2 (q := 68) wd_268 dX6_room_65 rfl ?_
        refine f1_13 (q := 71) rfl wd_179 dX6_room_68 rfl ?_
        refine g_iload_n (q := 72) dX6_room_71 rfl rfl ?_
        refine g_aldH (q := 73) (c := 6) rfl (by decide) (by decide) (show vp_in _ 6 by exact room_in w c_21) dX6_room_72 rfl ?_
        exact g_iret dX6_room_73 (pi_i (by simp only [m_room, c_7, c_21, c_28, show ((0 : Int32) = 1) = False from by decide, show ((0 : Int32) = 2) = False from by decide, show ((0 : Int32) = 3) = False from by decide, show ((0 : Int32) = 4) = False from by decide, not_true_eq_false, not_false_eq_true, if_true, if_false, Bool.true_eq_false, Bool.false_eq_true, reduceIte, reduceCtorEq]) (by simp only [m_room, c_7, c_21, c_28, show ((0 : Int32) = 1) = False from by decide, show ((0 : Int32) = 2) = False from by decide, show ((0 : Int32) = 3) = False from by decide, show ((0 : Int32) = 4) = False from by decide, not_true_eq_false, not_false_eq_true, if_true, if_false, Bool.true_eq_false, Bool.false_eq_true, reduceIte, reduceCtorEq]) rfl)
      · refine g_tabV (t := 74) c_28 dX6_room_28 (by decide) (by decide) rfl (by decide) ?_
        refine g_aload_n (q := 75) dX6_room_74 rfl rfl ?_
        refine f6_2 (q := 78) wd_268 dX6_room_75 rfl ?_
        refine g_iload_n (q := 79) dX6_room_78 rfl rfl ?_
        refine g_callVi (q := 82) (c_X1_sittersIn hE rfl (by exact w)) lk_RX6_186 (Nat.zero_le _) (h_lt rfl) rfl (by decide) rfl rfl rfl rfl rfl rfl (Nat.le_of_ble_eq_true rfl) (Nat.le_of_ble_eq_true rfl) (Nat.le_of_ble_eq_true rfl) dX6_room_79 rfl ?_
        exact g_iret dX6_room_82 (pi_i (by simp only [m_room, c_7, c_21, c_28, show ((1 : Int32) = 0) = False from by decide, show ((1 : Int32) = 2) = False from by decide, show ((1 : Int32) = 3) = False from by decide, show ((1 : Int32) = 4) = False from by decide, not_true_eq_false, not_false_eq_true, if_true, if_false, Bool.true_eq_false, Bool.false_eq_true, reduceIte, reduceCtorEq]) (by simp only [m_room, c_7, c_21, c_28, show ((1 : Int32) = 0) = False from by decide, show ((1 : Int32) = 2) = False from by decide, show ((1 : Int32) = 3) = False from by decide, show ((1 : Int32) = 4) = False from by decide, not_true_eq_false, not_false_eq_true, if_true, if_false, Bool.true_eq_false, Bool.false_eq_true, reduceIte, reduceCtorEq]) rfl)
      · refine g_tabV (t := 83) c_28 dX6_room_28 (by decide) (by decide) rfl (by decide) ?_
        refine g_aload_n (q := 84) dX6_room_83 rfl rfl ?_
        refine f6_2 (q := 87) wd_268 dX6_room_84 rfl ?_
        refine g_bipush (q := 89) dX6_room_87 cb_14 rfl ?_
        refine g_callVi (q := 92) (c_X1_roomsWith hE rfl (by exact w)) lk_RX6_189 (Nat.zero_le _) (h_lt rfl) rfl (by decide) rfl rfl rfl rfl rfl rfl (Nat.le_of_ble_eq_true rfl) (Nat.le_of_ble_eq_true rfl) (Nat.le_of_ble_eq_true rfl) dX6_room_89 rfl ?_
        refine g_iload_n (q := 93) dX6_room_92 rfl rfl ?_
        refine g_ishr (q := 94) dX6_room_93 rfl ?_
        refine g_iconst (q := 95) dX6_room_94 ci_1 rfl ?_
        refine g_iand (q := 96) dX6_room_95 rfl ?_
        exact g_iret dX6_room_96 (pi_i (by simp only [m_room, c_7, c_21, c_28, show ((2 : Int32) = 0) = False from by decide, show ((2 : Int32) = 1) = False from by decide, show ((2 : Int32) = 3) = False from by decide, show ((2 : Int32) = 4) = False from by decide, not_true_eq_false, not_false_eq_true, if_true, if_false, Bool.true_eq_false, Bool.false_eq_true, reduceIte, reduceCtorEq]) (by simp only [m_room, c_7, c_21, c_28, show ((2 : Int32) = 0) = False from by decide, show ((2 : Int32) = 1) = False from by decide, show ((2 : Int32) = 3) = False from by decide, show ((2 : Int32) = 4) = False from by decide, not_true_eq_false, not_false_eq_true, if_true, if_false, Bool.true_eq_false, Bool.false_eq_true, reduceIte, reduceCtorEq]) rfl)
      · refine g_tabV (t := 97) c_28 dX6_room_28 (by decide) (by decide) rfl (by decide) ?_
        refine g_aload_n (q := 98) dX6_room_97 rfl rfl ?_
        refine f6_2 (q := 101) wd_268 dX6_room_98 rfl ?_
        refine g_iconst (q := 102) dX6_room_101 ci_4 rfl ?_
        refine g_callVi (q := 105) (c_X1_roomsWith hE rfl (by exact w)) lk_RX6_189 (Nat.zero_le _) (h_lt rfl) rfl (by decide) rfl rfl rfl rfl rfl rfl (Nat.le_of_ble_eq_true rfl) (Nat.le_of_ble_eq_true rfl) (Nat.le_of_ble_eq_true rfl) dX6_room_102 rfl ?_
        refine g_iload_n (q := 106) dX6_room_105 rfl rfl ?_
        refine g_ishr (q := 107) dX6_room_106 rfl ?_
        refine g_iconst (q := 108) dX6_room_107 ci_1 rfl ?_
        refine g_iand (q := 109) dX6_room_108 rfl ?_
        exact g_iret dX6_room_109 (pi_i (by simp only [m_room, c_7, c_21, c_28, show ((3 : Int32) = 0) = False from by decide, show ((3 : Int32) = 1) = False from by decide, show ((3 : Int32) = 2) = False from by decide, show ((3 : Int32) = 4) = False from by decide, not_true_eq_false, not_false_eq_true, if_true, if_false, Bool.true_eq_false, Bool.false_eq_true, reduceIte, reduceCtorEq]) (by simp only [m_room, c_7, c_21, c_28, show ((3 : Int32) = 0) = False from by decide, show ((3 : Int32) = 1) = False from by decide, show ((3 : Int32) = 2) = False from by decide, show ((3 : Int32) = 4) = False from by decide, not_true_eq_false, not_false_eq_true, if_true, if_false, Bool.true_eq_false, Bool.false_eq_true, reduceIte, reduceCtorEq]) rfl)
      · refine g_tabV (t := 110) c_28 dX6_room_28 (by decide) (by decide) rfl (by decide) ?_
        refine g_aload_n (q := 111) dX6_room_110 rfl rfl ?_
        refine f6_2 (q := 114) wd_268 dX6_room_111 rfl ?_
        refine g_iload_n (q := 115) dX6_room_114 rfl rfl ?_
        refine g_callVi (q := 118) (c_X1_doorsOf hE rfl (by exact w)) lk_RX6_192 (Nat.zero_le _) (h_lt rfl) rfl (by decide) rfl rfl rfl rfl rfl rfl (Nat.le_of_ble_eq_true rfl) (Nat.le_of_ble_eq_true rfl) (Nat.le_of_ble_eq_true rfl) dX6_room_115 rfl ?_
        exact g_iret dX6_room_118 (pi_i (by simp only [m_room, c_7, c_21, c_28, show ((4 : Int32) = 0) = False from by decide, show ((4 : Int32) = 1) = False from by decide, show ((4 : Int32) = 2) = False from by decide, show ((4 : Int32) = 3) = False from by decide, not_true_eq_false, not_false_eq_true, if_true, if_false, Bool.true_eq_false, Bool.false_eq_true, reduceIte, reduceCtorEq]) (by simp only [m_room, c_7, c_21, c_28, show ((4 : Int32) = 0) = False from by decide, show ((4 : Int32) = 1) = False from by decide, show ((4 : Int32) = 2) = False from by decide, show ((4 : Int32) = 3) = False from by decide, not_true_eq_false, not_false_eq_true, if_true, if_false, Bool.true_eq_false, Bool.false_eq_true, reduceIte, reduceCtorEq]) rfl)
    · rw [bI_0] at c_21
      refine g_ldc (q := 26) dX6_room_24 wd_307 rfl ?_
      exact g_iret dX6_room_26 (pi_i (by simp only [m_room, c_7, c_21, not_true_eq_false, not_false_eq_true, if_true, if_false, Bool.true_eq_false, Bool.false_eq_true, reduceIte, reduceCtorEq]) (by simp only [m_room, c_7, c_21, not_true_eq_false, not_false_eq_true, if_true, if_false, Bool.true_eq_false, Bool.false_eq_true, reduceIte, reduceCtorEq]) rfl)
  · rw [bI_0] at c_7
    change stB σ = false at c_7
    refine g_ldc (q := 12) dX6_room_10 wd_465 rfl ?_
    exact g_iret dX6_room_12 (pi_i (by simp only [m_room, c_7, not_true_eq_false, not_false_eq_true, if_true, if_false, Bool.true_eq_false, Bool.false_eq_true, reduceIte, reduceCtorEq]) (by simp only [m_room, c_7, not_true_eq_false, not_false_eq_true, if_true, if_false, Bool.true_eq_false, Bool.false_eq_true, reduceIte, reduceCtorEq]) rfl)
set_option maxRecDepth 20000 in
set_option maxHeartbeats 4000000 in
theorem c_X6_doorHas {E : EE} (hE : inj E 0 40) {σ : Sto} {τ : Stl} {d u : Int32} (w : WFH σ 7) : Ct E 0 40 yX6_doorHas cX6_doorHas 3 (some FieldType.int) { frames := 1, cells := 0, slots := 0, locals := 21 } [.ref (E.2.1 0), .int d, .int u] σ τ (Pi ((m_doorHas σ d u).1) ((m_doorHas σ d u).2) (τ)) := by
  refine ct_of hE RX6 [some (.ref (E.2.1 0)), some (.int d), some (.int u)] (by decide) rfl (Nat.le_of_ble_eq_true rfl) rfl (fun X => ?_)
  refine g_aload_n (q := 1) dX6_doorHas_0 rfl rfl ?_
  refine f6_2 (q := 4) wd_268 dX6_doorHas_1 rfl ?_
  refine g_iload_n (q := 5) dX6_doorHas_4 rfl rfl ?_
  refine g_callVi (q := 8) (c_X1_hasDoor hE rfl) lk_RX6_160 (Nat.zero_le _) (h_lt rfl) rfl (by decide) rfl rfl rfl rfl rfl rfl (Nat.le_of_ble_eq_true rfl) (Nat.le_of_ble_eq_true rfl) (Nat.le_of_ble_eq_true rfl) dX6_doorHas_5 rfl ?_
  refine g_if_ne (t := 14) (q := 11) dX6_doorHas_8 (by decide) rfl (fun c_8 => ?_) (fun c_8 => ?_)
  · rw [bI_n0] at c_8
    refine g_iload_n (q := 15) dX6_doorHas_14 rfl rfl ?_
    rcases tab_0_2 _ with c_15 | c_15 | c_15 | c_15
    · refine g_tabOut (t := 77) dX6_doorHas_15 c_15 (by decide) ?_
      refine g_ldc (q := 79) dX6_doorHas_77 wd_307 rfl ?_
      exact g_iret dX6_doorHas_79 (pi_i (by have n0 : ¬ u = 0 := (fun e => by rw [e] at c_15; exact absurd c_15 (by decide)); have n1 : ¬ u = 1 := (fun e => by rw [e] at c_15; exact absurd c_15 (by decide)); have n2 : ¬ u = 2 := (fun e => by rw [e] at c_15; exact absurd c_15 (by decide)); simp only [m_doorHas, opB, bI_t, bI_f, c_8, n0, n1, n2, not_true_eq_false, not_false_eq_true, if_true, if_false, Bool.true_eq_false, Bool.false_eq_true, reduceIte, reduceCtorEq]) (by have n0 : ¬ u = 0 := (fun e => by rw [e] at c_15; exact absurd c_15 (by decide)); have n1 : ¬ u = 1 := (fun e => by rw [e] at c_15; exact absurd c_15 (by decide)); have n2 : ¬ u = 2 := (fun e => by rw [e] at c_15; exact absurd c_15 (by decide)); simp only [m_doorHas, c_8, n0, n1, n2, not_true_eq_false, not_false_eq_true, if_true, if_false, Bool.true_eq_false, Bool.false_eq_true, reduceIte, reduceCtorEq]) rfl)
    · refine g_tabV (t := 40) c_15 dX6_doorHas_15 (by decide) (by decide) rfl (by decide) ?_
      refine g_aload_n (q := 41) dX6_doorHas_40 rfl rfl ?_
      refine f6_2 (q := 44) wd_268 dX6_doorHas_41 rfl ?_
      refine f1_8 (q := 47) rfl wd_161 dX6_doorHas_44 rfl ?_
      refine g_iload_n (q := 48) dX6_doorHas_47 rfl rfl ?_
      refine g_aldH (q := 49) (c := 1) rfl (by decide) (by decide) (show vp_in _ 8 by exact doorV_in w c_8) dX6_doorHas_48 rfl ?_
      exact g_iret dX6_doorHas_49 (pi_i (by simp only [m_doorHas, opB, bI_t, bI_f, c_8, c_15, show ((0 : Int32) = 1) = False from by decide, show ((0 : Int32) = 2) = False from by decide, not_true_eq_false, not_false_eq_true, if_true, if_false, Bool.true_eq_false, Bool.false_eq_true, reduceIte, reduceCtorEq]) (by simp only [m_doorHas, c_8, c_15, show ((0 : Int32) = 1) = False from by decide, show ((0 : Int32) = 2) = False from by decide, not_true_eq_false, not_false_eq_true, if_true, if_false, Bool.true_eq_false, Bool.false_eq_true, reduceIte, reduceCtorEq]) rfl)
    · refine g_tabV (t := 50) c_15 dX6_doorHas_15 (by decide) (by decide) rfl (by decide) ?_
      refine g_aload_n (q := 51) dX6_doorHas_50 rfl rfl ?_
      refine f6_2 (q := 54) wd_268 dX6_doorHas_51 rfl ?_
      refine f1_9 (q := 57) rfl wd_163 dX6_doorHas_54 rfl ?_
      refine g_iload_n (q := 58) dX6_doorHas_57 rfl rfl ?_
      refine g_aldH (q := 59) (c := 2) rfl (by decide) (by decide) (show vp_in _ 8 by exact doorV_in w c_8) dX6_doorHas_58 rfl ?_
      exact g_iret dX6_doorHas_59 (pi_i (by simp only [m_doorHas, opB, bI_t, bI_f, c_8, c_15, show ((1 : Int32) = 0) = False from by decide, show ((1 : Int32) = 2) = False from by decide, not_true_eq_false, not_false_eq_true, if_true, if_false, Bool.true_eq_false, Bool.false_eq_true, reduceIte, reduceCtorEq]) (by simp only [m_doorHas, c_8, c_15, show ((1 : Int32) = 0) = False from by decide, show ((1 : Int32) = 2) = False from by decide, not_true_eq_false, not_false_eq_true, if_true, if_false, Bool.true_eq_false, Bool.false_eq_true, reduceIte, reduceCtorEq]) rfl)
    · refine g_tabV (t := 60) c_15 dX6_doorHas_15 (by decide) (by decide) rfl (by decide) ?_
      refine g_aload_n (q := 61) dX6_doorHas_60 rfl rfl ?_
      refine f6_2 (q := 64) wd_268 dX6_doorHas_61 rfl ?_
      refine g_iload_n (q := 65) dX6_doorHas_64 rfl rfl ?_
      refine g_callVi (q := 68) (c_X1_isOpen hE rfl) lk_RX6_163 (Nat.zero_le _) (h_lt rfl) rfl (by decide) rfl rfl rfl rfl rfl rfl (Nat.le_of_ble_eq_true rfl) (Nat.le_of_ble_eq_true rfl) (Nat.le_of_ble_eq_true rfl) dX6_doorHas_65 rfl ?_
      refine g_if_eq (t := 75) (q := 71) dX6_doorHas_68 (by decide) rfl (fun c_68 => ?_) (fun c_68 => ?_)
      · rw [bI_0] at c_68
        refine g_iconst (q := 76) dX6_doorHas_75 ci_0 rfl ?_
        exact g_iret dX6_doorHas_76 (pi_i (by simp only [m_doorHas, opB, bI_t, bI_f, c_8, c_68, c_15, show ((2 : Int32) = 0) = False from by decide, show ((2 : Int32) = 1) = False from by decide, not_true_eq_false, not_false_eq_true, if_true, if_false, Bool.true_eq_false, Bool.false_eq_true, reduceIte, reduceCtorEq]) (by simp only [m_doorHas, c_8, c_68, c_15, show ((2 : Int32) = 0) = False from by decide, show ((2 : Int32) = 1) = False from by decide, not_true_eq_false, not_false_eq_true, if_true, if_false, Bool.true_eq_false, Bool.false_eq_true, reduceIte, reduceCtorEq]) rfl)
      · rw [bI_n0] at c_68
        refine g_iconst (q := 72) dX6_doorHas_71 ci_1 rfl ?_
        refine g_goto (t := 76) dX6_doorHas_72 (by decide) ?_
        exact g_iret dX6_doorHas_76 (pi_i (by simp only [m_doorHas, opB, bI_t, bI_f, c_8, c_68, c_15, show ((2 : Int32) = 0) = False from by decide, show ((2 : Int32) = 1) = False from by decide, not_true_eq_false, not_false_eq_true, if_true, if_false, Bool.true_eq_false, Bool.false_eq_true, reduceIte, reduceCtorEq]) (by simp only [m_doorHas, c_8, c_68, c_15, show ((2 : Int32) = 0) = False from by decide, show ((2 : Int32) = 1) = False from by decide, not_true_eq_false, not_false_eq_true, if_true, if_false, Bool.true_eq_false, Bool.false_eq_true, reduceIte, reduceCtorEq]) rfl)
  · rw [bI_0] at c_8
    refine g_ldc (q := 13) dX6_doorHas_11 wd_307 rfl ?_
    exact g_iret dX6_doorHas_13 (pi_i (by simp only [m_doorHas, c_8, not_true_eq_false, not_false_eq_true, if_true, if_false, Bool.true_eq_false, Bool.false_eq_true, reduceIte, reduceCtorEq]) (by simp only [m_doorHas, c_8, not_true_eq_false, not_false_eq_true, if_true, if_false, Bool.true_eq_false, Bool.false_eq_true, reduceIte, reduceCtorEq]) rfl)
set_option maxRecDepth 20000 in
set_option maxHeartbeats 4000000 in
theorem c_X6_sitter {E : EE} (hE : inj E 0 40) {σ : Sto} {τ : Stl} {s u : Int32} (w : WFH σ 7) : Ct E 0 40 yX6_sitter cX6_sitter 3 (some FieldType.int) { frames := 1, cells := 0, slots := 0, locals := 21 } [.ref (E.2.1 0), .int s, .int u] σ τ (Pi ((m_sitter σ s u).1) ((m_sitter σ s u).2) (τ)) := by
  refine ct_of hE RX6 [some (.ref (E.2.1 0)), some (.int s), some (.int u)] (by decide) rfl (Nat.le_of_ble_eq_true rfl) rfl (fun X => ?_)
  refine g_aload_n (q := 1) dX6_sitter_0 rfl rfl ?_
  refine f6_2 (q := 4) wd_268 dX6_sitter_1 rfl ?_
  refine g_iload_n (q := 5) dX6_sitter_4 rfl rfl ?_
  refine g_callVi (q := 8) (c_X1_hasSitter hE rfl) lk_RX6_173 (Nat.zero_le _) (h_lt rfl) rfl (by decide) rfl rfl rfl rfl rfl rfl (Nat.le_of_ble_eq_true rfl) (Nat.le_of_ble_eq_true rfl) (Nat.le_of_ble_eq_true rfl) dX6_sitter_5 rfl ?_
  refine g_if_ne (t := 14) (q := 11) dX6_sitter_8 (by decide) rfl (fun c_8 => ?_) (fun c_8 => ?_)
  · rw [bI_n0] at c_8
    refine g_iload_n (q := 15) dX6_sitter_14 rfl rfl ?_
    rcases tab_0_2 _ with c_15 | c_15 | c_15 | c_15
    · refine g_tabOut (t := 77) dX6_sitter_15 c_15 (by decide) ?_
      refine g_ldc (q := 79) dX6_sitter_77 wd_307 rfl ?_
      exact g_iret dX6_sitter_79 (pi_i (by have n0 : ¬ u = 0 := (fun e => by rw [e] at c_15; exact absurd c_15 (by decide)); have n1 : ¬ u = 1 := (fun e => by rw [e] at c_15; exact absurd c_15 (by decide)); have n2 : ¬ u = 2 := (fun e => by rw [e] at c_15; exact absurd c_15 (by decide)); simp only [m_sitter, bI_t, bI_f, c_8, n0, n1, n2, not_true_eq_false, not_false_eq_true, if_true, if_false, Bool.true_eq_false, Bool.false_eq_true, reduceIte, reduceCtorEq]) (by have n0 : ¬ u = 0 := (fun e => by rw [e] at c_15; exact absurd c_15 (by decide)); have n1 : ¬ u = 1 := (fun e => by rw [e] at c_15; exact absurd c_15 (by decide)); have n2 : ¬ u = 2 := (fun e => by rw [e] at c_15; exact absurd c_15 (by decide)); simp only [m_sitter, c_8, n0, n1, n2, not_true_eq_false, not_false_eq_true, if_true, if_false, Bool.true_eq_false, Bool.false_eq_true, reduceIte, reduceCtorEq]) rfl)
    · refine g_tabV (t := 40) c_15 dX6_sitter_15 (by decide) (by decide) rfl (by decide) ?_
      refine g_aload_n (q := 41) dX6_sitter_40 rfl rfl ?_
      refine f6_2 (q := 44) wd_268 dX6_sitter_41 rfl ?_
      refine f1_11 (q := 47) rfl wd_171 dX6_sitter_44 rfl ?_
      refine g_iload_n (q := 48) dX6_sitter_47 rfl rfl ?_
      refine g_aldH (q := 49) (c := 4) rfl (by decide) (by decide) (show vp_in _ 5 by exact sitter_in w c_8) dX6_sitter_48 rfl ?_
      exact g_iret dX6_sitter_49 (pi_i (by simp only [m_sitter, bI_t, bI_f, c_8, c_15, show ((0 : Int32) = 1) = False from by decide, show ((0 : Int32) = 2) = False from by decide, not_true_eq_false, not_false_eq_true, if_true, if_false, Bool.true_eq_false, Bool.false_eq_true, reduceIte, reduceCtorEq]) (by simp only [m_sitter, c_8, c_15, show ((0 : Int32) = 1) = False from by decide, show ((0 : Int32) = 2) = False from by decide, not_true_eq_false, not_false_eq_true, if_true, if_false, Bool.true_eq_false, Bool.false_eq_true, reduceIte, reduceCtorEq]) rfl)
    · refine g_tabV (t := 50) c_15 dX6_sitter_15 (by decide) (by decide) rfl (by decide) ?_
      refine g_aload_n (q := 51) dX6_sitter_50 rfl rfl ?_
      refine f6_2 (q := 54) wd_268 dX6_sitter_51 rfl ?_
      refine f1_12 (q := 57) rfl wd_175 dX6_sitter_54 rfl ?_
      refine g_iload_n (q := 58) dX6_sitter_57 rfl rfl ?_
      refine g_aldH (q := 59) (c := 5) rfl (by decide) (by decide) (show vp_in _ 5 by exact sitter_in w c_8) dX6_sitter_58 rfl ?_
      exact g_iret dX6_sitter_59 (pi_i (by simp only [m_sitter, bI_t, bI_f, c_8, c_15, show ((1 : Int32) = 0) = False from by decide, show ((1 : Int32) = 2) = False from by decide, not_true_eq_false, not_false_eq_true, if_true, if_false, Bool.true_eq_false, Bool.false_eq_true, reduceIte, reduceCtorEq]) (by simp only [m_sitter, c_8, c_15, show ((1 : Int32) = 0) = False from by decide, show ((1 : Int32) = 2) = False from by decide, not_true_eq_false, not_false_eq_true, if_true, if_false, Bool.true_eq_false, Bool.false_eq_true, reduceIte, reduceCtorEq]) rfl)
    · refine g_tabV (t := 60) c_15 dX6_sitter_15 (by decide) (by decide) rfl (by decide) ?_
      refine g_aload_n (q := 61) dX6_sitter_60 rfl rfl ?_
      refine f6_2 (q := 64) wd_268 dX6_sitter_61 rfl ?_
      refine g_iload_n (q := 65) dX6_sitter_64 rfl rfl ?_
      refine g_callVi (q := 68) (c_X1_isShivering hE rfl w (sitter_in w c_8) (sitter_lt w c_8)) lk_RX6_204 (Nat.zero_le _) (h_lt rfl) rfl (by decide) rfl rfl rfl rfl rfl rfl (Nat.le_of_ble_eq_true rfl) (Nat.le_of_ble_eq_true rfl) (Nat.le_of_ble_eq_true rfl) dX6_sitter_65 rfl ?_
      refine g_if_eq (t := 75) (q := 71) dX6_sitter_68 (by decide) rfl (fun c_68 => ?_) (fun c_68 => ?_)
      · rw [bI_0] at c_68
        refine g_iconst (q := 76) dX6_sitter_75 ci_0 rfl ?_
        exact g_iret dX6_sitter_76 (pi_i (by simp only [m_sitter, bI_t, bI_f, c_8, c_68, c_15, show ((2 : Int32) = 0) = False from by decide, show ((2 : Int32) = 1) = False from by decide, not_true_eq_false, not_false_eq_true, if_true, if_false, Bool.true_eq_false, Bool.false_eq_true, reduceIte, reduceCtorEq]) (by simp only [m_sitter, c_8, c_68, c_15, show ((2 : Int32) = 0) = False from by decide, show ((2 : Int32) = 1) = False from by decide, not_true_eq_false, not_false_eq_true, if_true, if_false, Bool.true_eq_false, Bool.false_eq_true, reduceIte, reduceCtorEq]) rfl)
      · rw [bI_n0] at c_68
        refine g_iconst (q := 72) dX6_sitter_71 ci_1 rfl ?_
        refine g_goto (t := 76) dX6_sitter_72 (by decide) ?_
        exact g_iret dX6_sitter_76 (pi_i (by simp only [m_sitter, bI_t, bI_f, c_8, c_68, c_15, show ((2 : Int32) = 0) = False from by decide, show ((2 : Int32) = 1) = False from by decide, not_true_eq_false, not_false_eq_true, if_true, if_false, Bool.true_eq_false, Bool.false_eq_true, reduceIte, reduceCtorEq]) (by simp only [m_sitter, c_8, c_68, c_15, show ((2 : Int32) = 0) = False from by decide, show ((2 : Int32) = 1) = False from by decide, not_true_eq_false, not_false_eq_true, if_true, if_false, Bool.true_eq_false, Bool.false_eq_true, reduceIte, reduceCtorEq]) rfl)
  · rw [bI_0] at c_8
    refine g_ldc (q := 13) dX6_sitter_11 wd_307 rfl ?_
    exact g_iret dX6_sitter_13 (pi_i (by simp only [m_sitter, c_8, not_true_eq_false, not_false_eq_true, if_true, if_false, Bool.true_eq_false, Bool.false_eq_true, reduceIte, reduceCtorEq]) (by simp only [m_sitter, c_8, not_true_eq_false, not_false_eq_true, if_true, if_false, Bool.true_eq_false, Bool.false_eq_true, reduceIte, reduceCtorEq]) rfl)
set_option maxRecDepth 20000 in
set_option maxHeartbeats 4000000 in
theorem c_X6_kind {E : EE} (hE : inj E 0 40) {σ : Sto} {τ : Stl} {s : Int32} (w : WFH σ 7) : Ct E 0 40 yX6_kind cX6_kind 2 (some FieldType.int) { frames := 1, cells := 0, slots := 0, locals := 21 } [.ref (E.2.1 0), .int s] σ τ (Pi ((m_kind σ s).1) ((m_kind σ s).2) (τ)) := by
  refine ct_of hE RX6 [some (.ref (E.2.1 0)), some (.int s)] (by decide) rfl (Nat.le_of_ble_eq_true rfl) rfl (fun X => ?_)
  refine g_aload_n (q := 1) dX6_kind_0 rfl rfl ?_
  refine f6_2 (q := 4) wd_268 dX6_kind_1 rfl ?_
  refine g_iload_n (q := 5) dX6_kind_4 rfl rfl ?_
  refine g_callVi (q := 8) (c_X1_hasSitter hE rfl) lk_RX6_173 (Nat.zero_le _) (h_lt rfl) rfl (by decide) rfl rfl rfl rfl rfl rfl (Nat.le_of_ble_eq_true rfl) (Nat.le_of_ble_eq_true rfl) (Nat.le_of_ble_eq_true rfl) dX6_kind_5 rfl ?_
  refine g_if_eq (t := 23) (q := 11) dX6_kind_8 (by decide) rfl (fun c_8 => ?_) (fun c_8 => ?_)
  · rw [bI_0] at c_8
    refine g_ldc (q := 25) dX6_kind_23 wd_307 rfl ?_
    exact g_iret dX6_kind_25 (pi_i (by simp only [m_kind, c_8, not_true_eq_false, not_false_eq_true, if_true, if_false, Bool.true_eq_false, Bool.false_eq_true, reduceIte, reduceCtorEq]) (by simp only [m_kind, c_8, not_true_eq_false, not_false_eq_true, if_true, if_false, Bool.true_eq_false, Bool.false_eq_true, reduceIte, reduceCtorEq]) rfl)
  · rw [bI_n0] at c_8
    refine g_aload_n (q := 12) dX6_kind_11 rfl rfl ?_
    refine f6_2 (q := 15) wd_268 dX6_kind_12 rfl ?_
    refine f1_10 (q := 18) rfl wd_167 dX6_kind_15 rfl ?_
    refine g_iload_n (q := 19) dX6_kind_18 rfl rfl ?_
    refine g_aldH (q := 20) (c := 3) rfl (by decide) (by decide) (show vp_in _ 5 by exact sitter_in w c_8) dX6_kind_19 rfl ?_
    refine g_goto (t := 25) dX6_kind_20 (by decide) ?_
    exact g_iret dX6_kind_25 (pi_i (by simp only [m_kind, c_8, not_true_eq_false, not_false_eq_true, if_true, if_false, Bool.true_eq_false, Bool.false_eq_true, reduceIte, reduceCtorEq]) (by simp only [m_kind, c_8, not_true_eq_false, not_false_eq_true, if_true, if_false, Bool.true_eq_false, Bool.false_eq_true, reduceIte, reduceCtorEq]) rfl)
set_option maxRecDepth 20000 in
set_option maxHeartbeats 4000000 in
theorem c_X6_as {E : EE} (hE : inj E 0 40) {σ : Sto} {τ : Stl} {s k : Int32} (w : WFH σ 7) : Ct E 0 40 yX6_as cX6_as 3 (some FieldType.int) { frames := 1, cells := 0, slots := 0, locals := 22 } [.ref (E.2.1 0), .int s, .int k] σ τ (Pi ((m_as σ s k).1) ((m_as σ s k).2) (τ)) := by
  refine ct_of hE RX6 [some (.ref (E.2.1 0)), some (.int s), some (.int k)] (by decide) rfl (Nat.le_of_ble_eq_true rfl) rfl (fun X => ?_)
  refine g_aload_n (q := 1) dX6_as_0 rfl rfl ?_
  refine f6_2 (q := 4) wd_268 dX6_as_1 rfl ?_
  refine g_iload_n (q := 5) dX6_as_4 rfl rfl ?_
  refine g_callVi (q := 8) (c_X1_hasSitter hE rfl) lk_RX6_173 (Nat.zero_le _) (h_lt rfl) rfl (by decide) rfl rfl rfl rfl rfl rfl (Nat.le_of_ble_eq_true rfl) (Nat.le_of_ble_eq_true rfl) (Nat.le_of_ble_eq_true rfl) dX6_as_5 rfl ?_
  refine g_if_eq (t := 20) (q := 11) dX6_as_8 (by decide) rfl (fun c_8 => ?_) (fun c_8 => ?_)
  · rw [bI_0] at c_8
    refine g_ldc (q := 22) dX6_as_20 wd_307 rfl ?_
    exact g_iret dX6_as_22 (pi_i (by simp only [m_as, c_8, not_true_eq_false, not_false_eq_true, if_true, if_false, Bool.true_eq_false, Bool.false_eq_true, reduceIte, reduceCtorEq]) (by simp only [m_as, c_8, not_true_eq_false, not_false_eq_true, if_true, if_false, Bool.true_eq_false, Bool.false_eq_true, reduceIte, reduceCtorEq]) rfl)
  · rw [bI_n0] at c_8
    refine g_iload_n (q := 12) dX6_as_11 rfl rfl ?_
    refine g_iconst (q := 13) dX6_as_12 ci_0 rfl ?_
    refine g_iconst (q := 14) dX6_as_13 ci_5 rfl ?_
    refine g_callSi (q := 17) (c_X6_within hE ) lk_RX6_61 rfl rfl rfl rfl (Nat.le_of_ble_eq_true rfl) (Nat.le_of_ble_eq_true rfl) (Nat.le_of_ble_eq_true rfl) dX6_as_14 rfl ?_
    refine g_if_ne (t := 23) (q := 20) dX6_as_17 (by decide) rfl (fun c_17 => ?_) (fun c_17 => ?_)
    · rw [bI_n0] at c_17
      refine g_aload_n (q := 24) dX6_as_23 rfl rfl ?_
      refine f6_2 (q := 27) wd_268 dX6_as_24 rfl ?_
      refine f1_10 (q := 30) rfl wd_167 dX6_as_27 rfl ?_
      refine g_iload_n (q := 31) dX6_as_30 rfl rfl ?_
      refine g_aldH (q := 32) (c := 3) rfl (by decide) (by decide) (show vp_in _ 5 by exact sitter_in w c_8) dX6_as_31 rfl ?_
      refine g_iload_n (q := 33) dX6_as_32 rfl rfl ?_
      refine g_callSi (q := 36) (c_X1_isA hE ) lk_RX6_278 rfl rfl rfl rfl (Nat.le_of_ble_eq_true rfl) (Nat.le_of_ble_eq_true rfl) (Nat.le_of_ble_eq_true rfl) dX6_as_33 rfl ?_
      refine g_if_eq (t := 47) (q := 39) dX6_as_36 (by decide) rfl (fun c_36 => ?_) (fun c_36 => ?_)
      · rw [bI_0] at c_36
        refine g_aload_n (q := 48) dX6_as_47 rfl rfl ?_
        refine g_iconst (q := 49) dX6_as_48 ci_3 rfl ?_
        refine g_callVi (q := 52) (c_X6_finding hE ) lk_RX6_66 (by decide) (by decide) rfl (by decide) rfl rfl rfl rfl rfl rfl (Nat.le_of_ble_eq_true rfl) (Nat.le_of_ble_eq_true rfl) (Nat.le_of_ble_eq_true rfl) dX6_as_49 rfl ?_
        exact g_iret dX6_as_52 (pi_i (by simp only [m_as, c_8, c_17, c_36, not_true_eq_false, not_false_eq_true, if_true, if_false, Bool.true_eq_false, Bool.false_eq_true, reduceIte, reduceCtorEq]) (by simp only [m_as, c_8, c_17, c_36, not_true_eq_false, not_false_eq_true, if_true, if_false, Bool.true_eq_false, Bool.false_eq_true, reduceIte, reduceCtorEq]) rfl)
      · rw [bI_n0] at c_36
        refine g_aload_n (q := 40) dX6_as_39 rfl rfl ?_
        refine g_iload_n (q := 41) dX6_as_40 rfl rfl ?_
        refine g_callVi (q := 44) (c_X6_noFinding hE ) lk_RX6_74 (by decide) (by decide) rfl (by decide) rfl rfl rfl rfl rfl rfl (Nat.le_of_ble_eq_true rfl) (Nat.le_of_ble_eq_true rfl) (Nat.le_of_ble_eq_true rfl) dX6_as_41 rfl ?_
        refine g_goto (t := 52) dX6_as_44 (by decide) ?_
        exact g_iret dX6_as_52 (pi_i (by simp only [m_as, c_8, c_17, c_36, not_true_eq_false, not_false_eq_true, if_true, if_false, Bool.true_eq_false, Bool.false_eq_true, reduceIte, reduceCtorEq]) (by simp only [m_as, c_8, c_17, c_36, not_true_eq_false, not_false_eq_true, if_true, if_false, Bool.true_eq_false, Bool.false_eq_true, reduceIte, reduceCtorEq]) rfl)
    · rw [bI_0] at c_17
      refine g_ldc (q := 22) dX6_as_20 wd_307 rfl ?_
      exact g_iret dX6_as_22 (pi_i (by simp only [m_as, c_8, c_17, not_true_eq_false, not_false_eq_true, if_true, if_false, Bool.true_eq_false, Bool.false_eq_true, reduceIte, reduceCtorEq]) (by simp only [m_as, c_8, c_17, not_true_eq_false, not_false_eq_true, if_true, if_false, Bool.true_eq_false, Bool.false_eq_true, reduceIte, reduceCtorEq]) rfl)
set_option maxRecDepth 20000 in
set_option maxHeartbeats 4000000 in
theorem c_X6_ask {E : EE} (hE : inj E 0 40) {σ : Sto} {τ : Stl} {s u : Int32} (w : WFH σ 7) : Ct E 0 40 yX6_ask cX6_ask 3 (some FieldType.int) { frames := 6, cells := 0, slots := 0, locals := 132 } [.ref (E.2.1 0), .int s, .int u] σ τ (Pi ((m_ask σ s u).1) ((m_ask σ s u).2) (τ)) := by
  refine ct_of hE RX6 [some (.ref (E.2.1 0)), some (.int s), some (.int u)] (by decide) rfl (Nat.le_of_ble_eq_true rfl) rfl (fun X => ?_)
  refine g_aload_n (q := 1) dX6_ask_0 rfl rfl ?_
  refine f6_2 (q := 4) wd_268 dX6_ask_1 rfl ?_
  refine g_iload_n (q := 5) dX6_ask_4 rfl rfl ?_
  refine g_callVi (q := 8) (c_X1_hasSitter hE rfl) lk_RX6_173 (Nat.zero_le _) (h_lt rfl) rfl (by decide) rfl rfl rfl rfl rfl rfl (Nat.le_of_ble_eq_true rfl) (Nat.le_of_ble_eq_true rfl) (Nat.le_of_ble_eq_true rfl) dX6_ask_5 rfl ?_
  refine g_if_eq (t := 20) (q := 11) dX6_ask_8 (by decide) rfl (fun c_8 => ?_) (fun c_8 => ?_)
  · rw [bI_0] at c_8
    refine g_ldc (q := 22) dX6_ask_20 wd_307 rfl ?_
    exact g_iret dX6_ask_22 (pi_i (by simp only [m_ask, c_8, not_true_eq_false, not_false_eq_true, if_true, if_false, Bool.true_eq_false, Bool.false_eq_true, reduceIte, reduceCtorEq, stA, upc_ne (show 7 + 3 ≠ 24 by decide), upc_ne (show 7 + 4 ≠ 24 by decide), upc_ne (show 7 + 5 ≠ 24 by decide), show ((0 : Int32) = 0) = True from by decide, show wi 0 0 1 = true from by decide]) (by simp only [m_ask, c_8, not_true_eq_false, not_false_eq_true, if_true, if_false, Bool.true_eq_false, Bool.false_eq_true, reduceIte, reduceCtorEq, stA, upc_ne (show 7 + 3 ≠ 24 by decide), upc_ne (show 7 + 4 ≠ 24 by decide), upc_ne (show 7 + 5 ≠ 24 by decide), show ((0 : Int32) = 0) = True from by decide, show wi 0 0 1 = true from by decide]) rfl)
  · rw [bI_n0] at c_8
    refine g_iload_n (q := 12) dX6_ask_11 rfl rfl ?_
    refine g_iconst (q := 13) dX6_ask_12 ci_0 rfl ?_
    refine g_iconst (q := 14) dX6_ask_13 ci_1 rfl ?_
    refine g_callSi (q := 17) (c_X6_within hE ) lk_RX6_61 rfl rfl rfl rfl (Nat.le_of_ble_eq_true rfl) (Nat.le_of_ble_eq_true rfl) (Nat.le_of_ble_eq_true rfl) dX6_ask_14 rfl ?_
    refine g_if_ne (t := 23) (q := 20) dX6_ask_17 (by decide) rfl (fun c_17 => ?_) (fun c_17 => ?_)
    · rw [bI_n0] at c_17
      refine g_aload_n (q := 24) dX6_ask_23 rfl rfl ?_
      refine f6_5 (q := 27) wd_271 dX6_ask_24 rfl ?_
      refine g_callVv (q := 30) (c_X0_startAnew hE ) lk_RX6_281 (by decide) (by decide) rfl (by decide) rfl rfl rfl rfl rfl rfl (Nat.le_of_ble_eq_true rfl) (Nat.le_of_ble_eq_true rfl) (Nat.le_of_ble_eq_true rfl) dX6_ask_27 rfl ?_
      refine g_iload_n (q := 31) dX6_ask_30 rfl rfl ?_
      refine g_if_ne (t := 49) (q := 34) dX6_ask_31 (by decide) rfl (fun c_31 => ?_) (fun c_31 => ?_)
      · refine g_aload_n (q := 50) dX6_ask_49 rfl rfl ?_
        refine f6_5 (q := 53) wd_271 dX6_ask_50 rfl ?_
        refine g_aload_n (q := 54) dX6_ask_53 rfl rfl ?_
        refine f6_2 (q := 57) wd_268 dX6_ask_54 rfl ?_
        refine g_iload_n (q := 58) dX6_ask_57 rfl rfl ?_
        refine g_callVi (q := 61) (c_X0_markOf hE (by unfold trOK; rw [upc_same, upd_same]; exact vp_in_nI (n := 0) (by decide) (by decide)) (sitter_in w c_8)) lk_RX6_288 (by decide) (by decide) rfl (by decide) rfl rfl rfl rfl rfl rfl (Nat.le_of_ble_eq_true rfl) (Nat.le_of_ble_eq_true rfl) (Nat.le_of_ble_eq_true rfl) dX6_ask_58 rfl ?_
        exact g_iret dX6_ask_61 (pi_i (by simp only [m_ask, c_8, c_17, c_31, not_true_eq_false, not_false_eq_true, if_true, if_false, Bool.true_eq_false, Bool.false_eq_true, reduceIte, reduceCtorEq, stA, upc_ne (show 7 + 3 ≠ 24 by decide), upc_ne (show 7 + 4 ≠ 24 by decide), upc_ne (show 7 + 5 ≠ 24 by decide), show ((0 : Int32) = 0) = True from by decide, show wi 0 0 1 = true from by decide]) (by simp only [m_ask, c_8, c_17, c_31, not_true_eq_false, not_false_eq_true, if_true, if_false, Bool.true_eq_false, Bool.false_eq_true, reduceIte, reduceCtorEq, stA, upc_ne (show 7 + 3 ≠ 24 by decide), upc_ne (show 7 + 4 ≠ 24 by decide), upc_ne (show 7 + 5 ≠ 24 by decide), show ((0 : Int32) = 0) = True from by decide, show wi 0 0 1 = true from by decide]) rfl)
      · refine g_aload_n (q := 35) dX6_ask_34 rfl rfl ?_
        refine f6_5 (q := 38) wd_271 dX6_ask_35 rfl ?_
        refine g_aload_n (q := 39) dX6_ask_38 rfl rfl ?_
        refine f6_2 (q := 42) wd_268 dX6_ask_39 rfl ?_
        refine g_iload_n (q := 43) dX6_ask_42 rfl rfl ?_
        refine g_callVi (q := 46) (c_X0_sizeOf hE (by unfold trOK; rw [upc_same, upd_same]; exact vp_in_nI (n := 0) (by decide) (by decide)) (sitter_in w c_8)) lk_RX6_284 (by decide) (by decide) rfl (by decide) rfl rfl rfl rfl rfl rfl (Nat.le_of_ble_eq_true rfl) (Nat.le_of_ble_eq_true rfl) (Nat.le_of_ble_eq_true rfl) dX6_ask_43 rfl ?_
        refine g_goto (t := 61) dX6_ask_46 (by decide) ?_
        exact g_iret dX6_ask_61 (pi_i (by simp only [m_ask, c_8, c_17, c_31, not_true_eq_false, not_false_eq_true, if_true, if_false, Bool.true_eq_false, Bool.false_eq_true, reduceIte, reduceCtorEq, stA, upc_ne (show 7 + 3 ≠ 24 by decide), upc_ne (show 7 + 4 ≠ 24 by decide), upc_ne (show 7 + 5 ≠ 24 by decide), show ((0 : Int32) = 0) = True from by decide, show wi 0 0 1 = true from by decide]) (by simp only [m_ask, c_8, c_17, c_31, not_true_eq_false, not_false_eq_true, if_true, if_false, Bool.true_eq_false, Bool.false_eq_true, reduceIte, reduceCtorEq, stA, upc_ne (show 7 + 3 ≠ 24 by decide), upc_ne (show 7 + 4 ≠ 24 by decide), upc_ne (show 7 + 5 ≠ 24 by decide), show ((0 : Int32) = 0) = True from by decide, show wi 0 0 1 = true from by decide]) rfl)
    · rw [bI_0] at c_17
      refine g_ldc (q := 22) dX6_ask_20 wd_307 rfl ?_
      exact g_iret dX6_ask_22 (pi_i (by simp only [m_ask, c_8, c_17, not_true_eq_false, not_false_eq_true, if_true, if_false, Bool.true_eq_false, Bool.false_eq_true, reduceIte, reduceCtorEq, stA, upc_ne (show 7 + 3 ≠ 24 by decide), upc_ne (show 7 + 4 ≠ 24 by decide), upc_ne (show 7 + 5 ≠ 24 by decide), show ((0 : Int32) = 0) = True from by decide, show wi 0 0 1 = true from by decide]) (by simp only [m_ask, c_8, c_17, not_true_eq_false, not_false_eq_true, if_true, if_false, Bool.true_eq_false, Bool.false_eq_true, reduceIte, reduceCtorEq, stA, upc_ne (show 7 + 3 ≠ 24 by decide), upc_ne (show 7 + 4 ≠ 24 by decide), upc_ne (show 7 + 5 ≠ 24 by decide), show ((0 : Int32) = 0) = True from by decide, show wi 0 0 1 = true from by decide]) rfl)
set_option maxRecDepth 20000 in
set_option maxHeartbeats 4000000 in
theorem c_X6_trace {E : EE} (hE : inj E 0 40) {σ : Sto} {τ : Stl} {i : Int32} (h : trOK σ) : Ct E 0 40 yX6_trace cX6_trace 2 (some FieldType.int) { frames := 1, cells := 0, slots := 0, locals := 21 } [.ref (E.2.1 0), .int i] σ τ (Pi ((m_trace σ i).1) ((m_trace σ i).2) (τ)) := by
  refine ct_of hE RX6 [some (.ref (E.2.1 0)), some (.int i)] (by decide) rfl (Nat.le_of_ble_eq_true rfl) rfl (fun X => ?_)
  refine g_aload_n (q := 1) dX6_trace_0 rfl rfl ?_
  refine f6_5 (q := 4) wd_271 dX6_trace_1 rfl ?_
  refine g_iload_n (q := 5) dX6_trace_4 rfl rfl ?_
  refine g_callVi (q := 8) (c_X0_bodyAt hE (by exact h)) lk_RX6_291 (by decide) (by decide) rfl (by decide) rfl rfl rfl rfl rfl rfl (Nat.le_of_ble_eq_true rfl) (Nat.le_of_ble_eq_true rfl) (Nat.le_of_ble_eq_true rfl) dX6_trace_5 rfl ?_
  exact g_iret dX6_trace_8 (pi_i (by rfl) (by rfl) rfl)
set_option maxRecDepth 20000 in
set_option maxHeartbeats 4000000 in
theorem c_X6_count {E : EE} (hE : inj E 0 40) {σ : Sto} {τ : Stl} {u : Int32} (w : WFH σ 7) : Ct E 0 40 yX6_count cX6_count 2 (some FieldType.int) { frames := 1, cells := 0, slots := 0, locals := 22 } [.ref (E.2.1 0), .int u] σ τ (Pi ((m_count σ u).1) ((m_count σ u).2) (τ)) := by
  refine ct_of hE RX6 [some (.ref (E.2.1 0)), some (.int u)] (by decide) rfl (Nat.le_of_ble_eq_true rfl) rfl (fun X => ?_)
  refine g_iload_n (q := 1) dX6_count_0 rfl rfl ?_
  rcases tab_0_8 _ with c_1 | c_1 | c_1 | c_1 | c_1 | c_1 | c_1 | c_1 | c_1 | c_1
  · refine g_tabOut (t := 124) dX6_count_1 c_1 (by decide) ?_
    refine g_ldc (q := 126) dX6_count_124 wd_307 rfl ?_
    exact g_iret dX6_count_126 (pi_i (by have n0 : ¬ u = 0 := (fun e => by rw [e] at c_1; exact absurd c_1 (by decide)); have n1 : ¬ u = 1 := (fun e => by rw [e] at c_1; exact absurd c_1 (by decide)); have n2 : ¬ u = 2 := (fun e => by rw [e] at c_1; exact absurd c_1 (by decide)); have n3 : ¬ u = 3 := (fun e => by rw [e] at c_1; exact absurd c_1 (by decide)); have n4 : ¬ u = 4 := (fun e => by rw [e] at c_1; exact absurd c_1 (by decide)); have n5 : ¬ u = 5 := (fun e => by rw [e] at c_1; exact absurd c_1 (by decide)); have n6 : ¬ u = 6 := (fun e => by rw [e] at c_1; exact absurd c_1 (by decide)); have n7 : ¬ u = 7 := (fun e => by rw [e] at c_1; exact absurd c_1 (by decide)); have n8 : ¬ u = 8 := (fun e => by rw [e] at c_1; exact absurd c_1 (by decide)); simp only [m_count, n0, n1, n2, n3, n4, n5, n6, n7, n8, not_true_eq_false, not_false_eq_true, if_true, if_false, Bool.true_eq_false, Bool.false_eq_true, reduceIte, reduceCtorEq]) (by have n0 : ¬ u = 0 := (fun e => by rw [e] at c_1; exact absurd c_1 (by decide)); have n1 : ¬ u = 1 := (fun e => by rw [e] at c_1; exact absurd c_1 (by decide)); have n2 : ¬ u = 2 := (fun e => by rw [e] at c_1; exact absurd c_1 (by decide)); have n3 : ¬ u = 3 := (fun e => by rw [e] at c_1; exact absurd c_1 (by decide)); have n4 : ¬ u = 4 := (fun e => by rw [e] at c_1; exact absurd c_1 (by decide)); have n5 : ¬ u = 5 := (fun e => by rw [e] at c_1; exact absurd c_1 (by decide)); have n6 : ¬ u = 6 := (fun e => by rw [e] at c_1; exact absurd c_1 (by decide)); have n7 : ¬ u = 7 := (fun e => by rw [e] at c_1; exact absurd c_1 (by decide)); have n8 : ¬ u = 8 := (fun e => by rw [e] at c_1; exact absurd c_1 (by decide)); simp only [m_count, n0, n1, n2, n3, n4, n5, n6, n7, n8, not_true_eq_false, not_false_eq_true, if_true, if_false, Bool.true_eq_false, Bool.false_eq_true, reduceIte, reduceCtorEq]) rfl)
  · refine g_tabV (t := 52) c_1 dX6_count_1 (by decide) (by decide) rfl (by decide) ?_
    refine g_aload_n (q := 53) dX6_count_52 rfl rfl ?_
    refine f6_0 (q := 56) wd_266 dX6_count_53 rfl ?_
    refine g_callVi (q := 59) (c_X3_howMany hE ) lk_RX6_294 (by decide) (by decide) rfl (by decide) rfl rfl rfl rfl rfl rfl (Nat.le_of_ble_eq_true rfl) (Nat.le_of_ble_eq_true rfl) (Nat.le_of_ble_eq_true rfl) dX6_count_56 rfl ?_
    exact g_iret dX6_count_59 (pi_i (by simp only [m_count, c_1, show ((0 : Int32) = 1) = False from by decide, show ((0 : Int32) = 2) = False from by decide, show ((0 : Int32) = 3) = False from by decide, show ((0 : Int32) = 4) = False from by decide, show ((0 : Int32) = 5) = False from by decide, show ((0 : Int32) = 6) = False from by decide, show ((0 : Int32) = 7) = False from by decide, show ((0 : Int32) = 8) = False from by decide, not_true_eq_false, not_false_eq_true, if_true, if_false, Bool.true_eq_false, Bool.false_eq_true, reduceIte, reduceCtorEq]) (by simp only [m_count, c_1, show ((0 : Int32) = 1) = False from by decide, show ((0 : Int32) = 2) = False from by decide, show ((0 : Int32) = 3) = False from by decide, show ((0 : Int32) = 4) = False from by decide, show ((0 : Int32) = 5) = False from by decide, show ((0 : Int32) = 6) = False from by decide, show ((0 : Int32) = 7) = False from by decide, show ((0 : Int32) = 8) = False from by decide, not_true_eq_false, not_false_eq_true, if_true, if_false, Bool.true_eq_false, Bool.false_eq_true, reduceIte, reduceCtorEq]) rfl)
  · refine g_tabV (t := 60) c_1 dX6_count_1 (by decide) (by decide) rfl (by decide) ?_
    refine g_aload_n (q := 61) dX6_count_60 rfl rfl ?_
    refine f6_2 (q := 64) wd_268 dX6_count_61 rfl ?_
    refine f1_0 (q := 67) rfl wd_141 dX6_count_64 rfl ?_
    exact g_iret dX6_count_67 (pi_i (by simp only [m_count, c_1, show ((1 : Int32) = 0) = False from by decide, show ((1 : Int32) = 2) = False from by decide, show ((1 : Int32) = 3) = False from by decide, show ((1 : Int32) = 4) = False from by decide, show ((1 : Int32) = 5) = False from by decide, show ((1 : Int32) = 6) = False from by decide, show ((1 : Int32) = 7) = False from by decide, show ((1 : Int32) = 8) = False from by decide, not_true_eq_false, not_false_eq_true, if_true, if_false, Bool.true_eq_false, Bool.false_eq_true, reduceIte, reduceCtorEq]) (by simp only [m_count, c_1, show ((1 : Int32) = 0) = False from by decide, show ((1 : Int32) = 2) = False from by decide, show ((1 : Int32) = 3) = False from by decide, show ((1 : Int32) = 4) = False from by decide, show ((1 : Int32) = 5) = False from by decide, show ((1 : Int32) = 6) = False from by decide, show ((1 : Int32) = 7) = False from by decide, show ((1 : Int32) = 8) = False from by decide, not_true_eq_false, not_false_eq_true, if_true, if_false, Bool.true_eq_false, Bool.false_eq_true, reduceIte, reduceCtorEq]) rfl)
  · refine g_tabV (t := 68) c_1 dX6_count_1 (by decide) (by decide) rfl (by decide) ?_
    refine g_aload_n (q := 69) dX6_count_68 rfl rfl ?_
    refine f6_2 (q := 72) wd_268 dX6_count_69 rfl ?_
    refine f1_5 (q := 75) rfl wd_152 dX6_count_72 rfl ?_
    exact g_iret dX6_count_75 (pi_i (by simp only [m_count, c_1, show ((2 : Int32) = 0) = False from by decide, show ((2 : Int32) = 1) = False from by decide, show ((2 : Int32) = 3) = False from by decide, show ((2 : Int32) = 4) = False from by decide, show ((2 : Int32) = 5) = False from by decide, show ((2 : Int32) = 6) = False from by decide, show ((2 : Int32) = 7) = False from by decide, show ((2 : Int32) = 8) = False from by decide, not_true_eq_false, not_false_eq_true, if_true, if_false, Bool.true_eq_false, Bool.false_eq_true, reduceIte, reduceCtorEq]) (by simp only [m_count, c_1, show ((2 : Int32) = 0) = False from by decide, show ((2 : Int32) = 1) = False from by decide, show ((2 : Int32) = 3) = False from by decide, show ((2 : Int32) = 4) = False from by decide, show ((2 : Int32) = 5) = False from by decide, show ((2 : Int32) = 6) = False from by decide, show ((2 : Int32) = 7) = False from by decide, show ((2 : Int32) = 8) = False from by decide, not_true_eq_false, not_false_eq_true, if_true, if_false, Bool.true_eq_false, Bool.false_eq_true, reduceIte, reduceCtorEq]) rfl)
  · refine g_tabV (t := 76) c_1 dX6_count_1 (by decide) (by decide) rfl (by decide) ?_
    refine g_aload_n (q := 77) dX6_count_76 rfl rfl ?_
    refine f6_2 (q := 80) wd_268 dX6_count_77 rfl ?_
    refine f1_7 (q := 83) rfl wd_158 dX6_count_80 rfl ?_
    exact g_iret dX6_count_83 (pi_i (by simp only [m_count, c_1, show ((3 : Int32) = 0) = False from by decide, show ((3 : Int32) = 1) = False from by decide, show ((3 : Int32) = 2) = False from by decide, show ((3 : Int32) = 4) = False from by decide, show ((3 : Int32) = 5) = False from by decide, show ((3 : Int32) = 6) = False from by decide, show ((3 : Int32) = 7) = False from by decide, show ((3 : Int32) = 8) = False from by decide, not_true_eq_false, not_false_eq_true, if_true, if_false, Bool.true_eq_false, Bool.false_eq_true, reduceIte, reduceCtorEq]) (by simp only [m_count, c_1, show ((3 : Int32) = 0) = False from by decide, show ((3 : Int32) = 1) = False from by decide, show ((3 : Int32) = 2) = False from by decide, show ((3 : Int32) = 4) = False from by decide, show ((3 : Int32) = 5) = False from by decide, show ((3 : Int32) = 6) = False from by decide, show ((3 : Int32) = 7) = False from by decide, show ((3 : Int32) = 8) = False from by decide, not_true_eq_false, not_false_eq_true, if_true, if_false, Bool.true_eq_false, Bool.false_eq_true, reduceIte, reduceCtorEq]) rfl)
  · refine g_tabV (t := 84) c_1 dX6_count_1 (by decide) (by decide) rfl (by decide) ?_
    refine g_aload_n (q := 85) dX6_count_84 rfl rfl ?_
    refine f6_2 (q := 88) wd_268 dX6_count_85 rfl ?_
    refine f1_4 (q := 91) rfl wd_149 dX6_count_88 rfl ?_
    exact g_iret dX6_count_91 (pi_i (by simp only [m_count, c_1, show ((4 : Int32) = 0) = False from by decide, show ((4 : Int32) = 1) = False from by decide, show ((4 : Int32) = 2) = False from by decide, show ((4 : Int32) = 3) = False from by decide, show ((4 : Int32) = 5) = False from by decide, show ((4 : Int32) = 6) = False from by decide, show ((4 : Int32) = 7) = False from by decide, show ((4 : Int32) = 8) = False from by decide, not_true_eq_false, not_false_eq_true, if_true, if_false, Bool.true_eq_false, Bool.false_eq_true, reduceIte, reduceCtorEq]) (by simp only [m_count, c_1, show ((4 : Int32) = 0) = False from by decide, show ((4 : Int32) = 1) = False from by decide, show ((4 : Int32) = 2) = False from by decide, show ((4 : Int32) = 3) = False from by decide, show ((4 : Int32) = 5) = False from by decide, show ((4 : Int32) = 6) = False from by decide, show ((4 : Int32) = 7) = False from by decide, show ((4 : Int32) = 8) = False from by decide, not_true_eq_false, not_false_eq_true, if_true, if_false, Bool.true_eq_false, Bool.false_eq_true, reduceIte, reduceCtorEq]) rfl)
  · refine g_tabV (t := 92) c_1 dX6_count_1 (by decide) (by decide) rfl (by decide) ?_
    refine g_aload_n (q := 93) dX6_count_92 rfl rfl ?_
    refine f6_2 (q := 96) wd_268 dX6_count_93 rfl ?_
    refine g_callVi (q := 99) (c_X1_allCold hE rfl (by exact w)) lk_RX6_156 (Nat.zero_le _) (h_lt rfl) rfl (by decide) rfl rfl rfl rfl rfl rfl (Nat.le_of_ble_eq_true rfl) (Nat.le_of_ble_eq_true rfl) (Nat.le_of_ble_eq_true rfl) dX6_count_96 rfl ?_
    exact g_iret dX6_count_99 (pi_i (by simp only [m_count, c_1, show ((5 : Int32) = 0) = False from by decide, show ((5 : Int32) = 1) = False from by decide, show ((5 : Int32) = 2) = False from by decide, show ((5 : Int32) = 3) = False from by decide, show ((5 : Int32) = 4) = False from by decide, show ((5 : Int32) = 6) = False from by decide, show ((5 : Int32) = 7) = False from by decide, show ((5 : Int32) = 8) = False from by decide, not_true_eq_false, not_false_eq_true, if_true, if_false, Bool.true_eq_false, Bool.false_eq_true, reduceIte, reduceCtorEq]) (by simp only [m_count, c_1, show ((5 : Int32) = 0) = False from by decide, show ((5 : Int32) = 1) = False from by decide, show ((5 : Int32) = 2) = False from by decide, show ((5 : Int32) = 3) = False from by decide, show ((5 : Int32) = 4) = False from by decide, show ((5 : Int32) = 6) = False from by decide, show ((5 : Int32) = 7) = False from by decide, show ((5 : Int32) = 8) = False from by decide, not_true_eq_false, not_false_eq_true, if_true, if_false, Bool.true_eq_false, Bool.false_eq_true, reduceIte, reduceCtorEq]) rfl)
  · refine g_tabV (t := 100) c_1 dX6_count_1 (by decide) (by decide) rfl (by decide) ?_
    refine g_aload_n (q := 101) dX6_count_100 rfl rfl ?_
    refine f6_2 (q := 104) wd_268 dX6_count_101 rfl ?_
    refine f1_6 (q := 107) rfl wd_155 dX6_count_104 rfl ?_
    exact g_iret dX6_count_107 (pi_i (by simp only [m_count, c_1, show ((6 : Int32) = 0) = False from by decide, show ((6 : Int32) = 1) = False from by decide, show ((6 : Int32) = 2) = False from by decide, show ((6 : Int32) = 3) = False from by decide, show ((6 : Int32) = 4) = False from by decide, show ((6 : Int32) = 5) = False from by decide, show ((6 : Int32) = 7) = False from by decide, show ((6 : Int32) = 8) = False from by decide, not_true_eq_false, not_false_eq_true, if_true, if_false, Bool.true_eq_false, Bool.false_eq_true, reduceIte, reduceCtorEq]) (by simp only [m_count, c_1, show ((6 : Int32) = 0) = False from by decide, show ((6 : Int32) = 1) = False from by decide, show ((6 : Int32) = 2) = False from by decide, show ((6 : Int32) = 3) = False from by decide, show ((6 : Int32) = 4) = False from by decide, show ((6 : Int32) = 5) = False from by decide, show ((6 : Int32) = 7) = False from by decide, show ((6 : Int32) = 8) = False from by decide, not_true_eq_false, not_false_eq_true, if_true, if_false, Bool.true_eq_false, Bool.false_eq_true, reduceIte, reduceCtorEq]) rfl)
  · refine g_tabV (t := 108) c_1 dX6_count_1 (by decide) (by decide) rfl (by decide) ?_
    refine g_aload_n (q := 109) dX6_count_108 rfl rfl ?_
    refine f6_3 (q := 112) wd_269 dX6_count_109 rfl ?_
    refine f2_2 (q := 115) wd_218 dX6_count_112 rfl ?_
    exact g_iret dX6_count_115 (pi_i (by simp only [m_count, c_1, show ((7 : Int32) = 0) = False from by decide, show ((7 : Int32) = 1) = False from by decide, show ((7 : Int32) = 2) = False from by decide, show ((7 : Int32) = 3) = False from by decide, show ((7 : Int32) = 4) = False from by decide, show ((7 : Int32) = 5) = False from by decide, show ((7 : Int32) = 6) = False from by decide, show ((7 : Int32) = 8) = False from by decide, not_true_eq_false, not_false_eq_true, if_true, if_false, Bool.true_eq_false, Bool.false_eq_true, reduceIte, reduceCtorEq]) (by simp only [m_count, c_1, show ((7 : Int32) = 0) = False from by decide, show ((7 : Int32) = 1) = False from by decide, show ((7 : Int32) = 2) = False from by decide, show ((7 : Int32) = 3) = False from by decide, show ((7 : Int32) = 4) = False from by decide, show ((7 : Int32) = 5) = False from by decide, show ((7 : Int32) = 6) = False from by decide, show ((7 : Int32) = 8) = False from by decide, not_true_eq_false, not_false_eq_true, if_true, if_false, Bool.true_eq_false, Bool.false_eq_true, reduceIte, reduceCtorEq]) rfl)
  · refine g_tabV (t := 116) c_1 dX6_count_1 (by decide) (by decide) rfl (by decide) ?_
    refine g_aload_n (q := 117) dX6_count_116 rfl rfl ?_
    refine f6_1 (q := 120) wd_267 dX6_count_117 rfl ?_
    refine f5_2 (q := 123) wd_116 dX6_count_120 rfl ?_
    exact g_iret dX6_count_123 (pi_i (by simp only [m_count, c_1, show ((8 : Int32) = 0) = False from by decide, show ((8 : Int32) = 1) = False from by decide, show ((8 : Int32) = 2) = False from by decide, show ((8 : Int32) = 3) = False from by decide, show ((8 : Int32) = 4) = False from by decide, show ((8 : Int32) = 5) = False from by decide, show ((8 : Int32) = 6) = False from by decide, show ((8 : Int32) = 7) = False from by decide, not_true_eq_false, not_false_eq_true, if_true, if_false, Bool.true_eq_false, Bool.false_eq_true, reduceIte, reduceCtorEq]) (by simp only [m_count, c_1, show ((8 : Int32) = 0) = False from by decide, show ((8 : Int32) = 1) = False from by decide, show ((8 : Int32) = 2) = False from by decide, show ((8 : Int32) = 3) = False from by decide, show ((8 : Int32) = 4) = False from by decide, show ((8 : Int32) = 5) = False from by decide, show ((8 : Int32) = 6) = False from by decide, show ((8 : Int32) = 7) = False from by decide, not_true_eq_false, not_false_eq_true, if_true, if_false, Bool.true_eq_false, Bool.false_eq_true, reduceIte, reduceCtorEq]) rfl)
set_option maxRecDepth 20000 in
set_option maxHeartbeats 4000000 in
theorem c_X6_image {E : EE} (hE : inj E 0 40) {σ : Sto} {τ : Stl} {k : Int32}  : Ct E 0 40 yX6_image cX6_image 2 (some FieldType.int) { frames := 2, cells := 0, slots := 0, locals := 47 } [.ref (E.2.1 0), .int k] σ τ (Pi ((m_image σ k).1) ((m_image σ k).2) (τ)) := by
  refine ct_of hE RX6 [some (.ref (E.2.1 0)), some (.int k)] (by decide) rfl (Nat.le_of_ble_eq_true rfl) rfl (fun X => ?_)
  refine g_iload_n (q := 1) dX6_image_0 rfl rfl ?_
  refine g_iconst (q := 2) dX6_image_1 ci_0 rfl ?_
  refine g_iconst (q := 3) dX6_image_2 ci_1 rfl ?_
  refine g_callSi (q := 6) (c_X6_within hE ) lk_RX6_61 rfl rfl rfl rfl (Nat.le_of_ble_eq_true rfl) (Nat.le_of_ble_eq_true rfl) (Nat.le_of_ble_eq_true rfl) dX6_image_3 rfl ?_
  refine g_if_ne (t := 12) (q := 9) dX6_image_6 (by decide) rfl (fun c_6 => ?_) (fun c_6 => ?_)
  · rw [bI_n0] at c_6
    refine g_aload_n (q := 13) dX6_image_12 rfl rfl ?_
    refine f6_2 (q := 16) wd_268 dX6_image_13 rfl ?_
    refine g_callVi (q := 19) (c_X1_stands hE rfl) lk_RX6_144 (Nat.zero_le _) (h_lt rfl) rfl (by decide) rfl rfl rfl rfl rfl rfl (Nat.le_of_ble_eq_true rfl) (Nat.le_of_ble_eq_true rfl) (Nat.le_of_ble_eq_true rfl) dX6_image_16 rfl ?_
    refine g_if_ne (t := 25) (q := 22) dX6_image_19 (by decide) rfl (fun c_19 => ?_) (fun c_19 => ?_)
    · rw [bI_n0] at c_19
      change stB σ = true at c_19
      rcases wi01 c_6 with rfl | rfl
      · refine g_aload_n (q := 26) dX6_image_25 rfl rfl ?_
        refine g_iload_n (q := 27) dX6_image_26 rfl rfl ?_
        refine g_callVr (q := 30) (c_X6_imageOf_0 hE ) lk_RX6_271 (by decide) (by decide) rfl (by decide) rfl rfl rfl rfl rfl rfl (Nat.le_of_ble_eq_true rfl) (Nat.le_of_ble_eq_true rfl) (Nat.le_of_ble_eq_true rfl) dX6_image_27 rfl ?_
        refine g_aload_n (q := 31) dX6_image_30 rfl rfl ?_
        refine f6_2 (q := 34) wd_268 dX6_image_31 rfl ?_
        refine g_callVv (q := 37) (c_X1_become hE rfl rfl (by decide)) lk_RX6_127 (Nat.zero_le _) (h_lt rfl) rfl (by decide) rfl rfl rfl rfl rfl rfl (Nat.le_of_ble_eq_true rfl) (Nat.le_of_ble_eq_true rfl) (Nat.le_of_ble_eq_true rfl) dX6_image_34 rfl ?_
        refine g_iconst (q := 38) dX6_image_37 ci_1 rfl ?_
        exact g_iret dX6_image_38 (pi_i (by simp only [m_image, c_6, c_19, not_true_eq_false, not_false_eq_true, if_true, if_false, Bool.true_eq_false, Bool.false_eq_true, reduceIte, reduceCtorEq, show ((1 : Int32) = 0) = False from by decide, show wi 0 0 1 = true from by decide, show wi 1 0 1 = true from by decide]) (by simp only [m_image, c_6, c_19, not_true_eq_false, not_false_eq_true, if_true, if_false, Bool.true_eq_false, Bool.false_eq_true, reduceIte, reduceCtorEq, show ((1 : Int32) = 0) = False from by decide, show wi 0 0 1 = true from by decide, show wi 1 0 1 = true from by decide]) rfl)
      · refine g_aload_n (q := 26) dX6_image_25 rfl rfl ?_
        refine g_iload_n (q := 27) dX6_image_26 rfl rfl ?_
        refine g_callVr (q := 30) (c_X6_imageOf_1 hE ) lk_RX6_271 (by decide) (by decide) rfl (by decide) rfl rfl rfl rfl rfl rfl (Nat.le_of_ble_eq_true rfl) (Nat.le_of_ble_eq_true rfl) (Nat.le_of_ble_eq_true rfl) dX6_image_27 rfl ?_
        refine g_aload_n (q := 31) dX6_image_30 rfl rfl ?_
        refine f6_2 (q := 34) wd_268 dX6_image_31 rfl ?_
        refine g_callVv (q := 37) (c_X1_become hE rfl rfl (by decide)) lk_RX6_127 (Nat.zero_le _) (h_lt rfl) rfl (by decide) rfl rfl rfl rfl rfl rfl (Nat.le_of_ble_eq_true rfl) (Nat.le_of_ble_eq_true rfl) (Nat.le_of_ble_eq_true rfl) dX6_image_34 rfl ?_
        refine g_iconst (q := 38) dX6_image_37 ci_1 rfl ?_
        exact g_iret dX6_image_38 (pi_i (by simp only [m_image, c_6, c_19, not_true_eq_false, not_false_eq_true, if_true, if_false, Bool.true_eq_false, Bool.false_eq_true, reduceIte, reduceCtorEq, show ((1 : Int32) = 0) = False from by decide, show wi 0 0 1 = true from by decide, show wi 1 0 1 = true from by decide]) (by simp only [m_image, c_6, c_19, not_true_eq_false, not_false_eq_true, if_true, if_false, Bool.true_eq_false, Bool.false_eq_true, reduceIte, reduceCtorEq, show ((1 : Int32) = 0) = False from by decide, show wi 0 0 1 = true from by decide, show wi 1 0 1 = true from by decide]) rfl)
    · rw [bI_0] at c_19
      change stB σ = false at c_19
      refine g_ldc (q := 24) dX6_image_22 wd_465 rfl ?_
      exact g_iret dX6_image_24 (pi_i (by simp only [m_image, c_6, c_19, not_true_eq_false, not_false_eq_true, if_true, if_false, Bool.true_eq_false, Bool.false_eq_true, reduceIte, reduceCtorEq]) (by simp only [m_image, c_6, c_19, not_true_eq_false, not_false_eq_true, if_true, if_false, Bool.true_eq_false, Bool.false_eq_true, reduceIte, reduceCtorEq]) rfl)
  · rw [bI_0] at c_6
    refine g_ldc (q := 11) dX6_image_9 wd_307 rfl ?_
    exact g_iret dX6_image_11 (pi_i (by simp only [m_image, c_6, not_true_eq_false, not_false_eq_true, if_true, if_false, Bool.true_eq_false, Bool.false_eq_true, reduceIte, reduceCtorEq]) (by simp only [m_image, c_6, not_true_eq_false, not_false_eq_true, if_true, if_false, Bool.true_eq_false, Bool.false_eq_true, reduceIte, reduceCtorEq]) rfl)
set_option maxRecDepth 20000 in
set_option maxHeartbeats 4000000 in
theorem c_X6_restore {E : EE} (hE : inj E 0 40) {σ : Sto} {τ : Stl} {k : Int32}  : Ct E 0 40 yX6_restore cX6_restore 2 (some FieldType.int) { frames := 2, cells := 0, slots := 0, locals := 47 } [.ref (E.2.1 0), .int k] σ τ (Pi ((m_restore σ k).1) ((m_restore σ k).2) (τ)) := by
  refine ct_of hE RX6 [some (.ref (E.2.1 0)), some (.int k)] (by decide) rfl (Nat.le_of_ble_eq_true rfl) rfl (fun X => ?_)
  refine g_iload_n (q := 1) dX6_restore_0 rfl rfl ?_
  refine g_iconst (q := 2) dX6_restore_1 ci_0 rfl ?_
  refine g_iconst (q := 3) dX6_restore_2 ci_1 rfl ?_
  refine g_callSi (q := 6) (c_X6_within hE ) lk_RX6_61 rfl rfl rfl rfl (Nat.le_of_ble_eq_true rfl) (Nat.le_of_ble_eq_true rfl) (Nat.le_of_ble_eq_true rfl) dX6_restore_3 rfl ?_
  refine g_if_ne (t := 12) (q := 9) dX6_restore_6 (by decide) rfl (fun c_6 => ?_) (fun c_6 => ?_)
  · rw [bI_n0] at c_6
    rcases wi01 c_6 with rfl | rfl
    · refine g_aload_n (q := 13) dX6_restore_12 rfl rfl ?_
      refine g_iload_n (q := 14) dX6_restore_13 rfl rfl ?_
      refine g_callVr (q := 17) (c_X6_imageOf_0 hE ) lk_RX6_271 (by decide) (by decide) rfl (by decide) rfl rfl rfl rfl rfl rfl (Nat.le_of_ble_eq_true rfl) (Nat.le_of_ble_eq_true rfl) (Nat.le_of_ble_eq_true rfl) dX6_restore_14 rfl ?_
      refine g_callVi (q := 20) (c_X1_stands hE rfl) lk_RX6_144 (Nat.zero_le _) (h_lt rfl) rfl (by decide) rfl rfl rfl rfl rfl rfl (Nat.le_of_ble_eq_true rfl) (Nat.le_of_ble_eq_true rfl) (Nat.le_of_ble_eq_true rfl) dX6_restore_17 rfl ?_
      refine g_if_ne (t := 26) (q := 23) dX6_restore_20 (by decide) rfl (fun c_20 => ?_) (fun c_20 => ?_)
      · rw [bI_n0] at c_20
        refine g_aload_n (q := 27) dX6_restore_26 rfl rfl ?_
        refine f6_2 (q := 30) wd_268 dX6_restore_27 rfl ?_
        refine g_aload_n (q := 31) dX6_restore_30 rfl rfl ?_
        refine g_iload_n (q := 32) dX6_restore_31 rfl rfl ?_
        refine g_callVr (q := 35) (c_X6_imageOf_0 hE ) lk_RX6_271 (by decide) (by decide) rfl (by decide) rfl rfl rfl rfl rfl rfl (Nat.le_of_ble_eq_true rfl) (Nat.le_of_ble_eq_true rfl) (Nat.le_of_ble_eq_true rfl) dX6_restore_32 rfl ?_
        refine g_callVv (q := 38) (c_X1_become hE rfl rfl (by decide)) lk_RX6_127 (Nat.zero_le _) (h_lt rfl) rfl (by decide) rfl rfl rfl rfl rfl rfl (Nat.le_of_ble_eq_true rfl) (Nat.le_of_ble_eq_true rfl) (Nat.le_of_ble_eq_true rfl) dX6_restore_35 rfl ?_
        refine g_aload_n (q := 39) dX6_restore_38 rfl rfl ?_
        refine f6_3 (q := 42) wd_269 dX6_restore_39 rfl ?_
        refine g_callVv (q := 45) (c_X2_forget hE ) lk_RX6_131 (by decide) (by decide) rfl (by decide) rfl rfl rfl rfl rfl rfl (Nat.le_of_ble_eq_true rfl) (Nat.le_of_ble_eq_true rfl) (Nat.le_of_ble_eq_true rfl) dX6_restore_42 rfl ?_
        refine g_iconst (q := 46) dX6_restore_45 ci_1 rfl ?_
        exact g_iret dX6_restore_46 (pi_i (by simp only [m_restore, c_6, c_20, not_true_eq_false, not_false_eq_true, if_true, if_false, Bool.true_eq_false, Bool.false_eq_true, reduceIte, reduceCtorEq, show ((1 : Int32) = 0) = False from by decide, show wi 0 0 1 = true from by decide, show wi 1 0 1 = true from by decide]) (by simp only [m_restore, c_6, c_20, not_true_eq_false, not_false_eq_true, if_true, if_false, Bool.true_eq_false, Bool.false_eq_true, reduceIte, reduceCtorEq, show ((1 : Int32) = 0) = False from by decide, show wi 0 0 1 = true from by decide, show wi 1 0 1 = true from by decide]) rfl)
      · rw [bI_0] at c_20
        refine g_ldc (q := 25) dX6_restore_23 wd_465 rfl ?_
        exact g_iret dX6_restore_25 (pi_i (by simp only [m_restore, c_6, c_20, not_true_eq_false, not_false_eq_true, if_true, if_false, Bool.true_eq_false, Bool.false_eq_true, reduceIte, reduceCtorEq, show ((1 : Int32) = 0) = False from by decide, show wi 0 0 1 = true from by decide, show wi 1 0 1 = true from by decide]) (by simp only [m_restore, c_6, c_20, not_true_eq_false, not_false_eq_true, if_true, if_false, Bool.true_eq_false, Bool.false_eq_true, reduceIte, reduceCtorEq, show ((1 : Int32) = 0) = False from by decide, show wi 0 0 1 = true from by decide, show wi 1 0 1 = true from by decide]) rfl)
    · refine g_aload_n (q := 13) dX6_restore_12 rfl rfl ?_
      refine g_iload_n (q := 14) dX6_restore_13 rfl rfl ?_
      refine g_callVr (q := 17) (c_X6_imageOf_1 hE ) lk_RX6_271 (by decide) (by decide) rfl (by decide) rfl rfl rfl rfl rfl rfl (Nat.le_of_ble_eq_true rfl) (Nat.le_of_ble_eq_true rfl) (Nat.le_of_ble_eq_true rfl) dX6_restore_14 rfl ?_
      refine g_callVi (q := 20) (c_X1_stands hE rfl) lk_RX6_144 (Nat.zero_le _) (h_lt rfl) rfl (by decide) rfl rfl rfl rfl rfl rfl (Nat.le_of_ble_eq_true rfl) (Nat.le_of_ble_eq_true rfl) (Nat.le_of_ble_eq_true rfl) dX6_restore_17 rfl ?_
      refine g_if_ne (t := 26) (q := 23) dX6_restore_20 (by decide) rfl (fun c_20 => ?_) (fun c_20 => ?_)
      · rw [bI_n0] at c_20
        refine g_aload_n (q := 27) dX6_restore_26 rfl rfl ?_
        refine f6_2 (q := 30) wd_268 dX6_restore_27 rfl ?_
        refine g_aload_n (q := 31) dX6_restore_30 rfl rfl ?_
        refine g_iload_n (q := 32) dX6_restore_31 rfl rfl ?_
        refine g_callVr (q := 35) (c_X6_imageOf_1 hE ) lk_RX6_271 (by decide) (by decide) rfl (by decide) rfl rfl rfl rfl rfl rfl (Nat.le_of_ble_eq_true rfl) (Nat.le_of_ble_eq_true rfl) (Nat.le_of_ble_eq_true rfl) dX6_restore_32 rfl ?_
        refine g_callVv (q := 38) (c_X1_become hE rfl rfl (by decide)) lk_RX6_127 (Nat.zero_le _) (h_lt rfl) rfl (by decide) rfl rfl rfl rfl rfl rfl (Nat.le_of_ble_eq_true rfl) (Nat.le_of_ble_eq_true rfl) (Nat.le_of_ble_eq_true rfl) dX6_restore_35 rfl ?_
        refine g_aload_n (q := 39) dX6_restore_38 rfl rfl ?_
        refine f6_3 (q := 42) wd_269 dX6_restore_39 rfl ?_
        refine g_callVv (q := 45) (c_X2_forget hE ) lk_RX6_131 (by decide) (by decide) rfl (by decide) rfl rfl rfl rfl rfl rfl (Nat.le_of_ble_eq_true rfl) (Nat.le_of_ble_eq_true rfl) (Nat.le_of_ble_eq_true rfl) dX6_restore_42 rfl ?_
        refine g_iconst (q := 46) dX6_restore_45 ci_1 rfl ?_
        exact g_iret dX6_restore_46 (pi_i (by simp only [m_restore, c_6, c_20, not_true_eq_false, not_false_eq_true, if_true, if_false, Bool.true_eq_false, Bool.false_eq_true, reduceIte, reduceCtorEq, show ((1 : Int32) = 0) = False from by decide, show wi 0 0 1 = true from by decide, show wi 1 0 1 = true from by decide]) (by simp only [m_restore, c_6, c_20, not_true_eq_false, not_false_eq_true, if_true, if_false, Bool.true_eq_false, Bool.false_eq_true, reduceIte, reduceCtorEq, show ((1 : Int32) = 0) = False from by decide, show wi 0 0 1 = true from by decide, show wi 1 0 1 = true from by decide]) rfl)
      · rw [bI_0] at c_20
        refine g_ldc (q := 25) dX6_restore_23 wd_465 rfl ?_
        exact g_iret dX6_restore_25 (pi_i (by simp only [m_restore, c_6, c_20, not_true_eq_false, not_false_eq_true, if_true, if_false, Bool.true_eq_false, Bool.false_eq_true, reduceIte, reduceCtorEq, show ((1 : Int32) = 0) = False from by decide, show wi 0 0 1 = true from by decide, show wi 1 0 1 = true from by decide]) (by simp only [m_restore, c_6, c_20, not_true_eq_false, not_false_eq_true, if_true, if_false, Bool.true_eq_false, Bool.false_eq_true, reduceIte, reduceCtorEq, show ((1 : Int32) = 0) = False from by decide, show wi 0 0 1 = true from by decide, show wi 1 0 1 = true from by decide]) rfl)
  · rw [bI_0] at c_6
    refine g_ldc (q := 11) dX6_restore_9 wd_307 rfl ?_
    exact g_iret dX6_restore_11 (pi_i (by simp only [m_restore, c_6, not_true_eq_false, not_false_eq_true, if_true, if_false, Bool.true_eq_false, Bool.false_eq_true, reduceIte, reduceCtorEq]) (by simp only [m_restore, c_6, not_true_eq_false, not_false_eq_true, if_true, if_false, Bool.true_eq_false, Bool.false_eq_true, reduceIte, reduceCtorEq]) rfl)
set_option maxRecDepth 20000 in
set_option maxHeartbeats 4000000 in
theorem c_X6_guest {E : EE} (hE : inj E 0 40) {σ : Sto} {τ : Stl} {r : Int32} (w : WFH σ 7) : Ct E 0 40 yX6_guest cX6_guest 2 (some FieldType.int) { frames := 1, cells := 0, slots := 0, locals := 26 } [.ref (E.2.1 0), .int r] σ τ (Pi ((m_guest σ r).1) ((m_guest σ r).2) (τ)) := by
  refine ct_of hE RX6 [some (.ref (E.2.1 0)), some (.int r)] (by decide) rfl (Nat.le_of_ble_eq_true rfl) rfl (fun X => ?_)
  refine g_aload_n (q := 1) dX6_guest_0 rfl rfl ?_
  refine f6_2 (q := 4) wd_268 dX6_guest_1 rfl ?_
  refine g_callVi (q := 7) (c_X1_stands hE rfl) lk_RX6_144 (Nat.zero_le _) (h_lt rfl) rfl (by decide) rfl rfl rfl rfl rfl rfl (Nat.le_of_ble_eq_true rfl) (Nat.le_of_ble_eq_true rfl) (Nat.le_of_ble_eq_true rfl) dX6_guest_4 rfl ?_
  refine g_if_ne (t := 13) (q := 10) dX6_guest_7 (by decide) rfl (fun c_7 => ?_) (fun c_7 => ?_)
  · rw [bI_n0] at c_7
    change stB σ = true at c_7
    refine g_aload_n (q := 14) dX6_guest_13 rfl rfl ?_
    refine f6_2 (q := 17) wd_268 dX6_guest_14 rfl ?_
    refine g_iload_n (q := 18) dX6_guest_17 rfl rfl ?_
    refine g_callVi (q := 21) (c_X1_hasRoom hE rfl) lk_RX6_176 (Nat.zero_le _) (h_lt rfl) rfl (by decide) rfl rfl rfl rfl rfl rfl (Nat.le_of_ble_eq_true rfl) (Nat.le_of_ble_eq_true rfl) (Nat.le_of_ble_eq_true rfl) dX6_guest_18 rfl ?_
    refine g_if_eq (t := 42) (q := 24) dX6_guest_21 (by decide) rfl (fun c_21 => ?_) (fun c_21 => ?_)
    · rw [bI_0] at c_21
      refine g_ldc (q := 44) dX6_guest_42 wd_307 rfl ?_
      exact g_iret dX6_guest_44 (pi_i (by simp only [m_guest, c_7, c_21, not_true_eq_false, not_false_eq_true, if_true, if_false, Bool.true_eq_false, Bool.false_eq_true, reduceIte, reduceCtorEq]) (by simp only [m_guest, c_7, c_21, not_true_eq_false, not_false_eq_true, if_true, if_false, Bool.true_eq_false, Bool.false_eq_true, reduceIte, reduceCtorEq]) rfl)
    · rw [bI_n0] at c_21
      refine g_aload_n (q := 25) dX6_guest_24 rfl rfl ?_
      refine f6_2 (q := 28) wd_268 dX6_guest_25 rfl ?_
      refine g_iload_n (q := 29) dX6_guest_28 rfl rfl ?_
      refine g_aload_n (q := 30) dX6_guest_29 rfl rfl ?_
      refine f6_2 (q := 33) wd_268 dX6_guest_30 rfl ?_
      refine f1_6 (q := 36) rfl wd_155 dX6_guest_33 rfl ?_
      refine g_callVi (q := 39) (c_X1_roomsLedTo hE rfl w (of_decide_eq_true c_7)) lk_RX6_249 (Nat.zero_le _) (h_lt rfl) rfl (by decide) rfl rfl rfl rfl rfl rfl (Nat.le_of_ble_eq_true rfl) (Nat.le_of_ble_eq_true rfl) (Nat.le_of_ble_eq_true rfl) dX6_guest_36 rfl ?_
      refine g_goto (t := 44) dX6_guest_39 (by decide) ?_
      exact g_iret dX6_guest_44 (pi_i (by simp only [m_guest, c_7, c_21, not_true_eq_false, not_false_eq_true, if_true, if_false, Bool.true_eq_false, Bool.false_eq_true, reduceIte, reduceCtorEq]) (by simp only [m_guest, c_7, c_21, not_true_eq_false, not_false_eq_true, if_true, if_false, Bool.true_eq_false, Bool.false_eq_true, reduceIte, reduceCtorEq]) rfl)
  · rw [bI_0] at c_7
    change stB σ = false at c_7
    refine g_ldc (q := 12) dX6_guest_10 wd_465 rfl ?_
    exact g_iret dX6_guest_12 (pi_i (by simp only [m_guest, c_7, not_true_eq_false, not_false_eq_true, if_true, if_false, Bool.true_eq_false, Bool.false_eq_true, reduceIte, reduceCtorEq]) (by simp only [m_guest, c_7, not_true_eq_false, not_false_eq_true, if_true, if_false, Bool.true_eq_false, Bool.false_eq_true, reduceIte, reduceCtorEq]) rfl)
