def obI : Option Nat → Int32
  | none => -1
  | some b => nI b
def onN : Option Nat → Nat
  | none => 32
  | some b => pop8 b
def o256 (o : Option Nat) : Prop := ∀ b, o = some b → b < 256
theorem ob_ones {o : Option Nat} (h : o256 o) : itO (obI o) (onN o) = 0 ∧ (∀ i, i < onN o → ¬ itO (obI o) i = 0) ∧ onN o ≤ 32 := by
  cases o with
  | none => exact ⟨by decide, by decide, Nat.le_refl _⟩
  | some b => exact ⟨(ones_ok b (h b rfl)).1, (ones_ok b (h b rfl)).2, Nat.le_trans (pop_le b) (by decide)⟩
def btr (o : Option Nat) (j : Nat) : Bool := match o with
  | none => true
  | some b => decide (pop8 j < pop8 b)
def bsM (hit : Nat → Bool) : Nat → Option Nat
  | 0 => none
  | j + 1 => if (btr (bsM hit j) j && hit j) = true then some j else bsM hit j
theorem bs_lt (hit : Nat → Bool) (j : Nat) : ∀ b, bsM hit j = some b → b < j := by
  induction j with
  | zero => intro b h; exact absurd h (by simp [bsM])
  | succ j ih =>
    intro b h
    simp only [bsM] at h
    split at h
    · have := Option.some.inj h
      omega
    · have := ih b h
      omega
theorem bs_no {hit : Nat → Bool} {j : Nat} (h : hit j = false) : bsM hit (j + 1) = bsM hit j := by
  show (if (btr (bsM hit j) j && hit j) = true then some j else bsM hit j) = bsM hit j
  rw [h, Bool.and_false, if_neg (by decide)]
theorem bs_256 (hit : Nat → Bool) {j : Nat} (hj : j ≤ 256) : o256 (bsM hit j) := fun b h => by have := bs_lt hit j b h; omega
theorem ob_neg {o : Option Nat} (h : o256 o) : obI o < 0 ↔ o = none := by
  cases o with
  | none => exact ⟨fun _ => rfl, fun _ => by decide⟩
  | some b => exact ⟨fun q => absurd q (nI_pos (by have := h b rfl; omega)), fun q => absurd q (by simp)⟩
theorem btr1 {o : Option Nat} (h : o256 o) {j : Nat} (c : obI o < 0) : btr o j = true := by rw [(ob_neg h).mp c]; rfl
theorem btr2 {o : Option Nat} (h : o256 o) {j : Nat} (c : ¬ obI o < 0) : (¬ nI (onN o) ≤ nI (pop8 j)) ↔ btr o j = true := by
  cases o with
  | none => exact absurd (by decide) c
  | some b =>
    have h1 := pop_le b
    have h2 := pop_le j
    show ¬ nI (pop8 b) ≤ nI (pop8 j) ↔ decide (pop8 j < pop8 b) = true
    rw [nI_leI (by omega) (by omega), decide_eq_true_eq, Nat.not_le]
def hsB (s k : Int32) : Bool := (s >>> (k &&& 31)) &&& 1 == 1
def rb1 (m : Nat → Int32) (d : Nat) (s : Int32) : Int32 := if hsB s (m (13 + d)) = true then s ||| (1 <<< (m (21 + d) &&& 31)) else s
def rb2 (m : Nat → Int32) (d : Nat) (s : Int32) : Int32 := if hsB s (m (21 + d)) = true then s ||| (1 <<< (m (13 + d) &&& 31)) else s
def rbM (m : Nat → Int32) (D f : Int32) : Nat → Int32
  | 0 => 1 <<< (f &&& 31)
  | k + 1 => if hsB D (nI (k % 8)) = true then rb2 m (k % 8) (rb1 m (k % 8) (rbM m D f k)) else rbM m D f k
def mvS (σ : Sto) (n : Int32) (j : Nat) : Nat → Int32 := q_hrs (q_tu (σ 44) (nI j) ((σ 44 4).toNatClampNeg)) (n.toNatClampNeg)
def mvX (σ : Sto) (a b t n : Int32) (j : Nat) : Bool := (a &&& (s_crM (mvS σ n j) t ((mvS σ n j 0).toNatClampNeg) ^^^ (-1)) == 0) && (b &&& s_crM (mvS σ n j) t ((mvS σ n j 0).toNatClampNeg) == 0)
def mvR (σ : Sto) (a b t n : Int32) : Option Nat := bsM (mvX σ a b t n) (2 ^ (σ 44 4).toNatClampNeg)
def q_moved (σ : Sto) (a b t n u : Int32) : Int32 × Sto := if σ 40 4 = 0 then (-1000002, σ) else if wi a 0 ((1 <<< (σ 44 0 &&& 31)) - 1) = false then (-1000001, σ) else if wi b 0 ((1 <<< (σ 44 0 &&& 31)) - 1) = false then (-1000001, σ) else if ¬ a &&& b = 0 then (-1000001, σ) else if wi t 1 999 = false then (-1000001, σ) else if wi n 1 24 = false then (-1000001, σ) else if wi u 0 1 = false then (-1000001, σ) else (if 0 ≤ obI (mvR σ a b t n) then (if u = 0 then nI (onN (mvR σ a b t n)) else obI (mvR σ a b t n)) else -1000000, asd σ)
def q_guest (σ : Sto) (r : Int32) : Int32 × Sto := if σ 40 4 = 0 then (-1000002, σ) else if wi r 0 (σ 44 0 - 1) = false then (-1000001, σ) else (rbM (σ 44) (s_opM (σ 44) ((σ 44 4).toNatClampNeg)) r 64, σ)
def paX (σ : Sto) (a b : Int32) (j : Nat) : Bool := (nI j &&& (s_opM (σ 44) ((σ 44 4).toNatClampNeg) ^^^ (-1)) == 0) && !hsB (rbM (σ 44) (s_opM (σ 44) ((σ 44 4).toNatClampNeg) &&& (nI j ^^^ (-1))) a 64) b
def paR (σ : Sto) (a b : Int32) : Option Nat := bsM (paX σ a b) (2 ^ (σ 44 4).toNatClampNeg)
def q_parted (σ : Sto) (a b u : Int32) : Int32 × Sto := if σ 40 4 = 0 then (-1000002, σ) else if wi a 0 (σ 44 0 - 1) = false then (-1000001, σ) else if wi b 0 (σ 44 0 - 1) = false then (-1000001, σ) else if wi u 0 1 = false then (-1000001, σ) else if a = b then (-1000000, σ) else (if u = 0 then nI (onN (paR σ a b)) else obI (paR σ a b), σ)
set_option maxRecDepth 20000 in
set_option maxHeartbeats 4000000 in
theorem c_X7_onesG {E : EE} (hE : inj E 40 13) {σ : Sto} {τ : Stl} {x : Int32} {N : Nat} (h0 : itO x N = 0) (h1 : ∀ i, i < N → ¬ itO x i = 0) (hN : N ≤ 32) : Ct E 40 13 yX7_ones cX7_ones 3 (some FieldType.int) { frames := 0, cells := 0, slots := 0, locals := 0 } [.int x] σ τ (Pi (nI N) (σ) (τ)) := by
  refine ct_of hE RX7 [some (.int x), none, none] (by decide) rfl (Nat.le_of_ble_eq_true rfl) rfl (fun X => ?_)
  refine g_iconst (q := 1) dX7_ones_0 ci_0 rfl ?_
  refine g_istore_n (j := 1) (q := 2) dX7_ones_1 rfl (by decide) rfl rfl ?_
  refine g_iload_n (q := 3) dX7_ones_2 rfl rfl ?_
  refine g_istore_n (j := 2) (q := 4) dX7_ones_3 rfl (by decide) rfl rfl ?_
  refine g_for (I := fun i => [some (.int x), some (.int (nI i)), some (.int (itO x i))]) (S := fun i => σ) (T := fun i => τ) (0) (N) (Nat.zero_le _) (by rfl) (by rfl) (by rfl) (fun i i0 i1 kk_i => ?_) ?_
  · have hci : (nI i).toNatClampNeg = i := nI_clamp (by omega)
    refine g_iload_n (q := 5) dX7_ones_4 rfl rfl ?_
    refine g_if_eq (t := 20) (q := 8) dX7_ones_5 (by decide) rfl (fun c_5 => ?_) (fun c_5 => ?_)
    · exact absurd c_5 (h1 i i1)
    · refine g_iinc (q := 11) dX7_ones_8 rfl ci_1 (by decide) rfl rfl ?_
      refine g_iload_n (q := 12) dX7_ones_11 rfl rfl ?_
      refine g_iload_n (q := 13) dX7_ones_12 rfl rfl ?_
      refine g_iconst (q := 14) dX7_ones_13 ci_1 rfl ?_
      refine g_isub (q := 15) dX7_ones_14 rfl ?_
      refine g_iand (q := 16) dX7_ones_15 rfl ?_
      refine g_istore_n (j := 2) (q := 17) dX7_ones_16 rfl (by decide) rfl rfl ?_
      refine g_goto (t := 4) dX7_ones_17 (by decide) ?_
      exact g_eqw kk_i (by simp [lsub, itO, hci, nI_succ]) (by rfl) rfl
  · refine g_iload_n (q := 5) dX7_ones_4 rfl rfl ?_
    refine g_if_eq (t := 20) (q := 8) dX7_ones_5 (by decide) rfl (fun c_5 => ?_) (fun c_5 => ?_)
    · refine g_iload_n (q := 21) dX7_ones_20 rfl rfl ?_
      exact g_iret dX7_ones_21 (pi_i (by rfl) (by rfl) rfl)
    · exact absurd h0 c_5
set_option maxRecDepth 20000 in
set_option maxHeartbeats 4000000 in
theorem c_X7_moved {E : EE} (hE : inj E 40 13) {σ : Sto} {τ : Stl} {a b t n u : Int32} (w : WFM (σ 44)) : Ct E 40 13 yX7_moved cX7_moved 9 (some FieldType.int) { frames := 4, cells := 0, slots := 0, locals := 94 } [.ref (E.2.1 40), .int a, .int b, .int t, .int n, .int u] σ τ (Pi ((q_moved σ a b t n u).1) ((q_moved σ a b t n u).2) (τ)) := by
  refine ct_of hE RX7 [some (.ref (E.2.1 40)), some (.int a), some (.int b), some (.int t), some (.int n), some (.int u), none, none, none] (by decide) rfl (Nat.le_of_ble_eq_true rfl) rfl (fun X => ?_)
  obtain ⟨⟨e0, b0⟩, ⟨e1, b1⟩, ⟨e4, b4⟩, ⟨e5, b5⟩⟩ := wfm_n w
  refine g_aload_n (q := 1) dX7_moved_0 rfl rfl ?_
  refine f7_4 (q := 4) wd_852 dX7_moved_1 rfl ?_
  refine g_if_ne (t := 10) (q := 7) dX7_moved_4 (by decide) rfl (fun c_4 => ?_) (fun c_4 => ?_)
  · refine g_aload_n (q := 11) dX7_moved_10 rfl rfl ?_
    refine g_iload_n (q := 12) dX7_moved_11 rfl rfl ?_
    refine g_callVi (q := 15) (c_X7_areRooms hE ) lk_RX7_203 (by decide) (by decide) rfl (by decide) rfl rfl rfl rfl rfl rfl (Nat.le_of_ble_eq_true rfl) (Nat.le_of_ble_eq_true rfl) (Nat.le_of_ble_eq_true rfl) dX7_moved_12 rfl ?_
    refine g_if_eq (t := 68) (q := 18) dX7_moved_15 (by decide) rfl (fun c_15 => ?_) (fun c_15 => ?_)
    · rw [bI_0] at c_15
      refine g_ldc (q := 70) dX7_moved_68 wd_931 rfl ?_
      exact g_iret dX7_moved_70 (pi_i (by simp only [q_moved, c_4, c_15, not_true_eq_false, not_false_eq_true, if_true, if_false, Bool.true_eq_false, Bool.false_eq_true, reduceIte, reduceCtorEq]) (by simp only [q_moved, c_4, c_15, not_true_eq_false, not_false_eq_true, if_true, if_false, Bool.true_eq_false, Bool.false_eq_true, reduceIte, reduceCtorEq]) rfl)
    · rw [bI_n0] at c_15
      refine g_aload_n (q := 19) dX7_moved_18 rfl rfl ?_
      refine g_iload_n (q := 20) dX7_moved_19 rfl rfl ?_
      refine g_callVi (q := 23) (c_X7_areRooms hE ) lk_RX7_203 (by decide) (by decide) rfl (by decide) rfl rfl rfl rfl rfl rfl (Nat.le_of_ble_eq_true rfl) (Nat.le_of_ble_eq_true rfl) (Nat.le_of_ble_eq_true rfl) dX7_moved_20 rfl ?_
      refine g_if_eq (t := 68) (q := 26) dX7_moved_23 (by decide) rfl (fun c_23 => ?_) (fun c_23 => ?_)
      · rw [bI_0] at c_23
        refine g_ldc (q := 70) dX7_moved_68 wd_931 rfl ?_
        exact g_iret dX7_moved_70 (pi_i (by simp only [q_moved, c_4, c_15, c_23, not_true_eq_false, not_false_eq_true, if_true, if_false, Bool.true_eq_false, Bool.false_eq_true, reduceIte, reduceCtorEq]) (by simp only [q_moved, c_4, c_15, c_23, not_true_eq_false, not_false_eq_true, if_true, if_false, Bool.true_eq_false, Bool.false_eq_true, reduceIte, reduceCtorEq]) rfl)
      · rw [bI_n0] at c_23
        refine g_iload_n (q := 27) dX7_moved_26 rfl rfl ?_
        refine g_iload_n (q := 28) dX7_moved_27 rfl rfl ?_
        refine g_iand (q := 29) dX7_moved_28 rfl ?_
        refine g_if_ne (t := 68) (q := 32) dX7_moved_29 (by decide) rfl (fun c_29 => ?_) (fun c_29 => ?_)
        · refine g_ldc (q := 70) dX7_moved_68 wd_931 rfl ?_
          exact g_iret dX7_moved_70 (pi_i (by simp only [q_moved, c_4, c_15, c_23, c_29, not_true_eq_false, not_false_eq_true, if_true, if_false, Bool.true_eq_false, Bool.false_eq_true, reduceIte, reduceCtorEq]) (by simp only [q_moved, c_4, c_15, c_23, c_29, not_true_eq_false, not_false_eq_true, if_true, if_false, Bool.true_eq_false, Bool.false_eq_true, reduceIte, reduceCtorEq]) rfl)
        · refine g_iload_n (q := 33) dX7_moved_32 rfl rfl ?_
          refine g_i2l (q := 34) dX7_moved_33 rfl ?_
          refine g_lconst (q := 35) dX7_moved_34 cl_1 rfl ?_
          refine g_ldc2 (q := 38) dX7_moved_35 wd_1119 rfl ?_
          refine g_callSi (q := 41) (c_X7_in hE ) lk_RX7_54 rfl rfl rfl rfl (Nat.le_of_ble_eq_true rfl) (Nat.le_of_ble_eq_true rfl) (Nat.le_of_ble_eq_true rfl) dX7_moved_38 rfl ?_
          refine g_if_eq (t := 68) (q := 44) dX7_moved_41 (by decide) rfl (fun c_41 => ?_) (fun c_41 => ?_)
          · rw [bI_0] at c_41
            rw [show inL t.toInt64 1 999 = wi t 1 999 from inL_i t 1 999] at c_41
            refine g_ldc (q := 70) dX7_moved_68 wd_931 rfl ?_
            exact g_iret dX7_moved_70 (pi_i (by simp only [q_moved, c_4, c_15, c_23, c_29, c_41, not_true_eq_false, not_false_eq_true, if_true, if_false, Bool.true_eq_false, Bool.false_eq_true, reduceIte, reduceCtorEq]) (by simp only [q_moved, c_4, c_15, c_23, c_29, c_41, not_true_eq_false, not_false_eq_true, if_true, if_false, Bool.true_eq_false, Bool.false_eq_true, reduceIte, reduceCtorEq]) rfl)
          · rw [bI_n0] at c_41
            rw [show inL t.toInt64 1 999 = wi t 1 999 from inL_i t 1 999] at c_41
            refine g_iload (q := 46) dX7_moved_44 rfl rfl ?_
            refine g_i2l (q := 47) dX7_moved_46 rfl ?_
            refine g_lconst (q := 48) dX7_moved_47 cl_1 rfl ?_
            refine g_ldc2 (q := 51) dX7_moved_48 wd_1016 rfl ?_
            refine g_callSi (q := 54) (c_X7_in hE ) lk_RX7_54 rfl rfl rfl rfl (Nat.le_of_ble_eq_true rfl) (Nat.le_of_ble_eq_true rfl) (Nat.le_of_ble_eq_true rfl) dX7_moved_51 rfl ?_
            refine g_if_eq (t := 68) (q := 57) dX7_moved_54 (by decide) rfl (fun c_54 => ?_) (fun c_54 => ?_)
            · rw [bI_0] at c_54
              rw [show inL n.toInt64 1 24 = wi n 1 24 from inL_i n 1 24] at c_54
              refine g_ldc (q := 70) dX7_moved_68 wd_931 rfl ?_
              exact g_iret dX7_moved_70 (pi_i (by simp only [q_moved, c_4, c_15, c_23, c_29, c_41, c_54, not_true_eq_false, not_false_eq_true, if_true, if_false, Bool.true_eq_false, Bool.false_eq_true, reduceIte, reduceCtorEq]) (by simp only [q_moved, c_4, c_15, c_23, c_29, c_41, c_54, not_true_eq_false, not_false_eq_true, if_true, if_false, Bool.true_eq_false, Bool.false_eq_true, reduceIte, reduceCtorEq]) rfl)
            · rw [bI_n0] at c_54
              rw [show inL n.toInt64 1 24 = wi n 1 24 from inL_i n 1 24] at c_54
              refine g_iload (q := 59) dX7_moved_57 rfl rfl ?_
              refine g_i2l (q := 60) dX7_moved_59 rfl ?_
              refine g_lconst (q := 61) dX7_moved_60 cl_0 rfl ?_
              refine g_lconst (q := 62) dX7_moved_61 cl_1 rfl ?_
              refine g_callSi (q := 65) (c_X7_in hE ) lk_RX7_54 rfl rfl rfl rfl (Nat.le_of_ble_eq_true rfl) (Nat.le_of_ble_eq_true rfl) (Nat.le_of_ble_eq_true rfl) dX7_moved_62 rfl ?_
              refine g_if_ne (t := 71) (q := 68) dX7_moved_65 (by decide) rfl (fun c_65 => ?_) (fun c_65 => ?_)
              · rw [bI_n0] at c_65
                rw [show inL u.toInt64 0 1 = wi u 0 1 from inL_i u 0 1] at c_65
                refine g_aload_n (q := 72) dX7_moved_71 rfl rfl ?_
                refine g_callVv (q := 75) (c_X7_putAside hE ) lk_RX7_185 (by decide) (by decide) rfl (by decide) rfl rfl rfl rfl rfl rfl (Nat.le_of_ble_eq_true rfl) (Nat.le_of_ble_eq_true rfl) (Nat.le_of_ble_eq_true rfl) dX7_moved_72 rfl ?_
                refine g_sg (σ' := asd σ) rfl ?_
                refine g_iconst (q := 76) dX7_moved_75 ci_m1 rfl ?_
                refine g_istore (q := 78) dX7_moved_76 (by decide) rfl rfl ?_
                refine g_iconst (q := 79) dX7_moved_78 ci_0 rfl ?_
                refine g_istore (q := 81) dX7_moved_79 (by decide) rfl rfl ?_
                have pg := pw_le b4
                refine g_eqw (ls := [some (.ref (E.2.1 40)), some (.int a), some (.int b), some (.int t), some (.int n), some (.int u), some (.int (-1)), some (.int 0), none]) ?_ (by simp [lsub]) rfl rfl
                refine g_for (I := fun j => [some (.ref (E.2.1 40)), some (.int a), some (.int b), some (.int t), some (.int n), some (.int u), some (.int (obI (bsM (mvX σ a b t n) j))), some (.int (nI j)), none]) (S := fun j => asd σ) (T := fun j => τ) (0) (2 ^ (σ 44 4).toNatClampNeg) (Nat.zero_le _) (by rfl) (by rfl) (by rfl) (fun j j0 j1 kk_j => ?_) ?_
                · have hcj : (nI j).toNatClampNeg = j := nI_clamp (by omega)
                  have o1 : o256 (bsM (mvX σ a b t n) j) := bs_256 _ (by omega)
                  refine g_iload (q := 83) dX7_moved_81 rfl rfl ?_
                  refine g_iconst (q := 84) dX7_moved_83 ci_1 rfl ?_
                  refine g_aload_n (q := 85) dX7_moved_84 rfl rfl ?_
                  refine f7_5 (q := 88) wd_853 dX7_moved_85 rfl ?_
                  refine g_iconst (q := 89) dX7_moved_88 ci_4 rfl ?_
                  refine g_ialdJ (q := 90) (k := 44) (j := 4) (N := 52) (by decide) (by decide) rfl rfl (by decide) (show (4 : Int32) = nI 4 from rfl) (by omega) dX7_moved_89 rfl ?_
                  refine g_ishl (q := 91) dX7_moved_90 rfl ?_
                  refine g_icmp_ge (t := 166) (q := 94) dX7_moved_91 (by decide) rfl (fun c_91 => ?_) (fun c_91 => ?_)
                  · exact absurd c_91 (lp_in (by rw [asd_44, e4, nI_clamp (by omega)]; exact sh1 b4) (by omega) j1)
                  · refine g_iload (q := 96) dX7_moved_94 rfl rfl ?_
                    refine g_if_lt (t := 112) (q := 99) dX7_moved_96 (by decide) rfl (fun c_96 => ?_) (fun c_96 => ?_)
                    · have hb1 : btr (bsM (mvX σ a b t n) j) j = true := btr1 o1 c_96
                      refine g_aload_n (q := 113) dX7_moved_112 rfl rfl ?_
                      refine g_iload (q := 115) dX7_moved_113 rfl rfl ?_
                      refine g_callVv (q := 118) (c_X7_turn hE (by rw [asd_44]; exact w)) lk_RX7_211 (by decide) (by decide) rfl (by decide) rfl rfl rfl rfl rfl rfl (Nat.le_of_ble_eq_true rfl) (Nat.le_of_ble_eq_true rfl) (Nat.le_of_ble_eq_true rfl) dX7_moved_115 rfl ?_
                      refine g_aload_n (q := 119) dX7_moved_118 rfl rfl ?_
                      refine g_iload (q := 121) dX7_moved_119 rfl rfl ?_
                      refine g_callVv (q := 124) (c_X7_goOn hE (by rw [upc_same, asd_44]; exact wfm_tu w _ _ b4) (wi_nn c_54 (by decide))) lk_RX7_188 (by decide) (by decide) rfl (by decide) rfl rfl rfl rfl rfl rfl (Nat.le_of_ble_eq_true rfl) (Nat.le_of_ble_eq_true rfl) (Nat.le_of_ble_eq_true rfl) dX7_moved_121 rfl ?_
                      refine g_sg (σ' := upc (asd σ) 44 (mvS σ n j)) (by simp only [upc_upc, upc_same, asd_44]; rfl) ?_
                      refine g_aload_n (q := 125) dX7_moved_124 rfl rfl ?_
                      refine g_iload_n (q := 126) dX7_moved_125 rfl rfl ?_
                      refine g_callVi (q := 129) (c_X7_coldRooms hE (by rw [upc_same]; exact wfm_hrs (wfm_tu w _ _ b4) _)) lk_RX7_214 (by decide) (by decide) rfl (by decide) rfl rfl rfl rfl rfl rfl (Nat.le_of_ble_eq_true rfl) (Nat.le_of_ble_eq_true rfl) (Nat.le_of_ble_eq_true rfl) dX7_moved_126 rfl ?_
                      refine g_st (stk' := [.int (s_crM (mvS σ n j) t ((mvS σ n j 0).toNatClampNeg))]) (by rw [upc_same]) ?_
                      refine g_istore (q := 131) dX7_moved_129 (by decide) rfl rfl ?_
                      refine g_iload_n (q := 132) dX7_moved_131 rfl rfl ?_
                      refine g_iload (q := 134) dX7_moved_132 rfl rfl ?_
                      refine g_iconst (q := 135) dX7_moved_134 ci_m1 rfl ?_
                      refine g_ixor (q := 136) dX7_moved_135 rfl ?_
                      refine g_iand (q := 137) dX7_moved_136 rfl ?_
                      refine g_if_ne (t := 152) (q := 140) dX7_moved_137 (by decide) rfl (fun c_137 => ?_) (fun c_137 => ?_)
                      · refine g_iload (q := 154) dX7_moved_152 rfl rfl ?_
                        refine g_istore (q := 156) dX7_moved_154 (by decide) rfl rfl ?_
                        refine g_aload_n (q := 157) dX7_moved_156 rfl rfl ?_
                        refine g_callVv (q := 160) (c_X7_takeBack hE ) lk_RX7_192 (by decide) (by decide) rfl (by decide) rfl rfl rfl rfl rfl rfl (Nat.le_of_ble_eq_true rfl) (Nat.le_of_ble_eq_true rfl) (Nat.le_of_ble_eq_true rfl) dX7_moved_157 rfl ?_
                        refine g_sg (σ' := asd σ) (tkb (fun k hk => by simp only [upc_ne hk])) ?_
                        refine g_iinc (q := 163) dX7_moved_160 rfl ci_1 (by decide) rfl rfl ?_
                        refine g_goto (t := 81) dX7_moved_163 (by decide) ?_
                        have hs : bsM (mvX σ a b t n) (j + 1) = bsM (mvX σ a b t n) j := bs_no (by unfold mvX; rw [beq_eq_false_iff_ne.mpr c_137]; rfl)
                        exact g_eqw kk_j (by simp [lsub, hs, nI_succ]) rfl rfl
                      · refine g_iload_n (q := 141) dX7_moved_140 rfl rfl ?_
                        refine g_iload (q := 143) dX7_moved_141 rfl rfl ?_
                        refine g_iand (q := 144) dX7_moved_143 rfl ?_
                        refine g_if_ne (t := 152) (q := 147) dX7_moved_144 (by decide) rfl (fun c_144 => ?_) (fun c_144 => ?_)
                        · refine g_iload (q := 154) dX7_moved_152 rfl rfl ?_
                          refine g_istore (q := 156) dX7_moved_154 (by decide) rfl rfl ?_
                          refine g_aload_n (q := 157) dX7_moved_156 rfl rfl ?_
                          refine g_callVv (q := 160) (c_X7_takeBack hE ) lk_RX7_192 (by decide) (by decide) rfl (by decide) rfl rfl rfl rfl rfl rfl (Nat.le_of_ble_eq_true rfl) (Nat.le_of_ble_eq_true rfl) (Nat.le_of_ble_eq_true rfl) dX7_moved_157 rfl ?_
                          refine g_sg (σ' := asd σ) (tkb (fun k hk => by simp only [upc_ne hk])) ?_
                          refine g_iinc (q := 163) dX7_moved_160 rfl ci_1 (by decide) rfl rfl ?_
                          refine g_goto (t := 81) dX7_moved_163 (by decide) ?_
                          have hs : bsM (mvX σ a b t n) (j + 1) = if (b &&& s_crM (mvS σ n j) t ((mvS σ n j 0).toNatClampNeg) == 0) = true then some j else bsM (mvX σ a b t n) j := by simp only [bsM, hb1, mvX, c_137, Bool.true_and, beq_self_eq_true]
                          exact g_eqw kk_j (by first | (simp [lsub, hs, nI_succ, c_144, obI]; done) | (simp [lsub, hs, nI_succ, obI, if_neg c_144]; done)) rfl rfl
                        · refine g_iload (q := 149) dX7_moved_147 rfl rfl ?_
                          refine g_goto (t := 154) dX7_moved_149 (by decide) ?_
                          refine g_istore (q := 156) dX7_moved_154 (by decide) rfl rfl ?_
                          refine g_aload_n (q := 157) dX7_moved_156 rfl rfl ?_
                          refine g_callVv (q := 160) (c_X7_takeBack hE ) lk_RX7_192 (by decide) (by decide) rfl (by decide) rfl rfl rfl rfl rfl rfl (Nat.le_of_ble_eq_true rfl) (Nat.le_of_ble_eq_true rfl) (Nat.le_of_ble_eq_true rfl) dX7_moved_157 rfl ?_
                          refine g_sg (σ' := asd σ) (tkb (fun k hk => by simp only [upc_ne hk])) ?_
                          refine g_iinc (q := 163) dX7_moved_160 rfl ci_1 (by decide) rfl rfl ?_
                          refine g_goto (t := 81) dX7_moved_163 (by decide) ?_
                          have hs : bsM (mvX σ a b t n) (j + 1) = if (b &&& s_crM (mvS σ n j) t ((mvS σ n j 0).toNatClampNeg) == 0) = true then some j else bsM (mvX σ a b t n) j := by simp only [bsM, hb1, mvX, c_137, Bool.true_and, beq_self_eq_true]
                          exact g_eqw kk_j (by first | (simp [lsub, hs, nI_succ, c_144, obI]; done) | (simp [lsub, hs, nI_succ, obI, if_neg c_144]; done)) rfl rfl
                    · refine g_iload (q := 101) dX7_moved_99 rfl rfl ?_
                      refine g_callSi (q := 104) (c_X7_ones hE (by omega)) lk_RX7_208 rfl rfl rfl rfl (Nat.le_of_ble_eq_true rfl) (Nat.le_of_ble_eq_true rfl) (Nat.le_of_ble_eq_true rfl) dX7_moved_101 rfl ?_
                      refine g_iload (q := 106) dX7_moved_104 rfl rfl ?_
                      refine g_callSi (q := 109) (c_X7_onesG hE (ob_ones o1).1 (ob_ones o1).2.1 (ob_ones o1).2.2) lk_RX7_208 rfl rfl rfl rfl (Nat.le_of_ble_eq_true rfl) (Nat.le_of_ble_eq_true rfl) (Nat.le_of_ble_eq_true rfl) dX7_moved_106 rfl ?_
                      refine g_icmp_ge (t := 160) (q := 112) dX7_moved_109 (by decide) rfl (fun c_109 => ?_) (fun c_109 => ?_)
                      · refine g_iinc (q := 163) dX7_moved_160 rfl ci_1 (by decide) rfl rfl ?_
                        refine g_goto (t := 81) dX7_moved_163 (by decide) ?_
                        have hs : bsM (mvX σ a b t n) (j + 1) = bsM (mvX σ a b t n) j := by simp only [bsM]; rw [if_neg]; intro q; rw [Bool.and_eq_true] at q; exact ((btr2 o1 c_96).mpr q.1) c_109
                        exact g_eqw kk_j (by simp [lsub, hs, nI_succ]) rfl rfl
                      · have hb1 : btr (bsM (mvX σ a b t n) j) j = true := (btr2 o1 c_96).mp c_109
                        refine g_aload_n (q := 113) dX7_moved_112 rfl rfl ?_
                        refine g_iload (q := 115) dX7_moved_113 rfl rfl ?_
                        refine g_callVv (q := 118) (c_X7_turn hE (by rw [asd_44]; exact w)) lk_RX7_211 (by decide) (by decide) rfl (by decide) rfl rfl rfl rfl rfl rfl (Nat.le_of_ble_eq_true rfl) (Nat.le_of_ble_eq_true rfl) (Nat.le_of_ble_eq_true rfl) dX7_moved_115 rfl ?_
                        refine g_aload_n (q := 119) dX7_moved_118 rfl rfl ?_
                        refine g_iload (q := 121) dX7_moved_119 rfl rfl ?_
                        refine g_callVv (q := 124) (c_X7_goOn hE (by rw [upc_same, asd_44]; exact wfm_tu w _ _ b4) (wi_nn c_54 (by decide))) lk_RX7_188 (by decide) (by decide) rfl (by decide) rfl rfl rfl rfl rfl rfl (Nat.le_of_ble_eq_true rfl) (Nat.le_of_ble_eq_true rfl) (Nat.le_of_ble_eq_true rfl) dX7_moved_121 rfl ?_
                        refine g_sg (σ' := upc (asd σ) 44 (mvS σ n j)) (by simp only [upc_upc, upc_same, asd_44]; rfl) ?_
                        refine g_aload_n (q := 125) dX7_moved_124 rfl rfl ?_
                        refine g_iload_n (q := 126) dX7_moved_125 rfl rfl ?_
                        refine g_callVi (q := 129) (c_X7_coldRooms hE (by rw [upc_same]; exact wfm_hrs (wfm_tu w _ _ b4) _)) lk_RX7_214 (by decide) (by decide) rfl (by decide) rfl rfl rfl rfl rfl rfl (Nat.le_of_ble_eq_true rfl) (Nat.le_of_ble_eq_true rfl) (Nat.le_of_ble_eq_true rfl) dX7_moved_126 rfl ?_
                        refine g_st (stk' := [.int (s_crM (mvS σ n j) t ((mvS σ n j 0).toNatClampNeg))]) (by rw [upc_same]) ?_
                        refine g_istore (q := 131) dX7_moved_129 (by decide) rfl rfl ?_
                        refine g_iload_n (q := 132) dX7_moved_131 rfl rfl ?_
                        refine g_iload (q := 134) dX7_moved_132 rfl rfl ?_
                        refine g_iconst (q := 135) dX7_moved_134 ci_m1 rfl ?_
                        refine g_ixor (q := 136) dX7_moved_135 rfl ?_
                        refine g_iand (q := 137) dX7_moved_136 rfl ?_
                        refine g_if_ne (t := 152) (q := 140) dX7_moved_137 (by decide) rfl (fun c_137 => ?_) (fun c_137 => ?_)
                        · refine g_iload (q := 154) dX7_moved_152 rfl rfl ?_
                          refine g_istore (q := 156) dX7_moved_154 (by decide) rfl rfl ?_
                          refine g_aload_n (q := 157) dX7_moved_156 rfl rfl ?_
                          refine g_callVv (q := 160) (c_X7_takeBack hE ) lk_RX7_192 (by decide) (by decide) rfl (by decide) rfl rfl rfl rfl rfl rfl (Nat.le_of_ble_eq_true rfl) (Nat.le_of_ble_eq_true rfl) (Nat.le_of_ble_eq_true rfl) dX7_moved_157 rfl ?_
                          refine g_sg (σ' := asd σ) (tkb (fun k hk => by simp only [upc_ne hk])) ?_
                          refine g_iinc (q := 163) dX7_moved_160 rfl ci_1 (by decide) rfl rfl ?_
                          refine g_goto (t := 81) dX7_moved_163 (by decide) ?_
                          have hs : bsM (mvX σ a b t n) (j + 1) = bsM (mvX σ a b t n) j := bs_no (by unfold mvX; rw [beq_eq_false_iff_ne.mpr c_137]; rfl)
                          exact g_eqw kk_j (by simp [lsub, hs, nI_succ]) rfl rfl
                        · refine g_iload_n (q := 141) dX7_moved_140 rfl rfl ?_
                          refine g_iload (q := 143) dX7_moved_141 rfl rfl ?_
                          refine g_iand (q := 144) dX7_moved_143 rfl ?_
                          refine g_if_ne (t := 152) (q := 147) dX7_moved_144 (by decide) rfl (fun c_144 => ?_) (fun c_144 => ?_)
                          · refine g_iload (q := 154) dX7_moved_152 rfl rfl ?_
                            refine g_istore (q := 156) dX7_moved_154 (by decide) rfl rfl ?_
                            refine g_aload_n (q := 157) dX7_moved_156 rfl rfl ?_
                            refine g_callVv (q := 160) (c_X7_takeBack hE ) lk_RX7_192 (by decide) (by decide) rfl (by decide) rfl rfl rfl rfl rfl rfl (Nat.le_of_ble_eq_true rfl) (Nat.le_of_ble_eq_true rfl) (Nat.le_of_ble_eq_true rfl) dX7_moved_157 rfl ?_
                            refine g_sg (σ' := asd σ) (tkb (fun k hk => by simp only [upc_ne hk])) ?_
                            refine g_iinc (q := 163) dX7_moved_160 rfl ci_1 (by decide) rfl rfl ?_
                            refine g_goto (t := 81) dX7_moved_163 (by decide) ?_
                            have hs : bsM (mvX σ a b t n) (j + 1) = if (b &&& s_crM (mvS σ n j) t ((mvS σ n j 0).toNatClampNeg) == 0) = true then some j else bsM (mvX σ a b t n) j := by simp only [bsM, hb1, mvX, c_137, Bool.true_and, beq_self_eq_true]
                            exact g_eqw kk_j (by first | (simp [lsub, hs, nI_succ, c_144, obI]; done) | (simp [lsub, hs, nI_succ, obI, if_neg c_144]; done)) rfl rfl
                          · refine g_iload (q := 149) dX7_moved_147 rfl rfl ?_
                            refine g_goto (t := 154) dX7_moved_149 (by decide) ?_
                            refine g_istore (q := 156) dX7_moved_154 (by decide) rfl rfl ?_
                            refine g_aload_n (q := 157) dX7_moved_156 rfl rfl ?_
                            refine g_callVv (q := 160) (c_X7_takeBack hE ) lk_RX7_192 (by decide) (by decide) rfl (by decide) rfl rfl rfl rfl rfl rfl (Nat.le_of_ble_eq_true rfl) (Nat.le_of_ble_eq_true rfl) (Nat.le_of_ble_eq_true rfl) dX7_moved_157 rfl ?_
                            refine g_sg (σ' := asd σ) (tkb (fun k hk => by simp only [upc_ne hk])) ?_
                            refine g_iinc (q := 163) dX7_moved_160 rfl ci_1 (by decide) rfl rfl ?_
                            refine g_goto (t := 81) dX7_moved_163 (by decide) ?_
                            have hs : bsM (mvX σ a b t n) (j + 1) = if (b &&& s_crM (mvS σ n j) t ((mvS σ n j 0).toNatClampNeg) == 0) = true then some j else bsM (mvX σ a b t n) j := by simp only [bsM, hb1, mvX, c_137, Bool.true_and, beq_self_eq_true]
                            exact g_eqw kk_j (by first | (simp [lsub, hs, nI_succ, c_144, obI]; done) | (simp [lsub, hs, nI_succ, obI, if_neg c_144]; done)) rfl rfl
                · refine g_iload (q := 83) dX7_moved_81 rfl rfl ?_
                  refine g_iconst (q := 84) dX7_moved_83 ci_1 rfl ?_
                  refine g_aload_n (q := 85) dX7_moved_84 rfl rfl ?_
                  refine f7_5 (q := 88) wd_853 dX7_moved_85 rfl ?_
                  refine g_iconst (q := 89) dX7_moved_88 ci_4 rfl ?_
                  refine g_ialdJ (q := 90) (k := 44) (j := 4) (N := 52) (by decide) (by decide) rfl rfl (by decide) (show (4 : Int32) = nI 4 from rfl) (by omega) dX7_moved_89 rfl ?_
                  refine g_ishl (q := 91) dX7_moved_90 rfl ?_
                  refine g_icmp_ge (t := 166) (q := 94) dX7_moved_91 (by decide) rfl (fun c_91 => ?_) (fun c_91 => ?_)
                  · have oR : o256 (mvR σ a b t n) := bs_256 _ pg
                    refine g_ls (ls' := [some (.ref (E.2.1 40)), some (.int a), some (.int b), some (.int t), some (.int n), some (.int u), some (.int (obI (mvR σ a b t n))), some (.int (nI (2 ^ (σ 44 4).toNatClampNeg))), none]) rfl ?_
                    refine g_iload (q := 168) dX7_moved_166 rfl rfl ?_
                    refine g_if_ge (t := 176) (q := 171) dX7_moved_168 (by decide) rfl (fun c_168 => ?_) (fun c_168 => ?_)
                    · refine g_iload (q := 178) dX7_moved_176 rfl rfl ?_
                      refine g_if_ne (t := 189) (q := 181) dX7_moved_178 (by decide) rfl (fun c_178 => ?_) (fun c_178 => ?_)
                      · refine g_iload (q := 191) dX7_moved_189 rfl rfl ?_
                        exact g_iret dX7_moved_191 (pi_i (by simp only [q_moved, c_4, c_15, c_23, c_29, c_41, c_54, c_65, c_91, c_168, c_178, not_true_eq_false, not_false_eq_true, if_true, if_false, Bool.true_eq_false, Bool.false_eq_true, reduceIte, reduceCtorEq, show wi 0 0 1 = true from by decide]) (by simp only [q_moved, c_4, c_15, c_23, c_29, c_41, c_54, c_65, c_91, c_168, c_178, not_true_eq_false, not_false_eq_true, if_true, if_false, Bool.true_eq_false, Bool.false_eq_true, reduceIte, reduceCtorEq, show wi 0 0 1 = true from by decide]) rfl)
                      · refine g_iload (q := 183) dX7_moved_181 rfl rfl ?_
                        refine g_callSi (q := 186) (c_X7_onesG hE (ob_ones oR).1 (ob_ones oR).2.1 (ob_ones oR).2.2) lk_RX7_208 rfl rfl rfl rfl (Nat.le_of_ble_eq_true rfl) (Nat.le_of_ble_eq_true rfl) (Nat.le_of_ble_eq_true rfl) dX7_moved_183 rfl ?_
                        refine g_goto (t := 191) dX7_moved_186 (by decide) ?_
                        exact g_iret dX7_moved_191 (pi_i (by simp only [q_moved, c_4, c_15, c_23, c_29, c_41, c_54, c_65, c_91, c_168, c_178, not_true_eq_false, not_false_eq_true, if_true, if_false, Bool.true_eq_false, Bool.false_eq_true, reduceIte, reduceCtorEq, show wi 0 0 1 = true from by decide]) (by simp only [q_moved, c_4, c_15, c_23, c_29, c_41, c_54, c_65, c_91, c_168, c_178, not_true_eq_false, not_false_eq_true, if_true, if_false, Bool.true_eq_false, Bool.false_eq_true, reduceIte, reduceCtorEq, show wi 0 0 1 = true from by decide]) rfl)
                    · refine g_ldc (q := 173) dX7_moved_171 wd_1110 rfl ?_
                      refine g_goto (t := 191) dX7_moved_173 (by decide) ?_
                      exact g_iret dX7_moved_191 (pi_i (by simp only [q_moved, c_4, c_15, c_23, c_29, c_41, c_54, c_65, c_91, c_168, not_true_eq_false, not_false_eq_true, if_true, if_false, Bool.true_eq_false, Bool.false_eq_true, reduceIte, reduceCtorEq, show wi 0 0 1 = true from by decide]) (by simp only [q_moved, c_4, c_15, c_23, c_29, c_41, c_54, c_65, c_91, c_168, not_true_eq_false, not_false_eq_true, if_true, if_false, Bool.true_eq_false, Bool.false_eq_true, reduceIte, reduceCtorEq, show wi 0 0 1 = true from by decide]) rfl)
                  · exact absurd (lp_out (by rw [asd_44, e4, nI_clamp (by omega)]; exact sh1 b4)) c_91
              · rw [bI_0] at c_65
                rw [show inL u.toInt64 0 1 = wi u 0 1 from inL_i u 0 1] at c_65
                refine g_ldc (q := 70) dX7_moved_68 wd_931 rfl ?_
                exact g_iret dX7_moved_70 (pi_i (by simp only [q_moved, c_4, c_15, c_23, c_29, c_41, c_54, c_65, not_true_eq_false, not_false_eq_true, if_true, if_false, Bool.true_eq_false, Bool.false_eq_true, reduceIte, reduceCtorEq]) (by simp only [q_moved, c_4, c_15, c_23, c_29, c_41, c_54, c_65, not_true_eq_false, not_false_eq_true, if_true, if_false, Bool.true_eq_false, Bool.false_eq_true, reduceIte, reduceCtorEq]) rfl)
  · refine g_ldc (q := 9) dX7_moved_7 wd_1011 rfl ?_
    exact g_iret dX7_moved_9 (pi_i (by simp only [q_moved, c_4, not_true_eq_false, not_false_eq_true, if_true, if_false, Bool.true_eq_false, Bool.false_eq_true, reduceIte, reduceCtorEq]) (by simp only [q_moved, c_4, not_true_eq_false, not_false_eq_true, if_true, if_false, Bool.true_eq_false, Bool.false_eq_true, reduceIte, reduceCtorEq]) rfl)
set_option maxRecDepth 20000 in
set_option maxHeartbeats 4000000 in
theorem c_X7_reachBy {E : EE} (hE : inj E 40 13) {σ : Sto} {τ : Stl} {f D : Int32}  : Ct E 40 13 yX7_reachBy cX7_reachBy 6 (some FieldType.int) { frames := 1, cells := 0, slots := 0, locals := 21 } [.ref (E.2.1 40), .int f, .int D] σ τ (Pi (rbM (σ 44) D f 64) (σ) (τ)) := by
  refine ct_of hE RX7 [some (.ref (E.2.1 40)), some (.int f), some (.int D), none, none, none] (by decide) rfl (Nat.le_of_ble_eq_true rfl) rfl (fun X => ?_)
  refine g_iconst (q := 1) dX7_reachBy_0 ci_1 rfl ?_
  refine g_iload_n (q := 2) dX7_reachBy_1 rfl rfl ?_
  refine g_ishl (q := 3) dX7_reachBy_2 rfl ?_
  refine g_istore_n (j := 3) (q := 4) dX7_reachBy_3 rfl (by decide) rfl rfl ?_
  refine g_iconst (q := 5) dX7_reachBy_4 ci_0 rfl ?_
  refine g_istore (q := 7) dX7_reachBy_5 (by decide) rfl rfl ?_
  refine g_eqw (ls := [some (.ref (E.2.1 40)), some (.int f), some (.int D), some (.int (1 <<< (f &&& 31))), some (.int 0), none]) ?_ (by simp [lsub]) rfl rfl
  refine g_for (I := fun k => [some (.ref (E.2.1 40)), some (.int f), some (.int D), some (.int (rbM (σ 44) D f k)), some (.int (nI k)), none]) (S := fun k => σ) (T := fun k => τ) (0) (64) (Nat.zero_le _) (by rfl) (by rfl) (by rfl) (fun k k0 k1 kk_k => ?_) ?_
  · have hck : (nI k).toNatClampNeg = k := nI_clamp (by omega)
    refine g_iload (q := 9) dX7_reachBy_7 rfl rfl ?_
    refine g_bipush (q := 11) dX7_reachBy_9 cb_64 rfl ?_
    refine g_icmp_ge (t := 108) (q := 14) dX7_reachBy_11 (by decide) rfl (fun c_11 => ?_) (fun c_11 => ?_)
    · exact absurd c_11 (lp_in (by rfl) (by omega) k1)
    · refine g_iload (q := 16) dX7_reachBy_14 rfl rfl ?_
      refine g_bipush (q := 18) dX7_reachBy_16 cb_8 rfl ?_
      refine g_irem (q := 19) dX7_reachBy_18 (by decide) rfl ?_
      refine g_st (stk' := [.int (nI (k % 8))]) (by rw [show (8 : Int32) = nI 8 from rfl, pk_rem (by omega) (by decide) (by decide)]) ?_
      refine g_istore (q := 21) dX7_reachBy_19 (by decide) rfl rfl ?_
      refine g_iload_n (q := 22) dX7_reachBy_21 rfl rfl ?_
      refine g_iload (q := 24) dX7_reachBy_22 rfl rfl ?_
      refine g_callSi (q := 27) (c_X7_has hE ) lk_RX7_199 rfl rfl rfl rfl (Nat.le_of_ble_eq_true rfl) (Nat.le_of_ble_eq_true rfl) (Nat.le_of_ble_eq_true rfl) dX7_reachBy_24 rfl ?_
      refine g_if_eq (t := 102) (q := 30) dX7_reachBy_27 (by decide) rfl (fun c_27 => ?_) (fun c_27 => ?_)
      · rw [bI_0] at c_27
        refine g_iinc (q := 105) dX7_reachBy_102 rfl ci_1 (by decide) rfl rfl ?_
        refine g_goto (t := 7) dX7_reachBy_105 (by decide) ?_
        exact g_eqw kk_k (by simp only [lsub, rbM, rb1, rb2, hsB, c_27, not_true_eq_false, not_false_eq_true, if_true, if_false, Bool.true_eq_false, Bool.false_eq_true, reduceIte, reduceCtorEq, Int32.or_zero, nI_succ, and_self, true_and, and_true, List.set_cons_succ, List.set_cons_zero]) rfl rfl
      · rw [bI_n0] at c_27
        refine g_iload_n (q := 31) dX7_reachBy_30 rfl rfl ?_
        refine g_iload_n (q := 32) dX7_reachBy_31 rfl rfl ?_
        refine g_aload_n (q := 33) dX7_reachBy_32 rfl rfl ?_
        refine f7_5 (q := 36) wd_853 dX7_reachBy_33 rfl ?_
        refine g_bipush (q := 38) dX7_reachBy_36 cb_13 rfl ?_
        refine g_iload (q := 40) dX7_reachBy_38 rfl rfl ?_
        refine g_iadd (q := 41) dX7_reachBy_40 rfl ?_
        refine g_ialdJ (q := 42) (k := 44) (j := (13 + (k % 8))) (N := 52) (by decide) (by decide) rfl rfl (by decide) (ad2 (show (13 : Int32) = nI 13 from rfl) rfl) (by omega) dX7_reachBy_41 rfl ?_
        refine g_callSi (q := 45) (c_X7_has hE ) lk_RX7_199 rfl rfl rfl rfl (Nat.le_of_ble_eq_true rfl) (Nat.le_of_ble_eq_true rfl) (Nat.le_of_ble_eq_true rfl) dX7_reachBy_42 rfl ?_
        refine g_if_eq (t := 63) (q := 48) dX7_reachBy_45 (by decide) rfl (fun c_45 => ?_) (fun c_45 => ?_)
        · rw [bI_0] at c_45
          refine g_iconst (q := 64) dX7_reachBy_63 ci_0 rfl ?_
          refine g_ior (q := 65) dX7_reachBy_64 rfl ?_
          refine g_istore_n (j := 3) (q := 66) dX7_reachBy_65 rfl (by decide) rfl rfl ?_
          refine g_iload_n (q := 67) dX7_reachBy_66 rfl rfl ?_
          refine g_iload_n (q := 68) dX7_reachBy_67 rfl rfl ?_
          refine g_aload_n (q := 69) dX7_reachBy_68 rfl rfl ?_
          refine f7_5 (q := 72) wd_853 dX7_reachBy_69 rfl ?_
          refine g_bipush (q := 74) dX7_reachBy_72 cb_21 rfl ?_
          refine g_iload (q := 76) dX7_reachBy_74 rfl rfl ?_
          refine g_iadd (q := 77) dX7_reachBy_76 rfl ?_
          refine g_ialdJ (q := 78) (k := 44) (j := (21 + (k % 8))) (N := 52) (by decide) (by decide) rfl rfl (by decide) (ad2 (show (21 : Int32) = nI 21 from rfl) rfl) (by omega) dX7_reachBy_77 rfl ?_
          refine g_callSi (q := 81) (c_X7_has hE ) lk_RX7_199 rfl rfl rfl rfl (Nat.le_of_ble_eq_true rfl) (Nat.le_of_ble_eq_true rfl) (Nat.le_of_ble_eq_true rfl) dX7_reachBy_78 rfl ?_
          refine g_if_eq (t := 99) (q := 84) dX7_reachBy_81 (by decide) rfl (fun c_81 => ?_) (fun c_81 => ?_)
          · rw [bI_0] at c_81
            refine g_iconst (q := 100) dX7_reachBy_99 ci_0 rfl ?_
            refine g_ior (q := 101) dX7_reachBy_100 rfl ?_
            refine g_istore_n (j := 3) (q := 102) dX7_reachBy_101 rfl (by decide) rfl rfl ?_
            refine g_iinc (q := 105) dX7_reachBy_102 rfl ci_1 (by decide) rfl rfl ?_
            refine g_goto (t := 7) dX7_reachBy_105 (by decide) ?_
            (try simp only [Int32.or_zero] at c_81)
            exact g_eqw kk_k (by simp only [lsub, rbM, rb1, rb2, hsB, c_27, c_45, c_81, not_true_eq_false, not_false_eq_true, if_true, if_false, Bool.true_eq_false, Bool.false_eq_true, reduceIte, reduceCtorEq, Int32.or_zero, nI_succ, and_self, true_and, and_true, List.set_cons_succ, List.set_cons_zero]) rfl rfl
          · rw [bI_n0] at c_81
            refine g_iconst (q := 85) dX7_reachBy_84 ci_1 rfl ?_
            refine g_aload_n (q := 86) dX7_reachBy_85 rfl rfl ?_
            refine f7_5 (q := 89) wd_853 dX7_reachBy_86 rfl ?_
            refine g_bipush (q := 91) dX7_reachBy_89 cb_13 rfl ?_
            refine g_iload (q := 93) dX7_reachBy_91 rfl rfl ?_
            refine g_iadd (q := 94) dX7_reachBy_93 rfl ?_
            refine g_ialdJ (q := 95) (k := 44) (j := (13 + (k % 8))) (N := 52) (by decide) (by decide) rfl rfl (by decide) (ad2 (show (13 : Int32) = nI 13 from rfl) rfl) (by omega) dX7_reachBy_94 rfl ?_
            refine g_ishl (q := 96) dX7_reachBy_95 rfl ?_
            refine g_goto (t := 100) dX7_reachBy_96 (by decide) ?_
            refine g_ior (q := 101) dX7_reachBy_100 rfl ?_
            refine g_istore_n (j := 3) (q := 102) dX7_reachBy_101 rfl (by decide) rfl rfl ?_
            refine g_iinc (q := 105) dX7_reachBy_102 rfl ci_1 (by decide) rfl rfl ?_
            refine g_goto (t := 7) dX7_reachBy_105 (by decide) ?_
            (try simp only [Int32.or_zero] at c_81)
            exact g_eqw kk_k (by simp only [lsub, rbM, rb1, rb2, hsB, c_27, c_45, c_81, not_true_eq_false, not_false_eq_true, if_true, if_false, Bool.true_eq_false, Bool.false_eq_true, reduceIte, reduceCtorEq, Int32.or_zero, nI_succ, and_self, true_and, and_true, List.set_cons_succ, List.set_cons_zero]) rfl rfl
        · rw [bI_n0] at c_45
          refine g_iconst (q := 49) dX7_reachBy_48 ci_1 rfl ?_
          refine g_aload_n (q := 50) dX7_reachBy_49 rfl rfl ?_
          refine f7_5 (q := 53) wd_853 dX7_reachBy_50 rfl ?_
          refine g_bipush (q := 55) dX7_reachBy_53 cb_21 rfl ?_
          refine g_iload (q := 57) dX7_reachBy_55 rfl rfl ?_
          refine g_iadd (q := 58) dX7_reachBy_57 rfl ?_
          refine g_ialdJ (q := 59) (k := 44) (j := (21 + (k % 8))) (N := 52) (by decide) (by decide) rfl rfl (by decide) (ad2 (show (21 : Int32) = nI 21 from rfl) rfl) (by omega) dX7_reachBy_58 rfl ?_
          refine g_ishl (q := 60) dX7_reachBy_59 rfl ?_
          refine g_goto (t := 64) dX7_reachBy_60 (by decide) ?_
          refine g_ior (q := 65) dX7_reachBy_64 rfl ?_
          refine g_istore_n (j := 3) (q := 66) dX7_reachBy_65 rfl (by decide) rfl rfl ?_
          refine g_iload_n (q := 67) dX7_reachBy_66 rfl rfl ?_
          refine g_iload_n (q := 68) dX7_reachBy_67 rfl rfl ?_
          refine g_aload_n (q := 69) dX7_reachBy_68 rfl rfl ?_
          refine f7_5 (q := 72) wd_853 dX7_reachBy_69 rfl ?_
          refine g_bipush (q := 74) dX7_reachBy_72 cb_21 rfl ?_
          refine g_iload (q := 76) dX7_reachBy_74 rfl rfl ?_
          refine g_iadd (q := 77) dX7_reachBy_76 rfl ?_
          refine g_ialdJ (q := 78) (k := 44) (j := (21 + (k % 8))) (N := 52) (by decide) (by decide) rfl rfl (by decide) (ad2 (show (21 : Int32) = nI 21 from rfl) rfl) (by omega) dX7_reachBy_77 rfl ?_
          refine g_callSi (q := 81) (c_X7_has hE ) lk_RX7_199 rfl rfl rfl rfl (Nat.le_of_ble_eq_true rfl) (Nat.le_of_ble_eq_true rfl) (Nat.le_of_ble_eq_true rfl) dX7_reachBy_78 rfl ?_
          refine g_if_eq (t := 99) (q := 84) dX7_reachBy_81 (by decide) rfl (fun c_81 => ?_) (fun c_81 => ?_)
          · rw [bI_0] at c_81
            refine g_iconst (q := 100) dX7_reachBy_99 ci_0 rfl ?_
            refine g_ior (q := 101) dX7_reachBy_100 rfl ?_
            refine g_istore_n (j := 3) (q := 102) dX7_reachBy_101 rfl (by decide) rfl rfl ?_
            refine g_iinc (q := 105) dX7_reachBy_102 rfl ci_1 (by decide) rfl rfl ?_
            refine g_goto (t := 7) dX7_reachBy_105 (by decide) ?_
            (try simp only [Int32.or_zero] at c_81)
            exact g_eqw kk_k (by simp only [lsub, rbM, rb1, rb2, hsB, c_27, c_45, c_81, not_true_eq_false, not_false_eq_true, if_true, if_false, Bool.true_eq_false, Bool.false_eq_true, reduceIte, reduceCtorEq, Int32.or_zero, nI_succ, and_self, true_and, and_true, List.set_cons_succ, List.set_cons_zero]) rfl rfl
          · rw [bI_n0] at c_81
            refine g_iconst (q := 85) dX7_reachBy_84 ci_1 rfl ?_
            refine g_aload_n (q := 86) dX7_reachBy_85 rfl rfl ?_
            refine f7_5 (q := 89) wd_853 dX7_reachBy_86 rfl ?_
            refine g_bipush (q := 91) dX7_reachBy_89 cb_13 rfl ?_
            refine g_iload (q := 93) dX7_reachBy_91 rfl rfl ?_
            refine g_iadd (q := 94) dX7_reachBy_93 rfl ?_
            refine g_ialdJ (q := 95) (k := 44) (j := (13 + (k % 8))) (N := 52) (by decide) (by decide) rfl rfl (by decide) (ad2 (show (13 : Int32) = nI 13 from rfl) rfl) (by omega) dX7_reachBy_94 rfl ?_
            refine g_ishl (q := 96) dX7_reachBy_95 rfl ?_
            refine g_goto (t := 100) dX7_reachBy_96 (by decide) ?_
            refine g_ior (q := 101) dX7_reachBy_100 rfl ?_
            refine g_istore_n (j := 3) (q := 102) dX7_reachBy_101 rfl (by decide) rfl rfl ?_
            refine g_iinc (q := 105) dX7_reachBy_102 rfl ci_1 (by decide) rfl rfl ?_
            refine g_goto (t := 7) dX7_reachBy_105 (by decide) ?_
            (try simp only [Int32.or_zero] at c_81)
            exact g_eqw kk_k (by simp only [lsub, rbM, rb1, rb2, hsB, c_27, c_45, c_81, not_true_eq_false, not_false_eq_true, if_true, if_false, Bool.true_eq_false, Bool.false_eq_true, reduceIte, reduceCtorEq, Int32.or_zero, nI_succ, and_self, true_and, and_true, List.set_cons_succ, List.set_cons_zero]) rfl rfl
  · refine g_iload (q := 9) dX7_reachBy_7 rfl rfl ?_
    refine g_bipush (q := 11) dX7_reachBy_9 cb_64 rfl ?_
    refine g_icmp_ge (t := 108) (q := 14) dX7_reachBy_11 (by decide) rfl (fun c_11 => ?_) (fun c_11 => ?_)
    · refine g_iload_n (q := 109) dX7_reachBy_108 rfl rfl ?_
      exact g_iret dX7_reachBy_109 (pi_i (by rfl) (by rfl) rfl)
    · exact absurd (lp_out (by rfl)) c_11
set_option maxRecDepth 20000 in
set_option maxHeartbeats 4000000 in
theorem c_X7_guest {E : EE} (hE : inj E 40 13) {σ : Sto} {τ : Stl} {r : Int32} (w : WFM (σ 44)) : Ct E 40 13 yX7_guest cX7_guest 2 (some FieldType.int) { frames := 2, cells := 0, slots := 0, locals := 46 } [.ref (E.2.1 40), .int r] σ τ (Pi ((q_guest σ r).1) ((q_guest σ r).2) (τ)) := by
  refine ct_of hE RX7 [some (.ref (E.2.1 40)), some (.int r)] (by decide) rfl (Nat.le_of_ble_eq_true rfl) rfl (fun X => ?_)
  refine g_aload_n (q := 1) dX7_guest_0 rfl rfl ?_
  refine f7_4 (q := 4) wd_852 dX7_guest_1 rfl ?_
  refine g_if_ne (t := 10) (q := 7) dX7_guest_4 (by decide) rfl (fun c_4 => ?_) (fun c_4 => ?_)
  · refine g_aload_n (q := 11) dX7_guest_10 rfl rfl ?_
    refine g_iload_n (q := 12) dX7_guest_11 rfl rfl ?_
    refine g_callVi (q := 15) (c_X7_isRoom hE ) lk_RX7_175 (by decide) (by decide) rfl (by decide) rfl rfl rfl rfl rfl rfl (Nat.le_of_ble_eq_true rfl) (Nat.le_of_ble_eq_true rfl) (Nat.le_of_ble_eq_true rfl) dX7_guest_12 rfl ?_
    refine g_if_eq (t := 30) (q := 18) dX7_guest_15 (by decide) rfl (fun c_15 => ?_) (fun c_15 => ?_)
    · rw [bI_0] at c_15
      refine g_ldc (q := 32) dX7_guest_30 wd_931 rfl ?_
      exact g_iret dX7_guest_32 (pi_i (by simp only [q_guest, c_4, c_15, not_true_eq_false, not_false_eq_true, if_true, if_false, Bool.true_eq_false, Bool.false_eq_true, reduceIte, reduceCtorEq]) (by simp only [q_guest, c_4, c_15, not_true_eq_false, not_false_eq_true, if_true, if_false, Bool.true_eq_false, Bool.false_eq_true, reduceIte, reduceCtorEq]) rfl)
    · rw [bI_n0] at c_15
      refine g_aload_n (q := 19) dX7_guest_18 rfl rfl ?_
      refine g_iload_n (q := 20) dX7_guest_19 rfl rfl ?_
      refine g_aload_n (q := 21) dX7_guest_20 rfl rfl ?_
      refine g_callVi (q := 24) (c_X7_openDoors hE w) lk_RX7_169 (by decide) (by decide) rfl (by decide) rfl rfl rfl rfl rfl rfl (Nat.le_of_ble_eq_true rfl) (Nat.le_of_ble_eq_true rfl) (Nat.le_of_ble_eq_true rfl) dX7_guest_21 rfl ?_
      refine g_callVi (q := 27) (c_X7_reachBy hE ) lk_RX7_229 (by decide) (by decide) rfl (by decide) rfl rfl rfl rfl rfl rfl (Nat.le_of_ble_eq_true rfl) (Nat.le_of_ble_eq_true rfl) (Nat.le_of_ble_eq_true rfl) dX7_guest_24 rfl ?_
      refine g_goto (t := 32) dX7_guest_27 (by decide) ?_
      exact g_iret dX7_guest_32 (pi_i (by simp only [q_guest, c_4, c_15, not_true_eq_false, not_false_eq_true, if_true, if_false, Bool.true_eq_false, Bool.false_eq_true, reduceIte, reduceCtorEq]) (by simp only [q_guest, c_4, c_15, not_true_eq_false, not_false_eq_true, if_true, if_false, Bool.true_eq_false, Bool.false_eq_true, reduceIte, reduceCtorEq]) rfl)
  · refine g_ldc (q := 9) dX7_guest_7 wd_1011 rfl ?_
    exact g_iret dX7_guest_9 (pi_i (by simp only [q_guest, c_4, not_true_eq_false, not_false_eq_true, if_true, if_false, Bool.true_eq_false, Bool.false_eq_true, reduceIte, reduceCtorEq]) (by simp only [q_guest, c_4, not_true_eq_false, not_false_eq_true, if_true, if_false, Bool.true_eq_false, Bool.false_eq_true, reduceIte, reduceCtorEq]) rfl)
set_option maxRecDepth 20000 in
set_option maxHeartbeats 4000000 in
theorem c_X7_parted {E : EE} (hE : inj E 40 13) {σ : Sto} {τ : Stl} {a b u : Int32} (w : WFM (σ 44)) : Ct E 40 13 yX7_parted cX7_parted 8 (some FieldType.int) { frames := 2, cells := 0, slots := 0, locals := 46 } [.ref (E.2.1 40), .int a, .int b, .int u] σ τ (Pi ((q_parted σ a b u).1) ((q_parted σ a b u).2) (τ)) := by
  refine ct_of hE RX7 [some (.ref (E.2.1 40)), some (.int a), some (.int b), some (.int u), none, none, none, none] (by decide) rfl (Nat.le_of_ble_eq_true rfl) rfl (fun X => ?_)
  obtain ⟨⟨e0, b0⟩, ⟨e1, b1⟩, ⟨e4, b4⟩, ⟨e5, b5⟩⟩ := wfm_n w
  refine g_aload_n (q := 1) dX7_parted_0 rfl rfl ?_
  refine f7_4 (q := 4) wd_852 dX7_parted_1 rfl ?_
  refine g_if_ne (t := 10) (q := 7) dX7_parted_4 (by decide) rfl (fun c_4 => ?_) (fun c_4 => ?_)
  · refine g_aload_n (q := 11) dX7_parted_10 rfl rfl ?_
    refine g_iload_n (q := 12) dX7_parted_11 rfl rfl ?_
    refine g_callVi (q := 15) (c_X7_isRoom hE ) lk_RX7_175 (by decide) (by decide) rfl (by decide) rfl rfl rfl rfl rfl rfl (Nat.le_of_ble_eq_true rfl) (Nat.le_of_ble_eq_true rfl) (Nat.le_of_ble_eq_true rfl) dX7_parted_12 rfl ?_
    refine g_if_eq (t := 36) (q := 18) dX7_parted_15 (by decide) rfl (fun c_15 => ?_) (fun c_15 => ?_)
    · rw [bI_0] at c_15
      refine g_ldc (q := 38) dX7_parted_36 wd_931 rfl ?_
      exact g_iret dX7_parted_38 (pi_i (by simp only [q_parted, c_4, c_15, not_true_eq_false, not_false_eq_true, if_true, if_false, Bool.true_eq_false, Bool.false_eq_true, reduceIte, reduceCtorEq]) (by simp only [q_parted, c_4, c_15, not_true_eq_false, not_false_eq_true, if_true, if_false, Bool.true_eq_false, Bool.false_eq_true, reduceIte, reduceCtorEq]) rfl)
    · rw [bI_n0] at c_15
      refine g_aload_n (q := 19) dX7_parted_18 rfl rfl ?_
      refine g_iload_n (q := 20) dX7_parted_19 rfl rfl ?_
      refine g_callVi (q := 23) (c_X7_isRoom hE ) lk_RX7_175 (by decide) (by decide) rfl (by decide) rfl rfl rfl rfl rfl rfl (Nat.le_of_ble_eq_true rfl) (Nat.le_of_ble_eq_true rfl) (Nat.le_of_ble_eq_true rfl) dX7_parted_20 rfl ?_
      refine g_if_eq (t := 36) (q := 26) dX7_parted_23 (by decide) rfl (fun c_23 => ?_) (fun c_23 => ?_)
      · rw [bI_0] at c_23
        refine g_ldc (q := 38) dX7_parted_36 wd_931 rfl ?_
        exact g_iret dX7_parted_38 (pi_i (by simp only [q_parted, c_4, c_15, c_23, not_true_eq_false, not_false_eq_true, if_true, if_false, Bool.true_eq_false, Bool.false_eq_true, reduceIte, reduceCtorEq]) (by simp only [q_parted, c_4, c_15, c_23, not_true_eq_false, not_false_eq_true, if_true, if_false, Bool.true_eq_false, Bool.false_eq_true, reduceIte, reduceCtorEq]) rfl)
      · rw [bI_n0] at c_23
        refine g_iload_n (q := 27) dX7_parted_26 rfl rfl ?_
        refine g_i2l (q := 28) dX7_parted_27 rfl ?_
        refine g_lconst (q := 29) dX7_parted_28 cl_0 rfl ?_
        refine g_lconst (q := 30) dX7_parted_29 cl_1 rfl ?_
        refine g_callSi (q := 33) (c_X7_in hE ) lk_RX7_54 rfl rfl rfl rfl (Nat.le_of_ble_eq_true rfl) (Nat.le_of_ble_eq_true rfl) (Nat.le_of_ble_eq_true rfl) dX7_parted_30 rfl ?_
        refine g_if_ne (t := 39) (q := 36) dX7_parted_33 (by decide) rfl (fun c_33 => ?_) (fun c_33 => ?_)
        · rw [bI_n0] at c_33
          rw [show inL u.toInt64 0 1 = wi u 0 1 from inL_i u 0 1] at c_33
          refine g_iload_n (q := 40) dX7_parted_39 rfl rfl ?_
          refine g_iload_n (q := 41) dX7_parted_40 rfl rfl ?_
          refine g_icmp_ne (t := 47) (q := 44) dX7_parted_41 (by decide) rfl (fun c_41 => ?_) (fun c_41 => ?_)
          · refine g_aload_n (q := 48) dX7_parted_47 rfl rfl ?_
            refine g_callVi (q := 51) (c_X7_openDoors hE w) lk_RX7_169 (by decide) (by decide) rfl (by decide) rfl rfl rfl rfl rfl rfl (Nat.le_of_ble_eq_true rfl) (Nat.le_of_ble_eq_true rfl) (Nat.le_of_ble_eq_true rfl) dX7_parted_48 rfl ?_
            refine g_istore (q := 53) dX7_parted_51 (by decide) rfl rfl ?_
            refine g_iconst (q := 54) dX7_parted_53 ci_m1 rfl ?_
            refine g_istore (q := 56) dX7_parted_54 (by decide) rfl rfl ?_
            refine g_iconst (q := 57) dX7_parted_56 ci_0 rfl ?_
            refine g_istore (q := 59) dX7_parted_57 (by decide) rfl rfl ?_
            have pg := pw_le b4
            refine g_eqw (ls := [some (.ref (E.2.1 40)), some (.int a), some (.int b), some (.int u), some (.int (s_opM (σ 44) ((σ 44 4).toNatClampNeg))), some (.int (-1)), some (.int 0), none]) ?_ (by simp [lsub]) rfl rfl
            refine g_for (I := fun j => [some (.ref (E.2.1 40)), some (.int a), some (.int b), some (.int u), some (.int (s_opM (σ 44) ((σ 44 4).toNatClampNeg))), some (.int (obI (bsM (paX σ a b) j))), some (.int (nI j)), none]) (S := fun j => σ) (T := fun j => τ) (0) (2 ^ (σ 44 4).toNatClampNeg) (Nat.zero_le _) (by rfl) (by rfl) (by rfl) (fun j j0 j1 kk_j => ?_) ?_
            · have hcj : (nI j).toNatClampNeg = j := nI_clamp (by omega)
              have o1 : o256 (bsM (paX σ a b) j) := bs_256 _ (by omega)
              refine g_iload (q := 61) dX7_parted_59 rfl rfl ?_
              refine g_iconst (q := 62) dX7_parted_61 ci_1 rfl ?_
              refine g_aload_n (q := 63) dX7_parted_62 rfl rfl ?_
              refine f7_5 (q := 66) wd_853 dX7_parted_63 rfl ?_
              refine g_iconst (q := 67) dX7_parted_66 ci_4 rfl ?_
              refine g_ialdJ (q := 68) (k := 44) (j := 4) (N := 52) (by decide) (by decide) rfl rfl (by decide) (show (4 : Int32) = nI 4 from rfl) (by omega) dX7_parted_67 rfl ?_
              refine g_ishl (q := 69) dX7_parted_68 rfl ?_
              refine g_icmp_ge (t := 141) (q := 72) dX7_parted_69 (by decide) rfl (fun c_69 => ?_) (fun c_69 => ?_)
              · exact absurd c_69 (lp_in (by rw [e4, nI_clamp (by omega)]; exact sh1 b4) (by omega) j1)
              · refine g_iload (q := 74) dX7_parted_72 rfl rfl ?_
                refine g_if_lt (t := 90) (q := 77) dX7_parted_74 (by decide) rfl (fun c_74 => ?_) (fun c_74 => ?_)
                · refine g_iconst (q := 91) dX7_parted_90 ci_1 rfl ?_
                  refine g_goto (t := 95) dX7_parted_91 (by decide) ?_
                  refine g_istore (q := 97) dX7_parted_95 (by decide) rfl rfl ?_
                  have hb1 : btr (bsM (paX σ a b) j) j = true := btr1 o1 c_74
                  refine g_iload (q := 99) dX7_parted_97 rfl rfl ?_
                  refine g_if_eq (t := 135) (q := 102) dX7_parted_99 (by decide) rfl (fun c_99 => ?_) (fun c_99 => ?_)
                  · exact absurd c_99 (by decide)
                  · refine g_iload (q := 104) dX7_parted_102 rfl rfl ?_
                    refine g_iload (q := 106) dX7_parted_104 rfl rfl ?_
                    refine g_iconst (q := 107) dX7_parted_106 ci_m1 rfl ?_
                    refine g_ixor (q := 108) dX7_parted_107 rfl ?_
                    refine g_iand (q := 109) dX7_parted_108 rfl ?_
                    refine g_if_ne (t := 135) (q := 112) dX7_parted_109 (by decide) rfl (fun c_109 => ?_) (fun c_109 => ?_)
                    · refine g_iinc (q := 138) dX7_parted_135 rfl ci_1 (by decide) rfl rfl ?_
                      refine g_goto (t := 59) dX7_parted_138 (by decide) ?_
                      have hs : bsM (paX σ a b) (j + 1) = bsM (paX σ a b) j := bs_no (by unfold paX; rw [beq_eq_false_iff_ne.mpr c_109]; rfl)
                      exact g_eqw kk_j (by simp [lsub, hs, nI_succ]) rfl rfl
                    · refine g_aload_n (q := 113) dX7_parted_112 rfl rfl ?_
                      refine g_iload_n (q := 114) dX7_parted_113 rfl rfl ?_
                      refine g_iload (q := 116) dX7_parted_114 rfl rfl ?_
                      refine g_iload (q := 118) dX7_parted_116 rfl rfl ?_
                      refine g_iconst (q := 119) dX7_parted_118 ci_m1 rfl ?_
                      refine g_ixor (q := 120) dX7_parted_119 rfl ?_
                      refine g_iand (q := 121) dX7_parted_120 rfl ?_
                      refine g_callVi (q := 124) (c_X7_reachBy hE ) lk_RX7_229 (by decide) (by decide) rfl (by decide) rfl rfl rfl rfl rfl rfl (Nat.le_of_ble_eq_true rfl) (Nat.le_of_ble_eq_true rfl) (Nat.le_of_ble_eq_true rfl) dX7_parted_121 rfl ?_
                      refine g_iload_n (q := 125) dX7_parted_124 rfl rfl ?_
                      refine g_callSi (q := 128) (c_X7_has hE ) lk_RX7_199 rfl rfl rfl rfl (Nat.le_of_ble_eq_true rfl) (Nat.le_of_ble_eq_true rfl) (Nat.le_of_ble_eq_true rfl) dX7_parted_125 rfl ?_
                      refine g_if_ne (t := 135) (q := 131) dX7_parted_128 (by decide) rfl (fun c_128 => ?_) (fun c_128 => ?_)
                      · rw [bI_n0] at c_128
                        refine g_iinc (q := 138) dX7_parted_135 rfl ci_1 (by decide) rfl rfl ?_
                        refine g_goto (t := 59) dX7_parted_138 (by decide) ?_
                        have hs : bsM (paX σ a b) (j + 1) = if hsB (rbM (σ 44) (s_opM (σ 44) ((σ 44 4).toNatClampNeg) &&& (nI j ^^^ (-1))) a 64) b = false then some j else bsM (paX σ a b) j := by simp only [bsM, hb1, paX, c_109, Bool.true_and, beq_self_eq_true, Bool.not_eq_true']
                        rw [show (rbM (σ 44) (s_opM (σ 44) ((σ 44 4).toNatClampNeg) &&& (nI j ^^^ (-1))) a 64 >>> (b &&& 31) &&& 1 == 1) = hsB (rbM (σ 44) (s_opM (σ 44) ((σ 44 4).toNatClampNeg) &&& (nI j ^^^ (-1))) a 64) b from rfl] at c_128
                        rw [c_128] at hs
                        simp only [not_true_eq_false, not_false_eq_true, if_true, if_false, Bool.true_eq_false, Bool.false_eq_true, reduceIte, reduceCtorEq] at hs
                        exact g_eqw kk_j (by simp [lsub, hs, nI_succ, obI]) rfl rfl
                      · rw [bI_0] at c_128
                        refine g_iload (q := 133) dX7_parted_131 rfl rfl ?_
                        refine g_istore (q := 135) dX7_parted_133 (by decide) rfl rfl ?_
                        refine g_iinc (q := 138) dX7_parted_135 rfl ci_1 (by decide) rfl rfl ?_
                        refine g_goto (t := 59) dX7_parted_138 (by decide) ?_
                        have hs : bsM (paX σ a b) (j + 1) = if hsB (rbM (σ 44) (s_opM (σ 44) ((σ 44 4).toNatClampNeg) &&& (nI j ^^^ (-1))) a 64) b = false then some j else bsM (paX σ a b) j := by simp only [bsM, hb1, paX, c_109, Bool.true_and, beq_self_eq_true, Bool.not_eq_true']
                        rw [show (rbM (σ 44) (s_opM (σ 44) ((σ 44 4).toNatClampNeg) &&& (nI j ^^^ (-1))) a 64 >>> (b &&& 31) &&& 1 == 1) = hsB (rbM (σ 44) (s_opM (σ 44) ((σ 44 4).toNatClampNeg) &&& (nI j ^^^ (-1))) a 64) b from rfl] at c_128
                        rw [c_128] at hs
                        simp only [not_true_eq_false, not_false_eq_true, if_true, if_false, Bool.true_eq_false, Bool.false_eq_true, reduceIte, reduceCtorEq] at hs
                        exact g_eqw kk_j (by simp [lsub, hs, nI_succ, obI]) rfl rfl
                · refine g_iload (q := 79) dX7_parted_77 rfl rfl ?_
                  refine g_callSi (q := 82) (c_X7_ones hE (by omega)) lk_RX7_208 rfl rfl rfl rfl (Nat.le_of_ble_eq_true rfl) (Nat.le_of_ble_eq_true rfl) (Nat.le_of_ble_eq_true rfl) dX7_parted_79 rfl ?_
                  refine g_iload (q := 84) dX7_parted_82 rfl rfl ?_
                  refine g_callSi (q := 87) (c_X7_onesG hE (ob_ones o1).1 (ob_ones o1).2.1 (ob_ones o1).2.2) lk_RX7_208 rfl rfl rfl rfl (Nat.le_of_ble_eq_true rfl) (Nat.le_of_ble_eq_true rfl) (Nat.le_of_ble_eq_true rfl) dX7_parted_84 rfl ?_
                  refine g_icmp_ge (t := 94) (q := 90) dX7_parted_87 (by decide) rfl (fun c_87 => ?_) (fun c_87 => ?_)
                  · refine g_iconst (q := 95) dX7_parted_94 ci_0 rfl ?_
                    refine g_istore (q := 97) dX7_parted_95 (by decide) rfl rfl ?_
                    have hb1 : ¬ btr (bsM (paX σ a b) j) j = true := fun q => ((btr2 o1 c_74).mpr q) c_87
                    refine g_iload (q := 99) dX7_parted_97 rfl rfl ?_
                    refine g_if_eq (t := 135) (q := 102) dX7_parted_99 (by decide) rfl (fun c_99 => ?_) (fun c_99 => ?_)
                    · refine g_iinc (q := 138) dX7_parted_135 rfl ci_1 (by decide) rfl rfl ?_
                      refine g_goto (t := 59) dX7_parted_138 (by decide) ?_
                      have hs : bsM (paX σ a b) (j + 1) = bsM (paX σ a b) j := by simp only [bsM]; rw [if_neg]; intro q; rw [Bool.and_eq_true] at q; exact hb1 q.1
                      exact g_eqw kk_j (by simp [lsub, hs, nI_succ]) rfl rfl
                    · exact absurd rfl c_99
                  · refine g_iconst (q := 91) dX7_parted_90 ci_1 rfl ?_
                    refine g_goto (t := 95) dX7_parted_91 (by decide) ?_
                    refine g_istore (q := 97) dX7_parted_95 (by decide) rfl rfl ?_
                    have hb1 : btr (bsM (paX σ a b) j) j = true := (btr2 o1 c_74).mp c_87
                    refine g_iload (q := 99) dX7_parted_97 rfl rfl ?_
                    refine g_if_eq (t := 135) (q := 102) dX7_parted_99 (by decide) rfl (fun c_99 => ?_) (fun c_99 => ?_)
                    · exact absurd c_99 (by decide)
                    · refine g_iload (q := 104) dX7_parted_102 rfl rfl ?_
                      refine g_iload (q := 106) dX7_parted_104 rfl rfl ?_
                      refine g_iconst (q := 107) dX7_parted_106 ci_m1 rfl ?_
                      refine g_ixor (q := 108) dX7_parted_107 rfl ?_
                      refine g_iand (q := 109) dX7_parted_108 rfl ?_
                      refine g_if_ne (t := 135) (q := 112) dX7_parted_109 (by decide) rfl (fun c_109 => ?_) (fun c_109 => ?_)
                      · refine g_iinc (q := 138) dX7_parted_135 rfl ci_1 (by decide) rfl rfl ?_
                        refine g_goto (t := 59) dX7_parted_138 (by decide) ?_
                        have hs : bsM (paX σ a b) (j + 1) = bsM (paX σ a b) j := bs_no (by unfold paX; rw [beq_eq_false_iff_ne.mpr c_109]; rfl)
                        exact g_eqw kk_j (by simp [lsub, hs, nI_succ]) rfl rfl
                      · refine g_aload_n (q := 113) dX7_parted_112 rfl rfl ?_
                        refine g_iload_n (q := 114) dX7_parted_113 rfl rfl ?_
                        refine g_iload (q := 116) dX7_parted_114 rfl rfl ?_
                        refine g_iload (q := 118) dX7_parted_116 rfl rfl ?_
                        refine g_iconst (q := 119) dX7_parted_118 ci_m1 rfl ?_
                        refine g_ixor (q := 120) dX7_parted_119 rfl ?_
                        refine g_iand (q := 121) dX7_parted_120 rfl ?_
                        refine g_callVi (q := 124) (c_X7_reachBy hE ) lk_RX7_229 (by decide) (by decide) rfl (by decide) rfl rfl rfl rfl rfl rfl (Nat.le_of_ble_eq_true rfl) (Nat.le_of_ble_eq_true rfl) (Nat.le_of_ble_eq_true rfl) dX7_parted_121 rfl ?_
                        refine g_iload_n (q := 125) dX7_parted_124 rfl rfl ?_
                        refine g_callSi (q := 128) (c_X7_has hE ) lk_RX7_199 rfl rfl rfl rfl (Nat.le_of_ble_eq_true rfl) (Nat.le_of_ble_eq_true rfl) (Nat.le_of_ble_eq_true rfl) dX7_parted_125 rfl ?_
                        refine g_if_ne (t := 135) (q := 131) dX7_parted_128 (by decide) rfl (fun c_128 => ?_) (fun c_128 => ?_)
                        · rw [bI_n0] at c_128
                          refine g_iinc (q := 138) dX7_parted_135 rfl ci_1 (by decide) rfl rfl ?_
                          refine g_goto (t := 59) dX7_parted_138 (by decide) ?_
                          have hs : bsM (paX σ a b) (j + 1) = if hsB (rbM (σ 44) (s_opM (σ 44) ((σ 44 4).toNatClampNeg) &&& (nI j ^^^ (-1))) a 64) b = false then some j else bsM (paX σ a b) j := by simp only [bsM, hb1, paX, c_109, Bool.true_and, beq_self_eq_true, Bool.not_eq_true']
                          rw [show (rbM (σ 44) (s_opM (σ 44) ((σ 44 4).toNatClampNeg) &&& (nI j ^^^ (-1))) a 64 >>> (b &&& 31) &&& 1 == 1) = hsB (rbM (σ 44) (s_opM (σ 44) ((σ 44 4).toNatClampNeg) &&& (nI j ^^^ (-1))) a 64) b from rfl] at c_128
                          rw [c_128] at hs
                          simp only [not_true_eq_false, not_false_eq_true, if_true, if_false, Bool.true_eq_false, Bool.false_eq_true, reduceIte, reduceCtorEq] at hs
                          exact g_eqw kk_j (by simp [lsub, hs, nI_succ, obI]) rfl rfl
                        · rw [bI_0] at c_128
                          refine g_iload (q := 133) dX7_parted_131 rfl rfl ?_
                          refine g_istore (q := 135) dX7_parted_133 (by decide) rfl rfl ?_
                          refine g_iinc (q := 138) dX7_parted_135 rfl ci_1 (by decide) rfl rfl ?_
                          refine g_goto (t := 59) dX7_parted_138 (by decide) ?_
                          have hs : bsM (paX σ a b) (j + 1) = if hsB (rbM (σ 44) (s_opM (σ 44) ((σ 44 4).toNatClampNeg) &&& (nI j ^^^ (-1))) a 64) b = false then some j else bsM (paX σ a b) j := by simp only [bsM, hb1, paX, c_109, Bool.true_and, beq_self_eq_true, Bool.not_eq_true']
                          rw [show (rbM (σ 44) (s_opM (σ 44) ((σ 44 4).toNatClampNeg) &&& (nI j ^^^ (-1))) a 64 >>> (b &&& 31) &&& 1 == 1) = hsB (rbM (σ 44) (s_opM (σ 44) ((σ 44 4).toNatClampNeg) &&& (nI j ^^^ (-1))) a 64) b from rfl] at c_128
                          rw [c_128] at hs
                          simp only [not_true_eq_false, not_false_eq_true, if_true, if_false, Bool.true_eq_false, Bool.false_eq_true, reduceIte, reduceCtorEq] at hs
                          exact g_eqw kk_j (by simp [lsub, hs, nI_succ, obI]) rfl rfl
            · refine g_iload (q := 61) dX7_parted_59 rfl rfl ?_
              refine g_iconst (q := 62) dX7_parted_61 ci_1 rfl ?_
              refine g_aload_n (q := 63) dX7_parted_62 rfl rfl ?_
              refine f7_5 (q := 66) wd_853 dX7_parted_63 rfl ?_
              refine g_iconst (q := 67) dX7_parted_66 ci_4 rfl ?_
              refine g_ialdJ (q := 68) (k := 44) (j := 4) (N := 52) (by decide) (by decide) rfl rfl (by decide) (show (4 : Int32) = nI 4 from rfl) (by omega) dX7_parted_67 rfl ?_
              refine g_ishl (q := 69) dX7_parted_68 rfl ?_
              refine g_icmp_ge (t := 141) (q := 72) dX7_parted_69 (by decide) rfl (fun c_69 => ?_) (fun c_69 => ?_)
              · have oR : o256 (paR σ a b) := bs_256 _ pg
                refine g_ls (ls' := [some (.ref (E.2.1 40)), some (.int a), some (.int b), some (.int u), some (.int (s_opM (σ 44) ((σ 44 4).toNatClampNeg))), some (.int (obI (paR σ a b))), some (.int (nI (2 ^ (σ 44 4).toNatClampNeg))), none]) rfl ?_
                refine g_iload_n (q := 142) dX7_parted_141 rfl rfl ?_
                refine g_if_ne (t := 153) (q := 145) dX7_parted_142 (by decide) rfl (fun c_142 => ?_) (fun c_142 => ?_)
                · refine g_iload (q := 155) dX7_parted_153 rfl rfl ?_
                  exact g_iret dX7_parted_155 (pi_i (by simp only [q_parted, c_4, c_15, c_23, c_33, c_41, c_69, c_142, not_true_eq_false, not_false_eq_true, if_true, if_false, Bool.true_eq_false, Bool.false_eq_true, reduceIte, reduceCtorEq, show wi 0 0 1 = true from by decide]) (by simp only [q_parted, c_4, c_15, c_23, c_33, c_41, c_69, c_142, not_true_eq_false, not_false_eq_true, if_true, if_false, Bool.true_eq_false, Bool.false_eq_true, reduceIte, reduceCtorEq, show wi 0 0 1 = true from by decide]) rfl)
                · refine g_iload (q := 147) dX7_parted_145 rfl rfl ?_
                  refine g_callSi (q := 150) (c_X7_onesG hE (ob_ones oR).1 (ob_ones oR).2.1 (ob_ones oR).2.2) lk_RX7_208 rfl rfl rfl rfl (Nat.le_of_ble_eq_true rfl) (Nat.le_of_ble_eq_true rfl) (Nat.le_of_ble_eq_true rfl) dX7_parted_147 rfl ?_
                  refine g_goto (t := 155) dX7_parted_150 (by decide) ?_
                  exact g_iret dX7_parted_155 (pi_i (by simp only [q_parted, c_4, c_15, c_23, c_33, c_41, c_69, c_142, not_true_eq_false, not_false_eq_true, if_true, if_false, Bool.true_eq_false, Bool.false_eq_true, reduceIte, reduceCtorEq, show wi 0 0 1 = true from by decide]) (by simp only [q_parted, c_4, c_15, c_23, c_33, c_41, c_69, c_142, not_true_eq_false, not_false_eq_true, if_true, if_false, Bool.true_eq_false, Bool.false_eq_true, reduceIte, reduceCtorEq, show wi 0 0 1 = true from by decide]) rfl)
              · exact absurd (lp_out (by rw [e4, nI_clamp (by omega)]; exact sh1 b4)) c_69
          · refine g_ldc (q := 46) dX7_parted_44 wd_1110 rfl ?_
            exact g_iret dX7_parted_46 (pi_i (by simp only [q_parted, c_4, c_15, c_23, c_33, c_41, not_true_eq_false, not_false_eq_true, if_true, if_false, Bool.true_eq_false, Bool.false_eq_true, reduceIte, reduceCtorEq]) (by simp only [q_parted, c_4, c_15, c_23, c_33, c_41, not_true_eq_false, not_false_eq_true, if_true, if_false, Bool.true_eq_false, Bool.false_eq_true, reduceIte, reduceCtorEq]) rfl)
        · rw [bI_0] at c_33
          rw [show inL u.toInt64 0 1 = wi u 0 1 from inL_i u 0 1] at c_33
          refine g_ldc (q := 38) dX7_parted_36 wd_931 rfl ?_
          exact g_iret dX7_parted_38 (pi_i (by simp only [q_parted, c_4, c_15, c_23, c_33, not_true_eq_false, not_false_eq_true, if_true, if_false, Bool.true_eq_false, Bool.false_eq_true, reduceIte, reduceCtorEq]) (by simp only [q_parted, c_4, c_15, c_23, c_33, not_true_eq_false, not_false_eq_true, if_true, if_false, Bool.true_eq_false, Bool.false_eq_true, reduceIte, reduceCtorEq]) rfl)
  · refine g_ldc (q := 9) dX7_parted_7 wd_1011 rfl ?_
    exact g_iret dX7_parted_9 (pi_i (by simp only [q_parted, c_4, not_true_eq_false, not_false_eq_true, if_true, if_false, Bool.true_eq_false, Bool.false_eq_true, reduceIte, reduceCtorEq]) (by simp only [q_parted, c_4, not_true_eq_false, not_false_eq_true, if_true, if_false, Bool.true_eq_false, Bool.false_eq_true, reduceIte, reduceCtorEq]) rfl)
