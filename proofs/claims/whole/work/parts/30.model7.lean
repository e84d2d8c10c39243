def asd (σ : Sto) : Sto := upc σ 49 (σ 44)
theorem asd_44 (σ : Sto) : asd σ 44 = σ 44 := upc_ne (by decide)
theorem asd_49 (σ : Sto) : asd σ 49 = σ 44 := upc_same _ _ _
theorem asd_ne {σ : Sto} {k : Nat} (h : k ≠ 49) : asd σ k = σ k := upc_ne h
theorem tkb {σ s : Sto} (h : ∀ k, k ≠ 44 → s k = asd σ k) : upc s 44 (s 49) = asd σ := by
  funext k
  by_cases e : k = 44
  · subst e
    rw [upc_same, h 49 (by decide), asd_49, asd_44]
  · rw [upc_ne e, h k e]
def q_room (σ : Sto) (r w : Int32) : Int32 × Sto := if σ 40 4 = 0 then (-1000002, σ) else if wi r 0 (σ 44 0 - 1) = false then (-1000001, σ) else if wi w 0 4 = false then (-1000001, σ) else if w = 0 then (σ 44 (7 + r.toNatClampNeg), σ) else if w = 1 then (s_si (fun p => σ 44 (42 + p)) r ((σ 44 5).toNatClampNeg), σ) else if w = 2 then (bI (s_kept (σ 44) r 0 ((σ 44 5).toNatClampNeg)), σ) else if w = 3 then (bI (s_kept (σ 44) r 1 ((σ 44 5).toNatClampNeg)), σ) else (s_do (fun d => σ 44 (13 + d)) (fun d => σ 44 (21 + d)) r ((σ 44 4).toNatClampNeg), σ)
def q_ahead (σ : Sto) (n r : Int32) : Int32 × Sto := if σ 40 4 = 0 then (-1000002, σ) else if wi n 0 60 = false then (-1000001, σ) else if wi r 0 (σ 44 0 - 1) = false then (-1000001, σ) else (q_hrs (σ 44) (n.toNatClampNeg) (7 + r.toNatClampNeg), asd σ)
def q_allAhead (σ : Sto) (n : Int32) : Int32 × Sto := if σ 40 4 = 0 then (-1000002, σ) else if wi n 0 60 = false then (-1000001, σ) else (s_ac (fun r => q_hrs (σ 44) (n.toNatClampNeg) (7 + r)) ((q_hrs (σ 44) (n.toNatClampNeg) 0).toNatClampNeg), asd σ)
def shM (m : Nat → Int32) (h : Nat) : Nat → Int32 × Int32
  | 0 => (nI h, fsM m)
  | k + 1 => if fsM m < 0 then shM (q_hour m) (h + 1) k else (nI h, fsM m)
def q_shivers (σ : Sto) (u : Int32) : Int32 × Sto := if σ 40 4 = 0 then (-1000002, σ) else if wi u 0 1 = false then (-1000001, σ) else (if 0 ≤ (shM (σ 44) 0 60).2 then (if u = 0 then (shM (σ 44) 0 60).1 else (shM (σ 44) 0 60).2) else -1000000, asd σ)
def coM (c : Nat → Int32) : Nat → Nat
  | 0 => 0
  | k + 1 => if c (k + 1) ≤ c (coM c k) then coM c k else k + 1
theorem coM_le (c : Nat → Int32) (k : Nat) : coM c k ≤ k := by
  induction k with
  | zero => exact Nat.le_refl _
  | succ k ih =>
    unfold coM
    split <;> omega
def q_coldest (σ : Sto) (n u : Int32) : Int32 × Sto := if σ 40 4 = 0 then (-1000002, σ) else if wi n 0 60 = false then (-1000001, σ) else if wi u 0 1 = false then (-1000001, σ) else (if u = 0 then nI (coM (fun r => q_hrs (σ 44) (n.toNatClampNeg) (7 + r)) ((σ 44 0).toNatClampNeg - 1)) else q_hrs (σ 44) (n.toNatClampNeg) (7 + coM (fun r => q_hrs (σ 44) (n.toNatClampNeg) (7 + r)) ((σ 44 0).toNatClampNeg - 1)), asd σ)
theorem hrs_0 {m : Nat → Int32} (w : WFM m) (n : Nat) : ∀ j, j ≠ 6 → ¬ (7 ≤ j ∧ j < 13) → q_hrs m n j = m j := by
  induction n with
  | zero => intro j _ _; rfl
  | succ n ih =>
    intro j h1 h2
    have w0 := wfm_hrs w n
    obtain ⟨⟨e0, b0⟩, ⟨e1, b1⟩, ⟨e4, b4⟩, ⟨e5, b5⟩⟩ := wfm_n w0
    show q_hour (q_hrs m n) j = m j
    unfold q_hour
    have w1 := wfm_ag (ag_h1 w0) w0
    have w2 := wfm_ag (ag_hd w1 _ b4) w1
    rw [upd_ne h1, ag_hs w2 _ b5 j h2, ag_hd w1 _ b4 j h2, ag_h1 w0 j h2]
    exact ih j h1 h2
set_option maxRecDepth 20000 in
set_option maxHeartbeats 4000000 in
theorem c_X7_room {E : EE} (hE : inj E 40 13) {σ : Sto} {τ : Stl} {r u : Int32} (w : WFM (σ 44)) : Ct E 40 13 yX7_room cX7_room 6 (some FieldType.int) { frames := 2, cells := 0, slots := 0, locals := 46 } [.ref (E.2.1 40), .int r, .int u] σ τ (Pi ((q_room σ r u).1) ((q_room σ r u).2) (τ)) := by
  refine ct_of hE RX7 [some (.ref (E.2.1 40)), some (.int r), some (.int u), none, none, none] (by decide) rfl (Nat.le_of_ble_eq_true rfl) rfl (fun X => ?_)
  obtain ⟨⟨e0, b0⟩, ⟨e1, b1⟩, ⟨e4, b4⟩, ⟨e5, b5⟩⟩ := wfm_n w
  refine g_aload_n (q := 1) dX7_room_0 rfl rfl ?_
  refine f7_4 (q := 4) wd_852 dX7_room_1 rfl ?_
  refine g_if_ne (t := 10) (q := 7) dX7_room_4 (by decide) rfl (fun c_4 => ?_) (fun c_4 => ?_)
  · refine g_aload_n (q := 11) dX7_room_10 rfl rfl ?_
    refine g_iload_n (q := 12) dX7_room_11 rfl rfl ?_
    refine g_callVi (q := 15) (c_X7_isRoom hE ) lk_RX7_175 (by decide) (by decide) rfl (by decide) rfl rfl rfl rfl rfl rfl (Nat.le_of_ble_eq_true rfl) (Nat.le_of_ble_eq_true rfl) (Nat.le_of_ble_eq_true rfl) dX7_room_12 rfl ?_
    refine g_if_eq (t := 30) (q := 18) dX7_room_15 (by decide) rfl (fun c_15 => ?_) (fun c_15 => ?_)
    · rw [bI_0] at c_15
      refine g_ldc (q := 32) dX7_room_30 wd_931 rfl ?_
      exact g_iret dX7_room_32 (pi_i (by simp only [q_room, c_4, c_15, not_true_eq_false, not_false_eq_true, if_true, if_false, Bool.true_eq_false, Bool.false_eq_true, reduceIte, reduceCtorEq]) (by simp only [q_room, c_4, c_15, not_true_eq_false, not_false_eq_true, if_true, if_false, Bool.true_eq_false, Bool.false_eq_true, reduceIte, reduceCtorEq]) rfl)
    · rw [bI_n0] at c_15
      refine g_iload_n (q := 19) dX7_room_18 rfl rfl ?_
      refine g_i2l (q := 20) dX7_room_19 rfl ?_
      refine g_lconst (q := 21) dX7_room_20 cl_0 rfl ?_
      refine g_ldc2 (q := 24) dX7_room_21 wd_1068 rfl ?_
      refine g_callSi (q := 27) (c_X7_in hE ) lk_RX7_54 rfl rfl rfl rfl (Nat.le_of_ble_eq_true rfl) (Nat.le_of_ble_eq_true rfl) (Nat.le_of_ble_eq_true rfl) dX7_room_24 rfl ?_
      refine g_if_ne (t := 33) (q := 30) dX7_room_27 (by decide) rfl (fun c_27 => ?_) (fun c_27 => ?_)
      · rw [bI_n0] at c_27
        rw [show inL u.toInt64 0 4 = wi u 0 4 from inL_i u 0 4] at c_27
        have er := roomM w c_15
        refine g_iconst (q := 34) dX7_room_33 ci_0 rfl ?_
        refine g_istore_n (j := 3) (q := 35) dX7_room_34 rfl (by decide) rfl rfl ?_
        refine g_iconst (q := 36) dX7_room_35 ci_0 rfl ?_
        refine g_istore (q := 38) dX7_room_36 (by decide) rfl rfl ?_
        refine g_for (I := fun i => [some (.ref (E.2.1 40)), some (.int r), some (.int u), some (.int (s_si (fun p => σ 44 (42 + p)) r i)), some (.int (nI i)), none]) (S := fun i => σ) (T := fun i => τ) (0) ((σ 44 5).toNatClampNeg) (Nat.zero_le _) (by rfl) (by rfl) (by rfl) (fun i i0 i1 kk_i => ?_) ?_
        · have hci : (nI i).toNatClampNeg = i := nI_clamp (by omega)
          refine g_iload (q := 40) dX7_room_38 rfl rfl ?_
          refine g_aload_n (q := 41) dX7_room_40 rfl rfl ?_
          refine f7_5 (q := 44) wd_853 dX7_room_41 rfl ?_
          refine g_iconst (q := 45) dX7_room_44 ci_5 rfl ?_
          refine g_ialdJ (q := 46) (k := 44) (j := 5) (N := 52) (by decide) (by decide) rfl rfl (by decide) (show (5 : Int32) = nI 5 from rfl) (by omega) dX7_room_45 rfl ?_
          refine g_icmp_ge (t := 80) (q := 49) dX7_room_46 (by decide) rfl (fun c_46 => ?_) (fun c_46 => ?_)
          · exact absurd c_46 (lp_in (by exact e5) (by omega) i1)
          · refine g_iload_n (q := 50) dX7_room_49 rfl rfl ?_
            refine g_aload_n (q := 51) dX7_room_50 rfl rfl ?_
            refine f7_5 (q := 54) wd_853 dX7_room_51 rfl ?_
            refine g_bipush (q := 56) dX7_room_54 cb_42 rfl ?_
            refine g_iload (q := 58) dX7_room_56 rfl rfl ?_
            refine g_iadd (q := 59) dX7_room_58 rfl ?_
            refine g_ialdJ (q := 60) (k := 44) (j := (42 + i)) (N := 52) (by decide) (by decide) rfl rfl (by decide) (ad2 (show (42 : Int32) = nI 42 from rfl) rfl) (by omega) dX7_room_59 rfl ?_
            refine g_iload_n (q := 61) dX7_room_60 rfl rfl ?_
            refine g_icmp_ne (t := 71) (q := 64) dX7_room_61 (by decide) rfl (fun c_61 => ?_) (fun c_61 => ?_)
            · refine g_iconst (q := 72) dX7_room_71 ci_0 rfl ?_
              refine g_ior (q := 73) dX7_room_72 rfl ?_
              refine g_istore_n (j := 3) (q := 74) dX7_room_73 rfl (by decide) rfl rfl ?_
              refine g_iinc (q := 77) dX7_room_74 rfl ci_1 (by decide) rfl rfl ?_
              refine g_goto (t := 38) dX7_room_77 (by decide) ?_
              exact g_eqw kk_i (by simp [lsub, s_si, nI_succ, c_61]) rfl rfl
            · refine g_iconst (q := 65) dX7_room_64 ci_1 rfl ?_
              refine g_iload (q := 67) dX7_room_65 rfl rfl ?_
              refine g_ishl (q := 68) dX7_room_67 rfl ?_
              refine g_goto (t := 72) dX7_room_68 (by decide) ?_
              refine g_ior (q := 73) dX7_room_72 rfl ?_
              refine g_istore_n (j := 3) (q := 74) dX7_room_73 rfl (by decide) rfl rfl ?_
              refine g_iinc (q := 77) dX7_room_74 rfl ci_1 (by decide) rfl rfl ?_
              refine g_goto (t := 38) dX7_room_77 (by decide) ?_
              exact g_eqw kk_i (by simp [lsub, s_si, nI_succ, c_61]) rfl rfl
        · refine g_iload (q := 40) dX7_room_38 rfl rfl ?_
          refine g_aload_n (q := 41) dX7_room_40 rfl rfl ?_
          refine f7_5 (q := 44) wd_853 dX7_room_41 rfl ?_
          refine g_iconst (q := 45) dX7_room_44 ci_5 rfl ?_
          refine g_ialdJ (q := 46) (k := 44) (j := 5) (N := 52) (by decide) (by decide) rfl rfl (by decide) (show (5 : Int32) = nI 5 from rfl) (by omega) dX7_room_45 rfl ?_
          refine g_icmp_ge (t := 80) (q := 49) dX7_room_46 (by decide) rfl (fun c_46 => ?_) (fun c_46 => ?_)
          · refine g_iconst (q := 81) dX7_room_80 ci_0 rfl ?_
            refine g_istore (q := 83) dX7_room_81 (by decide) rfl rfl ?_
            refine g_iconst (q := 84) dX7_room_83 ci_0 rfl ?_
            refine g_istore (q := 86) dX7_room_84 (by decide) rfl rfl ?_
            refine g_for (I := fun j => [some (.ref (E.2.1 40)), some (.int r), some (.int u), some (.int (s_si (fun p => σ 44 (42 + p)) r ((σ 44 5).toNatClampNeg))), some (.int (s_do (fun d => σ 44 (13 + d)) (fun d => σ 44 (21 + d)) r j)), some (.int (nI j))]) (S := fun j => σ) (T := fun j => τ) (0) ((σ 44 4).toNatClampNeg) (Nat.zero_le _) (by rfl) (by rfl) (by rfl) (fun j j0 j1 kk_j => ?_) ?_
            · have hcj : (nI j).toNatClampNeg = j := nI_clamp (by omega)
              refine g_iload (q := 88) dX7_room_86 rfl rfl ?_
              refine g_aload_n (q := 89) dX7_room_88 rfl rfl ?_
              refine f7_5 (q := 92) wd_853 dX7_room_89 rfl ?_
              refine g_iconst (q := 93) dX7_room_92 ci_4 rfl ?_
              refine g_ialdJ (q := 94) (k := 44) (j := 4) (N := 52) (by decide) (by decide) rfl rfl (by decide) (show (4 : Int32) = nI 4 from rfl) (by omega) dX7_room_93 rfl ?_
              refine g_icmp_ge (t := 144) (q := 97) dX7_room_94 (by decide) rfl (fun c_94 => ?_) (fun c_94 => ?_)
              · exact absurd c_94 (lp_in (by exact e4) (by omega) j1)
              · refine g_iload (q := 99) dX7_room_97 rfl rfl ?_
                refine g_aload_n (q := 100) dX7_room_99 rfl rfl ?_
                refine f7_5 (q := 103) wd_853 dX7_room_100 rfl ?_
                refine g_bipush (q := 105) dX7_room_103 cb_13 rfl ?_
                refine g_iload (q := 107) dX7_room_105 rfl rfl ?_
                refine g_iadd (q := 108) dX7_room_107 rfl ?_
                refine g_ialdJ (q := 109) (k := 44) (j := (13 + j)) (N := 52) (by decide) (by decide) rfl rfl (by decide) (ad2 (show (13 : Int32) = nI 13 from rfl) rfl) (by omega) dX7_room_108 rfl ?_
                refine g_iload_n (q := 110) dX7_room_109 rfl rfl ?_
                refine g_icmp_eq (t := 127) (q := 113) dX7_room_110 (by decide) rfl (fun c_110 => ?_) (fun c_110 => ?_)
                · refine g_iconst (q := 128) dX7_room_127 ci_1 rfl ?_
                  refine g_iload (q := 130) dX7_room_128 rfl rfl ?_
                  refine g_ishl (q := 131) dX7_room_130 rfl ?_
                  refine g_goto (t := 135) dX7_room_131 (by decide) ?_
                  refine g_ior (q := 136) dX7_room_135 rfl ?_
                  refine g_istore (q := 138) dX7_room_136 (by decide) rfl rfl ?_
                  refine g_iinc (q := 141) dX7_room_138 rfl ci_1 (by decide) rfl rfl ?_
                  refine g_goto (t := 86) dX7_room_141 (by decide) ?_
                  exact g_eqw kk_j (by simp [lsub, s_do, nI_succ, c_110]) rfl rfl
                · refine g_aload_n (q := 114) dX7_room_113 rfl rfl ?_
                  refine f7_5 (q := 117) wd_853 dX7_room_114 rfl ?_
                  refine g_bipush (q := 119) dX7_room_117 cb_21 rfl ?_
                  refine g_iload (q := 121) dX7_room_119 rfl rfl ?_
                  refine g_iadd (q := 122) dX7_room_121 rfl ?_
                  refine g_ialdJ (q := 123) (k := 44) (j := (21 + j)) (N := 52) (by decide) (by decide) rfl rfl (by decide) (ad2 (show (21 : Int32) = nI 21 from rfl) rfl) (by omega) dX7_room_122 rfl ?_
                  refine g_iload_n (q := 124) dX7_room_123 rfl rfl ?_
                  refine g_icmp_ne (t := 134) (q := 127) dX7_room_124 (by decide) rfl (fun c_124 => ?_) (fun c_124 => ?_)
                  · refine g_iconst (q := 135) dX7_room_134 ci_0 rfl ?_
                    refine g_ior (q := 136) dX7_room_135 rfl ?_
                    refine g_istore (q := 138) dX7_room_136 (by decide) rfl rfl ?_
                    refine g_iinc (q := 141) dX7_room_138 rfl ci_1 (by decide) rfl rfl ?_
                    refine g_goto (t := 86) dX7_room_141 (by decide) ?_
                    exact g_eqw kk_j (by simp [lsub, s_do, nI_succ, c_110, c_124]) rfl rfl
                  · refine g_iconst (q := 128) dX7_room_127 ci_1 rfl ?_
                    refine g_iload (q := 130) dX7_room_128 rfl rfl ?_
                    refine g_ishl (q := 131) dX7_room_130 rfl ?_
                    refine g_goto (t := 135) dX7_room_131 (by decide) ?_
                    refine g_ior (q := 136) dX7_room_135 rfl ?_
                    refine g_istore (q := 138) dX7_room_136 (by decide) rfl rfl ?_
                    refine g_iinc (q := 141) dX7_room_138 rfl ci_1 (by decide) rfl rfl ?_
                    refine g_goto (t := 86) dX7_room_141 (by decide) ?_
                    exact g_eqw kk_j (by simp [lsub, s_do, nI_succ, c_110, c_124]) rfl rfl
            · refine g_iload (q := 88) dX7_room_86 rfl rfl ?_
              refine g_aload_n (q := 89) dX7_room_88 rfl rfl ?_
              refine f7_5 (q := 92) wd_853 dX7_room_89 rfl ?_
              refine g_iconst (q := 93) dX7_room_92 ci_4 rfl ?_
              refine g_ialdJ (q := 94) (k := 44) (j := 4) (N := 52) (by decide) (by decide) rfl rfl (by decide) (show (4 : Int32) = nI 4 from rfl) (by omega) dX7_room_93 rfl ?_
              refine g_icmp_ge (t := 144) (q := 97) dX7_room_94 (by decide) rfl (fun c_94 => ?_) (fun c_94 => ?_)
              · refine g_iload_n (q := 145) dX7_room_144 rfl rfl ?_
                rcases tab_0_3 _ with c_145 | c_145 | c_145 | c_145 | c_145
                · refine g_tabOut (t := 218) dX7_room_145 c_145 (by decide) ?_
                  refine g_iload (q := 220) dX7_room_218 rfl rfl ?_
                  exact g_iret dX7_room_220 (pi_i (by have n0 : ¬ u = 0 := (fun e => by rw [e] at c_145; exact absurd c_145 (by decide)); have n1 : ¬ u = 1 := (fun e => by rw [e] at c_145; exact absurd c_145 (by decide)); have n2 : ¬ u = 2 := (fun e => by rw [e] at c_145; exact absurd c_145 (by decide)); have n3 : ¬ u = 3 := (fun e => by rw [e] at c_145; exact absurd c_145 (by decide)); simp only [show wi 0 0 4 = true from by decide, show wi 1 0 4 = true from by decide, show wi 2 0 4 = true from by decide, show wi 3 0 4 = true from by decide, q_room, c_4, c_15, c_27, c_46, c_94, n0, n1, n2, n3, not_true_eq_false, not_false_eq_true, if_true, if_false, Bool.true_eq_false, Bool.false_eq_true, reduceIte, reduceCtorEq]) (by have n0 : ¬ u = 0 := (fun e => by rw [e] at c_145; exact absurd c_145 (by decide)); have n1 : ¬ u = 1 := (fun e => by rw [e] at c_145; exact absurd c_145 (by decide)); have n2 : ¬ u = 2 := (fun e => by rw [e] at c_145; exact absurd c_145 (by decide)); have n3 : ¬ u = 3 := (fun e => by rw [e] at c_145; exact absurd c_145 (by decide)); simp only [show wi 0 0 4 = true from by decide, show wi 1 0 4 = true from by decide, show wi 2 0 4 = true from by decide, show wi 3 0 4 = true from by decide, q_room, c_4, c_15, c_27, c_46, c_94, n0, n1, n2, n3, not_true_eq_false, not_false_eq_true, if_true, if_false, Bool.true_eq_false, Bool.false_eq_true, reduceIte, reduceCtorEq]) rfl)
                · refine g_tabV (t := 176) c_145 dX7_room_145 (by decide) (by decide) rfl (by decide) ?_
                  refine g_aload_n (q := 177) dX7_room_176 rfl rfl ?_
                  refine f7_5 (q := 180) wd_853 dX7_room_177 rfl ?_
                  refine g_bipush (q := 182) dX7_room_180 cb_7 rfl ?_
                  refine g_iload_n (q := 183) dX7_room_182 rfl rfl ?_
                  refine g_iadd (q := 184) dX7_room_183 rfl ?_
                  refine g_ialdJ (q := 185) (k := 44) (j := (7 + r.toNatClampNeg)) (N := 52) (by decide) (by decide) rfl rfl (by decide) (ad2 (show (7 : Int32) = nI 7 from rfl) er.1) (by omega) dX7_room_184 rfl ?_
                  exact g_iret dX7_room_185 (pi_i (by simp only [show wi 0 0 4 = true from by decide, show wi 1 0 4 = true from by decide, show wi 2 0 4 = true from by decide, show wi 3 0 4 = true from by decide, q_room, c_4, c_15, c_27, c_46, c_94, c_145, show ((0 : Int32) = 1) = False from by decide, show ((0 : Int32) = 2) = False from by decide, show ((0 : Int32) = 3) = False from by decide, not_true_eq_false, not_false_eq_true, if_true, if_false, Bool.true_eq_false, Bool.false_eq_true, reduceIte, reduceCtorEq]) (by simp only [show wi 0 0 4 = true from by decide, show wi 1 0 4 = true from by decide, show wi 2 0 4 = true from by decide, show wi 3 0 4 = true from by decide, q_room, c_4, c_15, c_27, c_46, c_94, c_145, show ((0 : Int32) = 1) = False from by decide, show ((0 : Int32) = 2) = False from by decide, show ((0 : Int32) = 3) = False from by decide, not_true_eq_false, not_false_eq_true, if_true, if_false, Bool.true_eq_false, Bool.false_eq_true, reduceIte, reduceCtorEq]) rfl)
                · refine g_tabV (t := 186) c_145 dX7_room_145 (by decide) (by decide) rfl (by decide) ?_
                  refine g_iload_n (q := 187) dX7_room_186 rfl rfl ?_
                  exact g_iret dX7_room_187 (pi_i (by simp only [show wi 0 0 4 = true from by decide, show wi 1 0 4 = true from by decide, show wi 2 0 4 = true from by decide, show wi 3 0 4 = true from by decide, q_room, c_4, c_15, c_27, c_46, c_94, c_145, show ((1 : Int32) = 0) = False from by decide, show ((1 : Int32) = 2) = False from by decide, show ((1 : Int32) = 3) = False from by decide, not_true_eq_false, not_false_eq_true, if_true, if_false, Bool.true_eq_false, Bool.false_eq_true, reduceIte, reduceCtorEq]) (by simp only [show wi 0 0 4 = true from by decide, show wi 1 0 4 = true from by decide, show wi 2 0 4 = true from by decide, show wi 3 0 4 = true from by decide, q_room, c_4, c_15, c_27, c_46, c_94, c_145, show ((1 : Int32) = 0) = False from by decide, show ((1 : Int32) = 2) = False from by decide, show ((1 : Int32) = 3) = False from by decide, not_true_eq_false, not_false_eq_true, if_true, if_false, Bool.true_eq_false, Bool.false_eq_true, reduceIte, reduceCtorEq]) rfl)
                · refine g_tabV (t := 188) c_145 dX7_room_145 (by decide) (by decide) rfl (by decide) ?_
                  refine g_aload_n (q := 189) dX7_room_188 rfl rfl ?_
                  refine g_iload_n (q := 190) dX7_room_189 rfl rfl ?_
                  refine g_iconst (q := 191) dX7_room_190 ci_0 rfl ?_
                  refine g_callVi (q := 194) (c_X7_isKept hE w) lk_RX7_143 (by decide) (by decide) rfl (by decide) rfl rfl rfl rfl rfl rfl (Nat.le_of_ble_eq_true rfl) (Nat.le_of_ble_eq_true rfl) (Nat.le_of_ble_eq_true rfl) dX7_room_191 rfl ?_
                  refine g_if_eq (t := 201) (q := 197) dX7_room_194 (by decide) rfl (fun c_194 => ?_) (fun c_194 => ?_)
                  · rw [bI_0] at c_194
                    refine g_iconst (q := 202) dX7_room_201 ci_0 rfl ?_
                    exact g_iret dX7_room_202 (pi_i (by simp only [bI_t, bI_f, show wi 0 0 4 = true from by decide, show wi 1 0 4 = true from by decide, show wi 2 0 4 = true from by decide, show wi 3 0 4 = true from by decide, q_room, c_4, c_15, c_27, c_46, c_94, c_194, c_145, show ((2 : Int32) = 0) = False from by decide, show ((2 : Int32) = 1) = False from by decide, show ((2 : Int32) = 3) = False from by decide, not_true_eq_false, not_false_eq_true, if_true, if_false, Bool.true_eq_false, Bool.false_eq_true, reduceIte, reduceCtorEq]) (by simp only [bI_t, bI_f, show wi 0 0 4 = true from by decide, show wi 1 0 4 = true from by decide, show wi 2 0 4 = true from by decide, show wi 3 0 4 = true from by decide, q_room, c_4, c_15, c_27, c_46, c_94, c_194, c_145, show ((2 : Int32) = 0) = False from by decide, show ((2 : Int32) = 1) = False from by decide, show ((2 : Int32) = 3) = False from by decide, not_true_eq_false, not_false_eq_true, if_true, if_false, Bool.true_eq_false, Bool.false_eq_true, reduceIte, reduceCtorEq]) rfl)
                  · rw [bI_n0] at c_194
                    refine g_iconst (q := 198) dX7_room_197 ci_1 rfl ?_
                    refine g_goto (t := 202) dX7_room_198 (by decide) ?_
                    exact g_iret dX7_room_202 (pi_i (by simp only [bI_t, bI_f, show wi 0 0 4 = true from by decide, show wi 1 0 4 = true from by decide, show wi 2 0 4 = true from by decide, show wi 3 0 4 = true from by decide, q_room, c_4, c_15, c_27, c_46, c_94, c_194, c_145, show ((2 : Int32) = 0) = False from by decide, show ((2 : Int32) = 1) = False from by decide, show ((2 : Int32) = 3) = False from by decide, not_true_eq_false, not_false_eq_true, if_true, if_false, Bool.true_eq_false, Bool.false_eq_true, reduceIte, reduceCtorEq]) (by simp only [bI_t, bI_f, show wi 0 0 4 = true from by decide, show wi 1 0 4 = true from by decide, show wi 2 0 4 = true from by decide, show wi 3 0 4 = true from by decide, q_room, c_4, c_15, c_27, c_46, c_94, c_194, c_145, show ((2 : Int32) = 0) = False from by decide, show ((2 : Int32) = 1) = False from by decide, show ((2 : Int32) = 3) = False from by decide, not_true_eq_false, not_false_eq_true, if_true, if_false, Bool.true_eq_false, Bool.false_eq_true, reduceIte, reduceCtorEq]) rfl)
                · refine g_tabV (t := 203) c_145 dX7_room_145 (by decide) (by decide) rfl (by decide) ?_
                  refine g_aload_n (q := 204) dX7_room_203 rfl rfl ?_
                  refine g_iload_n (q := 205) dX7_room_204 rfl rfl ?_
                  refine g_iconst (q := 206) dX7_room_205 ci_1 rfl ?_
                  refine g_callVi (q := 209) (c_X7_isKept hE w) lk_RX7_143 (by decide) (by decide) rfl (by decide) rfl rfl rfl rfl rfl rfl (Nat.le_of_ble_eq_true rfl) (Nat.le_of_ble_eq_true rfl) (Nat.le_of_ble_eq_true rfl) dX7_room_206 rfl ?_
                  refine g_if_eq (t := 216) (q := 212) dX7_room_209 (by decide) rfl (fun c_209 => ?_) (fun c_209 => ?_)
                  · rw [bI_0] at c_209
                    refine g_iconst (q := 217) dX7_room_216 ci_0 rfl ?_
                    exact g_iret dX7_room_217 (pi_i (by simp only [bI_t, bI_f, show wi 0 0 4 = true from by decide, show wi 1 0 4 = true from by decide, show wi 2 0 4 = true from by decide, show wi 3 0 4 = true from by decide, q_room, c_4, c_15, c_27, c_46, c_94, c_209, c_145, show ((3 : Int32) = 0) = False from by decide, show ((3 : Int32) = 1) = False from by decide, show ((3 : Int32) = 2) = False from by decide, not_true_eq_false, not_false_eq_true, if_true, if_false, Bool.true_eq_false, Bool.false_eq_true, reduceIte, reduceCtorEq]) (by simp only [bI_t, bI_f, show wi 0 0 4 = true from by decide, show wi 1 0 4 = true from by decide, show wi 2 0 4 = true from by decide, show wi 3 0 4 = true from by decide, q_room, c_4, c_15, c_27, c_46, c_94, c_209, c_145, show ((3 : Int32) = 0) = False from by decide, show ((3 : Int32) = 1) = False from by decide, show ((3 : Int32) = 2) = False from by decide, not_true_eq_false, not_false_eq_true, if_true, if_false, Bool.true_eq_false, Bool.false_eq_true, reduceIte, reduceCtorEq]) rfl)
                  · rw [bI_n0] at c_209
                    refine g_iconst (q := 213) dX7_room_212 ci_1 rfl ?_
                    refine g_goto (t := 217) dX7_room_213 (by decide) ?_
                    exact g_iret dX7_room_217 (pi_i (by simp only [bI_t, bI_f, show wi 0 0 4 = true from by decide, show wi 1 0 4 = true from by decide, show wi 2 0 4 = true from by decide, show wi 3 0 4 = true from by decide, q_room, c_4, c_15, c_27, c_46, c_94, c_209, c_145, show ((3 : Int32) = 0) = False from by decide, show ((3 : Int32) = 1) = False from by decide, show ((3 : Int32) = 2) = False from by decide, not_true_eq_false, not_false_eq_true, if_true, if_false, Bool.true_eq_false, Bool.false_eq_true, reduceIte, reduceCtorEq]) (by simp only [bI_t, bI_f, show wi 0 0 4 = true from by decide, show wi 1 0 4 = true from by decide, show wi 2 0 4 = true from by decide, show wi 3 0 4 = true from by decide, q_room, c_4, c_15, c_27, c_46, c_94, c_209, c_145, show ((3 : Int32) = 0) = False from by decide, show ((3 : Int32) = 1) = False from by decide, show ((3 : Int32) = 2) = False from by decide, not_true_eq_false, not_false_eq_true, if_true, if_false, Bool.true_eq_false, Bool.false_eq_true, reduceIte, reduceCtorEq]) rfl)
              · exact absurd (lp_out (by exact e4)) c_94
          · exact absurd (lp_out (by exact e5)) c_46
      · rw [bI_0] at c_27
        rw [show inL u.toInt64 0 4 = wi u 0 4 from inL_i u 0 4] at c_27
        refine g_ldc (q := 32) dX7_room_30 wd_931 rfl ?_
        exact g_iret dX7_room_32 (pi_i (by simp only [q_room, c_4, c_15, c_27, not_true_eq_false, not_false_eq_true, if_true, if_false, Bool.true_eq_false, Bool.false_eq_true, reduceIte, reduceCtorEq]) (by simp only [q_room, c_4, c_15, c_27, not_true_eq_false, not_false_eq_true, if_true, if_false, Bool.true_eq_false, Bool.false_eq_true, reduceIte, reduceCtorEq]) rfl)
  · refine g_ldc (q := 9) dX7_room_7 wd_1011 rfl ?_
    exact g_iret dX7_room_9 (pi_i (by simp only [q_room, c_4, not_true_eq_false, not_false_eq_true, if_true, if_false, Bool.true_eq_false, Bool.false_eq_true, reduceIte, reduceCtorEq]) (by simp only [q_room, c_4, not_true_eq_false, not_false_eq_true, if_true, if_false, Bool.true_eq_false, Bool.false_eq_true, reduceIte, reduceCtorEq]) rfl)
set_option maxRecDepth 20000 in
set_option maxHeartbeats 4000000 in
theorem c_X7_ahead {E : EE} (hE : inj E 40 13) {σ : Sto} {τ : Stl} {n r : Int32} (w : WFM (σ 44)) : Ct E 40 13 yX7_ahead cX7_ahead 4 (some FieldType.int) { frames := 4, cells := 0, slots := 0, locals := 94 } [.ref (E.2.1 40), .int n, .int r] σ τ (Pi ((q_ahead σ n r).1) ((q_ahead σ n r).2) (τ)) := by
  refine ct_of hE RX7 [some (.ref (E.2.1 40)), some (.int n), some (.int r), none] (by decide) rfl (Nat.le_of_ble_eq_true rfl) rfl (fun X => ?_)
  refine g_aload_n (q := 1) dX7_ahead_0 rfl rfl ?_
  refine f7_4 (q := 4) wd_852 dX7_ahead_1 rfl ?_
  refine g_if_ne (t := 10) (q := 7) dX7_ahead_4 (by decide) rfl (fun c_4 => ?_) (fun c_4 => ?_)
  · refine g_iload_n (q := 11) dX7_ahead_10 rfl rfl ?_
    refine g_i2l (q := 12) dX7_ahead_11 rfl ?_
    refine g_lconst (q := 13) dX7_ahead_12 cl_0 rfl ?_
    refine g_ldc2 (q := 16) dX7_ahead_13 wd_1085 rfl ?_
    refine g_callSi (q := 19) (c_X7_in hE ) lk_RX7_54 rfl rfl rfl rfl (Nat.le_of_ble_eq_true rfl) (Nat.le_of_ble_eq_true rfl) (Nat.le_of_ble_eq_true rfl) dX7_ahead_16 rfl ?_
    refine g_if_eq (t := 30) (q := 22) dX7_ahead_19 (by decide) rfl (fun c_19 => ?_) (fun c_19 => ?_)
    · rw [bI_0] at c_19
      rw [show inL n.toInt64 0 60 = wi n 0 60 from inL_i n 0 60] at c_19
      refine g_ldc (q := 32) dX7_ahead_30 wd_931 rfl ?_
      exact g_iret dX7_ahead_32 (pi_i (by simp only [q_ahead, c_4, c_19, not_true_eq_false, not_false_eq_true, if_true, if_false, Bool.true_eq_false, Bool.false_eq_true, reduceIte, reduceCtorEq, upc_same, asd_44]) (by simp only [q_ahead, c_4, c_19, not_true_eq_false, not_false_eq_true, if_true, if_false, Bool.true_eq_false, Bool.false_eq_true, reduceIte, reduceCtorEq, upc_same, asd_44]) rfl)
    · rw [bI_n0] at c_19
      rw [show inL n.toInt64 0 60 = wi n 0 60 from inL_i n 0 60] at c_19
      refine g_aload_n (q := 23) dX7_ahead_22 rfl rfl ?_
      refine g_iload_n (q := 24) dX7_ahead_23 rfl rfl ?_
      refine g_callVi (q := 27) (c_X7_isRoom hE ) lk_RX7_175 (by decide) (by decide) rfl (by decide) rfl rfl rfl rfl rfl rfl (Nat.le_of_ble_eq_true rfl) (Nat.le_of_ble_eq_true rfl) (Nat.le_of_ble_eq_true rfl) dX7_ahead_24 rfl ?_
      refine g_if_ne (t := 33) (q := 30) dX7_ahead_27 (by decide) rfl (fun c_27 => ?_) (fun c_27 => ?_)
      · rw [bI_n0] at c_27
        have er := roomM w c_27
        refine g_aload_n (q := 34) dX7_ahead_33 rfl rfl ?_
        refine g_callVv (q := 37) (c_X7_putAside hE ) lk_RX7_185 (by decide) (by decide) rfl (by decide) rfl rfl rfl rfl rfl rfl (Nat.le_of_ble_eq_true rfl) (Nat.le_of_ble_eq_true rfl) (Nat.le_of_ble_eq_true rfl) dX7_ahead_34 rfl ?_
        refine g_sg (σ' := asd σ) rfl ?_
        refine g_aload_n (q := 38) dX7_ahead_37 rfl rfl ?_
        refine g_iload_n (q := 39) dX7_ahead_38 rfl rfl ?_
        refine g_callVv (q := 42) (c_X7_goOn hE (by rw [asd_44]; exact w) (wi_nn c_19 (by decide))) lk_RX7_188 (by decide) (by decide) rfl (by decide) rfl rfl rfl rfl rfl rfl (Nat.le_of_ble_eq_true rfl) (Nat.le_of_ble_eq_true rfl) (Nat.le_of_ble_eq_true rfl) dX7_ahead_39 rfl ?_
        refine g_aload_n (q := 43) dX7_ahead_42 rfl rfl ?_
        refine f7_5 (q := 46) wd_853 dX7_ahead_43 rfl ?_
        refine g_bipush (q := 48) dX7_ahead_46 cb_7 rfl ?_
        refine g_iload_n (q := 49) dX7_ahead_48 rfl rfl ?_
        refine g_iadd (q := 50) dX7_ahead_49 rfl ?_
        refine g_ialdJ (q := 51) (k := 44) (j := (7 + r.toNatClampNeg)) (N := 52) (by decide) (by decide) rfl rfl (by decide) (ad2 (show (7 : Int32) = nI 7 from rfl) er.1) (by omega) dX7_ahead_50 rfl ?_
        refine g_istore_n (j := 3) (q := 52) dX7_ahead_51 rfl (by decide) rfl rfl ?_
        refine g_aload_n (q := 53) dX7_ahead_52 rfl rfl ?_
        refine g_callVv (q := 56) (c_X7_takeBack hE ) lk_RX7_192 (by decide) (by decide) rfl (by decide) rfl rfl rfl rfl rfl rfl (Nat.le_of_ble_eq_true rfl) (Nat.le_of_ble_eq_true rfl) (Nat.le_of_ble_eq_true rfl) dX7_ahead_53 rfl ?_
        refine g_sg (σ' := asd σ) (tkb (fun k hk => by simp only [upc_ne hk])) ?_
        refine g_iload_n (q := 57) dX7_ahead_56 rfl rfl ?_
        exact g_iret dX7_ahead_57 (pi_i (by simp only [q_ahead, c_4, c_19, c_27, not_true_eq_false, not_false_eq_true, if_true, if_false, Bool.true_eq_false, Bool.false_eq_true, reduceIte, reduceCtorEq, upc_same, asd_44]) (by simp only [q_ahead, c_4, c_19, c_27, not_true_eq_false, not_false_eq_true, if_true, if_false, Bool.true_eq_false, Bool.false_eq_true, reduceIte, reduceCtorEq, upc_same, asd_44]) rfl)
      · rw [bI_0] at c_27
        refine g_ldc (q := 32) dX7_ahead_30 wd_931 rfl ?_
        exact g_iret dX7_ahead_32 (pi_i (by simp only [q_ahead, c_4, c_19, c_27, not_true_eq_false, not_false_eq_true, if_true, if_false, Bool.true_eq_false, Bool.false_eq_true, reduceIte, reduceCtorEq, upc_same, asd_44]) (by simp only [q_ahead, c_4, c_19, c_27, not_true_eq_false, not_false_eq_true, if_true, if_false, Bool.true_eq_false, Bool.false_eq_true, reduceIte, reduceCtorEq, upc_same, asd_44]) rfl)
  · refine g_ldc (q := 9) dX7_ahead_7 wd_1011 rfl ?_
    exact g_iret dX7_ahead_9 (pi_i (by simp only [q_ahead, c_4, not_true_eq_false, not_false_eq_true, if_true, if_false, Bool.true_eq_false, Bool.false_eq_true, reduceIte, reduceCtorEq, upc_same, asd_44]) (by simp only [q_ahead, c_4, not_true_eq_false, not_false_eq_true, if_true, if_false, Bool.true_eq_false, Bool.false_eq_true, reduceIte, reduceCtorEq, upc_same, asd_44]) rfl)
set_option maxRecDepth 20000 in
set_option maxHeartbeats 4000000 in
theorem c_X7_allAhead {E : EE} (hE : inj E 40 13) {σ : Sto} {τ : Stl} {n : Int32} (w : WFM (σ 44)) : Ct E 40 13 yX7_allAhead cX7_allAhead 3 (some FieldType.int) { frames := 4, cells := 0, slots := 0, locals := 94 } [.ref (E.2.1 40), .int n] σ τ (Pi ((q_allAhead σ n).1) ((q_allAhead σ n).2) (τ)) := by
  refine ct_of hE RX7 [some (.ref (E.2.1 40)), some (.int n), none] (by decide) rfl (Nat.le_of_ble_eq_true rfl) rfl (fun X => ?_)
  refine g_aload_n (q := 1) dX7_allAhead_0 rfl rfl ?_
  refine f7_4 (q := 4) wd_852 dX7_allAhead_1 rfl ?_
  refine g_if_ne (t := 10) (q := 7) dX7_allAhead_4 (by decide) rfl (fun c_4 => ?_) (fun c_4 => ?_)
  · refine g_iload_n (q := 11) dX7_allAhead_10 rfl rfl ?_
    refine g_i2l (q := 12) dX7_allAhead_11 rfl ?_
    refine g_lconst (q := 13) dX7_allAhead_12 cl_0 rfl ?_
    refine g_ldc2 (q := 16) dX7_allAhead_13 wd_1085 rfl ?_
    refine g_callSi (q := 19) (c_X7_in hE ) lk_RX7_54 rfl rfl rfl rfl (Nat.le_of_ble_eq_true rfl) (Nat.le_of_ble_eq_true rfl) (Nat.le_of_ble_eq_true rfl) dX7_allAhead_16 rfl ?_
    refine g_if_ne (t := 25) (q := 22) dX7_allAhead_19 (by decide) rfl (fun c_19 => ?_) (fun c_19 => ?_)
    · rw [bI_n0] at c_19
      rw [show inL n.toInt64 0 60 = wi n 0 60 from inL_i n 0 60] at c_19
      refine g_aload_n (q := 26) dX7_allAhead_25 rfl rfl ?_
      refine g_callVv (q := 29) (c_X7_putAside hE ) lk_RX7_185 (by decide) (by decide) rfl (by decide) rfl rfl rfl rfl rfl rfl (Nat.le_of_ble_eq_true rfl) (Nat.le_of_ble_eq_true rfl) (Nat.le_of_ble_eq_true rfl) dX7_allAhead_26 rfl ?_
      refine g_sg (σ' := asd σ) rfl ?_
      refine g_aload_n (q := 30) dX7_allAhead_29 rfl rfl ?_
      refine g_iload_n (q := 31) dX7_allAhead_30 rfl rfl ?_
      refine g_callVv (q := 34) (c_X7_goOn hE (by rw [asd_44]; exact w) (wi_nn c_19 (by decide))) lk_RX7_188 (by decide) (by decide) rfl (by decide) rfl rfl rfl rfl rfl rfl (Nat.le_of_ble_eq_true rfl) (Nat.le_of_ble_eq_true rfl) (Nat.le_of_ble_eq_true rfl) dX7_allAhead_31 rfl ?_
      refine g_aload_n (q := 35) dX7_allAhead_34 rfl rfl ?_
      refine g_callVi (q := 38) (c_X7_allCold hE (by rw [upc_same, asd_44]; exact wfm_hrs w _)) lk_RX7_162 (by decide) (by decide) rfl (by decide) rfl rfl rfl rfl rfl rfl (Nat.le_of_ble_eq_true rfl) (Nat.le_of_ble_eq_true rfl) (Nat.le_of_ble_eq_true rfl) dX7_allAhead_35 rfl ?_
      refine g_istore_n (j := 2) (q := 39) dX7_allAhead_38 rfl (by decide) rfl rfl ?_
      refine g_aload_n (q := 40) dX7_allAhead_39 rfl rfl ?_
      refine g_callVv (q := 43) (c_X7_takeBack hE ) lk_RX7_192 (by decide) (by decide) rfl (by decide) rfl rfl rfl rfl rfl rfl (Nat.le_of_ble_eq_true rfl) (Nat.le_of_ble_eq_true rfl) (Nat.le_of_ble_eq_true rfl) dX7_allAhead_40 rfl ?_
      refine g_sg (σ' := asd σ) (tkb (fun k hk => by simp only [upc_ne hk])) ?_
      refine g_iload_n (q := 44) dX7_allAhead_43 rfl rfl ?_
      exact g_iret dX7_allAhead_44 (pi_i (by simp only [q_allAhead, c_4, c_19, not_true_eq_false, not_false_eq_true, if_true, if_false, Bool.true_eq_false, Bool.false_eq_true, reduceIte, reduceCtorEq, upc_same, asd_44]) (by simp only [q_allAhead, c_4, c_19, not_true_eq_false, not_false_eq_true, if_true, if_false, Bool.true_eq_false, Bool.false_eq_true, reduceIte, reduceCtorEq, upc_same, asd_44]) rfl)
    · rw [bI_0] at c_19
      rw [show inL n.toInt64 0 60 = wi n 0 60 from inL_i n 0 60] at c_19
      refine g_ldc (q := 24) dX7_allAhead_22 wd_931 rfl ?_
      exact g_iret dX7_allAhead_24 (pi_i (by simp only [q_allAhead, c_4, c_19, not_true_eq_false, not_false_eq_true, if_true, if_false, Bool.true_eq_false, Bool.false_eq_true, reduceIte, reduceCtorEq, upc_same, asd_44]) (by simp only [q_allAhead, c_4, c_19, not_true_eq_false, not_false_eq_true, if_true, if_false, Bool.true_eq_false, Bool.false_eq_true, reduceIte, reduceCtorEq, upc_same, asd_44]) rfl)
  · refine g_ldc (q := 9) dX7_allAhead_7 wd_1011 rfl ?_
    exact g_iret dX7_allAhead_9 (pi_i (by simp only [q_allAhead, c_4, not_true_eq_false, not_false_eq_true, if_true, if_false, Bool.true_eq_false, Bool.false_eq_true, reduceIte, reduceCtorEq, upc_same, asd_44]) (by simp only [q_allAhead, c_4, not_true_eq_false, not_false_eq_true, if_true, if_false, Bool.true_eq_false, Bool.false_eq_true, reduceIte, reduceCtorEq, upc_same, asd_44]) rfl)
set_option maxRecDepth 20000 in
set_option maxHeartbeats 4000000 in
theorem c_X7_coldest {E : EE} (hE : inj E 40 13) {σ : Sto} {τ : Stl} {n u : Int32} (w : WFM (σ 44)) (th : ¬ σ 40 4 = 0 → 0 < σ 44 0) : Ct E 40 13 yX7_coldest cX7_coldest 5 (some FieldType.int) { frames := 4, cells := 0, slots := 0, locals := 94 } [.ref (E.2.1 40), .int n, .int u] σ τ (Pi ((q_coldest σ n u).1) ((q_coldest σ n u).2) (τ)) := by
  refine ct_of hE RX7 [some (.ref (E.2.1 40)), some (.int n), some (.int u), none, none] (by decide) rfl (Nat.le_of_ble_eq_true rfl) rfl (fun X => ?_)
  obtain ⟨⟨e0, b0⟩, ⟨e1, b1⟩, ⟨e4, b4⟩, ⟨e5, b5⟩⟩ := wfm_n w
  refine g_aload_n (q := 1) dX7_coldest_0 rfl rfl ?_
  refine f7_4 (q := 4) wd_852 dX7_coldest_1 rfl ?_
  refine g_if_ne (t := 10) (q := 7) dX7_coldest_4 (by decide) rfl (fun c_4 => ?_) (fun c_4 => ?_)
  · refine g_iload_n (q := 11) dX7_coldest_10 rfl rfl ?_
    refine g_i2l (q := 12) dX7_coldest_11 rfl ?_
    refine g_lconst (q := 13) dX7_coldest_12 cl_0 rfl ?_
    refine g_ldc2 (q := 16) dX7_coldest_13 wd_1085 rfl ?_
    refine g_callSi (q := 19) (c_X7_in hE ) lk_RX7_54 rfl rfl rfl rfl (Nat.le_of_ble_eq_true rfl) (Nat.le_of_ble_eq_true rfl) (Nat.le_of_ble_eq_true rfl) dX7_coldest_16 rfl ?_
    refine g_if_eq (t := 32) (q := 22) dX7_coldest_19 (by decide) rfl (fun c_19 => ?_) (fun c_19 => ?_)
    · rw [bI_0] at c_19
      rw [show inL n.toInt64 0 60 = wi n 0 60 from inL_i n 0 60] at c_19
      refine g_ldc (q := 34) dX7_coldest_32 wd_931 rfl ?_
      exact g_iret dX7_coldest_34 (pi_i (by simp only [q_coldest, c_4, c_19, not_true_eq_false, not_false_eq_true, if_true, if_false, Bool.true_eq_false, Bool.false_eq_true, reduceIte, reduceCtorEq]) (by simp only [q_coldest, c_4, c_19, not_true_eq_false, not_false_eq_true, if_true, if_false, Bool.true_eq_false, Bool.false_eq_true, reduceIte, reduceCtorEq]) rfl)
    · rw [bI_n0] at c_19
      rw [show inL n.toInt64 0 60 = wi n 0 60 from inL_i n 0 60] at c_19
      refine g_iload_n (q := 23) dX7_coldest_22 rfl rfl ?_
      refine g_i2l (q := 24) dX7_coldest_23 rfl ?_
      refine g_lconst (q := 25) dX7_coldest_24 cl_0 rfl ?_
      refine g_lconst (q := 26) dX7_coldest_25 cl_1 rfl ?_
      refine g_callSi (q := 29) (c_X7_in hE ) lk_RX7_54 rfl rfl rfl rfl (Nat.le_of_ble_eq_true rfl) (Nat.le_of_ble_eq_true rfl) (Nat.le_of_ble_eq_true rfl) dX7_coldest_26 rfl ?_
      refine g_if_ne (t := 35) (q := 32) dX7_coldest_29 (by decide) rfl (fun c_29 => ?_) (fun c_29 => ?_)
      · rw [bI_n0] at c_29
        rw [show inL u.toInt64 0 1 = wi u 0 1 from inL_i u 0 1] at c_29
        refine g_aload_n (q := 36) dX7_coldest_35 rfl rfl ?_
        refine g_callVv (q := 39) (c_X7_putAside hE ) lk_RX7_185 (by decide) (by decide) rfl (by decide) rfl rfl rfl rfl rfl rfl (Nat.le_of_ble_eq_true rfl) (Nat.le_of_ble_eq_true rfl) (Nat.le_of_ble_eq_true rfl) dX7_coldest_36 rfl ?_
        refine g_sg (σ' := asd σ) rfl ?_
        refine g_aload_n (q := 40) dX7_coldest_39 rfl rfl ?_
        refine g_iload_n (q := 41) dX7_coldest_40 rfl rfl ?_
        refine g_callVv (q := 44) (c_X7_goOn hE (by rw [asd_44]; exact w) (wi_nn c_19 (by decide))) lk_RX7_188 (by decide) (by decide) rfl (by decide) rfl rfl rfl rfl rfl rfl (Nat.le_of_ble_eq_true rfl) (Nat.le_of_ble_eq_true rfl) (Nat.le_of_ble_eq_true rfl) dX7_coldest_41 rfl ?_
        refine g_iconst (q := 45) dX7_coldest_44 ci_0 rfl ?_
        refine g_istore_n (j := 3) (q := 46) dX7_coldest_45 rfl (by decide) rfl rfl ?_
        refine g_iconst (q := 47) dX7_coldest_46 ci_1 rfl ?_
        refine g_istore (q := 49) dX7_coldest_47 (by decide) rfl rfl ?_
        have e1 : (σ 44 0).toNatClampNeg = ((σ 44 0).toNatClampNeg - 1) + 1 := by have := (wfm_n w).1; have hp := th c_4; rw [this.1] at hp; rcases Nat.eq_zero_or_pos ((σ 44 0).toNatClampNeg) with q | q; (rw [q] at hp; exact absurd hp (by decide)); omega
        refine g_for (I := fun k => [some (.ref (E.2.1 40)), some (.int n), some (.int u), some (.int (nI (coM (fun r => q_hrs (σ 44) (n.toNatClampNeg) (7 + r)) k))), some (.int (nI (k + 1)))]) (S := fun k => upc (asd σ) 44 (q_hrs (σ 44) (n.toNatClampNeg))) (T := fun k => τ) (0) ((σ 44 0).toNatClampNeg - 1) (Nat.zero_le _) (by rfl) (by rw [asd_44]) (by rfl) (fun k k0 k1 kk_k => ?_) ?_
        · have hck : (nI k).toNatClampNeg = k := nI_clamp (by omega)
          have hcm := coM_le (fun r => q_hrs (σ 44) (n.toNatClampNeg) (7 + r)) k
          refine g_iload (q := 51) dX7_coldest_49 rfl rfl ?_
          refine g_aload_n (q := 52) dX7_coldest_51 rfl rfl ?_
          refine f7_5 (q := 55) wd_853 dX7_coldest_52 rfl ?_
          refine g_iconst (q := 56) dX7_coldest_55 ci_0 rfl ?_
          refine g_ialdJ (q := 57) (k := 44) (j := 0) (N := 52) (by decide) (by decide) rfl rfl (by decide) (show (0 : Int32) = nI 0 from rfl) (by omega) dX7_coldest_56 rfl ?_
          refine g_icmp_ge (t := 95) (q := 60) dX7_coldest_57 (by decide) rfl (fun c_57 => ?_) (fun c_57 => ?_)
          · exact absurd c_57 (lp_in (by rw [upc_same, hrs_0 w _ 0 (by decide) (by decide)]; exact e0) (by omega) (show k + 1 < (σ 44 0).toNatClampNeg by omega))
          · refine g_aload_n (q := 61) dX7_coldest_60 rfl rfl ?_
            refine f7_5 (q := 64) wd_853 dX7_coldest_61 rfl ?_
            refine g_bipush (q := 66) dX7_coldest_64 cb_7 rfl ?_
            refine g_iload (q := 68) dX7_coldest_66 rfl rfl ?_
            refine g_iadd (q := 69) dX7_coldest_68 rfl ?_
            refine g_ialdJ (q := 70) (k := 44) (j := (7 + (k + 1))) (N := 52) (by decide) (by decide) rfl rfl (by decide) (ad2 (show (7 : Int32) = nI 7 from rfl) rfl) (by omega) dX7_coldest_69 rfl ?_
            refine g_aload_n (q := 71) dX7_coldest_70 rfl rfl ?_
            refine f7_5 (q := 74) wd_853 dX7_coldest_71 rfl ?_
            refine g_bipush (q := 76) dX7_coldest_74 cb_7 rfl ?_
            refine g_iload_n (q := 77) dX7_coldest_76 rfl rfl ?_
            refine g_iadd (q := 78) dX7_coldest_77 rfl ?_
            refine g_ialdJ (q := 79) (k := 44) (j := (7 + coM (fun r => q_hrs (σ 44) (n.toNatClampNeg) (7 + r)) k)) (N := 52) (by decide) (by decide) rfl rfl (by decide) (ad2 (show (7 : Int32) = nI 7 from rfl) rfl) (by omega) dX7_coldest_78 rfl ?_
            refine g_icmp_le (t := 87) (q := 82) dX7_coldest_79 (by decide) rfl (fun c_79 => ?_) (fun c_79 => ?_)
            · refine g_iload_n (q := 88) dX7_coldest_87 rfl rfl ?_
              refine g_istore_n (j := 3) (q := 89) dX7_coldest_88 rfl (by decide) rfl rfl ?_
              refine g_iinc (q := 92) dX7_coldest_89 rfl ci_1 (by decide) rfl rfl ?_
              refine g_goto (t := 49) dX7_coldest_92 (by decide) ?_
              simp only [upc_same] at c_79
              exact g_eqw kk_k (by simp [lsub, coM, nI_succ, c_79]) rfl rfl
            · refine g_iload (q := 84) dX7_coldest_82 rfl rfl ?_
              refine g_goto (t := 88) dX7_coldest_84 (by decide) ?_
              refine g_istore_n (j := 3) (q := 89) dX7_coldest_88 rfl (by decide) rfl rfl ?_
              refine g_iinc (q := 92) dX7_coldest_89 rfl ci_1 (by decide) rfl rfl ?_
              refine g_goto (t := 49) dX7_coldest_92 (by decide) ?_
              simp only [upc_same] at c_79
              exact g_eqw kk_k (by simp [lsub, coM, nI_succ, c_79]) rfl rfl
        · have hcm := coM_le (fun r => q_hrs (σ 44) (n.toNatClampNeg) (7 + r)) ((σ 44 0).toNatClampNeg - 1)
          refine g_iload (q := 51) dX7_coldest_49 rfl rfl ?_
          refine g_aload_n (q := 52) dX7_coldest_51 rfl rfl ?_
          refine f7_5 (q := 55) wd_853 dX7_coldest_52 rfl ?_
          refine g_iconst (q := 56) dX7_coldest_55 ci_0 rfl ?_
          refine g_ialdJ (q := 57) (k := 44) (j := 0) (N := 52) (by decide) (by decide) rfl rfl (by decide) (show (0 : Int32) = nI 0 from rfl) (by omega) dX7_coldest_56 rfl ?_
          refine g_icmp_ge (t := 95) (q := 60) dX7_coldest_57 (by decide) rfl (fun c_57 => ?_) (fun c_57 => ?_)
          · refine g_aload_n (q := 96) dX7_coldest_95 rfl rfl ?_
            refine f7_5 (q := 99) wd_853 dX7_coldest_96 rfl ?_
            refine g_bipush (q := 101) dX7_coldest_99 cb_7 rfl ?_
            refine g_iload_n (q := 102) dX7_coldest_101 rfl rfl ?_
            refine g_iadd (q := 103) dX7_coldest_102 rfl ?_
            refine g_ialdJ (q := 104) (k := 44) (j := (7 + coM (fun r => q_hrs (σ 44) (n.toNatClampNeg) (7 + r)) ((σ 44 0).toNatClampNeg - 1))) (N := 52) (by decide) (by decide) rfl rfl (by decide) (ad2 (show (7 : Int32) = nI 7 from rfl) rfl) (by omega) dX7_coldest_103 rfl ?_
            refine g_istore (q := 106) dX7_coldest_104 (by decide) rfl rfl ?_
            refine g_aload_n (q := 107) dX7_coldest_106 rfl rfl ?_
            refine g_callVv (q := 110) (c_X7_takeBack hE ) lk_RX7_192 (by decide) (by decide) rfl (by decide) rfl rfl rfl rfl rfl rfl (Nat.le_of_ble_eq_true rfl) (Nat.le_of_ble_eq_true rfl) (Nat.le_of_ble_eq_true rfl) dX7_coldest_107 rfl ?_
            refine g_sg (σ' := asd σ) (tkb (fun k hk => by simp only [upc_ne hk])) ?_
            refine g_iload_n (q := 111) dX7_coldest_110 rfl rfl ?_
            refine g_if_ne (t := 118) (q := 114) dX7_coldest_111 (by decide) rfl (fun c_111 => ?_) (fun c_111 => ?_)
            · refine g_iload (q := 120) dX7_coldest_118 rfl rfl ?_
              exact g_iret dX7_coldest_120 (pi_i (by simp only [q_coldest, c_4, c_19, c_29, c_57, c_111, not_true_eq_false, not_false_eq_true, if_true, if_false, Bool.true_eq_false, Bool.false_eq_true, reduceIte, reduceCtorEq, upc_same, asd_44, show wi 0 0 1 = true from by decide]) (by simp only [q_coldest, c_4, c_19, c_29, c_57, c_111, not_true_eq_false, not_false_eq_true, if_true, if_false, Bool.true_eq_false, Bool.false_eq_true, reduceIte, reduceCtorEq, upc_same, asd_44, show wi 0 0 1 = true from by decide]) rfl)
            · refine g_iload_n (q := 115) dX7_coldest_114 rfl rfl ?_
              refine g_goto (t := 120) dX7_coldest_115 (by decide) ?_
              exact g_iret dX7_coldest_120 (pi_i (by simp only [q_coldest, c_4, c_19, c_29, c_57, c_111, not_true_eq_false, not_false_eq_true, if_true, if_false, Bool.true_eq_false, Bool.false_eq_true, reduceIte, reduceCtorEq, upc_same, asd_44, show wi 0 0 1 = true from by decide]) (by simp only [q_coldest, c_4, c_19, c_29, c_57, c_111, not_true_eq_false, not_false_eq_true, if_true, if_false, Bool.true_eq_false, Bool.false_eq_true, reduceIte, reduceCtorEq, upc_same, asd_44, show wi 0 0 1 = true from by decide]) rfl)
          · exact absurd (by rw [← e1, upc_same, hrs_0 w _ 0 (by decide) (by decide), ← e0]; exact Int32.le_refl _) c_57
      · rw [bI_0] at c_29
        rw [show inL u.toInt64 0 1 = wi u 0 1 from inL_i u 0 1] at c_29
        refine g_ldc (q := 34) dX7_coldest_32 wd_931 rfl ?_
        exact g_iret dX7_coldest_34 (pi_i (by simp only [q_coldest, c_4, c_19, c_29, not_true_eq_false, not_false_eq_true, if_true, if_false, Bool.true_eq_false, Bool.false_eq_true, reduceIte, reduceCtorEq]) (by simp only [q_coldest, c_4, c_19, c_29, not_true_eq_false, not_false_eq_true, if_true, if_false, Bool.true_eq_false, Bool.false_eq_true, reduceIte, reduceCtorEq]) rfl)
  · refine g_ldc (q := 9) dX7_coldest_7 wd_1011 rfl ?_
    exact g_iret dX7_coldest_9 (pi_i (by simp only [q_coldest, c_4, not_true_eq_false, not_false_eq_true, if_true, if_false, Bool.true_eq_false, Bool.false_eq_true, reduceIte, reduceCtorEq]) (by simp only [q_coldest, c_4, not_true_eq_false, not_false_eq_true, if_true, if_false, Bool.true_eq_false, Bool.false_eq_true, reduceIte, reduceCtorEq]) rfl)
set_option maxRecDepth 20000 in
set_option maxHeartbeats 4000000 in
theorem c_X7_shivers {E : EE} (hE : inj E 40 13) {σ : Sto} {τ : Stl} {u : Int32} (w : WFM (σ 44)) : Ct E 40 13 yX7_shivers cX7_shivers 4 (some FieldType.int) { frames := 3, cells := 0, slots := 0, locals := 72 } [.ref (E.2.1 40), .int u] σ τ (Pi ((q_shivers σ u).1) ((q_shivers σ u).2) (τ)) := by
  refine ct_of hE RX7 [some (.ref (E.2.1 40)), some (.int u), none, none] (by decide) rfl (Nat.le_of_ble_eq_true rfl) rfl (fun X => ?_)
  refine g_aload_n (q := 1) dX7_shivers_0 rfl rfl ?_
  refine f7_4 (q := 4) wd_852 dX7_shivers_1 rfl ?_
  refine g_if_ne (t := 10) (q := 7) dX7_shivers_4 (by decide) rfl (fun c_4 => ?_) (fun c_4 => ?_)
  · refine g_iload_n (q := 11) dX7_shivers_10 rfl rfl ?_
    refine g_i2l (q := 12) dX7_shivers_11 rfl ?_
    refine g_lconst (q := 13) dX7_shivers_12 cl_0 rfl ?_
    refine g_lconst (q := 14) dX7_shivers_13 cl_1 rfl ?_
    refine g_callSi (q := 17) (c_X7_in hE ) lk_RX7_54 rfl rfl rfl rfl (Nat.le_of_ble_eq_true rfl) (Nat.le_of_ble_eq_true rfl) (Nat.le_of_ble_eq_true rfl) dX7_shivers_14 rfl ?_
    refine g_if_ne (t := 23) (q := 20) dX7_shivers_17 (by decide) rfl (fun c_17 => ?_) (fun c_17 => ?_)
    · rw [bI_n0] at c_17
      rw [show inL u.toInt64 0 1 = wi u 0 1 from inL_i u 0 1] at c_17
      refine g_aload_n (q := 24) dX7_shivers_23 rfl rfl ?_
      refine g_callVv (q := 27) (c_X7_putAside hE ) lk_RX7_185 (by decide) (by decide) rfl (by decide) rfl rfl rfl rfl rfl rfl (Nat.le_of_ble_eq_true rfl) (Nat.le_of_ble_eq_true rfl) (Nat.le_of_ble_eq_true rfl) dX7_shivers_24 rfl ?_
      refine g_sg (σ' := asd σ) rfl ?_
      refine g_iconst (q := 28) dX7_shivers_27 ci_0 rfl ?_
      refine g_istore_n (j := 2) (q := 29) dX7_shivers_28 rfl (by decide) rfl rfl ?_
      refine g_aload_n (q := 30) dX7_shivers_29 rfl rfl ?_
      refine g_callVi (q := 33) (c_X7_firstCold hE (by rw [asd_44]; exact w)) lk_RX7_195 (by decide) (by decide) rfl (by decide) rfl rfl rfl rfl rfl rfl (Nat.le_of_ble_eq_true rfl) (Nat.le_of_ble_eq_true rfl) (Nat.le_of_ble_eq_true rfl) dX7_shivers_30 rfl ?_
      refine g_istore_n (j := 3) (q := 34) dX7_shivers_33 rfl (by decide) rfl rfl ?_
      obtain ⟨P, hP⟩ : ∃ P, shM (σ 44) 0 60 = P := ⟨_, rfl⟩
      have hq : q_shivers σ u = (if 0 ≤ P.2 then (if u = 0 then P.1 else P.2) else -1000000, asd σ) := by simp only [q_shivers, hP, c_4, c_17, not_true_eq_false, not_false_eq_true, if_true, if_false, Bool.true_eq_false, Bool.false_eq_true, reduceIte, reduceCtorEq]
      rw [hq]
      have key : ∀ k i, i + k = 60 → shM (q_hrs (σ 44) i) i k = P → G E 40 13 { frames := 3, cells := 0, slots := 0, locals := 72 } X cX7_shivers RX7 4 (some FieldType.int) (Pi (if 0 ≤ P.2 then (if u = 0 then P.1 else P.2) else -1000000) (asd σ) τ) 34 [some (.ref (E.2.1 40)), some (.int u), some (.int (nI i)), some (.int (fsM (q_hrs (σ 44) i)))] [] (upc (asd σ) 44 (q_hrs (σ 44) i)) τ := by
        intro k
        induction k with
        | zero =>
          intro i hi hr
          refine g_iload_n (q := 35) dX7_shivers_34 rfl rfl ?_
          refine g_if_ge (t := 59) (q := 38) dX7_shivers_35 (by decide) rfl (fun c_35 => ?_) (fun c_35 => ?_)
          · refine g_aload_n (q := 60) dX7_shivers_59 rfl rfl ?_
            refine g_callVv (q := 63) (c_X7_takeBack hE ) lk_RX7_192 (by decide) (by decide) rfl (by decide) rfl rfl rfl rfl rfl rfl (Nat.le_of_ble_eq_true rfl) (Nat.le_of_ble_eq_true rfl) (Nat.le_of_ble_eq_true rfl) dX7_shivers_60 rfl ?_
            refine g_sg (σ' := asd σ) (tkb (fun k hk => by simp only [upc_ne hk])) ?_
            refine g_iload_n (q := 64) dX7_shivers_63 rfl rfl ?_
            refine g_if_ge (t := 72) (q := 67) dX7_shivers_64 (by decide) rfl (fun c_64 => ?_) (fun c_64 => ?_)
            · refine g_iload_n (q := 73) dX7_shivers_72 rfl rfl ?_
              refine g_if_ne (t := 80) (q := 76) dX7_shivers_73 (by decide) rfl (fun c_73 => ?_) (fun c_73 => ?_)
              · refine g_iload_n (q := 81) dX7_shivers_80 rfl rfl ?_
                exact g_iret dX7_shivers_81 (pi_i (by simp only [← hr, shM, c_35, c_64, c_73, Int32.not_lt.mpr c_35, not_true_eq_false, not_false_eq_true, if_true, if_false, Bool.true_eq_false, Bool.false_eq_true, reduceIte, reduceCtorEq]) (by rfl) rfl)
              · refine g_iload_n (q := 77) dX7_shivers_76 rfl rfl ?_
                refine g_goto (t := 81) dX7_shivers_77 (by decide) ?_
                exact g_iret dX7_shivers_81 (pi_i (by simp only [← hr, shM, c_35, c_64, c_73, Int32.not_lt.mpr c_35, not_true_eq_false, not_false_eq_true, if_true, if_false, Bool.true_eq_false, Bool.false_eq_true, reduceIte, reduceCtorEq]) (by rfl) rfl)
            · refine g_ldc (q := 69) dX7_shivers_67 wd_1110 rfl ?_
              refine g_goto (t := 81) dX7_shivers_69 (by decide) ?_
              exact g_iret dX7_shivers_81 (pi_i (by exact absurd c_35 c_64) (by rfl) rfl)
          · refine g_iload_n (q := 39) dX7_shivers_38 rfl rfl ?_
            refine g_bipush (q := 41) dX7_shivers_39 cb_60 rfl ?_
            refine g_icmp_ge (t := 59) (q := 44) dX7_shivers_41 (by decide) rfl (fun c_41 => ?_) (fun c_41 => ?_)
            · refine g_aload_n (q := 60) dX7_shivers_59 rfl rfl ?_
              refine g_callVv (q := 63) (c_X7_takeBack hE ) lk_RX7_192 (by decide) (by decide) rfl (by decide) rfl rfl rfl rfl rfl rfl (Nat.le_of_ble_eq_true rfl) (Nat.le_of_ble_eq_true rfl) (Nat.le_of_ble_eq_true rfl) dX7_shivers_60 rfl ?_
              refine g_sg (σ' := asd σ) (tkb (fun k hk => by simp only [upc_ne hk])) ?_
              refine g_iload_n (q := 64) dX7_shivers_63 rfl rfl ?_
              refine g_if_ge (t := 72) (q := 67) dX7_shivers_64 (by decide) rfl (fun c_64 => ?_) (fun c_64 => ?_)
              · refine g_iload_n (q := 73) dX7_shivers_72 rfl rfl ?_
                refine g_if_ne (t := 80) (q := 76) dX7_shivers_73 (by decide) rfl (fun c_73 => ?_) (fun c_73 => ?_)
                · refine g_iload_n (q := 81) dX7_shivers_80 rfl rfl ?_
                  exact g_iret dX7_shivers_81 (pi_i (by exact absurd c_64 c_35) (by rfl) rfl)
                · refine g_iload_n (q := 77) dX7_shivers_76 rfl rfl ?_
                  refine g_goto (t := 81) dX7_shivers_77 (by decide) ?_
                  exact g_iret dX7_shivers_81 (pi_i (by exact absurd c_64 c_35) (by rfl) rfl)
              · refine g_ldc (q := 69) dX7_shivers_67 wd_1110 rfl ?_
                refine g_goto (t := 81) dX7_shivers_69 (by decide) ?_
                exact g_iret dX7_shivers_81 (pi_i (by simp only [← hr, shM, c_35, c_41, c_64, not_true_eq_false, not_false_eq_true, if_true, if_false, Bool.true_eq_false, Bool.false_eq_true, reduceIte, reduceCtorEq]) (by rfl) rfl)
            · exact absurd (lp_out (show (60 : Int32) = nI 60 from rfl)) (by rw [show i = 60 by omega] at c_41; exact c_41)
        | succ k ih =>
          intro i hi hr
          refine g_iload_n (q := 35) dX7_shivers_34 rfl rfl ?_
          refine g_if_ge (t := 59) (q := 38) dX7_shivers_35 (by decide) rfl (fun c_35 => ?_) (fun c_35 => ?_)
          · refine g_aload_n (q := 60) dX7_shivers_59 rfl rfl ?_
            refine g_callVv (q := 63) (c_X7_takeBack hE ) lk_RX7_192 (by decide) (by decide) rfl (by decide) rfl rfl rfl rfl rfl rfl (Nat.le_of_ble_eq_true rfl) (Nat.le_of_ble_eq_true rfl) (Nat.le_of_ble_eq_true rfl) dX7_shivers_60 rfl ?_
            refine g_sg (σ' := asd σ) (tkb (fun k hk => by simp only [upc_ne hk])) ?_
            refine g_iload_n (q := 64) dX7_shivers_63 rfl rfl ?_
            refine g_if_ge (t := 72) (q := 67) dX7_shivers_64 (by decide) rfl (fun c_64 => ?_) (fun c_64 => ?_)
            · refine g_iload_n (q := 73) dX7_shivers_72 rfl rfl ?_
              refine g_if_ne (t := 80) (q := 76) dX7_shivers_73 (by decide) rfl (fun c_73 => ?_) (fun c_73 => ?_)
              · refine g_iload_n (q := 81) dX7_shivers_80 rfl rfl ?_
                exact g_iret dX7_shivers_81 (pi_i (by simp only [← hr, shM, c_35, c_64, c_73, Int32.not_lt.mpr c_35, not_true_eq_false, not_false_eq_true, if_true, if_false, Bool.true_eq_false, Bool.false_eq_true, reduceIte, reduceCtorEq]) (by rfl) rfl)
              · refine g_iload_n (q := 77) dX7_shivers_76 rfl rfl ?_
                refine g_goto (t := 81) dX7_shivers_77 (by decide) ?_
                exact g_iret dX7_shivers_81 (pi_i (by simp only [← hr, shM, c_35, c_64, c_73, Int32.not_lt.mpr c_35, not_true_eq_false, not_false_eq_true, if_true, if_false, Bool.true_eq_false, Bool.false_eq_true, reduceIte, reduceCtorEq]) (by rfl) rfl)
            · refine g_ldc (q := 69) dX7_shivers_67 wd_1110 rfl ?_
              refine g_goto (t := 81) dX7_shivers_69 (by decide) ?_
              exact g_iret dX7_shivers_81 (pi_i (by exact absurd c_35 c_64) (by rfl) rfl)
          · refine g_iload_n (q := 39) dX7_shivers_38 rfl rfl ?_
            refine g_bipush (q := 41) dX7_shivers_39 cb_60 rfl ?_
            refine g_icmp_ge (t := 59) (q := 44) dX7_shivers_41 (by decide) rfl (fun c_41 => ?_) (fun c_41 => ?_)
            · exact absurd c_41 (lp_in (show (60 : Int32) = nI 60 from rfl) (by decide) (by omega))
            · refine g_aload_n (q := 45) dX7_shivers_44 rfl rfl ?_
              refine g_callVv (q := 48) (c_X7_oneHour hE (by rw [upc_same]; exact wfm_hrs w _)) lk_RX7_159 (by decide) (by decide) rfl (by decide) rfl rfl rfl rfl rfl rfl (Nat.le_of_ble_eq_true rfl) (Nat.le_of_ble_eq_true rfl) (Nat.le_of_ble_eq_true rfl) dX7_shivers_45 rfl ?_
              refine g_sg (σ' := upc (asd σ) 44 (q_hrs (σ 44) (i + 1))) (by rw [upc_upc, upc_same]; rfl) ?_
              refine g_iinc (q := 51) dX7_shivers_48 rfl ci_1 (by decide) rfl rfl ?_
              refine g_aload_n (q := 52) dX7_shivers_51 rfl rfl ?_
              refine g_callVi (q := 55) (c_X7_firstCold hE (by rw [upc_same]; exact wfm_hrs w _)) lk_RX7_195 (by decide) (by decide) rfl (by decide) rfl rfl rfl rfl rfl rfl (Nat.le_of_ble_eq_true rfl) (Nat.le_of_ble_eq_true rfl) (Nat.le_of_ble_eq_true rfl) dX7_shivers_52 rfl ?_
              refine g_istore_n (j := 3) (q := 56) dX7_shivers_55 rfl (by decide) rfl rfl ?_
              refine g_goto (t := 34) dX7_shivers_56 (by decide) ?_
              exact g_eqw (ih (i + 1) (by omega) (by rw [← hr]; simp only [shM]; rw [if_pos (Int32.not_le.mp c_35)]; rfl)) (by simp [lsub, nI_succ, upc_same]) rfl rfl
      refine g_sg (σ' := upc (asd σ) 44 (q_hrs (σ 44) 0)) (by show asd σ = upc (asd σ) 44 (σ 44); rw [← asd_44 σ]; exact (upc_id _ _).symm) ?_
      exact g_eqw (key 60 0 (by omega) hP) (by simp [lsub, asd_44, q_hrs, nI_0]) rfl rfl
    · rw [bI_0] at c_17
      rw [show inL u.toInt64 0 1 = wi u 0 1 from inL_i u 0 1] at c_17
      refine g_ldc (q := 22) dX7_shivers_20 wd_931 rfl ?_
      exact g_iret dX7_shivers_22 (pi_i (by simp only [q_shivers, c_4, c_17, not_true_eq_false, not_false_eq_true, if_true, if_false, Bool.true_eq_false, Bool.false_eq_true, reduceIte, reduceCtorEq]) (by simp only [q_shivers, c_4, c_17, not_true_eq_false, not_false_eq_true, if_true, if_false, Bool.true_eq_false, Bool.false_eq_true, reduceIte, reduceCtorEq]) rfl)
  · refine g_ldc (q := 9) dX7_shivers_7 wd_1011 rfl ?_
    exact g_iret dX7_shivers_9 (pi_i (by simp only [q_shivers, c_4, not_true_eq_false, not_false_eq_true, if_true, if_false, Bool.true_eq_false, Bool.false_eq_true, reduceIte, reduceCtorEq]) (by simp only [q_shivers, c_4, not_true_eq_false, not_false_eq_true, if_true, if_false, Bool.true_eq_false, Bool.false_eq_true, reduceIte, reduceCtorEq]) rfl)
