theorem tok_upc {σ : Sto} (h : TOK σ) {k : Nat} (hk : k ≠ 5) (f : Nat → Int32) : TOK (upc σ k f) := by
  obtain ⟨L, A, h1, h2, h3⟩ := h
  exact ⟨L, A, by rw [upc_ne (Ne.symm hk)]; exact h1, by rw [upc_ne (Ne.symm hk)]; exact h2, h3⟩
def s_law (σ : Sto) : Bool × Sto :=
  let a := s_sign σ 110
  if a.1 = false then (false, a.2) else
  let b := s_num a.2 1 6
  if b.1 = -1 then (false, b.2) else
  let c := s_sign b.2 44
  if c.1 = false then (false, c.2) else
  let d := s_num c.2 0 (b.1 - 1)
  if d.1 = -1 then (false, d.2) else
  let e := s_sign d.2 44
  if e.1 = false then (false, e.2) else
  let f := s_num e.2 0 40
  if f.1 = -1 then (false, f.2) else
  let g := s_sign f.2 44
  if g.1 = false then (false, g.2) else
  let h := s_num g.2 0 99
  if h.1 = -1 then (false, h.2) else
  let i := s_sign h.2 59
  if i.1 = false then (false, i.2) else
  (true, upc i.2 17 (upd (upd (upd (upd (i.2 17) 0 b.1) 1 d.1) 2 f.1) 3 h.1))
def s_door (σ : Sto) : Bool × Sto :=
  let a := s_num (advS σ 1) 0 (σ 17 0 - 1)
  if a.1 = -1 then (false, a.2) else
  let b := s_sign a.2 44
  if b.1 = false then (false, b.2) else
  let c := s_num b.2 0 (σ 17 0 - 1)
  if c.1 = -1 then (false, c.2) else
  if c.1 = a.1 then (false, failS (upc c.2 5 (upd (c.2 5) 1 (b.2 5 1))) 2) else
  let d := s_sign c.2 44
  if d.1 = false then (false, d.2) else
  let e := s_num d.2 0 1
  if e.1 = -1 then (false, e.2) else
  let f := s_sign e.2 59
  if f.1 = false then (false, f.2) else
  (true, s_addDoor f.2 17 a.1 c.1 (if e.1 = 1 then 1 else 0))
def s_sitter (σ : Sto) : Bool × Sto :=
  if s_kl (nxS σ) = 0 then (false, failS σ 1) else
  let a := s_num (advS σ 1) 0 (σ 17 0 - 1)
  if a.1 = -1 then (false, a.2) else
  let b := s_sign a.2 44
  if b.1 = false then (false, b.2) else
  let c := s_num b.2 0 20
  if c.1 = -1 then (false, c.2) else
  let d := s_sign c.2 59
  if d.1 = false then (false, d.2) else
  (true, s_addSitter d.2 17 (s_kl (nxS σ)) a.1 c.1)
def s_doors (σ : Sto) : Nat → Bool × Sto
  | 0 => if nxS σ = 100 then (false, failS σ 3) else (true, σ)
  | m + 1 => if nxS σ = 100 then (if (s_door σ).1 = false then (false, (s_door σ).2) else s_doors (s_door σ).2 m) else (true, σ)
def s_sitters (σ : Sto) : Nat → Bool × Sto
  | 0 => if nxS σ = -1 then (true, σ) else (false, failS σ (if s_kl (nxS σ) = 0 then 1 else 3))
  | m + 1 => if nxS σ = -1 then (true, σ) else if (s_sitter σ).1 = false then (false, (s_sitter σ).2) else s_sitters (s_sitter σ).2 m
def clrS (σ : Sto) (h : Nat) : Sto := upc (upc σ h (upd (upd (upd (upd (upd (σ h) 0 0) 4 0) 5 0) 6 0) 7 0)) (h + 6) (zf (σ (h + 6)) 0 6)
def s_read (σ : Sto) : Bool × Sto :=
  let a := s_law (clrS (upc σ 5 (upd (σ 5) 1 0)) 17)
  if a.1 = false then (false, a.2) else
  let b := s_doors a.2 8
  if b.1 = false then (false, b.2) else
  s_sitters b.2 5
set_option maxRecDepth 20000 in
set_option maxHeartbeats 4000000 in
theorem c_X5_readLaw {E : EE} (hE : inj E 0 40) {σ : Sto} {τ : Stl}  (h : TOK σ) : Ct E 0 40 yX5_readLaw cX5_readLaw 6 (some FieldType.boolean) { frames := 2, cells := 0, slots := 0, locals := 46 } [.ref (E.2.1 5), .ref (E.2.1 17)] σ τ (Pi (bI (s_law σ).1) ((s_law σ).2) (τ)) := by
  refine ct_of hE RX5 [some (.ref (E.2.1 5)), some (.ref (E.2.1 17)), none, none, none, none] (by decide) rfl (Nat.le_of_ble_eq_true rfl) rfl (fun X => ?_)
  refine g_aload_n (q := 1) dX5_readLaw_0 rfl rfl ?_
  refine g_bipush (q := 3) dX5_readLaw_1 cb_110 rfl ?_
  refine g_callVi (q := 6) (c_X5_takeSign hE (by repeat' (first | with_reducible assumption | with_reducible apply tok_num | (with_reducible refine tok_sign ?_ _ ?_) | decide))) lk_RX5_35 (by decide) (by decide) rfl (by decide) rfl rfl rfl rfl rfl rfl (Nat.le_of_ble_eq_true rfl) (Nat.le_of_ble_eq_true rfl) (Nat.le_of_ble_eq_true rfl) dX5_readLaw_3 rfl ?_
  refine g_if_ne (t := 11) (q := 9) dX5_readLaw_6 (by decide) rfl (fun c_6 => ?_) (fun c_6 => ?_)
  · rw [bI_n0] at c_6
    refine g_aload_n (q := 12) dX5_readLaw_11 rfl rfl ?_
    refine g_iconst (q := 13) dX5_readLaw_12 ci_1 rfl ?_
    refine g_bipush (q := 15) dX5_readLaw_13 cb_6 rfl ?_
    refine g_callVi (q := 18) (c_X5_takeNumber hE (by repeat' (first | with_reducible assumption | with_reducible apply tok_num | (with_reducible refine tok_sign ?_ _ ?_) | decide))) lk_RX5_39 (by decide) (by decide) rfl (by decide) rfl rfl rfl rfl rfl rfl (Nat.le_of_ble_eq_true rfl) (Nat.le_of_ble_eq_true rfl) (Nat.le_of_ble_eq_true rfl) dX5_readLaw_15 rfl ?_
    refine g_istore_n (j := 2) (q := 19) dX5_readLaw_18 rfl (by decide) rfl rfl ?_
    refine g_iload_n (q := 20) dX5_readLaw_19 rfl rfl ?_
    refine g_iconst (q := 21) dX5_readLaw_20 ci_m1 rfl ?_
    refine g_icmp_eq (t := 33) (q := 24) dX5_readLaw_21 (by decide) rfl (fun c_21 => ?_) (fun c_21 => ?_)
    · refine g_iconst (q := 34) dX5_readLaw_33 ci_0 rfl ?_
      exact g_zret dX5_readLaw_34 (by first | decide | exact bI_nar _) (pi_i (by simp only [s_law, c_6, c_21, if_true, if_false, Bool.true_eq_false, reduceIte, bI_t, bI_f, show ((1 : Int32) = -1) = False from by decide]; try with_reducible rfl) (by simp only [s_law, c_6, c_21, if_true, if_false, Bool.true_eq_false, reduceIte, bI_t, bI_f, show ((1 : Int32) = -1) = False from by decide]) rfl)
    · refine g_aload_n (q := 25) dX5_readLaw_24 rfl rfl ?_
      refine g_bipush (q := 27) dX5_readLaw_25 cb_44 rfl ?_
      refine g_callVi (q := 30) (c_X5_takeSign hE (by repeat' (first | with_reducible assumption | with_reducible apply tok_num | (with_reducible refine tok_sign ?_ _ ?_) | decide))) lk_RX5_35 (by decide) (by decide) rfl (by decide) rfl rfl rfl rfl rfl rfl (Nat.le_of_ble_eq_true rfl) (Nat.le_of_ble_eq_true rfl) (Nat.le_of_ble_eq_true rfl) dX5_readLaw_27 rfl ?_
      refine g_if_ne (t := 35) (q := 33) dX5_readLaw_30 (by decide) rfl (fun c_30 => ?_) (fun c_30 => ?_)
      · rw [bI_n0] at c_30
        refine g_aload_n (q := 36) dX5_readLaw_35 rfl rfl ?_
        refine g_iconst (q := 37) dX5_readLaw_36 ci_0 rfl ?_
        refine g_iload_n (q := 38) dX5_readLaw_37 rfl rfl ?_
        refine g_iconst (q := 39) dX5_readLaw_38 ci_1 rfl ?_
        refine g_isub (q := 40) dX5_readLaw_39 rfl ?_
        refine g_callVi (q := 43) (c_X5_takeNumber hE (by repeat' (first | with_reducible assumption | with_reducible apply tok_num | (with_reducible refine tok_sign ?_ _ ?_) | decide))) lk_RX5_39 (by decide) (by decide) rfl (by decide) rfl rfl rfl rfl rfl rfl (Nat.le_of_ble_eq_true rfl) (Nat.le_of_ble_eq_true rfl) (Nat.le_of_ble_eq_true rfl) dX5_readLaw_40 rfl ?_
        refine g_istore_n (j := 3) (q := 44) dX5_readLaw_43 rfl (by decide) rfl rfl ?_
        refine g_iload_n (q := 45) dX5_readLaw_44 rfl rfl ?_
        refine g_iconst (q := 46) dX5_readLaw_45 ci_m1 rfl ?_
        refine g_icmp_eq (t := 58) (q := 49) dX5_readLaw_46 (by decide) rfl (fun c_46 => ?_) (fun c_46 => ?_)
        · refine g_iconst (q := 59) dX5_readLaw_58 ci_0 rfl ?_
          exact g_zret dX5_readLaw_59 (by first | decide | exact bI_nar _) (pi_i (by simp only [s_law, c_6, c_21, c_30, c_46, if_true, if_false, Bool.true_eq_false, reduceIte, bI_t, bI_f, show ((1 : Int32) = -1) = False from by decide]; try with_reducible rfl) (by simp only [s_law, c_6, c_21, c_30, c_46, if_true, if_false, Bool.true_eq_false, reduceIte, bI_t, bI_f, show ((1 : Int32) = -1) = False from by decide]) rfl)
        · refine g_aload_n (q := 50) dX5_readLaw_49 rfl rfl ?_
          refine g_bipush (q := 52) dX5_readLaw_50 cb_44 rfl ?_
          refine g_callVi (q := 55) (c_X5_takeSign hE (by repeat' (first | with_reducible assumption | with_reducible apply tok_num | (with_reducible refine tok_sign ?_ _ ?_) | decide))) lk_RX5_35 (by decide) (by decide) rfl (by decide) rfl rfl rfl rfl rfl rfl (Nat.le_of_ble_eq_true rfl) (Nat.le_of_ble_eq_true rfl) (Nat.le_of_ble_eq_true rfl) dX5_readLaw_52 rfl ?_
          refine g_if_ne (t := 60) (q := 58) dX5_readLaw_55 (by decide) rfl (fun c_55 => ?_) (fun c_55 => ?_)
          · rw [bI_n0] at c_55
            refine g_aload_n (q := 61) dX5_readLaw_60 rfl rfl ?_
            refine g_iconst (q := 62) dX5_readLaw_61 ci_0 rfl ?_
            refine g_bipush (q := 64) dX5_readLaw_62 cb_40 rfl ?_
            refine g_callVi (q := 67) (c_X5_takeNumber hE (by repeat' (first | with_reducible assumption | with_reducible apply tok_num | (with_reducible refine tok_sign ?_ _ ?_) | decide))) lk_RX5_39 (by decide) (by decide) rfl (by decide) rfl rfl rfl rfl rfl rfl (Nat.le_of_ble_eq_true rfl) (Nat.le_of_ble_eq_true rfl) (Nat.le_of_ble_eq_true rfl) dX5_readLaw_64 rfl ?_
            refine g_istore (q := 69) dX5_readLaw_67 (by decide) rfl rfl ?_
            refine g_iload (q := 71) dX5_readLaw_69 rfl rfl ?_
            refine g_iconst (q := 72) dX5_readLaw_71 ci_m1 rfl ?_
            refine g_icmp_eq (t := 84) (q := 75) dX5_readLaw_72 (by decide) rfl (fun c_72 => ?_) (fun c_72 => ?_)
            · refine g_iconst (q := 85) dX5_readLaw_84 ci_0 rfl ?_
              exact g_zret dX5_readLaw_85 (by first | decide | exact bI_nar _) (pi_i (by simp only [s_law, c_6, c_21, c_30, c_46, c_55, c_72, if_true, if_false, Bool.true_eq_false, reduceIte, bI_t, bI_f, show ((1 : Int32) = -1) = False from by decide]; try with_reducible rfl) (by simp only [s_law, c_6, c_21, c_30, c_46, c_55, c_72, if_true, if_false, Bool.true_eq_false, reduceIte, bI_t, bI_f, show ((1 : Int32) = -1) = False from by decide]) rfl)
            · refine g_aload_n (q := 76) dX5_readLaw_75 rfl rfl ?_
              refine g_bipush (q := 78) dX5_readLaw_76 cb_44 rfl ?_
              refine g_callVi (q := 81) (c_X5_takeSign hE (by repeat' (first | with_reducible assumption | with_reducible apply tok_num | (with_reducible refine tok_sign ?_ _ ?_) | decide))) lk_RX5_35 (by decide) (by decide) rfl (by decide) rfl rfl rfl rfl rfl rfl (Nat.le_of_ble_eq_true rfl) (Nat.le_of_ble_eq_true rfl) (Nat.le_of_ble_eq_true rfl) dX5_readLaw_78 rfl ?_
              refine g_if_ne (t := 86) (q := 84) dX5_readLaw_81 (by decide) rfl (fun c_81 => ?_) (fun c_81 => ?_)
              · rw [bI_n0] at c_81
                refine g_aload_n (q := 87) dX5_readLaw_86 rfl rfl ?_
                refine g_iconst (q := 88) dX5_readLaw_87 ci_0 rfl ?_
                refine g_bipush (q := 90) dX5_readLaw_88 cb_99 rfl ?_
                refine g_callVi (q := 93) (c_X5_takeNumber hE (by repeat' (first | with_reducible assumption | with_reducible apply tok_num | (with_reducible refine tok_sign ?_ _ ?_) | decide))) lk_RX5_39 (by decide) (by decide) rfl (by decide) rfl rfl rfl rfl rfl rfl (Nat.le_of_ble_eq_true rfl) (Nat.le_of_ble_eq_true rfl) (Nat.le_of_ble_eq_true rfl) dX5_readLaw_90 rfl ?_
                refine g_istore (q := 95) dX5_readLaw_93 (by decide) rfl rfl ?_
                refine g_iload (q := 97) dX5_readLaw_95 rfl rfl ?_
                refine g_iconst (q := 98) dX5_readLaw_97 ci_m1 rfl ?_
                refine g_icmp_eq (t := 110) (q := 101) dX5_readLaw_98 (by decide) rfl (fun c_98 => ?_) (fun c_98 => ?_)
                · refine g_iconst (q := 111) dX5_readLaw_110 ci_0 rfl ?_
                  exact g_zret dX5_readLaw_111 (by first | decide | exact bI_nar _) (pi_i (by simp only [s_law, c_6, c_21, c_30, c_46, c_55, c_72, c_81, c_98, if_true, if_false, Bool.true_eq_false, reduceIte, bI_t, bI_f, show ((1 : Int32) = -1) = False from by decide]; try with_reducible rfl) (by simp only [s_law, c_6, c_21, c_30, c_46, c_55, c_72, c_81, c_98, if_true, if_false, Bool.true_eq_false, reduceIte, bI_t, bI_f, show ((1 : Int32) = -1) = False from by decide]) rfl)
                · refine g_aload_n (q := 102) dX5_readLaw_101 rfl rfl ?_
                  refine g_bipush (q := 104) dX5_readLaw_102 cb_59 rfl ?_
                  refine g_callVi (q := 107) (c_X5_takeSign hE (by repeat' (first | with_reducible assumption | with_reducible apply tok_num | (with_reducible refine tok_sign ?_ _ ?_) | decide))) lk_RX5_35 (by decide) (by decide) rfl (by decide) rfl rfl rfl rfl rfl rfl (Nat.le_of_ble_eq_true rfl) (Nat.le_of_ble_eq_true rfl) (Nat.le_of_ble_eq_true rfl) dX5_readLaw_104 rfl ?_
                  refine g_if_ne (t := 112) (q := 110) dX5_readLaw_107 (by decide) rfl (fun c_107 => ?_) (fun c_107 => ?_)
                  · rw [bI_n0] at c_107
                    refine g_aload_n (q := 113) dX5_readLaw_112 rfl rfl ?_
                    refine g_iload_n (q := 114) dX5_readLaw_113 rfl rfl ?_
                    refine g_iload_n (q := 115) dX5_readLaw_114 rfl rfl ?_
                    refine g_iload (q := 117) dX5_readLaw_115 rfl rfl ?_
                    refine g_iload (q := 119) dX5_readLaw_117 rfl rfl ?_
                    refine g_callVv (q := 122) (c_X1_setLaw hE rfl) lk_RX5_43 (Nat.zero_le _) (h_lt rfl) rfl (by decide) rfl rfl rfl rfl rfl rfl (Nat.le_of_ble_eq_true rfl) (Nat.le_of_ble_eq_true rfl) (Nat.le_of_ble_eq_true rfl) dX5_readLaw_119 rfl ?_
                    refine g_iconst (q := 123) dX5_readLaw_122 ci_1 rfl ?_
                    exact g_zret dX5_readLaw_123 (by first | decide | exact bI_nar _) (pi_i (by simp only [s_law, c_6, c_21, c_30, c_46, c_55, c_72, c_81, c_98, c_107, if_true, if_false, Bool.true_eq_false, reduceIte, bI_t, bI_f, show ((1 : Int32) = -1) = False from by decide]; try with_reducible rfl) (by simp only [s_law, c_6, c_21, c_30, c_46, c_55, c_72, c_81, c_98, c_107, if_true, if_false, Bool.true_eq_false, reduceIte, bI_t, bI_f, show ((1 : Int32) = -1) = False from by decide]) rfl)
                  · rw [bI_0] at c_107
                    refine g_iconst (q := 111) dX5_readLaw_110 ci_0 rfl ?_
                    exact g_zret dX5_readLaw_111 (by first | decide | exact bI_nar _) (pi_i (by simp only [s_law, c_6, c_21, c_30, c_46, c_55, c_72, c_81, c_98, c_107, if_true, if_false, Bool.true_eq_false, reduceIte, bI_t, bI_f, show ((1 : Int32) = -1) = False from by decide]; try with_reducible rfl) (by simp only [s_law, c_6, c_21, c_30, c_46, c_55, c_72, c_81, c_98, c_107, if_true, if_false, Bool.true_eq_false, reduceIte, bI_t, bI_f, show ((1 : Int32) = -1) = False from by decide]) rfl)
              · rw [bI_0] at c_81
                refine g_iconst (q := 85) dX5_readLaw_84 ci_0 rfl ?_
                exact g_zret dX5_readLaw_85 (by first | decide | exact bI_nar _) (pi_i (by simp only [s_law, c_6, c_21, c_30, c_46, c_55, c_72, c_81, if_true, if_false, Bool.true_eq_false, reduceIte, bI_t, bI_f, show ((1 : Int32) = -1) = False from by decide]; try with_reducible rfl) (by simp only [s_law, c_6, c_21, c_30, c_46, c_55, c_72, c_81, if_true, if_false, Bool.true_eq_false, reduceIte, bI_t, bI_f, show ((1 : Int32) = -1) = False from by decide]) rfl)
          · rw [bI_0] at c_55
            refine g_iconst (q := 59) dX5_readLaw_58 ci_0 rfl ?_
            exact g_zret dX5_readLaw_59 (by first | decide | exact bI_nar _) (pi_i (by simp only [s_law, c_6, c_21, c_30, c_46, c_55, if_true, if_false, Bool.true_eq_false, reduceIte, bI_t, bI_f, show ((1 : Int32) = -1) = False from by decide]; try with_reducible rfl) (by simp only [s_law, c_6, c_21, c_30, c_46, c_55, if_true, if_false, Bool.true_eq_false, reduceIte, bI_t, bI_f, show ((1 : Int32) = -1) = False from by decide]) rfl)
      · rw [bI_0] at c_30
        refine g_iconst (q := 34) dX5_readLaw_33 ci_0 rfl ?_
        exact g_zret dX5_readLaw_34 (by first | decide | exact bI_nar _) (pi_i (by simp only [s_law, c_6, c_21, c_30, if_true, if_false, Bool.true_eq_false, reduceIte, bI_t, bI_f, show ((1 : Int32) = -1) = False from by decide]; try with_reducible rfl) (by simp only [s_law, c_6, c_21, c_30, if_true, if_false, Bool.true_eq_false, reduceIte, bI_t, bI_f, show ((1 : Int32) = -1) = False from by decide]) rfl)
  · rw [bI_0] at c_6
    refine g_iconst (q := 10) dX5_readLaw_9 ci_0 rfl ?_
    exact g_zret dX5_readLaw_10 (by first | decide | exact bI_nar _) (pi_i (by simp only [s_law, c_6, if_true, if_false, Bool.true_eq_false, reduceIte, bI_t, bI_f, show ((1 : Int32) = -1) = False from by decide]; try with_reducible rfl) (by simp only [s_law, c_6, if_true, if_false, Bool.true_eq_false, reduceIte, bI_t, bI_f, show ((1 : Int32) = -1) = False from by decide]) rfl)
set_option maxRecDepth 20000 in
set_option maxHeartbeats 4000000 in
theorem c_X5_readDoor {E : EE} (hE : inj E 0 40) {σ : Sto} {τ : Stl}  (h : TOK σ) (hn : (σ 5 1).toNatClampNeg + 1 ≤ (σ 5 2).toNatClampNeg) (hd : vp_in (σ 17 5) 8) : Ct E 0 40 yX5_readDoor cX5_readDoor 6 (some FieldType.boolean) { frames := 2, cells := 0, slots := 0, locals := 46 } [.ref (E.2.1 5), .ref (E.2.1 17)] σ τ (Pi (bI (s_door σ).1) ((s_door σ).2) (τ)) := by
  refine ct_of hE RX5 [some (.ref (E.2.1 5)), some (.ref (E.2.1 17)), none, none, none, none] (by decide) rfl (Nat.le_of_ble_eq_true rfl) rfl (fun X => ?_)
  refine g_aload_n (q := 1) dX5_readDoor_0 rfl rfl ?_
  refine g_dup (q := 2) dX5_readDoor_1 rfl rfl ?_
  refine f5_1 (q := 5) wd_114 dX5_readDoor_2 rfl ?_
  refine g_iconst (q := 6) dX5_readDoor_5 ci_1 rfl ?_
  refine g_iadd (q := 7) dX5_readDoor_6 rfl ?_
  refine p5_1 (q := 10) wd_114 dX5_readDoor_7 rfl ?_
  refine g_sg (σ' := advS σ 1) rfl ?_
  have h1 : TOK (advS σ 1) := tok_adv h 1 hn
  refine g_aload_n (q := 11) dX5_readDoor_10 rfl rfl ?_
  refine g_iconst (q := 12) dX5_readDoor_11 ci_0 rfl ?_
  refine g_aload_n (q := 13) dX5_readDoor_12 rfl rfl ?_
  refine f1_0 (q := 16) rfl wd_140 dX5_readDoor_13 rfl ?_
  (try simp only [sign_ne (show (17 : Nat) ≠ 5 by decide), num_ne (show (17 : Nat) ≠ 5 by decide), (tp_ne (show (17 : Nat) ≠ 5 by decide) _).2])
  refine g_iconst (q := 17) dX5_readDoor_16 ci_1 rfl ?_
  refine g_isub (q := 18) dX5_readDoor_17 rfl ?_
  refine g_callVi (q := 21) (c_X5_takeNumber hE (by repeat' (first | with_reducible assumption | with_reducible apply tok_num | (with_reducible refine tok_sign ?_ _ ?_) | decide))) lk_RX5_39 (by decide) (by decide) rfl (by decide) rfl rfl rfl rfl rfl rfl (Nat.le_of_ble_eq_true rfl) (Nat.le_of_ble_eq_true rfl) (Nat.le_of_ble_eq_true rfl) dX5_readDoor_18 rfl ?_
  refine g_istore_n (j := 2) (q := 22) dX5_readDoor_21 rfl (by decide) rfl rfl ?_
  refine g_iload_n (q := 23) dX5_readDoor_22 rfl rfl ?_
  refine g_iconst (q := 24) dX5_readDoor_23 ci_m1 rfl ?_
  refine g_icmp_eq (t := 36) (q := 27) dX5_readDoor_24 (by decide) rfl (fun c_24 => ?_) (fun c_24 => ?_)
  · refine g_iconst (q := 37) dX5_readDoor_36 ci_0 rfl ?_
    exact g_zret dX5_readDoor_37 (by first | decide | exact bI_nar _) (pi_i (by simp only [s_door, c_24, if_true, if_false, Bool.true_eq_false, reduceIte, bI_t, bI_f, show ((1 : Int32) = -1) = False from by decide]; try with_reducible rfl) (by simp only [s_door, c_24, if_true, if_false, Bool.true_eq_false, reduceIte, bI_t, bI_f, show ((1 : Int32) = -1) = False from by decide]; try with_reducible rfl) rfl)
  · refine g_aload_n (q := 28) dX5_readDoor_27 rfl rfl ?_
    refine g_bipush (q := 30) dX5_readDoor_28 cb_44 rfl ?_
    refine g_callVi (q := 33) (c_X5_takeSign hE (by repeat' (first | with_reducible assumption | with_reducible apply tok_num | (with_reducible refine tok_sign ?_ _ ?_) | decide))) lk_RX5_35 (by decide) (by decide) rfl (by decide) rfl rfl rfl rfl rfl rfl (Nat.le_of_ble_eq_true rfl) (Nat.le_of_ble_eq_true rfl) (Nat.le_of_ble_eq_true rfl) dX5_readDoor_30 rfl ?_
    refine g_if_ne (t := 38) (q := 36) dX5_readDoor_33 (by decide) rfl (fun c_33 => ?_) (fun c_33 => ?_)
    · rw [bI_n0] at c_33
      refine g_aload_n (q := 39) dX5_readDoor_38 rfl rfl ?_
      refine f5_1 (q := 42) wd_114 dX5_readDoor_39 rfl ?_
      refine g_istore_n (j := 3) (q := 43) dX5_readDoor_42 rfl (by decide) rfl rfl ?_
      refine g_aload_n (q := 44) dX5_readDoor_43 rfl rfl ?_
      refine g_iconst (q := 45) dX5_readDoor_44 ci_0 rfl ?_
      refine g_aload_n (q := 46) dX5_readDoor_45 rfl rfl ?_
      refine f1_0 (q := 49) rfl wd_140 dX5_readDoor_46 rfl ?_
      (try simp only [sign_ne (show (17 : Nat) ≠ 5 by decide), num_ne (show (17 : Nat) ≠ 5 by decide), (tp_ne (show (17 : Nat) ≠ 5 by decide) _).2])
      refine g_iconst (q := 50) dX5_readDoor_49 ci_1 rfl ?_
      refine g_isub (q := 51) dX5_readDoor_50 rfl ?_
      refine g_callVi (q := 54) (c_X5_takeNumber hE (by repeat' (first | with_reducible assumption | with_reducible apply tok_num | (with_reducible refine tok_sign ?_ _ ?_) | decide))) lk_RX5_39 (by decide) (by decide) rfl (by decide) rfl rfl rfl rfl rfl rfl (Nat.le_of_ble_eq_true rfl) (Nat.le_of_ble_eq_true rfl) (Nat.le_of_ble_eq_true rfl) dX5_readDoor_51 rfl ?_
      refine g_istore (q := 56) dX5_readDoor_54 (by decide) rfl rfl ?_
      refine g_iload (q := 58) dX5_readDoor_56 rfl rfl ?_
      refine g_iconst (q := 59) dX5_readDoor_58 ci_m1 rfl ?_
      refine g_icmp_ne (t := 64) (q := 62) dX5_readDoor_59 (by decide) rfl (fun c_59 => ?_) (fun c_59 => ?_)
      · refine g_iload (q := 66) dX5_readDoor_64 rfl rfl ?_
        refine g_iload_n (q := 67) dX5_readDoor_66 rfl rfl ?_
        refine g_icmp_ne (t := 81) (q := 70) dX5_readDoor_67 (by decide) rfl (fun c_67 => ?_) (fun c_67 => ?_)
        · refine g_aload_n (q := 82) dX5_readDoor_81 rfl rfl ?_
          refine g_bipush (q := 84) dX5_readDoor_82 cb_44 rfl ?_
          refine g_callVi (q := 87) (c_X5_takeSign hE (by repeat' (first | with_reducible assumption | with_reducible apply tok_num | (with_reducible refine tok_sign ?_ _ ?_) | decide))) lk_RX5_35 (by decide) (by decide) rfl (by decide) rfl rfl rfl rfl rfl rfl (Nat.le_of_ble_eq_true rfl) (Nat.le_of_ble_eq_true rfl) (Nat.le_of_ble_eq_true rfl) dX5_readDoor_84 rfl ?_
          refine g_if_ne (t := 92) (q := 90) dX5_readDoor_87 (by decide) rfl (fun c_87 => ?_) (fun c_87 => ?_)
          · rw [bI_n0] at c_87
            refine g_aload_n (q := 93) dX5_readDoor_92 rfl rfl ?_
            refine g_iconst (q := 94) dX5_readDoor_93 ci_0 rfl ?_
            refine g_iconst (q := 95) dX5_readDoor_94 ci_1 rfl ?_
            refine g_callVi (q := 98) (c_X5_takeNumber hE (by repeat' (first | with_reducible assumption | with_reducible apply tok_num | (with_reducible refine tok_sign ?_ _ ?_) | decide))) lk_RX5_39 (by decide) (by decide) rfl (by decide) rfl rfl rfl rfl rfl rfl (Nat.le_of_ble_eq_true rfl) (Nat.le_of_ble_eq_true rfl) (Nat.le_of_ble_eq_true rfl) dX5_readDoor_95 rfl ?_
            refine g_istore (q := 100) dX5_readDoor_98 (by decide) rfl rfl ?_
            refine g_iload (q := 102) dX5_readDoor_100 rfl rfl ?_
            refine g_iconst (q := 103) dX5_readDoor_102 ci_m1 rfl ?_
            refine g_icmp_eq (t := 115) (q := 106) dX5_readDoor_103 (by decide) rfl (fun c_103 => ?_) (fun c_103 => ?_)
            · refine g_iconst (q := 116) dX5_readDoor_115 ci_0 rfl ?_
              exact g_zret dX5_readDoor_116 (by first | decide | exact bI_nar _) (pi_i (by simp only [s_door, c_24, c_33, c_59, c_67, c_87, c_103, if_true, if_false, Bool.true_eq_false, reduceIte, bI_t, bI_f, show ((1 : Int32) = -1) = False from by decide]; try with_reducible rfl) (by simp only [s_door, c_24, c_33, c_59, c_67, c_87, c_103, if_true, if_false, Bool.true_eq_false, reduceIte, bI_t, bI_f, show ((1 : Int32) = -1) = False from by decide]; try with_reducible rfl) rfl)
            · refine g_aload_n (q := 107) dX5_readDoor_106 rfl rfl ?_
              refine g_bipush (q := 109) dX5_readDoor_107 cb_59 rfl ?_
              refine g_callVi (q := 112) (c_X5_takeSign hE (by repeat' (first | with_reducible assumption | with_reducible apply tok_num | (with_reducible refine tok_sign ?_ _ ?_) | decide))) lk_RX5_35 (by decide) (by decide) rfl (by decide) rfl rfl rfl rfl rfl rfl (Nat.le_of_ble_eq_true rfl) (Nat.le_of_ble_eq_true rfl) (Nat.le_of_ble_eq_true rfl) dX5_readDoor_109 rfl ?_
              refine g_if_ne (t := 117) (q := 115) dX5_readDoor_112 (by decide) rfl (fun c_112 => ?_) (fun c_112 => ?_)
              · rw [bI_n0] at c_112
                refine g_aload_n (q := 118) dX5_readDoor_117 rfl rfl ?_
                refine g_iload_n (q := 119) dX5_readDoor_118 rfl rfl ?_
                refine g_iload (q := 121) dX5_readDoor_119 rfl rfl ?_
                refine g_iload (q := 123) dX5_readDoor_121 rfl rfl ?_
                refine g_iconst (q := 124) dX5_readDoor_123 ci_1 rfl ?_
                refine g_icmp_ne (t := 131) (q := 127) dX5_readDoor_124 (by decide) rfl (fun c_124 => ?_) (fun c_124 => ?_)
                · refine g_iconst (q := 132) dX5_readDoor_131 ci_0 rfl ?_
                  refine g_callVv (q := 135) (c_X1_addDoor hE rfl (by rw [sign_ne (show (17 : Nat) ≠ 5 by decide), num_ne (show (17 : Nat) ≠ 5 by decide), sign_ne (show (17 : Nat) ≠ 5 by decide), num_ne (show (17 : Nat) ≠ 5 by decide), sign_ne (show (17 : Nat) ≠ 5 by decide), num_ne (show (17 : Nat) ≠ 5 by decide), (tp_ne (show (17 : Nat) ≠ 5 by decide) _).2]; exact hd)) lk_RX5_60 (Nat.zero_le _) (h_lt rfl) rfl (by decide) rfl rfl rfl rfl rfl rfl (Nat.le_of_ble_eq_true rfl) (Nat.le_of_ble_eq_true rfl) (Nat.le_of_ble_eq_true rfl) dX5_readDoor_132 rfl ?_
                  refine g_iconst (q := 136) dX5_readDoor_135 ci_1 rfl ?_
                  exact g_zret dX5_readDoor_136 (by first | decide | exact bI_nar _) (pi_i (by simp only [s_door, c_24, c_33, c_59, c_67, c_87, c_103, c_112, c_124, if_true, if_false, Bool.true_eq_false, reduceIte, bI_t, bI_f, show ((1 : Int32) = -1) = False from by decide]; try with_reducible rfl) (by simp only [s_door, c_24, c_33, c_59, c_67, c_87, c_103, c_112, c_124, if_true, if_false, Bool.true_eq_false, reduceIte, bI_t, bI_f, show ((1 : Int32) = -1) = False from by decide]; try with_reducible rfl) rfl)
                · refine g_iconst (q := 128) dX5_readDoor_127 ci_1 rfl ?_
                  refine g_goto (t := 132) dX5_readDoor_128 (by decide) ?_
                  refine g_callVv (q := 135) (c_X1_addDoor hE rfl (by rw [sign_ne (show (17 : Nat) ≠ 5 by decide), num_ne (show (17 : Nat) ≠ 5 by decide), sign_ne (show (17 : Nat) ≠ 5 by decide), num_ne (show (17 : Nat) ≠ 5 by decide), sign_ne (show (17 : Nat) ≠ 5 by decide), num_ne (show (17 : Nat) ≠ 5 by decide), (tp_ne (show (17 : Nat) ≠ 5 by decide) _).2]; exact hd)) lk_RX5_60 (Nat.zero_le _) (h_lt rfl) rfl (by decide) rfl rfl rfl rfl rfl rfl (Nat.le_of_ble_eq_true rfl) (Nat.le_of_ble_eq_true rfl) (Nat.le_of_ble_eq_true rfl) dX5_readDoor_132 rfl ?_
                  refine g_iconst (q := 136) dX5_readDoor_135 ci_1 rfl ?_
                  exact g_zret dX5_readDoor_136 (by first | decide | exact bI_nar _) (pi_i (by simp only [s_door, c_24, c_33, c_59, c_67, c_87, c_103, c_112, c_124, if_true, if_false, Bool.true_eq_false, reduceIte, bI_t, bI_f, show ((1 : Int32) = -1) = False from by decide]; try with_reducible rfl) (by simp only [s_door, c_24, c_33, c_59, c_67, c_87, c_103, c_112, c_124, if_true, if_false, Bool.true_eq_false, reduceIte, bI_t, bI_f, show ((1 : Int32) = -1) = False from by decide]; try with_reducible rfl) rfl)
              · rw [bI_0] at c_112
                refine g_iconst (q := 116) dX5_readDoor_115 ci_0 rfl ?_
                exact g_zret dX5_readDoor_116 (by first | decide | exact bI_nar _) (pi_i (by simp only [s_door, c_24, c_33, c_59, c_67, c_87, c_103, c_112, if_true, if_false, Bool.true_eq_false, reduceIte, bI_t, bI_f, show ((1 : Int32) = -1) = False from by decide]; try with_reducible rfl) (by simp only [s_door, c_24, c_33, c_59, c_67, c_87, c_103, c_112, if_true, if_false, Bool.true_eq_false, reduceIte, bI_t, bI_f, show ((1 : Int32) = -1) = False from by decide]; try with_reducible rfl) rfl)
          · rw [bI_0] at c_87
            refine g_iconst (q := 91) dX5_readDoor_90 ci_0 rfl ?_
            exact g_zret dX5_readDoor_91 (by first | decide | exact bI_nar _) (pi_i (by simp only [s_door, c_24, c_33, c_59, c_67, c_87, if_true, if_false, Bool.true_eq_false, reduceIte, bI_t, bI_f, show ((1 : Int32) = -1) = False from by decide]; try with_reducible rfl) (by simp only [s_door, c_24, c_33, c_59, c_67, c_87, if_true, if_false, Bool.true_eq_false, reduceIte, bI_t, bI_f, show ((1 : Int32) = -1) = False from by decide]; try with_reducible rfl) rfl)
        · refine g_aload_n (q := 71) dX5_readDoor_70 rfl rfl ?_
          refine g_iload_n (q := 72) dX5_readDoor_71 rfl rfl ?_
          refine p5_1 (q := 75) wd_114 dX5_readDoor_72 rfl ?_
          refine g_aload_n (q := 76) dX5_readDoor_75 rfl rfl ?_
          refine g_iconst (q := 77) dX5_readDoor_76 ci_2 rfl ?_
          refine g_callVi (q := 80) (c_X5_fail hE ) lk_RX5_54 (by decide) (by decide) rfl (by decide) rfl rfl rfl rfl rfl rfl (Nat.le_of_ble_eq_true rfl) (Nat.le_of_ble_eq_true rfl) (Nat.le_of_ble_eq_true rfl) dX5_readDoor_77 rfl ?_
          exact g_zret dX5_readDoor_80 (by first | decide | exact bI_nar _) (pi_i (by simp only [s_door, c_24, c_33, c_59, c_67, if_true, if_false, Bool.true_eq_false, reduceIte, bI_t, bI_f, show ((1 : Int32) = -1) = False from by decide]; try with_reducible rfl) (by simp only [s_door, c_24, c_33, c_59, c_67, if_true, if_false, Bool.true_eq_false, reduceIte, bI_t, bI_f, show ((1 : Int32) = -1) = False from by decide]; try with_reducible rfl) rfl)
      · refine g_iconst (q := 63) dX5_readDoor_62 ci_0 rfl ?_
        exact g_zret dX5_readDoor_63 (by first | decide | exact bI_nar _) (pi_i (by simp only [s_door, c_24, c_33, c_59, if_true, if_false, Bool.true_eq_false, reduceIte, bI_t, bI_f, show ((1 : Int32) = -1) = False from by decide]; try with_reducible rfl) (by simp only [s_door, c_24, c_33, c_59, if_true, if_false, Bool.true_eq_false, reduceIte, bI_t, bI_f, show ((1 : Int32) = -1) = False from by decide]; try with_reducible rfl) rfl)
    · rw [bI_0] at c_33
      refine g_iconst (q := 37) dX5_readDoor_36 ci_0 rfl ?_
      exact g_zret dX5_readDoor_37 (by first | decide | exact bI_nar _) (pi_i (by simp only [s_door, c_24, c_33, if_true, if_false, Bool.true_eq_false, reduceIte, bI_t, bI_f, show ((1 : Int32) = -1) = False from by decide]; try with_reducible rfl) (by simp only [s_door, c_24, c_33, if_true, if_false, Bool.true_eq_false, reduceIte, bI_t, bI_f, show ((1 : Int32) = -1) = False from by decide]; try with_reducible rfl) rfl)
set_option maxRecDepth 20000 in
set_option maxHeartbeats 4000000 in
theorem c_X5_readSitter {E : EE} (hE : inj E 0 40) {σ : Sto} {τ : Stl}  (h : TOK σ) (hd : vp_in (σ 17 7) 5) : Ct E 0 40 yX5_readSitter cX5_readSitter 5 (some FieldType.boolean) { frames := 2, cells := 0, slots := 0, locals := 46 } [.ref (E.2.1 5), .ref (E.2.1 17)] σ τ (Pi (bI (s_sitter σ).1) ((s_sitter σ).2) (τ)) := by
  refine ct_of hE RX5 [some (.ref (E.2.1 5)), some (.ref (E.2.1 17)), none, none, none] (by decide) rfl (Nat.le_of_ble_eq_true rfl) rfl (fun X => ?_)
  refine g_aload_n (q := 1) dX5_readSitter_0 rfl rfl ?_
  refine g_callVi (q := 4) (c_X5_next hE (by repeat' (first | with_reducible assumption | with_reducible apply tok_num | (with_reducible refine tok_sign ?_ _ ?_) | decide))) lk_RX5_47 (by decide) (by decide) rfl (by decide) rfl rfl rfl rfl rfl rfl (Nat.le_of_ble_eq_true rfl) (Nat.le_of_ble_eq_true rfl) (Nat.le_of_ble_eq_true rfl) dX5_readSitter_1 rfl ?_
  refine g_callSi (q := 7) (c_X5_kindOfLetter hE ) lk_RX5_67 rfl rfl rfl rfl (Nat.le_of_ble_eq_true rfl) (Nat.le_of_ble_eq_true rfl) (Nat.le_of_ble_eq_true rfl) dX5_readSitter_4 rfl ?_
  refine g_istore_n (j := 2) (q := 8) dX5_readSitter_7 rfl (by decide) rfl rfl ?_
  refine g_iload_n (q := 9) dX5_readSitter_8 rfl rfl ?_
  refine g_if_ne (t := 18) (q := 12) dX5_readSitter_9 (by decide) rfl (fun c_9 => ?_) (fun c_9 => ?_)
  · refine g_aload_n (q := 19) dX5_readSitter_18 rfl rfl ?_
    refine g_dup (q := 20) dX5_readSitter_19 rfl rfl ?_
    refine f5_1 (q := 23) wd_114 dX5_readSitter_20 rfl ?_
    refine g_iconst (q := 24) dX5_readSitter_23 ci_1 rfl ?_
    refine g_iadd (q := 25) dX5_readSitter_24 rfl ?_
    refine p5_1 (q := 28) wd_114 dX5_readSitter_25 rfl ?_
    refine g_sg (σ' := advS σ 1) rfl ?_
    have h1 : TOK (advS σ 1) := tok_adv h 1 (nx_lt h rfl (fun e => c_9 (by rw [e]; decide)))
    refine g_aload_n (q := 29) dX5_readSitter_28 rfl rfl ?_
    refine g_iconst (q := 30) dX5_readSitter_29 ci_0 rfl ?_
    refine g_aload_n (q := 31) dX5_readSitter_30 rfl rfl ?_
    refine f1_0 (q := 34) rfl wd_140 dX5_readSitter_31 rfl ?_
    (try simp only [sign_ne (show (17 : Nat) ≠ 5 by decide), num_ne (show (17 : Nat) ≠ 5 by decide), (tp_ne (show (17 : Nat) ≠ 5 by decide) _).2])
    refine g_iconst (q := 35) dX5_readSitter_34 ci_1 rfl ?_
    refine g_isub (q := 36) dX5_readSitter_35 rfl ?_
    refine g_callVi (q := 39) (c_X5_takeNumber hE (by repeat' (first | with_reducible assumption | with_reducible apply tok_num | (with_reducible refine tok_sign ?_ _ ?_) | decide))) lk_RX5_39 (by decide) (by decide) rfl (by decide) rfl rfl rfl rfl rfl rfl (Nat.le_of_ble_eq_true rfl) (Nat.le_of_ble_eq_true rfl) (Nat.le_of_ble_eq_true rfl) dX5_readSitter_36 rfl ?_
    refine g_istore_n (j := 3) (q := 40) dX5_readSitter_39 rfl (by decide) rfl rfl ?_
    refine g_iload_n (q := 41) dX5_readSitter_40 rfl rfl ?_
    refine g_iconst (q := 42) dX5_readSitter_41 ci_m1 rfl ?_
    refine g_icmp_eq (t := 54) (q := 45) dX5_readSitter_42 (by decide) rfl (fun c_42 => ?_) (fun c_42 => ?_)
    · refine g_iconst (q := 55) dX5_readSitter_54 ci_0 rfl ?_
      exact g_zret dX5_readSitter_55 (by first | decide | exact bI_nar _) (pi_i (by simp only [s_sitter, c_9, c_42, if_true, if_false, Bool.true_eq_false, reduceIte, bI_t, bI_f, show ((1 : Int32) = -1) = False from by decide]; try with_reducible rfl) (by simp only [s_sitter, c_9, c_42, if_true, if_false, Bool.true_eq_false, reduceIte, bI_t, bI_f, show ((1 : Int32) = -1) = False from by decide]; try with_reducible rfl) rfl)
    · refine g_aload_n (q := 46) dX5_readSitter_45 rfl rfl ?_
      refine g_bipush (q := 48) dX5_readSitter_46 cb_44 rfl ?_
      refine g_callVi (q := 51) (c_X5_takeSign hE (by repeat' (first | with_reducible assumption | with_reducible apply tok_num | (with_reducible refine tok_sign ?_ _ ?_) | decide))) lk_RX5_35 (by decide) (by decide) rfl (by decide) rfl rfl rfl rfl rfl rfl (Nat.le_of_ble_eq_true rfl) (Nat.le_of_ble_eq_true rfl) (Nat.le_of_ble_eq_true rfl) dX5_readSitter_48 rfl ?_
      refine g_if_ne (t := 56) (q := 54) dX5_readSitter_51 (by decide) rfl (fun c_51 => ?_) (fun c_51 => ?_)
      · rw [bI_n0] at c_51
        refine g_aload_n (q := 57) dX5_readSitter_56 rfl rfl ?_
        refine g_iconst (q := 58) dX5_readSitter_57 ci_0 rfl ?_
        refine g_bipush (q := 60) dX5_readSitter_58 cb_20 rfl ?_
        refine g_callVi (q := 63) (c_X5_takeNumber hE (by repeat' (first | with_reducible assumption | with_reducible apply tok_num | (with_reducible refine tok_sign ?_ _ ?_) | decide))) lk_RX5_39 (by decide) (by decide) rfl (by decide) rfl rfl rfl rfl rfl rfl (Nat.le_of_ble_eq_true rfl) (Nat.le_of_ble_eq_true rfl) (Nat.le_of_ble_eq_true rfl) dX5_readSitter_60 rfl ?_
        refine g_istore (q := 65) dX5_readSitter_63 (by decide) rfl rfl ?_
        refine g_iload (q := 67) dX5_readSitter_65 rfl rfl ?_
        refine g_iconst (q := 68) dX5_readSitter_67 ci_m1 rfl ?_
        refine g_icmp_eq (t := 80) (q := 71) dX5_readSitter_68 (by decide) rfl (fun c_68 => ?_) (fun c_68 => ?_)
        · refine g_iconst (q := 81) dX5_readSitter_80 ci_0 rfl ?_
          exact g_zret dX5_readSitter_81 (by first | decide | exact bI_nar _) (pi_i (by simp only [s_sitter, c_9, c_42, c_51, c_68, if_true, if_false, Bool.true_eq_false, reduceIte, bI_t, bI_f, show ((1 : Int32) = -1) = False from by decide]; try with_reducible rfl) (by simp only [s_sitter, c_9, c_42, c_51, c_68, if_true, if_false, Bool.true_eq_false, reduceIte, bI_t, bI_f, show ((1 : Int32) = -1) = False from by decide]; try with_reducible rfl) rfl)
        · refine g_aload_n (q := 72) dX5_readSitter_71 rfl rfl ?_
          refine g_bipush (q := 74) dX5_readSitter_72 cb_59 rfl ?_
          refine g_callVi (q := 77) (c_X5_takeSign hE (by repeat' (first | with_reducible assumption | with_reducible apply tok_num | (with_reducible refine tok_sign ?_ _ ?_) | decide))) lk_RX5_35 (by decide) (by decide) rfl (by decide) rfl rfl rfl rfl rfl rfl (Nat.le_of_ble_eq_true rfl) (Nat.le_of_ble_eq_true rfl) (Nat.le_of_ble_eq_true rfl) dX5_readSitter_74 rfl ?_
          refine g_if_ne (t := 82) (q := 80) dX5_readSitter_77 (by decide) rfl (fun c_77 => ?_) (fun c_77 => ?_)
          · rw [bI_n0] at c_77
            refine g_aload_n (q := 83) dX5_readSitter_82 rfl rfl ?_
            refine g_iload_n (q := 84) dX5_readSitter_83 rfl rfl ?_
            refine g_iload_n (q := 85) dX5_readSitter_84 rfl rfl ?_
            refine g_iload (q := 87) dX5_readSitter_85 rfl rfl ?_
            refine g_callVv (q := 90) (c_X1_addSitter hE rfl (by rw [sign_ne (show (17 : Nat) ≠ 5 by decide), num_ne (show (17 : Nat) ≠ 5 by decide), sign_ne (show (17 : Nat) ≠ 5 by decide), num_ne (show (17 : Nat) ≠ 5 by decide), (tp_ne (show (17 : Nat) ≠ 5 by decide) _).2]; exact hd)) lk_RX5_71 (Nat.zero_le _) (h_lt rfl) rfl (by decide) rfl rfl rfl rfl rfl rfl (Nat.le_of_ble_eq_true rfl) (Nat.le_of_ble_eq_true rfl) (Nat.le_of_ble_eq_true rfl) dX5_readSitter_87 rfl ?_
            refine g_iconst (q := 91) dX5_readSitter_90 ci_1 rfl ?_
            exact g_zret dX5_readSitter_91 (by first | decide | exact bI_nar _) (pi_i (by simp only [s_sitter, c_9, c_42, c_51, c_68, c_77, if_true, if_false, Bool.true_eq_false, reduceIte, bI_t, bI_f, show ((1 : Int32) = -1) = False from by decide]; try with_reducible rfl) (by simp only [s_sitter, c_9, c_42, c_51, c_68, c_77, if_true, if_false, Bool.true_eq_false, reduceIte, bI_t, bI_f, show ((1 : Int32) = -1) = False from by decide]; try with_reducible rfl) rfl)
          · rw [bI_0] at c_77
            refine g_iconst (q := 81) dX5_readSitter_80 ci_0 rfl ?_
            exact g_zret dX5_readSitter_81 (by first | decide | exact bI_nar _) (pi_i (by simp only [s_sitter, c_9, c_42, c_51, c_68, c_77, if_true, if_false, Bool.true_eq_false, reduceIte, bI_t, bI_f, show ((1 : Int32) = -1) = False from by decide]; try with_reducible rfl) (by simp only [s_sitter, c_9, c_42, c_51, c_68, c_77, if_true, if_false, Bool.true_eq_false, reduceIte, bI_t, bI_f, show ((1 : Int32) = -1) = False from by decide]; try with_reducible rfl) rfl)
      · rw [bI_0] at c_51
        refine g_iconst (q := 55) dX5_readSitter_54 ci_0 rfl ?_
        exact g_zret dX5_readSitter_55 (by first | decide | exact bI_nar _) (pi_i (by simp only [s_sitter, c_9, c_42, c_51, if_true, if_false, Bool.true_eq_false, reduceIte, bI_t, bI_f, show ((1 : Int32) = -1) = False from by decide]; try with_reducible rfl) (by simp only [s_sitter, c_9, c_42, c_51, if_true, if_false, Bool.true_eq_false, reduceIte, bI_t, bI_f, show ((1 : Int32) = -1) = False from by decide]; try with_reducible rfl) rfl)
  · refine g_aload_n (q := 13) dX5_readSitter_12 rfl rfl ?_
    refine g_iconst (q := 14) dX5_readSitter_13 ci_1 rfl ?_
    refine g_callVi (q := 17) (c_X5_fail hE ) lk_RX5_54 (by decide) (by decide) rfl (by decide) rfl rfl rfl rfl rfl rfl (Nat.le_of_ble_eq_true rfl) (Nat.le_of_ble_eq_true rfl) (Nat.le_of_ble_eq_true rfl) dX5_readSitter_14 rfl ?_
    exact g_zret dX5_readSitter_17 (by first | decide | exact bI_nar _) (pi_i (by simp only [s_sitter, c_9, if_true, if_false, Bool.true_eq_false, reduceIte, bI_t, bI_f, show ((1 : Int32) = -1) = False from by decide]; try with_reducible rfl) (by simp only [s_sitter, c_9, if_true, if_false, Bool.true_eq_false, reduceIte, bI_t, bI_f, show ((1 : Int32) = -1) = False from by decide]; try with_reducible rfl) rfl)
theorem fail_52 (σ : Sto) (c : Int32) : failS σ c 5 2 = σ 5 2 := by unfold failS; rw [upc_same, upd_ne (by decide), upd_ne (by decide)]
theorem adv_52 (σ : Sto) (c : Int32) : advS σ c 5 2 = σ 5 2 := by unfold advS; rw [upc_same, upd_ne (by decide)]
theorem sign_52 (σ : Sto) (c : Int32) : (s_sign σ c).2 5 2 = σ 5 2 := by
  unfold s_sign
  split
  · exact adv_52 σ 1
  · exact fail_52 σ 1
theorem num_52 (σ : Sto) (a b : Int32) : (s_num σ a b).2 5 2 = σ 5 2 := by
  unfold s_num
  split
  · exact fail_52 σ 1
  · split
    · exact fail_52 σ 2
    · exact adv_52 σ (nI (figS σ))
theorem door_ok {σ : Sto} (h : TOK σ) (hn : (σ 5 1).toNatClampNeg + 1 ≤ (σ 5 2).toNatClampNeg) : ¬ (s_door σ).1 = false → TOK (s_door σ).2 ∧ (s_door σ).2 17 5 = σ 17 5 + 1 ∧ (s_door σ).2 17 7 = σ 17 7 ∧ (s_door σ).2 5 2 = σ 5 2 ∧ (s_door σ).2 17 0 = σ 17 0 := by
  have h1 : TOK (advS σ 1) := tok_adv h 1 hn
  unfold s_door
  dsimp only
  iterate 7 (split; · intro q; exact absurd rfl q)
  intro _
  dsimp only
  unfold s_addDoor
  refine ⟨?_, ?_, ?_, ?_, ?_⟩
  · repeat' (first | with_reducible assumption | (with_reducible refine tok_upc ?_ ?_ _) | with_reducible apply tok_num | (with_reducible refine tok_sign ?_ _ ?_) | decide)
  · simp [upc, sign_ne (show (17 : Nat) ≠ 5 by decide), num_ne (show (17 : Nat) ≠ 5 by decide), (tp_ne (show (17 : Nat) ≠ 5 by decide) _).2, upd]
  · simp [upc, upd, sign_ne (show (17 : Nat) ≠ 5 by decide), num_ne (show (17 : Nat) ≠ 5 by decide), (tp_ne (show (17 : Nat) ≠ 5 by decide) _).2]; try (split <;> rfl)
  · simp [upc, sign_52, num_52, adv_52]
  · simp [upc, upd, sign_ne (show (17 : Nat) ≠ 5 by decide), num_ne (show (17 : Nat) ≠ 5 by decide), (tp_ne (show (17 : Nat) ≠ 5 by decide) _).2]; try (split <;> rfl)
theorem sitter_ok {σ : Sto} (h : TOK σ) (hn : (σ 5 1).toNatClampNeg + 1 ≤ (σ 5 2).toNatClampNeg) : ¬ (s_sitter σ).1 = false → TOK (s_sitter σ).2 ∧ (s_sitter σ).2 17 7 = σ 17 7 + 1 ∧ (s_sitter σ).2 17 5 = σ 17 5 ∧ (s_sitter σ).2 5 2 = σ 5 2 ∧ (s_sitter σ).2 17 0 = σ 17 0 := by
  have h1 : TOK (advS σ 1) := tok_adv h 1 hn
  unfold s_sitter
  dsimp only
  iterate 5 (split; · intro q; exact absurd rfl q)
  intro _
  dsimp only
  unfold s_addSitter
  refine ⟨?_, ?_, ?_, ?_, ?_⟩
  · repeat' (first | with_reducible assumption | (with_reducible refine tok_upc ?_ ?_ _) | with_reducible apply tok_num | (with_reducible refine tok_sign ?_ _ ?_) | decide)
  · simp [upc, sign_ne (show (17 : Nat) ≠ 5 by decide), num_ne (show (17 : Nat) ≠ 5 by decide), (tp_ne (show (17 : Nat) ≠ 5 by decide) _).2, upd]
  · simp [upc, upd, sign_ne (show (17 : Nat) ≠ 5 by decide), num_ne (show (17 : Nat) ≠ 5 by decide), (tp_ne (show (17 : Nat) ≠ 5 by decide) _).2]; try (split <;> rfl)
  · simp [upc, sign_52, num_52, adv_52]
  · simp [upc, upd, sign_ne (show (17 : Nat) ≠ 5 by decide), num_ne (show (17 : Nat) ≠ 5 by decide), (tp_ne (show (17 : Nat) ≠ 5 by decide) _).2]; try (split <;> rfl)
