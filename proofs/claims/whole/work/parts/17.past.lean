def WFP (σ : Sto) : Prop := vp_in (σ 14 1) 24 ∧ vp_in (σ 14 2) 25
def pb (o k : Int32) : Nat := (o.toNatClampNeg + k.toNatClampNeg) % 24 * 13
theorem pbase {o k : Int32} (ho : vp_in o 24) (hk : vp_in k 25) : ((o + k) - (o + k) / 24 * 24) * 13 = nI (pb o k) ∧ pb o k ≤ 299 := by
  obtain ⟨e1, h1⟩ := vp_to ho (by decide)
  obtain ⟨e2, h2⟩ := vp_to hk (by decide)
  have e3 : o + k = nI (o.toNatClampNeg + k.toNatClampNeg) := by
    have := nI_add (o.toNatClampNeg) (k.toNatClampNeg)
    rw [← e1, ← e2] at this
    exact this
  refine ⟨?_, by unfold pb; omega⟩
  rw [e3, show (24 : Int32) = nI 24 from rfl, pk_rem (by omega) (by decide) (by decide), show (13 : Int32) = nI 13 from rfl, pk_mul]
  rfl
theorem padd (B c : Nat) {x : Int32} (hx : x = nI c) : nI B + x = nI (B + c) := by rw [hx, nI_add]
def kpW (σ : Sto) (B : Nat) : Nat → Int32 := va_cpy (σ (7 + 4)) (va_cpy (σ (7 + 6)) (upd (upd (σ 15) B (σ 7 4)) (B + 1) (σ 7 6)) 0 (B + 2) 6) 0 (B + 8) 5
def kp (σ : Sto) : Sto := if 24 ≤ σ 14 2 then upc (upc σ 15 (kpW σ (pb (σ 14 1) (σ 14 2)))) 14 (upd (σ 14) 1 ((σ 14 1 + 1) - (σ 14 1 + 1) / 24 * 24)) else upc (upc σ 15 (kpW σ (pb (σ 14 1) (σ 14 2)))) 14 (upd (σ 14) 2 (σ 14 2 + 1))
def tb (σ : Sto) : Sto := fun k => if k = 14 then upd (σ 14) 2 (σ 14 2 - 1) else if k = 7 then upd (upd (σ 7) 4 (σ 15 (pb (σ 14 1) (σ 14 2 - 1)))) 6 (σ 15 (pb (σ 14 1) (σ 14 2 - 1) + 1)) else if k = 13 then (fun j => σ 15 (pb (σ 14 1) (σ 14 2 - 1) + 2 + j)) else if k = 11 then (fun j => σ 15 (pb (σ 14 1) (σ 14 2 - 1) + 8 + j)) else σ k
theorem vp_mono {x : Int32} {n m : Nat} (h : vp_in x n) (hnm : n ≤ m) : vp_in x m := fun q => h (q.imp id (fun z => Nat.le_trans hnm z))
theorem held1 {x : Int32} (h : vp_in x 25) (h0 : ¬ x = 0) : vp_in (x - 1) 24 := by
  obtain ⟨e, hl⟩ := vp_to h (by decide)
  rw [e] at h0 ⊢
  generalize x.toNatClampNeg = n at hl h0 ⊢
  cases n with
  | zero => exact absurd rfl h0
  | succ m => rw [nI_pred]; exact vp_in_nI (by omega) (by decide)
theorem tb_eqv {σ : Sto} {k j : Nat} (hj : j < lu k) : (upc (upc (upc (upc (upc σ 14 (upd (σ 14) 2 (σ 14 2 - 1))) 7 (upd ((upc σ 14 (upd (σ 14) 2 (σ 14 2 - 1))) 7) 4 ((upc σ 14 (upd (σ 14) 2 (σ 14 2 - 1))) 15 ((pb (σ 14 1) (σ 14 2 - 1)) + 0)))) 7 (upd ((upc (upc σ 14 (upd (σ 14) 2 (σ 14 2 - 1))) 7 (upd ((upc σ 14 (upd (σ 14) 2 (σ 14 2 - 1))) 7) 4 ((upc σ 14 (upd (σ 14) 2 (σ 14 2 - 1))) 15 ((pb (σ 14 1) (σ 14 2 - 1)) + 0)))) 7) 6 ((upc (upc σ 14 (upd (σ 14) 2 (σ 14 2 - 1))) 7 (upd ((upc σ 14 (upd (σ 14) 2 (σ 14 2 - 1))) 7) 4 ((upc σ 14 (upd (σ 14) 2 (σ 14 2 - 1))) 15 ((pb (σ 14 1) (σ 14 2 - 1)) + 0)))) 15 ((pb (σ 14 1) (σ 14 2 - 1)) + 1)))) (7 + 6) (va_cpy ((upc (upc (upc σ 14 (upd (σ 14) 2 (σ 14 2 - 1))) 7 (upd ((upc σ 14 (upd (σ 14) 2 (σ 14 2 - 1))) 7) 4 ((upc σ 14 (upd (σ 14) 2 (σ 14 2 - 1))) 15 ((pb (σ 14 1) (σ 14 2 - 1)) + 0)))) 7 (upd ((upc (upc σ 14 (upd (σ 14) 2 (σ 14 2 - 1))) 7 (upd ((upc σ 14 (upd (σ 14) 2 (σ 14 2 - 1))) 7) 4 ((upc σ 14 (upd (σ 14) 2 (σ 14 2 - 1))) 15 ((pb (σ 14 1) (σ 14 2 - 1)) + 0)))) 7) 6 ((upc (upc σ 14 (upd (σ 14) 2 (σ 14 2 - 1))) 7 (upd ((upc σ 14 (upd (σ 14) 2 (σ 14 2 - 1))) 7) 4 ((upc σ 14 (upd (σ 14) 2 (σ 14 2 - 1))) 15 ((pb (σ 14 1) (σ 14 2 - 1)) + 0)))) 15 ((pb (σ 14 1) (σ 14 2 - 1)) + 1)))) 15) ((upc (upc (upc σ 14 (upd (σ 14) 2 (σ 14 2 - 1))) 7 (upd ((upc σ 14 (upd (σ 14) 2 (σ 14 2 - 1))) 7) 4 ((upc σ 14 (upd (σ 14) 2 (σ 14 2 - 1))) 15 ((pb (σ 14 1) (σ 14 2 - 1)) + 0)))) 7 (upd ((upc (upc σ 14 (upd (σ 14) 2 (σ 14 2 - 1))) 7 (upd ((upc σ 14 (upd (σ 14) 2 (σ 14 2 - 1))) 7) 4 ((upc σ 14 (upd (σ 14) 2 (σ 14 2 - 1))) 15 ((pb (σ 14 1) (σ 14 2 - 1)) + 0)))) 7) 6 ((upc (upc σ 14 (upd (σ 14) 2 (σ 14 2 - 1))) 7 (upd ((upc σ 14 (upd (σ 14) 2 (σ 14 2 - 1))) 7) 4 ((upc σ 14 (upd (σ 14) 2 (σ 14 2 - 1))) 15 ((pb (σ 14 1) (σ 14 2 - 1)) + 0)))) 15 ((pb (σ 14 1) (σ 14 2 - 1)) + 1)))) (7 + 6)) ((pb (σ 14 1) (σ 14 2 - 1)) + 2) 0 6)) (7 + 4) (va_cpy ((upc (upc (upc (upc σ 14 (upd (σ 14) 2 (σ 14 2 - 1))) 7 (upd ((upc σ 14 (upd (σ 14) 2 (σ 14 2 - 1))) 7) 4 ((upc σ 14 (upd (σ 14) 2 (σ 14 2 - 1))) 15 ((pb (σ 14 1) (σ 14 2 - 1)) + 0)))) 7 (upd ((upc (upc σ 14 (upd (σ 14) 2 (σ 14 2 - 1))) 7 (upd ((upc σ 14 (upd (σ 14) 2 (σ 14 2 - 1))) 7) 4 ((upc σ 14 (upd (σ 14) 2 (σ 14 2 - 1))) 15 ((pb (σ 14 1) (σ 14 2 - 1)) + 0)))) 7) 6 ((upc (upc σ 14 (upd (σ 14) 2 (σ 14 2 - 1))) 7 (upd ((upc σ 14 (upd (σ 14) 2 (σ 14 2 - 1))) 7) 4 ((upc σ 14 (upd (σ 14) 2 (σ 14 2 - 1))) 15 ((pb (σ 14 1) (σ 14 2 - 1)) + 0)))) 15 ((pb (σ 14 1) (σ 14 2 - 1)) + 1)))) (7 + 6) (va_cpy ((upc (upc (upc σ 14 (upd (σ 14) 2 (σ 14 2 - 1))) 7 (upd ((upc σ 14 (upd (σ 14) 2 (σ 14 2 - 1))) 7) 4 ((upc σ 14 (upd (σ 14) 2 (σ 14 2 - 1))) 15 ((pb (σ 14 1) (σ 14 2 - 1)) + 0)))) 7 (upd ((upc (upc σ 14 (upd (σ 14) 2 (σ 14 2 - 1))) 7 (upd ((upc σ 14 (upd (σ 14) 2 (σ 14 2 - 1))) 7) 4 ((upc σ 14 (upd (σ 14) 2 (σ 14 2 - 1))) 15 ((pb (σ 14 1) (σ 14 2 - 1)) + 0)))) 7) 6 ((upc (upc σ 14 (upd (σ 14) 2 (σ 14 2 - 1))) 7 (upd ((upc σ 14 (upd (σ 14) 2 (σ 14 2 - 1))) 7) 4 ((upc σ 14 (upd (σ 14) 2 (σ 14 2 - 1))) 15 ((pb (σ 14 1) (σ 14 2 - 1)) + 0)))) 15 ((pb (σ 14 1) (σ 14 2 - 1)) + 1)))) 15) ((upc (upc (upc σ 14 (upd (σ 14) 2 (σ 14 2 - 1))) 7 (upd ((upc σ 14 (upd (σ 14) 2 (σ 14 2 - 1))) 7) 4 ((upc σ 14 (upd (σ 14) 2 (σ 14 2 - 1))) 15 ((pb (σ 14 1) (σ 14 2 - 1)) + 0)))) 7 (upd ((upc (upc σ 14 (upd (σ 14) 2 (σ 14 2 - 1))) 7 (upd ((upc σ 14 (upd (σ 14) 2 (σ 14 2 - 1))) 7) 4 ((upc σ 14 (upd (σ 14) 2 (σ 14 2 - 1))) 15 ((pb (σ 14 1) (σ 14 2 - 1)) + 0)))) 7) 6 ((upc (upc σ 14 (upd (σ 14) 2 (σ 14 2 - 1))) 7 (upd ((upc σ 14 (upd (σ 14) 2 (σ 14 2 - 1))) 7) 4 ((upc σ 14 (upd (σ 14) 2 (σ 14 2 - 1))) 15 ((pb (σ 14 1) (σ 14 2 - 1)) + 0)))) 15 ((pb (σ 14 1) (σ 14 2 - 1)) + 1)))) (7 + 6)) ((pb (σ 14 1) (σ 14 2 - 1)) + 2) 0 6)) 15) ((upc (upc (upc (upc σ 14 (upd (σ 14) 2 (σ 14 2 - 1))) 7 (upd ((upc σ 14 (upd (σ 14) 2 (σ 14 2 - 1))) 7) 4 ((upc σ 14 (upd (σ 14) 2 (σ 14 2 - 1))) 15 ((pb (σ 14 1) (σ 14 2 - 1)) + 0)))) 7 (upd ((upc (upc σ 14 (upd (σ 14) 2 (σ 14 2 - 1))) 7 (upd ((upc σ 14 (upd (σ 14) 2 (σ 14 2 - 1))) 7) 4 ((upc σ 14 (upd (σ 14) 2 (σ 14 2 - 1))) 15 ((pb (σ 14 1) (σ 14 2 - 1)) + 0)))) 7) 6 ((upc (upc σ 14 (upd (σ 14) 2 (σ 14 2 - 1))) 7 (upd ((upc σ 14 (upd (σ 14) 2 (σ 14 2 - 1))) 7) 4 ((upc σ 14 (upd (σ 14) 2 (σ 14 2 - 1))) 15 ((pb (σ 14 1) (σ 14 2 - 1)) + 0)))) 15 ((pb (σ 14 1) (σ 14 2 - 1)) + 1)))) (7 + 6) (va_cpy ((upc (upc (upc σ 14 (upd (σ 14) 2 (σ 14 2 - 1))) 7 (upd ((upc σ 14 (upd (σ 14) 2 (σ 14 2 - 1))) 7) 4 ((upc σ 14 (upd (σ 14) 2 (σ 14 2 - 1))) 15 ((pb (σ 14 1) (σ 14 2 - 1)) + 0)))) 7 (upd ((upc (upc σ 14 (upd (σ 14) 2 (σ 14 2 - 1))) 7 (upd ((upc σ 14 (upd (σ 14) 2 (σ 14 2 - 1))) 7) 4 ((upc σ 14 (upd (σ 14) 2 (σ 14 2 - 1))) 15 ((pb (σ 14 1) (σ 14 2 - 1)) + 0)))) 7) 6 ((upc (upc σ 14 (upd (σ 14) 2 (σ 14 2 - 1))) 7 (upd ((upc σ 14 (upd (σ 14) 2 (σ 14 2 - 1))) 7) 4 ((upc σ 14 (upd (σ 14) 2 (σ 14 2 - 1))) 15 ((pb (σ 14 1) (σ 14 2 - 1)) + 0)))) 15 ((pb (σ 14 1) (σ 14 2 - 1)) + 1)))) 15) ((upc (upc (upc σ 14 (upd (σ 14) 2 (σ 14 2 - 1))) 7 (upd ((upc σ 14 (upd (σ 14) 2 (σ 14 2 - 1))) 7) 4 ((upc σ 14 (upd (σ 14) 2 (σ 14 2 - 1))) 15 ((pb (σ 14 1) (σ 14 2 - 1)) + 0)))) 7 (upd ((upc (upc σ 14 (upd (σ 14) 2 (σ 14 2 - 1))) 7 (upd ((upc σ 14 (upd (σ 14) 2 (σ 14 2 - 1))) 7) 4 ((upc σ 14 (upd (σ 14) 2 (σ 14 2 - 1))) 15 ((pb (σ 14 1) (σ 14 2 - 1)) + 0)))) 7) 6 ((upc (upc σ 14 (upd (σ 14) 2 (σ 14 2 - 1))) 7 (upd ((upc σ 14 (upd (σ 14) 2 (σ 14 2 - 1))) 7) 4 ((upc σ 14 (upd (σ 14) 2 (σ 14 2 - 1))) 15 ((pb (σ 14 1) (σ 14 2 - 1)) + 0)))) 15 ((pb (σ 14 1) (σ 14 2 - 1)) + 1)))) (7 + 6)) ((pb (σ 14 1) (σ 14 2 - 1)) + 2) 0 6)) (7 + 4)) ((pb (σ 14 1) (σ 14 2 - 1)) + 8) 0 5)) k j = tb σ k j := by
  unfold tb
  generalize pb (σ 14 1) (σ 14 2 - 1) = B
  by_cases h14 : k = 14
  · subst h14; simp [upc]
  · by_cases h7 : k = 7
    · subst h7; simp [upc]
    · by_cases h13 : k = 13
      · subst h13
        have : j < 6 := hj
        simp [upc, va_cpy, this]
      · by_cases h11 : k = 11
        · subst h11
          have : j < 5 := hj
          simp [upc, va_cpy, this]
        · simp [upc, h14, h7, h13, h11]
set_option maxRecDepth 20000 in
set_option maxHeartbeats 4000000 in
theorem c_X2_forget {E : EE} (hE : inj E 0 40) {σ : Sto} {τ : Stl}   : Ct E 0 40 yX2_forget cX2_forget 1 none { frames := 0, cells := 0, slots := 0, locals := 0 } [.ref (E.2.1 14)] σ τ (Pv (upc σ 14 (upd (σ 14) 2 0)) (τ)) := by
  refine ct_of hE RX2 [some (.ref (E.2.1 14))] (by decide) rfl (Nat.le_of_ble_eq_true rfl) rfl (fun X => ?_)
  refine g_aload_n (q := 1) dX2_forget_0 rfl rfl ?_
  refine g_iconst (q := 2) dX2_forget_1 ci_0 rfl ?_
  refine p2_2 (q := 5) wd_217 dX2_forget_2 rfl ?_
  exact g_vret dX2_forget_5 (pv_i (by rfl) rfl)
set_option maxRecDepth 20000 in
set_option maxHeartbeats 4000000 in
theorem c_X2_keep {E : EE} (hE : inj E 0 40) {σ : Sto} {τ : Stl}  (w : WFP σ) : Ct E 0 40 yX2_keep cX2_keep 3 none { frames := 1, cells := 0, slots := 0, locals := 26 } [.ref (E.2.1 14), .ref (E.2.1 7)] σ τ (Pv (kp σ) (τ)) := by
  refine ct_of hE RX2 [some (.ref (E.2.1 14)), some (.ref (E.2.1 7)), none] (by decide) rfl (Nat.le_of_ble_eq_true rfl) rfl (fun X => ?_)
  obtain ⟨hb, hl⟩ := pbase w.1 w.2
  have t0 : nI (pb (σ 14 1) (σ 14 2)) + 0 = nI (pb (σ 14 1) (σ 14 2) + 0) := padd _ 0 rfl
  have t1 : nI (pb (σ 14 1) (σ 14 2)) + 1 = nI (pb (σ 14 1) (σ 14 2) + 1) := padd _ 1 rfl
  have t2 : nI (pb (σ 14 1) (σ 14 2)) + 2 = nI (pb (σ 14 1) (σ 14 2) + 2) := padd _ 2 rfl
  have t8 : nI (pb (σ 14 1) (σ 14 2)) + 8 = nI (pb (σ 14 1) (σ 14 2) + 8) := padd _ 8 rfl
  refine g_aload_n (q := 1) dX2_keep_0 rfl rfl ?_
  refine f2_1 (q := 4) wd_216 dX2_keep_1 rfl ?_
  refine g_aload_n (q := 5) dX2_keep_4 rfl rfl ?_
  refine f2_2 (q := 8) wd_217 dX2_keep_5 rfl ?_
  refine g_iadd (q := 9) dX2_keep_8 rfl ?_
  refine g_bipush (q := 11) dX2_keep_9 cb_24 rfl ?_
  refine g_irem (q := 12) dX2_keep_11 (by decide) rfl ?_
  refine g_bipush (q := 14) dX2_keep_12 cb_13 rfl ?_
  refine g_imul (q := 15) dX2_keep_14 rfl ?_
  refine g_st (stk' := [.int (nI (pb (σ 14 1) (σ 14 2)))]) (by rw [hb]) ?_
  refine g_istore_n (j := 2) (q := 16) dX2_keep_15 rfl (by decide) rfl rfl ?_
  refine g_aload_n (q := 17) dX2_keep_16 rfl rfl ?_
  refine f2_0 (q := 20) wd_215 dX2_keep_17 rfl ?_
  refine g_iload_n (q := 21) dX2_keep_20 rfl rfl ?_
  refine g_iconst (q := 22) dX2_keep_21 ci_0 rfl ?_
  refine g_iadd (q := 23) dX2_keep_22 rfl ?_
  refine g_aload_n (q := 24) dX2_keep_23 rfl rfl ?_
  refine f1_4 (q := 27) rfl wd_147 dX2_keep_24 rfl ?_
  refine g_iast (q := 28) (k := 15) (by decide) (by decide) rfl (show vp_in _ 312 by rw [t0]; exact vp_in_nI (by omega) (by decide)) dX2_keep_27 rfl ?_
  refine g_aload_n (q := 29) dX2_keep_28 rfl rfl ?_
  refine f2_0 (q := 32) wd_215 dX2_keep_29 rfl ?_
  refine g_iload_n (q := 33) dX2_keep_32 rfl rfl ?_
  refine g_iconst (q := 34) dX2_keep_33 ci_1 rfl ?_
  refine g_iadd (q := 35) dX2_keep_34 rfl ?_
  refine g_aload_n (q := 36) dX2_keep_35 rfl rfl ?_
  refine f1_6 (q := 39) rfl wd_153 dX2_keep_36 rfl ?_
  refine g_iast (q := 40) (k := 15) (by decide) (by decide) rfl (show vp_in _ 312 by rw [t1]; exact vp_in_nI (by omega) (by decide)) dX2_keep_39 rfl ?_
  refine g_aload_n (q := 41) dX2_keep_40 rfl rfl ?_
  refine f1_13 (q := 44) rfl wd_177 dX2_keep_41 rfl ?_
  refine g_iconst (q := 45) dX2_keep_44 ci_0 rfl ?_
  refine g_aload_n (q := 46) dX2_keep_45 rfl rfl ?_
  refine f2_0 (q := 49) wd_215 dX2_keep_46 rfl ?_
  refine g_iload_n (q := 50) dX2_keep_49 rfl rfl ?_
  refine g_iconst (q := 51) dX2_keep_50 ci_2 rfl ?_
  refine g_iadd (q := 52) dX2_keep_51 rfl ?_
  refine g_bipush (q := 54) dX2_keep_52 cb_6 rfl ?_
  refine g_copy (q := 57) (k0 := (7 + 6)) (k1 := 15) (Nat.zero_le _) (h_arr rfl (by decide : 1 ≤ 6) (by decide)).2.2 (h_arr rfl (by decide : 1 ≤ 6) (by decide)).1 (by decide) (by decide) rfl wd_470 wd_354 wd_353 wd_79 (by decide) (by rw [t2]; exact nI_pos (by omega)) (by decide) (by decide) (by rw [t2, nI_clamp (by omega)]; show _ + 6 ≤ 312; omega) (Nat.le_of_ble_eq_true rfl) (Nat.le_of_ble_eq_true rfl) dX2_keep_54 rfl ?_
  refine g_aload_n (q := 58) dX2_keep_57 rfl rfl ?_
  refine f1_11 (q := 61) rfl wd_169 dX2_keep_58 rfl ?_
  refine g_iconst (q := 62) dX2_keep_61 ci_0 rfl ?_
  refine g_aload_n (q := 63) dX2_keep_62 rfl rfl ?_
  refine f2_0 (q := 66) wd_215 dX2_keep_63 rfl ?_
  refine g_iload_n (q := 67) dX2_keep_66 rfl rfl ?_
  refine g_bipush (q := 69) dX2_keep_67 cb_8 rfl ?_
  refine g_iadd (q := 70) dX2_keep_69 rfl ?_
  refine g_iconst (q := 71) dX2_keep_70 ci_5 rfl ?_
  refine g_copy (q := 74) (k0 := (7 + 4)) (k1 := 15) (Nat.zero_le _) (h_arr rfl (by decide : 1 ≤ 4) (by decide)).2.2 (h_arr rfl (by decide : 1 ≤ 4) (by decide)).1 (by decide) (by decide) rfl wd_470 wd_354 wd_353 wd_79 (by decide) (by rw [t8]; exact nI_pos (by omega)) (by decide) (by decide) (by rw [t8, nI_clamp (by omega)]; show _ + 5 ≤ 312; omega) (Nat.le_of_ble_eq_true rfl) (Nat.le_of_ble_eq_true rfl) dX2_keep_71 rfl ?_
  refine g_aload_n (q := 75) dX2_keep_74 rfl rfl ?_
  refine f2_2 (q := 78) wd_217 dX2_keep_75 rfl ?_
  refine g_bipush (q := 80) dX2_keep_78 cb_24 rfl ?_
  refine g_icmp_ge (t := 96) (q := 83) dX2_keep_80 (by decide) rfl (fun c_80 => ?_) (fun c_80 => ?_)
  · have c2 : 24 ≤ σ 14 2 := by simpa [upc] using c_80
    refine g_aload_n (q := 97) dX2_keep_96 rfl rfl ?_
    refine g_aload_n (q := 98) dX2_keep_97 rfl rfl ?_
    refine f2_1 (q := 101) wd_216 dX2_keep_98 rfl ?_
    refine g_iconst (q := 102) dX2_keep_101 ci_1 rfl ?_
    refine g_iadd (q := 103) dX2_keep_102 rfl ?_
    refine g_bipush (q := 105) dX2_keep_103 cb_24 rfl ?_
    refine g_irem (q := 106) dX2_keep_105 (by decide) rfl ?_
    refine p2_1 (q := 109) wd_216 dX2_keep_106 rfl ?_
    exact g_vret dX2_keep_109 (pv_i (by unfold kp; rw [if_pos c2]; simp only [t0, t1, t2, t8, nI_clamp (show pb (σ 14 1) (σ 14 2) + 0 < 2 ^ 31 by omega), nI_clamp (show pb (σ 14 1) (σ 14 2) < 2 ^ 31 by omega), nI_clamp (show pb (σ 14 1) (σ 14 2) + 1 < 2 ^ 31 by omega), nI_clamp (show pb (σ 14 1) (σ 14 2) + 2 < 2 ^ 31 by omega), nI_clamp (show pb (σ 14 1) (σ 14 2) + 8 < 2 ^ 31 by omega)]; simp [upc, upc_upc, kpW, nI_clamp (show pb (σ 14 1) (σ 14 2) < 2 ^ 31 by omega)]) rfl)
  · have c2 : ¬ 24 ≤ σ 14 2 := fun h => c_80 (by simpa [upc] using h)
    refine g_aload_n (q := 84) dX2_keep_83 rfl rfl ?_
    refine g_dup (q := 85) dX2_keep_84 rfl rfl ?_
    refine f2_2 (q := 88) wd_217 dX2_keep_85 rfl ?_
    refine g_iconst (q := 89) dX2_keep_88 ci_1 rfl ?_
    refine g_iadd (q := 90) dX2_keep_89 rfl ?_
    refine p2_2 (q := 93) wd_217 dX2_keep_90 rfl ?_
    refine g_goto (t := 109) dX2_keep_93 (by decide) ?_
    exact g_vret dX2_keep_109 (pv_i (by unfold kp; rw [if_neg c2]; simp only [t0, t1, t2, t8, nI_clamp (show pb (σ 14 1) (σ 14 2) + 0 < 2 ^ 31 by omega), nI_clamp (show pb (σ 14 1) (σ 14 2) < 2 ^ 31 by omega), nI_clamp (show pb (σ 14 1) (σ 14 2) + 1 < 2 ^ 31 by omega), nI_clamp (show pb (σ 14 1) (σ 14 2) + 2 < 2 ^ 31 by omega), nI_clamp (show pb (σ 14 1) (σ 14 2) + 8 < 2 ^ 31 by omega)]; simp [upc, upc_upc, kpW, nI_clamp (show pb (σ 14 1) (σ 14 2) < 2 ^ 31 by omega)]) rfl)
set_option maxRecDepth 20000 in
set_option maxHeartbeats 4000000 in
theorem c_X2_takeBack {E : EE} (hE : inj E 0 40) {σ : Sto} {τ : Stl}  (w : WFP σ) (h0 : ¬ σ 14 2 = 0) : Ct E 0 40 yX2_takeBack cX2_takeBack 3 none { frames := 1, cells := 0, slots := 0, locals := 26 } [.ref (E.2.1 14), .ref (E.2.1 7)] σ τ (Pv (tb σ) (τ)) := by
  refine ct_of hE RX2 [some (.ref (E.2.1 14)), some (.ref (E.2.1 7)), none] (by decide) rfl (Nat.le_of_ble_eq_true rfl) rfl (fun X => ?_)
  obtain ⟨hb, hl⟩ := pbase (k := σ 14 2 - 1) w.1 (vp_mono (held1 w.2 h0) (by decide))
  have t0 : nI (pb (σ 14 1) (σ 14 2 - 1)) + 0 = nI (pb (σ 14 1) (σ 14 2 - 1) + 0) := padd _ 0 rfl
  have t1 : nI (pb (σ 14 1) (σ 14 2 - 1)) + 1 = nI (pb (σ 14 1) (σ 14 2 - 1) + 1) := padd _ 1 rfl
  have t2 : nI (pb (σ 14 1) (σ 14 2 - 1)) + 2 = nI (pb (σ 14 1) (σ 14 2 - 1) + 2) := padd _ 2 rfl
  have t8 : nI (pb (σ 14 1) (σ 14 2 - 1)) + 8 = nI (pb (σ 14 1) (σ 14 2 - 1) + 8) := padd _ 8 rfl
  refine g_aload_n (q := 1) dX2_takeBack_0 rfl rfl ?_
  refine f2_2 (q := 4) wd_217 dX2_takeBack_1 rfl ?_
  refine g_if_ne (t := 8) (q := 7) dX2_takeBack_4 (by decide) rfl (fun c_4 => ?_) (fun c_4 => ?_)
  · refine g_aload_n (q := 9) dX2_takeBack_8 rfl rfl ?_
    refine g_dup (q := 10) dX2_takeBack_9 rfl rfl ?_
    refine f2_2 (q := 13) wd_217 dX2_takeBack_10 rfl ?_
    refine g_iconst (q := 14) dX2_takeBack_13 ci_1 rfl ?_
    refine g_isub (q := 15) dX2_takeBack_14 rfl ?_
    refine p2_2 (q := 18) wd_217 dX2_takeBack_15 rfl ?_
    refine g_aload_n (q := 19) dX2_takeBack_18 rfl rfl ?_
    refine f2_1 (q := 22) wd_216 dX2_takeBack_19 rfl ?_
    refine g_aload_n (q := 23) dX2_takeBack_22 rfl rfl ?_
    refine f2_2 (q := 26) wd_217 dX2_takeBack_23 rfl ?_
    refine g_iadd (q := 27) dX2_takeBack_26 rfl ?_
    refine g_bipush (q := 29) dX2_takeBack_27 cb_24 rfl ?_
    refine g_irem (q := 30) dX2_takeBack_29 (by decide) rfl ?_
    refine g_bipush (q := 32) dX2_takeBack_30 cb_13 rfl ?_
    refine g_imul (q := 33) dX2_takeBack_32 rfl ?_
    refine g_st (stk' := [.int (nI (pb (σ 14 1) (σ 14 2 - 1)))]) (by rw [upc_same, upd_ne (by decide), upd_same, hb]) ?_
    refine g_istore_n (j := 2) (q := 34) dX2_takeBack_33 rfl (by decide) rfl rfl ?_
    refine g_aload_n (q := 35) dX2_takeBack_34 rfl rfl ?_
    refine g_aload_n (q := 36) dX2_takeBack_35 rfl rfl ?_
    refine f2_0 (q := 39) wd_215 dX2_takeBack_36 rfl ?_
    refine g_iload_n (q := 40) dX2_takeBack_39 rfl rfl ?_
    refine g_iconst (q := 41) dX2_takeBack_40 ci_0 rfl ?_
    refine g_iadd (q := 42) dX2_takeBack_41 rfl ?_
    refine g_iald (q := 43) (k := 15) (by decide) (by decide) rfl (show vp_in _ 312 by rw [t0]; exact vp_in_nI (by omega) (by decide)) dX2_takeBack_42 rfl ?_
    refine p1_4 (q := 46) rfl wd_147 dX2_takeBack_43 rfl ?_
    refine g_aload_n (q := 47) dX2_takeBack_46 rfl rfl ?_
    refine g_aload_n (q := 48) dX2_takeBack_47 rfl rfl ?_
    refine f2_0 (q := 51) wd_215 dX2_takeBack_48 rfl ?_
    refine g_iload_n (q := 52) dX2_takeBack_51 rfl rfl ?_
    refine g_iconst (q := 53) dX2_takeBack_52 ci_1 rfl ?_
    refine g_iadd (q := 54) dX2_takeBack_53 rfl ?_
    refine g_iald (q := 55) (k := 15) (by decide) (by decide) rfl (show vp_in _ 312 by rw [t1]; exact vp_in_nI (by omega) (by decide)) dX2_takeBack_54 rfl ?_
    refine p1_6 (q := 58) rfl wd_153 dX2_takeBack_55 rfl ?_
    refine g_aload_n (q := 59) dX2_takeBack_58 rfl rfl ?_
    refine f2_0 (q := 62) wd_215 dX2_takeBack_59 rfl ?_
    refine g_iload_n (q := 63) dX2_takeBack_62 rfl rfl ?_
    refine g_iconst (q := 64) dX2_takeBack_63 ci_2 rfl ?_
    refine g_iadd (q := 65) dX2_takeBack_64 rfl ?_
    refine g_aload_n (q := 66) dX2_takeBack_65 rfl rfl ?_
    refine f1_13 (q := 69) rfl wd_177 dX2_takeBack_66 rfl ?_
    refine g_iconst (q := 70) dX2_takeBack_69 ci_0 rfl ?_
    refine g_bipush (q := 72) dX2_takeBack_70 cb_6 rfl ?_
    refine g_copy (q := 75) (k0 := 15) (k1 := (7 + 6)) (by decide) (by decide) rfl (Nat.zero_le _) (h_arr rfl (by decide : 1 ≤ 6) (by decide)).2.2 (h_arr rfl (by decide : 1 ≤ 6) (by decide)).1 wd_470 wd_354 wd_353 wd_79 (by rw [t2]; exact nI_pos (by omega)) (by decide) (by decide) (by rw [t2, nI_clamp (by omega)]; show _ + 6 ≤ 312; omega) (by decide) (Nat.le_of_ble_eq_true rfl) (Nat.le_of_ble_eq_true rfl) dX2_takeBack_72 rfl ?_
    refine g_aload_n (q := 76) dX2_takeBack_75 rfl rfl ?_
    refine f2_0 (q := 79) wd_215 dX2_takeBack_76 rfl ?_
    refine g_iload_n (q := 80) dX2_takeBack_79 rfl rfl ?_
    refine g_bipush (q := 82) dX2_takeBack_80 cb_8 rfl ?_
    refine g_iadd (q := 83) dX2_takeBack_82 rfl ?_
    refine g_aload_n (q := 84) dX2_takeBack_83 rfl rfl ?_
    refine f1_11 (q := 87) rfl wd_169 dX2_takeBack_84 rfl ?_
    refine g_iconst (q := 88) dX2_takeBack_87 ci_0 rfl ?_
    refine g_iconst (q := 89) dX2_takeBack_88 ci_5 rfl ?_
    refine g_copy (q := 92) (k0 := 15) (k1 := (7 + 4)) (by decide) (by decide) rfl (Nat.zero_le _) (h_arr rfl (by decide : 1 ≤ 4) (by decide)).2.2 (h_arr rfl (by decide : 1 ≤ 4) (by decide)).1 wd_470 wd_354 wd_353 wd_79 (by rw [t8]; exact nI_pos (by omega)) (by decide) (by decide) (by rw [t8, nI_clamp (by omega)]; show _ + 5 ≤ 312; omega) (by decide) (Nat.le_of_ble_eq_true rfl) (Nat.le_of_ble_eq_true rfl) dX2_takeBack_89 rfl ?_
    refine g_eqv (σ' := tb σ) ?_ ?_
    · intro k j hj
      simp only [t0, t1, t2, t8, nI_clamp (show pb (σ 14 1) (σ 14 2 - 1) + 0 < 2 ^ 31 by omega), nI_clamp (show pb (σ 14 1) (σ 14 2 - 1) + 1 < 2 ^ 31 by omega), nI_clamp (show pb (σ 14 1) (σ 14 2 - 1) + 2 < 2 ^ 31 by omega), nI_clamp (show pb (σ 14 1) (σ 14 2 - 1) + 8 < 2 ^ 31 by omega)]
      exact tb_eqv hj
    exact g_vret dX2_takeBack_92 (pv_i (by rfl) rfl)
  · exact absurd c_4 h0
