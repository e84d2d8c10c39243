def s_pw (b : Int64) : Nat → Int64
  | 0 => 1
  | i + 1 => s_pw b i * b
theorem lq_in {e : Int32} {i : Nat} (h : i < e.toNatClampNeg) : ¬ e ≤ nI i := by
  by_cases hn : e < 0
  · have : e.toNatClampNeg = 0 := by
      have h2 : e.toInt < 0 := by simpa [Int32.lt_iff_toInt_lt] using hn
      show e.toInt.toNat = 0
      omega
    omega
  · obtain ⟨e1, h1⟩ := nn_to hn
    rw [e1]
    exact nI_ge h h1
theorem lq_out {e : Int32} : e ≤ nI (e.toNatClampNeg) := by
  by_cases hn : e < 0
  · have : e.toNatClampNeg = 0 := by
      have h2 : e.toInt < 0 := by simpa [Int32.lt_iff_toInt_lt] using hn
      show e.toInt.toNat = 0
      omega
    rw [this]
    exact Int32.le_of_lt hn
  · obtain ⟨e1, h1⟩ := nn_to hn
    rw [← e1]
    exact Int32.le_refl _
theorem lgc0 {x : Int64} : lg_cmp x 0 = 0 ↔ x = 0 := by
  unfold lg_cmp
  constructor
  · intro h
    split at h
    · cases h
    · split at h
      · assumption
      · cases h
  · rintro rfl
    rfl
def s_gcd (a b : Int64) : Nat → Int64
  | 0 => a
  | m + 1 => if b = 0 then a else s_gcd b (a - a / b * b) m
def comm (u l : Int64) : Int64 := if s_gcd l u 64 < 1 then 1 else s_gcd l u 64
theorem comm_ne (u l : Int64) : ¬ comm u l = 0 := by
  unfold comm
  split
  · decide
  · rename_i h
    intro e
    rw [e] at h
    exact h (by decide)
theorem tn_lt (e : Int32) : e.toNatClampNeg < 2 ^ 31 := by
  by_cases hn : e < 0
  · have h2 : e.toInt < 0 := by simpa [Int32.lt_iff_toInt_lt] using hn
    have : e.toNatClampNeg = 0 := by show e.toInt.toNat = 0; omega
    omega
  · exact (nn_to hn).2
set_option maxRecDepth 20000 in
set_option maxHeartbeats 4000000 in
theorem c_X4_power {E : EE} (hE : inj E 0 40) {σ : Sto} {τ : Stl} {b e : Int32}  : Ct E 0 40 yX4_power cX4_power 5 (some FieldType.long) { frames := 0, cells := 0, slots := 0, locals := 0 } [.int b, .int e] σ τ (Pl (s_pw b.toInt64 (e.toNatClampNeg)) (σ) (τ)) := by
  refine ct_of hE RX4 [some (.int b), some (.int e), none, none, none] (by decide) rfl (Nat.le_of_ble_eq_true rfl) rfl (fun X => ?_)
  refine g_lconst (q := 1) dX4_power_0 cl_1 rfl ?_
  refine g_lstore_n (j := 2) (q := 2) dX4_power_1 rfl (by decide) rfl rfl ?_
  refine g_iconst (q := 3) dX4_power_2 ci_0 rfl ?_
  refine g_istore (q := 5) dX4_power_3 (by decide) rfl rfl ?_
  refine g_for (I := fun i => [some (.int b), some (.int e), some (.long (s_pw b.toInt64 i)), none, some (.int (nI i))]) (S := fun i => σ) (T := fun i => τ) (0) (e.toNatClampNeg) (Nat.zero_le _) (by rfl) (by rfl) (by rfl) (fun i i0 i1 kk_i => ?_) ?_
  · have hci : (nI i).toNatClampNeg = i := nI_clamp (by (have := tn_lt e; omega))
    refine g_iload (q := 7) dX4_power_5 rfl rfl ?_
    refine g_iload_n (q := 8) dX4_power_7 rfl rfl ?_
    refine g_icmp_ge (t := 22) (q := 11) dX4_power_8 (by decide) rfl (fun c_8 => ?_) (fun c_8 => ?_)
    · exact absurd c_8 (lq_in i1)
    · refine g_lload_n (q := 12) dX4_power_11 rfl rfl ?_
      refine g_iload_n (q := 13) dX4_power_12 rfl rfl ?_
      refine g_i2l (q := 14) dX4_power_13 rfl ?_
      refine g_lmul (q := 15) dX4_power_14 rfl ?_
      refine g_lstore_n (j := 2) (q := 16) dX4_power_15 rfl (by decide) rfl rfl ?_
      refine g_iinc (q := 19) dX4_power_16 rfl ci_1 (by decide) rfl rfl ?_
      refine g_goto (t := 5) dX4_power_19 (by decide) ?_
      exact g_eqw kk_i (by simp [lsub, s_pw, hci, nI_succ]) (by rfl) rfl
  · refine g_iload (q := 7) dX4_power_5 rfl rfl ?_
    refine g_iload_n (q := 8) dX4_power_7 rfl rfl ?_
    refine g_icmp_ge (t := 22) (q := 11) dX4_power_8 (by decide) rfl (fun c_8 => ?_) (fun c_8 => ?_)
    · refine g_lload_n (q := 23) dX4_power_22 rfl rfl ?_
      exact g_lret dX4_power_23 (pl_i (by first | rfl | assumption) (by rfl) rfl)
    · exact absurd lq_out c_8
set_option maxRecDepth 20000 in
set_option maxHeartbeats 4000000 in
theorem c_X4_divisorOfBoth {E : EE} (hE : inj E 0 40) {σ : Sto} {τ : Stl} {a b : Int64}  : Ct E 0 40 yX4_divisorOfBoth cX4_divisorOfBoth 11 (some FieldType.long) { frames := 0, cells := 0, slots := 0, locals := 0 } [.long a, .long b] σ τ (Pl (s_gcd a b 64) (σ) (τ)) := by
  refine ct_of hE RX4 [some (.long a), none, some (.long b), none, none, none, none, none, none, none, none] (by decide) rfl (Nat.le_of_ble_eq_true rfl) rfl (fun X => ?_)
  refine g_lload_n (q := 1) dX4_divisorOfBoth_0 rfl rfl ?_
  refine g_lstore (q := 3) dX4_divisorOfBoth_1 (by decide) rfl rfl ?_
  refine g_lload_n (q := 4) dX4_divisorOfBoth_3 rfl rfl ?_
  refine g_lstore (q := 6) dX4_divisorOfBoth_4 (by decide) rfl rfl ?_
  refine g_iconst (q := 7) dX4_divisorOfBoth_6 ci_0 rfl ?_
  refine g_istore (q := 9) dX4_divisorOfBoth_7 (by decide) rfl rfl ?_
  have key : ∀ m i x y, i + m = 64 → s_gcd x y m = s_gcd a b 64 → G E 0 40 { frames := 0, cells := 0, slots := 0, locals := 0 } X cX4_divisorOfBoth RX4 11 (some FieldType.long) (Pl (s_gcd a b 64) σ τ) 9 [some (.long a), none, some (.long b), none, some (.long x), none, some (.long y), none, some (.int (nI i)), none, none] [] (σ) τ := by
    intro m
    induction m with
    | zero =>
      intro i x y hi hr
      refine g_iload (q := 11) dX4_divisorOfBoth_9 rfl rfl ?_
      refine g_bipush (q := 13) dX4_divisorOfBoth_11 cb_64 rfl ?_
      refine g_icmp_ge (t := 44) (q := 16) dX4_divisorOfBoth_13 (by decide) rfl (fun c_13 => ?_) (fun c_13 => ?_)
      · refine g_lload (q := 46) dX4_divisorOfBoth_44 rfl rfl ?_
        exact g_lret dX4_divisorOfBoth_46 (pl_i (by exact hr) (by rfl) rfl)
      · exact absurd (by rw [show i = 64 by omega]; exact lp_out (N := 64) rfl) c_13
    | succ m ih =>
      intro i x y hi hr
      refine g_iload (q := 11) dX4_divisorOfBoth_9 rfl rfl ?_
      refine g_bipush (q := 13) dX4_divisorOfBoth_11 cb_64 rfl ?_
      refine g_icmp_ge (t := 44) (q := 16) dX4_divisorOfBoth_13 (by decide) rfl (fun c_13 => ?_) (fun c_13 => ?_)
      · exact absurd c_13 (lp_in (N := 64) rfl (by decide) (by omega))
      · refine g_lload (q := 18) dX4_divisorOfBoth_16 rfl rfl ?_
        refine g_lconst (q := 19) dX4_divisorOfBoth_18 cl_0 rfl ?_
        refine g_lcmp (q := 20) dX4_divisorOfBoth_19 rfl ?_
        refine g_if_eq (t := 44) (q := 23) dX4_divisorOfBoth_20 (by decide) rfl (fun c_20 => ?_) (fun c_20 => ?_)
        · rw [lgc0] at c_20
          refine g_lload (q := 46) dX4_divisorOfBoth_44 rfl rfl ?_
          exact g_lret dX4_divisorOfBoth_46 (pl_i (by rw [← hr]; simp only [s_gcd]; rw [if_pos c_20]) (by rfl) rfl)
        · rw [lgc0] at c_20
          refine g_lload (q := 25) dX4_divisorOfBoth_23 rfl rfl ?_
          refine g_lload (q := 27) dX4_divisorOfBoth_25 rfl rfl ?_
          refine g_lrem (q := 28) dX4_divisorOfBoth_27 c_20 rfl ?_
          refine g_lstore (q := 30) dX4_divisorOfBoth_28 (by decide) rfl rfl ?_
          refine g_lload (q := 32) dX4_divisorOfBoth_30 rfl rfl ?_
          refine g_lstore (q := 34) dX4_divisorOfBoth_32 (by decide) rfl rfl ?_
          refine g_lload (q := 36) dX4_divisorOfBoth_34 rfl rfl ?_
          refine g_lstore (q := 38) dX4_divisorOfBoth_36 (by decide) rfl rfl ?_
          refine g_iinc (q := 41) dX4_divisorOfBoth_38 rfl ci_1 (by decide) rfl rfl ?_
          refine g_goto (t := 9) dX4_divisorOfBoth_41 (by decide) ?_
          exact g_eqw (ih (i + 1) y (x - x / y * y) (by omega) (by rw [← hr]; simp only [s_gcd]; rw [if_neg c_20])) (by simp [lsub, nI_succ]) rfl rfl
  exact g_eqw (key 64 0 a b (by omega) rfl) (by simp [lsub, nI_0]) rfl rfl
set_option maxRecDepth 20000 in
set_option maxHeartbeats 4000000 in
theorem c_X4_tellFraction {E : EE} (hE : inj E 0 40) {σ : Sto} {τ : Stl} {u l : Int64}  : Ct E 0 40 yX4_tellFraction cX4_tellFraction 7 none { frames := 1, cells := 0, slots := 0, locals := 30 } [.ref (E.2.1 16), .long u, .long l] σ τ (Pv (σ) (vp_updL (vp_updL τ 0 (u / comm u l)) 1 (l / comm u l))) := by
  refine ct_of hE RX4 [some (.ref (E.2.1 16)), some (.long u), none, some (.long l), none, none, none] (by decide) rfl (Nat.le_of_ble_eq_true rfl) rfl (fun X => ?_)
  refine g_lconst (q := 1) dX4_tellFraction_0 cl_1 rfl ?_
  refine g_lload_n (q := 2) dX4_tellFraction_1 rfl rfl ?_
  refine g_lload_n (q := 3) dX4_tellFraction_2 rfl rfl ?_
  refine g_callSl (q := 6) (c_X4_divisorOfBoth hE ) lk_RX4_123 rfl rfl rfl rfl (Nat.le_of_ble_eq_true rfl) (Nat.le_of_ble_eq_true rfl) (Nat.le_of_ble_eq_true rfl) dX4_tellFraction_3 rfl ?_
  refine g_mmaxL (q := 9) wd_731 wd_732 wd_80 wd_733 (Nat.le_of_ble_eq_true rfl) (Nat.le_of_ble_eq_true rfl) dX4_tellFraction_6 rfl ?_
  refine g_lstore (q := 11) dX4_tellFraction_9 (by decide) rfl rfl ?_
  refine g_aload_n (q := 12) dX4_tellFraction_11 rfl rfl ?_
  refine g_lload_n (q := 13) dX4_tellFraction_12 rfl rfl ?_
  refine g_lload (q := 15) dX4_tellFraction_13 rfl rfl ?_
  refine g_ldiv (q := 16) dX4_tellFraction_15 (comm_ne u l) rfl ?_
  refine p4_3 (q := 19) wd_238 dX4_tellFraction_16 rfl ?_
  refine g_aload_n (q := 20) dX4_tellFraction_19 rfl rfl ?_
  refine g_lload_n (q := 21) dX4_tellFraction_20 rfl rfl ?_
  refine g_lload (q := 23) dX4_tellFraction_21 rfl rfl ?_
  refine g_ldiv (q := 24) dX4_tellFraction_23 (comm_ne u l) rfl ?_
  refine p4_4 (q := 27) wd_240 dX4_tellFraction_24 rfl ?_
  exact g_vret dX4_tellFraction_27 (pv_i (by rfl) rfl)
def oddsT (v : Sto) (c : Nat → Int32) (r p : Int32) (j : Nat) : Int64 := s_pw p.toInt64 ((s_bc (nI j)).toNatClampNeg) * s_pw (10 - p).toInt64 ((s_bc (v 0 6) - s_bc (nI j)).toNatClampNeg)
def s_od (v : Sto) (c : Nat → Int32) (r p : Int32) : Nat → Int64
  | 0 => 0
  | j + 1 => if nI j &&& (v 0 6 ^^^ (-1)) = 0 then (if hcs (vDoors v (nI j)) c 1 (r.toNatClampNeg) ≤ v 0 3 then s_od v c r p j else s_od v c r p j + oddsT v c r p j) else s_od v c r p j
set_option maxRecDepth 20000 in
set_option maxHeartbeats 4000000 in
theorem c_X4_findOdds {E : EE} (hE : inj E 0 40) {σ : Sto} {τ : Stl} {r p : Int32} (w : WFH σ 7) (hr : vp_in r 6) : Ct E 0 40 yX4_findOdds cX4_findOdds 10 none { frames := 4, cells := 0, slots := 0, locals := 97 } [.ref (E.2.1 16), .ref (E.2.1 7), .int r, .int p] σ τ (PvP (fun σ' τ' => frT σ σ' ∧ τ' = vp_updL (vp_updL τ 0 ((s_od (vw σ 7) (σ (7 + 6)) r p (2 ^ (σ 7 5).toNatClampNeg)) / comm (s_od (vw σ 7) (σ (7 + 6)) r p (2 ^ (σ 7 5).toNatClampNeg)) (s_pw 10 ((s_bc (σ 7 6)).toNatClampNeg)))) 1 ((s_pw 10 ((s_bc (σ 7 6)).toNatClampNeg)) / comm (s_od (vw σ 7) (σ (7 + 6)) r p (2 ^ (σ 7 5).toNatClampNeg)) (s_pw 10 ((s_bc (σ 7 6)).toNatClampNeg))))) := by
  refine ct_of hE RX4 [some (.ref (E.2.1 16)), some (.ref (E.2.1 7)), some (.int r), some (.int p), none, none, none, none, none, none] (by decide) rfl (Nat.le_of_ble_eq_true rfl) rfl (fun X => ?_)
  obtain ⟨⟨e0, b0⟩, ⟨e5, b5⟩, ⟨e7, b7⟩⟩ := wf_n w
  have hp8 := pw_le b5
  have hsh := sh1 b5
  rw [← e5] at hsh
  refine g_aload_n (q := 1) dX4_findOdds_0 rfl rfl ?_
  refine f1_6 (q := 4) rfl wd_156 dX4_findOdds_1 rfl ?_
  refine g_callSi (q := 7) (c_J6_bitCount_0f7a4 hE ) lk_RX4_48 rfl rfl rfl rfl (Nat.le_of_ble_eq_true rfl) (Nat.le_of_ble_eq_true rfl) (Nat.le_of_ble_eq_true rfl) dX4_findOdds_4 rfl ?_
  refine g_istore (q := 9) dX4_findOdds_7 (by decide) rfl rfl ?_
  refine g_iconst (q := 10) dX4_findOdds_9 ci_1 rfl ?_
  refine g_aload_n (q := 11) dX4_findOdds_10 rfl rfl ?_
  refine f1_5 (q := 14) rfl wd_151 dX4_findOdds_11 rfl ?_
  refine g_ishl (q := 15) dX4_findOdds_14 rfl ?_
  refine g_st (stk' := [.int (nI (2 ^ (σ 7 5).toNatClampNeg))]) (by rw [hsh]) ?_
  refine g_istore (q := 17) dX4_findOdds_15 (by decide) rfl rfl ?_
  refine g_lconst (q := 18) dX4_findOdds_17 cl_0 rfl ?_
  refine g_lstore (q := 20) dX4_findOdds_18 (by decide) rfl rfl ?_
  refine g_iconst (q := 21) dX4_findOdds_20 ci_0 rfl ?_
  refine g_istore (q := 23) dX4_findOdds_21 (by decide) rfl rfl ?_
  refine g_loop (I := fun i => [some (.ref (E.2.1 16)), some (.ref (E.2.1 7)), some (.int r), some (.int p), some (.int (s_bc (σ 7 6))), some (.int (nI (2 ^ (σ 7 5).toNatClampNeg))), some (.long (s_od (vw σ 7) (σ (7 + 6)) r p i)), none, some (.int (nI i)), none]) (J := fun i σ' τ' => frT σ σ' ∧ τ' = τ) (0) (2 ^ (σ 7 5).toNatClampNeg) (Nat.zero_le _) (by simp [lsub, s_od, nI_0]) (⟨frT_rf σ, rfl⟩) (fun i σi τi i0 i1 hJ_i kk_i => ?_) (fun σi τi hJ_i => ?_)
  · have hci : (nI i).toNatClampNeg = i := nI_clamp (by omega)
    obtain ⟨hf, ht⟩ := hJ_i
    refine g_iload (q := 25) dX4_findOdds_23 rfl rfl ?_
    refine g_iload (q := 27) dX4_findOdds_25 rfl rfl ?_
    refine g_icmp_ge (t := 109) (q := 30) dX4_findOdds_27 (by decide) rfl (fun c_27 => ?_) (fun c_27 => ?_)
    · exact absurd c_27 (lp_in (by rfl) (by omega) i1)
    · refine g_iload (q := 32) dX4_findOdds_30 rfl rfl ?_
      refine g_aload_n (q := 33) dX4_findOdds_32 rfl rfl ?_
      refine f1_6 (q := 36) rfl wd_156 dX4_findOdds_33 rfl ?_
      refine g_iconst (q := 37) dX4_findOdds_36 ci_m1 rfl ?_
      refine g_ixor (q := 38) dX4_findOdds_37 rfl ?_
      refine g_iand (q := 39) dX4_findOdds_38 rfl ?_
      refine g_if_eq (t := 45) (q := 42) dX4_findOdds_39 (by decide) rfl (fun c_39 => ?_) (fun c_39 => ?_)
      · rw [hf 7 (by omega)] at c_39
        refine g_aload_n (q := 46) dX4_findOdds_45 rfl rfl ?_
        refine g_aload_n (q := 47) dX4_findOdds_46 rfl rfl ?_
        refine g_iload (q := 49) dX4_findOdds_47 rfl rfl ?_
        refine g_iconst (q := 50) dX4_findOdds_49 ci_1 rfl ?_
        refine g_callVvp (q := 53) (c_X4_lookWithMoved hE w (frS_T (frS_rf σ) hf) (by decide)) lk_RX4_54 (by decide) (by decide) rfl (by decide) rfl rfl rfl rfl rfl rfl (Nat.le_of_ble_eq_true rfl) (Nat.le_of_ble_eq_true rfl) (Nat.le_of_ble_eq_true rfl) dX4_findOdds_50 rfl (fun σ_50 τ_50 hp_50 => ?_)
        obtain ⟨hf2, hT, ht2⟩ := hp_50
        refine g_aload_n (q := 54) dX4_findOdds_53 rfl rfl ?_
        refine f4_0 (q := 57) wd_234 dX4_findOdds_54 rfl ?_
        refine f1_13 (q := 60) rfl wd_178 dX4_findOdds_57 rfl ?_
        refine g_iload_n (q := 61) dX4_findOdds_60 rfl rfl ?_
        refine g_aldH (q := 62) (c := 6) rfl (by decide) (by decide) (show vp_in _ 6 by exact hr) dX4_findOdds_61 rfl ?_
        refine g_aload_n (q := 63) dX4_findOdds_62 rfl rfl ?_
        refine f4_0 (q := 66) wd_234 dX4_findOdds_63 rfl ?_
        refine f1_3 (q := 69) rfl wd_146 dX4_findOdds_66 rfl ?_
        refine g_icmp_le (t := 103) (q := 72) dX4_findOdds_69 (by decide) rfl (fun c_69 => ?_) (fun c_69 => ?_)
        · rw [hT.2.2, hT.1 3 (by decide)] at c_69
          refine g_iinc (q := 106) dX4_findOdds_103 rfl ci_1 (by decide) rfl rfl ?_
          refine g_goto (t := 23) dX4_findOdds_106 (by decide) ?_
          have hs : s_od (vw σ 7) (σ (7 + 6)) r p (i + 1) = s_od (vw σ 7) (σ (7 + 6)) r p i := (if_pos c_39).trans (if_pos c_69)
          exact g_eqw (kk_i _ _ (⟨frT_tr hf hf2, by rw [ht2, ht]⟩)) (by simp [lsub, hci, nI_succ, hs, oddsT, show vw σ 7 0 6 = σ 7 6 from rfl, c_39, c_69]) rfl rfl
        · rw [hT.2.2, hT.1 3 (by decide)] at c_69
          refine g_iload (q := 74) dX4_findOdds_72 rfl rfl ?_
          refine g_callSi (q := 77) (c_J6_bitCount_0f7a4 hE ) lk_RX4_48 rfl rfl rfl rfl (Nat.le_of_ble_eq_true rfl) (Nat.le_of_ble_eq_true rfl) (Nat.le_of_ble_eq_true rfl) dX4_findOdds_74 rfl ?_
          refine g_istore (q := 79) dX4_findOdds_77 (by decide) rfl rfl ?_
          refine g_lload (q := 81) dX4_findOdds_79 rfl rfl ?_
          refine g_iload_n (q := 82) dX4_findOdds_81 rfl rfl ?_
          refine g_iload (q := 84) dX4_findOdds_82 rfl rfl ?_
          refine g_callSl (q := 87) (c_X4_power hE ) lk_RX4_115 rfl rfl rfl rfl (Nat.le_of_ble_eq_true rfl) (Nat.le_of_ble_eq_true rfl) (Nat.le_of_ble_eq_true rfl) dX4_findOdds_84 rfl ?_
          refine g_bipush (q := 89) dX4_findOdds_87 cb_10 rfl ?_
          refine g_iload_n (q := 90) dX4_findOdds_89 rfl rfl ?_
          refine g_isub (q := 91) dX4_findOdds_90 rfl ?_
          refine g_iload (q := 93) dX4_findOdds_91 rfl rfl ?_
          refine g_iload (q := 95) dX4_findOdds_93 rfl rfl ?_
          refine g_isub (q := 96) dX4_findOdds_95 rfl ?_
          refine g_callSl (q := 99) (c_X4_power hE ) lk_RX4_115 rfl rfl rfl rfl (Nat.le_of_ble_eq_true rfl) (Nat.le_of_ble_eq_true rfl) (Nat.le_of_ble_eq_true rfl) dX4_findOdds_96 rfl ?_
          refine g_lmul (q := 100) dX4_findOdds_99 rfl ?_
          refine g_ladd (q := 101) dX4_findOdds_100 rfl ?_
          refine g_lstore (q := 103) dX4_findOdds_101 (by decide) rfl rfl ?_
          refine g_iinc (q := 106) dX4_findOdds_103 rfl ci_1 (by decide) rfl rfl ?_
          refine g_goto (t := 23) dX4_findOdds_106 (by decide) ?_
          have hs : s_od (vw σ 7) (σ (7 + 6)) r p (i + 1) = s_od (vw σ 7) (σ (7 + 6)) r p i + oddsT (vw σ 7) (σ (7 + 6)) r p i := (if_pos c_39).trans (if_neg c_69)
          exact g_eqw (kk_i _ _ (⟨frT_tr hf hf2, by rw [ht2, ht]⟩)) (by simp [lsub, hci, nI_succ, hs, oddsT, show vw σ 7 0 6 = σ 7 6 from rfl, c_39, c_69]) rfl rfl
      · rw [hf 7 (by omega)] at c_39
        refine g_goto (t := 103) dX4_findOdds_42 (by decide) ?_
        refine g_iinc (q := 106) dX4_findOdds_103 rfl ci_1 (by decide) rfl rfl ?_
        refine g_goto (t := 23) dX4_findOdds_106 (by decide) ?_
        have hs : s_od (vw σ 7) (σ (7 + 6)) r p (i + 1) = s_od (vw σ 7) (σ (7 + 6)) r p i := if_neg c_39
        exact g_eqw (kk_i _ _ (⟨hf, ht⟩)) (by simp [lsub, hci, nI_succ, hs, oddsT, show vw σ 7 0 6 = σ 7 6 from rfl, c_39]) rfl rfl
  · obtain ⟨hf, ht⟩ := hJ_i
    refine g_iload (q := 25) dX4_findOdds_23 rfl rfl ?_
    refine g_iload (q := 27) dX4_findOdds_25 rfl rfl ?_
    refine g_icmp_ge (t := 109) (q := 30) dX4_findOdds_27 (by decide) rfl (fun c_27 => ?_) (fun c_27 => ?_)
    · refine g_aload_n (q := 110) dX4_findOdds_109 rfl rfl ?_
      refine g_lload (q := 112) dX4_findOdds_110 rfl rfl ?_
      refine g_bipush (q := 114) dX4_findOdds_112 cb_10 rfl ?_
      refine g_iload (q := 116) dX4_findOdds_114 rfl rfl ?_
      refine g_callSl (q := 119) (c_X4_power hE ) lk_RX4_115 rfl rfl rfl rfl (Nat.le_of_ble_eq_true rfl) (Nat.le_of_ble_eq_true rfl) (Nat.le_of_ble_eq_true rfl) dX4_findOdds_116 rfl ?_
      refine g_callVv (q := 122) (c_X4_tellFraction hE ) lk_RX4_119 (by decide) (by decide) rfl (by decide) rfl rfl rfl rfl rfl rfl (Nat.le_of_ble_eq_true rfl) (Nat.le_of_ble_eq_true rfl) (Nat.le_of_ble_eq_true rfl) dX4_findOdds_119 rfl ?_
      refine g_vret dX4_findOdds_122 ⟨rfl, ?_⟩
      exact ⟨hf, by rw [ht]; rfl⟩
    · exact absurd (lp_out (by rfl)) c_27
def lcgN (x : Int64) : Int64 := x * 16807 - x * 16807 / 2147483647 * 2147483647
def drV (v : Sto) (x : Int64) : Sto := if v 0 5 ≤ 0 then v else vDoors v (1 <<< ((x - x / (v 0 5).toInt64 * (v 0 5).toInt64).toInt32 &&& 31))
def dr (v : Sto) (c : Nat → Int32) (x : Int64) : Nat → Sto × (Nat → Int32) × Int64 × Int32
  | 0 => (v, c, x, 0)
  | h + 1 =>
    let q := dr v c x h
    let x2 := lcgN q.2.2.1
    let v2 := drV q.1 x2
    let c2 := HC v2 q.2.1
    (v2, c2, x2, if fsV v2 c2 = -1 then q.2.2.2 else q.2.2.2 + 1)
theorem wfv_dr {v : Sto} (w : WFV v) (c : Nat → Int32) (x : Int64) (h : Nat) : WFV (dr v c x h).1 := by
  induction h with
  | zero => exact w
  | succ h ih =>
    simp only [dr, drV]
    split
    · exact ih
    · exact wfv_mv ih _
theorem drV_5 (v : Sto) (x : Int64) : drV v x 0 5 = v 0 5 := by
  unfold drV
  split
  · rfl
  · rfl
theorem i2l_ne {x : Int32} (h : ¬ x ≤ 0) : ¬ x.toInt64 = 0 := by
  intro e
  apply h
  have : x.toInt64.toInt = 0 := by rw [e]; rfl
  rw [Int32.toInt_toInt64] at this
  rw [Int32.le_iff_toInt_le, this]
  decide
set_option maxRecDepth 20000 in
set_option maxHeartbeats 4000000 in
theorem c_X4_drawHours {E : EE} (hE : inj E 0 40) {σ : Sto} {τ : Stl} {n sd : Int32} (w : WFH σ 7) (hn : ¬ n < 0) : Ct E 0 40 yX4_drawHours cX4_drawHours 8 none { frames := 4, cells := 0, slots := 0, locals := 94 } [.ref (E.2.1 16), .ref (E.2.1 7), .int n, .int sd] σ τ (PvP (fun σ' τ' => frS σ σ' ∧ σ' 16 1 = s_ac (dr (vw σ 7) (σ (7 + 6)) sd.toInt64 (n.toNatClampNeg)).2.1 (((dr (vw σ 7) (σ (7 + 6)) sd.toInt64 (n.toNatClampNeg)).1 0 0).toNatClampNeg) ∧ σ' 16 2 = (dr (vw σ 7) (σ (7 + 6)) sd.toInt64 (n.toNatClampNeg)).2.2.2 ∧ τ' = τ)) := by
  refine ct_of hE RX4 [some (.ref (E.2.1 16)), some (.ref (E.2.1 7)), some (.int n), some (.int sd), none, none, none, none] (by decide) rfl (Nat.le_of_ble_eq_true rfl) rfl (fun X => ?_)
  obtain ⟨en, bn⟩ := nn_to hn
  refine g_aload_n (q := 1) dX4_drawHours_0 rfl rfl ?_
  refine f4_0 (q := 4) wd_234 dX4_drawHours_1 rfl ?_
  refine g_aload_n (q := 5) dX4_drawHours_4 rfl rfl ?_
  refine g_callVv (q := 8) (c_X1_become hE rfl rfl (by decide)) lk_RX4_25 (Nat.zero_le _) (h_lt rfl) rfl (by decide) rfl rfl rfl rfl rfl rfl (Nat.le_of_ble_eq_true rfl) (Nat.le_of_ble_eq_true rfl) (Nat.le_of_ble_eq_true rfl) dX4_drawHours_5 rfl ?_
  refine g_iload_n (q := 9) dX4_drawHours_8 rfl rfl ?_
  refine g_i2l (q := 10) dX4_drawHours_9 rfl ?_
  refine g_lstore (q := 12) dX4_drawHours_10 (by decide) rfl rfl ?_
  refine g_iconst (q := 13) dX4_drawHours_12 ci_0 rfl ?_
  refine g_istore (q := 15) dX4_drawHours_13 (by decide) rfl rfl ?_
  refine g_iconst (q := 16) dX4_drawHours_15 ci_0 rfl ?_
  refine g_istore (q := 18) dX4_drawHours_16 (by decide) rfl rfl ?_
  refine g_loop (I := fun h => [some (.ref (E.2.1 16)), some (.ref (E.2.1 7)), some (.int n), some (.int sd), some (.long (dr (vw σ 7) (σ (7 + 6)) sd.toInt64 h).2.2.1), none, some (.int (dr (vw σ 7) (σ (7 + 6)) sd.toInt64 h).2.2.2), some (.int (nI h))]) (J := fun h σ' τ' => frT σ σ' ∧ TV σ' (dr (vw σ 7) (σ (7 + 6)) sd.toInt64 h).1 (dr (vw σ 7) (σ (7 + 6)) sd.toInt64 h).2.1 ∧ τ' = τ) (0) (n.toNatClampNeg) (Nat.zero_le _) (by simp [lsub, dr, nI_0]) (⟨fr_bec σ 7, TV_bec2 (frS_rf σ), rfl⟩) (fun h σh τh h0 h1 hJ_h kk_h => ?_) (fun σh τh hJ_h => ?_)
  · have hch : (nI h).toNatClampNeg = h := nI_clamp (by omega)
    obtain ⟨hf, hT, ht⟩ := hJ_h
    refine g_iload (q := 20) dX4_drawHours_18 rfl rfl ?_
    refine g_iload_n (q := 21) dX4_drawHours_20 rfl rfl ?_
    refine g_icmp_ge (t := 94) (q := 24) dX4_drawHours_21 (by decide) rfl (fun c_21 => ?_) (fun c_21 => ?_)
    · exact absurd c_21 (lp_in (by exact en) (by omega) h1)
    · refine g_lload (q := 26) dX4_drawHours_24 rfl rfl ?_
      refine g_ldc2 (q := 29) dX4_drawHours_26 wd_743 rfl ?_
      refine g_lmul (q := 30) dX4_drawHours_29 rfl ?_
      refine g_ldc2 (q := 33) dX4_drawHours_30 wd_744 rfl ?_
      refine g_lrem (q := 34) dX4_drawHours_33 (by decide) rfl ?_
      refine g_lstore (q := 36) dX4_drawHours_34 (by decide) rfl rfl ?_
      refine g_aload_n (q := 37) dX4_drawHours_36 rfl rfl ?_
      refine f4_0 (q := 40) wd_234 dX4_drawHours_37 rfl ?_
      refine f1_5 (q := 43) rfl wd_151 dX4_drawHours_40 rfl ?_
      refine g_if_le (t := 67) (q := 46) dX4_drawHours_43 (by decide) rfl (fun c_43 => ?_) (fun c_43 => ?_)
      · rw [hT.1 5 (by decide)] at c_43
        have hV : drV (dr (vw σ 7) (σ (7 + 6)) sd.toInt64 h).1 (lcgN (dr (vw σ 7) (σ (7 + 6)) sd.toInt64 h).2.2.1) = (dr (vw σ 7) (σ (7 + 6)) sd.toInt64 h).1 := if_pos c_43
        have hT2 := hT
        rw [← hV] at hT2
        have hf2 := hf
        have hW2 : WFV (drV (dr (vw σ 7) (σ (7 + 6)) sd.toInt64 h).1 (lcgN (dr (vw σ 7) (σ (7 + 6)) sd.toInt64 h).2.2.1)) := wfv_dr (wfv_of w) (σ (7 + 6)) sd.toInt64 (h + 1)
        refine g_aload_n (q := 68) dX4_drawHours_67 rfl rfl ?_
        refine f4_0 (q := 71) wd_234 dX4_drawHours_68 rfl ?_
        refine g_callVv (q := 74) (c_X1_passHour hE rfl (WF_TV hW2 hT2)) lk_RX4_42 (Nat.zero_le _) (h_lt rfl) rfl (by decide) rfl rfl rfl rfl rfl rfl (Nat.le_of_ble_eq_true rfl) (Nat.le_of_ble_eq_true rfl) (Nat.le_of_ble_eq_true rfl) dX4_drawHours_71 rfl ?_
        refine g_aload_n (q := 75) dX4_drawHours_74 rfl rfl ?_
        refine f4_0 (q := 78) wd_234 dX4_drawHours_75 rfl ?_
        refine g_callVi (q := 81) (c_X1_firstShivering hE rfl (WF_TV hW2 (TV_hrs hT2 1))) lk_RX4_38 (Nat.zero_le _) (h_lt rfl) rfl (by decide) rfl rfl rfl rfl rfl rfl (Nat.le_of_ble_eq_true rfl) (Nat.le_of_ble_eq_true rfl) (Nat.le_of_ble_eq_true rfl) dX4_drawHours_78 rfl ?_
        refine g_iconst (q := 82) dX4_drawHours_81 ci_m1 rfl ?_
        refine g_icmp_eq (t := 88) (q := 85) dX4_drawHours_82 (by decide) rfl (fun c_82 => ?_) (fun c_82 => ?_)
        · rw [fs_TV (TV_hrs hT2 1)] at c_82
          refine g_iinc (q := 91) dX4_drawHours_88 rfl ci_1 (by decide) rfl rfl ?_
          refine g_goto (t := 18) dX4_drawHours_91 (by decide) ?_
          have hs : (dr (vw σ 7) (σ (7 + 6)) sd.toInt64 (h + 1)).2.2.2 = (dr (vw σ 7) (σ (7 + 6)) sd.toInt64 h).2.2.2 := if_pos c_82
          have hx : (dr (vw σ 7) (σ (7 + 6)) sd.toInt64 (h + 1)).2.2.1 = lcgN (dr (vw σ 7) (σ (7 + 6)) sd.toInt64 h).2.2.1 := rfl
          exact g_eqw (kk_h _ _ (⟨frT_tr hf2 (fr_hrs _ _), TV_hrs hT2 1, ht⟩)) (by simp [lsub, hch, nI_succ, hs, hx, lcgN, c_43, c_82]) rfl rfl
        · rw [fs_TV (TV_hrs hT2 1)] at c_82
          refine g_iinc (q := 88) dX4_drawHours_85 rfl ci_1 (by decide) rfl rfl ?_
          refine g_iinc (q := 91) dX4_drawHours_88 rfl ci_1 (by decide) rfl rfl ?_
          refine g_goto (t := 18) dX4_drawHours_91 (by decide) ?_
          have hs : (dr (vw σ 7) (σ (7 + 6)) sd.toInt64 (h + 1)).2.2.2 = (dr (vw σ 7) (σ (7 + 6)) sd.toInt64 h).2.2.2 + 1 := if_neg c_82
          have hx : (dr (vw σ 7) (σ (7 + 6)) sd.toInt64 (h + 1)).2.2.1 = lcgN (dr (vw σ 7) (σ (7 + 6)) sd.toInt64 h).2.2.1 := rfl
          exact g_eqw (kk_h _ _ (⟨frT_tr hf2 (fr_hrs _ _), TV_hrs hT2 1, ht⟩)) (by simp [lsub, hch, nI_succ, hs, hx, lcgN, c_43, c_82]) rfl rfl
      · rw [hT.1 5 (by decide)] at c_43
        refine g_aload_n (q := 47) dX4_drawHours_46 rfl rfl ?_
        refine f4_0 (q := 50) wd_234 dX4_drawHours_47 rfl ?_
        refine g_iconst (q := 51) dX4_drawHours_50 ci_1 rfl ?_
        refine g_lload (q := 53) dX4_drawHours_51 rfl rfl ?_
        refine g_aload_n (q := 54) dX4_drawHours_53 rfl rfl ?_
        refine f4_0 (q := 57) wd_234 dX4_drawHours_54 rfl ?_
        refine f1_5 (q := 60) rfl wd_151 dX4_drawHours_57 rfl ?_
        refine g_i2l (q := 61) dX4_drawHours_60 rfl ?_
        refine g_lrem (q := 62) dX4_drawHours_61 (by rw [hT.1 5 (by decide)]; exact i2l_ne c_43) rfl ?_
        refine g_l2i (q := 63) dX4_drawHours_62 rfl ?_
        refine g_ishl (q := 64) dX4_drawHours_63 rfl ?_
        refine g_callVv (q := 67) (c_X1_moveDoors hE rfl) lk_RX4_62 (Nat.zero_le _) (h_lt rfl) rfl (by decide) rfl rfl rfl rfl rfl rfl (Nat.le_of_ble_eq_true rfl) (Nat.le_of_ble_eq_true rfl) (Nat.le_of_ble_eq_true rfl) dX4_drawHours_64 rfl ?_
        have hV : drV (dr (vw σ 7) (σ (7 + 6)) sd.toInt64 h).1 (lcgN (dr (vw σ 7) (σ (7 + 6)) sd.toInt64 h).2.2.1) = vDoors (dr (vw σ 7) (σ (7 + 6)) sd.toInt64 h).1 _ := if_neg c_43
        have hT2 := TV_mv hT (1 <<< (((lcgN (dr (vw σ 7) (σ (7 + 6)) sd.toInt64 h).2.2.1) - (lcgN (dr (vw σ 7) (σ (7 + 6)) sd.toInt64 h).2.2.1) / ((dr (vw σ 7) (σ (7 + 6)) sd.toInt64 h).1 0 5).toInt64 * ((dr (vw σ 7) (σ (7 + 6)) sd.toInt64 h).1 0 5).toInt64).toInt32 &&& 31))
        rw [← hV] at hT2
        refine g_sg (σ' := upc σh 17 (upd (σh 17) 6 (σh 17 6 ^^^ (1 <<< (((lcgN (dr (vw σ 7) (σ (7 + 6)) sd.toInt64 h).2.2.1) - (lcgN (dr (vw σ 7) (σ (7 + 6)) sd.toInt64 h).2.2.1) / ((dr (vw σ 7) (σ (7 + 6)) sd.toInt64 h).1 0 5).toInt64 * ((dr (vw σ 7) (σ (7 + 6)) sd.toInt64 h).1 0 5).toInt64).toInt32 &&& 31))))) (by rw [hT.1 5 (by decide)]; rfl) ?_
        have hf2 := frT_tr hf (fr_upc (f := upd (σh 17) 6 (σh 17 6 ^^^ (1 <<< (((lcgN (dr (vw σ 7) (σ (7 + 6)) sd.toInt64 h).2.2.1) - (lcgN (dr (vw σ 7) (σ (7 + 6)) sd.toInt64 h).2.2.1) / ((dr (vw σ 7) (σ (7 + 6)) sd.toInt64 h).1 0 5).toInt64 * ((dr (vw σ 7) (σ (7 + 6)) sd.toInt64 h).1 0 5).toInt64).toInt32 &&& 31)))) (by decide : 17 ≤ 17 ∧ 17 < 24))
        have hW2 : WFV (drV (dr (vw σ 7) (σ (7 + 6)) sd.toInt64 h).1 (lcgN (dr (vw σ 7) (σ (7 + 6)) sd.toInt64 h).2.2.1)) := wfv_dr (wfv_of w) (σ (7 + 6)) sd.toInt64 (h + 1)
        refine g_aload_n (q := 68) dX4_drawHours_67 rfl rfl ?_
        refine f4_0 (q := 71) wd_234 dX4_drawHours_68 rfl ?_
        refine g_callVv (q := 74) (c_X1_passHour hE rfl (WF_TV hW2 hT2)) lk_RX4_42 (Nat.zero_le _) (h_lt rfl) rfl (by decide) rfl rfl rfl rfl rfl rfl (Nat.le_of_ble_eq_true rfl) (Nat.le_of_ble_eq_true rfl) (Nat.le_of_ble_eq_true rfl) dX4_drawHours_71 rfl ?_
        refine g_aload_n (q := 75) dX4_drawHours_74 rfl rfl ?_
        refine f4_0 (q := 78) wd_234 dX4_drawHours_75 rfl ?_
        refine g_callVi (q := 81) (c_X1_firstShivering hE rfl (WF_TV hW2 (TV_hrs hT2 1))) lk_RX4_38 (Nat.zero_le _) (h_lt rfl) rfl (by decide) rfl rfl rfl rfl rfl rfl (Nat.le_of_ble_eq_true rfl) (Nat.le_of_ble_eq_true rfl) (Nat.le_of_ble_eq_true rfl) dX4_drawHours_78 rfl ?_
        refine g_iconst (q := 82) dX4_drawHours_81 ci_m1 rfl ?_
        refine g_icmp_eq (t := 88) (q := 85) dX4_drawHours_82 (by decide) rfl (fun c_82 => ?_) (fun c_82 => ?_)
        · rw [fs_TV (TV_hrs hT2 1)] at c_82
          refine g_iinc (q := 91) dX4_drawHours_88 rfl ci_1 (by decide) rfl rfl ?_
          refine g_goto (t := 18) dX4_drawHours_91 (by decide) ?_
          have hs : (dr (vw σ 7) (σ (7 + 6)) sd.toInt64 (h + 1)).2.2.2 = (dr (vw σ 7) (σ (7 + 6)) sd.toInt64 h).2.2.2 := if_pos c_82
          have hx : (dr (vw σ 7) (σ (7 + 6)) sd.toInt64 (h + 1)).2.2.1 = lcgN (dr (vw σ 7) (σ (7 + 6)) sd.toInt64 h).2.2.1 := rfl
          exact g_eqw (kk_h _ _ (⟨frT_tr hf2 (fr_hrs _ _), TV_hrs hT2 1, ht⟩)) (by simp [lsub, hch, nI_succ, hs, hx, lcgN, c_43, c_82]) rfl rfl
        · rw [fs_TV (TV_hrs hT2 1)] at c_82
          refine g_iinc (q := 88) dX4_drawHours_85 rfl ci_1 (by decide) rfl rfl ?_
          refine g_iinc (q := 91) dX4_drawHours_88 rfl ci_1 (by decide) rfl rfl ?_
          refine g_goto (t := 18) dX4_drawHours_91 (by decide) ?_
          have hs : (dr (vw σ 7) (σ (7 + 6)) sd.toInt64 (h + 1)).2.2.2 = (dr (vw σ 7) (σ (7 + 6)) sd.toInt64 h).2.2.2 + 1 := if_neg c_82
          have hx : (dr (vw σ 7) (σ (7 + 6)) sd.toInt64 (h + 1)).2.2.1 = lcgN (dr (vw σ 7) (σ (7 + 6)) sd.toInt64 h).2.2.1 := rfl
          exact g_eqw (kk_h _ _ (⟨frT_tr hf2 (fr_hrs _ _), TV_hrs hT2 1, ht⟩)) (by simp [lsub, hch, nI_succ, hs, hx, lcgN, c_43, c_82]) rfl rfl
  · obtain ⟨hf, hT, ht⟩ := hJ_h
    refine g_iload (q := 20) dX4_drawHours_18 rfl rfl ?_
    refine g_iload_n (q := 21) dX4_drawHours_20 rfl rfl ?_
    refine g_icmp_ge (t := 94) (q := 24) dX4_drawHours_21 (by decide) rfl (fun c_21 => ?_) (fun c_21 => ?_)
    · refine g_aload_n (q := 95) dX4_drawHours_94 rfl rfl ?_
      refine g_aload_n (q := 96) dX4_drawHours_95 rfl rfl ?_
      refine f4_0 (q := 99) wd_234 dX4_drawHours_96 rfl ?_
      refine g_callVi (q := 102) (c_X1_allCold hE rfl (WF_TV (wfv_dr (wfv_of w) _ _ _) hT)) lk_RX4_143 (Nat.zero_le _) (h_lt rfl) rfl (by decide) rfl rfl rfl rfl rfl rfl (Nat.le_of_ble_eq_true rfl) (Nat.le_of_ble_eq_true rfl) (Nat.le_of_ble_eq_true rfl) dX4_drawHours_99 rfl ?_
      refine g_iload (q := 104) dX4_drawHours_102 rfl rfl ?_
      refine g_callVv (q := 107) (c_X4_tell hE ) lk_RX4_34 (by decide) (by decide) rfl (by decide) rfl rfl rfl rfl rfl rfl (Nat.le_of_ble_eq_true rfl) (Nat.le_of_ble_eq_true rfl) (Nat.le_of_ble_eq_true rfl) dX4_drawHours_104 rfl ?_
      refine g_vret dX4_drawHours_107 ⟨rfl, ?_⟩
      rw [hT.2.2, hT.1 0 (by decide)]
      exact ⟨frS_16 (frS_T (frS_rf σ) hf) _, by rw [tell_1], by rw [tell_2], ht⟩
    · exact absurd (lp_out (by exact en)) c_21
