/-- the tape: its length L, at most 120, and the place A in it -/
def TOK (σ : Sto) : Prop := ∃ L A : Nat, σ 5 2 = nI L ∧ σ 5 1 = nI A ∧ A ≤ L ∧ L ≤ 120
def failS (σ : Sto) (c : Int32) : Sto := upc σ 5 (upd (upd (σ 5) 3 c) 4 (σ 5 1))
def advS (σ : Sto) (k : Int32) : Sto := upc σ 5 (upd (σ 5) 1 (σ 5 1 + k))
def nxS (σ : Sto) : Int32 := if σ 5 2 ≤ σ 5 1 then -1 else σ 6 ((σ 5 1).toNatClampNeg)
def s_kl (c : Int32) : Int32 := if c = 114 then 1 else if c = 112 then 2 else if c = 116 then 3 else if c = 102 then 4 else if c = 105 then 5 else 0
def s_run (T : Nat → Int32) (p : Nat) : Nat → Nat
  | 0 => 0
  | m + 1 => if T p < 48 then 0 else if 57 < T p then 0 else s_run T (p + 1) m + 1
def figS (σ : Sto) : Nat := s_run (σ 6) ((σ 5 1).toNatClampNeg) ((σ 5 2).toNatClampNeg - (σ 5 1).toNatClampNeg)
def s_val (T : Nat → Int32) (A : Nat) : Nat → Int32
  | 0 => 0
  | f + 1 => s_val T A f * 10 + T (A + f) - 48
def valS (σ : Sto) : Int32 := s_val (σ 6) ((σ 5 1).toNatClampNeg) (figS σ)
def s_sign (σ : Sto) (c : Int32) : Bool × Sto := if nxS σ = c then (true, advS σ 1) else (false, failS σ 1)
def s_num (σ : Sto) (lo hi : Int32) : Int32 × Sto := if figS σ = 0 ∨ 2 < figS σ then (-1, failS σ 1) else if valS σ < lo ∨ hi < valS σ then (-1, failS σ 2) else (valS σ, advS σ (nI (figS σ)))
theorem run_le (T : Nat → Int32) : ∀ (m p : Nat), s_run T p m ≤ m := by
  intro m
  induction m with
  | zero => intro p; exact Nat.le_refl _
  | succ m ih =>
    intro p
    simp only [s_run]
    split
    · omega
    · split
      · omega
      · have := ih (p + 1); omega
theorem tok_fail {σ : Sto} (h : TOK σ) (c : Int32) : TOK (failS σ c) := by
  obtain ⟨L, A, h1, h2, h3, h4⟩ := h
  exact ⟨L, A, by unfold failS; rw [upc_same, upd_ne (by decide), upd_ne (by decide)]; exact h1, by unfold failS; rw [upc_same, upd_ne (by decide), upd_ne (by decide)]; exact h2, h3, h4⟩
theorem tok_n {σ : Sto} (h : TOK σ) : σ 5 2 = nI ((σ 5 2).toNatClampNeg) ∧ σ 5 1 = nI ((σ 5 1).toNatClampNeg) ∧ (σ 5 1).toNatClampNeg ≤ (σ 5 2).toNatClampNeg ∧ (σ 5 2).toNatClampNeg ≤ 120 := by
  obtain ⟨L, A, h1, h2, h3, h4⟩ := h
  rw [h1, h2, nI_clamp (by omega), nI_clamp (by omega)]
  exact ⟨rfl, rfl, h3, h4⟩
theorem tok_adv {σ : Sto} (h : TOK σ) (k : Nat) (hk : (σ 5 1).toNatClampNeg + k ≤ (σ 5 2).toNatClampNeg) : TOK (advS σ (nI k)) := by
  obtain ⟨h1, h2, h3, h4⟩ := tok_n h
  refine ⟨(σ 5 2).toNatClampNeg, (σ 5 1).toNatClampNeg + k, ?_, ?_, hk, h4⟩
  · unfold advS; rw [upc_same, upd_ne (by decide)]; exact h1
  · unfold advS
    rw [upc_same, upd_same]
    have := nI_add ((σ 5 1).toNatClampNeg) k
    rw [← h2] at this
    exact this
theorem nx_lt {σ : Sto} (h : TOK σ) {c : Int32} (hc : nxS σ = c) (h0 : ¬ c = -1) : (σ 5 1).toNatClampNeg + 1 ≤ (σ 5 2).toNatClampNeg := by
  obtain ⟨h1, h2, h3, h4⟩ := tok_n h
  unfold nxS at hc
  split at hc
  · exact absurd hc.symm h0
  · rename_i q
    rw [h1, h2] at q
    rcases Nat.lt_or_ge ((σ 5 1).toNatClampNeg) ((σ 5 2).toNatClampNeg) with z | z
    · exact z
    · exact absurd (nI_le z (by omega)) q
theorem tok_sign {σ : Sto} (h : TOK σ) (c : Int32) (h0 : ¬ c = -1) : TOK (s_sign σ c).2 := by
  unfold s_sign
  split
  · rename_i q
    exact tok_adv h 1 (nx_lt h q h0)
  · exact tok_fail h 1
theorem tok_num {σ : Sto} (h : TOK σ) (lo hi : Int32) : TOK (s_num σ lo hi).2 := by
  unfold s_num
  split
  · exact tok_fail h 1
  · split
    · exact tok_fail h 2
    · refine tok_adv h _ ?_
      have := run_le (σ 6) ((σ 5 2).toNatClampNeg - (σ 5 1).toNatClampNeg) ((σ 5 1).toNatClampNeg)
      obtain ⟨h1, h2, h3, h4⟩ := tok_n h
      show _ + figS σ ≤ _
      unfold figS
      omega
theorem tp_ne {σ : Sto} {k : Nat} (hk : k ≠ 5) (c : Int32) : failS σ c k = σ k ∧ advS σ c k = σ k := ⟨upc_ne hk, upc_ne hk⟩
theorem sign_ne {σ : Sto} {k : Nat} (hk : k ≠ 5) (c : Int32) : (s_sign σ c).2 k = σ k := by unfold s_sign; split <;> exact upc_ne hk
theorem num_ne {σ : Sto} {k : Nat} (hk : k ≠ 5) (a b : Int32) : (s_num σ a b).2 k = σ k := by
  unfold s_num
  split
  · exact upc_ne hk
  · split <;> exact upc_ne hk
set_option maxRecDepth 20000 in
set_option maxHeartbeats 4000000 in
theorem c_X5_isFull {E : EE} (hE : inj E 0 40) {σ : Sto} {τ : Stl}   : Ct E 0 40 yX5_isFull cX5_isFull 1 (some FieldType.boolean) { frames := 0, cells := 0, slots := 0, locals := 0 } [.ref (E.2.1 5)] σ τ (Pi (bI (decide (120 ≤ σ 5 2))) (σ) (τ)) := by
  refine ct_of hE RX5 [some (.ref (E.2.1 5))] (by decide) rfl (Nat.le_of_ble_eq_true rfl) rfl (fun X => ?_)
  refine g_aload_n (q := 1) dX5_isFull_0 rfl rfl ?_
  refine f5_2 (q := 4) wd_115 dX5_isFull_1 rfl ?_
  refine g_bipush (q := 6) dX5_isFull_4 cb_120 rfl ?_
  refine g_icmp_lt (t := 13) (q := 9) dX5_isFull_6 (by decide) rfl (fun c_6 => ?_) (fun c_6 => ?_)
  · refine g_iconst (q := 14) dX5_isFull_13 ci_0 rfl ?_
    exact g_zret dX5_isFull_14 (by first | decide | exact bI_nar _) (pi_i (by grind [bI]) (by rfl) rfl)
  · refine g_iconst (q := 10) dX5_isFull_9 ci_1 rfl ?_
    refine g_goto (t := 14) dX5_isFull_10 (by decide) ?_
    exact g_zret dX5_isFull_14 (by first | decide | exact bI_nar _) (pi_i (by grind [bI]) (by rfl) rfl)
set_option maxRecDepth 20000 in
set_option maxHeartbeats 4000000 in
theorem c_X5_append {E : EE} (hE : inj E 0 40) {σ : Sto} {τ : Stl} {b : Int32} (h : vp_in (σ 5 2) 120) : Ct E 0 40 yX5_append cX5_append 2 (some FieldType.int) { frames := 0, cells := 0, slots := 0, locals := 0 } [.ref (E.2.1 5), .int b] σ τ (Pi (σ 5 2 + 1) (upc (upc σ 6 (upd (σ 6) ((σ 5 2).toNatClampNeg) b)) 5 (upd (σ 5) 2 (σ 5 2 + 1))) (τ)) := by
  refine ct_of hE RX5 [some (.ref (E.2.1 5)), some (.int b)] (by decide) rfl (Nat.le_of_ble_eq_true rfl) rfl (fun X => ?_)
  refine g_aload_n (q := 1) dX5_append_0 rfl rfl ?_
  refine f5_0 (q := 4) wd_113 dX5_append_1 rfl ?_
  refine g_aload_n (q := 5) dX5_append_4 rfl rfl ?_
  refine f5_2 (q := 8) wd_115 dX5_append_5 rfl ?_
  refine g_iload_n (q := 9) dX5_append_8 rfl rfl ?_
  refine g_iast (q := 10) (k := 6) (by decide) (by decide) rfl (show vp_in _ 120 by exact h) dX5_append_9 rfl ?_
  refine g_aload_n (q := 11) dX5_append_10 rfl rfl ?_
  refine g_dup (q := 12) dX5_append_11 rfl rfl ?_
  refine f5_2 (q := 15) wd_115 dX5_append_12 rfl ?_
  refine g_iconst (q := 16) dX5_append_15 ci_1 rfl ?_
  refine g_iadd (q := 17) dX5_append_16 rfl ?_
  refine p5_2 (q := 20) wd_115 dX5_append_17 rfl ?_
  refine g_aload_n (q := 21) dX5_append_20 rfl rfl ?_
  refine f5_2 (q := 24) wd_115 dX5_append_21 rfl ?_
  exact g_iret dX5_append_24 (pi_i (by simp [upc, upd]) (by simp [upc]) rfl)
set_option maxRecDepth 20000 in
set_option maxHeartbeats 4000000 in
theorem c_X5_empty {E : EE} (hE : inj E 0 40) {σ : Sto} {τ : Stl}   : Ct E 0 40 yX5_empty cX5_empty 1 none { frames := 0, cells := 0, slots := 0, locals := 0 } [.ref (E.2.1 5)] σ τ (Pv (upc σ 5 (upd (σ 5) 2 0)) (τ)) := by
  refine ct_of hE RX5 [some (.ref (E.2.1 5))] (by decide) rfl (Nat.le_of_ble_eq_true rfl) rfl (fun X => ?_)
  refine g_aload_n (q := 1) dX5_empty_0 rfl rfl ?_
  refine g_iconst (q := 2) dX5_empty_1 ci_0 rfl ?_
  refine p5_2 (q := 5) wd_115 dX5_empty_2 rfl ?_
  exact g_vret dX5_empty_5 (pv_i (by rfl) rfl)
set_option maxRecDepth 20000 in
set_option maxHeartbeats 4000000 in
theorem c_X5_fail {E : EE} (hE : inj E 0 40) {σ : Sto} {τ : Stl} {c : Int32}  : Ct E 0 40 yX5_fail cX5_fail 2 (some FieldType.boolean) { frames := 0, cells := 0, slots := 0, locals := 0 } [.ref (E.2.1 5), .int c] σ τ (Pi (bI false) (failS σ c) (τ)) := by
  refine ct_of hE RX5 [some (.ref (E.2.1 5)), some (.int c)] (by decide) rfl (Nat.le_of_ble_eq_true rfl) rfl (fun X => ?_)
  refine g_aload_n (q := 1) dX5_fail_0 rfl rfl ?_
  refine g_iload_n (q := 2) dX5_fail_1 rfl rfl ?_
  refine p5_3 (q := 5) wd_118 dX5_fail_2 rfl ?_
  refine g_aload_n (q := 6) dX5_fail_5 rfl rfl ?_
  refine g_aload_n (q := 7) dX5_fail_6 rfl rfl ?_
  refine f5_1 (q := 10) wd_114 dX5_fail_7 rfl ?_
  refine p5_4 (q := 13) wd_120 dX5_fail_10 rfl ?_
  refine g_iconst (q := 14) dX5_fail_13 ci_0 rfl ?_
  exact g_zret dX5_fail_14 (by first | decide | exact bI_nar _) (pi_i (by rfl) (by simp [failS, upc_upc, upc, upd]) rfl)
set_option maxRecDepth 20000 in
set_option maxHeartbeats 4000000 in
theorem c_X5_next {E : EE} (hE : inj E 0 40) {σ : Sto} {τ : Stl}  (h : TOK σ) : Ct E 0 40 yX5_next cX5_next 1 (some FieldType.int) { frames := 0, cells := 0, slots := 0, locals := 0 } [.ref (E.2.1 5)] σ τ (Pi (nxS σ) (σ) (τ)) := by
  refine ct_of hE RX5 [some (.ref (E.2.1 5))] (by decide) rfl (Nat.le_of_ble_eq_true rfl) rfl (fun X => ?_)
  obtain ⟨k1, k2, k3, k4⟩ := tok_n h
  refine g_aload_n (q := 1) dX5_next_0 rfl rfl ?_
  refine f5_1 (q := 4) wd_114 dX5_next_1 rfl ?_
  refine g_aload_n (q := 5) dX5_next_4 rfl rfl ?_
  refine f5_2 (q := 8) wd_115 dX5_next_5 rfl ?_
  refine g_icmp_ge (t := 23) (q := 11) dX5_next_8 (by decide) rfl (fun c_8 => ?_) (fun c_8 => ?_)
  · refine g_iconst (q := 24) dX5_next_23 ci_m1 rfl ?_
    exact g_iret dX5_next_24 (pi_i (by unfold nxS; rw [if_pos c_8]) (by rfl) rfl)
  · refine g_aload_n (q := 12) dX5_next_11 rfl rfl ?_
    refine f5_0 (q := 15) wd_113 dX5_next_12 rfl ?_
    refine g_aload_n (q := 16) dX5_next_15 rfl rfl ?_
    refine f5_1 (q := 19) wd_114 dX5_next_16 rfl ?_
    refine g_iald (q := 20) (k := 6) (by decide) (by decide) rfl (show vp_in _ 120 by rw [k2]; refine vp_in_nI ?_ (by decide); rw [k1, k2] at c_8; rcases Nat.lt_or_ge ((σ 5 1).toNatClampNeg) ((σ 5 2).toNatClampNeg) with z | z <;> first | omega | exact absurd (nI_le z (by omega)) c_8) dX5_next_19 rfl ?_
    refine g_goto (t := 24) dX5_next_20 (by decide) ?_
    exact g_iret dX5_next_24 (pi_i (by unfold nxS; rw [if_neg c_8]) (by rfl) rfl)
set_option maxRecDepth 20000 in
set_option maxHeartbeats 4000000 in
theorem c_X5_kindOfLetter {E : EE} (hE : inj E 0 40) {σ : Sto} {τ : Stl} {c : Int32}  : Ct E 0 40 yX5_kindOfLetter cX5_kindOfLetter 1 (some FieldType.int) { frames := 0, cells := 0, slots := 0, locals := 0 } [.int c] σ τ (Pi (s_kl c) (σ) (τ)) := by
  refine ct_of hE RX5 [some (.int c)] (by decide) rfl (Nat.le_of_ble_eq_true rfl) rfl (fun X => ?_)
  refine g_iload_n (q := 1) dX5_kindOfLetter_0 rfl rfl ?_
  rcases tab_102_116 _ with c_1 | c_1 | c_1 | c_1 | c_1 | c_1 | c_1 | c_1 | c_1 | c_1 | c_1 | c_1 | c_1 | c_1 | c_1 | c_1
  · refine g_tabOut (t := 86) dX5_kindOfLetter_1 c_1 (by decide) ?_
    refine g_iconst (q := 87) dX5_kindOfLetter_86 ci_0 rfl ?_
    exact g_iret dX5_kindOfLetter_87 (pi_i (by have n114 : ¬ c = 114 := (fun e => by rw [e] at c_1; exact absurd c_1 (by decide)); have n112 : ¬ c = 112 := (fun e => by rw [e] at c_1; exact absurd c_1 (by decide)); have n116 : ¬ c = 116 := (fun e => by rw [e] at c_1; exact absurd c_1 (by decide)); have n102 : ¬ c = 102 := (fun e => by rw [e] at c_1; exact absurd c_1 (by decide)); have n105 : ¬ c = 105 := (fun e => by rw [e] at c_1; exact absurd c_1 (by decide)); simp [s_kl, n114, n112, n116, n102, n105]) (by rfl) rfl)
  · refine g_tabV (t := 82) c_1 dX5_kindOfLetter_1 (by decide) (by decide) rfl (by decide) ?_
    refine g_iconst (q := 83) dX5_kindOfLetter_82 ci_4 rfl ?_
    exact g_iret dX5_kindOfLetter_83 (pi_i (by rw [c_1]; decide) (by rfl) rfl)
  · refine g_tabV (t := 86) c_1 dX5_kindOfLetter_1 (by decide) (by decide) rfl (by decide) ?_
    refine g_iconst (q := 87) dX5_kindOfLetter_86 ci_0 rfl ?_
    exact g_iret dX5_kindOfLetter_87 (pi_i (by rw [c_1]; decide) (by rfl) rfl)
  · refine g_tabV (t := 86) c_1 dX5_kindOfLetter_1 (by decide) (by decide) rfl (by decide) ?_
    refine g_iconst (q := 87) dX5_kindOfLetter_86 ci_0 rfl ?_
    exact g_iret dX5_kindOfLetter_87 (pi_i (by rw [c_1]; decide) (by rfl) rfl)
  · refine g_tabV (t := 84) c_1 dX5_kindOfLetter_1 (by decide) (by decide) rfl (by decide) ?_
    refine g_iconst (q := 85) dX5_kindOfLetter_84 ci_5 rfl ?_
    exact g_iret dX5_kindOfLetter_85 (pi_i (by rw [c_1]; decide) (by rfl) rfl)
  · refine g_tabV (t := 86) c_1 dX5_kindOfLetter_1 (by decide) (by decide) rfl (by decide) ?_
    refine g_iconst (q := 87) dX5_kindOfLetter_86 ci_0 rfl ?_
    exact g_iret dX5_kindOfLetter_87 (pi_i (by rw [c_1]; decide) (by rfl) rfl)
  · refine g_tabV (t := 86) c_1 dX5_kindOfLetter_1 (by decide) (by decide) rfl (by decide) ?_
    refine g_iconst (q := 87) dX5_kindOfLetter_86 ci_0 rfl ?_
    exact g_iret dX5_kindOfLetter_87 (pi_i (by rw [c_1]; decide) (by rfl) rfl)
  · refine g_tabV (t := 86) c_1 dX5_kindOfLetter_1 (by decide) (by decide) rfl (by decide) ?_
    refine g_iconst (q := 87) dX5_kindOfLetter_86 ci_0 rfl ?_
    exact g_iret dX5_kindOfLetter_87 (pi_i (by rw [c_1]; decide) (by rfl) rfl)
  · refine g_tabV (t := 86) c_1 dX5_kindOfLetter_1 (by decide) (by decide) rfl (by decide) ?_
    refine g_iconst (q := 87) dX5_kindOfLetter_86 ci_0 rfl ?_
    exact g_iret dX5_kindOfLetter_87 (pi_i (by rw [c_1]; decide) (by rfl) rfl)
  · refine g_tabV (t := 86) c_1 dX5_kindOfLetter_1 (by decide) (by decide) rfl (by decide) ?_
    refine g_iconst (q := 87) dX5_kindOfLetter_86 ci_0 rfl ?_
    exact g_iret dX5_kindOfLetter_87 (pi_i (by rw [c_1]; decide) (by rfl) rfl)
  · refine g_tabV (t := 86) c_1 dX5_kindOfLetter_1 (by decide) (by decide) rfl (by decide) ?_
    refine g_iconst (q := 87) dX5_kindOfLetter_86 ci_0 rfl ?_
    exact g_iret dX5_kindOfLetter_87 (pi_i (by rw [c_1]; decide) (by rfl) rfl)
  · refine g_tabV (t := 78) c_1 dX5_kindOfLetter_1 (by decide) (by decide) rfl (by decide) ?_
    refine g_iconst (q := 79) dX5_kindOfLetter_78 ci_2 rfl ?_
    exact g_iret dX5_kindOfLetter_79 (pi_i (by rw [c_1]; decide) (by rfl) rfl)
  · refine g_tabV (t := 86) c_1 dX5_kindOfLetter_1 (by decide) (by decide) rfl (by decide) ?_
    refine g_iconst (q := 87) dX5_kindOfLetter_86 ci_0 rfl ?_
    exact g_iret dX5_kindOfLetter_87 (pi_i (by rw [c_1]; decide) (by rfl) rfl)
  · refine g_tabV (t := 76) c_1 dX5_kindOfLetter_1 (by decide) (by decide) rfl (by decide) ?_
    refine g_iconst (q := 77) dX5_kindOfLetter_76 ci_1 rfl ?_
    exact g_iret dX5_kindOfLetter_77 (pi_i (by rw [c_1]; decide) (by rfl) rfl)
  · refine g_tabV (t := 86) c_1 dX5_kindOfLetter_1 (by decide) (by decide) rfl (by decide) ?_
    refine g_iconst (q := 87) dX5_kindOfLetter_86 ci_0 rfl ?_
    exact g_iret dX5_kindOfLetter_87 (pi_i (by rw [c_1]; decide) (by rfl) rfl)
  · refine g_tabV (t := 80) c_1 dX5_kindOfLetter_1 (by decide) (by decide) rfl (by decide) ?_
    refine g_iconst (q := 81) dX5_kindOfLetter_80 ci_3 rfl ?_
    exact g_iret dX5_kindOfLetter_81 (pi_i (by rw [c_1]; decide) (by rfl) rfl)
set_option maxRecDepth 20000 in
set_option maxHeartbeats 4000000 in
theorem c_X5_takeSign {E : EE} (hE : inj E 0 40) {σ : Sto} {τ : Stl} {c : Int32} (h : TOK σ) : Ct E 0 40 yX5_takeSign cX5_takeSign 2 (some FieldType.boolean) { frames := 1, cells := 0, slots := 0, locals := 21 } [.ref (E.2.1 5), .int c] σ τ (Pi (bI (s_sign σ c).1) ((s_sign σ c).2) (τ)) := by
  refine ct_of hE RX5 [some (.ref (E.2.1 5)), some (.int c)] (by decide) rfl (Nat.le_of_ble_eq_true rfl) rfl (fun X => ?_)
  refine g_aload_n (q := 1) dX5_takeSign_0 rfl rfl ?_
  refine g_callVi (q := 4) (c_X5_next hE (by exact h)) lk_RX5_47 (by decide) (by decide) rfl (by decide) rfl rfl rfl rfl rfl rfl (Nat.le_of_ble_eq_true rfl) (Nat.le_of_ble_eq_true rfl) (Nat.le_of_ble_eq_true rfl) dX5_takeSign_1 rfl ?_
  refine g_iload_n (q := 5) dX5_takeSign_4 rfl rfl ?_
  refine g_icmp_eq (t := 14) (q := 8) dX5_takeSign_5 (by decide) rfl (fun c_5 => ?_) (fun c_5 => ?_)
  · refine g_aload_n (q := 15) dX5_takeSign_14 rfl rfl ?_
    refine g_dup (q := 16) dX5_takeSign_15 rfl rfl ?_
    refine f5_1 (q := 19) wd_114 dX5_takeSign_16 rfl ?_
    refine g_iconst (q := 20) dX5_takeSign_19 ci_1 rfl ?_
    refine g_iadd (q := 21) dX5_takeSign_20 rfl ?_
    refine p5_1 (q := 24) wd_114 dX5_takeSign_21 rfl ?_
    refine g_iconst (q := 25) dX5_takeSign_24 ci_1 rfl ?_
    exact g_zret dX5_takeSign_25 (by first | decide | exact bI_nar _) (pi_i (by unfold s_sign; rw [if_pos c_5]; rfl) (by unfold s_sign; rw [if_pos c_5]; rfl) rfl)
  · refine g_aload_n (q := 9) dX5_takeSign_8 rfl rfl ?_
    refine g_iconst (q := 10) dX5_takeSign_9 ci_1 rfl ?_
    refine g_callVi (q := 13) (c_X5_fail hE ) lk_RX5_54 (by decide) (by decide) rfl (by decide) rfl rfl rfl rfl rfl rfl (Nat.le_of_ble_eq_true rfl) (Nat.le_of_ble_eq_true rfl) (Nat.le_of_ble_eq_true rfl) dX5_takeSign_10 rfl ?_
    exact g_zret dX5_takeSign_13 (by first | decide | exact bI_nar _) (pi_i (by unfold s_sign; rw [if_neg c_5]) (by unfold s_sign; rw [if_neg c_5]) rfl)
set_option maxRecDepth 20000 in
set_option maxHeartbeats 4000000 in
theorem c_X5_figuresAhead {E : EE} (hE : inj E 0 40) {σ : Sto} {τ : Stl}  (h : TOK σ) : Ct E 0 40 yX5_figuresAhead cX5_figuresAhead 2 (some FieldType.int) { frames := 0, cells := 0, slots := 0, locals := 0 } [.ref (E.2.1 5)] σ τ (Pi (nI (figS σ)) (σ) (τ)) := by
  refine ct_of hE RX5 [some (.ref (E.2.1 5)), none] (by decide) rfl (Nat.le_of_ble_eq_true rfl) rfl (fun X => ?_)
  obtain ⟨k1, k2, k3, k4⟩ := tok_n h
  refine g_aload_n (q := 1) dX5_figuresAhead_0 rfl rfl ?_
  refine f5_1 (q := 4) wd_114 dX5_figuresAhead_1 rfl ?_
  refine g_istore_n (j := 1) (q := 5) dX5_figuresAhead_4 rfl (by decide) rfl rfl ?_
  have key : ∀ m e, e + m = (σ 5 2).toNatClampNeg → (σ 5 1).toNatClampNeg ≤ e → (e - (σ 5 1).toNatClampNeg) + s_run (σ 6) e m = figS σ → G E 0 40 { frames := 0, cells := 0, slots := 0, locals := 0 } X cX5_figuresAhead RX5 2 (some FieldType.int) (Pi (nI (figS σ)) σ τ) 5 [some (.ref (E.2.1 5)), some (.int (nI e))] [] (σ) τ := by
    intro m
    induction m with
    | zero =>
      intro e he hae hr
      refine g_iload_n (q := 6) dX5_figuresAhead_5 rfl rfl ?_
      refine g_aload_n (q := 7) dX5_figuresAhead_6 rfl rfl ?_
      refine f5_2 (q := 10) wd_115 dX5_figuresAhead_7 rfl ?_
      refine g_icmp_ge (t := 41) (q := 13) dX5_figuresAhead_10 (by decide) rfl (fun c_10 => ?_) (fun c_10 => ?_)
      · refine g_iload_n (q := 42) dX5_figuresAhead_41 rfl rfl ?_
        refine g_aload_n (q := 43) dX5_figuresAhead_42 rfl rfl ?_
        refine f5_1 (q := 46) wd_114 dX5_figuresAhead_43 rfl ?_
        refine g_isub (q := 47) dX5_figuresAhead_46 rfl ?_
        exact g_iret dX5_figuresAhead_47 (pi_i (by simp only [s_run] at hr; rw [k2, pk_sub (by omega)]; exact congrArg nI (by omega)) (by rfl) rfl)
      · exact absurd (by rw [show e = (σ 5 2).toNatClampNeg by omega]; exact lp_out k1) c_10
    | succ m ih =>
      intro e he hae hr
      have hce : (nI e).toNatClampNeg = e := nI_clamp (by omega)
      refine g_iload_n (q := 6) dX5_figuresAhead_5 rfl rfl ?_
      refine g_aload_n (q := 7) dX5_figuresAhead_6 rfl rfl ?_
      refine f5_2 (q := 10) wd_115 dX5_figuresAhead_7 rfl ?_
      refine g_icmp_ge (t := 41) (q := 13) dX5_figuresAhead_10 (by decide) rfl (fun c_10 => ?_) (fun c_10 => ?_)
      · exact absurd c_10 (lp_in k1 (by omega) (by omega))
      · refine g_aload_n (q := 14) dX5_figuresAhead_13 rfl rfl ?_
        refine f5_0 (q := 17) wd_113 dX5_figuresAhead_14 rfl ?_
        refine g_iload_n (q := 18) dX5_figuresAhead_17 rfl rfl ?_
        refine g_iald (q := 19) (k := 6) (by decide) (by decide) rfl (show vp_in _ 120 by ((with_reducible refine vp_in_nI ?_ ?_); (omega); (decide))) dX5_figuresAhead_18 rfl ?_
        refine g_bipush (q := 21) dX5_figuresAhead_19 cb_48 rfl ?_
        refine g_icmp_lt (t := 41) (q := 24) dX5_figuresAhead_21 (by decide) rfl (fun c_21 => ?_) (fun c_21 => ?_)
        · rw [hce] at c_21
          refine g_iload_n (q := 42) dX5_figuresAhead_41 rfl rfl ?_
          refine g_aload_n (q := 43) dX5_figuresAhead_42 rfl rfl ?_
          refine f5_1 (q := 46) wd_114 dX5_figuresAhead_43 rfl ?_
          refine g_isub (q := 47) dX5_figuresAhead_46 rfl ?_
          exact g_iret dX5_figuresAhead_47 (pi_i (by simp only [s_run] at hr; rw [if_pos c_21] at hr; rw [k2, pk_sub (by omega)]; exact congrArg nI (by omega)) (by rfl) rfl)
        · rw [hce] at c_21
          refine g_aload_n (q := 25) dX5_figuresAhead_24 rfl rfl ?_
          refine f5_0 (q := 28) wd_113 dX5_figuresAhead_25 rfl ?_
          refine g_iload_n (q := 29) dX5_figuresAhead_28 rfl rfl ?_
          refine g_iald (q := 30) (k := 6) (by decide) (by decide) rfl (show vp_in _ 120 by ((with_reducible refine vp_in_nI ?_ ?_); (omega); (decide))) dX5_figuresAhead_29 rfl ?_
          refine g_bipush (q := 32) dX5_figuresAhead_30 cb_57 rfl ?_
          refine g_icmp_gt (t := 41) (q := 35) dX5_figuresAhead_32 (by decide) rfl (fun c_32 => ?_) (fun c_32 => ?_)
          · rw [hce] at c_32
            refine g_iload_n (q := 42) dX5_figuresAhead_41 rfl rfl ?_
            refine g_aload_n (q := 43) dX5_figuresAhead_42 rfl rfl ?_
            refine f5_1 (q := 46) wd_114 dX5_figuresAhead_43 rfl ?_
            refine g_isub (q := 47) dX5_figuresAhead_46 rfl ?_
            exact g_iret dX5_figuresAhead_47 (pi_i (by simp only [s_run] at hr; rw [if_neg c_21, if_pos c_32] at hr; rw [k2, pk_sub (by omega)]; exact congrArg nI (by omega)) (by rfl) rfl)
          · rw [hce] at c_32
            refine g_iinc (q := 38) dX5_figuresAhead_35 rfl ci_1 (by decide) rfl rfl ?_
            refine g_goto (t := 5) dX5_figuresAhead_38 (by decide) ?_
            exact g_eqw (ih (e + 1) (by omega) (by omega) (by rw [← hr]; simp only [s_run]; rw [if_neg c_21, if_neg c_32]; omega)) (by simp [lsub, nI_succ]) rfl rfl
  exact g_eqw (key ((σ 5 2).toNatClampNeg - (σ 5 1).toNatClampNeg) ((σ 5 1).toNatClampNeg) (by omega) (Nat.le_refl _) (by rw [Nat.sub_self, Nat.zero_add]; rfl)) ⟨rfl, congrArg Value.int k2, trivial⟩ rfl rfl
set_option maxRecDepth 20000 in
set_option maxHeartbeats 4000000 in
theorem c_X5_takeNumber {E : EE} (hE : inj E 0 40) {σ : Sto} {τ : Stl} {a b : Int32} (h : TOK σ) : Ct E 0 40 yX5_takeNumber cX5_takeNumber 6 (some FieldType.int) { frames := 1, cells := 0, slots := 0, locals := 21 } [.ref (E.2.1 5), .int a, .int b] σ τ (Pi ((s_num σ a b).1) ((s_num σ a b).2) (τ)) := by
  refine ct_of hE RX5 [some (.ref (E.2.1 5)), some (.int a), some (.int b), none, none, none] (by decide) rfl (Nat.le_of_ble_eq_true rfl) rfl (fun X => ?_)
  obtain ⟨k1, k2, k3, k4⟩ := tok_n h
  have hfl : (σ 5 1).toNatClampNeg + figS σ ≤ (σ 5 2).toNatClampNeg := by have := run_le (σ 6) ((σ 5 2).toNatClampNeg - (σ 5 1).toNatClampNeg) ((σ 5 1).toNatClampNeg); unfold figS; omega
  refine g_aload_n (q := 1) dX5_takeNumber_0 rfl rfl ?_
  refine g_callVi (q := 4) (c_X5_figuresAhead hE (by exact h)) lk_RX5_75 (by decide) (by decide) rfl (by decide) rfl rfl rfl rfl rfl rfl (Nat.le_of_ble_eq_true rfl) (Nat.le_of_ble_eq_true rfl) (Nat.le_of_ble_eq_true rfl) dX5_takeNumber_1 rfl ?_
  refine g_istore_n (j := 3) (q := 5) dX5_takeNumber_4 rfl (by decide) rfl rfl ?_
  refine g_iload_n (q := 6) dX5_takeNumber_5 rfl rfl ?_
  refine g_if_eq (t := 14) (q := 9) dX5_takeNumber_6 (by decide) rfl (fun c_6 => ?_) (fun c_6 => ?_)
  · have hf0 : figS σ = 0 := (nI_eq (by omega) (by decide)).mp (c_6.trans nI_0.symm)
    refine g_aload_n (q := 15) dX5_takeNumber_14 rfl rfl ?_
    refine g_iconst (q := 16) dX5_takeNumber_15 ci_1 rfl ?_
    refine g_callVi (q := 19) (c_X5_fail hE ) lk_RX5_54 (by decide) (by decide) rfl (by decide) rfl rfl rfl rfl rfl rfl (Nat.le_of_ble_eq_true rfl) (Nat.le_of_ble_eq_true rfl) (Nat.le_of_ble_eq_true rfl) dX5_takeNumber_16 rfl ?_
    refine g_pop (q := 20) dX5_takeNumber_19 rfl rfl ?_
    refine g_iconst (q := 21) dX5_takeNumber_20 ci_m1 rfl ?_
    exact g_iret dX5_takeNumber_21 (pi_i (by unfold s_num; rw [if_pos (Or.inl hf0)]) (by unfold s_num; rw [if_pos (Or.inl hf0)]) rfl)
  · have hf0 : ¬ figS σ = 0 := fun e => c_6 (by rw [e]; rfl)
    refine g_iload_n (q := 10) dX5_takeNumber_9 rfl rfl ?_
    refine g_iconst (q := 11) dX5_takeNumber_10 ci_2 rfl ?_
    refine g_icmp_le (t := 22) (q := 14) dX5_takeNumber_11 (by decide) rfl (fun c_11 => ?_) (fun c_11 => ?_)
    · have hf2 : ¬ 2 < figS σ := fun e => absurd c_11 (nI_ge e (by omega))
      have hfg : ¬ (figS σ = 0 ∨ 2 < figS σ) := fun q => q.elim hf0 hf2
      refine g_iconst (q := 23) dX5_takeNumber_22 ci_0 rfl ?_
      refine g_istore (q := 25) dX5_takeNumber_23 (by decide) rfl rfl ?_
      refine g_iconst (q := 26) dX5_takeNumber_25 ci_0 rfl ?_
      refine g_istore (q := 28) dX5_takeNumber_26 (by decide) rfl rfl ?_
      refine g_for (I := fun i => [some (.ref (E.2.1 5)), some (.int a), some (.int b), some (.int (nI (figS σ))), some (.int (s_val (σ 6) ((σ 5 1).toNatClampNeg) i)), some (.int (nI i))]) (S := fun i => σ) (T := fun i => τ) (0) (figS σ) (Nat.zero_le _) (by rfl) (by rfl) (by rfl) (fun i i0 i1 kk_i => ?_) ?_
      · have hci : (nI i).toNatClampNeg = i := nI_clamp (by omega)
        have hix : σ 5 1 + nI i = nI ((σ 5 1).toNatClampNeg + i) := by have := nI_add ((σ 5 1).toNatClampNeg) i; rw [← k2] at this; exact this
        have htx : (σ 5 1 + nI i).toNatClampNeg = (σ 5 1).toNatClampNeg + i := by rw [hix]; exact nI_clamp (by omega)
        refine g_iload (q := 30) dX5_takeNumber_28 rfl rfl ?_
        refine g_iload_n (q := 31) dX5_takeNumber_30 rfl rfl ?_
        refine g_icmp_ge (t := 63) (q := 34) dX5_takeNumber_31 (by decide) rfl (fun c_31 => ?_) (fun c_31 => ?_)
        · exact absurd c_31 (lp_in (by rfl) (by omega) i1)
        · refine g_iload (q := 36) dX5_takeNumber_34 rfl rfl ?_
          refine g_bipush (q := 38) dX5_takeNumber_36 cb_10 rfl ?_
          refine g_imul (q := 39) dX5_takeNumber_38 rfl ?_
          refine g_aload_n (q := 40) dX5_takeNumber_39 rfl rfl ?_
          refine f5_0 (q := 43) wd_113 dX5_takeNumber_40 rfl ?_
          refine g_aload_n (q := 44) dX5_takeNumber_43 rfl rfl ?_
          refine f5_1 (q := 47) wd_114 dX5_takeNumber_44 rfl ?_
          refine g_iload (q := 49) dX5_takeNumber_47 rfl rfl ?_
          refine g_iadd (q := 50) dX5_takeNumber_49 rfl ?_
          refine g_iald (q := 51) (k := 6) (by decide) (by decide) rfl (show vp_in _ 120 by rw [hix]; exact vp_in_nI (by omega) (by decide)) dX5_takeNumber_50 rfl ?_
          refine g_iadd (q := 52) dX5_takeNumber_51 rfl ?_
          refine g_bipush (q := 54) dX5_takeNumber_52 cb_48 rfl ?_
          refine g_isub (q := 55) dX5_takeNumber_54 rfl ?_
          refine g_istore (q := 57) dX5_takeNumber_55 (by decide) rfl rfl ?_
          refine g_iinc (q := 60) dX5_takeNumber_57 rfl ci_1 (by decide) rfl rfl ?_
          refine g_goto (t := 28) dX5_takeNumber_60 (by decide) ?_
          exact g_eqw kk_i (by simp [lsub, s_val, htx, nI_succ]) rfl rfl
      · refine g_iload (q := 30) dX5_takeNumber_28 rfl rfl ?_
        refine g_iload_n (q := 31) dX5_takeNumber_30 rfl rfl ?_
        refine g_icmp_ge (t := 63) (q := 34) dX5_takeNumber_31 (by decide) rfl (fun c_31 => ?_) (fun c_31 => ?_)
        · refine g_iload (q := 65) dX5_takeNumber_63 rfl rfl ?_
          refine g_iload_n (q := 66) dX5_takeNumber_65 rfl rfl ?_
          refine g_icmp_lt (t := 75) (q := 69) dX5_takeNumber_66 (by decide) rfl (fun c_66 => ?_) (fun c_66 => ?_)
          · refine g_aload_n (q := 76) dX5_takeNumber_75 rfl rfl ?_
            refine g_iconst (q := 77) dX5_takeNumber_76 ci_2 rfl ?_
            refine g_callVi (q := 80) (c_X5_fail hE ) lk_RX5_54 (by decide) (by decide) rfl (by decide) rfl rfl rfl rfl rfl rfl (Nat.le_of_ble_eq_true rfl) (Nat.le_of_ble_eq_true rfl) (Nat.le_of_ble_eq_true rfl) dX5_takeNumber_77 rfl ?_
            refine g_pop (q := 81) dX5_takeNumber_80 rfl rfl ?_
            refine g_iconst (q := 82) dX5_takeNumber_81 ci_m1 rfl ?_
            exact g_iret dX5_takeNumber_82 (pi_i (by unfold s_num valS; rw [if_neg hfg, if_pos (Or.inl c_66)]) (by unfold s_num valS; rw [if_neg hfg, if_pos (Or.inl c_66)]) rfl)
          · refine g_iload (q := 71) dX5_takeNumber_69 rfl rfl ?_
            refine g_iload_n (q := 72) dX5_takeNumber_71 rfl rfl ?_
            refine g_icmp_le (t := 83) (q := 75) dX5_takeNumber_72 (by decide) rfl (fun c_72 => ?_) (fun c_72 => ?_)
            · refine g_aload_n (q := 84) dX5_takeNumber_83 rfl rfl ?_
              refine g_dup (q := 85) dX5_takeNumber_84 rfl rfl ?_
              refine f5_1 (q := 88) wd_114 dX5_takeNumber_85 rfl ?_
              refine g_iload_n (q := 89) dX5_takeNumber_88 rfl rfl ?_
              refine g_iadd (q := 90) dX5_takeNumber_89 rfl ?_
              refine p5_1 (q := 93) wd_114 dX5_takeNumber_90 rfl ?_
              refine g_iload (q := 95) dX5_takeNumber_93 rfl rfl ?_
              exact g_iret dX5_takeNumber_95 (pi_i (by unfold s_num valS; rw [if_neg hfg, if_neg (fun q => q.elim c_66 (fun q => absurd c_72 (Int32.not_le.mpr q)))]) (by unfold s_num valS; rw [if_neg hfg, if_neg (fun q => q.elim c_66 (fun q => absurd c_72 (Int32.not_le.mpr q)))]; rfl) rfl)
            · refine g_aload_n (q := 76) dX5_takeNumber_75 rfl rfl ?_
              refine g_iconst (q := 77) dX5_takeNumber_76 ci_2 rfl ?_
              refine g_callVi (q := 80) (c_X5_fail hE ) lk_RX5_54 (by decide) (by decide) rfl (by decide) rfl rfl rfl rfl rfl rfl (Nat.le_of_ble_eq_true rfl) (Nat.le_of_ble_eq_true rfl) (Nat.le_of_ble_eq_true rfl) dX5_takeNumber_77 rfl ?_
              refine g_pop (q := 81) dX5_takeNumber_80 rfl rfl ?_
              refine g_iconst (q := 82) dX5_takeNumber_81 ci_m1 rfl ?_
              exact g_iret dX5_takeNumber_82 (pi_i (by unfold s_num valS; rw [if_neg hfg, if_pos (Or.inr (Int32.not_le.mp c_72))]) (by unfold s_num valS; rw [if_neg hfg, if_pos (Or.inr (Int32.not_le.mp c_72))]) rfl)
        · exact absurd (lp_out (by rfl)) c_31
    · have hf2 : 2 < figS σ := by rcases Nat.lt_or_ge 2 (figS σ) with z | z <;> first | exact z | exact absurd (nI_le z (by decide)) c_11
      refine g_aload_n (q := 15) dX5_takeNumber_14 rfl rfl ?_
      refine g_iconst (q := 16) dX5_takeNumber_15 ci_1 rfl ?_
      refine g_callVi (q := 19) (c_X5_fail hE ) lk_RX5_54 (by decide) (by decide) rfl (by decide) rfl rfl rfl rfl rfl rfl (Nat.le_of_ble_eq_true rfl) (Nat.le_of_ble_eq_true rfl) (Nat.le_of_ble_eq_true rfl) dX5_takeNumber_16 rfl ?_
      refine g_pop (q := 20) dX5_takeNumber_19 rfl rfl ?_
      refine g_iconst (q := 21) dX5_takeNumber_20 ci_m1 rfl ?_
      exact g_iret dX5_takeNumber_21 (pi_i (by unfold s_num; rw [if_pos (Or.inr hf2)]) (by unfold s_num; rw [if_pos (Or.inr hf2)]) rfl)
