/-- two stores that agree where the machine can look -/
def lu (k : Nat) : Nat := if kd k = 1 then 8 else ln k
def eqv (σ σ' : Sto) : Prop := ∀ k j, j < lu k → σ k j = σ' k j
theorem arrV_ext {c : ClassId} {N : Nat} {f g : Nat → Value} (h : ∀ j, j < N → f j = g j) : arrV c N f = arrV c N g := by
  unfold arrV
  congr 1
  apply congrArg
  funext j
  exact h j.val j.isLt
theorem flds_eqv {E : EE} {σ σ' : Sto} {τ : Stl} {k c : Nat} (h : ∀ j, j < lu k → σ k j = σ' k j) (hk : kd k = c) (hc : c < 8) : fldsOf E σ τ k c = fldsOf E σ' τ k c := by
  have hl : ∀ k, k < 53 → kd k < 8 → lu k = [2, 8, 3, 3, 5, 5, 10, 23].getD (kd k) 0 := by decide
  have hk53 : k < 53 := by
    rcases Nat.lt_or_ge k 53 with h2 | h2
    · exact h2
    · have h3 : kd k = 10 := by
        unfold kd
        rw [List.getD_eq_getElem?_getD, List.getElem?_eq_none (by show kdl.length ≤ k; exact h2)]
        rfl
      omega
  have hn := hl k hk53 (by omega)
  rw [hk] at hn
  have hs : ∀ j, j < [2, 8, 3, 3, 5, 5, 10, 23].getD c 0 → σ k j = σ' k j := by rw [← hn]; exact h
  match c, hc, hs with
  | 0, _, hs => simp only [fldsOf, hs 1 (by decide)]
  | 1, _, hs => simp only [fldsOf, hs 0 (by decide), hs 1 (by decide), hs 2 (by decide), hs 3 (by decide), hs 4 (by decide), hs 5 (by decide), hs 6 (by decide), hs 7 (by decide)]
  | 2, _, hs => simp only [fldsOf, hs 1 (by decide), hs 2 (by decide)]
  | 3, _, hs => rfl
  | 4, _, hs => simp only [fldsOf, hs 1 (by decide), hs 2 (by decide)]
  | 5, _, hs => simp only [fldsOf, hs 1 (by decide), hs 2 (by decide), hs 3 (by decide), hs 4 (by decide)]
  | 6, _, hs => simp only [fldsOf, hs 8 (by decide), hs 9 (by decide)]
  | 7, _, hs => simp only [fldsOf, hs 3 (by decide), hs 4 (by decide), hs 8 (by decide), hs 9 (by decide), hs 10 (by decide), hs 11 (by decide), hs 12 (by decide), hs 13 (by decide), hs 14 (by decide), hs 17 (by decide), hs 22 (by decide)]
theorem at_eqv {E : EE} {σ σ' : Sto} {τ : Stl} (h : eqv σ σ') (k : Nat) (H : Heap) (ha : va_at E.2.2.1 cls (E.2.1 k, ent E σ τ k) H) : va_at E.2.2.1 cls (E.2.1 k, ent E σ' τ k) H := by
  by_cases h8 : kd k = 8
  · rw [ent_int h8] at ha ⊢
    show H[_]? = some (vp_cell _ _)
    have ha : H[_]? = some (vp_cell _ _) := ha
    rw [vp_cell_i] at ha ⊢
    rw [ha, arrV_ext (fun j hj => by rw [h k j (by unfold lu; rw [if_neg (by omega)]; exact hj)])]
  · by_cases hc : kd k < 8
    · rw [ent_obj rfl hc] at ha ⊢
      rwa [← flds_eqv (fun j hj => h k j hj) rfl hc]
    · have e1 : ∀ s : Sto, ent E s τ k = .inl (E.2.2.2.2, ln k, .inl (s k)) := fun s => by
        unfold ent
        rw [if_neg h8, if_neg hc]
      rw [e1] at ha ⊢
      show H[_]? = some (vp_cell _ _)
      have ha : H[_]? = some (vp_cell _ _) := ha
      rw [vp_cell_i] at ha ⊢
      rw [ha, arrV_ext (fun j hj => by rw [h k j (by unfold lu; rw [if_neg (by omega)]; exact hj)])]
theorem g_eqv {E : EE} {lo n : Nat} {R : Room} {X : XX} {cc : ByteArray} {own : String} {nL : Nat} {ret : Option FieldType} {Po : Option Value → Sto → Stl → Prop} {pc : Nat} {ls : List (Option Value)} {st : List Value} {σ σ' : Sto} {τ : Stl} (h : eqv σ σ') (k : G E lo n R X cc own nL ret Po pc ls st σ' τ) : G E lo n R X cc own nL ret Po pc ls st σ τ := g_store (fun a _ _ H => at_eqv h a H) k
def WFH (σ : Sto) (h : Nat) : Prop := (vp_in (σ h 0) 7 ∧ vp_in (σ h 1) 6 ∧ vp_in (σ h 5) 9 ∧ vp_in (σ h 7) 6) ∧ (∀ d, d < (σ h 5).toNatClampNeg → vp_in (σ (h + 1) d) 6 ∧ vp_in (σ (h + 2) d) 6) ∧ (∀ s, s < (σ h 7).toNatClampNeg → vp_in (σ (h + 3) s) 6 ∧ vp_in (σ (h + 4) s) 6)
theorem wfh_cold {σ : Sto} {h : Nat} {f : Nat → Int32} (w : WFH σ h) : WFH (upc σ (h + 6) f) h := by
  unfold WFH
  simp only [upc_ne (show h ≠ h + 6 by omega), upc_ne (show h + 1 ≠ h + 6 by omega), upc_ne (show h + 2 ≠ h + 6 by omega), upc_ne (show h + 3 ≠ h + 6 by omega), upc_ne (show h + 4 ≠ h + 6 by omega)]
  exact w
theorem wfh_fld {σ : Sto} {h j : Nat} {v : Int32} (w : WFH σ h) (h0 : j ≠ 0) (h1 : j ≠ 1) (h5 : j ≠ 5) (h7 : j ≠ 7) : WFH (upc σ h (upd (σ h) j v)) h := by
  unfold WFH
  simp only [upc_same, upd_ne (Ne.symm h0), upd_ne (Ne.symm h1), upd_ne (Ne.symm h5), upd_ne (Ne.symm h7), upc_ne (show h + 1 ≠ h by omega), upc_ne (show h + 2 ≠ h by omega), upc_ne (show h + 3 ≠ h by omega), upc_ne (show h + 4 ≠ h by omega)]
  exact w
theorem wf_n {σ : Sto} {h : Nat} (w : WFH σ h) : (σ h 0 = nI ((σ h 0).toNatClampNeg) ∧ (σ h 0).toNatClampNeg ≤ 6) ∧ (σ h 5 = nI ((σ h 5).toNatClampNeg) ∧ (σ h 5).toNatClampNeg ≤ 8) ∧ (σ h 7 = nI ((σ h 7).toNatClampNeg) ∧ (σ h 7).toNatClampNeg ≤ 5) := by
  obtain ⟨a1, b1⟩ := vp_to w.1.1 (by decide)
  obtain ⟨a2, b2⟩ := vp_to w.1.2.2.1 (by decide)
  obtain ⟨a3, b3⟩ := vp_to w.1.2.2.2 (by decide)
  exact ⟨⟨a1, by omega⟩, ⟨a2, by omega⟩, ⟨a3, by omega⟩⟩
def s_lt (r n : Int32) : Bool := decide (0 ≤ r) && decide (r < n)
set_option maxRecDepth 20000 in
set_option maxHeartbeats 4000000 in
theorem c_X1_stands {E : EE} (hE : inj E 0 40) {h : Nat} (hh : kd h = 1) {σ : Sto} {τ : Stl}   : Ct E 0 40 yX1_stands cX1_stands 1 (some FieldType.boolean) { frames := 0, cells := 0, slots := 0, locals := 0 } [.ref (E.2.1 h)] σ τ (Pi (bI (decide (0 < σ h 0))) (σ) (τ)) := by
  refine ct_of hE RX1 [some (.ref (E.2.1 h))] (by decide) rfl (Nat.le_of_ble_eq_true rfl) rfl (fun X => ?_)
  refine g_aload_n (q := 1) dX1_stands_0 rfl rfl ?_
  refine f1_0 (q := 4) hh wd_138 dX1_stands_1 rfl ?_
  refine g_if_le (t := 11) (q := 7) dX1_stands_4 (by decide) rfl (fun c_4 => ?_) (fun c_4 => ?_)
  · refine g_iconst (q := 12) dX1_stands_11 ci_0 rfl ?_
    exact g_zret dX1_stands_12 (by first | decide | exact bI_nar _) (pi_i (by grind [bI]) (by rfl) rfl)
  · refine g_iconst (q := 8) dX1_stands_7 ci_1 rfl ?_
    refine g_goto (t := 12) dX1_stands_8 (by decide) ?_
    exact g_zret dX1_stands_12 (by first | decide | exact bI_nar _) (pi_i (by grind [bI]) (by rfl) rfl)
set_option maxRecDepth 20000 in
set_option maxHeartbeats 4000000 in
theorem c_X1_hasRoom {E : EE} (hE : inj E 0 40) {h : Nat} (hh : kd h = 1) {σ : Sto} {τ : Stl} {r : Int32}  : Ct E 0 40 yX1_hasRoom cX1_hasRoom 2 (some FieldType.boolean) { frames := 0, cells := 0, slots := 0, locals := 0 } [.ref (E.2.1 h), .int r] σ τ (Pi (bI (s_lt r (σ h 0))) (σ) (τ)) := by
  refine ct_of hE RX1 [some (.ref (E.2.1 h)), some (.int r)] (by decide) rfl (Nat.le_of_ble_eq_true rfl) rfl (fun X => ?_)
  refine g_iload_n (q := 1) dX1_hasRoom_0 rfl rfl ?_
  refine g_if_lt (t := 16) (q := 4) dX1_hasRoom_1 (by decide) rfl (fun c_1 => ?_) (fun c_1 => ?_)
  · refine g_iconst (q := 17) dX1_hasRoom_16 ci_0 rfl ?_
    exact g_zret dX1_hasRoom_17 (by first | decide | exact bI_nar _) (pi_i (by grind [bI, s_lt]) (by rfl) rfl)
  · refine g_iload_n (q := 5) dX1_hasRoom_4 rfl rfl ?_
    refine g_aload_n (q := 6) dX1_hasRoom_5 rfl rfl ?_
    refine f1_0 (q := 9) hh wd_138 dX1_hasRoom_6 rfl ?_
    refine g_icmp_ge (t := 16) (q := 12) dX1_hasRoom_9 (by decide) rfl (fun c_9 => ?_) (fun c_9 => ?_)
    · refine g_iconst (q := 17) dX1_hasRoom_16 ci_0 rfl ?_
      exact g_zret dX1_hasRoom_17 (by first | decide | exact bI_nar _) (pi_i (by grind [bI, s_lt]) (by rfl) rfl)
    · refine g_iconst (q := 13) dX1_hasRoom_12 ci_1 rfl ?_
      refine g_goto (t := 17) dX1_hasRoom_13 (by decide) ?_
      exact g_zret dX1_hasRoom_17 (by first | decide | exact bI_nar _) (pi_i (by grind [bI, s_lt]) (by rfl) rfl)
set_option maxRecDepth 20000 in
set_option maxHeartbeats 4000000 in
theorem c_X1_hasDoor {E : EE} (hE : inj E 0 40) {h : Nat} (hh : kd h = 1) {σ : Sto} {τ : Stl} {r : Int32}  : Ct E 0 40 yX1_hasDoor cX1_hasDoor 2 (some FieldType.boolean) { frames := 0, cells := 0, slots := 0, locals := 0 } [.ref (E.2.1 h), .int r] σ τ (Pi (bI (s_lt r (σ h 5))) (σ) (τ)) := by
  refine ct_of hE RX1 [some (.ref (E.2.1 h)), some (.int r)] (by decide) rfl (Nat.le_of_ble_eq_true rfl) rfl (fun X => ?_)
  refine g_iload_n (q := 1) dX1_hasDoor_0 rfl rfl ?_
  refine g_if_lt (t := 16) (q := 4) dX1_hasDoor_1 (by decide) rfl (fun c_1 => ?_) (fun c_1 => ?_)
  · refine g_iconst (q := 17) dX1_hasDoor_16 ci_0 rfl ?_
    exact g_zret dX1_hasDoor_17 (by first | decide | exact bI_nar _) (pi_i (by grind [bI, s_lt]) (by rfl) rfl)
  · refine g_iload_n (q := 5) dX1_hasDoor_4 rfl rfl ?_
    refine g_aload_n (q := 6) dX1_hasDoor_5 rfl rfl ?_
    refine f1_5 (q := 9) hh wd_150 dX1_hasDoor_6 rfl ?_
    refine g_icmp_ge (t := 16) (q := 12) dX1_hasDoor_9 (by decide) rfl (fun c_9 => ?_) (fun c_9 => ?_)
    · refine g_iconst (q := 17) dX1_hasDoor_16 ci_0 rfl ?_
      exact g_zret dX1_hasDoor_17 (by first | decide | exact bI_nar _) (pi_i (by grind [bI, s_lt]) (by rfl) rfl)
    · refine g_iconst (q := 13) dX1_hasDoor_12 ci_1 rfl ?_
      refine g_goto (t := 17) dX1_hasDoor_13 (by decide) ?_
      exact g_zret dX1_hasDoor_17 (by first | decide | exact bI_nar _) (pi_i (by grind [bI, s_lt]) (by rfl) rfl)
set_option maxRecDepth 20000 in
set_option maxHeartbeats 4000000 in
theorem c_X1_hasSitter {E : EE} (hE : inj E 0 40) {h : Nat} (hh : kd h = 1) {σ : Sto} {τ : Stl} {r : Int32}  : Ct E 0 40 yX1_hasSitter cX1_hasSitter 2 (some FieldType.boolean) { frames := 0, cells := 0, slots := 0, locals := 0 } [.ref (E.2.1 h), .int r] σ τ (Pi (bI (s_lt r (σ h 7))) (σ) (τ)) := by
  refine ct_of hE RX1 [some (.ref (E.2.1 h)), some (.int r)] (by decide) rfl (Nat.le_of_ble_eq_true rfl) rfl (fun X => ?_)
  refine g_iload_n (q := 1) dX1_hasSitter_0 rfl rfl ?_
  refine g_if_lt (t := 16) (q := 4) dX1_hasSitter_1 (by decide) rfl (fun c_1 => ?_) (fun c_1 => ?_)
  · refine g_iconst (q := 17) dX1_hasSitter_16 ci_0 rfl ?_
    exact g_zret dX1_hasSitter_17 (by first | decide | exact bI_nar _) (pi_i (by grind [bI, s_lt]) (by rfl) rfl)
  · refine g_iload_n (q := 5) dX1_hasSitter_4 rfl rfl ?_
    refine g_aload_n (q := 6) dX1_hasSitter_5 rfl rfl ?_
    refine f1_7 (q := 9) hh wd_157 dX1_hasSitter_6 rfl ?_
    refine g_icmp_ge (t := 16) (q := 12) dX1_hasSitter_9 (by decide) rfl (fun c_9 => ?_) (fun c_9 => ?_)
    · refine g_iconst (q := 17) dX1_hasSitter_16 ci_0 rfl ?_
      exact g_zret dX1_hasSitter_17 (by first | decide | exact bI_nar _) (pi_i (by grind [bI, s_lt]) (by rfl) rfl)
    · refine g_iconst (q := 13) dX1_hasSitter_12 ci_1 rfl ?_
      refine g_goto (t := 17) dX1_hasSitter_13 (by decide) ?_
      exact g_zret dX1_hasSitter_17 (by first | decide | exact bI_nar _) (pi_i (by grind [bI, s_lt]) (by rfl) rfl)
set_option maxRecDepth 20000 in
set_option maxHeartbeats 4000000 in
theorem c_X1_hasRooms {E : EE} (hE : inj E 0 40) {h : Nat} (hh : kd h = 1) {σ : Sto} {τ : Stl} {r : Int32}  : Ct E 0 40 yX1_hasRooms cX1_hasRooms 2 (some FieldType.boolean) { frames := 0, cells := 0, slots := 0, locals := 0 } [.ref (E.2.1 h), .int r] σ τ (Pi (bI (s_lt r (1 <<< (σ h 0 &&& 31)))) (σ) (τ)) := by
  refine ct_of hE RX1 [some (.ref (E.2.1 h)), some (.int r)] (by decide) rfl (Nat.le_of_ble_eq_true rfl) rfl (fun X => ?_)
  refine g_iload_n (q := 1) dX1_hasRooms_0 rfl rfl ?_
  refine g_if_lt (t := 18) (q := 4) dX1_hasRooms_1 (by decide) rfl (fun c_1 => ?_) (fun c_1 => ?_)
  · refine g_iconst (q := 19) dX1_hasRooms_18 ci_0 rfl ?_
    exact g_zret dX1_hasRooms_19 (by first | decide | exact bI_nar _) (pi_i (by grind [bI, s_lt]) (by rfl) rfl)
  · refine g_iload_n (q := 5) dX1_hasRooms_4 rfl rfl ?_
    refine g_iconst (q := 6) dX1_hasRooms_5 ci_1 rfl ?_
    refine g_aload_n (q := 7) dX1_hasRooms_6 rfl rfl ?_
    refine f1_0 (q := 10) hh wd_138 dX1_hasRooms_7 rfl ?_
    refine g_ishl (q := 11) dX1_hasRooms_10 rfl ?_
    refine g_icmp_ge (t := 18) (q := 14) dX1_hasRooms_11 (by decide) rfl (fun c_11 => ?_) (fun c_11 => ?_)
    · refine g_iconst (q := 19) dX1_hasRooms_18 ci_0 rfl ?_
      exact g_zret dX1_hasRooms_19 (by first | decide | exact bI_nar _) (pi_i (by grind [bI, s_lt]) (by rfl) rfl)
    · refine g_iconst (q := 15) dX1_hasRooms_14 ci_1 rfl ?_
      refine g_goto (t := 19) dX1_hasRooms_15 (by decide) ?_
      exact g_zret dX1_hasRooms_19 (by first | decide | exact bI_nar _) (pi_i (by grind [bI, s_lt]) (by rfl) rfl)
set_option maxRecDepth 20000 in
set_option maxHeartbeats 4000000 in
theorem c_X1_isOpen {E : EE} (hE : inj E 0 40) {h : Nat} (hh : kd h = 1) {σ : Sto} {τ : Stl} {d : Int32}  : Ct E 0 40 yX1_isOpen cX1_isOpen 2 (some FieldType.boolean) { frames := 0, cells := 0, slots := 0, locals := 0 } [.ref (E.2.1 h), .int d] σ τ (Pi (bI (!((σ h 6 >>> (d &&& 31)) &&& 1 == 0))) (σ) (τ)) := by
  refine ct_of hE RX1 [some (.ref (E.2.1 h)), some (.int d)] (by decide) rfl (Nat.le_of_ble_eq_true rfl) rfl (fun X => ?_)
  refine g_aload_n (q := 1) dX1_isOpen_0 rfl rfl ?_
  refine f1_6 (q := 4) hh wd_154 dX1_isOpen_1 rfl ?_
  refine g_iload_n (q := 5) dX1_isOpen_4 rfl rfl ?_
  refine g_ishr (q := 6) dX1_isOpen_5 rfl ?_
  refine g_iconst (q := 7) dX1_isOpen_6 ci_1 rfl ?_
  refine g_iand (q := 8) dX1_isOpen_7 rfl ?_
  refine g_if_eq (t := 15) (q := 11) dX1_isOpen_8 (by decide) rfl (fun c_8 => ?_) (fun c_8 => ?_)
  · refine g_iconst (q := 16) dX1_isOpen_15 ci_0 rfl ?_
    exact g_zret dX1_isOpen_16 (by first | decide | exact bI_nar _) (pi_i (by simp_all [bI]) (by rfl) rfl)
  · refine g_iconst (q := 12) dX1_isOpen_11 ci_1 rfl ?_
    refine g_goto (t := 16) dX1_isOpen_12 (by decide) ?_
    exact g_zret dX1_isOpen_16 (by first | decide | exact bI_nar _) (pi_i (by simp_all [bI]) (by rfl) rfl)
set_option maxRecDepth 20000 in
set_option maxHeartbeats 4000000 in
theorem c_X1_moveDoors {E : EE} (hE : inj E 0 40) {h : Nat} (hh : kd h = 1) {σ : Sto} {τ : Stl} {b : Int32}  : Ct E 0 40 yX1_moveDoors cX1_moveDoors 2 none { frames := 0, cells := 0, slots := 0, locals := 0 } [.ref (E.2.1 h), .int b] σ τ (Pv (upc σ h (upd (σ h) 6 (σ h 6 ^^^ b))) (τ)) := by
  refine ct_of hE RX1 [some (.ref (E.2.1 h)), some (.int b)] (by decide) rfl (Nat.le_of_ble_eq_true rfl) rfl (fun X => ?_)
  refine g_aload_n (q := 1) dX1_moveDoors_0 rfl rfl ?_
  refine g_dup (q := 2) dX1_moveDoors_1 rfl rfl ?_
  refine f1_6 (q := 5) hh wd_154 dX1_moveDoors_2 rfl ?_
  refine g_iload_n (q := 6) dX1_moveDoors_5 rfl rfl ?_
  refine g_ixor (q := 7) dX1_moveDoors_6 rfl ?_
  refine p1_6 (q := 10) hh wd_154 dX1_moveDoors_7 rfl ?_
  exact g_vret dX1_moveDoors_10 (pv_i (by rfl) rfl)
set_option maxRecDepth 20000 in
set_option maxHeartbeats 4000000 in
theorem c_X1_isShivering {E : EE} (hE : inj E 0 40) {h : Nat} (hh : kd h = 1) {σ : Sto} {τ : Stl} {s : Int32} (w : WFH σ h) (hs : vp_in s 5) (hl : s.toNatClampNeg < (σ h 7).toNatClampNeg) : Ct E 0 40 yX1_isShivering cX1_isShivering 2 (some FieldType.boolean) { frames := 0, cells := 0, slots := 0, locals := 0 } [.ref (E.2.1 h), .int s] σ τ (Pi (bI (decide (σ h 3 < σ (h + 6) ((σ (h + 4) (s.toNatClampNeg)).toNatClampNeg)))) (σ) (τ)) := by
  refine ct_of hE RX1 [some (.ref (E.2.1 h)), some (.int s)] (by decide) rfl (Nat.le_of_ble_eq_true rfl) rfl (fun X => ?_)
  refine g_aload_n (q := 1) dX1_isShivering_0 rfl rfl ?_
  refine f1_13 (q := 4) hh wd_176 dX1_isShivering_1 rfl ?_
  refine g_aload_n (q := 5) dX1_isShivering_4 rfl rfl ?_
  refine f1_11 (q := 8) hh wd_168 dX1_isShivering_5 rfl ?_
  refine g_iload_n (q := 9) dX1_isShivering_8 rfl rfl ?_
  refine g_aldH (q := 10) (c := 4) hh (by decide) (by decide) (show vp_in _ 5 by first | exact hs | exact (w.2.2 _ hl).2) dX1_isShivering_9 rfl ?_
  refine g_aldH (q := 11) (c := 6) hh (by decide) (by decide) (show vp_in _ 6 by first | exact hs | exact (w.2.2 _ hl).2) dX1_isShivering_10 rfl ?_
  refine g_aload_n (q := 12) dX1_isShivering_11 rfl rfl ?_
  refine f1_3 (q := 15) hh wd_145 dX1_isShivering_12 rfl ?_
  refine g_icmp_le (t := 22) (q := 18) dX1_isShivering_15 (by decide) rfl (fun c_15 => ?_) (fun c_15 => ?_)
  · refine g_iconst (q := 23) dX1_isShivering_22 ci_0 rfl ?_
    exact g_zret dX1_isShivering_23 (by first | decide | exact bI_nar _) (pi_i (by grind [bI]) (by rfl) rfl)
  · refine g_iconst (q := 19) dX1_isShivering_18 ci_1 rfl ?_
    refine g_goto (t := 23) dX1_isShivering_19 (by decide) ?_
    exact g_zret dX1_isShivering_23 (by first | decide | exact bI_nar _) (pi_i (by grind [bI]) (by rfl) rfl)
def s_chill (k f : Int32) : Int32 := if k = 3 then -f else if k = 4 then -2 * f else if k = 5 then f else 0
def s_isA (k o : Int32) : Bool := o == 0 || k == o || (o == 1 && (k == 2 || k == 3)) || (o == 4 && k == 5)
set_option maxRecDepth 20000 in
set_option maxHeartbeats 4000000 in
theorem c_X1_chill {E : EE} (hE : inj E 0 40) {σ : Sto} {τ : Stl} {k f : Int32}  : Ct E 0 40 yX1_chill cX1_chill 2 (some FieldType.int) { frames := 0, cells := 0, slots := 0, locals := 0 } [.int k, .int f] σ τ (Pi (s_chill k f) (σ) (τ)) := by
  refine ct_of hE RX1 [some (.int k), some (.int f)] (by decide) rfl (Nat.le_of_ble_eq_true rfl) rfl (fun X => ?_)
  refine g_iload_n (q := 1) dX1_chill_0 rfl rfl ?_
  rcases tab_3_5 _ with c_1 | c_1 | c_1 | c_1
  · refine g_tabOut (t := 38) dX1_chill_1 c_1 (by decide) ?_
    refine g_iconst (q := 39) dX1_chill_38 ci_0 rfl ?_
    exact g_iret dX1_chill_39 (pi_i (by first | (rw [c_1]; rfl) | (have n3 : ¬ k = 3 := (fun e => by rw [e] at c_1; exact absurd c_1 (by decide)); have n4 : ¬ k = 4 := (fun e => by rw [e] at c_1; exact absurd c_1 (by decide)); have n5 : ¬ k = 5 := (fun e => by rw [e] at c_1; exact absurd c_1 (by decide)); simp [s_chill, n3, n4, n5])) (by rfl) rfl)
  · refine g_tabV (t := 28) c_1 dX1_chill_1 (by decide) (by decide) rfl (by decide) ?_
    refine g_iload_n (q := 29) dX1_chill_28 rfl rfl ?_
    refine g_ineg (q := 30) dX1_chill_29 rfl ?_
    exact g_iret dX1_chill_30 (pi_i (by first | (rw [c_1]; rfl) | (have n3 : ¬ k = 3 := (fun e => by rw [e] at c_1; exact absurd c_1 (by decide)); have n4 : ¬ k = 4 := (fun e => by rw [e] at c_1; exact absurd c_1 (by decide)); have n5 : ¬ k = 5 := (fun e => by rw [e] at c_1; exact absurd c_1 (by decide)); simp [s_chill, n3, n4, n5])) (by rfl) rfl)
  · refine g_tabV (t := 31) c_1 dX1_chill_1 (by decide) (by decide) rfl (by decide) ?_
    refine g_bipush (q := 33) dX1_chill_31 cb_m2 rfl ?_
    refine g_iload_n (q := 34) dX1_chill_33 rfl rfl ?_
    refine g_imul (q := 35) dX1_chill_34 rfl ?_
    exact g_iret dX1_chill_35 (pi_i (by first | (rw [c_1]; rfl) | (have n3 : ¬ k = 3 := (fun e => by rw [e] at c_1; exact absurd c_1 (by decide)); have n4 : ¬ k = 4 := (fun e => by rw [e] at c_1; exact absurd c_1 (by decide)); have n5 : ¬ k = 5 := (fun e => by rw [e] at c_1; exact absurd c_1 (by decide)); simp [s_chill, n3, n4, n5])) (by rfl) rfl)
  · refine g_tabV (t := 36) c_1 dX1_chill_1 (by decide) (by decide) rfl (by decide) ?_
    refine g_iload_n (q := 37) dX1_chill_36 rfl rfl ?_
    exact g_iret dX1_chill_37 (pi_i (by first | (rw [c_1]; rfl) | (have n3 : ¬ k = 3 := (fun e => by rw [e] at c_1; exact absurd c_1 (by decide)); have n4 : ¬ k = 4 := (fun e => by rw [e] at c_1; exact absurd c_1 (by decide)); have n5 : ¬ k = 5 := (fun e => by rw [e] at c_1; exact absurd c_1 (by decide)); simp [s_chill, n3, n4, n5])) (by rfl) rfl)
set_option maxRecDepth 20000 in
set_option maxHeartbeats 4000000 in
theorem c_X1_isA {E : EE} (hE : inj E 0 40) {σ : Sto} {τ : Stl} {k o : Int32}  : Ct E 0 40 yX1_isA cX1_isA 2 (some FieldType.boolean) { frames := 0, cells := 0, slots := 0, locals := 0 } [.int k, .int o] σ τ (Pi (bI (s_isA k o)) (σ) (τ)) := by
  refine ct_of hE RX1 [some (.int k), some (.int o)] (by decide) rfl (Nat.le_of_ble_eq_true rfl) rfl (fun X => ?_)
  refine g_iload_n (q := 1) dX1_isA_0 rfl rfl ?_
  refine g_if_eq (t := 9) (q := 4) dX1_isA_1 (by decide) rfl (fun c_1 => ?_) (fun c_1 => ?_)
  · refine g_iconst (q := 10) dX1_isA_9 ci_1 rfl ?_
    exact g_zret dX1_isA_10 (by first | decide | exact bI_nar _) (pi_i (by simp_all [bI, s_isA]) (by rfl) rfl)
  · refine g_iload_n (q := 5) dX1_isA_4 rfl rfl ?_
    refine g_iload_n (q := 6) dX1_isA_5 rfl rfl ?_
    refine g_icmp_ne (t := 11) (q := 9) dX1_isA_6 (by decide) rfl (fun c_6 => ?_) (fun c_6 => ?_)
    · refine g_iload_n (q := 12) dX1_isA_11 rfl rfl ?_
      refine g_iconst (q := 13) dX1_isA_12 ci_1 rfl ?_
      refine g_icmp_ne (t := 32) (q := 16) dX1_isA_13 (by decide) rfl (fun c_13 => ?_) (fun c_13 => ?_)
      · refine g_iload_n (q := 33) dX1_isA_32 rfl rfl ?_
        refine g_iconst (q := 34) dX1_isA_33 ci_4 rfl ?_
        refine g_icmp_ne (t := 46) (q := 37) dX1_isA_34 (by decide) rfl (fun c_34 => ?_) (fun c_34 => ?_)
        · refine g_iconst (q := 47) dX1_isA_46 ci_0 rfl ?_
          exact g_zret dX1_isA_47 (by first | decide | exact bI_nar _) (pi_i (by simp_all [bI, s_isA]) (by rfl) rfl)
        · refine g_iload_n (q := 38) dX1_isA_37 rfl rfl ?_
          refine g_iconst (q := 39) dX1_isA_38 ci_5 rfl ?_
          refine g_icmp_ne (t := 46) (q := 42) dX1_isA_39 (by decide) rfl (fun c_39 => ?_) (fun c_39 => ?_)
          · refine g_iconst (q := 47) dX1_isA_46 ci_0 rfl ?_
            exact g_zret dX1_isA_47 (by first | decide | exact bI_nar _) (pi_i (by simp_all [bI, s_isA]) (by rfl) rfl)
          · refine g_iconst (q := 43) dX1_isA_42 ci_1 rfl ?_
            refine g_goto (t := 47) dX1_isA_43 (by decide) ?_
            exact g_zret dX1_isA_47 (by first | decide | exact bI_nar _) (pi_i (by simp_all [bI, s_isA]) (by rfl) rfl)
      · refine g_iload_n (q := 17) dX1_isA_16 rfl rfl ?_
        refine g_iconst (q := 18) dX1_isA_17 ci_2 rfl ?_
        refine g_icmp_eq (t := 26) (q := 21) dX1_isA_18 (by decide) rfl (fun c_18 => ?_) (fun c_18 => ?_)
        · refine g_iconst (q := 27) dX1_isA_26 ci_1 rfl ?_
          refine g_goto (t := 31) dX1_isA_27 (by decide) ?_
          exact g_zret dX1_isA_31 (by first | decide | exact bI_nar _) (pi_i (by simp_all [bI, s_isA]) (by rfl) rfl)
        · refine g_iload_n (q := 22) dX1_isA_21 rfl rfl ?_
          refine g_iconst (q := 23) dX1_isA_22 ci_3 rfl ?_
          refine g_icmp_ne (t := 30) (q := 26) dX1_isA_23 (by decide) rfl (fun c_23 => ?_) (fun c_23 => ?_)
          · refine g_iconst (q := 31) dX1_isA_30 ci_0 rfl ?_
            exact g_zret dX1_isA_31 (by first | decide | exact bI_nar _) (pi_i (by simp_all [bI, s_isA]) (by rfl) rfl)
          · refine g_iconst (q := 27) dX1_isA_26 ci_1 rfl ?_
            refine g_goto (t := 31) dX1_isA_27 (by decide) ?_
            exact g_zret dX1_isA_31 (by first | decide | exact bI_nar _) (pi_i (by simp_all [bI, s_isA]) (by rfl) rfl)
    · refine g_iconst (q := 10) dX1_isA_9 ci_1 rfl ?_
      exact g_zret dX1_isA_10 (by first | decide | exact bI_nar _) (pi_i (by simp_all [bI, s_isA]) (by rfl) rfl)
set_option maxRecDepth 20000 in
set_option maxHeartbeats 4000000 in
theorem c_X1_setLaw {E : EE} (hE : inj E 0 40) {h : Nat} (hh : kd h = 1) {σ : Sto} {τ : Stl} {a b c d : Int32}  : Ct E 0 40 yX1_setLaw cX1_setLaw 5 none { frames := 0, cells := 0, slots := 0, locals := 0 } [.ref (E.2.1 h), .int a, .int b, .int c, .int d] σ τ (Pv (upc σ h (upd (upd (upd (upd (σ h) 0 a) 1 b) 2 c) 3 d)) (τ)) := by
  refine ct_of hE RX1 [some (.ref (E.2.1 h)), some (.int a), some (.int b), some (.int c), some (.int d)] (by decide) rfl (Nat.le_of_ble_eq_true rfl) rfl (fun X => ?_)
  refine g_aload_n (q := 1) dX1_setLaw_0 rfl rfl ?_
  refine g_iload_n (q := 2) dX1_setLaw_1 rfl rfl ?_
  refine p1_0 (q := 5) hh wd_138 dX1_setLaw_2 rfl ?_
  refine g_aload_n (q := 6) dX1_setLaw_5 rfl rfl ?_
  refine g_iload_n (q := 7) dX1_setLaw_6 rfl rfl ?_
  refine p1_1 (q := 10) hh wd_142 dX1_setLaw_7 rfl ?_
  refine g_aload_n (q := 11) dX1_setLaw_10 rfl rfl ?_
  refine g_iload_n (q := 12) dX1_setLaw_11 rfl rfl ?_
  refine p1_2 (q := 15) hh wd_144 dX1_setLaw_12 rfl ?_
  refine g_aload_n (q := 16) dX1_setLaw_15 rfl rfl ?_
  refine g_iload (q := 18) dX1_setLaw_16 rfl rfl ?_
  refine p1_3 (q := 21) hh wd_145 dX1_setLaw_18 rfl ?_
  exact g_vret dX1_setLaw_21 (pv_i (by simp only [upc_upc, upc_same]) rfl)
def s_addDoor (σ : Sto) (h : Nat) (a b o : Int32) : Sto := upc (upc (upc σ (h + 1) (upd (σ (h + 1)) ((σ h 5).toNatClampNeg) a)) (h + 2) (upd (σ (h + 2)) ((σ h 5).toNatClampNeg) b)) h (upd (if o = 0 then σ h else upd (σ h) 6 (σ h 6 ||| (1 <<< (σ h 5 &&& 31)))) 5 (σ h 5 + 1))
def s_addSitter (σ : Sto) (h : Nat) (k r f : Int32) : Sto := upc (upc (upc (upc σ (h + 3) (upd (σ (h + 3)) ((σ h 7).toNatClampNeg) k)) (h + 4) (upd (σ (h + 4)) ((σ h 7).toNatClampNeg) r)) (h + 5) (upd (σ (h + 5)) ((σ h 7).toNatClampNeg) f)) h (upd (σ h) 7 (σ h 7 + 1))
set_option maxRecDepth 20000 in
set_option maxHeartbeats 4000000 in
theorem c_X1_addDoor {E : EE} (hE : inj E 0 40) {h : Nat} (hh : kd h = 1) {σ : Sto} {τ : Stl} {a b o : Int32} (hd : vp_in (σ h 5) 8) : Ct E 0 40 yX1_addDoor cX1_addDoor 4 none { frames := 0, cells := 0, slots := 0, locals := 0 } [.ref (E.2.1 h), .int a, .int b, .int o] σ τ (Pv (s_addDoor σ h a b o) (τ)) := by
  refine ct_of hE RX1 [some (.ref (E.2.1 h)), some (.int a), some (.int b), some (.int o)] (by decide) rfl (Nat.le_of_ble_eq_true rfl) rfl (fun X => ?_)
  refine g_aload_n (q := 1) dX1_addDoor_0 rfl rfl ?_
  refine f1_8 (q := 4) hh wd_160 dX1_addDoor_1 rfl ?_
  refine g_aload_n (q := 5) dX1_addDoor_4 rfl rfl ?_
  refine f1_5 (q := 8) hh wd_150 dX1_addDoor_5 rfl ?_
  refine g_iload_n (q := 9) dX1_addDoor_8 rfl rfl ?_
  refine g_astH (q := 10) (c := 1) hh (by decide) (by decide) (show vp_in _ 8 by first | exact hd | (simp [upc]; exact hd)) dX1_addDoor_9 rfl ?_
  refine g_aload_n (q := 11) dX1_addDoor_10 rfl rfl ?_
  refine f1_9 (q := 14) hh wd_162 dX1_addDoor_11 rfl ?_
  refine g_aload_n (q := 15) dX1_addDoor_14 rfl rfl ?_
  refine f1_5 (q := 18) hh wd_150 dX1_addDoor_15 rfl ?_
  refine g_iload_n (q := 19) dX1_addDoor_18 rfl rfl ?_
  refine g_astH (q := 20) (c := 2) hh (by decide) (by decide) (show vp_in _ 8 by first | exact hd | (simp [upc]; exact hd)) dX1_addDoor_19 rfl ?_
  refine g_iload_n (q := 21) dX1_addDoor_20 rfl rfl ?_
  refine g_if_eq (t := 39) (q := 24) dX1_addDoor_21 (by decide) rfl (fun c_21 => ?_) (fun c_21 => ?_)
  · refine g_aload_n (q := 40) dX1_addDoor_39 rfl rfl ?_
    refine g_dup (q := 41) dX1_addDoor_40 rfl rfl ?_
    refine f1_5 (q := 44) hh wd_150 dX1_addDoor_41 rfl ?_
    refine g_iconst (q := 45) dX1_addDoor_44 ci_1 rfl ?_
    refine g_iadd (q := 46) dX1_addDoor_45 rfl ?_
    refine p1_5 (q := 49) hh wd_150 dX1_addDoor_46 rfl ?_
    exact g_vret dX1_addDoor_49 (pv_i (by simp [s_addDoor, upc, upd, upc_upc, c_21]; try (funext a; split <;> simp_all)) rfl)
  · refine g_aload_n (q := 25) dX1_addDoor_24 rfl rfl ?_
    refine g_dup (q := 26) dX1_addDoor_25 rfl rfl ?_
    refine f1_6 (q := 29) hh wd_154 dX1_addDoor_26 rfl ?_
    refine g_iconst (q := 30) dX1_addDoor_29 ci_1 rfl ?_
    refine g_aload_n (q := 31) dX1_addDoor_30 rfl rfl ?_
    refine f1_5 (q := 34) hh wd_150 dX1_addDoor_31 rfl ?_
    refine g_ishl (q := 35) dX1_addDoor_34 rfl ?_
    refine g_ior (q := 36) dX1_addDoor_35 rfl ?_
    refine p1_6 (q := 39) hh wd_154 dX1_addDoor_36 rfl ?_
    refine g_aload_n (q := 40) dX1_addDoor_39 rfl rfl ?_
    refine g_dup (q := 41) dX1_addDoor_40 rfl rfl ?_
    refine f1_5 (q := 44) hh wd_150 dX1_addDoor_41 rfl ?_
    refine g_iconst (q := 45) dX1_addDoor_44 ci_1 rfl ?_
    refine g_iadd (q := 46) dX1_addDoor_45 rfl ?_
    refine p1_5 (q := 49) hh wd_150 dX1_addDoor_46 rfl ?_
    exact g_vret dX1_addDoor_49 (pv_i (by simp [s_addDoor, upc, upd, upc_upc, c_21]; try (funext a; split <;> simp_all)) rfl)
set_option maxRecDepth 20000 in
set_option maxHeartbeats 4000000 in
theorem c_X1_addSitter {E : EE} (hE : inj E 0 40) {h : Nat} (hh : kd h = 1) {σ : Sto} {τ : Stl} {k r f : Int32} (hd : vp_in (σ h 7) 5) : Ct E 0 40 yX1_addSitter cX1_addSitter 4 none { frames := 0, cells := 0, slots := 0, locals := 0 } [.ref (E.2.1 h), .int k, .int r, .int f] σ τ (Pv (s_addSitter σ h k r f) (τ)) := by
  refine ct_of hE RX1 [some (.ref (E.2.1 h)), some (.int k), some (.int r), some (.int f)] (by decide) rfl (Nat.le_of_ble_eq_true rfl) rfl (fun X => ?_)
  refine g_aload_n (q := 1) dX1_addSitter_0 rfl rfl ?_
  refine f1_10 (q := 4) hh wd_164 dX1_addSitter_1 rfl ?_
  refine g_aload_n (q := 5) dX1_addSitter_4 rfl rfl ?_
  refine f1_7 (q := 8) hh wd_157 dX1_addSitter_5 rfl ?_
  refine g_iload_n (q := 9) dX1_addSitter_8 rfl rfl ?_
  refine g_astH (q := 10) (c := 3) hh (by decide) (by decide) (show vp_in _ 5 by first | exact hd | (simp [upc]; exact hd)) dX1_addSitter_9 rfl ?_
  refine g_aload_n (q := 11) dX1_addSitter_10 rfl rfl ?_
  refine f1_11 (q := 14) hh wd_168 dX1_addSitter_11 rfl ?_
  refine g_aload_n (q := 15) dX1_addSitter_14 rfl rfl ?_
  refine f1_7 (q := 18) hh wd_157 dX1_addSitter_15 rfl ?_
  refine g_iload_n (q := 19) dX1_addSitter_18 rfl rfl ?_
  refine g_astH (q := 20) (c := 4) hh (by decide) (by decide) (show vp_in _ 5 by first | exact hd | (simp [upc]; exact hd)) dX1_addSitter_19 rfl ?_
  refine g_aload_n (q := 21) dX1_addSitter_20 rfl rfl ?_
  refine f1_12 (q := 24) hh wd_173 dX1_addSitter_21 rfl ?_
  refine g_aload_n (q := 25) dX1_addSitter_24 rfl rfl ?_
  refine f1_7 (q := 28) hh wd_157 dX1_addSitter_25 rfl ?_
  refine g_iload_n (q := 29) dX1_addSitter_28 rfl rfl ?_
  refine g_astH (q := 30) (c := 5) hh (by decide) (by decide) (show vp_in _ 5 by first | exact hd | (simp [upc]; exact hd)) dX1_addSitter_29 rfl ?_
  refine g_aload_n (q := 31) dX1_addSitter_30 rfl rfl ?_
  refine g_dup (q := 32) dX1_addSitter_31 rfl rfl ?_
  refine f1_7 (q := 35) hh wd_157 dX1_addSitter_32 rfl ?_
  refine g_iconst (q := 36) dX1_addSitter_35 ci_1 rfl ?_
  refine g_iadd (q := 37) dX1_addSitter_36 rfl ?_
  refine p1_7 (q := 40) hh wd_157 dX1_addSitter_37 rfl ?_
  exact g_vret dX1_addSitter_40 (pv_i (by simp [s_addSitter, upc, upd, upc_upc]; try (funext a; split <;> simp_all)) rfl)
def bec (σ : Sto) (h o : Nat) : Sto := fun k => if h ≤ k ∧ k < h + 7 then σ (o + (k - h)) else σ k
theorem h_far {h o c d : Nat} (hh : kd h = 1) (ho : kd o = 1) (hno : h ≠ o) (hc : c ≤ 6) (hd : d ≤ 6) : h + c ≠ o + d := by
  rcases h_is hh with rfl | rfl | rfl | rfl <;> rcases h_is ho with rfl | rfl | rfl | rfl <;> omega
def pf_ (s : Sto) (h o j : Nat) : Sto := upc s h (upd (s h) j (s o j))
def pc_ (s : Sto) (h o c n : Nat) : Sto := upc s (h + c) (va_cpy (s (o + c)) (s (h + c)) 0 0 n)
theorem pf_at (s : Sto) (h o j k i : Nat) : pf_ s h o j k i = if k = h ∧ i = j then s o j else s k i := by
  unfold pf_ upc upd
  by_cases h1 : k = h
  · subst h1
    by_cases h2 : i = j <;> simp [h2]
  · simp [h1]
theorem pc_at (s : Sto) (h o c n k i : Nat) : pc_ s h o c n k i = if k = h + c ∧ i < n then s (o + c) i else s k i := by
  unfold pc_ upc va_cpy
  by_cases h1 : k = h + c
  · subst h1
    by_cases h2 : i < n <;> simp [h2]
  · simp [h1]
theorem lu_h {h : Nat} (hh : kd h = 1) : lu h = 8 := by unfold lu; rw [if_pos hh]
theorem lu_hc {h c : Nat} (hh : kd h = 1) (h1 : 1 ≤ c) (h2 : c ≤ 6) : lu (h + c) = lnH c := by
  unfold lu
  rw [if_neg (by rw [(h_arr hh h1 h2).1]; decide), (h_arr hh h1 h2).2.1]
theorem bec_eqv {σ : Sto} {h o : Nat} (hh : kd h = 1) (ho : kd o = 1) (hno : h ≠ o) : eqv (pc_ (pc_ (pc_ (pc_ (pc_ (pc_ (pf_ (pf_ (pf_ (pf_ (pf_ (pf_ (pf_ (pf_ σ h o 0) h o 1) h o 2) h o 3) h o 4) h o 5) h o 6) h o 7) h o 1 8) h o 2 8) h o 3 5) h o 4 5) h o 5 5) h o 6 6) (bec σ h o) := by
  have hf1 : ∀ c d, c ≤ 6 → d ≤ 6 → ¬ (o + d = h + c) := fun c d hc hd e => h_far hh ho hno hc hd e.symm
  have hf2 : ∀ c, c ≤ 6 → ¬ (o = h + c) := fun c hc e => h_far (d := 0) hh ho hno hc (by omega) e.symm
  have hf3 : ∀ d, d ≤ 6 → ¬ (o + d = h) := fun d hd e => h_far (c := 0) hh ho hno (by omega) hd e.symm
  have hf4 : ¬ (o = h) := fun e => hno e.symm
  intro k j hj
  unfold bec
  by_cases hk : h ≤ k ∧ k < h + 7
  · rw [if_pos hk]
    obtain ⟨c, rfl, hc⟩ : ∃ c, k = h + c ∧ c ≤ 6 := ⟨k - h, by omega, by omega⟩
    rw [show o + (h + c - h) = o + c by omega]
    rcases (show c = 0 ∨ c = 1 ∨ c = 2 ∨ c = 3 ∨ c = 4 ∨ c = 5 ∨ c = 6 by omega) with rfl | rfl | rfl | rfl | rfl | rfl | rfl
    · rw [Nat.add_zero, lu_h hh] at hj
      rcases (show j = 0 ∨ j = 1 ∨ j = 2 ∨ j = 3 ∨ j = 4 ∨ j = 5 ∨ j = 6 ∨ j = 7 by omega) with rfl | rfl | rfl | rfl | rfl | rfl | rfl | rfl <;> simp [pc_at, pf_at, hf2, hf3, hf4]
    all_goals
      rw [lu_hc hh (by decide) (by decide)] at hj
      simp only [lnH, ln, lnl, List.getD_eq_getElem?_getD] at hj
      simp at hj
      simp [pc_at, pf_at, hf1, hf2, hf3, hf4, hj]
  · rw [if_neg hk]
    have g0 : ∀ c, c ≤ 6 → ¬ (k = h + c) := fun c hc e => hk (by omega)
    have g1 : ¬ (k = h) := fun e => hk (by omega)
    simp [pc_at, pf_at, g0, g1]
set_option maxRecDepth 20000 in
set_option maxHeartbeats 4000000 in
theorem c_X1_become {E : EE} (hE : inj E 0 40) {h : Nat} (hh : kd h = 1) {o : Nat} (ho : kd o = 1) {σ : Sto} {τ : Stl}  (hno : h ≠ o) : Ct E 0 40 yX1_become cX1_become 2 none { frames := 1, cells := 0, slots := 0, locals := 26 } [.ref (E.2.1 h), .ref (E.2.1 o)] σ τ (Pv (bec σ h o) (τ)) := by
  refine ct_of hE RX1 [some (.ref (E.2.1 h)), some (.ref (E.2.1 o))] (by decide) rfl (Nat.le_of_ble_eq_true rfl) rfl (fun X => ?_)
  refine g_aload_n (q := 1) dX1_become_0 rfl rfl ?_
  refine g_aload_n (q := 2) dX1_become_1 rfl rfl ?_
  refine f1_0 (q := 5) ho wd_138 dX1_become_2 rfl ?_
  refine p1_0 (q := 8) hh wd_138 dX1_become_5 rfl ?_
  refine g_aload_n (q := 9) dX1_become_8 rfl rfl ?_
  refine g_aload_n (q := 10) dX1_become_9 rfl rfl ?_
  refine f1_1 (q := 13) ho wd_142 dX1_become_10 rfl ?_
  refine p1_1 (q := 16) hh wd_142 dX1_become_13 rfl ?_
  refine g_aload_n (q := 17) dX1_become_16 rfl rfl ?_
  refine g_aload_n (q := 18) dX1_become_17 rfl rfl ?_
  refine f1_2 (q := 21) ho wd_144 dX1_become_18 rfl ?_
  refine p1_2 (q := 24) hh wd_144 dX1_become_21 rfl ?_
  refine g_aload_n (q := 25) dX1_become_24 rfl rfl ?_
  refine g_aload_n (q := 26) dX1_become_25 rfl rfl ?_
  refine f1_3 (q := 29) ho wd_145 dX1_become_26 rfl ?_
  refine p1_3 (q := 32) hh wd_145 dX1_become_29 rfl ?_
  refine g_aload_n (q := 33) dX1_become_32 rfl rfl ?_
  refine g_aload_n (q := 34) dX1_become_33 rfl rfl ?_
  refine f1_4 (q := 37) ho wd_148 dX1_become_34 rfl ?_
  refine p1_4 (q := 40) hh wd_148 dX1_become_37 rfl ?_
  refine g_aload_n (q := 41) dX1_become_40 rfl rfl ?_
  refine g_aload_n (q := 42) dX1_become_41 rfl rfl ?_
  refine f1_5 (q := 45) ho wd_150 dX1_become_42 rfl ?_
  refine p1_5 (q := 48) hh wd_150 dX1_become_45 rfl ?_
  refine g_aload_n (q := 49) dX1_become_48 rfl rfl ?_
  refine g_aload_n (q := 50) dX1_become_49 rfl rfl ?_
  refine f1_6 (q := 53) ho wd_154 dX1_become_50 rfl ?_
  refine p1_6 (q := 56) hh wd_154 dX1_become_53 rfl ?_
  refine g_aload_n (q := 57) dX1_become_56 rfl rfl ?_
  refine g_aload_n (q := 58) dX1_become_57 rfl rfl ?_
  refine f1_7 (q := 61) ho wd_157 dX1_become_58 rfl ?_
  refine p1_7 (q := 64) hh wd_157 dX1_become_61 rfl ?_
  refine g_aload_n (q := 65) dX1_become_64 rfl rfl ?_
  refine f1_8 (q := 68) ho wd_160 dX1_become_65 rfl ?_
  refine g_iconst (q := 69) dX1_become_68 ci_0 rfl ?_
  refine g_aload_n (q := 70) dX1_become_69 rfl rfl ?_
  refine f1_8 (q := 73) hh wd_160 dX1_become_70 rfl ?_
  refine g_iconst (q := 74) dX1_become_73 ci_0 rfl ?_
  refine g_bipush (q := 76) dX1_become_74 cb_8 rfl ?_
  refine g_copy (q := 79) (k0 := (o + 1)) (k1 := (h + 1)) (Nat.zero_le _) (h_arr ho (by decide : 1 ≤ 1) (by decide)).2.2 (h_arr ho (by decide : 1 ≤ 1) (by decide)).1 (Nat.zero_le _) (h_arr hh (by decide : 1 ≤ 1) (by decide)).2.2 (h_arr hh (by decide : 1 ≤ 1) (by decide)).1 wd_452 wd_354 wd_353 wd_79 (by decide) (by decide) (by decide) (by rw [(h_arr ho (by decide : 1 ≤ 1) (by decide)).2.1]; decide) (by rw [(h_arr hh (by decide : 1 ≤ 1) (by decide)).2.1]; decide) (Nat.le_of_ble_eq_true rfl) (Nat.le_of_ble_eq_true rfl) dX1_become_76 rfl ?_
  refine g_aload_n (q := 80) dX1_become_79 rfl rfl ?_
  refine f1_9 (q := 83) ho wd_162 dX1_become_80 rfl ?_
  refine g_iconst (q := 84) dX1_become_83 ci_0 rfl ?_
  refine g_aload_n (q := 85) dX1_become_84 rfl rfl ?_
  refine f1_9 (q := 88) hh wd_162 dX1_become_85 rfl ?_
  refine g_iconst (q := 89) dX1_become_88 ci_0 rfl ?_
  refine g_bipush (q := 91) dX1_become_89 cb_8 rfl ?_
  refine g_copy (q := 94) (k0 := (o + 2)) (k1 := (h + 2)) (Nat.zero_le _) (h_arr ho (by decide : 1 ≤ 2) (by decide)).2.2 (h_arr ho (by decide : 1 ≤ 2) (by decide)).1 (Nat.zero_le _) (h_arr hh (by decide : 1 ≤ 2) (by decide)).2.2 (h_arr hh (by decide : 1 ≤ 2) (by decide)).1 wd_452 wd_354 wd_353 wd_79 (by decide) (by decide) (by decide) (by rw [(h_arr ho (by decide : 1 ≤ 2) (by decide)).2.1]; decide) (by rw [(h_arr hh (by decide : 1 ≤ 2) (by decide)).2.1]; decide) (Nat.le_of_ble_eq_true rfl) (Nat.le_of_ble_eq_true rfl) dX1_become_91 rfl ?_
  refine g_aload_n (q := 95) dX1_become_94 rfl rfl ?_
  refine f1_10 (q := 98) ho wd_164 dX1_become_95 rfl ?_
  refine g_iconst (q := 99) dX1_become_98 ci_0 rfl ?_
  refine g_aload_n (q := 100) dX1_become_99 rfl rfl ?_
  refine f1_10 (q := 103) hh wd_164 dX1_become_100 rfl ?_
  refine g_iconst (q := 104) dX1_become_103 ci_0 rfl ?_
  refine g_iconst (q := 105) dX1_become_104 ci_5 rfl ?_
  refine g_copy (q := 108) (k0 := (o + 3)) (k1 := (h + 3)) (Nat.zero_le _) (h_arr ho (by decide : 1 ≤ 3) (by decide)).2.2 (h_arr ho (by decide : 1 ≤ 3) (by decide)).1 (Nat.zero_le _) (h_arr hh (by decide : 1 ≤ 3) (by decide)).2.2 (h_arr hh (by decide : 1 ≤ 3) (by decide)).1 wd_452 wd_354 wd_353 wd_79 (by decide) (by decide) (by decide) (by rw [(h_arr ho (by decide : 1 ≤ 3) (by decide)).2.1]; decide) (by rw [(h_arr hh (by decide : 1 ≤ 3) (by decide)).2.1]; decide) (Nat.le_of_ble_eq_true rfl) (Nat.le_of_ble_eq_true rfl) dX1_become_105 rfl ?_
  refine g_aload_n (q := 109) dX1_become_108 rfl rfl ?_
  refine f1_11 (q := 112) ho wd_168 dX1_become_109 rfl ?_
  refine g_iconst (q := 113) dX1_become_112 ci_0 rfl ?_
  refine g_aload_n (q := 114) dX1_become_113 rfl rfl ?_
  refine f1_11 (q := 117) hh wd_168 dX1_become_114 rfl ?_
  refine g_iconst (q := 118) dX1_become_117 ci_0 rfl ?_
  refine g_iconst (q := 119) dX1_become_118 ci_5 rfl ?_
  refine g_copy (q := 122) (k0 := (o + 4)) (k1 := (h + 4)) (Nat.zero_le _) (h_arr ho (by decide : 1 ≤ 4) (by decide)).2.2 (h_arr ho (by decide : 1 ≤ 4) (by decide)).1 (Nat.zero_le _) (h_arr hh (by decide : 1 ≤ 4) (by decide)).2.2 (h_arr hh (by decide : 1 ≤ 4) (by decide)).1 wd_452 wd_354 wd_353 wd_79 (by decide) (by decide) (by decide) (by rw [(h_arr ho (by decide : 1 ≤ 4) (by decide)).2.1]; decide) (by rw [(h_arr hh (by decide : 1 ≤ 4) (by decide)).2.1]; decide) (Nat.le_of_ble_eq_true rfl) (Nat.le_of_ble_eq_true rfl) dX1_become_119 rfl ?_
  refine g_aload_n (q := 123) dX1_become_122 rfl rfl ?_
  refine f1_12 (q := 126) ho wd_173 dX1_become_123 rfl ?_
  refine g_iconst (q := 127) dX1_become_126 ci_0 rfl ?_
  refine g_aload_n (q := 128) dX1_become_127 rfl rfl ?_
  refine f1_12 (q := 131) hh wd_173 dX1_become_128 rfl ?_
  refine g_iconst (q := 132) dX1_become_131 ci_0 rfl ?_
  refine g_iconst (q := 133) dX1_become_132 ci_5 rfl ?_
  refine g_copy (q := 136) (k0 := (o + 5)) (k1 := (h + 5)) (Nat.zero_le _) (h_arr ho (by decide : 1 ≤ 5) (by decide)).2.2 (h_arr ho (by decide : 1 ≤ 5) (by decide)).1 (Nat.zero_le _) (h_arr hh (by decide : 1 ≤ 5) (by decide)).2.2 (h_arr hh (by decide : 1 ≤ 5) (by decide)).1 wd_452 wd_354 wd_353 wd_79 (by decide) (by decide) (by decide) (by rw [(h_arr ho (by decide : 1 ≤ 5) (by decide)).2.1]; decide) (by rw [(h_arr hh (by decide : 1 ≤ 5) (by decide)).2.1]; decide) (Nat.le_of_ble_eq_true rfl) (Nat.le_of_ble_eq_true rfl) dX1_become_133 rfl ?_
  refine g_aload_n (q := 137) dX1_become_136 rfl rfl ?_
  refine f1_13 (q := 140) ho wd_176 dX1_become_137 rfl ?_
  refine g_iconst (q := 141) dX1_become_140 ci_0 rfl ?_
  refine g_aload_n (q := 142) dX1_become_141 rfl rfl ?_
  refine f1_13 (q := 145) hh wd_176 dX1_become_142 rfl ?_
  refine g_iconst (q := 146) dX1_become_145 ci_0 rfl ?_
  refine g_bipush (q := 148) dX1_become_146 cb_6 rfl ?_
  refine g_copy (q := 151) (k0 := (o + 6)) (k1 := (h + 6)) (Nat.zero_le _) (h_arr ho (by decide : 1 ≤ 6) (by decide)).2.2 (h_arr ho (by decide : 1 ≤ 6) (by decide)).1 (Nat.zero_le _) (h_arr hh (by decide : 1 ≤ 6) (by decide)).2.2 (h_arr hh (by decide : 1 ≤ 6) (by decide)).1 wd_452 wd_354 wd_353 wd_79 (by decide) (by decide) (by decide) (by rw [(h_arr ho (by decide : 1 ≤ 6) (by decide)).2.1]; decide) (by rw [(h_arr hh (by decide : 1 ≤ 6) (by decide)).2.1]; decide) (Nat.le_of_ble_eq_true rfl) (Nat.le_of_ble_eq_true rfl) dX1_become_148 rfl ?_
  refine g_eqv (σ' := bec σ h o) ?_ ?_
  · exact bec_eqv hh ho hno
  exact g_vret dX1_become_151 (pv_i (by rfl) rfl)
