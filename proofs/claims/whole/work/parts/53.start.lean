theorem s00_0 {k : Nat} (h1 : k ≠ 4) (h2 : k ≠ 42) (j : Nat) : s00 k j = 0 := by
  unfold s00
  rw [if_neg h1, if_neg h2]
theorem hr_zero {v : Sto} {m : Nat → Int32} (hv : ∀ c, c < 7 → ∀ j, v c j = 0) (hm : ∀ j, m j = 0) : HR v m := by
  have z : ∀ n, 0 < n → n < 100 → vp_in (0 : Int32) n := fun n h1 h2 => vp_in_nI (n := 0) h1 (by omega)
  have v0 := hv 0 (by decide)
  refine ⟨⟨⟨⟨⟨?_, ?_, ?_, ?_⟩, fun d hd => ?_, fun s hs => ?_⟩, ⟨?_, ?_, ?_, ?_⟩, fun d hd => ?_, fun s hs => ?_⟩, ⟨?_, ?_, ?_, ?_, ?_, ?_⟩, fun d hd => ?_, ⟨fun d hd => Or.inl (hm _), ?_⟩, fun s hs => ?_, ⟨?_, ?_⟩, fun h => ?_, fun d hd => ?_⟩, fun r hr => ?_, ?_⟩
  · rw [v0]; exact z 7 (by decide) (by decide)
  · rw [v0]; exact z 6 (by decide) (by decide)
  · rw [v0]; exact z 9 (by decide) (by decide)
  · rw [v0]; exact z 6 (by decide) (by decide)
  · rw [v0] at hd; exact absurd hd (Nat.not_lt_zero d)
  · rw [v0] at hs; exact absurd hs (Nat.not_lt_zero s)
  · rw [hm]; exact z 7 (by decide) (by decide)
  · rw [hm]; exact z 6 (by decide) (by decide)
  · rw [hm]; exact z 9 (by decide) (by decide)
  · rw [hm]; exact z 6 (by decide) (by decide)
  · rw [hm, hm]; exact ⟨z 6 (by decide) (by decide), z 6 (by decide) (by decide)⟩
  · rw [hm]; exact z 6 (by decide) (by decide)
  · rw [v0, hm]
  · rw [v0, hm]
  · rw [v0, hm]
  · rw [v0, hm]
  · rw [v0, hm]
  · rw [v0, hm]
  · rw [hm] at hd; exact absurd hd (Nat.not_lt_zero d)
  · rw [v0, hm]; rfl
  · rw [hm] at hs; exact absurd hs (Nat.not_lt_zero s)
  · rw [hm]; decide
  · rw [hm]; decide
  · rw [hm] at h; exact absurd h (by decide)
  · rw [hm] at hd; exact absurd hd (Nat.not_lt_zero d)
  · rw [hv 6 (by decide), hm]; decide
  · rw [v0, hm]
/-- at the start the two are alike -/
theorem rel_start : REL s00 s00 := by
  have z : ∀ k j, k ≠ 4 → k ≠ 42 → s00 k j = 0 := fun k j h1 h2 => s00_0 h1 h2 j
  have m4 : ∀ r, r < 8 → s00 4 r = -1 := fun r hr => if_pos hr
  have n0 : ∀ i : Nat, ¬ i < (0 : Int32).toNatClampNeg := fun i h => absurd h (Nat.not_lt_zero i)
  have n1 : ∀ i : Nat, ¬ i < (-1 : Int32).toNatClampNeg := fun i h => absurd h (Nat.not_lt_zero i)
  refine ⟨⟨fun r hr => Or.inl (m4 r hr), fun r hr => ⟨rfl, rfl⟩, fun r hr i hi => ?_⟩, ⟨rfl, rfl⟩, ⟨?_, rfl, fun i hi => ?_⟩, ⟨hr_zero (fun c hc j => z _ j (by omega) (by omega)) (fun j => z _ j (by decide) (by decide)), ?_⟩, ⟨⟨?_, ?_⟩, rfl, fun i hi => ?_⟩, fun k hk => ⟨hr_zero (fun c hc j => z _ j (by omega) (by omega)) (fun j => z _ _ (by decide) (by decide)), ?_, fun _ => z _ _ (by decide) (by decide)⟩, ⟨?_, rfl, fun i hi => ?_⟩⟩
  · rw [m4 r hr] at hi; exact absurd hi (n1 i)
  · show vp_in (0 : Int32) 121; exact vp_in_nI (n := 0) (by decide) (by decide)
  · exact absurd hi (n0 i)
  · exact ⟨fun _ => by rw [z 7 0 (by decide) (by decide)]; decide, fun _ => rfl⟩
  · show vp_in (0 : Int32) 24; exact vp_in_nI (n := 0) (by decide) (by decide)
  · show vp_in (0 : Int32) 25; exact vp_in_nI (n := 0) (by decide) (by decide)
  · exact absurd hi (n0 i)
  · exact ⟨fun _ => by rw [z _ 0 (by omega) (by omega)]; decide, fun _ => z _ _ (by decide) (by decide)⟩
  · show vp_in (0 : Int32) 17; exact vp_in_nI (n := 0) (by decide) (by decide)
  · exact absurd hi (n0 i)
set_option maxRecDepth 100000 in
theorem wl_84 : Cond.methodLink R_law 9 yX6_init ∈ gt := in_gt 84 (by decide +kernel) (by decide +kernel)
set_option maxRecDepth 100000 in
theorem wl_844 : Cond.methodLink R_law 12 yX7_init ∈ gt := in_gt 844 (by decide +kernel) (by decide +kernel)
set_option maxRecDepth 100000 in
theorem wl_82 : Cond.classLink R_law 7 RX6 ∈ gt := in_gt 82 (by decide +kernel) (by decide +kernel)
set_option maxRecDepth 100000 in
theorem wl_842 : Cond.classLink R_law 10 RX7 ∈ gt := in_gt 842 (by decide +kernel) (by decide +kernel)
set_option maxRecDepth 100000 in
theorem wn_0 : Cond.methodLinkNest RX6 18 yX5_init RX6 ∈ lw_tbl := List.mem_of_getElem? (i := 109) (by decide +kernel)
set_option maxRecDepth 100000 in
theorem wn_1 : Cond.methodLinkNest RX6 25 yX1_init RX6 ∈ lw_tbl := List.mem_of_getElem? (i := 134) (by decide +kernel)
set_option maxRecDepth 100000 in
theorem wn_2 : Cond.methodLinkNest RX6 32 yX2_init RX6 ∈ lw_tbl := List.mem_of_getElem? (i := 211) (by decide +kernel)
set_option maxRecDepth 100000 in
theorem wn_3 : Cond.methodLinkNest RX6 39 yX4_init RX6 ∈ lw_tbl := List.mem_of_getElem? (i := 228) (by decide +kernel)
set_option maxRecDepth 100000 in
theorem wn_4 : Cond.methodLinkNest RX4 11 yX1_init RX6 ∈ lw_tbl := List.mem_of_getElem? (i := 233) (by decide +kernel)
set_option maxRecDepth 100000 in
theorem wn_5 : Cond.methodLinkNest RX6 46 yX0_init RX6 ∈ lw_tbl := List.mem_of_getElem? (i := 255) (by decide +kernel)
set_option maxRecDepth 100000 in
set_option maxHeartbeats 4000000 in
/-- the law's beginning: both objects are made -/
theorem law_pre {E : EE} {A : Nat → Prop} {X : XX} {b0 : Nat} (kont : ∀ u w : Nat → Nat, N E A room_1 X cL_law R_law 4 18 [some (.ref b0), some (.ref (u 0)), some (.ref (w 0)), some (.int 0)] [] (wf6 E u ++ wf7 E w) 53 3061) : N E A room_1 X cL_law R_law 4 0 [some (.ref b0), none, none, none] [] [] 0 0 := by
  refine n_new (ci := 6) (fs := [.null, .null, .null, .null, .null, .null, .null, .null, .int 0, .int 0]) (q := 3) inC6 tyX6 tyX6_ok wl_82 wm_83 wm_71 rfl dv_6 (Nat.le_of_ble_eq_true rfl) (Nat.le_of_ble_eq_true rfl) dL_law_0 rfl (fun a1 => ?_)
  refine n_dup (q := 4) dL_law_3 rfl rfl ?_
  refine n_callI (q := 7) (k_X6 (E := E)) wl_84 wm_85 wm_71 wm_86 rfl ⟨by decide, by decide, by decide +kernel⟩ rfl rfl (Nat.le_of_ble_eq_true rfl) (Nat.le_of_ble_eq_true rfl) (Nat.le_of_ble_eq_true rfl) ⟨(Nat.le_of_ble_eq_true rfl), (Nat.le_of_ble_eq_true rfl)⟩ dL_law_4 rfl (fun u hu => ?_)
  subst hu
  refine n_astore (j := 1) (q := 8) dL_law_7 rfl (by decide) rfl rfl ?_
  refine n_new (ci := 7) (fs := [.null, .null, .null, .int 0, .int 0, .null, .null, .null, .int 0, .int 0, .int 0, .int 0, .int 0, .int 0, .int 0, .null, .null, .int 0, .null, .null, .null, .null, .int 0]) (q := 11) inC7 tyX7 tyX7_ok wl_842 wm_843 wm_78 rfl dv_7 (Nat.le_of_ble_eq_true rfl) (Nat.le_of_ble_eq_true rfl) dL_law_8 rfl (fun a2 => ?_)
  refine n_dup (q := 12) dL_law_11 rfl rfl ?_
  refine n_callI (q := 15) (k_X7 (E := E)) wl_844 wm_845 wm_78 wm_846 rfl ⟨by decide, by decide, by decide +kernel⟩ rfl rfl (Nat.le_of_ble_eq_true rfl) (Nat.le_of_ble_eq_true rfl) (Nat.le_of_ble_eq_true rfl) ⟨(Nat.le_of_ble_eq_true rfl), (Nat.le_of_ble_eq_true rfl)⟩ dL_law_12 rfl (fun w hw => ?_)
  subst hw
  refine n_astore (j := 2) (q := 16) dL_law_15 rfl (by decide) rfl rfl ?_
  refine n_iconst (q := 17) dL_law_16 ci_0 rfl ?_
  refine n_istore (j := 3) (q := 18) dL_law_17 rfl (by decide) rfl rfl ?_
  exact kont u w
theorem wr_P {E : EE} {lo n lo' n' : Nat} {σ : Sto} {τ : Stl} {D : va_G} {H : Heap} (h : va_P D cls (wr E lo n σ τ) H) (h1 : lo ≤ lo') (h2 : lo' + n' ≤ lo + n) : va_P D cls (wr E lo' n' σ τ) H := by
  intro k q hk
  obtain ⟨e, rfl⟩ := wr_at hk
  exact h _ _ (wr_get (k := lo' + k) (by omega) (by omega))
def ad (u w : Nat → Nat) : Nat → Nat := fun k => if k < 40 then u k else w (k - 40)
set_option maxRecDepth 100000 in
theorem wr_start (E : EE) (u w : Nat → Nat) : wf6 E u ++ wf7 E w = wr (E.1, ad u w, E.2.2) 0 53 s00 t00 := rfl
def lw_P (b : Addr) (xs : List Int32) (args : Array Value) (s : State) : Prop := args = #[.ref b] ∧ s.IntsAt b xs ∧ xs.length ≤ 3072 ∧ (Jvm.Cond.and given_1 narrow_1).before args s = true
def lw_Q (_ : Array Value) (s : State) (o : Outcome) (t : State) : Prop := o = .returned (some (.int 1)) ∧ Framed s o t [] 53 3061
def lw_Z (below : List Frame) (a : Array Value) (s : State) : State → Prop := fun t => ∃ o, t.status = .running ∧ Ended t below o ∧ lw_Q a s o t
/-- the law's own end, with 1 on the stack, nothing written that was there before, its room as the claim has it -/
theorem lw_ret {p : Program} {l : Launch} {e : Env} {s : State} {m : MethodId} {below : List Frame} {meth : Method} {c : Code} {b : Nat} (hx : p.tables.exec = Jvm.exec) (hb : c.code = code) (hr : meth.sig.returnType = ret) (hlocks : meth.locks = false) {pc : Nat} {H : Heap} {ls : Array Slot} (hdg : decode code pc = .ok (.ireturn, 1)) : W p l e room_1 s m #[Value.ref b] below meth c H [] 53 3061 (lw_Z below #[Value.ref b] s) (F0 m pc ls [.int 1]) := by
  intro T hT X
  obtain ⟨fs, hret, hrun, hended, hW, hframe⟩ := X.leave (v := some (.int 1)) (hlocks := hlocks) (fun h => by rw [hr] at h; cases h)
  have hmeth' : T.vm.method? m = some meth := X.method'
  refine ⟨T.setFrames fs, ?_, .returned (some (.int 1)), hrun, hended, rfl, ⟨_, rfl⟩, hW, hframe⟩
  jvm_step X.here [X.here.top, hx, hb, hdg, hmeth', hr, ret, narrow_b1]
  (try refine ⟨rfl, ?_⟩); (try refine ⟨rfl, ?_⟩)
  first | (intro acts; rw [hret _ acts rfl rfl rfl]) | rw [hret _ _ rfl rfl rfl]
  exact Steps.refl _
/-- what holds at the law's entry: the machine, the code, the tables' words (any of lw_tbl by 'hts w (by decide +kernel)'), the script of L ints xs at the cell b, what the Statement gives of the start (any of its parts by flat_of_before) -/
def lw_At (p : Program) (s : State) (m : MethodId) (meth : Method) (c : Code) (b L : Nat) (xs : Nat → Int32) : Prop :=
  p.tables.exec = Jvm.exec ∧ c.code = code ∧ meth.sig.returnType = ret ∧ c.maxLocals = 4 ∧ s.vm.findClass R_law = some m.cls ∧ (∀ w ∈ lw_tbl, w.before #[Value.ref b] s = true) ∧ va_X b L xs s s.heap ∧ b < s.heap.size ∧ meth.locks = false ∧ (Jvm.Cond.and given_1 narrow_1).before #[Value.ref b] s = true
theorem whole_start {p : Program} {e : Env} {s : State} {m : MethodId} {below : List Frame} {meth : Method} {c : Code} (l : Launch) {b L : Nat} {xs : Nat → Int32} (hL : L ≤ 3072) (C0 : lw_At p s m meth c b L xs) : W p l e room_1 s m #[Value.ref b] below meth c s.heap [] 0 0 (lw_Z below #[Value.ref b] s) (entryFrame m ([Value.ref b] : List Value).toArray 4) := by
  obtain ⟨hx, hcode, hret, hml, hown, hts, hX, hbl, hlk, -⟩ := C0
  have hg : ∀ w ∈ gt, w.before #[Value.ref b] s = true := fun w hw => hts w (List.mem_filter.mp hw).1
  obtain ⟨c0, i0, k0⟩ := u_known hg inC0 (hg _ wm_254)
  obtain ⟨c1, i1, k1⟩ := u_known hg inC1 (hg _ wm_133)
  obtain ⟨c2, i2, k2⟩ := u_known hg inC2 (hg _ wm_210)
  obtain ⟨c3, i3, k3⟩ := u_known hg inC3 (hg _ wm_91)
  obtain ⟨c4, i4, k4⟩ := u_known hg inC4 (hg _ wm_227)
  obtain ⟨c5, i5, k5⟩ := u_known hg inC5 (hg _ wm_108)
  obtain ⟨c6, i6, k6⟩ := u_known hg inC6 (hg _ wm_83)
  obtain ⟨c7, i7, k7⟩ := u_known hg inC7 (hg _ wm_843)
  obtain ⟨cI, kI, pI, fI1, fI2, fI3⟩ := Cond.arrayClass_spec (hg _ wm_106)
  obtain ⟨cZ, kZ, pZ, fZ1, fZ2, fZ3⟩ := Cond.arrayClass_spec (hg _ wm_918)
  let D : va_G := (fun c => match c with | 0 => c0 | 1 => c1 | 2 => c2 | 3 => c3 | 4 => c4 | 5 => c5 | 6 => c6 | _ => c7, fun c => match c with | 0 => i0 | 1 => i1 | 2 => i2 | 3 => i3 | 4 => i4 | 5 => i5 | 6 => i6 | _ => i7)
  have hK : va_K D cls [(cI, FieldType.int), (cZ, FieldType.boolean)] s := by
    refine ⟨fun c q hq => ?_, fun k q hq => ?_⟩
    · match c, hq with
      | 0, hq => cases hq; exact k0
      | 1, hq => cases hq; exact k1
      | 2, hq => cases hq; exact k2
      | 3, hq => cases hq; exact k3
      | 4, hq => cases hq; exact k4
      | 5, hq => cases hq; exact k5
      | 6, hq => cases hq; exact k6
      | 7, hq => cases hq; exact k7
      | n + 8, hq => cases hq
    · match k, hq with
      | 0, hq => cases hq; exact ⟨fun _ _ => ⟨fun _ h => (by cases h), kI, fI2, pI, fI3⟩, fI1⟩
      | 1, hq => cases hq; exact ⟨fun _ _ => ⟨fun _ h => (by cases h), kZ, fZ2, pZ, fZ3⟩, fZ1⟩
      | n + 2, hq => cases hq
  have hNW : NW s := ⟨va_Nw.of rfl (hts _ wn_0), va_Nw.of rfl (hts _ wn_1), va_Nw.of rfl (hts _ wn_2), va_Nw.of rfl (hts _ wn_3), va_Nw.of rfl (hts _ wn_4), va_Nw.of rfl (hts _ wn_5)⟩
  have hl := lv_entry [Value.ref b] (n := 4) (Nat.le_of_ble_eq_true rfl)
  rw [lg_entry_eq]
  refine law_pre (E := (l, fun _ => 0, D, cI, cZ)) (A := fun q => s.heap.size ≤ q) (X := (p, e, s, m, #[Value.ref b], below, meth, c, 53, 3061, lw_Z below #[Value.ref b] s)) (b0 := b) (fun u w => ?_) ⟨hx, hcode, hml, hown, hg, hK, fun q hq => hq, hNW⟩ s.heap [] _ (fun k q hk => by cases hk) ⟨fun i j p q hi => (by cases hi), fun k q hk => (by cases hk)⟩ va_S.rf ⟨hl.1, hl.2.1, fun i v hv => ?_⟩
  · intro _ H locs la hP hD hS hl
    rw [wr_start] at hP hD
    have hinj : inj (l, ad u w, D, cI, cZ) 0 53 := fun i j _ hi _ hj q => by
      have a1 := wr_get (E := (l, ad u w, D, cI, cZ)) (lo := 0) (n := 53) (σ := s00) (τ := t00) (k := i) (Nat.zero_le _) hi
      have a2 := wr_get (E := (l, ad u w, D, cI, cZ)) (lo := 0) (n := 53) (σ := s00) (τ := t00) (k := j) (Nat.zero_le _) hj
      exact hD.1 i j _ _ a1 a2 q
    have hbase : ∀ k, k < 53 → s.heap.size ≤ ad u w k := fun k hk => hD.2 _ _ (wr_get (E := (l, ad u w, D, cI, cZ)) (lo := 0) (n := 53) (σ := s00) (τ := t00) (k := k) (Nat.zero_le _) (by omega))
    refine law_loop (E := (l, ad u w, D, cI, cZ)) (X := (p, e, s, m, #[Value.ref b], below, meth, c, 53, 3061, lw_Z below #[Value.ref b] s)) (b0 := b) (L := L) (xs := xs) (fun i j h1 h2 h3 h4 => hinj i j h1 (by omega) h3 (by omega)) (fun i j h1 h2 h3 h4 => hinj i j (by omega) (by omega) (by omega) (by omega)) hL (fun i a' ta' b' tb' => ?_) (L + 1) 0 (by omega) (Nat.zero_le _) s00 t00 s00 t00 rel_start ⟨hx, hcode, hml, hown, hg, hK, hinj, hbase, hX, hbl, ⟨(Nat.le_of_ble_eq_true rfl), (Nat.le_of_ble_eq_true rfl)⟩⟩ H locs la (wr_P hP (Nat.le_of_ble_eq_true rfl) (Nat.le_of_ble_eq_true rfl)) (wr_P hP (Nat.le_of_ble_eq_true rfl) (Nat.le_of_ble_eq_true rfl)) hS hl
    intro _ H1 locs1 la1 _ _ hS1 _
    exact lv_iconst hx hcode dL_law_1330 ci_1 (va_forget hS1.2.2 (lw_ret hx hcode hret hlk dL_law_1331))
  · match i, hv with
    | 0, hv => cases hv; rfl
    | 1, hv => cases hv
    | 2, hv => cases hv
    | 3, hv => cases hv
    | n + 4, hv => cases hv
set_option maxHeartbeats 4000000 in
theorem lw_walk (l : Launch) (b : Addr) (xs : List Int32) : MetFree l x (headSpec (Jvm.Cond.code x code maxLocals ret :: tables_1) room_1) (lw_P b xs) (fun _ _ _ _ _ => True) lw_Q := by
  refine MetFree.of_bodyS (code := code) (maxLocals := maxLocals) (ret := ret) (by decide) ?_ ?_
  · intro args s m h hn
    obtain ⟨meth, c, h1, h2, h3, h4, h5, h6, -, -⟩ := Cond.code_spec hn (atoms_spec (ws := Jvm.Cond.code x code maxLocals ret :: tables_1) h _ List.mem_cons_self)
    exact ⟨meth, c, h1, h2, h3, h4, h5, h6⟩
  · intro p e s m args below meth c s₁ B hml0 hP _
    obtain ⟨rfl, hx, hbd, hgv⟩ := hP
    obtain ⟨scr, harrAt, hlist, hof, hsmall⟩ := hx
    obtain ⟨hcb, hkn, -, -⟩ := State.arrayAt?_spec harrAt
    have hown : s.vm.findClass R_law = some m.cls := findClass_of_methodNamed B.named
    have hts0 : ∀ c ∈ (Jvm.Cond.code x code maxLocals ret :: tables_1), c.before #[Value.ref b] s = true := atoms_spec (ws := Jvm.Cond.code x code maxLocals ret :: tables_1) B.pre
    have hts : ∀ w ∈ lw_tbl, w.before #[Value.ref b] s = true := k2_hts_sels lw_privs (fun w hw => hts0 w (List.mem_cons_of_mem _ hw)) lw_privs_ok
    have hml : c.maxLocals = 4 := B.maxLocals_eq (hts0 _ List.mem_cons_self)
    have X₀ : Stand p l e room_1 s m #[Value.ref b] below meth c s₁ [] 0 0 := Stand.of_body B
    have hh0 : s₁.heap = s.heap := by rw [B.state]; rfl
    have hsz : scr.slots.size = xs.length := by rw [← Array.length_toList, hlist, List.length_map]
    have hval : ∀ j : Nat, j < xs.length → scr.slots[j]? = some (.int (xs.getD j 0)) := fun j hj => by
      rw [← Array.getElem?_toList, hlist]
      simp [hj]
    have hbl : b < s.heap.size := (Array.getElem?_eq_some_iff.mp hcb).1
    have hX : va_X b xs.length (fun j => xs.getD j 0) s s.heap := ⟨scr, hcb, hof, hkn, hsz, hval⟩
    have K : W p l e room_1 s m #[Value.ref b] below meth c s₁.heap [] 0 0 (lw_Z below #[Value.ref b] s) (entryFrame m ([Value.ref b] : List Value).toArray 4) := by
      rw [hh0]
      exact whole_start l hbd ⟨B.exec, B.bytes, B.returns, hml, hown, hts, hX, hbl, B.notSynchronized, hgv⟩
    obtain ⟨t, a1, o, b1, b2, b3⟩ := K s₁ rfl X₀
    exact ⟨t, o, a1, b1, b2, b3⟩
theorem lw_pre_spec {args : Array Value} {s : State} (h : (Jvm.Cond.and given_1 narrow_1).before args s = true) (hr : rest_1_c.before args s = true) : ∃ (b : Addr) (xs : List Int32), lw_P b xs args s := by
  have hs := flat_of_before _ h
  have hq := flat_of_before _ hr
  have hc : (Cond.count 1).before args s = true := hs _ (by decide +kernel)
  have harr : (Cond.arrayOf (.arg 0) .int).before args s = true := hs _ (by decide +kernel)
  have hle : (Cond.le (.length (.arg 0)) (.int 3072)).before args s = true := hs _ (by decide +kernel)
  have hlen : (Cond.isInt (.length (.arg 0))).before args s = true := hq _ (by decide +kernel)
  have hall : (Cond.all (.arg 0) (.isInt (.elem (.arg 0) (.index 0)))).before args s = true := hq _ (by decide +kernel)
  obtain ⟨b, xs, hb, hx⟩ := State.ints_of_pre rfl harr hlen hall
  have hsm : xs.length < 2 ^ 31 := hx.choose_spec.2.2.2
  have hev : (Term.length (.arg 0)).eval args s none [] s = some (.int xs.length.toInt32) := hx.length_eval hb
  have hv := Cond.le_ints hev (show (Term.int 3072).eval args s none [] s = some (.int 3072) from rfl)
  have hd : xs.length.toInt32 ≤ 3072 := by
    simpa [Cond.before, Cond.holds, hv] using hle
  have hN : xs.length ≤ 3072 := (Int32.ofNat_le_ofNat hsm (by decide)).mp (show Int32.ofNat xs.length ≤ Int32.ofNat 3072 from hd)
  exact ⟨b, xs, Cond.one_arg hc (show args[0]? = some (.ref b) from hb), hx, hN, h⟩
theorem lw_comes (l : Launch) : Comes l x (Jvm.Cond.code x code maxLocals ret :: tables_1) room_1 (fun tb e args s => Calls_1 tb e args s ∧ rest_1 tb e args s ∧ Pre_1 tb e args s)
    (fun _ _ args s o t => lw_Q args s o t) := by
  intro p e ha hc hk s m args below hf hfit hheap happ hpre
  obtain ⟨b, xs, hP⟩ := lw_pre_spec hpre.2.2 hpre.2.1
  obtain ⟨k, o, h1, h2, h3, hQ⟩ := lw_walk l b xs p e ha hc hk s m args below hf ((Spec.applies_iff_loose hf).mp happ).1 hP trivial
  exact ⟨k, o, h1, h2, h3, hQ⟩
theorem lw_frame {s t : State} {o : Outcome} {args : Array Value} (h : Framed s o t [] 53 3061) :
    Framed s o t (fieldLocs frame_1_writes args s ++ arrayLocs frame_1_arrays args s ++ staticLocs frame_1_statics s) 53 3061 := h
theorem lw_limb (L : Cond) (hL : ∀ (args : Array Value) (s t : State), L.after args s (.returned (some (.int 1))) t = true) :
    ArmFor flags0 classFile x code maxLocals ret World_1 tables_1 room_1 Calls_1 rest_1 Pre_1
      (fun tb e a s o t => postC L tb e a s o t ∧ Framed s o t (fieldLocs frame_1_writes a s ++ arrayLocs frame_1_arrays a s ++ staticLocs frame_1_statics s) 53 3061) := by
  intro l _ _ _ p e ha hc hk s m args below hf hfit hheap happ hpre
  obtain ⟨k, o, h1, h2, h3, rfl, hF⟩ := lw_comes l p e ha hc hk s m args below hf hfit hheap happ hpre
  exact ⟨k, _, h1, h2, h3, hL args s _, lw_frame hF⟩
theorem i_vc : Claimed_1_1 ∧ Claimed_1_2 := ⟨lw_limb limb_1_1 (fun args s t => by simp [limb_1_1, Cond.after, Cond.holds, Cond.value]), lw_limb limb_1_2 (fun args s t => Cond.after_iff.mpr (by
  first | (rw [show limb_1_2 = Cond.eq .result (.int 1) from rfl, Cond.eq_ints (x := 1) (y := 1) rfl rfl]; simp; done) | (simp [limb_1_2, Cond.value, Term.eval]; done)))⟩
