/-- what holds all along the law: the machine, the words, the cells' addresses, the script -/
def JC (E : EE) (X : XX) (b0 L : Nat) (xs : Nat → Int32) : Prop :=
  X.1.tables.exec = Jvm.exec ∧ X.2.2.2.2.2.2.2.1.code = cL_law ∧ X.2.2.2.2.2.2.2.1.maxLocals = 4 ∧ X.2.2.1.vm.findClass R_law = some X.2.2.2.1.cls ∧ (∀ w ∈ gt, w.before X.2.2.2.2.1 X.2.2.1 = true) ∧ va_K E.2.2.1 cls (tyl E) X.2.2.1 ∧ inj E 0 53 ∧ (∀ k, k < 53 → X.2.2.1.heap.size ≤ E.2.1 k) ∧ va_X b0 L xs X.2.2.1 X.2.2.1.heap ∧ b0 < X.2.2.1.heap.size ∧ (X.2.2.2.2.2.2.2.2.1 ≤ room_1.cells ∧ X.2.2.2.2.2.2.2.2.2.1 ≤ room_1.slots)
abbrev JA (X : XX) : Nat → Prop := fun q => X.2.2.1.heap.size ≤ q
/-- at pc of the law, with the class's store a and the model's store b -/
def J (E : EE) (X : XX) (b0 L : Nat) (xs : Nat → Int32) (pc : Nat) (ls : List (Option Value)) (st : List Value) (a : Sto) (ta : Stl) (b : Sto) (tb : Stl) : Prop :=
  JC E X b0 L xs → ∀ (H : Heap) (locs : List Loc) (la : Array Slot), va_P E.2.2.1 cls (wr E 0 40 a ta) H → va_P E.2.2.1 cls (wr E 40 13 b tb) H → va_S (JA X) X.2.2.1.heap H locs → lh la 4 ls → WX E room_1 X H locs (F0 X.2.2.2.1 pc la st)
section LAW
variable {E : EE} {X : XX} {b0 L : Nat} {xs : Nat → Int32} {pc q : Nat} {ls : List (Option Value)} {st stk : List Value} {a b : Sto} {ta tb : Stl}
theorem j_iconst {i : Int} {v : Int32} (hd : decode cL_law pc = .ok (.iconst i, 1)) (hv : Int32.ofInt i = v) (hq : pc + 1 = q) (k : J E X b0 L xs q ls (.int v :: st) a ta b tb) : J E X b0 L xs pc ls (st) a ta b tb := by
  subst hq
  exact fun hX H locs la hP hB hS hl => lv_iconst hX.1 hX.2.1 hd hv (k hX H locs la hP hB hS hl)
theorem j_bipush {i : Int} {v : Int32} (hd : decode cL_law pc = .ok (.bipush i, 2)) (hv : (Int8.ofInt i).toInt32 = v) (hq : pc + 2 = q) (k : J E X b0 L xs q ls (.int v :: st) a ta b tb) : J E X b0 L xs pc ls (st) a ta b tb := by
  subst hq
  exact fun hX H locs la hP hB hS hl => lv_bipush hX.1 hX.2.1 hd hv (k hX H locs la hP hB hS hl)
theorem j_iload {i : Fin 4} {x : Int32} (hd : decode cL_law pc = .ok (.iload_n i, 1)) (hv : ls[(i : Nat)]? = some (some (.int x))) (hq : pc + 1 = q) (k : J E X b0 L xs q ls (.int x :: st) a ta b tb) : J E X b0 L xs pc ls (st) a ta b tb := by
  subst hq
  exact fun hX H locs la hP hB hS hl => lv_iload_n hX.1 hX.2.1 hd rfl (hl.2.2 _ _ hv) (k hX H locs la hP hB hS hl)
theorem j_aload {i : Fin 4} {x : Nat} (hd : decode cL_law pc = .ok (.aload_n i, 1)) (hv : ls[(i : Nat)]? = some (some (.ref x))) (hq : pc + 1 = q) (k : J E X b0 L xs q ls (.ref x :: st) a ta b tb) : J E X b0 L xs pc ls (st) a ta b tb := by
  subst hq
  exact fun hX H locs la hP hB hS hl => lv_aload_n hX.1 hX.2.1 hd rfl (hl.2.2 _ _ hv) (k hX H locs la hP hB hS hl)
theorem j_iadd {x y : Int32} (hd : decode cL_law pc = .ok (.iadd, 1))  (hq : pc + 1 = q) (k : J E X b0 L xs q ls (.int (x + y) :: st) a ta b tb) : J E X b0 L xs pc ls (.int y :: .int x :: st) a ta b tb := by
  subst hq
  exact fun hX H locs la hP hB hS hl => lv_iadd hX.1 hX.2.1 hd (k hX H locs la hP hB hS hl)
theorem j_isub {x y : Int32} (hd : decode cL_law pc = .ok (.isub, 1))  (hq : pc + 1 = q) (k : J E X b0 L xs q ls (.int (x - y) :: st) a ta b tb) : J E X b0 L xs pc ls (.int y :: .int x :: st) a ta b tb := by
  subst hq
  exact fun hX H locs la hP hB hS hl => lv_isub hX.1 hX.2.1 hd (k hX H locs la hP hB hS hl)
theorem j_iand {x y : Int32} (hd : decode cL_law pc = .ok (.iand, 1))  (hq : pc + 1 = q) (k : J E X b0 L xs q ls (.int (x &&& y) :: st) a ta b tb) : J E X b0 L xs pc ls (.int y :: .int x :: st) a ta b tb := by
  subst hq
  exact fun hX H locs la hP hB hS hl => lv_iand hX.1 hX.2.1 hd (k hX H locs la hP hB hS hl)
theorem j_lcmp {x y : Int64} (hd : decode cL_law pc = .ok (.lcmp, 1))  (hq : pc + 1 = q) (k : J E X b0 L xs q ls (.int (lg_cmp x y) :: st) a ta b tb) : J E X b0 L xs pc ls (.long y :: .long x :: st) a ta b tb := by
  subst hq
  exact fun hX H locs la hP hB hS hl => W.lcmp hX.1 hX.2.1 hd (k hX H locs la hP hB hS hl)
theorem j_len  (hd : decode cL_law pc = .ok (.arraylength, 1))  (hq : pc + 1 = q) (k : J E X b0 L xs q ls (.int (nI L) :: st) a ta b tb) : J E X b0 L xs pc ls (.ref b0 :: st) a ta b tb := by
  subst hq
  exact fun hX H locs la hP hB hS hl => va_slen hX.1 hX.2.1 hX.2.2.2.2.2.2.2.2.1 hX.2.2.2.2.2.2.2.2.2.1 (fun z => absurd hX.2.2.2.2.2.2.2.2.2.1 (Nat.not_lt.mpr z)) hS hd (k hX H locs la hP hB hS hl)
theorem j_sld {i : Int32} (hd : decode cL_law pc = .ok (.iaload, 1)) (hin : vp_in i L) (hq : pc + 1 = q) (k : J E X b0 L xs q ls (.int (xs i.toNatClampNeg) :: st) a ta b tb) : J E X b0 L xs pc ls (.int i :: .ref b0 :: st) a ta b tb := by
  subst hq
  exact fun hX H locs la hP hB hS hl => va_sld hX.1 hX.2.1 hX.2.2.2.2.2.2.2.2.1 hX.2.2.2.2.2.2.2.2.2.1 (fun z => absurd hX.2.2.2.2.2.2.2.2.2.1 (Nat.not_lt.mpr z)) hS hin hd (k hX H locs la hP hB hS hl)
theorem j_icmp_eq {x y : Int32} {off : Int} {t : Nat} (hd : decode cL_law pc = .ok (.if_icmp .eq off, 3)) (ht : (pc : Int) + off = (t : Int)) (hq : pc + 3 = q) (kt : x = y → J E X b0 L xs t ls st a ta b tb) (kf : ¬ x = y → J E X b0 L xs q ls st a ta b tb) : J E X b0 L xs pc ls (.int y :: .int x :: st) a ta b tb := by
  subst hq
  exact fun hX H locs la hP hB hS hl => lv_icmp_eq hX.1 hX.2.1 hd ht (fun c => kt c hX H locs la hP hB hS hl) (fun c => kf c hX H locs la hP hB hS hl)
theorem j_icmp_gt {x y : Int32} {off : Int} {t : Nat} (hd : decode cL_law pc = .ok (.if_icmp .gt off, 3)) (ht : (pc : Int) + off = (t : Int)) (hq : pc + 3 = q) (kt : y < x → J E X b0 L xs t ls st a ta b tb) (kf : ¬ y < x → J E X b0 L xs q ls st a ta b tb) : J E X b0 L xs pc ls (.int y :: .int x :: st) a ta b tb := by
  subst hq
  exact fun hX H locs la hP hB hS hl => lv_icmp_gt hX.1 hX.2.1 hd ht (fun c => kt c hX H locs la hP hB hS hl) (fun c => kf c hX H locs la hP hB hS hl)
theorem j_if_eq {x : Int32} {off : Int} {t : Nat} (hd : decode cL_law pc = .ok (.ifCond .eq off, 3)) (ht : (pc : Int) + off = (t : Int)) (hq : pc + 3 = q) (kt : x = 0 → J E X b0 L xs t ls st a ta b tb) (kf : ¬ x = 0 → J E X b0 L xs q ls st a ta b tb) : J E X b0 L xs pc ls (.int x :: st) a ta b tb := by
  subst hq
  exact fun hX H locs la hP hB hS hl => lv_if_eq hX.1 hX.2.1 hd ht (fun c => kt c hX H locs la hP hB hS hl) (fun c => kf c hX H locs la hP hB hS hl)
theorem j_goto {off : Int} {t : Nat} (hd : decode cL_law pc = .ok (.goto off, 3)) (ht : (pc : Int) + off = (t : Int)) (k : J E X b0 L xs t ls st a ta b tb) : J E X b0 L xs pc ls st a ta b tb :=
  fun hX H locs la hP hB hS hl => lv_goto hX.1 hX.2.1 hd ht (k hX H locs la hP hB hS hl)
theorem j_iinc {i : Nat} {d : Int} {x w : Int32} (hd : decode cL_law pc = .ok (.iinc i d, 3)) (hv : ls[i]? = some (some (.int x))) (hw : Int32.ofInt d = w) (hn2 : i < 4) (hs : okS ls i = true) (hq : pc + 3 = q) (k : J E X b0 L xs q (ls.set i (some (.int (x + w)))) st a ta b tb) : J E X b0 L xs pc ls st a ta b tb := by
  subst hq
  subst hw
  intro hX H locs la hP hB hS hl
  obtain ⟨j, hj⟩ := List.getElem?_of_mem (lvOf_mem.mpr hv)
  exact lv_iinc hX.1 hX.2.1 hd (lh_has hl) hj rfl hn2 rfl (fun la' hl' => k hX H locs la' hP hB hS (lh_set hs hl'))
theorem j_tabIn {dflt lo hi : Int} {offs : Array Int} {len : Nat} {x : Int32} {off : Int} {t : Nat} (hd : decode cL_law pc = .ok (.tableswitch dflt lo hi offs, len)) (h1 : ¬ x.toInt < lo) (h2 : ¬ hi < x.toInt) (ho : offs[(x.toInt - lo).toNat]? = some off) (ht : (pc : Int) + off = (t : Int)) (k : J E X b0 L xs t ls st a ta b tb) : J E X b0 L xs pc ls (.int x :: st) a ta b tb :=
  fun hX H locs la hP hB hS hl => lv_tableIn hX.1 hX.2.1 hd h1 h2 ho ht (k hX H locs la hP hB hS hl)
theorem j_tabOut {dflt lo hi : Int} {offs : Array Int} {len : Nat} {x : Int32} {t : Nat} (hd : decode cL_law pc = .ok (.tableswitch dflt lo hi offs, len)) (h : x.toInt < lo ∨ hi < x.toInt) (ht : (pc : Int) + dflt = (t : Int)) (k : J E X b0 L xs t ls st a ta b tb) : J E X b0 L xs pc ls (.int x :: st) a ta b tb :=
  fun hX H locs la hP hB hS hl => lv_tableOut hX.1 hX.2.1 hd h ht (k hX H locs la hP hB hS hl)
/-- a call moves one region of cells, and the other stays -/
theorem j_w {lo n : Nat} {wo : va_W} {Po' : Option Value → Sto → Stl → Prop} {g0 : JFrame} {H : Heap} {locs : List Loc} {ar : Array Value} (hA : ∀ q, AA E lo n q → JA X q) (hno : ∀ (k : Nat) (x : Nat × va_E), wo[k]? = some x → ¬ AA E lo n x.1) (hr : va_Run X.1 E.1 X.2.1 room_1 X.2.2.1 X.2.2.2.1 X.2.2.2.2.1 X.2.2.2.2.2.1 X.2.2.2.2.2.2.1 X.2.2.2.2.2.2.2.1 H locs X.2.2.2.2.2.2.2.2.1 X.2.2.2.2.2.2.2.2.2.1 0 0 g0 st (Qo E lo n Po' ar) (AA E lo n)) (hO : va_P E.2.2.1 cls wo H) (hS : va_S (JA X) X.2.2.1.heap H locs)
    (kk : ∀ r σ' τ', Po' r σ' τ' → ∀ (H1 : Heap) (locs1 : List Loc), va_P E.2.2.1 cls (wr E lo n σ' τ') H1 → va_P E.2.2.1 cls wo H1 → va_S (JA X) X.2.2.1.heap H1 locs1 → WX E room_1 X H1 locs1 { g0 with pc := g0.pc + 3, stack := r.toList ++ st }) : WX E room_1 X H locs g0 := by
  intro T hT XS
  obtain ⟨v, st₀, t, T', L', h0, X', hL, e1, e2, ⟨⟨r, σ', τ', hv, hp, hb⟩, hz, hk⟩, st2⟩ := hr T hT XS
  cases hv
  rw [h0] at hz hk
  obtain ⟨t2, a1, b1⟩ := kk v σ' τ' hp T'.heap (locs ++ L') (by rw [e1]; exact hb) (hO.kept (fun k x hx => by rw [e1]; exact hk _ (hO k x hx).lt (hno k x hx))) ⟨Nat.le_trans hS.1 (by rw [e1]; exact hz), fun q h1 h2 => by rw [e1, hk q (Nat.lt_of_lt_of_le h1 hS.1) (fun z => h2 (hA q z))]; exact hS.2.1 q h1 h2, fun q hq => by
      rcases List.mem_append.mp hq with h | h
      · exact hS.2.2 q h
      · exact hA _ (hL q h)⟩ T' rfl X'
  exact ⟨t2, st2 t2 a1, b1⟩
theorem j_in {lo n : Nat} (hX : JC E X b0 L xs) (hln : lo + n ≤ 53) : ∀ q, AA E lo n q → JA X q := by
  rintro q ⟨k, h1, h2, rfl⟩
  exact hX.2.2.2.2.2.2.2.1 k (by omega)
theorem j_off {lo n lo' n' : Nat} {σ : Sto} {τ : Stl} (hX : JC E X b0 L xs) (h1 : lo + n ≤ 53) (h2 : lo' + n' ≤ 53) (h3 : lo + n ≤ lo' ∨ lo' + n' ≤ lo) : ∀ (k : Nat) (x : Nat × va_E), (wr E lo n σ τ)[k]? = some x → ¬ AA E lo' n' x.1 := by
  rintro k x hx ⟨j, g1, g2, g3⟩
  obtain ⟨e1, rfl⟩ := wr_at hx
  have := hX.2.2.2.2.2.2.1 (lo + k) j (by omega) (by omega) (by omega) (by omega) g3
  omega
theorem j_callA {y : MethodName} {cb : ByteArray} {nL' : Nat} {ret' : Option FieldType} {rm : Room} {As : List Value} {Po' : Option Value → Sto → Stl → Prop} {idx np : Nat} (ct : Ct E 0 40 y cb nL' ret' rm (.ref (E.2.1 0) :: As) a ta Po') (lk : LkV R_law idx y cb nL' ret' np) (hqy : RX6 = y.cls) (hst : stk = As.reverse ++ .ref (E.2.1 0) :: st) (hnp : As.length = np) (hrc : rm.cells = 0) (hrs : rm.slots = 0) (hW : (st.map fun v => v.category).sum ≤ 8) (hfr : rm.frames + 1 ≤ room_1.frames) (hlo : 8 + (nL' + 11) + rm.locals ≤ room_1.locals) (hd : decode cL_law pc = .ok (.invokevirtual idx, 3)) (hq : pc + 3 = q)
    (kk : ∀ r a' ta', Po' r a' ta' → J E X b0 L xs q ls (r.toList ++ st) a' ta' b tb) : J E X b0 L xs pc ls stk a ta b tb := by
  subst hq
  subst hst
  intro hX H locs la hP hB hS hl
  refine j_w (wo := wr E 40 13 b tb) (j_in hX (by decide)) (j_off hX (by decide) (by decide) (by decide)) (va_runV (C := y.cls) (As := As) (rest := st) (n := np) ⟨hX.1, hX.2.1, hX.2.2.1, hX.2.2.2.1, hX.2.2.2.2.1⟩ ct ⟨callB_of np hX.2.2.2.2.1 (good_code lk.2.2.2.2.1) rfl hrc hrs (hX.2.2.2.2.1 _ lk.2.2.2.1) (hX.2.2.2.2.1 _ lk.1) lk.2.2.2.2.2 ⟨hfr, hlo⟩, hX.2.2.2.2.1 _ lk.2.1, hX.2.2.2.2.1 _ lk.2.2.1⟩ ⟨pre_blind, ?_, fun U hU hWm => ⟨rfl, by rw [hU]; exact hP, va_K.moved hWm.alike hX.2.2.2.2.2.1⟩⟩ rfl hnp hl.1 rfl (by show 2 * 0 + _ ≤ 8; omega) hd ⟨hX.2.2.2.2.2.2.2.2.2.2.1, hX.2.2.2.2.2.2.2.2.2.2.2⟩) hB hS (fun r σ' τ' hp H1 locs1 h1 h2 hS1 => kk r σ' τ' hp hX H1 locs1 la h1 h2 hS1 hl)
  rw [← hqy]
  exact va_recv (ci := 6) (q := (RX6, TX6, 10)) hX.2.2.2.2.2.1 hP rfl (by rw [wr_get (k := 0) (by decide) (by decide), ent_obj (c := 6) rfl (by decide)])
theorem j_callB {y : MethodName} {cb : ByteArray} {nL' : Nat} {ret' : Option FieldType} {rm : Room} {As : List Value} {Po' : Option Value → Sto → Stl → Prop} {idx np : Nat} (ct : Ct E 40 13 y cb nL' ret' rm (.ref (E.2.1 40) :: As) b tb Po') (lk : LkV R_law idx y cb nL' ret' np) (hqy : RX7 = y.cls) (hst : stk = As.reverse ++ .ref (E.2.1 40) :: st) (hnp : As.length = np) (hrc : rm.cells = 0) (hrs : rm.slots = 0) (hW : (st.map fun v => v.category).sum ≤ 8) (hfr : rm.frames + 1 ≤ room_1.frames) (hlo : 8 + (nL' + 11) + rm.locals ≤ room_1.locals) (hd : decode cL_law pc = .ok (.invokevirtual idx, 3)) (hq : pc + 3 = q)
    (kk : ∀ r b' tb', Po' r b' tb' → J E X b0 L xs q ls (r.toList ++ st) a ta b' tb') : J E X b0 L xs pc ls stk a ta b tb := by
  subst hq
  subst hst
  intro hX H locs la hP hB hS hl
  refine j_w (wo := wr E 0 40 a ta) (j_in hX (by decide)) (j_off hX (by decide) (by decide) (by decide)) (va_runV (C := y.cls) (As := As) (rest := st) (n := np) ⟨hX.1, hX.2.1, hX.2.2.1, hX.2.2.2.1, hX.2.2.2.2.1⟩ ct ⟨callB_of np hX.2.2.2.2.1 (good_code lk.2.2.2.2.1) rfl hrc hrs (hX.2.2.2.2.1 _ lk.2.2.2.1) (hX.2.2.2.2.1 _ lk.1) lk.2.2.2.2.2 ⟨hfr, hlo⟩, hX.2.2.2.2.1 _ lk.2.1, hX.2.2.2.2.1 _ lk.2.2.1⟩ ⟨pre_blind, ?_, fun U hU hWm => ⟨rfl, by rw [hU]; exact hB, va_K.moved hWm.alike hX.2.2.2.2.2.1⟩⟩ rfl hnp hl.1 rfl (by show 2 * 0 + _ ≤ 8; omega) hd ⟨hX.2.2.2.2.2.2.2.2.2.2.1, hX.2.2.2.2.2.2.2.2.2.2.2⟩) hP hS (fun r σ' τ' hp H1 locs1 h1 h2 hS1 => kk r σ' τ' hp hX H1 locs1 la h2 h1 hS1 hl)
  rw [← hqy]
  exact va_recv (ci := 7) (q := (RX7, TX7, 23)) hX.2.2.2.2.2.1 hB rfl (by rw [wr_get (k := 40) (by decide) (by decide), ent_obj (c := 7) rfl (by decide)])
abbrev lsL (E : EE) (b0 i : Nat) : List (Option Value) := [some (.ref b0), some (.ref (E.2.1 0)), some (.ref (E.2.1 40)), some (.int (nI i))]
/-- a word of the script goes on the stack -/
theorem j_arg {i c p1 p2 p3 p4 : Nat} {d : Int} (h0 : decode cL_law pc = .ok (.aload_n 0, 1)) (e1 : pc + 1 = p1) (h1 : decode cL_law p1 = .ok (.iload_n 3, 1)) (e2 : p1 + 1 = p2) (h2 : decode cL_law p2 = .ok (.iconst d, 1)) (hc : Int32.ofInt d = nI c) (e3 : p2 + 1 = p3) (h3 : decode cL_law p3 = .ok (.iadd, 1)) (e4 : p3 + 1 = p4) (h4 : decode cL_law p4 = .ok (.iaload, 1)) (e5 : p4 + 1 = q) (hi : i + 6 ≤ L) (hL : L ≤ 3072) (hc5 : c < 6) (k : J E X b0 L xs q (lsL E b0 i) (.int (xs (i + c)) :: st) a ta b tb) : J E X b0 L xs pc (lsL E b0 i) st a ta b tb := by
  refine j_aload (q := p1) h0 rfl e1 ?_
  refine j_iload (q := p2) h1 rfl e2 ?_
  refine j_iconst (q := p3) h2 hc e3 ?_
  refine j_iadd (q := p4) h3 e4 ?_
  rw [nI_add]
  refine j_sld h4 (vp_in_nI (by omega) (by omega)) e5 ?_
  rw [nI_clamp (by omega)]
  exact k
end LAW
theorem rel_szm {a b : Sto} (h : REL a b) : SZM b := fun r hr => by
  rw [← (h.1.2.1 r hr).1]
  exact h.1.1 r hr
theorem rel_trM {a b : Sto} (h : REL a b) : trM b := by
  show vp_in (b 40 22) 17
  rw [← h.2.2.2.2.2.2.2.1]
  exact h.2.2.2.2.2.2.1
theorem rel_tape {a b : Sto} (h : REL a b) : vp_in (b 40 8) 121 := by
  rw [← h.2.2.1.2.1]
  exact h.2.2.1.1
theorem rel_17 {a b : Sto} (h : REL a b) : vp_in (b 40 17) 25 := by
  rw [← h.2.2.2.2.1.2.1]
  exact h.2.2.2.2.1.1.2
theorem rel_th {a b : Sto} (h : REL a b) : ¬ b 40 4 = 0 → 0 < b 44 0 := by
  intro q
  have e : a 7 0 = b 44 0 := h.2.2.2.1.1.1.2.1.1
  rw [← e]
  exact Decidable.of_not_not (fun z => q (h.2.2.2.1.2.mpr z))
theorem rel_th2 {a b : Sto} (h : REL a b) : 0 < b 44 5 → 0 < b 44 0 := h.2.2.2.1.1.1.2.2.2.2.2.2.1
theorem rel_wfh {a b : Sto} (h : REL a b) : WFH a 7 := h.2.2.2.1.1.1.1.1
theorem rel_wfm {a b : Sto} (h : REL a b) : WFM (b 44) := h.2.2.2.1.1.1.1.2
theorem rel_len {a b : Sto} (h : REL a b) : b 40 8 = nI ((a 5 2).toNatClampNeg) ∧ (a 5 2).toNatClampNeg ≤ 120 := by
  have := vp_to h.2.2.1.1 (by decide)
  rw [← h.2.2.1.2.1]
  exact ⟨this.1, by omega⟩
theorem lgc_self (x : Int64) : lg_cmp x x = 0 := by
  unfold lg_cmp
  have h : ¬ x > x := Int64.lt_irrefl
  rw [if_neg h, if_pos rfl]
set_option maxRecDepth 100000 in
set_option maxHeartbeats 1000000 in
theorem law_0 {E : EE} {X : XX} {b0 L i : Nat} {xs : Nat → Int32} {a b : Sto} {ta tb : Stl} (h6 : inj E 0 40) (h7 : inj E 40 13) (hi : i + 6 ≤ L) (hL : L ≤ 3072) (h : REL a b) (next : ∀ a' ta' b' tb', REL a' b' → J E X b0 L xs 1324 (lsL E b0 i) [] a' ta' b' tb') : J E X b0 L xs 188 (lsL E b0 i) [] a ta b tb := by
  refine j_aload (x := E.2.1 0) (q := 189) dL_law_188 rfl rfl ?_
  refine j_arg (c := 1) (q := 194) dL_law_189 rfl dL_law_190 rfl dL_law_191 (by decide) rfl dL_law_192 rfl dL_law_193 rfl hi hL (by decide) ?_
  refine j_arg (c := 2) (q := 199) dL_law_194 rfl dL_law_195 rfl dL_law_196 (by decide) rfl dL_law_197 rfl dL_law_198 rfl hi hL (by decide) ?_
  refine j_arg (c := 3) (q := 204) dL_law_199 rfl dL_law_200 rfl dL_law_201 (by decide) rfl dL_law_202 rfl dL_law_203 rfl hi hL (by decide) ?_
  refine j_callA (As := [.int (xs (i + 1)), .int (xs (i + 2)), .int (xs (i + 3))]) (st := []) (q := 207) (c_X6_row h6) lk_R_law_13 rfl rfl rfl rfl rfl (Nat.le_of_ble_eq_true rfl) (Nat.le_of_ble_eq_true rfl) (Nat.le_of_ble_eq_true rfl) dL_law_204 rfl (fun r a1 ta1 hp => ?_)
  obtain ⟨rfl, e1, e2⟩ := hp
  rw [e1]
  show J E X b0 L xs 207 (lsL E b0 i) [.int ((m_row a (xs (i + 1)) (xs (i + 2)) (xs (i + 3))).1)] ((m_row a (xs (i + 1)) (xs (i + 2)) (xs (i + 3))).2) _ b tb
  refine j_aload (x := E.2.1 40) (q := 208) dL_law_207 rfl rfl ?_
  refine j_arg (c := 1) (q := 213) dL_law_208 rfl dL_law_209 rfl dL_law_210 (by decide) rfl dL_law_211 rfl dL_law_212 rfl hi hL (by decide) ?_
  refine j_arg (c := 2) (q := 218) dL_law_213 rfl dL_law_214 rfl dL_law_215 (by decide) rfl dL_law_216 rfl dL_law_217 rfl hi hL (by decide) ?_
  refine j_arg (c := 3) (q := 223) dL_law_218 rfl dL_law_219 rfl dL_law_220 (by decide) rfl dL_law_221 rfl dL_law_222 rfl hi hL (by decide) ?_
  refine j_callB (As := [.int (xs (i + 1)), .int (xs (i + 2)), .int (xs (i + 3))]) (st := [.int ((m_row a (xs (i + 1)) (xs (i + 2)) (xs (i + 3))).1)]) (q := 226) (c_X7_row h7) lk_R_law_17 rfl rfl rfl rfl rfl (Nat.le_of_ble_eq_true rfl) (Nat.le_of_ble_eq_true rfl) (Nat.le_of_ble_eq_true rfl) dL_law_223 rfl (fun r b1 tb1 hp => ?_)
  obtain ⟨rfl, e3, e4⟩ := hp
  rw [e3]
  show J E X b0 L xs 226 (lsL E b0 i) [.int ((q_row b (xs (i + 1)) (xs (i + 2)) (xs (i + 3))).1), .int ((m_row a (xs (i + 1)) (xs (i + 2)) (xs (i + 3))).1)] ((m_row a (xs (i + 1)) (xs (i + 2)) (xs (i + 3))).2) _ ((q_row b (xs (i + 1)) (xs (i + 2)) (xs (i + 3))).2) _
  refine j_icmp_eq (t := 1324) (q := 229) dL_law_226 (by decide) rfl (fun _ => next _ _ _ _ (rel_row h (xs (i + 1)) (xs (i + 2)) (xs (i + 3))).2) (fun c => absurd (rel_row h (xs (i + 1)) (xs (i + 2)) (xs (i + 3))).1 c)
set_option maxRecDepth 100000 in
set_option maxHeartbeats 1000000 in
theorem law_1 {E : EE} {X : XX} {b0 L i : Nat} {xs : Nat → Int32} {a b : Sto} {ta tb : Stl} (h6 : inj E 0 40) (h7 : inj E 40 13) (hi : i + 6 ≤ L) (hL : L ≤ 3072) (h : REL a b) (next : ∀ a' ta' b' tb', REL a' b' → J E X b0 L xs 1324 (lsL E b0 i) [] a' ta' b' tb') : J E X b0 L xs 231 (lsL E b0 i) [] a ta b tb := by
  refine j_aload (x := E.2.1 0) (q := 232) dL_law_231 rfl rfl ?_
  refine j_arg (c := 1) (q := 237) dL_law_232 rfl dL_law_233 rfl dL_law_234 (by decide) rfl dL_law_235 rfl dL_law_236 rfl hi hL (by decide) ?_
  refine j_arg (c := 2) (q := 242) dL_law_237 rfl dL_law_238 rfl dL_law_239 (by decide) rfl dL_law_240 rfl dL_law_241 rfl hi hL (by decide) ?_
  refine j_arg (c := 3) (q := 247) dL_law_242 rfl dL_law_243 rfl dL_law_244 (by decide) rfl dL_law_245 rfl dL_law_246 rfl hi hL (by decide) ?_
  refine j_callA (As := [.int (xs (i + 1)), .int (xs (i + 2)), .int (xs (i + 3))]) (st := []) (q := 250) (c_X6_set h6 h.1.1) lk_R_law_18 rfl rfl rfl rfl rfl (Nat.le_of_ble_eq_true rfl) (Nat.le_of_ble_eq_true rfl) (Nat.le_of_ble_eq_true rfl) dL_law_247 rfl (fun r a1 ta1 hp => ?_)
  obtain ⟨rfl, e1, e2⟩ := hp
  rw [e1]
  show J E X b0 L xs 250 (lsL E b0 i) [.int ((m_set a (xs (i + 1)) (xs (i + 2)) (xs (i + 3))).1)] ((m_set a (xs (i + 1)) (xs (i + 2)) (xs (i + 3))).2) _ b tb
  refine j_aload (x := E.2.1 40) (q := 251) dL_law_250 rfl rfl ?_
  refine j_arg (c := 1) (q := 256) dL_law_251 rfl dL_law_252 rfl dL_law_253 (by decide) rfl dL_law_254 rfl dL_law_255 rfl hi hL (by decide) ?_
  refine j_arg (c := 2) (q := 261) dL_law_256 rfl dL_law_257 rfl dL_law_258 (by decide) rfl dL_law_259 rfl dL_law_260 rfl hi hL (by decide) ?_
  refine j_arg (c := 3) (q := 266) dL_law_261 rfl dL_law_262 rfl dL_law_263 (by decide) rfl dL_law_264 rfl dL_law_265 rfl hi hL (by decide) ?_
  refine j_callB (As := [.int (xs (i + 1)), .int (xs (i + 2)), .int (xs (i + 3))]) (st := [.int ((m_set a (xs (i + 1)) (xs (i + 2)) (xs (i + 3))).1)]) (q := 269) (c_X7_set h7 (rel_szm h)) lk_R_law_21 rfl rfl rfl rfl rfl (Nat.le_of_ble_eq_true rfl) (Nat.le_of_ble_eq_true rfl) (Nat.le_of_ble_eq_true rfl) dL_law_266 rfl (fun r b1 tb1 hp => ?_)
  obtain ⟨rfl, e3, e4⟩ := hp
  rw [e3]
  show J E X b0 L xs 269 (lsL E b0 i) [.int ((q_set b (xs (i + 1)) (xs (i + 2)) (xs (i + 3))).1), .int ((m_set a (xs (i + 1)) (xs (i + 2)) (xs (i + 3))).1)] ((m_set a (xs (i + 1)) (xs (i + 2)) (xs (i + 3))).2) _ ((q_set b (xs (i + 1)) (xs (i + 2)) (xs (i + 3))).2) _
  refine j_icmp_eq (t := 1324) (q := 272) dL_law_269 (by decide) rfl (fun _ => next _ _ _ _ (rel_set h (xs (i + 1)) (xs (i + 2)) (xs (i + 3))).2) (fun c => absurd (rel_set h (xs (i + 1)) (xs (i + 2)) (xs (i + 3))).1 c)
set_option maxRecDepth 100000 in
set_option maxHeartbeats 1000000 in
theorem law_2 {E : EE} {X : XX} {b0 L i : Nat} {xs : Nat → Int32} {a b : Sto} {ta tb : Stl} (h6 : inj E 0 40) (h7 : inj E 40 13) (hi : i + 6 ≤ L) (hL : L ≤ 3072) (h : REL a b) (next : ∀ a' ta' b' tb', REL a' b' → J E X b0 L xs 1324 (lsL E b0 i) [] a' ta' b' tb') : J E X b0 L xs 274 (lsL E b0 i) [] a ta b tb := by
  refine j_aload (x := E.2.1 0) (q := 275) dL_law_274 rfl rfl ?_
  refine j_arg (c := 1) (q := 280) dL_law_275 rfl dL_law_276 rfl dL_law_277 (by decide) rfl dL_law_278 rfl dL_law_279 rfl hi hL (by decide) ?_
  refine j_arg (c := 2) (q := 285) dL_law_280 rfl dL_law_281 rfl dL_law_282 (by decide) rfl dL_law_283 rfl dL_law_284 rfl hi hL (by decide) ?_
  refine j_arg (c := 3) (q := 290) dL_law_285 rfl dL_law_286 rfl dL_law_287 (by decide) rfl dL_law_288 rfl dL_law_289 rfl hi hL (by decide) ?_
  refine j_arg (c := 4) (q := 295) dL_law_290 rfl dL_law_291 rfl dL_law_292 (by decide) rfl dL_law_293 rfl dL_law_294 rfl hi hL (by decide) ?_
  refine j_arg (c := 5) (q := 300) dL_law_295 rfl dL_law_296 rfl dL_law_297 (by decide) rfl dL_law_298 rfl dL_law_299 rfl hi hL (by decide) ?_
  refine j_callA (As := [.int (xs (i + 1)), .int (xs (i + 2)), .int (xs (i + 3)), .int (xs (i + 4)), .int (xs (i + 5))]) (st := []) (q := 303) (c_X6_copy h6 h.1.1) lk_R_law_22 rfl rfl rfl rfl rfl (Nat.le_of_ble_eq_true rfl) (Nat.le_of_ble_eq_true rfl) (Nat.le_of_ble_eq_true rfl) dL_law_300 rfl (fun r a1 ta1 hp => ?_)
  obtain ⟨rfl, e1, e2⟩ := hp
  rw [e1]
  show J E X b0 L xs 303 (lsL E b0 i) [.int ((m_copy a (xs (i + 1)) (xs (i + 2)) (xs (i + 3)) (xs (i + 4)) (xs (i + 5))).1)] ((m_copy a (xs (i + 1)) (xs (i + 2)) (xs (i + 3)) (xs (i + 4)) (xs (i + 5))).2) _ b tb
  refine j_aload (x := E.2.1 40) (q := 304) dL_law_303 rfl rfl ?_
  refine j_arg (c := 1) (q := 309) dL_law_304 rfl dL_law_305 rfl dL_law_306 (by decide) rfl dL_law_307 rfl dL_law_308 rfl hi hL (by decide) ?_
  refine j_arg (c := 2) (q := 314) dL_law_309 rfl dL_law_310 rfl dL_law_311 (by decide) rfl dL_law_312 rfl dL_law_313 rfl hi hL (by decide) ?_
  refine j_arg (c := 3) (q := 319) dL_law_314 rfl dL_law_315 rfl dL_law_316 (by decide) rfl dL_law_317 rfl dL_law_318 rfl hi hL (by decide) ?_
  refine j_arg (c := 4) (q := 324) dL_law_319 rfl dL_law_320 rfl dL_law_321 (by decide) rfl dL_law_322 rfl dL_law_323 rfl hi hL (by decide) ?_
  refine j_arg (c := 5) (q := 329) dL_law_324 rfl dL_law_325 rfl dL_law_326 (by decide) rfl dL_law_327 rfl dL_law_328 rfl hi hL (by decide) ?_
  refine j_callB (As := [.int (xs (i + 1)), .int (xs (i + 2)), .int (xs (i + 3)), .int (xs (i + 4)), .int (xs (i + 5))]) (st := [.int ((m_copy a (xs (i + 1)) (xs (i + 2)) (xs (i + 3)) (xs (i + 4)) (xs (i + 5))).1)]) (q := 332) (c_X7_copy h7 (rel_szm h)) lk_R_law_26 rfl rfl rfl rfl rfl (Nat.le_of_ble_eq_true rfl) (Nat.le_of_ble_eq_true rfl) (Nat.le_of_ble_eq_true rfl) dL_law_329 rfl (fun r b1 tb1 hp => ?_)
  obtain ⟨rfl, e3, e4⟩ := hp
  rw [e3]
  show J E X b0 L xs 332 (lsL E b0 i) [.int ((q_copy b (xs (i + 1)) (xs (i + 2)) (xs (i + 3)) (xs (i + 4)) (xs (i + 5))).1), .int ((m_copy a (xs (i + 1)) (xs (i + 2)) (xs (i + 3)) (xs (i + 4)) (xs (i + 5))).1)] ((m_copy a (xs (i + 1)) (xs (i + 2)) (xs (i + 3)) (xs (i + 4)) (xs (i + 5))).2) _ ((q_copy b (xs (i + 1)) (xs (i + 2)) (xs (i + 3)) (xs (i + 4)) (xs (i + 5))).2) _
  refine j_icmp_eq (t := 1324) (q := 335) dL_law_332 (by decide) rfl (fun _ => next _ _ _ _ (rel_copy h (xs (i + 1)) (xs (i + 2)) (xs (i + 3)) (xs (i + 4)) (xs (i + 5))).2) (fun c => absurd (rel_copy h (xs (i + 1)) (xs (i + 2)) (xs (i + 3)) (xs (i + 4)) (xs (i + 5))).1 c)
set_option maxRecDepth 100000 in
set_option maxHeartbeats 1000000 in
theorem law_3 {E : EE} {X : XX} {b0 L i : Nat} {xs : Nat → Int32} {a b : Sto} {ta tb : Stl} (h6 : inj E 0 40) (h7 : inj E 40 13) (hi : i + 6 ≤ L) (hL : L ≤ 3072) (h : REL a b) (next : ∀ a' ta' b' tb', REL a' b' → J E X b0 L xs 1324 (lsL E b0 i) [] a' ta' b' tb') : J E X b0 L xs 337 (lsL E b0 i) [] a ta b tb := by
  refine j_aload (x := E.2.1 0) (q := 338) dL_law_337 rfl rfl ?_
  refine j_arg (c := 1) (q := 343) dL_law_338 rfl dL_law_339 rfl dL_law_340 (by decide) rfl dL_law_341 rfl dL_law_342 rfl hi hL (by decide) ?_
  refine j_callA (As := [.int (xs (i + 1))]) (st := []) (q := 346) (c_X6_drop h6) lk_R_law_27 rfl rfl rfl rfl rfl (Nat.le_of_ble_eq_true rfl) (Nat.le_of_ble_eq_true rfl) (Nat.le_of_ble_eq_true rfl) dL_law_343 rfl (fun r a1 ta1 hp => ?_)
  obtain ⟨rfl, e1, e2⟩ := hp
  rw [e1]
  show J E X b0 L xs 346 (lsL E b0 i) [.int ((m_drop a (xs (i + 1))).1)] ((m_drop a (xs (i + 1))).2) _ b tb
  refine j_aload (x := E.2.1 40) (q := 347) dL_law_346 rfl rfl ?_
  refine j_arg (c := 1) (q := 352) dL_law_347 rfl dL_law_348 rfl dL_law_349 (by decide) rfl dL_law_350 rfl dL_law_351 rfl hi hL (by decide) ?_
  refine j_callB (As := [.int (xs (i + 1))]) (st := [.int ((m_drop a (xs (i + 1))).1)]) (q := 355) (c_X7_drop h7) lk_R_law_31 rfl rfl rfl rfl rfl (Nat.le_of_ble_eq_true rfl) (Nat.le_of_ble_eq_true rfl) (Nat.le_of_ble_eq_true rfl) dL_law_352 rfl (fun r b1 tb1 hp => ?_)
  obtain ⟨rfl, e3, e4⟩ := hp
  rw [e3]
  show J E X b0 L xs 355 (lsL E b0 i) [.int ((q_drop b (xs (i + 1))).1), .int ((m_drop a (xs (i + 1))).1)] ((m_drop a (xs (i + 1))).2) _ ((q_drop b (xs (i + 1))).2) _
  refine j_icmp_eq (t := 1324) (q := 358) dL_law_355 (by decide) rfl (fun _ => next _ _ _ _ (rel_drop h (xs (i + 1))).2) (fun c => absurd (rel_drop h (xs (i + 1))).1 c)
set_option maxRecDepth 100000 in
set_option maxHeartbeats 1000000 in
theorem law_4 {E : EE} {X : XX} {b0 L i : Nat} {xs : Nat → Int32} {a b : Sto} {ta tb : Stl} (h6 : inj E 0 40) (h7 : inj E 40 13) (hi : i + 6 ≤ L) (hL : L ≤ 3072) (h : REL a b) (next : ∀ a' ta' b' tb', REL a' b' → J E X b0 L xs 1324 (lsL E b0 i) [] a' ta' b' tb') : J E X b0 L xs 360 (lsL E b0 i) [] a ta b tb := by
  refine j_aload (x := E.2.1 0) (q := 361) dL_law_360 rfl rfl ?_
  refine j_arg (c := 1) (q := 366) dL_law_361 rfl dL_law_362 rfl dL_law_363 (by decide) rfl dL_law_364 rfl dL_law_365 rfl hi hL (by decide) ?_
  refine j_callA (As := [.int (xs (i + 1))]) (st := []) (q := 369) (c_X6_feed h6 h.2.2.1.1) lk_R_law_32 rfl rfl rfl rfl rfl (Nat.le_of_ble_eq_true rfl) (Nat.le_of_ble_eq_true rfl) (Nat.le_of_ble_eq_true rfl) dL_law_366 rfl (fun r a1 ta1 hp => ?_)
  obtain ⟨rfl, e1, e2⟩ := hp
  rw [e1]
  show J E X b0 L xs 369 (lsL E b0 i) [.int ((m_feed a (xs (i + 1))).1)] ((m_feed a (xs (i + 1))).2) _ b tb
  refine j_aload (x := E.2.1 40) (q := 370) dL_law_369 rfl rfl ?_
  refine j_arg (c := 1) (q := 375) dL_law_370 rfl dL_law_371 rfl dL_law_372 (by decide) rfl dL_law_373 rfl dL_law_374 rfl hi hL (by decide) ?_
  refine j_callB (As := [.int (xs (i + 1))]) (st := [.int ((m_feed a (xs (i + 1))).1)]) (q := 378) (c_X7_feed h7 (rel_tape h)) lk_R_law_35 rfl rfl rfl rfl rfl (Nat.le_of_ble_eq_true rfl) (Nat.le_of_ble_eq_true rfl) (Nat.le_of_ble_eq_true rfl) dL_law_375 rfl (fun r b1 tb1 hp => ?_)
  obtain ⟨rfl, e3, e4⟩ := hp
  rw [e3]
  show J E X b0 L xs 378 (lsL E b0 i) [.int ((q_feed b (xs (i + 1))).1), .int ((m_feed a (xs (i + 1))).1)] ((m_feed a (xs (i + 1))).2) _ ((q_feed b (xs (i + 1))).2) _
  refine j_icmp_eq (t := 1324) (q := 381) dL_law_378 (by decide) rfl (fun _ => next _ _ _ _ (rel_feed h (xs (i + 1))).2) (fun c => absurd (rel_feed h (xs (i + 1))).1 c)
set_option maxRecDepth 100000 in
set_option maxHeartbeats 1000000 in
theorem law_5 {E : EE} {X : XX} {b0 L i : Nat} {xs : Nat → Int32} {a b : Sto} {ta tb : Stl} (h6 : inj E 0 40) (h7 : inj E 40 13) (hi : i + 6 ≤ L) (hL : L ≤ 3072) (h : REL a b) (next : ∀ a' ta' b' tb', REL a' b' → J E X b0 L xs 1324 (lsL E b0 i) [] a' ta' b' tb') : J E X b0 L xs 383 (lsL E b0 i) [] a ta b tb := by
  refine j_aload (x := E.2.1 0) (q := 384) dL_law_383 rfl rfl ?_
  refine j_callA (As := []) (st := []) (q := 387) (c_X6_house h6 h.2.2.1.1) lk_R_law_36 rfl rfl rfl rfl rfl (Nat.le_of_ble_eq_true rfl) (Nat.le_of_ble_eq_true rfl) (Nat.le_of_ble_eq_true rfl) dL_law_384 rfl (fun r a1 ta1 hp => ?_)
  obtain ⟨rfl, e1, e2⟩ := hp
  rw [e1]
  show J E X b0 L xs 387 (lsL E b0 i) [.int ((m_house a ).1)] ((m_house a ).2) _ b tb
  refine j_aload (x := E.2.1 40) (q := 388) dL_law_387 rfl rfl ?_
  refine j_callB (As := []) (st := [.int ((m_house a ).1)]) (q := 391) (c_X7_house h7 (rel_len h).1 (rel_len h).2) lk_R_law_40 rfl rfl rfl rfl rfl (Nat.le_of_ble_eq_true rfl) (Nat.le_of_ble_eq_true rfl) (Nat.le_of_ble_eq_true rfl) dL_law_388 rfl (fun r b1 tb1 hp => ?_)
  obtain ⟨rfl, e3, e4⟩ := hp
  rw [e3]
  show J E X b0 L xs 391 (lsL E b0 i) [.int ((q_house b ((a 5 2).toNatClampNeg)).1), .int ((m_house a ).1)] ((m_house a ).2) _ ((q_house b ((a 5 2).toNatClampNeg)).2) _
  refine j_icmp_eq (t := 1324) (q := 394) dL_law_391 (by decide) rfl (fun _ => next _ _ _ _ (rel_house h).2) (fun c => absurd (rel_house h).1 c)
set_option maxRecDepth 100000 in
set_option maxHeartbeats 1000000 in
theorem law_6 {E : EE} {X : XX} {b0 L i : Nat} {xs : Nat → Int32} {a b : Sto} {ta tb : Stl} (h6 : inj E 0 40) (h7 : inj E 40 13) (hi : i + 6 ≤ L) (hL : L ≤ 3072) (h : REL a b) (next : ∀ a' ta' b' tb', REL a' b' → J E X b0 L xs 1324 (lsL E b0 i) [] a' ta' b' tb') : J E X b0 L xs 396 (lsL E b0 i) [] a ta b tb := by
  refine j_aload (x := E.2.1 0) (q := 397) dL_law_396 rfl rfl ?_
  refine j_callA (As := []) (st := []) (q := 400) (c_X6_fault h6) lk_R_law_41 rfl rfl rfl rfl rfl (Nat.le_of_ble_eq_true rfl) (Nat.le_of_ble_eq_true rfl) (Nat.le_of_ble_eq_true rfl) dL_law_397 rfl (fun r a1 ta1 hp => ?_)
  obtain ⟨rfl, e1, e2⟩ := hp
  rw [e1]
  show J E X b0 L xs 400 (lsL E b0 i) [.int (a 0 8)] (a) _ b tb
  refine j_aload (x := E.2.1 40) (q := 401) dL_law_400 rfl rfl ?_
  refine j_callB (As := []) (st := [.int (a 0 8)]) (q := 404) (c_X7_fault h7) lk_R_law_44 rfl rfl rfl rfl rfl (Nat.le_of_ble_eq_true rfl) (Nat.le_of_ble_eq_true rfl) (Nat.le_of_ble_eq_true rfl) dL_law_401 rfl (fun r b1 tb1 hp => ?_)
  obtain ⟨rfl, e3, e4⟩ := hp
  rw [e3]
  show J E X b0 L xs 404 (lsL E b0 i) [.int (b 40 9), .int (a 0 8)] (a) _ (b) _
  refine j_icmp_eq (t := 1324) (q := 407) dL_law_404 (by decide) rfl (fun _ => next _ _ _ _ h) (fun c => absurd h.2.1.2 c)
set_option maxRecDepth 100000 in
set_option maxHeartbeats 1000000 in
theorem law_7 {E : EE} {X : XX} {b0 L i : Nat} {xs : Nat → Int32} {a b : Sto} {ta tb : Stl} (h6 : inj E 0 40) (h7 : inj E 40 13) (hi : i + 6 ≤ L) (hL : L ≤ 3072) (h : REL a b) (next : ∀ a' ta' b' tb', REL a' b' → J E X b0 L xs 1324 (lsL E b0 i) [] a' ta' b' tb') : J E X b0 L xs 409 (lsL E b0 i) [] a ta b tb := by
  refine j_aload (x := E.2.1 0) (q := 410) dL_law_409 rfl rfl ?_
  refine j_callA (As := []) (st := []) (q := 413) (c_X6_undo h6 h.2.2.2.2.1.1) lk_R_law_45 rfl rfl rfl rfl rfl (Nat.le_of_ble_eq_true rfl) (Nat.le_of_ble_eq_true rfl) (Nat.le_of_ble_eq_true rfl) dL_law_410 rfl (fun r a1 ta1 hp => ?_)
  obtain ⟨rfl, e1, e2⟩ := hp
  rw [e1]
  show J E X b0 L xs 413 (lsL E b0 i) [.int ((m_undo a ).1)] ((m_undo a ).2) _ b tb
  refine j_aload (x := E.2.1 40) (q := 414) dL_law_413 rfl rfl ?_
  refine j_callB (As := []) (st := [.int ((m_undo a ).1)]) (q := 417) (c_X7_undo h7 (rel_17 h)) lk_R_law_48 rfl rfl rfl rfl rfl (Nat.le_of_ble_eq_true rfl) (Nat.le_of_ble_eq_true rfl) (Nat.le_of_ble_eq_true rfl) dL_law_414 rfl (fun r b1 tb1 hp => ?_)
  obtain ⟨rfl, e3, e4⟩ := hp
  rw [e3]
  show J E X b0 L xs 417 (lsL E b0 i) [.int ((q_undo b ).1), .int ((m_undo a ).1)] ((m_undo a ).2) _ ((q_undo b ).2) _
  refine j_icmp_eq (t := 1324) (q := 420) dL_law_417 (by decide) rfl (fun _ => next _ _ _ _ (rel_undo h).2) (fun c => absurd (rel_undo h).1 c)
set_option maxRecDepth 100000 in
set_option maxHeartbeats 1000000 in
theorem law_8 {E : EE} {X : XX} {b0 L i : Nat} {xs : Nat → Int32} {a b : Sto} {ta tb : Stl} (h6 : inj E 0 40) (h7 : inj E 40 13) (hi : i + 6 ≤ L) (hL : L ≤ 3072) (h : REL a b) (next : ∀ a' ta' b' tb', REL a' b' → J E X b0 L xs 1324 (lsL E b0 i) [] a' ta' b' tb') : J E X b0 L xs 422 (lsL E b0 i) [] a ta b tb := by
  refine j_aload (x := E.2.1 0) (q := 423) dL_law_422 rfl rfl ?_
  refine j_arg (c := 1) (q := 428) dL_law_423 rfl dL_law_424 rfl dL_law_425 (by decide) rfl dL_law_426 rfl dL_law_427 rfl hi hL (by decide) ?_
  refine j_callA (As := [.int (xs (i + 1))]) (st := []) (q := 431) (c_X6_hours h6 (rel_wfh h) h.2.2.2.2.1.1) lk_R_law_49 rfl rfl rfl rfl rfl (Nat.le_of_ble_eq_true rfl) (Nat.le_of_ble_eq_true rfl) (Nat.le_of_ble_eq_true rfl) dL_law_428 rfl (fun r a1 ta1 hp => ?_)
  obtain ⟨rfl, e1, e2⟩ := hp
  rw [e1]
  show J E X b0 L xs 431 (lsL E b0 i) [.int ((m_hours a (xs (i + 1))).1)] ((m_hours a (xs (i + 1))).2) _ b tb
  refine j_aload (x := E.2.1 40) (q := 432) dL_law_431 rfl rfl ?_
  refine j_arg (c := 1) (q := 437) dL_law_432 rfl dL_law_433 rfl dL_law_434 (by decide) rfl dL_law_435 rfl dL_law_436 rfl hi hL (by decide) ?_
  refine j_callB (As := [.int (xs (i + 1))]) (st := [.int ((m_hours a (xs (i + 1))).1)]) (q := 440) (c_X7_hours h7 (rel_wfm h) (rel_17 h)) lk_R_law_52 rfl rfl rfl rfl rfl (Nat.le_of_ble_eq_true rfl) (Nat.le_of_ble_eq_true rfl) (Nat.le_of_ble_eq_true rfl) dL_law_437 rfl (fun r b1 tb1 hp => ?_)
  obtain ⟨rfl, e3, e4⟩ := hp
  rw [e3]
  show J E X b0 L xs 440 (lsL E b0 i) [.int ((q_hours b (xs (i + 1))).1), .int ((m_hours a (xs (i + 1))).1)] ((m_hours a (xs (i + 1))).2) _ ((q_hours b (xs (i + 1))).2) _
  refine j_icmp_eq (t := 1324) (q := 443) dL_law_440 (by decide) rfl (fun _ => next _ _ _ _ (rel_hours h (xs (i + 1))).2) (fun c => absurd (rel_hours h (xs (i + 1))).1 c)
set_option maxRecDepth 100000 in
set_option maxHeartbeats 1000000 in
theorem law_9 {E : EE} {X : XX} {b0 L i : Nat} {xs : Nat → Int32} {a b : Sto} {ta tb : Stl} (h6 : inj E 0 40) (h7 : inj E 40 13) (hi : i + 6 ≤ L) (hL : L ≤ 3072) (h : REL a b) (next : ∀ a' ta' b' tb', REL a' b' → J E X b0 L xs 1324 (lsL E b0 i) [] a' ta' b' tb') : J E X b0 L xs 445 (lsL E b0 i) [] a ta b tb := by
  refine j_aload (x := E.2.1 0) (q := 446) dL_law_445 rfl rfl ?_
  refine j_arg (c := 1) (q := 451) dL_law_446 rfl dL_law_447 rfl dL_law_448 (by decide) rfl dL_law_449 rfl dL_law_450 rfl hi hL (by decide) ?_
  refine j_arg (c := 2) (q := 456) dL_law_451 rfl dL_law_452 rfl dL_law_453 (by decide) rfl dL_law_454 rfl dL_law_455 rfl hi hL (by decide) ?_
  refine j_callA (As := [.int (xs (i + 1)), .int (xs (i + 2))]) (st := []) (q := 459) (c_X6_door h6 (rel_wfh h) h.2.2.2.2.1.1) lk_R_law_53 rfl rfl rfl rfl rfl (Nat.le_of_ble_eq_true rfl) (Nat.le_of_ble_eq_true rfl) (Nat.le_of_ble_eq_true rfl) dL_law_456 rfl (fun r a1 ta1 hp => ?_)
  obtain ⟨rfl, e1, e2⟩ := hp
  rw [e1]
  show J E X b0 L xs 459 (lsL E b0 i) [.int ((m_door a (xs (i + 1)) (xs (i + 2))).1)] ((m_door a (xs (i + 1)) (xs (i + 2))).2) _ b tb
  refine j_aload (x := E.2.1 40) (q := 460) dL_law_459 rfl rfl ?_
  refine j_arg (c := 1) (q := 465) dL_law_460 rfl dL_law_461 rfl dL_law_462 (by decide) rfl dL_law_463 rfl dL_law_464 rfl hi hL (by decide) ?_
  refine j_arg (c := 2) (q := 470) dL_law_465 rfl dL_law_466 rfl dL_law_467 (by decide) rfl dL_law_468 rfl dL_law_469 rfl hi hL (by decide) ?_
  refine j_callB (As := [.int (xs (i + 1)), .int (xs (i + 2))]) (st := [.int ((m_door a (xs (i + 1)) (xs (i + 2))).1)]) (q := 473) (c_X7_door h7 (rel_wfm h) (rel_17 h)) lk_R_law_57 rfl rfl rfl rfl rfl (Nat.le_of_ble_eq_true rfl) (Nat.le_of_ble_eq_true rfl) (Nat.le_of_ble_eq_true rfl) dL_law_470 rfl (fun r b1 tb1 hp => ?_)
  obtain ⟨rfl, e3, e4⟩ := hp
  rw [e3]
  show J E X b0 L xs 473 (lsL E b0 i) [.int ((q_door b (xs (i + 1)) (xs (i + 2))).1), .int ((m_door a (xs (i + 1)) (xs (i + 2))).1)] ((m_door a (xs (i + 1)) (xs (i + 2))).2) _ ((q_door b (xs (i + 1)) (xs (i + 2))).2) _
  refine j_icmp_eq (t := 1324) (q := 476) dL_law_473 (by decide) rfl (fun _ => next _ _ _ _ (rel_door h (xs (i + 1)) (xs (i + 2))).2) (fun c => absurd (rel_door h (xs (i + 1)) (xs (i + 2))).1 c)
set_option maxRecDepth 100000 in
set_option maxHeartbeats 1000000 in
theorem law_10 {E : EE} {X : XX} {b0 L i : Nat} {xs : Nat → Int32} {a b : Sto} {ta tb : Stl} (h6 : inj E 0 40) (h7 : inj E 40 13) (hi : i + 6 ≤ L) (hL : L ≤ 3072) (h : REL a b) (next : ∀ a' ta' b' tb', REL a' b' → J E X b0 L xs 1324 (lsL E b0 i) [] a' ta' b' tb') : J E X b0 L xs 478 (lsL E b0 i) [] a ta b tb := by
  refine j_aload (x := E.2.1 0) (q := 479) dL_law_478 rfl rfl ?_
  refine j_arg (c := 1) (q := 484) dL_law_479 rfl dL_law_480 rfl dL_law_481 (by decide) rfl dL_law_482 rfl dL_law_483 rfl hi hL (by decide) ?_
  refine j_arg (c := 2) (q := 489) dL_law_484 rfl dL_law_485 rfl dL_law_486 (by decide) rfl dL_law_487 rfl dL_law_488 rfl hi hL (by decide) ?_
  refine j_callA (As := [.int (xs (i + 1)), .int (xs (i + 2))]) (st := []) (q := 492) (c_X6_sit h6 (rel_wfh h) h.2.2.2.2.1.1) lk_R_law_58 rfl rfl rfl rfl rfl (Nat.le_of_ble_eq_true rfl) (Nat.le_of_ble_eq_true rfl) (Nat.le_of_ble_eq_true rfl) dL_law_489 rfl (fun r a1 ta1 hp => ?_)
  obtain ⟨rfl, e1, e2⟩ := hp
  rw [e1]
  show J E X b0 L xs 492 (lsL E b0 i) [.int ((m_sit a (xs (i + 1)) (xs (i + 2))).1)] ((m_sit a (xs (i + 1)) (xs (i + 2))).2) _ b tb
  refine j_aload (x := E.2.1 40) (q := 493) dL_law_492 rfl rfl ?_
  refine j_arg (c := 1) (q := 498) dL_law_493 rfl dL_law_494 rfl dL_law_495 (by decide) rfl dL_law_496 rfl dL_law_497 rfl hi hL (by decide) ?_
  refine j_arg (c := 2) (q := 503) dL_law_498 rfl dL_law_499 rfl dL_law_500 (by decide) rfl dL_law_501 rfl dL_law_502 rfl hi hL (by decide) ?_
  refine j_callB (As := [.int (xs (i + 1)), .int (xs (i + 2))]) (st := [.int ((m_sit a (xs (i + 1)) (xs (i + 2))).1)]) (q := 506) (c_X7_sit h7 (rel_wfm h) (rel_17 h)) lk_R_law_61 rfl rfl rfl rfl rfl (Nat.le_of_ble_eq_true rfl) (Nat.le_of_ble_eq_true rfl) (Nat.le_of_ble_eq_true rfl) dL_law_503 rfl (fun r b1 tb1 hp => ?_)
  obtain ⟨rfl, e3, e4⟩ := hp
  rw [e3]
  show J E X b0 L xs 506 (lsL E b0 i) [.int ((q_sit b (xs (i + 1)) (xs (i + 2))).1), .int ((m_sit a (xs (i + 1)) (xs (i + 2))).1)] ((m_sit a (xs (i + 1)) (xs (i + 2))).2) _ ((q_sit b (xs (i + 1)) (xs (i + 2))).2) _
  refine j_icmp_eq (t := 1324) (q := 509) dL_law_506 (by decide) rfl (fun _ => next _ _ _ _ (rel_sit h (xs (i + 1)) (xs (i + 2))).2) (fun c => absurd (rel_sit h (xs (i + 1)) (xs (i + 2))).1 c)
set_option maxRecDepth 100000 in
set_option maxHeartbeats 1000000 in
theorem law_11 {E : EE} {X : XX} {b0 L i : Nat} {xs : Nat → Int32} {a b : Sto} {ta tb : Stl} (h6 : inj E 0 40) (h7 : inj E 40 13) (hi : i + 6 ≤ L) (hL : L ≤ 3072) (h : REL a b) (next : ∀ a' ta' b' tb', REL a' b' → J E X b0 L xs 1324 (lsL E b0 i) [] a' ta' b' tb') : J E X b0 L xs 511 (lsL E b0 i) [] a ta b tb := by
  refine j_aload (x := E.2.1 0) (q := 512) dL_law_511 rfl rfl ?_
  refine j_arg (c := 1) (q := 517) dL_law_512 rfl dL_law_513 rfl dL_law_514 (by decide) rfl dL_law_515 rfl dL_law_516 rfl hi hL (by decide) ?_
  refine j_arg (c := 2) (q := 522) dL_law_517 rfl dL_law_518 rfl dL_law_519 (by decide) rfl dL_law_520 rfl dL_law_521 rfl hi hL (by decide) ?_
  refine j_callA (As := [.int (xs (i + 1)), .int (xs (i + 2))]) (st := []) (q := 525) (c_X6_room h6 (rel_wfh h)) lk_R_law_62 rfl rfl rfl rfl rfl (Nat.le_of_ble_eq_true rfl) (Nat.le_of_ble_eq_true rfl) (Nat.le_of_ble_eq_true rfl) dL_law_522 rfl (fun r a1 ta1 hp => ?_)
  obtain ⟨rfl, e1, e2⟩ := hp
  rw [e1]
  show J E X b0 L xs 525 (lsL E b0 i) [.int ((m_room a (xs (i + 1)) (xs (i + 2))).1)] ((m_room a (xs (i + 1)) (xs (i + 2))).2) _ b tb
  refine j_aload (x := E.2.1 40) (q := 526) dL_law_525 rfl rfl ?_
  refine j_arg (c := 1) (q := 531) dL_law_526 rfl dL_law_527 rfl dL_law_528 (by decide) rfl dL_law_529 rfl dL_law_530 rfl hi hL (by decide) ?_
  refine j_arg (c := 2) (q := 536) dL_law_531 rfl dL_law_532 rfl dL_law_533 (by decide) rfl dL_law_534 rfl dL_law_535 rfl hi hL (by decide) ?_
  refine j_callB (As := [.int (xs (i + 1)), .int (xs (i + 2))]) (st := [.int ((m_room a (xs (i + 1)) (xs (i + 2))).1)]) (q := 539) (c_X7_room h7 (rel_wfm h)) lk_R_law_65 rfl rfl rfl rfl rfl (Nat.le_of_ble_eq_true rfl) (Nat.le_of_ble_eq_true rfl) (Nat.le_of_ble_eq_true rfl) dL_law_536 rfl (fun r b1 tb1 hp => ?_)
  obtain ⟨rfl, e3, e4⟩ := hp
  rw [e3]
  show J E X b0 L xs 539 (lsL E b0 i) [.int ((q_room b (xs (i + 1)) (xs (i + 2))).1), .int ((m_room a (xs (i + 1)) (xs (i + 2))).1)] ((m_room a (xs (i + 1)) (xs (i + 2))).2) _ ((q_room b (xs (i + 1)) (xs (i + 2))).2) _
  refine j_icmp_eq (t := 1324) (q := 542) dL_law_539 (by decide) rfl (fun _ => next _ _ _ _ (rel_room h (xs (i + 1)) (xs (i + 2))).2) (fun c => absurd (rel_room h (xs (i + 1)) (xs (i + 2))).1 c)
set_option maxRecDepth 100000 in
set_option maxHeartbeats 1000000 in
theorem law_12 {E : EE} {X : XX} {b0 L i : Nat} {xs : Nat → Int32} {a b : Sto} {ta tb : Stl} (h6 : inj E 0 40) (h7 : inj E 40 13) (hi : i + 6 ≤ L) (hL : L ≤ 3072) (h : REL a b) (next : ∀ a' ta' b' tb', REL a' b' → J E X b0 L xs 1324 (lsL E b0 i) [] a' ta' b' tb') : J E X b0 L xs 544 (lsL E b0 i) [] a ta b tb := by
  refine j_aload (x := E.2.1 0) (q := 545) dL_law_544 rfl rfl ?_
  refine j_arg (c := 1) (q := 550) dL_law_545 rfl dL_law_546 rfl dL_law_547 (by decide) rfl dL_law_548 rfl dL_law_549 rfl hi hL (by decide) ?_
  refine j_arg (c := 2) (q := 555) dL_law_550 rfl dL_law_551 rfl dL_law_552 (by decide) rfl dL_law_553 rfl dL_law_554 rfl hi hL (by decide) ?_
  refine j_callA (As := [.int (xs (i + 1)), .int (xs (i + 2))]) (st := []) (q := 558) (c_X6_doorHas h6 (rel_wfh h)) lk_R_law_66 rfl rfl rfl rfl rfl (Nat.le_of_ble_eq_true rfl) (Nat.le_of_ble_eq_true rfl) (Nat.le_of_ble_eq_true rfl) dL_law_555 rfl (fun r a1 ta1 hp => ?_)
  obtain ⟨rfl, e1, e2⟩ := hp
  rw [e1]
  show J E X b0 L xs 558 (lsL E b0 i) [.int ((m_doorHas a (xs (i + 1)) (xs (i + 2))).1)] ((m_doorHas a (xs (i + 1)) (xs (i + 2))).2) _ b tb
  refine j_aload (x := E.2.1 40) (q := 559) dL_law_558 rfl rfl ?_
  refine j_arg (c := 1) (q := 564) dL_law_559 rfl dL_law_560 rfl dL_law_561 (by decide) rfl dL_law_562 rfl dL_law_563 rfl hi hL (by decide) ?_
  refine j_arg (c := 2) (q := 569) dL_law_564 rfl dL_law_565 rfl dL_law_566 (by decide) rfl dL_law_567 rfl dL_law_568 rfl hi hL (by decide) ?_
  refine j_callB (As := [.int (xs (i + 1)), .int (xs (i + 2))]) (st := [.int ((m_doorHas a (xs (i + 1)) (xs (i + 2))).1)]) (q := 572) (c_X7_doorHas h7 (rel_wfm h)) lk_R_law_69 rfl rfl rfl rfl rfl (Nat.le_of_ble_eq_true rfl) (Nat.le_of_ble_eq_true rfl) (Nat.le_of_ble_eq_true rfl) dL_law_569 rfl (fun r b1 tb1 hp => ?_)
  obtain ⟨rfl, e3, e4⟩ := hp
  rw [e3]
  show J E X b0 L xs 572 (lsL E b0 i) [.int ((q_doorHas b (xs (i + 1)) (xs (i + 2))).1), .int ((m_doorHas a (xs (i + 1)) (xs (i + 2))).1)] ((m_doorHas a (xs (i + 1)) (xs (i + 2))).2) _ ((q_doorHas b (xs (i + 1)) (xs (i + 2))).2) _
  refine j_icmp_eq (t := 1324) (q := 575) dL_law_572 (by decide) rfl (fun _ => next _ _ _ _ (rel_doorHas h (xs (i + 1)) (xs (i + 2))).2) (fun c => absurd (rel_doorHas h (xs (i + 1)) (xs (i + 2))).1 c)
set_option maxRecDepth 100000 in
set_option maxHeartbeats 1000000 in
theorem law_13 {E : EE} {X : XX} {b0 L i : Nat} {xs : Nat → Int32} {a b : Sto} {ta tb : Stl} (h6 : inj E 0 40) (h7 : inj E 40 13) (hi : i + 6 ≤ L) (hL : L ≤ 3072) (h : REL a b) (next : ∀ a' ta' b' tb', REL a' b' → J E X b0 L xs 1324 (lsL E b0 i) [] a' ta' b' tb') : J E X b0 L xs 577 (lsL E b0 i) [] a ta b tb := by
  refine j_aload (x := E.2.1 0) (q := 578) dL_law_577 rfl rfl ?_
  refine j_arg (c := 1) (q := 583) dL_law_578 rfl dL_law_579 rfl dL_law_580 (by decide) rfl dL_law_581 rfl dL_law_582 rfl hi hL (by decide) ?_
  refine j_arg (c := 2) (q := 588) dL_law_583 rfl dL_law_584 rfl dL_law_585 (by decide) rfl dL_law_586 rfl dL_law_587 rfl hi hL (by decide) ?_
  refine j_callA (As := [.int (xs (i + 1)), .int (xs (i + 2))]) (st := []) (q := 591) (c_X6_sitter h6 (rel_wfh h)) lk_R_law_70 rfl rfl rfl rfl rfl (Nat.le_of_ble_eq_true rfl) (Nat.le_of_ble_eq_true rfl) (Nat.le_of_ble_eq_true rfl) dL_law_588 rfl (fun r a1 ta1 hp => ?_)
  obtain ⟨rfl, e1, e2⟩ := hp
  rw [e1]
  show J E X b0 L xs 591 (lsL E b0 i) [.int ((m_sitter a (xs (i + 1)) (xs (i + 2))).1)] ((m_sitter a (xs (i + 1)) (xs (i + 2))).2) _ b tb
  refine j_aload (x := E.2.1 40) (q := 592) dL_law_591 rfl rfl ?_
  refine j_arg (c := 1) (q := 597) dL_law_592 rfl dL_law_593 rfl dL_law_594 (by decide) rfl dL_law_595 rfl dL_law_596 rfl hi hL (by decide) ?_
  refine j_arg (c := 2) (q := 602) dL_law_597 rfl dL_law_598 rfl dL_law_599 (by decide) rfl dL_law_600 rfl dL_law_601 rfl hi hL (by decide) ?_
  refine j_callB (As := [.int (xs (i + 1)), .int (xs (i + 2))]) (st := [.int ((m_sitter a (xs (i + 1)) (xs (i + 2))).1)]) (q := 605) (c_X7_sitter h7 (rel_wfm h)) lk_R_law_73 rfl rfl rfl rfl rfl (Nat.le_of_ble_eq_true rfl) (Nat.le_of_ble_eq_true rfl) (Nat.le_of_ble_eq_true rfl) dL_law_602 rfl (fun r b1 tb1 hp => ?_)
  obtain ⟨rfl, e3, e4⟩ := hp
  rw [e3]
  show J E X b0 L xs 605 (lsL E b0 i) [.int ((q_sitter b (xs (i + 1)) (xs (i + 2))).1), .int ((m_sitter a (xs (i + 1)) (xs (i + 2))).1)] ((m_sitter a (xs (i + 1)) (xs (i + 2))).2) _ ((q_sitter b (xs (i + 1)) (xs (i + 2))).2) _
  refine j_icmp_eq (t := 1324) (q := 608) dL_law_605 (by decide) rfl (fun _ => next _ _ _ _ (rel_sitter h (xs (i + 1)) (xs (i + 2))).2) (fun c => absurd (rel_sitter h (xs (i + 1)) (xs (i + 2))).1 c)
set_option maxRecDepth 100000 in
set_option maxHeartbeats 1000000 in
theorem law_14 {E : EE} {X : XX} {b0 L i : Nat} {xs : Nat → Int32} {a b : Sto} {ta tb : Stl} (h6 : inj E 0 40) (h7 : inj E 40 13) (hi : i + 6 ≤ L) (hL : L ≤ 3072) (h : REL a b) (next : ∀ a' ta' b' tb', REL a' b' → J E X b0 L xs 1324 (lsL E b0 i) [] a' ta' b' tb') : J E X b0 L xs 610 (lsL E b0 i) [] a ta b tb := by
  refine j_aload (x := E.2.1 0) (q := 611) dL_law_610 rfl rfl ?_
  refine j_arg (c := 1) (q := 616) dL_law_611 rfl dL_law_612 rfl dL_law_613 (by decide) rfl dL_law_614 rfl dL_law_615 rfl hi hL (by decide) ?_
  refine j_arg (c := 2) (q := 621) dL_law_616 rfl dL_law_617 rfl dL_law_618 (by decide) rfl dL_law_619 rfl dL_law_620 rfl hi hL (by decide) ?_
  refine j_callA (As := [.int (xs (i + 1)), .int (xs (i + 2))]) (st := []) (q := 624) (c_X6_ahead h6 (rel_wfh h)) lk_R_law_74 rfl rfl rfl rfl rfl (Nat.le_of_ble_eq_true rfl) (Nat.le_of_ble_eq_true rfl) (Nat.le_of_ble_eq_true rfl) dL_law_621 rfl (fun r a1 ta1 hp => ?_)
  obtain ⟨x, rfl, hx, hf⟩ := hp
  show J E X b0 L xs 624 (lsL E b0 i) [.int x] (a1) _ b tb
  refine j_aload (x := E.2.1 40) (q := 625) dL_law_624 rfl rfl ?_
  refine j_arg (c := 1) (q := 630) dL_law_625 rfl dL_law_626 rfl dL_law_627 (by decide) rfl dL_law_628 rfl dL_law_629 rfl hi hL (by decide) ?_
  refine j_arg (c := 2) (q := 635) dL_law_630 rfl dL_law_631 rfl dL_law_632 (by decide) rfl dL_law_633 rfl dL_law_634 rfl hi hL (by decide) ?_
  refine j_callB (As := [.int (xs (i + 1)), .int (xs (i + 2))]) (st := [.int x]) (q := 638) (c_X7_ahead h7 (rel_wfm h)) lk_R_law_77 rfl rfl rfl rfl rfl (Nat.le_of_ble_eq_true rfl) (Nat.le_of_ble_eq_true rfl) (Nat.le_of_ble_eq_true rfl) dL_law_635 rfl (fun r b1 tb1 hp => ?_)
  obtain ⟨rfl, e3, e4⟩ := hp
  rw [e3]
  show J E X b0 L xs 638 (lsL E b0 i) [.int ((q_ahead b (xs (i + 1)) (xs (i + 2))).1), .int x] (a1) _ ((q_ahead b (xs (i + 1)) (xs (i + 2))).2) _
  refine j_icmp_eq (t := 1324) (q := 641) dL_law_638 (by decide) rfl (fun _ => next _ _ _ _ (REL_S h hf (rel_ahead h (xs (i + 1)) (xs (i + 2))).2)) (fun c => absurd (hx.trans (rel_ahead h (xs (i + 1)) (xs (i + 2))).1) c)
set_option maxRecDepth 100000 in
set_option maxHeartbeats 1000000 in
theorem law_15 {E : EE} {X : XX} {b0 L i : Nat} {xs : Nat → Int32} {a b : Sto} {ta tb : Stl} (h6 : inj E 0 40) (h7 : inj E 40 13) (hi : i + 6 ≤ L) (hL : L ≤ 3072) (h : REL a b) (next : ∀ a' ta' b' tb', REL a' b' → J E X b0 L xs 1324 (lsL E b0 i) [] a' ta' b' tb') : J E X b0 L xs 643 (lsL E b0 i) [] a ta b tb := by
  refine j_aload (x := E.2.1 0) (q := 644) dL_law_643 rfl rfl ?_
  refine j_arg (c := 1) (q := 649) dL_law_644 rfl dL_law_645 rfl dL_law_646 (by decide) rfl dL_law_647 rfl dL_law_648 rfl hi hL (by decide) ?_
  refine j_callA (As := [.int (xs (i + 1))]) (st := []) (q := 652) (c_X6_allAhead h6 (rel_wfh h)) lk_R_law_78 rfl rfl rfl rfl rfl (Nat.le_of_ble_eq_true rfl) (Nat.le_of_ble_eq_true rfl) (Nat.le_of_ble_eq_true rfl) dL_law_649 rfl (fun r a1 ta1 hp => ?_)
  obtain ⟨x, rfl, hx, hf⟩ := hp
  show J E X b0 L xs 652 (lsL E b0 i) [.int x] (a1) _ b tb
  refine j_aload (x := E.2.1 40) (q := 653) dL_law_652 rfl rfl ?_
  refine j_arg (c := 1) (q := 658) dL_law_653 rfl dL_law_654 rfl dL_law_655 (by decide) rfl dL_law_656 rfl dL_law_657 rfl hi hL (by decide) ?_
  refine j_callB (As := [.int (xs (i + 1))]) (st := [.int x]) (q := 661) (c_X7_allAhead h7 (rel_wfm h)) lk_R_law_81 rfl rfl rfl rfl rfl (Nat.le_of_ble_eq_true rfl) (Nat.le_of_ble_eq_true rfl) (Nat.le_of_ble_eq_true rfl) dL_law_658 rfl (fun r b1 tb1 hp => ?_)
  obtain ⟨rfl, e3, e4⟩ := hp
  rw [e3]
  show J E X b0 L xs 661 (lsL E b0 i) [.int ((q_allAhead b (xs (i + 1))).1), .int x] (a1) _ ((q_allAhead b (xs (i + 1))).2) _
  refine j_icmp_eq (t := 1324) (q := 664) dL_law_661 (by decide) rfl (fun _ => next _ _ _ _ (REL_S h hf (rel_allAhead h (xs (i + 1))).2)) (fun c => absurd (hx.trans (rel_allAhead h (xs (i + 1))).1) c)
set_option maxRecDepth 100000 in
set_option maxHeartbeats 1000000 in
theorem law_16 {E : EE} {X : XX} {b0 L i : Nat} {xs : Nat → Int32} {a b : Sto} {ta tb : Stl} (h6 : inj E 0 40) (h7 : inj E 40 13) (hi : i + 6 ≤ L) (hL : L ≤ 3072) (h : REL a b) (next : ∀ a' ta' b' tb', REL a' b' → J E X b0 L xs 1324 (lsL E b0 i) [] a' ta' b' tb') : J E X b0 L xs 666 (lsL E b0 i) [] a ta b tb := by
  refine j_aload (x := E.2.1 0) (q := 667) dL_law_666 rfl rfl ?_
  refine j_arg (c := 1) (q := 672) dL_law_667 rfl dL_law_668 rfl dL_law_669 (by decide) rfl dL_law_670 rfl dL_law_671 rfl hi hL (by decide) ?_
  refine j_callA (As := [.int (xs (i + 1))]) (st := []) (q := 675) (c_X6_shivers h6 (rel_wfh h)) lk_R_law_82 rfl rfl rfl rfl rfl (Nat.le_of_ble_eq_true rfl) (Nat.le_of_ble_eq_true rfl) (Nat.le_of_ble_eq_true rfl) dL_law_672 rfl (fun r a1 ta1 hp => ?_)
  obtain ⟨x, rfl, hx, hf⟩ := hp
  show J E X b0 L xs 675 (lsL E b0 i) [.int x] (a1) _ b tb
  refine j_aload (x := E.2.1 40) (q := 676) dL_law_675 rfl rfl ?_
  refine j_arg (c := 1) (q := 681) dL_law_676 rfl dL_law_677 rfl dL_law_678 (by decide) rfl dL_law_679 rfl dL_law_680 rfl hi hL (by decide) ?_
  refine j_callB (As := [.int (xs (i + 1))]) (st := [.int x]) (q := 684) (c_X7_shivers h7 (rel_wfm h)) lk_R_law_85 rfl rfl rfl rfl rfl (Nat.le_of_ble_eq_true rfl) (Nat.le_of_ble_eq_true rfl) (Nat.le_of_ble_eq_true rfl) dL_law_681 rfl (fun r b1 tb1 hp => ?_)
  obtain ⟨rfl, e3, e4⟩ := hp
  rw [e3]
  show J E X b0 L xs 684 (lsL E b0 i) [.int ((q_shivers b (xs (i + 1))).1), .int x] (a1) _ ((q_shivers b (xs (i + 1))).2) _
  refine j_icmp_eq (t := 1324) (q := 687) dL_law_684 (by decide) rfl (fun _ => next _ _ _ _ (REL_S h hf (rel_shivers h (xs (i + 1))).2)) (fun c => absurd (hx.trans (rel_shivers h (xs (i + 1))).1) c)
set_option maxRecDepth 100000 in
set_option maxHeartbeats 1000000 in
theorem law_17 {E : EE} {X : XX} {b0 L i : Nat} {xs : Nat → Int32} {a b : Sto} {ta tb : Stl} (h6 : inj E 0 40) (h7 : inj E 40 13) (hi : i + 6 ≤ L) (hL : L ≤ 3072) (h : REL a b) (next : ∀ a' ta' b' tb', REL a' b' → J E X b0 L xs 1324 (lsL E b0 i) [] a' ta' b' tb') : J E X b0 L xs 689 (lsL E b0 i) [] a ta b tb := by
  refine j_aload (x := E.2.1 0) (q := 690) dL_law_689 rfl rfl ?_
  refine j_arg (c := 1) (q := 695) dL_law_690 rfl dL_law_691 rfl dL_law_692 (by decide) rfl dL_law_693 rfl dL_law_694 rfl hi hL (by decide) ?_
  refine j_arg (c := 2) (q := 700) dL_law_695 rfl dL_law_696 rfl dL_law_697 (by decide) rfl dL_law_698 rfl dL_law_699 rfl hi hL (by decide) ?_
  refine j_arg (c := 3) (q := 705) dL_law_700 rfl dL_law_701 rfl dL_law_702 (by decide) rfl dL_law_703 rfl dL_law_704 rfl hi hL (by decide) ?_
  refine j_arg (c := 4) (q := 710) dL_law_705 rfl dL_law_706 rfl dL_law_707 (by decide) rfl dL_law_708 rfl dL_law_709 rfl hi hL (by decide) ?_
  refine j_arg (c := 5) (q := 715) dL_law_710 rfl dL_law_711 rfl dL_law_712 (by decide) rfl dL_law_713 rfl dL_law_714 rfl hi hL (by decide) ?_
  refine j_callA (As := [.int (xs (i + 1)), .int (xs (i + 2)), .int (xs (i + 3)), .int (xs (i + 4)), .int (xs (i + 5))]) (st := []) (q := 718) (c_X6_moved h6 (rel_wfh h)) lk_R_law_86 rfl rfl rfl rfl rfl (Nat.le_of_ble_eq_true rfl) (Nat.le_of_ble_eq_true rfl) (Nat.le_of_ble_eq_true rfl) dL_law_715 rfl (fun r a1 ta1 hp => ?_)
  obtain ⟨x, rfl, hx, hf⟩ := hp
  show J E X b0 L xs 718 (lsL E b0 i) [.int x] (a1) _ b tb
  refine j_aload (x := E.2.1 40) (q := 719) dL_law_718 rfl rfl ?_
  refine j_arg (c := 1) (q := 724) dL_law_719 rfl dL_law_720 rfl dL_law_721 (by decide) rfl dL_law_722 rfl dL_law_723 rfl hi hL (by decide) ?_
  refine j_arg (c := 2) (q := 729) dL_law_724 rfl dL_law_725 rfl dL_law_726 (by decide) rfl dL_law_727 rfl dL_law_728 rfl hi hL (by decide) ?_
  refine j_arg (c := 3) (q := 734) dL_law_729 rfl dL_law_730 rfl dL_law_731 (by decide) rfl dL_law_732 rfl dL_law_733 rfl hi hL (by decide) ?_
  refine j_arg (c := 4) (q := 739) dL_law_734 rfl dL_law_735 rfl dL_law_736 (by decide) rfl dL_law_737 rfl dL_law_738 rfl hi hL (by decide) ?_
  refine j_arg (c := 5) (q := 744) dL_law_739 rfl dL_law_740 rfl dL_law_741 (by decide) rfl dL_law_742 rfl dL_law_743 rfl hi hL (by decide) ?_
  refine j_callB (As := [.int (xs (i + 1)), .int (xs (i + 2)), .int (xs (i + 3)), .int (xs (i + 4)), .int (xs (i + 5))]) (st := [.int x]) (q := 747) (c_X7_moved h7 (rel_wfm h)) lk_R_law_89 rfl rfl rfl rfl rfl (Nat.le_of_ble_eq_true rfl) (Nat.le_of_ble_eq_true rfl) (Nat.le_of_ble_eq_true rfl) dL_law_744 rfl (fun r b1 tb1 hp => ?_)
  obtain ⟨rfl, e3, e4⟩ := hp
  rw [e3]
  show J E X b0 L xs 747 (lsL E b0 i) [.int ((q_moved b (xs (i + 1)) (xs (i + 2)) (xs (i + 3)) (xs (i + 4)) (xs (i + 5))).1), .int x] (a1) _ ((q_moved b (xs (i + 1)) (xs (i + 2)) (xs (i + 3)) (xs (i + 4)) (xs (i + 5))).2) _
  refine j_icmp_eq (t := 1324) (q := 750) dL_law_747 (by decide) rfl (fun _ => next _ _ _ _ (REL_S h hf (rel_moved h (xs (i + 1)) (xs (i + 2)) (xs (i + 3)) (xs (i + 4)) (xs (i + 5))).2)) (fun c => absurd (hx.trans (rel_moved h (xs (i + 1)) (xs (i + 2)) (xs (i + 3)) (xs (i + 4)) (xs (i + 5))).1) c)
set_option maxRecDepth 100000 in
set_option maxHeartbeats 1000000 in
theorem law_18 {E : EE} {X : XX} {b0 L i : Nat} {xs : Nat → Int32} {a b : Sto} {ta tb : Stl} (h6 : inj E 0 40) (h7 : inj E 40 13) (hi : i + 6 ≤ L) (hL : L ≤ 3072) (h : REL a b) (next : ∀ a' ta' b' tb', REL a' b' → J E X b0 L xs 1324 (lsL E b0 i) [] a' ta' b' tb') : J E X b0 L xs 752 (lsL E b0 i) [] a ta b tb := by
  refine j_aload (x := E.2.1 0) (q := 753) dL_law_752 rfl rfl ?_
  refine j_arg (c := 1) (q := 758) dL_law_753 rfl dL_law_754 rfl dL_law_755 (by decide) rfl dL_law_756 rfl dL_law_757 rfl hi hL (by decide) ?_
  refine j_arg (c := 2) (q := 763) dL_law_758 rfl dL_law_759 rfl dL_law_760 (by decide) rfl dL_law_761 rfl dL_law_762 rfl hi hL (by decide) ?_
  refine j_arg (c := 3) (q := 768) dL_law_763 rfl dL_law_764 rfl dL_law_765 (by decide) rfl dL_law_766 rfl dL_law_767 rfl hi hL (by decide) ?_
  refine j_arg (c := 4) (q := 773) dL_law_768 rfl dL_law_769 rfl dL_law_770 (by decide) rfl dL_law_771 rfl dL_law_772 rfl hi hL (by decide) ?_
  refine j_callA (As := [.int (xs (i + 1)), .int (xs (i + 2)), .int (xs (i + 3)), .int (xs (i + 4))]) (st := []) (q := 776) (c_X6_sitWhere h6 (rel_wfh h)) lk_R_law_90 rfl rfl rfl rfl rfl (Nat.le_of_ble_eq_true rfl) (Nat.le_of_ble_eq_true rfl) (Nat.le_of_ble_eq_true rfl) dL_law_773 rfl (fun r a1 ta1 hp => ?_)
  obtain ⟨x, rfl, hx, hf⟩ := hp
  show J E X b0 L xs 776 (lsL E b0 i) [.int x] (a1) _ b tb
  refine j_aload (x := E.2.1 40) (q := 777) dL_law_776 rfl rfl ?_
  refine j_arg (c := 1) (q := 782) dL_law_777 rfl dL_law_778 rfl dL_law_779 (by decide) rfl dL_law_780 rfl dL_law_781 rfl hi hL (by decide) ?_
  refine j_arg (c := 2) (q := 787) dL_law_782 rfl dL_law_783 rfl dL_law_784 (by decide) rfl dL_law_785 rfl dL_law_786 rfl hi hL (by decide) ?_
  refine j_arg (c := 3) (q := 792) dL_law_787 rfl dL_law_788 rfl dL_law_789 (by decide) rfl dL_law_790 rfl dL_law_791 rfl hi hL (by decide) ?_
  refine j_arg (c := 4) (q := 797) dL_law_792 rfl dL_law_793 rfl dL_law_794 (by decide) rfl dL_law_795 rfl dL_law_796 rfl hi hL (by decide) ?_
  refine j_callB (As := [.int (xs (i + 1)), .int (xs (i + 2)), .int (xs (i + 3)), .int (xs (i + 4))]) (st := [.int x]) (q := 800) (c_X7_sitWhere h7 (rel_wfm h)) lk_R_law_94 rfl rfl rfl rfl rfl (Nat.le_of_ble_eq_true rfl) (Nat.le_of_ble_eq_true rfl) (Nat.le_of_ble_eq_true rfl) dL_law_797 rfl (fun r b1 tb1 hp => ?_)
  obtain ⟨rfl, e3, e4⟩ := hp
  rw [e3]
  show J E X b0 L xs 800 (lsL E b0 i) [.int ((q_sitWhere b (xs (i + 1)) (xs (i + 2)) (xs (i + 3)) (xs (i + 4))).1), .int x] (a1) _ ((q_sitWhere b (xs (i + 1)) (xs (i + 2)) (xs (i + 3)) (xs (i + 4))).2) _
  refine j_icmp_eq (t := 1324) (q := 803) dL_law_800 (by decide) rfl (fun _ => next _ _ _ _ (REL_S h hf (rel_sitWhere h (xs (i + 1)) (xs (i + 2)) (xs (i + 3)) (xs (i + 4))).2)) (fun c => absurd (hx.trans (rel_sitWhere h (xs (i + 1)) (xs (i + 2)) (xs (i + 3)) (xs (i + 4))).1) c)
set_option maxRecDepth 100000 in
set_option maxHeartbeats 1000000 in
theorem law_19 {E : EE} {X : XX} {b0 L i : Nat} {xs : Nat → Int32} {a b : Sto} {ta tb : Stl} (h6 : inj E 0 40) (h7 : inj E 40 13) (hi : i + 6 ≤ L) (hL : L ≤ 3072) (h : REL a b) (next : ∀ a' ta' b' tb', REL a' b' → J E X b0 L xs 1324 (lsL E b0 i) [] a' ta' b' tb') : J E X b0 L xs 805 (lsL E b0 i) [] a ta b tb := by
  refine j_aload (x := E.2.1 0) (q := 806) dL_law_805 rfl rfl ?_
  refine j_arg (c := 1) (q := 811) dL_law_806 rfl dL_law_807 rfl dL_law_808 (by decide) rfl dL_law_809 rfl dL_law_810 rfl hi hL (by decide) ?_
  refine j_arg (c := 2) (q := 816) dL_law_811 rfl dL_law_812 rfl dL_law_813 (by decide) rfl dL_law_814 rfl dL_law_815 rfl hi hL (by decide) ?_
  refine j_arg (c := 3) (q := 821) dL_law_816 rfl dL_law_817 rfl dL_law_818 (by decide) rfl dL_law_819 rfl dL_law_820 rfl hi hL (by decide) ?_
  refine j_callA (As := [.int (xs (i + 1)), .int (xs (i + 2)), .int (xs (i + 3))]) (st := []) (q := 824) (c_X6_led h6 (rel_wfh h)) lk_R_law_95 rfl rfl rfl rfl rfl (Nat.le_of_ble_eq_true rfl) (Nat.le_of_ble_eq_true rfl) (Nat.le_of_ble_eq_true rfl) dL_law_821 rfl (fun r a1 ta1 hp => ?_)
  obtain ⟨x, rfl, hx, hf⟩ := hp
  show J E X b0 L xs 824 (lsL E b0 i) [.int x] (a1) _ b tb
  refine j_aload (x := E.2.1 40) (q := 825) dL_law_824 rfl rfl ?_
  refine j_arg (c := 1) (q := 830) dL_law_825 rfl dL_law_826 rfl dL_law_827 (by decide) rfl dL_law_828 rfl dL_law_829 rfl hi hL (by decide) ?_
  refine j_arg (c := 2) (q := 835) dL_law_830 rfl dL_law_831 rfl dL_law_832 (by decide) rfl dL_law_833 rfl dL_law_834 rfl hi hL (by decide) ?_
  refine j_arg (c := 3) (q := 840) dL_law_835 rfl dL_law_836 rfl dL_law_837 (by decide) rfl dL_law_838 rfl dL_law_839 rfl hi hL (by decide) ?_
  refine j_callB (As := [.int (xs (i + 1)), .int (xs (i + 2)), .int (xs (i + 3))]) (st := [.int x]) (q := 843) (c_X7_led h7 (rel_wfm h)) lk_R_law_98 rfl rfl rfl rfl rfl (Nat.le_of_ble_eq_true rfl) (Nat.le_of_ble_eq_true rfl) (Nat.le_of_ble_eq_true rfl) dL_law_840 rfl (fun r b1 tb1 hp => ?_)
  obtain ⟨rfl, e3, e4⟩ := hp
  rw [e3]
  show J E X b0 L xs 843 (lsL E b0 i) [.int ((q_led b (xs (i + 1)) (xs (i + 2)) (xs (i + 3))).1), .int x] (a1) _ ((q_led b (xs (i + 1)) (xs (i + 2)) (xs (i + 3))).2) _
  refine j_icmp_eq (t := 1324) (q := 846) dL_law_843 (by decide) rfl (fun _ => next _ _ _ _ (REL_S h hf (rel_led h (xs (i + 1)) (xs (i + 2)) (xs (i + 3))).2)) (fun c => absurd (hx.trans (rel_led h (xs (i + 1)) (xs (i + 2)) (xs (i + 3))).1) c)
set_option maxRecDepth 100000 in
set_option maxHeartbeats 1000000 in
theorem law_20 {E : EE} {X : XX} {b0 L i : Nat} {xs : Nat → Int32} {a b : Sto} {ta tb : Stl} (h6 : inj E 0 40) (h7 : inj E 40 13) (hi : i + 6 ≤ L) (hL : L ≤ 3072) (h : REL a b) (next : ∀ a' ta' b' tb', REL a' b' → J E X b0 L xs 1324 (lsL E b0 i) [] a' ta' b' tb') : J E X b0 L xs 848 (lsL E b0 i) [] a ta b tb := by
  refine j_aload (x := E.2.1 0) (q := 849) dL_law_848 rfl rfl ?_
  refine j_arg (c := 1) (q := 854) dL_law_849 rfl dL_law_850 rfl dL_law_851 (by decide) rfl dL_law_852 rfl dL_law_853 rfl hi hL (by decide) ?_
  refine j_arg (c := 2) (q := 859) dL_law_854 rfl dL_law_855 rfl dL_law_856 (by decide) rfl dL_law_857 rfl dL_law_858 rfl hi hL (by decide) ?_
  refine j_arg (c := 3) (q := 864) dL_law_859 rfl dL_law_860 rfl dL_law_861 (by decide) rfl dL_law_862 rfl dL_law_863 rfl hi hL (by decide) ?_
  refine j_callA (As := [.int (xs (i + 1)), .int (xs (i + 2)), .int (xs (i + 3))]) (st := []) (q := 867) (c_X6_came h6 (rel_wfh h) h.1.1) lk_R_law_99 rfl rfl rfl rfl rfl (Nat.le_of_ble_eq_true rfl) (Nat.le_of_ble_eq_true rfl) (Nat.le_of_ble_eq_true rfl) dL_law_864 rfl (fun r a1 ta1 hp => ?_)
  obtain ⟨x, rfl, hx, hf, h8, h9⟩ := hp
  show J E X b0 L xs 867 (lsL E b0 i) [.int x] (a1) _ b tb
  refine j_aload (x := E.2.1 40) (q := 868) dL_law_867 rfl rfl ?_
  refine j_arg (c := 1) (q := 873) dL_law_868 rfl dL_law_869 rfl dL_law_870 (by decide) rfl dL_law_871 rfl dL_law_872 rfl hi hL (by decide) ?_
  refine j_arg (c := 2) (q := 878) dL_law_873 rfl dL_law_874 rfl dL_law_875 (by decide) rfl dL_law_876 rfl dL_law_877 rfl hi hL (by decide) ?_
  refine j_arg (c := 3) (q := 883) dL_law_878 rfl dL_law_879 rfl dL_law_880 (by decide) rfl dL_law_881 rfl dL_law_882 rfl hi hL (by decide) ?_
  refine j_callB (As := [.int (xs (i + 1)), .int (xs (i + 2)), .int (xs (i + 3))]) (st := [.int x]) (q := 886) (c_X7_came h7 (rel_wfm h) (rel_th h) (rel_szm h)) lk_R_law_102 rfl rfl rfl rfl rfl (Nat.le_of_ble_eq_true rfl) (Nat.le_of_ble_eq_true rfl) (Nat.le_of_ble_eq_true rfl) dL_law_883 rfl (fun r b1 tb1 hp => ?_)
  obtain ⟨rfl, e3, e4⟩ := hp
  rw [e3]
  show J E X b0 L xs 886 (lsL E b0 i) [.int ((q_came b (xs (i + 1)) (xs (i + 2)) (xs (i + 3))).1), .int x] (a1) _ ((q_came b (xs (i + 1)) (xs (i + 2)) (xs (i + 3))).2) _
  refine j_icmp_eq (t := 1324) (q := 889) dL_law_886 (by decide) rfl (fun _ => next _ _ _ _ (REL_C h hf h8 h9 (rel_came h (xs (i + 1)) (xs (i + 2)) (xs (i + 3))).2)) (fun c => absurd (hx.trans (rel_came h (xs (i + 1)) (xs (i + 2)) (xs (i + 3))).1) c)
set_option maxRecDepth 100000 in
set_option maxHeartbeats 1000000 in
theorem law_21 {E : EE} {X : XX} {b0 L i : Nat} {xs : Nat → Int32} {a b : Sto} {ta tb : Stl} (h6 : inj E 0 40) (h7 : inj E 40 13) (hi : i + 6 ≤ L) (hL : L ≤ 3072) (h : REL a b) (next : ∀ a' ta' b' tb', REL a' b' → J E X b0 L xs 1324 (lsL E b0 i) [] a' ta' b' tb') : J E X b0 L xs 891 (lsL E b0 i) [] a ta b tb := by
  refine j_aload (x := E.2.1 0) (q := 892) dL_law_891 rfl rfl ?_
  refine j_arg (c := 1) (q := 897) dL_law_892 rfl dL_law_893 rfl dL_law_894 (by decide) rfl dL_law_895 rfl dL_law_896 rfl hi hL (by decide) ?_
  refine j_arg (c := 2) (q := 902) dL_law_897 rfl dL_law_898 rfl dL_law_899 (by decide) rfl dL_law_900 rfl dL_law_901 rfl hi hL (by decide) ?_
  refine j_arg (c := 3) (q := 907) dL_law_902 rfl dL_law_903 rfl dL_law_904 (by decide) rfl dL_law_905 rfl dL_law_906 rfl hi hL (by decide) ?_
  refine j_arg (c := 4) (q := 912) dL_law_907 rfl dL_law_908 rfl dL_law_909 (by decide) rfl dL_law_910 rfl dL_law_911 rfl hi hL (by decide) ?_
  refine j_callA (As := [.int (xs (i + 1)), .int (xs (i + 2)), .int (xs (i + 3)), .int (xs (i + 4))]) (st := []) (q := 915) (c_X6_who h6 (rel_wfh h) h.1.1) lk_R_law_103 rfl rfl rfl rfl rfl (Nat.le_of_ble_eq_true rfl) (Nat.le_of_ble_eq_true rfl) (Nat.le_of_ble_eq_true rfl) dL_law_912 rfl (fun r a1 ta1 hp => ?_)
  obtain ⟨x, rfl, hx, hf, h8, h9⟩ := hp
  show J E X b0 L xs 915 (lsL E b0 i) [.int x] (a1) _ b tb
  refine j_aload (x := E.2.1 40) (q := 916) dL_law_915 rfl rfl ?_
  refine j_arg (c := 1) (q := 921) dL_law_916 rfl dL_law_917 rfl dL_law_918 (by decide) rfl dL_law_919 rfl dL_law_920 rfl hi hL (by decide) ?_
  refine j_arg (c := 2) (q := 926) dL_law_921 rfl dL_law_922 rfl dL_law_923 (by decide) rfl dL_law_924 rfl dL_law_925 rfl hi hL (by decide) ?_
  refine j_arg (c := 3) (q := 931) dL_law_926 rfl dL_law_927 rfl dL_law_928 (by decide) rfl dL_law_929 rfl dL_law_930 rfl hi hL (by decide) ?_
  refine j_arg (c := 4) (q := 936) dL_law_931 rfl dL_law_932 rfl dL_law_933 (by decide) rfl dL_law_934 rfl dL_law_935 rfl hi hL (by decide) ?_
  refine j_callB (As := [.int (xs (i + 1)), .int (xs (i + 2)), .int (xs (i + 3)), .int (xs (i + 4))]) (st := [.int x]) (q := 939) (c_X7_who h7 (rel_wfm h) (rel_th2 h) (rel_szm h)) lk_R_law_106 rfl rfl rfl rfl rfl (Nat.le_of_ble_eq_true rfl) (Nat.le_of_ble_eq_true rfl) (Nat.le_of_ble_eq_true rfl) dL_law_936 rfl (fun r b1 tb1 hp => ?_)
  obtain ⟨rfl, e3, e4⟩ := hp
  rw [e3]
  show J E X b0 L xs 939 (lsL E b0 i) [.int ((q_who b (xs (i + 1)) (xs (i + 2)) (xs (i + 3)) (xs (i + 4))).1), .int x] (a1) _ ((q_who b (xs (i + 1)) (xs (i + 2)) (xs (i + 3)) (xs (i + 4))).2) _
  refine j_icmp_eq (t := 1324) (q := 942) dL_law_939 (by decide) rfl (fun _ => next _ _ _ _ (REL_C h hf h8 h9 (rel_who h (xs (i + 1)) (xs (i + 2)) (xs (i + 3)) (xs (i + 4))).2)) (fun c => absurd (hx.trans (rel_who h (xs (i + 1)) (xs (i + 2)) (xs (i + 3)) (xs (i + 4))).1) c)
set_option maxRecDepth 100000 in
set_option maxHeartbeats 1000000 in
theorem law_22 {E : EE} {X : XX} {b0 L i : Nat} {xs : Nat → Int32} {a b : Sto} {ta tb : Stl} (h6 : inj E 0 40) (h7 : inj E 40 13) (hi : i + 6 ≤ L) (hL : L ≤ 3072) (h : REL a b) (next : ∀ a' ta' b' tb', REL a' b' → J E X b0 L xs 1324 (lsL E b0 i) [] a' ta' b' tb') : J E X b0 L xs 944 (lsL E b0 i) [] a ta b tb := by
  refine j_aload (x := E.2.1 0) (q := 945) dL_law_944 rfl rfl ?_
  refine j_arg (c := 1) (q := 950) dL_law_945 rfl dL_law_946 rfl dL_law_947 (by decide) rfl dL_law_948 rfl dL_law_949 rfl hi hL (by decide) ?_
  refine j_arg (c := 2) (q := 955) dL_law_950 rfl dL_law_951 rfl dL_law_952 (by decide) rfl dL_law_953 rfl dL_law_954 rfl hi hL (by decide) ?_
  refine j_arg (c := 3) (q := 960) dL_law_955 rfl dL_law_956 rfl dL_law_957 (by decide) rfl dL_law_958 rfl dL_law_959 rfl hi hL (by decide) ?_
  refine j_callA (As := [.int (xs (i + 1)), .int (xs (i + 2)), .int (xs (i + 3))]) (st := []) (q := 963) (c_X6_parted h6 (rel_wfh h)) lk_R_law_107 rfl rfl rfl rfl rfl (Nat.le_of_ble_eq_true rfl) (Nat.le_of_ble_eq_true rfl) (Nat.le_of_ble_eq_true rfl) dL_law_960 rfl (fun r a1 ta1 hp => ?_)
  obtain ⟨x, rfl, hx, hf⟩ := hp
  show J E X b0 L xs 963 (lsL E b0 i) [.int x] (a1) _ b tb
  refine j_aload (x := E.2.1 40) (q := 964) dL_law_963 rfl rfl ?_
  refine j_arg (c := 1) (q := 969) dL_law_964 rfl dL_law_965 rfl dL_law_966 (by decide) rfl dL_law_967 rfl dL_law_968 rfl hi hL (by decide) ?_
  refine j_arg (c := 2) (q := 974) dL_law_969 rfl dL_law_970 rfl dL_law_971 (by decide) rfl dL_law_972 rfl dL_law_973 rfl hi hL (by decide) ?_
  refine j_arg (c := 3) (q := 979) dL_law_974 rfl dL_law_975 rfl dL_law_976 (by decide) rfl dL_law_977 rfl dL_law_978 rfl hi hL (by decide) ?_
  refine j_callB (As := [.int (xs (i + 1)), .int (xs (i + 2)), .int (xs (i + 3))]) (st := [.int x]) (q := 982) (c_X7_parted h7 (rel_wfm h)) lk_R_law_110 rfl rfl rfl rfl rfl (Nat.le_of_ble_eq_true rfl) (Nat.le_of_ble_eq_true rfl) (Nat.le_of_ble_eq_true rfl) dL_law_979 rfl (fun r b1 tb1 hp => ?_)
  obtain ⟨rfl, e3, e4⟩ := hp
  rw [e3]
  show J E X b0 L xs 982 (lsL E b0 i) [.int ((q_parted b (xs (i + 1)) (xs (i + 2)) (xs (i + 3))).1), .int x] (a1) _ ((q_parted b (xs (i + 1)) (xs (i + 2)) (xs (i + 3))).2) _
  refine j_icmp_eq (t := 1324) (q := 985) dL_law_982 (by decide) rfl (fun _ => next _ _ _ _ (REL_S h hf (fun k _ => (rel_parted h (xs (i + 1)) (xs (i + 2)) (xs (i + 3))).2 k))) (fun c => absurd (hx.trans (rel_parted h (xs (i + 1)) (xs (i + 2)) (xs (i + 3))).1) c)
set_option maxRecDepth 100000 in
set_option maxHeartbeats 1000000 in
theorem law_23 {E : EE} {X : XX} {b0 L i : Nat} {xs : Nat → Int32} {a b : Sto} {ta tb : Stl} (h6 : inj E 0 40) (h7 : inj E 40 13) (hi : i + 6 ≤ L) (hL : L ≤ 3072) (h : REL a b) (next : ∀ a' ta' b' tb', REL a' b' → J E X b0 L xs 1324 (lsL E b0 i) [] a' ta' b' tb') : J E X b0 L xs 987 (lsL E b0 i) [] a ta b tb := by
  refine j_aload (x := E.2.1 0) (q := 988) dL_law_987 rfl rfl ?_
  refine j_arg (c := 1) (q := 993) dL_law_988 rfl dL_law_989 rfl dL_law_990 (by decide) rfl dL_law_991 rfl dL_law_992 rfl hi hL (by decide) ?_
  refine j_arg (c := 2) (q := 998) dL_law_993 rfl dL_law_994 rfl dL_law_995 (by decide) rfl dL_law_996 rfl dL_law_997 rfl hi hL (by decide) ?_
  refine j_callA (As := [.int (xs (i + 1)), .int (xs (i + 2))]) (st := []) (q := 1001) (c_X6_coldest h6 (rel_wfh h)) lk_R_law_111 rfl rfl rfl rfl rfl (Nat.le_of_ble_eq_true rfl) (Nat.le_of_ble_eq_true rfl) (Nat.le_of_ble_eq_true rfl) dL_law_998 rfl (fun r a1 ta1 hp => ?_)
  obtain ⟨x, rfl, hx, hf⟩ := hp
  show J E X b0 L xs 1001 (lsL E b0 i) [.int x] (a1) _ b tb
  refine j_aload (x := E.2.1 40) (q := 1002) dL_law_1001 rfl rfl ?_
  refine j_arg (c := 1) (q := 1007) dL_law_1002 rfl dL_law_1003 rfl dL_law_1004 (by decide) rfl dL_law_1005 rfl dL_law_1006 rfl hi hL (by decide) ?_
  refine j_arg (c := 2) (q := 1012) dL_law_1007 rfl dL_law_1008 rfl dL_law_1009 (by decide) rfl dL_law_1010 rfl dL_law_1011 rfl hi hL (by decide) ?_
  refine j_callB (As := [.int (xs (i + 1)), .int (xs (i + 2))]) (st := [.int x]) (q := 1015) (c_X7_coldest h7 (rel_wfm h) (rel_th h)) lk_R_law_114 rfl rfl rfl rfl rfl (Nat.le_of_ble_eq_true rfl) (Nat.le_of_ble_eq_true rfl) (Nat.le_of_ble_eq_true rfl) dL_law_1012 rfl (fun r b1 tb1 hp => ?_)
  obtain ⟨rfl, e3, e4⟩ := hp
  rw [e3]
  show J E X b0 L xs 1015 (lsL E b0 i) [.int ((q_coldest b (xs (i + 1)) (xs (i + 2))).1), .int x] (a1) _ ((q_coldest b (xs (i + 1)) (xs (i + 2))).2) _
  refine j_icmp_eq (t := 1324) (q := 1018) dL_law_1015 (by decide) rfl (fun _ => next _ _ _ _ (REL_S h hf (rel_coldest h (xs (i + 1)) (xs (i + 2))).2)) (fun c => absurd (hx.trans (rel_coldest h (xs (i + 1)) (xs (i + 2))).1) c)
set_option maxRecDepth 100000 in
set_option maxHeartbeats 1000000 in
theorem law_24 {E : EE} {X : XX} {b0 L i : Nat} {xs : Nat → Int32} {a b : Sto} {ta tb : Stl} (h6 : inj E 0 40) (h7 : inj E 40 13) (hi : i + 6 ≤ L) (hL : L ≤ 3072) (h : REL a b) (next : ∀ a' ta' b' tb', REL a' b' → J E X b0 L xs 1324 (lsL E b0 i) [] a' ta' b' tb') : J E X b0 L xs 1020 (lsL E b0 i) [] a ta b tb := by
  refine j_aload (x := E.2.1 0) (q := 1021) dL_law_1020 rfl rfl ?_
  refine j_arg (c := 1) (q := 1026) dL_law_1021 rfl dL_law_1022 rfl dL_law_1023 (by decide) rfl dL_law_1024 rfl dL_law_1025 rfl hi hL (by decide) ?_
  refine j_callA (As := [.int (xs (i + 1))]) (st := []) (q := 1029) (c_X6_guest h6 (rel_wfh h)) lk_R_law_115 rfl rfl rfl rfl rfl (Nat.le_of_ble_eq_true rfl) (Nat.le_of_ble_eq_true rfl) (Nat.le_of_ble_eq_true rfl) dL_law_1026 rfl (fun r a1 ta1 hp => ?_)
  obtain ⟨rfl, e1, e2⟩ := hp
  rw [e1]
  show J E X b0 L xs 1029 (lsL E b0 i) [.int ((m_guest a (xs (i + 1))).1)] ((m_guest a (xs (i + 1))).2) _ b tb
  refine j_aload (x := E.2.1 40) (q := 1030) dL_law_1029 rfl rfl ?_
  refine j_arg (c := 1) (q := 1035) dL_law_1030 rfl dL_law_1031 rfl dL_law_1032 (by decide) rfl dL_law_1033 rfl dL_law_1034 rfl hi hL (by decide) ?_
  refine j_callB (As := [.int (xs (i + 1))]) (st := [.int ((m_guest a (xs (i + 1))).1)]) (q := 1038) (c_X7_guest h7 (rel_wfm h)) lk_R_law_118 rfl rfl rfl rfl rfl (Nat.le_of_ble_eq_true rfl) (Nat.le_of_ble_eq_true rfl) (Nat.le_of_ble_eq_true rfl) dL_law_1035 rfl (fun r b1 tb1 hp => ?_)
  obtain ⟨rfl, e3, e4⟩ := hp
  rw [e3]
  show J E X b0 L xs 1038 (lsL E b0 i) [.int ((q_guest b (xs (i + 1))).1), .int ((m_guest a (xs (i + 1))).1)] ((m_guest a (xs (i + 1))).2) _ ((q_guest b (xs (i + 1))).2) _
  refine j_icmp_eq (t := 1324) (q := 1041) dL_law_1038 (by decide) rfl (fun _ => next _ _ _ _ (rel_guest h (xs (i + 1))).2) (fun c => absurd (rel_guest h (xs (i + 1))).1 c)
set_option maxRecDepth 100000 in
set_option maxHeartbeats 1000000 in
theorem law_25 {E : EE} {X : XX} {b0 L i : Nat} {xs : Nat → Int32} {a b : Sto} {ta tb : Stl} (h6 : inj E 0 40) (h7 : inj E 40 13) (hi : i + 6 ≤ L) (hL : L ≤ 3072) (h : REL a b) (next : ∀ a' ta' b' tb', REL a' b' → J E X b0 L xs 1324 (lsL E b0 i) [] a' ta' b' tb') : J E X b0 L xs 1043 (lsL E b0 i) [] a ta b tb := by
  refine j_aload (x := E.2.1 0) (q := 1044) dL_law_1043 rfl rfl ?_
  refine j_arg (c := 1) (q := 1049) dL_law_1044 rfl dL_law_1045 rfl dL_law_1046 (by decide) rfl dL_law_1047 rfl dL_law_1048 rfl hi hL (by decide) ?_
  refine j_arg (c := 2) (q := 1054) dL_law_1049 rfl dL_law_1050 rfl dL_law_1051 (by decide) rfl dL_law_1052 rfl dL_law_1053 rfl hi hL (by decide) ?_
  refine j_arg (c := 3) (q := 1059) dL_law_1054 rfl dL_law_1055 rfl dL_law_1056 (by decide) rfl dL_law_1057 rfl dL_law_1058 rfl hi hL (by decide) ?_
  refine j_callA (As := [.int (xs (i + 1)), .int (xs (i + 2)), .int (xs (i + 3))]) (st := []) (q := 1062) (c_X6_wind h6 (rel_wfh h)) lk_R_law_119 rfl rfl rfl rfl rfl (Nat.le_of_ble_eq_true rfl) (Nat.le_of_ble_eq_true rfl) (Nat.le_of_ble_eq_true rfl) dL_law_1059 rfl (fun r a1 ta1 hp => ?_)
  obtain ⟨x, rfl, hx, hf⟩ := hp
  show J E X b0 L xs 1062 (lsL E b0 i) [.long x] (a1) _ b tb
  obtain ⟨O, NN, g, hO, hO2, hg, hR⟩ := rel_wind h (xs (i + 1)) (xs (i + 2))
  refine j_aload (x := E.2.1 40) (q := 1063) dL_law_1062 rfl rfl ?_
  refine j_arg (c := 1) (q := 1068) dL_law_1063 rfl dL_law_1064 rfl dL_law_1065 (by decide) rfl dL_law_1066 rfl dL_law_1067 rfl hi hL (by decide) ?_
  refine j_arg (c := 2) (q := 1073) dL_law_1068 rfl dL_law_1069 rfl dL_law_1070 (by decide) rfl dL_law_1071 rfl dL_law_1072 rfl hi hL (by decide) ?_
  refine j_arg (c := 3) (q := 1078) dL_law_1073 rfl dL_law_1074 rfl dL_law_1075 (by decide) rfl dL_law_1076 rfl dL_law_1077 rfl hi hL (by decide) ?_
  refine j_callB (As := [.int (xs (i + 1)), .int (xs (i + 2)), .int (xs (i + 3))]) (st := [.long x]) (q := 1081) (c_X7_wind h7 (rel_wfm h) hO hO2 hg) lk_R_law_123 rfl rfl rfl rfl rfl (Nat.le_of_ble_eq_true rfl) (Nat.le_of_ble_eq_true rfl) (Nat.le_of_ble_eq_true rfl) dL_law_1078 rfl (fun r b1 tb1 hp => ?_)
  obtain ⟨rfl, e3, e4⟩ := hp
  rw [e3]
  show J E X b0 L xs 1081 (lsL E b0 i) [.long ((q_wind b (xs (i + 1)) (xs (i + 2)) (xs (i + 3)) O g).1), .long x] (a1) _ ((q_wind b (xs (i + 1)) (xs (i + 2)) (xs (i + 3)) O g).2) _
  refine j_lcmp (q := 1082) dL_law_1081 rfl ?_
  refine j_if_eq (t := 1324) (q := 1085) dL_law_1082 (by decide) rfl (fun _ => next _ _ _ _ (REL_S h hf (hR (xs (i + 3))).2)) (fun c => absurd (by rw [(hx.trans (hR (xs (i + 3))).1)]; exact lgc_self _) c)
set_option maxRecDepth 100000 in
set_option maxHeartbeats 1000000 in
theorem law_26 {E : EE} {X : XX} {b0 L i : Nat} {xs : Nat → Int32} {a b : Sto} {ta tb : Stl} (h6 : inj E 0 40) (h7 : inj E 40 13) (hi : i + 6 ≤ L) (hL : L ≤ 3072) (h : REL a b) (next : ∀ a' ta' b' tb', REL a' b' → J E X b0 L xs 1324 (lsL E b0 i) [] a' ta' b' tb') : J E X b0 L xs 1087 (lsL E b0 i) [] a ta b tb := by
  refine j_aload (x := E.2.1 0) (q := 1088) dL_law_1087 rfl rfl ?_
  refine j_arg (c := 1) (q := 1093) dL_law_1088 rfl dL_law_1089 rfl dL_law_1090 (by decide) rfl dL_law_1091 rfl dL_law_1092 rfl hi hL (by decide) ?_
  refine j_arg (c := 2) (q := 1098) dL_law_1093 rfl dL_law_1094 rfl dL_law_1095 (by decide) rfl dL_law_1096 rfl dL_law_1097 rfl hi hL (by decide) ?_
  refine j_arg (c := 3) (q := 1103) dL_law_1098 rfl dL_law_1099 rfl dL_law_1100 (by decide) rfl dL_law_1101 rfl dL_law_1102 rfl hi hL (by decide) ?_
  refine j_callA (As := [.int (xs (i + 1)), .int (xs (i + 2)), .int (xs (i + 3))]) (st := []) (q := 1106) (c_X6_drawn h6 (rel_wfh h)) lk_R_law_124 rfl rfl rfl rfl rfl (Nat.le_of_ble_eq_true rfl) (Nat.le_of_ble_eq_true rfl) (Nat.le_of_ble_eq_true rfl) dL_law_1103 rfl (fun r a1 ta1 hp => ?_)
  obtain ⟨x, rfl, hx, hf⟩ := hp
  show J E X b0 L xs 1106 (lsL E b0 i) [.int x] (a1) _ b tb
  refine j_aload (x := E.2.1 40) (q := 1107) dL_law_1106 rfl rfl ?_
  refine j_arg (c := 1) (q := 1112) dL_law_1107 rfl dL_law_1108 rfl dL_law_1109 (by decide) rfl dL_law_1110 rfl dL_law_1111 rfl hi hL (by decide) ?_
  refine j_arg (c := 2) (q := 1117) dL_law_1112 rfl dL_law_1113 rfl dL_law_1114 (by decide) rfl dL_law_1115 rfl dL_law_1116 rfl hi hL (by decide) ?_
  refine j_arg (c := 3) (q := 1122) dL_law_1117 rfl dL_law_1118 rfl dL_law_1119 (by decide) rfl dL_law_1120 rfl dL_law_1121 rfl hi hL (by decide) ?_
  refine j_callB (As := [.int (xs (i + 1)), .int (xs (i + 2)), .int (xs (i + 3))]) (st := [.int x]) (q := 1125) (c_X7_drawn h7 (rel_wfm h)) lk_R_law_127 rfl rfl rfl rfl rfl (Nat.le_of_ble_eq_true rfl) (Nat.le_of_ble_eq_true rfl) (Nat.le_of_ble_eq_true rfl) dL_law_1122 rfl (fun r b1 tb1 hp => ?_)
  obtain ⟨rfl, e3, e4⟩ := hp
  rw [e3]
  show J E X b0 L xs 1125 (lsL E b0 i) [.int ((q_drawn b (xs (i + 1)) (xs (i + 2)) (xs (i + 3))).1), .int x] (a1) _ ((q_drawn b (xs (i + 1)) (xs (i + 2)) (xs (i + 3))).2) _
  refine j_icmp_eq (t := 1324) (q := 1128) dL_law_1125 (by decide) rfl (fun _ => next _ _ _ _ (REL_S h hf (rel_drawn h (xs (i + 1)) (xs (i + 2)) (xs (i + 3))).2)) (fun c => absurd (hx.trans (rel_drawn h (xs (i + 1)) (xs (i + 2)) (xs (i + 3))).1) c)
set_option maxRecDepth 100000 in
set_option maxHeartbeats 1000000 in
theorem law_27 {E : EE} {X : XX} {b0 L i : Nat} {xs : Nat → Int32} {a b : Sto} {ta tb : Stl} (h6 : inj E 0 40) (h7 : inj E 40 13) (hi : i + 6 ≤ L) (hL : L ≤ 3072) (h : REL a b) (next : ∀ a' ta' b' tb', REL a' b' → J E X b0 L xs 1324 (lsL E b0 i) [] a' ta' b' tb') : J E X b0 L xs 1130 (lsL E b0 i) [] a ta b tb := by
  refine j_aload (x := E.2.1 0) (q := 1131) dL_law_1130 rfl rfl ?_
  refine j_arg (c := 1) (q := 1136) dL_law_1131 rfl dL_law_1132 rfl dL_law_1133 (by decide) rfl dL_law_1134 rfl dL_law_1135 rfl hi hL (by decide) ?_
  refine j_callA (As := [.int (xs (i + 1))]) (st := []) (q := 1139) (c_X6_image h6) lk_R_law_128 rfl rfl rfl rfl rfl (Nat.le_of_ble_eq_true rfl) (Nat.le_of_ble_eq_true rfl) (Nat.le_of_ble_eq_true rfl) dL_law_1136 rfl (fun r a1 ta1 hp => ?_)
  obtain ⟨rfl, e1, e2⟩ := hp
  rw [e1]
  show J E X b0 L xs 1139 (lsL E b0 i) [.int ((m_image a (xs (i + 1))).1)] ((m_image a (xs (i + 1))).2) _ b tb
  refine j_aload (x := E.2.1 40) (q := 1140) dL_law_1139 rfl rfl ?_
  refine j_arg (c := 1) (q := 1145) dL_law_1140 rfl dL_law_1141 rfl dL_law_1142 (by decide) rfl dL_law_1143 rfl dL_law_1144 rfl hi hL (by decide) ?_
  refine j_callB (As := [.int (xs (i + 1))]) (st := [.int ((m_image a (xs (i + 1))).1)]) (q := 1148) (c_X7_image h7) lk_R_law_131 rfl rfl rfl rfl rfl (Nat.le_of_ble_eq_true rfl) (Nat.le_of_ble_eq_true rfl) (Nat.le_of_ble_eq_true rfl) dL_law_1145 rfl (fun r b1 tb1 hp => ?_)
  obtain ⟨rfl, e3, e4⟩ := hp
  rw [e3]
  show J E X b0 L xs 1148 (lsL E b0 i) [.int ((q_image b (xs (i + 1))).1), .int ((m_image a (xs (i + 1))).1)] ((m_image a (xs (i + 1))).2) _ ((q_image b (xs (i + 1))).2) _
  refine j_icmp_eq (t := 1324) (q := 1151) dL_law_1148 (by decide) rfl (fun _ => next _ _ _ _ (rel_image h (xs (i + 1))).2) (fun c => absurd (rel_image h (xs (i + 1))).1 c)
set_option maxRecDepth 100000 in
set_option maxHeartbeats 1000000 in
theorem law_28 {E : EE} {X : XX} {b0 L i : Nat} {xs : Nat → Int32} {a b : Sto} {ta tb : Stl} (h6 : inj E 0 40) (h7 : inj E 40 13) (hi : i + 6 ≤ L) (hL : L ≤ 3072) (h : REL a b) (next : ∀ a' ta' b' tb', REL a' b' → J E X b0 L xs 1324 (lsL E b0 i) [] a' ta' b' tb') : J E X b0 L xs 1153 (lsL E b0 i) [] a ta b tb := by
  refine j_aload (x := E.2.1 0) (q := 1154) dL_law_1153 rfl rfl ?_
  refine j_arg (c := 1) (q := 1159) dL_law_1154 rfl dL_law_1155 rfl dL_law_1156 (by decide) rfl dL_law_1157 rfl dL_law_1158 rfl hi hL (by decide) ?_
  refine j_callA (As := [.int (xs (i + 1))]) (st := []) (q := 1162) (c_X6_restore h6) lk_R_law_132 rfl rfl rfl rfl rfl (Nat.le_of_ble_eq_true rfl) (Nat.le_of_ble_eq_true rfl) (Nat.le_of_ble_eq_true rfl) dL_law_1159 rfl (fun r a1 ta1 hp => ?_)
  obtain ⟨rfl, e1, e2⟩ := hp
  rw [e1]
  show J E X b0 L xs 1162 (lsL E b0 i) [.int ((m_restore a (xs (i + 1))).1)] ((m_restore a (xs (i + 1))).2) _ b tb
  refine j_aload (x := E.2.1 40) (q := 1163) dL_law_1162 rfl rfl ?_
  refine j_arg (c := 1) (q := 1168) dL_law_1163 rfl dL_law_1164 rfl dL_law_1165 (by decide) rfl dL_law_1166 rfl dL_law_1167 rfl hi hL (by decide) ?_
  refine j_callB (As := [.int (xs (i + 1))]) (st := [.int ((m_restore a (xs (i + 1))).1)]) (q := 1171) (c_X7_restore h7) lk_R_law_135 rfl rfl rfl rfl rfl (Nat.le_of_ble_eq_true rfl) (Nat.le_of_ble_eq_true rfl) (Nat.le_of_ble_eq_true rfl) dL_law_1168 rfl (fun r b1 tb1 hp => ?_)
  obtain ⟨rfl, e3, e4⟩ := hp
  rw [e3]
  show J E X b0 L xs 1171 (lsL E b0 i) [.int ((q_restore b (xs (i + 1))).1), .int ((m_restore a (xs (i + 1))).1)] ((m_restore a (xs (i + 1))).2) _ ((q_restore b (xs (i + 1))).2) _
  refine j_icmp_eq (t := 1324) (q := 1174) dL_law_1171 (by decide) rfl (fun _ => next _ _ _ _ (rel_restore h (xs (i + 1))).2) (fun c => absurd (rel_restore h (xs (i + 1))).1 c)
set_option maxRecDepth 100000 in
set_option maxHeartbeats 1000000 in
theorem law_29 {E : EE} {X : XX} {b0 L i : Nat} {xs : Nat → Int32} {a b : Sto} {ta tb : Stl} (h6 : inj E 0 40) (h7 : inj E 40 13) (hi : i + 6 ≤ L) (hL : L ≤ 3072) (h : REL a b) (next : ∀ a' ta' b' tb', REL a' b' → J E X b0 L xs 1324 (lsL E b0 i) [] a' ta' b' tb') : J E X b0 L xs 1176 (lsL E b0 i) [] a ta b tb := by
  refine j_aload (x := E.2.1 0) (q := 1177) dL_law_1176 rfl rfl ?_
  refine j_arg (c := 1) (q := 1182) dL_law_1177 rfl dL_law_1178 rfl dL_law_1179 (by decide) rfl dL_law_1180 rfl dL_law_1181 rfl hi hL (by decide) ?_
  refine j_callA (As := [.int (xs (i + 1))]) (st := []) (q := 1185) (c_X6_kind h6 (rel_wfh h)) lk_R_law_136 rfl rfl rfl rfl rfl (Nat.le_of_ble_eq_true rfl) (Nat.le_of_ble_eq_true rfl) (Nat.le_of_ble_eq_true rfl) dL_law_1182 rfl (fun r a1 ta1 hp => ?_)
  obtain ⟨rfl, e1, e2⟩ := hp
  rw [e1]
  show J E X b0 L xs 1185 (lsL E b0 i) [.int ((m_kind a (xs (i + 1))).1)] ((m_kind a (xs (i + 1))).2) _ b tb
  refine j_aload (x := E.2.1 40) (q := 1186) dL_law_1185 rfl rfl ?_
  refine j_arg (c := 1) (q := 1191) dL_law_1186 rfl dL_law_1187 rfl dL_law_1188 (by decide) rfl dL_law_1189 rfl dL_law_1190 rfl hi hL (by decide) ?_
  refine j_callB (As := [.int (xs (i + 1))]) (st := [.int ((m_kind a (xs (i + 1))).1)]) (q := 1194) (c_X7_kind h7 (rel_wfm h)) lk_R_law_139 rfl rfl rfl rfl rfl (Nat.le_of_ble_eq_true rfl) (Nat.le_of_ble_eq_true rfl) (Nat.le_of_ble_eq_true rfl) dL_law_1191 rfl (fun r b1 tb1 hp => ?_)
  obtain ⟨rfl, e3, e4⟩ := hp
  rw [e3]
  show J E X b0 L xs 1194 (lsL E b0 i) [.int ((q_kind b (xs (i + 1))).1), .int ((m_kind a (xs (i + 1))).1)] ((m_kind a (xs (i + 1))).2) _ ((q_kind b (xs (i + 1))).2) _
  refine j_icmp_eq (t := 1324) (q := 1197) dL_law_1194 (by decide) rfl (fun _ => next _ _ _ _ (rel_kind h (xs (i + 1))).2) (fun c => absurd (rel_kind h (xs (i + 1))).1 c)
set_option maxRecDepth 100000 in
set_option maxHeartbeats 1000000 in
theorem law_30 {E : EE} {X : XX} {b0 L i : Nat} {xs : Nat → Int32} {a b : Sto} {ta tb : Stl} (h6 : inj E 0 40) (h7 : inj E 40 13) (hi : i + 6 ≤ L) (hL : L ≤ 3072) (h : REL a b) (next : ∀ a' ta' b' tb', REL a' b' → J E X b0 L xs 1324 (lsL E b0 i) [] a' ta' b' tb') : J E X b0 L xs 1199 (lsL E b0 i) [] a ta b tb := by
  refine j_aload (x := E.2.1 0) (q := 1200) dL_law_1199 rfl rfl ?_
  refine j_arg (c := 1) (q := 1205) dL_law_1200 rfl dL_law_1201 rfl dL_law_1202 (by decide) rfl dL_law_1203 rfl dL_law_1204 rfl hi hL (by decide) ?_
  refine j_arg (c := 2) (q := 1210) dL_law_1205 rfl dL_law_1206 rfl dL_law_1207 (by decide) rfl dL_law_1208 rfl dL_law_1209 rfl hi hL (by decide) ?_
  refine j_callA (As := [.int (xs (i + 1)), .int (xs (i + 2))]) (st := []) (q := 1213) (c_X6_as h6 (rel_wfh h)) lk_R_law_140 rfl rfl rfl rfl rfl (Nat.le_of_ble_eq_true rfl) (Nat.le_of_ble_eq_true rfl) (Nat.le_of_ble_eq_true rfl) dL_law_1210 rfl (fun r a1 ta1 hp => ?_)
  obtain ⟨rfl, e1, e2⟩ := hp
  rw [e1]
  show J E X b0 L xs 1213 (lsL E b0 i) [.int ((m_as a (xs (i + 1)) (xs (i + 2))).1)] ((m_as a (xs (i + 1)) (xs (i + 2))).2) _ b tb
  refine j_aload (x := E.2.1 40) (q := 1214) dL_law_1213 rfl rfl ?_
  refine j_arg (c := 1) (q := 1219) dL_law_1214 rfl dL_law_1215 rfl dL_law_1216 (by decide) rfl dL_law_1217 rfl dL_law_1218 rfl hi hL (by decide) ?_
  refine j_arg (c := 2) (q := 1224) dL_law_1219 rfl dL_law_1220 rfl dL_law_1221 (by decide) rfl dL_law_1222 rfl dL_law_1223 rfl hi hL (by decide) ?_
  refine j_callB (As := [.int (xs (i + 1)), .int (xs (i + 2))]) (st := [.int ((m_as a (xs (i + 1)) (xs (i + 2))).1)]) (q := 1227) (c_X7_as h7 (rel_wfm h)) lk_R_law_143 rfl rfl rfl rfl rfl (Nat.le_of_ble_eq_true rfl) (Nat.le_of_ble_eq_true rfl) (Nat.le_of_ble_eq_true rfl) dL_law_1224 rfl (fun r b1 tb1 hp => ?_)
  obtain ⟨rfl, e3, e4⟩ := hp
  rw [e3]
  show J E X b0 L xs 1227 (lsL E b0 i) [.int ((q_as b (xs (i + 1)) (xs (i + 2))).1), .int ((m_as a (xs (i + 1)) (xs (i + 2))).1)] ((m_as a (xs (i + 1)) (xs (i + 2))).2) _ ((q_as b (xs (i + 1)) (xs (i + 2))).2) _
  refine j_icmp_eq (t := 1324) (q := 1230) dL_law_1227 (by decide) rfl (fun _ => next _ _ _ _ (rel_as h (xs (i + 1)) (xs (i + 2))).2) (fun c => absurd (rel_as h (xs (i + 1)) (xs (i + 2))).1 c)
set_option maxRecDepth 100000 in
set_option maxHeartbeats 1000000 in
theorem law_31 {E : EE} {X : XX} {b0 L i : Nat} {xs : Nat → Int32} {a b : Sto} {ta tb : Stl} (h6 : inj E 0 40) (h7 : inj E 40 13) (hi : i + 6 ≤ L) (hL : L ≤ 3072) (h : REL a b) (next : ∀ a' ta' b' tb', REL a' b' → J E X b0 L xs 1324 (lsL E b0 i) [] a' ta' b' tb') : J E X b0 L xs 1232 (lsL E b0 i) [] a ta b tb := by
  refine j_aload (x := E.2.1 0) (q := 1233) dL_law_1232 rfl rfl ?_
  refine j_arg (c := 1) (q := 1238) dL_law_1233 rfl dL_law_1234 rfl dL_law_1235 (by decide) rfl dL_law_1236 rfl dL_law_1237 rfl hi hL (by decide) ?_
  refine j_arg (c := 2) (q := 1243) dL_law_1238 rfl dL_law_1239 rfl dL_law_1240 (by decide) rfl dL_law_1241 rfl dL_law_1242 rfl hi hL (by decide) ?_
  refine j_callA (As := [.int (xs (i + 1)), .int (xs (i + 2))]) (st := []) (q := 1246) (c_X6_ask h6 (rel_wfh h)) lk_R_law_144 rfl rfl rfl rfl rfl (Nat.le_of_ble_eq_true rfl) (Nat.le_of_ble_eq_true rfl) (Nat.le_of_ble_eq_true rfl) dL_law_1243 rfl (fun r a1 ta1 hp => ?_)
  obtain ⟨rfl, e1, e2⟩ := hp
  rw [e1]
  show J E X b0 L xs 1246 (lsL E b0 i) [.int ((m_ask a (xs (i + 1)) (xs (i + 2))).1)] ((m_ask a (xs (i + 1)) (xs (i + 2))).2) _ b tb
  refine j_aload (x := E.2.1 40) (q := 1247) dL_law_1246 rfl rfl ?_
  refine j_arg (c := 1) (q := 1252) dL_law_1247 rfl dL_law_1248 rfl dL_law_1249 (by decide) rfl dL_law_1250 rfl dL_law_1251 rfl hi hL (by decide) ?_
  refine j_arg (c := 2) (q := 1257) dL_law_1252 rfl dL_law_1253 rfl dL_law_1254 (by decide) rfl dL_law_1255 rfl dL_law_1256 rfl hi hL (by decide) ?_
  refine j_callB (As := [.int (xs (i + 1)), .int (xs (i + 2))]) (st := [.int ((m_ask a (xs (i + 1)) (xs (i + 2))).1)]) (q := 1260) (c_X7_ask h7 (rel_wfm h)) lk_R_law_147 rfl rfl rfl rfl rfl (Nat.le_of_ble_eq_true rfl) (Nat.le_of_ble_eq_true rfl) (Nat.le_of_ble_eq_true rfl) dL_law_1257 rfl (fun r b1 tb1 hp => ?_)
  obtain ⟨rfl, e3, e4⟩ := hp
  rw [e3]
  show J E X b0 L xs 1260 (lsL E b0 i) [.int ((q_ask b (xs (i + 1)) (xs (i + 2))).1), .int ((m_ask a (xs (i + 1)) (xs (i + 2))).1)] ((m_ask a (xs (i + 1)) (xs (i + 2))).2) _ ((q_ask b (xs (i + 1)) (xs (i + 2))).2) _
  refine j_icmp_eq (t := 1324) (q := 1263) dL_law_1260 (by decide) rfl (fun _ => next _ _ _ _ (rel_ask h (xs (i + 1)) (xs (i + 2))).2) (fun c => absurd (rel_ask h (xs (i + 1)) (xs (i + 2))).1 c)
set_option maxRecDepth 100000 in
set_option maxHeartbeats 1000000 in
theorem law_32 {E : EE} {X : XX} {b0 L i : Nat} {xs : Nat → Int32} {a b : Sto} {ta tb : Stl} (h6 : inj E 0 40) (h7 : inj E 40 13) (hi : i + 6 ≤ L) (hL : L ≤ 3072) (h : REL a b) (next : ∀ a' ta' b' tb', REL a' b' → J E X b0 L xs 1324 (lsL E b0 i) [] a' ta' b' tb') : J E X b0 L xs 1265 (lsL E b0 i) [] a ta b tb := by
  refine j_aload (x := E.2.1 0) (q := 1266) dL_law_1265 rfl rfl ?_
  refine j_arg (c := 1) (q := 1271) dL_law_1266 rfl dL_law_1267 rfl dL_law_1268 (by decide) rfl dL_law_1269 rfl dL_law_1270 rfl hi hL (by decide) ?_
  refine j_callA (As := [.int (xs (i + 1))]) (st := []) (q := 1274) (c_X6_trace h6 h.2.2.2.2.2.2.1) lk_R_law_148 rfl rfl rfl rfl rfl (Nat.le_of_ble_eq_true rfl) (Nat.le_of_ble_eq_true rfl) (Nat.le_of_ble_eq_true rfl) dL_law_1271 rfl (fun r a1 ta1 hp => ?_)
  obtain ⟨rfl, e1, e2⟩ := hp
  rw [e1]
  show J E X b0 L xs 1274 (lsL E b0 i) [.int ((m_trace a (xs (i + 1))).1)] ((m_trace a (xs (i + 1))).2) _ b tb
  refine j_aload (x := E.2.1 40) (q := 1275) dL_law_1274 rfl rfl ?_
  refine j_arg (c := 1) (q := 1280) dL_law_1275 rfl dL_law_1276 rfl dL_law_1277 (by decide) rfl dL_law_1278 rfl dL_law_1279 rfl hi hL (by decide) ?_
  refine j_callB (As := [.int (xs (i + 1))]) (st := [.int ((m_trace a (xs (i + 1))).1)]) (q := 1283) (c_X7_trace h7 (rel_trM h)) lk_R_law_151 rfl rfl rfl rfl rfl (Nat.le_of_ble_eq_true rfl) (Nat.le_of_ble_eq_true rfl) (Nat.le_of_ble_eq_true rfl) dL_law_1280 rfl (fun r b1 tb1 hp => ?_)
  obtain ⟨rfl, e3, e4⟩ := hp
  rw [e3]
  show J E X b0 L xs 1283 (lsL E b0 i) [.int ((q_trace b (xs (i + 1))).1), .int ((m_trace a (xs (i + 1))).1)] ((m_trace a (xs (i + 1))).2) _ ((q_trace b (xs (i + 1))).2) _
  refine j_icmp_eq (t := 1324) (q := 1286) dL_law_1283 (by decide) rfl (fun _ => next _ _ _ _ (rel_trace h (xs (i + 1))).2) (fun c => absurd (rel_trace h (xs (i + 1))).1 c)
set_option maxRecDepth 100000 in
set_option maxHeartbeats 1000000 in
theorem law_33 {E : EE} {X : XX} {b0 L i : Nat} {xs : Nat → Int32} {a b : Sto} {ta tb : Stl} (h6 : inj E 0 40) (h7 : inj E 40 13) (hi : i + 6 ≤ L) (hL : L ≤ 3072) (h : REL a b) (next : ∀ a' ta' b' tb', REL a' b' → J E X b0 L xs 1324 (lsL E b0 i) [] a' ta' b' tb') : J E X b0 L xs 1288 (lsL E b0 i) [] a ta b tb := by
  refine j_aload (x := E.2.1 0) (q := 1289) dL_law_1288 rfl rfl ?_
  refine j_arg (c := 1) (q := 1294) dL_law_1289 rfl dL_law_1290 rfl dL_law_1291 (by decide) rfl dL_law_1292 rfl dL_law_1293 rfl hi hL (by decide) ?_
  refine j_callA (As := [.int (xs (i + 1))]) (st := []) (q := 1297) (c_X6_count h6 (rel_wfh h)) lk_R_law_152 rfl rfl rfl rfl rfl (Nat.le_of_ble_eq_true rfl) (Nat.le_of_ble_eq_true rfl) (Nat.le_of_ble_eq_true rfl) dL_law_1294 rfl (fun r a1 ta1 hp => ?_)
  obtain ⟨rfl, e1, e2⟩ := hp
  rw [e1]
  show J E X b0 L xs 1297 (lsL E b0 i) [.int ((m_count a (xs (i + 1))).1)] ((m_count a (xs (i + 1))).2) _ b tb
  refine j_aload (x := E.2.1 40) (q := 1298) dL_law_1297 rfl rfl ?_
  refine j_arg (c := 1) (q := 1303) dL_law_1298 rfl dL_law_1299 rfl dL_law_1300 (by decide) rfl dL_law_1301 rfl dL_law_1302 rfl hi hL (by decide) ?_
  refine j_callB (As := [.int (xs (i + 1))]) (st := [.int ((m_count a (xs (i + 1))).1)]) (q := 1306) (c_X7_count h7 (rel_wfm h)) lk_R_law_155 rfl rfl rfl rfl rfl (Nat.le_of_ble_eq_true rfl) (Nat.le_of_ble_eq_true rfl) (Nat.le_of_ble_eq_true rfl) dL_law_1303 rfl (fun r b1 tb1 hp => ?_)
  obtain ⟨rfl, e3, e4⟩ := hp
  rw [e3]
  show J E X b0 L xs 1306 (lsL E b0 i) [.int ((q_count b (xs (i + 1))).1), .int ((m_count a (xs (i + 1))).1)] ((m_count a (xs (i + 1))).2) _ ((q_count b (xs (i + 1))).2) _
  refine j_icmp_eq (t := 1324) (q := 1309) dL_law_1306 (by decide) rfl (fun _ => next _ _ _ _ (rel_count h (xs (i + 1))).2) (fun c => absurd (rel_count h (xs (i + 1))).1 c)
set_option maxRecDepth 100000 in
set_option maxHeartbeats 1000000 in
theorem law_34 {E : EE} {X : XX} {b0 L i : Nat} {xs : Nat → Int32} {a b : Sto} {ta tb : Stl} (h6 : inj E 0 40) (h7 : inj E 40 13) (hi : i + 6 ≤ L) (hL : L ≤ 3072) (h : REL a b) (next : ∀ a' ta' b' tb', REL a' b' → J E X b0 L xs 1324 (lsL E b0 i) [] a' ta' b' tb') : J E X b0 L xs 1311 (lsL E b0 i) [] a ta b tb := by
  refine j_aload (x := E.2.1 0) (q := 1312) dL_law_1311 rfl rfl ?_
  refine j_callA (As := []) (st := []) (q := 1315) (c_X6_status h6) lk_R_law_156 rfl rfl rfl rfl rfl (Nat.le_of_ble_eq_true rfl) (Nat.le_of_ble_eq_true rfl) (Nat.le_of_ble_eq_true rfl) dL_law_1312 rfl (fun r a1 ta1 hp => ?_)
  obtain ⟨rfl, e1, e2⟩ := hp
  rw [e1]
  show J E X b0 L xs 1315 (lsL E b0 i) [.int (a 0 9)] (a) _ b tb
  refine j_aload (x := E.2.1 40) (q := 1316) dL_law_1315 rfl rfl ?_
  refine j_callB (As := []) (st := [.int (a 0 9)]) (q := 1319) (c_X7_status h7) lk_R_law_159 rfl rfl rfl rfl rfl (Nat.le_of_ble_eq_true rfl) (Nat.le_of_ble_eq_true rfl) (Nat.le_of_ble_eq_true rfl) dL_law_1316 rfl (fun r b1 tb1 hp => ?_)
  obtain ⟨rfl, e3, e4⟩ := hp
  rw [e3]
  show J E X b0 L xs 1319 (lsL E b0 i) [.int (b 40 3), .int (a 0 9)] (a) _ (b) _
  refine j_icmp_eq (t := 1324) (q := 1322) dL_law_1319 (by decide) rfl (fun _ => next _ _ _ _ h) (fun c => absurd h.2.1.1 c)
set_option maxRecDepth 100000 in
theorem law_sw {E : EE} {X : XX} {b0 L i : Nat} {xs : Nat → Int32} {a b : Sto} {ta tb : Stl} {v : Int32} (h6 : inj E 0 40) (h7 : inj E 40 13) (hi : i + 6 ≤ L) (hL : L ≤ 3072) (h : REL a b) (next : ∀ a' ta' b' tb', REL a' b' → J E X b0 L xs 1324 (lsL E b0 i) [] a' ta' b' tb') : J E X b0 L xs 33 (lsL E b0 i) [.int v] a ta b tb := by
  by_cases hv : v.toInt < 0 ∨ 34 < v.toInt
  · exact j_tabOut (t := 1324) dL_law_33 hv (by decide) (next _ _ _ _ h)
  · obtain ⟨n, e, hn⟩ : ∃ n : Nat, v.toInt = (n : Int) ∧ n < 35 := ⟨v.toInt.toNat, by omega, by omega⟩
    match n, e, hn with
    | 0, e, _ => exact j_tabIn (off := 155) (t := 188) dL_law_33 (by rw [e]; decide) (by rw [e]; decide) (by rw [e]; rfl) (by decide) (law_0 h6 h7 hi hL h next)
    | 1, e, _ => exact j_tabIn (off := 198) (t := 231) dL_law_33 (by rw [e]; decide) (by rw [e]; decide) (by rw [e]; rfl) (by decide) (law_1 h6 h7 hi hL h next)
    | 2, e, _ => exact j_tabIn (off := 241) (t := 274) dL_law_33 (by rw [e]; decide) (by rw [e]; decide) (by rw [e]; rfl) (by decide) (law_2 h6 h7 hi hL h next)
    | 3, e, _ => exact j_tabIn (off := 304) (t := 337) dL_law_33 (by rw [e]; decide) (by rw [e]; decide) (by rw [e]; rfl) (by decide) (law_3 h6 h7 hi hL h next)
    | 4, e, _ => exact j_tabIn (off := 327) (t := 360) dL_law_33 (by rw [e]; decide) (by rw [e]; decide) (by rw [e]; rfl) (by decide) (law_4 h6 h7 hi hL h next)
    | 5, e, _ => exact j_tabIn (off := 350) (t := 383) dL_law_33 (by rw [e]; decide) (by rw [e]; decide) (by rw [e]; rfl) (by decide) (law_5 h6 h7 hi hL h next)
    | 6, e, _ => exact j_tabIn (off := 363) (t := 396) dL_law_33 (by rw [e]; decide) (by rw [e]; decide) (by rw [e]; rfl) (by decide) (law_6 h6 h7 hi hL h next)
    | 7, e, _ => exact j_tabIn (off := 376) (t := 409) dL_law_33 (by rw [e]; decide) (by rw [e]; decide) (by rw [e]; rfl) (by decide) (law_7 h6 h7 hi hL h next)
    | 8, e, _ => exact j_tabIn (off := 389) (t := 422) dL_law_33 (by rw [e]; decide) (by rw [e]; decide) (by rw [e]; rfl) (by decide) (law_8 h6 h7 hi hL h next)
    | 9, e, _ => exact j_tabIn (off := 412) (t := 445) dL_law_33 (by rw [e]; decide) (by rw [e]; decide) (by rw [e]; rfl) (by decide) (law_9 h6 h7 hi hL h next)
    | 10, e, _ => exact j_tabIn (off := 445) (t := 478) dL_law_33 (by rw [e]; decide) (by rw [e]; decide) (by rw [e]; rfl) (by decide) (law_10 h6 h7 hi hL h next)
    | 11, e, _ => exact j_tabIn (off := 478) (t := 511) dL_law_33 (by rw [e]; decide) (by rw [e]; decide) (by rw [e]; rfl) (by decide) (law_11 h6 h7 hi hL h next)
    | 12, e, _ => exact j_tabIn (off := 511) (t := 544) dL_law_33 (by rw [e]; decide) (by rw [e]; decide) (by rw [e]; rfl) (by decide) (law_12 h6 h7 hi hL h next)
    | 13, e, _ => exact j_tabIn (off := 544) (t := 577) dL_law_33 (by rw [e]; decide) (by rw [e]; decide) (by rw [e]; rfl) (by decide) (law_13 h6 h7 hi hL h next)
    | 14, e, _ => exact j_tabIn (off := 577) (t := 610) dL_law_33 (by rw [e]; decide) (by rw [e]; decide) (by rw [e]; rfl) (by decide) (law_14 h6 h7 hi hL h next)
    | 15, e, _ => exact j_tabIn (off := 610) (t := 643) dL_law_33 (by rw [e]; decide) (by rw [e]; decide) (by rw [e]; rfl) (by decide) (law_15 h6 h7 hi hL h next)
    | 16, e, _ => exact j_tabIn (off := 633) (t := 666) dL_law_33 (by rw [e]; decide) (by rw [e]; decide) (by rw [e]; rfl) (by decide) (law_16 h6 h7 hi hL h next)
    | 17, e, _ => exact j_tabIn (off := 656) (t := 689) dL_law_33 (by rw [e]; decide) (by rw [e]; decide) (by rw [e]; rfl) (by decide) (law_17 h6 h7 hi hL h next)
    | 18, e, _ => exact j_tabIn (off := 719) (t := 752) dL_law_33 (by rw [e]; decide) (by rw [e]; decide) (by rw [e]; rfl) (by decide) (law_18 h6 h7 hi hL h next)
    | 19, e, _ => exact j_tabIn (off := 772) (t := 805) dL_law_33 (by rw [e]; decide) (by rw [e]; decide) (by rw [e]; rfl) (by decide) (law_19 h6 h7 hi hL h next)
    | 20, e, _ => exact j_tabIn (off := 815) (t := 848) dL_law_33 (by rw [e]; decide) (by rw [e]; decide) (by rw [e]; rfl) (by decide) (law_20 h6 h7 hi hL h next)
    | 21, e, _ => exact j_tabIn (off := 858) (t := 891) dL_law_33 (by rw [e]; decide) (by rw [e]; decide) (by rw [e]; rfl) (by decide) (law_21 h6 h7 hi hL h next)
    | 22, e, _ => exact j_tabIn (off := 911) (t := 944) dL_law_33 (by rw [e]; decide) (by rw [e]; decide) (by rw [e]; rfl) (by decide) (law_22 h6 h7 hi hL h next)
    | 23, e, _ => exact j_tabIn (off := 954) (t := 987) dL_law_33 (by rw [e]; decide) (by rw [e]; decide) (by rw [e]; rfl) (by decide) (law_23 h6 h7 hi hL h next)
    | 24, e, _ => exact j_tabIn (off := 987) (t := 1020) dL_law_33 (by rw [e]; decide) (by rw [e]; decide) (by rw [e]; rfl) (by decide) (law_24 h6 h7 hi hL h next)
    | 25, e, _ => exact j_tabIn (off := 1010) (t := 1043) dL_law_33 (by rw [e]; decide) (by rw [e]; decide) (by rw [e]; rfl) (by decide) (law_25 h6 h7 hi hL h next)
    | 26, e, _ => exact j_tabIn (off := 1054) (t := 1087) dL_law_33 (by rw [e]; decide) (by rw [e]; decide) (by rw [e]; rfl) (by decide) (law_26 h6 h7 hi hL h next)
    | 27, e, _ => exact j_tabIn (off := 1097) (t := 1130) dL_law_33 (by rw [e]; decide) (by rw [e]; decide) (by rw [e]; rfl) (by decide) (law_27 h6 h7 hi hL h next)
    | 28, e, _ => exact j_tabIn (off := 1120) (t := 1153) dL_law_33 (by rw [e]; decide) (by rw [e]; decide) (by rw [e]; rfl) (by decide) (law_28 h6 h7 hi hL h next)
    | 29, e, _ => exact j_tabIn (off := 1143) (t := 1176) dL_law_33 (by rw [e]; decide) (by rw [e]; decide) (by rw [e]; rfl) (by decide) (law_29 h6 h7 hi hL h next)
    | 30, e, _ => exact j_tabIn (off := 1166) (t := 1199) dL_law_33 (by rw [e]; decide) (by rw [e]; decide) (by rw [e]; rfl) (by decide) (law_30 h6 h7 hi hL h next)
    | 31, e, _ => exact j_tabIn (off := 1199) (t := 1232) dL_law_33 (by rw [e]; decide) (by rw [e]; decide) (by rw [e]; rfl) (by decide) (law_31 h6 h7 hi hL h next)
    | 32, e, _ => exact j_tabIn (off := 1232) (t := 1265) dL_law_33 (by rw [e]; decide) (by rw [e]; decide) (by rw [e]; rfl) (by decide) (law_32 h6 h7 hi hL h next)
    | 33, e, _ => exact j_tabIn (off := 1255) (t := 1288) dL_law_33 (by rw [e]; decide) (by rw [e]; decide) (by rw [e]; rfl) (by decide) (law_33 h6 h7 hi hL h next)
    | 34, e, _ => exact j_tabIn (off := 1278) (t := 1311) dL_law_33 (by rw [e]; decide) (by rw [e]; decide) (by rw [e]; rfl) (by decide) (law_34 h6 h7 hi hL h next)
    | n + 35, _, hn => exact absurd hn (by omega)
theorem law_step {E : EE} {X : XX} {b0 L i : Nat} {xs : Nat → Int32} {a b : Sto} {ta tb : Stl} (h6 : inj E 0 40) (h7 : inj E 40 13) (hL : L ≤ 3072) (hi : i ≤ L) (h : REL a b) (fin : ∀ a' ta' b' tb', J E X b0 L xs 1330 (lsL E b0 i) [] a' ta' b' tb') (next : i + 6 ≤ L → ∀ a' ta' b' tb', REL a' b' → J E X b0 L xs 18 (lsL E b0 (i + 6)) [] a' ta' b' tb') : J E X b0 L xs 18 (lsL E b0 i) [] a ta b tb := by
  refine j_iload (q := 19) dL_law_18 rfl rfl ?_
  refine j_aload (x := b0) (q := 20) dL_law_19 rfl rfl ?_
  refine j_len (q := 21) dL_law_20 rfl ?_
  refine j_bipush (v := 6) (q := 23) dL_law_21 (by decide) rfl ?_
  refine j_isub (q := 24) dL_law_23 rfl ?_
  refine j_icmp_gt (t := 1330) (q := 27) dL_law_24 (by decide) rfl (fun _ => fin _ _ _ _) (fun c => ?_)
  have hi6 : i + 6 ≤ L := by
    rcases Nat.lt_or_ge L 6 with q | q
    · refine absurd ?_ c
      have e0 : nI L - 6 < 0 := by
        match L, q with
        | 0, _ => decide
        | 1, _ => decide
        | 2, _ => decide
        | 3, _ => decide
        | 4, _ => decide
        | 5, _ => decide
        | n + 6, q => exact absurd q (by omega)
      have e1 : (0 : Int32) ≤ nI i := nI_le (a := 0) (Nat.zero_le i) (by omega)
      exact Int32.lt_of_lt_of_le e0 e1
    · obtain ⟨M, rfl⟩ : ∃ M, L = M + 6 := ⟨L - 6, by omega⟩
      have e : nI (M + 6) - 6 = nI M := by
        rw [← nI_add]
        show nI M + 6 - 6 = nI M
        rw [Int32.add_sub_cancel]
      rw [e, nI_ltI (by omega) (by omega)] at c
      omega
  refine j_aload (x := b0) (q := 28) dL_law_27 rfl rfl ?_
  refine j_iload (q := 29) dL_law_28 rfl rfl ?_
  refine j_sld (q := 30) dL_law_29 (vp_in_nI (by omega) (by omega)) rfl ?_
  refine j_bipush (v := 63) (q := 32) dL_law_30 (by decide) rfl ?_
  refine j_iand (q := 33) dL_law_32 rfl ?_
  refine law_sw h6 h7 hi6 hL h (fun a' ta' b' tb' h' => ?_)
  refine j_iinc (w := 6) (q := 1327) dL_law_1324 rfl (by decide) (by decide) rfl rfl ?_
  refine j_goto (t := 18) dL_law_1327 (by decide) ?_
  have := next hi6 a' ta' b' tb' h'
  unfold lsL at this
  rw [← nI_add] at this
  exact this
theorem law_loop {E : EE} {X : XX} {b0 L : Nat} {xs : Nat → Int32} (h6 : inj E 0 40) (h7 : inj E 40 13) (hL : L ≤ 3072) (fin : ∀ i a' ta' b' tb', J E X b0 L xs 1330 (lsL E b0 i) [] a' ta' b' tb') : ∀ (f i : Nat), L < i + f → i ≤ L → ∀ a ta b tb, REL a b → J E X b0 L xs 18 (lsL E b0 i) [] a ta b tb := by
  intro f
  induction f with
  | zero => intro i h1 h2; omega
  | succ f ih =>
    intro i h1 h2 a ta b tb h
    exact law_step h6 h7 hL h2 h (fin i) (fun h3 => ih (i + 6) (by omega) h3)
