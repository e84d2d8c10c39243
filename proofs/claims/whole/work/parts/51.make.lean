/-- the links to constructors of nest mates -/
def NW (U : State) : Prop := va_Nw (.methodLinkNest RX6 18 yX5_init RX6) U ∧ va_Nw (.methodLinkNest RX6 25 yX1_init RX6) U ∧ va_Nw (.methodLinkNest RX6 32 yX2_init RX6) U ∧ va_Nw (.methodLinkNest RX6 39 yX4_init RX6) U ∧ va_Nw (.methodLinkNest RX4 11 yX1_init RX6) U ∧ va_Nw (.methodLinkNest RX6 46 yX0_init RX6) U
theorem NW.warm {s U : State} (hW : s.WarmedH U.vm) (h : NW s) : NW U := ⟨h.1.warmM hW, h.2.1.warmM hW, h.2.2.1.warmM hW, h.2.2.2.1.warmM hW, h.2.2.2.2.1.warmM hW, h.2.2.2.2.2.warmM hW⟩
theorem NW.same {s U : State} (e : s.vm = U.vm) (h : NW s) : NW U := ⟨h.1.same rfl e, h.2.1.same rfl e, h.2.2.1.same rfl e, h.2.2.2.1.same rfl e, h.2.2.2.2.1.same rfl e, h.2.2.2.2.2.same rfl e⟩
def m1 (i : Nat) : Nat → Int32 := fun j => if j < i then -1 else 0
def s00 : Sto := fun k => if k = 4 then m1 8 else if k = 42 then m1 8 else fun _ => 0
def t00 : Stl := fun _ => 0
def Az (h0 sz : Nat) : Nat → Prop := fun q => q = h0 ∨ sz ≤ q
def Qn (E : EE) (wf : (Nat → Nat) → va_W) (h0 sz : Nat) : Array Value → State → Outcome → State → Prop := fun _ st oc t => (oc = .returned none ∧ ∃ u : Nat → Nat, u 0 = h0 ∧ va_P E.2.2.1 cls (wf u) t.heap ∧ va_D (Az h0 sz) (wf u)) ∧ va_F (Az h0 sz) st t
def Cn (E : EE) (y : MethodName) (cb : ByteArray) (nL : Nat) (rm : Room) (ci : Nat) (fs : List Value) (wf : (Nat → Nat) → va_W) (mc ms : Nat) : Prop :=
  ∀ h0 sz : Nat, Met E.1 y (Cond.code y cb nL none :: gt) rm (va_Pc [.ref h0] (fun U => U.heap.size = sz ∧ va_P E.2.2.1 cls [(h0, .inr (ci, fs))] U.heap ∧ va_K E.2.2.1 cls (tyl E) U ∧ NW U)) (Qn E wf h0 sz) mc ms (Az h0 sz)
abbrev WN (E : EE) (R : Room) (X : XX) (H : Heap) (locs : List Loc) (cells slots : Nat) (g : JFrame) : Prop := W X.1 E.1 X.2.1 R X.2.2.1 X.2.2.2.1 X.2.2.2.2.1 X.2.2.2.2.2.1 X.2.2.2.2.2.2.1 X.2.2.2.2.2.2.2.1 H locs cells slots X.2.2.2.2.2.2.2.2.2.2 g
def NC (E : EE) (A : Nat → Prop) (X : XX) (cc : ByteArray) (own : String) (nL : Nat) : Prop :=
  X.1.tables.exec = Jvm.exec ∧ X.2.2.2.2.2.2.2.1.code = cc ∧ X.2.2.2.2.2.2.2.1.maxLocals = nL ∧ X.2.2.1.vm.findClass own = some X.2.2.2.1.cls ∧ (∀ w ∈ gt, w.before X.2.2.2.2.1 X.2.2.1 = true) ∧ va_K E.2.2.1 cls (tyl E) X.2.2.1 ∧ (∀ q, X.2.2.1.heap.size ≤ q → A q) ∧ NW X.2.2.1
/-- the making: so many cells are made, and these are they -/
def N (E : EE) (A : Nat → Prop) (R : Room) (X : XX) (cc : ByteArray) (own : String) (nL pc : Nat) (ls : List (Option Value)) (st : List Value) (ws : va_W) (cells slots : Nat) : Prop :=
  NC E A X cc own nL → ∀ (H : Heap) (locs : List Loc) (la : Array Slot), va_P E.2.2.1 cls ws H → va_D A ws → va_S A X.2.2.1.heap H locs → lh la nL ls → WN E R X H locs cells slots (F0 X.2.2.2.1 pc la st)
section MAKE
variable {E : EE} {A : Nat → Prop} {R : Room} {X : XX} {cc : ByteArray} {own : String} {nL pc q : Nat} {ls : List (Option Value)} {st : List Value} {ws : va_W} {cells slots : Nat}

theorem n_aload {i : Fin 4} {x : Nat} (hd : decode cc pc = .ok (.aload_n i, 1)) (hv : ls[(i : Nat)]? = some (some (.ref x))) (hq : pc + 1 = q) (k : N E A R X cc own nL q ls (.ref x :: st) ws cells slots) : N E A R X cc own nL pc ls (st) ws cells slots := by
  subst hq
  exact fun hX H locs la hP hD hS hl => lv_aload_n hX.1 hX.2.1 hd rfl (hl.2.2 _ _ hv) (k hX H locs la hP hD hS hl)
theorem n_iload {i : Fin 4} {x : Int32} (hd : decode cc pc = .ok (.iload_n i, 1)) (hv : ls[(i : Nat)]? = some (some (.int x))) (hq : pc + 1 = q) (k : N E A R X cc own nL q ls (.int x :: st) ws cells slots) : N E A R X cc own nL pc ls (st) ws cells slots := by
  subst hq
  exact fun hX H locs la hP hD hS hl => lv_iload_n hX.1 hX.2.1 hd rfl (hl.2.2 _ _ hv) (k hX H locs la hP hD hS hl)
theorem n_iconst {i : Int} {v : Int32} (hd : decode cc pc = .ok (.iconst i, 1)) (hv : Int32.ofInt i = v) (hq : pc + 1 = q) (k : N E A R X cc own nL q ls (.int v :: st) ws cells slots) : N E A R X cc own nL pc ls (st) ws cells slots := by
  subst hq
  exact fun hX H locs la hP hD hS hl => lv_iconst hX.1 hX.2.1 hd hv (k hX H locs la hP hD hS hl)
theorem n_bipush {i : Int} {v : Int32} (hd : decode cc pc = .ok (.bipush i, 2)) (hv : (Int8.ofInt i).toInt32 = v) (hq : pc + 2 = q) (k : N E A R X cc own nL q ls (.int v :: st) ws cells slots) : N E A R X cc own nL pc ls (st) ws cells slots := by
  subst hq
  exact fun hX H locs la hP hD hS hl => lv_bipush hX.1 hX.2.1 hd hv (k hX H locs la hP hD hS hl)
theorem n_sipush {i : Int} {v : Int32} (hd : decode cc pc = .ok (.sipush i, 3)) (hv : (Int16.ofInt i).toInt32 = v) (hq : pc + 3 = q) (k : N E A R X cc own nL q ls (.int v :: st) ws cells slots) : N E A R X cc own nL pc ls (st) ws cells slots := by
  subst hq
  exact fun hX H locs la hP hD hS hl => lv_sipush hX.1 hX.2.1 hd hv (k hX H locs la hP hD hS hl)
theorem n_dup {v : Value} (hd : decode cc pc = .ok (.dup, 1)) (hc : v.category = 1) (hq : pc + 1 = q) (k : N E A R X cc own nL q ls (v :: v :: st) ws cells slots) : N E A R X cc own nL pc ls (v :: st) ws cells slots := by
  subst hq
  exact fun hX H locs la hP hD hS hl => lv_dup hX.1 hX.2.1 hd hc (k hX H locs la hP hD hS hl)
theorem n_istore {i : Fin 4} {j : Nat} {x : Int32} (hd : decode cc pc = .ok (.istore_n i, 1)) (hi : (i : Nat) = j) (hn2 : j < nL) (hs : okS ls j = true) (hq : pc + 1 = q) (k : N E A R X cc own nL q (ls.set j (some (.int x))) st ws cells slots) : N E A R X cc own nL pc ls (.int x :: st) ws cells slots := by
  subst hq
  exact fun hX H locs la hP hD hS hl => lv_istore_n hX.1 hX.2.1 hd hi (lh_has hl) hn2 rfl (fun la' hl' => k hX H locs la' hP hD hS (lh_set hs hl'))
theorem n_astore {i : Fin 4} {j : Nat} {x : Nat} (hd : decode cc pc = .ok (.astore_n i, 1)) (hi : (i : Nat) = j) (hn2 : j < nL) (hs : okS ls j = true) (hq : pc + 1 = q) (k : N E A R X cc own nL q (ls.set j (some (.ref x))) st ws cells slots) : N E A R X cc own nL pc ls (.ref x :: st) ws cells slots := by
  subst hq
  exact fun hX H locs la hP hD hS hl => lv_astore_n hX.1 hX.2.1 hd hi (lh_has hl) hn2 rfl (fun la' hl' => k hX H locs la' hP hD hS (lh_set hs hl'))
theorem n_iinc {i : Nat} {d : Int} {x w : Int32} (hd : decode cc pc = .ok (.iinc i d, 3)) (hv : ls[i]? = some (some (.int x))) (hw : Int32.ofInt d = w) (hn2 : i < nL) (hs : okS ls i = true) (hq : pc + 3 = q) (k : N E A R X cc own nL q (ls.set i (some (.int (x + w)))) st ws cells slots) : N E A R X cc own nL pc ls st ws cells slots := by
  subst hq
  subst hw
  intro hX H locs la hP hD hS hl
  obtain ⟨j, hj⟩ := List.getElem?_of_mem (lvOf_mem.mpr hv)
  exact lv_iinc hX.1 hX.2.1 hd (lh_has hl) hj rfl hn2 rfl (fun la' hl' => k hX H locs la' hP hD hS (lh_set hs hl'))
theorem n_goto {off : Int} {t : Nat} (hd : decode cc pc = .ok (.goto off, 3)) (ht : (pc : Int) + off = (t : Int)) (k : N E A R X cc own nL t ls st ws cells slots) : N E A R X cc own nL pc ls st ws cells slots :=
  fun hX H locs la hP hD hS hl => lv_goto hX.1 hX.2.1 hd ht (k hX H locs la hP hD hS hl)
theorem n_icmp_ge {x y : Int32} {off : Int} {t : Nat} (hd : decode cc pc = .ok (.if_icmp .ge off, 3)) (ht : (pc : Int) + off = (t : Int)) (hq : pc + 3 = q) (kt : y ≤ x → N E A R X cc own nL t ls st ws cells slots) (kf : ¬ y ≤ x → N E A R X cc own nL q ls st ws cells slots) : N E A R X cc own nL pc ls (.int y :: .int x :: st) ws cells slots := by
  subst hq
  exact fun hX H locs la hP hD hS hl => lv_icmp_ge hX.1 hX.2.1 hd ht (fun c => kt c hX H locs la hP hD hS hl) (fun c => kf c hX H locs la hP hD hS hl)
theorem n_obj {a idx : Nat} (hw : Cond.methodLink own idx Lib.objectInit ∈ gt) (hw1 : Cond.instanceMethod Lib.objectInit ∈ gt) (hw2 : Cond.code Lib.objectInit ⟨#[0xb1]⟩ 1 none ∈ gt) (hd : decode cc pc = .ok (.invokespecial idx, 3)) (hfr : 1 ≤ R.frames) (hlo : (st.map fun v => v.category).sum + 12 ≤ R.locals) (hq : pc + 3 = q) (k : N E A R X cc own nL q ls st ws cells slots) : N E A R X cc own nL pc ls (.ref a :: st) ws cells slots := by
  subst hq
  intro hX H locs la hP hD hS hl
  refine W.objInit hX.1 hX.2.1 hX.2.2.2.1 (hX.2.2.2.2.1 _ hw) (hX.2.2.2.2.1 _ hw1) (hX.2.2.2.2.1 _ hw2) rfl (hl.1.trans hX.2.2.1.symm) rfl hd hfr (by show 2 * 0 + _ + 12 ≤ _; omega) ?_
  exact k hX H locs la hP hD hS hl
theorem n_newi {NA : Nat} {z : Int32} (hw : Cond.arrayClass .int ∈ gt) (hz : ¬ z < 0) (hN : z.toNatClampNeg = NA) (hb4 : NA * componentBytes .int ≤ 536870912) (hcells : cells + 1 ≤ R.cells) (hslots : slots + NA ≤ R.slots) (hd : decode cc pc = .ok (.newarray .int, 2)) (hq : pc + 2 = q) (k : ∀ a : Nat, N E A R X cc own nL q ls (.ref a :: st) (ws ++ [(a, .inl (E.2.2.2.1, NA, .inl (fun _ => 0)))]) (cells + 1) (slots + NA)) : N E A R X cc own nL pc ls (.int z :: st) ws cells slots := by
  subst hq
  intro hX H locs la hP hD hS hl
  refine va_newa hX.1 hX.2.1 (atype := .int) (ty := .int) (a0 := (NA, .inl (fun _ => 0))) (hX.2.2.2.2.1 _ hw) rfl hX.2.2.2.2.2.1 hP hD hS hX.2.2.2.2.2.2.1 (fun cA => by rw [vp_cell_i]; rfl) hz hN hb4 hcells hslots hd (fun a cA H1 hK1 hP1 hD1 hS1 => ?_)
  have hcA : cA = E.2.2.2.1 := Option.some.inj ((hK1.2 2 (cA, FieldType.int) rfl).2.symm.trans (hX.2.2.2.2.2.1.2 0 (E.2.2.2.1, FieldType.int) rfl).2)
  subst hcA
  exact k a hX H1 locs la hP1 hD1 hS1 hl
theorem n_newz {NA : Nat} {z : Int32} (hw : Cond.arrayClass .boolean ∈ gt) (hz : ¬ z < 0) (hN : z.toNatClampNeg = NA) (hb4 : NA * componentBytes .boolean ≤ 536870912) (hcells : cells + 1 ≤ R.cells) (hslots : slots + NA ≤ R.slots) (hd : decode cc pc = .ok (.newarray .boolean, 2)) (hq : pc + 2 = q) (k : ∀ a : Nat, N E A R X cc own nL q ls (.ref a :: st) (ws ++ [(a, .inl (E.2.2.2.2, NA, .inl (fun _ => 0)))]) (cells + 1) (slots + NA)) : N E A R X cc own nL pc ls (.int z :: st) ws cells slots := by
  subst hq
  intro hX H locs la hP hD hS hl
  refine va_newa hX.1 hX.2.1 (atype := .boolean) (ty := .boolean) (a0 := (NA, .inl (fun _ => 0))) (hX.2.2.2.2.1 _ hw) rfl hX.2.2.2.2.2.1 hP hD hS hX.2.2.2.2.2.2.1 (fun cA => by rw [vp_cell_i]; rfl) hz hN hb4 hcells hslots hd (fun a cA H1 hK1 hP1 hD1 hS1 => ?_)
  have hcA : cA = E.2.2.2.2 := Option.some.inj ((hK1.2 2 (cA, FieldType.boolean) rfl).2.symm.trans (hX.2.2.2.2.2.1.2 1 (E.2.2.2.2, FieldType.boolean) rfl).2)
  subst hcA
  exact k a hX H1 locs la hP1 hD1 hS1 hl
theorem n_new {C : String} {T : u_T} {NF ci idx : Nat} {fs : List Value} (hin : ∀ w ∈ u_ws C T NF, w ∈ gt) (ty : Nat → FieldType) (hty : ∀ k, k < NF → parseFieldDescriptor (T k).2.2.1 = some (ty k)) (hw : Cond.classLink own idx C ∈ gt) (hw1 : Cond.instantiable C NF ∈ gt) (hw2 : Cond.initialized C ∈ gt) (hc : cls[ci]? = some (C, T, NF)) (hfs : ∀ j, j < NF → defaultValue (ty j) = vp_V fs j) (hcells : cells + 1 ≤ R.cells) (hslots : slots + NF ≤ R.slots) (hd : decode cc pc = .ok (.new idx, 3)) (hq : pc + 3 = q) (k : ∀ a : Nat, N E A R X cc own nL q ls (.ref a :: st) (ws ++ [(a, .inr (ci, fs))]) (cells + 1) (slots + NF)) : N E A R X cc own nL pc ls st ws cells slots := by
  subst hq
  intro hX H locs la hP hD hS hl
  exact va_new hX.1 hX.2.1 hX.2.2.2.2.1 hin ty hty hX.2.2.2.1 (hX.2.2.2.2.1 _ hw) (hX.2.2.2.2.1 _ hw1) (hX.2.2.2.2.1 _ hw2) hX.2.2.2.2.2.1 hP hD hS hX.2.2.2.2.2.2.1 hc hfs hcells hslots hd (fun a H1 hP1 hD1 hS1 => k a hX H1 locs la hP1 hD1 hS1 hl)
theorem n_putF {a ci : Nat} {fs : List Value} {tl : va_W} {C : String} {T : u_T} {NF idx : Nat} {ty : FieldType} {v : Value} (hin : ∀ w ∈ u_ws C T NF, w ∈ gt) (ty0 : Nat → FieldType) (hty : ∀ k, k < NF → parseFieldDescriptor (T k).2.2.1 = some (ty0 k)) (hnm : ∀ a, a < NF → ∀ b, b < NF → a ≠ b → (T a).2.1 ≠ (T b).2.1) (hc : cls[ci]? = some (C, T, NF)) (j : Nat) (hj : j < NF) (hw : Cond.fieldLink own idx (T j).1 (T j).2.1 (T j).2.2.1 ∈ gt) (hfin : (T j).2.2.2 = true) (hini : X.2.2.2.2.2.2.1.name = "<init>") (hdecl : (T j).1 = own) (hpd : parseFieldDescriptor (T j).2.2.1 = some ty) (hna : narrow ty v = v) (hfi : fits ty v = true) (hl0 : j < fs.length) (hd : decode cc pc = .ok (.putfield idx, 3)) (hq : pc + 3 = q) (k : N E A R X cc own nL q ls st ((a, .inr (ci, fs.set j v)) :: tl) cells slots) : N E A R X cc own nL pc ls (v :: .ref a :: st) ((a, .inr (ci, fs)) :: tl) cells slots := by
  subst hq
  intro hX H locs la hP hD hS hl
  refine va_putF hX.1 hX.2.1 hX.2.2.2.2.1 hin ty0 hty hnm hX.2.2.2.1 hX.2.2.2.2.2.1 hP hD hS 0 rfl hc j hj (hX.2.2.2.2.1 _ hw) (fun _ h => h) hfin hini hdecl hpd hna hfi hl0 hd (fun H1 locs1 hP1 hD1 hS1 => ?_)
  exact k hX H1 locs1 la hP1 hD1 hS1 hl
theorem n_get {a ci : Nat} {fs : List Value} {tl : va_W} {C : String} {T : u_T} {NF idx : Nat} {v : Value} (hin : ∀ w ∈ u_ws C T NF, w ∈ gt) (hc : cls[ci]? = some (C, T, NF)) (j : Nat) (hj : j < NF) (hw : Cond.fieldLink own idx (T j).1 (T j).2.1 (T j).2.2.1 ∈ gt) (hv : fs[j]? = some v) (hd : decode cc pc = .ok (.getfield idx, 3)) (hq : pc + 3 = q) (k : N E A R X cc own nL q ls (v :: st) ((a, .inr (ci, fs)) :: tl) cells slots) : N E A R X cc own nL pc ls (.ref a :: st) ((a, .inr (ci, fs)) :: tl) cells slots := by
  subst hq
  intro hX H locs la hP hD hS hl
  exact va_get hX.1 hX.2.1 hX.2.2.2.2.1 hin hX.2.2.2.1 hX.2.2.2.2.2.1 hP 0 rfl hc j hj (hX.2.2.2.2.1 _ hw) (fun _ h => h) hv hd (k hX H locs la hP hD hS hl)
theorem n_iast {a Nn : Nat} {f : Nat → Int32} {i x : Int32} {ws' : va_W} (p0 : Nat) (hp : ws[p0]? = some (a, .inl (E.2.2.2.1, Nn, .inl f))) (hin : vp_in i Nn) (hws : ws.set p0 (a, .inl (E.2.2.2.1, Nn, .inl (upd f i.toNatClampNeg x))) = ws') (hd : decode cc pc = .ok (.iastore, 1)) (hq : pc + 1 = q) (k : N E A R X cc own nL q ls st ws' cells slots) : N E A R X cc own nL pc ls (.int x :: .int i :: .ref a :: st) ws cells slots := by
  subst hq
  subst hws
  intro hX H locs la hP hD hS hl
  refine va_iast hX.1 hX.2.1 hX.2.2.2.2.2.1 hP hD hS p0 0 hp rfl hin hd (fun H1 locs1 hP1 hD1 hS1 => ?_)
  exact k hX H1 locs1 la hP1 hD1 hS1 hl
theorem n_eqw {ls' : List (Option Value)} {ws' : va_W} (k : N E A R X cc own nL pc ls st ws cells slots) (e1 : lsub ls ls') (e2 : ws' = ws) : N E A R X cc own nL pc ls' st ws' cells slots := by
  subst e2
  exact fun hX H locs la hP hD hS hl => k hX H locs la hP hD hS ⟨hl.1, hl.2.1, fun i v h => hl.2.2 i v (lsub_at ls ls' e1 i v h)⟩
theorem n_for {I : Nat → List (Option Value)} {S : Nat → va_W} (i0 M : Nat) (hi : i0 ≤ M) (step : ∀ i, i0 ≤ i → i < M → N E A R X cc own nL pc (I (i + 1)) st (S (i + 1)) cells slots → N E A R X cc own nL pc (I i) st (S i) cells slots) (fin : N E A R X cc own nL pc (I M) st (S M) cells slots) : N E A R X cc own nL pc (I i0) st (S i0) cells slots := by
  have key : ∀ d, d ≤ M - i0 → N E A R X cc own nL pc (I (M - d)) st (S (M - d)) cells slots := by
    intro d
    induction d with
    | zero => intro _; exact fin
    | succ d ih =>
      intro hd
      have h1 := ih (by omega)
      have h2 := step (M - (d + 1)) (by omega) (by omega)
      rw [show M - (d + 1) + 1 = M - d by omega] at h2
      exact h2 h1
  have := key (M - i0) (Nat.le_refl _)
  rwa [show M - (M - i0) = i0 by omega] at this
theorem n_w {g0 : JFrame} {H : Heap} {locs : List Loc} {a : Array Value} {h0 mc ms : Nat} {wf : (Nat → Nat) → va_W} {wx : va_W} {e0 : va_E} (hX : NC E A X cc own nL) (hr : va_Run X.1 E.1 X.2.1 R X.2.2.1 X.2.2.2.1 X.2.2.2.2.1 X.2.2.2.2.2.1 X.2.2.2.2.2.2.1 X.2.2.2.2.2.2.2.1 H locs cells slots mc ms g0 st (Qn E wf h0 H.size a) (Az h0 H.size)) (hP : va_P E.2.2.1 cls (wx ++ [(h0, e0)]) H) (hD : va_D A (wx ++ [(h0, e0)])) (hS : va_S A X.2.2.1.heap H locs)
    (kk : ∀ (u : Nat → Nat) (H1 : Heap) (locs1 : List Loc), u 0 = h0 → va_P E.2.2.1 cls (wx ++ wf u) H1 → va_D A (wx ++ wf u) → va_S A X.2.2.1.heap H1 locs1 → WN E R X H1 locs1 (cells + mc) (slots + ms) { g0 with pc := g0.pc + 3, stack := st }) : WN E R X H locs cells slots g0 := by
  have hlast : (wx ++ [(h0, e0)])[wx.length]? = some (h0, e0) := by rw [List.getElem?_append_right (Nat.le_refl _), Nat.sub_self]; rfl
  have hx : ∀ (k : Nat) (x : Nat × va_E), wx[k]? = some x → (wx ++ [(h0, e0)])[k]? = some x ∧ x.1 ≠ h0 ∧ x.1 < H.size := by
    intro k x hk
    have hkl := (List.getElem?_eq_some_iff.mp hk).1
    have h1 : (wx ++ [(h0, e0)])[k]? = some x := by rw [List.getElem?_append_left hkl]; exact hk
    refine ⟨h1, fun z => ?_, (hP k x h1).lt⟩
    have := hD.1 k wx.length x _ h1 hlast z
    omega
  have hAk : ∀ q, Az h0 H.size q → A q := by
    intro q hq
    rcases hq with z | z
    · rw [z]; exact hD.2 _ _ hlast
    · exact hX.2.2.2.2.2.2.1 q (by have := hS.1; omega)
  intro T hT XS
  obtain ⟨v, st₀, t, T', L, h1, X', hL, e1, e2, ⟨⟨hv, u, hu, hp, hd1⟩, hz, hk⟩, st2⟩ := hr T hT XS
  cases hv
  rw [h1] at hz hk
  have hnA : ∀ (k : Nat) (x : Nat × va_E), wx[k]? = some x → ¬ Az h0 H.size x.1 := fun k x hkx z => z.elim (hx k x hkx).2.1 (fun z => by have := (hx k x hkx).2.2; omega)
  obtain ⟨t2, a1, b1⟩ := kk u T'.heap (locs ++ L) hu (va_P.app (fun k x hkx => ((hP k x (hx k x hkx).1).kept (by rw [e1]; exact hk _ (hx k x hkx).2.2 (hnA k x hkx)))) (by rw [e1]; exact hp)) (va_D.app ⟨fun i j p q hi hj => hD.1 i j p q (hx i p hi).1 (hx j q hj).1, fun k x hkx => hD.2 k x (hx k x hkx).1⟩ (hd1.weaken (fun _ _ _ z => hAk _ z)) (fun i j p q hi hj z => hnA i p hi (by rw [z]; exact hd1.2 j q hj))) ⟨Nat.le_trans hS.1 (by rw [e1]; exact hz), fun q h2 h3 => by rw [e1, hk q (Nat.lt_of_lt_of_le h2 hS.1) (fun z => h3 (hAk q z))]; exact hS.2.1 q h2 h3, fun q hq => by
      rcases List.mem_append.mp hq with h | h
      · exact hS.2.2 q h
      · exact hAk _ (hL q h)⟩ T' rfl X'
  exact ⟨t2, st2 t2 a1, b1⟩
theorem n_blind {as : List Value} {h0 sz ci : Nat} {fs : List Value} : FrameBlind (va_Pc as (fun U => U.heap.size = sz ∧ va_P E.2.2.1 cls [(h0, .inr (ci, fs))] U.heap ∧ va_K E.2.2.1 cls (tyl E) U ∧ NW U)) := fun a U g mk q => by
  obtain ⟨q0, q1, qP, qK, qN⟩ := q
  exact ⟨q0, q1, qP, va_K.moved (u := U) (U := U.calling g mk a) (Vm.Alike.refl U.vm) qK, NW.same rfl qN⟩
/-- a constructor is called (ordinary link) -/
theorem n_callI {y : MethodName} {cb : ByteArray} {nL' : Nat} {rm : Room} {h0 ci mc ms idx : Nat} {fs : List Value} {wx : va_W} {wf : (Nat → Nat) → va_W} (ct : Cn E y cb nL' rm ci fs wf mc ms) (hw : Cond.methodLink own idx y ∈ gt) (hw1 : Cond.instanceMethod y ∈ gt) (hw2 : Cond.initialized y.cls ∈ gt) (hw3 : Cond.code y cb nL' none ∈ gt) (hy : y.name = "<init>") (hyd : y.cls ≠ "java/lang/invoke/MethodHandle" ∧ y.cls ≠ "java/lang/invoke/VarHandle" ∧ (parseMethodDescriptor y.desc).map (fun d => d.parameters.length) = some 0) (hrc : rm.cells = mc) (hrs : rm.slots = ms) (hW : (st.map fun v => v.category).sum ≤ 8) (hfr : rm.frames + 1 ≤ R.frames) (hlo : 8 + (nL' + 11) + rm.locals ≤ R.locals) (hcs : cells + mc ≤ R.cells ∧ slots + ms ≤ R.slots) (hd : decode cc pc = .ok (.invokespecial idx, 3)) (hq : pc + 3 = q) (k : ∀ u : Nat → Nat, u 0 = h0 → N E A R X cc own nL q ls st (wx ++ wf u) (cells + mc) (slots + ms)) : N E A R X cc own nL pc ls (.ref h0 :: st) (wx ++ [(h0, .inr (ci, fs))]) cells slots := by
  subst hq
  intro hX H locs la hP hD hS hl
  have hP1 : va_P E.2.2.1 cls [(h0, .inr (ci, fs))] H := hP.by (fun i => wx.length + i) (fun i x hx => by rw [List.getElem?_append_right (Nat.le_add_right _ _), Nat.add_sub_cancel_left]; exact hx)
  refine n_w hX (va_runI (As := []) (rest := st) (n := 0) ⟨hX.1, hX.2.1, hX.2.2.1, hX.2.2.2.1, hX.2.2.2.2.1⟩ (ct h0 H.size) ⟨callB_of 0 hX.2.2.2.2.1 (good_code hw3) rfl hrc hrs (hX.2.2.2.2.1 _ hw2) (hX.2.2.2.2.1 _ hw) hyd ⟨hfr, hlo⟩, hy, hX.2.2.2.2.1 _ hw1⟩ ⟨n_blind, fun U hU hWm => ⟨rfl, by rw [hU], by rw [hU]; exact hP1, va_K.moved hWm.alike hX.2.2.2.2.2.1, NW.warm hWm hX.2.2.2.2.2.2.2⟩⟩ rfl rfl hl.1 rfl (by show 2 * 0 + _ ≤ 8; omega) hd hcs) hP hD hS (fun u H1 locs1 hu hP1 hD1 hS1 => k u hu hX H1 locs1 la hP1 hD1 hS1 hl)
/-- a constructor of a nest mate is called -/
theorem n_callN {y : MethodName} {cb : ByteArray} {nL' : Nat} {rm : Room} {h0 ci mc ms idx : Nat} {fs : List Value} {wx : va_W} {wf : (Nat → Nat) → va_W} (ct : Cn E y cb nL' rm ci fs wf mc ms) (hw : ∀ U : State, NW U → va_Nw (.methodLinkNest own idx y RX6) U) (hw1 : Cond.instanceMethod y ∈ gt) (hw2 : Cond.initialized y.cls ∈ gt) (hw3 : Cond.code y cb nL' none ∈ gt) (hy : y.name = "<init>") (hyd : y.cls ≠ "java/lang/invoke/MethodHandle" ∧ y.cls ≠ "java/lang/invoke/VarHandle" ∧ (parseMethodDescriptor y.desc).map (fun d => d.parameters.length) = some 0) (hrc : rm.cells = mc) (hrs : rm.slots = ms) (hW : (st.map fun v => v.category).sum ≤ 8) (hfr : rm.frames + 1 ≤ R.frames) (hlo : 8 + (nL' + 11) + rm.locals ≤ R.locals) (hcs : cells + mc ≤ R.cells ∧ slots + ms ≤ R.slots) (hd : decode cc pc = .ok (.invokespecial idx, 3)) (hq : pc + 3 = q) (k : ∀ u : Nat → Nat, u 0 = h0 → N E A R X cc own nL q ls st (wx ++ wf u) (cells + mc) (slots + ms)) : N E A R X cc own nL pc ls (.ref h0 :: st) (wx ++ [(h0, .inr (ci, fs))]) cells slots := by
  subst hq
  intro hX H locs la hP hD hS hl
  have hP1 : va_P E.2.2.1 cls [(h0, .inr (ci, fs))] H := hP.by (fun i => wx.length + i) (fun i x hx => by rw [List.getElem?_append_right (Nat.le_add_right _ _), Nat.add_sub_cancel_left]; exact hx)
  refine n_w hX (va_runIN (As := []) (rest := st) (n := 0) ⟨hX.1, hX.2.1, hX.2.2.1, hX.2.2.2.1, hX.2.2.2.2.1⟩ (ct h0 H.size) ⟨va_cnB 0 hX.2.2.2.2.1 (good_code hw3) rfl hrc hrs (hw _ hX.2.2.2.2.2.2.2) (hX.2.2.2.2.1 _ hw2) hyd ⟨hfr, hlo⟩, hy, hX.2.2.2.2.1 _ hw1⟩ ⟨n_blind, fun U hU hWm => ⟨rfl, by rw [hU], by rw [hU]; exact hP1, va_K.moved hWm.alike hX.2.2.2.2.2.1, NW.warm hWm hX.2.2.2.2.2.2.2⟩⟩ rfl rfl hl.1 rfl (by show 2 * 0 + _ ≤ 8; omega) hd hcs) hP hD hS (fun u H1 locs1 hu hP1 hD1 hS1 => k u hu hX H1 locs1 la hP1 hD1 hS1 hl)
end MAKE
/-- a constructor's contract out of its walk -/
theorem cn_of {E : EE} {y : MethodName} {cb : ByteArray} {nL : Nat} {rm : Room} {ci mc ms : Nat} {fs : List Value} {wf : (Nat → Nat) → va_W} (own : String) (hy : plainName y.cls = true) (hyn : y.name = "<init>") (hown : y.cls = own) (hlen : 1 ≤ nL)
    (h : ∀ (h0 sz : Nat) (X : XX), X.2.2.2.2.2.2.1.name = "<init>" → X.2.2.2.2.2.2.1.sig.returnType = none → X.2.2.2.2.2.2.1.locks = false → X.2.2.2.2.2.2.2.2.2.2 = MQ X.2.2.2.2.2.1 (Qn E wf h0 sz) X.2.2.2.2.1 X.2.2.1 mc ms (Az h0 sz) → N E (Az h0 sz) rm X cb own nL 0 (lsOf [.ref h0] nL) [] [(h0, .inr (ci, fs))] 0 0) : Cn E y cb nL rm ci fs wf mc ms := by
  intro h0 sz
  refine Met.ofW (cc := cb) (maxL := nL) (ret := none) hy rfl ?_
  intro p e s m args below meth c s₁ Bd hml hv
  obtain ⟨rfl, hsz, hP, hK, hN⟩ := hv
  have hts := atoms_spec (ws := Cond.code y cb nL none :: gt) Bd.pre
  have hfc : s.vm.findClass own = some m.cls := by rw [← hown]; exact findClass_of_methodNamed Bd.named
  have hin : meth.name = "<init>" := by rw [(name_of_methodNamed Bd.named Bd.method).1]; exact hyn
  have hl := lv_entry [.ref h0] (n := nL) hlen
  rw [lg_entry_eq]
  refine h h0 sz (p, e, s, m, [Value.ref h0].toArray, below, meth, c, 0, 0, MQ below (Qn E wf h0 sz) [Value.ref h0].toArray s mc ms (Az h0 sz)) hin Bd.returns Bd.notSynchronized rfl ⟨Bd.exec, Bd.bytes, hml, hfc, fun w hw => hts w (List.mem_cons_of_mem _ hw), hK, fun q hq => Or.inr (by rw [← hsz]; exact hq), hN⟩ s.heap [] _ hP ⟨fun i j p q hi hj _ => ?_, fun k q hk => ?_⟩ va_S.rf ⟨hl.1, hl.2.1, fun i v hv => ?_⟩
  · have h1 := (List.getElem?_eq_some_iff.mp hi).1
    have h2 := (List.getElem?_eq_some_iff.mp hj).1
    have h1 : i < 1 := h1
    have h2 : j < 1 := h2
    omega
  · have h1 : k < 1 := (List.getElem?_eq_some_iff.mp hk).1
    rw [show k = 0 by omega] at hk
    cases hk
    exact Or.inl rfl
  · unfold lsOf at hv
    have hi : i < (fl [.ref h0]).length := by
      rcases Nat.lt_or_ge i (fl [.ref h0]).length with h | h
      · exact h
      · rw [List.getElem?_append_right h] at hv
        have := List.eq_of_mem_replicate (List.mem_of_getElem? hv)
        cases this
    rw [List.getElem?_append_left hi] at hv
    have h2 := fl_at [.ref h0] i v hv
    rw [List.getElem?_toArray, List.getElem?_append_left (List.getElem?_eq_some_iff.mp h2).1]
    exact h2
theorem n_vret {E : EE} {R : Room} {X : XX} {cc : ByteArray} {own : String} {nL pc h0 sz mc ms : Nat} {wf : (Nat → Nat) → va_W} {ls : List (Option Value)} {ws : va_W} (hret : X.2.2.2.2.2.2.1.sig.returnType = none) (hlk : X.2.2.2.2.2.2.1.locks = false) (hQ : X.2.2.2.2.2.2.2.2.2.2 = MQ X.2.2.2.2.2.1 (Qn E wf h0 sz) X.2.2.2.2.1 X.2.2.1 mc ms (Az h0 sz)) (u : Nat → Nat) (hu : u 0 = h0) (hws : ws = wf u) (hd : decode cc pc = .ok (.return_, 1)) : N E (Az h0 sz) R X cc own nL pc ls [] ws mc ms := by
  subst hws
  intro hX H locs la hP hD hS hl
  unfold WN
  rw [hQ]
  exact W.vret hX.1 hX.2.1 hret (fun t ht hW => ⟨⟨rfl, u, hu, by rw [ht]; exact hP, hD⟩, hS.F ht⟩) hS.2.2 hd hlk
def wf0 (E : EE) (u : Nat → Nat) : va_W := [(u 0, .inr (0, [.ref (u 1), .int 0])), (u 1, .inl (E.2.2.2.1, 16, .inl (fun _ => 0)))]
def wf1 (E : EE) (u : Nat → Nat) : va_W := [(u 0, .inr (1, [.int 0, .int 0, .int 0, .int 0, .int 0, .int 0, .int 0, .int 0, .ref (u 1), .ref (u 2), .ref (u 3), .ref (u 4), .ref (u 5), .ref (u 6)])), (u 1, .inl (E.2.2.2.1, 8, .inl (fun _ => 0))), (u 2, .inl (E.2.2.2.1, 8, .inl (fun _ => 0))), (u 3, .inl (E.2.2.2.1, 5, .inl (fun _ => 0))), (u 4, .inl (E.2.2.2.1, 5, .inl (fun _ => 0))), (u 5, .inl (E.2.2.2.1, 5, .inl (fun _ => 0))), (u 6, .inl (E.2.2.2.1, 6, .inl (fun _ => 0)))]
def wf2 (E : EE) (u : Nat → Nat) : va_W := [(u 0, .inr (2, [.ref (u 1), .int 0, .int 0])), (u 1, .inl (E.2.2.2.1, 312, .inl (fun _ => 0)))]
def wf3 (E : EE) (u : Nat → Nat) : va_W := [(u 0, .inr (3, [.ref (u 1), .ref (u 2), .ref (u 3)])), (u 1, .inl (E.2.2.2.1, 320, .inl (fun _ => 0))), (u 2, .inl (E.2.2.2.1, 8, .inl (fun _ => 0))), (u 3, .inl (E.2.2.2.1, 8, .inl (m1 8)))]
def wf4 (E : EE) (u : Nat → Nat) : va_W := [(u 0, .inr (4, [.ref (u 1), .int 0, .int 0, .long 0, .long 0])), (u 1, .inr (1, [.int 0, .int 0, .int 0, .int 0, .int 0, .int 0, .int 0, .int 0, .ref (u 2), .ref (u 3), .ref (u 4), .ref (u 5), .ref (u 6), .ref (u 7)])), (u 2, .inl (E.2.2.2.1, 8, .inl (fun _ => 0))), (u 3, .inl (E.2.2.2.1, 8, .inl (fun _ => 0))), (u 4, .inl (E.2.2.2.1, 5, .inl (fun _ => 0))), (u 5, .inl (E.2.2.2.1, 5, .inl (fun _ => 0))), (u 6, .inl (E.2.2.2.1, 5, .inl (fun _ => 0))), (u 7, .inl (E.2.2.2.1, 6, .inl (fun _ => 0)))]
def wf5 (E : EE) (u : Nat → Nat) : va_W := [(u 0, .inr (5, [.ref (u 1), .int 0, .int 0, .int 0, .int 0])), (u 1, .inl (E.2.2.2.1, 120, .inl (fun _ => 0)))]
def wf7 (E : EE) (u : Nat → Nat) : va_W := [(u 0, .inr (7, [.ref (u 1), .ref (u 2), .ref (u 3), .int 0, .int 0, .ref (u 4), .ref (u 5), .ref (u 6), .int 0, .int 0, .int 0, .int 0, .int 0, .int 0, .int 0, .ref (u 7), .ref (u 8), .int 0, .ref (u 9), .ref (u 10), .ref (u 11), .ref (u 12), .int 0])), (u 1, .inl (E.2.2.2.1, 8, .inl (fun _ => 0))), (u 2, .inl (E.2.2.2.1, 8, .inl (m1 8))), (u 3, .inl (E.2.2.2.1, 320, .inl (fun _ => 0))), (u 4, .inl (E.2.2.2.1, 52, .inl (fun _ => 0))), (u 5, .inl (E.2.2.2.1, 40, .inl (fun _ => 0))), (u 6, .inl (E.2.2.2.1, 120, .inl (fun _ => 0))), (u 7, .inl (E.2.2.2.1, 52, .inl (fun _ => 0))), (u 8, .inl (E.2.2.2.1, 1248, .inl (fun _ => 0))), (u 9, .inl (E.2.2.2.1, 52, .inl (fun _ => 0))), (u 10, .inl (E.2.2.2.2, 2, .inl (fun _ => 0))), (u 11, .inl (E.2.2.2.1, 104, .inl (fun _ => 0))), (u 12, .inl (E.2.2.2.1, 16, .inl (fun _ => 0)))]
def wf6 (E : EE) (u : Nat → Nat) : va_W := [(u 0, .inr (6, [.ref (u 1), .ref (u 5), .ref (u 7), .ref (u 14), .ref (u 16), .ref (u 24), .ref (u 26), .ref (u 33), .int 0, .int 0]))] ++ wf3 E (fun j => u (1 + j)) ++ wf5 E (fun j => u (5 + j)) ++ wf1 E (fun j => u (7 + j)) ++ wf2 E (fun j => u (14 + j)) ++ wf4 E (fun j => u (16 + j)) ++ wf0 E (fun j => u (24 + j)) ++ wf1 E (fun j => u (26 + j)) ++ wf1 E (fun j => u (33 + j))
set_option maxRecDepth 100000 in
theorem wm_106 : Cond.arrayClass .int ∈ gt := in_gt 106 (by decide +kernel) (by decide +kernel)
set_option maxRecDepth 100000 in
theorem wm_918 : Cond.arrayClass .boolean ∈ gt := in_gt 918 (by decide +kernel) (by decide +kernel)
set_option maxRecDepth 100000 in
theorem wm_254 : Cond.instantiable RX0 2 ∈ gt := in_gt 254 (by decide +kernel) (by decide +kernel)
set_option maxRecDepth 100000 in
theorem wm_133 : Cond.instantiable RX1 14 ∈ gt := in_gt 133 (by decide +kernel) (by decide +kernel)
set_option maxRecDepth 100000 in
theorem wm_210 : Cond.instantiable RX2 3 ∈ gt := in_gt 210 (by decide +kernel) (by decide +kernel)
set_option maxRecDepth 100000 in
theorem wm_91 : Cond.instantiable RX3 3 ∈ gt := in_gt 91 (by decide +kernel) (by decide +kernel)
set_option maxRecDepth 100000 in
theorem wm_227 : Cond.instantiable RX4 5 ∈ gt := in_gt 227 (by decide +kernel) (by decide +kernel)
set_option maxRecDepth 100000 in
theorem wm_108 : Cond.instantiable RX5 5 ∈ gt := in_gt 108 (by decide +kernel) (by decide +kernel)
set_option maxRecDepth 100000 in
theorem wm_83 : Cond.instantiable RX6 10 ∈ gt := in_gt 83 (by decide +kernel) (by decide +kernel)
set_option maxRecDepth 100000 in
theorem wm_843 : Cond.instantiable RX7 23 ∈ gt := in_gt 843 (by decide +kernel) (by decide +kernel)
set_option maxRecDepth 100000 in
theorem wm_88 : Cond.instanceMethod Lib.objectInit ∈ gt := in_gt 88 (by decide +kernel) (by decide +kernel)
set_option maxRecDepth 100000 in
theorem wm_89 : Cond.code Lib.objectInit ⟨#[0xb1]⟩ 1 none ∈ gt := in_gt 89 (by decide +kernel) (by decide +kernel)
set_option maxRecDepth 100000 in
theorem wm_77 : Cond.initialized RX0 ∈ gt := in_gt 77 (by decide +kernel) (by decide +kernel)
set_option maxRecDepth 100000 in
theorem wm_74 : Cond.initialized RX1 ∈ gt := in_gt 74 (by decide +kernel) (by decide +kernel)
set_option maxRecDepth 100000 in
theorem wm_75 : Cond.initialized RX2 ∈ gt := in_gt 75 (by decide +kernel) (by decide +kernel)
set_option maxRecDepth 100000 in
theorem wm_72 : Cond.initialized RX3 ∈ gt := in_gt 72 (by decide +kernel) (by decide +kernel)
set_option maxRecDepth 100000 in
theorem wm_76 : Cond.initialized RX4 ∈ gt := in_gt 76 (by decide +kernel) (by decide +kernel)
set_option maxRecDepth 100000 in
theorem wm_73 : Cond.initialized RX5 ∈ gt := in_gt 73 (by decide +kernel) (by decide +kernel)
set_option maxRecDepth 100000 in
theorem wm_71 : Cond.initialized RX6 ∈ gt := in_gt 71 (by decide +kernel) (by decide +kernel)
set_option maxRecDepth 100000 in
theorem wm_78 : Cond.initialized RX7 ∈ gt := in_gt 78 (by decide +kernel) (by decide +kernel)
set_option maxRecDepth 100000 in
theorem wm_256 : Cond.instanceMethod yX0_init ∈ gt := in_gt 256 (by decide +kernel) (by decide +kernel)
set_option maxRecDepth 100000 in
theorem wm_135 : Cond.instanceMethod yX1_init ∈ gt := in_gt 135 (by decide +kernel) (by decide +kernel)
set_option maxRecDepth 100000 in
theorem wm_212 : Cond.instanceMethod yX2_init ∈ gt := in_gt 212 (by decide +kernel) (by decide +kernel)
set_option maxRecDepth 100000 in
theorem wm_93 : Cond.instanceMethod yX3_init ∈ gt := in_gt 93 (by decide +kernel) (by decide +kernel)
set_option maxRecDepth 100000 in
theorem wm_229 : Cond.instanceMethod yX4_init ∈ gt := in_gt 229 (by decide +kernel) (by decide +kernel)
set_option maxRecDepth 100000 in
theorem wm_110 : Cond.instanceMethod yX5_init ∈ gt := in_gt 110 (by decide +kernel) (by decide +kernel)
set_option maxRecDepth 100000 in
theorem wm_85 : Cond.instanceMethod yX6_init ∈ gt := in_gt 85 (by decide +kernel) (by decide +kernel)
set_option maxRecDepth 100000 in
theorem wm_845 : Cond.instanceMethod yX7_init ∈ gt := in_gt 845 (by decide +kernel) (by decide +kernel)
set_option maxRecDepth 100000 in
theorem wm_257 : Cond.code yX0_init cX0_init 1 none ∈ gt := in_gt 257 (by decide +kernel) (by decide +kernel)
set_option maxRecDepth 100000 in
theorem wm_136 : Cond.code yX1_init cX1_init 1 none ∈ gt := in_gt 136 (by decide +kernel) (by decide +kernel)
set_option maxRecDepth 100000 in
theorem wm_213 : Cond.code yX2_init cX2_init 1 none ∈ gt := in_gt 213 (by decide +kernel) (by decide +kernel)
set_option maxRecDepth 100000 in
theorem wm_94 : Cond.code yX3_init cX3_init 2 none ∈ gt := in_gt 94 (by decide +kernel) (by decide +kernel)
set_option maxRecDepth 100000 in
theorem wm_230 : Cond.code yX4_init cX4_init 1 none ∈ gt := in_gt 230 (by decide +kernel) (by decide +kernel)
set_option maxRecDepth 100000 in
theorem wm_111 : Cond.code yX5_init cX5_init 1 none ∈ gt := in_gt 111 (by decide +kernel) (by decide +kernel)
set_option maxRecDepth 100000 in
theorem wm_86 : Cond.code yX6_init cX6_init 1 none ∈ gt := in_gt 86 (by decide +kernel) (by decide +kernel)
set_option maxRecDepth 100000 in
theorem wm_846 : Cond.code yX7_init cX7_init 2 none ∈ gt := in_gt 846 (by decide +kernel) (by decide +kernel)
theorem m1_s (i : Nat) : upd (m1 i) i (-1) = m1 (i + 1) := by
  funext j
  unfold upd m1
  by_cases h : j = i
  · rw [if_pos h, if_pos (by omega)]
  · rw [if_neg h]
    by_cases h2 : j < i
    · rw [if_pos h2, if_pos (by omega)]
    · rw [if_neg h2, if_neg (by omega)]
theorem m1_0 : m1 0 = fun _ => 0 := by
  funext j
  unfold m1
  rw [if_neg (by omega)]
theorem dv_0 : ∀ j, j < 2 → defaultValue (tyX0 j) = vp_V [.null, .int 0] j := fun j hj => by
  rcases (show j = 0 ∨ j = 1 by omega) with rfl | rfl <;> rfl
theorem dv_1 : ∀ j, j < 14 → defaultValue (tyX1 j) = vp_V [.int 0, .int 0, .int 0, .int 0, .int 0, .int 0, .int 0, .int 0, .null, .null, .null, .null, .null, .null] j := fun j hj => by
  rcases (show j = 0 ∨ j = 1 ∨ j = 2 ∨ j = 3 ∨ j = 4 ∨ j = 5 ∨ j = 6 ∨ j = 7 ∨ j = 8 ∨ j = 9 ∨ j = 10 ∨ j = 11 ∨ j = 12 ∨ j = 13 by omega) with rfl | rfl | rfl | rfl | rfl | rfl | rfl | rfl | rfl | rfl | rfl | rfl | rfl | rfl <;> rfl
theorem dv_2 : ∀ j, j < 3 → defaultValue (tyX2 j) = vp_V [.null, .int 0, .int 0] j := fun j hj => by
  rcases (show j = 0 ∨ j = 1 ∨ j = 2 by omega) with rfl | rfl | rfl <;> rfl
theorem dv_3 : ∀ j, j < 3 → defaultValue (tyX3 j) = vp_V [.null, .null, .null] j := fun j hj => by
  rcases (show j = 0 ∨ j = 1 ∨ j = 2 by omega) with rfl | rfl | rfl <;> rfl
theorem dv_4 : ∀ j, j < 5 → defaultValue (tyX4 j) = vp_V [.null, .int 0, .int 0, .long 0, .long 0] j := fun j hj => by
  rcases (show j = 0 ∨ j = 1 ∨ j = 2 ∨ j = 3 ∨ j = 4 by omega) with rfl | rfl | rfl | rfl | rfl <;> rfl
theorem dv_5 : ∀ j, j < 5 → defaultValue (tyX5 j) = vp_V [.null, .int 0, .int 0, .int 0, .int 0] j := fun j hj => by
  rcases (show j = 0 ∨ j = 1 ∨ j = 2 ∨ j = 3 ∨ j = 4 by omega) with rfl | rfl | rfl | rfl | rfl <;> rfl
theorem dv_6 : ∀ j, j < 10 → defaultValue (tyX6 j) = vp_V [.null, .null, .null, .null, .null, .null, .null, .null, .int 0, .int 0] j := fun j hj => by
  rcases (show j = 0 ∨ j = 1 ∨ j = 2 ∨ j = 3 ∨ j = 4 ∨ j = 5 ∨ j = 6 ∨ j = 7 ∨ j = 8 ∨ j = 9 by omega) with rfl | rfl | rfl | rfl | rfl | rfl | rfl | rfl | rfl | rfl <;> rfl
theorem dv_7 : ∀ j, j < 23 → defaultValue (tyX7 j) = vp_V [.null, .null, .null, .int 0, .int 0, .null, .null, .null, .int 0, .int 0, .int 0, .int 0, .int 0, .int 0, .int 0, .null, .null, .int 0, .null, .null, .null, .null, .int 0] j := fun j hj => by
  rcases (show j = 0 ∨ j = 1 ∨ j = 2 ∨ j = 3 ∨ j = 4 ∨ j = 5 ∨ j = 6 ∨ j = 7 ∨ j = 8 ∨ j = 9 ∨ j = 10 ∨ j = 11 ∨ j = 12 ∨ j = 13 ∨ j = 14 ∨ j = 15 ∨ j = 16 ∨ j = 17 ∨ j = 18 ∨ j = 19 ∨ j = 20 ∨ j = 21 ∨ j = 22 by omega) with rfl | rfl | rfl | rfl | rfl | rfl | rfl | rfl | rfl | rfl | rfl | rfl | rfl | rfl | rfl | rfl | rfl | rfl | rfl | rfl | rfl | rfl | rfl <;> rfl
set_option maxRecDepth 100000 in
theorem wm_258 : Cond.methodLink RX0 3 Lib.objectInit ∈ gt := in_gt 258 (by decide +kernel) (by decide +kernel)
set_option maxRecDepth 100000 in
theorem wm_259 : Cond.fieldLink RX0 11 "ColdGuest$Asker" "traced" "[I" ∈ gt := in_gt 259 (by decide +kernel) (by decide +kernel)
set_option maxRecDepth 100000 in
set_option maxHeartbeats 4000000 in
theorem k_X0 {E : EE} : Cn E yX0_init cX0_init 1 { frames := 1, cells := 1, slots := 16, locals := 12 } 0 [.null, .int 0] (wf0 E) 1 16 := by
  refine cn_of RX0 (by decide) rfl rfl (Nat.le_of_ble_eq_true rfl) (fun h0 sz X hin hret hlk hQ => ?_)
  show N E (Az h0 sz) { frames := 1, cells := 1, slots := 16, locals := 12 } X cX0_init RX0 1 0 [some (.ref h0)] [] [(h0, .inr (0, [.null, .int 0]))] 0 0
  refine n_aload (q := 1) dX0_init_0 rfl rfl ?_
  refine n_obj (q := 4) wm_258 wm_88 wm_89 dX0_init_1 (Nat.le_of_ble_eq_true rfl) (Nat.le_of_ble_eq_true rfl) rfl ?_
  refine n_aload (q := 5) dX0_init_4 rfl rfl ?_
  refine n_bipush (q := 7) dX0_init_5 cb_16 rfl ?_
  refine n_newi (NA := 16) (q := 9) wm_106 (by decide) (by decide) (by decide) (Nat.le_of_ble_eq_true rfl) (Nat.le_of_ble_eq_true rfl) dX0_init_7 rfl (fun a1 => ?_)
  refine n_putF (ci := 0) (ty := .array .int) (q := 12) inC0 tyX0 tyX0_ok nmX0 rfl 0 (by decide) wm_259 rfl hin rfl (by decide +kernel) rfl rfl (Nat.le_of_ble_eq_true rfl) dX0_init_9 rfl ?_
  exact n_vret hret hlk hQ (fun k => if k = 1 then a1 else h0) rfl rfl dX0_init_12
set_option maxRecDepth 100000 in
theorem wm_137 : Cond.methodLink RX1 5 Lib.objectInit ∈ gt := in_gt 137 (by decide +kernel) (by decide +kernel)
set_option maxRecDepth 100000 in
theorem wm_160 : Cond.fieldLink RX1 11 "ColdGuest$House" "oneSide" "[I" ∈ gt := in_gt 160 (by decide +kernel) (by decide +kernel)
set_option maxRecDepth 100000 in
theorem wm_162 : Cond.fieldLink RX1 15 "ColdGuest$House" "otherSide" "[I" ∈ gt := in_gt 162 (by decide +kernel) (by decide +kernel)
set_option maxRecDepth 100000 in
theorem wm_164 : Cond.fieldLink RX1 18 "ColdGuest$House" "kinds" "[I" ∈ gt := in_gt 164 (by decide +kernel) (by decide +kernel)
set_option maxRecDepth 100000 in
theorem wm_168 : Cond.fieldLink RX1 21 "ColdGuest$House" "places" "[I" ∈ gt := in_gt 168 (by decide +kernel) (by decide +kernel)
set_option maxRecDepth 100000 in
theorem wm_173 : Cond.fieldLink RX1 24 "ColdGuest$House" "forces" "[I" ∈ gt := in_gt 173 (by decide +kernel) (by decide +kernel)
set_option maxRecDepth 100000 in
theorem wm_176 : Cond.fieldLink RX1 27 "ColdGuest$House" "cold" "[I" ∈ gt := in_gt 176 (by decide +kernel) (by decide +kernel)
set_option maxRecDepth 100000 in
set_option maxHeartbeats 4000000 in
theorem k_X1 {E : EE} : Cn E yX1_init cX1_init 1 { frames := 1, cells := 6, slots := 37, locals := 12 } 1 [.int 0, .int 0, .int 0, .int 0, .int 0, .int 0, .int 0, .int 0, .null, .null, .null, .null, .null, .null] (wf1 E) 6 37 := by
  refine cn_of RX1 (by decide) rfl rfl (Nat.le_of_ble_eq_true rfl) (fun h0 sz X hin hret hlk hQ => ?_)
  show N E (Az h0 sz) { frames := 1, cells := 6, slots := 37, locals := 12 } X cX1_init RX1 1 0 [some (.ref h0)] [] [(h0, .inr (1, [.int 0, .int 0, .int 0, .int 0, .int 0, .int 0, .int 0, .int 0, .null, .null, .null, .null, .null, .null]))] 0 0
  refine n_aload (q := 1) dX1_init_0 rfl rfl ?_
  refine n_obj (q := 4) wm_137 wm_88 wm_89 dX1_init_1 (Nat.le_of_ble_eq_true rfl) (Nat.le_of_ble_eq_true rfl) rfl ?_
  refine n_aload (q := 5) dX1_init_4 rfl rfl ?_
  refine n_bipush (q := 7) dX1_init_5 cb_8 rfl ?_
  refine n_newi (NA := 8) (q := 9) wm_106 (by decide) (by decide) (by decide) (Nat.le_of_ble_eq_true rfl) (Nat.le_of_ble_eq_true rfl) dX1_init_7 rfl (fun a1 => ?_)
  refine n_putF (ci := 1) (ty := .array .int) (q := 12) inC1 tyX1 tyX1_ok nmX1 rfl 8 (by decide) wm_160 rfl hin rfl (by decide +kernel) rfl rfl (Nat.le_of_ble_eq_true rfl) dX1_init_9 rfl ?_
  refine n_aload (q := 13) dX1_init_12 rfl rfl ?_
  refine n_bipush (q := 15) dX1_init_13 cb_8 rfl ?_
  refine n_newi (NA := 8) (q := 17) wm_106 (by decide) (by decide) (by decide) (Nat.le_of_ble_eq_true rfl) (Nat.le_of_ble_eq_true rfl) dX1_init_15 rfl (fun a2 => ?_)
  refine n_putF (ci := 1) (ty := .array .int) (q := 20) inC1 tyX1 tyX1_ok nmX1 rfl 9 (by decide) wm_162 rfl hin rfl (by decide +kernel) rfl rfl (Nat.le_of_ble_eq_true rfl) dX1_init_17 rfl ?_
  refine n_aload (q := 21) dX1_init_20 rfl rfl ?_
  refine n_iconst (q := 22) dX1_init_21 ci_5 rfl ?_
  refine n_newi (NA := 5) (q := 24) wm_106 (by decide) (by decide) (by decide) (Nat.le_of_ble_eq_true rfl) (Nat.le_of_ble_eq_true rfl) dX1_init_22 rfl (fun a3 => ?_)
  refine n_putF (ci := 1) (ty := .array .int) (q := 27) inC1 tyX1 tyX1_ok nmX1 rfl 10 (by decide) wm_164 rfl hin rfl (by decide +kernel) rfl rfl (Nat.le_of_ble_eq_true rfl) dX1_init_24 rfl ?_
  refine n_aload (q := 28) dX1_init_27 rfl rfl ?_
  refine n_iconst (q := 29) dX1_init_28 ci_5 rfl ?_
  refine n_newi (NA := 5) (q := 31) wm_106 (by decide) (by decide) (by decide) (Nat.le_of_ble_eq_true rfl) (Nat.le_of_ble_eq_true rfl) dX1_init_29 rfl (fun a4 => ?_)
  refine n_putF (ci := 1) (ty := .array .int) (q := 34) inC1 tyX1 tyX1_ok nmX1 rfl 11 (by decide) wm_168 rfl hin rfl (by decide +kernel) rfl rfl (Nat.le_of_ble_eq_true rfl) dX1_init_31 rfl ?_
  refine n_aload (q := 35) dX1_init_34 rfl rfl ?_
  refine n_iconst (q := 36) dX1_init_35 ci_5 rfl ?_
  refine n_newi (NA := 5) (q := 38) wm_106 (by decide) (by decide) (by decide) (Nat.le_of_ble_eq_true rfl) (Nat.le_of_ble_eq_true rfl) dX1_init_36 rfl (fun a5 => ?_)
  refine n_putF (ci := 1) (ty := .array .int) (q := 41) inC1 tyX1 tyX1_ok nmX1 rfl 12 (by decide) wm_173 rfl hin rfl (by decide +kernel) rfl rfl (Nat.le_of_ble_eq_true rfl) dX1_init_38 rfl ?_
  refine n_aload (q := 42) dX1_init_41 rfl rfl ?_
  refine n_bipush (q := 44) dX1_init_42 cb_6 rfl ?_
  refine n_newi (NA := 6) (q := 46) wm_106 (by decide) (by decide) (by decide) (Nat.le_of_ble_eq_true rfl) (Nat.le_of_ble_eq_true rfl) dX1_init_44 rfl (fun a6 => ?_)
  refine n_putF (ci := 1) (ty := .array .int) (q := 49) inC1 tyX1 tyX1_ok nmX1 rfl 13 (by decide) wm_176 rfl hin rfl (by decide +kernel) rfl rfl (Nat.le_of_ble_eq_true rfl) dX1_init_46 rfl ?_
  exact n_vret hret hlk hQ (fun k => if k = 1 then a1 else if k = 2 then a2 else if k = 3 then a3 else if k = 4 then a4 else if k = 5 then a5 else if k = 6 then a6 else h0) rfl rfl dX1_init_49
set_option maxRecDepth 100000 in
theorem wm_214 : Cond.methodLink RX2 5 Lib.objectInit ∈ gt := in_gt 214 (by decide +kernel) (by decide +kernel)
set_option maxRecDepth 100000 in
theorem wm_215 : Cond.fieldLink RX2 11 "ColdGuest$Past" "was" "[I" ∈ gt := in_gt 215 (by decide +kernel) (by decide +kernel)
set_option maxRecDepth 100000 in
set_option maxHeartbeats 4000000 in
theorem k_X2 {E : EE} : Cn E yX2_init cX2_init 1 { frames := 1, cells := 1, slots := 312, locals := 12 } 2 [.null, .int 0, .int 0] (wf2 E) 1 312 := by
  refine cn_of RX2 (by decide) rfl rfl (Nat.le_of_ble_eq_true rfl) (fun h0 sz X hin hret hlk hQ => ?_)
  show N E (Az h0 sz) { frames := 1, cells := 1, slots := 312, locals := 12 } X cX2_init RX2 1 0 [some (.ref h0)] [] [(h0, .inr (2, [.null, .int 0, .int 0]))] 0 0
  refine n_aload (q := 1) dX2_init_0 rfl rfl ?_
  refine n_obj (q := 4) wm_214 wm_88 wm_89 dX2_init_1 (Nat.le_of_ble_eq_true rfl) (Nat.le_of_ble_eq_true rfl) rfl ?_
  refine n_aload (q := 5) dX2_init_4 rfl rfl ?_
  refine n_sipush (q := 8) dX2_init_5 cs_312 rfl ?_
  refine n_newi (NA := 312) (q := 10) wm_106 (by decide) (by decide) (by decide) (Nat.le_of_ble_eq_true rfl) (Nat.le_of_ble_eq_true rfl) dX2_init_8 rfl (fun a1 => ?_)
  refine n_putF (ci := 2) (ty := .array .int) (q := 13) inC2 tyX2 tyX2_ok nmX2 rfl 0 (by decide) wm_215 rfl hin rfl (by decide +kernel) rfl rfl (Nat.le_of_ble_eq_true rfl) dX2_init_10 rfl ?_
  exact n_vret hret hlk hQ (fun k => if k = 1 then a1 else h0) rfl rfl dX2_init_13
set_option maxRecDepth 100000 in
theorem wm_95 : Cond.methodLink RX3 1 Lib.objectInit ∈ gt := in_gt 95 (by decide +kernel) (by decide +kernel)
set_option maxRecDepth 100000 in
theorem wm_96 : Cond.fieldLink RX3 9 "ColdGuest$Rows" "items" "[I" ∈ gt := in_gt 96 (by decide +kernel) (by decide +kernel)
set_option maxRecDepth 100000 in
theorem wm_97 : Cond.fieldLink RX3 13 "ColdGuest$Rows" "lanes" "[I" ∈ gt := in_gt 97 (by decide +kernel) (by decide +kernel)
set_option maxRecDepth 100000 in
theorem wm_98 : Cond.fieldLink RX3 16 "ColdGuest$Rows" "sizes" "[I" ∈ gt := in_gt 98 (by decide +kernel) (by decide +kernel)
set_option maxRecDepth 100000 in
set_option maxHeartbeats 4000000 in
theorem k_X3 {E : EE} : Cn E yX3_init cX3_init 2 { frames := 1, cells := 3, slots := 336, locals := 12 } 3 [.null, .null, .null] (wf3 E) 3 336 := by
  refine cn_of RX3 (by decide) rfl rfl (Nat.le_of_ble_eq_true rfl) (fun h0 sz X hin hret hlk hQ => ?_)
  show N E (Az h0 sz) { frames := 1, cells := 3, slots := 336, locals := 12 } X cX3_init RX3 2 0 [some (.ref h0), none] [] [(h0, .inr (3, [.null, .null, .null]))] 0 0
  refine n_aload (q := 1) dX3_init_0 rfl rfl ?_
  refine n_obj (q := 4) wm_95 wm_88 wm_89 dX3_init_1 (Nat.le_of_ble_eq_true rfl) (Nat.le_of_ble_eq_true rfl) rfl ?_
  refine n_aload (q := 5) dX3_init_4 rfl rfl ?_
  refine n_sipush (q := 8) dX3_init_5 cs_320 rfl ?_
  refine n_newi (NA := 320) (q := 10) wm_106 (by decide) (by decide) (by decide) (Nat.le_of_ble_eq_true rfl) (Nat.le_of_ble_eq_true rfl) dX3_init_8 rfl (fun a1 => ?_)
  refine n_putF (ci := 3) (ty := .array .int) (q := 13) inC3 tyX3 tyX3_ok nmX3 rfl 0 (by decide) wm_96 rfl hin rfl (by decide +kernel) rfl rfl (Nat.le_of_ble_eq_true rfl) dX3_init_10 rfl ?_
  refine n_aload (q := 14) dX3_init_13 rfl rfl ?_
  refine n_bipush (q := 16) dX3_init_14 cb_8 rfl ?_
  refine n_newi (NA := 8) (q := 18) wm_106 (by decide) (by decide) (by decide) (Nat.le_of_ble_eq_true rfl) (Nat.le_of_ble_eq_true rfl) dX3_init_16 rfl (fun a2 => ?_)
  refine n_putF (ci := 3) (ty := .array .int) (q := 21) inC3 tyX3 tyX3_ok nmX3 rfl 1 (by decide) wm_97 rfl hin rfl (by decide +kernel) rfl rfl (Nat.le_of_ble_eq_true rfl) dX3_init_18 rfl ?_
  refine n_aload (q := 22) dX3_init_21 rfl rfl ?_
  refine n_bipush (q := 24) dX3_init_22 cb_8 rfl ?_
  refine n_newi (NA := 8) (q := 26) wm_106 (by decide) (by decide) (by decide) (Nat.le_of_ble_eq_true rfl) (Nat.le_of_ble_eq_true rfl) dX3_init_24 rfl (fun a3 => ?_)
  refine n_putF (ci := 3) (ty := .array .int) (q := 29) inC3 tyX3 tyX3_ok nmX3 rfl 2 (by decide) wm_98 rfl hin rfl (by decide +kernel) rfl rfl (Nat.le_of_ble_eq_true rfl) dX3_init_26 rfl ?_
  refine n_iconst (q := 30) dX3_init_29 ci_0 rfl ?_
  refine n_istore (j := 1) (q := 31) dX3_init_30 rfl (by decide) rfl rfl ?_
  refine n_eqw (ls := [some (.ref h0), some (.int (nI 0))]) (ws := [(h0, .inr (3, [.ref a1, .ref a2, .ref a3])), (a1, .inl (E.2.2.2.1, 320, .inl (fun _ => 0))), (a2, .inl (E.2.2.2.1, 8, .inl (fun _ => 0))), (a3, .inl (E.2.2.2.1, 8, .inl (m1 0)))]) ?_ (by simp [lsub, nI_0]) rfl
  refine n_for (I := fun i => [some (.ref h0), some (.int (nI i))]) (S := fun i => [(h0, .inr (3, [.ref a1, .ref a2, .ref a3])), (a1, .inl (E.2.2.2.1, 320, .inl (fun _ => 0))), (a2, .inl (E.2.2.2.1, 8, .inl (fun _ => 0))), (a3, .inl (E.2.2.2.1, 8, .inl (m1 i)))]) 0 8 (by decide) (fun i i0 i1 kk => ?_) ?_
  · refine n_iload (q := 32) dX3_init_31 rfl rfl ?_
    refine n_bipush (q := 34) dX3_init_32 cb_8 rfl ?_
    refine n_icmp_ge (t := 50) (q := 37) dX3_init_34 (by decide) rfl (fun c1 => absurd c1 (lp_in (N := 8) rfl (by decide) i1)) (fun c1 => ?_)
    refine n_aload (q := 38) dX3_init_37 rfl rfl ?_
    refine n_get (ci := 3) (q := 41) inC3 rfl 2 (by decide) wm_98 rfl dX3_init_38 rfl ?_
    refine n_iload (q := 42) dX3_init_41 rfl rfl ?_
    refine n_iconst (q := 43) dX3_init_42 ci_m1 rfl ?_
    refine n_iast (q := 44) (Nn := 8) (f := m1 i) (ws' := [(h0, .inr (3, [.ref a1, .ref a2, .ref a3])), (a1, .inl (E.2.2.2.1, 320, .inl (fun _ => 0))), (a2, .inl (E.2.2.2.1, 8, .inl (fun _ => 0))), (a3, .inl (E.2.2.2.1, 8, .inl (m1 (i + 1))))]) 3 rfl (vp_in_nI i1 (by decide)) (by rw [nI_clamp (by omega), m1_s]; rfl) dX3_init_43 rfl ?_
    refine n_iinc (q := 47) dX3_init_44 rfl ci_1 (by decide) rfl rfl ?_
    refine n_goto (t := 31) dX3_init_47 (by decide) ?_
    exact n_eqw kk (by simp [lsub, nI_succ]) rfl
  · refine n_iload (q := 32) dX3_init_31 rfl rfl ?_
    refine n_bipush (q := 34) dX3_init_32 cb_8 rfl ?_
    refine n_icmp_ge (t := 50) (q := 37) dX3_init_34 (by decide) rfl (fun c1 => ?_) (fun c1 => absurd (lp_out (N := 8) rfl) c1)
    exact n_vret hret hlk hQ (fun k => if k = 1 then a1 else if k = 2 then a2 else if k = 3 then a3 else h0) rfl rfl dX3_init_50
set_option maxRecDepth 100000 in
theorem wm_112 : Cond.methodLink RX5 1 Lib.objectInit ∈ gt := in_gt 112 (by decide +kernel) (by decide +kernel)
set_option maxRecDepth 100000 in
theorem wm_113 : Cond.fieldLink RX5 9 "ColdGuest$Tape" "bytes" "[I" ∈ gt := in_gt 113 (by decide +kernel) (by decide +kernel)
set_option maxRecDepth 100000 in
set_option maxHeartbeats 4000000 in
theorem k_X5 {E : EE} : Cn E yX5_init cX5_init 1 { frames := 1, cells := 1, slots := 120, locals := 12 } 5 [.null, .int 0, .int 0, .int 0, .int 0] (wf5 E) 1 120 := by
  refine cn_of RX5 (by decide) rfl rfl (Nat.le_of_ble_eq_true rfl) (fun h0 sz X hin hret hlk hQ => ?_)
  show N E (Az h0 sz) { frames := 1, cells := 1, slots := 120, locals := 12 } X cX5_init RX5 1 0 [some (.ref h0)] [] [(h0, .inr (5, [.null, .int 0, .int 0, .int 0, .int 0]))] 0 0
  refine n_aload (q := 1) dX5_init_0 rfl rfl ?_
  refine n_obj (q := 4) wm_112 wm_88 wm_89 dX5_init_1 (Nat.le_of_ble_eq_true rfl) (Nat.le_of_ble_eq_true rfl) rfl ?_
  refine n_aload (q := 5) dX5_init_4 rfl rfl ?_
  refine n_bipush (q := 7) dX5_init_5 cb_120 rfl ?_
  refine n_newi (NA := 120) (q := 9) wm_106 (by decide) (by decide) (by decide) (Nat.le_of_ble_eq_true rfl) (Nat.le_of_ble_eq_true rfl) dX5_init_7 rfl (fun a1 => ?_)
  refine n_putF (ci := 5) (ty := .array .int) (q := 12) inC5 tyX5 tyX5_ok nmX5 rfl 0 (by decide) wm_113 rfl hin rfl (by decide +kernel) rfl rfl (Nat.le_of_ble_eq_true rfl) dX5_init_9 rfl ?_
  exact n_vret hret hlk hQ (fun k => if k = 1 then a1 else h0) rfl rfl dX5_init_12
set_option maxRecDepth 100000 in
theorem wm_231 : Cond.methodLink RX4 3 Lib.objectInit ∈ gt := in_gt 231 (by decide +kernel) (by decide +kernel)
set_option maxRecDepth 100000 in
theorem wm_232 : Cond.classLink RX4 9 RX1 ∈ gt := in_gt 232 (by decide +kernel) (by decide +kernel)
set_option maxRecDepth 100000 in
theorem wm_234 : Cond.fieldLink RX4 12 "ColdGuest$Seer" "trial" "LColdGuest$House;" ∈ gt := in_gt 234 (by decide +kernel) (by decide +kernel)
set_option maxRecDepth 100000 in
set_option maxHeartbeats 4000000 in
theorem k_X4 {E : EE} : Cn E yX4_init cX4_init 1 { frames := 2, cells := 7, slots := 51, locals := 32 } 4 [.null, .int 0, .int 0, .long 0, .long 0] (wf4 E) 7 51 := by
  refine cn_of RX4 (by decide) rfl rfl (Nat.le_of_ble_eq_true rfl) (fun h0 sz X hin hret hlk hQ => ?_)
  show N E (Az h0 sz) { frames := 2, cells := 7, slots := 51, locals := 32 } X cX4_init RX4 1 0 [some (.ref h0)] [] [(h0, .inr (4, [.null, .int 0, .int 0, .long 0, .long 0]))] 0 0
  refine n_aload (q := 1) dX4_init_0 rfl rfl ?_
  refine n_obj (q := 4) wm_231 wm_88 wm_89 dX4_init_1 (Nat.le_of_ble_eq_true rfl) (Nat.le_of_ble_eq_true rfl) rfl ?_
  refine n_aload (q := 5) dX4_init_4 rfl rfl ?_
  refine n_new (ci := 1) (fs := [.int 0, .int 0, .int 0, .int 0, .int 0, .int 0, .int 0, .int 0, .null, .null, .null, .null, .null, .null]) (q := 8) inC1 tyX1 tyX1_ok wm_232 wm_133 wm_74 rfl dv_1 (Nat.le_of_ble_eq_true rfl) (Nat.le_of_ble_eq_true rfl) dX4_init_5 rfl (fun a1 => ?_)
  refine n_dup (q := 9) dX4_init_8 rfl rfl ?_
  refine n_callN (q := 12) (k_X1 (E := E)) (fun U h => h.2.2.2.2.1) wm_135 wm_74 wm_136 rfl ⟨by decide, by decide, by decide +kernel⟩ rfl rfl (Nat.le_of_ble_eq_true rfl) (Nat.le_of_ble_eq_true rfl) (Nat.le_of_ble_eq_true rfl) ⟨(Nat.le_of_ble_eq_true rfl), (Nat.le_of_ble_eq_true rfl)⟩ dX4_init_9 rfl (fun u1 hu_u1 => ?_)
  subst hu_u1
  refine n_putF (ci := 4) (ty := .object "ColdGuest$House") (q := 15) inC4 tyX4 tyX4_ok nmX4 rfl 0 (by decide) wm_234 rfl hin rfl (by decide +kernel) rfl rfl (Nat.le_of_ble_eq_true rfl) dX4_init_12 rfl ?_
  exact n_vret hret hlk hQ (fun k => if k = 0 then h0 else u1 (k - 1)) rfl rfl dX4_init_15
set_option maxRecDepth 100000 in
theorem wm_87 : Cond.methodLink RX6 1 Lib.objectInit ∈ gt := in_gt 87 (by decide +kernel) (by decide +kernel)
set_option maxRecDepth 100000 in
theorem wm_90 : Cond.classLink RX6 7 RX3 ∈ gt := in_gt 90 (by decide +kernel) (by decide +kernel)
set_option maxRecDepth 100000 in
theorem wm_92 : Cond.methodLink RX6 9 yX3_init ∈ gt := in_gt 92 (by decide +kernel) (by decide +kernel)
set_option maxRecDepth 100000 in
theorem wm_266 : Cond.fieldLink RX6 10 "ColdGuest" "rows" "LColdGuest$Rows;" ∈ gt := in_gt 266 (by decide +kernel) (by decide +kernel)
set_option maxRecDepth 100000 in
theorem wm_107 : Cond.classLink RX6 16 RX5 ∈ gt := in_gt 107 (by decide +kernel) (by decide +kernel)
set_option maxRecDepth 100000 in
theorem wm_267 : Cond.fieldLink RX6 19 "ColdGuest" "tape" "LColdGuest$Tape;" ∈ gt := in_gt 267 (by decide +kernel) (by decide +kernel)
set_option maxRecDepth 100000 in
theorem wm_132 : Cond.classLink RX6 23 RX1 ∈ gt := in_gt 132 (by decide +kernel) (by decide +kernel)
set_option maxRecDepth 100000 in
theorem wm_268 : Cond.fieldLink RX6 26 "ColdGuest" "now" "LColdGuest$House;" ∈ gt := in_gt 268 (by decide +kernel) (by decide +kernel)
set_option maxRecDepth 100000 in
theorem wm_209 : Cond.classLink RX6 30 RX2 ∈ gt := in_gt 209 (by decide +kernel) (by decide +kernel)
set_option maxRecDepth 100000 in
theorem wm_269 : Cond.fieldLink RX6 33 "ColdGuest" "past" "LColdGuest$Past;" ∈ gt := in_gt 269 (by decide +kernel) (by decide +kernel)
set_option maxRecDepth 100000 in
theorem wm_226 : Cond.classLink RX6 37 RX4 ∈ gt := in_gt 226 (by decide +kernel) (by decide +kernel)
set_option maxRecDepth 100000 in
theorem wm_270 : Cond.fieldLink RX6 40 "ColdGuest" "seer" "LColdGuest$Seer;" ∈ gt := in_gt 270 (by decide +kernel) (by decide +kernel)
set_option maxRecDepth 100000 in
theorem wm_253 : Cond.classLink RX6 44 RX0 ∈ gt := in_gt 253 (by decide +kernel) (by decide +kernel)
set_option maxRecDepth 100000 in
theorem wm_271 : Cond.fieldLink RX6 47 "ColdGuest" "asker" "LColdGuest$Asker;" ∈ gt := in_gt 271 (by decide +kernel) (by decide +kernel)
set_option maxRecDepth 100000 in
theorem wm_272 : Cond.fieldLink RX6 51 "ColdGuest" "firstImage" "LColdGuest$House;" ∈ gt := in_gt 272 (by decide +kernel) (by decide +kernel)
set_option maxRecDepth 100000 in
theorem wm_273 : Cond.fieldLink RX6 54 "ColdGuest" "secondImage" "LColdGuest$House;" ∈ gt := in_gt 273 (by decide +kernel) (by decide +kernel)
set_option maxRecDepth 100000 in
set_option maxHeartbeats 4000000 in
theorem k_X6 {E : EE} : Cn E yX6_init cX6_init 1 { frames := 3, cells := 39, slots := 1006, locals := 52 } 6 [.null, .null, .null, .null, .null, .null, .null, .null, .int 0, .int 0] (wf6 E) 39 1006 := by
  refine cn_of RX6 (by decide) rfl rfl (Nat.le_of_ble_eq_true rfl) (fun h0 sz X hin hret hlk hQ => ?_)
  show N E (Az h0 sz) { frames := 3, cells := 39, slots := 1006, locals := 52 } X cX6_init RX6 1 0 [some (.ref h0)] [] [(h0, .inr (6, [.null, .null, .null, .null, .null, .null, .null, .null, .int 0, .int 0]))] 0 0
  refine n_aload (q := 1) dX6_init_0 rfl rfl ?_
  refine n_obj (q := 4) wm_87 wm_88 wm_89 dX6_init_1 (Nat.le_of_ble_eq_true rfl) (Nat.le_of_ble_eq_true rfl) rfl ?_
  refine n_aload (q := 5) dX6_init_4 rfl rfl ?_
  refine n_new (ci := 3) (fs := [.null, .null, .null]) (q := 8) inC3 tyX3 tyX3_ok wm_90 wm_91 wm_72 rfl dv_3 (Nat.le_of_ble_eq_true rfl) (Nat.le_of_ble_eq_true rfl) dX6_init_5 rfl (fun a1 => ?_)
  refine n_dup (q := 9) dX6_init_8 rfl rfl ?_
  refine n_callI (q := 12) (k_X3 (E := E)) wm_92 wm_93 wm_72 wm_94 rfl ⟨by decide, by decide, by decide +kernel⟩ rfl rfl (Nat.le_of_ble_eq_true rfl) (Nat.le_of_ble_eq_true rfl) (Nat.le_of_ble_eq_true rfl) ⟨(Nat.le_of_ble_eq_true rfl), (Nat.le_of_ble_eq_true rfl)⟩ dX6_init_9 rfl (fun u1 hu_u1 => ?_)
  subst hu_u1
  refine n_putF (ci := 6) (ty := .object "ColdGuest$Rows") (q := 15) inC6 tyX6 tyX6_ok nmX6 rfl 0 (by decide) wm_266 rfl hin rfl (by decide +kernel) rfl rfl (Nat.le_of_ble_eq_true rfl) dX6_init_12 rfl ?_
  refine n_aload (q := 16) dX6_init_15 rfl rfl ?_
  refine n_new (ci := 5) (fs := [.null, .int 0, .int 0, .int 0, .int 0]) (q := 19) inC5 tyX5 tyX5_ok wm_107 wm_108 wm_73 rfl dv_5 (Nat.le_of_ble_eq_true rfl) (Nat.le_of_ble_eq_true rfl) dX6_init_16 rfl (fun a2 => ?_)
  refine n_dup (q := 20) dX6_init_19 rfl rfl ?_
  refine n_callN (q := 23) (k_X5 (E := E)) (fun U h => h.1) wm_110 wm_73 wm_111 rfl ⟨by decide, by decide, by decide +kernel⟩ rfl rfl (Nat.le_of_ble_eq_true rfl) (Nat.le_of_ble_eq_true rfl) (Nat.le_of_ble_eq_true rfl) ⟨(Nat.le_of_ble_eq_true rfl), (Nat.le_of_ble_eq_true rfl)⟩ dX6_init_20 rfl (fun u2 hu_u2 => ?_)
  subst hu_u2
  refine n_putF (ci := 6) (ty := .object "ColdGuest$Tape") (q := 26) inC6 tyX6 tyX6_ok nmX6 rfl 1 (by decide) wm_267 rfl hin rfl (by decide +kernel) rfl rfl (Nat.le_of_ble_eq_true rfl) dX6_init_23 rfl ?_
  refine n_aload (q := 27) dX6_init_26 rfl rfl ?_
  refine n_new (ci := 1) (fs := [.int 0, .int 0, .int 0, .int 0, .int 0, .int 0, .int 0, .int 0, .null, .null, .null, .null, .null, .null]) (q := 30) inC1 tyX1 tyX1_ok wm_132 wm_133 wm_74 rfl dv_1 (Nat.le_of_ble_eq_true rfl) (Nat.le_of_ble_eq_true rfl) dX6_init_27 rfl (fun a3 => ?_)
  refine n_dup (q := 31) dX6_init_30 rfl rfl ?_
  refine n_callN (q := 34) (k_X1 (E := E)) (fun U h => h.2.1) wm_135 wm_74 wm_136 rfl ⟨by decide, by decide, by decide +kernel⟩ rfl rfl (Nat.le_of_ble_eq_true rfl) (Nat.le_of_ble_eq_true rfl) (Nat.le_of_ble_eq_true rfl) ⟨(Nat.le_of_ble_eq_true rfl), (Nat.le_of_ble_eq_true rfl)⟩ dX6_init_31 rfl (fun u3 hu_u3 => ?_)
  subst hu_u3
  refine n_putF (ci := 6) (ty := .object "ColdGuest$House") (q := 37) inC6 tyX6 tyX6_ok nmX6 rfl 2 (by decide) wm_268 rfl hin rfl (by decide +kernel) rfl rfl (Nat.le_of_ble_eq_true rfl) dX6_init_34 rfl ?_
  refine n_aload (q := 38) dX6_init_37 rfl rfl ?_
  refine n_new (ci := 2) (fs := [.null, .int 0, .int 0]) (q := 41) inC2 tyX2 tyX2_ok wm_209 wm_210 wm_75 rfl dv_2 (Nat.le_of_ble_eq_true rfl) (Nat.le_of_ble_eq_true rfl) dX6_init_38 rfl (fun a4 => ?_)
  refine n_dup (q := 42) dX6_init_41 rfl rfl ?_
  refine n_callN (q := 45) (k_X2 (E := E)) (fun U h => h.2.2.1) wm_212 wm_75 wm_213 rfl ⟨by decide, by decide, by decide +kernel⟩ rfl rfl (Nat.le_of_ble_eq_true rfl) (Nat.le_of_ble_eq_true rfl) (Nat.le_of_ble_eq_true rfl) ⟨(Nat.le_of_ble_eq_true rfl), (Nat.le_of_ble_eq_true rfl)⟩ dX6_init_42 rfl (fun u4 hu_u4 => ?_)
  subst hu_u4
  refine n_putF (ci := 6) (ty := .object "ColdGuest$Past") (q := 48) inC6 tyX6 tyX6_ok nmX6 rfl 3 (by decide) wm_269 rfl hin rfl (by decide +kernel) rfl rfl (Nat.le_of_ble_eq_true rfl) dX6_init_45 rfl ?_
  refine n_aload (q := 49) dX6_init_48 rfl rfl ?_
  refine n_new (ci := 4) (fs := [.null, .int 0, .int 0, .long 0, .long 0]) (q := 52) inC4 tyX4 tyX4_ok wm_226 wm_227 wm_76 rfl dv_4 (Nat.le_of_ble_eq_true rfl) (Nat.le_of_ble_eq_true rfl) dX6_init_49 rfl (fun a5 => ?_)
  refine n_dup (q := 53) dX6_init_52 rfl rfl ?_
  refine n_callN (q := 56) (k_X4 (E := E)) (fun U h => h.2.2.2.1) wm_229 wm_76 wm_230 rfl ⟨by decide, by decide, by decide +kernel⟩ rfl rfl (Nat.le_of_ble_eq_true rfl) (Nat.le_of_ble_eq_true rfl) (Nat.le_of_ble_eq_true rfl) ⟨(Nat.le_of_ble_eq_true rfl), (Nat.le_of_ble_eq_true rfl)⟩ dX6_init_53 rfl (fun u5 hu_u5 => ?_)
  subst hu_u5
  refine n_putF (ci := 6) (ty := .object "ColdGuest$Seer") (q := 59) inC6 tyX6 tyX6_ok nmX6 rfl 4 (by decide) wm_270 rfl hin rfl (by decide +kernel) rfl rfl (Nat.le_of_ble_eq_true rfl) dX6_init_56 rfl ?_
  refine n_aload (q := 60) dX6_init_59 rfl rfl ?_
  refine n_new (ci := 0) (fs := [.null, .int 0]) (q := 63) inC0 tyX0 tyX0_ok wm_253 wm_254 wm_77 rfl dv_0 (Nat.le_of_ble_eq_true rfl) (Nat.le_of_ble_eq_true rfl) dX6_init_60 rfl (fun a6 => ?_)
  refine n_dup (q := 64) dX6_init_63 rfl rfl ?_
  refine n_callN (q := 67) (k_X0 (E := E)) (fun U h => h.2.2.2.2.2) wm_256 wm_77 wm_257 rfl ⟨by decide, by decide, by decide +kernel⟩ rfl rfl (Nat.le_of_ble_eq_true rfl) (Nat.le_of_ble_eq_true rfl) (Nat.le_of_ble_eq_true rfl) ⟨(Nat.le_of_ble_eq_true rfl), (Nat.le_of_ble_eq_true rfl)⟩ dX6_init_64 rfl (fun u6 hu_u6 => ?_)
  subst hu_u6
  refine n_putF (ci := 6) (ty := .object "ColdGuest$Asker") (q := 70) inC6 tyX6 tyX6_ok nmX6 rfl 5 (by decide) wm_271 rfl hin rfl (by decide +kernel) rfl rfl (Nat.le_of_ble_eq_true rfl) dX6_init_67 rfl ?_
  refine n_aload (q := 71) dX6_init_70 rfl rfl ?_
  refine n_new (ci := 1) (fs := [.int 0, .int 0, .int 0, .int 0, .int 0, .int 0, .int 0, .int 0, .null, .null, .null, .null, .null, .null]) (q := 74) inC1 tyX1 tyX1_ok wm_132 wm_133 wm_74 rfl dv_1 (Nat.le_of_ble_eq_true rfl) (Nat.le_of_ble_eq_true rfl) dX6_init_71 rfl (fun a7 => ?_)
  refine n_dup (q := 75) dX6_init_74 rfl rfl ?_
  refine n_callN (q := 78) (k_X1 (E := E)) (fun U h => h.2.1) wm_135 wm_74 wm_136 rfl ⟨by decide, by decide, by decide +kernel⟩ rfl rfl (Nat.le_of_ble_eq_true rfl) (Nat.le_of_ble_eq_true rfl) (Nat.le_of_ble_eq_true rfl) ⟨(Nat.le_of_ble_eq_true rfl), (Nat.le_of_ble_eq_true rfl)⟩ dX6_init_75 rfl (fun u7 hu_u7 => ?_)
  subst hu_u7
  refine n_putF (ci := 6) (ty := .object "ColdGuest$House") (q := 81) inC6 tyX6 tyX6_ok nmX6 rfl 6 (by decide) wm_272 rfl hin rfl (by decide +kernel) rfl rfl (Nat.le_of_ble_eq_true rfl) dX6_init_78 rfl ?_
  refine n_aload (q := 82) dX6_init_81 rfl rfl ?_
  refine n_new (ci := 1) (fs := [.int 0, .int 0, .int 0, .int 0, .int 0, .int 0, .int 0, .int 0, .null, .null, .null, .null, .null, .null]) (q := 85) inC1 tyX1 tyX1_ok wm_132 wm_133 wm_74 rfl dv_1 (Nat.le_of_ble_eq_true rfl) (Nat.le_of_ble_eq_true rfl) dX6_init_82 rfl (fun a8 => ?_)
  refine n_dup (q := 86) dX6_init_85 rfl rfl ?_
  refine n_callN (q := 89) (k_X1 (E := E)) (fun U h => h.2.1) wm_135 wm_74 wm_136 rfl ⟨by decide, by decide, by decide +kernel⟩ rfl rfl (Nat.le_of_ble_eq_true rfl) (Nat.le_of_ble_eq_true rfl) (Nat.le_of_ble_eq_true rfl) ⟨(Nat.le_of_ble_eq_true rfl), (Nat.le_of_ble_eq_true rfl)⟩ dX6_init_86 rfl (fun u8 hu_u8 => ?_)
  subst hu_u8
  refine n_putF (ci := 6) (ty := .object "ColdGuest$House") (q := 92) inC6 tyX6 tyX6_ok nmX6 rfl 7 (by decide) wm_273 rfl hin rfl (by decide +kernel) rfl rfl (Nat.le_of_ble_eq_true rfl) dX6_init_89 rfl ?_
  exact n_vret hret hlk hQ (fun k => if k = 0 then h0 else if k < 5 then u1 (k - 1) else if k < 7 then u2 (k - 5) else if k < 14 then u3 (k - 7) else if k < 16 then u4 (k - 14) else if k < 24 then u5 (k - 16) else if k < 26 then u6 (k - 24) else if k < 33 then u7 (k - 26) else u8 (k - 33)) rfl rfl dX6_init_92
set_option maxRecDepth 100000 in
theorem wm_847 : Cond.methodLink RX7 1 Lib.objectInit ∈ gt := in_gt 847 (by decide +kernel) (by decide +kernel)
set_option maxRecDepth 100000 in
theorem wm_848 : Cond.fieldLink RX7 7 "ColdGuestModel" "lanes" "[I" ∈ gt := in_gt 848 (by decide +kernel) (by decide +kernel)
set_option maxRecDepth 100000 in
theorem wm_849 : Cond.fieldLink RX7 13 "ColdGuestModel" "sizes" "[I" ∈ gt := in_gt 849 (by decide +kernel) (by decide +kernel)
set_option maxRecDepth 100000 in
theorem wm_850 : Cond.fieldLink RX7 16 "ColdGuestModel" "items" "[I" ∈ gt := in_gt 850 (by decide +kernel) (by decide +kernel)
set_option maxRecDepth 100000 in
theorem wm_853 : Cond.fieldLink RX7 19 "ColdGuestModel" "st" "[I" ∈ gt := in_gt 853 (by decide +kernel) (by decide +kernel)
set_option maxRecDepth 100000 in
theorem wm_854 : Cond.fieldLink RX7 22 "ColdGuestModel" "moved" "[I" ∈ gt := in_gt 854 (by decide +kernel) (by decide +kernel)
set_option maxRecDepth 100000 in
theorem wm_855 : Cond.fieldLink RX7 25 "ColdGuestModel" "tape" "[I" ∈ gt := in_gt 855 (by decide +kernel) (by decide +kernel)
set_option maxRecDepth 100000 in
theorem wm_863 : Cond.fieldLink RX7 28 "ColdGuestModel" "read" "[I" ∈ gt := in_gt 863 (by decide +kernel) (by decide +kernel)
set_option maxRecDepth 100000 in
theorem wm_864 : Cond.fieldLink RX7 31 "ColdGuestModel" "acts" "[I" ∈ gt := in_gt 864 (by decide +kernel) (by decide +kernel)
set_option maxRecDepth 100000 in
theorem wm_866 : Cond.fieldLink RX7 34 "ColdGuestModel" "aside" "[I" ∈ gt := in_gt 866 (by decide +kernel) (by decide +kernel)
set_option maxRecDepth 100000 in
theorem wm_867 : Cond.fieldLink RX7 37 "ColdGuestModel" "isHeld" "[Z" ∈ gt := in_gt 867 (by decide +kernel) (by decide +kernel)
set_option maxRecDepth 100000 in
theorem wm_868 : Cond.fieldLink RX7 41 "ColdGuestModel" "kept" "[I" ∈ gt := in_gt 868 (by decide +kernel) (by decide +kernel)
set_option maxRecDepth 100000 in
theorem wm_869 : Cond.fieldLink RX7 44 "ColdGuestModel" "trace" "[I" ∈ gt := in_gt 869 (by decide +kernel) (by decide +kernel)
set_option maxRecDepth 100000 in
set_option maxHeartbeats 4000000 in
theorem k_X7 {E : EE} : Cn E yX7_init cX7_init 2 { frames := 1, cells := 12, slots := 2022, locals := 12 } 7 [.null, .null, .null, .int 0, .int 0, .null, .null, .null, .int 0, .int 0, .int 0, .int 0, .int 0, .int 0, .int 0, .null, .null, .int 0, .null, .null, .null, .null, .int 0] (wf7 E) 12 2022 := by
  refine cn_of RX7 (by decide) rfl rfl (Nat.le_of_ble_eq_true rfl) (fun h0 sz X hin hret hlk hQ => ?_)
  show N E (Az h0 sz) { frames := 1, cells := 12, slots := 2022, locals := 12 } X cX7_init RX7 2 0 [some (.ref h0), none] [] [(h0, .inr (7, [.null, .null, .null, .int 0, .int 0, .null, .null, .null, .int 0, .int 0, .int 0, .int 0, .int 0, .int 0, .int 0, .null, .null, .int 0, .null, .null, .null, .null, .int 0]))] 0 0
  refine n_aload (q := 1) dX7_init_0 rfl rfl ?_
  refine n_obj (q := 4) wm_847 wm_88 wm_89 dX7_init_1 (Nat.le_of_ble_eq_true rfl) (Nat.le_of_ble_eq_true rfl) rfl ?_
  refine n_aload (q := 5) dX7_init_4 rfl rfl ?_
  refine n_bipush (q := 7) dX7_init_5 cb_8 rfl ?_
  refine n_newi (NA := 8) (q := 9) wm_106 (by decide) (by decide) (by decide) (Nat.le_of_ble_eq_true rfl) (Nat.le_of_ble_eq_true rfl) dX7_init_7 rfl (fun a1 => ?_)
  refine n_putF (ci := 7) (ty := .array .int) (q := 12) inC7 tyX7 tyX7_ok nmX7 rfl 0 (by decide) wm_848 rfl hin rfl (by decide +kernel) rfl rfl (Nat.le_of_ble_eq_true rfl) dX7_init_9 rfl ?_
  refine n_aload (q := 13) dX7_init_12 rfl rfl ?_
  refine n_bipush (q := 15) dX7_init_13 cb_8 rfl ?_
  refine n_newi (NA := 8) (q := 17) wm_106 (by decide) (by decide) (by decide) (Nat.le_of_ble_eq_true rfl) (Nat.le_of_ble_eq_true rfl) dX7_init_15 rfl (fun a2 => ?_)
  refine n_putF (ci := 7) (ty := .array .int) (q := 20) inC7 tyX7 tyX7_ok nmX7 rfl 1 (by decide) wm_849 rfl hin rfl (by decide +kernel) rfl rfl (Nat.le_of_ble_eq_true rfl) dX7_init_17 rfl ?_
  refine n_aload (q := 21) dX7_init_20 rfl rfl ?_
  refine n_sipush (q := 24) dX7_init_21 cs_320 rfl ?_
  refine n_newi (NA := 320) (q := 26) wm_106 (by decide) (by decide) (by decide) (Nat.le_of_ble_eq_true rfl) (Nat.le_of_ble_eq_true rfl) dX7_init_24 rfl (fun a3 => ?_)
  refine n_putF (ci := 7) (ty := .array .int) (q := 29) inC7 tyX7 tyX7_ok nmX7 rfl 2 (by decide) wm_850 rfl hin rfl (by decide +kernel) rfl rfl (Nat.le_of_ble_eq_true rfl) dX7_init_26 rfl ?_
  refine n_aload (q := 30) dX7_init_29 rfl rfl ?_
  refine n_bipush (q := 32) dX7_init_30 cb_52 rfl ?_
  refine n_newi (NA := 52) (q := 34) wm_106 (by decide) (by decide) (by decide) (Nat.le_of_ble_eq_true rfl) (Nat.le_of_ble_eq_true rfl) dX7_init_32 rfl (fun a4 => ?_)
  refine n_putF (ci := 7) (ty := .array .int) (q := 37) inC7 tyX7 tyX7_ok nmX7 rfl 5 (by decide) wm_853 rfl hin rfl (by decide +kernel) rfl rfl (Nat.le_of_ble_eq_true rfl) dX7_init_34 rfl ?_
  refine n_aload (q := 38) dX7_init_37 rfl rfl ?_
  refine n_bipush (q := 40) dX7_init_38 cb_40 rfl ?_
  refine n_newi (NA := 40) (q := 42) wm_106 (by decide) (by decide) (by decide) (Nat.le_of_ble_eq_true rfl) (Nat.le_of_ble_eq_true rfl) dX7_init_40 rfl (fun a5 => ?_)
  refine n_putF (ci := 7) (ty := .array .int) (q := 45) inC7 tyX7 tyX7_ok nmX7 rfl 6 (by decide) wm_854 rfl hin rfl (by decide +kernel) rfl rfl (Nat.le_of_ble_eq_true rfl) dX7_init_42 rfl ?_
  refine n_aload (q := 46) dX7_init_45 rfl rfl ?_
  refine n_bipush (q := 48) dX7_init_46 cb_120 rfl ?_
  refine n_newi (NA := 120) (q := 50) wm_106 (by decide) (by decide) (by decide) (Nat.le_of_ble_eq_true rfl) (Nat.le_of_ble_eq_true rfl) dX7_init_48 rfl (fun a6 => ?_)
  refine n_putF (ci := 7) (ty := .array .int) (q := 53) inC7 tyX7 tyX7_ok nmX7 rfl 7 (by decide) wm_855 rfl hin rfl (by decide +kernel) rfl rfl (Nat.le_of_ble_eq_true rfl) dX7_init_50 rfl ?_
  refine n_aload (q := 54) dX7_init_53 rfl rfl ?_
  refine n_bipush (q := 56) dX7_init_54 cb_52 rfl ?_
  refine n_newi (NA := 52) (q := 58) wm_106 (by decide) (by decide) (by decide) (Nat.le_of_ble_eq_true rfl) (Nat.le_of_ble_eq_true rfl) dX7_init_56 rfl (fun a7 => ?_)
  refine n_putF (ci := 7) (ty := .array .int) (q := 61) inC7 tyX7 tyX7_ok nmX7 rfl 15 (by decide) wm_863 rfl hin rfl (by decide +kernel) rfl rfl (Nat.le_of_ble_eq_true rfl) dX7_init_58 rfl ?_
  refine n_aload (q := 62) dX7_init_61 rfl rfl ?_
  refine n_sipush (q := 65) dX7_init_62 cs_1248 rfl ?_
  refine n_newi (NA := 1248) (q := 67) wm_106 (by decide) (by decide) (by decide) (Nat.le_of_ble_eq_true rfl) (Nat.le_of_ble_eq_true rfl) dX7_init_65 rfl (fun a8 => ?_)
  refine n_putF (ci := 7) (ty := .array .int) (q := 70) inC7 tyX7 tyX7_ok nmX7 rfl 16 (by decide) wm_864 rfl hin rfl (by decide +kernel) rfl rfl (Nat.le_of_ble_eq_true rfl) dX7_init_67 rfl ?_
  refine n_aload (q := 71) dX7_init_70 rfl rfl ?_
  refine n_bipush (q := 73) dX7_init_71 cb_52 rfl ?_
  refine n_newi (NA := 52) (q := 75) wm_106 (by decide) (by decide) (by decide) (Nat.le_of_ble_eq_true rfl) (Nat.le_of_ble_eq_true rfl) dX7_init_73 rfl (fun a9 => ?_)
  refine n_putF (ci := 7) (ty := .array .int) (q := 78) inC7 tyX7 tyX7_ok nmX7 rfl 18 (by decide) wm_866 rfl hin rfl (by decide +kernel) rfl rfl (Nat.le_of_ble_eq_true rfl) dX7_init_75 rfl ?_
  refine n_aload (q := 79) dX7_init_78 rfl rfl ?_
  refine n_iconst (q := 80) dX7_init_79 ci_2 rfl ?_
  refine n_newz (NA := 2) (q := 82) wm_918 (by decide) (by decide) (by decide) (Nat.le_of_ble_eq_true rfl) (Nat.le_of_ble_eq_true rfl) dX7_init_80 rfl (fun a10 => ?_)
  refine n_putF (ci := 7) (ty := .array .boolean) (q := 85) inC7 tyX7 tyX7_ok nmX7 rfl 19 (by decide) wm_867 rfl hin rfl (by decide +kernel) rfl rfl (Nat.le_of_ble_eq_true rfl) dX7_init_82 rfl ?_
  refine n_aload (q := 86) dX7_init_85 rfl rfl ?_
  refine n_bipush (q := 88) dX7_init_86 cb_104 rfl ?_
  refine n_newi (NA := 104) (q := 90) wm_106 (by decide) (by decide) (by decide) (Nat.le_of_ble_eq_true rfl) (Nat.le_of_ble_eq_true rfl) dX7_init_88 rfl (fun a11 => ?_)
  refine n_putF (ci := 7) (ty := .array .int) (q := 93) inC7 tyX7 tyX7_ok nmX7 rfl 20 (by decide) wm_868 rfl hin rfl (by decide +kernel) rfl rfl (Nat.le_of_ble_eq_true rfl) dX7_init_90 rfl ?_
  refine n_aload (q := 94) dX7_init_93 rfl rfl ?_
  refine n_bipush (q := 96) dX7_init_94 cb_16 rfl ?_
  refine n_newi (NA := 16) (q := 98) wm_106 (by decide) (by decide) (by decide) (Nat.le_of_ble_eq_true rfl) (Nat.le_of_ble_eq_true rfl) dX7_init_96 rfl (fun a12 => ?_)
  refine n_putF (ci := 7) (ty := .array .int) (q := 101) inC7 tyX7 tyX7_ok nmX7 rfl 21 (by decide) wm_869 rfl hin rfl (by decide +kernel) rfl rfl (Nat.le_of_ble_eq_true rfl) dX7_init_98 rfl ?_
  refine n_iconst (q := 102) dX7_init_101 ci_0 rfl ?_
  refine n_istore (j := 1) (q := 103) dX7_init_102 rfl (by decide) rfl rfl ?_
  refine n_eqw (ls := [some (.ref h0), some (.int (nI 0))]) (ws := [(h0, .inr (7, [.ref a1, .ref a2, .ref a3, .int 0, .int 0, .ref a4, .ref a5, .ref a6, .int 0, .int 0, .int 0, .int 0, .int 0, .int 0, .int 0, .ref a7, .ref a8, .int 0, .ref a9, .ref a10, .ref a11, .ref a12, .int 0])), (a1, .inl (E.2.2.2.1, 8, .inl (fun _ => 0))), (a2, .inl (E.2.2.2.1, 8, .inl (m1 0))), (a3, .inl (E.2.2.2.1, 320, .inl (fun _ => 0))), (a4, .inl (E.2.2.2.1, 52, .inl (fun _ => 0))), (a5, .inl (E.2.2.2.1, 40, .inl (fun _ => 0))), (a6, .inl (E.2.2.2.1, 120, .inl (fun _ => 0))), (a7, .inl (E.2.2.2.1, 52, .inl (fun _ => 0))), (a8, .inl (E.2.2.2.1, 1248, .inl (fun _ => 0))), (a9, .inl (E.2.2.2.1, 52, .inl (fun _ => 0))), (a10, .inl (E.2.2.2.2, 2, .inl (fun _ => 0))), (a11, .inl (E.2.2.2.1, 104, .inl (fun _ => 0))), (a12, .inl (E.2.2.2.1, 16, .inl (fun _ => 0)))]) ?_ (by simp [lsub, nI_0]) rfl
  refine n_for (I := fun i => [some (.ref h0), some (.int (nI i))]) (S := fun i => [(h0, .inr (7, [.ref a1, .ref a2, .ref a3, .int 0, .int 0, .ref a4, .ref a5, .ref a6, .int 0, .int 0, .int 0, .int 0, .int 0, .int 0, .int 0, .ref a7, .ref a8, .int 0, .ref a9, .ref a10, .ref a11, .ref a12, .int 0])), (a1, .inl (E.2.2.2.1, 8, .inl (fun _ => 0))), (a2, .inl (E.2.2.2.1, 8, .inl (m1 i))), (a3, .inl (E.2.2.2.1, 320, .inl (fun _ => 0))), (a4, .inl (E.2.2.2.1, 52, .inl (fun _ => 0))), (a5, .inl (E.2.2.2.1, 40, .inl (fun _ => 0))), (a6, .inl (E.2.2.2.1, 120, .inl (fun _ => 0))), (a7, .inl (E.2.2.2.1, 52, .inl (fun _ => 0))), (a8, .inl (E.2.2.2.1, 1248, .inl (fun _ => 0))), (a9, .inl (E.2.2.2.1, 52, .inl (fun _ => 0))), (a10, .inl (E.2.2.2.2, 2, .inl (fun _ => 0))), (a11, .inl (E.2.2.2.1, 104, .inl (fun _ => 0))), (a12, .inl (E.2.2.2.1, 16, .inl (fun _ => 0)))]) 0 8 (by decide) (fun i i0 i1 kk => ?_) ?_
  · refine n_iload (q := 104) dX7_init_103 rfl rfl ?_
    refine n_bipush (q := 106) dX7_init_104 cb_8 rfl ?_
    refine n_icmp_ge (t := 122) (q := 109) dX7_init_106 (by decide) rfl (fun c1 => absurd c1 (lp_in (N := 8) rfl (by decide) i1)) (fun c1 => ?_)
    refine n_aload (q := 110) dX7_init_109 rfl rfl ?_
    refine n_get (ci := 7) (q := 113) inC7 rfl 1 (by decide) wm_849 rfl dX7_init_110 rfl ?_
    refine n_iload (q := 114) dX7_init_113 rfl rfl ?_
    refine n_iconst (q := 115) dX7_init_114 ci_m1 rfl ?_
    refine n_iast (q := 116) (Nn := 8) (f := m1 i) (ws' := [(h0, .inr (7, [.ref a1, .ref a2, .ref a3, .int 0, .int 0, .ref a4, .ref a5, .ref a6, .int 0, .int 0, .int 0, .int 0, .int 0, .int 0, .int 0, .ref a7, .ref a8, .int 0, .ref a9, .ref a10, .ref a11, .ref a12, .int 0])), (a1, .inl (E.2.2.2.1, 8, .inl (fun _ => 0))), (a2, .inl (E.2.2.2.1, 8, .inl (m1 (i + 1)))), (a3, .inl (E.2.2.2.1, 320, .inl (fun _ => 0))), (a4, .inl (E.2.2.2.1, 52, .inl (fun _ => 0))), (a5, .inl (E.2.2.2.1, 40, .inl (fun _ => 0))), (a6, .inl (E.2.2.2.1, 120, .inl (fun _ => 0))), (a7, .inl (E.2.2.2.1, 52, .inl (fun _ => 0))), (a8, .inl (E.2.2.2.1, 1248, .inl (fun _ => 0))), (a9, .inl (E.2.2.2.1, 52, .inl (fun _ => 0))), (a10, .inl (E.2.2.2.2, 2, .inl (fun _ => 0))), (a11, .inl (E.2.2.2.1, 104, .inl (fun _ => 0))), (a12, .inl (E.2.2.2.1, 16, .inl (fun _ => 0)))]) 2 rfl (vp_in_nI i1 (by decide)) (by rw [nI_clamp (by omega), m1_s]; rfl) dX7_init_115 rfl ?_
    refine n_iinc (q := 119) dX7_init_116 rfl ci_1 (by decide) rfl rfl ?_
    refine n_goto (t := 103) dX7_init_119 (by decide) ?_
    exact n_eqw kk (by simp [lsub, nI_succ]) rfl
  · refine n_iload (q := 104) dX7_init_103 rfl rfl ?_
    refine n_bipush (q := 106) dX7_init_104 cb_8 rfl ?_
    refine n_icmp_ge (t := 122) (q := 109) dX7_init_106 (by decide) rfl (fun c1 => ?_) (fun c1 => absurd (lp_out (N := 8) rfl) c1)
    exact n_vret hret hlk hQ (fun k => if k = 1 then a1 else if k = 2 then a2 else if k = 3 then a3 else if k = 4 then a4 else if k = 5 then a5 else if k = 6 then a6 else if k = 7 then a7 else if k = 8 then a8 else if k = 9 then a9 else if k = 10 then a10 else if k = 11 then a11 else if k = 12 then a12 else h0) rfl rfl dX7_init_122
