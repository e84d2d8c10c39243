/-- those of the tables' words that hold in every callee -/
def gt : List Cond := lw_tbl.filter (fun w => k2_isCode w || goodWord w)
abbrev Sto : Type := Nat → Nat → Int32
abbrev Stl : Type := Nat → Int64
/-- launch, the cells' addresses, the classes' numbers, the array classes -/
abbrev EE : Type := Launch × (Nat → Nat) × va_G × ClassId × ClassId
/-- the machine's own: program, environment, start, method, arguments, frames below, method, code, cells, slots, end -/
abbrev XX : Type := Program × Env × State × MethodId × Array Value × List Frame × Method × Code × Nat × Nat × (State → Prop)
def kdl : List Nat := [6,3,8,8,8,5,8, 1,8,8,8,8,8,8, 2,8, 4, 1,8,8,8,8,8,8, 0,8, 1,8,8,8,8,8,8, 1,8,8,8,8,8,8, 7,8,8,8,8,8,8,8,8,8,9,8,8]
def lnl : List Nat := [10,3,320,8,8,5,120, 14,8,8,5,5,5,6, 3,312, 5, 14,8,8,5,5,5,6, 2,16, 14,8,8,5,5,5,6, 14,8,8,5,5,5,6, 23,8,8,320,52,40,120,52,1248,52,2,104,16]
/-- a cell's kind: 0 to 7 a class's object, 8 ints, 9 booleans -/
def kd (k : Nat) : Nat := kdl.getD k 10
def ln (k : Nat) : Nat := lnl.getD k 0
abbrev cls : List vw_C := [(RX0, TX0, 2), (RX1, TX1, 14), (RX2, TX2, 3), (RX3, TX3, 3), (RX4, TX4, 5), (RX5, TX5, 5), (RX6, TX6, 10), (RX7, TX7, 23)]
def fldsOf (E : EE) (σ : Sto) (τ : Stl) (k : Nat) : Nat → List Value
  | 0 => [.ref (E.2.1 (k+1)), .int (σ k 1)]
  | 1 => [.int (σ k 0), .int (σ k 1), .int (σ k 2), .int (σ k 3), .int (σ k 4), .int (σ k 5), .int (σ k 6), .int (σ k 7), .ref (E.2.1 (k+1)), .ref (E.2.1 (k+2)), .ref (E.2.1 (k+3)), .ref (E.2.1 (k+4)), .ref (E.2.1 (k+5)), .ref (E.2.1 (k+6))]
  | 2 => [.ref (E.2.1 (k+1)), .int (σ k 1), .int (σ k 2)]
  | 3 => [.ref (E.2.1 (k+1)), .ref (E.2.1 (k+2)), .ref (E.2.1 (k+3))]
  | 4 => [.ref (E.2.1 (k+1)), .int (σ k 1), .int (σ k 2), .long (τ 0), .long (τ 1)]
  | 5 => [.ref (E.2.1 (k+1)), .int (σ k 1), .int (σ k 2), .int (σ k 3), .int (σ k 4)]
  | 6 => [.ref (E.2.1 (k+1)), .ref (E.2.1 (k+5)), .ref (E.2.1 (k+7)), .ref (E.2.1 (k+14)), .ref (E.2.1 (k+16)), .ref (E.2.1 (k+24)), .ref (E.2.1 (k+26)), .ref (E.2.1 (k+33)), .int (σ k 8), .int (σ k 9)]
  | _ => [.ref (E.2.1 (k+1)), .ref (E.2.1 (k+2)), .ref (E.2.1 (k+3)), .int (σ k 3), .int (σ k 4), .ref (E.2.1 (k+4)), .ref (E.2.1 (k+5)), .ref (E.2.1 (k+6)), .int (σ k 8), .int (σ k 9), .int (σ k 10), .int (σ k 11), .int (σ k 12), .int (σ k 13), .int (σ k 14), .ref (E.2.1 (k+7)), .ref (E.2.1 (k+8)), .int (σ k 17), .ref (E.2.1 (k+9)), .ref (E.2.1 (k+10)), .ref (E.2.1 (k+11)), .ref (E.2.1 (k+12)), .int (σ k 22)]
def ent (E : EE) (σ : Sto) (τ : Stl) (k : Nat) : va_E := if kd k = 8 then .inl (E.2.2.2.1, ln k, .inl (σ k)) else if kd k < 8 then .inr (kd k, fldsOf E σ τ k (kd k)) else .inl (E.2.2.2.2, ln k, .inl (σ k))
def wr (E : EE) (lo n : Nat) (σ : Sto) (τ : Stl) : va_W := (List.range' lo n).map (fun k => (E.2.1 k, ent E σ τ k))
def AA (E : EE) (lo n : Nat) : Nat → Prop := fun q => ∃ k, lo ≤ k ∧ k < lo + n ∧ q = E.2.1 k
def inj (E : EE) (lo n : Nat) : Prop := ∀ i j, lo ≤ i → i < lo + n → lo ≤ j → j < lo + n → E.2.1 i = E.2.1 j → i = j
abbrev tyl (E : EE) : List (ClassId × FieldType) := [(E.2.2.2.1, FieldType.int), (E.2.2.2.2, FieldType.boolean)]
theorem ent_obj {E : EE} {σ : Sto} {τ : Stl} {k c : Nat} (h : kd k = c) (hc : c < 8) : ent E σ τ k = .inr (c, fldsOf E σ τ k c) := by
  subst h
  unfold ent
  rw [if_neg (by omega), if_pos hc]
theorem ent_int {E : EE} {σ : Sto} {τ : Stl} {k : Nat} (h : kd k = 8) : ent E σ τ k = .inl (E.2.2.2.1, ln k, .inl (σ k)) := by
  unfold ent
  rw [if_pos h]
theorem ent_bool {E : EE} {σ : Sto} {τ : Stl} {k : Nat} (h : kd k = 9) : ent E σ τ k = .inl (E.2.2.2.2, ln k, .inl (σ k)) := by
  unfold ent
  rw [if_neg (by omega), if_neg (by omega)]
theorem wr_get {E : EE} {lo n : Nat} {σ : Sto} {τ : Stl} {k : Nat} (h1 : lo ≤ k) (h2 : k < lo + n) : (wr E lo n σ τ)[k - lo]? = some (E.2.1 k, ent E σ τ k) := by
  have h3 : (List.range' lo n)[k - lo]? = some k := by
    rw [List.getElem?_range' (by omega)]
    congr 1
    omega
  unfold wr
  rw [List.getElem?_map, h3]
  rfl
theorem wr_at {E : EE} {lo n : Nat} {σ : Sto} {τ : Stl} {i : Nat} {q : Nat × va_E} (h : (wr E lo n σ τ)[i]? = some q) : i < n ∧ q = (E.2.1 (lo + i), ent E σ τ (lo + i)) := by
  have hi : i < n := by
    have := (List.getElem?_eq_some_iff.mp h).1
    simpa [wr] using this
  have := wr_get (E := E) (σ := σ) (τ := τ) (show lo ≤ lo + i by omega) (show lo + i < lo + n by omega)
  rw [show lo + i - lo = i by omega, h] at this
  exact ⟨hi, Option.some.inj this⟩
theorem wr_D {E : EE} {lo n : Nat} {σ : Sto} {τ : Stl} (h : inj E lo n) : va_D (AA E lo n) (wr E lo n σ τ) := by
  refine ⟨fun i j p q hi hj hpq => ?_, fun k q hk => ?_⟩
  · obtain ⟨a1, a2⟩ := wr_at hi
    obtain ⟨b1, b2⟩ := wr_at hj
    rw [a2, b2] at hpq
    have := h (lo + i) (lo + j) (by omega) (by omega) (by omega) (by omega) hpq
    omega
  · obtain ⟨a1, a2⟩ := wr_at hk
    rw [a2]
    exact ⟨lo + k, by omega, by omega, rfl⟩
/-- a cell's contents set -/
def upc (σ : Sto) (k : Nat) (f : Nat → Int32) : Sto := fun a => if a = k then f else σ a
theorem upc_same (σ : Sto) (k : Nat) (f : Nat → Int32) : upc σ k f k = f := if_pos rfl
theorem upc_ne {σ : Sto} {k a : Nat} {f : Nat → Int32} (h : a ≠ k) : upc σ k f a = σ a := if_neg h
theorem upd_same (f : Nat → Int32) (k : Nat) (x : Int32) : upd f k x k = x := if_pos rfl
theorem upd_ne {f : Nat → Int32} {k j : Nat} {x : Int32} (h : j ≠ k) : upd f k x j = f j := if_neg h
theorem wr_set {E : EE} {lo n : Nat} {σ σ' : Sto} {τ τ' : Stl} {k : Nat} {e : va_E} (h1 : lo ≤ k) (h2 : k < lo + n) (he : ent E σ' τ' k = e) (ho : ∀ a, a ≠ k → ent E σ' τ' a = ent E σ τ a) : (wr E lo n σ τ).set (k - lo) (E.2.1 k, e) = wr E lo n σ' τ' := by
  subst he
  apply List.ext_getElem?
  intro i
  by_cases hi : i = k - lo
  · subst hi
    rw [List.getElem?_set_self (by simp [wr]; omega), wr_get h1 h2]
  · rw [List.getElem?_set_ne (Ne.symm hi)]
    by_cases hn : i < n
    · have a1 := wr_get (E := E) (σ := σ) (τ := τ) (show lo ≤ lo + i by omega) (show lo + i < lo + n by omega)
      have a2 := wr_get (E := E) (σ := σ') (τ := τ') (show lo ≤ lo + i by omega) (show lo + i < lo + n by omega)
      rw [show lo + i - lo = i by omega] at a1 a2
      rw [a1, a2, ho _ (by omega)]
    · rw [List.getElem?_eq_none (by simp [wr]; omega), List.getElem?_eq_none (by simp [wr]; omega)]
theorem flds_off {E : EE} {σ : Sto} {τ : Stl} {k a : Nat} {f : Nat → Int32} (h : a ≠ k) (c : Nat) : fldsOf E (upc σ k f) τ a c = fldsOf E σ τ a c := by
  unfold fldsOf
  simp only [upc_ne h]
theorem ent_off {E : EE} {σ : Sto} {τ : Stl} {k a : Nat} {f : Nat → Int32} (h : a ≠ k) : ent E (upc σ k f) τ a = ent E σ τ a := by
  unfold ent
  rw [upc_ne h, flds_off h]
/-- the locals: those that are listed are held -/
def lh (la : Array Slot) (nL : Nat) (ls : List (Option Value)) : Prop := la.size = nL ∧ lv_wf la ∧ ∀ (i : Nat) (v : Value), ls[i]? = some (some v) → la[i]? = some (.val v)
def lvOf (ls : List (Option Value)) : List (Nat × Value) := (List.range ls.length).filterMap (fun i => (ls[i]?.join).map (fun v => (i, v)))
theorem lvOf_mem {ls : List (Option Value)} {i : Nat} {v : Value} : (i, v) ∈ lvOf ls ↔ ls[i]? = some (some v) := by
  unfold lvOf
  rw [List.mem_filterMap]
  constructor
  · rintro ⟨a, ha, h⟩
    cases hj : ls[a]? with
    | none => rw [hj] at h; cases h
    | some o =>
      cases o with
      | none => rw [hj] at h; cases h
      | some w =>
        rw [hj] at h
        have : (a, w) = (i, v) := Option.some.inj h
        cases this
        exact hj
  · intro h
    refine ⟨i, List.mem_range.mpr (List.getElem?_eq_some_iff.mp h).1, ?_⟩
    rw [h]
    rfl
theorem lh_has {la : Array Slot} {nL : Nat} {ls : List (Option Value)} (h : lh la nL ls) : lv_has la nL (lvOf ls) := ⟨h.1, h.2.1, fun q hq => h.2.2 q.1 q.2 (lvOf_mem.mp hq)⟩
/-- no long's second half lies at i -/
def okS (ls : List (Option Value)) : Nat → Bool
  | 0 => true
  | i + 1 => match ls[i]? with
    | some (some v) => v.category == 1
    | _ => true
theorem okS_ne {ls : List (Option Value)} {i j : Nat} {v : Value} (h : okS ls i = true) (hj : ls[j]? = some (some v)) (e : j + 1 = i) : (v.category == 2) = false := by
  subst e
  simp only [okS, hj] at h
  have := eq_of_beq h
  rw [this]
  rfl
theorem lh_set {la : Array Slot} {nL i : Nat} {ls : List (Option Value)} {v : Value} (hs : okS ls i = true) (h : lv_has la nL ((i, v) :: (lvOf ls).filter (fun q => !(q.1 == i) && !(q.1 + 1 == i && q.2.category == 2)))) : lh la nL (ls.set i (some v)) := by
  refine ⟨h.1, h.2.1, fun j w hj => ?_⟩
  by_cases e : j = i
  · subst e
    have hl : j < ls.length := by
      have := (List.getElem?_eq_some_iff.mp hj).1
      simpa using this
    rw [List.getElem?_set_self hl] at hj
    have hvw : v = w := Option.some.inj (Option.some.inj hj)
    subst hvw
    exact h.2.2 (j, v) List.mem_cons_self
  · rw [List.getElem?_set_ne (Ne.symm e)] at hj
    refine h.2.2 (j, w) (List.mem_cons_of_mem _ (List.mem_filter.mpr ⟨lvOf_mem.mpr hj, ?_⟩))
    have e1 : (j == i) = false := by simp [e]
    by_cases e2 : j + 1 = i
    · have := okS_ne hs hj e2
      simp [e1, this]
    · simp [e1, e2]
theorem lh_set2 {la : Array Slot} {nL i : Nat} {ls : List (Option Value)} {v : Value} (hs : okS ls i = true) (h : lv_has la nL ((i, v) :: (lvOf ls).filter (fun q => !(q.1 == i) && (!(q.1 == i + 1) && !(q.1 + 1 == i && q.2.category == 2))))) : lh la nL ((ls.set i (some v)).set (i + 1) none) := by
  refine ⟨h.1, h.2.1, fun j w hj => ?_⟩
  by_cases e3 : j = i + 1
  · subst e3
    rw [List.getElem?_set] at hj
    split at hj
    · split at hj <;> cases hj
    · exact absurd rfl (by assumption)
  · rw [List.getElem?_set_ne (Ne.symm e3)] at hj
    by_cases e : j = i
    · subst e
      have hl : j < ls.length := by
        have := (List.getElem?_eq_some_iff.mp hj).1
        simpa using this
      rw [List.getElem?_set_self hl] at hj
      have hvw : v = w := Option.some.inj (Option.some.inj hj)
      subst hvw
      exact h.2.2 (j, v) List.mem_cons_self
    · rw [List.getElem?_set_ne (Ne.symm e)] at hj
      refine h.2.2 (j, w) (List.mem_cons_of_mem _ (List.mem_filter.mpr ⟨lvOf_mem.mpr hj, ?_⟩))
      have e1 : (j == i) = false := by simp [e]
      have e4 : (j == i + 1) = false := by simp [e3]
      by_cases e2 : j + 1 = i
      · have := okS_ne hs hj e2
        simp [e1, e4, this]
      · simp [e1, e4, e2]
/-- a method's end: its answer and the store behind it -/
def Qo (E : EE) (lo n : Nat) (Po : Option Value → Sto → Stl → Prop) : Array Value → State → Outcome → State → Prop := fun _ st oc t => (∃ r σ τ, oc = .returned r ∧ Po r σ τ ∧ va_P E.2.2.1 cls (wr E lo n σ τ) t.heap) ∧ va_F (AA E lo n) st t
def CX (E : EE) (lo n : Nat) (R : Room) (X : XX) (cc : ByteArray) (own : String) (nL : Nat) (ret : Option FieldType) (Po : Option Value → Sto → Stl → Prop) : Prop :=
  X.1.tables.exec = Jvm.exec ∧ X.2.2.2.2.2.2.2.1.code = cc ∧ X.2.2.2.2.2.2.2.1.maxLocals = nL ∧ X.2.2.1.vm.findClass own = some X.2.2.2.1.cls ∧ (∀ w ∈ gt, w.before X.2.2.2.2.1 X.2.2.1 = true) ∧ va_K E.2.2.1 cls (tyl E) X.2.2.1 ∧ inj E lo n ∧ X.2.2.2.2.2.2.1.sig.returnType = ret ∧ X.2.2.2.2.2.2.1.locks = false ∧ (X.2.2.2.2.2.2.2.2.1 ≤ R.cells ∧ X.2.2.2.2.2.2.2.2.2.1 ≤ R.slots) ∧ ((∃ r σ τ, Po r σ τ) → X.2.2.2.2.2.2.2.2.2.2 = MQ X.2.2.2.2.2.1 (Qo E lo n Po) X.2.2.2.2.1 X.2.2.1 X.2.2.2.2.2.2.2.2.1 X.2.2.2.2.2.2.2.2.2.1 (AA E lo n))
abbrev WX (E : EE) (R : Room) (X : XX) (H : Heap) (locs : List Loc) (g : JFrame) : Prop := W X.1 E.1 X.2.1 R X.2.2.1 X.2.2.2.1 X.2.2.2.2.1 X.2.2.2.2.2.1 X.2.2.2.2.2.2.1 X.2.2.2.2.2.2.2.1 H locs X.2.2.2.2.2.2.2.2.1 X.2.2.2.2.2.2.2.2.2.1 X.2.2.2.2.2.2.2.2.2.2 g
/-- at pc, with these locals, this stack, this store: the machine comes to the end that Po names -/
def G (E : EE) (lo n : Nat) (R : Room) (X : XX) (cc : ByteArray) (own : String) (nL : Nat) (ret : Option FieldType) (Po : Option Value → Sto → Stl → Prop) (pc : Nat) (ls : List (Option Value)) (st : List Value) (σ : Sto) (τ : Stl) : Prop :=
  CX E lo n R X cc own nL ret Po → ∀ (H : Heap) (locs : List Loc) (la : Array Slot), va_P E.2.2.1 cls (wr E lo n σ τ) H → va_S (AA E lo n) X.2.2.1.heap H locs → lh la nL ls → WX E R X H locs (F0 X.2.2.2.1 pc la st)
section ROWS
variable {E : EE} {lo n : Nat} {R : Room} {X : XX} {cc : ByteArray} {own : String} {nL : Nat} {ret : Option FieldType} {Po : Option Value → Sto → Stl → Prop} {pc q : Nat} {ls : List (Option Value)} {st : List Value} {σ : Sto} {τ : Stl}

theorem g_iconst {i : Int} {v : Int32} (hd : decode cc pc = .ok (.iconst i, 1)) (hv : Int32.ofInt i = v) (hq : pc + 1 = q) (k : G E lo n R X cc own nL ret Po q ls (.int v :: st) σ τ) : G E lo n R X cc own nL ret Po pc ls (st) σ τ := by
  subst hq
  exact fun hX H locs la hP hS hl => lv_iconst hX.1 hX.2.1 hd hv (k hX H locs la hP hS hl)
theorem g_bipush {i : Int} {v : Int32} (hd : decode cc pc = .ok (.bipush i, 2)) (hv : (Int8.ofInt i).toInt32 = v) (hq : pc + 2 = q) (k : G E lo n R X cc own nL ret Po q ls (.int v :: st) σ τ) : G E lo n R X cc own nL ret Po pc ls (st) σ τ := by
  subst hq
  exact fun hX H locs la hP hS hl => lv_bipush hX.1 hX.2.1 hd hv (k hX H locs la hP hS hl)
theorem g_sipush {i : Int} {v : Int32} (hd : decode cc pc = .ok (.sipush i, 3)) (hv : (Int16.ofInt i).toInt32 = v) (hq : pc + 3 = q) (k : G E lo n R X cc own nL ret Po q ls (.int v :: st) σ τ) : G E lo n R X cc own nL ret Po pc ls (st) σ τ := by
  subst hq
  exact fun hX H locs la hP hS hl => lv_sipush hX.1 hX.2.1 hd hv (k hX H locs la hP hS hl)
theorem g_lconst {i : Fin 2} {v : Int64} (hd : decode cc pc = .ok (.lconst i, 1)) (hv : Int64.ofNat (i : Nat) = v) (hq : pc + 1 = q) (k : G E lo n R X cc own nL ret Po q ls (.long v :: st) σ τ) : G E lo n R X cc own nL ret Po pc ls (st) σ τ := by
  subst hq
  exact fun hX H locs la hP hS hl => lv_lconst hX.1 hX.2.1 hd hv (k hX H locs la hP hS hl)
theorem g_iload_n {i : Fin 4} {x : Int32} (hd : decode cc pc = .ok (.iload_n i, 1)) (hv : ls[(i : Nat)]? = some (some (.int x))) (hq : pc + 1 = q) (k : G E lo n R X cc own nL ret Po q ls (.int x :: st) σ τ) : G E lo n R X cc own nL ret Po pc ls (st) σ τ := by
  subst hq
  exact fun hX H locs la hP hS hl => lv_iload_n hX.1 hX.2.1 hd rfl (hl.2.2 _ _ hv) (k hX H locs la hP hS hl)
theorem g_iload {i : Nat} {x : Int32} (hd : decode cc pc = .ok (.iload i, 2)) (hv : ls[i]? = some (some (.int x))) (hq : pc + 2 = q) (k : G E lo n R X cc own nL ret Po q ls (.int x :: st) σ τ) : G E lo n R X cc own nL ret Po pc ls (st) σ τ := by
  subst hq
  exact fun hX H locs la hP hS hl => lv_iload hX.1 hX.2.1 hd (hl.2.2 _ _ hv) (k hX H locs la hP hS hl)
theorem g_lload_n {i : Fin 4} {x : Int64} (hd : decode cc pc = .ok (.lload_n i, 1)) (hv : ls[(i : Nat)]? = some (some (.long x))) (hq : pc + 1 = q) (k : G E lo n R X cc own nL ret Po q ls (.long x :: st) σ τ) : G E lo n R X cc own nL ret Po pc ls (st) σ τ := by
  subst hq
  exact fun hX H locs la hP hS hl => lv_lload_n hX.1 hX.2.1 hd rfl (hl.2.2 _ _ hv) (k hX H locs la hP hS hl)
theorem g_lload {i : Nat} {x : Int64} (hd : decode cc pc = .ok (.lload i, 2)) (hv : ls[i]? = some (some (.long x))) (hq : pc + 2 = q) (k : G E lo n R X cc own nL ret Po q ls (.long x :: st) σ τ) : G E lo n R X cc own nL ret Po pc ls (st) σ τ := by
  subst hq
  exact fun hX H locs la hP hS hl => lv_lload hX.1 hX.2.1 hd (hl.2.2 _ _ hv) (k hX H locs la hP hS hl)
theorem g_aload_n {i : Fin 4} {x : Nat} (hd : decode cc pc = .ok (.aload_n i, 1)) (hv : ls[(i : Nat)]? = some (some (.ref x))) (hq : pc + 1 = q) (k : G E lo n R X cc own nL ret Po q ls (.ref x :: st) σ τ) : G E lo n R X cc own nL ret Po pc ls (st) σ τ := by
  subst hq
  exact fun hX H locs la hP hS hl => lv_aload_n hX.1 hX.2.1 hd rfl (hl.2.2 _ _ hv) (k hX H locs la hP hS hl)
theorem g_iadd {x y : Int32} (hd : decode cc pc = .ok (.iadd, 1))  (hq : pc + 1 = q) (k : G E lo n R X cc own nL ret Po q ls (.int (x + y) :: st) σ τ) : G E lo n R X cc own nL ret Po pc ls (.int y :: .int x :: st) σ τ := by
  subst hq
  exact fun hX H locs la hP hS hl => lv_iadd hX.1 hX.2.1 hd (k hX H locs la hP hS hl)
theorem g_isub {x y : Int32} (hd : decode cc pc = .ok (.isub, 1))  (hq : pc + 1 = q) (k : G E lo n R X cc own nL ret Po q ls (.int (x - y) :: st) σ τ) : G E lo n R X cc own nL ret Po pc ls (.int y :: .int x :: st) σ τ := by
  subst hq
  exact fun hX H locs la hP hS hl => lv_isub hX.1 hX.2.1 hd (k hX H locs la hP hS hl)
theorem g_imul {x y : Int32} (hd : decode cc pc = .ok (.imul, 1))  (hq : pc + 1 = q) (k : G E lo n R X cc own nL ret Po q ls (.int (x * y) :: st) σ τ) : G E lo n R X cc own nL ret Po pc ls (.int y :: .int x :: st) σ τ := by
  subst hq
  exact fun hX H locs la hP hS hl => lv_imul hX.1 hX.2.1 hd (k hX H locs la hP hS hl)
theorem g_iand {x y : Int32} (hd : decode cc pc = .ok (.iand, 1))  (hq : pc + 1 = q) (k : G E lo n R X cc own nL ret Po q ls (.int (x &&& y) :: st) σ τ) : G E lo n R X cc own nL ret Po pc ls (.int y :: .int x :: st) σ τ := by
  subst hq
  exact fun hX H locs la hP hS hl => lv_iand hX.1 hX.2.1 hd (k hX H locs la hP hS hl)
theorem g_ior {x y : Int32} (hd : decode cc pc = .ok (.ior, 1))  (hq : pc + 1 = q) (k : G E lo n R X cc own nL ret Po q ls (.int (x ||| y) :: st) σ τ) : G E lo n R X cc own nL ret Po pc ls (.int y :: .int x :: st) σ τ := by
  subst hq
  exact fun hX H locs la hP hS hl => lv_ior hX.1 hX.2.1 hd (k hX H locs la hP hS hl)
theorem g_ixor {x y : Int32} (hd : decode cc pc = .ok (.ixor, 1))  (hq : pc + 1 = q) (k : G E lo n R X cc own nL ret Po q ls (.int (x ^^^ y) :: st) σ τ) : G E lo n R X cc own nL ret Po pc ls (.int y :: .int x :: st) σ τ := by
  subst hq
  exact fun hX H locs la hP hS hl => lv_ixor hX.1 hX.2.1 hd (k hX H locs la hP hS hl)
theorem g_ladd {x y : Int64} (hd : decode cc pc = .ok (.ladd, 1))  (hq : pc + 1 = q) (k : G E lo n R X cc own nL ret Po q ls (.long (x + y) :: st) σ τ) : G E lo n R X cc own nL ret Po pc ls (.long y :: .long x :: st) σ τ := by
  subst hq
  exact fun hX H locs la hP hS hl => lv_ladd hX.1 hX.2.1 hd (k hX H locs la hP hS hl)
theorem g_lsub {x y : Int64} (hd : decode cc pc = .ok (.lsub, 1))  (hq : pc + 1 = q) (k : G E lo n R X cc own nL ret Po q ls (.long (x - y) :: st) σ τ) : G E lo n R X cc own nL ret Po pc ls (.long y :: .long x :: st) σ τ := by
  subst hq
  exact fun hX H locs la hP hS hl => lv_lsub hX.1 hX.2.1 hd (k hX H locs la hP hS hl)
theorem g_lmul {x y : Int64} (hd : decode cc pc = .ok (.lmul, 1))  (hq : pc + 1 = q) (k : G E lo n R X cc own nL ret Po q ls (.long (x * y) :: st) σ τ) : G E lo n R X cc own nL ret Po pc ls (.long y :: .long x :: st) σ τ := by
  subst hq
  exact fun hX H locs la hP hS hl => lv_lmul hX.1 hX.2.1 hd (k hX H locs la hP hS hl)
theorem g_idiv {x y : Int32} (hd : decode cc pc = .ok (.idiv, 1)) (hne : ¬ y = 0) (hq : pc + 1 = q) (k : G E lo n R X cc own nL ret Po q ls (.int (x / y) :: st) σ τ) : G E lo n R X cc own nL ret Po pc ls (.int y :: .int x :: st) σ τ := by
  subst hq
  exact fun hX H locs la hP hS hl => lv_idiv hX.1 hX.2.1 hd hne (k hX H locs la hP hS hl)
theorem g_irem {x y : Int32} (hd : decode cc pc = .ok (.irem, 1)) (hne : ¬ y = 0) (hq : pc + 1 = q) (k : G E lo n R X cc own nL ret Po q ls (.int (x - x / y * y) :: st) σ τ) : G E lo n R X cc own nL ret Po pc ls (.int y :: .int x :: st) σ τ := by
  subst hq
  exact fun hX H locs la hP hS hl => lv_irem hX.1 hX.2.1 hd hne (k hX H locs la hP hS hl)
theorem g_ldiv {x y : Int64} (hd : decode cc pc = .ok (.ldiv, 1)) (hne : ¬ y = 0) (hq : pc + 1 = q) (k : G E lo n R X cc own nL ret Po q ls (.long (x / y) :: st) σ τ) : G E lo n R X cc own nL ret Po pc ls (.long y :: .long x :: st) σ τ := by
  subst hq
  exact fun hX H locs la hP hS hl => lv_ldiv hX.1 hX.2.1 hd hne (k hX H locs la hP hS hl)
theorem g_lrem {x y : Int64} (hd : decode cc pc = .ok (.lrem, 1)) (hne : ¬ y = 0) (hq : pc + 1 = q) (k : G E lo n R X cc own nL ret Po q ls (.long (x - x / y * y) :: st) σ τ) : G E lo n R X cc own nL ret Po pc ls (.long y :: .long x :: st) σ τ := by
  subst hq
  exact fun hX H locs la hP hS hl => lv_lrem hX.1 hX.2.1 hd hne (k hX H locs la hP hS hl)
theorem g_ineg {x : Int32} (hd : decode cc pc = .ok (.ineg, 1))  (hq : pc + 1 = q) (k : G E lo n R X cc own nL ret Po q ls (.int (-x) :: st) σ τ) : G E lo n R X cc own nL ret Po pc ls (.int x :: st) σ τ := by
  subst hq
  exact fun hX H locs la hP hS hl => lv_ineg hX.1 hX.2.1 hd (k hX H locs la hP hS hl)
theorem g_ishl {x y : Int32} (hd : decode cc pc = .ok (.ishl, 1))  (hq : pc + 1 = q) (k : G E lo n R X cc own nL ret Po q ls (.int (x <<< (y &&& 31)) :: st) σ τ) : G E lo n R X cc own nL ret Po pc ls (.int y :: .int x :: st) σ τ := by
  subst hq
  exact fun hX H locs la hP hS hl => lv_ishl hX.1 hX.2.1 hd (k hX H locs la hP hS hl)
theorem g_ishr {x y : Int32} (hd : decode cc pc = .ok (.ishr, 1))  (hq : pc + 1 = q) (k : G E lo n R X cc own nL ret Po q ls (.int (x >>> (y &&& 31)) :: st) σ τ) : G E lo n R X cc own nL ret Po pc ls (.int y :: .int x :: st) σ τ := by
  subst hq
  exact fun hX H locs la hP hS hl => lv_ishr hX.1 hX.2.1 hd (k hX H locs la hP hS hl)
theorem g_iushr {x y : Int32} (hd : decode cc pc = .ok (.iushr, 1))  (hq : pc + 1 = q) (k : G E lo n R X cc own nL ret Po q ls (.int (x.toUInt32 >>> (y.toUInt32 &&& Int32.toUInt32 31)).toInt32 :: st) σ τ) : G E lo n R X cc own nL ret Po pc ls (.int y :: .int x :: st) σ τ := by
  subst hq
  exact fun hX H locs la hP hS hl => lv_iushr hX.1 hX.2.1 hd rfl (k hX H locs la hP hS hl)
theorem g_i2l {x : Int32} (hd : decode cc pc = .ok (.i2l, 1))  (hq : pc + 1 = q) (k : G E lo n R X cc own nL ret Po q ls (.long x.toInt64 :: st) σ τ) : G E lo n R X cc own nL ret Po pc ls (.int x :: st) σ τ := by
  subst hq
  exact fun hX H locs la hP hS hl => lv_i2l hX.1 hX.2.1 hd rfl (k hX H locs la hP hS hl)
theorem g_l2i {x : Int64} (hd : decode cc pc = .ok (.l2i, 1))  (hq : pc + 1 = q) (k : G E lo n R X cc own nL ret Po q ls (.int x.toInt32 :: st) σ τ) : G E lo n R X cc own nL ret Po pc ls (.long x :: st) σ τ := by
  subst hq
  exact fun hX H locs la hP hS hl => lv_l2i hX.1 hX.2.1 hd rfl (k hX H locs la hP hS hl)
theorem g_i2b {x : Int32} (hd : decode cc pc = .ok (.i2b, 1))  (hq : pc + 1 = q) (k : G E lo n R X cc own nL ret Po q ls (.int x.toInt8.toInt32 :: st) σ τ) : G E lo n R X cc own nL ret Po pc ls (.int x :: st) σ τ := by
  subst hq
  exact fun hX H locs la hP hS hl => lv_i2b hX.1 hX.2.1 hd rfl (k hX H locs la hP hS hl)
theorem g_i2s {x : Int32} (hd : decode cc pc = .ok (.i2s, 1))  (hq : pc + 1 = q) (k : G E lo n R X cc own nL ret Po q ls (.int x.toInt16.toInt32 :: st) σ τ) : G E lo n R X cc own nL ret Po pc ls (.int x :: st) σ τ := by
  subst hq
  exact fun hX H locs la hP hS hl => lv_i2s hX.1 hX.2.1 hd rfl (k hX H locs la hP hS hl)
theorem g_lcmp {x y : Int64} (hd : decode cc pc = .ok (.lcmp, 1))  (hq : pc + 1 = q) (k : G E lo n R X cc own nL ret Po q ls (.int (lg_cmp x y) :: st) σ τ) : G E lo n R X cc own nL ret Po pc ls (.long y :: .long x :: st) σ τ := by
  subst hq
  exact fun hX H locs la hP hS hl => W.lcmp hX.1 hX.2.1 hd (k hX H locs la hP hS hl)
theorem g_dup {v : Value} (hd : decode cc pc = .ok (.dup, 1)) (hc : v.category = 1) (hq : pc + 1 = q) (k : G E lo n R X cc own nL ret Po q ls (v :: v :: st) σ τ) : G E lo n R X cc own nL ret Po pc ls (v :: st) σ τ := by
  subst hq
  exact fun hX H locs la hP hS hl => lv_dup hX.1 hX.2.1 hd hc (k hX H locs la hP hS hl)
theorem g_pop {v : Value} (hd : decode cc pc = .ok (.pop, 1)) (hc : v.category = 1) (hq : pc + 1 = q) (k : G E lo n R X cc own nL ret Po q ls (st) σ τ) : G E lo n R X cc own nL ret Po pc ls (v :: st) σ τ := by
  subst hq
  exact fun hX H locs la hP hS hl => lv_pop hX.1 hX.2.1 hd hc (k hX H locs la hP hS hl)
theorem g_dup2 {v w : Value} (hd : decode cc pc = .ok (.dup2, 1)) (hc : v.category = 1) (hc2 : w.category = 1) (hq : pc + 1 = q) (k : G E lo n R X cc own nL ret Po q ls (v :: w :: v :: w :: st) σ τ) : G E lo n R X cc own nL ret Po pc ls (v :: w :: st) σ τ := by
  subst hq
  exact fun hX H locs la hP hS hl => lv_dup2_11 hX.1 hX.2.1 hd hc hc2 (k hX H locs la hP hS hl)
theorem g_ldc {i : Nat} {v : Int32} (hd : decode cc pc = .ok (.ldc i, 2)) (hw : Jvm.Cond.constant own i v ∈ gt) (hq : pc + 2 = q) (k : G E lo n R X cc own nL ret Po q ls (.int v :: st) σ τ) : G E lo n R X cc own nL ret Po pc ls (st) σ τ := by
  subst hq
  exact fun hX H locs la hP hS hl => lv_ldc hX.1 hX.2.1 hX.2.2.2.1 (hX.2.2.2.2.1 _ hw) hd (k hX H locs la hP hS hl)
theorem g_ldcw {i : Nat} {v : Int32} (hd : decode cc pc = .ok (.ldc_w i, 3)) (hw : Jvm.Cond.constant own i v ∈ gt) (hq : pc + 3 = q) (k : G E lo n R X cc own nL ret Po q ls (.int v :: st) σ τ) : G E lo n R X cc own nL ret Po pc ls (st) σ τ := by
  subst hq
  exact fun hX H locs la hP hS hl => lv_ldcw hX.1 hX.2.1 hX.2.2.2.1 (hX.2.2.2.2.1 _ hw) hd (k hX H locs la hP hS hl)
theorem g_ldc2 {i : Nat} {v : Int64} (hd : decode cc pc = .ok (.ldc2_w i, 3)) (hw : Jvm.Cond.constantLong own i v ∈ gt) (hq : pc + 3 = q) (k : G E lo n R X cc own nL ret Po q ls (.long v :: st) σ τ) : G E lo n R X cc own nL ret Po pc ls (st) σ τ := by
  subst hq
  exact fun hX H locs la hP hS hl => lv_ldc2 hX.1 hX.2.1 hX.2.2.2.1 (hX.2.2.2.2.1 _ hw) hd (k hX H locs la hP hS hl)
theorem g_istore_n {i : Fin 4} {j : Nat} {x : Int32} (hd : decode cc pc = .ok (.istore_n i, 1)) (hi : (i : Nat) = j) (hn : j < nL) (hs : okS ls j = true) (hq : pc + 1 = q) (k : G E lo n R X cc own nL ret Po q (ls.set j (some (.int x))) st σ τ) : G E lo n R X cc own nL ret Po pc ls (.int x :: st) σ τ := by
  subst hq
  exact fun hX H locs la hP hS hl => lv_istore_n hX.1 hX.2.1 hd hi (lh_has hl) hn rfl (fun la' hl' => k hX H locs la' hP hS (lh_set hs hl'))
theorem g_istore {i : Nat} {x : Int32} (hd : decode cc pc = .ok (.istore i, 2)) (hn : i < nL) (hs : okS ls i = true) (hq : pc + 2 = q) (k : G E lo n R X cc own nL ret Po q (ls.set i (some (.int x))) st σ τ) : G E lo n R X cc own nL ret Po pc ls (.int x :: st) σ τ := by
  subst hq
  exact fun hX H locs la hP hS hl => lv_istore hX.1 hX.2.1 hd (lh_has hl) hn rfl (fun la' hl' => k hX H locs la' hP hS (lh_set hs hl'))
theorem g_astore_n {i : Fin 4} {j : Nat} {x : Nat} (hd : decode cc pc = .ok (.astore_n i, 1)) (hi : (i : Nat) = j) (hn : j < nL) (hs : okS ls j = true) (hq : pc + 1 = q) (k : G E lo n R X cc own nL ret Po q (ls.set j (some (.ref x))) st σ τ) : G E lo n R X cc own nL ret Po pc ls (.ref x :: st) σ τ := by
  subst hq
  exact fun hX H locs la hP hS hl => lv_astore_n hX.1 hX.2.1 hd hi (lh_has hl) hn rfl (fun la' hl' => k hX H locs la' hP hS (lh_set hs hl'))
theorem g_lstore_n {i : Fin 4} {j : Nat} {x : Int64} (hd : decode cc pc = .ok (.lstore_n i, 1)) (hi : (i : Nat) = j) (hn : j + 1 < nL) (hs : okS ls j = true) (hq : pc + 1 = q) (k : G E lo n R X cc own nL ret Po q ((ls.set j (some (.long x))).set (j + 1) none) st σ τ) : G E lo n R X cc own nL ret Po pc ls (.long x :: st) σ τ := by
  subst hq
  exact fun hX H locs la hP hS hl => lv_lstore_n hX.1 hX.2.1 hd hi (lh_has hl) hn rfl (fun la' hl' => k hX H locs la' hP hS (lh_set2 hs hl'))
theorem g_lstore {i : Nat} {x : Int64} (hd : decode cc pc = .ok (.lstore i, 2)) (hn : i + 1 < nL) (hs : okS ls i = true) (hq : pc + 2 = q) (k : G E lo n R X cc own nL ret Po q ((ls.set i (some (.long x))).set (i + 1) none) st σ τ) : G E lo n R X cc own nL ret Po pc ls (.long x :: st) σ τ := by
  subst hq
  exact fun hX H locs la hP hS hl => lv_lstore hX.1 hX.2.1 hd (lh_has hl) hn rfl (fun la' hl' => k hX H locs la' hP hS (lh_set2 hs hl'))
theorem g_iinc {i : Nat} {d : Int} {x w : Int32} (hd : decode cc pc = .ok (.iinc i d, 3)) (hv : ls[i]? = some (some (.int x))) (hw : Int32.ofInt d = w) (hn : i < nL) (hs : okS ls i = true) (hq : pc + 3 = q) (k : G E lo n R X cc own nL ret Po q (ls.set i (some (.int (x + w)))) st σ τ) : G E lo n R X cc own nL ret Po pc ls st σ τ := by
  subst hq
  subst hw
  intro hX H locs la hP hS hl
  obtain ⟨j, hj⟩ := List.getElem?_of_mem (lvOf_mem.mpr hv)
  exact lv_iinc hX.1 hX.2.1 hd (lh_has hl) hj rfl hn rfl (fun la' hl' => k hX H locs la' hP hS (lh_set hs hl'))
theorem g_goto {off : Int} {t : Nat} (hd : decode cc pc = .ok (.goto off, 3)) (ht : (pc : Int) + off = (t : Int)) (k : G E lo n R X cc own nL ret Po t ls st σ τ) : G E lo n R X cc own nL ret Po pc ls st σ τ :=
  fun hX H locs la hP hS hl => lv_goto hX.1 hX.2.1 hd ht (k hX H locs la hP hS hl)
theorem g_if_eq {x : Int32} {off : Int} {t : Nat} (hd : decode cc pc = .ok (.ifCond .eq off, 3)) (ht : (pc : Int) + off = (t : Int)) (hq : pc + 3 = q) (kt : x = 0 → G E lo n R X cc own nL ret Po t ls st σ τ) (kf : ¬ x = 0 → G E lo n R X cc own nL ret Po q ls st σ τ) : G E lo n R X cc own nL ret Po pc ls (.int x :: st) σ τ := by
  subst hq
  exact fun hX H locs la hP hS hl => lv_if_eq hX.1 hX.2.1 hd ht (fun c => kt c hX H locs la hP hS hl) (fun c => kf c hX H locs la hP hS hl)
theorem g_if_ne {x : Int32} {off : Int} {t : Nat} (hd : decode cc pc = .ok (.ifCond .ne off, 3)) (ht : (pc : Int) + off = (t : Int)) (hq : pc + 3 = q) (kt : ¬ x = 0 → G E lo n R X cc own nL ret Po t ls st σ τ) (kf : x = 0 → G E lo n R X cc own nL ret Po q ls st σ τ) : G E lo n R X cc own nL ret Po pc ls (.int x :: st) σ τ := by
  subst hq
  exact fun hX H locs la hP hS hl => lv_if_ne hX.1 hX.2.1 hd ht (fun c => kt c hX H locs la hP hS hl) (fun c => kf c hX H locs la hP hS hl)
theorem g_if_lt {x : Int32} {off : Int} {t : Nat} (hd : decode cc pc = .ok (.ifCond .lt off, 3)) (ht : (pc : Int) + off = (t : Int)) (hq : pc + 3 = q) (kt : x < 0 → G E lo n R X cc own nL ret Po t ls st σ τ) (kf : ¬ x < 0 → G E lo n R X cc own nL ret Po q ls st σ τ) : G E lo n R X cc own nL ret Po pc ls (.int x :: st) σ τ := by
  subst hq
  exact fun hX H locs la hP hS hl => lv_if_lt hX.1 hX.2.1 hd ht (fun c => kt c hX H locs la hP hS hl) (fun c => kf c hX H locs la hP hS hl)
theorem g_if_ge {x : Int32} {off : Int} {t : Nat} (hd : decode cc pc = .ok (.ifCond .ge off, 3)) (ht : (pc : Int) + off = (t : Int)) (hq : pc + 3 = q) (kt : 0 ≤ x → G E lo n R X cc own nL ret Po t ls st σ τ) (kf : ¬ 0 ≤ x → G E lo n R X cc own nL ret Po q ls st σ τ) : G E lo n R X cc own nL ret Po pc ls (.int x :: st) σ τ := by
  subst hq
  exact fun hX H locs la hP hS hl => lv_if_ge hX.1 hX.2.1 hd ht (fun c => kt c hX H locs la hP hS hl) (fun c => kf c hX H locs la hP hS hl)
theorem g_if_gt {x : Int32} {off : Int} {t : Nat} (hd : decode cc pc = .ok (.ifCond .gt off, 3)) (ht : (pc : Int) + off = (t : Int)) (hq : pc + 3 = q) (kt : 0 < x → G E lo n R X cc own nL ret Po t ls st σ τ) (kf : ¬ 0 < x → G E lo n R X cc own nL ret Po q ls st σ τ) : G E lo n R X cc own nL ret Po pc ls (.int x :: st) σ τ := by
  subst hq
  exact fun hX H locs la hP hS hl => lv_if_gt hX.1 hX.2.1 hd ht (fun c => kt c hX H locs la hP hS hl) (fun c => kf c hX H locs la hP hS hl)
theorem g_if_le {x : Int32} {off : Int} {t : Nat} (hd : decode cc pc = .ok (.ifCond .le off, 3)) (ht : (pc : Int) + off = (t : Int)) (hq : pc + 3 = q) (kt : x ≤ 0 → G E lo n R X cc own nL ret Po t ls st σ τ) (kf : ¬ x ≤ 0 → G E lo n R X cc own nL ret Po q ls st σ τ) : G E lo n R X cc own nL ret Po pc ls (.int x :: st) σ τ := by
  subst hq
  exact fun hX H locs la hP hS hl => lv_if_le hX.1 hX.2.1 hd ht (fun c => kt c hX H locs la hP hS hl) (fun c => kf c hX H locs la hP hS hl)
theorem g_icmp_eq {x y : Int32} {off : Int} {t : Nat} (hd : decode cc pc = .ok (.if_icmp .eq off, 3)) (ht : (pc : Int) + off = (t : Int)) (hq : pc + 3 = q) (kt : x = y → G E lo n R X cc own nL ret Po t ls st σ τ) (kf : ¬ x = y → G E lo n R X cc own nL ret Po q ls st σ τ) : G E lo n R X cc own nL ret Po pc ls (.int y :: .int x :: st) σ τ := by
  subst hq
  exact fun hX H locs la hP hS hl => lv_icmp_eq hX.1 hX.2.1 hd ht (fun c => kt c hX H locs la hP hS hl) (fun c => kf c hX H locs la hP hS hl)
theorem g_icmp_ne {x y : Int32} {off : Int} {t : Nat} (hd : decode cc pc = .ok (.if_icmp .ne off, 3)) (ht : (pc : Int) + off = (t : Int)) (hq : pc + 3 = q) (kt : ¬ x = y → G E lo n R X cc own nL ret Po t ls st σ τ) (kf : x = y → G E lo n R X cc own nL ret Po q ls st σ τ) : G E lo n R X cc own nL ret Po pc ls (.int y :: .int x :: st) σ τ := by
  subst hq
  exact fun hX H locs la hP hS hl => lv_icmp_ne hX.1 hX.2.1 hd ht (fun c => kt c hX H locs la hP hS hl) (fun c => kf c hX H locs la hP hS hl)
theorem g_icmp_lt {x y : Int32} {off : Int} {t : Nat} (hd : decode cc pc = .ok (.if_icmp .lt off, 3)) (ht : (pc : Int) + off = (t : Int)) (hq : pc + 3 = q) (kt : x < y → G E lo n R X cc own nL ret Po t ls st σ τ) (kf : ¬ x < y → G E lo n R X cc own nL ret Po q ls st σ τ) : G E lo n R X cc own nL ret Po pc ls (.int y :: .int x :: st) σ τ := by
  subst hq
  exact fun hX H locs la hP hS hl => lv_icmp_lt hX.1 hX.2.1 hd ht (fun c => kt c hX H locs la hP hS hl) (fun c => kf c hX H locs la hP hS hl)
theorem g_icmp_ge {x y : Int32} {off : Int} {t : Nat} (hd : decode cc pc = .ok (.if_icmp .ge off, 3)) (ht : (pc : Int) + off = (t : Int)) (hq : pc + 3 = q) (kt : y ≤ x → G E lo n R X cc own nL ret Po t ls st σ τ) (kf : ¬ y ≤ x → G E lo n R X cc own nL ret Po q ls st σ τ) : G E lo n R X cc own nL ret Po pc ls (.int y :: .int x :: st) σ τ := by
  subst hq
  exact fun hX H locs la hP hS hl => lv_icmp_ge hX.1 hX.2.1 hd ht (fun c => kt c hX H locs la hP hS hl) (fun c => kf c hX H locs la hP hS hl)
theorem g_icmp_gt {x y : Int32} {off : Int} {t : Nat} (hd : decode cc pc = .ok (.if_icmp .gt off, 3)) (ht : (pc : Int) + off = (t : Int)) (hq : pc + 3 = q) (kt : y < x → G E lo n R X cc own nL ret Po t ls st σ τ) (kf : ¬ y < x → G E lo n R X cc own nL ret Po q ls st σ τ) : G E lo n R X cc own nL ret Po pc ls (.int y :: .int x :: st) σ τ := by
  subst hq
  exact fun hX H locs la hP hS hl => lv_icmp_gt hX.1 hX.2.1 hd ht (fun c => kt c hX H locs la hP hS hl) (fun c => kf c hX H locs la hP hS hl)
theorem g_icmp_le {x y : Int32} {off : Int} {t : Nat} (hd : decode cc pc = .ok (.if_icmp .le off, 3)) (ht : (pc : Int) + off = (t : Int)) (hq : pc + 3 = q) (kt : x ≤ y → G E lo n R X cc own nL ret Po t ls st σ τ) (kf : ¬ x ≤ y → G E lo n R X cc own nL ret Po q ls st σ τ) : G E lo n R X cc own nL ret Po pc ls (.int y :: .int x :: st) σ τ := by
  subst hq
  exact fun hX H locs la hP hS hl => lv_icmp_le hX.1 hX.2.1 hd ht (fun c => kt c hX H locs la hP hS hl) (fun c => kf c hX H locs la hP hS hl)
theorem g_tabIn {dflt a b : Int} {offs : Array Int} {len : Nat} {x : Int32} {off : Int} {t : Nat} (hd : decode cc pc = .ok (.tableswitch dflt a b offs, len)) (h1 : ¬ x.toInt < a) (h2 : ¬ b < x.toInt) (ho : offs[(x.toInt - a).toNat]? = some off) (ht : (pc : Int) + off = (t : Int)) (k : G E lo n R X cc own nL ret Po t ls st σ τ) : G E lo n R X cc own nL ret Po pc ls (.int x :: st) σ τ :=
  fun hX H locs la hP hS hl => lv_tableIn hX.1 hX.2.1 hd h1 h2 ho ht (k hX H locs la hP hS hl)
theorem g_tabOut {dflt a b : Int} {offs : Array Int} {len : Nat} {x : Int32} {t : Nat} (hd : decode cc pc = .ok (.tableswitch dflt a b offs, len)) (h : x.toInt < a ∨ b < x.toInt) (ht : (pc : Int) + dflt = (t : Int)) (k : G E lo n R X cc own nL ret Po t ls st σ τ) : G E lo n R X cc own nL ret Po pc ls (.int x :: st) σ τ :=
  fun hX H locs la hP hS hl => lv_tableOut hX.1 hX.2.1 hd h ht (k hX H locs la hP hS hl)
theorem g_look {dflt : Int} {ps : Array (Int × Int)} {len : Nat} {x : Int32} {off : Int} {t : Nat} (hd : decode cc pc = .ok (.lookupswitch dflt ps, len)) (hp : (ps.toList.zip (ps.toList.drop 1)).all (fun (a, next) => a.1 < next.1) = true) (ho : Op.lookupswitch.offset ps.toList dflt x.toInt = off) (ht : (pc : Int) + off = (t : Int)) (k : G E lo n R X cc own nL ret Po t ls st σ τ) : G E lo n R X cc own nL ret Po pc ls (.int x :: st) σ τ :=
  fun hX H locs la hP hS hl => lv_lookup hX.1 hX.2.1 hd hp ho ht (k hX H locs la hP hS hl)
/-- the store may be told otherwise where the machine doesn't look -/
theorem g_store {σ' : Sto} {τ' : Stl} (h : ∀ k, lo ≤ k → k < lo + n → ∀ H, va_at E.2.2.1 cls (E.2.1 k, ent E σ τ k) H → va_at E.2.2.1 cls (E.2.1 k, ent E σ' τ' k) H) (k : G E lo n R X cc own nL ret Po pc ls st σ' τ') : G E lo n R X cc own nL ret Po pc ls st σ τ := by
  intro hX H locs la hP hS hl
  refine k hX H locs la (fun i q hi => ?_) hS hl
  obtain ⟨h1, rfl⟩ := wr_at hi
  have := hP i (E.2.1 (lo + i), ent E σ τ (lo + i)) (by
    have := wr_get (E := E) (σ := σ) (τ := τ) (show lo ≤ lo + i by omega) (show lo + i < lo + n by omega)
    rwa [show lo + i - lo = i by omega] at this)
  exact h (lo + i) (by omega) (by omega) H this
-- heap
theorem g_get {k ci : Nat} {fs : List Value} {C : String} {T : u_T} {N idx : Nat} {v : Value} (h1 : lo ≤ k) (h2 : k < lo + n) (he : ent E σ τ k = .inr (ci, fs)) (hc : cls[ci]? = some (C, T, N)) (hin : ∀ w ∈ u_ws C T N, w ∈ gt) (j : Nat) (hj : j < N) (hw : Cond.fieldLink own idx (T j).1 (T j).2.1 (T j).2.2.1 ∈ gt) (hv : fs[j]? = some v) (hd : decode cc pc = .ok (.getfield idx, 3)) (hq : pc + 3 = q) (kk : G E lo n R X cc own nL ret Po q ls (v :: st) σ τ) : G E lo n R X cc own nL ret Po pc ls (.ref (E.2.1 k) :: st) σ τ := by
  subst hq
  intro hX H locs la hP hS hl
  exact va_get hX.1 hX.2.1 hX.2.2.2.2.1 hin hX.2.2.2.1 hX.2.2.2.2.2.1 hP _ (by rw [wr_get h1 h2, he]) hc j hj (hX.2.2.2.2.1 _ hw) (fun _ h => h) hv hd (kk hX H locs la hP hS hl)
theorem g_put {k ci : Nat} {fs : List Value} {C : String} {T : u_T} {N idx : Nat} {ty : FieldType} {v : Value} {σ' : Sto} {τ' : Stl} (h1 : lo ≤ k) (h2 : k < lo + n) (he : ent E σ τ k = .inr (ci, fs)) (hc : cls[ci]? = some (C, T, N)) (hin : ∀ w ∈ u_ws C T N, w ∈ gt) (ty0 : Nat → FieldType) (hty : ∀ k, k < N → parseFieldDescriptor (T k).2.2.1 = some (ty0 k)) (hnm : ∀ a, a < N → ∀ b, b < N → a ≠ b → (T a).2.1 ≠ (T b).2.1) (j : Nat) (hj : j < N) (hl : j < fs.length) (hf : (T j).2.2.2 = false) (hpd : parseFieldDescriptor (T j).2.2.1 = some ty) (hna : narrow ty v = v) (hfi : fits ty v = true)
    (he' : ent E σ' τ' k = .inr (ci, fs.set j v)) (ho : ∀ a, a ≠ k → ent E σ' τ' a = ent E σ τ a)
    (hw : Cond.fieldLink own idx (T j).1 (T j).2.1 (T j).2.2.1 ∈ gt) (hd : decode cc pc = .ok (.putfield idx, 3)) (hq : pc + 3 = q) (kk : G E lo n R X cc own nL ret Po q ls st σ' τ') : G E lo n R X cc own nL ret Po pc ls (v :: .ref (E.2.1 k) :: st) σ τ := by
  subst hq
  intro hX H locs la hP hS hl0
  refine va_put hX.1 hX.2.1 hX.2.2.2.2.1 hin ty0 hty hnm hX.2.2.2.1 hX.2.2.2.2.2.1 hP (wr_D hX.2.2.2.2.2.2.1) hS _ (by rw [wr_get h1 h2, he]) hc j hj (hX.2.2.2.2.1 _ hw) (fun _ h => h) hf hpd hna hfi hl hd (fun H1 locs1 hP1 hD1 hS1 => ?_)
  rw [wr_set h1 h2 he' ho] at hP1
  exact kk hX H1 locs1 la hP1 hS1 hl0
theorem g_iald {k : Nat} {i : Int32} (h1 : lo ≤ k) (h2 : k < lo + n) (hk : kd k = 8) (hin : vp_in i (ln k)) (hd : decode cc pc = .ok (.iaload, 1)) (hq : pc + 1 = q) (kk : G E lo n R X cc own nL ret Po q ls (.int (σ k i.toNatClampNeg) :: st) σ τ) : G E lo n R X cc own nL ret Po pc ls (.int i :: .ref (E.2.1 k) :: st) σ τ := by
  subst hq
  intro hX H locs la hP hS hl
  exact va_iald hX.1 hX.2.1 hX.2.2.2.2.2.1 hP _ 0 (by rw [wr_get h1 h2, ent_int hk]) rfl hin hd (kk hX H locs la hP hS hl)
theorem g_zald {k : Nat} {i : Int32} (h1 : lo ≤ k) (h2 : k < lo + n) (hk : kd k = 9) (hin : vp_in i (ln k)) (hd : decode cc pc = .ok (.baload, 1)) (hq : pc + 1 = q) (kk : G E lo n R X cc own nL ret Po q ls (.int (σ k i.toNatClampNeg) :: st) σ τ) : G E lo n R X cc own nL ret Po pc ls (.int i :: .ref (E.2.1 k) :: st) σ τ := by
  subst hq
  intro hX H locs la hP hS hl
  exact va_zald hX.1 hX.2.1 hX.2.2.2.2.2.1 hP _ 1 (by rw [wr_get h1 h2, ent_bool hk]) rfl hin hd (kk hX H locs la hP hS hl)
theorem g_iast {k : Nat} {i x : Int32} (h1 : lo ≤ k) (h2 : k < lo + n) (hk : kd k = 8) (hin : vp_in i (ln k)) (hd : decode cc pc = .ok (.iastore, 1)) (hq : pc + 1 = q) (kk : G E lo n R X cc own nL ret Po q ls st (upc σ k (upd (σ k) i.toNatClampNeg x)) τ) : G E lo n R X cc own nL ret Po pc ls (.int x :: .int i :: .ref (E.2.1 k) :: st) σ τ := by
  subst hq
  intro hX H locs la hP hS hl
  refine va_iast hX.1 hX.2.1 hX.2.2.2.2.2.1 hP (wr_D hX.2.2.2.2.2.2.1) hS _ 0 (by rw [wr_get h1 h2, ent_int hk]) rfl hin hd (fun H1 locs1 hP1 hD1 hS1 => ?_)
  rw [wr_set (σ' := upc σ k (upd (σ k) i.toNatClampNeg x)) (τ' := τ) h1 h2 (by rw [ent_int hk, upc_same]) (fun a ha => ent_off ha)] at hP1
  exact kk hX H1 locs1 la hP1 hS1 hl
theorem g_zast {k : Nat} {i x : Int32} (h1 : lo ≤ k) (h2 : k < lo + n) (hk : kd k = 9) (hin : vp_in i (ln k)) (hx : vp_nar .boolean x = x) (hd : decode cc pc = .ok (.bastore, 1)) (hq : pc + 1 = q) (kk : G E lo n R X cc own nL ret Po q ls st (upc σ k (upd (σ k) i.toNatClampNeg x)) τ) : G E lo n R X cc own nL ret Po pc ls (.int x :: .int i :: .ref (E.2.1 k) :: st) σ τ := by
  subst hq
  intro hX H locs la hP hS hl
  refine va_zast hX.1 hX.2.1 hX.2.2.2.2.2.1 hP (wr_D hX.2.2.2.2.2.2.1) hS _ 1 (by rw [wr_get h1 h2, ent_bool hk]) rfl hin hd (fun H1 locs1 hP1 hD1 hS1 => ?_)
  rw [hx, wr_set (σ' := upc σ k (upd (σ k) i.toNatClampNeg x)) (τ' := τ) h1 h2 (by rw [ent_bool hk, upc_same]) (fun a ha => ent_off ha)] at hP1
  exact kk hX H1 locs1 la hP1 hS1 hl
theorem g_copy {idx k0 k1 : Nat} {sp dp w : Int32} (h1 : lo ≤ k0) (h2 : k0 < lo + n) (hk : kd k0 = 8) (h3 : lo ≤ k1) (h4 : k1 < lo + n) (hk1 : kd k1 = 8) (hw : Cond.methodLink own idx arraycopyName ∈ gt) (hw1 : Cond.native arraycopyName ∈ gt) (hw2 : Cond.static arraycopyName ∈ gt) (hw3 : Cond.initialized "java/lang/System" ∈ gt)
    (a1 : ¬ sp < 0) (a2 : ¬ dp < 0) (a3 : ¬ w < 0) (a4 : sp.toNatClampNeg + w.toNatClampNeg ≤ ln k0) (a5 : dp.toNatClampNeg + w.toNatClampNeg ≤ ln k1) (hfr : 1 ≤ R.frames) (hlo : (st.map fun v => v.category).sum + 18 ≤ R.locals) (hd : decode cc pc = .ok (.invokestatic idx, 3)) (hq : pc + 3 = q) (kk : G E lo n R X cc own nL ret Po q ls st (upc σ k1 (va_cpy (σ k0) (σ k1) sp.toNatClampNeg dp.toNatClampNeg w.toNatClampNeg)) τ) : G E lo n R X cc own nL ret Po pc ls (.int w :: .int dp :: .ref (E.2.1 k1) :: .int sp :: .ref (E.2.1 k0) :: st) σ τ := by
  subst hq
  intro hX H locs la hP hS hl
  refine va_copyi hX.1 hX.2.1 (by rw [hX.2.2.1, hl.1]) hX.2.2.2.1 (hX.2.2.2.2.1 _ hw) (hX.2.2.2.2.1 _ hw1) (hX.2.2.2.2.1 _ hw2) (hX.2.2.2.2.1 _ hw3) hX.2.2.2.2.2.1 hP (wr_D hX.2.2.2.2.2.2.1) hS _ _ 0 0 (by rw [wr_get h1 h2, ent_int hk]) (by rw [wr_get h3 h4, ent_int hk1]) rfl rfl rfl a1 a2 a3 a4 a5 (fun i hi => rfl) hfr hlo hd (fun H1 locs1 hP1 hD1 hS1 => ?_)
  rw [wr_set (σ' := upc σ k1 (va_cpy (σ k0) (σ k1) sp.toNatClampNeg dp.toNatClampNeg w.toNatClampNeg)) (τ' := τ) h3 h4 (by rw [ent_int hk1, upc_same]) (fun a ha => ent_off ha)] at hP1
  exact kk hX H1 locs1 la hP1 hS1 hl
theorem g_mmax {idx : Nat} {x y : Int32} (hw : Cond.methodLink own idx Lib.Math.max.name ∈ gt) (hw1 : Cond.static Lib.Math.max.name ∈ gt) (hw2 : Cond.initialized "java/lang/Math" ∈ gt) (hw3 : Cond.code Lib.Math.max.name Lib.Math.max.code 2 (some .int) ∈ gt) (hfr : 1 ≤ R.frames) (hlo : (st.map fun v => v.category).sum + 13 ≤ R.locals) (hd : decode cc pc = .ok (.invokestatic idx, 3)) (hq : pc + 3 = q) (kk : G E lo n R X cc own nL ret Po q ls (.int (if x < y then y else x) :: st) σ τ) : G E lo n R X cc own nL ret Po pc ls (.int y :: .int x :: st) σ τ := by
  subst hq
  intro hX H locs la hP hS hl
  exact va_mmax hX.1 hX.2.1 (by rw [hX.2.2.1, hl.1]) hX.2.2.2.1 (hX.2.2.2.2.1 _ hw) (hX.2.2.2.2.1 _ hw1) (hX.2.2.2.2.1 _ hw2) (hX.2.2.2.2.1 _ hw3) hfr hlo hX.2.2.2.2.2.2.2.2.2.1.1 hX.2.2.2.2.2.2.2.2.2.1.2 hd (kk hX H locs la hP hS hl)

theorem g_mmin {idx : Nat} {x y : Int32} (hw : Cond.methodLink own idx Lib.Math.min.name ∈ gt) (hw1 : Cond.static Lib.Math.min.name ∈ gt) (hw2 : Cond.initialized "java/lang/Math" ∈ gt) (hw3 : Cond.code Lib.Math.min.name Lib.Math.min.code 2 (some .int) ∈ gt) (hfr : 1 ≤ R.frames) (hlo : (st.map fun v => v.category).sum + 13 ≤ R.locals) (hd : decode cc pc = .ok (.invokestatic idx, 3)) (hq : pc + 3 = q) (kk : G E lo n R X cc own nL ret Po q ls (.int (if y < x then y else x) :: st) σ τ) : G E lo n R X cc own nL ret Po pc ls (.int y :: .int x :: st) σ τ := by
  subst hq
  intro hX H locs la hP hS hl
  exact va_mmin hX.1 hX.2.1 (by rw [hX.2.2.1, hl.1]) hX.2.2.2.1 (hX.2.2.2.2.1 _ hw) (hX.2.2.2.2.1 _ hw1) (hX.2.2.2.2.1 _ hw2) (hX.2.2.2.2.1 _ hw3) hfr hlo hX.2.2.2.2.2.2.2.2.2.1.1 hX.2.2.2.2.2.2.2.2.2.1.2 hd (kk hX H locs la hP hS hl)
theorem g_mmaxL {idx : Nat} {x y : Int64} (hw : Cond.methodLink own idx Lib.MathLoose.max_long.x ∈ gt) (hw1 : Cond.static Lib.MathLoose.max_long.x ∈ gt) (hw2 : Cond.initialized "java/lang/Math" ∈ gt) (hw3 : Cond.code Lib.MathLoose.max_long.x Lib.MathLoose.max_long.code 4 (some .long) ∈ gt) (hfr : 1 ≤ R.frames) (hlo : (st.map fun v => v.category).sum + 15 ≤ R.locals) (hd : decode cc pc = .ok (.invokestatic idx, 3)) (hq : pc + 3 = q) (kk : G E lo n R X cc own nL ret Po q ls (.long (if y < x then x else y) :: st) σ τ) : G E lo n R X cc own nL ret Po pc ls (.long y :: .long x :: st) σ τ := by
  subst hq
  intro hX H locs la hP hS hl
  exact va_mmax_long hX.1 hX.2.1 (by rw [hX.2.2.1, hl.1]) hX.2.2.2.1 (hX.2.2.2.2.1 _ hw) (hX.2.2.2.2.1 _ hw1) (hX.2.2.2.2.1 _ hw2) (hX.2.2.2.2.1 _ hw3) hfr hlo hX.2.2.2.2.2.2.2.2.2.1.1 hX.2.2.2.2.2.2.2.2.2.1.2 hd (kk hX H locs la hP hS hl)
-- ends
theorem g_iret {v : Int32} (hd : decode cc pc = .ok (.ireturn, 1)) (h : Po (some (.int v)) σ τ) : G E lo n R X cc own nL (some .int) Po pc ls [.int v] σ τ := by
  intro hX H locs la hP hS hl
  unfold WX
  rw [hX.2.2.2.2.2.2.2.2.2.2 ⟨_, _, _, h⟩]
  exact W.iret hX.1 hX.2.1 hX.2.2.2.2.2.2.2.1 (fun t ht hW => ⟨⟨_, _, _, rfl, h, by rw [ht]; exact hP⟩, hS.F ht⟩) hS.2.2 hd hX.2.2.2.2.2.2.2.2.1
theorem g_zret {v : Int32} (hd : decode cc pc = .ok (.ireturn, 1)) (hn : narrow .boolean (.int v) = .int v) (h : Po (some (.int v)) σ τ) : G E lo n R X cc own nL (some .boolean) Po pc ls [.int v] σ τ := by
  intro hX H locs la hP hS hl
  unfold WX
  rw [hX.2.2.2.2.2.2.2.2.2.2 ⟨_, _, _, h⟩]
  exact W.zret hX.1 hX.2.1 hX.2.2.2.2.2.2.2.1 hn (fun t ht hW => ⟨⟨_, _, _, rfl, h, by rw [ht]; exact hP⟩, hS.F ht⟩) hS.2.2 hd hX.2.2.2.2.2.2.2.2.1
theorem g_vret (hd : decode cc pc = .ok (.return_, 1)) (h : Po none σ τ) : G E lo n R X cc own nL none Po pc ls [] σ τ := by
  intro hX H locs la hP hS hl
  unfold WX
  rw [hX.2.2.2.2.2.2.2.2.2.2 ⟨_, _, _, h⟩]
  exact W.vret hX.1 hX.2.1 hX.2.2.2.2.2.2.2.1 (fun t ht hW => ⟨⟨_, _, _, rfl, h, by rw [ht]; exact hP⟩, hS.F ht⟩) hS.2.2 hd hX.2.2.2.2.2.2.2.2.1
theorem g_lret {v : Int64} (hd : decode cc pc = .ok (.lreturn, 1)) (h : Po (some (.long v)) σ τ) : G E lo n R X cc own nL (some .long) Po pc ls [.long v] σ τ := by
  intro hX H locs la hP hS hl
  unfold WX
  rw [hX.2.2.2.2.2.2.2.2.2.2 ⟨_, _, _, h⟩]
  exact W.lret hX.1 hX.2.1 hX.2.2.2.2.2.2.2.1 (fun t ht hW => ⟨⟨_, _, _, rfl, h, by rw [ht]; exact hP⟩, hS.F ht⟩) hS.2.2 hd hX.2.2.2.2.2.2.2.2.1
theorem g_aret {a : Nat} {C : String} (hd : decode cc pc = .ok (.areturn, 1)) (h : Po (some (.ref a)) σ τ) : G E lo n R X cc own nL (some (.object C)) Po pc ls [.ref a] σ τ := by
  intro hX H locs la hP hS hl
  unfold WX
  rw [hX.2.2.2.2.2.2.2.2.2.2 ⟨_, _, _, h⟩]
  exact W.aret hX.1 hX.2.1 hX.2.2.2.2.2.2.2.1 (Or.inl ⟨_, rfl⟩) (Or.inr ⟨_, rfl⟩) (fun t ht hW => ⟨⟨_, _, _, rfl, h, by rw [ht]; exact hP⟩, hS.F ht⟩) hS.2.2 hd hX.2.2.2.2.2.2.2.2.1

end ROWS
/-- a method's contract: with these arguments and this store it ends as Po says -/
def Ct (E : EE) (lo n : Nat) (y : MethodName) (cb : ByteArray) (nL : Nat) (ret : Option FieldType) (rm : Room) (as : List Value) (σ : Sto) (τ : Stl) (Po : Option Value → Sto → Stl → Prop) : Prop :=
  Met E.1 y (Cond.code y cb nL ret :: gt) rm (va_Pc as (fun U => va_P E.2.2.1 cls (wr E lo n σ τ) U.heap ∧ va_K E.2.2.1 cls (tyl E) U)) (Qo E lo n Po) 0 0 (AA E lo n)
def Pi (v : Int32) (σ : Sto) (τ : Stl) : Option Value → Sto → Stl → Prop := fun r σ' τ' => r = some (.int v) ∧ σ' = σ ∧ τ' = τ
def Pl (v : Int64) (σ : Sto) (τ : Stl) : Option Value → Sto → Stl → Prop := fun r σ' τ' => r = some (.long v) ∧ σ' = σ ∧ τ' = τ
def Pv (σ : Sto) (τ : Stl) : Option Value → Sto → Stl → Prop := fun r σ' τ' => r = none ∧ σ' = σ ∧ τ' = τ
def Pr (a : Nat) (σ : Sto) (τ : Stl) : Option Value → Sto → Stl → Prop := fun r σ' τ' => r = some (.ref a) ∧ σ' = σ ∧ τ' = τ
def fl (vs : List Value) : List (Option Value) := vs.flatMap fun v => if v.category = 2 then [some v, none] else [some v]
def lsOf (vs : List Value) (nL : Nat) : List (Option Value) := fl vs ++ List.replicate (nL - (fl vs).length) none
theorem fl_at (vs : List Value) : ∀ (i : Nat) (v : Value), (fl vs)[i]? = some (some v) → (lg_sl vs)[i]? = some (.val v) := by
  induction vs with
  | nil => intro i v h; simp [fl] at h
  | cons w vs ih =>
    intro i v h
    by_cases hc : w.category = 2
    · have e1 : fl (w :: vs) = some w :: none :: fl vs := by simp [fl, hc]
      have e2 : lg_sl (w :: vs) = .val w :: .second :: lg_sl vs := by simp [lg_sl, hc]
      rw [e1] at h
      rw [e2]
      match i, h with
      | 0, h => simp at h; simp [h]
      | 1, h => simp at h
      | i + 2, h =>
        rw [List.getElem?_cons_succ, List.getElem?_cons_succ] at h ⊢
        exact ih i v h
    · have e1 : fl (w :: vs) = some w :: fl vs := by simp [fl, hc]
      have e2 : lg_sl (w :: vs) = .val w :: lg_sl vs := by simp [lg_sl, hc]
      rw [e1] at h
      rw [e2]
      match i, h with
      | 0, h => simp at h; simp [h]
      | i + 1, h =>
        rw [List.getElem?_cons_succ] at h ⊢
        exact ih i v h
theorem ct_of {E : EE} {lo n : Nat} (hE : inj E lo n) {y : MethodName} {cb : ByteArray} {nL : Nat} {ret : Option FieldType} {rm : Room} {as : List Value} {σ : Sto} {τ : Stl} {Po : Option Value → Sto → Stl → Prop} (own : String) (ls : List (Option Value)) (hy : plainName y.cls = true) (hown : y.cls = own) (hlen : (lg_sl as).length ≤ nL) (hls : lsOf as nL = ls) (h : ∀ X : XX, G E lo n rm X cb own nL ret Po 0 ls [] σ τ) : Ct E lo n y cb nL ret rm as σ τ Po := by
  unfold Ct
  refine Met.ofW (cc := cb) (maxL := nL) (ret := ret) hy rfl ?_
  intro p e s m args below meth c s₁ B hml hv
  obtain ⟨rfl, hP, hK⟩ := hv
  have hts := atoms_spec (ws := Cond.code y cb nL ret :: gt) B.pre
  have hfc : s.vm.findClass own = some m.cls := by rw [← hown]; exact findClass_of_methodNamed B.named
  have hl := lv_entry as (n := nL) hlen
  rw [lg_entry_eq]
  refine h (p, e, s, m, as.toArray, below, meth, c, 0, 0, MQ below (Qo E lo n Po) as.toArray s 0 0 (AA E lo n)) ⟨B.exec, B.bytes, hml, hfc, fun w hw => hts w (List.mem_cons_of_mem _ hw), hK, hE, B.returns, B.notSynchronized, ⟨Nat.zero_le _, Nat.zero_le _⟩, fun _ => rfl⟩ s.heap [] _ hP va_S.rf ⟨hl.1, hl.2.1, fun i v hv => ?_⟩
  rw [← hls] at hv
  unfold lsOf at hv
  have hi : i < (fl as).length := by
    rcases Nat.lt_or_ge i (fl as).length with h | h
    · exact h
    · rw [List.getElem?_append_right h] at hv
      have := List.eq_of_mem_replicate (List.mem_of_getElem? hv)
      cases this
  rw [List.getElem?_append_left hi] at hv
  have h2 := fl_at as i v hv
  rw [List.getElem?_toArray, List.getElem?_append_left (List.getElem?_eq_some_iff.mp h2).1]
  exact h2
theorem tbl_in {w : Cond} (h : w ∈ gt) : w ∈ gt ∧ ((w.onTables && w.keeps) = true ∨ ∃ ty, w = .arrayClass ty) := by
  refine ⟨h, ?_⟩
  have h1 := (List.mem_filter.mp h).2
  simp only [Bool.or_eq_true] at h1
  rcases h1 with h2 | h2
  · cases w <;> first | (simp [k2_isCode] at h2; done) | exact Or.inl rfl
  · exact good_of_word h2
/-- what the tables say of a call -/
def LkV (own : String) (idx : Nat) (y : MethodName) (cb : ByteArray) (nL : Nat) (ret : Option FieldType) (np : Nat) : Prop := Cond.methodLink own idx y ∈ gt ∧ Cond.instanceMethod y ∈ gt ∧ Cond.selects y.cls y y ∈ gt ∧ Cond.initialized y.cls ∈ gt ∧ Cond.code y cb nL ret ∈ gt ∧ y.cls ≠ "java/lang/invoke/MethodHandle" ∧ y.cls ≠ "java/lang/invoke/VarHandle" ∧ (parseMethodDescriptor y.desc).map (fun d => d.parameters.length) = some np
def LkS (own : String) (idx : Nat) (y : MethodName) (cb : ByteArray) (nL : Nat) (ret : Option FieldType) (np : Nat) : Prop := Cond.methodLink own idx y ∈ gt ∧ Cond.static y ∈ gt ∧ Cond.initialized y.cls ∈ gt ∧ Cond.code y cb nL ret ∈ gt ∧ y.cls ≠ "java/lang/invoke/MethodHandle" ∧ y.cls ≠ "java/lang/invoke/VarHandle" ∧ (parseMethodDescriptor y.desc).map (fun d => d.parameters.length) = some np
theorem good_code {w : Cond} (h : w ∈ gt) : GoodIn gt (w :: gt) := by
  intro v hv
  rcases List.mem_cons.mp hv with rfl | hv
  · exact tbl_in h
  · exact tbl_in hv
section CALLS
variable {E : EE} {lo n : Nat} {R : Room} {X : XX} {cc : ByteArray} {own : String} {nL : Nat} {ret : Option FieldType} {Po : Option Value → Sto → Stl → Prop} {pc q : Nat} {ls : List (Option Value)} {st stk : List Value} {σ : Sto} {τ : Stl} {y : MethodName} {cb : ByteArray} {nL' : Nat} {ret' : Option FieldType} {rm : Room} {As : List Value} {Po' : Option Value → Sto → Stl → Prop} {idx np k ci : Nat}
theorem w_call {g0 : JFrame} {H : Heap} {locs : List Loc} {a : Array Value} (hr : va_Run X.1 E.1 X.2.1 R X.2.2.1 X.2.2.2.1 X.2.2.2.2.1 X.2.2.2.2.2.1 X.2.2.2.2.2.2.1 X.2.2.2.2.2.2.2.1 H locs X.2.2.2.2.2.2.2.2.1 X.2.2.2.2.2.2.2.2.2.1 0 0 g0 st (Qo E lo n Po' a) (AA E lo n)) (hS : va_S (AA E lo n) X.2.2.1.heap H locs)
    (kk : ∀ r σ' τ', Po' r σ' τ' → ∀ (H1 : Heap) (locs1 : List Loc), va_P E.2.2.1 cls (wr E lo n σ' τ') H1 → va_S (AA E lo n) X.2.2.1.heap H1 locs1 → WX E R X H1 locs1 { g0 with pc := g0.pc + 3, stack := r.toList ++ st }) : WX E R X H locs g0 := by
  intro T hT XS
  obtain ⟨v, st₀, t, T', L, h0, X', hL, e1, e2, ⟨⟨r, σ', τ', hv, hp, hb⟩, hz, hk⟩, st2⟩ := hr T hT XS
  cases hv
  rw [h0] at hz hk
  obtain ⟨t2, a1, b1⟩ := kk v σ' τ' hp T'.heap (locs ++ L) (by rw [e1]; exact hb) ⟨Nat.le_trans hS.1 (by rw [e1]; exact hz), fun q h1 h2 => by rw [e1, hk q (Nat.lt_of_lt_of_le h1 hS.1) h2]; exact hS.2.1 q h1 h2, fun q hq => by
      rcases List.mem_append.mp hq with h | h
      · exact hS.2.2 q h
      · exact hL q h⟩ T' rfl X'
  exact ⟨t2, st2 t2 a1, b1⟩
theorem pre_blind {as : List Value} : FrameBlind (va_Pc as (fun U => va_P E.2.2.1 cls (wr E lo n σ τ) U.heap ∧ va_K E.2.2.1 cls (tyl E) U)) := fun a U g mk q => by
  obtain ⟨q0, qP, qK⟩ := q
  exact ⟨q0, qP, va_K.moved (u := U) (U := U.calling g mk a) (Vm.Alike.refl U.vm) qK⟩
/-- a call of an object's method -/
theorem g_callV {qc : vw_C} (ct : Ct E lo n y cb nL' ret' rm (.ref (E.2.1 k) :: As) σ τ Po') (lk : LkV own idx y cb nL' ret' np) (h1 : lo ≤ k) (h2 : k < lo + n) (hk : kd k = ci) (hc8 : ci < 8) (hqc : cls[ci]? = some qc) (hqy : qc.1 = y.cls) (hst : stk = As.reverse ++ .ref (E.2.1 k) :: st) (hnp : As.length = np) (hrc : rm.cells = 0) (hrs : rm.slots = 0) (hW : (st.map fun v => v.category).sum ≤ 8) (hfr : rm.frames + 1 ≤ R.frames) (hlo : 8 + (nL' + 11) + rm.locals ≤ R.locals) (hd : decode cc pc = .ok (.invokevirtual idx, 3)) (hq : pc + 3 = q)
    (kk : ∀ r σ' τ', Po' r σ' τ' → G E lo n R X cc own nL ret Po q ls (r.toList ++ st) σ' τ') : G E lo n R X cc own nL ret Po pc ls stk σ τ := by
  subst hq
  subst hst
  intro hX H locs la hP hS hl
  refine w_call (va_runV (C := y.cls) (As := As) (rest := st) (n := np) ⟨hX.1, hX.2.1, hX.2.2.1, hX.2.2.2.1, hX.2.2.2.2.1⟩ ct ⟨callB_of np hX.2.2.2.2.1 (good_code lk.2.2.2.2.1) rfl hrc hrs (hX.2.2.2.2.1 _ lk.2.2.2.1) (hX.2.2.2.2.1 _ lk.1) lk.2.2.2.2.2 ⟨hfr, hlo⟩, hX.2.2.2.2.1 _ lk.2.1, hX.2.2.2.2.1 _ lk.2.2.1⟩ ⟨pre_blind, ?_, fun U hU hWm => ⟨rfl, by rw [hU]; exact hP, va_K.moved hWm.alike hX.2.2.2.2.2.1⟩⟩ rfl hnp hl.1 rfl (by show 2 * 0 + _ ≤ 8; omega) hd ⟨hX.2.2.2.2.2.2.2.2.2.1.1, hX.2.2.2.2.2.2.2.2.2.1.2⟩) hS (fun r σ' τ' hp H1 locs1 hP1 hS1 => kk r σ' τ' hp hX H1 locs1 la hP1 hS1 hl)
  rw [← hqy]
  exact va_recv hX.2.2.2.2.2.1 hP hqc (by rw [wr_get h1 h2, ent_obj hk hc8])
/-- a call of a static method -/
theorem g_callS (ct : Ct E lo n y cb nL' ret' rm As σ τ Po') (lk : LkS own idx y cb nL' ret' np) (hst : stk = As.reverse ++ st) (hnp : As.length = np) (hrc : rm.cells = 0) (hrs : rm.slots = 0) (hW : (st.map fun v => v.category).sum ≤ 8) (hfr : rm.frames + 1 ≤ R.frames) (hlo : 8 + (nL' + 11) + rm.locals ≤ R.locals) (hd : decode cc pc = .ok (.invokestatic idx, 3)) (hq : pc + 3 = q)
    (kk : ∀ r σ' τ', Po' r σ' τ' → G E lo n R X cc own nL ret Po q ls (r.toList ++ st) σ' τ') : G E lo n R X cc own nL ret Po pc ls stk σ τ := by
  subst hq
  subst hst
  intro hX H locs la hP hS hl
  exact w_call (va_runS (As := As) (rest := st) (n := np) ⟨hX.1, hX.2.1, hX.2.2.1, hX.2.2.2.1, hX.2.2.2.2.1⟩ ct ⟨callB_of np hX.2.2.2.2.1 (good_code lk.2.2.2.1) rfl hrc hrs (hX.2.2.2.2.1 _ lk.2.2.1) (hX.2.2.2.2.1 _ lk.1) lk.2.2.2.2 ⟨hfr, hlo⟩, hX.2.2.2.2.1 _ lk.2.1⟩ ⟨pre_blind, fun U hU hWm => ⟨rfl, by rw [hU]; exact hP, va_K.moved hWm.alike hX.2.2.2.2.2.1⟩⟩ rfl hnp hl.1 rfl (by show 2 * 0 + _ ≤ 8; omega) hd ⟨hX.2.2.2.2.2.2.2.2.2.1.1, hX.2.2.2.2.2.2.2.2.2.1.2⟩) hS (fun r σ' τ' hp H1 locs1 hP1 hS1 => kk r σ' τ' hp hX H1 locs1 la hP1 hS1 hl)
end CALLS
