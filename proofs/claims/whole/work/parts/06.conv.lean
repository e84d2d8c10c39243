def bI (b : Bool) : Int32 := if b then 1 else 0
theorem bI_t : bI true = 1 := rfl
theorem bI_f : bI false = 0 := rfl
theorem bI_nar (b : Bool) : narrow .boolean (.int (bI b)) = .int (bI b) := by cases b <;> decide
theorem bI_0 {b : Bool} : bI b = 0 ↔ b = false := by cases b <;> decide
theorem bI_n0 {b : Bool} : ¬ bI b = 0 ↔ b = true := by cases b <;> decide
/-- ends of which more than one is allowed -/
def PvP (P : Sto → Stl → Prop) : Option Value → Sto → Stl → Prop := fun r σ τ => r = none ∧ P σ τ
def PiP (P : Int32 → Sto → Stl → Prop) : Option Value → Sto → Stl → Prop := fun r σ τ => ∃ v : Int32, r = some (.int v) ∧ P v σ τ
def PlP (P : Int64 → Sto → Stl → Prop) : Option Value → Sto → Stl → Prop := fun r σ τ => ∃ v : Int64, r = some (.long v) ∧ P v σ τ
theorem pi_i {v v0 : Int32} {σ σ0 : Sto} {τ τ0 : Stl} (h1 : v = v0) (h2 : σ = σ0) (h3 : τ = τ0) : Pi v0 σ0 τ0 (some (.int v)) σ τ := ⟨by rw [h1], h2, h3⟩
theorem pl_i {v v0 : Int64} {σ σ0 : Sto} {τ τ0 : Stl} (h1 : v = v0) (h2 : σ = σ0) (h3 : τ = τ0) : Pl v0 σ0 τ0 (some (.long v)) σ τ := ⟨by rw [h1], h2, h3⟩
theorem pv_i {σ σ0 : Sto} {τ τ0 : Stl} (h2 : σ = σ0) (h3 : τ = τ0) : Pv σ0 τ0 none σ τ := ⟨rfl, h2, h3⟩
theorem pr_i {a a0 : Nat} {σ σ0 : Sto} {τ τ0 : Stl} (h1 : a = a0) (h2 : σ = σ0) (h3 : τ = τ0) : Pr a0 σ0 τ0 (some (.ref a)) σ τ := ⟨by rw [h1], h2, h3⟩
/-- the first list says no more than the second -/
def lsub : List (Option Value) → List (Option Value) → Prop
  | [], _ => True
  | none :: a, _ :: b => lsub a b
  | some v :: a, some w :: b => w = v ∧ lsub a b
  | _, _ => False
theorem lsub_at : ∀ (a b : List (Option Value)), lsub a b → ∀ (i : Nat) (v : Value), a[i]? = some (some v) → b[i]? = some (some v)
  | [], _, _, i, v, h => by simp at h
  | none :: a, w :: b, hs, i, v, h => by
    cases i with
    | zero => simp at h
    | succ i =>
      rw [List.getElem?_cons_succ] at h ⊢
      exact lsub_at a b hs i v h
  | some u :: a, some w :: b, hs, i, v, h => by
    cases i with
    | zero =>
      rw [List.getElem?_cons_zero] at h ⊢
      rw [hs.1]
      exact h
    | succ i =>
      rw [List.getElem?_cons_succ] at h ⊢
      exact lsub_at a b hs.2 i v h
  | none :: _, [], hs, _, _, _ => hs.elim
  | some _ :: _, [], hs, _, _, _ => hs.elim
  | some _ :: _, none :: _, hs, _, _, _ => hs.elim
section CONV
variable {E : EE} {lo n : Nat} {R : Room} {X : XX} {cc : ByteArray} {own : String} {nL : Nat} {ret : Option FieldType} {Po : Option Value → Sto → Stl → Prop} {pc q : Nat} {ls ls' : List (Option Value)} {st stk : List Value} {σ σ' σ1 : Sto} {τ τ' τ1 : Stl} {y : MethodName} {cb : ByteArray} {nL' : Nat} {ret' : Option FieldType} {rm : Room} {As : List Value} {idx np k ci : Nat}
theorem g_eq (kk : G E lo n R X cc own nL ret Po pc ls st σ τ) (e1 : ls' = ls) (e2 : σ' = σ) (e3 : τ' = τ) : G E lo n R X cc own nL ret Po pc ls' st σ' τ' := by subst e1; subst e2; subst e3; exact kk
theorem g_eqw (kk : G E lo n R X cc own nL ret Po pc ls st σ τ) (e1 : lsub ls ls') (e2 : σ' = σ) (e3 : τ' = τ) : G E lo n R X cc own nL ret Po pc ls' st σ' τ' := by
  subst e2; subst e3
  exact fun hX H locs la hP hS hl => kk hX H locs la hP hS ⟨hl.1, hl.2.1, fun i v h => hl.2.2 i v (lsub_at ls ls' e1 i v h)⟩
theorem g_st {stk' : List Value} (e1 : stk = stk') (kk : G E lo n R X cc own nL ret Po pc ls stk' σ τ) : G E lo n R X cc own nL ret Po pc ls stk σ τ := by subst e1; exact kk
theorem g_sg (e1 : σ = σ') (kk : G E lo n R X cc own nL ret Po pc ls stk σ' τ) : G E lo n R X cc own nL ret Po pc ls stk σ τ := by subst e1; exact kk
theorem g_ls (e1 : ls = ls') (kk : G E lo n R X cc own nL ret Po pc ls' stk σ τ) : G E lo n R X cc own nL ret Po pc ls stk σ τ := by subst e1; exact kk
/-- a loop that counts: from i0 to N -/
theorem g_for {I : Nat → List (Option Value)} {S : Nat → Sto} {T : Nat → Stl} (i0 N : Nat) (hi : i0 ≤ N) (e1 : ls = I i0) (e2 : σ = S i0) (e3 : τ = T i0) (step : ∀ i, i0 ≤ i → i < N → G E lo n R X cc own nL ret Po pc (I (i + 1)) st (S (i + 1)) (T (i + 1)) → G E lo n R X cc own nL ret Po pc (I i) st (S i) (T i)) (fin : G E lo n R X cc own nL ret Po pc (I N) st (S N) (T N)) : G E lo n R X cc own nL ret Po pc ls st σ τ := by
  subst e1; subst e2; subst e3
  have key : ∀ d, d ≤ N - i0 → G E lo n R X cc own nL ret Po pc (I (N - d)) st (S (N - d)) (T (N - d)) := by
    intro d
    induction d with
    | zero => intro _; exact fin
    | succ d ih =>
      intro hd
      have h1 := ih (by omega)
      have h2 := step (N - (d + 1)) (by omega) (by omega)
      rw [show N - (d + 1) + 1 = N - d by omega] at h2
      exact h2 h1
  have := key (N - i0) (Nat.le_refl _)
  rwa [show N - (N - i0) = i0 by omega] at this
/-- a loop that counts, with an invariant -/
theorem g_loop {I : Nat → List (Option Value)} {J : Nat → Sto → Stl → Prop} (i0 N : Nat) (hi : i0 ≤ N) (e1 : lsub (I i0) ls) (h0 : J i0 σ τ) (step : ∀ i σ τ, i0 ≤ i → i < N → J i σ τ → (∀ σ' τ', J (i + 1) σ' τ' → G E lo n R X cc own nL ret Po pc (I (i + 1)) st σ' τ') → G E lo n R X cc own nL ret Po pc (I i) st σ τ) (fin : ∀ σ τ, J N σ τ → G E lo n R X cc own nL ret Po pc (I N) st σ τ) : G E lo n R X cc own nL ret Po pc ls st σ τ := by
  have key : ∀ d, d ≤ N - i0 → ∀ σ τ, J (N - d) σ τ → G E lo n R X cc own nL ret Po pc (I (N - d)) st σ τ := by
    intro d
    induction d with
    | zero => intro _; exact fin
    | succ d ih =>
      intro hd σ τ hJ
      have h1 := ih (by omega)
      have h2 := step (N - (d + 1)) σ τ (by omega) (by omega) hJ
      rw [show N - (d + 1) + 1 = N - d by omega] at h2
      exact h2 h1
  have := key (N - i0) (Nat.le_refl _) σ τ (by rw [show N - (N - i0) = i0 by omega]; exact h0)
  rw [show N - (N - i0) = i0 by omega] at this
  exact g_eqw this e1 rfl rfl
theorem g_tabV {dflt a b : Int} {offs : Array Int} {len : Nat} {x v : Int32} {off : Int} {t : Nat} (hxv : x = v) (hd : decode cc pc = .ok (.tableswitch dflt a b offs, len)) (h1 : ¬ v.toInt < a) (h2 : ¬ b < v.toInt) (ho : offs[(v.toInt - a).toNat]? = some off) (ht : (pc : Int) + off = (t : Int)) (k : G E lo n R X cc own nL ret Po t ls st σ τ) : G E lo n R X cc own nL ret Po pc ls (.int x :: st) σ τ := by
  subst hxv
  exact g_tabIn hd h1 h2 ho ht k

theorem g_callVi {qc : vw_C} {v : Int32} (ct : Ct E lo n y cb nL' ret' rm (.ref (E.2.1 k) :: As) σ τ (Pi v σ1 τ1)) (lk : LkV own idx y cb nL' ret' np) (h1 : lo ≤ k) (h2 : k < lo + n) (hk : kd k = ci) (hc8 : ci < 8) (hqc : cls[ci]? = some qc) (hqy : qc.1 = y.cls) (hst : stk = As.reverse ++ .ref (E.2.1 k) :: st) (hnp : As.length = np) (hrc : rm.cells = 0) (hrs : rm.slots = 0) (hW : (st.map fun v => v.category).sum ≤ 8) (hfr : rm.frames + 1 ≤ R.frames) (hlo : 8 + (nL' + 11) + rm.locals ≤ R.locals) (hd : decode cc pc = .ok (.invokevirtual idx, 3)) (hq : pc + 3 = q) (kk : G E lo n R X cc own nL ret Po q ls (.int v :: st) σ1 τ1) : G E lo n R X cc own nL ret Po pc ls stk σ τ :=
  g_callV ct lk h1 h2 hk hc8 hqc hqy hst hnp hrc hrs hW hfr hlo hd hq (fun r σ' τ' h => by obtain ⟨rfl, rfl, rfl⟩ := h; exact kk)
theorem g_callSi {v : Int32} (ct : Ct E lo n y cb nL' ret' rm As σ τ (Pi v σ1 τ1)) (lk : LkS own idx y cb nL' ret' np) (hst : stk = As.reverse ++ st) (hnp : As.length = np) (hrc : rm.cells = 0) (hrs : rm.slots = 0) (hW : (st.map fun v => v.category).sum ≤ 8) (hfr : rm.frames + 1 ≤ R.frames) (hlo : 8 + (nL' + 11) + rm.locals ≤ R.locals) (hd : decode cc pc = .ok (.invokestatic idx, 3)) (hq : pc + 3 = q) (kk : G E lo n R X cc own nL ret Po q ls (.int v :: st) σ1 τ1) : G E lo n R X cc own nL ret Po pc ls stk σ τ :=
  g_callS ct lk hst hnp hrc hrs hW hfr hlo hd hq (fun r σ' τ' h => by obtain ⟨rfl, rfl, rfl⟩ := h; exact kk)
theorem g_callVl {qc : vw_C} {v : Int64} (ct : Ct E lo n y cb nL' ret' rm (.ref (E.2.1 k) :: As) σ τ (Pl v σ1 τ1)) (lk : LkV own idx y cb nL' ret' np) (h1 : lo ≤ k) (h2 : k < lo + n) (hk : kd k = ci) (hc8 : ci < 8) (hqc : cls[ci]? = some qc) (hqy : qc.1 = y.cls) (hst : stk = As.reverse ++ .ref (E.2.1 k) :: st) (hnp : As.length = np) (hrc : rm.cells = 0) (hrs : rm.slots = 0) (hW : (st.map fun v => v.category).sum ≤ 8) (hfr : rm.frames + 1 ≤ R.frames) (hlo : 8 + (nL' + 11) + rm.locals ≤ R.locals) (hd : decode cc pc = .ok (.invokevirtual idx, 3)) (hq : pc + 3 = q) (kk : G E lo n R X cc own nL ret Po q ls (.long v :: st) σ1 τ1) : G E lo n R X cc own nL ret Po pc ls stk σ τ :=
  g_callV ct lk h1 h2 hk hc8 hqc hqy hst hnp hrc hrs hW hfr hlo hd hq (fun r σ' τ' h => by obtain ⟨rfl, rfl, rfl⟩ := h; exact kk)
theorem g_callSl {v : Int64} (ct : Ct E lo n y cb nL' ret' rm As σ τ (Pl v σ1 τ1)) (lk : LkS own idx y cb nL' ret' np) (hst : stk = As.reverse ++ st) (hnp : As.length = np) (hrc : rm.cells = 0) (hrs : rm.slots = 0) (hW : (st.map fun v => v.category).sum ≤ 8) (hfr : rm.frames + 1 ≤ R.frames) (hlo : 8 + (nL' + 11) + rm.locals ≤ R.locals) (hd : decode cc pc = .ok (.invokestatic idx, 3)) (hq : pc + 3 = q) (kk : G E lo n R X cc own nL ret Po q ls (.long v :: st) σ1 τ1) : G E lo n R X cc own nL ret Po pc ls stk σ τ :=
  g_callS ct lk hst hnp hrc hrs hW hfr hlo hd hq (fun r σ' τ' h => by obtain ⟨rfl, rfl, rfl⟩ := h; exact kk)
theorem g_callVv {qc : vw_C}  (ct : Ct E lo n y cb nL' ret' rm (.ref (E.2.1 k) :: As) σ τ (Pv σ1 τ1)) (lk : LkV own idx y cb nL' ret' np) (h1 : lo ≤ k) (h2 : k < lo + n) (hk : kd k = ci) (hc8 : ci < 8) (hqc : cls[ci]? = some qc) (hqy : qc.1 = y.cls) (hst : stk = As.reverse ++ .ref (E.2.1 k) :: st) (hnp : As.length = np) (hrc : rm.cells = 0) (hrs : rm.slots = 0) (hW : (st.map fun v => v.category).sum ≤ 8) (hfr : rm.frames + 1 ≤ R.frames) (hlo : 8 + (nL' + 11) + rm.locals ≤ R.locals) (hd : decode cc pc = .ok (.invokevirtual idx, 3)) (hq : pc + 3 = q) (kk : G E lo n R X cc own nL ret Po q ls (st) σ1 τ1) : G E lo n R X cc own nL ret Po pc ls stk σ τ :=
  g_callV ct lk h1 h2 hk hc8 hqc hqy hst hnp hrc hrs hW hfr hlo hd hq (fun r σ' τ' h => by obtain ⟨rfl, rfl, rfl⟩ := h; exact kk)
theorem g_callSv  (ct : Ct E lo n y cb nL' ret' rm As σ τ (Pv σ1 τ1)) (lk : LkS own idx y cb nL' ret' np) (hst : stk = As.reverse ++ st) (hnp : As.length = np) (hrc : rm.cells = 0) (hrs : rm.slots = 0) (hW : (st.map fun v => v.category).sum ≤ 8) (hfr : rm.frames + 1 ≤ R.frames) (hlo : 8 + (nL' + 11) + rm.locals ≤ R.locals) (hd : decode cc pc = .ok (.invokestatic idx, 3)) (hq : pc + 3 = q) (kk : G E lo n R X cc own nL ret Po q ls (st) σ1 τ1) : G E lo n R X cc own nL ret Po pc ls stk σ τ :=
  g_callS ct lk hst hnp hrc hrs hW hfr hlo hd hq (fun r σ' τ' h => by obtain ⟨rfl, rfl, rfl⟩ := h; exact kk)
theorem g_callVr {qc : vw_C} {v : Nat} (ct : Ct E lo n y cb nL' ret' rm (.ref (E.2.1 k) :: As) σ τ (Pr v σ1 τ1)) (lk : LkV own idx y cb nL' ret' np) (h1 : lo ≤ k) (h2 : k < lo + n) (hk : kd k = ci) (hc8 : ci < 8) (hqc : cls[ci]? = some qc) (hqy : qc.1 = y.cls) (hst : stk = As.reverse ++ .ref (E.2.1 k) :: st) (hnp : As.length = np) (hrc : rm.cells = 0) (hrs : rm.slots = 0) (hW : (st.map fun v => v.category).sum ≤ 8) (hfr : rm.frames + 1 ≤ R.frames) (hlo : 8 + (nL' + 11) + rm.locals ≤ R.locals) (hd : decode cc pc = .ok (.invokevirtual idx, 3)) (hq : pc + 3 = q) (kk : G E lo n R X cc own nL ret Po q ls (.ref v :: st) σ1 τ1) : G E lo n R X cc own nL ret Po pc ls stk σ τ :=
  g_callV ct lk h1 h2 hk hc8 hqc hqy hst hnp hrc hrs hW hfr hlo hd hq (fun r σ' τ' h => by obtain ⟨rfl, rfl, rfl⟩ := h; exact kk)
theorem g_callSr {v : Nat} (ct : Ct E lo n y cb nL' ret' rm As σ τ (Pr v σ1 τ1)) (lk : LkS own idx y cb nL' ret' np) (hst : stk = As.reverse ++ st) (hnp : As.length = np) (hrc : rm.cells = 0) (hrs : rm.slots = 0) (hW : (st.map fun v => v.category).sum ≤ 8) (hfr : rm.frames + 1 ≤ R.frames) (hlo : 8 + (nL' + 11) + rm.locals ≤ R.locals) (hd : decode cc pc = .ok (.invokestatic idx, 3)) (hq : pc + 3 = q) (kk : G E lo n R X cc own nL ret Po q ls (.ref v :: st) σ1 τ1) : G E lo n R X cc own nL ret Po pc ls stk σ τ :=
  g_callS ct lk hst hnp hrc hrs hW hfr hlo hd hq (fun r σ' τ' h => by obtain ⟨rfl, rfl, rfl⟩ := h; exact kk)
theorem g_callVvp {qc : vw_C} {P : Sto → Stl → Prop} (ct : Ct E lo n y cb nL' ret' rm (.ref (E.2.1 k) :: As) σ τ (PvP P)) (lk : LkV own idx y cb nL' ret' np) (h1 : lo ≤ k) (h2 : k < lo + n) (hk : kd k = ci) (hc8 : ci < 8) (hqc : cls[ci]? = some qc) (hqy : qc.1 = y.cls) (hst : stk = As.reverse ++ .ref (E.2.1 k) :: st) (hnp : As.length = np) (hrc : rm.cells = 0) (hrs : rm.slots = 0) (hW : (st.map fun v => v.category).sum ≤ 8) (hfr : rm.frames + 1 ≤ R.frames) (hlo : 8 + (nL' + 11) + rm.locals ≤ R.locals) (hd : decode cc pc = .ok (.invokevirtual idx, 3)) (hq : pc + 3 = q) (kk : ∀ σ1 τ1, P σ1 τ1 → G E lo n R X cc own nL ret Po q ls (st) σ1 τ1) : G E lo n R X cc own nL ret Po pc ls stk σ τ :=
  g_callV ct lk h1 h2 hk hc8 hqc hqy hst hnp hrc hrs hW hfr hlo hd hq (fun r σ' τ' h => by obtain ⟨rfl, h⟩ := h; exact kk _ _ h)
theorem g_callSvp {P : Sto → Stl → Prop} (ct : Ct E lo n y cb nL' ret' rm As σ τ (PvP P)) (lk : LkS own idx y cb nL' ret' np) (hst : stk = As.reverse ++ st) (hnp : As.length = np) (hrc : rm.cells = 0) (hrs : rm.slots = 0) (hW : (st.map fun v => v.category).sum ≤ 8) (hfr : rm.frames + 1 ≤ R.frames) (hlo : 8 + (nL' + 11) + rm.locals ≤ R.locals) (hd : decode cc pc = .ok (.invokestatic idx, 3)) (hq : pc + 3 = q) (kk : ∀ σ1 τ1, P σ1 τ1 → G E lo n R X cc own nL ret Po q ls (st) σ1 τ1) : G E lo n R X cc own nL ret Po pc ls stk σ τ :=
  g_callS ct lk hst hnp hrc hrs hW hfr hlo hd hq (fun r σ' τ' h => by obtain ⟨rfl, h⟩ := h; exact kk _ _ h)
theorem g_callVip {qc : vw_C} {P : Int32 → Sto → Stl → Prop} (ct : Ct E lo n y cb nL' ret' rm (.ref (E.2.1 k) :: As) σ τ (PiP P)) (lk : LkV own idx y cb nL' ret' np) (h1 : lo ≤ k) (h2 : k < lo + n) (hk : kd k = ci) (hc8 : ci < 8) (hqc : cls[ci]? = some qc) (hqy : qc.1 = y.cls) (hst : stk = As.reverse ++ .ref (E.2.1 k) :: st) (hnp : As.length = np) (hrc : rm.cells = 0) (hrs : rm.slots = 0) (hW : (st.map fun v => v.category).sum ≤ 8) (hfr : rm.frames + 1 ≤ R.frames) (hlo : 8 + (nL' + 11) + rm.locals ≤ R.locals) (hd : decode cc pc = .ok (.invokevirtual idx, 3)) (hq : pc + 3 = q) (kk : ∀ v σ1 τ1, P v σ1 τ1 → G E lo n R X cc own nL ret Po q ls (.int v :: st) σ1 τ1) : G E lo n R X cc own nL ret Po pc ls stk σ τ :=
  g_callV ct lk h1 h2 hk hc8 hqc hqy hst hnp hrc hrs hW hfr hlo hd hq (fun r σ' τ' h => by obtain ⟨v, rfl, h⟩ := h; exact kk v _ _ h)
theorem g_callSip {P : Int32 → Sto → Stl → Prop} (ct : Ct E lo n y cb nL' ret' rm As σ τ (PiP P)) (lk : LkS own idx y cb nL' ret' np) (hst : stk = As.reverse ++ st) (hnp : As.length = np) (hrc : rm.cells = 0) (hrs : rm.slots = 0) (hW : (st.map fun v => v.category).sum ≤ 8) (hfr : rm.frames + 1 ≤ R.frames) (hlo : 8 + (nL' + 11) + rm.locals ≤ R.locals) (hd : decode cc pc = .ok (.invokestatic idx, 3)) (hq : pc + 3 = q) (kk : ∀ v σ1 τ1, P v σ1 τ1 → G E lo n R X cc own nL ret Po q ls (.int v :: st) σ1 τ1) : G E lo n R X cc own nL ret Po pc ls stk σ τ :=
  g_callS ct lk hst hnp hrc hrs hW hfr hlo hd hq (fun r σ' τ' h => by obtain ⟨v, rfl, h⟩ := h; exact kk v _ _ h)
theorem g_callVlp {qc : vw_C} {P : Int64 → Sto → Stl → Prop} (ct : Ct E lo n y cb nL' ret' rm (.ref (E.2.1 k) :: As) σ τ (PlP P)) (lk : LkV own idx y cb nL' ret' np) (h1 : lo ≤ k) (h2 : k < lo + n) (hk : kd k = ci) (hc8 : ci < 8) (hqc : cls[ci]? = some qc) (hqy : qc.1 = y.cls) (hst : stk = As.reverse ++ .ref (E.2.1 k) :: st) (hnp : As.length = np) (hrc : rm.cells = 0) (hrs : rm.slots = 0) (hW : (st.map fun v => v.category).sum ≤ 8) (hfr : rm.frames + 1 ≤ R.frames) (hlo : 8 + (nL' + 11) + rm.locals ≤ R.locals) (hd : decode cc pc = .ok (.invokevirtual idx, 3)) (hq : pc + 3 = q) (kk : ∀ v σ1 τ1, P v σ1 τ1 → G E lo n R X cc own nL ret Po q ls (.long v :: st) σ1 τ1) : G E lo n R X cc own nL ret Po pc ls stk σ τ :=
  g_callV ct lk h1 h2 hk hc8 hqc hqy hst hnp hrc hrs hW hfr hlo hd hq (fun r σ' τ' h => by obtain ⟨v, rfl, h⟩ := h; exact kk v _ _ h)
theorem g_callSlp {P : Int64 → Sto → Stl → Prop} (ct : Ct E lo n y cb nL' ret' rm As σ τ (PlP P)) (lk : LkS own idx y cb nL' ret' np) (hst : stk = As.reverse ++ st) (hnp : As.length = np) (hrc : rm.cells = 0) (hrs : rm.slots = 0) (hW : (st.map fun v => v.category).sum ≤ 8) (hfr : rm.frames + 1 ≤ R.frames) (hlo : 8 + (nL' + 11) + rm.locals ≤ R.locals) (hd : decode cc pc = .ok (.invokestatic idx, 3)) (hq : pc + 3 = q) (kk : ∀ v σ1 τ1, P v σ1 τ1 → G E lo n R X cc own nL ret Po q ls (.long v :: st) σ1 τ1) : G E lo n R X cc own nL ret Po pc ls stk σ τ :=
  g_callS ct lk hst hnp hrc hrs hW hfr hlo hd hq (fun r σ' τ' h => by obtain ⟨v, rfl, h⟩ := h; exact kk v _ _ h)
theorem ad2 {x y : Int32} {a b : Nat} (hx : x = nI a) (hy : y = nI b) : x + y = nI (a + b) := by rw [hx, hy, nI_add]
theorem mu2 {x y : Int32} {a b : Nat} (hx : x = nI a) (hy : y = nI b) : x * y = nI (a * b) := by rw [hx, hy, pk_mul]
theorem g_ialdJ {i : Int32} {j N : Nat} (h1 : lo ≤ k) (h2 : k < lo + n) (hk : kd k = 8) (hN : ln k = N) (hN2 : N < 2 ^ 31) (e : i = nI j) (hj : j < N) (hd : decode cc pc = .ok (.iaload, 1)) (hq : pc + 1 = q) (kk : G E lo n R X cc own nL ret Po q ls (.int (σ k j) :: st) σ τ) : G E lo n R X cc own nL ret Po pc ls (.int i :: .ref (E.2.1 k) :: st) σ τ := by
  subst e
  have h : (nI j).toNatClampNeg = j := nI_clamp (by omega)
  refine g_iald h1 h2 hk (by rw [hN]; exact vp_in_nI hj hN2) hd hq ?_
  rw [h]
  exact kk
theorem g_iastJ {i x : Int32} {j N : Nat} (h1 : lo ≤ k) (h2 : k < lo + n) (hk : kd k = 8) (hN : ln k = N) (hN2 : N < 2 ^ 31) (e : i = nI j) (hj : j < N) (hd : decode cc pc = .ok (.iastore, 1)) (hq : pc + 1 = q) (kk : G E lo n R X cc own nL ret Po q ls st (upc σ k (upd (σ k) j x)) τ) : G E lo n R X cc own nL ret Po pc ls (.int x :: .int i :: .ref (E.2.1 k) :: st) σ τ := by
  subst e
  have h : (nI j).toNatClampNeg = j := nI_clamp (by omega)
  refine g_iast h1 h2 hk (by rw [hN]; exact vp_in_nI hj hN2) hd hq ?_
  rw [h]
  exact kk
end CONV
theorem ci_m1 : Int32.ofInt (-1) = (-1) := by decide
theorem ci_0 : Int32.ofInt (0) = (0) := by decide
theorem ci_1 : Int32.ofInt (1) = (1) := by decide
theorem ci_2 : Int32.ofInt (2) = (2) := by decide
theorem ci_3 : Int32.ofInt (3) = (3) := by decide
theorem ci_4 : Int32.ofInt (4) = (4) := by decide
theorem ci_5 : Int32.ofInt (5) = (5) := by decide
theorem ci_6 : Int32.ofInt (6) = (6) := by decide
theorem cb_m2 : (Int8.ofInt (-2)).toInt32 = (-2) := by decide
theorem cb_6 : (Int8.ofInt (6)).toInt32 = (6) := by decide
theorem cb_7 : (Int8.ofInt (7)).toInt32 = (7) := by decide
theorem cb_8 : (Int8.ofInt (8)).toInt32 = (8) := by decide
theorem cb_10 : (Int8.ofInt (10)).toInt32 = (10) := by decide
theorem cb_11 : (Int8.ofInt (11)).toInt32 = (11) := by decide
theorem cb_12 : (Int8.ofInt (12)).toInt32 = (12) := by decide
theorem cb_13 : (Int8.ofInt (13)).toInt32 = (13) := by decide
theorem cb_14 : (Int8.ofInt (14)).toInt32 = (14) := by decide
theorem cb_16 : (Int8.ofInt (16)).toInt32 = (16) := by decide
theorem cb_20 : (Int8.ofInt (20)).toInt32 = (20) := by decide
theorem cb_21 : (Int8.ofInt (21)).toInt32 = (21) := by decide
theorem cb_22 : (Int8.ofInt (22)).toInt32 = (22) := by decide
theorem cb_23 : (Int8.ofInt (23)).toInt32 = (23) := by decide
theorem cb_24 : (Int8.ofInt (24)).toInt32 = (24) := by decide
theorem cb_29 : (Int8.ofInt (29)).toInt32 = (29) := by decide
theorem cb_37 : (Int8.ofInt (37)).toInt32 = (37) := by decide
theorem cb_40 : (Int8.ofInt (40)).toInt32 = (40) := by decide
theorem cb_42 : (Int8.ofInt (42)).toInt32 = (42) := by decide
theorem cb_44 : (Int8.ofInt (44)).toInt32 = (44) := by decide
theorem cb_47 : (Int8.ofInt (47)).toInt32 = (47) := by decide
theorem cb_48 : (Int8.ofInt (48)).toInt32 = (48) := by decide
theorem cb_52 : (Int8.ofInt (52)).toInt32 = (52) := by decide
theorem cb_57 : (Int8.ofInt (57)).toInt32 = (57) := by decide
theorem cb_59 : (Int8.ofInt (59)).toInt32 = (59) := by decide
theorem cb_60 : (Int8.ofInt (60)).toInt32 = (60) := by decide
theorem cb_63 : (Int8.ofInt (63)).toInt32 = (63) := by decide
theorem cb_64 : (Int8.ofInt (64)).toInt32 = (64) := by decide
theorem cb_99 : (Int8.ofInt (99)).toInt32 = (99) := by decide
theorem cb_100 : (Int8.ofInt (100)).toInt32 = (100) := by decide
theorem cb_102 : (Int8.ofInt (102)).toInt32 = (102) := by decide
theorem cb_104 : (Int8.ofInt (104)).toInt32 = (104) := by decide
theorem cb_105 : (Int8.ofInt (105)).toInt32 = (105) := by decide
theorem cb_110 : (Int8.ofInt (110)).toInt32 = (110) := by decide
theorem cb_112 : (Int8.ofInt (112)).toInt32 = (112) := by decide
theorem cb_114 : (Int8.ofInt (114)).toInt32 = (114) := by decide
theorem cb_116 : (Int8.ofInt (116)).toInt32 = (116) := by decide
theorem cb_120 : (Int8.ofInt (120)).toInt32 = (120) := by decide
theorem cs_255 : (Int16.ofInt (255)).toInt32 = (255) := by decide
theorem cs_312 : (Int16.ofInt (312)).toInt32 = (312) := by decide
theorem cs_320 : (Int16.ofInt (320)).toInt32 = (320) := by decide
theorem cs_999 : (Int16.ofInt (999)).toInt32 = (999) := by decide
theorem cs_1000 : (Int16.ofInt (1000)).toInt32 = (1000) := by decide
theorem cs_1196 : (Int16.ofInt (1196)).toInt32 = (1196) := by decide
theorem cs_1248 : (Int16.ofInt (1248)).toInt32 = (1248) := by decide
theorem cl_0 : Int64.ofNat ((0 : Fin 2) : Nat) = 0 := by decide
theorem cl_1 : Int64.ofNat ((1 : Fin 2) : Nat) = 1 := by decide
theorem tab_0_2 (x : Int32) : (x.toInt < 0 ∨ 2 < x.toInt) ∨ x = 0 ∨ x = 1 ∨ x = 2 := by
  by_cases h : x.toInt < 0 ∨ 2 < x.toInt
  · exact Or.inl h
  · refine Or.inr ?_
    have key : x.toInt = 0 ∨ x.toInt = 1 ∨ x.toInt = 2 := by omega
    simp only [← Int32.toInt_inj]
    simpa using key
theorem tab_0_3 (x : Int32) : (x.toInt < 0 ∨ 3 < x.toInt) ∨ x = 0 ∨ x = 1 ∨ x = 2 ∨ x = 3 := by
  by_cases h : x.toInt < 0 ∨ 3 < x.toInt
  · exact Or.inl h
  · refine Or.inr ?_
    have key : x.toInt = 0 ∨ x.toInt = 1 ∨ x.toInt = 2 ∨ x.toInt = 3 := by omega
    simp only [← Int32.toInt_inj]
    simpa using key
theorem tab_0_4 (x : Int32) : (x.toInt < 0 ∨ 4 < x.toInt) ∨ x = 0 ∨ x = 1 ∨ x = 2 ∨ x = 3 ∨ x = 4 := by
  by_cases h : x.toInt < 0 ∨ 4 < x.toInt
  · exact Or.inl h
  · refine Or.inr ?_
    have key : x.toInt = 0 ∨ x.toInt = 1 ∨ x.toInt = 2 ∨ x.toInt = 3 ∨ x.toInt = 4 := by omega
    simp only [← Int32.toInt_inj]
    simpa using key
theorem tab_0_8 (x : Int32) : (x.toInt < 0 ∨ 8 < x.toInt) ∨ x = 0 ∨ x = 1 ∨ x = 2 ∨ x = 3 ∨ x = 4 ∨ x = 5 ∨ x = 6 ∨ x = 7 ∨ x = 8 := by
  by_cases h : x.toInt < 0 ∨ 8 < x.toInt
  · exact Or.inl h
  · refine Or.inr ?_
    have key : x.toInt = 0 ∨ x.toInt = 1 ∨ x.toInt = 2 ∨ x.toInt = 3 ∨ x.toInt = 4 ∨ x.toInt = 5 ∨ x.toInt = 6 ∨ x.toInt = 7 ∨ x.toInt = 8 := by omega
    simp only [← Int32.toInt_inj]
    simpa using key
theorem tab_1_5 (x : Int32) : (x.toInt < 1 ∨ 5 < x.toInt) ∨ x = 1 ∨ x = 2 ∨ x = 3 ∨ x = 4 ∨ x = 5 := by
  by_cases h : x.toInt < 1 ∨ 5 < x.toInt
  · exact Or.inl h
  · refine Or.inr ?_
    have key : x.toInt = 1 ∨ x.toInt = 2 ∨ x.toInt = 3 ∨ x.toInt = 4 ∨ x.toInt = 5 := by omega
    simp only [← Int32.toInt_inj]
    simpa using key
theorem tab_3_5 (x : Int32) : (x.toInt < 3 ∨ 5 < x.toInt) ∨ x = 3 ∨ x = 4 ∨ x = 5 := by
  by_cases h : x.toInt < 3 ∨ 5 < x.toInt
  · exact Or.inl h
  · refine Or.inr ?_
    have key : x.toInt = 3 ∨ x.toInt = 4 ∨ x.toInt = 5 := by omega
    simp only [← Int32.toInt_inj]
    simpa using key
theorem tab_102_116 (x : Int32) : (x.toInt < 102 ∨ 116 < x.toInt) ∨ x = 102 ∨ x = 103 ∨ x = 104 ∨ x = 105 ∨ x = 106 ∨ x = 107 ∨ x = 108 ∨ x = 109 ∨ x = 110 ∨ x = 111 ∨ x = 112 ∨ x = 113 ∨ x = 114 ∨ x = 115 ∨ x = 116 := by
  by_cases h : x.toInt < 102 ∨ 116 < x.toInt
  · exact Or.inl h
  · refine Or.inr ?_
    have key : x.toInt = 102 ∨ x.toInt = 103 ∨ x.toInt = 104 ∨ x.toInt = 105 ∨ x.toInt = 106 ∨ x.toInt = 107 ∨ x.toInt = 108 ∨ x.toInt = 109 ∨ x.toInt = 110 ∨ x.toInt = 111 ∨ x.toInt = 112 ∨ x.toInt = 113 ∨ x.toInt = 114 ∨ x.toInt = 115 ∨ x.toInt = 116 := by omega
    simp only [← Int32.toInt_inj]
    simpa using key
