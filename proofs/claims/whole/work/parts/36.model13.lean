def setf (f : Nat → Int32) (a b c d : Int32) : Nat → Int32 := fun j => if j = 10 then a else if j = 11 then b else if j = 12 then c else if j = 13 then d else f j
theorem sf_in (f : Nat → Int32) (b c d : Int32) : upd (upd (upd f 13 d) 11 b) 12 c = setf f (f 10) b c d := by
  funext j
  unfold setf upd
  by_cases h0 : j = 10
  · subst h0; rfl
  · by_cases h1 : j = 11
    · subst h1; rfl
    · by_cases h2 : j = 12
      · subst h2; rfl
      · simp [h0, h1, h2]
theorem sf10 (f : Nat → Int32) (a b c d x : Int32) : upd (setf f a b c d) 10 x = setf f x b c d := by
  funext j
  unfold setf upd
  by_cases h0 : j = 10 <;> simp [h0]
theorem sf11 (f : Nat → Int32) (a b c d x : Int32) : upd (setf f a b c d) 11 x = setf f a x c d := by
  funext j
  unfold setf upd
  by_cases h1 : j = 11
  · subst h1; rfl
  · simp [h1]
theorem sf12 (f : Nat → Int32) (a b c d x : Int32) : upd (setf f a b c d) 12 x = setf f a b x d := by
  funext j
  unfold setf upd
  by_cases h1 : j = 12
  · subst h1; rfl
  · simp [h1]
theorem sf_10 (f : Nat → Int32) (a b c d : Int32) : setf f a b c d 10 = a := rfl
theorem sf_11 (f : Nat → Int32) (a b c d : Int32) : setf f a b c d 11 = b := rfl
theorem sf_12 (f : Nat → Int32) (a b c d : Int32) : setf f a b c d 12 = c := rfl
theorem sf_13 (f : Nat → Int32) (a b c d : Int32) : setf f a b c d 13 = d := rfl
theorem sf_8 (f : Nat → Int32) (a b c d : Int32) : setf f a b c d 8 = f 8 := rfl
/-- the number that the figures behind P spell, no larger than three figures can make it -/
def mvN (T : Nat → Int32) (P : Nat) : Nat → Int32
  | 0 => 0
  | i + 1 => if mvN T P i ≤ 99 then 10 * mvN T P i + T (P + i) - 48 else mvN T P i
def runM (T : Nat → Int32) (L P : Nat) : Nat := s_run T P (L - P)
/-- the token at P: behind it, its sort, its value -/
def tk3 (T : Nat → Int32) (L P : Nat) : Nat × Int32 × Int32 :=
  if 0 < runM T L P then (P + runM T L P, if runM T L P ≤ 2 then 2 else 0, mvN T P (runM T L P)) else
  if P = L then (P, 3, 0) else (P + 1, if wi (T P) 97 122 = true ∨ T P = 44 ∨ T P = 59 then 1 else 0, T P)
def nxM (σ : Sto) (L P : Nat) : Sto := upc σ 40 (setf (σ 40) (nI (tk3 (σ 46) L P).1) (tk3 (σ 46) L P).2.1 (tk3 (σ 46) L P).2.2 (nI P))
theorem nxM_eq {σ : Sto} {L P a : Nat} {b c : Int32} (h : tk3 (σ 46) L P = (a, b, c)) : upc σ 40 (setf (σ 40) (nI a) b c (nI P)) = nxM σ L P := by
  unfold nxM
  rw [h]
theorem run_y {T : Nat → Int32} {p m : Nat} (h : wi (T p) 48 57 = true) : s_run T p (m + 1) = s_run T (p + 1) m + 1 := by
  simp only [wi, Bool.and_eq_true, decide_eq_true_eq] at h
  simp only [s_run]
  rw [if_neg (Int32.not_lt.mpr h.1), if_neg (Int32.not_lt.mpr h.2)]
theorem run_n {T : Nat → Int32} {p m : Nat} (h : wi (T p) 48 57 = false) : s_run T p (m + 1) = 0 := by
  simp only [wi, Bool.and_eq_false_iff, decide_eq_false_iff_not] at h
  simp only [s_run]
  rcases h with h | h
  · rw [if_pos (Int32.not_le.mp h)]
  · split
    · rfl
    · rw [if_pos (Int32.not_le.mp h)]
theorem runM_le (T : Nat → Int32) {L P : Nat} (h : P ≤ L) : P + runM T L P ≤ L := by
  have := run_le T (L - P) P
  unfold runM
  omega
theorem tk_le (T : Nat → Int32) {L P : Nat} (h : P ≤ L) : P ≤ (tk3 T L P).1 ∧ (tk3 T L P).1 ≤ L := by
  have h1 := runM_le T h
  unfold tk3
  split
  · exact ⟨Nat.le_add_right _ _, h1⟩
  · split
    · exact ⟨Nat.le_refl _, h⟩
    · exact ⟨Nat.le_succ _, by show P + 1 ≤ L; omega⟩
set_option maxRecDepth 20000 in
set_option maxHeartbeats 4000000 in
theorem c_X7_nextToken {E : EE} (hE : inj E 40 13) {σ : Sto} {τ : Stl} {L P : Nat} (hL : σ 40 8 = nI L) (hP : σ 40 10 = nI P) (hPL0 : P ≤ L) (h120 : L ≤ 120) : Ct E 40 13 yX7_nextToken cX7_nextToken 1 none { frames := 1, cells := 0, slots := 0, locals := 25 } [.ref (E.2.1 40)] σ τ (Pv (nxM σ L P) (τ)) := by
  refine ct_of hE RX7 [some (.ref (E.2.1 40))] (by decide) rfl (Nat.le_of_ble_eq_true rfl) rfl (fun X => ?_)
  have hrl := runM_le (σ 46) hPL0
  have fin : G E 40 13 { frames := 1, cells := 0, slots := 0, locals := 25 } X cX7_nextToken RX7 1 none (Pv (nxM σ L P) τ) 119 [some (.ref (E.2.1 40))] [] (upc σ 40 (setf (σ 40) (nI (P + (runM (σ 46) L P))) (if P = L then (3 : Int32) else 0) (mvN (σ 46) P (runM (σ 46) L P)) (nI P))) τ := by
    refine g_aload_n (q := 120) dX7_nextToken_119 rfl rfl ?_
    refine f7_10 (q := 123) wd_858 dX7_nextToken_120 rfl ?_
    refine g_aload_n (q := 124) dX7_nextToken_123 rfl rfl ?_
    refine f7_13 (q := 127) wd_861 dX7_nextToken_124 rfl ?_
    simp only [upc_same, sf_8, sf_10, sf_11, sf_12, sf_13]
    refine g_icmp_le (t := 155) (q := 130) dX7_nextToken_127 (by decide) rfl (fun c_127 => ?_) (fun c_127 => ?_)
    · have hz : (runM (σ 46) L P) = 0 := by rcases Nat.eq_zero_or_pos (runM (σ 46) L P) with q | q; exact q; exact absurd c_127 (nI_ge (by omega) (by omega))
      refine g_aload_n (q := 156) dX7_nextToken_155 rfl rfl ?_
      refine f7_11 (q := 159) wd_859 dX7_nextToken_156 rfl ?_
      simp only [upc_same, sf_8, sf_10, sf_11, sf_12, sf_13]
      refine g_if_ne (t := 229) (q := 162) dX7_nextToken_159 (by decide) rfl (fun c_159 => ?_) (fun c_159 => ?_)
      · have hPL : P = L := by by_cases q : P = L; exact q; rw [if_neg q] at c_159; exact absurd rfl c_159
        exact g_vret dX7_nextToken_229 (pv_i (by simp only [hz, Nat.add_zero]; rw [if_pos hPL]; exact nxM_eq (by unfold tk3; rw [if_neg (by omega), if_pos hPL]; rfl)) rfl)
      · have hPL : ¬ P = L := fun q => by rw [if_pos q] at c_159; exact absurd c_159 (by decide)
        refine g_aload_n (q := 163) dX7_nextToken_162 rfl rfl ?_
        refine g_aload_n (q := 164) dX7_nextToken_163 rfl rfl ?_
        refine f7_7 (q := 167) wd_855 dX7_nextToken_164 rfl ?_
        refine g_aload_n (q := 168) dX7_nextToken_167 rfl rfl ?_
        refine f7_10 (q := 171) wd_858 dX7_nextToken_168 rfl ?_
        simp only [upc_same, sf_8, sf_10, sf_11, sf_12, sf_13]
        refine g_ialdJ (q := 172) (k := 46) (j := (P + (runM (σ 46) L P))) (N := 120) (by decide) (by decide) rfl rfl (by decide) rfl (by omega) dX7_nextToken_171 rfl ?_
        refine p7_12 (q := 175) wd_860 dX7_nextToken_172 rfl ?_
        refine g_sg (σ' := upc σ 40 (setf (σ 40) (nI P) 0 (σ 46 P) (nI P))) (by simp only [upc_upc, upc_same, sf12, upc_ne (show (46 : Nat) ≠ 40 by decide), hz, Nat.add_zero, if_neg hPL]) ?_
        refine g_aload_n (q := 176) dX7_nextToken_175 rfl rfl ?_
        refine g_aload_n (q := 177) dX7_nextToken_176 rfl rfl ?_
        refine f7_12 (q := 180) wd_860 dX7_nextToken_177 rfl ?_
        simp only [upc_same, sf_8, sf_10, sf_11, sf_12, sf_13]
        refine g_i2l (q := 181) dX7_nextToken_180 rfl ?_
        refine g_ldc2 (q := 184) dX7_nextToken_181 wd_976 rfl ?_
        refine g_ldc2 (q := 187) dX7_nextToken_184 wd_977 rfl ?_
        refine g_callSi (q := 190) (c_X7_in hE ) lk_RX7_54 rfl rfl rfl rfl (Nat.le_of_ble_eq_true rfl) (Nat.le_of_ble_eq_true rfl) (Nat.le_of_ble_eq_true rfl) dX7_nextToken_187 rfl ?_
        refine g_if_ne (t := 211) (q := 193) dX7_nextToken_190 (by decide) rfl (fun c_190 => ?_) (fun c_190 => ?_)
        · rw [bI_n0] at c_190
          rw [show inL (σ 46 P).toInt64 97 122 = wi (σ 46 P) 97 122 from inL_i _ 97 122] at c_190
          refine g_iconst (q := 212) dX7_nextToken_211 ci_1 rfl ?_
          refine g_goto (t := 216) dX7_nextToken_212 (by decide) ?_
          refine p7_11 (q := 219) wd_859 dX7_nextToken_216 rfl ?_
          refine g_aload_n (q := 220) dX7_nextToken_219 rfl rfl ?_
          refine g_dup (q := 221) dX7_nextToken_220 rfl rfl ?_
          refine f7_10 (q := 224) wd_858 dX7_nextToken_221 rfl ?_
          refine g_iconst (q := 225) dX7_nextToken_224 ci_1 rfl ?_
          refine g_iadd (q := 226) dX7_nextToken_225 rfl ?_
          refine p7_10 (q := 229) wd_858 dX7_nextToken_226 rfl ?_
          exact g_vret dX7_nextToken_229 (pv_i (by simp only [upc_upc, upc_same, sf11, sf10, sf_10, nI_1]; exact nxM_eq (by unfold tk3; rw [if_neg (by omega), if_neg hPL, if_pos (Or.inl c_190)])) rfl)
        · rw [bI_0] at c_190
          rw [show inL (σ 46 P).toInt64 97 122 = wi (σ 46 P) 97 122 from inL_i _ 97 122] at c_190
          refine g_aload_n (q := 194) dX7_nextToken_193 rfl rfl ?_
          refine f7_12 (q := 197) wd_860 dX7_nextToken_194 rfl ?_
          refine g_bipush (q := 199) dX7_nextToken_197 cb_44 rfl ?_
          simp only [upc_same, sf_8, sf_10, sf_11, sf_12, sf_13]
          refine g_icmp_eq (t := 211) (q := 202) dX7_nextToken_199 (by decide) rfl (fun c_199 => ?_) (fun c_199 => ?_)
          · refine g_iconst (q := 212) dX7_nextToken_211 ci_1 rfl ?_
            refine g_goto (t := 216) dX7_nextToken_212 (by decide) ?_
            refine p7_11 (q := 219) wd_859 dX7_nextToken_216 rfl ?_
            refine g_aload_n (q := 220) dX7_nextToken_219 rfl rfl ?_
            refine g_dup (q := 221) dX7_nextToken_220 rfl rfl ?_
            refine f7_10 (q := 224) wd_858 dX7_nextToken_221 rfl ?_
            refine g_iconst (q := 225) dX7_nextToken_224 ci_1 rfl ?_
            refine g_iadd (q := 226) dX7_nextToken_225 rfl ?_
            refine p7_10 (q := 229) wd_858 dX7_nextToken_226 rfl ?_
            exact g_vret dX7_nextToken_229 (pv_i (by simp only [upc_upc, upc_same, sf11, sf10, sf_10, nI_1]; exact nxM_eq (by unfold tk3; rw [if_neg (by omega), if_neg hPL, if_pos (Or.inr (Or.inl c_199))])) rfl)
          · refine g_aload_n (q := 203) dX7_nextToken_202 rfl rfl ?_
            refine f7_12 (q := 206) wd_860 dX7_nextToken_203 rfl ?_
            refine g_bipush (q := 208) dX7_nextToken_206 cb_59 rfl ?_
            simp only [upc_same, sf_8, sf_10, sf_11, sf_12, sf_13]
            refine g_icmp_ne (t := 215) (q := 211) dX7_nextToken_208 (by decide) rfl (fun c_208 => ?_) (fun c_208 => ?_)
            · refine g_iconst (q := 216) dX7_nextToken_215 ci_0 rfl ?_
              refine p7_11 (q := 219) wd_859 dX7_nextToken_216 rfl ?_
              refine g_aload_n (q := 220) dX7_nextToken_219 rfl rfl ?_
              refine g_dup (q := 221) dX7_nextToken_220 rfl rfl ?_
              refine f7_10 (q := 224) wd_858 dX7_nextToken_221 rfl ?_
              refine g_iconst (q := 225) dX7_nextToken_224 ci_1 rfl ?_
              refine g_iadd (q := 226) dX7_nextToken_225 rfl ?_
              refine p7_10 (q := 229) wd_858 dX7_nextToken_226 rfl ?_
              exact g_vret dX7_nextToken_229 (pv_i (by simp only [upc_upc, upc_same, sf11, sf10, sf_10, nI_1]; exact nxM_eq (by unfold tk3; rw [if_neg (by omega), if_neg hPL, if_neg (fun q => q.elim (fun q => Bool.false_ne_true (c_190.symm.trans q)) (fun q => q.elim c_199 c_208))])) rfl)
            · refine g_iconst (q := 212) dX7_nextToken_211 ci_1 rfl ?_
              refine g_goto (t := 216) dX7_nextToken_212 (by decide) ?_
              refine p7_11 (q := 219) wd_859 dX7_nextToken_216 rfl ?_
              refine g_aload_n (q := 220) dX7_nextToken_219 rfl rfl ?_
              refine g_dup (q := 221) dX7_nextToken_220 rfl rfl ?_
              refine f7_10 (q := 224) wd_858 dX7_nextToken_221 rfl ?_
              refine g_iconst (q := 225) dX7_nextToken_224 ci_1 rfl ?_
              refine g_iadd (q := 226) dX7_nextToken_225 rfl ?_
              refine p7_10 (q := 229) wd_858 dX7_nextToken_226 rfl ?_
              exact g_vret dX7_nextToken_229 (pv_i (by simp only [upc_upc, upc_same, sf11, sf10, sf_10, nI_1]; exact nxM_eq (by unfold tk3; rw [if_neg (by omega), if_neg hPL, if_pos (Or.inr (Or.inr c_208))])) rfl)
    · have hp : 0 < (runM (σ 46) L P) := by rcases Nat.eq_zero_or_pos (runM (σ 46) L P) with q | q; (exact absurd (by rw [q, Nat.add_zero]; exact Int32.le_refl _) c_127); exact q
      refine g_aload_n (q := 131) dX7_nextToken_130 rfl rfl ?_
      refine g_aload_n (q := 132) dX7_nextToken_131 rfl rfl ?_
      refine f7_10 (q := 135) wd_858 dX7_nextToken_132 rfl ?_
      refine g_aload_n (q := 136) dX7_nextToken_135 rfl rfl ?_
      refine f7_13 (q := 139) wd_861 dX7_nextToken_136 rfl ?_
      refine g_isub (q := 140) dX7_nextToken_139 rfl ?_
      refine g_iconst (q := 141) dX7_nextToken_140 ci_2 rfl ?_
      simp only [upc_same, sf_8, sf_10, sf_11, sf_12, sf_13, pk_sub (Nat.le_add_right P (runM (σ 46) L P)), Nat.add_sub_cancel_left]
      refine g_icmp_le (t := 148) (q := 144) dX7_nextToken_141 (by decide) rfl (fun c_141 => ?_) (fun c_141 => ?_)
      · have h2 : (runM (σ 46) L P) ≤ 2 := by rcases Nat.lt_or_ge 2 (runM (σ 46) L P) with q | q; (exact absurd c_141 (nI_ge q (by omega))); exact q
        refine g_iconst (q := 149) dX7_nextToken_148 ci_2 rfl ?_
        refine p7_11 (q := 152) wd_859 dX7_nextToken_149 rfl ?_
        refine g_goto (t := 229) dX7_nextToken_152 (by decide) ?_
        exact g_vret dX7_nextToken_229 (pv_i (by simp only [upc_upc, upc_same, sf11]; exact nxM_eq (by unfold tk3; rw [if_pos hp, if_pos h2])) rfl)
      · have h2 : ¬ (runM (σ 46) L P) ≤ 2 := fun q => c_141 (nI_le q (by decide))
        refine g_iconst (q := 145) dX7_nextToken_144 ci_0 rfl ?_
        refine g_goto (t := 149) dX7_nextToken_145 (by decide) ?_
        refine p7_11 (q := 152) wd_859 dX7_nextToken_149 rfl ?_
        refine g_goto (t := 229) dX7_nextToken_152 (by decide) ?_
        exact g_vret dX7_nextToken_229 (pv_i (by simp only [upc_upc, upc_same, sf11]; exact nxM_eq (by unfold tk3; rw [if_pos hp, if_neg h2])) rfl)
  have key : ∀ m i, P + i + m = L → i + s_run (σ 46) (P + i) m = (runM (σ 46) L P) → G E 40 13 { frames := 1, cells := 0, slots := 0, locals := 25 } X cX7_nextToken RX7 1 none (Pv (nxM σ L P) τ) 33 [some (.ref (E.2.1 40))] [] (upc σ 40 (setf (σ 40) (nI (P + i)) (if P = L then (3 : Int32) else 0) (mvN (σ 46) P i) (nI P))) τ := by
    intro m
    induction m with
    | zero =>
      intro i hi hr
      simp only [s_run] at hr
      refine g_aload_n (q := 34) dX7_nextToken_33 rfl rfl ?_
      refine f7_10 (q := 37) wd_858 dX7_nextToken_34 rfl ?_
      refine g_aload_n (q := 38) dX7_nextToken_37 rfl rfl ?_
      refine f7_8 (q := 41) wd_856 dX7_nextToken_38 rfl ?_
      simp only [upc_same, sf_8, sf_10, sf_11, sf_12, sf_13]
      refine g_icmp_ge (t := 119) (q := 44) dX7_nextToken_41 (by decide) rfl (fun c_41 => ?_) (fun c_41 => ?_)
      · rw [show i = (runM (σ 46) L P) by omega]
        exact fin
      · exact absurd (by rw [hL, show P + i = L by omega]; exact Int32.le_refl _) c_41
    | succ m ih =>
      intro i hi hr
      refine g_aload_n (q := 34) dX7_nextToken_33 rfl rfl ?_
      refine f7_10 (q := 37) wd_858 dX7_nextToken_34 rfl ?_
      refine g_aload_n (q := 38) dX7_nextToken_37 rfl rfl ?_
      refine f7_8 (q := 41) wd_856 dX7_nextToken_38 rfl ?_
      simp only [upc_same, sf_8, sf_10, sf_11, sf_12, sf_13]
      refine g_icmp_ge (t := 119) (q := 44) dX7_nextToken_41 (by decide) rfl (fun c_41 => ?_) (fun c_41 => ?_)
      · exact absurd c_41 (by rw [hL]; exact nI_ge (by omega) (by omega))
      · refine g_aload_n (q := 45) dX7_nextToken_44 rfl rfl ?_
        refine f7_7 (q := 48) wd_855 dX7_nextToken_45 rfl ?_
        refine g_aload_n (q := 49) dX7_nextToken_48 rfl rfl ?_
        refine f7_10 (q := 52) wd_858 dX7_nextToken_49 rfl ?_
        simp only [upc_same, sf_8, sf_10, sf_11, sf_12, sf_13]
        refine g_ialdJ (q := 53) (k := 46) (j := (P + i)) (N := 120) (by decide) (by decide) rfl rfl (by decide) rfl (by omega) dX7_nextToken_52 rfl ?_
        refine g_i2l (q := 54) dX7_nextToken_53 rfl ?_
        refine g_ldc2 (q := 57) dX7_nextToken_54 wd_974 rfl ?_
        refine g_ldc2 (q := 60) dX7_nextToken_57 wd_975 rfl ?_
        refine g_callSi (q := 63) (c_X7_in hE ) lk_RX7_54 rfl rfl rfl rfl (Nat.le_of_ble_eq_true rfl) (Nat.le_of_ble_eq_true rfl) (Nat.le_of_ble_eq_true rfl) dX7_nextToken_60 rfl ?_
        refine g_if_eq (t := 119) (q := 66) dX7_nextToken_63 (by decide) rfl (fun c_63 => ?_) (fun c_63 => ?_)
        · rw [bI_0] at c_63
          rw [upc_ne (show (46 : Nat) ≠ 40 by decide), show inL (σ 46 (P + i)).toInt64 48 57 = wi (σ 46 (P + i)) 48 57 from inL_i _ 48 57] at c_63
          rw [run_n c_63] at hr
          rw [show i = (runM (σ 46) L P) by omega]
          exact fin
        · rw [bI_n0] at c_63
          rw [upc_ne (show (46 : Nat) ≠ 40 by decide), show inL (σ 46 (P + i)).toInt64 48 57 = wi (σ 46 (P + i)) 48 57 from inL_i _ 48 57] at c_63
          rw [run_y c_63] at hr
          refine g_aload_n (q := 67) dX7_nextToken_66 rfl rfl ?_
          refine g_aload_n (q := 68) dX7_nextToken_67 rfl rfl ?_
          refine f7_12 (q := 71) wd_860 dX7_nextToken_68 rfl ?_
          refine g_bipush (q := 73) dX7_nextToken_71 cb_99 rfl ?_
          simp only [upc_same, sf_8, sf_10, sf_11, sf_12, sf_13]
          refine g_icmp_le (t := 83) (q := 76) dX7_nextToken_73 (by decide) rfl (fun c_73 => ?_) (fun c_73 => ?_)
          · refine g_bipush (q := 85) dX7_nextToken_83 cb_10 rfl ?_
            refine g_aload_n (q := 86) dX7_nextToken_85 rfl rfl ?_
            refine f7_12 (q := 89) wd_860 dX7_nextToken_86 rfl ?_
            refine g_imul (q := 90) dX7_nextToken_89 rfl ?_
            refine g_aload_n (q := 91) dX7_nextToken_90 rfl rfl ?_
            refine f7_7 (q := 94) wd_855 dX7_nextToken_91 rfl ?_
            refine g_aload_n (q := 95) dX7_nextToken_94 rfl rfl ?_
            refine f7_10 (q := 98) wd_858 dX7_nextToken_95 rfl ?_
            simp only [upc_same, sf_8, sf_10, sf_11, sf_12, sf_13]
            refine g_ialdJ (q := 99) (k := 46) (j := (P + i)) (N := 120) (by decide) (by decide) rfl rfl (by decide) rfl (by omega) dX7_nextToken_98 rfl ?_
            refine g_iadd (q := 100) dX7_nextToken_99 rfl ?_
            refine g_bipush (q := 102) dX7_nextToken_100 cb_48 rfl ?_
            refine g_isub (q := 103) dX7_nextToken_102 rfl ?_
            refine p7_12 (q := 106) wd_860 dX7_nextToken_103 rfl ?_
            refine g_aload_n (q := 107) dX7_nextToken_106 rfl rfl ?_
            refine g_dup (q := 108) dX7_nextToken_107 rfl rfl ?_
            refine f7_10 (q := 111) wd_858 dX7_nextToken_108 rfl ?_
            refine g_iconst (q := 112) dX7_nextToken_111 ci_1 rfl ?_
            refine g_iadd (q := 113) dX7_nextToken_112 rfl ?_
            refine p7_10 (q := 116) wd_858 dX7_nextToken_113 rfl ?_
            refine g_goto (t := 33) dX7_nextToken_116 (by decide) ?_
            refine g_sg (σ' := upc σ 40 (setf (σ 40) (nI (P + (i + 1))) (if P = L then (3 : Int32) else 0) (mvN (σ 46) P (i + 1)) (nI P))) (by simp only [upc_upc, upc_same, sf12, sf10, sf_10, sf_12, mvN, upc_ne (show (46 : Nat) ≠ 40 by decide), c_73, if_true, if_false, nI_1]; first | done | rfl) ?_
            exact ih (i + 1) (by omega) (by rw [← Nat.add_assoc]; omega)
          · refine g_aload_n (q := 77) dX7_nextToken_76 rfl rfl ?_
            refine f7_12 (q := 80) wd_860 dX7_nextToken_77 rfl ?_
            refine g_goto (t := 103) dX7_nextToken_80 (by decide) ?_
            refine p7_12 (q := 106) wd_860 dX7_nextToken_103 rfl ?_
            refine g_aload_n (q := 107) dX7_nextToken_106 rfl rfl ?_
            refine g_dup (q := 108) dX7_nextToken_107 rfl rfl ?_
            refine f7_10 (q := 111) wd_858 dX7_nextToken_108 rfl ?_
            refine g_iconst (q := 112) dX7_nextToken_111 ci_1 rfl ?_
            refine g_iadd (q := 113) dX7_nextToken_112 rfl ?_
            refine p7_10 (q := 116) wd_858 dX7_nextToken_113 rfl ?_
            refine g_goto (t := 33) dX7_nextToken_116 (by decide) ?_
            refine g_sg (σ' := upc σ 40 (setf (σ 40) (nI (P + (i + 1))) (if P = L then (3 : Int32) else 0) (mvN (σ 46) P (i + 1)) (nI P))) (by simp only [upc_upc, upc_same, sf12, sf10, sf_10, sf_12, mvN, upc_ne (show (46 : Nat) ≠ 40 by decide), c_73, if_true, if_false, nI_1]; first | done | rfl) ?_
            exact ih (i + 1) (by omega) (by rw [← Nat.add_assoc]; omega)
  refine g_aload_n (q := 1) dX7_nextToken_0 rfl rfl ?_
  refine g_aload_n (q := 2) dX7_nextToken_1 rfl rfl ?_
  refine f7_10 (q := 5) wd_858 dX7_nextToken_2 rfl ?_
  refine p7_13 (q := 8) wd_861 dX7_nextToken_5 rfl ?_
  refine g_aload_n (q := 9) dX7_nextToken_8 rfl rfl ?_
  refine g_aload_n (q := 10) dX7_nextToken_9 rfl rfl ?_
  refine f7_10 (q := 13) wd_858 dX7_nextToken_10 rfl ?_
  refine g_aload_n (q := 14) dX7_nextToken_13 rfl rfl ?_
  refine f7_8 (q := 17) wd_856 dX7_nextToken_14 rfl ?_
  refine g_icmp_ne (t := 24) (q := 20) dX7_nextToken_17 (by decide) rfl (fun c_17 => ?_) (fun c_17 => ?_)
  · have c2 : ¬ P = L := fun e => c_17 (by rw [upc_same, upd_ne (show (10 : Nat) ≠ 13 by decide), upd_ne (show (8 : Nat) ≠ 13 by decide), hP, hL, e])
    refine g_iconst (q := 25) dX7_nextToken_24 ci_0 rfl ?_
    refine p7_11 (q := 28) wd_859 dX7_nextToken_25 rfl ?_
    refine g_aload_n (q := 29) dX7_nextToken_28 rfl rfl ?_
    refine g_iconst (q := 30) dX7_nextToken_29 ci_0 rfl ?_
    refine p7_12 (q := 33) wd_860 dX7_nextToken_30 rfl ?_
    refine g_sg (σ' := upc σ 40 (setf (σ 40) (nI (P + 0)) (if P = L then (3 : Int32) else 0) (mvN (σ 46) P 0) (nI P))) (by simp only [upc_upc, upc_same]; rw [sf_in, hP, if_neg c2]; rfl) ?_
    exact key (L - P) 0 (by omega) (by rw [Nat.zero_add, Nat.add_zero]; rfl)
  · have c2 : P = L := by have c3 := c_17; rw [upc_same, upd_ne (show (10 : Nat) ≠ 13 by decide), upd_ne (show (8 : Nat) ≠ 13 by decide), hP, hL] at c3; exact (nI_eq (by omega) (by omega)).mp c3
    refine g_iconst (q := 21) dX7_nextToken_20 ci_3 rfl ?_
    refine g_goto (t := 25) dX7_nextToken_21 (by decide) ?_
    refine p7_11 (q := 28) wd_859 dX7_nextToken_25 rfl ?_
    refine g_aload_n (q := 29) dX7_nextToken_28 rfl rfl ?_
    refine g_iconst (q := 30) dX7_nextToken_29 ci_0 rfl ?_
    refine p7_12 (q := 33) wd_860 dX7_nextToken_30 rfl ?_
    refine g_sg (σ' := upc σ 40 (setf (σ 40) (nI (P + 0)) (if P = L then (3 : Int32) else 0) (mvN (σ 46) P 0) (nI P))) (by simp only [upc_upc, upc_same]; rw [sf_in, hP, if_pos c2]; rfl) ?_
    exact key (L - P) 0 (by omega) (by rw [Nat.zero_add, Nat.add_zero]; rfl)
abbrev PS : Type := Nat × (Nat → Int32) × Int32
/-- the reading stands at the token that begins at s.1, with the numbers s.2.1 read, the latest fault s.2.2 -/
def mkR (σ : Sto) (L : Nat) (s : PS) : Sto := upc (upc σ 47 s.2.1) 40 (upd (setf (σ 40) (nI (tk3 (σ 46) L s.1).1) (tk3 (σ 46) L s.1).2.1 (tk3 (σ 46) L s.1).2.2 (nI s.1)) 14 s.2.2)
section MKR
variable (σ : Sto) (L : Nat) (s : PS)
theorem mr8 : mkR σ L s 40 8 = σ 40 8 := rfl
theorem mr10 : mkR σ L s 40 10 = nI (tk3 (σ 46) L s.1).1 := rfl
theorem mr11 : mkR σ L s 40 11 = (tk3 (σ 46) L s.1).2.1 := rfl
theorem mr12 : mkR σ L s 40 12 = (tk3 (σ 46) L s.1).2.2 := rfl
theorem mr13 : mkR σ L s 40 13 = nI s.1 := rfl
theorem mr14 : mkR σ L s 40 14 = s.2.2 := rfl
theorem mr47 : mkR σ L s 47 = s.2.1 := rfl
theorem mr46 : mkR σ L s 46 = σ 46 := rfl
theorem mr_o {k : Nat} (h1 : k ≠ 40) (h2 : k ≠ 47) : mkR σ L s k = σ k := by unfold mkR; rw [upc_ne h1, upc_ne h2]
theorem mr_f (f : Int32) : upc (mkR σ L s) 40 (upd (mkR σ L s 40) 14 f) = mkR σ L (s.1, s.2.1, f) := by
  unfold mkR
  rw [upc_upc, upc_same]
  congr 1
  funext j
  unfold upd
  split <;> rfl
theorem mr_r (R : Nat → Int32) : upc (mkR σ L s) 47 R = mkR σ L (s.1, R, s.2.2) := by
  unfold mkR
  funext k
  unfold upc
  by_cases h : k = 47
  · subst h; rfl
  · simp only [h, if_false]
theorem mr_n : nxM (mkR σ L s) L (tk3 (σ 46) L s.1).1 = mkR σ L ((tk3 (σ 46) L s.1).1, s.2.1, s.2.2) := by
  unfold nxM
  rw [mr46]
  unfold mkR
  rw [upc_upc, upc_same]
  congr 1
  funext j
  unfold setf upd
  by_cases h : j = 14
  · subst h; rfl
  · simp only [h, if_false]
    split
    · rfl
    · split
      · rfl
      · split
        · rfl
        · split <;> rfl
end MKR
def isLt (T : Nat → Int32) (L B : Nat) (c : Int32) : Bool := (tk3 T L B).2.1 == 1 && (tk3 T L B).2.2 == c
def p_takes (T : Nat → Int32) (L : Nat) (c : Int32) (s : PS) : Bool × PS := if isLt T L s.1 c = false then (false, (s.1, s.2.1, 1)) else (true, ((tk3 T L s.1).1, s.2.1, s.2.2))
def p_num (T : Nat → Int32) (L : Nat) (lo hi : Int32) (a : Nat) (c : Int32) (s : PS) : Bool × PS := if (tk3 T L s.1).2.1 = 2 then (if wi (tk3 T L s.1).2.2 lo hi = false then (false, (s.1, s.2.1, 2)) else p_takes T L c ((tk3 T L s.1).1, upd s.2.1 a (tk3 T L s.1).2.2, s.2.2)) else (false, (s.1, s.2.1, 1))
set_option maxRecDepth 20000 in
set_option maxHeartbeats 4000000 in
theorem c_X7_faults {E : EE} (hE : inj E 40 13) {σ : Sto} {τ : Stl} {σ0 : Sto} {L : Nat} {s : PS} {f : Int32} (hσ : σ = mkR σ0 L s) : Ct E 40 13 yX7_faults cX7_faults 2 (some FieldType.boolean) { frames := 0, cells := 0, slots := 0, locals := 0 } [.ref (E.2.1 40), .int f] σ τ (Pi (bI false) (mkR σ0 L (s.1, s.2.1, f)) (τ)) := by
  refine ct_of hE RX7 [some (.ref (E.2.1 40)), some (.int f)] (by decide) rfl (Nat.le_of_ble_eq_true rfl) rfl (fun X => ?_)
  subst hσ
  refine g_aload_n (q := 1) dX7_faults_0 rfl rfl ?_
  refine g_iload_n (q := 2) dX7_faults_1 rfl rfl ?_
  refine p7_14 (q := 5) wd_862 dX7_faults_2 rfl ?_
  refine g_iconst (q := 6) dX7_faults_5 ci_0 rfl ?_
  exact g_zret dX7_faults_6 (by first | decide | exact bI_nar _) (pi_i (by rfl) (by exact mr_f _ _ _ _) rfl)
set_option maxRecDepth 20000 in
set_option maxHeartbeats 4000000 in
theorem c_X7_isLetter {E : EE} (hE : inj E 40 13) {σ : Sto} {τ : Stl} {σ0 : Sto} {L : Nat} {s : PS} {c : Int32} (hσ : σ = mkR σ0 L s) : Ct E 40 13 yX7_isLetter cX7_isLetter 2 (some FieldType.boolean) { frames := 0, cells := 0, slots := 0, locals := 0 } [.ref (E.2.1 40), .int c] σ τ (Pi (bI (isLt (σ0 46) L s.1 c)) (σ) (τ)) := by
  refine ct_of hE RX7 [some (.ref (E.2.1 40)), some (.int c)] (by decide) rfl (Nat.le_of_ble_eq_true rfl) rfl (fun X => ?_)
  subst hσ
  refine g_aload_n (q := 1) dX7_isLetter_0 rfl rfl ?_
  refine f7_11 (q := 4) wd_859 dX7_isLetter_1 rfl ?_
  refine g_iconst (q := 5) dX7_isLetter_4 ci_1 rfl ?_
  refine g_icmp_ne (t := 20) (q := 8) dX7_isLetter_5 (by decide) rfl (fun c_5 => ?_) (fun c_5 => ?_)
  · refine g_iconst (q := 21) dX7_isLetter_20 ci_0 rfl ?_
    exact g_zret dX7_isLetter_21 (by first | decide | exact bI_nar _) (pi_i (by unfold isLt; simp only [mr11, mr12] at *; simp_all [bI]) (by rfl) rfl)
  · refine g_aload_n (q := 9) dX7_isLetter_8 rfl rfl ?_
    refine f7_12 (q := 12) wd_860 dX7_isLetter_9 rfl ?_
    refine g_iload_n (q := 13) dX7_isLetter_12 rfl rfl ?_
    refine g_icmp_ne (t := 20) (q := 16) dX7_isLetter_13 (by decide) rfl (fun c_13 => ?_) (fun c_13 => ?_)
    · refine g_iconst (q := 21) dX7_isLetter_20 ci_0 rfl ?_
      exact g_zret dX7_isLetter_21 (by first | decide | exact bI_nar _) (pi_i (by unfold isLt; simp only [mr11, mr12] at *; simp_all [bI]) (by rfl) rfl)
    · refine g_iconst (q := 17) dX7_isLetter_16 ci_1 rfl ?_
      refine g_goto (t := 21) dX7_isLetter_17 (by decide) ?_
      exact g_zret dX7_isLetter_21 (by first | decide | exact bI_nar _) (pi_i (by unfold isLt; simp only [mr11, mr12] at *; simp_all [bI]) (by rfl) rfl)
set_option maxRecDepth 20000 in
set_option maxHeartbeats 4000000 in
theorem c_X7_takes {E : EE} (hE : inj E 40 13) {σ : Sto} {τ : Stl} {σ0 : Sto} {L : Nat} {s : PS} {c : Int32} (hσ : σ = mkR σ0 L s) (hL : σ0 40 8 = nI L) (hB : s.1 ≤ L) (h120 : L ≤ 120) : Ct E 40 13 yX7_takes cX7_takes 2 (some FieldType.boolean) { frames := 2, cells := 0, slots := 0, locals := 45 } [.ref (E.2.1 40), .int c] σ τ (Pi (bI (p_takes (σ0 46) L c s).1) (mkR σ0 L (p_takes (σ0 46) L c s).2) (τ)) := by
  refine ct_of hE RX7 [some (.ref (E.2.1 40)), some (.int c)] (by decide) rfl (Nat.le_of_ble_eq_true rfl) rfl (fun X => ?_)
  subst hσ
  refine g_aload_n (q := 1) dX7_takes_0 rfl rfl ?_
  refine g_iload_n (q := 2) dX7_takes_1 rfl rfl ?_
  refine g_callVi (q := 5) (c_X7_isLetter hE rfl) lk_RX7_105 (by decide) (by decide) rfl (by decide) rfl rfl rfl rfl rfl rfl (Nat.le_of_ble_eq_true rfl) (Nat.le_of_ble_eq_true rfl) (Nat.le_of_ble_eq_true rfl) dX7_takes_2 rfl ?_
  refine g_if_ne (t := 14) (q := 8) dX7_takes_5 (by decide) rfl (fun c_5 => ?_) (fun c_5 => ?_)
  · rw [bI_n0] at c_5
    refine g_aload_n (q := 15) dX7_takes_14 rfl rfl ?_
    refine g_callVv (q := 18) (c_X7_nextToken hE hL rfl (tk_le _ hB).2 h120) lk_RX7_111 (by decide) (by decide) rfl (by decide) rfl rfl rfl rfl rfl rfl (Nat.le_of_ble_eq_true rfl) (Nat.le_of_ble_eq_true rfl) (Nat.le_of_ble_eq_true rfl) dX7_takes_15 rfl ?_
    refine g_iconst (q := 19) dX7_takes_18 ci_1 rfl ?_
    exact g_zret dX7_takes_19 (by first | decide | exact bI_nar _) (pi_i (by unfold p_takes; rw [if_neg (by rw [c_5]; decide)]; rfl) (by unfold p_takes; rw [if_neg (by rw [c_5]; decide)]; exact mr_n _ _ _) rfl)
  · rw [bI_0] at c_5
    refine g_aload_n (q := 9) dX7_takes_8 rfl rfl ?_
    refine g_iconst (q := 10) dX7_takes_9 ci_1 rfl ?_
    refine g_callVi (q := 13) (c_X7_faults hE rfl) lk_RX7_108 (by decide) (by decide) rfl (by decide) rfl rfl rfl rfl rfl rfl (Nat.le_of_ble_eq_true rfl) (Nat.le_of_ble_eq_true rfl) (Nat.le_of_ble_eq_true rfl) dX7_takes_10 rfl ?_
    exact g_zret dX7_takes_13 (by first | decide | exact bI_nar _) (pi_i (by unfold p_takes; rw [if_pos c_5]) (by unfold p_takes; rw [if_pos c_5]) rfl)
set_option maxRecDepth 20000 in
set_option maxHeartbeats 4000000 in
theorem c_X7_takesNumber {E : EE} (hE : inj E 40 13) {σ : Sto} {τ : Stl} {σ0 : Sto} {L : Nat} {s : PS} {lo hi c : Int32} {a : Nat} (hσ : σ = mkR σ0 L s) (hL : σ0 40 8 = nI L) (hB : s.1 ≤ L) (h120 : L ≤ 120) (ha : a < 52) : Ct E 40 13 yX7_takesNumber cX7_takesNumber 5 (some FieldType.boolean) { frames := 3, cells := 0, slots := 0, locals := 66 } [.ref (E.2.1 40), .int lo, .int hi, .int (nI a), .int c] σ τ (Pi (bI (p_num (σ0 46) L lo hi a c s).1) (mkR σ0 L (p_num (σ0 46) L lo hi a c s).2) (τ)) := by
  refine ct_of hE RX7 [some (.ref (E.2.1 40)), some (.int lo), some (.int hi), some (.int (nI a)), some (.int c)] (by decide) rfl (Nat.le_of_ble_eq_true rfl) rfl (fun X => ?_)
  subst hσ
  refine g_aload_n (q := 1) dX7_takesNumber_0 rfl rfl ?_
  refine f7_11 (q := 4) wd_859 dX7_takesNumber_1 rfl ?_
  refine g_iconst (q := 5) dX7_takesNumber_4 ci_2 rfl ?_
  refine g_icmp_ne (t := 23) (q := 8) dX7_takesNumber_5 (by decide) rfl (fun c_5 => ?_) (fun c_5 => ?_)
  · rw [mr11] at c_5
    refine g_aload_n (q := 24) dX7_takesNumber_23 rfl rfl ?_
    refine g_aload_n (q := 25) dX7_takesNumber_24 rfl rfl ?_
    refine f7_11 (q := 28) wd_859 dX7_takesNumber_25 rfl ?_
    refine g_iconst (q := 29) dX7_takesNumber_28 ci_2 rfl ?_
    refine g_icmp_ne (t := 36) (q := 32) dX7_takesNumber_29 (by decide) rfl (fun c_29 => ?_) (fun c_29 => ?_)
    · refine g_iconst (q := 37) dX7_takesNumber_36 ci_1 rfl ?_
      refine g_callVi (q := 40) (c_X7_faults hE rfl) lk_RX7_108 (by decide) (by decide) rfl (by decide) rfl rfl rfl rfl rfl rfl (Nat.le_of_ble_eq_true rfl) (Nat.le_of_ble_eq_true rfl) (Nat.le_of_ble_eq_true rfl) dX7_takesNumber_37 rfl ?_
      exact g_zret dX7_takesNumber_40 (by first | decide | exact bI_nar _) (pi_i (by unfold p_num; rw [if_neg c_5]) (by unfold p_num; rw [if_neg c_5]) rfl)
    · exact absurd (by rw [mr11] at c_29; exact c_29) c_5
  · rw [mr11] at c_5
    refine g_aload_n (q := 9) dX7_takesNumber_8 rfl rfl ?_
    refine f7_12 (q := 12) wd_860 dX7_takesNumber_9 rfl ?_
    refine g_i2l (q := 13) dX7_takesNumber_12 rfl ?_
    refine g_iload_n (q := 14) dX7_takesNumber_13 rfl rfl ?_
    refine g_i2l (q := 15) dX7_takesNumber_14 rfl ?_
    refine g_iload_n (q := 16) dX7_takesNumber_15 rfl rfl ?_
    refine g_i2l (q := 17) dX7_takesNumber_16 rfl ?_
    refine g_callSi (q := 20) (c_X7_in hE ) lk_RX7_54 rfl rfl rfl rfl (Nat.le_of_ble_eq_true rfl) (Nat.le_of_ble_eq_true rfl) (Nat.le_of_ble_eq_true rfl) dX7_takesNumber_17 rfl ?_
    refine g_if_ne (t := 41) (q := 23) dX7_takesNumber_20 (by decide) rfl (fun c_20 => ?_) (fun c_20 => ?_)
    · rw [bI_n0] at c_20
      rw [mr12, show inL ((tk3 (σ0 46) L s.1).2.2).toInt64 lo.toInt64 hi.toInt64 = wi (tk3 (σ0 46) L s.1).2.2 lo hi from inL_i _ _ _] at c_20
      refine g_aload_n (q := 42) dX7_takesNumber_41 rfl rfl ?_
      refine f7_15 (q := 45) wd_863 dX7_takesNumber_42 rfl ?_
      refine g_iload_n (q := 46) dX7_takesNumber_45 rfl rfl ?_
      refine g_aload_n (q := 47) dX7_takesNumber_46 rfl rfl ?_
      refine f7_12 (q := 50) wd_860 dX7_takesNumber_47 rfl ?_
      refine g_iastJ (q := 51) (k := 47) (j := a) (N := 52) (by decide) (by decide) rfl rfl (by decide) rfl (by omega) dX7_takesNumber_50 rfl ?_
      refine g_sg (σ' := mkR σ0 L (s.1, upd s.2.1 a (tk3 (σ0 46) L s.1).2.2, s.2.2)) (by rw [mr12, mr47]; exact mr_r _ _ _ _) ?_
      refine g_aload_n (q := 52) dX7_takesNumber_51 rfl rfl ?_
      refine g_callVv (q := 55) (c_X7_nextToken hE hL rfl (tk_le _ hB).2 h120) lk_RX7_111 (by decide) (by decide) rfl (by decide) rfl rfl rfl rfl rfl rfl (Nat.le_of_ble_eq_true rfl) (Nat.le_of_ble_eq_true rfl) (Nat.le_of_ble_eq_true rfl) dX7_takesNumber_52 rfl ?_
      refine g_sg (σ' := mkR σ0 L ((tk3 (σ0 46) L s.1).1, upd s.2.1 a (tk3 (σ0 46) L s.1).2.2, s.2.2)) (mr_n _ _ _) ?_
      refine g_aload_n (q := 56) dX7_takesNumber_55 rfl rfl ?_
      refine g_iload (q := 58) dX7_takesNumber_56 rfl rfl ?_
      refine g_callVi (q := 61) (c_X7_takes hE rfl hL (tk_le _ hB).2 h120) lk_RX7_114 (by decide) (by decide) rfl (by decide) rfl rfl rfl rfl rfl rfl (Nat.le_of_ble_eq_true rfl) (Nat.le_of_ble_eq_true rfl) (Nat.le_of_ble_eq_true rfl) dX7_takesNumber_58 rfl ?_
      exact g_zret dX7_takesNumber_61 (by first | decide | exact bI_nar _) (pi_i (by unfold p_num; rw [if_pos c_5, if_neg (by rw [c_20]; decide)]) (by unfold p_num; rw [if_pos c_5, if_neg (by rw [c_20]; decide)]) rfl)
    · rw [bI_0] at c_20
      rw [mr12, show inL ((tk3 (σ0 46) L s.1).2.2).toInt64 lo.toInt64 hi.toInt64 = wi (tk3 (σ0 46) L s.1).2.2 lo hi from inL_i _ _ _] at c_20
      refine g_aload_n (q := 24) dX7_takesNumber_23 rfl rfl ?_
      refine g_aload_n (q := 25) dX7_takesNumber_24 rfl rfl ?_
      refine f7_11 (q := 28) wd_859 dX7_takesNumber_25 rfl ?_
      refine g_iconst (q := 29) dX7_takesNumber_28 ci_2 rfl ?_
      refine g_icmp_ne (t := 36) (q := 32) dX7_takesNumber_29 (by decide) rfl (fun c_29 => ?_) (fun c_29 => ?_)
      · exact absurd c_5 (by rw [mr11] at c_29; exact c_29)
      · refine g_iconst (q := 33) dX7_takesNumber_32 ci_2 rfl ?_
        refine g_goto (t := 37) dX7_takesNumber_33 (by decide) ?_
        refine g_callVi (q := 40) (c_X7_faults hE rfl) lk_RX7_108 (by decide) (by decide) rfl (by decide) rfl rfl rfl rfl rfl rfl (Nat.le_of_ble_eq_true rfl) (Nat.le_of_ble_eq_true rfl) (Nat.le_of_ble_eq_true rfl) dX7_takesNumber_37 rfl ?_
        exact g_zret dX7_takesNumber_40 (by first | decide | exact bI_nar _) (pi_i (by unfold p_num; rw [if_pos c_5, if_pos c_20]) (by unfold p_num; rw [if_pos c_5, if_pos c_20]) rfl)
