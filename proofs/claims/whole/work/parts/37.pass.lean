section PS
variable {L d : Nat} {xs : Nat → Int32} {h : xH} {Q : xQ} {p o n w t D wd cA : Nat} {x y z : Int32}
theorem lN_ltI {a b : Nat} (ha : a < 2 ^ 31) (hb : b < 2 ^ 31) : (lN a < lN b) = (a < b) := by
  refine propext ?_
  rw [Int64.lt_iff_toInt_lt, lN_toInt ha, lN_toInt hb]
  omega
/-- without a rule both ways of choosing are one -/
theorem ch_stay {can : Nat → Bool} {s : Nat → Int32} {f : Nat → Nat} (hf : ∀ o, o < 6 → f o ≤ 9 ∧ s (61 + o) = nI (f o)) : ∀ k j, j + k ≤ 6 → forF (chS can (sum0 s p) p) (j + 1) k (some p, lN 100) = (some p, lN 100) := by
  intro k
  induction k with
  | zero => intro j _; rfl
  | succ k ih =>
    intro j hj
    obtain ⟨f1, f2⟩ := hf j (by omega)
    have e : chS can (sum0 s p) p (j + 1) (some p, lN 100) = (some p, lN 100) := by
      unfold chS
      by_cases q : j = p
      · simp [q]
      · simp only [Nat.add_sub_cancel, Nat.succ_ne_zero, if_false, q, and_false]
        have e2 : sum0 s p j = lN (10 - f j) := by
          unfold sum0
          rw [if_neg (fun z => q z.symm), f2, nI_l (by omega), lN_sub (by omega)]
        have r9 : ¬ lN 100 < lN (10 - f j) := by rw [lN_ltI (by omega) (by omega)]; omega
        simp only [e2, r9, if_false]
        split <;> rfl
    rw [forF, e, ih (j + 1) (by omega)]
theorem ch_pl {can : Nat → Bool} {s : Nat → Int32} {f : Nat → Nat} (hf : ∀ o, o < 6 → f o ≤ 9 ∧ s (61 + o) = nI (f o)) : ∀ k j best most, j + k ≤ 6 → (∀ b, best = some b → b < 6 ∧ most = lN (10 - f b)) → (best = none → most = lN 0) → (forF (chS can (sum0 s p) p) (j + 1) k (best, most)).1 = forF (plF can (fun o => s (61 + o)) p) j k best := by
  intro k
  induction k with
  | zero => intro j best most _ _ _; rfl
  | succ k ih =>
    intro j best most hj h1 h2
    obtain ⟨f1, f2⟩ := hf j (by omega)
    rw [forF, forF]
    by_cases q : j = p
    · have e1 : chS can (sum0 s p) p (j + 1) (best, most) = (best, most) := by unfold chS; simp [q]
      have e2 : plF can (fun o => s (61 + o)) p j best = best := by unfold plF; simp [q]
      rw [e1, e2]
      exact ih (j + 1) best most (by omega) h1 h2
    · have e0 : sum0 s p j = lN (10 - f j) := by
        unfold sum0
        rw [if_neg (fun z => q z.symm), f2, nI_l (by omega), lN_sub (by omega)]
      cases hc : can j
      · have e1 : chS can (sum0 s p) p (j + 1) (best, most) = (best, most) := by unfold chS; simp [q, hc]
        have e2 : plF can (fun o => s (61 + o)) p j best = best := by unfold plF; simp [q, hc]
        rw [e1, e2]
        exact ih (j + 1) best most (by omega) h1 h2
      · have e1 : chS can (sum0 s p) p (j + 1) (best, most) = if most < lN (10 - f j) then (some j, lN (10 - f j)) else (best, most) := by
          unfold chS
          simp only [Nat.add_sub_cancel, Nat.succ_ne_zero, if_false, q, and_false, hc, Bool.true_eq_false, e0]
        rw [e1]
        cases best with
        | none =>
          have e2 : plF can (fun o => s (61 + o)) p j none = some j := by unfold plF; simp [q, hc]
          rw [e2, h2 rfl, if_pos (by rw [lN_ltI (by omega) (by omega)]; omega)]
          exact ih (j + 1) (some j) _ (by omega) (fun b hb => by cases hb; exact ⟨by omega, rfl⟩) (fun z => by cases z)
        | some b =>
          obtain ⟨b1, b2⟩ := h1 b rfl
          obtain ⟨g1, g2⟩ := hf b b1
          have e2 : plF can (fun o => s (61 + o)) p j (some b) = if f j < f b then some j else some b := by
            unfold plF
            have r9 : (nI (f j) < nI (f b)) = (f j < f b) := propext (nI_ltI (by omega) (by omega))
            simp only [q, hc, if_false, Bool.true_eq_false, f2, g2, r9]
          rw [e2, b2]
          by_cases r : f j < f b
          · rw [if_pos r, if_pos (by rw [lN_ltI (by omega) (by omega)]; omega)]
            exact ih (j + 1) (some j) _ (by omega) (fun b' hb => by cases hb; exact ⟨by omega, rfl⟩) (fun z => by cases z)
          · rw [if_neg r, if_neg (by rw [lN_ltI (by omega) (by omega)]; omega)]
            exact ih (j + 1) (some b) _ (by omega) (fun b' hb => by cases hb; exact ⟨b1, rfl⟩) (fun z => by cases z)
theorem ch_eq {can : Nat → Bool} {s : Nat → Int32} {f : Nat → Nat} (hf : ∀ o, o < 6 → f o ≤ 9 ∧ s (61 + o) = nI (f o)) (hn : n ≤ 6) : chC can (sum0 s p) p n = plC can (fun o => s (61 + o)) p n := by
  unfold chC plC
  rw [forF]
  cases hc : can p
  · have e1 : chS can (sum0 s p) p 0 (none, lN 0) = (none, lN 0) := by unfold chS; simp [hc]
    rw [e1, if_neg (by decide)]
    exact ch_pl hf n 0 none _ (by omega) (fun b q => by cases q) (fun _ => rfl)
  · have e1 : chS can (sum0 s p) p 0 (none, lN 0) = (some p, lN 100) := by
      unfold chS
      have e0 : sum0 s p p = lN 100 := by unfold sum0; simp
      simp only [Nat.lt_irrefl, false_and, if_false, if_true, hc, Bool.true_eq_false, e0]
      rw [if_pos (by rw [lN_ltI (by omega) (by omega)]; omega)]
    rw [e1, if_pos rfl, ch_stay hf n 0 (by omega)]
/-- a day in the making, on the class's side: a world and the choices, other rows as they were -/
def PSt (h : xH) (w t cA : Nat) (S : WS) (ch : Nat → Int32) (h0 : xH) : Prop := h0.1 = h.1 ∧ h0.2.1 = h.2.1 ∧ xR h0 = xR h ∧ getW h0 w t = S ∧ xI h0 cA = ch ∧ ∀ a, a ≠ w → a ≠ t → a ≠ cA → xI h0 a = xI h a
def DOK (h : xH) (D wd cA : Nat) : Prop := xis h D (.inr 0) ∧ xR h D 0 = some wd ∧ xR h D 1 = some cA ∧ xis h wd (.inl .long) ∧ xlen h wd = 12 ∧ xis h cA (.inl .int) ∧ xlen h cA = 6
theorem PSt.wok {h0 : xH} {S : WS} {ch : Nat → Int32} (hs : PSt h w t cA S ch h0) (hW : WOK h w t) : WOK h0 w t := by
  obtain ⟨a, b, c, -⟩ := hs
  unfold WOK xis xlen at *
  rw [a, b, c]; exact hW
theorem PSt.dok {h0 : xH} {S : WS} {ch : Nat → Int32} (hs : PSt h w t cA S ch h0) (hD : DOK h D wd cA) : DOK h0 D wd cA := by
  obtain ⟨a, b, c, -⟩ := hs
  unfold DOK xis xlen at *
  rw [a, b, c]; exact hD
theorem cA_ne (hW : WOK h w t) (hD : DOK h D wd cA) : cA ≠ w ∧ cA ≠ t := by
  refine ⟨fun e => ?_, fun e => ?_⟩
  · have := hD.2.2.2.2.2.1.2.symm.trans (e ▸ hW.1.2)
    cases this
  · have := hD.2.2.2.2.2.2.symm.trans (e ▸ hW.2.2.2)
    omega
theorem PSt.set {h0 : xH} {S : WS} {ch : Nat → Int32} (hs : PSt h w t cA S ch h0) (h1 : cA ≠ w ∧ cA ≠ t) (j : Nat) (x : Int32) : PSt h w t cA S (upd ch j x) (setI h0 cA j x) := by
  obtain ⟨a, b, c, e, f, g⟩ := hs
  rw [setI_row]
  refine ⟨a, b, c, ?_, ?_, fun z z1 z2 z3 => ?_⟩
  · rw [← e]; unfold getW; rw [xI_row_ne _ _ (Ne.symm h1.1), xI_row_ne _ _ (Ne.symm h1.2)]
  · rw [xI_row_eq, f]
  · rw [xI_row_ne _ _ z3]; exact g z z1 z2 z3
theorem PSt.put {h0 : xH} {S S' : WS} {ch : Nat → Int32} (hs : PSt h w t cA S ch h0) (h1 : cA ≠ w ∧ cA ≠ t) (hwt : w ≠ t) : PSt h w t cA S' ch (putW h0 w t S') := by
  obtain ⟨a, b, c, e, f, g⟩ := hs
  refine ⟨a, b, c, getW_put hwt S', ?_, fun z z1 z2 z3 => ?_⟩
  · unfold putW; rw [xI_row_ne _ _ h1.2, xI_row_ne _ _ h1.1, f]
  · unfold putW; rw [xI_row_ne _ _ z2, xI_row_ne _ _ z1]; exact g z z1 z2 z3
theorem xor64 : ∀ a, a < 64 → ∀ b, b < 64 → nI a ^^^ nI b = nI (a ^^^ b) ∧ a ^^^ b < 64 := by decide +kernel
theorem bit64 : ∀ p, p < 6 → nI 1 <<< (nI p &&& 31) = nI (2 ^ p) ∧ 2 ^ p < 64 := by decide +kernel
/-- those across are six bits -/
def Six (x : Int32) : Prop := ∃ a, a < 64 ∧ x = nI a
theorem Six.flip {x : Int32} (hx : Six x) (hp : p < 6) : Six (x ^^^ nI 1 <<< (nI p &&& 31)) := by
  obtain ⟨a, h1, rfl⟩ := hx
  obtain ⟨e1, e2⟩ := bit64 p hp
  rw [e1]
  obtain ⟨e3, e4⟩ := xor64 a h1 _ e2
  exact ⟨_, e4, e3⟩
theorem Six.go {S : WS} (hx : Six (S.1 5)) (hp : p < 6) (ho : o < 6) : Six ((goW S p o).1 5) := by
  unfold goW
  split
  · exact hx.flip hp
  · exact (hx.flip hp).flip ho
/-- the choice that a day asks for, with a rule or without -/
def ChoIs (L : Nat) (xs : Nat → Int32) (d n D w t cA : Nat) (rl : Option Nat) (h : xH) (cho : WS → Nat → Option Nat) : Prop := ∀ S ch h0 p, PSt h w t cA S ch h0 → S.1 3 = nI n → Six (S.1 5) → p < n → (∀ o, cho S p = some o → o < n) ∧ ∃ h1, PSt h w t cA S ch h1 ∧ ∀ Q, (match rl with | none => Call (pG L xs) pM d 4 [.ref D, .ref w, .int (nI p)] h0 Q | some r => Call (pG L xs) pM d 5 [.ref D, .ref w, .int (nI p), .ref r] h0 Q) = Q (some (.int (opI (cho S p)))) h1
/-- one person's turn -/
def turnF (cho : WS → Nat → Option Nat) : Nat → WS × (Nat → Int32) → WS × (Nat → Int32) := fun p st => if sidF (st.1.1 5) p = 0 then (match cho st.1 p with | none => st.1 | some o => goW st.1 p o, upd (upd st.2 p (-(nI 1))) p (opI (cho st.1 p))) else (st.1, upd st.2 p (-(nI 1)))
theorem goW_3 (S : WS) : (goW S p o).1 3 = S.1 3 := by
  unfold goW giveW stepW
  split <;> simp [upd]
theorem pass_loopN (hW : WOK h w t) (hD : DOK h D wd cA) (hn : n ≤ 6) {cho : WS → Nat → Option Nat} (hC : ChoIs L xs (d + 4) n D w t cA none h cho) {bf : Int32} : ∀ k p S ch h0 (u5 : Option Value), PSt h w t cA S ch h0 → S.1 3 = nI n → Six (S.1 5) → p + k = n → ∃ h1 u6, PSt h w t cA (forF (turnF cho) p k (S, ch)).1 (forF (turnF cho) p k (S, ch)).2 h1 ∧ (forF (turnF cho) p k (S, ch)).1.1 3 = nI n ∧ ∀ Q, Ev (pG L xs) pM (d + 4) b1 (some .int) Q b1_1 [some (.ref D), some (.ref w), some .null, some (.int bf), some (.int (nI p)), u5] [] h0 = Ev (pG L xs) pM (d + 4) b1 (some .int) Q b1_5 [some (.ref D), some (.ref w), some .null, some (.int bf), some (.int (nI n)), u6] [] h1 := by
  have hne := cA_ne hW hD
  have hwt := hW.ne
  intro k
  induction k with
  | zero =>
    intro p S ch h0 u5 hs h3 hx hp
    obtain rfl : p = n := by omega
    have hW0 := hs.wok hW
    have e3 : xI h0 w 3 = nI p := by rw [← h3, ← hs.2.2.2.1]; rfl
    refine ⟨h0, u5, hs, h3, fun Q => ?_⟩
    rw [b1_1]
    simp (disch := omega) only [e_iconst, e_lconst, e_null, e_ldc, e_iload0i, e_iload1i, e_iload2i, e_iload3i, e_iload4i, e_iload5i, e_iload6i, e_iload7i, e_iload8i, e_iload9i, e_iload10i, e_lload0l, e_lload1l, e_lload2l, e_lload3l, e_lload4l, e_lload5l, e_lload6l, e_lload7l, e_lload8l, e_lload9l, e_lload10l, e_aload0r, e_aload1r, e_aload2r, e_aload3r, e_aload4r, e_aload5r, e_aload6r, e_aload7r, e_aload8r, e_aload9r, e_aload10r, e_aload0n, e_aload1n, e_aload2n, e_aload3n, e_aload4n, e_aload5n, e_aload6n, e_aload7n, e_aload8n, e_aload9n, e_aload10n, e_aload0f, e_aload1f, e_aload2f, e_aload3f, e_aload4f, e_aload5f, e_aload6f, e_aload7f, e_aload8f, e_aload9f, e_aload10f, e_iinc0, e_iinc1, e_iinc2, e_iinc3, e_iinc4, e_iinc5, e_iinc6, e_iinc7, e_iinc8, e_iinc9, e_iinc10, xst_0, xst_1i, xst2_1i, xst_1r, xst2_1r, xst_1n, xst2_1n, xst_1f, xst2_1f, xst_1u, xst2_1u, xst_1l, xst2_1l, xst2_0, xst_s, xst2_s, e_istore, e_lstore, e_astore, e_astoreN, e_iadd, e_isub, e_imul, e_iand, e_ior, e_ixor, e_ishl, e_ishr, e_iushr, e_ladd, e_lsub, e_lmul, e_land, e_lor, e_lshl, e_lcmp, e_i2l, e_l2i, e_i2b, e_ineg, e_dupi, e_dupr, e_dup2, e_popi, e_popr, e_idiv, e_irem, e_ldiv, e_lrem, e_ifCond, e_if_icmp, e_ifnullR, e_ifnullN, e_ifnonnullR, e_ifnonnullN, e_goto, e_jsr, e_tsw, e_lsw, e_getfield, e_dload, e_fload, e_putfield, e_dstore, e_fstore, e_fstoreN, e_monitor, e_new, e_newarray, e_anewarray, e_mnew, e_alen, e_slen, e_schr, e_alenF, e_iaload, e_ialoadF, e_baload, e_laload, e_aaload, e_iastore, e_lastore, e_aastore, e_bastoreB, e_bastoreZ, e_copy, e_ireturnI, e_ireturnZ0, e_ireturnZ1, e_ireturnZb, e_lreturn, e_areturn, e_areturnA, e_areturnN, e_return, ofI, ofIm, ofJ, cat_i, cat_l, cat_r, cat_f, cat_n, xent_0, xent_i, xent_l, xent_r, xent_n, xent_f, xentry, xrf_s, xrf_n, List.getD_cons_zero, List.getD_cons_succ, List.length_cons, List.length_nil, List.cons_append, List.nil_append, List.append_nil, List.map_cons, List.map_nil, List.sum_cons, List.sum_nil, List.replicate, oT_s, oT_n, true_and, and_true, Nat.reduceAdd, Nat.reduceSub, Nat.reduceLeDiff, Nat.reduceEqDiff, Nat.reduceLT, Nat.reduceDiv, Nat.reduceMod, Nat.reduceMul, eq_self, ofN, nI_dec, nI_11, or_true, true_or, false_or, or_false, nI_e0, nI_0lt, Nat.succ_ne_zero, Nat.zero_lt_succ, lg_cmp_gt, lg_cmp_lt, lg_cmp_eq, nI_lt0, nI_add, pk_sub, pk_mul, Nat.add_sub_cancel, nI_clamp, vp_in_T, nI_ltI, nI_leI, nI_eqI, Nat.zero_add, Nat.add_zero, xc_eq, xc_ne, xc_lt, xc_ge, xc_gt, xc_le, bI_0, bI_0n, bI_n0, not_true_eq_false, not_false_eq_true, if_true, if_false, ite_true, ite_false, decide_true, decide_false, and_self, and_true, true_and, k1_5, hW0.1, e3, Nat.lt_irrefl]
  | succ k ih =>
    intro p S ch h0 u5 hs h3 hx hp
    have hW0 := hs.wok hW
    have hD0 := hs.dok hD
    have e3 : xI h0 w 3 = nI n := by rw [← h3, ← hs.2.2.2.1]; rfl
    have e5 : xI h0 w 5 = S.1 5 := by rw [← hs.2.2.2.1]; rfl
    have q0 : p < n := by omega
    have q6 : p < 6 := by omega
    have hs1 := hs.set hne p (-(nI 1))
    have hW1 := hs1.wok hW
    have hD1 := hs1.dok hD
    have e51 : xI (setI h0 cA p (-(nI 1))) w 5 = S.1 5 := by rw [← hs1.2.2.2.1]; rfl
    by_cases hz : sidF (S.1 5) p = 0
    · obtain ⟨c1, h2, c2, c3⟩ := hC S _ _ p hs1 h3 hx q0
      have hs3 := c2.set hne p (opI (cho S p))
      have hW2 := c2.wok hW
      have hD2 := c2.dok hD
      dsimp only at c3
      cases hc : cho S p with
      | none =>
        rw [hc] at c3 hs3
        obtain ⟨h4, u6, g1, g2, g3⟩ := ih (p + 1) S _ _ (some (.int (-(nI 1)))) hs3 h3 hx (by omega)
        have et : turnF cho p (S, ch) = (S, upd (upd ch p (-(nI 1))) p (opI none)) := by unfold turnF; simp [hz, hc]
        rw [forF, et]
        refine ⟨h4, u6, g1, g2, fun Q => ?_⟩
        rw [b1_1]
        simp only [opI] at c3 g3
        simp (disch := omega) only [k1_3, b1_3, k1_4, b1_4, e_iconst, e_lconst, e_null, e_ldc, e_iload0i, e_iload1i, e_iload2i, e_iload3i, e_iload4i, e_iload5i, e_iload6i, e_iload7i, e_iload8i, e_iload9i, e_iload10i, e_lload0l, e_lload1l, e_lload2l, e_lload3l, e_lload4l, e_lload5l, e_lload6l, e_lload7l, e_lload8l, e_lload9l, e_lload10l, e_aload0r, e_aload1r, e_aload2r, e_aload3r, e_aload4r, e_aload5r, e_aload6r, e_aload7r, e_aload8r, e_aload9r, e_aload10r, e_aload0n, e_aload1n, e_aload2n, e_aload3n, e_aload4n, e_aload5n, e_aload6n, e_aload7n, e_aload8n, e_aload9n, e_aload10n, e_aload0f, e_aload1f, e_aload2f, e_aload3f, e_aload4f, e_aload5f, e_aload6f, e_aload7f, e_aload8f, e_aload9f, e_aload10f, e_iinc0, e_iinc1, e_iinc2, e_iinc3, e_iinc4, e_iinc5, e_iinc6, e_iinc7, e_iinc8, e_iinc9, e_iinc10, xst_0, xst_1i, xst2_1i, xst_1r, xst2_1r, xst_1n, xst2_1n, xst_1f, xst2_1f, xst_1u, xst2_1u, xst_1l, xst2_1l, xst2_0, xst_s, xst2_s, e_istore, e_lstore, e_astore, e_astoreN, e_iadd, e_isub, e_imul, e_iand, e_ior, e_ixor, e_ishl, e_ishr, e_iushr, e_ladd, e_lsub, e_lmul, e_land, e_lor, e_lshl, e_lcmp, e_i2l, e_l2i, e_i2b, e_ineg, e_dupi, e_dupr, e_dup2, e_popi, e_popr, e_idiv, e_irem, e_ldiv, e_lrem, e_ifCond, e_if_icmp, e_ifnullR, e_ifnullN, e_ifnonnullR, e_ifnonnullN, e_goto, e_jsr, e_tsw, e_lsw, e_getfield, e_dload, e_fload, e_putfield, e_dstore, e_fstore, e_fstoreN, e_monitor, e_new, e_newarray, e_anewarray, e_mnew, e_alen, e_slen, e_schr, e_alenF, e_iaload, e_ialoadF, e_baload, e_laload, e_aaload, e_iastore, e_lastore, e_aastore, e_bastoreB, e_bastoreZ, e_copy, e_ireturnI, e_ireturnZ0, e_ireturnZ1, e_ireturnZb, e_lreturn, e_areturn, e_areturnA, e_areturnN, e_return, ofI, ofIm, ofJ, cat_i, cat_l, cat_r, cat_f, cat_n, xent_0, xent_i, xent_l, xent_r, xent_n, xent_f, xentry, xrf_s, xrf_n, List.getD_cons_zero, List.getD_cons_succ, List.length_cons, List.length_nil, List.cons_append, List.nil_append, List.append_nil, List.map_cons, List.map_nil, List.sum_cons, List.sum_nil, List.replicate, oT_s, oT_n, true_and, and_true, Nat.reduceAdd, Nat.reduceSub, Nat.reduceLeDiff, Nat.reduceEqDiff, Nat.reduceLT, Nat.reduceDiv, Nat.reduceMod, Nat.reduceMul, eq_self, ofN, nI_dec, nI_11, or_true, true_or, false_or, or_false, nI_e0, nI_0lt, Nat.succ_ne_zero, Nat.zero_lt_succ, lg_cmp_gt, lg_cmp_lt, lg_cmp_eq, nI_lt0, nI_add, pk_sub, pk_mul, Nat.add_sub_cancel, nI_clamp, vp_in_T, nI_ltI, nI_leI, nI_eqI, Nat.zero_add, Nat.add_zero, xc_eq, xc_ne, xc_lt, xc_ge, xc_gt, xc_le, bI_0, bI_0n, bI_n0, not_true_eq_false, not_false_eq_true, if_true, if_false, ite_true, ite_false, decide_true, decide_false, and_self, and_true, true_and, v102, v4, k1_1, k1_5, g3 Q, xis_sI, xlen_sI, xR_sI, hW0.1, hD0.1, hD0.2.2.1, hD0.2.2.2.2.2.1, hD0.2.2.2.2.2.2, e3, q0, w_side hW1, e51, hz, c3, hD2.1, hD2.2.2.1, hD2.2.2.2.2.2.1, hD2.2.2.2.2.2.2]
      | some o =>
        rw [hc] at c3 hs3
        have ho := c1 o hc
        have ho6 : o < 6 := by omega
        have hs4 := hs3.put (S' := goW S p o) hne hwt
        obtain ⟨h4, u6, g1, g2, g3⟩ := ih (p + 1) (goW S p o) _ _ (some (.int (nI o))) hs4 (by rw [goW_3]; exact h3) (hx.go q6 ho6) (by omega)
        have et : turnF cho p (S, ch) = (goW S p o, upd (upd ch p (-(nI 1))) p (opI (some o))) := by unfold turnF; simp [hz, hc]
        rw [forF, et]
        refine ⟨h4, u6, g1, g2, fun Q => ?_⟩
        rw [b1_1]
        have eg : getW (setI h2 cA p (nI o)) w t = S := hs3.2.2.2.1
        simp only [opI] at c3 hs3 g3
        simp (disch := omega) only [k1_3, b1_3, k1_4, b1_4, e_iconst, e_lconst, e_null, e_ldc, e_iload0i, e_iload1i, e_iload2i, e_iload3i, e_iload4i, e_iload5i, e_iload6i, e_iload7i, e_iload8i, e_iload9i, e_iload10i, e_lload0l, e_lload1l, e_lload2l, e_lload3l, e_lload4l, e_lload5l, e_lload6l, e_lload7l, e_lload8l, e_lload9l, e_lload10l, e_aload0r, e_aload1r, e_aload2r, e_aload3r, e_aload4r, e_aload5r, e_aload6r, e_aload7r, e_aload8r, e_aload9r, e_aload10r, e_aload0n, e_aload1n, e_aload2n, e_aload3n, e_aload4n, e_aload5n, e_aload6n, e_aload7n, e_aload8n, e_aload9n, e_aload10n, e_aload0f, e_aload1f, e_aload2f, e_aload3f, e_aload4f, e_aload5f, e_aload6f, e_aload7f, e_aload8f, e_aload9f, e_aload10f, e_iinc0, e_iinc1, e_iinc2, e_iinc3, e_iinc4, e_iinc5, e_iinc6, e_iinc7, e_iinc8, e_iinc9, e_iinc10, xst_0, xst_1i, xst2_1i, xst_1r, xst2_1r, xst_1n, xst2_1n, xst_1f, xst2_1f, xst_1u, xst2_1u, xst_1l, xst2_1l, xst2_0, xst_s, xst2_s, e_istore, e_lstore, e_astore, e_astoreN, e_iadd, e_isub, e_imul, e_iand, e_ior, e_ixor, e_ishl, e_ishr, e_iushr, e_ladd, e_lsub, e_lmul, e_land, e_lor, e_lshl, e_lcmp, e_i2l, e_l2i, e_i2b, e_ineg, e_dupi, e_dupr, e_dup2, e_popi, e_popr, e_idiv, e_irem, e_ldiv, e_lrem, e_ifCond, e_if_icmp, e_ifnullR, e_ifnullN, e_ifnonnullR, e_ifnonnullN, e_goto, e_jsr, e_tsw, e_lsw, e_getfield, e_dload, e_fload, e_putfield, e_dstore, e_fstore, e_fstoreN, e_monitor, e_new, e_newarray, e_anewarray, e_mnew, e_alen, e_slen, e_schr, e_alenF, e_iaload, e_ialoadF, e_baload, e_laload, e_aaload, e_iastore, e_lastore, e_aastore, e_bastoreB, e_bastoreZ, e_copy, e_ireturnI, e_ireturnZ0, e_ireturnZ1, e_ireturnZb, e_lreturn, e_areturn, e_areturnA, e_areturnN, e_return, ofI, ofIm, ofJ, cat_i, cat_l, cat_r, cat_f, cat_n, xent_0, xent_i, xent_l, xent_r, xent_n, xent_f, xentry, xrf_s, xrf_n, List.getD_cons_zero, List.getD_cons_succ, List.length_cons, List.length_nil, List.cons_append, List.nil_append, List.append_nil, List.map_cons, List.map_nil, List.sum_cons, List.sum_nil, List.replicate, oT_s, oT_n, true_and, and_true, Nat.reduceAdd, Nat.reduceSub, Nat.reduceLeDiff, Nat.reduceEqDiff, Nat.reduceLT, Nat.reduceDiv, Nat.reduceMod, Nat.reduceMul, eq_self, ofN, nI_dec, nI_11, or_true, true_or, false_or, or_false, nI_e0, nI_0lt, Nat.succ_ne_zero, Nat.zero_lt_succ, lg_cmp_gt, lg_cmp_lt, lg_cmp_eq, nI_lt0, nI_add, pk_sub, pk_mul, Nat.add_sub_cancel, nI_clamp, vp_in_T, nI_ltI, nI_leI, nI_eqI, Nat.zero_add, Nat.add_zero, xc_eq, xc_ne, xc_lt, xc_ge, xc_gt, xc_le, bI_0, bI_0n, bI_n0, not_true_eq_false, not_false_eq_true, if_true, if_false, ite_true, ite_false, decide_true, decide_false, and_self, and_true, true_and, v102, v4, v113, k1_1, k1_5, g3 Q, xis_sI, xlen_sI, xR_sI, hW0.1, hD0.1, hD0.2.2.1, hD0.2.2.2.2.2.1, hD0.2.2.2.2.2.2, e3, q0, w_side hW1, e51, hz, c3, hD2.1, hD2.2.2.1, hD2.2.2.2.2.2.1, hD2.2.2.2.2.2.2, hW2.1, opI_none o ho6, w_go (h := setI h2 cA p (nI o)) hW2, eg]
    · obtain ⟨h4, u6, g1, g2, g3⟩ := ih (p + 1) S _ _ u5 hs1 h3 hx (by omega)
      have et : turnF cho p (S, ch) = (S, upd ch p (-(nI 1))) := by unfold turnF; simp [hz]
      rw [forF, et]
      refine ⟨h4, u6, g1, g2, fun Q => ?_⟩
      rw [b1_1]
      simp (disch := omega) only [k1_4, b1_4, e_iconst, e_lconst, e_null, e_ldc, e_iload0i, e_iload1i, e_iload2i, e_iload3i, e_iload4i, e_iload5i, e_iload6i, e_iload7i, e_iload8i, e_iload9i, e_iload10i, e_lload0l, e_lload1l, e_lload2l, e_lload3l, e_lload4l, e_lload5l, e_lload6l, e_lload7l, e_lload8l, e_lload9l, e_lload10l, e_aload0r, e_aload1r, e_aload2r, e_aload3r, e_aload4r, e_aload5r, e_aload6r, e_aload7r, e_aload8r, e_aload9r, e_aload10r, e_aload0n, e_aload1n, e_aload2n, e_aload3n, e_aload4n, e_aload5n, e_aload6n, e_aload7n, e_aload8n, e_aload9n, e_aload10n, e_aload0f, e_aload1f, e_aload2f, e_aload3f, e_aload4f, e_aload5f, e_aload6f, e_aload7f, e_aload8f, e_aload9f, e_aload10f, e_iinc0, e_iinc1, e_iinc2, e_iinc3, e_iinc4, e_iinc5, e_iinc6, e_iinc7, e_iinc8, e_iinc9, e_iinc10, xst_0, xst_1i, xst2_1i, xst_1r, xst2_1r, xst_1n, xst2_1n, xst_1f, xst2_1f, xst_1u, xst2_1u, xst_1l, xst2_1l, xst2_0, xst_s, xst2_s, e_istore, e_lstore, e_astore, e_astoreN, e_iadd, e_isub, e_imul, e_iand, e_ior, e_ixor, e_ishl, e_ishr, e_iushr, e_ladd, e_lsub, e_lmul, e_land, e_lor, e_lshl, e_lcmp, e_i2l, e_l2i, e_i2b, e_ineg, e_dupi, e_dupr, e_dup2, e_popi, e_popr, e_idiv, e_irem, e_ldiv, e_lrem, e_ifCond, e_if_icmp, e_ifnullR, e_ifnullN, e_ifnonnullR, e_ifnonnullN, e_goto, e_jsr, e_tsw, e_lsw, e_getfield, e_dload, e_fload, e_putfield, e_dstore, e_fstore, e_fstoreN, e_monitor, e_new, e_newarray, e_anewarray, e_mnew, e_alen, e_slen, e_schr, e_alenF, e_iaload, e_ialoadF, e_baload, e_laload, e_aaload, e_iastore, e_lastore, e_aastore, e_bastoreB, e_bastoreZ, e_copy, e_ireturnI, e_ireturnZ0, e_ireturnZ1, e_ireturnZb, e_lreturn, e_areturn, e_areturnA, e_areturnN, e_return, ofI, ofIm, ofJ, cat_i, cat_l, cat_r, cat_f, cat_n, xent_0, xent_i, xent_l, xent_r, xent_n, xent_f, xentry, xrf_s, xrf_n, List.getD_cons_zero, List.getD_cons_succ, List.length_cons, List.length_nil, List.cons_append, List.nil_append, List.append_nil, List.map_cons, List.map_nil, List.sum_cons, List.sum_nil, List.replicate, oT_s, oT_n, true_and, and_true, Nat.reduceAdd, Nat.reduceSub, Nat.reduceLeDiff, Nat.reduceEqDiff, Nat.reduceLT, Nat.reduceDiv, Nat.reduceMod, Nat.reduceMul, eq_self, ofN, nI_dec, nI_11, or_true, true_or, false_or, or_false, nI_e0, nI_0lt, Nat.succ_ne_zero, Nat.zero_lt_succ, lg_cmp_gt, lg_cmp_lt, lg_cmp_eq, nI_lt0, nI_add, pk_sub, pk_mul, Nat.add_sub_cancel, nI_clamp, vp_in_T, nI_ltI, nI_leI, nI_eqI, Nat.zero_add, Nat.add_zero, xc_eq, xc_ne, xc_lt, xc_ge, xc_gt, xc_le, bI_0, bI_0n, bI_n0, not_true_eq_false, not_false_eq_true, if_true, if_false, ite_true, ite_false, decide_true, decide_false, and_self, and_true, true_and, v102, k1_1, k1_5, g3 Q, xis_sI, xlen_sI, xR_sI, hW0.1, hD0.1, hD0.2.2.1, hD0.2.2.2.2.2.1, hD0.2.2.2.2.2.2, e3, q0, w_side hW1, e51, hz]
theorem pass_loopR (hW : WOK h w t) (hD : DOK h D wd cA) (hn : n ≤ 6) {cho : WS → Nat → Option Nat} {r : Nat} (hC : ChoIs L xs (d + 4) n D w t cA (some r) h cho) {bf : Int32} : ∀ k p S ch h0 (u5 : Option Value), PSt h w t cA S ch h0 → S.1 3 = nI n → Six (S.1 5) → p + k = n → ∃ h1 u6, PSt h w t cA (forF (turnF cho) p k (S, ch)).1 (forF (turnF cho) p k (S, ch)).2 h1 ∧ (forF (turnF cho) p k (S, ch)).1.1 3 = nI n ∧ ∀ Q, Ev (pG L xs) pM (d + 4) b1 (some .int) Q b1_1 [some (.ref D), some (.ref w), some (.ref r), some (.int bf), some (.int (nI p)), u5] [] h0 = Ev (pG L xs) pM (d + 4) b1 (some .int) Q b1_5 [some (.ref D), some (.ref w), some (.ref r), some (.int bf), some (.int (nI n)), u6] [] h1 := by
  have hne := cA_ne hW hD
  have hwt := hW.ne
  intro k
  induction k with
  | zero =>
    intro p S ch h0 u5 hs h3 hx hp
    obtain rfl : p = n := by omega
    have hW0 := hs.wok hW
    have e3 : xI h0 w 3 = nI p := by rw [← h3, ← hs.2.2.2.1]; rfl
    refine ⟨h0, u5, hs, h3, fun Q => ?_⟩
    rw [b1_1]
    simp (disch := omega) only [e_iconst, e_lconst, e_null, e_ldc, e_iload0i, e_iload1i, e_iload2i, e_iload3i, e_iload4i, e_iload5i, e_iload6i, e_iload7i, e_iload8i, e_iload9i, e_iload10i, e_lload0l, e_lload1l, e_lload2l, e_lload3l, e_lload4l, e_lload5l, e_lload6l, e_lload7l, e_lload8l, e_lload9l, e_lload10l, e_aload0r, e_aload1r, e_aload2r, e_aload3r, e_aload4r, e_aload5r, e_aload6r, e_aload7r, e_aload8r, e_aload9r, e_aload10r, e_aload0n, e_aload1n, e_aload2n, e_aload3n, e_aload4n, e_aload5n, e_aload6n, e_aload7n, e_aload8n, e_aload9n, e_aload10n, e_aload0f, e_aload1f, e_aload2f, e_aload3f, e_aload4f, e_aload5f, e_aload6f, e_aload7f, e_aload8f, e_aload9f, e_aload10f, e_iinc0, e_iinc1, e_iinc2, e_iinc3, e_iinc4, e_iinc5, e_iinc6, e_iinc7, e_iinc8, e_iinc9, e_iinc10, xst_0, xst_1i, xst2_1i, xst_1r, xst2_1r, xst_1n, xst2_1n, xst_1f, xst2_1f, xst_1u, xst2_1u, xst_1l, xst2_1l, xst2_0, xst_s, xst2_s, e_istore, e_lstore, e_astore, e_astoreN, e_iadd, e_isub, e_imul, e_iand, e_ior, e_ixor, e_ishl, e_ishr, e_iushr, e_ladd, e_lsub, e_lmul, e_land, e_lor, e_lshl, e_lcmp, e_i2l, e_l2i, e_i2b, e_ineg, e_dupi, e_dupr, e_dup2, e_popi, e_popr, e_idiv, e_irem, e_ldiv, e_lrem, e_ifCond, e_if_icmp, e_ifnullR, e_ifnullN, e_ifnonnullR, e_ifnonnullN, e_goto, e_jsr, e_tsw, e_lsw, e_getfield, e_dload, e_fload, e_putfield, e_dstore, e_fstore, e_fstoreN, e_monitor, e_new, e_newarray, e_anewarray, e_mnew, e_alen, e_slen, e_schr, e_alenF, e_iaload, e_ialoadF, e_baload, e_laload, e_aaload, e_iastore, e_lastore, e_aastore, e_bastoreB, e_bastoreZ, e_copy, e_ireturnI, e_ireturnZ0, e_ireturnZ1, e_ireturnZb, e_lreturn, e_areturn, e_areturnA, e_areturnN, e_return, ofI, ofIm, ofJ, cat_i, cat_l, cat_r, cat_f, cat_n, xent_0, xent_i, xent_l, xent_r, xent_n, xent_f, xentry, xrf_s, xrf_n, List.getD_cons_zero, List.getD_cons_succ, List.length_cons, List.length_nil, List.cons_append, List.nil_append, List.append_nil, List.map_cons, List.map_nil, List.sum_cons, List.sum_nil, List.replicate, oT_s, oT_n, true_and, and_true, Nat.reduceAdd, Nat.reduceSub, Nat.reduceLeDiff, Nat.reduceEqDiff, Nat.reduceLT, Nat.reduceDiv, Nat.reduceMod, Nat.reduceMul, eq_self, ofN, nI_dec, nI_11, or_true, true_or, false_or, or_false, nI_e0, nI_0lt, Nat.succ_ne_zero, Nat.zero_lt_succ, lg_cmp_gt, lg_cmp_lt, lg_cmp_eq, nI_lt0, nI_add, pk_sub, pk_mul, Nat.add_sub_cancel, nI_clamp, vp_in_T, nI_ltI, nI_leI, nI_eqI, Nat.zero_add, Nat.add_zero, xc_eq, xc_ne, xc_lt, xc_ge, xc_gt, xc_le, bI_0, bI_0n, bI_n0, not_true_eq_false, not_false_eq_true, if_true, if_false, ite_true, ite_false, decide_true, decide_false, and_self, and_true, true_and, k1_5, hW0.1, e3, Nat.lt_irrefl]
  | succ k ih =>
    intro p S ch h0 u5 hs h3 hx hp
    have hW0 := hs.wok hW
    have hD0 := hs.dok hD
    have e3 : xI h0 w 3 = nI n := by rw [← h3, ← hs.2.2.2.1]; rfl
    have e5 : xI h0 w 5 = S.1 5 := by rw [← hs.2.2.2.1]; rfl
    have q0 : p < n := by omega
    have q6 : p < 6 := by omega
    have hs1 := hs.set hne p (-(nI 1))
    have hW1 := hs1.wok hW
    have hD1 := hs1.dok hD
    have e51 : xI (setI h0 cA p (-(nI 1))) w 5 = S.1 5 := by rw [← hs1.2.2.2.1]; rfl
    by_cases hz : sidF (S.1 5) p = 0
    · obtain ⟨c1, h2, c2, c3⟩ := hC S _ _ p hs1 h3 hx q0
      have hs3 := c2.set hne p (opI (cho S p))
      have hW2 := c2.wok hW
      have hD2 := c2.dok hD
      dsimp only at c3
      cases hc : cho S p with
      | none =>
        rw [hc] at c3 hs3
        obtain ⟨h4, u6, g1, g2, g3⟩ := ih (p + 1) S _ _ (some (.int (-(nI 1)))) hs3 h3 hx (by omega)
        have et : turnF cho p (S, ch) = (S, upd (upd ch p (-(nI 1))) p (opI none)) := by unfold turnF; simp [hz, hc]
        rw [forF, et]
        refine ⟨h4, u6, g1, g2, fun Q => ?_⟩
        rw [b1_1]
        simp only [opI] at c3 g3
        simp (disch := omega) only [k1_2, b1_2, k1_3, b1_3, k1_4, b1_4, e_iconst, e_lconst, e_null, e_ldc, e_iload0i, e_iload1i, e_iload2i, e_iload3i, e_iload4i, e_iload5i, e_iload6i, e_iload7i, e_iload8i, e_iload9i, e_iload10i, e_lload0l, e_lload1l, e_lload2l, e_lload3l, e_lload4l, e_lload5l, e_lload6l, e_lload7l, e_lload8l, e_lload9l, e_lload10l, e_aload0r, e_aload1r, e_aload2r, e_aload3r, e_aload4r, e_aload5r, e_aload6r, e_aload7r, e_aload8r, e_aload9r, e_aload10r, e_aload0n, e_aload1n, e_aload2n, e_aload3n, e_aload4n, e_aload5n, e_aload6n, e_aload7n, e_aload8n, e_aload9n, e_aload10n, e_aload0f, e_aload1f, e_aload2f, e_aload3f, e_aload4f, e_aload5f, e_aload6f, e_aload7f, e_aload8f, e_aload9f, e_aload10f, e_iinc0, e_iinc1, e_iinc2, e_iinc3, e_iinc4, e_iinc5, e_iinc6, e_iinc7, e_iinc8, e_iinc9, e_iinc10, xst_0, xst_1i, xst2_1i, xst_1r, xst2_1r, xst_1n, xst2_1n, xst_1f, xst2_1f, xst_1u, xst2_1u, xst_1l, xst2_1l, xst2_0, xst_s, xst2_s, e_istore, e_lstore, e_astore, e_astoreN, e_iadd, e_isub, e_imul, e_iand, e_ior, e_ixor, e_ishl, e_ishr, e_iushr, e_ladd, e_lsub, e_lmul, e_land, e_lor, e_lshl, e_lcmp, e_i2l, e_l2i, e_i2b, e_ineg, e_dupi, e_dupr, e_dup2, e_popi, e_popr, e_idiv, e_irem, e_ldiv, e_lrem, e_ifCond, e_if_icmp, e_ifnullR, e_ifnullN, e_ifnonnullR, e_ifnonnullN, e_goto, e_jsr, e_tsw, e_lsw, e_getfield, e_dload, e_fload, e_putfield, e_dstore, e_fstore, e_fstoreN, e_monitor, e_new, e_newarray, e_anewarray, e_mnew, e_alen, e_slen, e_schr, e_alenF, e_iaload, e_ialoadF, e_baload, e_laload, e_aaload, e_iastore, e_lastore, e_aastore, e_bastoreB, e_bastoreZ, e_copy, e_ireturnI, e_ireturnZ0, e_ireturnZ1, e_ireturnZb, e_lreturn, e_areturn, e_areturnA, e_areturnN, e_return, ofI, ofIm, ofJ, cat_i, cat_l, cat_r, cat_f, cat_n, xent_0, xent_i, xent_l, xent_r, xent_n, xent_f, xentry, xrf_s, xrf_n, List.getD_cons_zero, List.getD_cons_succ, List.length_cons, List.length_nil, List.cons_append, List.nil_append, List.append_nil, List.map_cons, List.map_nil, List.sum_cons, List.sum_nil, List.replicate, oT_s, oT_n, true_and, and_true, Nat.reduceAdd, Nat.reduceSub, Nat.reduceLeDiff, Nat.reduceEqDiff, Nat.reduceLT, Nat.reduceDiv, Nat.reduceMod, Nat.reduceMul, eq_self, ofN, nI_dec, nI_11, or_true, true_or, false_or, or_false, nI_e0, nI_0lt, Nat.succ_ne_zero, Nat.zero_lt_succ, lg_cmp_gt, lg_cmp_lt, lg_cmp_eq, nI_lt0, nI_add, pk_sub, pk_mul, Nat.add_sub_cancel, nI_clamp, vp_in_T, nI_ltI, nI_leI, nI_eqI, Nat.zero_add, Nat.add_zero, xc_eq, xc_ne, xc_lt, xc_ge, xc_gt, xc_le, bI_0, bI_0n, bI_n0, not_true_eq_false, not_false_eq_true, if_true, if_false, ite_true, ite_false, decide_true, decide_false, and_self, and_true, true_and, v102, v5, k1_1, k1_5, g3 Q, xis_sI, xlen_sI, xR_sI, hW0.1, hD0.1, hD0.2.2.1, hD0.2.2.2.2.2.1, hD0.2.2.2.2.2.2, e3, q0, w_side hW1, e51, hz, c3, hD2.1, hD2.2.2.1, hD2.2.2.2.2.2.1, hD2.2.2.2.2.2.2]
      | some o =>
        rw [hc] at c3 hs3
        have ho := c1 o hc
        have ho6 : o < 6 := by omega
        have hs4 := hs3.put (S' := goW S p o) hne hwt
        obtain ⟨h4, u6, g1, g2, g3⟩ := ih (p + 1) (goW S p o) _ _ (some (.int (nI o))) hs4 (by rw [goW_3]; exact h3) (hx.go q6 ho6) (by omega)
        have et : turnF cho p (S, ch) = (goW S p o, upd (upd ch p (-(nI 1))) p (opI (some o))) := by unfold turnF; simp [hz, hc]
        rw [forF, et]
        refine ⟨h4, u6, g1, g2, fun Q => ?_⟩
        rw [b1_1]
        have eg : getW (setI h2 cA p (nI o)) w t = S := hs3.2.2.2.1
        simp only [opI] at c3 hs3 g3
        simp (disch := omega) only [k1_2, b1_2, k1_3, b1_3, k1_4, b1_4, e_iconst, e_lconst, e_null, e_ldc, e_iload0i, e_iload1i, e_iload2i, e_iload3i, e_iload4i, e_iload5i, e_iload6i, e_iload7i, e_iload8i, e_iload9i, e_iload10i, e_lload0l, e_lload1l, e_lload2l, e_lload3l, e_lload4l, e_lload5l, e_lload6l, e_lload7l, e_lload8l, e_lload9l, e_lload10l, e_aload0r, e_aload1r, e_aload2r, e_aload3r, e_aload4r, e_aload5r, e_aload6r, e_aload7r, e_aload8r, e_aload9r, e_aload10r, e_aload0n, e_aload1n, e_aload2n, e_aload3n, e_aload4n, e_aload5n, e_aload6n, e_aload7n, e_aload8n, e_aload9n, e_aload10n, e_aload0f, e_aload1f, e_aload2f, e_aload3f, e_aload4f, e_aload5f, e_aload6f, e_aload7f, e_aload8f, e_aload9f, e_aload10f, e_iinc0, e_iinc1, e_iinc2, e_iinc3, e_iinc4, e_iinc5, e_iinc6, e_iinc7, e_iinc8, e_iinc9, e_iinc10, xst_0, xst_1i, xst2_1i, xst_1r, xst2_1r, xst_1n, xst2_1n, xst_1f, xst2_1f, xst_1u, xst2_1u, xst_1l, xst2_1l, xst2_0, xst_s, xst2_s, e_istore, e_lstore, e_astore, e_astoreN, e_iadd, e_isub, e_imul, e_iand, e_ior, e_ixor, e_ishl, e_ishr, e_iushr, e_ladd, e_lsub, e_lmul, e_land, e_lor, e_lshl, e_lcmp, e_i2l, e_l2i, e_i2b, e_ineg, e_dupi, e_dupr, e_dup2, e_popi, e_popr, e_idiv, e_irem, e_ldiv, e_lrem, e_ifCond, e_if_icmp, e_ifnullR, e_ifnullN, e_ifnonnullR, e_ifnonnullN, e_goto, e_jsr, e_tsw, e_lsw, e_getfield, e_dload, e_fload, e_putfield, e_dstore, e_fstore, e_fstoreN, e_monitor, e_new, e_newarray, e_anewarray, e_mnew, e_alen, e_slen, e_schr, e_alenF, e_iaload, e_ialoadF, e_baload, e_laload, e_aaload, e_iastore, e_lastore, e_aastore, e_bastoreB, e_bastoreZ, e_copy, e_ireturnI, e_ireturnZ0, e_ireturnZ1, e_ireturnZb, e_lreturn, e_areturn, e_areturnA, e_areturnN, e_return, ofI, ofIm, ofJ, cat_i, cat_l, cat_r, cat_f, cat_n, xent_0, xent_i, xent_l, xent_r, xent_n, xent_f, xentry, xrf_s, xrf_n, List.getD_cons_zero, List.getD_cons_succ, List.length_cons, List.length_nil, List.cons_append, List.nil_append, List.append_nil, List.map_cons, List.map_nil, List.sum_cons, List.sum_nil, List.replicate, oT_s, oT_n, true_and, and_true, Nat.reduceAdd, Nat.reduceSub, Nat.reduceLeDiff, Nat.reduceEqDiff, Nat.reduceLT, Nat.reduceDiv, Nat.reduceMod, Nat.reduceMul, eq_self, ofN, nI_dec, nI_11, or_true, true_or, false_or, or_false, nI_e0, nI_0lt, Nat.succ_ne_zero, Nat.zero_lt_succ, lg_cmp_gt, lg_cmp_lt, lg_cmp_eq, nI_lt0, nI_add, pk_sub, pk_mul, Nat.add_sub_cancel, nI_clamp, vp_in_T, nI_ltI, nI_leI, nI_eqI, Nat.zero_add, Nat.add_zero, xc_eq, xc_ne, xc_lt, xc_ge, xc_gt, xc_le, bI_0, bI_0n, bI_n0, not_true_eq_false, not_false_eq_true, if_true, if_false, ite_true, ite_false, decide_true, decide_false, and_self, and_true, true_and, v102, v5, v113, k1_1, k1_5, g3 Q, xis_sI, xlen_sI, xR_sI, hW0.1, hD0.1, hD0.2.2.1, hD0.2.2.2.2.2.1, hD0.2.2.2.2.2.2, e3, q0, w_side hW1, e51, hz, c3, hD2.1, hD2.2.2.1, hD2.2.2.2.2.2.1, hD2.2.2.2.2.2.2, hW2.1, opI_none o ho6, w_go (h := setI h2 cA p (nI o)) hW2, eg]
    · obtain ⟨h4, u6, g1, g2, g3⟩ := ih (p + 1) S _ _ u5 hs1 h3 hx (by omega)
      have et : turnF cho p (S, ch) = (S, upd ch p (-(nI 1))) := by unfold turnF; simp [hz]
      rw [forF, et]
      refine ⟨h4, u6, g1, g2, fun Q => ?_⟩
      rw [b1_1]
      simp (disch := omega) only [k1_4, b1_4, e_iconst, e_lconst, e_null, e_ldc, e_iload0i, e_iload1i, e_iload2i, e_iload3i, e_iload4i, e_iload5i, e_iload6i, e_iload7i, e_iload8i, e_iload9i, e_iload10i, e_lload0l, e_lload1l, e_lload2l, e_lload3l, e_lload4l, e_lload5l, e_lload6l, e_lload7l, e_lload8l, e_lload9l, e_lload10l, e_aload0r, e_aload1r, e_aload2r, e_aload3r, e_aload4r, e_aload5r, e_aload6r, e_aload7r, e_aload8r, e_aload9r, e_aload10r, e_aload0n, e_aload1n, e_aload2n, e_aload3n, e_aload4n, e_aload5n, e_aload6n, e_aload7n, e_aload8n, e_aload9n, e_aload10n, e_aload0f, e_aload1f, e_aload2f, e_aload3f, e_aload4f, e_aload5f, e_aload6f, e_aload7f, e_aload8f, e_aload9f, e_aload10f, e_iinc0, e_iinc1, e_iinc2, e_iinc3, e_iinc4, e_iinc5, e_iinc6, e_iinc7, e_iinc8, e_iinc9, e_iinc10, xst_0, xst_1i, xst2_1i, xst_1r, xst2_1r, xst_1n, xst2_1n, xst_1f, xst2_1f, xst_1u, xst2_1u, xst_1l, xst2_1l, xst2_0, xst_s, xst2_s, e_istore, e_lstore, e_astore, e_astoreN, e_iadd, e_isub, e_imul, e_iand, e_ior, e_ixor, e_ishl, e_ishr, e_iushr, e_ladd, e_lsub, e_lmul, e_land, e_lor, e_lshl, e_lcmp, e_i2l, e_l2i, e_i2b, e_ineg, e_dupi, e_dupr, e_dup2, e_popi, e_popr, e_idiv, e_irem, e_ldiv, e_lrem, e_ifCond, e_if_icmp, e_ifnullR, e_ifnullN, e_ifnonnullR, e_ifnonnullN, e_goto, e_jsr, e_tsw, e_lsw, e_getfield, e_dload, e_fload, e_putfield, e_dstore, e_fstore, e_fstoreN, e_monitor, e_new, e_newarray, e_anewarray, e_mnew, e_alen, e_slen, e_schr, e_alenF, e_iaload, e_ialoadF, e_baload, e_laload, e_aaload, e_iastore, e_lastore, e_aastore, e_bastoreB, e_bastoreZ, e_copy, e_ireturnI, e_ireturnZ0, e_ireturnZ1, e_ireturnZb, e_lreturn, e_areturn, e_areturnA, e_areturnN, e_return, ofI, ofIm, ofJ, cat_i, cat_l, cat_r, cat_f, cat_n, xent_0, xent_i, xent_l, xent_r, xent_n, xent_f, xentry, xrf_s, xrf_n, List.getD_cons_zero, List.getD_cons_succ, List.length_cons, List.length_nil, List.cons_append, List.nil_append, List.append_nil, List.map_cons, List.map_nil, List.sum_cons, List.sum_nil, List.replicate, oT_s, oT_n, true_and, and_true, Nat.reduceAdd, Nat.reduceSub, Nat.reduceLeDiff, Nat.reduceEqDiff, Nat.reduceLT, Nat.reduceDiv, Nat.reduceMod, Nat.reduceMul, eq_self, ofN, nI_dec, nI_11, or_true, true_or, false_or, or_false, nI_e0, nI_0lt, Nat.succ_ne_zero, Nat.zero_lt_succ, lg_cmp_gt, lg_cmp_lt, lg_cmp_eq, nI_lt0, nI_add, pk_sub, pk_mul, Nat.add_sub_cancel, nI_clamp, vp_in_T, nI_ltI, nI_leI, nI_eqI, Nat.zero_add, Nat.add_zero, xc_eq, xc_ne, xc_lt, xc_ge, xc_gt, xc_le, bI_0, bI_0n, bI_n0, not_true_eq_false, not_false_eq_true, if_true, if_false, ite_true, ite_false, decide_true, decide_false, and_self, and_true, true_and, v102, k1_1, k1_5, g3 Q, xis_sI, xlen_sI, xR_sI, hW0.1, hD0.1, hD0.2.2.1, hD0.2.2.2.2.2.1, hD0.2.2.2.2.2.2, e3, q0, w_side hW1, e51, hz]
end PS
