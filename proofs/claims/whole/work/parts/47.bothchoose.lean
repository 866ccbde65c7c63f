section BC
variable {L d : Nat} {xs : Nat → Int32} {h : xH} {Q : xQ} {p o n w t D wd cA a r c st m : Nat} {x y z : Int32}
/-! rows of longs -/
def rowJ (h : xH) (a : Nat) (g : Nat → Int64) : xH := (h.1, h.2.1, h.2.2.1, upr h.2.2.2.1 a g, h.2.2.2.2)
def updL (f : Nat → Int64) (j : Nat) (v : Int64) : Nat → Int64 := fun k => if k = j then v else f k
theorem setJ_row (h : xH) (a j : Nat) (v : Int64) : setJ h a j v = rowJ h a (updL (xJ h a) j v) := by
  unfold setJ rowJ
  refine congrArg (fun z => (h.1, h.2.1, h.2.2.1, z, h.2.2.2.2)) ?_
  funext b k
  unfold up2 upr updL
  by_cases e : b = a
  · subst e
    by_cases q : k = j
    · simp [q]
    · simp [q, xJ]
  · simp [e]
theorem rowJ_row (h : xH) (a : Nat) (f g : Nat → Int64) : rowJ (rowJ h a f) a g = rowJ h a g := by
  unfold rowJ
  refine congrArg (fun z => (h.1, h.2.1, h.2.2.1, z, h.2.2.2.2)) ?_
  funext b
  unfold upr
  by_cases e : b = a
  · simp [e]
  · simp [e]
theorem xJ_row_eq (h : xH) (a : Nat) (f : Nat → Int64) : xJ (rowJ h a f) a = f := by unfold xJ rowJ upr; simp
theorem xJ_row_ne (h : xH) {a b : Nat} (f : Nat → Int64) (e : b ≠ a) : xJ (rowJ h a f) b = xJ h b := by unfold xJ rowJ upr; simp [e]
theorem xI_rJ {h : xH} {a : Nat} {f : Nat → Int64} : xI (rowJ h a f) = xI h := rfl
theorem xR_rJ {h : xH} {a : Nat} {f : Nat → Int64} : xR (rowJ h a f) = xR h := rfl
theorem xis_rJ {h : xH} {a b : Nat} {f : Nat → Int64} {q : FieldType ⊕ Nat} : xis (rowJ h a f) b q = xis h b q := rfl
theorem xlen_rJ {h : xH} {a b : Nat} {f : Nat → Int64} : xlen (rowJ h a f) b = xlen h b := rfl
theorem Bas.rJ (hz : Bas h) {b : Nat} {f : Nat → Int64} : Bas (rowJ h b f) := hz
theorem JFr.row {f : Nat → Int64} : JFr st h (rowJ h st f) := ⟨rfl, rfl, rfl, rfl, fun a ha => xJ_row_ne _ _ ha⟩
theorem s_sumR (hz : Bas h) (hp : p < 6) (ho : o < 6) (hd : ¬ xI h 137 11 < 0) (ha : a < 64) (h12 : xI h 137 12 = nI a) {cls : List Cl} (hr : RuleR h t cls) (hf : xI h 127 21 = nI t) : ∃ h1, Scr h h1 ∧ ∀ Q, Call (pG L xs) pM (d + 4) 221 [.ref 127, .int (nI p), .int (nI o)] h Q = Q (some (.long (worthF (wordF (wS (xI h 137)) a p o) cls))) h1 := by
  have ht6 := hr.1
  have key : ∃ H, JFr 136 h H ∧ (∀ k, k < 12 → xJ H 136 k = wordF (wS (xI h 137)) a p o k) ∧ ∀ Q, Call (pG L xs) pM (d + 4) 221 [.ref 127, .int (nI p), .int (nI o)] h Q = Call (pG L xs) pM (d + 3) 220 [.ref 127, .int (nI t)] H (fun v h' => Ev (pG L xs) pM (d + 3) b221 (some .long) Q [.lreturn] [some (.ref 127), some (.int (nI p)), some (.int (nI o))] (v.toList ++ []) h') := by
    refine ⟨rowJ h 136 (updL (updL (updL (updL (updL (updL (updL (updL (updL (updL (updL (updL (xJ h 136) 0 (nI p).toInt64) 1 (nI o).toInt64) 2 (if p = o then lN 1 else lN 0)) 3 (depF (xI h 137 11) (trS (xI h 137)) p o).toInt64) 4 (xI h 137 (55 + p)).toInt64) 5 (xI h 137 (13 + p)).toInt64) 6 (if p = o then lN 0 else (xI h 137 (61 + o)).toInt64)) 7 (xI h 137 (19 + 6 * p + o)).toInt64) 8 (xI h 137 (19 + 6 * p + p)).toInt64) 9 (xI h 137 2 - nI (popN a)).toInt64) 10 (nI (popN a)).toInt64) 11 (xI h 137 10).toInt64), JFr.row, ?_, fun Q => ?_⟩
    · intro k hk
      have hk' : k = 0 ∨ k = 1 ∨ k = 2 ∨ k = 3 ∨ k = 4 ∨ k = 5 ∨ k = 6 ∨ k = 7 ∨ k = 8 ∨ k = 9 ∨ k = 10 ∨ k = 11 := by omega
      have e1 : (wS (xI h 137)).2 = trS (xI h 137) := rfl
      rw [xJ_row_eq]
      rcases hk' with rfl | rfl | rfl | rfl | rfl | rfl | rfl | rfl | rfl | rfl | rfl | rfl <;> simp only [updL, wordF, e1, trS_h hp, trS_p hp, trS_f ho, trS_t hp ho, trS_t hp hp] <;> simp [eq_comm (a := p) (b := o)] <;> rfl
    · by_cases e : p = o
      · simp (disch := first | omega | (simp only [xI_rJ]; exact hd) | exact hz.rJ | exact hz) only [m221, b221_0, k221_3, b221_3, k221_4, b221_4, k221_5, b221_5, k221_6, b221_6, k221_7, b221_7, e_iconst, e_lconst, e_null, e_ldc, e_iload0i, e_iload1i, e_iload2i, e_iload3i, e_iload4i, e_iload5i, e_iload6i, e_iload7i, e_iload8i, e_iload9i, e_iload10i, e_lload0l, e_lload1l, e_lload2l, e_lload3l, e_lload4l, e_lload5l, e_lload6l, e_lload7l, e_lload8l, e_lload9l, e_lload10l, e_aload0r, e_aload1r, e_aload2r, e_aload3r, e_aload4r, e_aload5r, e_aload6r, e_aload7r, e_aload8r, e_aload9r, e_aload10r, e_aload0n, e_aload1n, e_aload2n, e_aload3n, e_aload4n, e_aload5n, e_aload6n, e_aload7n, e_aload8n, e_aload9n, e_aload10n, e_aload0f, e_aload1f, e_aload2f, e_aload3f, e_aload4f, e_aload5f, e_aload6f, e_aload7f, e_aload8f, e_aload9f, e_aload10f, e_iinc0, e_iinc1, e_iinc2, e_iinc3, e_iinc4, e_iinc5, e_iinc6, e_iinc7, e_iinc8, e_iinc9, e_iinc10, xst_0, xst_1i, xst2_1i, xst_1r, xst2_1r, xst_1n, xst2_1n, xst_1f, xst2_1f, xst_1u, xst2_1u, xst_1l, xst2_1l, xst2_0, xst_s, xst2_s, e_istore, e_lstore, e_astore, e_astoreN, e_iadd, e_isub, e_imul, e_iand, e_ior, e_ixor, e_ishl, e_ishr, e_iushr, e_ladd, e_lsub, e_lmul, e_land, e_lor, e_lshl, e_lcmp, e_i2l, e_l2i, e_i2b, e_ineg, e_dupi, e_dupr, e_dup2, e_popi, e_popr, e_idiv, e_irem, e_ldiv, e_lrem, e_ifCond, e_if_icmp, e_ifnullR, e_ifnullN, e_ifnonnullR, e_ifnonnullN, e_goto, e_jsr, e_tsw, e_lsw, e_getfield, e_dload, e_fload, e_putfield, e_dstore, e_fstore, e_fstoreN, e_monitor, e_new, e_newarray, e_anewarray, e_mnew, e_alen, e_slen, e_schr, e_alenF, e_iaload, e_ialoadF, e_baload, e_laload, e_aaload, e_iastore, e_lastore, e_aastore, e_bastoreB, e_bastoreZ, e_copy, e_ireturnI, e_ireturnZ0, e_ireturnZ1, e_ireturnZb, e_lreturn, e_areturn, e_areturnA, e_areturnN, e_return, ofI, ofIm, ofJ, cat_i, cat_l, cat_r, cat_f, cat_n, xent_0, xent_i, xent_l, xent_r, xent_n, xent_f, xentry, xrf_s, xrf_n, List.getD_cons_zero, List.getD_cons_succ, List.length_cons, List.length_nil, List.cons_append, List.nil_append, List.append_nil, List.map_cons, List.map_nil, List.sum_cons, List.sum_nil, List.replicate, oT_s, oT_n, true_and, and_true, Nat.reduceAdd, Nat.reduceSub, Nat.reduceLeDiff, Nat.reduceEqDiff, Nat.reduceLT, Nat.reduceDiv, Nat.reduceMod, Nat.reduceMul, eq_self, ofN, nI_dec, nI_11, or_true, true_or, false_or, or_false, nI_e0, nI_0lt, Nat.succ_ne_zero, Nat.zero_lt_succ, lg_cmp_gt, lg_cmp_lt, lg_cmp_eq, nI_lt0, nI_add, pk_sub, pk_mul, Nat.add_sub_cancel, nI_clamp, vp_in_T, nI_ltI, nI_leI, nI_eqI, Nat.zero_add, Nat.add_zero, xc_eq, xc_ne, xc_lt, xc_ge, xc_gt, xc_le, bI_0, bI_0n, bI_n0, not_true_eq_false, not_false_eq_true, if_true, if_false, ite_true, ite_false, decide_true, decide_false, and_self, and_true, true_and, setJ_row, rowJ_row, xJ_row_eq, xI_rJ, xR_rJ, xis_rJ, xlen_rJ, zs_127 hz, zr_127_0 hz, zr_127_3 hz, zr_127_4 hz, zr_127_5 hz, zr_127_6 hz, zr_127_7 hz, zr_127_15 hz, zr_127_17 hz, zr_127_19 hz, zr_127_20 hz, zr_127_23 hz, zr_127_24 hz, zr_127_26 hz, zr_127_27 hz, zr_127_28 hz, zr_127_29 hz, zr_127_32 hz, zr_127_33 hz, zr_127_34 hz, zr_127_35 hz, zr_127_36 hz, zr_127_37 hz, zr_127_39 hz, zr_127_40 hz, zr_127_41 hz, zr_127_42 hz, zs_136 hz, zl_136 hz, zs_137 hz, zl_137 hz, k221_1, hf, h12, e, v207, v206, v159, s_depthOf, s_thought, r_bits ha, v220]
      · simp (disch := first | omega | (simp only [xI_rJ]; exact hd) | exact hz.rJ | exact hz) only [m221, b221_0, k221_3, b221_3, k221_4, b221_4, k221_5, b221_5, k221_6, b221_6, k221_7, b221_7, e_iconst, e_lconst, e_null, e_ldc, e_iload0i, e_iload1i, e_iload2i, e_iload3i, e_iload4i, e_iload5i, e_iload6i, e_iload7i, e_iload8i, e_iload9i, e_iload10i, e_lload0l, e_lload1l, e_lload2l, e_lload3l, e_lload4l, e_lload5l, e_lload6l, e_lload7l, e_lload8l, e_lload9l, e_lload10l, e_aload0r, e_aload1r, e_aload2r, e_aload3r, e_aload4r, e_aload5r, e_aload6r, e_aload7r, e_aload8r, e_aload9r, e_aload10r, e_aload0n, e_aload1n, e_aload2n, e_aload3n, e_aload4n, e_aload5n, e_aload6n, e_aload7n, e_aload8n, e_aload9n, e_aload10n, e_aload0f, e_aload1f, e_aload2f, e_aload3f, e_aload4f, e_aload5f, e_aload6f, e_aload7f, e_aload8f, e_aload9f, e_aload10f, e_iinc0, e_iinc1, e_iinc2, e_iinc3, e_iinc4, e_iinc5, e_iinc6, e_iinc7, e_iinc8, e_iinc9, e_iinc10, xst_0, xst_1i, xst2_1i, xst_1r, xst2_1r, xst_1n, xst2_1n, xst_1f, xst2_1f, xst_1u, xst2_1u, xst_1l, xst2_1l, xst2_0, xst_s, xst2_s, e_istore, e_lstore, e_astore, e_astoreN, e_iadd, e_isub, e_imul, e_iand, e_ior, e_ixor, e_ishl, e_ishr, e_iushr, e_ladd, e_lsub, e_lmul, e_land, e_lor, e_lshl, e_lcmp, e_i2l, e_l2i, e_i2b, e_ineg, e_dupi, e_dupr, e_dup2, e_popi, e_popr, e_idiv, e_irem, e_ldiv, e_lrem, e_ifCond, e_if_icmp, e_ifnullR, e_ifnullN, e_ifnonnullR, e_ifnonnullN, e_goto, e_jsr, e_tsw, e_lsw, e_getfield, e_dload, e_fload, e_putfield, e_dstore, e_fstore, e_fstoreN, e_monitor, e_new, e_newarray, e_anewarray, e_mnew, e_alen, e_slen, e_schr, e_alenF, e_iaload, e_ialoadF, e_baload, e_laload, e_aaload, e_iastore, e_lastore, e_aastore, e_bastoreB, e_bastoreZ, e_copy, e_ireturnI, e_ireturnZ0, e_ireturnZ1, e_ireturnZb, e_lreturn, e_areturn, e_areturnA, e_areturnN, e_return, ofI, ofIm, ofJ, cat_i, cat_l, cat_r, cat_f, cat_n, xent_0, xent_i, xent_l, xent_r, xent_n, xent_f, xentry, xrf_s, xrf_n, List.getD_cons_zero, List.getD_cons_succ, List.length_cons, List.length_nil, List.cons_append, List.nil_append, List.append_nil, List.map_cons, List.map_nil, List.sum_cons, List.sum_nil, List.replicate, oT_s, oT_n, true_and, and_true, Nat.reduceAdd, Nat.reduceSub, Nat.reduceLeDiff, Nat.reduceEqDiff, Nat.reduceLT, Nat.reduceDiv, Nat.reduceMod, Nat.reduceMul, eq_self, ofN, nI_dec, nI_11, or_true, true_or, false_or, or_false, nI_e0, nI_0lt, Nat.succ_ne_zero, Nat.zero_lt_succ, lg_cmp_gt, lg_cmp_lt, lg_cmp_eq, nI_lt0, nI_add, pk_sub, pk_mul, Nat.add_sub_cancel, nI_clamp, vp_in_T, nI_ltI, nI_leI, nI_eqI, Nat.zero_add, Nat.add_zero, xc_eq, xc_ne, xc_lt, xc_ge, xc_gt, xc_le, bI_0, bI_0n, bI_n0, not_true_eq_false, not_false_eq_true, if_true, if_false, ite_true, ite_false, decide_true, decide_false, and_self, and_true, true_and, setJ_row, rowJ_row, xJ_row_eq, xI_rJ, xR_rJ, xis_rJ, xlen_rJ, zs_127 hz, zr_127_0 hz, zr_127_3 hz, zr_127_4 hz, zr_127_5 hz, zr_127_6 hz, zr_127_7 hz, zr_127_15 hz, zr_127_17 hz, zr_127_19 hz, zr_127_20 hz, zr_127_23 hz, zr_127_24 hz, zr_127_26 hz, zr_127_27 hz, zr_127_28 hz, zr_127_29 hz, zr_127_32 hz, zr_127_33 hz, zr_127_34 hz, zr_127_35 hz, zr_127_36 hz, zr_127_37 hz, zr_127_39 hz, zr_127_40 hz, zr_127_41 hz, zr_127_42 hz, zs_136 hz, zl_136 hz, zs_137 hz, zl_137 hz, k221_1, hf, h12, e, v207, v206, v159, s_depthOf, s_thought, r_bits ha, v220]
  obtain ⟨H, g0, g3, g4⟩ := key
  have g1 := g0.i
  have g2 := g0.2.2.2.2
  have hzH : Bas H := ⟨by rw [g1.1]; exact hz.1, by rw [g1.2.1]; exact hz.2.1, by rw [g1.2.2.2]; exact hz.2.2⟩
  have hrH : RuleR H t cls := by unfold RuleR at *; rw [g1.2.2.1]; exact hr
  obtain ⟨h1, f1, f2⟩ := r_summedBy (L := L) (d := d) (xs := xs) hzH hrH
  have s1 : Scr h H := ⟨g1.1, g1.2.1, g1.2.2.2, fun b _ => by rw [g1.2.2.1], fun j _ => by rw [g1.2.2.1], fun b _ hb => g2 b hb⟩
  refine ⟨h1, s1.tr f1.scr, fun Q => ?_⟩
  rw [g4 Q, f2]
  simp (disch := omega) only [e_iconst, e_lconst, e_null, e_ldc, e_iload0i, e_iload1i, e_iload2i, e_iload3i, e_iload4i, e_iload5i, e_iload6i, e_iload7i, e_iload8i, e_iload9i, e_iload10i, e_lload0l, e_lload1l, e_lload2l, e_lload3l, e_lload4l, e_lload5l, e_lload6l, e_lload7l, e_lload8l, e_lload9l, e_lload10l, e_aload0r, e_aload1r, e_aload2r, e_aload3r, e_aload4r, e_aload5r, e_aload6r, e_aload7r, e_aload8r, e_aload9r, e_aload10r, e_aload0n, e_aload1n, e_aload2n, e_aload3n, e_aload4n, e_aload5n, e_aload6n, e_aload7n, e_aload8n, e_aload9n, e_aload10n, e_aload0f, e_aload1f, e_aload2f, e_aload3f, e_aload4f, e_aload5f, e_aload6f, e_aload7f, e_aload8f, e_aload9f, e_aload10f, e_iinc0, e_iinc1, e_iinc2, e_iinc3, e_iinc4, e_iinc5, e_iinc6, e_iinc7, e_iinc8, e_iinc9, e_iinc10, xst_0, xst_1i, xst2_1i, xst_1r, xst2_1r, xst_1n, xst2_1n, xst_1f, xst2_1f, xst_1u, xst2_1u, xst_1l, xst2_1l, xst2_0, xst_s, xst2_s, e_istore, e_lstore, e_astore, e_astoreN, e_iadd, e_isub, e_imul, e_iand, e_ior, e_ixor, e_ishl, e_ishr, e_iushr, e_ladd, e_lsub, e_lmul, e_land, e_lor, e_lshl, e_lcmp, e_i2l, e_l2i, e_i2b, e_ineg, e_dupi, e_dupr, e_dup2, e_popi, e_popr, e_idiv, e_irem, e_ldiv, e_lrem, e_ifCond, e_if_icmp, e_ifnullR, e_ifnullN, e_ifnonnullR, e_ifnonnullN, e_goto, e_jsr, e_tsw, e_lsw, e_getfield, e_dload, e_fload, e_putfield, e_dstore, e_fstore, e_fstoreN, e_monitor, e_new, e_newarray, e_anewarray, e_mnew, e_alen, e_slen, e_schr, e_alenF, e_iaload, e_ialoadF, e_baload, e_laload, e_aaload, e_iastore, e_lastore, e_aastore, e_bastoreB, e_bastoreZ, e_copy, e_ireturnI, e_ireturnZ0, e_ireturnZ1, e_ireturnZb, e_lreturn, e_areturn, e_areturnA, e_areturnN, e_return, ofI, ofIm, ofJ, cat_i, cat_l, cat_r, cat_f, cat_n, xent_0, xent_i, xent_l, xent_r, xent_n, xent_f, xentry, xrf_s, xrf_n, List.getD_cons_zero, List.getD_cons_succ, List.length_cons, List.length_nil, List.cons_append, List.nil_append, List.append_nil, List.map_cons, List.map_nil, List.sum_cons, List.sum_nil, List.replicate, oT_s, oT_n, true_and, and_true, Nat.reduceAdd, Nat.reduceSub, Nat.reduceLeDiff, Nat.reduceEqDiff, Nat.reduceLT, Nat.reduceDiv, Nat.reduceMod, Nat.reduceMul]
  rw [worth_w g3 (clsW_ok hr.2.2.2.2.1)]
/-- whom one goes with: none, or the rule -/
def choF (rl : Option (List Cl)) (n : Nat) (S : WS) (p : Nat) : Option Nat := match rl with
  | none => plC (canB (S.1 1) (S.1 5) S.2 p) (fun o => S.2 (12 + o)) p n
  | some cls => chC (canB (S.1 1) (S.1 5) S.2 p) (fun o => worthF (wordF S (S.1 5).toNatClampNeg p o) cls) p n
theorem plF_lt {can : Nat → Bool} {fee : Nat → Int32} (hp : p < n) : ∀ k j best, j + k = n → (∀ b, best = some b → b < n) → ∀ b, forF (plF can fee p) j k best = some b → b < n := by
  intro k
  induction k with
  | zero => intro j best _ h; exact h
  | succ k ih =>
    intro j best hj h
    rw [forF]
    refine ih (j + 1) _ (by omega) ?_
    intro b
    unfold plF
    split
    · exact h b
    · split
      · exact h b
      · cases best with
        | none => intro e; cases e; omega
        | some b' =>
          dsimp only
          split
          · intro e; cases e; omega
          · exact h b
theorem plC_lt {can : Nat → Bool} {fee : Nat → Int32} (hp : p < n) : ∀ b, plC can fee p n = some b → b < n := by
  intro b
  unfold plC
  split
  · intro e; cases e; exact hp
  · exact plF_lt hp n 0 none (by omega) (fun b e => by cases e) b
theorem plF_congr {can : Nat → Bool} {f g : Nat → Int32} {j : Nat} {best : Option Nat} (e : f j = g j) (e2 : ∀ b, best = some b → f b = g b) : plF can f p j best = plF can g p j best := by
  unfold plF
  cases best with
  | none => rfl
  | some b =>
    dsimp only
    rw [e, e2 b rfl]
theorem plF_one {can : Nat → Bool} {g : Nat → Int32} {j : Nat} {best : Option Nat} (hj : j < n) (h : ∀ b, best = some b → b < n) : ∀ b, plF can g p j best = some b → b < n := by
  intro b
  unfold plF
  split
  · exact h b
  · split
    · exact h b
    · cases best with
      | none => intro e; cases e; exact hj
      | some b' =>
        dsimp only
        split
        · intro e; cases e; exact hj
        · exact h b
theorem plF_fcongr {can : Nat → Bool} {f g : Nat → Int32} (e : ∀ o, o < n → f o = g o) : ∀ k j best, j + k = n → (∀ b, best = some b → b < n) → forF (plF can f p) j k best = forF (plF can g p) j k best := by
  intro k
  induction k with
  | zero => intro j best _ _; rw [forF, forF]
  | succ k ih =>
    intro j best hj h
    rw [forF, forF, plF_congr (e j (by omega)) (fun b hb => e b (h b hb))]
    exact ih (j + 1) _ (by omega) (plF_one (by omega) h)
theorem plC_congr {can : Nat → Bool} {f g : Nat → Int32} (e : ∀ o, o < n → f o = g o) : plC can f p n = plC can g p n := by
  unfold plC
  rw [plF_fcongr e n 0 none (Nat.zero_add n) (fun b q => by cases q)]
theorem choIs_none (hW : WOK h w t) (hn : n ≤ 6) : ChoIs L xs (d + 4) n D w t cA none h (choF none n) := by
  intro S ch h0 p hs h3 hx hp
  refine ⟨fun o => plC_lt hp o, h0, hs, fun Q => ?_⟩
  have hW0 := hs.wok hW
  have e := hs.2.2.2.1
  have e1 : xI h0 w = S.1 := by rw [← e]; rfl
  have e2 : xI h0 t = S.2 := by rw [← e]; rfl
  dsimp only
  rw [d_plain hW0 (by omega) hn (by rw [e1]; exact h3), e1, e2]
  rfl
theorem choIs_rule (hW : WOK h w t) (hD : DOK h D wd cA) (hw : w < 154) (ht : t < 154) (hc : cA < 154) (hn : n ≤ 6) {cls : List Cl} (hr : RuleK h r cls) : ChoIs L xs (d + 4) n D w t cA (some r) h (choF (some cls) n) := by
  intro S ch h0 p hs h3 hx hp
  refine ⟨fun o e => (chC_mem hp o e).1, ?_⟩
  have hW0 := hs.wok hW
  have hD0 := hs.dok hD
  have e := hs.2.2.2.1
  have e1 : xI h0 w = S.1 := by rw [← e]; rfl
  have e2 : xI h0 t = S.2 := by rw [← e]; rfl
  obtain ⟨a, ha, hx⟩ := hx
  have hr0 : RuleK h0 r cls := by
    obtain ⟨c, st, m, q1, q2, q3, q4, q5, q6, q7, q8⟩ := hr
    refine ⟨c, st, m, ?_, ?_, q3, q4, q5, q6, q7, by rw [hs.2.2.2.2.2 r (by omega) (by omega) (by omega)]; exact q8⟩
    · unfold RuleC xis xlen at *; rw [hs.1, hs.2.1, hs.2.2.1]; exact q1
    · rw [hs.2.2.2.2.2 c (by omega) (by omega) (by omega)]; exact q2
  obtain ⟨h1, g1, g2⟩ := d_ruled (L := L) (d := d) (xs := xs) hW0 hD0 hr0 (show p < 6 by omega) hn (by rw [e1]; exact h3) ha (by rw [e1]; exact hx)
  refine ⟨h1, ?_, fun Q => ?_⟩
  · obtain ⟨b1, b2, b3, b4, b5, b6⟩ := hs
    refine ⟨g1.1.trans b1, g1.2.1.trans b2, g1.2.2.2.trans b3, ?_, by rw [g1.2.2.1]; exact b5, fun a z1 z2 z3 => by rw [g1.2.2.1]; exact b6 a z1 z2 z3⟩
    rw [← b4]; unfold getW; rw [g1.2.2.1]
  · dsimp only
    rw [g2 Q, e, e1, e2]
    unfold choF
    rw [hx, nI_clamp (by omega)]
theorem choR_none (hz : Bas h) (hf : xI h 127 21 < 0) : ChoR L xs (d + 5) n h (fun s p => choF none n (wS s) p) := by
  intro s c h0 p hs hS hp
  refine ⟨fun o => plC_lt hp o, ?_⟩
  obtain ⟨n6, h2, hd, hfe, hx⟩ := hS
  have hz0 := hs.bas hz
  have es := hs.2.2.2.1
  have ef : xI h0 127 21 = xI h 127 21 := hs.2.2.2.2.2.2 21 (by decide)
  have hsum : SumIs L xs (d + 4) p h0 (sum0 s p) := by
    intro h' hr o ho
    refine ⟨h', hr, fun Q => ?_⟩
    have e1 : xI h' 137 = s := by rw [hr.said]; exact es
    rw [s_sum0 (hr.bas hz0) (by omega) ho (by rw [hr.2.2.2.2.1 21 (by decide), ef]; exact hf), e1]
  obtain ⟨h1, g1, g2⟩ := s_choice hz0 (show p < 6 by omega) n6 (by rw [es]; exact h2) (by rw [es]; exact hd) hsum
  refine ⟨h1, hs.scr g1, fun Q => ?_⟩
  have hf' : ∃ f : Nat → Nat, ∀ o, o < 6 → f o ≤ 9 ∧ s (61 + o) = nI (f o) := by
    refine ⟨fun o => (s (61 + o)).toNatClampNeg, fun o ho => ?_⟩
    obtain ⟨g, z1, z2⟩ := hfe o ho
    dsimp only
    rw [z2, nI_clamp (by omega)]; exact ⟨z1, rfl⟩
  obtain ⟨f, hf'⟩ := hf'
  rw [g2 Q, es, ch_eq hf' n6]
  show Q (some (.int (opI (plC _ _ p n)))) h1 = Q (some (.int (opI (plC (canB (s 11) (s 12) (trS s) p) (fun o => trS s (12 + o)) p n)))) h1
  rw [plC_congr (g := fun o => trS s (12 + o)) (fun o ho => (trS_f (by omega)).symm)]
theorem choR_rule (hz : Bas h) {cls : List Cl} (hr : RuleR h t cls) (hf : xI h 127 21 = nI t) : ChoR L xs (d + 5) n h (fun s p => choF (some cls) n (wS s) p) := by
  intro s c h0 p hs hS hp
  refine ⟨fun o e => (chC_mem hp o e).1, ?_⟩
  obtain ⟨n6, h2, hd, hfe, ⟨a, ha, hx⟩, -⟩ := hS
  have hz0 := hs.bas hz
  have es := hs.2.2.2.1
  have ef : xI h0 127 21 = xI h 127 21 := hs.2.2.2.2.2.2 21 (by decide)
  have hr0 : RuleR h0 t cls := by
    unfold RuleR at *
    rw [hs.2.2.2.2.2.1 129 (by decide) (by decide) (by decide), hs.2.2.2.2.2.1 131 (by decide) (by decide) (by decide), hs.2.2.2.2.2.1 132 (by decide) (by decide) (by decide)]; exact hr
  have hsum : SumIs L xs (d + 4) p h0 (fun o => worthF (wordF (wS s) a p o) cls) := by
    intro h' hq o ho
    have e1 : xI h' 137 = s := by rw [hq.said]; exact es
    have hr1 : RuleR h' t cls := by
      unfold RuleR at *
      rw [hq.2.2.2.1 129 (by decide), hq.2.2.2.1 131 (by decide), hq.2.2.2.1 132 (by decide)]; exact hr0
    obtain ⟨h1, g1, g2⟩ := s_sumR (L := L) (d := d) (xs := xs) (hq.bas hz0) (show p < 6 by omega) ho (by rw [e1]; exact hd) ha (by rw [e1]; exact hx) hr1 (by rw [hq.2.2.2.2.1 21 (by decide), ef]; exact hf)
    refine ⟨h1, hq.tr g1, fun Q => ?_⟩
    rw [g2 Q, e1]
  obtain ⟨h1, g1, g2⟩ := s_choice hz0 (show p < 6 by omega) n6 (by rw [es]; exact h2) (by rw [es]; exact hd) hsum
  refine ⟨h1, hs.scr g1, fun Q => ?_⟩
  rw [g2 Q, es]
  show _ = Q (some (.int (opI (chC (canB (s 11) (s 12) (trS s) p) (fun o => worthF (wordF (wS s) (s 12).toNatClampNeg p o) cls) p n)))) h1
  rw [hx, nI_clamp (by omega)]
theorem can_side {dp b : Int32} {tr : Nat → Int32} (hc : canB dp b tr p o = true) (hs : sidF b p = 0) : sidF b o = 0 := by
  unfold canB at hc
  split at hc
  · rename_i e; rw [← e]; exact hs
  · simp only [Bool.and_eq_true, decide_eq_true_eq] at hc
    rw [← hc.1]; exact hs
theorem same_choF {rl : Option (List Cl)} : SameC n (SOK n) (choF rl n) (fun s p => choF rl n (wS s) p) := by
  refine ⟨fun s p hS hp => ⟨rfl, fun o he => ?_⟩, fun s p o hS hp ho => hS.go (by have := hS.1; omega) (by have := hS.1; omega), fun s hS => hS.2.2.2.2.1⟩
  obtain ⟨n6, h2, hd, hfe, hx⟩ := hS
  cases rl with
  | some cls =>
    obtain ⟨k1, k2⟩ := chC_mem hp o he
    exact ⟨k1, can_side k2⟩
  | none =>
    have hf' : ∃ f : Nat → Nat, ∀ o, o < 6 → f o ≤ 9 ∧ s (61 + o) = nI (f o) := by
      refine ⟨fun o => (s (61 + o)).toNatClampNeg, fun o ho => ?_⟩
      obtain ⟨g, z1, z2⟩ := hfe o ho
      dsimp only
      rw [z2, nI_clamp (by omega)]; exact ⟨z1, rfl⟩
    obtain ⟨f, hf'⟩ := hf'
    have he' : plC (canB (s 11) (s 12) (trS s) p) (fun o => trS s (12 + o)) p n = some o := he
    rw [← plC_congr (f := fun o => s (61 + o)) (fun o ho => (trS_f (by omega)).symm), ← ch_eq hf' n6] at he'
    obtain ⟨k1, k2⟩ := chC_mem hp o he'
    exact ⟨k1, can_side k2⟩
end BC
