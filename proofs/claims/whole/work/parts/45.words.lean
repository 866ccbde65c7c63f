section WF
variable {L d : Nat} {xs : Nat → Int32} {h : xH} {Q : xQ} {p o n w t D wd cA a : Nat} {x y z : Int32}
/-- what the words of a rule say -/
def wordF (S : WS) (a p o : Nat) : Nat → Int64
  | 0 => (nI p).toInt64
  | 1 => (nI o).toInt64
  | 2 => if o = p then lN 1 else lN 0
  | 3 => (depF (S.1 1) S.2 p o).toInt64
  | 4 => (S.2 p).toInt64
  | 5 => (S.2 (6 + p)).toInt64
  | 6 => if o = p then lN 0 else (S.2 (12 + o)).toInt64
  | 7 => (S.2 (18 + 6 * p + o)).toInt64
  | 8 => (S.2 (18 + 6 * p + p)).toInt64
  | 9 => (S.1 3 - nI (popN a)).toInt64
  | 10 => (nI (popN a)).toInt64
  | 11 => (S.1 4).toInt64
  | _ => lN 0
theorem WOK.sJ {b j : Nat} {v : Int64} (hW : WOK h w t) : WOK (setJ h b j v) w t := hW
theorem d_tellP (hW : WOK h w t) (hD : DOK h D wd cA) (hp : p < 6) (ha : a < 64) (h5 : xI h w 5 = nI a) : ∃ h1, JFr wd h h1 ∧ (∀ k o, k = 0 ∨ k = 4 ∨ k = 5 ∨ k = 8 ∨ k = 9 ∨ k = 10 ∨ k = 11 → xJ h1 wd k = wordF (getW h w t) a p o k) ∧ ∀ Q, Call (pG L xs) pM (d + 2) 6 [.ref D, .ref w, .int (nI p)] h Q = Q none h1 := by
  refine ⟨setJ (setJ (setJ (setJ (setJ (setJ (setJ h wd 0 (nI p).toInt64) wd 4 (xI h t p).toInt64) wd 5 (xI h t (6 + p)).toInt64) wd 8 (xI h t (18 + 6 * p + p)).toInt64) wd 9 (xI h w 3 - nI (popN a)).toInt64) wd 10 (nI (popN a)).toInt64) wd 11 (xI h w 4).toInt64, ?_, ?_, fun Q => ?_⟩
  · exact (((((JFr.set.tr JFr.set).tr JFr.set).tr JFr.set).tr JFr.set).tr JFr.set).tr JFr.set
  · intro k o hk
    rcases hk with rfl | rfl | rfl | rfl | rfl | rfl | rfl <;> simp [xJ_sJ, wordF, getW]
  · obtain ⟨h1, h2, h3, h4⟩ := id hW
    obtain ⟨d1, d2, d3, d4, d5, d6, d7⟩ := hD
    simp (disch := first | omega | (repeat apply WOK.sJ); exact hW) only [m6, b6_0, e_iconst, e_lconst, e_null, e_ldc, e_iload0i, e_iload1i, e_iload2i, e_iload3i, e_iload4i, e_iload5i, e_iload6i, e_iload7i, e_iload8i, e_iload9i, e_iload10i, e_lload0l, e_lload1l, e_lload2l, e_lload3l, e_lload4l, e_lload5l, e_lload6l, e_lload7l, e_lload8l, e_lload9l, e_lload10l, e_aload0r, e_aload1r, e_aload2r, e_aload3r, e_aload4r, e_aload5r, e_aload6r, e_aload7r, e_aload8r, e_aload9r, e_aload10r, e_aload0n, e_aload1n, e_aload2n, e_aload3n, e_aload4n, e_aload5n, e_aload6n, e_aload7n, e_aload8n, e_aload9n, e_aload10n, e_aload0f, e_aload1f, e_aload2f, e_aload3f, e_aload4f, e_aload5f, e_aload6f, e_aload7f, e_aload8f, e_aload9f, e_aload10f, e_iinc0, e_iinc1, e_iinc2, e_iinc3, e_iinc4, e_iinc5, e_iinc6, e_iinc7, e_iinc8, e_iinc9, e_iinc10, xst_0, xst_1i, xst2_1i, xst_1r, xst2_1r, xst_1n, xst2_1n, xst_1f, xst2_1f, xst_1u, xst2_1u, xst_1l, xst2_1l, xst2_0, xst_s, xst2_s, e_istore, e_lstore, e_astore, e_astoreN, e_iadd, e_isub, e_imul, e_iand, e_ior, e_ixor, e_ishl, e_ishr, e_iushr, e_ladd, e_lsub, e_lmul, e_land, e_lor, e_lshl, e_lcmp, e_i2l, e_l2i, e_i2b, e_ineg, e_dupi, e_dupr, e_dup2, e_popi, e_popr, e_idiv, e_irem, e_ldiv, e_lrem, e_ifCond, e_if_icmp, e_ifnullR, e_ifnullN, e_ifnonnullR, e_ifnonnullN, e_goto, e_jsr, e_tsw, e_lsw, e_getfield, e_dload, e_fload, e_putfield, e_dstore, e_fstore, e_fstoreN, e_monitor, e_new, e_newarray, e_anewarray, e_mnew, e_alen, e_slen, e_schr, e_alenF, e_iaload, e_ialoadF, e_baload, e_laload, e_aaload, e_iastore, e_lastore, e_aastore, e_bastoreB, e_bastoreZ, e_copy, e_ireturnI, e_ireturnZ0, e_ireturnZ1, e_ireturnZb, e_lreturn, e_areturn, e_areturnA, e_areturnN, e_return, ofI, ofIm, ofJ, cat_i, cat_l, cat_r, cat_f, cat_n, xent_0, xent_i, xent_l, xent_r, xent_n, xent_f, xentry, xrf_s, xrf_n, List.getD_cons_zero, List.getD_cons_succ, List.length_cons, List.length_nil, List.cons_append, List.nil_append, List.append_nil, List.map_cons, List.map_nil, List.sum_cons, List.sum_nil, List.replicate, oT_s, oT_n, true_and, and_true, Nat.reduceAdd, Nat.reduceSub, Nat.reduceLeDiff, Nat.reduceEqDiff, Nat.reduceLT, Nat.reduceDiv, Nat.reduceMod, Nat.reduceMul, eq_self, ofN, nI_dec, nI_11, or_true, true_or, false_or, or_false, nI_e0, nI_0lt, Nat.succ_ne_zero, Nat.zero_lt_succ, lg_cmp_gt, lg_cmp_lt, lg_cmp_eq, nI_lt0, nI_add, pk_sub, pk_mul, Nat.add_sub_cancel, nI_clamp, vp_in_T, nI_ltI, nI_leI, nI_eqI, Nat.zero_add, Nat.add_zero, xc_eq, xc_ne, xc_lt, xc_ge, xc_gt, xc_le, bI_0, bI_0n, bI_n0, not_true_eq_false, not_false_eq_true, if_true, if_false, ite_true, ite_false, decide_true, decide_false, and_self, and_true, true_and, xis_sI, xis_sJ, xis_sR, xis_ro, xlen_sI, xlen_sJ, xlen_sR, xlen_ro, xI_sI, xI_sJ, xI_sR, xI_ro, xJ_sI, xJ_sJ, xJ_sR, xJ_ro, xR_sI, xR_sJ, xR_sR, xR_ro, h1, h2, h3, h4, d1, d2, d3, d4, d5, d6, d7, h5, v276, j_bitCount ha, v103, v104, v107, w_height (w := w) (t := t), w_purse (w := w) (t := t), w_thought (w := w) (t := t)]
theorem d_tellO (hW : WOK h w t) (hD : DOK h D wd cA) (hp : p < 6) (ho : o < 6) : ∃ h1, JFr wd h h1 ∧ (∀ k, k = 0 ∨ k = 4 ∨ k = 5 ∨ k = 8 ∨ k = 9 ∨ k = 10 ∨ k = 11 → xJ h1 wd k = xJ h wd k) ∧ (∀ k, k = 1 ∨ k = 2 ∨ k = 3 ∨ k = 6 ∨ k = 7 → xJ h1 wd k = wordF (getW h w t) a p o k) ∧ ∀ Q, Call (pG L xs) pM (d + 2) 7 [.ref D, .ref w, .int (nI p), .int (nI o)] h Q = Q none h1 := by
  refine ⟨setJ (setJ (setJ (setJ (setJ h wd 1 (nI o).toInt64) wd 2 (if o = p then lN 1 else lN 0)) wd 3 (depF (xI h w 1) (xI h t) p o).toInt64) wd 6 (if o = p then lN 0 else (xI h t (12 + o)).toInt64)) wd 7 (xI h t (18 + 6 * p + o)).toInt64, ?_, ?_, ?_, fun Q => ?_⟩
  · exact (((JFr.set.tr JFr.set).tr JFr.set).tr JFr.set).tr JFr.set
  · intro k hk
    rcases hk with rfl | rfl | rfl | rfl | rfl | rfl | rfl <;> simp [xJ_sJ]
  · intro k hk
    rcases hk with rfl | rfl | rfl | rfl | rfl <;> simp [xJ_sJ, wordF, getW]
  · obtain ⟨h1, h2, h3, h4⟩ := id hW
    obtain ⟨d1, d2, d3, d4, d5, d6, d7⟩ := hD
    by_cases e : o = p
    · simp (disch := first | omega | (repeat apply WOK.sJ); exact hW) only [m7, b7_0, k7_1, b7_1, k7_2, b7_2, k7_3, b7_3, k7_4, b7_4, e_iconst, e_lconst, e_null, e_ldc, e_iload0i, e_iload1i, e_iload2i, e_iload3i, e_iload4i, e_iload5i, e_iload6i, e_iload7i, e_iload8i, e_iload9i, e_iload10i, e_lload0l, e_lload1l, e_lload2l, e_lload3l, e_lload4l, e_lload5l, e_lload6l, e_lload7l, e_lload8l, e_lload9l, e_lload10l, e_aload0r, e_aload1r, e_aload2r, e_aload3r, e_aload4r, e_aload5r, e_aload6r, e_aload7r, e_aload8r, e_aload9r, e_aload10r, e_aload0n, e_aload1n, e_aload2n, e_aload3n, e_aload4n, e_aload5n, e_aload6n, e_aload7n, e_aload8n, e_aload9n, e_aload10n, e_aload0f, e_aload1f, e_aload2f, e_aload3f, e_aload4f, e_aload5f, e_aload6f, e_aload7f, e_aload8f, e_aload9f, e_aload10f, e_iinc0, e_iinc1, e_iinc2, e_iinc3, e_iinc4, e_iinc5, e_iinc6, e_iinc7, e_iinc8, e_iinc9, e_iinc10, xst_0, xst_1i, xst2_1i, xst_1r, xst2_1r, xst_1n, xst2_1n, xst_1f, xst2_1f, xst_1u, xst2_1u, xst_1l, xst2_1l, xst2_0, xst_s, xst2_s, e_istore, e_lstore, e_astore, e_astoreN, e_iadd, e_isub, e_imul, e_iand, e_ior, e_ixor, e_ishl, e_ishr, e_iushr, e_ladd, e_lsub, e_lmul, e_land, e_lor, e_lshl, e_lcmp, e_i2l, e_l2i, e_i2b, e_ineg, e_dupi, e_dupr, e_dup2, e_popi, e_popr, e_idiv, e_irem, e_ldiv, e_lrem, e_ifCond, e_if_icmp, e_ifnullR, e_ifnullN, e_ifnonnullR, e_ifnonnullN, e_goto, e_jsr, e_tsw, e_lsw, e_getfield, e_dload, e_fload, e_putfield, e_dstore, e_fstore, e_fstoreN, e_monitor, e_new, e_newarray, e_anewarray, e_mnew, e_alen, e_slen, e_schr, e_alenF, e_iaload, e_ialoadF, e_baload, e_laload, e_aaload, e_iastore, e_lastore, e_aastore, e_bastoreB, e_bastoreZ, e_copy, e_ireturnI, e_ireturnZ0, e_ireturnZ1, e_ireturnZb, e_lreturn, e_areturn, e_areturnA, e_areturnN, e_return, ofI, ofIm, ofJ, cat_i, cat_l, cat_r, cat_f, cat_n, xent_0, xent_i, xent_l, xent_r, xent_n, xent_f, xentry, xrf_s, xrf_n, List.getD_cons_zero, List.getD_cons_succ, List.length_cons, List.length_nil, List.cons_append, List.nil_append, List.append_nil, List.map_cons, List.map_nil, List.sum_cons, List.sum_nil, List.replicate, oT_s, oT_n, true_and, and_true, Nat.reduceAdd, Nat.reduceSub, Nat.reduceLeDiff, Nat.reduceEqDiff, Nat.reduceLT, Nat.reduceDiv, Nat.reduceMod, Nat.reduceMul, eq_self, ofN, nI_dec, nI_11, or_true, true_or, false_or, or_false, nI_e0, nI_0lt, Nat.succ_ne_zero, Nat.zero_lt_succ, lg_cmp_gt, lg_cmp_lt, lg_cmp_eq, nI_lt0, nI_add, pk_sub, pk_mul, Nat.add_sub_cancel, nI_clamp, vp_in_T, nI_ltI, nI_leI, nI_eqI, Nat.zero_add, Nat.add_zero, xc_eq, xc_ne, xc_lt, xc_ge, xc_gt, xc_le, bI_0, bI_0n, bI_n0, not_true_eq_false, not_false_eq_true, if_true, if_false, ite_true, ite_false, decide_true, decide_false, and_self, and_true, true_and, xis_sI, xis_sJ, xis_sR, xis_ro, xlen_sI, xlen_sJ, xlen_sR, xlen_ro, xI_sI, xI_sJ, xI_sR, xI_ro, xJ_sI, xJ_sJ, xJ_sR, xJ_ro, xR_sI, xR_sJ, xR_sR, xR_ro, h1, h2, h3, h4, d1, d2, d3, d4, d5, d6, d7, e, v105, v107, v109, w_depthFor (w := w) (t := t), w_fee (w := w) (t := t), w_thought (w := w) (t := t)]
    · simp (disch := first | omega | (repeat apply WOK.sJ); exact hW) only [m7, b7_0, k7_1, b7_1, k7_2, b7_2, k7_3, b7_3, k7_4, b7_4, e_iconst, e_lconst, e_null, e_ldc, e_iload0i, e_iload1i, e_iload2i, e_iload3i, e_iload4i, e_iload5i, e_iload6i, e_iload7i, e_iload8i, e_iload9i, e_iload10i, e_lload0l, e_lload1l, e_lload2l, e_lload3l, e_lload4l, e_lload5l, e_lload6l, e_lload7l, e_lload8l, e_lload9l, e_lload10l, e_aload0r, e_aload1r, e_aload2r, e_aload3r, e_aload4r, e_aload5r, e_aload6r, e_aload7r, e_aload8r, e_aload9r, e_aload10r, e_aload0n, e_aload1n, e_aload2n, e_aload3n, e_aload4n, e_aload5n, e_aload6n, e_aload7n, e_aload8n, e_aload9n, e_aload10n, e_aload0f, e_aload1f, e_aload2f, e_aload3f, e_aload4f, e_aload5f, e_aload6f, e_aload7f, e_aload8f, e_aload9f, e_aload10f, e_iinc0, e_iinc1, e_iinc2, e_iinc3, e_iinc4, e_iinc5, e_iinc6, e_iinc7, e_iinc8, e_iinc9, e_iinc10, xst_0, xst_1i, xst2_1i, xst_1r, xst2_1r, xst_1n, xst2_1n, xst_1f, xst2_1f, xst_1u, xst2_1u, xst_1l, xst2_1l, xst2_0, xst_s, xst2_s, e_istore, e_lstore, e_astore, e_astoreN, e_iadd, e_isub, e_imul, e_iand, e_ior, e_ixor, e_ishl, e_ishr, e_iushr, e_ladd, e_lsub, e_lmul, e_land, e_lor, e_lshl, e_lcmp, e_i2l, e_l2i, e_i2b, e_ineg, e_dupi, e_dupr, e_dup2, e_popi, e_popr, e_idiv, e_irem, e_ldiv, e_lrem, e_ifCond, e_if_icmp, e_ifnullR, e_ifnullN, e_ifnonnullR, e_ifnonnullN, e_goto, e_jsr, e_tsw, e_lsw, e_getfield, e_dload, e_fload, e_putfield, e_dstore, e_fstore, e_fstoreN, e_monitor, e_new, e_newarray, e_anewarray, e_mnew, e_alen, e_slen, e_schr, e_alenF, e_iaload, e_ialoadF, e_baload, e_laload, e_aaload, e_iastore, e_lastore, e_aastore, e_bastoreB, e_bastoreZ, e_copy, e_ireturnI, e_ireturnZ0, e_ireturnZ1, e_ireturnZb, e_lreturn, e_areturn, e_areturnA, e_areturnN, e_return, ofI, ofIm, ofJ, cat_i, cat_l, cat_r, cat_f, cat_n, xent_0, xent_i, xent_l, xent_r, xent_n, xent_f, xentry, xrf_s, xrf_n, List.getD_cons_zero, List.getD_cons_succ, List.length_cons, List.length_nil, List.cons_append, List.nil_append, List.append_nil, List.map_cons, List.map_nil, List.sum_cons, List.sum_nil, List.replicate, oT_s, oT_n, true_and, and_true, Nat.reduceAdd, Nat.reduceSub, Nat.reduceLeDiff, Nat.reduceEqDiff, Nat.reduceLT, Nat.reduceDiv, Nat.reduceMod, Nat.reduceMul, eq_self, ofN, nI_dec, nI_11, or_true, true_or, false_or, or_false, nI_e0, nI_0lt, Nat.succ_ne_zero, Nat.zero_lt_succ, lg_cmp_gt, lg_cmp_lt, lg_cmp_eq, nI_lt0, nI_add, pk_sub, pk_mul, Nat.add_sub_cancel, nI_clamp, vp_in_T, nI_ltI, nI_leI, nI_eqI, Nat.zero_add, Nat.add_zero, xc_eq, xc_ne, xc_lt, xc_ge, xc_gt, xc_le, bI_0, bI_0n, bI_n0, not_true_eq_false, not_false_eq_true, if_true, if_false, ite_true, ite_false, decide_true, decide_false, and_self, and_true, true_and, xis_sI, xis_sJ, xis_sR, xis_ro, xlen_sI, xlen_sJ, xlen_sR, xlen_ro, xI_sI, xI_sJ, xI_sR, xI_ro, xJ_sI, xJ_sJ, xJ_sR, xJ_ro, xR_sI, xR_sJ, xR_sR, xR_ro, h1, h2, h3, h4, d1, d2, d3, d4, d5, d6, d7, e, v105, v107, v109, w_depthFor (w := w) (t := t), w_fee (w := w) (t := t), w_thought (w := w) (t := t)]
/-- worth looks at the words that stand in the rule, no others -/
def iWd (P : Nat → Prop) : List It → Prop
  | [] => True
  | .inl (.inr k) :: r => P k ∧ iWd P r
  | _ :: r => iWd P r
theorem iWd_ok : ∀ {l : List It}, iOks l → iWd (· < 12) l
  | [], _ => trivial
  | .inl (.inl _) :: l, h => iWd_ok (l := l) h.2
  | .inl (.inr _) :: l, h => ⟨h.1, iWd_ok (l := l) h.2⟩
  | .inr (.inl _) :: l, h => iWd_ok (l := l) h.2
  | .inr (.inr _) :: l, h => iWd_ok (l := l) h.2
theorem run1_num {v : Nat} {f : Nat → Int64} {s : List Int64} : run1 f (.inl (.inl v)) s = some (lN v :: s) := rfl
theorem runL_w {P : Nat → Prop} {f g : Nat → Int64} (e : ∀ k, P k → f k = g k) : ∀ {l : List It} {s : List Int64}, iWd P l → runL f l s = runL g l s
  | [], s, _ => rfl
  | .inl (.inl v) :: l, s, h => by
    show (run1 f (.inl (.inl v)) s).bind (runL f l) = (run1 g (.inl (.inl v)) s).bind (runL g l)
    exact runL_w e (l := l) h
  | .inl (.inr k) :: l, s, h => by
    show (run1 f (.inl (.inr k)) s).bind (runL f l) = (run1 g (.inl (.inr k)) s).bind (runL g l)
    show runL f l (f k :: s) = runL g l (g k :: s)
    rw [e k h.1]; exact runL_w e (l := l) h.2
  | .inr (.inl u) :: l, s, h => by
    match s with
    | [] => rfl
    | x :: s => exact runL_w e (l := l) h
  | .inr (.inr k) :: l, s, h => by
    match s with
    | [] => rfl
    | [_] => rfl
    | y :: x :: s => exact runL_w e (l := l) h
def clsW (P : Nat → Prop) : List Cl → Prop
  | [] => True
  | (s, none) :: r => iWd P s ∧ clsW P r
  | (s, some u) :: r => iWd P s ∧ iWd P u ∧ clsW P r
theorem worth_w {P : Nat → Prop} {f g : Nat → Int64} (e : ∀ k, P k → f k = g k) : ∀ {cls : List Cl}, clsW P cls → worthF f cls = worthF g cls
  | [], _ => rfl
  | (s, none) :: r, h => by
    show valOf f s = valOf g s
    unfold valOf; rw [runL_w e h.1]
  | (s, some u) :: r, h => by
    have e1 : valOf f s = valOf g s := by unfold valOf; rw [runL_w e h.1]
    have e2 : valOf f u = valOf g u := by unfold valOf; rw [runL_w e h.2.1]
    show (if valOf f u = lN 1 then valOf f s else worthF f r) = if valOf g u = lN 1 then valOf g s else worthF g r
    rw [e1, e2, worth_w e h.2.2]
theorem clsW_ok : ∀ {cls : List Cl}, clsOK cls → clsW (· < 12) cls
  | [], _ => trivial
  | (_, none) :: _, h => ⟨iWd_ok h.1.1, clsW_ok h.2⟩
  | (_, some _) :: _, h => ⟨iWd_ok h.1.1, iWd_ok h.1.2.2.1, clsW_ok h.2⟩
theorem j_lmax {u v : Int64} : Call (pG L xs) pM (d + 1) 278 [.long u, .long v] h Q = Q (some (.long (if u < v then v else u))) h := by
  simp (disch := omega) only [m278, b278_0, k278_1, b278_1, k278_2, b278_2, e_iconst, e_lconst, e_null, e_ldc, e_iload0i, e_iload1i, e_iload2i, e_iload3i, e_iload4i, e_iload5i, e_iload6i, e_iload7i, e_iload8i, e_iload9i, e_iload10i, e_lload0l, e_lload1l, e_lload2l, e_lload3l, e_lload4l, e_lload5l, e_lload6l, e_lload7l, e_lload8l, e_lload9l, e_lload10l, e_aload0r, e_aload1r, e_aload2r, e_aload3r, e_aload4r, e_aload5r, e_aload6r, e_aload7r, e_aload8r, e_aload9r, e_aload10r, e_aload0n, e_aload1n, e_aload2n, e_aload3n, e_aload4n, e_aload5n, e_aload6n, e_aload7n, e_aload8n, e_aload9n, e_aload10n, e_aload0f, e_aload1f, e_aload2f, e_aload3f, e_aload4f, e_aload5f, e_aload6f, e_aload7f, e_aload8f, e_aload9f, e_aload10f, e_iinc0, e_iinc1, e_iinc2, e_iinc3, e_iinc4, e_iinc5, e_iinc6, e_iinc7, e_iinc8, e_iinc9, e_iinc10, xst_0, xst_1i, xst2_1i, xst_1r, xst2_1r, xst_1n, xst2_1n, xst_1f, xst2_1f, xst_1u, xst2_1u, xst_1l, xst2_1l, xst2_0, xst_s, xst2_s, e_istore, e_lstore, e_astore, e_astoreN, e_iadd, e_isub, e_imul, e_iand, e_ior, e_ixor, e_ishl, e_ishr, e_iushr, e_ladd, e_lsub, e_lmul, e_land, e_lor, e_lshl, e_lcmp, e_i2l, e_l2i, e_i2b, e_ineg, e_dupi, e_dupr, e_dup2, e_popi, e_popr, e_idiv, e_irem, e_ldiv, e_lrem, e_ifCond, e_if_icmp, e_ifnullR, e_ifnullN, e_ifnonnullR, e_ifnonnullN, e_goto, e_jsr, e_tsw, e_lsw, e_getfield, e_dload, e_fload, e_putfield, e_dstore, e_fstore, e_fstoreN, e_monitor, e_new, e_newarray, e_anewarray, e_mnew, e_alen, e_slen, e_schr, e_alenF, e_iaload, e_ialoadF, e_baload, e_laload, e_aaload, e_iastore, e_lastore, e_aastore, e_bastoreB, e_bastoreZ, e_copy, e_ireturnI, e_ireturnZ0, e_ireturnZ1, e_ireturnZb, e_lreturn, e_areturn, e_areturnA, e_areturnN, e_return, ofI, ofIm, ofJ, cat_i, cat_l, cat_r, cat_f, cat_n, xent_0, xent_i, xent_l, xent_r, xent_n, xent_f, xentry, xrf_s, xrf_n, List.getD_cons_zero, List.getD_cons_succ, List.length_cons, List.length_nil, List.cons_append, List.nil_append, List.append_nil, List.map_cons, List.map_nil, List.sum_cons, List.sum_nil, List.replicate, oT_s, oT_n, true_and, and_true, Nat.reduceAdd, Nat.reduceSub, Nat.reduceLeDiff, Nat.reduceEqDiff, Nat.reduceLT, Nat.reduceDiv, Nat.reduceMod, Nat.reduceMul, eq_self, ofN, nI_dec, nI_11, or_true, true_or, false_or, or_false, nI_e0, nI_0lt, Nat.succ_ne_zero, Nat.zero_lt_succ, lg_cmp_gt, lg_cmp_lt, lg_cmp_eq, nI_lt0, nI_add, pk_sub, pk_mul, Nat.add_sub_cancel, nI_clamp, vp_in_T, nI_ltI, nI_leI, nI_eqI, Nat.zero_add, Nat.add_zero, xc_eq, xc_ne, xc_lt, xc_ge, xc_gt, xc_le, bI_0, bI_0n, bI_n0, not_true_eq_false, not_false_eq_true, if_true, if_false, ite_true, ite_false, decide_true, decide_false, and_self, and_true, true_and]
  split <;> rfl
end WF
