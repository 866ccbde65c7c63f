section WO
variable {L d : Nat} {xs : Nat → Int32} {h : xH} {Q : xQ} {p o n r c st wd i m : Nat} {x y z : Int32}
/-- a rule of the class, where it lies -/
def RuleC (h : xH) (r c st m : Nat) : Prop := xis h r (.inr 5) ∧ xR h r 0 = some c ∧ xR h r 1 = some st ∧ xis h c (.inl .int) ∧ xis h st (.inl .long) ∧ xlen h st = 64 ∧ xlen h c = m
theorem RuleC.fr {h1 : xH} (hr : RuleC h r c st m) (hj : JFr n h h1) : RuleC h1 r c st m := by
  unfold RuleC xis xlen at *
  rw [hj.1, hj.2.1, hj.2.2.2.1]; exact hr
theorem cOp_b : ∀ k, k < 12 → 12 ≤ cOp k ∧ cOp k < 25 ∧ cOp k ≠ 22 := by decide
theorem nI_ofl {a : Nat} (ha : a < 2 ^ 31) : (nI a).toInt64 = lN a := nI_l ha
theorem w_item (hr : RuleC h r c st m) (hw1 : xis h wd (.inl .long)) (hw2 : xlen h wd = 12) (hi : i < m) (hm : m ≤ 400) {it : It} (hit : xI h c i = nI (iC it)) (hok : iOk it) {l l' : List Int64} (hs : Stk (xJ h st) l) (hl : l.length < 64) (hrun : run1 (xJ h wd) it l = some l') {u : Option Value} : ∃ h1, JFr st h h1 ∧ Stk (xJ h1 st) l' ∧ ∃ u', ∀ Q, Ev (pG L xs) pM (d + 1) b43 (some .long) Q b43_1 [some (.ref r), some (.ref wd), some (.int (nI l.length)), some (.int (nI i)), u] [] h = Ev (pG L xs) pM (d + 1) b43 (some .long) Q b43_1 [some (.ref r), some (.ref wd), some (.int (nI l'.length)), some (.int (nI (i + 1))), u'] [] h1 := by
  obtain ⟨h1, h2, h3, h4, h5, h6, h7⟩ := hr
  rcases it with (v | k) | (e | k)
  · have hv : v < 100000 := hok
    cases hrun
    refine ⟨setJ h st l.length (lN v), JFr.set, ⟨xJ_sJe, hs.mono fun j hj => xJ_sJn (by omega)⟩, some (.int (nI (32 + v))), fun Q => ?_⟩
    have e1 : xI h c i = nI (32 + v) := hit
    have e2 : nI (32 + v) - nI 32 = nI v := by rw [pk_sub (by omega)]; congr 1; omega
    have c1 : ¬ 32 + v < 32 := by omega
    conv => lhs; rw [b43_1]
    simp (disch := omega) only [k43_2, b43_2, k43_3, b43_3, k43_5, b43_5, k43_11, b43_11, e_iconst, e_lconst, e_null, e_ldc, e_iload0i, e_iload1i, e_iload2i, e_iload3i, e_iload4i, e_iload5i, e_iload6i, e_iload7i, e_iload8i, e_iload9i, e_iload10i, e_lload0l, e_lload1l, e_lload2l, e_lload3l, e_lload4l, e_lload5l, e_lload6l, e_lload7l, e_lload8l, e_lload9l, e_lload10l, e_aload0r, e_aload1r, e_aload2r, e_aload3r, e_aload4r, e_aload5r, e_aload6r, e_aload7r, e_aload8r, e_aload9r, e_aload10r, e_aload0n, e_aload1n, e_aload2n, e_aload3n, e_aload4n, e_aload5n, e_aload6n, e_aload7n, e_aload8n, e_aload9n, e_aload10n, e_aload0f, e_aload1f, e_aload2f, e_aload3f, e_aload4f, e_aload5f, e_aload6f, e_aload7f, e_aload8f, e_aload9f, e_aload10f, e_iinc0, e_iinc1, e_iinc2, e_iinc3, e_iinc4, e_iinc5, e_iinc6, e_iinc7, e_iinc8, e_iinc9, e_iinc10, xst_0, xst_1i, xst2_1i, xst_1r, xst2_1r, xst_1n, xst2_1n, xst_1f, xst2_1f, xst_1u, xst2_1u, xst_1l, xst2_1l, xst2_0, xst_s, xst2_s, e_istore, e_lstore, e_astore, e_astoreN, e_iadd, e_isub, e_imul, e_iand, e_ior, e_ixor, e_ishl, e_ishr, e_iushr, e_ladd, e_lsub, e_lmul, e_land, e_lor, e_lshl, e_lcmp, e_i2l, e_l2i, e_i2b, e_ineg, e_dupi, e_dupr, e_dup2, e_popi, e_popr, e_idiv, e_irem, e_ldiv, e_lrem, e_ifCond, e_if_icmp, e_ifnullR, e_ifnullN, e_ifnonnullR, e_ifnonnullN, e_goto, e_jsr, e_tsw, e_lsw, e_getfield, e_dload, e_fload, e_putfield, e_dstore, e_fstore, e_fstoreN, e_monitor, e_new, e_newarray, e_anewarray, e_mnew, e_alen, e_slen, e_schr, e_alenF, e_iaload, e_ialoadF, e_baload, e_laload, e_aaload, e_iastore, e_lastore, e_aastore, e_bastoreB, e_bastoreZ, e_copy, e_ireturnI, e_ireturnZ0, e_ireturnZ1, e_ireturnZb, e_lreturn, e_areturn, e_areturnA, e_areturnN, e_return, ofI, ofIm, ofJ, cat_i, cat_l, cat_r, cat_f, cat_n, xent_0, xent_i, xent_l, xent_r, xent_n, xent_f, xentry, xrf_s, xrf_n, List.getD_cons_zero, List.getD_cons_succ, List.length_cons, List.length_nil, List.cons_append, List.nil_append, List.append_nil, List.map_cons, List.map_nil, List.sum_cons, List.sum_nil, List.replicate, oT_s, oT_n, true_and, and_true, Nat.reduceAdd, Nat.reduceSub, Nat.reduceLeDiff, Nat.reduceEqDiff, Nat.reduceLT, Nat.reduceDiv, Nat.reduceMod, Nat.reduceMul, eq_self, ofN, nI_dec, nI_11, or_true, true_or, false_or, or_false, nI_e0, nI_0lt, Nat.succ_ne_zero, Nat.zero_lt_succ, lg_cmp_gt, lg_cmp_lt, lg_cmp_eq, nI_lt0, nI_add, pk_sub, pk_mul, Nat.add_sub_cancel, nI_clamp, vp_in_T, nI_ltI, nI_leI, nI_eqI, Nat.zero_add, Nat.add_zero, xc_eq, xc_ne, xc_lt, xc_ge, xc_gt, xc_le, bI_0, bI_0n, bI_n0, not_true_eq_false, not_false_eq_true, if_true, if_false, ite_true, ite_false, decide_true, decide_false, and_self, and_true, true_and, k43_1, k43_12, h1, h2, h3, h4, h5, h6, h7, al_i h4, al_l hw1, e1, c1, hi, hl, e2, nI_ofl, List.length_cons]
  · have hv : k < 12 := hok
    cases hrun
    refine ⟨setJ h st l.length (xJ h wd k), JFr.set, ⟨xJ_sJe, hs.mono fun j hj => xJ_sJn (by omega)⟩, some (.int (nI k)), fun Q => ?_⟩
    have e1 : xI h c i = nI k := hit
    have c1 : k < 32 := by omega
    conv => lhs; rw [b43_1]
    simp (disch := omega) only [k43_2, b43_2, k43_3, b43_3, k43_4, b43_4, k43_5, b43_5, k43_11, b43_11, e_iconst, e_lconst, e_null, e_ldc, e_iload0i, e_iload1i, e_iload2i, e_iload3i, e_iload4i, e_iload5i, e_iload6i, e_iload7i, e_iload8i, e_iload9i, e_iload10i, e_lload0l, e_lload1l, e_lload2l, e_lload3l, e_lload4l, e_lload5l, e_lload6l, e_lload7l, e_lload8l, e_lload9l, e_lload10l, e_aload0r, e_aload1r, e_aload2r, e_aload3r, e_aload4r, e_aload5r, e_aload6r, e_aload7r, e_aload8r, e_aload9r, e_aload10r, e_aload0n, e_aload1n, e_aload2n, e_aload3n, e_aload4n, e_aload5n, e_aload6n, e_aload7n, e_aload8n, e_aload9n, e_aload10n, e_aload0f, e_aload1f, e_aload2f, e_aload3f, e_aload4f, e_aload5f, e_aload6f, e_aload7f, e_aload8f, e_aload9f, e_aload10f, e_iinc0, e_iinc1, e_iinc2, e_iinc3, e_iinc4, e_iinc5, e_iinc6, e_iinc7, e_iinc8, e_iinc9, e_iinc10, xst_0, xst_1i, xst2_1i, xst_1r, xst2_1r, xst_1n, xst2_1n, xst_1f, xst2_1f, xst_1u, xst2_1u, xst_1l, xst2_1l, xst2_0, xst_s, xst2_s, e_istore, e_lstore, e_astore, e_astoreN, e_iadd, e_isub, e_imul, e_iand, e_ior, e_ixor, e_ishl, e_ishr, e_iushr, e_ladd, e_lsub, e_lmul, e_land, e_lor, e_lshl, e_lcmp, e_i2l, e_l2i, e_i2b, e_ineg, e_dupi, e_dupr, e_dup2, e_popi, e_popr, e_idiv, e_irem, e_ldiv, e_lrem, e_ifCond, e_if_icmp, e_ifnullR, e_ifnullN, e_ifnonnullR, e_ifnonnullN, e_goto, e_jsr, e_tsw, e_lsw, e_getfield, e_dload, e_fload, e_putfield, e_dstore, e_fstore, e_fstoreN, e_monitor, e_new, e_newarray, e_anewarray, e_mnew, e_alen, e_slen, e_schr, e_alenF, e_iaload, e_ialoadF, e_baload, e_laload, e_aaload, e_iastore, e_lastore, e_aastore, e_bastoreB, e_bastoreZ, e_copy, e_ireturnI, e_ireturnZ0, e_ireturnZ1, e_ireturnZb, e_lreturn, e_areturn, e_areturnA, e_areturnN, e_return, ofI, ofIm, ofJ, cat_i, cat_l, cat_r, cat_f, cat_n, xent_0, xent_i, xent_l, xent_r, xent_n, xent_f, xentry, xrf_s, xrf_n, List.getD_cons_zero, List.getD_cons_succ, List.length_cons, List.length_nil, List.cons_append, List.nil_append, List.append_nil, List.map_cons, List.map_nil, List.sum_cons, List.sum_nil, List.replicate, oT_s, oT_n, true_and, and_true, Nat.reduceAdd, Nat.reduceSub, Nat.reduceLeDiff, Nat.reduceEqDiff, Nat.reduceLT, Nat.reduceDiv, Nat.reduceMod, Nat.reduceMul, eq_self, ofN, nI_dec, nI_11, or_true, true_or, false_or, or_false, nI_e0, nI_0lt, Nat.succ_ne_zero, Nat.zero_lt_succ, lg_cmp_gt, lg_cmp_lt, lg_cmp_eq, nI_lt0, nI_add, pk_sub, pk_mul, Nat.add_sub_cancel, nI_clamp, vp_in_T, nI_ltI, nI_leI, nI_eqI, Nat.zero_add, Nat.add_zero, xc_eq, xc_ne, xc_lt, xc_ge, xc_gt, xc_le, bI_0, bI_0n, bI_n0, not_true_eq_false, not_false_eq_true, if_true, if_false, ite_true, ite_false, decide_true, decide_false, and_self, and_true, true_and, k43_1, k43_12, h1, h2, h3, h4, h5, h6, h7, al_i h4, al_l hw1, hw1, hw2, e1, c1, hi, hl, hv, List.length_cons]
  · match l, hs, hl, hrun with
    | v :: l, hs, hl, hrun =>
      cases hrun
      have hl' : l.length + 1 < 64 := hl
      refine ⟨setJ h st l.length (lN 1 - v), JFr.set, ⟨xJ_sJe, hs.2.mono fun j hj => xJ_sJn (by omega)⟩, some (.int (nI 22)), fun Q => ?_⟩
      have e1 : xI h c i = nI 22 := hit
      have e2 := hs.1
      conv => lhs; rw [b43_1]
      simp (disch := omega) only [k43_6, b43_6, k43_7, b43_7, k43_9, b43_9, k43_11, b43_11, e_iconst, e_lconst, e_null, e_ldc, e_iload0i, e_iload1i, e_iload2i, e_iload3i, e_iload4i, e_iload5i, e_iload6i, e_iload7i, e_iload8i, e_iload9i, e_iload10i, e_lload0l, e_lload1l, e_lload2l, e_lload3l, e_lload4l, e_lload5l, e_lload6l, e_lload7l, e_lload8l, e_lload9l, e_lload10l, e_aload0r, e_aload1r, e_aload2r, e_aload3r, e_aload4r, e_aload5r, e_aload6r, e_aload7r, e_aload8r, e_aload9r, e_aload10r, e_aload0n, e_aload1n, e_aload2n, e_aload3n, e_aload4n, e_aload5n, e_aload6n, e_aload7n, e_aload8n, e_aload9n, e_aload10n, e_aload0f, e_aload1f, e_aload2f, e_aload3f, e_aload4f, e_aload5f, e_aload6f, e_aload7f, e_aload8f, e_aload9f, e_aload10f, e_iinc0, e_iinc1, e_iinc2, e_iinc3, e_iinc4, e_iinc5, e_iinc6, e_iinc7, e_iinc8, e_iinc9, e_iinc10, xst_0, xst_1i, xst2_1i, xst_1r, xst2_1r, xst_1n, xst2_1n, xst_1f, xst2_1f, xst_1u, xst2_1u, xst_1l, xst2_1l, xst2_0, xst_s, xst2_s, e_istore, e_lstore, e_astore, e_astoreN, e_iadd, e_isub, e_imul, e_iand, e_ior, e_ixor, e_ishl, e_ishr, e_iushr, e_ladd, e_lsub, e_lmul, e_land, e_lor, e_lshl, e_lcmp, e_i2l, e_l2i, e_i2b, e_ineg, e_dupi, e_dupr, e_dup2, e_popi, e_popr, e_idiv, e_irem, e_ldiv, e_lrem, e_ifCond, e_if_icmp, e_ifnullR, e_ifnullN, e_ifnonnullR, e_ifnonnullN, e_goto, e_jsr, e_tsw, e_lsw, e_getfield, e_dload, e_fload, e_putfield, e_dstore, e_fstore, e_fstoreN, e_monitor, e_new, e_newarray, e_anewarray, e_mnew, e_alen, e_slen, e_schr, e_alenF, e_iaload, e_ialoadF, e_baload, e_laload, e_aaload, e_iastore, e_lastore, e_aastore, e_bastoreB, e_bastoreZ, e_copy, e_ireturnI, e_ireturnZ0, e_ireturnZ1, e_ireturnZb, e_lreturn, e_areturn, e_areturnA, e_areturnN, e_return, ofI, ofIm, ofJ, cat_i, cat_l, cat_r, cat_f, cat_n, xent_0, xent_i, xent_l, xent_r, xent_n, xent_f, xentry, xrf_s, xrf_n, List.getD_cons_zero, List.getD_cons_succ, List.length_cons, List.length_nil, List.cons_append, List.nil_append, List.append_nil, List.map_cons, List.map_nil, List.sum_cons, List.sum_nil, List.replicate, oT_s, oT_n, true_and, and_true, Nat.reduceAdd, Nat.reduceSub, Nat.reduceLeDiff, Nat.reduceEqDiff, Nat.reduceLT, Nat.reduceDiv, Nat.reduceMod, Nat.reduceMul, eq_self, ofN, nI_dec, nI_11, or_true, true_or, false_or, or_false, nI_e0, nI_0lt, Nat.succ_ne_zero, Nat.zero_lt_succ, lg_cmp_gt, lg_cmp_lt, lg_cmp_eq, nI_lt0, nI_add, pk_sub, pk_mul, Nat.add_sub_cancel, nI_clamp, vp_in_T, nI_ltI, nI_leI, nI_eqI, Nat.zero_add, Nat.add_zero, xc_eq, xc_ne, xc_lt, xc_ge, xc_gt, xc_le, bI_0, bI_0n, bI_n0, not_true_eq_false, not_false_eq_true, if_true, if_false, ite_true, ite_false, decide_true, decide_false, and_self, and_true, true_and, k43_1, k43_2, k43_10, k43_12, h1, h2, h3, h4, h5, h6, h7, al_i h4, al_l hw1, e1, e2, hi, List.length_cons, show ¬ (22 : Nat) < 12 by decide, show (22 : Nat) < 32 by decide, show ¬ (22 : Nat) = 26 by decide, show ¬ (22 : Nat) = 27 by decide]
  · have hv : k < 12 := hok
    match l, hs, hl, hrun with
    | y :: x :: l, hs, hl, hrun =>
      cases hrun
      have hl' : l.length + 1 + 1 < 64 := hl
      refine ⟨setJ h st l.length (opF k x y), JFr.set, ⟨xJ_sJe, hs.2.2.mono fun j hj => xJ_sJn (by omega)⟩, some (.int (nI (cOp k))), fun Q => ?_⟩
      have e1 : xI h c i = nI (cOp k) := hit
      obtain ⟨c1, c2, c3⟩ := cOp_b k hv
      have e2 := hs.1
      have e3 := hs.2.1
      have c4 : ¬ cOp k < 12 := by omega
      have c5 : cOp k < 32 := by omega
      have c6 : ¬ cOp k = 26 := by omega
      have c7 : ¬ cOp k = 27 := by omega
      have c8 : 1 < l.length + 1 + 1 := by omega
      simp only [List.length_cons] at e2
      conv => lhs; rw [b43_1]
      simp (disch := omega) only [k43_6, b43_6, k43_7, b43_7, k43_9, b43_9, k43_10, b43_10, k43_11, b43_11, e_iconst, e_lconst, e_null, e_ldc, e_iload0i, e_iload1i, e_iload2i, e_iload3i, e_iload4i, e_iload5i, e_iload6i, e_iload7i, e_iload8i, e_iload9i, e_iload10i, e_lload0l, e_lload1l, e_lload2l, e_lload3l, e_lload4l, e_lload5l, e_lload6l, e_lload7l, e_lload8l, e_lload9l, e_lload10l, e_aload0r, e_aload1r, e_aload2r, e_aload3r, e_aload4r, e_aload5r, e_aload6r, e_aload7r, e_aload8r, e_aload9r, e_aload10r, e_aload0n, e_aload1n, e_aload2n, e_aload3n, e_aload4n, e_aload5n, e_aload6n, e_aload7n, e_aload8n, e_aload9n, e_aload10n, e_aload0f, e_aload1f, e_aload2f, e_aload3f, e_aload4f, e_aload5f, e_aload6f, e_aload7f, e_aload8f, e_aload9f, e_aload10f, e_iinc0, e_iinc1, e_iinc2, e_iinc3, e_iinc4, e_iinc5, e_iinc6, e_iinc7, e_iinc8, e_iinc9, e_iinc10, xst_0, xst_1i, xst2_1i, xst_1r, xst2_1r, xst_1n, xst2_1n, xst_1f, xst2_1f, xst_1u, xst2_1u, xst_1l, xst2_1l, xst2_0, xst_s, xst2_s, e_istore, e_lstore, e_astore, e_astoreN, e_iadd, e_isub, e_imul, e_iand, e_ior, e_ixor, e_ishl, e_ishr, e_iushr, e_ladd, e_lsub, e_lmul, e_land, e_lor, e_lshl, e_lcmp, e_i2l, e_l2i, e_i2b, e_ineg, e_dupi, e_dupr, e_dup2, e_popi, e_popr, e_idiv, e_irem, e_ldiv, e_lrem, e_ifCond, e_if_icmp, e_ifnullR, e_ifnullN, e_ifnonnullR, e_ifnonnullN, e_goto, e_jsr, e_tsw, e_lsw, e_getfield, e_dload, e_fload, e_putfield, e_dstore, e_fstore, e_fstoreN, e_monitor, e_new, e_newarray, e_anewarray, e_mnew, e_alen, e_slen, e_schr, e_alenF, e_iaload, e_ialoadF, e_baload, e_laload, e_aaload, e_iastore, e_lastore, e_aastore, e_bastoreB, e_bastoreZ, e_copy, e_ireturnI, e_ireturnZ0, e_ireturnZ1, e_ireturnZb, e_lreturn, e_areturn, e_areturnA, e_areturnN, e_return, ofI, ofIm, ofJ, cat_i, cat_l, cat_r, cat_f, cat_n, xent_0, xent_i, xent_l, xent_r, xent_n, xent_f, xentry, xrf_s, xrf_n, List.getD_cons_zero, List.getD_cons_succ, List.length_cons, List.length_nil, List.cons_append, List.nil_append, List.append_nil, List.map_cons, List.map_nil, List.sum_cons, List.sum_nil, List.replicate, oT_s, oT_n, true_and, and_true, Nat.reduceAdd, Nat.reduceSub, Nat.reduceLeDiff, Nat.reduceEqDiff, Nat.reduceLT, Nat.reduceDiv, Nat.reduceMod, Nat.reduceMul, eq_self, ofN, nI_dec, nI_11, or_true, true_or, false_or, or_false, nI_e0, nI_0lt, Nat.succ_ne_zero, Nat.zero_lt_succ, lg_cmp_gt, lg_cmp_lt, lg_cmp_eq, nI_lt0, nI_add, pk_sub, pk_mul, Nat.add_sub_cancel, nI_clamp, vp_in_T, nI_ltI, nI_leI, nI_eqI, Nat.zero_add, Nat.add_zero, xc_eq, xc_ne, xc_lt, xc_ge, xc_gt, xc_le, bI_0, bI_0n, bI_n0, not_true_eq_false, not_false_eq_true, if_true, if_false, ite_true, ite_false, decide_true, decide_false, and_self, and_true, true_and, k43_1, k43_2, k43_8, k43_12, h1, h2, h3, h4, h5, h6, h7, al_i h4, al_l hw1, e1, e2, e3, c3, c4, c5, c6, c7, c8, hi, v44, c_op hv, List.length_cons]
/-- signs as a row has them -/
def CodeAt (f : Nat → Int32) (g : It → Nat) : Nat → List It → Prop
  | _, [] => True
  | i, a :: as => f i = nI (g a) ∧ CodeAt f g (i + 1) as
theorem CodeAt.app {f : Nat → Int32} {g : It → Nat} : ∀ {as bs : List It} {i : Nat}, CodeAt f g i (as ++ bs) ↔ CodeAt f g i as ∧ CodeAt f g (i + as.length) bs
  | [], bs, i => by simp [CodeAt]
  | a :: as, bs, i => by
    simp only [List.cons_append, CodeAt, CodeAt.app (as := as), List.length_cons, and_assoc, Nat.add_assoc, Nat.add_comm 1]
def iVs : List It → Nat
  | [] => 0
  | a :: as => iV a + iVs as
theorem iVs_app : ∀ {as bs : List It}, iVs (as ++ bs) = iVs as + iVs bs
  | [], bs => by simp [iVs]
  | a :: as, bs => by rw [List.cons_append, iVs, iVs, iVs_app, Nat.add_assoc]
def iOks : List It → Prop
  | [] => True
  | a :: as => iOk a ∧ iOks as
theorem run1_len {w : Nat → Int64} {it : It} {l l' : List Int64} (hr : run1 w it l = some l') : l'.length ≤ l.length + iV it := by
  rcases it with (v | k) | (e | k)
  · cases hr; simp [iV]
  · cases hr; simp [iV]
  · match l, hr with
    | v :: l, hr => cases hr; simp [iV]
  · match l, hr with
    | v :: u :: l, hr => cases hr; simp [iV]
theorem run1_app {w : Nat → Int64} {it : It} {l l' m : List Int64} (hr : run1 w it l = some l') : run1 w it (l ++ m) = some (l' ++ m) := by
  rcases it with (v | k) | (e | k)
  · cases hr; rfl
  · cases hr; rfl
  · match l, hr with
    | v :: l, hr => cases hr; rfl
  · match l, hr with
    | v :: u :: l, hr => cases hr; rfl
theorem runL_app {w : Nat → Int64} : ∀ {is : List It} {l l' m : List Int64}, runL w is l = some l' → runL w is (l ++ m) = some (l' ++ m)
  | [], l, l', m, hr => by cases hr; rfl
  | i :: is, l, l', m, hr => by
    simp only [runL] at hr ⊢
    cases h1 : run1 w i l with
    | none => rw [h1] at hr; cases hr
    | some l1 => rw [h1] at hr; rw [run1_app h1]; exact runL_app (is := is) hr
theorem w_items (hw1 : xis h wd (.inl .long)) (hw2 : xlen h wd = 12) (hne : wd ≠ st) (hm : m ≤ 400) : ∀ (is : List It) (l l' : List Int64) (i : Nat) (h0 : xH) (u : Option Value), JFr st h h0 → RuleC h r c st m → CodeAt (xI h c) iC i is → iOks is → i + is.length ≤ m → Stk (xJ h0 st) l → l.length + iVs is < 64 → runL (xJ h wd) is l = some l' → ∃ h1, JFr st h h1 ∧ Stk (xJ h1 st) l' ∧ ∃ u', ∀ Q, Ev (pG L xs) pM (d + 1) b43 (some .long) Q b43_1 [some (.ref r), some (.ref wd), some (.int (nI l.length)), some (.int (nI i)), u] [] h0 = Ev (pG L xs) pM (d + 1) b43 (some .long) Q b43_1 [some (.ref r), some (.ref wd), some (.int (nI l'.length)), some (.int (nI (i + is.length))), u'] [] h1
  | [], l, l', i, h0, u, hj, hr, hc, hok, hi, hs, hl, hrun => by cases hrun; exact ⟨h0, hj, hs, u, fun Q => rfl⟩
  | a :: is, l, l', i, h0, u, hj, hr, hc, hok, hi, hs, hl, hrun => by
    simp only [runL] at hrun
    simp only [List.length_cons] at hi
    simp only [iVs] at hl
    cases h1 : run1 (xJ h wd) a l with
    | none => rw [h1] at hrun; cases hrun
    | some l1 =>
      rw [h1] at hrun
      have e1 := hj.2.2.2.2 wd hne
      obtain ⟨h2, g1, g2, u2, g3⟩ := w_item (L := L) (d := d) (xs := xs) (u := u) (i := i) (hr.fr hj) (hj.is hw1) (by rw [hj.ln]; exact hw2) (by omega) hm (it := a) (by rw [hj.2.2.1]; exact hc.1) hok.1 hs (by omega) (by rw [e1]; exact h1)
      have hlen := run1_len h1
      obtain ⟨h3, g4, g5, u3, g6⟩ := w_items hw1 hw2 hne hm is l1 l' (i + 1) h2 u2 (hj.tr g1) hr hc.2 hok.2 (by omega) g2 (by omega) hrun
      refine ⟨h3, g4, g5, u3, fun Q => ?_⟩
      rw [g3 Q, g6 Q, List.length_cons, Nat.add_assoc, Nat.add_comm 1]
/-- clauses: a sum, and what is tested -/
abbrev Cl : Type := List It × Option (List It)
def valOf (w : Nat → Int64) (is : List It) : Int64 := match runL w is [] with
  | some (v :: _) => v
  | _ => lN 0
def worthF (w : Nat → Int64) : List Cl → Int64
  | [] => lN 0
  | (s, none) :: _ => valOf w s
  | (s, some t) :: r => if valOf w t = lN 1 then valOf w s else worthF w r
def clOK (c : Cl) : Prop := iOks c.1 ∧ tyL c.1 [] = some [false] ∧ match c.2 with
  | none => iVs c.1 ≤ 60
  | some t => iOks t ∧ tyL t [] = some [true] ∧ iVs c.1 + iVs t ≤ 60
def clsOK : List Cl → Prop
  | [] => True
  | c :: r => clOK c ∧ clsOK r
def clLen (c : Cl) : Nat := match c.2 with
  | none => c.1.length + 1
  | some t => c.1.length + t.length + 1
def clsLen : List Cl → Nat
  | [] => 0
  | c :: r => clLen c + clsLen r
def CodeC (f : Nat → Int32) : Nat → List Cl → Prop
  | _, [] => True
  | i, (s, none) :: r => CodeAt f iC i s ∧ f (i + s.length) = nI 26 ∧ CodeC f (i + s.length + 1) r
  | i, (s, some t) :: r => CodeAt f iC i s ∧ CodeAt f iC (i + s.length) t ∧ f (i + s.length + t.length) = nI 27 ∧ CodeC f (i + s.length + t.length + 1) r
theorem val1 {w : Nat → Int64} {is : List It} {b : Bool} (ht : tyL is [] = some [b]) : runL w is [] = some [valOf w is] ∧ (b = true → valOf w is = lN 0 ∨ valOf w is = lN 1) := by
  obtain ⟨l, g1, g2⟩ := runL_ty (w := w) (l := []) (t := []) trivial ht
  match l, g2 with
  | [v], g2 =>
    have e : valOf w is = v := by unfold valOf; rw [g1]
    rw [e]; exact ⟨g1, g2.1⟩
theorem w_clauses (hw1 : xis h wd (.inl .long)) (hw2 : xlen h wd = 12) (hne : wd ≠ st) (hm : m ≤ 400) (hr : RuleC h r c st m) : ∀ (cls : List Cl) (i : Nat) (h0 : xH) (u : Option Value), JFr st h h0 → CodeC (xI h c) i cls → clsOK cls → i + clsLen cls = m → ∃ h1, JFr st h h1 ∧ ∀ Q, Ev (pG L xs) pM (d + 1) b43 (some .long) Q b43_1 [some (.ref r), some (.ref wd), some (.int (nI 0)), some (.int (nI i)), u] [] h0 = Q (some (.long (worthF (xJ h wd) cls))) h1
  | [], i, h0, u, hj, hc, hok, hi => by
    obtain ⟨h1, h2, h3, h4, h5, h6, h7⟩ := hr.fr hj
    simp only [clsLen] at hi
    obtain rfl : i = m := by omega
    refine ⟨h0, hj, fun Q => ?_⟩
    rw [b43_1]
    simp (disch := omega) only [k43_12, b43_12, e_iconst, e_lconst, e_null, e_ldc, e_iload0i, e_iload1i, e_iload2i, e_iload3i, e_iload4i, e_iload5i, e_iload6i, e_iload7i, e_iload8i, e_iload9i, e_iload10i, e_lload0l, e_lload1l, e_lload2l, e_lload3l, e_lload4l, e_lload5l, e_lload6l, e_lload7l, e_lload8l, e_lload9l, e_lload10l, e_aload0r, e_aload1r, e_aload2r, e_aload3r, e_aload4r, e_aload5r, e_aload6r, e_aload7r, e_aload8r, e_aload9r, e_aload10r, e_aload0n, e_aload1n, e_aload2n, e_aload3n, e_aload4n, e_aload5n, e_aload6n, e_aload7n, e_aload8n, e_aload9n, e_aload10n, e_aload0f, e_aload1f, e_aload2f, e_aload3f, e_aload4f, e_aload5f, e_aload6f, e_aload7f, e_aload8f, e_aload9f, e_aload10f, e_iinc0, e_iinc1, e_iinc2, e_iinc3, e_iinc4, e_iinc5, e_iinc6, e_iinc7, e_iinc8, e_iinc9, e_iinc10, xst_0, xst_1i, xst2_1i, xst_1r, xst2_1r, xst_1n, xst2_1n, xst_1f, xst2_1f, xst_1u, xst2_1u, xst_1l, xst2_1l, xst2_0, xst_s, xst2_s, e_istore, e_lstore, e_astore, e_astoreN, e_iadd, e_isub, e_imul, e_iand, e_ior, e_ixor, e_ishl, e_ishr, e_iushr, e_ladd, e_lsub, e_lmul, e_land, e_lor, e_lshl, e_lcmp, e_i2l, e_l2i, e_i2b, e_ineg, e_dupi, e_dupr, e_dup2, e_popi, e_popr, e_idiv, e_irem, e_ldiv, e_lrem, e_ifCond, e_if_icmp, e_ifnullR, e_ifnullN, e_ifnonnullR, e_ifnonnullN, e_goto, e_jsr, e_tsw, e_lsw, e_getfield, e_dload, e_fload, e_putfield, e_dstore, e_fstore, e_fstoreN, e_monitor, e_new, e_newarray, e_anewarray, e_mnew, e_alen, e_slen, e_schr, e_alenF, e_iaload, e_ialoadF, e_baload, e_laload, e_aaload, e_iastore, e_lastore, e_aastore, e_bastoreB, e_bastoreZ, e_copy, e_ireturnI, e_ireturnZ0, e_ireturnZ1, e_ireturnZb, e_lreturn, e_areturn, e_areturnA, e_areturnN, e_return, ofI, ofIm, ofJ, cat_i, cat_l, cat_r, cat_f, cat_n, xent_0, xent_i, xent_l, xent_r, xent_n, xent_f, xentry, xrf_s, xrf_n, List.getD_cons_zero, List.getD_cons_succ, List.length_cons, List.length_nil, List.cons_append, List.nil_append, List.append_nil, List.map_cons, List.map_nil, List.sum_cons, List.sum_nil, List.replicate, oT_s, oT_n, true_and, and_true, Nat.reduceAdd, Nat.reduceSub, Nat.reduceLeDiff, Nat.reduceEqDiff, Nat.reduceLT, Nat.reduceDiv, Nat.reduceMod, Nat.reduceMul, eq_self, ofN, nI_dec, nI_11, or_true, true_or, false_or, or_false, nI_e0, nI_0lt, Nat.succ_ne_zero, Nat.zero_lt_succ, lg_cmp_gt, lg_cmp_lt, lg_cmp_eq, nI_lt0, nI_add, pk_sub, pk_mul, Nat.add_sub_cancel, nI_clamp, vp_in_T, nI_ltI, nI_leI, nI_eqI, Nat.zero_add, Nat.add_zero, xc_eq, xc_ne, xc_lt, xc_ge, xc_gt, xc_le, bI_0, bI_0n, bI_n0, not_true_eq_false, not_false_eq_true, if_true, if_false, ite_true, ite_false, decide_true, decide_false, and_self, and_true, true_and, h1, h2, h3, h4, h5, h6, h7, al_i h4, Nat.lt_irrefl, worthF]
  | (s, none) :: rs, i, h0, u, hj, hc, hok, hi => by
    simp only [clsLen, clLen] at hi
    obtain ⟨c1, c2, c3⟩ := hc
    obtain ⟨⟨k1, k2, k3⟩, -⟩ := hok
    dsimp only at k1 k2 k3
    obtain ⟨v1, -⟩ := val1 (w := xJ h wd) k2
    obtain ⟨h2, g1, g2, u2, g3⟩ := w_items (L := L) (d := d) (xs := xs) hw1 hw2 hne hm s [] _ i h0 u hj hr c1 k1 (by omega) trivial (by simp only [List.length_nil]; omega) v1
    obtain ⟨q1, q2, q3, q4, q5, q6, q7⟩ := hr.fr g1
    refine ⟨h2, g1, fun Q => ?_⟩
    have e1 : xI h2 c (i + s.length) = nI 26 := by rw [g1.2.2.1]; exact c2
    have e2 : xJ h2 st 0 = valOf (xJ h wd) s := g2.1
    have e3 : i + s.length < m := by omega
    have g4 := g3 Q
    simp only [List.length_nil] at g4
    rw [g4, b43_1]
    simp (disch := omega) only [k43_6, b43_6, e_iconst, e_lconst, e_null, e_ldc, e_iload0i, e_iload1i, e_iload2i, e_iload3i, e_iload4i, e_iload5i, e_iload6i, e_iload7i, e_iload8i, e_iload9i, e_iload10i, e_lload0l, e_lload1l, e_lload2l, e_lload3l, e_lload4l, e_lload5l, e_lload6l, e_lload7l, e_lload8l, e_lload9l, e_lload10l, e_aload0r, e_aload1r, e_aload2r, e_aload3r, e_aload4r, e_aload5r, e_aload6r, e_aload7r, e_aload8r, e_aload9r, e_aload10r, e_aload0n, e_aload1n, e_aload2n, e_aload3n, e_aload4n, e_aload5n, e_aload6n, e_aload7n, e_aload8n, e_aload9n, e_aload10n, e_aload0f, e_aload1f, e_aload2f, e_aload3f, e_aload4f, e_aload5f, e_aload6f, e_aload7f, e_aload8f, e_aload9f, e_aload10f, e_iinc0, e_iinc1, e_iinc2, e_iinc3, e_iinc4, e_iinc5, e_iinc6, e_iinc7, e_iinc8, e_iinc9, e_iinc10, xst_0, xst_1i, xst2_1i, xst_1r, xst2_1r, xst_1n, xst2_1n, xst_1f, xst2_1f, xst_1u, xst2_1u, xst_1l, xst2_1l, xst2_0, xst_s, xst2_s, e_istore, e_lstore, e_astore, e_astoreN, e_iadd, e_isub, e_imul, e_iand, e_ior, e_ixor, e_ishl, e_ishr, e_iushr, e_ladd, e_lsub, e_lmul, e_land, e_lor, e_lshl, e_lcmp, e_i2l, e_l2i, e_i2b, e_ineg, e_dupi, e_dupr, e_dup2, e_popi, e_popr, e_idiv, e_irem, e_ldiv, e_lrem, e_ifCond, e_if_icmp, e_ifnullR, e_ifnullN, e_ifnonnullR, e_ifnonnullN, e_goto, e_jsr, e_tsw, e_lsw, e_getfield, e_dload, e_fload, e_putfield, e_dstore, e_fstore, e_fstoreN, e_monitor, e_new, e_newarray, e_anewarray, e_mnew, e_alen, e_slen, e_schr, e_alenF, e_iaload, e_ialoadF, e_baload, e_laload, e_aaload, e_iastore, e_lastore, e_aastore, e_bastoreB, e_bastoreZ, e_copy, e_ireturnI, e_ireturnZ0, e_ireturnZ1, e_ireturnZb, e_lreturn, e_areturn, e_areturnA, e_areturnN, e_return, ofI, ofIm, ofJ, cat_i, cat_l, cat_r, cat_f, cat_n, xent_0, xent_i, xent_l, xent_r, xent_n, xent_f, xentry, xrf_s, xrf_n, List.getD_cons_zero, List.getD_cons_succ, List.length_cons, List.length_nil, List.cons_append, List.nil_append, List.append_nil, List.map_cons, List.map_nil, List.sum_cons, List.sum_nil, List.replicate, oT_s, oT_n, true_and, and_true, Nat.reduceAdd, Nat.reduceSub, Nat.reduceLeDiff, Nat.reduceEqDiff, Nat.reduceLT, Nat.reduceDiv, Nat.reduceMod, Nat.reduceMul, eq_self, ofN, nI_dec, nI_11, or_true, true_or, false_or, or_false, nI_e0, nI_0lt, Nat.succ_ne_zero, Nat.zero_lt_succ, lg_cmp_gt, lg_cmp_lt, lg_cmp_eq, nI_lt0, nI_add, pk_sub, pk_mul, Nat.add_sub_cancel, nI_clamp, vp_in_T, nI_ltI, nI_leI, nI_eqI, Nat.zero_add, Nat.add_zero, xc_eq, xc_ne, xc_lt, xc_ge, xc_gt, xc_le, bI_0, bI_0n, bI_n0, not_true_eq_false, not_false_eq_true, if_true, if_false, ite_true, ite_false, decide_true, decide_false, and_self, and_true, true_and, k43_2, k43_7, k43_12, q1, q2, q3, q4, q5, q6, q7, al_i q4, e1, e2, e3, worthF, show ¬ (26 : Nat) < 12 by decide, show (26 : Nat) < 32 by decide]
  | (s, some t) :: rs, i, h0, u, hj, hc, hok, hi => by
    simp only [clsLen, clLen] at hi
    obtain ⟨c1, c2, c3, c4⟩ := hc
    obtain ⟨⟨k1, k2, k3, k4, k5⟩, k6⟩ := hok
    dsimp only at k1 k2 k3 k4 k5
    obtain ⟨v1, -⟩ := val1 (w := xJ h wd) k2
    obtain ⟨v2, v3⟩ := val1 (w := xJ h wd) k4
    obtain ⟨h2, g1, g2, u2, g3⟩ := w_items (L := L) (d := d) (xs := xs) hw1 hw2 hne hm s [] _ i h0 u hj hr c1 k1 (by omega) trivial (by simp only [List.length_nil]; omega) v1
    obtain ⟨h3, f1, f2, u3, f3⟩ := w_items (L := L) (d := d) (xs := xs) hw1 hw2 hne hm t [valOf (xJ h wd) s] _ (i + s.length) h2 u2 g1 hr c2 k3 (by omega) g2 (by simp only [List.length_cons, List.length_nil]; omega) (runL_app v2)
    obtain ⟨q1, q2, q3, q4, q5, q6, q7⟩ := hr.fr f1
    have e1 : xI h3 c (i + s.length + t.length) = nI 27 := by rw [f1.2.2.1]; exact c3
    have e2 : xJ h3 st 1 = valOf (xJ h wd) t := f2.1
    have e4 : xJ h3 st 0 = valOf (xJ h wd) s := f2.2.1
    have e3 : i + s.length + t.length < m := by omega
    obtain ⟨h4, p1, p2⟩ := w_clauses hw1 hw2 hne hm hr rs (i + s.length + t.length + 1) h3 (some (.int (nI 27))) f1 c4 k6 (by omega)
    by_cases ev : valOf (xJ h wd) t = lN 1
    · refine ⟨h3, f1, fun Q => ?_⟩
      have g4 := g3 Q
      have f4 := f3 Q
      simp only [List.length_nil, List.length_cons, List.cons_append, List.nil_append] at g4 f4
      rw [g4, f4, b43_1]
      have n1 : ¬ lN 1 = lN 0 := by decide
      simp (disch := omega) only [k43_6, b43_6, k43_7, b43_7, e_iconst, e_lconst, e_null, e_ldc, e_iload0i, e_iload1i, e_iload2i, e_iload3i, e_iload4i, e_iload5i, e_iload6i, e_iload7i, e_iload8i, e_iload9i, e_iload10i, e_lload0l, e_lload1l, e_lload2l, e_lload3l, e_lload4l, e_lload5l, e_lload6l, e_lload7l, e_lload8l, e_lload9l, e_lload10l, e_aload0r, e_aload1r, e_aload2r, e_aload3r, e_aload4r, e_aload5r, e_aload6r, e_aload7r, e_aload8r, e_aload9r, e_aload10r, e_aload0n, e_aload1n, e_aload2n, e_aload3n, e_aload4n, e_aload5n, e_aload6n, e_aload7n, e_aload8n, e_aload9n, e_aload10n, e_aload0f, e_aload1f, e_aload2f, e_aload3f, e_aload4f, e_aload5f, e_aload6f, e_aload7f, e_aload8f, e_aload9f, e_aload10f, e_iinc0, e_iinc1, e_iinc2, e_iinc3, e_iinc4, e_iinc5, e_iinc6, e_iinc7, e_iinc8, e_iinc9, e_iinc10, xst_0, xst_1i, xst2_1i, xst_1r, xst2_1r, xst_1n, xst2_1n, xst_1f, xst2_1f, xst_1u, xst2_1u, xst_1l, xst2_1l, xst2_0, xst_s, xst2_s, e_istore, e_lstore, e_astore, e_astoreN, e_iadd, e_isub, e_imul, e_iand, e_ior, e_ixor, e_ishl, e_ishr, e_iushr, e_ladd, e_lsub, e_lmul, e_land, e_lor, e_lshl, e_lcmp, e_i2l, e_l2i, e_i2b, e_ineg, e_dupi, e_dupr, e_dup2, e_popi, e_popr, e_idiv, e_irem, e_ldiv, e_lrem, e_ifCond, e_if_icmp, e_ifnullR, e_ifnullN, e_ifnonnullR, e_ifnonnullN, e_goto, e_jsr, e_tsw, e_lsw, e_getfield, e_dload, e_fload, e_putfield, e_dstore, e_fstore, e_fstoreN, e_monitor, e_new, e_newarray, e_anewarray, e_mnew, e_alen, e_slen, e_schr, e_alenF, e_iaload, e_ialoadF, e_baload, e_laload, e_aaload, e_iastore, e_lastore, e_aastore, e_bastoreB, e_bastoreZ, e_copy, e_ireturnI, e_ireturnZ0, e_ireturnZ1, e_ireturnZb, e_lreturn, e_areturn, e_areturnA, e_areturnN, e_return, ofI, ofIm, ofJ, cat_i, cat_l, cat_r, cat_f, cat_n, xent_0, xent_i, xent_l, xent_r, xent_n, xent_f, xentry, xrf_s, xrf_n, List.getD_cons_zero, List.getD_cons_succ, List.length_cons, List.length_nil, List.cons_append, List.nil_append, List.append_nil, List.map_cons, List.map_nil, List.sum_cons, List.sum_nil, List.replicate, oT_s, oT_n, true_and, and_true, Nat.reduceAdd, Nat.reduceSub, Nat.reduceLeDiff, Nat.reduceEqDiff, Nat.reduceLT, Nat.reduceDiv, Nat.reduceMod, Nat.reduceMul, eq_self, ofN, nI_dec, nI_11, or_true, true_or, false_or, or_false, nI_e0, nI_0lt, Nat.succ_ne_zero, Nat.zero_lt_succ, lg_cmp_gt, lg_cmp_lt, lg_cmp_eq, nI_lt0, nI_add, pk_sub, pk_mul, Nat.add_sub_cancel, nI_clamp, vp_in_T, nI_ltI, nI_leI, nI_eqI, Nat.zero_add, Nat.add_zero, xc_eq, xc_ne, xc_lt, xc_ge, xc_gt, xc_le, bI_0, bI_0n, bI_n0, not_true_eq_false, not_false_eq_true, if_true, if_false, ite_true, ite_false, decide_true, decide_false, and_self, and_true, true_and, k43_2, k43_8, k43_9, k43_12, q1, q2, q3, q4, q5, q6, q7, al_i q4, e1, e2, e3, e4, ev, n1, worthF, show ¬ (27 : Nat) < 12 by decide, show (27 : Nat) < 32 by decide, show ¬ (27 : Nat) = 26 by decide]
    · have ev0 : valOf (xJ h wd) t = lN 0 := by
        rcases v3 rfl with z | z
        · exact z
        · exact absurd z ev
      refine ⟨h4, p1, fun Q => ?_⟩
      have g4 := g3 Q
      have f4 := f3 Q
      simp only [List.length_nil, List.length_cons, List.cons_append, List.nil_append] at g4 f4
      rw [g4, f4]
      conv => lhs; rw [b43_1]
      have n1 : ¬ lN 0 = lN 1 := by decide
      simp (disch := omega) only [k43_6, b43_6, k43_7, b43_7, k43_8, b43_8, k43_11, b43_11, e_iconst, e_lconst, e_null, e_ldc, e_iload0i, e_iload1i, e_iload2i, e_iload3i, e_iload4i, e_iload5i, e_iload6i, e_iload7i, e_iload8i, e_iload9i, e_iload10i, e_lload0l, e_lload1l, e_lload2l, e_lload3l, e_lload4l, e_lload5l, e_lload6l, e_lload7l, e_lload8l, e_lload9l, e_lload10l, e_aload0r, e_aload1r, e_aload2r, e_aload3r, e_aload4r, e_aload5r, e_aload6r, e_aload7r, e_aload8r, e_aload9r, e_aload10r, e_aload0n, e_aload1n, e_aload2n, e_aload3n, e_aload4n, e_aload5n, e_aload6n, e_aload7n, e_aload8n, e_aload9n, e_aload10n, e_aload0f, e_aload1f, e_aload2f, e_aload3f, e_aload4f, e_aload5f, e_aload6f, e_aload7f, e_aload8f, e_aload9f, e_aload10f, e_iinc0, e_iinc1, e_iinc2, e_iinc3, e_iinc4, e_iinc5, e_iinc6, e_iinc7, e_iinc8, e_iinc9, e_iinc10, xst_0, xst_1i, xst2_1i, xst_1r, xst2_1r, xst_1n, xst2_1n, xst_1f, xst2_1f, xst_1u, xst2_1u, xst_1l, xst2_1l, xst2_0, xst_s, xst2_s, e_istore, e_lstore, e_astore, e_astoreN, e_iadd, e_isub, e_imul, e_iand, e_ior, e_ixor, e_ishl, e_ishr, e_iushr, e_ladd, e_lsub, e_lmul, e_land, e_lor, e_lshl, e_lcmp, e_i2l, e_l2i, e_i2b, e_ineg, e_dupi, e_dupr, e_dup2, e_popi, e_popr, e_idiv, e_irem, e_ldiv, e_lrem, e_ifCond, e_if_icmp, e_ifnullR, e_ifnullN, e_ifnonnullR, e_ifnonnullN, e_goto, e_jsr, e_tsw, e_lsw, e_getfield, e_dload, e_fload, e_putfield, e_dstore, e_fstore, e_fstoreN, e_monitor, e_new, e_newarray, e_anewarray, e_mnew, e_alen, e_slen, e_schr, e_alenF, e_iaload, e_ialoadF, e_baload, e_laload, e_aaload, e_iastore, e_lastore, e_aastore, e_bastoreB, e_bastoreZ, e_copy, e_ireturnI, e_ireturnZ0, e_ireturnZ1, e_ireturnZb, e_lreturn, e_areturn, e_areturnA, e_areturnN, e_return, ofI, ofIm, ofJ, cat_i, cat_l, cat_r, cat_f, cat_n, xent_0, xent_i, xent_l, xent_r, xent_n, xent_f, xentry, xrf_s, xrf_n, List.getD_cons_zero, List.getD_cons_succ, List.length_cons, List.length_nil, List.cons_append, List.nil_append, List.append_nil, List.map_cons, List.map_nil, List.sum_cons, List.sum_nil, List.replicate, oT_s, oT_n, true_and, and_true, Nat.reduceAdd, Nat.reduceSub, Nat.reduceLeDiff, Nat.reduceEqDiff, Nat.reduceLT, Nat.reduceDiv, Nat.reduceMod, Nat.reduceMul, eq_self, ofN, nI_dec, nI_11, or_true, true_or, false_or, or_false, nI_e0, nI_0lt, Nat.succ_ne_zero, Nat.zero_lt_succ, lg_cmp_gt, lg_cmp_lt, lg_cmp_eq, nI_lt0, nI_add, pk_sub, pk_mul, Nat.add_sub_cancel, nI_clamp, vp_in_T, nI_ltI, nI_leI, nI_eqI, Nat.zero_add, Nat.add_zero, xc_eq, xc_ne, xc_lt, xc_ge, xc_gt, xc_le, bI_0, bI_0n, bI_n0, not_true_eq_false, not_false_eq_true, if_true, if_false, ite_true, ite_false, decide_true, decide_false, and_self, and_true, true_and, k43_1, k43_2, k43_9, k43_12, q1, q2, q3, q4, q5, q6, q7, al_i q4, e1, e2, e3, e4, ev0, n1, worthF, show ¬ (27 : Nat) < 12 by decide, show (27 : Nat) < 32 by decide, show ¬ (27 : Nat) = 26 by decide, p2 Q]
theorem c_worth (hw1 : xis h wd (.inl .long)) (hw2 : xlen h wd = 12) (hm : m ≤ 400) (hr : RuleC h r c st m) {cls : List Cl} (hc : CodeC (xI h c) 0 cls) (hok : clsOK cls) (hl : clsLen cls = m) : ∃ h1, JFr st h h1 ∧ ∀ Q, Call (pG L xs) pM (d + 2) 43 [.ref r, .ref wd] h Q = Q (some (.long (worthF (xJ h wd) cls))) h1 := by
  have hne : wd ≠ st := by
    intro e
    have := hr.2.2.2.2.2.1
    rw [← e, hw2] at this
    omega
  obtain ⟨h1, g1, g2⟩ := w_clauses (L := L) (d := d) (xs := xs) hw1 hw2 hne hm hr cls 0 h none JFr.rf hc hok (by omega)
  refine ⟨h1, g1, fun Q => ?_⟩
  simp (disch := omega) only [m43, b43_0, e_iconst, e_lconst, e_null, e_ldc, e_iload0i, e_iload1i, e_iload2i, e_iload3i, e_iload4i, e_iload5i, e_iload6i, e_iload7i, e_iload8i, e_iload9i, e_iload10i, e_lload0l, e_lload1l, e_lload2l, e_lload3l, e_lload4l, e_lload5l, e_lload6l, e_lload7l, e_lload8l, e_lload9l, e_lload10l, e_aload0r, e_aload1r, e_aload2r, e_aload3r, e_aload4r, e_aload5r, e_aload6r, e_aload7r, e_aload8r, e_aload9r, e_aload10r, e_aload0n, e_aload1n, e_aload2n, e_aload3n, e_aload4n, e_aload5n, e_aload6n, e_aload7n, e_aload8n, e_aload9n, e_aload10n, e_aload0f, e_aload1f, e_aload2f, e_aload3f, e_aload4f, e_aload5f, e_aload6f, e_aload7f, e_aload8f, e_aload9f, e_aload10f, e_iinc0, e_iinc1, e_iinc2, e_iinc3, e_iinc4, e_iinc5, e_iinc6, e_iinc7, e_iinc8, e_iinc9, e_iinc10, xst_0, xst_1i, xst2_1i, xst_1r, xst2_1r, xst_1n, xst2_1n, xst_1f, xst2_1f, xst_1u, xst2_1u, xst_1l, xst2_1l, xst2_0, xst_s, xst2_s, e_istore, e_lstore, e_astore, e_astoreN, e_iadd, e_isub, e_imul, e_iand, e_ior, e_ixor, e_ishl, e_ishr, e_iushr, e_ladd, e_lsub, e_lmul, e_land, e_lor, e_lshl, e_lcmp, e_i2l, e_l2i, e_i2b, e_ineg, e_dupi, e_dupr, e_dup2, e_popi, e_popr, e_idiv, e_irem, e_ldiv, e_lrem, e_ifCond, e_if_icmp, e_ifnullR, e_ifnullN, e_ifnonnullR, e_ifnonnullN, e_goto, e_jsr, e_tsw, e_lsw, e_getfield, e_dload, e_fload, e_putfield, e_dstore, e_fstore, e_fstoreN, e_monitor, e_new, e_newarray, e_anewarray, e_mnew, e_alen, e_slen, e_schr, e_alenF, e_iaload, e_ialoadF, e_baload, e_laload, e_aaload, e_iastore, e_lastore, e_aastore, e_bastoreB, e_bastoreZ, e_copy, e_ireturnI, e_ireturnZ0, e_ireturnZ1, e_ireturnZb, e_lreturn, e_areturn, e_areturnA, e_areturnN, e_return, ofI, ofIm, ofJ, cat_i, cat_l, cat_r, cat_f, cat_n, xent_0, xent_i, xent_l, xent_r, xent_n, xent_f, xentry, xrf_s, xrf_n, List.getD_cons_zero, List.getD_cons_succ, List.length_cons, List.length_nil, List.cons_append, List.nil_append, List.append_nil, List.map_cons, List.map_nil, List.sum_cons, List.sum_nil, List.replicate, oT_s, oT_n, true_and, and_true, Nat.reduceAdd, Nat.reduceSub, Nat.reduceLeDiff, Nat.reduceEqDiff, Nat.reduceLT, Nat.reduceDiv, Nat.reduceMod, Nat.reduceMul, eq_self, ofN, nI_dec, nI_11, or_true, true_or, false_or, or_false, nI_e0, nI_0lt, Nat.succ_ne_zero, Nat.zero_lt_succ, lg_cmp_gt, lg_cmp_lt, lg_cmp_eq, nI_lt0, nI_add, pk_sub, pk_mul, Nat.add_sub_cancel, nI_clamp, vp_in_T, nI_ltI, nI_leI, nI_eqI, Nat.zero_add, Nat.add_zero, xc_eq, xc_ne, xc_lt, xc_ge, xc_gt, xc_le, bI_0, bI_0n, bI_n0, not_true_eq_false, not_false_eq_true, if_true, if_false, ite_true, ite_false, decide_true, decide_false, and_self, and_true, true_and, k43_1]
  exact g2 Q
end WO
