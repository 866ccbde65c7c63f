section LX
variable {L d : Nat} {xs : Nat → Int32} {h h1 : xH} {Q : xQ} {p o n w t k : Nat} {x y z fo xx : Int32} {T : Nat} {tp : Nat → Int32} {R : List (List Cl)} {σ σ' : Sn} {u u' : Nat} {H H' : Nat → Nat → Int32} {ι : Nat → Option Sn} {s s' f g : Nat → Int32}
variable {i m : Nat}
theorem and63 (x : Int32) : ∃ m, m < 64 ∧ x &&& nI 63 = nI m := by
  refine ⟨x.toBitVec.toNat % 64, Nat.mod_lt _ (by decide), ?_⟩
  apply Int32.toBitVec_inj.mp
  apply BitVec.eq_of_toNat_eq
  rw [Int32.toBitVec_and, BitVec.toNat_and]
  show x.toBitVec.toNat &&& 63 = (BitVec.ofNat 32 (x.toBitVec.toNat % 64)).toNat
  rw [BitVec.toNat_ofNat, Nat.mod_eq_of_lt (by omega)]
  exact Nat.and_two_pow_sub_one_eq_mod _ 6
theorem lt_6 (hL : L ≤ 3072) (hi : i ≤ 4000) : (nI L - nI 6 < nI i) = (L < i + 6) := by
  by_cases q : 6 ≤ L
  · rw [pk_sub q, nI_ltI (by omega) (by omega)]
    exact propext ⟨fun z => by omega, fun z => by omega⟩
  · refine (eq_true ?_).trans (eq_true (show L < i + 6 by omega)).symm
    have h0 : ¬ nI i < 0 := by rw [nI_lt0 (by omega)]; exact id
    have h1 : ∀ l, l < 6 → nI l - nI 6 < 0 := by decide
    exact Int32.lt_of_lt_of_le (h1 L (by omega)) (Int32.not_lt.mp h0)
def blT (m : Nat) : Nat := if m < 34 then m + 2 else 36
theorem t_law : ∀ m, m < 64 → xsw (.ofNat 36) 0 33 #[.ofNat 2, .ofNat 3, .ofNat 4, .ofNat 5, .ofNat 6, .ofNat 7, .ofNat 8, .ofNat 9, .ofNat 10, .ofNat 11, .ofNat 12, .ofNat 13, .ofNat 14, .ofNat 15, .ofNat 16, .ofNat 17, .ofNat 18, .ofNat 19, .ofNat 20, .ofNat 21, .ofNat 22, .ofNat 23, .ofNat 24, .ofNat 25, .ofNat 26, .ofNat 27, .ofNat 28, .ofNat 29, .ofNat 30, .ofNat 31, .ofNat 32, .ofNat 33, .ofNat 34, .ofNat 35] (nI m) = Int.toNat (.ofNat (blT m)) := by decide +kernel
theorem l_head (hi : i + 6 ≤ L) (hL : L ≤ 3072) {k : Nat} (e : xsw (.ofNat 36) 0 33 #[.ofNat 2, .ofNat 3, .ofNat 4, .ofNat 5, .ofNat 6, .ofNat 7, .ofNat 8, .ofNat 9, .ofNat 10, .ofNat 11, .ofNat 12, .ofNat 13, .ofNat 14, .ofNat 15, .ofNat 16, .ofNat 17, .ofNat 18, .ofNat 19, .ofNat 20, .ofNat 21, .ofNat 22, .ofNat 23, .ofNat 24, .ofNat 25, .ofNat 26, .ofNat 27, .ofNat 28, .ofNat 29, .ofNat 30, .ofNat 31, .ofNat 32, .ofNat 33, .ofNat 34, .ofNat 35] (xs i &&& nI 63) = Int.toNat (.ofNat k)) : Ev (pG L xs) pM (d + 40) bL (some .boolean) Q bL_1 [some (.float 0), some (.ref 0), some (.ref 127), some (.int (nI i))] [] h = Ev (pG L xs) pM (d + 40) bL (some .boolean) Q (bL (Int.toNat (.ofNat k))) [some (.float 0), some (.ref 0), some (.ref 127), some (.int (nI i))] [] h := by
  have q := (lt_6 (i := i) hL (by omega)).trans (eq_false (show ¬ L < i + 6 by omega))
  have iL : i < L := by omega
  have q2 : (L - 6 < i) = False := eq_false (by omega)
  conv => lhs; rw [bL_1]
  simp (disch := omega) only [e_iconst, e_lconst, e_null, e_ldc, e_iload0i, e_iload1i, e_iload2i, e_iload3i, e_iload4i, e_iload5i, e_iload6i, e_iload7i, e_iload8i, e_iload9i, e_iload10i, e_lload0l, e_lload1l, e_lload2l, e_lload3l, e_lload4l, e_lload5l, e_lload6l, e_lload7l, e_lload8l, e_lload9l, e_lload10l, e_aload0r, e_aload1r, e_aload2r, e_aload3r, e_aload4r, e_aload5r, e_aload6r, e_aload7r, e_aload8r, e_aload9r, e_aload10r, e_aload0n, e_aload1n, e_aload2n, e_aload3n, e_aload4n, e_aload5n, e_aload6n, e_aload7n, e_aload8n, e_aload9n, e_aload10n, e_aload0f, e_aload1f, e_aload2f, e_aload3f, e_aload4f, e_aload5f, e_aload6f, e_aload7f, e_aload8f, e_aload9f, e_aload10f, e_iinc0, e_iinc1, e_iinc2, e_iinc3, e_iinc4, e_iinc5, e_iinc6, e_iinc7, e_iinc8, e_iinc9, e_iinc10, xst_0, xst_1i, xst2_1i, xst_1r, xst2_1r, xst_1n, xst2_1n, xst_1f, xst2_1f, xst_1u, xst2_1u, xst_1l, xst2_1l, xst2_0, xst_s, xst2_s, e_istore, e_lstore, e_astore, e_astoreN, e_iadd, e_isub, e_imul, e_iand, e_ior, e_ixor, e_ishl, e_ishr, e_iushr, e_ladd, e_lsub, e_lmul, e_land, e_lor, e_lshl, e_lcmp, e_i2l, e_l2i, e_i2b, e_ineg, e_dupi, e_dupr, e_dup2, e_popi, e_popr, e_idiv, e_irem, e_ldiv, e_lrem, e_ifCond, e_if_icmp, e_ifnullR, e_ifnullN, e_ifnonnullR, e_ifnonnullN, e_goto, e_jsr, e_tsw, e_lsw, e_getfield, e_dload, e_fload, e_putfield, e_dstore, e_fstore, e_fstoreN, e_monitor, e_new, e_newarray, e_anewarray, e_mnew, e_alen, e_slen, e_schr, e_alenF, e_iaload, e_ialoadF, e_baload, e_laload, e_aaload, e_iastore, e_lastore, e_aastore, e_bastoreB, e_bastoreZ, e_copy, e_ireturnI, e_ireturnZ0, e_ireturnZ1, e_ireturnZb, e_lreturn, e_areturn, e_areturnA, e_areturnN, e_return, ofI, ofIm, ofJ, cat_i, cat_l, cat_r, cat_f, cat_n, xent_0, xent_i, xent_l, xent_r, xent_n, xent_f, xentry, xrf_s, xrf_n, List.getD_cons_zero, List.getD_cons_succ, List.length_cons, List.length_nil, List.cons_append, List.nil_append, List.append_nil, List.map_cons, List.map_nil, List.sum_cons, List.sum_nil, List.replicate, oT_s, oT_n, true_and, and_true, Nat.reduceAdd, Nat.reduceSub, Nat.reduceLeDiff, Nat.reduceEqDiff, Nat.reduceLT, Nat.reduceDiv, Nat.reduceMod, Nat.reduceMul, eq_self, ofN, nI_dec, nI_11, or_true, true_or, false_or, or_false, nI_e0, nI_0lt, Nat.succ_ne_zero, Nat.zero_lt_succ, lg_cmp_gt, lg_cmp_lt, lg_cmp_eq, nI_lt0, nI_add, pk_sub, pk_mul, Nat.add_sub_cancel, nI_clamp, vp_in_T, nI_ltI, nI_leI, nI_eqI, Nat.zero_add, Nat.add_zero, xc_eq, xc_ne, xc_lt, xc_ge, xc_gt, xc_le, bI_0, bI_0n, bI_n0, not_true_eq_false, not_false_eq_true, if_true, if_false, ite_true, ite_false, decide_true, decide_false, and_self, and_true, true_and, Bool.not_false, Bool.not_true, Bool.true_and, Bool.and_true, Bool.false_and, Bool.and_false, Bool.and_self, Bool.true_eq_false, Bool.false_eq_true, decide_true, decide_false, not_true_eq_false, not_false_eq_true, eq_self, pG_L, pG_x, q, q2, e, if_false]
theorem l_step (hr : Rel h) (hi : i + 6 ≤ L) (hL : L ≤ 3072) : ∃ h2, Rel h2 ∧ ∀ Q, Ev (pG L xs) pM (d + 40) bL (some .boolean) Q bL_1 [some (.float 0), some (.ref 0), some (.ref 127), some (.int (nI i))] [] h = Ev (pG L xs) pM (d + 40) bL (some .boolean) Q bL_1 [some (.float 0), some (.ref 0), some (.ref 127), some (.int (nI (i + 6)))] [] h2 := by
  obtain ⟨m, m64, em⟩ := and63 (xs i)
  have et := t_law m m64
  rw [← em] at et
  have hd := fun (h : xH) (Q : xQ) => l_head (L := L) (d := d) (xs := xs) (i := i) (h := h) (Q := Q) hi hL et
  clear em et
  by_cases q : m < 34
  · have eb : blT m = m + 2 := if_pos q
    rw [eb] at hd
    have cs : m = 0 ∨ m = 1 ∨ m = 2 ∨ m = 3 ∨ m = 4 ∨ m = 5 ∨ m = 6 ∨ m = 7 ∨ m = 8 ∨ m = 9 ∨ m = 10 ∨ m = 11 ∨ m = 12 ∨ m = 13 ∨ m = 14 ∨ m = 15 ∨ m = 16 ∨ m = 17 ∨ m = 18 ∨ m = 19 ∨ m = 20 ∨ m = 21 ∨ m = 22 ∨ m = 23 ∨ m = 24 ∨ m = 25 ∨ m = 26 ∨ m = 27 ∨ m = 28 ∨ m = 29 ∨ m = 30 ∨ m = 31 ∨ m = 32 ∨ m = 33 := by omega
    rcases cs with rfl | rfl | rfl | rfl | rfl | rfl | rfl | rfl | rfl | rfl | rfl | rfl | rfl | rfl | rfl | rfl | rfl | rfl | rfl | rfl | rfl | rfl | rfl | rfl | rfl | rfl | rfl | rfl | rfl | rfl | rfl | rfl | rfl | rfl
    · obtain ⟨h2, r2, c2⟩ := l_feed (L := L) (d := d) (xs := xs) hr hi hL
      exact ⟨h2, r2, fun Q => (hd h Q).trans (c2 Q)⟩
    · obtain ⟨h2, r2, c2⟩ := l_end (L := L) (d := d) (xs := xs) hr hi hL
      exact ⟨h2, r2, fun Q => (hd h Q).trans (c2 Q)⟩
    · obtain ⟨h2, r2, c2⟩ := l_ford (L := L) (d := d) (xs := xs) hr hi hL
      exact ⟨h2, r2, fun Q => (hd h Q).trans (c2 Q)⟩
    · obtain ⟨h2, r2, c2⟩ := l_rule (L := L) (d := d) (xs := xs) hr hi hL
      exact ⟨h2, r2, fun Q => (hd h Q).trans (c2 Q)⟩
    · obtain ⟨h2, r2, c2⟩ := l_force (L := L) (d := d) (xs := xs) hr hi hL
      exact ⟨h2, r2, fun Q => (hd h Q).trans (c2 Q)⟩
    · obtain ⟨h2, r2, c2⟩ := l_person (L := L) (d := d) (xs := xs) hr hi hL
      exact ⟨h2, r2, fun Q => (hd h Q).trans (c2 Q)⟩
    · obtain ⟨h2, r2, c2⟩ := l_thinks (L := L) (d := d) (xs := xs) hr hi hL
      exact ⟨h2, r2, fun Q => (hd h Q).trans (c2 Q)⟩
    · obtain ⟨h2, r2, c2⟩ := l_depth (L := L) (d := d) (xs := xs) hr hi hL
      exact ⟨h2, r2, fun Q => (hd h Q).trans (c2 Q)⟩
    · obtain ⟨h2, r2, c2⟩ := l_day (L := L) (d := d) (xs := xs) hr hi hL
      exact ⟨h2, r2, fun Q => (hd h Q).trans (c2 Q)⟩
    · obtain ⟨h2, r2, c2⟩ := l_cross (L := L) (d := d) (xs := xs) hr hi hL
      exact ⟨h2, r2, fun Q => (hd h Q).trans (c2 Q)⟩
    · obtain ⟨h2, r2, c2⟩ := l_remark (L := L) (d := d) (xs := xs) hr hi hL
      exact ⟨h2, r2, fun Q => (hd h Q).trans (c2 Q)⟩
    · obtain ⟨h2, r2, c2⟩ := l_pay (L := L) (d := d) (xs := xs) hr hi hL
      exact ⟨h2, r2, fun Q => (hd h Q).trans (c2 Q)⟩
    · obtain ⟨h2, r2, c2⟩ := l_flood (L := L) (d := d) (xs := xs) hr hi hL
      exact ⟨h2, r2, fun Q => (hd h Q).trans (c2 Q)⟩
    · obtain ⟨h2, r2, c2⟩ := l_undo (L := L) (d := d) (xs := xs) hr hi hL
      exact ⟨h2, r2, fun Q => (hd h Q).trans (c2 Q)⟩
    · obtain ⟨h2, r2, c2⟩ := l_ahead (L := L) (d := d) (xs := xs) hr hi hL
      exact ⟨h2, r2, fun Q => (hd h Q).trans (c2 Q)⟩
    · obtain ⟨h2, r2, c2⟩ := l_over (L := L) (d := d) (xs := xs) hr hi hL
      exact ⟨h2, r2, fun Q => (hd h Q).trans (c2 Q)⟩
    · obtain ⟨h2, r2, c2⟩ := l_most (L := L) (d := d) (xs := xs) hr hi hL
      exact ⟨h2, r2, fun Q => (hd h Q).trans (c2 Q)⟩
    · obtain ⟨h2, r2, c2⟩ := l_fewest (L := L) (d := d) (xs := xs) hr hi hL
      exact ⟨h2, r2, fun Q => (hd h Q).trans (c2 Q)⟩
    · obtain ⟨h2, r2, c2⟩ := l_ring (L := L) (d := d) (xs := xs) hr hi hL
      exact ⟨h2, r2, fun Q => (hd h Q).trans (c2 Q)⟩
    · obtain ⟨h2, r2, c2⟩ := l_oneRemark (L := L) (d := d) (xs := xs) hr hi hL
      exact ⟨h2, r2, fun Q => (hd h Q).trans (c2 Q)⟩
    · obtain ⟨h2, r2, c2⟩ := l_rise (L := L) (d := d) (xs := xs) hr hi hL
      exact ⟨h2, r2, fun Q => (hd h Q).trans (c2 Q)⟩
    · obtain ⟨h2, r2, c2⟩ := l_fair (L := L) (d := d) (xs := xs) hr hi hL
      exact ⟨h2, r2, fun Q => (hd h Q).trans (c2 Q)⟩
    · obtain ⟨h2, r2, c2⟩ := l_self (L := L) (d := d) (xs := xs) hr hi hL
      exact ⟨h2, r2, fun Q => (hd h Q).trans (c2 Q)⟩
    · obtain ⟨h2, r2, c2⟩ := l_hired (L := L) (d := d) (xs := xs) hr hi hL
      exact ⟨h2, r2, fun Q => (hd h Q).trans (c2 Q)⟩
    · obtain ⟨h2, r2, c2⟩ := l_rests (L := L) (d := d) (xs := xs) hr hi hL
      exact ⟨h2, r2, fun Q => (hd h Q).trans (c2 Q)⟩
    · obtain ⟨h2, r2, c2⟩ := l_price (L := L) (d := d) (xs := xs) hr hi hL
      exact ⟨h2, r2, fun Q => (hd h Q).trans (c2 Q)⟩
    · obtain ⟨h2, r2, c2⟩ := l_note (L := L) (d := d) (xs := xs) hr hi hL
      exact ⟨h2, r2, fun Q => (hd h Q).trans (c2 Q)⟩
    · obtain ⟨h2, r2, c2⟩ := l_ruled (L := L) (d := d) (xs := xs) hr hi hL
      exact ⟨h2, r2, fun Q => (hd h Q).trans (c2 Q)⟩
    · obtain ⟨h2, r2, c2⟩ := l_look (L := L) (d := d) (xs := xs) hr hi hL
      exact ⟨h2, r2, fun Q => (hd h Q).trans (c2 Q)⟩
    · obtain ⟨h2, r2, c2⟩ := l_seed (L := L) (d := d) (xs := xs) hr hi hL
      exact ⟨h2, r2, fun Q => (hd h Q).trans (c2 Q)⟩
    · obtain ⟨h2, r2, c2⟩ := l_fairs (L := L) (d := d) (xs := xs) hr hi hL
      exact ⟨h2, r2, fun Q => (hd h Q).trans (c2 Q)⟩
    · obtain ⟨h2, r2, c2⟩ := l_count (L := L) (d := d) (xs := xs) hr hi hL
      exact ⟨h2, r2, fun Q => (hd h Q).trans (c2 Q)⟩
    · obtain ⟨h2, r2, c2⟩ := l_image (L := L) (d := d) (xs := xs) hr hi hL
      exact ⟨h2, r2, fun Q => (hd h Q).trans (c2 Q)⟩
    · obtain ⟨h2, r2, c2⟩ := l_back (L := L) (d := d) (xs := xs) hr hi hL
      exact ⟨h2, r2, fun Q => (hd h Q).trans (c2 Q)⟩
  · have eb : blT m = 36 := if_neg q
    rw [eb] at hd
    refine ⟨h, hr, fun Q => (hd h Q).trans ?_⟩
    rw [kL_36, bL_36]
    simp (disch := omega) only [kL_1, e_iconst, e_lconst, e_null, e_ldc, e_iload0i, e_iload1i, e_iload2i, e_iload3i, e_iload4i, e_iload5i, e_iload6i, e_iload7i, e_iload8i, e_iload9i, e_iload10i, e_lload0l, e_lload1l, e_lload2l, e_lload3l, e_lload4l, e_lload5l, e_lload6l, e_lload7l, e_lload8l, e_lload9l, e_lload10l, e_aload0r, e_aload1r, e_aload2r, e_aload3r, e_aload4r, e_aload5r, e_aload6r, e_aload7r, e_aload8r, e_aload9r, e_aload10r, e_aload0n, e_aload1n, e_aload2n, e_aload3n, e_aload4n, e_aload5n, e_aload6n, e_aload7n, e_aload8n, e_aload9n, e_aload10n, e_aload0f, e_aload1f, e_aload2f, e_aload3f, e_aload4f, e_aload5f, e_aload6f, e_aload7f, e_aload8f, e_aload9f, e_aload10f, e_iinc0, e_iinc1, e_iinc2, e_iinc3, e_iinc4, e_iinc5, e_iinc6, e_iinc7, e_iinc8, e_iinc9, e_iinc10, xst_0, xst_1i, xst2_1i, xst_1r, xst2_1r, xst_1n, xst2_1n, xst_1f, xst2_1f, xst_1u, xst2_1u, xst_1l, xst2_1l, xst2_0, xst_s, xst2_s, e_istore, e_lstore, e_astore, e_astoreN, e_iadd, e_isub, e_imul, e_iand, e_ior, e_ixor, e_ishl, e_ishr, e_iushr, e_ladd, e_lsub, e_lmul, e_land, e_lor, e_lshl, e_lcmp, e_i2l, e_l2i, e_i2b, e_ineg, e_dupi, e_dupr, e_dup2, e_popi, e_popr, e_idiv, e_irem, e_ldiv, e_lrem, e_ifCond, e_if_icmp, e_ifnullR, e_ifnullN, e_ifnonnullR, e_ifnonnullN, e_goto, e_jsr, e_tsw, e_lsw, e_getfield, e_dload, e_fload, e_putfield, e_dstore, e_fstore, e_fstoreN, e_monitor, e_new, e_newarray, e_anewarray, e_mnew, e_alen, e_slen, e_schr, e_alenF, e_iaload, e_ialoadF, e_baload, e_laload, e_aaload, e_iastore, e_lastore, e_aastore, e_bastoreB, e_bastoreZ, e_copy, e_ireturnI, e_ireturnZ0, e_ireturnZ1, e_ireturnZb, e_lreturn, e_areturn, e_areturnA, e_areturnN, e_return, ofI, ofIm, ofJ, cat_i, cat_l, cat_r, cat_f, cat_n, xent_0, xent_i, xent_l, xent_r, xent_n, xent_f, xentry, xrf_s, xrf_n, List.getD_cons_zero, List.getD_cons_succ, List.length_cons, List.length_nil, List.cons_append, List.nil_append, List.append_nil, List.map_cons, List.map_nil, List.sum_cons, List.sum_nil, List.replicate, oT_s, oT_n, true_and, and_true, Nat.reduceAdd, Nat.reduceSub, Nat.reduceLeDiff, Nat.reduceEqDiff, Nat.reduceLT, Nat.reduceDiv, Nat.reduceMod, Nat.reduceMul, eq_self, ofN, nI_dec, nI_11, or_true, true_or, false_or, or_false, nI_e0, nI_0lt, Nat.succ_ne_zero, Nat.zero_lt_succ, lg_cmp_gt, lg_cmp_lt, lg_cmp_eq, nI_lt0, nI_add, pk_sub, pk_mul, Nat.add_sub_cancel, nI_clamp, vp_in_T, nI_ltI, nI_leI, nI_eqI, Nat.zero_add, Nat.add_zero, xc_eq, xc_ne, xc_lt, xc_ge, xc_gt, xc_le, bI_0, bI_0n, bI_n0, not_true_eq_false, not_false_eq_true, if_true, if_false, ite_true, ite_false, decide_true, decide_false, and_self, and_true, true_and]
theorem l_done (hi : L < i + 6) (hi2 : i ≤ 4000) (hL : L ≤ 3072) : Ev (pG L xs) pM (d + 40) bL (some .boolean) Q bL_1 [some (.float 0), some (.ref 0), some (.ref 127), some (.int (nI i))] [] h = Q (some (.int 1)) h := by
  have q := (lt_6 (i := i) hL hi2).trans (eq_true hi)
  conv => lhs; rw [bL_1]
  simp (disch := omega) only [kL_37, bL_37, e_iconst, e_lconst, e_null, e_ldc, e_iload0i, e_iload1i, e_iload2i, e_iload3i, e_iload4i, e_iload5i, e_iload6i, e_iload7i, e_iload8i, e_iload9i, e_iload10i, e_lload0l, e_lload1l, e_lload2l, e_lload3l, e_lload4l, e_lload5l, e_lload6l, e_lload7l, e_lload8l, e_lload9l, e_lload10l, e_aload0r, e_aload1r, e_aload2r, e_aload3r, e_aload4r, e_aload5r, e_aload6r, e_aload7r, e_aload8r, e_aload9r, e_aload10r, e_aload0n, e_aload1n, e_aload2n, e_aload3n, e_aload4n, e_aload5n, e_aload6n, e_aload7n, e_aload8n, e_aload9n, e_aload10n, e_aload0f, e_aload1f, e_aload2f, e_aload3f, e_aload4f, e_aload5f, e_aload6f, e_aload7f, e_aload8f, e_aload9f, e_aload10f, e_iinc0, e_iinc1, e_iinc2, e_iinc3, e_iinc4, e_iinc5, e_iinc6, e_iinc7, e_iinc8, e_iinc9, e_iinc10, xst_0, xst_1i, xst2_1i, xst_1r, xst2_1r, xst_1n, xst2_1n, xst_1f, xst2_1f, xst_1u, xst2_1u, xst_1l, xst2_1l, xst2_0, xst_s, xst2_s, e_istore, e_lstore, e_astore, e_astoreN, e_iadd, e_isub, e_imul, e_iand, e_ior, e_ixor, e_ishl, e_ishr, e_iushr, e_ladd, e_lsub, e_lmul, e_land, e_lor, e_lshl, e_lcmp, e_i2l, e_l2i, e_i2b, e_ineg, e_dupi, e_dupr, e_dup2, e_popi, e_popr, e_idiv, e_irem, e_ldiv, e_lrem, e_ifCond, e_if_icmp, e_ifnullR, e_ifnullN, e_ifnonnullR, e_ifnonnullN, e_goto, e_jsr, e_tsw, e_lsw, e_getfield, e_dload, e_fload, e_putfield, e_dstore, e_fstore, e_fstoreN, e_monitor, e_new, e_newarray, e_anewarray, e_mnew, e_alen, e_slen, e_schr, e_alenF, e_iaload, e_ialoadF, e_baload, e_laload, e_aaload, e_iastore, e_lastore, e_aastore, e_bastoreB, e_bastoreZ, e_copy, e_ireturnI, e_ireturnZ0, e_ireturnZ1, e_ireturnZb, e_lreturn, e_areturn, e_areturnA, e_areturnN, e_return, ofI, ofIm, ofJ, cat_i, cat_l, cat_r, cat_f, cat_n, xent_0, xent_i, xent_l, xent_r, xent_n, xent_f, xentry, xrf_s, xrf_n, List.getD_cons_zero, List.getD_cons_succ, List.length_cons, List.length_nil, List.cons_append, List.nil_append, List.append_nil, List.map_cons, List.map_nil, List.sum_cons, List.sum_nil, List.replicate, oT_s, oT_n, true_and, and_true, Nat.reduceAdd, Nat.reduceSub, Nat.reduceLeDiff, Nat.reduceEqDiff, Nat.reduceLT, Nat.reduceDiv, Nat.reduceMod, Nat.reduceMul, eq_self, ofN, nI_dec, nI_11, or_true, true_or, false_or, or_false, nI_e0, nI_0lt, Nat.succ_ne_zero, Nat.zero_lt_succ, lg_cmp_gt, lg_cmp_lt, lg_cmp_eq, nI_lt0, nI_add, pk_sub, pk_mul, Nat.add_sub_cancel, nI_clamp, vp_in_T, nI_ltI, nI_leI, nI_eqI, Nat.zero_add, Nat.add_zero, xc_eq, xc_ne, xc_lt, xc_ge, xc_gt, xc_le, bI_0, bI_0n, bI_n0, not_true_eq_false, not_false_eq_true, if_true, if_false, ite_true, ite_false, decide_true, decide_false, and_self, and_true, true_and, Bool.not_false, Bool.not_true, Bool.true_and, Bool.and_true, Bool.false_and, Bool.and_false, Bool.and_self, Bool.true_eq_false, Bool.false_eq_true, decide_true, decide_false, not_true_eq_false, not_false_eq_true, eq_self, pG_L, pG_x, q]
  rfl
theorem l_loop (hL : L ≤ 3072) : ∀ k i h, L < i + 6 * (k + 1) → i ≤ 3078 → Rel h → ∃ h', Rel h' ∧ ∀ Q, Ev (pG L xs) pM (d + 40) bL (some .boolean) Q bL_1 [some (.float 0), some (.ref 0), some (.ref 127), some (.int (nI i))] [] h = Q (some (.int 1)) h' := by
  intro k
  induction k with
  | zero =>
    intro i h h1' h2' hr
    exact ⟨h, hr, fun Q => l_done (by omega) (by omega) hL⟩
  | succ k ih =>
    intro i h h1' h2' hr
    by_cases q : L < i + 6
    · exact ⟨h, hr, fun Q => l_done q (by omega) hL⟩
    · obtain ⟨h2, r2, c2⟩ := l_step (L := L) (d := d) (xs := xs) hr (show i + 6 ≤ L by omega) hL
      obtain ⟨h3, r3, c3⟩ := ih (i + 6) h2 (by omega) (by omega) r2
      exact ⟨h3, r3, fun Q => (c2 Q).trans (c3 Q)⟩
theorem l_start : Ev (pG L xs) pM (d + 40) bL (some .boolean) Q bL_0 [some (.float 0), none, none, none] [] h00 = Ev (pG L xs) pM (d + 40) bL (some .boolean) Q bL_1 [some (.float 0), some (.ref 0), some (.ref 127), some (.int (nI 0))] [] hB := by
  have z1 : xis (xnew h00 (.inr 11, 12)) 0 (.inr 11) := by rw [show (0 : Nat) = h00.1 from rfl, xis_newS]
  have z2 : xis (xnew hA (.inr 12, 43)) 127 (.inr 12) := by rw [show (127 : Nat) = hA.1 from hA_1.symm, xis_newS]
  have cA := fun Q => mk_A (L := L) (d := d + 37) (xs := xs) (Q := Q)
  have cB := fun Q => mk_B (L := L) (d := d + 39) (xs := xs) (Q := Q)
  conv => lhs; rw [bL_0]
  simp (disch := omega) only [kL_1, e_iconst, e_lconst, e_null, e_ldc, e_iload0i, e_iload1i, e_iload2i, e_iload3i, e_iload4i, e_iload5i, e_iload6i, e_iload7i, e_iload8i, e_iload9i, e_iload10i, e_lload0l, e_lload1l, e_lload2l, e_lload3l, e_lload4l, e_lload5l, e_lload6l, e_lload7l, e_lload8l, e_lload9l, e_lload10l, e_aload0r, e_aload1r, e_aload2r, e_aload3r, e_aload4r, e_aload5r, e_aload6r, e_aload7r, e_aload8r, e_aload9r, e_aload10r, e_aload0n, e_aload1n, e_aload2n, e_aload3n, e_aload4n, e_aload5n, e_aload6n, e_aload7n, e_aload8n, e_aload9n, e_aload10n, e_aload0f, e_aload1f, e_aload2f, e_aload3f, e_aload4f, e_aload5f, e_aload6f, e_aload7f, e_aload8f, e_aload9f, e_aload10f, e_iinc0, e_iinc1, e_iinc2, e_iinc3, e_iinc4, e_iinc5, e_iinc6, e_iinc7, e_iinc8, e_iinc9, e_iinc10, xst_0, xst_1i, xst2_1i, xst_1r, xst2_1r, xst_1n, xst2_1n, xst_1f, xst2_1f, xst_1u, xst2_1u, xst_1l, xst2_1l, xst2_0, xst_s, xst2_s, e_istore, e_lstore, e_astore, e_astoreN, e_iadd, e_isub, e_imul, e_iand, e_ior, e_ixor, e_ishl, e_ishr, e_iushr, e_ladd, e_lsub, e_lmul, e_land, e_lor, e_lshl, e_lcmp, e_i2l, e_l2i, e_i2b, e_ineg, e_dupi, e_dupr, e_dup2, e_popi, e_popr, e_idiv, e_irem, e_ldiv, e_lrem, e_ifCond, e_if_icmp, e_ifnullR, e_ifnullN, e_ifnonnullR, e_ifnonnullN, e_goto, e_jsr, e_tsw, e_lsw, e_getfield, e_dload, e_fload, e_putfield, e_dstore, e_fstore, e_fstoreN, e_monitor, e_new, e_newarray, e_anewarray, e_mnew, e_alen, e_slen, e_schr, e_alenF, e_iaload, e_ialoadF, e_baload, e_laload, e_aaload, e_iastore, e_lastore, e_aastore, e_bastoreB, e_bastoreZ, e_copy, e_ireturnI, e_ireturnZ0, e_ireturnZ1, e_ireturnZb, e_lreturn, e_areturn, e_areturnA, e_areturnN, e_return, ofI, ofIm, ofJ, cat_i, cat_l, cat_r, cat_f, cat_n, xent_0, xent_i, xent_l, xent_r, xent_n, xent_f, xentry, xrf_s, xrf_n, List.getD_cons_zero, List.getD_cons_succ, List.length_cons, List.length_nil, List.cons_append, List.nil_append, List.append_nil, List.map_cons, List.map_nil, List.sum_cons, List.sum_nil, List.replicate, oT_s, oT_n, true_and, and_true, Nat.reduceAdd, Nat.reduceSub, Nat.reduceLeDiff, Nat.reduceEqDiff, Nat.reduceLT, Nat.reduceDiv, Nat.reduceMod, Nat.reduceMul, eq_self, ofN, nI_dec, nI_11, or_true, true_or, false_or, or_false, nI_e0, nI_0lt, Nat.succ_ne_zero, Nat.zero_lt_succ, lg_cmp_gt, lg_cmp_lt, lg_cmp_eq, nI_lt0, nI_add, pk_sub, pk_mul, Nat.add_sub_cancel, nI_clamp, vp_in_T, nI_ltI, nI_leI, nI_eqI, Nat.zero_add, Nat.add_zero, xc_eq, xc_ne, xc_lt, xc_ge, xc_gt, xc_le, bI_0, bI_0n, bI_n0, not_true_eq_false, not_false_eq_true, if_true, if_false, ite_true, ite_false, decide_true, decide_false, and_self, and_true, true_and, Bool.not_false, Bool.not_true, Bool.true_and, Bool.and_true, Bool.false_and, Bool.and_false, Bool.and_self, Bool.true_eq_false, Bool.false_eq_true, decide_true, decide_false, not_true_eq_false, not_false_eq_true, eq_self, e_new, pn_11, pn_12, show h00.1 = 0 from rfl, hA_1, z1, z2, v117, v156, cA, cB]
theorem xsl_B : xsl hB ≤ 100000 := by decide +kernel
theorem pure_law : PureLaw := by
  intro L xs hL
  obtain ⟨h', hr, c⟩ := l_loop (L := L) (d := 1000) (xs := xs) hL 600 0 hB (by omega) (by omega) Rel_B
  have hc := (l_start (L := L) (d := 1000) (xs := xs) (Q := xeq (some (.int 1)) h')).trans (c _)
  have he : Ev (pG L xs) pM 1040 bL (some .boolean) (xeq (some (.int 1)) h') bL_0 [some (.float 0), none, none, none] [] h00 := by
    rw [hc]; exact ⟨rfl, rfl⟩
  obtain ⟨n, en⟩ := he
  obtain ⟨T, tp, R, σ, u, H, ι, hC, hR, hG⟩ := hr
  obtain ⟨m1, m2⟩ := hC.2.1
  have r6 := hG.2.2.1
  have xb := xsl_B
  exact ⟨1040, n, h', by decide, by omega, by omega, en⟩
end LX
