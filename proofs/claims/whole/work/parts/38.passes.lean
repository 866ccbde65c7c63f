section PR
variable {L d : Nat} {xs : Nat → Int32} {h : xH} {Q : xQ} {p o n w t D wd cA : Nat} {x y z : Int32}
theorem xor64 : ∀ a, a < 64 → ∀ b, b < 64 → nI a ^^^ nI b = nI (a ^^^ b) ∧ a ^^^ b < 64 := by decide +kernel
theorem bit64 : ∀ p, p < 6 → nI 1 <<< (nI p &&& 31) = nI (2 ^ p) ∧ 2 ^ p < 64 := by decide +kernel
/-- those across are six bits -/
def Six (x : Int32) : Prop := ∃ a, a < 64 ∧ x = nI a
theorem Six.flip {x : Int32} (hx : Six x) (hp : p < 6) : Six (x ^^^ nI 1 <<< (nI p &&& 31)) := by
  obtain ⟨a, h1, rfl⟩ := hx
  obtain ⟨e1, e2⟩ := bit64 p hp
  rw [e1]
  obtain ⟨e3, e4⟩ := xor64 a h1 _ e2
  exact ⟨_, e4, e3⟩
theorem Six.go {S : WS} (hx : Six (S.1 5)) (hp : p < 6) (ho : o < 6) : Six ((goW S p o).1 5) := by
  unfold goW
  split
  · exact hx.flip hp
  · exact (hx.flip hp).flip ho
theorem Six.turns {cho : WS → Nat → Option Nat} (hn : n ≤ 6) (hc : ∀ S p, S.1 3 = nI n → p < n → ∀ o, cho S p = some o → o < n) : ∀ k p st, st.1.1 3 = nI n → p + k = n → Six (st.1.1 5) → Six ((forF (turnF cho) p k st).1.1 5) := by
  intro k
  induction k with
  | zero => intro p st _ _ hx; exact hx
  | succ k ih =>
    intro p st h3 hp hx
    rw [forF]
    refine ih (p + 1) _ ?_ (by omega) ?_
    · unfold turnF
      split
      · show (match cho st.1 p with | none => st.1 | some o => goW st.1 p o).1 3 = _
        split
        · exact h3
        · rw [goW_3]; exact h3
      · exact h3
    · unfold turnF
      split
      · show Six ((match cho st.1 p with | none => st.1 | some o => goW st.1 p o).1 5)
        split
        · exact hx
        · rename_i o ho
          have := hc st.1 p h3 (by omega) o ho
          exact hx.go (by omega) (by omega)
      · exact hx
/-- a whole day -/
def dayW (cho : WS → Nat → Option Nat) (n : Nat) (S : WS) (ch : Nat → Int32) : WS × (Nat → Int32) := ((upd (forF (turnF cho) 0 n (S, ch)).1.1 4 ((forF (turnF cho) 0 n (S, ch)).1.1 4 + nI 1), (forF (turnF cho) 0 n (S, ch)).1.2), (forF (turnF cho) 0 n (S, ch)).2)
theorem d_passN (hW : WOK h w t) (hD : DOK h D wd cA) (hn : n ≤ 6) {cho : WS → Nat → Option Nat} (hC : ChoIs L xs (d + 4) n D w t cA none h cho) {S : WS} {ch : Nat → Int32} {h0 : xH} (hs : PSt h w t cA S ch h0) (h3 : S.1 3 = nI n) {a0 a1 : Nat} (ha0 : a0 < 64) (ha1 : a1 < 64) (e0 : S.1 5 = nI a0) (e1 : (forF (turnF cho) 0 n (S, ch)).1.1 5 = nI a1) : ∃ h1, PSt h w t cA (dayW cho n S ch).1 (dayW cho n S ch).2 h1 ∧ ∀ Q, Call (pG L xs) pM (d + 5) 1 [.ref D, .ref w, .null] h0 Q = Q (some (.int (nI (popN (a1 ^^^ a0))))) h1 := by
  have hne := cA_ne hW hD
  have hwt := hW.ne
  have hW0 := hs.wok hW
  have f5 : xI h0 w 5 = nI a0 := by rw [← e0, ← hs.2.2.2.1]; rfl
  obtain ⟨h2, u6, g1, g2, g3⟩ := pass_loopN hW hD hn hC (bf := nI a0) n 0 S ch h0 none hs h3 (Nat.zero_add n)
  have hW2 := g1.wok hW
  have k5 : xI h2 w 5 = nI a1 := by rw [← e1, ← g1.2.2.2.1]; rfl
  have k4 : xI h2 w 4 = (forF (turnF cho) 0 n (S, ch)).1.1 4 := by rw [← g1.2.2.2.1]; rfl
  obtain ⟨x1, x2⟩ := xor64 a1 ha1 a0 ha0
  refine ⟨setI h2 w 4 ((forF (turnF cho) 0 n (S, ch)).1.1 4 + nI 1), ?_, fun Q => ?_⟩
  · obtain ⟨b1, b2, b3, b4, b5, b6⟩ := g1
    rw [setI_row]
    refine ⟨b1, b2, b3, ?_, ?_, fun c c1 c2 c3 => ?_⟩
    · unfold getW dayW
      rw [xI_row_eq, xI_row_ne _ _ hwt.symm]
      rw [← b4]; rfl
    · rw [xI_row_ne _ _ hne.1]; exact b5
    · rw [xI_row_ne _ _ c1]; exact b6 c c1 c2 c3
  · simp (disch := omega) only [m1, b1_0, e_iconst, e_lconst, e_null, e_iload0i, e_iload1i, e_iload2i, e_iload3i, e_iload4i, e_iload5i, e_iload6i, e_iload7i, e_iload8i, e_iload9i, e_iload10i, e_lload0l, e_lload1l, e_lload2l, e_lload3l, e_lload4l, e_lload5l, e_lload6l, e_lload7l, e_lload8l, e_lload9l, e_lload10l, e_aload0r, e_aload1r, e_aload2r, e_aload3r, e_aload4r, e_aload5r, e_aload6r, e_aload7r, e_aload8r, e_aload9r, e_aload10r, e_aload0n, e_aload1n, e_aload2n, e_aload3n, e_aload4n, e_aload5n, e_aload6n, e_aload7n, e_aload8n, e_aload9n, e_aload10n, e_aload0f, e_aload1f, e_aload2f, e_aload3f, e_aload4f, e_aload5f, e_aload6f, e_aload7f, e_aload8f, e_aload9f, e_aload10f, e_iinc0, e_iinc1, e_iinc2, e_iinc3, e_iinc4, e_iinc5, e_iinc6, e_iinc7, e_iinc8, e_iinc9, e_iinc10, xst_0, xst_1i, xst2_1i, xst_1r, xst2_1r, xst_1n, xst2_1n, xst_1f, xst2_1f, xst_1u, xst2_1u, xst_1l, xst2_1l, xst2_0, xst_s, xst2_s, e_istore, e_lstore, e_astore, e_astoreN, e_iadd, e_isub, e_imul, e_iand, e_ior, e_ixor, e_ishl, e_ishr, e_iushr, e_ladd, e_lsub, e_lmul, e_land, e_lor, e_lshl, e_lcmp, e_i2l, e_l2i, e_i2b, e_ineg, e_dupi, e_dupr, e_dup2, e_popi, e_popr, e_idiv, e_irem, e_ldiv, e_lrem, e_ifCond, e_if_icmp, e_ifnullR, e_ifnullN, e_ifnonnullR, e_ifnonnullN, e_goto, e_jsr, e_tsw, e_lsw, e_getfield, e_dload, e_fload, e_putfield, e_dstore, e_fstore, e_fstoreN, e_monitor, e_new, e_newarray, e_anewarray, e_mnew, e_alen, e_alenF, e_iaload, e_ialoadF, e_baload, e_laload, e_aaload, e_iastore, e_lastore, e_aastore, e_bastoreB, e_bastoreZ, e_copy, e_ireturnI, e_ireturnZ0, e_ireturnZ1, e_ireturnZb, e_lreturn, e_areturn, e_areturnA, e_areturnN, e_return, ofI, ofIm, ofJ, cat_i, cat_l, cat_r, cat_f, cat_n, xent_0, xent_i, xent_l, xent_r, xent_n, xent_f, xentry, xrf_s, xrf_n, List.getD_cons_zero, List.getD_cons_succ, List.length_cons, List.length_nil, List.cons_append, List.nil_append, List.append_nil, List.map_cons, List.map_nil, List.sum_cons, List.sum_nil, List.replicate, oT_s, oT_n, true_and, and_true, Nat.reduceAdd, Nat.reduceSub, Nat.reduceLeDiff, Nat.reduceDiv, Nat.reduceMod, Nat.reduceMul, eq_self, ofN, nI_dec, nI_11, or_true, true_or, false_or, or_false, nI_e0, nI_0lt, Nat.succ_ne_zero, Nat.zero_lt_succ, lg_cmp_gt, lg_cmp_lt, lg_cmp_eq, nI_lt0, nI_add, pk_sub, pk_mul, Nat.add_sub_cancel, nI_clamp, vp_in_T, nI_ltI, nI_leI, nI_eqI, Nat.zero_add, Nat.add_zero, xc_eq, xc_ne, xc_lt, xc_ge, xc_gt, xc_le, bI_0, bI_0n, bI_n0, not_true_eq_false, not_false_eq_true, if_true, if_false, ite_true, ite_false, decide_true, decide_false, and_self, and_true, true_and, k1_1, hW0.1, f5]
    rw [g3 Q, b1_5]
    simp (disch := omega) only [e_iconst, e_lconst, e_null, e_iload0i, e_iload1i, e_iload2i, e_iload3i, e_iload4i, e_iload5i, e_iload6i, e_iload7i, e_iload8i, e_iload9i, e_iload10i, e_lload0l, e_lload1l, e_lload2l, e_lload3l, e_lload4l, e_lload5l, e_lload6l, e_lload7l, e_lload8l, e_lload9l, e_lload10l, e_aload0r, e_aload1r, e_aload2r, e_aload3r, e_aload4r, e_aload5r, e_aload6r, e_aload7r, e_aload8r, e_aload9r, e_aload10r, e_aload0n, e_aload1n, e_aload2n, e_aload3n, e_aload4n, e_aload5n, e_aload6n, e_aload7n, e_aload8n, e_aload9n, e_aload10n, e_aload0f, e_aload1f, e_aload2f, e_aload3f, e_aload4f, e_aload5f, e_aload6f, e_aload7f, e_aload8f, e_aload9f, e_aload10f, e_iinc0, e_iinc1, e_iinc2, e_iinc3, e_iinc4, e_iinc5, e_iinc6, e_iinc7, e_iinc8, e_iinc9, e_iinc10, xst_0, xst_1i, xst2_1i, xst_1r, xst2_1r, xst_1n, xst2_1n, xst_1f, xst2_1f, xst_1u, xst2_1u, xst_1l, xst2_1l, xst2_0, xst_s, xst2_s, e_istore, e_lstore, e_astore, e_astoreN, e_iadd, e_isub, e_imul, e_iand, e_ior, e_ixor, e_ishl, e_ishr, e_iushr, e_ladd, e_lsub, e_lmul, e_land, e_lor, e_lshl, e_lcmp, e_i2l, e_l2i, e_i2b, e_ineg, e_dupi, e_dupr, e_dup2, e_popi, e_popr, e_idiv, e_irem, e_ldiv, e_lrem, e_ifCond, e_if_icmp, e_ifnullR, e_ifnullN, e_ifnonnullR, e_ifnonnullN, e_goto, e_jsr, e_tsw, e_lsw, e_getfield, e_dload, e_fload, e_putfield, e_dstore, e_fstore, e_fstoreN, e_monitor, e_new, e_newarray, e_anewarray, e_mnew, e_alen, e_alenF, e_iaload, e_ialoadF, e_baload, e_laload, e_aaload, e_iastore, e_lastore, e_aastore, e_bastoreB, e_bastoreZ, e_copy, e_ireturnI, e_ireturnZ0, e_ireturnZ1, e_ireturnZb, e_lreturn, e_areturn, e_areturnA, e_areturnN, e_return, ofI, ofIm, ofJ, cat_i, cat_l, cat_r, cat_f, cat_n, xent_0, xent_i, xent_l, xent_r, xent_n, xent_f, xentry, xrf_s, xrf_n, List.getD_cons_zero, List.getD_cons_succ, List.length_cons, List.length_nil, List.cons_append, List.nil_append, List.append_nil, List.map_cons, List.map_nil, List.sum_cons, List.sum_nil, List.replicate, oT_s, oT_n, true_and, and_true, Nat.reduceAdd, Nat.reduceSub, Nat.reduceLeDiff, Nat.reduceDiv, Nat.reduceMod, Nat.reduceMul, eq_self, ofN, nI_dec, nI_11, or_true, true_or, false_or, or_false, nI_e0, nI_0lt, Nat.succ_ne_zero, Nat.zero_lt_succ, lg_cmp_gt, lg_cmp_lt, lg_cmp_eq, nI_lt0, nI_add, pk_sub, pk_mul, Nat.add_sub_cancel, nI_clamp, vp_in_T, nI_ltI, nI_leI, nI_eqI, Nat.zero_add, Nat.add_zero, xc_eq, xc_ne, xc_lt, xc_ge, xc_gt, xc_le, bI_0, bI_0n, bI_n0, not_true_eq_false, not_false_eq_true, if_true, if_false, ite_true, ite_false, decide_true, decide_false, and_self, and_true, true_and, xis_sI, xI_sI, f10_4, hW2.1, k4, k5, v276, x1, j_bitCount x2, show ¬ ((5 : Nat) = 4) by decide, and_false]
theorem d_passR (hW : WOK h w t) (hD : DOK h D wd cA) (hn : n ≤ 6) {cho : WS → Nat → Option Nat} {r : Nat} (hC : ChoIs L xs (d + 4) n D w t cA (some r) h cho) {S : WS} {ch : Nat → Int32} {h0 : xH} (hs : PSt h w t cA S ch h0) (h3 : S.1 3 = nI n) {a0 a1 : Nat} (ha0 : a0 < 64) (ha1 : a1 < 64) (e0 : S.1 5 = nI a0) (e1 : (forF (turnF cho) 0 n (S, ch)).1.1 5 = nI a1) : ∃ h1, PSt h w t cA (dayW cho n S ch).1 (dayW cho n S ch).2 h1 ∧ ∀ Q, Call (pG L xs) pM (d + 5) 1 [.ref D, .ref w, .ref r] h0 Q = Q (some (.int (nI (popN (a1 ^^^ a0))))) h1 := by
  have hne := cA_ne hW hD
  have hwt := hW.ne
  have hW0 := hs.wok hW
  have f5 : xI h0 w 5 = nI a0 := by rw [← e0, ← hs.2.2.2.1]; rfl
  obtain ⟨h2, u6, g1, g2, g3⟩ := pass_loopR hW hD hn hC (bf := nI a0) n 0 S ch h0 none hs h3 (Nat.zero_add n)
  have hW2 := g1.wok hW
  have k5 : xI h2 w 5 = nI a1 := by rw [← e1, ← g1.2.2.2.1]; rfl
  have k4 : xI h2 w 4 = (forF (turnF cho) 0 n (S, ch)).1.1 4 := by rw [← g1.2.2.2.1]; rfl
  obtain ⟨x1, x2⟩ := xor64 a1 ha1 a0 ha0
  refine ⟨setI h2 w 4 ((forF (turnF cho) 0 n (S, ch)).1.1 4 + nI 1), ?_, fun Q => ?_⟩
  · obtain ⟨b1, b2, b3, b4, b5, b6⟩ := g1
    rw [setI_row]
    refine ⟨b1, b2, b3, ?_, ?_, fun c c1 c2 c3 => ?_⟩
    · unfold getW dayW
      rw [xI_row_eq, xI_row_ne _ _ hwt.symm]
      rw [← b4]; rfl
    · rw [xI_row_ne _ _ hne.1]; exact b5
    · rw [xI_row_ne _ _ c1]; exact b6 c c1 c2 c3
  · simp (disch := omega) only [m1, b1_0, e_iconst, e_lconst, e_null, e_iload0i, e_iload1i, e_iload2i, e_iload3i, e_iload4i, e_iload5i, e_iload6i, e_iload7i, e_iload8i, e_iload9i, e_iload10i, e_lload0l, e_lload1l, e_lload2l, e_lload3l, e_lload4l, e_lload5l, e_lload6l, e_lload7l, e_lload8l, e_lload9l, e_lload10l, e_aload0r, e_aload1r, e_aload2r, e_aload3r, e_aload4r, e_aload5r, e_aload6r, e_aload7r, e_aload8r, e_aload9r, e_aload10r, e_aload0n, e_aload1n, e_aload2n, e_aload3n, e_aload4n, e_aload5n, e_aload6n, e_aload7n, e_aload8n, e_aload9n, e_aload10n, e_aload0f, e_aload1f, e_aload2f, e_aload3f, e_aload4f, e_aload5f, e_aload6f, e_aload7f, e_aload8f, e_aload9f, e_aload10f, e_iinc0, e_iinc1, e_iinc2, e_iinc3, e_iinc4, e_iinc5, e_iinc6, e_iinc7, e_iinc8, e_iinc9, e_iinc10, xst_0, xst_1i, xst2_1i, xst_1r, xst2_1r, xst_1n, xst2_1n, xst_1f, xst2_1f, xst_1u, xst2_1u, xst_1l, xst2_1l, xst2_0, xst_s, xst2_s, e_istore, e_lstore, e_astore, e_astoreN, e_iadd, e_isub, e_imul, e_iand, e_ior, e_ixor, e_ishl, e_ishr, e_iushr, e_ladd, e_lsub, e_lmul, e_land, e_lor, e_lshl, e_lcmp, e_i2l, e_l2i, e_i2b, e_ineg, e_dupi, e_dupr, e_dup2, e_popi, e_popr, e_idiv, e_irem, e_ldiv, e_lrem, e_ifCond, e_if_icmp, e_ifnullR, e_ifnullN, e_ifnonnullR, e_ifnonnullN, e_goto, e_jsr, e_tsw, e_lsw, e_getfield, e_dload, e_fload, e_putfield, e_dstore, e_fstore, e_fstoreN, e_monitor, e_new, e_newarray, e_anewarray, e_mnew, e_alen, e_alenF, e_iaload, e_ialoadF, e_baload, e_laload, e_aaload, e_iastore, e_lastore, e_aastore, e_bastoreB, e_bastoreZ, e_copy, e_ireturnI, e_ireturnZ0, e_ireturnZ1, e_ireturnZb, e_lreturn, e_areturn, e_areturnA, e_areturnN, e_return, ofI, ofIm, ofJ, cat_i, cat_l, cat_r, cat_f, cat_n, xent_0, xent_i, xent_l, xent_r, xent_n, xent_f, xentry, xrf_s, xrf_n, List.getD_cons_zero, List.getD_cons_succ, List.length_cons, List.length_nil, List.cons_append, List.nil_append, List.append_nil, List.map_cons, List.map_nil, List.sum_cons, List.sum_nil, List.replicate, oT_s, oT_n, true_and, and_true, Nat.reduceAdd, Nat.reduceSub, Nat.reduceLeDiff, Nat.reduceDiv, Nat.reduceMod, Nat.reduceMul, eq_self, ofN, nI_dec, nI_11, or_true, true_or, false_or, or_false, nI_e0, nI_0lt, Nat.succ_ne_zero, Nat.zero_lt_succ, lg_cmp_gt, lg_cmp_lt, lg_cmp_eq, nI_lt0, nI_add, pk_sub, pk_mul, Nat.add_sub_cancel, nI_clamp, vp_in_T, nI_ltI, nI_leI, nI_eqI, Nat.zero_add, Nat.add_zero, xc_eq, xc_ne, xc_lt, xc_ge, xc_gt, xc_le, bI_0, bI_0n, bI_n0, not_true_eq_false, not_false_eq_true, if_true, if_false, ite_true, ite_false, decide_true, decide_false, and_self, and_true, true_and, k1_1, hW0.1, f5]
    rw [g3 Q, b1_5]
    simp (disch := omega) only [e_iconst, e_lconst, e_null, e_iload0i, e_iload1i, e_iload2i, e_iload3i, e_iload4i, e_iload5i, e_iload6i, e_iload7i, e_iload8i, e_iload9i, e_iload10i, e_lload0l, e_lload1l, e_lload2l, e_lload3l, e_lload4l, e_lload5l, e_lload6l, e_lload7l, e_lload8l, e_lload9l, e_lload10l, e_aload0r, e_aload1r, e_aload2r, e_aload3r, e_aload4r, e_aload5r, e_aload6r, e_aload7r, e_aload8r, e_aload9r, e_aload10r, e_aload0n, e_aload1n, e_aload2n, e_aload3n, e_aload4n, e_aload5n, e_aload6n, e_aload7n, e_aload8n, e_aload9n, e_aload10n, e_aload0f, e_aload1f, e_aload2f, e_aload3f, e_aload4f, e_aload5f, e_aload6f, e_aload7f, e_aload8f, e_aload9f, e_aload10f, e_iinc0, e_iinc1, e_iinc2, e_iinc3, e_iinc4, e_iinc5, e_iinc6, e_iinc7, e_iinc8, e_iinc9, e_iinc10, xst_0, xst_1i, xst2_1i, xst_1r, xst2_1r, xst_1n, xst2_1n, xst_1f, xst2_1f, xst_1u, xst2_1u, xst_1l, xst2_1l, xst2_0, xst_s, xst2_s, e_istore, e_lstore, e_astore, e_astoreN, e_iadd, e_isub, e_imul, e_iand, e_ior, e_ixor, e_ishl, e_ishr, e_iushr, e_ladd, e_lsub, e_lmul, e_land, e_lor, e_lshl, e_lcmp, e_i2l, e_l2i, e_i2b, e_ineg, e_dupi, e_dupr, e_dup2, e_popi, e_popr, e_idiv, e_irem, e_ldiv, e_lrem, e_ifCond, e_if_icmp, e_ifnullR, e_ifnullN, e_ifnonnullR, e_ifnonnullN, e_goto, e_jsr, e_tsw, e_lsw, e_getfield, e_dload, e_fload, e_putfield, e_dstore, e_fstore, e_fstoreN, e_monitor, e_new, e_newarray, e_anewarray, e_mnew, e_alen, e_alenF, e_iaload, e_ialoadF, e_baload, e_laload, e_aaload, e_iastore, e_lastore, e_aastore, e_bastoreB, e_bastoreZ, e_copy, e_ireturnI, e_ireturnZ0, e_ireturnZ1, e_ireturnZb, e_lreturn, e_areturn, e_areturnA, e_areturnN, e_return, ofI, ofIm, ofJ, cat_i, cat_l, cat_r, cat_f, cat_n, xent_0, xent_i, xent_l, xent_r, xent_n, xent_f, xentry, xrf_s, xrf_n, List.getD_cons_zero, List.getD_cons_succ, List.length_cons, List.length_nil, List.cons_append, List.nil_append, List.append_nil, List.map_cons, List.map_nil, List.sum_cons, List.sum_nil, List.replicate, oT_s, oT_n, true_and, and_true, Nat.reduceAdd, Nat.reduceSub, Nat.reduceLeDiff, Nat.reduceDiv, Nat.reduceMod, Nat.reduceMul, eq_self, ofN, nI_dec, nI_11, or_true, true_or, false_or, or_false, nI_e0, nI_0lt, Nat.succ_ne_zero, Nat.zero_lt_succ, lg_cmp_gt, lg_cmp_lt, lg_cmp_eq, nI_lt0, nI_add, pk_sub, pk_mul, Nat.add_sub_cancel, nI_clamp, vp_in_T, nI_ltI, nI_leI, nI_eqI, Nat.zero_add, Nat.add_zero, xc_eq, xc_ne, xc_lt, xc_ge, xc_gt, xc_le, bI_0, bI_0n, bI_n0, not_true_eq_false, not_false_eq_true, if_true, if_false, ite_true, ite_false, decide_true, decide_false, and_self, and_true, true_and, xis_sI, xI_sI, f10_4, hW2.1, k4, k5, v276, x1, j_bitCount x2, show ¬ ((5 : Nat) = 4) by decide, and_false]
end PR
