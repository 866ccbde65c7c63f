section SM
variable {L d : Nat} {xs : Nat → Int32} {h h1 : xH} {Q : xQ} {p o n w t : Nat} {x y z : Int32} {T : Nat} {tp : Nat → Int32} {R : List (List Cl)} {σ σ' : Sn} {u u' : Nat} {H H' : Nat → Nat → Int32} {ι : Nat → Option Sn} {s s' : Nat → Int32}
theorem wS_cg (e : ∀ i, i < 67 → s i = s' i) : wS s = wS s' := by
  refine Prod.ext ?_ ?_
  · funext k
    unfold wS
    simp only [e 0 (by decide), e 11 (by decide), e 1 (by decide), e 2 (by decide), e 10 (by decide), e 12 (by decide)]
  · funext i
    show trS s i = trS s' i
    unfold trS
    split
    · exact e _ (by omega)
    · split
      · exact e _ (by omega)
      · split
        · exact e _ (by omega)
        · split
          · exact e _ (by omega)
          · rfl
theorem begS_cg (e : ∀ i, i < 10 ∨ 55 ≤ i ∧ i < 110 → s i = s' i) : ∀ i, i < 67 → begS s i = begS s' i := by
  intro i hi
  unfold begS
  split
  · rfl
  · split
    · exact e _ (by omega)
    · split
      · rfl
      · split
        · exact e _ (by omega)
        · exact e _ (by omega)
theorem SOK.cg (e : ∀ i, i < 67 → s i = s' i) (hS : SOK n s) : SOK n s' := by
  obtain ⟨h1, h2, h3, h4, h5⟩ := hS
  exact ⟨h1, by rw [← e _ (by decide)]; exact h2, by rw [← e _ (by decide)]; exact h3, fun k hk => by rw [← e _ (by omega)]; exact h4 k hk, by rw [← e _ (by decide)]; exact h5⟩
theorem CRel.scn (hr : CRel h T tp R σ u H ι) : SceneC h 11 σ := hr.2.2.2.2.1
theorem CRel.his (hr : CRel h T tp R σ u H ι) : HistC h u H := hr.2.2.2.2.2.1
theorem CRel.img (hr : CRel h T tp R σ u H ι) : ImgC h ι := hr.2.2.2.2.2.2.1
theorem CRel.rul (hr : CRel h T tp R σ u H ι) : RulesC h R := hr.2.2.2.1
theorem CRel.tap (hr : CRel h T tp R σ u H ι) : TapeC h T tp := hr.2.2.1
theorem RRel.scn (hr : RRel h T tp R σ u H ι) : SceneR h σ := hr.2.2.1
theorem RRel.his (hr : RRel h T tp R σ u H ι) : HistR h u H := hr.2.2.2.1
theorem RRel.img (hr : RRel h T tp R σ u H ι) : ImgR h ι := hr.2.2.2.2
theorem RRel.rul (hr : RRel h T tp R σ u H ι) : RulesR h R := hr.2.1
theorem RRel.tap (hr : RRel h T tp R σ u H ι) : TapeR h T tp := hr.1
theorem Good.inv (hr : Good T tp R σ u H ι) : SInv R.length σ := hr.2.2.2.1
theorem Good.his (hr : Good T tp R σ u H ι) : HInv σ.1 u H := hr.2.2.2.2.1
theorem CRel.act {P : Nat → Prop} (hf : Fr P h h1) (hP : ∀ a, P a → 11 ≤ a ∧ a ≤ 64 ∧ a ≠ 19) (hs : SceneC h1 11 σ') (hh : HistC h1 u' H') (hr : CRel h T tp R σ u H ι) : CRel h1 T tp R σ' u' H' ι := by
  obtain ⟨a1, a2, a3, a4, a5, a6, a7, a8, a9, a10⟩ := hr
  have e : ∀ a, a < 11 ∨ 64 < a → ¬ P a := fun a h1 z => by have := hP a z; omega
  exact ⟨hf.bas a1, a2.fr hf, a3.fr hf (e _ (by decide)) (e _ (by decide)), a4.fr hf (e _ (by decide)) (fun a z => by have := hP a z; omega), hs, hh, a7.fr hf (fun a h1 h2 => e _ (by omega)), a8.fr hf (e _ (by decide)) (e _ (by decide)), a9.fr hf (e _ (by decide)) (e _ (by decide)), a10.fr hf (e _ (by decide)) (e _ (by decide))⟩
/-- the reference's places that acts change -/
def AP (a : Nat) : Prop := a = 137 ∨ a = 138 ∨ a = 139
def AJ (j : Nat) : Prop := j = 18 ∨ j = 21 ∨ j = 22 ∨ j = 25
theorem RRel.act {P J : Nat → Prop} (hf : FrR P J h h1) (hP : ∀ a, P a → AP a) (hJ : ∀ j, J j → AJ j) (hs : SceneR h1 σ') (hh : HistR h1 u' H') (hr : RRel h T tp R σ u H ι) : RRel h1 T tp R σ' u' H' ι := by
  have e : ∀ a, a ≠ 127 → ¬ AP a → xI h1 a = xI h a := fun a h2 h3 => hf.2.2.2.1 a h2 fun z => h3 (hP a z)
  have e' : ∀ j, ¬ AJ j → xI h1 127 j = xI h 127 j := fun j h3 => hf.2.2.2.2 j fun z => h3 (hJ j z)
  obtain ⟨b1, b2, b3, b6, b7⟩ := hr
  refine ⟨?_, ?_, hs, hh, ?_⟩
  · unfold TapeR at *
    rw [e' 1 (by unfold AJ; omega), e 128 (by decide) (by unfold AP; omega)]; exact b1
  · unfold RulesR RuleR at *
    rw [e' 2 (by unfold AJ; omega), e 129 (by decide) (by unfold AP; omega), e 131 (by decide) (by unfold AP; omega), e 132 (by decide) (by unfold AP; omega)]; exact b2
  · unfold ImgR at *
    rw [e 150 (by decide) (by unfold AP; omega), e 151 (by decide) (by unfold AP; omega), e 152 (by decide) (by unfold AP; omega), e 153 (by decide) (by unfold AP; omega)]; exact b7
/-- an act of both -/
theorem Rel.act {P P' J' : Nat → Prop} {h2 : xH} (hC : CRel h T tp R σ u H ι) (hR : RRel h T tp R σ u H ι) (hG : Good T tp R σ u H ι) (hf : Fr P h h1) (hP : ∀ a, P a → 11 ≤ a ∧ a ≤ 64 ∧ a ≠ 19) (hs : SceneC h1 11 σ') (hh : HistC h1 u' H') (hf2 : FrR P' J' h1 h2) (hP' : ∀ a, P' a → AP a) (hJ' : ∀ j, J' j → AJ j) (hs2 : SceneR h2 σ') (hh2 : HistR h2 u' H') (hi : SInv R.length σ') (hv : HInv σ'.1 u' H') : Rel h2 :=
  ⟨T, tp, R, σ', u', H', ι, (hC.act hf hP hs hh).fr hf2.fr (fun a z => z.elim (fun z => by omega) fun z => by have := hP' a z; unfold AP at this; omega), (hR.fr hf (fun a z => by have := hP a z; omega)).act hf2 hP' hJ' hs2 hh2, hG.1, hG.2.1, hG.2.2.1, hi, hv, hG.2.2.2.2.2⟩
theorem SceneC.sx (hs : SceneC h 11 σ) : SceneC (setI h 11 7 y) 11 (σ.1, σ.2.1, y) := by
  unfold SceneC getW at *
  simp only [setI_row, xI_row_eq, xI_row_ne h (upd (xI h 11) 7 y) (show 11 + 1 ≠ 11 by decide), xI_row_ne h (upd (xI h 11) 7 y) (show 11 + 2 ≠ 11 by decide), xI_row_ne h (upd (xI h 11) 7 y) (show 11 + 3 ≠ 11 by decide), xI_row_ne h (upd (xI h 11) 7 y) (show 11 + 4 ≠ 11 by decide), xI_row_ne h (upd (xI h 11) 7 y) (show 11 + 5 ≠ 11 by decide), xI_row_ne h (upd (xI h 11) 7 y) (show 11 + 6 ≠ 11 by decide), xI_row_ne h (upd (xI h 11) 7 y) (show 11 + 7 ≠ 11 by decide), upd_ne _ y (show 6 ≠ 7 by decide), upd_ne _ y (show 8 ≠ 7 by decide), upd_eq]
  exact ⟨hs.1, hs.2.1, hs.2.2.1, trivial, hs.2.2.2.2⟩
theorem SceneC.sf (hs : SceneC h 11 σ) : SceneC (setI h 11 8 y) 11 (σ.1, y, σ.2.2) := by
  unfold SceneC getW at *
  simp only [setI_row, xI_row_eq, xI_row_ne h (upd (xI h 11) 8 y) (show 11 + 1 ≠ 11 by decide), xI_row_ne h (upd (xI h 11) 8 y) (show 11 + 2 ≠ 11 by decide), xI_row_ne h (upd (xI h 11) 8 y) (show 11 + 3 ≠ 11 by decide), xI_row_ne h (upd (xI h 11) 8 y) (show 11 + 4 ≠ 11 by decide), xI_row_ne h (upd (xI h 11) 8 y) (show 11 + 5 ≠ 11 by decide), xI_row_ne h (upd (xI h 11) 8 y) (show 11 + 6 ≠ 11 by decide), xI_row_ne h (upd (xI h 11) 8 y) (show 11 + 7 ≠ 11 by decide), upd_ne _ y (show 6 ≠ 8 by decide), upd_ne _ y (show 7 ≠ 8 by decide), upd_eq]
  exact ⟨hs.1, hs.2.1, hs.2.2.1, hs.2.2.2.1, trivial, hs.2.2.2.2.2⟩
theorem HistR.fr {P J : Nat → Prop} (hf : FrR P J h h1) (h1' : ¬ P 139) (h2' : ¬ J 25) (hh : HistR h u H) : HistR h1 u H := by
  unfold HistR at *; rw [hf.2.2.2.1 139 (by decide) h1', hf.2.2.2.2 25 h2']; exact hh
theorem SInv.sx {r : Nat} (hi : SInv r σ) (hx : ¬ y < 0) : SInv r (σ.1, σ.2.1, y) := by
  obtain ⟨n, k, e, a1, a2, a3, a4, a5, a6, a7, a8, a9⟩ := hi
  exact ⟨n, k, e, a1, a2, a3, a4, a5, a6, hx, a8, a9⟩
theorem SInv.sf {r : Nat} (hi : SInv r σ) (hx : y = -(nI 1) ∨ ∃ j, j < r ∧ y = nI j) : SInv r (σ.1, y, σ.2.2) := by
  obtain ⟨n, k, e, a1, a2, a3, a4, a5, a6, a7, a8, a9⟩ := hi
  exact ⟨n, k, e, a1, a2, a3, a4, a5, a6, a7, hx, a9⟩
theorem P_seed : Pair L xs (d + 40) 147 270 [.int y] := by
  rintro h ⟨T, tp, R, σ, u, H, ι, hC, hR, hG⟩
  have hz := hC.1
  by_cases q : y < 0
  · refine ⟨-(nI 1), h, h, Rel.two hC hR hG, fun Q => ?_, fun Q => ?_⟩
    · simp (disch := omega) only [m147, b147_0, k147_1, b147_1, e_iconst, e_lconst, e_null, e_ldc, e_iload0i, e_iload1i, e_iload2i, e_iload3i, e_iload4i, e_iload5i, e_iload6i, e_iload7i, e_iload8i, e_iload9i, e_iload10i, e_lload0l, e_lload1l, e_lload2l, e_lload3l, e_lload4l, e_lload5l, e_lload6l, e_lload7l, e_lload8l, e_lload9l, e_lload10l, e_aload0r, e_aload1r, e_aload2r, e_aload3r, e_aload4r, e_aload5r, e_aload6r, e_aload7r, e_aload8r, e_aload9r, e_aload10r, e_aload0n, e_aload1n, e_aload2n, e_aload3n, e_aload4n, e_aload5n, e_aload6n, e_aload7n, e_aload8n, e_aload9n, e_aload10n, e_aload0f, e_aload1f, e_aload2f, e_aload3f, e_aload4f, e_aload5f, e_aload6f, e_aload7f, e_aload8f, e_aload9f, e_aload10f, e_iinc0, e_iinc1, e_iinc2, e_iinc3, e_iinc4, e_iinc5, e_iinc6, e_iinc7, e_iinc8, e_iinc9, e_iinc10, xst_0, xst_1i, xst2_1i, xst_1r, xst2_1r, xst_1n, xst2_1n, xst_1f, xst2_1f, xst_1u, xst2_1u, xst_1l, xst2_1l, xst2_0, xst_s, xst2_s, e_istore, e_lstore, e_astore, e_astoreN, e_iadd, e_isub, e_imul, e_iand, e_ior, e_ixor, e_ishl, e_ishr, e_iushr, e_ladd, e_lsub, e_lmul, e_land, e_lor, e_lshl, e_lcmp, e_i2l, e_l2i, e_i2b, e_ineg, e_dupi, e_dupr, e_dup2, e_popi, e_popr, e_idiv, e_irem, e_ldiv, e_lrem, e_ifCond, e_if_icmp, e_ifnullR, e_ifnullN, e_ifnonnullR, e_ifnonnullN, e_goto, e_jsr, e_tsw, e_lsw, e_getfield, e_dload, e_fload, e_putfield, e_dstore, e_fstore, e_fstoreN, e_monitor, e_new, e_newarray, e_anewarray, e_mnew, e_alen, e_slen, e_schr, e_alenF, e_iaload, e_ialoadF, e_baload, e_laload, e_aaload, e_iastore, e_lastore, e_aastore, e_bastoreB, e_bastoreZ, e_copy, e_ireturnI, e_ireturnZ0, e_ireturnZ1, e_ireturnZb, e_lreturn, e_areturn, e_areturnA, e_areturnN, e_return, ofI, ofIm, ofJ, cat_i, cat_l, cat_r, cat_f, cat_n, xent_0, xent_i, xent_l, xent_r, xent_n, xent_f, xentry, xrf_s, xrf_n, List.getD_cons_zero, List.getD_cons_succ, List.length_cons, List.length_nil, List.cons_append, List.nil_append, List.append_nil, List.map_cons, List.map_nil, List.sum_cons, List.sum_nil, List.replicate, oT_s, oT_n, true_and, and_true, Nat.reduceAdd, Nat.reduceSub, Nat.reduceLeDiff, Nat.reduceEqDiff, Nat.reduceLT, Nat.reduceDiv, Nat.reduceMod, Nat.reduceMul, eq_self, ofN, nI_dec, nI_11, or_true, true_or, false_or, or_false, nI_e0, nI_0lt, Nat.succ_ne_zero, Nat.zero_lt_succ, lg_cmp_gt, lg_cmp_lt, lg_cmp_eq, nI_lt0, nI_add, pk_sub, pk_mul, Nat.add_sub_cancel, nI_clamp, vp_in_T, nI_ltI, nI_leI, nI_eqI, Nat.zero_add, Nat.add_zero, xc_eq, xc_ne, xc_lt, xc_ge, xc_gt, xc_le, bI_0, bI_0n, bI_n0, not_true_eq_false, not_false_eq_true, if_true, if_false, ite_true, ite_false, decide_true, decide_false, and_self, and_true, true_and, Bool.not_false, Bool.not_true, Bool.true_and, Bool.and_true, Bool.false_and, Bool.and_false, Bool.and_self, Bool.true_eq_false, Bool.false_eq_true, decide_true, decide_false, not_true_eq_false, not_false_eq_true, eq_self, zs_0 hz, zr_0_0 hz, zr_0_1 hz, zr_0_2 hz, zr_0_3 hz, zr_0_5 hz, zr_0_6 hz, zr_0_7 hz, zr_0_8 hz, zr_0_9 hz, zr_0_10 hz, zr_0_11 hz, zs_11 hz, zr_11_1 hz, zr_11_2 hz, zr_11_3 hz, zr_11_4 hz, zr_11_5 hz, zs_14 hz, zr_14_6 hz, q]
    · simp (disch := omega) only [m270, b270_0, k270_1, b270_1, e_iconst, e_lconst, e_null, e_ldc, e_iload0i, e_iload1i, e_iload2i, e_iload3i, e_iload4i, e_iload5i, e_iload6i, e_iload7i, e_iload8i, e_iload9i, e_iload10i, e_lload0l, e_lload1l, e_lload2l, e_lload3l, e_lload4l, e_lload5l, e_lload6l, e_lload7l, e_lload8l, e_lload9l, e_lload10l, e_aload0r, e_aload1r, e_aload2r, e_aload3r, e_aload4r, e_aload5r, e_aload6r, e_aload7r, e_aload8r, e_aload9r, e_aload10r, e_aload0n, e_aload1n, e_aload2n, e_aload3n, e_aload4n, e_aload5n, e_aload6n, e_aload7n, e_aload8n, e_aload9n, e_aload10n, e_aload0f, e_aload1f, e_aload2f, e_aload3f, e_aload4f, e_aload5f, e_aload6f, e_aload7f, e_aload8f, e_aload9f, e_aload10f, e_iinc0, e_iinc1, e_iinc2, e_iinc3, e_iinc4, e_iinc5, e_iinc6, e_iinc7, e_iinc8, e_iinc9, e_iinc10, xst_0, xst_1i, xst2_1i, xst_1r, xst2_1r, xst_1n, xst2_1n, xst_1f, xst2_1f, xst_1u, xst2_1u, xst_1l, xst2_1l, xst2_0, xst_s, xst2_s, e_istore, e_lstore, e_astore, e_astoreN, e_iadd, e_isub, e_imul, e_iand, e_ior, e_ixor, e_ishl, e_ishr, e_iushr, e_ladd, e_lsub, e_lmul, e_land, e_lor, e_lshl, e_lcmp, e_i2l, e_l2i, e_i2b, e_ineg, e_dupi, e_dupr, e_dup2, e_popi, e_popr, e_idiv, e_irem, e_ldiv, e_lrem, e_ifCond, e_if_icmp, e_ifnullR, e_ifnullN, e_ifnonnullR, e_ifnonnullN, e_goto, e_jsr, e_tsw, e_lsw, e_getfield, e_dload, e_fload, e_putfield, e_dstore, e_fstore, e_fstoreN, e_monitor, e_new, e_newarray, e_anewarray, e_mnew, e_alen, e_slen, e_schr, e_alenF, e_iaload, e_ialoadF, e_baload, e_laload, e_aaload, e_iastore, e_lastore, e_aastore, e_bastoreB, e_bastoreZ, e_copy, e_ireturnI, e_ireturnZ0, e_ireturnZ1, e_ireturnZb, e_lreturn, e_areturn, e_areturnA, e_areturnN, e_return, ofI, ofIm, ofJ, cat_i, cat_l, cat_r, cat_f, cat_n, xent_0, xent_i, xent_l, xent_r, xent_n, xent_f, xentry, xrf_s, xrf_n, List.getD_cons_zero, List.getD_cons_succ, List.length_cons, List.length_nil, List.cons_append, List.nil_append, List.append_nil, List.map_cons, List.map_nil, List.sum_cons, List.sum_nil, List.replicate, oT_s, oT_n, true_and, and_true, Nat.reduceAdd, Nat.reduceSub, Nat.reduceLeDiff, Nat.reduceEqDiff, Nat.reduceLT, Nat.reduceDiv, Nat.reduceMod, Nat.reduceMul, eq_self, ofN, nI_dec, nI_11, or_true, true_or, false_or, or_false, nI_e0, nI_0lt, Nat.succ_ne_zero, Nat.zero_lt_succ, lg_cmp_gt, lg_cmp_lt, lg_cmp_eq, nI_lt0, nI_add, pk_sub, pk_mul, Nat.add_sub_cancel, nI_clamp, vp_in_T, nI_ltI, nI_leI, nI_eqI, Nat.zero_add, Nat.add_zero, xc_eq, xc_ne, xc_lt, xc_ge, xc_gt, xc_le, bI_0, bI_0n, bI_n0, not_true_eq_false, not_false_eq_true, if_true, if_false, ite_true, ite_false, decide_true, decide_false, and_self, and_true, true_and, Bool.not_false, Bool.not_true, Bool.true_and, Bool.and_true, Bool.false_and, Bool.and_false, Bool.and_self, Bool.true_eq_false, Bool.false_eq_true, decide_true, decide_false, not_true_eq_false, not_false_eq_true, eq_self, zs_127 hz, zr_127_0 hz, zr_127_3 hz, zr_127_4 hz, zr_127_5 hz, zr_127_6 hz, zr_127_7 hz, zr_127_15 hz, zr_127_17 hz, zr_127_19 hz, zr_127_20 hz, zr_127_23 hz, zr_127_24 hz, zr_127_26 hz, zr_127_27 hz, zr_127_28 hz, zr_127_29 hz, zr_127_32 hz, zr_127_33 hz, zr_127_34 hz, zr_127_35 hz, zr_127_36 hz, zr_127_37 hz, zr_127_39 hz, zr_127_40 hz, zr_127_41 hz, zr_127_42 hz, zs_137 hz, zl_137 hz, q]
  · have ex := hC.2.2.2.2.1.2.2.2.1
    have ex2 := hR.2.2.1.2.2
    refine ⟨σ.2.2, setI h 11 7 y, setI (setI h 11 7 y) 127 22 y, ?_, fun Q => ?_, fun Q => ?_⟩
    · refine Rel.act (P := (· = 11)) (P' := fun _ => False) (J' := (· = 22)) (σ' := (σ.1, σ.2.1, y)) hC hR hG (Fr.sI rfl) (fun a z => by omega) hC.scn.sx (hC.his.fr (Fr.sI rfl : Fr (· = 11) h _) (fun a h1 h2 => by omega)) (FrR.s7 rfl) (fun a z => z.elim) (fun a z => .inr (.inr (.inl z))) ?_ ((hR.fr (Fr.sI rfl : Fr (· = 11) h _) (fun a z => by omega)).his.fr (FrR.s7 rfl : FrR (fun _ => False) (· = 22) _ _) id (by decide)) (hG.inv.sx q) hG.his
      refine ⟨?_, ?_, ?_⟩
      · rw [setI_row, xI_row_ne _ _ (by decide), setI_row, xI_row_ne _ _ (by decide)]; exact hR.2.2.1.1
      · rw [setI_row, xI_row_eq, upd_ne _ _ (by decide), setI_row, xI_row_ne _ _ (by decide)]; exact hR.2.2.1.2.1
      · rw [setI_row, xI_row_eq, upd_eq]
    · simp (disch := omega) only [m147, b147_0, k147_1, b147_1, e_iconst, e_lconst, e_null, e_ldc, e_iload0i, e_iload1i, e_iload2i, e_iload3i, e_iload4i, e_iload5i, e_iload6i, e_iload7i, e_iload8i, e_iload9i, e_iload10i, e_lload0l, e_lload1l, e_lload2l, e_lload3l, e_lload4l, e_lload5l, e_lload6l, e_lload7l, e_lload8l, e_lload9l, e_lload10l, e_aload0r, e_aload1r, e_aload2r, e_aload3r, e_aload4r, e_aload5r, e_aload6r, e_aload7r, e_aload8r, e_aload9r, e_aload10r, e_aload0n, e_aload1n, e_aload2n, e_aload3n, e_aload4n, e_aload5n, e_aload6n, e_aload7n, e_aload8n, e_aload9n, e_aload10n, e_aload0f, e_aload1f, e_aload2f, e_aload3f, e_aload4f, e_aload5f, e_aload6f, e_aload7f, e_aload8f, e_aload9f, e_aload10f, e_iinc0, e_iinc1, e_iinc2, e_iinc3, e_iinc4, e_iinc5, e_iinc6, e_iinc7, e_iinc8, e_iinc9, e_iinc10, xst_0, xst_1i, xst2_1i, xst_1r, xst2_1r, xst_1n, xst2_1n, xst_1f, xst2_1f, xst_1u, xst2_1u, xst_1l, xst2_1l, xst2_0, xst_s, xst2_s, e_istore, e_lstore, e_astore, e_astoreN, e_iadd, e_isub, e_imul, e_iand, e_ior, e_ixor, e_ishl, e_ishr, e_iushr, e_ladd, e_lsub, e_lmul, e_land, e_lor, e_lshl, e_lcmp, e_i2l, e_l2i, e_i2b, e_ineg, e_dupi, e_dupr, e_dup2, e_popi, e_popr, e_idiv, e_irem, e_ldiv, e_lrem, e_ifCond, e_if_icmp, e_ifnullR, e_ifnullN, e_ifnonnullR, e_ifnonnullN, e_goto, e_jsr, e_tsw, e_lsw, e_getfield, e_dload, e_fload, e_putfield, e_dstore, e_fstore, e_fstoreN, e_monitor, e_new, e_newarray, e_anewarray, e_mnew, e_alen, e_slen, e_schr, e_alenF, e_iaload, e_ialoadF, e_baload, e_laload, e_aaload, e_iastore, e_lastore, e_aastore, e_bastoreB, e_bastoreZ, e_copy, e_ireturnI, e_ireturnZ0, e_ireturnZ1, e_ireturnZb, e_lreturn, e_areturn, e_areturnA, e_areturnN, e_return, ofI, ofIm, ofJ, cat_i, cat_l, cat_r, cat_f, cat_n, xent_0, xent_i, xent_l, xent_r, xent_n, xent_f, xentry, xrf_s, xrf_n, List.getD_cons_zero, List.getD_cons_succ, List.length_cons, List.length_nil, List.cons_append, List.nil_append, List.append_nil, List.map_cons, List.map_nil, List.sum_cons, List.sum_nil, List.replicate, oT_s, oT_n, true_and, and_true, Nat.reduceAdd, Nat.reduceSub, Nat.reduceLeDiff, Nat.reduceEqDiff, Nat.reduceLT, Nat.reduceDiv, Nat.reduceMod, Nat.reduceMul, eq_self, ofN, nI_dec, nI_11, or_true, true_or, false_or, or_false, nI_e0, nI_0lt, Nat.succ_ne_zero, Nat.zero_lt_succ, lg_cmp_gt, lg_cmp_lt, lg_cmp_eq, nI_lt0, nI_add, pk_sub, pk_mul, Nat.add_sub_cancel, nI_clamp, vp_in_T, nI_ltI, nI_leI, nI_eqI, Nat.zero_add, Nat.add_zero, xc_eq, xc_ne, xc_lt, xc_ge, xc_gt, xc_le, bI_0, bI_0n, bI_n0, not_true_eq_false, not_false_eq_true, if_true, if_false, ite_true, ite_false, decide_true, decide_false, and_self, and_true, true_and, Bool.not_false, Bool.not_true, Bool.true_and, Bool.and_true, Bool.false_and, Bool.and_false, Bool.and_self, Bool.true_eq_false, Bool.false_eq_true, decide_true, decide_false, not_true_eq_false, not_false_eq_true, eq_self, zs_0 hz, zr_0_0 hz, zr_0_1 hz, zr_0_2 hz, zr_0_3 hz, zr_0_5 hz, zr_0_6 hz, zr_0_7 hz, zr_0_8 hz, zr_0_9 hz, zr_0_10 hz, zr_0_11 hz, zs_11 hz, zr_11_1 hz, zr_11_2 hz, zr_11_3 hz, zr_11_4 hz, zr_11_5 hz, zs_14 hz, zr_14_6 hz, q, ex, f6_7, f7_7]
    · have hz1 : Bas (setI h 11 7 y) := hz
      have e3 : xI (setI h 11 7 y) 127 22 = σ.2.2 := by rw [setI_row, xI_row_ne _ _ (by decide)]; exact ex2
      revert hz1 e3
      generalize setI h 11 7 y = h1
      intro hz e3
      simp (disch := omega) only [m270, b270_0, k270_1, b270_1, e_iconst, e_lconst, e_null, e_ldc, e_iload0i, e_iload1i, e_iload2i, e_iload3i, e_iload4i, e_iload5i, e_iload6i, e_iload7i, e_iload8i, e_iload9i, e_iload10i, e_lload0l, e_lload1l, e_lload2l, e_lload3l, e_lload4l, e_lload5l, e_lload6l, e_lload7l, e_lload8l, e_lload9l, e_lload10l, e_aload0r, e_aload1r, e_aload2r, e_aload3r, e_aload4r, e_aload5r, e_aload6r, e_aload7r, e_aload8r, e_aload9r, e_aload10r, e_aload0n, e_aload1n, e_aload2n, e_aload3n, e_aload4n, e_aload5n, e_aload6n, e_aload7n, e_aload8n, e_aload9n, e_aload10n, e_aload0f, e_aload1f, e_aload2f, e_aload3f, e_aload4f, e_aload5f, e_aload6f, e_aload7f, e_aload8f, e_aload9f, e_aload10f, e_iinc0, e_iinc1, e_iinc2, e_iinc3, e_iinc4, e_iinc5, e_iinc6, e_iinc7, e_iinc8, e_iinc9, e_iinc10, xst_0, xst_1i, xst2_1i, xst_1r, xst2_1r, xst_1n, xst2_1n, xst_1f, xst2_1f, xst_1u, xst2_1u, xst_1l, xst2_1l, xst2_0, xst_s, xst2_s, e_istore, e_lstore, e_astore, e_astoreN, e_iadd, e_isub, e_imul, e_iand, e_ior, e_ixor, e_ishl, e_ishr, e_iushr, e_ladd, e_lsub, e_lmul, e_land, e_lor, e_lshl, e_lcmp, e_i2l, e_l2i, e_i2b, e_ineg, e_dupi, e_dupr, e_dup2, e_popi, e_popr, e_idiv, e_irem, e_ldiv, e_lrem, e_ifCond, e_if_icmp, e_ifnullR, e_ifnullN, e_ifnonnullR, e_ifnonnullN, e_goto, e_jsr, e_tsw, e_lsw, e_getfield, e_dload, e_fload, e_putfield, e_dstore, e_fstore, e_fstoreN, e_monitor, e_new, e_newarray, e_anewarray, e_mnew, e_alen, e_slen, e_schr, e_alenF, e_iaload, e_ialoadF, e_baload, e_laload, e_aaload, e_iastore, e_lastore, e_aastore, e_bastoreB, e_bastoreZ, e_copy, e_ireturnI, e_ireturnZ0, e_ireturnZ1, e_ireturnZb, e_lreturn, e_areturn, e_areturnA, e_areturnN, e_return, ofI, ofIm, ofJ, cat_i, cat_l, cat_r, cat_f, cat_n, xent_0, xent_i, xent_l, xent_r, xent_n, xent_f, xentry, xrf_s, xrf_n, List.getD_cons_zero, List.getD_cons_succ, List.length_cons, List.length_nil, List.cons_append, List.nil_append, List.append_nil, List.map_cons, List.map_nil, List.sum_cons, List.sum_nil, List.replicate, oT_s, oT_n, true_and, and_true, Nat.reduceAdd, Nat.reduceSub, Nat.reduceLeDiff, Nat.reduceEqDiff, Nat.reduceLT, Nat.reduceDiv, Nat.reduceMod, Nat.reduceMul, eq_self, ofN, nI_dec, nI_11, or_true, true_or, false_or, or_false, nI_e0, nI_0lt, Nat.succ_ne_zero, Nat.zero_lt_succ, lg_cmp_gt, lg_cmp_lt, lg_cmp_eq, nI_lt0, nI_add, pk_sub, pk_mul, Nat.add_sub_cancel, nI_clamp, vp_in_T, nI_ltI, nI_leI, nI_eqI, Nat.zero_add, Nat.add_zero, xc_eq, xc_ne, xc_lt, xc_ge, xc_gt, xc_le, bI_0, bI_0n, bI_n0, not_true_eq_false, not_false_eq_true, if_true, if_false, ite_true, ite_false, decide_true, decide_false, and_self, and_true, true_and, Bool.not_false, Bool.not_true, Bool.true_and, Bool.and_true, Bool.false_and, Bool.and_false, Bool.and_self, Bool.true_eq_false, Bool.false_eq_true, decide_true, decide_false, not_true_eq_false, not_false_eq_true, eq_self, zs_127 hz, zr_127_0 hz, zr_127_3 hz, zr_127_4 hz, zr_127_5 hz, zr_127_6 hz, zr_127_7 hz, zr_127_15 hz, zr_127_17 hz, zr_127_19 hz, zr_127_20 hz, zr_127_23 hz, zr_127_24 hz, zr_127_26 hz, zr_127_27 hz, zr_127_28 hz, zr_127_29 hz, zr_127_32 hz, zr_127_33 hz, zr_127_34 hz, zr_127_35 hz, zr_127_36 hz, zr_127_37 hz, zr_127_39 hz, zr_127_40 hz, zr_127_41 hz, zr_127_42 hz, zs_137 hz, zl_137 hz, q, e3, f12_22]
end SM
