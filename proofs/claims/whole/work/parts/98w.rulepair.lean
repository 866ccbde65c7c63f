section RY
variable {L d : Nat} {xs : Nat → Int32} {h h1 : xH} {Q : xQ} {p o n w t k : Nat} {x y z fo xx : Int32} {T : Nat} {tp : Nat → Int32} {R : List (List Cl)} {σ σ' : Sn} {u u' : Nat} {H H' : Nat → Nat → Int32} {ι : Nat → Option Sn} {s s' f g : Nat → Int32}
variable {B : Nat → Nat} {f0 m : Nat} {cls : List Cl}
theorem run_ru (hTb : ∀ i, i < T → B i < 256) (hT4 : T ≤ 400) : runF B T 401 0 ([], [], 0, 0, 0, 0) = match ruF B T 13 0 0 0 [] with
    | .error f => .error f
    | .ok cls' => .ok (clsC cls') := E_ru hTb hT4 13 0 0 0 [] 401 0 rfl (by decide) (by omega) (Nat.zero_le _) (by decide)
/-- a rule that is no rule -/
theorem rule_bad (hC : CRel h T tp R σ u H ι) (hR : RRel h T tp R σ u H ι) (hG : Good T tp R σ u H ι) (h6 : R.length < 6) (hB : ∀ i, i < T → B i < 256 ∧ tp i = byX (B i)) (ef : ruF B T 13 0 0 0 [] = .error f0) : ∃ v h1 h2, Rel h2 ∧ (∀ Q, Call (pG L xs) pM (d + 40) 121 [.ref 0] h Q = Q (some (.int v)) h1) ∧ ∀ Q, Call (pG L xs) pM (d + 40) 195 [.ref 127] h1 Q = Q (some (.int v)) h2 := by
  have hz := hC.1
  have hTb : ∀ i, i < T → B i < 256 := fun i hi => (hB i hi).1
  have tC : TC h T B := ⟨hG.1, hC.tap.1, fun i hi => ⟨(hB i hi).1, (hC.tap.2 i hi).trans (hB i hi).2⟩⟩
  have er := run_ru hTb hG.1
  rw [ef] at er
  have q12 := run_er hG.1 401 0 _ f0 (Nat.zero_le _) er
  obtain ⟨q1, q2⟩ := q12
  obtain ⟨h1, f1, c1⟩ := (c_readR (L := L) (d := d + 32) (xs := xs) hz tC).1 f0 er
  have z1 := f1.bas hz
  have fc : Fr QP h (setI h1 1 1 (nI 0)) := f1.tr (Fr.sI (.inl rfl))
  have zc := fc.bas hz
  have hR1 := hR.fr fc (fun a z => by unfold QP at z; omega)
  have tR1 : TR (setI h1 1 1 (nI 0)) T B := ⟨hG.1, hR1.tap.1, fun i hi => ⟨(hB i hi).1, (hR1.tap.2 i hi).trans (hB i hi).2⟩⟩
  obtain ⟨h2, f2, x1, x2, c2⟩ := (r_rule (L := L) (d := d + 27) (xs := xs) zc tR1 h6 hR1.rul.1 (fun f e => by rw [ef] at e; cases e; exact ⟨q1, q2⟩)).1 f0 ef
  have q1' : (f0 = 0) = False := eq_false q1
  have e4 := hC.rul.1
  refine ⟨-(nI 2) - nI f0, setI h1 1 1 (nI 0), h2, ⟨0, tp, R, σ, u, H, ι, ?_, ?_, ?_⟩, fun Q => ?_, c2⟩
  · obtain ⟨a1, a2, a3, a4, a5, a6, a7, a8, a9, a10⟩ := hC
    have : CRel (setI h1 1 1 (nI 0)) 0 tp R σ u H ι := by
      refine ⟨zc, a2.fr fc, ⟨by rw [xI_sI, if_pos ⟨rfl, rfl⟩], fun i hi => by omega⟩, a4.fr fc (by unfold QP; omega) (fun a z => by unfold QP at z; omega), a5.fr fc (fun a _ h2 => by unfold QP; omega), a6.fr fc (fun a _ h2 => by unfold QP; omega), a7.fr fc (fun a _ h2 => by unfold QP; omega), a8.fr fc (by unfold QP; omega) (by unfold QP; omega), a9.fr fc (by unfold QP; omega) (by unfold QP; omega), a10.fr fc (by unfold QP; omega) (by unfold QP; omega)⟩
    exact this.fr f2.1.fr (fun a z => by unfold CP at z; omega)
  · obtain ⟨b1, b2, b3, b4, b5⟩ := hR1
    refine ⟨⟨x1, fun i hi => by omega⟩, ⟨x2, fun i cls hi => f2.rr (List.getElem?_eq_some_iff.mp hi).1 (b2.2 i cls hi)⟩, ?_, HistR.fr f2.1 (by unfold CP; decide) (by unfold EJ; decide) b4, ?_⟩
    · unfold SceneR at *
      rw [f2.1.2.2.2.1 137 (by decide) (by unfold CP; decide), f2.1.2.2.2.2 21 (by unfold EJ; decide), f2.1.2.2.2.2 22 (by unfold EJ; decide)]; exact b3
    · unfold ImgR at *
      rw [f2.1.2.2.2.1 150 (by decide) (by unfold CP; decide), f2.1.2.2.2.1 151 (by decide) (by unfold CP; decide), f2.1.2.2.2.1 152 (by decide) (by unfold CP; decide), f2.1.2.2.2.1 153 (by decide) (by unfold CP; decide)]; exact b5
  · exact ⟨by omega, fun i hi => by omega, hG.2.2⟩
  · simp (disch := omega) only [m121, b121_0, k121_1, b121_1, e_iconst, e_lconst, e_null, e_ldc, e_iload0i, e_iload1i, e_iload2i, e_iload3i, e_iload4i, e_iload5i, e_iload6i, e_iload7i, e_iload8i, e_iload9i, e_iload10i, e_lload0l, e_lload1l, e_lload2l, e_lload3l, e_lload4l, e_lload5l, e_lload6l, e_lload7l, e_lload8l, e_lload9l, e_lload10l, e_aload0r, e_aload1r, e_aload2r, e_aload3r, e_aload4r, e_aload5r, e_aload6r, e_aload7r, e_aload8r, e_aload9r, e_aload10r, e_aload0n, e_aload1n, e_aload2n, e_aload3n, e_aload4n, e_aload5n, e_aload6n, e_aload7n, e_aload8n, e_aload9n, e_aload10n, e_aload0f, e_aload1f, e_aload2f, e_aload3f, e_aload4f, e_aload5f, e_aload6f, e_aload7f, e_aload8f, e_aload9f, e_aload10f, e_iinc0, e_iinc1, e_iinc2, e_iinc3, e_iinc4, e_iinc5, e_iinc6, e_iinc7, e_iinc8, e_iinc9, e_iinc10, xst_0, xst_1i, xst2_1i, xst_1r, xst2_1r, xst_1n, xst2_1n, xst_1f, xst2_1f, xst_1u, xst2_1u, xst_1l, xst2_1l, xst2_0, xst_s, xst2_s, e_istore, e_lstore, e_astore, e_astoreN, e_iadd, e_isub, e_imul, e_iand, e_ior, e_ixor, e_ishl, e_ishr, e_iushr, e_ladd, e_lsub, e_lmul, e_land, e_lor, e_lshl, e_lcmp, e_i2l, e_l2i, e_i2b, e_ineg, e_dupi, e_dupr, e_dup2, e_popi, e_popr, e_idiv, e_irem, e_ldiv, e_lrem, e_ifCond, e_if_icmp, e_ifnullR, e_ifnullN, e_ifnonnullR, e_ifnonnullN, e_goto, e_jsr, e_tsw, e_lsw, e_getfield, e_dload, e_fload, e_putfield, e_dstore, e_fstore, e_fstoreN, e_monitor, e_new, e_newarray, e_anewarray, e_mnew, e_alen, e_slen, e_schr, e_alenF, e_iaload, e_ialoadF, e_baload, e_laload, e_aaload, e_iastore, e_lastore, e_aastore, e_bastoreB, e_bastoreZ, e_copy, e_ireturnI, e_ireturnZ0, e_ireturnZ1, e_ireturnZb, e_lreturn, e_areturn, e_areturnA, e_areturnN, e_return, ofI, ofIm, ofJ, cat_i, cat_l, cat_r, cat_f, cat_n, xent_0, xent_i, xent_l, xent_r, xent_n, xent_f, xentry, xrf_s, xrf_n, List.getD_cons_zero, List.getD_cons_succ, List.length_cons, List.length_nil, List.cons_append, List.nil_append, List.append_nil, List.map_cons, List.map_nil, List.sum_cons, List.sum_nil, List.replicate, oT_s, oT_n, true_and, and_true, Nat.reduceAdd, Nat.reduceSub, Nat.reduceLeDiff, Nat.reduceEqDiff, Nat.reduceLT, Nat.reduceDiv, Nat.reduceMod, Nat.reduceMul, eq_self, ofN, nI_dec, nI_11, or_true, true_or, false_or, or_false, nI_e0, nI_0lt, Nat.succ_ne_zero, Nat.zero_lt_succ, lg_cmp_gt, lg_cmp_lt, lg_cmp_eq, nI_lt0, nI_add, pk_sub, pk_mul, Nat.add_sub_cancel, nI_clamp, vp_in_T, nI_ltI, nI_leI, nI_eqI, Nat.zero_add, Nat.add_zero, xc_eq, xc_ne, xc_lt, xc_ge, xc_gt, xc_le, bI_0, bI_0n, bI_n0, not_true_eq_false, not_false_eq_true, if_true, if_false, ite_true, ite_false, decide_true, decide_false, and_self, and_true, true_and, zs_0 hz, zr_0_0 hz, zr_0_1 hz, zr_0_2 hz, zr_0_3 hz, zr_0_5 hz, zr_0_6 hz, zr_0_7 hz, zr_0_8 hz, zr_0_9 hz, zr_0_10 hz, zr_0_11 hz, zs_7 hz, e4, h6, zs_0 z1, zr_0_0 z1, zs_1 z1, v46, c1, f8_1, q1']
/-- a heap that has grown, seen as one that hasn't -/
def mixI (h g : xH) : xH := (h.1, h.2.1, g.2.2.1, h.2.2.2.1, h.2.2.2.2)
theorem mix_fr {P : Nat → Prop} {g : xH} (e : ∀ b, ¬ P b → xI g b = xI h b) : Fr P h (mixI h g) := ⟨rfl, rfl, rfl, fun b hb => e b hb⟩
def MP (a : Nat) : Prop := a = 0 ∨ 154 ≤ a
theorem rule_good (hC : CRel h T tp R σ u H ι) (hR : RRel h T tp R σ u H ι) (hG : Good T tp R σ u H ι) (h6 : R.length < 6) (hB : ∀ i, i < T → B i < 256 ∧ tp i = byX (B i)) (ef : ruF B T 13 0 0 0 [] = .ok cls) : ∃ v h1 h2, Rel h2 ∧ (∀ Q, Call (pG L xs) pM (d + 40) 121 [.ref 0] h Q = Q (some (.int v)) h1) ∧ ∀ Q, Call (pG L xs) pM (d + 40) 195 [.ref 127] h1 Q = Q (some (.int v)) h2 := by
  have hz := hC.1
  have t4 := hG.1
  have hTb : ∀ i, i < T → B i < 256 := fun i hi => (hB i hi).1
  have tC : TC h T B := ⟨hG.1, hC.tap.1, fun i hi => ⟨(hB i hi).1, (hC.tap.2 i hi).trans (hB i hi).2⟩⟩
  obtain ⟨ok1, ok2, ok3⟩ := ruF_ok hTb t4 13 0 0 0 [] cls rfl (by decide) rfl (Nat.zero_le _) (by decide) trivial (Nat.le_refl _) ef
  have er := run_ru hTb hG.1
  rw [ef] at er
  dsimp only at er
  obtain ⟨l1, h1, f1, o1, c1⟩ := (c_readR (L := L) (d := d + 32) (xs := xs) hz tC).2 _ er
  have ln := clsC_len cls
  have z1 := f1.bas hz
  have fc : Fr QP h (setI h1 1 1 (nI 0)) := f1.tr (Fr.sI (.inl rfl))
  have oA : OuC (setI h1 1 1 (nI 0)) (clsC cls) := ⟨by rw [xI_s_ne (by decide)]; exact o1.1, fun i o hi => by rw [xI_s_ne (by decide)]; exact o1.2 i o hi⟩
  have tA : xI (setI h1 1 1 (nI 0)) 1 1 = nI 0 := by rw [xI_sI, if_pos ⟨rfl, rfl⟩]
  have e4h := hC.rul.1
  have start : ∀ Q, Call (pG L xs) pM (d + 40) 121 [.ref 0] h Q = Ev (pG L xs) pM (d + 39) b121 (some .int) Q b121_2 [some (.ref 0), some (.int (nI 0))] [] (setI h1 1 1 (nI 0)) := by
    intro Q
    simp (disch := omega) only [m121, b121_0, k121_1, b121_1, k121_2, e_iconst, e_lconst, e_null, e_ldc, e_iload0i, e_iload1i, e_iload2i, e_iload3i, e_iload4i, e_iload5i, e_iload6i, e_iload7i, e_iload8i, e_iload9i, e_iload10i, e_lload0l, e_lload1l, e_lload2l, e_lload3l, e_lload4l, e_lload5l, e_lload6l, e_lload7l, e_lload8l, e_lload9l, e_lload10l, e_aload0r, e_aload1r, e_aload2r, e_aload3r, e_aload4r, e_aload5r, e_aload6r, e_aload7r, e_aload8r, e_aload9r, e_aload10r, e_aload0n, e_aload1n, e_aload2n, e_aload3n, e_aload4n, e_aload5n, e_aload6n, e_aload7n, e_aload8n, e_aload9n, e_aload10n, e_aload0f, e_aload1f, e_aload2f, e_aload3f, e_aload4f, e_aload5f, e_aload6f, e_aload7f, e_aload8f, e_aload9f, e_aload10f, e_iinc0, e_iinc1, e_iinc2, e_iinc3, e_iinc4, e_iinc5, e_iinc6, e_iinc7, e_iinc8, e_iinc9, e_iinc10, xst_0, xst_1i, xst2_1i, xst_1r, xst2_1r, xst_1n, xst2_1n, xst_1f, xst2_1f, xst_1u, xst2_1u, xst_1l, xst2_1l, xst2_0, xst_s, xst2_s, e_istore, e_lstore, e_astore, e_astoreN, e_iadd, e_isub, e_imul, e_iand, e_ior, e_ixor, e_ishl, e_ishr, e_iushr, e_ladd, e_lsub, e_lmul, e_land, e_lor, e_lshl, e_lcmp, e_i2l, e_l2i, e_i2b, e_ineg, e_dupi, e_dupr, e_dup2, e_popi, e_popr, e_idiv, e_irem, e_ldiv, e_lrem, e_ifCond, e_if_icmp, e_ifnullR, e_ifnullN, e_ifnonnullR, e_ifnonnullN, e_goto, e_jsr, e_tsw, e_lsw, e_getfield, e_dload, e_fload, e_putfield, e_dstore, e_fstore, e_fstoreN, e_monitor, e_new, e_newarray, e_anewarray, e_mnew, e_alen, e_slen, e_schr, e_alenF, e_iaload, e_ialoadF, e_baload, e_laload, e_aaload, e_iastore, e_lastore, e_aastore, e_bastoreB, e_bastoreZ, e_copy, e_ireturnI, e_ireturnZ0, e_ireturnZ1, e_ireturnZb, e_lreturn, e_areturn, e_areturnA, e_areturnN, e_return, ofI, ofIm, ofJ, cat_i, cat_l, cat_r, cat_f, cat_n, xent_0, xent_i, xent_l, xent_r, xent_n, xent_f, xentry, xrf_s, xrf_n, List.getD_cons_zero, List.getD_cons_succ, List.length_cons, List.length_nil, List.cons_append, List.nil_append, List.append_nil, List.map_cons, List.map_nil, List.sum_cons, List.sum_nil, List.replicate, oT_s, oT_n, true_and, and_true, Nat.reduceAdd, Nat.reduceSub, Nat.reduceLeDiff, Nat.reduceEqDiff, Nat.reduceLT, Nat.reduceDiv, Nat.reduceMod, Nat.reduceMul, eq_self, ofN, nI_dec, nI_11, or_true, true_or, false_or, or_false, nI_e0, nI_0lt, Nat.succ_ne_zero, Nat.zero_lt_succ, lg_cmp_gt, lg_cmp_lt, lg_cmp_eq, nI_lt0, nI_add, pk_sub, pk_mul, Nat.add_sub_cancel, nI_clamp, vp_in_T, nI_ltI, nI_leI, nI_eqI, Nat.zero_add, Nat.add_zero, xc_eq, xc_ne, xc_lt, xc_ge, xc_gt, xc_le, bI_0, bI_0n, bI_n0, not_true_eq_false, not_false_eq_true, if_true, if_false, ite_true, ite_false, decide_true, decide_false, and_self, and_true, true_and, zs_0 hz, zr_0_0 hz, zr_0_1 hz, zr_0_2 hz, zr_0_3 hz, zr_0_5 hz, zr_0_6 hz, zr_0_7 hz, zr_0_8 hz, zr_0_9 hz, zr_0_10 hz, zr_0_11 hz, zs_7 hz, e4h, h6, zs_0 z1, zr_0_0 z1, zs_1 z1, v46, c1, f8_1]
  revert fc oA tA start
  generalize setI h1 1 1 (nI 0) = hA
  intro fc oA tA start
  have zA := fc.bas hz
  have hb := zA.1
  have rmA : Room hA R.length := hC.2.1.fr fc
  have rulA : RulesC hA R := hC.rul.fr fc (by unfold QP; omega) (fun a z => by unfold QP at z; omega)
  have e4 := rulA.1
  have hRA := hR.fr fc (fun a z => by unfold QP at z; omega)
  obtain ⟨hN, n1, n2, n3, n4, n5, n6, n7, n8, c2⟩ := c_made (L := L) (d := d + 35) (xs := xs) zA oA (by omega) (fun i o hi => cls_lt cls ok1 o (List.mem_of_getElem? hi))
  have shN : ∀ {b : Nat} {q : FieldType ⊕ Nat}, b < hA.1 → xis hA b q → xis hN b q := fun hb hq => ⟨by rw [n1]; omega, by rw [n2 _ hb]; exact hq.2⟩
  have zN : Bas hN := ⟨by rw [n1]; omega, fun k hk => by rw [n2 k (by omega)]; exact zA.2.1 k hk, fun k hk h10 => by rw [n4 k (by omega)]; exact zA.2.2 k hk h10⟩
  have e4N : xI hN 0 4 = nI R.length := by rw [n3 0 (by omega)]; exact e4
  have e4Z : xI (setR hN 10 R.length (some hA.1)) 0 4 = nI R.length := by rw [xI_sR]; exact e4N
  have zS : Bas (setR hN 10 R.length (some hA.1)) := ⟨zN.1, zN.2.1, fun k hk h10 => by
    funext j
    rw [xR_sR, if_neg (fun z => h10 z.1)]
    exact congrFun (zN.2.2 k hk h10) j⟩
  have e4Y : xI (setI (setR hN 10 R.length (some hA.1)) 0 4 (nI (R.length + 1))) 0 4 = nI (R.length + 1) := by rw [xI_sI, if_pos ⟨rfl, rfl⟩]
  have al : (∃ c, xis hN hA.1 (Sum.inr c) ∧ xis hN 10 (Sum.inl (FieldType.object ((pG L xs).2.2.2.2.1 c))) ∧ vp_in (nI R.length) (xlen hN 10)) = True := eq_true ⟨5, n5.1, zs_10 zN, by rw [zl_10 zN]; simp (disch := omega) only [eq_self, ofN, nI_dec, nI_11, or_true, true_or, false_or, or_false, nI_e0, nI_0lt, Nat.succ_ne_zero, Nat.zero_lt_succ, lg_cmp_gt, lg_cmp_lt, lg_cmp_eq, nI_lt0, nI_add, pk_sub, pk_mul, Nat.add_sub_cancel, nI_clamp, vp_in_T, nI_ltI, nI_leI, nI_eqI, Nat.zero_add, Nat.add_zero, xc_eq, xc_ne, xc_lt, xc_ge, xc_gt, xc_le, bI_0, bI_0n, bI_n0, not_true_eq_false, not_false_eq_true, if_true, if_false, ite_true, ite_false, decide_true, decide_false, and_self, and_true, true_and]⟩
  have cc : ∀ Q, Call (pG L xs) pM (d + 40) 121 [.ref 0] h Q = Q (some (.int (nI R.length))) (setI (setR hN 10 R.length (some hA.1)) 0 4 (nI (R.length + 1))) := by
    intro Q
    rw [start Q, b121_2]
    simp (disch := omega) only [e_iconst, e_lconst, e_null, e_ldc, e_iload0i, e_iload1i, e_iload2i, e_iload3i, e_iload4i, e_iload5i, e_iload6i, e_iload7i, e_iload8i, e_iload9i, e_iload10i, e_lload0l, e_lload1l, e_lload2l, e_lload3l, e_lload4l, e_lload5l, e_lload6l, e_lload7l, e_lload8l, e_lload9l, e_lload10l, e_aload0r, e_aload1r, e_aload2r, e_aload3r, e_aload4r, e_aload5r, e_aload6r, e_aload7r, e_aload8r, e_aload9r, e_aload10r, e_aload0n, e_aload1n, e_aload2n, e_aload3n, e_aload4n, e_aload5n, e_aload6n, e_aload7n, e_aload8n, e_aload9n, e_aload10n, e_aload0f, e_aload1f, e_aload2f, e_aload3f, e_aload4f, e_aload5f, e_aload6f, e_aload7f, e_aload8f, e_aload9f, e_aload10f, e_iinc0, e_iinc1, e_iinc2, e_iinc3, e_iinc4, e_iinc5, e_iinc6, e_iinc7, e_iinc8, e_iinc9, e_iinc10, xst_0, xst_1i, xst2_1i, xst_1r, xst2_1r, xst_1n, xst2_1n, xst_1f, xst2_1f, xst_1u, xst2_1u, xst_1l, xst2_1l, xst2_0, xst_s, xst2_s, e_istore, e_lstore, e_astore, e_astoreN, e_iadd, e_isub, e_imul, e_iand, e_ior, e_ixor, e_ishl, e_ishr, e_iushr, e_ladd, e_lsub, e_lmul, e_land, e_lor, e_lshl, e_lcmp, e_i2l, e_l2i, e_i2b, e_ineg, e_dupi, e_dupr, e_dup2, e_popi, e_popr, e_idiv, e_irem, e_ldiv, e_lrem, e_ifCond, e_if_icmp, e_ifnullR, e_ifnullN, e_ifnonnullR, e_ifnonnullN, e_goto, e_jsr, e_tsw, e_lsw, e_getfield, e_dload, e_fload, e_putfield, e_dstore, e_fstore, e_fstoreN, e_monitor, e_new, e_newarray, e_anewarray, e_mnew, e_alen, e_slen, e_schr, e_alenF, e_iaload, e_ialoadF, e_baload, e_laload, e_aaload, e_iastore, e_lastore, e_aastore, e_bastoreB, e_bastoreZ, e_copy, e_ireturnI, e_ireturnZ0, e_ireturnZ1, e_ireturnZb, e_lreturn, e_areturn, e_areturnA, e_areturnN, e_return, ofI, ofIm, ofJ, cat_i, cat_l, cat_r, cat_f, cat_n, xent_0, xent_i, xent_l, xent_r, xent_n, xent_f, xentry, xrf_s, xrf_n, List.getD_cons_zero, List.getD_cons_succ, List.length_cons, List.length_nil, List.cons_append, List.nil_append, List.append_nil, List.map_cons, List.map_nil, List.sum_cons, List.sum_nil, List.replicate, oT_s, oT_n, true_and, and_true, Nat.reduceAdd, Nat.reduceSub, Nat.reduceLeDiff, Nat.reduceEqDiff, Nat.reduceLT, Nat.reduceDiv, Nat.reduceMod, Nat.reduceMul, eq_self, ofN, nI_dec, nI_11, or_true, true_or, false_or, or_false, nI_e0, nI_0lt, Nat.succ_ne_zero, Nat.zero_lt_succ, lg_cmp_gt, lg_cmp_lt, lg_cmp_eq, nI_lt0, nI_add, pk_sub, pk_mul, Nat.add_sub_cancel, nI_clamp, vp_in_T, nI_ltI, nI_leI, nI_eqI, Nat.zero_add, Nat.add_zero, xc_eq, xc_ne, xc_lt, xc_ge, xc_gt, xc_le, bI_0, bI_0n, bI_n0, not_true_eq_false, not_false_eq_true, if_true, if_false, ite_true, ite_false, decide_true, decide_false, and_self, and_true, true_and, zs_0 zA, zr_0_3 zA, zr_0_2 zA, zs_7 zA, e4, v47, c2, al, zs_0 zS, e4Z, xis_sI, e4Y, f11_4]
  have zZ : Bas (setI (setR hN 10 R.length (some hA.1)) 0 4 (nI (R.length + 1))) := zS.sI
  have xZ : ∀ b, b ≠ 0 → xI (setI (setR hN 10 R.length (some hA.1)) 0 4 (nI (R.length + 1))) b = xI hN b := fun b hb => by rw [xI_s_ne hb, xI_sR]
  have rZ : ∀ b, b ≠ 10 → xR (setI (setR hN 10 R.length (some hA.1)) 0 4 (nI (R.length + 1))) b = xR hN b := fun b hb => by
    funext j
    rw [xR_sI, xR_sR, if_neg (fun z => hb z.1)]
  have rZ10 : ∀ j, xR (setI (setR hN 10 R.length (some hA.1)) 0 4 (nI (R.length + 1))) 10 j = if j = R.length then some hA.1 else xR hN 10 j := fun j => by
    rw [xR_sI, xR_sR]
    by_cases z : j = R.length
    · rw [if_pos ⟨rfl, z⟩, if_pos z]
    · rw [if_neg (fun y => z y.2), if_neg z]
  have sZ : ∀ {b : Nat} {q : FieldType ⊕ Nat}, xis hN b q → xis (setI (setR hN 10 R.length (some hA.1)) 0 4 (nI (R.length + 1))) b q := fun hq => by rw [xis_sI, xis_sR]; exact hq
  have lZ : ∀ {b : Nat}, xlen (setI (setR hN 10 R.length (some hA.1)) 0 4 (nI (R.length + 1))) b = xlen hN b := by intro b; rw [xlen_sI, xlen_sR]
  have mZ : Room (setI (setR hN 10 R.length (some hA.1)) 0 4 (nI (R.length + 1))) (R.length + 1) := by
    obtain ⟨m1, m2⟩ := rmA
    refine ⟨?_, ?_⟩
    · show hN.1 = _
      rw [n1, m1]; omega
    · have : xsl (setI (setR hN 10 R.length (some hA.1)) 0 4 (nI (R.length + 1))) = xsl hN := rfl
      rw [this, n8]; omega
  revert cc zZ xZ rZ rZ10 sZ lZ mZ e4Y
  generalize setI (setR hN 10 R.length (some hA.1)) 0 4 (nI (R.length + 1)) = hZ
  intro e4Y cc zZ xZ rZ rZ10 sZ lZ mZ
  have fM : Fr MP hA (mixI hA hZ) := mix_fr (fun b hb => by unfold MP at hb; rw [xZ b (by omega), n3 b (by omega)])
  have ruZ : RulesC hZ (R ++ [cls]) := by
    refine ⟨by rw [e4Y, List.length_append]; rfl, fun i c' hi => ?_⟩
    by_cases q : i < R.length
    · rw [List.getElem?_append_left q] at hi
      obtain ⟨r, r1, c, st, m, ⟨k1, k2, k3, k4, k5, k6, k7⟩, k8, k9, k10, k11, k12, k13, k14⟩ := rulA.2 i c' hi
      refine ⟨r, by rw [rZ10, if_neg (by omega), n4 10 (by omega)]; exact r1, c, st, m, ⟨sZ (shN k1.1 k1), by rw [rZ r (by omega), n4 r k1.1]; exact k2, by rw [rZ r (by omega), n4 r k1.1]; exact k3, sZ (shN k4.1 k4), sZ (shN k5.1 k5), by rw [lZ]; unfold xlen; rw [n2 st k5.1]; exact k6, by rw [lZ]; unfold xlen; rw [n2 c k4.1]; exact k7⟩, by rw [xZ c (by omega), n3 c k4.1]; exact k8, k9, k10, k11, k12, k13, by rw [xZ r (by omega), n3 r k1.1]; exact k14⟩
    · have hl := (List.getElem?_eq_some_iff.mp hi).1
      rw [List.length_append, List.length_singleton] at hl
      obtain rfl : i = R.length := by omega
      rw [List.getElem?_append_right (Nat.le_refl _), Nat.sub_self] at hi
      cases hi
      obtain ⟨k1, k2, k3, k4, k5, k6, k7⟩ := n5
      refine ⟨hA.1, by rw [rZ10, if_pos rfl], hA.1 + 1, hA.1 + 2, (clsC cls).length, ⟨sZ k1, by rw [rZ _ (by omega)]; exact k2, by rw [rZ _ (by omega)]; exact k3, sZ k4, sZ k5, by rw [lZ]; exact k6, by rw [lZ]; exact k7⟩, CodeC_of cls 0 (fun i o hi => by rw [xZ _ (by omega), Nat.zero_add]; exact n6 i o hi), ok1, ln.symm, by omega, by omega, by omega, by rw [xZ _ (by omega), n7, clsDay_any cls ok1]⟩
  have hRM : RRel (mixI hA hZ) T tp R σ u H ι := hRA.fr fM (fun a z => by unfold MP at z; omega)
  have hRZ : RRel hZ T tp R σ u H ι := hRM
  have cZ : CRel hZ 0 tp (R ++ [cls]) σ u H ι := by
    obtain ⟨a1, a2, a3, a4, a5, a6, a7, a8, a9, a10⟩ := hC
    have s5 := (a5.fr fc (fun a _ h2 => by unfold QP; omega)).fr fM (fun a _ h2 => by unfold MP; omega)
    have s6 := (a6.fr fc (fun a _ h2 => by unfold QP; omega)).fr fM (fun a _ h2 => by unfold MP; omega)
    have s7 := (a7.fr fc (fun a _ h2 => by unfold QP; omega)).fr fM (fun a _ h2 => by unfold MP; omega)
    have s8 := (a8.fr fc (by unfold QP; omega) (by unfold QP; omega)).fr fM (by unfold MP; omega) (by unfold MP; omega)
    have s9 := (a9.fr fc (by unfold QP; omega) (by unfold QP; omega)).fr fM (by unfold MP; omega) (by unfold MP; omega)
    have s10 := (a10.fr fc (by unfold QP; omega) (by unfold QP; omega)).fr fM (by unfold MP; omega) (by unfold MP; omega)
    exact ⟨zZ, by rw [List.length_append]; exact mZ, ⟨by rw [xZ 1 (by decide), n3 1 (by omega)]; exact tA, fun i hi => by omega⟩, ruZ, s5, s6, s7, s8, s9, s10⟩
  have tR1 : TR hZ T B := ⟨hG.1, hRZ.tap.1, fun i hi => ⟨(hB i hi).1, (hRZ.tap.2 i hi).trans (hB i hi).2⟩⟩
  obtain ⟨h2, f2, x1, x2, x3, x4, c3⟩ := (r_rule (L := L) (d := d + 27) (xs := xs) zZ tR1 h6 hRZ.rul.1 (fun f e => by rw [ef] at e; cases e)).2 cls ef
  refine ⟨nI R.length, hZ, h2, ⟨0, tp, R ++ [cls], σ, u, H, ι, cZ.fr f2.1.fr (fun a z => by unfold CP at z; omega), ?_, ?_⟩, cc, c3⟩
  · obtain ⟨b1, b2, b3, b4, b5⟩ := hRZ
    refine ⟨⟨x1, fun i hi => by omega⟩, ⟨by rw [x2, List.length_append]; rfl, fun i c' hi => ?_⟩, ?_, HistR.fr f2.1 (by unfold CP; decide) (by unfold EJ; decide) b4, ?_⟩
    · by_cases q : i < R.length
      · rw [List.getElem?_append_left q] at hi
        exact f2.rr q (b2.2 i c' hi)
      · have hl := (List.getElem?_eq_some_iff.mp hi).1
        rw [List.length_append, List.length_singleton] at hl
        obtain rfl : i = R.length := by omega
        rw [List.getElem?_append_right (Nat.le_refl _), Nat.sub_self] at hi
        cases hi
        exact ⟨h6, ok2, x3, x4, ok1, by omega⟩
    · unfold SceneR at *
      rw [f2.1.2.2.2.1 137 (by decide) (by unfold CP; decide), f2.1.2.2.2.2 21 (by unfold EJ; decide), f2.1.2.2.2.2 22 (by unfold EJ; decide)]; exact b3
    · unfold ImgR at *
      rw [f2.1.2.2.2.1 150 (by decide) (by unfold CP; decide), f2.1.2.2.2.1 151 (by decide) (by unfold CP; decide), f2.1.2.2.2.1 152 (by decide) (by unfold CP; decide), f2.1.2.2.2.1 153 (by decide) (by unfold CP; decide)]; exact b5
  · obtain ⟨g1, g2, g3, g4, g5, g6⟩ := hG
    exact ⟨by omega, fun i hi => by omega, by rw [List.length_append, List.length_singleton]; omega, by rw [List.length_append]; exact g4.up, g5, fun k hk σ' hs => by rw [List.length_append]; exact (g6 k hk σ' hs).up⟩
theorem P_rule : Pair L xs (d + 40) 121 195 [] := by
  rintro h ⟨T, tp, R, ⟨s, fo, xx⟩, u, H, ι, hC, hR, hG⟩
  obtain ⟨n, k, e, hS, hB, b1, b2, b3, b4, b5, b6, b7⟩ := id hG.inv
  dsimp only at hS hB b1 b2 b3 b4 b5 b6 b7
  have hz := hC.1
  have n6 := hS.1
  have hg := hC.scn.1
  obtain ⟨g0, g1, g2, g3, g4, g5, gt⟩ := getW_f hg
  have hs : xI h 137 = s := hR.scn.1
  dsimp only at g0 g1 g2 g3 g4 g5 gt hg
  rw [hS.2.1] at g3
  have e2 : xI h 137 2 = nI n := by rw [hs]; exact hS.2.1
  have ed : ¬ xI h 137 11 < 0 := by rw [hs]; exact hS.2.2.1
  by_cases h6 : R.length < 6
  · obtain ⟨B, hB'⟩ := TB_some hG.2.1
    cases ef : ruF B T 13 0 0 0 [] with
    | error f => exact rule_bad hC hR hG h6 hB' ef
    | ok cls => exact rule_good hC hR hG h6 hB' ef
  · have e6 : R.length = 6 := by have := hG.2.2.1; omega
    have c4 := hC.rul.1
    have r2 := hR.rul.1
    rw [e6] at c4 r2
    refine ⟨-(nI 1), h, h, ⟨T, tp, R, (s, fo, xx), u, H, ι, hC, hR, hG⟩, fun Q => ?_, fun Q => ?_⟩
    · simp (disch := omega) only [m121, b121_0, e_iconst, e_lconst, e_null, e_ldc, e_iload0i, e_iload1i, e_iload2i, e_iload3i, e_iload4i, e_iload5i, e_iload6i, e_iload7i, e_iload8i, e_iload9i, e_iload10i, e_lload0l, e_lload1l, e_lload2l, e_lload3l, e_lload4l, e_lload5l, e_lload6l, e_lload7l, e_lload8l, e_lload9l, e_lload10l, e_aload0r, e_aload1r, e_aload2r, e_aload3r, e_aload4r, e_aload5r, e_aload6r, e_aload7r, e_aload8r, e_aload9r, e_aload10r, e_aload0n, e_aload1n, e_aload2n, e_aload3n, e_aload4n, e_aload5n, e_aload6n, e_aload7n, e_aload8n, e_aload9n, e_aload10n, e_aload0f, e_aload1f, e_aload2f, e_aload3f, e_aload4f, e_aload5f, e_aload6f, e_aload7f, e_aload8f, e_aload9f, e_aload10f, e_iinc0, e_iinc1, e_iinc2, e_iinc3, e_iinc4, e_iinc5, e_iinc6, e_iinc7, e_iinc8, e_iinc9, e_iinc10, xst_0, xst_1i, xst2_1i, xst_1r, xst2_1r, xst_1n, xst2_1n, xst_1f, xst2_1f, xst_1u, xst2_1u, xst_1l, xst2_1l, xst2_0, xst_s, xst2_s, e_istore, e_lstore, e_astore, e_astoreN, e_iadd, e_isub, e_imul, e_iand, e_ior, e_ixor, e_ishl, e_ishr, e_iushr, e_ladd, e_lsub, e_lmul, e_land, e_lor, e_lshl, e_lcmp, e_i2l, e_l2i, e_i2b, e_ineg, e_dupi, e_dupr, e_dup2, e_popi, e_popr, e_idiv, e_irem, e_ldiv, e_lrem, e_ifCond, e_if_icmp, e_ifnullR, e_ifnullN, e_ifnonnullR, e_ifnonnullN, e_goto, e_jsr, e_tsw, e_lsw, e_getfield, e_dload, e_fload, e_putfield, e_dstore, e_fstore, e_fstoreN, e_monitor, e_new, e_newarray, e_anewarray, e_mnew, e_alen, e_slen, e_schr, e_alenF, e_iaload, e_ialoadF, e_baload, e_laload, e_aaload, e_iastore, e_lastore, e_aastore, e_bastoreB, e_bastoreZ, e_copy, e_ireturnI, e_ireturnZ0, e_ireturnZ1, e_ireturnZb, e_lreturn, e_areturn, e_areturnA, e_areturnN, e_return, ofI, ofIm, ofJ, cat_i, cat_l, cat_r, cat_f, cat_n, xent_0, xent_i, xent_l, xent_r, xent_n, xent_f, xentry, xrf_s, xrf_n, List.getD_cons_zero, List.getD_cons_succ, List.length_cons, List.length_nil, List.cons_append, List.nil_append, List.append_nil, List.map_cons, List.map_nil, List.sum_cons, List.sum_nil, List.replicate, oT_s, oT_n, true_and, and_true, Nat.reduceAdd, Nat.reduceSub, Nat.reduceLeDiff, Nat.reduceEqDiff, Nat.reduceLT, Nat.reduceDiv, Nat.reduceMod, Nat.reduceMul, eq_self, ofN, nI_dec, nI_11, or_true, true_or, false_or, or_false, nI_e0, nI_0lt, Nat.succ_ne_zero, Nat.zero_lt_succ, lg_cmp_gt, lg_cmp_lt, lg_cmp_eq, nI_lt0, nI_add, pk_sub, pk_mul, Nat.add_sub_cancel, nI_clamp, vp_in_T, nI_ltI, nI_leI, nI_eqI, Nat.zero_add, Nat.add_zero, xc_eq, xc_ne, xc_lt, xc_ge, xc_gt, xc_le, bI_0, bI_0n, bI_n0, not_true_eq_false, not_false_eq_true, if_true, if_false, ite_true, ite_false, decide_true, decide_false, and_self, and_true, true_and, zs_0 hz, zr_0_0 hz, zr_0_1 hz, zr_0_2 hz, zr_0_3 hz, zr_0_5 hz, zr_0_6 hz, zr_0_7 hz, zr_0_8 hz, zr_0_9 hz, zr_0_10 hz, zr_0_11 hz, c4, Nat.lt_irrefl]
    · simp (disch := omega) only [m195, b195_0, e_iconst, e_lconst, e_null, e_ldc, e_iload0i, e_iload1i, e_iload2i, e_iload3i, e_iload4i, e_iload5i, e_iload6i, e_iload7i, e_iload8i, e_iload9i, e_iload10i, e_lload0l, e_lload1l, e_lload2l, e_lload3l, e_lload4l, e_lload5l, e_lload6l, e_lload7l, e_lload8l, e_lload9l, e_lload10l, e_aload0r, e_aload1r, e_aload2r, e_aload3r, e_aload4r, e_aload5r, e_aload6r, e_aload7r, e_aload8r, e_aload9r, e_aload10r, e_aload0n, e_aload1n, e_aload2n, e_aload3n, e_aload4n, e_aload5n, e_aload6n, e_aload7n, e_aload8n, e_aload9n, e_aload10n, e_aload0f, e_aload1f, e_aload2f, e_aload3f, e_aload4f, e_aload5f, e_aload6f, e_aload7f, e_aload8f, e_aload9f, e_aload10f, e_iinc0, e_iinc1, e_iinc2, e_iinc3, e_iinc4, e_iinc5, e_iinc6, e_iinc7, e_iinc8, e_iinc9, e_iinc10, xst_0, xst_1i, xst2_1i, xst_1r, xst2_1r, xst_1n, xst2_1n, xst_1f, xst2_1f, xst_1u, xst2_1u, xst_1l, xst2_1l, xst2_0, xst_s, xst2_s, e_istore, e_lstore, e_astore, e_astoreN, e_iadd, e_isub, e_imul, e_iand, e_ior, e_ixor, e_ishl, e_ishr, e_iushr, e_ladd, e_lsub, e_lmul, e_land, e_lor, e_lshl, e_lcmp, e_i2l, e_l2i, e_i2b, e_ineg, e_dupi, e_dupr, e_dup2, e_popi, e_popr, e_idiv, e_irem, e_ldiv, e_lrem, e_ifCond, e_if_icmp, e_ifnullR, e_ifnullN, e_ifnonnullR, e_ifnonnullN, e_goto, e_jsr, e_tsw, e_lsw, e_getfield, e_dload, e_fload, e_putfield, e_dstore, e_fstore, e_fstoreN, e_monitor, e_new, e_newarray, e_anewarray, e_mnew, e_alen, e_slen, e_schr, e_alenF, e_iaload, e_ialoadF, e_baload, e_laload, e_aaload, e_iastore, e_lastore, e_aastore, e_bastoreB, e_bastoreZ, e_copy, e_ireturnI, e_ireturnZ0, e_ireturnZ1, e_ireturnZb, e_lreturn, e_areturn, e_areturnA, e_areturnN, e_return, ofI, ofIm, ofJ, cat_i, cat_l, cat_r, cat_f, cat_n, xent_0, xent_i, xent_l, xent_r, xent_n, xent_f, xentry, xrf_s, xrf_n, List.getD_cons_zero, List.getD_cons_succ, List.length_cons, List.length_nil, List.cons_append, List.nil_append, List.append_nil, List.map_cons, List.map_nil, List.sum_cons, List.sum_nil, List.replicate, oT_s, oT_n, true_and, and_true, Nat.reduceAdd, Nat.reduceSub, Nat.reduceLeDiff, Nat.reduceEqDiff, Nat.reduceLT, Nat.reduceDiv, Nat.reduceMod, Nat.reduceMul, eq_self, ofN, nI_dec, nI_11, or_true, true_or, false_or, or_false, nI_e0, nI_0lt, Nat.succ_ne_zero, Nat.zero_lt_succ, lg_cmp_gt, lg_cmp_lt, lg_cmp_eq, nI_lt0, nI_add, pk_sub, pk_mul, Nat.add_sub_cancel, nI_clamp, vp_in_T, nI_ltI, nI_leI, nI_eqI, Nat.zero_add, Nat.add_zero, xc_eq, xc_ne, xc_lt, xc_ge, xc_gt, xc_le, bI_0, bI_0n, bI_n0, not_true_eq_false, not_false_eq_true, if_true, if_false, ite_true, ite_false, decide_true, decide_false, and_self, and_true, true_and, zs_127 hz, zr_127_0 hz, zr_127_3 hz, zr_127_4 hz, zr_127_5 hz, zr_127_6 hz, zr_127_7 hz, zr_127_15 hz, zr_127_17 hz, zr_127_19 hz, zr_127_20 hz, zr_127_23 hz, zr_127_24 hz, zr_127_26 hz, zr_127_27 hz, zr_127_28 hz, zr_127_29 hz, zr_127_32 hz, zr_127_33 hz, zr_127_34 hz, zr_127_35 hz, zr_127_36 hz, zr_127_37 hz, zr_127_39 hz, zr_127_40 hz, zr_127_41 hz, zr_127_42 hz, r2]
end RY
