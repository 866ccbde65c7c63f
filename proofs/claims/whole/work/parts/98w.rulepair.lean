section RY
variable {L d : Nat} {xs : Nat → Int32} {h h1 : xH} {Q : xQ} {p o n w t k : Nat} {x y z fo xx : Int32} {T : Nat} {tp : Nat → Int32} {R : List (List Cl)} {σ σ' : Sn} {u u' : Nat} {H H' : Nat → Nat → Int32} {ι : Nat → Option Sn} {s s' f g : Nat → Int32}
variable {B : Nat → Nat} {f0 m : Nat} {cls : List Cl}
theorem run_ru (hTb : ∀ i, i < T → B i < 256) (hT4 : T ≤ 400) : runF B T 401 0 ([], [], 0, 0, 0, 0) = match ruF B T 13 0 0 0 [] with
    | .error f => .error f
    | .ok cls' => .ok (clsC cls') := E_ru hTb hT4 13 0 0 0 [] 401 0 rfl (by decide) (by omega) (Nat.zero_le _) (by decide)
/-- a rule that is no rule -/
theorem rule_bad (hC : CRel h T tp R σ u H ι) (hR : RRel h T tp R σ u H ι) (hG : Good T tp R σ u H ι) (h6 : R.length < 6) (hB : ∀ i, i < T → B i < 256 ∧ tp i = byX (B i)) (ef : ruF B T 13 0 0 0 [] = .error f0) : ∃ v h1 h2, Rel h2 ∧ (∀ Q, Call (pG L xs) pM (d + 40) 121 [.ref 0] h Q = Q (some (.int v)) h1) ∧ ∀ Q, Call (pG L xs) pM (d + 40) 195 [.ref 127] h1 Q = Q (some (.int v)) h2 := by
  have hz := hC.1
  have hTb : ∀ i, i < T → B i < 256 := fun i hi => (hB i hi).1
  have tC : TC h T B := ⟨hG.1, hC.tap.1, fun i hi => ⟨(hB i hi).1, (hC.tap.2 i hi).trans (hB i hi).2⟩⟩
  have er := run_ru hTb hG.1
  rw [ef] at er
  have q12 := run_er hG.1 401 0 _ f0 (Nat.zero_le _) er
  obtain ⟨q1, q2⟩ := q12
  obtain ⟨h1, f1, c1⟩ := (c_readR (L := L) (d := d + 32) (xs := xs) hz tC).1 f0 er
  have z1 := f1.bas hz
  have fc : Fr QP h (setI h1 1 1 (nI 0)) := f1.tr (Fr.sI (.inl rfl))
  have zc := fc.bas hz
  have hR1 := hR.fr fc (fun a z => by unfold QP at z; omega)
  have tR1 : TR (setI h1 1 1 (nI 0)) T B := ⟨hG.1, hR1.tap.1, fun i hi => ⟨(hB i hi).1, (hR1.tap.2 i hi).trans (hB i hi).2⟩⟩
  obtain ⟨h2, f2, x1, x2, c2⟩ := (r_rule (L := L) (d := d + 27) (xs := xs) zc tR1 h6 hR1.rul.1 (fun f e => by rw [ef] at e; cases e; exact ⟨q1, q2⟩)).1 f0 ef
  have q1' : (f0 = 0) = False := eq_false q1
  have e4 := hC.rul.1
  refine ⟨-(nI 2) - nI f0, setI h1 1 1 (nI 0), h2, ⟨0, tp, R, σ, u, H, ι, ?_, ?_, ?_⟩, fun Q => ?_, c2⟩
  · obtain ⟨a1, a2, a3, a4, a5, a6, a7, a8, a9, a10⟩ := hC
    have : CRel (setI h1 1 1 (nI 0)) 0 tp R σ u H ι := by
      refine ⟨zc, a2.fr fc, ⟨by rw [xI_sI, if_pos ⟨rfl, rfl⟩], fun i hi => by omega⟩, a4.fr fc (by unfold QP; omega) (fun a z => by unfold QP at z; omega), a5.fr fc (fun a _ h2 => by unfold QP; omega), a6.fr fc (fun a _ h2 => by unfold QP; omega), a7.fr fc (fun a _ h2 => by unfold QP; omega), a8.fr fc (by unfold QP; omega) (by unfold QP; omega), a9.fr fc (by unfold QP; omega) (by unfold QP; omega), a10.fr fc (by unfold QP; omega) (by unfold QP; omega)⟩
    exact this.fr f2.1.fr (fun a z => by unfold CP at z; omega)
  · obtain ⟨b1, b2, b3, b4, b5⟩ := hR1
    refine ⟨⟨x1, fun i hi => by omega⟩, ⟨x2, fun i cls hi => f2.rr (List.getElem?_eq_some_iff.mp hi).1 (b2.2 i cls hi)⟩, ?_, HistR.fr f2.1 (by unfold CP; decide) (by unfold EJ; decide) b4, ?_⟩
    · unfold SceneR at *
      rw [f2.1.2.2.2.1 137 (by decide) (by unfold CP; decide), f2.1.2.2.2.2 21 (by unfold EJ; decide), f2.1.2.2.2.2 22 (by unfold EJ; decide)]; exact b3
    · unfold ImgR at *
      rw [f2.1.2.2.2.1 150 (by decide) (by unfold CP; decide), f2.1.2.2.2.1 151 (by decide) (by unfold CP; decide), f2.1.2.2.2.1 152 (by decide) (by unfold CP; decide), f2.1.2.2.2.1 153 (by decide) (by unfold CP; decide)]; exact b5
  · exact ⟨by omega, fun i hi => by omega, hG.2.2⟩
  · simp (disch := omega) only [m121, b121_0, k121_1, b121_1, e_iconst, e_lconst, e_null, e_ldc, e_iload0i, e_iload1i, e_iload2i, e_iload3i, e_iload4i, e_iload5i, e_iload6i, e_iload7i, e_iload8i, e_iload9i, e_iload10i, e_lload0l, e_lload1l, e_lload2l, e_lload3l, e_lload4l, e_lload5l, e_lload6l, e_lload7l, e_lload8l, e_lload9l, e_lload10l, e_aload0r, e_aload1r, e_aload2r, e_aload3r, e_aload4r, e_aload5r, e_aload6r, e_aload7r, e_aload8r, e_aload9r, e_aload10r, e_aload0n, e_aload1n, e_aload2n, e_aload3n, e_aload4n, e_aload5n, e_aload6n, e_aload7n, e_aload8n, e_aload9n, e_aload10n, e_aload0f, e_aload1f, e_aload2f, e_aload3f, e_aload4f, e_aload5f, e_aload6f, e_aload7f, e_aload8f, e_aload9f, e_aload10f, e_iinc0, e_iinc1, e_iinc2, e_iinc3, e_iinc4, e_iinc5, e_iinc6, e_iinc7, e_iinc8, e_iinc9, e_iinc10, xst_0, xst_1i, xst2_1i, xst_1r, xst2_1r, xst_1n, xst2_1n, xst_1f, xst2_1f, xst_1u, xst2_1u, xst_1l, xst2_1l, xst2_0, xst_s, xst2_s, e_istore, e_lstore, e_astore, e_astoreN, e_iadd, e_isub, e_imul, e_iand, e_ior, e_ixor, e_ishl, e_ishr, e_iushr, e_ladd, e_lsub, e_lmul, e_land, e_lor, e_lshl, e_lcmp, e_i2l, e_l2i, e_i2b, e_ineg, e_dupi, e_dupr, e_dup2, e_popi, e_popr, e_idiv, e_irem, e_ldiv, e_lrem, e_ifCond, e_if_icmp, e_ifnullR, e_ifnullN, e_ifnonnullR, e_ifnonnullN, e_goto, e_jsr, e_tsw, e_lsw, e_getfield, e_dload, e_fload, e_putfield, e_dstore, e_fstore, e_fstoreN, e_monitor, e_new, e_newarray, e_anewarray, e_mnew, e_alen, e_slen, e_schr, e_alenF, e_iaload, e_ialoadF, e_baload, e_laload, e_aaload, e_iastore, e_lastore, e_aastore, e_bastoreB, e_bastoreZ, e_copy, e_ireturnI, e_ireturnZ0, e_ireturnZ1, e_ireturnZb, e_lreturn, e_areturn, e_areturnA, e_areturnN, e_return, ofI, ofIm, ofJ, cat_i, cat_l, cat_r, cat_f, cat_n, xent_0, xent_i, xent_l, xent_r, xent_n, xent_f, xentry, xrf_s, xrf_n, List.getD_cons_zero, List.getD_cons_succ, List.length_cons, List.length_nil, List.cons_append, List.nil_append, List.append_nil, List.map_cons, List.map_nil, List.sum_cons, List.sum_nil, List.replicate, oT_s, oT_n, true_and, and_true, Nat.reduceAdd, Nat.reduceSub, Nat.reduceLeDiff, Nat.reduceEqDiff, Nat.reduceLT, Nat.reduceDiv, Nat.reduceMod, Nat.reduceMul, eq_self, ofN, nI_dec, nI_11, or_true, true_or, false_or, or_false, nI_e0, nI_0lt, Nat.succ_ne_zero, Nat.zero_lt_succ, lg_cmp_gt, lg_cmp_lt, lg_cmp_eq, nI_lt0, nI_add, pk_sub, pk_mul, Nat.add_sub_cancel, nI_clamp, vp_in_T, nI_ltI, nI_leI, nI_eqI, Nat.zero_add, Nat.add_zero, xc_eq, xc_ne, xc_lt, xc_ge, xc_gt, xc_le, bI_0, bI_0n, bI_n0, not_true_eq_false, not_false_eq_true, if_true, if_false, ite_true, ite_false, decide_true, decide_false, and_self, and_true, true_and, zs_0 hz, zr_0_0 hz, zr_0_1 hz, zr_0_2 hz, zr_0_3 hz, zr_0_5 hz, zr_0_6 hz, zr_0_7 hz, zr_0_8 hz, zr_0_9 hz, zr_0_10 hz, zr_0_11 hz, zs_7 hz, e4, h6, zs_0 z1, zr_0_0 z1, zs_1 z1, v46, c1, f8_1, q1']
end RY
