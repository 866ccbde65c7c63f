section FG2
variable {L d : Nat} {xs : Nat → Int32} {h h1 : xH} {Q : xQ} {p o n w t k : Nat} {x y z fo xx : Int32} {T : Nat} {tp : Nat → Int32} {R : List (List Cl)} {σ σ' : Sn} {u u' : Nat} {H H' : Nat → Nat → Int32} {ι : Nat → Option Sn} {s s' f g : Nat → Int32}
variable {B : Nat → Nat} {r : Nat → Int32}
theorem P_ford : Pair L xs (d + 40) 120 196 [] := by
  rintro h ⟨T, tp, R, ⟨s, fo, xx⟩, u, H, ι, hC, hR, hG⟩
  obtain ⟨n, k, e, hS, hB, b1, b2, b3, b4, b5, b6, b7⟩ := id hG.inv
  dsimp only at hS hB b1 b2 b3 b4 b5 b6 b7
  have hz := hC.1
  have n6 := hS.1
  have hg := hC.scn.1
  obtain ⟨g0, g1, g2, g3, g4, g5, gt⟩ := getW_f hg
  have hs : xI h 137 = s := hR.scn.1
  dsimp only at g0 g1 g2 g3 g4 g5 gt hg
  rw [hS.2.1] at g3
  have e2 : xI h 137 2 = nI n := by rw [hs]; exact hS.2.1
  have ed : ¬ xI h 137 11 < 0 := by rw [hs]; exact hS.2.2.1
  obtain ⟨B, hB'⟩ := TB_some hG.2.1
  cases ef : fdF B T 41 0 0 r0F with
  | error f => exact ford_bad hC hR hG hB' ef
  | ok r =>
    have tC : TC h T B := ⟨hG.1, hC.tap.1, fun i hi => ⟨(hB' i hi).1, (hC.tap.2 i hi).trans (hB' i hi).2⟩⟩
    obtain ⟨ri, rr0, h1, f1, w1, c1⟩ := (c_read (L := L) (d := d + 33) (xs := xs) hz tC hC.2.2.2.2.2.2.2.1).2 r ef
    have z1 := f1.bas hz
    have S2 : begS (rowS r) 2 = nI (pnF r) := ri.pn.2
    -- the class's heap
    have gA : getW (setI h1 1 1 (nI 0)) 4 5 = wS (begS (rowS r)) := by rw [getW_fr (P := fun a => a = 1) (Fr.sI rfl) (by decide) (by decide)]; exact w1
    have fA : Fr FQr h (setI h1 1 1 (nI 0)) := f1.tr (Fr.sI (.inl rfl))
    have tA : xI (setI h1 1 1 (nI 0)) 1 1 = nI 0 := by rw [xI_sI, if_pos ⟨rfl, rfl⟩]
    have startC : ∀ Q, Call (pG L xs) pM (d + 40) 120 [.ref 0] h Q = Ev (pG L xs) pM (d + 39) b120 (some .int) Q b120_1 [some (.ref 0), some (.int (nI 0))] [] (setI h1 1 1 (nI 0)) := by
      intro Q
      simp (disch := omega) only [m120, b120_0, k120_1, e_iconst, e_lconst, e_null, e_ldc, e_iload0i, e_iload1i, e_iload2i, e_iload3i, e_iload4i, e_iload5i, e_iload6i, e_iload7i, e_iload8i, e_iload9i, e_iload10i, e_lload0l, e_lload1l, e_lload2l, e_lload3l, e_lload4l, e_lload5l, e_lload6l, e_lload7l, e_lload8l, e_lload9l, e_lload10l, e_aload0r, e_aload1r, e_aload2r, e_aload3r, e_aload4r, e_aload5r, e_aload6r, e_aload7r, e_aload8r, e_aload9r, e_aload10r, e_aload0n, e_aload1n, e_aload2n, e_aload3n, e_aload4n, e_aload5n, e_aload6n, e_aload7n, e_aload8n, e_aload9n, e_aload10n, e_aload0f, e_aload1f, e_aload2f, e_aload3f, e_aload4f, e_aload5f, e_aload6f, e_aload7f, e_aload8f, e_aload9f, e_aload10f, e_iinc0, e_iinc1, e_iinc2, e_iinc3, e_iinc4, e_iinc5, e_iinc6, e_iinc7, e_iinc8, e_iinc9, e_iinc10, xst_0, xst_1i, xst2_1i, xst_1r, xst2_1r, xst_1n, xst2_1n, xst_1f, xst2_1f, xst_1u, xst2_1u, xst_1l, xst2_1l, xst2_0, xst_s, xst2_s, e_istore, e_lstore, e_astore, e_astoreN, e_iadd, e_isub, e_imul, e_iand, e_ior, e_ixor, e_ishl, e_ishr, e_iushr, e_ladd, e_lsub, e_lmul, e_land, e_lor, e_lshl, e_lcmp, e_i2l, e_l2i, e_i2b, e_ineg, e_dupi, e_dupr, e_dup2, e_popi, e_popr, e_idiv, e_irem, e_ldiv, e_lrem, e_ifCond, e_if_icmp, e_ifnullR, e_ifnullN, e_ifnonnullR, e_ifnonnullN, e_goto, e_jsr, e_tsw, e_lsw, e_getfield, e_dload, e_fload, e_putfield, e_dstore, e_fstore, e_fstoreN, e_monitor, e_new, e_newarray, e_anewarray, e_mnew, e_alen, e_slen, e_schr, e_alenF, e_iaload, e_ialoadF, e_baload, e_laload, e_aaload, e_iastore, e_lastore, e_aastore, e_bastoreB, e_bastoreZ, e_copy, e_ireturnI, e_ireturnZ0, e_ireturnZ1, e_ireturnZb, e_lreturn, e_areturn, e_areturnA, e_areturnN, e_return, ofI, ofIm, ofJ, cat_i, cat_l, cat_r, cat_f, cat_n, xent_0, xent_i, xent_l, xent_r, xent_n, xent_f, xentry, xrf_s, xrf_n, List.getD_cons_zero, List.getD_cons_succ, List.length_cons, List.length_nil, List.cons_append, List.nil_append, List.append_nil, List.map_cons, List.map_nil, List.sum_cons, List.sum_nil, List.replicate, oT_s, oT_n, true_and, and_true, Nat.reduceAdd, Nat.reduceSub, Nat.reduceLeDiff, Nat.reduceEqDiff, Nat.reduceLT, Nat.reduceDiv, Nat.reduceMod, Nat.reduceMul, eq_self, ofN, nI_dec, nI_11, or_true, true_or, false_or, or_false, nI_e0, nI_0lt, Nat.succ_ne_zero, Nat.zero_lt_succ, lg_cmp_gt, lg_cmp_lt, lg_cmp_eq, nI_lt0, nI_add, pk_sub, pk_mul, Nat.add_sub_cancel, nI_clamp, vp_in_T, nI_ltI, nI_leI, nI_eqI, Nat.zero_add, Nat.add_zero, xc_eq, xc_ne, xc_lt, xc_ge, xc_gt, xc_le, bI_0, bI_0n, bI_n0, not_true_eq_false, not_false_eq_true, if_true, if_false, ite_true, ite_false, decide_true, decide_false, and_self, and_true, true_and, zs_0 hz, zr_0_0 hz, zr_0_1 hz, zr_0_2 hz, zr_0_3 hz, zr_0_5 hz, zr_0_6 hz, zr_0_7 hz, zr_0_8 hz, zr_0_9 hz, zr_0_10 hz, zr_0_11 hz, zs_3 hz, zs_0 z1, zr_0_0 z1, zs_1 z1, v9, c1, f8_1]
    revert gA fA tA startC
    generalize setI h1 1 1 (nI 0) = hA
    intro gA fA tA startC
    have zA := fA.bas hz
    have gb : getW hA 12 13 = wS (begS s) := by rw [getW_fr fA (by unfold FQr; omega) (by unfold FQr; omega)]; exact hC.scn.2.1
    have gn : getW hA 14 15 = wS s := by rw [getW_fr fA (by unfold FQr; omega) (by unfold FQr; omega)]; exact hg
    have told : xI hA 4 0 = 0 ∨ xI hA 4 0 = 1 := .inr (by rw [(getW_f gA).1]; exact rr0)
    have k1 := fun Q => w_copyFrom (L := L) (d := d + 38) (xs := xs) (Q := Q) (zw_12 zA) (zw_4 zA) (by decide) (by decide) told
    rw [gA, gb, copyW_wS] at k1
    have fB : Fr (fun a => a = 12 ∨ a = 13) hA (putW hA 12 13 (wS (begS (rowS r)))) := Fr.put (.inl rfl) (.inr rfl)
    have gB1 : getW (putW hA 12 13 (wS (begS (rowS r)))) 12 13 = wS (begS (rowS r)) := getW_put (by decide) _
    revert k1 fB gB1
    generalize putW hA 12 13 (wS (begS (rowS r))) = hb
    intro k1 fB gB1
    have zB := fB.bas zA
    have gB2 : getW hb 14 15 = wS s := by rw [getW_fr fB (by decide) (by decide)]; exact gn
    have gB3 : getW hb 4 5 = wS (begS (rowS r)) := by rw [getW_fr fB (by decide) (by decide)]; exact gA
    have toldB : xI hb 4 0 = 0 ∨ xI hb 4 0 = 1 := .inr (by rw [(getW_f gB3).1]; exact rr0)
    have k2 := fun Q => w_copyFrom (L := L) (d := d + 38) (xs := xs) (Q := Q) (zw_14 zB) (zw_4 zB) (by decide) (by decide) toldB
    rw [gB3, gB2, copyW_wS] at k2
    have fD : Fr (fun a => a = 14 ∨ a = 15) hb (putW hb 14 15 (wS (begS (rowS r)))) := Fr.put (.inl rfl) (.inr rfl)
    have gD1 : getW (putW hb 14 15 (wS (begS (rowS r)))) 14 15 = wS (begS (rowS r)) := getW_put (by decide) _
    revert k2 fD gD1
    generalize putW hb 14 15 (wS (begS (rowS r))) = hd
    intro k2 fD gD1
    have zD := fD.bas zB
    -- all the class does
    have fZ : Fr (fun a => FQr a ∨ 11 ≤ a ∧ a ≤ 15 ∨ a = 20) h (setI (setI hd 11 6 (nI 0)) 20 2 (nI 0)) := (((fA.mono (fun a z => .inl z)).tr (fB.mono (fun a z => by omega))).tr (fD.mono (fun a z => by omega))).tr (Fr.tr (P := fun a => FQr a ∨ 11 ≤ a ∧ a ≤ 15 ∨ a = 20) (Fr.sI (by omega)) (Fr.sI (by omega)))
    have zZ := fZ.bas hz
    have d11 : ∀ j, xI hd 11 j = xI h 11 j := fun j => by rw [fD.2.2.2 11 (by decide), fB.2.2.2 11 (by decide), fA.2.2.2 11 (by unfold FQr; decide)]
    have d20 : ∀ j, xI hd 20 j = xI h 20 j := fun j => by rw [fD.2.2.2 20 (by decide), fB.2.2.2 20 (by decide), fA.2.2.2 20 (by unfold FQr; decide)]
    have cc : ∀ Q, Call (pG L xs) pM (d + 40) 120 [.ref 0] h Q = Q (some (.int (nI (pnF r)))) (setI (setI hd 11 6 (nI 0)) 20 2 (nI 0)) := by
      intro Q
      have e3 : xI (setI (setI hd 11 6 (nI 0)) 20 2 (nI 0)) 14 3 = nI (pnF r) := by rw [xI_s_ne (by decide), xI_s_ne (by decide), (getW_f gD1).2.2.2.1]; exact S2
      rw [startC Q, b120_1]
      simp (disch := omega) only [m23, b23_0, e_iconst, e_lconst, e_null, e_ldc, e_iload0i, e_iload1i, e_iload2i, e_iload3i, e_iload4i, e_iload5i, e_iload6i, e_iload7i, e_iload8i, e_iload9i, e_iload10i, e_lload0l, e_lload1l, e_lload2l, e_lload3l, e_lload4l, e_lload5l, e_lload6l, e_lload7l, e_lload8l, e_lload9l, e_lload10l, e_aload0r, e_aload1r, e_aload2r, e_aload3r, e_aload4r, e_aload5r, e_aload6r, e_aload7r, e_aload8r, e_aload9r, e_aload10r, e_aload0n, e_aload1n, e_aload2n, e_aload3n, e_aload4n, e_aload5n, e_aload6n, e_aload7n, e_aload8n, e_aload9n, e_aload10n, e_aload0f, e_aload1f, e_aload2f, e_aload3f, e_aload4f, e_aload5f, e_aload6f, e_aload7f, e_aload8f, e_aload9f, e_aload10f, e_iinc0, e_iinc1, e_iinc2, e_iinc3, e_iinc4, e_iinc5, e_iinc6, e_iinc7, e_iinc8, e_iinc9, e_iinc10, xst_0, xst_1i, xst2_1i, xst_1r, xst2_1r, xst_1n, xst2_1n, xst_1f, xst2_1f, xst_1u, xst2_1u, xst_1l, xst2_1l, xst2_0, xst_s, xst2_s, e_istore, e_lstore, e_astore, e_astoreN, e_iadd, e_isub, e_imul, e_iand, e_ior, e_ixor, e_ishl, e_ishr, e_iushr, e_ladd, e_lsub, e_lmul, e_land, e_lor, e_lshl, e_lcmp, e_i2l, e_l2i, e_i2b, e_ineg, e_dupi, e_dupr, e_dup2, e_popi, e_popr, e_idiv, e_irem, e_ldiv, e_lrem, e_ifCond, e_if_icmp, e_ifnullR, e_ifnullN, e_ifnonnullR, e_ifnonnullN, e_goto, e_jsr, e_tsw, e_lsw, e_getfield, e_dload, e_fload, e_putfield, e_dstore, e_fstore, e_fstoreN, e_monitor, e_new, e_newarray, e_anewarray, e_mnew, e_alen, e_slen, e_schr, e_alenF, e_iaload, e_ialoadF, e_baload, e_laload, e_aaload, e_iastore, e_lastore, e_aastore, e_bastoreB, e_bastoreZ, e_copy, e_ireturnI, e_ireturnZ0, e_ireturnZ1, e_ireturnZb, e_lreturn, e_areturn, e_areturnA, e_areturnN, e_return, ofI, ofIm, ofJ, cat_i, cat_l, cat_r, cat_f, cat_n, xent_0, xent_i, xent_l, xent_r, xent_n, xent_f, xentry, xrf_s, xrf_n, List.getD_cons_zero, List.getD_cons_succ, List.length_cons, List.length_nil, List.cons_append, List.nil_append, List.append_nil, List.map_cons, List.map_nil, List.sum_cons, List.sum_nil, List.replicate, oT_s, oT_n, true_and, and_true, Nat.reduceAdd, Nat.reduceSub, Nat.reduceLeDiff, Nat.reduceEqDiff, Nat.reduceLT, Nat.reduceDiv, Nat.reduceMod, Nat.reduceMul, eq_self, ofN, nI_dec, nI_11, or_true, true_or, false_or, or_false, nI_e0, nI_0lt, Nat.succ_ne_zero, Nat.zero_lt_succ, lg_cmp_gt, lg_cmp_lt, lg_cmp_eq, nI_lt0, nI_add, pk_sub, pk_mul, Nat.add_sub_cancel, nI_clamp, vp_in_T, nI_ltI, nI_leI, nI_eqI, Nat.zero_add, Nat.add_zero, xc_eq, xc_ne, xc_lt, xc_ge, xc_gt, xc_le, bI_0, bI_0n, bI_n0, not_true_eq_false, not_false_eq_true, if_true, if_false, ite_true, ite_false, decide_true, decide_false, and_self, and_true, true_and, zs_0 zA, zr_0_5 zA, zs_11 zA, zr_11_1 zA, zr_0_1 zA, zs_3 zA, zr_3_0 zA, zs_12 zA, v97, k1, zs_0 zB, zr_0_5 zB, zs_11 zB, zr_11_2 zB, zr_0_1 zB, zs_3 zB, zr_3_0 zB, zs_14 zB, k2, zs_0 zD, zr_0_5 zD, zs_11 zD, xis_sI, xR_sI, f7_6, zr_0_7 zD, zs_20 zD, v23, f3_2, zr_11_2 zD, zs_14 zD, e3]
    have hR1 := hR.fr fZ (fun a z => by unfold FQr at z; omega)
    have tR1 : TR (setI (setI hd 11 6 (nI 0)) 20 2 (nI 0)) T B := ⟨hG.1, hR1.tap.1, fun i hi => ⟨(hB' i hi).1, (hR1.tap.2 i hi).trans (hB' i hi).2⟩⟩
    have h141 : ∀ j, 141 ≤ j → xI (setI (setI hd 11 6 (nI 0)) 20 2 (nI 0)) 137 j = 0 := by
      intro j hj
      rw [hR1.scn.1]
      obtain ⟨n, k, e, -, -, -, -, -, -, -, -, b7'⟩ := hG.inv
      exact b7' j hj
    obtain ⟨h2, f2, x1, x25, x137, c2⟩ := (r_ford (L := L) (d := d + 32) (xs := xs) zZ tR1 h141 (fun f e => by rw [ef] at e; cases e)).2 r ef
    rw [S2] at c2
    refine ⟨nI (pnF r), setI (setI hd 11 6 (nI 0)) 20 2 (nI 0), h2, ⟨0, tp, R, (begS (rowS r), fo, xx), 0, H, ι, ?_, ?_, ?_⟩, cc, c2⟩
    · obtain ⟨a1, a2, a3, a4, a5, a6, a7, a8, a9, a10⟩ := hC
      have : CRel (setI (setI hd 11 6 (nI 0)) 20 2 (nI 0)) 0 tp R (begS (rowS r), fo, xx) 0 H ι := by
        refine ⟨zZ, a2.fr fZ, ⟨?_, fun i hi => by omega⟩, a4.fr fZ (by unfold FQr; omega) (fun a z => by unfold FQr at z; omega), ?_, ?_, a7.fr fZ (fun a _ h2 => by unfold FQr; omega), ?_, a9.fr fZ (by unfold FQr; omega) (by unfold FQr; omega), a10.fr fZ (by unfold FQr; omega) (by unfold FQr; omega)⟩
        · rw [xI_s_ne (by decide), xI_s_ne (by decide), fD.2.2.2 1 (by decide), fB.2.2.2 1 (by decide)]; exact tA
        · refine ⟨?_, ?_, ?_, ?_, ?_, fun k hk _ i hi => ?_⟩
          · rw [getW_fr (P := fun a => a = 11 ∨ a = 20) (Fr.tr (P := fun a => a = 11 ∨ a = 20) (Fr.sI (.inl rfl)) (Fr.sI (.inr rfl))) (by decide) (by decide)]; exact gD1
          · rw [getW_fr (P := fun a => a = 11 ∨ a = 20) (Fr.tr (P := fun a => a = 11 ∨ a = 20) (Fr.sI (.inl rfl)) (Fr.sI (.inr rfl))) (by decide) (by decide)]
            show getW hd 12 13 = wS (begS (begS (rowS r)))
            rw [getW_fr fD (by decide) (by decide), gB1]
            exact wS_cg (fun i hi => (bb_cg i hi).symm)
          · rw [xI_s_ne (by decide), xI_sI, if_pos ⟨rfl, rfl⟩]; rfl
          · rw [xI_s_ne (by decide), xI_sI, if_neg (by decide), d11]; exact a5.2.2.2.1
          · rw [xI_s_ne (by decide), xI_sI, if_neg (by decide), d11]; exact a5.2.2.2.2.1
          · exfalso
            have hk' : nI 0 = nI k := hk
            have := (nI_eqI (show 0 < 2 ^ 31 by decide) (by omega)).mp hk'
            omega
        · obtain ⟨nx, y1, y2, y3, y4, y5⟩ := a6
          refine ⟨nx, y1, ?_, ?_, fun i hi => (y4 i hi).fr fZ (by unfold FQr; omega) (by unfold FQr; omega), fun j hj => by omega⟩
          · rw [xI_sI, if_neg (by decide), xI_s_ne (by decide), d20]; exact y2
          · rw [xI_sI, if_pos ⟨rfl, rfl⟩]
        · refine ⟨begS (rowS r), ?_⟩
          rw [getW_fr (P := fun a => a = 11 ∨ a = 20) (Fr.tr (P := fun a => a = 11 ∨ a = 20) (Fr.sI (.inl rfl)) (Fr.sI (.inr rfl))) (by decide) (by decide), getW_fr fD (by decide) (by decide)]; exact gB3
      exact this.fr f2.fr (fun a z => by unfold KP at z; omega)
    · obtain ⟨b1', b2', b3', b4', b5'⟩ := hR1
      refine ⟨⟨x1, fun i hi => by omega⟩, RulesR.frR f2 (by unfold KP; decide) (by unfold KP; decide) (by unfold KP; decide) (by unfold KJ; decide) b2', ⟨x137, ?_, ?_⟩, ⟨x25, fun j hj => by omega⟩, ?_⟩
      · rw [f2.2.2.2.2 21 (by unfold KJ; decide)]; exact b3'.2.1
      · rw [f2.2.2.2.2 22 (by unfold KJ; decide)]; exact b3'.2.2
      · unfold ImgR at *
        rw [f2.2.2.2.1 150 (by decide) (by unfold KP; decide), f2.2.2.2.1 151 (by decide) (by unfold KP; decide), f2.2.2.2.1 152 (by decide) (by unfold KP; decide), f2.2.2.2.1 153 (by decide) (by unfold KP; decide)]; exact b5'
    · exact ⟨by omega, fun i hi => by omega, hG.2.2.1, told_inv ri rr0 hG.inv, ⟨by omega, fun j hj => by omega⟩, hG.2.2.2.2.2⟩
end FG2
