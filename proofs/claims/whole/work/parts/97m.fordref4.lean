section RF4
variable {L d : Nat} {xs : Nat → Int32} {h h1 : xH} {Q : xQ} {p o n w t k : Nat} {x y z fo xx : Int32} {T : Nat} {tp : Nat → Int32} {R : List (List Cl)} {σ σ' : Sn} {u u' : Nat} {H H' : Nat → Nat → Int32} {ι : Nat → Option Sn} {s s' f g : Nat → Int32}
variable {B : Nat → Nat} {a b c e k m q l f0 v f W st p' ce : Nat} {vs : List Nat} {r r' : Nat → Int32} {x0 x1 x2 : Int32}
def HJ (j : Nat) : Prop := 8 ≤ j ∧ j ≤ 10 ∨ j = 14
theorem GJ_h {j : Nat} (z : GJ j) : HJ j := by unfold GJ at z; unfold HJ; omega
def cl0F (B : Nat → Nat) (T c n p : Nat) (r : Nat → Int32) : Except Nat ((Nat → Int32) × Nat) := match stF B T p with
  | none => .error (1 + 8 * p + 0)
  | some st => if c = 40 then .error (1 + 8 * p + 4) else ln0F B T c st n p r
theorem cl_eq (hc : c ≤ 40) : clF B T c n p r = match cl0F B T c n p r with
    | .error f => .error f
    | .ok (r', e) => if kdF B T (nxB B T e) = 256 ∨ kdF B T (nxB B T e) = 59 then .ok (r', nxB B T e) else .error (1 + 8 * nxB B T e + 0) := by
  unfold clF cl0F
  cases stF B T p with
  | none => rfl
  | some st =>
    dsimp only
    by_cases q : c = 40
    · rw [if_pos (.inr (.inl (by omega))), if_pos q]
    · rw [if_neg q]
      unfold ln0F
      by_cases q2 : ¬ (c = 0 ↔ st = 0) ∨ (st = 1 ∧ 6 ≤ n)
      · rw [if_pos (q2.elim .inl (fun z => .inr (.inr z))), if_pos q2]
      · rw [if_neg (fun z => q2 (z.elim .inl (fun y => y.elim (fun w => by omega) .inr))), if_neg q2]
        unfold cellF
        cases numsF B T (mostF st n) (afF B T p) with
        | error f => rfl
        | ok ve => rfl
theorem r_clauseF (hz : Bas h) (hT : TR h T B) (ha : a ≤ T) (e8 : xI h 127 8 = nI a) (e9 : xI h 127 9 = nI 0) (e11 : xI h 127 11 = nI 6) (e14 : xI h 127 14 = nI c) (hc : c ≤ 40) (hr : RdR h r) (hr0 : c = 0 → r 0 = 0) (hr1 : c ≠ 0 → r 0 = nI 1) (hn : n ≤ 6) (hr2 : r 2 = nI n) : ∃ g h1, FrR GP HJ h h1 ∧ (match cl0F B T c n (nxB B T a) r with
    | .error f => g = false ∧ xI h1 127 9 = nI f
    | .ok (r', e) => g = true ∧ xI h1 127 8 = nI e ∧ xI h1 127 9 = nI 0 ∧ xI h1 127 14 = nI (c + 1) ∧ RdR h1 r') ∧ ∀ Q, Call (pG L xs) pM (d + 6) 193 [.ref 127] h Q = Q (some (.int (bI g))) h1 := by
  have t4 := hT.1
  have c0 := fun Q => r_see (L := L) (d := d + 4) (xs := xs) (Q := Q) hz hT ha e8
  obtain ⟨m1, m2⟩ := nxB_le (B := B) ha
  have hi := nxB_id (B := B) ha
  generalize nxB B T a = p at *
  have fA : FrR GP HJ h (setI h 127 8 (nI p)) := FrR.s7 (by unfold HJ; omega)
  have a8 : xI (setI h 127 8 (nI p)) 127 8 = nI p := by rw [xI_sI, if_pos ⟨rfl, rfl⟩]
  have a9 : xI (setI h 127 8 (nI p)) 127 9 = nI 0 := by rw [xI_sI, if_neg (by decide)]; exact e9
  have a11 : xI (setI h 127 8 (nI p)) 127 11 = nI 6 := by rw [xI_sI, if_neg (by decide)]; exact e11
  have a14 : xI (setI h 127 8 (nI p)) 127 14 = nI c := by rw [xI_sI, if_neg (by decide)]; exact e14
  have aR : RdR (setI h 127 8 (nI p)) r := fun i hi => by rw [xI_s_ne (by decide)]; exact hr i hi
  have tA : TR (setI h 127 8 (nI p)) T B := hT.st (by decide)
  revert c0 fA a8 a9 a11 a14 aR tA
  generalize setI h 127 8 (nI p) = hA
  intro c0 fA a8 a9 a11 a14 aR tA
  have zA := fA.bas hz
  have cw := fun Q => r_isFordWord (L := L) (d := d + 2) (xs := xs) (Q := Q) zA tA m2 hi a8
  have cf := fun k hk Q => r_fails (L := L) (d := d + 4) (xs := xs) (Q := Q) (a := p) (c := k) zA a9 (by omega) hk
  unfold cl0F
  cases es : stF B T p with
  | none =>
    rw [es] at cw
    refine ⟨false, setI hA 127 9 (nI (1 + 8 * p + 0)), fA.tr (FrR.s7 (by unfold HJ; omega)), ⟨rfl, by rw [xI_sI, if_pos ⟨rfl, rfl⟩]⟩, fun Q => ?_⟩
    simp (disch := omega) only [m193, b193_0, k193_2, b193_2, k193_4, b193_4, e_iconst, e_lconst, e_null, e_ldc, e_iload0i, e_iload1i, e_iload2i, e_iload3i, e_iload4i, e_iload5i, e_iload6i, e_iload7i, e_iload8i, e_iload9i, e_iload10i, e_lload0l, e_lload1l, e_lload2l, e_lload3l, e_lload4l, e_lload5l, e_lload6l, e_lload7l, e_lload8l, e_lload9l, e_lload10l, e_aload0r, e_aload1r, e_aload2r, e_aload3r, e_aload4r, e_aload5r, e_aload6r, e_aload7r, e_aload8r, e_aload9r, e_aload10r, e_aload0n, e_aload1n, e_aload2n, e_aload3n, e_aload4n, e_aload5n, e_aload6n, e_aload7n, e_aload8n, e_aload9n, e_aload10n, e_aload0f, e_aload1f, e_aload2f, e_aload3f, e_aload4f, e_aload5f, e_aload6f, e_aload7f, e_aload8f, e_aload9f, e_aload10f, e_iinc0, e_iinc1, e_iinc2, e_iinc3, e_iinc4, e_iinc5, e_iinc6, e_iinc7, e_iinc8, e_iinc9, e_iinc10, xst_0, xst_1i, xst2_1i, xst_1r, xst2_1r, xst_1n, xst2_1n, xst_1f, xst2_1f, xst_1u, xst2_1u, xst_1l, xst2_1l, xst2_0, xst_s, xst2_s, e_istore, e_lstore, e_astore, e_astoreN, e_iadd, e_isub, e_imul, e_iand, e_ior, e_ixor, e_ishl, e_ishr, e_iushr, e_ladd, e_lsub, e_lmul, e_land, e_lor, e_lshl, e_lcmp, e_i2l, e_l2i, e_i2b, e_ineg, e_dupi, e_dupr, e_dup2, e_popi, e_popr, e_idiv, e_irem, e_ldiv, e_lrem, e_ifCond, e_if_icmp, e_ifnullR, e_ifnullN, e_ifnonnullR, e_ifnonnullN, e_goto, e_jsr, e_tsw, e_lsw, e_getfield, e_dload, e_fload, e_putfield, e_dstore, e_fstore, e_fstoreN, e_monitor, e_new, e_newarray, e_anewarray, e_mnew, e_alen, e_slen, e_schr, e_alenF, e_iaload, e_ialoadF, e_baload, e_laload, e_aaload, e_iastore, e_lastore, e_aastore, e_bastoreB, e_bastoreZ, e_copy, e_ireturnI, e_ireturnZ0, e_ireturnZ1, e_ireturnZb, e_lreturn, e_areturn, e_areturnA, e_areturnN, e_return, ofI, ofIm, ofJ, cat_i, cat_l, cat_r, cat_f, cat_n, xent_0, xent_i, xent_l, xent_r, xent_n, xent_f, xentry, xrf_s, xrf_n, List.getD_cons_zero, List.getD_cons_succ, List.length_cons, List.length_nil, List.cons_append, List.nil_append, List.append_nil, List.map_cons, List.map_nil, List.sum_cons, List.sum_nil, List.replicate, oT_s, oT_n, true_and, and_true, Nat.reduceAdd, Nat.reduceSub, Nat.reduceLeDiff, Nat.reduceEqDiff, Nat.reduceLT, Nat.reduceDiv, Nat.reduceMod, Nat.reduceMul, eq_self, ofN, nI_dec, nI_11, or_true, true_or, false_or, or_false, nI_e0, nI_0lt, Nat.succ_ne_zero, Nat.zero_lt_succ, lg_cmp_gt, lg_cmp_lt, lg_cmp_eq, nI_lt0, nI_add, pk_sub, pk_mul, Nat.add_sub_cancel, nI_clamp, vp_in_T, nI_ltI, nI_leI, nI_eqI, Nat.zero_add, Nat.add_zero, xc_eq, xc_ne, xc_lt, xc_ge, xc_gt, xc_le, bI_0, bI_0n, bI_n0, not_true_eq_false, not_false_eq_true, if_true, if_false, ite_true, ite_false, decide_true, decide_false, and_self, and_true, true_and, Bool.not_false, Bool.not_true, Bool.true_and, Bool.and_true, Bool.false_and, Bool.and_false, Bool.and_self, Bool.true_eq_false, Bool.false_eq_true, decide_true, decide_false, not_true_eq_false, not_false_eq_true, eq_self, zs_127 hz, zr_127_0 hz, zr_127_3 hz, zr_127_4 hz, zr_127_5 hz, zr_127_6 hz, zr_127_7 hz, zr_127_15 hz, zr_127_17 hz, zr_127_19 hz, zr_127_20 hz, zr_127_23 hz, zr_127_24 hz, zr_127_26 hz, zr_127_27 hz, zr_127_28 hz, zr_127_29 hz, zr_127_32 hz, zr_127_33 hz, zr_127_34 hz, zr_127_35 hz, zr_127_36 hz, zr_127_37 hz, zr_127_39 hz, zr_127_40 hz, zr_127_41 hz, zr_127_42 hz, zs_127 zA, v165, v192, v164, c0, a8, a11, cw, Option.isSome, cf 0 (by decide)]
  | some st =>
    rw [es] at cw
    dsimp only
    by_cases q4 : c = 40
    · rw [if_pos q4]
      subst q4
      refine ⟨false, setI hA 127 9 (nI (1 + 8 * p + 4)), fA.tr (FrR.s7 (by unfold HJ; omega)), ⟨rfl, by rw [xI_sI, if_pos ⟨rfl, rfl⟩]⟩, fun Q => ?_⟩
      simp (disch := omega) only [m193, b193_0, k193_2, b193_2, k193_5, b193_5, k193_7, b193_7, e_iconst, e_lconst, e_null, e_ldc, e_iload0i, e_iload1i, e_iload2i, e_iload3i, e_iload4i, e_iload5i, e_iload6i, e_iload7i, e_iload8i, e_iload9i, e_iload10i, e_lload0l, e_lload1l, e_lload2l, e_lload3l, e_lload4l, e_lload5l, e_lload6l, e_lload7l, e_lload8l, e_lload9l, e_lload10l, e_aload0r, e_aload1r, e_aload2r, e_aload3r, e_aload4r, e_aload5r, e_aload6r, e_aload7r, e_aload8r, e_aload9r, e_aload10r, e_aload0n, e_aload1n, e_aload2n, e_aload3n, e_aload4n, e_aload5n, e_aload6n, e_aload7n, e_aload8n, e_aload9n, e_aload10n, e_aload0f, e_aload1f, e_aload2f, e_aload3f, e_aload4f, e_aload5f, e_aload6f, e_aload7f, e_aload8f, e_aload9f, e_aload10f, e_iinc0, e_iinc1, e_iinc2, e_iinc3, e_iinc4, e_iinc5, e_iinc6, e_iinc7, e_iinc8, e_iinc9, e_iinc10, xst_0, xst_1i, xst2_1i, xst_1r, xst2_1r, xst_1n, xst2_1n, xst_1f, xst2_1f, xst_1u, xst2_1u, xst_1l, xst2_1l, xst2_0, xst_s, xst2_s, e_istore, e_lstore, e_astore, e_astoreN, e_iadd, e_isub, e_imul, e_iand, e_ior, e_ixor, e_ishl, e_ishr, e_iushr, e_ladd, e_lsub, e_lmul, e_land, e_lor, e_lshl, e_lcmp, e_i2l, e_l2i, e_i2b, e_ineg, e_dupi, e_dupr, e_dup2, e_popi, e_popr, e_idiv, e_irem, e_ldiv, e_lrem, e_ifCond, e_if_icmp, e_ifnullR, e_ifnullN, e_ifnonnullR, e_ifnonnullN, e_goto, e_jsr, e_tsw, e_lsw, e_getfield, e_dload, e_fload, e_putfield, e_dstore, e_fstore, e_fstoreN, e_monitor, e_new, e_newarray, e_anewarray, e_mnew, e_alen, e_slen, e_schr, e_alenF, e_iaload, e_ialoadF, e_baload, e_laload, e_aaload, e_iastore, e_lastore, e_aastore, e_bastoreB, e_bastoreZ, e_copy, e_ireturnI, e_ireturnZ0, e_ireturnZ1, e_ireturnZb, e_lreturn, e_areturn, e_areturnA, e_areturnN, e_return, ofI, ofIm, ofJ, cat_i, cat_l, cat_r, cat_f, cat_n, xent_0, xent_i, xent_l, xent_r, xent_n, xent_f, xentry, xrf_s, xrf_n, List.getD_cons_zero, List.getD_cons_succ, List.length_cons, List.length_nil, List.cons_append, List.nil_append, List.append_nil, List.map_cons, List.map_nil, List.sum_cons, List.sum_nil, List.replicate, oT_s, oT_n, true_and, and_true, Nat.reduceAdd, Nat.reduceSub, Nat.reduceLeDiff, Nat.reduceEqDiff, Nat.reduceLT, Nat.reduceDiv, Nat.reduceMod, Nat.reduceMul, eq_self, ofN, nI_dec, nI_11, or_true, true_or, false_or, or_false, nI_e0, nI_0lt, Nat.succ_ne_zero, Nat.zero_lt_succ, lg_cmp_gt, lg_cmp_lt, lg_cmp_eq, nI_lt0, nI_add, pk_sub, pk_mul, Nat.add_sub_cancel, nI_clamp, vp_in_T, nI_ltI, nI_leI, nI_eqI, Nat.zero_add, Nat.add_zero, xc_eq, xc_ne, xc_lt, xc_ge, xc_gt, xc_le, bI_0, bI_0n, bI_n0, not_true_eq_false, not_false_eq_true, if_true, if_false, ite_true, ite_false, decide_true, decide_false, and_self, and_true, true_and, Bool.not_false, Bool.not_true, Bool.true_and, Bool.and_true, Bool.false_and, Bool.and_false, Bool.and_self, Bool.true_eq_false, Bool.false_eq_true, decide_true, decide_false, not_true_eq_false, not_false_eq_true, eq_self, zs_127 hz, zr_127_0 hz, zr_127_3 hz, zr_127_4 hz, zr_127_5 hz, zr_127_6 hz, zr_127_7 hz, zr_127_15 hz, zr_127_17 hz, zr_127_19 hz, zr_127_20 hz, zr_127_23 hz, zr_127_24 hz, zr_127_26 hz, zr_127_27 hz, zr_127_28 hz, zr_127_29 hz, zr_127_32 hz, zr_127_33 hz, zr_127_34 hz, zr_127_35 hz, zr_127_36 hz, zr_127_37 hz, zr_127_39 hz, zr_127_40 hz, zr_127_41 hz, zr_127_42 hz, zs_127 zA, v165, v192, v164, c0, a8, a11, a14, cw, Option.isSome, cf 4 (by decide), show ((1 : Nat) = 0) = False by decide]
    · rw [if_neg q4]
      have q4' : (c = 40) = False := eq_false q4
      have zB : Bas (setI hA 127 14 (nI (c + 1))) := zA.sI
      obtain ⟨g, h1, ⟨f1, rc⟩, cc⟩ := r_line (L := L) (d := d) (xs := xs) (h := setI hA 127 14 (nI (c + 1))) zB (tA.st (by decide)) m2 hi es (by rw [xI_sI, if_neg (by decide)]; exact a8) (by rw [xI_sI, if_neg (by decide)]; exact a9) (fun i hi => by rw [xI_s_ne (by decide)]; exact aR i hi) hr0 hr1 hn hr2
      refine ⟨g, h1, (fA.tr (FrR.s7 (by unfold HJ; omega))).tr (f1.mono (fun a z => z) (fun j z => GJ_h z)), ?_, fun Q => ?_⟩
      · have e14' : xI h1 127 14 = nI (c + 1) := by rw [f1.2.2.2.2 14 (by unfold GJ; decide), xI_sI, if_pos ⟨rfl, rfl⟩]
        cases el : ln0F B T c st n p r with
        | error f => rw [el] at rc; exact rc
        | ok re =>
          obtain ⟨r', e⟩ := re
          rw [el] at rc
          exact ⟨rc.1, rc.2.1, rc.2.2.1, e14', rc.2.2.2⟩
      · simp (disch := omega) only [m193, b193_0, k193_2, b193_2, k193_5, b193_5, k193_7, b193_7, k193_8, b193_8, k193_10, b193_10, e_iconst, e_lconst, e_null, e_ldc, e_iload0i, e_iload1i, e_iload2i, e_iload3i, e_iload4i, e_iload5i, e_iload6i, e_iload7i, e_iload8i, e_iload9i, e_iload10i, e_lload0l, e_lload1l, e_lload2l, e_lload3l, e_lload4l, e_lload5l, e_lload6l, e_lload7l, e_lload8l, e_lload9l, e_lload10l, e_aload0r, e_aload1r, e_aload2r, e_aload3r, e_aload4r, e_aload5r, e_aload6r, e_aload7r, e_aload8r, e_aload9r, e_aload10r, e_aload0n, e_aload1n, e_aload2n, e_aload3n, e_aload4n, e_aload5n, e_aload6n, e_aload7n, e_aload8n, e_aload9n, e_aload10n, e_aload0f, e_aload1f, e_aload2f, e_aload3f, e_aload4f, e_aload5f, e_aload6f, e_aload7f, e_aload8f, e_aload9f, e_aload10f, e_iinc0, e_iinc1, e_iinc2, e_iinc3, e_iinc4, e_iinc5, e_iinc6, e_iinc7, e_iinc8, e_iinc9, e_iinc10, xst_0, xst_1i, xst2_1i, xst_1r, xst2_1r, xst_1n, xst2_1n, xst_1f, xst2_1f, xst_1u, xst2_1u, xst_1l, xst2_1l, xst2_0, xst_s, xst2_s, e_istore, e_lstore, e_astore, e_astoreN, e_iadd, e_isub, e_imul, e_iand, e_ior, e_ixor, e_ishl, e_ishr, e_iushr, e_ladd, e_lsub, e_lmul, e_land, e_lor, e_lshl, e_lcmp, e_i2l, e_l2i, e_i2b, e_ineg, e_dupi, e_dupr, e_dup2, e_popi, e_popr, e_idiv, e_irem, e_ldiv, e_lrem, e_ifCond, e_if_icmp, e_ifnullR, e_ifnullN, e_ifnonnullR, e_ifnonnullN, e_goto, e_jsr, e_tsw, e_lsw, e_getfield, e_dload, e_fload, e_putfield, e_dstore, e_fstore, e_fstoreN, e_monitor, e_new, e_newarray, e_anewarray, e_mnew, e_alen, e_slen, e_schr, e_alenF, e_iaload, e_ialoadF, e_baload, e_laload, e_aaload, e_iastore, e_lastore, e_aastore, e_bastoreB, e_bastoreZ, e_copy, e_ireturnI, e_ireturnZ0, e_ireturnZ1, e_ireturnZb, e_lreturn, e_areturn, e_areturnA, e_areturnN, e_return, ofI, ofIm, ofJ, cat_i, cat_l, cat_r, cat_f, cat_n, xent_0, xent_i, xent_l, xent_r, xent_n, xent_f, xentry, xrf_s, xrf_n, List.getD_cons_zero, List.getD_cons_succ, List.length_cons, List.length_nil, List.cons_append, List.nil_append, List.append_nil, List.map_cons, List.map_nil, List.sum_cons, List.sum_nil, List.replicate, oT_s, oT_n, true_and, and_true, Nat.reduceAdd, Nat.reduceSub, Nat.reduceLeDiff, Nat.reduceEqDiff, Nat.reduceLT, Nat.reduceDiv, Nat.reduceMod, Nat.reduceMul, eq_self, ofN, nI_dec, nI_11, or_true, true_or, false_or, or_false, nI_e0, nI_0lt, Nat.succ_ne_zero, Nat.zero_lt_succ, lg_cmp_gt, lg_cmp_lt, lg_cmp_eq, nI_lt0, nI_add, pk_sub, pk_mul, Nat.add_sub_cancel, nI_clamp, vp_in_T, nI_ltI, nI_leI, nI_eqI, Nat.zero_add, Nat.add_zero, xc_eq, xc_ne, xc_lt, xc_ge, xc_gt, xc_le, bI_0, bI_0n, bI_n0, not_true_eq_false, not_false_eq_true, if_true, if_false, ite_true, ite_false, decide_true, decide_false, and_self, and_true, true_and, Bool.not_false, Bool.not_true, Bool.true_and, Bool.and_true, Bool.false_and, Bool.and_false, Bool.and_self, Bool.true_eq_false, Bool.false_eq_true, decide_true, decide_false, not_true_eq_false, not_false_eq_true, eq_self, zs_127 hz, zr_127_0 hz, zr_127_3 hz, zr_127_4 hz, zr_127_5 hz, zr_127_6 hz, zr_127_7 hz, zr_127_15 hz, zr_127_17 hz, zr_127_19 hz, zr_127_20 hz, zr_127_23 hz, zr_127_24 hz, zr_127_26 hz, zr_127_27 hz, zr_127_28 hz, zr_127_29 hz, zr_127_32 hz, zr_127_33 hz, zr_127_34 hz, zr_127_35 hz, zr_127_36 hz, zr_127_37 hz, zr_127_39 hz, zr_127_40 hz, zr_127_41 hz, zr_127_42 hz, zs_127 zA, xis_sI, v165, v192, v191, c0, a8, a11, a14, cw, Option.isSome, q4', f12_14, show ((1 : Nat) = 0) = False by decide, cc]
end RF4
