section RF5
variable {L d : Nat} {xs : Nat → Int32} {h h1 : xH} {Q : xQ} {p o n w t k : Nat} {x y z fo xx : Int32} {T : Nat} {tp : Nat → Int32} {R : List (List Cl)} {σ σ' : Sn} {u u' : Nat} {H H' : Nat → Nat → Int32} {ι : Nat → Option Sn} {s s' f g : Nat → Int32}
variable {B : Nat → Nat} {a b c e k m q l f0 v f W st p' ce : Nat} {vs : List Nat} {r r' : Nat → Int32} {x0 x1 x2 : Int32}
theorem kd_256 (hTb : ∀ i, i < T → B i < 256) : (kdF B T p = 256) = (T ≤ p) := by
  refine propext ⟨fun e => ?_, fun e => by unfold kdF; rw [if_pos e]⟩
  refine Classical.byContradiction (fun q => ?_)
  have hb := hTb p (by omega)
  unfold kdF at e
  rw [if_neg q] at e
  (repeat' split at e) <;> omega
theorem kd_59 (hTb : ∀ i, i < T → B i < 256) : (kdF B T p = 59) = (p < T ∧ B p = 59) := by
  refine propext ⟨fun e => ?_, fun e => ?_⟩
  · unfold kdF at e
    split at e
    · omega
    · (repeat' split at e) <;> omega
  · obtain ⟨e1, e2⟩ := e
    rw [kd_sg e1 (by rw [e2]; decide) (by rw [e2]; decide), if_neg (fun z => by omega), if_neg (fun z => by omega), e2]
theorem se_59 (hTb : ∀ i, i < T → B i < 256) : (seI B T p = nI 59) = (kdF B T p = 59) := by
  rw [kd_59 hTb]
  unfold seI
  by_cases q : p < T
  · have hb := hTb p q
    rw [if_pos q, nI_eqI (by omega) (by omega)]
    exact propext ⟨fun z => ⟨q, z⟩, fun z => z.2⟩
  · rw [if_neg q]
    exact (eq_false (by decide)).trans (eq_false (fun z => q z.1)).symm
theorem se_m1 (hTb : ∀ i, i < T → B i < 256) : (seI B T p = -(nI 1)) = (kdF B T p = 256) := by
  rw [kd_256 hTb]
  unfold seI
  by_cases q : p < T
  · have hb := hTb p q
    rw [if_pos q, nI_nm (by omega)]
    exact (eq_false (by omega)).symm
  · rw [if_neg q]
    exact (eq_true rfl).trans (eq_true (by omega)).symm
theorem af_59 (hTb : ∀ i, i < T → B i < 256) (e : kdF B T p = 59) : afF B T p = p + 1 := by
  rw [kd_59 hTb] at e
  obtain ⟨e1, e2⟩ := e
  rw [af_sg e1 (by rw [e2]; decide) (by rw [e2]; decide), if_neg (fun z => by omega)]
theorem cl0_ok (hTb : ∀ i, i < T → B i < 256) (hr : RI r) (hp : p ≤ T) (hr1 : c ≠ 0 → r 0 = nI 1) (e1 : cl0F B T c (pnF r) p r = .ok (r', e)) : c ≠ 40 ∧ RI r' ∧ e ≤ T ∧ r' 0 = nI 1 := by
  unfold cl0F at e1
  cases es : stF B T p with
  | none => rw [es] at e1; cases e1
  | some st =>
    rw [es] at e1
    dsimp only at e1
    by_cases q : c = 40
    · rw [if_pos q] at e1; cases e1
    · rw [if_neg q] at e1
      unfold ln0F at e1
      by_cases q2 : ¬ (c = 0 ↔ st = 0) ∨ (st = 1 ∧ 6 ≤ pnF r)
      · rw [if_pos q2] at e1; cases e1
      · rw [if_neg q2] at e1
        unfold cellF at e1
        cases en : numsF B T (mostF st (pnF r)) (afF B T p) with
        | error f => rw [en] at e1; cases e1
        | ok ve =>
          obtain ⟨vs, e'⟩ := ve
          rw [en] at e1
          obtain ⟨u1, u2, u3⟩ := hr.tell hTb rfl (afF_le (B := B) hp).2 (st_lt es) (fun z => q2 (.inr z)) en
          cases e1
          refine ⟨q, u1, u2, ?_⟩
          rw [u3]
          by_cases q3 : st = 0
          · rw [if_pos q3]
          · rw [if_neg q3]
            exact hr1 (fun z => q2 (.inl (fun y => q3 (y.mp z))))
theorem r_reads : ∀ k c a r h, c + k = 41 → c ≤ 40 → Bas h → TR h T B → a ≤ T → xI h 127 8 = nI a → xI h 127 9 = nI 0 → xI h 127 11 = nI 6 → xI h 127 14 = nI c → RdR h r → RI r → (c = 0 → r 0 = 0) → (c ≠ 0 → r 0 = nI 1) → ∃ g h1 h3 u, FrR GP HJ h h3 ∧ (match fdF B T k c a r with
    | .error f => xI h3 127 9 = nI f
    | .ok r' => xI h3 127 9 = nI 0 ∧ RdR h3 r') ∧ (∀ Q, Call (pG L xs) pM (d + 6) 193 [.ref 127] h Q = Q (some (.int (bI g))) h1) ∧ FrR GP HJ h h1 ∧ ∀ Q, Ev (pG L xs) pM (d + 6) b194 (some .boolean) Q b194_1 [some (.ref 127), some (.int (bI g))] [] h1 = Ev (pG L xs) pM (d + 6) b194 (some .boolean) Q b194_3 [some (.ref 127), u] [] h3 := by
  intro k
  induction k with
  | zero => intro c a r h hc hc2; omega
  | succ k ih =>
    intro c a r h hc hc2 hz hT ha e8 e9 e11 e14 hr hri hr0 hr1
    have t4 := hT.1
    have hTb : ∀ i, i < T → B i < 256 := fun i hi => (hT.2.2 i hi).1
    obtain ⟨n6, e2⟩ := hri.pn
    obtain ⟨g, h1, f1, rc, c1⟩ := r_clauseF (L := L) (d := d) (xs := xs) hz hT ha e8 e9 e11 e14 hc2 hr hr0 hr1 n6 e2
    have z1 := f1.bas hz
    have t1 := hT.fr f1 (by unfold GP; decide) (by unfold HJ; decide)
    have ce := cl_eq (B := B) (T := T) (n := pnF r) (p := nxB B T a) (r := r) hc2
    rw [fdF]
    cases el : cl0F B T c (pnF r) (nxB B T a) r with
    | error f =>
      rw [el] at rc ce
      obtain ⟨rfl, g1⟩ := rc
      dsimp only at ce
      rw [ce]
      refine ⟨false, h1, h1, some (.int (bI false)), f1, g1, c1, f1, fun Q => ?_⟩
      rw [b194_1]
      simp (disch := omega) only [k194_2, b194_2, k194_3, e_iconst, e_lconst, e_null, e_ldc, e_iload0i, e_iload1i, e_iload2i, e_iload3i, e_iload4i, e_iload5i, e_iload6i, e_iload7i, e_iload8i, e_iload9i, e_iload10i, e_lload0l, e_lload1l, e_lload2l, e_lload3l, e_lload4l, e_lload5l, e_lload6l, e_lload7l, e_lload8l, e_lload9l, e_lload10l, e_aload0r, e_aload1r, e_aload2r, e_aload3r, e_aload4r, e_aload5r, e_aload6r, e_aload7r, e_aload8r, e_aload9r, e_aload10r, e_aload0n, e_aload1n, e_aload2n, e_aload3n, e_aload4n, e_aload5n, e_aload6n, e_aload7n, e_aload8n, e_aload9n, e_aload10n, e_aload0f, e_aload1f, e_aload2f, e_aload3f, e_aload4f, e_aload5f, e_aload6f, e_aload7f, e_aload8f, e_aload9f, e_aload10f, e_iinc0, e_iinc1, e_iinc2, e_iinc3, e_iinc4, e_iinc5, e_iinc6, e_iinc7, e_iinc8, e_iinc9, e_iinc10, xst_0, xst_1i, xst2_1i, xst_1r, xst2_1r, xst_1n, xst2_1n, xst_1f, xst2_1f, xst_1u, xst2_1u, xst_1l, xst2_1l, xst2_0, xst_s, xst2_s, e_istore, e_lstore, e_astore, e_astoreN, e_iadd, e_isub, e_imul, e_iand, e_ior, e_ixor, e_ishl, e_ishr, e_iushr, e_ladd, e_lsub, e_lmul, e_land, e_lor, e_lshl, e_lcmp, e_i2l, e_l2i, e_i2b, e_ineg, e_dupi, e_dupr, e_dup2, e_popi, e_popr, e_idiv, e_irem, e_ldiv, e_lrem, e_ifCond, e_if_icmp, e_ifnullR, e_ifnullN, e_ifnonnullR, e_ifnonnullN, e_goto, e_jsr, e_tsw, e_lsw, e_getfield, e_dload, e_fload, e_putfield, e_dstore, e_fstore, e_fstoreN, e_monitor, e_new, e_newarray, e_anewarray, e_mnew, e_alen, e_slen, e_schr, e_alenF, e_iaload, e_ialoadF, e_baload, e_laload, e_aaload, e_iastore, e_lastore, e_aastore, e_bastoreB, e_bastoreZ, e_copy, e_ireturnI, e_ireturnZ0, e_ireturnZ1, e_ireturnZb, e_lreturn, e_areturn, e_areturnA, e_areturnN, e_return, ofI, ofIm, ofJ, cat_i, cat_l, cat_r, cat_f, cat_n, xent_0, xent_i, xent_l, xent_r, xent_n, xent_f, xentry, xrf_s, xrf_n, List.getD_cons_zero, List.getD_cons_succ, List.length_cons, List.length_nil, List.cons_append, List.nil_append, List.append_nil, List.map_cons, List.map_nil, List.sum_cons, List.sum_nil, List.replicate, oT_s, oT_n, true_and, and_true, Nat.reduceAdd, Nat.reduceSub, Nat.reduceLeDiff, Nat.reduceEqDiff, Nat.reduceLT, Nat.reduceDiv, Nat.reduceMod, Nat.reduceMul, eq_self, ofN, nI_dec, nI_11, or_true, true_or, false_or, or_false, nI_e0, nI_0lt, Nat.succ_ne_zero, Nat.zero_lt_succ, lg_cmp_gt, lg_cmp_lt, lg_cmp_eq, nI_lt0, nI_add, pk_sub, pk_mul, Nat.add_sub_cancel, nI_clamp, vp_in_T, nI_ltI, nI_leI, nI_eqI, Nat.zero_add, Nat.add_zero, xc_eq, xc_ne, xc_lt, xc_ge, xc_gt, xc_le, bI_0, bI_0n, bI_n0, not_true_eq_false, not_false_eq_true, if_true, if_false, ite_true, ite_false, decide_true, decide_false, and_self, and_true, true_and, Bool.not_false, Bool.not_true, Bool.true_and, Bool.and_true, Bool.false_and, Bool.and_false, Bool.and_self, Bool.true_eq_false, Bool.false_eq_true, decide_true, decide_false, not_true_eq_false, not_false_eq_true, eq_self]
    | ok re =>
      obtain ⟨r', e⟩ := re
      rw [el] at rc ce
      obtain ⟨rfl, g1, g2, g3, g4⟩ := rc
      dsimp only at ce
      obtain ⟨m1, m2⟩ := nxB_le (B := B) ha
      obtain ⟨c40, ri', eT, r1'⟩ := cl0_ok hTb hri m2 hr1 el
      obtain ⟨m3, m4⟩ := nxB_le (B := B) eT
      have hid := nxB_id (B := B) eT
      have cs := fun Q => r_see (L := L) (d := d + 5) (xs := xs) (Q := Q) z1 t1 eT g1
      generalize nxB B T e = p' at *
      have s59 := se_59 (p := p') hTb
      have sm1 := se_m1 (p := p') hTb
      have fS : FrR GP HJ h1 (setI h1 127 8 (nI p')) := FrR.s7 (by unfold HJ; omega)
      have zS : Bas (setI h1 127 8 (nI p')) := z1.sI
      have tS : TR (setI h1 127 8 (nI p')) T B := t1.st (by decide)
      have s8 : xI (setI h1 127 8 (nI p')) 127 8 = nI p' := by rw [xI_sI, if_pos ⟨rfl, rfl⟩]
      have s9 : xI (setI h1 127 8 (nI p')) 127 9 = nI 0 := by rw [xI_sI, if_neg (by decide)]; exact g2
      have sR : RdR (setI h1 127 8 (nI p')) r' := fun i hi => by rw [xI_s_ne (by decide)]; exact g4 i hi
      have cs2 := fun Q => r_see (L := L) (d := d + 5) (xs := xs) (Q := Q) zS tS m4 s8
      rw [hid, setI_ss] at cs2
      by_cases q59 : kdF B T p' = 59
      · rw [if_pos (.inr q59)] at ce
        rw [ce]
        dsimp only
        have q256 : ¬ kdF B T p' = 256 := by omega
        rw [if_neg q256]
        have ea := af_59 hTb q59
        have pT : p' < T := by rw [kd_59 hTb] at q59; exact q59.1
        obtain ⟨g', h1', h3, u, y1, y2, y3, y4, y5⟩ := ih (c + 1) (afF B T p') r' (setI h1 127 8 (nI (p' + 1))) (by omega) (by omega) z1.sI (t1.st (by decide)) (by omega) (by rw [xI_sI, if_pos ⟨rfl, rfl⟩, ea]) (by rw [xI_sI, if_neg (by decide)]; exact g2) (by rw [xI_sI, if_neg (by decide), f1.2.2.2.2 11 (by unfold HJ; decide)]; exact e11) (by rw [xI_sI, if_neg (by decide)]; exact g3) (fun i hi => by rw [xI_s_ne (by decide)]; exact g4 i hi) ri' (fun z => by omega) (fun _ => r1')
        refine ⟨true, h1, h3, u, (f1.tr (FrR.s7 (by unfold HJ; omega))).tr y1, y2, c1, f1, fun Q => ?_⟩
        rw [← y5 Q]
        conv => lhs; rw [b194_1]
        simp (disch := omega) only [k194_1, e_iconst, e_lconst, e_null, e_ldc, e_iload0i, e_iload1i, e_iload2i, e_iload3i, e_iload4i, e_iload5i, e_iload6i, e_iload7i, e_iload8i, e_iload9i, e_iload10i, e_lload0l, e_lload1l, e_lload2l, e_lload3l, e_lload4l, e_lload5l, e_lload6l, e_lload7l, e_lload8l, e_lload9l, e_lload10l, e_aload0r, e_aload1r, e_aload2r, e_aload3r, e_aload4r, e_aload5r, e_aload6r, e_aload7r, e_aload8r, e_aload9r, e_aload10r, e_aload0n, e_aload1n, e_aload2n, e_aload3n, e_aload4n, e_aload5n, e_aload6n, e_aload7n, e_aload8n, e_aload9n, e_aload10n, e_aload0f, e_aload1f, e_aload2f, e_aload3f, e_aload4f, e_aload5f, e_aload6f, e_aload7f, e_aload8f, e_aload9f, e_aload10f, e_iinc0, e_iinc1, e_iinc2, e_iinc3, e_iinc4, e_iinc5, e_iinc6, e_iinc7, e_iinc8, e_iinc9, e_iinc10, xst_0, xst_1i, xst2_1i, xst_1r, xst2_1r, xst_1n, xst2_1n, xst_1f, xst2_1f, xst_1u, xst2_1u, xst_1l, xst2_1l, xst2_0, xst_s, xst2_s, e_istore, e_lstore, e_astore, e_astoreN, e_iadd, e_isub, e_imul, e_iand, e_ior, e_ixor, e_ishl, e_ishr, e_iushr, e_ladd, e_lsub, e_lmul, e_land, e_lor, e_lshl, e_lcmp, e_i2l, e_l2i, e_i2b, e_ineg, e_dupi, e_dupr, e_dup2, e_popi, e_popr, e_idiv, e_irem, e_ldiv, e_lrem, e_ifCond, e_if_icmp, e_ifnullR, e_ifnullN, e_ifnonnullR, e_ifnonnullN, e_goto, e_jsr, e_tsw, e_lsw, e_getfield, e_dload, e_fload, e_putfield, e_dstore, e_fstore, e_fstoreN, e_monitor, e_new, e_newarray, e_anewarray, e_mnew, e_alen, e_slen, e_schr, e_alenF, e_iaload, e_ialoadF, e_baload, e_laload, e_aaload, e_iastore, e_lastore, e_aastore, e_bastoreB, e_bastoreZ, e_copy, e_ireturnI, e_ireturnZ0, e_ireturnZ1, e_ireturnZb, e_lreturn, e_areturn, e_areturnA, e_areturnN, e_return, ofI, ofIm, ofJ, cat_i, cat_l, cat_r, cat_f, cat_n, xent_0, xent_i, xent_l, xent_r, xent_n, xent_f, xentry, xrf_s, xrf_n, List.getD_cons_zero, List.getD_cons_succ, List.length_cons, List.length_nil, List.cons_append, List.nil_append, List.append_nil, List.map_cons, List.map_nil, List.sum_cons, List.sum_nil, List.replicate, oT_s, oT_n, true_and, and_true, Nat.reduceAdd, Nat.reduceSub, Nat.reduceLeDiff, Nat.reduceEqDiff, Nat.reduceLT, Nat.reduceDiv, Nat.reduceMod, Nat.reduceMul, eq_self, ofN, nI_dec, nI_11, or_true, true_or, false_or, or_false, nI_e0, nI_0lt, Nat.succ_ne_zero, Nat.zero_lt_succ, lg_cmp_gt, lg_cmp_lt, lg_cmp_eq, nI_lt0, nI_add, pk_sub, pk_mul, Nat.add_sub_cancel, nI_clamp, vp_in_T, nI_ltI, nI_leI, nI_eqI, Nat.zero_add, Nat.add_zero, xc_eq, xc_ne, xc_lt, xc_ge, xc_gt, xc_le, bI_0, bI_0n, bI_n0, not_true_eq_false, not_false_eq_true, if_true, if_false, ite_true, ite_false, decide_true, decide_false, and_self, and_true, true_and, Bool.not_false, Bool.not_true, Bool.true_and, Bool.and_true, Bool.false_and, Bool.and_false, Bool.and_self, Bool.true_eq_false, Bool.false_eq_true, decide_true, decide_false, not_true_eq_false, not_false_eq_true, eq_self, zs_127 z1, xis_sI, v165, v193, cs, s59.trans (eq_true q59), s8, f12_8, setI_ss, y3]
      · have t59 := s59.trans (eq_false q59)
        by_cases q256 : kdF B T p' = 256
        · rw [if_pos (.inl q256)] at ce
          rw [ce]
          dsimp only
          rw [if_pos q256]
          refine ⟨true, h1, setI h1 127 8 (nI p'), some (.int (bI true)), f1.tr fS, ⟨s9, sR⟩, c1, f1, fun Q => ?_⟩
          conv => lhs; rw [b194_1]
          simp (disch := omega) only [k194_2, b194_2, k194_3, e_iconst, e_lconst, e_null, e_ldc, e_iload0i, e_iload1i, e_iload2i, e_iload3i, e_iload4i, e_iload5i, e_iload6i, e_iload7i, e_iload8i, e_iload9i, e_iload10i, e_lload0l, e_lload1l, e_lload2l, e_lload3l, e_lload4l, e_lload5l, e_lload6l, e_lload7l, e_lload8l, e_lload9l, e_lload10l, e_aload0r, e_aload1r, e_aload2r, e_aload3r, e_aload4r, e_aload5r, e_aload6r, e_aload7r, e_aload8r, e_aload9r, e_aload10r, e_aload0n, e_aload1n, e_aload2n, e_aload3n, e_aload4n, e_aload5n, e_aload6n, e_aload7n, e_aload8n, e_aload9n, e_aload10n, e_aload0f, e_aload1f, e_aload2f, e_aload3f, e_aload4f, e_aload5f, e_aload6f, e_aload7f, e_aload8f, e_aload9f, e_aload10f, e_iinc0, e_iinc1, e_iinc2, e_iinc3, e_iinc4, e_iinc5, e_iinc6, e_iinc7, e_iinc8, e_iinc9, e_iinc10, xst_0, xst_1i, xst2_1i, xst_1r, xst2_1r, xst_1n, xst2_1n, xst_1f, xst2_1f, xst_1u, xst2_1u, xst_1l, xst2_1l, xst2_0, xst_s, xst2_s, e_istore, e_lstore, e_astore, e_astoreN, e_iadd, e_isub, e_imul, e_iand, e_ior, e_ixor, e_ishl, e_ishr, e_iushr, e_ladd, e_lsub, e_lmul, e_land, e_lor, e_lshl, e_lcmp, e_i2l, e_l2i, e_i2b, e_ineg, e_dupi, e_dupr, e_dup2, e_popi, e_popr, e_idiv, e_irem, e_ldiv, e_lrem, e_ifCond, e_if_icmp, e_ifnullR, e_ifnullN, e_ifnonnullR, e_ifnonnullN, e_goto, e_jsr, e_tsw, e_lsw, e_getfield, e_dload, e_fload, e_putfield, e_dstore, e_fstore, e_fstoreN, e_monitor, e_new, e_newarray, e_anewarray, e_mnew, e_alen, e_slen, e_schr, e_alenF, e_iaload, e_ialoadF, e_baload, e_laload, e_aaload, e_iastore, e_lastore, e_aastore, e_bastoreB, e_bastoreZ, e_copy, e_ireturnI, e_ireturnZ0, e_ireturnZ1, e_ireturnZb, e_lreturn, e_areturn, e_areturnA, e_areturnN, e_return, ofI, ofIm, ofJ, cat_i, cat_l, cat_r, cat_f, cat_n, xent_0, xent_i, xent_l, xent_r, xent_n, xent_f, xentry, xrf_s, xrf_n, List.getD_cons_zero, List.getD_cons_succ, List.length_cons, List.length_nil, List.cons_append, List.nil_append, List.append_nil, List.map_cons, List.map_nil, List.sum_cons, List.sum_nil, List.replicate, oT_s, oT_n, true_and, and_true, Nat.reduceAdd, Nat.reduceSub, Nat.reduceLeDiff, Nat.reduceEqDiff, Nat.reduceLT, Nat.reduceDiv, Nat.reduceMod, Nat.reduceMul, eq_self, ofN, nI_dec, nI_11, or_true, true_or, false_or, or_false, nI_e0, nI_0lt, Nat.succ_ne_zero, Nat.zero_lt_succ, lg_cmp_gt, lg_cmp_lt, lg_cmp_eq, nI_lt0, nI_add, pk_sub, pk_mul, Nat.add_sub_cancel, nI_clamp, vp_in_T, nI_ltI, nI_leI, nI_eqI, Nat.zero_add, Nat.add_zero, xc_eq, xc_ne, xc_lt, xc_ge, xc_gt, xc_le, bI_0, bI_0n, bI_n0, not_true_eq_false, not_false_eq_true, if_true, if_false, ite_true, ite_false, decide_true, decide_false, and_self, and_true, true_and, Bool.not_false, Bool.not_true, Bool.true_and, Bool.and_true, Bool.false_and, Bool.and_false, Bool.and_self, Bool.true_eq_false, Bool.false_eq_true, decide_true, decide_false, not_true_eq_false, not_false_eq_true, eq_self, zs_127 z1, xis_sI, v165, cs, cs2, t59, sm1.trans (eq_true q256)]
        · rw [if_neg (fun z => z.elim q256 q59)] at ce
          rw [ce]
          dsimp only
          have cf := fun Q => r_fails (L := L) (d := d + 5) (xs := xs) (Q := Q) (a := p') (c := 0) zS s9 (by omega) (by decide)
          refine ⟨true, h1, setI (setI h1 127 8 (nI p')) 127 9 (nI (1 + 8 * p' + 0)), some (.int (bI true)), (f1.tr fS).tr (FrR.s7 (by unfold HJ; omega)), by rw [xI_sI, if_pos ⟨rfl, rfl⟩], c1, f1, fun Q => ?_⟩
          conv => lhs; rw [b194_1]
          simp (disch := omega) only [k194_2, b194_2, k194_3, e_iconst, e_lconst, e_null, e_ldc, e_iload0i, e_iload1i, e_iload2i, e_iload3i, e_iload4i, e_iload5i, e_iload6i, e_iload7i, e_iload8i, e_iload9i, e_iload10i, e_lload0l, e_lload1l, e_lload2l, e_lload3l, e_lload4l, e_lload5l, e_lload6l, e_lload7l, e_lload8l, e_lload9l, e_lload10l, e_aload0r, e_aload1r, e_aload2r, e_aload3r, e_aload4r, e_aload5r, e_aload6r, e_aload7r, e_aload8r, e_aload9r, e_aload10r, e_aload0n, e_aload1n, e_aload2n, e_aload3n, e_aload4n, e_aload5n, e_aload6n, e_aload7n, e_aload8n, e_aload9n, e_aload10n, e_aload0f, e_aload1f, e_aload2f, e_aload3f, e_aload4f, e_aload5f, e_aload6f, e_aload7f, e_aload8f, e_aload9f, e_aload10f, e_iinc0, e_iinc1, e_iinc2, e_iinc3, e_iinc4, e_iinc5, e_iinc6, e_iinc7, e_iinc8, e_iinc9, e_iinc10, xst_0, xst_1i, xst2_1i, xst_1r, xst2_1r, xst_1n, xst2_1n, xst_1f, xst2_1f, xst_1u, xst2_1u, xst_1l, xst2_1l, xst2_0, xst_s, xst2_s, e_istore, e_lstore, e_astore, e_astoreN, e_iadd, e_isub, e_imul, e_iand, e_ior, e_ixor, e_ishl, e_ishr, e_iushr, e_ladd, e_lsub, e_lmul, e_land, e_lor, e_lshl, e_lcmp, e_i2l, e_l2i, e_i2b, e_ineg, e_dupi, e_dupr, e_dup2, e_popi, e_popr, e_idiv, e_irem, e_ldiv, e_lrem, e_ifCond, e_if_icmp, e_ifnullR, e_ifnullN, e_ifnonnullR, e_ifnonnullN, e_goto, e_jsr, e_tsw, e_lsw, e_getfield, e_dload, e_fload, e_putfield, e_dstore, e_fstore, e_fstoreN, e_monitor, e_new, e_newarray, e_anewarray, e_mnew, e_alen, e_slen, e_schr, e_alenF, e_iaload, e_ialoadF, e_baload, e_laload, e_aaload, e_iastore, e_lastore, e_aastore, e_bastoreB, e_bastoreZ, e_copy, e_ireturnI, e_ireturnZ0, e_ireturnZ1, e_ireturnZb, e_lreturn, e_areturn, e_areturnA, e_areturnN, e_return, ofI, ofIm, ofJ, cat_i, cat_l, cat_r, cat_f, cat_n, xent_0, xent_i, xent_l, xent_r, xent_n, xent_f, xentry, xrf_s, xrf_n, List.getD_cons_zero, List.getD_cons_succ, List.length_cons, List.length_nil, List.cons_append, List.nil_append, List.append_nil, List.map_cons, List.map_nil, List.sum_cons, List.sum_nil, List.replicate, oT_s, oT_n, true_and, and_true, Nat.reduceAdd, Nat.reduceSub, Nat.reduceLeDiff, Nat.reduceEqDiff, Nat.reduceLT, Nat.reduceDiv, Nat.reduceMod, Nat.reduceMul, eq_self, ofN, nI_dec, nI_11, or_true, true_or, false_or, or_false, nI_e0, nI_0lt, Nat.succ_ne_zero, Nat.zero_lt_succ, lg_cmp_gt, lg_cmp_lt, lg_cmp_eq, nI_lt0, nI_add, pk_sub, pk_mul, Nat.add_sub_cancel, nI_clamp, vp_in_T, nI_ltI, nI_leI, nI_eqI, Nat.zero_add, Nat.add_zero, xc_eq, xc_ne, xc_lt, xc_ge, xc_gt, xc_le, bI_0, bI_0n, bI_n0, not_true_eq_false, not_false_eq_true, if_true, if_false, ite_true, ite_false, decide_true, decide_false, and_self, and_true, true_and, Bool.not_false, Bool.not_true, Bool.true_and, Bool.and_true, Bool.false_and, Bool.and_false, Bool.and_self, Bool.true_eq_false, Bool.false_eq_true, decide_true, decide_false, not_true_eq_false, not_false_eq_true, eq_self, zs_127 z1, xis_sI, v165, v164, cs, cs2, t59, sm1.trans (eq_false q256), s8, cf]
end RF5
