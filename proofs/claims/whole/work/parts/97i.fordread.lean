section FR
variable {L d : Nat} {xs : Nat → Int32} {h h1 : xH} {Q : xQ} {p o n w t k : Nat} {x y z fo xx : Int32} {T : Nat} {tp : Nat → Int32} {R : List (List Cl)} {σ σ' : Sn} {u u' : Nat} {H H' : Nat → Nat → Int32} {ι : Nat → Option Sn} {s s' f g : Nat → Int32}
variable {B : Nat → Nat} {a b c e k m q l f0 v f W st p' : Nat} {vs : List Nat} {r r' : Nat → Int32} {x0 x1 x2 : Int32}
def pnF (r : Nat → Int32) : Nat := (r 2).toNatClampNeg
def fdF (B : Nat → Nat) (T : Nat) : Nat → Nat → Nat → (Nat → Int32) → Except Nat (Nat → Int32)
  | 0, _, _, r => .ok r
  | k + 1, c, a, r => match clF B T c (pnF r) (nxB B T a) r with
    | .error f => .error f
    | .ok (r', p') => if kdF B T p' = 256 then .ok r' else fdF B T k (c + 1) (afF B T p') r'
/-- what holds of a row that is read -/
def RI (r : Nat → Int32) : Prop := (∃ n, n ≤ 6 ∧ r 2 = nI n) ∧ ¬ r 109 < 0 ∧ (∀ o, o < 6 → ∃ f, f ≤ 9 ∧ r (61 + o) = nI f) ∧ (r 0 = 0 ∨ r 0 = 1)
theorem RI.pn (hr : RI r) : pnF r ≤ 6 ∧ r 2 = nI (pnF r) := by
  obtain ⟨⟨n, h1, h2⟩, -⟩ := hr
  unfold pnF
  rw [h2, nI_clamp (by omega)]; exact ⟨h1, rfl⟩
theorem RI.r0 : RI r0F := ⟨⟨0, by decide, rfl⟩, by decide, fun o _ => ⟨0, by decide, rfl⟩, .inl rfl⟩
theorem cl_ok (e1 : clF B T c n p r = .ok (r', p')) : ∃ st vs e, stF B T p = some st ∧ (c = 0 ↔ st = 0) ∧ c < 40 ∧ ¬ (st = 1 ∧ 6 ≤ n) ∧ numsF B T (mostF st n) (afF B T p) = .ok (vs, e) ∧ r' = tellR st n vs r ∧ p' = nxB B T e ∧ (kdF B T p' = 256 ∨ kdF B T p' = 59) := by
  unfold clF at e1
  cases es : stF B T p with
  | none => rw [es] at e1; cases e1
  | some st =>
    rw [es] at e1
    dsimp only at e1
    split at e1
    · cases e1
    · rename_i bad
      cases en : numsF B T (mostF st n) (afF B T p) with
      | error f => rw [en] at e1; cases e1
      | ok ve =>
        obtain ⟨vs, e⟩ := ve
        rw [en] at e1
        dsimp only at e1
        split at e1
        · rename_i qe
          cases e1
          exact ⟨st, vs, e, rfl, Classical.byContradiction (fun z => bad (.inl z)), by omega, fun z => bad (.inr (.inr z)), en, rfl, rfl, qe⟩
        · cases e1
theorem RI.tell (hTb : ∀ i, i < T → B i < 256) (hr : RI r) (hn : n = pnF r) (ha : a ≤ T) (hst : st < 3) (hn1 : ¬ (st = 1 ∧ 6 ≤ n)) (en : numsF B T (mostF st n) a = .ok (vs, e)) : RI (tellR st n vs r) ∧ e ≤ T ∧ (tellR st n vs r) 0 = if st = 0 then nI 1 else r 0 := by
  obtain ⟨n6, e2⟩ := hr.pn
  obtain ⟨-, h2, h3, h4⟩ := hr
  unfold mostF at en
  have cst : st = 0 ∨ st = 1 ∨ st = 2 := by omega
  rcases cst with rfl | rfl | rfl
  · rw [if_pos rfl] at en
    obtain ⟨v0, v1, rfl, b1, b2, b3, b4, b5⟩ := nums2 hTb ha en
    refine ⟨⟨⟨n, by omega, ?_⟩, ?_, fun o ho => ?_, .inr rfl⟩, b5, rfl⟩
    · rw [hn]; exact e2
    · show ¬ nI v0 < 0
      rw [nI_lt0 (by omega)]; exact fun z => z
    · obtain ⟨f, f1, f2⟩ := h3 o ho
      refine ⟨f, f1, ?_⟩
      show (if 61 + o = 109 then _ else _) = _
      rw [if_neg (by omega), if_neg (by omega), if_neg (by omega), if_neg (by omega)]; exact f2
  · rw [if_neg (by decide), if_pos rfl] at en
    obtain ⟨v0, v1, v2, rfl, b1, b2, b3, b4, b5, b6, b7⟩ := nums3 hTb ha en
    have n5 : n < 6 := by omega
    rw [nI_ltI (by decide) (by omega)] at b6
    refine ⟨⟨⟨n + 1, by omega, ?_⟩, ?_, fun o ho => ?_, ?_⟩, b7, ?_⟩
    · rw [tell_1]; dsimp only; rw [if_neg (by omega), if_neg (by omega), if_neg (by omega), if_pos rfl]
    · rw [tell_1]; dsimp only; rw [if_neg (by omega), if_neg (by omega), if_neg (by omega), if_neg (by omega)]; exact h2
    · rw [tell_1]; dsimp only
      rw [if_neg (by omega), if_neg (by omega)]
      by_cases z : o = n
      · subst z; rw [if_pos rfl]; exact ⟨v2, by omega, rfl⟩
      · rw [if_neg (by omega), if_neg (by omega)]; exact h3 o ho
    · rw [tell_1]; dsimp only; rw [if_neg (by omega), if_neg (by omega), if_neg (by omega), if_neg (by omega)]; exact h4
    · rw [tell_1]; dsimp only; rw [if_neg (by omega), if_neg (by omega), if_neg (by omega), if_neg (by omega), if_neg (by decide)]
  · rw [if_neg (by decide), if_neg (by decide)] at en
    obtain ⟨v0, v1, v2, rfl, b1, b2, b3, b4, b5, b6, b7⟩ := nums3 hTb ha en
    have k0 := feI_lt9 (by omega) b1 b2
    have k1 := feI_lt9 (by omega) b3 b4
    refine ⟨⟨⟨n, by omega, ?_⟩, ?_, fun o ho => ?_, ?_⟩, b7, ?_⟩
    · rw [tell_2]; dsimp only; rw [if_neg (by omega), hn]; exact e2
    · rw [tell_2]; dsimp only; rw [if_neg (by omega)]; exact h2
    · rw [tell_2]; dsimp only
      rw [if_neg (by omega)]; exact h3 o ho
    · rw [tell_2]; dsimp only; rw [if_neg (by omega)]; exact h4
    · rw [tell_2]; dsimp only; rw [if_neg (by omega), if_neg (by decide)]
theorem c_read1 : ∀ k c a r h, c + k = 41 → c ≤ 40 → Bas h → TC h T B → xI h 3 2 = nI 0 → a ≤ T → xI h 1 5 = nI a → CWo h c (pnF r) r → RI r → (c ≠ 0 → r 0 = nI 1) → (∀ f, fdF B T k c a r = .error f → f ≠ 0 ∧ f < 10000 ∧ ∃ h1, Fr FQr h h1 ∧ WAny h1 4 5 ∧ ∀ Q, Ev (pG L xs) pM (d + 5) b9 (some .int) Q b9_1 [some (.ref 3), some (.ref 1), some (.int (nI c))] [] h = Q (some (.int (nI f))) h1) ∧ ∀ r', fdF B T k c a r = .ok r' → RI r' ∧ r' 0 = nI 1 ∧ ∃ h1, Fr FQr h h1 ∧ getW h1 4 5 = wS (begS (rowS r')) ∧ ∀ Q, Ev (pG L xs) pM (d + 5) b9 (some .int) Q b9_1 [some (.ref 3), some (.ref 1), some (.int (nI c))] [] h = Q (some (.int (nI 0))) h1 := by
  intro k
  induction k with
  | zero => intro c a r h hc hc2; omega
  | succ k ih =>
    intro c a r h hc hc2 hz hT e2 ha e5 hw hr hr0
    have hTb : ∀ i, i < T → B i < 256 := fun i hi => (hT.2.2 i hi).1
    have q40 : ¬ 40 < c := by omega
    obtain ⟨h1, f1, t1, A1, c1⟩ := c_advance (L := L) (d := d + 3) (xs := xs) hz hT ha e5
    have z1 := f1.bas hz
    have e21 : xI h1 3 2 = nI 0 := by rw [f1.2.2.2 3 (by decide)]; exact e2
    have w1 : CWo h1 c (pnF r) r := ⟨hw.1, fun z => ⟨WAny.fr f1 (by decide) (by decide) (hw.2.1 z).1, (hw.2.1 z).2⟩, fun z => ⟨by rw [getW_fr f1 (by decide) (by decide)]; exact (hw.2.2 z).1, (hw.2.2 z).2⟩⟩
    obtain ⟨s1, s2⟩ := c_readClause (L := L) (d := d) (xs := xs) z1 t1 e21 A1 hc2 w1
    have fq1 : Fr FQr h h1 := f1.mono (fun a z => .inl z)
    rw [fdF]
    cases ec : clF B T c (pnF r) (nxB B T a) r with
    | error f =>
      obtain ⟨g1, g2, h2, f2, i1, i2, c2⟩ := s1 f ec
      have g1' : (f = 0) = False := eq_false g1
      have z2 := f2.bas z1
      refine ⟨fun f' ef => ?_, fun r' ef => by cases ef⟩
      cases ef
      refine ⟨g1, g2, h2, fq1.tr f2, i2, fun Q => ?_⟩
      rw [b9_1]
      simp (disch := omega) only [k9_2, b9_2, e_iconst, e_lconst, e_null, e_ldc, e_iload0i, e_iload1i, e_iload2i, e_iload3i, e_iload4i, e_iload5i, e_iload6i, e_iload7i, e_iload8i, e_iload9i, e_iload10i, e_lload0l, e_lload1l, e_lload2l, e_lload3l, e_lload4l, e_lload5l, e_lload6l, e_lload7l, e_lload8l, e_lload9l, e_lload10l, e_aload0r, e_aload1r, e_aload2r, e_aload3r, e_aload4r, e_aload5r, e_aload6r, e_aload7r, e_aload8r, e_aload9r, e_aload10r, e_aload0n, e_aload1n, e_aload2n, e_aload3n, e_aload4n, e_aload5n, e_aload6n, e_aload7n, e_aload8n, e_aload9n, e_aload10n, e_aload0f, e_aload1f, e_aload2f, e_aload3f, e_aload4f, e_aload5f, e_aload6f, e_aload7f, e_aload8f, e_aload9f, e_aload10f, e_iinc0, e_iinc1, e_iinc2, e_iinc3, e_iinc4, e_iinc5, e_iinc6, e_iinc7, e_iinc8, e_iinc9, e_iinc10, xst_0, xst_1i, xst2_1i, xst_1r, xst2_1r, xst_1n, xst2_1n, xst_1f, xst2_1f, xst_1u, xst2_1u, xst_1l, xst2_1l, xst2_0, xst_s, xst2_s, e_istore, e_lstore, e_astore, e_astoreN, e_iadd, e_isub, e_imul, e_iand, e_ior, e_ixor, e_ishl, e_ishr, e_iushr, e_ladd, e_lsub, e_lmul, e_land, e_lor, e_lshl, e_lcmp, e_i2l, e_l2i, e_i2b, e_ineg, e_dupi, e_dupr, e_dup2, e_popi, e_popr, e_idiv, e_irem, e_ldiv, e_lrem, e_ifCond, e_if_icmp, e_ifnullR, e_ifnullN, e_ifnonnullR, e_ifnonnullN, e_goto, e_jsr, e_tsw, e_lsw, e_getfield, e_dload, e_fload, e_putfield, e_dstore, e_fstore, e_fstoreN, e_monitor, e_new, e_newarray, e_anewarray, e_mnew, e_alen, e_slen, e_schr, e_alenF, e_iaload, e_ialoadF, e_baload, e_laload, e_aaload, e_iastore, e_lastore, e_aastore, e_bastoreB, e_bastoreZ, e_copy, e_ireturnI, e_ireturnZ0, e_ireturnZ1, e_ireturnZb, e_lreturn, e_areturn, e_areturnA, e_areturnN, e_return, ofI, ofIm, ofJ, cat_i, cat_l, cat_r, cat_f, cat_n, xent_0, xent_i, xent_l, xent_r, xent_n, xent_f, xentry, xrf_s, xrf_n, List.getD_cons_zero, List.getD_cons_succ, List.length_cons, List.length_nil, List.cons_append, List.nil_append, List.append_nil, List.map_cons, List.map_nil, List.sum_cons, List.sum_nil, List.replicate, oT_s, oT_n, true_and, and_true, Nat.reduceAdd, Nat.reduceSub, Nat.reduceLeDiff, Nat.reduceEqDiff, Nat.reduceLT, Nat.reduceDiv, Nat.reduceMod, Nat.reduceMul, eq_self, ofN, nI_dec, nI_11, or_true, true_or, false_or, or_false, nI_e0, nI_0lt, Nat.succ_ne_zero, Nat.zero_lt_succ, lg_cmp_gt, lg_cmp_lt, lg_cmp_eq, nI_lt0, nI_add, pk_sub, pk_mul, Nat.add_sub_cancel, nI_clamp, vp_in_T, nI_ltI, nI_leI, nI_eqI, Nat.zero_add, Nat.add_zero, xc_eq, xc_ne, xc_lt, xc_ge, xc_gt, xc_le, bI_0, bI_0n, bI_n0, not_true_eq_false, not_false_eq_true, if_true, if_false, ite_true, ite_false, decide_true, decide_false, and_self, and_true, true_and, zs_1 hz, zr_1_0 hz, zs_3 z1, zs_3 z2, q40, v72, v10, c1, c2, i1, g1']
    | ok rp =>
      obtain ⟨r', p'⟩ := rp
      obtain ⟨h2, f2, t2, i1, A2, i3, c2⟩ := s2 r' p' ec
      obtain ⟨st, vs, e, j1, j2, j3, j4, j5, rfl, rfl, j8⟩ := cl_ok ec
      have z2 := f2.bas z1
      have k2 := A2.2.1
      have kl := kd_lt (p := nxB B T e) hTb
      obtain ⟨m1, m2⟩ := nxB_le (B := B) ha
      obtain ⟨u1, u2, u3⟩ := hr.tell hTb rfl (afF_le (B := B) m2).2 (st_lt j1) j4 j5
      have r1 : (tellR st (pnF r) vs r) 0 = nI 1 := by
        rw [u3]
        split
        · rfl
        · exact hr0 (fun z => by omega)
      dsimp only
      by_cases qk : kdF B T (nxB B T e) = 256
      · rw [if_pos qk]
        refine ⟨fun f' ef => (by cases ef), fun r'' ef => ?_⟩
        cases ef
        refine ⟨u1, r1, h2, fq1.tr f2, i3, fun Q => ?_⟩
        rw [qk] at k2
        rw [b9_1]
        simp (disch := omega) only [k9_2, b9_2, e_iconst, e_lconst, e_null, e_ldc, e_iload0i, e_iload1i, e_iload2i, e_iload3i, e_iload4i, e_iload5i, e_iload6i, e_iload7i, e_iload8i, e_iload9i, e_iload10i, e_lload0l, e_lload1l, e_lload2l, e_lload3l, e_lload4l, e_lload5l, e_lload6l, e_lload7l, e_lload8l, e_lload9l, e_lload10l, e_aload0r, e_aload1r, e_aload2r, e_aload3r, e_aload4r, e_aload5r, e_aload6r, e_aload7r, e_aload8r, e_aload9r, e_aload10r, e_aload0n, e_aload1n, e_aload2n, e_aload3n, e_aload4n, e_aload5n, e_aload6n, e_aload7n, e_aload8n, e_aload9n, e_aload10n, e_aload0f, e_aload1f, e_aload2f, e_aload3f, e_aload4f, e_aload5f, e_aload6f, e_aload7f, e_aload8f, e_aload9f, e_aload10f, e_iinc0, e_iinc1, e_iinc2, e_iinc3, e_iinc4, e_iinc5, e_iinc6, e_iinc7, e_iinc8, e_iinc9, e_iinc10, xst_0, xst_1i, xst2_1i, xst_1r, xst2_1r, xst_1n, xst2_1n, xst_1f, xst2_1f, xst_1u, xst2_1u, xst_1l, xst2_1l, xst2_0, xst_s, xst2_s, e_istore, e_lstore, e_astore, e_astoreN, e_iadd, e_isub, e_imul, e_iand, e_ior, e_ixor, e_ishl, e_ishr, e_iushr, e_ladd, e_lsub, e_lmul, e_land, e_lor, e_lshl, e_lcmp, e_i2l, e_l2i, e_i2b, e_ineg, e_dupi, e_dupr, e_dup2, e_popi, e_popr, e_idiv, e_irem, e_ldiv, e_lrem, e_ifCond, e_if_icmp, e_ifnullR, e_ifnullN, e_ifnonnullR, e_ifnonnullN, e_goto, e_jsr, e_tsw, e_lsw, e_getfield, e_dload, e_fload, e_putfield, e_dstore, e_fstore, e_fstoreN, e_monitor, e_new, e_newarray, e_anewarray, e_mnew, e_alen, e_slen, e_schr, e_alenF, e_iaload, e_ialoadF, e_baload, e_laload, e_aaload, e_iastore, e_lastore, e_aastore, e_bastoreB, e_bastoreZ, e_copy, e_ireturnI, e_ireturnZ0, e_ireturnZ1, e_ireturnZb, e_lreturn, e_areturn, e_areturnA, e_areturnN, e_return, ofI, ofIm, ofJ, cat_i, cat_l, cat_r, cat_f, cat_n, xent_0, xent_i, xent_l, xent_r, xent_n, xent_f, xentry, xrf_s, xrf_n, List.getD_cons_zero, List.getD_cons_succ, List.length_cons, List.length_nil, List.cons_append, List.nil_append, List.append_nil, List.map_cons, List.map_nil, List.sum_cons, List.sum_nil, List.replicate, oT_s, oT_n, true_and, and_true, Nat.reduceAdd, Nat.reduceSub, Nat.reduceLeDiff, Nat.reduceEqDiff, Nat.reduceLT, Nat.reduceDiv, Nat.reduceMod, Nat.reduceMul, eq_self, ofN, nI_dec, nI_11, or_true, true_or, false_or, or_false, nI_e0, nI_0lt, Nat.succ_ne_zero, Nat.zero_lt_succ, lg_cmp_gt, lg_cmp_lt, lg_cmp_eq, nI_lt0, nI_add, pk_sub, pk_mul, Nat.add_sub_cancel, nI_clamp, vp_in_T, nI_ltI, nI_leI, nI_eqI, Nat.zero_add, Nat.add_zero, xc_eq, xc_ne, xc_lt, xc_ge, xc_gt, xc_le, bI_0, bI_0n, bI_n0, not_true_eq_false, not_false_eq_true, if_true, if_false, ite_true, ite_false, decide_true, decide_false, and_self, and_true, true_and, zs_1 hz, zr_1_0 hz, zs_3 z1, zs_3 z2, zs_1 z2, q40, v72, v10, c1, c2, i1, k2]
      · rw [if_neg qk]
        have qk' : (kdF B T (nxB B T e) = 256) = False := eq_false qk
        obtain ⟨m3, m4⟩ := nxB_le (B := B) u2
        obtain ⟨s3, s4⟩ := ih (c + 1) (afF B T (nxB B T e)) (tellR st (pnF r) vs r) h2 (by omega) (by omega) z2 t2 i1 (afF_le (B := B) m4).2 A2.2.2.2.1 ⟨(u1.pn).1, fun z => by omega, fun _ => ⟨i3, (u1.pn).2⟩⟩ u1 (fun _ => r1)
        have st' : ∀ Q, Ev (pG L xs) pM (d + 5) b9 (some .int) Q b9_1 [some (.ref 3), some (.ref 1), some (.int (nI c))] [] h = Ev (pG L xs) pM (d + 5) b9 (some .int) Q b9_1 [some (.ref 3), some (.ref 1), some (.int (nI (c + 1)))] [] h2 := by
          intro Q
          conv => lhs; rw [b9_1]
          simp (disch := omega) only [k9_3, b9_3, k9_1, e_iconst, e_lconst, e_null, e_ldc, e_iload0i, e_iload1i, e_iload2i, e_iload3i, e_iload4i, e_iload5i, e_iload6i, e_iload7i, e_iload8i, e_iload9i, e_iload10i, e_lload0l, e_lload1l, e_lload2l, e_lload3l, e_lload4l, e_lload5l, e_lload6l, e_lload7l, e_lload8l, e_lload9l, e_lload10l, e_aload0r, e_aload1r, e_aload2r, e_aload3r, e_aload4r, e_aload5r, e_aload6r, e_aload7r, e_aload8r, e_aload9r, e_aload10r, e_aload0n, e_aload1n, e_aload2n, e_aload3n, e_aload4n, e_aload5n, e_aload6n, e_aload7n, e_aload8n, e_aload9n, e_aload10n, e_aload0f, e_aload1f, e_aload2f, e_aload3f, e_aload4f, e_aload5f, e_aload6f, e_aload7f, e_aload8f, e_aload9f, e_aload10f, e_iinc0, e_iinc1, e_iinc2, e_iinc3, e_iinc4, e_iinc5, e_iinc6, e_iinc7, e_iinc8, e_iinc9, e_iinc10, xst_0, xst_1i, xst2_1i, xst_1r, xst2_1r, xst_1n, xst2_1n, xst_1f, xst2_1f, xst_1u, xst2_1u, xst_1l, xst2_1l, xst2_0, xst_s, xst2_s, e_istore, e_lstore, e_astore, e_astoreN, e_iadd, e_isub, e_imul, e_iand, e_ior, e_ixor, e_ishl, e_ishr, e_iushr, e_ladd, e_lsub, e_lmul, e_land, e_lor, e_lshl, e_lcmp, e_i2l, e_l2i, e_i2b, e_ineg, e_dupi, e_dupr, e_dup2, e_popi, e_popr, e_idiv, e_irem, e_ldiv, e_lrem, e_ifCond, e_if_icmp, e_ifnullR, e_ifnullN, e_ifnonnullR, e_ifnonnullN, e_goto, e_jsr, e_tsw, e_lsw, e_getfield, e_dload, e_fload, e_putfield, e_dstore, e_fstore, e_fstoreN, e_monitor, e_new, e_newarray, e_anewarray, e_mnew, e_alen, e_slen, e_schr, e_alenF, e_iaload, e_ialoadF, e_baload, e_laload, e_aaload, e_iastore, e_lastore, e_aastore, e_bastoreB, e_bastoreZ, e_copy, e_ireturnI, e_ireturnZ0, e_ireturnZ1, e_ireturnZb, e_lreturn, e_areturn, e_areturnA, e_areturnN, e_return, ofI, ofIm, ofJ, cat_i, cat_l, cat_r, cat_f, cat_n, xent_0, xent_i, xent_l, xent_r, xent_n, xent_f, xentry, xrf_s, xrf_n, List.getD_cons_zero, List.getD_cons_succ, List.length_cons, List.length_nil, List.cons_append, List.nil_append, List.append_nil, List.map_cons, List.map_nil, List.sum_cons, List.sum_nil, List.replicate, oT_s, oT_n, true_and, and_true, Nat.reduceAdd, Nat.reduceSub, Nat.reduceLeDiff, Nat.reduceEqDiff, Nat.reduceLT, Nat.reduceDiv, Nat.reduceMod, Nat.reduceMul, eq_self, ofN, nI_dec, nI_11, or_true, true_or, false_or, or_false, nI_e0, nI_0lt, Nat.succ_ne_zero, Nat.zero_lt_succ, lg_cmp_gt, lg_cmp_lt, lg_cmp_eq, nI_lt0, nI_add, pk_sub, pk_mul, Nat.add_sub_cancel, nI_clamp, vp_in_T, nI_ltI, nI_leI, nI_eqI, Nat.zero_add, Nat.add_zero, xc_eq, xc_ne, xc_lt, xc_ge, xc_gt, xc_le, bI_0, bI_0n, bI_n0, not_true_eq_false, not_false_eq_true, if_true, if_false, ite_true, ite_false, decide_true, decide_false, and_self, and_true, true_and, zs_1 hz, zr_1_0 hz, zs_3 z1, zs_3 z2, zs_1 z2, q40, v72, v10, c1, c2, i1, k2, qk']
        refine ⟨fun f' ef => ?_, fun r'' ef => ?_⟩
        · obtain ⟨y1, y2, h3, y3, y4, y5⟩ := s3 f' ef
          exact ⟨y1, y2, h3, (fq1.tr f2).tr y3, y4, fun Q => (st' Q).trans (y5 Q)⟩
        · obtain ⟨y1, y2, h3, y3, y4, y5⟩ := s4 r'' ef
          exact ⟨y1, y2, h3, (fq1.tr f2).tr y3, y4, fun Q => (st' Q).trans (y5 Q)⟩
theorem c_read (hz : Bas h) (hT : TC h T B) (hw : WAny h 4 5) : (∀ f, fdF B T 41 0 0 r0F = .error f → f ≠ 0 ∧ f < 10000 ∧ ∃ h1, Fr FQr h h1 ∧ WAny h1 4 5 ∧ ∀ Q, Call (pG L xs) pM (d + 6) 9 [.ref 3, .ref 1] h Q = Q (some (.int (nI f))) h1) ∧ ∀ r', fdF B T 41 0 0 r0F = .ok r' → RI r' ∧ r' 0 = nI 1 ∧ ∃ h1, Fr FQr h h1 ∧ getW h1 4 5 = wS (begS (rowS r')) ∧ ∀ Q, Call (pG L xs) pM (d + 6) 9 [.ref 3, .ref 1] h Q = Q (some (.int (nI 0))) h1 := by
  have f0 : Fr FQr h (setI (setI h 3 2 (nI 0)) 1 5 (nI 0)) := (Fr.sI (by unfold FQr; omega)).tr (Fr.sI (.inl rfl))
  have z0 := f0.bas hz
  have wf : WAny (setI (setI h 3 2 (nI 0)) 1 5 (nI 0)) 4 5 := WAny.fr (P := fun a => a = 3 ∨ a = 1) (Fr.tr (P := fun a => a = 3 ∨ a = 1) (Fr.sI (.inl rfl)) (Fr.sI (.inr rfl))) (by decide) (by decide) hw
  have t0 : TC (setI (setI h 3 2 (nI 0)) 1 5 (nI 0)) T B := TC.st ⟨hT.1, by rw [xI_s_ne (by decide)]; exact hT.2.1, by rw [xI_s_ne (by decide)]; exact hT.2.2⟩ (by decide)
  obtain ⟨s1, s2⟩ := c_read1 (L := L) (d := d) (xs := xs) (T := T) (B := B) 41 0 0 r0F _ (by omega) (by omega) z0 t0 (by rw [xI_s_ne (by decide), xI_sI, if_pos ⟨rfl, rfl⟩]) (Nat.zero_le _) (by rw [xI_sI, if_pos ⟨rfl, rfl⟩]) ⟨RI.r0.pn.1, fun _ => ⟨wf, rfl⟩, fun z => absurd rfl z⟩ RI.r0 (fun z => absurd rfl z)
  have st' : ∀ Q, Call (pG L xs) pM (d + 6) 9 [.ref 3, .ref 1] h Q = Ev (pG L xs) pM (d + 5) b9 (some .int) Q b9_1 [some (.ref 3), some (.ref 1), some (.int (nI 0))] [] (setI (setI h 3 2 (nI 0)) 1 5 (nI 0)) := by
    intro Q
    simp (disch := omega) only [m9, b9_0, k9_1, m71, b71_0, e_iconst, e_lconst, e_null, e_ldc, e_iload0i, e_iload1i, e_iload2i, e_iload3i, e_iload4i, e_iload5i, e_iload6i, e_iload7i, e_iload8i, e_iload9i, e_iload10i, e_lload0l, e_lload1l, e_lload2l, e_lload3l, e_lload4l, e_lload5l, e_lload6l, e_lload7l, e_lload8l, e_lload9l, e_lload10l, e_aload0r, e_aload1r, e_aload2r, e_aload3r, e_aload4r, e_aload5r, e_aload6r, e_aload7r, e_aload8r, e_aload9r, e_aload10r, e_aload0n, e_aload1n, e_aload2n, e_aload3n, e_aload4n, e_aload5n, e_aload6n, e_aload7n, e_aload8n, e_aload9n, e_aload10n, e_aload0f, e_aload1f, e_aload2f, e_aload3f, e_aload4f, e_aload5f, e_aload6f, e_aload7f, e_aload8f, e_aload9f, e_aload10f, e_iinc0, e_iinc1, e_iinc2, e_iinc3, e_iinc4, e_iinc5, e_iinc6, e_iinc7, e_iinc8, e_iinc9, e_iinc10, xst_0, xst_1i, xst2_1i, xst_1r, xst2_1r, xst_1n, xst2_1n, xst_1f, xst2_1f, xst_1u, xst2_1u, xst_1l, xst2_1l, xst2_0, xst_s, xst2_s, e_istore, e_lstore, e_astore, e_astoreN, e_iadd, e_isub, e_imul, e_iand, e_ior, e_ixor, e_ishl, e_ishr, e_iushr, e_ladd, e_lsub, e_lmul, e_land, e_lor, e_lshl, e_lcmp, e_i2l, e_l2i, e_i2b, e_ineg, e_dupi, e_dupr, e_dup2, e_popi, e_popr, e_idiv, e_irem, e_ldiv, e_lrem, e_ifCond, e_if_icmp, e_ifnullR, e_ifnullN, e_ifnonnullR, e_ifnonnullN, e_goto, e_jsr, e_tsw, e_lsw, e_getfield, e_dload, e_fload, e_putfield, e_dstore, e_fstore, e_fstoreN, e_monitor, e_new, e_newarray, e_anewarray, e_mnew, e_alen, e_slen, e_schr, e_alenF, e_iaload, e_ialoadF, e_baload, e_laload, e_aaload, e_iastore, e_lastore, e_aastore, e_bastoreB, e_bastoreZ, e_copy, e_ireturnI, e_ireturnZ0, e_ireturnZ1, e_ireturnZb, e_lreturn, e_areturn, e_areturnA, e_areturnN, e_return, ofI, ofIm, ofJ, cat_i, cat_l, cat_r, cat_f, cat_n, xent_0, xent_i, xent_l, xent_r, xent_n, xent_f, xentry, xrf_s, xrf_n, List.getD_cons_zero, List.getD_cons_succ, List.length_cons, List.length_nil, List.cons_append, List.nil_append, List.append_nil, List.map_cons, List.map_nil, List.sum_cons, List.sum_nil, List.replicate, oT_s, oT_n, true_and, and_true, Nat.reduceAdd, Nat.reduceSub, Nat.reduceLeDiff, Nat.reduceEqDiff, Nat.reduceLT, Nat.reduceDiv, Nat.reduceMod, Nat.reduceMul, eq_self, ofN, nI_dec, nI_11, or_true, true_or, false_or, or_false, nI_e0, nI_0lt, Nat.succ_ne_zero, Nat.zero_lt_succ, lg_cmp_gt, lg_cmp_lt, lg_cmp_eq, nI_lt0, nI_add, pk_sub, pk_mul, Nat.add_sub_cancel, nI_clamp, vp_in_T, nI_ltI, nI_leI, nI_eqI, Nat.zero_add, Nat.add_zero, xc_eq, xc_ne, xc_lt, xc_ge, xc_gt, xc_le, bI_0, bI_0n, bI_n0, not_true_eq_false, not_false_eq_true, if_true, if_false, ite_true, ite_false, decide_true, decide_false, and_self, and_true, true_and, zs_1 hz, zr_1_0 hz, zs_3 hz, zr_3_0 hz, zr_3_1 hz, xis_sI, v71, f1_2, f8_5]
  refine ⟨fun f' ef => ?_, fun r'' ef => ?_⟩
  · obtain ⟨y1, y2, h3, y3, y4, y5⟩ := s1 f' ef
    exact ⟨y1, y2, h3, f0.tr y3, y4, fun Q => (st' Q).trans (y5 Q)⟩
  · obtain ⟨y1, y2, h3, y3, y4, y5⟩ := s2 r'' ef
    exact ⟨y1, y2, h3, f0.tr y3, y4, fun Q => (st' Q).trans (y5 Q)⟩
end FR
