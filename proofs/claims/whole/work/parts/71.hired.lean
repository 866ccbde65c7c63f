section HD
variable {L d : Nat} {xs : Nat → Int32} {h h1 : xH} {Q : xQ} {p o n w t k : Nat} {x y z fo xx : Int32} {T : Nat} {tp : Nat → Int32} {R : List (List Cl)} {σ σ' : Sn} {u u' : Nat} {H H' : Nat → Nat → Int32} {ι : Nat → Option Sn} {s s' f g : Nat → Int32}
variable {rl : Option (List Cl)} {m : Nat}
/-- how many are over behind some days -/
def popS (s : Nat → Int32) : Nat := popN (s 12).toNatClampNeg
theorem popS_le : popS s ≤ 6 := by unfold popS popN; omega
theorem popS_of (hS : SOK n s) : ∃ a, a < 64 ∧ s 12 = nI a ∧ popS s = popN a := by
  obtain ⟨a, h1, h2⟩ := hS.2.2.2.2.1
  exact ⟨a, h1, h2, by unfold popS; rw [h2, nI_clamp (by omega)]⟩
theorem Like.pop (hl : Like s s') : popS s = popS s' := by unfold popS; rw [hl 12 (by decide)]
/-- a world tried: copied, some fees set, days gone -/
theorem C_try {rv : Value} (hz : Bas h) (hr : RuleV h rv rl) (hm : m < 1000) (hS : SOK n s) (hg : getW h 73 74 = wS s) : ∃ h1 s1, Fr PT h h1 ∧ getW h1 73 74 = wS s1 ∧ SOK n s1 ∧ Like s1 (daysR rl n m s) ∧ ∀ Q, Call (pG L xs) pM (d + 6) 2 [.ref 75, .ref 73, rv, .int (nI m)] h Q = Q none h1 := by
  obtain ⟨h1, s1, f1, f2, f3, f4, f5⟩ := C_passMany (L := L) (d := d) (xs := xs) (zw_73 hz) (zd_75 hz) (by decide) (by decide) (by decide) hr hm hS hg
  exact ⟨h1, s1, f1, f2, f3, f4, f5⟩
def hirS (s : Nat → Int32) (k : Nat) : Nat → Int32 := match k with
  | 0 => s
  | k + 1 => upd s (61 + k) (nI 0)
def hirN (rl : Option (List Cl)) (n m : Nat) (s : Nat → Int32) (k : Nat) : Nat := popS (daysR rl n m (hirS s k))
/-- the best of the hired so far: who, how many over -/
def hirF (rl : Option (List Cl)) (n m : Nat) (s : Nat → Int32) : Nat → Int32 × Int32 → Int32 × Int32 := fun k st => if st.2 < nI (hirN rl n m s k) then (feI k, nI (hirN rl n m s k)) else st
theorem hirS_ok (hS : SOK n s) (hk : k ≤ n) : SOK n (hirS s k) := by
  have := hS.1
  cases k with
  | zero => exact hS
  | succ k => exact hS.fe (k := 0) (by omega) (by omega)
def HirSt (h : xH) (st : Int32 × Int32) (h0 : xH) : Prop := Fr PT2 h h0 ∧ WAny h0 73 74 ∧ xI h0 72 0 = st.1 ∧ xI h0 72 2 = st.2
theorem PT.t2 {a : Nat} (z : PT a) : PT2 a := by unfold PT at z; unfold PT2; omega
theorem feI_lt (hk : k ≤ 7) (hn : n ≤ 6) : (feI k < nI n) = (k < n + 1) := by
  cases k with
  | zero => simp only [feI]; rw [eq_iff_iff, Int32.lt_iff_toInt_lt, neg_ti, nI_toInt (by omega)]; omega
  | succ k => simp only [feI]; rw [nI_ltI (by omega) (by omega)]; simp
theorem feI_p : feI k + nI 1 = nI k := by
  cases k with
  | zero => decide
  | succ k => exact nI_add k 1
theorem hir_loopC {rv : Value} (hz : Bas h) (hr : RuleV h rv rl) (hm : m < 1000) (hS : SOK n s) (hg : getW h 14 15 = wS s) (hto : s 0 = 0 ∨ s 0 = 1) : ∀ j k st h0, k + j = n + 1 → HirSt h st h0 → ∃ h1, HirSt h (forF (hirF rl n m s) k j st) h1 ∧ ∀ l5 Q, Ev (pG L xs) pM (d + 6) b88 none Q b88_1 [some (.ref 72), some (.ref 14), some rv, some (.int (nI m)), some (.int (feI k)), l5] [] h0 = Q none h1 := by
  intro j
  have n6 := hS.1
  induction j with
  | zero =>
    intro k st h0 hk hst
    obtain ⟨hf, ha, r0, r2⟩ := id hst
    have z0 := hf.bas hz
    have hg0 : getW h0 14 15 = wS s := (getW_fr hf (by unfold PT2; omega) (by unfold PT2; omega)).trans hg
    have i3 := (getW_f hg0).2.2.2.1
    rw [hS.2.1] at i3
    obtain rfl : k = n + 1 := by omega
    refine ⟨h0, hst, fun l5 Q => ?_⟩
    rw [b88_1]
    rcases hr with ⟨rfl, hv⟩ | ⟨r, cls, rfl, hv, hk⟩ <;> simp (disch := omega) only [k88_4, b88_4, e_iconst, e_lconst, e_null, e_ldc, e_iload0i, e_iload1i, e_iload2i, e_iload3i, e_iload4i, e_iload5i, e_iload6i, e_iload7i, e_iload8i, e_iload9i, e_iload10i, e_lload0l, e_lload1l, e_lload2l, e_lload3l, e_lload4l, e_lload5l, e_lload6l, e_lload7l, e_lload8l, e_lload9l, e_lload10l, e_aload0r, e_aload1r, e_aload2r, e_aload3r, e_aload4r, e_aload5r, e_aload6r, e_aload7r, e_aload8r, e_aload9r, e_aload10r, e_aload0n, e_aload1n, e_aload2n, e_aload3n, e_aload4n, e_aload5n, e_aload6n, e_aload7n, e_aload8n, e_aload9n, e_aload10n, e_aload0f, e_aload1f, e_aload2f, e_aload3f, e_aload4f, e_aload5f, e_aload6f, e_aload7f, e_aload8f, e_aload9f, e_aload10f, e_iinc0, e_iinc1, e_iinc2, e_iinc3, e_iinc4, e_iinc5, e_iinc6, e_iinc7, e_iinc8, e_iinc9, e_iinc10, xst_0, xst_1i, xst2_1i, xst_1r, xst2_1r, xst_1n, xst2_1n, xst_1f, xst2_1f, xst_1u, xst2_1u, xst_1l, xst2_1l, xst2_0, xst_s, xst2_s, e_istore, e_lstore, e_astore, e_astoreN, e_iadd, e_isub, e_imul, e_iand, e_ior, e_ixor, e_ishl, e_ishr, e_iushr, e_ladd, e_lsub, e_lmul, e_land, e_lor, e_lshl, e_lcmp, e_i2l, e_l2i, e_i2b, e_ineg, e_dupi, e_dupr, e_dup2, e_popi, e_popr, e_idiv, e_irem, e_ldiv, e_lrem, e_ifCond, e_if_icmp, e_ifnullR, e_ifnullN, e_ifnonnullR, e_ifnonnullN, e_goto, e_jsr, e_tsw, e_lsw, e_getfield, e_dload, e_fload, e_putfield, e_dstore, e_fstore, e_fstoreN, e_monitor, e_new, e_newarray, e_anewarray, e_mnew, e_alen, e_slen, e_schr, e_alenF, e_iaload, e_ialoadF, e_baload, e_laload, e_aaload, e_iastore, e_lastore, e_aastore, e_bastoreB, e_bastoreZ, e_copy, e_ireturnI, e_ireturnZ0, e_ireturnZ1, e_ireturnZb, e_lreturn, e_areturn, e_areturnA, e_areturnN, e_return, ofI, ofIm, ofJ, cat_i, cat_l, cat_r, cat_f, cat_n, xent_0, xent_i, xent_l, xent_r, xent_n, xent_f, xentry, xrf_s, xrf_n, List.getD_cons_zero, List.getD_cons_succ, List.length_cons, List.length_nil, List.cons_append, List.nil_append, List.append_nil, List.map_cons, List.map_nil, List.sum_cons, List.sum_nil, List.replicate, oT_s, oT_n, true_and, and_true, Nat.reduceAdd, Nat.reduceSub, Nat.reduceLeDiff, Nat.reduceEqDiff, Nat.reduceLT, Nat.reduceDiv, Nat.reduceMod, Nat.reduceMul, eq_self, ofN, nI_dec, nI_11, or_true, true_or, false_or, or_false, nI_e0, nI_0lt, Nat.succ_ne_zero, Nat.zero_lt_succ, lg_cmp_gt, lg_cmp_lt, lg_cmp_eq, nI_lt0, nI_add, pk_sub, pk_mul, Nat.add_sub_cancel, nI_clamp, vp_in_T, nI_ltI, nI_leI, nI_eqI, Nat.zero_add, Nat.add_zero, xc_eq, xc_ne, xc_lt, xc_ge, xc_gt, xc_le, bI_0, bI_0n, bI_n0, not_true_eq_false, not_false_eq_true, if_true, if_false, ite_true, ite_false, decide_true, decide_false, and_self, and_true, true_and, zs_14 z0, i3, feI_1, Nat.lt_irrefl]
  | succ j ih =>
    intro k st h0 hk hst
    obtain ⟨hf, ha, r0, r2⟩ := id hst
    have z0 := hf.bas hz
    have hg0 : getW h0 14 15 = wS s := (getW_fr hf (by unfold PT2; omega) (by unfold PT2; omega)).trans hg
    have i3 := (getW_f hg0).2.2.2.1
    rw [hS.2.1] at i3
    have qk : k < n + 1 := by omega
    have cA := fun Q => c_copyS (L := L) (d := d + 5) (xs := xs) (Q := Q) (zw_73 z0) (zw_14 z0) (by decide) (by decide) hg0 ha hto
    have fA : Fr PT2 h (putW h0 73 74 (wS s)) := hf.tr (Fr.put (.inr (.inl rfl)) (.inr (.inr (.inl rfl))))
    have gA : getW (putW h0 73 74 (wS s)) 73 74 = wS s := getW_put (by decide) _
    have eA : xI (putW h0 73 74 (wS s)) 72 = xI h0 72 := by unfold putW; rw [xI_row_ne _ _ (by decide), xI_row_ne _ _ (by decide)]
    revert cA fA gA eA
    generalize putW h0 73 74 (wS s) = hA
    intro cA fA gA eA
    have zA := fA.bas hz
    -- to the days' head
    have hd : ∃ hB, Fr PT2 h hB ∧ getW hB 73 74 = wS (hirS s k) ∧ xI hB 72 = xI h0 72 ∧ ∀ l5 Q, Ev (pG L xs) pM (d + 6) b88 none Q b88_1 [some (.ref 72), some (.ref 14), some rv, some (.int (nI m)), some (.int (feI k)), l5] [] h0 = Ev (pG L xs) pM (d + 6) b88 none Q b88_2 [some (.ref 72), some (.ref 14), some rv, some (.int (nI m)), some (.int (feI k)), l5] [] hB := by
      cases k with
      | zero =>
        refine ⟨hA, fA, gA, eA, fun l5 Q => ?_⟩
        rw [b88_1]
        have q1 : (-(nI 1) < nI n) = True := by have := feI_lt (k := 0) (by omega) n6; simp only [feI] at this; rw [this]; simp
        rcases hr with ⟨rfl, hv⟩ | ⟨r, cls, rfl, hv, hk⟩ <;> simp (disch := omega) only [k88_2, e_iconst, e_lconst, e_null, e_ldc, e_iload0i, e_iload1i, e_iload2i, e_iload3i, e_iload4i, e_iload5i, e_iload6i, e_iload7i, e_iload8i, e_iload9i, e_iload10i, e_lload0l, e_lload1l, e_lload2l, e_lload3l, e_lload4l, e_lload5l, e_lload6l, e_lload7l, e_lload8l, e_lload9l, e_lload10l, e_aload0r, e_aload1r, e_aload2r, e_aload3r, e_aload4r, e_aload5r, e_aload6r, e_aload7r, e_aload8r, e_aload9r, e_aload10r, e_aload0n, e_aload1n, e_aload2n, e_aload3n, e_aload4n, e_aload5n, e_aload6n, e_aload7n, e_aload8n, e_aload9n, e_aload10n, e_aload0f, e_aload1f, e_aload2f, e_aload3f, e_aload4f, e_aload5f, e_aload6f, e_aload7f, e_aload8f, e_aload9f, e_aload10f, e_iinc0, e_iinc1, e_iinc2, e_iinc3, e_iinc4, e_iinc5, e_iinc6, e_iinc7, e_iinc8, e_iinc9, e_iinc10, xst_0, xst_1i, xst2_1i, xst_1r, xst2_1r, xst_1n, xst2_1n, xst_1f, xst2_1f, xst_1u, xst2_1u, xst_1l, xst2_1l, xst2_0, xst_s, xst2_s, e_istore, e_lstore, e_astore, e_astoreN, e_iadd, e_isub, e_imul, e_iand, e_ior, e_ixor, e_ishl, e_ishr, e_iushr, e_ladd, e_lsub, e_lmul, e_land, e_lor, e_lshl, e_lcmp, e_i2l, e_l2i, e_i2b, e_ineg, e_dupi, e_dupr, e_dup2, e_popi, e_popr, e_idiv, e_irem, e_ldiv, e_lrem, e_ifCond, e_if_icmp, e_ifnullR, e_ifnullN, e_ifnonnullR, e_ifnonnullN, e_goto, e_jsr, e_tsw, e_lsw, e_getfield, e_dload, e_fload, e_putfield, e_dstore, e_fstore, e_fstoreN, e_monitor, e_new, e_newarray, e_anewarray, e_mnew, e_alen, e_slen, e_schr, e_alenF, e_iaload, e_ialoadF, e_baload, e_laload, e_aaload, e_iastore, e_lastore, e_aastore, e_bastoreB, e_bastoreZ, e_copy, e_ireturnI, e_ireturnZ0, e_ireturnZ1, e_ireturnZb, e_lreturn, e_areturn, e_areturnA, e_areturnN, e_return, ofI, ofIm, ofJ, cat_i, cat_l, cat_r, cat_f, cat_n, xent_0, xent_i, xent_l, xent_r, xent_n, xent_f, xentry, xrf_s, xrf_n, List.getD_cons_zero, List.getD_cons_succ, List.length_cons, List.length_nil, List.cons_append, List.nil_append, List.append_nil, List.map_cons, List.map_nil, List.sum_cons, List.sum_nil, List.replicate, oT_s, oT_n, true_and, and_true, Nat.reduceAdd, Nat.reduceSub, Nat.reduceLeDiff, Nat.reduceEqDiff, Nat.reduceLT, Nat.reduceDiv, Nat.reduceMod, Nat.reduceMul, eq_self, ofN, nI_dec, nI_11, or_true, true_or, false_or, or_false, nI_e0, nI_0lt, Nat.succ_ne_zero, Nat.zero_lt_succ, lg_cmp_gt, lg_cmp_lt, lg_cmp_eq, nI_lt0, nI_add, pk_sub, pk_mul, Nat.add_sub_cancel, nI_clamp, vp_in_T, nI_ltI, nI_leI, nI_eqI, Nat.zero_add, Nat.add_zero, xc_eq, xc_ne, xc_lt, xc_ge, xc_gt, xc_le, bI_0, bI_0n, bI_n0, not_true_eq_false, not_false_eq_true, if_true, if_false, ite_true, ite_false, decide_true, decide_false, and_self, and_true, true_and, feI, zs_14 z0, i3, q1, zs_72 z0, zr_72_5 z0, (zw_73 z0).1, v97, cA]
      | succ k =>
        have k6 : k < 6 := by omega
        have cF := fun Q => w_setFee (L := L) (d := d + 5) (xs := xs) (Q := Q) (x := nI 0) (zw_73 zA) k6
        have gB := gW_fee (x := nI 0) (by decide) gA k6
        have fB : Fr PT2 h (setI hA 74 (12 + k) (nI 0)) := fA.tr (Fr.sI (.inr (.inr (.inl rfl))))
        have eB : xI (setI hA 74 (12 + k) (nI 0)) 72 = xI h0 72 := (xI_s_ne (by decide)).trans eA
        refine ⟨_, fB, gB, eB, fun l5 Q => ?_⟩
        rw [b88_1]
        have q1 : k < n := by omega
        rcases hr with ⟨rfl, hv⟩ | ⟨r, cls, rfl, hv, hk⟩ <;> simp (disch := omega) only [k88_2, e_iconst, e_lconst, e_null, e_ldc, e_iload0i, e_iload1i, e_iload2i, e_iload3i, e_iload4i, e_iload5i, e_iload6i, e_iload7i, e_iload8i, e_iload9i, e_iload10i, e_lload0l, e_lload1l, e_lload2l, e_lload3l, e_lload4l, e_lload5l, e_lload6l, e_lload7l, e_lload8l, e_lload9l, e_lload10l, e_aload0r, e_aload1r, e_aload2r, e_aload3r, e_aload4r, e_aload5r, e_aload6r, e_aload7r, e_aload8r, e_aload9r, e_aload10r, e_aload0n, e_aload1n, e_aload2n, e_aload3n, e_aload4n, e_aload5n, e_aload6n, e_aload7n, e_aload8n, e_aload9n, e_aload10n, e_aload0f, e_aload1f, e_aload2f, e_aload3f, e_aload4f, e_aload5f, e_aload6f, e_aload7f, e_aload8f, e_aload9f, e_aload10f, e_iinc0, e_iinc1, e_iinc2, e_iinc3, e_iinc4, e_iinc5, e_iinc6, e_iinc7, e_iinc8, e_iinc9, e_iinc10, xst_0, xst_1i, xst2_1i, xst_1r, xst2_1r, xst_1n, xst2_1n, xst_1f, xst2_1f, xst_1u, xst2_1u, xst_1l, xst2_1l, xst2_0, xst_s, xst2_s, e_istore, e_lstore, e_astore, e_astoreN, e_iadd, e_isub, e_imul, e_iand, e_ior, e_ixor, e_ishl, e_ishr, e_iushr, e_ladd, e_lsub, e_lmul, e_land, e_lor, e_lshl, e_lcmp, e_i2l, e_l2i, e_i2b, e_ineg, e_dupi, e_dupr, e_dup2, e_popi, e_popr, e_idiv, e_irem, e_ldiv, e_lrem, e_ifCond, e_if_icmp, e_ifnullR, e_ifnullN, e_ifnonnullR, e_ifnonnullN, e_goto, e_jsr, e_tsw, e_lsw, e_getfield, e_dload, e_fload, e_putfield, e_dstore, e_fstore, e_fstoreN, e_monitor, e_new, e_newarray, e_anewarray, e_mnew, e_alen, e_slen, e_schr, e_alenF, e_iaload, e_ialoadF, e_baload, e_laload, e_aaload, e_iastore, e_lastore, e_aastore, e_bastoreB, e_bastoreZ, e_copy, e_ireturnI, e_ireturnZ0, e_ireturnZ1, e_ireturnZb, e_lreturn, e_areturn, e_areturnA, e_areturnN, e_return, ofI, ofIm, ofJ, cat_i, cat_l, cat_r, cat_f, cat_n, xent_0, xent_i, xent_l, xent_r, xent_n, xent_f, xentry, xrf_s, xrf_n, List.getD_cons_zero, List.getD_cons_succ, List.length_cons, List.length_nil, List.cons_append, List.nil_append, List.append_nil, List.map_cons, List.map_nil, List.sum_cons, List.sum_nil, List.replicate, oT_s, oT_n, true_and, and_true, Nat.reduceAdd, Nat.reduceSub, Nat.reduceLeDiff, Nat.reduceEqDiff, Nat.reduceLT, Nat.reduceDiv, Nat.reduceMod, Nat.reduceMul, eq_self, ofN, nI_dec, nI_11, or_true, true_or, false_or, or_false, nI_e0, nI_0lt, Nat.succ_ne_zero, Nat.zero_lt_succ, lg_cmp_gt, lg_cmp_lt, lg_cmp_eq, nI_lt0, nI_add, pk_sub, pk_mul, Nat.add_sub_cancel, nI_clamp, vp_in_T, nI_ltI, nI_leI, nI_eqI, Nat.zero_add, Nat.add_zero, xc_eq, xc_ne, xc_lt, xc_ge, xc_gt, xc_le, bI_0, bI_0n, bI_n0, not_true_eq_false, not_false_eq_true, if_true, if_false, ite_true, ite_false, decide_true, decide_false, and_self, and_true, true_and, feI_1, nI_nm, zs_14 z0, i3, q1, zs_72 z0, zr_72_5 z0, (zw_73 z0).1, v97, v106, cA, zs_72 zA, zr_72_5 zA, (zw_73 zA).1, cF]
    obtain ⟨hB, fB, gB, eB, cB⟩ := hd
    have zB := fB.bas hz
    have hrB := fB.rv (fun a z => by unfold PT2 at z; omega) hr
    obtain ⟨h2, s2, f2, g2, hS2, hl, c2⟩ := C_try (L := L) (d := d) (xs := xs) (m := m) zB hrB hm (hirS_ok hS (show k ≤ n by omega)) gB
    have z2 := f2.bas zB
    have hf2 : Fr PT2 h h2 := fB.tr (f2.mono (fun a => PT.t2))
    have e2 : xI h2 72 = xI h0 72 := (f2.2.2.2 72 (by unfold PT; omega)).trans eB
    obtain ⟨a, ha6, hp1, hp2⟩ := popS_of hS2
    have ep : popN a = hirN rl n m s k := by rw [← hp2]; exact hl.pop
    have i5 := (getW_f g2).2.2.2.2.2.1
    rw [hp1] at i5
    have hle : hirN rl n m s k ≤ 6 := popS_le
    have r2' : xI h2 72 2 = st.2 := by rw [e2]; exact r2
    by_cases q : st.2 < nI (hirN rl n m s k)
    · have hst2 : HirSt h (feI k, nI (hirN rl n m s k)) (setI (setI h2 72 2 (nI (hirN rl n m s k))) 72 0 (feI k)) := by
        refine ⟨(hf2.tr (Fr.sI (.inl rfl))).tr (Fr.sI (.inl rfl)), ⟨s2, ?_⟩, ?_, ?_⟩
        · unfold getW at *; simp (disch := omega) only [xI_s_ne]; exact g2
        · simp only [setI_row, xI_row_eq, upd_eq]
        · simp only [setI_row, xI_row_eq, upd_ne _ _ (show (2 : Nat) ≠ 0 by decide), upd_eq]
      obtain ⟨h3, a1, a2⟩ := ih (k + 1) _ _ (by omega) hst2
      have er : hirF rl n m s k st = (feI k, nI (hirN rl n m s k)) := by unfold hirF; rw [if_pos q]
      refine ⟨h3, by rw [forF, er]; exact a1, fun l5 Q => ?_⟩
      rw [cB, b88_2]
      rcases hr with ⟨rfl, hv⟩ | ⟨r, cls, rfl, hv, hk⟩ <;> simp (disch := omega) only [k88_3, b88_3, k88_1, e_iconst, e_lconst, e_null, e_ldc, e_iload0i, e_iload1i, e_iload2i, e_iload3i, e_iload4i, e_iload5i, e_iload6i, e_iload7i, e_iload8i, e_iload9i, e_iload10i, e_lload0l, e_lload1l, e_lload2l, e_lload3l, e_lload4l, e_lload5l, e_lload6l, e_lload7l, e_lload8l, e_lload9l, e_lload10l, e_aload0r, e_aload1r, e_aload2r, e_aload3r, e_aload4r, e_aload5r, e_aload6r, e_aload7r, e_aload8r, e_aload9r, e_aload10r, e_aload0n, e_aload1n, e_aload2n, e_aload3n, e_aload4n, e_aload5n, e_aload6n, e_aload7n, e_aload8n, e_aload9n, e_aload10n, e_aload0f, e_aload1f, e_aload2f, e_aload3f, e_aload4f, e_aload5f, e_aload6f, e_aload7f, e_aload8f, e_aload9f, e_aload10f, e_iinc0, e_iinc1, e_iinc2, e_iinc3, e_iinc4, e_iinc5, e_iinc6, e_iinc7, e_iinc8, e_iinc9, e_iinc10, xst_0, xst_1i, xst2_1i, xst_1r, xst2_1r, xst_1n, xst2_1n, xst_1f, xst2_1f, xst_1u, xst2_1u, xst_1l, xst2_1l, xst2_0, xst_s, xst2_s, e_istore, e_lstore, e_astore, e_astoreN, e_iadd, e_isub, e_imul, e_iand, e_ior, e_ixor, e_ishl, e_ishr, e_iushr, e_ladd, e_lsub, e_lmul, e_land, e_lor, e_lshl, e_lcmp, e_i2l, e_l2i, e_i2b, e_ineg, e_dupi, e_dupr, e_dup2, e_popi, e_popr, e_idiv, e_irem, e_ldiv, e_lrem, e_ifCond, e_if_icmp, e_ifnullR, e_ifnullN, e_ifnonnullR, e_ifnonnullN, e_goto, e_jsr, e_tsw, e_lsw, e_getfield, e_dload, e_fload, e_putfield, e_dstore, e_fstore, e_fstoreN, e_monitor, e_new, e_newarray, e_anewarray, e_mnew, e_alen, e_slen, e_schr, e_alenF, e_iaload, e_ialoadF, e_baload, e_laload, e_aaload, e_iastore, e_lastore, e_aastore, e_bastoreB, e_bastoreZ, e_copy, e_ireturnI, e_ireturnZ0, e_ireturnZ1, e_ireturnZb, e_lreturn, e_areturn, e_areturnA, e_areturnN, e_return, ofI, ofIm, ofJ, cat_i, cat_l, cat_r, cat_f, cat_n, xent_0, xent_i, xent_l, xent_r, xent_n, xent_f, xentry, xrf_s, xrf_n, List.getD_cons_zero, List.getD_cons_succ, List.length_cons, List.length_nil, List.cons_append, List.nil_append, List.append_nil, List.map_cons, List.map_nil, List.sum_cons, List.sum_nil, List.replicate, oT_s, oT_n, true_and, and_true, Nat.reduceAdd, Nat.reduceSub, Nat.reduceLeDiff, Nat.reduceEqDiff, Nat.reduceLT, Nat.reduceDiv, Nat.reduceMod, Nat.reduceMul, eq_self, ofN, or_true, true_or, false_or, or_false, xc_le, xc_eq, not_true_eq_false, not_false_eq_true, if_true, if_false, ite_true, ite_false, feI_p, v2, v276, zs_72 zB, zr_72_5 zB, zr_72_6 zB, zs_75 zB, (zw_73 zB).1, c2, zs_72 z2, zr_72_5 z2, (zw_73 z2).1, i5, j_bitCount ha6, ep, r2', q, f9_0, f9_2, xis_sI]
      · have a3 := a2 (some (.int (nI (hirN none n m s k)))) Q
        subst hv; exact a3
      · have a3 := a2 (some (.int (nI (hirN (some cls) n m s k)))) Q
        subst hv; exact a3
    · have hst2 : HirSt h st h2 := ⟨hf2, ⟨s2, g2⟩, by rw [e2]; exact r0, r2'⟩
      obtain ⟨h3, a1, a2⟩ := ih (k + 1) _ _ (by omega) hst2
      have er : hirF rl n m s k st = st := by unfold hirF; rw [if_neg q]
      refine ⟨h3, by rw [forF, er]; exact a1, fun l5 Q => ?_⟩
      rw [cB, b88_2]
      rcases hr with ⟨rfl, hv⟩ | ⟨r, cls, rfl, hv, hk⟩ <;> simp (disch := omega) only [k88_3, b88_3, k88_1, e_iconst, e_lconst, e_null, e_ldc, e_iload0i, e_iload1i, e_iload2i, e_iload3i, e_iload4i, e_iload5i, e_iload6i, e_iload7i, e_iload8i, e_iload9i, e_iload10i, e_lload0l, e_lload1l, e_lload2l, e_lload3l, e_lload4l, e_lload5l, e_lload6l, e_lload7l, e_lload8l, e_lload9l, e_lload10l, e_aload0r, e_aload1r, e_aload2r, e_aload3r, e_aload4r, e_aload5r, e_aload6r, e_aload7r, e_aload8r, e_aload9r, e_aload10r, e_aload0n, e_aload1n, e_aload2n, e_aload3n, e_aload4n, e_aload5n, e_aload6n, e_aload7n, e_aload8n, e_aload9n, e_aload10n, e_aload0f, e_aload1f, e_aload2f, e_aload3f, e_aload4f, e_aload5f, e_aload6f, e_aload7f, e_aload8f, e_aload9f, e_aload10f, e_iinc0, e_iinc1, e_iinc2, e_iinc3, e_iinc4, e_iinc5, e_iinc6, e_iinc7, e_iinc8, e_iinc9, e_iinc10, xst_0, xst_1i, xst2_1i, xst_1r, xst2_1r, xst_1n, xst2_1n, xst_1f, xst2_1f, xst_1u, xst2_1u, xst_1l, xst2_1l, xst2_0, xst_s, xst2_s, e_istore, e_lstore, e_astore, e_astoreN, e_iadd, e_isub, e_imul, e_iand, e_ior, e_ixor, e_ishl, e_ishr, e_iushr, e_ladd, e_lsub, e_lmul, e_land, e_lor, e_lshl, e_lcmp, e_i2l, e_l2i, e_i2b, e_ineg, e_dupi, e_dupr, e_dup2, e_popi, e_popr, e_idiv, e_irem, e_ldiv, e_lrem, e_ifCond, e_if_icmp, e_ifnullR, e_ifnullN, e_ifnonnullR, e_ifnonnullN, e_goto, e_jsr, e_tsw, e_lsw, e_getfield, e_dload, e_fload, e_putfield, e_dstore, e_fstore, e_fstoreN, e_monitor, e_new, e_newarray, e_anewarray, e_mnew, e_alen, e_slen, e_schr, e_alenF, e_iaload, e_ialoadF, e_baload, e_laload, e_aaload, e_iastore, e_lastore, e_aastore, e_bastoreB, e_bastoreZ, e_copy, e_ireturnI, e_ireturnZ0, e_ireturnZ1, e_ireturnZb, e_lreturn, e_areturn, e_areturnA, e_areturnN, e_return, ofI, ofIm, ofJ, cat_i, cat_l, cat_r, cat_f, cat_n, xent_0, xent_i, xent_l, xent_r, xent_n, xent_f, xentry, xrf_s, xrf_n, List.getD_cons_zero, List.getD_cons_succ, List.length_cons, List.length_nil, List.cons_append, List.nil_append, List.append_nil, List.map_cons, List.map_nil, List.sum_cons, List.sum_nil, List.replicate, oT_s, oT_n, true_and, and_true, Nat.reduceAdd, Nat.reduceSub, Nat.reduceLeDiff, Nat.reduceEqDiff, Nat.reduceLT, Nat.reduceDiv, Nat.reduceMod, Nat.reduceMul, eq_self, ofN, or_true, true_or, false_or, or_false, xc_le, xc_eq, not_true_eq_false, not_false_eq_true, if_true, if_false, ite_true, ite_false, feI_p, v2, v276, zs_72 zB, zr_72_5 zB, zr_72_6 zB, zs_75 zB, (zw_73 zB).1, c2, zs_72 z2, zr_72_5 z2, (zw_73 z2).1, i5, j_bitCount ha6, ep, r2', q, f9_0, f9_2, xis_sI]
      · have a3 := a2 (some (.int (nI (hirN none n m s k)))) Q
        subst hv; exact a3
      · have a3 := a2 (some (.int (nI (hirN (some cls) n m s k)))) Q
        subst hv; exact a3
theorem C_findFreeHand {rv : Value} (hz : Bas h) (hr : RuleV h rv rl) (hm : m < 1000) (hS : SOK n s) (hg : getW h 14 15 = wS s) (hto : s 0 = 0 ∨ s 0 = 1) (ha : WAny h 73 74) : ∃ h1, HirSt h (forF (hirF rl n m s) 0 (n + 1) (-(nI 1), -(nI 1))) h1 ∧ ∀ Q, Call (pG L xs) pM (d + 7) 88 [.ref 72, .ref 14, rv, .int (nI m)] h Q = Q none h1 := by
  have hst : HirSt h (-(nI 1), -(nI 1)) (setI (setI h 72 0 (-(nI 1))) 72 2 (-(nI 1))) := by
    refine ⟨(Fr.sI (.inl rfl)).tr (Fr.sI (.inl rfl)), ?_, ?_, ?_⟩
    · unfold WAny getW at *; simp (disch := omega) only [xI_s_ne]; exact ha
    · simp only [setI_row, xI_row_eq, upd_ne _ _ (show (0 : Nat) ≠ 2 by decide), upd_eq]
    · simp only [setI_row, xI_row_eq, upd_eq]
  obtain ⟨h1, a1, a2⟩ := hir_loopC (L := L) (d := d) (xs := xs) hz hr hm hS hg hto (n + 1) 0 _ _ (Nat.zero_add _) hst
  refine ⟨h1, a1, fun Q => ?_⟩
  rw [show feI 0 = -(nI 1) from rfl] at a2
  rcases hr with ⟨rfl, hv⟩ | ⟨r, cls, rfl, hv, hk⟩ <;> simp (disch := omega) only [m88, b88_0, k88_1, e_iconst, e_lconst, e_null, e_ldc, e_iload0i, e_iload1i, e_iload2i, e_iload3i, e_iload4i, e_iload5i, e_iload6i, e_iload7i, e_iload8i, e_iload9i, e_iload10i, e_lload0l, e_lload1l, e_lload2l, e_lload3l, e_lload4l, e_lload5l, e_lload6l, e_lload7l, e_lload8l, e_lload9l, e_lload10l, e_aload0r, e_aload1r, e_aload2r, e_aload3r, e_aload4r, e_aload5r, e_aload6r, e_aload7r, e_aload8r, e_aload9r, e_aload10r, e_aload0n, e_aload1n, e_aload2n, e_aload3n, e_aload4n, e_aload5n, e_aload6n, e_aload7n, e_aload8n, e_aload9n, e_aload10n, e_aload0f, e_aload1f, e_aload2f, e_aload3f, e_aload4f, e_aload5f, e_aload6f, e_aload7f, e_aload8f, e_aload9f, e_aload10f, e_iinc0, e_iinc1, e_iinc2, e_iinc3, e_iinc4, e_iinc5, e_iinc6, e_iinc7, e_iinc8, e_iinc9, e_iinc10, xst_0, xst_1i, xst2_1i, xst_1r, xst2_1r, xst_1n, xst2_1n, xst_1f, xst2_1f, xst_1u, xst2_1u, xst_1l, xst2_1l, xst2_0, xst_s, xst2_s, e_istore, e_lstore, e_astore, e_astoreN, e_iadd, e_isub, e_imul, e_iand, e_ior, e_ixor, e_ishl, e_ishr, e_iushr, e_ladd, e_lsub, e_lmul, e_land, e_lor, e_lshl, e_lcmp, e_i2l, e_l2i, e_i2b, e_ineg, e_dupi, e_dupr, e_dup2, e_popi, e_popr, e_idiv, e_irem, e_ldiv, e_lrem, e_ifCond, e_if_icmp, e_ifnullR, e_ifnullN, e_ifnonnullR, e_ifnonnullN, e_goto, e_jsr, e_tsw, e_lsw, e_getfield, e_dload, e_fload, e_putfield, e_dstore, e_fstore, e_fstoreN, e_monitor, e_new, e_newarray, e_anewarray, e_mnew, e_alen, e_slen, e_schr, e_alenF, e_iaload, e_ialoadF, e_baload, e_laload, e_aaload, e_iastore, e_lastore, e_aastore, e_bastoreB, e_bastoreZ, e_copy, e_ireturnI, e_ireturnZ0, e_ireturnZ1, e_ireturnZb, e_lreturn, e_areturn, e_areturnA, e_areturnN, e_return, ofI, ofIm, ofJ, cat_i, cat_l, cat_r, cat_f, cat_n, xent_0, xent_i, xent_l, xent_r, xent_n, xent_f, xentry, xrf_s, xrf_n, List.getD_cons_zero, List.getD_cons_succ, List.length_cons, List.length_nil, List.cons_append, List.nil_append, List.append_nil, List.map_cons, List.map_nil, List.sum_cons, List.sum_nil, List.replicate, oT_s, oT_n, true_and, and_true, Nat.reduceAdd, Nat.reduceSub, Nat.reduceLeDiff, Nat.reduceEqDiff, Nat.reduceLT, Nat.reduceDiv, Nat.reduceMod, Nat.reduceMul, eq_self, ofN, nI_dec, nI_11, or_true, true_or, false_or, or_false, nI_e0, nI_0lt, Nat.succ_ne_zero, Nat.zero_lt_succ, lg_cmp_gt, lg_cmp_lt, lg_cmp_eq, nI_lt0, nI_add, pk_sub, pk_mul, Nat.add_sub_cancel, nI_clamp, vp_in_T, nI_ltI, nI_leI, nI_eqI, Nat.zero_add, Nat.add_zero, xc_eq, xc_ne, xc_lt, xc_ge, xc_gt, xc_le, bI_0, bI_0n, bI_n0, not_true_eq_false, not_false_eq_true, if_true, if_false, ite_true, ite_false, decide_true, decide_false, and_self, and_true, true_and, zs_72 hz, zr_72_5 hz, zr_72_6 hz, zr_72_7 hz, zr_72_8 hz, xis_sI, f9_0, f9_2, a2]
end HD
