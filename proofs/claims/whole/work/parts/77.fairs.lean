section FA
variable {L d : Nat} {xs : Nat → Int32} {h h1 : xH} {Q : xQ} {p o n w t k : Nat} {x y z fo xx : Int32} {T : Nat} {tp : Nat → Int32} {R : List (List Cl)} {σ σ' : Sn} {u u' : Nat} {H H' : Nat → Nat → Int32} {ι : Nat → Option Sn} {s s' f g : Nat → Int32}
variable {rl : Option (List Cl)} {m q X : Nat} {st : Nat × (Nat → Int32)}
/-! fairs: draws -/
theorem nx_ex : ∃ f : Nat → Nat, ∀ X, f X = (X * 1103515245 + 12345) % 2147483648 := ⟨fun X => (X * 1103515245 + 12345) % 2147483648, fun _ => rfl⟩
noncomputable def nxX : Nat → Nat := Classical.choose nx_ex
theorem nxX_eq (X : Nat) : nxX X = (X * 1103515245 + 12345) % 2147483648 := Classical.choose_spec nx_ex X
noncomputable def drX (X k : Nat) : Nat := nxX X / 65536 % k
theorem nxX_lt : nxX X < 2 ^ 31 := by rw [nxX_eq]; exact Nat.mod_lt _ (by decide)
theorem nx_d : nxX X / 65536 < 32768 := by have := nxX_lt (X := X); omega
noncomputable def hitB (n q X : Nat) : Bool := decide (drX X 100 < q) && decide (0 < n)
noncomputable def preX (n q : Nat) (st : Nat × (Nat → Int32)) : Nat × (Nat → Int32) := if hitB n q st.1 = true then (nxX (nxX (nxX st.1)), upd st.2 (19 + 6 * drX (nxX st.1) n + drX (nxX st.1) n) (nI (drX (nxX (nxX st.1)) 21))) else (nxX st.1, st.2)
noncomputable def fdX (rl : Option (List Cl)) (n q : Nat) (st : Nat × (Nat → Int32)) : Nat × (Nat → Int32) := ((preX n q st).1, dayR rl n (preX n q st).2)
noncomputable def fdsX (rl : Option (List Cl)) (n q : Nat) : Nat → Nat × (Nat → Int32) → Nat × (Nat → Int32)
  | 0, st => st
  | k + 1, st => fdsX rl n q k (fdX rl n q st)
theorem drX_lt (hn : 0 < n) : drX X n < n := Nat.mod_lt _ hn
theorem hit_n (hh : hitB n q X = true) : 0 < n := by
  unfold hitB at hh
  rw [Bool.and_eq_true] at hh
  exact of_decide_eq_true hh.2
theorem preX_lt : (preX n q st).1 < 2 ^ 31 := by unfold preX; split <;> exact nxX_lt
theorem preX_ok (hS : SOK n st.2) : SOK n (preX n q st).2 := by
  have n6 := hS.1
  unfold preX
  split
  · rename_i hh
    have := drX_lt (X := nxX st.1) (hit_n hh)
    exact hS.th (by omega)
  · exact hS
theorem preX_o (n6 : n ≤ 6) {i : Nat} (hi : i < 10 ∨ 55 ≤ i) : (preX n q st).2 i = st.2 i := by
  unfold preX
  split
  · rename_i hh
    have := drX_lt (X := nxX st.1) (hit_n hh)
    exact upd_ne _ _ (by omega)
  · rfl
theorem fdsX_ok : ∀ k st, SOK n st.2 → SOK n (fdsX rl n q k st).2
  | 0, _, hS => hS
  | k + 1, st, hS => fdsX_ok k (fdX rl n q st) (dayR_ok (preX_ok hS))
theorem fdsX_lt : ∀ k st, st.1 < 2 ^ 31 → (fdsX rl n q k st).1 < 2 ^ 31
  | 0, _, h => h
  | k + 1, st, _ => fdsX_lt k (fdX rl n q st) preX_lt
theorem fdsX_o {i : Nat} (hi : i < 10 ∨ 55 ≤ i) : ∀ k st, SOK n st.2 → (fdsX rl n q k st).2 i = st.2 i
  | 0, _, _ => rfl
  | k + 1, st, hS => (fdsX_o hi k (fdX rl n q st) (dayR_ok (preX_ok hS))).trans ((dayR_o (preX_ok hS) hi).trans (preX_o hS.1 hi))
theorem Like.pre (hl : Like s s') : Like (preX n q (X, s)).2 (preX n q (X, s')).2 := by
  unfold preX
  split
  · exact hl.u (fun _ => rfl)
  · exact hl
theorem preX_1 : (preX n q (X, s)).1 = (preX n q (X, s')).1 := by unfold preX; split <;> rfl
theorem lN_e0 {a : Nat} (ha : a < 2 ^ 31) : (lN a = 0) = (a = 0) := by rw [lN_00]; exact propext (lN_eq ha (by decide))
theorem c_draw (hz : Bas h) (hX : X < 2 ^ 31) (he : xI h 72 4 = nI X) : Call (pG L xs) pM (d + 1) 95 [.ref 72] h Q = Q (some (.int (nI (nxX X / 65536)))) (setI h 72 4 (nI (nxX X))) := by
  have hlt := nxX_lt (X := X)
  have en : (X * 1103515245 + 12345) % 2147483648 = nxX X := (nxX_eq X).symm
  have e8 : (lN 2147483648 = 0) = False := by decide
  simp (disch := omega) only [m95, b95_0, e_iconst, e_lconst, e_null, e_ldc, e_iload0i, e_iload1i, e_iload2i, e_iload3i, e_iload4i, e_iload5i, e_iload6i, e_iload7i, e_iload8i, e_iload9i, e_iload10i, e_lload0l, e_lload1l, e_lload2l, e_lload3l, e_lload4l, e_lload5l, e_lload6l, e_lload7l, e_lload8l, e_lload9l, e_lload10l, e_aload0r, e_aload1r, e_aload2r, e_aload3r, e_aload4r, e_aload5r, e_aload6r, e_aload7r, e_aload8r, e_aload9r, e_aload10r, e_aload0n, e_aload1n, e_aload2n, e_aload3n, e_aload4n, e_aload5n, e_aload6n, e_aload7n, e_aload8n, e_aload9n, e_aload10n, e_aload0f, e_aload1f, e_aload2f, e_aload3f, e_aload4f, e_aload5f, e_aload6f, e_aload7f, e_aload8f, e_aload9f, e_aload10f, e_iinc0, e_iinc1, e_iinc2, e_iinc3, e_iinc4, e_iinc5, e_iinc6, e_iinc7, e_iinc8, e_iinc9, e_iinc10, xst_0, xst_1i, xst2_1i, xst_1r, xst2_1r, xst_1n, xst2_1n, xst_1f, xst2_1f, xst_1u, xst2_1u, xst_1l, xst2_1l, xst2_0, xst_s, xst2_s, e_istore, e_lstore, e_astore, e_astoreN, e_iadd, e_isub, e_imul, e_iand, e_ior, e_ixor, e_ishl, e_ishr, e_iushr, e_ladd, e_lsub, e_lmul, e_land, e_lor, e_lshl, e_lcmp, e_i2l, e_l2i, e_i2b, e_ineg, e_dupi, e_dupr, e_dup2, e_popi, e_popr, e_idiv, e_irem, e_ldiv, e_lrem, e_ifCond, e_if_icmp, e_ifnullR, e_ifnullN, e_ifnonnullR, e_ifnonnullN, e_goto, e_jsr, e_tsw, e_lsw, e_getfield, e_dload, e_fload, e_putfield, e_dstore, e_fstore, e_fstoreN, e_monitor, e_new, e_newarray, e_anewarray, e_mnew, e_alen, e_slen, e_schr, e_alenF, e_iaload, e_ialoadF, e_baload, e_laload, e_aaload, e_iastore, e_lastore, e_aastore, e_bastoreB, e_bastoreZ, e_copy, e_ireturnI, e_ireturnZ0, e_ireturnZ1, e_ireturnZb, e_lreturn, e_areturn, e_areturnA, e_areturnN, e_return, ofI, ofIm, ofJ, cat_i, cat_l, cat_r, cat_f, cat_n, xent_0, xent_i, xent_l, xent_r, xent_n, xent_f, xentry, xrf_s, xrf_n, List.getD_cons_zero, List.getD_cons_succ, List.length_cons, List.length_nil, List.cons_append, List.nil_append, List.append_nil, List.map_cons, List.map_nil, List.sum_cons, List.sum_nil, List.replicate, oT_s, oT_n, true_and, and_true, Nat.reduceAdd, Nat.reduceSub, Nat.reduceLeDiff, Nat.reduceEqDiff, Nat.reduceLT, Nat.reduceDiv, Nat.reduceMod, Nat.reduceMul, zs_72 hz, zr_72_5 hz, zr_72_6 hz, zr_72_7 hz, zr_72_8 hz, f9_4, he, nI_l, lN_mul, lN_add, pk_lRem, lN_i, en, e8, xI_sI, xis_sI, and_self, pk_div, nI_e0, eq_self, ofN, nI_dec, nI_11, or_true, true_or, false_or, or_false, nI_e0, nI_0lt, Nat.succ_ne_zero, Nat.zero_lt_succ, lg_cmp_gt, lg_cmp_lt, lg_cmp_eq, nI_lt0, nI_add, pk_sub, pk_mul, Nat.add_sub_cancel, nI_clamp, vp_in_T, nI_ltI, nI_leI, nI_eqI, Nat.zero_add, Nat.add_zero, xc_eq, xc_ne, xc_lt, xc_ge, xc_gt, xc_le, bI_0, bI_0n, bI_n0, not_true_eq_false, not_false_eq_true, if_true, if_false, ite_true, ite_false, decide_true, decide_false, and_self, and_true, true_and, show (65536 = 0) = False by decide]
theorem r_draw (hz : Bas h) (hX : X < 2 ^ 31) (hk0 : 0 < k) (hk : k < 2 ^ 31) (he : xJ h 127 38 = lN X) : Call (pG L xs) pM (d + 1) 271 [.ref 127, .int (nI k)] h Q = Q (some (.int (nI (drX X k)))) (setJ h 127 38 (lN (nxX X))) := by
  have hlt := nxX_lt (X := X)
  have en : (X * 1103515245 + 12345) % 2147483648 = nxX X := (nxX_eq X).symm
  have e8 : (lN 2147483648 = 0) = False := by decide
  have e9 : (lN 65536 = 0) = False := by decide
  have ek : (k = 0) = False := eq_false (by omega)
  have ed : nxX X / 65536 % k = drX X k := rfl
  have e63 : (65536 : Nat) < 2 ^ 63 := by decide
  simp (disch := omega) only [m271, b271_0, e_iconst, e_lconst, e_null, e_ldc, e_iload0i, e_iload1i, e_iload2i, e_iload3i, e_iload4i, e_iload5i, e_iload6i, e_iload7i, e_iload8i, e_iload9i, e_iload10i, e_lload0l, e_lload1l, e_lload2l, e_lload3l, e_lload4l, e_lload5l, e_lload6l, e_lload7l, e_lload8l, e_lload9l, e_lload10l, e_aload0r, e_aload1r, e_aload2r, e_aload3r, e_aload4r, e_aload5r, e_aload6r, e_aload7r, e_aload8r, e_aload9r, e_aload10r, e_aload0n, e_aload1n, e_aload2n, e_aload3n, e_aload4n, e_aload5n, e_aload6n, e_aload7n, e_aload8n, e_aload9n, e_aload10n, e_aload0f, e_aload1f, e_aload2f, e_aload3f, e_aload4f, e_aload5f, e_aload6f, e_aload7f, e_aload8f, e_aload9f, e_aload10f, e_iinc0, e_iinc1, e_iinc2, e_iinc3, e_iinc4, e_iinc5, e_iinc6, e_iinc7, e_iinc8, e_iinc9, e_iinc10, xst_0, xst_1i, xst2_1i, xst_1r, xst2_1r, xst_1n, xst2_1n, xst_1f, xst2_1f, xst_1u, xst2_1u, xst_1l, xst2_1l, xst2_0, xst_s, xst2_s, e_istore, e_lstore, e_astore, e_astoreN, e_iadd, e_isub, e_imul, e_iand, e_ior, e_ixor, e_ishl, e_ishr, e_iushr, e_ladd, e_lsub, e_lmul, e_land, e_lor, e_lshl, e_lcmp, e_i2l, e_l2i, e_i2b, e_ineg, e_dupi, e_dupr, e_dup2, e_popi, e_popr, e_idiv, e_irem, e_ldiv, e_lrem, e_ifCond, e_if_icmp, e_ifnullR, e_ifnullN, e_ifnonnullR, e_ifnonnullN, e_goto, e_jsr, e_tsw, e_lsw, e_getfield, e_dload, e_fload, e_putfield, e_dstore, e_fstore, e_fstoreN, e_monitor, e_new, e_newarray, e_anewarray, e_mnew, e_alen, e_slen, e_schr, e_alenF, e_iaload, e_ialoadF, e_baload, e_laload, e_aaload, e_iastore, e_lastore, e_aastore, e_bastoreB, e_bastoreZ, e_copy, e_ireturnI, e_ireturnZ0, e_ireturnZ1, e_ireturnZb, e_lreturn, e_areturn, e_areturnA, e_areturnN, e_return, ofI, ofIm, ofJ, cat_i, cat_l, cat_r, cat_f, cat_n, xent_0, xent_i, xent_l, xent_r, xent_n, xent_f, xentry, xrf_s, xrf_n, List.getD_cons_zero, List.getD_cons_succ, List.length_cons, List.length_nil, List.cons_append, List.nil_append, List.append_nil, List.map_cons, List.map_nil, List.sum_cons, List.sum_nil, List.replicate, oT_s, oT_n, true_and, and_true, Nat.reduceAdd, Nat.reduceSub, Nat.reduceLeDiff, Nat.reduceEqDiff, Nat.reduceLT, Nat.reduceDiv, Nat.reduceMod, Nat.reduceMul, zs_127 hz, zr_127_0 hz, zr_127_3 hz, zr_127_4 hz, zr_127_5 hz, zr_127_6 hz, zr_127_7 hz, zr_127_15 hz, zr_127_17 hz, zr_127_19 hz, zr_127_20 hz, zr_127_23 hz, zr_127_24 hz, zr_127_26 hz, zr_127_27 hz, zr_127_28 hz, zr_127_29 hz, zr_127_32 hz, zr_127_33 hz, zr_127_34 hz, zr_127_35 hz, zr_127_36 hz, zr_127_37 hz, zr_127_39 hz, zr_127_40 hz, zr_127_41 hz, zr_127_42 hz, he, nI_l, lN_mul, lN_add, pk_lDiv (b := 65536) (a := nxX X) (Nat.lt_trans hlt (by decide)) (by decide) e63, pk_lRem, lN_i, lN_e0, en, ed, e8, e9, ek, xJ_sJ, xis_sJ, and_self, eq_self, ofN, nI_dec, nI_11, or_true, true_or, false_or, or_false, nI_e0, nI_0lt, Nat.succ_ne_zero, Nat.zero_lt_succ, lg_cmp_gt, lg_cmp_lt, lg_cmp_eq, nI_lt0, nI_add, pk_sub, pk_mul, Nat.add_sub_cancel, nI_clamp, vp_in_T, nI_ltI, nI_leI, nI_eqI, Nat.zero_add, Nat.add_zero, xc_eq, xc_ne, xc_lt, xc_ge, xc_gt, xc_le, bI_0, bI_0n, bI_n0, not_true_eq_false, not_false_eq_true, if_true, if_false, ite_true, ite_false, decide_true, decide_false, and_self, and_true, true_and]
theorem hitB_1 (hh : hitB n q X = true) : nxX X / 65536 % 100 < q := by
  unfold hitB at hh
  rw [Bool.and_eq_true] at hh
  exact of_decide_eq_true hh.1
/-- the draws ahead of a day, on the class's side -/
theorem fair_pre {rv : Value} {b : Bool} {i : Nat} (hz : Bas h) (hr : RuleV h rv rl) (hm : m < 1000) (hq : q ≤ 100) (hi : i < m) (n6 : n ≤ 6) (hX : X < 2 ^ 31) (hg : getW h 73 74 = wS s) (e2 : s 2 = nI n) (e4 : xI h 72 4 = nI X) : ∃ h1, Fr PT2 h h1 ∧ getW h1 73 74 = wS (preX n q (X, s)).2 ∧ xI h1 72 4 = nI (preX n q (X, s)).1 ∧ (∀ j, j ≠ 4 → xI h1 72 j = xI h 72 j) ∧ ∀ l6, ∃ l6', ∀ Q, Ev (pG L xs) pM (d + 6) b94 none Q b94_1 [some (.ref 72), some rv, some (.int (nI m)), some (.int (nI q)), some (.int (bI b)), some (.int (nI i)), l6] [] h = Ev (pG L xs) pM (d + 6) b94 none Q b94_2 [some (.ref 72), some rv, some (.int (nI m)), some (.int (nI q)), some (.int (bI (b && !hitB n q X))), some (.int (nI i)), l6'] [] h1 := by
  have i3 := (getW_f hg).2.2.2.1
  rw [e2] at i3
  have dA := fun Q => c_draw (L := L) (d := d + 5) (xs := xs) (Q := Q) hz hX e4
  have zA : Bas (setI h 72 4 (nI (nxX X))) := hz
  have fA : Fr PT2 h (setI h 72 4 (nI (nxX X))) := Fr.sI (.inl rfl)
  have eA : xI (setI h 72 4 (nI (nxX X))) 72 4 = nI (nxX X) := by rw [xI_sI, if_pos ⟨rfl, rfl⟩]
  have oA : ∀ j, j ≠ 4 → xI (setI h 72 4 (nI (nxX X))) 72 j = xI h 72 j := fun j hj => by rw [xI_sI, if_neg (fun z => hj z.2)]
  have gA : getW (setI h 72 4 (nI (nxX X))) 73 74 = wS s := by unfold getW at *; rw [xI_s_ne (by decide), xI_s_ne (by decide)]; exact hg
  have iA : xI (setI h 72 4 (nI (nxX X))) 73 3 = nI n := by rw [xI_s_ne (by decide)]; exact i3
  revert dA zA fA eA oA gA iA
  generalize setI h 72 4 (nI (nxX X)) = hA
  intro dA zA fA eA oA gA iA
  have dX := nx_d (X := X)
  by_cases hh : hitB n q X = true
  · have n0 := hit_n hh
    have hq1 := hitB_1 hh
    have ep : preX n q (X, s) = (nxX (nxX (nxX X)), upd s (19 + 6 * drX (nxX X) n + drX (nxX X) n) (nI (drX (nxX (nxX X)) 21))) := by unfold preX; rw [if_pos hh]
    have hw := drX_lt (X := nxX X) n0
    have dB := fun Q => c_draw (L := L) (d := d + 5) (xs := xs) (Q := Q) zA nxX_lt eA
    have zB : Bas (setI hA 72 4 (nI (nxX (nxX X)))) := zA
    have fB : Fr PT2 h (setI hA 72 4 (nI (nxX (nxX X)))) := fA.tr (Fr.sI (.inl rfl))
    have eB : xI (setI hA 72 4 (nI (nxX (nxX X)))) 72 4 = nI (nxX (nxX X)) := by rw [xI_sI, if_pos ⟨rfl, rfl⟩]
    have oB : ∀ j, j ≠ 4 → xI (setI hA 72 4 (nI (nxX (nxX X)))) 72 j = xI h 72 j := fun j hj => by rw [xI_sI, if_neg (fun z => hj z.2), oA j hj]
    have gB : getW (setI hA 72 4 (nI (nxX (nxX X)))) 73 74 = wS s := by unfold getW at *; rw [xI_s_ne (by decide), xI_s_ne (by decide)]; exact gA
    have iB : xI (setI hA 72 4 (nI (nxX (nxX X)))) 73 3 = nI n := by rw [xI_s_ne (by decide)]; exact iA
    revert dB zB fB eB oB gB iB
    generalize setI hA 72 4 (nI (nxX (nxX X))) = hB
    intro dB zB fB eB oB gB iB
    have dC := fun Q => c_draw (L := L) (d := d + 5) (xs := xs) (Q := Q) zB nxX_lt eB
    have zC : Bas (setI hB 72 4 (nI (nxX (nxX (nxX X))))) := zB
    have fC : Fr PT2 h (setI hB 72 4 (nI (nxX (nxX (nxX X))))) := fB.tr (Fr.sI (.inl rfl))
    have eC : xI (setI hB 72 4 (nI (nxX (nxX (nxX X))))) 72 4 = nI (nxX (nxX (nxX X))) := by rw [xI_sI, if_pos ⟨rfl, rfl⟩]
    have oC : ∀ j, j ≠ 4 → xI (setI hB 72 4 (nI (nxX (nxX (nxX X))))) 72 j = xI h 72 j := fun j hj => by rw [xI_sI, if_neg (fun z => hj z.2), oB j hj]
    have gC : getW (setI hB 72 4 (nI (nxX (nxX (nxX X))))) 73 74 = wS s := by unfold getW at *; rw [xI_s_ne (by decide), xI_s_ne (by decide)]; exact gB
    revert dC zC fC eC oC gC
    generalize setI hB 72 4 (nI (nxX (nxX (nxX X)))) = hC
    intro dC zC fC eC oC gC
    have cT := fun Q => w_think (L := L) (d := d + 5) (xs := xs) (Q := Q) (x := nI (drX (nxX (nxX X)) 21)) (zw_73 zC) (show drX (nxX X) n < 6 by omega) (show drX (nxX X) n < 6 by omega)
    have gD := gW_think (x := nI (drX (nxX (nxX X)) 21)) (by decide) gC (show drX (nxX X) n < 6 by omega) (show drX (nxX X) n < 6 by omega)
    refine ⟨setI hC 74 (18 + 6 * drX (nxX X) n + drX (nxX X) n) (nI (drX (nxX (nxX X)) 21)), fC.tr (Fr.sI (by unfold PT2; omega)), by rw [ep]; exact gD, by rw [ep, xI_s_ne (by decide)]; exact eC, fun j hj => by rw [xI_s_ne (by decide)]; exact oC j hj, fun l6 => ⟨some (.int (nI (drX (nxX X) n))), fun Q => ?_⟩⟩
    have dX2 := nx_d (X := nxX X)
    have dX3 := nx_d (X := nxX (nxX X))
    have e1 : nxX (nxX X) / 65536 % n = drX (nxX X) n := rfl
    have e2 : nxX (nxX (nxX X)) / 65536 % 21 = drX (nxX (nxX X)) 21 := rfl
    have en0 : (n = 0) = False := eq_false (by omega)
    rw [b94_1, hh, Bool.not_true, Bool.and_false]
    rcases hr with ⟨rfl, hv⟩ | ⟨r, cls, rfl, hv, hk⟩ <;> simp (disch := omega) only [k94_2, e_iconst, e_lconst, e_null, e_ldc, e_iload0i, e_iload1i, e_iload2i, e_iload3i, e_iload4i, e_iload5i, e_iload6i, e_iload7i, e_iload8i, e_iload9i, e_iload10i, e_lload0l, e_lload1l, e_lload2l, e_lload3l, e_lload4l, e_lload5l, e_lload6l, e_lload7l, e_lload8l, e_lload9l, e_lload10l, e_aload0r, e_aload1r, e_aload2r, e_aload3r, e_aload4r, e_aload5r, e_aload6r, e_aload7r, e_aload8r, e_aload9r, e_aload10r, e_aload0n, e_aload1n, e_aload2n, e_aload3n, e_aload4n, e_aload5n, e_aload6n, e_aload7n, e_aload8n, e_aload9n, e_aload10n, e_aload0f, e_aload1f, e_aload2f, e_aload3f, e_aload4f, e_aload5f, e_aload6f, e_aload7f, e_aload8f, e_aload9f, e_aload10f, e_iinc0, e_iinc1, e_iinc2, e_iinc3, e_iinc4, e_iinc5, e_iinc6, e_iinc7, e_iinc8, e_iinc9, e_iinc10, xst_0, xst_1i, xst2_1i, xst_1r, xst2_1r, xst_1n, xst2_1n, xst_1f, xst2_1f, xst_1u, xst2_1u, xst_1l, xst2_1l, xst2_0, xst_s, xst2_s, e_istore, e_lstore, e_astore, e_astoreN, e_iadd, e_isub, e_imul, e_iand, e_ior, e_ixor, e_ishl, e_ishr, e_iushr, e_ladd, e_lsub, e_lmul, e_land, e_lor, e_lshl, e_lcmp, e_i2l, e_l2i, e_i2b, e_ineg, e_dupi, e_dupr, e_dup2, e_popi, e_popr, e_idiv, e_irem, e_ldiv, e_lrem, e_ifCond, e_if_icmp, e_ifnullR, e_ifnullN, e_ifnonnullR, e_ifnonnullN, e_goto, e_jsr, e_tsw, e_lsw, e_getfield, e_dload, e_fload, e_putfield, e_dstore, e_fstore, e_fstoreN, e_monitor, e_new, e_newarray, e_anewarray, e_mnew, e_alen, e_slen, e_schr, e_alenF, e_iaload, e_ialoadF, e_baload, e_laload, e_aaload, e_iastore, e_lastore, e_aastore, e_bastoreB, e_bastoreZ, e_copy, e_ireturnI, e_ireturnZ0, e_ireturnZ1, e_ireturnZb, e_lreturn, e_areturn, e_areturnA, e_areturnN, e_return, ofI, ofIm, ofJ, cat_i, cat_l, cat_r, cat_f, cat_n, xent_0, xent_i, xent_l, xent_r, xent_n, xent_f, xentry, xrf_s, xrf_n, List.getD_cons_zero, List.getD_cons_succ, List.length_cons, List.length_nil, List.cons_append, List.nil_append, List.append_nil, List.map_cons, List.map_nil, List.sum_cons, List.sum_nil, List.replicate, oT_s, oT_n, true_and, and_true, Nat.reduceAdd, Nat.reduceSub, Nat.reduceLeDiff, Nat.reduceEqDiff, Nat.reduceLT, Nat.reduceDiv, Nat.reduceMod, Nat.reduceMul, pk_rem, eq_self, ofN, nI_dec, nI_11, or_true, true_or, false_or, or_false, nI_e0, nI_0lt, Nat.succ_ne_zero, Nat.zero_lt_succ, lg_cmp_gt, lg_cmp_lt, lg_cmp_eq, nI_lt0, nI_add, pk_sub, pk_mul, Nat.add_sub_cancel, nI_clamp, vp_in_T, nI_ltI, nI_leI, nI_eqI, Nat.zero_add, Nat.add_zero, xc_eq, xc_ne, xc_lt, xc_ge, xc_gt, xc_le, bI_0, bI_0n, bI_n0, not_true_eq_false, not_false_eq_true, if_true, if_false, ite_true, ite_false, decide_true, decide_false, and_self, and_true, true_and, hi, zs_72 hz, zr_72_5 hz, zr_72_6 hz, zr_72_7 hz, zr_72_8 hz, v95, v108, dA, dB, dC, zs_72 zA, zs_72 zB, zs_72 zC, zr_72_5 zA, zr_72_5 zB, zr_72_5 zC, (zw_73 zA).1, (zw_73 zB).1, (zw_73 zC).1, iA, iB, hq1, n0, e1, e2, en0, cT, show (100 = 0) = False by decide, show (21 = 0) = False by decide, bI_f]
  · have ep : preX n q (X, s) = (nxX X, s) := by unfold preX; rw [if_neg hh]
    refine ⟨hA, fA, by rw [ep]; exact gA, by rw [ep]; exact eA, oA, fun l6 => ⟨l6, fun Q => ?_⟩⟩
    rw [Bool.not_eq_true] at hh
    rw [b94_1, hh, Bool.not_false, Bool.and_true]
    by_cases hq1 : nxX X / 65536 % 100 < q
    · have n0 : ¬ 0 < n := fun z => by
        unfold hitB drX at hh
        simp [hq1, z] at hh
      rcases hr with ⟨rfl, hv⟩ | ⟨r, cls, rfl, hv, hk⟩ <;> simp (disch := omega) only [k94_2, e_iconst, e_lconst, e_null, e_ldc, e_iload0i, e_iload1i, e_iload2i, e_iload3i, e_iload4i, e_iload5i, e_iload6i, e_iload7i, e_iload8i, e_iload9i, e_iload10i, e_lload0l, e_lload1l, e_lload2l, e_lload3l, e_lload4l, e_lload5l, e_lload6l, e_lload7l, e_lload8l, e_lload9l, e_lload10l, e_aload0r, e_aload1r, e_aload2r, e_aload3r, e_aload4r, e_aload5r, e_aload6r, e_aload7r, e_aload8r, e_aload9r, e_aload10r, e_aload0n, e_aload1n, e_aload2n, e_aload3n, e_aload4n, e_aload5n, e_aload6n, e_aload7n, e_aload8n, e_aload9n, e_aload10n, e_aload0f, e_aload1f, e_aload2f, e_aload3f, e_aload4f, e_aload5f, e_aload6f, e_aload7f, e_aload8f, e_aload9f, e_aload10f, e_iinc0, e_iinc1, e_iinc2, e_iinc3, e_iinc4, e_iinc5, e_iinc6, e_iinc7, e_iinc8, e_iinc9, e_iinc10, xst_0, xst_1i, xst2_1i, xst_1r, xst2_1r, xst_1n, xst2_1n, xst_1f, xst2_1f, xst_1u, xst2_1u, xst_1l, xst2_1l, xst2_0, xst_s, xst2_s, e_istore, e_lstore, e_astore, e_astoreN, e_iadd, e_isub, e_imul, e_iand, e_ior, e_ixor, e_ishl, e_ishr, e_iushr, e_ladd, e_lsub, e_lmul, e_land, e_lor, e_lshl, e_lcmp, e_i2l, e_l2i, e_i2b, e_ineg, e_dupi, e_dupr, e_dup2, e_popi, e_popr, e_idiv, e_irem, e_ldiv, e_lrem, e_ifCond, e_if_icmp, e_ifnullR, e_ifnullN, e_ifnonnullR, e_ifnonnullN, e_goto, e_jsr, e_tsw, e_lsw, e_getfield, e_dload, e_fload, e_putfield, e_dstore, e_fstore, e_fstoreN, e_monitor, e_new, e_newarray, e_anewarray, e_mnew, e_alen, e_slen, e_schr, e_alenF, e_iaload, e_ialoadF, e_baload, e_laload, e_aaload, e_iastore, e_lastore, e_aastore, e_bastoreB, e_bastoreZ, e_copy, e_ireturnI, e_ireturnZ0, e_ireturnZ1, e_ireturnZb, e_lreturn, e_areturn, e_areturnA, e_areturnN, e_return, ofI, ofIm, ofJ, cat_i, cat_l, cat_r, cat_f, cat_n, xent_0, xent_i, xent_l, xent_r, xent_n, xent_f, xentry, xrf_s, xrf_n, List.getD_cons_zero, List.getD_cons_succ, List.length_cons, List.length_nil, List.cons_append, List.nil_append, List.append_nil, List.map_cons, List.map_nil, List.sum_cons, List.sum_nil, List.replicate, oT_s, oT_n, true_and, and_true, Nat.reduceAdd, Nat.reduceSub, Nat.reduceLeDiff, Nat.reduceEqDiff, Nat.reduceLT, Nat.reduceDiv, Nat.reduceMod, Nat.reduceMul, pk_rem, eq_self, ofN, nI_dec, nI_11, or_true, true_or, false_or, or_false, nI_e0, nI_0lt, Nat.succ_ne_zero, Nat.zero_lt_succ, lg_cmp_gt, lg_cmp_lt, lg_cmp_eq, nI_lt0, nI_add, pk_sub, pk_mul, Nat.add_sub_cancel, nI_clamp, vp_in_T, nI_ltI, nI_leI, nI_eqI, Nat.zero_add, Nat.add_zero, xc_eq, xc_ne, xc_lt, xc_ge, xc_gt, xc_le, bI_0, bI_0n, bI_n0, not_true_eq_false, not_false_eq_true, if_true, if_false, ite_true, ite_false, decide_true, decide_false, and_self, and_true, true_and, hi, zs_72 hz, zr_72_5 hz, zr_72_6 hz, zr_72_7 hz, zr_72_8 hz, v95, dA, zs_72 zA, zr_72_5 zA, (zw_73 zA).1, iA, hq1, n0, show (100 = 0) = False by decide]
    · rcases hr with ⟨rfl, hv⟩ | ⟨r, cls, rfl, hv, hk⟩ <;> simp (disch := omega) only [k94_2, e_iconst, e_lconst, e_null, e_ldc, e_iload0i, e_iload1i, e_iload2i, e_iload3i, e_iload4i, e_iload5i, e_iload6i, e_iload7i, e_iload8i, e_iload9i, e_iload10i, e_lload0l, e_lload1l, e_lload2l, e_lload3l, e_lload4l, e_lload5l, e_lload6l, e_lload7l, e_lload8l, e_lload9l, e_lload10l, e_aload0r, e_aload1r, e_aload2r, e_aload3r, e_aload4r, e_aload5r, e_aload6r, e_aload7r, e_aload8r, e_aload9r, e_aload10r, e_aload0n, e_aload1n, e_aload2n, e_aload3n, e_aload4n, e_aload5n, e_aload6n, e_aload7n, e_aload8n, e_aload9n, e_aload10n, e_aload0f, e_aload1f, e_aload2f, e_aload3f, e_aload4f, e_aload5f, e_aload6f, e_aload7f, e_aload8f, e_aload9f, e_aload10f, e_iinc0, e_iinc1, e_iinc2, e_iinc3, e_iinc4, e_iinc5, e_iinc6, e_iinc7, e_iinc8, e_iinc9, e_iinc10, xst_0, xst_1i, xst2_1i, xst_1r, xst2_1r, xst_1n, xst2_1n, xst_1f, xst2_1f, xst_1u, xst2_1u, xst_1l, xst2_1l, xst2_0, xst_s, xst2_s, e_istore, e_lstore, e_astore, e_astoreN, e_iadd, e_isub, e_imul, e_iand, e_ior, e_ixor, e_ishl, e_ishr, e_iushr, e_ladd, e_lsub, e_lmul, e_land, e_lor, e_lshl, e_lcmp, e_i2l, e_l2i, e_i2b, e_ineg, e_dupi, e_dupr, e_dup2, e_popi, e_popr, e_idiv, e_irem, e_ldiv, e_lrem, e_ifCond, e_if_icmp, e_ifnullR, e_ifnullN, e_ifnonnullR, e_ifnonnullN, e_goto, e_jsr, e_tsw, e_lsw, e_getfield, e_dload, e_fload, e_putfield, e_dstore, e_fstore, e_fstoreN, e_monitor, e_new, e_newarray, e_anewarray, e_mnew, e_alen, e_slen, e_schr, e_alenF, e_iaload, e_ialoadF, e_baload, e_laload, e_aaload, e_iastore, e_lastore, e_aastore, e_bastoreB, e_bastoreZ, e_copy, e_ireturnI, e_ireturnZ0, e_ireturnZ1, e_ireturnZb, e_lreturn, e_areturn, e_areturnA, e_areturnN, e_return, ofI, ofIm, ofJ, cat_i, cat_l, cat_r, cat_f, cat_n, xent_0, xent_i, xent_l, xent_r, xent_n, xent_f, xentry, xrf_s, xrf_n, List.getD_cons_zero, List.getD_cons_succ, List.length_cons, List.length_nil, List.cons_append, List.nil_append, List.append_nil, List.map_cons, List.map_nil, List.sum_cons, List.sum_nil, List.replicate, oT_s, oT_n, true_and, and_true, Nat.reduceAdd, Nat.reduceSub, Nat.reduceLeDiff, Nat.reduceEqDiff, Nat.reduceLT, Nat.reduceDiv, Nat.reduceMod, Nat.reduceMul, pk_rem, eq_self, ofN, nI_dec, nI_11, or_true, true_or, false_or, or_false, nI_e0, nI_0lt, Nat.succ_ne_zero, Nat.zero_lt_succ, lg_cmp_gt, lg_cmp_lt, lg_cmp_eq, nI_lt0, nI_add, pk_sub, pk_mul, Nat.add_sub_cancel, nI_clamp, vp_in_T, nI_ltI, nI_leI, nI_eqI, Nat.zero_add, Nat.add_zero, xc_eq, xc_ne, xc_lt, xc_ge, xc_gt, xc_le, bI_0, bI_0n, bI_n0, not_true_eq_false, not_false_eq_true, if_true, if_false, ite_true, ite_false, decide_true, decide_false, and_self, and_true, true_and, hi, zs_72 hz, zr_72_5 hz, zr_72_6 hz, zr_72_7 hz, zr_72_8 hz, v95, dA, hq1, show (100 = 0) = False by decide]
theorem fair_loop {rv : Value} (hz : Bas h) (hr : RuleV h rv rl) (hm : m < 1000) (hq : q ≤ 100) : ∀ k i X s s' (b : Bool) h0, i + k = m → X < 2 ^ 31 → Fr PT2 h h0 → getW h0 73 74 = wS s' → SOK n s' → xI h0 72 4 = nI X → (∀ j, j ≠ 4 → xI h0 72 j = xI h 72 j) → Like s' s → (dayB rl = true → s' = s) → (b = true → dayB rl = false ∧ Like (dayR rl n s') s') → ∃ h1 s1, Fr PT2 h h1 ∧ getW h1 73 74 = wS s1 ∧ SOK n s1 ∧ Like s1 (fdsX rl n q k (X, s)).2 ∧ xI h1 72 4 = nI (fdsX rl n q k (X, s)).1 ∧ (∀ j, j ≠ 4 → xI h1 72 j = xI h 72 j) ∧ ∀ l6 Q, Ev (pG L xs) pM (d + 6) b94 none Q b94_1 [some (.ref 72), some rv, some (.int (nI m)), some (.int (nI q)), some (.int (bI b)), some (.int (nI i)), l6] [] h0 = Q none h1 := by
  intro k
  induction k with
  | zero =>
    intro i X s s' b h0 hi hX hf hg hS e4 eo hl hd hb
    obtain rfl : i = m := by omega
    refine ⟨h0, s', hf, hg, hS, hl, e4, eo, fun l6 Q => ?_⟩
    rw [b94_1]
    rcases hr with ⟨rfl, hv⟩ | ⟨r, cls, rfl, hv, hk⟩ <;> simp (disch := omega) only [k94_4, b94_4, e_iconst, e_lconst, e_null, e_ldc, e_iload0i, e_iload1i, e_iload2i, e_iload3i, e_iload4i, e_iload5i, e_iload6i, e_iload7i, e_iload8i, e_iload9i, e_iload10i, e_lload0l, e_lload1l, e_lload2l, e_lload3l, e_lload4l, e_lload5l, e_lload6l, e_lload7l, e_lload8l, e_lload9l, e_lload10l, e_aload0r, e_aload1r, e_aload2r, e_aload3r, e_aload4r, e_aload5r, e_aload6r, e_aload7r, e_aload8r, e_aload9r, e_aload10r, e_aload0n, e_aload1n, e_aload2n, e_aload3n, e_aload4n, e_aload5n, e_aload6n, e_aload7n, e_aload8n, e_aload9n, e_aload10n, e_aload0f, e_aload1f, e_aload2f, e_aload3f, e_aload4f, e_aload5f, e_aload6f, e_aload7f, e_aload8f, e_aload9f, e_aload10f, e_iinc0, e_iinc1, e_iinc2, e_iinc3, e_iinc4, e_iinc5, e_iinc6, e_iinc7, e_iinc8, e_iinc9, e_iinc10, xst_0, xst_1i, xst2_1i, xst_1r, xst2_1r, xst_1n, xst2_1n, xst_1f, xst2_1f, xst_1u, xst2_1u, xst_1l, xst2_1l, xst2_0, xst_s, xst2_s, e_istore, e_lstore, e_astore, e_astoreN, e_iadd, e_isub, e_imul, e_iand, e_ior, e_ixor, e_ishl, e_ishr, e_iushr, e_ladd, e_lsub, e_lmul, e_land, e_lor, e_lshl, e_lcmp, e_i2l, e_l2i, e_i2b, e_ineg, e_dupi, e_dupr, e_dup2, e_popi, e_popr, e_idiv, e_irem, e_ldiv, e_lrem, e_ifCond, e_if_icmp, e_ifnullR, e_ifnullN, e_ifnonnullR, e_ifnonnullN, e_goto, e_jsr, e_tsw, e_lsw, e_getfield, e_dload, e_fload, e_putfield, e_dstore, e_fstore, e_fstoreN, e_monitor, e_new, e_newarray, e_anewarray, e_mnew, e_alen, e_slen, e_schr, e_alenF, e_iaload, e_ialoadF, e_baload, e_laload, e_aaload, e_iastore, e_lastore, e_aastore, e_bastoreB, e_bastoreZ, e_copy, e_ireturnI, e_ireturnZ0, e_ireturnZ1, e_ireturnZb, e_lreturn, e_areturn, e_areturnA, e_areturnN, e_return, ofI, ofIm, ofJ, cat_i, cat_l, cat_r, cat_f, cat_n, xent_0, xent_i, xent_l, xent_r, xent_n, xent_f, xentry, xrf_s, xrf_n, List.getD_cons_zero, List.getD_cons_succ, List.length_cons, List.length_nil, List.cons_append, List.nil_append, List.append_nil, List.map_cons, List.map_nil, List.sum_cons, List.sum_nil, List.replicate, oT_s, oT_n, true_and, and_true, Nat.reduceAdd, Nat.reduceSub, Nat.reduceLeDiff, Nat.reduceEqDiff, Nat.reduceLT, Nat.reduceDiv, Nat.reduceMod, Nat.reduceMul, eq_self, ofN, nI_dec, nI_11, or_true, true_or, false_or, or_false, nI_e0, nI_0lt, Nat.succ_ne_zero, Nat.zero_lt_succ, lg_cmp_gt, lg_cmp_lt, lg_cmp_eq, nI_lt0, nI_add, pk_sub, pk_mul, Nat.add_sub_cancel, nI_clamp, vp_in_T, nI_ltI, nI_leI, nI_eqI, Nat.zero_add, Nat.add_zero, xc_eq, xc_ne, xc_lt, xc_ge, xc_gt, xc_le, bI_0, bI_0n, bI_n0, not_true_eq_false, not_false_eq_true, if_true, if_false, ite_true, ite_false, decide_true, decide_false, and_self, and_true, true_and, Nat.lt_irrefl]
  | succ k ih =>
    intro i X s s' b h0 hi hX hf hg hS e4 eo hl hd hb
    have n6 := hS.1
    have q0 : i < m := by omega
    have z0 := hf.bas hz
    have hr0 := hf.rv (fun a z => by unfold PT2 at z; omega) hr
    obtain ⟨hA, fA, gA, eA, oA, cA⟩ := fair_pre (L := L) (d := d) (xs := xs) (b := b) (q := q) z0 hr0 hm hq q0 n6 hX hg hS.2.1 e4
    have hfA := hf.tr fA
    have zA := hfA.bas hz
    have hrA := hfA.rv (fun a z => by unfold PT2 at z; omega) hr
    have hSA : SOK n (preX n q (X, s')).2 := preX_ok (st := (X, s')) hS
    have hlA : Like (preX n q (X, s')).2 (preX n q (X, s)).2 := hl.pre
    have e1 : (preX n q (X, s')).1 = (preX n q (X, s)).1 := preX_1
    rw [e1] at eA
    have oA' : ∀ j, j ≠ 4 → xI hA 72 j = xI h 72 j := fun j hj => (oA j hj).trans (eo j hj)
    cases hb2 : (b && !hitB n q X) with
    | true =>
      rw [Bool.and_eq_true] at hb2
      obtain ⟨k1, k2⟩ := hb hb2.1
      have hh : ¬ hitB n q X = true := by intro z; rw [z] at hb2; exact absurd hb2.2 (by decide)
      have es : (preX n q (X, s')).2 = s' := by unfold preX; rw [if_neg hh]
      have es2 : (preX n q (X, s)).2 = s := by unfold preX; rw [if_neg hh]
      obtain ⟨h4, s4, f4, g4, hS4, l4, x4, o4, c4⟩ := ih (i + 1) (fdX rl n q (X, s)).1 (fdX rl n q (X, s)).2 s' true hA (by omega) preX_lt hfA (by rw [← es]; exact gA) hS eA oA' (by
        show Like s' (dayR rl n (preX n q (X, s)).2)
        rw [es2]
        exact k2.sy.tr (hl.day k1)) (fun z => by rw [k1] at z; cases z) (fun _ => ⟨k1, k2⟩)
      refine ⟨h4, s4, f4, g4, hS4, l4, x4, o4, fun l6 Q => ?_⟩
      obtain ⟨l6', cA⟩ := cA l6
      rw [cA, hb2.1, hb2.2, Bool.and_true, b94_2]
      rcases hr with ⟨rfl, hv⟩ | ⟨r, cls, rfl, hv, hk⟩ <;> simp (disch := omega) only [k94_3, b94_3, k94_1, e_iconst, e_lconst, e_null, e_ldc, e_iload0i, e_iload1i, e_iload2i, e_iload3i, e_iload4i, e_iload5i, e_iload6i, e_iload7i, e_iload8i, e_iload9i, e_iload10i, e_lload0l, e_lload1l, e_lload2l, e_lload3l, e_lload4l, e_lload5l, e_lload6l, e_lload7l, e_lload8l, e_lload9l, e_lload10l, e_aload0r, e_aload1r, e_aload2r, e_aload3r, e_aload4r, e_aload5r, e_aload6r, e_aload7r, e_aload8r, e_aload9r, e_aload10r, e_aload0n, e_aload1n, e_aload2n, e_aload3n, e_aload4n, e_aload5n, e_aload6n, e_aload7n, e_aload8n, e_aload9n, e_aload10n, e_aload0f, e_aload1f, e_aload2f, e_aload3f, e_aload4f, e_aload5f, e_aload6f, e_aload7f, e_aload8f, e_aload9f, e_aload10f, e_iinc0, e_iinc1, e_iinc2, e_iinc3, e_iinc4, e_iinc5, e_iinc6, e_iinc7, e_iinc8, e_iinc9, e_iinc10, xst_0, xst_1i, xst2_1i, xst_1r, xst2_1r, xst_1n, xst2_1n, xst_1f, xst2_1f, xst_1u, xst2_1u, xst_1l, xst2_1l, xst2_0, xst_s, xst2_s, e_istore, e_lstore, e_astore, e_astoreN, e_iadd, e_isub, e_imul, e_iand, e_ior, e_ixor, e_ishl, e_ishr, e_iushr, e_ladd, e_lsub, e_lmul, e_land, e_lor, e_lshl, e_lcmp, e_i2l, e_l2i, e_i2b, e_ineg, e_dupi, e_dupr, e_dup2, e_popi, e_popr, e_idiv, e_irem, e_ldiv, e_lrem, e_ifCond, e_if_icmp, e_ifnullR, e_ifnullN, e_ifnonnullR, e_ifnonnullN, e_goto, e_jsr, e_tsw, e_lsw, e_getfield, e_dload, e_fload, e_putfield, e_dstore, e_fstore, e_fstoreN, e_monitor, e_new, e_newarray, e_anewarray, e_mnew, e_alen, e_slen, e_schr, e_alenF, e_iaload, e_ialoadF, e_baload, e_laload, e_aaload, e_iastore, e_lastore, e_aastore, e_bastoreB, e_bastoreZ, e_copy, e_ireturnI, e_ireturnZ0, e_ireturnZ1, e_ireturnZb, e_lreturn, e_areturn, e_areturnA, e_areturnN, e_return, ofI, ofIm, ofJ, cat_i, cat_l, cat_r, cat_f, cat_n, xent_0, xent_i, xent_l, xent_r, xent_n, xent_f, xentry, xrf_s, xrf_n, List.getD_cons_zero, List.getD_cons_succ, List.length_cons, List.length_nil, List.cons_append, List.nil_append, List.append_nil, List.map_cons, List.map_nil, List.sum_cons, List.sum_nil, List.replicate, oT_s, oT_n, true_and, and_true, Nat.reduceAdd, Nat.reduceSub, Nat.reduceLeDiff, Nat.reduceEqDiff, Nat.reduceLT, Nat.reduceDiv, Nat.reduceMod, Nat.reduceMul, eq_self, ofN, nI_dec, nI_11, or_true, true_or, false_or, or_false, nI_e0, nI_0lt, Nat.succ_ne_zero, Nat.zero_lt_succ, lg_cmp_gt, lg_cmp_lt, lg_cmp_eq, nI_lt0, nI_add, pk_sub, pk_mul, Nat.add_sub_cancel, nI_clamp, vp_in_T, nI_ltI, nI_leI, nI_eqI, Nat.zero_add, Nat.add_zero, xc_eq, xc_ne, xc_lt, xc_ge, xc_gt, xc_le, bI_0, bI_0n, bI_n0, not_true_eq_false, not_false_eq_true, if_true, if_false, ite_true, ite_false, decide_true, decide_false, and_self, and_true, true_and, Bool.true_eq_false, c4]
    | false =>
      obtain ⟨h3, g1, g2, -, g4⟩ := C_pass (L := L) (d := d + 1) (xs := xs) (zw_73 zA) (zd_75 zA) (by decide) (by decide) (by decide) hrA hSA gA
      have f3 : Fr PT2 h h3 := hfA.tr (g1.mono fun a z => by unfold PT2; omega)
      have z3 := f3.bas hz
      have e72 : xI h3 72 = xI hA 72 := g1.2.2.2 72 (by omega)
      have hr3 := f3.rv (fun a z => by unfold PT2 at z; omega) hr
      have hdd : dayB rl = true → (preX n q (X, s')).2 = (preX n q (X, s)).2 := fun z => by rw [hd z]
      obtain ⟨h4, s4, f4, g5, hS4, l4, x4, o4, c4⟩ := ih (i + 1) (fdX rl n q (X, s)).1 (fdX rl n q (X, s)).2 (dayR rl n (preX n q (X, s')).2) (decide (goN rl n (preX n q (X, s')).2 = 0) && !dayB rl) h3 (by omega) preX_lt f3 g2 (dayR_ok hSA) (by rw [e72]; exact eA) (fun j hj => by rw [e72]; exact oA' j hj) (by
        show Like (dayR rl n (preX n q (X, s')).2) (dayR rl n (preX n q (X, s)).2)
        cases hdb : dayB rl with
        | true => rw [hdd hdb]; exact Like.rf
        | false => exact hlA.day hdb) (fun z => by
        show dayR rl n (preX n q (X, s')).2 = dayR rl n (preX n q (X, s)).2
        rw [hdd z]) (fun e => by
        simp only [Bool.and_eq_true, decide_eq_true_eq, Bool.not_eq_true'] at e
        exact ⟨e.2, (day_still hSA e.1).day e.2⟩)
      refine ⟨h4, s4, f4, g5, hS4, l4, x4, o4, fun l6 Q => ?_⟩
      obtain ⟨l6', cA⟩ := cA l6
      have hg64 : goN rl n (preX n q (X, s')).2 < 64 := popN_64 _
      have zS := fun Q => C_isStill (Q := Q) (L := L) (d := d + 5) (xs := xs) (D := 75) (h := h3) hr3 hg64
      rw [cA, hb2, b94_2]
      rcases hr with ⟨rfl, hv⟩ | ⟨r, cls, rfl, hv, hk⟩ <;> simp (disch := omega) only [k94_3, b94_3, k94_1, e_iconst, e_lconst, e_null, e_ldc, e_iload0i, e_iload1i, e_iload2i, e_iload3i, e_iload4i, e_iload5i, e_iload6i, e_iload7i, e_iload8i, e_iload9i, e_iload10i, e_lload0l, e_lload1l, e_lload2l, e_lload3l, e_lload4l, e_lload5l, e_lload6l, e_lload7l, e_lload8l, e_lload9l, e_lload10l, e_aload0r, e_aload1r, e_aload2r, e_aload3r, e_aload4r, e_aload5r, e_aload6r, e_aload7r, e_aload8r, e_aload9r, e_aload10r, e_aload0n, e_aload1n, e_aload2n, e_aload3n, e_aload4n, e_aload5n, e_aload6n, e_aload7n, e_aload8n, e_aload9n, e_aload10n, e_aload0f, e_aload1f, e_aload2f, e_aload3f, e_aload4f, e_aload5f, e_aload6f, e_aload7f, e_aload8f, e_aload9f, e_aload10f, e_iinc0, e_iinc1, e_iinc2, e_iinc3, e_iinc4, e_iinc5, e_iinc6, e_iinc7, e_iinc8, e_iinc9, e_iinc10, xst_0, xst_1i, xst2_1i, xst_1r, xst2_1r, xst_1n, xst2_1n, xst_1f, xst2_1f, xst_1u, xst2_1u, xst_1l, xst2_1l, xst2_0, xst_s, xst2_s, e_istore, e_lstore, e_astore, e_astoreN, e_iadd, e_isub, e_imul, e_iand, e_ior, e_ixor, e_ishl, e_ishr, e_iushr, e_ladd, e_lsub, e_lmul, e_land, e_lor, e_lshl, e_lcmp, e_i2l, e_l2i, e_i2b, e_ineg, e_dupi, e_dupr, e_dup2, e_popi, e_popr, e_idiv, e_irem, e_ldiv, e_lrem, e_ifCond, e_if_icmp, e_ifnullR, e_ifnullN, e_ifnonnullR, e_ifnonnullN, e_goto, e_jsr, e_tsw, e_lsw, e_getfield, e_dload, e_fload, e_putfield, e_dstore, e_fstore, e_fstoreN, e_monitor, e_new, e_newarray, e_anewarray, e_mnew, e_alen, e_slen, e_schr, e_alenF, e_iaload, e_ialoadF, e_baload, e_laload, e_aaload, e_iastore, e_lastore, e_aastore, e_bastoreB, e_bastoreZ, e_copy, e_ireturnI, e_ireturnZ0, e_ireturnZ1, e_ireturnZb, e_lreturn, e_areturn, e_areturnA, e_areturnN, e_return, ofI, ofIm, ofJ, cat_i, cat_l, cat_r, cat_f, cat_n, xent_0, xent_i, xent_l, xent_r, xent_n, xent_f, xentry, xrf_s, xrf_n, List.getD_cons_zero, List.getD_cons_succ, List.length_cons, List.length_nil, List.cons_append, List.nil_append, List.append_nil, List.map_cons, List.map_nil, List.sum_cons, List.sum_nil, List.replicate, oT_s, oT_n, true_and, and_true, Nat.reduceAdd, Nat.reduceSub, Nat.reduceLeDiff, Nat.reduceEqDiff, Nat.reduceLT, Nat.reduceDiv, Nat.reduceMod, Nat.reduceMul, eq_self, ofN, nI_dec, nI_11, or_true, true_or, false_or, or_false, nI_e0, nI_0lt, Nat.succ_ne_zero, Nat.zero_lt_succ, lg_cmp_gt, lg_cmp_lt, lg_cmp_eq, nI_lt0, nI_add, pk_sub, pk_mul, Nat.add_sub_cancel, nI_clamp, vp_in_T, nI_ltI, nI_leI, nI_eqI, Nat.zero_add, Nat.add_zero, xc_eq, xc_ne, xc_lt, xc_ge, xc_gt, xc_le, bI_0, bI_0n, bI_n0, not_true_eq_false, not_false_eq_true, if_true, if_false, ite_true, ite_false, decide_true, decide_false, and_self, and_true, true_and, zs_72 zA, zr_72_5 zA, zr_72_6 zA, zs_75 zA, zs_75 z3, v1, v3, g4, zS, c4]
theorem C_holdFair {rv : Value} (hz : Bas h) (hr : RuleV h rv rl) (hm : m < 1000) (hq : q ≤ 100) (hX : X < 2 ^ 31) (hS : SOK n s) (hg : getW h 73 74 = wS s) (e4 : xI h 72 4 = nI X) : ∃ h1 s1, Fr PT2 h h1 ∧ getW h1 73 74 = wS s1 ∧ SOK n s1 ∧ Like s1 (fdsX rl n q m (X, s)).2 ∧ xI h1 72 4 = nI (fdsX rl n q m (X, s)).1 ∧ (∀ j, j ≠ 4 → xI h1 72 j = xI h 72 j) ∧ ∀ Q, Call (pG L xs) pM (d + 7) 94 [.ref 72, rv, .int (nI m), .int (nI q)] h Q = Q none h1 := by
  obtain ⟨h1, s1, f1, f2, f3, f4, f5, f6, f7⟩ := fair_loop (L := L) (d := d) (xs := xs) hz hr hm hq m 0 X s s false h (Nat.zero_add m) hX Fr.rf hg hS e4 (fun _ _ => rfl) Like.rf (fun _ => rfl) (fun e => by cases e)
  refine ⟨h1, s1, f1, f2, f3, f4, f5, f6, fun Q => ?_⟩
  have f8 := fun l6 => f7 l6 Q
  rw [show bI false = nI 0 from rfl] at f8
  rcases hr with ⟨rfl, hv⟩ | ⟨r, cls, rfl, hv, hk⟩ <;> simp (disch := omega) only [m94, b94_0, e_iconst, e_lconst, e_null, e_ldc, e_iload0i, e_iload1i, e_iload2i, e_iload3i, e_iload4i, e_iload5i, e_iload6i, e_iload7i, e_iload8i, e_iload9i, e_iload10i, e_lload0l, e_lload1l, e_lload2l, e_lload3l, e_lload4l, e_lload5l, e_lload6l, e_lload7l, e_lload8l, e_lload9l, e_lload10l, e_aload0r, e_aload1r, e_aload2r, e_aload3r, e_aload4r, e_aload5r, e_aload6r, e_aload7r, e_aload8r, e_aload9r, e_aload10r, e_aload0n, e_aload1n, e_aload2n, e_aload3n, e_aload4n, e_aload5n, e_aload6n, e_aload7n, e_aload8n, e_aload9n, e_aload10n, e_aload0f, e_aload1f, e_aload2f, e_aload3f, e_aload4f, e_aload5f, e_aload6f, e_aload7f, e_aload8f, e_aload9f, e_aload10f, e_iinc0, e_iinc1, e_iinc2, e_iinc3, e_iinc4, e_iinc5, e_iinc6, e_iinc7, e_iinc8, e_iinc9, e_iinc10, xst_0, xst_1i, xst2_1i, xst_1r, xst2_1r, xst_1n, xst2_1n, xst_1f, xst2_1f, xst_1u, xst2_1u, xst_1l, xst2_1l, xst2_0, xst_s, xst2_s, e_istore, e_lstore, e_astore, e_astoreN, e_iadd, e_isub, e_imul, e_iand, e_ior, e_ixor, e_ishl, e_ishr, e_iushr, e_ladd, e_lsub, e_lmul, e_land, e_lor, e_lshl, e_lcmp, e_i2l, e_l2i, e_i2b, e_ineg, e_dupi, e_dupr, e_dup2, e_popi, e_popr, e_idiv, e_irem, e_ldiv, e_lrem, e_ifCond, e_if_icmp, e_ifnullR, e_ifnullN, e_ifnonnullR, e_ifnonnullN, e_goto, e_jsr, e_tsw, e_lsw, e_getfield, e_dload, e_fload, e_putfield, e_dstore, e_fstore, e_fstoreN, e_monitor, e_new, e_newarray, e_anewarray, e_mnew, e_alen, e_slen, e_schr, e_alenF, e_iaload, e_ialoadF, e_baload, e_laload, e_aaload, e_iastore, e_lastore, e_aastore, e_bastoreB, e_bastoreZ, e_copy, e_ireturnI, e_ireturnZ0, e_ireturnZ1, e_ireturnZb, e_lreturn, e_areturn, e_areturnA, e_areturnN, e_return, ofI, ofIm, ofJ, cat_i, cat_l, cat_r, cat_f, cat_n, xent_0, xent_i, xent_l, xent_r, xent_n, xent_f, xentry, xrf_s, xrf_n, List.getD_cons_zero, List.getD_cons_succ, List.length_cons, List.length_nil, List.cons_append, List.nil_append, List.append_nil, List.map_cons, List.map_nil, List.sum_cons, List.sum_nil, List.replicate, oT_s, oT_n, true_and, and_true, Nat.reduceAdd, Nat.reduceSub, Nat.reduceLeDiff, Nat.reduceEqDiff, Nat.reduceLT, Nat.reduceDiv, Nat.reduceMod, Nat.reduceMul, eq_self, ofN, nI_dec, nI_11, or_true, true_or, false_or, or_false, nI_e0, nI_0lt, Nat.succ_ne_zero, Nat.zero_lt_succ, lg_cmp_gt, lg_cmp_lt, lg_cmp_eq, nI_lt0, nI_add, pk_sub, pk_mul, Nat.add_sub_cancel, nI_clamp, vp_in_T, nI_ltI, nI_leI, nI_eqI, Nat.zero_add, Nat.add_zero, xc_eq, xc_ne, xc_lt, xc_ge, xc_gt, xc_le, bI_0, bI_0n, bI_n0, not_true_eq_false, not_false_eq_true, if_true, if_false, ite_true, ite_false, decide_true, decide_false, and_self, and_true, true_and, k94_1, f8]
/-- a fair's end: how many over, what they have -/
def coiS (n : Nat) (s : Nat → Int32) : Int32 := forF (coinF (trS s) (s 12)) 0 n (nI 0)
noncomputable def yrF (rl : Option (List Cl)) (n m q : Nat) (s : Nat → Int32) : Nat × Int32 × Int32 → Nat × Int32 × Int32 := fun st => ((fdsX rl n q m (st.1, s)).1, st.2.1 + nI (popS (fdsX rl n q m (st.1, s)).2), st.2.2 + coiS n (fdsX rl n q m (st.1, s)).2)
noncomputable def yrsF (rl : Option (List Cl)) (n m q : Nat) (s : Nat → Int32) : Nat → Nat × Int32 × Int32 → Nat × Int32 × Int32
  | 0, st => st
  | k + 1, st => yrsF rl n m q s k (yrF rl n m q s st)
theorem Like.coi (hl : Like s s') : coiS n s = coiS n s' := by unfold coiS; rw [hl.tS, hl 12 (by decide)]
theorem fairs_loopC {rv : Value} {g : Nat} (hz : Bas h) (hr : RuleV h rv rl) (hm : m < 1000) (hq : q ≤ 100) (hg2 : g < 1000) (hS : SOK n s) (hg : getW h 14 15 = wS s) (hto : s 0 = 0 ∨ s 0 = 1) : ∀ k i (st : Nat × Int32 × Int32) h0, i + k = g → st.1 < 2 ^ 31 → Fr PT2 h h0 → WAny h0 73 74 → xI h0 72 4 = nI st.1 → xI h0 72 2 = st.2.1 → xI h0 72 3 = st.2.2 → ∃ h1, Fr PT2 h h1 ∧ WAny h1 73 74 ∧ xI h1 72 2 = (yrsF rl n m q s k st).2.1 ∧ xI h1 72 3 = (yrsF rl n m q s k st).2.2 ∧ ∀ Q, Ev (pG L xs) pM (d + 7) b93 none Q b93_1 [some (.ref 72), some (.ref 14), some rv, some (.int (nI g)), some (.int (nI m)), some (.int (nI q)), some (.int (nI i))] [] h0 = Q none h1 := by
  intro k
  have n6 := hS.1
  induction k with
  | zero =>
    intro i st h0 hi hX hf ha e4 e2 e3
    obtain rfl : i = g := by omega
    refine ⟨h0, hf, ha, e2, e3, fun Q => ?_⟩
    rw [b93_1]
    rcases hr with ⟨rfl, hv⟩ | ⟨r, cls, rfl, hv, hk⟩ <;> simp (disch := omega) only [k93_2, b93_2, e_iconst, e_lconst, e_null, e_ldc, e_iload0i, e_iload1i, e_iload2i, e_iload3i, e_iload4i, e_iload5i, e_iload6i, e_iload7i, e_iload8i, e_iload9i, e_iload10i, e_lload0l, e_lload1l, e_lload2l, e_lload3l, e_lload4l, e_lload5l, e_lload6l, e_lload7l, e_lload8l, e_lload9l, e_lload10l, e_aload0r, e_aload1r, e_aload2r, e_aload3r, e_aload4r, e_aload5r, e_aload6r, e_aload7r, e_aload8r, e_aload9r, e_aload10r, e_aload0n, e_aload1n, e_aload2n, e_aload3n, e_aload4n, e_aload5n, e_aload6n, e_aload7n, e_aload8n, e_aload9n, e_aload10n, e_aload0f, e_aload1f, e_aload2f, e_aload3f, e_aload4f, e_aload5f, e_aload6f, e_aload7f, e_aload8f, e_aload9f, e_aload10f, e_iinc0, e_iinc1, e_iinc2, e_iinc3, e_iinc4, e_iinc5, e_iinc6, e_iinc7, e_iinc8, e_iinc9, e_iinc10, xst_0, xst_1i, xst2_1i, xst_1r, xst2_1r, xst_1n, xst2_1n, xst_1f, xst2_1f, xst_1u, xst2_1u, xst_1l, xst2_1l, xst2_0, xst_s, xst2_s, e_istore, e_lstore, e_astore, e_astoreN, e_iadd, e_isub, e_imul, e_iand, e_ior, e_ixor, e_ishl, e_ishr, e_iushr, e_ladd, e_lsub, e_lmul, e_land, e_lor, e_lshl, e_lcmp, e_i2l, e_l2i, e_i2b, e_ineg, e_dupi, e_dupr, e_dup2, e_popi, e_popr, e_idiv, e_irem, e_ldiv, e_lrem, e_ifCond, e_if_icmp, e_ifnullR, e_ifnullN, e_ifnonnullR, e_ifnonnullN, e_goto, e_jsr, e_tsw, e_lsw, e_getfield, e_dload, e_fload, e_putfield, e_dstore, e_fstore, e_fstoreN, e_monitor, e_new, e_newarray, e_anewarray, e_mnew, e_alen, e_slen, e_schr, e_alenF, e_iaload, e_ialoadF, e_baload, e_laload, e_aaload, e_iastore, e_lastore, e_aastore, e_bastoreB, e_bastoreZ, e_copy, e_ireturnI, e_ireturnZ0, e_ireturnZ1, e_ireturnZb, e_lreturn, e_areturn, e_areturnA, e_areturnN, e_return, ofI, ofIm, ofJ, cat_i, cat_l, cat_r, cat_f, cat_n, xent_0, xent_i, xent_l, xent_r, xent_n, xent_f, xentry, xrf_s, xrf_n, List.getD_cons_zero, List.getD_cons_succ, List.length_cons, List.length_nil, List.cons_append, List.nil_append, List.append_nil, List.map_cons, List.map_nil, List.sum_cons, List.sum_nil, List.replicate, oT_s, oT_n, true_and, and_true, Nat.reduceAdd, Nat.reduceSub, Nat.reduceLeDiff, Nat.reduceEqDiff, Nat.reduceLT, Nat.reduceDiv, Nat.reduceMod, Nat.reduceMul, eq_self, ofN, nI_dec, nI_11, or_true, true_or, false_or, or_false, nI_e0, nI_0lt, Nat.succ_ne_zero, Nat.zero_lt_succ, lg_cmp_gt, lg_cmp_lt, lg_cmp_eq, nI_lt0, nI_add, pk_sub, pk_mul, Nat.add_sub_cancel, nI_clamp, vp_in_T, nI_ltI, nI_leI, nI_eqI, Nat.zero_add, Nat.add_zero, xc_eq, xc_ne, xc_lt, xc_ge, xc_gt, xc_le, bI_0, bI_0n, bI_n0, not_true_eq_false, not_false_eq_true, if_true, if_false, ite_true, ite_false, decide_true, decide_false, and_self, and_true, true_and, Nat.lt_irrefl]
  | succ k ih =>
    intro i st h0 hi hX hf ha e4 e2 e3
    have q0 : i < g := by omega
    have z0 := hf.bas hz
    have hg0 : getW h0 14 15 = wS s := (getW_fr hf (by unfold PT2; omega) (by unfold PT2; omega)).trans hg
    have cA := fun Q => c_copyS (L := L) (d := d + 6) (xs := xs) (Q := Q) (zw_73 z0) (zw_14 z0) (by decide) (by decide) hg0 ha hto
    have fA : Fr PT h0 (putW h0 73 74 (wS s)) := Fr.put (.inl rfl) (.inr (.inl rfl))
    have gA : getW (putW h0 73 74 (wS s)) 73 74 = wS s := getW_put (by decide) _
    revert cA fA gA
    generalize putW h0 73 74 (wS s) = hA
    intro cA fA gA
    have zA := fA.bas z0
    have eA : xI hA 72 = xI h0 72 := fA.2.2.2 72 (by unfold PT; omega)
    have hrA := (hf.tr (fA.mono fun a => PT.t2)).rv (fun a z => by unfold PT2 at z; omega) hr
    obtain ⟨h2, s2, f2, g2, hS2, l2, x2, o2, c2⟩ := C_holdFair (L := L) (d := d) (xs := xs) (X := st.1) zA hrA hm hq hX hS gA (by rw [eA]; exact e4)
    have z2 := f2.bas zA
    obtain ⟨a, ha6, hp1, hp2⟩ := popS_of hS2
    have i3 := (getW_f g2).2.2.2.1
    have i5 := (getW_f g2).2.2.2.2.2.1
    have it := (getW_f g2).2.2.2.2.2.2
    rw [hS2.2.1] at i3
    rw [hp1] at i5
    have ep : popN a = popS (fdsX rl n q m (st.1, s)).2 := by rw [← hp2]; exact l2.pop
    have ec : forF (coinF (trS s2) (nI a)) 0 n (nI 0) = coiS n (fdsX rl n q m (st.1, s)).2 := by rw [← hp1]; exact l2.coi
    have r2 : xI h2 72 2 = st.2.1 := by rw [o2 2 (by decide), eA]; exact e2
    have r3 : xI h2 72 3 = st.2.2 := by rw [o2 3 (by decide), eA]; exact e3
    have f02 : Fr PT2 h h2 := (hf.tr (fA.mono fun a => PT.t2)).tr f2
    have fB : Fr PT2 h (setI h2 72 2 (st.2.1 + nI (popS (fdsX rl n q m (st.1, s)).2))) := f02.tr (Fr.sI (.inl rfl))
    have zB := fB.bas hz
    have e5B : xI (setI h2 72 2 (st.2.1 + nI (popS (fdsX rl n q m (st.1, s)).2))) 73 5 = nI a := by rw [xI_s_ne (by decide)]; exact i5
    have e3B : xI (setI h2 72 2 (st.2.1 + nI (popS (fdsX rl n q m (st.1, s)).2))) 73 3 = nI n := by rw [xI_s_ne (by decide)]; exact i3
    have etB : xI (setI h2 72 2 (st.2.1 + nI (popS (fdsX rl n q m (st.1, s)).2))) 74 = trS s2 := by rw [xI_s_ne (by decide)]; exact it
    have r3B : xI (setI h2 72 2 (st.2.1 + nI (popS (fdsX rl n q m (st.1, s)).2))) 72 3 = st.2.2 := by rw [xI_sI, if_neg (by decide)]; exact r3
    have cC := fun Q => w_coinsOf (L := L) (d := d + 6) (xs := xs) (Q := Q) (x := nI a) (zw_73 zB) n6 e3B
    rw [etB, ec] at cC
    have fC : Fr PT2 h (setI (setI h2 72 2 (st.2.1 + nI (popS (fdsX rl n q m (st.1, s)).2))) 72 3 (st.2.2 + coiS n (fdsX rl n q m (st.1, s)).2)) := fB.tr (Fr.sI (.inl rfl))
    obtain ⟨h4, f4, w4, r42, r43, c4⟩ := ih (i + 1) (yrF rl n m q s st) _ (by omega) (fdsX_lt m _ hX) fC ⟨s2, by unfold getW at *; rw [xI_s_ne (by decide), xI_s_ne (by decide), xI_s_ne (by decide), xI_s_ne (by decide)]; exact g2⟩ (by rw [xI_sI, if_neg (by decide), xI_sI, if_neg (by decide)]; exact x2) (by rw [xI_sI, if_neg (by decide), xI_sI, if_pos ⟨rfl, rfl⟩]; rfl) (by rw [xI_sI, if_pos ⟨rfl, rfl⟩]; rfl)
    refine ⟨h4, f4, w4, r42, r43, fun Q => ?_⟩
    rw [b93_1]
    rcases hr with ⟨rfl, hv⟩ | ⟨r, cls, rfl, hv, hk⟩ <;> simp (disch := omega) only [k93_1, e_iconst, e_lconst, e_null, e_ldc, e_iload0i, e_iload1i, e_iload2i, e_iload3i, e_iload4i, e_iload5i, e_iload6i, e_iload7i, e_iload8i, e_iload9i, e_iload10i, e_lload0l, e_lload1l, e_lload2l, e_lload3l, e_lload4l, e_lload5l, e_lload6l, e_lload7l, e_lload8l, e_lload9l, e_lload10l, e_aload0r, e_aload1r, e_aload2r, e_aload3r, e_aload4r, e_aload5r, e_aload6r, e_aload7r, e_aload8r, e_aload9r, e_aload10r, e_aload0n, e_aload1n, e_aload2n, e_aload3n, e_aload4n, e_aload5n, e_aload6n, e_aload7n, e_aload8n, e_aload9n, e_aload10n, e_aload0f, e_aload1f, e_aload2f, e_aload3f, e_aload4f, e_aload5f, e_aload6f, e_aload7f, e_aload8f, e_aload9f, e_aload10f, e_iinc0, e_iinc1, e_iinc2, e_iinc3, e_iinc4, e_iinc5, e_iinc6, e_iinc7, e_iinc8, e_iinc9, e_iinc10, xst_0, xst_1i, xst2_1i, xst_1r, xst2_1r, xst_1n, xst2_1n, xst_1f, xst2_1f, xst_1u, xst2_1u, xst_1l, xst2_1l, xst2_0, xst_s, xst2_s, e_istore, e_lstore, e_astore, e_astoreN, e_iadd, e_isub, e_imul, e_iand, e_ior, e_ixor, e_ishl, e_ishr, e_iushr, e_ladd, e_lsub, e_lmul, e_land, e_lor, e_lshl, e_lcmp, e_i2l, e_l2i, e_i2b, e_ineg, e_dupi, e_dupr, e_dup2, e_popi, e_popr, e_idiv, e_irem, e_ldiv, e_lrem, e_ifCond, e_if_icmp, e_ifnullR, e_ifnullN, e_ifnonnullR, e_ifnonnullN, e_goto, e_jsr, e_tsw, e_lsw, e_getfield, e_dload, e_fload, e_putfield, e_dstore, e_fstore, e_fstoreN, e_monitor, e_new, e_newarray, e_anewarray, e_mnew, e_alen, e_slen, e_schr, e_alenF, e_iaload, e_ialoadF, e_baload, e_laload, e_aaload, e_iastore, e_lastore, e_aastore, e_bastoreB, e_bastoreZ, e_copy, e_ireturnI, e_ireturnZ0, e_ireturnZ1, e_ireturnZb, e_lreturn, e_areturn, e_areturnA, e_areturnN, e_return, ofI, ofIm, ofJ, cat_i, cat_l, cat_r, cat_f, cat_n, xent_0, xent_i, xent_l, xent_r, xent_n, xent_f, xentry, xrf_s, xrf_n, List.getD_cons_zero, List.getD_cons_succ, List.length_cons, List.length_nil, List.cons_append, List.nil_append, List.append_nil, List.map_cons, List.map_nil, List.sum_cons, List.sum_nil, List.replicate, oT_s, oT_n, true_and, and_true, Nat.reduceAdd, Nat.reduceSub, Nat.reduceLeDiff, Nat.reduceEqDiff, Nat.reduceLT, Nat.reduceDiv, Nat.reduceMod, Nat.reduceMul, eq_self, ofN, nI_dec, nI_11, or_true, true_or, false_or, or_false, nI_e0, nI_0lt, Nat.succ_ne_zero, Nat.zero_lt_succ, lg_cmp_gt, lg_cmp_lt, lg_cmp_eq, nI_lt0, nI_add, pk_sub, pk_mul, Nat.add_sub_cancel, nI_clamp, vp_in_T, nI_ltI, nI_leI, nI_eqI, Nat.zero_add, Nat.add_zero, xc_eq, xc_ne, xc_lt, xc_ge, xc_gt, xc_le, bI_0, bI_0n, bI_n0, not_true_eq_false, not_false_eq_true, if_true, if_false, ite_true, ite_false, decide_true, decide_false, and_self, and_true, true_and, q0, v97, v94, v276, v116, zs_72 z0, zr_72_5 z0, (zw_73 z0).1, cA, zs_72 zA, c2, zs_72 z2, zr_72_5 z2, (zw_73 z2).1, i5, j_bitCount ha6, ep, r2, f9_2, f9_3, zs_72 zB, zr_72_5 zB, (zw_73 zB).1, e5B, r3B, cC, c4] <;> rfl
end FA
