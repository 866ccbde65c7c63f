section HI
variable {L d : Nat} {xs : Nat → Int32} {h h1 : xH} {Q : xQ} {p o n w t k : Nat} {x y z : Int32} {T : Nat} {tp : Nat → Int32} {R : List (List Cl)} {σ σ' : Sn} {u u' : Nat} {H H' : Nat → Nat → Int32} {ι : Nat → Option Sn} {s s' f g : Nat → Int32}
theorem cpy_0 {a b : Nat} : va_cpy f g a b 0 = g := by
  funext i; unfold va_cpy; rw [if_neg (by omega)]
theorem cpy_s {a b : Nat} : upd (va_cpy f g a b k) (b + k) (f (a + k)) = va_cpy f g a b (k + 1) := by
  funext i
  unfold upd va_cpy
  by_cases e : i = b + k
  · subst e
    rw [if_pos rfl, if_pos (by omega)]
    congr 1; omega
  · rw [if_neg e]
    by_cases q : b ≤ i ∧ i < b + k
    · rw [if_pos q, if_pos (by omega)]
    · rw [if_neg q, if_neg (by omega)]
theorem copyW_wS : copyW (wS s) (wS s') = wS s := by
  refine Prod.ext ?_ ?_
  · funext k
    unfold copyW wS upd
    by_cases e5 : k = 5
    · subst e5; rfl
    · by_cases e4 : k = 4
      · subst e4; rfl
      · by_cases e3 : k = 3
        · subst e3; rfl
        · by_cases e2 : k = 2
          · subst e2; rfl
          · by_cases e1 : k = 1
            · subst e1; rfl
            · by_cases e0 : k = 0
              · subst e0; rfl
              · simp [e0, e1, e2, e3, e4, e5]
  · funext i
    show va_cpy (trS s) (trS s') 0 0 54 i = trS s i
    unfold va_cpy
    split
    · congr 1; omega
    · unfold trS
      rw [if_neg (by omega), if_neg (by omega), if_neg (by omega), if_neg (by omega), if_neg (by omega), if_neg (by omega), if_neg (by omega), if_neg (by omega)]
theorem c_copyS {w2 t2 : Nat} (hW : WOK h w t) (hV : WOK h w2 t2) (hww : w ≠ w2) (htt : t ≠ t2) (hg : getW h w2 t2 = wS s) (ha : WAny h w t) (hto : s 0 = 0 ∨ s 0 = 1) : Call (pG L xs) pM (d + 1) 97 [.ref w, .ref w2] h Q = Q none (putW h w t (wS s)) := by
  obtain ⟨s', hs'⟩ := ha
  rw [w_copyFrom hW hV hww htt (by rw [(getW_f hg).1]; exact hto), hg, hs', copyW_wS]
theorem Fr.put {P : Nat → Prop} {S : WS} (h1' : P w) (h2' : P t) : Fr P h (putW h w t S) := (Fr.row h1').tr (Fr.row h2')
/-- the worlds of the history -/
theorem hk_r : ∀ i, i < 20 → xR hB 21 i = some (22 + 2 * i) := by decide +kernel
theorem hk_w : ∀ i, i < 20 → (hB.2.1 (22 + 2 * i)).1 = .inr 10 ∧ xR hB (22 + 2 * i) 6 = some (23 + 2 * i) ∧ (hB.2.1 (23 + 2 * i)).1 = .inl .int ∧ (hB.2.1 (23 + 2 * i)).2 = 54 := by decide +kernel
theorem hk_R (hz : Bas h) {i : Nat} (hi : i < 20) : xR h 21 i = some (22 + 2 * i) := hz.r (by decide) (by decide) (hk_r i hi)
theorem hk_W (hz : Bas h) {i : Nat} (hi : i < 20) : WOK h (22 + 2 * i) (23 + 2 * i) := by
  obtain ⟨a1, a2, a3, a4⟩ := hk_w i hi
  exact ⟨hz.is (by omega) a1, hz.r (by omega) (by omega) a2, hz.is (by omega) a3, hz.ln (by omega) a4⟩
theorem aal_21 (hz : Bas h) : (∃ ty, xis h 21 (.inl ty) ∧ (ty = FieldType.array .int ∨ ∃ c, ty = FieldType.object ((pG L xs).2.2.2.2.1 c) ∧ c < 64)) = True := eq_true ⟨_, zs_21 hz, .inr ⟨10, rfl, by decide⟩⟩
def keepH (H : Nat → Nat → Int32) (s : Nat → Int32) (j : Nat) : Nat → Int32 := if j = 0 then s else H (j - 1)
def keepU (u : Nat) : Nat := if u < 20 then u + 1 else 20
theorem HInv.keep (hv : HInv s u H) (hS : SOK n s) (he : ∃ e, e ≤ 999 ∧ s 10 = nI e) : HInv s (keepU u) (keepH H s) := by
  have := hv.1
  refine ⟨by unfold keepU; split <;> omega, fun j hj => ?_⟩
  unfold keepH
  by_cases q : j = 0
  · rw [if_pos q]; exact ⟨⟨n, hS⟩, he, fun i _ => rfl⟩
  · rw [if_neg q]
    refine hv.2 (j - 1) ?_
    unfold keepU at hj
    split at hj <;> omega
theorem C_keep (hz : Bas h) (hh : HistC h u H) (hu : u ≤ 20) (hg : getW h 14 15 = wS s) (hto : s 0 = 0 ∨ s 0 = 1) : ∃ h1, Fr (fun a => 20 ≤ a ∧ a ≤ 61) h h1 ∧ HistC h1 (keepU u) (keepH H s) ∧ ∀ Q, Call (pG L xs) pM (d + 2) 24 [.ref 20, .ref 14] h Q = Q none h1 := by
  obtain ⟨nx, b1, b2, b3, b4, b5⟩ := hh
  have hW := hk_W hz b1
  have f1 : Fr (fun a => 20 ≤ a ∧ a ≤ 61) h (putW h (22 + 2 * nx) (23 + 2 * nx) (wS s)) := Fr.put ⟨by omega, by omega⟩ ⟨by omega, by omega⟩
  have e20 : xI (putW h (22 + 2 * nx) (23 + 2 * nx) (wS s)) 20 = xI h 20 := by unfold putW; rw [xI_row_ne _ _ (by omega), xI_row_ne _ _ (by omega)]
  have gW : ∀ i, i < 20 → getW (putW h (22 + 2 * nx) (23 + 2 * nx) (wS s)) (22 + 2 * i) (23 + 2 * i) = if i = nx then wS s else getW h (22 + 2 * i) (23 + 2 * i) := by
    intro i hi
    by_cases q : i = nx
    · subst q; rw [if_pos rfl, getW_put (by omega)]
    · rw [if_neg q]; unfold getW putW
      rw [xI_row_ne _ _ (by omega), xI_row_ne _ _ (by omega), xI_row_ne _ _ (by omega), xI_row_ne _ _ (by omega)]
  let nx' := if nx + 1 < 20 then nx + 1 else 0
  refine ⟨setI (setI (putW h (22 + 2 * nx) (23 + 2 * nx) (wS s)) 20 1 (nI nx')) 20 2 (nI (keepU u)), (f1.tr (Fr.sI (by omega))).tr (Fr.sI (by omega)), ⟨nx', ?_, ?_, ?_, ?_, ?_⟩, fun Q => ?_⟩
  · show (if nx + 1 < 20 then nx + 1 else 0) < 20
    split <;> omega
  · rw [setI_row, xI_row_eq, upd_ne _ _ (by decide), setI_row, xI_row_eq, upd_eq]
  · rw [setI_row, xI_row_eq, upd_eq]
  · intro i hi
    have := gW i hi
    unfold WAny getW at *
    rw [setI_row, xI_row_ne _ _ (by omega), xI_row_ne _ _ (by omega), setI_row, xI_row_ne _ _ (by omega), xI_row_ne _ _ (by omega), this]
    split
    · exact ⟨s, rfl⟩
    · exact b4 i hi
  · intro j hj
    have hj2 : j < 20 := by unfold keepU at hj; split at hj <;> omega
    have g1 := gW ((nx' + 19 - j) % 20) (Nat.mod_lt _ (by decide))
    have e1 : (nx' + 19 - j) % 20 = if j = 0 then nx else (nx + 19 - (j - 1)) % 20 := by
      show ((if nx + 1 < 20 then nx + 1 else 0) + 19 - j) % 20 = _
      split <;> split <;> omega
    unfold getW at *
    rw [setI_row, xI_row_ne _ _ (by omega), xI_row_ne _ _ (by omega), setI_row, xI_row_ne _ _ (by omega), xI_row_ne _ _ (by omega), g1, e1]
    unfold keepH
    by_cases q : j = 0
    · rw [if_pos q, if_pos q, if_pos rfl]
    · rw [if_neg q, if_neg q, if_neg (by omega)]
      refine b5 (j - 1) ?_
      unfold keepU at hj
      split at hj <;> omega
  · have e21 := hk_R hz b1
    have cp := fun Q => c_copyS (Q := Q) (L := L) (d := d) (xs := xs) hW (zw_14 hz) (by omega) (by omega) hg (b4 nx b1) hto
    have z20 : xis (putW h (22 + 2 * nx) (23 + 2 * nx) (wS s)) 20 (.inr 3) := zs_20 hz
    have hmin : (if u + 1 < 20 then nI (u + 1) else nI 20) = nI (keepU u) := by
      unfold keepU
      by_cases q : u + 1 < 20
      · rw [if_pos q, if_pos (by omega)]
      · rw [if_neg q]
        by_cases q2 : u < 20
        · rw [if_pos q2]; congr 1; omega
        · rw [if_neg q2]
    by_cases q : nx + 1 < 20
    · simp (disch := omega) only [m24, b24_0, k24_1, b24_1, k24_2, b24_2, e_iconst, e_lconst, e_null, e_ldc, e_iload0i, e_iload1i, e_iload2i, e_iload3i, e_iload4i, e_iload5i, e_iload6i, e_iload7i, e_iload8i, e_iload9i, e_iload10i, e_lload0l, e_lload1l, e_lload2l, e_lload3l, e_lload4l, e_lload5l, e_lload6l, e_lload7l, e_lload8l, e_lload9l, e_lload10l, e_aload0r, e_aload1r, e_aload2r, e_aload3r, e_aload4r, e_aload5r, e_aload6r, e_aload7r, e_aload8r, e_aload9r, e_aload10r, e_aload0n, e_aload1n, e_aload2n, e_aload3n, e_aload4n, e_aload5n, e_aload6n, e_aload7n, e_aload8n, e_aload9n, e_aload10n, e_aload0f, e_aload1f, e_aload2f, e_aload3f, e_aload4f, e_aload5f, e_aload6f, e_aload7f, e_aload8f, e_aload9f, e_aload10f, e_iinc0, e_iinc1, e_iinc2, e_iinc3, e_iinc4, e_iinc5, e_iinc6, e_iinc7, e_iinc8, e_iinc9, e_iinc10, xst_0, xst_1i, xst2_1i, xst_1r, xst2_1r, xst_1n, xst2_1n, xst_1f, xst2_1f, xst_1u, xst2_1u, xst_1l, xst2_1l, xst2_0, xst_s, xst2_s, e_istore, e_lstore, e_astore, e_astoreN, e_iadd, e_isub, e_imul, e_iand, e_ior, e_ixor, e_ishl, e_ishr, e_iushr, e_ladd, e_lsub, e_lmul, e_land, e_lor, e_lshl, e_lcmp, e_i2l, e_l2i, e_i2b, e_ineg, e_dupi, e_dupr, e_dup2, e_popi, e_popr, e_idiv, e_irem, e_ldiv, e_lrem, e_ifCond, e_if_icmp, e_ifnullR, e_ifnullN, e_ifnonnullR, e_ifnonnullN, e_goto, e_jsr, e_tsw, e_lsw, e_getfield, e_dload, e_fload, e_putfield, e_dstore, e_fstore, e_fstoreN, e_monitor, e_new, e_newarray, e_anewarray, e_mnew, e_alen, e_slen, e_schr, e_alenF, e_iaload, e_ialoadF, e_baload, e_laload, e_aaload, e_iastore, e_lastore, e_aastore, e_bastoreB, e_bastoreZ, e_copy, e_ireturnI, e_ireturnZ0, e_ireturnZ1, e_ireturnZb, e_lreturn, e_areturn, e_areturnA, e_areturnN, e_return, ofI, ofIm, ofJ, cat_i, cat_l, cat_r, cat_f, cat_n, xent_0, xent_i, xent_l, xent_r, xent_n, xent_f, xentry, xrf_s, xrf_n, List.getD_cons_zero, List.getD_cons_succ, List.length_cons, List.length_nil, List.cons_append, List.nil_append, List.append_nil, List.map_cons, List.map_nil, List.sum_cons, List.sum_nil, List.replicate, oT_s, oT_n, true_and, and_true, Nat.reduceAdd, Nat.reduceSub, Nat.reduceLeDiff, Nat.reduceEqDiff, Nat.reduceLT, Nat.reduceDiv, Nat.reduceMod, Nat.reduceMul, eq_self, ofN, nI_dec, nI_11, or_true, true_or, false_or, or_false, nI_e0, nI_0lt, Nat.succ_ne_zero, Nat.zero_lt_succ, lg_cmp_gt, lg_cmp_lt, lg_cmp_eq, nI_lt0, nI_add, pk_sub, pk_mul, Nat.add_sub_cancel, nI_clamp, vp_in_T, nI_ltI, nI_leI, nI_eqI, Nat.zero_add, Nat.add_zero, xc_eq, xc_ne, xc_lt, xc_ge, xc_gt, xc_le, bI_0, bI_0n, bI_n0, not_true_eq_false, not_false_eq_true, if_true, if_false, ite_true, ite_false, decide_true, decide_false, and_self, and_true, true_and, zs_20 hz, zr_20_0 hz, zs_21 hz, zl_21 hz, zr_21_0 hz, zr_21_1 hz, zr_21_2 hz, zr_21_3 hz, zr_21_4 hz, zr_21_5 hz, zr_21_6 hz, zr_21_7 hz, zr_21_8 hz, zr_21_9 hz, zr_21_10 hz, zr_21_11 hz, zr_21_12 hz, zr_21_13 hz, zr_21_14 hz, zr_21_15 hz, zr_21_16 hz, zr_21_17 hz, zr_21_18 hz, zr_21_19 hz, v97, v279, aal_21 hz, j_min, cp, b2, b3, e21, (hW).1, e20, z20, xis_sI, xR_sI, xI_sI, q, f3_1, f3_2, hmin, nx']
    · simp (disch := omega) only [m24, b24_0, k24_1, b24_1, k24_2, b24_2, e_iconst, e_lconst, e_null, e_ldc, e_iload0i, e_iload1i, e_iload2i, e_iload3i, e_iload4i, e_iload5i, e_iload6i, e_iload7i, e_iload8i, e_iload9i, e_iload10i, e_lload0l, e_lload1l, e_lload2l, e_lload3l, e_lload4l, e_lload5l, e_lload6l, e_lload7l, e_lload8l, e_lload9l, e_lload10l, e_aload0r, e_aload1r, e_aload2r, e_aload3r, e_aload4r, e_aload5r, e_aload6r, e_aload7r, e_aload8r, e_aload9r, e_aload10r, e_aload0n, e_aload1n, e_aload2n, e_aload3n, e_aload4n, e_aload5n, e_aload6n, e_aload7n, e_aload8n, e_aload9n, e_aload10n, e_aload0f, e_aload1f, e_aload2f, e_aload3f, e_aload4f, e_aload5f, e_aload6f, e_aload7f, e_aload8f, e_aload9f, e_aload10f, e_iinc0, e_iinc1, e_iinc2, e_iinc3, e_iinc4, e_iinc5, e_iinc6, e_iinc7, e_iinc8, e_iinc9, e_iinc10, xst_0, xst_1i, xst2_1i, xst_1r, xst2_1r, xst_1n, xst2_1n, xst_1f, xst2_1f, xst_1u, xst2_1u, xst_1l, xst2_1l, xst2_0, xst_s, xst2_s, e_istore, e_lstore, e_astore, e_astoreN, e_iadd, e_isub, e_imul, e_iand, e_ior, e_ixor, e_ishl, e_ishr, e_iushr, e_ladd, e_lsub, e_lmul, e_land, e_lor, e_lshl, e_lcmp, e_i2l, e_l2i, e_i2b, e_ineg, e_dupi, e_dupr, e_dup2, e_popi, e_popr, e_idiv, e_irem, e_ldiv, e_lrem, e_ifCond, e_if_icmp, e_ifnullR, e_ifnullN, e_ifnonnullR, e_ifnonnullN, e_goto, e_jsr, e_tsw, e_lsw, e_getfield, e_dload, e_fload, e_putfield, e_dstore, e_fstore, e_fstoreN, e_monitor, e_new, e_newarray, e_anewarray, e_mnew, e_alen, e_slen, e_schr, e_alenF, e_iaload, e_ialoadF, e_baload, e_laload, e_aaload, e_iastore, e_lastore, e_aastore, e_bastoreB, e_bastoreZ, e_copy, e_ireturnI, e_ireturnZ0, e_ireturnZ1, e_ireturnZb, e_lreturn, e_areturn, e_areturnA, e_areturnN, e_return, ofI, ofIm, ofJ, cat_i, cat_l, cat_r, cat_f, cat_n, xent_0, xent_i, xent_l, xent_r, xent_n, xent_f, xentry, xrf_s, xrf_n, List.getD_cons_zero, List.getD_cons_succ, List.length_cons, List.length_nil, List.cons_append, List.nil_append, List.append_nil, List.map_cons, List.map_nil, List.sum_cons, List.sum_nil, List.replicate, oT_s, oT_n, true_and, and_true, Nat.reduceAdd, Nat.reduceSub, Nat.reduceLeDiff, Nat.reduceEqDiff, Nat.reduceLT, Nat.reduceDiv, Nat.reduceMod, Nat.reduceMul, eq_self, ofN, nI_dec, nI_11, or_true, true_or, false_or, or_false, nI_e0, nI_0lt, Nat.succ_ne_zero, Nat.zero_lt_succ, lg_cmp_gt, lg_cmp_lt, lg_cmp_eq, nI_lt0, nI_add, pk_sub, pk_mul, Nat.add_sub_cancel, nI_clamp, vp_in_T, nI_ltI, nI_leI, nI_eqI, Nat.zero_add, Nat.add_zero, xc_eq, xc_ne, xc_lt, xc_ge, xc_gt, xc_le, bI_0, bI_0n, bI_n0, not_true_eq_false, not_false_eq_true, if_true, if_false, ite_true, ite_false, decide_true, decide_false, and_self, and_true, true_and, zs_20 hz, zr_20_0 hz, zs_21 hz, zl_21 hz, zr_21_0 hz, zr_21_1 hz, zr_21_2 hz, zr_21_3 hz, zr_21_4 hz, zr_21_5 hz, zr_21_6 hz, zr_21_7 hz, zr_21_8 hz, zr_21_9 hz, zr_21_10 hz, zr_21_11 hz, zr_21_12 hz, zr_21_13 hz, zr_21_14 hz, zr_21_15 hz, zr_21_16 hz, zr_21_17 hz, zr_21_18 hz, zr_21_19 hz, v97, v279, aal_21 hz, j_min, cp, b2, b3, e21, (hW).1, e20, z20, xis_sI, xR_sI, xI_sI, q, f3_1, f3_2, hmin, nx']
end HI
