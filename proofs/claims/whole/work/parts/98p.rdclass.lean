section CM
variable {L d : Nat} {xs : Nat → Int32} {h h1 : xH} {Q : xQ} {p o n w t k : Nat} {x y z fo xx : Int32} {T : Nat} {tp : Nat → Int32} {R : List (List Cl)} {σ σ' : Sn} {u u' : Nat} {H H' : Nat → Nat → Int32} {ι : Nat → Option Sn} {s s' f g : Nat → Int32}
variable {B : Nat → Nat} {a b c e m q v W n' a' j sm cl b' st : Nat} {ws os ws' os' : List Nat} {l : Nat}
/-! the class's machine keeps to the automaton -/
theorem stl_sP : ∀ ws os n m, n = ws.count 22 + m → (stl b ws os n).1 = (sP b ws os).1 ∧ (stl b ws os n).2.1 = (sP b ws os).2 ∧ (stl b ws os n).2.2 = (sP b ws os).1.count 22 + m := by
  intro ws
  induction ws with
  | nil => intro os n m e; exact ⟨rfl, rfl, e⟩
  | cons w ws ih =>
    intro os n m e
    rw [stl, sP]
    by_cases q : b ≤ bnd w
    · rw [if_pos q, if_pos q]
      refine ih (os ++ [w]) _ m ?_
      rw [List.count_cons] at e
      by_cases z : w = 22
      · subst z; rw [if_pos rfl]; simp at e; omega
      · rw [if_neg z]; simp [z] at e; exact e
    · rw [if_neg q, if_neg q]
      exact ⟨rfl, rfl, e⟩
theorem sP_c25 (hb : 1 ≤ b) : ∀ ws os, (sP b ws os).1.count 25 = ws.count 25 := by
  intro ws
  induction ws with
  | nil => intro os; rfl
  | cons w ws ih =>
    intro os
    rw [sP]
    by_cases q : b ≤ bnd w
    · have w25 : w ≠ 25 := by rintro rfl; rw [bnd_0] at q; omega
      rw [if_pos q, ih, List.count_cons_of_ne w25]
    · rw [if_neg q]
def CS (h : xH) (os ws : List Nat) (st sm cl n : Nat) : Prop := OuC h os ∧ WaC h ws ∧ xI h 7 4 = nI st ∧ (st ≠ 0 → xI h 7 5 = nI sm) ∧ xI h 7 6 = nI cl ∧ xI h 7 7 = nI (cn ws) ∧ xI h 7 8 = nI (ws.count 25) ∧ xI h 7 9 = nI n ∧ xI h 7 10 = nI 0
def RP (a : Nat) : Prop := a = 7 ∨ a = 8 ∨ a = 9
def RB (h h1 : xH) (r : Except Nat AS) : Prop := Fr RP h h1 ∧ match r with
  | .error f => xI h1 7 10 = nI f
  | .ok (os, ws, st, sm, cl, n) => CS h1 os ws st sm cl n
theorem OuC.s7 (ho : OuC h os) (hj : j ≠ 1) : OuC (setI h 7 j x) os := ⟨by rw [xI_sI, if_neg (fun z => hj z.2.symm)]; exact ho.1, fun i c hi => by rw [xI_s_ne (by decide)]; exact ho.2 i c hi⟩
theorem WaC.s7 (hw : WaC h ws) (hj : j ≠ 3) : WaC (setI h 7 j x) ws := ⟨by rw [xI_sI, if_neg (fun z => hj z.2.symm)]; exact hw.1, fun i c hi => by rw [xI_s_ne (by decide)]; exact hw.2 i c hi⟩
theorem CS.s4 (hc : CS h os ws st sm cl n) (h0 : st ≠ 0) : CS (setI h 7 4 (nI m)) os ws m sm cl n := by
  obtain ⟨c1, c2, c3, c4, c5, c6, c7, c8, c9⟩ := hc
  exact ⟨c1.s7 (by decide), c2.s7 (by decide), by rw [xI_sI, if_pos ⟨rfl, rfl⟩], fun _ => by rw [xI_sI, if_neg (by decide)]; exact c4 h0, by rw [xI_sI, if_neg (by decide)]; exact c5, by rw [xI_sI, if_neg (by decide)]; exact c6, by rw [xI_sI, if_neg (by decide)]; exact c7, by rw [xI_sI, if_neg (by decide)]; exact c8, by rw [xI_sI, if_neg (by decide)]; exact c9⟩
theorem CS.s5 (hc : CS h os ws st sm cl n) : CS (setI h 7 5 (nI m)) os ws st m cl n := by
  obtain ⟨c1, c2, c3, c4, c5, c6, c7, c8, c9⟩ := hc
  exact ⟨c1.s7 (by decide), c2.s7 (by decide), by rw [xI_sI, if_neg (by decide)]; exact c3, fun _ => by rw [xI_sI, if_pos ⟨rfl, rfl⟩], by rw [xI_sI, if_neg (by decide)]; exact c5, by rw [xI_sI, if_neg (by decide)]; exact c6, by rw [xI_sI, if_neg (by decide)]; exact c7, by rw [xI_sI, if_neg (by decide)]; exact c8, by rw [xI_sI, if_neg (by decide)]; exact c9⟩
theorem CS.s6 (hc : CS h os ws st sm cl n) : CS (setI h 7 6 (nI m)) os ws st sm m n := by
  obtain ⟨c1, c2, c3, c4, c5, c6, c7, c8, c9⟩ := hc
  exact ⟨c1.s7 (by decide), c2.s7 (by decide), by rw [xI_sI, if_neg (by decide)]; exact c3, fun z => by rw [xI_sI, if_neg (by decide)]; exact c4 z, by rw [xI_sI, if_pos ⟨rfl, rfl⟩], by rw [xI_sI, if_neg (by decide)]; exact c6, by rw [xI_sI, if_neg (by decide)]; exact c7, by rw [xI_sI, if_neg (by decide)]; exact c8, by rw [xI_sI, if_neg (by decide)]; exact c9⟩
theorem CS.s9 (hc : CS h os ws st sm cl n) : CS (setI h 7 9 (nI m)) os ws st sm cl m := by
  obtain ⟨c1, c2, c3, c4, c5, c6, c7, c8, c9⟩ := hc
  exact ⟨c1.s7 (by decide), c2.s7 (by decide), by rw [xI_sI, if_neg (by decide)]; exact c3, fun z => by rw [xI_sI, if_neg (by decide)]; exact c4 z, by rw [xI_sI, if_neg (by decide)]; exact c5, by rw [xI_sI, if_neg (by decide)]; exact c6, by rw [xI_sI, if_neg (by decide)]; exact c7, by rw [xI_sI, if_pos ⟨rfl, rfl⟩], by rw [xI_sI, if_neg (by decide)]; exact c9⟩
theorem CS.em (hc : CS h os ws st sm cl n) : CS (setI (setI h 8 os.length (nI c)) 7 1 (nI (os.length + 1))) (os ++ [c]) ws st sm cl n := by
  obtain ⟨c1, c2, c3, c4, c5, c6, c7, c8, c9⟩ := hc
  refine ⟨c1.snoc, WaC.s7 ⟨by rw [xI_s_ne (by decide)]; exact c2.1, fun i c hi => by rw [xI_s_ne (by decide)]; exact c2.2 i c hi⟩ (by decide), by rw [xI_sI, if_neg (by decide), xI_s_ne (by decide)]; exact c3, fun z => by rw [xI_sI, if_neg (by decide), xI_s_ne (by decide)]; exact c4 z, by rw [xI_sI, if_neg (by decide), xI_s_ne (by decide)]; exact c5, by rw [xI_sI, if_neg (by decide), xI_s_ne (by decide)]; exact c6, by rw [xI_sI, if_neg (by decide), xI_s_ne (by decide)]; exact c7, by rw [xI_sI, if_neg (by decide), xI_s_ne (by decide)]; exact c8, by rw [xI_sI, if_neg (by decide), xI_s_ne (by decide)]; exact c9⟩
theorem CS.aw (hc : CS h os ws st sm cl n) (e1 : m = cn (c :: ws)) (e2 : v = (c :: ws).count 25) {hx : xH} (f7 : ∀ j, j ≠ 7 → j ≠ 8 → xI hx 7 j = xI h 7 j) (g7 : xI hx 7 7 = nI m) (g8 : xI hx 7 8 = nI v) (r8 : xI hx 8 = xI h 8) (r9 : xI hx 9 = xI h 9) : CS (setI (setI hx 9 ws.length (nI c)) 7 3 (nI (ws.length + 1))) os (c :: ws) st sm cl n := by
  obtain ⟨c1, c2, c3, c4, c5, c6, c7, c8, c9⟩ := hc
  refine ⟨OuC.s7 ⟨by rw [xI_s_ne (by decide), f7 1 (by decide) (by decide)]; exact c1.1, fun i c hi => by rw [xI_s_ne (by decide), r8]; exact c1.2 i c hi⟩ (by decide), ⟨by rw [xI_sI, if_pos ⟨rfl, rfl⟩]; rfl, fun i c' hi => ?_⟩, by rw [xI_sI, if_neg (by decide), xI_s_ne (by decide), f7 4 (by decide) (by decide)]; exact c3, fun z => by rw [xI_sI, if_neg (by decide), xI_s_ne (by decide), f7 5 (by decide) (by decide)]; exact c4 z, by rw [xI_sI, if_neg (by decide), xI_s_ne (by decide), f7 6 (by decide) (by decide)]; exact c5, by rw [xI_sI, if_neg (by decide), xI_s_ne (by decide), g7, e1], by rw [xI_sI, if_neg (by decide), xI_s_ne (by decide), g8, e2], by rw [xI_sI, if_neg (by decide), xI_s_ne (by decide), f7 9 (by decide) (by decide)]; exact c8, by rw [xI_sI, if_neg (by decide), xI_s_ne (by decide), f7 10 (by decide) (by decide)]; exact c9⟩
  rw [xI_s_ne (by decide), xI_sI, List.length_cons]
  cases i with
  | zero => cases hi; rw [if_pos ⟨rfl, by omega⟩]
  | succ i =>
    have hi' : ws[i]? = some c' := hi
    have hl := (List.getElem?_eq_some_iff.mp hi').1
    rw [if_neg (fun z => by omega), show ws.length + 1 - 1 - (i + 1) = ws.length - 1 - i by omega, r9]
    exact c2.2 i c' hi'
theorem c_settle (hz : Bas h) (hc : CS h os ws st sm cl n) (hm : Mb ws) (hl : os.length + ws.length < 400) (hw : ws.length ≤ 64) (hcn : cn ws ≤ 10) (hb : 1 ≤ b) (hb2 : b < 100) : ∃ h1, Fr RP h h1 ∧ CS h1 (sP b ws os).2 (sP b ws os).1 st sm cl n ∧ ∀ Q, Call (pG L xs) pM (d + 2) 59 [.ref 7, .int (nI b)] h Q = Q none h1 := by
  obtain ⟨c1, c2, c3, c4, c5, c6, c7, c8, c9⟩ := id hc
  obtain ⟨h1, f1, k1, w1, o1, n1, s1⟩ := c_settle1 (L := L) (d := d) (xs := xs) (b := b) ws os (cn ws) h hz c2 c1 c6 (fun w hw => by have := hm w hw; omega) hw hl (by unfold cn; omega) (by omega) hb2
  obtain ⟨e1, e2, e3⟩ := stl_sP (b := b) ws os (cn ws) (ws.count 25) rfl
  rw [e1] at w1
  rw [e2] at o1
  rw [e3] at n1
  have e25 := sP_c25 hb ws os
  refine ⟨h1, f1.mono (fun a z => by unfold RP; omega), ⟨o1, w1, by rw [k1 4 (by decide) (by decide) (by decide)]; exact c3, fun z => by rw [k1 5 (by decide) (by decide) (by decide)]; exact c4 z, by rw [k1 6 (by decide) (by decide) (by decide)]; exact c5, by rw [n1]; unfold cn; rw [e25], by rw [k1 8 (by decide) (by decide) (by decide), e25]; exact c7, by rw [k1 9 (by decide) (by decide) (by decide)]; exact c8, by rw [k1 10 (by decide) (by decide) (by decide)]; exact c9⟩, fun Q => ?_⟩
  rw [← s1 Q]
  simp (disch := omega) only [m59, k59_0, e_iconst, e_lconst, e_null, e_ldc, e_iload0i, e_iload1i, e_iload2i, e_iload3i, e_iload4i, e_iload5i, e_iload6i, e_iload7i, e_iload8i, e_iload9i, e_iload10i, e_lload0l, e_lload1l, e_lload2l, e_lload3l, e_lload4l, e_lload5l, e_lload6l, e_lload7l, e_lload8l, e_lload9l, e_lload10l, e_aload0r, e_aload1r, e_aload2r, e_aload3r, e_aload4r, e_aload5r, e_aload6r, e_aload7r, e_aload8r, e_aload9r, e_aload10r, e_aload0n, e_aload1n, e_aload2n, e_aload3n, e_aload4n, e_aload5n, e_aload6n, e_aload7n, e_aload8n, e_aload9n, e_aload10n, e_aload0f, e_aload1f, e_aload2f, e_aload3f, e_aload4f, e_aload5f, e_aload6f, e_aload7f, e_aload8f, e_aload9f, e_aload10f, e_iinc0, e_iinc1, e_iinc2, e_iinc3, e_iinc4, e_iinc5, e_iinc6, e_iinc7, e_iinc8, e_iinc9, e_iinc10, xst_0, xst_1i, xst2_1i, xst_1r, xst2_1r, xst_1n, xst2_1n, xst_1f, xst2_1f, xst_1u, xst2_1u, xst_1l, xst2_1l, xst2_0, xst_s, xst2_s, e_istore, e_lstore, e_astore, e_astoreN, e_iadd, e_isub, e_imul, e_iand, e_ior, e_ixor, e_ishl, e_ishr, e_iushr, e_ladd, e_lsub, e_lmul, e_land, e_lor, e_lshl, e_lcmp, e_i2l, e_l2i, e_i2b, e_ineg, e_dupi, e_dupr, e_dup2, e_popi, e_popr, e_idiv, e_irem, e_ldiv, e_lrem, e_ifCond, e_if_icmp, e_ifnullR, e_ifnullN, e_ifnonnullR, e_ifnonnullN, e_goto, e_jsr, e_tsw, e_lsw, e_getfield, e_dload, e_fload, e_putfield, e_dstore, e_fstore, e_fstoreN, e_monitor, e_new, e_newarray, e_anewarray, e_mnew, e_alen, e_slen, e_schr, e_alenF, e_iaload, e_ialoadF, e_baload, e_laload, e_aaload, e_iastore, e_lastore, e_aastore, e_bastoreB, e_bastoreZ, e_copy, e_ireturnI, e_ireturnZ0, e_ireturnZ1, e_ireturnZb, e_lreturn, e_areturn, e_areturnA, e_areturnN, e_return, ofI, ofIm, ofJ, cat_i, cat_l, cat_r, cat_f, cat_n, xent_0, xent_i, xent_l, xent_r, xent_n, xent_f, xentry, xrf_s, xrf_n, List.getD_cons_zero, List.getD_cons_succ, List.length_cons, List.length_nil, List.cons_append, List.nil_append, List.append_nil, List.map_cons, List.map_nil, List.sum_cons, List.sum_nil, List.replicate, oT_s, oT_n, true_and, and_true, Nat.reduceAdd, Nat.reduceSub, Nat.reduceLeDiff, Nat.reduceEqDiff, Nat.reduceLT, Nat.reduceDiv, Nat.reduceMod, Nat.reduceMul, eq_self, ofN, nI_dec, nI_11, or_true, true_or, false_or, or_false, nI_e0, nI_0lt, Nat.succ_ne_zero, Nat.zero_lt_succ, lg_cmp_gt, lg_cmp_lt, lg_cmp_eq, nI_lt0, nI_add, pk_sub, pk_mul, Nat.add_sub_cancel, nI_clamp, vp_in_T, nI_ltI, nI_leI, nI_eqI, Nat.zero_add, Nat.add_zero, xc_eq, xc_ne, xc_lt, xc_ge, xc_gt, xc_le, bI_0, bI_0n, bI_n0, not_true_eq_false, not_false_eq_true, if_true, if_false, ite_true, ite_false, decide_true, decide_false, and_self, and_true, true_and]
theorem c_between (hz : Bas h) (hc : CS h os ws st sm cl n) (hm : Mb ws) (hch : Ch ws) (hl : os.length + ws.length < 400) (hcn : cn ws ≤ 10) (h0 : st ≠ 0) (h1' : 12 ≤ c) (h2' : c < 25) (h3' : c ≠ 22) : ∃ h1, Fr RP h h1 ∧ CS h1 (sP (bnd c) ws os).2 (c :: (sP (bnd c) ws os).1) m sm cl n ∧ ∀ Q, Call (pG L xs) pM (d + 3) 56 [.ref 7, .int (nI c), .int (nI m)] h Q = Q none h1 := by
  have b1 := bnd_1 h1' h2'
  have b6 := bnd_6 (c := c)
  have l1 := Ch_len ws hm hch
  have m6 := mT_6 (ws := ws)
  obtain ⟨hA, f1, s1, c1⟩ := c_settle (L := L) (d := d) (xs := xs) hz hc hm hl (by omega) hcn b1 (by omega)
  obtain ⟨i1, i2, i3, i4, i5⟩ := sP_iv (b := bnd c) ws os hm hch
  have zA := f1.bas hz
  have l2 := Ch_len _ i1 i2
  have m7 := mT_6 (ws := (sP (bnd c) ws os).1)
  have cb := fun h Q => c_binding (L := L) (d := d + 1) (xs := xs) (Q := Q) (h := h) (show c < 100 by omega)
  have ca := fun Q => c_await (L := L) (d := d + 1) (xs := xs) (Q := Q) (x := nI c) zA s1.2.1.1 (show (sP (bnd c) ws os).1.length < 64 by omega)
  have ec : cn (c :: (sP (bnd c) ws os).1) = cn (sP (bnd c) ws os).1 := by unfold cn; rw [List.count_cons_of_ne (by omega), List.count_cons_of_ne (by omega)]
  have e25 : (c :: (sP (bnd c) ws os).1).count 25 = (sP (bnd c) ws os).1.count 25 := by rw [List.count_cons_of_ne (by omega)]
  have s2 := s1.aw ec.symm e25.symm (hx := hA) (fun j _ _ => rfl) s1.2.2.2.2.2.1 s1.2.2.2.2.2.2.1 rfl rfl
  refine ⟨setI (setI (setI hA 9 (sP (bnd c) ws os).1.length (nI c)) 7 3 (nI ((sP (bnd c) ws os).1.length + 1))) 7 4 (nI m), f1.tr (Fr.tr (P := RP) (Fr.tr (P := RP) (Fr.sI (.inr (.inr rfl))) (Fr.sI (.inl rfl))) (Fr.sI (.inl rfl))), s2.s4 h0, fun Q => ?_⟩
  simp (disch := omega) only [m56, b56_0, e_iconst, e_lconst, e_null, e_ldc, e_iload0i, e_iload1i, e_iload2i, e_iload3i, e_iload4i, e_iload5i, e_iload6i, e_iload7i, e_iload8i, e_iload9i, e_iload10i, e_lload0l, e_lload1l, e_lload2l, e_lload3l, e_lload4l, e_lload5l, e_lload6l, e_lload7l, e_lload8l, e_lload9l, e_lload10l, e_aload0r, e_aload1r, e_aload2r, e_aload3r, e_aload4r, e_aload5r, e_aload6r, e_aload7r, e_aload8r, e_aload9r, e_aload10r, e_aload0n, e_aload1n, e_aload2n, e_aload3n, e_aload4n, e_aload5n, e_aload6n, e_aload7n, e_aload8n, e_aload9n, e_aload10n, e_aload0f, e_aload1f, e_aload2f, e_aload3f, e_aload4f, e_aload5f, e_aload6f, e_aload7f, e_aload8f, e_aload9f, e_aload10f, e_iinc0, e_iinc1, e_iinc2, e_iinc3, e_iinc4, e_iinc5, e_iinc6, e_iinc7, e_iinc8, e_iinc9, e_iinc10, xst_0, xst_1i, xst2_1i, xst_1r, xst2_1r, xst_1n, xst2_1n, xst_1f, xst2_1f, xst_1u, xst2_1u, xst_1l, xst2_1l, xst2_0, xst_s, xst2_s, e_istore, e_lstore, e_astore, e_astoreN, e_iadd, e_isub, e_imul, e_iand, e_ior, e_ixor, e_ishl, e_ishr, e_iushr, e_ladd, e_lsub, e_lmul, e_land, e_lor, e_lshl, e_lcmp, e_i2l, e_l2i, e_i2b, e_ineg, e_dupi, e_dupr, e_dup2, e_popi, e_popr, e_idiv, e_irem, e_ldiv, e_lrem, e_ifCond, e_if_icmp, e_ifnullR, e_ifnullN, e_ifnonnullR, e_ifnonnullN, e_goto, e_jsr, e_tsw, e_lsw, e_getfield, e_dload, e_fload, e_putfield, e_dstore, e_fstore, e_fstoreN, e_monitor, e_new, e_newarray, e_anewarray, e_mnew, e_alen, e_slen, e_schr, e_alenF, e_iaload, e_ialoadF, e_baload, e_laload, e_aaload, e_iastore, e_lastore, e_aastore, e_bastoreB, e_bastoreZ, e_copy, e_ireturnI, e_ireturnZ0, e_ireturnZ1, e_ireturnZb, e_lreturn, e_areturn, e_areturnA, e_areturnN, e_return, ofI, ofIm, ofJ, cat_i, cat_l, cat_r, cat_f, cat_n, xent_0, xent_i, xent_l, xent_r, xent_n, xent_f, xentry, xrf_s, xrf_n, List.getD_cons_zero, List.getD_cons_succ, List.length_cons, List.length_nil, List.cons_append, List.nil_append, List.append_nil, List.map_cons, List.map_nil, List.sum_cons, List.sum_nil, List.replicate, oT_s, oT_n, true_and, and_true, Nat.reduceAdd, Nat.reduceSub, Nat.reduceLeDiff, Nat.reduceEqDiff, Nat.reduceLT, Nat.reduceDiv, Nat.reduceMod, Nat.reduceMul, eq_self, ofN, nI_dec, nI_11, or_true, true_or, false_or, or_false, nI_e0, nI_0lt, Nat.succ_ne_zero, Nat.zero_lt_succ, lg_cmp_gt, lg_cmp_lt, lg_cmp_eq, nI_lt0, nI_add, pk_sub, pk_mul, Nat.add_sub_cancel, nI_clamp, vp_in_T, nI_ltI, nI_leI, nI_eqI, Nat.zero_add, Nat.add_zero, xc_eq, xc_ne, xc_lt, xc_ge, xc_gt, xc_le, bI_0, bI_0n, bI_n0, not_true_eq_false, not_false_eq_true, if_true, if_false, ite_true, ite_false, decide_true, decide_false, and_self, and_true, true_and, zs_7 hz, zr_7_0 hz, zr_7_2 hz, v42, v59, v60, cb, c1, zs_7 zA, ca, xis_sI, f6_4]
theorem c_isW (hz : Bas h) (hT : TC h T B) (hA : At h T B p) {v : UInt32} (hs : SL v l (csL v)) (hl : l < 8) (hcs : ∀ i, i < l → 1 ≤ csL v i ∧ csL v i < 256) : Call (pG L xs) pM (d + 2) 76 [.ref 1, .float v] h Q = Q (some (.int (bI (isW B T p (pkW (csL v) 0 l))))) h := by
  have hTb : ∀ i, i < T → B i < 256 := fun i hi => (hT.2.2 i hi).1
  rw [isW_mt hTb hl (fun i hi => by rw [Nat.zero_add]; exact hcs i hi)]
  exact c_isWord hz hT hs hA
theorem c_w2 (hz : Bas h) (hT : TC h T B) (hA : At h T B p) : Call (pG L xs) pM (d + 2) 76 [.ref 1, .float 2] h Q = Q (some (.int (bI (isW B T p 26479)))) h := by
  have := c_isW (L := L) (d := d) (xs := xs) (Q := Q) hz hT hA sl_2 (by decide) (by decide +kernel)
  rwa [show pkW (csL 2) 0 2 = 26479 by decide +kernel] at this
theorem c_w4 (hz : Bas h) (hT : TC h T B) (hA : At h T B p) : Call (pG L xs) pM (d + 2) 76 [.ref 1, .float 4] h Q = Q (some (.int (bI (isW B T p 7237492)))) h := by
  have := c_isW (L := L) (d := d) (xs := xs) (Q := Q) hz hT hA sl_4 (by decide) (by decide +kernel)
  rwa [show pkW (csL 4) 0 3 = 7237492 by decide +kernel] at this
theorem c_w5 (hz : Bas h) (hT : TC h T B) (hA : At h T B p) : Call (pG L xs) pM (d + 2) 76 [.ref 1, .float 5] h Q = Q (some (.int (bI (isW B T p 26982)))) h := by
  have := c_isW (L := L) (d := d) (xs := xs) (Q := Q) hz hT hA sl_5 (by decide) (by decide +kernel)
  rwa [show pkW (csL 5) 0 2 = 26982 by decide +kernel] at this
theorem c_w6 (hz : Bas h) (hT : TC h T B) (hA : At h T B p) : Call (pG L xs) pM (d + 2) 76 [.ref 1, .float 6] h Q = Q (some (.int (bI (isW B T p 6385252)))) h := by
  have := c_isW (L := L) (d := d) (xs := xs) (Q := Q) hz hT hA sl_6 (by decide) (by decide +kernel)
  rwa [show pkW (csL 6) 0 3 = 6385252 by decide +kernel] at this
theorem c_w7 (hz : Bas h) (hT : TC h T B) (hA : At h T B p) : Call (pG L xs) pM (d + 2) 76 [.ref 1, .float 7] h Q = Q (some (.int (bI (isW B T p 28530)))) h := by
  have := c_isW (L := L) (d := d) (xs := xs) (Q := Q) hz hT hA sl_7 (by decide) (by decide +kernel)
  rwa [show pkW (csL 7) 0 2 = 28530 by decide +kernel] at this
theorem pk_3 : pkW (csL 3) 0 6 = 123581014175598 ∧ pkW (csL 3) 7 4 = 2003399784 ∧ pkW (csL 3) 12 5 = 418431069797 ∧ pkW (csL 3) 18 5 = 431198598248 ∧ pkW (csL 3) 24 6 = 114784769370228 ∧ pkW (csL 3) 31 5 = 483006772069 ∧ pkW (csL 3) 37 3 = 6710629 ∧ pkW (csL 3) 41 6 = 127991794264947 ∧ pkW (csL 3) 48 4 = 1936026726 ∧ pkW (csL 3) 53 4 = 1751478885 ∧ pkW (csL 3) 58 4 = 1870030194 ∧ pkW (csL 3) 63 3 = 6578553 := by decide +kernel
theorem cl_3 : ∀ i, i < 66 → 32 = csL 3 i ∨ (1 ≤ csL 3 i ∧ csL 3 i < 256) := by decide +kernel
theorem cl_3' : ∀ i, i < 66 → 1 ≤ csL 3 i ∧ csL 3 i < 256 := by decide +kernel
theorem wd_eq (hT : ∀ i, i < T → B i < 256) : (if kdF B T p = 257 then waF (csL 3) 66 (fun f m => mtB (csL 3) f m B p (afF B T p)) (66 + 1) 0 0 0 else none) = wdF B T p := by
  have key : ∀ f0 m, m < 8 → f0 + m ≤ 66 → isW B T p (pkW (csL 3) f0 m) = (decide (kdF B T p = 257) && mtB (csL 3) f0 m B p (afF B T p)) := fun f0 m h1 h2 => isW_mt hT h1 (fun i hi => cl_3' _ (by omega))
  obtain ⟨p0, p1, p2, p3, p4, p5, p6, p7, p8, p9, p10, p11⟩ := pk_3
  unfold wdF
  rw [← p0, ← p1, ← p2, ← p3, ← p4, ← p5, ← p6, ← p7, ← p8, ← p9, ← p10, ← p11]
  rw [key 0 6 (by decide) (by decide), key 7 4 (by decide) (by decide), key 12 5 (by decide) (by decide), key 18 5 (by decide) (by decide), key 24 6 (by decide) (by decide), key 31 5 (by decide) (by decide), key 37 3 (by decide) (by decide), key 41 6 (by decide) (by decide), key 48 4 (by decide) (by decide), key 53 4 (by decide) (by decide), key 58 4 (by decide) (by decide), key 63 3 (by decide) (by decide), wa_3]
  by_cases q : kdF B T p = 257
  · simp only [if_pos q, decide_eq_true q, Bool.true_and]
  · simp only [if_neg q, decide_eq_false q, Bool.false_and, Bool.false_eq_true, if_false]
end CM
