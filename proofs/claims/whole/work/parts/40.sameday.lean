section SD
variable {L d : Nat} {xs : Nat → Int32} {h : xH} {Q : xQ} {p o n : Nat} {x y z : Int32}
/-- the reference's whole day -/
def dayS (cho : (Nat → Int32) → Nat → Option Nat) (n : Nat) (s c : Nat → Int32) : (Nat → Int32) × (Nat → Int32) × Nat := (upd (forF (turnS cho) 0 n (s, c, 0)).1 10 ((forF (turnS cho) 0 n (s, c, 0)).1 10 + nI 1), (forF (turnS cho) 0 n (s, c, 0)).2)
theorem s_passes (hz : Bas h) (hn : n ≤ 6) {cho : (Nat → Int32) → Nat → Option Nat} (hC : ChoR L xs (d + 5) n h cho) {s c : Nat → Int32} {h0 : xH} (hs : RSt h s c h0) (hS : SOK n s) : ∃ h1, RSt h (dayS cho n s c).1 (dayS cho n s c).2.1 h1 ∧ ∀ Q, Call (pG L xs) pM (d + 6) 223 [.ref 127] h0 Q = Q (some (.int (nI (dayS cho n s c).2.2))) h1 := by
  obtain ⟨h1, g1, g2⟩ := passes_loop hz hn hC n 0 s c 0 h0 hs hS (Nat.zero_add n) (by omega)
  have hz1 := g1.bas hz
  have e1 := g1.2.2.2.1
  refine ⟨rowI h1 137 (dayS cho n s c).1, g1.s, fun Q => ?_⟩
  simp (disch := omega) only [m223, b223_0, e_iconst, e_lconst, e_null, e_ldc, e_iload0i, e_iload1i, e_iload2i, e_iload3i, e_iload4i, e_iload5i, e_iload6i, e_iload7i, e_iload8i, e_iload9i, e_iload10i, e_lload0l, e_lload1l, e_lload2l, e_lload3l, e_lload4l, e_lload5l, e_lload6l, e_lload7l, e_lload8l, e_lload9l, e_lload10l, e_aload0r, e_aload1r, e_aload2r, e_aload3r, e_aload4r, e_aload5r, e_aload6r, e_aload7r, e_aload8r, e_aload9r, e_aload10r, e_aload0n, e_aload1n, e_aload2n, e_aload3n, e_aload4n, e_aload5n, e_aload6n, e_aload7n, e_aload8n, e_aload9n, e_aload10n, e_aload0f, e_aload1f, e_aload2f, e_aload3f, e_aload4f, e_aload5f, e_aload6f, e_aload7f, e_aload8f, e_aload9f, e_aload10f, e_iinc0, e_iinc1, e_iinc2, e_iinc3, e_iinc4, e_iinc5, e_iinc6, e_iinc7, e_iinc8, e_iinc9, e_iinc10, xst_0, xst_1i, xst2_1i, xst_1r, xst2_1r, xst_1n, xst2_1n, xst_1f, xst2_1f, xst_1u, xst2_1u, xst_1l, xst2_1l, xst2_0, xst_s, xst2_s, e_istore, e_lstore, e_astore, e_astoreN, e_iadd, e_isub, e_imul, e_iand, e_ior, e_ixor, e_ishl, e_ishr, e_iushr, e_ladd, e_lsub, e_lmul, e_land, e_lor, e_lshl, e_lcmp, e_i2l, e_l2i, e_i2b, e_ineg, e_dupi, e_dupr, e_dup2, e_popi, e_popr, e_idiv, e_irem, e_ldiv, e_lrem, e_ifCond, e_if_icmp, e_ifnullR, e_ifnullN, e_ifnonnullR, e_ifnonnullN, e_goto, e_jsr, e_tsw, e_lsw, e_getfield, e_dload, e_fload, e_putfield, e_dstore, e_fstore, e_fstoreN, e_monitor, e_new, e_newarray, e_anewarray, e_mnew, e_alen, e_slen, e_schr, e_alenF, e_iaload, e_ialoadF, e_baload, e_laload, e_aaload, e_iastore, e_lastore, e_aastore, e_bastoreB, e_bastoreZ, e_copy, e_ireturnI, e_ireturnZ0, e_ireturnZ1, e_ireturnZb, e_lreturn, e_areturn, e_areturnA, e_areturnN, e_return, ofI, ofIm, ofJ, cat_i, cat_l, cat_r, cat_f, cat_n, xent_0, xent_i, xent_l, xent_r, xent_n, xent_f, xentry, xrf_s, xrf_n, List.getD_cons_zero, List.getD_cons_succ, List.length_cons, List.length_nil, List.cons_append, List.nil_append, List.append_nil, List.map_cons, List.map_nil, List.sum_cons, List.sum_nil, List.replicate, oT_s, oT_n, true_and, and_true, Nat.reduceAdd, Nat.reduceSub, Nat.reduceLeDiff, Nat.reduceEqDiff, Nat.reduceLT, Nat.reduceDiv, Nat.reduceMod, Nat.reduceMul, eq_self, ofN, nI_dec, nI_11, or_true, true_or, false_or, or_false, nI_e0, nI_0lt, Nat.succ_ne_zero, Nat.zero_lt_succ, lg_cmp_gt, lg_cmp_lt, lg_cmp_eq, nI_lt0, nI_add, pk_sub, pk_mul, Nat.add_sub_cancel, nI_clamp, vp_in_T, nI_ltI, nI_leI, nI_eqI, Nat.zero_add, Nat.add_zero, xc_eq, xc_ne, xc_lt, xc_ge, xc_gt, xc_le, bI_0, bI_0n, bI_n0, not_true_eq_false, not_false_eq_true, if_true, if_false, ite_true, ite_false, decide_true, decide_false, and_self, and_true, true_and, k223_1]
  rw [g2 Q, b223_8]
  have hz := hz1
  simp (disch := omega) only [e_iconst, e_lconst, e_null, e_ldc, e_iload0i, e_iload1i, e_iload2i, e_iload3i, e_iload4i, e_iload5i, e_iload6i, e_iload7i, e_iload8i, e_iload9i, e_iload10i, e_lload0l, e_lload1l, e_lload2l, e_lload3l, e_lload4l, e_lload5l, e_lload6l, e_lload7l, e_lload8l, e_lload9l, e_lload10l, e_aload0r, e_aload1r, e_aload2r, e_aload3r, e_aload4r, e_aload5r, e_aload6r, e_aload7r, e_aload8r, e_aload9r, e_aload10r, e_aload0n, e_aload1n, e_aload2n, e_aload3n, e_aload4n, e_aload5n, e_aload6n, e_aload7n, e_aload8n, e_aload9n, e_aload10n, e_aload0f, e_aload1f, e_aload2f, e_aload3f, e_aload4f, e_aload5f, e_aload6f, e_aload7f, e_aload8f, e_aload9f, e_aload10f, e_iinc0, e_iinc1, e_iinc2, e_iinc3, e_iinc4, e_iinc5, e_iinc6, e_iinc7, e_iinc8, e_iinc9, e_iinc10, xst_0, xst_1i, xst2_1i, xst_1r, xst2_1r, xst_1n, xst2_1n, xst_1f, xst2_1f, xst_1u, xst2_1u, xst_1l, xst2_1l, xst2_0, xst_s, xst2_s, e_istore, e_lstore, e_astore, e_astoreN, e_iadd, e_isub, e_imul, e_iand, e_ior, e_ixor, e_ishl, e_ishr, e_iushr, e_ladd, e_lsub, e_lmul, e_land, e_lor, e_lshl, e_lcmp, e_i2l, e_l2i, e_i2b, e_ineg, e_dupi, e_dupr, e_dup2, e_popi, e_popr, e_idiv, e_irem, e_ldiv, e_lrem, e_ifCond, e_if_icmp, e_ifnullR, e_ifnullN, e_ifnonnullR, e_ifnonnullN, e_goto, e_jsr, e_tsw, e_lsw, e_getfield, e_dload, e_fload, e_putfield, e_dstore, e_fstore, e_fstoreN, e_monitor, e_new, e_newarray, e_anewarray, e_mnew, e_alen, e_slen, e_schr, e_alenF, e_iaload, e_ialoadF, e_baload, e_laload, e_aaload, e_iastore, e_lastore, e_aastore, e_bastoreB, e_bastoreZ, e_copy, e_ireturnI, e_ireturnZ0, e_ireturnZ1, e_ireturnZb, e_lreturn, e_areturn, e_areturnA, e_areturnN, e_return, ofI, ofIm, ofJ, cat_i, cat_l, cat_r, cat_f, cat_n, xent_0, xent_i, xent_l, xent_r, xent_n, xent_f, xentry, xrf_s, xrf_n, List.getD_cons_zero, List.getD_cons_succ, List.length_cons, List.length_nil, List.cons_append, List.nil_append, List.append_nil, List.map_cons, List.map_nil, List.sum_cons, List.sum_nil, List.replicate, oT_s, oT_n, true_and, and_true, Nat.reduceAdd, Nat.reduceSub, Nat.reduceLeDiff, Nat.reduceEqDiff, Nat.reduceLT, Nat.reduceDiv, Nat.reduceMod, Nat.reduceMul, eq_self, ofN, nI_dec, nI_11, or_true, true_or, false_or, or_false, nI_e0, nI_0lt, Nat.succ_ne_zero, Nat.zero_lt_succ, lg_cmp_gt, lg_cmp_lt, lg_cmp_eq, nI_lt0, nI_add, pk_sub, pk_mul, Nat.add_sub_cancel, nI_clamp, vp_in_T, nI_ltI, nI_leI, nI_eqI, Nat.zero_add, Nat.add_zero, xc_eq, xc_ne, xc_lt, xc_ge, xc_gt, xc_le, bI_0, bI_0n, bI_n0, not_true_eq_false, not_false_eq_true, if_true, if_false, ite_true, ite_false, decide_true, decide_false, and_self, and_true, true_and, xis_sI, xis_sJ, xis_sR, xis_ro, xlen_sI, xlen_sJ, xlen_sR, xlen_ro, xI_sI, xI_sJ, xI_sR, xI_ro, xJ_sI, xJ_sJ, xJ_sR, xJ_ro, xR_sI, xR_sJ, xR_sR, xR_ro, zs_127 hz, zr_127_0 hz, zr_127_3 hz, zr_127_4 hz, zr_127_5 hz, zr_127_6 hz, zr_127_7 hz, zr_127_15 hz, zr_127_17 hz, zr_127_19 hz, zr_127_20 hz, zr_127_23 hz, zr_127_24 hz, zr_127_26 hz, zr_127_27 hz, zr_127_28 hz, zr_127_29 hz, zr_127_32 hz, zr_127_33 hz, zr_127_34 hz, zr_127_35 hz, zr_127_36 hz, zr_127_37 hz, zr_127_39 hz, zr_127_40 hz, zr_127_41 hz, zr_127_42 hz, zs_137 hz, zl_137 hz, setI_row, e1, dayS]
theorem chS_mem {can : Nat → Bool} {sum : Nat → Int64} {k : Nat} {st : Option Nat × Int64} (hk : k ≤ n) (hp : p < n) (hst : ∀ o, st.1 = some o → o < n ∧ can o = true) : ∀ o, (chS can sum p k st).1 = some o → o < n ∧ can o = true := by
  intro o
  have hq : (if k = 0 then p else k - 1) < n := by split <;> omega
  unfold chS
  generalize (if k = 0 then p else k - 1) = q at hq ⊢
  split
  · exact hst o
  · split
    · exact hst o
    · rename_i q1 q2
      split
      · intro e
        cases e
        refine ⟨hq, ?_⟩
        cases hc : can o
        · exact absurd hc q2
        · rfl
      · exact hst o
theorem chC_mem {can : Nat → Bool} {sum : Nat → Int64} (hp : p < n) : ∀ o, chC can sum p n = some o → o < n ∧ can o = true := by
  have : ∀ k i st, i + k = n + 1 → (∀ o, st.1 = some o → o < n ∧ can o = true) → ∀ o, (forF (chS can sum p) i k st).1 = some o → o < n ∧ can o = true := by
    intro k
    induction k with
    | zero => intro i st _ h; exact h
    | succ k ih =>
      intro i st hi h
      rw [forF]
      exact ih (i + 1) _ (by omega) (chS_mem (by omega) hp h)
  exact this (n + 1) 0 _ (by omega) (fun o e => by cases e)
/-- what both sides' days need of one another -/
def SameC (n : Nat) (P : (Nat → Int32) → Prop) (cho : WS → Nat → Option Nat) (chr : (Nat → Int32) → Nat → Option Nat) : Prop := (∀ s p, P s → p < n → cho (wS s) p = chr s p ∧ ∀ o, chr s p = some o → o < n ∧ (sidF (s 12) p = 0 → sidF (s 12) o = 0)) ∧ (∀ s p o, P s → p < n → o < n → P (goS s p o)) ∧ ∀ s, P s → Six (s 12)
theorem wS_15 (s : Nat → Int32) : (wS s).1 5 = s 12 := rfl
theorem pop_up : ∀ v, v < 64 → ∀ p, p < 6 → v.testBit p = false → popN (v ^^^ 2 ^ p) = popN v + 1 ∧ v ^^^ 2 ^ p < 64 := by decide +kernel
theorem sid_bit : ∀ v, v < 64 → ∀ p, p < 6 → (sidF (nI v) p = 0 ↔ v.testBit p = false) := by decide +kernel
/-- who goes behind whom: up only -/
def UpN (a b g : Nat) : Prop := a < 64 ∧ b < 64 ∧ popN (b ^^^ a) = g ∧ ∀ i, i < 6 → b.testBit i = false → a.testBit i = false
theorem UpN.step {a b g : Nat} (hu : UpN a b g) (hp : p < 6) (hb : b.testBit p = false) : UpN a (b ^^^ 2 ^ p) (g + 1) := by
  obtain ⟨h1, h2, h3, h4⟩ := hu
  have ha := h4 p hp hb
  have hx : (b ^^^ a).testBit p = false := by rw [Nat.testBit_xor, hb, ha]; rfl
  have hlt := (xor64 b h2 a h1).2
  obtain ⟨e1, -⟩ := pop_up _ hlt p hp hx
  refine ⟨h1, (pop_up b h2 p hp hb).2, ?_, fun i hi hbi => ?_⟩
  · rw [← h3, ← e1, Nat.xor_assoc, Nat.xor_comm (2 ^ p) a, Nat.xor_assoc]
  · by_cases e : i = p
    · subst e; exact ha
    · apply h4 i hi
      rw [Nat.testBit_xor, Nat.testBit_two_pow_of_ne (fun z => e z.symm)] at hbi
      simpa using hbi
theorem turns_eq (hn : n ≤ 6) {P : (Nat → Int32) → Prop} {cho : WS → Nat → Option Nat} {chr : (Nat → Int32) → Nat → Option Nat} (hc : SameC n P cho chr) {a : Nat} : ∀ k p s c g b ch, p + k = n → P s → s 12 = nI b → UpN a b g → (∀ q, q < p → ch q = c q) → (forF (turnF cho) p k (wS s, ch)).1 = wS (forF (turnS chr) p k (s, c, g)).1 ∧ (∀ q, q < n → (forF (turnF cho) p k (wS s, ch)).2 q = (forF (turnS chr) p k (s, c, g)).2.1 q) ∧ P (forF (turnS chr) p k (s, c, g)).1 ∧ ∃ b', (forF (turnS chr) p k (s, c, g)).1 12 = nI b' ∧ UpN a b' (forF (turnS chr) p k (s, c, g)).2.2 := by
  intro k
  induction k with
  | zero =>
    intro p s c g b ch hp hP hb hu hq
    exact ⟨rfl, fun q h => hq q (by omega), hP, b, hb, hu⟩
  | succ k ih =>
    intro p s c g b ch hp hP hb hu hq
    have q0 : p < n := by omega
    have q6 : p < 6 := by omega
    rw [forF, forF]
    obtain ⟨c1, c2⟩ := hc.1 s p hP q0
    by_cases hsd : sidF (s 12) p = 0
    · cases hch : chr s p with
      | none =>
        have e1 : turnF cho p (wS s, ch) = (wS s, upd (upd ch p (-(nI 1))) p (-(nI 1))) := by unfold turnF; simp only [wS_15, hsd, if_true, c1, hch, opI]
        have e2 : turnS chr p (s, c, g) = (s, upd c p (-(nI 1)), g) := by unfold turnS; simp only [hsd, if_true, hch]
        rw [e1, e2]
        refine ih (p + 1) s _ g b _ (by omega) hP hb hu (fun q h => ?_)
        simp only [upd]; split
        · rfl
        · exact hq q (by omega)
      | some o =>
        obtain ⟨c3, c4⟩ := c2 o hch
        have o6 : o < 6 := by omega
        have e1 : turnF cho p (wS s, ch) = (wS (goS s p o), upd (upd ch p (-(nI 1))) p (nI o)) := by unfold turnF; simp only [wS_15, hsd, if_true, c1, hch, opI, wS_go q6 o6]
        have e2 : turnS chr p (s, c, g) = (goS s p o, upd c p (nI o), g + (if o = p then 1 else 2)) := by unfold turnS; simp only [hsd, if_true, hch]
        rw [e1, e2]
        have hb64 := hu.2.1
        rw [hb] at hsd
        have t1 := (sid_bit b hb64 p q6).1 hsd
        have u1 := hu.step q6 t1
        obtain ⟨w1, w2⟩ := bit64 p q6
        obtain ⟨x1, x2⟩ := xor64 b hb64 _ w2
        have hq' : ∀ q, q < p + 1 → upd (upd ch p (-(nI 1))) p (nI o) q = upd c p (nI o) q := by
          intro q h
          simp only [upd]; split
          · rfl
          · exact hq q (by omega)
        by_cases e : o = p
        · subst e
          refine ih (o + 1) _ _ _ (b ^^^ 2 ^ o) _ (by omega) (hc.2.1 s o o hP q0 q0) ?_ (by rw [if_pos rfl]; exact u1) hq'
          rw [goS_12 q6 q6, if_pos rfl, hb, w1, x1]
        · have t2 := (sid_bit b hb64 o o6).1 (by rw [hb] at c4; exact c4 hsd)
          have t3 : (b ^^^ 2 ^ p).testBit o = false := by rw [Nat.testBit_xor, t2, Nat.testBit_two_pow_of_ne (fun z => e z.symm)]; rfl
          have u2 := u1.step o6 t3
          obtain ⟨w3, w4⟩ := bit64 o o6
          obtain ⟨x3, x4⟩ := xor64 (b ^^^ 2 ^ p) x2 _ w4
          refine ih (p + 1) _ _ _ (b ^^^ 2 ^ p ^^^ 2 ^ o) _ (by omega) (hc.2.1 s p o hP q0 c3) ?_ (by rw [if_neg e]; exact u2) hq'
          rw [goS_12 q6 o6, if_neg (fun z => e z.symm), hb, w1, w3, x1, x3]
    · have e1 : turnF cho p (wS s, ch) = (wS s, upd ch p (-(nI 1))) := by unfold turnF; simp only [wS_15, hsd, if_false]
      have e2 : turnS chr p (s, c, g) = (s, upd c p (-(nI 1)), g) := by unfold turnS; simp only [hsd, if_false]
      rw [e1, e2]
      refine ih (p + 1) s _ g b _ (by omega) hP hb hu (fun q h => ?_)
      simp only [upd]; split
      · rfl
      · exact hq q (by omega)
end SD
