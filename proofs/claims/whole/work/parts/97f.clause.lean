section CF
variable {L d : Nat} {xs : Nat → Int32} {h h1 : xH} {Q : xQ} {p o n w t k : Nat} {x y z fo xx : Int32} {T : Nat} {tp : Nat → Int32} {R : List (List Cl)} {σ σ' : Sn} {u u' : Nat} {H H' : Nat → Nat → Int32} {ι : Nat → Option Sn} {s s' f g : Nat → Int32}
variable {B : Nat → Nat} {a b c e k m q l f0 v f W st : Nat} {vs : List Nat} {x0 x1 x2 : Int32}
def stF (B : Nat → Nat) (T p : Nat) : Option Nat := if isW B T p 1718579812 = true then some 0 else if isW B T p 123581014175598 = true then some 1 else if isW B T p 127991794264947 = true then some 2 else none
theorem pk_1 : pkW (csL 1) 0 4 = 1718579812 ∧ pkW (csL 1) 5 6 = 123581014175598 ∧ pkW (csL 1) 12 6 = 127991794264947 := by decide +kernel
theorem cl_1 : ∀ i, i < 18 → 1 ≤ csL 1 i ∧ csL 1 i < 256 := by decide +kernel
theorem st_eq (hT : ∀ i, i < T → B i < 256) : (if kdF B T p = 257 then waF (csL 1) 18 (fun f m => mtB (csL 1) f m B p (afF B T p)) (18 + 1) 0 0 0 else none) = stF B T p := by
  unfold stF
  rw [← pk_1.1, ← pk_1.2.1, ← pk_1.2.2, isW_mt hT (by decide) (fun i hi => cl_1 _ (by omega)), isW_mt hT (by decide) (fun i hi => cl_1 _ (by omega)), isW_mt hT (by decide) (fun i hi => cl_1 _ (by omega)), wa_1]
  by_cases q : kdF B T p = 257
  · rw [if_pos q, decide_eq_true q, Bool.true_and, Bool.true_and, Bool.true_and]
  · rw [if_neg q, decide_eq_false q, Bool.false_and, Bool.false_and, Bool.false_and, if_neg (by decide), if_neg (by decide), if_neg (by decide)]
theorem st_lt (e : stF B T p = some st) : st < 3 := by
  unfold stF at e
  split at e
  · cases e; decide
  · split at e
    · cases e; decide
    · split at e
      · cases e; decide
      · cases e
def numsF (B : Nat → Nat) (T : Nat) : List Int32 → Nat → Except Nat (List Nat × Nat)
  | [], a => .ok ([], a)
  | x :: l, a => match numF B T a x with
    | .error f => .error f
    | .ok (v, e) => match numsF B T l e with
      | .error f => .error f
      | .ok (vs, e') => .ok (v :: vs, e')
/-- what the class's numbers leave -/
def RN (h h1 : xH) (T : Nat) (B : Nat → Nat) (r : Except Nat (List Nat × Nat)) : Prop := Fr FP h h1 ∧ TC h1 T B ∧ match r with
  | .error f => xI h1 3 2 = nI f ∧ f ≠ 0 ∧ f < 10000
  | .ok (vs, e) => xI h1 3 2 = nI 0 ∧ xI h1 1 5 = nI e ∧ e ≤ T ∧ ∀ i v, vs[i]? = some v → xI h1 6 i = nI v
theorem c_two (hz : Bas h) (hT : TC h T B) (e2 : xI h 3 2 = nI 0) (ha : a ≤ T) (e5 : xI h 1 5 = nI a) : ∃ h1 h2, Fr FP h h1 ∧ RN h h2 T B (numsF B T [x0, x1] a) ∧ (∀ Q, Call (pG L xs) pM (d + 3) 12 [.ref 3, .ref 1, .int (nI 0), .int x0] h Q = Q none h1) ∧ ∀ Q, Call (pG L xs) pM (d + 3) 12 [.ref 3, .ref 1, .int (nI 1), .int x1] h1 Q = Q none h2 := by
  have hTb : ∀ i, i < T → B i < 256 := fun i hi => (hT.2.2 i hi).1
  have s1 := c_num (L := L) (d := d) (xs := xs) (x := x0) hz hT e2 ha e5 (show 0 < 3 by decide)
  cases r1 : numF B T a x0 with
  | error f =>
    obtain ⟨h1, f1, t1, g1, c1⟩ := s1.1 f r1
    obtain ⟨k1, k2⟩ := numF_er ha hT.1 r1
    refine ⟨h1, h1, f1, ⟨f1, t1, ?_⟩, c1, fun Q => c_numF (f1.bas hz) g1 k1 k2⟩
    rw [numsF, r1]; exact ⟨g1, k1, k2⟩
  | ok ve =>
    obtain ⟨v, e⟩ := ve
    obtain ⟨h1, f1, t1, g1, g2, g3, c1⟩ := s1.2 v e r1
    obtain ⟨-, -, k3, -⟩ := numF_ok hTb ha r1
    have s2 := c_num (L := L) (d := d) (xs := xs) (x := x1) (f1.bas hz) t1 g1 k3 g2 (show 1 < 3 by decide)
    cases r2 : numF B T e x1 with
    | error f =>
      obtain ⟨h2, f2, t2, i1, c2⟩ := s2.1 f r2
      obtain ⟨k1, k2⟩ := numF_er k3 hT.1 r2
      refine ⟨h1, h2, f1, ⟨f1.tr f2, t2, ?_⟩, c1, c2⟩
      rw [numsF, r1]; dsimp only; rw [numsF, r2]; exact ⟨i1, k1, k2⟩
    | ok ve =>
      obtain ⟨v', e'⟩ := ve
      obtain ⟨h2, f2, t2, i1, i2, i3, c2⟩ := s2.2 v' e' r2
      obtain ⟨-, -, k4, -⟩ := numF_ok hTb k3 r2
      refine ⟨h1, h2, f1, ⟨f1.tr f2, t2, ?_⟩, c1, c2⟩
      rw [numsF, r1]; dsimp only; rw [numsF, r2]; dsimp only; rw [numsF]
      refine ⟨i1, i2, k4, fun i w hw => ?_⟩
      match i, hw with
      | 0, hw => cases hw; rw [i3, upd_ne _ _ (by decide), g3, upd_eq]
      | 1, hw => cases hw; rw [i3, upd_eq]
theorem c_three (hz : Bas h) (hT : TC h T B) (e2 : xI h 3 2 = nI 0) (ha : a ≤ T) (e5 : xI h 1 5 = nI a) : ∃ h1 h2 h3, Fr FP h h1 ∧ Fr FP h h2 ∧ RN h h3 T B (numsF B T [x0, x1, x2] a) ∧ (∀ Q, Call (pG L xs) pM (d + 3) 12 [.ref 3, .ref 1, .int (nI 0), .int x0] h Q = Q none h1) ∧ (∀ Q, Call (pG L xs) pM (d + 3) 12 [.ref 3, .ref 1, .int (nI 1), .int x1] h1 Q = Q none h2) ∧ ∀ Q, Call (pG L xs) pM (d + 3) 12 [.ref 3, .ref 1, .int (nI 2), .int x2] h2 Q = Q none h3 := by
  have hTb : ∀ i, i < T → B i < 256 := fun i hi => (hT.2.2 i hi).1
  have s1 := c_num (L := L) (d := d) (xs := xs) (x := x0) hz hT e2 ha e5 (show 0 < 3 by decide)
  cases r1 : numF B T a x0 with
  | error f =>
    obtain ⟨h1, f1, t1, g1, c1⟩ := s1.1 f r1
    obtain ⟨k1, k2⟩ := numF_er ha hT.1 r1
    refine ⟨h1, h1, h1, f1, f1, ⟨f1, t1, ?_⟩, c1, fun Q => c_numF (f1.bas hz) g1 k1 k2, fun Q => c_numF (f1.bas hz) g1 k1 k2⟩
    rw [numsF, r1]; exact ⟨g1, k1, k2⟩
  | ok ve =>
    obtain ⟨v, e⟩ := ve
    obtain ⟨h1, f1, t1, g1, g2, g3, c1⟩ := s1.2 v e r1
    obtain ⟨-, -, k3, -⟩ := numF_ok hTb ha r1
    have s2 := c_num (L := L) (d := d) (xs := xs) (x := x1) (f1.bas hz) t1 g1 k3 g2 (show 1 < 3 by decide)
    cases r2 : numF B T e x1 with
    | error f =>
      obtain ⟨h2, f2, t2, i1, c2⟩ := s2.1 f r2
      obtain ⟨k1, k2⟩ := numF_er k3 hT.1 r2
      refine ⟨h1, h2, h2, f1, f1.tr f2, ⟨f1.tr f2, t2, ?_⟩, c1, c2, fun Q => c_numF ((f1.tr f2).bas hz) i1 k1 k2⟩
      rw [numsF, r1]; dsimp only; rw [numsF, r2]; exact ⟨i1, k1, k2⟩
    | ok ve =>
      obtain ⟨v', e'⟩ := ve
      obtain ⟨h2, f2, t2, i1, i2, i3, c2⟩ := s2.2 v' e' r2
      obtain ⟨-, -, k4, -⟩ := numF_ok hTb k3 r2
      have s3 := c_num (L := L) (d := d) (xs := xs) (x := x2) ((f1.tr f2).bas hz) t2 i1 k4 i2 (show 2 < 3 by decide)
      cases r3 : numF B T e' x2 with
      | error f =>
        obtain ⟨h3, f3, t3, j1, c3⟩ := s3.1 f r3
        obtain ⟨k1, k2⟩ := numF_er k4 hT.1 r3
        refine ⟨h1, h2, h3, f1, f1.tr f2, ⟨(f1.tr f2).tr f3, t3, ?_⟩, c1, c2, c3⟩
        rw [numsF, r1]; dsimp only; rw [numsF, r2]; dsimp only; rw [numsF, r3]; exact ⟨j1, k1, k2⟩
      | ok ve =>
        obtain ⟨v'', e''⟩ := ve
        obtain ⟨h3, f3, t3, j1, j2, j3, c3⟩ := s3.2 v'' e'' r3
        obtain ⟨-, -, k5, -⟩ := numF_ok hTb k4 r3
        refine ⟨h1, h2, h3, f1, f1.tr f2, ⟨(f1.tr f2).tr f3, t3, ?_⟩, c1, c2, c3⟩
        rw [numsF, r1]; dsimp only; rw [numsF, r2]; dsimp only; rw [numsF, r3]; dsimp only; rw [numsF]
        refine ⟨j1, j2, k5, fun i w hw => ?_⟩
        match i, hw with
        | 0, hw => cases hw; rw [j3, upd_ne _ _ (by decide), i3, upd_ne _ _ (by decide), g3, upd_eq]
        | 1, hw => cases hw; rw [j3, upd_ne _ _ (by decide), i3, upd_eq]
        | 2, hw => cases hw; rw [j3, upd_eq]
def mostF (st n : Nat) : List Int32 := if st = 0 then [nI 60, nI 5] else if st = 1 then [nI 60, nI 99, nI 9] else [feI n, feI n, nI 20]
theorem c_readNumbers (hz : Bas h) (hT : TC h T B) (e2 : xI h 3 2 = nI 0) (ha : a ≤ T) (e5 : xI h 1 5 = nI a) (hst : st < 3) (e3 : st = 2 → xI h 4 3 = nI n ∧ n ≤ 6) : ∃ h1, RN h h1 T B (numsF B T (mostF st n) a) ∧ ∀ Q, Call (pG L xs) pM (d + 4) 11 [.ref 3, .ref 1, .int (nI st)] h Q = Q none h1 := by
  unfold mostF
  by_cases q0 : st = 0
  · subst q0
    rw [if_pos rfl]
    obtain ⟨h1, h2, f1, r, c1, c2⟩ := c_two (L := L) (d := d) (xs := xs) (x0 := nI 60) (x1 := nI 5) hz hT e2 ha e5
    refine ⟨h2, r, fun Q => ?_⟩
    simp (disch := omega) only [m11, b11_0, k11_3, b11_3, e_iconst, e_lconst, e_null, e_ldc, e_iload0i, e_iload1i, e_iload2i, e_iload3i, e_iload4i, e_iload5i, e_iload6i, e_iload7i, e_iload8i, e_iload9i, e_iload10i, e_lload0l, e_lload1l, e_lload2l, e_lload3l, e_lload4l, e_lload5l, e_lload6l, e_lload7l, e_lload8l, e_lload9l, e_lload10l, e_aload0r, e_aload1r, e_aload2r, e_aload3r, e_aload4r, e_aload5r, e_aload6r, e_aload7r, e_aload8r, e_aload9r, e_aload10r, e_aload0n, e_aload1n, e_aload2n, e_aload3n, e_aload4n, e_aload5n, e_aload6n, e_aload7n, e_aload8n, e_aload9n, e_aload10n, e_aload0f, e_aload1f, e_aload2f, e_aload3f, e_aload4f, e_aload5f, e_aload6f, e_aload7f, e_aload8f, e_aload9f, e_aload10f, e_iinc0, e_iinc1, e_iinc2, e_iinc3, e_iinc4, e_iinc5, e_iinc6, e_iinc7, e_iinc8, e_iinc9, e_iinc10, xst_0, xst_1i, xst2_1i, xst_1r, xst2_1r, xst_1n, xst2_1n, xst_1f, xst2_1f, xst_1u, xst2_1u, xst_1l, xst2_1l, xst2_0, xst_s, xst2_s, e_istore, e_lstore, e_astore, e_astoreN, e_iadd, e_isub, e_imul, e_iand, e_ior, e_ixor, e_ishl, e_ishr, e_iushr, e_ladd, e_lsub, e_lmul, e_land, e_lor, e_lshl, e_lcmp, e_i2l, e_l2i, e_i2b, e_ineg, e_dupi, e_dupr, e_dup2, e_popi, e_popr, e_idiv, e_irem, e_ldiv, e_lrem, e_ifCond, e_if_icmp, e_ifnullR, e_ifnullN, e_ifnonnullR, e_ifnonnullN, e_goto, e_jsr, e_tsw, e_lsw, e_getfield, e_dload, e_fload, e_putfield, e_dstore, e_fstore, e_fstoreN, e_monitor, e_new, e_newarray, e_anewarray, e_mnew, e_alen, e_slen, e_schr, e_alenF, e_iaload, e_ialoadF, e_baload, e_laload, e_aaload, e_iastore, e_lastore, e_aastore, e_bastoreB, e_bastoreZ, e_copy, e_ireturnI, e_ireturnZ0, e_ireturnZ1, e_ireturnZb, e_lreturn, e_areturn, e_areturnA, e_areturnN, e_return, ofI, ofIm, ofJ, cat_i, cat_l, cat_r, cat_f, cat_n, xent_0, xent_i, xent_l, xent_r, xent_n, xent_f, xentry, xrf_s, xrf_n, List.getD_cons_zero, List.getD_cons_succ, List.length_cons, List.length_nil, List.cons_append, List.nil_append, List.append_nil, List.map_cons, List.map_nil, List.sum_cons, List.sum_nil, List.replicate, oT_s, oT_n, true_and, and_true, Nat.reduceAdd, Nat.reduceSub, Nat.reduceLeDiff, Nat.reduceEqDiff, Nat.reduceLT, Nat.reduceDiv, Nat.reduceMod, Nat.reduceMul, eq_self, ofN, nI_dec, nI_11, or_true, true_or, false_or, or_false, nI_e0, nI_0lt, Nat.succ_ne_zero, Nat.zero_lt_succ, lg_cmp_gt, lg_cmp_lt, lg_cmp_eq, nI_lt0, nI_add, pk_sub, pk_mul, Nat.add_sub_cancel, nI_clamp, vp_in_T, nI_ltI, nI_leI, nI_eqI, Nat.zero_add, Nat.add_zero, xc_eq, xc_ne, xc_lt, xc_ge, xc_gt, xc_le, bI_0, bI_0n, bI_n0, not_true_eq_false, not_false_eq_true, if_true, if_false, ite_true, ite_false, decide_true, decide_false, and_self, and_true, true_and, zs_3 hz, zs_3 (f1.bas hz), v12, c1, c2]
  · rw [if_neg q0]
    by_cases q1 : st = 1
    · subst q1
      rw [if_pos rfl]
      obtain ⟨h1, h2, h3, f1, f2, r, c1, c2, c3⟩ := c_three (L := L) (d := d) (xs := xs) (x0 := nI 60) (x1 := nI 99) (x2 := nI 9) hz hT e2 ha e5
      refine ⟨h3, r, fun Q => ?_⟩
      simp (disch := omega) only [m11, b11_0, k11_1, b11_1, k11_3, b11_3, e_iconst, e_lconst, e_null, e_ldc, e_iload0i, e_iload1i, e_iload2i, e_iload3i, e_iload4i, e_iload5i, e_iload6i, e_iload7i, e_iload8i, e_iload9i, e_iload10i, e_lload0l, e_lload1l, e_lload2l, e_lload3l, e_lload4l, e_lload5l, e_lload6l, e_lload7l, e_lload8l, e_lload9l, e_lload10l, e_aload0r, e_aload1r, e_aload2r, e_aload3r, e_aload4r, e_aload5r, e_aload6r, e_aload7r, e_aload8r, e_aload9r, e_aload10r, e_aload0n, e_aload1n, e_aload2n, e_aload3n, e_aload4n, e_aload5n, e_aload6n, e_aload7n, e_aload8n, e_aload9n, e_aload10n, e_aload0f, e_aload1f, e_aload2f, e_aload3f, e_aload4f, e_aload5f, e_aload6f, e_aload7f, e_aload8f, e_aload9f, e_aload10f, e_iinc0, e_iinc1, e_iinc2, e_iinc3, e_iinc4, e_iinc5, e_iinc6, e_iinc7, e_iinc8, e_iinc9, e_iinc10, xst_0, xst_1i, xst2_1i, xst_1r, xst2_1r, xst_1n, xst2_1n, xst_1f, xst2_1f, xst_1u, xst2_1u, xst_1l, xst2_1l, xst2_0, xst_s, xst2_s, e_istore, e_lstore, e_astore, e_astoreN, e_iadd, e_isub, e_imul, e_iand, e_ior, e_ixor, e_ishl, e_ishr, e_iushr, e_ladd, e_lsub, e_lmul, e_land, e_lor, e_lshl, e_lcmp, e_i2l, e_l2i, e_i2b, e_ineg, e_dupi, e_dupr, e_dup2, e_popi, e_popr, e_idiv, e_irem, e_ldiv, e_lrem, e_ifCond, e_if_icmp, e_ifnullR, e_ifnullN, e_ifnonnullR, e_ifnonnullN, e_goto, e_jsr, e_tsw, e_lsw, e_getfield, e_dload, e_fload, e_putfield, e_dstore, e_fstore, e_fstoreN, e_monitor, e_new, e_newarray, e_anewarray, e_mnew, e_alen, e_slen, e_schr, e_alenF, e_iaload, e_ialoadF, e_baload, e_laload, e_aaload, e_iastore, e_lastore, e_aastore, e_bastoreB, e_bastoreZ, e_copy, e_ireturnI, e_ireturnZ0, e_ireturnZ1, e_ireturnZb, e_lreturn, e_areturn, e_areturnA, e_areturnN, e_return, ofI, ofIm, ofJ, cat_i, cat_l, cat_r, cat_f, cat_n, xent_0, xent_i, xent_l, xent_r, xent_n, xent_f, xentry, xrf_s, xrf_n, List.getD_cons_zero, List.getD_cons_succ, List.length_cons, List.length_nil, List.cons_append, List.nil_append, List.append_nil, List.map_cons, List.map_nil, List.sum_cons, List.sum_nil, List.replicate, oT_s, oT_n, true_and, and_true, Nat.reduceAdd, Nat.reduceSub, Nat.reduceLeDiff, Nat.reduceEqDiff, Nat.reduceLT, Nat.reduceDiv, Nat.reduceMod, Nat.reduceMul, eq_self, ofN, nI_dec, nI_11, or_true, true_or, false_or, or_false, nI_e0, nI_0lt, Nat.succ_ne_zero, Nat.zero_lt_succ, lg_cmp_gt, lg_cmp_lt, lg_cmp_eq, nI_lt0, nI_add, pk_sub, pk_mul, Nat.add_sub_cancel, nI_clamp, vp_in_T, nI_ltI, nI_leI, nI_eqI, Nat.zero_add, Nat.add_zero, xc_eq, xc_ne, xc_lt, xc_ge, xc_gt, xc_le, bI_0, bI_0n, bI_n0, not_true_eq_false, not_false_eq_true, if_true, if_false, ite_true, ite_false, decide_true, decide_false, and_self, and_true, true_and, zs_3 hz, zs_3 (f1.bas hz), zs_3 (f2.bas hz), v12, c1, c2, c3, Nat.one_ne_zero]
    · obtain rfl : st = 2 := by omega
      rw [if_neg (by decide)]
      obtain ⟨e3, n6⟩ := e3 rfl
      obtain ⟨h1, h2, h3, f1, f2, r, c1, c2, c3⟩ := c_three (L := L) (d := d) (xs := xs) (x0 := feI n) (x1 := feI n) (x2 := nI 20) hz hT e2 ha e5
      have e31 : xI h1 4 3 = nI n := by rw [f1.2.2.2 4 (by unfold FP; decide)]; exact e3
      have z1 := f1.bas hz
      refine ⟨h3, r, fun Q => ?_⟩
      simp (disch := omega) only [m11, b11_0, k11_1, b11_1, k11_2, b11_2, k11_3, b11_3, e_iconst, e_lconst, e_null, e_ldc, e_iload0i, e_iload1i, e_iload2i, e_iload3i, e_iload4i, e_iload5i, e_iload6i, e_iload7i, e_iload8i, e_iload9i, e_iload10i, e_lload0l, e_lload1l, e_lload2l, e_lload3l, e_lload4l, e_lload5l, e_lload6l, e_lload7l, e_lload8l, e_lload9l, e_lload10l, e_aload0r, e_aload1r, e_aload2r, e_aload3r, e_aload4r, e_aload5r, e_aload6r, e_aload7r, e_aload8r, e_aload9r, e_aload10r, e_aload0n, e_aload1n, e_aload2n, e_aload3n, e_aload4n, e_aload5n, e_aload6n, e_aload7n, e_aload8n, e_aload9n, e_aload10n, e_aload0f, e_aload1f, e_aload2f, e_aload3f, e_aload4f, e_aload5f, e_aload6f, e_aload7f, e_aload8f, e_aload9f, e_aload10f, e_iinc0, e_iinc1, e_iinc2, e_iinc3, e_iinc4, e_iinc5, e_iinc6, e_iinc7, e_iinc8, e_iinc9, e_iinc10, xst_0, xst_1i, xst2_1i, xst_1r, xst2_1r, xst_1n, xst2_1n, xst_1f, xst2_1f, xst_1u, xst2_1u, xst_1l, xst2_1l, xst2_0, xst_s, xst2_s, e_istore, e_lstore, e_astore, e_astoreN, e_iadd, e_isub, e_imul, e_iand, e_ior, e_ixor, e_ishl, e_ishr, e_iushr, e_ladd, e_lsub, e_lmul, e_land, e_lor, e_lshl, e_lcmp, e_i2l, e_l2i, e_i2b, e_ineg, e_dupi, e_dupr, e_dup2, e_popi, e_popr, e_idiv, e_irem, e_ldiv, e_lrem, e_ifCond, e_if_icmp, e_ifnullR, e_ifnullN, e_ifnonnullR, e_ifnonnullN, e_goto, e_jsr, e_tsw, e_lsw, e_getfield, e_dload, e_fload, e_putfield, e_dstore, e_fstore, e_fstoreN, e_monitor, e_new, e_newarray, e_anewarray, e_mnew, e_alen, e_slen, e_schr, e_alenF, e_iaload, e_ialoadF, e_baload, e_laload, e_aaload, e_iastore, e_lastore, e_aastore, e_bastoreB, e_bastoreZ, e_copy, e_ireturnI, e_ireturnZ0, e_ireturnZ1, e_ireturnZb, e_lreturn, e_areturn, e_areturnA, e_areturnN, e_return, ofI, ofIm, ofJ, cat_i, cat_l, cat_r, cat_f, cat_n, xent_0, xent_i, xent_l, xent_r, xent_n, xent_f, xentry, xrf_s, xrf_n, List.getD_cons_zero, List.getD_cons_succ, List.length_cons, List.length_nil, List.cons_append, List.nil_append, List.append_nil, List.map_cons, List.map_nil, List.sum_cons, List.sum_nil, List.replicate, oT_s, oT_n, true_and, and_true, Nat.reduceAdd, Nat.reduceSub, Nat.reduceLeDiff, Nat.reduceEqDiff, Nat.reduceLT, Nat.reduceDiv, Nat.reduceMod, Nat.reduceMul, nI_m1, eq_self, ofN, nI_dec, nI_11, or_true, true_or, false_or, or_false, nI_e0, nI_0lt, Nat.succ_ne_zero, Nat.zero_lt_succ, lg_cmp_gt, lg_cmp_lt, lg_cmp_eq, nI_lt0, nI_add, pk_sub, pk_mul, Nat.add_sub_cancel, nI_clamp, vp_in_T, nI_ltI, nI_leI, nI_eqI, Nat.zero_add, Nat.add_zero, xc_eq, xc_ne, xc_lt, xc_ge, xc_gt, xc_le, bI_0, bI_0n, bI_n0, not_true_eq_false, not_false_eq_true, if_true, if_false, ite_true, ite_false, decide_true, decide_false, and_self, and_true, true_and, zs_3 hz, zr_3_0 hz, zs_4 hz, zs_3 z1, zr_3_0 z1, zs_4 z1, zs_3 (f2.bas hz), v12, e3, e31, c1, c2, c3, show (2 = 0) = False by decide, show (2 = 1) = False by decide]
end CF
