section RK
variable {L d : Nat} {xs : Nat → Int32} {h h1 : xH} {Q : xQ} {p o n w t k : Nat} {x y z fo xx : Int32} {T : Nat} {tp : Nat → Int32} {R : List (List Cl)} {σ σ' : Sn} {u u' : Nat} {H H' : Nat → Nat → Int32} {ι : Nat → Option Sn} {s s' f g : Nat → Int32}
variable {B : Nat → Nat} {a b c e m q v W n' a' j : Nat} {acc acc' : List It} {i : It} {r : Rd} {gb : Bool} {cls : List Cl} {cl : Cl}
def clN (cl : Cl) : Nat := clLen cl - 1
def itN : List Cl → Nat
  | [] => 0
  | c :: r => clN c + itN r
theorem itN_app : ∀ {as bs : List Cl}, itN (as ++ bs) = itN as + itN bs
  | [], bs => by simp [itN]
  | a :: as, bs => by rw [List.cons_append, itN, itN, itN_app, Nat.add_assoc]
theorem clsLen_app : ∀ {as bs : List Cl}, clsLen (as ++ bs) = clsLen as + clsLen bs
  | [], bs => by simp [clsLen]
  | a :: as, bs => by rw [List.cons_append, clsLen, clsLen, clsLen_app, Nat.add_assoc]
theorem clsOK_app : ∀ {as bs : List Cl}, clsOK (as ++ bs) ↔ clsOK as ∧ clsOK bs
  | [], bs => by simp [clsOK]
  | a :: as, bs => by rw [List.cons_append, clsOK, clsOK, clsOK_app, and_assoc]
theorem clN_1 {s : List It} : clN (s, none) = s.length := rfl
theorem clN_2 {s u : List It} : clN (s, some u) = s.length + u.length := rfl
theorem CodeR.app {sg cf : Nat → Int32} {t : Nat} : ∀ {as bs : List Cl} {j i : Nat}, CodeR sg cf t j i (as ++ bs) ↔ CodeR sg cf t j i as ∧ CodeR sg cf t (j + as.length) (i + itN as) bs
  | [], bs, j, i => by simp [CodeR, itN]
  | (s, none) :: as, bs, j, i => by
    rw [List.cons_append, CodeR, CodeR, CodeR.app (as := as), List.length_cons, itN, clN_1, Nat.add_assoc j 1, Nat.add_comm 1, Nat.add_assoc i]
    simp only [and_assoc]
  | (s, some u) :: as, bs, j, i => by
    rw [List.cons_append, CodeR, CodeR, CodeR.app (as := as), List.length_cons, itN, clN_2, Nat.add_assoc j 1, Nat.add_comm 1, show i + s.length + u.length + itN as = i + (s.length + u.length + itN as) by omega]
    simp only [and_assoc]
theorem CodeR.eq {sg cf sg' cf' : Nat → Int32} {t : Nat} : ∀ {as : List Cl} {j i : Nat}, (∀ k, k < 400 * t + (i + itN as) → sg' k = sg k) → (∀ k, k < 48 * t + 4 * (j + as.length) → cf' k = cf k) → CodeR sg cf t j i as → CodeR sg' cf' t j i as
  | [], j, i, _, _, _ => trivial
  | (s, none) :: as, j, i, h1, h2, hc => by
    rw [itN, clN_1] at h1
    rw [List.length_cons] at h2
    obtain ⟨c1, c2, c3, c4, c5⟩ := hc
    exact ⟨by rw [h2 _ (by omega)]; exact c1, by rw [h2 _ (by omega)]; exact c2, by rw [h2 _ (by omega)]; exact c3, c4.eq (fun k k1 k2 => h1 _ (by omega)), CodeR.eq (as := as) (fun k hk => h1 k (by omega)) (fun k hk => h2 k (by omega)) c5⟩
  | (s, some u) :: as, j, i, h1, h2, hc => by
    rw [itN, clN_2] at h1
    rw [List.length_cons] at h2
    obtain ⟨c1, c2, c3, c4, c5, c6, c7⟩ := hc
    exact ⟨by rw [h2 _ (by omega)]; exact c1, by rw [h2 _ (by omega)]; exact c2, by rw [h2 _ (by omega)]; exact c3, by rw [h2 _ (by omega)]; exact c4, c5.eq (fun k k1 k2 => h1 _ (by omega)), c6.eq (fun k k1 k2 => h1 _ (by omega)), CodeR.eq (as := as) (fun k hk => h1 k (by omega)) (fun k hk => h2 k (by omega)) c7⟩
def CP (a : Nat) : Prop := a = 129 ∨ a = 130 ∨ a = 131 ∨ a = 132 ∨ a = 134
def CJ (j : Nat) : Prop := 8 ≤ j ∧ j ≤ 10 ∨ j = 12 ∨ j = 13 ∨ j = 14 ∨ j = 16
def FC (t b c : Nat) (h h1 : xH) : Prop := FrR CP TJ h h1 ∧ (∀ i, i < 400 * t + b → xI h1 129 i = xI h 129 i) ∧ (∀ i, i < 48 * t + 4 * c → xI h1 131 i = xI h 131 i) ∧ ∀ j, j ≠ t → xI h1 132 j = xI h 132 j
theorem FC.rf : FC t b c h h := ⟨FrR.rf, fun _ _ => rfl, fun _ _ => rfl, fun _ _ => rfl⟩
theorem FC.tr {h2 : xH} (f1 : FC t b c h h1) (f2 : FC t b c h1 h2) : FC t b c h h2 := ⟨f1.1.tr f2.1, fun i hi => (f2.2.1 i hi).trans (f1.2.1 i hi), fun i hi => (f2.2.2.1 i hi).trans (f1.2.2.1 i hi), fun i hi => (f2.2.2.2 i hi).trans (f1.2.2.2 i hi)⟩
theorem FC.dn {b' c' : Nat} (f1 : FC t b c h h1) (hb : b' ≤ b) (hc : c' ≤ c) : FC t b' c' h h1 := ⟨f1.1, fun i hi => f1.2.1 i (by omega), fun i hi => f1.2.2.1 i (by omega), f1.2.2.2⟩
theorem FC.s7 (hj : TJ j) : FC t b c h (setI h 127 j x) := ⟨FrR.s7 hj, fun i _ => by rw [xI_s_ne (by decide)], fun i _ => by rw [xI_s_ne (by decide)], fun i _ => by rw [xI_s_ne (by decide)]⟩
theorem FC.s31 (hj : 48 * t + 4 * c ≤ j) : FC t b c h (setI h 131 j x) := ⟨FrR.sI (.inr (.inr (.inl rfl))) (by decide), fun i _ => by rw [xI_s_ne (by decide)], fun i hi => by rw [xI_sI, if_neg (fun z => by omega)], fun i _ => by rw [xI_s_ne (by decide)]⟩
theorem FC.s32 : FC t b c h (setI h 132 t x) := ⟨FrR.sI (.inr (.inr (.inr (.inl rfl)))) (by decide), fun i _ => by rw [xI_s_ne (by decide)], fun i _ => by rw [xI_s_ne (by decide)], fun i hi => by rw [xI_sI, if_neg (fun z => hi z.2)]⟩
theorem FT.fc (f1 : FT (400 * t + b) h h1) : FC t b c h h1 := ⟨f1.1.mono (fun a z => by unfold TP at z; unfold CP; omega) (fun j z => z), f1.2, fun i _ => by rw [f1.1.2.2.2.1 131 (by decide) (by unfold TP; decide)], fun i _ => by rw [f1.1.2.2.2.1 132 (by decide) (by unfold TP; decide)]⟩
def FD (t b c : Nat) (h h1 : xH) : Prop := FrR CP CJ h h1 ∧ (∀ i, i < 400 * t + b → xI h1 129 i = xI h 129 i) ∧ (∀ i, i < 48 * t + 4 * c → xI h1 131 i = xI h 131 i) ∧ ∀ j, j ≠ t → xI h1 132 j = xI h 132 j
theorem FD.tr {h2 : xH} (f1 : FD t b c h h1) (f2 : FD t b c h1 h2) : FD t b c h h2 := ⟨f1.1.tr f2.1, fun i hi => (f2.2.1 i hi).trans (f1.2.1 i hi), fun i hi => (f2.2.2.1 i hi).trans (f1.2.2.1 i hi), fun i hi => (f2.2.2.2 i hi).trans (f1.2.2.2 i hi)⟩
theorem FD.dn {b' c' : Nat} (f1 : FD t b c h h1) (hb : b' ≤ b) (hc : c' ≤ c) : FD t b' c' h h1 := ⟨f1.1, fun i hi => f1.2.1 i (by omega), fun i hi => f1.2.2.1 i (by omega), f1.2.2.2⟩
theorem FD.s7 (hj : CJ j) : FD t b c h (setI h 127 j x) := ⟨FrR.s7 hj, fun i _ => by rw [xI_s_ne (by decide)], fun i _ => by rw [xI_s_ne (by decide)], fun i _ => by rw [xI_s_ne (by decide)]⟩
theorem FC.fd (f1 : FC t b c h h1) : FD t b c h h1 := ⟨f1.1.mono (fun a z => z) (fun j z => by unfold TJ at z; unfold CJ; omega), f1.2⟩
theorem StR.so (hs : StR h T B t b a n acc) (hq : q = 131 ∨ q = 132) : StR (setI h q j x) T B t b a n acc := by
  obtain ⟨hz, hT, ha, e8, e9, e11, e12, el, hc⟩ := hs
  refine ⟨hz.sI, ⟨hT.1, by rw [xI_s_ne (by omega)]; exact hT.2.1, fun i hi => by rw [xI_s_ne (by omega)]; exact hT.2.2 i hi⟩, ha, by rw [xI_s_ne (by omega)]; exact e8, by rw [xI_s_ne (by omega)]; exact e9, by rw [xI_s_ne (by omega)]; exact e11, by rw [xI_s_ne (by omega)]; exact e12, by rw [xI_s_ne (by omega)]; exact el, ?_⟩
  rw [xI_s_ne (by omega)]; exact hc
theorem StR.s14 (hs : StR h T B t b a n acc) : StR (setI h 127 14 x) T B t b a n acc := by
  obtain ⟨hz, hT, ha, e8, e9, e11, e12, el, hc⟩ := hs
  refine ⟨hz.sI, hT.st (by omega), ha, by rw [xI_sI, if_neg (fun z => by omega)]; exact e8, by rw [xI_sI, if_neg (fun z => by omega)]; exact e9, by rw [xI_sI, if_neg (fun z => by omega)]; exact e11, by rw [xI_sI, if_neg (fun z => by omega)]; exact e12, by rw [xI_s_ne (by decide)]; exact el, ?_⟩
  rw [xI_s_ne (by decide)]; exact hc
theorem StR.sh (hs : StR h T B t b a n acc) : StR h T B t (b + acc.length) a n [] := by
  obtain ⟨hz, hT, ha, e8, e9, e11, e12, el, hc⟩ := hs
  exact ⟨hz, hT, ha, e8, e9, e11, e12, by rw [List.length_nil]; exact el, trivial⟩
theorem FV.mo {b' : Nat} (f1 : FV b h h1) (hb : b' ≤ b) : FV b' h h1 := ⟨f1.1, fun i hi => f1.2 i (by omega)⟩
theorem FT.mo {b' : Nat} (f1 : FT b h h1) (hb : b' ≤ b) : FT b' h h1 := ⟨f1.1, fun i hi => f1.2 i (by omega)⟩
theorem r_go (hs : StR h T B t b p n []) (ht : t < 6) (hn : n ≤ 60) (hw : kdF B T p = 257) (hc : c < 12) (ecl : xI h 132 t = nI c) (hb : b ≤ p) : ∃ g h1, FC t b c h h1 ∧ (match goF B T (afF B T p) n with
    | .error f => g = false ∧ xI h1 127 9 = nI f
    | .ok (e, n', cl) => g = true ∧ StR h1 T B t (b + clN cl) e n' [] ∧ xI h1 132 t = nI (c + 1) ∧ CodeR (xI h1 129) (xI h1 131) t c b [cl]) ∧ ∀ Q, Call (pG L xs) pM (d + 10) 186 [.ref 127] h Q = Q (some (.int (bI g))) h1 := by
  obtain ⟨hz, hT, ha, e8, e9, e11, e12, el, hcd⟩ := id hs
  have t4 := hT.1
  have hTb : ∀ i, i < T → B i < 256 := fun i hi => (hT.2.2 i hi).1
  have cpw := fun Q => r_passWord (L := L) (d := d + 7) (xs := xs) (Q := Q) hz hT ha e8
  obtain ⟨pT, -, ea⟩ := kd_257 hTb hw
  rw [← ea] at cpw
  have af1 := afF_lt (B := B) pT
  have af2 := (afF_le (B := B) ha).2
  have n1 : nI 48 * nI t + nI 4 * nI c = nI (48 * t + 4 * c) := by rw [pk_mul, pk_mul, nI_add]
  have s1 := hs.s8 af2
  have g132 : xI (setI h 127 8 (nI (afF B T p))) 132 t = nI c := by rw [xI_s_ne (by decide)]; exact ecl
  have f1 : FC t b c h (setI h 127 8 (nI (afF B T p))) := FC.s7 (by unfold TJ; omega)
  revert cpw s1 g132 f1
  generalize setI h 127 8 (nI (afF B T p)) = hA
  intro cpw s1 g132 f1
  obtain ⟨zA, tA, -, a8, a9, a11, a12, al, ac⟩ := id s1
  rw [List.length_nil, Nat.add_zero] at al
  have s2 := s1.so (q := 131) (j := 48 * t + 4 * c) (x := nI b) (.inl rfl)
  have f2 : FC t b c hA (setI hA 131 (48 * t + 4 * c) (nI b)) := FC.s31 (Nat.le_refl _)
  have g0 : xI (setI hA 131 (48 * t + 4 * c) (nI b)) 131 (48 * t + 4 * c) = nI b := by rw [xI_sI, if_pos ⟨rfl, rfl⟩]
  have g132' : xI (setI hA 131 (48 * t + 4 * c) (nI b)) 132 t = nI c := by rw [xI_s_ne (by decide)]; exact g132
  have zB := s2.1
  obtain ⟨g, h3, ⟨f3, r3⟩, c3⟩ := r_sumR (L := L) (d := d + 3) (xs := xs) s2 ht hn (by rw [List.length_nil]; omega)
  unfold goF
  cases ev : sumF B T (afF B T p) n [] with
  | error f =>
    rw [ev] at r3
    obtain ⟨rfl, g1⟩ := r3
    refine ⟨false, h3, (f1.tr f2).tr f3.ft.fc, ⟨rfl, g1⟩, fun Q => ?_⟩
    simp (disch := omega) only [m186, b186_0, e_iconst, e_lconst, e_null, e_ldc, e_iload0i, e_iload1i, e_iload2i, e_iload3i, e_iload4i, e_iload5i, e_iload6i, e_iload7i, e_iload8i, e_iload9i, e_iload10i, e_lload0l, e_lload1l, e_lload2l, e_lload3l, e_lload4l, e_lload5l, e_lload6l, e_lload7l, e_lload8l, e_lload9l, e_lload10l, e_aload0r, e_aload1r, e_aload2r, e_aload3r, e_aload4r, e_aload5r, e_aload6r, e_aload7r, e_aload8r, e_aload9r, e_aload10r, e_aload0n, e_aload1n, e_aload2n, e_aload3n, e_aload4n, e_aload5n, e_aload6n, e_aload7n, e_aload8n, e_aload9n, e_aload10n, e_aload0f, e_aload1f, e_aload2f, e_aload3f, e_aload4f, e_aload5f, e_aload6f, e_aload7f, e_aload8f, e_aload9f, e_aload10f, e_iinc0, e_iinc1, e_iinc2, e_iinc3, e_iinc4, e_iinc5, e_iinc6, e_iinc7, e_iinc8, e_iinc9, e_iinc10, xst_0, xst_1i, xst2_1i, xst_1r, xst2_1r, xst_1n, xst2_1n, xst_1f, xst2_1f, xst_1u, xst2_1u, xst_1l, xst2_1l, xst2_0, xst_s, xst2_s, e_istore, e_lstore, e_astore, e_astoreN, e_iadd, e_isub, e_imul, e_iand, e_ior, e_ixor, e_ishl, e_ishr, e_iushr, e_ladd, e_lsub, e_lmul, e_land, e_lor, e_lshl, e_lcmp, e_i2l, e_l2i, e_i2b, e_ineg, e_dupi, e_dupr, e_dup2, e_popi, e_popr, e_idiv, e_irem, e_ldiv, e_lrem, e_ifCond, e_if_icmp, e_ifnullR, e_ifnullN, e_ifnonnullR, e_ifnonnullN, e_goto, e_jsr, e_tsw, e_lsw, e_getfield, e_dload, e_fload, e_putfield, e_dstore, e_fstore, e_fstoreN, e_monitor, e_new, e_newarray, e_anewarray, e_mnew, e_alen, e_slen, e_schr, e_alenF, e_iaload, e_ialoadF, e_baload, e_laload, e_aaload, e_iastore, e_lastore, e_aastore, e_bastoreB, e_bastoreZ, e_copy, e_ireturnI, e_ireturnZ0, e_ireturnZ1, e_ireturnZb, e_lreturn, e_areturn, e_areturnA, e_areturnN, e_return, ofI, ofIm, ofJ, cat_i, cat_l, cat_r, cat_f, cat_n, xent_0, xent_i, xent_l, xent_r, xent_n, xent_f, xentry, xrf_s, xrf_n, List.getD_cons_zero, List.getD_cons_succ, List.length_cons, List.length_nil, List.cons_append, List.nil_append, List.append_nil, List.map_cons, List.map_nil, List.sum_cons, List.sum_nil, List.replicate, oT_s, oT_n, true_and, and_true, Nat.reduceAdd, Nat.reduceSub, Nat.reduceLeDiff, Nat.reduceEqDiff, Nat.reduceLT, Nat.reduceDiv, Nat.reduceMod, Nat.reduceMul, eq_self, ofN, nI_dec, nI_11, or_true, true_or, false_or, or_false, nI_e0, nI_0lt, Nat.succ_ne_zero, Nat.zero_lt_succ, lg_cmp_gt, lg_cmp_lt, lg_cmp_eq, nI_lt0, nI_add, pk_sub, pk_mul, Nat.add_sub_cancel, nI_clamp, vp_in_T, nI_ltI, nI_leI, nI_eqI, Nat.zero_add, Nat.add_zero, xc_eq, xc_ne, xc_lt, xc_ge, xc_gt, xc_le, bI_0, bI_0n, bI_n0, not_true_eq_false, not_false_eq_true, if_true, if_false, ite_true, ite_false, decide_true, decide_false, and_self, and_true, true_and, Bool.not_false, Bool.not_true, Bool.true_and, Bool.and_true, Bool.false_and, Bool.and_false, Bool.and_self, Bool.true_eq_false, Bool.false_eq_true, decide_true, decide_false, not_true_eq_false, not_false_eq_true, eq_self, zs_127 hz, zr_127_0 hz, zr_127_3 hz, zr_127_4 hz, zr_127_5 hz, zr_127_6 hz, zr_127_7 hz, zr_127_15 hz, zr_127_17 hz, zr_127_19 hz, zr_127_20 hz, zr_127_23 hz, zr_127_24 hz, zr_127_26 hz, zr_127_27 hz, zr_127_28 hz, zr_127_29 hz, zr_127_32 hz, zr_127_33 hz, zr_127_34 hz, zr_127_35 hz, zr_127_36 hz, zr_127_37 hz, zr_127_39 hz, zr_127_40 hz, zr_127_41 hz, zr_127_42 hz, zs_127 zA, zr_127_6 zA, zr_127_5 zA, zr_127_4 zA, zs_132 zA, zl_132 zA, zs_130 zA, zl_130 zA, zs_131 zA, zl_131 zA, a11, g132, al, n1, xis_sI, v169, v180, cpw, c3]
  | ok ie =>
    obtain ⟨e, m, s⟩ := ie
    rw [ev] at r3
    obtain ⟨rfl, s3⟩ := r3
    obtain ⟨⟨u1, u2, u3, u4, u5, u6, u7⟩, u8, -⟩ := sumF_ok hTb t4 af2 hn ev
    rw [List.length_nil] at u3
    obtain ⟨z3, t3, -, b8, b9, b11, b12, bl, bc⟩ := id s3
    have k0 : xI h3 131 (48 * t + 4 * c) = nI b := by rw [f3.1.2.2.2.1 131 (by decide) (by unfold VP; decide)]; exact g0
    have k132 : xI h3 132 t = nI c := by rw [f3.1.2.2.2.1 132 (by decide) (by unfold VP; decide)]; exact g132'
    -- the sum's end
    have fD : FC t b c h3 (setI (setI h3 131 (48 * t + 4 * c + 1) (nI (b + s.length))) 131 (48 * t + 4 * c + 2) (-(nI 1))) := (FC.s31 (by omega)).tr (FC.s31 (by omega))
    have sD := (s3.so (q := 131) (j := 48 * t + 4 * c + 1) (x := nI (b + s.length)) (.inl rfl)).so (q := 131) (j := 48 * t + 4 * c + 2) (x := -(nI 1)) (.inl rfl)
    have d0 : ∀ i, xI (setI (setI h3 131 (48 * t + 4 * c + 1) (nI (b + s.length))) 131 (48 * t + 4 * c + 2) (-(nI 1))) 131 i = if i = 48 * t + 4 * c + 2 then -(nI 1) else if i = 48 * t + 4 * c + 1 then nI (b + s.length) else xI h3 131 i := by
      intro i
      rw [xI_sI, xI_sI]
      by_cases z1 : i = 48 * t + 4 * c + 2
      · rw [if_pos ⟨rfl, z1⟩, if_pos z1]
      · rw [if_neg (fun y => z1 y.2), if_neg z1]
        by_cases z2 : i = 48 * t + 4 * c + 1
        · rw [if_pos ⟨rfl, z2⟩, if_pos z2]
        · rw [if_neg (fun y => z2 y.2), if_neg z2]
    have d132 : xI (setI (setI h3 131 (48 * t + 4 * c + 1) (nI (b + s.length))) 131 (48 * t + 4 * c + 2) (-(nI 1))) 132 t = nI c := by rw [xI_s_ne (by decide), xI_s_ne (by decide)]; exact k132
    have d11 : xI (setI h3 131 (48 * t + 4 * c + 1) (nI (b + s.length))) 127 11 = nI t := by rw [xI_s_ne (by decide)]; exact b11
    revert fD sD d0 d132
    generalize eD : setI (setI h3 131 (48 * t + 4 * c + 1) (nI (b + s.length))) 131 (48 * t + 4 * c + 2) (-(nI 1)) = hD
    intro fD sD d0 d132
    obtain ⟨zD, tD, -, k8, k9, k11, k12, kl, kc⟩ := id sD
    have wI := fun Q => r_isW0 (L := L) (d := d + 6) (xs := xs) (Q := Q) (W := 26982) zD tD u2 u8 k8 (by decide)
    dsimp only
    by_cases q1 : isW B T e 26982 = true
    · rw [if_pos q1]
      rw [q1] at wI
      obtain ⟨eT, -, ee⟩ := kd_257 hTb (isW_257 q1)
      have af3 := afF_lt (B := B) eT
      have af4 := (afF_le (B := B) u2).2
      have cpw2 := fun Q => r_passWord (L := L) (d := d + 6) (xs := xs) (Q := Q) zD tD u2 k8
      rw [← ee] at cpw2
      have cw := fun Q => show Call (pG L xs) pM (d + 9) 170 [.ref 127, .long (lN 26982)] hD Q = Q (some (.int (bI true))) (setI hD 127 8 (nI (afF B T e))) by
        simp (disch := omega) only [m170, b170_0, k170_1, b170_1, e_iconst, e_lconst, e_null, e_ldc, e_iload0i, e_iload1i, e_iload2i, e_iload3i, e_iload4i, e_iload5i, e_iload6i, e_iload7i, e_iload8i, e_iload9i, e_iload10i, e_lload0l, e_lload1l, e_lload2l, e_lload3l, e_lload4l, e_lload5l, e_lload6l, e_lload7l, e_lload8l, e_lload9l, e_lload10l, e_aload0r, e_aload1r, e_aload2r, e_aload3r, e_aload4r, e_aload5r, e_aload6r, e_aload7r, e_aload8r, e_aload9r, e_aload10r, e_aload0n, e_aload1n, e_aload2n, e_aload3n, e_aload4n, e_aload5n, e_aload6n, e_aload7n, e_aload8n, e_aload9n, e_aload10n, e_aload0f, e_aload1f, e_aload2f, e_aload3f, e_aload4f, e_aload5f, e_aload6f, e_aload7f, e_aload8f, e_aload9f, e_aload10f, e_iinc0, e_iinc1, e_iinc2, e_iinc3, e_iinc4, e_iinc5, e_iinc6, e_iinc7, e_iinc8, e_iinc9, e_iinc10, xst_0, xst_1i, xst2_1i, xst_1r, xst2_1r, xst_1n, xst2_1n, xst_1f, xst2_1f, xst_1u, xst2_1u, xst_1l, xst2_1l, xst2_0, xst_s, xst2_s, e_istore, e_lstore, e_astore, e_astoreN, e_iadd, e_isub, e_imul, e_iand, e_ior, e_ixor, e_ishl, e_ishr, e_iushr, e_ladd, e_lsub, e_lmul, e_land, e_lor, e_lshl, e_lcmp, e_i2l, e_l2i, e_i2b, e_ineg, e_dupi, e_dupr, e_dup2, e_popi, e_popr, e_idiv, e_irem, e_ldiv, e_lrem, e_ifCond, e_if_icmp, e_ifnullR, e_ifnullN, e_ifnonnullR, e_ifnonnullN, e_goto, e_jsr, e_tsw, e_lsw, e_getfield, e_dload, e_fload, e_putfield, e_dstore, e_fstore, e_fstoreN, e_monitor, e_new, e_newarray, e_anewarray, e_mnew, e_alen, e_slen, e_schr, e_alenF, e_iaload, e_ialoadF, e_baload, e_laload, e_aaload, e_iastore, e_lastore, e_aastore, e_bastoreB, e_bastoreZ, e_copy, e_ireturnI, e_ireturnZ0, e_ireturnZ1, e_ireturnZb, e_lreturn, e_areturn, e_areturnA, e_areturnN, e_return, ofI, ofIm, ofJ, cat_i, cat_l, cat_r, cat_f, cat_n, xent_0, xent_i, xent_l, xent_r, xent_n, xent_f, xentry, xrf_s, xrf_n, List.getD_cons_zero, List.getD_cons_succ, List.length_cons, List.length_nil, List.cons_append, List.nil_append, List.append_nil, List.map_cons, List.map_nil, List.sum_cons, List.sum_nil, List.replicate, oT_s, oT_n, true_and, and_true, Nat.reduceAdd, Nat.reduceSub, Nat.reduceLeDiff, Nat.reduceEqDiff, Nat.reduceLT, Nat.reduceDiv, Nat.reduceMod, Nat.reduceMul, eq_self, ofN, nI_dec, nI_11, or_true, true_or, false_or, or_false, nI_e0, nI_0lt, Nat.succ_ne_zero, Nat.zero_lt_succ, lg_cmp_gt, lg_cmp_lt, lg_cmp_eq, nI_lt0, nI_add, pk_sub, pk_mul, Nat.add_sub_cancel, nI_clamp, vp_in_T, nI_ltI, nI_leI, nI_eqI, Nat.zero_add, Nat.add_zero, xc_eq, xc_ne, xc_lt, xc_ge, xc_gt, xc_le, bI_0, bI_0n, bI_n0, not_true_eq_false, not_false_eq_true, if_true, if_false, ite_true, ite_false, decide_true, decide_false, and_self, and_true, true_and, Bool.not_false, Bool.not_true, Bool.true_and, Bool.and_true, Bool.false_and, Bool.and_false, Bool.and_self, Bool.true_eq_false, Bool.false_eq_true, decide_true, decide_false, not_true_eq_false, not_false_eq_true, eq_self, zs_127 zD, v168, v169, wI, cpw2, show bI true = nI 1 from rfl]
      have sE := (sD.s8 af4).so (q := 131) (j := 48 * t + 4 * c + 2) (x := nI (b + s.length)) (.inl rfl)
      have fE : FC t b c hD (setI (setI hD 127 8 (nI (afF B T e))) 131 (48 * t + 4 * c + 2) (nI (b + s.length))) := (FC.s7 (by unfold TJ; omega)).tr (FC.s31 (by omega))
      have zE1 : Bas (setI hD 127 8 (nI (afF B T e))) := zD.sI
      have w11 : xI (setI hD 127 8 (nI (afF B T e))) 127 11 = nI t := by rw [xI_sI, if_neg (by decide)]; exact k11
      have wl : xI (setI hD 127 8 (nI (afF B T e))) 130 t = nI (b + s.length) := by rw [xI_s_ne (by decide)]; exact kl
      have e0 : ∀ i, xI (setI (setI hD 127 8 (nI (afF B T e))) 131 (48 * t + 4 * c + 2) (nI (b + s.length))) 131 i = if i = 48 * t + 4 * c + 2 then nI (b + s.length) else xI hD 131 i := by
        intro i
        rw [xI_sI]
        by_cases z1 : i = 48 * t + 4 * c + 2
        · rw [if_pos ⟨rfl, z1⟩, if_pos z1]
        · rw [if_neg (fun y => z1 y.2), if_neg z1, xI_s_ne (by decide)]
      have e132 : xI (setI (setI hD 127 8 (nI (afF B T e))) 131 (48 * t + 4 * c + 2) (nI (b + s.length))) 132 t = nI c := by rw [xI_s_ne (by decide), xI_s_ne (by decide)]; exact d132
      revert sE fE e0 e132
      generalize eE : setI (setI hD 127 8 (nI (afF B T e))) 131 (48 * t + 4 * c + 2) (nI (b + s.length)) = hE
      intro sE fE e0 e132
      have zE := sE.1
      have cE := sE.2.2.2.2.2.2.2.2
      obtain ⟨g, h4, ⟨f4, r4⟩, c4⟩ := r_tested (L := L) (d := d) (xs := xs) sE.sh ht u4 (by rw [List.length_nil]; omega)
      have fcc : FC t b c h h4 := ((((f1.tr f2).tr f3.ft.fc).tr fD).tr fE).tr ((f4.mo (by omega)).fc)
      cases ew : tesF B T 401 (afF B T e) m [] [] with
      | error f =>
        rw [ew] at r4
        obtain ⟨rfl, g1⟩ := r4
        refine ⟨false, h4, fcc, ⟨rfl, g1⟩, fun Q => ?_⟩
        simp (disch := omega) only [m186, b186_0, k186_1, b186_1, e_iconst, e_lconst, e_null, e_ldc, e_iload0i, e_iload1i, e_iload2i, e_iload3i, e_iload4i, e_iload5i, e_iload6i, e_iload7i, e_iload8i, e_iload9i, e_iload10i, e_lload0l, e_lload1l, e_lload2l, e_lload3l, e_lload4l, e_lload5l, e_lload6l, e_lload7l, e_lload8l, e_lload9l, e_lload10l, e_aload0r, e_aload1r, e_aload2r, e_aload3r, e_aload4r, e_aload5r, e_aload6r, e_aload7r, e_aload8r, e_aload9r, e_aload10r, e_aload0n, e_aload1n, e_aload2n, e_aload3n, e_aload4n, e_aload5n, e_aload6n, e_aload7n, e_aload8n, e_aload9n, e_aload10n, e_aload0f, e_aload1f, e_aload2f, e_aload3f, e_aload4f, e_aload5f, e_aload6f, e_aload7f, e_aload8f, e_aload9f, e_aload10f, e_iinc0, e_iinc1, e_iinc2, e_iinc3, e_iinc4, e_iinc5, e_iinc6, e_iinc7, e_iinc8, e_iinc9, e_iinc10, xst_0, xst_1i, xst2_1i, xst_1r, xst2_1r, xst_1n, xst2_1n, xst_1f, xst2_1f, xst_1u, xst2_1u, xst_1l, xst2_1l, xst2_0, xst_s, xst2_s, e_istore, e_lstore, e_astore, e_astoreN, e_iadd, e_isub, e_imul, e_iand, e_ior, e_ixor, e_ishl, e_ishr, e_iushr, e_ladd, e_lsub, e_lmul, e_land, e_lor, e_lshl, e_lcmp, e_i2l, e_l2i, e_i2b, e_ineg, e_dupi, e_dupr, e_dup2, e_popi, e_popr, e_idiv, e_irem, e_ldiv, e_lrem, e_ifCond, e_if_icmp, e_ifnullR, e_ifnullN, e_ifnonnullR, e_ifnonnullN, e_goto, e_jsr, e_tsw, e_lsw, e_getfield, e_dload, e_fload, e_putfield, e_dstore, e_fstore, e_fstoreN, e_monitor, e_new, e_newarray, e_anewarray, e_mnew, e_alen, e_slen, e_schr, e_alenF, e_iaload, e_ialoadF, e_baload, e_laload, e_aaload, e_iastore, e_lastore, e_aastore, e_bastoreB, e_bastoreZ, e_copy, e_ireturnI, e_ireturnZ0, e_ireturnZ1, e_ireturnZb, e_lreturn, e_areturn, e_areturnA, e_areturnN, e_return, ofI, ofIm, ofJ, cat_i, cat_l, cat_r, cat_f, cat_n, xent_0, xent_i, xent_l, xent_r, xent_n, xent_f, xentry, xrf_s, xrf_n, List.getD_cons_zero, List.getD_cons_succ, List.length_cons, List.length_nil, List.cons_append, List.nil_append, List.append_nil, List.map_cons, List.map_nil, List.sum_cons, List.sum_nil, List.replicate, oT_s, oT_n, true_and, and_true, Nat.reduceAdd, Nat.reduceSub, Nat.reduceLeDiff, Nat.reduceEqDiff, Nat.reduceLT, Nat.reduceDiv, Nat.reduceMod, Nat.reduceMul, eq_self, ofN, nI_dec, nI_11, or_true, true_or, false_or, or_false, nI_e0, nI_0lt, Nat.succ_ne_zero, Nat.zero_lt_succ, lg_cmp_gt, lg_cmp_lt, lg_cmp_eq, nI_lt0, nI_add, pk_sub, pk_mul, Nat.add_sub_cancel, nI_clamp, vp_in_T, nI_ltI, nI_leI, nI_eqI, Nat.zero_add, Nat.add_zero, xc_eq, xc_ne, xc_lt, xc_ge, xc_gt, xc_le, bI_0, bI_0n, bI_n0, not_true_eq_false, not_false_eq_true, if_true, if_false, ite_true, ite_false, decide_true, decide_false, and_self, and_true, true_and, Bool.not_false, Bool.not_true, Bool.true_and, Bool.and_true, Bool.false_and, Bool.and_false, Bool.and_self, Bool.true_eq_false, Bool.false_eq_true, decide_true, decide_false, not_true_eq_false, not_false_eq_true, eq_self, zs_127 hz, zr_127_0 hz, zr_127_3 hz, zr_127_4 hz, zr_127_5 hz, zr_127_6 hz, zr_127_7 hz, zr_127_15 hz, zr_127_17 hz, zr_127_19 hz, zr_127_20 hz, zr_127_23 hz, zr_127_24 hz, zr_127_26 hz, zr_127_27 hz, zr_127_28 hz, zr_127_29 hz, zr_127_32 hz, zr_127_33 hz, zr_127_34 hz, zr_127_35 hz, zr_127_36 hz, zr_127_37 hz, zr_127_39 hz, zr_127_40 hz, zr_127_41 hz, zr_127_42 hz, zs_127 zA, zr_127_6 zA, zr_127_5 zA, zr_127_4 zA, zs_132 zA, zl_132 zA, zs_130 zA, zl_130 zA, zs_131 zA, zl_131 zA, a11, g132, al, n1, xis_sI, xlen_sI, xR_sI, v169, v180, cpw, c3, zs_127 z3, zr_127_5 z3, zr_127_4 z3, zs_131 z3, zl_131 z3, zs_130 z3, zl_130 z3, b11, bl, d11, eD, v170, cw, zs_127 zE1, zr_127_5 zE1, zr_127_4 zE1, zs_131 zE1, zl_131 zE1, zs_130 zE1, zl_130 zE1, w11, wl, eE, v185, c4, zs_127 zD, zs_127 zE]
      | ok ie =>
        obtain ⟨e2, m2, v⟩ := ie
        rw [ew] at r4
        obtain ⟨rfl, s4⟩ := r4
        obtain ⟨y1, y2, y3, y4, y5, y6, y7, -⟩ := tesF_ok hTb t4 401 _ _ _ _ e2 m2 v (by omega) af4 u4 (fun x hx => (by cases hx)) (by decide) ew
        obtain ⟨z4, t4', -, o8, o9, o11, o12, ol, oc⟩ := id s4
        have l131 : ∀ i, xI h4 131 i = xI hE 131 i := fun i => by rw [f4.1.2.2.2.1 131 (by decide) (by unfold TP; decide)]
        have l132 : xI h4 132 t = nI c := by rw [f4.1.2.2.2.1 132 (by decide) (by unfold TP; decide)]; exact e132
        have x11 : xI (setI h4 131 (48 * t + 4 * c + 3) (nI (b + s.length + v.length))) 127 11 = nI t := by rw [xI_s_ne (by decide)]; exact o11
        have x132 : xI (setI h4 131 (48 * t + 4 * c + 3) (nI (b + s.length + v.length))) 132 t = nI c := by rw [xI_s_ne (by decide)]; exact l132
        have r9 : ∀ i, xI (setI (setI h4 131 (48 * t + 4 * c + 3) (nI (b + s.length + v.length))) 132 t (nI (c + 1))) 131 i = if i = 48 * t + 4 * c + 3 then nI (b + s.length + v.length) else xI h4 131 i := by
          intro i
          rw [xI_s_ne (by decide), xI_sI]
          by_cases z1 : i = 48 * t + 4 * c + 3
          · rw [if_pos ⟨rfl, z1⟩, if_pos z1]
          · rw [if_neg (fun y => z1 y.2), if_neg z1]
        refine ⟨true, setI (setI h4 131 (48 * t + 4 * c + 3) (nI (b + s.length + v.length))) 132 t (nI (c + 1)), (fcc.tr (FC.s31 (by omega))).tr FC.s32, ⟨rfl, ?_, by rw [xI_sI, if_pos ⟨rfl, rfl⟩], ?_⟩, fun Q => ?_⟩
        · have := ((s4.so (q := 131) (j := 48 * t + 4 * c + 3) (x := nI (b + s.length + v.length)) (.inl rfl)).so (q := 132) (j := t) (x := nI (c + 1)) (.inr rfl)).sh
          rw [clN_2, ← Nat.add_assoc]; exact this
        · refine ⟨?_, ?_, ?_, ?_, ?_, ?_, trivial⟩
          · rw [r9, if_neg (by omega), l131, e0, if_neg (by omega), d0, if_neg (by omega), if_neg (by omega)]; exact k0
          · rw [r9, if_neg (by omega), l131, e0, if_neg (by omega), d0, if_neg (by omega), if_pos rfl]
          · rw [r9, if_neg (by omega), l131, e0, if_pos rfl]
          · rw [r9, if_pos rfl]
          · refine cE.eq (fun k k1 k2 => ?_)
            rw [xI_s_ne (by decide), xI_s_ne (by decide)]
            exact f4.2 _ (by omega)
          · refine oc.eq (fun k k1 k2 => ?_)
            rw [xI_s_ne (by decide), xI_s_ne (by decide)]
        · simp (disch := omega) only [m186, b186_0, k186_1, b186_1, k186_2, b186_2, e_iconst, e_lconst, e_null, e_ldc, e_iload0i, e_iload1i, e_iload2i, e_iload3i, e_iload4i, e_iload5i, e_iload6i, e_iload7i, e_iload8i, e_iload9i, e_iload10i, e_lload0l, e_lload1l, e_lload2l, e_lload3l, e_lload4l, e_lload5l, e_lload6l, e_lload7l, e_lload8l, e_lload9l, e_lload10l, e_aload0r, e_aload1r, e_aload2r, e_aload3r, e_aload4r, e_aload5r, e_aload6r, e_aload7r, e_aload8r, e_aload9r, e_aload10r, e_aload0n, e_aload1n, e_aload2n, e_aload3n, e_aload4n, e_aload5n, e_aload6n, e_aload7n, e_aload8n, e_aload9n, e_aload10n, e_aload0f, e_aload1f, e_aload2f, e_aload3f, e_aload4f, e_aload5f, e_aload6f, e_aload7f, e_aload8f, e_aload9f, e_aload10f, e_iinc0, e_iinc1, e_iinc2, e_iinc3, e_iinc4, e_iinc5, e_iinc6, e_iinc7, e_iinc8, e_iinc9, e_iinc10, xst_0, xst_1i, xst2_1i, xst_1r, xst2_1r, xst_1n, xst2_1n, xst_1f, xst2_1f, xst_1u, xst2_1u, xst_1l, xst2_1l, xst2_0, xst_s, xst2_s, e_istore, e_lstore, e_astore, e_astoreN, e_iadd, e_isub, e_imul, e_iand, e_ior, e_ixor, e_ishl, e_ishr, e_iushr, e_ladd, e_lsub, e_lmul, e_land, e_lor, e_lshl, e_lcmp, e_i2l, e_l2i, e_i2b, e_ineg, e_dupi, e_dupr, e_dup2, e_popi, e_popr, e_idiv, e_irem, e_ldiv, e_lrem, e_ifCond, e_if_icmp, e_ifnullR, e_ifnullN, e_ifnonnullR, e_ifnonnullN, e_goto, e_jsr, e_tsw, e_lsw, e_getfield, e_dload, e_fload, e_putfield, e_dstore, e_fstore, e_fstoreN, e_monitor, e_new, e_newarray, e_anewarray, e_mnew, e_alen, e_slen, e_schr, e_alenF, e_iaload, e_ialoadF, e_baload, e_laload, e_aaload, e_iastore, e_lastore, e_aastore, e_bastoreB, e_bastoreZ, e_copy, e_ireturnI, e_ireturnZ0, e_ireturnZ1, e_ireturnZb, e_lreturn, e_areturn, e_areturnA, e_areturnN, e_return, ofI, ofIm, ofJ, cat_i, cat_l, cat_r, cat_f, cat_n, xent_0, xent_i, xent_l, xent_r, xent_n, xent_f, xentry, xrf_s, xrf_n, List.getD_cons_zero, List.getD_cons_succ, List.length_cons, List.length_nil, List.cons_append, List.nil_append, List.append_nil, List.map_cons, List.map_nil, List.sum_cons, List.sum_nil, List.replicate, oT_s, oT_n, true_and, and_true, Nat.reduceAdd, Nat.reduceSub, Nat.reduceLeDiff, Nat.reduceEqDiff, Nat.reduceLT, Nat.reduceDiv, Nat.reduceMod, Nat.reduceMul, eq_self, ofN, nI_dec, nI_11, or_true, true_or, false_or, or_false, nI_e0, nI_0lt, Nat.succ_ne_zero, Nat.zero_lt_succ, lg_cmp_gt, lg_cmp_lt, lg_cmp_eq, nI_lt0, nI_add, pk_sub, pk_mul, Nat.add_sub_cancel, nI_clamp, vp_in_T, nI_ltI, nI_leI, nI_eqI, Nat.zero_add, Nat.add_zero, xc_eq, xc_ne, xc_lt, xc_ge, xc_gt, xc_le, bI_0, bI_0n, bI_n0, not_true_eq_false, not_false_eq_true, if_true, if_false, ite_true, ite_false, decide_true, decide_false, and_self, and_true, true_and, Bool.not_false, Bool.not_true, Bool.true_and, Bool.and_true, Bool.false_and, Bool.and_false, Bool.and_self, Bool.true_eq_false, Bool.false_eq_true, decide_true, decide_false, not_true_eq_false, not_false_eq_true, eq_self, zs_127 hz, zr_127_0 hz, zr_127_3 hz, zr_127_4 hz, zr_127_5 hz, zr_127_6 hz, zr_127_7 hz, zr_127_15 hz, zr_127_17 hz, zr_127_19 hz, zr_127_20 hz, zr_127_23 hz, zr_127_24 hz, zr_127_26 hz, zr_127_27 hz, zr_127_28 hz, zr_127_29 hz, zr_127_32 hz, zr_127_33 hz, zr_127_34 hz, zr_127_35 hz, zr_127_36 hz, zr_127_37 hz, zr_127_39 hz, zr_127_40 hz, zr_127_41 hz, zr_127_42 hz, zs_127 zA, zr_127_6 zA, zr_127_5 zA, zr_127_4 zA, zs_132 zA, zl_132 zA, zs_130 zA, zl_130 zA, zs_131 zA, zl_131 zA, a11, g132, al, n1, xis_sI, xlen_sI, xR_sI, v169, v180, cpw, c3, zs_127 z3, zr_127_5 z3, zr_127_4 z3, zs_131 z3, zl_131 z3, zs_130 z3, zl_130 z3, b11, bl, d11, eD, v170, cw, zs_127 zE1, zr_127_5 zE1, zr_127_4 zE1, zs_131 zE1, zl_131 zE1, zs_130 zE1, zl_130 zE1, w11, wl, eE, v185, c4, zs_127 zD, zs_127 zE, zs_127 z4, zr_127_4 z4, zr_127_5 z4, zr_127_6 z4, zs_131 z4, zl_131 z4, zs_130 z4, zl_130 z4, zs_132 z4, zl_132 z4, o11, ol, x11, x132, l132, show bI true = nI 1 from rfl]
    · have q1' : isW B T e 26982 = false := by simpa using q1
      rw [if_neg q1]
      rw [q1'] at wI
      have cw := fun Q => show Call (pG L xs) pM (d + 9) 170 [.ref 127, .long (lN 26982)] hD Q = Q (some (.int (bI false))) hD by
        simp (disch := omega) only [m170, b170_0, k170_1, b170_1, e_iconst, e_lconst, e_null, e_ldc, e_iload0i, e_iload1i, e_iload2i, e_iload3i, e_iload4i, e_iload5i, e_iload6i, e_iload7i, e_iload8i, e_iload9i, e_iload10i, e_lload0l, e_lload1l, e_lload2l, e_lload3l, e_lload4l, e_lload5l, e_lload6l, e_lload7l, e_lload8l, e_lload9l, e_lload10l, e_aload0r, e_aload1r, e_aload2r, e_aload3r, e_aload4r, e_aload5r, e_aload6r, e_aload7r, e_aload8r, e_aload9r, e_aload10r, e_aload0n, e_aload1n, e_aload2n, e_aload3n, e_aload4n, e_aload5n, e_aload6n, e_aload7n, e_aload8n, e_aload9n, e_aload10n, e_aload0f, e_aload1f, e_aload2f, e_aload3f, e_aload4f, e_aload5f, e_aload6f, e_aload7f, e_aload8f, e_aload9f, e_aload10f, e_iinc0, e_iinc1, e_iinc2, e_iinc3, e_iinc4, e_iinc5, e_iinc6, e_iinc7, e_iinc8, e_iinc9, e_iinc10, xst_0, xst_1i, xst2_1i, xst_1r, xst2_1r, xst_1n, xst2_1n, xst_1f, xst2_1f, xst_1u, xst2_1u, xst_1l, xst2_1l, xst2_0, xst_s, xst2_s, e_istore, e_lstore, e_astore, e_astoreN, e_iadd, e_isub, e_imul, e_iand, e_ior, e_ixor, e_ishl, e_ishr, e_iushr, e_ladd, e_lsub, e_lmul, e_land, e_lor, e_lshl, e_lcmp, e_i2l, e_l2i, e_i2b, e_ineg, e_dupi, e_dupr, e_dup2, e_popi, e_popr, e_idiv, e_irem, e_ldiv, e_lrem, e_ifCond, e_if_icmp, e_ifnullR, e_ifnullN, e_ifnonnullR, e_ifnonnullN, e_goto, e_jsr, e_tsw, e_lsw, e_getfield, e_dload, e_fload, e_putfield, e_dstore, e_fstore, e_fstoreN, e_monitor, e_new, e_newarray, e_anewarray, e_mnew, e_alen, e_slen, e_schr, e_alenF, e_iaload, e_ialoadF, e_baload, e_laload, e_aaload, e_iastore, e_lastore, e_aastore, e_bastoreB, e_bastoreZ, e_copy, e_ireturnI, e_ireturnZ0, e_ireturnZ1, e_ireturnZb, e_lreturn, e_areturn, e_areturnA, e_areturnN, e_return, ofI, ofIm, ofJ, cat_i, cat_l, cat_r, cat_f, cat_n, xent_0, xent_i, xent_l, xent_r, xent_n, xent_f, xentry, xrf_s, xrf_n, List.getD_cons_zero, List.getD_cons_succ, List.length_cons, List.length_nil, List.cons_append, List.nil_append, List.append_nil, List.map_cons, List.map_nil, List.sum_cons, List.sum_nil, List.replicate, oT_s, oT_n, true_and, and_true, Nat.reduceAdd, Nat.reduceSub, Nat.reduceLeDiff, Nat.reduceEqDiff, Nat.reduceLT, Nat.reduceDiv, Nat.reduceMod, Nat.reduceMul, eq_self, ofN, nI_dec, nI_11, or_true, true_or, false_or, or_false, nI_e0, nI_0lt, Nat.succ_ne_zero, Nat.zero_lt_succ, lg_cmp_gt, lg_cmp_lt, lg_cmp_eq, nI_lt0, nI_add, pk_sub, pk_mul, Nat.add_sub_cancel, nI_clamp, vp_in_T, nI_ltI, nI_leI, nI_eqI, Nat.zero_add, Nat.add_zero, xc_eq, xc_ne, xc_lt, xc_ge, xc_gt, xc_le, bI_0, bI_0n, bI_n0, not_true_eq_false, not_false_eq_true, if_true, if_false, ite_true, ite_false, decide_true, decide_false, and_self, and_true, true_and, Bool.not_false, Bool.not_true, Bool.true_and, Bool.and_true, Bool.false_and, Bool.and_false, Bool.and_self, Bool.true_eq_false, Bool.false_eq_true, decide_true, decide_false, not_true_eq_false, not_false_eq_true, eq_self, zs_127 zD, v168, wI, show bI false = nI 0 from rfl]
      have x11 : xI (setI hD 131 (48 * t + 4 * c + 3) (nI (b + s.length))) 127 11 = nI t := by rw [xI_s_ne (by decide)]; exact k11
      have x132 : xI (setI hD 131 (48 * t + 4 * c + 3) (nI (b + s.length))) 132 t = nI c := by rw [xI_s_ne (by decide)]; exact d132
      have r9 : ∀ i, xI (setI (setI hD 131 (48 * t + 4 * c + 3) (nI (b + s.length))) 132 t (nI (c + 1))) 131 i = if i = 48 * t + 4 * c + 3 then nI (b + s.length) else xI hD 131 i := by
        intro i
        rw [xI_s_ne (by decide), xI_sI]
        by_cases z1 : i = 48 * t + 4 * c + 3
        · rw [if_pos ⟨rfl, z1⟩, if_pos z1]
        · rw [if_neg (fun y => z1 y.2), if_neg z1]
      refine ⟨true, setI (setI hD 131 (48 * t + 4 * c + 3) (nI (b + s.length))) 132 t (nI (c + 1)), (((((f1.tr f2).tr f3.ft.fc).tr fD)).tr (FC.s31 (by omega))).tr FC.s32, ⟨rfl, ?_, by rw [xI_sI, if_pos ⟨rfl, rfl⟩], ?_⟩, fun Q => ?_⟩
      · exact ((sD.so (q := 131) (j := 48 * t + 4 * c + 3) (x := nI (b + s.length)) (.inl rfl)).so (q := 132) (j := t) (x := nI (c + 1)) (.inr rfl)).sh
      · refine ⟨?_, ?_, ?_, ?_, trivial⟩
        · rw [r9, if_neg (by omega), d0, if_neg (by omega), if_neg (by omega)]; exact k0
        · rw [r9, if_neg (by omega), d0, if_neg (by omega), if_pos rfl]
        · rw [r9, if_neg (by omega), d0, if_pos rfl]
        · refine kc.eq (fun k k1 k2 => ?_)
          rw [xI_s_ne (by decide), xI_s_ne (by decide)]
      · simp (disch := omega) only [m186, b186_0, k186_1, b186_1, k186_2, b186_2, e_iconst, e_lconst, e_null, e_ldc, e_iload0i, e_iload1i, e_iload2i, e_iload3i, e_iload4i, e_iload5i, e_iload6i, e_iload7i, e_iload8i, e_iload9i, e_iload10i, e_lload0l, e_lload1l, e_lload2l, e_lload3l, e_lload4l, e_lload5l, e_lload6l, e_lload7l, e_lload8l, e_lload9l, e_lload10l, e_aload0r, e_aload1r, e_aload2r, e_aload3r, e_aload4r, e_aload5r, e_aload6r, e_aload7r, e_aload8r, e_aload9r, e_aload10r, e_aload0n, e_aload1n, e_aload2n, e_aload3n, e_aload4n, e_aload5n, e_aload6n, e_aload7n, e_aload8n, e_aload9n, e_aload10n, e_aload0f, e_aload1f, e_aload2f, e_aload3f, e_aload4f, e_aload5f, e_aload6f, e_aload7f, e_aload8f, e_aload9f, e_aload10f, e_iinc0, e_iinc1, e_iinc2, e_iinc3, e_iinc4, e_iinc5, e_iinc6, e_iinc7, e_iinc8, e_iinc9, e_iinc10, xst_0, xst_1i, xst2_1i, xst_1r, xst2_1r, xst_1n, xst2_1n, xst_1f, xst2_1f, xst_1u, xst2_1u, xst_1l, xst2_1l, xst2_0, xst_s, xst2_s, e_istore, e_lstore, e_astore, e_astoreN, e_iadd, e_isub, e_imul, e_iand, e_ior, e_ixor, e_ishl, e_ishr, e_iushr, e_ladd, e_lsub, e_lmul, e_land, e_lor, e_lshl, e_lcmp, e_i2l, e_l2i, e_i2b, e_ineg, e_dupi, e_dupr, e_dup2, e_popi, e_popr, e_idiv, e_irem, e_ldiv, e_lrem, e_ifCond, e_if_icmp, e_ifnullR, e_ifnullN, e_ifnonnullR, e_ifnonnullN, e_goto, e_jsr, e_tsw, e_lsw, e_getfield, e_dload, e_fload, e_putfield, e_dstore, e_fstore, e_fstoreN, e_monitor, e_new, e_newarray, e_anewarray, e_mnew, e_alen, e_slen, e_schr, e_alenF, e_iaload, e_ialoadF, e_baload, e_laload, e_aaload, e_iastore, e_lastore, e_aastore, e_bastoreB, e_bastoreZ, e_copy, e_ireturnI, e_ireturnZ0, e_ireturnZ1, e_ireturnZb, e_lreturn, e_areturn, e_areturnA, e_areturnN, e_return, ofI, ofIm, ofJ, cat_i, cat_l, cat_r, cat_f, cat_n, xent_0, xent_i, xent_l, xent_r, xent_n, xent_f, xentry, xrf_s, xrf_n, List.getD_cons_zero, List.getD_cons_succ, List.length_cons, List.length_nil, List.cons_append, List.nil_append, List.append_nil, List.map_cons, List.map_nil, List.sum_cons, List.sum_nil, List.replicate, oT_s, oT_n, true_and, and_true, Nat.reduceAdd, Nat.reduceSub, Nat.reduceLeDiff, Nat.reduceEqDiff, Nat.reduceLT, Nat.reduceDiv, Nat.reduceMod, Nat.reduceMul, eq_self, ofN, nI_dec, nI_11, or_true, true_or, false_or, or_false, nI_e0, nI_0lt, Nat.succ_ne_zero, Nat.zero_lt_succ, lg_cmp_gt, lg_cmp_lt, lg_cmp_eq, nI_lt0, nI_add, pk_sub, pk_mul, Nat.add_sub_cancel, nI_clamp, vp_in_T, nI_ltI, nI_leI, nI_eqI, Nat.zero_add, Nat.add_zero, xc_eq, xc_ne, xc_lt, xc_ge, xc_gt, xc_le, bI_0, bI_0n, bI_n0, not_true_eq_false, not_false_eq_true, if_true, if_false, ite_true, ite_false, decide_true, decide_false, and_self, and_true, true_and, Bool.not_false, Bool.not_true, Bool.true_and, Bool.and_true, Bool.false_and, Bool.and_false, Bool.and_self, Bool.true_eq_false, Bool.false_eq_true, decide_true, decide_false, not_true_eq_false, not_false_eq_true, eq_self, zs_127 hz, zr_127_0 hz, zr_127_3 hz, zr_127_4 hz, zr_127_5 hz, zr_127_6 hz, zr_127_7 hz, zr_127_15 hz, zr_127_17 hz, zr_127_19 hz, zr_127_20 hz, zr_127_23 hz, zr_127_24 hz, zr_127_26 hz, zr_127_27 hz, zr_127_28 hz, zr_127_29 hz, zr_127_32 hz, zr_127_33 hz, zr_127_34 hz, zr_127_35 hz, zr_127_36 hz, zr_127_37 hz, zr_127_39 hz, zr_127_40 hz, zr_127_41 hz, zr_127_42 hz, zs_127 zA, zr_127_6 zA, zr_127_5 zA, zr_127_4 zA, zs_132 zA, zl_132 zA, zs_130 zA, zl_130 zA, zs_131 zA, zl_131 zA, a11, g132, al, n1, xis_sI, xlen_sI, xR_sI, v169, v180, cpw, c3, zs_127 z3, zr_127_5 z3, zr_127_4 z3, zs_131 z3, zl_131 z3, zs_130 z3, zl_130 z3, b11, bl, d11, eD, v170, cw, zs_127 zD, zr_127_4 zD, zr_127_5 zD, zr_127_6 zD, zs_131 zD, zl_131 zD, zs_130 zD, zl_130 zD, zs_132 zD, zl_132 zD, k11, kl, x11, x132, d132, show bI true = nI 1 from rfl]
end RK
