section PF
variable {L d : Nat} {xs : Nat → Int32} {h h1 : xH} {Q : xQ} {p o n w t k : Nat} {x y z fo xx : Int32} {T : Nat} {tp : Nat → Int32} {R : List (List Cl)} {σ σ' : Sn} {u u' : Nat} {H H' : Nat → Nat → Int32} {ι : Nat → Option Sn} {s s' f g : Nat → Int32}
variable {A A' : Nat → Option (Option Nat)} {b : Nat × Nat × (Nat → Option (Option Nat))} {c v k m : Nat}
theorem BeC.same {h2 : xH} (hb : BeC h s n b) (hf : Fr (fun a => a = 67) h h2) : BeC h2 s n b := by
  obtain ⟨e0, e1, e2, e3, e4⟩ := hb
  have f5 := hf.2.2.2 65 (by decide)
  have f6 := hf.2.2.2 66 (by decide)
  exact ⟨by rw [f5]; exact e0, by rw [f5]; exact e1, e2, e3, by rw [f6]; exact e4⟩
theorem pfT_no (e : opA s A p t = none) : pfT s n k p A t b = b := by unfold pfT; rw [e]
/-- the class's search stands so -/
def CIn (h0 : xH) (s : Nat → Int32) (n : Nat) (A : Nat → Option (Option Nat)) (hx : xH) (bx : Nat × Nat × (Nat → Option (Option Nat))) : Prop := Fr PP h0 hx ∧ BeC hx s n bx ∧ ∀ q, q < n → A q ≠ none → xI hx 67 q = xI h0 67 q
theorem c_from (hS : SOK n s) : ∀ k p v A b h0 D, Bas h0 → getW h0 14 15 = wS s → p + k = n → k + 4 ≤ D → AOK n A → WiC h0 n A → BeC h0 s n b → v < 64 → (∀ q, p ≤ q → q < n → (v >>> q % 2 = 0 ↔ (hrB s q = true ∧ A q = none))) → (∀ q, q < p → hrB s q = true → A q ≠ none) → ∃ h1, CIn h0 s n A h1 (pf s n k p A b) ∧ ∀ Q, Call (pG L xs) pM D 28 [.ref 65, .ref 14, .int (nI p), .int (nI v), .int (nI (sm (mA A) 0 n)), .int (nI (sm (cA s A) 0 n))] h0 Q = Q none h1 := by
  intro k
  have n6 := hS.1
  induction k with
  | zero =>
    intro p v A b h0 D hz hg hp hD hA hW hb hv hbits hall
    obtain ⟨D', rfl⟩ : ∃ D', D = D' + 1 + 1 := ⟨D - 2, by omega⟩
    obtain rfl : p = n := by omega
    obtain ⟨h1, f1, c1, c2⟩ := c_weigh (L := L) (d := D') (xs := xs) hz hS hA hb hW hall
    have i3 := (getW_f hg).2.2.2.1
    rw [hS.2.1] at i3
    refine ⟨h1, ⟨f1.mono (fun a z => by unfold PP; omega), c1, fun q _ _ => by rw [f1.2.2.2 67 (by decide)]⟩, fun Q => ?_⟩
    simp (disch := omega) only [m28, b28_0, e_iconst, e_lconst, e_null, e_ldc, e_iload0i, e_iload1i, e_iload2i, e_iload3i, e_iload4i, e_iload5i, e_iload6i, e_iload7i, e_iload8i, e_iload9i, e_iload10i, e_lload0l, e_lload1l, e_lload2l, e_lload3l, e_lload4l, e_lload5l, e_lload6l, e_lload7l, e_lload8l, e_lload9l, e_lload10l, e_aload0r, e_aload1r, e_aload2r, e_aload3r, e_aload4r, e_aload5r, e_aload6r, e_aload7r, e_aload8r, e_aload9r, e_aload10r, e_aload0n, e_aload1n, e_aload2n, e_aload3n, e_aload4n, e_aload5n, e_aload6n, e_aload7n, e_aload8n, e_aload9n, e_aload10n, e_aload0f, e_aload1f, e_aload2f, e_aload3f, e_aload4f, e_aload5f, e_aload6f, e_aload7f, e_aload8f, e_aload9f, e_aload10f, e_iinc0, e_iinc1, e_iinc2, e_iinc3, e_iinc4, e_iinc5, e_iinc6, e_iinc7, e_iinc8, e_iinc9, e_iinc10, xst_0, xst_1i, xst2_1i, xst_1r, xst2_1r, xst_1n, xst2_1n, xst_1f, xst2_1f, xst_1u, xst2_1u, xst_1l, xst2_1l, xst2_0, xst_s, xst2_s, e_istore, e_lstore, e_astore, e_astoreN, e_iadd, e_isub, e_imul, e_iand, e_ior, e_ixor, e_ishl, e_ishr, e_iushr, e_ladd, e_lsub, e_lmul, e_land, e_lor, e_lshl, e_lcmp, e_i2l, e_l2i, e_i2b, e_ineg, e_dupi, e_dupr, e_dup2, e_popi, e_popr, e_idiv, e_irem, e_ldiv, e_lrem, e_ifCond, e_if_icmp, e_ifnullR, e_ifnullN, e_ifnonnullR, e_ifnonnullN, e_goto, e_jsr, e_tsw, e_lsw, e_getfield, e_dload, e_fload, e_putfield, e_dstore, e_fstore, e_fstoreN, e_monitor, e_new, e_newarray, e_anewarray, e_mnew, e_alen, e_slen, e_schr, e_alenF, e_iaload, e_ialoadF, e_baload, e_laload, e_aaload, e_iastore, e_lastore, e_aastore, e_bastoreB, e_bastoreZ, e_copy, e_ireturnI, e_ireturnZ0, e_ireturnZ1, e_ireturnZb, e_lreturn, e_areturn, e_areturnA, e_areturnN, e_return, ofI, ofIm, ofJ, cat_i, cat_l, cat_r, cat_f, cat_n, xent_0, xent_i, xent_l, xent_r, xent_n, xent_f, xentry, xrf_s, xrf_n, List.getD_cons_zero, List.getD_cons_succ, List.length_cons, List.length_nil, List.cons_append, List.nil_append, List.append_nil, List.map_cons, List.map_nil, List.sum_cons, List.sum_nil, List.replicate, oT_s, oT_n, true_and, and_true, Nat.reduceAdd, Nat.reduceSub, Nat.reduceLeDiff, Nat.reduceEqDiff, Nat.reduceLT, Nat.reduceDiv, Nat.reduceMod, Nat.reduceMul, eq_self, ofN, nI_dec, nI_11, or_true, true_or, false_or, or_false, nI_e0, nI_0lt, Nat.succ_ne_zero, Nat.zero_lt_succ, lg_cmp_gt, lg_cmp_lt, lg_cmp_eq, nI_lt0, nI_add, pk_sub, pk_mul, Nat.add_sub_cancel, nI_clamp, vp_in_T, nI_ltI, nI_leI, nI_eqI, Nat.zero_add, Nat.add_zero, xc_eq, xc_ne, xc_lt, xc_ge, xc_gt, xc_le, bI_0, bI_0n, bI_n0, not_true_eq_false, not_false_eq_true, if_true, if_false, ite_true, ite_false, decide_true, decide_false, and_self, and_true, true_and, zs_14 hz, zs_65 hz, i3, Nat.lt_irrefl, v29, c2]
  | succ k ih =>
    intro p v A b h0 D hz hg hp hD hA hW hb hv hbits hall
    obtain ⟨D', rfl⟩ : ∃ D', D = D' + 3 + 1 := ⟨D - 4, by omega⟩
    have hpn : p < n := by omega
    have i3 := (getW_f hg).2.2.2.1
    rw [hS.2.1] at i3
    have e1 := bt_2 _ hv p (by omega)
    by_cases q0 : hrB s p = true ∧ A p = none
    · have eb := (hbits p (Nat.le_refl _) hpn).mpr q0
      rw [eb] at e1
      obtain ⟨qh, qa⟩ := id q0
      obtain ⟨lm, lc⟩ := sums_le hS hA
      -- going on
      have go : ∀ A' v' hx bx hx', CIn h0 s n A hx bx → Fr (fun a => a = 67) hx hx' → WiC hx' n A' → (∀ q, q < n → A q ≠ none → A' q ≠ none ∧ xI hx' 67 q = xI hx 67 q) → AOK n A' → v' < 64 → (∀ q, p + 1 ≤ q → q < n → (v' >>> q % 2 = 0 ↔ (hrB s q = true ∧ A' q = none))) → (∀ q, q < p + 1 → hrB s q = true → A' q ≠ none) → ∃ hy, CIn h0 s n A hy (pf s n k (p + 1) A' bx) ∧ ∀ Q, Call (pG L xs) pM (D' + 3) 28 [.ref 65, .ref 14, .int (nI (p + 1)), .int (nI v'), .int (nI (sm (mA A') 0 n)), .int (nI (sm (cA s A') 0 n))] hx' Q = Q none hy := by
        intro A' v' hx bx hx' hi hf hW' hk hA' hv' hb' ha'
        obtain ⟨i1, i2, i4⟩ := hi
        have hzx := hf.bas (i1.bas hz)
        have hgx : getW hx' 14 15 = wS s := by rw [getW_fr hf (by decide) (by decide), getW_fr i1 (by unfold PP; decide) (by unfold PP; decide)]; exact hg
        obtain ⟨hy, ⟨j1, j2, j3⟩, j4⟩ := ih (p + 1) v' A' bx hx' (D' + 3) hzx hgx (by omega) (by omega) hA' hW' (i2.same hf) hv' hb' ha'
        exact ⟨hy, ⟨i1.tr ((hf.mono (fun a z => .inr (.inr z))).tr j1), j2, fun q hq hn' => by rw [j3 q hq (hk q hq hn').1, (hk q hq hn').2, i4 q hq hn']⟩, j4⟩
      -- as the first stays
      have s0 : ∀ hx bx, CIn h0 s n A hx bx → ∃ hy, CIn h0 s n A hy (pfT s n k p A 0 bx) ∧ ∀ Q, Call (pG L xs) pM (D' + 3) 28 [.ref 65, .ref 14, .int (nI (p + 1)), .int (nI v), .int (nI (sm (mA A) 0 n)), .int (nI (sm (cA s A) 0 n))] (setI hx 67 p (-(nI 1))) Q = Q none hy := by
        intro hx bx hi
        have := go (upA A p (some none)) v hx bx (setI hx 67 p (-(nI 1))) hi (Fr.sI rfl) (fun q hq hn' => by
          rw [xI_sI]
          by_cases z : q = p
          · subst z; rw [if_pos ⟨rfl, rfl⟩, upA_eq]; rfl
          · rw [if_neg (fun y => z y.2), upA_ne z]
            rw [upA_ne z] at hn'
            rw [hi.2.2 q hq hn']; exact hW q hq hn') (fun q hq hn' => by
          have z : q ≠ p := fun z => hn' (z ▸ qa)
          rw [upA_ne z, xI_sI, if_neg (fun y => z y.2)]; exact ⟨hn', rfl⟩) (fun q o e => by
          by_cases z : q = p
          · subst z; rw [upA_eq] at e; cases e
          · rw [upA_ne z] at e; exact hA q o e) hv (fun q h1' h2' => by rw [upA_ne (by omega)]; exact hbits q (by omega) h2') (fun q h1' h2' => by
          by_cases z : q = p
          · subst z; rw [upA_eq]; simp
          · rw [upA_ne z]; exact hall q (by omega) h2')
        rw [(mA_st hpn qa (s := s)).1, (mA_st hpn qa).2] at this
        exact this
      have s1 : caB s p p = true → ∀ hx bx, CIn h0 s n A hx bx → ∃ hy, CIn h0 s n A hy (pfT s n k p A 1 bx) ∧ ∀ Q, Call (pG L xs) pM (D' + 3) 28 [.ref 65, .ref 14, .int (nI (p + 1)), .int (nI v), .int (nI (sm (mA A) 0 n + 1)), .int (nI (sm (cA s A) 0 n))] (setI hx 67 p (nI p)) Q = Q none hy := by
        intro hc hx bx hi
        have ep : pfT s n k p A 1 bx = pf s n k (p + 1) (upA A p (some (some p))) bx := by
          unfold pfT opA
          dsimp only
          rw [if_pos hc]
        have := go (upA A p (some (some p))) v hx bx (setI hx 67 p (nI p)) hi (Fr.sI rfl) (fun q hq hn' => by
          rw [xI_sI]
          by_cases z : q = p
          · subst z; rw [if_pos ⟨rfl, rfl⟩, upA_eq]; rfl
          · rw [if_neg (fun y => z y.2), upA_ne z]
            rw [upA_ne z] at hn'
            rw [hi.2.2 q hq hn']; exact hW q hq hn') (fun q hq hn' => by
          have z : q ≠ p := fun z => hn' (z ▸ qa)
          rw [upA_ne z, xI_sI, if_neg (fun y => z y.2)]; exact ⟨hn', rfl⟩) (fun q o e => by
          by_cases z : q = p
          · subst z; rw [upA_eq] at e; cases e; exact hpn
          · rw [upA_ne z] at e; exact hA q o e) hv (fun q h1' h2' => by rw [upA_ne (by omega)]; exact hbits q (by omega) h2') (fun q h1' h2' => by
          by_cases z : q = p
          · subst z; rw [upA_eq]; simp
          · rw [upA_ne z]; exact hall q (by omega) h2')
        rw [(mA_al hpn qa (s := s)).1, (mA_al hpn qa).2] at this
        rw [ep]
        exact this
      have s2 : ∀ o, p < o → o < n → (hrB s o = true ∧ A o = none) → caB s p o = true → ∀ hx bx, CIn h0 s n A hx bx → ∃ hy, CIn h0 s n A hy (pfT s n k p A (o + 2) bx) ∧ ∀ Q, Call (pG L xs) pM (D' + 3) 28 [.ref 65, .ref 14, .int (nI (p + 1)), .int (nI (v ||| 2 ^ o)), .int (nI (sm (mA A) 0 n + 2)), .int (nI (sm (cA s A) 0 n + feN s o))] (setI (setI hx 67 p (nI o)) 67 o (nI p)) Q = Q none hy := by
        intro o hpo hon ⟨ho1, ho2⟩ hc hx bx hi
        obtain ⟨g1, -, g3⟩ := bt_1 _ hv o (by omega)
        have ep : pfT s n k p A (o + 2) bx = pf s n k (p + 1) (upA (upA A p (some (some o))) o (some (some p))) bx := by
          unfold pfT opA
          dsimp only
          rw [if_pos ⟨hpo, ho1, ho2, hc⟩]
        have := go (upA (upA A p (some (some o))) o (some (some p))) (v ||| 2 ^ o) hx bx (setI (setI hx 67 p (nI o)) 67 o (nI p)) hi (Fr.tr (P := fun a => a = 67) (Fr.sI rfl) (Fr.sI rfl)) (fun q hq hn' => by
          rw [xI_sI]
          by_cases z : q = o
          · subst z; rw [if_pos ⟨rfl, rfl⟩, upA_eq]; rfl
          · rw [if_neg (fun y => z y.2), upA_ne z]
            rw [upA_ne z] at hn'
            rw [xI_sI]
            by_cases z2 : q = p
            · subst z2; rw [if_pos ⟨rfl, rfl⟩, upA_eq]; rfl
            · rw [if_neg (fun y => z2 y.2), upA_ne z2]
              rw [upA_ne z2] at hn'
              rw [hi.2.2 q hq hn']; exact hW q hq hn') (fun q hq hn' => by
          have z : q ≠ p := fun z => hn' (z ▸ qa)
          have z2 : q ≠ o := fun z => hn' (z ▸ ho2)
          rw [upA_ne z2, upA_ne z, xI_sI, if_neg (fun y => z2 y.2), xI_sI, if_neg (fun y => z y.2)]; exact ⟨hn', rfl⟩) (fun q o' e => by
          by_cases z : q = o
          · subst z; rw [upA_eq] at e; cases e; exact hpn
          · rw [upA_ne z] at e
            by_cases z2 : q = p
            · subst z2; rw [upA_eq] at e; cases e; exact hon
            · rw [upA_ne z2] at e; exact hA q o' e) g1 (fun q h1' h2' => by
          have g := g3 q (by omega)
          by_cases z : q = o
          · subst z
            rw [upA_eq]
            exact ⟨fun y => by have := g.mpr (.inr rfl); omega, fun y => by cases y.2⟩
          · rw [upA_ne z, upA_ne (by omega), ← hbits q (by omega) h2']
            constructor
            · intro y
              have : ¬ v >>> q % 2 = 1 := fun w => by have := g.mpr (.inl w); omega
              omega
            · intro y
              have : ¬ (v ||| 2 ^ o) >>> q % 2 = 1 := fun w => by
                rcases g.mp w with w | w
                · omega
                · exact z w
              omega) (fun q h1' h2' => by
          by_cases z : q = p
          · subst z; rw [upA_ne (by omega), upA_eq]; simp
          · rw [upA_ne (by omega), upA_ne z]; exact hall q (by omega) h2')
        rw [(mA_pr hpo hon qa ho2 (s := s)).1, (mA_pr hpo hon qa ho2).2] at this
        rw [ep]
        exact this
      -- the others
      have loop : ∀ j o hx bx, o + j = n → p < o → CIn h0 s n A hx bx → ∃ hy, CIn h0 s n A hy (forF (pfT s n k p A) (o + 2) j bx) ∧ ∀ Q, Ev (pG L xs) pM (D' + 3) b28 none Q b28_4 [some (.ref 65), some (.ref 14), some (.int (nI p)), some (.int (nI v)), some (.int (nI (sm (mA A) 0 n))), some (.int (nI (sm (cA s A) 0 n))), some (.int (nI o))] [] hx = Q none hy := by
        intro j
        induction j with
        | zero =>
          intro o hx bx ho _ hi
          obtain rfl : o = n := by omega
          have hzx := hi.1.bas hz
          have i3x : xI hx 14 3 = nI o := by rw [hi.1.2.2.2 14 (by unfold PP; decide)]; exact i3
          refine ⟨hx, hi, fun Q => ?_⟩
          rw [b28_4]
          simp (disch := omega) only [k28_6, b28_6, e_iconst, e_lconst, e_null, e_ldc, e_iload0i, e_iload1i, e_iload2i, e_iload3i, e_iload4i, e_iload5i, e_iload6i, e_iload7i, e_iload8i, e_iload9i, e_iload10i, e_lload0l, e_lload1l, e_lload2l, e_lload3l, e_lload4l, e_lload5l, e_lload6l, e_lload7l, e_lload8l, e_lload9l, e_lload10l, e_aload0r, e_aload1r, e_aload2r, e_aload3r, e_aload4r, e_aload5r, e_aload6r, e_aload7r, e_aload8r, e_aload9r, e_aload10r, e_aload0n, e_aload1n, e_aload2n, e_aload3n, e_aload4n, e_aload5n, e_aload6n, e_aload7n, e_aload8n, e_aload9n, e_aload10n, e_aload0f, e_aload1f, e_aload2f, e_aload3f, e_aload4f, e_aload5f, e_aload6f, e_aload7f, e_aload8f, e_aload9f, e_aload10f, e_iinc0, e_iinc1, e_iinc2, e_iinc3, e_iinc4, e_iinc5, e_iinc6, e_iinc7, e_iinc8, e_iinc9, e_iinc10, xst_0, xst_1i, xst2_1i, xst_1r, xst2_1r, xst_1n, xst2_1n, xst_1f, xst2_1f, xst_1u, xst2_1u, xst_1l, xst2_1l, xst2_0, xst_s, xst2_s, e_istore, e_lstore, e_astore, e_astoreN, e_iadd, e_isub, e_imul, e_iand, e_ior, e_ixor, e_ishl, e_ishr, e_iushr, e_ladd, e_lsub, e_lmul, e_land, e_lor, e_lshl, e_lcmp, e_i2l, e_l2i, e_i2b, e_ineg, e_dupi, e_dupr, e_dup2, e_popi, e_popr, e_idiv, e_irem, e_ldiv, e_lrem, e_ifCond, e_if_icmp, e_ifnullR, e_ifnullN, e_ifnonnullR, e_ifnonnullN, e_goto, e_jsr, e_tsw, e_lsw, e_getfield, e_dload, e_fload, e_putfield, e_dstore, e_fstore, e_fstoreN, e_monitor, e_new, e_newarray, e_anewarray, e_mnew, e_alen, e_slen, e_schr, e_alenF, e_iaload, e_ialoadF, e_baload, e_laload, e_aaload, e_iastore, e_lastore, e_aastore, e_bastoreB, e_bastoreZ, e_copy, e_ireturnI, e_ireturnZ0, e_ireturnZ1, e_ireturnZb, e_lreturn, e_areturn, e_areturnA, e_areturnN, e_return, ofI, ofIm, ofJ, cat_i, cat_l, cat_r, cat_f, cat_n, xent_0, xent_i, xent_l, xent_r, xent_n, xent_f, xentry, xrf_s, xrf_n, List.getD_cons_zero, List.getD_cons_succ, List.length_cons, List.length_nil, List.cons_append, List.nil_append, List.append_nil, List.map_cons, List.map_nil, List.sum_cons, List.sum_nil, List.replicate, oT_s, oT_n, true_and, and_true, Nat.reduceAdd, Nat.reduceSub, Nat.reduceLeDiff, Nat.reduceEqDiff, Nat.reduceLT, Nat.reduceDiv, Nat.reduceMod, Nat.reduceMul, eq_self, ofN, nI_dec, nI_11, or_true, true_or, false_or, or_false, nI_e0, nI_0lt, Nat.succ_ne_zero, Nat.zero_lt_succ, lg_cmp_gt, lg_cmp_lt, lg_cmp_eq, nI_lt0, nI_add, pk_sub, pk_mul, Nat.add_sub_cancel, nI_clamp, vp_in_T, nI_ltI, nI_leI, nI_eqI, Nat.zero_add, Nat.add_zero, xc_eq, xc_ne, xc_lt, xc_ge, xc_gt, xc_le, bI_0, bI_0n, bI_n0, not_true_eq_false, not_false_eq_true, if_true, if_false, ite_true, ite_false, decide_true, decide_false, and_self, and_true, true_and, zs_14 hzx, i3x, Nat.lt_irrefl]
        | succ j ihj =>
          intro o hx bx ho hpo hi
          have hon : o < n := by omega
          have hzx := hi.1.bas hz
          have hgx : getW hx 14 15 = wS s := by rw [getW_fr hi.1 (by unfold PP; decide) (by unfold PP; decide)]; exact hg
          obtain ⟨i0x, i1x, i2x, i3x, i4x, i5x, itx⟩ := getW_f hgx
          rw [hS.2.1] at i3x
          have e1o := bt_2 _ hv o (by omega)
          have e3o := bt_3 _ hv o (by omega)
          rw [show forF (pfT s n k p A) (o + 2) (j + 1) bx = forF (pfT s n k p A) (o + 2 + 1) j (pfT s n k p A (o + 2) bx) from rfl, show o + 2 + 1 = o + 1 + 2 by omega]
          by_cases q1 : hrB s o = true ∧ A o = none
          · have eo := (hbits o (by omega) hon).mpr q1
            rw [eo] at e1o
            have cc := fun Q => w_can (L := L) (d := D') (xs := xs) (Q := Q) (zw_14 hzx) (show p < 6 by omega) (show o < 6 by omega)
            rw [i1x, i5x, itx, show canB (s 11) (s 12) (trS s) p o = caB s p o from rfl] at cc
            cases q2 : caB s p o
            · rw [q2] at cc
              have et : pfT s n k p A (o + 2) bx = bx := by
                unfold pfT opA
                dsimp only
                rw [if_neg (fun z => by rw [q2] at z; cases z.2.2.2)]
              rw [et]
              obtain ⟨hy, j1, j2⟩ := ihj (o + 1) hx bx (by omega) (by omega) hi
              refine ⟨hy, j1, fun Q => ?_⟩
              rw [b28_4]
              simp (disch := omega) only [k28_5, b28_5, k28_4, e_iconst, e_lconst, e_null, e_ldc, e_iload0i, e_iload1i, e_iload2i, e_iload3i, e_iload4i, e_iload5i, e_iload6i, e_iload7i, e_iload8i, e_iload9i, e_iload10i, e_lload0l, e_lload1l, e_lload2l, e_lload3l, e_lload4l, e_lload5l, e_lload6l, e_lload7l, e_lload8l, e_lload9l, e_lload10l, e_aload0r, e_aload1r, e_aload2r, e_aload3r, e_aload4r, e_aload5r, e_aload6r, e_aload7r, e_aload8r, e_aload9r, e_aload10r, e_aload0n, e_aload1n, e_aload2n, e_aload3n, e_aload4n, e_aload5n, e_aload6n, e_aload7n, e_aload8n, e_aload9n, e_aload10n, e_aload0f, e_aload1f, e_aload2f, e_aload3f, e_aload4f, e_aload5f, e_aload6f, e_aload7f, e_aload8f, e_aload9f, e_aload10f, e_iinc0, e_iinc1, e_iinc2, e_iinc3, e_iinc4, e_iinc5, e_iinc6, e_iinc7, e_iinc8, e_iinc9, e_iinc10, xst_0, xst_1i, xst2_1i, xst_1r, xst2_1r, xst_1n, xst2_1n, xst_1f, xst2_1f, xst_1u, xst2_1u, xst_1l, xst2_1l, xst2_0, xst_s, xst2_s, e_istore, e_lstore, e_astore, e_astoreN, e_iadd, e_isub, e_imul, e_iand, e_ior, e_ixor, e_ishl, e_ishr, e_iushr, e_ladd, e_lsub, e_lmul, e_land, e_lor, e_lshl, e_lcmp, e_i2l, e_l2i, e_i2b, e_ineg, e_dupi, e_dupr, e_dup2, e_popi, e_popr, e_idiv, e_irem, e_ldiv, e_lrem, e_ifCond, e_if_icmp, e_ifnullR, e_ifnullN, e_ifnonnullR, e_ifnonnullN, e_goto, e_jsr, e_tsw, e_lsw, e_getfield, e_dload, e_fload, e_putfield, e_dstore, e_fstore, e_fstoreN, e_monitor, e_new, e_newarray, e_anewarray, e_mnew, e_alen, e_slen, e_schr, e_alenF, e_iaload, e_ialoadF, e_baload, e_laload, e_aaload, e_iastore, e_lastore, e_aastore, e_bastoreB, e_bastoreZ, e_copy, e_ireturnI, e_ireturnZ0, e_ireturnZ1, e_ireturnZb, e_lreturn, e_areturn, e_areturnA, e_areturnN, e_return, ofI, ofIm, ofJ, cat_i, cat_l, cat_r, cat_f, cat_n, xent_0, xent_i, xent_l, xent_r, xent_n, xent_f, xentry, xrf_s, xrf_n, List.getD_cons_zero, List.getD_cons_succ, List.length_cons, List.length_nil, List.cons_append, List.nil_append, List.append_nil, List.map_cons, List.map_nil, List.sum_cons, List.sum_nil, List.replicate, oT_s, oT_n, true_and, and_true, Nat.reduceAdd, Nat.reduceSub, Nat.reduceLeDiff, Nat.reduceEqDiff, Nat.reduceLT, Nat.reduceDiv, Nat.reduceMod, Nat.reduceMul, eq_self, ofN, nI_dec, nI_11, or_true, true_or, false_or, or_false, nI_e0, nI_0lt, Nat.succ_ne_zero, Nat.zero_lt_succ, lg_cmp_gt, lg_cmp_lt, lg_cmp_eq, nI_lt0, nI_add, pk_sub, pk_mul, Nat.add_sub_cancel, nI_clamp, vp_in_T, nI_ltI, nI_leI, nI_eqI, Nat.zero_add, Nat.add_zero, xc_eq, xc_ne, xc_lt, xc_ge, xc_gt, xc_le, bI_0, bI_0n, bI_n0, not_true_eq_false, not_false_eq_true, if_true, if_false, ite_true, ite_false, decide_true, decide_false, and_self, and_true, true_and, Bool.not_false, Bool.not_true, Bool.true_and, Bool.and_true, Bool.false_and, Bool.and_false, Bool.and_self, Bool.true_eq_false, Bool.false_eq_true, decide_true, decide_false, not_true_eq_false, not_false_eq_true, eq_self, zs_14 hzx, i3x, hon, e1o, v111, cc, j2]
            · rw [q2] at cc
              obtain ⟨hm, j1, j2⟩ := s2 o hpo hon q1 q2 hx bx hi
              obtain ⟨hy, j3, j4⟩ := ihj (o + 1) hm _ (by omega) (by omega) j1
              obtain ⟨f1, f2⟩ := feN_ok hS (show o < 6 by omega)
              obtain ⟨g1, -, -⟩ := bt_1 _ hv o (by omega)
              refine ⟨hy, j3, fun Q => ?_⟩
              have hzy : Bas (setI (setI hx 67 p (nI o)) 67 o (nI p)) := hzx.sI.sI
              have ff := fun Q => w_fee (L := L) (d := D' + 2) (xs := xs) (Q := Q) (zw_14 hzy) (show o < 6 by omega)
              rw [show xI (setI (setI hx 67 p (nI o)) 67 o (nI p)) 15 = trS s by rw [xI_s_ne (by decide), xI_s_ne (by decide)]; exact itx, trS_f (by omega), f1] at ff
              rw [b28_4]
              simp (disch := omega) only [k28_5, b28_5, k28_4, e_iconst, e_lconst, e_null, e_ldc, e_iload0i, e_iload1i, e_iload2i, e_iload3i, e_iload4i, e_iload5i, e_iload6i, e_iload7i, e_iload8i, e_iload9i, e_iload10i, e_lload0l, e_lload1l, e_lload2l, e_lload3l, e_lload4l, e_lload5l, e_lload6l, e_lload7l, e_lload8l, e_lload9l, e_lload10l, e_aload0r, e_aload1r, e_aload2r, e_aload3r, e_aload4r, e_aload5r, e_aload6r, e_aload7r, e_aload8r, e_aload9r, e_aload10r, e_aload0n, e_aload1n, e_aload2n, e_aload3n, e_aload4n, e_aload5n, e_aload6n, e_aload7n, e_aload8n, e_aload9n, e_aload10n, e_aload0f, e_aload1f, e_aload2f, e_aload3f, e_aload4f, e_aload5f, e_aload6f, e_aload7f, e_aload8f, e_aload9f, e_aload10f, e_iinc0, e_iinc1, e_iinc2, e_iinc3, e_iinc4, e_iinc5, e_iinc6, e_iinc7, e_iinc8, e_iinc9, e_iinc10, xst_0, xst_1i, xst2_1i, xst_1r, xst2_1r, xst_1n, xst2_1n, xst_1f, xst2_1f, xst_1u, xst2_1u, xst_1l, xst2_1l, xst2_0, xst_s, xst2_s, e_istore, e_lstore, e_astore, e_astoreN, e_iadd, e_isub, e_imul, e_iand, e_ior, e_ixor, e_ishl, e_ishr, e_iushr, e_ladd, e_lsub, e_lmul, e_land, e_lor, e_lshl, e_lcmp, e_i2l, e_l2i, e_i2b, e_ineg, e_dupi, e_dupr, e_dup2, e_popi, e_popr, e_idiv, e_irem, e_ldiv, e_lrem, e_ifCond, e_if_icmp, e_ifnullR, e_ifnullN, e_ifnonnullR, e_ifnonnullN, e_goto, e_jsr, e_tsw, e_lsw, e_getfield, e_dload, e_fload, e_putfield, e_dstore, e_fstore, e_fstoreN, e_monitor, e_new, e_newarray, e_anewarray, e_mnew, e_alen, e_slen, e_schr, e_alenF, e_iaload, e_ialoadF, e_baload, e_laload, e_aaload, e_iastore, e_lastore, e_aastore, e_bastoreB, e_bastoreZ, e_copy, e_ireturnI, e_ireturnZ0, e_ireturnZ1, e_ireturnZb, e_lreturn, e_areturn, e_areturnA, e_areturnN, e_return, ofI, ofIm, ofJ, cat_i, cat_l, cat_r, cat_f, cat_n, xent_0, xent_i, xent_l, xent_r, xent_n, xent_f, xentry, xrf_s, xrf_n, List.getD_cons_zero, List.getD_cons_succ, List.length_cons, List.length_nil, List.cons_append, List.nil_append, List.append_nil, List.map_cons, List.map_nil, List.sum_cons, List.sum_nil, List.replicate, oT_s, oT_n, true_and, and_true, Nat.reduceAdd, Nat.reduceSub, Nat.reduceLeDiff, Nat.reduceEqDiff, Nat.reduceLT, Nat.reduceDiv, Nat.reduceMod, Nat.reduceMul, eq_self, ofN, nI_dec, nI_11, or_true, true_or, false_or, or_false, nI_e0, nI_0lt, Nat.succ_ne_zero, Nat.zero_lt_succ, lg_cmp_gt, lg_cmp_lt, lg_cmp_eq, nI_lt0, nI_add, pk_sub, pk_mul, Nat.add_sub_cancel, nI_clamp, vp_in_T, nI_ltI, nI_leI, nI_eqI, Nat.zero_add, Nat.add_zero, xc_eq, xc_ne, xc_lt, xc_ge, xc_gt, xc_le, bI_0, bI_0n, bI_n0, not_true_eq_false, not_false_eq_true, if_true, if_false, ite_true, ite_false, decide_true, decide_false, and_self, and_true, true_and, Bool.not_false, Bool.not_true, Bool.true_and, Bool.and_true, Bool.false_and, Bool.and_false, Bool.and_self, Bool.true_eq_false, Bool.false_eq_true, decide_true, decide_false, not_true_eq_false, not_false_eq_true, eq_self, zs_14 hzx, zs_65 hzx, zs_67 hzx, zl_67 hzx, zr_65_3 hzx, xis_sI, xlen_sI, xR_sI, i3x, hon, e1o, e3o, v111, v105, v28, cc, ff, j2, j4]
          · have eo : v >>> o % 2 = 1 := by
              have : ¬ v >>> o % 2 = 0 := fun z => q1 ((hbits o (by omega) hon).mp z)
              omega
            rw [eo] at e1o
            have et : pfT s n k p A (o + 2) bx = bx := by
              unfold pfT opA
              dsimp only
              rw [if_neg (fun z => q1 ⟨z.2.1, z.2.2.1⟩)]
            rw [et]
            obtain ⟨hy, j1, j2⟩ := ihj (o + 1) hx bx (by omega) (by omega) hi
            refine ⟨hy, j1, fun Q => ?_⟩
            rw [b28_4]
            simp (disch := omega) only [k28_5, b28_5, k28_4, e_iconst, e_lconst, e_null, e_ldc, e_iload0i, e_iload1i, e_iload2i, e_iload3i, e_iload4i, e_iload5i, e_iload6i, e_iload7i, e_iload8i, e_iload9i, e_iload10i, e_lload0l, e_lload1l, e_lload2l, e_lload3l, e_lload4l, e_lload5l, e_lload6l, e_lload7l, e_lload8l, e_lload9l, e_lload10l, e_aload0r, e_aload1r, e_aload2r, e_aload3r, e_aload4r, e_aload5r, e_aload6r, e_aload7r, e_aload8r, e_aload9r, e_aload10r, e_aload0n, e_aload1n, e_aload2n, e_aload3n, e_aload4n, e_aload5n, e_aload6n, e_aload7n, e_aload8n, e_aload9n, e_aload10n, e_aload0f, e_aload1f, e_aload2f, e_aload3f, e_aload4f, e_aload5f, e_aload6f, e_aload7f, e_aload8f, e_aload9f, e_aload10f, e_iinc0, e_iinc1, e_iinc2, e_iinc3, e_iinc4, e_iinc5, e_iinc6, e_iinc7, e_iinc8, e_iinc9, e_iinc10, xst_0, xst_1i, xst2_1i, xst_1r, xst2_1r, xst_1n, xst2_1n, xst_1f, xst2_1f, xst_1u, xst2_1u, xst_1l, xst2_1l, xst2_0, xst_s, xst2_s, e_istore, e_lstore, e_astore, e_astoreN, e_iadd, e_isub, e_imul, e_iand, e_ior, e_ixor, e_ishl, e_ishr, e_iushr, e_ladd, e_lsub, e_lmul, e_land, e_lor, e_lshl, e_lcmp, e_i2l, e_l2i, e_i2b, e_ineg, e_dupi, e_dupr, e_dup2, e_popi, e_popr, e_idiv, e_irem, e_ldiv, e_lrem, e_ifCond, e_if_icmp, e_ifnullR, e_ifnullN, e_ifnonnullR, e_ifnonnullN, e_goto, e_jsr, e_tsw, e_lsw, e_getfield, e_dload, e_fload, e_putfield, e_dstore, e_fstore, e_fstoreN, e_monitor, e_new, e_newarray, e_anewarray, e_mnew, e_alen, e_slen, e_schr, e_alenF, e_iaload, e_ialoadF, e_baload, e_laload, e_aaload, e_iastore, e_lastore, e_aastore, e_bastoreB, e_bastoreZ, e_copy, e_ireturnI, e_ireturnZ0, e_ireturnZ1, e_ireturnZb, e_lreturn, e_areturn, e_areturnA, e_areturnN, e_return, ofI, ofIm, ofJ, cat_i, cat_l, cat_r, cat_f, cat_n, xent_0, xent_i, xent_l, xent_r, xent_n, xent_f, xentry, xrf_s, xrf_n, List.getD_cons_zero, List.getD_cons_succ, List.length_cons, List.length_nil, List.cons_append, List.nil_append, List.append_nil, List.map_cons, List.map_nil, List.sum_cons, List.sum_nil, List.replicate, oT_s, oT_n, true_and, and_true, Nat.reduceAdd, Nat.reduceSub, Nat.reduceLeDiff, Nat.reduceEqDiff, Nat.reduceLT, Nat.reduceDiv, Nat.reduceMod, Nat.reduceMul, eq_self, ofN, nI_dec, nI_11, or_true, true_or, false_or, or_false, nI_e0, nI_0lt, Nat.succ_ne_zero, Nat.zero_lt_succ, lg_cmp_gt, lg_cmp_lt, lg_cmp_eq, nI_lt0, nI_add, pk_sub, pk_mul, Nat.add_sub_cancel, nI_clamp, vp_in_T, nI_ltI, nI_leI, nI_eqI, Nat.zero_add, Nat.add_zero, xc_eq, xc_ne, xc_lt, xc_ge, xc_gt, xc_le, bI_0, bI_0n, bI_n0, not_true_eq_false, not_false_eq_true, if_true, if_false, ite_true, ite_false, decide_true, decide_false, and_self, and_true, true_and, Bool.not_false, Bool.not_true, Bool.true_and, Bool.and_true, Bool.false_and, Bool.and_false, Bool.and_self, Bool.true_eq_false, Bool.false_eq_true, decide_true, decide_false, not_true_eq_false, not_false_eq_true, eq_self, zs_14 hzx, i3x, hon, e1o, j2]
      obtain ⟨ha, a1, a2⟩ := s0 h0 b ⟨Fr.rf, hb, fun _ _ _ => rfl⟩
      have hza := a1.1.bas hz
      have hga : getW ha 14 15 = wS s := by rw [getW_fr a1.1 (by unfold PP; decide) (by unfold PP; decide)]; exact hg
      obtain ⟨i0x, i1x, i2x, i3x, i4x, i5x, itx⟩ := getW_f hga
      have cc := fun Q => w_can (L := L) (d := D') (xs := xs) (Q := Q) (zw_14 hza) (show p < 6 by omega) (show p < 6 by omega)
      rw [i1x, i5x, itx, show canB (s 11) (s 12) (trS s) p p = caB s p p from rfl] at cc
      rw [pf_split hpn qh qa, show p + 3 = p + 1 + 2 by omega]
      cases q2 : caB s p p
      · rw [q2] at cc
        have et : pfT s n k p A 1 (pfT s n k p A 0 b) = pfT s n k p A 0 b := by
          refine pfT_no ?_
          show (if caB s p p = true then _ else _) = _
          rw [if_neg (fun z => by rw [q2] at z; cases z)]
        rw [et]
        obtain ⟨hy, j1, j2⟩ := loop (n - (p + 1)) (p + 1) ha _ (by omega) (by omega) a1
        refine ⟨hy, j1, fun Q => ?_⟩
        rw [m28]
        simp (disch := omega) only [b28_0, k28_1, b28_1, k28_2, b28_2, k28_3, b28_3, k28_4, e_iconst, e_lconst, e_null, e_ldc, e_iload0i, e_iload1i, e_iload2i, e_iload3i, e_iload4i, e_iload5i, e_iload6i, e_iload7i, e_iload8i, e_iload9i, e_iload10i, e_lload0l, e_lload1l, e_lload2l, e_lload3l, e_lload4l, e_lload5l, e_lload6l, e_lload7l, e_lload8l, e_lload9l, e_lload10l, e_aload0r, e_aload1r, e_aload2r, e_aload3r, e_aload4r, e_aload5r, e_aload6r, e_aload7r, e_aload8r, e_aload9r, e_aload10r, e_aload0n, e_aload1n, e_aload2n, e_aload3n, e_aload4n, e_aload5n, e_aload6n, e_aload7n, e_aload8n, e_aload9n, e_aload10n, e_aload0f, e_aload1f, e_aload2f, e_aload3f, e_aload4f, e_aload5f, e_aload6f, e_aload7f, e_aload8f, e_aload9f, e_aload10f, e_iinc0, e_iinc1, e_iinc2, e_iinc3, e_iinc4, e_iinc5, e_iinc6, e_iinc7, e_iinc8, e_iinc9, e_iinc10, xst_0, xst_1i, xst2_1i, xst_1r, xst2_1r, xst_1n, xst2_1n, xst_1f, xst2_1f, xst_1u, xst2_1u, xst_1l, xst2_1l, xst2_0, xst_s, xst2_s, e_istore, e_lstore, e_astore, e_astoreN, e_iadd, e_isub, e_imul, e_iand, e_ior, e_ixor, e_ishl, e_ishr, e_iushr, e_ladd, e_lsub, e_lmul, e_land, e_lor, e_lshl, e_lcmp, e_i2l, e_l2i, e_i2b, e_ineg, e_dupi, e_dupr, e_dup2, e_popi, e_popr, e_idiv, e_irem, e_ldiv, e_lrem, e_ifCond, e_if_icmp, e_ifnullR, e_ifnullN, e_ifnonnullR, e_ifnonnullN, e_goto, e_jsr, e_tsw, e_lsw, e_getfield, e_dload, e_fload, e_putfield, e_dstore, e_fstore, e_fstoreN, e_monitor, e_new, e_newarray, e_anewarray, e_mnew, e_alen, e_slen, e_schr, e_alenF, e_iaload, e_ialoadF, e_baload, e_laload, e_aaload, e_iastore, e_lastore, e_aastore, e_bastoreB, e_bastoreZ, e_copy, e_ireturnI, e_ireturnZ0, e_ireturnZ1, e_ireturnZb, e_lreturn, e_areturn, e_areturnA, e_areturnN, e_return, ofI, ofIm, ofJ, cat_i, cat_l, cat_r, cat_f, cat_n, xent_0, xent_i, xent_l, xent_r, xent_n, xent_f, xentry, xrf_s, xrf_n, List.getD_cons_zero, List.getD_cons_succ, List.length_cons, List.length_nil, List.cons_append, List.nil_append, List.append_nil, List.map_cons, List.map_nil, List.sum_cons, List.sum_nil, List.replicate, oT_s, oT_n, true_and, and_true, Nat.reduceAdd, Nat.reduceSub, Nat.reduceLeDiff, Nat.reduceEqDiff, Nat.reduceLT, Nat.reduceDiv, Nat.reduceMod, Nat.reduceMul, eq_self, ofN, nI_dec, nI_11, or_true, true_or, false_or, or_false, nI_e0, nI_0lt, Nat.succ_ne_zero, Nat.zero_lt_succ, lg_cmp_gt, lg_cmp_lt, lg_cmp_eq, nI_lt0, nI_add, pk_sub, pk_mul, Nat.add_sub_cancel, nI_clamp, vp_in_T, nI_ltI, nI_leI, nI_eqI, Nat.zero_add, Nat.add_zero, xc_eq, xc_ne, xc_lt, xc_ge, xc_gt, xc_le, bI_0, bI_0n, bI_n0, not_true_eq_false, not_false_eq_true, if_true, if_false, ite_true, ite_false, decide_true, decide_false, and_self, and_true, true_and, Bool.not_false, Bool.not_true, Bool.true_and, Bool.and_true, Bool.false_and, Bool.and_false, Bool.and_self, Bool.true_eq_false, Bool.false_eq_true, decide_true, decide_false, not_true_eq_false, not_false_eq_true, eq_self, zs_14 hz, zs_65 hz, zs_67 hz, zl_67 hz, zr_65_3 hz, i3, hpn, e1, xis_sI, xlen_sI, xR_sI, v28, a2, zs_14 hza, zs_65 hza, v111, cc, j2]
      · rw [q2] at cc
        obtain ⟨hm, j1, j2⟩ := s1 q2 ha _ a1
        obtain ⟨hy, j3, j4⟩ := loop (n - (p + 1)) (p + 1) hm _ (by omega) (by omega) j1
        refine ⟨hy, j3, fun Q => ?_⟩
        rw [m28]
        simp (disch := omega) only [b28_0, k28_1, b28_1, k28_2, b28_2, k28_3, b28_3, k28_4, e_iconst, e_lconst, e_null, e_ldc, e_iload0i, e_iload1i, e_iload2i, e_iload3i, e_iload4i, e_iload5i, e_iload6i, e_iload7i, e_iload8i, e_iload9i, e_iload10i, e_lload0l, e_lload1l, e_lload2l, e_lload3l, e_lload4l, e_lload5l, e_lload6l, e_lload7l, e_lload8l, e_lload9l, e_lload10l, e_aload0r, e_aload1r, e_aload2r, e_aload3r, e_aload4r, e_aload5r, e_aload6r, e_aload7r, e_aload8r, e_aload9r, e_aload10r, e_aload0n, e_aload1n, e_aload2n, e_aload3n, e_aload4n, e_aload5n, e_aload6n, e_aload7n, e_aload8n, e_aload9n, e_aload10n, e_aload0f, e_aload1f, e_aload2f, e_aload3f, e_aload4f, e_aload5f, e_aload6f, e_aload7f, e_aload8f, e_aload9f, e_aload10f, e_iinc0, e_iinc1, e_iinc2, e_iinc3, e_iinc4, e_iinc5, e_iinc6, e_iinc7, e_iinc8, e_iinc9, e_iinc10, xst_0, xst_1i, xst2_1i, xst_1r, xst2_1r, xst_1n, xst2_1n, xst_1f, xst2_1f, xst_1u, xst2_1u, xst_1l, xst2_1l, xst2_0, xst_s, xst2_s, e_istore, e_lstore, e_astore, e_astoreN, e_iadd, e_isub, e_imul, e_iand, e_ior, e_ixor, e_ishl, e_ishr, e_iushr, e_ladd, e_lsub, e_lmul, e_land, e_lor, e_lshl, e_lcmp, e_i2l, e_l2i, e_i2b, e_ineg, e_dupi, e_dupr, e_dup2, e_popi, e_popr, e_idiv, e_irem, e_ldiv, e_lrem, e_ifCond, e_if_icmp, e_ifnullR, e_ifnullN, e_ifnonnullR, e_ifnonnullN, e_goto, e_jsr, e_tsw, e_lsw, e_getfield, e_dload, e_fload, e_putfield, e_dstore, e_fstore, e_fstoreN, e_monitor, e_new, e_newarray, e_anewarray, e_mnew, e_alen, e_slen, e_schr, e_alenF, e_iaload, e_ialoadF, e_baload, e_laload, e_aaload, e_iastore, e_lastore, e_aastore, e_bastoreB, e_bastoreZ, e_copy, e_ireturnI, e_ireturnZ0, e_ireturnZ1, e_ireturnZb, e_lreturn, e_areturn, e_areturnA, e_areturnN, e_return, ofI, ofIm, ofJ, cat_i, cat_l, cat_r, cat_f, cat_n, xent_0, xent_i, xent_l, xent_r, xent_n, xent_f, xentry, xrf_s, xrf_n, List.getD_cons_zero, List.getD_cons_succ, List.length_cons, List.length_nil, List.cons_append, List.nil_append, List.append_nil, List.map_cons, List.map_nil, List.sum_cons, List.sum_nil, List.replicate, oT_s, oT_n, true_and, and_true, Nat.reduceAdd, Nat.reduceSub, Nat.reduceLeDiff, Nat.reduceEqDiff, Nat.reduceLT, Nat.reduceDiv, Nat.reduceMod, Nat.reduceMul, eq_self, ofN, nI_dec, nI_11, or_true, true_or, false_or, or_false, nI_e0, nI_0lt, Nat.succ_ne_zero, Nat.zero_lt_succ, lg_cmp_gt, lg_cmp_lt, lg_cmp_eq, nI_lt0, nI_add, pk_sub, pk_mul, Nat.add_sub_cancel, nI_clamp, vp_in_T, nI_ltI, nI_leI, nI_eqI, Nat.zero_add, Nat.add_zero, xc_eq, xc_ne, xc_lt, xc_ge, xc_gt, xc_le, bI_0, bI_0n, bI_n0, not_true_eq_false, not_false_eq_true, if_true, if_false, ite_true, ite_false, decide_true, decide_false, and_self, and_true, true_and, Bool.not_false, Bool.not_true, Bool.true_and, Bool.and_true, Bool.false_and, Bool.and_false, Bool.and_self, Bool.true_eq_false, Bool.false_eq_true, decide_true, decide_false, not_true_eq_false, not_false_eq_true, eq_self, zs_14 hz, zs_65 hz, zs_67 hz, zl_67 hz, zr_65_3 hz, i3, hpn, e1, xis_sI, xlen_sI, xR_sI, v28, a2, zs_14 hza, zs_65 hza, zs_67 hza, zl_67 hza, zr_65_3 hza, v111, cc, j2, j4]
    · have eb : v >>> p % 2 = 1 := by
        have : ¬ v >>> p % 2 = 0 := fun z => q0 ((hbits p (Nat.le_refl _) hpn).mp z)
        omega
      rw [eb] at e1
      rw [pf_no q0]
      obtain ⟨hy, j1, j2⟩ := ih (p + 1) v A b h0 (D' + 3) hz hg (by omega) (by omega) hA hW hb hv (fun q h1' h2' => hbits q (by omega) h2') (fun q h1' h2' => by
        by_cases z : q = p
        · subst z; exact fun y => q0 ⟨h2', y⟩
        · exact hall q (by omega) h2')
      refine ⟨hy, j1, fun Q => ?_⟩
      simp (disch := omega) only [m28, b28_0, k28_1, b28_1, e_iconst, e_lconst, e_null, e_ldc, e_iload0i, e_iload1i, e_iload2i, e_iload3i, e_iload4i, e_iload5i, e_iload6i, e_iload7i, e_iload8i, e_iload9i, e_iload10i, e_lload0l, e_lload1l, e_lload2l, e_lload3l, e_lload4l, e_lload5l, e_lload6l, e_lload7l, e_lload8l, e_lload9l, e_lload10l, e_aload0r, e_aload1r, e_aload2r, e_aload3r, e_aload4r, e_aload5r, e_aload6r, e_aload7r, e_aload8r, e_aload9r, e_aload10r, e_aload0n, e_aload1n, e_aload2n, e_aload3n, e_aload4n, e_aload5n, e_aload6n, e_aload7n, e_aload8n, e_aload9n, e_aload10n, e_aload0f, e_aload1f, e_aload2f, e_aload3f, e_aload4f, e_aload5f, e_aload6f, e_aload7f, e_aload8f, e_aload9f, e_aload10f, e_iinc0, e_iinc1, e_iinc2, e_iinc3, e_iinc4, e_iinc5, e_iinc6, e_iinc7, e_iinc8, e_iinc9, e_iinc10, xst_0, xst_1i, xst2_1i, xst_1r, xst2_1r, xst_1n, xst2_1n, xst_1f, xst2_1f, xst_1u, xst2_1u, xst_1l, xst2_1l, xst2_0, xst_s, xst2_s, e_istore, e_lstore, e_astore, e_astoreN, e_iadd, e_isub, e_imul, e_iand, e_ior, e_ixor, e_ishl, e_ishr, e_iushr, e_ladd, e_lsub, e_lmul, e_land, e_lor, e_lshl, e_lcmp, e_i2l, e_l2i, e_i2b, e_ineg, e_dupi, e_dupr, e_dup2, e_popi, e_popr, e_idiv, e_irem, e_ldiv, e_lrem, e_ifCond, e_if_icmp, e_ifnullR, e_ifnullN, e_ifnonnullR, e_ifnonnullN, e_goto, e_jsr, e_tsw, e_lsw, e_getfield, e_dload, e_fload, e_putfield, e_dstore, e_fstore, e_fstoreN, e_monitor, e_new, e_newarray, e_anewarray, e_mnew, e_alen, e_slen, e_schr, e_alenF, e_iaload, e_ialoadF, e_baload, e_laload, e_aaload, e_iastore, e_lastore, e_aastore, e_bastoreB, e_bastoreZ, e_copy, e_ireturnI, e_ireturnZ0, e_ireturnZ1, e_ireturnZb, e_lreturn, e_areturn, e_areturnA, e_areturnN, e_return, ofI, ofIm, ofJ, cat_i, cat_l, cat_r, cat_f, cat_n, xent_0, xent_i, xent_l, xent_r, xent_n, xent_f, xentry, xrf_s, xrf_n, List.getD_cons_zero, List.getD_cons_succ, List.length_cons, List.length_nil, List.cons_append, List.nil_append, List.append_nil, List.map_cons, List.map_nil, List.sum_cons, List.sum_nil, List.replicate, oT_s, oT_n, true_and, and_true, Nat.reduceAdd, Nat.reduceSub, Nat.reduceLeDiff, Nat.reduceEqDiff, Nat.reduceLT, Nat.reduceDiv, Nat.reduceMod, Nat.reduceMul, eq_self, ofN, nI_dec, nI_11, or_true, true_or, false_or, or_false, nI_e0, nI_0lt, Nat.succ_ne_zero, Nat.zero_lt_succ, lg_cmp_gt, lg_cmp_lt, lg_cmp_eq, nI_lt0, nI_add, pk_sub, pk_mul, Nat.add_sub_cancel, nI_clamp, vp_in_T, nI_ltI, nI_leI, nI_eqI, Nat.zero_add, Nat.add_zero, xc_eq, xc_ne, xc_lt, xc_ge, xc_gt, xc_le, bI_0, bI_0n, bI_n0, not_true_eq_false, not_false_eq_true, if_true, if_false, ite_true, ite_false, decide_true, decide_false, and_self, and_true, true_and, Bool.not_false, Bool.not_true, Bool.true_and, Bool.and_true, Bool.false_and, Bool.and_false, Bool.and_self, Bool.true_eq_false, Bool.false_eq_true, decide_true, decide_false, not_true_eq_false, not_false_eq_true, eq_self, zs_14 hz, zs_65 hz, i3, hpn, e1, v28, j2]
/-- the best parting -/
def bsP (s : Nat → Int32) (n : Nat) : Nat × Nat × (Nat → Option (Option Nat)) := pf s n n 0 (fun _ => none) (0, 0, fun _ => none)
theorem c_partBest (hz : Bas h) (hS : SOK n s) (hg : getW h 14 15 = wS s) : ∃ h1, Fr PP h h1 ∧ BeC h1 s n (bsP s n) ∧ ∀ Q, Call (pG L xs) pM (d + 11) 27 [.ref 65, .ref 14] h Q = Q none h1 := by
  have n6 := hS.1
  obtain ⟨v, hv, e12⟩ := hS.2.2.2.2.1
  obtain ⟨i0x, i1x, i2x, i3x, i4x, i5x, itx⟩ := getW_f hg
  have hf : Fr PP h (setI (setI h 65 0 (-(nI 1))) 65 1 (nI 0)) := (Fr.sI (.inl rfl)).tr (Fr.sI (.inl rfl))
  have hz2 := hf.bas hz
  have hg2 : getW (setI (setI h 65 0 (-(nI 1))) 65 1 (nI 0)) 14 15 = wS s := by rw [getW_fr hf (by unfold PP; decide) (by unfold PP; decide)]; exact hg
  obtain ⟨h1, ⟨f1, f2, -⟩, f4⟩ := c_from (L := L) (xs := xs) hS n 0 v (fun _ => none) (0, 0, fun _ => none) (setI (setI h 65 0 (-(nI 1))) 65 1 (nI 0)) (d + 10) hz2 hg2 (by omega) (by omega) (fun q o e => by cases e) (fun q _ e => absurd rfl e) ⟨by rw [xI_sI, if_neg (by decide), xI_sI, if_pos ⟨rfl, rfl⟩]; rfl, by rw [xI_sI, if_pos ⟨rfl, rfl⟩], by decide, by decide, fun e => absurd rfl e⟩ hv (fun q _ hq => by
    unfold hrB
    rw [e12, decide_eq_true_eq, sid_bit v hv q (by omega), Nat.testBit, Nat.and_comm, Nat.and_one_is_mod]
    simp) (fun q hq => by omega)
  have z1 : sm (mA (fun _ => none)) 0 n = 0 := by
    have := sm_le (f := mA (fun _ => none)) (c := 0) n 0 (fun j _ _ => Nat.le_refl _)
    omega
  have z2 : sm (cA s (fun _ => none)) 0 n = 0 := by
    have := sm_le (f := cA s (fun _ => none)) (c := 0) n 0 (fun j _ _ => Nat.le_refl _)
    omega
  rw [z1, z2] at f4
  refine ⟨h1, hf.tr f1, f2, fun Q => ?_⟩
  have i5y : xI (setI (setI h 65 0 (-(nI 1))) 65 1 (nI 0)) 14 5 = nI v := by rw [xI_s_ne (by decide), xI_s_ne (by decide), i5x, e12]
  simp (disch := omega) only [m27, b27_0, e_iconst, e_lconst, e_null, e_ldc, e_iload0i, e_iload1i, e_iload2i, e_iload3i, e_iload4i, e_iload5i, e_iload6i, e_iload7i, e_iload8i, e_iload9i, e_iload10i, e_lload0l, e_lload1l, e_lload2l, e_lload3l, e_lload4l, e_lload5l, e_lload6l, e_lload7l, e_lload8l, e_lload9l, e_lload10l, e_aload0r, e_aload1r, e_aload2r, e_aload3r, e_aload4r, e_aload5r, e_aload6r, e_aload7r, e_aload8r, e_aload9r, e_aload10r, e_aload0n, e_aload1n, e_aload2n, e_aload3n, e_aload4n, e_aload5n, e_aload6n, e_aload7n, e_aload8n, e_aload9n, e_aload10n, e_aload0f, e_aload1f, e_aload2f, e_aload3f, e_aload4f, e_aload5f, e_aload6f, e_aload7f, e_aload8f, e_aload9f, e_aload10f, e_iinc0, e_iinc1, e_iinc2, e_iinc3, e_iinc4, e_iinc5, e_iinc6, e_iinc7, e_iinc8, e_iinc9, e_iinc10, xst_0, xst_1i, xst2_1i, xst_1r, xst2_1r, xst_1n, xst2_1n, xst_1f, xst2_1f, xst_1u, xst2_1u, xst_1l, xst2_1l, xst2_0, xst_s, xst2_s, e_istore, e_lstore, e_astore, e_astoreN, e_iadd, e_isub, e_imul, e_iand, e_ior, e_ixor, e_ishl, e_ishr, e_iushr, e_ladd, e_lsub, e_lmul, e_land, e_lor, e_lshl, e_lcmp, e_i2l, e_l2i, e_i2b, e_ineg, e_dupi, e_dupr, e_dup2, e_popi, e_popr, e_idiv, e_irem, e_ldiv, e_lrem, e_ifCond, e_if_icmp, e_ifnullR, e_ifnullN, e_ifnonnullR, e_ifnonnullN, e_goto, e_jsr, e_tsw, e_lsw, e_getfield, e_dload, e_fload, e_putfield, e_dstore, e_fstore, e_fstoreN, e_monitor, e_new, e_newarray, e_anewarray, e_mnew, e_alen, e_slen, e_schr, e_alenF, e_iaload, e_ialoadF, e_baload, e_laload, e_aaload, e_iastore, e_lastore, e_aastore, e_bastoreB, e_bastoreZ, e_copy, e_ireturnI, e_ireturnZ0, e_ireturnZ1, e_ireturnZb, e_lreturn, e_areturn, e_areturnA, e_areturnN, e_return, ofI, ofIm, ofJ, cat_i, cat_l, cat_r, cat_f, cat_n, xent_0, xent_i, xent_l, xent_r, xent_n, xent_f, xentry, xrf_s, xrf_n, List.getD_cons_zero, List.getD_cons_succ, List.length_cons, List.length_nil, List.cons_append, List.nil_append, List.append_nil, List.map_cons, List.map_nil, List.sum_cons, List.sum_nil, List.replicate, oT_s, oT_n, true_and, and_true, Nat.reduceAdd, Nat.reduceSub, Nat.reduceLeDiff, Nat.reduceEqDiff, Nat.reduceLT, Nat.reduceDiv, Nat.reduceMod, Nat.reduceMul, eq_self, ofN, nI_dec, nI_11, or_true, true_or, false_or, or_false, nI_e0, nI_0lt, Nat.succ_ne_zero, Nat.zero_lt_succ, lg_cmp_gt, lg_cmp_lt, lg_cmp_eq, nI_lt0, nI_add, pk_sub, pk_mul, Nat.add_sub_cancel, nI_clamp, vp_in_T, nI_ltI, nI_leI, nI_eqI, Nat.zero_add, Nat.add_zero, xc_eq, xc_ne, xc_lt, xc_ge, xc_gt, xc_le, bI_0, bI_0n, bI_n0, not_true_eq_false, not_false_eq_true, if_true, if_false, ite_true, ite_false, decide_true, decide_false, and_self, and_true, true_and, Bool.not_false, Bool.not_true, Bool.true_and, Bool.and_true, Bool.false_and, Bool.and_false, Bool.and_self, Bool.true_eq_false, Bool.false_eq_true, decide_true, decide_false, not_true_eq_false, not_false_eq_true, eq_self, zs_14 hz, zs_65 hz, f4_0, f4_1, xis_sI, v28, i5y, f4]
end PF
