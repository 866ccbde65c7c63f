section PA
variable {L d : Nat} {xs : Nat → Int32} {h h1 : xH} {Q : xQ} {p o n w t k : Nat} {x y z fo xx : Int32} {T : Nat} {tp : Nat → Int32} {R : List (List Cl)} {σ σ' : Sn} {u u' : Nat} {H H' : Nat → Nat → Int32} {ι : Nat → Option Sn} {s s' f g : Nat → Int32}
variable {A A' : Nat → Option (Option Nat)} {b : Nat × Nat × (Nat → Option (Option Nat))} {c v k m : Nat}
/-! who goes with whom: none not said yet, some none stays -/
def upA (A : Nat → Option (Option Nat)) (p : Nat) (x : Option (Option Nat)) : Nat → Option (Option Nat) := fun i => if i = p then x else A i
theorem upA_eq {x : Option (Option Nat)} : upA A p x p = x := if_pos rfl
theorem upA_ne {x : Option (Option Nat)} {i : Nat} (e : i ≠ p) : upA A p x i = A i := if_neg e
def wI (x : Option (Option Nat)) : Int32 := match x with
  | none => -(nI 2)
  | some none => -(nI 1)
  | some (some o) => nI o
def sm (f : Nat → Nat) : Nat → Nat → Nat
  | _, 0 => 0
  | i, k + 1 => f i + sm f (i + 1) k
theorem sm_same {f g : Nat → Nat} : ∀ k i, (∀ j, i ≤ j → j < i + k → g j = f j) → sm g i k = sm f i k
  | 0, _, _ => rfl
  | k + 1, i, h => by rw [sm, sm, h i (Nat.le_refl _) (by omega), sm_same k (i + 1) (fun j h1 h2 => h j (by omega) (by omega))]
theorem sm_up {f g : Nat → Nat} {t : Nat} (h3 : ∀ i, i ≠ t → g i = f i) : ∀ k i, i ≤ t → t < i + k → sm g i k + f t = sm f i k + g t := by
  intro k
  induction k with
  | zero => intro i h1 h2; omega
  | succ k ih =>
    intro i h1 h2
    rw [sm, sm]
    by_cases q : i = t
    · subst q
      rw [sm_same k (i + 1) (fun j h4 _ => h3 j (by omega))]; omega
    · have := ih (i + 1) (by omega) (by omega)
      rw [h3 i q]; omega
def feN (s : Nat → Int32) (o : Nat) : Nat := (s (61 + o)).toNatClampNeg
theorem feN_ok (hS : SOK n s) (ho : o < 6) : s (61 + o) = nI (feN s o) ∧ feN s o ≤ 9 := by
  obtain ⟨f, h1, h2⟩ := hS.2.2.2.1 o ho
  unfold feN
  rw [h2, nI_clamp (by omega)]; exact ⟨rfl, h1⟩
def mA (A : Nat → Option (Option Nat)) (q : Nat) : Nat := match A q with
  | some (some _) => 1
  | _ => 0
def cA (s : Nat → Int32) (A : Nat → Option (Option Nat)) (q : Nat) : Nat := match A q with
  | some (some o) => if q < o then feN s o else 0
  | _ => 0
def hrB (s : Nat → Int32) (q : Nat) : Bool := decide (sidF (s 12) q = 0)
def caB (s : Nat → Int32) (p o : Nat) : Bool := canB (s 11) (s 12) (trS s) p o
/-- what is weighed: how many and one more, coins, who with whom -/
def weA (s : Nat → Int32) (n : Nat) (A : Nat → Option (Option Nat)) (b : Nat × Nat × (Nat → Option (Option Nat))) : Nat × Nat × (Nat → Option (Option Nat)) := if sm (mA A) 0 n + 1 < b.1 ∨ (sm (mA A) 0 n + 1 = b.1 ∧ b.2.1 ≤ sm (cA s A) 0 n) then b else (sm (mA A) 0 n + 1, sm (cA s A) 0 n, A)
def opA (s : Nat → Int32) (A : Nat → Option (Option Nat)) (p t : Nat) : Option (Nat → Option (Option Nat)) := match t with
  | 0 => some (upA A p (some none))
  | 1 => if caB s p p = true then some (upA A p (some (some p))) else none
  | o + 2 => if p < o ∧ hrB s o = true ∧ A o = none ∧ caB s p o = true then some (upA (upA A p (some (some o))) o (some (some p))) else none
def pf (s : Nat → Int32) (n : Nat) : Nat → Nat → (Nat → Option (Option Nat)) → Nat × Nat × (Nat → Option (Option Nat)) → Nat × Nat × (Nat → Option (Option Nat))
  | 0, _, A, b => weA s n A b
  | k + 1, p, A, b => if hrB s p = true ∧ A p = none then forF (fun t b => match opA s A p t with
    | some A' => pf s n k (p + 1) A' b
    | none => b) 0 (n + 2) b else pf s n k (p + 1) A b
def pfT (s : Nat → Int32) (n k p : Nat) (A : Nat → Option (Option Nat)) : Nat → Nat × Nat × (Nat → Option (Option Nat)) → Nat × Nat × (Nat → Option (Option Nat)) := fun t b => match opA s A p t with
    | some A' => pf s n k (p + 1) A' b
    | none => b
theorem pf_ch (h1' : hrB s p = true) (h2' : A p = none) : pf s n (k + 1) p A b = forF (pfT s n k p A) 0 (n + 2) b := by
  rw [pf, if_pos ⟨h1', h2'⟩]; rfl
theorem pf_no (h1' : ¬ (hrB s p = true ∧ A p = none)) : pf s n (k + 1) p A b = pf s n k (p + 1) A b := by rw [pf, if_neg h1']
theorem forF_skip {σ : Type} {f : Nat → σ → σ} : ∀ m j i x, (∀ t, i ≤ t → t < i + m → ∀ x, f t x = x) → forF f i (m + j) x = forF f (i + m) j x := by
  intro m
  induction m with
  | zero => intro j i x _; rw [Nat.zero_add, Nat.add_zero]
  | succ m ih =>
    intro j i x h
    rw [show m + 1 + j = (m + j) + 1 by omega, forF, h i (Nat.le_refl _) (by omega), ih j (i + 1) x (fun t h1 h2 => h t (by omega) (by omega)), show i + 1 + m = i + (m + 1) by omega]
theorem pf_split (hp : p < n) (h1' : hrB s p = true) (h2' : A p = none) : pf s n (k + 1) p A b = forF (pfT s n k p A) (p + 3) (n - (p + 1)) (pfT s n k p A 1 (pfT s n k p A 0 b)) := by
  rw [pf_ch h1' h2', forF, forF]
  have := forF_skip (f := pfT s n k p A) (p + 1) (n - (p + 1)) 2 (pfT s n k p A 1 (pfT s n k p A 0 b)) (fun t h3 h4 x => by
    obtain ⟨o, rfl⟩ : ∃ o, t = o + 2 := ⟨t - 2, by omega⟩
    unfold pfT opA
    simp only
    rw [if_neg (fun z => by omega)])
  rw [show p + 1 + (n - (p + 1)) = n by omega, show 2 + (p + 1) = p + 3 by omega] at this
  exact this
/-- sums, as somebody is said -/
theorem mA_st (hp : p < n) (h2' : A p = none) : sm (mA (upA A p (some none))) 0 n = sm (mA A) 0 n ∧ sm (cA s (upA A p (some none))) 0 n = sm (cA s A) 0 n := by
  have e1 := sm_up (f := mA A) (g := mA (upA A p (some none))) (t := p) (fun i hi => by unfold mA; rw [upA_ne hi]) n 0 (Nat.zero_le _) (by omega)
  have e2 := sm_up (f := cA s A) (g := cA s (upA A p (some none))) (t := p) (fun i hi => by unfold cA; rw [upA_ne hi]) n 0 (Nat.zero_le _) (by omega)
  have a1 : mA A p = 0 := by unfold mA; rw [h2']
  have a2 : mA (upA A p (some none)) p = 0 := by unfold mA; rw [upA_eq]
  have a3 : cA s A p = 0 := by unfold cA; rw [h2']
  have a4 : cA s (upA A p (some none)) p = 0 := by unfold cA; rw [upA_eq]
  omega
theorem mA_al (hp : p < n) (h2' : A p = none) : sm (mA (upA A p (some (some p)))) 0 n = sm (mA A) 0 n + 1 ∧ sm (cA s (upA A p (some (some p)))) 0 n = sm (cA s A) 0 n := by
  have e1 := sm_up (f := mA A) (g := mA (upA A p (some (some p)))) (t := p) (fun i hi => by unfold mA; rw [upA_ne hi]) n 0 (Nat.zero_le _) (by omega)
  have e2 := sm_up (f := cA s A) (g := cA s (upA A p (some (some p)))) (t := p) (fun i hi => by unfold cA; rw [upA_ne hi]) n 0 (Nat.zero_le _) (by omega)
  have a1 : mA A p = 0 := by unfold mA; rw [h2']
  have a2 : mA (upA A p (some (some p))) p = 1 := by unfold mA; rw [upA_eq]
  have a3 : cA s A p = 0 := by unfold cA; rw [h2']
  have a4 : cA s (upA A p (some (some p))) p = 0 := by unfold cA; rw [upA_eq]; simp
  omega
theorem mA_pr (hp : p < o) (ho : o < n) (h2' : A p = none) (h3' : A o = none) : sm (mA (upA (upA A p (some (some o))) o (some (some p)))) 0 n = sm (mA A) 0 n + 2 ∧ sm (cA s (upA (upA A p (some (some o))) o (some (some p)))) 0 n = sm (cA s A) 0 n + feN s o := by
  have e1 := sm_up (f := mA A) (g := mA (upA A p (some (some o)))) (t := p) (fun i hi => by unfold mA; rw [upA_ne hi]) n 0 (Nat.zero_le _) (by omega)
  have e2 := sm_up (f := cA s A) (g := cA s (upA A p (some (some o)))) (t := p) (fun i hi => by unfold cA; rw [upA_ne hi]) n 0 (Nat.zero_le _) (by omega)
  have e3 := sm_up (f := mA (upA A p (some (some o)))) (g := mA (upA (upA A p (some (some o))) o (some (some p)))) (t := o) (fun i hi => by unfold mA; rw [upA_ne hi]) n 0 (Nat.zero_le _) (by omega)
  have e4 := sm_up (f := cA s (upA A p (some (some o)))) (g := cA s (upA (upA A p (some (some o))) o (some (some p)))) (t := o) (fun i hi => by unfold cA; rw [upA_ne hi]) n 0 (Nat.zero_le _) (by omega)
  have a1 : mA A p = 0 := by unfold mA; rw [h2']
  have a2 : mA (upA A p (some (some o))) p = 1 := by unfold mA; rw [upA_eq]
  have a3 : cA s A p = 0 := by unfold cA; rw [h2']
  have a4 : cA s (upA A p (some (some o))) p = feN s o := by unfold cA; rw [upA_eq]; simp only; rw [if_pos hp]
  have a5 : mA (upA A p (some (some o))) o = 0 := by unfold mA; rw [upA_ne (by omega), h3']
  have a6 : mA (upA (upA A p (some (some o))) o (some (some p))) o = 1 := by unfold mA; rw [upA_eq]
  have a7 : cA s (upA A p (some (some o))) o = 0 := by unfold cA; rw [upA_ne (by omega), h3']
  have a8 : cA s (upA (upA A p (some (some o))) o (some (some p))) o = 0 := by unfold cA; rw [upA_eq]; simp only; rw [if_neg (by omega)]
  omega
theorem sm_le {f : Nat → Nat} {c : Nat} : ∀ k i, (∀ j, i ≤ j → j < i + k → f j ≤ c) → sm f i k ≤ c * k
  | 0, _, _ => Nat.zero_le _
  | k + 1, i, h => by
    rw [sm, Nat.mul_succ]
    have h1 := h i (Nat.le_refl _) (by omega)
    have h2 := sm_le k (i + 1) (fun j h1 h2 => h j (by omega) (by omega))
    omega
def AOK (n : Nat) (A : Nat → Option (Option Nat)) : Prop := ∀ q o, A q = some (some o) → o < n
theorem sums_le (hS : SOK n s) (hA : AOK n A) : sm (mA A) 0 n ≤ 6 ∧ sm (cA s A) 0 n ≤ 54 := by
  have n6 := hS.1
  have h1 := sm_le (f := mA A) (c := 1) n 0 (fun j _ _ => by unfold mA; split <;> omega)
  have h2 := sm_le (f := cA s A) (c := 9) n 0 (fun j _ _ => by
    unfold cA
    split
    · rename_i o ho
      have := (feN_ok hS (show o < 6 by have := hA _ _ ho; omega)).2
      split <;> omega
    · omega)
  omega
/-- the class's rows -/
def BeC (h : xH) (s : Nat → Int32) (n : Nat) (b : Nat × Nat × (Nat → Option (Option Nat))) : Prop := xI h 65 0 = feI b.1 ∧ xI h 65 1 = nI b.2.1 ∧ b.1 ≤ 7 ∧ b.2.1 ≤ 54 ∧ (b.1 ≠ 0 → ∀ q, q < n → hrB s q = true → xI h 66 q = wI (b.2.2 q))
def WiC (h : xH) (n : Nat) (A : Nat → Option (Option Nat)) : Prop := ∀ q, q < n → A q ≠ none → xI h 67 q = wI (A q)
def PP (a : Nat) : Prop := a = 65 ∨ a = 66 ∨ a = 67
theorem PP.l {a : Nat} (z : PP a) : PL a := by unfold PP at z; unfold PL; omega
theorem fe_lt {M m : Nat} (hM : M < 100) (hm : m ≤ 7) : (feI m < nI M) = (m ≤ M) := by
  cases m with
  | zero =>
    have : feI 0 < nI M := by show -(nI 1) < nI M; rw [Int32.lt_iff_toInt_lt, neg_ti, nI_toInt (by omega)]; omega
    exact (eq_true this).trans (eq_true (Nat.zero_le _)).symm
  | succ m => rw [feI_1]; exact propext (nI_ltI (by omega) (by omega))
theorem fe_eq {M m : Nat} (hM : M < 100) (hm : m ≤ 7) : (nI M = feI m) = (M + 1 = m) := by
  cases m with
  | zero => rw [show feI 0 = -(nI 1) from rfl, nI_nm (by omega)]; exact (eq_false (by omega)).symm
  | succ m => rw [feI_1, nI_eqI (by omega) (by omega)]; exact propext (by omega)
theorem c_weigh (hz : Bas h) (hS : SOK n s) (hA : AOK n A) (hb : BeC h s n b) (hW : WiC h n A) (hall : ∀ q, q < n → hrB s q = true → A q ≠ none) : ∃ h1, Fr (fun a => a = 65 ∨ a = 66) h h1 ∧ BeC h1 s n (weA s n A b) ∧ ∀ Q, Call (pG L xs) pM (d + 1) 29 [.ref 65, .int (nI (sm (mA A) 0 n)), .int (nI (sm (cA s A) 0 n))] h Q = Q none h1 := by
  have n6 := hS.1
  obtain ⟨l1, l2⟩ := sums_le hS hA
  obtain ⟨e0, e1, e2, e3, e4⟩ := id hb
  have f1 := fe_lt (M := sm (mA A) 0 n) (m := b.1) (by omega) e2
  have f2 := fe_eq (M := sm (mA A) 0 n) (m := b.1) (by omega) e2
  by_cases q : sm (mA A) 0 n + 1 < b.1 ∨ (sm (mA A) 0 n + 1 = b.1 ∧ b.2.1 ≤ sm (cA s A) 0 n)
  · have ew : weA s n A b = b := by unfold weA; rw [if_pos q]
    refine ⟨h, Fr.rf, by rw [ew]; exact hb, fun Q => ?_⟩
    have q1 : ¬ b.1 ≤ sm (mA A) 0 n := by omega
    by_cases q2 : sm (mA A) 0 n + 1 = b.1
    · have q3 : ¬ sm (cA s A) 0 n < b.2.1 := by omega
      simp (disch := omega) only [m29, b29_0, k29_1, b29_1, k29_2, b29_2, e_iconst, e_lconst, e_null, e_ldc, e_iload0i, e_iload1i, e_iload2i, e_iload3i, e_iload4i, e_iload5i, e_iload6i, e_iload7i, e_iload8i, e_iload9i, e_iload10i, e_lload0l, e_lload1l, e_lload2l, e_lload3l, e_lload4l, e_lload5l, e_lload6l, e_lload7l, e_lload8l, e_lload9l, e_lload10l, e_aload0r, e_aload1r, e_aload2r, e_aload3r, e_aload4r, e_aload5r, e_aload6r, e_aload7r, e_aload8r, e_aload9r, e_aload10r, e_aload0n, e_aload1n, e_aload2n, e_aload3n, e_aload4n, e_aload5n, e_aload6n, e_aload7n, e_aload8n, e_aload9n, e_aload10n, e_aload0f, e_aload1f, e_aload2f, e_aload3f, e_aload4f, e_aload5f, e_aload6f, e_aload7f, e_aload8f, e_aload9f, e_aload10f, e_iinc0, e_iinc1, e_iinc2, e_iinc3, e_iinc4, e_iinc5, e_iinc6, e_iinc7, e_iinc8, e_iinc9, e_iinc10, xst_0, xst_1i, xst2_1i, xst_1r, xst2_1r, xst_1n, xst2_1n, xst_1f, xst2_1f, xst_1u, xst2_1u, xst_1l, xst2_1l, xst2_0, xst_s, xst2_s, e_istore, e_lstore, e_astore, e_astoreN, e_iadd, e_isub, e_imul, e_iand, e_ior, e_ixor, e_ishl, e_ishr, e_iushr, e_ladd, e_lsub, e_lmul, e_land, e_lor, e_lshl, e_lcmp, e_i2l, e_l2i, e_i2b, e_ineg, e_dupi, e_dupr, e_dup2, e_popi, e_popr, e_idiv, e_irem, e_ldiv, e_lrem, e_ifCond, e_if_icmp, e_ifnullR, e_ifnullN, e_ifnonnullR, e_ifnonnullN, e_goto, e_jsr, e_tsw, e_lsw, e_getfield, e_dload, e_fload, e_putfield, e_dstore, e_fstore, e_fstoreN, e_monitor, e_new, e_newarray, e_anewarray, e_mnew, e_alen, e_slen, e_schr, e_alenF, e_iaload, e_ialoadF, e_baload, e_laload, e_aaload, e_iastore, e_lastore, e_aastore, e_bastoreB, e_bastoreZ, e_copy, e_ireturnI, e_ireturnZ0, e_ireturnZ1, e_ireturnZb, e_lreturn, e_areturn, e_areturnA, e_areturnN, e_return, ofI, ofIm, ofJ, cat_i, cat_l, cat_r, cat_f, cat_n, xent_0, xent_i, xent_l, xent_r, xent_n, xent_f, xentry, xrf_s, xrf_n, List.getD_cons_zero, List.getD_cons_succ, List.length_cons, List.length_nil, List.cons_append, List.nil_append, List.append_nil, List.map_cons, List.map_nil, List.sum_cons, List.sum_nil, List.replicate, oT_s, oT_n, true_and, and_true, Nat.reduceAdd, Nat.reduceSub, Nat.reduceLeDiff, Nat.reduceEqDiff, Nat.reduceLT, Nat.reduceDiv, Nat.reduceMod, Nat.reduceMul, eq_self, ofN, nI_dec, nI_11, or_true, true_or, false_or, or_false, nI_e0, nI_0lt, Nat.succ_ne_zero, Nat.zero_lt_succ, lg_cmp_gt, lg_cmp_lt, lg_cmp_eq, nI_lt0, nI_add, pk_sub, pk_mul, Nat.add_sub_cancel, nI_clamp, vp_in_T, nI_ltI, nI_leI, nI_eqI, Nat.zero_add, Nat.add_zero, xc_eq, xc_ne, xc_lt, xc_ge, xc_gt, xc_le, bI_0, bI_0n, bI_n0, not_true_eq_false, not_false_eq_true, if_true, if_false, ite_true, ite_false, decide_true, decide_false, and_self, and_true, true_and, zs_65 hz, e0, e1, f1, f2, q1, q2, q3]
    · simp (disch := omega) only [m29, b29_0, k29_1, b29_1, k29_2, b29_2, e_iconst, e_lconst, e_null, e_ldc, e_iload0i, e_iload1i, e_iload2i, e_iload3i, e_iload4i, e_iload5i, e_iload6i, e_iload7i, e_iload8i, e_iload9i, e_iload10i, e_lload0l, e_lload1l, e_lload2l, e_lload3l, e_lload4l, e_lload5l, e_lload6l, e_lload7l, e_lload8l, e_lload9l, e_lload10l, e_aload0r, e_aload1r, e_aload2r, e_aload3r, e_aload4r, e_aload5r, e_aload6r, e_aload7r, e_aload8r, e_aload9r, e_aload10r, e_aload0n, e_aload1n, e_aload2n, e_aload3n, e_aload4n, e_aload5n, e_aload6n, e_aload7n, e_aload8n, e_aload9n, e_aload10n, e_aload0f, e_aload1f, e_aload2f, e_aload3f, e_aload4f, e_aload5f, e_aload6f, e_aload7f, e_aload8f, e_aload9f, e_aload10f, e_iinc0, e_iinc1, e_iinc2, e_iinc3, e_iinc4, e_iinc5, e_iinc6, e_iinc7, e_iinc8, e_iinc9, e_iinc10, xst_0, xst_1i, xst2_1i, xst_1r, xst2_1r, xst_1n, xst2_1n, xst_1f, xst2_1f, xst_1u, xst2_1u, xst_1l, xst2_1l, xst2_0, xst_s, xst2_s, e_istore, e_lstore, e_astore, e_astoreN, e_iadd, e_isub, e_imul, e_iand, e_ior, e_ixor, e_ishl, e_ishr, e_iushr, e_ladd, e_lsub, e_lmul, e_land, e_lor, e_lshl, e_lcmp, e_i2l, e_l2i, e_i2b, e_ineg, e_dupi, e_dupr, e_dup2, e_popi, e_popr, e_idiv, e_irem, e_ldiv, e_lrem, e_ifCond, e_if_icmp, e_ifnullR, e_ifnullN, e_ifnonnullR, e_ifnonnullN, e_goto, e_jsr, e_tsw, e_lsw, e_getfield, e_dload, e_fload, e_putfield, e_dstore, e_fstore, e_fstoreN, e_monitor, e_new, e_newarray, e_anewarray, e_mnew, e_alen, e_slen, e_schr, e_alenF, e_iaload, e_ialoadF, e_baload, e_laload, e_aaload, e_iastore, e_lastore, e_aastore, e_bastoreB, e_bastoreZ, e_copy, e_ireturnI, e_ireturnZ0, e_ireturnZ1, e_ireturnZb, e_lreturn, e_areturn, e_areturnA, e_areturnN, e_return, ofI, ofIm, ofJ, cat_i, cat_l, cat_r, cat_f, cat_n, xent_0, xent_i, xent_l, xent_r, xent_n, xent_f, xentry, xrf_s, xrf_n, List.getD_cons_zero, List.getD_cons_succ, List.length_cons, List.length_nil, List.cons_append, List.nil_append, List.append_nil, List.map_cons, List.map_nil, List.sum_cons, List.sum_nil, List.replicate, oT_s, oT_n, true_and, and_true, Nat.reduceAdd, Nat.reduceSub, Nat.reduceLeDiff, Nat.reduceEqDiff, Nat.reduceLT, Nat.reduceDiv, Nat.reduceMod, Nat.reduceMul, eq_self, ofN, nI_dec, nI_11, or_true, true_or, false_or, or_false, nI_e0, nI_0lt, Nat.succ_ne_zero, Nat.zero_lt_succ, lg_cmp_gt, lg_cmp_lt, lg_cmp_eq, nI_lt0, nI_add, pk_sub, pk_mul, Nat.add_sub_cancel, nI_clamp, vp_in_T, nI_ltI, nI_leI, nI_eqI, Nat.zero_add, Nat.add_zero, xc_eq, xc_ne, xc_lt, xc_ge, xc_gt, xc_le, bI_0, bI_0n, bI_n0, not_true_eq_false, not_false_eq_true, if_true, if_false, ite_true, ite_false, decide_true, decide_false, and_self, and_true, true_and, zs_65 hz, e0, e1, f1, f2, q1, q2]
  · have ew : weA s n A b = (sm (mA A) 0 n + 1, sm (cA s A) 0 n, A) := by unfold weA; rw [if_neg q]
    have fr : Fr (fun a => a = 65 ∨ a = 66) h (rowI (setI (setI h 65 0 (nI (sm (mA A) 0 n))) 65 1 (nI (sm (cA s A) 0 n))) 66 (va_cpy (xI h 67) (xI h 66) 0 0 6)) := ((Fr.sI (.inl rfl)).tr (Fr.sI (.inl rfl))).tr (Fr.row (.inr rfl))
    refine ⟨rowI (setI (setI h 65 0 (nI (sm (mA A) 0 n))) 65 1 (nI (sm (cA s A) 0 n))) 66 (va_cpy (xI h 67) (xI h 66) 0 0 6), fr, ?_, fun Q => ?_⟩
    · rw [ew]
      refine ⟨?_, ?_, by show sm (mA A) 0 n + 1 ≤ 7; omega, l2, fun _ q hq hr => ?_⟩
      · rw [xI_row_ne _ _ (by decide), xI_sI, if_neg (by decide), xI_sI, if_pos ⟨rfl, rfl⟩]; rfl
      · rw [xI_row_ne _ _ (by decide), xI_sI, if_pos ⟨rfl, rfl⟩]
      · rw [xI_row_eq]
        unfold va_cpy
        rw [if_pos (by omega)]
        show xI h 67 (0 + (q - 0)) = _
        rw [Nat.zero_add, Nat.sub_zero]
        exact hW q hq (hall q hq hr)
    · have g7 : xI (setI (setI h 65 0 (nI (sm (mA A) 0 n))) 65 1 (nI (sm (cA s A) 0 n))) 67 = xI h 67 := by rw [xI_s_ne (by decide), xI_s_ne (by decide)]
      have g6 : xI (setI (setI h 65 0 (nI (sm (mA A) 0 n))) 65 1 (nI (sm (cA s A) 0 n))) 66 = xI h 66 := by rw [xI_s_ne (by decide), xI_s_ne (by decide)]
      by_cases q1 : b.1 ≤ sm (mA A) 0 n
      · simp (disch := omega) only [m29, b29_0, k29_1, b29_1, k29_2, b29_2, e_iconst, e_lconst, e_null, e_ldc, e_iload0i, e_iload1i, e_iload2i, e_iload3i, e_iload4i, e_iload5i, e_iload6i, e_iload7i, e_iload8i, e_iload9i, e_iload10i, e_lload0l, e_lload1l, e_lload2l, e_lload3l, e_lload4l, e_lload5l, e_lload6l, e_lload7l, e_lload8l, e_lload9l, e_lload10l, e_aload0r, e_aload1r, e_aload2r, e_aload3r, e_aload4r, e_aload5r, e_aload6r, e_aload7r, e_aload8r, e_aload9r, e_aload10r, e_aload0n, e_aload1n, e_aload2n, e_aload3n, e_aload4n, e_aload5n, e_aload6n, e_aload7n, e_aload8n, e_aload9n, e_aload10n, e_aload0f, e_aload1f, e_aload2f, e_aload3f, e_aload4f, e_aload5f, e_aload6f, e_aload7f, e_aload8f, e_aload9f, e_aload10f, e_iinc0, e_iinc1, e_iinc2, e_iinc3, e_iinc4, e_iinc5, e_iinc6, e_iinc7, e_iinc8, e_iinc9, e_iinc10, xst_0, xst_1i, xst2_1i, xst_1r, xst2_1r, xst_1n, xst2_1n, xst_1f, xst2_1f, xst_1u, xst2_1u, xst_1l, xst2_1l, xst2_0, xst_s, xst2_s, e_istore, e_lstore, e_astore, e_astoreN, e_iadd, e_isub, e_imul, e_iand, e_ior, e_ixor, e_ishl, e_ishr, e_iushr, e_ladd, e_lsub, e_lmul, e_land, e_lor, e_lshl, e_lcmp, e_i2l, e_l2i, e_i2b, e_ineg, e_dupi, e_dupr, e_dup2, e_popi, e_popr, e_idiv, e_irem, e_ldiv, e_lrem, e_ifCond, e_if_icmp, e_ifnullR, e_ifnullN, e_ifnonnullR, e_ifnonnullN, e_goto, e_jsr, e_tsw, e_lsw, e_getfield, e_dload, e_fload, e_putfield, e_dstore, e_fstore, e_fstoreN, e_monitor, e_new, e_newarray, e_anewarray, e_mnew, e_alen, e_slen, e_schr, e_alenF, e_iaload, e_ialoadF, e_baload, e_laload, e_aaload, e_iastore, e_lastore, e_aastore, e_bastoreB, e_bastoreZ, e_copy, e_ireturnI, e_ireturnZ0, e_ireturnZ1, e_ireturnZb, e_lreturn, e_areturn, e_areturnA, e_areturnN, e_return, ofI, ofIm, ofJ, cat_i, cat_l, cat_r, cat_f, cat_n, xent_0, xent_i, xent_l, xent_r, xent_n, xent_f, xentry, xrf_s, xrf_n, List.getD_cons_zero, List.getD_cons_succ, List.length_cons, List.length_nil, List.cons_append, List.nil_append, List.append_nil, List.map_cons, List.map_nil, List.sum_cons, List.sum_nil, List.replicate, oT_s, oT_n, true_and, and_true, Nat.reduceAdd, Nat.reduceSub, Nat.reduceLeDiff, Nat.reduceEqDiff, Nat.reduceLT, Nat.reduceDiv, Nat.reduceMod, Nat.reduceMul, eq_self, ofN, nI_dec, nI_11, or_true, true_or, false_or, or_false, nI_e0, nI_0lt, Nat.succ_ne_zero, Nat.zero_lt_succ, lg_cmp_gt, lg_cmp_lt, lg_cmp_eq, nI_lt0, nI_add, pk_sub, pk_mul, Nat.add_sub_cancel, nI_clamp, vp_in_T, nI_ltI, nI_leI, nI_eqI, Nat.zero_add, Nat.add_zero, xc_eq, xc_ne, xc_lt, xc_ge, xc_gt, xc_le, bI_0, bI_0n, bI_n0, not_true_eq_false, not_false_eq_true, if_true, if_false, ite_true, ite_false, decide_true, decide_false, and_self, and_true, true_and, zs_65 hz, e0, e1, f1, f2, q1, f4_0, f4_1, xis_sI, xlen_sI, xR_sI, zr_65_3 hz, zr_65_2 hz, zs_66 hz, zl_66 hz, zs_67 hz, zl_67 hz, g7, g6]
      · have q2 : sm (mA A) 0 n + 1 = b.1 := by omega
        have q3 : sm (cA s A) 0 n < b.2.1 := by omega
        simp (disch := omega) only [m29, b29_0, k29_1, b29_1, k29_2, b29_2, e_iconst, e_lconst, e_null, e_ldc, e_iload0i, e_iload1i, e_iload2i, e_iload3i, e_iload4i, e_iload5i, e_iload6i, e_iload7i, e_iload8i, e_iload9i, e_iload10i, e_lload0l, e_lload1l, e_lload2l, e_lload3l, e_lload4l, e_lload5l, e_lload6l, e_lload7l, e_lload8l, e_lload9l, e_lload10l, e_aload0r, e_aload1r, e_aload2r, e_aload3r, e_aload4r, e_aload5r, e_aload6r, e_aload7r, e_aload8r, e_aload9r, e_aload10r, e_aload0n, e_aload1n, e_aload2n, e_aload3n, e_aload4n, e_aload5n, e_aload6n, e_aload7n, e_aload8n, e_aload9n, e_aload10n, e_aload0f, e_aload1f, e_aload2f, e_aload3f, e_aload4f, e_aload5f, e_aload6f, e_aload7f, e_aload8f, e_aload9f, e_aload10f, e_iinc0, e_iinc1, e_iinc2, e_iinc3, e_iinc4, e_iinc5, e_iinc6, e_iinc7, e_iinc8, e_iinc9, e_iinc10, xst_0, xst_1i, xst2_1i, xst_1r, xst2_1r, xst_1n, xst2_1n, xst_1f, xst2_1f, xst_1u, xst2_1u, xst_1l, xst2_1l, xst2_0, xst_s, xst2_s, e_istore, e_lstore, e_astore, e_astoreN, e_iadd, e_isub, e_imul, e_iand, e_ior, e_ixor, e_ishl, e_ishr, e_iushr, e_ladd, e_lsub, e_lmul, e_land, e_lor, e_lshl, e_lcmp, e_i2l, e_l2i, e_i2b, e_ineg, e_dupi, e_dupr, e_dup2, e_popi, e_popr, e_idiv, e_irem, e_ldiv, e_lrem, e_ifCond, e_if_icmp, e_ifnullR, e_ifnullN, e_ifnonnullR, e_ifnonnullN, e_goto, e_jsr, e_tsw, e_lsw, e_getfield, e_dload, e_fload, e_putfield, e_dstore, e_fstore, e_fstoreN, e_monitor, e_new, e_newarray, e_anewarray, e_mnew, e_alen, e_slen, e_schr, e_alenF, e_iaload, e_ialoadF, e_baload, e_laload, e_aaload, e_iastore, e_lastore, e_aastore, e_bastoreB, e_bastoreZ, e_copy, e_ireturnI, e_ireturnZ0, e_ireturnZ1, e_ireturnZb, e_lreturn, e_areturn, e_areturnA, e_areturnN, e_return, ofI, ofIm, ofJ, cat_i, cat_l, cat_r, cat_f, cat_n, xent_0, xent_i, xent_l, xent_r, xent_n, xent_f, xentry, xrf_s, xrf_n, List.getD_cons_zero, List.getD_cons_succ, List.length_cons, List.length_nil, List.cons_append, List.nil_append, List.append_nil, List.map_cons, List.map_nil, List.sum_cons, List.sum_nil, List.replicate, oT_s, oT_n, true_and, and_true, Nat.reduceAdd, Nat.reduceSub, Nat.reduceLeDiff, Nat.reduceEqDiff, Nat.reduceLT, Nat.reduceDiv, Nat.reduceMod, Nat.reduceMul, eq_self, ofN, nI_dec, nI_11, or_true, true_or, false_or, or_false, nI_e0, nI_0lt, Nat.succ_ne_zero, Nat.zero_lt_succ, lg_cmp_gt, lg_cmp_lt, lg_cmp_eq, nI_lt0, nI_add, pk_sub, pk_mul, Nat.add_sub_cancel, nI_clamp, vp_in_T, nI_ltI, nI_leI, nI_eqI, Nat.zero_add, Nat.add_zero, xc_eq, xc_ne, xc_lt, xc_ge, xc_gt, xc_le, bI_0, bI_0n, bI_n0, not_true_eq_false, not_false_eq_true, if_true, if_false, ite_true, ite_false, decide_true, decide_false, and_self, and_true, true_and, zs_65 hz, e0, e1, f1, f2, q1, q2, q3, f4_0, f4_1, xis_sI, xlen_sI, xR_sI, zr_65_3 hz, zr_65_2 hz, zs_66 hz, zl_66 hz, zs_67 hz, zl_67 hz, g7, g6]
end PA
