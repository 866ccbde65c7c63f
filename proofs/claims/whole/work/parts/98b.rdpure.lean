section RP
variable {L d : Nat} {xs : Nat → Int32} {h h1 : xH} {Q : xQ} {p o n w t k : Nat} {x y z fo xx : Int32} {T : Nat} {tp : Nat → Int32} {R : List (List Cl)} {σ σ' : Sn} {u u' : Nat} {H H' : Nat → Nat → Int32} {ι : Nat → Option Sn} {s s' f g : Nat → Int32}
variable {B : Nat → Nat} {a b c e m q v W n' a' : Nat} {acc acc' : List It} {i : It} {ops ops' : List Nat} {r : Except Nat (Nat × Nat × List It)}
/-! a rule, read as the reference reads it: pure -/
theorem kd_c (hTb : ∀ i, i < T → B i < 256) (h1' : leB c = false) (h2' : diB c = false) (h3' : c < 128) (h4' : c ≠ 60) (h5' : c ≠ 62) : (kdF B T p = c) = (p < T ∧ B p = c) := by
  refine propext ⟨fun e => ?_, fun e => ?_⟩
  · unfold kdF at e
    split at e
    · omega
    · (repeat' split at e) <;> omega
  · obtain ⟨e1, e2⟩ := e
    rw [kd_sg e1 (by rw [e2]; exact h1') (by rw [e2]; exact h2'), if_neg (fun z => by omega), if_neg (fun z => by omega), e2]
theorem se_c (hTb : ∀ i, i < T → B i < 256) (h1' : leB c = false) (h2' : diB c = false) (h3' : c < 128) (h4' : c ≠ 60) (h5' : c ≠ 62) : (seI B T p = nI c) = (kdF B T p = c) := by
  rw [kd_c hTb h1' h2' h3' h4' h5']
  unfold seI
  by_cases q : p < T
  · have hb := hTb p q
    rw [if_pos q, nI_eqI (by omega) (by omega)]
    exact propext ⟨fun z => ⟨q, z⟩, fun z => z.2⟩
  · rw [if_neg q]
    refine (eq_false (fun z => ?_)).trans (eq_false (fun z => q z.1)).symm
    have z2 : nI c = -(nI 1) := z.symm
    rw [nI_nm (by omega)] at z2
    exact z2
theorem af_c (hTb : ∀ i, i < T → B i < 256) (h1' : leB c = false) (h2' : diB c = false) (h3' : c < 128) (h4' : c ≠ 60) (h5' : c ≠ 62) (e : kdF B T p = c) : afF B T p = p + 1 := by
  rw [kd_c hTb h1' h2' h3' h4' h5'] at e
  obtain ⟨e1, e2⟩ := e
  rw [af_sg e1 (by rw [e2]; exact h1') (by rw [e2]; exact h2'), if_neg (fun z => by omega)]
def opIt (c : Nat) : It := if c = 22 then .inr (.inl ()) else if c < 22 then .inr (.inr (c - 12)) else .inr (.inr (c - 13))
def rS (c : Nat) : Nat := if c = 25 then 91 else c - 11
theorem opIt_k : ∀ c, c < 25 → 12 ≤ c → iC (opIt c) = c ∧ iV (opIt c) = 0 := by decide
theorem opIt_ok : ∀ c, c < 25 → 12 ≤ c → iOk (opIt c) := by
  intro c h1 h2
  unfold opIt
  (repeat' split) <;> first | trivial | (show _ < 12; omega)
theorem opIt_b (hc : 22 ≤ c) (hc2 : c < 25) : iR (opIt c) = rS c := by
  have : c = 22 ∨ c = 23 ∨ c = 24 := by omega
  rcases this with rfl | rfl | rfl <;> rfl
def wdF (B : Nat → Nat) (T p : Nat) : Option Nat := if isW B T p 123581014175598 = true then some 0 else if isW B T p 2003399784 = true then some 1 else if isW B T p 418431069797 = true then some 2 else if isW B T p 431198598248 = true then some 3 else if isW B T p 114784769370228 = true then some 4 else if isW B T p 483006772069 = true then some 5 else if isW B T p 6710629 = true then some 6 else if isW B T p 127991794264947 = true then some 7 else if isW B T p 1936026726 = true then some 8 else if isW B T p 1751478885 = true then some 9 else if isW B T p 1870030194 = true then some 10 else if isW B T p 6578553 = true then some 11 else none
theorem wd_lt (e : wdF B T p = some v) : v < 12 := by
  unfold wdF at e
  (repeat' split at e) <;> (cases e <;> omega)
theorem isW_257 (e : isW B T p W = true) : kdF B T p = 257 := (of_decide_eq_true e).1
theorem wd_257 (e : wdF B T p = some v) : kdF B T p = 257 := by
  unfold wdF at e
  (repeat' split at e) <;> first | exact isW_257 (by assumption) | cases e
def valF (B : Nat → Nat) (T a n : Nat) : Except Nat (It × Nat × Nat) :=
  if kdF B T (nxB B T a) = 258 then
    (if 5 < afF B T (nxB B T a) - nxB B T a then .error (1 + 8 * nxB B T a + 1)
     else if n = 60 then .error (1 + 8 * nxB B T a + 3)
     else .ok (.inl (.inl (dgV B (afF B T (nxB B T a) - nxB B T a) (nxB B T a) 0)), afF B T (nxB B T a), n + 1))
  else match wdF B T (nxB B T a) with
    | none => .error (1 + 8 * nxB B T a + 0)
    | some w => if n = 60 then .error (1 + 8 * nxB B T a + 3) else .ok (.inl (.inr w), afF B T (nxB B T a), n + 1)
theorem valF_ok (hTb : ∀ i, i < T → B i < 256) (ha : a ≤ T) (hn : n ≤ 60) (e1 : valF B T a n = .ok (i, e, n')) : a < e ∧ e ≤ T ∧ n' = n + 1 ∧ n' ≤ 60 ∧ iOk i ∧ iV i = 1 ∧ e = afF B T (nxB B T a) ∧ ∀ l, ty1 i l = some (false :: l) := by
  obtain ⟨n1, n2⟩ := nxB_le (B := B) ha
  have h8 := (afF_le (B := B) n2).2
  unfold valF at e1
  split at e1
  · rename_i hk
    split at e1
    · cases e1
    · rename_i hh
      split at e1
      · cases e1
      · rename_i h6
        have h7 := dg_lt hTb hk hh
        have h9 := afF_lt (B := B) (kd_258 hTb hk).1
        cases e1
        exact ⟨by omega, h8, rfl, by omega, h7, rfl, rfl, fun l => rfl⟩
  · split at e1
    · cases e1
    · rename_i w hw
      split at e1
      · cases e1
      · rename_i h6
        have h9 := afF_lt (B := B) (kd_257 hTb (wd_257 hw)).1
        cases e1
        exact ⟨by omega, h8, rfl, by omega, wd_lt hw, rfl, rfl, fun l => rfl⟩
theorem valF_nx (ha : a ≤ T) : valF B T (nxB B T a) n = valF B T a n := by unfold valF; rw [nxB_id ha]
def m6F (c : Nat) : Option Nat := if c = 42 then some 12 else if c = 47 then some 13 else if c = 37 then some 14 else none
def m5F (c : Nat) : Option Nat := if c = 43 then some 15 else if c = 45 then some 16 else none
def m4F (c : Nat) : Option Nat := if c = 60 then some 17 else if c = 259 then some 18 else if c = 61 then some 19 else if c = 260 then some 20 else if c = 62 then some 21 else none
theorem m6_c (e : m6F c = some v) : 12 ≤ v ∧ v ≤ 14 ∧ (c = 42 ∨ c = 47 ∨ c = 37) := by
  unfold m6F at e
  (repeat' split at e) <;> first | (cases e; omega) | cases e
theorem m5_c (e : m5F c = some v) : 15 ≤ v ∧ v ≤ 16 ∧ (c = 43 ∨ c = 45) := by
  unfold m5F at e
  (repeat' split at e) <;> first | (cases e; omega) | cases e
theorem m4_c (e : m4F c = some v) : 17 ≤ v ∧ v ≤ 21 ∧ (c = 60 ∨ c = 61 ∨ c = 62 ∨ c = 259 ∨ c = 260) := by
  unfold m4F at e
  (repeat' split at e) <;> first | (cases e; omega) | cases e
abbrev Rd : Type := Except Nat (Nat × Nat × List It)
def tmF (B : Nat → Nat) (T : Nat) : Nat → Nat → Nat → List It → Rd
  | 0, a, n, acc => .ok (a, n, acc)
  | k + 1, a, n, acc => match m6F (kdF B T (nxB B T a)) with
    | none => .ok (nxB B T a, n, acc)
    | some c => match valF B T (nxB B T a + 1) n with
      | .error f => .error f
      | .ok (i, e, n') => tmF B T k e n' (acc ++ [i] ++ [opIt c])
def termF (B : Nat → Nat) (T a n : Nat) (acc : List It) : Rd := match valF B T a n with
  | .error f => .error f
  | .ok (i, e, n') => tmF B T 401 e n' (acc ++ [i])
def smF (B : Nat → Nat) (T : Nat) : Nat → Nat → Nat → List It → Rd
  | 0, a, n, acc => .ok (a, n, acc)
  | k + 1, a, n, acc => match m5F (kdF B T (nxB B T a)) with
    | none => .ok (nxB B T a, n, acc)
    | some c => match termF B T (nxB B T a + 1) n acc with
      | .error f => .error f
      | .ok (e, n', acc') => smF B T k e n' (acc' ++ [opIt c])
def sumF (B : Nat → Nat) (T a n : Nat) (acc : List It) : Rd := match termF B T a n acc with
  | .error f => .error f
  | .ok (e, n', acc') => smF B T 401 e n' acc'
def comF (B : Nat → Nat) (T a n : Nat) (acc : List It) : Rd := match sumF B T a n acc with
  | .error f => .error f
  | .ok (e, n', acc') => match m4F (kdF B T e) with
    | none => .error (1 + 8 * e + 0)
    | some c => if n' = 60 then .error (1 + 8 * e + 3) else match sumF B T (afF B T e) (n' + 1) acc' with
      | .error f => .error f
      | .ok (e2, n2, acc2) => .ok (e2, n2, acc2 ++ [opIt c])
/-- what has grown -/
def GR (T a n : Nat) (acc : List It) (a' n' : Nat) (acc' : List It) : Prop := a ≤ a' ∧ a' ≤ T ∧ acc'.length + a ≤ acc.length + a' ∧ n' ≤ 60 ∧ iVs acc' + n ≤ iVs acc + n' ∧ n ≤ n' ∧ acc.length ≤ acc'.length
theorem iOks_app : ∀ {as bs : List It}, iOks (as ++ bs) ↔ iOks as ∧ iOks bs
  | [], bs => by simp [iOks]
  | a :: as, bs => by rw [List.cons_append, iOks, iOks, iOks_app, and_assoc]
theorem tyL_app : ∀ {as bs : List It} {l : List Bool}, tyL (as ++ bs) l = (tyL as l).bind (tyL bs)
  | [], bs, l => rfl
  | a :: as, bs, l => by
    rw [List.cons_append, tyL, tyL]
    cases ty1 a l with
    | none => rfl
    | some l' => exact tyL_app (as := as)
theorem tyL_snoc {l l' l2 : List Bool} (e1 : tyL acc l = some l') (e2 : ty1 i l' = some l2) : tyL (acc ++ [i]) l = some l2 := by
  rw [tyL_app, e1]
  show tyL [i] l' = _
  rw [tyL, e2]; rfl
theorem ty_op (h1' : 12 ≤ c) (h2' : c ≤ 16) {l : List Bool} : ty1 (opIt c) (false :: false :: l) = some (false :: l) := by
  unfold opIt
  rw [if_neg (by omega), if_pos (by omega)]
  show (if c - 12 < 5 then _ else _) = _
  rw [if_pos (by omega), if_pos ⟨rfl, rfl⟩]
theorem ty_cm (h1' : 17 ≤ c) (h2' : c ≤ 21) {l : List Bool} : ty1 (opIt c) (false :: false :: l) = some (true :: l) := by
  unfold opIt
  rw [if_neg (by omega), if_pos (by omega)]
  show (if c - 12 < 5 then _ else _) = _
  rw [if_neg (by omega), if_pos (by omega), if_pos ⟨rfl, rfl⟩]
theorem ty_ao (h1' : c = 23 ∨ c = 24) {l : List Bool} : ty1 (opIt c) (true :: true :: l) = some (true :: l) := by
  rcases h1' with rfl | rfl <;> rfl
theorem ty_no {l : List Bool} : ty1 (opIt 22) (true :: l) = some (true :: l) := rfl
def okS (acc acc' : List It) (b : Bool) : Prop := (iOks acc → iOks acc') ∧ ∀ l l', tyL acc l = some l' → tyL acc' l = some (b :: l')
theorem tmF_ok (hTb : ∀ i, i < T → B i < 256) : ∀ k a n acc a' n' acc', T < a + k → a ≤ T → n ≤ 60 → tmF B T k a n acc = .ok (a', n', acc') → GR T a n acc a' n' acc' ∧ nxB B T a' = a' ∧ m6F (kdF B T a') = none ∧ (iOks acc → iOks acc') ∧ ∀ l l', tyL acc l = some (false :: l') → tyL acc' l = some (false :: l') := by
  intro k
  induction k with
  | zero => intro a n acc a' n' acc' h1' h2'; omega
  | succ k ih =>
    intro a n acc a' n' acc' h1' h2' h3' e1
    obtain ⟨n1, n2⟩ := nxB_le (B := B) h2'
    have hid := nxB_id (B := B) h2'
    rw [tmF] at e1
    cases em : m6F (kdF B T (nxB B T a)) with
    | none =>
      rw [em] at e1
      cases e1
      exact ⟨⟨n1, n2, by omega, h3', by omega, Nat.le_refl _, Nat.le_refl _⟩, hid, em, id, fun l l' => id⟩
    | some c =>
      rw [em] at e1
      obtain ⟨c1, c2, c3⟩ := m6_c em
      have pT : nxB B T a < T := by
        refine Classical.byContradiction (fun q => ?_)
        rw [(kd_256 hTb).mpr (show T ≤ nxB B T a by omega)] at c3
        omega
      dsimp only at e1
      cases ev : valF B T (nxB B T a + 1) n with
      | error f => rw [ev] at e1; cases e1
      | ok ie =>
        obtain ⟨i, e, m⟩ := ie
        rw [ev] at e1
        obtain ⟨v1, v2, v3, v4, v5, v6, -, v7⟩ := valF_ok hTb (by omega) h3' ev
        obtain ⟨⟨g1, g2, g3, g4, g5, g6, g7⟩, i2, i3, i4, i5⟩ := ih e m _ a' n' acc' (by omega) v2 v4 e1
        obtain ⟨o1, o2⟩ := opIt_k c (by omega) (by omega)
        simp only [List.length_append, List.length_singleton, iVs_app, iVs, o2, v6] at g3 g5 g7
        refine ⟨⟨by omega, g2, by omega, g4, by omega, by omega, by omega⟩, i2, i3, fun z => i4 (iOks_app.mpr ⟨iOks_app.mpr ⟨z, v5, trivial⟩, opIt_ok c (by omega) (by omega), trivial⟩), fun l l' z => i5 l l' (tyL_snoc (tyL_snoc z (v7 _)) (ty_op c1 (by omega)))⟩
theorem termF_ok (hTb : ∀ i, i < T → B i < 256) (hT4 : T ≤ 400) (h2' : a ≤ T) (h3' : n ≤ 60) (e1 : termF B T a n acc = .ok (a', n', acc')) : GR T a n acc a' n' acc' ∧ acc'.length + a < acc'.length + a' ∧ nxB B T a' = a' ∧ m6F (kdF B T a') = none ∧ okS acc acc' false := by
  unfold termF at e1
  cases ev : valF B T a n with
  | error f => rw [ev] at e1; cases e1
  | ok ie =>
    obtain ⟨i, e, m⟩ := ie
    rw [ev] at e1
    obtain ⟨v1, v2, v3, v4, v5, v6, -, v7⟩ := valF_ok hTb h2' h3' ev
    obtain ⟨⟨g1, g2, g3, g4, g5, g6, g7⟩, i2, i3, i4, i5⟩ := tmF_ok hTb 401 e m _ a' n' acc' (by omega) v2 v4 e1
    simp only [List.length_append, List.length_singleton, iVs_app, iVs, v6] at g3 g5 g7
    exact ⟨⟨by omega, g2, by omega, g4, by omega, by omega, by omega⟩, by omega, i2, i3, fun z => i4 (iOks_app.mpr ⟨z, v5, trivial⟩), fun l l' z => i5 l l' (tyL_snoc z (v7 _))⟩
theorem smF_ok (hTb : ∀ i, i < T → B i < 256) (hT4 : T ≤ 400) : ∀ k a n acc a' n' acc', T < a + k → a ≤ T → n ≤ 60 → m6F (kdF B T (nxB B T a)) = none → smF B T k a n acc = .ok (a', n', acc') → GR T a n acc a' n' acc' ∧ nxB B T a' = a' ∧ m6F (kdF B T a') = none ∧ m5F (kdF B T a') = none ∧ (iOks acc → iOks acc') ∧ ∀ l l', tyL acc l = some (false :: l') → tyL acc' l = some (false :: l') := by
  intro k
  induction k with
  | zero => intro a n acc a' n' acc' h1' h2'; omega
  | succ k ih =>
    intro a n acc a' n' acc' h1' h2' h3' h6' e1
    obtain ⟨n1, n2⟩ := nxB_le (B := B) h2'
    have hid := nxB_id (B := B) h2'
    rw [smF] at e1
    cases em : m5F (kdF B T (nxB B T a)) with
    | none =>
      rw [em] at e1
      cases e1
      exact ⟨⟨n1, n2, by omega, h3', by omega, Nat.le_refl _, Nat.le_refl _⟩, hid, h6', em, id, fun l l' => id⟩
    | some c =>
      rw [em] at e1
      obtain ⟨c1, c2, c3⟩ := m5_c em
      have pT : nxB B T a < T := by
        refine Classical.byContradiction (fun q => ?_)
        rw [(kd_256 hTb).mpr (show T ≤ nxB B T a by omega)] at c3
        omega
      dsimp only at e1
      cases ev : termF B T (nxB B T a + 1) n acc with
      | error f => rw [ev] at e1; cases e1
      | ok ie =>
        obtain ⟨e, m, acc1⟩ := ie
        rw [ev] at e1
        obtain ⟨⟨u1, u2, u3, u4, u5, u6, u7⟩, u8, u9, u10, u11, u12⟩ := termF_ok hTb hT4 (by omega) h3' ev
        obtain ⟨⟨g1, g2, g3, g4, g5, g6, g7⟩, i2, i3, i3', i4, i5⟩ := ih e m _ a' n' acc' (by omega) u2 u4 (by rw [u9]; exact u10) e1
        obtain ⟨o1, o2⟩ := opIt_k c (by omega) (by omega)
        simp only [List.length_append, List.length_singleton, iVs_app, iVs, o2] at g3 g5 g7
        exact ⟨⟨by omega, g2, by omega, g4, by omega, by omega, by omega⟩, i2, i3, i3', fun z => i4 (iOks_app.mpr ⟨u11 z, opIt_ok c (by omega) (by omega), trivial⟩), fun l l' z => i5 l l' (tyL_snoc (u12 _ _ z) (ty_op (by omega) c2))⟩
theorem sumF_ok (hTb : ∀ i, i < T → B i < 256) (hT4 : T ≤ 400) (h2' : a ≤ T) (h3' : n ≤ 60) (e1 : sumF B T a n acc = .ok (a', n', acc')) : GR T a n acc a' n' acc' ∧ nxB B T a' = a' ∧ m6F (kdF B T a') = none ∧ m5F (kdF B T a') = none ∧ okS acc acc' false := by
  unfold sumF at e1
  cases ev : termF B T a n acc with
  | error f => rw [ev] at e1; cases e1
  | ok ie =>
    obtain ⟨e, m, acc1⟩ := ie
    rw [ev] at e1
    obtain ⟨⟨u1, u2, u3, u4, u5, u6, u7⟩, u8, u9, u10, u11, u12⟩ := termF_ok hTb hT4 h2' h3' ev
    obtain ⟨⟨g1, g2, g3, g4, g5, g6, g7⟩, i2, i3, i3', i4, i5⟩ := smF_ok hTb hT4 401 e m _ a' n' acc' (by omega) u2 u4 (by rw [u9]; exact u10) e1
    exact ⟨⟨by omega, g2, by omega, g4, by omega, by omega, by omega⟩, i2, i3, i3', fun z => i4 (u11 z), fun l l' z => i5 l l' (u12 _ _ z)⟩
theorem comF_ok (hTb : ∀ i, i < T → B i < 256) (hT4 : T ≤ 400) (h2' : a ≤ T) (h3' : n ≤ 60) (e1 : comF B T a n acc = .ok (a', n', acc')) : GR T a n acc a' n' acc' ∧ nxB B T a' = a' ∧ m6F (kdF B T a') = none ∧ m5F (kdF B T a') = none ∧ okS acc acc' true := by
  unfold comF at e1
  cases ev : sumF B T a n acc with
  | error f => rw [ev] at e1; cases e1
  | ok ie =>
    obtain ⟨e, m, acc1⟩ := ie
    rw [ev] at e1
    obtain ⟨⟨u1, u2, u3, u4, u5, u6, u7⟩, u8, u9, u10, u11, u12⟩ := sumF_ok hTb hT4 h2' h3' ev
    dsimp only at e1
    cases em : m4F (kdF B T e) with
    | none => rw [em] at e1; cases e1
    | some c =>
      rw [em] at e1
      obtain ⟨c1, c2, c3⟩ := m4_c em
      have pT : e < T := by
        refine Classical.byContradiction (fun q => ?_)
        rw [(kd_256 hTb).mpr (show T ≤ e by omega)] at c3
        omega
      have h9 := afF_lt (B := B) pT
      have h8 := (afF_le (B := B) u2).2
      dsimp only at e1
      by_cases q6 : m = 60
      · rw [if_pos q6] at e1; cases e1
      · rw [if_neg q6] at e1
        cases ew : sumF B T (afF B T e) (m + 1) acc1 with
        | error f => rw [ew] at e1; cases e1
        | ok ie =>
          obtain ⟨e2, m2, acc2⟩ := ie
          rw [ew] at e1
          obtain ⟨⟨g1, g2, g3, g4, g5, g6, g7⟩, i2, i3, i3', i4, i5⟩ := sumF_ok hTb hT4 h8 (by omega) ew
          obtain ⟨o1, o2⟩ := opIt_k c (by omega) (by omega)
          cases e1
          refine ⟨⟨by omega, g2, ?_, g4, ?_, by omega, ?_⟩, i2, i3, i3', fun z => iOks_app.mpr ⟨i4 (u11 z), opIt_ok c (by omega) (by omega), trivial⟩, fun l l' z => tyL_snoc (i5 _ _ (u12 _ _ z)) (ty_cm c1 c2)⟩
          · simp only [List.length_append, List.length_singleton]; omega
          · simp only [iVs_app, iVs, o2]; omega
          · simp only [List.length_append, List.length_singleton]; omega
end RP
