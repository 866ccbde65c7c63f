section RT
variable {L d : Nat} {xs : Nat → Int32} {h h1 : xH} {Q : xQ} {p o n w t k : Nat} {x y z fo xx : Int32} {T : Nat} {tp : Nat → Int32} {R : List (List Cl)} {σ σ' : Sn} {u u' : Nat} {H H' : Nat → Nat → Int32} {ι : Nat → Option Sn} {s s' f g : Nat → Int32}
variable {B : Nat → Nat} {a b c e m q v W n' a' : Nat} {acc acc' : List It} {i : It} {ops ops' : List Nat} {r : Except Nat (Nat × Nat × List It)}
def cn (ws : List Nat) : Nat := ws.count 22 + ws.count 25
def bn (ws : List Nat) : Nat := ws.count 23 + ws.count 24
def sR (b : Nat) : List Nat → List It → List Nat × List It
  | [], acc => ([], acc)
  | w :: ops, acc => if b ≤ bnd w then sR b ops (acc ++ [opIt w]) else (w :: ops, acc)
def facF (B : Nat → Nat) (T : Nat) : Nat → Nat → List Nat → Except Nat (Nat × List Nat)
  | 0, a, ops => .ok (a, ops)
  | k + 1, a, ops => if isW B T (nxB B T a) 7237492 = true then (if cn ops = 10 then .error (1 + 8 * nxB B T a + 2) else facF B T k (afF B T (nxB B T a)) (22 :: ops))
    else if kdF B T (nxB B T a) = 91 then (if cn ops = 10 then .error (1 + 8 * nxB B T a + 2) else facF B T k (nxB B T a + 1) (25 :: ops))
    else .ok (nxB B T a, ops)
abbrev Rt : Type := Except Nat (Nat × Nat × List Nat × List It)
def factF (B : Nat → Nat) (T a n : Nat) (ops : List Nat) (acc : List It) : Rt := match facF B T 401 a ops with
  | .error f => .error f
  | .ok (e, ops') => match comF B T e n acc with
    | .error f => .error f
    | .ok (e', n', acc') => .ok (e', n', ops', acc')
def cloF (B : Nat → Nat) (T : Nat) : Nat → Nat → List Nat → List It → Nat × List Nat × List It
  | 0, a, ops, acc => (a, ops, acc)
  | k + 1, a, ops, acc => if kdF B T (nxB B T a) = 93 ∧ 25 ∈ ops then cloF B T k (nxB B T a + 1) (sR 3 (sR 1 ops acc).1.tail (sR 1 ops acc).2).1 (sR 3 (sR 1 ops acc).1.tail (sR 1 ops acc).2).2
    else (nxB B T a, ops, acc)
def clsF (B : Nat → Nat) (T a : Nat) (ops : List Nat) (acc : List It) : Nat × List Nat × List It := cloF B T 401 a (sR 3 ops acc).1 (sR 3 ops acc).2
def tesF (B : Nat → Nat) (T : Nat) : Nat → Nat → Nat → List Nat → List It → Rd
  | 0, a, n, _, acc => .ok (a, n, acc)
  | k + 1, a, n, ops, acc => match factF B T a n ops acc with
    | .error f => .error f
    | .ok (e, n', ops', acc') => match clsF B T e ops' acc' with
      | (p, o2, a2) => if isW B T p 6385252 = true then tesF B T k (afF B T p) n' (23 :: (sR 2 o2 a2).1) (sR 2 o2 a2).2
        else if isW B T p 28530 = true then tesF B T k (afF B T p) n' (24 :: (sR 1 o2 a2).1) (sR 1 o2 a2).2
        else if 25 ∈ o2 then .error (1 + 8 * p + 0) else .ok (p, n', (sR 1 o2 a2).2)
def goF (B : Nat → Nat) (T a n : Nat) : Except Nat (Nat × Nat × Cl) := match sumF B T a n [] with
  | .error f => .error f
  | .ok (p, n', s) => if isW B T p 26982 = true then (match tesF B T 401 (afF B T p) n' [] [] with
      | .error f => .error f
      | .ok (p2, n2, u) => .ok (p2, n2, (s, some u)))
    else .ok (p, n', (s, none))
def ruF (B : Nat → Nat) (T : Nat) : Nat → Nat → Nat → Nat → List Cl → Except Nat (List Cl)
  | 0, _, _, _, cls => .ok cls
  | k + 1, c, a, n, cls => if isW B T (nxB B T a) 26479 = true then
      (if c = 12 then .error (1 + 8 * nxB B T a + 4) else match goF B T (afF B T (nxB B T a)) n with
        | .error f => .error f
        | .ok (p, n', cl) => if kdF B T (nxB B T p) = 59 then ruF B T k (c + 1) (nxB B T p + 1) n' (cls ++ [cl])
          else if kdF B T (nxB B T p) = 256 then .ok (cls ++ [cl]) else .error (1 + 8 * nxB B T p + 0))
    else .error (1 + 8 * nxB B T a + 0)
/-- what waits between facts -/
def opsK (ops : List Nat) : Prop := ∀ w ∈ ops, 22 ≤ w ∧ w ≤ 25
theorem bnd_0 : bnd 25 = 0 := rfl
theorem opsK.tl (hk : opsK (w :: ops)) : opsK ops := fun x hx => hk x (List.mem_cons_of_mem _ hx)
/-- settling: what it leaves, and what it tells -/
theorem sR_ok (hb : 1 ≤ b) : ∀ ops acc, opsK ops → opsK (sR b ops acc).1 ∧ (∀ m, 22 ≤ m → True) ∧ (25 ∈ (sR b ops acc).1 ↔ 25 ∈ ops) ∧ (sR b ops acc).1.length + (sR b ops acc).2.length = ops.length + acc.length ∧ acc.length ≤ (sR b ops acc).2.length ∧ cn (sR b ops acc).1 ≤ cn ops ∧ iVs (sR b ops acc).2 = iVs acc ∧ (iOks acc → iOks (sR b ops acc).2) ∧ (∀ l r, tyL acc l = some (List.replicate (bn ops + 1) true ++ r) → tyL (sR b ops acc).2 l = some (List.replicate (bn (sR b ops acc).1 + 1) true ++ r)) ∧ (25 ∉ ops → b = 1 → (sR b ops acc).1 = []) ∧ (25 ∈ ops → b = 1 → ∃ r, (sR b ops acc).1 = 25 :: r) := by
  intro ops
  induction ops with
  | nil => intro acc hk; exact ⟨hk, fun _ _ => trivial, Iff.rfl, rfl, Nat.le_refl _, Nat.le_refl _, rfl, id, fun l r => id, fun _ _ => rfl, fun z => (by cases z)⟩
  | cons w ops ih =>
    intro acc hk
    obtain ⟨w1, w2⟩ := hk w (List.mem_cons_self ..)
    rw [sR]
    by_cases q : b ≤ bnd w
    · rw [if_pos q]
      have w25 : w ≠ 25 := by rintro rfl; rw [bnd_0] at q; omega
      obtain ⟨j1, -, j2, j3, j4, j5, j6, j7, j8, j9, j10⟩ := ih (acc ++ [opIt w]) hk.tl
      obtain ⟨o1, o2⟩ := opIt_k w (by omega) (by omega)
      simp only [List.length_append, List.length_singleton] at j3 j4
      have mem : (25 ∈ w :: ops) ↔ 25 ∈ ops := ⟨fun z => (by cases z with | head => exact (w25 rfl).elim | tail _ y => exact y), fun z => List.mem_cons_of_mem _ z⟩
      refine ⟨j1, fun _ _ => trivial, j2.trans mem.symm, by rw [List.length_cons]; omega, by omega, ?_, by rw [j6, iVs_app, iVs, o2]; rfl, fun z => j7 (iOks_app.mpr ⟨z, opIt_ok w (by omega) (by omega), trivial⟩), fun l r z => j8 l r ?_, fun z y => j9 (fun x => z (mem.mpr x)) y, fun z y => j10 (mem.mp z) y⟩
      · refine Nat.le_trans j5 ?_
        unfold cn
        rw [List.count_cons, List.count_cons]; omega
      · have cs : w = 22 ∨ w = 23 ∨ w = 24 := by omega
        rcases cs with rfl | rfl | rfl
        · have eb : bn (22 :: ops) = bn ops := by unfold bn; rw [List.count_cons_of_ne (by decide), List.count_cons_of_ne (by decide)]
          rw [eb] at z
          refine tyL_snoc z ?_
          rw [List.replicate_succ, List.cons_append]; exact ty_no
        · have eb : bn (23 :: ops) = bn ops + 1 := by unfold bn; rw [List.count_cons_self, List.count_cons_of_ne (by decide)]; omega
          rw [eb] at z
          refine tyL_snoc z ?_
          rw [List.replicate_succ, List.replicate_succ, List.cons_append, List.cons_append]
          exact ty_ao (.inl rfl)
        · have eb : bn (24 :: ops) = bn ops + 1 := by unfold bn; rw [List.count_cons_self, List.count_cons_of_ne (by decide)]; omega
          rw [eb] at z
          refine tyL_snoc z ?_
          rw [List.replicate_succ, List.replicate_succ, List.cons_append, List.cons_append]
          exact ty_ao (.inr rfl)
    · rw [if_neg q]
      have b1 : b = 1 → w = 25 := by
        rintro rfl
        refine Classical.byContradiction (fun z => ?_)
        have cs : w = 22 ∨ w = 23 ∨ w = 24 := by omega
        rcases cs with rfl | rfl | rfl <;> exact q (by decide)
      exact ⟨hk, fun _ _ => trivial, Iff.rfl, rfl, Nat.le_refl _, Nat.le_refl _, rfl, id, fun l r => id, fun z y => (z (by rw [b1 y]; exact List.mem_cons_self ..)).elim, fun _ y => ⟨ops, by rw [b1 y]⟩⟩
theorem facF_ok (hTb : ∀ i, i < T → B i < 256) : ∀ k a ops a' ops', T < a + k → a ≤ T → opsK ops → cn ops ≤ 10 → facF B T k a ops = .ok (a', ops') → a ≤ a' ∧ a' ≤ T ∧ ops'.length + a ≤ ops.length + a' ∧ nxB B T a' = a' ∧ opsK ops' ∧ cn ops' ≤ 10 ∧ bn ops' = bn ops ∧ isW B T a' 7237492 = false ∧ kdF B T a' ≠ 91 := by
  intro k
  induction k with
  | zero => intro a ops a' ops' h1' h2'; omega
  | succ k ih =>
    intro a ops a' ops' h1' h2' hk hc e1
    obtain ⟨n1, n2⟩ := nxB_le (B := B) h2'
    have hid := nxB_id (B := B) h2'
    have h8 := (afF_le (B := B) n2).2
    rw [facF] at e1
    by_cases q1 : isW B T (nxB B T a) 7237492 = true
    · rw [if_pos q1] at e1
      have h9 := afF_lt (B := B) (kd_257 hTb (isW_257 q1)).1
      by_cases q2 : cn ops = 10
      · rw [if_pos q2] at e1; cases e1
      · rw [if_neg q2] at e1
        obtain ⟨j1, j2, j3, j4, j5, j6, j7, j8⟩ := ih (afF B T (nxB B T a)) (22 :: ops) a' ops' (by omega) h8 (fun x hx => (by cases hx with | head => omega | tail _ y => exact hk x y)) (by unfold cn at hc q2 ⊢; rw [List.count_cons_self, List.count_cons_of_ne (by decide)]; omega) e1
        rw [List.length_cons] at j3
        refine ⟨by omega, j2, by omega, j4, j5, j6, ?_, j8⟩
        rw [j7]; unfold bn; rw [List.count_cons_of_ne (by decide), List.count_cons_of_ne (by decide)]
    · rw [if_neg q1] at e1
      by_cases q3 : kdF B T (nxB B T a) = 91
      · rw [if_pos q3] at e1
        have pT := ((kd_c hTb (by decide) (by decide) (by decide) (by decide) (by decide)).mp q3).1
        by_cases q2 : cn ops = 10
        · rw [if_pos q2] at e1; cases e1
        · rw [if_neg q2] at e1
          obtain ⟨j1, j2, j3, j4, j5, j6, j7, j8⟩ := ih (nxB B T a + 1) (25 :: ops) a' ops' (by omega) (by omega) (fun x hx => (by cases hx with | head => omega | tail _ y => exact hk x y)) (by unfold cn at hc q2 ⊢; rw [List.count_cons_self, List.count_cons_of_ne (by decide)]; omega) e1
          rw [List.length_cons] at j3
          refine ⟨by omega, j2, by omega, j4, j5, j6, ?_, j8⟩
          rw [j7]; unfold bn; rw [List.count_cons_of_ne (by decide), List.count_cons_of_ne (by decide)]
      · rw [if_neg q3] at e1
        cases e1
        exact ⟨n1, n2, by omega, hid, hk, hc, rfl, by simpa using q1, q3⟩
theorem cloF_ok (hTb : ∀ i, i < T → B i < 256) : ∀ k a ops acc a' ops' acc', T < a + k → a ≤ T → opsK ops → cn ops ≤ 10 → cloF B T k a ops acc = (a', ops', acc') → a ≤ a' ∧ a' ≤ T ∧ ops'.length + acc'.length + a ≤ ops.length + acc.length + a' ∧ acc.length ≤ acc'.length ∧ nxB B T a' = a' ∧ opsK ops' ∧ cn ops' ≤ 10 ∧ iVs acc' = iVs acc ∧ (iOks acc → iOks acc') ∧ (∀ l r, tyL acc l = some (List.replicate (bn ops + 1) true ++ r) → tyL acc' l = some (List.replicate (bn ops' + 1) true ++ r)) ∧ ¬ (kdF B T a' = 93 ∧ 25 ∈ ops') := by
  intro k
  induction k with
  | zero => intro a ops acc a' ops' acc' h1' h2'; omega
  | succ k ih =>
    intro a ops acc a' ops' acc' h1' h2' hk hc e1
    obtain ⟨n1, n2⟩ := nxB_le (B := B) h2'
    have hid := nxB_id (B := B) h2'
    rw [cloF] at e1
    by_cases q1 : kdF B T (nxB B T a) = 93 ∧ 25 ∈ ops
    · rw [if_pos q1] at e1
      have pT := ((kd_c hTb (by decide) (by decide) (by decide) (by decide) (by decide)).mp q1.1).1
      obtain ⟨s1, -, s2, s3, s4, s5, s6, s7, s8, -, s10⟩ := sR_ok (b := 1) (by decide) ops acc hk
      obtain ⟨r, er⟩ := s10 q1.2 rfl
      rw [er] at s1 s3 s5 s8 e1
      rw [List.tail_cons] at e1
      obtain ⟨u1, -, u2, u3, u4, u5, u6, u7, u8, -, -⟩ := sR_ok (b := 3) (by decide) r (sR 1 ops acc).2 s1.tl
      have c5 : cn r ≤ cn (25 :: r) := by unfold cn; rw [List.count_cons, List.count_cons]; omega
      obtain ⟨j1, j2, j3, j4, j5, j6, j7, j8, j9, j10, j11⟩ := ih _ _ _ a' ops' acc' (by omega) (by omega) u1 (by omega) e1
      rw [List.length_cons] at s3
      have eb : bn (25 :: r) = bn r := by unfold bn; rw [List.count_cons_of_ne (by decide), List.count_cons_of_ne (by decide)]
      rw [eb] at s8
      exact ⟨by omega, j2, by omega, by omega, j5, j6, j7, by omega, fun z => j9 (u7 (s7 z)), fun l r z => j10 l r (u8 l r (s8 l r z)), j11⟩
    · rw [if_neg q1] at e1
      cases e1
      exact ⟨n1, n2, by omega, Nat.le_refl _, hid, hk, hc, rfl, id, fun l r => id, q1⟩
theorem clsF_ok (hTb : ∀ i, i < T → B i < 256) (hT4 : T ≤ 400) (h2' : a ≤ T) (hk : opsK ops) (hc : cn ops ≤ 10) (e1 : clsF B T a ops acc = (a', ops', acc')) : a ≤ a' ∧ a' ≤ T ∧ ops'.length + acc'.length + a ≤ ops.length + acc.length + a' ∧ acc.length ≤ acc'.length ∧ nxB B T a' = a' ∧ opsK ops' ∧ cn ops' ≤ 10 ∧ iVs acc' = iVs acc ∧ (iOks acc → iOks acc') ∧ (∀ l r, tyL acc l = some (List.replicate (bn ops + 1) true ++ r) → tyL acc' l = some (List.replicate (bn ops' + 1) true ++ r)) ∧ ¬ (kdF B T a' = 93 ∧ 25 ∈ ops') := by
  obtain ⟨u1, -, u2, u3, u4, u5, u6, u7, u8, -, -⟩ := sR_ok (b := 3) (by decide) ops acc hk
  obtain ⟨j1, j2, j3, j4, j5, j6, j7, j8, j9, j10, j11⟩ := cloF_ok hTb 401 a _ _ a' ops' acc' (by omega) h2' u1 (by omega) e1
  exact ⟨j1, j2, by omega, by omega, j5, j6, j7, by omega, fun z => j9 (u7 z), fun l r z => j10 l r (u8 l r z), j11⟩
theorem factF_ok (hTb : ∀ i, i < T → B i < 256) (hT4 : T ≤ 400) (h2' : a ≤ T) (h3' : n ≤ 60) (hk : opsK ops) (hc : cn ops ≤ 10) (e1 : factF B T a n ops acc = .ok (a', n', ops', acc')) : a ≤ a' ∧ a' ≤ T ∧ ops'.length + acc'.length + a ≤ ops.length + acc.length + a' ∧ acc.length ≤ acc'.length ∧ n' ≤ 60 ∧ iVs acc' + n ≤ iVs acc + n' ∧ n ≤ n' ∧ nxB B T a' = a' ∧ opsK ops' ∧ cn ops' ≤ 10 ∧ (iOks acc → iOks acc') ∧ (∀ l r, tyL acc l = some (List.replicate (bn ops) true ++ r) → tyL acc' l = some (List.replicate (bn ops' + 1) true ++ r)) ∧ m6F (kdF B T a') = none ∧ m5F (kdF B T a') = none := by
  unfold factF at e1
  cases ev : facF B T 401 a ops with
  | error f => rw [ev] at e1; cases e1
  | ok ie =>
    obtain ⟨e, o2⟩ := ie
    rw [ev] at e1
    obtain ⟨j1, j2, j3, j4, j5, j6, j7, -⟩ := facF_ok hTb 401 a ops e o2 (by omega) h2' hk hc ev
    dsimp only at e1
    cases ew : comF B T e n acc with
    | error f => rw [ew] at e1; cases e1
    | ok ie =>
      obtain ⟨e2, m2, a2⟩ := ie
      rw [ew] at e1
      cases e1
      obtain ⟨⟨u1, u2, u3, u4, u5, u6, u7⟩, u8, u9, u10, u11, u12⟩ := comF_ok hTb hT4 j2 h3' ew
      exact ⟨by omega, u2, by omega, u7, u4, u5, u6, u8, j5, j6, u11, fun l r z => by rw [j7, List.replicate_succ, List.cons_append]; exact u12 _ _ z, u9, u10⟩
theorem tesF_ok (hTb : ∀ i, i < T → B i < 256) (hT4 : T ≤ 400) : ∀ k a n ops acc a' n' acc', T < a + k → a ≤ T → n ≤ 60 → opsK ops → cn ops ≤ 10 → tesF B T k a n ops acc = .ok (a', n', acc') → a ≤ a' ∧ a' ≤ T ∧ acc'.length + a ≤ ops.length + acc.length + a' ∧ n' ≤ 60 ∧ iVs acc' + n ≤ iVs acc + n' ∧ n ≤ n' ∧ nxB B T a' = a' ∧ (iOks acc → iOks acc') ∧ (∀ l r, tyL acc l = some (List.replicate (bn ops) true ++ r) → tyL acc' l = some (true :: r)) := by
  intro k
  induction k with
  | zero => intro a n ops acc a' n' acc' h1' h2'; omega
  | succ k ih =>
    intro a n ops acc a' n' acc' h1' h2' h3' hk hc e1
    rw [tesF] at e1
    cases ev : factF B T a n ops acc with
    | error f => rw [ev] at e1; cases e1
    | ok ie =>
      obtain ⟨e, m, o1, a1⟩ := ie
      rw [ev] at e1
      obtain ⟨f1, f2, f3, f4, f5, f6, f7, f8, f9, f10, f11, f12, -⟩ := factF_ok hTb hT4 h2' h3' hk hc ev
      dsimp only at e1
      cases ec : clsF B T e o1 a1 with
      | mk p oa =>
        obtain ⟨o2, a2⟩ := oa
        rw [ec] at e1
        obtain ⟨g1, g2, g3, g4, g5, g6, g7, g8, g9, g10, -⟩ := clsF_ok hTb hT4 f2 f9 f10 ec
        dsimp only at e1
        have h8 := (afF_le (B := B) g2).2
        by_cases q1 : isW B T p 6385252 = true
        · rw [if_pos q1] at e1
          have h9 := afF_lt (B := B) (kd_257 hTb (isW_257 q1)).1
          obtain ⟨s1, -, s2, s3, s4, s5, s6, s7, s8, -, -⟩ := sR_ok (b := 2) (by decide) o2 a2 g6
          have c5 : cn (23 :: (sR 2 o2 a2).1) = cn (sR 2 o2 a2).1 := by unfold cn; rw [List.count_cons_of_ne (by decide), List.count_cons_of_ne (by decide)]
          have b5 : bn (23 :: (sR 2 o2 a2).1) = bn (sR 2 o2 a2).1 + 1 := by unfold bn; rw [List.count_cons_self, List.count_cons_of_ne (by decide)]; omega
          obtain ⟨j1, j2, j3, j4, j5, j6, j7, j8, j9⟩ := ih _ _ _ _ a' n' acc' (by omega) h8 f5 (fun x hx => (by cases hx with | head => omega | tail _ y => exact s1 x y)) (by omega) e1
          rw [List.length_cons] at j3
          exact ⟨by omega, j2, by omega, j4, by omega, by omega, j7, fun z => j8 (s7 (g9 (f11 z))), fun l r z => j9 l r (by rw [b5]; exact s8 l r (g10 l r (f12 l r z)))⟩
        · rw [if_neg q1] at e1
          by_cases q2 : isW B T p 28530 = true
          · rw [if_pos q2] at e1
            have h9 := afF_lt (B := B) (kd_257 hTb (isW_257 q2)).1
            obtain ⟨s1, -, s2, s3, s4, s5, s6, s7, s8, -, -⟩ := sR_ok (b := 1) (by decide) o2 a2 g6
            have c5 : cn (24 :: (sR 1 o2 a2).1) = cn (sR 1 o2 a2).1 := by unfold cn; rw [List.count_cons_of_ne (by decide), List.count_cons_of_ne (by decide)]
            have b5 : bn (24 :: (sR 1 o2 a2).1) = bn (sR 1 o2 a2).1 + 1 := by unfold bn; rw [List.count_cons_self, List.count_cons_of_ne (by decide)]; omega
            obtain ⟨j1, j2, j3, j4, j5, j6, j7, j8, j9⟩ := ih _ _ _ _ a' n' acc' (by omega) h8 f5 (fun x hx => (by cases hx with | head => omega | tail _ y => exact s1 x y)) (by omega) e1
            rw [List.length_cons] at j3
            exact ⟨by omega, j2, by omega, j4, by omega, by omega, j7, fun z => j8 (s7 (g9 (f11 z))), fun l r z => j9 l r (by rw [b5]; exact s8 l r (g10 l r (f12 l r z)))⟩
          · rw [if_neg q2] at e1
            by_cases q3 : 25 ∈ o2
            · rw [if_pos q3] at e1; cases e1
            · rw [if_neg q3] at e1
              cases e1
              obtain ⟨s1, -, s2, s3, s4, s5, s6, s7, s8, s9, -⟩ := sR_ok (b := 1) (by decide) o2 a2 g6
              have e0 := s9 q3 rfl
              rw [e0] at s3 s8
              rw [List.length_nil] at s3
              exact ⟨by omega, g2, by omega, f5, by omega, f7, g5, fun z => s7 (g9 (f11 z)), fun l r z => s8 l r (g10 l r (f12 l r z))⟩
theorem goF_ok (hTb : ∀ i, i < T → B i < 256) (hT4 : T ≤ 400) {cl : Cl} (h2' : a ≤ T) (h3' : n ≤ 60) (e1 : goF B T a n = .ok (a', n', cl)) : a ≤ a' ∧ a' ≤ T ∧ clLen cl + a ≤ 1 + a' ∧ n' ≤ 60 ∧ n ≤ n' ∧ nxB B T a' = a' ∧ clOK cl := by
  unfold goF at e1
  cases ev : sumF B T a n [] with
  | error f => rw [ev] at e1; cases e1
  | ok ie =>
    obtain ⟨e, m, s⟩ := ie
    rw [ev] at e1
    obtain ⟨⟨u1, u2, u3, u4, u5, u6, u7⟩, u8, u9, u10, u11, u12⟩ := sumF_ok hTb hT4 h2' h3' ev
    have i1 := u11 trivial
    have i2 := u12 [] [] rfl
    simp only [List.length_nil, iVs] at u3 u5
    dsimp only at e1
    have h8 := (afF_le (B := B) u2).2
    by_cases q1 : isW B T e 26982 = true
    · rw [if_pos q1] at e1
      have h9 := afF_lt (B := B) (kd_257 hTb (isW_257 q1)).1
      cases ew : tesF B T 401 (afF B T e) m [] [] with
      | error f => rw [ew] at e1; cases e1
      | ok ie =>
        obtain ⟨e2, m2, v⟩ := ie
        rw [ew] at e1
        obtain ⟨j1, j2, j3, j4, j5, j6, j7, j8, j9⟩ := tesF_ok hTb hT4 401 _ _ _ _ e2 m2 v (by omega) h8 u4 (fun x hx => (by cases hx)) (by decide) ew
        cases e1
        simp only [List.length_nil, iVs] at j3 j5
        exact ⟨by omega, j2, by show s.length + v.length + 1 + a ≤ _; omega, j4, by omega, j7, i1, i2, j8 trivial, j9 [] [] rfl, by show iVs s + iVs v ≤ 60; omega⟩
    · rw [if_neg q1] at e1
      cases e1
      exact ⟨by omega, u2, by show s.length + 1 + a ≤ _; omega, u4, by omega, u8, i1, i2, by show iVs s ≤ 60; omega⟩
end RT
