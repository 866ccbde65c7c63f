section AU
variable {L d : Nat} {xs : Nat → Int32} {h h1 : xH} {Q : xQ} {p o n w t k : Nat} {x y z fo xx : Int32} {T : Nat} {tp : Nat → Int32} {R : List (List Cl)} {σ σ' : Sn} {u u' : Nat} {H H' : Nat → Nat → Int32} {ι : Nat → Option Sn} {s s' f g : Nat → Int32}
variable {B : Nat → Nat} {a b c e m q v W n' a' j sm cl b' : Nat} {acc acc' : List It} {i : It} {ops ops' ws os ws1 os1 : List Nat}
/-! a rule, read as the class reads it: token by token -/
def sP (b : Nat) : List Nat → List Nat → List Nat × List Nat
  | [], os => ([], os)
  | w :: ws, os => if b ≤ bnd w then sP b ws (os ++ [w]) else (w :: ws, os)
def rcF (c : Nat) : Option Nat := if c = 43 then some 15 else if c = 45 then some 16 else if c = 42 then some 12 else if c = 47 then some 13 else if c = 37 then some 14 else none
abbrev AS : Type := List Nat × List Nat × Nat × Nat × Nat × Nat
def endF (B : Nat → Nat) (T p s : Nat) (os ws : List Nat) (sm cl n : Nat) : Except Nat AS := .ok ((sP 1 ws os).2 ++ [s], (sP 1 ws os).1, (if kdF B T p = 256 then 5 else 0), sm, cl, n)
def behF (B : Nat → Nat) (T p : Nat) (os ws : List Nat) (sm cl n : Nat) : Except Nat AS :=
  if isW B T p 6385252 = true then .ok ((sP 2 ws os).2, 23 :: (sP 2 ws os).1, 2, sm, cl, n)
  else if isW B T p 28530 = true then .ok ((sP 1 ws os).2, 24 :: (sP 1 ws os).1, 2, sm, cl, n)
  else if kdF B T p = 93 ∧ 25 ∈ ws then .ok ((sP 1 ws os).2, (sP 1 ws os).1.tail, 4, sm, cl, n)
  else if (kdF B T p = 256 ∨ kdF B T p = 59) ∧ ¬ 25 ∈ ws then endF B T p 27 os ws sm cl n
  else .error (1 + 8 * p + 0)
def valuF (B : Nat → Nat) (T p : Nat) (os ws : List Nat) (sm cl n : Nat) : Except Nat AS := match valF B T p n with
  | .error f => .error f
  | .ok (i, _, n') => .ok (os ++ [iC i], ws, 3, sm, cl, n')
def opnF (p s : Nat) (os ws : List Nat) (sm cl n : Nat) : Except Nat AS := if 10 ≤ cn ws then .error (1 + 8 * p + 2) else .ok (os, s :: ws, 2, sm, cl, n)
def bvF (B : Nat → Nat) (T p : Nat) (os ws : List Nat) (sm cl n : Nat) : Except Nat AS := match rcF (kdF B T p) with
  | some c => .ok ((sP (bnd c) ws os).2, c :: (sP (bnd c) ws os).1, 1, sm, cl, n)
  | none => if sm = 1 then (match m4F (kdF B T p) with
      | some c => if 60 ≤ n then .error (1 + 8 * p + 3) else .ok ((sP (bnd c) ws os).2, c :: (sP (bnd c) ws os).1, 1, 2, cl, n + 1)
      | none => .error (1 + 8 * p + 0))
    else if sm = 2 then behF B T p os ws sm cl n
    else if isW B T p 26982 = true then .ok ((sP 1 ws os).2, (sP 1 ws os).1, 2, sm, cl, n)
    else if kdF B T p = 256 ∨ kdF B T p = 59 then endF B T p 26 os ws sm cl n
    else .error (1 + 8 * p + 0)
def stpF (B : Nat → Nat) (T p : Nat) (os ws : List Nat) (st sm cl n : Nat) : Except Nat AS :=
  if st = 0 then (if isW B T p 26479 = true then (if 12 ≤ cl then .error (1 + 8 * p + 4) else .ok (os, ws, 1, 0, cl + 1, n)) else .error (1 + 8 * p + 0))
  else if st = 1 then valuF B T p os ws sm cl n
  else if st = 2 then (if kdF B T p = 91 then opnF p 25 os ws sm cl n else if isW B T p 7237492 = true then opnF p 22 os ws sm cl n else valuF B T p os ws 1 cl n)
  else if st = 3 then bvF B T p os ws sm cl n
  else behF B T p os ws sm cl n
def runF (B : Nat → Nat) (T : Nat) : Nat → Nat → AS → Except Nat (List Nat)
  | 0, _, (os, _) => .ok os
  | k + 1, a, (os, ws, st, sm, cl, n) => if st = 5 then .ok os else match stpF B T (nxB B T a) os ws st sm cl n with
    | .error f => .error f
    | .ok S => runF B T k (afF B T (nxB B T a)) S
/-! settling -/
def Lo (b : Nat) : List Nat → Prop
  | [] => True
  | w :: _ => bnd w < b
theorem sP_lo (hl : Lo b ws) : sP b ws os = (ws, os) := by
  cases ws with
  | nil => rfl
  | cons w ws => rw [sP, if_neg (by have : bnd w < b := hl; omega)]
theorem sP_push (hc : b ≤ bnd c) (hl : Lo b ws) : sP b (c :: ws) os = (ws, os ++ [c]) := by rw [sP, if_pos hc, sP_lo hl]
theorem sP_sP (hb : b ≤ b') : ∀ ws os, sP b ws os = sP b (sP b' ws os).1 (sP b' ws os).2 := by
  intro ws
  induction ws with
  | nil => intro os; rfl
  | cons w ws ih =>
    intro os
    by_cases q : b' ≤ bnd w
    · have e1 : sP b' (w :: ws) os = sP b' ws (os ++ [w]) := by rw [sP, if_pos q]
      rw [e1, sP, if_pos (show b ≤ bnd w by omega)]
      exact ih _
    · have e1 : sP b' (w :: ws) os = (w :: ws, os) := by rw [sP, if_neg q]
      rw [e1]
theorem sP_of (hb : b ≤ b') (e : sP b' ws1 os1 = (ws, os)) : sP b ws1 os1 = sP b ws os := by rw [sP_sP hb, e]
theorem Lo.mono (hb : b ≤ b') (hl : Lo b ws) : Lo b' ws := by
  cases ws with
  | nil => trivial
  | cons w ws => have : bnd w < b := hl; show bnd w < b'; omega
theorem sP_25 (hb : 1 ≤ b) : ∀ ws os, 25 ∈ (sP b ws os).1 ↔ 25 ∈ ws := by
  intro ws
  induction ws with
  | nil => intro os; exact Iff.rfl
  | cons w ws ih =>
    intro os
    rw [sP]
    by_cases q : b ≤ bnd w
    · rw [if_pos q, ih]
      have w25 : w ≠ 25 := by rintro rfl; rw [bnd_0] at q; omega
      exact ⟨fun z => List.mem_cons_of_mem _ z, fun z => (by cases z with | head => exact (w25 rfl).elim | tail _ y => exact y)⟩
    · rw [if_neg q]
theorem sP_sR (hb : 1 ≤ b) : ∀ ops acc, opsK ops → sP b ops (os ++ acc.map iC) = ((sR b ops acc).1, os ++ (sR b ops acc).2.map iC) := by
  intro ops
  induction ops with
  | nil => intro acc _; rfl
  | cons w ops ih =>
    intro acc hk
    rw [sP, sR]
    by_cases q : b ≤ bnd w
    · have w25 : w ≠ 25 := by rintro rfl; rw [bnd_0] at q; omega
      obtain ⟨w1, w2⟩ := hk w (List.mem_cons_self ..)
      rw [if_pos q, if_pos q, ← ih _ hk.tl, List.map_append, List.map_cons, List.map_nil, (opIt_k w (by omega) (by omega)).1, List.append_assoc]
    · rw [if_neg q, if_neg q]
/-! the run -/
theorem run_fin : runF B T k a (os, ws, 5, sm, cl, n) = .ok os := by
  cases k with
  | zero => rfl
  | succ k => rw [runF, if_pos rfl]
theorem run_nx (ha : a ≤ T) {S : AS} : runF B T k (nxB B T a) S = runF B T k a S := by
  obtain ⟨os, ws, st, sm, cl, n⟩ := S
  cases k with
  | zero => rfl
  | succ k => rw [runF, runF, nxB_id ha]
theorem run_st {st : Nat} (hk : T < a + k) (ha : a ≤ T) (h5 : st ≠ 5) : runF B T k a (os, ws, st, sm, cl, n) = match stpF B T (nxB B T a) os ws st sm cl n with
    | .error f => .error f
    | .ok S => runF B T (k - 1) (afF B T (nxB B T a)) S := by
  obtain ⟨k', rfl⟩ : ∃ k', k = k' + 1 := ⟨k - 1, by omega⟩
  rw [runF, if_neg h5]; rfl
theorem run_val (hTb : ∀ i, i < T → B i < 256) (hk : T < a + k) (ha : a ≤ T) (hn : n ≤ 60) : (∀ f, valF B T a n = .error f → runF B T k a (os, ws, 1, sm, cl, n) = .error f) ∧ ∀ i e n', valF B T a n = .ok (i, e, n') → ∃ k2, T < e + k2 ∧ runF B T k a (os, ws, 1, sm, cl, n) = runF B T k2 e (os ++ [iC i], ws, 3, sm, cl, n') := by
  have s := run_st (B := B) (os := os) (ws := ws) (st := 1) (sm := sm) (cl := cl) (n := n) hk ha (by decide)
  have e1 : stpF B T (nxB B T a) os ws 1 sm cl n = valuF B T (nxB B T a) os ws sm cl n := rfl
  rw [e1] at s
  unfold valuF at s
  rw [valF_nx ha] at s
  refine ⟨fun f ef => by rw [ef] at s; exact s, fun i e n' ef => ?_⟩
  obtain ⟨v1, v2, v3, v4, v5, v6, v7, -⟩ := valF_ok hTb ha hn ef
  rw [ef] at s
  dsimp only at s
  rw [← v7] at s
  exact ⟨k - 1, by omega, s⟩
theorem rc_6 (e : m6F k = some c) : rcF k = some c ∧ bnd c = 6 := by
  rcases m6_e e with ⟨rfl, rfl⟩ | ⟨rfl, rfl⟩ | ⟨rfl, rfl⟩ <;> exact ⟨rfl, rfl⟩
theorem rc_5 (e : m5F k = some c) : rcF k = some c ∧ bnd c = 5 := by
  rcases m5_e e with ⟨rfl, rfl⟩ | ⟨rfl, rfl⟩ <;> exact ⟨rfl, rfl⟩
theorem rc_n (e6 : m6F k = none) (e5 : m5F k = none) : rcF k = none := by
  obtain ⟨a1, a2, a3⟩ := m6_n e6
  obtain ⟨a4, a5⟩ := m5_n e5
  unfold rcF
  rw [if_neg a4, if_neg a5, if_neg a1, if_neg a2, if_neg a3]
theorem m4_b (e : m4F k = some c) : bnd c = 4 := by
  rcases m4_e e with ⟨rfl, rfl⟩ | ⟨rfl, rfl⟩ | ⟨rfl, rfl⟩ | ⟨rfl, rfl⟩ | ⟨rfl, rfl⟩ <;> rfl
/-- a sign between values -/
theorem run_rc (hk : T < a + k) (ha : a ≤ T) (er : rcF (kdF B T (nxB B T a)) = some c) : runF B T k a (os, ws, 3, sm, cl, n) = runF B T (k - 1) (afF B T (nxB B T a)) ((sP (bnd c) ws os).2, c :: (sP (bnd c) ws os).1, 1, sm, cl, n) := by
  rw [run_st hk ha (by decide)]
  have e1 : stpF B T (nxB B T a) os ws 3 sm cl n = bvF B T (nxB B T a) os ws sm cl n := rfl
  rw [e1]
  unfold bvF
  rw [er]
theorem E_tm (hTb : ∀ i, i < T → B i < 256) (hl : Lo 6 ws) : ∀ k' a n acc k ws1 os1, T < a + k' → T < a + k → a ≤ T → n ≤ 60 → sP 6 ws1 os1 = (ws, os ++ acc.map iC) → (∀ f, tmF B T k' a n acc = .error f → runF B T k a (os1, ws1, 3, sm, cl, n) = .error f) ∧ ∀ p n' acc', tmF B T k' a n acc = .ok (p, n', acc') → ∃ k2 ws2 os2, T < p + k2 ∧ sP 6 ws2 os2 = (ws, os ++ acc'.map iC) ∧ runF B T k a (os1, ws1, 3, sm, cl, n) = runF B T k2 p (os2, ws2, 3, sm, cl, n') := by
  intro k'
  induction k' with
  | zero => intro a n acc k ws1 os1 h1'; omega
  | succ k' ih =>
    intro a n acc k ws1 os1 h1' h2' ha hn hs
    obtain ⟨n1, n2⟩ := nxB_le (B := B) ha
    rw [tmF]
    cases em : m6F (kdF B T (nxB B T a)) with
    | none =>
      refine ⟨fun f ef => (by cases ef), fun p n' acc' ef => ?_⟩
      cases ef
      exact ⟨k, ws1, os1, by omega, hs, (run_nx ha).symm⟩
    | some c =>
      obtain ⟨c1, c2, c3⟩ := m6_c em
      obtain ⟨er, eb⟩ := rc_6 em
      have q := run_rc (os := os1) (ws := ws1) (sm := sm) (cl := cl) (n := n) h2' ha er
      rw [eb, hs] at q
      have pT : nxB B T a < T := by
        refine Classical.byContradiction (fun q => ?_)
        rw [(kd_256 hTb).mpr (show T ≤ nxB B T a by omega)] at c3
        omega
      have ea : afF B T (nxB B T a) = nxB B T a + 1 := by
        rcases c3 with z | z | z
        · exact af_c hTb (by decide) (by decide) (by decide) (by decide) (by decide) z
        · exact af_c hTb (by decide) (by decide) (by decide) (by decide) (by decide) z
        · exact af_c hTb (by decide) (by decide) (by decide) (by decide) (by decide) z
      rw [ea] at q
      obtain ⟨r1, r2⟩ := run_val (B := B) (T := T) (a := nxB B T a + 1) (k := k - 1) (n := n) (os := os ++ acc.map iC) (ws := c :: ws) (sm := sm) (cl := cl) hTb (by omega) (by omega) hn
      dsimp only at q ⊢
      rw [q]
      cases ev : valF B T (nxB B T a + 1) n with
      | error f =>
        refine ⟨fun f' ef => ?_, fun p n' acc' ef => (by cases ef)⟩
        cases ef
        exact r1 f ev
      | ok ie =>
        obtain ⟨i, e, m⟩ := ie
        obtain ⟨k2, t2, q2⟩ := r2 i e m ev
        obtain ⟨v1, v2, v3, v4, v5, v6, -, v7⟩ := valF_ok hTb (by omega) hn ev
        rw [q2]
        exact ih e m (acc ++ [i] ++ [opIt c]) k2 (c :: ws) (os ++ acc.map iC ++ [iC i]) (by omega) t2 v2 v4 (by
          rw [sP_push (by omega) hl]
          simp only [List.map_append, List.map_cons, List.map_nil, (opIt_k c (by omega) (by omega)).1, List.append_assoc])
theorem E_term (hTb : ∀ i, i < T → B i < 256) (hT4 : T ≤ 400) (hl : Lo 6 ws) (hk : T < a + k) (ha : a ≤ T) (hn : n ≤ 60) : (∀ f, termF B T a n acc = .error f → runF B T k a (os ++ acc.map iC, ws, 1, sm, cl, n) = .error f) ∧ ∀ p n' acc', termF B T a n acc = .ok (p, n', acc') → ∃ k2 ws2 os2, T < p + k2 ∧ sP 6 ws2 os2 = (ws, os ++ acc'.map iC) ∧ runF B T k a (os ++ acc.map iC, ws, 1, sm, cl, n) = runF B T k2 p (os2, ws2, 3, sm, cl, n') := by
  obtain ⟨r1, r2⟩ := run_val (B := B) (T := T) (os := os ++ acc.map iC) (ws := ws) (sm := sm) (cl := cl) hTb hk ha hn
  unfold termF
  cases ev : valF B T a n with
  | error f =>
    refine ⟨fun f' ef => ?_, fun p n' acc' ef => (by cases ef)⟩
    cases ef
    exact r1 f ev
  | ok ie =>
    obtain ⟨i, e, m⟩ := ie
    obtain ⟨k2, t2, q2⟩ := r2 i e m ev
    obtain ⟨v1, v2, v3, v4, -⟩ := valF_ok hTb ha hn ev
    rw [q2]
    exact E_tm hTb hl 401 e m (acc ++ [i]) k2 ws (os ++ acc.map iC ++ [iC i]) (by omega) t2 v2 v4 (by
      rw [sP_lo hl]
      simp only [List.map_append, List.map_cons, List.map_nil, List.append_assoc])
theorem E_sm (hTb : ∀ i, i < T → B i < 256) (hT4 : T ≤ 400) (hl : Lo 5 ws) : ∀ k' a n acc k ws1 os1, T < a + k' → T < a + k → a ≤ T → n ≤ 60 → sP 5 ws1 os1 = (ws, os ++ acc.map iC) → (∀ f, smF B T k' a n acc = .error f → runF B T k a (os1, ws1, 3, sm, cl, n) = .error f) ∧ ∀ p n' acc', smF B T k' a n acc = .ok (p, n', acc') → ∃ k2 ws2 os2, T < p + k2 ∧ sP 5 ws2 os2 = (ws, os ++ acc'.map iC) ∧ runF B T k a (os1, ws1, 3, sm, cl, n) = runF B T k2 p (os2, ws2, 3, sm, cl, n') := by
  intro k'
  induction k' with
  | zero => intro a n acc k ws1 os1 h1'; omega
  | succ k' ih =>
    intro a n acc k ws1 os1 h1' h2' ha hn hs
    obtain ⟨n1, n2⟩ := nxB_le (B := B) ha
    rw [smF]
    cases em : m5F (kdF B T (nxB B T a)) with
    | none =>
      refine ⟨fun f ef => (by cases ef), fun p n' acc' ef => ?_⟩
      cases ef
      exact ⟨k, ws1, os1, by omega, hs, (run_nx ha).symm⟩
    | some c =>
      obtain ⟨c1, c2, c3⟩ := m5_c em
      obtain ⟨er, eb⟩ := rc_5 em
      have q := run_rc (os := os1) (ws := ws1) (sm := sm) (cl := cl) (n := n) h2' ha er
      rw [eb, hs] at q
      have pT : nxB B T a < T := by
        refine Classical.byContradiction (fun q => ?_)
        rw [(kd_256 hTb).mpr (show T ≤ nxB B T a by omega)] at c3
        omega
      have ea : afF B T (nxB B T a) = nxB B T a + 1 := by
        rcases c3 with z | z
        · exact af_c hTb (by decide) (by decide) (by decide) (by decide) (by decide) z
        · exact af_c hTb (by decide) (by decide) (by decide) (by decide) (by decide) z
      rw [ea] at q
      obtain ⟨r1, r2⟩ := E_term (B := B) (T := T) (a := nxB B T a + 1) (k := k - 1) (n := n) (os := os) (acc := acc) (ws := c :: ws) (sm := sm) (cl := cl) hTb hT4 (show bnd c < 6 by omega) (by omega) (by omega) hn
      dsimp only at q ⊢
      rw [q]
      cases ev : termF B T (nxB B T a + 1) n acc with
      | error f =>
        refine ⟨fun f' ef => ?_, fun p n' acc' ef => (by cases ef)⟩
        cases ef
        exact r1 f ev
      | ok ie =>
        obtain ⟨e, m, acc1⟩ := ie
        obtain ⟨k2, ws2, os2, t2, s2, q2⟩ := r2 e m acc1 ev
        obtain ⟨⟨u1, u2, u3, u4, u5, u6, u7⟩, u8, -⟩ := termF_ok hTb hT4 (by omega) hn ev
        rw [q2]
        exact ih e m (acc1 ++ [opIt c]) k2 ws2 os2 (by omega) t2 u2 u4 (by
          rw [sP_of (show 5 ≤ 6 by decide) s2, sP_push (by omega) hl]
          simp only [List.map_append, List.map_cons, List.map_nil, (opIt_k c (by omega) (by omega)).1, List.append_assoc])
theorem E_sum (hTb : ∀ i, i < T → B i < 256) (hT4 : T ≤ 400) (hl : Lo 5 ws) (hk : T < a + k) (ha : a ≤ T) (hn : n ≤ 60) : (∀ f, sumF B T a n acc = .error f → runF B T k a (os ++ acc.map iC, ws, 1, sm, cl, n) = .error f) ∧ ∀ p n' acc', sumF B T a n acc = .ok (p, n', acc') → ∃ k2 ws2 os2, T < p + k2 ∧ sP 5 ws2 os2 = (ws, os ++ acc'.map iC) ∧ runF B T k a (os ++ acc.map iC, ws, 1, sm, cl, n) = runF B T k2 p (os2, ws2, 3, sm, cl, n') := by
  obtain ⟨r1, r2⟩ := E_term (B := B) (T := T) (os := os) (acc := acc) (ws := ws) (sm := sm) (cl := cl) hTb hT4 (hl.mono (by decide)) hk ha hn
  unfold sumF
  cases ev : termF B T a n acc with
  | error f =>
    refine ⟨fun f' ef => ?_, fun p n' acc' ef => (by cases ef)⟩
    cases ef
    exact r1 f ev
  | ok ie =>
    obtain ⟨e, m, acc1⟩ := ie
    obtain ⟨k2, ws2, os2, t2, s2, q2⟩ := r2 e m acc1 ev
    obtain ⟨⟨u1, u2, u3, u4, u5, u6, u7⟩, u8, -⟩ := termF_ok hTb hT4 ha hn ev
    rw [q2]
    exact E_sm hTb hT4 hl 401 e m acc1 k2 ws2 os2 (by omega) t2 u2 u4 (by rw [sP_of (show 5 ≤ 6 by decide) s2, sP_lo hl])
theorem E_com (hTb : ∀ i, i < T → B i < 256) (hT4 : T ≤ 400) (hl : Lo 4 ws) (hk : T < a + k) (ha : a ≤ T) (hn : n ≤ 60) : (∀ f, comF B T a n acc = .error f → runF B T k a (os ++ acc.map iC, ws, 1, 1, cl, n) = .error f) ∧ ∀ p n' acc', comF B T a n acc = .ok (p, n', acc') → ∃ k2 ws2 os2, T < p + k2 ∧ sP 4 ws2 os2 = (ws, os ++ acc'.map iC) ∧ runF B T k a (os ++ acc.map iC, ws, 1, 1, cl, n) = runF B T k2 p (os2, ws2, 3, 2, cl, n') := by
  obtain ⟨r1, r2⟩ := E_sum (B := B) (T := T) (os := os) (acc := acc) (ws := ws) (sm := 1) (cl := cl) hTb hT4 (hl.mono (by decide)) hk ha hn
  unfold comF
  cases ev : sumF B T a n acc with
  | error f =>
    refine ⟨fun f' ef => ?_, fun p n' acc' ef => (by cases ef)⟩
    cases ef
    exact r1 f ev
  | ok ie =>
    obtain ⟨e, m, acc1⟩ := ie
    obtain ⟨k2, ws2, os2, t2, s2, q2⟩ := r2 e m acc1 ev
    obtain ⟨⟨u1, u2, u3, u4, u5, u6, u7⟩, u8, u9, u10, -⟩ := sumF_ok hTb hT4 ha hn ev
    have er := rc_n u9 u10
    rw [q2, run_st t2 u2 (by decide), u8]
    have e1 : stpF B T e os2 ws2 3 1 cl m = bvF B T e os2 ws2 1 cl m := rfl
    rw [e1]
    unfold bvF
    rw [er]
    dsimp only
    rw [if_pos rfl]
    cases em : m4F (kdF B T e) with
    | none =>
      refine ⟨fun f' ef => ?_, fun p n' acc' ef => (by cases ef)⟩
      cases ef
      rfl
    | some c =>
      obtain ⟨c1, c2, c3⟩ := m4_c em
      have eb := m4_b em
      have pT : e < T := by
        refine Classical.byContradiction (fun q => ?_)
        rw [(kd_256 hTb).mpr (show T ≤ e by omega)] at c3
        omega
      have af1 := afF_lt (B := B) pT
      have af2 := (afF_le (B := B) u2).2
      dsimp only
      by_cases q6 : m = 60
      · rw [if_pos q6, if_pos (by omega)]
        refine ⟨fun f' ef => ?_, fun p n' acc' ef => (by cases ef)⟩
        cases ef
        rfl
      · rw [if_neg q6, if_neg (by omega)]
        dsimp only
        rw [eb, sP_of (show 4 ≤ 5 by decide) s2, sP_lo hl]
        dsimp only
        obtain ⟨r3, r4⟩ := E_sum (B := B) (T := T) (a := afF B T e) (k := k2 - 1) (os := os) (acc := acc1) (ws := c :: ws) (sm := 2) (cl := cl) (n := m + 1) hTb hT4 (show bnd c < 5 by omega) (by omega) af2 (by omega)
        cases ew : sumF B T (afF B T e) (m + 1) acc1 with
        | error f =>
          refine ⟨fun f' ef => ?_, fun p n' acc' ef => (by cases ef)⟩
          cases ef
          exact r3 f ew
        | ok ie =>
          obtain ⟨e2, m2, acc2⟩ := ie
          refine ⟨fun f' ef => (by cases ef), fun p n' acc' ef => ?_⟩
          cases ef
          obtain ⟨k3, ws3, os3, t3, s3, q3⟩ := r4 _ _ _ ew
          refine ⟨k3, ws3, os3, t3, ?_, q3⟩
          rw [sP_of (show 4 ≤ 5 by decide) s3, sP_push (by omega) hl]
          simp only [List.map_append, List.map_cons, List.map_nil, (opIt_k c (by omega) (by omega)).1, List.append_assoc]
end AU
