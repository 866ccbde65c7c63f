section AV
variable {L d : Nat} {xs : Nat → Int32} {h h1 : xH} {Q : xQ} {p o n w t k : Nat} {x y z fo xx : Int32} {T : Nat} {tp : Nat → Int32} {R : List (List Cl)} {σ σ' : Sn} {u u' : Nat} {H H' : Nat → Nat → Int32} {ι : Nat → Option Sn} {s s' f g : Nat → Int32}
variable {B : Nat → Nat} {a b c e m q v W n' a' j sm cl b' : Nat} {acc acc' : List It} {i : It} {ops ops' ws os ws1 os1 : List Nat} {cls : List Cl}
theorem opsK.lo (hk : opsK ops) : Lo 4 ops := by
  cases ops with
  | nil => trivial
  | cons w ops =>
    have := hk w (List.mem_cons_self ..)
    have cs : w = 22 ∨ w = 23 ∨ w = 24 ∨ w = 25 := by omega
    rcases cs with rfl | rfl | rfl | rfl <;> (show bnd _ < 4; decide)
theorem E_fac (hTb : ∀ i, i < T → B i < 256) : ∀ k' a ops k, T < a + k' → T < a + k → a ≤ T → cn ops ≤ 10 → (∀ f, facF B T k' a ops = .error f → runF B T k a (os, ops, 2, sm, cl, n) = .error f) ∧ ∀ e ops', facF B T k' a ops = .ok (e, ops') → ∃ k2, T < e + k2 ∧ runF B T k a (os, ops, 2, sm, cl, n) = runF B T k2 e (os, ops', 1, 1, cl, n) := by
  intro k'
  induction k' with
  | zero => intro a ops k h1'; omega
  | succ k' ih =>
    intro a ops k h1' h2' ha hc
    obtain ⟨n1, n2⟩ := nxB_le (B := B) ha
    have af2 := (afF_le (B := B) n2).2
    have s := run_st (B := B) (os := os) (ws := ops) (st := 2) (sm := sm) (cl := cl) (n := n) h2' ha (by decide)
    have e1 : stpF B T (nxB B T a) os ops 2 sm cl n = (if kdF B T (nxB B T a) = 91 then opnF (nxB B T a) 25 os ops sm cl n else if isW B T (nxB B T a) 7237492 = true then opnF (nxB B T a) 22 os ops sm cl n else valuF B T (nxB B T a) os ops 1 cl n) := rfl
    rw [e1] at s
    rw [facF]
    by_cases q1 : isW B T (nxB B T a) 7237492 = true
    · have k257 := isW_257 q1
      have af1 := afF_lt (B := B) (kd_257 hTb k257).1
      rw [if_neg (by omega), if_pos q1] at s
      unfold opnF at s
      rw [if_pos q1]
      by_cases q2 : cn ops = 10
      · rw [if_pos q2]
        rw [if_pos (by omega)] at s
        refine ⟨fun f ef => ?_, fun e o ef => (by cases ef)⟩
        cases ef
        exact s
      · rw [if_neg q2]
        rw [if_neg (by omega)] at s
        rw [s]
        exact ih _ (22 :: ops) (k - 1) (by omega) (by omega) af2 (by unfold cn at hc q2 ⊢; rw [List.count_cons_self, List.count_cons_of_ne (by decide)]; omega)
    · rw [if_neg q1]
      by_cases q3 : kdF B T (nxB B T a) = 91
      · have pT := ((kd_c hTb (by decide) (by decide) (by decide) (by decide) (by decide)).mp q3).1
        have ea := af_c hTb (by decide) (by decide) (by decide) (by decide) (by decide) q3
        rw [if_pos q3] at s
        unfold opnF at s
        rw [if_pos q3]
        by_cases q2 : cn ops = 10
        · rw [if_pos q2]
          rw [if_pos (by omega)] at s
          refine ⟨fun f ef => ?_, fun e o ef => (by cases ef)⟩
          cases ef
          exact s
        · rw [if_neg q2]
          rw [if_neg (by omega), ea] at s
          rw [s]
          exact ih _ (25 :: ops) (k - 1) (by omega) (by omega) (by omega) (by unfold cn at hc q2 ⊢; rw [List.count_cons_self, List.count_cons_of_ne (by decide)]; omega)
      · rw [if_neg q3]
        rw [if_neg q3, if_neg q1] at s
        refine ⟨fun f ef => (by cases ef), fun e o ef => ?_⟩
        cases ef
        refine ⟨k, by omega, ?_⟩
        rw [run_nx ha, s, run_st (st := 1) h2' ha (by decide)]
        rfl
theorem E_fact (hTb : ∀ i, i < T → B i < 256) (hT4 : T ≤ 400) (hk : T < a + k) (ha : a ≤ T) (hn : n ≤ 60) (ho : opsK ops) (hc : cn ops ≤ 10) : (∀ f, factF B T a n ops acc = .error f → runF B T k a (os ++ acc.map iC, ops, 2, sm, cl, n) = .error f) ∧ ∀ p n' ops' acc', factF B T a n ops acc = .ok (p, n', ops', acc') → ∃ k2 ws2 os2, T < p + k2 ∧ sP 4 ws2 os2 = (ops', os ++ acc'.map iC) ∧ runF B T k a (os ++ acc.map iC, ops, 2, sm, cl, n) = runF B T k2 p (os2, ws2, 4, 2, cl, n') := by
  obtain ⟨r1, r2⟩ := E_fac (B := B) (T := T) (os := os ++ acc.map iC) (sm := sm) (cl := cl) (n := n) hTb 401 a ops k (by omega) hk ha hc
  unfold factF
  cases ev : facF B T 401 a ops with
  | error f =>
    refine ⟨fun f' ef => ?_, fun p n' o acc' ef => (by cases ef)⟩
    cases ef
    exact r1 f ev
  | ok ie =>
    obtain ⟨e, o2⟩ := ie
    obtain ⟨k2, t2, q2⟩ := r2 e o2 ev
    obtain ⟨j1, j2, j3, j4, j5, j6, j7, j8, j9⟩ := facF_ok hTb 401 a ops e o2 (by omega) ha ho hc ev
    obtain ⟨r3, r4⟩ := E_com (B := B) (T := T) (os := os) (acc := acc) (ws := o2) (cl := cl) hTb hT4 j5.lo t2 j2 hn
    rw [q2]
    dsimp only
    cases ew : comF B T e n acc with
    | error f =>
      refine ⟨fun f' ef => ?_, fun p n' o acc' ef => (by cases ef)⟩
      cases ef
      exact r3 f ew
    | ok ie =>
      obtain ⟨e2, m2, a2⟩ := ie
      refine ⟨fun f' ef => (by cases ef), fun p n' o acc' ef => ?_⟩
      cases ef
      obtain ⟨k3, ws3, os3, t3, s3, q3⟩ := r4 _ _ _ ew
      obtain ⟨⟨u1, u2, u3, u4, u5, u6, u7⟩, u8, u9, u10, -⟩ := comF_ok hTb hT4 j2 hn ew
      refine ⟨k3, ws3, os3, t3, s3, q3.trans ?_⟩
      rw [run_st (st := 3) t3 u2 (by decide), run_st (st := 4) t3 u2 (by decide), u8]
      have e1 : stpF B T e2 os3 ws3 3 2 cl m2 = bvF B T e2 os3 ws3 2 cl m2 := rfl
      have e2' : stpF B T e2 os3 ws3 4 2 cl m2 = behF B T e2 os3 ws3 2 cl m2 := rfl
      rw [e1, e2']
      unfold bvF
      rw [rc_n u9 u10]
      rfl
theorem run_4 (hk : T < a + k) (ha : a ≤ T) : runF B T k a (os, ws, 4, sm, cl, n) = match behF B T (nxB B T a) os ws sm cl n with
    | .error f => .error f
    | .ok S => runF B T (k - 1) (afF B T (nxB B T a)) S := run_st hk ha (by decide)
theorem not_w (h1' : kdF B T p ≠ 257) : ¬ isW B T p W = true := fun z => h1' (isW_257 z)
theorem E_clo (hTb : ∀ i, i < T → B i < 256) : ∀ k' a ops acc k ws1 os1, T < a + k' → T < a + k → a ≤ T → opsK ops → sP 3 ws1 os1 = (ops, os ++ acc.map iC) → ∀ p ops' acc', cloF B T k' a ops acc = (p, ops', acc') → ∃ k2 ws2 os2, T < p + k2 ∧ sP 3 ws2 os2 = (ops', os ++ acc'.map iC) ∧ runF B T k a (os1, ws1, 4, sm, cl, n) = runF B T k2 p (os2, ws2, 4, sm, cl, n) := by
  intro k'
  induction k' with
  | zero => intro a ops acc k ws1 os1 h1'; omega
  | succ k' ih =>
    intro a ops acc k ws1 os1 h1' h2' ha ho hs p ops' acc' ef
    obtain ⟨n1, n2⟩ := nxB_le (B := B) ha
    have m25 : 25 ∈ ws1 ↔ 25 ∈ ops := by have := sP_25 (b := 3) (by decide) ws1 os1; rw [hs] at this; exact this.symm
    rw [cloF] at ef
    by_cases q1 : kdF B T (nxB B T a) = 93 ∧ 25 ∈ ops
    · rw [if_pos q1] at ef
      have pT := ((kd_c hTb (by decide) (by decide) (by decide) (by decide) (by decide)).mp q1.1).1
      have ea := af_c hTb (by decide) (by decide) (by decide) (by decide) (by decide) q1.1
      have s := run_4 (B := B) (os := os1) (ws := ws1) (sm := sm) (cl := cl) (n := n) h2' ha
      unfold behF at s
      rw [if_neg (not_w (by omega)), if_neg (not_w (by omega)), if_pos ⟨q1.1, m25.mpr q1.2⟩, ea] at s
      dsimp only at s
      rw [sP_of (show 1 ≤ 3 by decide) hs, sP_sR (by decide) ops acc ho] at s
      dsimp only at s
      obtain ⟨w1, -, -, -, -, -, -, -, -, -, w10⟩ := sR_ok (b := 1) (by decide) ops acc ho
      obtain ⟨r, er⟩ := w10 q1.2 rfl
      rw [er] at w1
      have hk2 : opsK (sR 1 ops acc).1.tail := by rw [er, List.tail_cons]; exact w1.tl
      obtain ⟨y1, -⟩ := sR_ok (b := 3) (by decide) _ (sR 1 ops acc).2 hk2
      rw [s]
      exact ih _ _ _ (k - 1) _ _ (by omega) (by omega) (by omega) y1 (sP_sR (by decide) _ _ hk2) p ops' acc' ef
    · rw [if_neg q1] at ef
      cases ef
      exact ⟨k, ws1, os1, by omega, hs, (run_nx ha).symm⟩
theorem E_tes (hTb : ∀ i, i < T → B i < 256) (hT4 : T ≤ 400) : ∀ k' a n ops acc k sm, T < a + k' → T < a + k → a ≤ T → n ≤ 60 → opsK ops → cn ops ≤ 10 → (∀ f, tesF B T k' a n ops acc = .error f → runF B T k a (os ++ acc.map iC, ops, 2, sm, cl, n) = .error f) ∧ ∀ p n' acc', tesF B T k' a n ops acc = .ok (p, n', acc') → ∃ k2 ws2 os2, T < p + k2 ∧ sP 1 ws2 os2 = ([], os ++ acc'.map iC) ∧ ¬ 25 ∈ ws2 ∧ ¬ isW B T p 6385252 = true ∧ ¬ isW B T p 28530 = true ∧ runF B T k a (os ++ acc.map iC, ops, 2, sm, cl, n) = runF B T k2 p (os2, ws2, 4, 2, cl, n') := by
  intro k'
  induction k' with
  | zero => intro a n ops acc k sm h1'; omega
  | succ k' ih =>
    intro a n ops acc k sm h1' h2' ha hn ho hc
    obtain ⟨r1, r2⟩ := E_fact (B := B) (T := T) (os := os) (acc := acc) (sm := sm) (cl := cl) hTb hT4 h2' ha hn ho hc
    rw [tesF]
    cases ev : factF B T a n ops acc with
    | error f =>
      refine ⟨fun f' ef => ?_, fun p n' acc' ef => (by cases ef)⟩
      cases ef
      exact r1 f ev
    | ok ie =>
      obtain ⟨e, m, o1, a1⟩ := ie
      obtain ⟨k2, ws2, os2, t2, s2, q2⟩ := r2 _ _ _ _ ev
      obtain ⟨f1, f2, f3, f4, f5, f6, f7, f8, f9, f10, f11, f12, -⟩ := factF_ok hTb hT4 ha hn ho hc ev
      rw [q2]
      dsimp only
      cases ec : clsF B T e o1 a1 with
      | mk p oa =>
        obtain ⟨o2, a2⟩ := oa
        obtain ⟨g1, g2, g3, g4, g5, g6, g7, g8, g9, g10, g11⟩ := clsF_ok hTb hT4 f2 f9 f10 ec
        obtain ⟨y1, -⟩ := sR_ok (b := 3) (by decide) o1 a1 f9
        obtain ⟨k3, ws3, os3, t3, s3, q3⟩ := E_clo (B := B) (T := T) (os := os) (sm := 2) (cl := cl) (n := m) hTb 401 e _ _ k2 ws2 os2 (by omega) t2 f2 y1 (by rw [sP_of (show 3 ≤ 4 by decide) s2, sP_sR (by decide) o1 a1 f9]) p o2 a2 ec
        rw [q3]
        have m25 : 25 ∈ ws3 ↔ 25 ∈ o2 := by have := sP_25 (b := 3) (by decide) ws3 os3; rw [s3] at this; exact this.symm
        have af2 := (afF_le (B := B) g2).2
        have s := run_4 (B := B) (os := os3) (ws := ws3) (sm := 2) (cl := cl) (n := m) t3 g2
        unfold behF at s
        rw [g5] at s
        dsimp only
        by_cases q1 : isW B T p 6385252 = true
        · rw [if_pos q1] at s ⊢
          have af1 := afF_lt (B := B) (kd_257 hTb (isW_257 q1)).1
          obtain ⟨z1, -, -, -, -, z5, -⟩ := sR_ok (b := 2) (by decide) o2 a2 g6
          have c5 : cn (23 :: (sR 2 o2 a2).1) = cn (sR 2 o2 a2).1 := by unfold cn; rw [List.count_cons_of_ne (by decide), List.count_cons_of_ne (by decide)]
          dsimp only at s
          rw [sP_of (show 2 ≤ 3 by decide) s3, sP_sR (by decide) o2 a2 g6] at s
          dsimp only at s
          rw [s]
          exact ih _ _ _ _ (k3 - 1) 2 (by omega) (by omega) af2 f5 (fun x hx => (by cases hx with | head => omega | tail _ y => exact z1 x y)) (by omega)
        · rw [if_neg q1] at s ⊢
          by_cases q2 : isW B T p 28530 = true
          · rw [if_pos q2] at s ⊢
            have af1 := afF_lt (B := B) (kd_257 hTb (isW_257 q2)).1
            obtain ⟨z1, -, -, -, -, z5, -⟩ := sR_ok (b := 1) (by decide) o2 a2 g6
            have c5 : cn (24 :: (sR 1 o2 a2).1) = cn (sR 1 o2 a2).1 := by unfold cn; rw [List.count_cons_of_ne (by decide), List.count_cons_of_ne (by decide)]
            dsimp only at s
            rw [sP_of (show 1 ≤ 3 by decide) s3, sP_sR (by decide) o2 a2 g6] at s
            dsimp only at s
            rw [s]
            exact ih _ _ _ _ (k3 - 1) 2 (by omega) (by omega) af2 f5 (fun x hx => (by cases hx with | head => omega | tail _ y => exact z1 x y)) (by omega)
          · rw [if_neg q2] at s ⊢
            by_cases q3 : 25 ∈ o2
            · rw [if_pos q3]
              rw [if_neg (fun z => g11 ⟨z.1, q3⟩), if_neg (fun z => z.2 (m25.mpr q3))] at s
              refine ⟨fun f' ef => ?_, fun p n' acc' ef => (by cases ef)⟩
              cases ef
              exact s
            · rw [if_neg q3]
              refine ⟨fun f' ef => (by cases ef), fun p' n' acc' ef => ?_⟩
              cases ef
              obtain ⟨-, -, -, -, -, -, -, -, -, z9, -⟩ := sR_ok (b := 1) (by decide) o2 a2 g6
              refine ⟨k3, ws3, os3, t3, ?_, fun z => q3 (m25.mp z), q1, q2, rfl⟩
              rw [sP_of (show 1 ≤ 3 by decide) s3, sP_sR (by decide) o2 a2 g6, z9 q3 rfl]
def clC : Cl → List Nat
  | (s, none) => s.map iC ++ [26]
  | (s, some u) => s.map iC ++ u.map iC ++ [27]
def clsC : List Cl → List Nat
  | [] => []
  | c :: r => clC c ++ clsC r
theorem clsC_app : ∀ {as bs : List Cl}, clsC (as ++ bs) = clsC as ++ clsC bs
  | [], bs => rfl
  | a :: as, bs => by rw [List.cons_append, clsC, clsC, clsC_app, List.append_assoc]
theorem run_end (hk : T < a + k) (ha : a ≤ T) (hi : nxB B T a = a) {s : Nat} {X : List Nat} (hb : stpF B T a os1 ws1 b sm cl n = endF B T a s os1 ws1 sm cl n) (h5 : b ≠ 5) (hs : sP 1 ws1 os1 = ([], X)) (hTb : ∀ i, i < T → B i < 256) : (kdF B T a = 59 → ∃ k2, T < a + 1 + k2 ∧ runF B T k a (os1, ws1, b, sm, cl, n) = runF B T k2 (a + 1) (X ++ [s], [], 0, sm, cl, n)) ∧ (kdF B T a = 256 → runF B T k a (os1, ws1, b, sm, cl, n) = .ok (X ++ [s])) := by
  have q := run_st (B := B) (os := os1) (ws := ws1) (st := b) (sm := sm) (cl := cl) (n := n) hk ha h5
  rw [hi, hb] at q
  unfold endF at q
  rw [hs] at q
  dsimp only at q
  refine ⟨fun e => ?_, fun e => ?_⟩
  · rw [if_neg (by omega), af_59 hTb e] at q
    exact ⟨k - 1, by omega, q⟩
  · rw [if_pos e, run_fin] at q
    exact q
theorem E_go (hTb : ∀ i, i < T → B i < 256) (hT4 : T ≤ 400) (hk : T < a + k) (ha : a ≤ T) (hn : n ≤ 60) : (∀ f, goF B T a n = .error f → runF B T k a (os, [], 1, 0, cl, n) = .error f) ∧ ∀ p n' cc, goF B T a n = .ok (p, n', cc) → (kdF B T p = 59 → ∃ k2 sm2, T < p + 1 + k2 ∧ runF B T k a (os, [], 1, 0, cl, n) = runF B T k2 (p + 1) (os ++ clC cc, [], 0, sm2, cl, n')) ∧ (kdF B T p = 256 → runF B T k a (os, [], 1, 0, cl, n) = .ok (os ++ clC cc)) ∧ (kdF B T p ≠ 59 → kdF B T p ≠ 256 → runF B T k a (os, [], 1, 0, cl, n) = .error (1 + 8 * p + 0)) := by
  obtain ⟨r1, r2⟩ := E_sum (B := B) (T := T) (os := os) (acc := []) (ws := []) (sm := 0) (cl := cl) hTb hT4 trivial hk ha hn
  rw [List.map_nil, List.append_nil] at r1 r2
  unfold goF
  cases ev : sumF B T a n [] with
  | error f =>
    refine ⟨fun f' ef => ?_, fun p n' cc ef => (by cases ef)⟩
    cases ef
    exact r1 f ev
  | ok ie =>
    obtain ⟨e, m, s⟩ := ie
    obtain ⟨k2, ws2, os2, t2, s2, q2⟩ := r2 e m s ev
    obtain ⟨⟨u1, u2, u3, u4, u5, u6, u7⟩, u8, u9, u10, -⟩ := sumF_ok hTb hT4 ha hn ev
    have er := rc_n u9 u10
    have s1 : sP 1 ws2 os2 = ([], os ++ s.map iC) := by rw [sP_of (show 1 ≤ 5 by decide) s2]; rfl
    have af2 := (afF_le (B := B) u2).2
    have e1 : stpF B T e os2 ws2 3 0 cl m = if isW B T e 26982 = true then .ok ((sP 1 ws2 os2).2, (sP 1 ws2 os2).1, 2, 0, cl, m) else if kdF B T e = 256 ∨ kdF B T e = 59 then endF B T e 26 os2 ws2 0 cl m else .error (1 + 8 * e + 0) := by
      show bvF B T e os2 ws2 0 cl m = _
      unfold bvF
      rw [er]
      rfl
    rw [q2]
    dsimp only
    by_cases q1 : isW B T e 26982 = true
    · rw [if_pos q1] at e1 ⊢
      have af1 := afF_lt (B := B) (kd_257 hTb (isW_257 q1)).1
      have q := run_st (B := B) (os := os2) (ws := ws2) (st := 3) (sm := 0) (cl := cl) (n := m) t2 u2 (by decide)
      rw [u8, e1, s1] at q
      dsimp only at q
      rw [q]
      obtain ⟨r3, r4⟩ := E_tes (B := B) (T := T) (os := os ++ s.map iC) (cl := cl) hTb hT4 401 (afF B T e) m [] [] (k2 - 1) 0 (by omega) (by omega) af2 u4 (fun x hx => (by cases hx)) (by decide)
      rw [List.map_nil, List.append_nil] at r3 r4
      cases ew : tesF B T 401 (afF B T e) m [] [] with
      | error f =>
        refine ⟨fun f' ef => ?_, fun p n' cc ef => (by cases ef)⟩
        cases ef
        exact r3 f ew
      | ok ie =>
        obtain ⟨e2, m2, u⟩ := ie
        obtain ⟨k3, ws3, os3, t3, s3, n25, nA, nO, q3⟩ := r4 _ _ _ ew
        obtain ⟨j1, j2, j3, j4, j5, j6, j7, -⟩ := tesF_ok hTb hT4 401 _ _ _ _ e2 m2 u (by omega) af2 u4 (fun x hx => (by cases hx)) (by decide) ew
        refine ⟨fun f' ef => (by cases ef), fun p n' cc ef => ?_⟩
        cases ef
        rw [q3]
        have e4 : ∀ (z : kdF B T e2 = 256 ∨ kdF B T e2 = 59), stpF B T e2 os3 ws3 4 2 cl m2 = endF B T e2 27 os3 ws3 2 cl m2 := by
          intro z
          show behF B T e2 os3 ws3 2 cl m2 = _
          unfold behF
          rw [if_neg nA, if_neg nO, if_neg (fun y => n25 y.2), if_pos ⟨z, n25⟩]
        have ecc : os ++ clC (s, some u) = os ++ s.map iC ++ u.map iC ++ [27] := by show os ++ (s.map iC ++ u.map iC ++ [27]) = _; simp only [List.append_assoc]
        rw [ecc]
        refine ⟨fun z => ?_, fun z => (run_end t3 j2 j7 (e4 (.inl z)) (by decide) s3 hTb).2 z, fun z1 z2 => ?_⟩
        · obtain ⟨k4, t4, q4⟩ := (run_end t3 j2 j7 (e4 (.inr z)) (by decide) s3 hTb).1 z
          exact ⟨k4, 2, t4, q4⟩
        · rw [run_4 t3 j2, j7]
          unfold behF
          rw [if_neg nA, if_neg nO, if_neg (fun y => n25 y.2), if_neg (fun y => y.1.elim z2 z1)]
    · rw [if_neg q1] at e1 ⊢
      refine ⟨fun f' ef => (by cases ef), fun p n' cc ef => ?_⟩
      cases ef
      have ecc : os ++ clC (s, none) = os ++ s.map iC ++ [26] := by show os ++ (s.map iC ++ [26]) = _; simp only [List.append_assoc]
      rw [ecc]
      have e4 : ∀ (z : kdF B T e = 256 ∨ kdF B T e = 59), stpF B T e os2 ws2 3 0 cl m = endF B T e 26 os2 ws2 0 cl m := by
        intro z
        rw [e1, if_pos z]
      refine ⟨fun z => ?_, fun z => (run_end t2 u2 u8 (e4 (.inl z)) (by decide) s1 hTb).2 z, fun z1 z2 => ?_⟩
      · obtain ⟨k4, t4, q4⟩ := (run_end t2 u2 u8 (e4 (.inr z)) (by decide) s1 hTb).1 z
        exact ⟨k4, 0, t4, q4⟩
      · rw [run_st t2 u2 (by decide), u8, e1, if_neg (fun y => y.elim z2 z1)]
theorem E_ru (hTb : ∀ i, i < T → B i < 256) (hT4 : T ≤ 400) : ∀ k' c a n cls k sm, c + k' = 13 → c ≤ 12 → T < a + k → a ≤ T → n ≤ 60 → runF B T k a (clsC cls, [], 0, sm, c, n) = match ruF B T k' c a n cls with
    | .error f => .error f
    | .ok cls' => .ok (clsC cls') := by
  intro k'
  induction k' with
  | zero => intro c a n cls k sm h1'; omega
  | succ k' ih =>
    intro c a n cls k sm h1' h2' hk ha hn
    obtain ⟨n1, n2⟩ := nxB_le (B := B) ha
    have s := run_st (B := B) (os := clsC cls) (ws := []) (st := 0) (sm := sm) (cl := c) (n := n) hk ha (by decide)
    have e1 : stpF B T (nxB B T a) (clsC cls) [] 0 sm c n = (if isW B T (nxB B T a) 26479 = true then (if 12 ≤ c then .error (1 + 8 * nxB B T a + 4) else .ok (clsC cls, [], 1, 0, c + 1, n)) else .error (1 + 8 * nxB B T a + 0)) := rfl
    rw [e1] at s
    rw [ruF_eq]
    unfold cl1F
    by_cases q1 : isW B T (nxB B T a) 26479 = true
    · rw [if_pos q1] at s ⊢
      have af1 := afF_lt (B := B) (kd_257 hTb (isW_257 q1)).1
      have af2 := (afF_le (B := B) n2).2
      by_cases q2 : c = 12
      · rw [if_pos q2]
        rw [if_pos (by omega)] at s
        exact s
      · rw [if_neg q2]
        rw [if_neg (by omega)] at s
        have x1 : c + 1 + k' = 13 := by omega
        have x2 : c + 1 ≤ 12 := by omega
        dsimp only at s
        rw [s]
        obtain ⟨r1, r2⟩ := E_go (B := B) (T := T) (a := afF B T (nxB B T a)) (k := k - 1) (n := n) (os := clsC cls) (cl := c + 1) hTb hT4 (by omega) af2 hn
        cases ev : goF B T (afF B T (nxB B T a)) n with
        | error f => exact r1 f ev
        | ok ie =>
          obtain ⟨p, m, cc⟩ := ie
          obtain ⟨r3, r4, r5⟩ := r2 p m cc ev
          obtain ⟨g1, g2, g3, g4, g5, g6, g7⟩ := goF_ok hTb hT4 af2 hn ev
          dsimp only
          rw [g6]
          have ecc : clsC (cls ++ [cc]) = clsC cls ++ clC cc := by rw [clsC_app, clsC, clsC, List.append_nil]
          by_cases q3 : kdF B T p = 59
          · rw [if_pos q3]
            have pT := ((kd_59 hTb).mp q3).1
            have x3 : p + 1 ≤ T := pT
            obtain ⟨k2, sm2, t2, q4⟩ := r3 q3
            rw [q4, ← ecc]
            exact ih (c + 1) (p + 1) m (cls ++ [cc]) k2 sm2 x1 x2 t2 x3 g4
          · rw [if_neg q3]
            by_cases q4 : kdF B T p = 256
            · rw [if_pos q4, r4 q4, ← ecc]
            · rw [if_neg q4]
              exact r5 q3 q4
    · rw [if_neg q1] at s ⊢
      exact s
/-- faults are told -/
theorem beh_er (hp : p ≤ 400) {f : Nat} (e : behF B T p os ws sm cl n = .error f) : f ≠ 0 ∧ f < 10000 := by
  unfold behF at e
  (repeat' split at e) <;> first | (cases e; omega) | (unfold endF at e; cases e) | cases e
theorem valF_er (hp : nxB B T p = p) (hp4 : p ≤ 400) {f : Nat} (e : valF B T p n = .error f) : f ≠ 0 ∧ f < 10000 := by
  unfold valF at e
  rw [hp] at e
  (repeat' split at e) <;> first | (cases e; omega) | cases e
theorem valu_er (hp : nxB B T p = p) (hp4 : p ≤ 400) {f : Nat} (e : valuF B T p os ws sm cl n = .error f) : f ≠ 0 ∧ f < 10000 := by
  unfold valuF at e
  cases ev : valF B T p n with
  | error f' => rw [ev] at e; cases e; exact valF_er hp hp4 ev
  | ok ie => rw [ev] at e; cases e
theorem stp_er (hp : nxB B T p = p) (hp4 : p ≤ 400) {f st : Nat} (e : stpF B T p os ws st sm cl n = .error f) : f ≠ 0 ∧ f < 10000 := by
  unfold stpF at e
  split at e
  · (repeat' split at e) <;> first | (cases e; omega) | cases e
  · split at e
    · exact valu_er hp hp4 e
    · split at e
      · split at e
        · unfold opnF at e
          (repeat' split at e) <;> first | (cases e; omega) | cases e
        · split at e
          · unfold opnF at e
            (repeat' split at e) <;> first | (cases e; omega) | cases e
          · exact valu_er hp hp4 e
      · split at e
        · unfold bvF at e
          split at e
          · cases e
          · split at e
            · (repeat' split at e) <;> first | (cases e; omega) | cases e
            · split at e
              · exact beh_er hp4 e
              · (repeat' split at e) <;> first | (cases e; omega) | (unfold endF at e; cases e) | cases e
        · exact beh_er hp4 e
theorem run_er (hT4 : T ≤ 400) : ∀ k a (S : AS) f, a ≤ T → runF B T k a S = .error f → f ≠ 0 ∧ f < 10000 := by
  intro k
  induction k with
  | zero => intro a S f ha e; obtain ⟨os, ws, st, sm, cl, n⟩ := S; cases e
  | succ k ih =>
    intro a S f ha e
    obtain ⟨os, ws, st, sm, cl, n⟩ := S
    obtain ⟨n1, n2⟩ := nxB_le (B := B) ha
    rw [runF] at e
    split at e
    · cases e
    · cases es : stpF B T (nxB B T a) os ws st sm cl n with
      | error f' => rw [es] at e; cases e; exact stp_er (nxB_id ha) (by omega) es
      | ok S' => rw [es] at e; exact ih _ S' f (afF_le (B := B) n2).2 e
end AV
