section AW
variable {L d : Nat} {xs : Nat → Int32} {h h1 : xH} {Q : xQ} {p o n w t k : Nat} {x y z fo xx : Int32} {T : Nat} {tp : Nat → Int32} {R : List (List Cl)} {σ σ' : Sn} {u u' : Nat} {H H' : Nat → Nat → Int32} {ι : Nat → Option Sn} {s s' f g : Nat → Int32}
variable {B : Nat → Nat} {a b c e m q v W n' a' j sm cl b' st : Nat} {ws os ws' os' : List Nat}
def Hd : List Nat → Prop
  | [] => True
  | v :: _ => 22 ≤ v
def Ch : List Nat → Prop
  | [] => True
  | w :: ws => (if w = 22 ∨ w = 25 then Hd ws else Lo (bnd w) ws) ∧ Ch ws
def Mb (ws : List Nat) : Prop := ∀ w ∈ ws, 12 ≤ w ∧ w ≤ 25
def mT : List Nat → Nat
  | [] => 0
  | w :: _ => if w = 22 ∨ w = 25 then 0 else bnd w
theorem Mb.tl (hm : Mb (w :: ws)) : Mb ws := fun x hx => hm x (List.mem_cons_of_mem _ hx)
theorem bnd_6 : bnd c ≤ 6 := by unfold bnd; (repeat' split) <;> omega
theorem bnd_1 (h1' : 12 ≤ c) (h2' : c < 25) : 1 ≤ bnd c := by unfold bnd; (repeat' split) <;> omega
theorem Ch_len : ∀ ws, Mb ws → Ch ws → ws.length ≤ 3 * cn ws + mT ws := by
  intro ws
  induction ws with
  | nil => intro _ _; exact Nat.zero_le _
  | cons w ws ih =>
    intro hm hc
    have i1 := ih hm.tl hc.2
    obtain ⟨w1, w2⟩ := hm w (List.mem_cons_self ..)
    have c1 := hc.1
    rw [List.length_cons]
    by_cases q : w = 22 ∨ w = 25
    · rw [if_pos q] at c1
      have ec : cn (w :: ws) = cn ws + 1 := by
        unfold cn
        rcases q with rfl | rfl
        · rw [List.count_cons_self, List.count_cons_of_ne (by decide)]; omega
        · rw [List.count_cons_self, List.count_cons_of_ne (by decide)]; omega
      have m2 : mT ws ≤ 2 := by
        cases ws with
        | nil => exact Nat.zero_le _
        | cons v ws =>
          have v1 : 22 ≤ v := c1
          have v2 := (hm v (List.mem_cons_of_mem _ (List.mem_cons_self ..))).2
          have cs : v = 22 ∨ v = 23 ∨ v = 24 ∨ v = 25 := by omega
          rcases cs with rfl | rfl | rfl | rfl
          · show (if 22 = 22 ∨ 22 = 25 then 0 else bnd 22) ≤ 2; decide
          · show (if 23 = 22 ∨ 23 = 25 then 0 else bnd 23) ≤ 2; decide
          · show (if 24 = 22 ∨ 24 = 25 then 0 else bnd 24) ≤ 2; decide
          · show (if 25 = 22 ∨ 25 = 25 then 0 else bnd 25) ≤ 2; decide
      rw [ec]; omega
    · rw [if_neg q] at c1
      have ec : cn (w :: ws) = cn ws := by unfold cn; rw [List.count_cons_of_ne (by omega), List.count_cons_of_ne (by omega)]
      have em : mT (w :: ws) = bnd w := by show (if w = 22 ∨ w = 25 then 0 else bnd w) = _; rw [if_neg q]
      have b1 := bnd_1 w1 (by omega)
      have m2 : mT ws + 1 ≤ bnd w := by
        cases ws with
        | nil => exact b1
        | cons v ws =>
          have v1 : bnd v < bnd w := c1
          show (if v = 22 ∨ v = 25 then 0 else bnd v) + 1 ≤ bnd w
          split <;> omega
      rw [ec, em]; omega
theorem mT_6 : mT ws ≤ 6 := by
  cases ws with
  | nil => exact Nat.zero_le _
  | cons v ws => show (if v = 22 ∨ v = 25 then 0 else bnd v) ≤ 6; split; exact Nat.zero_le _; exact bnd_6
/-- settling leaves a part of what waits -/
theorem sP_iv : ∀ ws os, Mb ws → Ch ws → Mb (sP b ws os).1 ∧ Ch (sP b ws os).1 ∧ cn (sP b ws os).1 ≤ cn ws ∧ (sP b ws os).1.length + (sP b ws os).2.length = ws.length + os.length ∧ Lo b (sP b ws os).1 := by
  intro ws
  induction ws with
  | nil => intro os hm hc; exact ⟨hm, hc, Nat.le_refl _, rfl, trivial⟩
  | cons w ws ih =>
    intro os hm hc
    rw [sP]
    by_cases q : b ≤ bnd w
    · rw [if_pos q]
      obtain ⟨i1, i2, i3, i4, i5⟩ := ih (os ++ [w]) hm.tl hc.2
      rw [List.length_append, List.length_singleton] at i4
      refine ⟨i1, i2, Nat.le_trans i3 ?_, by rw [List.length_cons]; omega, i5⟩
      unfold cn; rw [List.count_cons, List.count_cons]; omega
    · rw [if_neg q]
      exact ⟨hm, hc, Nat.le_refl _, rfl, show bnd w < b by omega⟩
theorem Lo1_hd (hm : Mb ws) (hl : Lo 1 ws) : Hd ws ∧ (25 ∈ ws → ∃ r, ws = 25 :: r) := by
  cases ws with
  | nil => exact ⟨trivial, fun z => (by cases z)⟩
  | cons w ws =>
    obtain ⟨w1, w2⟩ := hm w (List.mem_cons_self ..)
    have l1 : bnd w < 1 := hl
    have w25 : w = 25 := by
      refine Classical.byContradiction (fun z => ?_)
      have := bnd_1 w1 (by omega)
      omega
    subst w25
    exact ⟨show 22 ≤ 25 by decide, fun _ => ⟨ws, rfl⟩⟩
def IV (a : Nat) (os ws : List Nat) (st cl n : Nat) : Prop := Mb ws ∧ Ch ws ∧ cn ws ≤ 10 ∧ os.length + ws.length + 2 * cl ≤ a ∧ n ≤ 60 ∧ cl ≤ 12 ∧ (st = 2 → Hd ws) ∧ (st ≠ 0 → 1 ≤ cl)
theorem go_2 (hTb : ∀ i, i < T → B i < 256) (e : isW B T p 26479 = true) : p + 2 ≤ afF B T p := by
  have q := of_decide_eq_true e
  have pT := (kd_257 hTb q.1).1
  have af := afF_lt (B := B) pT
  refine Classical.byContradiction (fun z => ?_)
  have e1 : afF B T p - p = 1 := by omega
  have q3 := q.2.2
  rw [e1] at q3
  have hb := hTb p pT
  have q4 : 256 * 0 + B (p + 0) = 26479 := q3
  rw [Nat.add_zero] at q4
  omega
/-- a sign between two -/
theorem iv_push (hv : IV a os ws st cl n) (h1' : 12 ≤ c) (h2' : c < 25) (h3' : c ≠ 22) (hn : n' ≤ 60) (ha : a < a') (hs : st ≠ 0) (h4' : b = 2 → 22 ≤ c) : IV a' (sP (bnd c) ws os).2 (c :: (sP (bnd c) ws os).1) b cl n' := by
  obtain ⟨v1, v2, v3, v4, v5, v6, v7, v8⟩ := hv
  obtain ⟨s1, s2, s3, s4, s5⟩ := sP_iv (b := bnd c) ws os v1 v2
  have ec : cn (c :: (sP (bnd c) ws os).1) = cn (sP (bnd c) ws os).1 := by unfold cn; rw [List.count_cons_of_ne (by omega), List.count_cons_of_ne (by omega)]
  refine ⟨fun x hx => (by cases hx with | head => omega | tail _ y => exact s1 x y), ⟨by rw [if_neg (by omega)]; exact s5, s2⟩, by omega, by rw [List.length_cons]; omega, hn, v6, fun z => h4' z, fun _ => v8 hs⟩
theorem iv_beh (hTb : ∀ i, i < T → B i < 256) (hp : p ≤ T) (hv : IV p os ws st cl n) (hs : st ≠ 0) {S : List Nat × List Nat × Nat × Nat × Nat × Nat} (e : behF B T p os ws sm cl n = .ok S) : (S.2.2.1 ≠ 5 → IV (afF B T p) S.1 S.2.1 S.2.2.1 S.2.2.2.2.1 S.2.2.2.2.2) ∧ (S.2.2.1 = 5 → S.1.length + 1 ≤ T) := by
  obtain ⟨v1, v2, v3, v4, v5, v6, v7, v8⟩ := id hv
  have af2 := (afF_le (B := B) hp).1
  unfold behF at e
  by_cases q1 : isW B T p 6385252 = true
  · rw [if_pos q1] at e
    have af1 := afF_lt (B := B) (kd_257 hTb (isW_257 q1)).1
    cases e
    exact ⟨fun _ => iv_push (c := 23) hv (by decide) (by decide) (by decide) v5 af1 hs (fun _ => by decide), fun z => (by cases z)⟩
  · rw [if_neg q1] at e
    by_cases q2 : isW B T p 28530 = true
    · rw [if_pos q2] at e
      have af1 := afF_lt (B := B) (kd_257 hTb (isW_257 q2)).1
      cases e
      exact ⟨fun _ => iv_push (c := 24) hv (by decide) (by decide) (by decide) v5 af1 hs (fun _ => by decide), fun z => (by cases z)⟩
    · rw [if_neg q2] at e
      obtain ⟨s1, s2, s3, s4, s5⟩ := sP_iv (b := 1) ws os v1 v2
      by_cases q3 : kdF B T p = 93 ∧ 25 ∈ ws
      · rw [if_pos q3] at e
        have pT := ((kd_c hTb (by decide) (by decide) (by decide) (by decide) (by decide)).mp q3.1).1
        have af1 := afF_lt (B := B) pT
        obtain ⟨r, er⟩ := (Lo1_hd s1 s5).2 ((sP_25 (by decide) ws os).mpr q3.2)
        rw [er] at s1 s2 s3 s4
        rw [List.length_cons] at s4
        cases e
        refine ⟨fun _ => ?_, fun z => (by cases z)⟩
        rw [er]
        have ec : cn (25 :: r) = cn r + 1 := by unfold cn; rw [List.count_cons_self, List.count_cons_of_ne (by decide)]; omega
        exact ⟨s1.tl, s2.2, by show cn r ≤ 10; omega, by show (sP 1 ws os).2.length + r.length + 2 * cl ≤ _; omega, v5, v6, fun z => (by cases z), fun _ => v8 hs⟩
      · rw [if_neg q3] at e
        by_cases q4 : (kdF B T p = 256 ∨ kdF B T p = 59) ∧ ¬ 25 ∈ ws
        · rw [if_pos q4] at e
          unfold endF at e
          cases e
          have v9 := v8 hs
          dsimp only
          by_cases q5 : kdF B T p = 256
          · rw [if_pos q5]
            have pT := (kd_256 hTb).mp q5
            exact ⟨fun z => (z rfl).elim, fun _ => by rw [List.length_append, List.length_singleton]; omega⟩
          · rw [if_neg q5]
            have k59 := q4.1.resolve_left q5
            have pT := ((kd_59 hTb).mp k59).1
            have af1 := afF_lt (B := B) pT
            exact ⟨fun _ => ⟨s1, s2, by omega, by rw [List.length_append, List.length_singleton]; omega, v5, v6, fun z => (by cases z), fun z => (z rfl).elim⟩, fun z => (by cases z)⟩
        · rw [if_neg q4] at e; cases e
theorem rc_b (e : rcF k = some c) : 12 ≤ c ∧ c ≤ 16 ∧ k ≠ 256 := by
  unfold rcF at e
  (repeat' split at e) <;> first | (cases e; omega) | cases e
theorem stp_iv (hTb : ∀ i, i < T → B i < 256) (hp : p ≤ T) (hi : nxB B T p = p) (hv : IV p os ws st cl n) {S : List Nat × List Nat × Nat × Nat × Nat × Nat} (e : stpF B T p os ws st sm cl n = .ok S) : (S.2.2.1 ≠ 5 → IV (afF B T p) S.1 S.2.1 S.2.2.1 S.2.2.2.2.1 S.2.2.2.2.2) ∧ (S.2.2.1 = 5 → S.1.length + 1 ≤ T) := by
  obtain ⟨v1, v2, v3, v4, v5, v6, v7, v8⟩ := id hv
  have valu : ∀ sm', st ≠ 0 → valuF B T p os ws sm' cl n = .ok S → (S.2.2.1 ≠ 5 → IV (afF B T p) S.1 S.2.1 S.2.2.1 S.2.2.2.2.1 S.2.2.2.2.2) ∧ (S.2.2.1 = 5 → S.1.length + 1 ≤ T) := by
    intro sm' hs e
    unfold valuF at e
    cases ev : valF B T p n with
    | error f => rw [ev] at e; cases e
    | ok ie =>
      obtain ⟨i, x, m⟩ := ie
      rw [ev] at e
      obtain ⟨w1, w2, w3, w4, w5, w6, w7, -⟩ := valF_ok hTb hp v5 ev
      rw [hi] at w7
      cases e
      exact ⟨fun _ => ⟨v1, v2, v3, by show (os ++ [iC i]).length + ws.length + 2 * cl ≤ _; rw [List.length_append, List.length_singleton]; omega, w4, v6, fun z => (by cases z), fun _ => v8 hs⟩, fun z => (by cases z)⟩
  have opn : ∀ s, s = 22 ∨ s = 25 → st = 2 → p < afF B T p → opnF p s os ws sm cl n = .ok S → (S.2.2.1 ≠ 5 → IV (afF B T p) S.1 S.2.1 S.2.2.1 S.2.2.2.2.1 S.2.2.2.2.2) ∧ (S.2.2.1 = 5 → S.1.length + 1 ≤ T) := by
    intro s hs h2 af e
    unfold opnF at e
    split at e
    · cases e
    · rename_i hc
      have ec : cn (s :: ws) = cn ws + 1 := by
        unfold cn
        rcases hs with rfl | rfl
        · rw [List.count_cons_self, List.count_cons_of_ne (by decide)]; omega
        · rw [List.count_cons_self, List.count_cons_of_ne (by decide)]; omega
      cases e
      refine ⟨fun _ => ⟨fun x hx => (by cases hx with | head => omega | tail _ y => exact v1 x y), ⟨by rw [if_pos hs]; exact v7 h2, v2⟩, by show cn (s :: ws) ≤ 10; omega, by show os.length + (s :: ws).length + 2 * cl ≤ _; rw [List.length_cons]; omega, v5, v6, fun _ => by show 22 ≤ s; omega, fun _ => v8 (by omega)⟩, fun z => (by cases z)⟩
  unfold stpF at e
  by_cases q0 : st = 0
  · rw [if_pos q0] at e
    by_cases q1 : isW B T p 26479 = true
    · rw [if_pos q1] at e
      have g2 := go_2 hTb q1
      split at e
      · cases e
      · cases e
        exact ⟨fun _ => ⟨v1, v2, v3, by show os.length + ws.length + 2 * (cl + 1) ≤ _; omega, v5, by show cl + 1 ≤ 12; omega, fun z => (by cases z), fun _ => by show 1 ≤ cl + 1; omega⟩, fun z => (by cases z)⟩
    · rw [if_neg q1] at e; cases e
  · rw [if_neg q0] at e
    by_cases q1 : st = 1
    · rw [if_pos q1] at e
      exact valu sm q0 e
    · rw [if_neg q1] at e
      by_cases q2 : st = 2
      · rw [if_pos q2] at e
        by_cases q3 : kdF B T p = 91
        · rw [if_pos q3] at e
          exact opn 25 (.inr rfl) q2 (afF_lt (B := B) ((kd_c hTb (by decide) (by decide) (by decide) (by decide) (by decide)).mp q3).1) e
        · rw [if_neg q3] at e
          by_cases q4 : isW B T p 7237492 = true
          · rw [if_pos q4] at e
            exact opn 22 (.inl rfl) q2 (afF_lt (B := B) (kd_257 hTb (isW_257 q4)).1) e
          · rw [if_neg q4] at e
            exact valu 1 q0 e
      · rw [if_neg q2] at e
        by_cases q3 : st = 3
        · rw [if_pos q3] at e
          unfold bvF at e
          cases er : rcF (kdF B T p) with
          | some c =>
            rw [er] at e
            obtain ⟨c1, c2, c3⟩ := rc_b er
            have pT : p < T := by
              refine Classical.byContradiction (fun z => c3 ((kd_256 hTb).mpr (by omega)))
            cases e
            exact ⟨fun _ => iv_push (c := c) hv c1 (by omega) (by omega) v5 (afF_lt (B := B) pT) q0 (fun z => (by cases z)), fun z => (by cases z)⟩
          | none =>
            rw [er] at e
            dsimp only at e
            by_cases q4 : sm = 1
            · rw [if_pos q4] at e
              cases em : m4F (kdF B T p) with
              | none => rw [em] at e; cases e
              | some c =>
                rw [em] at e
                dsimp only at e
                obtain ⟨c1, c2, c3⟩ := m4_c em
                have pT : p < T := by
                  refine Classical.byContradiction (fun q => ?_)
                  rw [(kd_256 hTb).mpr (show T ≤ p by omega)] at c3
                  omega
                split at e
                · cases e
                · cases e
                  exact ⟨fun _ => iv_push (c := c) hv (by omega) (by omega) (by omega) (by show n + 1 ≤ 60; omega) (afF_lt (B := B) pT) q0 (fun z => (by cases z)), fun z => (by cases z)⟩
            · rw [if_neg q4] at e
              by_cases q5 : sm = 2
              · rw [if_pos q5] at e
                exact iv_beh hTb hp hv q0 e
              · rw [if_neg q5] at e
                obtain ⟨s1, s2, s3, s4, s5⟩ := sP_iv (b := 1) ws os v1 v2
                by_cases q6 : isW B T p 26982 = true
                · rw [if_pos q6] at e
                  have af1 := afF_lt (B := B) (kd_257 hTb (isW_257 q6)).1
                  cases e
                  exact ⟨fun _ => ⟨s1, s2, by show cn (sP 1 ws os).1 ≤ 10; omega, by show (sP 1 ws os).2.length + (sP 1 ws os).1.length + 2 * cl ≤ _; omega, v5, v6, fun _ => (Lo1_hd s1 s5).1, fun _ => v8 q0⟩, fun z => (by cases z)⟩
                · rw [if_neg q6] at e
                  by_cases q7 : kdF B T p = 256 ∨ kdF B T p = 59
                  · rw [if_pos q7] at e
                    unfold endF at e
                    cases e
                    have v9 := v8 q0
                    dsimp only
                    by_cases q8 : kdF B T p = 256
                    · rw [if_pos q8]
                      have pT := (kd_256 hTb).mp q8
                      exact ⟨fun z => (z rfl).elim, fun _ => by rw [List.length_append, List.length_singleton]; omega⟩
                    · rw [if_neg q8]
                      have k59 := q7.resolve_left q8
                      have pT := ((kd_59 hTb).mp k59).1
                      have af1 := afF_lt (B := B) pT
                      exact ⟨fun _ => ⟨s1, s2, by omega, by rw [List.length_append, List.length_singleton]; omega, v5, v6, fun z => (by cases z), fun z => (z rfl).elim⟩, fun z => (by cases z)⟩
                  · rw [if_neg q7] at e; cases e
        · rw [if_neg q3] at e
          exact iv_beh hTb hp hv q0 e
end AW
