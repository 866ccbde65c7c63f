section RX
variable {L d : Nat} {xs : Nat → Int32} {h h1 : xH} {Q : xQ} {p o n w t k : Nat} {x y z fo xx : Int32} {T : Nat} {tp : Nat → Int32} {R : List (List Cl)} {σ σ' : Sn} {u u' : Nat} {H H' : Nat → Nat → Int32} {ι : Nat → Option Sn} {s s' f g : Nat → Int32}
variable {B : Nat → Nat} {a b c e m q v W n' a' j sm cl b' st r : Nat} {ws os ws' os' : List Nat} {l : Nat} {cls cls' : List Cl}
theorem ruF_ok (hTb : ∀ i, i < T → B i < 256) (hT4 : T ≤ 400) : ∀ k c a n cls cls', c + k = 13 → c ≤ 12 → cls.length = c → a ≤ T → n ≤ 60 → clsOK cls → clsLen cls ≤ a → ruF B T k c a n cls = .ok cls' → clsOK cls' ∧ cls'.length ≤ 12 ∧ clsLen cls' ≤ T := by
  intro k
  induction k with
  | zero => intro c a n cls cls' h1' h2'; omega
  | succ k ih =>
    intro c a n cls cls' h1' h2' hl ha hn hok hlen e
    obtain ⟨n1, n2⟩ := nxB_le (B := B) ha
    rw [ruF_eq] at e
    cases el : cl1F B T c (nxB B T a) n with
    | error f => rw [el] at e; cases e
    | ok re =>
      obtain ⟨p, m, cc⟩ := re
      rw [el] at e
      obtain ⟨y1, y2, y3, y4, y5, y6, y7⟩ := cl1_ok hTb hT4 n2 hn el
      dsimp only at e
      rw [y6] at e
      have l1 : clsLen (cls ++ [cc]) = clsLen cls + clLen cc := by rw [clsLen_app]; rfl
      have l2 : (cls ++ [cc]).length = c + 1 := by rw [List.length_append, hl]; rfl
      have ok1 : clsOK (cls ++ [cc]) := clsOK_app.mpr ⟨hok, y7, trivial⟩
      by_cases q1 : kdF B T p = 59
      · rw [if_pos q1] at e
        have pT := ((kd_59 hTb).mp q1).1
        exact ih (c + 1) (p + 1) m (cls ++ [cc]) cls' (by omega) (by omega) l2 (by omega) y5 ok1 (by omega) e
      · rw [if_neg q1] at e
        by_cases q2 : kdF B T p = 256
        · rw [if_pos q2] at e
          cases e
          exact ⟨ok1, by omega, by omega⟩
        · rw [if_neg q2] at e; cases e
theorem CodeAt_of {f : Nat → Int32} : ∀ (s : List It) (j : Nat), (∀ (i : Nat) o, (s.map iC)[i]? = some o → f (j + i) = nI o) → CodeAt f iC j s
  | [], _, _ => trivial
  | a :: s, j, h => ⟨by have := h 0 (iC a) rfl; exact this, CodeAt_of s (j + 1) (fun i o hi => by have := h (i + 1) o hi; rw [show j + 1 + i = j + (i + 1) by omega]; exact this)⟩
theorem app_l {as bs : List Nat} {i o : Nat} (h : as[i]? = some o) : (as ++ bs)[i]? = some o := by
  have hl := (List.getElem?_eq_some_iff.mp h).1
  rw [List.getElem?_append_left hl]; exact h
theorem app_r {as bs : List Nat} {i o : Nat} (h : bs[i]? = some o) : (as ++ bs)[as.length + i]? = some o := by
  rw [List.getElem?_append_right (by omega), show as.length + i - as.length = i by omega]; exact h
theorem CodeC_of {f : Nat → Int32} : ∀ (cls : List Cl) (j : Nat), (∀ (i : Nat) o, (clsC cls)[i]? = some o → f (j + i) = nI o) → CodeC f j cls
  | [], _, _ => trivial
  | (s, none) :: cls, j, h => by
    have e : clsC ((s, none) :: cls) = s.map iC ++ ([26] ++ clsC cls) := by show s.map iC ++ [26] ++ clsC cls = _; rw [List.append_assoc]
    rw [e] at h
    refine ⟨CodeAt_of s j (fun i o hi => h i o (app_l hi)), ?_, CodeC_of cls _ (fun i o hi => ?_)⟩
    · have := h (s.map iC).length 26 (by have := app_r (as := s.map iC) (bs := [26] ++ clsC cls) (i := 0) (o := 26) rfl; exact this)
      rw [List.length_map] at this; exact this
    · have := h _ o (app_r (as := s.map iC) (app_r (as := [26]) hi))
      rw [List.length_map, List.length_singleton] at this
      rw [show j + s.length + 1 + i = j + (s.length + (1 + i)) by omega]; exact this
  | (s, some u) :: cls, j, h => by
    have e : clsC ((s, some u) :: cls) = s.map iC ++ (u.map iC ++ ([27] ++ clsC cls)) := by show s.map iC ++ u.map iC ++ [27] ++ clsC cls = _; simp only [List.append_assoc]
    rw [e] at h
    refine ⟨CodeAt_of s j (fun i o hi => h i o (app_l hi)), CodeAt_of u _ (fun i o hi => ?_), ?_, CodeC_of cls _ (fun i o hi => ?_)⟩
    · have := h _ o (app_r (as := s.map iC) (app_l hi))
      rw [List.length_map] at this
      rw [show j + s.length + i = j + (s.length + i) by omega]; exact this
    · have := h _ 27 (app_r (as := s.map iC) (app_r (as := u.map iC) (i := 0) (o := 27) (bs := [27] ++ clsC cls) rfl))
      rw [List.length_map, List.length_map] at this
      rw [show j + s.length + u.length = j + (s.length + (u.length + 0)) by omega]; exact this
    · have := h _ o (app_r (as := s.map iC) (app_r (as := u.map iC) (app_r (as := [27]) hi)))
      rw [List.length_map, List.length_map, List.length_singleton] at this
      rw [show j + s.length + u.length + 1 + i = j + (s.length + (u.length + (1 + i))) by omega]; exact this
theorem clsC_len : ∀ cls : List Cl, (clsC cls).length = clsLen cls
  | [] => rfl
  | (s, none) :: cls => by
    show (s.map iC ++ [26] ++ clsC cls).length = s.length + 1 + clsLen cls
    rw [List.length_append, List.length_append, List.length_map, List.length_singleton, clsC_len cls]
  | (s, some u) :: cls => by
    show (s.map iC ++ u.map iC ++ [27] ++ clsC cls).length = s.length + u.length + 1 + clsLen cls
    rw [List.length_append, List.length_append, List.length_append, List.length_map, List.length_map, List.length_singleton, clsC_len cls]
theorem iC_11 (i : It) (hi : iOk i) : d11 (iC i) = match i with
    | .inl (.inr k) => decide (k = 11)
    | _ => false := by
  rcases i with (v | k) | (u | k)
  · exact decide_eq_false (by show ¬ 32 + v = 11; omega)
  · rfl
  · rfl
  · obtain ⟨c1, c2, c3⟩ := cOp_b k hi
    exact decide_eq_false (by show ¬ cOp k = 11; omega)
theorem itDay_any : ∀ s : List It, iOks s → (s.map iC).any d11 = itDay s
  | [], _ => rfl
  | .inl (.inl v) :: s, h => by rw [List.map_cons, List.any_cons, iC_11 _ h.1, itDay_any s h.2]; rfl
  | .inl (.inr k) :: s, h => by rw [List.map_cons, List.any_cons, iC_11 _ h.1, itDay_any s h.2]; rfl
  | .inr (.inl u) :: s, h => by rw [List.map_cons, List.any_cons, iC_11 _ h.1, itDay_any s h.2]; rfl
  | .inr (.inr k) :: s, h => by rw [List.map_cons, List.any_cons, iC_11 _ h.1, itDay_any s h.2]; rfl
theorem clsDay_any : ∀ cls : List Cl, clsOK cls → (clsC cls).any d11 = clsDay cls
  | [], _ => rfl
  | (s, none) :: cls, h => by
    show (s.map iC ++ [26] ++ clsC cls).any d11 = (itDay s || clsDay cls)
    rw [List.any_append, List.any_append, itDay_any s h.1.1, clsDay_any cls h.2]
    rw [show [26].any d11 = false from rfl, Bool.or_false]
  | (s, some u) :: cls, h => by
    show (s.map iC ++ u.map iC ++ [27] ++ clsC cls).any d11 = (itDay s || itDay u || clsDay cls)
    rw [List.any_append, List.any_append, List.any_append, itDay_any s h.1.1, itDay_any u h.1.2.2.1, clsDay_any cls h.2]
    rw [show [27].any d11 = false from rfl, Bool.or_false]
theorem iC_lt (i : It) (hi : iOk i) : iC i < 200000 := by
  rcases i with (v | k) | (u | k)
  · have : v < 100000 := hi
    show 32 + v < 200000; omega
  · have : k < 12 := hi
    show k < 200000; omega
  · show 22 < 200000; decide
  · obtain ⟨c1, c2, c3⟩ := cOp_b k hi
    show cOp k < 200000; omega
theorem its_lt : ∀ s : List It, iOks s → ∀ o ∈ s.map iC, o < 200000
  | [], _, o, h => by cases h
  | a :: s, hk, o, h => by
    rw [List.map_cons] at h
    cases h with
    | head => exact iC_lt a hk.1
    | tail _ y => exact its_lt s hk.2 o y
theorem cls_lt : ∀ cls : List Cl, clsOK cls → ∀ o ∈ clsC cls, o < 200000
  | [], _, o, h => by cases h
  | (s, none) :: cls, hk, o, h => by
    have h' : o ∈ s.map iC ++ [26] ++ clsC cls := h
    rw [List.mem_append, List.mem_append, List.mem_singleton] at h'
    rcases h' with (h' | h') | h'
    · exact its_lt s hk.1.1 o h'
    · omega
    · exact cls_lt cls hk.2 o h'
  | (s, some u) :: cls, hk, o, h => by
    have h' : o ∈ s.map iC ++ u.map iC ++ [27] ++ clsC cls := h
    rw [List.mem_append, List.mem_append, List.mem_append, List.mem_singleton] at h'
    rcases h' with ((h' | h') | h') | h'
    · exact its_lt s hk.1.1 o h'
    · exact its_lt u hk.1.2.2.1 o h'
    · omega
    · exact cls_lt cls hk.2 o h'
theorem itN_le : ∀ cls : List Cl, itN cls ≤ clsLen cls
  | [] => Nat.le_refl _
  | c :: cls => by
    have := itN_le cls
    show clLen c - 1 + itN cls ≤ clLen c + clsLen cls
    omega
/-- the earlier rules stay -/
theorem FE.rr (hf : FE t h h1) {i : Nat} (hi : i < t) (hr : RuleR h i cls) : RuleR h1 i cls := by
  obtain ⟨r1, r2, r3, r4, r5, r6⟩ := hr
  have l1 := itN_le cls
  exact ⟨r1, r2, by rw [hf.2.2.2 i (by omega)]; exact r3, r4.eq (fun k hk => hf.2.1 k (by omega)) (fun k hk => hf.2.2.1 k (by omega)), r5, r6⟩
theorem SInv.up {R : Nat} (hs : SInv R σ) : SInv (R + 1) σ := by
  obtain ⟨n, k, e, b1, b2, b3, b4, b5, b6, b7, b8, b9⟩ := hs
  exact ⟨n, k, e, b1, b2, b3, b4, b5, b6, b7, b8.imp id (fun ⟨j, j1, j2⟩ => ⟨j, by omega, j2⟩), b9⟩
end RX
