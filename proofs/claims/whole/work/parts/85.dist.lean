section DI
variable {n N e hd k m : Nat} {wd : Nat → Nat → Bool} {E : Nat → Nat → Prop} {F G : Nat → Option Nat} {gs : List (Nat × Nat)} {st : (Nat → Option Nat) × List Nat}
/-! how far it is: a function that says so is the only one -/
def Dis (E : Nat → Nat → Prop) (N e : Nat) (F : Nat → Option Nat) : Prop := F e = some 0 ∧ (∀ v, v < N → F v = some 0 → v = e) ∧ (∀ v k, v < N → F v = some (k + 1) → ∃ u, u < N ∧ E v u ∧ F u = some k) ∧ ∀ v u k, v < N → u < N → E v u → F u = some k → ∃ j, j ≤ k + 1 ∧ F v = some j
theorem Dis.le (hf : Dis E N e F) (hg : Dis E N e G) : ∀ k v, v < N → F v = some k → ∃ j, j ≤ k ∧ G v = some j := by
  intro k
  induction k with
  | zero =>
    intro v hv h1
    rw [hf.2.1 v hv h1]
    exact ⟨0, Nat.le_refl _, hg.1⟩
  | succ k ih =>
    intro v hv h1
    obtain ⟨u, hu, he, h2⟩ := hf.2.2.1 v k hv h1
    obtain ⟨j, hj, h3⟩ := ih u hu h2
    obtain ⟨i, hi, h4⟩ := hg.2.2.2 v u j hv hu he h3
    exact ⟨i, by omega, h4⟩
theorem Dis.eq (hf : Dis E N e F) (hg : Dis E N e G) {v : Nat} (hv : v < N) : F v = G v := by
  cases h1 : F v with
  | none =>
    cases h2 : G v with
    | none => rfl
    | some j =>
      obtain ⟨i, -, h3⟩ := hg.le hf j v hv h2
      rw [h1] at h3; cases h3
  | some k =>
    obtain ⟨j, hj, h2⟩ := hf.le hg k v hv h1
    obtain ⟨i, hi, h3⟩ := hg.le hf j v hv h2
    rw [h1] at h3; cases h3
    rw [h2, show j = k by omega]
/-- goings: both bits; whether both are on one side -/
def bo (g : Nat × Nat) : Nat := 2 ^ g.1 ||| 2 ^ g.2
def tog (v : Nat) (g : Nat × Nat) : Bool := decide (v >>> g.1 % 2 = v >>> g.2 % 2)
def Eg (wd : Nat → Nat → Bool) (n v u : Nat) : Prop := ∃ p o, p ≤ o ∧ o < n ∧ wd p o = true ∧ tog v (p, o) = true ∧ u = v ^^^ bo (p, o)
theorem bt_5 : ∀ v, v < 64 → ∀ p, p < 6 → ∀ o, o < 6 → v >>> p % 2 = v >>> o % 2 → (v ^^^ (2 ^ p ||| 2 ^ o)) >>> p % 2 = (v ^^^ (2 ^ p ||| 2 ^ o)) >>> o % 2 := by decide +kernel
theorem bo_lt {p o : Nat} (hp : p < n) (ho : o < n) : bo (p, o) < 2 ^ n := Nat.or_lt_two_pow (Nat.pow_lt_pow_right (by decide) hp) (Nat.pow_lt_pow_right (by decide) ho)
theorem p64 (n6 : n ≤ 6) : 2 ^ n ≤ 64 := by
  have : n = 0 ∨ n = 1 ∨ n = 2 ∨ n = 3 ∨ n = 4 ∨ n = 5 ∨ n = 6 := by omega
  rcases this with rfl | rfl | rfl | rfl | rfl | rfl | rfl <;> decide
theorem Eg.sy {v u : Nat} (n6 : n ≤ 6) (hv : v < 2 ^ n) (h : Eg wd n v u) : Eg wd n u v ∧ u < 2 ^ n := by
  obtain ⟨p, o, h1, h2, h3, h4, rfl⟩ := h
  have h64 := p64 n6
  refine ⟨⟨p, o, h1, h2, h3, ?_, ?_⟩, Nat.xor_lt_two_pow hv (bo_lt (by omega) h2)⟩
  · exact decide_eq_true (bt_5 v (by omega) p (by omega) o (by omega) (of_decide_eq_true h4))
  · rw [Nat.xor_assoc, Nat.xor_self, Nat.xor_zero]
def upO (F : Nat → Option Nat) (v : Nat) (x : Option Nat) : Nat → Option Nat := fun i => if i = v then x else F i
theorem upO_eq {v : Nat} {x : Option Nat} : upO F v x v = x := if_pos rfl
theorem upO_ne {v i : Nat} {x : Option Nat} (h : i ≠ v) : upO F v x i = F i := if_neg h
theorem cnt_up {f g : Nat → Bool} {t : Nat} (h1 : f t = false) (h2 : g t = true) (h3 : ∀ i, i ≠ t → g i = f i) : ∀ k i, i ≤ t → t < i + k → cntF g i k = cntF f i k + 1 := by
  have same : ∀ k i, t < i → cntF g i k = cntF f i k := by
    intro k
    induction k with
    | zero => intro i _; rfl
    | succ k ih => intro i hi; rw [cntF, cntF, ih (i + 1) (by omega), h3 i (by omega)]
  intro k
  induction k with
  | zero => intro i h4 h5; omega
  | succ k ih =>
    intro i h4 h5
    rw [cntF, cntF]
    by_cases q : i = t
    · subst q
      rw [same k (i + 1) (by omega), h1, h2, if_pos rfl, if_neg (by decide)]; omega
    · rw [ih (i + 1) (by omega) (by omega), h3 i q]; omega
/-- the class's search: how far, the row of those found -/
def bS (gs : List (Nat × Nat)) (v k : Nat) : Nat → (Nat → Option Nat) × List Nat → (Nat → Option Nat) × List Nat := fun i st => if tog v (gs.getD i (0, 0)) = true ∧ st.1 (v ^^^ bo (gs.getD i (0, 0))) = none then (upO st.1 (v ^^^ bo (gs.getD i (0, 0))) (some (k + 1)), st.2 ++ [v ^^^ bo (gs.getD i (0, 0))]) else st
def dv (st : (Nat → Option Nat) × List Nat) (v : Nat) : Nat := (st.1 v).getD 0
def bO (gs : List (Nat × Nat)) : Nat → Nat → (Nat → Option Nat) × List Nat → (Nat → Option Nat) × List Nat
  | 0, _, st => st
  | f + 1, hd, st => if hd < st.2.length then bO gs f (hd + 1) (forF (bS gs (st.2.getD hd 0) (dv st (st.2.getD hd 0))) 0 gs.length st) else st
def GsOK (wd : Nat → Nat → Bool) (n : Nat) (gs : List (Nat × Nat)) : Prop := ∀ g, g ∈ gs ↔ (g.1 ≤ g.2 ∧ g.2 < n ∧ wd g.1 g.2 = true)
/-- what holds while the search is at hd -/
def BI (wd : Nat → Nat → Bool) (n : Nat) (st : (Nat → Option Nat) × List Nat) (hd : Nat) : Prop :=
  (∀ v k, st.1 v = some k → k < st.2.length) ∧ st.2.length = cntF (fun v => (st.1 v).isSome) 0 64 ∧ (∀ i, i < st.2.length → st.2.getD i 0 < 2 ^ n ∧ ∃ k, st.1 (st.2.getD i 0) = some k) ∧ (∀ v k, v < 64 → st.1 v = some k → ∃ i, i < st.2.length ∧ st.2.getD i 0 = v) ∧
  (st.1 (2 ^ n - 1) = some 0 ∧ (∀ v, v < 2 ^ n → st.1 v = some 0 → v = 2 ^ n - 1) ∧ ∀ v k, v < 2 ^ n → st.1 v = some (k + 1) → ∃ u, u < 2 ^ n ∧ Eg wd n v u ∧ st.1 u = some k) ∧
  (∀ i j, i ≤ j → j < st.2.length → dv st (st.2.getD i 0) ≤ dv st (st.2.getD j 0)) ∧ (∀ j, hd < st.2.length → j < st.2.length → dv st (st.2.getD j 0) ≤ dv st (st.2.getD hd 0) + 1) ∧
  ∀ i, i < hd → i < st.2.length → ∀ u, Eg wd n (st.2.getD i 0) u → ∃ j, j ≤ dv st (st.2.getD i 0) + 1 ∧ st.1 u = some j
theorem getD_ap {q : List Nat} {x i : Nat} (hi : i < q.length) : (q ++ [x]).getD i 0 = q.getD i 0 := by
  rw [List.getD_eq_getElem?_getD, List.getD_eq_getElem?_getD, List.getElem?_append_left hi]
theorem getD_al {q : List Nat} {x : Nat} : (q ++ [x]).getD q.length 0 = x := by simp
theorem bS_ok {w kv : Nat} (n6 : n ≤ 6) (hgs : GsOK wd n gs) {i : Nat} (hi : i < gs.length) (hh : hd < st.2.length) (hw : st.2.getD hd 0 = w) (hkv : st.1 w = some kv) (hB : BI wd n st hd) : BI wd n (bS gs w kv i st) hd ∧ (hd < (bS gs w kv i st).2.length ∧ (bS gs w kv i st).2.getD hd 0 = w) ∧ (∀ v k, st.1 v = some k → (bS gs w kv i st).1 v = some k) ∧ (tog w (gs.getD i (0, 0)) = true → ∃ j, j ≤ kv + 1 ∧ (bS gs w kv i st).1 (w ^^^ bo (gs.getD i (0, 0))) = some j) := by
  have h64 := p64 n6
  obtain ⟨c0, c1, c2, c3, ⟨c4, c5, c6⟩, c7, c8, c9⟩ := id hB
  have hmem : gs.getD i (0, 0) ∈ gs := by rw [List.getD_eq_getElem?_getD, List.getElem?_eq_getElem hi]; exact List.getElem_mem hi
  obtain ⟨g1, g2, g3⟩ := (hgs _).mp hmem
  unfold bS
  generalize gs.getD i (0, 0) = g at g1 g2 g3 ⊢
  have hv : w < 2 ^ n := by rw [← hw]; exact (c2 hd hh).1
  have hdv : dv st w = kv := by unfold dv; rw [hkv]; rfl
  have hto : w ^^^ bo g < 2 ^ n := Nat.xor_lt_two_pow hv (bo_lt (by omega) g2)
  by_cases q : tog w g = true ∧ st.1 (w ^^^ bo g) = none
  · rw [if_pos q]
    obtain ⟨q1, q2⟩ := q
    have eat : Eg wd n w (w ^^^ bo g) := ⟨g.1, g.2, g1, g2, g3, q1, rfl⟩
    have eta := (Eg.sy n6 hv eat).1
    revert hto q2 eta
    generalize w ^^^ bo g = t
    intro hto q2 eta
    have keep : ∀ v k, st.1 v = some k → upO st.1 t (some (kv + 1)) v = some k := fun v k h => by
      have : v ≠ t := fun e => by rw [e, q2] at h; cases h
      rw [upO_ne this]; exact h
    have kdv : ∀ i, i < st.2.length → dv (upO st.1 t (some (kv + 1)), st.2 ++ [t]) (st.2.getD i 0) = dv st (st.2.getD i 0) := by
      intro i hi
      obtain ⟨-, k, hk⟩ := c2 i hi
      show (upO st.1 t (some (kv + 1)) (st.2.getD i 0)).getD 0 = (st.1 (st.2.getD i 0)).getD 0
      rw [keep _ _ hk, hk]
    have tdv : dv (upO st.1 t (some (kv + 1)), st.2 ++ [t]) t = kv + 1 := by
      show (upO st.1 t (some (kv + 1)) t).getD 0 = kv + 1
      rw [upO_eq]; rfl
    have hlen : (st.2 ++ [t]).length = st.2.length + 1 := by simp
    have c8' : ∀ i, i < st.2.length → dv st (st.2.getD i 0) ≤ kv + 1 := fun i hi => by
      have := c8 i hh hi
      rw [hw, hdv] at this; exact this
    refine ⟨⟨?_, ?_, ?_, ?_, ⟨keep _ _ c4, ?_, ?_⟩, ?_, ?_, ?_⟩, ⟨?_, ?_⟩, keep, fun _ => ⟨kv + 1, Nat.le_refl _, upO_eq⟩⟩
    · intro v k hk
      have hk' : upO st.1 t (some (kv + 1)) v = some k := hk
      show k < (st.2 ++ [t]).length
      rw [hlen]
      by_cases e : v = t
      · subst e
        rw [upO_eq] at hk'
        cases hk'
        have := c0 w kv hkv
        omega
      · rw [upO_ne e] at hk'
        have := c0 v k hk'
        omega
    · show (st.2 ++ [t]).length = cntF (fun v => (upO st.1 t (some (kv + 1)) v).isSome) 0 64
      rw [hlen, c1]
      refine (cnt_up (t := t) ?_ ?_ ?_ 64 0 (Nat.zero_le _) (by omega)).symm
      · show (st.1 t).isSome = false; rw [q2]; rfl
      · show (upO st.1 t (some (kv + 1)) t).isSome = true; rw [upO_eq]; rfl
      · intro i hi; show (upO st.1 t (some (kv + 1)) i).isSome = (st.1 i).isSome; rw [upO_ne hi]
    · intro i hi
      have hi' : i < st.2.length + 1 := hlen ▸ hi
      by_cases e : i = st.2.length
      · subst e
        show (st.2 ++ [t]).getD st.2.length 0 < 2 ^ n ∧ ∃ k, upO st.1 t (some (kv + 1)) ((st.2 ++ [t]).getD st.2.length 0) = some k
        rw [getD_al]; exact ⟨hto, kv + 1, upO_eq⟩
      · show (st.2 ++ [t]).getD i 0 < 2 ^ n ∧ ∃ k, upO st.1 t (some (kv + 1)) ((st.2 ++ [t]).getD i 0) = some k
        rw [getD_ap (by omega)]
        obtain ⟨a, k, b⟩ := c2 i (by omega)
        exact ⟨a, k, keep _ _ b⟩
    · intro v k hv hk
      by_cases e : v = t
      · subst e; exact ⟨st.2.length, by show _ < (st.2 ++ [v]).length; rw [hlen]; omega, getD_al⟩
      · have hk' : st.1 v = some k := by
          have : upO st.1 t (some (kv + 1)) v = some k := hk
          rw [upO_ne e] at this; exact this
        obtain ⟨i, hi, e2⟩ := c3 v k hv hk'
        exact ⟨i, by show _ < (st.2 ++ [t]).length; rw [hlen]; omega, (getD_ap hi).trans e2⟩
    · intro v hv h0
      have h0' : upO st.1 t (some (kv + 1)) v = some 0 := h0
      by_cases e : v = t
      · subst e; rw [upO_eq] at h0'; cases h0'
      · rw [upO_ne e] at h0'; exact c5 v hv h0'
    · intro v k hv' hk
      have hk' : upO st.1 t (some (kv + 1)) v = some (k + 1) := hk
      by_cases e : v = t
      · subst e
        rw [upO_eq] at hk'
        cases hk'
        exact ⟨w, hv, eta, keep _ _ hkv⟩
      · rw [upO_ne e] at hk'
        obtain ⟨u, hu, he, h2⟩ := c6 v k hv' hk'
        exact ⟨u, hu, he, keep _ _ h2⟩
    · intro i j hij hj
      have hj' : j < st.2.length + 1 := hlen ▸ hj
      show dv (upO st.1 t (some (kv + 1)), st.2 ++ [t]) ((st.2 ++ [t]).getD i 0) ≤ dv (upO st.1 t (some (kv + 1)), st.2 ++ [t]) ((st.2 ++ [t]).getD j 0)
      by_cases e : j = st.2.length
      · subst e
        rw [getD_al, tdv]
        by_cases e2 : i = st.2.length
        · subst e2; rw [getD_al, tdv]; exact Nat.le_refl _
        · rw [getD_ap (by omega), kdv i (by omega)]; exact c8' i (by omega)
      · rw [getD_ap (by omega), getD_ap (by omega), kdv i (by omega), kdv j (by omega)]
        exact c7 i j hij (by omega)
    · intro j _ hj
      have hj' : j < st.2.length + 1 := hlen ▸ hj
      show dv (upO st.1 t (some (kv + 1)), st.2 ++ [t]) ((st.2 ++ [t]).getD j 0) ≤ dv (upO st.1 t (some (kv + 1)), st.2 ++ [t]) ((st.2 ++ [t]).getD hd 0) + 1
      rw [getD_ap hh, kdv hd hh, hw, hdv]
      by_cases e : j = st.2.length
      · subst e; rw [getD_al, tdv]; exact Nat.le_refl _
      · rw [getD_ap (by omega), kdv j (by omega)]; exact c8' j (by omega)
    · intro i hi hi2 u hu
      have hu' : Eg wd n ((st.2 ++ [t]).getD i 0) u := hu
      show ∃ j, j ≤ dv (upO st.1 t (some (kv + 1)), st.2 ++ [t]) ((st.2 ++ [t]).getD i 0) + 1 ∧ upO st.1 t (some (kv + 1)) u = some j
      rw [getD_ap (by omega)] at hu' ⊢
      rw [kdv i (by omega)]
      obtain ⟨j, hj, h⟩ := c9 i hi (by omega) u hu'
      exact ⟨j, hj, keep _ _ h⟩
    · show hd < (st.2 ++ [t]).length; rw [hlen]; omega
    · exact (getD_ap hh).trans hw
  · rw [if_neg q]
    refine ⟨hB, ⟨hh, hw⟩, fun _ _ h => h, fun ht => ?_⟩
    cases h1 : st.1 (w ^^^ bo g) with
    | none => exact absurd ⟨ht, h1⟩ q
    | some j =>
      obtain ⟨i, hi, e⟩ := c3 _ j (by omega) h1
      have := c8 i hh hi
      rw [e, hw, hdv] at this
      unfold dv at this
      rw [h1] at this
      exact ⟨j, this, rfl⟩
theorem bF_ok {w kv : Nat} (n6 : n ≤ 6) (hgs : GsOK wd n gs) : ∀ j i st, i + j = gs.length → hd < st.2.length → st.2.getD hd 0 = w → st.1 w = some kv → BI wd n st hd → (∀ i', i' < i → tog w (gs.getD i' (0, 0)) = true → ∃ a, a ≤ kv + 1 ∧ st.1 (w ^^^ bo (gs.getD i' (0, 0))) = some a) → BI wd n (forF (bS gs w kv) i j st) hd ∧ hd < (forF (bS gs w kv) i j st).2.length ∧ (forF (bS gs w kv) i j st).2.getD hd 0 = w ∧ (forF (bS gs w kv) i j st).1 w = some kv ∧ ∀ i', i' < gs.length → tog w (gs.getD i' (0, 0)) = true → ∃ a, a ≤ kv + 1 ∧ (forF (bS gs w kv) i j st).1 (w ^^^ bo (gs.getD i' (0, 0))) = some a := by
  intro j
  induction j with
  | zero =>
    intro i st hi hh hw hk hB hg
    obtain rfl : i = gs.length := by omega
    exact ⟨hB, hh, hw, hk, hg⟩
  | succ j ih =>
    intro i st hi hh hw hk hB hg
    rw [forF]
    obtain ⟨b1, ⟨b2, b3⟩, b4, b5⟩ := bS_ok n6 hgs (show i < gs.length by omega) hh hw hk hB
    refine ih (i + 1) _ (by omega) b2 b3 (b4 _ _ hk) b1 (fun i' hi' ht => ?_)
    by_cases e : i' = i
    · subst e; exact b5 ht
    · obtain ⟨a, h1, h2⟩ := hg i' (by omega) ht
      exact ⟨a, h1, b4 _ _ h2⟩
theorem BI.next {w kv : Nat} (hgs : GsOK wd n gs) (hh : hd < st.2.length) (hw : st.2.getD hd 0 = w) (hk : st.1 w = some kv) (hB : BI wd n st hd) (hg : ∀ i', i' < gs.length → tog w (gs.getD i' (0, 0)) = true → ∃ a, a ≤ kv + 1 ∧ st.1 (w ^^^ bo (gs.getD i' (0, 0))) = some a) : BI wd n st (hd + 1) := by
  obtain ⟨c0, c1, c2, c3, c4, c7, c8, c9⟩ := hB
  have hdv : dv st w = kv := by unfold dv; rw [hk]; rfl
  refine ⟨c0, c1, c2, c3, c4, c7, fun j h1 h2 => ?_, fun i h1 h2 u hu => ?_⟩
  · have a1 := c8 j hh h2
    have a2 := c7 hd (hd + 1) (by omega) h1
    omega
  · by_cases e : i = hd
    · subst e
      rw [hw] at hu ⊢
      obtain ⟨p, o, h3, h4, h5, h6, rfl⟩ := hu
      obtain ⟨i', hi', e'⟩ := List.mem_iff_getElem.mp ((hgs (p, o)).mpr ⟨h3, h4, h5⟩)
      have eg : gs.getD i' (0, 0) = (p, o) := by rw [List.getD_eq_getElem?_getD, List.getElem?_eq_getElem hi']; exact e'
      have := hg i' hi'
      rw [eg] at this
      rw [hdv]; exact this h6
    · exact c9 i (by omega) h2 u hu
theorem BI.dis (n6 : n ≤ 6) (hB : BI wd n st hd) (hh : st.2.length ≤ hd) : Dis (Eg wd n) (2 ^ n) (2 ^ n - 1) st.1 := by
  have h64 := p64 n6
  obtain ⟨c0, c1, c2, c3, ⟨c4, c5, c6⟩, c7, c8, c9⟩ := hB
  refine ⟨c4, c5, c6, fun v u k hv hu he hk => ?_⟩
  obtain ⟨i, hi, e⟩ := c3 u k (by omega) hk
  obtain ⟨he2, -⟩ := Eg.sy n6 hv he
  have := c9 i (by omega) hi v (by rw [e]; exact he2)
  rw [e] at this
  unfold dv at this
  rw [hk] at this
  exact this
theorem BI.len (hB : BI wd n st hd) : st.2.length ≤ 64 := by rw [hB.2.1]; exact cnt_le 64 0
theorem bO_ok (n6 : n ≤ 6) (hgs : GsOK wd n gs) : ∀ f hd st, BI wd n st hd → 64 ≤ hd + f → Dis (Eg wd n) (2 ^ n) (2 ^ n - 1) (bO gs f hd st).1 := by
  intro f
  induction f with
  | zero => intro hd st hB hf; rw [bO]; exact hB.dis n6 (by have := hB.len; omega)
  | succ f ih =>
    intro hd st hB hf
    rw [bO]
    split
    · rename_i hh
      obtain ⟨-, kv, hkv⟩ := hB.2.2.1 hd hh
      have hdv : dv st (st.2.getD hd 0) = kv := by unfold dv; rw [hkv]; rfl
      rw [hdv]
      obtain ⟨b1, b2, b3, b4, b5⟩ := bF_ok n6 hgs gs.length 0 st (Nat.zero_add _) hh rfl hkv hB (fun i' h => absurd h (Nat.not_lt_zero _))
      exact ih (hd + 1) _ (b1.next hgs b2 b3 b4 b5) (by omega)
    · rename_i hh
      exact hB.dis n6 (by omega)
def bI0 (n : Nat) : (Nat → Option Nat) × List Nat := (upO (fun _ => none) (2 ^ n - 1) (some 0), [2 ^ n - 1])
theorem bI0_ok (n6 : n ≤ 6) : BI wd n (bI0 n) 0 := by
  have h64 := p64 n6
  have h0 : 0 < 2 ^ n := Nat.two_pow_pos n
  refine ⟨?_, ?_, ?_, ?_, ⟨if_pos rfl, ?_, ?_⟩, ?_, ?_, fun i h => absurd h (Nat.not_lt_zero _)⟩
  · intro v k hk
    have hk' : upO (fun _ => none) (2 ^ n - 1) (some 0) v = some k := hk
    show k < 1
    by_cases e : v = 2 ^ n - 1
    · subst e; rw [upO_eq] at hk'; cases hk'; decide
    · rw [upO_ne e] at hk'; cases hk'
  · show 1 = cntF (fun v => (upO (fun _ => none) (2 ^ n - 1) (some 0) v).isSome) 0 64
    have e0 : cntF (fun _ => false) 0 64 = 0 := (cnt_0 64 0).mpr (fun _ _ _ => rfl)
    have := cnt_up (f := fun _ => false) (g := fun v => (upO (fun _ => none) (2 ^ n - 1) (some 0) v).isSome) (t := 2 ^ n - 1) rfl (by show (upO (fun _ => none) (2 ^ n - 1) (some 0) (2 ^ n - 1)).isSome = true; rw [upO_eq]; rfl) (fun i hi => by show (upO (fun _ => none) (2 ^ n - 1) (some 0) i).isSome = false; rw [upO_ne hi]; rfl) 64 0 (Nat.zero_le _) (by omega)
    rw [this, e0]
  · intro i hi
    obtain rfl : i = 0 := by have : i < 1 := hi; omega
    exact ⟨by show 2 ^ n - 1 < 2 ^ n; omega, 0, if_pos rfl⟩
  · intro v k hv hk
    have hk' : upO (fun _ => none) (2 ^ n - 1) (some 0) v = some k := hk
    by_cases e : v = 2 ^ n - 1
    · exact ⟨0, Nat.zero_lt_one, e.symm⟩
    · rw [upO_ne e] at hk'; cases hk'
  · intro v hv h1
    have h1' : upO (fun _ => none) (2 ^ n - 1) (some 0) v = some 0 := h1
    by_cases e : v = 2 ^ n - 1
    · exact e
    · rw [upO_ne e] at h1'; cases h1'
  · intro v k hv hk
    have hk' : upO (fun _ => none) (2 ^ n - 1) (some 0) v = some (k + 1) := hk
    by_cases e : v = 2 ^ n - 1
    · subst e; rw [upO_eq] at hk'; cases hk'
    · rw [upO_ne e] at hk'; cases hk'
  · intro i j hij hj
    obtain rfl : j = 0 := by have : j < 1 := hj; omega
    obtain rfl : i = 0 := by omega
    exact Nat.le_refl _
  · intro j _ hj
    obtain rfl : j = 0 := by have : j < 1 := hj; omega
    omega
def farF (gs : List (Nat × Nat)) (n : Nat) : Nat → Option Nat := (bO gs 64 0 (bI0 n)).1
theorem farF_ok (n6 : n ≤ 6) (hgs : GsOK wd n gs) : Dis (Eg wd n) (2 ^ n) (2 ^ n - 1) (farF gs n) := bO_ok n6 hgs 64 0 _ (bI0_ok n6) (by omega)
end DI
