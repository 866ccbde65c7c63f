theorem xwd_tbl {q : Nat} {w : Cond} (h : xwd q = some w) : w ∈ lw_tbl := by
  unfold xwd at h
  have key : ∀ {L : List Cond} {i : Nat}, L[i]? = some w → w ∈ L := fun h => List.mem_of_getElem? h
  unfold lw_tbl tables_1
  simp only [List.mem_append]
  split at h
  · exact Or.inl (key h)
  · exact Or.inr (Or.inl (key h))
  · exact Or.inr (Or.inr (Or.inl (key h)))
  · exact Or.inr (Or.inr (Or.inr (Or.inl (key h))))
  · exact Or.inr (Or.inr (Or.inr (Or.inr (Or.inl (key h)))))
  · exact Or.inr (Or.inr (Or.inr (Or.inr (Or.inr (Or.inl (key h))))))
  · exact Or.inr (Or.inr (Or.inr (Or.inr (Or.inr (Or.inr (Or.inl (key h)))))))
  · exact Or.inr (Or.inr (Or.inr (Or.inr (Or.inr (Or.inr (Or.inr (Or.inl (key h))))))))
  · exact Or.inr (Or.inr (Or.inr (Or.inr (Or.inr (Or.inr (Or.inr (Or.inr (key h))))))))
  · cases h
def h00 : xH := (0, fun _ => (.inr 0, 0), fun _ _ => 0, fun _ _ => 0, fun _ _ => none)
/-- the law, on the pure machine: it ends, with 1, within the room -/
def PureLaw : Prop := ∀ (L : Nat) (xs : Nat → Int32), L ≤ 3072 → ∃ (d n : Nat) (h' : xH), d + 1 ≤ 1300 ∧ h'.1 ≤ 600000 ∧ xsl h' ≤ 7302250 ∧ ev (pG L xs) (Call (pG L xs) pM d) bL (some .boolean) (xeq (some (.int 1)) h') n (bL 0) [some (.float 0), none, none, none] [] h00
theorem kbLa : ∀ t, t < 38 → xbk pOL code (qL t) (bL t) = true
  | 0, _ => kbL0
  | 1, _ => kbL1
  | 2, _ => kbL2
  | 3, _ => kbL3
  | 4, _ => kbL4
  | 5, _ => kbL5
  | 6, _ => kbL6
  | 7, _ => kbL7
  | 8, _ => kbL8
  | 9, _ => kbL9
  | 10, _ => kbL10
  | 11, _ => kbL11
  | 12, _ => kbL12
  | 13, _ => kbL13
  | 14, _ => kbL14
  | 15, _ => kbL15
  | 16, _ => kbL16
  | 17, _ => kbL17
  | 18, _ => kbL18
  | 19, _ => kbL19
  | 20, _ => kbL20
  | 21, _ => kbL21
  | 22, _ => kbL22
  | 23, _ => kbL23
  | 24, _ => kbL24
  | 25, _ => kbL25
  | 26, _ => kbL26
  | 27, _ => kbL27
  | 28, _ => kbL28
  | 29, _ => kbL29
  | 30, _ => kbL30
  | 31, _ => kbL31
  | 32, _ => kbL32
  | 33, _ => kbL33
  | 34, _ => kbL34
  | 35, _ => kbL35
  | 36, _ => kbL36
  | 37, _ => kbL37
  | k + 38, h => absurd h (by omega)
theorem start_classes {s : State} {args : Array Value} (hts : ∀ w ∈ pT, w.before args s = true) : ∃ D : va_G, ∀ (c : Nat) (q : vw_C), pcl[c]? = some q → u_Kn s q.1 q.2.1 q.2.2 (D.1 c) (D.2 c) := by
  have h : ∀ c : Nat, ∃ z : ClassId × (Nat → Nat), ∀ q : vw_C, pcl[c]? = some q → u_Kn s q.1 q.2.1 q.2.2 z.1 z.2 := by
    intro c
    match c with
    | 0 =>
      obtain ⟨a, b, hk⟩ := u_known (C := "RankFord$Days") (T := pC0) (N := 2) (n := 2) hts pcw0 (hts _ pci0)
      exact ⟨(a, b), fun q hq => by cases hq; exact hk⟩
    | 1 =>
      obtain ⟨a, b, hk⟩ := u_known (C := "RankFord$FordReader") (T := pC1) (N := 3) (n := 3) hts pcw1 (hts _ pci1)
      exact ⟨(a, b), fun q hq => by cases hq; exact hk⟩
    | 2 =>
      obtain ⟨a, b, hk⟩ := u_known (C := "RankFord$Guess") (T := pC2) (N := 5) (n := 5) hts pcw2 (hts _ pci2)
      exact ⟨(a, b), fun q hq => by cases hq; exact hk⟩
    | 3 =>
      obtain ⟨a, b, hk⟩ := u_known (C := "RankFord$History") (T := pC3) (N := 3) (n := 3) hts pcw3 (hts _ pci3)
      exact ⟨(a, b), fun q hq => by cases hq; exact hk⟩
    | 4 =>
      obtain ⟨a, b, hk⟩ := u_known (C := "RankFord$Plans") (T := pC4) (N := 9) (n := 9) hts pcw4 (hts _ pci4)
      exact ⟨(a, b), fun q hq => by cases hq; exact hk⟩
    | 5 =>
      obtain ⟨a, b, hk⟩ := u_known (C := "RankFord$Rule") (T := pC5) (N := 3) (n := 3) hts pcw5 (hts _ pci5)
      exact ⟨(a, b), fun q hq => by cases hq; exact hk⟩
    | 6 =>
      obtain ⟨a, b, hk⟩ := u_known (C := "RankFord$RuleReader") (T := pC6) (N := 11) (n := 11) hts pcw6 (hts _ pci6)
      exact ⟨(a, b), fun q hq => by cases hq; exact hk⟩
    | 7 =>
      obtain ⟨a, b, hk⟩ := u_known (C := "RankFord$Scene") (T := pC7) (N := 9) (n := 9) hts pcw7 (hts _ pci7)
      exact ⟨(a, b), fun q hq => by cases hq; exact hk⟩
    | 8 =>
      obtain ⟨a, b, hk⟩ := u_known (C := "RankFord$Tape") (T := pC8) (N := 6) (n := 6) hts pcw8 (hts _ pci8)
      exact ⟨(a, b), fun q hq => by cases hq; exact hk⟩
    | 9 =>
      obtain ⟨a, b, hk⟩ := u_known (C := "RankFord$Trials") (T := pC9) (N := 9) (n := 9) hts pcw9 (hts _ pci9)
      exact ⟨(a, b), fun q hq => by cases hq; exact hk⟩
    | 10 =>
      obtain ⟨a, b, hk⟩ := u_known (C := "RankFord$World") (T := pC10) (N := 7) (n := 7) hts pcw10 (hts _ pci10)
      exact ⟨(a, b), fun q hq => by cases hq; exact hk⟩
    | 11 =>
      obtain ⟨a, b, hk⟩ := u_known (C := "RankFord") (T := pC11) (N := 12) (n := 12) hts pcw11 (hts _ pci11)
      exact ⟨(a, b), fun q hq => by cases hq; exact hk⟩
    | 12 =>
      obtain ⟨a, b, hk⟩ := u_known (C := "RankFordModel") (T := pC12) (N := 43) (n := 43) hts pcw12 (hts _ pci12)
      exact ⟨(a, b), fun q hq => by cases hq; exact hk⟩
    | k + 13 => exact ⟨(0, fun _ => 0), fun q hq => by simp [pcl] at hq⟩
  exact ⟨(fun c => (Classical.choose (h c)).1, fun c => (Classical.choose (h c)).2), fun c q hq => Classical.choose_spec (h c) q hq⟩
theorem start_arrays {s : State} {args : Array Value} (hts : ∀ w ∈ lw_tbl, w.before args s = true) : ∃ dA : FieldType → ClassId, ∀ ty ∈ ptys, ArrOfT s (dA ty) ty ∧ va_RA s (dA ty) ty := by
  have prim : ∀ ty : FieldType, (∀ C, ty ≠ .object C) → (Cond.arrayClass ty).before args s = true → ∃ c : ClassId, ArrOfT s c ty ∧ va_RA s c ty := by
    intro ty hno h
    obtain ⟨c, k, comp, h1, h2, h3⟩ := Cond.arrayClass_spec h
    refine ⟨c, fun n z => ⟨fun k h => (by cases h), k, h2, comp, h3⟩, ?_⟩
    cases ty with
    | object C => exact absurd rfl (hno C)
    | _ => exact h1
  have obj : ∀ C : String, (Cond.arrayOver (.object C)).before args s = true → ∃ c : ClassId, ArrOfT s c (.object C) ∧ va_RA s c (.object C) := by
    intro C h
    obtain ⟨comp, c, k, h1, -, h3, h4, h5⟩ := Cond.arrayOver_spec h
    exact ⟨c, fun n z => ⟨fun k h => (by cases h), k, h3, comp, h4⟩, k, comp, h3, h4, h1, h5⟩
  have arr : (Cond.arrayOver (.array .int)).before args s = true → ∃ c : ClassId, ArrOfT s c (.array .int) ∧ va_RA s c (.array .int) := by
    intro h
    obtain ⟨comp, c, k, h1, -, h3, h4, h5⟩ := arrayOverA_spec h
    exact ⟨c, fun n z => ⟨fun k h => (by cases h), k, h3, comp, h4⟩, h5⟩
  have all : ∀ ty : FieldType, ∃ c : ClassId, ty ∈ ptys → ArrOfT s c ty ∧ va_RA s c ty := by
    intro ty
    by_cases h : ty ∈ ptys
    · have h9 := h
      simp only [ptys, List.mem_cons, List.not_mem_nil, or_false] at h
      rcases h with rfl | rfl | rfl | rfl | rfl | rfl | rfl | rfl
      · obtain ⟨c, hc⟩ := prim .int (fun C h => by cases h) (hts _ (xwd_tbl (q := 1112) (by decide +kernel)))
        exact ⟨c, fun _ => hc⟩
      · obtain ⟨c, hc⟩ := prim .byte (fun C h => by cases h) (hts _ (xwd_tbl (q := 1060) (by decide +kernel)))
        exact ⟨c, fun _ => hc⟩
      · obtain ⟨c, hc⟩ := prim .long (fun C h => by cases h) (hts _ (xwd_tbl (q := 2007) (by decide +kernel)))
        exact ⟨c, fun _ => hc⟩
      · obtain ⟨c, hc⟩ := prim .boolean (fun C h => by cases h) (hts _ (xwd_tbl (q := 2116) (by decide +kernel)))
        exact ⟨c, fun _ => hc⟩
      · obtain ⟨c, hc⟩ := arr (hts _ (xwd_tbl (q := 2099) (by decide +kernel)))
        exact ⟨c, fun _ => hc⟩
      · obtain ⟨c, hc⟩ := obj "RankFord$Rule" (hts _ (xwd_tbl (q := 1165) (by decide +kernel)))
        exact ⟨c, fun _ => hc⟩
      · obtain ⟨c, hc⟩ := obj "RankFord$Scene" (hts _ (xwd_tbl (q := 1212) (by decide +kernel)))
        exact ⟨c, fun _ => hc⟩
      · obtain ⟨c, hc⟩ := obj "RankFord$World" (hts _ (xwd_tbl (q := 1220) (by decide +kernel)))
        exact ⟨c, fun _ => hc⟩
    · exact ⟨0, fun q => absurd q h⟩
  exact ⟨fun ty => Classical.choose (all ty), fun ty hty => Classical.choose_spec (all ty) hty⟩
theorem start_over {s : State} {args : Array Value} (hts : ∀ w ∈ lw_tbl, w.before args s = true) : pSt s := by
  refine ⟨fun C hC => ?_, ?_⟩
  · rcases hC with rfl | rfl | rfl
    · exact va_AO.of (hts _ (xwd_tbl (q := 1165) (by decide +kernel)))
    · exact va_AO.of (hts _ (xwd_tbl (q := 1212) (by decide +kernel)))
    · exact va_AO.of (hts _ (xwd_tbl (q := 1220) (by decide +kernel)))
  · exact hts (Cond.arrayOver (.array .int)) (xwd_tbl (q := 2099) (by decide +kernel))
def xtm : Nat → Term := fun i => match i with
  | 0 => .string "RankFord$FordReader" 41
  | 1 => .string "RankFord$RuleReader" 81
  | 2 => .string "RankFord$RuleReader" 93
  | 3 => .string "RankFord$RuleReader" 113
  | 4 => .string "RankFord$RuleReader" 131
  | 5 => .string "RankFord$RuleReader" 143
  | _ => .string "RankFord$RuleReader" 145
theorem xwS_ok : ∀ w ∈ xwS, w ∈ pT := xwds _ [1013, 1014, 1015, 2208, 2209, 2210, 2211, 2212, 2213, 2214, 2215, 2218, 2219, 2220, 2221, 2222, 2223, 2224, 2225, 2226, 2227, 2228, 2229, 2230, 2231, 2233, 2234, 2235, 8076, 8077] (by decide +kernel) (by decide +kernel)
theorem xq_ex : ∀ i, i < 7 → Cond.exactly (xtm i) "java/lang/String" ∈ flatC (Jvm.Cond.and given_1 narrow_1) := by decide +kernel
theorem xq_co : ∀ i, i < 7 → Cond.eq (.field (xtm i) "java/lang/String" "coder" "B") (.int 0) ∈ flatC (Jvm.Cond.and given_1 narrow_1) := by decide +kernel
theorem xq_ar : ∀ i, i < 7 → Cond.arrayOf (.field (xtm i) "java/lang/String" "value" "[B") .byte ∈ flatC (Jvm.Cond.and given_1 narrow_1) := by decide +kernel
theorem xq_le : ∀ i, i < 7 → Cond.eq (.length (.field (xtm i) "java/lang/String" "value" "[B")) (.int (Int32.ofNat (xlens.getD i 0))) ∈ flatC (Jvm.Cond.and given_1 narrow_1) := by decide +kernel
theorem xq_el : ∀ i, i < 7 → ∀ j, j < xlens.getD i 0 → Cond.eq (.elem (.field (xtm i) "java/lang/String" "value" "[B") (.int (Int32.ofNat j))) (.int ((xlb.getD i []).getD j 0)) ∈ flatC (Jvm.Cond.and given_1 narrow_1) := by decide +kernel
theorem xq_ne : ∀ i, i < 7 → ∀ j, j < 7 → i ≠ j → Cond.not (Cond.eq (xtm i) (xtm j)) ∈ flatC (Jvm.Cond.and given_1 narrow_1) ∨ Cond.not (Cond.eq (xtm j) (xtm i)) ∈ flatC (Jvm.Cond.and given_1 narrow_1) := by decide +kernel
theorem xq_cs : Cond.eq (.static "java/lang/String" "COMPACT_STRINGS" "Z") (.int 1) ∈ flatC (Jvm.Cond.and given_1 narrow_1) := by decide +kernel
theorem xq_sf : Cond.isRef (.static "jdk/internal/util/Preconditions" "SIOOBE_FORMATTER" "Ljava/util/function/BiFunction;") ∈ flatC (Jvm.Cond.and given_1 narrow_1) := by decide +kernel
theorem xq_r0 : Cond.stringRef "RankFord$FordReader" 41 "ford person thinks" ∈ lw_tbl := xwd_tbl (q := 2202) (by decide +kernel)
theorem xq_r1 : Cond.stringRef "RankFord$RuleReader" 81 "go" ∈ lw_tbl := xwd_tbl (q := 3080) (by decide +kernel)
theorem xq_r2 : Cond.stringRef "RankFord$RuleReader" 93 "person with alone depth height purse fee thinks self here over day" ∈ lw_tbl := xwd_tbl (q := 3090) (by decide +kernel)
theorem xq_r3 : Cond.stringRef "RankFord$RuleReader" 113 "not" ∈ lw_tbl := xwd_tbl (q := 3108) (by decide +kernel)
theorem xq_r4 : Cond.stringRef "RankFord$RuleReader" 131 "if" ∈ lw_tbl := xwd_tbl (q := 3149) (by decide +kernel)
theorem xq_r5 : Cond.stringRef "RankFord$RuleReader" 143 "and" ∈ lw_tbl := xwd_tbl (q := 3138) (by decide +kernel)
theorem xq_r6 : Cond.stringRef "RankFord$RuleReader" 145 "or" ∈ lw_tbl := xwd_tbl (q := 3139) (by decide +kernel)
theorem start_strings {s : State} {b : Nat} (hts : ∀ w ∈ lw_tbl, w.before #[Value.ref b] s = true) (hgv : (Jvm.Cond.and given_1 narrow_1).before #[Value.ref b] s = true) : ∃ sx : UInt32 → Nat, sx 0 = b ∧ xRS sx s ∧ ∀ E : xE, E.1 = s.heap.size → xSW E sx s := by
  have hq := flat_of_before _ hgv
  have hA : ∀ a : Nat, a < s.heap.size → ¬ s.heap.size ≤ a := fun a h1 h2 => by omega
  obtain ⟨adK, adV, hS, hT⟩ := vk_Sof (args := #[Value.ref b]) (s := s) (N := 7) (tm := xtm) (len := xlens) (byt := xlb) (A := fun q => s.heap.size ≤ q) (by decide) (fun i hi => hq _ (xq_ex i hi)) (fun i hi => hq _ (xq_co i hi)) (fun i hi => hq _ (xq_ar i hi)) (fun i hi => hq _ (xq_le i hi)) (fun i hi j hj => hq _ (xq_el i hi j hj)) (fun i j hi hj hij => (xq_ne i hi j hj hij).imp (hq _) (hq _)) hA
  have hZ1 := va_Zof (A := fun q => s.heap.size ≤ q) (hts _ (xwd_tbl (q := 2216) (w := .laysStatic "java/lang/String" "COMPACT_STRINGS" "Z") (by decide +kernel))) (hts _ (xwd_tbl (q := 1013) (w := .initialized "java/lang/String") (by decide +kernel))) (va_eqi (hq _ xq_cs)) hA
  have hZ2 := va_Zqof (A := fun q => s.heap.size ≤ q) (hts _ (xwd_tbl (q := 2232) (w := .laysStatic "jdk/internal/util/Preconditions" "SIOOBE_FORMATTER" "Ljava/util/function/BiFunction;") (by decide +kernel))) (hts _ (xwd_tbl (q := 1015) (w := .initialized "jdk/internal/util/Preconditions") (by decide +kernel))) (hq _ xq_sf) hA
  obtain ⟨t2, hZ3⟩ : ∃ t2 : Nat, va_Z "jdk/internal/util/Preconditions" "SIOOBE_FORMATTER" "Ljava/util/function/BiFunction;" .null (fun q => s.heap.size ≤ q) s s.heap ∨ va_Z "jdk/internal/util/Preconditions" "SIOOBE_FORMATTER" "Ljava/util/function/BiFunction;" (.ref t2) (fun q => s.heap.size ≤ q) s s.heap := by
    rcases hZ2 with z | ⟨t, z⟩
    · exact ⟨0, .inl z⟩
    · exact ⟨t, .inr z⟩
  have eK : ∀ i, i < 7 → (fun u : UInt32 => if u = 0 then b else if u = 200 then t2 else if u.toNat < 100 then adK (u.toNat - 1) else adV (u.toNat - 101)) (UInt32.ofNat (i + 1)) = adK i := by
    intro i hi
    have : i = 0 ∨ i = 1 ∨ i = 2 ∨ i = 3 ∨ i = 4 ∨ i = 5 ∨ i = 6 := by omega
    rcases this with rfl | rfl | rfl | rfl | rfl | rfl | rfl <;> rfl
  have eV : ∀ i, i < 7 → (fun u : UInt32 => if u = 0 then b else if u = 200 then t2 else if u.toNat < 100 then adK (u.toNat - 1) else adV (u.toNat - 101)) (UInt32.ofNat (i + 101)) = adV i := by
    intro i hi
    have : i = 0 ∨ i = 1 ∨ i = 2 ∨ i = 3 ∨ i = 4 ∨ i = 5 ∨ i = 6 := by omega
    rcases this with rfl | rfl | rfl | rfl | rfl | rfl | rfl <;> rfl
  have e2 : (fun u : UInt32 => if u = 0 then b else if u = 200 then t2 else if u.toNat < 100 then adK (u.toNat - 1) else adV (u.toNat - 101)) 200 = t2 := rfl
  have e0 : (fun u : UInt32 => if u = 0 then b else if u = 200 then t2 else if u.toNat < 100 then adK (u.toNat - 1) else adV (u.toNat - 101)) 0 = b := rfl
  revert eK eV e2 e0
  generalize (fun u : UInt32 => if u = 0 then b else if u = 200 then t2 else if u.toNat < 100 then adK (u.toNat - 1) else adV (u.toNat - 101)) = sx
  intro eK eV e2 e0
  refine ⟨sx, e0, ?_, ?_⟩
  · intro e he
    simp only [xlit, List.mem_cons, List.not_mem_nil, or_false] at he
    rcases he with rfl | rfl | rfl | rfl | rfl | rfl | rfl
    · have q := hT 0 (by decide)
      rw [← eK 0 (by decide)] at q
      exact vk_R.of (A := #[Value.ref b]) (hts _ xq_r0) q
    · have q := hT 1 (by decide)
      rw [← eK 1 (by decide)] at q
      exact vk_R.of (A := #[Value.ref b]) (hts _ xq_r1) q
    · have q := hT 2 (by decide)
      rw [← eK 2 (by decide)] at q
      exact vk_R.of (A := #[Value.ref b]) (hts _ xq_r2) q
    · have q := hT 3 (by decide)
      rw [← eK 3 (by decide)] at q
      exact vk_R.of (A := #[Value.ref b]) (hts _ xq_r3) q
    · have q := hT 4 (by decide)
      rw [← eK 4 (by decide)] at q
      exact vk_R.of (A := #[Value.ref b]) (hts _ xq_r4) q
    · have q := hT 5 (by decide)
      rw [← eK 5 (by decide)] at q
      exact vk_R.of (A := #[Value.ref b]) (hts _ xq_r5) q
    · have q := hT 6 (by decide)
      rw [← eK 6 (by decide)] at q
      exact vk_R.of (A := #[Value.ref b]) (hts _ xq_r6) q
  · intro E hE
    unfold xSW
    rw [hE, e2]
    refine ⟨⟨fun i hi => ?_, fun i j hi hj h => ?_⟩, hZ1, hZ3⟩
    · dsimp only
      rw [eK i hi, eV i hi]
      exact hS.1 i hi
    · dsimp only at h
      rw [eK i hi, eK j hj] at h
      exact hS.2 i j hi hj h
set_option maxHeartbeats 4000000 in
theorem start_of_pure (hp : PureLaw) {p : Program} {e : Env} {s : State} {m : MethodId} {below : List Frame} {meth : Method} {c : Code} (l : Launch) {b L : Nat} {xs : Nat → Int32} (hL : L ≤ 3072) (C0 : lw_At p s m meth c b L xs) : W p l e room_1 s m #[Value.ref b] below meth c s.heap [] 0 0 (lw_Z below #[Value.ref b] s) (entryFrame m ([Value.ref b] : List Value).toArray 4) := by
  obtain ⟨hx, hb, hr, hml, hown, hts, hX, hbl, hlocks, hgv⟩ := C0
  have htp : ∀ w ∈ pT, w.before #[Value.ref b] s = true := fun w hw => hts w (List.mem_filter.mp hw).1
  obtain ⟨D, hD⟩ := start_classes htp
  obtain ⟨dA, hdA⟩ := start_arrays hts
  have hst := start_over hts
  obtain ⟨d, n, h', hd, hc1, hc2, hev⟩ := hp L xs hL
  have hOK : xOK pT ((s.heap.size, D, pcl, dA, ptys) : xE) (pG L xs) pM pP s := pOKall rfl rfl hst
  have hK : xKn ((s.heap.size, D, pcl, dA, ptys) : xE) s := ⟨hD, hdA⟩
  obtain ⟨sx, e0, hRS, hSW⟩ := start_strings hts hgv
  subst e0
  have hSt : xStr l ((s.heap.size, D, pcl, dA, ptys) : xE) (pG L xs) sx s pT := ⟨xwS_ok, pT_good, hSW _ rfl⟩
  have hls := xLs.entry (b := s.heap.size) (sx := sx) (as := [.float 0]) (n := 4) (by decide)
  rw [lg_entry_eq]
  have hls2 : xLs s.heap.size sx [some (.float 0), none, none, none] ((lg_sl [Value.ref (sx 0)] ++ List.replicate (4 - (lg_sl [Value.ref (sx 0)]).length) Slot.unset).toArray) 4 := hls
  generalize (lg_sl [Value.ref (sx 0)] ++ List.replicate (4 - (lg_sl [Value.ref (sx 0)]).length) Slot.unset).toArray = lc at hls2 ⊢
  obtain ⟨oc, oa, -, om, -, -⟩ := id hOK
  have key := xsound (l := l) (e := e) (below := below) (O := pOL) (d := d) (R := room_1) (E := ((s.heap.size, D, pcl, dA, ptys) : xE)) (hs := h00) (s0 := s) (args := #[Value.ref (sx 0)]) (v := some (.int 1)) (h' := h') (sx := sx) (B := bL) (rt := some .boolean) (NM := 282) (M := pM) (Y := pY) (Z := pZ) (Kd := pKd) (Qz := lw_Z below #[Value.ref (sx 0)] s)
    hx hb htp hown hml hK (Vm.Alike.refl _) hRS hSt oc oa (pKok16 rfl rfl hst) (by decide) om rfl rfl (fun q => by cases q) hlocks hr kbLa ⟨by show d + 8 + 1 ≤ 2048; omega, by show 64 * (d + 8 + 1) ≤ 84000; omega⟩ ⟨by show h'.1 - 0 ≤ 600000; omega, Nat.le_trans (Nat.sub_le _ _) hc2⟩ hX hbl (xmet hOK hSt hX hbl d) ?_ n 0 (bL 0) _ lc [] h00 s.heap [] (kbLa 0 (by decide)) hev hls2 ⟨rfl, fun k hk => absurd hk (Nat.not_lt_zero k)⟩ (fun q _ => rfl) (fun q hq => by cases hq) (xle.rf _)
  · exact key
  · intro H locs lc pc r hdg hP hF hlo hr9
    refine va_forget hlo ?_
    refine W.widen (k := 600000) (n := 7302250) (by show h'.1 - 0 ≤ 600000; omega) (Nat.le_trans (Nat.sub_le _ _) hc2) ?_
    rcases hr9 with ⟨x, rfl, hv, -⟩ | ⟨x, -, hv, -⟩ | ⟨x, -, hv | hv, -⟩ | ⟨-, hv, -⟩
    · exact lw_ret hx hb hr hlocks hdg
    · cases hv
    · cases hv
    · cases hv
    · cases hv
