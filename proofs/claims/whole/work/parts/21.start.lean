theorem xwd_tbl {q : Nat} {w : Cond} (h : xwd q = some w) : w ∈ lw_tbl := by
  unfold xwd at h
  have key : ∀ {L : List Cond} {i : Nat}, L[i]? = some w → w ∈ L := fun h => List.mem_of_getElem? h
  unfold lw_tbl tables_1
  simp only [List.mem_append]
  split at h
  · exact Or.inl (key h)
  · exact Or.inr (Or.inl (key h))
  · exact Or.inr (Or.inr (Or.inl (key h)))
  · exact Or.inr (Or.inr (Or.inr (Or.inl (key h))))
  · exact Or.inr (Or.inr (Or.inr (Or.inr (Or.inl (key h)))))
  · exact Or.inr (Or.inr (Or.inr (Or.inr (Or.inr (Or.inl (key h))))))
  · exact Or.inr (Or.inr (Or.inr (Or.inr (Or.inr (Or.inr (Or.inl (key h)))))))
  · exact Or.inr (Or.inr (Or.inr (Or.inr (Or.inr (Or.inr (Or.inr (Or.inl (key h))))))))
  · exact Or.inr (Or.inr (Or.inr (Or.inr (Or.inr (Or.inr (Or.inr (Or.inr (key h))))))))
  · cases h
def h00 : xH := (0, fun _ => (.inr 0, 0), fun _ _ => 0, fun _ _ => 0, fun _ _ => none)
/-- the law, on the pure machine: it ends, with 1, within the room -/
def PureLaw : Prop := ∀ (L : Nat) (xs : Nat → Int32), L ≤ 3072 → ∃ (d n : Nat) (h' : xH), d + 1 ≤ 1300 ∧ h'.1 ≤ 600000 ∧ xsl h' ≤ 7302250 ∧ ev (pG L xs) (Call (pG L xs) pM d) bL (some .boolean) (xeq (some (.int 1)) h') n (bL 0) [some (.float 0), none, none, none] [] h00
theorem kbLa : ∀ t, t < 38 → xbk pOL code (qL t) (bL t) = true
  | 0, _ => kbL0
  | 1, _ => kbL1
  | 2, _ => kbL2
  | 3, _ => kbL3
  | 4, _ => kbL4
  | 5, _ => kbL5
  | 6, _ => kbL6
  | 7, _ => kbL7
  | 8, _ => kbL8
  | 9, _ => kbL9
  | 10, _ => kbL10
  | 11, _ => kbL11
  | 12, _ => kbL12
  | 13, _ => kbL13
  | 14, _ => kbL14
  | 15, _ => kbL15
  | 16, _ => kbL16
  | 17, _ => kbL17
  | 18, _ => kbL18
  | 19, _ => kbL19
  | 20, _ => kbL20
  | 21, _ => kbL21
  | 22, _ => kbL22
  | 23, _ => kbL23
  | 24, _ => kbL24
  | 25, _ => kbL25
  | 26, _ => kbL26
  | 27, _ => kbL27
  | 28, _ => kbL28
  | 29, _ => kbL29
  | 30, _ => kbL30
  | 31, _ => kbL31
  | 32, _ => kbL32
  | 33, _ => kbL33
  | 34, _ => kbL34
  | 35, _ => kbL35
  | 36, _ => kbL36
  | 37, _ => kbL37
  | k + 38, h => absurd h (by omega)
theorem start_classes {s : State} {args : Array Value} (hts : ∀ w ∈ pT, w.before args s = true) : ∃ D : va_G, ∀ (c : Nat) (q : vw_C), pcl[c]? = some q → u_Kn s q.1 q.2.1 q.2.2 (D.1 c) (D.2 c) := by
  have h : ∀ c : Nat, ∃ z : ClassId × (Nat → Nat), ∀ q : vw_C, pcl[c]? = some q → u_Kn s q.1 q.2.1 q.2.2 z.1 z.2 := by
    intro c
    match c with
    | 0 =>
      obtain ⟨a, b, hk⟩ := u_known (C := "RankFord$Days") (T := pC0) (N := 2) (n := 2) hts pcw0 (hts _ pci0)
      exact ⟨(a, b), fun q hq => by cases hq; exact hk⟩
    | 1 =>
      obtain ⟨a, b, hk⟩ := u_known (C := "RankFord$FordReader") (T := pC1) (N := 3) (n := 3) hts pcw1 (hts _ pci1)
      exact ⟨(a, b), fun q hq => by cases hq; exact hk⟩
    | 2 =>
      obtain ⟨a, b, hk⟩ := u_known (C := "RankFord$Guess") (T := pC2) (N := 5) (n := 5) hts pcw2 (hts _ pci2)
      exact ⟨(a, b), fun q hq => by cases hq; exact hk⟩
    | 3 =>
      obtain ⟨a, b, hk⟩ := u_known (C := "RankFord$History") (T := pC3) (N := 3) (n := 3) hts pcw3 (hts _ pci3)
      exact ⟨(a, b), fun q hq => by cases hq; exact hk⟩
    | 4 =>
      obtain ⟨a, b, hk⟩ := u_known (C := "RankFord$Plans") (T := pC4) (N := 9) (n := 9) hts pcw4 (hts _ pci4)
      exact ⟨(a, b), fun q hq => by cases hq; exact hk⟩
    | 5 =>
      obtain ⟨a, b, hk⟩ := u_known (C := "RankFord$Rule") (T := pC5) (N := 3) (n := 3) hts pcw5 (hts _ pci5)
      exact ⟨(a, b), fun q hq => by cases hq; exact hk⟩
    | 6 =>
      obtain ⟨a, b, hk⟩ := u_known (C := "RankFord$RuleReader") (T := pC6) (N := 11) (n := 11) hts pcw6 (hts _ pci6)
      exact ⟨(a, b), fun q hq => by cases hq; exact hk⟩
    | 7 =>
      obtain ⟨a, b, hk⟩ := u_known (C := "RankFord$Scene") (T := pC7) (N := 9) (n := 9) hts pcw7 (hts _ pci7)
      exact ⟨(a, b), fun q hq => by cases hq; exact hk⟩
    | 8 =>
      obtain ⟨a, b, hk⟩ := u_known (C := "RankFord$Tape") (T := pC8) (N := 6) (n := 6) hts pcw8 (hts _ pci8)
      exact ⟨(a, b), fun q hq => by cases hq; exact hk⟩
    | 9 =>
      obtain ⟨a, b, hk⟩ := u_known (C := "RankFord$Trials") (T := pC9) (N := 9) (n := 9) hts pcw9 (hts _ pci9)
      exact ⟨(a, b), fun q hq => by cases hq; exact hk⟩
    | 10 =>
      obtain ⟨a, b, hk⟩ := u_known (C := "RankFord$World") (T := pC10) (N := 7) (n := 7) hts pcw10 (hts _ pci10)
      exact ⟨(a, b), fun q hq => by cases hq; exact hk⟩
    | 11 =>
      obtain ⟨a, b, hk⟩ := u_known (C := "RankFord") (T := pC11) (N := 12) (n := 12) hts pcw11 (hts _ pci11)
      exact ⟨(a, b), fun q hq => by cases hq; exact hk⟩
    | 12 =>
      obtain ⟨a, b, hk⟩ := u_known (C := "RankFordModel") (T := pC12) (N := 43) (n := 43) hts pcw12 (hts _ pci12)
      exact ⟨(a, b), fun q hq => by cases hq; exact hk⟩
    | k + 13 => exact ⟨(0, fun _ => 0), fun q hq => by simp [pcl] at hq⟩
  exact ⟨(fun c => (Classical.choose (h c)).1, fun c => (Classical.choose (h c)).2), fun c q hq => Classical.choose_spec (h c) q hq⟩
theorem start_arrays {s : State} {args : Array Value} (hts : ∀ w ∈ lw_tbl, w.before args s = true) : ∃ dA : FieldType → ClassId, ∀ ty ∈ ptys, ArrOfT s (dA ty) ty ∧ va_RA s (dA ty) ty := by
  have prim : ∀ ty : FieldType, (∀ C, ty ≠ .object C) → (Cond.arrayClass ty).before args s = true → ∃ c : ClassId, ArrOfT s c ty ∧ va_RA s c ty := by
    intro ty hno h
    obtain ⟨c, k, comp, h1, h2, h3⟩ := Cond.arrayClass_spec h
    refine ⟨c, fun n z => ⟨fun k h => (by cases h), k, h2, comp, h3⟩, ?_⟩
    cases ty with
    | object C => exact absurd rfl (hno C)
    | _ => exact h1
  have obj : ∀ C : String, (Cond.arrayOver (.object C)).before args s = true → ∃ c : ClassId, ArrOfT s c (.object C) ∧ va_RA s c (.object C) := by
    intro C h
    obtain ⟨comp, c, k, h1, -, h3, h4, h5⟩ := Cond.arrayOver_spec h
    exact ⟨c, fun n z => ⟨fun k h => (by cases h), k, h3, comp, h4⟩, k, comp, h3, h4, h1, h5⟩
  have arr : (Cond.arrayOver (.array .int)).before args s = true → ∃ c : ClassId, ArrOfT s c (.array .int) ∧ va_RA s c (.array .int) := by
    intro h
    obtain ⟨comp, c, k, h1, -, h3, h4, h5⟩ := arrayOverA_spec h
    exact ⟨c, fun n z => ⟨fun k h => (by cases h), k, h3, comp, h4⟩, h5⟩
  have all : ∀ ty : FieldType, ∃ c : ClassId, ty ∈ ptys → ArrOfT s c ty ∧ va_RA s c ty := by
    intro ty
    by_cases h : ty ∈ ptys
    · have h9 := h
      simp only [ptys, List.mem_cons, List.not_mem_nil, or_false] at h
      rcases h with rfl | rfl | rfl | rfl | rfl | rfl | rfl | rfl
      · obtain ⟨c, hc⟩ := prim .int (fun C h => by cases h) (hts _ (xwd_tbl (q := 1112) (by decide +kernel)))
        exact ⟨c, fun _ => hc⟩
      · obtain ⟨c, hc⟩ := prim .byte (fun C h => by cases h) (hts _ (xwd_tbl (q := 1060) (by decide +kernel)))
        exact ⟨c, fun _ => hc⟩
      · obtain ⟨c, hc⟩ := prim .long (fun C h => by cases h) (hts _ (xwd_tbl (q := 2007) (by decide +kernel)))
        exact ⟨c, fun _ => hc⟩
      · obtain ⟨c, hc⟩ := prim .boolean (fun C h => by cases h) (hts _ (xwd_tbl (q := 2116) (by decide +kernel)))
        exact ⟨c, fun _ => hc⟩
      · obtain ⟨c, hc⟩ := arr (hts _ (xwd_tbl (q := 2099) (by decide +kernel)))
        exact ⟨c, fun _ => hc⟩
      · obtain ⟨c, hc⟩ := obj "RankFord$Rule" (hts _ (xwd_tbl (q := 1165) (by decide +kernel)))
        exact ⟨c, fun _ => hc⟩
      · obtain ⟨c, hc⟩ := obj "RankFord$Scene" (hts _ (xwd_tbl (q := 1212) (by decide +kernel)))
        exact ⟨c, fun _ => hc⟩
      · obtain ⟨c, hc⟩ := obj "RankFord$World" (hts _ (xwd_tbl (q := 1220) (by decide +kernel)))
        exact ⟨c, fun _ => hc⟩
    · exact ⟨0, fun q => absurd q h⟩
  exact ⟨fun ty => Classical.choose (all ty), fun ty hty => Classical.choose_spec (all ty) hty⟩
theorem start_over {s : State} {args : Array Value} (hts : ∀ w ∈ lw_tbl, w.before args s = true) : pSt s := by
  refine ⟨fun C hC => ?_, ?_⟩
  · rcases hC with rfl | rfl | rfl
    · exact va_AO.of (hts _ (xwd_tbl (q := 1165) (by decide +kernel)))
    · exact va_AO.of (hts _ (xwd_tbl (q := 1212) (by decide +kernel)))
    · exact va_AO.of (hts _ (xwd_tbl (q := 1220) (by decide +kernel)))
  · exact hts (Cond.arrayOver (.array .int)) (xwd_tbl (q := 2099) (by decide +kernel))
set_option maxHeartbeats 4000000 in
theorem start_of_pure (hp : PureLaw) {p : Program} {e : Env} {s : State} {m : MethodId} {below : List Frame} {meth : Method} {c : Code} (l : Launch) {b L : Nat} {xs : Nat → Int32} (hL : L ≤ 3072) (C0 : lw_At p s m meth c b L xs) : W p l e room_1 s m #[Value.ref b] below meth c s.heap [] 0 0 (lw_Z below #[Value.ref b] s) (entryFrame m ([Value.ref b] : List Value).toArray 4) := by
  obtain ⟨hx, hb, hr, hml, hown, hts, hX, hbl, hlocks, hgv⟩ := C0
  have htp : ∀ w ∈ pT, w.before #[Value.ref b] s = true := fun w hw => hts w (List.mem_filter.mp hw).1
  obtain ⟨D, hD⟩ := start_classes htp
  obtain ⟨dA, hdA⟩ := start_arrays hts
  have hst := start_over hts
  obtain ⟨d, n, h', hd, hc1, hc2, hev⟩ := hp L xs hL
  have hOK : xOK pT ((s.heap.size, D, pcl, dA, ptys) : xE) (pG L xs) pM pP s := pOKall rfl rfl hst
  have hK : xKn ((s.heap.size, D, pcl, dA, ptys) : xE) s := ⟨hD, hdA⟩
  have hls := xLs.entry (b := s.heap.size) (sx := fun _ => b) (as := [.float 0]) (n := 4) (by decide)
  rw [lg_entry_eq]
  have hls2 : xLs s.heap.size (fun _ => b) [some (.float 0), none, none, none] ((lg_sl [Value.ref b] ++ List.replicate (4 - (lg_sl [Value.ref b]).length) Slot.unset).toArray) 4 := hls
  generalize (lg_sl [Value.ref b] ++ List.replicate (4 - (lg_sl [Value.ref b]).length) Slot.unset).toArray = lc at hls2 ⊢
  obtain ⟨oc, oa, -, om, -, -⟩ := id hOK
  have key := xsound (l := l) (e := e) (below := below) (O := pOL) (d := d) (R := room_1) (E := ((s.heap.size, D, pcl, dA, ptys) : xE)) (hs := h00) (s0 := s) (args := #[Value.ref b]) (v := some (.int 1)) (h' := h') (sx := fun _ => b) (B := bL) (rt := some .boolean) (NM := 282) (M := pM) (Y := pY) (Z := pZ) (Kd := pKd) (Qz := lw_Z below #[Value.ref b] s)
    hx hb htp hown hml hK (Vm.Alike.refl _) oc oa (pKok16 rfl rfl hst) (by decide) om rfl rfl (fun q => by cases q) hlocks hr kbLa ⟨by show d + 1 ≤ 2048; omega, by show 64 * (d + 1) ≤ 84000; omega⟩ ⟨by show h'.1 - 0 ≤ 600000; omega, Nat.le_trans (Nat.sub_le _ _) hc2⟩ hX hbl (xmet hOK hX hbl d) ?_ n 0 (bL 0) _ lc [] h00 s.heap [] (kbLa 0 (by decide)) hev hls2 ⟨rfl, fun k hk => absurd hk (Nat.not_lt_zero k)⟩ (fun q _ => rfl) (fun q hq => by cases hq) (xle.rf _)
  · exact key
  · intro H locs lc pc r hdg hP hF hlo hr9
    refine va_forget hlo ?_
    refine W.widen (k := 600000) (n := 7302250) (by show h'.1 - 0 ≤ 600000; omega) (Nat.le_trans (Nat.sub_le _ _) hc2) ?_
    rcases hr9 with ⟨x, rfl, hv, -⟩ | ⟨x, -, hv, -⟩ | ⟨x, -, hv | hv, -⟩ | ⟨-, hv, -⟩
    · exact lw_ret hx hb hr hlocks hdg
    · cases hv
    · cases hv
    · cases hv
    · cases hv
