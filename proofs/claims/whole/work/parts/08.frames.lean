/-! the places of a frame -/
def xll (b : Nat) (sx : UInt32 → Nat) (ls : xL) : List (Nat × Value) := (List.range ls.length).filterMap (fun i => (ls.getD i none).map (fun v => (i, xv b sx v)))
def xLs (b : Nat) (sx : UInt32 → Nat) (ls : xL) (lc : Array Slot) (n : Nat) : Prop := ls.length = n ∧ lc.size = n ∧ lv_wf lc ∧ ∀ (i : Nat) (v : Value), ls.getD i none = some v → lc[i]? = some (.val (xv b sx v))
theorem xll_mem {b : Nat} {sx : UInt32 → Nat} {ls : xL} {i : Nat} {v : Value} (h : ls.getD i none = some v) : (i, xv b sx v) ∈ xll b sx ls := by
  unfold xll
  refine List.mem_filterMap.mpr ⟨i, ?_, by rw [h]; rfl⟩
  rw [List.mem_range]
  rcases Nat.lt_or_ge i ls.length with q | q
  · exact q
  · rw [List.getD_eq_getElem?_getD, List.getElem?_eq_none q] at h
    cases h
theorem xll_of {b : Nat} {sx : UInt32 → Nat} {ls : xL} {q : Nat × Value} (h : q ∈ xll b sx ls) : ∃ v, ls.getD q.1 none = some v ∧ q.2 = xv b sx v := by
  unfold xll at h
  obtain ⟨i, -, hi⟩ := List.mem_filterMap.mp h
  cases hv : ls.getD i none with
  | none => rw [hv] at hi; cases hi
  | some v => rw [hv] at hi; cases hi; exact ⟨v, hv, rfl⟩
theorem xLs.has {b : Nat} {sx : UInt32 → Nat} {ls : xL} {lc : Array Slot} {n : Nat} (h : xLs b sx ls lc n) : lv_has lc n (xll b sx ls) := by
  refine ⟨h.2.1, h.2.2.1, fun q hq => ?_⟩
  obtain ⟨v, h1, h2⟩ := xll_of hq
  rw [h2]
  exact h.2.2.2 q.1 v h1
theorem xcl_len (ls : xL) (i : Nat) : (xcl ls i).length = ls.length := by
  unfold xcl
  split
  · rfl
  · split <;> simp
theorem xset_get {α : Type} (l : List (Option α)) (i j : Nat) (x w : Option α) (z : α) (h : (l.set i x).getD j none = some z) : (i = j ∧ x = some z) ∨ (i ≠ j ∧ l.getD j none = some z) := by
  rw [List.getD_eq_getElem?_getD, List.getElem?_set] at h
  by_cases e : i = j
  · rw [if_pos e] at h
    by_cases q : i < l.length
    · rw [if_pos (by omega)] at h
      exact Or.inl ⟨e, h⟩
    · rw [if_neg (by omega)] at h
      cases h
  · rw [if_neg e] at h
    exact Or.inr ⟨e, by rw [List.getD_eq_getElem?_getD]; exact h⟩
theorem xcl_get {ls : xL} {i j : Nat} {w : Value} (h : (xcl ls i).getD j none = some w) : ls.getD j none = some w ∧ ¬ (j + 1 = i ∧ w.category = 2) := by
  unfold xcl at h
  split at h
  · exact ⟨h, fun q => by omega⟩
  · rename_i k
    split at h
    · rename_i hx
      rcases xset_get _ _ _ _ none _ h with ⟨_, q⟩ | ⟨q1, q2⟩
      · cases q
      · exact ⟨q2, fun q => by omega⟩
    · rename_i hx
      rcases xset_get _ _ _ _ none _ h with ⟨_, q⟩ | ⟨q1, q2⟩
      · cases q
      · exact ⟨q2, fun q => by omega⟩
    · rename_i n1 n2
      refine ⟨h, fun q => ?_⟩
      obtain ⟨q1, q2⟩ := q
      have e : j = k := by omega
      subst e
      cases w with
      | long x => exact n1 x h
      | double x => exact n2 x h
      | _ => simp [Value.category] at q2
theorem xLs.st1 {b : Nat} {sx : UInt32 → Nat} {ls : xL} {lc : Array Slot} {n i : Nat} {v : Value} (hl : ls.length = n) (hi : i < n) (h : lv_has lc n ((i, xv b sx v) :: (xll b sx ls).filter (fun q => !(q.1 == i) && !(q.1 + 1 == i && q.2.category == 2)))) : xLs b sx (xst ls i v) lc n := by
  refine ⟨by unfold xst; rw [List.length_set, xcl_len]; exact hl, h.1, h.2.1, fun j w hw => ?_⟩
  unfold xst at hw
  rcases xset_get _ _ _ _ none _ hw with ⟨q1, q2⟩ | ⟨q1, q2⟩
  · cases q2; subst q1
    exact h.2.2 _ List.mem_cons_self
  · obtain ⟨g1, g2⟩ := xcl_get q2
    refine h.2.2 (j, xv b sx w) (List.mem_cons_of_mem _ (List.mem_filter.mpr ⟨xll_mem g1, ?_⟩))
    simp only [xv_cat]
    by_cases e1 : j + 1 = i
    · have : ¬ w.category = 2 := fun q => g2 ⟨e1, q⟩
      simp [this, Ne.symm q1]
    · simp [e1, Ne.symm q1]
theorem xLs.st2 {b : Nat} {sx : UInt32 → Nat} {ls : xL} {lc : Array Slot} {n i : Nat} {v : Value} (hl : ls.length = n) (hi : i + 1 < n) (h : lv_has lc n ((i, xv b sx v) :: (xll b sx ls).filter (fun q => !(q.1 == i) && (!(q.1 == i + 1) && !(q.1 + 1 == i && q.2.category == 2))))) : xLs b sx (xst2 ls i v) lc n := by
  refine ⟨by unfold xst2; rw [List.length_set, List.length_set, xcl_len]; exact hl, h.1, h.2.1, fun j w hw => ?_⟩
  unfold xst2 at hw
  rcases xset_get _ _ _ _ none _ hw with ⟨q1, q2⟩ | ⟨q0, hw⟩
  · cases q2
  rcases xset_get _ _ _ _ none _ hw with ⟨q1, q2⟩ | ⟨q1, q2⟩
  · cases q2; subst q1
    exact h.2.2 _ List.mem_cons_self
  · obtain ⟨g1, g2⟩ := xcl_get q2
    refine h.2.2 (j, xv b sx w) (List.mem_cons_of_mem _ (List.mem_filter.mpr ⟨xll_mem g1, ?_⟩))
    simp only [xv_cat]
    by_cases e1 : j + 1 = i
    · have : ¬ w.category = 2 := fun q => g2 ⟨e1, q⟩
      simp [this, Ne.symm q1, Ne.symm q0]
    · simp [e1, Ne.symm q1, Ne.symm q0]
theorem xent_len (b : Nat) (sx : UInt32 → Nat) : ∀ as : List Value, (lg_sl (as.map (xv b sx))).length = (xent as).length
  | [] => rfl
  | v :: as => by
    have ih := xent_len b sx as
    cases v <;> simp [lg_sl, xent, xv, Value.category] at ih ⊢ <;> omega
theorem xent_get (b : Nat) (sx : UInt32 → Nat) : ∀ (as : List Value) (o i : Nat) (v : Value), (xent as).getD i none = some v → (o + i, xv b sx v) ∈ lv_args o (as.map (xv b sx))
  | [], o, i, v, h => by simp [xent] at h
  | a :: as, o, i, v, h => by
    have key2 : ∀ z : Value, z.category = 2 → (some z :: none :: xent as).getD i none = some v → (o + i, xv b sx v) ∈ lv_args o ((z :: as).map (xv b sx)) := by
      intro z hz hg
      rw [List.map_cons, lv_args, xv_cat, if_pos hz]
      match i, hg with
      | 0, hg => cases hg; exact List.mem_cons_self
      | 1, hg => cases hg
      | i + 2, hg =>
        refine List.mem_cons_of_mem _ ?_
        have := xent_get b sx as (o + 2) i v hg
        rwa [show o + 2 + i = o + (i + 2) by omega] at this
    have key1 : ∀ z : Value, z.category = 1 → (some z :: xent as).getD i none = some v → (o + i, xv b sx v) ∈ lv_args o ((z :: as).map (xv b sx)) := by
      intro z hz hg
      rw [List.map_cons, lv_args, xv_cat, if_neg (by omega)]
      match i, hg with
      | 0, hg => cases hg; exact List.mem_cons_self
      | i + 1, hg =>
        refine List.mem_cons_of_mem _ ?_
        have := xent_get b sx as (o + 1) i v hg
        rwa [show o + 1 + i = o + (i + 1) by omega] at this
    cases a with
    | long x => exact key2 _ rfl h
    | double x => exact key2 _ rfl h
    | int x => exact key1 _ rfl h
    | float x => exact key1 _ rfl h
    | null => exact key1 _ rfl h
    | ref x => exact key1 _ rfl h
    | retAddr x => exact key1 _ rfl h
theorem xLs.entry {b : Nat} {sx : UInt32 → Nat} {as : List Value} {n : Nat} (h : (xent as).length ≤ n) : xLs b sx (xentry as n) ((lg_sl (as.map (xv b sx)) ++ List.replicate (n - (lg_sl (as.map (xv b sx))).length) Slot.unset).toArray) n := by
  have he := lv_entry (as.map (xv b sx)) (n := n) (by rw [xent_len]; exact h)
  refine ⟨by unfold xentry; simp; omega, he.1, he.2.1, fun i v hv => ?_⟩
  have hv' : (xent as).getD i none = some v := by
    unfold xentry at hv
    rw [List.getD_eq_getElem?_getD] at hv ⊢
    by_cases q : i < (xent as).length
    · rw [List.getElem?_append_left q] at hv; exact hv
    · rw [List.getElem?_append_right (by omega), List.getElem?_replicate] at hv
      split at hv <;> cases hv
  have := xent_get b sx as 0 i v hv'
  rw [Nat.zero_add] at this
  exact he.2.2 _ this
section XJ
variable {p : Program} {l : Launch} {e : Env} {R : Room} {s : State} {m : MethodId} {args : Array Value} {below : List Frame} {meth : Method} {c : Code} {H : Heap} {locs : List Loc} {cells slots : Nat} {Q : State → Prop}
variable {cc : ByteArray} {pc : Nat} {ls : Array Slot} {rest : List Value}
theorem xw_if (hexec : p.tables.exec = Jvm.exec) (hb : c.code = cc) {c0 : ClassFile.Cond} {x : Int32} {off : Int} {tgt : Nat} (hdg : decode cc pc = .ok (.ifCond c0 off, 3)) (ht : (pc : Int) + off = (tgt : Int)) (kt : xcond c0 x 0 = true → W p l e R s m args below meth c H locs cells slots Q (F0 m tgt ls rest)) (kf : ¬ xcond c0 x 0 = true → W p l e R s m args below meth c H locs cells slots Q (F0 m (pc + 3) ls rest)) : W p l e R s m args below meth c H locs cells slots Q (F0 m pc ls (.int x :: rest)) := by
  cases c0
  · exact lv_if_eq hexec hb hdg ht (fun h => kt (by simpa [xcond] using h)) (fun h => kf (by simpa [xcond] using h))
  · exact lv_if_ne hexec hb hdg ht (fun h => kt (by simpa [xcond] using h)) (fun h => kf (by simpa [xcond] using h))
  · exact lv_if_lt hexec hb hdg ht (fun h => kt (by simpa [xcond] using h)) (fun h => kf (by simpa [xcond] using h))
  · exact lv_if_ge hexec hb hdg ht (fun h => kt (by simpa [xcond] using h)) (fun h => kf (by simpa [xcond] using h))
  · exact lv_if_gt hexec hb hdg ht (fun h => kt (by simpa [xcond] using h)) (fun h => kf (by simpa [xcond] using h))
  · exact lv_if_le hexec hb hdg ht (fun h => kt (by simpa [xcond] using h)) (fun h => kf (by simpa [xcond] using h))
theorem xw_icmp (hexec : p.tables.exec = Jvm.exec) (hb : c.code = cc) {c0 : ClassFile.Cond} {x y : Int32} {off : Int} {tgt : Nat} (hdg : decode cc pc = .ok (.if_icmp c0 off, 3)) (ht : (pc : Int) + off = (tgt : Int)) (kt : xcond c0 x y = true → W p l e R s m args below meth c H locs cells slots Q (F0 m tgt ls rest)) (kf : ¬ xcond c0 x y = true → W p l e R s m args below meth c H locs cells slots Q (F0 m (pc + 3) ls rest)) : W p l e R s m args below meth c H locs cells slots Q (F0 m pc ls (.int y :: .int x :: rest)) := by
  cases c0
  · exact lv_icmp_eq hexec hb hdg ht (fun h => kt (by simpa [xcond] using h)) (fun h => kf (by simpa [xcond] using h))
  · exact lv_icmp_ne hexec hb hdg ht (fun h => kt (by simpa [xcond] using h)) (fun h => kf (by simpa [xcond] using h))
  · exact lv_icmp_lt hexec hb hdg ht (fun h => kt (by simpa [xcond] using h)) (fun h => kf (by simpa [xcond] using h))
  · exact lv_icmp_ge hexec hb hdg ht (fun h => kt (by simpa [xcond] using h)) (fun h => kf (by simpa [xcond] using h))
  · exact lv_icmp_gt hexec hb hdg ht (fun h => kt (by simpa [xcond] using h)) (fun h => kf (by simpa [xcond] using h))
  · exact lv_icmp_le hexec hb hdg ht (fun h => kt (by simpa [xcond] using h)) (fun h => kf (by simpa [xcond] using h))
end XJ
theorem xjm_of {bp : Nat → Nat} {nb pc : Nat} {t off : Int} (h : xjm bp nb pc t off = true) : t.toNat < nb ∧ (pc : Int) + off = (bp t.toNat : Int) := by
  unfold xjm at h
  simpa using h
theorem xjs_of {bp : Nat → Nat} {nb pc : Nat} {d d2 : Int} (hd : xjm bp nb pc d d2 = true) (x : Int) : ∀ (o o2 : List (Int × Int)), xjs bp nb pc o o2 = true → xjm bp nb pc (Op.lookupswitch.offset o d x) (Op.lookupswitch.offset o2 d2 x) = true
  | [], [], _ => hd
  | [], _ :: _, h => by simp [xjs] at h
  | _ :: _, [], h => by simp [xjs] at h
  | (a, u) :: o, (a2, u2) :: o2, h => by
    simp only [xjs, Bool.and_eq_true, decide_eq_true_eq] at h
    obtain ⟨⟨h1, h2⟩, h3⟩ := h
    subst h1
    rw [Op.lookupswitch.offset_cons, Op.lookupswitch.offset_cons]
    by_cases e : a = x
    · rw [if_pos e, if_pos e]; exact h2
    · rw [if_neg e, if_neg e]; exact xjs_of hd x o o2 h3
