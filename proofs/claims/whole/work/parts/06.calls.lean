theorem xouter (c : ClassId) (N h0 : Nat) : ∀ i : Nat, Jvm.Free.Multi.outerC c N h0 i = arrV c N (fun j => va_rf (if j < i then some (h0 + 1 + j) else none))
  | 0 => by
    show ({ cls := c, slots := Array.replicate N .null, vm := .none } : Cell) = _
    rw [arrV_new]
    refine congrArg (arrV c N) (funext fun j => ?_)
    simp [va_rf]
  | i + 1 => by
    show (Jvm.Free.Multi.outerC c N h0 i).setSlot i (.ref (h0 + 1 + i)) = _
    rw [xouter c N h0 i, arrV_store]
    refine congrArg (arrV c N) (funext fun j => ?_)
    by_cases e : j = i
    · subst e
      simp [updV, va_rf]
    · by_cases h : j < i
      · simp [updV, e, h, Nat.lt_succ_of_lt h]
      · simp [updV, e, h, show ¬ j < i + 1 by omega]
section XM
variable {p : Program} {l : Launch} {e : Env} {R : Room} {s : State} {m : MethodId} {args : Array Value} {below : List Frame} {meth : Method} {c : Code} {H : Heap} {locs : List Loc} {cells slots : Nat} {Q : State → Prop}
variable {cc : ByteArray} {pc : Nat} {ls : Array Slot} {rest : List Value} {T : List Cond} {E : xE} {G : xG} {h : xH} {own : String}
theorem xw_new2 (hexec : p.tables.exec = Jvm.exec) (hb : c.code = cc) (hts : ∀ w ∈ T, w.before args s = true) (hown : s.vm.findClass own = some m.cls) (hK : xKn E s) (hP : xP E G h H) {index : Nat} (hlink : Cond.classLink own index ("[" ++ (FieldType.array .int).toString) ∈ T) (hov : (Cond.arrayOver (.array .int)).before args s = true) (hac : Cond.arrayClass .int ∈ T) (hm : FieldType.array .int ∈ E.2.2.2.2) (hm1 : FieldType.int ∈ E.2.2.2.2) {n k : Int32} (hn : ¬ n < 0) (hk : ¬ k < 0) (hN : n.toNatClampNeg ≤ 1000) (hM : k.toNatClampNeg ≤ 1000) (hcells : cells + (1 + n.toNatClampNeg) ≤ R.cells) (hslots : slots + (n.toNatClampNeg + n.toNatClampNeg * k.toNatClampNeg) ≤ R.slots) (hdg : decode cc pc = .ok (.multianewarray index 2, 4))
    (kk : ∀ H1 : Heap, xP E G (xnew2 h n.toNatClampNeg k.toNatClampNeg) H1 → (∀ q : Nat, q < E.1 + h.1 → H1[q]? = H[q]?) → W p l e R s m args below meth c H1 locs (cells + 1 + n.toNatClampNeg) (slots + n.toNatClampNeg + n.toNatClampNeg * k.toNatClampNeg) Q (F0 m (pc + 4) ls (.ref (E.1 + h.1) :: rest))) : W p l e R s m args below meth c H locs cells slots Q (F0 m pc ls (.int k :: .int n :: rest)) := by
  intro U hT Xs
  obtain ⟨vm₁, cA, comp, -, fA, fC, hO, -, X', step⟩ := Xs.multianewarray2F hexec hown (hts _ hlink) hov (hts _ hac) (g := F0 m pc ls (.int k :: .int n :: rest)) rfl (by rw [hb]; exact hdg) rfl hn hk (by omega) (by show _ * 4 ≤ _; omega) (by omega) rfl rfl hcells hslots
  generalize hF : Jvm.Free.Multi.fill (U.setVm vm₁) cA comp n.toNatClampNeg k.toNatClampNeg (defaultValue .int) n.toNatClampNeg = F at X' step
  have hTh : (U.setVm vm₁).heap = H := hT
  obtain ⟨f1, f2, -, -⟩ := Jvm.Free.Multi.fill_facts (U.setVm vm₁) cA comp n.toNatClampNeg k.toNatClampNeg (defaultValue .int) n.toNatClampNeg
  rw [hF, hTh] at f1 f2
  have hold : ∀ x : Nat, x < H.size → F.heap[x]? = H[x]? := fun x hx => by
    have := Jvm.Free.Multi.fill_old (U.setVm vm₁) cA comp n.toNatClampNeg k.toNatClampNeg (defaultValue .int) (a := x) (by rw [hTh]; exact hx) n.toNatClampNeg
    rw [hF, hTh] at this
    exact this
  have hrow : ∀ j : Nat, j < n.toNatClampNeg → F.heap[H.size + 1 + j]? = some (arrV comp k.toNatClampNeg (fun _ => .int 0)) := fun j hj => by
    have := Jvm.Free.Multi.fill_inner (U.setVm vm₁) cA comp n.toNatClampNeg k.toNatClampNeg (defaultValue .int) n.toNatClampNeg j hj
    rw [hF, hTh] at this
    rw [this, ← arrV_new]
    rfl
  rw [xouter] at f2
  have hcA : cA = E.2.2.2.1 (.array .int) := Option.some.inj (fA.symm.trans (hK.2 _ hm).2)
  have hcC : comp = E.2.2.2.1 .int := Option.some.inj (fC.symm.trans (hK.2 _ hm1).2)
  subst hcA; subst hcC
  rw [hP.1] at f1 f2 hold hrow
  have eT : U.heap.size = E.1 + h.1 := by rw [hT]; exact hP.1
  have hxp : xP E G (xnew2 h n.toNatClampNeg k.toNatClampNeg) F.heap := by
    refine ⟨by rw [f1]; show _ = E.1 + (h.1 + 1 + n.toNatClampNeg); omega, fun j hj => ?_⟩
    have hj : j < h.1 + 1 + n.toNatClampNeg := hj
    rcases Nat.lt_trichotomy j h.1 with q | q | q
    · obtain ⟨p1, p2⟩ := hP.2 j q
      have es : (xnew2 h n.toNatClampNeg k.toNatClampNeg).2.1 j = h.2.1 j := by show (if j = h.1 then _ else if h.1 < j ∧ _ then _ else h.2.1 j) = _; rw [if_neg (by omega), if_neg (by omega)]
      refine ⟨p1.kept es ?_ rfl (upr_ne (by omega)) (hold _ (by omega)), by unfold xwf at p2 ⊢; rw [es]; exact p2⟩
      funext i
      show (if h.1 ≤ j ∧ _ then _ else h.2.2.1 j i) = _
      rw [if_neg (by omega)]; rfl
    · subst q
      have es : (xnew2 h n.toNatClampNeg k.toNatClampNeg).2.1 h.1 = (.inl (.array .int), n.toNatClampNeg) := by show (if h.1 = h.1 then _ else _) = _; rw [if_pos rfl]
      refine ⟨?_, by unfold xwf; rw [es]; exact hm⟩
      unfold xat
      rw [es]
      show F.heap[E.1 + h.1]? = _
      rw [f2]
      congr 2
      funext i
      show _ = va_rf ((upr h.2.2.2.2 h.1 _ h.1 i).map (E.1 + ·))
      rw [upr_eq]
      by_cases q : i < n.toNatClampNeg
      · rw [if_pos q, if_pos q]
        show va_rf (some (E.1 + h.1 + 1 + i)) = va_rf (some (E.1 + (h.1 + 1 + i)))
        rw [show E.1 + h.1 + 1 + i = E.1 + (h.1 + 1 + i) by omega]
      · rw [if_neg q, if_neg q]; rfl
    · obtain ⟨i, rfl⟩ : ∃ i, j = h.1 + 1 + i := ⟨j - h.1 - 1, by omega⟩
      have es : (xnew2 h n.toNatClampNeg k.toNatClampNeg).2.1 (h.1 + 1 + i) = (.inl .int, k.toNatClampNeg) := by show (if h.1 + 1 + i = h.1 then _ else if h.1 < h.1 + 1 + i ∧ h.1 + 1 + i < h.1 + 1 + n.toNatClampNeg then _ else _) = _; rw [if_neg (by omega), if_pos (by omega)]
      refine ⟨?_, by unfold xwf; rw [es]; exact hm1⟩
      unfold xat
      rw [es]
      show F.heap[E.1 + (h.1 + 1 + i)]? = _
      rw [show E.1 + (h.1 + 1 + i) = E.1 + h.1 + 1 + i by omega, hrow i (by omega)]
      congr 2
      funext x
      show Value.int 0 = Value.int (if h.1 ≤ h.1 + 1 + i ∧ h.1 + 1 + i < h.1 + 1 + n.toNatClampNeg then 0 else _)
      rw [if_pos (by omega)]
  obtain ⟨t, a1, b1⟩ := kk F.heap hxp hold F rfl X'
  refine ⟨t, step t ?_, b1⟩
  rw [eT]
  exact a1
end XM
/-- a world's heap at a call and behind it: below the base as at the start s0 -/
def xB (E : xE) (G : xG) (sx : UInt32 → Nat) (s0 : State) (h : xH) (U : State) : Prop := xP E G h U.heap ∧ (∀ q : Nat, q < E.1 → U.heap[q]? = s0.heap[q]?) ∧ xKn E U ∧ s0.vm.Alike U.vm ∧ xRS sx U
def xPc (E : xE) (G : xG) (sx : UInt32 → Nat) (s0 : State) (as : List Value) (h : xH) : Array Value → State → Prop := va_Pc (as.map (xv E.1 sx)) (xB E G sx s0 h)
def xQc (E : xE) (G : xG) (sx : UInt32 → Nat) (s0 : State) (v : Option Value) (h' : xH) : Array Value → State → Outcome → State → Prop := fun _ _ oc t => oc = .returned (v.map (xv E.1 sx)) ∧ xB E G sx s0 h' t
def xRm (d mc ms : Nat) : Room := { frames := d, cells := mc, slots := ms, locals := 64 * d }
def xMet (l : Launch) (E : xE) (G : xG) (sx : UInt32 → Nat) (s0 : State) (y : MethodName) (ws : List Cond) (d : Nat) (as : List Value) (h : xH) (v : Option Value) (h' : xH) : Prop :=
  Met l y ws (xRm d (h'.1 - h.1) (xsl h' - xsl h)) (xPc E G sx s0 as h) (xQc E G sx s0 v h') (h'.1 - h.1) (xsl h' - xsl h) (fun q => E.1 ≤ q)
theorem xB.moved {E : xE} {G : xG} {sx : UInt32 → Nat} {s0 : State} {h : xH} {u U : State} (hB : xB E G sx s0 h u) (hh : U.heap = u.heap) (hvm : U.vm = u.vm) : xB E G sx s0 h U :=
  ⟨by rw [hh]; exact hB.1, fun q hq => by rw [hh]; exact hB.2.1 q hq, hB.2.2.1.moved (by rw [hvm]; exact Vm.Alike.refl _), by rw [hvm]; exact hB.2.2.2.1, hB.2.2.2.2.same hvm⟩
theorem xPc_blind (E : xE) (G : xG) (sx : UInt32 → Nat) (s0 : State) (as : List Value) (h : xH) : FrameBlind (xPc E G sx s0 as h) := fun a U g mk q => ⟨q.1, q.2.moved rfl rfl⟩
section XC
variable {p : Program} {l : Launch} {e : Env} {R : Room} {s s0 : State} {m : MethodId} {args : Array Value} {below : List Frame} {meth : Method} {c : Code} {H : Heap} {locs : List Loc} {cells slots : Nat} {Q : State → Prop}
variable {cc : ByteArray} {pc : Nat} {ls : Array Slot} {T : List Cond} {E : xE} {G : xG} {sx : UInt32 → Nat} {h h' : xH} {own : String} {v : Option Value} {d : Nat}
theorem xw_after {y : MethodName} {ws : List Cond} {as rest : List Value} {st0 : List Value} {a : Array Value} (hr : va_Run p l e R s m args below meth c H locs cells slots (h'.1 - h.1) (xsl h' - xsl h) (F0 m pc ls st0) rest (xQc E G sx s0 v h' a) (fun q => E.1 ≤ q))
    (kk : ∀ (H1 : Heap) (L : List Loc), xP E G h' H1 → (∀ q : Nat, q < E.1 → H1[q]? = s0.heap[q]?) → (∀ q ∈ L, E.1 ≤ q.base) → W p l e R s m args below meth c H1 (locs ++ L) (cells + (h'.1 - h.1)) (slots + (xsl h' - xsl h)) Q (F0 m (pc + 3) ls ((v.map (xv E.1 sx)).toList ++ rest))) : W p l e R s m args below meth c H locs cells slots Q (F0 m pc ls st0) := by
  intro U hT X
  obtain ⟨v0, st₀, t, T', L, h0, X', hL, e1, e2, ⟨hv, hB⟩, st⟩ := hr U hT X
  cases hv
  obtain ⟨t2, a1, b1⟩ := kk T'.heap L (by rw [e1]; exact hB.1) (fun q hq => by rw [e1]; exact hB.2.1 q hq) hL T' rfl X'
  exact ⟨t2, st t2 a1, b1⟩
theorem xgood {w : Cond} {ws : List Cond} (hg : ∀ w ∈ T, goodWord w = true) (hw : w ∈ T) (hs : ws = w :: T) : GoodIn T ws := by
  subst hs
  intro x hx
  rcases List.mem_cons.mp hx with rfl | hx
  · exact ⟨hw, good_of_word (hg _ hw)⟩
  · exact ⟨hx, good_of_word (hg _ hx)⟩
theorem xw_callB {y : MethodName} {bytes : ByteArray} {maxL n index : Nat} {ret : Option FieldType} (hts : ∀ w ∈ T, w.before args s = true) (hg : ∀ w ∈ T, goodWord w = true) (hcode : Cond.code y bytes maxL ret ∈ T) (hini : Cond.initialized y.cls ∈ T) (hlink : Cond.methodLink own index y ∈ T) (hd : y.cls ≠ "java/lang/invoke/MethodHandle" ∧ y.cls ≠ "java/lang/invoke/VarHandle" ∧ (parseMethodDescriptor y.desc).map (fun d => d.parameters.length) = some n) (hL : maxL ≤ 45) {mc ms : Nat} (hR : d + 1 ≤ R.frames ∧ 64 * (d + 1) ≤ R.locals) :
    CallB R s args own index y bytes maxL ret (Cond.code y bytes maxL ret :: T) (xRm d mc ms) mc ms n :=
  callB_of n hts (xgood hg hcode rfl) rfl rfl rfl (hts _ hini) (hts _ hlink) hd ⟨hR.1, by have := hR.2; show 8 + (maxL + 11) + 64 * d ≤ _; omega⟩
theorem xpre {as : List Value} (hP : xP E G h H) (hF : ∀ q : Nat, q < E.1 → H[q]? = s0.heap[q]?) (hK : xKn E s) (hA0 : s0.vm.Alike s.vm) (hRS : xRS sx s) : ∀ U : State, U.heap = H → s.WarmedH U.vm → xPc E G sx s0 as h (as.map (xv E.1 sx)).toArray U :=
  fun U hU hW => ⟨rfl, by rw [hU]; exact hP, fun q hq => by rw [hU]; exact hF q hq, hK.moved hW.alike, hA0.trans hW.alike, hRS.warm hW⟩
theorem xw_callV (hexec : p.tables.exec = Jvm.exec) (hb : c.code = cc) (hts : ∀ w ∈ T, w.before args s = true) (hown : s.vm.findClass own = some m.cls) (hml : c.maxLocals = ls.size) (hg : ∀ w ∈ T, goodWord w = true) (hK : xKn E s) (hA0 : s0.vm.Alike s.vm) (hRS : xRS sx s) (hP : xP E G h H) (hF : ∀ q : Nat, q < E.1 → H[q]? = s0.heap[q]?)
    {y : MethodName} {bytes : ByteArray} {maxL n index a ci : Nat} {ret : Option FieldType} {as rest : List Value} {r : vw_C} (hM : xMet l E G sx s0 y (Cond.code y bytes maxL ret :: T) d (.ref a :: as) h v h') (hcode : Cond.code y bytes maxL ret ∈ T) (hini : Cond.initialized y.cls ∈ T) (hlink : Cond.methodLink own index y ∈ T) (hinst : Cond.instanceMethod y ∈ T) (hsel : Cond.selects y.cls y y ∈ T) (hd : y.cls ≠ "java/lang/invoke/MethodHandle" ∧ y.cls ≠ "java/lang/invoke/VarHandle" ∧ (parseMethodDescriptor y.desc).map (fun d => d.parameters.length) = some n) (hL : maxL ≤ 45) (hR : d + 1 ≤ R.frames ∧ 64 * (d + 1) ≤ R.locals)
    (hi : xis h a (.inr ci)) (hcl : E.2.2.1[ci]? = some r) (hcn : r.1 = y.cls) (hn : as.length = n) (hW : (rest.map fun v => v.category).sum ≤ 8) (hf : cells + (h'.1 - h.1) ≤ R.cells ∧ slots + (xsl h' - xsl h) ≤ R.slots) (hdg : decode cc pc = .ok (.invokevirtual index, 3))
    (kk : ∀ (H1 : Heap) (L : List Loc), xP E G h' H1 → (∀ q : Nat, q < E.1 → H1[q]? = s0.heap[q]?) → (∀ q ∈ L, E.1 ≤ q.base) → W p l e R s m args below meth c H1 (locs ++ L) (cells + (h'.1 - h.1)) (slots + (xsl h' - xsl h)) Q (F0 m (pc + 3) ls ((v.map (xv E.1 sx)).toList ++ rest.map (xv E.1 sx)))) :
    W p l e R s m args below meth c H locs cells slots Q (F0 m pc ls ((as.map (xv E.1 sx)).reverse ++ .ref (E.1 + a) :: rest.map (xv E.1 sx))) := by
  have hat := (hP.2 a hi.1).1
  unfold xat at hat
  rw [hi.2] at hat
  obtain ⟨r', hr', cellV, g1, g2, g3, -⟩ := hat
  cases hcl.symm.trans hr'
  refine xw_after (y := y) (ws := T) (as := as) (va_runV (As := as.map (xv E.1 sx)) (rest := rest.map (xv E.1 sx)) (n := n) (C := y.cls) (bytes := bytes) (maxL := maxL) (ret := ret) ⟨hexec, hb, hml, hown, hts⟩ hM ⟨xw_callB hts hg hcode hini hlink hd hL hR, hts _ hinst, hts _ hsel⟩ ⟨xPc_blind _ _ _ _ _ _, ⟨cellV, g1, by rw [g3]; rfl, by rw [g2, ← hcn]; exact (hK.1 ci _ hcl).2.1⟩, xpre (as := .ref a :: as) hP hF hK hA0 hRS⟩ rfl (by rw [List.length_map]; exact hn) rfl rfl (lv_room (by rw [xv_cats]; exact hW)) hdg hf) kk
theorem xw_callS (hexec : p.tables.exec = Jvm.exec) (hb : c.code = cc) (hts : ∀ w ∈ T, w.before args s = true) (hown : s.vm.findClass own = some m.cls) (hml : c.maxLocals = ls.size) (hg : ∀ w ∈ T, goodWord w = true) (hK : xKn E s) (hA0 : s0.vm.Alike s.vm) (hRS : xRS sx s) (hP : xP E G h H) (hF : ∀ q : Nat, q < E.1 → H[q]? = s0.heap[q]?)
    {y : MethodName} {bytes : ByteArray} {maxL n index : Nat} {ret : Option FieldType} {as rest : List Value} (hM : xMet l E G sx s0 y (Cond.code y bytes maxL ret :: T) d as h v h') (hcode : Cond.code y bytes maxL ret ∈ T) (hini : Cond.initialized y.cls ∈ T) (hlink : Cond.methodLink own index y ∈ T) (hst : Cond.static y ∈ T) (hd : y.cls ≠ "java/lang/invoke/MethodHandle" ∧ y.cls ≠ "java/lang/invoke/VarHandle" ∧ (parseMethodDescriptor y.desc).map (fun d => d.parameters.length) = some n) (hL : maxL ≤ 45) (hR : d + 1 ≤ R.frames ∧ 64 * (d + 1) ≤ R.locals)
    (hn : as.length = n) (hW : (rest.map fun v => v.category).sum ≤ 8) (hf : cells + (h'.1 - h.1) ≤ R.cells ∧ slots + (xsl h' - xsl h) ≤ R.slots) (hdg : decode cc pc = .ok (.invokestatic index, 3))
    (kk : ∀ (H1 : Heap) (L : List Loc), xP E G h' H1 → (∀ q : Nat, q < E.1 → H1[q]? = s0.heap[q]?) → (∀ q ∈ L, E.1 ≤ q.base) → W p l e R s m args below meth c H1 (locs ++ L) (cells + (h'.1 - h.1)) (slots + (xsl h' - xsl h)) Q (F0 m (pc + 3) ls ((v.map (xv E.1 sx)).toList ++ rest.map (xv E.1 sx)))) :
    W p l e R s m args below meth c H locs cells slots Q (F0 m pc ls ((as.map (xv E.1 sx)).reverse ++ rest.map (xv E.1 sx))) :=
  xw_after (y := y) (ws := T) (as := as) (va_runS (As := as.map (xv E.1 sx)) (rest := rest.map (xv E.1 sx)) (n := n) (bytes := bytes) (maxL := maxL) (ret := ret) ⟨hexec, hb, hml, hown, hts⟩ hM ⟨xw_callB hts hg hcode hini hlink hd hL hR, hts _ hst⟩ ⟨xPc_blind _ _ _ _ _ _, xpre hP hF hK hA0 hRS⟩ rfl (by rw [List.length_map]; exact hn) rfl rfl (lv_room (by rw [xv_cats]; exact hW)) hdg hf) kk
theorem xw_callI (hexec : p.tables.exec = Jvm.exec) (hb : c.code = cc) (hts : ∀ w ∈ T, w.before args s = true) (hown : s.vm.findClass own = some m.cls) (hml : c.maxLocals = ls.size) (hg : ∀ w ∈ T, goodWord w = true) (hK : xKn E s) (hA0 : s0.vm.Alike s.vm) (hRS : xRS sx s) (hP : xP E G h H) (hF : ∀ q : Nat, q < E.1 → H[q]? = s0.heap[q]?)
    {y : MethodName} {bytes : ByteArray} {maxL n index a : Nat} {as rest : List Value} (hM : xMet l E G sx s0 y (Cond.code y bytes maxL none :: T) d (.ref a :: as) h v h') (hcode : Cond.code y bytes maxL none ∈ T) (hini : Cond.initialized y.cls ∈ T) (hlink : Cond.methodLink own index y ∈ T) (hinst : Cond.instanceMethod y ∈ T) (hy : y.name = "<init>") (hd : y.cls ≠ "java/lang/invoke/MethodHandle" ∧ y.cls ≠ "java/lang/invoke/VarHandle" ∧ (parseMethodDescriptor y.desc).map (fun d => d.parameters.length) = some n) (hL : maxL ≤ 45) (hR : d + 1 ≤ R.frames ∧ 64 * (d + 1) ≤ R.locals)
    (hn : as.length = n) (hW : (rest.map fun v => v.category).sum ≤ 8) (hf : cells + (h'.1 - h.1) ≤ R.cells ∧ slots + (xsl h' - xsl h) ≤ R.slots) (hdg : decode cc pc = .ok (.invokespecial index, 3))
    (kk : ∀ (H1 : Heap) (L : List Loc), xP E G h' H1 → (∀ q : Nat, q < E.1 → H1[q]? = s0.heap[q]?) → (∀ q ∈ L, E.1 ≤ q.base) → W p l e R s m args below meth c H1 (locs ++ L) (cells + (h'.1 - h.1)) (slots + (xsl h' - xsl h)) Q (F0 m (pc + 3) ls ((v.map (xv E.1 sx)).toList ++ rest.map (xv E.1 sx)))) :
    W p l e R s m args below meth c H locs cells slots Q (F0 m pc ls ((as.map (xv E.1 sx)).reverse ++ .ref (E.1 + a) :: rest.map (xv E.1 sx))) :=
  xw_after (y := y) (ws := T) (as := as) (va_runI (As := as.map (xv E.1 sx)) (rest := rest.map (xv E.1 sx)) (n := n) (bytes := bytes) (maxL := maxL) ⟨hexec, hb, hml, hown, hts⟩ hM ⟨xw_callB hts hg hcode hini hlink hd hL hR, hy, hts _ hinst⟩ ⟨xPc_blind _ _ _ _ _ _, xpre (as := .ref a :: as) hP hF hK hA0 hRS⟩ rfl (by rw [List.length_map]; exact hn) rfl rfl (lv_room (by rw [xv_cats]; exact hW)) hdg hf) kk
end XC
