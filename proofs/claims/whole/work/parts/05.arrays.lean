theorem xP.arr {E : xE} {G : xG} {h : xH} {H : Heap} (hP : xP E G h H) {a : Nat} {ty : FieldType} (hi : xis h a (.inl ty)) : H[E.1 + a]? = some (arrV (E.2.2.2.1 ty) (xlen h a) (fun j => xfv E.1 ty (xI h a j) (xJ h a j) (xR h a j))) ∧ ty ∈ E.2.2.2.2 := by
  obtain ⟨h1, h2⟩ := hP.2 a hi.1
  unfold xat at h1
  unfold xwf at h2
  rw [hi.2] at h1 h2
  exact ⟨h1, h2⟩
theorem xP.arrU {E : xE} {G : xG} {h h' : xH} {H H1 : Heap} (hP : xP E G h H) {a : Nat} {ty : FieldType} (hi : xis h a (.inl ty)) (hs : xsame h h' a) (hz : H1.size = H.size) (oq : ∀ q : Nat, q ≠ E.1 + a → H1[q]? = H[q]?) (hH : H1[E.1 + a]? = some (arrV (E.2.2.2.1 ty) (xlen h a) (fun j => xfv E.1 ty (xI h' a j) (xJ h' a j) (xR h' a j)))) : xP E G h' H1 := by
  refine hP.upd hs hz oq ?_
  unfold xat
  rw [hs.2.1, hi.2]
  exact hH
theorem xnew_sh (h : xH) (k : (FieldType ⊕ Nat) × Nat) : (xnew h k).2.1 h.1 = k := by show (if h.1 = h.1 then _ else _) = _; rw [if_pos rfl]
theorem xnew_I (h : xH) (k : (FieldType ⊕ Nat) × Nat) (j : Nat) : xI (xnew h k) h.1 j = 0 := by show upr _ h.1 _ h.1 j = 0; rw [upr_eq]
theorem xnew_J (h : xH) (k : (FieldType ⊕ Nat) × Nat) (j : Nat) : xJ (xnew h k) h.1 j = 0 := by show upr _ h.1 _ h.1 j = 0; rw [upr_eq]
theorem xnew_R (h : xH) (k : (FieldType ⊕ Nat) × Nat) (j : Nat) : xR (xnew h k) h.1 j = none := by show upr _ h.1 _ h.1 j = none; rw [upr_eq]
section XA
variable {p : Program} {l : Launch} {e : Env} {R : Room} {s : State} {m : MethodId} {args : Array Value} {below : List Frame} {meth : Method} {c : Code} {H : Heap} {locs : List Loc} {cells slots : Nat} {Q : State → Prop}
variable {cc : ByteArray} {pc : Nat} {ls : Array Slot} {rest : List Value} {T : List Cond} {E : xE} {G : xG} {h : xH} {own : String}
theorem xw_alen (hexec : p.tables.exec = Jvm.exec) (hb : c.code = cc) (hK : xKn E s) (hP : xP E G h H) {a : Nat} {ty : FieldType} (hi : xis h a (.inl ty)) (hdg : decode cc pc = .ok (.arraylength, 1))
    (kk : W p l e R s m args below meth c H locs cells slots Q (F0 m (pc + 1) ls (.int (Int32.ofNat (xlen h a)) :: rest))) : W p l e R s m args below meth c H locs cells slots Q (F0 m pc ls (.ref (E.1 + a) :: rest)) := by
  obtain ⟨h1, h2⟩ := hP.arr hi
  exact W.alen (n := Int32.ofNat (xlen h a)) hexec hb h1 ((hK.2 ty h2).1 _ _) (by rw [arrV_size]) rfl rfl hdg kk
theorem xw_iald (hexec : p.tables.exec = Jvm.exec) (hb : c.code = cc) (hK : xKn E s) (hP : xP E G h H) {a : Nat} {i : Int32} (hi : xis h a (.inl .int)) (hin : vp_in i (xlen h a)) (hdg : decode cc pc = .ok (.iaload, 1))
    (kk : W p l e R s m args below meth c H locs cells slots Q (F0 m (pc + 1) ls (.int (xI h a i.toNatClampNeg) :: rest))) : W p l e R s m args below meth c H locs cells slots Q (F0 m pc ls (.int i :: .ref (E.1 + a) :: rest)) := by
  have hlt : i.toNatClampNeg < xlen h a := Nat.not_le.mp fun q => hin (Or.inr q)
  obtain ⟨h1, h2⟩ := hP.arr hi
  exact W.iald (v := .int (xI h a i.toNatClampNeg)) hexec hb h1 ((hK.2 _ h2).1 _ _) (fun q => by cases q) (by rw [arrV_size]; exact hin) (by rw [arrV_read _ _ hlt]; rfl) rfl rfl hdg kk
theorem xw_bald (hexec : p.tables.exec = Jvm.exec) (hb : c.code = cc) (hK : xKn E s) (hP : xP E G h H) {a : Nat} {i : Int32} (hi : xis h a (.inl .byte) ∨ xis h a (.inl .boolean)) (hin : vp_in i (xlen h a)) (hdg : decode cc pc = .ok (.baload, 1))
    (kk : W p l e R s m args below meth c H locs cells slots Q (F0 m (pc + 1) ls (.int (xI h a i.toNatClampNeg) :: rest))) : W p l e R s m args below meth c H locs cells slots Q (F0 m pc ls (.int i :: .ref (E.1 + a) :: rest)) := by
  have hlt : i.toNatClampNeg < xlen h a := Nat.not_le.mp fun q => hin (Or.inr q)
  rcases hi with hi | hi
  · obtain ⟨h1, h2⟩ := hP.arr hi
    exact W.bald (v := .int (xI h a i.toNatClampNeg)) hexec hb h1 ((hK.2 _ h2).1 _ _) (fun q => by cases q) (by rw [arrV_size]; exact hin) (by rw [arrV_read _ _ hlt]; rfl) rfl rfl hdg kk
  · obtain ⟨h1, h2⟩ := hP.arr hi
    exact W.zald (v := .int (xI h a i.toNatClampNeg)) hexec hb h1 ((hK.2 _ h2).1 _ _) (fun q => by cases q) (by rw [arrV_size]; exact hin) (by rw [arrV_read _ _ hlt]; rfl) rfl rfl hdg kk
theorem xw_lald (hexec : p.tables.exec = Jvm.exec) (hb : c.code = cc) (hK : xKn E s) (hP : xP E G h H) {a : Nat} {i : Int32} (hi : xis h a (.inl .long)) (hin : vp_in i (xlen h a)) (hdg : decode cc pc = .ok (.laload, 1))
    (kk : W p l e R s m args below meth c H locs cells slots Q (F0 m (pc + 1) ls (.long (xJ h a i.toNatClampNeg) :: rest))) : W p l e R s m args below meth c H locs cells slots Q (F0 m pc ls (.int i :: .ref (E.1 + a) :: rest)) := by
  have hlt : i.toNatClampNeg < xlen h a := Nat.not_le.mp fun q => hin (Or.inr q)
  obtain ⟨h1, h2⟩ := hP.arr hi
  exact W.lald (v := .long (xJ h a i.toNatClampNeg)) hexec hb h1 ((hK.2 _ h2).1 _ _) (fun q => by cases q) (by rw [arrV_size]; exact hin) (by rw [arrV_read _ _ hlt]; rfl) rfl rfl hdg kk
theorem xw_aald (hexec : p.tables.exec = Jvm.exec) (hb : c.code = cc) (hK : xKn E s) (hP : xP E G h H) {a : Nat} {i : Int32} {ty : FieldType} (hi : xis h a (.inl ty)) (hr : xkR ty) (hin : vp_in i (xlen h a)) (hdg : decode cc pc = .ok (.aaload, 1))
    (kk : W p l e R s m args below meth c H locs cells slots Q (F0 m (pc + 1) ls (va_rf ((xR h a i.toNatClampNeg).map (E.1 + ·)) :: rest))) : W p l e R s m args below meth c H locs cells slots Q (F0 m pc ls (.int i :: .ref (E.1 + a) :: rest)) := by
  have hlt : i.toNatClampNeg < xlen h a := Nat.not_le.mp fun q => hin (Or.inr q)
  obtain ⟨h1, h2⟩ := hP.arr hi
  exact W.aald (v := va_rf ((xR h a i.toNatClampNeg).map (E.1 + ·))) hexec hb h1 ((hK.2 _ h2).1 _ _) (by rcases hr with ⟨n, rfl⟩ | ⟨n, rfl⟩ <;> rfl) (fun q => by cases q) (by rw [arrV_size]; exact hin) (by rw [arrV_read _ _ hlt, xfv_R hr]) rfl rfl hdg kk
theorem xw_iast (hexec : p.tables.exec = Jvm.exec) (hb : c.code = cc) (hK : xKn E s) (hP : xP E G h H) {a : Nat} {i x : Int32} (hi : xis h a (.inl .int)) (hin : vp_in i (xlen h a)) (hdg : decode cc pc = .ok (.iastore, 1))
    (kk : ∀ (H1 : Heap) (j : Nat), xP E G (setI h a i.toNatClampNeg x) H1 → (∀ q : Nat, q ≠ E.1 + a → H1[q]? = H[q]?) → W p l e R s m args below meth c H1 (locs ++ [⟨E.1 + a, j⟩]) cells slots Q (F0 m (pc + 1) ls rest)) : W p l e R s m args below meth c H locs cells slots Q (F0 m pc ls (.int x :: .int i :: .ref (E.1 + a) :: rest)) := by
  obtain ⟨h1, h2⟩ := hP.arr hi
  refine W.iast hexec hb h1 ((hK.2 _ h2).1 _ _) (fun q => by cases q) (by rw [arrV_size]; exact hin) rfl rfl hdg fun H1 e1 z oq => ?_
  refine kk H1 _ (hP.arrU hi (xsame_I h a _ x) z oq ?_) oq
  rw [e1, arrV_store]
  congr 2
  funext j
  show updV _ _ _ _ = Value.int (up2 h.2.2.1 a i.toNatClampNeg x a j)
  rw [up2_self]
  unfold updV
  split <;> rfl
theorem xw_bast (hexec : p.tables.exec = Jvm.exec) (hb : c.code = cc) (hK : xKn E s) (hP : xP E G h H) {a : Nat} {i x : Int32} {ty : FieldType} (hi : xis h a (.inl ty)) (hty : ty = .byte ∨ ty = .boolean) (hin : vp_in i (xlen h a)) (hdg : decode cc pc = .ok (.bastore, 1))
    (kk : ∀ (H1 : Heap) (j : Nat), xP E G (setI h a i.toNatClampNeg (xcut ty x)) H1 → (∀ q : Nat, q ≠ E.1 + a → H1[q]? = H[q]?) → W p l e R s m args below meth c H1 (locs ++ [⟨E.1 + a, j⟩]) cells slots Q (F0 m (pc + 1) ls rest)) : W p l e R s m args below meth c H locs cells slots Q (F0 m pc ls (.int x :: .int i :: .ref (E.1 + a) :: rest)) := by
  obtain ⟨h1, h2⟩ := hP.arr hi
  rcases hty with rfl | rfl
  · refine W.bast hexec hb h1 ((hK.2 _ h2).1 _ _) (fun q => by cases q) (by rw [arrV_size]; exact hin) rfl rfl hdg fun H1 e1 z oq => ?_
    refine kk H1 _ (hP.arrU hi (xsame_I h a _ _) z oq ?_) oq
    rw [e1, arrV_store]
    congr 2
    funext j
    show updV _ _ _ _ = Value.int (up2 h.2.2.1 a i.toNatClampNeg _ a j)
    rw [up2_self]
    unfold updV
    split <;> rfl
  · refine W.zast hexec hb h1 ((hK.2 _ h2).1 _ _) (fun q => by cases q) (by rw [arrV_size]; exact hin) rfl rfl hdg fun H1 e1 z oq => ?_
    refine kk H1 _ (hP.arrU hi (xsame_I h a _ _) z oq ?_) oq
    rw [e1, arrV_store]
    congr 2
    funext j
    show updV _ _ _ _ = Value.int (up2 h.2.2.1 a i.toNatClampNeg _ a j)
    rw [up2_self]
    unfold updV
    split <;> rfl
theorem xw_last (hexec : p.tables.exec = Jvm.exec) (hb : c.code = cc) (hK : xKn E s) (hP : xP E G h H) {a : Nat} {i : Int32} {x : Int64} (hi : xis h a (.inl .long)) (hin : vp_in i (xlen h a)) (hdg : decode cc pc = .ok (.lastore, 1))
    (kk : ∀ (H1 : Heap) (j : Nat), xP E G (setJ h a i.toNatClampNeg x) H1 → (∀ q : Nat, q ≠ E.1 + a → H1[q]? = H[q]?) → W p l e R s m args below meth c H1 (locs ++ [⟨E.1 + a, j⟩]) cells slots Q (F0 m (pc + 1) ls rest)) : W p l e R s m args below meth c H locs cells slots Q (F0 m pc ls (.long x :: .int i :: .ref (E.1 + a) :: rest)) := by
  obtain ⟨h1, h2⟩ := hP.arr hi
  refine W.last hexec hb h1 ((hK.2 _ h2).1 _ _) (fun q => by cases q) (by rw [arrV_size]; exact hin) rfl rfl hdg fun H1 e1 z oq => ?_
  refine kk H1 _ (hP.arrU hi (xsame_J h a _ x) z oq ?_) oq
  rw [e1, arrV_store]
  congr 2
  funext j
  show updV _ _ _ _ = Value.long (up2 h.2.2.2.1 a i.toNatClampNeg x a j)
  rw [up2_self]
  unfold updV
  split <;> rfl
theorem xw_aast (hexec : p.tables.exec = Jvm.exec) (hb : c.code = cc) (hK : xKn E s) (hP : xP E G h H) {a x ci : Nat} {i : Int32} {r : vw_C} (hx : xis h x (.inr ci)) (hcl : E.2.2.1[ci]? = some r) (hi : xis h a (.inl (.object r.1))) (hin : vp_in i (xlen h a)) (hdg : decode cc pc = .ok (.aastore, 1))
    (kk : ∀ (H1 : Heap) (j : Nat), xP E G (setR h a i.toNatClampNeg (some x)) H1 → (∀ q : Nat, q ≠ E.1 + a → H1[q]? = H[q]?) → W p l e R s m args below meth c H1 (locs ++ [⟨E.1 + a, j⟩]) cells slots Q (F0 m (pc + 1) ls rest)) : W p l e R s m args below meth c H locs cells slots Q (F0 m pc ls (.ref (E.1 + x) :: .int i :: .ref (E.1 + a) :: rest)) := by
  have hlt : i.toNatClampNeg < xlen h a := Nat.not_le.mp fun q => hin (Or.inr q)
  have h0 : ¬ i < 0 := fun q => hin (Or.inl q)
  obtain ⟨h1, h2⟩ := hP.arr hi
  have hat := (hP.2 x hx.1).1
  unfold xat at hat
  rw [hx.2] at hat
  obtain ⟨r', hr', cellV, g1, g2, g3, -⟩ := hat
  have hcls := (hK.1 ci r hcl).2
  obtain ⟨kA, comp, k1, k2, k3, -⟩ := (hK.2 _ h2).2
  have hcomp : comp = E.2.1.1 ci := Option.some.inj (k3.symm.trans hcls.1)
  subst hcomp
  obtain ⟨kC, hkC, -⟩ := hcls.2
  refine W.aast hexec hb h1 (fun q h => by cases h) (fun h => by cases h) k1 k2 rfl hkC ⟨h0, by rw [arrV_size]; exact hlt⟩ g1 (fun q h => by rw [g3] at h; cases h) (by rw [g2]; exact hkC) (by rw [g2]; exact va_assign hcls) rfl rfl hdg fun H1 e1 z oq => ?_
  refine kk H1 _ (hP.arrU hi (xsame_R h a _ _) z oq ?_) oq
  rw [e1, arrV_store]
  congr 2
  funext j
  show updV _ _ _ _ = va_rf ((up2 h.2.2.2.2 a i.toNatClampNeg (some x) a j).map (E.1 + ·))
  rw [up2_self]
  unfold updV
  split <;> rfl
theorem xw_newa (hexec : p.tables.exec = Jvm.exec) (hb : c.code = cc) (hts : ∀ w ∈ T, w.before args s = true) (hK : xKn E s) (hP : xP E G h H) {t : ArrayType} (ht : t = .int ∨ t = .byte ∨ t = .long ∨ t = .boolean) (hw : Cond.arrayClass (newarray.typeOf t) ∈ T) (hm : newarray.typeOf t ∈ E.2.2.2.2) {n : Int32} (hn : ¬ n < 0) (hN : n.toNatClampNeg ≤ 1000000) (hcells : cells + 1 ≤ R.cells) (hslots : slots + n.toNatClampNeg ≤ R.slots) (hdg : decode cc pc = .ok (.newarray t, 2))
    (kk : ∀ H1 : Heap, xP E G (xnew h (.inl (newarray.typeOf t), n.toNatClampNeg)) H1 → (∀ q : Nat, q < E.1 + h.1 → H1[q]? = H[q]?) → W p l e R s m args below meth c H1 locs (cells + 1) (slots + n.toNatClampNeg) Q (F0 m (pc + 2) ls (.ref (E.1 + h.1) :: rest))) : W p l e R s m args below meth c H locs cells slots Q (F0 m pc ls (.int n :: rest)) := by
  refine va_newaK hexec hb (hts _ hw) rfl hdg rfl hn rfl (by rcases ht with rfl | rfl | rfl | rfl <;> simp [componentBytes, newarray.typeOf] <;> omega) hcells hslots hP.1 fun H1 cA e1 z1 o1 hAr hNm => ?_
  have hcA : cA = E.2.2.2.1 (newarray.typeOf t) := by
    have h2 := (hK.2 _ hm).2
    have h3 : s.vm.findClass ("[" ++ (newarray.typeOf t).toString) = some (E.2.2.2.1 (newarray.typeOf t)) := by rcases ht with rfl | rfl | rfl | rfl <;> exact h2
    exact Option.some.inj (hNm.symm.trans h3)
  refine kk H1 (hP.new z1 o1 ?_ hm) o1
  unfold xat
  rw [xnew_sh]
  show H1[E.1 + h.1]? = _
  rw [e1, hcA]
  congr 2
  funext j
  rw [xnew_I, xnew_J, xnew_R]
  rcases ht with rfl | rfl | rfl | rfl <;> rfl
theorem xw_newr (hexec : p.tables.exec = Jvm.exec) (hb : c.code = cc) (hts : ∀ w ∈ T, w.before args s = true) (hown : s.vm.findClass own = some m.cls) (hK : xKn E s) (hP : xP E G h H) {C : String} {index : Nat} (hlink : Cond.classLink own index C ∈ T) (hov : va_AO C s) (hm : FieldType.object C ∈ E.2.2.2.2) {n : Int32} (hn : ¬ n < 0) (hN : n.toNatClampNeg ≤ 1000000) (hcells : cells + 1 ≤ R.cells) (hslots : slots + n.toNatClampNeg ≤ R.slots) (hdg : decode cc pc = .ok (.anewarray index, 3))
    (kk : ∀ H1 : Heap, xP E G (xnew h (.inl (.object C), n.toNatClampNeg)) H1 → (∀ q : Nat, q < E.1 + h.1 → H1[q]? = H[q]?) → W p l e R s m args below meth c H1 locs (cells + 1) (slots + n.toNatClampNeg) Q (F0 m (pc + 3) ls (.ref (E.1 + h.1) :: rest))) : W p l e R s m args below meth c H locs cells slots Q (F0 m pc ls (.int n :: rest)) := by
  refine W.anew hexec hb hown (hts _ hlink) (va_AO.use hov) rfl hdg rfl hn (by omega) hcells hslots fun cA kA comp f1 f2 f3 f4 => ?_
  obtain ⟨_, _, _, _, _, h4⟩ := (hK.2 _ hm).2
  have hcA : cA = E.2.2.2.1 (.object C) := Option.some.inj (f1.symm.trans h4)
  have o1 : ∀ q : Nat, q < E.1 + h.1 → (H.push { cls := cA, slots := Array.replicate n.toNatClampNeg .null, vm := .none })[q]? = H[q]? := fun q hq => by
    rw [Array.getElem?_push, if_neg (by rw [hP.1]; omega)]
  rw [hP.1]
  refine kk _ (hP.new (by simp [hP.1]) o1 ?_ hm) o1
  unfold xat
  rw [xnew_sh]
  show (H.push _)[E.1 + h.1]? = _
  rw [← hP.1, Array.getElem?_push, if_pos rfl, arrV_new, hcA]
  congr 2
  funext j
  rw [xnew_I, xnew_J, xnew_R]
  rfl
theorem xw_copy (hexec : p.tables.exec = Jvm.exec) (hb : c.code = cc) (hml : c.maxLocals = ls.size) (hts : ∀ w ∈ T, w.before args s = true) (hown : s.vm.findClass own = some m.cls) (hK : xKn E s) (hP : xP E G h H) {index : Nat} (hlink : Cond.methodLink own index arraycopyName ∈ T) (hnat : Cond.native arraycopyName ∈ T) (hstat : Cond.static arraycopyName ∈ T) (hini : Cond.initialized "java/lang/System" ∈ T) {a0 a : Nat} (hi0 : xis h a0 (.inl .int)) (hi : xis h a (.inl .int))
    {sp dp n : Int32} (h1 : ¬ sp < 0) (h2 : ¬ dp < 0) (h3 : ¬ n < 0) (h4 : sp.toNatClampNeg + n.toNatClampNeg ≤ xlen h a0) (h5 : dp.toNatClampNeg + n.toNatClampNeg ≤ xlen h a)
    (hframes : 1 ≤ R.frames) (hlocals : (rest.map fun v => v.category).sum + 18 ≤ R.locals) (hdg : decode cc pc = .ok (.invokestatic index, 3))
    (kk : ∀ (H1 : Heap) (L : List Loc), xP E G (rowI h a (va_cpy (xI h a0) (xI h a) sp.toNatClampNeg dp.toNatClampNeg n.toNatClampNeg)) H1 → (∀ q : Nat, q ≠ E.1 + a → H1[q]? = H[q]?) → (∀ q ∈ L, q.base = E.1 + a) → W p l e R s m args below meth c H1 (locs ++ L) cells slots Q (F0 m (pc + 3) ls rest)) : W p l e R s m args below meth c H locs cells slots Q (F0 m pc ls (.int n :: .int dp :: .ref (E.1 + a) :: .int sp :: .ref (E.1 + a0) :: rest)) := by
  have nn : ∀ z : Int32, ¬ z < 0 → z.toInt = (z.toNatClampNeg : Int) := by
    intro z hz
    have hz0 : (0 : Int) ≤ z.toInt := by
      have := Int32.not_lt.mp hz
      simpa using Int32.le_iff_toInt_le.mp this
    show z.toInt = ((z.toInt.toNat : Nat) : Int)
    omega
  obtain ⟨hc0, ht0⟩ := hP.arr hi0
  obtain ⟨hc1, -⟩ := hP.arr hi
  have hq0 : (fun j => xfv E.1 .int (xI h a0 j) (xJ h a0 j) (xR h a0 j)) = (fun j => Value.int (xI h a0 j)) := rfl
  have hq1 : (fun j => xfv E.1 .int (xI h a j) (xJ h a j) (xR h a j)) = (fun j => Value.int (xI h a j)) := rfl
  rw [hq0] at hc0
  rw [hq1] at hc1
  have hnf : nativeFrameWords "java/lang/System" "arraycopy" 5 = 7 := by decide
  intro U hT X
  obtain ⟨-, k0, hk0, cm0, hkk0⟩ := (hK.2 _ ht0).1 (xlen h a0) (fun j => .int (xI h a0 j))
  obtain ⟨vm', X', step⟩ := X.arraycopy hexec hown (hts _ hlink) (hts _ hnat) (hts _ hstat) (hts _ hini) (src := E.1 + a0) (dst := E.1 + a) (cs := arrV (E.2.2.2.1 .int) (xlen h a0) (fun j => .int (xI h a0 j))) (cd := arrV (E.2.2.2.1 .int) (xlen h a) (fun j => .int (xI h a j))) (srcPos := sp) (destPos := dp) (n := n) (by rw [hT]; exact hc0) (by rw [hT]; exact hc1)
    (fun _ h => by cases h) (fun _ h => by cases h) (fun h => by cases h) (fun h => by cases h) hk0 hk0 hkk0 hkk0 (by decide) h1 h2 h3
    (by rw [nn sp h1, nn n h3, arrV_size]; omega)
    (by rw [nn dp h2, nn n h3, arrV_size]; omega)
    (fun vm₁ _ i hi => by
      have e : (arrV (E.2.2.2.1 .int) (xlen h a0) (fun j => Value.int (xI h a0 j))).slots.getD (sp.toNatClampNeg + i) .null = .int (xI h a0 (sp.toNatClampNeg + i)) := by
        rw [Array.getD_eq_getD_getElem?, arrV_read _ _ (by omega)]
        rfl
      refine ⟨?_, ?_⟩
      · rw [e]; rfl
      · rw [e]; exact trivial)
    (g := F0 m pc ls (.int n :: .int dp :: .ref (E.1 + a) :: .int sp :: .ref (E.1 + a0) :: rest)) rfl (by rw [hml]) (rest := rest) rfl (by rw [hb]; exact hdg) hframes (by show 2 * 0 + _ + (nativeFrameWords "java/lang/System" "arraycopy" 5 + 11) ≤ _; rw [hnf]; omega)
  have e1 : copied (arrV (E.2.2.2.1 .int) (xlen h a0) (fun j => .int (xI h a0 j))) (arrV (E.2.2.2.1 .int) (xlen h a) (fun j => .int (xI h a j))) sp dp n = arrV (E.2.2.2.1 .int) (xlen h a) (fun j => Value.int (va_cpy (xI h a0) (xI h a) sp.toNatClampNeg dp.toNatClampNeg n.toNatClampNeg j)) := va_copied (fun z => .int z) _ _ _ _ h4
  rw [e1] at X' step
  have hl : E.1 + a < H.size := (Array.getElem?_eq_some_iff.mp hc1).1
  generalize hcell : arrV (E.2.2.2.1 .int) (xlen h a) (fun j => Value.int (va_cpy (xI h a0) (xI h a) sp.toNatClampNeg dp.toNatClampNeg n.toNatClampNeg j)) = cn at X' step
  have hheap : ((U.setVm vm').setCell (E.1 + a) cn).heap = H.setIfInBounds (E.1 + a) cn := by rw [← hT]; rfl
  have oq : ∀ q : Nat, q ≠ E.1 + a → (H.setIfInBounds (E.1 + a) cn)[q]? = H[q]? := fun q hq => by simp [Array.getElem?_setIfInBounds, Ne.symm hq]
  have hH : (H.setIfInBounds (E.1 + a) cn)[E.1 + a]? = some (arrV (E.2.2.2.1 .int) (xlen h a) (fun j => xfv E.1 .int (xI (rowI h a (va_cpy (xI h a0) (xI h a) sp.toNatClampNeg dp.toNatClampNeg n.toNatClampNeg)) a j) (xJ (rowI h a (va_cpy (xI h a0) (xI h a) sp.toNatClampNeg dp.toNatClampNeg n.toNatClampNeg)) a j) (xR (rowI h a (va_cpy (xI h a0) (xI h a) sp.toNatClampNeg dp.toNatClampNeg n.toNatClampNeg)) a j))) := by
    have e9 : (H.setIfInBounds (E.1 + a) cn)[E.1 + a]? = some cn := by simp [Array.getElem?_setIfInBounds, hl]
    rw [e9, ← hcell]
    congr 2
    funext j
    show _ = Value.int (upr h.2.2.1 a _ a j)
    rw [upr_eq]
  obtain ⟨t, a1, b1⟩ := kk _ _ (hP.arrU hi (xsame_row h a _) (by simp) oq hH) oq (fun q hq => by
      obtain ⟨z, -, hz⟩ := List.mem_map.mp hq
      rw [← hz]) _ hheap X'
  exact ⟨t, step t a1, b1⟩
end XA
