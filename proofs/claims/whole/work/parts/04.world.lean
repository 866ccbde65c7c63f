/-! the pure heap beside the machine's: place a stands at the address b + a -/
def xv (b : Nat) (sx : UInt32 → Nat) (v : Value) : Value := match v with
  | .ref a => .ref (b + a)
  | .float u => .ref (sx u)
  | v => v
theorem xv_cat (b : Nat) (sx : UInt32 → Nat) (v : Value) : (xv b sx v).category = v.category := by cases v <;> rfl
theorem xv_cats (b : Nat) (sx : UInt32 → Nat) (st : List Value) : ((st.map (xv b sx)).map fun v => v.category).sum = (st.map fun v => v.category).sum := by
  rw [List.map_map]
  congr 1
  exact List.map_congr_left (fun v _ => xv_cat b sx v)
def xfv (b : Nat) (ty : FieldType) (x : Int32) (y : Int64) (r : Option Nat) : Value := match ty with
  | .long => .long y
  | .object _ => va_rf (r.map (b + ·))
  | .array _ => va_rf (r.map (b + ·))
  | _ => .int x
theorem xv_xrf (b : Nat) (sx : UInt32 → Nat) (r : Option Nat) : xv b sx (xrf r) = va_rf (r.map (b + ·)) := by cases r <;> rfl
/-- the tables of a world: the base, classes and fields' slots, classes, arrays' classes, types of arrays -/
abbrev xE : Type := Nat × va_G × List vw_C × (FieldType → ClassId) × List FieldType
def xat (E : xE) (ft : Nat → Nat → FieldType) (h : xH) (k : Nat) (H : Heap) : Prop := match (h.2.1 k).1 with
  | .inl ty => H[E.1 + k]? = some (arrV (E.2.2.2.1 ty) (h.2.1 k).2 (fun j => xfv E.1 ty (xI h k j) (xJ h k j) (xR h k j)))
  | .inr ci => ∃ r : vw_C, E.2.2.1[ci]? = some r ∧ t_OB (E.1 + k) (E.2.1.1 ci) r.2.2 (E.2.1.2 ci) H (fun j => xfv E.1 (ft ci j) (xI h k j) (xJ h k j) (xR h k j))
def xwf (E : xE) (nf : Nat → Nat) (h : xH) (k : Nat) : Prop := match (h.2.1 k).1 with
  | .inl ty => ty ∈ E.2.2.2.2
  | .inr ci => (h.2.1 k).2 = nf ci
def xP (E : xE) (G : xG) (h : xH) (H : Heap) : Prop := H.size = E.1 + h.1 ∧ ∀ k, k < h.1 → xat E G.2.2.2.1 h k H ∧ xwf E G.1 h k
def xsame (h h' : xH) (a : Nat) : Prop := h'.1 = h.1 ∧ h'.2.1 = h.2.1 ∧ ∀ k, k ≠ a → xI h' k = xI h k ∧ xJ h' k = xJ h k ∧ xR h' k = xR h k
theorem xat.kept {E : xE} {ft : Nat → Nat → FieldType} {h h' : xH} {k : Nat} {H H1 : Heap} (hA : xat E ft h k H) (hs : h'.2.1 k = h.2.1 k) (hi : xI h' k = xI h k) (hj : xJ h' k = xJ h k) (hr : xR h' k = xR h k) (hq : H1[E.1 + k]? = H[E.1 + k]?) : xat E ft h' k H1 := by
  unfold xat at hA ⊢
  rw [hs, hi, hj, hr]
  cases hc : (h.2.1 k).1 with
  | inl ty => rw [hc] at hA; simp only at hA ⊢; rw [hq]; exact hA
  | inr ci =>
    rw [hc] at hA; simp only at hA ⊢
    obtain ⟨r, h1, h2⟩ := hA
    exact ⟨r, h1, h2.kept hq⟩
theorem xP.upd {E : xE} {G : xG} {h h' : xH} {a : Nat} {H H1 : Heap} (hP : xP E G h H) (hs : xsame h h' a) (hz : H1.size = H.size) (oq : ∀ q : Nat, q ≠ E.1 + a → H1[q]? = H[q]?) (ha : xat E G.2.2.2.1 h' a H1) : xP E G h' H1 := by
  obtain ⟨s1, s2, s3⟩ := hs
  refine ⟨by rw [hz, hP.1, s1], fun k hk => ?_⟩
  rw [s1] at hk
  obtain ⟨p1, p2⟩ := hP.2 k hk
  refine ⟨?_, by unfold xwf at p2 ⊢; rw [s2]; exact p2⟩
  by_cases e : k = a
  · subst e; exact ha
  · obtain ⟨i1, i2, i3⟩ := s3 k e
    exact p1.kept (by rw [s2]) i1 i2 i3 (oq _ (by omega))
theorem upr_ne {α : Type} {f : Nat → Nat → α} {a b : Nat} {g : Nat → α} (h : b ≠ a) : upr f a g b = f b := by unfold upr; rw [if_neg h]
theorem upr_eq {α : Type} {f : Nat → Nat → α} {a : Nat} {g : Nat → α} : upr f a g a = g := by unfold upr; rw [if_pos rfl]
theorem xP.new {E : xE} {G : xG} {h : xH} {k : (FieldType ⊕ Nat) × Nat} {H H1 : Heap} (hP : xP E G h H) (hz : H1.size = E.1 + h.1 + 1) (oq : ∀ q : Nat, q < E.1 + h.1 → H1[q]? = H[q]?) (ha : xat E G.2.2.2.1 (xnew h k) h.1 H1) (hw : match k.1 with | .inl ty => ty ∈ E.2.2.2.2 | .inr ci => k.2 = G.1 ci) : xP E G (xnew h k) H1 := by
  refine ⟨by rw [hz]; rfl, fun j hj => ?_⟩
  by_cases e : j = h.1
  · subst e
    refine ⟨ha, ?_⟩
    unfold xwf
    show (match (if h.1 = h.1 then k else h.2.1 h.1).1 with | .inl ty => ty ∈ E.2.2.2.2 | .inr ci => (if h.1 = h.1 then k else h.2.1 h.1).2 = G.1 ci)
    rw [if_pos rfl]
    exact hw
  · have hj' : j < h.1 := by have : j < h.1 + 1 := hj; omega
    obtain ⟨p1, p2⟩ := hP.2 j hj'
    have es : (xnew h k).2.1 j = h.2.1 j := by show (if j = h.1 then k else h.2.1 j) = _; rw [if_neg e]
    refine ⟨p1.kept es (upr_ne e) (upr_ne e) (upr_ne e) (oq _ (by omega)), ?_⟩
    unfold xwf at p2 ⊢
    rw [es]; exact p2
theorem xsame_I (h : xH) (a j : Nat) (x : Int32) : xsame h (setI h a j x) a := ⟨rfl, rfl, fun k hk => ⟨by funext i; show up2 h.2.2.1 a j x k i = h.2.2.1 k i; unfold up2; rw [if_neg (fun q => hk q.1)], rfl, rfl⟩⟩
theorem xsame_J (h : xH) (a j : Nat) (x : Int64) : xsame h (setJ h a j x) a := ⟨rfl, rfl, fun k hk => ⟨rfl, by funext i; show up2 h.2.2.2.1 a j x k i = h.2.2.2.1 k i; unfold up2; rw [if_neg (fun q => hk q.1)], rfl⟩⟩
theorem xsame_R (h : xH) (a j : Nat) (x : Option Nat) : xsame h (setR h a j x) a := ⟨rfl, rfl, fun k hk => ⟨rfl, rfl, by funext i; show up2 h.2.2.2.2 a j x k i = h.2.2.2.2 k i; unfold up2; rw [if_neg (fun q => hk q.1)]⟩⟩
theorem xsame_row (h : xH) (a : Nat) (g : Nat → Int32) : xsame h (rowI h a g) a := ⟨rfl, rfl, fun k hk => ⟨upr_ne hk, rfl, rfl⟩⟩
theorem up2_self {α : Type} (f : Nat → Nat → α) (a j : Nat) (x : α) (i : Nat) : up2 f a j x a i = if i = j then x else f a i := by
  unfold up2
  by_cases e : i = j
  · rw [if_pos ⟨rfl, e⟩, if_pos e]
  · rw [if_neg (fun q => e q.2), if_neg e]
/-- is it an int, a long, a reference -/
def xkI (ty : FieldType) : Prop := ty = .int ∨ ty = .boolean ∨ ty = .byte
def xkR (ty : FieldType) : Prop := (∃ n, ty = .object n) ∨ ∃ t, ty = .array t
theorem xfv_I {b : Nat} {ty : FieldType} (h : xkI ty) (x : Int32) (y : Int64) (r : Option Nat) : xfv b ty x y r = .int x := by rcases h with rfl | rfl | rfl <;> rfl
theorem xfv_R {b : Nat} {ty : FieldType} (h : xkR ty) (x : Int32) (y : Int64) (r : Option Nat) : xfv b ty x y r = va_rf (r.map (b + ·)) := by rcases h with ⟨n, rfl⟩ | ⟨t, rfl⟩ <;> rfl
/-- the tables of the classes: what the words say of each, by number -/
def xOKc (T : List Cond) (E : xE) (G : xG) : Prop := ∀ (ci : Nat) (C : String) (Tt : u_T) (N : Nat), E.2.2.1[ci]? = some (C, Tt, N) →
  (∀ w ∈ u_ws C Tt N, w ∈ T) ∧ Cond.instantiable C N ∈ T ∧ Cond.initialized C ∈ T ∧ (∀ k, k < N → parseFieldDescriptor (Tt k).2.2.1 = some (G.2.2.2.1 ci k)) ∧ (∀ a, a < N → ∀ b, b < N → a ≠ b → (Tt a).2.1 ≠ (Tt b).2.1) ∧ N = G.1 ci ∧ (∀ k, k < N → (Tt k).1 = C) ∧ G.2.2.2.2.1 ci = C ∧
  (∀ k, k < N → xkI (G.2.2.2.1 ci k) ∨ G.2.2.2.1 ci k = .long ∨ xkR (G.2.2.2.1 ci k))
/-- what the machine knows of them -/
def xKn (E : xE) (U : State) : Prop := (∀ (c : Nat) (q : vw_C), E.2.2.1[c]? = some q → u_Kn U q.1 q.2.1 q.2.2 (E.2.1.1 c) (E.2.1.2 c)) ∧ ∀ ty ∈ E.2.2.2.2, ArrOfT U (E.2.2.2.1 ty) ty ∧ va_RA U (E.2.2.2.1 ty) ty
theorem xKn.moved {E : xE} {u U : State} (hvm : u.vm.Alike U.vm) (h : xKn E u) : xKn E U := ⟨fun c q hq => u_Kn_moved hvm (h.1 c q hq), fun ty ht => ⟨arrOfT_moved hvm (h.2 ty ht).1, (h.2 ty ht).2.moved hvm⟩⟩
/-- the texts, resolved -/
def xRS (sx : UInt32 → Nat) (U : State) : Prop := ∀ e ∈ xlit, vk_R e.1 e.2.1 e.2.2.1 (sx e.2.2.2) U
theorem xRS.warm {sx : UInt32 → Nat} {s U : State} (hW : s.WarmedH U.vm) (h : xRS sx s) : xRS sx U := fun e he => (h e he).warm hW
theorem xRS.same {sx : UInt32 → Nat} {s U : State} (hv : U.vm = s.vm) (h : xRS sx s) : xRS sx U := fun e he => (h e he).same hv
section XW
variable {p : Program} {l : Launch} {e : Env} {R : Room} {s : State} {m : MethodId} {args : Array Value} {below : List Frame} {meth : Method} {c : Code} {H : Heap} {locs : List Loc} {cells slots : Nat} {Q : State → Prop}
variable {cc : ByteArray} {pc : Nat} {ls : Array Slot} {rest : List Value} {T : List Cond} {E : xE} {G : xG} {h : xH} {own : String}
theorem xw_get (hexec : p.tables.exec = Jvm.exec) (hb : c.code = cc) (hts : ∀ w ∈ T, w.before args s = true) (hown : s.vm.findClass own = some m.cls) (hK : xKn E s) (hc : xOKc T E G) (hP : xP E G h H) {a ci k N index : Nat} {C : String} {Tt : u_T} (hi : xis h a (.inr ci)) (hcl : E.2.2.1[ci]? = some (C, Tt, N)) (hk : k < N) (hlink : Cond.fieldLink own index C (Tt k).2.1 (Tt k).2.2.1 ∈ T) (hdg : decode cc pc = .ok (.getfield index, 3))
    (kk : W p l e R s m args below meth c H locs cells slots Q (F0 m (pc + 3) ls (xfv E.1 (G.2.2.2.1 ci k) (xI h a k) (xJ h a k) (xR h a k) :: rest))) : W p l e R s m args below meth c H locs cells slots Q (F0 m pc ls (.ref (E.1 + a) :: rest)) := by
  obtain ⟨hin, -, -, -, -, -, hdc, -, -⟩ := hc ci C Tt N hcl
  have hat := (hP.2 a hi.1).1
  unfold xat at hat
  rw [hi.2] at hat
  obtain ⟨r, h1, cell, q1, q2, q3, q4⟩ := hat
  have hr : r = (C, Tt, N) := Option.some.inj (h1.symm.trans hcl)
  subst hr
  obtain ⟨hS, hfc, kC, hkC, hkind⟩ := hK.1 ci _ hcl
  obtain ⟨cf, kf, fi, f, hf, hsl⟩ := hS k hk
  have hf' : s.fieldFound? C (Tt k).2.1 (Tt k).2.2.1 = some (cf, kf, fi, f) := by rw [← hdc k hk]; exact hf
  refine W.getf hexec hb hown (hts _ hlink) hf' (u_facts hfc hkC (u_lays hts hin hk) hf).1 q1 (by rw [q3]; exact fun h => by cases h) ?_ rfl rfl hdg kk
  rw [hsl, q4 k hk]
theorem xw_put (hexec : p.tables.exec = Jvm.exec) (hb : c.code = cc) (hts : ∀ w ∈ T, w.before args s = true) (hown : s.vm.findClass own = some m.cls) (hK : xKn E s) (hc : xOKc T E G) (hP : xP E G h H) {a ci k N index : Nat} {C : String} {Tt : u_T} (hi : xis h a (.inr ci)) (hcl : E.2.2.1[ci]? = some (C, Tt, N)) (hk : k < N) (hlink : Cond.fieldLink own index C (Tt k).2.1 (Tt k).2.2.1 ∈ T) (hfin : (Tt k).2.2.2 = false ∨ ((Tt k).2.2.2 = true ∧ meth.name = "<init>" ∧ C = own)) {v : Value} (hn : narrow (G.2.2.2.1 ci k) v = v) (hfit : fits (G.2.2.2.1 ci k) v = true) (h' : xH) (hs : xsame h h' a) (hv : ∀ j, xfv E.1 (G.2.2.2.1 ci j) (xI h' a j) (xJ h' a j) (xR h' a j) = if j = k then v else xfv E.1 (G.2.2.2.1 ci j) (xI h a j) (xJ h a j) (xR h a j)) (hdg : decode cc pc = .ok (.putfield index, 3))
    (kk : ∀ (H1 : Heap) (i : Nat), xP E G h' H1 → (∀ q : Nat, q ≠ E.1 + a → H1[q]? = H[q]?) → W p l e R s m args below meth c H1 (locs ++ [⟨E.1 + a, i⟩]) cells slots Q (F0 m (pc + 3) ls rest)) : W p l e R s m args below meth c H locs cells slots Q (F0 m pc ls (v :: .ref (E.1 + a) :: rest)) := by
  obtain ⟨hin, -, -, hty, hnm, -, hdc, -, -⟩ := hc ci C Tt N hcl
  have hat := (hP.2 a hi.1).1
  unfold xat at hat
  rw [hi.2] at hat
  obtain ⟨r, h1, cell, q1, q2, q3, q4⟩ := hat
  have hr : r = (C, Tt, N) := Option.some.inj (h1.symm.trans hcl)
  subst hr
  obtain ⟨hS, hfc, kC, hkC, hkind⟩ := hK.1 ci _ hcl
  obtain ⟨cf, kf, fi, f, hf, hsl⟩ := hS k hk
  have hf' : s.fieldFound? C (Tt k).2.1 (Tt k).2.2.1 = some (cf, kf, fi, f) := by rw [← hdc k hk]; exact hf
  have hap : ∀ x y, x < N → y < N → x ≠ y → (E.2.1.2 ci) x ≠ (E.2.1.2 ci) y := by
    intro x y hx hy hne
    obtain ⟨_, _, _, fa, hia, ea⟩ := hS x hx
    obtain ⟨_, _, _, fb, hib, eb⟩ := hS y hy
    rw [← ea, ← eb]
    refine u_apart (u_lays hts hin hx) (u_lays hts hin hy) hia hib ?_
    rw [(State.fieldFound?_type hia (hty x hx)).1, (State.fieldFound?_type hib (hty y hy)).1]
    exact hnm x hx y hy hne
  have hst := (u_facts hfc hkC (u_lays hts hin hk) hf).1
  have hlay := hts _ (hin _ (u_in_lay hk))
  unfold u_lay at hlay
  have key : ∀ H1 : Heap, H1[E.1 + a]? = some (cell.setSlot f.slot v) → H1.size = H.size → (∀ q, q ≠ E.1 + a → H1[q]? = H[q]?) → W p l e R s m args below meth c H1 (locs ++ [⟨E.1 + a, f.slot⟩]) cells slots Q (F0 m (pc + 3) ls rest) := by
    intro H1 e1 e2 e3
    refine kk H1 _ (hP.upd hs e2 e3 ?_) e3
    unfold xat
    rw [hs.2.1, hi.2]
    refine ⟨_, hcl, ?_⟩
    rw [hsl] at e1
    refine t_OB.to (V := updV (fun j => xfv E.1 (G.2.2.2.1 ci j) (xI h a j) (xJ h a j) (xR h a j)) k v) ⟨_, e1, q2, q3, t_set q4 hap hk v⟩ (fun j _ => ?_)
    rw [hv j]
    rfl
  rcases hfin with hfin | ⟨hfin, hinit, hdecl⟩
  · rw [if_neg (by rw [hfin]; decide)] at hlay
    have h6 := u_store hfc hkC hkind hlay hf (hty k hk) hn hfit
    exact W.putK hexec hb (f := f) ⟨hown, hts _ hlink, ⟨_, _, _, hf'⟩, hst⟩ (by rw [q2]; exact h6) q1 q3 (by rw [hsl]; exact k2_hasslot (q4 k hk)) rfl rfl hdg key
  · rw [if_pos hfin] at hlay
    have hcf : m.cls = cf := by
      obtain ⟨_, _, c', _, _, _, -, -, hf2, -, -, -, hown2, -⟩ := Cond.laysFinal_spec hlay
      have e1 : c' = cf := by have := hf.symm.trans hf2; simp at this; exact this.1.symm
      rw [hdc k hk, hdecl] at hown2
      rw [← e1]; exact Option.some.inj (hown.symm.trans hown2)
    have h6 := u_fits hfc hkC hkind (Or.inr hlay) hf (hty k hk) hn hfit
    exact W.putFinK hexec hb hown (hts _ hlink) hf' hst hcf hinit (by rw [q2]; exact h6) q1 q3 (by rw [hsl]; exact k2_hasslot (q4 k hk)) rfl rfl hdg key
theorem xw_new (hexec : p.tables.exec = Jvm.exec) (hb : c.code = cc) (hts : ∀ w ∈ T, w.before args s = true) (hown : s.vm.findClass own = some m.cls) (hK : xKn E s) (hc : xOKc T E G) (hP : xP E G h H) {ci N index : Nat} {C : String} {Tt : u_T} (hcl : E.2.2.1[ci]? = some (C, Tt, N)) (hlink : Cond.classLink own index C ∈ T) (hcells : cells + 1 ≤ R.cells) (hslots : slots + N ≤ R.slots) (hdg : decode cc pc = .ok (.new index, 3))
    (kk : ∀ H1 : Heap, xP E G (xnew h (.inr ci, G.1 ci)) H1 → (∀ q : Nat, q < E.1 + h.1 → H1[q]? = H[q]?) → W p l e R s m args below meth c H1 locs (cells + 1) (slots + N) Q (F0 m (pc + 3) ls (.ref (E.1 + h.1) :: rest))) : W p l e R s m args below meth c H locs cells slots Q (F0 m pc ls rest) := by
  obtain ⟨hin, hins, hini, hty, hnm, hN, hdc, -, hks⟩ := hc ci C Tt N hcl
  have hKn := hK.1 ci _ hcl
  refine W.newcK hexec hb hown (hts _ hlink) (hts _ hins) (hts _ hini) rfl hdg hcells hslots hKn.2.1 hP.1 fun H1 kC hkC e1 z1 o1 => ?_
  refine kk H1 (hP.new z1 o1 ?_ rfl) o1
  unfold xat
  have es : (xnew h (.inr ci, G.1 ci)).2.1 h.1 = (.inr ci, G.1 ci) := by show (if h.1 = h.1 then _ else _) = _; rw [if_pos rfl]
  rw [es]
  refine ⟨_, hcl, (u_born (fun j => G.2.2.2.1 ci j) hts hin hKn hkC e1 hty).to ?_⟩
  intro j hj
  have e1 : xI (xnew h (.inr ci, G.1 ci)) h.1 j = 0 := by show upr _ h.1 _ h.1 j = 0; rw [upr_eq]
  have e2 : xJ (xnew h (.inr ci, G.1 ci)) h.1 j = 0 := by show upr _ h.1 _ h.1 j = 0; rw [upr_eq]
  have e3 : xR (xnew h (.inr ci, G.1 ci)) h.1 j = none := by show upr _ h.1 _ h.1 j = none; rw [upr_eq]
  rw [e1, e2, e3]
  rcases hks j hj with z | z | z
  · rcases z with z | z | z <;> rw [z] <;> rfl
  · rw [z]; rfl
  · rcases z with ⟨n, z⟩ | ⟨n, z⟩ <;> rw [z] <;> rfl
end XW
