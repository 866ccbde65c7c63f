section XSND
variable {p : Program} {l : Launch} {e : Env} {R : Room} {s s0 : State} {m : MethodId} {args : Array Value} {below : List Frame} {meth : Method} {c : Code}
variable {cc : ByteArray} {T : List Cond} {E : xE} {G : xG} {sx : UInt32 → Nat} {own : String} {M : xD} {Y : Nat → MethodName} {Z : Nat → ByteArray} {Kd : Nat → Nat} {NM d : Nat} {B : Nat → List Instr} {rt : Option FieldType} {O : xO} {hs h' : xH} {v : Option Value}
theorem xbk_of {pc : Nat} {i : Instr} {is : List Instr} (h : xbk O cc pc (i :: is) = true) (hj : ∀ t, i ≠ .jsr t) : ∃ r len, decode cc pc = .ok (r, len) ∧ xrb O pc r len i = true ∧ xbk O cc (pc + len) is = true := by
  unfold xbk at h
  split at h
  · rename_i t
    exact absurd rfl (hj t)
  · split at h
    · rename_i r len hd
      simp only [Bool.and_eq_true] at h
      exact ⟨r, len, hd, h.1, h.2⟩
    · cases h
theorem xsimp {pc : Nat} {r i : Instr} {len : Nat} (h : (xsim i && decide (r = i) && decide (len = 1)) = true) : r = i ∧ len = 1 := by
  simp only [Bool.and_eq_true, decide_eq_true_eq] at h
  exact ⟨h.1.2, h.2⟩
theorem xtI_of {ty : FieldType} (h : xtI ty = true) : ty = .int ∨ ty = .boolean := by
  cases ty <;> simp [xtI] at h <;> simp
theorem xtI_k {ty : FieldType} (h : xtI ty = true) : xkI ty := by
  rcases xtI_of h with h | h
  · exact Or.inl h
  · exact Or.inr (Or.inl h)
theorem xtJ_of {ty : FieldType} (h : xtJ ty = true) : ty = .long := by
  cases ty <;> simp [xtJ] at h <;> rfl
theorem xtR_of {ty : FieldType} (h : xtR ty = true) : xkR ty := by
  cases ty <;> simp [xtR] at h
  · exact Or.inl ⟨_, rfl⟩
  · exact Or.inr ⟨_, rfl⟩
theorem xfit_of {ty : FieldType} {x : Int32} (h : xfit ty x) : narrow ty (.int x) = .int x ∧ fits ty (.int x) = true := by
  cases ty with
  | int => exact ⟨rfl, rfl⟩
  | boolean => rcases h with rfl | rfl <;> exact ⟨by decide, by decide⟩
  | _ => exact absurd h id
set_option maxHeartbeats 8000000 in
set_option maxRecDepth 10000 in
theorem xsound (hexec : p.tables.exec = Jvm.exec) (hb : c.code = cc) (hts : ∀ w ∈ T, w.before args s = true) (hown : s.vm.findClass own = some m.cls) (hml : c.maxLocals = O.2.2.2.2.1) (hK : xKn E s) (hA0 : s0.vm.Alike s.vm) (hRS : xRS sx s) (hSt : xStr l E G sx s0 T)
    (hc : xOKc T E G) (ha : xOKa T E) (hl : xOKl T E s0 Y own NM O.2.1) (hNM : NM ≤ 100000) (hm : ∀ m, m < NM → xOKm T E G M Y Z Kd m) (hO1 : O.1 = G.2.2.2.1) (hOk : O.2.2.2.2.2.1 = Kd) (hin : O.2.2.2.2.2.2 = true → meth.name = "<init>") (hlocks : meth.locks = false) (hrt : meth.sig.returnType = rt)
    (hblk : ∀ t, t < O.2.2.2.1 → xbk O cc (O.2.2.1 t) (B t) = true) (hR : d + 8 + 1 ≤ R.frames ∧ 64 * (d + 8 + 1) ≤ R.locals) (hRc : h'.1 - hs.1 ≤ R.cells ∧ xsl h' - xsl hs ≤ R.slots) (hX : va_X (sx 0) G.2.2.2.2.2.1 G.2.2.2.2.2.2 s0 s0.heap) (hsx : sx 0 < E.1)
    (ihd : ∀ m', m' < NM → ∀ as h1 v1 h2, Call G M d m' as h1 (xeq v1 h2) → xMet l E G sx s0 (Y m') (Cond.code (Y m') (Z m') (M m').2.2 (M m').2.1 :: T) (d + 8) as h1 v1 h2) {Qz : State → Prop}
    (hQz : ∀ (H : Heap) (locs : List Loc) (lc : Array Slot) (pc : Nat) (r : Instr), decode cc pc = .ok (r, 1) → xP E G h' H → (∀ q : Nat, q < E.1 → H[q]? = s0.heap[q]?) → (∀ q ∈ locs, E.1 ≤ q.base) →
      ((∃ x, r = .ireturn ∧ v = some (.int x) ∧ ∃ ty, rt = some ty ∧ xfit ty x) ∨ (∃ x, r = .lreturn ∧ v = some (.long x) ∧ rt = some .long) ∨ (∃ x, r = .areturn ∧ (v = some (.ref x) ∨ v = some .null) ∧ ∃ ty, rt = some ty ∧ ((∃ n, ty = .object n) ∨ ∃ t, ty = .array t)) ∨ (r = .return_ ∧ v = none ∧ rt = none)) →
      W p l e R s m args below meth c H locs (h'.1 - hs.1) (xsl h' - xsl hs) Qz (F0 m pc lc (v.map (xv E.1 sx)).toList)) :
    ∀ (n pc : Nat) (is : List Instr) (ls : xL) (lc : Array Slot) (st : List Value) (h : xH) (H : Heap) (locs : List Loc), xbk O cc pc is = true → ev G (Call G M d) B rt (xeq v h') n is ls st h → xLs E.1 sx ls lc O.2.2.2.2.1 → xP E G h H → (∀ q : Nat, q < E.1 → H[q]? = s0.heap[q]?) → (∀ q ∈ locs, E.1 ≤ q.base) → xle hs h →
      W p l e R s m args below meth c H locs (h.1 - hs.1) (xsl h - xsl hs) Qz (F0 m pc lc (st.map (xv E.1 sx))) := by
  intro n
  induction n with
  | zero => intro pc is ls lc st h H locs _ hev; exact absurd hev id
  | succ n ih =>
    intro pc is ls lc st h H locs hbk hev hls hP hF hlo hle
    have hml' : c.maxLocals = lc.size := by rw [hml, hls.2.1]
    have hsame : ∀ (H1 : Heap) (a : Nat), (∀ q : Nat, q ≠ E.1 + a → H1[q]? = H[q]?) → ∀ q : Nat, q < E.1 → H1[q]? = s0.heap[q]? := fun H1 a hq q h1 => (hq q (by omega)).trans (hF q h1)
    have hnewF : ∀ (H1 : Heap), (∀ q : Nat, q < E.1 + h.1 → H1[q]? = H[q]?) → ∀ q : Nat, q < E.1 → H1[q]? = s0.heap[q]? := fun H1 hq q h1 => (hq q (by omega)).trans (hF q h1)
    have hlo1 : ∀ (a j : Nat), ∀ q ∈ locs ++ [(⟨E.1 + a, j⟩ : Loc)], E.1 ≤ q.base := by
      intro a j q hq
      rcases List.mem_append.mp hq with q1 | q1
      · exact hlo q q1
      · rw [List.mem_singleton.mp q1]; exact Nat.le_add_right _ _
    have hloL : ∀ (L : List Loc), (∀ q ∈ L, E.1 ≤ q.base) → ∀ q ∈ locs ++ L, E.1 ≤ q.base := by
      intro L hL q hq
      rcases List.mem_append.mp hq with q1 | q1
      · exact hlo q q1
      · exact hL q q1
    cases is with
    | nil => exact absurd hev id
    | cons i is =>
      by_cases hj : ∃ t, i = .jsr t
      · obtain ⟨t, rfl⟩ := hj
        unfold xbk at hbk
        simp only [Bool.and_eq_true, decide_eq_true_eq] at hbk
        have hev : ev G (Call G M d) B rt (xeq v h') n (B t.toNat) ls st h := hev
        rw [← hbk.2]
        exact ih _ _ _ _ _ _ _ _ (hblk _ hbk.1) hev hls hP hF hlo hle
      · obtain ⟨r, len, hd, hrb, hbk⟩ := xbk_of hbk (fun t q => hj ⟨t, q⟩)
        replace hev : xstep G (Call G M d) B rt (xeq v h') (ev G (Call G M d) B rt (xeq v h') n) (i :: is) ls st h := hev
        cases i with
        | iconst v0 =>
          replace hev : ev G (Call G M d) B rt (xeq v h') n is ls (.int (Int32.ofInt v0) :: st) h := hev
          unfold xrb at hrb
          cases r <;> simp only [Bool.and_eq_true, decide_eq_true_eq, Bool.false_eq_true] at hrb
          · obtain ⟨h1, rfl⟩ := hrb
            exact lv_bipush hexec hb hd h1 (ih _ _ _ _ _ _ _ _ hbk hev hls hP hF hlo hle)
          · obtain ⟨rfl, rfl⟩ := hrb
            exact lv_iconst hexec hb hd rfl (ih _ _ _ _ _ _ _ _ hbk hev hls hP hF hlo hle)
          · obtain ⟨h1, rfl⟩ := hrb
            exact lv_ldc hexec hb hown (hts _ (hl.2.2.2.1 _ h1)) hd (ih _ _ _ _ _ _ _ _ hbk hev hls hP hF hlo hle)
          · obtain ⟨h1, rfl⟩ := hrb
            exact lv_ldcw hexec hb hown (hts _ (hl.2.2.2.1 _ h1)) hd (ih _ _ _ _ _ _ _ _ hbk hev hls hP hF hlo hle)
          · obtain ⟨h1, rfl⟩ := hrb
            exact lv_sipush hexec hb hd h1 (ih _ _ _ _ _ _ _ _ hbk hev hls hP hF hlo hle)
        | sipush v0 =>
          replace hev : ev G (Call G M d) B rt (xeq v h') n is ls (.long (Int64.ofInt v0) :: st) h := hev
          unfold xrb at hrb
          cases r <;> simp only [Bool.and_eq_true, decide_eq_true_eq, Bool.false_eq_true] at hrb
          · obtain ⟨h1, rfl⟩ := hrb
            exact lv_lconst hexec hb hd h1 (ih _ _ _ _ _ _ _ _ hbk hev hls hP hF hlo hle)
          · obtain ⟨h1, rfl⟩ := hrb
            exact lv_ldc2 hexec hb hown (hts _ (hl.2.2.2.2.1 _ h1)) hd (ih _ _ _ _ _ _ _ _ hbk hev hls hP hF hlo hle)
        | aconst_null =>
          replace hev : ev G (Call G M d) B rt (xeq v h') n is ls (.null :: st) h := hev
          obtain ⟨rfl, rfl⟩ := xsimp (pc := pc) (show (xsim .aconst_null && decide (r = .aconst_null) && decide (len = 1)) = true from hrb)
          exact lv_null hexec hb hd (ih _ _ _ _ _ _ _ _ hbk hev hls hP hF hlo hle)
        | iload a =>
          simp only [xstep] at hev
          split at hev
          · rename_i x hx
            have hv := hls.2.2.2 _ _ hx
            unfold xrb at hrb
            cases r <;> simp only [Bool.and_eq_true, decide_eq_true_eq, Bool.false_eq_true] at hrb
            · obtain ⟨rfl, rfl⟩ := hrb
              exact lv_iload hexec hb hd hv (ih _ _ _ _ _ _ _ _ hbk hev hls hP hF hlo hle)
            · obtain ⟨h1, rfl⟩ := hrb
              exact lv_iload_n hexec hb hd h1 hv (ih _ _ _ _ _ _ _ _ hbk hev hls hP hF hlo hle)
          · exact absurd hev id
        | lload a =>
          simp only [xstep] at hev
          split at hev
          · rename_i x hx
            have hv := hls.2.2.2 _ _ hx
            unfold xrb at hrb
            cases r <;> simp only [Bool.and_eq_true, decide_eq_true_eq, Bool.false_eq_true] at hrb
            · obtain ⟨rfl, rfl⟩ := hrb
              exact lv_lload hexec hb hd hv (ih _ _ _ _ _ _ _ _ hbk hev hls hP hF hlo hle)
            · obtain ⟨h1, rfl⟩ := hrb
              exact lv_lload_n hexec hb hd h1 hv (ih _ _ _ _ _ _ _ _ hbk hev hls hP hF hlo hle)
          · exact absurd hev id
        | aload a =>
          simp only [xstep] at hev
          split at hev
          · rename_i x hx
            have hv := hls.2.2.2 _ _ hx
            unfold xrb at hrb
            cases r <;> simp only [Bool.and_eq_true, decide_eq_true_eq, Bool.false_eq_true] at hrb
            · obtain ⟨rfl, rfl⟩ := hrb
              exact lv_aload hexec hb hd hv (ih _ _ _ _ _ _ _ _ hbk hev hls hP hF hlo hle)
            · obtain ⟨h1, rfl⟩ := hrb
              exact lv_aload_n hexec hb hd h1 hv (ih _ _ _ _ _ _ _ _ hbk hev hls hP hF hlo hle)
          · rename_i hx
            have hv := hls.2.2.2 _ _ hx
            unfold xrb at hrb
            cases r <;> simp only [Bool.and_eq_true, decide_eq_true_eq, Bool.false_eq_true] at hrb
            · obtain ⟨rfl, rfl⟩ := hrb
              exact lv_aloadN hexec hb hd hv (ih _ _ _ _ _ _ _ _ hbk hev hls hP hF hlo hle)
            · obtain ⟨h1, rfl⟩ := hrb
              exact lv_aload_nN hexec hb hd h1 hv (ih _ _ _ _ _ _ _ _ hbk hev hls hP hF hlo hle)
          · rename_i x hx
            have hv := hls.2.2.2 _ _ hx
            unfold xrb at hrb
            cases r <;> simp only [Bool.and_eq_true, decide_eq_true_eq, Bool.false_eq_true] at hrb
            · obtain ⟨rfl, rfl⟩ := hrb
              exact lv_aload hexec hb hd hv (ih _ _ _ _ _ _ _ _ hbk hev hls hP hF hlo hle)
            · obtain ⟨h1, rfl⟩ := hrb
              exact lv_aload_n hexec hb hd h1 hv (ih _ _ _ _ _ _ _ _ hbk hev hls hP hF hlo hle)
          · exact absurd hev id
        | istore a =>
          simp only [xstep] at hev
          split at hev
          · rename_i x st
            unfold xrb at hrb
            simp only [Bool.and_eq_true, decide_eq_true_eq] at hrb
            obtain ⟨hA, hrb⟩ := hrb
            cases r <;> simp only [Bool.and_eq_true, decide_eq_true_eq, Bool.false_eq_true] at hrb
            · obtain ⟨rfl, rfl⟩ := hrb
              exact lv_istore hexec hb hd hls.has hA rfl (fun lc hl9 => ih _ _ _ _ _ _ _ _ hbk hev (xLs.st1 hls.1 hA hl9) hP hF hlo hle)
            · obtain ⟨h1, rfl⟩ := hrb
              exact lv_istore_n hexec hb hd h1 hls.has hA rfl (fun lc hl9 => ih _ _ _ _ _ _ _ _ hbk hev (xLs.st1 hls.1 hA hl9) hP hF hlo hle)
          · exact absurd hev id
        | lstore a =>
          simp only [xstep] at hev
          split at hev
          · rename_i x st
            unfold xrb at hrb
            simp only [Bool.and_eq_true, decide_eq_true_eq] at hrb
            obtain ⟨hA, hrb⟩ := hrb
            cases r <;> simp only [Bool.and_eq_true, decide_eq_true_eq, Bool.false_eq_true] at hrb
            · obtain ⟨rfl, rfl⟩ := hrb
              exact lv_lstore hexec hb hd hls.has hA rfl (fun lc hl9 => ih _ _ _ _ _ _ _ _ hbk hev (xLs.st2 hls.1 hA hl9) hP hF hlo hle)
            · obtain ⟨h1, rfl⟩ := hrb
              exact lv_lstore_n hexec hb hd h1 hls.has hA rfl (fun lc hl9 => ih _ _ _ _ _ _ _ _ hbk hev (xLs.st2 hls.1 hA hl9) hP hF hlo hle)
          · exact absurd hev id
        | astore a =>
          simp only [xstep] at hev
          split at hev
          · rename_i x st
            unfold xrb at hrb
            simp only [Bool.and_eq_true, decide_eq_true_eq] at hrb
            obtain ⟨hA, hrb⟩ := hrb
            cases r <;> simp only [Bool.and_eq_true, decide_eq_true_eq, Bool.false_eq_true] at hrb
            · obtain ⟨rfl, rfl⟩ := hrb
              exact lv_astore hexec hb hd hls.has hA rfl (fun lc hl9 => ih _ _ _ _ _ _ _ _ hbk hev (xLs.st1 hls.1 hA hl9) hP hF hlo hle)
            · obtain ⟨h1, rfl⟩ := hrb
              exact lv_astore_n hexec hb hd h1 hls.has hA rfl (fun lc hl9 => ih _ _ _ _ _ _ _ _ hbk hev (xLs.st1 hls.1 hA hl9) hP hF hlo hle)
          · rename_i st
            unfold xrb at hrb
            simp only [Bool.and_eq_true, decide_eq_true_eq] at hrb
            obtain ⟨hA, hrb⟩ := hrb
            cases r <;> simp only [Bool.and_eq_true, decide_eq_true_eq, Bool.false_eq_true] at hrb
            · obtain ⟨rfl, rfl⟩ := hrb
              exact lv_astoreN hexec hb hd hls.has hA rfl (fun lc hl9 => ih _ _ _ _ _ _ _ _ hbk hev (xLs.st1 hls.1 hA hl9) hP hF hlo hle)
            · obtain ⟨h1, rfl⟩ := hrb
              exact lv_astore_nN hexec hb hd h1 hls.has hA rfl (fun lc hl9 => ih _ _ _ _ _ _ _ _ hbk hev (xLs.st1 hls.1 hA hl9) hP hF hlo hle)
          · exact absurd hev id
        | iinc a c0 =>
          simp only [xstep] at hev
          split at hev
          · rename_i x hx
            unfold xrb at hrb
            simp only [Bool.and_eq_true, decide_eq_true_eq] at hrb
            obtain ⟨⟨hA, rfl⟩, rfl⟩ := hrb
            obtain ⟨k9, hk9⟩ := List.getElem?_of_mem (xll_mem (b := E.1) (sx := sx) hx)
            exact lv_iinc hexec hb hd hls.has hk9 rfl hA rfl (fun lc hl9 => ih _ _ _ _ _ _ _ _ hbk hev (xLs.st1 (v := .int (x + Int32.ofInt c0)) hls.1 hA hl9) hP hF hlo hle)
          · exact absurd hev id
        | iadd =>
          obtain ⟨rfl, rfl⟩ := xsimp (pc := pc) (show (xsim .iadd && decide (r = .iadd) && decide (len = 1)) = true from hrb)
          simp only [xstep] at hev
          split at hev
          · rename_i y x st
            exact lv_iadd hexec hb hd (ih _ _ _ _ _ _ _ _ hbk hev hls hP hF hlo hle)
          · exact absurd hev id
        | isub =>
          obtain ⟨rfl, rfl⟩ := xsimp (pc := pc) (show (xsim .isub && decide (r = .isub) && decide (len = 1)) = true from hrb)
          simp only [xstep] at hev
          split at hev
          · rename_i y x st
            exact lv_isub hexec hb hd (ih _ _ _ _ _ _ _ _ hbk hev hls hP hF hlo hle)
          · exact absurd hev id
        | imul =>
          obtain ⟨rfl, rfl⟩ := xsimp (pc := pc) (show (xsim .imul && decide (r = .imul) && decide (len = 1)) = true from hrb)
          simp only [xstep] at hev
          split at hev
          · rename_i y x st
            exact lv_imul hexec hb hd (ih _ _ _ _ _ _ _ _ hbk hev hls hP hF hlo hle)
          · exact absurd hev id
        | iand =>
          obtain ⟨rfl, rfl⟩ := xsimp (pc := pc) (show (xsim .iand && decide (r = .iand) && decide (len = 1)) = true from hrb)
          simp only [xstep] at hev
          split at hev
          · rename_i y x st
            exact lv_iand hexec hb hd (ih _ _ _ _ _ _ _ _ hbk hev hls hP hF hlo hle)
          · exact absurd hev id
        | ior =>
          obtain ⟨rfl, rfl⟩ := xsimp (pc := pc) (show (xsim .ior && decide (r = .ior) && decide (len = 1)) = true from hrb)
          simp only [xstep] at hev
          split at hev
          · rename_i y x st
            exact lv_ior hexec hb hd (ih _ _ _ _ _ _ _ _ hbk hev hls hP hF hlo hle)
          · exact absurd hev id
        | ixor =>
          obtain ⟨rfl, rfl⟩ := xsimp (pc := pc) (show (xsim .ixor && decide (r = .ixor) && decide (len = 1)) = true from hrb)
          simp only [xstep] at hev
          split at hev
          · rename_i y x st
            exact lv_ixor hexec hb hd (ih _ _ _ _ _ _ _ _ hbk hev hls hP hF hlo hle)
          · exact absurd hev id
        | ishl =>
          obtain ⟨rfl, rfl⟩ := xsimp (pc := pc) (show (xsim .ishl && decide (r = .ishl) && decide (len = 1)) = true from hrb)
          simp only [xstep] at hev
          split at hev
          · rename_i y x st
            exact lv_ishl hexec hb hd (ih _ _ _ _ _ _ _ _ hbk hev hls hP hF hlo hle)
          · exact absurd hev id
        | ishr =>
          obtain ⟨rfl, rfl⟩ := xsimp (pc := pc) (show (xsim .ishr && decide (r = .ishr) && decide (len = 1)) = true from hrb)
          simp only [xstep] at hev
          split at hev
          · rename_i y x st
            exact lv_ishr hexec hb hd (ih _ _ _ _ _ _ _ _ hbk hev hls hP hF hlo hle)
          · exact absurd hev id
        | ladd =>
          obtain ⟨rfl, rfl⟩ := xsimp (pc := pc) (show (xsim .ladd && decide (r = .ladd) && decide (len = 1)) = true from hrb)
          simp only [xstep] at hev
          split at hev
          · rename_i y x st
            exact lv_ladd hexec hb hd (ih _ _ _ _ _ _ _ _ hbk hev hls hP hF hlo hle)
          · exact absurd hev id
        | lsub =>
          obtain ⟨rfl, rfl⟩ := xsimp (pc := pc) (show (xsim .lsub && decide (r = .lsub) && decide (len = 1)) = true from hrb)
          simp only [xstep] at hev
          split at hev
          · rename_i y x st
            exact lv_lsub hexec hb hd (ih _ _ _ _ _ _ _ _ hbk hev hls hP hF hlo hle)
          · exact absurd hev id
        | lmul =>
          obtain ⟨rfl, rfl⟩ := xsimp (pc := pc) (show (xsim .lmul && decide (r = .lmul) && decide (len = 1)) = true from hrb)
          simp only [xstep] at hev
          split at hev
          · rename_i y x st
            exact lv_lmul hexec hb hd (ih _ _ _ _ _ _ _ _ hbk hev hls hP hF hlo hle)
          · exact absurd hev id
        | land =>
          obtain ⟨rfl, rfl⟩ := xsimp (pc := pc) (show (xsim .land && decide (r = .land) && decide (len = 1)) = true from hrb)
          simp only [xstep] at hev
          split at hev
          · rename_i y x st
            exact lv_land hexec hb hd (ih _ _ _ _ _ _ _ _ hbk hev hls hP hF hlo hle)
          · exact absurd hev id
        | lor =>
          obtain ⟨rfl, rfl⟩ := xsimp (pc := pc) (show (xsim .lor && decide (r = .lor) && decide (len = 1)) = true from hrb)
          simp only [xstep] at hev
          split at hev
          · rename_i y x st
            exact lv_lor hexec hb hd (ih _ _ _ _ _ _ _ _ hbk hev hls hP hF hlo hle)
          · exact absurd hev id
        | idiv =>
          obtain ⟨rfl, rfl⟩ := xsimp (pc := pc) (show (xsim .idiv && decide (r = .idiv) && decide (len = 1)) = true from hrb)
          simp only [xstep] at hev
          split at hev
          · rename_i y x st
            obtain ⟨hz, hev⟩ := hev
            exact lv_idiv hexec hb hd hz (ih _ _ _ _ _ _ _ _ hbk hev hls hP hF hlo hle)
          · exact absurd hev id
        | irem =>
          obtain ⟨rfl, rfl⟩ := xsimp (pc := pc) (show (xsim .irem && decide (r = .irem) && decide (len = 1)) = true from hrb)
          simp only [xstep] at hev
          split at hev
          · rename_i y x st
            obtain ⟨hz, hev⟩ := hev
            exact lv_irem hexec hb hd hz (ih _ _ _ _ _ _ _ _ hbk hev hls hP hF hlo hle)
          · exact absurd hev id
        | ldiv =>
          obtain ⟨rfl, rfl⟩ := xsimp (pc := pc) (show (xsim .ldiv && decide (r = .ldiv) && decide (len = 1)) = true from hrb)
          simp only [xstep] at hev
          split at hev
          · rename_i y x st
            obtain ⟨hz, hev⟩ := hev
            exact lv_ldiv hexec hb hd hz (ih _ _ _ _ _ _ _ _ hbk hev hls hP hF hlo hle)
          · exact absurd hev id
        | lrem =>
          obtain ⟨rfl, rfl⟩ := xsimp (pc := pc) (show (xsim .lrem && decide (r = .lrem) && decide (len = 1)) = true from hrb)
          simp only [xstep] at hev
          split at hev
          · rename_i y x st
            obtain ⟨hz, hev⟩ := hev
            exact lv_lrem hexec hb hd hz (ih _ _ _ _ _ _ _ _ hbk hev hls hP hF hlo hle)
          · exact absurd hev id
        | ineg =>
          obtain ⟨rfl, rfl⟩ := xsimp (pc := pc) (show (xsim .ineg && decide (r = .ineg) && decide (len = 1)) = true from hrb)
          simp only [xstep] at hev
          split at hev
          · rename_i x st
            exact lv_ineg hexec hb hd (ih _ _ _ _ _ _ _ _ hbk hev hls hP hF hlo hle)
          · exact absurd hev id
        | iushr =>
          obtain ⟨rfl, rfl⟩ := xsimp (pc := pc) (show (xsim .iushr && decide (r = .iushr) && decide (len = 1)) = true from hrb)
          simp only [xstep] at hev
          split at hev
          · rename_i y x st
            exact lv_iushr hexec hb hd rfl (ih _ _ _ _ _ _ _ _ hbk hev hls hP hF hlo hle)
          · exact absurd hev id
        | lshl =>
          obtain ⟨rfl, rfl⟩ := xsimp (pc := pc) (show (xsim .lshl && decide (r = .lshl) && decide (len = 1)) = true from hrb)
          simp only [xstep] at hev
          split at hev
          · rename_i y x st
            exact lv_lshl hexec hb hd rfl (ih _ _ _ _ _ _ _ _ hbk hev hls hP hF hlo hle)
          · exact absurd hev id
        | lcmp =>
          obtain ⟨rfl, rfl⟩ := xsimp (pc := pc) (show (xsim .lcmp && decide (r = .lcmp) && decide (len = 1)) = true from hrb)
          simp only [xstep] at hev
          split at hev
          · rename_i y x st
            exact W.lcmp hexec hb hd (ih _ _ _ _ _ _ _ _ hbk hev hls hP hF hlo hle)
          · exact absurd hev id
        | i2l =>
          obtain ⟨rfl, rfl⟩ := xsimp (pc := pc) (show (xsim .i2l && decide (r = .i2l) && decide (len = 1)) = true from hrb)
          simp only [xstep] at hev
          split at hev
          · rename_i x st
            exact lv_i2l hexec hb hd rfl (ih _ _ _ _ _ _ _ _ hbk hev hls hP hF hlo hle)
          · exact absurd hev id
        | l2i =>
          obtain ⟨rfl, rfl⟩ := xsimp (pc := pc) (show (xsim .l2i && decide (r = .l2i) && decide (len = 1)) = true from hrb)
          simp only [xstep] at hev
          split at hev
          · rename_i x st
            exact lv_l2i hexec hb hd rfl (ih _ _ _ _ _ _ _ _ hbk hev hls hP hF hlo hle)
          · exact absurd hev id
        | i2b =>
          obtain ⟨rfl, rfl⟩ := xsimp (pc := pc) (show (xsim .i2b && decide (r = .i2b) && decide (len = 1)) = true from hrb)
          simp only [xstep] at hev
          split at hev
          · rename_i x st
            exact lv_i2b hexec hb hd rfl (ih _ _ _ _ _ _ _ _ hbk hev hls hP hF hlo hle)
          · exact absurd hev id
        | dup =>
          obtain ⟨rfl, rfl⟩ := xsimp (pc := pc) (show (xsim .dup && decide (r = .dup) && decide (len = 1)) = true from hrb)
          simp only [xstep] at hev
          split at hev
          · rename_i x st
            exact lv_dup hexec hb hd rfl (ih _ _ _ _ _ _ _ _ hbk hev hls hP hF hlo hle)
          · rename_i x st
            exact lv_dup hexec hb hd rfl (ih _ _ _ _ _ _ _ _ hbk hev hls hP hF hlo hle)
          · exact absurd hev id
        | dup2 =>
          obtain ⟨rfl, rfl⟩ := xsimp (pc := pc) (show (xsim .dup2 && decide (r = .dup2) && decide (len = 1)) = true from hrb)
          simp only [xstep] at hev
          split at hev
          · rename_i y x st
            exact lv_dup2_11 hexec hb hd rfl rfl (ih _ _ _ _ _ _ _ _ hbk hev hls hP hF hlo hle)
          · exact absurd hev id
        | pop =>
          obtain ⟨rfl, rfl⟩ := xsimp (pc := pc) (show (xsim .pop && decide (r = .pop) && decide (len = 1)) = true from hrb)
          simp only [xstep] at hev
          split at hev
          · rename_i x st
            exact lv_pop hexec hb hd rfl (ih _ _ _ _ _ _ _ _ hbk hev hls hP hF hlo hle)
          · rename_i x st
            exact lv_pop hexec hb hd rfl (ih _ _ _ _ _ _ _ _ hbk hev hls hP hF hlo hle)
          · exact absurd hev id
        | ifCond c0 t =>
          simp only [xstep] at hev
          split at hev
          · rename_i x st
            unfold xrb at hrb
            cases r <;> simp only [Bool.and_eq_true, decide_eq_true_eq, Bool.false_eq_true] at hrb
            obtain ⟨⟨rfl, rfl⟩, hjm⟩ := hrb
            obtain ⟨hj1, hj2⟩ := xjm_of hjm
            refine xw_if hexec hb hd hj2 (fun q => ?_) (fun q => ?_)
            · rw [if_pos q] at hev
              exact ih _ _ _ _ _ _ _ _ (hblk _ hj1) hev hls hP hF hlo hle
            · rw [if_neg q] at hev
              exact ih _ _ _ _ _ _ _ _ hbk hev hls hP hF hlo hle
          · exact absurd hev id
        | if_icmp c0 t =>
          simp only [xstep] at hev
          split at hev
          · rename_i y x st
            unfold xrb at hrb
            cases r <;> simp only [Bool.and_eq_true, decide_eq_true_eq, Bool.false_eq_true] at hrb
            obtain ⟨⟨rfl, rfl⟩, hjm⟩ := hrb
            obtain ⟨hj1, hj2⟩ := xjm_of hjm
            refine xw_icmp hexec hb hd hj2 (fun q => ?_) (fun q => ?_)
            · rw [if_pos q] at hev
              exact ih _ _ _ _ _ _ _ _ (hblk _ hj1) hev hls hP hF hlo hle
            · rw [if_neg q] at hev
              exact ih _ _ _ _ _ _ _ _ hbk hev hls hP hF hlo hle
          · exact absurd hev id
        | ifnull t =>
          simp only [xstep] at hev
          unfold xrb at hrb
          cases r <;> simp only [Bool.and_eq_true, decide_eq_true_eq, Bool.false_eq_true] at hrb
          obtain ⟨rfl, hjm⟩ := hrb
          obtain ⟨hj1, hj2⟩ := xjm_of hjm
          split at hev
          · rename_i st
            exact lv_ifnullN hexec hb hd hj2 (ih _ _ _ _ _ _ _ _ (hblk _ hj1) hev hls hP hF hlo hle)
          · rename_i x st
            exact lv_ifnull hexec hb hd (ih _ _ _ _ _ _ _ _ hbk hev hls hP hF hlo hle)
          · exact absurd hev id
        | ifnonnull t =>
          simp only [xstep] at hev
          unfold xrb at hrb
          cases r <;> simp only [Bool.and_eq_true, decide_eq_true_eq, Bool.false_eq_true] at hrb
          obtain ⟨rfl, hjm⟩ := hrb
          obtain ⟨hj1, hj2⟩ := xjm_of hjm
          split at hev
          · rename_i st
            exact lv_ifnonnullN hexec hb hd (ih _ _ _ _ _ _ _ _ hbk hev hls hP hF hlo hle)
          · rename_i x st
            exact lv_ifnonnull hexec hb hd hj2 (ih _ _ _ _ _ _ _ _ (hblk _ hj1) hev hls hP hF hlo hle)
          · exact absurd hev id
        | goto t =>
          replace hev : ev G (Call G M d) B rt (xeq v h') n (B t.toNat) ls st h := hev
          unfold xrb at hrb
          cases r <;> simp only [Bool.and_eq_true, decide_eq_true_eq, Bool.false_eq_true] at hrb
          obtain ⟨rfl, hjm⟩ := hrb
          obtain ⟨hj1, hj2⟩ := xjm_of hjm
          exact lv_goto hexec hb hd hj2 (ih _ _ _ _ _ _ _ _ (hblk _ hj1) hev hls hP hF hlo hle)
        | tableswitch d0 lo hi o =>
          simp only [xstep] at hev
          split at hev
          · rename_i x st
            unfold xrb at hrb
            cases r <;> simp only [Bool.and_eq_true, decide_eq_true_eq, Bool.false_eq_true] at hrb
            obtain ⟨⟨⟨⟨⟨rfl, rfl⟩, hjm⟩, hz1⟩, hz2⟩, hall⟩ := hrb
            rename_i lo0 hi0 o2
            unfold xsw at hev
            by_cases q : x.toInt < lo0 ∨ hi0 < x.toInt
            · rw [if_pos q] at hev
              obtain ⟨hj1, hj2⟩ := xjm_of hjm
              exact lv_tableOut hexec hb hd q hj2 (ih _ _ _ _ _ _ _ _ (hblk _ hj1) hev hls hP hF hlo hle)
            · rw [if_neg q] at hev
              have q1 : ¬ x.toInt < lo0 := fun z => q (Or.inl z)
              have q2 : ¬ hi0 < x.toInt := fun z => q (Or.inr z)
              have hlt : (x.toInt - lo0).toNat < o.size := by omega
              have hj9 := List.all_eq_true.mp hall _ (List.mem_range.mpr hlt)
              obtain ⟨hj1, hj2⟩ := xjm_of hj9
              refine lv_tableIn hexec hb hd q1 q2 (off := o2.getD (x.toInt - lo0).toNat 0) ?_ hj2 (ih _ _ _ _ _ _ _ _ (hblk _ hj1) hev hls hP hF hlo hle)
              have hlt2 : (x.toInt - lo0).toNat < o2.size := by omega
              simp [Array.getD_eq_getD_getElem?, hlt2]
          · exact absurd hev id
        | lookupswitch d0 o =>
          simp only [xstep] at hev
          split at hev
          · rename_i x st
            unfold xrb at hrb
            cases r <;> simp only [Bool.and_eq_true, decide_eq_true_eq, Bool.false_eq_true] at hrb
            obtain ⟨⟨hjm, hjs⟩, hsorted⟩ := hrb
            obtain ⟨hj1, hj2⟩ := xjm_of (xjs_of hjm x.toInt _ _ hjs)
            exact lv_lookup hexec hb hd hsorted rfl hj2 (ih _ _ _ _ _ _ _ _ (hblk _ hj1) hev hls hP hF hlo hle)
          · exact absurd hev id
        | getfield c0 =>
          simp only [xstep] at hev
          split at hev
          · rename_i a st
            obtain ⟨hi, hev⟩ := hev
            unfold xrb at hrb
            cases r <;> simp only [Bool.and_eq_true, decide_eq_true_eq, Bool.false_eq_true] at hrb
            obtain ⟨⟨hk, rfl⟩, hty⟩ := hrb
            rw [hO1] at hty
            obtain ⟨C, Tt, N, hcl, hkN, hlk⟩ := hl.1 _ hk
            refine xw_get hexec hb hts hown hK hc hP hi hcl hkN hlk hd ?_
            rw [xfv_I (xtI_k hty)]
            exact ih _ _ _ _ _ _ _ _ hbk hev hls hP hF hlo hle
          · exact absurd hev id
        | dload c0 =>
          simp only [xstep] at hev
          split at hev
          · rename_i a st
            obtain ⟨hi, hev⟩ := hev
            unfold xrb at hrb
            cases r <;> simp only [Bool.and_eq_true, decide_eq_true_eq, Bool.false_eq_true] at hrb
            obtain ⟨⟨hk, rfl⟩, hty⟩ := hrb
            rw [hO1] at hty
            obtain ⟨C, Tt, N, hcl, hkN, hlk⟩ := hl.1 _ hk
            refine xw_get hexec hb hts hown hK hc hP hi hcl hkN hlk hd ?_
            rw [xtJ_of hty]
            exact ih _ _ _ _ _ _ _ _ hbk hev hls hP hF hlo hle
          · exact absurd hev id
        | fload c0 =>
          simp only [xstep] at hev
          split at hev
          · rename_i a st
            obtain ⟨hi, hev⟩ := hev
            unfold xrb at hrb
            cases r <;> simp only [Bool.and_eq_true, decide_eq_true_eq, Bool.false_eq_true] at hrb
            obtain ⟨⟨hk, rfl⟩, hty⟩ := hrb
            rw [hO1] at hty
            obtain ⟨C, Tt, N, hcl, hkN, hlk⟩ := hl.1 _ hk
            refine xw_get hexec hb hts hown hK hc hP hi hcl hkN hlk hd ?_
            rw [xfv_R (xtR_of hty), ← xv_xrf E.1 sx]
            exact ih _ _ _ _ _ _ _ _ hbk hev hls hP hF hlo hle
          · exact absurd hev id
        | putfield c0 =>
          simp only [xstep] at hev
          unfold xrb at hrb
          cases r <;> simp only [Bool.and_eq_true, decide_eq_true_eq, Bool.false_eq_true] at hrb
          obtain ⟨⟨hk, rfl⟩, hty⟩ := hrb
          rw [hO1] at hty
          rename_i idx
          obtain ⟨C, Tt, N, hcl, hkN, hlk, hfin⟩ : ∃ (C : String) (Tt : u_T) (N : Nat), E.2.2.1[c0 / 64]? = some (C, Tt, N) ∧ c0 % 64 < N ∧ Cond.fieldLink own idx C (Tt (c0 % 64)).2.1 (Tt (c0 % 64)).2.2.1 ∈ T ∧ ((Tt (c0 % 64)).2.2.2 = false ∨ ((Tt (c0 % 64)).2.2.2 = true ∧ meth.name = "<init>" ∧ C = own)) := by
            simp only [Bool.or_eq_true, Bool.and_eq_true, decide_eq_true_eq] at hk
            rcases hk with hk | ⟨hk0, hk⟩
            · obtain ⟨C, Tt, N, h1, h2, h3, h4⟩ := hl.2.2.2.2.2.1 _ hk
              exact ⟨C, Tt, N, h1, h2, h3, Or.inl h4⟩
            · obtain ⟨Tt, N, h1, h2, h3, h4⟩ := hl.2.2.2.2.2.2.1 _ hk
              exact ⟨own, Tt, N, h1, h2, h3, Or.inr ⟨h4, hin hk0, rfl⟩⟩
          split at hev
          · rename_i x a st
            obtain ⟨hi, hfit, hev⟩ := hev
            refine xw_put hexec hb hts hown hK hc hP hi hcl hkN hlk hfin (xfit_of hfit).1 (xfit_of hfit).2 (setI h a (c0 % 64) x) (xsame_I h a _ x) (fun j => ?_) hd (fun H1 j hP1 hq1 => ih _ _ _ _ _ (setI h a (c0 % 64) x) _ _ hbk hev hls hP1 (hsame H1 a hq1) (hlo1 a j) (hle.tr (xle_same rfl rfl)))
            show xfv E.1 _ (up2 h.2.2.1 a (c0 % 64) x a j) _ _ = _
            rw [up2_self]
            by_cases q : j = c0 % 64
            · subst q; rw [if_pos rfl, if_pos rfl, xfv_I (xtI_k hty)]; rfl
            · rw [if_neg q, if_neg q]; rfl
          · exact absurd hev id
        | dstore c0 =>
          simp only [xstep] at hev
          unfold xrb at hrb
          cases r <;> simp only [Bool.and_eq_true, decide_eq_true_eq, Bool.false_eq_true] at hrb
          obtain ⟨⟨hk, rfl⟩, hty⟩ := hrb
          rw [hO1] at hty
          rename_i idx
          obtain ⟨C, Tt, N, hcl, hkN, hlk, hfin⟩ : ∃ (C : String) (Tt : u_T) (N : Nat), E.2.2.1[c0 / 64]? = some (C, Tt, N) ∧ c0 % 64 < N ∧ Cond.fieldLink own idx C (Tt (c0 % 64)).2.1 (Tt (c0 % 64)).2.2.1 ∈ T ∧ ((Tt (c0 % 64)).2.2.2 = false ∨ ((Tt (c0 % 64)).2.2.2 = true ∧ meth.name = "<init>" ∧ C = own)) := by
            simp only [Bool.or_eq_true, Bool.and_eq_true, decide_eq_true_eq] at hk
            rcases hk with hk | ⟨hk0, hk⟩
            · obtain ⟨C, Tt, N, h1, h2, h3, h4⟩ := hl.2.2.2.2.2.1 _ hk
              exact ⟨C, Tt, N, h1, h2, h3, Or.inl h4⟩
            · obtain ⟨Tt, N, h1, h2, h3, h4⟩ := hl.2.2.2.2.2.2.1 _ hk
              exact ⟨own, Tt, N, h1, h2, h3, Or.inr ⟨h4, hin hk0, rfl⟩⟩
          split at hev
          · rename_i x a st
            obtain ⟨hi, hev⟩ := hev
            refine xw_put hexec hb hts hown hK hc hP hi hcl hkN hlk hfin (by rw [xtJ_of hty]; rfl) (by rw [xtJ_of hty]; rfl) (setJ h a (c0 % 64) x) (xsame_J h a _ x) (fun j => ?_) hd (fun H1 j hP1 hq1 => ih _ _ _ _ _ (setJ h a (c0 % 64) x) _ _ hbk hev hls hP1 (hsame H1 a hq1) (hlo1 a j) (hle.tr (xle_same rfl rfl)))
            show xfv E.1 _ _ (up2 h.2.2.2.1 a (c0 % 64) x a j) _ = _
            rw [up2_self]
            by_cases q : j = c0 % 64
            · subst q; rw [if_pos rfl, if_pos rfl, xtJ_of hty]; rfl
            · rw [if_neg q, if_neg q]; rfl
          · exact absurd hev id
        | fstore c0 =>
          simp only [xstep] at hev
          unfold xrb at hrb
          cases r <;> simp only [Bool.and_eq_true, decide_eq_true_eq, Bool.false_eq_true] at hrb
          obtain ⟨⟨hk, rfl⟩, hty⟩ := hrb
          rw [hO1] at hty
          rename_i idx
          obtain ⟨C, Tt, N, hcl, hkN, hlk, hfin⟩ : ∃ (C : String) (Tt : u_T) (N : Nat), E.2.2.1[c0 / 64]? = some (C, Tt, N) ∧ c0 % 64 < N ∧ Cond.fieldLink own idx C (Tt (c0 % 64)).2.1 (Tt (c0 % 64)).2.2.1 ∈ T ∧ ((Tt (c0 % 64)).2.2.2 = false ∨ ((Tt (c0 % 64)).2.2.2 = true ∧ meth.name = "<init>" ∧ C = own)) := by
            simp only [Bool.or_eq_true, Bool.and_eq_true, decide_eq_true_eq] at hk
            rcases hk with hk | ⟨hk0, hk⟩
            · obtain ⟨C, Tt, N, h1, h2, h3, h4⟩ := hl.2.2.2.2.2.1 _ hk
              exact ⟨C, Tt, N, h1, h2, h3, Or.inl h4⟩
            · obtain ⟨Tt, N, h1, h2, h3, h4⟩ := hl.2.2.2.2.2.2.1 _ hk
              exact ⟨own, Tt, N, h1, h2, h3, Or.inr ⟨h4, hin hk0, rfl⟩⟩
          split at hev
          · rename_i x a st
            obtain ⟨hi, hev⟩ := hev
            refine xw_put hexec hb hts hown hK hc hP hi hcl hkN hlk hfin (by rcases xtR_of hty with ⟨z, hz⟩ | ⟨z, hz⟩ <;> rw [hz] <;> rfl) (by rcases xtR_of hty with ⟨z, hz⟩ | ⟨z, hz⟩ <;> rw [hz] <;> rfl) (setR h a (c0 % 64) (some x)) (xsame_R h a _ _) (fun j => ?_) hd (fun H1 j hP1 hq1 => ih _ _ _ _ _ (setR h a (c0 % 64) (some x)) _ _ hbk hev hls hP1 (hsame H1 a hq1) (hlo1 a j) (hle.tr (xle_same rfl rfl)))
            show xfv E.1 _ _ _ (up2 h.2.2.2.2 a (c0 % 64) (some x) a j) = _
            rw [up2_self]
            by_cases q : j = c0 % 64
            · subst q; rw [if_pos rfl, if_pos rfl, xfv_R (xtR_of hty)]; rfl
            · rw [if_neg q, if_neg q]; rfl
          · rename_i a st
            obtain ⟨hi, hev⟩ := hev
            refine xw_put hexec hb hts hown hK hc hP hi hcl hkN hlk hfin (by rcases xtR_of hty with ⟨z, hz⟩ | ⟨z, hz⟩ <;> rw [hz] <;> rfl) (by rcases xtR_of hty with ⟨z, hz⟩ | ⟨z, hz⟩ <;> rw [hz] <;> rfl) (setR h a (c0 % 64) none) (xsame_R h a _ _) (fun j => ?_) hd (fun H1 j hP1 hq1 => ih _ _ _ _ _ (setR h a (c0 % 64) none) _ _ hbk hev hls hP1 (hsame H1 a hq1) (hlo1 a j) (hle.tr (xle_same rfl rfl)))
            show xfv E.1 _ _ _ (up2 h.2.2.2.2 a (c0 % 64) none a j) = _
            rw [up2_self]
            by_cases q : j = c0 % 64
            · subst q; rw [if_pos rfl, if_pos rfl, xfv_R (xtR_of hty)]; rfl
            · rw [if_neg q, if_neg q]; rfl
          · exact absurd hev id
        | iaload =>
          obtain ⟨rfl, rfl⟩ := xsimp (pc := pc) (show (xsim .iaload && decide (r = .iaload) && decide (len = 1)) = true from hrb)
          simp only [xstep] at hev
          split at hev
          · rename_i i0 a st
            obtain ⟨⟨hi, hin0⟩, hev⟩ := hev
            exact xw_iald hexec hb hK hP hi hin0 hd (ih _ _ _ _ _ _ _ _ hbk hev hls hP hF hlo hle)
          · rename_i i0 u st
            obtain ⟨⟨hu, hin0⟩, hev⟩ := hev
            subst hu
            obtain ⟨scr, h1, h2, h3, h4, h5⟩ := hX.moved hA0
            have hlt : i0.toNatClampNeg < G.2.2.2.2.2.1 := Nat.not_le.mp fun q => hin0 (Or.inr q)
            exact W.iald (v := .int (G.2.2.2.2.2.2 i0.toNatClampNeg)) hexec hb (by rw [hF _ hsx]; exact h1) h2 h3 (by rw [h4]; exact hin0) (h5 _ hlt) rfl rfl hd (ih _ _ _ _ _ _ _ _ hbk hev hls hP hF hlo hle)
          · exact absurd hev id
        | baload =>
          obtain ⟨rfl, rfl⟩ := xsimp (pc := pc) (show (xsim .baload && decide (r = .baload) && decide (len = 1)) = true from hrb)
          simp only [xstep] at hev
          split at hev
          · rename_i i0 a st
            obtain ⟨⟨hi, hin0⟩, hev⟩ := hev
            exact xw_bald hexec hb hK hP hi hin0 hd (ih _ _ _ _ _ _ _ _ hbk hev hls hP hF hlo hle)
          · exact absurd hev id
        | laload =>
          obtain ⟨rfl, rfl⟩ := xsimp (pc := pc) (show (xsim .laload && decide (r = .laload) && decide (len = 1)) = true from hrb)
          simp only [xstep] at hev
          split at hev
          · rename_i i0 a st
            obtain ⟨⟨hi, hin0⟩, hev⟩ := hev
            exact xw_lald hexec hb hK hP hi hin0 hd (ih _ _ _ _ _ _ _ _ hbk hev hls hP hF hlo hle)
          · exact absurd hev id
        | aaload =>
          obtain ⟨rfl, rfl⟩ := xsimp (pc := pc) (show (xsim .aaload && decide (r = .aaload) && decide (len = 1)) = true from hrb)
          simp only [xstep] at hev
          split at hev
          · rename_i i0 a st
            obtain ⟨⟨⟨ty, hi, hty⟩, hin0⟩, hev⟩ := hev
            refine xw_aald hexec hb hK hP hi (by rcases hty with q | ⟨c9, q, -⟩ <;> subst q; exact Or.inr ⟨_, rfl⟩; exact Or.inl ⟨_, rfl⟩) hin0 hd ?_
            rw [← xv_xrf E.1 sx]
            exact ih _ _ _ _ _ _ _ _ hbk hev hls hP hF hlo hle
          · exact absurd hev id
        | arraylength =>
          obtain ⟨rfl, rfl⟩ := xsimp (pc := pc) (show (xsim .arraylength && decide (r = .arraylength) && decide (len = 1)) = true from hrb)
          simp only [xstep] at hev
          split at hev
          · rename_i a st
            obtain ⟨⟨ty, hi, -⟩, hev⟩ := hev
            exact xw_alen hexec hb hK hP hi hd (ih _ _ _ _ _ _ _ _ hbk hev hls hP hF hlo hle)
          · rename_i u st
            obtain ⟨hu, hev⟩ := hev
            subst hu
            obtain ⟨scr, h1, h2, h3, h4, h5⟩ := hX.moved hA0
            exact W.alen (n := Int32.ofNat G.2.2.2.2.2.1) hexec hb (by rw [hF _ hsx]; exact h1) h2 (by rw [h4]) rfl rfl hd (ih _ _ _ _ _ _ _ _ hbk hev hls hP hF hlo hle)
          · exact absurd hev id
        | iastore =>
          obtain ⟨rfl, rfl⟩ := xsimp (pc := pc) (show (xsim .iastore && decide (r = .iastore) && decide (len = 1)) = true from hrb)
          simp only [xstep] at hev
          split at hev
          · rename_i x i0 a st
            obtain ⟨⟨hi, hin0⟩, hev⟩ := hev
            exact xw_iast hexec hb hK hP hi hin0 hd (fun H1 j hP1 hq1 => ih _ _ _ _ _ (setI h a i0.toNatClampNeg x) _ _ hbk hev hls hP1 (hsame H1 a hq1) (hlo1 a j) (hle.tr (xle_same rfl rfl)))
          · exact absurd hev id
        | lastore =>
          obtain ⟨rfl, rfl⟩ := xsimp (pc := pc) (show (xsim .lastore && decide (r = .lastore) && decide (len = 1)) = true from hrb)
          simp only [xstep] at hev
          split at hev
          · rename_i x i0 a st
            obtain ⟨⟨hi, hin0⟩, hev⟩ := hev
            exact xw_last hexec hb hK hP hi hin0 hd (fun H1 j hP1 hq1 => ih _ _ _ _ _ (setJ h a i0.toNatClampNeg x) _ _ hbk hev hls hP1 (hsame H1 a hq1) (hlo1 a j) (hle.tr (xle_same rfl rfl)))
          · exact absurd hev id
        | bastore =>
          obtain ⟨rfl, rfl⟩ := xsimp (pc := pc) (show (xsim .bastore && decide (r = .bastore) && decide (len = 1)) = true from hrb)
          simp only [xstep] at hev
          split at hev
          · rename_i x i0 a st
            obtain ⟨ty, ⟨hi, hty, hin0⟩, hev⟩ := hev
            exact xw_bast hexec hb hK hP hi hty hin0 hd (fun H1 j hP1 hq1 => ih _ _ _ _ _ (setI h a i0.toNatClampNeg (xcut ty x)) _ _ hbk hev hls hP1 (hsame H1 a hq1) (hlo1 a j) (hle.tr (xle_same rfl rfl)))
          · exact absurd hev id
        | aastore =>
          obtain ⟨rfl, rfl⟩ := xsimp (pc := pc) (show (xsim .aastore && decide (r = .aastore) && decide (len = 1)) = true from hrb)
          simp only [xstep] at hev
          split at hev
          · rename_i x i0 a st
            obtain ⟨⟨ci, hx, hi, hin0⟩, hev⟩ := hev
            have hat := (hP.2 x hx.1).1
            unfold xat at hat
            rw [hx.2] at hat
            obtain ⟨⟨C, Tt, N⟩, hcl, -⟩ := hat
            rw [(hc ci C Tt N hcl).2.2.2.2.2.2.2.1] at hi
            exact xw_aast hexec hb hK hP hx hcl hi hin0 hd (fun H1 j hP1 hq1 => ih _ _ _ _ _ (setR h a i0.toNatClampNeg (some x)) _ _ hbk hev hls hP1 (hsame H1 a hq1) (hlo1 a j) (hle.tr (xle_same rfl rfl)))
          · exact absurd hev id
        | caload =>
          simp only [xstep] at hev
          split at hev
          · rename_i n0 dp b0 sp a0 st
            obtain ⟨⟨hi0, hi, h1, h2, h3, h4, h5, h6⟩, hev⟩ := hev
            unfold xrb at hrb
            cases r <;> simp only [Bool.and_eq_true, decide_eq_true_eq, Bool.false_eq_true] at hrb
            obtain ⟨hk, rfl⟩ := hrb
            rcases hl.2.1 _ hk with ⟨q, -⟩ | ⟨-, hlk⟩ | ⟨q, hlk⟩ | ⟨q, -⟩ | ⟨q, -⟩ | ⟨q, -⟩
            · exact absurd q (by show ¬ (100001 = 100000); decide)
            · exact xw_copy hexec hb hml' hts hown hK hP hlk ha.2.2.2.2.1 ha.2.2.2.2.2.1 ha.2.2.2.2.2.2.1 hi0 hi h1 h2 h3 h4 h5 (by omega) (by rw [xv_cats]; omega) hd (fun H1 L hP1 hq1 hL => ih _ _ _ _ _ (rowI h b0 (va_cpy (xI h a0) (xI h b0) sp.toNatClampNeg dp.toNatClampNeg n0.toNatClampNeg)) _ _ hbk hev hls hP1 (hsame H1 b0 hq1) (hloL L (fun q hq => by rw [hL q hq]; exact Nat.le_add_right _ _)) (hle.tr (xle_same rfl rfl)))
            · have q9 : 100001 < NM := q
              omega
            · exact absurd q (by show ¬ (100001 = 100002); decide)
            · exact absurd q (by show ¬ (100001 = 100003); decide)
            · exact absurd q (by show ¬ (100010 ≤ 100001); decide)
          · exact absurd hev id
        | monitorenter =>
          simp only [xstep] at hev
          split at hev
          · rename_i a st
            obtain ⟨h6, hev⟩ := hev
            unfold xrb at hrb
            cases r <;> simp only [Bool.and_eq_true, decide_eq_true_eq, Bool.false_eq_true] at hrb
            obtain ⟨hk, rfl⟩ := hrb
            rcases hl.2.1 _ hk with ⟨-, hlk⟩ | ⟨q, -⟩ | ⟨q, hlk⟩ | ⟨q, -⟩ | ⟨q, -⟩ | ⟨q, -⟩
            · exact W.objInit hexec hb hown (hts _ hlk) (hts _ ha.2.2.1) (hts _ ha.2.2.2.1) rfl hml'.symm rfl hd (by omega) (by show 2 * 0 + _ + 12 ≤ _; rw [xv_cats]; omega) (ih _ _ _ _ _ _ _ _ hbk hev hls hP hF hlo hle)
            · exact absurd q (by show ¬ (100000 = 100001); decide)
            · have q9 : 100000 < NM := q
              omega
            · exact absurd q (by show ¬ (100000 = 100002); decide)
            · exact absurd q (by show ¬ (100000 = 100003); decide)
            · exact absurd q (by show ¬ (100010 ≤ 100000); decide)
          · exact absurd hev id
        | new c0 =>
          replace hev : ev G (Call G M d) B rt (xeq v h') n is ls (.ref h.1 :: st) (xnew h (.inr c0, G.1 c0)) := hev
          have hle2 := ev_le hev
          have e1 : (xnew h (.inr c0, G.1 c0)).1 = h.1 + 1 := rfl
          have e2 := xsl_new h (.inr c0, G.1 c0)
          unfold xrb at hrb
          cases r <;> simp only [Bool.and_eq_true, decide_eq_true_eq, Bool.false_eq_true] at hrb
          obtain ⟨hk, rfl⟩ := hrb
          obtain ⟨C, Tt, N, hcl, hlk⟩ := hl.2.2.1 _ hk
          have eN : N = G.1 c0 := (hc c0 C Tt N hcl).2.2.2.2.2.1
          have e3 : (((.inr c0, G.1 c0) : (FieldType ⊕ Nat) × Nat)).2 = N := eN.symm
          obtain ⟨q1, q2⟩ := hle
          obtain ⟨q3, q4⟩ := hle2
          refine xw_new hexec hb hts hown hK hc hP hcl hlk (by omega) (by omega) hd (fun H1 hP1 hq1 => ?_)
          refine W.cs (show h.1 - hs.1 + 1 = (xnew h (.inr c0, G.1 c0)).1 - hs.1 by omega) (show xsl h - xsl hs + N = xsl (xnew h (.inr c0, G.1 c0)) - xsl hs by omega) ?_
          exact ih _ _ _ _ (.ref h.1 :: st) _ _ _ hbk hev hls hP1 (hnewF H1 hq1) hlo (xle.tr ⟨q1, q2⟩ (xle_new _ _))
        | newarray t =>
          simp only [xstep] at hev
          split at hev
          · rename_i n0 st
            obtain ⟨⟨h1, h2⟩, hev⟩ := hev
            have hle2 := ev_le hev
            have e1 : (xnew h (.inl (newarray.typeOf t), n0.toNatClampNeg)).1 = h.1 + 1 := rfl
            have e2 := xsl_new h (.inl (newarray.typeOf t), n0.toNatClampNeg)
            have e3 : (((.inl (newarray.typeOf t), n0.toNatClampNeg) : (FieldType ⊕ Nat) × Nat)).2 = n0.toNatClampNeg := rfl
            obtain ⟨q1, q2⟩ := hle
            obtain ⟨q3, q4⟩ := hle2
            unfold xrb at hrb
            simp only [Bool.and_eq_true, decide_eq_true_eq] at hrb
            obtain ⟨⟨rfl, rfl⟩, hty⟩ := hrb
            refine xw_newa hexec hb hts hK hP hty (ha.1 t hty).1 (ha.1 t hty).2 h1 h2 (by omega) (by omega) hd (fun H1 hP1 hq1 => ?_)
            refine W.cs (show h.1 - hs.1 + 1 = (xnew h (.inl (newarray.typeOf t), n0.toNatClampNeg)).1 - hs.1 by omega) (show xsl h - xsl hs + n0.toNatClampNeg = xsl (xnew h (.inl (newarray.typeOf t), n0.toNatClampNeg)) - xsl hs by omega) ?_
            exact ih _ _ _ _ (.ref h.1 :: st) _ _ _ hbk hev hls hP1 (hnewF H1 hq1) hlo (xle.tr ⟨q1, q2⟩ (xle_new _ _))
          · exact absurd hev id
        | anewarray c0 =>
          simp only [xstep] at hev
          split at hev
          · rename_i n0 st
            obtain ⟨⟨h1, h2⟩, hev⟩ := hev
            have hle2 := ev_le hev
            have e1 : (xnew h (.inl (.object (G.2.2.2.2.1 c0)), n0.toNatClampNeg)).1 = h.1 + 1 := rfl
            have e2 := xsl_new h (.inl (.object (G.2.2.2.2.1 c0)), n0.toNatClampNeg)
            have e3 : (((.inl (.object (G.2.2.2.2.1 c0)), n0.toNatClampNeg) : (FieldType ⊕ Nat) × Nat)).2 = n0.toNatClampNeg := rfl
            obtain ⟨q1, q2⟩ := hle
            obtain ⟨q3, q4⟩ := hle2
            unfold xrb at hrb
            cases r <;> simp only [Bool.and_eq_true, decide_eq_true_eq, Bool.false_eq_true] at hrb
            obtain ⟨hk, rfl⟩ := hrb
            obtain ⟨C, Tt, N, hcl, hlk, hmem, hov⟩ := hl.2.2.2.2.2.2.2.1 _ hk
            have eC : G.2.2.2.2.1 c0 = C := (hc c0 C Tt N hcl).2.2.2.2.2.2.2.1
            rw [← eC] at hlk hmem hov
            refine xw_newr hexec hb hts hown hK hP hlk (hov.moved hA0) hmem h1 h2 (by omega) (by omega) hd (fun H1 hP1 hq1 => ?_)
            refine W.cs (show h.1 - hs.1 + 1 = (xnew h (.inl (.object (G.2.2.2.2.1 c0)), n0.toNatClampNeg)).1 - hs.1 by omega) (show xsl h - xsl hs + n0.toNatClampNeg = xsl (xnew h (.inl (.object (G.2.2.2.2.1 c0)), n0.toNatClampNeg)) - xsl hs by omega) ?_
            exact ih _ _ _ _ (.ref h.1 :: st) _ _ _ hbk hev hls hP1 (hnewF H1 hq1) hlo (xle.tr ⟨q1, q2⟩ (xle_new _ _))
          · exact absurd hev id
        | multianewarray a9 b9 =>
          simp only [xstep] at hev
          split at hev
          · rename_i n2 n1 st
            obtain ⟨⟨h1, h2, h3, h4⟩, hev⟩ := hev
            have hle2 := ev_le hev
            have e1 : (xnew2 h n1.toNatClampNeg n2.toNatClampNeg).1 = h.1 + 1 + n1.toNatClampNeg := rfl
            have e2 := xsl_new2 h n1.toNatClampNeg n2.toNatClampNeg
            obtain ⟨q1, q2⟩ := hle
            obtain ⟨q3, q4⟩ := hle2
            unfold xrb at hrb
            cases r <;> simp only [Bool.and_eq_true, decide_eq_true_eq, Bool.false_eq_true] at hrb
            obtain ⟨⟨rfl, hk⟩, rfl⟩ := hrb
            obtain ⟨hlk, hov⟩ := hl.2.2.2.2.2.2.2.2 _ hk
            refine xw_new2 hexec hb hts hown hK hP hlk (Stand.arrayOver_alikeB hA0 hov) (ha.1 .int (Or.inl rfl)).1 ha.2.1 (ha.1 .int (Or.inl rfl)).2 h1 h2 h3 h4 (by omega) (by omega) hd (fun H1 hP1 hq1 => ?_)
            refine W.cs (show h.1 - hs.1 + 1 + n1.toNatClampNeg = (xnew2 h n1.toNatClampNeg n2.toNatClampNeg).1 - hs.1 by omega) (show xsl h - xsl hs + n1.toNatClampNeg + n1.toNatClampNeg * n2.toNatClampNeg = xsl (xnew2 h n1.toNatClampNeg n2.toNatClampNeg) - xsl hs by omega) ?_
            exact ih _ _ _ _ (.ref h.1 :: st) _ _ _ hbk hev hls hP1 (hnewF H1 hq1) hlo (xle.tr ⟨q1, q2⟩ (xle_new2 _ _ _))
          · exact absurd hev id
        | invokevirtual m0 =>
          simp only [xstep] at hev
          unfold xrb at hrb
          cases r <;> simp only [Bool.and_eq_true, decide_eq_true_eq, Bool.false_eq_true] at hrb
          obtain ⟨⟨⟨hk, rfl⟩, hkd⟩, hsm⟩ := hrb
          rw [hOk] at hkd
          obtain ⟨hlt, hlk⟩ : m0 < NM ∧ Cond.methodLink own _ (Y m0) ∈ T := by
            rcases hl.2.1 _ hk with ⟨q, -⟩ | ⟨q, -⟩ | ⟨hlt, hlk⟩ | ⟨q, -⟩ | ⟨q, -⟩ | ⟨q, -⟩
            · have q9 : m0 = 100000 := q
              omega
            · have q9 : m0 = 100001 := q
              omega
            · exact ⟨hlt, hlk⟩
            · have q9 : m0 = 100002 := q
              omega
            · have q9 : m0 = 100003 := q
              omega
            · have q9 : 100010 ≤ m0 := q
              omega
          have hmm := hm m0 hlt
          obtain ⟨hcode, hini, hy1, hy2, hL45, -, hk0, hk1, hk2⟩ := hmm
          split at hev
          · rename_i a as hsp
            obtain ⟨⟨hi, hlen, hcat⟩, hcall⟩ := hev
            obtain ⟨v1, h1, hq, hle1, hall⟩ := Call_dt G M d _ _ _ _ hcall
            have hle2 := ev_le hq
            have hM := ihd m0 hlt _ _ _ _ (hall (xeq v1 h1) ⟨rfl, rfl⟩)
            obtain ⟨q1, q2⟩ := hle
            obtain ⟨q3, q4⟩ := hle1
            obtain ⟨q5, q6⟩ := hle2
            obtain ⟨hinst, hsel, hpar, r0, hcl, hcn⟩ := hk0 hkd
            have hst : st.map (xv E.1 sx) = (as.map (xv E.1 sx)).reverse ++ .ref (E.1 + a) :: (st.drop (G.2.1 m0)).map (xv E.1 sx) := by
              have e1 : st.take (G.2.1 m0) = as.reverse ++ [.ref a] := by rw [← List.reverse_reverse (st.take (G.2.1 m0)), hsp]; simp
              calc st.map (xv E.1 sx) = (st.take (G.2.1 m0) ++ st.drop (G.2.1 m0)).map (xv E.1 sx) := by rw [List.take_append_drop]
                _ = _ := by rw [e1]; simp [xv]
            have e7 := congrArg List.length hsp
            rw [List.length_reverse] at e7
            have hna : as.length + 1 = G.2.1 m0 := by rw [← hlen]; exact e7.symm
            rw [hst]
            have hpar2 : (parseMethodDescriptor (Y m0).desc).map (fun d => d.parameters.length) = some as.length := by
              cases hx : parseMethodDescriptor (Y m0).desc with
              | none => rw [hx] at hpar; cases hpar
              | some z => rw [hx] at hpar; simp at hpar ⊢; omega
            refine xw_callV hexec hb hts hown hml' ha.2.2.2.2.2.2.2 hK hA0 hRS hP hF hM hcode hini hlk hinst hsel ⟨hy1, hy2, hpar2⟩ hL45 hR hi hcl hcn rfl hcat ⟨by omega, by omega⟩ hd (fun H1 L hP1 hq1 hL => ?_)
            refine W.cs (show h.1 - hs.1 + (h1.1 - h.1) = h1.1 - hs.1 by omega) (show xsl h - xsl hs + (xsl h1 - xsl h) = xsl h1 - xsl hs by omega) ?_
            have e9 : (v1.map (xv E.1 sx)).toList ++ (st.drop (G.2.1 m0)).map (xv E.1 sx) = (v1.toList ++ st.drop (G.2.1 m0)).map (xv E.1 sx) := by cases v1 <;> simp
            rw [e9]
            exact ih _ _ _ _ _ _ _ _ hbk hq hls hP1 hq1 (hloL L hL) (xle.tr ⟨q1, q2⟩ ⟨q3, q4⟩)
          · exact absurd hev id
        | invokespecial m0 =>
          simp only [xstep] at hev
          unfold xrb at hrb
          cases r <;> simp only [Bool.and_eq_true, decide_eq_true_eq, Bool.false_eq_true] at hrb
          obtain ⟨⟨⟨hk, rfl⟩, hkd⟩, hsm⟩ := hrb
          rw [hOk] at hkd
          obtain ⟨hlt, hlk⟩ : m0 < NM ∧ Cond.methodLink own _ (Y m0) ∈ T := by
            rcases hl.2.1 _ hk with ⟨q, -⟩ | ⟨q, -⟩ | ⟨hlt, hlk⟩ | ⟨q, -⟩ | ⟨q, -⟩ | ⟨q, -⟩
            · have q9 : m0 = 100000 := q
              omega
            · have q9 : m0 = 100001 := q
              omega
            · exact ⟨hlt, hlk⟩
            · have q9 : m0 = 100002 := q
              omega
            · have q9 : m0 = 100003 := q
              omega
            · have q9 : 100010 ≤ m0 := q
              omega
          have hmm := hm m0 hlt
          obtain ⟨hcode, hini, hy1, hy2, hL45, -, hk0, hk1, hk2⟩ := hmm
          split at hev
          · rename_i a as hsp
            obtain ⟨⟨hlen, hcat⟩, hcall⟩ := hev
            obtain ⟨v1, h1, hq, hle1, hall⟩ := Call_dt G M d _ _ _ _ hcall
            have hle2 := ev_le hq
            have hM := ihd m0 hlt _ _ _ _ (hall (xeq v1 h1) ⟨rfl, rfl⟩)
            obtain ⟨q1, q2⟩ := hle
            obtain ⟨q3, q4⟩ := hle1
            obtain ⟨q5, q6⟩ := hle2
            obtain ⟨hinst, hyn, hrn, hpar⟩ := hk1 hkd
            rw [hrn] at hM hcode
            have hst : st.map (xv E.1 sx) = (as.map (xv E.1 sx)).reverse ++ .ref (E.1 + a) :: (st.drop (G.2.1 m0)).map (xv E.1 sx) := by
              have e1 : st.take (G.2.1 m0) = as.reverse ++ [.ref a] := by rw [← List.reverse_reverse (st.take (G.2.1 m0)), hsp]; simp
              calc st.map (xv E.1 sx) = (st.take (G.2.1 m0) ++ st.drop (G.2.1 m0)).map (xv E.1 sx) := by rw [List.take_append_drop]
                _ = _ := by rw [e1]; simp [xv]
            have e7 := congrArg List.length hsp
            rw [List.length_reverse] at e7
            have hna : as.length + 1 = G.2.1 m0 := by rw [← hlen]; exact e7.symm
            rw [hst]
            have hpar2 : (parseMethodDescriptor (Y m0).desc).map (fun d => d.parameters.length) = some as.length := by
              cases hx : parseMethodDescriptor (Y m0).desc with
              | none => rw [hx] at hpar; cases hpar
              | some z => rw [hx] at hpar; simp at hpar ⊢; omega
            refine xw_callI hexec hb hts hown hml' ha.2.2.2.2.2.2.2 hK hA0 hRS hP hF hM hcode hini hlk hinst hyn ⟨hy1, hy2, hpar2⟩ hL45 hR rfl hcat ⟨by omega, by omega⟩ hd (fun H1 L hP1 hq1 hL => ?_)
            refine W.cs (show h.1 - hs.1 + (h1.1 - h.1) = h1.1 - hs.1 by omega) (show xsl h - xsl hs + (xsl h1 - xsl h) = xsl h1 - xsl hs by omega) ?_
            have e9 : (v1.map (xv E.1 sx)).toList ++ (st.drop (G.2.1 m0)).map (xv E.1 sx) = (v1.toList ++ st.drop (G.2.1 m0)).map (xv E.1 sx) := by cases v1 <;> simp
            rw [e9]
            exact ih _ _ _ _ _ _ _ _ hbk hq hls hP1 hq1 (hloL L hL) (xle.tr ⟨q1, q2⟩ ⟨q3, q4⟩)
          · exact absurd hev id
        | invokestatic m0 =>
          simp only [xstep] at hev
          unfold xrb at hrb
          cases r <;> simp only [Bool.and_eq_true, decide_eq_true_eq, Bool.false_eq_true] at hrb
          obtain ⟨⟨⟨hk, rfl⟩, hkd⟩, hsm⟩ := hrb
          rw [hOk] at hkd
          obtain ⟨hlt, hlk⟩ : m0 < NM ∧ Cond.methodLink own _ (Y m0) ∈ T := by
            rcases hl.2.1 _ hk with ⟨q, -⟩ | ⟨q, -⟩ | ⟨hlt, hlk⟩ | ⟨q, -⟩ | ⟨q, -⟩ | ⟨q, -⟩
            · have q9 : m0 = 100000 := q
              omega
            · have q9 : m0 = 100001 := q
              omega
            · exact ⟨hlt, hlk⟩
            · have q9 : m0 = 100002 := q
              omega
            · have q9 : m0 = 100003 := q
              omega
            · have q9 : 100010 ≤ m0 := q
              omega
          have hmm := hm m0 hlt
          obtain ⟨hcode, hini, hy1, hy2, hL45, -, hk0, hk1, hk2⟩ := hmm
          · obtain ⟨⟨hlen, hcat⟩, hcall⟩ := hev
            obtain ⟨v1, h1, hq, hle1, hall⟩ := Call_dt G M d _ _ _ _ hcall
            have hle2 := ev_le hq
            have hM := ihd m0 hlt _ _ _ _ (hall (xeq v1 h1) ⟨rfl, rfl⟩)
            obtain ⟨q1, q2⟩ := hle
            obtain ⟨q3, q4⟩ := hle1
            obtain ⟨q5, q6⟩ := hle2
            obtain ⟨hsta, hpar⟩ := hk2 hkd
            have hst : st.map (xv E.1 sx) = ((st.take (G.2.1 m0)).reverse.map (xv E.1 sx)).reverse ++ (st.drop (G.2.1 m0)).map (xv E.1 sx) := by
              calc st.map (xv E.1 sx) = (st.take (G.2.1 m0) ++ st.drop (G.2.1 m0)).map (xv E.1 sx) := by rw [List.take_append_drop]
                _ = _ := by rw [List.map_append, List.map_reverse, List.reverse_reverse]
            have hna : (st.take (G.2.1 m0)).reverse.length = G.2.1 m0 := by rw [List.length_reverse]; exact hlen
            rw [hst]
            refine xw_callS hexec hb hts hown hml' ha.2.2.2.2.2.2.2 hK hA0 hRS hP hF hM hcode hini hlk hsta ⟨hy1, hy2, hpar⟩ hL45 hR hna hcat ⟨by omega, by omega⟩ hd (fun H1 L hP1 hq1 hL => ?_)
            refine W.cs (show h.1 - hs.1 + (h1.1 - h.1) = h1.1 - hs.1 by omega) (show xsl h - xsl hs + (xsl h1 - xsl h) = xsl h1 - xsl hs by omega) ?_
            have e9 : (v1.map (xv E.1 sx)).toList ++ (st.drop (G.2.1 m0)).map (xv E.1 sx) = (v1.toList ++ st.drop (G.2.1 m0)).map (xv E.1 sx) := by cases v1 <;> simp
            rw [e9]
            exact ih _ _ _ _ _ _ _ _ hbk hq hls hP1 hq1 (hloL L hL) (xle.tr ⟨q1, q2⟩ ⟨q3, q4⟩)

        | ldc u0 =>
          replace hev : ev G (Call G M d) B rt (xeq v h') n is ls (.float (UInt32.ofNat u0) :: st) h := hev
          unfold xrb at hrb
          cases r <;> simp only [Bool.and_eq_true, decide_eq_true_eq, Bool.false_eq_true] at hrb
          obtain ⟨hk, rfl⟩ := hrb
          rcases hl.2.1 _ hk with ⟨q, -⟩ | ⟨q, -⟩ | ⟨q, -⟩ | ⟨q, -⟩ | ⟨q, -⟩ | ⟨-, tx, hmem⟩
          · have q9 : 100010 + u0 = 100000 := q
            omega
          · have q9 : 100010 + u0 = 100001 := q
            omega
          · have q9 : 100010 + u0 < NM := q
            omega
          · have q9 : 100010 + u0 = 100002 := q
            omega
          · have q9 : 100010 + u0 = 100003 := q
            omega
          · simp only [Nat.add_sub_cancel_left] at hmem
            exact va_ldcS hexec hb hown (hRS _ hmem) hd (ih _ _ _ _ _ _ _ _ hbk hev hls hP hF hlo hle)
        | f2i =>
          simp only [xstep] at hev
          split at hev
          · rename_i u st
            obtain ⟨⟨hu, hcat⟩, hev⟩ := hev
            unfold xrb at hrb
            cases r <;> simp only [Bool.and_eq_true, decide_eq_true_eq, Bool.false_eq_true] at hrb
            obtain ⟨hk, rfl⟩ := hrb
            rcases hl.2.1 _ hk with ⟨q, -⟩ | ⟨q, -⟩ | ⟨q, -⟩ | ⟨-, hlk⟩ | ⟨q, -⟩ | ⟨q, -⟩
            · exact absurd q (by show ¬ (100002 = 100000); decide)
            · exact absurd q (by show ¬ (100002 = 100001); decide)
            · have q9 : 100002 < NM := q
              omega
            · have hM := x_length (l := l) (G := G) (h := h) hSt.1 hSt.2.1 hSt.2.2 hu
              have hle2 := ev_le hev
              obtain ⟨q1, q2⟩ := id hle
              obtain ⟨q3, q4⟩ := hle2
              refine xw_callVS (as := []) (rest := st) (u := u) (n := 0) hexec hb hts hown hml' hSt.2.1 hK hA0 hRS hP hF hM (hSt.1 _ (List.mem_of_getElem? (i := 5) rfl)) (hSt.1 _ (List.mem_of_getElem? (i := 0) rfl)) hlk (hSt.1 _ (List.mem_of_getElem? (i := 3) rfl)) (hSt.1 _ (List.mem_of_getElem? (i := 4) rfl)) ⟨by decide, by decide, by decide⟩ (by decide) ⟨by omega, by omega⟩ (xrcv hSt.2.2 hA0 hF hu) rfl hcat ⟨by omega, by omega⟩ hd (fun H1 L hP1 hq1 hL => ?_)
              refine W.cs (show h.1 - hs.1 + (h.1 - h.1) = h.1 - hs.1 by omega) (show xsl h - xsl hs + (xsl h - xsl h) = xsl h - xsl hs by omega) ?_
              exact ih _ _ _ _ (.int _ :: st) _ _ _ hbk hev hls hP1 hq1 (hloL L hL) hle
            · exact absurd q (by show ¬ (100002 = 100003); decide)
            · exact absurd q (by show ¬ (100010 ≤ 100002); decide)
          · exact absurd hev id
        | faload =>
          simp only [xstep] at hev
          split at hev
          · rename_i i0 u st
            obtain ⟨⟨hu, hin0, hcat⟩, hev⟩ := hev
            unfold xrb at hrb
            cases r <;> simp only [Bool.and_eq_true, decide_eq_true_eq, Bool.false_eq_true] at hrb
            obtain ⟨hk, rfl⟩ := hrb
            rcases hl.2.1 _ hk with ⟨q, -⟩ | ⟨q, -⟩ | ⟨q, -⟩ | ⟨q, -⟩ | ⟨-, hlk⟩ | ⟨q, -⟩
            · exact absurd q (by show ¬ (100003 = 100000); decide)
            · exact absurd q (by show ¬ (100003 = 100001); decide)
            · have q9 : 100003 < NM := q
              omega
            · exact absurd q (by show ¬ (100003 = 100002); decide)
            · have hM := x_charAt (l := l) (G := G) (h := h) hSt.1 hSt.2.1 hSt.2.2 hu hin0
              have hle2 := ev_le hev
              obtain ⟨q1, q2⟩ := id hle
              obtain ⟨q3, q4⟩ := hle2
              refine xw_callVS (as := [.int i0]) (rest := st) (u := u) (n := 1) hexec hb hts hown hml' hSt.2.1 hK hA0 hRS hP hF hM (hSt.1 _ (List.mem_of_getElem? (i := 13) rfl)) (hSt.1 _ (List.mem_of_getElem? (i := 0) rfl)) hlk (hSt.1 _ (List.mem_of_getElem? (i := 11) rfl)) (hSt.1 _ (List.mem_of_getElem? (i := 12) rfl)) ⟨by decide, by decide, by decide⟩ (by decide) ⟨by omega, by omega⟩ (xrcv hSt.2.2 hA0 hF hu) rfl hcat ⟨by omega, by omega⟩ hd (fun H1 L hP1 hq1 hL => ?_)
              refine W.cs (show h.1 - hs.1 + (h.1 - h.1) = h.1 - hs.1 by omega) (show xsl h - xsl hs + (xsl h - xsl h) = xsl h - xsl hs by omega) ?_
              exact ih _ _ _ _ (.int _ :: st) _ _ _ hbk hev hls hP1 hq1 (hloL L hL) hle
            · exact absurd q (by show ¬ (100010 ≤ 100003); decide)
          · exact absurd hev id
        | ireturn =>
          obtain ⟨rfl, rfl⟩ := xsimp (pc := pc) (show (xsim .ireturn && decide (r = .ireturn) && decide (len = 1)) = true from hrb)
          simp only [xstep] at hev
          split at hev
          · rename_i x
            obtain ⟨⟨ty, hrt1, hfit⟩, ⟨rfl, rfl⟩⟩ := hev
            exact hQz H locs lc pc _ hd hP hF hlo (Or.inl ⟨x, rfl, rfl, ty, hrt1, hfit⟩)
          · exact absurd hev id
        | lreturn =>
          obtain ⟨rfl, rfl⟩ := xsimp (pc := pc) (show (xsim .lreturn && decide (r = .lreturn) && decide (len = 1)) = true from hrb)
          simp only [xstep] at hev
          split at hev
          · rename_i x
            obtain ⟨hrt1, ⟨rfl, rfl⟩⟩ := hev
            exact hQz H locs lc pc _ hd hP hF hlo (Or.inr (Or.inl ⟨x, rfl, rfl, hrt1⟩))
          · exact absurd hev id
        | areturn =>
          obtain ⟨rfl, rfl⟩ := xsimp (pc := pc) (show (xsim .areturn && decide (r = .areturn) && decide (len = 1)) = true from hrb)
          simp only [xstep] at hev
          split at hev
          · rename_i x
            obtain ⟨⟨ty, hrt1, hfit⟩, ⟨rfl, rfl⟩⟩ := hev
            exact hQz H locs lc pc _ hd hP hF hlo (Or.inr (Or.inr (Or.inl ⟨x, rfl, Or.inl rfl, ty, hrt1, hfit⟩)))
          · obtain ⟨⟨ty, hrt1, hfit⟩, ⟨rfl, rfl⟩⟩ := hev
            exact hQz H locs lc pc _ hd hP hF hlo (Or.inr (Or.inr (Or.inl ⟨0, rfl, Or.inr rfl, ty, hrt1, hfit⟩)))
          · exact absurd hev id
        | return_ =>
          obtain ⟨rfl, rfl⟩ := xsimp (pc := pc) (show (xsim .return_ && decide (r = .return_) && decide (len = 1)) = true from hrb)
          simp only [xstep] at hev
          split at hev
          · obtain ⟨hrt1, ⟨rfl, rfl⟩⟩ := hev
            exact hQz H locs lc pc _ hd hP hF hlo (Or.inr (Or.inr (Or.inr ⟨rfl, rfl, hrt1⟩)))
          · exact absurd hev id
        | jsr t => exact absurd ⟨t, rfl⟩ hj
        | _ => exact absurd hev id
end XSND
