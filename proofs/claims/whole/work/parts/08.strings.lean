def xyCod : MethodName := ⟨"java/lang/String", "coder", "()B"⟩
def xyIsl : MethodName := ⟨"java/lang/String", "isLatin1", "()Z"⟩
def xyCk : MethodName := ⟨"java/lang/String", "checkIndex", "(II)V"⟩
def xyLch : MethodName := ⟨"java/lang/StringLatin1", "charAt", "([BI)C"⟩
def xyPck : MethodName := ⟨"jdk/internal/util/Preconditions", "checkIndex", "(IILjava/util/function/BiFunction;)I"⟩
theorem xdLen_0 : decode prog_18_method_54_code 0 = .ok (.aload_n 0, 1) := by decide +kernel
theorem xdLen_1 : decode prog_18_method_54_code 1 = .ok (.getfield 9, 3) := by decide +kernel
theorem xdLen_4 : decode prog_18_method_54_code 4 = .ok (.arraylength, 1) := by decide +kernel
theorem xdLen_5 : decode prog_18_method_54_code 5 = .ok (.aload_n 0, 1) := by decide +kernel
theorem xdLen_6 : decode prog_18_method_54_code 6 = .ok (.invokevirtual 335, 3) := by decide +kernel
theorem xdLen_9 : decode prog_18_method_54_code 9 = .ok (.ishr, 1) := by decide +kernel
theorem xdLen_10 : decode prog_18_method_54_code 10 = .ok (.ireturn, 1) := by decide +kernel
theorem xdChr_0 : decode prog_18_method_56_code 0 = .ok (.aload_n 0, 1) := by decide +kernel
theorem xdChr_1 : decode prog_18_method_56_code 1 = .ok (.invokevirtual 492, 3) := by decide +kernel
theorem xdChr_4 : decode prog_18_method_56_code 4 = .ok (.ifCond .eq 12, 3) := by decide +kernel
theorem xdChr_7 : decode prog_18_method_56_code 7 = .ok (.aload_n 0, 1) := by decide +kernel
theorem xdChr_8 : decode prog_18_method_56_code 8 = .ok (.getfield 9, 3) := by decide +kernel
theorem xdChr_11 : decode prog_18_method_56_code 11 = .ok (.iload_n 1, 1) := by decide +kernel
theorem xdChr_12 : decode prog_18_method_56_code 12 = .ok (.invokestatic 495, 3) := by decide +kernel
theorem xdChr_15 : decode prog_18_method_56_code 15 = .ok (.ireturn, 1) := by decide +kernel
theorem xdCod_0 : decode prog_18_method_152_code 0 = .ok (.getstatic 38, 3) := by decide +kernel
theorem xdCod_3 : decode prog_18_method_152_code 3 = .ok (.ifCond .eq 10, 3) := by decide +kernel
theorem xdCod_6 : decode prog_18_method_152_code 6 = .ok (.aload_n 0, 1) := by decide +kernel
theorem xdCod_7 : decode prog_18_method_152_code 7 = .ok (.getfield 15, 3) := by decide +kernel
theorem xdCod_10 : decode prog_18_method_152_code 10 = .ok (.goto 4, 3) := by decide +kernel
theorem xdCod_13 : decode prog_18_method_152_code 13 = .ok (.iconst 1, 1) := by decide +kernel
theorem xdCod_14 : decode prog_18_method_152_code 14 = .ok (.ireturn, 1) := by decide +kernel
theorem xdIsl_0 : decode prog_18_method_154_code 0 = .ok (.getstatic 38, 3) := by decide +kernel
theorem xdIsl_3 : decode prog_18_method_154_code 3 = .ok (.ifCond .eq 14, 3) := by decide +kernel
theorem xdIsl_6 : decode prog_18_method_154_code 6 = .ok (.aload_n 0, 1) := by decide +kernel
theorem xdIsl_7 : decode prog_18_method_154_code 7 = .ok (.getfield 15, 3) := by decide +kernel
theorem xdIsl_10 : decode prog_18_method_154_code 10 = .ok (.ifCond .ne 7, 3) := by decide +kernel
theorem xdIsl_13 : decode prog_18_method_154_code 13 = .ok (.iconst 1, 1) := by decide +kernel
theorem xdIsl_14 : decode prog_18_method_154_code 14 = .ok (.goto 4, 3) := by decide +kernel
theorem xdIsl_17 : decode prog_18_method_154_code 17 = .ok (.iconst 0, 1) := by decide +kernel
theorem xdIsl_18 : decode prog_18_method_154_code 18 = .ok (.ireturn, 1) := by decide +kernel
theorem xdCk_0 : decode prog_18_method_155_code 0 = .ok (.iload_n 0, 1) := by decide +kernel
theorem xdCk_1 : decode prog_18_method_155_code 1 = .ok (.iload_n 1, 1) := by decide +kernel
theorem xdCk_2 : decode prog_18_method_155_code 2 = .ok (.getstatic 1053, 3) := by decide +kernel
theorem xdCk_5 : decode prog_18_method_155_code 5 = .ok (.invokestatic 1059, 3) := by decide +kernel
theorem xdCk_8 : decode prog_18_method_155_code 8 = .ok (.pop, 1) := by decide +kernel
theorem xdCk_9 : decode prog_18_method_155_code 9 = .ok (.return_, 1) := by decide +kernel
theorem xdLch_0 : decode prog_19_method_2_code 0 = .ok (.iload_n 1, 1) := by decide +kernel
theorem xdLch_1 : decode prog_19_method_2_code 1 = .ok (.aload_n 0, 1) := by decide +kernel
theorem xdLch_2 : decode prog_19_method_2_code 2 = .ok (.arraylength, 1) := by decide +kernel
theorem xdLch_3 : decode prog_19_method_2_code 3 = .ok (.invokestatic 9, 3) := by decide +kernel
theorem xdLch_6 : decode prog_19_method_2_code 6 = .ok (.aload_n 0, 1) := by decide +kernel
theorem xdLch_7 : decode prog_19_method_2_code 7 = .ok (.iload_n 1, 1) := by decide +kernel
theorem xdLch_8 : decode prog_19_method_2_code 8 = .ok (.baload, 1) := by decide +kernel
theorem xdLch_9 : decode prog_19_method_2_code 9 = .ok (.sipush 255, 3) := by decide +kernel
theorem xdLch_12 : decode prog_19_method_2_code 12 = .ok (.iand, 1) := by decide +kernel
theorem xdLch_13 : decode prog_19_method_2_code 13 = .ok (.i2c, 1) := by decide +kernel
theorem xdLch_14 : decode prog_19_method_2_code 14 = .ok (.ireturn, 1) := by decide +kernel
theorem xdPck_0 : decode prog_23_method_11_code 0 = .ok (.iload_n 0, 1) := by decide +kernel
theorem xdPck_1 : decode prog_23_method_11_code 1 = .ok (.ifCond .lt 8, 3) := by decide +kernel
theorem xdPck_4 : decode prog_23_method_11_code 4 = .ok (.iload_n 0, 1) := by decide +kernel
theorem xdPck_5 : decode prog_23_method_11_code 5 = .ok (.iload_n 1, 1) := by decide +kernel
theorem xdPck_6 : decode prog_23_method_11_code 6 = .ok (.if_icmp .lt 10, 3) := by decide +kernel
theorem xdPck_16 : decode prog_23_method_11_code 16 = .ok (.iload_n 0, 1) := by decide +kernel
theorem xdPck_17 : decode prog_23_method_11_code 17 = .ok (.ireturn, 1) := by decide +kernel
def xwS : List Cond := [.initialized "java/lang/String", .initialized "java/lang/StringLatin1", .initialized "jdk/internal/util/Preconditions", .instanceMethod xyLen, .selects "java/lang/String" xyLen xyLen, .code xyLen prog_18_method_54_code 1 (some .int), .methodLink "java/lang/String" 335 xyCod, .instanceMethod xyCod, .selects "java/lang/String" xyCod xyCod, .code xyCod prog_18_method_152_code 1 (some .byte), .fieldLink "java/lang/String" 38 "java/lang/String" "COMPACT_STRINGS" "Z", .instanceMethod xyChr, .selects "java/lang/String" xyChr xyChr, .code xyChr prog_18_method_56_code 2 (some .char), .methodLink "java/lang/String" 492 xyIsl, .instanceMethod xyIsl, .selects "java/lang/String" xyIsl xyIsl, .code xyIsl prog_18_method_154_code 1 (some .boolean), .methodLink "java/lang/String" 495 xyLch, .static xyLch, .code xyLch prog_19_method_2_code 2 (some .char), .methodLink "java/lang/StringLatin1" 9 xyCk, .static xyCk, .code xyCk prog_18_method_155_code 2 none, .fieldLink "java/lang/String" 1053 "jdk/internal/util/Preconditions" "SIOOBE_FORMATTER" "Ljava/util/function/BiFunction;", .methodLink "java/lang/String" 1059 xyPck, .static xyPck, .code xyPck prog_23_method_11_code 3 (some .int), .fieldLink "java/lang/String" 9 "java/lang/String" "value" "[B", .fieldLink "java/lang/String" 15 "java/lang/String" "coder" "B"]
/-- how long the texts are -/
def xlens : List Nat := xlb.map List.length
/-- the world of the texts at a state: strings at sx (i + 1), their bytes at sx (i + 101), the two statics -/
def xSW (E : xE) (sx : UInt32 → Nat) (U : State) : Prop := vk_S 7 xlens xlb (fun i => sx (UInt32.ofNat (i + 1))) (fun i => sx (UInt32.ofNat (i + 101))) (fun q => E.1 ≤ q) U U.heap ∧ va_Z "java/lang/String" "COMPACT_STRINGS" "Z" (.int 1) (fun q => E.1 ≤ q) U U.heap ∧ (va_Z "jdk/internal/util/Preconditions" "SIOOBE_FORMATTER" "Ljava/util/function/BiFunction;" .null (fun q => E.1 ≤ q) U U.heap ∨ va_Z "jdk/internal/util/Preconditions" "SIOOBE_FORMATTER" "Ljava/util/function/BiFunction;" (.ref (sx 200)) (fun q => E.1 ≤ q) U U.heap)
theorem xSW.at {E : xE} {sx : UInt32 → Nat} {s0 s : State} (h : xSW E sx s0) (hA0 : s0.vm.Alike s.vm) (hF : ∀ q : Nat, q < E.1 → s.heap[q]? = s0.heap[q]?) : xSW E sx s := by
  obtain ⟨h1, h2, h3⟩ := h
  have k : ∀ a : Nat, a < s0.heap.size → ¬ E.1 ≤ a → s.heap[a]? = s0.heap[a]? := fun a _ hn => hF a (by omega)
  refine ⟨(h1.moved hA0).kept k, (h2.moved hA0).kept k, ?_⟩
  rcases h3 with h3 | h3
  · exact .inl ((h3.moved hA0).kept k)
  · exact .inr ((h3.moved hA0).kept k)
theorem xu_ix {u : UInt32} (hu : xokU u) : ∃ i, i < 7 ∧ u = UInt32.ofNat (i + 1) ∧ (u + 100) = UInt32.ofNat (i + 101) ∧ xstr u = xlb.getD i [] ∧ xlens.getD i 0 = (xstr u).length := by
  obtain ⟨h1, h2⟩ := hu
  have e : u = UInt32.ofNat (u.toNat - 1 + 1) := by rw [Nat.sub_add_cancel h1]; simp
  refine ⟨u.toNat - 1, by omega, e, ?_, rfl, ?_⟩
  · have : u.toNat = 1 ∨ u.toNat = 2 ∨ u.toNat = 3 ∨ u.toNat = 4 ∨ u.toNat = 5 ∨ u.toNat = 6 ∨ u.toNat = 7 := by omega
    rcases this with q | q | q | q | q | q | q <;> (rw [q] at e; rw [e]; decide)
  · unfold xstr xlens
    have : u.toNat - 1 < 7 := by omega
    generalize u.toNat - 1 = i at this
    revert i
    decide
theorem xu_ch : ∀ i, i < 7 → ∀ k, k < (xlb.getD i []).length → (((xlb.getD i []).getD k 0 &&& 255).toUInt32 % 65536).toInt32 = (xlb.getD i []).getD k 0 ∧ narrow .char (.int ((xlb.getD i []).getD k 0)) = .int ((xlb.getD i []).getD k 0) := by decide +kernel
section XST
variable {l : Launch} {T : List Cond} {E : xE} {G : xG} {sx : UInt32 → Nat} {s0 : State} {h : xH} {d : Nat} {u : UInt32} {v : Option Value} {as : List Value} {y : MethodName} {bytes : ByteArray} {maxL : Nat} {ret : Option FieldType}
/-- a contract that changes nothing, out of a walk -/
theorem xmetS (hy : plainFor y = true) (hlen : (xent as).length ≤ maxL) (body : ∀ (p : Program) (e : Env) (s : State) (m : MethodId) (below : List Frame) (meth : Method) (c : Code) (lc : Array Slot), p.tables.exec = Jvm.exec → c.code = bytes → meth.sig.returnType = ret → meth.locks = false → c.maxLocals = maxL → (∀ w ∈ T, w.before (as.map (xv E.1 sx)).toArray s = true) → s.vm.findClass y.cls = some m.cls → xLs E.1 sx (xentry as maxL) lc maxL → xP E G h s.heap → (∀ q : Nat, q < E.1 → s.heap[q]? = s0.heap[q]?) → xKn E s → s0.vm.Alike s.vm → xRS sx s →
      W p l e (xRm d (h.1 - h.1) (xsl h - xsl h)) s m (as.map (xv E.1 sx)).toArray below meth c s.heap [] (h.1 - h.1) (xsl h - xsl h) (MQ below (xQc E G sx s0 v h) (as.map (xv E.1 sx)).toArray s (h.1 - h.1) (xsl h - xsl h) (fun q => E.1 ≤ q)) (F0 m 0 lc [])) : xMet l E G sx s0 y (Cond.code y bytes maxL ret :: T) d as h v h := by
  refine va_MetF (cc := bytes) (maxL := maxL) (ret := ret) hy rfl ?_
  intro p e s m' args below meth c s₁ B hml hv
  obtain ⟨rfl, hP, hF, hK, hA0, hRS⟩ := hv
  have hts0 := atoms_spec (ws := Cond.code y bytes maxL ret :: T) B.pre
  have hts : ∀ w ∈ T, w.before (as.map (xv E.1 sx)).toArray s = true := fun w hw => hts0 w (List.mem_cons_of_mem _ hw)
  have hown : s.vm.findClass y.cls = some m'.cls := findClass_of_methodNamed B.named
  rw [lg_entry_eq]
  have hls := xLs.entry (b := E.1) (sx := sx) hlen
  generalize (lg_sl (as.map (xv E.1 sx)) ++ List.replicate (maxL - (lg_sl (as.map (xv E.1 sx))).length) Slot.unset).toArray = lc at hls ⊢
  have key := body p e s m' below meth c lc B.exec B.bytes B.returns B.notSynchronized hml hts hown hls hP hF hK hA0 hRS
  have e1 : h.1 - h.1 = 0 := Nat.sub_self _
  have e2 : xsl h - xsl h = 0 := Nat.sub_self _
  rw [e1, e2] at key ⊢
  exact key
variable {p : Program} {e : Env} {R : Room} {s : State} {m : MethodId} {args : Array Value} {below : List Frame} {meth : Method} {c : Code} {H : Heap} {locs : List Loc} {cells slots : Nat} {Q : State → Prop} {cc : ByteArray} {pc : Nat} {ls : Array Slot} {h' : xH} {own : String}
theorem xretS {x : Int32} {ty : FieldType} (hexec : p.tables.exec = Jvm.exec) (hb : c.code = cc) (hrt : meth.sig.returnType = some ty) (hlocks : meth.locks = false) (hK : xKn E s) (hA0 : s0.vm.Alike s.vm) (hRS : xRS sx s) (hP : xP E G h H) (hF : ∀ q : Nat, q < E.1 → H[q]? = s0.heap[q]?) (hlo : ∀ q ∈ locs, E.1 ≤ q.base) (hn : narrow ty (.int x) = .int x) (hd : decode cc pc = .ok (.ireturn, 1)) : W p l e R s m args below meth c H locs (h.1 - h.1) (xsl h - xsl h) (MQ below (xQc E G sx s0 (some (.int x)) h) args s (h.1 - h.1) (xsl h - xsl h) (fun q => E.1 ≤ q)) (F0 m pc ls [.int x]) :=
  W.zret hexec hb hrt hn (fun t ht hW => ⟨rfl, by rw [ht]; exact hP, fun q hq => by rw [ht]; exact hF q hq, hK.moved hW.alike, hA0.trans hW.alike, hRS.warm hW⟩) hlo hd hlocks
theorem xvaS {H1 : Heap} (hP : xP E G h s.heap) (hF : ∀ q : Nat, q < E.1 → s.heap[q]? = s0.heap[q]?) (hP1 : xP E G h H1) (hF1 : ∀ q : Nat, q < E.1 → H1[q]? = s0.heap[q]?) (hl : ∀ q ∈ locs, E.1 ≤ q.base) : va_S (fun q => E.1 ≤ q) s.heap H1 locs :=
  ⟨by rw [hP1.1, hP.1]; exact Nat.le_refl _, fun q _ hn => by rw [hF1 q (by omega), hF q (by omega)], hl⟩
/-- a call of a string's own method -/
theorem xw_callVS (hexec : p.tables.exec = Jvm.exec) (hb : c.code = cc) (hts : ∀ w ∈ T, w.before args s = true) (hown : s.vm.findClass own = some m.cls) (hml : c.maxLocals = ls.size) (hg : ∀ w ∈ T, goodWord w = true) (hK : xKn E s) (hA0 : s0.vm.Alike s.vm) (hRS : xRS sx s) (hP : xP E G h H) (hF : ∀ q : Nat, q < E.1 → H[q]? = s0.heap[q]?)
    {n index : Nat} {as rest : List Value} (hM : xMet l E G sx s0 y (Cond.code y bytes maxL ret :: T) d (.float u :: as) h v h') (hcode : Cond.code y bytes maxL ret ∈ T) (hini : Cond.initialized y.cls ∈ T) (hlink : Cond.methodLink own index y ∈ T) (hinst : Cond.instanceMethod y ∈ T) (hsel : Cond.selects y.cls y y ∈ T) (hd : y.cls ≠ "java/lang/invoke/MethodHandle" ∧ y.cls ≠ "java/lang/invoke/VarHandle" ∧ (parseMethodDescriptor y.desc).map (fun d => d.parameters.length) = some n) (hL : maxL ≤ 45) (hR : d + 1 ≤ R.frames ∧ 64 * (d + 1) ≤ R.locals)
    (hrc : ∃ cellV : Cell, H[sx u]? = some cellV ∧ cellV.vm.isStatics = false ∧ s.vm.findClass y.cls = some cellV.cls) (hn : as.length = n) (hW : (rest.map fun v => v.category).sum ≤ 8) (hf : cells + (h'.1 - h.1) ≤ R.cells ∧ slots + (xsl h' - xsl h) ≤ R.slots) (hdg : decode cc pc = .ok (.invokevirtual index, 3))
    (kk : ∀ (H1 : Heap) (L : List Loc), xP E G h' H1 → (∀ q : Nat, q < E.1 → H1[q]? = s0.heap[q]?) → (∀ q ∈ L, E.1 ≤ q.base) → W p l e R s m args below meth c H1 (locs ++ L) (cells + (h'.1 - h.1)) (slots + (xsl h' - xsl h)) Q (F0 m (pc + 3) ls ((v.map (xv E.1 sx)).toList ++ rest.map (xv E.1 sx)))) :
    W p l e R s m args below meth c H locs cells slots Q (F0 m pc ls ((as.map (xv E.1 sx)).reverse ++ .ref (sx u) :: rest.map (xv E.1 sx))) :=
  xw_after (y := y) (ws := T) (as := as) (va_runV (As := as.map (xv E.1 sx)) (rest := rest.map (xv E.1 sx)) (n := n) (C := y.cls) (bytes := bytes) (maxL := maxL) (ret := ret) ⟨hexec, hb, hml, hown, hts⟩ hM ⟨xw_callB hts hg hcode hini hlink hd hL hR, hts _ hinst, hts _ hsel⟩ ⟨xPc_blind _ _ _ _ _ _, hrc, xpre (as := .float u :: as) hP hF hK hA0 hRS⟩ rfl (by rw [List.length_map]; exact hn) rfl rfl (lv_room (by rw [xv_cats]; exact hW)) hdg hf) kk
theorem xnb0 : narrow .byte (.int 0) = .int 0 := by decide
theorem xnz1 : narrow .boolean (.int 1) = .int 1 := by decide
theorem x_coder (hw : ∀ w ∈ xwS, w ∈ T) (hsw : xSW E sx s0) (hu : xokU u) : xMet l E G sx s0 xyCod (Cond.code xyCod prog_18_method_152_code 1 (some .byte) :: T) 1 [.float u] h (some (.int 0)) h := by
  refine xmetS (by decide) (Nat.le_refl _) ?_
  intro p e s m below meth c lc hexec hb hrt hlocks hml hts hown hls hP hF hK hA0 hRS
  obtain ⟨i, hi, rfl, -, -, -⟩ := xu_ix hu
  obtain ⟨hS1, hS2, -⟩ := hsw.at hA0 hF
  have hvS : va_S (fun q => E.1 ≤ q) s.heap s.heap [] := va_S.rf
  have h0 := hls.2.2.2 0 (.float (UInt32.ofNat (i + 1))) rfl
  refine va_gets hexec hb hS2 hvS hown (hts _ (hw _ (List.mem_of_getElem? (i := 10) rfl))) (fun x q => q) xdCod_0 ?_
  refine xw_if hexec hb (tgt := 13) xdCod_3 (by decide) (fun q => absurd q (by decide)) (fun _ => ?_)
  refine lv_aload_n hexec hb xdCod_6 rfl h0 ?_
  refine vk_getf hexec hb (hS1.1 i hi).2.1 hvS hown (hts _ (hw _ (List.mem_of_getElem? (i := 29) rfl))) (fun x q => q) xdCod_7 ?_
  refine lv_goto hexec hb (tgt := 14) xdCod_10 (by decide) ?_
  exact xretS hexec hb hrt hlocks hK hA0 hRS hP hF (fun q hq => by cases hq) xnb0 xdCod_14
theorem x_isLatin1 (hw : ∀ w ∈ xwS, w ∈ T) (hsw : xSW E sx s0) (hu : xokU u) : xMet l E G sx s0 xyIsl (Cond.code xyIsl prog_18_method_154_code 1 (some .boolean) :: T) 1 [.float u] h (some (.int 1)) h := by
  refine xmetS (by decide) (Nat.le_refl _) ?_
  intro p e s m below meth c lc hexec hb hrt hlocks hml hts hown hls hP hF hK hA0 hRS
  obtain ⟨i, hi, rfl, -, -, -⟩ := xu_ix hu
  obtain ⟨hS1, hS2, -⟩ := hsw.at hA0 hF
  have hvS : va_S (fun q => E.1 ≤ q) s.heap s.heap [] := va_S.rf
  have h0 := hls.2.2.2 0 (.float (UInt32.ofNat (i + 1))) rfl
  refine va_gets hexec hb hS2 hvS hown (hts _ (hw _ (List.mem_of_getElem? (i := 10) rfl))) (fun x q => q) xdIsl_0 ?_
  refine xw_if hexec hb (tgt := 17) xdIsl_3 (by decide) (fun q => absurd q (by decide)) (fun _ => ?_)
  refine lv_aload_n hexec hb xdIsl_6 rfl h0 ?_
  refine vk_getf hexec hb (hS1.1 i hi).2.1 hvS hown (hts _ (hw _ (List.mem_of_getElem? (i := 29) rfl))) (fun x q => q) xdIsl_7 ?_
  refine xw_if hexec hb (tgt := 17) xdIsl_10 (by decide) (fun q => absurd q (by decide)) (fun _ => ?_)
  refine lv_iconst hexec hb (v := 1) xdIsl_13 rfl ?_
  refine lv_goto hexec hb (tgt := 18) xdIsl_14 (by decide) ?_
  exact xretS hexec hb hrt hlocks hK hA0 hRS hP hF (fun q hq => by cases hq) xnz1 xdIsl_18
theorem xsh0 (x : Int32) : x >>> ((0 : Int32) &&& 31) = x := by
  have : (0 : Int32) &&& 31 = 0 := by decide
  rw [this]
  simp
theorem x_length (hw : ∀ w ∈ xwS, w ∈ T) (hg : ∀ w ∈ T, goodWord w = true) (hsw : xSW E sx s0) (hu : xokU u) : xMet l E G sx s0 xyLen (Cond.code xyLen prog_18_method_54_code 1 (some .int) :: T) 2 [.float u] h (some (.int (Int32.ofNat (xstr u).length))) h := by
  have hM := x_coder (l := l) (G := G) (h := h) hw hsw hu
  refine xmetS (by decide) (Nat.le_refl _) ?_
  intro p e s m below meth c lc hexec hb hrt hlocks hml hts hown hls hP hF hK hA0 hRS
  obtain ⟨i, hi, rfl, -, -, hlen⟩ := xu_ix hu
  obtain ⟨hS1, hS2, -⟩ := hsw.at hA0 hF
  have hvS : va_S (fun q => E.1 ≤ q) s.heap s.heap [] := va_S.rf
  have h0 := hls.2.2.2 0 (.float (UInt32.ofNat (i + 1))) rfl
  refine lv_aload_n hexec hb xdLen_0 rfl h0 ?_
  refine vk_getf hexec hb (hS1.1 i hi).2.2.1 hvS hown (hts _ (hw _ (List.mem_of_getElem? (i := 28) rfl))) (fun x q => q) xdLen_1 ?_
  refine va_tlen hexec hb (hS1.1 i hi).2.2.2 hvS (v := Int32.ofNat (xstr (UInt32.ofNat (i + 1))).length) (by rw [hlen]) xdLen_4 ?_
  refine lv_aload_n hexec hb xdLen_5 rfl h0 ?_
  refine xw_callVS (as := []) (rest := [.int (Int32.ofNat (xstr (UInt32.ofNat (i + 1))).length)]) (u := UInt32.ofNat (i + 1)) (n := 0) hexec hb hts hown (hml.trans hls.2.1.symm) hg hK hA0 hRS hP hF hM (hw _ (List.mem_of_getElem? (i := 9) rfl)) (hw _ (List.mem_of_getElem? (i := 0) rfl)) (hw _ (List.mem_of_getElem? (i := 6) rfl)) (hw _ (List.mem_of_getElem? (i := 7) rfl)) (hw _ (List.mem_of_getElem? (i := 8) rfl)) ⟨by decide, by decide, by decide⟩ (by decide) ⟨Nat.le_of_ble_eq_true rfl, Nat.le_of_ble_eq_true rfl⟩ (vk_recv hS1 hi hvS) rfl (Nat.le_of_ble_eq_true rfl) ⟨by show h.1 - h.1 + (h.1 - h.1) ≤ h.1 - h.1; omega, by show xsl h - xsl h + (xsl h - xsl h) ≤ xsl h - xsl h; omega⟩ xdLen_6 (fun H1 L hP1 hF1 hL => ?_)
  refine W.cs (show h.1 - h.1 + (h.1 - h.1) = h.1 - h.1 by omega) (show xsl h - xsl h + (xsl h - xsl h) = xsl h - xsl h by omega) ?_
  refine lv_ishr hexec hb xdLen_9 ?_
  rw [xsh0]
  exact xretS hexec hb hrt hlocks hK hA0 hRS hP1 hF1 (fun q hq => hL q (by simpa using hq)) rfl xdLen_10
theorem x_pck {i n : Int32} {w : Value} (hw : w = .null ∨ w = .float 200) (h1 : ¬ i < 0) (h2 : i < n) : xMet l E G sx s0 xyPck (Cond.code xyPck prog_23_method_11_code 3 (some .int) :: T) 1 [.int i, .int n, w] h (some (.int i)) h := by
  have hlen : (xent [.int i, .int n, w]).length ≤ 3 := by rcases hw with rfl | rfl <;> exact Nat.le_refl _
  refine xmetS (by decide) hlen ?_
  intro p e s m below meth c lc hexec hb hrt hlocks hml hts hown hls hP hF hK hA0 hRS
  have l0 := hls.2.2.2 0 (.int i) (by rcases hw with rfl | rfl <;> rfl)
  have l1 := hls.2.2.2 1 (.int n) (by rcases hw with rfl | rfl <;> rfl)
  refine lv_iload_n hexec hb xdPck_0 rfl l0 ?_
  refine xw_if hexec hb (tgt := 9) xdPck_1 (by decide) (fun q => absurd (by simpa [xcond] using q) h1) (fun _ => ?_)
  refine lv_iload_n hexec hb xdPck_4 rfl l0 ?_
  refine lv_iload_n hexec hb xdPck_5 rfl l1 ?_
  refine xw_icmp hexec hb (tgt := 16) xdPck_6 (by decide) (fun _ => ?_) (fun q => absurd (by simpa [xcond] using h2) q)
  refine lv_iload_n hexec hb xdPck_16 rfl l0 ?_
  exact xretS hexec hb hrt hlocks hK hA0 hRS hP hF (fun q hq => by cases hq) rfl xdPck_17
theorem x_ck {i n : Int32} (hw : ∀ w ∈ xwS, w ∈ T) (hg : ∀ w ∈ T, goodWord w = true) (hsw : xSW E sx s0) (h1 : ¬ i < 0) (h2 : i < n) : xMet l E G sx s0 xyCk (Cond.code xyCk prog_18_method_155_code 2 none :: T) 2 [.int i, .int n] h none h := by
  refine xmetS (by decide) (Nat.le_refl _) ?_
  intro p e s m below meth c lc hexec hb hrt hlocks hml hts hown hls hP hF hK hA0 hRS
  have l0 := hls.2.2.2 0 (.int i) rfl
  have l1 := hls.2.2.2 1 (.int n) rfl
  obtain ⟨-, -, hS3⟩ := hsw.at hA0 hF
  have hvS : va_S (fun q => E.1 ≤ q) s.heap s.heap [] := va_S.rf
  refine lv_iload_n hexec hb xdCk_0 rfl l0 ?_
  refine lv_iload_n hexec hb xdCk_1 rfl l1 ?_
  have key : ∀ w : Value, (w = .null ∨ w = .float 200) → va_Z "jdk/internal/util/Preconditions" "SIOOBE_FORMATTER" "Ljava/util/function/BiFunction;" (xv E.1 sx w) (fun q => E.1 ≤ q) s s.heap → W p l e (xRm 2 (h.1 - h.1) (xsl h - xsl h)) s m ([.int i, .int n].map (xv E.1 sx)).toArray below meth c s.heap [] (h.1 - h.1) (xsl h - xsl h) (MQ below (xQc E G sx s0 none h) ([.int i, .int n].map (xv E.1 sx)).toArray s (h.1 - h.1) (xsl h - xsl h) (fun q => E.1 ≤ q)) (F0 m 2 lc [.int n, .int i]) := by
    intro w hww hZ
    refine va_gets hexec hb hZ hvS hown (hts _ (hw _ (List.mem_of_getElem? (i := 24) rfl))) (fun x q => q) xdCk_2 ?_
    have hM := x_pck (l := l) (T := T) (E := E) (G := G) (sx := sx) (s0 := s0) (h := h) (w := w) hww h1 h2
    refine xw_callS (as := [.int i, .int n, w]) (rest := []) (n := 3) hexec hb hts hown (hml.trans hls.2.1.symm) hg hK hA0 hRS hP hF hM (hw _ (List.mem_of_getElem? (i := 27) rfl)) (hw _ (List.mem_of_getElem? (i := 2) rfl)) (hw _ (List.mem_of_getElem? (i := 25) rfl)) (hw _ (List.mem_of_getElem? (i := 26) rfl)) ⟨by decide, by decide, by decide⟩ (by decide) ⟨Nat.le_of_ble_eq_true rfl, Nat.le_of_ble_eq_true rfl⟩ rfl (Nat.le_of_ble_eq_true rfl) ⟨by show h.1 - h.1 + (h.1 - h.1) ≤ h.1 - h.1; omega, by show xsl h - xsl h + (xsl h - xsl h) ≤ xsl h - xsl h; omega⟩ xdCk_5 (fun H1 L hP1 hF1 hL => ?_)
    refine W.cs (show h.1 - h.1 + (h.1 - h.1) = h.1 - h.1 by omega) (show xsl h - xsl h + (xsl h - xsl h) = xsl h - xsl h by omega) ?_
    refine lv_pop hexec hb xdCk_8 rfl ?_
    exact W.vret hexec hb hrt (fun t ht hW => ⟨rfl, by rw [ht]; exact hP1, fun q hq => by rw [ht]; exact hF1 q hq, hK.moved hW.alike, hA0.trans hW.alike, hRS.warm hW⟩) (fun q hq => hL q (by simpa using hq)) xdCk_9 hlocks
  rcases hS3 with z | z
  · exact key .null (.inl rfl) z
  · exact key (.float 200) (.inr rfl) z
theorem x_lch {i : Int32} (hw : ∀ w ∈ xwS, w ∈ T) (hg : ∀ w ∈ T, goodWord w = true) (hsw : xSW E sx s0) (hu : xokU u) (hin : vp_in i (xstr u).length) : xMet l E G sx s0 xyLch (Cond.code xyLch prog_19_method_2_code 2 (some .char) :: T) 3 [.float (u + 100), .int i] h (some (.int ((xstr u).getD i.toNatClampNeg 0))) h := by
  have i0 : ¬ i < 0 := fun q => hin (Or.inl q)
  have hlt : i.toNatClampNeg < (xstr u).length := Nat.not_le.mp fun q => hin (Or.inr q)
  have hsm : (xstr u).length < 2 ^ 31 := by
    obtain ⟨j, hj, -, -, e1, -⟩ := xu_ix hu
    rw [e1]
    have : ∀ j, j < 7 → (xlb.getD j []).length < 2 ^ 31 := by decide
    exact this j hj
  have i1 : i < Int32.ofNat (xstr u).length := by
    obtain ⟨j, hj, rfl⟩ := nI_of i0
    rw [nI_clamp hj] at hlt
    exact nI_lt hlt hsm
  have hM := x_ck (l := l) (G := G) (h := h) hw hg hsw i0 i1
  refine xmetS (by decide) (Nat.le_refl _) ?_
  intro p e s m below meth c lc hexec hb hrt hlocks hml hts hown hls hP hF hK hA0 hRS
  obtain ⟨k, hk, rfl, eu, es, hlen⟩ := xu_ix hu
  obtain ⟨hS1, hS2, -⟩ := hsw.at hA0 hF
  have hvS : va_S (fun q => E.1 ≤ q) s.heap s.heap [] := va_S.rf
  have l0 := hls.2.2.2 0 (.float (UInt32.ofNat (k + 1) + 100)) rfl
  rw [eu] at l0
  have l1 := hls.2.2.2 1 (.int i) rfl
  have hT := (hS1.1 k hk).2.2.2
  refine lv_iload_n hexec hb xdLch_0 rfl l1 ?_
  refine lv_aload_n hexec hb xdLch_1 rfl l0 ?_
  refine va_tlen hexec hb hT hvS (v := Int32.ofNat (xstr (UInt32.ofNat (k + 1))).length) (by rw [hlen]) xdLch_2 ?_
  refine xw_callS (as := [.int i, .int (Int32.ofNat (xstr (UInt32.ofNat (k + 1))).length)]) (rest := []) (n := 2) hexec hb hts hown (hml.trans hls.2.1.symm) hg hK hA0 hRS hP hF hM (hw _ (List.mem_of_getElem? (i := 23) rfl)) (hw _ (List.mem_of_getElem? (i := 0) rfl)) (hw _ (List.mem_of_getElem? (i := 21) rfl)) (hw _ (List.mem_of_getElem? (i := 22) rfl)) ⟨by decide, by decide, by decide⟩ (by decide) ⟨Nat.le_of_ble_eq_true rfl, Nat.le_of_ble_eq_true rfl⟩ rfl (Nat.le_of_ble_eq_true rfl) ⟨by show h.1 - h.1 + (h.1 - h.1) ≤ h.1 - h.1; omega, by show xsl h - xsl h + (xsl h - xsl h) ≤ xsl h - xsl h; omega⟩ xdLch_3 (fun H1 L hP1 hF1 hL => ?_)
  refine W.cs (show h.1 - h.1 + (h.1 - h.1) = h.1 - h.1 by omega) (show xsl h - xsl h + (xsl h - xsl h) = xsl h - xsl h by omega) ?_
  have hvS1 : va_S (fun q => E.1 ≤ q) s.heap H1 ([] ++ L) := xvaS hP hF hP1 hF1 (fun q hq => hL q (by simpa using hq))
  refine lv_aload_n hexec hb xdLch_6 rfl l0 ?_
  refine lv_iload_n hexec hb xdLch_7 rfl l1 ?_
  refine va_tb hexec hb hT hvS1 (i := i) (by rw [hlen]; exact hin) (v := .int ((xstr (UInt32.ofNat (k + 1))).getD i.toNatClampNeg 0)) (by rw [es]) xdLch_8 ?_
  refine lv_sipush hexec hb (v := 255) xdLch_9 (by decide) ?_
  refine lv_iand hexec hb xdLch_12 ?_
  rw [es] at hlt ⊢
  obtain ⟨c1, c2⟩ := xu_ch k hk _ hlt
  refine lv_i2c hexec hb (v := (xlb.getD k []).getD i.toNatClampNeg 0) xdLch_13 c1 ?_
  exact xretS hexec hb hrt hlocks hK hA0 hRS hP1 hF1 (fun q hq => hL q (by simpa using hq)) c2 xdLch_14
theorem x_charAt {i : Int32} (hw : ∀ w ∈ xwS, w ∈ T) (hg : ∀ w ∈ T, goodWord w = true) (hsw : xSW E sx s0) (hu : xokU u) (hin : vp_in i (xstr u).length) : xMet l E G sx s0 xyChr (Cond.code xyChr prog_18_method_56_code 2 (some .char) :: T) 4 [.float u, .int i] h (some (.int ((xstr u).getD i.toNatClampNeg 0))) h := by
  have hM1 := x_isLatin1 (l := l) (G := G) (h := h) hw hsw hu
  have hM2 := x_lch (l := l) (G := G) (h := h) hw hg hsw hu hin
  have hlt : i.toNatClampNeg < (xstr u).length := Nat.not_le.mp fun q => hin (Or.inr q)
  refine xmetS (by decide) (Nat.le_refl _) ?_
  intro p e s m below meth c lc hexec hb hrt hlocks hml hts hown hls hP hF hK hA0 hRS
  obtain ⟨k, hk, rfl, eu, es, hlen⟩ := xu_ix hu
  obtain ⟨hS1, hS2, -⟩ := hsw.at hA0 hF
  have hvS : va_S (fun q => E.1 ≤ q) s.heap s.heap [] := va_S.rf
  have l0 := hls.2.2.2 0 (.float (UInt32.ofNat (k + 1))) rfl
  have l1 := hls.2.2.2 1 (.int i) rfl
  refine lv_aload_n hexec hb xdChr_0 rfl l0 ?_
  refine xw_callVS (as := []) (rest := []) (u := UInt32.ofNat (k + 1)) (n := 0) hexec hb hts hown (hml.trans hls.2.1.symm) hg hK hA0 hRS hP hF hM1 (hw _ (List.mem_of_getElem? (i := 17) rfl)) (hw _ (List.mem_of_getElem? (i := 0) rfl)) (hw _ (List.mem_of_getElem? (i := 14) rfl)) (hw _ (List.mem_of_getElem? (i := 15) rfl)) (hw _ (List.mem_of_getElem? (i := 16) rfl)) ⟨by decide, by decide, by decide⟩ (by decide) ⟨Nat.le_of_ble_eq_true rfl, Nat.le_of_ble_eq_true rfl⟩ (vk_recv hS1 hk hvS) rfl (Nat.le_of_ble_eq_true rfl) ⟨by show h.1 - h.1 + (h.1 - h.1) ≤ h.1 - h.1; omega, by show xsl h - xsl h + (xsl h - xsl h) ≤ xsl h - xsl h; omega⟩ xdChr_1 (fun H1 L hP1 hF1 hL => ?_)
  refine W.cs (show h.1 - h.1 + (h.1 - h.1) = h.1 - h.1 by omega) (show xsl h - xsl h + (xsl h - xsl h) = xsl h - xsl h by omega) ?_
  have hL1 : ∀ q ∈ ([] ++ L : List Loc), E.1 ≤ q.base := fun q hq => hL q (by simpa using hq)
  have hvS1 : va_S (fun q => E.1 ≤ q) s.heap H1 ([] ++ L) := xvaS hP hF hP1 hF1 hL1
  refine xw_if hexec hb (tgt := 16) xdChr_4 (by decide) (fun q => absurd q (by decide)) (fun _ => ?_)
  refine lv_aload_n hexec hb xdChr_7 rfl l0 ?_
  refine vk_getf hexec hb (hS1.1 k hk).2.2.1 hvS1 hown (hts _ (hw _ (List.mem_of_getElem? (i := 28) rfl))) (fun x q => q) xdChr_8 ?_
  refine lv_iload_n hexec hb xdChr_11 rfl l1 ?_
  rw [eu] at hM2
  refine xw_callS (as := [.float (UInt32.ofNat (k + 101)), .int i]) (rest := []) (n := 2) hexec hb hts hown (hml.trans hls.2.1.symm) hg hK hA0 hRS hP1 hF1 hM2 (hw _ (List.mem_of_getElem? (i := 20) rfl)) (hw _ (List.mem_of_getElem? (i := 1) rfl)) (hw _ (List.mem_of_getElem? (i := 18) rfl)) (hw _ (List.mem_of_getElem? (i := 19) rfl)) ⟨by decide, by decide, by decide⟩ (by decide) ⟨Nat.le_of_ble_eq_true rfl, Nat.le_of_ble_eq_true rfl⟩ rfl (Nat.le_of_ble_eq_true rfl) ⟨by show h.1 - h.1 + (h.1 - h.1) ≤ h.1 - h.1; omega, by show xsl h - xsl h + (xsl h - xsl h) ≤ xsl h - xsl h; omega⟩ xdChr_12 (fun H2 L2 hP2 hF2 hL2 => ?_)
  refine W.cs (show h.1 - h.1 + (h.1 - h.1) = h.1 - h.1 by omega) (show xsl h - xsl h + (xsl h - xsl h) = xsl h - xsl h by omega) ?_
  rw [es] at hlt ⊢
  obtain ⟨c1, c2⟩ := xu_ch k hk _ hlt
  exact xretS hexec hb hrt hlocks hK hA0 hRS hP2 hF2 (fun q hq => by
    rcases List.mem_append.mp hq with z | z
    · exact hL1 q z
    · exact hL2 q z) c2 xdChr_15
end XST
theorem xrcv {E : xE} {sx : UInt32 → Nat} {s0 s : State} {H : Heap} {u : UInt32} (hsw : xSW E sx s0) (hA0 : s0.vm.Alike s.vm) (hF : ∀ q : Nat, q < E.1 → H[q]? = s0.heap[q]?) (hu : xokU u) : ∃ cellV : Cell, H[sx u]? = some cellV ∧ cellV.vm.isStatics = false ∧ s.vm.findClass "java/lang/String" = some cellV.cls := by
  obtain ⟨i, hi, rfl, -, -, -⟩ := xu_ix hu
  obtain ⟨cell, h1, h2, h3, h4⟩ := va_O.moved hA0 (hsw.1.1 i hi).1
  exact ⟨cell, by rw [hF _ (Nat.not_le.mp h4)]; exact h1, h2, h3⟩
/-- what is known of the texts and their methods -/
def xStr (l : Launch) (E : xE) (G : xG) (sx : UInt32 → Nat) (s0 : State) (T : List Cond) : Prop := (∀ w ∈ xwS, w ∈ T) ∧ (∀ w ∈ T, goodWord w = true) ∧ xSW E sx s0
