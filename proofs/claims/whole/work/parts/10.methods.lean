/-- the whole of a program's tables: names, bytes, blocks, blocks' places, how many, kinds, links, constructors; all as the words say -/
abbrev xPg : Type := (Nat → MethodName) × (Nat → ByteArray) × (Nat → Nat → Nat) × (Nat → Nat) × (Nat → Nat) × (Nat → xK) × (Nat → Bool) × Nat
def xOm (G : xG) (M : xD) (P : xPg) (m : Nat) : xO := (G.2.2.2.1, P.2.2.2.2.2.1 m, P.2.2.1 m, P.2.2.2.1 m, (M m).2.2, P.2.2.2.2.1, P.2.2.2.2.2.2.1 m)
def xOK (T : List Cond) (E : xE) (G : xG) (M : xD) (P : xPg) (s0 : State) : Prop :=
  xOKc T E G ∧ xOKa T E ∧ P.2.2.2.2.2.2.2 ≤ 100000 ∧ (∀ m, m < P.2.2.2.2.2.2.2 → xOKm T E G M P.1 P.2.1 P.2.2.2.2.1 m) ∧ (∀ m, m < P.2.2.2.2.2.2.2 → xOKl T E s0 P.1 (P.1 m).cls P.2.2.2.2.2.2.2 (P.2.2.2.2.2.1 m)) ∧
  (∀ m, m < P.2.2.2.2.2.2.2 → (P.2.2.2.2.2.2.1 m = true → (P.1 m).name = "<init>") ∧ P.2.2.1 m 0 = 0 ∧ 0 < P.2.2.2.1 m ∧ ∀ t, t < P.2.2.2.1 m → xbk (xOm G M P m) (P.2.1 m) (P.2.2.1 m t) ((M m).1 t) = true)
set_option maxHeartbeats 4000000 in
theorem xmet {l : Launch} {T : List Cond} {E : xE} {G : xG} {sx : UInt32 → Nat} {s0 : State} {M : xD} {P : xPg} (hOK : xOK T E G M P s0) (hSt : xStr l E G sx s0 T) (hX : va_X (sx 0) G.2.2.2.2.2.1 G.2.2.2.2.2.2 s0 s0.heap) (hsx : sx 0 < E.1) :
    ∀ d m, m < P.2.2.2.2.2.2.2 → ∀ as h v h', Call G M d m as h (xeq v h') → xMet l E G sx s0 (P.1 m) (Cond.code (P.1 m) (P.2.1 m) (M m).2.2 (M m).2.1 :: T) (d + 8) as h v h' := by
  obtain ⟨hc, ha, hNM, hm, hl, hb0⟩ := hOK
  intro d
  induction d with
  | zero => intro m _ as h v h' hC; exact absurd hC id
  | succ d ihd =>
    intro m hmN as h v h' hC
    obtain ⟨hlen, n, hev⟩ := hC
    have hmm := hm m hmN
    obtain ⟨hini, hbp0, hnb0, hblk⟩ := hb0 m hmN
    refine va_MetF (cc := P.2.1 m) (maxL := (M m).2.2) (ret := (M m).2.1) hmm.2.2.2.2.2.1 rfl ?_
    intro p e s m' args below meth c s₁ B hml hv
    obtain ⟨rfl, hP, hF, hK, hA0, hRS⟩ := hv
    have hts0 := atoms_spec (ws := Cond.code (P.1 m) (P.2.1 m) (M m).2.2 (M m).2.1 :: T) B.pre
    have hts : ∀ w ∈ T, w.before (as.map (xv E.1 sx)).toArray s = true := fun w hw => hts0 w (List.mem_cons_of_mem _ hw)
    have hown : s.vm.findClass (P.1 m).cls = some m'.cls := findClass_of_methodNamed B.named
    have hname : meth.name = (P.1 m).name := (name_of_methodNamed B.named B.method).1
    have hlocks := B.notSynchronized
    rw [lg_entry_eq]
    have hls := xLs.entry (b := E.1) (sx := sx) hlen
    generalize (lg_sl (as.map (xv E.1 sx)) ++ List.replicate ((M m).2.2 - (lg_sl (as.map (xv E.1 sx))).length) Slot.unset).toArray = lc at hls ⊢
    have key := xsound (l := l) (e := e) (below := below) (O := xOm G M P m) (d := d) (R := xRm (d + 1 + 8) (h'.1 - h.1) (xsl h' - xsl h)) (hs := h) (args := (as.map (xv E.1 sx)).toArray) (v := v) (h' := h') (sx := sx) (B := (M m).1) (Qz := MQ below (xQc E G sx s0 v h') (as.map (xv E.1 sx)).toArray s (h'.1 - h.1) (xsl h' - xsl h) (fun q => E.1 ≤ q))
      B.exec B.bytes hts hown hml hK hA0 hRS hSt hc ha (hl m hmN) hNM hm rfl rfl (fun q => by rw [hname]; exact hini q) hlocks B.returns hblk ⟨by show d + 8 + 1 ≤ d + 1 + 8; omega, by show 64 * (d + 8 + 1) ≤ 64 * (d + 1 + 8); omega⟩ ⟨Nat.le_refl _, Nat.le_refl _⟩ hX hsx ihd ?_ n 0 ((M m).1 0) (xentry as (M m).2.2) lc [] h s.heap [] ?_ hev hls hP hF (fun q hq => by cases hq) (xle.rf h)
    · have e1 : h.1 - h.1 = 0 := Nat.sub_self _
      have e2 : xsl h - xsl h = 0 := Nat.sub_self _
      rw [e1, e2] at key
      exact key
    · intro H locs lc pc r hd hP1 hF1 hlo hr
      have hq : ∀ t : State, t.heap = H → s.WarmedH t.vm → xQc E G sx s0 v h' (as.map (xv E.1 sx)).toArray s (.returned (v.map (xv E.1 sx))) t := fun t ht hW => ⟨rfl, by rw [ht]; exact hP1, fun q hq => by rw [ht]; exact hF1 q hq, hK.moved hW.alike, hA0.trans hW.alike, hRS.warm hW⟩
      rcases hr with ⟨x, rfl, rfl, ty, hty, hfit⟩ | ⟨x, rfl, rfl, hty⟩ | ⟨x, rfl, hv, ty, hty, hrt⟩ | ⟨rfl, rfl, hty⟩
      · exact W.zret B.exec B.bytes (B.returns.trans hty) (xfit_of hfit).1 hq hlo hd hlocks
      · exact W.lret B.exec B.bytes (B.returns.trans hty) hq hlo hd hlocks
      · rcases hv with rfl | rfl
        · exact W.aret B.exec B.bytes (B.returns.trans hty) hrt (Or.inr ⟨_, rfl⟩) hq hlo hd hlocks
        · exact W.aret B.exec B.bytes (B.returns.trans hty) hrt (Or.inl rfl) hq hlo hd hlocks
      · exact W.vret B.exec B.bytes (B.returns.trans hty) hq hlo hd hlocks
    · have := hblk 0 hnb0
      rw [hbp0] at this
      exact this
