theorem pOKc {E : xE} {L : Nat} {xs : Nat → Int32} (h1 : E.2.2.1 = pcl) : xOKc pT E (pG L xs) := by
  intro ci C Tt N h
  rw [h1] at h
  have key : ∀ {k : Nat} {ty : Nat → FieldType}, ((ty k = .int ∨ ty k = .boolean ∨ ty k = .byte) ∨ ty k = .long ∨ (xtR (ty k) = true)) → (xkI (ty k) ∨ ty k = .long ∨ xkR (ty k)) := fun h => by
    rcases h with q | q | q
    · exact Or.inl q
    · exact Or.inr (Or.inl q)
    · exact Or.inr (Or.inr (xtR_of q))
  match ci, h with
  | 0, h => cases h; exact ⟨pcw0, pci0, pcz0, pcp0, pcn0, rfl, pcd0, rfl, fun k hk => key (ty := pft 0) (pck0 k hk)⟩
  | 1, h => cases h; exact ⟨pcw1, pci1, pcz1, pcp1, pcn1, rfl, pcd1, rfl, fun k hk => key (ty := pft 1) (pck1 k hk)⟩
  | 2, h => cases h; exact ⟨pcw2, pci2, pcz2, pcp2, pcn2, rfl, pcd2, rfl, fun k hk => key (ty := pft 2) (pck2 k hk)⟩
  | 3, h => cases h; exact ⟨pcw3, pci3, pcz3, pcp3, pcn3, rfl, pcd3, rfl, fun k hk => key (ty := pft 3) (pck3 k hk)⟩
  | 4, h => cases h; exact ⟨pcw4, pci4, pcz4, pcp4, pcn4, rfl, pcd4, rfl, fun k hk => key (ty := pft 4) (pck4 k hk)⟩
  | 5, h => cases h; exact ⟨pcw5, pci5, pcz5, pcp5, pcn5, rfl, pcd5, rfl, fun k hk => key (ty := pft 5) (pck5 k hk)⟩
  | 6, h => cases h; exact ⟨pcw6, pci6, pcz6, pcp6, pcn6, rfl, pcd6, rfl, fun k hk => key (ty := pft 6) (pck6 k hk)⟩
  | 7, h => cases h; exact ⟨pcw7, pci7, pcz7, pcp7, pcn7, rfl, pcd7, rfl, fun k hk => key (ty := pft 7) (pck7 k hk)⟩
  | 8, h => cases h; exact ⟨pcw8, pci8, pcz8, pcp8, pcn8, rfl, pcd8, rfl, fun k hk => key (ty := pft 8) (pck8 k hk)⟩
  | 9, h => cases h; exact ⟨pcw9, pci9, pcz9, pcp9, pcn9, rfl, pcd9, rfl, fun k hk => key (ty := pft 9) (pck9 k hk)⟩
  | 10, h => cases h; exact ⟨pcw10, pci10, pcz10, pcp10, pcn10, rfl, pcd10, rfl, fun k hk => key (ty := pft 10) (pck10 k hk)⟩
  | 11, h => cases h; exact ⟨pcw11, pci11, pcz11, pcp11, pcn11, rfl, pcd11, rfl, fun k hk => key (ty := pft 11) (pck11 k hk)⟩
  | 12, h => cases h; exact ⟨pcw12, pci12, pcz12, pcp12, pcn12, rfl, pcd12, rfl, fun k hk => key (ty := pft 12) (pck12 k hk)⟩
  | k + 13, h => simp [pcl] at h
theorem pOKa {E : xE} (h2 : E.2.2.2.2 = ptys) : xOKa pT E := by
  refine ⟨fun t ht => ?_, by rw [h2]; decide, xwd_mem (q := 1028) (by decide +kernel) rfl, xwd_mem (q := 1029) (by decide +kernel) rfl, xwd_mem (q := 3057) (by decide +kernel) rfl, xwd_mem (q := 3056) (by decide +kernel) rfl, xwd_mem (q := 1017) (by decide +kernel) rfl, pT_good⟩
  rw [h2]
  rcases ht with rfl | rfl | rfl | rfl
  · exact ⟨xwd_mem (q := 1112) (by decide +kernel) rfl, by decide⟩
  · exact ⟨xwd_mem (q := 1060) (by decide +kernel) rfl, by decide⟩
  · exact ⟨xwd_mem (q := 2007) (by decide +kernel) rfl, by decide⟩
  · exact ⟨xwd_mem (q := 2116) (by decide +kernel) rfl, by decide⟩
theorem pOKall {E : xE} {L : Nat} {xs : Nat → Int32} {s0 : State} (h1 : E.2.2.1 = pcl) (h2 : E.2.2.2.2 = ptys) (hs : pSt s0) : xOK pT E (pG L xs) pM pP s0 := by
  refine ⟨pOKc h1, pOKa h2, (by decide : 282 ≤ 100000), fun m hm => ckm_ok h1 (cwa_282 m hm) (ckm_all hm), fun m hm => lka_282 h1 h2 hs m hm, fun m hm => ?_⟩
  obtain ⟨q1, q2, q3⟩ := kna_282 m hm
  exact ⟨q1, q2, q3, fun t ht => List.all_eq_true.mp (koa_282 m hm) t (List.mem_range.mpr ht)⟩
def pOL : xO := (pft, pK16, qL, 38, 4, pKd, false)
