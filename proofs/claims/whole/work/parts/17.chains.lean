set_option maxRecDepth 100000 in
theorem lka_24 {E : xE} {s0 : State} (h1 : E.2.2.1 = pcl) (h2 : E.2.2.2.2 = ptys) (hs : pSt s0) : ∀ m, m < 24 → (fun m => xOKl pT E s0 pY (pY m).cls 282 (pK m)) m := xallS (xallS (xallS (xallS (xallS (xallS (xallS (xallS (xallS (xallS (xallS (xallS (xallS (xallS (xallS (xallS (xallS (xallS (xallS (xallS (xallS (xallS (xallS (xallS (xall0) (pKok0 h1 h2 hs)) (pKok0 h1 h2 hs)) (pKok0 h1 h2 hs)) (pKok0 h1 h2 hs)) (pKok0 h1 h2 hs)) (pKok0 h1 h2 hs)) (pKok0 h1 h2 hs)) (pKok0 h1 h2 hs)) (pKok1 h1 h2 hs)) (pKok1 h1 h2 hs)) (pKok1 h1 h2 hs)) (pKok1 h1 h2 hs)) (pKok1 h1 h2 hs)) (pKok1 h1 h2 hs)) (pKok2 h1 h2 hs)) (pKok2 h1 h2 hs)) (pKok2 h1 h2 hs)) (pKok2 h1 h2 hs)) (pKok2 h1 h2 hs)) (pKok2 h1 h2 hs)) (pKok2 h1 h2 hs)) (pKok2 h1 h2 hs)) (pKok3 h1 h2 hs)) (pKok3 h1 h2 hs)
set_option maxRecDepth 100000 in
theorem lka_48 {E : xE} {s0 : State} (h1 : E.2.2.1 = pcl) (h2 : E.2.2.2.2 = ptys) (hs : pSt s0) : ∀ m, m < 48 → (fun m => xOKl pT E s0 pY (pY m).cls 282 (pK m)) m := xallS (xallS (xallS (xallS (xallS (xallS (xallS (xallS (xallS (xallS (xallS (xallS (xallS (xallS (xallS (xallS (xallS (xallS (xallS (xallS (xallS (xallS (xallS (xallS (lka_24 h1 h2 hs) (pKok3 h1 h2 hs)) (pKok3 h1 h2 hs)) (pKok4 h1 h2 hs)) (pKok4 h1 h2 hs)) (pKok4 h1 h2 hs)) (pKok4 h1 h2 hs)) (pKok4 h1 h2 hs)) (pKok4 h1 h2 hs)) (pKok4 h1 h2 hs)) (pKok4 h1 h2 hs)) (pKok4 h1 h2 hs)) (pKok4 h1 h2 hs)) (pKok4 h1 h2 hs)) (pKok4 h1 h2 hs)) (pKok4 h1 h2 hs)) (pKok4 h1 h2 hs)) (pKok4 h1 h2 hs)) (pKok5 h1 h2 hs)) (pKok5 h1 h2 hs)) (pKok5 h1 h2 hs)) (pKok5 h1 h2 hs)) (pKok6 h1 h2 hs)) (pKok6 h1 h2 hs)) (pKok6 h1 h2 hs)
set_option maxRecDepth 100000 in
theorem lka_72 {E : xE} {s0 : State} (h1 : E.2.2.1 = pcl) (h2 : E.2.2.2.2 = ptys) (hs : pSt s0) : ∀ m, m < 72 → (fun m => xOKl pT E s0 pY (pY m).cls 282 (pK m)) m := xallS (xallS (xallS (xallS (xallS (xallS (xallS (xallS (xallS (xallS (xallS (xallS (xallS (xallS (xallS (xallS (xallS (xallS (xallS (xallS (xallS (xallS (xallS (xallS (lka_48 h1 h2 hs) (pKok6 h1 h2 hs)) (pKok6 h1 h2 hs)) (pKok6 h1 h2 hs)) (pKok6 h1 h2 hs)) (pKok6 h1 h2 hs)) (pKok6 h1 h2 hs)) (pKok6 h1 h2 hs)) (pKok6 h1 h2 hs)) (pKok6 h1 h2 hs)) (pKok6 h1 h2 hs)) (pKok6 h1 h2 hs)) (pKok6 h1 h2 hs)) (pKok6 h1 h2 hs)) (pKok6 h1 h2 hs)) (pKok6 h1 h2 hs)) (pKok6 h1 h2 hs)) (pKok7 h1 h2 hs)) (pKok7 h1 h2 hs)) (pKok7 h1 h2 hs)) (pKok7 h1 h2 hs)) (pKok8 h1 h2 hs)) (pKok8 h1 h2 hs)) (pKok8 h1 h2 hs)) (pKok8 h1 h2 hs)
set_option maxRecDepth 100000 in
theorem lka_96 {E : xE} {s0 : State} (h1 : E.2.2.1 = pcl) (h2 : E.2.2.2.2 = ptys) (hs : pSt s0) : ∀ m, m < 96 → (fun m => xOKl pT E s0 pY (pY m).cls 282 (pK m)) m := xallS (xallS (xallS (xallS (xallS (xallS (xallS (xallS (xallS (xallS (xallS (xallS (xallS (xallS (xallS (xallS (xallS (xallS (xallS (xallS (xallS (xallS (xallS (xallS (lka_72 h1 h2 hs) (pKok8 h1 h2 hs)) (pKok8 h1 h2 hs)) (pKok8 h1 h2 hs)) (pKok8 h1 h2 hs)) (pKok8 h1 h2 hs)) (pKok8 h1 h2 hs)) (pKok8 h1 h2 hs)) (pKok8 h1 h2 hs)) (pKok8 h1 h2 hs)) (pKok9 h1 h2 hs)) (pKok9 h1 h2 hs)) (pKok9 h1 h2 hs)) (pKok9 h1 h2 hs)) (pKok9 h1 h2 hs)) (pKok9 h1 h2 hs)) (pKok9 h1 h2 hs)) (pKok9 h1 h2 hs)) (pKok9 h1 h2 hs)) (pKok9 h1 h2 hs)) (pKok9 h1 h2 hs)) (pKok9 h1 h2 hs)) (pKok9 h1 h2 hs)) (pKok9 h1 h2 hs)) (pKok9 h1 h2 hs)
set_option maxRecDepth 100000 in
theorem lka_120 {E : xE} {s0 : State} (h1 : E.2.2.1 = pcl) (h2 : E.2.2.2.2 = ptys) (hs : pSt s0) : ∀ m, m < 120 → (fun m => xOKl pT E s0 pY (pY m).cls 282 (pK m)) m := xallS (xallS (xallS (xallS (xallS (xallS (xallS (xallS (xallS (xallS (xallS (xallS (xallS (xallS (xallS (xallS (xallS (xallS (xallS (xallS (xallS (xallS (xallS (xallS (lka_96 h1 h2 hs) (pKok10 h1 h2 hs)) (pKok10 h1 h2 hs)) (pKok10 h1 h2 hs)) (pKok10 h1 h2 hs)) (pKok10 h1 h2 hs)) (pKok10 h1 h2 hs)) (pKok10 h1 h2 hs)) (pKok10 h1 h2 hs)) (pKok10 h1 h2 hs)) (pKok10 h1 h2 hs)) (pKok10 h1 h2 hs)) (pKok10 h1 h2 hs)) (pKok10 h1 h2 hs)) (pKok10 h1 h2 hs)) (pKok10 h1 h2 hs)) (pKok10 h1 h2 hs)) (pKok10 h1 h2 hs)) (pKok10 h1 h2 hs)) (pKok10 h1 h2 hs)) (pKok10 h1 h2 hs)) (pKok10 h1 h2 hs)) (pKok11 h1 h2 hs)) (pKok11 h1 h2 hs)) (pKok11 h1 h2 hs)
set_option maxRecDepth 100000 in
theorem lka_144 {E : xE} {s0 : State} (h1 : E.2.2.1 = pcl) (h2 : E.2.2.2.2 = ptys) (hs : pSt s0) : ∀ m, m < 144 → (fun m => xOKl pT E s0 pY (pY m).cls 282 (pK m)) m := xallS (xallS (xallS (xallS (xallS (xallS (xallS (xallS (xallS (xallS (xallS (xallS (xallS (xallS (xallS (xallS (xallS (xallS (xallS (xallS (xallS (xallS (xallS (xallS (lka_120 h1 h2 hs) (pKok11 h1 h2 hs)) (pKok11 h1 h2 hs)) (pKok11 h1 h2 hs)) (pKok11 h1 h2 hs)) (pKok11 h1 h2 hs)) (pKok11 h1 h2 hs)) (pKok11 h1 h2 hs)) (pKok11 h1 h2 hs)) (pKok11 h1 h2 hs)) (pKok11 h1 h2 hs)) (pKok11 h1 h2 hs)) (pKok11 h1 h2 hs)) (pKok11 h1 h2 hs)) (pKok11 h1 h2 hs)) (pKok11 h1 h2 hs)) (pKok11 h1 h2 hs)) (pKok11 h1 h2 hs)) (pKok11 h1 h2 hs)) (pKok11 h1 h2 hs)) (pKok11 h1 h2 hs)) (pKok11 h1 h2 hs)) (pKok11 h1 h2 hs)) (pKok11 h1 h2 hs)) (pKok11 h1 h2 hs)
set_option maxRecDepth 100000 in
theorem lka_168 {E : xE} {s0 : State} (h1 : E.2.2.1 = pcl) (h2 : E.2.2.2.2 = ptys) (hs : pSt s0) : ∀ m, m < 168 → (fun m => xOKl pT E s0 pY (pY m).cls 282 (pK m)) m := xallS (xallS (xallS (xallS (xallS (xallS (xallS (xallS (xallS (xallS (xallS (xallS (xallS (xallS (xallS (xallS (xallS (xallS (xallS (xallS (xallS (xallS (xallS (xallS (lka_144 h1 h2 hs) (pKok11 h1 h2 hs)) (pKok11 h1 h2 hs)) (pKok11 h1 h2 hs)) (pKok11 h1 h2 hs)) (pKok11 h1 h2 hs)) (pKok11 h1 h2 hs)) (pKok11 h1 h2 hs)) (pKok11 h1 h2 hs)) (pKok11 h1 h2 hs)) (pKok11 h1 h2 hs)) (pKok11 h1 h2 hs)) (pKok11 h1 h2 hs)) (pKok12 h1 h2 hs)) (pKok12 h1 h2 hs)) (pKok12 h1 h2 hs)) (pKok12 h1 h2 hs)) (pKok12 h1 h2 hs)) (pKok12 h1 h2 hs)) (pKok12 h1 h2 hs)) (pKok12 h1 h2 hs)) (pKok12 h1 h2 hs)) (pKok12 h1 h2 hs)) (pKok12 h1 h2 hs)) (pKok12 h1 h2 hs)
set_option maxRecDepth 100000 in
theorem lka_192 {E : xE} {s0 : State} (h1 : E.2.2.1 = pcl) (h2 : E.2.2.2.2 = ptys) (hs : pSt s0) : ∀ m, m < 192 → (fun m => xOKl pT E s0 pY (pY m).cls 282 (pK m)) m := xallS (xallS (xallS (xallS (xallS (xallS (xallS (xallS (xallS (xallS (xallS (xallS (xallS (xallS (xallS (xallS (xallS (xallS (xallS (xallS (xallS (xallS (xallS (xallS (lka_168 h1 h2 hs) (pKok12 h1 h2 hs)) (pKok12 h1 h2 hs)) (pKok12 h1 h2 hs)) (pKok12 h1 h2 hs)) (pKok12 h1 h2 hs)) (pKok12 h1 h2 hs)) (pKok12 h1 h2 hs)) (pKok12 h1 h2 hs)) (pKok12 h1 h2 hs)) (pKok12 h1 h2 hs)) (pKok12 h1 h2 hs)) (pKok12 h1 h2 hs)) (pKok12 h1 h2 hs)) (pKok12 h1 h2 hs)) (pKok12 h1 h2 hs)) (pKok12 h1 h2 hs)) (pKok12 h1 h2 hs)) (pKok12 h1 h2 hs)) (pKok12 h1 h2 hs)) (pKok12 h1 h2 hs)) (pKok12 h1 h2 hs)) (pKok12 h1 h2 hs)) (pKok12 h1 h2 hs)) (pKok12 h1 h2 hs)
set_option maxRecDepth 100000 in
theorem lka_216 {E : xE} {s0 : State} (h1 : E.2.2.1 = pcl) (h2 : E.2.2.2.2 = ptys) (hs : pSt s0) : ∀ m, m < 216 → (fun m => xOKl pT E s0 pY (pY m).cls 282 (pK m)) m := xallS (xallS (xallS (xallS (xallS (xallS (xallS (xallS (xallS (xallS (xallS (xallS (xallS (xallS (xallS (xallS (xallS (xallS (xallS (xallS (xallS (xallS (xallS (xallS (lka_192 h1 h2 hs) (pKok12 h1 h2 hs)) (pKok12 h1 h2 hs)) (pKok12 h1 h2 hs)) (pKok12 h1 h2 hs)) (pKok12 h1 h2 hs)) (pKok12 h1 h2 hs)) (pKok12 h1 h2 hs)) (pKok12 h1 h2 hs)) (pKok12 h1 h2 hs)) (pKok12 h1 h2 hs)) (pKok12 h1 h2 hs)) (pKok12 h1 h2 hs)) (pKok12 h1 h2 hs)) (pKok12 h1 h2 hs)) (pKok12 h1 h2 hs)) (pKok12 h1 h2 hs)) (pKok12 h1 h2 hs)) (pKok12 h1 h2 hs)) (pKok12 h1 h2 hs)) (pKok12 h1 h2 hs)) (pKok12 h1 h2 hs)) (pKok12 h1 h2 hs)) (pKok12 h1 h2 hs)) (pKok12 h1 h2 hs)
set_option maxRecDepth 100000 in
theorem lka_240 {E : xE} {s0 : State} (h1 : E.2.2.1 = pcl) (h2 : E.2.2.2.2 = ptys) (hs : pSt s0) : ∀ m, m < 240 → (fun m => xOKl pT E s0 pY (pY m).cls 282 (pK m)) m := xallS (xallS (xallS (xallS (xallS (xallS (xallS (xallS (xallS (xallS (xallS (xallS (xallS (xallS (xallS (xallS (xallS (xallS (xallS (xallS (xallS (xallS (xallS (xallS (lka_216 h1 h2 hs) (pKok12 h1 h2 hs)) (pKok12 h1 h2 hs)) (pKok12 h1 h2 hs)) (pKok12 h1 h2 hs)) (pKok12 h1 h2 hs)) (pKok12 h1 h2 hs)) (pKok12 h1 h2 hs)) (pKok12 h1 h2 hs)) (pKok12 h1 h2 hs)) (pKok12 h1 h2 hs)) (pKok12 h1 h2 hs)) (pKok12 h1 h2 hs)) (pKok12 h1 h2 hs)) (pKok12 h1 h2 hs)) (pKok12 h1 h2 hs)) (pKok12 h1 h2 hs)) (pKok12 h1 h2 hs)) (pKok12 h1 h2 hs)) (pKok12 h1 h2 hs)) (pKok12 h1 h2 hs)) (pKok12 h1 h2 hs)) (pKok12 h1 h2 hs)) (pKok12 h1 h2 hs)) (pKok12 h1 h2 hs)
set_option maxRecDepth 100000 in
theorem lka_264 {E : xE} {s0 : State} (h1 : E.2.2.1 = pcl) (h2 : E.2.2.2.2 = ptys) (hs : pSt s0) : ∀ m, m < 264 → (fun m => xOKl pT E s0 pY (pY m).cls 282 (pK m)) m := xallS (xallS (xallS (xallS (xallS (xallS (xallS (xallS (xallS (xallS (xallS (xallS (xallS (xallS (xallS (xallS (xallS (xallS (xallS (xallS (xallS (xallS (xallS (xallS (lka_240 h1 h2 hs) (pKok12 h1 h2 hs)) (pKok12 h1 h2 hs)) (pKok12 h1 h2 hs)) (pKok12 h1 h2 hs)) (pKok12 h1 h2 hs)) (pKok12 h1 h2 hs)) (pKok12 h1 h2 hs)) (pKok12 h1 h2 hs)) (pKok12 h1 h2 hs)) (pKok12 h1 h2 hs)) (pKok12 h1 h2 hs)) (pKok12 h1 h2 hs)) (pKok12 h1 h2 hs)) (pKok12 h1 h2 hs)) (pKok12 h1 h2 hs)) (pKok12 h1 h2 hs)) (pKok12 h1 h2 hs)) (pKok12 h1 h2 hs)) (pKok12 h1 h2 hs)) (pKok12 h1 h2 hs)) (pKok12 h1 h2 hs)) (pKok12 h1 h2 hs)) (pKok12 h1 h2 hs)) (pKok12 h1 h2 hs)
set_option maxRecDepth 100000 in
theorem lka_282 {E : xE} {s0 : State} (h1 : E.2.2.1 = pcl) (h2 : E.2.2.2.2 = ptys) (hs : pSt s0) : ∀ m, m < 282 → (fun m => xOKl pT E s0 pY (pY m).cls 282 (pK m)) m := xallS (xallS (xallS (xallS (xallS (xallS (xallS (xallS (xallS (xallS (xallS (xallS (xallS (xallS (xallS (xallS (xallS (xallS (lka_264 h1 h2 hs) (pKok12 h1 h2 hs)) (pKok12 h1 h2 hs)) (pKok12 h1 h2 hs)) (pKok12 h1 h2 hs)) (pKok12 h1 h2 hs)) (pKok12 h1 h2 hs)) (pKok12 h1 h2 hs)) (pKok12 h1 h2 hs)) (pKok12 h1 h2 hs)) (pKok12 h1 h2 hs)) (pKok12 h1 h2 hs)) (pKok12 h1 h2 hs)) (pKok13 h1 h2 hs)) (pKok14 h1 h2 hs)) (pKok14 h1 h2 hs)) (pKok14 h1 h2 hs)) (pKok15 h1 h2 hs)) (pKok15 h1 h2 hs)
theorem kn0 : (pIn 0 = true → (pY 0).name = "<init>") ∧ pQ 0 0 = 0 ∧ 0 < pNb 0 := by decide +kernel
theorem kn1 : (pIn 1 = true → (pY 1).name = "<init>") ∧ pQ 1 0 = 0 ∧ 0 < pNb 1 := by decide +kernel
theorem kn2 : (pIn 2 = true → (pY 2).name = "<init>") ∧ pQ 2 0 = 0 ∧ 0 < pNb 2 := by decide +kernel
theorem kn3 : (pIn 3 = true → (pY 3).name = "<init>") ∧ pQ 3 0 = 0 ∧ 0 < pNb 3 := by decide +kernel
theorem kn4 : (pIn 4 = true → (pY 4).name = "<init>") ∧ pQ 4 0 = 0 ∧ 0 < pNb 4 := by decide +kernel
theorem kn5 : (pIn 5 = true → (pY 5).name = "<init>") ∧ pQ 5 0 = 0 ∧ 0 < pNb 5 := by decide +kernel
theorem kn6 : (pIn 6 = true → (pY 6).name = "<init>") ∧ pQ 6 0 = 0 ∧ 0 < pNb 6 := by decide +kernel
theorem kn7 : (pIn 7 = true → (pY 7).name = "<init>") ∧ pQ 7 0 = 0 ∧ 0 < pNb 7 := by decide +kernel
theorem kn8 : (pIn 8 = true → (pY 8).name = "<init>") ∧ pQ 8 0 = 0 ∧ 0 < pNb 8 := by decide +kernel
theorem kn9 : (pIn 9 = true → (pY 9).name = "<init>") ∧ pQ 9 0 = 0 ∧ 0 < pNb 9 := by decide +kernel
theorem kn10 : (pIn 10 = true → (pY 10).name = "<init>") ∧ pQ 10 0 = 0 ∧ 0 < pNb 10 := by decide +kernel
theorem kn11 : (pIn 11 = true → (pY 11).name = "<init>") ∧ pQ 11 0 = 0 ∧ 0 < pNb 11 := by decide +kernel
theorem kn12 : (pIn 12 = true → (pY 12).name = "<init>") ∧ pQ 12 0 = 0 ∧ 0 < pNb 12 := by decide +kernel
theorem kn13 : (pIn 13 = true → (pY 13).name = "<init>") ∧ pQ 13 0 = 0 ∧ 0 < pNb 13 := by decide +kernel
theorem kn14 : (pIn 14 = true → (pY 14).name = "<init>") ∧ pQ 14 0 = 0 ∧ 0 < pNb 14 := by decide +kernel
theorem kn15 : (pIn 15 = true → (pY 15).name = "<init>") ∧ pQ 15 0 = 0 ∧ 0 < pNb 15 := by decide +kernel
theorem kn16 : (pIn 16 = true → (pY 16).name = "<init>") ∧ pQ 16 0 = 0 ∧ 0 < pNb 16 := by decide +kernel
theorem kn17 : (pIn 17 = true → (pY 17).name = "<init>") ∧ pQ 17 0 = 0 ∧ 0 < pNb 17 := by decide +kernel
theorem kn18 : (pIn 18 = true → (pY 18).name = "<init>") ∧ pQ 18 0 = 0 ∧ 0 < pNb 18 := by decide +kernel
theorem kn19 : (pIn 19 = true → (pY 19).name = "<init>") ∧ pQ 19 0 = 0 ∧ 0 < pNb 19 := by decide +kernel
theorem kn20 : (pIn 20 = true → (pY 20).name = "<init>") ∧ pQ 20 0 = 0 ∧ 0 < pNb 20 := by decide +kernel
theorem kn21 : (pIn 21 = true → (pY 21).name = "<init>") ∧ pQ 21 0 = 0 ∧ 0 < pNb 21 := by decide +kernel
theorem kn22 : (pIn 22 = true → (pY 22).name = "<init>") ∧ pQ 22 0 = 0 ∧ 0 < pNb 22 := by decide +kernel
theorem kn23 : (pIn 23 = true → (pY 23).name = "<init>") ∧ pQ 23 0 = 0 ∧ 0 < pNb 23 := by decide +kernel
theorem kn24 : (pIn 24 = true → (pY 24).name = "<init>") ∧ pQ 24 0 = 0 ∧ 0 < pNb 24 := by decide +kernel
theorem kn25 : (pIn 25 = true → (pY 25).name = "<init>") ∧ pQ 25 0 = 0 ∧ 0 < pNb 25 := by decide +kernel
theorem kn26 : (pIn 26 = true → (pY 26).name = "<init>") ∧ pQ 26 0 = 0 ∧ 0 < pNb 26 := by decide +kernel
theorem kn27 : (pIn 27 = true → (pY 27).name = "<init>") ∧ pQ 27 0 = 0 ∧ 0 < pNb 27 := by decide +kernel
theorem kn28 : (pIn 28 = true → (pY 28).name = "<init>") ∧ pQ 28 0 = 0 ∧ 0 < pNb 28 := by decide +kernel
theorem kn29 : (pIn 29 = true → (pY 29).name = "<init>") ∧ pQ 29 0 = 0 ∧ 0 < pNb 29 := by decide +kernel
theorem kn30 : (pIn 30 = true → (pY 30).name = "<init>") ∧ pQ 30 0 = 0 ∧ 0 < pNb 30 := by decide +kernel
theorem kn31 : (pIn 31 = true → (pY 31).name = "<init>") ∧ pQ 31 0 = 0 ∧ 0 < pNb 31 := by decide +kernel
theorem kn32 : (pIn 32 = true → (pY 32).name = "<init>") ∧ pQ 32 0 = 0 ∧ 0 < pNb 32 := by decide +kernel
theorem kn33 : (pIn 33 = true → (pY 33).name = "<init>") ∧ pQ 33 0 = 0 ∧ 0 < pNb 33 := by decide +kernel
theorem kn34 : (pIn 34 = true → (pY 34).name = "<init>") ∧ pQ 34 0 = 0 ∧ 0 < pNb 34 := by decide +kernel
theorem kn35 : (pIn 35 = true → (pY 35).name = "<init>") ∧ pQ 35 0 = 0 ∧ 0 < pNb 35 := by decide +kernel
theorem kn36 : (pIn 36 = true → (pY 36).name = "<init>") ∧ pQ 36 0 = 0 ∧ 0 < pNb 36 := by decide +kernel
theorem kn37 : (pIn 37 = true → (pY 37).name = "<init>") ∧ pQ 37 0 = 0 ∧ 0 < pNb 37 := by decide +kernel
theorem kn38 : (pIn 38 = true → (pY 38).name = "<init>") ∧ pQ 38 0 = 0 ∧ 0 < pNb 38 := by decide +kernel
theorem kn39 : (pIn 39 = true → (pY 39).name = "<init>") ∧ pQ 39 0 = 0 ∧ 0 < pNb 39 := by decide +kernel
theorem kn40 : (pIn 40 = true → (pY 40).name = "<init>") ∧ pQ 40 0 = 0 ∧ 0 < pNb 40 := by decide +kernel
theorem kn41 : (pIn 41 = true → (pY 41).name = "<init>") ∧ pQ 41 0 = 0 ∧ 0 < pNb 41 := by decide +kernel
theorem kn42 : (pIn 42 = true → (pY 42).name = "<init>") ∧ pQ 42 0 = 0 ∧ 0 < pNb 42 := by decide +kernel
theorem kn43 : (pIn 43 = true → (pY 43).name = "<init>") ∧ pQ 43 0 = 0 ∧ 0 < pNb 43 := by decide +kernel
theorem kn44 : (pIn 44 = true → (pY 44).name = "<init>") ∧ pQ 44 0 = 0 ∧ 0 < pNb 44 := by decide +kernel
theorem kn45 : (pIn 45 = true → (pY 45).name = "<init>") ∧ pQ 45 0 = 0 ∧ 0 < pNb 45 := by decide +kernel
theorem kn46 : (pIn 46 = true → (pY 46).name = "<init>") ∧ pQ 46 0 = 0 ∧ 0 < pNb 46 := by decide +kernel
theorem kn47 : (pIn 47 = true → (pY 47).name = "<init>") ∧ pQ 47 0 = 0 ∧ 0 < pNb 47 := by decide +kernel
theorem kn48 : (pIn 48 = true → (pY 48).name = "<init>") ∧ pQ 48 0 = 0 ∧ 0 < pNb 48 := by decide +kernel
theorem kn49 : (pIn 49 = true → (pY 49).name = "<init>") ∧ pQ 49 0 = 0 ∧ 0 < pNb 49 := by decide +kernel
theorem kn50 : (pIn 50 = true → (pY 50).name = "<init>") ∧ pQ 50 0 = 0 ∧ 0 < pNb 50 := by decide +kernel
theorem kn51 : (pIn 51 = true → (pY 51).name = "<init>") ∧ pQ 51 0 = 0 ∧ 0 < pNb 51 := by decide +kernel
theorem kn52 : (pIn 52 = true → (pY 52).name = "<init>") ∧ pQ 52 0 = 0 ∧ 0 < pNb 52 := by decide +kernel
theorem kn53 : (pIn 53 = true → (pY 53).name = "<init>") ∧ pQ 53 0 = 0 ∧ 0 < pNb 53 := by decide +kernel
theorem kn54 : (pIn 54 = true → (pY 54).name = "<init>") ∧ pQ 54 0 = 0 ∧ 0 < pNb 54 := by decide +kernel
theorem kn55 : (pIn 55 = true → (pY 55).name = "<init>") ∧ pQ 55 0 = 0 ∧ 0 < pNb 55 := by decide +kernel
theorem kn56 : (pIn 56 = true → (pY 56).name = "<init>") ∧ pQ 56 0 = 0 ∧ 0 < pNb 56 := by decide +kernel
theorem kn57 : (pIn 57 = true → (pY 57).name = "<init>") ∧ pQ 57 0 = 0 ∧ 0 < pNb 57 := by decide +kernel
theorem kn58 : (pIn 58 = true → (pY 58).name = "<init>") ∧ pQ 58 0 = 0 ∧ 0 < pNb 58 := by decide +kernel
theorem kn59 : (pIn 59 = true → (pY 59).name = "<init>") ∧ pQ 59 0 = 0 ∧ 0 < pNb 59 := by decide +kernel
theorem kn60 : (pIn 60 = true → (pY 60).name = "<init>") ∧ pQ 60 0 = 0 ∧ 0 < pNb 60 := by decide +kernel
theorem kn61 : (pIn 61 = true → (pY 61).name = "<init>") ∧ pQ 61 0 = 0 ∧ 0 < pNb 61 := by decide +kernel
theorem kn62 : (pIn 62 = true → (pY 62).name = "<init>") ∧ pQ 62 0 = 0 ∧ 0 < pNb 62 := by decide +kernel
theorem kn63 : (pIn 63 = true → (pY 63).name = "<init>") ∧ pQ 63 0 = 0 ∧ 0 < pNb 63 := by decide +kernel
theorem kn64 : (pIn 64 = true → (pY 64).name = "<init>") ∧ pQ 64 0 = 0 ∧ 0 < pNb 64 := by decide +kernel
theorem kn65 : (pIn 65 = true → (pY 65).name = "<init>") ∧ pQ 65 0 = 0 ∧ 0 < pNb 65 := by decide +kernel
theorem kn66 : (pIn 66 = true → (pY 66).name = "<init>") ∧ pQ 66 0 = 0 ∧ 0 < pNb 66 := by decide +kernel
theorem kn67 : (pIn 67 = true → (pY 67).name = "<init>") ∧ pQ 67 0 = 0 ∧ 0 < pNb 67 := by decide +kernel
theorem kn68 : (pIn 68 = true → (pY 68).name = "<init>") ∧ pQ 68 0 = 0 ∧ 0 < pNb 68 := by decide +kernel
theorem kn69 : (pIn 69 = true → (pY 69).name = "<init>") ∧ pQ 69 0 = 0 ∧ 0 < pNb 69 := by decide +kernel
theorem kn70 : (pIn 70 = true → (pY 70).name = "<init>") ∧ pQ 70 0 = 0 ∧ 0 < pNb 70 := by decide +kernel
theorem kn71 : (pIn 71 = true → (pY 71).name = "<init>") ∧ pQ 71 0 = 0 ∧ 0 < pNb 71 := by decide +kernel
theorem kn72 : (pIn 72 = true → (pY 72).name = "<init>") ∧ pQ 72 0 = 0 ∧ 0 < pNb 72 := by decide +kernel
theorem kn73 : (pIn 73 = true → (pY 73).name = "<init>") ∧ pQ 73 0 = 0 ∧ 0 < pNb 73 := by decide +kernel
theorem kn74 : (pIn 74 = true → (pY 74).name = "<init>") ∧ pQ 74 0 = 0 ∧ 0 < pNb 74 := by decide +kernel
theorem kn75 : (pIn 75 = true → (pY 75).name = "<init>") ∧ pQ 75 0 = 0 ∧ 0 < pNb 75 := by decide +kernel
theorem kn76 : (pIn 76 = true → (pY 76).name = "<init>") ∧ pQ 76 0 = 0 ∧ 0 < pNb 76 := by decide +kernel
theorem kn77 : (pIn 77 = true → (pY 77).name = "<init>") ∧ pQ 77 0 = 0 ∧ 0 < pNb 77 := by decide +kernel
theorem kn78 : (pIn 78 = true → (pY 78).name = "<init>") ∧ pQ 78 0 = 0 ∧ 0 < pNb 78 := by decide +kernel
theorem kn79 : (pIn 79 = true → (pY 79).name = "<init>") ∧ pQ 79 0 = 0 ∧ 0 < pNb 79 := by decide +kernel
theorem kn80 : (pIn 80 = true → (pY 80).name = "<init>") ∧ pQ 80 0 = 0 ∧ 0 < pNb 80 := by decide +kernel
theorem kn81 : (pIn 81 = true → (pY 81).name = "<init>") ∧ pQ 81 0 = 0 ∧ 0 < pNb 81 := by decide +kernel
theorem kn82 : (pIn 82 = true → (pY 82).name = "<init>") ∧ pQ 82 0 = 0 ∧ 0 < pNb 82 := by decide +kernel
theorem kn83 : (pIn 83 = true → (pY 83).name = "<init>") ∧ pQ 83 0 = 0 ∧ 0 < pNb 83 := by decide +kernel
theorem kn84 : (pIn 84 = true → (pY 84).name = "<init>") ∧ pQ 84 0 = 0 ∧ 0 < pNb 84 := by decide +kernel
theorem kn85 : (pIn 85 = true → (pY 85).name = "<init>") ∧ pQ 85 0 = 0 ∧ 0 < pNb 85 := by decide +kernel
theorem kn86 : (pIn 86 = true → (pY 86).name = "<init>") ∧ pQ 86 0 = 0 ∧ 0 < pNb 86 := by decide +kernel
theorem kn87 : (pIn 87 = true → (pY 87).name = "<init>") ∧ pQ 87 0 = 0 ∧ 0 < pNb 87 := by decide +kernel
theorem kn88 : (pIn 88 = true → (pY 88).name = "<init>") ∧ pQ 88 0 = 0 ∧ 0 < pNb 88 := by decide +kernel
theorem kn89 : (pIn 89 = true → (pY 89).name = "<init>") ∧ pQ 89 0 = 0 ∧ 0 < pNb 89 := by decide +kernel
theorem kn90 : (pIn 90 = true → (pY 90).name = "<init>") ∧ pQ 90 0 = 0 ∧ 0 < pNb 90 := by decide +kernel
theorem kn91 : (pIn 91 = true → (pY 91).name = "<init>") ∧ pQ 91 0 = 0 ∧ 0 < pNb 91 := by decide +kernel
theorem kn92 : (pIn 92 = true → (pY 92).name = "<init>") ∧ pQ 92 0 = 0 ∧ 0 < pNb 92 := by decide +kernel
theorem kn93 : (pIn 93 = true → (pY 93).name = "<init>") ∧ pQ 93 0 = 0 ∧ 0 < pNb 93 := by decide +kernel
theorem kn94 : (pIn 94 = true → (pY 94).name = "<init>") ∧ pQ 94 0 = 0 ∧ 0 < pNb 94 := by decide +kernel
theorem kn95 : (pIn 95 = true → (pY 95).name = "<init>") ∧ pQ 95 0 = 0 ∧ 0 < pNb 95 := by decide +kernel
theorem kn96 : (pIn 96 = true → (pY 96).name = "<init>") ∧ pQ 96 0 = 0 ∧ 0 < pNb 96 := by decide +kernel
theorem kn97 : (pIn 97 = true → (pY 97).name = "<init>") ∧ pQ 97 0 = 0 ∧ 0 < pNb 97 := by decide +kernel
theorem kn98 : (pIn 98 = true → (pY 98).name = "<init>") ∧ pQ 98 0 = 0 ∧ 0 < pNb 98 := by decide +kernel
theorem kn99 : (pIn 99 = true → (pY 99).name = "<init>") ∧ pQ 99 0 = 0 ∧ 0 < pNb 99 := by decide +kernel
theorem kn100 : (pIn 100 = true → (pY 100).name = "<init>") ∧ pQ 100 0 = 0 ∧ 0 < pNb 100 := by decide +kernel
theorem kn101 : (pIn 101 = true → (pY 101).name = "<init>") ∧ pQ 101 0 = 0 ∧ 0 < pNb 101 := by decide +kernel
theorem kn102 : (pIn 102 = true → (pY 102).name = "<init>") ∧ pQ 102 0 = 0 ∧ 0 < pNb 102 := by decide +kernel
theorem kn103 : (pIn 103 = true → (pY 103).name = "<init>") ∧ pQ 103 0 = 0 ∧ 0 < pNb 103 := by decide +kernel
theorem kn104 : (pIn 104 = true → (pY 104).name = "<init>") ∧ pQ 104 0 = 0 ∧ 0 < pNb 104 := by decide +kernel
theorem kn105 : (pIn 105 = true → (pY 105).name = "<init>") ∧ pQ 105 0 = 0 ∧ 0 < pNb 105 := by decide +kernel
theorem kn106 : (pIn 106 = true → (pY 106).name = "<init>") ∧ pQ 106 0 = 0 ∧ 0 < pNb 106 := by decide +kernel
theorem kn107 : (pIn 107 = true → (pY 107).name = "<init>") ∧ pQ 107 0 = 0 ∧ 0 < pNb 107 := by decide +kernel
theorem kn108 : (pIn 108 = true → (pY 108).name = "<init>") ∧ pQ 108 0 = 0 ∧ 0 < pNb 108 := by decide +kernel
theorem kn109 : (pIn 109 = true → (pY 109).name = "<init>") ∧ pQ 109 0 = 0 ∧ 0 < pNb 109 := by decide +kernel
theorem kn110 : (pIn 110 = true → (pY 110).name = "<init>") ∧ pQ 110 0 = 0 ∧ 0 < pNb 110 := by decide +kernel
theorem kn111 : (pIn 111 = true → (pY 111).name = "<init>") ∧ pQ 111 0 = 0 ∧ 0 < pNb 111 := by decide +kernel
theorem kn112 : (pIn 112 = true → (pY 112).name = "<init>") ∧ pQ 112 0 = 0 ∧ 0 < pNb 112 := by decide +kernel
theorem kn113 : (pIn 113 = true → (pY 113).name = "<init>") ∧ pQ 113 0 = 0 ∧ 0 < pNb 113 := by decide +kernel
theorem kn114 : (pIn 114 = true → (pY 114).name = "<init>") ∧ pQ 114 0 = 0 ∧ 0 < pNb 114 := by decide +kernel
theorem kn115 : (pIn 115 = true → (pY 115).name = "<init>") ∧ pQ 115 0 = 0 ∧ 0 < pNb 115 := by decide +kernel
theorem kn116 : (pIn 116 = true → (pY 116).name = "<init>") ∧ pQ 116 0 = 0 ∧ 0 < pNb 116 := by decide +kernel
theorem kn117 : (pIn 117 = true → (pY 117).name = "<init>") ∧ pQ 117 0 = 0 ∧ 0 < pNb 117 := by decide +kernel
theorem kn118 : (pIn 118 = true → (pY 118).name = "<init>") ∧ pQ 118 0 = 0 ∧ 0 < pNb 118 := by decide +kernel
theorem kn119 : (pIn 119 = true → (pY 119).name = "<init>") ∧ pQ 119 0 = 0 ∧ 0 < pNb 119 := by decide +kernel
theorem kn120 : (pIn 120 = true → (pY 120).name = "<init>") ∧ pQ 120 0 = 0 ∧ 0 < pNb 120 := by decide +kernel
theorem kn121 : (pIn 121 = true → (pY 121).name = "<init>") ∧ pQ 121 0 = 0 ∧ 0 < pNb 121 := by decide +kernel
theorem kn122 : (pIn 122 = true → (pY 122).name = "<init>") ∧ pQ 122 0 = 0 ∧ 0 < pNb 122 := by decide +kernel
theorem kn123 : (pIn 123 = true → (pY 123).name = "<init>") ∧ pQ 123 0 = 0 ∧ 0 < pNb 123 := by decide +kernel
theorem kn124 : (pIn 124 = true → (pY 124).name = "<init>") ∧ pQ 124 0 = 0 ∧ 0 < pNb 124 := by decide +kernel
theorem kn125 : (pIn 125 = true → (pY 125).name = "<init>") ∧ pQ 125 0 = 0 ∧ 0 < pNb 125 := by decide +kernel
theorem kn126 : (pIn 126 = true → (pY 126).name = "<init>") ∧ pQ 126 0 = 0 ∧ 0 < pNb 126 := by decide +kernel
theorem kn127 : (pIn 127 = true → (pY 127).name = "<init>") ∧ pQ 127 0 = 0 ∧ 0 < pNb 127 := by decide +kernel
theorem kn128 : (pIn 128 = true → (pY 128).name = "<init>") ∧ pQ 128 0 = 0 ∧ 0 < pNb 128 := by decide +kernel
theorem kn129 : (pIn 129 = true → (pY 129).name = "<init>") ∧ pQ 129 0 = 0 ∧ 0 < pNb 129 := by decide +kernel
theorem kn130 : (pIn 130 = true → (pY 130).name = "<init>") ∧ pQ 130 0 = 0 ∧ 0 < pNb 130 := by decide +kernel
theorem kn131 : (pIn 131 = true → (pY 131).name = "<init>") ∧ pQ 131 0 = 0 ∧ 0 < pNb 131 := by decide +kernel
theorem kn132 : (pIn 132 = true → (pY 132).name = "<init>") ∧ pQ 132 0 = 0 ∧ 0 < pNb 132 := by decide +kernel
theorem kn133 : (pIn 133 = true → (pY 133).name = "<init>") ∧ pQ 133 0 = 0 ∧ 0 < pNb 133 := by decide +kernel
theorem kn134 : (pIn 134 = true → (pY 134).name = "<init>") ∧ pQ 134 0 = 0 ∧ 0 < pNb 134 := by decide +kernel
theorem kn135 : (pIn 135 = true → (pY 135).name = "<init>") ∧ pQ 135 0 = 0 ∧ 0 < pNb 135 := by decide +kernel
theorem kn136 : (pIn 136 = true → (pY 136).name = "<init>") ∧ pQ 136 0 = 0 ∧ 0 < pNb 136 := by decide +kernel
theorem kn137 : (pIn 137 = true → (pY 137).name = "<init>") ∧ pQ 137 0 = 0 ∧ 0 < pNb 137 := by decide +kernel
theorem kn138 : (pIn 138 = true → (pY 138).name = "<init>") ∧ pQ 138 0 = 0 ∧ 0 < pNb 138 := by decide +kernel
theorem kn139 : (pIn 139 = true → (pY 139).name = "<init>") ∧ pQ 139 0 = 0 ∧ 0 < pNb 139 := by decide +kernel
theorem kn140 : (pIn 140 = true → (pY 140).name = "<init>") ∧ pQ 140 0 = 0 ∧ 0 < pNb 140 := by decide +kernel
theorem kn141 : (pIn 141 = true → (pY 141).name = "<init>") ∧ pQ 141 0 = 0 ∧ 0 < pNb 141 := by decide +kernel
theorem kn142 : (pIn 142 = true → (pY 142).name = "<init>") ∧ pQ 142 0 = 0 ∧ 0 < pNb 142 := by decide +kernel
theorem kn143 : (pIn 143 = true → (pY 143).name = "<init>") ∧ pQ 143 0 = 0 ∧ 0 < pNb 143 := by decide +kernel
theorem kn144 : (pIn 144 = true → (pY 144).name = "<init>") ∧ pQ 144 0 = 0 ∧ 0 < pNb 144 := by decide +kernel
theorem kn145 : (pIn 145 = true → (pY 145).name = "<init>") ∧ pQ 145 0 = 0 ∧ 0 < pNb 145 := by decide +kernel
theorem kn146 : (pIn 146 = true → (pY 146).name = "<init>") ∧ pQ 146 0 = 0 ∧ 0 < pNb 146 := by decide +kernel
theorem kn147 : (pIn 147 = true → (pY 147).name = "<init>") ∧ pQ 147 0 = 0 ∧ 0 < pNb 147 := by decide +kernel
theorem kn148 : (pIn 148 = true → (pY 148).name = "<init>") ∧ pQ 148 0 = 0 ∧ 0 < pNb 148 := by decide +kernel
theorem kn149 : (pIn 149 = true → (pY 149).name = "<init>") ∧ pQ 149 0 = 0 ∧ 0 < pNb 149 := by decide +kernel
theorem kn150 : (pIn 150 = true → (pY 150).name = "<init>") ∧ pQ 150 0 = 0 ∧ 0 < pNb 150 := by decide +kernel
theorem kn151 : (pIn 151 = true → (pY 151).name = "<init>") ∧ pQ 151 0 = 0 ∧ 0 < pNb 151 := by decide +kernel
theorem kn152 : (pIn 152 = true → (pY 152).name = "<init>") ∧ pQ 152 0 = 0 ∧ 0 < pNb 152 := by decide +kernel
theorem kn153 : (pIn 153 = true → (pY 153).name = "<init>") ∧ pQ 153 0 = 0 ∧ 0 < pNb 153 := by decide +kernel
theorem kn154 : (pIn 154 = true → (pY 154).name = "<init>") ∧ pQ 154 0 = 0 ∧ 0 < pNb 154 := by decide +kernel
theorem kn155 : (pIn 155 = true → (pY 155).name = "<init>") ∧ pQ 155 0 = 0 ∧ 0 < pNb 155 := by decide +kernel
theorem kn156 : (pIn 156 = true → (pY 156).name = "<init>") ∧ pQ 156 0 = 0 ∧ 0 < pNb 156 := by decide +kernel
theorem kn157 : (pIn 157 = true → (pY 157).name = "<init>") ∧ pQ 157 0 = 0 ∧ 0 < pNb 157 := by decide +kernel
theorem kn158 : (pIn 158 = true → (pY 158).name = "<init>") ∧ pQ 158 0 = 0 ∧ 0 < pNb 158 := by decide +kernel
theorem kn159 : (pIn 159 = true → (pY 159).name = "<init>") ∧ pQ 159 0 = 0 ∧ 0 < pNb 159 := by decide +kernel
theorem kn160 : (pIn 160 = true → (pY 160).name = "<init>") ∧ pQ 160 0 = 0 ∧ 0 < pNb 160 := by decide +kernel
theorem kn161 : (pIn 161 = true → (pY 161).name = "<init>") ∧ pQ 161 0 = 0 ∧ 0 < pNb 161 := by decide +kernel
theorem kn162 : (pIn 162 = true → (pY 162).name = "<init>") ∧ pQ 162 0 = 0 ∧ 0 < pNb 162 := by decide +kernel
theorem kn163 : (pIn 163 = true → (pY 163).name = "<init>") ∧ pQ 163 0 = 0 ∧ 0 < pNb 163 := by decide +kernel
theorem kn164 : (pIn 164 = true → (pY 164).name = "<init>") ∧ pQ 164 0 = 0 ∧ 0 < pNb 164 := by decide +kernel
theorem kn165 : (pIn 165 = true → (pY 165).name = "<init>") ∧ pQ 165 0 = 0 ∧ 0 < pNb 165 := by decide +kernel
theorem kn166 : (pIn 166 = true → (pY 166).name = "<init>") ∧ pQ 166 0 = 0 ∧ 0 < pNb 166 := by decide +kernel
theorem kn167 : (pIn 167 = true → (pY 167).name = "<init>") ∧ pQ 167 0 = 0 ∧ 0 < pNb 167 := by decide +kernel
theorem kn168 : (pIn 168 = true → (pY 168).name = "<init>") ∧ pQ 168 0 = 0 ∧ 0 < pNb 168 := by decide +kernel
theorem kn169 : (pIn 169 = true → (pY 169).name = "<init>") ∧ pQ 169 0 = 0 ∧ 0 < pNb 169 := by decide +kernel
theorem kn170 : (pIn 170 = true → (pY 170).name = "<init>") ∧ pQ 170 0 = 0 ∧ 0 < pNb 170 := by decide +kernel
theorem kn171 : (pIn 171 = true → (pY 171).name = "<init>") ∧ pQ 171 0 = 0 ∧ 0 < pNb 171 := by decide +kernel
theorem kn172 : (pIn 172 = true → (pY 172).name = "<init>") ∧ pQ 172 0 = 0 ∧ 0 < pNb 172 := by decide +kernel
theorem kn173 : (pIn 173 = true → (pY 173).name = "<init>") ∧ pQ 173 0 = 0 ∧ 0 < pNb 173 := by decide +kernel
theorem kn174 : (pIn 174 = true → (pY 174).name = "<init>") ∧ pQ 174 0 = 0 ∧ 0 < pNb 174 := by decide +kernel
theorem kn175 : (pIn 175 = true → (pY 175).name = "<init>") ∧ pQ 175 0 = 0 ∧ 0 < pNb 175 := by decide +kernel
theorem kn176 : (pIn 176 = true → (pY 176).name = "<init>") ∧ pQ 176 0 = 0 ∧ 0 < pNb 176 := by decide +kernel
theorem kn177 : (pIn 177 = true → (pY 177).name = "<init>") ∧ pQ 177 0 = 0 ∧ 0 < pNb 177 := by decide +kernel
theorem kn178 : (pIn 178 = true → (pY 178).name = "<init>") ∧ pQ 178 0 = 0 ∧ 0 < pNb 178 := by decide +kernel
theorem kn179 : (pIn 179 = true → (pY 179).name = "<init>") ∧ pQ 179 0 = 0 ∧ 0 < pNb 179 := by decide +kernel
theorem kn180 : (pIn 180 = true → (pY 180).name = "<init>") ∧ pQ 180 0 = 0 ∧ 0 < pNb 180 := by decide +kernel
theorem kn181 : (pIn 181 = true → (pY 181).name = "<init>") ∧ pQ 181 0 = 0 ∧ 0 < pNb 181 := by decide +kernel
theorem kn182 : (pIn 182 = true → (pY 182).name = "<init>") ∧ pQ 182 0 = 0 ∧ 0 < pNb 182 := by decide +kernel
theorem kn183 : (pIn 183 = true → (pY 183).name = "<init>") ∧ pQ 183 0 = 0 ∧ 0 < pNb 183 := by decide +kernel
theorem kn184 : (pIn 184 = true → (pY 184).name = "<init>") ∧ pQ 184 0 = 0 ∧ 0 < pNb 184 := by decide +kernel
theorem kn185 : (pIn 185 = true → (pY 185).name = "<init>") ∧ pQ 185 0 = 0 ∧ 0 < pNb 185 := by decide +kernel
theorem kn186 : (pIn 186 = true → (pY 186).name = "<init>") ∧ pQ 186 0 = 0 ∧ 0 < pNb 186 := by decide +kernel
theorem kn187 : (pIn 187 = true → (pY 187).name = "<init>") ∧ pQ 187 0 = 0 ∧ 0 < pNb 187 := by decide +kernel
theorem kn188 : (pIn 188 = true → (pY 188).name = "<init>") ∧ pQ 188 0 = 0 ∧ 0 < pNb 188 := by decide +kernel
theorem kn189 : (pIn 189 = true → (pY 189).name = "<init>") ∧ pQ 189 0 = 0 ∧ 0 < pNb 189 := by decide +kernel
theorem kn190 : (pIn 190 = true → (pY 190).name = "<init>") ∧ pQ 190 0 = 0 ∧ 0 < pNb 190 := by decide +kernel
theorem kn191 : (pIn 191 = true → (pY 191).name = "<init>") ∧ pQ 191 0 = 0 ∧ 0 < pNb 191 := by decide +kernel
theorem kn192 : (pIn 192 = true → (pY 192).name = "<init>") ∧ pQ 192 0 = 0 ∧ 0 < pNb 192 := by decide +kernel
theorem kn193 : (pIn 193 = true → (pY 193).name = "<init>") ∧ pQ 193 0 = 0 ∧ 0 < pNb 193 := by decide +kernel
theorem kn194 : (pIn 194 = true → (pY 194).name = "<init>") ∧ pQ 194 0 = 0 ∧ 0 < pNb 194 := by decide +kernel
theorem kn195 : (pIn 195 = true → (pY 195).name = "<init>") ∧ pQ 195 0 = 0 ∧ 0 < pNb 195 := by decide +kernel
theorem kn196 : (pIn 196 = true → (pY 196).name = "<init>") ∧ pQ 196 0 = 0 ∧ 0 < pNb 196 := by decide +kernel
theorem kn197 : (pIn 197 = true → (pY 197).name = "<init>") ∧ pQ 197 0 = 0 ∧ 0 < pNb 197 := by decide +kernel
theorem kn198 : (pIn 198 = true → (pY 198).name = "<init>") ∧ pQ 198 0 = 0 ∧ 0 < pNb 198 := by decide +kernel
theorem kn199 : (pIn 199 = true → (pY 199).name = "<init>") ∧ pQ 199 0 = 0 ∧ 0 < pNb 199 := by decide +kernel
theorem kn200 : (pIn 200 = true → (pY 200).name = "<init>") ∧ pQ 200 0 = 0 ∧ 0 < pNb 200 := by decide +kernel
theorem kn201 : (pIn 201 = true → (pY 201).name = "<init>") ∧ pQ 201 0 = 0 ∧ 0 < pNb 201 := by decide +kernel
theorem kn202 : (pIn 202 = true → (pY 202).name = "<init>") ∧ pQ 202 0 = 0 ∧ 0 < pNb 202 := by decide +kernel
theorem kn203 : (pIn 203 = true → (pY 203).name = "<init>") ∧ pQ 203 0 = 0 ∧ 0 < pNb 203 := by decide +kernel
theorem kn204 : (pIn 204 = true → (pY 204).name = "<init>") ∧ pQ 204 0 = 0 ∧ 0 < pNb 204 := by decide +kernel
theorem kn205 : (pIn 205 = true → (pY 205).name = "<init>") ∧ pQ 205 0 = 0 ∧ 0 < pNb 205 := by decide +kernel
theorem kn206 : (pIn 206 = true → (pY 206).name = "<init>") ∧ pQ 206 0 = 0 ∧ 0 < pNb 206 := by decide +kernel
theorem kn207 : (pIn 207 = true → (pY 207).name = "<init>") ∧ pQ 207 0 = 0 ∧ 0 < pNb 207 := by decide +kernel
theorem kn208 : (pIn 208 = true → (pY 208).name = "<init>") ∧ pQ 208 0 = 0 ∧ 0 < pNb 208 := by decide +kernel
theorem kn209 : (pIn 209 = true → (pY 209).name = "<init>") ∧ pQ 209 0 = 0 ∧ 0 < pNb 209 := by decide +kernel
theorem kn210 : (pIn 210 = true → (pY 210).name = "<init>") ∧ pQ 210 0 = 0 ∧ 0 < pNb 210 := by decide +kernel
theorem kn211 : (pIn 211 = true → (pY 211).name = "<init>") ∧ pQ 211 0 = 0 ∧ 0 < pNb 211 := by decide +kernel
theorem kn212 : (pIn 212 = true → (pY 212).name = "<init>") ∧ pQ 212 0 = 0 ∧ 0 < pNb 212 := by decide +kernel
theorem kn213 : (pIn 213 = true → (pY 213).name = "<init>") ∧ pQ 213 0 = 0 ∧ 0 < pNb 213 := by decide +kernel
theorem kn214 : (pIn 214 = true → (pY 214).name = "<init>") ∧ pQ 214 0 = 0 ∧ 0 < pNb 214 := by decide +kernel
theorem kn215 : (pIn 215 = true → (pY 215).name = "<init>") ∧ pQ 215 0 = 0 ∧ 0 < pNb 215 := by decide +kernel
theorem kn216 : (pIn 216 = true → (pY 216).name = "<init>") ∧ pQ 216 0 = 0 ∧ 0 < pNb 216 := by decide +kernel
theorem kn217 : (pIn 217 = true → (pY 217).name = "<init>") ∧ pQ 217 0 = 0 ∧ 0 < pNb 217 := by decide +kernel
theorem kn218 : (pIn 218 = true → (pY 218).name = "<init>") ∧ pQ 218 0 = 0 ∧ 0 < pNb 218 := by decide +kernel
theorem kn219 : (pIn 219 = true → (pY 219).name = "<init>") ∧ pQ 219 0 = 0 ∧ 0 < pNb 219 := by decide +kernel
theorem kn220 : (pIn 220 = true → (pY 220).name = "<init>") ∧ pQ 220 0 = 0 ∧ 0 < pNb 220 := by decide +kernel
theorem kn221 : (pIn 221 = true → (pY 221).name = "<init>") ∧ pQ 221 0 = 0 ∧ 0 < pNb 221 := by decide +kernel
theorem kn222 : (pIn 222 = true → (pY 222).name = "<init>") ∧ pQ 222 0 = 0 ∧ 0 < pNb 222 := by decide +kernel
theorem kn223 : (pIn 223 = true → (pY 223).name = "<init>") ∧ pQ 223 0 = 0 ∧ 0 < pNb 223 := by decide +kernel
theorem kn224 : (pIn 224 = true → (pY 224).name = "<init>") ∧ pQ 224 0 = 0 ∧ 0 < pNb 224 := by decide +kernel
theorem kn225 : (pIn 225 = true → (pY 225).name = "<init>") ∧ pQ 225 0 = 0 ∧ 0 < pNb 225 := by decide +kernel
theorem kn226 : (pIn 226 = true → (pY 226).name = "<init>") ∧ pQ 226 0 = 0 ∧ 0 < pNb 226 := by decide +kernel
theorem kn227 : (pIn 227 = true → (pY 227).name = "<init>") ∧ pQ 227 0 = 0 ∧ 0 < pNb 227 := by decide +kernel
theorem kn228 : (pIn 228 = true → (pY 228).name = "<init>") ∧ pQ 228 0 = 0 ∧ 0 < pNb 228 := by decide +kernel
theorem kn229 : (pIn 229 = true → (pY 229).name = "<init>") ∧ pQ 229 0 = 0 ∧ 0 < pNb 229 := by decide +kernel
theorem kn230 : (pIn 230 = true → (pY 230).name = "<init>") ∧ pQ 230 0 = 0 ∧ 0 < pNb 230 := by decide +kernel
theorem kn231 : (pIn 231 = true → (pY 231).name = "<init>") ∧ pQ 231 0 = 0 ∧ 0 < pNb 231 := by decide +kernel
theorem kn232 : (pIn 232 = true → (pY 232).name = "<init>") ∧ pQ 232 0 = 0 ∧ 0 < pNb 232 := by decide +kernel
theorem kn233 : (pIn 233 = true → (pY 233).name = "<init>") ∧ pQ 233 0 = 0 ∧ 0 < pNb 233 := by decide +kernel
theorem kn234 : (pIn 234 = true → (pY 234).name = "<init>") ∧ pQ 234 0 = 0 ∧ 0 < pNb 234 := by decide +kernel
theorem kn235 : (pIn 235 = true → (pY 235).name = "<init>") ∧ pQ 235 0 = 0 ∧ 0 < pNb 235 := by decide +kernel
theorem kn236 : (pIn 236 = true → (pY 236).name = "<init>") ∧ pQ 236 0 = 0 ∧ 0 < pNb 236 := by decide +kernel
theorem kn237 : (pIn 237 = true → (pY 237).name = "<init>") ∧ pQ 237 0 = 0 ∧ 0 < pNb 237 := by decide +kernel
theorem kn238 : (pIn 238 = true → (pY 238).name = "<init>") ∧ pQ 238 0 = 0 ∧ 0 < pNb 238 := by decide +kernel
theorem kn239 : (pIn 239 = true → (pY 239).name = "<init>") ∧ pQ 239 0 = 0 ∧ 0 < pNb 239 := by decide +kernel
theorem kn240 : (pIn 240 = true → (pY 240).name = "<init>") ∧ pQ 240 0 = 0 ∧ 0 < pNb 240 := by decide +kernel
theorem kn241 : (pIn 241 = true → (pY 241).name = "<init>") ∧ pQ 241 0 = 0 ∧ 0 < pNb 241 := by decide +kernel
theorem kn242 : (pIn 242 = true → (pY 242).name = "<init>") ∧ pQ 242 0 = 0 ∧ 0 < pNb 242 := by decide +kernel
theorem kn243 : (pIn 243 = true → (pY 243).name = "<init>") ∧ pQ 243 0 = 0 ∧ 0 < pNb 243 := by decide +kernel
theorem kn244 : (pIn 244 = true → (pY 244).name = "<init>") ∧ pQ 244 0 = 0 ∧ 0 < pNb 244 := by decide +kernel
theorem kn245 : (pIn 245 = true → (pY 245).name = "<init>") ∧ pQ 245 0 = 0 ∧ 0 < pNb 245 := by decide +kernel
theorem kn246 : (pIn 246 = true → (pY 246).name = "<init>") ∧ pQ 246 0 = 0 ∧ 0 < pNb 246 := by decide +kernel
theorem kn247 : (pIn 247 = true → (pY 247).name = "<init>") ∧ pQ 247 0 = 0 ∧ 0 < pNb 247 := by decide +kernel
theorem kn248 : (pIn 248 = true → (pY 248).name = "<init>") ∧ pQ 248 0 = 0 ∧ 0 < pNb 248 := by decide +kernel
theorem kn249 : (pIn 249 = true → (pY 249).name = "<init>") ∧ pQ 249 0 = 0 ∧ 0 < pNb 249 := by decide +kernel
theorem kn250 : (pIn 250 = true → (pY 250).name = "<init>") ∧ pQ 250 0 = 0 ∧ 0 < pNb 250 := by decide +kernel
theorem kn251 : (pIn 251 = true → (pY 251).name = "<init>") ∧ pQ 251 0 = 0 ∧ 0 < pNb 251 := by decide +kernel
theorem kn252 : (pIn 252 = true → (pY 252).name = "<init>") ∧ pQ 252 0 = 0 ∧ 0 < pNb 252 := by decide +kernel
theorem kn253 : (pIn 253 = true → (pY 253).name = "<init>") ∧ pQ 253 0 = 0 ∧ 0 < pNb 253 := by decide +kernel
theorem kn254 : (pIn 254 = true → (pY 254).name = "<init>") ∧ pQ 254 0 = 0 ∧ 0 < pNb 254 := by decide +kernel
theorem kn255 : (pIn 255 = true → (pY 255).name = "<init>") ∧ pQ 255 0 = 0 ∧ 0 < pNb 255 := by decide +kernel
theorem kn256 : (pIn 256 = true → (pY 256).name = "<init>") ∧ pQ 256 0 = 0 ∧ 0 < pNb 256 := by decide +kernel
theorem kn257 : (pIn 257 = true → (pY 257).name = "<init>") ∧ pQ 257 0 = 0 ∧ 0 < pNb 257 := by decide +kernel
theorem kn258 : (pIn 258 = true → (pY 258).name = "<init>") ∧ pQ 258 0 = 0 ∧ 0 < pNb 258 := by decide +kernel
theorem kn259 : (pIn 259 = true → (pY 259).name = "<init>") ∧ pQ 259 0 = 0 ∧ 0 < pNb 259 := by decide +kernel
theorem kn260 : (pIn 260 = true → (pY 260).name = "<init>") ∧ pQ 260 0 = 0 ∧ 0 < pNb 260 := by decide +kernel
theorem kn261 : (pIn 261 = true → (pY 261).name = "<init>") ∧ pQ 261 0 = 0 ∧ 0 < pNb 261 := by decide +kernel
theorem kn262 : (pIn 262 = true → (pY 262).name = "<init>") ∧ pQ 262 0 = 0 ∧ 0 < pNb 262 := by decide +kernel
theorem kn263 : (pIn 263 = true → (pY 263).name = "<init>") ∧ pQ 263 0 = 0 ∧ 0 < pNb 263 := by decide +kernel
theorem kn264 : (pIn 264 = true → (pY 264).name = "<init>") ∧ pQ 264 0 = 0 ∧ 0 < pNb 264 := by decide +kernel
theorem kn265 : (pIn 265 = true → (pY 265).name = "<init>") ∧ pQ 265 0 = 0 ∧ 0 < pNb 265 := by decide +kernel
theorem kn266 : (pIn 266 = true → (pY 266).name = "<init>") ∧ pQ 266 0 = 0 ∧ 0 < pNb 266 := by decide +kernel
theorem kn267 : (pIn 267 = true → (pY 267).name = "<init>") ∧ pQ 267 0 = 0 ∧ 0 < pNb 267 := by decide +kernel
theorem kn268 : (pIn 268 = true → (pY 268).name = "<init>") ∧ pQ 268 0 = 0 ∧ 0 < pNb 268 := by decide +kernel
theorem kn269 : (pIn 269 = true → (pY 269).name = "<init>") ∧ pQ 269 0 = 0 ∧ 0 < pNb 269 := by decide +kernel
theorem kn270 : (pIn 270 = true → (pY 270).name = "<init>") ∧ pQ 270 0 = 0 ∧ 0 < pNb 270 := by decide +kernel
theorem kn271 : (pIn 271 = true → (pY 271).name = "<init>") ∧ pQ 271 0 = 0 ∧ 0 < pNb 271 := by decide +kernel
theorem kn272 : (pIn 272 = true → (pY 272).name = "<init>") ∧ pQ 272 0 = 0 ∧ 0 < pNb 272 := by decide +kernel
theorem kn273 : (pIn 273 = true → (pY 273).name = "<init>") ∧ pQ 273 0 = 0 ∧ 0 < pNb 273 := by decide +kernel
theorem kn274 : (pIn 274 = true → (pY 274).name = "<init>") ∧ pQ 274 0 = 0 ∧ 0 < pNb 274 := by decide +kernel
theorem kn275 : (pIn 275 = true → (pY 275).name = "<init>") ∧ pQ 275 0 = 0 ∧ 0 < pNb 275 := by decide +kernel
theorem kn276 : (pIn 276 = true → (pY 276).name = "<init>") ∧ pQ 276 0 = 0 ∧ 0 < pNb 276 := by decide +kernel
theorem kn277 : (pIn 277 = true → (pY 277).name = "<init>") ∧ pQ 277 0 = 0 ∧ 0 < pNb 277 := by decide +kernel
theorem kn278 : (pIn 278 = true → (pY 278).name = "<init>") ∧ pQ 278 0 = 0 ∧ 0 < pNb 278 := by decide +kernel
theorem kn279 : (pIn 279 = true → (pY 279).name = "<init>") ∧ pQ 279 0 = 0 ∧ 0 < pNb 279 := by decide +kernel
theorem kn280 : (pIn 280 = true → (pY 280).name = "<init>") ∧ pQ 280 0 = 0 ∧ 0 < pNb 280 := by decide +kernel
theorem kn281 : (pIn 281 = true → (pY 281).name = "<init>") ∧ pQ 281 0 = 0 ∧ 0 < pNb 281 := by decide +kernel
set_option maxRecDepth 100000 in
theorem kna_24  : ∀ m, m < 24 → (fun m => (pIn m = true → (pY m).name = "<init>") ∧ pQ m 0 = 0 ∧ 0 < pNb m) m := xallS (xallS (xallS (xallS (xallS (xallS (xallS (xallS (xallS (xallS (xallS (xallS (xallS (xallS (xallS (xallS (xallS (xallS (xallS (xallS (xallS (xallS (xallS (xallS (xall0) (kn0)) (kn1)) (kn2)) (kn3)) (kn4)) (kn5)) (kn6)) (kn7)) (kn8)) (kn9)) (kn10)) (kn11)) (kn12)) (kn13)) (kn14)) (kn15)) (kn16)) (kn17)) (kn18)) (kn19)) (kn20)) (kn21)) (kn22)) (kn23)
set_option maxRecDepth 100000 in
theorem kna_48  : ∀ m, m < 48 → (fun m => (pIn m = true → (pY m).name = "<init>") ∧ pQ m 0 = 0 ∧ 0 < pNb m) m := xallS (xallS (xallS (xallS (xallS (xallS (xallS (xallS (xallS (xallS (xallS (xallS (xallS (xallS (xallS (xallS (xallS (xallS (xallS (xallS (xallS (xallS (xallS (xallS (kna_24) (kn24)) (kn25)) (kn26)) (kn27)) (kn28)) (kn29)) (kn30)) (kn31)) (kn32)) (kn33)) (kn34)) (kn35)) (kn36)) (kn37)) (kn38)) (kn39)) (kn40)) (kn41)) (kn42)) (kn43)) (kn44)) (kn45)) (kn46)) (kn47)
set_option maxRecDepth 100000 in
theorem kna_72  : ∀ m, m < 72 → (fun m => (pIn m = true → (pY m).name = "<init>") ∧ pQ m 0 = 0 ∧ 0 < pNb m) m := xallS (xallS (xallS (xallS (xallS (xallS (xallS (xallS (xallS (xallS (xallS (xallS (xallS (xallS (xallS (xallS (xallS (xallS (xallS (xallS (xallS (xallS (xallS (xallS (kna_48) (kn48)) (kn49)) (kn50)) (kn51)) (kn52)) (kn53)) (kn54)) (kn55)) (kn56)) (kn57)) (kn58)) (kn59)) (kn60)) (kn61)) (kn62)) (kn63)) (kn64)) (kn65)) (kn66)) (kn67)) (kn68)) (kn69)) (kn70)) (kn71)
set_option maxRecDepth 100000 in
theorem kna_96  : ∀ m, m < 96 → (fun m => (pIn m = true → (pY m).name = "<init>") ∧ pQ m 0 = 0 ∧ 0 < pNb m) m := xallS (xallS (xallS (xallS (xallS (xallS (xallS (xallS (xallS (xallS (xallS (xallS (xallS (xallS (xallS (xallS (xallS (xallS (xallS (xallS (xallS (xallS (xallS (xallS (kna_72) (kn72)) (kn73)) (kn74)) (kn75)) (kn76)) (kn77)) (kn78)) (kn79)) (kn80)) (kn81)) (kn82)) (kn83)) (kn84)) (kn85)) (kn86)) (kn87)) (kn88)) (kn89)) (kn90)) (kn91)) (kn92)) (kn93)) (kn94)) (kn95)
set_option maxRecDepth 100000 in
theorem kna_120  : ∀ m, m < 120 → (fun m => (pIn m = true → (pY m).name = "<init>") ∧ pQ m 0 = 0 ∧ 0 < pNb m) m := xallS (xallS (xallS (xallS (xallS (xallS (xallS (xallS (xallS (xallS (xallS (xallS (xallS (xallS (xallS (xallS (xallS (xallS (xallS (xallS (xallS (xallS (xallS (xallS (kna_96) (kn96)) (kn97)) (kn98)) (kn99)) (kn100)) (kn101)) (kn102)) (kn103)) (kn104)) (kn105)) (kn106)) (kn107)) (kn108)) (kn109)) (kn110)) (kn111)) (kn112)) (kn113)) (kn114)) (kn115)) (kn116)) (kn117)) (kn118)) (kn119)
set_option maxRecDepth 100000 in
theorem kna_144  : ∀ m, m < 144 → (fun m => (pIn m = true → (pY m).name = "<init>") ∧ pQ m 0 = 0 ∧ 0 < pNb m) m := xallS (xallS (xallS (xallS (xallS (xallS (xallS (xallS (xallS (xallS (xallS (xallS (xallS (xallS (xallS (xallS (xallS (xallS (xallS (xallS (xallS (xallS (xallS (xallS (kna_120) (kn120)) (kn121)) (kn122)) (kn123)) (kn124)) (kn125)) (kn126)) (kn127)) (kn128)) (kn129)) (kn130)) (kn131)) (kn132)) (kn133)) (kn134)) (kn135)) (kn136)) (kn137)) (kn138)) (kn139)) (kn140)) (kn141)) (kn142)) (kn143)
set_option maxRecDepth 100000 in
theorem kna_168  : ∀ m, m < 168 → (fun m => (pIn m = true → (pY m).name = "<init>") ∧ pQ m 0 = 0 ∧ 0 < pNb m) m := xallS (xallS (xallS (xallS (xallS (xallS (xallS (xallS (xallS (xallS (xallS (xallS (xallS (xallS (xallS (xallS (xallS (xallS (xallS (xallS (xallS (xallS (xallS (xallS (kna_144) (kn144)) (kn145)) (kn146)) (kn147)) (kn148)) (kn149)) (kn150)) (kn151)) (kn152)) (kn153)) (kn154)) (kn155)) (kn156)) (kn157)) (kn158)) (kn159)) (kn160)) (kn161)) (kn162)) (kn163)) (kn164)) (kn165)) (kn166)) (kn167)
set_option maxRecDepth 100000 in
theorem kna_192  : ∀ m, m < 192 → (fun m => (pIn m = true → (pY m).name = "<init>") ∧ pQ m 0 = 0 ∧ 0 < pNb m) m := xallS (xallS (xallS (xallS (xallS (xallS (xallS (xallS (xallS (xallS (xallS (xallS (xallS (xallS (xallS (xallS (xallS (xallS (xallS (xallS (xallS (xallS (xallS (xallS (kna_168) (kn168)) (kn169)) (kn170)) (kn171)) (kn172)) (kn173)) (kn174)) (kn175)) (kn176)) (kn177)) (kn178)) (kn179)) (kn180)) (kn181)) (kn182)) (kn183)) (kn184)) (kn185)) (kn186)) (kn187)) (kn188)) (kn189)) (kn190)) (kn191)
set_option maxRecDepth 100000 in
theorem kna_216  : ∀ m, m < 216 → (fun m => (pIn m = true → (pY m).name = "<init>") ∧ pQ m 0 = 0 ∧ 0 < pNb m) m := xallS (xallS (xallS (xallS (xallS (xallS (xallS (xallS (xallS (xallS (xallS (xallS (xallS (xallS (xallS (xallS (xallS (xallS (xallS (xallS (xallS (xallS (xallS (xallS (kna_192) (kn192)) (kn193)) (kn194)) (kn195)) (kn196)) (kn197)) (kn198)) (kn199)) (kn200)) (kn201)) (kn202)) (kn203)) (kn204)) (kn205)) (kn206)) (kn207)) (kn208)) (kn209)) (kn210)) (kn211)) (kn212)) (kn213)) (kn214)) (kn215)
set_option maxRecDepth 100000 in
theorem kna_240  : ∀ m, m < 240 → (fun m => (pIn m = true → (pY m).name = "<init>") ∧ pQ m 0 = 0 ∧ 0 < pNb m) m := xallS (xallS (xallS (xallS (xallS (xallS (xallS (xallS (xallS (xallS (xallS (xallS (xallS (xallS (xallS (xallS (xallS (xallS (xallS (xallS (xallS (xallS (xallS (xallS (kna_216) (kn216)) (kn217)) (kn218)) (kn219)) (kn220)) (kn221)) (kn222)) (kn223)) (kn224)) (kn225)) (kn226)) (kn227)) (kn228)) (kn229)) (kn230)) (kn231)) (kn232)) (kn233)) (kn234)) (kn235)) (kn236)) (kn237)) (kn238)) (kn239)
set_option maxRecDepth 100000 in
theorem kna_264  : ∀ m, m < 264 → (fun m => (pIn m = true → (pY m).name = "<init>") ∧ pQ m 0 = 0 ∧ 0 < pNb m) m := xallS (xallS (xallS (xallS (xallS (xallS (xallS (xallS (xallS (xallS (xallS (xallS (xallS (xallS (xallS (xallS (xallS (xallS (xallS (xallS (xallS (xallS (xallS (xallS (kna_240) (kn240)) (kn241)) (kn242)) (kn243)) (kn244)) (kn245)) (kn246)) (kn247)) (kn248)) (kn249)) (kn250)) (kn251)) (kn252)) (kn253)) (kn254)) (kn255)) (kn256)) (kn257)) (kn258)) (kn259)) (kn260)) (kn261)) (kn262)) (kn263)
set_option maxRecDepth 100000 in
theorem kna_282  : ∀ m, m < 282 → (fun m => (pIn m = true → (pY m).name = "<init>") ∧ pQ m 0 = 0 ∧ 0 < pNb m) m := xallS (xallS (xallS (xallS (xallS (xallS (xallS (xallS (xallS (xallS (xallS (xallS (xallS (xallS (xallS (xallS (xallS (xallS (kna_264) (kn264)) (kn265)) (kn266)) (kn267)) (kn268)) (kn269)) (kn270)) (kn271)) (kn272)) (kn273)) (kn274)) (kn275)) (kn276)) (kn277)) (kn278)) (kn279)) (kn280)) (kn281)
def pO (m : Nat) : xO := (pft, pK m, pQ m, pNb m, (pM m).2.2, pKd, pIn m)
set_option maxRecDepth 100000 in
theorem ko0 : (List.range (pNb 0)).all (fun t => xbk (pO 0) (pZ 0) (pQ 0 t) ((pM 0).1 t)) = true := kb0
set_option maxRecDepth 100000 in
theorem ko1 : (List.range (pNb 1)).all (fun t => xbk (pO 1) (pZ 1) (pQ 1 t) ((pM 1).1 t)) = true := kb1
set_option maxRecDepth 100000 in
theorem ko2 : (List.range (pNb 2)).all (fun t => xbk (pO 2) (pZ 2) (pQ 2 t) ((pM 2).1 t)) = true := kb2
set_option maxRecDepth 100000 in
theorem ko3 : (List.range (pNb 3)).all (fun t => xbk (pO 3) (pZ 3) (pQ 3 t) ((pM 3).1 t)) = true := kb3
set_option maxRecDepth 100000 in
theorem ko4 : (List.range (pNb 4)).all (fun t => xbk (pO 4) (pZ 4) (pQ 4 t) ((pM 4).1 t)) = true := kb4
set_option maxRecDepth 100000 in
theorem ko5 : (List.range (pNb 5)).all (fun t => xbk (pO 5) (pZ 5) (pQ 5 t) ((pM 5).1 t)) = true := kb5
set_option maxRecDepth 100000 in
theorem ko6 : (List.range (pNb 6)).all (fun t => xbk (pO 6) (pZ 6) (pQ 6 t) ((pM 6).1 t)) = true := kb6
set_option maxRecDepth 100000 in
theorem ko7 : (List.range (pNb 7)).all (fun t => xbk (pO 7) (pZ 7) (pQ 7 t) ((pM 7).1 t)) = true := kb7
set_option maxRecDepth 100000 in
theorem ko8 : (List.range (pNb 8)).all (fun t => xbk (pO 8) (pZ 8) (pQ 8 t) ((pM 8).1 t)) = true := kb8
set_option maxRecDepth 100000 in
theorem ko9 : (List.range (pNb 9)).all (fun t => xbk (pO 9) (pZ 9) (pQ 9 t) ((pM 9).1 t)) = true := kb9
set_option maxRecDepth 100000 in
theorem ko10 : (List.range (pNb 10)).all (fun t => xbk (pO 10) (pZ 10) (pQ 10 t) ((pM 10).1 t)) = true := kb10
set_option maxRecDepth 100000 in
theorem ko11 : (List.range (pNb 11)).all (fun t => xbk (pO 11) (pZ 11) (pQ 11 t) ((pM 11).1 t)) = true := kb11
set_option maxRecDepth 100000 in
theorem ko12 : (List.range (pNb 12)).all (fun t => xbk (pO 12) (pZ 12) (pQ 12 t) ((pM 12).1 t)) = true := kb12
set_option maxRecDepth 100000 in
theorem ko13 : (List.range (pNb 13)).all (fun t => xbk (pO 13) (pZ 13) (pQ 13 t) ((pM 13).1 t)) = true := kb13
set_option maxRecDepth 100000 in
theorem ko14 : (List.range (pNb 14)).all (fun t => xbk (pO 14) (pZ 14) (pQ 14 t) ((pM 14).1 t)) = true := kb14
set_option maxRecDepth 100000 in
theorem ko15 : (List.range (pNb 15)).all (fun t => xbk (pO 15) (pZ 15) (pQ 15 t) ((pM 15).1 t)) = true := kb15
set_option maxRecDepth 100000 in
theorem ko16 : (List.range (pNb 16)).all (fun t => xbk (pO 16) (pZ 16) (pQ 16 t) ((pM 16).1 t)) = true := kb16
set_option maxRecDepth 100000 in
theorem ko17 : (List.range (pNb 17)).all (fun t => xbk (pO 17) (pZ 17) (pQ 17 t) ((pM 17).1 t)) = true := kb17
set_option maxRecDepth 100000 in
theorem ko18 : (List.range (pNb 18)).all (fun t => xbk (pO 18) (pZ 18) (pQ 18 t) ((pM 18).1 t)) = true := kb18
set_option maxRecDepth 100000 in
theorem ko19 : (List.range (pNb 19)).all (fun t => xbk (pO 19) (pZ 19) (pQ 19 t) ((pM 19).1 t)) = true := kb19
set_option maxRecDepth 100000 in
theorem ko20 : (List.range (pNb 20)).all (fun t => xbk (pO 20) (pZ 20) (pQ 20 t) ((pM 20).1 t)) = true := kb20
set_option maxRecDepth 100000 in
theorem ko21 : (List.range (pNb 21)).all (fun t => xbk (pO 21) (pZ 21) (pQ 21 t) ((pM 21).1 t)) = true := kb21
set_option maxRecDepth 100000 in
theorem ko22 : (List.range (pNb 22)).all (fun t => xbk (pO 22) (pZ 22) (pQ 22 t) ((pM 22).1 t)) = true := kb22
set_option maxRecDepth 100000 in
theorem ko23 : (List.range (pNb 23)).all (fun t => xbk (pO 23) (pZ 23) (pQ 23 t) ((pM 23).1 t)) = true := kb23
set_option maxRecDepth 100000 in
theorem ko24 : (List.range (pNb 24)).all (fun t => xbk (pO 24) (pZ 24) (pQ 24 t) ((pM 24).1 t)) = true := kb24
set_option maxRecDepth 100000 in
theorem ko25 : (List.range (pNb 25)).all (fun t => xbk (pO 25) (pZ 25) (pQ 25 t) ((pM 25).1 t)) = true := kb25
set_option maxRecDepth 100000 in
theorem ko26 : (List.range (pNb 26)).all (fun t => xbk (pO 26) (pZ 26) (pQ 26 t) ((pM 26).1 t)) = true := kb26
set_option maxRecDepth 100000 in
theorem ko27 : (List.range (pNb 27)).all (fun t => xbk (pO 27) (pZ 27) (pQ 27 t) ((pM 27).1 t)) = true := kb27
set_option maxRecDepth 100000 in
theorem ko28 : (List.range (pNb 28)).all (fun t => xbk (pO 28) (pZ 28) (pQ 28 t) ((pM 28).1 t)) = true := kb28
set_option maxRecDepth 100000 in
theorem ko29 : (List.range (pNb 29)).all (fun t => xbk (pO 29) (pZ 29) (pQ 29 t) ((pM 29).1 t)) = true := kb29
set_option maxRecDepth 100000 in
theorem ko30 : (List.range (pNb 30)).all (fun t => xbk (pO 30) (pZ 30) (pQ 30 t) ((pM 30).1 t)) = true := kb30
set_option maxRecDepth 100000 in
theorem ko31 : (List.range (pNb 31)).all (fun t => xbk (pO 31) (pZ 31) (pQ 31 t) ((pM 31).1 t)) = true := kb31
set_option maxRecDepth 100000 in
theorem ko32 : (List.range (pNb 32)).all (fun t => xbk (pO 32) (pZ 32) (pQ 32 t) ((pM 32).1 t)) = true := kb32
set_option maxRecDepth 100000 in
theorem ko33 : (List.range (pNb 33)).all (fun t => xbk (pO 33) (pZ 33) (pQ 33 t) ((pM 33).1 t)) = true := kb33
set_option maxRecDepth 100000 in
theorem ko34 : (List.range (pNb 34)).all (fun t => xbk (pO 34) (pZ 34) (pQ 34 t) ((pM 34).1 t)) = true := kb34
set_option maxRecDepth 100000 in
theorem ko35 : (List.range (pNb 35)).all (fun t => xbk (pO 35) (pZ 35) (pQ 35 t) ((pM 35).1 t)) = true := kb35
set_option maxRecDepth 100000 in
theorem ko36 : (List.range (pNb 36)).all (fun t => xbk (pO 36) (pZ 36) (pQ 36 t) ((pM 36).1 t)) = true := kb36
set_option maxRecDepth 100000 in
theorem ko37 : (List.range (pNb 37)).all (fun t => xbk (pO 37) (pZ 37) (pQ 37 t) ((pM 37).1 t)) = true := kb37
set_option maxRecDepth 100000 in
theorem ko38 : (List.range (pNb 38)).all (fun t => xbk (pO 38) (pZ 38) (pQ 38 t) ((pM 38).1 t)) = true := kb38
set_option maxRecDepth 100000 in
theorem ko39 : (List.range (pNb 39)).all (fun t => xbk (pO 39) (pZ 39) (pQ 39 t) ((pM 39).1 t)) = true := kb39
set_option maxRecDepth 100000 in
theorem ko40 : (List.range (pNb 40)).all (fun t => xbk (pO 40) (pZ 40) (pQ 40 t) ((pM 40).1 t)) = true := kb40
set_option maxRecDepth 100000 in
theorem ko41 : (List.range (pNb 41)).all (fun t => xbk (pO 41) (pZ 41) (pQ 41 t) ((pM 41).1 t)) = true := kb41
set_option maxRecDepth 100000 in
theorem ko42 : (List.range (pNb 42)).all (fun t => xbk (pO 42) (pZ 42) (pQ 42 t) ((pM 42).1 t)) = true := kb42
set_option maxRecDepth 100000 in
theorem ko43 : (List.range (pNb 43)).all (fun t => xbk (pO 43) (pZ 43) (pQ 43 t) ((pM 43).1 t)) = true := kb43
set_option maxRecDepth 100000 in
theorem ko44 : (List.range (pNb 44)).all (fun t => xbk (pO 44) (pZ 44) (pQ 44 t) ((pM 44).1 t)) = true := kb44
set_option maxRecDepth 100000 in
theorem ko45 : (List.range (pNb 45)).all (fun t => xbk (pO 45) (pZ 45) (pQ 45 t) ((pM 45).1 t)) = true := kb45
set_option maxRecDepth 100000 in
theorem ko46 : (List.range (pNb 46)).all (fun t => xbk (pO 46) (pZ 46) (pQ 46 t) ((pM 46).1 t)) = true := kb46
set_option maxRecDepth 100000 in
theorem ko47 : (List.range (pNb 47)).all (fun t => xbk (pO 47) (pZ 47) (pQ 47 t) ((pM 47).1 t)) = true := kb47
set_option maxRecDepth 100000 in
theorem ko48 : (List.range (pNb 48)).all (fun t => xbk (pO 48) (pZ 48) (pQ 48 t) ((pM 48).1 t)) = true := kb48
set_option maxRecDepth 100000 in
theorem ko49 : (List.range (pNb 49)).all (fun t => xbk (pO 49) (pZ 49) (pQ 49 t) ((pM 49).1 t)) = true := kb49
set_option maxRecDepth 100000 in
theorem ko50 : (List.range (pNb 50)).all (fun t => xbk (pO 50) (pZ 50) (pQ 50 t) ((pM 50).1 t)) = true := kb50
set_option maxRecDepth 100000 in
theorem ko51 : (List.range (pNb 51)).all (fun t => xbk (pO 51) (pZ 51) (pQ 51 t) ((pM 51).1 t)) = true := kb51
set_option maxRecDepth 100000 in
theorem ko52 : (List.range (pNb 52)).all (fun t => xbk (pO 52) (pZ 52) (pQ 52 t) ((pM 52).1 t)) = true := kb52
set_option maxRecDepth 100000 in
theorem ko53 : (List.range (pNb 53)).all (fun t => xbk (pO 53) (pZ 53) (pQ 53 t) ((pM 53).1 t)) = true := kb53
set_option maxRecDepth 100000 in
theorem ko54 : (List.range (pNb 54)).all (fun t => xbk (pO 54) (pZ 54) (pQ 54 t) ((pM 54).1 t)) = true := kb54
set_option maxRecDepth 100000 in
theorem ko55 : (List.range (pNb 55)).all (fun t => xbk (pO 55) (pZ 55) (pQ 55 t) ((pM 55).1 t)) = true := kb55
set_option maxRecDepth 100000 in
theorem ko56 : (List.range (pNb 56)).all (fun t => xbk (pO 56) (pZ 56) (pQ 56 t) ((pM 56).1 t)) = true := kb56
set_option maxRecDepth 100000 in
theorem ko57 : (List.range (pNb 57)).all (fun t => xbk (pO 57) (pZ 57) (pQ 57 t) ((pM 57).1 t)) = true := kb57
set_option maxRecDepth 100000 in
theorem ko58 : (List.range (pNb 58)).all (fun t => xbk (pO 58) (pZ 58) (pQ 58 t) ((pM 58).1 t)) = true := kb58
set_option maxRecDepth 100000 in
theorem ko59 : (List.range (pNb 59)).all (fun t => xbk (pO 59) (pZ 59) (pQ 59 t) ((pM 59).1 t)) = true := kb59
set_option maxRecDepth 100000 in
theorem ko60 : (List.range (pNb 60)).all (fun t => xbk (pO 60) (pZ 60) (pQ 60 t) ((pM 60).1 t)) = true := kb60
set_option maxRecDepth 100000 in
theorem ko61 : (List.range (pNb 61)).all (fun t => xbk (pO 61) (pZ 61) (pQ 61 t) ((pM 61).1 t)) = true := kb61
set_option maxRecDepth 100000 in
theorem ko62 : (List.range (pNb 62)).all (fun t => xbk (pO 62) (pZ 62) (pQ 62 t) ((pM 62).1 t)) = true := kb62
set_option maxRecDepth 100000 in
theorem ko63 : (List.range (pNb 63)).all (fun t => xbk (pO 63) (pZ 63) (pQ 63 t) ((pM 63).1 t)) = true := kb63
set_option maxRecDepth 100000 in
theorem ko64 : (List.range (pNb 64)).all (fun t => xbk (pO 64) (pZ 64) (pQ 64 t) ((pM 64).1 t)) = true := kb64
set_option maxRecDepth 100000 in
theorem ko65 : (List.range (pNb 65)).all (fun t => xbk (pO 65) (pZ 65) (pQ 65 t) ((pM 65).1 t)) = true := kb65
set_option maxRecDepth 100000 in
theorem ko66 : (List.range (pNb 66)).all (fun t => xbk (pO 66) (pZ 66) (pQ 66 t) ((pM 66).1 t)) = true := kb66
set_option maxRecDepth 100000 in
theorem ko67 : (List.range (pNb 67)).all (fun t => xbk (pO 67) (pZ 67) (pQ 67 t) ((pM 67).1 t)) = true := kb67
set_option maxRecDepth 100000 in
theorem ko68 : (List.range (pNb 68)).all (fun t => xbk (pO 68) (pZ 68) (pQ 68 t) ((pM 68).1 t)) = true := kb68
set_option maxRecDepth 100000 in
theorem ko69 : (List.range (pNb 69)).all (fun t => xbk (pO 69) (pZ 69) (pQ 69 t) ((pM 69).1 t)) = true := kb69
set_option maxRecDepth 100000 in
theorem ko70 : (List.range (pNb 70)).all (fun t => xbk (pO 70) (pZ 70) (pQ 70 t) ((pM 70).1 t)) = true := kb70
set_option maxRecDepth 100000 in
theorem ko71 : (List.range (pNb 71)).all (fun t => xbk (pO 71) (pZ 71) (pQ 71 t) ((pM 71).1 t)) = true := kb71
set_option maxRecDepth 100000 in
theorem ko72 : (List.range (pNb 72)).all (fun t => xbk (pO 72) (pZ 72) (pQ 72 t) ((pM 72).1 t)) = true := kb72
set_option maxRecDepth 100000 in
theorem ko73 : (List.range (pNb 73)).all (fun t => xbk (pO 73) (pZ 73) (pQ 73 t) ((pM 73).1 t)) = true := kb73
set_option maxRecDepth 100000 in
theorem ko74 : (List.range (pNb 74)).all (fun t => xbk (pO 74) (pZ 74) (pQ 74 t) ((pM 74).1 t)) = true := kb74
set_option maxRecDepth 100000 in
theorem ko75 : (List.range (pNb 75)).all (fun t => xbk (pO 75) (pZ 75) (pQ 75 t) ((pM 75).1 t)) = true := kb75
set_option maxRecDepth 100000 in
theorem ko76 : (List.range (pNb 76)).all (fun t => xbk (pO 76) (pZ 76) (pQ 76 t) ((pM 76).1 t)) = true := kb76
set_option maxRecDepth 100000 in
theorem ko77 : (List.range (pNb 77)).all (fun t => xbk (pO 77) (pZ 77) (pQ 77 t) ((pM 77).1 t)) = true := kb77
set_option maxRecDepth 100000 in
theorem ko78 : (List.range (pNb 78)).all (fun t => xbk (pO 78) (pZ 78) (pQ 78 t) ((pM 78).1 t)) = true := kb78
set_option maxRecDepth 100000 in
theorem ko79 : (List.range (pNb 79)).all (fun t => xbk (pO 79) (pZ 79) (pQ 79 t) ((pM 79).1 t)) = true := kb79
set_option maxRecDepth 100000 in
theorem ko80 : (List.range (pNb 80)).all (fun t => xbk (pO 80) (pZ 80) (pQ 80 t) ((pM 80).1 t)) = true := kb80
set_option maxRecDepth 100000 in
theorem ko81 : (List.range (pNb 81)).all (fun t => xbk (pO 81) (pZ 81) (pQ 81 t) ((pM 81).1 t)) = true := kb81
set_option maxRecDepth 100000 in
theorem ko82 : (List.range (pNb 82)).all (fun t => xbk (pO 82) (pZ 82) (pQ 82 t) ((pM 82).1 t)) = true := kb82
set_option maxRecDepth 100000 in
theorem ko83 : (List.range (pNb 83)).all (fun t => xbk (pO 83) (pZ 83) (pQ 83 t) ((pM 83).1 t)) = true := kb83
set_option maxRecDepth 100000 in
theorem ko84 : (List.range (pNb 84)).all (fun t => xbk (pO 84) (pZ 84) (pQ 84 t) ((pM 84).1 t)) = true := kb84
set_option maxRecDepth 100000 in
theorem ko85 : (List.range (pNb 85)).all (fun t => xbk (pO 85) (pZ 85) (pQ 85 t) ((pM 85).1 t)) = true := kb85
set_option maxRecDepth 100000 in
theorem ko86 : (List.range (pNb 86)).all (fun t => xbk (pO 86) (pZ 86) (pQ 86 t) ((pM 86).1 t)) = true := kb86
set_option maxRecDepth 100000 in
theorem ko87 : (List.range (pNb 87)).all (fun t => xbk (pO 87) (pZ 87) (pQ 87 t) ((pM 87).1 t)) = true := kb87
set_option maxRecDepth 100000 in
theorem ko88 : (List.range (pNb 88)).all (fun t => xbk (pO 88) (pZ 88) (pQ 88 t) ((pM 88).1 t)) = true := kb88
set_option maxRecDepth 100000 in
theorem ko89 : (List.range (pNb 89)).all (fun t => xbk (pO 89) (pZ 89) (pQ 89 t) ((pM 89).1 t)) = true := kb89
set_option maxRecDepth 100000 in
theorem ko90 : (List.range (pNb 90)).all (fun t => xbk (pO 90) (pZ 90) (pQ 90 t) ((pM 90).1 t)) = true := kb90
set_option maxRecDepth 100000 in
theorem ko91 : (List.range (pNb 91)).all (fun t => xbk (pO 91) (pZ 91) (pQ 91 t) ((pM 91).1 t)) = true := kb91
set_option maxRecDepth 100000 in
theorem ko92 : (List.range (pNb 92)).all (fun t => xbk (pO 92) (pZ 92) (pQ 92 t) ((pM 92).1 t)) = true := kb92
set_option maxRecDepth 100000 in
theorem ko93 : (List.range (pNb 93)).all (fun t => xbk (pO 93) (pZ 93) (pQ 93 t) ((pM 93).1 t)) = true := kb93
set_option maxRecDepth 100000 in
theorem ko94 : (List.range (pNb 94)).all (fun t => xbk (pO 94) (pZ 94) (pQ 94 t) ((pM 94).1 t)) = true := kb94
set_option maxRecDepth 100000 in
theorem ko95 : (List.range (pNb 95)).all (fun t => xbk (pO 95) (pZ 95) (pQ 95 t) ((pM 95).1 t)) = true := kb95
set_option maxRecDepth 100000 in
theorem ko96 : (List.range (pNb 96)).all (fun t => xbk (pO 96) (pZ 96) (pQ 96 t) ((pM 96).1 t)) = true := kb96
set_option maxRecDepth 100000 in
theorem ko97 : (List.range (pNb 97)).all (fun t => xbk (pO 97) (pZ 97) (pQ 97 t) ((pM 97).1 t)) = true := kb97
set_option maxRecDepth 100000 in
theorem ko98 : (List.range (pNb 98)).all (fun t => xbk (pO 98) (pZ 98) (pQ 98 t) ((pM 98).1 t)) = true := kb98
set_option maxRecDepth 100000 in
theorem ko99 : (List.range (pNb 99)).all (fun t => xbk (pO 99) (pZ 99) (pQ 99 t) ((pM 99).1 t)) = true := kb99
set_option maxRecDepth 100000 in
theorem ko100 : (List.range (pNb 100)).all (fun t => xbk (pO 100) (pZ 100) (pQ 100 t) ((pM 100).1 t)) = true := kb100
set_option maxRecDepth 100000 in
theorem ko101 : (List.range (pNb 101)).all (fun t => xbk (pO 101) (pZ 101) (pQ 101 t) ((pM 101).1 t)) = true := kb101
set_option maxRecDepth 100000 in
theorem ko102 : (List.range (pNb 102)).all (fun t => xbk (pO 102) (pZ 102) (pQ 102 t) ((pM 102).1 t)) = true := kb102
set_option maxRecDepth 100000 in
theorem ko103 : (List.range (pNb 103)).all (fun t => xbk (pO 103) (pZ 103) (pQ 103 t) ((pM 103).1 t)) = true := kb103
set_option maxRecDepth 100000 in
theorem ko104 : (List.range (pNb 104)).all (fun t => xbk (pO 104) (pZ 104) (pQ 104 t) ((pM 104).1 t)) = true := kb104
set_option maxRecDepth 100000 in
theorem ko105 : (List.range (pNb 105)).all (fun t => xbk (pO 105) (pZ 105) (pQ 105 t) ((pM 105).1 t)) = true := kb105
set_option maxRecDepth 100000 in
theorem ko106 : (List.range (pNb 106)).all (fun t => xbk (pO 106) (pZ 106) (pQ 106 t) ((pM 106).1 t)) = true := kb106
set_option maxRecDepth 100000 in
theorem ko107 : (List.range (pNb 107)).all (fun t => xbk (pO 107) (pZ 107) (pQ 107 t) ((pM 107).1 t)) = true := kb107
set_option maxRecDepth 100000 in
theorem ko108 : (List.range (pNb 108)).all (fun t => xbk (pO 108) (pZ 108) (pQ 108 t) ((pM 108).1 t)) = true := kb108
set_option maxRecDepth 100000 in
theorem ko109 : (List.range (pNb 109)).all (fun t => xbk (pO 109) (pZ 109) (pQ 109 t) ((pM 109).1 t)) = true := kb109
set_option maxRecDepth 100000 in
theorem ko110 : (List.range (pNb 110)).all (fun t => xbk (pO 110) (pZ 110) (pQ 110 t) ((pM 110).1 t)) = true := kb110
set_option maxRecDepth 100000 in
theorem ko111 : (List.range (pNb 111)).all (fun t => xbk (pO 111) (pZ 111) (pQ 111 t) ((pM 111).1 t)) = true := kb111
set_option maxRecDepth 100000 in
theorem ko112 : (List.range (pNb 112)).all (fun t => xbk (pO 112) (pZ 112) (pQ 112 t) ((pM 112).1 t)) = true := kb112
set_option maxRecDepth 100000 in
theorem ko113 : (List.range (pNb 113)).all (fun t => xbk (pO 113) (pZ 113) (pQ 113 t) ((pM 113).1 t)) = true := kb113
set_option maxRecDepth 100000 in
theorem ko114 : (List.range (pNb 114)).all (fun t => xbk (pO 114) (pZ 114) (pQ 114 t) ((pM 114).1 t)) = true := kb114
set_option maxRecDepth 100000 in
theorem ko115 : (List.range (pNb 115)).all (fun t => xbk (pO 115) (pZ 115) (pQ 115 t) ((pM 115).1 t)) = true := kb115
set_option maxRecDepth 100000 in
theorem ko116 : (List.range (pNb 116)).all (fun t => xbk (pO 116) (pZ 116) (pQ 116 t) ((pM 116).1 t)) = true := kb116
set_option maxRecDepth 100000 in
theorem ko117 : (List.range (pNb 117)).all (fun t => xbk (pO 117) (pZ 117) (pQ 117 t) ((pM 117).1 t)) = true := kb117
set_option maxRecDepth 100000 in
theorem ko118 : (List.range (pNb 118)).all (fun t => xbk (pO 118) (pZ 118) (pQ 118 t) ((pM 118).1 t)) = true := kb118
set_option maxRecDepth 100000 in
theorem ko119 : (List.range (pNb 119)).all (fun t => xbk (pO 119) (pZ 119) (pQ 119 t) ((pM 119).1 t)) = true := kb119
set_option maxRecDepth 100000 in
theorem ko120 : (List.range (pNb 120)).all (fun t => xbk (pO 120) (pZ 120) (pQ 120 t) ((pM 120).1 t)) = true := kb120
set_option maxRecDepth 100000 in
theorem ko121 : (List.range (pNb 121)).all (fun t => xbk (pO 121) (pZ 121) (pQ 121 t) ((pM 121).1 t)) = true := kb121
set_option maxRecDepth 100000 in
theorem ko122 : (List.range (pNb 122)).all (fun t => xbk (pO 122) (pZ 122) (pQ 122 t) ((pM 122).1 t)) = true := kb122
set_option maxRecDepth 100000 in
theorem ko123 : (List.range (pNb 123)).all (fun t => xbk (pO 123) (pZ 123) (pQ 123 t) ((pM 123).1 t)) = true := kb123
set_option maxRecDepth 100000 in
theorem ko124 : (List.range (pNb 124)).all (fun t => xbk (pO 124) (pZ 124) (pQ 124 t) ((pM 124).1 t)) = true := kb124
set_option maxRecDepth 100000 in
theorem ko125 : (List.range (pNb 125)).all (fun t => xbk (pO 125) (pZ 125) (pQ 125 t) ((pM 125).1 t)) = true := kb125
set_option maxRecDepth 100000 in
theorem ko126 : (List.range (pNb 126)).all (fun t => xbk (pO 126) (pZ 126) (pQ 126 t) ((pM 126).1 t)) = true := kb126
set_option maxRecDepth 100000 in
theorem ko127 : (List.range (pNb 127)).all (fun t => xbk (pO 127) (pZ 127) (pQ 127 t) ((pM 127).1 t)) = true := kb127
set_option maxRecDepth 100000 in
theorem ko128 : (List.range (pNb 128)).all (fun t => xbk (pO 128) (pZ 128) (pQ 128 t) ((pM 128).1 t)) = true := kb128
set_option maxRecDepth 100000 in
theorem ko129 : (List.range (pNb 129)).all (fun t => xbk (pO 129) (pZ 129) (pQ 129 t) ((pM 129).1 t)) = true := kb129
set_option maxRecDepth 100000 in
theorem ko130 : (List.range (pNb 130)).all (fun t => xbk (pO 130) (pZ 130) (pQ 130 t) ((pM 130).1 t)) = true := kb130
set_option maxRecDepth 100000 in
theorem ko131 : (List.range (pNb 131)).all (fun t => xbk (pO 131) (pZ 131) (pQ 131 t) ((pM 131).1 t)) = true := kb131
set_option maxRecDepth 100000 in
theorem ko132 : (List.range (pNb 132)).all (fun t => xbk (pO 132) (pZ 132) (pQ 132 t) ((pM 132).1 t)) = true := kb132
set_option maxRecDepth 100000 in
theorem ko133 : (List.range (pNb 133)).all (fun t => xbk (pO 133) (pZ 133) (pQ 133 t) ((pM 133).1 t)) = true := kb133
set_option maxRecDepth 100000 in
theorem ko134 : (List.range (pNb 134)).all (fun t => xbk (pO 134) (pZ 134) (pQ 134 t) ((pM 134).1 t)) = true := kb134
set_option maxRecDepth 100000 in
theorem ko135 : (List.range (pNb 135)).all (fun t => xbk (pO 135) (pZ 135) (pQ 135 t) ((pM 135).1 t)) = true := kb135
set_option maxRecDepth 100000 in
theorem ko136 : (List.range (pNb 136)).all (fun t => xbk (pO 136) (pZ 136) (pQ 136 t) ((pM 136).1 t)) = true := kb136
set_option maxRecDepth 100000 in
theorem ko137 : (List.range (pNb 137)).all (fun t => xbk (pO 137) (pZ 137) (pQ 137 t) ((pM 137).1 t)) = true := kb137
set_option maxRecDepth 100000 in
theorem ko138 : (List.range (pNb 138)).all (fun t => xbk (pO 138) (pZ 138) (pQ 138 t) ((pM 138).1 t)) = true := kb138
set_option maxRecDepth 100000 in
theorem ko139 : (List.range (pNb 139)).all (fun t => xbk (pO 139) (pZ 139) (pQ 139 t) ((pM 139).1 t)) = true := kb139
set_option maxRecDepth 100000 in
theorem ko140 : (List.range (pNb 140)).all (fun t => xbk (pO 140) (pZ 140) (pQ 140 t) ((pM 140).1 t)) = true := kb140
set_option maxRecDepth 100000 in
theorem ko141 : (List.range (pNb 141)).all (fun t => xbk (pO 141) (pZ 141) (pQ 141 t) ((pM 141).1 t)) = true := kb141
set_option maxRecDepth 100000 in
theorem ko142 : (List.range (pNb 142)).all (fun t => xbk (pO 142) (pZ 142) (pQ 142 t) ((pM 142).1 t)) = true := kb142
set_option maxRecDepth 100000 in
theorem ko143 : (List.range (pNb 143)).all (fun t => xbk (pO 143) (pZ 143) (pQ 143 t) ((pM 143).1 t)) = true := kb143
set_option maxRecDepth 100000 in
theorem ko144 : (List.range (pNb 144)).all (fun t => xbk (pO 144) (pZ 144) (pQ 144 t) ((pM 144).1 t)) = true := kb144
set_option maxRecDepth 100000 in
theorem ko145 : (List.range (pNb 145)).all (fun t => xbk (pO 145) (pZ 145) (pQ 145 t) ((pM 145).1 t)) = true := kb145
set_option maxRecDepth 100000 in
theorem ko146 : (List.range (pNb 146)).all (fun t => xbk (pO 146) (pZ 146) (pQ 146 t) ((pM 146).1 t)) = true := kb146
set_option maxRecDepth 100000 in
theorem ko147 : (List.range (pNb 147)).all (fun t => xbk (pO 147) (pZ 147) (pQ 147 t) ((pM 147).1 t)) = true := kb147
set_option maxRecDepth 100000 in
theorem ko148 : (List.range (pNb 148)).all (fun t => xbk (pO 148) (pZ 148) (pQ 148 t) ((pM 148).1 t)) = true := kb148
set_option maxRecDepth 100000 in
theorem ko149 : (List.range (pNb 149)).all (fun t => xbk (pO 149) (pZ 149) (pQ 149 t) ((pM 149).1 t)) = true := kb149
set_option maxRecDepth 100000 in
theorem ko150 : (List.range (pNb 150)).all (fun t => xbk (pO 150) (pZ 150) (pQ 150 t) ((pM 150).1 t)) = true := kb150
set_option maxRecDepth 100000 in
theorem ko151 : (List.range (pNb 151)).all (fun t => xbk (pO 151) (pZ 151) (pQ 151 t) ((pM 151).1 t)) = true := kb151
set_option maxRecDepth 100000 in
theorem ko152 : (List.range (pNb 152)).all (fun t => xbk (pO 152) (pZ 152) (pQ 152 t) ((pM 152).1 t)) = true := kb152
set_option maxRecDepth 100000 in
theorem ko153 : (List.range (pNb 153)).all (fun t => xbk (pO 153) (pZ 153) (pQ 153 t) ((pM 153).1 t)) = true := kb153
set_option maxRecDepth 100000 in
theorem ko154 : (List.range (pNb 154)).all (fun t => xbk (pO 154) (pZ 154) (pQ 154 t) ((pM 154).1 t)) = true := kb154
set_option maxRecDepth 100000 in
theorem ko155 : (List.range (pNb 155)).all (fun t => xbk (pO 155) (pZ 155) (pQ 155 t) ((pM 155).1 t)) = true := kb155
set_option maxRecDepth 100000 in
theorem ko156 : (List.range (pNb 156)).all (fun t => xbk (pO 156) (pZ 156) (pQ 156 t) ((pM 156).1 t)) = true := kb156
set_option maxRecDepth 100000 in
theorem ko157 : (List.range (pNb 157)).all (fun t => xbk (pO 157) (pZ 157) (pQ 157 t) ((pM 157).1 t)) = true := kb157
set_option maxRecDepth 100000 in
theorem ko158 : (List.range (pNb 158)).all (fun t => xbk (pO 158) (pZ 158) (pQ 158 t) ((pM 158).1 t)) = true := kb158
set_option maxRecDepth 100000 in
theorem ko159 : (List.range (pNb 159)).all (fun t => xbk (pO 159) (pZ 159) (pQ 159 t) ((pM 159).1 t)) = true := kb159
set_option maxRecDepth 100000 in
theorem ko160 : (List.range (pNb 160)).all (fun t => xbk (pO 160) (pZ 160) (pQ 160 t) ((pM 160).1 t)) = true := kb160
set_option maxRecDepth 100000 in
theorem ko161 : (List.range (pNb 161)).all (fun t => xbk (pO 161) (pZ 161) (pQ 161 t) ((pM 161).1 t)) = true := kb161
set_option maxRecDepth 100000 in
theorem ko162 : (List.range (pNb 162)).all (fun t => xbk (pO 162) (pZ 162) (pQ 162 t) ((pM 162).1 t)) = true := kb162
set_option maxRecDepth 100000 in
theorem ko163 : (List.range (pNb 163)).all (fun t => xbk (pO 163) (pZ 163) (pQ 163 t) ((pM 163).1 t)) = true := kb163
set_option maxRecDepth 100000 in
theorem ko164 : (List.range (pNb 164)).all (fun t => xbk (pO 164) (pZ 164) (pQ 164 t) ((pM 164).1 t)) = true := kb164
set_option maxRecDepth 100000 in
theorem ko165 : (List.range (pNb 165)).all (fun t => xbk (pO 165) (pZ 165) (pQ 165 t) ((pM 165).1 t)) = true := kb165
set_option maxRecDepth 100000 in
theorem ko166 : (List.range (pNb 166)).all (fun t => xbk (pO 166) (pZ 166) (pQ 166 t) ((pM 166).1 t)) = true := kb166
set_option maxRecDepth 100000 in
theorem ko167 : (List.range (pNb 167)).all (fun t => xbk (pO 167) (pZ 167) (pQ 167 t) ((pM 167).1 t)) = true := kb167
set_option maxRecDepth 100000 in
theorem ko168 : (List.range (pNb 168)).all (fun t => xbk (pO 168) (pZ 168) (pQ 168 t) ((pM 168).1 t)) = true := kb168
set_option maxRecDepth 100000 in
theorem ko169 : (List.range (pNb 169)).all (fun t => xbk (pO 169) (pZ 169) (pQ 169 t) ((pM 169).1 t)) = true := kb169
set_option maxRecDepth 100000 in
theorem ko170 : (List.range (pNb 170)).all (fun t => xbk (pO 170) (pZ 170) (pQ 170 t) ((pM 170).1 t)) = true := kb170
set_option maxRecDepth 100000 in
theorem ko171 : (List.range (pNb 171)).all (fun t => xbk (pO 171) (pZ 171) (pQ 171 t) ((pM 171).1 t)) = true := kb171
set_option maxRecDepth 100000 in
theorem ko172 : (List.range (pNb 172)).all (fun t => xbk (pO 172) (pZ 172) (pQ 172 t) ((pM 172).1 t)) = true := kb172
set_option maxRecDepth 100000 in
theorem ko173 : (List.range (pNb 173)).all (fun t => xbk (pO 173) (pZ 173) (pQ 173 t) ((pM 173).1 t)) = true := kb173
set_option maxRecDepth 100000 in
theorem ko174 : (List.range (pNb 174)).all (fun t => xbk (pO 174) (pZ 174) (pQ 174 t) ((pM 174).1 t)) = true := kb174
set_option maxRecDepth 100000 in
theorem ko175 : (List.range (pNb 175)).all (fun t => xbk (pO 175) (pZ 175) (pQ 175 t) ((pM 175).1 t)) = true := kb175
set_option maxRecDepth 100000 in
theorem ko176 : (List.range (pNb 176)).all (fun t => xbk (pO 176) (pZ 176) (pQ 176 t) ((pM 176).1 t)) = true := kb176
set_option maxRecDepth 100000 in
theorem ko177 : (List.range (pNb 177)).all (fun t => xbk (pO 177) (pZ 177) (pQ 177 t) ((pM 177).1 t)) = true := kb177
set_option maxRecDepth 100000 in
theorem ko178 : (List.range (pNb 178)).all (fun t => xbk (pO 178) (pZ 178) (pQ 178 t) ((pM 178).1 t)) = true := kb178
set_option maxRecDepth 100000 in
theorem ko179 : (List.range (pNb 179)).all (fun t => xbk (pO 179) (pZ 179) (pQ 179 t) ((pM 179).1 t)) = true := kb179
set_option maxRecDepth 100000 in
theorem ko180 : (List.range (pNb 180)).all (fun t => xbk (pO 180) (pZ 180) (pQ 180 t) ((pM 180).1 t)) = true := kb180
set_option maxRecDepth 100000 in
theorem ko181 : (List.range (pNb 181)).all (fun t => xbk (pO 181) (pZ 181) (pQ 181 t) ((pM 181).1 t)) = true := kb181
set_option maxRecDepth 100000 in
theorem ko182 : (List.range (pNb 182)).all (fun t => xbk (pO 182) (pZ 182) (pQ 182 t) ((pM 182).1 t)) = true := kb182
set_option maxRecDepth 100000 in
theorem ko183 : (List.range (pNb 183)).all (fun t => xbk (pO 183) (pZ 183) (pQ 183 t) ((pM 183).1 t)) = true := kb183
set_option maxRecDepth 100000 in
theorem ko184 : (List.range (pNb 184)).all (fun t => xbk (pO 184) (pZ 184) (pQ 184 t) ((pM 184).1 t)) = true := kb184
set_option maxRecDepth 100000 in
theorem ko185 : (List.range (pNb 185)).all (fun t => xbk (pO 185) (pZ 185) (pQ 185 t) ((pM 185).1 t)) = true := kb185
set_option maxRecDepth 100000 in
theorem ko186 : (List.range (pNb 186)).all (fun t => xbk (pO 186) (pZ 186) (pQ 186 t) ((pM 186).1 t)) = true := kb186
set_option maxRecDepth 100000 in
theorem ko187 : (List.range (pNb 187)).all (fun t => xbk (pO 187) (pZ 187) (pQ 187 t) ((pM 187).1 t)) = true := kb187
set_option maxRecDepth 100000 in
theorem ko188 : (List.range (pNb 188)).all (fun t => xbk (pO 188) (pZ 188) (pQ 188 t) ((pM 188).1 t)) = true := kb188
set_option maxRecDepth 100000 in
theorem ko189 : (List.range (pNb 189)).all (fun t => xbk (pO 189) (pZ 189) (pQ 189 t) ((pM 189).1 t)) = true := kb189
set_option maxRecDepth 100000 in
theorem ko190 : (List.range (pNb 190)).all (fun t => xbk (pO 190) (pZ 190) (pQ 190 t) ((pM 190).1 t)) = true := kb190
set_option maxRecDepth 100000 in
theorem ko191 : (List.range (pNb 191)).all (fun t => xbk (pO 191) (pZ 191) (pQ 191 t) ((pM 191).1 t)) = true := kb191
set_option maxRecDepth 100000 in
theorem ko192 : (List.range (pNb 192)).all (fun t => xbk (pO 192) (pZ 192) (pQ 192 t) ((pM 192).1 t)) = true := kb192
set_option maxRecDepth 100000 in
theorem ko193 : (List.range (pNb 193)).all (fun t => xbk (pO 193) (pZ 193) (pQ 193 t) ((pM 193).1 t)) = true := kb193
set_option maxRecDepth 100000 in
theorem ko194 : (List.range (pNb 194)).all (fun t => xbk (pO 194) (pZ 194) (pQ 194 t) ((pM 194).1 t)) = true := kb194
set_option maxRecDepth 100000 in
theorem ko195 : (List.range (pNb 195)).all (fun t => xbk (pO 195) (pZ 195) (pQ 195 t) ((pM 195).1 t)) = true := kb195
set_option maxRecDepth 100000 in
theorem ko196 : (List.range (pNb 196)).all (fun t => xbk (pO 196) (pZ 196) (pQ 196 t) ((pM 196).1 t)) = true := kb196
set_option maxRecDepth 100000 in
theorem ko197 : (List.range (pNb 197)).all (fun t => xbk (pO 197) (pZ 197) (pQ 197 t) ((pM 197).1 t)) = true := kb197
set_option maxRecDepth 100000 in
theorem ko198 : (List.range (pNb 198)).all (fun t => xbk (pO 198) (pZ 198) (pQ 198 t) ((pM 198).1 t)) = true := kb198
set_option maxRecDepth 100000 in
theorem ko199 : (List.range (pNb 199)).all (fun t => xbk (pO 199) (pZ 199) (pQ 199 t) ((pM 199).1 t)) = true := kb199
set_option maxRecDepth 100000 in
theorem ko200 : (List.range (pNb 200)).all (fun t => xbk (pO 200) (pZ 200) (pQ 200 t) ((pM 200).1 t)) = true := kb200
set_option maxRecDepth 100000 in
theorem ko201 : (List.range (pNb 201)).all (fun t => xbk (pO 201) (pZ 201) (pQ 201 t) ((pM 201).1 t)) = true := kb201
set_option maxRecDepth 100000 in
theorem ko202 : (List.range (pNb 202)).all (fun t => xbk (pO 202) (pZ 202) (pQ 202 t) ((pM 202).1 t)) = true := kb202
set_option maxRecDepth 100000 in
theorem ko203 : (List.range (pNb 203)).all (fun t => xbk (pO 203) (pZ 203) (pQ 203 t) ((pM 203).1 t)) = true := kb203
set_option maxRecDepth 100000 in
theorem ko204 : (List.range (pNb 204)).all (fun t => xbk (pO 204) (pZ 204) (pQ 204 t) ((pM 204).1 t)) = true := kb204
set_option maxRecDepth 100000 in
theorem ko205 : (List.range (pNb 205)).all (fun t => xbk (pO 205) (pZ 205) (pQ 205 t) ((pM 205).1 t)) = true := kb205
set_option maxRecDepth 100000 in
theorem ko206 : (List.range (pNb 206)).all (fun t => xbk (pO 206) (pZ 206) (pQ 206 t) ((pM 206).1 t)) = true := kb206
set_option maxRecDepth 100000 in
theorem ko207 : (List.range (pNb 207)).all (fun t => xbk (pO 207) (pZ 207) (pQ 207 t) ((pM 207).1 t)) = true := kb207
set_option maxRecDepth 100000 in
theorem ko208 : (List.range (pNb 208)).all (fun t => xbk (pO 208) (pZ 208) (pQ 208 t) ((pM 208).1 t)) = true := kb208
set_option maxRecDepth 100000 in
theorem ko209 : (List.range (pNb 209)).all (fun t => xbk (pO 209) (pZ 209) (pQ 209 t) ((pM 209).1 t)) = true := kb209
set_option maxRecDepth 100000 in
theorem ko210 : (List.range (pNb 210)).all (fun t => xbk (pO 210) (pZ 210) (pQ 210 t) ((pM 210).1 t)) = true := kb210
set_option maxRecDepth 100000 in
theorem ko211 : (List.range (pNb 211)).all (fun t => xbk (pO 211) (pZ 211) (pQ 211 t) ((pM 211).1 t)) = true := kb211
set_option maxRecDepth 100000 in
theorem ko212 : (List.range (pNb 212)).all (fun t => xbk (pO 212) (pZ 212) (pQ 212 t) ((pM 212).1 t)) = true := kb212
set_option maxRecDepth 100000 in
theorem ko213 : (List.range (pNb 213)).all (fun t => xbk (pO 213) (pZ 213) (pQ 213 t) ((pM 213).1 t)) = true := kb213
set_option maxRecDepth 100000 in
theorem ko214 : (List.range (pNb 214)).all (fun t => xbk (pO 214) (pZ 214) (pQ 214 t) ((pM 214).1 t)) = true := kb214
set_option maxRecDepth 100000 in
theorem ko215 : (List.range (pNb 215)).all (fun t => xbk (pO 215) (pZ 215) (pQ 215 t) ((pM 215).1 t)) = true := kb215
set_option maxRecDepth 100000 in
theorem ko216 : (List.range (pNb 216)).all (fun t => xbk (pO 216) (pZ 216) (pQ 216 t) ((pM 216).1 t)) = true := kb216
set_option maxRecDepth 100000 in
theorem ko217 : (List.range (pNb 217)).all (fun t => xbk (pO 217) (pZ 217) (pQ 217 t) ((pM 217).1 t)) = true := kb217
set_option maxRecDepth 100000 in
theorem ko218 : (List.range (pNb 218)).all (fun t => xbk (pO 218) (pZ 218) (pQ 218 t) ((pM 218).1 t)) = true := kb218
set_option maxRecDepth 100000 in
theorem ko219 : (List.range (pNb 219)).all (fun t => xbk (pO 219) (pZ 219) (pQ 219 t) ((pM 219).1 t)) = true := kb219
set_option maxRecDepth 100000 in
theorem ko220 : (List.range (pNb 220)).all (fun t => xbk (pO 220) (pZ 220) (pQ 220 t) ((pM 220).1 t)) = true := kb220
set_option maxRecDepth 100000 in
theorem ko221 : (List.range (pNb 221)).all (fun t => xbk (pO 221) (pZ 221) (pQ 221 t) ((pM 221).1 t)) = true := kb221
set_option maxRecDepth 100000 in
theorem ko222 : (List.range (pNb 222)).all (fun t => xbk (pO 222) (pZ 222) (pQ 222 t) ((pM 222).1 t)) = true := kb222
set_option maxRecDepth 100000 in
theorem ko223 : (List.range (pNb 223)).all (fun t => xbk (pO 223) (pZ 223) (pQ 223 t) ((pM 223).1 t)) = true := kb223
set_option maxRecDepth 100000 in
theorem ko224 : (List.range (pNb 224)).all (fun t => xbk (pO 224) (pZ 224) (pQ 224 t) ((pM 224).1 t)) = true := kb224
set_option maxRecDepth 100000 in
theorem ko225 : (List.range (pNb 225)).all (fun t => xbk (pO 225) (pZ 225) (pQ 225 t) ((pM 225).1 t)) = true := kb225
set_option maxRecDepth 100000 in
theorem ko226 : (List.range (pNb 226)).all (fun t => xbk (pO 226) (pZ 226) (pQ 226 t) ((pM 226).1 t)) = true := kb226
set_option maxRecDepth 100000 in
theorem ko227 : (List.range (pNb 227)).all (fun t => xbk (pO 227) (pZ 227) (pQ 227 t) ((pM 227).1 t)) = true := kb227
set_option maxRecDepth 100000 in
theorem ko228 : (List.range (pNb 228)).all (fun t => xbk (pO 228) (pZ 228) (pQ 228 t) ((pM 228).1 t)) = true := kb228
set_option maxRecDepth 100000 in
theorem ko229 : (List.range (pNb 229)).all (fun t => xbk (pO 229) (pZ 229) (pQ 229 t) ((pM 229).1 t)) = true := kb229
set_option maxRecDepth 100000 in
theorem ko230 : (List.range (pNb 230)).all (fun t => xbk (pO 230) (pZ 230) (pQ 230 t) ((pM 230).1 t)) = true := kb230
set_option maxRecDepth 100000 in
theorem ko231 : (List.range (pNb 231)).all (fun t => xbk (pO 231) (pZ 231) (pQ 231 t) ((pM 231).1 t)) = true := kb231
set_option maxRecDepth 100000 in
theorem ko232 : (List.range (pNb 232)).all (fun t => xbk (pO 232) (pZ 232) (pQ 232 t) ((pM 232).1 t)) = true := kb232
set_option maxRecDepth 100000 in
theorem ko233 : (List.range (pNb 233)).all (fun t => xbk (pO 233) (pZ 233) (pQ 233 t) ((pM 233).1 t)) = true := kb233
set_option maxRecDepth 100000 in
theorem ko234 : (List.range (pNb 234)).all (fun t => xbk (pO 234) (pZ 234) (pQ 234 t) ((pM 234).1 t)) = true := kb234
set_option maxRecDepth 100000 in
theorem ko235 : (List.range (pNb 235)).all (fun t => xbk (pO 235) (pZ 235) (pQ 235 t) ((pM 235).1 t)) = true := kb235
set_option maxRecDepth 100000 in
theorem ko236 : (List.range (pNb 236)).all (fun t => xbk (pO 236) (pZ 236) (pQ 236 t) ((pM 236).1 t)) = true := kb236
set_option maxRecDepth 100000 in
theorem ko237 : (List.range (pNb 237)).all (fun t => xbk (pO 237) (pZ 237) (pQ 237 t) ((pM 237).1 t)) = true := kb237
set_option maxRecDepth 100000 in
theorem ko238 : (List.range (pNb 238)).all (fun t => xbk (pO 238) (pZ 238) (pQ 238 t) ((pM 238).1 t)) = true := kb238
set_option maxRecDepth 100000 in
theorem ko239 : (List.range (pNb 239)).all (fun t => xbk (pO 239) (pZ 239) (pQ 239 t) ((pM 239).1 t)) = true := kb239
set_option maxRecDepth 100000 in
theorem ko240 : (List.range (pNb 240)).all (fun t => xbk (pO 240) (pZ 240) (pQ 240 t) ((pM 240).1 t)) = true := kb240
set_option maxRecDepth 100000 in
theorem ko241 : (List.range (pNb 241)).all (fun t => xbk (pO 241) (pZ 241) (pQ 241 t) ((pM 241).1 t)) = true := kb241
set_option maxRecDepth 100000 in
theorem ko242 : (List.range (pNb 242)).all (fun t => xbk (pO 242) (pZ 242) (pQ 242 t) ((pM 242).1 t)) = true := kb242
set_option maxRecDepth 100000 in
theorem ko243 : (List.range (pNb 243)).all (fun t => xbk (pO 243) (pZ 243) (pQ 243 t) ((pM 243).1 t)) = true := kb243
set_option maxRecDepth 100000 in
theorem ko244 : (List.range (pNb 244)).all (fun t => xbk (pO 244) (pZ 244) (pQ 244 t) ((pM 244).1 t)) = true := kb244
set_option maxRecDepth 100000 in
theorem ko245 : (List.range (pNb 245)).all (fun t => xbk (pO 245) (pZ 245) (pQ 245 t) ((pM 245).1 t)) = true := kb245
set_option maxRecDepth 100000 in
theorem ko246 : (List.range (pNb 246)).all (fun t => xbk (pO 246) (pZ 246) (pQ 246 t) ((pM 246).1 t)) = true := kb246
set_option maxRecDepth 100000 in
theorem ko247 : (List.range (pNb 247)).all (fun t => xbk (pO 247) (pZ 247) (pQ 247 t) ((pM 247).1 t)) = true := kb247
set_option maxRecDepth 100000 in
theorem ko248 : (List.range (pNb 248)).all (fun t => xbk (pO 248) (pZ 248) (pQ 248 t) ((pM 248).1 t)) = true := kb248
set_option maxRecDepth 100000 in
theorem ko249 : (List.range (pNb 249)).all (fun t => xbk (pO 249) (pZ 249) (pQ 249 t) ((pM 249).1 t)) = true := kb249
set_option maxRecDepth 100000 in
theorem ko250 : (List.range (pNb 250)).all (fun t => xbk (pO 250) (pZ 250) (pQ 250 t) ((pM 250).1 t)) = true := kb250
set_option maxRecDepth 100000 in
theorem ko251 : (List.range (pNb 251)).all (fun t => xbk (pO 251) (pZ 251) (pQ 251 t) ((pM 251).1 t)) = true := kb251
set_option maxRecDepth 100000 in
theorem ko252 : (List.range (pNb 252)).all (fun t => xbk (pO 252) (pZ 252) (pQ 252 t) ((pM 252).1 t)) = true := kb252
set_option maxRecDepth 100000 in
theorem ko253 : (List.range (pNb 253)).all (fun t => xbk (pO 253) (pZ 253) (pQ 253 t) ((pM 253).1 t)) = true := kb253
set_option maxRecDepth 100000 in
theorem ko254 : (List.range (pNb 254)).all (fun t => xbk (pO 254) (pZ 254) (pQ 254 t) ((pM 254).1 t)) = true := kb254
set_option maxRecDepth 100000 in
theorem ko255 : (List.range (pNb 255)).all (fun t => xbk (pO 255) (pZ 255) (pQ 255 t) ((pM 255).1 t)) = true := kb255
set_option maxRecDepth 100000 in
theorem ko256 : (List.range (pNb 256)).all (fun t => xbk (pO 256) (pZ 256) (pQ 256 t) ((pM 256).1 t)) = true := kb256
set_option maxRecDepth 100000 in
theorem ko257 : (List.range (pNb 257)).all (fun t => xbk (pO 257) (pZ 257) (pQ 257 t) ((pM 257).1 t)) = true := kb257
set_option maxRecDepth 100000 in
theorem ko258 : (List.range (pNb 258)).all (fun t => xbk (pO 258) (pZ 258) (pQ 258 t) ((pM 258).1 t)) = true := kb258
set_option maxRecDepth 100000 in
theorem ko259 : (List.range (pNb 259)).all (fun t => xbk (pO 259) (pZ 259) (pQ 259 t) ((pM 259).1 t)) = true := kb259
set_option maxRecDepth 100000 in
theorem ko260 : (List.range (pNb 260)).all (fun t => xbk (pO 260) (pZ 260) (pQ 260 t) ((pM 260).1 t)) = true := kb260
set_option maxRecDepth 100000 in
theorem ko261 : (List.range (pNb 261)).all (fun t => xbk (pO 261) (pZ 261) (pQ 261 t) ((pM 261).1 t)) = true := kb261
set_option maxRecDepth 100000 in
theorem ko262 : (List.range (pNb 262)).all (fun t => xbk (pO 262) (pZ 262) (pQ 262 t) ((pM 262).1 t)) = true := kb262
set_option maxRecDepth 100000 in
theorem ko263 : (List.range (pNb 263)).all (fun t => xbk (pO 263) (pZ 263) (pQ 263 t) ((pM 263).1 t)) = true := kb263
set_option maxRecDepth 100000 in
theorem ko264 : (List.range (pNb 264)).all (fun t => xbk (pO 264) (pZ 264) (pQ 264 t) ((pM 264).1 t)) = true := kb264
set_option maxRecDepth 100000 in
theorem ko265 : (List.range (pNb 265)).all (fun t => xbk (pO 265) (pZ 265) (pQ 265 t) ((pM 265).1 t)) = true := kb265
set_option maxRecDepth 100000 in
theorem ko266 : (List.range (pNb 266)).all (fun t => xbk (pO 266) (pZ 266) (pQ 266 t) ((pM 266).1 t)) = true := kb266
set_option maxRecDepth 100000 in
theorem ko267 : (List.range (pNb 267)).all (fun t => xbk (pO 267) (pZ 267) (pQ 267 t) ((pM 267).1 t)) = true := kb267
set_option maxRecDepth 100000 in
theorem ko268 : (List.range (pNb 268)).all (fun t => xbk (pO 268) (pZ 268) (pQ 268 t) ((pM 268).1 t)) = true := kb268
set_option maxRecDepth 100000 in
theorem ko269 : (List.range (pNb 269)).all (fun t => xbk (pO 269) (pZ 269) (pQ 269 t) ((pM 269).1 t)) = true := kb269
set_option maxRecDepth 100000 in
theorem ko270 : (List.range (pNb 270)).all (fun t => xbk (pO 270) (pZ 270) (pQ 270 t) ((pM 270).1 t)) = true := kb270
set_option maxRecDepth 100000 in
theorem ko271 : (List.range (pNb 271)).all (fun t => xbk (pO 271) (pZ 271) (pQ 271 t) ((pM 271).1 t)) = true := kb271
set_option maxRecDepth 100000 in
theorem ko272 : (List.range (pNb 272)).all (fun t => xbk (pO 272) (pZ 272) (pQ 272 t) ((pM 272).1 t)) = true := kb272
set_option maxRecDepth 100000 in
theorem ko273 : (List.range (pNb 273)).all (fun t => xbk (pO 273) (pZ 273) (pQ 273 t) ((pM 273).1 t)) = true := kb273
set_option maxRecDepth 100000 in
theorem ko274 : (List.range (pNb 274)).all (fun t => xbk (pO 274) (pZ 274) (pQ 274 t) ((pM 274).1 t)) = true := kb274
set_option maxRecDepth 100000 in
theorem ko275 : (List.range (pNb 275)).all (fun t => xbk (pO 275) (pZ 275) (pQ 275 t) ((pM 275).1 t)) = true := kb275
set_option maxRecDepth 100000 in
theorem ko276 : (List.range (pNb 276)).all (fun t => xbk (pO 276) (pZ 276) (pQ 276 t) ((pM 276).1 t)) = true := kb276
set_option maxRecDepth 100000 in
theorem ko277 : (List.range (pNb 277)).all (fun t => xbk (pO 277) (pZ 277) (pQ 277 t) ((pM 277).1 t)) = true := kb277
set_option maxRecDepth 100000 in
theorem ko278 : (List.range (pNb 278)).all (fun t => xbk (pO 278) (pZ 278) (pQ 278 t) ((pM 278).1 t)) = true := kb278
set_option maxRecDepth 100000 in
theorem ko279 : (List.range (pNb 279)).all (fun t => xbk (pO 279) (pZ 279) (pQ 279 t) ((pM 279).1 t)) = true := kb279
set_option maxRecDepth 100000 in
theorem ko280 : (List.range (pNb 280)).all (fun t => xbk (pO 280) (pZ 280) (pQ 280 t) ((pM 280).1 t)) = true := kb280
set_option maxRecDepth 100000 in
theorem ko281 : (List.range (pNb 281)).all (fun t => xbk (pO 281) (pZ 281) (pQ 281 t) ((pM 281).1 t)) = true := kb281
set_option maxRecDepth 100000 in
theorem koa_24  : ∀ m, m < 24 → (fun m => (List.range (pNb m)).all (fun t => xbk (pO m) (pZ m) (pQ m t) ((pM m).1 t)) = true) m := xallS (xallS (xallS (xallS (xallS (xallS (xallS (xallS (xallS (xallS (xallS (xallS (xallS (xallS (xallS (xallS (xallS (xallS (xallS (xallS (xallS (xallS (xallS (xallS (xall0) (ko0)) (ko1)) (ko2)) (ko3)) (ko4)) (ko5)) (ko6)) (ko7)) (ko8)) (ko9)) (ko10)) (ko11)) (ko12)) (ko13)) (ko14)) (ko15)) (ko16)) (ko17)) (ko18)) (ko19)) (ko20)) (ko21)) (ko22)) (ko23)
set_option maxRecDepth 100000 in
theorem koa_48  : ∀ m, m < 48 → (fun m => (List.range (pNb m)).all (fun t => xbk (pO m) (pZ m) (pQ m t) ((pM m).1 t)) = true) m := xallS (xallS (xallS (xallS (xallS (xallS (xallS (xallS (xallS (xallS (xallS (xallS (xallS (xallS (xallS (xallS (xallS (xallS (xallS (xallS (xallS (xallS (xallS (xallS (koa_24) (ko24)) (ko25)) (ko26)) (ko27)) (ko28)) (ko29)) (ko30)) (ko31)) (ko32)) (ko33)) (ko34)) (ko35)) (ko36)) (ko37)) (ko38)) (ko39)) (ko40)) (ko41)) (ko42)) (ko43)) (ko44)) (ko45)) (ko46)) (ko47)
set_option maxRecDepth 100000 in
theorem koa_72  : ∀ m, m < 72 → (fun m => (List.range (pNb m)).all (fun t => xbk (pO m) (pZ m) (pQ m t) ((pM m).1 t)) = true) m := xallS (xallS (xallS (xallS (xallS (xallS (xallS (xallS (xallS (xallS (xallS (xallS (xallS (xallS (xallS (xallS (xallS (xallS (xallS (xallS (xallS (xallS (xallS (xallS (koa_48) (ko48)) (ko49)) (ko50)) (ko51)) (ko52)) (ko53)) (ko54)) (ko55)) (ko56)) (ko57)) (ko58)) (ko59)) (ko60)) (ko61)) (ko62)) (ko63)) (ko64)) (ko65)) (ko66)) (ko67)) (ko68)) (ko69)) (ko70)) (ko71)
set_option maxRecDepth 100000 in
theorem koa_96  : ∀ m, m < 96 → (fun m => (List.range (pNb m)).all (fun t => xbk (pO m) (pZ m) (pQ m t) ((pM m).1 t)) = true) m := xallS (xallS (xallS (xallS (xallS (xallS (xallS (xallS (xallS (xallS (xallS (xallS (xallS (xallS (xallS (xallS (xallS (xallS (xallS (xallS (xallS (xallS (xallS (xallS (koa_72) (ko72)) (ko73)) (ko74)) (ko75)) (ko76)) (ko77)) (ko78)) (ko79)) (ko80)) (ko81)) (ko82)) (ko83)) (ko84)) (ko85)) (ko86)) (ko87)) (ko88)) (ko89)) (ko90)) (ko91)) (ko92)) (ko93)) (ko94)) (ko95)
set_option maxRecDepth 100000 in
theorem koa_120  : ∀ m, m < 120 → (fun m => (List.range (pNb m)).all (fun t => xbk (pO m) (pZ m) (pQ m t) ((pM m).1 t)) = true) m := xallS (xallS (xallS (xallS (xallS (xallS (xallS (xallS (xallS (xallS (xallS (xallS (xallS (xallS (xallS (xallS (xallS (xallS (xallS (xallS (xallS (xallS (xallS (xallS (koa_96) (ko96)) (ko97)) (ko98)) (ko99)) (ko100)) (ko101)) (ko102)) (ko103)) (ko104)) (ko105)) (ko106)) (ko107)) (ko108)) (ko109)) (ko110)) (ko111)) (ko112)) (ko113)) (ko114)) (ko115)) (ko116)) (ko117)) (ko118)) (ko119)
set_option maxRecDepth 100000 in
theorem koa_144  : ∀ m, m < 144 → (fun m => (List.range (pNb m)).all (fun t => xbk (pO m) (pZ m) (pQ m t) ((pM m).1 t)) = true) m := xallS (xallS (xallS (xallS (xallS (xallS (xallS (xallS (xallS (xallS (xallS (xallS (xallS (xallS (xallS (xallS (xallS (xallS (xallS (xallS (xallS (xallS (xallS (xallS (koa_120) (ko120)) (ko121)) (ko122)) (ko123)) (ko124)) (ko125)) (ko126)) (ko127)) (ko128)) (ko129)) (ko130)) (ko131)) (ko132)) (ko133)) (ko134)) (ko135)) (ko136)) (ko137)) (ko138)) (ko139)) (ko140)) (ko141)) (ko142)) (ko143)
set_option maxRecDepth 100000 in
theorem koa_168  : ∀ m, m < 168 → (fun m => (List.range (pNb m)).all (fun t => xbk (pO m) (pZ m) (pQ m t) ((pM m).1 t)) = true) m := xallS (xallS (xallS (xallS (xallS (xallS (xallS (xallS (xallS (xallS (xallS (xallS (xallS (xallS (xallS (xallS (xallS (xallS (xallS (xallS (xallS (xallS (xallS (xallS (koa_144) (ko144)) (ko145)) (ko146)) (ko147)) (ko148)) (ko149)) (ko150)) (ko151)) (ko152)) (ko153)) (ko154)) (ko155)) (ko156)) (ko157)) (ko158)) (ko159)) (ko160)) (ko161)) (ko162)) (ko163)) (ko164)) (ko165)) (ko166)) (ko167)
set_option maxRecDepth 100000 in
theorem koa_192  : ∀ m, m < 192 → (fun m => (List.range (pNb m)).all (fun t => xbk (pO m) (pZ m) (pQ m t) ((pM m).1 t)) = true) m := xallS (xallS (xallS (xallS (xallS (xallS (xallS (xallS (xallS (xallS (xallS (xallS (xallS (xallS (xallS (xallS (xallS (xallS (xallS (xallS (xallS (xallS (xallS (xallS (koa_168) (ko168)) (ko169)) (ko170)) (ko171)) (ko172)) (ko173)) (ko174)) (ko175)) (ko176)) (ko177)) (ko178)) (ko179)) (ko180)) (ko181)) (ko182)) (ko183)) (ko184)) (ko185)) (ko186)) (ko187)) (ko188)) (ko189)) (ko190)) (ko191)
set_option maxRecDepth 100000 in
theorem koa_216  : ∀ m, m < 216 → (fun m => (List.range (pNb m)).all (fun t => xbk (pO m) (pZ m) (pQ m t) ((pM m).1 t)) = true) m := xallS (xallS (xallS (xallS (xallS (xallS (xallS (xallS (xallS (xallS (xallS (xallS (xallS (xallS (xallS (xallS (xallS (xallS (xallS (xallS (xallS (xallS (xallS (xallS (koa_192) (ko192)) (ko193)) (ko194)) (ko195)) (ko196)) (ko197)) (ko198)) (ko199)) (ko200)) (ko201)) (ko202)) (ko203)) (ko204)) (ko205)) (ko206)) (ko207)) (ko208)) (ko209)) (ko210)) (ko211)) (ko212)) (ko213)) (ko214)) (ko215)
set_option maxRecDepth 100000 in
theorem koa_240  : ∀ m, m < 240 → (fun m => (List.range (pNb m)).all (fun t => xbk (pO m) (pZ m) (pQ m t) ((pM m).1 t)) = true) m := xallS (xallS (xallS (xallS (xallS (xallS (xallS (xallS (xallS (xallS (xallS (xallS (xallS (xallS (xallS (xallS (xallS (xallS (xallS (xallS (xallS (xallS (xallS (xallS (koa_216) (ko216)) (ko217)) (ko218)) (ko219)) (ko220)) (ko221)) (ko222)) (ko223)) (ko224)) (ko225)) (ko226)) (ko227)) (ko228)) (ko229)) (ko230)) (ko231)) (ko232)) (ko233)) (ko234)) (ko235)) (ko236)) (ko237)) (ko238)) (ko239)
set_option maxRecDepth 100000 in
theorem koa_264  : ∀ m, m < 264 → (fun m => (List.range (pNb m)).all (fun t => xbk (pO m) (pZ m) (pQ m t) ((pM m).1 t)) = true) m := xallS (xallS (xallS (xallS (xallS (xallS (xallS (xallS (xallS (xallS (xallS (xallS (xallS (xallS (xallS (xallS (xallS (xallS (xallS (xallS (xallS (xallS (xallS (xallS (koa_240) (ko240)) (ko241)) (ko242)) (ko243)) (ko244)) (ko245)) (ko246)) (ko247)) (ko248)) (ko249)) (ko250)) (ko251)) (ko252)) (ko253)) (ko254)) (ko255)) (ko256)) (ko257)) (ko258)) (ko259)) (ko260)) (ko261)) (ko262)) (ko263)
set_option maxRecDepth 100000 in
theorem koa_282  : ∀ m, m < 282 → (fun m => (List.range (pNb m)).all (fun t => xbk (pO m) (pZ m) (pQ m t) ((pM m).1 t)) = true) m := xallS (xallS (xallS (xallS (xallS (xallS (xallS (xallS (xallS (xallS (xallS (xallS (xallS (xallS (xallS (xallS (xallS (xallS (koa_264) (ko264)) (ko265)) (ko266)) (ko267)) (ko268)) (ko269)) (ko270)) (ko271)) (ko272)) (ko273)) (ko274)) (ko275)) (ko276)) (ko277)) (ko278)) (ko279)) (ko280)) (ko281)
