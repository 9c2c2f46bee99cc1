set_option maxHeartbeats 4000000 in
set_option maxRecDepth 100000 in
theorem lX7_about {G : gG} {x : gVa} {u : gVu} {A : gA} {b : Nat} (hST : (gl G).stackTraces = false) (hA : gAok b A) (hb : b ≤ 50000) (hC : gClsI A u) (y : Int32) : CX G yX7_about wsX7_about 6 110 [.ref (x.1 0), .int y] (wV G x u) (fun (r : Int32) (w : gVu) => gClsP (fAbout A y) r w) (fun (cls : String) (w : gVu) => gClsX (fAbout A y) ["java/lang/IllegalArgumentException"] cls w) (fun w : gVu => wV G x w) 1 6 := by
  obtain ⟨⟨tf, tg, tn⟩, hf, ff, v, st⟩ := u
  obtain ⟨hS, hR0, hQ0⟩ : gUok (aS A) (v 0) := hC.2.2.1
  have hK : gI3 (v 0).1 := by rw [hS]; exact hA.2.1.1
  have hI : gI1 (v 0).1 := hK.1.1
  have hT5 : sN (v 0).1 0 ≤ 50000 := by rw [hS]; exact Nat.le_trans hA.2.1.2.2 hb
  have hT : sN (v 0).1 0 < 1000000000 := by omega
  have hR : RB (sB (v 0).1) (v 0).2.1 := by rw [hS]; exact hR0
  have hQ : RW (sW (v 0).1) (v 0).2.2 := by rw [hS]; exact hQ0
  refine CX_lift (mX7_about G hST (x.1 0) (x.1 1) (x.1 4) (x.1 6) (x.1 7) (x.2.1 3 0) (x.2.1 4 0) (aN A) (aC A) (aG A) (aH A) (aL A) (x.2.1 0) (v 0).1 (v 0).2.1 (v 0).2.2 y hI hT hR hQ ) (gSh_a G x tf tg tn hf ff v st) (fun r w hp => ⟨((tf, tg, tn), hf, ff, v, st), ?_, gSb_a G x tf tg tn hf ff v st⟩) (fun c w hp => ⟨((tf, tg, tn), hf, ff, v, st), ?_, gSb_a G x tf tg tn hf ff v st⟩)
  · rw [hS] at hp
    have h1 : (fAbout A y).1 = 0 ∧ r = (fAbout A y).2.1 := hp
    exact ⟨h1.1, h1.2, by rw [fAbout_A]; exact hC⟩
  · rw [hS] at hp
    obtain ⟨z0, h1, h2⟩ : ∃ z0, (fAbout A y).1 = z0 + 1 ∧ (["java/lang/IllegalArgumentException"] : List String)[z0]? = some c := hp
    exact ⟨z0, h1, h2, by rw [fAbout_A]; exact hC⟩
set_option maxHeartbeats 4000000 in
set_option maxRecDepth 100000 in
theorem lX7_prisoner {G : gG} {x : gVa} {u : gVu} {A : gA} {b : Nat} (hST : (gl G).stackTraces = false) (hA : gAok b A) (hb : b ≤ 50000) (hC : gClsI A u) (p y : Int32) : CX G yX7_prisoner wsX7_prisoner 6 110 [.ref (x.1 0), .int p, .int y] (wV G x u) (fun (r : Int32) (w : gVu) => gClsP (fPris A p y) r w) (fun (cls : String) (w : gVu) => gClsX (fPris A p y) ["java/lang/IndexOutOfBoundsException", "java/lang/IllegalArgumentException"] cls w) (fun w : gVu => wV G x w) 1 6 := by
  obtain ⟨⟨tf, tg, tn⟩, hf, ff, v, st⟩ := u
  obtain ⟨hS, hR0, hQ0⟩ : gUok (aS A) (v 0) := hC.2.2.1
  have hK : gI3 (v 0).1 := by rw [hS]; exact hA.2.1.1
  have hI : gI1 (v 0).1 := hK.1.1
  have hT5 : sN (v 0).1 0 ≤ 50000 := by rw [hS]; exact Nat.le_trans hA.2.1.2.2 hb
  have hT : sN (v 0).1 0 < 1000000000 := by omega
  have hR : RB (sB (v 0).1) (v 0).2.1 := by rw [hS]; exact hR0
  have hQ : RW (sW (v 0).1) (v 0).2.2 := by rw [hS]; exact hQ0
  refine CX_lift (mX7_prisoner G hST (x.1 0) (x.1 1) (x.1 4) (x.1 6) (x.1 7) (x.2.1 3 0) (x.2.1 4 0) (aN A) (aC A) (aG A) (aH A) (aL A) (x.2.1 0) (v 0).1 (v 0).2.1 (v 0).2.2 p y hI hT hR hQ ) (gSh_a G x tf tg tn hf ff v st) (fun r w hp => ⟨((tf, tg, tn), hf, ff, v, st), ?_, gSb_a G x tf tg tn hf ff v st⟩) (fun c w hp => ⟨((tf, tg, tn), hf, ff, v, st), ?_, gSb_a G x tf tg tn hf ff v st⟩)
  · rw [hS] at hp
    have h1 : (fPris A p y).1 = 0 ∧ r = (fPris A p y).2.1 := hp
    exact ⟨h1.1, h1.2, by rw [fPris_A]; exact hC⟩
  · rw [hS] at hp
    obtain ⟨z0, h1, h2⟩ : ∃ z0, (fPris A p y).1 = z0 + 1 ∧ (["java/lang/IndexOutOfBoundsException", "java/lang/IllegalArgumentException"] : List String)[z0]? = some c := hp
    exact ⟨z0, h1, h2, by rw [fPris_A]; exact hC⟩
set_option maxHeartbeats 4000000 in
set_option maxRecDepth 100000 in
theorem lX7_visitor {G : gG} {x : gVa} {u : gVu} {A : gA} {b : Nat} (hST : (gl G).stackTraces = false) (hA : gAok b A) (hb : b ≤ 50000) (hC : gClsI A u) (p y : Int32) : CX G yX7_visitor wsX7_visitor 6 110 [.ref (x.1 0), .int p, .int y] (wV G x u) (fun (r : Int32) (w : gVu) => gClsP (fVisr A p y) r w) (fun (cls : String) (w : gVu) => gClsX (fVisr A p y) ["java/lang/IndexOutOfBoundsException", "java/lang/IllegalArgumentException"] cls w) (fun w : gVu => wV G x w) 1 6 := by
  obtain ⟨⟨tf, tg, tn⟩, hf, ff, v, st⟩ := u
  obtain ⟨hS, hR0, hQ0⟩ : gUok (aS A) (v 0) := hC.2.2.1
  have hK : gI3 (v 0).1 := by rw [hS]; exact hA.2.1.1
  have hI : gI1 (v 0).1 := hK.1.1
  have hT5 : sN (v 0).1 0 ≤ 50000 := by rw [hS]; exact Nat.le_trans hA.2.1.2.2 hb
  have hT : sN (v 0).1 0 < 1000000000 := by omega
  have hR : RB (sB (v 0).1) (v 0).2.1 := by rw [hS]; exact hR0
  have hQ : RW (sW (v 0).1) (v 0).2.2 := by rw [hS]; exact hQ0
  refine CX_lift (mX7_visitor G hST (x.1 0) (x.1 1) (x.1 4) (x.1 6) (x.1 7) (x.2.1 3 0) (x.2.1 4 0) (aN A) (aC A) (aG A) (aH A) (aL A) (x.2.1 0) (v 0).1 (v 0).2.1 (v 0).2.2 p y hI hT hR hQ ) (gSh_a G x tf tg tn hf ff v st) (fun r w hp => ⟨((tf, tg, tn), hf, ff, v, st), ?_, gSb_a G x tf tg tn hf ff v st⟩) (fun c w hp => ⟨((tf, tg, tn), hf, ff, v, st), ?_, gSb_a G x tf tg tn hf ff v st⟩)
  · rw [hS] at hp
    have h1 : (fVisr A p y).1 = 0 ∧ r = (fVisr A p y).2.1 := hp
    exact ⟨h1.1, h1.2, by rw [fVisr_A]; exact hC⟩
  · rw [hS] at hp
    obtain ⟨z0, h1, h2⟩ : ∃ z0, (fVisr A p y).1 = z0 + 1 ∧ (["java/lang/IndexOutOfBoundsException", "java/lang/IllegalArgumentException"] : List String)[z0]? = some c := hp
    exact ⟨z0, h1, h2, by rw [fVisr_A]; exact hC⟩
set_option maxHeartbeats 4000000 in
set_option maxRecDepth 100000 in
theorem lX7_booking {G : gG} {x : gVa} {u : gVu} {A : gA} {b : Nat} (hST : (gl G).stackTraces = false) (hA : gAok b A) (hb : b ≤ 50000) (hC : gClsI A u) (p y : Int32) : CX G yX7_booking wsX7_booking 6 110 [.ref (x.1 0), .int p, .int y] (wV G x u) (fun (r : Int32) (w : gVu) => gClsP (fBkng A p y) r w) (fun (cls : String) (w : gVu) => gClsX (fBkng A p y) ["java/lang/IndexOutOfBoundsException", "java/lang/IllegalArgumentException"] cls w) (fun w : gVu => wV G x w) 1 6 := by
  obtain ⟨⟨tf, tg, tn⟩, hf, ff, v, st⟩ := u
  obtain ⟨hS, hR0, hQ0⟩ : gUok (aS A) (v 0) := hC.2.2.1
  have hK : gI3 (v 0).1 := by rw [hS]; exact hA.2.1.1
  have hI : gI1 (v 0).1 := hK.1.1
  have hT5 : sN (v 0).1 0 ≤ 50000 := by rw [hS]; exact Nat.le_trans hA.2.1.2.2 hb
  have hT : sN (v 0).1 0 < 1000000000 := by omega
  have hR : RB (sB (v 0).1) (v 0).2.1 := by rw [hS]; exact hR0
  have hQ : RW (sW (v 0).1) (v 0).2.2 := by rw [hS]; exact hQ0
  refine CX_lift (mX7_booking G hST (x.1 0) (x.1 1) (x.1 4) (x.1 6) (x.1 7) (x.2.1 3 0) (x.2.1 4 0) (aN A) (aC A) (aG A) (aH A) (aL A) (x.2.1 0) (v 0).1 (v 0).2.1 (v 0).2.2 p y hI hT hR hQ ) (gSh_a G x tf tg tn hf ff v st) (fun r w hp => ⟨((tf, tg, tn), hf, ff, v, st), ?_, gSb_a G x tf tg tn hf ff v st⟩) (fun c w hp => ⟨((tf, tg, tn), hf, ff, v, st), ?_, gSb_a G x tf tg tn hf ff v st⟩)
  · rw [hS] at hp
    have h1 : (fBkng A p y).1 = 0 ∧ r = (fBkng A p y).2.1 := hp
    exact ⟨h1.1, h1.2, by rw [fBkng_A]; exact hC⟩
  · rw [hS] at hp
    obtain ⟨z0, h1, h2⟩ : ∃ z0, (fBkng A p y).1 = z0 + 1 ∧ (["java/lang/IndexOutOfBoundsException", "java/lang/IllegalArgumentException"] : List String)[z0]? = some c := hp
    exact ⟨z0, h1, h2, by rw [fBkng_A]; exact hC⟩
set_option maxHeartbeats 4000000 in
set_option maxRecDepth 100000 in
theorem lX7_line {G : gG} {x : gVa} {u : gVu} {A : gA} {b : Nat} (hST : (gl G).stackTraces = false) (hA : gAok b A) (hb : b ≤ 50000) (hC : gClsI A u) (k z : Int32) : CX G yX7_line wsX7_line 12 309 [.ref (x.1 0), .int k, .int z] (wV G x u) (fun (r : Int32) (w : gVu) => gClsP (fLine A k z) r w) (fun (cls : String) (w : gVu) => gClsX (fLine A k z) ["java/lang/IndexOutOfBoundsException", "java/lang/IllegalArgumentException"] cls w) (fun w : gVu => wV G x w) 14 428 := by
  obtain ⟨⟨tf, tg, tn⟩, hf, ff, v, st⟩ := u
  obtain ⟨hS, hR0, hQ0⟩ : gUok (aS A) (v 0) := hC.2.2.1
  have hK : gI3 (v 0).1 := by rw [hS]; exact hA.2.1.1
  have hI : gI1 (v 0).1 := hK.1.1
  have hT5 : sN (v 0).1 0 ≤ 50000 := by rw [hS]; exact Nat.le_trans hA.2.1.2.2 hb
  have hT : sN (v 0).1 0 < 1000000000 := by omega
  have hR : RB (sB (v 0).1) (v 0).2.1 := by rw [hS]; exact hR0
  have hQ : RW (sW (v 0).1) (v 0).2.2 := by rw [hS]; exact hQ0
  refine CX_lift (mX7_line G hST (x.1 0) (x.1 1) (x.1 4) (x.1 6) (x.1 7) (x.2.1 3 0) (x.2.1 4 0) (aC A) A.1 (aH A) (aL A) (x.2.1 0) (v 0).1 (v 0).2.1 (v 0).2.2 k z hI hT hR hQ hK hT5) (gSh_a G x tf tg tn hf ff v st) (fun r w hp => ⟨((tf, tg, tn), hf, ff, v, st), ?_, gSb_a G x tf tg tn hf ff v st⟩) (fun c w hp => ⟨((tf, tg, tn), hf, ff, v, st), ?_, gSb_a G x tf tg tn hf ff v st⟩)
  · rw [hS] at hp
    have h1 : (fLine A k z).1 = 0 ∧ r = (fLine A k z).2.1 := hp
    exact ⟨h1.1, h1.2, by rw [fLine_A]; exact hC⟩
  · rw [hS] at hp
    obtain ⟨z0, h1, h2⟩ : ∃ z0, (fLine A k z).1 = z0 + 1 ∧ (["java/lang/IndexOutOfBoundsException", "java/lang/IllegalArgumentException"] : List String)[z0]? = some c := hp
    exact ⟨z0, h1, h2, by rw [fLine_A]; exact hC⟩
set_option maxHeartbeats 4000000 in
set_option maxRecDepth 100000 in
theorem lX7_wishAt {G : gG} {x : gVa} {u : gVu} {A : gA} {b : Nat} (hST : (gl G).stackTraces = false) (hA : gAok b A) (hb : b ≤ 50000) (hC : gClsI A u) (k : Int32) : CX G yX7_wishAt wsX7_wishAt 6 110 [.ref (x.1 0), .int k] (wV G x u) (fun (r : Int32) (w : gVu) => gClsP (fWish A k) r w) (fun (cls : String) (w : gVu) => gClsX (fWish A k) ["java/lang/IllegalArgumentException"] cls w) (fun w : gVu => wV G x w) 1 6 := by
  obtain ⟨⟨tf, tg, tn⟩, hf, ff, v, st⟩ := u
  obtain ⟨hS, hR0, hQ0⟩ : gUok (aS A) (v 0) := hC.2.2.1
  have hK : gI3 (v 0).1 := by rw [hS]; exact hA.2.1.1
  have hI : gI1 (v 0).1 := hK.1.1
  have hT5 : sN (v 0).1 0 ≤ 50000 := by rw [hS]; exact Nat.le_trans hA.2.1.2.2 hb
  have hT : sN (v 0).1 0 < 1000000000 := by omega
  have hR : RB (sB (v 0).1) (v 0).2.1 := by rw [hS]; exact hR0
  have hQ : RW (sW (v 0).1) (v 0).2.2 := by rw [hS]; exact hQ0
  refine CX_lift (mX7_wishAt G hST (x.1 0) (x.1 1) (x.1 4) (x.1 6) (x.1 7) (x.2.1 3 0) (x.2.1 4 0) (aN A) (aC A) (aG A) (aH A) (aL A) (x.2.1 0) (v 0).1 (v 0).2.1 (v 0).2.2 k hI hT hR hQ ) (gSh_a G x tf tg tn hf ff v st) (fun r w hp => ⟨((tf, tg, tn), hf, ff, v, st), ?_, gSb_a G x tf tg tn hf ff v st⟩) (fun c w hp => ⟨((tf, tg, tn), hf, ff, v, st), ?_, gSb_a G x tf tg tn hf ff v st⟩)
  · rw [hS] at hp
    have h1 : (fWish A k).1 = 0 ∧ r = (fWish A k).2.1 := hp
    exact ⟨h1.1, h1.2, by rw [fWish_A]; exact hC⟩
  · rw [hS] at hp
    obtain ⟨z0, h1, h2⟩ : ∃ z0, (fWish A k).1 = z0 + 1 ∧ (["java/lang/IllegalArgumentException"] : List String)[z0]? = some c := hp
    exact ⟨z0, h1, h2, by rw [fWish_A]; exact hC⟩
set_option maxHeartbeats 4000000 in
set_option maxRecDepth 100000 in
theorem lX7_setting {G : gG} {x : gVa} {u : gVu} {A : gA} {b : Nat} (hST : (gl G).stackTraces = false) (hA : gAok b A) (hb : b ≤ 50000) (hC : gClsI A u) (y : Int32) : CX G yX7_setting wsX7_setting 6 110 [.ref (x.1 0), .int y] (wV G x u) (fun (r : Int32) (w : gVu) => gClsP (fSett A y) r w) (fun (cls : String) (w : gVu) => gClsX (fSett A y) ["java/lang/IllegalArgumentException"] cls w) (fun w : gVu => wV G x w) 1 6 := by
  obtain ⟨⟨tf, tg, tn⟩, hf, ff, v, st⟩ := u
  obtain ⟨hS, hR0, hQ0⟩ : gUok (aS A) (v 0) := hC.2.2.1
  have hK : gI3 (v 0).1 := by rw [hS]; exact hA.2.1.1
  have hI : gI1 (v 0).1 := hK.1.1
  have hT5 : sN (v 0).1 0 ≤ 50000 := by rw [hS]; exact Nat.le_trans hA.2.1.2.2 hb
  have hT : sN (v 0).1 0 < 1000000000 := by omega
  have hR : RB (sB (v 0).1) (v 0).2.1 := by rw [hS]; exact hR0
  have hQ : RW (sW (v 0).1) (v 0).2.2 := by rw [hS]; exact hQ0
  refine CX_lift (mX7_setting G hST (x.1 0) (x.1 1) (x.1 4) (x.1 6) (x.1 7) (x.2.1 3 0) (x.2.1 4 0) (aN A) (aC A) (aG A) (aH A) (aL A) (x.2.1 0) (v 0).1 (v 0).2.1 (v 0).2.2 y hI hT hR hQ ) (gSh_a G x tf tg tn hf ff v st) (fun r w hp => ⟨((tf, tg, tn), hf, ff, v, st), ?_, gSb_a G x tf tg tn hf ff v st⟩) (fun c w hp => ⟨((tf, tg, tn), hf, ff, v, st), ?_, gSb_a G x tf tg tn hf ff v st⟩)
  · rw [hS] at hp
    have h1 : (fSett A y).1 = 0 ∧ r = (fSett A y).2.1 := hp
    exact ⟨h1.1, h1.2, by rw [fSett_A]; exact hC⟩
  · rw [hS] at hp
    obtain ⟨z0, h1, h2⟩ : ∃ z0, (fSett A y).1 = z0 + 1 ∧ (["java/lang/IllegalArgumentException"] : List String)[z0]? = some c := hp
    exact ⟨z0, h1, h2, by rw [fSett_A]; exact hC⟩
set_option maxHeartbeats 4000000 in
set_option maxRecDepth 100000 in
theorem lX7_whyNot {G : gG} {x : gVa} {u : gVu} {A : gA} {b : Nat} (hST : (gl G).stackTraces = false) (hA : gAok b A) (hb : b ≤ 50000) (hC : gClsI A u) (p q d h : Int32) : CX G yX7_whyNot wsX7_whyNot 6 112 [.ref (x.1 0), .int p, .int q, .int d, .int h] (wV G x u) (fun (r : Int32) (w : gVu) => gClsP (fWhy A p q d h) r w) (fun (cls : String) (w : gVu) => gClsX (fWhy A p q d h) ["java/lang/IndexOutOfBoundsException", "java/lang/IllegalArgumentException"] cls w) (fun w : gVu => wV G x w) 1 6 := by
  obtain ⟨⟨tf, tg, tn⟩, hf, ff, v, st⟩ := u
  obtain ⟨hS, hR0, hQ0⟩ : gUok (aS A) (v 0) := hC.2.2.1
  have hK : gI3 (v 0).1 := by rw [hS]; exact hA.2.1.1
  have hI : gI1 (v 0).1 := hK.1.1
  have hT5 : sN (v 0).1 0 ≤ 50000 := by rw [hS]; exact Nat.le_trans hA.2.1.2.2 hb
  have hT : sN (v 0).1 0 < 1000000000 := by omega
  have hR : RB (sB (v 0).1) (v 0).2.1 := by rw [hS]; exact hR0
  have hQ : RW (sW (v 0).1) (v 0).2.2 := by rw [hS]; exact hQ0
  refine CX_lift (mX7_whyNot G hST (x.1 0) (x.1 1) (x.1 4) (x.1 6) (x.1 7) (x.2.1 3 0) (x.2.1 4 0) (aN A) (aC A) (aG A) (aH A) (aL A) (x.2.1 0) (v 0).1 (v 0).2.1 (v 0).2.2 p q d h hI hT hR hQ ) (gSh_a G x tf tg tn hf ff v st) (fun r w hp => ⟨((tf, tg, tn), hf, ff, v, st), ?_, gSb_a G x tf tg tn hf ff v st⟩) (fun c w hp => ⟨((tf, tg, tn), hf, ff, v, st), ?_, gSb_a G x tf tg tn hf ff v st⟩)
  · rw [hS] at hp
    have h1 : (fWhy A p q d h).1 = 0 ∧ r = (fWhy A p q d h).2.1 := hp
    exact ⟨h1.1, h1.2, by rw [fWhy_A]; exact hC⟩
  · rw [hS] at hp
    obtain ⟨z0, h1, h2⟩ : ∃ z0, (fWhy A p q d h).1 = z0 + 1 ∧ (["java/lang/IndexOutOfBoundsException", "java/lang/IllegalArgumentException"] : List String)[z0]? = some c := hp
    exact ⟨z0, h1, h2, by rw [fWhy_A]; exact hC⟩
set_option maxHeartbeats 4000000 in
set_option maxRecDepth 100000 in
theorem lX7_firstTime {G : gG} {x : gVa} {u : gVu} {A : gA} {b : Nat} (hST : (gl G).stackTraces = false) (hA : gAok b A) (hb : b ≤ 50000) (hC : gClsI A u) (p q : Int32) : CX G yX7_firstTime wsX7_firstTime 6 113 [.ref (x.1 0), .int p, .int q] (wV G x u) (fun (r : Int32) (w : gVu) => gClsP (fFirst A p q) r w) (fun (cls : String) (w : gVu) => gClsX (fFirst A p q) ["java/lang/IndexOutOfBoundsException"] cls w) (fun w : gVu => wV G x w) 1 6 := by
  obtain ⟨⟨tf, tg, tn⟩, hf, ff, v, st⟩ := u
  obtain ⟨hS, hR0, hQ0⟩ : gUok (aS A) (v 0) := hC.2.2.1
  have hK : gI3 (v 0).1 := by rw [hS]; exact hA.2.1.1
  have hI : gI1 (v 0).1 := hK.1.1
  have hT5 : sN (v 0).1 0 ≤ 50000 := by rw [hS]; exact Nat.le_trans hA.2.1.2.2 hb
  have hT : sN (v 0).1 0 < 1000000000 := by omega
  have hR : RB (sB (v 0).1) (v 0).2.1 := by rw [hS]; exact hR0
  have hQ : RW (sW (v 0).1) (v 0).2.2 := by rw [hS]; exact hQ0
  refine CX_lift (mX7_firstTime G hST (x.1 0) (x.1 1) (x.1 4) (x.1 6) (x.1 7) (x.2.1 3 0) (x.2.1 4 0) (aN A) (aC A) (aG A) (aH A) (aL A) (x.2.1 0) (v 0).1 (v 0).2.1 (v 0).2.2 p q hI hT hR hQ ) (gSh_a G x tf tg tn hf ff v st) (fun r w hp => ⟨((tf, tg, tn), hf, ff, v, st), ?_, gSb_a G x tf tg tn hf ff v st⟩) (fun c w hp => ⟨((tf, tg, tn), hf, ff, v, st), ?_, gSb_a G x tf tg tn hf ff v st⟩)
  · rw [hS] at hp
    have h1 : (fFirst A p q).1 = 0 ∧ r = (fFirst A p q).2.1 := hp
    exact ⟨h1.1, h1.2, by rw [fFirst_A]; exact hC⟩
  · rw [hS] at hp
    obtain ⟨z0, h1, h2⟩ : ∃ z0, (fFirst A p q).1 = z0 + 1 ∧ (["java/lang/IndexOutOfBoundsException"] : List String)[z0]? = some c := hp
    exact ⟨z0, h1, h2, by rw [fFirst_A]; exact hC⟩
set_option maxHeartbeats 4000000 in
set_option maxRecDepth 100000 in
theorem lX7_coming {G : gG} {x : gVa} {u : gVu} {A : gA} {b : Nat} (hST : (gl G).stackTraces = false) (hA : gAok b A) (hb : b ≤ 50000) (hC : gClsI A u) (p y : Int32) : CX G yX7_coming wsX7_coming 6 163 [.ref (x.1 0), .int p, .int y] (wV G x u) (fun (r : Int32) (w : gVu) => gClsP (fComing A p y) r w) (fun (cls : String) (w : gVu) => gClsX (fComing A p y) ["java/lang/IllegalArgumentException"] cls w) (fun w : gVu => wV G x w) 1 6 := by
  obtain ⟨⟨tf, tg, tn⟩, hf, ff, v, st⟩ := u
  obtain ⟨hS, hR0, hQ0⟩ : gUok (aS A) (v 0) := hC.2.2.1
  have hK : gI3 (v 0).1 := by rw [hS]; exact hA.2.1.1
  have hI : gI1 (v 0).1 := hK.1.1
  have hT5 : sN (v 0).1 0 ≤ 50000 := by rw [hS]; exact Nat.le_trans hA.2.1.2.2 hb
  have hT : sN (v 0).1 0 < 1000000000 := by omega
  have hR : RB (sB (v 0).1) (v 0).2.1 := by rw [hS]; exact hR0
  have hQ : RW (sW (v 0).1) (v 0).2.2 := by rw [hS]; exact hQ0
  refine CX_lift (mX7_coming G hST (x.1 0) (x.1 1) (x.1 4) (x.1 6) (x.1 7) (x.2.1 4 0) (aC A) A.1 (aH A) (aL A) (x.2.1 0) (v 0).1 (v 0).2.1 (v 0).2.2 (x.2.1 3) (v 3).1 (v 3).2.1 (v 3).2.2 p y hI hT hR hQ hK (by omega)) (gSh_c G x tf tg tn hf ff v st) (fun r w hp => ⟨((tf, tg, tn), hf, ff, gUpd v 3 w, st), ?_, gSb_c G x tf tg tn hf ff (gUpd v 3 w) st⟩) (fun c w hp => ⟨((tf, tg, tn), hf, ff, gUpd v 3 w, st), ?_, gSb_c G x tf tg tn hf ff (gUpd v 3 w) st⟩)
  · rw [hS] at hp
    have h1 : (fComing A p y).1 = 0 ∧ r = (fComing A p y).2.1 := hp
    exact ⟨h1.1, h1.2, by rw [fComing_A]; exact gCls_copy hC w⟩
  · rw [hS] at hp
    obtain ⟨z0, h1, h2⟩ : ∃ z0, (fComing A p y).1 = z0 + 1 ∧ (["java/lang/IllegalArgumentException"] : List String)[z0]? = some c := hp
    exact ⟨z0, h1, h2, by rw [fComing_A]; exact gCls_copy hC w⟩
set_option maxHeartbeats 4000000 in
set_option maxRecDepth 100000 in
theorem lX7_becomes {G : gG} {x : gVa} {u : gVu} {A : gA} {b : Nat} (hST : (gl G).stackTraces = false) (hA : gAok b A) (hb : b ≤ 50000) (hC : gClsI A u) (k : Int32) : CX G yX7_becomes wsX7_becomes 6 190 [.ref (x.1 0), .int k] (wV G x u) (fun (r : Int32) (w : gVu) => gClsP (fBecomes A k) r w) (fun (cls : String) (w : gVu) => gClsX (fBecomes A k) ["java/lang/IndexOutOfBoundsException", "java/lang/IllegalStateException"] cls w) (fun w : gVu => wV G x w) 1 6 := by
  obtain ⟨⟨tf, tg, tn⟩, hf, ff, v, st⟩ := u
  obtain ⟨hS, hR0, hQ0⟩ : gUok (aS A) (v 0) := hC.2.2.1
  have hK : gI3 (v 0).1 := by rw [hS]; exact hA.2.1.1
  have hI : gI1 (v 0).1 := hK.1.1
  have hT5 : sN (v 0).1 0 ≤ 50000 := by rw [hS]; exact Nat.le_trans hA.2.1.2.2 hb
  have hT : sN (v 0).1 0 < 1000000000 := by omega
  have hR : RB (sB (v 0).1) (v 0).2.1 := by rw [hS]; exact hR0
  have hQ : RW (sW (v 0).1) (v 0).2.2 := by rw [hS]; exact hQ0
  refine CX_lift (mX7_becomes G hST (x.1 0) (x.1 1) (x.1 4) (x.1 6) (x.1 7) (x.2.1 4 0) (aC A) A.1 (aH A) (aL A) (x.2.1 0) (v 0).1 (v 0).2.1 (v 0).2.2 (x.2.1 3) (v 3).1 (v 3).2.1 (v 3).2.2 k hI hT hR hQ hK (by omega)) (gSh_c G x tf tg tn hf ff v st) (fun r w hp => ⟨((tf, tg, tn), hf, ff, gUpd v 3 w, st), ?_, gSb_c G x tf tg tn hf ff (gUpd v 3 w) st⟩) (fun c w hp => ⟨((tf, tg, tn), hf, ff, gUpd v 3 w, st), ?_, gSb_c G x tf tg tn hf ff (gUpd v 3 w) st⟩)
  · rw [hS] at hp
    have h1 : (fBecomes A k).1 = 0 ∧ r = (fBecomes A k).2.1 := hp
    exact ⟨h1.1, h1.2, by rw [fBecomes_A]; exact gCls_copy hC w⟩
  · rw [hS] at hp
    obtain ⟨z0, h1, h2⟩ : ∃ z0, (fBecomes A k).1 = z0 + 1 ∧ (["java/lang/IndexOutOfBoundsException", "java/lang/IllegalStateException"] : List String)[z0]? = some c := hp
    exact ⟨z0, h1, h2, by rw [fBecomes_A]; exact gCls_copy hC w⟩
set_option maxHeartbeats 4000000 in
set_option maxRecDepth 100000 in
theorem lX7_runScript {G : gG} {x : gVa} {u : gVu} {A : gA} {b : Nat} (hST : (gl G).stackTraces = false) (hA : gAok b A) (hb : b ≤ 50000) (hC : gClsI A u) (p : Int32) (y : Int64) : CX G yX7_runScript wsX7_runScript 6 189 [.ref (x.1 0), .int p, .long y] (wV G x u) (fun (r : Int32) (w : gVu) => gClsP (fScript A p y) r w) (fun (cls : String) (w : gVu) => gClsX (fScript A p y) ["java/lang/IllegalArgumentException"] cls w) (fun w : gVu => wV G x w) 1 6 := by
  obtain ⟨⟨tf, tg, tn⟩, hf, ff, v, st⟩ := u
  obtain ⟨hS, hR0, hQ0⟩ : gUok (aS A) (v 0) := hC.2.2.1
  have hK : gI3 (v 0).1 := by rw [hS]; exact hA.2.1.1
  have hI : gI1 (v 0).1 := hK.1.1
  have hT5 : sN (v 0).1 0 ≤ 50000 := by rw [hS]; exact Nat.le_trans hA.2.1.2.2 hb
  have hT : sN (v 0).1 0 < 1000000000 := by omega
  have hR : RB (sB (v 0).1) (v 0).2.1 := by rw [hS]; exact hR0
  have hQ : RW (sW (v 0).1) (v 0).2.2 := by rw [hS]; exact hQ0
  refine CX_lift (mX7_runScript G hST (x.1 0) (x.1 1) (x.1 4) (x.1 6) (x.1 7) (x.2.1 4 0) (aC A) A.1 (aH A) (aL A) (x.2.1 0) (v 0).1 (v 0).2.1 (v 0).2.2 (x.2.1 3) (v 3).1 (v 3).2.1 (v 3).2.2 p y hI hT hR hQ hK (by omega)) (gSh_c G x tf tg tn hf ff v st) (fun r w hp => ⟨((tf, tg, tn), hf, ff, gUpd v 3 w, st), ?_, gSb_c G x tf tg tn hf ff (gUpd v 3 w) st⟩) (fun c w hp => ⟨((tf, tg, tn), hf, ff, gUpd v 3 w, st), ?_, gSb_c G x tf tg tn hf ff (gUpd v 3 w) st⟩)
  · rw [hS] at hp
    have h1 : (fScript A p y).1 = 0 ∧ r = (fScript A p y).2.1 := hp
    exact ⟨h1.1, h1.2, by rw [fScript_A]; exact gCls_copy hC w⟩
  · rw [hS] at hp
    obtain ⟨z0, h1, h2⟩ : ∃ z0, (fScript A p y).1 = z0 + 1 ∧ (["java/lang/IllegalArgumentException"] : List String)[z0]? = some c := hp
    exact ⟨z0, h1, h2, by rw [fScript_A]; exact gCls_copy hC w⟩
set_option maxHeartbeats 4000000 in
set_option maxRecDepth 100000 in
theorem lX7_simulate {G : gG} {x : gVa} {u : gVu} {A : gA} {b : Nat} (hST : (gl G).stackTraces = false) (hA : gAok b A) (hb : b ≤ 50000) (hC : gClsI A u) (y : Int64) (p : Int32) : CX G yX7_simulate wsX7_simulate 6 186 [.ref (x.1 0), .long y, .int p] (wV G x u) (fun (r : Int32) (w : gVu) => gClsP (fSim A y p) r w) (fun (cls : String) (w : gVu) => gClsX (fSim A y p) ["java/lang/IllegalArgumentException"] cls w) (fun w : gVu => wV G x w) 1 6 := by
  obtain ⟨⟨tf, tg, tn⟩, hf, ff, v, st⟩ := u
  obtain ⟨hS, hR0, hQ0⟩ : gUok (aS A) (v 0) := hC.2.2.1
  have hK : gI3 (v 0).1 := by rw [hS]; exact hA.2.1.1
  have hI : gI1 (v 0).1 := hK.1.1
  have hT5 : sN (v 0).1 0 ≤ 50000 := by rw [hS]; exact Nat.le_trans hA.2.1.2.2 hb
  have hT : sN (v 0).1 0 < 1000000000 := by omega
  have hR : RB (sB (v 0).1) (v 0).2.1 := by rw [hS]; exact hR0
  have hQ : RW (sW (v 0).1) (v 0).2.2 := by rw [hS]; exact hQ0
  refine CX_lift (mX7_simulate G hST (x.1 0) (x.1 1) (x.1 4) (x.1 6) (x.1 7) (x.2.1 4 0) (aC A) A.1 (aH A) (aL A) (x.2.1 0) (v 0).1 (v 0).2.1 (v 0).2.2 (x.2.1 3) (v 3).1 (v 3).2.1 (v 3).2.2 y p hI hT hR hQ hK (by omega)) (gSh_c G x tf tg tn hf ff v st) (fun r w hp => ⟨((tf, tg, tn), hf, ff, gUpd v 3 w, st), ?_, gSb_c G x tf tg tn hf ff (gUpd v 3 w) st⟩) (fun c w hp => ⟨((tf, tg, tn), hf, ff, gUpd v 3 w, st), ?_, gSb_c G x tf tg tn hf ff (gUpd v 3 w) st⟩)
  · rw [hS] at hp
    have h1 : (fSim A y p).1 = 0 ∧ r = (fSim A y p).2.1 := hp
    exact ⟨h1.1, h1.2, by rw [fSim_A]; exact gCls_copy hC w⟩
  · rw [hS] at hp
    obtain ⟨z0, h1, h2⟩ : ∃ z0, (fSim A y p).1 = z0 + 1 ∧ (["java/lang/IllegalArgumentException"] : List String)[z0]? = some c := hp
    exact ⟨z0, h1, h2, by rw [fSim_A]; exact gCls_copy hC w⟩
set_option maxHeartbeats 4000000 in
set_option maxRecDepth 100000 in
theorem lX7_addPrisoner {G : gG} {x : gVa} {u : gVu} {A : gA} {b : Nat} (hST : (gl G).stackTraces = false) (hA : gAok b A) (hb : b ≤ 50000) (hC : gClsI A u) (z : Int32) : CX G yX7_addPrisoner wsX7_addPrisoner 7 131 [.ref (x.1 0), .int z] (wV G x u) (fun (r : Int32) (w : gVu) => gClsP (aAct 0 1 2 A (gTryAdd (aS A) z)) r w) (fun (cls : String) (w : gVu) => gClsX (aAct 0 1 2 A (gTryAdd (aS A) z)) ["java/lang/IllegalArgumentException", "java/lang/IllegalStateException"] cls w) (fun w : gVu => wV G x w) 1 6 := by
  obtain ⟨⟨tf, tg, tn⟩, hf, ff, v, st⟩ := u
  obtain ⟨hS, hR0, hQ0⟩ : gUok (aS A) (v 0) := hC.2.2.1
  have hK : gI3 (v 0).1 := by rw [hS]; exact hA.2.1.1
  have hI : gI1 (v 0).1 := hK.1.1
  have hT5 : sN (v 0).1 0 ≤ 50000 := by rw [hS]; exact Nat.le_trans hA.2.1.2.2 hb
  have hT : sN (v 0).1 0 < 1000000000 := by omega
  have hR : RB (sB (v 0).1) (v 0).2.1 := by rw [hS]; exact hR0
  have hQ : RW (sW (v 0).1) (v 0).2.2 := by rw [hS]; exact hQ0
  obtain ⟨nx, hn15, e0, e1, hrow⟩ := hC.2.2.2.1
  have hRG : gRg (aC A) (aH A) nx st := ⟨hn15, hrow⟩
  have e0' : hf 0 = nI (aC A) := e0
  have e1' : hf 1 = nI nx := e1
  refine CX_lift (mX7_addPrisoner G hST (x.1 0) (x.1 1) (x.1 6) (x.1 7) (x.2.1 3 0) (x.2.1 4 0) (x.1 4) (x.1 5) (aC A) nx x.2.2 st A.1 (aH A) (aL A) (x.2.1 0) (v 0).1 (v 0).2.1 (v 0).2.2 z hI hT hR hQ hK hRG hA.2.2.1 ) (by rw [← e0', ← e1']; exact gSh_h G x tf tg tn hf ff v st) (fun r w hp => ⟨((tf, tg, tn), (fun i => if i = 0 then nI w.2.1.1 else nI w.2.1.2), ff, gUpd v 0 w.1, w.2.2), ?_, gSb_h G x tf tg tn (fun i => if i = 0 then nI w.2.1.1 else nI w.2.1.2) ff (gUpd v 0 w.1) w.2.2⟩) (fun c w hp => ⟨((tf, tg, tn), (fun i => if i = 0 then nI w.2.1.1 else nI w.2.1.2), ff, gUpd v 0 w.1, w.2.2), ?_, gSb_h G x tf tg tn (fun i => if i = 0 then nI w.2.1.1 else nI w.2.1.2) ff (gUpd v 0 w.1) w.2.2⟩)
  · rw [hS] at hp
    have h1 : (aAct 0 1 2 A (gTryAdd (aS A) z)).1 = 0 ∧ r = (aAct 0 1 2 A (gTryAdd (aS A) z)).2.1 ∧ gAp (aAct 0 1 2 A (gTryAdd (aS A) z)).2.2 w := hp
    exact ⟨h1.1, h1.2.1, gCls_act hC (aAct_A _ _ _ _ _).1 (aAct_A _ _ _ _ _).2 h1.2.2⟩
  · rw [hS] at hp
    obtain ⟨z0, h1, h2, h3⟩ : ∃ z0, (aAct 0 1 2 A (gTryAdd (aS A) z)).1 = z0 + 1 ∧ (["java/lang/IllegalArgumentException", "java/lang/IllegalStateException"] : List String)[z0]? = some c ∧ gAp (aAct 0 1 2 A (gTryAdd (aS A) z)).2.2 w := hp
    exact ⟨z0, h1, h2, gCls_act hC (aAct_A _ _ _ _ _).1 (aAct_A _ _ _ _ _).2 h3⟩
set_option maxHeartbeats 4000000 in
set_option maxRecDepth 100000 in
theorem lX7_promote {G : gG} {x : gVa} {u : gVu} {A : gA} {b : Nat} (hST : (gl G).stackTraces = false) (hA : gAok b A) (hb : b ≤ 50000) (hC : gClsI A u) (p z : Int32) : CX G yX7_promote wsX7_promote 7 131 [.ref (x.1 0), .int p, .int z] (wV G x u) (fun (r : Int32) (w : gVu) => gClsP (aAct 1 2 0 A (gTryPromote (aS A) p z)) r w) (fun (cls : String) (w : gVu) => gClsX (aAct 1 2 0 A (gTryPromote (aS A) p z)) ["java/lang/IndexOutOfBoundsException", "java/lang/IllegalArgumentException"] cls w) (fun w : gVu => wV G x w) 1 6 := by
  obtain ⟨⟨tf, tg, tn⟩, hf, ff, v, st⟩ := u
  obtain ⟨hS, hR0, hQ0⟩ : gUok (aS A) (v 0) := hC.2.2.1
  have hK : gI3 (v 0).1 := by rw [hS]; exact hA.2.1.1
  have hI : gI1 (v 0).1 := hK.1.1
  have hT5 : sN (v 0).1 0 ≤ 50000 := by rw [hS]; exact Nat.le_trans hA.2.1.2.2 hb
  have hT : sN (v 0).1 0 < 1000000000 := by omega
  have hR : RB (sB (v 0).1) (v 0).2.1 := by rw [hS]; exact hR0
  have hQ : RW (sW (v 0).1) (v 0).2.2 := by rw [hS]; exact hQ0
  obtain ⟨nx, hn15, e0, e1, hrow⟩ := hC.2.2.2.1
  have hRG : gRg (aC A) (aH A) nx st := ⟨hn15, hrow⟩
  have e0' : hf 0 = nI (aC A) := e0
  have e1' : hf 1 = nI nx := e1
  refine CX_lift (mX7_promote G hST (x.1 0) (x.1 1) (x.1 6) (x.1 7) (x.2.1 3 0) (x.2.1 4 0) (x.1 4) (x.1 5) (aC A) nx x.2.2 st A.1 (aH A) (aL A) (x.2.1 0) (v 0).1 (v 0).2.1 (v 0).2.2 p z hI hT hR hQ hK hRG hA.2.2.1 ) (by rw [← e0', ← e1']; exact gSh_h G x tf tg tn hf ff v st) (fun r w hp => ⟨((tf, tg, tn), (fun i => if i = 0 then nI w.2.1.1 else nI w.2.1.2), ff, gUpd v 0 w.1, w.2.2), ?_, gSb_h G x tf tg tn (fun i => if i = 0 then nI w.2.1.1 else nI w.2.1.2) ff (gUpd v 0 w.1) w.2.2⟩) (fun c w hp => ⟨((tf, tg, tn), (fun i => if i = 0 then nI w.2.1.1 else nI w.2.1.2), ff, gUpd v 0 w.1, w.2.2), ?_, gSb_h G x tf tg tn (fun i => if i = 0 then nI w.2.1.1 else nI w.2.1.2) ff (gUpd v 0 w.1) w.2.2⟩)
  · rw [hS] at hp
    have h1 : (aAct 1 2 0 A (gTryPromote (aS A) p z)).1 = 0 ∧ r = (aAct 1 2 0 A (gTryPromote (aS A) p z)).2.1 ∧ gAp (aAct 1 2 0 A (gTryPromote (aS A) p z)).2.2 w := hp
    exact ⟨h1.1, h1.2.1, gCls_act hC (aAct_A _ _ _ _ _).1 (aAct_A _ _ _ _ _).2 h1.2.2⟩
  · rw [hS] at hp
    obtain ⟨z0, h1, h2, h3⟩ : ∃ z0, (aAct 1 2 0 A (gTryPromote (aS A) p z)).1 = z0 + 1 ∧ (["java/lang/IndexOutOfBoundsException", "java/lang/IllegalArgumentException"] : List String)[z0]? = some c ∧ gAp (aAct 1 2 0 A (gTryPromote (aS A) p z)).2.2 w := hp
    exact ⟨z0, h1, h2, gCls_act hC (aAct_A _ _ _ _ _).1 (aAct_A _ _ _ _ _).2 h3⟩
set_option maxHeartbeats 4000000 in
set_option maxRecDepth 100000 in
theorem lX7_list {G : gG} {x : gVa} {u : gVu} {A : gA} {b : Nat} (hST : (gl G).stackTraces = false) (hA : gAok b A) (hb : b ≤ 50000) (hC : gClsI A u) (p q z : Int32) : CX G yX7_list wsX7_list 7 131 [.ref (x.1 0), .int p, .int q, .int z] (wV G x u) (fun (r : Int32) (w : gVu) => gClsP (aAct 1 0 0 A (gTryList (aS A) p q z)) r w) (fun (cls : String) (w : gVu) => gClsX (aAct 1 0 0 A (gTryList (aS A) p q z)) ["java/lang/IndexOutOfBoundsException"] cls w) (fun w : gVu => wV G x w) 1 6 := by
  obtain ⟨⟨tf, tg, tn⟩, hf, ff, v, st⟩ := u
  obtain ⟨hS, hR0, hQ0⟩ : gUok (aS A) (v 0) := hC.2.2.1
  have hK : gI3 (v 0).1 := by rw [hS]; exact hA.2.1.1
  have hI : gI1 (v 0).1 := hK.1.1
  have hT5 : sN (v 0).1 0 ≤ 50000 := by rw [hS]; exact Nat.le_trans hA.2.1.2.2 hb
  have hT : sN (v 0).1 0 < 1000000000 := by omega
  have hR : RB (sB (v 0).1) (v 0).2.1 := by rw [hS]; exact hR0
  have hQ : RW (sW (v 0).1) (v 0).2.2 := by rw [hS]; exact hQ0
  obtain ⟨nx, hn15, e0, e1, hrow⟩ := hC.2.2.2.1
  have hRG : gRg (aC A) (aH A) nx st := ⟨hn15, hrow⟩
  have e0' : hf 0 = nI (aC A) := e0
  have e1' : hf 1 = nI nx := e1
  refine CX_lift (mX7_list G hST (x.1 0) (x.1 1) (x.1 6) (x.1 7) (x.2.1 3 0) (x.2.1 4 0) (x.1 4) (x.1 5) (aC A) nx x.2.2 st A.1 (aH A) (aL A) (x.2.1 0) (v 0).1 (v 0).2.1 (v 0).2.2 p q z hI hT hR hQ hK hRG hA.2.2.1 ) (by rw [← e0', ← e1']; exact gSh_h G x tf tg tn hf ff v st) (fun r w hp => ⟨((tf, tg, tn), (fun i => if i = 0 then nI w.2.1.1 else nI w.2.1.2), ff, gUpd v 0 w.1, w.2.2), ?_, gSb_h G x tf tg tn (fun i => if i = 0 then nI w.2.1.1 else nI w.2.1.2) ff (gUpd v 0 w.1) w.2.2⟩) (fun c w hp => ⟨((tf, tg, tn), (fun i => if i = 0 then nI w.2.1.1 else nI w.2.1.2), ff, gUpd v 0 w.1, w.2.2), ?_, gSb_h G x tf tg tn (fun i => if i = 0 then nI w.2.1.1 else nI w.2.1.2) ff (gUpd v 0 w.1) w.2.2⟩)
  · rw [hS] at hp
    have h1 : (aAct 1 0 0 A (gTryList (aS A) p q z)).1 = 0 ∧ r = (aAct 1 0 0 A (gTryList (aS A) p q z)).2.1 ∧ gAp (aAct 1 0 0 A (gTryList (aS A) p q z)).2.2 w := hp
    exact ⟨h1.1, h1.2.1, gCls_act hC (aAct_A _ _ _ _ _).1 (aAct_A _ _ _ _ _).2 h1.2.2⟩
  · rw [hS] at hp
    obtain ⟨z0, h1, h2, h3⟩ : ∃ z0, (aAct 1 0 0 A (gTryList (aS A) p q z)).1 = z0 + 1 ∧ (["java/lang/IndexOutOfBoundsException"] : List String)[z0]? = some c ∧ gAp (aAct 1 0 0 A (gTryList (aS A) p q z)).2.2 w := hp
    exact ⟨z0, h1, h2, gCls_act hC (aAct_A _ _ _ _ _).1 (aAct_A _ _ _ _ _).2 h3⟩
set_option maxHeartbeats 4000000 in
set_option maxRecDepth 100000 in
theorem lX7_keepApart {G : gG} {x : gVa} {u : gVu} {A : gA} {b : Nat} (hST : (gl G).stackTraces = false) (hA : gAok b A) (hb : b ≤ 50000) (hC : gClsI A u) (p q z : Int32) : CX G yX7_keepApart wsX7_keepApart 7 131 [.ref (x.1 0), .int p, .int q, .int z] (wV G x u) (fun (r : Int32) (w : gVu) => gClsP (aAct 1 0 2 A (gTryApart (aS A) p q z)) r w) (fun (cls : String) (w : gVu) => gClsX (aAct 1 0 2 A (gTryApart (aS A) p q z)) ["java/lang/IndexOutOfBoundsException", "java/lang/IllegalStateException"] cls w) (fun w : gVu => wV G x w) 1 6 := by
  obtain ⟨⟨tf, tg, tn⟩, hf, ff, v, st⟩ := u
  obtain ⟨hS, hR0, hQ0⟩ : gUok (aS A) (v 0) := hC.2.2.1
  have hK : gI3 (v 0).1 := by rw [hS]; exact hA.2.1.1
  have hI : gI1 (v 0).1 := hK.1.1
  have hT5 : sN (v 0).1 0 ≤ 50000 := by rw [hS]; exact Nat.le_trans hA.2.1.2.2 hb
  have hT : sN (v 0).1 0 < 1000000000 := by omega
  have hR : RB (sB (v 0).1) (v 0).2.1 := by rw [hS]; exact hR0
  have hQ : RW (sW (v 0).1) (v 0).2.2 := by rw [hS]; exact hQ0
  obtain ⟨nx, hn15, e0, e1, hrow⟩ := hC.2.2.2.1
  have hRG : gRg (aC A) (aH A) nx st := ⟨hn15, hrow⟩
  have e0' : hf 0 = nI (aC A) := e0
  have e1' : hf 1 = nI nx := e1
  refine CX_lift (mX7_keepApart G hST (x.1 0) (x.1 1) (x.1 6) (x.1 7) (x.2.1 3 0) (x.2.1 4 0) (x.1 4) (x.1 5) (aC A) nx x.2.2 st A.1 (aH A) (aL A) (x.2.1 0) (v 0).1 (v 0).2.1 (v 0).2.2 p q z hI hT hR hQ hK hRG hA.2.2.1 ) (by rw [← e0', ← e1']; exact gSh_h G x tf tg tn hf ff v st) (fun r w hp => ⟨((tf, tg, tn), (fun i => if i = 0 then nI w.2.1.1 else nI w.2.1.2), ff, gUpd v 0 w.1, w.2.2), ?_, gSb_h G x tf tg tn (fun i => if i = 0 then nI w.2.1.1 else nI w.2.1.2) ff (gUpd v 0 w.1) w.2.2⟩) (fun c w hp => ⟨((tf, tg, tn), (fun i => if i = 0 then nI w.2.1.1 else nI w.2.1.2), ff, gUpd v 0 w.1, w.2.2), ?_, gSb_h G x tf tg tn (fun i => if i = 0 then nI w.2.1.1 else nI w.2.1.2) ff (gUpd v 0 w.1) w.2.2⟩)
  · rw [hS] at hp
    have h1 : (aAct 1 0 2 A (gTryApart (aS A) p q z)).1 = 0 ∧ r = (aAct 1 0 2 A (gTryApart (aS A) p q z)).2.1 ∧ gAp (aAct 1 0 2 A (gTryApart (aS A) p q z)).2.2 w := hp
    exact ⟨h1.1, h1.2.1, gCls_act hC (aAct_A _ _ _ _ _).1 (aAct_A _ _ _ _ _).2 h1.2.2⟩
  · rw [hS] at hp
    obtain ⟨z0, h1, h2, h3⟩ : ∃ z0, (aAct 1 0 2 A (gTryApart (aS A) p q z)).1 = z0 + 1 ∧ (["java/lang/IndexOutOfBoundsException", "java/lang/IllegalStateException"] : List String)[z0]? = some c ∧ gAp (aAct 1 0 2 A (gTryApart (aS A) p q z)).2.2 w := hp
    exact ⟨z0, h1, h2, gCls_act hC (aAct_A _ _ _ _ _).1 (aAct_A _ _ _ _ _).2 h3⟩
set_option maxHeartbeats 4000000 in
set_option maxRecDepth 100000 in
theorem lX7_book {G : gG} {x : gVa} {u : gVu} {A : gA} {b : Nat} (hST : (gl G).stackTraces = false) (hA : gAok b A) (hb : b ≤ 50000) (hC : gClsI A u) (p q d h : Int32) : CX G yX7_book wsX7_book 7 136 [.ref (x.1 0), .int p, .int q, .int d, .int h] (wV G x u) (fun (r : Int32) (w : gVu) => gClsP (aAct 1 2 3 A (gTryBook (aS A) p q d h)) r w) (fun (cls : String) (w : gVu) => gClsX (aAct 1 2 3 A (gTryBook (aS A) p q d h)) ["java/lang/IndexOutOfBoundsException", "java/lang/IllegalArgumentException", "java/lang/IllegalStateException"] cls w) (fun w : gVu => wV G x w) 1 6 := by
  obtain ⟨⟨tf, tg, tn⟩, hf, ff, v, st⟩ := u
  obtain ⟨hS, hR0, hQ0⟩ : gUok (aS A) (v 0) := hC.2.2.1
  have hK : gI3 (v 0).1 := by rw [hS]; exact hA.2.1.1
  have hI : gI1 (v 0).1 := hK.1.1
  have hT5 : sN (v 0).1 0 ≤ 50000 := by rw [hS]; exact Nat.le_trans hA.2.1.2.2 hb
  have hT : sN (v 0).1 0 < 1000000000 := by omega
  have hR : RB (sB (v 0).1) (v 0).2.1 := by rw [hS]; exact hR0
  have hQ : RW (sW (v 0).1) (v 0).2.2 := by rw [hS]; exact hQ0
  obtain ⟨nx, hn15, e0, e1, hrow⟩ := hC.2.2.2.1
  have hRG : gRg (aC A) (aH A) nx st := ⟨hn15, hrow⟩
  have e0' : hf 0 = nI (aC A) := e0
  have e1' : hf 1 = nI nx := e1
  refine CX_lift (mX7_book G hST (x.1 0) (x.1 1) (x.1 6) (x.1 7) (x.2.1 3 0) (x.2.1 4 0) (x.1 4) (x.1 5) (aC A) nx x.2.2 st A.1 (aH A) (aL A) (x.2.1 0) (v 0).1 (v 0).2.1 (v 0).2.2 p q d h hI hT hR hQ hK hRG hA.2.2.1 ) (by rw [← e0', ← e1']; exact gSh_h G x tf tg tn hf ff v st) (fun r w hp => ⟨((tf, tg, tn), (fun i => if i = 0 then nI w.2.1.1 else nI w.2.1.2), ff, gUpd v 0 w.1, w.2.2), ?_, gSb_h G x tf tg tn (fun i => if i = 0 then nI w.2.1.1 else nI w.2.1.2) ff (gUpd v 0 w.1) w.2.2⟩) (fun c w hp => ⟨((tf, tg, tn), (fun i => if i = 0 then nI w.2.1.1 else nI w.2.1.2), ff, gUpd v 0 w.1, w.2.2), ?_, gSb_h G x tf tg tn (fun i => if i = 0 then nI w.2.1.1 else nI w.2.1.2) ff (gUpd v 0 w.1) w.2.2⟩)
  · rw [hS] at hp
    have h1 : (aAct 1 2 3 A (gTryBook (aS A) p q d h)).1 = 0 ∧ r = (aAct 1 2 3 A (gTryBook (aS A) p q d h)).2.1 ∧ gAp (aAct 1 2 3 A (gTryBook (aS A) p q d h)).2.2 w := hp
    exact ⟨h1.1, h1.2.1, gCls_act hC (aAct_A _ _ _ _ _).1 (aAct_A _ _ _ _ _).2 h1.2.2⟩
  · rw [hS] at hp
    obtain ⟨z0, h1, h2, h3⟩ : ∃ z0, (aAct 1 2 3 A (gTryBook (aS A) p q d h)).1 = z0 + 1 ∧ (["java/lang/IndexOutOfBoundsException", "java/lang/IllegalArgumentException", "java/lang/IllegalStateException"] : List String)[z0]? = some c ∧ gAp (aAct 1 2 3 A (gTryBook (aS A) p q d h)).2.2 w := hp
    exact ⟨z0, h1, h2, gCls_act hC (aAct_A _ _ _ _ _).1 (aAct_A _ _ _ _ _).2 h3⟩
set_option maxHeartbeats 4000000 in
set_option maxRecDepth 100000 in
theorem lX7_cancel {G : gG} {x : gVa} {u : gVu} {A : gA} {b : Nat} (hST : (gl G).stackTraces = false) (hA : gAok b A) (hb : b ≤ 50000) (hC : gClsI A u) (k : Int32) : CX G yX7_cancel wsX7_cancel 7 131 [.ref (x.1 0), .int k] (wV G x u) (fun (r : Int32) (w : gVu) => gClsP (aAct 1 0 0 A (gTryCancel (aS A) k)) r w) (fun (cls : String) (w : gVu) => gClsX (aAct 1 0 0 A (gTryCancel (aS A) k)) ["java/lang/IndexOutOfBoundsException"] cls w) (fun w : gVu => wV G x w) 1 6 := by
  obtain ⟨⟨tf, tg, tn⟩, hf, ff, v, st⟩ := u
  obtain ⟨hS, hR0, hQ0⟩ : gUok (aS A) (v 0) := hC.2.2.1
  have hK : gI3 (v 0).1 := by rw [hS]; exact hA.2.1.1
  have hI : gI1 (v 0).1 := hK.1.1
  have hT5 : sN (v 0).1 0 ≤ 50000 := by rw [hS]; exact Nat.le_trans hA.2.1.2.2 hb
  have hT : sN (v 0).1 0 < 1000000000 := by omega
  have hR : RB (sB (v 0).1) (v 0).2.1 := by rw [hS]; exact hR0
  have hQ : RW (sW (v 0).1) (v 0).2.2 := by rw [hS]; exact hQ0
  obtain ⟨nx, hn15, e0, e1, hrow⟩ := hC.2.2.2.1
  have hRG : gRg (aC A) (aH A) nx st := ⟨hn15, hrow⟩
  have e0' : hf 0 = nI (aC A) := e0
  have e1' : hf 1 = nI nx := e1
  refine CX_lift (mX7_cancel G hST (x.1 0) (x.1 1) (x.1 6) (x.1 7) (x.2.1 3 0) (x.2.1 4 0) (x.1 4) (x.1 5) (aC A) nx x.2.2 st A.1 (aH A) (aL A) (x.2.1 0) (v 0).1 (v 0).2.1 (v 0).2.2 k hI hT hR hQ hK hRG hA.2.2.1 ) (by rw [← e0', ← e1']; exact gSh_h G x tf tg tn hf ff v st) (fun r w hp => ⟨((tf, tg, tn), (fun i => if i = 0 then nI w.2.1.1 else nI w.2.1.2), ff, gUpd v 0 w.1, w.2.2), ?_, gSb_h G x tf tg tn (fun i => if i = 0 then nI w.2.1.1 else nI w.2.1.2) ff (gUpd v 0 w.1) w.2.2⟩) (fun c w hp => ⟨((tf, tg, tn), (fun i => if i = 0 then nI w.2.1.1 else nI w.2.1.2), ff, gUpd v 0 w.1, w.2.2), ?_, gSb_h G x tf tg tn (fun i => if i = 0 then nI w.2.1.1 else nI w.2.1.2) ff (gUpd v 0 w.1) w.2.2⟩)
  · rw [hS] at hp
    have h1 : (aAct 1 0 0 A (gTryCancel (aS A) k)).1 = 0 ∧ r = (aAct 1 0 0 A (gTryCancel (aS A) k)).2.1 ∧ gAp (aAct 1 0 0 A (gTryCancel (aS A) k)).2.2 w := hp
    exact ⟨h1.1, h1.2.1, gCls_act hC (aAct_A _ _ _ _ _).1 (aAct_A _ _ _ _ _).2 h1.2.2⟩
  · rw [hS] at hp
    obtain ⟨z0, h1, h2, h3⟩ : ∃ z0, (aAct 1 0 0 A (gTryCancel (aS A) k)).1 = z0 + 1 ∧ (["java/lang/IndexOutOfBoundsException"] : List String)[z0]? = some c ∧ gAp (aAct 1 0 0 A (gTryCancel (aS A) k)).2.2 w := hp
    exact ⟨z0, h1, h2, gCls_act hC (aAct_A _ _ _ _ _).1 (aAct_A _ _ _ _ _).2 h3⟩
set_option maxHeartbeats 4000000 in
set_option maxRecDepth 100000 in
theorem lX7_late {G : gG} {x : gVa} {u : gVu} {A : gA} {b : Nat} (hST : (gl G).stackTraces = false) (hA : gAok b A) (hb : b ≤ 50000) (hC : gClsI A u) (k z : Int32) : CX G yX7_late wsX7_late 7 131 [.ref (x.1 0), .int k, .int z] (wV G x u) (fun (r : Int32) (w : gVu) => gClsP (aAct 1 2 0 A (gTryLate (aS A) k z)) r w) (fun (cls : String) (w : gVu) => gClsX (aAct 1 2 0 A (gTryLate (aS A) k z)) ["java/lang/IndexOutOfBoundsException", "java/lang/IllegalArgumentException"] cls w) (fun w : gVu => wV G x w) 1 6 := by
  obtain ⟨⟨tf, tg, tn⟩, hf, ff, v, st⟩ := u
  obtain ⟨hS, hR0, hQ0⟩ : gUok (aS A) (v 0) := hC.2.2.1
  have hK : gI3 (v 0).1 := by rw [hS]; exact hA.2.1.1
  have hI : gI1 (v 0).1 := hK.1.1
  have hT5 : sN (v 0).1 0 ≤ 50000 := by rw [hS]; exact Nat.le_trans hA.2.1.2.2 hb
  have hT : sN (v 0).1 0 < 1000000000 := by omega
  have hR : RB (sB (v 0).1) (v 0).2.1 := by rw [hS]; exact hR0
  have hQ : RW (sW (v 0).1) (v 0).2.2 := by rw [hS]; exact hQ0
  obtain ⟨nx, hn15, e0, e1, hrow⟩ := hC.2.2.2.1
  have hRG : gRg (aC A) (aH A) nx st := ⟨hn15, hrow⟩
  have e0' : hf 0 = nI (aC A) := e0
  have e1' : hf 1 = nI nx := e1
  refine CX_lift (mX7_late G hST (x.1 0) (x.1 1) (x.1 6) (x.1 7) (x.2.1 3 0) (x.2.1 4 0) (x.1 4) (x.1 5) (aC A) nx x.2.2 st A.1 (aH A) (aL A) (x.2.1 0) (v 0).1 (v 0).2.1 (v 0).2.2 k z hI hT hR hQ hK hRG hA.2.2.1 ) (by rw [← e0', ← e1']; exact gSh_h G x tf tg tn hf ff v st) (fun r w hp => ⟨((tf, tg, tn), (fun i => if i = 0 then nI w.2.1.1 else nI w.2.1.2), ff, gUpd v 0 w.1, w.2.2), ?_, gSb_h G x tf tg tn (fun i => if i = 0 then nI w.2.1.1 else nI w.2.1.2) ff (gUpd v 0 w.1) w.2.2⟩) (fun c w hp => ⟨((tf, tg, tn), (fun i => if i = 0 then nI w.2.1.1 else nI w.2.1.2), ff, gUpd v 0 w.1, w.2.2), ?_, gSb_h G x tf tg tn (fun i => if i = 0 then nI w.2.1.1 else nI w.2.1.2) ff (gUpd v 0 w.1) w.2.2⟩)
  · rw [hS] at hp
    have h1 : (aAct 1 2 0 A (gTryLate (aS A) k z)).1 = 0 ∧ r = (aAct 1 2 0 A (gTryLate (aS A) k z)).2.1 ∧ gAp (aAct 1 2 0 A (gTryLate (aS A) k z)).2.2 w := hp
    exact ⟨h1.1, h1.2.1, gCls_act hC (aAct_A _ _ _ _ _).1 (aAct_A _ _ _ _ _).2 h1.2.2⟩
  · rw [hS] at hp
    obtain ⟨z0, h1, h2, h3⟩ : ∃ z0, (aAct 1 2 0 A (gTryLate (aS A) k z)).1 = z0 + 1 ∧ (["java/lang/IndexOutOfBoundsException", "java/lang/IllegalArgumentException"] : List String)[z0]? = some c ∧ gAp (aAct 1 2 0 A (gTryLate (aS A) k z)).2.2 w := hp
    exact ⟨z0, h1, h2, gCls_act hC (aAct_A _ _ _ _ _).1 (aAct_A _ _ _ _ _).2 h3⟩
set_option maxHeartbeats 4000000 in
set_option maxRecDepth 100000 in
theorem lX7_carry {G : gG} {x : gVa} {u : gVu} {A : gA} {b : Nat} (hST : (gl G).stackTraces = false) (hA : gAok b A) (hb : b ≤ 50000) (hC : gClsI A u) (q z : Int32) : CX G yX7_carry wsX7_carry 7 131 [.ref (x.1 0), .int q, .int z] (wV G x u) (fun (r : Int32) (w : gVu) => gClsP (aAct 1 0 0 A (gTryCarry (aS A) q z)) r w) (fun (cls : String) (w : gVu) => gClsX (aAct 1 0 0 A (gTryCarry (aS A) q z)) ["java/lang/IndexOutOfBoundsException"] cls w) (fun w : gVu => wV G x w) 1 6 := by
  obtain ⟨⟨tf, tg, tn⟩, hf, ff, v, st⟩ := u
  obtain ⟨hS, hR0, hQ0⟩ : gUok (aS A) (v 0) := hC.2.2.1
  have hK : gI3 (v 0).1 := by rw [hS]; exact hA.2.1.1
  have hI : gI1 (v 0).1 := hK.1.1
  have hT5 : sN (v 0).1 0 ≤ 50000 := by rw [hS]; exact Nat.le_trans hA.2.1.2.2 hb
  have hT : sN (v 0).1 0 < 1000000000 := by omega
  have hR : RB (sB (v 0).1) (v 0).2.1 := by rw [hS]; exact hR0
  have hQ : RW (sW (v 0).1) (v 0).2.2 := by rw [hS]; exact hQ0
  obtain ⟨nx, hn15, e0, e1, hrow⟩ := hC.2.2.2.1
  have hRG : gRg (aC A) (aH A) nx st := ⟨hn15, hrow⟩
  have e0' : hf 0 = nI (aC A) := e0
  have e1' : hf 1 = nI nx := e1
  refine CX_lift (mX7_carry G hST (x.1 0) (x.1 1) (x.1 6) (x.1 7) (x.2.1 3 0) (x.2.1 4 0) (x.1 4) (x.1 5) (aC A) nx x.2.2 st A.1 (aH A) (aL A) (x.2.1 0) (v 0).1 (v 0).2.1 (v 0).2.2 q z hI hT hR hQ hK hRG hA.2.2.1 ) (by rw [← e0', ← e1']; exact gSh_h G x tf tg tn hf ff v st) (fun r w hp => ⟨((tf, tg, tn), (fun i => if i = 0 then nI w.2.1.1 else nI w.2.1.2), ff, gUpd v 0 w.1, w.2.2), ?_, gSb_h G x tf tg tn (fun i => if i = 0 then nI w.2.1.1 else nI w.2.1.2) ff (gUpd v 0 w.1) w.2.2⟩) (fun c w hp => ⟨((tf, tg, tn), (fun i => if i = 0 then nI w.2.1.1 else nI w.2.1.2), ff, gUpd v 0 w.1, w.2.2), ?_, gSb_h G x tf tg tn (fun i => if i = 0 then nI w.2.1.1 else nI w.2.1.2) ff (gUpd v 0 w.1) w.2.2⟩)
  · rw [hS] at hp
    have h1 : (aAct 1 0 0 A (gTryCarry (aS A) q z)).1 = 0 ∧ r = (aAct 1 0 0 A (gTryCarry (aS A) q z)).2.1 ∧ gAp (aAct 1 0 0 A (gTryCarry (aS A) q z)).2.2 w := hp
    exact ⟨h1.1, h1.2.1, gCls_act hC (aAct_A _ _ _ _ _).1 (aAct_A _ _ _ _ _).2 h1.2.2⟩
  · rw [hS] at hp
    obtain ⟨z0, h1, h2, h3⟩ : ∃ z0, (aAct 1 0 0 A (gTryCarry (aS A) q z)).1 = z0 + 1 ∧ (["java/lang/IndexOutOfBoundsException"] : List String)[z0]? = some c ∧ gAp (aAct 1 0 0 A (gTryCarry (aS A) q z)).2.2 w := hp
    exact ⟨z0, h1, h2, gCls_act hC (aAct_A _ _ _ _ _).1 (aAct_A _ _ _ _ _).2 h3⟩
set_option maxHeartbeats 4000000 in
set_option maxRecDepth 100000 in
theorem lX7_punish {G : gG} {x : gVa} {u : gVu} {A : gA} {b : Nat} (hST : (gl G).stackTraces = false) (hA : gAok b A) (hb : b ≤ 50000) (hC : gClsI A u) (p z : Int32) : CX G yX7_punish wsX7_punish 7 131 [.ref (x.1 0), .int p, .int z] (wV G x u) (fun (r : Int32) (w : gVu) => gClsP (aAct 1 2 0 A (gTryPunish (aS A) p z)) r w) (fun (cls : String) (w : gVu) => gClsX (aAct 1 2 0 A (gTryPunish (aS A) p z)) ["java/lang/IndexOutOfBoundsException", "java/lang/IllegalArgumentException"] cls w) (fun w : gVu => wV G x w) 1 6 := by
  obtain ⟨⟨tf, tg, tn⟩, hf, ff, v, st⟩ := u
  obtain ⟨hS, hR0, hQ0⟩ : gUok (aS A) (v 0) := hC.2.2.1
  have hK : gI3 (v 0).1 := by rw [hS]; exact hA.2.1.1
  have hI : gI1 (v 0).1 := hK.1.1
  have hT5 : sN (v 0).1 0 ≤ 50000 := by rw [hS]; exact Nat.le_trans hA.2.1.2.2 hb
  have hT : sN (v 0).1 0 < 1000000000 := by omega
  have hR : RB (sB (v 0).1) (v 0).2.1 := by rw [hS]; exact hR0
  have hQ : RW (sW (v 0).1) (v 0).2.2 := by rw [hS]; exact hQ0
  obtain ⟨nx, hn15, e0, e1, hrow⟩ := hC.2.2.2.1
  have hRG : gRg (aC A) (aH A) nx st := ⟨hn15, hrow⟩
  have e0' : hf 0 = nI (aC A) := e0
  have e1' : hf 1 = nI nx := e1
  refine CX_lift (mX7_punish G hST (x.1 0) (x.1 1) (x.1 6) (x.1 7) (x.2.1 3 0) (x.2.1 4 0) (x.1 4) (x.1 5) (aC A) nx x.2.2 st A.1 (aH A) (aL A) (x.2.1 0) (v 0).1 (v 0).2.1 (v 0).2.2 p z hI hT hR hQ hK hRG hA.2.2.1 ) (by rw [← e0', ← e1']; exact gSh_h G x tf tg tn hf ff v st) (fun r w hp => ⟨((tf, tg, tn), (fun i => if i = 0 then nI w.2.1.1 else nI w.2.1.2), ff, gUpd v 0 w.1, w.2.2), ?_, gSb_h G x tf tg tn (fun i => if i = 0 then nI w.2.1.1 else nI w.2.1.2) ff (gUpd v 0 w.1) w.2.2⟩) (fun c w hp => ⟨((tf, tg, tn), (fun i => if i = 0 then nI w.2.1.1 else nI w.2.1.2), ff, gUpd v 0 w.1, w.2.2), ?_, gSb_h G x tf tg tn (fun i => if i = 0 then nI w.2.1.1 else nI w.2.1.2) ff (gUpd v 0 w.1) w.2.2⟩)
  · rw [hS] at hp
    have h1 : (aAct 1 2 0 A (gTryPunish (aS A) p z)).1 = 0 ∧ r = (aAct 1 2 0 A (gTryPunish (aS A) p z)).2.1 ∧ gAp (aAct 1 2 0 A (gTryPunish (aS A) p z)).2.2 w := hp
    exact ⟨h1.1, h1.2.1, gCls_act hC (aAct_A _ _ _ _ _).1 (aAct_A _ _ _ _ _).2 h1.2.2⟩
  · rw [hS] at hp
    obtain ⟨z0, h1, h2, h3⟩ : ∃ z0, (aAct 1 2 0 A (gTryPunish (aS A) p z)).1 = z0 + 1 ∧ (["java/lang/IndexOutOfBoundsException", "java/lang/IllegalArgumentException"] : List String)[z0]? = some c ∧ gAp (aAct 1 2 0 A (gTryPunish (aS A) p z)).2.2 w := hp
    exact ⟨z0, h1, h2, gCls_act hC (aAct_A _ _ _ _ _).1 (aAct_A _ _ _ _ _).2 h3⟩
set_option maxHeartbeats 4000000 in
set_option maxRecDepth 100000 in
theorem lX7_wish {G : gG} {x : gVa} {u : gVu} {A : gA} {b : Nat} (hST : (gl G).stackTraces = false) (hA : gAok b A) (hb : b ≤ 50000) (hC : gClsI A u) (p q : Int32) : CX G yX7_wish wsX7_wish 7 131 [.ref (x.1 0), .int p, .int q] (wV G x u) (fun (r : Int32) (w : gVu) => gClsP (aAct 1 0 2 A (gTryWish (aS A) p q)) r w) (fun (cls : String) (w : gVu) => gClsX (aAct 1 0 2 A (gTryWish (aS A) p q)) ["java/lang/IndexOutOfBoundsException", "java/lang/IllegalStateException"] cls w) (fun w : gVu => wV G x w) 1 6 := by
  obtain ⟨⟨tf, tg, tn⟩, hf, ff, v, st⟩ := u
  obtain ⟨hS, hR0, hQ0⟩ : gUok (aS A) (v 0) := hC.2.2.1
  have hK : gI3 (v 0).1 := by rw [hS]; exact hA.2.1.1
  have hI : gI1 (v 0).1 := hK.1.1
  have hT5 : sN (v 0).1 0 ≤ 50000 := by rw [hS]; exact Nat.le_trans hA.2.1.2.2 hb
  have hT : sN (v 0).1 0 < 1000000000 := by omega
  have hR : RB (sB (v 0).1) (v 0).2.1 := by rw [hS]; exact hR0
  have hQ : RW (sW (v 0).1) (v 0).2.2 := by rw [hS]; exact hQ0
  obtain ⟨nx, hn15, e0, e1, hrow⟩ := hC.2.2.2.1
  have hRG : gRg (aC A) (aH A) nx st := ⟨hn15, hrow⟩
  have e0' : hf 0 = nI (aC A) := e0
  have e1' : hf 1 = nI nx := e1
  refine CX_lift (mX7_wish G hST (x.1 0) (x.1 1) (x.1 6) (x.1 7) (x.2.1 3 0) (x.2.1 4 0) (x.1 4) (x.1 5) (aC A) nx x.2.2 st A.1 (aH A) (aL A) (x.2.1 0) (v 0).1 (v 0).2.1 (v 0).2.2 p q hI hT hR hQ hK hRG hA.2.2.1 ) (by rw [← e0', ← e1']; exact gSh_h G x tf tg tn hf ff v st) (fun r w hp => ⟨((tf, tg, tn), (fun i => if i = 0 then nI w.2.1.1 else nI w.2.1.2), ff, gUpd v 0 w.1, w.2.2), ?_, gSb_h G x tf tg tn (fun i => if i = 0 then nI w.2.1.1 else nI w.2.1.2) ff (gUpd v 0 w.1) w.2.2⟩) (fun c w hp => ⟨((tf, tg, tn), (fun i => if i = 0 then nI w.2.1.1 else nI w.2.1.2), ff, gUpd v 0 w.1, w.2.2), ?_, gSb_h G x tf tg tn (fun i => if i = 0 then nI w.2.1.1 else nI w.2.1.2) ff (gUpd v 0 w.1) w.2.2⟩)
  · rw [hS] at hp
    have h1 : (aAct 1 0 2 A (gTryWish (aS A) p q)).1 = 0 ∧ r = (aAct 1 0 2 A (gTryWish (aS A) p q)).2.1 ∧ gAp (aAct 1 0 2 A (gTryWish (aS A) p q)).2.2 w := hp
    exact ⟨h1.1, h1.2.1, gCls_act hC (aAct_A _ _ _ _ _).1 (aAct_A _ _ _ _ _).2 h1.2.2⟩
  · rw [hS] at hp
    obtain ⟨z0, h1, h2, h3⟩ : ∃ z0, (aAct 1 0 2 A (gTryWish (aS A) p q)).1 = z0 + 1 ∧ (["java/lang/IndexOutOfBoundsException", "java/lang/IllegalStateException"] : List String)[z0]? = some c ∧ gAp (aAct 1 0 2 A (gTryWish (aS A) p q)).2.2 w := hp
    exact ⟨z0, h1, h2, gCls_act hC (aAct_A _ _ _ _ _).1 (aAct_A _ _ _ _ _).2 h3⟩
set_option maxHeartbeats 4000000 in
set_option maxRecDepth 100000 in
theorem lX7_set {G : gG} {x : gVa} {u : gVu} {A : gA} {b : Nat} (hST : (gl G).stackTraces = false) (hA : gAok b A) (hb : b ≤ 50000) (hC : gClsI A u) (p z : Int32) : CX G yX7_set wsX7_set 7 131 [.ref (x.1 0), .int p, .int z] (wV G x u) (fun (r : Int32) (w : gVu) => gClsP (aAct 0 1 0 A (gTrySet (aS A) p z)) r w) (fun (cls : String) (w : gVu) => gClsX (aAct 0 1 0 A (gTrySet (aS A) p z)) ["java/lang/IllegalArgumentException"] cls w) (fun w : gVu => wV G x w) 1 6 := by
  obtain ⟨⟨tf, tg, tn⟩, hf, ff, v, st⟩ := u
  obtain ⟨hS, hR0, hQ0⟩ : gUok (aS A) (v 0) := hC.2.2.1
  have hK : gI3 (v 0).1 := by rw [hS]; exact hA.2.1.1
  have hI : gI1 (v 0).1 := hK.1.1
  have hT5 : sN (v 0).1 0 ≤ 50000 := by rw [hS]; exact Nat.le_trans hA.2.1.2.2 hb
  have hT : sN (v 0).1 0 < 1000000000 := by omega
  have hR : RB (sB (v 0).1) (v 0).2.1 := by rw [hS]; exact hR0
  have hQ : RW (sW (v 0).1) (v 0).2.2 := by rw [hS]; exact hQ0
  obtain ⟨nx, hn15, e0, e1, hrow⟩ := hC.2.2.2.1
  have hRG : gRg (aC A) (aH A) nx st := ⟨hn15, hrow⟩
  have e0' : hf 0 = nI (aC A) := e0
  have e1' : hf 1 = nI nx := e1
  refine CX_lift (mX7_set G hST (x.1 0) (x.1 1) (x.1 6) (x.1 7) (x.2.1 3 0) (x.2.1 4 0) (x.1 4) (x.1 5) (aC A) nx x.2.2 st A.1 (aH A) (aL A) (x.2.1 0) (v 0).1 (v 0).2.1 (v 0).2.2 p z hI hT hR hQ hK hRG hA.2.2.1 ) (by rw [← e0', ← e1']; exact gSh_h G x tf tg tn hf ff v st) (fun r w hp => ⟨((tf, tg, tn), (fun i => if i = 0 then nI w.2.1.1 else nI w.2.1.2), ff, gUpd v 0 w.1, w.2.2), ?_, gSb_h G x tf tg tn (fun i => if i = 0 then nI w.2.1.1 else nI w.2.1.2) ff (gUpd v 0 w.1) w.2.2⟩) (fun c w hp => ⟨((tf, tg, tn), (fun i => if i = 0 then nI w.2.1.1 else nI w.2.1.2), ff, gUpd v 0 w.1, w.2.2), ?_, gSb_h G x tf tg tn (fun i => if i = 0 then nI w.2.1.1 else nI w.2.1.2) ff (gUpd v 0 w.1) w.2.2⟩)
  · rw [hS] at hp
    have h1 : (aAct 0 1 0 A (gTrySet (aS A) p z)).1 = 0 ∧ r = (aAct 0 1 0 A (gTrySet (aS A) p z)).2.1 ∧ gAp (aAct 0 1 0 A (gTrySet (aS A) p z)).2.2 w := hp
    exact ⟨h1.1, h1.2.1, gCls_act hC (aAct_A _ _ _ _ _).1 (aAct_A _ _ _ _ _).2 h1.2.2⟩
  · rw [hS] at hp
    obtain ⟨z0, h1, h2, h3⟩ : ∃ z0, (aAct 0 1 0 A (gTrySet (aS A) p z)).1 = z0 + 1 ∧ (["java/lang/IllegalArgumentException"] : List String)[z0]? = some c ∧ gAp (aAct 0 1 0 A (gTrySet (aS A) p z)).2.2 w := hp
    exact ⟨z0, h1, h2, gCls_act hC (aAct_A _ _ _ _ _).1 (aAct_A _ _ _ _ _).2 h3⟩
set_option maxHeartbeats 4000000 in
set_option maxRecDepth 100000 in
theorem lX7_run {G : gG} {x : gVa} {u : gVu} {A : gA} {b : Nat} (hST : (gl G).stackTraces = false) (hA : gAok b A) (hb : b ≤ 50000) (hC : gClsI A u) (z : Int32) : CX G yX7_run wsX7_run 7 163 [.ref (x.1 0), .int z] (wV G x u) (fun (r : Int32) (w : gVu) => gClsP (fRun A z) r w) (fun (cls : String) (w : gVu) => gClsX (fRun A z) ["java/lang/IllegalArgumentException"] cls w) (fun w : gVu => wV G x w) 1 6 := by
  obtain ⟨⟨tf, tg, tn⟩, hf, ff, v, st⟩ := u
  obtain ⟨hS, hR0, hQ0⟩ : gUok (aS A) (v 0) := hC.2.2.1
  have hK : gI3 (v 0).1 := by rw [hS]; exact hA.2.1.1
  have hI : gI1 (v 0).1 := hK.1.1
  have hT5 : sN (v 0).1 0 ≤ 50000 := by rw [hS]; exact Nat.le_trans hA.2.1.2.2 hb
  have hT : sN (v 0).1 0 < 1000000000 := by omega
  have hR : RB (sB (v 0).1) (v 0).2.1 := by rw [hS]; exact hR0
  have hQ : RW (sW (v 0).1) (v 0).2.2 := by rw [hS]; exact hQ0
  obtain ⟨nx, hn15, e0, e1, hrow⟩ := hC.2.2.2.1
  have hRG : gRg (aC A) (aH A) nx st := ⟨hn15, hrow⟩
  have e0' : hf 0 = nI (aC A) := e0
  have e1' : hf 1 = nI nx := e1
  refine CX_lift (mX7_run G hST (x.1 0) (x.1 1) (x.1 6) (x.1 7) (x.2.1 3 0) (x.2.1 4 0) (x.1 4) (x.1 5) (aC A) nx x.2.2 st A.1 (aH A) (aL A) (x.2.1 0) (v 0).1 (v 0).2.1 (v 0).2.2 z hI hT hR hQ hK hRG hA.2.2.1 (by omega)) (by rw [← e0', ← e1']; exact gSh_h G x tf tg tn hf ff v st) (fun r w hp => ⟨((tf, tg, tn), (fun i => if i = 0 then nI w.2.1.1 else nI w.2.1.2), ff, gUpd v 0 w.1, w.2.2), ?_, gSb_h G x tf tg tn (fun i => if i = 0 then nI w.2.1.1 else nI w.2.1.2) ff (gUpd v 0 w.1) w.2.2⟩) (fun c w hp => ⟨((tf, tg, tn), (fun i => if i = 0 then nI w.2.1.1 else nI w.2.1.2), ff, gUpd v 0 w.1, w.2.2), ?_, gSb_h G x tf tg tn (fun i => if i = 0 then nI w.2.1.1 else nI w.2.1.2) ff (gUpd v 0 w.1) w.2.2⟩)
  · rw [hS] at hp
    have h1 : (fRun A z).1 = 0 ∧ r = (fRun A z).2.1 ∧ gAp (fRun A z).2.2 w := hp
    exact ⟨h1.1, h1.2.1, gCls_act hC (fRun_A A z).1 (fRun_A A z).2 h1.2.2⟩
  · rw [hS] at hp
    obtain ⟨z0, h1, h2, h3⟩ : ∃ z0, (fRun A z).1 = z0 + 1 ∧ (["java/lang/IllegalArgumentException"] : List String)[z0]? = some c ∧ gAp (fRun A z).2.2 w := hp
    exact ⟨z0, h1, h2, gCls_act hC (fRun_A A z).1 (fRun_A A z).2 h3⟩
set_option maxHeartbeats 4000000 in
set_option maxRecDepth 100000 in
theorem lX7_undo {G : gG} {x : gVa} {u : gVu} {A : gA} {b : Nat} (hST : (gl G).stackTraces = false) (hA : gAok b A) (hb : b ≤ 50000) (hC : gClsI A u)  : CX G yX7_undo wsX7_undo 6 125 [.ref (x.1 0)] (wV G x u) (fun (r : Int32) (w : gVu) => gClsP (fUndo A) r w) (fun (cls : String) (w : gVu) => gClsX (fUndo A) ["java/lang/IllegalStateException"] cls w) (fun w : gVu => wV G x w) 1 6 := by
  obtain ⟨⟨tf, tg, tn⟩, hf, ff, v, st⟩ := u
  obtain ⟨hS, hR0, hQ0⟩ : gUok (aS A) (v 0) := hC.2.2.1
  have hK : gI3 (v 0).1 := by rw [hS]; exact hA.2.1.1
  have hI : gI1 (v 0).1 := hK.1.1
  have hT5 : sN (v 0).1 0 ≤ 50000 := by rw [hS]; exact Nat.le_trans hA.2.1.2.2 hb
  have hT : sN (v 0).1 0 < 1000000000 := by omega
  have hR : RB (sB (v 0).1) (v 0).2.1 := by rw [hS]; exact hR0
  have hQ : RW (sW (v 0).1) (v 0).2.2 := by rw [hS]; exact hQ0
  obtain ⟨nx, hn15, e0, e1, hrow⟩ := hC.2.2.2.1
  have hRG : gRg (aC A) (aH A) nx st := ⟨hn15, hrow⟩
  have e0' : hf 0 = nI (aC A) := e0
  have e1' : hf 1 = nI nx := e1
  refine CX_lift (mX7_undo G hST (x.1 0) (x.1 1) (x.1 6) (x.1 7) (x.2.1 3 0) (x.2.1 4 0) (x.1 4) (x.1 5) (aC A) nx x.2.2 st A.1 (aH A) (aL A) (x.2.1 0) (v 0).1 (v 0).2.1 (v 0).2.2  hI hT hR hQ hRG hA.2.2.1 (fun k hk => (hA.2.2.2.1 k hk).1.1.1)) (by rw [← e0', ← e1']; exact gSh_h G x tf tg tn hf ff v st) (fun r w hp => ⟨((tf, tg, tn), (fun i => if i = 0 then nI w.2.1.1 else nI w.2.1.2), ff, gUpd v 0 w.1, w.2.2), ?_, gSb_h G x tf tg tn (fun i => if i = 0 then nI w.2.1.1 else nI w.2.1.2) ff (gUpd v 0 w.1) w.2.2⟩) (fun c w hp => ⟨((tf, tg, tn), (fun i => if i = 0 then nI w.2.1.1 else nI w.2.1.2), ff, gUpd v 0 w.1, w.2.2), ?_, gSb_h G x tf tg tn (fun i => if i = 0 then nI w.2.1.1 else nI w.2.1.2) ff (gUpd v 0 w.1) w.2.2⟩)
  · rw [hS] at hp
    have h1 : (fUndo A).1 = 0 ∧ r = (fUndo A).2.1 ∧ gAp (fUndo A).2.2 w := hp
    exact ⟨h1.1, h1.2.1, gCls_act hC (fUndo_A A).1 (fUndo_A A).2 h1.2.2⟩
  · rw [hS] at hp
    obtain ⟨z0, h1, h2, h3⟩ : ∃ z0, (fUndo A).1 = z0 + 1 ∧ (["java/lang/IllegalStateException"] : List String)[z0]? = some c ∧ gAp (fUndo A).2.2 w := hp
    exact ⟨z0, h1, h2, gCls_act hC (fUndo_A A).1 (fUndo_A A).2 h3⟩
set_option maxHeartbeats 4000000 in
set_option maxRecDepth 100000 in
theorem lX7_save {G : gG} {x : gVa} {u : gVu} {A : gA} {b : Nat} (hST : (gl G).stackTraces = false) (hA : gAok b A) (hb : b ≤ 50000) (hC : gClsI A u) (z : Int32) : CX G yX7_save wsX7_save 6 110 [.ref (x.1 0), .int z] (wV G x u) (fun (r : Int32) (w : gVu) => gClsP (fSave A z) r w) (fun (cls : String) (w : gVu) => gClsX (fSave A z) ["java/lang/IndexOutOfBoundsException"] cls w) (fun w : gVu => wV G x w) 1 6 := by
  obtain ⟨⟨tf, tg, tn⟩, hf, ff, v, st⟩ := u
  obtain ⟨hS, hR0, hQ0⟩ : gUok (aS A) (v 0) := hC.2.2.1
  have hK : gI3 (v 0).1 := by rw [hS]; exact hA.2.1.1
  have hI : gI1 (v 0).1 := hK.1.1
  have hT5 : sN (v 0).1 0 ≤ 50000 := by rw [hS]; exact Nat.le_trans hA.2.1.2.2 hb
  have hT : sN (v 0).1 0 < 1000000000 := by omega
  have hR : RB (sB (v 0).1) (v 0).2.1 := by rw [hS]; exact hR0
  have hQ : RW (sW (v 0).1) (v 0).2.2 := by rw [hS]; exact hQ0
  have hS0 := gSlt_1 hC.2.2.2.2.1 (i := 0) (by decide)
  have hS1 := gSlt_1 hC.2.2.2.2.1 (i := 1) (by decide)
  refine CX_lift (mX7_save G hST (x.1 0) (x.1 1) (x.1 4) (x.1 6) (x.1 7) (x.2.1 3 0) (x.2.1 4 0) A.1 (aC A) (aH A) (aL A) (x.2.1 0) (v 0).1 (v 0).2.1 (v 0).2.2 (x.2.1 1) (x.2.1 2) (ff 0) (ff 1) (v 1).1 (v 2).1 (v 1).2.1 (v 1).2.2 (v 2).2.1 (v 2).2.2 z hI hT hR hQ hS0 hS1) (gSh_s G x tf tg tn hf ff v st) (fun r w hp => ⟨((tf, tg, tn), hf, (fun i => if i = 0 then w.1.1 else w.2.1), gUpd (gUpd v 1 w.1.2) 2 w.2.2, st), ?_, gSb_s G x tf tg tn hf (fun i => if i = 0 then w.1.1 else w.2.1) (gUpd (gUpd v 1 w.1.2) 2 w.2.2) st⟩) (fun c w hp => ⟨((tf, tg, tn), hf, (fun i => if i = 0 then w.1.1 else w.2.1), gUpd (gUpd v 1 w.1.2) 2 w.2.2, st), ?_, gSb_s G x tf tg tn hf (fun i => if i = 0 then w.1.1 else w.2.1) (gUpd (gUpd v 1 w.1.2) 2 w.2.2) st⟩)
  · rw [hS] at hp
    have h1 : (fSave A z).1 = 0 ∧ r = (fSave A z).2.1 ∧ gS1 (aL (fSave A z).2.2 0) w.1 ∧ gS1 (aL (fSave A z).2.2 1) w.2 := hp
    exact ⟨h1.1, h1.2.1, gCls_save hC (fSave_A A z) h1.2.2.1 h1.2.2.2⟩
  · rw [hS] at hp
    obtain ⟨z0, h1, h2, h3⟩ : ∃ z0, (fSave A z).1 = z0 + 1 ∧ (["java/lang/IndexOutOfBoundsException"] : List String)[z0]? = some c ∧ w = ((ff 0, ((v 1).1, (v 1).2.1, (v 1).2.2)), (ff 1, ((v 2).1, (v 2).2.1, (v 2).2.2))) := hp
    have eA : (fSave A z).2.2 = A := fSave_no (by rw [h1]; exact Nat.succ_ne_zero _)
    subst h3
    exact ⟨z0, h1, h2, by rw [eA]; exact gCls_save (w := ((ff 0, ((v 1).1, (v 1).2.1, (v 1).2.2)), (ff 1, ((v 2).1, (v 2).2.1, (v 2).2.2)))) hC rfl hS0 hS1⟩
set_option maxHeartbeats 4000000 in
set_option maxRecDepth 100000 in
theorem lX7_restore {G : gG} {x : gVa} {u : gVu} {A : gA} {b : Nat} (hST : (gl G).stackTraces = false) (hA : gAok b A) (hb : b ≤ 50000) (hC : gClsI A u) (z : Int32) : CX G yX7_restore wsX7_restore 6 110 [.ref (x.1 0), .int z] (wV G x u) (fun (r : Int32) (w : gVu) => gClsP (fRest A z) r w) (fun (cls : String) (w : gVu) => gClsX (fRest A z) ["java/lang/IndexOutOfBoundsException", "java/lang/IllegalStateException"] cls w) (fun w : gVu => wV G x w) 1 6 := by
  obtain ⟨⟨tf, tg, tn⟩, hf, ff, v, st⟩ := u
  obtain ⟨hS, hR0, hQ0⟩ : gUok (aS A) (v 0) := hC.2.2.1
  have hK : gI3 (v 0).1 := by rw [hS]; exact hA.2.1.1
  have hI : gI1 (v 0).1 := hK.1.1
  have hT5 : sN (v 0).1 0 ≤ 50000 := by rw [hS]; exact Nat.le_trans hA.2.1.2.2 hb
  have hT : sN (v 0).1 0 < 1000000000 := by omega
  have hR : RB (sB (v 0).1) (v 0).2.1 := by rw [hS]; exact hR0
  have hQ : RW (sW (v 0).1) (v 0).2.2 := by rw [hS]; exact hQ0
  obtain ⟨nx, hn15, e0, e1, hrow⟩ := hC.2.2.2.1
  have e0' : hf 0 = nI (aC A) := e0
  have e1' : hf 1 = nI nx := e1
  have hS0 := gSlt_1 hC.2.2.2.2.1 (i := 0) (by decide)
  have hS1 := gSlt_1 hC.2.2.2.2.1 (i := 1) (by decide)
  refine CX_lift (mX7_restore G hST (x.1 0) (x.1 1) (x.1 4) (x.1 6) (x.1 7) (x.2.1 3 0) (x.2.1 4 0) A.1 (aC A) (aH A) (aL A) (x.2.1 0) (v 0).1 (v 0).2.1 (v 0).2.2 (x.2.1 1) (x.2.1 2) (ff 0) (ff 1) (v 1).1 (v 2).1 (v 1).2.1 (v 1).2.2 (v 2).2.1 (v 2).2.2 (x.1 5) nx x.2.2 z hI hT hR hQ hS0 hS1 (fun i T hi e => (hA.2.2.2.2 i hi T e).1.1.1)) (by rw [← e0', ← e1']; exact gSh_r G x tf tg tn hf ff v st) (fun r w hp => ⟨((tf, tg, tn), (fun i => if i = 0 then nI w.2 else hf 1), ff, gUpd v 0 w.1, st), ?_, by rw [← e1']; exact gSb_r G x tf tg tn (fun i => if i = 0 then nI w.2 else hf 1) ff (gUpd v 0 w.1) st⟩) (fun c w hp => ⟨((tf, tg, tn), (fun i => if i = 0 then nI w.2 else hf 1), ff, gUpd v 0 w.1, st), ?_, by rw [← e1']; exact gSb_r G x tf tg tn (fun i => if i = 0 then nI w.2 else hf 1) ff (gUpd v 0 w.1) st⟩)
  · rw [hS] at hp
    have h1 : (fRest A z).1 = 0 ∧ r = (fRest A z).2.1 ∧ gUok (aS (fRest A z).2.2) w.1 ∧ w.2 = aC (fRest A z).2.2 := hp
    exact ⟨h1.1, h1.2.1, gCls_rest hC (fRest_A A z) h1.2.2.1 h1.2.2.2⟩
  · rw [hS] at hp
    obtain ⟨z0, h1, h2, h3, h4⟩ : ∃ z0, (fRest A z).1 = z0 + 1 ∧ (["java/lang/IndexOutOfBoundsException", "java/lang/IllegalStateException"] : List String)[z0]? = some c ∧ gUok (aS (fRest A z).2.2) w.1 ∧ w.2 = aC (fRest A z).2.2 := hp
    exact ⟨z0, h1, h2, gCls_rest hC (fRest_A A z) h3 h4⟩
set_option maxHeartbeats 4000000 in
set_option maxRecDepth 100000 in
theorem lX7_load {G : gG} {x : gVa} {u : gVu} {A : gA} {b : Nat} (hST : (gl G).stackTraces = false) (hA : gAok b A) (hb : b ≤ 50000) (hC : gClsI A u)  : CX G yX7_load wsX7_load 10 255 [.ref (x.1 0)] (wV G x u) (fun (r : Int32) (w : gVu) => gClsP (fLoad A) r w) (fun (cls : String) (w : gVu) => gClsX (fLoad A) ["java/lang/IllegalStateException"] cls w) (fun w : gVu => wV G x w) 1 6 := by
  obtain ⟨⟨tf, tg, tn⟩, hf, ff, v, st⟩ := u
  obtain ⟨hS, hR0, hQ0⟩ : gUok (aS A) (v 0) := hC.2.2.1
  have hK : gI3 (v 0).1 := by rw [hS]; exact hA.2.1.1
  have hI : gI1 (v 0).1 := hK.1.1
  have hT5 : sN (v 0).1 0 ≤ 50000 := by rw [hS]; exact Nat.le_trans hA.2.1.2.2 hb
  have hT : sN (v 0).1 0 < 1000000000 := by omega
  have hR : RB (sB (v 0).1) (v 0).2.1 := by rw [hS]; exact hR0
  have hQ : RW (sW (v 0).1) (v 0).2.2 := by rw [hS]; exact hQ0
  obtain ⟨nx, hn15, e0, e1, hrow⟩ := hC.2.2.2.1
  have e0' : hf 0 = nI (aC A) := e0
  have e1' : hf 1 = nI nx := e1
  have et : tf 0 = nI (aN A) := hC.1
  have eg : tg = aG A := hC.2.1
  obtain ⟨y, ey⟩ := gI32_nat (tf 1)
  obtain ⟨wd, ew⟩ := gI32_nat (tf 2)
  obtain ⟨hE0, hRE, hQE⟩ : gUok gSt0 (v 4) := hC.2.2.2.2.2
  refine CX_lift (mX7_load G hST (x.1 0) (x.1 4) (x.1 5) (x.1 6) (x.1 7) (x.2.1 3 0) (x.2.1 1 0) (x.2.1 2 0) (aC A) nx (x.1 1) (x.1 2) (x.1 3) (aN A) y wd tg tn (aH A) (aL A) (ff 0) (ff 1) x.2.2 (x.2.1 0) (v 0).1 (v 0).2.1 (v 0).2.2 (x.2.1 4) (v 4).1 (v 4).2.1 (v 4).2.2 hI hT hR hQ hA.1 hE0 (by rw [hE0]; exact gOk_0.1.1.1) (by rw [hE0]; exact hRE) (by rw [hE0]; exact hQE)) (by rw [← e0', ← e1', ← et, ← ey, ← ew]; exact gSh_l G x tf tg tn hf ff v st) (fun r w hp => ⟨((gT3 (tf 0) (nI w.1) (nI w.2.1), tg, w.2.2.1), (fun i => if i = 0 then nI w.2.2.2.2.1 else hf 1), (fun i => if i = 0 then w.2.2.2.2.2.1 else w.2.2.2.2.2.2), gUpd v 0 w.2.2.2.1, st), ?_, by rw [← e1', ← et]; exact gSb_l G x (gT3 (tf 0) (nI w.1) (nI w.2.1)) tg w.2.2.1 (fun i => if i = 0 then nI w.2.2.2.2.1 else hf 1) (fun i => if i = 0 then w.2.2.2.2.2.1 else w.2.2.2.2.2.2) (gUpd v 0 w.2.2.2.1) st⟩) (fun c w hp => ⟨((gT3 (tf 0) (nI w.1) (nI w.2.1), tg, w.2.2.1), (fun i => if i = 0 then nI w.2.2.2.2.1 else hf 1), (fun i => if i = 0 then w.2.2.2.2.2.1 else w.2.2.2.2.2.2), gUpd v 0 w.2.2.2.1, st), ?_, by rw [← e1', ← et]; exact gSb_l G x (gT3 (tf 0) (nI w.1) (nI w.2.1)) tg w.2.2.1 (fun i => if i = 0 then nI w.2.2.2.2.1 else hf 1) (fun i => if i = 0 then w.2.2.2.2.2.1 else w.2.2.2.2.2.2) (gUpd v 0 w.2.2.2.1) st⟩)
  · rw [hS, eg] at hp
    have h1 : (fLoad A).1 = 0 ∧ r = (fLoad A).2.1 ∧ gUok (aS (fLoad A).2.2) w.2.2.2.1 ∧ w.2.2.2.2.1 = aC (fLoad A).2.2 ∧ ((aL (fLoad A).2.2 = aL A ∧ w.2.2.2.2.2.1 = ff 0 ∧ w.2.2.2.2.2.2 = ff 1) ∨ (aL (fLoad A).2.2 = (fun _ => none) ∧ w.2.2.2.2.2.1 = 0 ∧ w.2.2.2.2.2.2 = 0)) := hp
    exact ⟨h1.1, h1.2.1, gCls_load hC (fLoad_A A) h1.2.2.1 h1.2.2.2.1 h1.2.2.2.2⟩
  · rw [hS, eg] at hp
    obtain ⟨z0, h1, h2, h3, h4, h5⟩ : ∃ z0, (fLoad A).1 = z0 + 1 ∧ (["java/lang/IllegalStateException"] : List String)[z0]? = some c ∧ gUok (aS (fLoad A).2.2) w.2.2.2.1 ∧ w.2.2.2.2.1 = aC (fLoad A).2.2 ∧ ((aL (fLoad A).2.2 = aL A ∧ w.2.2.2.2.2.1 = ff 0 ∧ w.2.2.2.2.2.2 = ff 1) ∨ (aL (fLoad A).2.2 = (fun _ => none) ∧ w.2.2.2.2.2.1 = 0 ∧ w.2.2.2.2.2.2 = 0)) := hp
    exact ⟨z0, h1, h2, gCls_load hC (fLoad_A A) h3 h4 h5⟩
set_option maxHeartbeats 4000000 in
set_option maxRecDepth 100000 in
theorem lX7_append {G : gG} {x : gVa} {u : gVu} {A : gA} {b : Nat} (hST : (gl G).stackTraces = false) (hA : gAok b A) (hb : b ≤ 50000) (hC : gClsI A u) (z : Int32) : CX G yX7_append wsX7_append 6 110 [.ref (x.1 0), .int z] (wV G x u) (fun (r : Int32) (w : gVu) => gClsP (fAppend A z) r w) (fun (cls : String) (w : gVu) => gClsX (fAppend A z) ["java/lang/IllegalArgumentException", "java/lang/IllegalStateException"] cls w) (fun w : gVu => wV G x w) 1 6 := by
  obtain ⟨⟨tf, tg, tn⟩, hf, ff, v, st⟩ := u
  obtain ⟨hS, hR0, hQ0⟩ : gUok (aS A) (v 0) := hC.2.2.1
  have hK : gI3 (v 0).1 := by rw [hS]; exact hA.2.1.1
  have hI : gI1 (v 0).1 := hK.1.1
  have hT5 : sN (v 0).1 0 ≤ 50000 := by rw [hS]; exact Nat.le_trans hA.2.1.2.2 hb
  have hT : sN (v 0).1 0 < 1000000000 := by omega
  have hR : RB (sB (v 0).1) (v 0).2.1 := by rw [hS]; exact hR0
  have hQ : RW (sW (v 0).1) (v 0).2.2 := by rw [hS]; exact hQ0
  have et : tf 0 = nI (aN A) := hC.1
  have eg : tg = aG A := hC.2.1
  obtain ⟨y, ey⟩ := gI32_nat (tf 1)
  obtain ⟨wd, ew⟩ := gI32_nat (tf 2)
  refine CX_lift (mX7_append G hST (x.1 0) (x.2.1 0 0) (x.1 4) (x.1 6) (x.1 7) (x.2.1 3 0) (x.2.1 4 0) (x.1 1) (x.1 2) (x.1 3) (aN A) y wd tg tn A.2 z hA.1) (by rw [← et, ← ey, ← ew]; exact gSh_t G x tf tg tn hf ff v st) (fun r w hp => ⟨((gT3 (nI w.1) (tf 1) (tf 2), w.2, tn), hf, ff, v, st), ?_, by rw [← ey, ← ew]; exact gSb_t G x (gT3 (nI w.1) (tf 1) (tf 2)) w.2 tn hf ff v st⟩) (fun c w hp => ⟨((gT3 (nI w.1) (tf 1) (tf 2), w.2, tn), hf, ff, v, st), ?_, by rw [← ey, ← ew]; exact gSb_t G x (gT3 (nI w.1) (tf 1) (tf 2)) w.2 tn hf ff v st⟩)
  · rw [eg] at hp
    have h1 : (fAppend A z).1 = 0 ∧ r = (fAppend A z).2.1 ∧ w = (fAppend A z).2.2.1 := hp
    exact ⟨h1.1, h1.2.1, gCls_text hC (fAppend_A A z) h1.2.2⟩
  · rw [eg] at hp
    obtain ⟨z0, h1, h2, h3⟩ : ∃ z0, (fAppend A z).1 = z0 + 1 ∧ (["java/lang/IllegalArgumentException", "java/lang/IllegalStateException"] : List String)[z0]? = some c ∧ w = (fAppend A z).2.2.1 := hp
    exact ⟨z0, h1, h2, gCls_text hC (fAppend_A A z) h3⟩
set_option maxHeartbeats 4000000 in
set_option maxRecDepth 100000 in
theorem lX7_clearText {G : gG} {x : gVa} {u : gVu} {A : gA} {b : Nat} (hA : gAok b A) (hC : gClsI A u) : CI G yX7_clearText wsX7_clearText 1 21 [.ref (x.1 0)] (wV G x u) (fun (r : Int32) (w : gVu) => gClsP (fClear A) r w) (fun w : gVu => wV G x w) 0 0 := by
  obtain ⟨⟨tf, tg, tn⟩, hf, ff, v, st⟩ := u
  have et : tf 0 = nI (aN A) := hC.1
  have eg : tg = aG A := hC.2.1
  obtain ⟨y, ey⟩ := gI32_nat (tf 1)
  obtain ⟨wd, ew⟩ := gI32_nat (tf 2)
  refine CI_lift (mX7_clearText G (x.1 0) (x.2.1 0 0) (x.1 4) (x.1 6) (x.1 7) (x.2.1 3 0) (x.2.1 4 0) (x.1 1) (x.1 2) (x.1 3) (aN A) y wd tg tn hA.1) (by rw [← et, ← ey, ← ew]; exact gSh_t G x tf tg tn hf ff v st) (fun r w hp => ⟨((gT3 (nI 0) (tf 1) (tf 2), tg, tn), hf, ff, v, st), ?_, by rw [← ey, ← ew]; exact gSb_t G x (gT3 (nI 0) (tf 1) (tf 2)) tg tn hf ff v st⟩)
  exact ⟨rfl, hp, gCls_text hC (A' := (fClear A).2.2) (w := (0, tg)) rfl (by rw [eg]; rfl)⟩
set_option maxHeartbeats 4000000 in
set_option maxRecDepth 100000 in
theorem lX7_errorPosition {G : gG} {x : gVa} {u : gVu} {A : gA} {b : Nat} (hA : gAok b A) (hC : gClsI A u) : CI G yX7_errorPosition wsX7_errorPosition 10 255 [.ref (x.1 0)] (wV G x u) (fun (r : Int32) (w : gVu) => gClsP (fError A) r w) (fun w : gVu => wV G x w) 0 0 := by
  obtain ⟨⟨tf, tg, tn⟩, hf, ff, v, st⟩ := u
  have et : tf 0 = nI (aN A) := hC.1
  have eg : tg = aG A := hC.2.1
  obtain ⟨y, ey⟩ := gI32_nat (tf 1)
  obtain ⟨wd, ew⟩ := gI32_nat (tf 2)
  refine CI_lift (mX7_errorPosition G (x.1 0) (x.2.1 0 0) (x.1 4) (x.1 6) (x.1 7) (x.2.1 3 0) (x.2.1 4 0) (x.1 1) (x.1 2) (x.1 3) (aN A) y wd tg tn hA.1) (by rw [← et, ← ey, ← ew]; exact gSh_t G x tf tg tn hf ff v st) (fun r w hp => ⟨((gT3 (tf 0) (nI w.1) (nI w.2.1), tg, w.2.2), hf, ff, v, st), ?_, by rw [← et]; exact gSb_t G x (gT3 (tf 0) (nI w.1) (nI w.2.1)) tg w.2.2 hf ff v st⟩)
  exact ⟨rfl, by show r = aEI (aN A) (aG A); rw [← eg]; exact hp.1, gCls_text2 hC⟩
