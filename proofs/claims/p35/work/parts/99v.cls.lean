/-! ===== what a call leaves as it was; the class's cells show the object ===== -/
section
variable {A : gA}
theorem fAbout_A (A : gA) (w : Int32) : (fAbout A w).2.2 = A := by
  unfold fAbout
  repeat' split
  all_goals rfl
theorem fPris_A (A : gA) (p w : Int32) : (fPris A p w).2.2 = A := by
  unfold fPris
  repeat' split
  all_goals rfl
theorem fVisr_A (A : gA) (p w : Int32) : (fVisr A p w).2.2 = A := by
  unfold fVisr
  repeat' split
  all_goals rfl
theorem fBkng_A (A : gA) (p w : Int32) : (fBkng A p w).2.2 = A := by
  unfold fBkng
  repeat' split
  all_goals rfl
theorem fLine_A (A : gA) (p w : Int32) : (fLine A p w).2.2 = A := by
  unfold fLine
  repeat' split
  all_goals rfl
theorem fWish_A (A : gA) (w : Int32) : (fWish A w).2.2 = A := by
  unfold fWish
  repeat' split
  all_goals rfl
theorem fSett_A (A : gA) (w : Int32) : (fSett A w).2.2 = A := by
  unfold fSett
  repeat' split
  all_goals rfl
theorem fWhy_A (A : gA) (p v d h : Int32) : (fWhy A p v d h).2.2 = A := by
  unfold fWhy
  repeat' split
  all_goals rfl
theorem fFirst_A (A : gA) (p v : Int32) : (fFirst A p v).2.2 = A := by
  unfold fFirst
  repeat' split
  all_goals rfl
theorem fComing_A (A : gA) (n w : Int32) : (fComing A n w).2.2 = A := by
  unfold fComing
  by_cases c1 : (¬ n < 1 ∧ ¬ 60 < n)
  · rw [if_pos c1]
    by_cases c2 : (¬ w < 0 ∧ ¬ 4 < w)
    · rw [if_pos c2]
    · rw [if_neg c2]
  · rw [if_neg c1]
theorem fBecomes_A (A : gA) (k : Int32) : (fBecomes A k).2.2 = A := by
  unfold fBecomes
  repeat' split
  all_goals rfl
theorem fScript_A (A : gA) (n : Int32) (x : Int64) : (fScript A n x).2.2 = A := by
  unfold fScript
  repeat' split
  all_goals rfl
theorem fSim_A (A : gA) (x : Int64) (n : Int32) : (fSim A x n).2.2 = A := by
  unfold fSim
  repeat' split
  all_goals rfl
theorem aAct_A (e1 e2 e3 : Nat) (A : gA) (t : Int32 × gSt) : (aAct e1 e2 e3 A t).2.2.1 = A.1 ∧ aL (aAct e1 e2 e3 A t).2.2 = aL A := by
  unfold aAct
  by_cases c1 : t.1 = -1
  · rw [if_pos c1]
    exact ⟨rfl, rfl⟩
  · rw [if_neg c1]
    by_cases c2 : t.1 = -2
    · rw [if_pos c2]
      exact ⟨rfl, rfl⟩
    · rw [if_neg c2]
      by_cases c3 : t.1 = -3
      · rw [if_pos c3]
        exact ⟨rfl, rfl⟩
      · rw [if_neg c3]
        exact ⟨rfl, rfl⟩
theorem fRun_A (A : gA) (z : Int32) : (fRun A z).2.2.1 = A.1 ∧ aL (fRun A z).2.2 = aL A := by
  unfold fRun
  by_cases c : (¬ z < 1 ∧ ¬ 30 < z)
  · rw [if_pos c]
    exact aAct_A _ _ _ _ _
  · rw [if_neg c]
    exact ⟨rfl, rfl⟩
theorem fUndo_A (A : gA) : (fUndo A).2.2.1 = A.1 ∧ aL (fUndo A).2.2 = aL A := by
  unfold fUndo
  by_cases c : aC A = 0
  · rw [if_pos c]
    exact ⟨rfl, rfl⟩
  · rw [if_neg c]
    exact ⟨rfl, rfl⟩
theorem fSave_A (A : gA) (z : Int32) : ((fSave A z).2.2.1, (fSave A z).2.2.2.1, (fSave A z).2.2.2.2.1) = (A.1, A.2.1, A.2.2.1) := by
  unfold fSave
  by_cases c : (¬ z < 0 ∧ ¬ 1 < z)
  · rw [if_pos c]
  · rw [if_neg c]
theorem fSave_no {z : Int32} (h : (fSave A z).1 ≠ 0) : (fSave A z).2.2 = A := by
  unfold fSave at h ⊢
  by_cases c : (¬ z < 0 ∧ ¬ 1 < z)
  · rw [if_pos c] at h
    exact absurd rfl h
  · rw [if_neg c]
theorem fRest_A (A : gA) (z : Int32) : (fRest A z).2.2.1 = A.1 ∧ aL (fRest A z).2.2 = aL A ∧ ((fRest A z).2.2.2.2.1 = A.2.2.1 ∨ (fRest A z).2.2.2.2.1 = (0, aH A)) := by
  unfold fRest
  by_cases c : (¬ z < 0 ∧ ¬ 1 < z)
  · rw [if_pos c]
    split
    · exact ⟨rfl, rfl, Or.inl rfl⟩
    · exact ⟨rfl, rfl, Or.inr rfl⟩
  · rw [if_neg c]
    exact ⟨rfl, rfl, Or.inl rfl⟩
theorem fLoad_A (A : gA) : (fLoad A).2.2.1 = A.1 ∧ ((fLoad A).2.2.2.2.1 = A.2.2.1 ∨ (fLoad A).2.2.2.2.1 = (0, aH A)) := by
  unfold fLoad
  by_cases c : aEI (aN A) (aG A) = -1
  · rw [if_pos c]
    exact ⟨rfl, Or.inr rfl⟩
  · rw [if_neg c]
    exact ⟨rfl, Or.inl rfl⟩
theorem fAppend_A (A : gA) (z : Int32) : (fAppend A z).2.2.2 = A.2 := by
  unfold fAppend
  repeat' split
  all_goals rfl
end
def gT3 (a b c : Int32) : Nat → Int32 := fun i => if i = 0 then a else if i = 1 then b else c
theorem gI32_nat (v : Int32) : ∃ n, v = nI n := by
  refine ⟨v.toBitVec.toNat, ?_⟩
  apply Int32.toBitVec_inj.mp
  show v.toBitVec = BitVec.ofNat 32 v.toBitVec.toNat
  rw [BitVec.ofNat_toNat, BitVec.setWidth_eq]
section
variable {A A' : gA} {tf tg tn hf ff : Nat → Int32} {v st : Nat → gU}
theorem gSlt_1 {sl : Nat → Option gSt} {b : Nat → Int32} (h : gSlt sl b v) {i : Nat} (hi : i < 2) : gS1 (sl i) (b i, v (i + 1)) := h i hi
theorem gCls_copy (hC : gClsI A ((tf, tg, tn), hf, ff, v, st)) (w : gU) : gClsI A ((tf, tg, tn), hf, ff, gUpd v 3 w, st) := by
  obtain ⟨h1, h2, h3, h4, h5, h6⟩ := hC
  refine ⟨h1, h2, h3, h4, fun i hi => ⟨(h5 i hi).1, fun T hT => ⟨((h5 i hi).2 T hT).1, ?_⟩⟩, h6⟩
  show gUok T (gUpd v 3 w (i + 1))
  rw [show gUpd v 3 w (i + 1) = v (i + 1) from if_neg (by omega)]
  exact ((h5 i hi).2 T hT).2
theorem gCls_act (hC : gClsI A ((tf, tg, tn), hf, ff, v, st)) (e1 : A'.1 = A.1) (e2 : aL A' = aL A) {w : gAu} (hp : gAp A' w) : gClsI A' ((tf, tg, tn), (fun i => if i = 0 then nI w.2.1.1 else nI w.2.1.2), ff, gUpd v 0 w.1, w.2.2) := by
  obtain ⟨h1, h2, h3, h4, h5, h6⟩ := hC
  obtain ⟨p1, p2, p3, p4⟩ := hp
  refine ⟨?_, ?_, p1, ⟨w.2.1.2, p3, ?_, rfl, p4⟩, ?_, h6⟩
  · show tf 0 = nI A'.1.1
    rw [e1]
    exact h1
  · show tg = A'.1.2
    rw [e1]
    exact h2
  · show nI w.2.1.1 = nI (aC A')
    rw [p2]
  · show gSlt (aL A') ff (gUpd v 0 w.1)
    rw [e2]
    intro i hi
    refine ⟨(h5 i hi).1, fun T hT => ⟨((h5 i hi).2 T hT).1, ?_⟩⟩
    rw [show gUpd v 0 w.1 (i + 1) = v (i + 1) from if_neg (by omega)]
    exact ((h5 i hi).2 T hT).2
theorem gCls_save (hC : gClsI A ((tf, tg, tn), hf, ff, v, st)) (e : (A'.1, A'.2.1, A'.2.2.1) = (A.1, A.2.1, A.2.2.1)) {w : (Int32 × gU) × (Int32 × gU)} (hS0 : gS1 (aL A' 0) w.1) (hS1 : gS1 (aL A' 1) w.2) : gClsI A' ((tf, tg, tn), hf, (fun i => if i = 0 then w.1.1 else w.2.1), gUpd (gUpd v 1 w.1.2) 2 w.2.2, st) := by
  obtain ⟨h1, h2, h3, h4, h5, h6⟩ := hC
  obtain ⟨e1, e23⟩ := Prod.mk.inj e
  obtain ⟨e2, e3⟩ := Prod.mk.inj e23
  refine ⟨?_, ?_, ?_, ?_, ?_, h6⟩
  · show tf 0 = nI A'.1.1
    rw [e1]
    exact h1
  · show tg = A'.1.2
    rw [e1]
    exact h2
  · show gUok A'.2.1 (v 0)
    rw [e2]
    exact h3
  · show gRing A'.2.2.1.1 A'.2.2.1.2 hf st
    rw [e3]
    exact h4
  · intro i hi
    rcases (show i = 0 ∨ i = 1 by omega) with rfl | rfl
    · exact hS0
    · exact hS1
theorem gRing_to {h : Nat → Int32} {c : Nat} (h4 : gRing (aC A) (aH A) hf st) (hh : h 1 = hf 1) (h0 : h 0 = nI (aC A')) (e : A'.2.2.1 = A.2.2.1 ∨ A'.2.2.1 = (0, aH A)) : gRing (aC A') (aH A') h st := by
  obtain ⟨nx, n1, n2, n3, n4⟩ := h4
  refine ⟨nx, n1, h0, hh.trans n3, fun k hk => ?_⟩
  rcases e with e | e
  · have eC : aC A' = aC A := congrArg Prod.fst e
    have eH : aH A' = aH A := congrArg Prod.snd e
    rw [eC] at hk ⊢
    rw [eH]
    exact n4 k hk
  · have eC : aC A' = 0 := congrArg Prod.fst e
    omega
theorem gCls_rest (hC : gClsI A ((tf, tg, tn), hf, ff, v, st)) (e : A'.1 = A.1 ∧ aL A' = aL A ∧ (A'.2.2.1 = A.2.2.1 ∨ A'.2.2.1 = (0, aH A))) {w : gU × Nat} (hU : gUok (aS A') w.1) (hc : w.2 = aC A') : gClsI A' ((tf, tg, tn), (fun i => if i = 0 then nI w.2 else hf 1), ff, gUpd v 0 w.1, st) := by
  obtain ⟨h1, h2, h3, h4, h5, h6⟩ := hC
  obtain ⟨e1, e2, e3⟩ := e
  refine ⟨?_, ?_, hU, gRing_to (A := A) (c := 0) h4 rfl (by show nI w.2 = _; rw [hc]) e3, ?_, h6⟩
  · show tf 0 = nI A'.1.1
    rw [e1]
    exact h1
  · show tg = A'.1.2
    rw [e1]
    exact h2
  · show gSlt (aL A') ff (gUpd v 0 w.1)
    rw [e2]
    intro i hi
    refine ⟨(h5 i hi).1, fun T hT => ⟨((h5 i hi).2 T hT).1, ?_⟩⟩
    rw [show gUpd v 0 w.1 (i + 1) = v (i + 1) from if_neg (by omega)]
    exact ((h5 i hi).2 T hT).2
theorem gCls_load (hC : gClsI A ((tf, tg, tn), hf, ff, v, st)) (e : A'.1 = A.1 ∧ (A'.2.2.1 = A.2.2.1 ∨ A'.2.2.1 = (0, aH A))) {w : Nat × Nat × (Nat → Int32) × gU × Nat × Int32 × Int32} (hU : gUok (aS A') w.2.2.2.1) (hc : w.2.2.2.2.1 = aC A')
    (hs : (aL A' = aL A ∧ w.2.2.2.2.2.1 = ff 0 ∧ w.2.2.2.2.2.2 = ff 1) ∨ (aL A' = (fun _ => none) ∧ w.2.2.2.2.2.1 = 0 ∧ w.2.2.2.2.2.2 = 0)) :
    gClsI A' ((gT3 (tf 0) (nI w.1) (nI w.2.1), tg, w.2.2.1), (fun i => if i = 0 then nI w.2.2.2.2.1 else hf 1), (fun i => if i = 0 then w.2.2.2.2.2.1 else w.2.2.2.2.2.2), gUpd v 0 w.2.2.2.1, st) := by
  obtain ⟨h1, h2, h3, h4, h5, h6⟩ := hC
  obtain ⟨e1, e3⟩ := e
  refine ⟨?_, ?_, hU, gRing_to (A := A) (c := 0) h4 rfl (by show nI w.2.2.2.2.1 = _; rw [hc]) e3, ?_, h6⟩
  · show tf 0 = nI A'.1.1
    rw [e1]
    exact h1
  · show tg = A'.1.2
    rw [e1]
    exact h2
  · intro i hi
    rcases hs with ⟨s1, s2, s3⟩ | ⟨s1, s2, s3⟩
    · rcases (show i = 0 ∨ i = 1 by omega) with rfl | rfl
      · show (aL A' 0 = none → w.2.2.2.2.2.1 = 0) ∧ ∀ T, aL A' 0 = some T → w.2.2.2.2.2.1 = 1 ∧ gUok T (v 1)
        rw [s1, s2]
        exact h5 0 (by decide)
      · show (aL A' 1 = none → w.2.2.2.2.2.2 = 0) ∧ ∀ T, aL A' 1 = some T → w.2.2.2.2.2.2 = 1 ∧ gUok T (v 2)
        rw [s1, s3]
        exact h5 1 (by decide)
    · rcases (show i = 0 ∨ i = 1 by omega) with rfl | rfl
      · exact ⟨fun _ => s2, fun T hT => by rw [s1] at hT; cases hT⟩
      · exact ⟨fun _ => s3, fun T hT => by rw [s1] at hT; cases hT⟩
theorem gCls_text {y z : Int32} {m : Nat → Int32} (hC : gClsI A ((tf, tg, tn), hf, ff, v, st)) (e : A'.2 = A.2) {w : Nat × (Nat → Int32)} (hw : w = A'.1) : gClsI A' ((gT3 (nI w.1) y z, w.2, m), hf, ff, v, st) := by
  obtain ⟨h1, h2, h3, h4, h5, h6⟩ := hC
  subst hw
  refine ⟨rfl, rfl, ?_, ?_, ?_, h6⟩
  · show gUok A'.2.1 (v 0)
    rw [e]
    exact h3
  · show gRing A'.2.2.1.1 A'.2.2.1.2 hf st
    rw [e]
    exact h4
  · show gSlt A'.2.2.2 ff v
    rw [e]
    exact h5
theorem gCls_text2 {y z : Int32} {m : Nat → Int32} (hC : gClsI A ((tf, tg, tn), hf, ff, v, st)) : gClsI A ((gT3 (tf 0) y z, tg, m), hf, ff, v, st) := hC
end
