/-! ===== what the cases of the law share ===== -/
abbrev gLW (G : gG) (o : Nat) (f : Nat → Int64) (x : gVa) (u : gVu) (m : Nat → Nat) (w : gRu) : va_W := ((o, .inl (gy G 3, 1, .inr (.inl f))) :: wV G x u) ++ wR G m w
abbrev gLoc (b0 : Nat) (x : gVa) (m : Nat → Nat) (o i : Nat) : List (Nat × Value) := [(0, .ref b0), (1, .ref (x.1 0)), (2, .ref (m 0)), (3, .ref o), (4, .int (nI i))]
def gLg (a b : Int32) : Int64 := (a.toInt64 <<< ((32 : Int32).toInt64 &&& 63)) ||| (b.toInt64 &&& 4294967295)
theorem gPerm_c1 {c : Nat × va_E} {A B : va_W} : gPerm (c :: (A ++ B)) (A ++ ([c] ++ B)) := gPerm_of (by
  show (c :: (A ++ B)).Perm (A ++ c :: B)
  exact List.perm_middle.symm)
theorem gPerm_c2 {c : Nat × va_E} {A B : va_W} : gPerm (A ++ ([c] ++ B)) (c :: (A ++ B)) := gPerm_of (by
  show (A ++ c :: B).Perm (c :: (A ++ B))
  exact List.perm_middle)
theorem law_rm {c s a b : Nat} (hc : c ≤ 20000) (hs : s ≤ 400000) (ha : a ≤ 20) (hb : b ≤ 500) : c + a ≤ room_1.cells ∧ s + b ≤ room_1.slots := by
  show c + a ≤ 601024 ∧ s + b ≤ 7293034
  omega
theorem law_31 (v : Int32) : ∃ k, k < 32 ∧ v &&& 31 = nI k := by
  have h : (v &&& 31).toBitVec.toNat < 32 := by
    rw [Int32.toBitVec_and, BitVec.toNat_and]
    exact Nat.lt_of_le_of_lt Nat.and_le_right (by decide)
  refine ⟨(v &&& 31).toBitVec.toNat, h, ?_⟩
  apply Int32.toBitVec_inj.mp
  show _ = BitVec.ofNat 32 _
  apply BitVec.eq_of_toNat_eq
  rw [BitVec.toNat_ofNat]
  exact (Nat.mod_eq_of_lt (BitVec.isLt _)).symm
section
variable {A : gA}
theorem gQ_about (z1 : Int32) : (fAbout A z1).2.2 = A := by
  unfold fAbout
  (repeat' split) <;> rfl
theorem gQ_prisoner (z1 z2 : Int32) : (fPris A z1 z2).2.2 = A := by
  unfold fPris
  (repeat' split) <;> rfl
theorem gQ_visitor (z1 z2 : Int32) : (fVisr A z1 z2).2.2 = A := by
  unfold fVisr
  (repeat' split) <;> rfl
theorem gQ_booking (z1 z2 : Int32) : (fBkng A z1 z2).2.2 = A := by
  unfold fBkng
  (repeat' split) <;> rfl
theorem gQ_line (z1 z2 : Int32) : (fLine A z1 z2).2.2 = A := by
  unfold fLine
  (repeat' split) <;> rfl
theorem gQ_wishAt (z1 : Int32) : (fWish A z1).2.2 = A := by
  unfold fWish
  (repeat' split) <;> rfl
theorem gQ_setting (z1 : Int32) : (fSett A z1).2.2 = A := by
  unfold fSett
  (repeat' split) <;> rfl
theorem gQ_whyNot (z1 z2 z3 z4 : Int32) : (fWhy A z1 z2 z3 z4).2.2 = A := by
  unfold fWhy
  (repeat' split) <;> rfl
theorem gQ_firstTime (z1 z2 : Int32) : (fFirst A z1 z2).2.2 = A := by
  unfold fFirst
  (repeat' split) <;> rfl
theorem gQ_coming (z1 z2 : Int32) : (fComing A z1 z2).2.2 = A := by
  unfold fComing
  (repeat' split) <;> rfl
theorem gQ_becomes (z1 : Int32) : (fBecomes A z1).2.2 = A := by
  unfold fBecomes
  (repeat' split) <;> rfl
theorem gQ_runScript (z1 : Int32) (z2 : Int64) : (fScript A z1 z2).2.2 = A := by
  unfold fScript
  (repeat' split) <;> rfl
theorem gQ_simulate (z1 : Int64) (z2 : Int32) : (fSim A z1 z2).2.2 = A := by
  unfold fSim
  (repeat' split) <;> rfl
end
section
variable {V : gV} {G : gG} {cc : ByteArray} {nL : Nat} {own : String} {Ts : List Cond} {rm : Room} {cells slots : Nat} {ws : va_W} {lv : List (Nat × Value)} {pc : Nat} {rest : List Value}
theorem g_sldN (E : gE V G cc nL own Ts rm) {b0 L : Nat} {xs : Nat → Int32} (hX : va_X b0 L xs (gvS V) (gvH V)) (hbl : b0 < (gvH V).size) (hbA : ¬ gvO V b0) {a : Nat} (ha : a < L) (hL : L ≤ 2560) (d : decode cc pc = .ok (.iaload, 1)) (k : gW V nL cells slots ws lv (pc + 1) (.int (xs a) :: rest)) : gW V nL cells slots ws lv pc (.int (nI a) :: .ref b0 :: rest) := fun H locs ls hP hD hS hl => va_sld E.x E.b hX hbl hbA hS (vp_in_nI ha (by omega)) d (by rw [nI_clamp (by omega)]; exact k H locs ls hP hD hS hl)
theorem g_slen (E : gE V G cc nL own Ts rm) {b0 L : Nat} {xs : Nat → Int32} (hX : va_X b0 L xs (gvS V) (gvH V)) (hbl : b0 < (gvH V).size) (hbA : ¬ gvO V b0) (d : decode cc pc = .ok (.arraylength, 1)) (k : gW V nL cells slots ws lv (pc + 1) (.int (nI L) :: rest)) : gW V nL cells slots ws lv pc (.ref b0 :: rest) := fun H locs ls hP hD hS hl => va_slen E.x E.b hX hbl hbA hS d (k H locs ls hP hD hS hl)
theorem law_bool (E : gE V G cc nL own Ts rm) {x : Int32} (d0 : decode cc pc = .ok (.ifCond .eq 7, 3)) (d3 : decode cc (pc + 3) = .ok (.iconst 1, 1)) (d4 : decode cc (pc + 4) = .ok (.goto 4, 3)) (d7 : decode cc (pc + 7) = .ok (.iconst 0, 1)) (e0 : (pc : Int) + 7 = ((pc + 7 : Nat) : Int)) (e4 : ((pc + 4 : Nat) : Int) + 4 = ((pc + 8 : Nat) : Int)) (k : gW V nL cells slots ws lv (pc + 8) (.int (if x = 0 then 0 else 1) :: rest)) : gW V nL cells slots ws lv pc (.int x :: rest) := by
  refine g_if_eq (tgt := pc + 7) E d0 e0 (fun c => ?_) (fun c => ?_)
  · rw [if_pos c] at k
    exact g_iconst (v := 0) E d7 (by decide) k
  · rw [if_neg c] at k
    refine g_iconst (v := 1) E d3 (by decide) ?_
    exact g_goto (tgt := pc + 8) E d4 e4 k
end
set_option maxHeartbeats 4000000 in
theorem law_tail {V : gV} {G : gG} (E : gE V G cL_law 7 RL wsL_law room_1) {b0 : Nat} {K : Nat × Int32 × gA} {x : gVa} {m : Nat → Nat} {o i pc : Nat} {f : Nat → Int64} {u : gVu} {w : gRu} {r1 r2 : Int32} {cells slots : Nat} {off : Int} (h1 : r1 = nI K.1) (h1b : r1 = 0 → K.1 = 0) (h2 : K.1 = 0 → f 0 = K.2.1.toInt64) (hR : gRefP K r2 w) (hf : cells + 0 ≤ room_1.cells ∧ slots + 0 ≤ room_1.slots)
    (d0 : decode cL_law pc = .ok (.istore 6, 2)) (d2 : decode cL_law (pc + 2) = .ok (.aload_n 2, 1)) (d3 : decode cL_law (pc + 3) = .ok (.invokevirtual 123, 3)) (d6 : decode cL_law (pc + 6) = .ok (.iload 5, 2)) (d8 : decode cL_law (pc + 8) = .ok (.if_icmp .eq 5, 3)) (d13 : decode cL_law (pc + 13) = .ok (.iload 5, 2)) (d15 : decode cL_law (pc + 15) = .ok (.ifCond .ne 15, 3)) (d18 : decode cL_law (pc + 18) = .ok (.aload_n 3, 1)) (d19 : decode cL_law (pc + 19) = .ok (.iconst 0, 1)) (d20 : decode cL_law (pc + 20) = .ok (.laload, 1)) (d21 : decode cL_law (pc + 21) = .ok (.iload 6, 2)) (d23 : decode cL_law (pc + 23) = .ok (.i2l, 1)) (d24 : decode cL_law (pc + 24) = .ok (.lcmp, 1)) (d25 : decode cL_law (pc + 25) = .ok (.ifCond .eq 5, 3)) (d30 : decode cL_law (pc + 30) = .ok (.goto off, 3)) (e30 : ((pc + 30 : Nat) : Int) + off = ((2262 : Nat) : Int))
    (k : gW V 7 cells slots (gLW G o f x u m w) (gLoc b0 x m o i) 2262 []) : gW V 7 cells slots (gLW G o f x u m w) ((5, .int r1) :: gLoc b0 x m o i) pc [.int r2] := by
  refine g_istore (lv' := (6, .int r2) :: (5, .int r1) :: gLoc b0 x m o i) E d0 (by decide) rfl ?_
  refine g_aload_n E d2 rfl 4 rfl ?_
  refine g_callVI (As := []) (F := (o, .inl (gy G 3, 1, .inr (.inl f))) :: wV G x u) E (rX8_thrown G m w) gL_law_X8_thrown rfl hdX8_thrown ⟨Nat.le_of_ble_eq_true rfl, Nat.le_of_ble_eq_true rfl⟩ 8 0 rfl rfl rfl (gPerm_cm (A := (o, .inl (gy G 3, 1, .inr (.inl f))) :: wV G x u) (B := wR G m w)) rfl rfl ?_ d3 hf (fun r w' hp => ?_)
  · exact Nat.le_of_ble_eq_true rfl
  obtain ⟨hp1, hp2⟩ := hp
  rw [hp2]
  refine g_perm (gPerm_cm (A := wR G m w) (B := (o, .inl (gy G 3, 1, .inr (.inl f))) :: wV G x u)) ?_
  refine g_iload E d6 1 rfl ?_
  refine g_icmp_eq (tgt := pc + 13) E d8 (by omega) (fun _ => ?_) (fun c => absurd (by rw [hp1, hR.1, h1]) c)
  refine g_iload E d13 1 rfl ?_
  have kk : gW V 7 (cells + 0) (slots + 0) (gLW G o f x u m w) ((6, .int r2) :: (5, .int r1) :: gLoc b0 x m o i) (pc + 30) [] := by
    refine g_goto (tgt := 2262) E d30 e30 ?_
    exact g_lv [2, 3, 4, 5, 6] rfl k
  refine g_if_ne (tgt := pc + 30) E d15 (by omega) (fun _ => kk) (fun c => ?_)
  have hK := h1b c
  refine g_aload_n E d18 rfl 5 rfl ?_
  refine g_iconst (v := 0) E d19 (by decide) ?_
  refine g_lald (v := K.2.1.toInt64) E 0 rfl (g_in (e := 0) (by decide) rfl) (by rw [show Int32.toNatClampNeg 0 = 0 by decide]; exact h2 hK) d20 ?_
  refine g_iload E d21 0 rfl ?_
  refine g_i2l (v := r2.toInt64) E d23 rfl ?_
  refine g_lcmp E d24 ?_
  exact g_if_eq (tgt := pc + 30) E d25 (by omega) (fun _ => kk) (fun c => absurd (gCmp_eq.mpr (by rw [hR.2.1 hK])) c)
