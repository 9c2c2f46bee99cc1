/-! ===== a text told command by command has no error ===== -/
theorem gW_0 : (gWi_z 0).2.2.2 = [109, 97, 110] := by decide
theorem gW_1 : (gWi_z 1).2.2.2 = [109, 97, 121] := by decide
theorem gW_2 : (gWi_z 2).2.2.2 = [98, 111, 111, 107] := by decide
theorem gW_3 : (gWi_z 3).2.2.2 = [119, 105, 115, 104] := by decide
theorem gW_4 : (gWi_z 4).2.2.2 = [104, 97, 115] := by decide
theorem gW_5 : (gWi_z 5).2.2.2 = [114, 117, 110] := by decide
theorem gK_0 : (gKi_z 0).2.2.2 = [114] := by decide
theorem gK_1 : (gKi_z 1).2.2.2 = [112, 118] := by decide
theorem gK_2 : (gKi_z 2).2.2.2 = [112, 118, 100, 104] := by decide
theorem gK_3 : (gKi_z 3).2.2.2 = [112, 118] := by decide
theorem gK_4 : (gKi_z 4).2.2.2 = [118] := by decide
theorem gK_5 : (gKi_z 5).2.2.2 = [110] := by decide
theorem gWD_d : ∀ d : Nat, d ≤ 9 → gWD (-1) (nI (48 + d)) = nI d := by
  intro d hd
  rcases (show d = 0 ∨ d = 1 ∨ d = 2 ∨ d = 3 ∨ d = 4 ∨ d = 5 ∨ d = 6 ∨ d = 7 ∨ d = 8 ∨ d = 9 by omega) with rfl | rfl | rfl | rfl | rfl | rfl | rfl | rfl | rfl | rfl <;> decide
theorem gWDn0 {v s : Int32} (h : s = 44 ∨ s = 59 ∨ s = -1) : gWD v s = -1 := by
  unfold gWD
  rcases h with h | h | h
  · rw [h, if_pos (by decide)]
  · rw [h, if_neg (by decide), if_pos (by decide)]
  · rw [h, if_pos (by decide)]
theorem gLe_ok (k : Int32) : ¬ (-1 : Int32) ≥ gLe k := by
  unfold gLe
  split <;> decide
section
variable {n a wd : Nat} {sg nm : Nat → Int32}
theorem gRNst {lo hi v : Int32} (hlo : (-1 : Int32) < lo) (h : gSg n sg a = 44 ∨ gSg n sg a = 59 ∨ gSg n sg a = -1) : ∀ f : Nat, gRN n sg lo hi f a v = (a, v)
  | 0 => rfl
  | f + 1 => by
    rw [gRN, gWDn0 h, if_neg (fun c => c.1 hlo)]
theorem gRNum_1 {k : Int32} {d : Nat} (ha : a < n) (h : gSg n sg a = nI (48 + d)) (hd : d ≤ 9) (hr : ¬ nI d < gLe k ∧ ¬ gMo k < nI d) (hs : gSg n sg (a + 1) = 44 ∨ gSg n sg (a + 1) = 59 ∨ gSg n sg (a + 1) = -1) : gRNum n sg a k = (a + 1, nI d) := by
  have hlo : (-1 : Int32) < gLe k := by
    unfold gLe
    split <;> decide
  unfold gRNum
  obtain ⟨f, hf⟩ : ∃ f, n - a = f + 1 := ⟨n - a - 1, by omega⟩
  rw [hf, gRN, h, gWD_d d hd, if_pos hr, gRNst hlo hs]
theorem nI_m1 {d : Nat} (hd : d ≤ 9) : ¬ nI d = -1 := by
  intro h
  have := congrArg Int32.toInt h
  rw [nI_toInt (by omega), show (-1 : Int32).toInt = -1 by decide] at this
  omega
theorem gRK_1 {k : Int32} {l : List Int32} {i d : Nat} (hc : gSg n sg a = 44) (ha : a + 1 < n) (h : gSg n sg (a + 1) = nI (48 + d)) (hd : d ≤ 9) (hr : ¬ nI d < gLe k ∧ ¬ gMo k < nI d) (hs : gSg n sg (a + 2) = 44 ∨ gSg n sg (a + 2) = 59 ∨ gSg n sg (a + 2) = -1) : gRK n sg wd (k :: l) i a nm = gRK n sg wd l (i + 1) (a + 2) (upd nm i (nI d)) := by
  have e := gRNum_1 (k := k) ha h hd hr hs
  have e2 : gRNb n sg (a + 1) nm i k = (true, a + 2, upd nm i (nI d)) := by
    unfold gRNb
    rw [e, if_neg (nI_m1 hd)]
  rw [gRK, if_pos hc, e2, if_pos rfl]
theorem gRK_0 {i : Nat} : gRK n sg wd [] i a nm = (true, a, wd, nm) := rfl
/-- the bounds of the kinds -/
theorem gDgB {k : Int32} {d lo hi : Nat} (h1 : gLe k = nI lo) (h2 : gMo k = nI hi) (hl : lo ≤ d) (hh : d ≤ hi) (hb : hi < 1000) : ¬ nI d < gLe k ∧ ¬ gMo k < nI d := by
  rw [h1, h2]
  exact ⟨fun c => by have := (nI_ltI (by omega) (by omega)).mp c; omega, fun c => by have := (nI_ltI (by omega) (by omega)).mp c; omega⟩
theorem gRW_man (h0 : gSg n sg a = 109) (h1 : gSg n sg (a + 1) = 97) (h2 : gSg n sg (a + 2) = 110) : gRWd n sg a wd = (true, a + 3, 0) := by
  have e : gSame n sg a (gWi_z 0).2.2.2 = 3 := by
    rw [gW_0, gSame, if_pos h0, gSame, if_pos h1, gSame, if_pos h2]
    rfl
  unfold gRWd
  rw [gRW, e, if_pos (by rw [gW_0]; rfl)]
theorem gRW_may (h0 : gSg n sg a = 109) (h1 : gSg n sg (a + 1) = 97) (h2 : gSg n sg (a + 2) = 121) : gRWd n sg a wd = (true, a + 3, 1) := by
  have e0 : gSame n sg a (gWi_z 0).2.2.2 = 2 := by
    rw [gW_0, gSame, if_pos h0, gSame, if_pos h1, gSame, if_neg (by rw [h2]; decide)]
  have e : gSame n sg a (gWi_z 1).2.2.2 = 3 := by
    rw [gW_1, gSame, if_pos h0, gSame, if_pos h1, gSame, if_pos h2]
    rfl
  unfold gRWd
  rw [gRW, e0, if_neg (by rw [gW_0]; decide), gRW, e, if_pos (by rw [gW_1]; rfl)]
theorem gRW_book (h0 : gSg n sg a = 98) (h1 : gSg n sg (a + 1) = 111) (h2 : gSg n sg (a + 2) = 111) (h3 : gSg n sg (a + 3) = 107) : gRWd n sg a wd = (true, a + 4, 2) := by
  have e0 : gSame n sg a (gWi_z 0).2.2.2 = 0 := by
    rw [gW_0, gSame, if_neg (by rw [h0]; decide)]
  have e1 : gSame n sg a (gWi_z 1).2.2.2 = 0 := by
    rw [gW_1, gSame, if_neg (by rw [h0]; decide)]
  have e : gSame n sg a (gWi_z 2).2.2.2 = 4 := by
    rw [gW_2, gSame, if_pos h0, gSame, if_pos h1, gSame, if_pos h2, gSame, if_pos h3]
    rfl
  unfold gRWd
  rw [gRW, e0, if_neg (by rw [gW_0]; decide), gRW, e1, if_neg (by rw [gW_1]; decide), gRW, e, if_pos (by rw [gW_2]; rfl)]
theorem gRW_wish (h0 : gSg n sg a = 119) (h1 : gSg n sg (a + 1) = 105) (h2 : gSg n sg (a + 2) = 115) (h3 : gSg n sg (a + 3) = 104) : gRWd n sg a wd = (true, a + 4, 3) := by
  have e0 : gSame n sg a (gWi_z 0).2.2.2 = 0 := by
    rw [gW_0, gSame, if_neg (by rw [h0]; decide)]
  have e1 : gSame n sg a (gWi_z 1).2.2.2 = 0 := by
    rw [gW_1, gSame, if_neg (by rw [h0]; decide)]
  have e2 : gSame n sg a (gWi_z 2).2.2.2 = 0 := by
    rw [gW_2, gSame, if_neg (by rw [h0]; decide)]
  have e : gSame n sg a (gWi_z 3).2.2.2 = 4 := by
    rw [gW_3, gSame, if_pos h0, gSame, if_pos h1, gSame, if_pos h2, gSame, if_pos h3]
    rfl
  unfold gRWd
  rw [gRW, e0, if_neg (by rw [gW_0]; decide), gRW, e1, if_neg (by rw [gW_1]; decide), gRW, e2, if_neg (by rw [gW_2]; decide), gRW, e, if_pos (by rw [gW_3]; rfl)]
theorem gRW_has (h0 : gSg n sg a = 104) (h1 : gSg n sg (a + 1) = 97) (h2 : gSg n sg (a + 2) = 115) : gRWd n sg a wd = (true, a + 3, 4) := by
  have e0 : gSame n sg a (gWi_z 0).2.2.2 = 0 := by
    rw [gW_0, gSame, if_neg (by rw [h0]; decide)]
  have e1 : gSame n sg a (gWi_z 1).2.2.2 = 0 := by
    rw [gW_1, gSame, if_neg (by rw [h0]; decide)]
  have e2 : gSame n sg a (gWi_z 2).2.2.2 = 0 := by
    rw [gW_2, gSame, if_neg (by rw [h0]; decide)]
  have e3 : gSame n sg a (gWi_z 3).2.2.2 = 0 := by
    rw [gW_3, gSame, if_neg (by rw [h0]; decide)]
  have e : gSame n sg a (gWi_z 4).2.2.2 = 3 := by
    rw [gW_4, gSame, if_pos h0, gSame, if_pos h1, gSame, if_pos h2]
    rfl
  unfold gRWd
  rw [gRW, e0, if_neg (by rw [gW_0]; decide), gRW, e1, if_neg (by rw [gW_1]; decide), gRW, e2, if_neg (by rw [gW_2]; decide), gRW, e3, if_neg (by rw [gW_3]; decide), gRW, e, if_pos (by rw [gW_4]; rfl)]
theorem gRW_run (h0 : gSg n sg a = 114) (h1 : gSg n sg (a + 1) = 117) (h2 : gSg n sg (a + 2) = 110) : gRWd n sg a wd = (true, a + 3, 5) := by
  have e0 : gSame n sg a (gWi_z 0).2.2.2 = 0 := by
    rw [gW_0, gSame, if_neg (by rw [h0]; decide)]
  have e1 : gSame n sg a (gWi_z 1).2.2.2 = 0 := by
    rw [gW_1, gSame, if_neg (by rw [h0]; decide)]
  have e2 : gSame n sg a (gWi_z 2).2.2.2 = 0 := by
    rw [gW_2, gSame, if_neg (by rw [h0]; decide)]
  have e3 : gSame n sg a (gWi_z 3).2.2.2 = 0 := by
    rw [gW_3, gSame, if_neg (by rw [h0]; decide)]
  have e4 : gSame n sg a (gWi_z 4).2.2.2 = 0 := by
    rw [gW_4, gSame, if_neg (by rw [h0]; decide)]
  have e : gSame n sg a (gWi_z 5).2.2.2 = 3 := by
    rw [gW_5, gSame, if_pos h0, gSame, if_pos h1, gSame, if_pos h2]
    rfl
  unfold gRWd
  rw [gRW, e0, if_neg (by rw [gW_0]; decide), gRW, e1, if_neg (by rw [gW_1]; decide), gRW, e2, if_neg (by rw [gW_2]; decide), gRW, e3, if_neg (by rw [gW_3]; decide), gRW, e4, if_neg (by rw [gW_4]; decide), gRW, e, if_pos (by rw [gW_5]; rfl)]
/-- how a command ends -/
def gEnd (n : Nat) (sg : Nat → Int32) (a : Nat) : Prop := gSg n sg a = 59 ∨ gSg n sg a = -1
theorem gEnd_3 (h : gEnd n sg a) : gSg n sg a = 44 ∨ gSg n sg a = 59 ∨ gSg n sg a = -1 := Or.inr h
theorem gEx2 {K : Bool × Nat × Nat × (Nat → Int32)} {p w : Nat} {m : Nat → Int32} (h : K = (true, p, w, m)) : ∃ w m, K = (true, p, w, m) := ⟨w, m, h⟩
theorem gCm_man {d : Nat} (h0 : gSg n sg a = 109) (h1 : gSg n sg (a + 1) = 97) (h2 : gSg n sg (a + 2) = 110) (h3 : gSg n sg (a + 3) = 44) (h4 : gSg n sg (a + 4) = nI (48 + d)) (hn : a + 4 < n) (hd : d ≤ 3) (h5 : gEnd n sg (a + 5)) : ∃ w m, gRC n sg a wd nm = (true, a + 5, w, m) := by
  unfold gRC
  rw [gRW_man h0 h1 h2, if_pos rfl, gK_0]
  apply gEx2
  show gRK n sg 0 [114] 0 (a + 3) nm = _
  rw [gRK_1 h3 hn h4 (by omega) (gDgB (lo := 0) (hi := 3) (by decide) (by decide) (by omega) hd (by decide)) (gEnd_3 h5), gRK_0]
theorem gCm_may {d e : Nat} (h0 : gSg n sg a = 109) (h1 : gSg n sg (a + 1) = 97) (h2 : gSg n sg (a + 2) = 121) (h3 : gSg n sg (a + 3) = 44) (h4 : gSg n sg (a + 4) = nI (48 + d)) (h5 : gSg n sg (a + 5) = 44) (h6 : gSg n sg (a + 6) = nI (48 + e)) (hn : a + 6 < n) (hd : d ≤ 7) (he : e ≤ 9) (h7 : gEnd n sg (a + 7)) : ∃ w m, gRC n sg a wd nm = (true, a + 7, w, m) := by
  unfold gRC
  rw [gRW_may h0 h1 h2, if_pos rfl, gK_1]
  apply gEx2
  show gRK n sg 1 [112, 118] 0 (a + 3) nm = _
  rw [gRK_1 h3 (by omega) h4 (by omega) (gDgB (lo := 0) (hi := 7) (by decide) (by decide) (by omega) hd (by decide)) (Or.inl h5), gRK_1 h5 hn h6 he (gDgB (lo := 0) (hi := 9) (by decide) (by decide) (by omega) he (by decide)) (gEnd_3 h7), gRK_0]
theorem gCm_wish {d e : Nat} (h0 : gSg n sg a = 119) (h1 : gSg n sg (a + 1) = 105) (h2 : gSg n sg (a + 2) = 115) (hx : gSg n sg (a + 3) = 104) (h3 : gSg n sg (a + 4) = 44) (h4 : gSg n sg (a + 5) = nI (48 + d)) (h5 : gSg n sg (a + 6) = 44) (h6 : gSg n sg (a + 7) = nI (48 + e)) (hn : a + 7 < n) (hd : d ≤ 7) (he : e ≤ 9) (h7 : gEnd n sg (a + 8)) : ∃ w m, gRC n sg a wd nm = (true, a + 8, w, m) := by
  unfold gRC
  rw [gRW_wish h0 h1 h2 hx, if_pos rfl, gK_3]
  apply gEx2
  show gRK n sg 3 [112, 118] 0 (a + 4) nm = _
  rw [gRK_1 h3 (by omega) h4 (by omega) (gDgB (lo := 0) (hi := 7) (by decide) (by decide) (by omega) hd (by decide)) (Or.inl h5), gRK_1 h5 hn h6 he (gDgB (lo := 0) (hi := 9) (by decide) (by decide) (by omega) he (by decide)) (gEnd_3 h7), gRK_0]
theorem gCm_has {d : Nat} (h0 : gSg n sg a = 104) (h1 : gSg n sg (a + 1) = 97) (h2 : gSg n sg (a + 2) = 115) (h3 : gSg n sg (a + 3) = 44) (h4 : gSg n sg (a + 4) = nI (48 + d)) (hn : a + 4 < n) (hd : d ≤ 9) (h5 : gEnd n sg (a + 5)) : ∃ w m, gRC n sg a wd nm = (true, a + 5, w, m) := by
  unfold gRC
  rw [gRW_has h0 h1 h2, if_pos rfl, gK_4]
  apply gEx2
  show gRK n sg 4 [118] 0 (a + 3) nm = _
  rw [gRK_1 h3 hn h4 (by omega) (gDgB (lo := 0) (hi := 9) (by decide) (by decide) (by omega) hd (by decide)) (gEnd_3 h5), gRK_0]
theorem gCm_run {d : Nat} (h0 : gSg n sg a = 114) (h1 : gSg n sg (a + 1) = 117) (h2 : gSg n sg (a + 2) = 110) (h3 : gSg n sg (a + 3) = 44) (h4 : gSg n sg (a + 4) = nI (48 + d)) (hn : a + 4 < n) (hd0 : 1 ≤ d) (hd : d ≤ 9) (h5 : gEnd n sg (a + 5)) : ∃ w m, gRC n sg a wd nm = (true, a + 5, w, m) := by
  unfold gRC
  rw [gRW_run h0 h1 h2, if_pos rfl, gK_5]
  apply gEx2
  show gRK n sg 5 [110] 0 (a + 3) nm = _
  rw [gRK_1 h3 hn h4 (by omega) (gDgB (lo := 1) (hi := 30) (by decide) (by decide) hd0 (by omega) (by decide)) (gEnd_3 h5), gRK_0]
theorem gCm_book {d e f g : Nat} (h0 : gSg n sg a = 98) (h1 : gSg n sg (a + 1) = 111) (h2 : gSg n sg (a + 2) = 111) (hx : gSg n sg (a + 3) = 107) (h3 : gSg n sg (a + 4) = 44) (h4 : gSg n sg (a + 5) = nI (48 + d)) (h5 : gSg n sg (a + 6) = 44) (h6 : gSg n sg (a + 7) = nI (48 + e)) (h7 : gSg n sg (a + 8) = 44) (h8 : gSg n sg (a + 9) = nI (48 + f)) (h9 : gSg n sg (a + 10) = 44) (h10 : gSg n sg (a + 11) = nI (48 + g)) (hn : a + 11 < n) (hd : d ≤ 7) (he : e ≤ 9) (hf : f ≤ 9) (hg : g ≤ 7) (h11 : gEnd n sg (a + 12)) : ∃ w m, gRC n sg a wd nm = (true, a + 12, w, m) := by
  unfold gRC
  rw [gRW_book h0 h1 h2 hx, if_pos rfl, gK_2]
  apply gEx2
  show gRK n sg 2 [112, 118, 100, 104] 0 (a + 4) nm = _
  rw [gRK_1 h3 (by omega) h4 (by omega) (gDgB (lo := 0) (hi := 7) (by decide) (by decide) (by omega) hd (by decide)) (Or.inl h5), gRK_1 h5 (by omega) h6 he (gDgB (lo := 0) (hi := 9) (by decide) (by decide) (by omega) he (by decide)) (Or.inl h7), gRK_1 h7 (by omega) h8 hf (gDgB (lo := 0) (hi := 99) (by decide) (by decide) (by omega) (by omega) (by decide)) (Or.inl h9), gRK_1 h9 (by omega) h10 (by omega) (gDgB (lo := 0) (hi := 7) (by decide) (by decide) (by omega) hg (by decide)) (gEnd_3 h11), gRK_0]
/-- one command after the other -/
theorem gEI_go {f a1 : Nat} (h : ∃ w m, gRC n sg a wd nm = (true, a1, w, m)) (h1 : a1 < n) (h2 : gSg n sg a1 = 59) : (gEI (f + 1) n sg a wd nm).1 = (gEI f n sg (a1 + 1) 0 (fun _ => 0)).1 := by
  obtain ⟨w, m, e⟩ := h
  rw [gEI, e, if_pos rfl, if_pos h1, if_pos h2]
  exact gEI_ind n sg f (a1 + 1) w 0 m (fun _ => 0)
theorem gEI_fin {f a1 : Nat} (h : ∃ w m, gRC n sg a wd nm = (true, a1, w, m)) (h1 : ¬ a1 < n) : (gEI (f + 1) n sg a wd nm).1 = -1 := by
  obtain ⟨w, m, e⟩ := h
  rw [gEI, e, if_pos rfl, if_neg h1]
end
/-! the text of the law -/
def tlM (m n k : Nat) : List Nat := [109, 97, 110, 44, 48 + (m / 2 ^ k % 100000 + 131 * k) % 4, 59, 109, 97, 121, 44, 48 + k, 44, 48 + (n / 2 ^ k % 100000 + 137 * k) % 10, 59]
def tlB (m n k : Nat) : List Nat := [98, 111, 111, 107, 44, 48 + k, 44, 48 + (n / 2 ^ k % 100000 + 137 * k) % 10, 44, 48 + (m / 2 ^ k % 100000 + 131 * k) / 4 % 9, 44, 48 + (n / 2 ^ k % 100000 + 137 * k) / 10 % 8, 59]
def tlC (m n k : Nat) : List Nat := tlM m n k ++ (if k % 2 = 1 then [] else tlB m n k)
def tlA (m n : Nat) : Nat → List Nat
  | 0 => []
  | k + 1 => tlA m n k ++ tlC m n k
def tlE (m n : Nat) : List Nat := [104, 97, 115, 44, 48 + m % 10, 59, 119, 105, 115, 104, 44, 48 + m % 4, 44, 48 + n % 10, 59, 114, 117, 110, 44, 48 + (1 + n % 4)]
def tlT (m n : Nat) : List Nat := tlA m n 4 ++ tlE m n
theorem tlC_len (m n k : Nat) : (tlC m n k).length = if k % 2 = 1 then 14 else 27 := by
  unfold tlC
  by_cases c : k % 2 = 1
  · rw [if_pos c, if_pos c]
    rfl
  · rw [if_neg c, if_neg c]
    rfl
theorem tlA_len (m n : Nat) : ∀ k, k ≤ 4 → (tlA m n k).length ≤ 27 * k
  | 0, _ => Nat.le_refl 0
  | k + 1, h => by
    have h1 := tlA_len m n k (by omega)
    have h2 := tlC_len m n k
    show (tlA m n k ++ tlC m n k).length ≤ _
    rw [List.length_append, h2]
    split <;> omega
theorem tlA_4 (m n : Nat) : (tlA m n 4).length = 82 := by
  show (((tlA m n 0 ++ tlC m n 0) ++ tlC m n 1) ++ tlC m n 2 ++ tlC m n 3).length = 82
  rw [List.length_append, List.length_append, List.length_append, List.length_append, tlC_len, tlC_len, tlC_len, tlC_len]
  rfl
/-- many characters are told -/
def aPuts (A : gA) (l : List Nat) : gA := l.foldl aPut A
theorem aPuts_snoc (A : gA) (l : List Nat) (c : Nat) : aPut (aPuts A l) c = aPuts A (l ++ [c]) := by
  unfold aPuts
  rw [List.foldl_append]
  rfl
theorem aPuts_N (A : gA) : ∀ (l : List Nat), aN (aPuts A l) = aN A + l.length := by
  intro l
  unfold aPuts
  induction l generalizing A with
  | nil => rfl
  | cons c l ih =>
    rw [List.foldl_cons, ih]
    show aN A + 1 + l.length = aN A + (l.length + 1)
    omega
theorem aPuts_2 (A : gA) : ∀ (l : List Nat), (aPuts A l).2 = A.2 := by
  intro l
  unfold aPuts
  induction l generalizing A with
  | nil => rfl
  | cons c l ih =>
    rw [List.foldl_cons, ih]
    rfl
theorem aPuts_G (A : gA) : ∀ (l : List Nat) (j : Nat), aG (aPuts A l) j = if j < aN A then aG A j else if j < aN A + l.length then nI (l.getD (j - aN A) 0) else aG A j := by
  intro l
  unfold aPuts
  induction l generalizing A with
  | nil =>
    intro j
    show aG A j = _
    split
    · rfl
    · rw [if_neg (by show ¬ j < aN A + 0; omega)]
  | cons c l ih =>
    intro j
    have e1 : aN (aPut A c) = aN A + 1 := rfl
    have e2 : aG (aPut A c) j = upd (aG A) (aN A) (nI c) j := rfl
    rw [List.foldl_cons, ih, e1, e2]
    by_cases h1 : j < aN A
    · rw [if_pos (by omega), if_pos h1, upd_ne (by omega)]
    · rw [if_neg h1]
      by_cases h2 : j = aN A
      · rw [if_pos (by omega), upd_eq h2, if_pos (by rw [List.length_cons]; omega), h2, Nat.sub_self]
        rfl
      · rw [if_neg (by omega)]
        by_cases h3 : j < aN A + (c :: l).length
        · rw [if_pos h3, if_pos (by rw [List.length_cons] at h3; omega)]
          obtain ⟨i, hi⟩ : ∃ i, j - aN A = i + 1 := ⟨j - aN A - 1, by omega⟩
          rw [hi, show j - (aN A + 1) = i by omega]
          rfl
        · rw [if_neg h3, if_neg (by rw [List.length_cons] at h3; omega), upd_ne h2]
theorem gAok_puts {b : Nat} {A : gA} (h : gAok b A) (l : List Nat) (hn : aN A + l.length ≤ 120) : gAok b (aPuts A l) :=
  ⟨by rw [aPuts_N]; exact hn, by show gOk b (aPuts A l).2.1; rw [aPuts_2]; exact h.2.1, by show (aPuts A l).2.2.1.1 ≤ 14; rw [aPuts_2]; exact h.2.2.1, by show gHok b (aPuts A l).2.2.1.1 (aPuts A l).2.2.1.2; rw [aPuts_2]; exact h.2.2.2.1, by show gSok b (aPuts A l).2.2.2; rw [aPuts_2]; exact h.2.2.2.2⟩
theorem gX5_puts {A : gA} (h : gX5 A) (l : List Nat) : gX5 (aPuts A l) := by
  unfold gX5
  show gP5 (aPuts A l).2.1 ∧ (∀ k, k < (aPuts A l).2.2.1.1 → gP5 ((aPuts A l).2.2.1.2 k)) ∧ ∀ i, i < 2 → ∀ T, (aPuts A l).2.2.2 i = some T → gP5 T
  rw [aPuts_2]
  exact h
section
variable {sg : Nat → Int32} {T : List Nat}
theorem tl_at {n : Nat} (hT : ∀ i, i < T.length → sg i = nI (T.getD i 0)) (hn : n = T.length) {P C R : List Nat} (e : T = P ++ C ++ R) {i : Nat} (hi : i < C.length) : gSg n sg (P.length + i) = nI (C.getD i 0) := by
  have hl : P.length + i < T.length := by
    rw [e, List.length_append, List.length_append]
    omega
  unfold gSg
  rw [hn, if_pos hl, hT _ hl, e]
  congr 1
  rw [List.getD_eq_getElem?_getD, List.getD_eq_getElem?_getD, List.append_assoc, List.getElem?_append_right (by omega), Nat.add_sub_cancel_left, List.getElem?_append_left hi]
/-- two or three commands of a turn -/
theorem tl_turn {n : Nat} (hT : ∀ i, i < T.length → sg i = nI (T.getD i 0)) (hn : n = T.length) {m y k : Nat} (hk : k < 4) {R : List Nat} (e : T = tlA m y k ++ tlC m y k ++ R) (f : Nat) : ∃ f2, f ≤ f2 ∧ (gEI (f + 3) n sg (tlA m y k).length 0 (fun _ => 0)).1 = (gEI f2 n sg (tlA m y (k + 1)).length 0 (fun _ => 0)).1 := by
  have hlen : (tlA m y (k + 1)).length = (tlA m y k).length + (tlC m y k).length := by
    show (tlA m y k ++ tlC m y k).length = _
    rw [List.length_append]
  have hT2 : (tlA m y k).length + (tlC m y k).length ≤ n := by
    rw [hn, e, List.length_append, List.length_append]
    omega
  have hM : ∀ i, i < 14 → gSg n sg ((tlA m y k).length + i) = nI ((tlM m y k).getD i 0) := by
    intro i hi
    refine tl_at hT hn (P := tlA m y k) (C := tlM m y k) (R := (if k % 2 = 1 then [] else tlB m y k) ++ R) ?_ hi
    rw [e]
    unfold tlC
    simp only [List.append_assoc]
  have h14 : 14 ≤ (tlC m y k).length := by
    rw [tlC_len]
    split <;> decide
  generalize hP : (tlA m y k).length = P at hM hT2 hlen ⊢
  have c1 := gCm_man (wd := 0) (nm := fun _ => 0) (d := (m / 2 ^ k % 100000 + 131 * k) % 4) (hM 0 (by decide)) (hM 1 (by decide)) (hM 2 (by decide)) (hM 3 (by decide)) (hM 4 (by decide)) (by omega) (by omega) (Or.inl (hM 5 (by decide)))
  have c2 := gCm_may (wd := 0) (nm := fun _ => 0) (a := P + 6) (d := k) (e := (y / 2 ^ k % 100000 + 137 * k) % 10) (hM 6 (by decide)) (hM 7 (by decide)) (hM 8 (by decide)) (hM 9 (by decide)) (hM 10 (by decide)) (hM 11 (by decide)) (hM 12 (by decide)) (by omega) (by omega) (by omega) (Or.inl (hM 13 (by decide)))
  have s1 := gEI_go (f := f + 2) c1 (by omega) (hM 5 (by decide))
  have s2 := gEI_go (f := f + 1) c2 (by omega) (hM 13 (by decide))
  have s12 := s1.trans s2
  by_cases c : k % 2 = 1
  · have h27 : (tlC m y k).length = 14 := by rw [tlC_len, if_pos c]
    rw [h27] at hlen
    refine ⟨f + 1, by omega, ?_⟩
    rw [hlen]
    exact s12
  · have h27 : (tlC m y k).length = 27 := by rw [tlC_len, if_neg c]
    rw [h27] at hlen hT2
    have hB : ∀ i, i < 13 → gSg n sg (P + 14 + i) = nI ((tlB m y k).getD i 0) := by
      intro i hi
      have := tl_at hT hn (P := tlA m y k ++ tlM m y k) (C := tlB m y k) (R := R) (by rw [e]; unfold tlC; rw [if_neg c]; simp only [List.append_assoc]) hi
      rw [List.length_append, hP] at this
      exact this
    have c3 := gCm_book (wd := 0) (nm := fun _ => 0) (a := P + 14) (d := k) (e := (y / 2 ^ k % 100000 + 137 * k) % 10) (f := (m / 2 ^ k % 100000 + 131 * k) / 4 % 9) (g := (y / 2 ^ k % 100000 + 137 * k) / 10 % 8) (hB 0 (by decide)) (hB 1 (by decide)) (hB 2 (by decide)) (hB 3 (by decide)) (hB 4 (by decide)) (hB 5 (by decide)) (hB 6 (by decide)) (hB 7 (by decide)) (hB 8 (by decide)) (hB 9 (by decide)) (hB 10 (by decide)) (hB 11 (by decide)) (by omega) (by omega) (by omega) (by omega) (by omega) (Or.inl (hB 12 (by decide)))
    have s3 := gEI_go (f := f) c3 (by omega) (hB 12 (by decide))
    refine ⟨f, Nat.le_refl _, ?_⟩
    rw [hlen]
    exact s12.trans s3
end
/-- the text of the law is a prison's -/
theorem tl_ok {n m y : Nat} {sg : Nat → Int32} (hn : n = (tlT m y).length) (hT : ∀ i, i < (tlT m y).length → sg i = nI ((tlT m y).getD i 0)) : aEI n sg = -1 := by
  have e0 : tlT m y = tlA m y 0 ++ tlC m y 0 ++ (tlC m y 1 ++ tlC m y 2 ++ tlC m y 3 ++ tlE m y) := by
    show (((([] : List Nat) ++ tlC m y 0) ++ tlC m y 1) ++ tlC m y 2 ++ tlC m y 3) ++ tlE m y = ([] ++ tlC m y 0) ++ _
    simp only [List.append_assoc]
  have e1 : tlT m y = tlA m y 1 ++ tlC m y 1 ++ (tlC m y 2 ++ tlC m y 3 ++ tlE m y) := by
    show ((tlA m y 1 ++ tlC m y 1) ++ tlC m y 2 ++ tlC m y 3) ++ tlE m y = _
    simp only [List.append_assoc]
  have e2 : tlT m y = tlA m y 2 ++ tlC m y 2 ++ (tlC m y 3 ++ tlE m y) := by
    show ((tlA m y 2 ++ tlC m y 2) ++ tlC m y 3) ++ tlE m y = _
    simp only [List.append_assoc]
  have e3 : tlT m y = tlA m y 3 ++ tlC m y 3 ++ tlE m y := rfl
  have e4 : tlT m y = tlA m y 4 ++ tlE m y ++ [] := (List.append_nil _).symm
  have hE : ∀ i, i < 20 → gSg n sg ((tlA m y 4).length + i) = nI ((tlE m y).getD i 0) := fun i hi => tl_at hT hn e4 hi
  have hl : n = (tlA m y 4).length + 20 := by rw [hn]; unfold tlT; rw [List.length_append]; rfl
  obtain ⟨f1, g1, s1⟩ := tl_turn hT hn (by decide) e0 117
  obtain ⟨f1', rfl⟩ : ∃ q, f1 = q + 3 := ⟨f1 - 3, by omega⟩
  obtain ⟨f2, g2, s2⟩ := tl_turn hT hn (by decide) e1 f1'
  obtain ⟨f2', rfl⟩ : ∃ q, f2 = q + 3 := ⟨f2 - 3, by omega⟩
  obtain ⟨f3, g3, s3⟩ := tl_turn hT hn (by decide) e2 f2'
  obtain ⟨f3', rfl⟩ : ∃ q, f3 = q + 3 := ⟨f3 - 3, by omega⟩
  obtain ⟨f4, g4, s4⟩ := tl_turn hT hn (by decide) e3 f3'
  obtain ⟨f, rfl⟩ : ∃ q, f4 = q + 3 := ⟨f4 - 3, by omega⟩
  generalize hP : (tlA m y 4).length = P at hE hl s4
  have c1 := gCm_has (wd := 0) (nm := fun _ => 0) (a := P) (d := m % 10) (hE 0 (by decide)) (hE 1 (by decide)) (hE 2 (by decide)) (hE 3 (by decide)) (hE 4 (by decide)) (by omega) (by omega) (Or.inl (hE 5 (by decide)))
  have c2 := gCm_wish (wd := 0) (nm := fun _ => 0) (a := P + 6) (d := m % 4) (e := y % 10) (hE 6 (by decide)) (hE 7 (by decide)) (hE 8 (by decide)) (hE 9 (by decide)) (hE 10 (by decide)) (hE 11 (by decide)) (hE 12 (by decide)) (hE 13 (by decide)) (by omega) (by omega) (by omega) (Or.inl (hE 14 (by decide)))
  have c3 := gCm_run (wd := 0) (nm := fun _ => 0) (a := P + 15) (d := 1 + y % 4) (hE 15 (by decide)) (hE 16 (by decide)) (hE 17 (by decide)) (hE 18 (by decide)) (hE 19 (by decide)) (by omega) (by omega) (by omega) (Or.inr (by unfold gSg; rw [if_neg (by omega)]))
  have t1 := gEI_go (f := f + 2) c1 (by omega) (hE 5 (by decide))
  have t2 := gEI_go (f := f + 1) c2 (by omega) (hE 14 (by decide))
  have t3 := gEI_fin (f := f) c3 (by omega)
  unfold aEI
  exact s1.trans (s2.trans (s3.trans (s4.trans (t1.trans (t2.trans t3)))))
theorem gTel_ok {A : gA} {m y : Nat} (h0 : aN A = 0) : aEI (aN (aPuts A (tlT m y))) (aG (aPuts A (tlT m y))) = -1 := by
  refine tl_ok (m := m) (y := y) (by rw [aPuts_N, h0, Nat.zero_add]) fun i hi => ?_
  rw [aPuts_G, h0, if_neg (Nat.not_lt_zero _), if_pos (by omega), Nat.sub_zero]
theorem gShr {m k : Nat} (hm : m < 2147483648) (hk : k < 32) : nI m >>> (nI k &&& 31) = nI (m / 2 ^ k) := by
  have hq : m / 2 ^ k < 2147483648 := Nat.lt_of_le_of_lt (Nat.div_le_self _ _) hm
  apply Int32.toBitVec_inj.mp
  show BitVec.sshiftRight' (nI m).toBitVec ((nI k &&& 31).toBitVec.smod 32#32) = _
  unfold BitVec.sshiftRight'
  rw [gBits_sm k hk]
  apply BitVec.eq_of_toInt_eq
  rw [BitVec.toInt_sshiftRight]
  show (nI m).toInt >>> k = (nI (m / 2 ^ k)).toInt
  rw [nI_toInt hm, nI_toInt hq, Int.shiftRight_eq_div_pow]
  exact (Int.natCast_ediv _ _).symm
theorem tlT_len (m n : Nat) : (tlT m n).length = 102 := by
  unfold tlT
  rw [List.length_append, tlA_4]
  rfl
