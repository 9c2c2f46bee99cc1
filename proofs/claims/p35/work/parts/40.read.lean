theorem gRS_n {n a : Nat} {sg : Nat → Int32} {c : Int32} (ha : a ≤ n) (hc : c ≠ -1) : gRS n sg a c ≤ n := by
  unfold gRS
  split
  · rename_i h
    unfold gSg at h
    split at h
    · omega
    · exact absurd h.symm hc
  · exact ha
theorem gSame_n {n : Nat} {sg : Nat → Int32} : ∀ {a : Nat} {l : List Int32}, a ≤ n → (∀ x ∈ l, x ≠ -1) → a + gSame n sg a l ≤ n
  | _, [], h, _ => h
  | a, x :: l, h, hl => by
    unfold gSame
    split
    · rename_i hq
      have h1 : a < n := by
        unfold gSg at hq
        split at hq
        · assumption
        · exact absurd hq.symm (hl x List.mem_cons_self)
      have := gSame_n (n := n) (sg := sg) (a := a + 1) (l := l) (by omega) (fun y hy => hl y (List.mem_cons_of_mem _ hy))
      omega
    · exact h
theorem gWi_m {x : Nat} : ∀ y ∈ (gWi_z x).2.2.2, y ≠ -1 := by
  intro y hy
  unfold gWi_z at hy
  have h1 : ∀ q ∈ gStr, ∀ v ∈ q.2.2.2, v ≠ -1 := by decide +kernel
  rw [List.getD_eq_getElem?_getD] at hy
  cases e : gStr[gWi x]? with
  | none => rw [e] at hy; cases hy
  | some q => rw [e] at hy; exact h1 q (List.mem_of_getElem? e) y hy
theorem gRW_n {n a wd : Nat} {sg : Nat → Int32} (ha : a ≤ n) : ∀ (f k m : Nat), a + m ≤ n → (gRW f k m n sg a wd).2.1 ≤ n
  | 0, _, _, h => h
  | f + 1, k, m, h => by
    have h1 := gSame_n (n := n) (sg := sg) ha (gWi_m (x := k))
    rw [gRW]
    split
    · exact h1
    · exact gRW_n ha f (k + 1) _ (by omega)
theorem gRWd_n {n a wd : Nat} {sg : Nat → Int32} (ha : a ≤ n) : (gRWd n sg a wd).2.1 ≤ n := gRW_n ha 6 0 0 ha
theorem gRW_lt {n a wd : Nat} {sg : Nat → Int32} : ∀ (f k m : Nat), f + k ≤ 6 → (gRW f k m n sg a wd).1 = true → (gRW f k m n sg a wd).2.2 < 6
  | 0, _, _, _, h => by cases h
  | f + 1, k, m, h, e => by
    rw [gRW] at e ⊢
    split
    · exact (by omega : k < 6)
    · rename_i q
      rw [if_neg q] at e
      exact gRW_lt f (k + 1) _ (by omega) e
theorem gRWd_lt {n a wd a1 w1 : Nat} {sg : Nat → Int32} (h : (gRWd n sg a wd).1 = true) (e : (a1, w1) = (gRWd n sg a wd).2) : w1 < 6 :=
  Nat.lt_of_le_of_lt (Nat.le_of_eq (congrArg Prod.snd e)) (gRW_lt 6 0 0 (Nat.le_refl 6) h)
theorem gKi_len {x : Nat} (h : x < 6) : (gKi_z x).2.2.2.length ≤ 4 := by
  rcases (show x = 0 ∨ x = 1 ∨ x = 2 ∨ x = 3 ∨ x = 4 ∨ x = 5 by omega) with rfl | rfl | rfl | rfl | rfl | rfl <;> decide
def gKdb (k : Int32) : Bool := k == 114 || k == 112 || k == 118 || k == 100 || k == 104 || k == 110
theorem gKi_kd {x j : Nat} (h : x < 6) (hj : j < (gKi_z x).2.2.2.length) : gKd ((gKi_z x).2.2.2.getD j 0) := by
  have h1 : ∀ x : Nat, x < 6 → ∀ y ∈ (gKi_z x).2.2.2, gKdb y = true := by decide +kernel
  have h2 : ∀ y : Int32, gKdb y = true → gKd y := by
    intro y hy
    simp only [gKdb, Bool.or_eq_true, beq_iff_eq] at hy
    unfold gKd
    rcases hy with ((((a | a) | a) | a) | a) | a <;> simp [a]
  exact h2 _ (h1 x h _ (by rw [List.getD_eq_getElem?_getD, List.getElem?_eq_getElem hj]; exact List.getElem_mem hj))
/-- digits are read, as long as a number of the kind begins with them -/
def gRN (n : Nat) (sg : Nat → Int32) (lo hi : Int32) : Nat → Nat → Int32 → Nat × Int32
  | 0, a, v => (a, v)
  | f + 1, a, v => if (¬ gWD v (gSg n sg a) < lo ∧ ¬ hi < gWD v (gSg n sg a)) then gRN n sg lo hi f (a + 1) (gWD v (gSg n sg a)) else (a, v)
def gRNum (n : Nat) (sg : Nat → Int32) (a : Nat) (k : Int32) : Nat × Int32 := gRN n sg (gLe k) (gMo k) (n - a) a (-1)
def gRNb (n : Nat) (sg : Nat → Int32) (a : Nat) (nm : Nat → Int32) (i : Nat) (k : Int32) : Bool × Nat × (Nat → Int32) :=
  if (gRNum n sg a k).2 = -1 then (false, (gRNum n sg a k).1, nm) else (true, (gRNum n sg a k).1, upd nm i (gRNum n sg a k).2)
theorem gRN_yes {n x : Nat} {sg : Nat → Int32} {lo hi v : Int32} {r : Nat × Int32} (hx : x < n) (hb : (¬ gWD v (gSg n sg x) < lo ∧ ¬ hi < gWD v (gSg n sg x))) (he : gRN n sg lo hi (n - x) x v = r) : gRN n sg lo hi (n - (x + 1)) (x + 1) (gWD v (gSg n sg x)) = r := by
  obtain ⟨f, hf⟩ : ∃ f, n - x = f + 1 := ⟨n - x - 1, by omega⟩
  rw [hf, gRN, if_pos hb] at he
  rw [show n - (x + 1) = f by omega]
  exact he
theorem gRN_no {n x : Nat} {sg : Nat → Int32} {lo hi v : Int32} {r : Nat × Int32} (hx : x < n) (hb : ¬ (¬ gWD v (gSg n sg x) < lo ∧ ¬ hi < gWD v (gSg n sg x))) (he : gRN n sg lo hi (n - x) x v = r) : r = (x, v) := by
  obtain ⟨f, hf⟩ : ∃ f, n - x = f + 1 := ⟨n - x - 1, by omega⟩
  rw [hf, gRN, if_neg hb] at he
  exact he.symm
theorem gRN_n {n : Nat} {sg : Nat → Int32} {lo hi : Int32} : ∀ (f a : Nat) (v : Int32), a + f ≤ n → (gRN n sg lo hi f a v).1 ≤ n
  | 0, _, _, h => h
  | f + 1, a, v, h => by
    rw [gRN]
    split
    · exact gRN_n f (a + 1) _ (by omega)
    · exact (by omega : a ≤ n)
theorem gRNb_n {n a i : Nat} {sg nm : Nat → Int32} {k : Int32} (ha : a ≤ n) : (gRNb n sg a nm i k).2.1 ≤ n := by
  have := gRN_n (n := n) (sg := sg) (lo := gLe k) (hi := gMo k) (n - a) a (-1) (by omega)
  unfold gRNb
  split <;> exact this
/-- a command's numbers -/
def gRK (n : Nat) (sg : Nat → Int32) (wd : Nat) : List Int32 → Nat → Nat → (Nat → Int32) → Bool × Nat × Nat × (Nat → Int32)
  | [], _, a, nm => (true, a, wd, nm)
  | k :: l, i, a, nm => if gSg n sg a = 44 then
      (if (gRNb n sg (a + 1) nm i k).1 = true then gRK n sg wd l (i + 1) (gRNb n sg (a + 1) nm i k).2.1 (gRNb n sg (a + 1) nm i k).2.2 else (false, (gRNb n sg (a + 1) nm i k).2.1, wd, (gRNb n sg (a + 1) nm i k).2.2))
      else (false, a, wd, nm)
/-- a command: whether there is one, where reading stands, its word, its numbers -/
def gRC (n : Nat) (sg : Nat → Int32) (a wd : Nat) (nm : Nat → Int32) : Bool × Nat × Nat × (Nat → Int32) :=
  if (gRWd n sg a wd).1 = true then gRK n sg (gRWd n sg a wd).2.2 (gKi_z (gRWd n sg a wd).2.2).2.2.2 0 (gRWd n sg a wd).2.1 nm else (false, (gRWd n sg a wd).2.1, (gRWd n sg a wd).2.2, nm)
theorem gRC_yes {n a wd a1 w1 : Nat} {sg nm : Nat → Int32} (h : (gRWd n sg a wd).1 = true) (e : (a1, w1) = (gRWd n sg a wd).2) : gRC n sg a wd nm = gRK n sg w1 ((gKi_z w1).2.2.2.drop 0) 0 a1 nm := by
  rw [gRC, if_pos h, ← e]
  rfl
theorem gRC_no {n a wd a1 w1 : Nat} {sg nm : Nat → Int32} (h : ¬ (gRWd n sg a wd).1 = true) (e : (a1, w1) = (gRWd n sg a wd).2) : gRC n sg a wd nm = (false, a1, w1, nm) := by
  rw [gRC, if_neg h, ← e]
theorem gRK_n {n wd : Nat} {sg : Nat → Int32} : ∀ (l : List Int32) (i a : Nat) (nm : Nat → Int32), a ≤ n → (gRK n sg wd l i a nm).2.1 ≤ n
  | [], _, _, _, h => h
  | k :: l, i, a, nm, h => by
    rw [gRK]
    split
    · rename_i q
      have h1 : a + 1 ≤ n := by
        unfold gSg at q
        split at q
        · omega
        · exact absurd q (by decide)
      split
      · exact gRK_n l _ _ _ (gRNb_n h1)
      · exact gRNb_n h1
    · exact h
theorem gRC_n {n a wd : Nat} {sg nm : Nat → Int32} (ha : a ≤ n) : (gRC n sg a wd nm).2.1 ≤ n := by
  unfold gRC
  split
  · exact gRK_n _ _ _ _ (gRWd_n ha)
  · exact gRWd_n ha
section
variable {n x k wd a1 a2 : Nat} {sg mx m2 : Nat → Int32} {l : List Int32} {r : Bool × Nat × Nat × (Nat → Int32)}
theorem gRK_no1 (hk : k < l.length) (h : ¬ gSg n sg x = 44) (e : a1 = gRS n sg x 44) (he : gRK n sg wd (l.drop k) k x mx = r) : r = (false, a1, wd, mx) := by
  rw [List.drop_eq_getElem_cons hk, gRK, if_neg h] at he
  rw [← he, e, gRS, if_neg h]
theorem gRK_no2 (hk : k < l.length) (h : gSg n sg x = 44) (e : a1 = gRS n sg x 44) (h2 : ¬ (gRNb n sg a1 mx k (l.getD k 0)).1 = true) (e2 : (a2, m2) = (gRNb n sg a1 mx k (l.getD k 0)).2) (he : gRK n sg wd (l.drop k) k x mx = r) : r = (false, a2, wd, m2) := by
  have e1 : a1 = x + 1 := by rw [e, gRS, if_pos h]
  have e3 : l.getD k 0 = l[k] := by rw [List.getD_eq_getElem?_getD, List.getElem?_eq_getElem hk]; rfl
  rw [e1, e3] at h2 e2
  rw [List.drop_eq_getElem_cons hk, gRK, if_pos h, if_neg h2, ← e2] at he
  exact he.symm
theorem gRK_st (hk : k < l.length) (h : gSg n sg x = 44) (e : a1 = gRS n sg x 44) (h2 : (gRNb n sg a1 mx k (l.getD k 0)).1 = true) (e2 : (a2, m2) = (gRNb n sg a1 mx k (l.getD k 0)).2) (he : gRK n sg wd (l.drop k) k x mx = r) : gRK n sg wd (l.drop (k + 1)) (k + 1) a2 m2 = r := by
  have e1 : a1 = x + 1 := by rw [e, gRS, if_pos h]
  have e3 : l.getD k 0 = l[k] := by rw [List.getD_eq_getElem?_getD, List.getElem?_eq_getElem hk]; rfl
  rw [e1, e3] at h2 e2
  rw [List.drop_eq_getElem_cons hk, gRK, if_pos h, if_pos h2, ← e2] at he
  exact he
end
/-- the first error, commands being read, so many at most -/
def gEI : Nat → Nat → (Nat → Int32) → Nat → Nat → (Nat → Int32) → Int32 × Nat × Nat × (Nat → Int32)
  | 0, _, _, a, wd, nm => (nI a, a, wd, nm)
  | f + 1, n, sg, a, wd, nm => if (gRC n sg a wd nm).1 = true then
      (if (gRC n sg a wd nm).2.1 < n then (if gSg n sg (gRC n sg a wd nm).2.1 = 59 then gEI f n sg ((gRC n sg a wd nm).2.1 + 1) (gRC n sg a wd nm).2.2.1 (gRC n sg a wd nm).2.2.2 else (nI (gRC n sg a wd nm).2.1, (gRC n sg a wd nm).2)) else (-1, (gRC n sg a wd nm).2))
      else (nI (gRC n sg a wd nm).2.1, (gRC n sg a wd nm).2)
section
variable {lf n x y a1 w1 a2 : Nat} {sg mx m1 : Nat → Int32} {r : Int32 × Nat × Nat × (Nat → Int32)}
theorem gEI_1 (hl : 0 < lf) (h : ¬ (gRC n sg x y mx).1 = true) (e : (a1, w1, m1) = (gRC n sg x y mx).2) (he : gEI lf n sg x y mx = r) : r = (nI a1, a1, w1, m1) := by
  obtain ⟨f, rfl⟩ : ∃ f, lf = f + 1 := ⟨lf - 1, by omega⟩
  rw [gEI, if_neg h, ← e] at he
  exact he.symm
theorem gEI_2 (hl : 0 < lf) (h : (gRC n sg x y mx).1 = true) (e : (a1, w1, m1) = (gRC n sg x y mx).2) (h2 : ¬ a1 < n) (he : gEI lf n sg x y mx = r) : r = (-1, a1, w1, m1) := by
  obtain ⟨f, rfl⟩ : ∃ f, lf = f + 1 := ⟨lf - 1, by omega⟩
  rw [gEI, if_pos h, ← e, if_neg h2] at he
  exact he.symm
theorem gEI_3 (hl : 0 < lf) (h : (gRC n sg x y mx).1 = true) (e : (a1, w1, m1) = (gRC n sg x y mx).2) (h2 : a1 < n) (h3 : ¬ gSg n sg a1 = 59) (he : gEI lf n sg x y mx = r) : r = (nI a1, a1, w1, m1) := by
  obtain ⟨f, rfl⟩ : ∃ f, lf = f + 1 := ⟨lf - 1, by omega⟩
  rw [gEI, if_pos h, ← e, if_pos h2, if_neg h3] at he
  exact he.symm
theorem gEI_st (hl : 0 < lf) (h : (gRC n sg x y mx).1 = true) (e : (a1, w1, m1) = (gRC n sg x y mx).2) (h2 : a1 < n) (h3 : gSg n sg a1 = 59) (e2 : a2 = gRS n sg a1 59) (he : gEI lf n sg x y mx = r) : gEI (lf - 1) n sg a2 w1 m1 = r := by
  obtain ⟨f, rfl⟩ : ∃ f, lf = f + 1 := ⟨lf - 1, by omega⟩
  rw [gEI, if_pos h, ← e, if_pos h2, if_pos h3] at he
  rw [e2, gRS, if_pos h3]
  exact he
end
set_option maxHeartbeats 4000000 in
set_option maxRecDepth 100000 in
theorem mX5_readNumber (G : gG) (t0 t1 t2 : Nat) (n a wd : Nat) (sg nm : Nat → Int32) (i : Nat) (k : Int32) (hn : n ≤ 120) (ha : a ≤ n) (hi : i < 4) (hkd : gKd k) : CIu G yX5_readNumber wsX5_readNumber 1 60 [.ref t0, .int (nI i), .int k] [(t0, .inr (5, [.int (nI n), .ref t1, .int (nI a), .int (nI wd), .ref t2])), (t1, .inl (gy G 1, 120, .inl sg)), (t2, .inl (gy G 0, 4, .inl nm))] (if (gRNb n sg a nm i k).1 = true then 1 else 0) (fun u : Nat × (Nat → Int32) => u = (gRNb n sg a nm i k).2) (fun (u : Nat × (Nat → Int32)) => [(t0, .inr (5, [.int (nI n), .ref t1, .int (nI u.1), .int (nI wd), .ref t2])), (t1, .inl (gy G 1, 120, .inl sg)), (t2, .inl (gy G 0, 4, .inl u.2))]) 0 0 := by
  refine g_enterIu (ty := .boolean) RX5 rfl (by decide) rfl (Nat.le_of_ble_eq_true rfl) ?_
  intro V E RET
  refine g_iconst (v := (-1)) E dX5_readNumber_0 (by decide) ?_
  refine g_istore_n (lv' := [(3, .int (-1)), (0, .ref t0), (1, .int (nI i)), (2, .int k)]) E dX5_readNumber_1 rfl (by decide) rfl ?_
  have loop1 : ∀ (n2 : Nat) (x : Nat) (v : Int32), (x ≤ n) → (gRN n sg (gLe k) (gMo k) (n - x) x v = gRNum n sg a k) → n - x < n2 → gW V 5 0 0 [(t0, .inr (5, [.int (nI n), .ref t1, .int (nI x), .int (nI wd), .ref t2])), (t1, .inl (gy G 1, 120, .inl sg)), (t2, .inl (gy G 0, 4, .inl nm))] [(0, .ref t0), (1, .int (nI i)), (2, .int k), (3, .int v)] 2 [] := by
    intro n2
    induction n2 with
    | zero => intro x v hx he hm4; exact absurd hm4 (Nat.not_lt_zero _)
    | succ n2 ih3 =>
      intro x v hx he hm4
      refine g_aload_n E dX5_readNumber_2 rfl 0 rfl ?_
      refine g_get E uX5_readNumber_RX5 0 rfl rfl 2 (by decide) kX5_readNumber_30 rfl rfl dX5_readNumber_3 ?_
      refine g_aload_n E dX5_readNumber_6 rfl 0 rfl ?_
      refine g_get E uX5_readNumber_RX5 0 rfl rfl 0 (by decide) kX5_readNumber_19 rfl rfl dX5_readNumber_7 ?_
      refine g_icmp_geN (tgt := 62) (a := x) (b := n) E dX5_readNumber_10 (by decide) (by omega) (by omega) (fun c5 => ?_) (fun c5 => ?_)
      · skip
        have e9 : gRNum n sg a k = (x, v) := by rw [← he, show n - x = 0 by omega]; rfl
        refine g_iload_n E dX5_readNumber_62 rfl 3 rfl ?_
        refine g_iconst (v := (-1)) E dX5_readNumber_63 (by decide) ?_
        refine g_icmp_eq (tgt := 80) E dX5_readNumber_64 (by decide) (fun c6 => ?_) (fun c6 => ?_)
        · skip
          refine g_iconst (v := 0) E dX5_readNumber_80 (by decide) ?_
          exact RET _ _ _ (x, nm) (⟨by simp [gRNb, e9, c6], by simp [gRNb, e9, c6]⟩) rfl dX5_readNumber_81
        · skip
          refine g_iload_n E dX5_readNumber_67 rfl 1 rfl ?_
          refine g_if_ltN (tgt := 80) (a := i) E dX5_readNumber_68 (by decide) (by omega) ?_
          refine g_iload_n E dX5_readNumber_71 rfl 1 rfl ?_
          refine g_aload_n E dX5_readNumber_72 rfl 0 rfl ?_
          refine g_get E uX5_readNumber_RX5 0 rfl rfl 4 (by decide) kX5_readNumber_15 rfl rfl dX5_readNumber_73 ?_
          refine g_alen (v := 4) E 2 0 rfl rfl (by first | rfl | decide) dX5_readNumber_76 ?_
          refine g_icmp_ltN (tgt := 82) (a := i) (b := 4) E dX5_readNumber_77 (by decide) (by omega) (by omega) (fun c7 => ?_) (fun c7 => ?_)
          · skip
            refine g_aload_n E dX5_readNumber_82 rfl 0 rfl ?_
            refine g_get E uX5_readNumber_RX5 0 rfl rfl 4 (by decide) kX5_readNumber_15 rfl rfl dX5_readNumber_83 ?_
            refine g_iload_n E dX5_readNumber_86 rfl 1 rfl ?_
            refine g_iload_n E dX5_readNumber_87 rfl 3 rfl ?_
            refine g_iast (ws' := [(t0, .inr (5, [.int (nI n), .ref t1, .int (nI x), .int (nI wd), .ref t2])), (t1, .inl (gy G 1, 120, .inl sg)), (t2, .inl (gy G 0, 4, .inl (upd nm i v)))]) (j := i) (y := v) E 2 rfl (g_in (e := i) (by omega) rfl) (nI_clamp (n := i) (by omega)) rfl rfl dX5_readNumber_88 ?_
            refine g_iconst (v := 1) E dX5_readNumber_89 (by decide) ?_
            exact RET _ _ _ (x, upd nm i v) (⟨by simp [gRNb, e9, c6], by simp [gRNb, e9, c6]⟩) rfl dX5_readNumber_90
          · exfalso
            omega
      · skip
        have hxn : x < n := by omega
        refine g_iload_n E dX5_readNumber_13 rfl 3 rfl ?_
        refine g_aload_n E dX5_readNumber_14 rfl 0 rfl ?_
        refine g_aload_n E dX5_readNumber_15 rfl 0 rfl ?_
        refine g_get E uX5_readNumber_RX5 0 rfl rfl 2 (by decide) kX5_readNumber_30 rfl rfl dX5_readNumber_16 ?_
        refine g_callVIe (F := []) (ws2 := [(t0, .inr (5, [.int (nI n), .ref t1, .int (nI x), .int (nI wd), .ref t2])), (t1, .inl (gy G 1, 120, .inl sg)), (t2, .inl (gy G 0, 4, .inl nm))]) E (mX5_signAt G t0 t1 t2 n x wd sg nm x (by omega) (by omega)) gX5_readNumber_X5_signAt rfl hdX5_signAt ⟨Nat.le_of_ble_eq_true rfl, Nat.le_of_ble_eq_true rfl⟩ 5 0 rfl rfl rfl (gPerm_ix [0, 1, 2] rfl rfl) rfl rfl (Nat.le_of_ble_eq_true rfl) dX5_readNumber_19 ⟨Nat.le_of_ble_eq_true rfl, Nat.le_of_ble_eq_true rfl⟩ (gPerm_ix [0, 1, 2] rfl rfl) ?_
        refine g_callSIe (F := [(t0, .inr (5, [.int (nI n), .ref t1, .int (nI x), .int (nI wd), .ref t2])), (t1, .inl (gy G 1, 120, .inl sg)), (t2, .inl (gy G 0, 4, .inl nm))]) (ws2 := [(t0, .inr (5, [.int (nI n), .ref t1, .int (nI x), .int (nI wd), .ref t2])), (t1, .inl (gy G 1, 120, .inl sg)), (t2, .inl (gy G 0, 4, .inl nm))]) E (mX5_withDigit G v (gSg n sg x)) gX5_readNumber_X5_withDigit rfl hnX5_withDigit ⟨Nat.le_of_ble_eq_true rfl, Nat.le_of_ble_eq_true rfl⟩ (gPerm_ix [0, 1, 2] rfl rfl) rfl rfl (Nat.le_of_ble_eq_true rfl) dX5_readNumber_22 ⟨Nat.le_of_ble_eq_true rfl, Nat.le_of_ble_eq_true rfl⟩ (gPerm_ix [0, 1, 2] rfl rfl) ?_
        refine g_istore (lv' := [(4, .int (gWD v (gSg n sg x))), (0, .ref t0), (1, .int (nI i)), (2, .int k), (3, .int v)]) E dX5_readNumber_25 (by decide) rfl ?_
        refine g_iload E dX5_readNumber_27 0 rfl ?_
        refine g_iload_n E dX5_readNumber_29 rfl 3 rfl ?_
        refine g_callSIe (F := [(t0, .inr (5, [.int (nI n), .ref t1, .int (nI x), .int (nI wd), .ref t2])), (t1, .inl (gy G 1, 120, .inl sg)), (t2, .inl (gy G 0, 4, .inl nm))]) (ws2 := [(t0, .inr (5, [.int (nI n), .ref t1, .int (nI x), .int (nI wd), .ref t2])), (t1, .inl (gy G 1, 120, .inl sg)), (t2, .inl (gy G 0, 4, .inl nm))]) E (mX5_leastOf G k) gX5_readNumber_X5_leastOf rfl hnX5_leastOf ⟨Nat.le_of_ble_eq_true rfl, Nat.le_of_ble_eq_true rfl⟩ (gPerm_ix [0, 1, 2] rfl rfl) rfl rfl (Nat.le_of_ble_eq_true rfl) dX5_readNumber_30 ⟨Nat.le_of_ble_eq_true rfl, Nat.le_of_ble_eq_true rfl⟩ (gPerm_ix [0, 1, 2] rfl rfl) ?_
        refine g_iload_n E dX5_readNumber_33 rfl 3 rfl ?_
        refine g_callSIe (F := [(t0, .inr (5, [.int (nI n), .ref t1, .int (nI x), .int (nI wd), .ref t2])), (t1, .inl (gy G 1, 120, .inl sg)), (t2, .inl (gy G 0, 4, .inl nm))]) (ws2 := [(t0, .inr (5, [.int (nI n), .ref t1, .int (nI x), .int (nI wd), .ref t2])), (t1, .inl (gy G 1, 120, .inl sg)), (t2, .inl (gy G 0, 4, .inl nm))]) E (mX5_mostOf G k hkd) gX5_readNumber_X5_mostOf rfl hnX5_mostOf ⟨Nat.le_of_ble_eq_true rfl, Nat.le_of_ble_eq_true rfl⟩ (gPerm_ix [0, 1, 2] rfl rfl) rfl rfl (Nat.le_of_ble_eq_true rfl) dX5_readNumber_34 ⟨Nat.le_of_ble_eq_true rfl, Nat.le_of_ble_eq_true rfl⟩ (gPerm_ix [0, 1, 2] rfl rfl) ?_
        refine g_callSNIe (F := [(t0, .inr (5, [.int (nI n), .ref t1, .int (nI x), .int (nI wd), .ref t2])), (t1, .inl (gy G 1, 120, .inl sg)), (t2, .inl (gy G 0, 4, .inl nm))]) (ws2 := [(t0, .inr (5, [.int (nI n), .ref t1, .int (nI x), .int (nI wd), .ref t2])), (t1, .inl (gy G 1, 120, .inl sg)), (t2, .inl (gy G 0, 4, .inl nm))]) E (mX7_isBetween G (gWD v (gSg n sg x)) (gLe k) (gMo k)) gX5_readNumber_X7_isBetween_n87 (by decide +kernel) (g_nest (h := "VisitHours") E (by decide +kernel)) (by decide +kernel) rfl hnX7_isBetween ⟨Nat.le_of_ble_eq_true rfl, Nat.le_of_ble_eq_true rfl⟩ (gPerm_ix [0, 1, 2] rfl rfl) rfl rfl (Nat.le_of_ble_eq_true rfl) dX5_readNumber_37 ⟨Nat.le_of_ble_eq_true rfl, Nat.le_of_ble_eq_true rfl⟩ (gPerm_ix [0, 1, 2] rfl rfl) ?_
        refine g_if_neB (tgt := 46) (P := (¬ (gWD v (gSg n sg x)) < (gLe k) ∧ ¬ (gMo k) < (gWD v (gSg n sg x)))) E dX5_readNumber_40 (by decide) (fun c8 => ?_) (fun c8 => ?_)
        · skip
          refine g_iload E dX5_readNumber_46 0 rfl ?_
          refine g_istore_n (lv' := [(3, .int (gWD v (gSg n sg x))), (4, .int (gWD v (gSg n sg x))), (0, .ref t0), (1, .int (nI i)), (2, .int k)]) E dX5_readNumber_48 rfl (by decide) rfl ?_
          refine g_aload_n E dX5_readNumber_49 rfl 2 rfl ?_
          refine g_dup E dX5_readNumber_50 rfl ?_
          refine g_get E uX5_readNumber_RX5 0 rfl rfl 2 (by decide) kX5_readNumber_30 rfl rfl dX5_readNumber_51 ?_
          refine g_iconst (v := 1) E dX5_readNumber_54 (by decide) ?_
          refine g_iaddN (a := x) (b := 1) E dX5_readNumber_55 ?_
          refine g_put (ws' := [(t0, .inr (5, [.int (nI n), .ref t1, .int (nI (x + 1)), .int (nI wd), .ref t2])), (t1, .inl (gy G 1, 120, .inl sg)), (t2, .inl (gy G 0, 4, .inl nm))]) E uX5_readNumber_RX5 tyX5 tyX5_ok nmX5 0 rfl rfl 2 (by decide) kX5_readNumber_30 rfl rfl rfl rfl (Nat.le_of_ble_eq_true rfl) rfl dX5_readNumber_56 ?_
          refine g_goto (tgt := 2) E dX5_readNumber_59 (by decide) ?_
          refine g_lv [2, 3, 4, 0] rfl ?_
          exact ih3  (x + 1) _ (by omega) (gRN_yes hxn c8 he) (by omega)
        · skip
          have e9 : gRNum n sg a k = (x, v) := gRN_no hxn c8 he
          refine g_goto (tgt := 62) E dX5_readNumber_43 (by decide) ?_
          refine g_iload_n E dX5_readNumber_62 rfl 4 rfl ?_
          refine g_iconst (v := (-1)) E dX5_readNumber_63 (by decide) ?_
          refine g_icmp_eq (tgt := 80) E dX5_readNumber_64 (by decide) (fun c9 => ?_) (fun c9 => ?_)
          · skip
            refine g_iconst (v := 0) E dX5_readNumber_80 (by decide) ?_
            exact RET _ _ _ (x, nm) (⟨by simp [gRNb, e9, c9], by simp [gRNb, e9, c9]⟩) rfl dX5_readNumber_81
          · skip
            refine g_iload_n E dX5_readNumber_67 rfl 2 rfl ?_
            refine g_if_ltN (tgt := 80) (a := i) E dX5_readNumber_68 (by decide) (by omega) ?_
            refine g_iload_n E dX5_readNumber_71 rfl 2 rfl ?_
            refine g_aload_n E dX5_readNumber_72 rfl 1 rfl ?_
            refine g_get E uX5_readNumber_RX5 0 rfl rfl 4 (by decide) kX5_readNumber_15 rfl rfl dX5_readNumber_73 ?_
            refine g_alen (v := 4) E 2 0 rfl rfl (by first | rfl | decide) dX5_readNumber_76 ?_
            refine g_icmp_ltN (tgt := 82) (a := i) (b := 4) E dX5_readNumber_77 (by decide) (by omega) (by omega) (fun c10 => ?_) (fun c10 => ?_)
            · skip
              refine g_aload_n E dX5_readNumber_82 rfl 1 rfl ?_
              refine g_get E uX5_readNumber_RX5 0 rfl rfl 4 (by decide) kX5_readNumber_15 rfl rfl dX5_readNumber_83 ?_
              refine g_iload_n E dX5_readNumber_86 rfl 2 rfl ?_
              refine g_iload_n E dX5_readNumber_87 rfl 4 rfl ?_
              refine g_iast (ws' := [(t0, .inr (5, [.int (nI n), .ref t1, .int (nI x), .int (nI wd), .ref t2])), (t1, .inl (gy G 1, 120, .inl sg)), (t2, .inl (gy G 0, 4, .inl (upd nm i v)))]) (j := i) (y := v) E 2 rfl (g_in (e := i) (by omega) rfl) (nI_clamp (n := i) (by omega)) rfl rfl dX5_readNumber_88 ?_
              refine g_iconst (v := 1) E dX5_readNumber_89 (by decide) ?_
              exact RET _ _ _ (x, upd nm i v) (⟨by simp [gRNb, e9, c9], by simp [gRNb, e9, c9]⟩) rfl dX5_readNumber_90
            · exfalso
              omega
  refine g_lv [1, 2, 3, 0] rfl ?_
  exact loop1 _ _ _ ha rfl (Nat.lt_succ_self _)
set_option maxHeartbeats 4000000 in
set_option maxRecDepth 100000 in
theorem mX5_readCommand (G : gG) (t0 t1 t2 : Nat) (n a wd : Nat) (sg nm : Nat → Int32) (hn : n ≤ 120) (ha : a ≤ n) : CIu G yX5_readCommand wsX5_readCommand 8 212 [.ref t0] [(t0, .inr (5, [.int (nI n), .ref t1, .int (nI a), .int (nI wd), .ref t2])), (t1, .inl (gy G 1, 120, .inl sg)), (t2, .inl (gy G 0, 4, .inl nm))] (if (gRC n sg a wd nm).1 = true then 1 else 0) (fun u : Nat × Nat × (Nat → Int32) => u = (gRC n sg a wd nm).2) (fun (u : Nat × Nat × (Nat → Int32)) => [(t0, .inr (5, [.int (nI n), .ref t1, .int (nI u.1), .int (nI u.2.1), .ref t2])), (t1, .inl (gy G 1, 120, .inl sg)), (t2, .inl (gy G 0, 4, .inl u.2.2))]) 0 0 := by
  refine g_enterIu (ty := .boolean) RX5 rfl (by decide) rfl (Nat.le_of_ble_eq_true rfl) ?_
  intro V E RET
  refine g_aload_n E dX5_readCommand_0 rfl 0 rfl ?_
  refine g_callVIu (F := []) E (mX5_readWord G t0 t1 t2 n a wd sg nm (by omega) (by omega)) gX5_readCommand_X5_readWord rfl hdX5_readWord ⟨Nat.le_of_ble_eq_true rfl, Nat.le_of_ble_eq_true rfl⟩ 5 0 rfl rfl rfl (gPerm_ix [0, 1, 2] rfl rfl) rfl rfl (Nat.le_of_ble_eq_true rfl) dX5_readCommand_1 ⟨Nat.le_of_ble_eq_true rfl, Nat.le_of_ble_eq_true rfl⟩ (fun u1 xA1 => ?_)
  obtain ⟨a1, w1⟩ := u1
  have hb1 : a1 ≤ n := Nat.le_trans (Nat.le_of_eq (congrArg Prod.fst xA1)) (gRWd_n (by omega))
  refine g_perm (ws1 := [(t0, .inr (5, [.int (nI n), .ref t1, .int (nI a1), .int (nI w1), .ref t2])), (t1, .inl (gy G 1, 120, .inl sg)), (t2, .inl (gy G 0, 4, .inl nm))]) (gPerm_ix [0, 1, 2] rfl rfl) ?_
  refine g_if_neB (tgt := 9) (P := (gRWd n sg a wd).1 = true) E dX5_readCommand_4 (by decide) (fun c3 => ?_) (fun c3 => ?_)
  · skip
    have hw6 : w1 < 6 := gRWd_lt c3 xA1
    have hkz := gKi_len hw6
    refine g_aload_n E dX5_readCommand_9 rfl 0 rfl ?_
    refine g_get E uX5_readCommand_RX5 0 rfl rfl 3 (by decide) kX5_readCommand_40 rfl rfl dX5_readCommand_10 ?_
    refine g_callSRe (F := [(t0, .inr (5, [.int (nI n), .ref t1, .int (nI a1), .int (nI w1), .ref t2])), (t1, .inl (gy G 1, 120, .inl sg)), (t2, .inl (gy G 0, 4, .inl nm))]) (ws2 := [(t0, .inr (5, [.int (nI n), .ref t1, .int (nI a1), .int (nI w1), .ref t2])), (t1, .inl (gy G 1, 120, .inl sg)), (t2, .inl (gy G 0, 4, .inl nm))]) E (mX5_kindsOf G w1 (by omega)) gX5_readCommand_X5_kindsOf rfl hnX5_kindsOf ⟨Nat.le_of_ble_eq_true rfl, Nat.le_of_ble_eq_true rfl⟩ (gPerm_ix [0, 1, 2] rfl rfl) rfl rfl (Nat.le_of_ble_eq_true rfl) dX5_readCommand_13 ⟨Nat.le_of_ble_eq_true rfl, Nat.le_of_ble_eq_true rfl⟩ (gPerm_ix [0, 1, 2] rfl rfl) ?_
    refine g_astore_n (lv' := [(1, .ref (gz G (100 + 2 * (gKi w1)))), (0, .ref t0)]) E dX5_readCommand_16 rfl (by decide) rfl ?_
    refine g_iconst (v := 0) E dX5_readCommand_17 (by decide) ?_
    refine g_istore_n (lv' := [(2, .int 0), (1, .ref (gz G (100 + 2 * (gKi w1)))), (0, .ref t0)]) E dX5_readCommand_18 rfl (by decide) rfl ?_
    have loop4 : ∀ (n5 : Nat) (k x : Nat) (mx : Nat → Int32), (k ≤ (gKi_z w1).2.2.2.length) → (x ≤ n) → (gRK n sg w1 ((gKi_z w1).2.2.2.drop k) k x mx = gRC n sg a wd nm) → (gKi_z w1).2.2.2.length - k < n5 → gW V 3 0 0 [(t0, .inr (5, [.int (nI n), .ref t1, .int (nI x), .int (nI w1), .ref t2])), (t1, .inl (gy G 1, 120, .inl sg)), (t2, .inl (gy G 0, 4, .inl mx))] [(0, .ref t0), (1, .ref (gz G (100 + 2 * (gKi w1)))), (2, .int (nI k))] 19 [] := by
      intro n5
      induction n5 with
      | zero => intro k x mx hk hx he hm7; exact absurd hm7 (Nat.not_lt_zero _)
      | succ n5 ih6 =>
        intro k x mx hk hx he hm7
        refine g_iload_n E dX5_readCommand_19 rfl 2 rfl ?_
        refine g_aload_n E dX5_readCommand_20 rfl 1 rfl ?_
        refine g_callOIe (F := [(t0, .inr (5, [.int (nI n), .ref t1, .int (nI x), .int (nI w1), .ref t2])), (t1, .inl (gy G 1, 120, .inl sg)), (t2, .inl (gy G 0, 4, .inl mx))]) (ws2 := [(t0, .inr (5, [.int (nI n), .ref t1, .int (nI x), .int (nI w1), .ref t2])), (t1, .inl (gy G 1, 120, .inl sg)), (t2, .inl (gy G 0, 4, .inl mx))]) E (mJ0_length_8abf5 G (gKi w1) (gKi_z w1) (gKi_ok (by omega))) gX5_readCommand_J0_length_8abf5 rfl hdJ0_length_8abf5 ⟨Nat.le_of_ble_eq_true rfl, Nat.le_of_ble_eq_true rfl⟩ (gKi_ok (by omega)) (gPerm_ix [0, 1, 2] rfl rfl) rfl rfl (Nat.le_of_ble_eq_true rfl) dX5_readCommand_21 ⟨Nat.le_of_ble_eq_true rfl, Nat.le_of_ble_eq_true rfl⟩ (gPerm_ix [0, 1, 2] rfl rfl) ?_
        refine g_icmp_geN (tgt := 57) (a := k) (b := (gKi_z w1).2.2.2.length) E dX5_readCommand_24 (by decide) (by omega) (by omega) (fun c8 => ?_) (fun c8 => ?_)
        · skip
          have e9 : gRC n sg a wd nm = (true, x, w1, mx) := by rw [← he, show k = (gKi_z w1).2.2.2.length by omega, List.drop_length]; rfl
          refine g_iconst (v := 1) E dX5_readCommand_57 (by decide) ?_
          exact RET _ _ _ (_, _, _) (⟨by simp [e9], by rw [e9]⟩) rfl dX5_readCommand_58
        · skip
          have hkl : k < (gKi_z w1).2.2.2.length := by omega
          have hkd := gKi_kd hw6 hkl
          refine g_aload_n E dX5_readCommand_27 rfl 0 rfl ?_
          refine g_bipush (v := 44) E dX5_readCommand_28 (by decide) ?_
          refine g_callVIu (F := []) E (mX5_readSign G t0 t1 t2 n x w1 sg mx 44 (by omega) (by omega)) gX5_readCommand_X5_readSign rfl hdX5_readSign ⟨Nat.le_of_ble_eq_true rfl, Nat.le_of_ble_eq_true rfl⟩ 5 0 rfl rfl rfl (gPerm_ix [0, 1, 2] rfl rfl) rfl rfl (Nat.le_of_ble_eq_true rfl) dX5_readCommand_30 ⟨Nat.le_of_ble_eq_true rfl, Nat.le_of_ble_eq_true rfl⟩ (fun a9 xA9 => ?_)
          have hb9 : a9 ≤ n := xA9 ▸ gRS_n (by omega) (by decide)
          refine g_perm (ws1 := [(t0, .inr (5, [.int (nI n), .ref t1, .int (nI a9), .int (nI w1), .ref t2])), (t1, .inl (gy G 1, 120, .inl sg)), (t2, .inl (gy G 0, 4, .inl mx))]) (gPerm_ix [0, 1, 2] rfl rfl) ?_
          refine g_if_eqB (tgt := 49) (P := gSg n sg x = 44) E dX5_readCommand_33 (by decide) (fun c11 => ?_) (fun c11 => ?_)
          · skip
            have e9 : gRC n sg a wd nm = (false, a9, w1, mx) := gRK_no1 hkl c11 xA9 he
            refine g_iconst (v := 0) E dX5_readCommand_49 (by decide) ?_
            exact RET _ _ _ (_, _, _) (⟨by simp [e9], by rw [e9]⟩) rfl dX5_readCommand_50
          · skip
            refine g_aload_n E dX5_readCommand_36 rfl 0 rfl ?_
            refine g_iload_n E dX5_readCommand_37 rfl 2 rfl ?_
            refine g_aload_n E dX5_readCommand_38 rfl 1 rfl ?_
            refine g_iload_n E dX5_readCommand_39 rfl 2 rfl ?_
            refine g_callOIe (F := [(t0, .inr (5, [.int (nI n), .ref t1, .int (nI a9), .int (nI w1), .ref t2])), (t1, .inl (gy G 1, 120, .inl sg)), (t2, .inl (gy G 0, 4, .inl mx))]) (ws2 := [(t0, .inr (5, [.int (nI n), .ref t1, .int (nI a9), .int (nI w1), .ref t2])), (t1, .inl (gy G 1, 120, .inl sg)), (t2, .inl (gy G 0, 4, .inl mx))]) E (mJ0_charAt_5068e G (gKi w1) (gKi_z w1) (gKi_ok (by omega)) k (by omega)) gX5_readCommand_J0_charAt_5068e rfl hdJ0_charAt_5068e ⟨Nat.le_of_ble_eq_true rfl, Nat.le_of_ble_eq_true rfl⟩ (gKi_ok (by omega)) (gPerm_ix [0, 1, 2] rfl rfl) rfl rfl (Nat.le_of_ble_eq_true rfl) dX5_readCommand_40 ⟨Nat.le_of_ble_eq_true rfl, Nat.le_of_ble_eq_true rfl⟩ (gPerm_ix [0, 1, 2] rfl rfl) ?_
            refine g_callVIu (F := []) E (mX5_readNumber G t0 t1 t2 n a9 w1 sg mx k ((gKi_z w1).2.2.2.getD k 0) (by omega) (by omega) (by omega) hkd) gX5_readCommand_X5_readNumber rfl hdX5_readNumber ⟨Nat.le_of_ble_eq_true rfl, Nat.le_of_ble_eq_true rfl⟩ 5 0 rfl rfl rfl (gPerm_ix [0, 1, 2] rfl rfl) rfl rfl (Nat.le_of_ble_eq_true rfl) dX5_readCommand_43 ⟨Nat.le_of_ble_eq_true rfl, Nat.le_of_ble_eq_true rfl⟩ (fun u12 xA12 => ?_)
            obtain ⟨a12, m12⟩ := u12
            have hb12 : a12 ≤ n := Nat.le_trans (Nat.le_of_eq (congrArg Prod.fst xA12)) (gRNb_n (by omega))
            refine g_perm (ws1 := [(t0, .inr (5, [.int (nI n), .ref t1, .int (nI a12), .int (nI w1), .ref t2])), (t1, .inl (gy G 1, 120, .inl sg)), (t2, .inl (gy G 0, 4, .inl m12))]) (gPerm_ix [0, 1, 2] rfl rfl) ?_
            refine g_if_neB (tgt := 51) (P := (gRNb n sg a9 mx k ((gKi_z w1).2.2.2.getD k 0)).1 = true) E dX5_readCommand_46 (by decide) (fun c14 => ?_) (fun c14 => ?_)
            · skip
              refine g_iinc (lv' := [(2, .int (nI (k + 1))), (0, .ref t0), (1, .ref (gz G (100 + 2 * (gKi w1))))]) E dX5_readCommand_51 2 rfl (g_inc _ 1 (by decide)) (by decide) rfl ?_
              refine g_goto (tgt := 19) E dX5_readCommand_54 (by decide) ?_
              refine g_lv [1, 2, 0] rfl ?_
              exact ih6  (k + 1) _ _ (by omega) (by omega) (gRK_st hkl c11 xA9 c14 xA12 he) (by omega)
            · skip
              have e9 : gRC n sg a wd nm = (false, a12, w1, m12) := gRK_no2 hkl c11 xA9 c14 xA12 he
              refine g_iconst (v := 0) E dX5_readCommand_49 (by decide) ?_
              exact RET _ _ _ (_, _, _) (⟨by simp [e9], by rw [e9]⟩) rfl dX5_readCommand_50
    refine g_lv [2, 1, 0] rfl ?_
    exact loop4 _ 0 _ _ (Nat.zero_le _) (by omega) (gRC_yes c3 xA1).symm (Nat.lt_succ_self _)
  · skip
    have e9 : gRC n sg a wd nm = (false, a1, w1, nm) := gRC_no c3 xA1
    refine g_iconst (v := 0) E dX5_readCommand_7 (by decide) ?_
    exact RET _ _ _ (_, _, _) (⟨by simp [e9], by rw [e9]⟩) rfl dX5_readCommand_8
set_option maxHeartbeats 4000000 in
set_option maxRecDepth 100000 in
theorem mX5_errorIndex (G : gG) (t0 t1 t2 : Nat) (n a wd : Nat) (sg nm : Nat → Int32) (hn : n ≤ 120) : CIu G yX5_errorIndex wsX5_errorIndex 9 234 [.ref t0] [(t0, .inr (5, [.int (nI n), .ref t1, .int (nI a), .int (nI wd), .ref t2])), (t1, .inl (gy G 1, 120, .inl sg)), (t2, .inl (gy G 0, 4, .inl nm))] ((gEI 120 n sg 0 wd nm).1) (fun u : Nat × Nat × (Nat → Int32) => u = (gEI 120 n sg 0 wd nm).2) (fun (u : Nat × Nat × (Nat → Int32)) => [(t0, .inr (5, [.int (nI n), .ref t1, .int (nI u.1), .int (nI u.2.1), .ref t2])), (t1, .inl (gy G 1, 120, .inl sg)), (t2, .inl (gy G 0, 4, .inl u.2.2))]) 0 0 := by
  refine g_enterIu (ty := .int) RX5 rfl (by decide) rfl (Nat.le_of_ble_eq_true rfl) ?_
  intro V E RET
  refine g_aload_n E dX5_errorIndex_0 rfl 0 rfl ?_
  refine g_callVVe (F := []) (ws2 := [(t0, .inr (5, [.int (nI n), .ref t1, .int 0, .int (nI wd), .ref t2])), (t1, .inl (gy G 1, 120, .inl sg)), (t2, .inl (gy G 0, 4, .inl nm))]) E (mX5_startReading G t0 t1 t2 n a wd sg nm) gX5_errorIndex_X5_startReading rfl hdX5_startReading ⟨Nat.le_of_ble_eq_true rfl, Nat.le_of_ble_eq_true rfl⟩ 5 0 rfl rfl rfl (gPerm_ix [0, 1, 2] rfl rfl) rfl rfl (Nat.le_of_ble_eq_true rfl) dX5_errorIndex_1 ⟨Nat.le_of_ble_eq_true rfl, Nat.le_of_ble_eq_true rfl⟩ (gPerm_ix [0, 1, 2] rfl rfl) ?_
  refine g_bipush (v := 120) E dX5_errorIndex_4 (by decide) ?_
  refine g_istore_n (lv' := [(1, .int 120), (0, .ref t0)]) E dX5_errorIndex_6 rfl (by decide) rfl ?_
  have loop1 : ∀ (n2 : Nat) (lf x y : Nat) (mx : Nat → Int32), (lf ≤ 120) → (x ≤ n) → (gEI lf n sg x y mx = gEI 120 n sg 0 wd nm) → lf < n2 → gW V 2 0 0 [(t0, .inr (5, [.int (nI n), .ref t1, .int (nI x), .int (nI y), .ref t2])), (t1, .inl (gy G 1, 120, .inl sg)), (t2, .inl (gy G 0, 4, .inl mx))] [(0, .ref t0), (1, .int (nI lf))] 7 [] := by
    intro n2
    induction n2 with
    | zero => intro lf x y mx hlf hx he hm4; exact absurd hm4 (Nat.not_lt_zero _)
    | succ n2 ih3 =>
      intro lf x y mx hlf hx he hm4
      refine g_iload_n E dX5_errorIndex_7 rfl 1 rfl ?_
      refine g_if_leN (tgt := 56) (a := lf) E dX5_errorIndex_8 (by decide) (by omega) (fun c5 => ?_) (fun c5 => ?_)
      · skip
        have e9 : gEI 120 n sg 0 wd nm = (nI x, x, y, mx) := by rw [← he, show lf = 0 by omega]; rfl
        refine g_aload_n E dX5_errorIndex_56 rfl 0 rfl ?_
        refine g_get E uX5_errorIndex_RX5 0 rfl rfl 2 (by decide) kX5_errorIndex_30 rfl rfl dX5_errorIndex_57 ?_
        exact RET _ _ _ (_, _, _) (⟨by rw [e9], by rw [e9]⟩) rfl dX5_errorIndex_60
      · skip
        have hl0 : 0 < lf := by omega
        refine g_aload_n E dX5_errorIndex_11 rfl 0 rfl ?_
        refine g_callVIu (F := []) E (mX5_readCommand G t0 t1 t2 n x y sg mx (by omega) (by omega)) gX5_errorIndex_X5_readCommand rfl hdX5_readCommand ⟨Nat.le_of_ble_eq_true rfl, Nat.le_of_ble_eq_true rfl⟩ 5 0 rfl rfl rfl (gPerm_ix [0, 1, 2] rfl rfl) rfl rfl (Nat.le_of_ble_eq_true rfl) dX5_errorIndex_12 ⟨Nat.le_of_ble_eq_true rfl, Nat.le_of_ble_eq_true rfl⟩ (fun u6 xA6 => ?_)
        obtain ⟨a6, w6, m6⟩ := u6
        have hb6 : a6 ≤ n := Nat.le_trans (Nat.le_of_eq (congrArg Prod.fst xA6)) (gRC_n (by omega))
        refine g_perm (ws1 := [(t0, .inr (5, [.int (nI n), .ref t1, .int (nI a6), .int (nI w6), .ref t2])), (t1, .inl (gy G 1, 120, .inl sg)), (t2, .inl (gy G 0, 4, .inl m6))]) (gPerm_ix [0, 1, 2] rfl rfl) ?_
        refine g_if_neB (tgt := 23) (P := (gRC n sg x y mx).1 = true) E dX5_errorIndex_15 (by decide) (fun c8 => ?_) (fun c8 => ?_)
        · skip
          refine g_aload_n E dX5_errorIndex_23 rfl 0 rfl ?_
          refine g_get E uX5_errorIndex_RX5 0 rfl rfl 2 (by decide) kX5_errorIndex_30 rfl rfl dX5_errorIndex_24 ?_
          refine g_aload_n E dX5_errorIndex_27 rfl 0 rfl ?_
          refine g_get E uX5_errorIndex_RX5 0 rfl rfl 0 (by decide) kX5_errorIndex_19 rfl rfl dX5_errorIndex_28 ?_
          refine g_icmp_ltN (tgt := 36) (a := a6) (b := n) E dX5_errorIndex_31 (by decide) (by omega) (by omega) (fun c9 => ?_) (fun c9 => ?_)
          · skip
            refine g_aload_n E dX5_errorIndex_36 rfl 0 rfl ?_
            refine g_bipush (v := 59) E dX5_errorIndex_37 (by decide) ?_
            refine g_callVIu (F := []) E (mX5_readSign G t0 t1 t2 n a6 w6 sg m6 59 (by omega) (by omega)) gX5_errorIndex_X5_readSign rfl hdX5_readSign ⟨Nat.le_of_ble_eq_true rfl, Nat.le_of_ble_eq_true rfl⟩ 5 0 rfl rfl rfl (gPerm_ix [0, 1, 2] rfl rfl) rfl rfl (Nat.le_of_ble_eq_true rfl) dX5_errorIndex_39 ⟨Nat.le_of_ble_eq_true rfl, Nat.le_of_ble_eq_true rfl⟩ (fun a10 xA10 => ?_)
            have hb10 : a10 ≤ n := xA10 ▸ gRS_n (by omega) (by decide)
            refine g_perm (ws1 := [(t0, .inr (5, [.int (nI n), .ref t1, .int (nI a10), .int (nI w6), .ref t2])), (t1, .inl (gy G 1, 120, .inl sg)), (t2, .inl (gy G 0, 4, .inl m6))]) (gPerm_ix [0, 1, 2] rfl rfl) ?_
            refine g_if_neB (tgt := 50) (P := gSg n sg a6 = 59) E dX5_errorIndex_42 (by decide) (fun c12 => ?_) (fun c12 => ?_)
            · skip
              refine g_iinc (lv' := [(1, .int (nI (lf - 1))), (0, .ref t0)]) E dX5_errorIndex_50 1 rfl (g_dec _ (by omega)) (by decide) rfl ?_
              refine g_goto (tgt := 7) E dX5_errorIndex_53 (by decide) ?_
              refine g_lv [1, 0] rfl ?_
              exact ih3  (lf - 1) _ _ _ (by omega) (by omega) (gEI_st hl0 c8 xA6 (by omega) c12 xA10 he) (by omega)
            · skip
              have e9 := gEI_3 hl0 c8 xA6 (by omega) c12 he
              have e8 := (show a10 = a6 from xA10.trans (if_neg c12))
              rw [← e8] at e9
              refine g_aload_n E dX5_errorIndex_45 rfl 0 rfl ?_
              refine g_get E uX5_errorIndex_RX5 0 rfl rfl 2 (by decide) kX5_errorIndex_30 rfl rfl dX5_errorIndex_46 ?_
              exact RET _ _ _ (_, _, _) (⟨by rw [e9], by rw [e9]⟩) rfl dX5_errorIndex_49
          · skip
            have e9 := gEI_2 hl0 c8 xA6 (by omega) he
            refine g_iconst (v := (-1)) E dX5_errorIndex_34 (by decide) ?_
            exact RET _ _ _ (_, _, _) (⟨by rw [e9], by rw [e9]⟩) rfl dX5_errorIndex_35
        · skip
          have e9 := gEI_1 hl0 c8 xA6 he
          refine g_aload_n E dX5_errorIndex_18 rfl 0 rfl ?_
          refine g_get E uX5_errorIndex_RX5 0 rfl rfl 2 (by decide) kX5_errorIndex_30 rfl rfl dX5_errorIndex_19 ?_
          exact RET _ _ _ (_, _, _) (⟨by rw [e9], by rw [e9]⟩) rfl dX5_errorIndex_22
  refine g_lv [1, 0] rfl ?_
  exact loop1 _ _ _ _ _ (Nat.le_refl _) (Nat.zero_le _) rfl (Nat.lt_succ_self _)
