/-! ===== bits; the two sides' reasons are one ===== -/
theorem gBits_sm : ∀ i : Nat, i < 32 → ((nI i &&& 31).toBitVec.smod 32#32).toNat = i := by decide +kernel
theorem gBits_one : ∀ i : Nat, i < 32 → ∀ j : Nat, j < 32 → ((1 : Int32) <<< (nI j &&& 31)).toBitVec.getLsbD i = decide (i = j) := by decide +kernel
theorem gBits_mask : ∀ n : Nat, n < 5 → ∀ i : Nat, i < 32 → (((1 : Int32) <<< (nI n &&& 31)) - 1).toBitVec.getLsbD i = decide (i < n) := by decide +kernel
theorem gHb_bit (x : Int32) {i : Nat} (hi : i < 32) : gHb x (nI i) = x.toBitVec.getLsbD i := by
  have e1 : (x >>> (nI i &&& 31)).toBitVec = x.toBitVec.sshiftRight i := by
    show BitVec.sshiftRight' x.toBitVec ((nI i &&& 31).toBitVec.smod 32#32) = _
    unfold BitVec.sshiftRight'
    rw [gBits_sm i hi]
  have h : ((x >>> (nI i &&& 31)) &&& 1).toBitVec = (x >>> (nI i &&& 31)).toBitVec &&& 1#32 := rfl
  rw [e1, BitVec.and_one_eq_setWidth_ofBool_getLsbD, BitVec.getLsbD_sshiftRight] at h
  have h2 : (!decide (32 ≤ 0) && if i + 0 < 32 then x.toBitVec.getLsbD (i + 0) else x.toBitVec.msb) = x.toBitVec.getLsbD i := by
    rw [if_pos (by omega), Nat.add_zero]
    simp
  rw [h2] at h
  unfold gHb
  cases e : x.toBitVec.getLsbD i
  · apply decide_eq_false
    intro c
    rw [c, e] at h
    exact absurd h (by decide)
  · apply decide_eq_true
    apply Int32.toBitVec_inj.mp
    rw [h, e]
    rfl
theorem gHb_or {x y : Int32} {i : Nat} (hi : i < 32) : gHb (x ||| y) (nI i) = (gHb x (nI i) || gHb y (nI i)) := by
  rw [gHb_bit _ hi, gHb_bit _ hi, gHb_bit _ hi]
  show (x.toBitVec ||| y.toBitVec).getLsbD i = _
  rw [BitVec.getLsbD_or]
theorem gHb_and {x y : Int32} {i : Nat} (hi : i < 32) : gHb (x &&& y) (nI i) = (gHb x (nI i) && gHb y (nI i)) := by
  rw [gHb_bit _ hi, gHb_bit _ hi, gHb_bit _ hi]
  show (x.toBitVec &&& y.toBitVec).getLsbD i = _
  rw [BitVec.getLsbD_and]
theorem gHb_one {i j : Nat} (hi : i < 32) (hj : j < 32) : gHb ((1 : Int32) <<< (nI j &&& 31)) (nI i) = decide (i = j) := by
  rw [gHb_bit _ hi]
  exact gBits_one i hi j hj
theorem gHb_ext {x y : Int32} (h : ∀ i, i < 32 → gHb x (nI i) = gHb y (nI i)) : x = y := by
  apply Int32.toBitVec_inj.mp
  apply BitVec.eq_of_getLsbD_eq
  intro i hi
  rw [← gHb_bit x hi, ← gHb_bit y hi]
  exact h i hi
theorem gHb_zero {i : Nat} (hi : i < 32) : gHb 0 (nI i) = false := by
  rw [gHb_bit _ hi]
  show (0#32).getLsbD i = false
  simp
theorem gVih_bit {bs : List (Nat → Nat)} {f d h i : Nat} (hi : i < 32) : ∀ {n : Nat}, (∀ k, k < n → bk bs k f < 32) → (gHb (gVih bs f d h n) (nI i) = true ↔ ∃ k, k < n ∧ (bk bs k 0 = d ∧ bk bs k 1 = h) ∧ bk bs k f = i)
  | 0, _ => by
    rw [gVih, gHb_zero hi]
    exact ⟨fun c => absurd c (by decide), fun ⟨k, hk, _⟩ => absurd hk (Nat.not_lt_zero k)⟩
  | n + 1, hb => by
    have ih := gVih_bit (bs := bs) (d := d) (h := h) hi (n := n) (fun k hk => hb k (by omega))
    rw [gVih]
    split
    · rename_i q
      rw [gHb_or hi, Bool.or_eq_true, ih, gHb_one hi (hb n (by omega)), decide_eq_true_eq]
      constructor
      · rintro (⟨k, hk, h2⟩ | h2)
        · exact ⟨k, by omega, h2⟩
        · exact ⟨n, by omega, q, h2.symm⟩
      · rintro ⟨k, hk, h2, h3⟩
        rcases Nat.lt_or_ge k n with c | c
        · exact Or.inl ⟨k, c, h2, h3⟩
        · obtain rfl : k = n := by omega
          exact Or.inr h3.symm
    · rename_i q
      rw [ih]
      constructor
      · rintro ⟨k, hk, h2⟩
        exact ⟨k, by omega, h2⟩
      · rintro ⟨k, hk, h2, h3⟩
        rcases Nat.lt_or_ge k n with c | c
        · exact ⟨k, c, h2, h3⟩
        · obtain rfl : k = n := by omega
          exact absurd h2 q
theorem gBz_iff {S : gSt} {p v d h : Nat} : ∀ {n : Nat}, gBz S p v d h n = true ↔ ∃ k, k < n ∧ (bk (sB S) k 0 = d ∧ bk (sB S) k 1 = h) ∧ (bk (sB S) k 3 = p ∨ bk (sB S) k 4 = v)
  | 0 => ⟨fun c => absurd (show false = true from c) (by decide), fun ⟨k, hk, _⟩ => absurd hk (Nat.not_lt_zero k)⟩
  | n + 1 => by
    rw [gBz, Bool.or_eq_true, gBz_iff, Bool.and_eq_true, Bool.or_eq_true, decide_eq_true_eq, decide_eq_true_eq, decide_eq_true_eq]
    constructor
    · rintro (⟨k, hk, h2⟩ | h2)
      · exact ⟨k, by omega, h2⟩
      · exact ⟨n, by omega, h2⟩
    · rintro ⟨k, hk, h2⟩
      rcases Nat.lt_or_ge k n with c | c
      · exact Or.inl ⟨k, c, h2⟩
      · obtain rfl : k = n := by omega
        exact Or.inr h2
theorem gMa_iff {S : gSt} {p d h : Nat} : ∀ {n : Nat}, gMa S p d h n = true ↔ ∃ k, k < n ∧ (bk (sB S) k 0 = d ∧ bk (sB S) k 1 = h) ∧ gHb (sI S 5 p) (nI (bk (sB S) k 3)) = true
  | 0 => ⟨fun c => absurd (show false = true from c) (by decide), fun ⟨k, hk, _⟩ => absurd hk (Nat.not_lt_zero k)⟩
  | n + 1 => by
    rw [gMa, Bool.or_eq_true, gMa_iff, Bool.and_eq_true, decide_eq_true_eq]
    constructor
    · rintro (⟨k, hk, h2⟩ | h2)
      · exact ⟨k, by omega, h2⟩
      · exact ⟨n, by omega, h2⟩
    · rintro ⟨k, hk, h2⟩
      rcases Nat.lt_or_ge k n with c | c
      · exact Or.inl ⟨k, c, h2⟩
      · obtain rfl : k = n := by omega
        exact Or.inr h2
theorem gAnd_zero {x y : Int32} : x &&& y = 0 ↔ ∀ i, i < 32 → ¬ (gHb x (nI i) = true ∧ gHb y (nI i) = true) := by
  constructor
  · intro e i hi c
    have h1 := gHb_and (x := x) (y := y) hi
    rw [e, gHb_zero hi, c.1, c.2] at h1
    exact absurd h1 (by decide)
  · intro h
    apply gHb_ext
    intro i hi
    rw [gHb_and hi, gHb_zero hi]
    have := h i hi
    cases e1 : gHb x (nI i)
    · rfl
    · cases e2 : gHb y (nI i)
      · rfl
      · exact absurd ⟨e1, e2⟩ this
theorem gMask {x : Int32} {n : Nat} (hn : n < 5) : x &&& (((1 : Int32) <<< (nI n &&& 31)) - 1) = ((1 : Int32) <<< (nI n &&& 31)) - 1 ↔ ∀ i, i < n → gHb x (nI i) = true := by
  constructor
  · intro e i hi
    have h1 := gHb_and (x := x) (y := ((1 : Int32) <<< (nI n &&& 31)) - 1) (i := i) (by omega)
    rw [e, gHb_bit (((1 : Int32) <<< (nI n &&& 31)) - 1) (by omega), gBits_mask n hn i (by omega), decide_eq_true hi, Bool.and_true] at h1
    exact h1.symm
  · intro h
    apply gHb_ext
    intro i hi
    rw [gHb_and hi, gHb_bit (((1 : Int32) <<< (nI n &&& 31)) - 1) hi, gBits_mask n hn i hi]
    by_cases q : i < n
    · rw [h i q, decide_eq_true q]
      rfl
    · rw [decide_eq_false q, Bool.and_false]
theorem gFd_all {fd x : Int32} : ∀ {b : Nat}, (∀ i, i < b → gHb x (nI i) = true) → gFd b fd x = fd
  | 0, _ => rfl
  | b + 1, h => by
    rw [gFd, if_pos (h b (by omega))]
    exact gFd_all (fun i hi => h i (by omega))
theorem gFd_one {x : Int32} {j : Nat} (h1 : ∀ i, i < j → gHb x (nI i) = true) (h2 : gHb x (nI j) = false) : ∀ {b : Nat} {fd : Int32}, j < b → gFd b fd x = nI j
  | 0, _, h => absurd h (Nat.not_lt_zero j)
  | b + 1, fd, h => by
    rcases Nat.lt_or_ge j b with c | c
    · rw [gFd]
      exact gFd_one h1 h2 c
    · obtain rfl : j = b := by omega
      rw [gFd, h2]
      exact gFd_all h1
/-- the least place without its bit, or none below b -/
theorem gLeast {x : Int32} : ∀ b : Nat, (∀ i, i < b → gHb x (nI i) = true) ∨ ∃ j, j < b ∧ (∀ i, i < j → gHb x (nI i) = true) ∧ gHb x (nI j) = false
  | 0 => Or.inl (fun i hi => absurd hi (Nat.not_lt_zero i))
  | b + 1 => by
    rcases gLeast b with h | ⟨j, h1, h2⟩
    · cases e : gHb x (nI b)
      · exact Or.inr ⟨b, by omega, h, e⟩
      · left
        intro i hi
        rcases Nat.lt_or_ge i b with c | c
        · exact h i c
        · obtain rfl : i = b := by omega
          exact e
    · exact Or.inr ⟨j, by omega, h2⟩
theorem gFb_cases {S : gSt} (h5 : sS S 0 < 5) (d h : Nat) : ((∀ i, i < sS S 0 → gHb (gVih (sB S) 2 d h (sB S).length) (nI i) = true) ∧ gFb S d h = -1) ∨ ((¬ ∀ i, i < sS S 0 → gHb (gVih (sB S) 2 d h (sB S).length) (nI i) = true) ∧ gFb S d h = nI (gFr (gVih (sB S) 2 d h (sB S).length)) ∧ gFr (gVih (sB S) 2 d h (sB S).length) < sS S 0) := by
  rcases gLeast (x := gVih (sB S) 2 d h (sB S).length) (sS S 0) with q | ⟨j, q1, q2, q3⟩
  · exact Or.inl ⟨q, gFd_all q⟩
  · right
    have e : gFr (gVih (sB S) 2 d h (sB S).length) = j := gFr_of q2 (by omega) (Or.inr q3)
    rw [e]
    refine ⟨fun c => ?_, gFd_one q2 q3 q1, q1⟩
    rw [c j q1] at q3
    cases q3
theorem gWhyR_eq {S : gSt} (hI : gI1r S) (hb : ∀ k, k < (sB S).length → bk (sB S) k 2 < 32) {p v d h : Nat} (hp : p < 8) (hv : v < 10) : gWhyR S p v d h = gRA S p v d h := by
  obtain ⟨hP8, hn, hw, hW8, hs3, hs4, hs5, hs6, hs7, hs8, hb34⟩ := hI
  have hB3 : ∀ k, k < (sB S).length → bk (sB S) k 3 < 32 := fun k hk => by have := (hb34 k hk).1; omega
  have hB4 : ∀ k, k < (sB S).length → bk (sB S) k 4 < 32 := fun k hk => by have := (hb34 k hk).2; omega
  unfold gWhyR gRA gROD
  by_cases c1 : gHb (sI S 1 p) (nI v) = true
  · simp only [if_pos c1]
    by_cases c2 : nI d < sI S 2 p
    · rw [if_pos c2, if_neg (show ¬ sI S 2 p ≤ nI d from Int32.not_le.mpr c2)]
      rfl
    · rw [if_neg c2, if_pos (Int32.not_lt.mp c2)]
      by_cases c3 : nI d < sI S 7 v
      · rw [if_pos c3, if_neg (show ¬ sI S 7 v ≤ nI d from Int32.not_le.mpr c3)]
        rfl
      · rw [if_neg c3, if_pos (Int32.not_lt.mp c3)]
        by_cases c4 : (if d / 7 = sN S 0 / 7 then sI S 4 p else 0) + nI (gCW (sB S) p (d / 7)) ≤ sI S 0 p
        · simp only [if_pos c4, if_true]
          unfold gRIH
          have e5 : gBz S p v d h (sB S).length = true ↔ (gHb (gVih (sB S) 3 d h (sB S).length) (nI p) = true ∨ gHb (gVih (sB S) 4 d h (sB S).length) (nI v) = true) := by
            rw [gBz_iff, gVih_bit (by omega) hB3, gVih_bit (by omega) hB4]
            constructor
            · rintro ⟨k, hk, h1, h2 | h2⟩
              · exact Or.inl ⟨k, hk, h1, h2⟩
              · exact Or.inr ⟨k, hk, h1, h2⟩
            · rintro (⟨k, hk, h1, h2⟩ | ⟨k, hk, h1, h2⟩)
              · exact ⟨k, hk, h1, Or.inl h2⟩
              · exact ⟨k, hk, h1, Or.inr h2⟩
          by_cases c5 : gBz S p v d h (sB S).length = true
          · rw [if_pos c5]
            rcases e5.mp c5 with q | q
            · rw [if_pos q]
            · rw [if_pos q]
              split <;> rfl
          · rw [if_neg c5, if_neg (fun q => c5 (e5.mpr (Or.inl q))), if_neg (fun q => c5 (e5.mpr (Or.inr q)))]
            have e6 : gMa S p d h (sB S).length = true ↔ ¬ (gVih (sB S) 3 d h (sB S).length) &&& (sI S 5 p) = 0 := by
              rw [gMa_iff, gAnd_zero]
              constructor
              · rintro ⟨k, hk, h1, h2⟩ c
                exact c (bk (sB S) k 3) (hB3 k hk) ⟨(gVih_bit (hB3 k hk) hB3).mpr ⟨k, hk, h1, rfl⟩, h2⟩
              · intro c
                apply Decidable.byContradiction
                intro c2
                apply c
                rintro i hi ⟨h1, h2⟩
                obtain ⟨k, hk, h3, h4⟩ := (gVih_bit hi hB3).mp h1
                exact c2 ⟨k, hk, h3, by rw [h4]; exact h2⟩
            by_cases c6 : gMa S p d h (sB S).length = true
            · rw [if_pos c6, if_neg (e6.mp c6)]
            · rw [if_neg c6, if_pos (Decidable.not_not.mp (fun q => c6 (e6.mpr q)))]
              have e7 : gFb S d h = -1 ↔ (gVih (sB S) 2 d h (sB S).length) &&& (((1 : Int32) <<< (nI (sS S 0) &&& 31)) - 1) = ((1 : Int32) <<< (nI (sS S 0) &&& 31)) - 1 := by
                rw [gMask (by omega)]
                rcases gFb_cases (S := S) (by omega) d h with ⟨q1, q2⟩ | ⟨q1, q2, q3⟩
                · exact ⟨fun _ => q1, fun _ => q2⟩
                · refine ⟨fun q => ?_, fun q => absurd q q1⟩
                  rw [q2] at q
                  exact (gNe_m1 (by omega) q).elim
              by_cases c7 : gFb S d h = -1
              · rw [if_pos c7, if_pos (e7.mp c7)]
              · rw [if_neg c7, if_neg (fun q => c7 (e7.mpr q))]
                by_cases c8 : (sB S).length = 24
                · rw [if_pos c8, if_pos (by omega)]
                · rw [if_neg c8, if_neg (by omega)]
        · rw [if_neg c4, if_neg c4]
          rfl
  · rw [if_neg c1, if_neg c1]
    rfl
