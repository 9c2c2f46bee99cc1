/-! ===== the class's object shows the abstract one ===== -/
def gUok (T : gSt) (v : gU) : Prop := v.1 = T ∧ RB (sB T) v.2.1 ∧ RW (sW T) v.2.2
/-- the ring: count, next, rows -/
def gRing (c : Nat) (H : Nat → gSt) (h : Nat → Int32) (st : Nat → gU) : Prop := ∃ nx, nx < 15 ∧ h 0 = nI c ∧ h 1 = nI nx ∧ ∀ k, k < c → gUok (H k) (st ((nx + 15 - c + k) % 15))
def gSlt (sl : Nat → Option gSt) (b : Nat → Int32) (v : Nat → gU) : Prop := ∀ i, i < 2 → (sl i = none → b i = 0) ∧ ∀ T, sl i = some T → b i = 1 ∧ gUok T (v (i + 1))
def gClsI (A : gA) (u : gVu) : Prop := u.1.1 0 = nI (aN A) ∧ u.1.2.1 = aG A ∧ gUok (aS A) (u.2.2.2.1 0) ∧ gRing (aC A) (aH A) u.2.1 u.2.2.2.2 ∧ gSlt (aL A) u.2.2.1 u.2.2.2.1 ∧ gUok gSt0 (u.2.2.2.1 4)
def gClsP (K : Nat × Int32 × gA) (r : Int32) (u : gVu) : Prop := K.1 = 0 ∧ r = K.2.1 ∧ gClsI K.2.2 u
def gClsX (K : Nat × Int32 × gA) (exs : List String) (cls : String) (u : gVu) : Prop := ∃ k, K.1 = k + 1 ∧ exs[k]? = some cls ∧ gClsI K.2.2 u
theorem gUok_0 : gUok gSt0 gU0 := ⟨rfl, fun k hk => absurd hk (Nat.not_lt_zero k), fun k hk => absurd hk (Nat.not_lt_zero k)⟩
theorem gClsI_0 : gClsI gA0 gV0 := ⟨rfl, rfl, gUok_0, ⟨0, by decide, rfl, rfl, fun k hk => absurd hk (Nat.not_lt_zero k)⟩, fun i _ => ⟨fun _ => rfl, fun T hT => by cases hT⟩, gUok_0⟩
theorem gClsP_mk {K : Nat × Int32 × gA} {v r : Int32} {A : gA} {u : gVu} (hK : K = (0, v, A)) (hr : r = v) (hI : gClsI A u) : gClsP K r u := by
  rw [hK]
  exact ⟨rfl, hr, hI⟩
theorem gClsX_mk {K : Nat × Int32 × gA} {k : Nat} {v : Int32} {A : gA} {u : gVu} {exs : List String} {cls : String} (hK : K = (k + 1, v, A)) (he : exs[k]? = some cls) (hI : gClsI A u) : gClsX K exs cls u := by
  rw [hK]
  exact ⟨k, rfl, he, hI⟩
theorem gTm_nat {S : gSt} {d h : Int32} (hT : sN S 0 < 1000000000) (c : ¬ d < nI (sN S 0) ∧ ¬ 9999 < d ∧ ¬ h < 0 ∧ ¬ 8 ≤ h) : ∃ x y, d = nI x ∧ x ≤ 9999 ∧ h = nI y ∧ y < 8 := by
  obtain ⟨c3, c4, c5⟩ := c
  have hd0 : ¬ d < 0 := by
    rw [Int32.lt_iff_toInt_lt, nI_toInt (by omega)] at c3
    rw [Int32.lt_iff_toInt_lt, show (0 : Int32).toInt = 0 by decide]
    omega
  obtain ⟨x, hx, rfl⟩ := nI_of hd0
  obtain ⟨y, hy, rfl⟩ := gNat_of (n := 8) (x := h) ⟨c5.1, c5.2⟩ (by decide)
  rw [Int32.lt_iff_toInt_lt, nI_toInt (by omega), show (9999 : Int32).toInt = 9999 by decide] at c4
  exact ⟨x, y, rfl, by omega, rfl, hy⟩
