/-! ===== the ring of remembered states; what an action gives ===== -/
def gRg (c : Nat) (H : Nat → gSt) (n : Nat) (st : Nat → gU) : Prop := n < 15 ∧ ∀ k, k < c → gUok (H k) (st ((n + 15 - c + k) % 15))
theorem gRg_row {c n : Nat} {H : Nat → gSt} {st : Nat → gU} (h : gRg c H n st) (hc : c ≤ 14) (x : gU) : gRg c H n (gUpd st n x) := by
  refine ⟨h.1, fun k hk => ?_⟩
  have h1 := h.1
  have e : gUpd st n x ((n + 15 - c + k) % 15) = st ((n + 15 - c + k) % 15) := if_neg (by omega)
  rw [e]
  exact h.2 k hk
theorem gRg_keep {c n : Nat} {H : Nat → gSt} {st : Nat → gU} {S : gSt} {x : gU} (h : gRg c H n st) (hc : c ≤ 14) (hx : gUok S x) : gRg (gHc c) (gHh c H S) ((n + 1) % 15) (gUpd st n x) := by
  refine ⟨by omega, fun k hk => ?_⟩
  have h1 := h.1
  have eH : gHh c H S k = if c = 14 then (if k < 13 then H (k + 1) else S) else (if k = c then S else H k) := rfl
  have eU : ∀ i, gUpd st n x i = if i = n then x else st i := fun _ => rfl
  unfold gHc at hk ⊢
  rw [eH, eU]
  by_cases c14 : c = 14
  · rw [if_pos c14] at hk
    rw [if_pos c14, if_pos c14]
    by_cases k13 : k < 13
    · have q := h.2 (k + 1) (by omega)
      rw [show (n + 15 - c + (k + 1)) % 15 = ((n + 1) % 15 + 15 - 14 + k) % 15 by omega] at q
      rw [if_pos k13, if_neg (by omega)]
      exact q
    · rw [if_neg k13, if_pos (by omega)]
      exact hx
  · rw [if_neg c14] at hk
    rw [if_neg c14, if_neg c14]
    by_cases kc : k = c
    · rw [if_pos kc, if_pos (by omega)]
      exact hx
    · have q := h.2 k (by omega)
      rw [show (n + 15 - c + k) % 15 = ((n + 1) % 15 + 15 - (c + 1) + k) % 15 by omega] at q
      rw [if_neg kc, if_neg (by omega)]
      exact q
theorem gUok_mk {T S1 : gSt} {g1 g2 : Nat → Int32} (e : S1 = T) (hR : RB (sB S1) g1) (hQ : RW (sW S1) g2) : gUok T (S1, g1, g2) := by
  subst e
  exact ⟨rfl, hR, hQ⟩
/-- a refusal leaves the state, and names its exception -/
def gKp (exs : List String) (e1 e2 e3 : Nat) (S : gSt) (t : Int32 × gSt) : Prop :=
  (t.1 = -1 → t.2 = S ∧ ∃ z0, e1 = z0 + 1 ∧ exs[z0]? = some "java/lang/IndexOutOfBoundsException") ∧ (t.1 = -2 → t.2 = S ∧ ∃ z0, e2 = z0 + 1 ∧ exs[z0]? = some "java/lang/IllegalArgumentException") ∧ (t.1 = -3 → t.2 = S ∧ ∃ z0, e3 = z0 + 1 ∧ exs[z0]? = some "java/lang/IllegalStateException")
section
variable {exs : List String} {e1 e2 e3 : Nat} {S T : gSt}
theorem gKp_v {v : Int32} (hv : ¬ v < 0) : gKp exs e1 e2 e3 S (v, T) :=
  ⟨fun h => absurd (by rw [show v = -1 from h]; decide) hv, fun h => absurd (by rw [show v = -2 from h]; decide) hv, fun h => absurd (by rw [show v = -3 from h]; decide) hv⟩
theorem gKp_1 (h : ∃ z0, e1 = z0 + 1 ∧ exs[z0]? = some "java/lang/IndexOutOfBoundsException") : gKp exs e1 e2 e3 S (-1, S) :=
  ⟨fun _ => ⟨rfl, h⟩, fun q => absurd (show (-1 : Int32) = -2 from q) (by decide), fun q => absurd (show (-1 : Int32) = -3 from q) (by decide)⟩
theorem gKp_2 (h : ∃ z0, e2 = z0 + 1 ∧ exs[z0]? = some "java/lang/IllegalArgumentException") : gKp exs e1 e2 e3 S (-2, S) :=
  ⟨fun q => absurd (show (-2 : Int32) = -1 from q) (by decide), fun _ => ⟨rfl, h⟩, fun q => absurd (show (-2 : Int32) = -3 from q) (by decide)⟩
theorem gKp_3 (h : ∃ z0, e3 = z0 + 1 ∧ exs[z0]? = some "java/lang/IllegalStateException") : gKp exs e1 e2 e3 S (-3, S) :=
  ⟨fun q => absurd (show (-3 : Int32) = -1 from q) (by decide), fun q => absurd (show (-3 : Int32) = -2 from q) (by decide), fun _ => ⟨rfl, h⟩⟩
end
/-- the class's cells of an action: the prison, the ring -/
abbrev gAu := gU × (Nat × Nat) × (Nat → gU)
def gAp (A : gA) (u : gAu) : Prop := gUok (aS A) u.1 ∧ u.2.1.1 = aC A ∧ gRg (aC A) (aH A) u.2.1.2 u.2.2
section
variable {X : Nat × (Nat → Int32)} {S : gSt} {c n : Nat} {H : Nat → gSt} {st : Nat → gU} {sl : Nat → Option gSt} {e1 e2 e3 : Nat} {exs : List String} {t : Int32 × gSt} {v x : gU}
theorem gAct_ret (hRG : gRg c H n st) (hc : c ≤ 14) (hx : gUok S x) (hv : gUok t.2 v) (n1 : ¬ t.1 = -1) (n2 : ¬ t.1 = -2) (n3 : ¬ t.1 = -3) :
    (aAct e1 e2 e3 (X, S, (c, H), sl) t).1 = 0 ∧ t.1 = (aAct e1 e2 e3 (X, S, (c, H), sl) t).2.1 ∧ gAp (aAct e1 e2 e3 (X, S, (c, H), sl) t).2.2 (v, (min (c + 1) 14, (n + 1) % 15), gUpd st n x) := by
  have e : aAct e1 e2 e3 (X, S, (c, H), sl) t = (0, t.1, aRem (X, S, (c, H), sl) t.2) := by
    unfold aAct
    rw [if_neg n1, if_neg n2, if_neg n3]
  have ec : min (c + 1) 14 = gHc c := by
    unfold gHc
    split <;> omega
  rw [e, ec]
  exact ⟨rfl, rfl, hv, rfl, gRg_keep hRG hc hx⟩
theorem gAct_out (hRG : gRg c H n st) (hc : c ≤ 14) (hv : gUok t.2 v) (hk : gKp exs e1 e2 e3 S t) {cls : String} (hr : (t.1 = -1 ∧ cls = "java/lang/IndexOutOfBoundsException") ∨ (t.1 = -2 ∧ cls = "java/lang/IllegalArgumentException") ∨ (t.1 = -3 ∧ cls = "java/lang/IllegalStateException")) :
    ∃ z0, (aAct e1 e2 e3 (X, S, (c, H), sl) t).1 = z0 + 1 ∧ exs[z0]? = some cls ∧ gAp (aAct e1 e2 e3 (X, S, (c, H), sl) t).2.2 (v, (c, n), gUpd st n x) := by
  rcases hr with ⟨r, rfl⟩ | ⟨r, rfl⟩ | ⟨r, rfl⟩
  · obtain ⟨hS, z0, h1, h2⟩ := hk.1 r
    rw [aAct_1 r]
    exact ⟨z0, h1, h2, by rw [hS] at hv; exact hv, rfl, gRg_row hRG hc x⟩
  · obtain ⟨hS, z0, h1, h2⟩ := hk.2.1 r
    rw [aAct_2 r]
    exact ⟨z0, h1, h2, by rw [hS] at hv; exact hv, rfl, gRg_row hRG hc x⟩
  · obtain ⟨hS, z0, h1, h2⟩ := hk.2.2 r
    rw [aAct_3 r]
    exact ⟨z0, h1, h2, by rw [hS] at hv; exact hv, rfl, gRg_row hRG hc x⟩
end
section
variable {S : gSt}
theorem gKp_add (hK : gI3 S) (r : Int32) : gKp ["java/lang/IllegalArgumentException", "java/lang/IllegalStateException"] 0 1 2 S (gTryAdd S r) := by
  unfold gTryAdd
  split
  · split
    · exact gKp_v (nI_nneg (by omega))
    · exact gKp_3 ⟨1, rfl, rfl⟩
  · exact gKp_2 ⟨0, rfl, rfl⟩
theorem gKp_promote (hK : gI3 S) (p r : Int32) : gKp ["java/lang/IndexOutOfBoundsException", "java/lang/IllegalArgumentException"] 1 2 0 S (gTryPromote S p r) := by
  have h8 := hK.1.1.1
  unfold gTryPromote
  split
  · rename_i c1
    split
    · obtain ⟨j, hj, rfl⟩ := gNat_of c1 (by omega)
      rw [nI_clamp (by omega)]
      exact gKp_v (hK.2.1 j (by omega)).2.2.1
    · exact gKp_2 ⟨1, rfl, rfl⟩
  · exact gKp_1 ⟨0, rfl, rfl⟩
theorem gKp_list (hK : gI3 S) (p v b : Int32) : gKp ["java/lang/IndexOutOfBoundsException"] 1 0 0 S (gTryList S p v b) := by
  have h8 := hK.1.1.1
  unfold gTryList
  split
  · rename_i c1
    obtain ⟨j, hj, rfl⟩ := gNat_of c1.1 (by omega)
    obtain ⟨e, he, rfl⟩ := gNat_of10 c1.2
    rw [nI_clamp (by omega)]
    exact gKp_v (gTL_nn hK (by omega) he)
  · exact gKp_1 ⟨0, rfl, rfl⟩
theorem gKp_apart (hK : gI3 S) (p q b : Int32) : gKp ["java/lang/IndexOutOfBoundsException", "java/lang/IllegalStateException"] 1 0 2 S (gTryApart S p q b) := by
  have h8 := hK.1.1.1
  have hKT := gI3_tryApart hK p q b
  unfold gTryApart at hKT ⊢
  split
  · rename_i c1
    rw [if_pos c1] at hKT
    split
    · rename_i c2
      rw [if_pos c2] at hKT
      split
      · exact gKp_3 ⟨1, rfl, rfl⟩
      · rename_i c3
        rw [if_neg c3] at hKT
        obtain ⟨j, hj, rfl⟩ := gNat_of c1 (by omega)
        rw [nI_clamp (by omega)] at hKT ⊢
        exact gKp_v (gNg_apart hKT.2.1 (by omega))
    · exact gKp_1 ⟨0, rfl, rfl⟩
  · exact gKp_1 ⟨0, rfl, rfl⟩
theorem gKp_book (hK : gI3 S) (p v d h : Int32) : gKp ["java/lang/IndexOutOfBoundsException", "java/lang/IllegalArgumentException", "java/lang/IllegalStateException"] 1 2 3 S (gTryBook S p v d h) := by
  unfold gTryBook
  split
  · split
    · split
      · exact gKp_v (nI_nneg (Nat.lt_of_le_of_lt (gFr_le _) (by decide)))
      · exact gKp_3 ⟨2, rfl, rfl⟩
    · exact gKp_2 ⟨1, rfl, rfl⟩
  · exact gKp_1 ⟨0, rfl, rfl⟩
theorem gKp_cancel (hK : gI3 S) (k : Int32) : gKp ["java/lang/IndexOutOfBoundsException"] 1 0 0 S (gTryCancel S k) := by
  have hn := hK.1.1.2.1
  unfold gTryCancel
  split
  · exact gKp_v (nI_nneg (by rw [List.length_eraseIdx]; split <;> omega))
  · exact gKp_1 ⟨0, rfl, rfl⟩
theorem gKp_late (hK : gI3 S) (k m : Int32) : gKp ["java/lang/IndexOutOfBoundsException", "java/lang/IllegalArgumentException"] 1 2 0 S (gTryLate S k m) := by
  have hn := hK.1.1.2.1
  unfold gTryLate
  split
  · rename_i c1
    split
    · obtain ⟨j, hj, rfl⟩ := gNat_of c1 (by omega)
      rw [nI_clamp (by omega)]
      have := (hK.1.2.2.1 j hj).2.2.2.2.1
      exact gKp_v (nI_nneg (by omega))
    · exact gKp_2 ⟨1, rfl, rfl⟩
  · exact gKp_1 ⟨0, rfl, rfl⟩
theorem gKp_carry (hK : gI3 S) (v b : Int32) : gKp ["java/lang/IndexOutOfBoundsException"] 1 0 0 S (gTryCarry S v b) := by
  unfold gTryCarry
  split
  · rename_i c1
    obtain ⟨e, he, rfl⟩ := gNat_of10 c1
    exact gKp_v (gTC_nn hK he)
  · exact gKp_1 ⟨0, rfl, rfl⟩
theorem gKp_punish (hK : gI3 S) (p m : Int32) : gKp ["java/lang/IndexOutOfBoundsException", "java/lang/IllegalArgumentException"] 1 2 0 S (gTryPunish S p m) := by
  have h8 := hK.1.1.1
  unfold gTryPunish
  split
  · rename_i c1
    split
    · obtain ⟨j, hj, rfl⟩ := gNat_of c1 (by omega)
      rw [nI_clamp (by omega)]
      exact gKp_v (hK.2.1 j (by omega)).2.2.2
    · exact gKp_2 ⟨1, rfl, rfl⟩
  · exact gKp_1 ⟨0, rfl, rfl⟩
theorem gKp_wish (hK : gI3 S) (p v : Int32) : gKp ["java/lang/IndexOutOfBoundsException", "java/lang/IllegalStateException"] 1 0 2 S (gTryWish S p v) := by
  unfold gTryWish
  split
  · split
    · split
      · exact gKp_3 ⟨1, rfl, rfl⟩
      · exact gKp_v (nI_nneg (by rw [List.length_append, List.length_singleton]; omega))
    · exact gKp_3 ⟨1, rfl, rfl⟩
  · exact gKp_1 ⟨0, rfl, rfl⟩
theorem gKp_set (hK : gI3 S) (q x : Int32) : gKp ["java/lang/IllegalArgumentException"] 0 1 0 S (gTrySet S q x) := by
  unfold gTrySet
  split
  · rename_i c1
    split
    · obtain ⟨j, hj, rfl⟩ := gNat_of (n := 6) c1 (by decide)
      rw [nI_clamp (by omega)]
      have := gSet_lt hK.1.1 hj
      exact gKp_v (nI_nneg (by omega))
    · exact gKp_2 ⟨0, rfl, rfl⟩
  · exact gKp_2 ⟨0, rfl, rfl⟩
theorem gKp_run (hK : gI3 S) {n : Nat} (hn : n ≤ 60) (hT : sN S 0 + n < 200000000) (exs : List String) : gKp exs 0 0 0 S (sI (gDays n S) 8 0 - sI S 8 0, gDays n S) := by
  obtain ⟨xa, xb, xc⟩ := gDays_ans (n := n) hK (by omega)
  exact gKp_v (by rw [xc]; exact nI_nneg (by omega))
end
/-! ===== a contract over more cells ===== -/
section
variable {G : gG} {w w2 F : va_W} {sz : Nat}
theorem gA_sub {G : gG} (hp : gPerm w2 (w ++ F)) (hD : va_D (fun _ => True) w2) (q : Nat) (h : va_A w sz q) : va_A w2 sz q := by
  have hDa := (hp (gd G) #[] (va_A w2 sz)).2 hD.self
  rcases h with ⟨k, e, hk⟩ | h
  · exact hDa.2 k _ (g_app_l hk)
  · exact Or.inr h
theorem g_frame {w1 w3 : va_W} {s t : State} (hp : gPerm w2 (w ++ F)) (hsz : s.heap.size = sz) (hP : va_P (gd G) vwCl w2 s.heap) (hD : va_D (fun _ => True) w2) (hB : gB G w sz w1 t) (hF : va_F (va_A w sz) s t) (hq : gPerm (w1 ++ F) w3) : gB G w2 sz w3 t ∧ va_F (va_A w2 sz) s t := by
  subst hsz
  have hPa := (hp (gd G) s.heap (va_A w2 s.heap.size)).1 hP
  have hDa := (hp (gd G) s.heap (va_A w2 s.heap.size)).2 hD.self
  have hFc : ∀ q, va_A w s.heap.size q → va_A w2 s.heap.size q := fun q h => gA_sub (G := G) hp hD q h
  obtain ⟨b1, b2, b3⟩ := hB
  have hJ := g_join hPa hDa hF.2 hFc b1 b3
  exact ⟨⟨(hq (gd G) t.heap (fun _ => True)).1 hJ.1, b2, (hq (gd G) t.heap (va_A w2 s.heap.size)).2 hJ.2⟩, hF.1, fun q h1 h2 => hF.2 q h1 (fun h => h2 (hFc q h))⟩
theorem gPre_frame {av : List Value} {a : Array Value} {s : State} (hp : gPerm w2 (w ++ F)) (h : gPre G av w2 sz a s) : gPre G av w sz a s := by
  obtain ⟨h0, h1, h2, h3, h4, h5⟩ := h
  have hPa := (hp (gd G) s.heap (fun _ => True)).1 h2
  have hDa := (hp (gd G) s.heap (fun _ => True)).2 h4
  exact ⟨h0, h1, fun k q hk => hPa k q (g_app_l hk), h3, ⟨fun i j p q hi hj he => hDa.1 i j p q (g_app_l hi) (g_app_l hj) he, fun k q hk => trivial⟩, gZ.to h5 va_S.rf (State.WarmedH.refl s) rfl (fun q hq => gA_sub (G := G) hp h4 q hq)⟩
end
section
variable {G : gG} {y : MethodName} {ws : List Cond} {fr lo mc ms : Nat} {av : List Value} {w w2 F : va_W} {S S' : Type} {w' : S → va_W} {w2' : S' → va_W} {post : Int32 → S → Prop} {post' : Int32 → S' → Prop}
theorem CX_lift {px : String → S → Prop} {px' : String → S' → Prop} (h : CX G y ws fr lo av w post px w' mc ms) (hp : gPerm w2 (w ++ F)) (k : ∀ r u, post r u → ∃ u', post' r u' ∧ gPerm (w' u ++ F) (w2' u')) (kx : ∀ c u, px c u → ∃ u', px' c u' ∧ gPerm (w' u ++ F) (w2' u')) : CX G y ws fr lo av w2 post' px' w2' mc ms := by
  intro sz
  refine MetFree.mono (h sz) (fun a s hP => gPre_frame hp hP) (fun _ _ _ _ _ q => q) (fun a s o t hP hQ => ?_)
  obtain ⟨-, h1, h2, -, h4, -⟩ := hP
  have hfree : ∀ q, va_A w sz q → va_A w2 sz q := fun q hq => gA_sub (G := G) hp h4 q hq
  rcases hQ with ⟨⟨⟨r, u, hr, hu, hB⟩, hF⟩, L, hL, hLf⟩ | ⟨q, hq, E, ce, L, ⟨u, hu, ⟨hE, hB⟩, hF⟩, c1, c2, c3, c4, c5, hLf⟩
  · obtain ⟨u', hu', hg⟩ := k r u hu
    obtain ⟨d1, d2⟩ := g_frame hp h1 h2 h4 hB hF hg
    exact Or.inl ⟨⟨⟨r, u', hr, hu', d1⟩, d2⟩, L, hL, fun q hq => hfree _ (hLf q hq)⟩
  · obtain ⟨u', hu', hg⟩ := kx u.1 u.2 hu
    obtain ⟨d1, d2⟩ := g_frame hp h1 h2 h4 hB hF hg
    exact Or.inr ⟨q, hq, E, ce, L, ⟨(u.1, u'), hu', ⟨hE, d1⟩, d2⟩, c1, c2, c3, c4, c5, fun q hq => hfree _ (hLf q hq)⟩
theorem CI_lift (h : CI G y ws fr lo av w post w' mc ms) (hp : gPerm w2 (w ++ F)) (k : ∀ r u, post r u → ∃ u', post' r u' ∧ gPerm (w' u ++ F) (w2' u')) : CI G y ws fr lo av w2 post' w2' mc ms := by
  intro sz
  refine MetFree.mono (h sz) (fun a s hP => gPre_frame hp hP) (fun _ _ _ _ _ q => q) (fun a s o t hP hQ => ?_)
  obtain ⟨-, h1, h2, -, h4, -⟩ := hP
  have hfree : ∀ q, va_A w sz q → va_A w2 sz q := fun q hq => gA_sub (G := G) hp h4 q hq
  obtain ⟨⟨⟨r, u, hr, hu, hB⟩, hF⟩, L, hL, hLf⟩ := hQ
  obtain ⟨u', hu', hg⟩ := k r u hu
  obtain ⟨d1, d2⟩ := g_frame hp h1 h2 h4 hB hF hg
  exact ⟨⟨⟨r, u', hr, hu', d1⟩, d2⟩, L, hL, fun q hq => hfree _ (hLf q hq)⟩
end
