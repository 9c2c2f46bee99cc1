/-! ===== the reference's methods over wR ===== -/
theorem gPerm_cm {A B : va_W} : gPerm (A ++ B) (B ++ A) := gPerm_of List.perm_append_comm
theorem rX8_thrown (G : gG) (m : Nat → Nat) (w : gRu) : CI G yX8_thrown wsX8_thrown 0 0 [.ref (m 0)] (wR G m w) (fun (r : Int32) (u : gRu) => r = w.1 0 ∧ u = w) (fun u : gRu => wR G m u) 0 0 :=
  CI_lift (F := (wR G m w).tail) (mX8_thrown G m w.1) (gPerm_rfl (wR G m w)) (fun r u hp => ⟨w, ⟨hp, rfl⟩, gPerm_rfl (wR G m w)⟩)
theorem rX8_append {G : gG} (m : Nat → Nat) {w : gRu} {A : gA} {bd : Nat} (hA0 : gAok bd A) (hb : bd ≤ 50000) (hR : gRefI A w) (x : Int32) : CI G yX8_append wsX8_append 1 25 [.ref (m 0), .int x] (wR G m w) (gRefP (fAppend A x)) (fun u : gRu => wR G m u) 0 0 := by
  have hA := gAok_mono hA0 hb
  obtain ⟨⟨n, sg⟩, S, ⟨c, H⟩, sl⟩ := A
  obtain ⟨q, sg2, rd, f, tr, dy, kp, ik, tn⟩ := w
  obtain ⟨h1, h2, h3, h4, h5, h6⟩ := hR
  have e1 : q 1 = nI n := h1
  have e2 : sg2 = sg := h2
  have e4 : q 5 = nI c := h4
  subst e2
  have h := mX8_append G m q n c sg2 S H sl rd f tr dy kp ik tn x hA.1 hA.2.1 hA.2.2.1 hA.2.2.2.1 h3 h5 h6
  rw [← e1, ← e4] at h
  exact h
theorem rX8_clearText {G : gG} (m : Nat → Nat) {w : gRu} {A : gA} {bd : Nat} (hA0 : gAok bd A) (hb : bd ≤ 50000) (hR : gRefI A w)  : CI G yX8_clearText wsX8_clearText 0 0 [.ref (m 0)] (wR G m w) (gRefP (fClear A)) (fun u : gRu => wR G m u) 0 0 := by
  have hA := gAok_mono hA0 hb
  obtain ⟨⟨n, sg⟩, S, ⟨c, H⟩, sl⟩ := A
  obtain ⟨q, sg2, rd, f, tr, dy, kp, ik, tn⟩ := w
  obtain ⟨h1, h2, h3, h4, h5, h6⟩ := hR
  have e1 : q 1 = nI n := h1
  have e2 : sg2 = sg := h2
  have e4 : q 5 = nI c := h4
  subst e2
  have h := mX8_clearText G m q n c sg2 S H sl rd f tr dy kp ik tn  hA.1 hA.2.1 hA.2.2.1 hA.2.2.2.1 h3 h5 h6
  rw [← e1, ← e4] at h
  exact h
theorem rX8_errorPosition {G : gG} (m : Nat → Nat) {w : gRu} {A : gA} {bd : Nat} (hA0 : gAok bd A) (hb : bd ≤ 50000) (hR : gRefI A w)  : CI G yX8_errorPosition wsX8_errorPosition 11 253 [.ref (m 0)] (wR G m w) (gRefP (fError A)) (fun u : gRu => wR G m u) 0 0 := by
  have hA := gAok_mono hA0 hb
  obtain ⟨⟨n, sg⟩, S, ⟨c, H⟩, sl⟩ := A
  obtain ⟨q, sg2, rd, f, tr, dy, kp, ik, tn⟩ := w
  obtain ⟨h1, h2, h3, h4, h5, h6⟩ := hR
  have e1 : q 1 = nI n := h1
  have e2 : sg2 = sg := h2
  have e4 : q 5 = nI c := h4
  subst e2
  have h := mX8_errorPosition G m q n c sg2 S H sl rd f tr dy kp ik tn  hA.1 hA.2.1 hA.2.2.1 hA.2.2.2.1 h3 h5 h6
  rw [← e1, ← e4] at h
  exact h
theorem rX8_load {G : gG} (m : Nat → Nat) {w : gRu} {A : gA} {bd : Nat} (hA0 : gAok bd A) (hb : bd ≤ 50000) (hR : gRefI A w)  : CI G yX8_load wsX8_load 11 253 [.ref (m 0)] (wR G m w) (gRefP (fLoad A)) (fun u : gRu => wR G m u) 0 0 := by
  have hA := gAok_mono hA0 hb
  obtain ⟨⟨n, sg⟩, S, ⟨c, H⟩, sl⟩ := A
  obtain ⟨q, sg2, rd, f, tr, dy, kp, ik, tn⟩ := w
  obtain ⟨h1, h2, h3, h4, h5, h6⟩ := hR
  have e1 : q 1 = nI n := h1
  have e2 : sg2 = sg := h2
  have e4 : q 5 = nI c := h4
  subst e2
  have h := mX8_load G m q n c sg2 S H sl rd f tr dy kp ik tn  hA.1 hA.2.1 hA.2.2.1 hA.2.2.2.1 h3 h5 h6
  rw [← e1, ← e4] at h
  exact h
theorem rX8_about {G : gG} (m : Nat → Nat) {w : gRu} {A : gA} {bd : Nat} (hA0 : gAok bd A) (hb : bd ≤ 50000) (hR : gRefI A w) (x : Int32) : CI G yX8_about wsX8_about 3 65 [.ref (m 0), .int x] (wR G m w) (gRefP (fAbout A x)) (fun u : gRu => wR G m u) 0 0 := by
  have hA := gAok_mono hA0 hb
  obtain ⟨⟨n, sg⟩, S, ⟨c, H⟩, sl⟩ := A
  obtain ⟨q, sg2, rd, f, tr, dy, kp, ik, tn⟩ := w
  obtain ⟨h1, h2, h3, h4, h5, h6⟩ := hR
  have e1 : q 1 = nI n := h1
  have e2 : sg2 = sg := h2
  have e4 : q 5 = nI c := h4
  subst e2
  have h := mX8_about G m q n c sg2 S H sl rd f tr dy kp ik tn x hA.1 hA.2.1 hA.2.2.1 hA.2.2.2.1 h3 h5 h6
  rw [← e1, ← e4] at h
  exact h
theorem rX8_prisoner {G : gG} (m : Nat → Nat) {w : gRu} {A : gA} {bd : Nat} (hA0 : gAok bd A) (hb : bd ≤ 50000) (hR : gRefI A w) (p x : Int32) : CI G yX8_prisoner wsX8_prisoner 2 46 [.ref (m 0), .int p, .int x] (wR G m w) (gRefP (fPris A p x)) (fun u : gRu => wR G m u) 0 0 := by
  have hA := gAok_mono hA0 hb
  obtain ⟨⟨n, sg⟩, S, ⟨c, H⟩, sl⟩ := A
  obtain ⟨q, sg2, rd, f, tr, dy, kp, ik, tn⟩ := w
  obtain ⟨h1, h2, h3, h4, h5, h6⟩ := hR
  have e1 : q 1 = nI n := h1
  have e2 : sg2 = sg := h2
  have e4 : q 5 = nI c := h4
  subst e2
  have h := mX8_prisoner G m q n c sg2 S H sl rd f tr dy kp ik tn p x hA.1 hA.2.1 hA.2.2.1 hA.2.2.2.1 h3 h5 h6
  rw [← e1, ← e4] at h
  exact h
theorem rX8_visitor {G : gG} (m : Nat → Nat) {w : gRu} {A : gA} {bd : Nat} (hA0 : gAok bd A) (hb : bd ≤ 50000) (hR : gRefI A w) (v x : Int32) : CI G yX8_visitor wsX8_visitor 3 66 [.ref (m 0), .int v, .int x] (wR G m w) (gRefP (fVisr A v x)) (fun u : gRu => wR G m u) 0 0 := by
  have hA := gAok_mono hA0 hb
  obtain ⟨⟨n, sg⟩, S, ⟨c, H⟩, sl⟩ := A
  obtain ⟨q, sg2, rd, f, tr, dy, kp, ik, tn⟩ := w
  obtain ⟨h1, h2, h3, h4, h5, h6⟩ := hR
  have e1 : q 1 = nI n := h1
  have e2 : sg2 = sg := h2
  have e4 : q 5 = nI c := h4
  subst e2
  have h := mX8_visitor G m q n c sg2 S H sl rd f tr dy kp ik tn v x hA.1 hA.2.1 hA.2.2.1 hA.2.2.2.1 h3 h5 h6
  rw [← e1, ← e4] at h
  exact h
theorem rX8_booking {G : gG} (m : Nat → Nat) {w : gRu} {A : gA} {bd : Nat} (hA0 : gAok bd A) (hb : bd ≤ 50000) (hR : gRefI A w) (k x : Int32) : CI G yX8_booking wsX8_booking 2 46 [.ref (m 0), .int k, .int x] (wR G m w) (gRefP (fBkng A k x)) (fun u : gRu => wR G m u) 0 0 := by
  have hA := gAok_mono hA0 hb
  obtain ⟨⟨n, sg⟩, S, ⟨c, H⟩, sl⟩ := A
  obtain ⟨q, sg2, rd, f, tr, dy, kp, ik, tn⟩ := w
  obtain ⟨h1, h2, h3, h4, h5, h6⟩ := hR
  have e1 : q 1 = nI n := h1
  have e2 : sg2 = sg := h2
  have e4 : q 5 = nI c := h4
  subst e2
  have h := mX8_booking G m q n c sg2 S H sl rd f tr dy kp ik tn k x hA.1 hA.2.1 hA.2.2.1 hA.2.2.2.1 h3 h5 h6
  rw [← e1, ← e4] at h
  exact h
theorem rX8_line {G : gG} (m : Nat → Nat) {w : gRu} {A : gA} {bd : Nat} (hA0 : gAok bd A) (hb : bd ≤ 50000) (hR : gRefI A w) (k i : Int32) : CI G yX8_line wsX8_line 2 46 [.ref (m 0), .int k, .int i] (wR G m w) (gRefP (fLine A k i)) (fun u : gRu => wR G m u) 0 0 := by
  have hA := gAok_mono hA0 hb
  obtain ⟨⟨n, sg⟩, S, ⟨c, H⟩, sl⟩ := A
  obtain ⟨q, sg2, rd, f, tr, dy, kp, ik, tn⟩ := w
  obtain ⟨h1, h2, h3, h4, h5, h6⟩ := hR
  have e1 : q 1 = nI n := h1
  have e2 : sg2 = sg := h2
  have e4 : q 5 = nI c := h4
  subst e2
  have h := mX8_line G m q n c sg2 S H sl rd f tr dy kp ik tn k i hA.1 hA.2.1 hA.2.2.1 hA.2.2.2.1 h3 h5 h6
  rw [← e1, ← e4] at h
  exact h
theorem rX8_wishAt {G : gG} (m : Nat → Nat) {w : gRu} {A : gA} {bd : Nat} (hA0 : gAok bd A) (hb : bd ≤ 50000) (hR : gRefI A w) (k : Int32) : CI G yX8_wishAt wsX8_wishAt 3 65 [.ref (m 0), .int k] (wR G m w) (gRefP (fWish A k)) (fun u : gRu => wR G m u) 0 0 := by
  have hA := gAok_mono hA0 hb
  obtain ⟨⟨n, sg⟩, S, ⟨c, H⟩, sl⟩ := A
  obtain ⟨q, sg2, rd, f, tr, dy, kp, ik, tn⟩ := w
  obtain ⟨h1, h2, h3, h4, h5, h6⟩ := hR
  have e1 : q 1 = nI n := h1
  have e2 : sg2 = sg := h2
  have e4 : q 5 = nI c := h4
  subst e2
  have h := mX8_wishAt G m q n c sg2 S H sl rd f tr dy kp ik tn k hA.1 hA.2.1 hA.2.2.1 hA.2.2.2.1 h3 h5 h6
  rw [← e1, ← e4] at h
  exact h
theorem rX8_setting {G : gG} (m : Nat → Nat) {w : gRu} {A : gA} {bd : Nat} (hA0 : gAok bd A) (hb : bd ≤ 50000) (hR : gRefI A w) (x : Int32) : CI G yX8_setting wsX8_setting 1 25 [.ref (m 0), .int x] (wR G m w) (gRefP (fSett A x)) (fun u : gRu => wR G m u) 0 0 := by
  have hA := gAok_mono hA0 hb
  obtain ⟨⟨n, sg⟩, S, ⟨c, H⟩, sl⟩ := A
  obtain ⟨q, sg2, rd, f, tr, dy, kp, ik, tn⟩ := w
  obtain ⟨h1, h2, h3, h4, h5, h6⟩ := hR
  have e1 : q 1 = nI n := h1
  have e2 : sg2 = sg := h2
  have e4 : q 5 = nI c := h4
  subst e2
  have h := mX8_setting G m q n c sg2 S H sl rd f tr dy kp ik tn x hA.1 hA.2.1 hA.2.2.1 hA.2.2.2.1 h3 h5 h6
  rw [← e1, ← e4] at h
  exact h
theorem rX8_addPrisoner {G : gG} (m : Nat → Nat) {w : gRu} {A : gA} {bd : Nat} (hA0 : gAok bd A) (hb : bd ≤ 50000) (hR : gRefI A w) (z : Int32) : CI G yX8_addPrisoner wsX8_addPrisoner 2 45 [.ref (m 0), .int z] (wR G m w) (gRefP (aAct 0 1 2 A (gTryAdd (aS A) z))) (fun u : gRu => wR G m u) 0 0 := by
  have hA := gAok_mono hA0 hb
  obtain ⟨⟨n, sg⟩, S, ⟨c, H⟩, sl⟩ := A
  obtain ⟨q, sg2, rd, f, tr, dy, kp, ik, tn⟩ := w
  obtain ⟨h1, h2, h3, h4, h5, h6⟩ := hR
  have e1 : q 1 = nI n := h1
  have e2 : sg2 = sg := h2
  have e4 : q 5 = nI c := h4
  subst e2
  have h := mX8_addPrisoner G m q n c sg2 S H sl rd f tr dy kp ik tn z hA.1 hA.2.1 hA.2.2.1 hA.2.2.2.1 h3 h5 h6
  rw [← e1, ← e4] at h
  exact h
theorem rX8_promote {G : gG} (m : Nat → Nat) {w : gRu} {A : gA} {bd : Nat} (hA0 : gAok bd A) (hb : bd ≤ 50000) (hR : gRefI A w) (p z : Int32) : CI G yX8_promote wsX8_promote 2 46 [.ref (m 0), .int p, .int z] (wR G m w) (gRefP (aAct 1 2 0 A (gTryPromote (aS A) p z))) (fun u : gRu => wR G m u) 0 0 := by
  have hA := gAok_mono hA0 hb
  obtain ⟨⟨n, sg⟩, S, ⟨c, H⟩, sl⟩ := A
  obtain ⟨q, sg2, rd, f, tr, dy, kp, ik, tn⟩ := w
  obtain ⟨h1, h2, h3, h4, h5, h6⟩ := hR
  have e1 : q 1 = nI n := h1
  have e2 : sg2 = sg := h2
  have e4 : q 5 = nI c := h4
  subst e2
  have h := mX8_promote G m q n c sg2 S H sl rd f tr dy kp ik tn p z hA.1 hA.2.1 hA.2.2.1 hA.2.2.2.1 h3 h5 h6
  rw [← e1, ← e4] at h
  exact h
theorem rX8_list {G : gG} (m : Nat → Nat) {w : gRu} {A : gA} {bd : Nat} (hA0 : gAok bd A) (hb : bd ≤ 50000) (hR : gRefI A w) (p v b : Int32) : CI G yX8_list wsX8_list 2 46 [.ref (m 0), .int p, .int v, .int b] (wR G m w) (gRefP (aAct 1 0 0 A (gTryList (aS A) p v b))) (fun u : gRu => wR G m u) 0 0 := by
  have hA := gAok_mono hA0 hb
  obtain ⟨⟨n, sg⟩, S, ⟨c, H⟩, sl⟩ := A
  obtain ⟨q, sg2, rd, f, tr, dy, kp, ik, tn⟩ := w
  obtain ⟨h1, h2, h3, h4, h5, h6⟩ := hR
  have e1 : q 1 = nI n := h1
  have e2 : sg2 = sg := h2
  have e4 : q 5 = nI c := h4
  subst e2
  have h := mX8_list G m q n c sg2 S H sl rd f tr dy kp ik tn p v b hA.1 hA.2.1 hA.2.2.1 hA.2.2.2.1 h3 h5 h6
  rw [← e1, ← e4] at h
  exact h
theorem rX8_keepApart {G : gG} (m : Nat → Nat) {w : gRu} {A : gA} {bd : Nat} (hA0 : gAok bd A) (hb : bd ≤ 50000) (hR : gRefI A w) (p q0 b : Int32) : CI G yX8_keepApart wsX8_keepApart 2 46 [.ref (m 0), .int p, .int q0, .int b] (wR G m w) (gRefP (aAct 1 0 2 A (gTryApart (aS A) p q0 b))) (fun u : gRu => wR G m u) 0 0 := by
  have hA := gAok_mono hA0 hb
  obtain ⟨⟨n, sg⟩, S, ⟨c, H⟩, sl⟩ := A
  obtain ⟨q, sg2, rd, f, tr, dy, kp, ik, tn⟩ := w
  obtain ⟨h1, h2, h3, h4, h5, h6⟩ := hR
  have e1 : q 1 = nI n := h1
  have e2 : sg2 = sg := h2
  have e4 : q 5 = nI c := h4
  subst e2
  have h := mX8_keepApart G m q n c sg2 S H sl rd f tr dy kp ik tn p q0 b hA.1 hA.2.1 hA.2.2.1 hA.2.2.2.1 h3 h5 h6
  rw [← e1, ← e4] at h
  exact h
theorem rX8_book {G : gG} (m : Nat → Nat) {w : gRu} {A : gA} {bd : Nat} (hA0 : gAok bd A) (hb : bd ≤ 50000) (hR : gRefI A w) (p v d h : Int32) : CI G yX8_book wsX8_book 4 95 [.ref (m 0), .int p, .int v, .int d, .int h] (wR G m w) (gRefP (aAct 1 2 3 A (gTryBook (aS A) p v d h))) (fun u : gRu => wR G m u) 0 0 := by
  have hA := gAok_mono hA0 hb
  obtain ⟨⟨n, sg⟩, S, ⟨c, H⟩, sl⟩ := A
  obtain ⟨q, sg2, rd, f, tr, dy, kp, ik, tn⟩ := w
  obtain ⟨h1, h2, h3, h4, h5, h6⟩ := hR
  have e1 : q 1 = nI n := h1
  have e2 : sg2 = sg := h2
  have e4 : q 5 = nI c := h4
  subst e2
  have h := mX8_book G m q n c sg2 S H sl rd f tr dy kp ik tn p v d h hA.1 hA.2.1 hA.2.2.1 hA.2.2.2.1 h3 h5 h6
  rw [← e1, ← e4] at h
  exact h
theorem rX8_cancel {G : gG} (m : Nat → Nat) {w : gRu} {A : gA} {bd : Nat} (hA0 : gAok bd A) (hb : bd ≤ 50000) (hR : gRefI A w) (k : Int32) : CI G yX8_cancel wsX8_cancel 2 47 [.ref (m 0), .int k] (wR G m w) (gRefP (aAct 1 0 0 A (gTryCancel (aS A) k))) (fun u : gRu => wR G m u) 0 0 := by
  have hA := gAok_mono hA0 hb
  obtain ⟨⟨n, sg⟩, S, ⟨c, H⟩, sl⟩ := A
  obtain ⟨q, sg2, rd, f, tr, dy, kp, ik, tn⟩ := w
  obtain ⟨h1, h2, h3, h4, h5, h6⟩ := hR
  have e1 : q 1 = nI n := h1
  have e2 : sg2 = sg := h2
  have e4 : q 5 = nI c := h4
  subst e2
  have h := mX8_cancel G m q n c sg2 S H sl rd f tr dy kp ik tn k hA.1 hA.2.1 hA.2.2.1 hA.2.2.2.1 h3 h5 h6
  rw [← e1, ← e4] at h
  exact h
theorem rX8_late {G : gG} (m : Nat → Nat) {w : gRu} {A : gA} {bd : Nat} (hA0 : gAok bd A) (hb : bd ≤ 50000) (hR : gRefI A w) (k z : Int32) : CI G yX8_late wsX8_late 2 46 [.ref (m 0), .int k, .int z] (wR G m w) (gRefP (aAct 1 2 0 A (gTryLate (aS A) k z))) (fun u : gRu => wR G m u) 0 0 := by
  have hA := gAok_mono hA0 hb
  obtain ⟨⟨n, sg⟩, S, ⟨c, H⟩, sl⟩ := A
  obtain ⟨q, sg2, rd, f, tr, dy, kp, ik, tn⟩ := w
  obtain ⟨h1, h2, h3, h4, h5, h6⟩ := hR
  have e1 : q 1 = nI n := h1
  have e2 : sg2 = sg := h2
  have e4 : q 5 = nI c := h4
  subst e2
  have h := mX8_late G m q n c sg2 S H sl rd f tr dy kp ik tn k z hA.1 hA.2.1 hA.2.2.1 hA.2.2.2.1 h3 h5 h6
  rw [← e1, ← e4] at h
  exact h
theorem rX8_carry {G : gG} (m : Nat → Nat) {w : gRu} {A : gA} {bd : Nat} (hA0 : gAok bd A) (hb : bd ≤ 50000) (hR : gRefI A w) (v b : Int32) : CI G yX8_carry wsX8_carry 2 45 [.ref (m 0), .int v, .int b] (wR G m w) (gRefP (aAct 1 0 0 A (gTryCarry (aS A) v b))) (fun u : gRu => wR G m u) 0 0 := by
  have hA := gAok_mono hA0 hb
  obtain ⟨⟨n, sg⟩, S, ⟨c, H⟩, sl⟩ := A
  obtain ⟨q, sg2, rd, f, tr, dy, kp, ik, tn⟩ := w
  obtain ⟨h1, h2, h3, h4, h5, h6⟩ := hR
  have e1 : q 1 = nI n := h1
  have e2 : sg2 = sg := h2
  have e4 : q 5 = nI c := h4
  subst e2
  have h := mX8_carry G m q n c sg2 S H sl rd f tr dy kp ik tn v b hA.1 hA.2.1 hA.2.2.1 hA.2.2.2.1 h3 h5 h6
  rw [← e1, ← e4] at h
  exact h
theorem rX8_punish {G : gG} (m : Nat → Nat) {w : gRu} {A : gA} {bd : Nat} (hA0 : gAok bd A) (hb : bd ≤ 50000) (hR : gRefI A w) (p z : Int32) : CI G yX8_punish wsX8_punish 2 46 [.ref (m 0), .int p, .int z] (wR G m w) (gRefP (aAct 1 2 0 A (gTryPunish (aS A) p z))) (fun u : gRu => wR G m u) 0 0 := by
  have hA := gAok_mono hA0 hb
  obtain ⟨⟨n, sg⟩, S, ⟨c, H⟩, sl⟩ := A
  obtain ⟨q, sg2, rd, f, tr, dy, kp, ik, tn⟩ := w
  obtain ⟨h1, h2, h3, h4, h5, h6⟩ := hR
  have e1 : q 1 = nI n := h1
  have e2 : sg2 = sg := h2
  have e4 : q 5 = nI c := h4
  subst e2
  have h := mX8_punish G m q n c sg2 S H sl rd f tr dy kp ik tn p z hA.1 hA.2.1 hA.2.2.1 hA.2.2.2.1 h3 h5 h6
  rw [← e1, ← e4] at h
  exact h
theorem rX8_wish {G : gG} (m : Nat → Nat) {w : gRu} {A : gA} {bd : Nat} (hA0 : gAok bd A) (hb : bd ≤ 50000) (hR : gRefI A w) (p v : Int32) : CI G yX8_wish wsX8_wish 3 65 [.ref (m 0), .int p, .int v] (wR G m w) (gRefP (aAct 1 0 2 A (gTryWish (aS A) p v))) (fun u : gRu => wR G m u) 0 0 := by
  have hA := gAok_mono hA0 hb
  obtain ⟨⟨n, sg⟩, S, ⟨c, H⟩, sl⟩ := A
  obtain ⟨q, sg2, rd, f, tr, dy, kp, ik, tn⟩ := w
  obtain ⟨h1, h2, h3, h4, h5, h6⟩ := hR
  have e1 : q 1 = nI n := h1
  have e2 : sg2 = sg := h2
  have e4 : q 5 = nI c := h4
  subst e2
  have h := mX8_wish G m q n c sg2 S H sl rd f tr dy kp ik tn p v hA.1 hA.2.1 hA.2.2.1 hA.2.2.2.1 h3 h5 h6
  rw [← e1, ← e4] at h
  exact h
theorem rX8_run {G : gG} (m : Nat → Nat) {w : gRu} {A : gA} {bd : Nat} (hA0 : gAok bd A) (hb : bd ≤ 50000) (hR : gRefI A w) (z : Int32) : CI G yX8_run wsX8_run 8 190 [.ref (m 0), .int z] (wR G m w) (gRefP (fRun A z)) (fun u : gRu => wR G m u) 0 0 := by
  have hA := gAok_mono hA0 hb
  obtain ⟨⟨n, sg⟩, S, ⟨c, H⟩, sl⟩ := A
  obtain ⟨q, sg2, rd, f, tr, dy, kp, ik, tn⟩ := w
  obtain ⟨h1, h2, h3, h4, h5, h6⟩ := hR
  have e1 : q 1 = nI n := h1
  have e2 : sg2 = sg := h2
  have e4 : q 5 = nI c := h4
  subst e2
  have h := mX8_run G m q n c sg2 S H sl rd f tr dy kp ik tn z hA.1 hA.2.1 hA.2.2.1 hA.2.2.2.1 h3 h5 h6
  rw [← e1, ← e4] at h
  exact h
theorem rX8_set {G : gG} (m : Nat → Nat) {w : gRu} {A : gA} {bd : Nat} (hA0 : gAok bd A) (hb : bd ≤ 50000) (hR : gRefI A w) (x y : Int32) : CI G yX8_set wsX8_set 2 47 [.ref (m 0), .int x, .int y] (wR G m w) (gRefP (aAct 0 1 0 A (gTrySet (aS A) x y))) (fun u : gRu => wR G m u) 0 0 := by
  have hA := gAok_mono hA0 hb
  obtain ⟨⟨n, sg⟩, S, ⟨c, H⟩, sl⟩ := A
  obtain ⟨q, sg2, rd, f, tr, dy, kp, ik, tn⟩ := w
  obtain ⟨h1, h2, h3, h4, h5, h6⟩ := hR
  have e1 : q 1 = nI n := h1
  have e2 : sg2 = sg := h2
  have e4 : q 5 = nI c := h4
  subst e2
  have h := mX8_set G m q n c sg2 S H sl rd f tr dy kp ik tn x y hA.1 hA.2.1 hA.2.2.1 hA.2.2.2.1 h3 h5 h6
  rw [← e1, ← e4] at h
  exact h
theorem rX8_undo {G : gG} (m : Nat → Nat) {w : gRu} {A : gA} {bd : Nat} (hA0 : gAok bd A) (hb : bd ≤ 50000) (hR : gRefI A w)  : CI G yX8_undo wsX8_undo 1 25 [.ref (m 0)] (wR G m w) (gRefP (fUndo A)) (fun u : gRu => wR G m u) 0 0 := by
  have hA := gAok_mono hA0 hb
  obtain ⟨⟨n, sg⟩, S, ⟨c, H⟩, sl⟩ := A
  obtain ⟨q, sg2, rd, f, tr, dy, kp, ik, tn⟩ := w
  obtain ⟨h1, h2, h3, h4, h5, h6⟩ := hR
  have e1 : q 1 = nI n := h1
  have e2 : sg2 = sg := h2
  have e4 : q 5 = nI c := h4
  subst e2
  have h := mX8_undo G m q n c sg2 S H sl rd f tr dy kp ik tn  hA.1 hA.2.1 hA.2.2.1 hA.2.2.2.1 h3 h5 h6
  rw [← e1, ← e4] at h
  exact h
theorem rX8_whyNot {G : gG} (m : Nat → Nat) {w : gRu} {A : gA} {bd : Nat} (hA0 : gAok bd A) (hb : bd ≤ 50000) (hR : gRefI A w) (p v d h : Int32) : CI G yX8_whyNot wsX8_whyNot 4 94 [.ref (m 0), .int p, .int v, .int d, .int h] (wR G m w) (gRefP (fWhy A p v d h)) (fun u : gRu => wR G m u) 0 0 := by
  have hA := gAok_mono hA0 hb
  obtain ⟨⟨n, sg⟩, S, ⟨c, H⟩, sl⟩ := A
  obtain ⟨q, sg2, rd, f, tr, dy, kp, ik, tn⟩ := w
  obtain ⟨h1, h2, h3, h4, h5, h6⟩ := hR
  have e1 : q 1 = nI n := h1
  have e2 : sg2 = sg := h2
  have e4 : q 5 = nI c := h4
  subst e2
  have h := mX8_whyNot G m q n c sg2 S H sl rd f tr dy kp ik tn p v d h hA.1 hA.2.1 hA.2.2.1 hA.2.2.2.1 h3 h5 h6
  rw [← e1, ← e4] at h
  exact h
theorem rX8_firstTime {G : gG} (m : Nat → Nat) {w : gRu} {A : gA} {bd : Nat} (hA0 : gAok bd A) (hb : bd ≤ 50000) (hR : gRefI A w) (p v : Int32) : CI G yX8_firstTime wsX8_firstTime 5 119 [.ref (m 0), .int p, .int v] (wR G m w) (gRefP (fFirst A p v)) (fun u : gRu => wR G m u) 0 0 := by
  have hA := gAok_mono hA0 hb
  obtain ⟨⟨n, sg⟩, S, ⟨c, H⟩, sl⟩ := A
  obtain ⟨q, sg2, rd, f, tr, dy, kp, ik, tn⟩ := w
  obtain ⟨h1, h2, h3, h4, h5, h6⟩ := hR
  have e1 : q 1 = nI n := h1
  have e2 : sg2 = sg := h2
  have e4 : q 5 = nI c := h4
  subst e2
  have h := mX8_firstTime G m q n c sg2 S H sl rd f tr dy kp ik tn p v hA.1 hA.2.1 hA.2.2.1 hA.2.2.2.1 h3 h5 h6
  rw [← e1, ← e4] at h
  exact h
theorem rX8_coming {G : gG} (m : Nat → Nat) {w : gRu} {A : gA} {bd : Nat} (hA0 : gAok bd A) (hb : bd ≤ 50000) (hR : gRefI A w) (z y : Int32) : CI G yX8_coming wsX8_coming 8 190 [.ref (m 0), .int z, .int y] (wR G m w) (gRefP (fComing A z y)) (fun u : gRu => wR G m u) 0 0 := by
  have hA := gAok_mono hA0 hb
  obtain ⟨⟨n, sg⟩, S, ⟨c, H⟩, sl⟩ := A
  obtain ⟨q, sg2, rd, f, tr, dy, kp, ik, tn⟩ := w
  obtain ⟨h1, h2, h3, h4, h5, h6⟩ := hR
  have e1 : q 1 = nI n := h1
  have e2 : sg2 = sg := h2
  have e4 : q 5 = nI c := h4
  subst e2
  have h := mX8_coming G m q n c sg2 S H sl rd f tr dy kp ik tn z y hA.1 hA.2.1 hA.2.2.1 hA.2.2.2.1 h3 h5 h6
  rw [← e1, ← e4] at h
  exact h
theorem rX8_becomes {G : gG} (m : Nat → Nat) {w : gRu} {A : gA} {bd : Nat} (hA0 : gAok bd A) (hb : bd ≤ 50000) (hR : gRefI A w) (k0 : Int32) : CI G yX8_becomes wsX8_becomes 7 166 [.ref (m 0), .int k0] (wR G m w) (gRefP (fBecomes A k0)) (fun u : gRu => wR G m u) 0 0 := by
  have hA := gAok_mono hA0 hb
  obtain ⟨⟨n, sg⟩, S, ⟨c, H⟩, sl⟩ := A
  obtain ⟨q, sg2, rd, f, tr, dy, kp, ik, tn⟩ := w
  obtain ⟨h1, h2, h3, h4, h5, h6⟩ := hR
  have e1 : q 1 = nI n := h1
  have e2 : sg2 = sg := h2
  have e4 : q 5 = nI c := h4
  subst e2
  have h := mX8_becomes G m q n c sg2 S H sl rd f tr dy kp ik tn k0 hA.1 hA.2.1 hA.2.2.1 hA.2.2.2.1 h3 h5 h6
  rw [← e1, ← e4] at h
  exact h
theorem rX8_runScript {G : gG} (m : Nat → Nat) {w : gRu} {A : gA} {bd : Nat} (hA0 : gAok bd A) (hb : bd ≤ 50000) (hR : gRefI A w) (n0 : Int32) (x : Int64) : CI G yX8_runScript wsX8_runScript 10 239 [.ref (m 0), .int n0, .long x] (wR G m w) (gRefP (fScript A n0 x)) (fun u : gRu => wR G m u) 0 0 := by
  have hA := gAok_mono hA0 hb
  obtain ⟨⟨n, sg⟩, S, ⟨c, H⟩, sl⟩ := A
  obtain ⟨q, sg2, rd, f, tr, dy, kp, ik, tn⟩ := w
  obtain ⟨h1, h2, h3, h4, h5, h6⟩ := hR
  have e1 : q 1 = nI n := h1
  have e2 : sg2 = sg := h2
  have e4 : q 5 = nI c := h4
  subst e2
  have h := mX8_runScript G m q n c sg2 S H sl rd f tr dy kp ik tn n0 x hA.1 hA.2.1 hA.2.2.1 hA.2.2.2.1 h3 h5 h6
  rw [← e1, ← e4] at h
  exact h
theorem rX8_simulate {G : gG} (m : Nat → Nat) {w : gRu} {A : gA} {bd : Nat} (hA0 : gAok bd A) (hb : bd ≤ 50000) (hR : gRefI A w) (x : Int64) (n0 : Int32) : CI G yX8_simulate wsX8_simulate 9 215 [.ref (m 0), .long x, .int n0] (wR G m w) (gRefP (fSim A x n0)) (fun u : gRu => wR G m u) 0 0 := by
  have hA := gAok_mono hA0 hb
  obtain ⟨⟨n, sg⟩, S, ⟨c, H⟩, sl⟩ := A
  obtain ⟨q, sg2, rd, f, tr, dy, kp, ik, tn⟩ := w
  obtain ⟨h1, h2, h3, h4, h5, h6⟩ := hR
  have e1 : q 1 = nI n := h1
  have e2 : sg2 = sg := h2
  have e4 : q 5 = nI c := h4
  subst e2
  have h := mX8_simulate G m q n c sg2 S H sl rd f tr dy kp ik tn x n0 hA.1 hA.2.1 hA.2.2.1 hA.2.2.2.1 h3 h5 h6
  rw [← e1, ← e4] at h
  exact h
theorem rX8_save {G : gG} (m : Nat → Nat) {w : gRu} {A : gA} {bd : Nat} (hA0 : gAok bd A) (hb : bd ≤ 50000) (hR : gRefI A w) (z : Int32) : CI G yX8_save wsX8_save 1 25 [.ref (m 0), .int z] (wR G m w) (gRefP (fSave A z)) (fun u : gRu => wR G m u) 0 0 := by
  have hA := gAok_mono hA0 hb
  obtain ⟨⟨n, sg⟩, S, ⟨c, H⟩, sl⟩ := A
  obtain ⟨q, sg2, rd, f, tr, dy, kp, ik, tn⟩ := w
  obtain ⟨h1, h2, h3, h4, h5, h6⟩ := hR
  have e1 : q 1 = nI n := h1
  have e2 : sg2 = sg := h2
  have e4 : q 5 = nI c := h4
  subst e2
  have h := mX8_save G m q n c sg2 S H sl rd f tr dy kp ik tn z hA.1 hA.2.1 hA.2.2.1 hA.2.2.2.1 h3 h5 h6 hA.2.2.2.2
  rw [← e1, ← e4] at h
  exact h
theorem rX8_restore {G : gG} (m : Nat → Nat) {w : gRu} {A : gA} {bd : Nat} (hA0 : gAok bd A) (hb : bd ≤ 50000) (hR : gRefI A w) (z : Int32) : CI G yX8_restore wsX8_restore 1 25 [.ref (m 0), .int z] (wR G m w) (gRefP (fRest A z)) (fun u : gRu => wR G m u) 0 0 := by
  have hA := gAok_mono hA0 hb
  obtain ⟨⟨n, sg⟩, S, ⟨c, H⟩, sl⟩ := A
  obtain ⟨q, sg2, rd, f, tr, dy, kp, ik, tn⟩ := w
  obtain ⟨h1, h2, h3, h4, h5, h6⟩ := hR
  have e1 : q 1 = nI n := h1
  have e2 : sg2 = sg := h2
  have e4 : q 5 = nI c := h4
  subst e2
  have h := mX8_restore G m q n c sg2 S H sl rd f tr dy kp ik tn z hA.1 hA.2.1 hA.2.2.1 hA.2.2.2.1 h3 h5 h6 hA.2.2.2.2
  rw [← e1, ← e4] at h
  exact h
