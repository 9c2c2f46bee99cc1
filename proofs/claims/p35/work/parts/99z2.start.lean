/-! ===== what the launch gives: texts, static rows ===== -/
theorem gLen_lt {args : Array Value} {s : State} {t : Term} {v : Value} (h : (Term.length t).eval args s none [] s = some v) :
    ∃ a cell, t.eval args s none [] s = some (.ref a) ∧ s.arrayAt? a = some cell ∧ v = .int cell.slots.size.toInt32 ∧ cell.slots.size < 2147483648 := by
  simp only [Term.eval, Option.bind_eq_bind] at h
  cases ht : t.eval args s none [] s with
  | none => simp [ht] at h
  | some x =>
    cases x <;> simp [ht] at h
    case ref a =>
      obtain ⟨cell, hcell, h⟩ := Option.bind_eq_some_iff.mp h
      by_cases hn : cell.slots.size < 2147483648
      · rw [if_pos hn] at h
        cases h
        exact ⟨a, cell, rfl, hcell, rfl, hn⟩
      · rw [if_neg hn] at h
        cases h
abbrev zTm (q : String × Nat × String × List Int32) : Term := .field (.string q.1 q.2.1) "java/lang/String" "value" "[B"
abbrev zSt (q : String × Nat × String × List Int32) : List Cond := [.exactly (.string q.1 q.2.1) "java/lang/String", .eq (.field (.string q.1 q.2.1) "java/lang/String" "coder" "B") (.int 0), .arrayOf (zTm q) .byte, .eq (.length (zTm q)) (.int (Int32.ofNat q.2.2.2.length))] ++ (List.range q.2.2.2.length).map (fun j => .eq (.elem (zTm q) (.int (Int32.ofNat j))) (.int (q.2.2.2.getD j 0)))
abbrev zTs (q : String × String × String × FieldType × List Int32) : Term := .static q.1 q.2.1 q.2.2.1
abbrev zAr (q : String × String × String × FieldType × List Int32) : List Cond := [.isRef (zTs q), .arrayOf (zTs q) q.2.2.2.1, .eq (.length (zTs q)) (.int (Int32.ofNat q.2.2.2.2.length))] ++ (List.range q.2.2.2.2.length).map (fun j => .eq (.elem (zTs q) (.int (Int32.ofNat j))) (.int (q.2.2.2.2.getD j 0)))
set_option maxRecDepth 100000 in
theorem zS_flat : gStr.all (fun q => [272, 279, 286, 294, 302, 309, 316, 321, 327, 335, 340, 960, 987, 345, 420, 458, 478, 496, 515, 533, 552, 608, 633, 639, 570, 439, 645, 685, 720, 740, 1007, 764, 795, 818, 842, 870, 897, 935, 373, 394].any (fun p => decide (((flatC narrow_1).drop p).take (zSt q).length = zSt q))) = true := by decide +kernel
set_option maxRecDepth 100000 in
theorem zA_flat : gArr.all (fun q => [2, 224, 233, 18, 121].any (fun p => decide (((flatC narrow_1).drop p).take (zAr q).length = zAr q))) = true := by decide +kernel
theorem zS_mem : ∀ q ∈ gStr, ∀ c ∈ zSt q, c ∈ flatC narrow_1 := by
  intro q hq c hc
  obtain ⟨p, -, hp⟩ := List.any_eq_true.mp (List.all_eq_true.mp zS_flat q hq)
  rw [← of_decide_eq_true hp] at hc
  exact List.mem_of_mem_drop (List.mem_of_mem_take hc)
theorem zA_mem : ∀ q ∈ gArr, ∀ c ∈ zAr q, c ∈ flatC narrow_1 := by
  intro q hq c hc
  obtain ⟨p, -, hp⟩ := List.any_eq_true.mp (List.all_eq_true.mp zA_flat q hq)
  rw [← of_decide_eq_true hp] at hc
  exact List.mem_of_mem_drop (List.mem_of_mem_take hc)
set_option maxRecDepth 100000 in
theorem zS_ref : ∀ q ∈ gStr, Cond.stringRef q.1 q.2.1 q.2.2.1 ∈ lw_tbl := by decide +kernel
set_option maxRecDepth 100000 in
theorem zA_lays : ∀ q ∈ gArr, Cond.laysStatic q.1 q.2.1 q.2.2.1 ∈ lw_tbl ∧ Cond.initialized q.1 ∈ lw_tbl := by decide +kernel
theorem zS_len : ∀ q ∈ gStr, q.2.2.2.length < 2 ^ 31 := by decide +kernel
theorem zA_len : ∀ q ∈ gArr, q.2.2.2.2.length < 2 ^ 31 := by decide +kernel
section
variable {args : Array Value} {s : State} {A : Nat → Prop}
theorem zS_one (hts : ∀ w ∈ lw_tbl, w.before args s = true) (hs : ∀ c ∈ flatC narrow_1, c.before args s = true) (hA : ∀ a : Nat, a < s.heap.size → ¬ A a) (q : String × Nat × String × List Int32) (hq : q ∈ gStr) :
    ∃ av : Nat × Nat, vk_R q.1 q.2.1 q.2.2.1 av.1 s ∧ va_O "java/lang/String" av.1 A s s.heap ∧ va_OF "java/lang/String" "coder" "B" (.int 0) av.1 A s s.heap ∧ va_OF "java/lang/String" "value" "[B" (.ref av.2) av.1 A s s.heap ∧ va_T .byte av.2 q.2.2.2.length (fun j => .int (q.2.2.2.getD j 0)) A s s.heap := by
  have hz : ∀ c ∈ zSt q, c.before args s = true := fun c hc => hs c (zS_mem q hq c hc)
  obtain ⟨a, c, cA, kA, q1, q2, q3, q4, q5, q6, -⟩ := Cond.exactly_spec (args := args) (first := s) (o := none) (s := s) (idx := []) (t := .string q.1 q.2.1) (cls := "java/lang/String") (hz (.exactly (.string q.1 q.2.1) "java/lang/String") (List.mem_append_left _ List.mem_cons_self))
  obtain ⟨t, ht, hT⟩ := va_Tof (f := fun j => .int (q.2.2.2.getD j 0)) (A := A) (zS_len q hq) (hz (.arrayOf (zTm q) .byte) (List.mem_append_left _ (List.mem_cons_of_mem _ (List.mem_cons_of_mem _ List.mem_cons_self)))) (va_eqt (hz (.eq (.length (zTm q)) (.int (Int32.ofNat q.2.2.2.length))) (List.mem_append_left _ (List.mem_cons_of_mem _ (List.mem_cons_of_mem _ (List.mem_cons_of_mem _ List.mem_cons_self))))))
    (fun j hj => va_eqt (hz (.eq (.elem (zTm q) (.int (Int32.ofNat j))) (.int (q.2.2.2.getD j 0))) (List.mem_append_right _ (List.mem_map.mpr ⟨j, List.mem_range.mpr hj, rfl⟩)))) hA
  exact ⟨(a, t), vk_R.of (hts _ (zS_ref q hq)) q1, ⟨cA, q3, q5, by rw [q6]; exact q2, hA a (Array.getElem?_eq_some_iff.mp q3).1⟩, vk_OFof q1 (va_eqt (hz (.eq (.field (.string q.1 q.2.1) "java/lang/String" "coder" "B") (.int 0)) (List.mem_append_left _ (List.mem_cons_of_mem _ List.mem_cons_self)))) hA, vk_OFof q1 ht hA, hT⟩
theorem zA_one (hts : ∀ w ∈ lw_tbl, w.before args s = true) (hs : ∀ c ∈ flatC narrow_1, c.before args s = true) (hA : ∀ a : Nat, a < s.heap.size → ¬ A a) (q : String × String × String × FieldType × List Int32) (hq : q ∈ gArr) :
    ∃ t : Nat, (zTs q).eval args s none [] s = some (.ref t) ∧ va_Z q.1 q.2.1 q.2.2.1 (.ref t) A s s.heap ∧ va_T q.2.2.2.1 t q.2.2.2.2.length (fun j => .int (q.2.2.2.2.getD j 0)) A s s.heap := by
  have hz : ∀ c ∈ zAr q, c.before args s = true := fun c hc => hs c (zA_mem q hq c hc)
  obtain ⟨t, ht, hT⟩ := va_Tof (f := fun j => .int (q.2.2.2.2.getD j 0)) (A := A) (zA_len q hq) (hz (.arrayOf (zTs q) q.2.2.2.1) (List.mem_append_left _ (List.mem_cons_of_mem _ List.mem_cons_self))) (va_eqt (hz (.eq (.length (zTs q)) (.int (Int32.ofNat q.2.2.2.2.length))) (List.mem_append_left _ (List.mem_cons_of_mem _ (List.mem_cons_of_mem _ List.mem_cons_self)))))
    (fun j hj => va_eqt (hz (.eq (.elem (zTs q) (.int (Int32.ofNat j))) (.int (q.2.2.2.2.getD j 0))) (List.mem_append_right _ (List.mem_map.mpr ⟨j, List.mem_range.mpr hj, rfl⟩)))) hA
  obtain ⟨l1, l2⟩ := zA_lays q hq
  exact ⟨t, ht, va_Zref (hts _ l1) (hts _ l2) ht hA, hT⟩
end
def gFirst : String × String × String × FieldType × List Int32 := ("VisitHours$Prison", "SETTING_FIRST", "[I", .int, [2, 3, 14, 7, 10, 15])
theorem zF_mem : gFirst ∈ gArr := List.mem_cons_self
set_option maxRecDepth 100000 in
theorem zF_ex : Cond.exactly (.static "VisitHours$Prison" "SETTING_FIRST" "[I") "[I" ∈ flatC narrow_1 := by decide +kernel
set_option maxRecDepth 100000 in
theorem zN_1 : (∀ q ∈ gNest, Cond.methodLinkNest q.1 q.2.1 q.2.2.1 q.2.2.2 ∈ lw_tbl) ∧ Cond.castable "[I" "java/lang/Cloneable" ∈ lw_tbl ∧ Cond.arrayOver (.object RX2) ∈ lw_tbl ∧ (∀ q ∈ gDec, Cond.declares (Bundle.initS q) ∈ lw_tbl) ∧ ∀ q ∈ gCas, Cond.castable q q ∈ lw_tbl := by decide +kernel
set_option maxRecDepth 100000 in
theorem zN_2 : ∀ q ∈ gNcs, Cond.not (.castable q.1 q.2) ∈ flatC narrow_1 := by decide +kernel
set_option maxRecDepth 100000 in
theorem zO_1 : Cond.laysStatic "java/lang/String" "COMPACT_STRINGS" "Z" ∈ lw_tbl ∧ Cond.initialized "java/lang/String" ∈ lw_tbl ∧ Cond.laysStatic "jdk/internal/util/Preconditions" "SIOOBE_FORMATTER" "Ljava/util/function/BiFunction;" ∈ lw_tbl ∧ Cond.initialized "jdk/internal/util/Preconditions" ∈ lw_tbl ∧ Cond.laysStatic Bundle.tN "UNASSIGNED_STACK" Bundle.steD ∈ lw_tbl ∧ Cond.laysStatic Bundle.tN "SUPPRESSED_SENTINEL" Bundle.listD ∈ lw_tbl ∧ Cond.initialized Bundle.tN ∈ lw_tbl := by decide +kernel
set_option maxRecDepth 100000 in
theorem zO_2 : Cond.eq (.static "java/lang/String" "COMPACT_STRINGS" "Z") (.int 1) ∈ flatC narrow_1 ∧ Cond.isRef (.static "jdk/internal/util/Preconditions" "SIOOBE_FORMATTER" "Ljava/util/function/BiFunction;") ∈ flatC narrow_1 ∧ Cond.isRef (.static Bundle.tN "UNASSIGNED_STACK" Bundle.steD) ∈ flatC narrow_1 ∧ Cond.isRef (.static Bundle.tN "SUPPRESSED_SENTINEL" Bundle.listD) ∈ flatC narrow_1 := by decide +kernel
theorem gZ_of {args : Array Value} {s : State} {A : Nat → Prop} (hts : ∀ w ∈ lw_tbl, w.before args s = true) (hs : ∀ c ∈ flatC narrow_1, c.before args s = true) (hA : ∀ a : Nat, a < s.heap.size → ¬ A a) : ∃ z : Nat → Nat, gZ z A s s.heap := by
  have hSt : ∀ i : Nat, ∃ av : Nat × Nat, ∀ q, gStr[i]? = some q → vk_R q.1 q.2.1 q.2.2.1 av.1 s ∧ va_O "java/lang/String" av.1 A s s.heap ∧ va_OF "java/lang/String" "coder" "B" (.int 0) av.1 A s s.heap ∧ va_OF "java/lang/String" "value" "[B" (.ref av.2) av.1 A s s.heap ∧ va_T .byte av.2 q.2.2.2.length (fun j => .int (q.2.2.2.getD j 0)) A s s.heap := by
    intro i
    cases hi : gStr[i]? with
    | none => exact ⟨(0, 0), fun q h => by cases h⟩
    | some x =>
      obtain ⟨av, h⟩ := zS_one hts hs hA x (List.mem_of_getElem? hi)
      exact ⟨av, fun q hq => by cases hq; exact h⟩
  have hAr : ∀ i : Nat, ∃ t : Nat, ∀ q, gArr[i]? = some q → (zTs q).eval args s none [] s = some (.ref t) ∧ va_Z q.1 q.2.1 q.2.2.1 (.ref t) A s s.heap ∧ va_T q.2.2.2.1 t q.2.2.2.2.length (fun j => .int (q.2.2.2.2.getD j 0)) A s s.heap := by
    intro i
    cases hi : gArr[i]? with
    | none => exact ⟨0, fun q h => by cases h⟩
    | some x =>
      obtain ⟨t, h⟩ := zA_one hts hs hA x (List.mem_of_getElem? hi)
      exact ⟨t, fun q hq => by cases hq; exact h⟩
  obtain ⟨ad, had⟩ := Classical.axiomOfChoice hSt
  obtain ⟨ar, har⟩ := Classical.axiomOfChoice hAr
  obtain ⟨z, hz⟩ : ∃ z : Nat → Nat, ∀ n, z n = if n < 100 then ar n else if n % 2 = 0 then (ad ((n - 100) / 2)).1 else (ad ((n - 100) / 2)).2 := ⟨_, fun _ => rfl⟩
  have z1 : ∀ i, z (100 + 2 * i) = (ad i).1 := by
    intro i
    rw [hz, if_neg (by omega), if_pos (by omega), show (100 + 2 * i - 100) / 2 = i by omega]
  have z2 : ∀ i, z (101 + 2 * i) = (ad i).2 := by
    intro i
    rw [hz, if_neg (by omega), if_neg (by omega), show (101 + 2 * i - 100) / 2 = i by omega]
  have z3 : ∀ i, i < 100 → z i = ar i := by
    intro i hi
    rw [hz, if_pos hi]
  obtain ⟨n1, n2, n3, n4, n5⟩ := zN_1
  obtain ⟨o1, o2, o3, o4, o5, o6, o7⟩ := zO_1
  obtain ⟨p1, p2, p3, p4⟩ := zO_2
  refine ⟨z, ⟨fun q hq => va_Nw.of rfl (hts _ (n1 q hq)), va_Nw.of rfl (hts _ n2), va_AO.of (hts _ n3), fun q hq => va_Nc.of (hs _ (zN_2 q hq)), fun q hq => va_Nw.of rfl (hts _ (n4 q hq)), fun q hq => va_Nw.of rfl (hts _ (n5 q hq))⟩, ⟨va_Zof (hts _ o1) (hts _ o2) (va_eqt (hs _ p1)) hA, va_Zqof (hts _ o3) (hts _ o4) (hs _ p2) hA, vx_Zqof (hts _ o5) (hts _ o7) (hs _ p3) hA, vx_Zqof (hts _ o6) (hts _ o7) (hs _ p4) hA, ?_⟩, fun i q hq => ?_, fun i q hq => ?_⟩
  · obtain ⟨ht, -, cell, h1, h2, h3, h4, h5, h6, h7⟩ := har 0 gFirst rfl
    unfold gCl
    rw [z3 0 (by omega)]
    obtain ⟨a, c, cA, kA, q1, q2, q3, q4, q5, q6, -⟩ := Cond.exactly_spec (args := args) (first := s) (o := none) (s := s) (idx := []) (t := zTs gFirst) (cls := "[I") (hs _ zF_ex)
    cases ht.symm.trans q1
    cases h1.symm.trans q3
    obtain ⟨a2, c2, e1, e2, e3, e4⟩ := gLen_lt (va_eqt (hs (.eq (.length (zTs gFirst)) (.int (Int32.ofNat 6))) (zA_mem gFirst zF_mem _ (List.mem_append_left _ (List.mem_cons_of_mem _ (List.mem_cons_of_mem _ List.mem_cons_self))))))
    cases ht.symm.trans e1
    obtain ⟨g1, -, -, -⟩ := State.arrayAt?_spec e2
    cases h1.symm.trans g1
    have hsz : cell.slots.size = 6 := by
      have e5 := Value.int.inj e3
      have e6 := congrArg Int32.toNatClampNeg e5
      rw [show Int32.ofNat 6 = nI 6 from rfl, nI_clamp (by omega), show cell.slots.size.toInt32 = nI cell.slots.size from rfl, nI_clamp (by omega)] at e6
      exact e6.symm
    refine ⟨cell, h1, fun k hk => ?_, h3, by rw [q6]; exact q2, ?_, h7⟩
    · rw [hk] at q5
      exact absurd q5 (by simp [VmData.isStatics])
    · apply Array.ext_getElem?
      intro j
      by_cases hj : j < 6
      · exact (h6 j hj).trans (arrV_read cell.cls (fun j => Value.int (([2, 3, 14, 7, 10, 15] : List Int32).getD j 0)) hj).symm
      · exact (Array.getElem?_eq_none (by omega)).trans (Array.getElem?_eq_none (by rw [arrV_size]; omega)).symm
  · have hi : i < 5 := by
      have := (List.getElem?_eq_some_iff.mp hq).1
      exact this
    rw [z3 i (by omega)]
    exact (har i q hq).2
  · rw [z1, z2]
    exact had i q hq
