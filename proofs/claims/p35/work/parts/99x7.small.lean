theorem g_lshr {V : gV} {G : gG} {cc : ByteArray} {nL : Nat} {own : String} {Ts : List Cond} {rm : Room} {cells slots : Nat} {ws : va_W} {lv : List (Nat × Value)} {pc : Nat} {rest : List Value} (E : gE V G cc nL own Ts rm) {x v : Int64} {y : Int32} (d : decode cc pc = .ok (.lshr, 1)) (hv : x >>> (y.toInt64 &&& 63) = v) (k : gW V nL cells slots ws lv (pc + 1) (.long v :: rest)) : gW V nL cells slots ws lv pc (.int y :: .long x :: rest) := fun H locs ls hP hD hS hl => lv_lshr E.x E.b d hv (k H locs ls hP hD hS hl)
theorem gIt_0 (g : Nat → Int64) (v : Int64) : gIt g 0 v = v := rfl
theorem gIt_s (g : Nat → Int64) (n : Nat) (v : Int64) : gIt g (n + 1) v = 31 * gIt g n v + g n := rfl
set_option maxHeartbeats 4000000 in
set_option maxRecDepth 100000 in
theorem mL_now {G : gG} {b : Nat} (hST : (gl G).stackTraces = false) (hb : b ≤ 50000) {x : gVa} {u : gVu} {A : gA} (hA : gAok b A) (hX : gX5 A) (hC : gClsI A u)   : CL G yL_now wsL_now 8 155 [.ref (x.1 0)] (wV G x u) (fun (r : Int64) (w : gVu) => r = gNow (aS A) ∧ gClsI A w) (fun w : gVu => wV G x w) 300 1800 := by
  refine g_enterL RL rfl (by decide) rfl (Nat.le_of_ble_eq_true rfl) ?_
  intro V E RET
  have h8 : sN (aS A) 1 ≤ 8 := hA.2.1.1.1.1.1
  have hn24 : (sB (aS A)).length ≤ 24 := hA.2.1.1.1.1.2.1
  have hT : sN (aS A) 0 ≤ b := hA.2.1.2.2
  refine g_ldc2 (v := 179) E kL_now_121 dL_now_0 ?_
  refine g_lstore_n (lv' := [(1, .long 179), (0, .ref (x.1 0))]) E dL_now_3 rfl (by decide) rfl ?_
  refine g_iconst (v := 0) E dL_now_4 (by decide) ?_
  refine g_istore_n (lv' := [(3, .int 0), (1, .long 179), (0, .ref (x.1 0))]) E dL_now_5 rfl (by decide) rfl ?_
  have loop1 : ∀ (n2 : Nat) (ka : Nat) (ua : gVu) (csa : Nat) (ssa : Nat) (va : Int64), (ka ≤ 11) → (gClsI A ua) → (csa ≤ 0 + 1 * ka) → (ssa ≤ 0 + 6 * ka) → (va = gIt (fun k => (gNA (aS A) k).toInt64) ka (179)) → 11 - ka < n2 → gW V 6 csa ssa (wV G x ua) [(0, .ref (x.1 0)), (1, .long va), (3, .int (nI ka))] 6 [] := by
    intro n2
    induction n2 with
    | zero => intro ka ua csa ssa va hka hCa hca hsa hva hm4; exact absurd hm4 (Nat.not_lt_zero _)
    | succ n2 ih3 =>
      intro ka ua csa ssa va hka hCa hca hsa hva hm4
      refine g_iload_n E dL_now_6 rfl 2 rfl ?_
      refine g_bipush (v := 11) E dL_now_7 (by decide) ?_
      refine g_icmp_geN (tgt := 30) (a := ka) (b := 11) E dL_now_9 (by decide) (by omega) (by omega) (fun c5 => ?_) (fun c5 => ?_)
      · skip
        obtain rfl : ka = 11 := by omega
        refine g_iconst (v := 0) E dL_now_30 (by decide) ?_
        refine g_istore_n (lv' := [(3, .int 0), (0, .ref (x.1 0)), (1, .long va)]) E dL_now_31 rfl (by decide) rfl ?_
        have loop6 : ∀ (n7 : Nat) (kb : Nat) (ub : gVu) (csb : Nat) (ssb : Nat) (vb : Int64), (kb ≤ 6) → (gClsI A ub) → (csb ≤ csa + 1 * kb) → (ssb ≤ ssa + 6 * kb) → (vb = gIt (fun k => (nI (sS (aS A) k)).toInt64) kb (gIt (fun k => (gNA (aS A) k).toInt64) 11 179)) → 6 - kb < n7 → gW V 6 csb ssb (wV G x ub) [(0, .ref (x.1 0)), (1, .long vb), (3, .int (nI kb))] 32 [] := by
          intro n7
          induction n7 with
          | zero => intro kb ub csb ssb vb hkb hCb hcb hsb hvb hm9; exact absurd hm9 (Nat.not_lt_zero _)
          | succ n7 ih8 =>
            intro kb ub csb ssb vb hkb hCb hcb hsb hvb hm9
            refine g_iload_n E dL_now_32 rfl 2 rfl ?_
            refine g_bipush (v := 6) E dL_now_33 (by decide) ?_
            refine g_icmp_geN (tgt := 56) (a := kb) (b := 6) E dL_now_35 (by decide) (by omega) (by omega) (fun c10 => ?_) (fun c10 => ?_)
            · skip
              obtain rfl : kb = 6 := by omega
              refine g_aload_n E dL_now_56 rfl 0 rfl ?_
              refine g_iconst (v := 0) E dL_now_57 (by decide) ?_
              refine g_callSWL (As := [.ref (x.1 0), .int 0]) (F := []) E (wL_about (x := x) hST hA hb hCb (0 : Int32)) gL_now_L_about rfl hdL_about ⟨Nat.le_of_ble_eq_true rfl, Nat.le_of_ble_eq_true rfl⟩ gPerm_n rfl rfl ?_ dL_now_58 ⟨by show csb + 1 ≤ 300; omega, by show ssb + 6 ≤ 1800; omega⟩ (fun rq11 uq11 hq11 => ?_)
              · exact Nat.le_of_ble_eq_true rfl
              refine g_perm (ws1 := wV G x uq11) gPerm_n' ?_
              obtain ⟨eq11, hCq11⟩ := hq11
              rw [show fAbout A (0 : Int32) = _ from fAbout_0 (A := A)] at eq11 hCq11
              refine g_topL (y := (nI (sN (aS A) 1)).toInt64) (eq11.trans (gCd_a rfl)) ?_
              refine g_l2i (v := nI (sN (aS A) 1)) E dL_now_61 (gL2I _) ?_
              refine g_istore_n (lv' := [(3, .int (nI (sN (aS A) 1))), (0, .ref (x.1 0)), (1, .long vb)]) E dL_now_62 rfl (by decide) rfl ?_
              refine g_iconst (v := 0) E dL_now_63 (by decide) ?_
              refine g_istore (lv' := [(4, .int 0), (3, .int (nI (sN (aS A) 1))), (0, .ref (x.1 0)), (1, .long vb)]) E dL_now_64 (by decide) rfl ?_
              have loop12 : ∀ (n13 : Nat) (kc : Nat) (uc : gVu) (csc : Nat) (ssc : Nat) (vc : Int64), (kc ≤ 8 * sN (aS A) 1) → (gClsI A uc) → (csc ≤ (csb + 1) + 1 * kc) → (ssc ≤ (ssb + 6) + 6 * kc) → (vc = gIt (fun k => (gNP (aS A) (k / 8) (k % 8)).toInt64) kc (gIt (fun k => (nI (sS (aS A) k)).toInt64) 6 (gIt (fun k => (gNA (aS A) k).toInt64) 11 179))) → 8 * sN (aS A) 1 - kc < n13 → gW V 6 csc ssc (wV G x uc) [(0, .ref (x.1 0)), (1, .long vc), (3, .int (nI (sN (aS A) 1))), (4, .int (nI kc))] 66 [] := by
                intro n13
                induction n13 with
                | zero => intro kc uc csc ssc vc hkc hCc hcc hsc hvc hm15; exact absurd hm15 (Nat.not_lt_zero _)
                | succ n13 ih14 =>
                  intro kc uc csc ssc vc hkc hCc hcc hsc hvc hm15
                  refine g_iload E dL_now_66 3 rfl ?_
                  refine g_bipush (v := 8) E dL_now_68 (by decide) ?_
                  refine g_iload_n E dL_now_70 rfl 2 rfl ?_
                  refine g_imulN (a := 8) (b := sN (aS A) 1) E dL_now_71 ?_
                  refine g_icmp_geN (tgt := 102) (a := kc) (b := 8 * (sN (aS A) 1)) E dL_now_72 (by decide) (by omega) (by omega) (fun c16 => ?_) (fun c16 => ?_)
                  · skip
                    obtain rfl : kc = 8 * sN (aS A) 1 := by omega
                    refine g_iconst (v := 0) E dL_now_102 (by decide) ?_
                    refine g_istore (lv' := [(4, .int 0), (0, .ref (x.1 0)), (1, .long vc), (3, .int (nI (sN (aS A) 1)))]) E dL_now_103 (by decide) rfl ?_
                    have loop17 : ∀ (n18 : Nat) (kd : Nat) (ud : gVu) (csd : Nat) (ssd : Nat) (vd : Int64), (kd ≤ 50) → (gClsI A ud) → (csd ≤ csc + 1 * kd) → (ssd ≤ ssc + 6 * kd) → (vd = gIt (fun k => (gNV (aS A) (k / 5) (k % 5)).toInt64) kd (gIt (fun k => (gNP (aS A) (k / 8) (k % 8)).toInt64) (8 * sN (aS A) 1) (gIt (fun k => (nI (sS (aS A) k)).toInt64) 6 (gIt (fun k => (gNA (aS A) k).toInt64) 11 179)))) → 50 - kd < n18 → gW V 6 csd ssd (wV G x ud) [(0, .ref (x.1 0)), (1, .long vd), (3, .int (nI (sN (aS A) 1))), (4, .int (nI kd))] 105 [] := by
                      intro n18
                      induction n18 with
                      | zero => intro kd ud csd ssd vd hkd hCd hcd hsd hvd hm20; exact absurd hm20 (Nat.not_lt_zero _)
                      | succ n18 ih19 =>
                        intro kd ud csd ssd vd hkd hCd hcd hsd hvd hm20
                        refine g_iload E dL_now_105 3 rfl ?_
                        refine g_bipush (v := 50) E dL_now_107 (by decide) ?_
                        refine g_icmp_geN (tgt := 137) (a := kd) (b := 50) E dL_now_109 (by decide) (by omega) (by omega) (fun c21 => ?_) (fun c21 => ?_)
                        · skip
                          obtain rfl : kd = 50 := by omega
                          refine g_aload_n E dL_now_137 rfl 0 rfl ?_
                          refine g_iconst (v := 2) E dL_now_138 (by decide) ?_
                          refine g_callSWL (As := [.ref (x.1 0), .int 2]) (F := []) E (wL_about (x := x) hST hA hb hCd (2 : Int32)) gL_now_L_about rfl hdL_about ⟨Nat.le_of_ble_eq_true rfl, Nat.le_of_ble_eq_true rfl⟩ gPerm_n rfl rfl ?_ dL_now_139 ⟨by show csd + 1 ≤ 300; omega, by show ssd + 6 ≤ 1800; omega⟩ (fun rq22 uq22 hq22 => ?_)
                          · exact Nat.le_of_ble_eq_true rfl
                          refine g_perm (ws1 := wV G x uq22) gPerm_n' ?_
                          obtain ⟨eq22, hCq22⟩ := hq22
                          rw [show fAbout A (2 : Int32) = _ from fAbout_2 (A := A)] at eq22 hCq22
                          refine g_topL (y := (nI (sB (aS A)).length).toInt64) (eq22.trans (gCd_a rfl)) ?_
                          refine g_l2i (v := nI ((sB (aS A)).length)) E dL_now_142 (gL2I _) ?_
                          refine g_istore (lv' := [(4, .int (nI ((sB (aS A)).length))), (0, .ref (x.1 0)), (1, .long vd), (3, .int (nI (sN (aS A) 1)))]) E dL_now_143 (by decide) rfl ?_
                          refine g_iconst (v := 0) E dL_now_145 (by decide) ?_
                          refine g_istore (lv' := [(5, .int 0), (4, .int (nI ((sB (aS A)).length))), (0, .ref (x.1 0)), (1, .long vd), (3, .int (nI (sN (aS A) 1)))]) E dL_now_146 (by decide) rfl ?_
                          have loop23 : ∀ (n24 : Nat) (ke : Nat) (ue : gVu) (cse : Nat) (sse : Nat) (ve : Int64), (ke ≤ 6 * (sB (aS A)).length) → (gClsI A ue) → (cse ≤ (csd + 1) + 1 * ke) → (sse ≤ (ssd + 6) + 6 * ke) → (ve = gIt (fun k => (nI (bk (sB (aS A)) (k / 6) (k % 6))).toInt64) ke (gIt (fun k => (gNV (aS A) (k / 5) (k % 5)).toInt64) 50 (gIt (fun k => (gNP (aS A) (k / 8) (k % 8)).toInt64) (8 * sN (aS A) 1) (gIt (fun k => (nI (sS (aS A) k)).toInt64) 6 (gIt (fun k => (gNA (aS A) k).toInt64) 11 179))))) → 6 * (sB (aS A)).length - ke < n24 → gW V 6 cse sse (wV G x ue) [(0, .ref (x.1 0)), (1, .long ve), (3, .int (nI (sN (aS A) 1))), (4, .int (nI ((sB (aS A)).length))), (5, .int (nI ke))] 148 [] := by
                            intro n24
                            induction n24 with
                            | zero => intro ke ue cse sse ve hke hCe hce hse hve hm26; exact absurd hm26 (Nat.not_lt_zero _)
                            | succ n24 ih25 =>
                              intro ke ue cse sse ve hke hCe hce hse hve hm26
                              refine g_iload E dL_now_148 4 rfl ?_
                              refine g_bipush (v := 6) E dL_now_150 (by decide) ?_
                              refine g_iload E dL_now_152 3 rfl ?_
                              refine g_imulN (a := 6) (b := (sB (aS A)).length) E dL_now_154 ?_
                              refine g_icmp_geN (tgt := 185) (a := ke) (b := 6 * ((sB (aS A)).length)) E dL_now_155 (by decide) (by omega) (by omega) (fun c27 => ?_) (fun c27 => ?_)
                              · skip
                                obtain rfl : ke = 6 * (sB (aS A)).length := by omega
                                refine g_iconst (v := 0) E dL_now_185 (by decide) ?_
                                refine g_istore (lv' := [(5, .int 0), (0, .ref (x.1 0)), (1, .long ve), (3, .int (nI (sN (aS A) 1))), (4, .int (nI ((sB (aS A)).length)))]) E dL_now_186 (by decide) rfl ?_
                                have loop28 : ∀ (n29 : Nat) (kf : Nat) (uf : gVu) (csf : Nat) (ssf : Nat) (vf : Int64), (kf ≤ 10) → (gClsI A uf) → (csf ≤ cse + 1 * kf) → (ssf ≤ sse + 6 * kf) → (vf = gIt (fun k => (gWv (aS A) k).toInt64) kf (gIt (fun k => (nI (bk (sB (aS A)) (k / 6) (k % 6))).toInt64) (6 * (sB (aS A)).length) (gIt (fun k => (gNV (aS A) (k / 5) (k % 5)).toInt64) 50 (gIt (fun k => (gNP (aS A) (k / 8) (k % 8)).toInt64) (8 * sN (aS A) 1) (gIt (fun k => (nI (sS (aS A) k)).toInt64) 6 (gIt (fun k => (gNA (aS A) k).toInt64) 11 179)))))) → 10 - kf < n29 → gW V 6 csf ssf (wV G x uf) [(0, .ref (x.1 0)), (1, .long vf), (3, .int (nI (sN (aS A) 1))), (4, .int (nI ((sB (aS A)).length))), (5, .int (nI kf))] 188 [] := by
                                  intro n29
                                  induction n29 with
                                  | zero => intro kf uf csf ssf vf hkf hCf hcf hsf hvf hm31; exact absurd hm31 (Nat.not_lt_zero _)
                                  | succ n29 ih30 =>
                                    intro kf uf csf ssf vf hkf hCf hcf hsf hvf hm31
                                    refine g_iload E dL_now_188 4 rfl ?_
                                    refine g_bipush (v := 10) E dL_now_190 (by decide) ?_
                                    refine g_icmp_geN (tgt := 214) (a := kf) (b := 10) E dL_now_192 (by decide) (by omega) (by omega) (fun c32 => ?_) (fun c32 => ?_)
                                    · skip
                                      obtain rfl : kf = 10 := by omega
                                      refine g_lload_n E dL_now_214 rfl 1 rfl ?_
                                      refine g_widen (k := 300) (n := 1800) (by omega) (by omega) ?_
                                      exact RET _ _ _ uf (⟨hvf, hCf⟩) dL_now_215
                                    · skip
                                      refine g_ldc2 (v := 31) E kL_now_123 dL_now_195 ?_
                                      refine g_lload_n E dL_now_198 rfl 1 rfl ?_
                                      refine g_lmul E dL_now_199 ?_
                                      refine g_aload_n E dL_now_200 rfl 0 rfl ?_
                                      refine g_iload E dL_now_201 4 rfl ?_
                                      refine g_callSWL (As := [.ref (x.1 0), .int (nI kf)]) (F := []) E (wL_wishAt (x := x) hST hA hb hCf (nI kf)) gL_now_L_wishAt rfl hdL_wishAt ⟨Nat.le_of_ble_eq_true rfl, Nat.le_of_ble_eq_true rfl⟩ gPerm_n rfl rfl ?_ dL_now_203 ⟨by show csf + 1 ≤ 300; omega, by show ssf + 6 ≤ 1800; omega⟩ (fun rq33 uq33 hq33 => ?_)
                                      · exact Nat.le_of_ble_eq_true rfl
                                      refine g_perm (ws1 := wV G x uq33) gPerm_n' ?_
                                      obtain ⟨eq33, hCq33⟩ := hq33
                                      rw [show fWish A (nI kf) = _ from fWish_in (A := A) (k := kf) rfl (by omega)] at eq33 hCq33
                                      refine g_topL (y := (gWv (aS A) kf).toInt64) (eq33.trans (gCd_a rfl)) ?_
                                      refine g_ladd E dL_now_206 ?_
                                      refine g_lstore_n (lv' := [(1, .long ((31 * vf) + ((gWv (aS A) kf).toInt64))), (0, .ref (x.1 0)), (3, .int (nI (sN (aS A) 1))), (4, .int (nI ((sB (aS A)).length))), (5, .int (nI kf))]) E dL_now_207 rfl (by decide) rfl ?_
                                      refine g_iinc (lv' := [(5, .int (nI (kf + 1))), (1, .long ((31 * vf) + ((gWv (aS A) kf).toInt64))), (0, .ref (x.1 0)), (3, .int (nI (sN (aS A) 1))), (4, .int (nI ((sB (aS A)).length)))]) E dL_now_208 4 rfl (g_inc _ 1 (by decide)) (by decide) rfl ?_
                                      refine g_goto (tgt := 188) E dL_now_211 (by decide) ?_
                                      refine g_lv [2, 1, 3, 4, 0] rfl ?_
                                      exact ih30  (kf + 1) uq33 (csf + 1) (ssf + 6) ((31 * vf) + ((gWv (aS A) kf).toInt64)) (by omega) hCq33 (by omega) (by omega) (by rw [hvf]; exact (gIt_s _ _ _).symm) (by omega)
                                refine g_lv [1, 2, 3, 4, 0] rfl ?_
                                exact loop28 _ 0 ue cse sse ve (Nat.zero_le _) hCe (by omega) (by omega) (hve.trans (gIt_0 _ _).symm) (Nat.lt_succ_self _)
                              · skip
                                refine g_ldc2 (v := 31) E kL_now_123 dL_now_158 ?_
                                refine g_lload_n E dL_now_161 rfl 1 rfl ?_
                                refine g_lmul E dL_now_162 ?_
                                refine g_aload_n E dL_now_163 rfl 0 rfl ?_
                                refine g_iload E dL_now_164 4 rfl ?_
                                refine g_bipush (v := 6) E dL_now_166 (by decide) ?_
                                refine g_idivN (a := ke) (b := 6) E dL_now_168 (by omega) (by omega) (by omega) ?_
                                refine g_iload E dL_now_169 4 rfl ?_
                                refine g_bipush (v := 6) E dL_now_171 (by decide) ?_
                                refine g_iremN (a := ke) (b := 6) E dL_now_173 (by omega) (by omega) (by omega) ?_
                                refine g_callSWL (As := [.ref (x.1 0), .int (nI (ke / 6)), .int (nI (ke % 6))]) (F := []) E (wL_booking (x := x) hST hA hb hCe (nI (ke / 6)) (nI (ke % 6))) gL_now_L_booking rfl hdL_booking ⟨Nat.le_of_ble_eq_true rfl, Nat.le_of_ble_eq_true rfl⟩ gPerm_n rfl rfl ?_ dL_now_174 ⟨by show cse + 1 ≤ 300; omega, by show sse + 6 ≤ 1800; omega⟩ (fun rq34 uq34 hq34 => ?_)
                                · exact Nat.le_of_ble_eq_true rfl
                                refine g_perm (ws1 := wV G x uq34) gPerm_n' ?_
                                obtain ⟨eq34, hCq34⟩ := hq34
                                rw [show fBkng A (nI (ke / 6)) (nI (ke % 6)) = _ from fBkng_in (A := A) (j := ke / 6) (k := ke % 6) (by omega) hn24 rfl (by omega)] at eq34 hCq34
                                refine g_topL (y := (nI (bk (sB (aS A)) (ke / 6) (ke % 6))).toInt64) (eq34.trans (gCd_a rfl)) ?_
                                refine g_ladd E dL_now_177 ?_
                                refine g_lstore_n (lv' := [(1, .long ((31 * ve) + ((nI (bk (sB (aS A)) (ke / 6) (ke % 6))).toInt64))), (0, .ref (x.1 0)), (3, .int (nI (sN (aS A) 1))), (4, .int (nI ((sB (aS A)).length))), (5, .int (nI ke))]) E dL_now_178 rfl (by decide) rfl ?_
                                refine g_iinc (lv' := [(5, .int (nI (ke + 1))), (1, .long ((31 * ve) + ((nI (bk (sB (aS A)) (ke / 6) (ke % 6))).toInt64))), (0, .ref (x.1 0)), (3, .int (nI (sN (aS A) 1))), (4, .int (nI ((sB (aS A)).length)))]) E dL_now_179 4 rfl (g_inc _ 1 (by decide)) (by decide) rfl ?_
                                refine g_goto (tgt := 148) E dL_now_182 (by decide) ?_
                                refine g_lv [2, 1, 3, 4, 0] rfl ?_
                                exact ih25  (ke + 1) uq34 (cse + 1) (sse + 6) ((31 * ve) + ((nI (bk (sB (aS A)) (ke / 6) (ke % 6))).toInt64)) (by omega) hCq34 (by omega) (by omega) (by rw [hve]; exact (gIt_s _ _ _).symm) (by omega)
                          refine g_lv [2, 3, 4, 1, 0] rfl ?_
                          exact loop23 _ 0 uq22 (csd + 1) (ssd + 6) vd (Nat.zero_le _) hCq22 (by omega) (by omega) (hvd.trans (gIt_0 _ _).symm) (Nat.lt_succ_self _)
                        · skip
                          refine g_ldc2 (v := 31) E kL_now_123 dL_now_112 ?_
                          refine g_lload_n E dL_now_115 rfl 1 rfl ?_
                          refine g_lmul E dL_now_116 ?_
                          refine g_aload_n E dL_now_117 rfl 0 rfl ?_
                          refine g_iload E dL_now_118 3 rfl ?_
                          refine g_iconst (v := 5) E dL_now_120 (by decide) ?_
                          refine g_idivN (a := kd) (b := 5) E dL_now_121 (by omega) (by omega) (by omega) ?_
                          refine g_iload E dL_now_122 3 rfl ?_
                          refine g_iconst (v := 5) E dL_now_124 (by decide) ?_
                          refine g_iremN (a := kd) (b := 5) E dL_now_125 (by omega) (by omega) (by omega) ?_
                          refine g_callSWL (As := [.ref (x.1 0), .int (nI (kd / 5)), .int (nI (kd % 5))]) (F := []) E (wL_visitor (x := x) hST hA hb hCd (nI (kd / 5)) (nI (kd % 5))) gL_now_L_visitor rfl hdL_visitor ⟨Nat.le_of_ble_eq_true rfl, Nat.le_of_ble_eq_true rfl⟩ gPerm_n rfl rfl ?_ dL_now_126 ⟨by show csd + 1 ≤ 300; omega, by show ssd + 6 ≤ 1800; omega⟩ (fun rq35 uq35 hq35 => ?_)
                          · exact Nat.le_of_ble_eq_true rfl
                          refine g_perm (ws1 := wV G x uq35) gPerm_n' ?_
                          obtain ⟨eq35, hCq35⟩ := hq35
                          rw [show fVisr A (nI (kd / 5)) (nI (kd % 5)) = _ from fVisr_in (A := A) (v := kd / 5) (k := kd % 5) (by omega) rfl (by omega)] at eq35 hCq35
                          refine g_topL (y := (gNV (aS A) (kd / 5) (kd % 5)).toInt64) (eq35.trans (gCd_a rfl)) ?_
                          refine g_ladd E dL_now_129 ?_
                          refine g_lstore_n (lv' := [(1, .long ((31 * vd) + ((gNV (aS A) (kd / 5) (kd % 5)).toInt64))), (0, .ref (x.1 0)), (3, .int (nI (sN (aS A) 1))), (4, .int (nI kd))]) E dL_now_130 rfl (by decide) rfl ?_
                          refine g_iinc (lv' := [(4, .int (nI (kd + 1))), (1, .long ((31 * vd) + ((gNV (aS A) (kd / 5) (kd % 5)).toInt64))), (0, .ref (x.1 0)), (3, .int (nI (sN (aS A) 1)))]) E dL_now_131 3 rfl (g_inc _ 1 (by decide)) (by decide) rfl ?_
                          refine g_goto (tgt := 105) E dL_now_134 (by decide) ?_
                          refine g_lv [2, 1, 3, 0] rfl ?_
                          exact ih19  (kd + 1) uq35 (csd + 1) (ssd + 6) ((31 * vd) + ((gNV (aS A) (kd / 5) (kd % 5)).toInt64)) (by omega) hCq35 (by omega) (by omega) (by rw [hvd]; exact (gIt_s _ _ _).symm) (by omega)
                    refine g_lv [1, 2, 3, 0] rfl ?_
                    exact loop17 _ 0 uc csc ssc vc (Nat.zero_le _) hCc (by omega) (by omega) (hvc.trans (gIt_0 _ _).symm) (Nat.lt_succ_self _)
                  · skip
                    refine g_ldc2 (v := 31) E kL_now_123 dL_now_75 ?_
                    refine g_lload_n E dL_now_78 rfl 1 rfl ?_
                    refine g_lmul E dL_now_79 ?_
                    refine g_aload_n E dL_now_80 rfl 0 rfl ?_
                    refine g_iload E dL_now_81 3 rfl ?_
                    refine g_bipush (v := 8) E dL_now_83 (by decide) ?_
                    refine g_idivN (a := kc) (b := 8) E dL_now_85 (by omega) (by omega) (by omega) ?_
                    refine g_iload E dL_now_86 3 rfl ?_
                    refine g_bipush (v := 8) E dL_now_88 (by decide) ?_
                    refine g_iremN (a := kc) (b := 8) E dL_now_90 (by omega) (by omega) (by omega) ?_
                    refine g_callSWL (As := [.ref (x.1 0), .int (nI (kc / 8)), .int (nI (kc % 8))]) (F := []) E (wL_prisoner (x := x) hST hA hb hCc (nI (kc / 8)) (nI (kc % 8))) gL_now_L_prisoner rfl hdL_prisoner ⟨Nat.le_of_ble_eq_true rfl, Nat.le_of_ble_eq_true rfl⟩ gPerm_n rfl rfl ?_ dL_now_91 ⟨by show csc + 1 ≤ 300; omega, by show ssc + 6 ≤ 1800; omega⟩ (fun rq36 uq36 hq36 => ?_)
                    · exact Nat.le_of_ble_eq_true rfl
                    refine g_perm (ws1 := wV G x uq36) gPerm_n' ?_
                    obtain ⟨eq36, hCq36⟩ := hq36
                    rw [show fPris A (nI (kc / 8)) (nI (kc % 8)) = _ from fPris_in (A := A) (p := kc / 8) (k := kc % 8) (by omega) h8 rfl (by omega)] at eq36 hCq36
                    refine g_topL (y := (gNP (aS A) (kc / 8) (kc % 8)).toInt64) (eq36.trans (gCd_a rfl)) ?_
                    refine g_ladd E dL_now_94 ?_
                    refine g_lstore_n (lv' := [(1, .long ((31 * vc) + ((gNP (aS A) (kc / 8) (kc % 8)).toInt64))), (0, .ref (x.1 0)), (3, .int (nI (sN (aS A) 1))), (4, .int (nI kc))]) E dL_now_95 rfl (by decide) rfl ?_
                    refine g_iinc (lv' := [(4, .int (nI (kc + 1))), (1, .long ((31 * vc) + ((gNP (aS A) (kc / 8) (kc % 8)).toInt64))), (0, .ref (x.1 0)), (3, .int (nI (sN (aS A) 1)))]) E dL_now_96 3 rfl (g_inc _ 1 (by decide)) (by decide) rfl ?_
                    refine g_goto (tgt := 66) E dL_now_99 (by decide) ?_
                    refine g_lv [2, 1, 3, 0] rfl ?_
                    exact ih14  (kc + 1) uq36 (csc + 1) (ssc + 6) ((31 * vc) + ((gNP (aS A) (kc / 8) (kc % 8)).toInt64)) (by omega) hCq36 (by omega) (by omega) (by rw [hvc]; exact (gIt_s _ _ _).symm) (by omega)
              refine g_lv [2, 3, 1, 0] rfl ?_
              exact loop12 _ 0 uq11 (csb + 1) (ssb + 6) vb (Nat.zero_le _) hCq11 (by omega) (by omega) (hvb.trans (gIt_0 _ _).symm) (Nat.lt_succ_self _)
            · skip
              refine g_ldc2 (v := 31) E kL_now_123 dL_now_38 ?_
              refine g_lload_n E dL_now_41 rfl 1 rfl ?_
              refine g_lmul E dL_now_42 ?_
              refine g_aload_n E dL_now_43 rfl 0 rfl ?_
              refine g_iload_n E dL_now_44 rfl 2 rfl ?_
              refine g_callSWL (As := [.ref (x.1 0), .int (nI kb)]) (F := []) E (wL_setting (x := x) hST hA hb hCb (nI kb)) gL_now_L_setting rfl hdL_setting ⟨Nat.le_of_ble_eq_true rfl, Nat.le_of_ble_eq_true rfl⟩ gPerm_n rfl rfl ?_ dL_now_45 ⟨by show csb + 1 ≤ 300; omega, by show ssb + 6 ≤ 1800; omega⟩ (fun rq37 uq37 hq37 => ?_)
              · exact Nat.le_of_ble_eq_true rfl
              refine g_perm (ws1 := wV G x uq37) gPerm_n' ?_
              obtain ⟨eq37, hCq37⟩ := hq37
              rw [show fSett A (nI kb) = _ from fSett_in (A := A) (k := kb) rfl (by omega)] at eq37 hCq37
              refine g_topL (y := (nI (sS (aS A) kb)).toInt64) (eq37.trans (gCd_a rfl)) ?_
              refine g_ladd E dL_now_48 ?_
              refine g_lstore_n (lv' := [(1, .long ((31 * vb) + ((nI (sS (aS A) kb)).toInt64))), (0, .ref (x.1 0)), (3, .int (nI kb))]) E dL_now_49 rfl (by decide) rfl ?_
              refine g_iinc (lv' := [(3, .int (nI (kb + 1))), (1, .long ((31 * vb) + ((nI (sS (aS A) kb)).toInt64))), (0, .ref (x.1 0))]) E dL_now_50 2 rfl (g_inc _ 1 (by decide)) (by decide) rfl ?_
              refine g_goto (tgt := 32) E dL_now_53 (by decide) ?_
              refine g_lv [2, 1, 0] rfl ?_
              exact ih8  (kb + 1) uq37 (csb + 1) (ssb + 6) ((31 * vb) + ((nI (sS (aS A) kb)).toInt64)) (by omega) hCq37 (by omega) (by omega) (by rw [hvb]; exact (gIt_s _ _ _).symm) (by omega)
        refine g_lv [1, 2, 0] rfl ?_
        exact loop6 _ 0 ua csa ssa va (Nat.zero_le _) hCa (by omega) (by omega) (hva.trans (gIt_0 _ _).symm) (Nat.lt_succ_self _)
      · skip
        refine g_ldc2 (v := 31) E kL_now_123 dL_now_12 ?_
        refine g_lload_n E dL_now_15 rfl 1 rfl ?_
        refine g_lmul E dL_now_16 ?_
        refine g_aload_n E dL_now_17 rfl 0 rfl ?_
        refine g_iload_n E dL_now_18 rfl 2 rfl ?_
        refine g_callSWL (As := [.ref (x.1 0), .int (nI ka)]) (F := []) E (wL_about (x := x) hST hA hb hCa (nI ka)) gL_now_L_about rfl hdL_about ⟨Nat.le_of_ble_eq_true rfl, Nat.le_of_ble_eq_true rfl⟩ gPerm_n rfl rfl ?_ dL_now_19 ⟨by show csa + 1 ≤ 300; omega, by show ssa + 6 ≤ 1800; omega⟩ (fun rq38 uq38 hq38 => ?_)
        · exact Nat.le_of_ble_eq_true rfl
        refine g_perm (ws1 := wV G x uq38) gPerm_n' ?_
        obtain ⟨eq38, hCq38⟩ := hq38
        rw [show fAbout A (nI ka) = _ from fAbout_in (A := A) (k := ka) rfl (by omega)] at eq38 hCq38
        refine g_topL (y := (gNA (aS A) ka).toInt64) (eq38.trans (gCd_a rfl)) ?_
        refine g_ladd E dL_now_22 ?_
        refine g_lstore_n (lv' := [(1, .long ((31 * va) + ((gNA (aS A) ka).toInt64))), (0, .ref (x.1 0)), (3, .int (nI ka))]) E dL_now_23 rfl (by decide) rfl ?_
        refine g_iinc (lv' := [(3, .int (nI (ka + 1))), (1, .long ((31 * va) + ((gNA (aS A) ka).toInt64))), (0, .ref (x.1 0))]) E dL_now_24 2 rfl (g_inc _ 1 (by decide)) (by decide) rfl ?_
        refine g_goto (tgt := 6) E dL_now_27 (by decide) ?_
        refine g_lv [2, 1, 0] rfl ?_
        exact ih3  (ka + 1) uq38 (csa + 1) (ssa + 6) ((31 * va) + ((gNA (aS A) ka).toInt64)) (by omega) hCq38 (by omega) (by omega) (by rw [hva]; exact (gIt_s _ _ _).symm) (by omega)
  refine g_lv [2, 1, 0] rfl ?_
  exact loop1 _ 0 u 0 0 (179 : Int64) (Nat.zero_le _) hC (by omega) (by omega) (gIt_0 _ _).symm (Nat.lt_succ_self _)

set_option maxHeartbeats 4000000 in
set_option maxRecDepth 100000 in
theorem mL_in {G : gG} (v lo hi : Int64)  : CI G yL_in wsL_in 0 0 [.long v, .long lo, .long hi] ([]) (fun (r : Int32) (_ : Unit) => r = if ¬ v < lo ∧ ¬ hi < v then 1 else 0) (fun _ : Unit => []) 0 0 := by
  refine g_enterI (ty := .boolean) RL rfl (by decide) rfl (Nat.le_of_ble_eq_true rfl) ?_
  intro V E RET
  refine g_lload_n E dL_in_0 rfl 0 rfl ?_
  refine g_lload_n E dL_in_1 rfl 1 rfl ?_
  refine g_lcmp E dL_in_2 ?_
  refine g_if_lt (tgt := 17) E dL_in_3 (by decide) (fun c1 => ?_) (fun c1 => ?_)
  · skip
    refine g_iconst (v := 0) E dL_in_17 (by decide) ?_
    refine g_widen (k := 0) (n := 0) (by omega) (by omega) ?_
    exact RET _ _ _ () ((if_neg (fun h => h.1 (gCmp_lt.mp c1))).symm) rfl dL_in_18
  · skip
    refine g_lload_n E dL_in_6 rfl 0 rfl ?_
    refine g_lload E dL_in_7 2 rfl ?_
    refine g_lcmp E dL_in_9 ?_
    refine g_if_gt (tgt := 17) E dL_in_10 (by decide) (fun c2 => ?_) (fun c2 => ?_)
    · skip
      refine g_iconst (v := 0) E dL_in_17 (by decide) ?_
      refine g_widen (k := 0) (n := 0) (by omega) (by omega) ?_
      exact RET _ _ _ () ((if_neg (fun h => h.2 (gCmp_gt.mp c2))).symm) rfl dL_in_18
    · skip
      refine g_iconst (v := 1) E dL_in_13 (by decide) ?_
      refine g_goto (tgt := 18) E dL_in_14 (by decide) ?_
      refine g_widen (k := 0) (n := 0) (by omega) (by omega) ?_
      exact RET _ _ _ () ((if_pos ⟨fun h => c1 (gCmp_lt.mpr h), fun h => c2 (gCmp_gt.mpr h)⟩).symm) rfl dL_in_18

set_option maxHeartbeats 4000000 in
set_option maxRecDepth 100000 in
theorem mL_says {G : gG} {b : Nat} (hST : (gl G).stackTraces = false) (hb : b ≤ 50000) {x : gVa} {u : gVu} {A : gA} (hA : gAok b A) (hX : gX5 A) (hC : gClsI A u) (c : Nat) (hc : c ≤ 255) (hn : aN A < 120) : CI G yL_says wsL_says 8 153 [.ref (x.1 0), .int (nI c)] (wV G x u) (fun (r : Int32) (w : gVu) => r = 1 ∧ gClsI (aPut A c) w) (fun w : gVu => wV G x w) 1 6 := by
  refine g_enterI (ty := .boolean) RL rfl (by decide) rfl (Nat.le_of_ble_eq_true rfl) ?_
  intro V E RET
  refine g_aload_n E dL_says_0 rfl 0 rfl ?_
  refine g_iload_n E dL_says_1 rfl 1 rfl ?_
  refine g_callSWL (As := [.ref (x.1 0), .int (nI c)]) (F := []) E (wL_append (x := x) hST hA hb hC (nI c)) gL_says_L_append rfl hdL_append ⟨Nat.le_of_ble_eq_true rfl, Nat.le_of_ble_eq_true rfl⟩ gPerm_n rfl rfl ?_ dL_says_2 ⟨by show 0 + 1 ≤ 1; omega, by show 0 + 6 ≤ 6; omega⟩ (fun rq1 uq1 hq1 => ?_)
  · exact Nat.le_of_ble_eq_true rfl
  refine g_perm (ws1 := wV G x uq1) gPerm_n' ?_
  obtain ⟨eq1, hCq1⟩ := hq1
  rw [show fAppend A (nI c) = _ from fAppend_in (A := A) hc hn] at eq1 hCq1
  refine g_topL (y := (nI (aN A + 1)).toInt64) (eq1.trans (gCd_a rfl)) ?_
  refine g_lconst (v := 0) E dL_says_5 (by decide) ?_
  refine g_lcmp E dL_says_6 ?_
  refine g_if_le (tgt := 14) E dL_says_7 (by decide) (fun c => absurd c (gSays_no (by omega))) (fun _ => ?_)
  refine g_iconst (v := 1) E dL_says_10 (by decide) ?_
  refine g_goto (tgt := 15) E dL_says_11 (by decide) ?_
  refine g_widen (k := 1) (n := 6) (by omega) (by omega) ?_
  exact RET _ _ _ uq1 (⟨rfl, hCq1⟩) rfl dL_says_15

set_option maxHeartbeats 4000000 in
set_option maxRecDepth 100000 in
theorem mL_digit {G : gG} {b : Nat} (hST : (gl G).stackTraces = false) (hb : b ≤ 9000) {x : gVa} {u : gVu} {A : gA} (hA : gAok b A) (hX : gX5 A) (hC : gClsI A u) (d : Nat) (hd : d ≤ 9) (hn : aN A + 1 < 120) : CI G yL_digit wsL_digit 9 174 [.ref (x.1 0), .int (nI d)] (wV G x u) (fun (r : Int32) (w : gVu) => r = 1 ∧ gClsI (aPut (aPut A 44) (48 + d)) w) (fun w : gVu => wV G x w) 2 12 := by
  refine g_enterI (ty := .boolean) RL rfl (by decide) rfl (Nat.le_of_ble_eq_true rfl) ?_
  intro V E RET
  have hb5 : b ≤ 50000 := by omega
  refine g_aload_n E dL_digit_0 rfl 0 rfl ?_
  refine g_bipush (v := 44) E dL_digit_1 (by decide) ?_
  refine g_callSI (As := [.ref (x.1 0), .int 44]) (F := []) E (mL_says (x := x) hST hb5 hA hX hC 44 (by decide) (by omega)) gL_digit_L_says rfl hdL_says ⟨Nat.le_of_ble_eq_true rfl, Nat.le_of_ble_eq_true rfl⟩ gPerm_n rfl rfl ?_ dL_digit_3 ⟨by show 0 + 1 ≤ 2; omega, by show 0 + 6 ≤ 12; omega⟩ (fun rq1 uq1 hq1 => ?_)
  · exact Nat.le_of_ble_eq_true rfl
  refine g_perm (ws1 := wV G x uq1) gPerm_n' ?_
  obtain ⟨eq1, hCq1⟩ := hq1
  have hAq1 := gAok_put (c := 44) hA (by omega)
  have hXq1 := gX5_put (c := 44) hX
  refine g_top (y := 1) eq1 ?_
  refine g_if_eq (tgt := 24) E dL_digit_6 (by decide) (fun c => absurd c (by decide)) (fun _ => ?_)
  refine g_aload_n E dL_digit_9 rfl 0 rfl ?_
  refine g_bipush (v := 48) E dL_digit_10 (by decide) ?_
  refine g_iload_n E dL_digit_12 rfl 1 rfl ?_
  refine g_iaddN (a := 48) (b := d) E dL_digit_13 ?_
  refine g_callSI (As := [.ref (x.1 0), .int (nI (48 + d))]) (F := []) E (mL_says (x := x) hST hb5 hAq1 hXq1 hCq1 (48 + d) (by omega) (by show aN A + 1 < 120; exact hn)) gL_digit_L_says rfl hdL_says ⟨Nat.le_of_ble_eq_true rfl, Nat.le_of_ble_eq_true rfl⟩ gPerm_n rfl rfl ?_ dL_digit_14 ⟨by show 1 + 1 ≤ 2; omega, by show 6 + 6 ≤ 12; omega⟩ (fun rq2 uq2 hq2 => ?_)
  · exact Nat.le_of_ble_eq_true rfl
  refine g_perm (ws1 := wV G x uq2) gPerm_n' ?_
  obtain ⟨eq2, hCq2⟩ := hq2
  have hAq2 := gAok_put (c := 48 + d) hAq1 (by show aN A + 1 < 120; exact hn)
  have hXq2 := gX5_put (c := 48 + d) hXq1
  refine g_top (y := 1) eq2 ?_
  refine g_if_eq (tgt := 24) E dL_digit_17 (by decide) (fun c => absurd c (by decide)) (fun _ => ?_)
  refine g_iconst (v := 1) E dL_digit_20 (by decide) ?_
  refine g_goto (tgt := 25) E dL_digit_21 (by decide) ?_
  refine g_widen (k := 2) (n := 12) (by omega) (by omega) ?_
  exact RET _ _ _ uq2 (⟨rfl, hCq2⟩) rfl dL_digit_25
