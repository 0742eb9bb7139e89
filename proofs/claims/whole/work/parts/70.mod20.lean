/-! THE MODEL'S MARK TEXT: words, positions, forms -/
theorem sg_no {sg : List Int32} {cu : Nat} (h : sg.length ≤ cu) : sg.getD cu 0 = 0 := by
  rw [List.getD_eq_getElem?_getD, List.getElem?_eq_none h]
  rfl
theorem tyR_C {ty : Nat → Int32} {sg : List Int32} (h : tyR ty sg) : ∀ i : Nat, i < sg.length → cOk (sg.getD i 0) := fun i hi => (h.2 i hi).2
theorem rg_i {n d x : Nat} (hn : n < 1000) (hd : d < 1000) (hx : x < 1000) : nI n - nI d < nI x ↔ ¬ x + d ≤ n := by
  rw [Int32.lt_iff_toInt_lt, pk_sub_toInt (by omega) (by omega), nI_toInt (by omega)]
  omega
def tBad (sg : List Int32) (cu : Nat) : Prop := (tP1 sg cu).1 < 0 ∨ (tP2 sg cu).1 < 0 ∨ (tP3 sg cu).1 < 0 ∨ ¬ sg.getD (tP3 sg cu).2 0 = 59
theorem tP2_0 {sg : List Int32} {cu : Nat} (h : tKind sg cu = 0) : tP2 sg cu = tPos sg (tP1 sg cu).2 := if_pos h
theorem tP2_1 {sg : List Int32} {cu : Nat} (h : ¬ tKind sg cu = 0) : tP2 sg cu = (0, (tP1 sg cu).2) := if_neg h
theorem tP3_0 {sg : List Int32} {cu : Nat} (h1 : ¬ tKind sg cu = 1) (h2 : ¬ tKind sg cu = 2) : tP3 sg cu = (0, (tP2 sg cu).2) := if_pos (if_neg (fun q => q.elim h1 h2))
theorem tP3_1 {sg : List Int32} {cu : Nat} (h : tKind sg cu = 1 ∨ tKind sg cu = 2) : tP3 sg cu = tChr sg (tP2 sg cu).2 := if_neg (by rw [show pTakes (tKind sg cu) = 1 from if_pos h]; decide)
theorem tChr_0 {sg : List Int32} {cu : Nat} (h : ¬ sg.getD cu 0 = 32) : tChr sg cu = (-1, cu) := if_neg h
theorem tChr_1 {sg : List Int32} {cu : Nat} (h : sg.getD cu 0 = 32) (h2 : ¬ cu + 1 < sg.length) : tChr sg cu = (-1, cu + 1) := by
  rw [tChr, if_pos h, if_neg h2]
theorem tChr_2 {sg : List Int32} {cu : Nat} (h : sg.getD cu 0 = 32) (h2 : cu + 1 < sg.length) : tChr sg cu = (sg.getD (cu + 1) 0, cu + 2) := by
  rw [tChr, if_pos h, if_pos h2]
set_option maxRecDepth 20000 in
theorem in_X9_here_X9 : ∀ w ∈ wsX90, w ∈ wsX9_here := by decide +kernel
set_option maxRecDepth 20000 in
theorem fd_X9_here_151 : gFd wsX9_here RX9 151 8 RX9 TX9 11 8 := ⟨in_X9_here_X9, rfl, by decide, by decide +kernel⟩
set_option maxRecDepth 20000 in
theorem fd_X9_here_101 : gFd wsX9_here RX9 101 8 RX9 TX9 11 4 := ⟨in_X9_here_X9, rfl, by decide, by decide +kernel⟩
set_option maxRecDepth 20000 in
theorem fd_X9_here_16 : gFd wsX9_here RX9 16 8 RX9 TX9 11 3 := ⟨in_X9_here_X9, rfl, by decide, by decide +kernel⟩
set_option maxRecDepth 20000 in
theorem in_X9_takes_X9 : ∀ w ∈ wsX90, w ∈ wsX9_takes := by decide +kernel
set_option maxRecDepth 20000 in
theorem fd_X9_takes_151 : gFd wsX9_takes RX9 151 8 RX9 TX9 11 8 := ⟨in_X9_takes_X9, rfl, by decide, by decide +kernel⟩
theorem cb_X9_takes__X9_here : gCb yX9_here cX9_here 1 (some .int) wsX9_here (gR 0) (gR 1) 0 0 0 := ⟨rfl, rfl, rfl, by decide +kernel, by decide⟩
theorem cb_X9_wordHere__X9_spelt : gCb yX9_spelt cX9_spelt 4 (some .int) wsX9_spelt (gR 0) (gR 1) 0 0 4 := ⟨rfl, rfl, rfl, by decide +kernel, by decide⟩
theorem cb_X9_wordHere__X9_here : gCb yX9_here cX9_here 1 (some .int) wsX9_here (gR 0) (gR 1) 0 0 0 := ⟨rfl, rfl, rfl, by decide +kernel, by decide⟩
theorem cb_X9_wordHere__X9_in : gCb yX9_in cX9_in 3 (some .boolean) wsX9_in (gR 0) (gR 1) 0 0 3 := ⟨rfl, rfl, rfl, by decide +kernel, by decide⟩
set_option maxRecDepth 20000 in
theorem in_X9_wordHere_X9 : ∀ w ∈ wsX90, w ∈ wsX9_wordHere := by decide +kernel
set_option maxRecDepth 20000 in
theorem fd_X9_wordHere_151 : gFd wsX9_wordHere RX9 151 8 RX9 TX9 11 8 := ⟨in_X9_wordHere_X9, rfl, by decide, by decide +kernel⟩
theorem cb_X9_takesPosition__X9_here : gCb yX9_here cX9_here 1 (some .int) wsX9_here (gR 0) (gR 2) 0 0 0 := ⟨rfl, rfl, rfl, by decide +kernel, by decide⟩
theorem cb_X9_takesPosition__X9_in : gCb yX9_in cX9_in 3 (some .boolean) wsX9_in (gR 0) (gR 2) 0 0 3 := ⟨rfl, rfl, rfl, by decide +kernel, by decide⟩
set_option maxRecDepth 20000 in
theorem in_X9_takesPosition_X9 : ∀ w ∈ wsX90, w ∈ wsX9_takesPosition := by decide +kernel
set_option maxRecDepth 20000 in
theorem fd_X9_takesPosition_151 : gFd wsX9_takesPosition RX9 151 8 RX9 TX9 11 8 := ⟨in_X9_takesPosition_X9, rfl, by decide, by decide +kernel⟩
theorem cb_X9_takesPosition__X9_takes : gCb yX9_takes cX9_takes 3 (some .boolean) wsX9_takes (gR 1) (gR 2) 0 0 1 := ⟨rfl, rfl, rfl, by decide +kernel, by decide⟩
set_option maxRecDepth 20000 in
theorem in_X9_isFormed_X9 : ∀ w ∈ wsX90, w ∈ wsX9_isFormed := by decide +kernel
set_option maxRecDepth 20000 in
theorem fd_X9_isFormed_22 : gFd wsX9_isFormed RX9 22 8 RX9 TX9 11 9 := ⟨in_X9_isFormed_X9, rfl, by decide, by decide +kernel⟩
theorem cb_X9_isFormed__X9_takes : gCb yX9_takes cX9_takes 3 (some .boolean) wsX9_takes (gR 1) (gR 3) 0 0 1 := ⟨rfl, rfl, rfl, by decide +kernel, by decide⟩
theorem cb_X9_isFormed__X9_here : gCb yX9_here cX9_here 1 (some .int) wsX9_here (gR 0) (gR 3) 0 0 0 := ⟨rfl, rfl, rfl, by decide +kernel, by decide⟩
set_option maxRecDepth 20000 in
theorem fd_X9_isFormed_151 : gFd wsX9_isFormed RX9 151 8 RX9 TX9 11 8 := ⟨in_X9_isFormed_X9, rfl, by decide, by decide +kernel⟩
set_option maxRecDepth 20000 in
theorem fd_X9_isFormed_101 : gFd wsX9_isFormed RX9 101 8 RX9 TX9 11 4 := ⟨in_X9_isFormed_X9, rfl, by decide, by decide +kernel⟩
set_option maxRecDepth 20000 in
theorem fd_X9_isFormed_164 : gFd wsX9_isFormed RX9 164 8 RX9 TX9 11 10 := ⟨in_X9_isFormed_X9, rfl, by decide, by decide +kernel⟩
theorem cb_X9_isFormed__X9_takesPosition : gCb yX9_takesPosition cX9_takesPosition 3 (some .int) wsX9_takesPosition (gR 2) (gR 3) 0 0 0 := ⟨rfl, rfl, rfl, by decide +kernel, by decide⟩
set_option maxRecDepth 20000 in
theorem in_X9_isInRange_X9 : ∀ w ∈ wsX90, w ∈ wsX9_isInRange := by decide +kernel
set_option maxRecDepth 20000 in
theorem fd_X9_isInRange_164 : gFd wsX9_isInRange RX9 164 8 RX9 TX9 11 10 := ⟨in_X9_isInRange_X9, rfl, by decide, by decide +kernel⟩
set_option maxRecDepth 20000 in
theorem fd_X9_isInRange_22 : gFd wsX9_isInRange RX9 22 8 RX9 TX9 11 9 := ⟨in_X9_isInRange_X9, rfl, by decide, by decide +kernel⟩
set_option maxRecDepth 20000 in
theorem fd_X9_isInRange_7 : gFd wsX9_isInRange RX9 7 8 RX9 TX9 11 0 := ⟨in_X9_isInRange_X9, rfl, by decide, by decide +kernel⟩
set_option maxHeartbeats 600000 in
set_option maxRecDepth 100000 in
/-- X9_here -/
theorem k9_here (l : Launch) (D : gD) (A : Nat → Prop) (hs : Nat) {G : gH} {G0 : gH} {a : Nat} {z0 z2 z3 z5 : Int32} {st pa ty md rd : Nat → Int32} {sg : List Int32} {cu : Nat} (hM : gMa D G0 G a (z0, nI sg.length, z2, z3, nI cu, z5) st pa ty md rd) (hT : tyR ty sg) (hcu : cu < 1000) : gM l yX9_here wsX9_here (gR 0) D A hs 0 0 [.ref a] G (gPi fun x G' => x = sg.getD cu 0 ∧ G' = G) := by
  refine gM_intro (by decide) rfl rfl (Nat.le_of_ble_eq_true rfl) ?_
  intro p e s m args below meth c C
  have t8 := hT.1
  refine gx_aload_n C dX9_here_0 rfl ?_
  refine gx_get C fd_X9_here_151 (hG := hM.2.1) (hv := by rfl) dX9_here_1 ?_
  refine gx_aload_n C dX9_here_4 rfl ?_
  refine gx_get C fd_X9_here_101 (hG := hM.2.1) (hv := by rfl) dX9_here_5 ?_
  refine gx_icmp_ge (tgt := 23) C dX9_here_8 (by decide) (fun c_8 => ?_) (fun c_8 => ?_)
  · have hn : sg.length ≤ cu := (nI_leI (by omega) (by omega)).mp c_8
    have e := sg_no hn
    refine gx_iconst (v := 0) C dX9_here_23 (by decide) ?_
    refine gx_zret (mc := 0) C rfl ?_ dX9_here_24
    exact ⟨_, rfl, e.symm, rfl⟩
  · have hj : cu < sg.length := by
      rcases Nat.lt_or_ge (cu) (sg.length) with q | q
      · exact q
      · exact absurd (nI_le q (by omega)) c_8
    have e := (hT.2 cu hj).1.symm
    refine gx_aload_n C dX9_here_11 rfl ?_
    refine gx_get C fd_X9_here_16 (hG := hM.2.1) (hv := by rfl) dX9_here_12 ?_
    refine gx_aload_n C dX9_here_15 rfl ?_
    refine gx_get C fd_X9_here_151 (hG := hM.2.1) (hv := by rfl) dX9_here_16 ?_
    refine gx_ialdN C (hG := (by first | exact hM.2.2.1 | exact hM.2.2.2.1 | exact hM.2.2.2.2.1 | exact hM.2.2.2.2.2.1 | exact hM.2.2.2.2.2.2)) (hk := by omega) (hn := by omega) dX9_here_19 ?_
    refine gx_goto (tgt := 24) C dX9_here_20 (by decide) ?_
    refine gx_zret (mc := 0) C rfl ?_ dX9_here_24
    exact ⟨_, rfl, e.symm, rfl⟩
set_option maxHeartbeats 600000 in
set_option maxRecDepth 100000 in
/-- X9_takes -/
theorem k9_takes (l : Launch) (D : gD) (A : Nat → Prop) (hs : Nat) {G : gH} {G0 : gH} {a : Nat} {z0 z2 z3 z5 : Int32} {st pa ty md rd : Nat → Int32} {sg : List Int32} {cu : Nat} (hM : gMa D G0 G a (z0, nI sg.length, z2, z3, nI cu, z5) st pa ty md rd) (hT : tyR ty sg) (hcu : cu < 1000) (z : Int32) : gM l yX9_takes wsX9_takes (gR 1) D A hs 0 0 [.ref a, .int z] G (gPi fun x G' => x = (if sg.getD cu 0 = z then 1 else 0) ∧ gMa D G0 G' a (z0, nI sg.length, z2, z3, nI (if sg.getD cu 0 = z then cu + 1 else cu), z5) st pa ty md rd) := by
  refine gM_intro (by decide) rfl rfl (Nat.le_of_ble_eq_true rfl) ?_
  intro p e s m args below meth c C
  have t8 := hT.1
  have hy1 : sg.getD cu 0 = z → gX p l e (gR 1) s m args below meth c D A 3 hs 0 0 (MQ below (gQ D A hs 0 (gPi fun x G' => x = (if sg.getD cu 0 = z then 1 else 0) ∧ gMa D G0 G' a (z0, nI sg.length, z2, z3, nI (if sg.getD cu 0 = z then cu + 1 else cu), z5) st pa ty md rd)) args s 0 0 A) G [some (.ref a), some (.int z), none] 13 [.int 1] := by
    intro cz
    refine gx_istore_n C dX9_takes_13 (by decide) ?_
    refine gx_aload_n C dX9_takes_14 rfl ?_
    refine gx_dup C dX9_takes_15 rfl ?_
    refine gx_get C fd_X9_takes_151 (hG := hM.2.1) (hv := by rfl) dX9_takes_16 ?_
    refine gx_iload_n C dX9_takes_19 rfl ?_
    refine gx_if_eq (tgt := 27) C dX9_takes_20 (by decide) (fun c_20 => ?_) (fun c_20 => ?_)
    · exact absurd c_20 (by decide)
    · refine gx_iconst (v := nI 1) C dX9_takes_23 (by decide) ?_
      refine gx_goto (tgt := 28) C dX9_takes_24 (by decide) ?_
      refine gx_iadd C dX9_takes_28 ?_
      first | refine gx_top (nI_add _ _) ?_ | skip
      refine gx_put C fd_X9_takes_151 tyX9_ok nmX9 rfl rfl rfl (hG := hM.2.1) (hl := by exact Nat.le_of_ble_eq_true rfl) dX9_takes_29 ?_
      refine gx_obM (z0, nI sg.length, z2, z3, nI (cu + 1), z5) hM rfl (fun hM => ?_)
      refine gx_iload_n C dX9_takes_32 rfl ?_
      refine gx_zret (mc := 0) C rfl ?_ dX9_takes_33
      exact ⟨_, rfl, (if_pos cz).symm, by rw [if_pos cz]; exact hM⟩
  have hy0 : ¬ sg.getD cu 0 = z → gX p l e (gR 1) s m args below meth c D A 3 hs 0 0 (MQ below (gQ D A hs 0 (gPi fun x G' => x = (if sg.getD cu 0 = z then 1 else 0) ∧ gMa D G0 G' a (z0, nI sg.length, z2, z3, nI (if sg.getD cu 0 = z then cu + 1 else cu), z5) st pa ty md rd)) args s 0 0 A) G [some (.ref a), some (.int z), none] 13 [.int 0] := by
    intro cz
    refine gx_istore_n C dX9_takes_13 (by decide) ?_
    refine gx_aload_n C dX9_takes_14 rfl ?_
    refine gx_dup C dX9_takes_15 rfl ?_
    refine gx_get C fd_X9_takes_151 (hG := hM.2.1) (hv := by rfl) dX9_takes_16 ?_
    refine gx_iload_n C dX9_takes_19 rfl ?_
    refine gx_if_eq (tgt := 27) C dX9_takes_20 (by decide) (fun c_20 => ?_) (fun c_20 => ?_)
    · refine gx_iconst (v := nI 0) C dX9_takes_27 (by decide) ?_
      refine gx_iadd C dX9_takes_28 ?_
      first | refine gx_top (nI_add _ _) ?_ | skip
      refine gx_put C fd_X9_takes_151 tyX9_ok nmX9 rfl rfl rfl (hG := hM.2.1) (hl := by exact Nat.le_of_ble_eq_true rfl) dX9_takes_29 ?_
      refine gx_obM (z0, nI sg.length, z2, z3, nI cu, z5) hM rfl (fun hM => ?_)
      refine gx_iload_n C dX9_takes_32 rfl ?_
      refine gx_zret (mc := 0) C rfl ?_ dX9_takes_33
      exact ⟨_, rfl, (if_neg cz).symm, by rw [if_neg cz]; exact hM⟩
    · exact absurd rfl c_20
  refine gx_aload_n C dX9_takes_0 rfl ?_
  refine gx_callV (ci := 8) (T := TX9) (N := 11) C (k9_here l D A hs hM hT hcu) cb_X9_takes__X9_here gX9_takes_X9_here rfl (hG := hM.2.1) rfl rfl (Nat.le_of_ble_eq_true rfl) ⟨Nat.le_refl _, Nat.le_refl _⟩ dX9_takes_1 (gx_ki fun r_1 G_1 h_1 => ?_)
  obtain ⟨rfl, rfl⟩ := h_1
  refine gx_iload_n C dX9_takes_4 rfl ?_
  refine gx_icmp_ne (tgt := 12) C dX9_takes_5 (by decide) (fun c_5 => ?_) (fun c_5 => ?_)
  · refine gx_iconst (v := 0) C dX9_takes_12 (by decide) ?_
    first
    | exact hy1 c_5
    | exact hy0 c_5
  · refine gx_iconst (v := 1) C dX9_takes_8 (by decide) ?_
    refine gx_goto (tgt := 13) C dX9_takes_9 (by decide) ?_
    first
    | exact hy1 c_5
    | exact hy0 c_5
set_option maxHeartbeats 600000 in
set_option maxRecDepth 100000 in
/-- X9_spelt -/
theorem k9_spelt (l : Launch) (D : gD) (A : Nat → Prop) (hs : Nat) {G : gH} (b0 b1 b2 b3 : Nat) : gM l yX9_spelt wsX9_spelt (gR 0) D A hs 0 0 [.int (nI b0), .int (nI b1), .int (nI b2), .int (nI b3)] G (gPi fun x G' => x = nI (((b0 * 128 + b1) * 128 + b2) * 128 + b3) ∧ G' = G) := by
  refine gM_intro (by decide) rfl rfl (Nat.le_of_ble_eq_true rfl) ?_
  intro p e s m args below meth c C
  refine gx_iload_n C dX9_spelt_0 rfl ?_
  refine gx_sipush (v := nI 128) C dX9_spelt_1 (by decide) ?_
  refine gx_imul C dX9_spelt_4 ?_
  first | refine gx_top (pk_mul _ _) ?_ | skip
  refine gx_iload_n C dX9_spelt_5 rfl ?_
  refine gx_iadd C dX9_spelt_6 ?_
  first | refine gx_top (nI_add _ _) ?_ | skip
  refine gx_sipush (v := nI 128) C dX9_spelt_7 (by decide) ?_
  refine gx_imul C dX9_spelt_10 ?_
  first | refine gx_top (pk_mul _ _) ?_ | skip
  refine gx_iload_n C dX9_spelt_11 rfl ?_
  refine gx_iadd C dX9_spelt_12 ?_
  first | refine gx_top (nI_add _ _) ?_ | skip
  refine gx_sipush (v := nI 128) C dX9_spelt_13 (by decide) ?_
  refine gx_imul C dX9_spelt_16 ?_
  first | refine gx_top (pk_mul _ _) ?_ | skip
  refine gx_iload_n C dX9_spelt_17 rfl ?_
  refine gx_iadd C dX9_spelt_18 ?_
  first | refine gx_top (nI_add _ _) ?_ | skip
  refine gx_zret (mc := 0) C rfl ?_ dX9_spelt_19
  exact ⟨_, rfl, rfl, rfl⟩
set_option maxHeartbeats 600000 in
set_option maxRecDepth 100000 in
/-- X9_wordHere -/
theorem k9_wordHere (l : Launch) (D : gD) (A : Nat → Prop) (hs : Nat) {G : gH} {G0 : gH} {a : Nat} {z0 z2 z3 z5 : Int32} {st pa ty md rd : Nat → Int32} {sg : List Int32} {cu : Nat} (hM : gMa D G0 G a (z0, nI sg.length, z2, z3, nI cu, z5) st pa ty md rd) (hT : tyR ty sg) (hcu : cu ≤ sg.length) : gM l yX9_wordHere wsX9_wordHere (gR 1) D A hs 0 0 [.ref a] G (gPi fun x G' => x = tKind sg cu ∧ gMa D G0 G' a (z0, nI sg.length, z2, z3, nI (tEnd sg cu), z5) st pa ty md rd) := by
  refine gM_intro (by decide) rfl rfl (Nat.le_of_ble_eq_true rfl) ?_
  intro p e s m args below meth c C
  have t8 := hT.1
  have hx3 : ∀ (G1 : gH), tEnd sg cu = cu + 3 → gMa D G0 G1 a (z0, nI sg.length, z2, z3, nI (cu + 3), z5) st pa ty md rd → gX p l e (gR 1) s m args below meth c D A 5 hs 0 0 (MQ below (gQ D A hs 0 (gPi fun x G' => x = tKind sg cu ∧ gMa D G0 G' a (z0, nI sg.length, z2, z3, nI (tEnd sg cu), z5) st pa ty md rd)) args s 0 0 A) G1 [some (.ref a), some (.int (if 3 ≤ 4 then nI (tWn sg cu 3) else 0)), some (.int (nI 3)), none, none] 54 [] := by
    intro G1 h hM
    rw [if_pos (show 3 ≤ 4 by decide)]
    refine gx_iload_n C dX9_wordHere_54 rfl ?_
    refine gx_iconst (v := 3) C dX9_wordHere_55 (by decide) ?_
    refine gx_icmp_ne (tgt := 63) C dX9_wordHere_56 (by decide) (fun c_56 => ?_) (fun c_56 => ?_)
    · exact absurd rfl c_56
    · refine gx_iload_n C dX9_wordHere_59 rfl ?_
      refine gx_goto (tgt := 64) C dX9_wordHere_60 (by decide) ?_
      refine gx_istore_n C dX9_wordHere_64 (by decide) ?_
      refine gx_iload_n C dX9_wordHere_65 rfl ?_
      refine gx_iconst (v := 4) C dX9_wordHere_66 (by decide) ?_
      refine gx_icmp_ne (tgt := 74) C dX9_wordHere_67 (by decide) (fun c_67 => ?_) (fun c_67 => ?_)
      · refine gx_iconst (v := (-1)) C dX9_wordHere_74 (by decide) ?_
        refine gx_istore C dX9_wordHere_75 (by decide) ?_
        refine gx_iload C dX9_wordHere_77 rfl ?_
        refine gx_bipush (v := nI 115) C dX9_wordHere_79 (by decide) ?_
        refine gx_bipush (v := nI 119) C dX9_wordHere_81 (by decide) ?_
        refine gx_bipush (v := nI 97) C dX9_wordHere_83 (by decide) ?_
        refine gx_bipush (v := nI 112) C dX9_wordHere_85 (by decide) ?_
        refine gx_callS C (k9_spelt l D A hs 115 119 97 112) cb_X9_wordHere__X9_spelt gX9_wordHere_X9_spelt rfl rfl (Nat.le_of_ble_eq_true rfl) ⟨Nat.le_refl _, Nat.le_refl _⟩ dX9_wordHere_87 (gx_ki fun r_87 G_87 h_87 => ?_)
        obtain ⟨rfl, rfl⟩ := h_87
        refine gx_icmp_ne (tgt := 95) C dX9_wordHere_90 (by decide) (fun c_90 => ?_) (fun c_90 => ?_)
        · refine gx_iload_n C dX9_wordHere_95 rfl ?_
          refine gx_iconst (v := nI 0) C dX9_wordHere_96 (by decide) ?_
          refine gx_bipush (v := nI 100) C dX9_wordHere_97 (by decide) ?_
          refine gx_bipush (v := nI 101) C dX9_wordHere_99 (by decide) ?_
          refine gx_bipush (v := nI 108) C dX9_wordHere_101 (by decide) ?_
          refine gx_callS C (k9_spelt l D A hs 0 100 101 108) cb_X9_wordHere__X9_spelt gX9_wordHere_X9_spelt rfl rfl (Nat.le_of_ble_eq_true rfl) ⟨Nat.le_refl _, Nat.le_refl _⟩ dX9_wordHere_103 (gx_ki fun r_103 G_103 h_103 => ?_)
          obtain ⟨rfl, rfl⟩ := h_103
          refine gx_icmp_ne (tgt := 111) C dX9_wordHere_106 (by decide) (fun c_106 => ?_) (fun c_106 => ?_)
          · refine gx_iload_n C dX9_wordHere_111 rfl ?_
            refine gx_iconst (v := nI 0) C dX9_wordHere_112 (by decide) ?_
            refine gx_bipush (v := nI 105) C dX9_wordHere_113 (by decide) ?_
            refine gx_bipush (v := nI 110) C dX9_wordHere_115 (by decide) ?_
            refine gx_bipush (v := nI 115) C dX9_wordHere_117 (by decide) ?_
            refine gx_callS C (k9_spelt l D A hs 0 105 110 115) cb_X9_wordHere__X9_spelt gX9_wordHere_X9_spelt rfl rfl (Nat.le_of_ble_eq_true rfl) ⟨Nat.le_refl _, Nat.le_refl _⟩ dX9_wordHere_119 (gx_ki fun r_119 G_119 h_119 => ?_)
            obtain ⟨rfl, rfl⟩ := h_119
            refine gx_icmp_ne (tgt := 127) C dX9_wordHere_122 (by decide) (fun c_122 => ?_) (fun c_122 => ?_)
            · refine gx_iload_n C dX9_wordHere_127 rfl ?_
              refine gx_iconst (v := nI 0) C dX9_wordHere_128 (by decide) ?_
              refine gx_bipush (v := nI 114) C dX9_wordHere_129 (by decide) ?_
              refine gx_bipush (v := nI 101) C dX9_wordHere_131 (by decide) ?_
              refine gx_bipush (v := nI 112) C dX9_wordHere_133 (by decide) ?_
              refine gx_callS C (k9_spelt l D A hs 0 114 101 112) cb_X9_wordHere__X9_spelt gX9_wordHere_X9_spelt rfl rfl (Nat.le_of_ble_eq_true rfl) ⟨Nat.le_refl _, Nat.le_refl _⟩ dX9_wordHere_135 (gx_ki fun r_135 G_135 h_135 => ?_)
              obtain ⟨rfl, rfl⟩ := h_135
              refine gx_icmp_ne (tgt := 143) C dX9_wordHere_138 (by decide) (fun c_138 => ?_) (fun c_138 => ?_)
              · refine gx_iload_n C dX9_wordHere_143 rfl ?_
                refine gx_iconst (v := nI 0) C dX9_wordHere_144 (by decide) ?_
                refine gx_bipush (v := nI 99) C dX9_wordHere_145 (by decide) ?_
                refine gx_bipush (v := nI 97) C dX9_wordHere_147 (by decide) ?_
                refine gx_bipush (v := nI 112) C dX9_wordHere_149 (by decide) ?_
                refine gx_callS C (k9_spelt l D A hs 0 99 97 112) cb_X9_wordHere__X9_spelt gX9_wordHere_X9_spelt rfl rfl (Nat.le_of_ble_eq_true rfl) ⟨Nat.le_refl _, Nat.le_refl _⟩ dX9_wordHere_151 (gx_ki fun r_151 G_151 h_151 => ?_)
                obtain ⟨rfl, rfl⟩ := h_151
                refine gx_icmp_ne (tgt := 161) C dX9_wordHere_154 (by decide) (fun c_154 => ?_) (fun c_154 => ?_)
                · refine gx_iload_n C dX9_wordHere_161 rfl ?_
                  refine gx_iconst (v := nI 0) C dX9_wordHere_162 (by decide) ?_
                  refine gx_bipush (v := nI 97) C dX9_wordHere_163 (by decide) ?_
                  refine gx_bipush (v := nI 115) C dX9_wordHere_165 (by decide) ?_
                  refine gx_bipush (v := nI 107) C dX9_wordHere_167 (by decide) ?_
                  refine gx_callS C (k9_spelt l D A hs 0 97 115 107) cb_X9_wordHere__X9_spelt gX9_wordHere_X9_spelt rfl rfl (Nat.le_of_ble_eq_true rfl) ⟨Nat.le_refl _, Nat.le_refl _⟩ dX9_wordHere_169 (gx_ki fun r_169 G_169 h_169 => ?_)
                  obtain ⟨rfl, rfl⟩ := h_169
                  refine gx_icmp_ne (tgt := 179) C dX9_wordHere_172 (by decide) (fun c_172 => ?_) (fun c_172 => ?_)
                  · refine gx_iconst (v := (-1)) C dX9_wordHere_179 (by decide) ?_
                    refine gx_zret (mc := 0) C rfl ?_ dX9_wordHere_180
                    refine ⟨_, rfl, ?_, by rw [h]; exact hM⟩
                    first
                    | rw [tK3 h, if_neg c_106, if_neg c_122, if_neg c_138, if_pos c_154]
                    | rw [tK3 h, if_neg c_106, if_neg c_122, if_neg c_138, if_neg c_154, if_pos c_172]
                    | rw [tK3 h, if_neg c_106, if_neg c_122, if_neg c_138, if_neg c_154, if_neg c_172]
                  · refine gx_iconst (v := 5) C dX9_wordHere_175 (by decide) ?_
                    refine gx_goto (tgt := 180) C dX9_wordHere_176 (by decide) ?_
                    refine gx_zret (mc := 0) C rfl ?_ dX9_wordHere_180
                    refine ⟨_, rfl, ?_, by rw [h]; exact hM⟩
                    first
                    | rw [tK3 h, if_neg c_106, if_neg c_122, if_neg c_138, if_pos c_154]
                    | rw [tK3 h, if_neg c_106, if_neg c_122, if_neg c_138, if_neg c_154, if_pos c_172]
                    | rw [tK3 h, if_neg c_106, if_neg c_122, if_neg c_138, if_neg c_154, if_neg c_172]
                · refine gx_iconst (v := 4) C dX9_wordHere_157 (by decide) ?_
                  refine gx_goto (tgt := 180) C dX9_wordHere_158 (by decide) ?_
                  refine gx_zret (mc := 0) C rfl ?_ dX9_wordHere_180
                  refine ⟨_, rfl, ?_, by rw [h]; exact hM⟩
                  first
                  | rw [tK3 h, if_neg c_106, if_neg c_122, if_neg c_138, if_pos c_154]
                  | rw [tK3 h, if_neg c_106, if_neg c_122, if_neg c_138, if_neg c_154, if_pos c_172]
                  | rw [tK3 h, if_neg c_106, if_neg c_122, if_neg c_138, if_neg c_154, if_neg c_172]
              · refine gx_iconst (v := 2) C dX9_wordHere_141 (by decide) ?_
                refine gx_zret (mc := 0) C rfl ?_ dX9_wordHere_142
                refine ⟨_, rfl, ?_, by rw [h]; exact hM⟩
                rw [tK3 h, if_neg c_106, if_neg c_122, if_pos c_138]
            · refine gx_iconst (v := 1) C dX9_wordHere_125 (by decide) ?_
              refine gx_zret (mc := 0) C rfl ?_ dX9_wordHere_126
              refine ⟨_, rfl, ?_, by rw [h]; exact hM⟩
              rw [tK3 h, if_neg c_106, if_pos c_122]
          · refine gx_iconst (v := 0) C dX9_wordHere_109 (by decide) ?_
            refine gx_zret (mc := 0) C rfl ?_ dX9_wordHere_110
            refine ⟨_, rfl, ?_, by rw [h]; exact hM⟩
            rw [tK3 h, if_pos c_106]
        · exact absurd c_90 (by decide)
      · exact absurd c_67 (by decide)
  have hx4 : ∀ (G1 : gH), tEnd sg cu = cu + 4 → gMa D G0 G1 a (z0, nI sg.length, z2, z3, nI (cu + 4), z5) st pa ty md rd → gX p l e (gR 1) s m args below meth c D A 5 hs 0 0 (MQ below (gQ D A hs 0 (gPi fun x G' => x = tKind sg cu ∧ gMa D G0 G' a (z0, nI sg.length, z2, z3, nI (tEnd sg cu), z5) st pa ty md rd)) args s 0 0 A) G1 [some (.ref a), some (.int (if 4 ≤ 4 then nI (tWn sg cu 4) else 0)), some (.int (nI 4)), none, none] 54 [] := by
    intro G1 h hM
    rw [if_pos (show 4 ≤ 4 by decide)]
    refine gx_iload_n C dX9_wordHere_54 rfl ?_
    refine gx_iconst (v := 3) C dX9_wordHere_55 (by decide) ?_
    refine gx_icmp_ne (tgt := 63) C dX9_wordHere_56 (by decide) (fun c_56 => ?_) (fun c_56 => ?_)
    · refine gx_iconst (v := (-1)) C dX9_wordHere_63 (by decide) ?_
      refine gx_istore_n C dX9_wordHere_64 (by decide) ?_
      refine gx_iload_n C dX9_wordHere_65 rfl ?_
      refine gx_iconst (v := 4) C dX9_wordHere_66 (by decide) ?_
      refine gx_icmp_ne (tgt := 74) C dX9_wordHere_67 (by decide) (fun c_67 => ?_) (fun c_67 => ?_)
      · exact absurd rfl c_67
      · refine gx_iload_n C dX9_wordHere_70 rfl ?_
        refine gx_goto (tgt := 75) C dX9_wordHere_71 (by decide) ?_
        refine gx_istore C dX9_wordHere_75 (by decide) ?_
        refine gx_iload C dX9_wordHere_77 rfl ?_
        refine gx_bipush (v := nI 115) C dX9_wordHere_79 (by decide) ?_
        refine gx_bipush (v := nI 119) C dX9_wordHere_81 (by decide) ?_
        refine gx_bipush (v := nI 97) C dX9_wordHere_83 (by decide) ?_
        refine gx_bipush (v := nI 112) C dX9_wordHere_85 (by decide) ?_
        refine gx_callS C (k9_spelt l D A hs 115 119 97 112) cb_X9_wordHere__X9_spelt gX9_wordHere_X9_spelt rfl rfl (Nat.le_of_ble_eq_true rfl) ⟨Nat.le_refl _, Nat.le_refl _⟩ dX9_wordHere_87 (gx_ki fun r_87 G_87 h_87 => ?_)
        obtain ⟨rfl, rfl⟩ := h_87
        refine gx_icmp_ne (tgt := 95) C dX9_wordHere_90 (by decide) (fun c_90 => ?_) (fun c_90 => ?_)
        · refine gx_iload_n C dX9_wordHere_95 rfl ?_
          refine gx_iconst (v := nI 0) C dX9_wordHere_96 (by decide) ?_
          refine gx_bipush (v := nI 100) C dX9_wordHere_97 (by decide) ?_
          refine gx_bipush (v := nI 101) C dX9_wordHere_99 (by decide) ?_
          refine gx_bipush (v := nI 108) C dX9_wordHere_101 (by decide) ?_
          refine gx_callS C (k9_spelt l D A hs 0 100 101 108) cb_X9_wordHere__X9_spelt gX9_wordHere_X9_spelt rfl rfl (Nat.le_of_ble_eq_true rfl) ⟨Nat.le_refl _, Nat.le_refl _⟩ dX9_wordHere_103 (gx_ki fun r_103 G_103 h_103 => ?_)
          obtain ⟨rfl, rfl⟩ := h_103
          refine gx_icmp_ne (tgt := 111) C dX9_wordHere_106 (by decide) (fun c_106 => ?_) (fun c_106 => ?_)
          · refine gx_iload_n C dX9_wordHere_111 rfl ?_
            refine gx_iconst (v := nI 0) C dX9_wordHere_112 (by decide) ?_
            refine gx_bipush (v := nI 105) C dX9_wordHere_113 (by decide) ?_
            refine gx_bipush (v := nI 110) C dX9_wordHere_115 (by decide) ?_
            refine gx_bipush (v := nI 115) C dX9_wordHere_117 (by decide) ?_
            refine gx_callS C (k9_spelt l D A hs 0 105 110 115) cb_X9_wordHere__X9_spelt gX9_wordHere_X9_spelt rfl rfl (Nat.le_of_ble_eq_true rfl) ⟨Nat.le_refl _, Nat.le_refl _⟩ dX9_wordHere_119 (gx_ki fun r_119 G_119 h_119 => ?_)
            obtain ⟨rfl, rfl⟩ := h_119
            refine gx_icmp_ne (tgt := 127) C dX9_wordHere_122 (by decide) (fun c_122 => ?_) (fun c_122 => ?_)
            · refine gx_iload_n C dX9_wordHere_127 rfl ?_
              refine gx_iconst (v := nI 0) C dX9_wordHere_128 (by decide) ?_
              refine gx_bipush (v := nI 114) C dX9_wordHere_129 (by decide) ?_
              refine gx_bipush (v := nI 101) C dX9_wordHere_131 (by decide) ?_
              refine gx_bipush (v := nI 112) C dX9_wordHere_133 (by decide) ?_
              refine gx_callS C (k9_spelt l D A hs 0 114 101 112) cb_X9_wordHere__X9_spelt gX9_wordHere_X9_spelt rfl rfl (Nat.le_of_ble_eq_true rfl) ⟨Nat.le_refl _, Nat.le_refl _⟩ dX9_wordHere_135 (gx_ki fun r_135 G_135 h_135 => ?_)
              obtain ⟨rfl, rfl⟩ := h_135
              refine gx_icmp_ne (tgt := 143) C dX9_wordHere_138 (by decide) (fun c_138 => ?_) (fun c_138 => ?_)
              · refine gx_iload_n C dX9_wordHere_143 rfl ?_
                refine gx_iconst (v := nI 0) C dX9_wordHere_144 (by decide) ?_
                refine gx_bipush (v := nI 99) C dX9_wordHere_145 (by decide) ?_
                refine gx_bipush (v := nI 97) C dX9_wordHere_147 (by decide) ?_
                refine gx_bipush (v := nI 112) C dX9_wordHere_149 (by decide) ?_
                refine gx_callS C (k9_spelt l D A hs 0 99 97 112) cb_X9_wordHere__X9_spelt gX9_wordHere_X9_spelt rfl rfl (Nat.le_of_ble_eq_true rfl) ⟨Nat.le_refl _, Nat.le_refl _⟩ dX9_wordHere_151 (gx_ki fun r_151 G_151 h_151 => ?_)
                obtain ⟨rfl, rfl⟩ := h_151
                refine gx_icmp_ne (tgt := 161) C dX9_wordHere_154 (by decide) (fun c_154 => ?_) (fun c_154 => ?_)
                · refine gx_iload_n C dX9_wordHere_161 rfl ?_
                  refine gx_iconst (v := nI 0) C dX9_wordHere_162 (by decide) ?_
                  refine gx_bipush (v := nI 97) C dX9_wordHere_163 (by decide) ?_
                  refine gx_bipush (v := nI 115) C dX9_wordHere_165 (by decide) ?_
                  refine gx_bipush (v := nI 107) C dX9_wordHere_167 (by decide) ?_
                  refine gx_callS C (k9_spelt l D A hs 0 97 115 107) cb_X9_wordHere__X9_spelt gX9_wordHere_X9_spelt rfl rfl (Nat.le_of_ble_eq_true rfl) ⟨Nat.le_refl _, Nat.le_refl _⟩ dX9_wordHere_169 (gx_ki fun r_169 G_169 h_169 => ?_)
                  obtain ⟨rfl, rfl⟩ := h_169
                  refine gx_icmp_ne (tgt := 179) C dX9_wordHere_172 (by decide) (fun c_172 => ?_) (fun c_172 => ?_)
                  · refine gx_iconst (v := (-1)) C dX9_wordHere_179 (by decide) ?_
                    refine gx_zret (mc := 0) C rfl ?_ dX9_wordHere_180
                    refine ⟨_, rfl, ?_, by rw [h]; exact hM⟩
                    rw [tK4 h, if_neg c_90]
                  · exact absurd c_172 (by decide)
                · exact absurd c_154 (by decide)
              · exact absurd c_138 (by decide)
            · exact absurd c_122 (by decide)
          · exact absurd c_106 (by decide)
        · refine gx_iconst (v := 3) C dX9_wordHere_93 (by decide) ?_
          refine gx_zret (mc := 0) C rfl ?_ dX9_wordHere_94
          refine ⟨_, rfl, ?_, by rw [h]; exact hM⟩
          rw [tK4 h, if_pos c_90]
    · exact absurd c_56 (by decide)
  have hxn : ∀ (m9 : Nat) (G1 : gH), tEnd sg cu = cu + m9 → ¬ m9 = 3 → ¬ m9 = 4 → gMa D G0 G1 a (z0, nI sg.length, z2, z3, nI (cu + m9), z5) st pa ty md rd → gX p l e (gR 1) s m args below meth c D A 5 hs 0 0 (MQ below (gQ D A hs 0 (gPi fun x G' => x = tKind sg cu ∧ gMa D G0 G' a (z0, nI sg.length, z2, z3, nI (tEnd sg cu), z5) st pa ty md rd)) args s 0 0 A) G1 [some (.ref a), some (.int (if m9 ≤ 4 then nI (tWn sg cu m9) else 0)), some (.int (nI m9)), none, none] 54 [] := by
    intro m9 G1 h n3 n4 hM
    have m8 := tEnd_le (sg := sg) sg.length cu (by omega) hcu
    refine gx_iload_n C dX9_wordHere_54 rfl ?_
    refine gx_iconst (v := 3) C dX9_wordHere_55 (by decide) ?_
    refine gx_icmp_ne (tgt := 63) C dX9_wordHere_56 (by decide) (fun c_56 => ?_) (fun c_56 => ?_)
    · refine gx_iconst (v := (-1)) C dX9_wordHere_63 (by decide) ?_
      refine gx_istore_n C dX9_wordHere_64 (by decide) ?_
      refine gx_iload_n C dX9_wordHere_65 rfl ?_
      refine gx_iconst (v := 4) C dX9_wordHere_66 (by decide) ?_
      refine gx_icmp_ne (tgt := 74) C dX9_wordHere_67 (by decide) (fun c_67 => ?_) (fun c_67 => ?_)
      · refine gx_iconst (v := (-1)) C dX9_wordHere_74 (by decide) ?_
        refine gx_istore C dX9_wordHere_75 (by decide) ?_
        refine gx_iload C dX9_wordHere_77 rfl ?_
        refine gx_bipush (v := nI 115) C dX9_wordHere_79 (by decide) ?_
        refine gx_bipush (v := nI 119) C dX9_wordHere_81 (by decide) ?_
        refine gx_bipush (v := nI 97) C dX9_wordHere_83 (by decide) ?_
        refine gx_bipush (v := nI 112) C dX9_wordHere_85 (by decide) ?_
        refine gx_callS C (k9_spelt l D A hs 115 119 97 112) cb_X9_wordHere__X9_spelt gX9_wordHere_X9_spelt rfl rfl (Nat.le_of_ble_eq_true rfl) ⟨Nat.le_refl _, Nat.le_refl _⟩ dX9_wordHere_87 (gx_ki fun r_87 G_87 h_87 => ?_)
        obtain ⟨rfl, rfl⟩ := h_87
        refine gx_icmp_ne (tgt := 95) C dX9_wordHere_90 (by decide) (fun c_90 => ?_) (fun c_90 => ?_)
        · refine gx_iload_n C dX9_wordHere_95 rfl ?_
          refine gx_iconst (v := nI 0) C dX9_wordHere_96 (by decide) ?_
          refine gx_bipush (v := nI 100) C dX9_wordHere_97 (by decide) ?_
          refine gx_bipush (v := nI 101) C dX9_wordHere_99 (by decide) ?_
          refine gx_bipush (v := nI 108) C dX9_wordHere_101 (by decide) ?_
          refine gx_callS C (k9_spelt l D A hs 0 100 101 108) cb_X9_wordHere__X9_spelt gX9_wordHere_X9_spelt rfl rfl (Nat.le_of_ble_eq_true rfl) ⟨Nat.le_refl _, Nat.le_refl _⟩ dX9_wordHere_103 (gx_ki fun r_103 G_103 h_103 => ?_)
          obtain ⟨rfl, rfl⟩ := h_103
          refine gx_icmp_ne (tgt := 111) C dX9_wordHere_106 (by decide) (fun c_106 => ?_) (fun c_106 => ?_)
          · refine gx_iload_n C dX9_wordHere_111 rfl ?_
            refine gx_iconst (v := nI 0) C dX9_wordHere_112 (by decide) ?_
            refine gx_bipush (v := nI 105) C dX9_wordHere_113 (by decide) ?_
            refine gx_bipush (v := nI 110) C dX9_wordHere_115 (by decide) ?_
            refine gx_bipush (v := nI 115) C dX9_wordHere_117 (by decide) ?_
            refine gx_callS C (k9_spelt l D A hs 0 105 110 115) cb_X9_wordHere__X9_spelt gX9_wordHere_X9_spelt rfl rfl (Nat.le_of_ble_eq_true rfl) ⟨Nat.le_refl _, Nat.le_refl _⟩ dX9_wordHere_119 (gx_ki fun r_119 G_119 h_119 => ?_)
            obtain ⟨rfl, rfl⟩ := h_119
            refine gx_icmp_ne (tgt := 127) C dX9_wordHere_122 (by decide) (fun c_122 => ?_) (fun c_122 => ?_)
            · refine gx_iload_n C dX9_wordHere_127 rfl ?_
              refine gx_iconst (v := nI 0) C dX9_wordHere_128 (by decide) ?_
              refine gx_bipush (v := nI 114) C dX9_wordHere_129 (by decide) ?_
              refine gx_bipush (v := nI 101) C dX9_wordHere_131 (by decide) ?_
              refine gx_bipush (v := nI 112) C dX9_wordHere_133 (by decide) ?_
              refine gx_callS C (k9_spelt l D A hs 0 114 101 112) cb_X9_wordHere__X9_spelt gX9_wordHere_X9_spelt rfl rfl (Nat.le_of_ble_eq_true rfl) ⟨Nat.le_refl _, Nat.le_refl _⟩ dX9_wordHere_135 (gx_ki fun r_135 G_135 h_135 => ?_)
              obtain ⟨rfl, rfl⟩ := h_135
              refine gx_icmp_ne (tgt := 143) C dX9_wordHere_138 (by decide) (fun c_138 => ?_) (fun c_138 => ?_)
              · refine gx_iload_n C dX9_wordHere_143 rfl ?_
                refine gx_iconst (v := nI 0) C dX9_wordHere_144 (by decide) ?_
                refine gx_bipush (v := nI 99) C dX9_wordHere_145 (by decide) ?_
                refine gx_bipush (v := nI 97) C dX9_wordHere_147 (by decide) ?_
                refine gx_bipush (v := nI 112) C dX9_wordHere_149 (by decide) ?_
                refine gx_callS C (k9_spelt l D A hs 0 99 97 112) cb_X9_wordHere__X9_spelt gX9_wordHere_X9_spelt rfl rfl (Nat.le_of_ble_eq_true rfl) ⟨Nat.le_refl _, Nat.le_refl _⟩ dX9_wordHere_151 (gx_ki fun r_151 G_151 h_151 => ?_)
                obtain ⟨rfl, rfl⟩ := h_151
                refine gx_icmp_ne (tgt := 161) C dX9_wordHere_154 (by decide) (fun c_154 => ?_) (fun c_154 => ?_)
                · refine gx_iload_n C dX9_wordHere_161 rfl ?_
                  refine gx_iconst (v := nI 0) C dX9_wordHere_162 (by decide) ?_
                  refine gx_bipush (v := nI 97) C dX9_wordHere_163 (by decide) ?_
                  refine gx_bipush (v := nI 115) C dX9_wordHere_165 (by decide) ?_
                  refine gx_bipush (v := nI 107) C dX9_wordHere_167 (by decide) ?_
                  refine gx_callS C (k9_spelt l D A hs 0 97 115 107) cb_X9_wordHere__X9_spelt gX9_wordHere_X9_spelt rfl rfl (Nat.le_of_ble_eq_true rfl) ⟨Nat.le_refl _, Nat.le_refl _⟩ dX9_wordHere_169 (gx_ki fun r_169 G_169 h_169 => ?_)
                  obtain ⟨rfl, rfl⟩ := h_169
                  refine gx_icmp_ne (tgt := 179) C dX9_wordHere_172 (by decide) (fun c_172 => ?_) (fun c_172 => ?_)
                  · refine gx_iconst (v := (-1)) C dX9_wordHere_179 (by decide) ?_
                    refine gx_zret (mc := 0) C rfl ?_ dX9_wordHere_180
                    refine ⟨_, rfl, ?_, by rw [h]; exact hM⟩
                    rw [tKn (by omega) (by omega)]
                  · exact absurd c_172 (by decide)
                · exact absurd c_154 (by decide)
              · exact absurd c_138 (by decide)
            · exact absurd c_122 (by decide)
          · exact absurd c_106 (by decide)
        · exact absurd c_90 (by decide)
      · exact absurd ((nI_eq (b := 4) (by omega) (by omega)).mp c_67) n4
    · exact absurd ((nI_eq (b := 3) (by omega) (by omega)).mp c_56) n3
  have hloop : ∀ (n j : Nat) (G1 : gH), tEnd sg cu - cu < j + n → j ≤ tEnd sg cu - cu → gMa D G0 G1 a (z0, nI sg.length, z2, z3, nI (cu + j), z5) st pa ty md rd ∧ tEnd sg (cu + j) = tEnd sg cu → gX p l e (gR 1) s m args below meth c D A 5 hs 0 0 (MQ below (gQ D A hs 0 (gPi fun x G' => x = tKind sg cu ∧ gMa D G0 G' a (z0, nI sg.length, z2, z3, nI (tEnd sg cu), z5) st pa ty md rd)) args s 0 0 A) G1 [some (.ref a), some (.int (if j ≤ 4 then nI (tWn sg cu j) else 0)), some (.int (nI j)), none, none] 4 [] := by
    intro n
    induction n with
    | zero => intro j G1 hm hj0 hI; exact absurd hm (by omega)
    | succ n ih =>
      intro j G1 hm hj0 hI
      have hM := hI.1; have hle9 := tEnd_le (sg := sg) sg.length cu (by omega) hcu
      have he := hI.2
      refine gx_aload_n C dX9_wordHere_4 rfl ?_
      refine gx_callV (ci := 8) (T := TX9) (N := 11) C (k9_here l D A hs hM hT (by omega)) cb_X9_wordHere__X9_here gX9_wordHere_X9_here rfl (hG := hM.2.1) rfl rfl (Nat.le_of_ble_eq_true rfl) ⟨Nat.le_refl _, Nat.le_refl _⟩ dX9_wordHere_5 (gx_ki fun r_5 G_5 h_5 => ?_)
      obtain ⟨rfl, rfl⟩ := h_5
      refine gx_bipush (v := 97) C dX9_wordHere_8 (by decide) ?_
      refine gx_bipush (v := 122) C dX9_wordHere_10 (by decide) ?_
      refine gx_callS C (k9_in l D A hs (sg.getD (cu + j) 0) 97 122) cb_X9_wordHere__X9_in gX9_wordHere_X9_in rfl rfl (Nat.le_of_ble_eq_true rfl) ⟨Nat.le_refl _, Nat.le_refl _⟩ dX9_wordHere_12 (gx_ki fun r_12 G_12 h_12 => ?_)
      obtain ⟨rfl, rfl⟩ := h_12
      refine gx_if_eq (tgt := 54) C dX9_wordHere_15 (by decide) (fun c_15 => ?_) (fun c_15 => ?_)
      · have hlet : ¬ tLet (sg.getD (cu + j) 0) = true := fun q => by
          rw [tLet_p.mp q] at c_15
          exact absurd c_15 (by decide)
        rw [tEnd_f hlet] at he
        by_cases q3 : j = 3
        · subst q3
          exact hx3 _ he.symm hM
        by_cases q4 : j = 4
        · subst q4
          exact hx4 _ he.symm hM
        exact hxn j _ he.symm q3 q4 hM
      · have hlet : tLet (sg.getD (cu + j) 0) = true := tLet_p.mpr (pOut_i pOut_b c_15)
        have hlen := gD_lt (tLet_0 hlet)
        rw [tEnd_t hlet] at he
        have hle := tEnd_le (sg := sg) sg.length (cu + j + 1) (by omega) (by omega)
        refine gx_iload_n C dX9_wordHere_18 rfl ?_
        refine gx_iconst (v := 4) C dX9_wordHere_19 (by decide) ?_
        refine gx_icmp_ge (tgt := 36) C dX9_wordHere_20 (by decide) (fun c_20 => ?_) (fun c_20 => ?_)
        · have h4 : ¬ j < 4 := fun q => nI_ge q (by omega) c_20
          have hx : (0 : Int32) = (if (j + 1) ≤ 4 then nI (tWn sg cu (j + 1)) else 0) := (if_neg (by omega)).symm
          refine gx_iconst (v := 0) C dX9_wordHere_36 (by decide) ?_
          refine gx_istore_n C dX9_wordHere_37 (by decide) ?_
          first | refine gx_iincN C dX9_wordHere_38 rfl (by decide) ?_ | refine gx_iinc1 C dX9_wordHere_38 rfl (by decide) ?_
          refine gx_aload_n C dX9_wordHere_41 rfl ?_
          refine gx_dup C dX9_wordHere_42 rfl ?_
          refine gx_get C fd_X9_wordHere_151 (hG := hM.2.1) (hv := by rfl) dX9_wordHere_43 ?_
          refine gx_iconst (v := nI 1) C dX9_wordHere_46 (by decide) ?_
          refine gx_iadd C dX9_wordHere_47 ?_
          first | refine gx_top (nI_add _ _) ?_ | skip
          refine gx_put C fd_X9_wordHere_151 tyX9_ok nmX9 rfl rfl rfl (hG := hM.2.1) (hl := by exact Nat.le_of_ble_eq_true rfl) dX9_wordHere_48 ?_
          refine gx_obM (z0, nI sg.length, z2, z3, nI (cu + j + 1), z5) hM rfl (fun hM => ?_)
          refine gx_goto (tgt := 4) C dX9_wordHere_51 (by decide) ?_
          first
          | exact gx_V (by rw [← hx]; rfl) (ih (j + 1) _ (by omega) (by omega) ⟨hM, he⟩)
          | exact gx_V (by rw [if_pos (show j + 1 ≤ 4 by omega), tWn, e0, nI_clamp (by omega)]; rfl) (ih (j + 1) _ (by omega) (by omega) ⟨hM, he⟩)
        · have h4 : j < 4 := by
            rcases Nat.lt_or_ge (j) (4) with q | q
            · exact q
            · exact absurd (nI_le q (by omega)) c_20
          rw [if_pos (show j ≤ 4 by omega)]
          refine gx_iload_n C dX9_wordHere_23 rfl ?_
          refine gx_sipush (v := nI 128) C dX9_wordHere_24 (by decide) ?_
          refine gx_imul C dX9_wordHere_27 ?_
          first | refine gx_top (pk_mul _ _) ?_ | skip
          refine gx_aload_n C dX9_wordHere_28 rfl ?_
          obtain ⟨n0, e0, a0, b0⟩ := tLet_n hlet
          refine gx_callV (ci := 8) (T := TX9) (N := 11) C (k9_here l D A hs hM hT (by omega)) cb_X9_wordHere__X9_here gX9_wordHere_X9_here rfl (hG := hM.2.1) rfl rfl (Nat.le_of_ble_eq_true rfl) ⟨Nat.le_refl _, Nat.le_refl _⟩ dX9_wordHere_29 (gx_ki fun r_29 G_29 h_29 => ?_)
          obtain ⟨rfl, rfl⟩ := h_29
          rw [e0]
          refine gx_iadd C dX9_wordHere_32 ?_
          first | refine gx_top (nI_add _ _) ?_ | skip
          refine gx_goto (tgt := 37) C dX9_wordHere_33 (by decide) ?_
          refine gx_istore_n C dX9_wordHere_37 (by decide) ?_
          first | refine gx_iincN C dX9_wordHere_38 rfl (by decide) ?_ | refine gx_iinc1 C dX9_wordHere_38 rfl (by decide) ?_
          refine gx_aload_n C dX9_wordHere_41 rfl ?_
          refine gx_dup C dX9_wordHere_42 rfl ?_
          refine gx_get C fd_X9_wordHere_151 (hG := hM.2.1) (hv := by rfl) dX9_wordHere_43 ?_
          refine gx_iconst (v := nI 1) C dX9_wordHere_46 (by decide) ?_
          refine gx_iadd C dX9_wordHere_47 ?_
          first | refine gx_top (nI_add _ _) ?_ | skip
          refine gx_put C fd_X9_wordHere_151 tyX9_ok nmX9 rfl rfl rfl (hG := hM.2.1) (hl := by exact Nat.le_of_ble_eq_true rfl) dX9_wordHere_48 ?_
          refine gx_obM (z0, nI sg.length, z2, z3, nI (cu + j + 1), z5) hM rfl (fun hM => ?_)
          refine gx_goto (tgt := 4) C dX9_wordHere_51 (by decide) ?_
          first
          | exact gx_V (by rw [← hx]; rfl) (ih (j + 1) _ (by omega) (by omega) ⟨hM, he⟩)
          | exact gx_V (by rw [if_pos (show j + 1 ≤ 4 by omega), tWn, e0, nI_clamp (by omega)]; rfl) (ih (j + 1) _ (by omega) (by omega) ⟨hM, he⟩)
  refine gx_iconst (v := 0) C dX9_wordHere_0 (by decide) ?_
  refine gx_istore_n C dX9_wordHere_1 (by decide) ?_
  refine gx_iconst (v := 0) C dX9_wordHere_2 (by decide) ?_
  refine gx_istore_n C dX9_wordHere_3 (by decide) ?_
  exact hloop (tEnd sg cu - cu + 1) 0 _ (by omega) (by omega) ⟨hM, rfl⟩
set_option maxHeartbeats 600000 in
set_option maxRecDepth 100000 in
/-- X9_takesPosition -/
theorem k9_takesPosition (l : Launch) (D : gD) (A : Nat → Prop) (hs : Nat) {G : gH} {G0 : gH} {a : Nat} {z0 z2 z3 z5 : Int32} {st pa ty md rd : Nat → Int32} {sg : List Int32} {cu : Nat} (hM : gMa D G0 G a (z0, nI sg.length, z2, z3, nI cu, z5) st pa ty md rd) (hT : tyR ty sg) (hcu : cu ≤ sg.length) : gM l yX9_takesPosition wsX9_takesPosition (gR 2) D A hs 0 0 [.ref a] G (gPi fun x G' => x = (tPos sg cu).1 ∧ gMa D G0 G' a (z0, nI sg.length, z2, z3, nI (tPos sg cu).2, z5) st pa ty md rd) := by
  refine gM_intro (by decide) rfl rfl (Nat.le_of_ble_eq_true rfl) ?_
  intro p e s m args below meth c C
  have t8 := hT.1
  have hone : sg.getD cu 0 = 32 → tDig (sg.getD (cu + 1) 0) = true → ∀ (G1 : gH), gMa D G0 G1 a (z0, nI sg.length, z2, z3, nI (cu + 1), z5) st pa ty md rd → gX p l e (gR 2) s m args below meth c D A 3 hs 0 0 (MQ below (gQ D A hs 0 (gPi fun x G' => x = (tPos sg cu).1 ∧ gMa D G0 G' a (z0, nI sg.length, z2, z3, nI (tPos sg cu).2, z5) st pa ty md rd)) args s 0 0 A) G1 [some (.ref a), some (.int 0), some (.int (nI 0))] 29 [] := by
    intro h32 hdg G1 hM1
    have hlen := gD_lt (tDig_0 hdg)
    have hloop : ∀ (n j : Nat) (G1 : gH) (v : Int32) (c1 : Nat), 3 < j + n → j ≤ 3 → gMa D G0 G1 a (z0, nI sg.length, z2, z3, nI c1, z5) st pa ty md rd ∧ tDigs sg (3 - j) v c1 = tDigs sg 3 0 (cu + 1) ∧ c1 ≤ sg.length → gX p l e (gR 2) s m args below meth c D A 3 hs 0 0 (MQ below (gQ D A hs 0 (gPi fun x G' => x = (tPos sg cu).1 ∧ gMa D G0 G' a (z0, nI sg.length, z2, z3, nI (tPos sg cu).2, z5) st pa ty md rd)) args s 0 0 A) G1 [some (.ref a), some (.int v), some (.int (nI j))] 29 [] := by
      intro n
      induction n with
      | zero => intro j G1 v c1 hm hj0 hI; exact absurd hm (by omega)
      | succ n ih =>
        intro j G1 v c1 hm hj0 hI
        have hM := hI.1
        have he := hI.2.1
        have hc1 := hI.2.2
        refine gx_iload_n C dX9_takesPosition_29 rfl ?_
        refine gx_iconst (v := 3) C dX9_takesPosition_30 (by decide) ?_
        refine gx_icmp_ge (tgt := 77) C dX9_takesPosition_31 (by decide) (fun c_31 => ?_) (fun c_31 => ?_)
        · have hj : ¬ j < 3 := fun q => nI_ge q (by omega) c_31
          obtain rfl : j = 3 := by omega
          have ev : tPos sg cu = (v, c1) := (tPos_2 h32 hdg).trans he.symm
          refine gx_iload_n C dX9_takesPosition_77 rfl ?_
          refine gx_zret (mc := 0) C rfl ?_ dX9_takesPosition_78
          exact ⟨_, rfl, by rw [ev], by rw [ev]; exact hM⟩
        · have hj : j < 3 := by
            rcases Nat.lt_or_ge (j) (3) with q | q
            · exact q
            · exact absurd (nI_le q (by omega)) c_31
          refine gx_aload_n C dX9_takesPosition_34 rfl ?_
          refine gx_callV (ci := 8) (T := TX9) (N := 11) C (k9_here l D A hs hM hT (by omega)) cb_X9_takesPosition__X9_here gX9_takesPosition_X9_here rfl (hG := hM.2.1) rfl rfl (Nat.le_of_ble_eq_true rfl) ⟨Nat.le_refl _, Nat.le_refl _⟩ dX9_takesPosition_35 (gx_ki fun r_35 G_35 h_35 => ?_)
          obtain ⟨rfl, rfl⟩ := h_35
          refine gx_bipush (v := 48) C dX9_takesPosition_38 (by decide) ?_
          refine gx_bipush (v := 57) C dX9_takesPosition_40 (by decide) ?_
          refine gx_callS C (k9_in l D A hs (sg.getD c1 0) 48 57) cb_X9_takesPosition__X9_in gX9_takesPosition_X9_in rfl rfl (Nat.le_of_ble_eq_true rfl) ⟨Nat.le_refl _, Nat.le_refl _⟩ dX9_takesPosition_42 (gx_ki fun r_42 G_42 h_42 => ?_)
          obtain ⟨rfl, rfl⟩ := h_42
          refine gx_if_eq (tgt := 77) C dX9_takesPosition_45 (by decide) (fun c_45 => ?_) (fun c_45 => ?_)
          · have hd2 : ¬ tDig (sg.getD c1 0) = true := fun q => by
              rw [tDig_p.mp q] at c_45
              exact absurd c_45 (by decide)
            have ev : tPos sg cu = (v, c1) := by
              rw [tPos_2 h32 hdg, ← he, show 3 - j = (2 - j) + 1 by omega, tDigs_n hd2]
            refine gx_iload_n C dX9_takesPosition_77 rfl ?_
            refine gx_zret (mc := 0) C rfl ?_ dX9_takesPosition_78
            exact ⟨_, rfl, by rw [ev], by rw [ev]; exact hM⟩
          · have hd2 : tDig (sg.getD c1 0) = true := tDig_p.mpr (pOut_i pOut_b c_45)
            have hlen2 := gD_lt (tDig_0 hd2)
            rw [show 3 - j = (3 - (j + 1)) + 1 by omega, tDigs, if_pos hd2] at he
            refine gx_bipush (v := nI 10) C dX9_takesPosition_48 (by decide) ?_
            refine gx_iload_n C dX9_takesPosition_50 rfl ?_
            refine gx_imul C dX9_takesPosition_51 ?_
            refine gx_aload_n C dX9_takesPosition_52 rfl ?_
            refine gx_callV (ci := 8) (T := TX9) (N := 11) C (k9_here l D A hs hM hT (by omega)) cb_X9_takesPosition__X9_here gX9_takesPosition_X9_here rfl (hG := hM.2.1) rfl rfl (Nat.le_of_ble_eq_true rfl) ⟨Nat.le_refl _, Nat.le_refl _⟩ dX9_takesPosition_53 (gx_ki fun r_53 G_53 h_53 => ?_)
            obtain ⟨rfl, rfl⟩ := h_53
            refine gx_iadd C dX9_takesPosition_56 ?_
            refine gx_bipush (v := nI 48) C dX9_takesPosition_57 (by decide) ?_
            refine gx_isub C dX9_takesPosition_59 ?_
            refine gx_top (y := v * 10 + sg.getD c1 0 - 48) (by rw [Int32.mul_comm]; rfl) ?_
            refine gx_istore_n C dX9_takesPosition_60 (by decide) ?_
            refine gx_aload_n C dX9_takesPosition_61 rfl ?_
            refine gx_dup C dX9_takesPosition_62 rfl ?_
            refine gx_get C fd_X9_takesPosition_151 (hG := hM.2.1) (hv := by rfl) dX9_takesPosition_63 ?_
            refine gx_iconst (v := nI 1) C dX9_takesPosition_66 (by decide) ?_
            refine gx_iadd C dX9_takesPosition_67 ?_
            first | refine gx_top (nI_add _ _) ?_ | skip
            refine gx_put C fd_X9_takesPosition_151 tyX9_ok nmX9 rfl rfl rfl (hG := hM.2.1) (hl := by exact Nat.le_of_ble_eq_true rfl) dX9_takesPosition_68 ?_
            refine gx_obM (z0, nI sg.length, z2, z3, nI (c1 + 1), z5) hM rfl (fun hM => ?_)
            first | refine gx_iincN C dX9_takesPosition_71 rfl (by decide) ?_ | refine gx_iinc1 C dX9_takesPosition_71 rfl (by decide) ?_
            refine gx_goto (tgt := 29) C dX9_takesPosition_74 (by decide) ?_
            exact ih (j + 1) _ _ (c1 + 1) (by omega) (by omega) ⟨hM, he, by omega⟩
    exact hloop 4 0 G1 0 (cu + 1) (by omega) (by omega) ⟨hM1, rfl, by omega⟩
  refine gx_aload_n C dX9_takesPosition_0 rfl ?_
  refine gx_bipush (v := 32) C dX9_takesPosition_1 (by decide) ?_
  refine gx_callV (ci := 8) (T := TX9) (N := 11) C (k9_takes l D A hs hM hT (by omega) 32) cb_X9_takesPosition__X9_takes gX9_takesPosition_X9_takes rfl (hG := hM.2.1) rfl rfl (Nat.le_of_ble_eq_true rfl) ⟨Nat.le_refl _, Nat.le_refl _⟩ dX9_takesPosition_3 (gx_ki fun r_3 G_3 h_3 => ?_)
  obtain ⟨rfl, hM⟩ := h_3
  refine gx_if_eq (tgt := 23) C dX9_takesPosition_6 (by decide) (fun c_6 => ?_) (fun c_6 => ?_)
  · have h32 := gz_if0 c_6
    rw [if_neg h32] at hM
    have ev := tPos_0 h32
    refine gx_iconst (v := (-1)) C dX9_takesPosition_23 (by decide) ?_
    refine gx_zret (mc := 0) C rfl ?_ dX9_takesPosition_24
    exact ⟨_, rfl, by rw [ev], by rw [ev]; exact hM⟩
  · have h32 := gz_if1 c_6
    rw [if_pos h32] at hM
    refine gx_aload_n C dX9_takesPosition_9 rfl ?_
    refine gx_callV (ci := 8) (T := TX9) (N := 11) C (k9_here l D A hs hM hT (by omega)) cb_X9_takesPosition__X9_here gX9_takesPosition_X9_here rfl (hG := hM.2.1) rfl rfl (Nat.le_of_ble_eq_true rfl) ⟨Nat.le_refl _, Nat.le_refl _⟩ dX9_takesPosition_10 (gx_ki fun r_10 G_10 h_10 => ?_)
    obtain ⟨rfl, rfl⟩ := h_10
    refine gx_bipush (v := 48) C dX9_takesPosition_13 (by decide) ?_
    refine gx_bipush (v := 57) C dX9_takesPosition_15 (by decide) ?_
    refine gx_callS C (k9_in l D A hs (sg.getD (cu + 1) 0) 48 57) cb_X9_takesPosition__X9_in gX9_takesPosition_X9_in rfl rfl (Nat.le_of_ble_eq_true rfl) ⟨Nat.le_refl _, Nat.le_refl _⟩ dX9_takesPosition_17 (gx_ki fun r_17 G_17 h_17 => ?_)
    obtain ⟨rfl, rfl⟩ := h_17
    refine gx_if_ne (tgt := 25) C dX9_takesPosition_20 (by decide) (fun c_20 => ?_) (fun c_20 => ?_)
    · have hdg : tDig (sg.getD (cu + 1) 0) = true := tDig_p.mpr (pOut_i pOut_b c_20)
      refine gx_iconst (v := 0) C dX9_takesPosition_25 (by decide) ?_
      refine gx_istore_n C dX9_takesPosition_26 (by decide) ?_
      refine gx_iconst (v := nI 0) C dX9_takesPosition_27 (by decide) ?_
      refine gx_istore_n C dX9_takesPosition_28 (by decide) ?_
      exact hone h32 hdg _ hM
    · have hdg : ¬ tDig (sg.getD (cu + 1) 0) = true := fun q => by
        rw [tDig_p.mp q] at c_20
        exact absurd c_20 (by decide)
      have ev := tPos_1 h32 hdg
      refine gx_iconst (v := (-1)) C dX9_takesPosition_23 (by decide) ?_
      refine gx_zret (mc := 0) C rfl ?_ dX9_takesPosition_24
      exact ⟨_, rfl, by rw [ev], by rw [ev]; exact hM⟩
set_option maxHeartbeats 600000 in
set_option maxRecDepth 100000 in
/-- X9_isFormed -/
theorem k9_isFormed (l : Launch) (D : gD) (A : Nat → Prop) (hs : Nat) {G : gH} {G0 : gH} {a : Nat} {z0 z2 z3 : Int32} {st pa ty md rd : Nat → Int32} {sg : List Int32} {cu r k : Nat} (hM : gMa D G0 G a (z0, nI sg.length, z2, z3, nI (tEnd sg cu), nI r) st pa ty md rd) (hT : tyR ty sg) (hcu : cu ≤ sg.length) (hr9 : r ≤ 8) (hk9 : tKind sg cu = nI k) (k6 : k < 6) : gM l yX9_isFormed wsX9_isFormed (gR 3) D A hs 0 0 [.ref a, .int (nI k)] G (gPi fun x G' => ∃ (rd' : Nat → Int32) (z4 : Int32), gMa D G0 G' a (z0, nI sg.length, z2, z3, z4, nI r) st pa ty md rd' ∧ (∀ q : Nat, q < 4 * r → rd' q = rd q) ∧ ((x = 1 ∧ ¬ tBad sg cu ∧ z4 = nI ((tP3 sg cu).2 + 1) ∧ rd' (4 * r) = nI k ∧ rd' (4 * r + 1) = (tP1 sg cu).1 ∧ rd' (4 * r + 2) = (tP2 sg cu).1 ∧ rd' (4 * r + 3) = (tP3 sg cu).1) ∨ (x = 0 ∧ tBad sg cu))) := by
  refine gM_intro (by decide) rfl rfl (Nat.le_of_ble_eq_true rfl) ?_
  intro p e s m args below meth c C
  have t8 := hT.1
  have hle := tP_le hcu
  have hend : ∀ (G1 : gH) (rd1 : Nat → Int32) (z4 : Int32) (o3 : Option Value), gMa D G0 G1 a (z0, nI sg.length, z2, z3, z4, nI r) st pa ty md rd1 → ((∀ q : Nat, q < 4 * r → rd1 q = rd q) ∧ rd1 (4 * r) = nI k ∧ rd1 (4 * r + 1) = (tP1 sg cu).1 ∧ rd1 (4 * r + 2) = (tP2 sg cu).1 ∧ rd1 (4 * r + 3) = (tP3 sg cu).1) → ¬ (tP1 sg cu).1 < 0 → (¬ (tP3 sg cu).1 < 0 → z4 = nI (tP3 sg cu).2) → gX p l e (gR 3) s m args below meth c D A 4 hs 0 0 (MQ below (gQ D A hs 0 (gPi fun x G' => ∃ (rd' : Nat → Int32) (z4 : Int32), gMa D G0 G' a (z0, nI sg.length, z2, z3, z4, nI r) st pa ty md rd' ∧ (∀ q : Nat, q < 4 * r → rd' q = rd q) ∧ ((x = 1 ∧ ¬ tBad sg cu ∧ z4 = nI ((tP3 sg cu).2 + 1) ∧ rd' (4 * r) = nI k ∧ rd' (4 * r + 1) = (tP1 sg cu).1 ∧ rd' (4 * r + 2) = (tP2 sg cu).1 ∧ rd' (4 * r + 3) = (tP3 sg cu).1) ∨ (x = 0 ∧ tBad sg cu)))) args s 0 0 A) G1 [some (.ref a), some (.int (nI k)), some (.int (nI (4 * r))), o3] 141 [] := by
    intro G1 rd1 z4 o3 hM hr n1 hz
    obtain ⟨hq, hr0, hr1, hr2, hr3⟩ := hr
    refine gx_aload_n C dX9_isFormed_141 rfl ?_
    refine gx_get C fd_X9_isFormed_22 (hG := hM.2.1) (hv := by rfl) dX9_isFormed_142 ?_
    refine gx_iload_n C dX9_isFormed_145 rfl ?_
    refine gx_iconst (v := nI 2) C dX9_isFormed_146 (by decide) ?_
    refine gx_iadd C dX9_isFormed_147 ?_
    first | refine gx_top (nI_add _ _) ?_ | skip
    refine gx_ialdN C (hG := (by first | exact hM.2.2.1 | exact hM.2.2.2.1 | exact hM.2.2.2.2.1 | exact hM.2.2.2.2.2.1 | exact hM.2.2.2.2.2.2)) (hk := by omega) (hn := by omega) dX9_isFormed_148 ?_
    rw [hr2]
    refine gx_if_lt (tgt := 176) C dX9_isFormed_149 (by decide) (fun c_149 => ?_) (fun c_149 => ?_)
    · have hb : tBad sg cu := Or.inr (Or.inl c_149)
      refine gx_iconst (v := 0) C dX9_isFormed_176 (by decide) ?_
      refine gx_zret (mc := 0) C rfl ?_ dX9_isFormed_177
      first
      | exact ⟨_, rfl, _, _, hM, hq, Or.inl ⟨rfl, hg, rfl, hr0, hr1, hr2, hr3⟩⟩
      | exact ⟨_, rfl, _, _, hM, hq, Or.inr ⟨rfl, hb⟩⟩
    · refine gx_aload_n C dX9_isFormed_152 rfl ?_
      refine gx_get C fd_X9_isFormed_22 (hG := hM.2.1) (hv := by rfl) dX9_isFormed_153 ?_
      refine gx_iload_n C dX9_isFormed_156 rfl ?_
      refine gx_iconst (v := nI 3) C dX9_isFormed_157 (by decide) ?_
      refine gx_iadd C dX9_isFormed_158 ?_
      first | refine gx_top (nI_add _ _) ?_ | skip
      refine gx_ialdN C (hG := (by first | exact hM.2.2.1 | exact hM.2.2.2.1 | exact hM.2.2.2.2.1 | exact hM.2.2.2.2.2.1 | exact hM.2.2.2.2.2.2)) (hk := by omega) (hn := by omega) dX9_isFormed_159 ?_
      rw [hr3]
      refine gx_if_lt (tgt := 176) C dX9_isFormed_160 (by decide) (fun c_160 => ?_) (fun c_160 => ?_)
      · have hb : tBad sg cu := Or.inr (Or.inr (Or.inl c_160))
        refine gx_iconst (v := 0) C dX9_isFormed_176 (by decide) ?_
        refine gx_zret (mc := 0) C rfl ?_ dX9_isFormed_177
        first
        | exact ⟨_, rfl, _, _, hM, hq, Or.inl ⟨rfl, hg, rfl, hr0, hr1, hr2, hr3⟩⟩
        | exact ⟨_, rfl, _, _, hM, hq, Or.inr ⟨rfl, hb⟩⟩
      · obtain rfl := hz c_160
        refine gx_aload_n C dX9_isFormed_163 rfl ?_
        refine gx_bipush (v := 59) C dX9_isFormed_164 (by decide) ?_
        refine gx_callV (ci := 8) (T := TX9) (N := 11) C (k9_takes l D A hs hM hT (by omega) 59) cb_X9_isFormed__X9_takes gX9_isFormed_X9_takes rfl (hG := hM.2.1) rfl rfl (Nat.le_of_ble_eq_true rfl) ⟨Nat.le_refl _, Nat.le_refl _⟩ dX9_isFormed_166 (gx_ki fun r_166 G_166 h_166 => ?_)
        obtain ⟨rfl, hM⟩ := h_166
        refine gx_if_eq (tgt := 176) C dX9_isFormed_169 (by decide) (fun c_169 => ?_) (fun c_169 => ?_)
        · have hb : tBad sg cu := Or.inr (Or.inr (Or.inr (gz_if0 c_169)))
          refine gx_iconst (v := 0) C dX9_isFormed_176 (by decide) ?_
          refine gx_zret (mc := 0) C rfl ?_ dX9_isFormed_177
          first
          | exact ⟨_, rfl, _, _, hM, hq, Or.inl ⟨rfl, hg, rfl, hr0, hr1, hr2, hr3⟩⟩
          | exact ⟨_, rfl, _, _, hM, hq, Or.inr ⟨rfl, hb⟩⟩
        · have h59 := gz_if1 c_169
          rw [if_pos h59] at hM
          have hg : ¬ tBad sg cu := fun q => q.elim n1 (fun q => q.elim c_149 (fun q => q.elim c_160 (fun q => q h59)))
          refine gx_iconst (v := 1) C dX9_isFormed_172 (by decide) ?_
          refine gx_goto (tgt := 177) C dX9_isFormed_173 (by decide) ?_
          refine gx_zret (mc := 0) C rfl ?_ dX9_isFormed_177
          first
          | exact ⟨_, rfl, _, _, hM, hq, Or.inl ⟨rfl, hg, rfl, hr0, hr1, hr2, hr3⟩⟩
          | exact ⟨_, rfl, _, _, hM, hq, Or.inr ⟨rfl, hb⟩⟩
  have hch1 : ∀ (G1 : gH) (rd1 : Nat → Int32), (tKind sg cu = 1 ∨ tKind sg cu = 2) → sg.getD (tP2 sg cu).2 0 = 32 → (tP2 sg cu).2 + 1 < sg.length → gMa D G0 G1 a (z0, nI sg.length, z2, z3, nI ((tP2 sg cu).2 + 1), nI r) st pa ty md rd1 → ((∀ q : Nat, q < 4 * r → rd1 q = rd q) ∧ rd1 (4 * r) = nI k ∧ rd1 (4 * r + 1) = (tP1 sg cu).1 ∧ rd1 (4 * r + 2) = (tP2 sg cu).1 ∧ rd1 (4 * r + 3) = 0) → ¬ (tP1 sg cu).1 < 0 → gX p l e (gR 3) s m args below meth c D A 4 hs 0 0 (MQ below (gQ D A hs 0 (gPi fun x G' => ∃ (rd' : Nat → Int32) (z4 : Int32), gMa D G0 G' a (z0, nI sg.length, z2, z3, z4, nI r) st pa ty md rd' ∧ (∀ q : Nat, q < 4 * r → rd' q = rd q) ∧ ((x = 1 ∧ ¬ tBad sg cu ∧ z4 = nI ((tP3 sg cu).2 + 1) ∧ rd' (4 * r) = nI k ∧ rd' (4 * r + 1) = (tP1 sg cu).1 ∧ rd' (4 * r + 2) = (tP2 sg cu).1 ∧ rd' (4 * r + 3) = (tP3 sg cu).1) ∨ (x = 0 ∧ tBad sg cu)))) args s 0 0 A) G1 [some (.ref a), some (.int (nI k)), some (.int (nI (4 * r))), none] 110 [.int 1] := by
    intro G1 rd1 h12 h32 hlen hM hr n1
    obtain ⟨hq, hr0, hr1, hr2, hr3⟩ := hr
    have e3 := (tP3_1 h12).trans (tChr_2 h32 hlen)
    refine gx_istore_n C dX9_isFormed_110 (by decide) ?_
    refine gx_aload_n C dX9_isFormed_111 rfl ?_
    refine gx_get C fd_X9_isFormed_22 (hG := hM.2.1) (hv := by rfl) dX9_isFormed_112 ?_
    refine gx_iload_n C dX9_isFormed_115 rfl ?_
    refine gx_iconst (v := nI 3) C dX9_isFormed_116 (by decide) ?_
    refine gx_iadd C dX9_isFormed_117 ?_
    first | refine gx_top (nI_add _ _) ?_ | skip
    refine gx_iload_n C dX9_isFormed_118 rfl ?_
    refine gx_if_eq (tgt := 129) C dX9_isFormed_119 (by decide) (fun c_119 => ?_) (fun c_119 => ?_)
    · exact absurd c_119 (by decide)
    · refine gx_aload_n C dX9_isFormed_122 rfl ?_
      refine gx_callV (ci := 8) (T := TX9) (N := 11) C (k9_here l D A hs hM hT (by omega)) cb_X9_isFormed__X9_here gX9_isFormed_X9_here rfl (hG := hM.2.1) rfl rfl (Nat.le_of_ble_eq_true rfl) ⟨Nat.le_refl _, Nat.le_refl _⟩ dX9_isFormed_123 (gx_ki fun r_123 G_123 h_123 => ?_)
      obtain ⟨rfl, rfl⟩ := h_123
      refine gx_goto (tgt := 130) C dX9_isFormed_126 (by decide) ?_
      refine gx_iastN C (hG := (by first | exact hM.2.2.1 | exact hM.2.2.2.1 | exact hM.2.2.2.2.1 | exact hM.2.2.2.2.2.1 | exact hM.2.2.2.2.2.2)) (hk := by omega) (hn := by omega) dX9_isFormed_130 ?_
      refine gx_rdM hM (fun hM => ?_)
      refine gx_aload_n C dX9_isFormed_131 rfl ?_
      refine gx_dup C dX9_isFormed_132 rfl ?_
      refine gx_get C fd_X9_isFormed_151 (hG := hM.2.1) (hv := by rfl) dX9_isFormed_133 ?_
      refine gx_iconst (v := nI 1) C dX9_isFormed_136 (by decide) ?_
      refine gx_iadd C dX9_isFormed_137 ?_
      first | refine gx_top (nI_add _ _) ?_ | skip
      refine gx_put C fd_X9_isFormed_151 tyX9_ok nmX9 rfl rfl rfl (hG := hM.2.1) (hl := by exact Nat.le_of_ble_eq_true rfl) dX9_isFormed_138 ?_
      refine gx_obM (z0, nI sg.length, z2, z3, nI ((tP2 sg cu).2 + 1 + 1), nI r) hM rfl (fun hM => ?_)
      exact hend _ _ _ _ hM ⟨fun q hq2 => (pk_un (by omega)).trans (hq q hq2), (pk_un (by omega)).trans hr0, (pk_un (by omega)).trans hr1, (pk_un (by omega)).trans hr2, pk_us.trans (by rw [e3])⟩ n1 (fun _ => by rw [e3])
  have hch0 : ∀ (G1 : gH) (rd1 : Nat → Int32) (y4 : Int32), (tP3 sg cu).1 = -1 → gMa D G0 G1 a (z0, nI sg.length, z2, z3, y4, nI r) st pa ty md rd1 → ((∀ q : Nat, q < 4 * r → rd1 q = rd q) ∧ rd1 (4 * r) = nI k ∧ rd1 (4 * r + 1) = (tP1 sg cu).1 ∧ rd1 (4 * r + 2) = (tP2 sg cu).1 ∧ rd1 (4 * r + 3) = 0) → ¬ (tP1 sg cu).1 < 0 → gX p l e (gR 3) s m args below meth c D A 4 hs 0 0 (MQ below (gQ D A hs 0 (gPi fun x G' => ∃ (rd' : Nat → Int32) (z4 : Int32), gMa D G0 G' a (z0, nI sg.length, z2, z3, z4, nI r) st pa ty md rd' ∧ (∀ q : Nat, q < 4 * r → rd' q = rd q) ∧ ((x = 1 ∧ ¬ tBad sg cu ∧ z4 = nI ((tP3 sg cu).2 + 1) ∧ rd' (4 * r) = nI k ∧ rd' (4 * r + 1) = (tP1 sg cu).1 ∧ rd' (4 * r + 2) = (tP2 sg cu).1 ∧ rd' (4 * r + 3) = (tP3 sg cu).1) ∨ (x = 0 ∧ tBad sg cu)))) args s 0 0 A) G1 [some (.ref a), some (.int (nI k)), some (.int (nI (4 * r))), none] 110 [.int 0] := by
    intro G1 rd1 y4 e3 hM hr n1
    obtain ⟨hq, hr0, hr1, hr2, hr3⟩ := hr
    refine gx_istore_n C dX9_isFormed_110 (by decide) ?_
    refine gx_aload_n C dX9_isFormed_111 rfl ?_
    refine gx_get C fd_X9_isFormed_22 (hG := hM.2.1) (hv := by rfl) dX9_isFormed_112 ?_
    refine gx_iload_n C dX9_isFormed_115 rfl ?_
    refine gx_iconst (v := nI 3) C dX9_isFormed_116 (by decide) ?_
    refine gx_iadd C dX9_isFormed_117 ?_
    first | refine gx_top (nI_add _ _) ?_ | skip
    refine gx_iload_n C dX9_isFormed_118 rfl ?_
    refine gx_if_eq (tgt := 129) C dX9_isFormed_119 (by decide) (fun c_119 => ?_) (fun c_119 => ?_)
    · refine gx_iconst (v := (-1)) C dX9_isFormed_129 (by decide) ?_
      refine gx_iastN C (hG := (by first | exact hM.2.2.1 | exact hM.2.2.2.1 | exact hM.2.2.2.2.1 | exact hM.2.2.2.2.2.1 | exact hM.2.2.2.2.2.2)) (hk := by omega) (hn := by omega) dX9_isFormed_130 ?_
      refine gx_rdM hM (fun hM => ?_)
      refine gx_aload_n C dX9_isFormed_131 rfl ?_
      refine gx_dup C dX9_isFormed_132 rfl ?_
      refine gx_get C fd_X9_isFormed_151 (hG := hM.2.1) (hv := by rfl) dX9_isFormed_133 ?_
      refine gx_iconst (v := nI 1) C dX9_isFormed_136 (by decide) ?_
      refine gx_iadd C dX9_isFormed_137 ?_
      refine gx_put C fd_X9_isFormed_151 tyX9_ok nmX9 rfl rfl rfl (hG := hM.2.1) (hl := by exact Nat.le_of_ble_eq_true rfl) dX9_isFormed_138 ?_
      refine gx_obM (z0, nI sg.length, z2, z3, y4 + nI 1, nI r) hM rfl (fun hM => ?_)
      exact hend _ _ _ _ hM ⟨fun q hq2 => (pk_un (by omega)).trans (hq q hq2), (pk_un (by omega)).trans hr0, (pk_un (by omega)).trans hr1, (pk_un (by omega)).trans hr2, pk_us.trans e3.symm⟩ n1 (fun y => absurd (by rw [e3]; decide) y)
    · exact absurd rfl c_119
  have hmid : ∀ (G1 : gH) (rd1 : Nat → Int32), gMa D G0 G1 a (z0, nI sg.length, z2, z3, nI (tP2 sg cu).2, nI r) st pa ty md rd1 → ((∀ q : Nat, q < 4 * r → rd1 q = rd q) ∧ rd1 (4 * r) = nI k ∧ rd1 (4 * r + 1) = (tP1 sg cu).1 ∧ rd1 (4 * r + 2) = (tP2 sg cu).1 ∧ rd1 (4 * r + 3) = 0) → ¬ (tP1 sg cu).1 < 0 → gX p l e (gR 3) s m args below meth c D A 4 hs 0 0 (MQ below (gQ D A hs 0 (gPi fun x G' => ∃ (rd' : Nat → Int32) (z4 : Int32), gMa D G0 G' a (z0, nI sg.length, z2, z3, z4, nI r) st pa ty md rd' ∧ (∀ q : Nat, q < 4 * r → rd' q = rd q) ∧ ((x = 1 ∧ ¬ tBad sg cu ∧ z4 = nI ((tP3 sg cu).2 + 1) ∧ rd' (4 * r) = nI k ∧ rd' (4 * r + 1) = (tP1 sg cu).1 ∧ rd' (4 * r + 2) = (tP2 sg cu).1 ∧ rd' (4 * r + 3) = (tP3 sg cu).1) ∨ (x = 0 ∧ tBad sg cu)))) args s 0 0 A) G1 [some (.ref a), some (.int (nI k)), some (.int (nI (4 * r))), none] 75 [] := by
    intro G1 rd1 hM hr n1
    refine gx_iload_n C dX9_isFormed_75 rfl ?_
    refine gx_iconst (v := 1) C dX9_isFormed_76 (by decide) ?_
    refine gx_icmp_eq (tgt := 85) C dX9_isFormed_77 (by decide) (fun c_77 => ?_) (fun c_77 => ?_)
    · have h12 : tKind sg cu = 1 ∨ tKind sg cu = 2 := Or.inl (hk9.trans c_77)
      refine gx_aload_n C dX9_isFormed_85 rfl ?_
      refine gx_bipush (v := 32) C dX9_isFormed_86 (by decide) ?_
      refine gx_callV (ci := 8) (T := TX9) (N := 11) C (k9_takes l D A hs hM hT (by omega) 32) cb_X9_isFormed__X9_takes gX9_isFormed_X9_takes rfl (hG := hM.2.1) rfl rfl (Nat.le_of_ble_eq_true rfl) ⟨Nat.le_refl _, Nat.le_refl _⟩ dX9_isFormed_88 (gx_ki fun r_88 G_88 h_88 => ?_)
      obtain ⟨rfl, hM⟩ := h_88
      refine gx_if_eq (tgt := 109) C dX9_isFormed_91 (by decide) (fun c_91 => ?_) (fun c_91 => ?_)
      · have h32 := gz_if0 c_91
        have e3 : (tP3 sg cu).1 = -1 := by rw [tP3_1 h12, tChr_0 h32]
        refine gx_iconst (v := 0) C dX9_isFormed_109 (by decide) ?_
        first
        | exact hch1 _ _ h12 h32 hlen hM hr n1
        | exact hch0 _ _ _ e3 hM hr n1
      · have h32 := gz_if1 c_91
        rw [if_pos h32] at hM
        refine gx_aload_n C dX9_isFormed_94 rfl ?_
        refine gx_get C fd_X9_isFormed_151 (hG := hM.2.1) (hv := by rfl) dX9_isFormed_95 ?_
        refine gx_aload_n C dX9_isFormed_98 rfl ?_
        refine gx_get C fd_X9_isFormed_101 (hG := hM.2.1) (hv := by rfl) dX9_isFormed_99 ?_
        refine gx_icmp_ge (tgt := 109) C dX9_isFormed_102 (by decide) (fun c_102 => ?_) (fun c_102 => ?_)
        · have hlen : ¬ (tP2 sg cu).2 + 1 < sg.length := fun q => nI_ge q (by omega) c_102
          have e3 : (tP3 sg cu).1 = -1 := by rw [tP3_1 h12, tChr_1 h32 hlen]
          refine gx_iconst (v := 0) C dX9_isFormed_109 (by decide) ?_
          first
          | exact hch1 _ _ h12 h32 hlen hM hr n1
          | exact hch0 _ _ _ e3 hM hr n1
        · have hlen : (tP2 sg cu).2 + 1 < sg.length := by
            rcases Nat.lt_or_ge ((tP2 sg cu).2 + 1) (sg.length) with q | q
            · exact q
            · exact absurd (nI_le q (by omega)) c_102
          refine gx_iconst (v := 1) C dX9_isFormed_105 (by decide) ?_
          refine gx_goto (tgt := 110) C dX9_isFormed_106 (by decide) ?_
          first
          | exact hch1 _ _ h12 h32 hlen hM hr n1
          | exact hch0 _ _ _ e3 hM hr n1
    · refine gx_iload_n C dX9_isFormed_80 rfl ?_
      refine gx_iconst (v := 2) C dX9_isFormed_81 (by decide) ?_
      refine gx_icmp_ne (tgt := 141) C dX9_isFormed_82 (by decide) (fun c_82 => ?_) (fun c_82 => ?_)
      · have e3 := tP3_0 (fun q => c_77 (hk9.symm.trans q)) (fun q => c_82 (hk9.symm.trans q))
        exact hend _ _ _ _ hM ⟨hr.1, hr.2.1, hr.2.2.1, hr.2.2.2.1, by rw [e3]; exact hr.2.2.2.2⟩ n1 (fun _ => by rw [e3])
      · have h12 : tKind sg cu = 1 ∨ tKind sg cu = 2 := Or.inr (hk9.trans c_82)
        refine gx_aload_n C dX9_isFormed_85 rfl ?_
        refine gx_bipush (v := 32) C dX9_isFormed_86 (by decide) ?_
        refine gx_callV (ci := 8) (T := TX9) (N := 11) C (k9_takes l D A hs hM hT (by omega) 32) cb_X9_isFormed__X9_takes gX9_isFormed_X9_takes rfl (hG := hM.2.1) rfl rfl (Nat.le_of_ble_eq_true rfl) ⟨Nat.le_refl _, Nat.le_refl _⟩ dX9_isFormed_88 (gx_ki fun r_88 G_88 h_88 => ?_)
        obtain ⟨rfl, hM⟩ := h_88
        refine gx_if_eq (tgt := 109) C dX9_isFormed_91 (by decide) (fun c_91 => ?_) (fun c_91 => ?_)
        · have h32 := gz_if0 c_91
          have e3 : (tP3 sg cu).1 = -1 := by rw [tP3_1 h12, tChr_0 h32]
          refine gx_iconst (v := 0) C dX9_isFormed_109 (by decide) ?_
          first
          | exact hch1 _ _ h12 h32 hlen hM hr n1
          | exact hch0 _ _ _ e3 hM hr n1
        · have h32 := gz_if1 c_91
          rw [if_pos h32] at hM
          refine gx_aload_n C dX9_isFormed_94 rfl ?_
          refine gx_get C fd_X9_isFormed_151 (hG := hM.2.1) (hv := by rfl) dX9_isFormed_95 ?_
          refine gx_aload_n C dX9_isFormed_98 rfl ?_
          refine gx_get C fd_X9_isFormed_101 (hG := hM.2.1) (hv := by rfl) dX9_isFormed_99 ?_
          refine gx_icmp_ge (tgt := 109) C dX9_isFormed_102 (by decide) (fun c_102 => ?_) (fun c_102 => ?_)
          · have hlen : ¬ (tP2 sg cu).2 + 1 < sg.length := fun q => nI_ge q (by omega) c_102
            have e3 : (tP3 sg cu).1 = -1 := by rw [tP3_1 h12, tChr_1 h32 hlen]
            refine gx_iconst (v := 0) C dX9_isFormed_109 (by decide) ?_
            first
            | exact hch1 _ _ h12 h32 hlen hM hr n1
            | exact hch0 _ _ _ e3 hM hr n1
          · have hlen : (tP2 sg cu).2 + 1 < sg.length := by
              rcases Nat.lt_or_ge ((tP2 sg cu).2 + 1) (sg.length) with q | q
              · exact q
              · exact absurd (nI_le q (by omega)) c_102
            refine gx_iconst (v := 1) C dX9_isFormed_105 (by decide) ?_
            refine gx_goto (tgt := 110) C dX9_isFormed_106 (by decide) ?_
            first
            | exact hch1 _ _ h12 h32 hlen hM hr n1
            | exact hch0 _ _ _ e3 hM hr n1
  refine gx_iconst (v := nI 4) C dX9_isFormed_0 (by decide) ?_
  refine gx_aload_n C dX9_isFormed_1 rfl ?_
  refine gx_get C fd_X9_isFormed_164 (hG := hM.2.1) (hv := by rfl) dX9_isFormed_2 ?_
  refine gx_imul C dX9_isFormed_5 ?_
  first | refine gx_top (pk_mul _ _) ?_ | skip
  refine gx_istore_n C dX9_isFormed_6 (by decide) ?_
  refine gx_aload_n C dX9_isFormed_7 rfl ?_
  refine gx_get C fd_X9_isFormed_22 (hG := hM.2.1) (hv := by rfl) dX9_isFormed_8 ?_
  refine gx_iload_n C dX9_isFormed_11 rfl ?_
  refine gx_iconst (v := nI 0) C dX9_isFormed_12 (by decide) ?_
  refine gx_iadd C dX9_isFormed_13 ?_
  first | refine gx_top (nI_add _ _) ?_ | skip
  refine gx_iload_n C dX9_isFormed_14 rfl ?_
  refine gx_iastN C (hG := (by first | exact hM.2.2.1 | exact hM.2.2.2.1 | exact hM.2.2.2.2.1 | exact hM.2.2.2.2.2.1 | exact hM.2.2.2.2.2.2)) (hk := by omega) (hn := by omega) dX9_isFormed_15 ?_
  refine gx_rdM hM (fun hM => ?_)
  refine gx_aload_n C dX9_isFormed_16 rfl ?_
  refine gx_get C fd_X9_isFormed_22 (hG := hM.2.1) (hv := by rfl) dX9_isFormed_17 ?_
  refine gx_iload_n C dX9_isFormed_20 rfl ?_
  refine gx_iconst (v := nI 1) C dX9_isFormed_21 (by decide) ?_
  refine gx_iadd C dX9_isFormed_22 ?_
  first | refine gx_top (nI_add _ _) ?_ | skip
  refine gx_aload_n C dX9_isFormed_23 rfl ?_
  refine gx_callV (ci := 8) (T := TX9) (N := 11) C (k9_takesPosition l D A hs hM hT (by omega)) cb_X9_isFormed__X9_takesPosition gX9_isFormed_X9_takesPosition rfl (hG := hM.2.1) rfl rfl (Nat.le_of_ble_eq_true rfl) ⟨Nat.le_refl _, Nat.le_refl _⟩ dX9_isFormed_24 (gx_ki fun r_24 G_24 h_24 => ?_)
  obtain ⟨rfl, hM⟩ := h_24
  rw [show tPos sg (tEnd sg cu) = tP1 sg cu from rfl] at hM ⊢
  refine gx_iastN C (hG := (by first | exact hM.2.2.1 | exact hM.2.2.2.1 | exact hM.2.2.2.2.1 | exact hM.2.2.2.2.2.1 | exact hM.2.2.2.2.2.2)) (hk := by omega) (hn := by omega) dX9_isFormed_27 ?_
  refine gx_rdM hM (fun hM => ?_)
  refine gx_aload_n C dX9_isFormed_28 rfl ?_
  refine gx_get C fd_X9_isFormed_22 (hG := hM.2.1) (hv := by rfl) dX9_isFormed_29 ?_
  refine gx_iload_n C dX9_isFormed_32 rfl ?_
  refine gx_iconst (v := nI 2) C dX9_isFormed_33 (by decide) ?_
  refine gx_iadd C dX9_isFormed_34 ?_
  first | refine gx_top (nI_add _ _) ?_ | skip
  refine gx_iconst (v := 0) C dX9_isFormed_35 (by decide) ?_
  refine gx_iastN C (hG := (by first | exact hM.2.2.1 | exact hM.2.2.2.1 | exact hM.2.2.2.2.1 | exact hM.2.2.2.2.2.1 | exact hM.2.2.2.2.2.2)) (hk := by omega) (hn := by omega) dX9_isFormed_36 ?_
  refine gx_rdM hM (fun hM => ?_)
  refine gx_aload_n C dX9_isFormed_37 rfl ?_
  refine gx_get C fd_X9_isFormed_22 (hG := hM.2.1) (hv := by rfl) dX9_isFormed_38 ?_
  refine gx_iload_n C dX9_isFormed_41 rfl ?_
  refine gx_iconst (v := nI 3) C dX9_isFormed_42 (by decide) ?_
  refine gx_iadd C dX9_isFormed_43 ?_
  first | refine gx_top (nI_add _ _) ?_ | skip
  refine gx_iconst (v := 0) C dX9_isFormed_44 (by decide) ?_
  refine gx_iastN C (hG := (by first | exact hM.2.2.1 | exact hM.2.2.2.1 | exact hM.2.2.2.2.1 | exact hM.2.2.2.2.2.1 | exact hM.2.2.2.2.2.2)) (hk := by omega) (hn := by omega) dX9_isFormed_45 ?_
  refine gx_rdM hM (fun hM => ?_)
  refine gx_aload_n C dX9_isFormed_46 rfl ?_
  refine gx_get C fd_X9_isFormed_22 (hG := hM.2.1) (hv := by rfl) dX9_isFormed_47 ?_
  refine gx_iload_n C dX9_isFormed_50 rfl ?_
  refine gx_iconst (v := nI 1) C dX9_isFormed_51 (by decide) ?_
  refine gx_iadd C dX9_isFormed_52 ?_
  first | refine gx_top (nI_add _ _) ?_ | skip
  refine gx_ialdN C (hG := (by first | exact hM.2.2.1 | exact hM.2.2.2.1 | exact hM.2.2.2.2.1 | exact hM.2.2.2.2.2.1 | exact hM.2.2.2.2.2.2)) (hk := by omega) (hn := by omega) dX9_isFormed_53 ?_
  rw [pk_un (by omega), pk_un (by omega), pk_us]
  refine gx_if_ge (tgt := 59) C dX9_isFormed_54 (by decide) (fun c_54 => ?_) (fun c_54 => ?_)
  · have n1 : ¬ (tP1 sg cu).1 < 0 := Int32.not_lt.mpr c_54
    refine gx_iload_n C dX9_isFormed_59 rfl ?_
    refine gx_if_ne (tgt := 75) C dX9_isFormed_60 (by decide) (fun c_60 => ?_) (fun c_60 => ?_)
    · have e2 := tP2_1 (fun q => c_60 (hk9.symm.trans q))
      rw [show (tP1 sg cu).2 = (tP2 sg cu).2 by rw [e2]] at hM
      first
      | exact hmid _ _ hM ⟨fun q hq2 => by rw [pk_un (by omega), pk_un (by omega), pk_un (by omega), pk_un (by omega)], by rw [pk_un (by omega), pk_un (by omega), pk_un (by omega)]; exact pk_us, by rw [pk_un (by omega), pk_un (by omega), pk_us], by rw [pk_un (by omega), pk_us, e2], pk_us⟩ n1
      | exact hmid _ _ hM ⟨fun q hq2 => by rw [pk_un (by omega), pk_un (by omega), pk_un (by omega), pk_un (by omega), pk_un (by omega)], by rw [pk_un (by omega), pk_un (by omega), pk_un (by omega), pk_un (by omega)]; exact pk_us, by rw [pk_un (by omega), pk_un (by omega), pk_un (by omega), pk_us], by rw [pk_us], by rw [pk_un (by omega), pk_us]⟩ n1
    · have e2 := tP2_0 (hk9.trans c_60)
      refine gx_aload_n C dX9_isFormed_63 rfl ?_
      refine gx_get C fd_X9_isFormed_22 (hG := hM.2.1) (hv := by rfl) dX9_isFormed_64 ?_
      refine gx_iload_n C dX9_isFormed_67 rfl ?_
      refine gx_iconst (v := nI 2) C dX9_isFormed_68 (by decide) ?_
      refine gx_iadd C dX9_isFormed_69 ?_
      first | refine gx_top (nI_add _ _) ?_ | skip
      refine gx_aload_n C dX9_isFormed_70 rfl ?_
      refine gx_callV (ci := 8) (T := TX9) (N := 11) C (k9_takesPosition l D A hs hM hT (by omega)) cb_X9_isFormed__X9_takesPosition gX9_isFormed_X9_takesPosition rfl (hG := hM.2.1) rfl rfl (Nat.le_of_ble_eq_true rfl) ⟨Nat.le_refl _, Nat.le_refl _⟩ dX9_isFormed_71 (gx_ki fun r_71 G_71 h_71 => ?_)
      obtain ⟨rfl, hM⟩ := h_71
      rw [← e2] at hM ⊢
      refine gx_iastN C (hG := (by first | exact hM.2.2.1 | exact hM.2.2.2.1 | exact hM.2.2.2.2.1 | exact hM.2.2.2.2.2.1 | exact hM.2.2.2.2.2.2)) (hk := by omega) (hn := by omega) dX9_isFormed_74 ?_
      refine gx_rdM hM (fun hM => ?_)
      first
      | exact hmid _ _ hM ⟨fun q hq2 => by rw [pk_un (by omega), pk_un (by omega), pk_un (by omega), pk_un (by omega)], by rw [pk_un (by omega), pk_un (by omega), pk_un (by omega)]; exact pk_us, by rw [pk_un (by omega), pk_un (by omega), pk_us], by rw [pk_un (by omega), pk_us, e2], pk_us⟩ n1
      | exact hmid _ _ hM ⟨fun q hq2 => by rw [pk_un (by omega), pk_un (by omega), pk_un (by omega), pk_un (by omega), pk_un (by omega)], by rw [pk_un (by omega), pk_un (by omega), pk_un (by omega), pk_un (by omega)]; exact pk_us, by rw [pk_un (by omega), pk_un (by omega), pk_un (by omega), pk_us], by rw [pk_us], by rw [pk_un (by omega), pk_us]⟩ n1
  · have hb : tBad sg cu := Or.inl (Int32.not_le.mp c_54)
    refine gx_iconst (v := 0) C dX9_isFormed_57 (by decide) ?_
    refine gx_zret (mc := 0) C rfl ?_ dX9_isFormed_58
    exact ⟨_, rfl, _, _, hM, fun q hq2 => by rw [pk_un (by omega), pk_un (by omega), pk_un (by omega), pk_un (by omega)], Or.inr ⟨rfl, hb⟩⟩
set_option maxHeartbeats 600000 in
set_option maxRecDepth 100000 in
/-- X9_isInRange -/
theorem k9_isInRange (l : Launch) (D : gD) (A : Nat → Prop) (hs : Nat) {G : gH} {G0 : gH} {a : Nat} {z0 z1 z2 z3 z4 : Int32} {st pa ty md rd : Nat → Int32} {r k x9 y9 n9 : Nat} (hM : gMa D G0 G a (z0, z1, z2, z3, z4, nI r) st pa ty md rd) (hr9 : r ≤ 8) (h0 : rd (4 * r) = nI k) (h1 : rd (4 * r + 1) = nI x9) (h2 : rd (4 * r + 2) = nI y9) (h3 : st 0 = nI n9) (k6 : k < 6) (hx : x9 < 1000) (hy : y9 < 1000) (hn : n9 ≤ 100) : gM l yX9_isInRange wsX9_isInRange (gR 0) D A hs 0 0 [.ref a] G (gPi fun x G' => x = pOk (nI k) (nI x9) (nI y9) (nI n9) ∧ G' = G) := by
  refine gM_intro (by decide) rfl rfl (Nat.le_of_ble_eq_true rfl) ?_
  intro p e s m args below meth c C
  have hJ : ∀ d : Nat, d = (if k = 1 then 0 else if k = 3 then 2 else 1) → ¬ k = 0 → gX p l e (gR 0) s m args below meth c D A 4 hs 0 0 (MQ below (gQ D A hs 0 (gPi fun x G' => x = pOk (nI k) (nI x9) (nI y9) (nI n9) ∧ G' = G)) args s 0 0 A) G [some (.ref a), some (.int (nI (4 * r))), some (.int (nI k)), some (.int (nI x9))] 90 [.int (nI d), .int (nI n9), .int (nI x9)] := by
    intro d hd k0
    have d3 : d < 3 := by rw [hd]; split <;> (try split) <;> omega
    refine gx_isub C dX9_isInRange_90 ?_
    refine gx_icmp_gt (tgt := 98) C dX9_isInRange_91 (by decide) (fun c_91 => ?_) (fun c_91 => ?_)
    · have e : pOk (nI k) (nI x9) (nI y9) (nI n9) = 0 := by rw [pOk_k k6 k0 hx (by omega), ← hd, if_neg ((rg_i (by omega) (by omega) (by omega)).mp c_91)]
      refine gx_iconst (v := 0) C dX9_isInRange_98 (by decide) ?_
      refine gx_zret (mc := 0) C rfl ?_ dX9_isInRange_99
      exact ⟨_, rfl, e.symm, rfl⟩
    · have e : pOk (nI k) (nI x9) (nI y9) (nI n9) = 1 := by rw [pOk_k k6 k0 hx (by omega), ← hd, if_pos (Decidable.not_not.mp (fun q => c_91 ((rg_i (by omega) (by omega) (by omega)).mpr q)))]
      refine gx_iconst (v := 1) C dX9_isInRange_94 (by decide) ?_
      refine gx_goto (tgt := 99) C dX9_isInRange_95 (by decide) ?_
      refine gx_zret (mc := 0) C rfl ?_ dX9_isInRange_99
      exact ⟨_, rfl, e.symm, rfl⟩
  refine gx_iconst (v := nI 4) C dX9_isInRange_0 (by decide) ?_
  refine gx_aload_n C dX9_isInRange_1 rfl ?_
  refine gx_get C fd_X9_isInRange_164 (hG := hM.2.1) (hv := by rfl) dX9_isInRange_2 ?_
  refine gx_imul C dX9_isInRange_5 ?_
  first | refine gx_top (pk_mul _ _) ?_ | skip
  refine gx_istore_n C dX9_isInRange_6 (by decide) ?_
  refine gx_aload_n C dX9_isInRange_7 rfl ?_
  refine gx_get C fd_X9_isInRange_22 (hG := hM.2.1) (hv := by rfl) dX9_isInRange_8 ?_
  refine gx_iload_n C dX9_isInRange_11 rfl ?_
  refine gx_iconst (v := nI 0) C dX9_isInRange_12 (by decide) ?_
  refine gx_iadd C dX9_isInRange_13 ?_
  first | refine gx_top (nI_add _ _) ?_ | skip
  refine gx_ialdN C (hG := (by first | exact hM.2.2.1 | exact hM.2.2.2.1 | exact hM.2.2.2.2.1 | exact hM.2.2.2.2.2.1 | exact hM.2.2.2.2.2.2)) (hk := by omega) (hn := by omega) dX9_isInRange_14 ?_
  rw [show rd (4 * r + 0) = nI k from h0]
  refine gx_istore_n C dX9_isInRange_15 (by decide) ?_
  refine gx_aload_n C dX9_isInRange_16 rfl ?_
  refine gx_get C fd_X9_isInRange_22 (hG := hM.2.1) (hv := by rfl) dX9_isInRange_17 ?_
  refine gx_iload_n C dX9_isInRange_20 rfl ?_
  refine gx_iconst (v := nI 1) C dX9_isInRange_21 (by decide) ?_
  refine gx_iadd C dX9_isInRange_22 ?_
  first | refine gx_top (nI_add _ _) ?_ | skip
  refine gx_ialdN C (hG := (by first | exact hM.2.2.1 | exact hM.2.2.2.1 | exact hM.2.2.2.2.1 | exact hM.2.2.2.2.2.1 | exact hM.2.2.2.2.2.2)) (hk := by omega) (hn := by omega) dX9_isInRange_23 ?_
  rw [h1]
  refine gx_istore_n C dX9_isInRange_24 (by decide) ?_
  refine gx_iload_n C dX9_isInRange_25 rfl ?_
  refine gx_if_ne (tgt := 64) C dX9_isInRange_26 (by decide) (fun c_26 => ?_) (fun c_26 => ?_)
  · have k0 : ¬ k = 0 := fun q => c_26 (by rw [q]; rfl)
    refine gx_iload_n C dX9_isInRange_64 rfl ?_
    refine gx_aload_n C dX9_isInRange_65 rfl ?_
    refine gx_get C fd_X9_isInRange_7 (hG := hM.2.1) (hv := by rfl) dX9_isInRange_66 ?_
    refine gx_iconst (v := nI 0) C dX9_isInRange_69 (by decide) ?_
    refine gx_ialdN C (hG := (by first | exact hM.2.2.1 | exact hM.2.2.2.1 | exact hM.2.2.2.2.1 | exact hM.2.2.2.2.2.1 | exact hM.2.2.2.2.2.2)) (hk := by omega) (hn := by omega) dX9_isInRange_70 ?_
    rw [h3]
    refine gx_iload_n C dX9_isInRange_71 rfl ?_
    refine gx_iconst (v := 1) C dX9_isInRange_72 (by decide) ?_
    refine gx_icmp_ne (tgt := 80) C dX9_isInRange_73 (by decide) (fun c_73 => ?_) (fun c_73 => ?_)
    · have n1 : ¬ k = 1 := fun q => c_73 (by rw [q]; rfl)
      refine gx_iload_n C dX9_isInRange_80 rfl ?_
      refine gx_iconst (v := 3) C dX9_isInRange_81 (by decide) ?_
      refine gx_icmp_ne (tgt := 89) C dX9_isInRange_82 (by decide) (fun c_82 => ?_) (fun c_82 => ?_)
      · have hd : 1 = (if k = 1 then 0 else if k = 3 then 2 else 1) := by rw [if_neg n1, if_neg (fun q => c_82 (by rw [q]; rfl))]
        refine gx_iconst (v := nI 1) C dX9_isInRange_89 (by decide) ?_
        exact hJ _ hd k0
      · have hd : 2 = (if k = 1 then 0 else if k = 3 then 2 else 1) := by rw [if_neg n1, if_pos ((nI_eq (b := 3) (by omega) (by omega)).mp c_82)]
        refine gx_iconst (v := nI 2) C dX9_isInRange_85 (by decide) ?_
        refine gx_goto (tgt := 90) C dX9_isInRange_86 (by decide) ?_
        exact hJ _ hd k0
    · have hd : 0 = (if k = 1 then 0 else if k = 3 then 2 else 1) := by rw [if_pos ((nI_eq (b := 1) (by omega) (by omega)).mp c_73)]
      refine gx_iconst (v := nI 0) C dX9_isInRange_76 (by decide) ?_
      refine gx_goto (tgt := 90) C dX9_isInRange_77 (by decide) ?_
      exact hJ _ hd k0
  · have k0 : k = 0 := (nI_eq (b := 0) (by omega) (by omega)).mp c_26
    have e0 : pOk (nI k) (nI x9) (nI y9) (nI n9) = if x9 < y9 ∧ y9 ≤ n9 then 1 else 0 := by
      rw [k0]
      exact pOk_0 hx hy (by omega)
    refine gx_iload_n C dX9_isInRange_29 rfl ?_
    refine gx_aload_n C dX9_isInRange_30 rfl ?_
    refine gx_get C fd_X9_isInRange_22 (hG := hM.2.1) (hv := by rfl) dX9_isInRange_31 ?_
    refine gx_iload_n C dX9_isInRange_34 rfl ?_
    refine gx_iconst (v := nI 2) C dX9_isInRange_35 (by decide) ?_
    refine gx_iadd C dX9_isInRange_36 ?_
    first | refine gx_top (nI_add _ _) ?_ | skip
    refine gx_ialdN C (hG := (by first | exact hM.2.2.1 | exact hM.2.2.2.1 | exact hM.2.2.2.2.1 | exact hM.2.2.2.2.2.1 | exact hM.2.2.2.2.2.2)) (hk := by omega) (hn := by omega) dX9_isInRange_37 ?_
    rw [h2]
    refine gx_icmp_ge (tgt := 62) C dX9_isInRange_38 (by decide) (fun c_38 => ?_) (fun c_38 => ?_)
    · have e : pOk (nI k) (nI x9) (nI y9) (nI n9) = 0 := e0.trans (if_neg (fun q => by have := (nI_leI (by omega) (by omega)).mp c_38; omega))
      refine gx_iconst (v := 0) C dX9_isInRange_62 (by decide) ?_
      refine gx_zret (mc := 0) C rfl ?_ dX9_isInRange_63
      exact ⟨_, rfl, e.symm, rfl⟩
    · refine gx_aload_n C dX9_isInRange_41 rfl ?_
      refine gx_get C fd_X9_isInRange_22 (hG := hM.2.1) (hv := by rfl) dX9_isInRange_42 ?_
      refine gx_iload_n C dX9_isInRange_45 rfl ?_
      refine gx_iconst (v := nI 2) C dX9_isInRange_46 (by decide) ?_
      refine gx_iadd C dX9_isInRange_47 ?_
      first | refine gx_top (nI_add _ _) ?_ | skip
      refine gx_ialdN C (hG := (by first | exact hM.2.2.1 | exact hM.2.2.2.1 | exact hM.2.2.2.2.1 | exact hM.2.2.2.2.2.1 | exact hM.2.2.2.2.2.2)) (hk := by omega) (hn := by omega) dX9_isInRange_48 ?_
      rw [h2]
      refine gx_aload_n C dX9_isInRange_49 rfl ?_
      refine gx_get C fd_X9_isInRange_7 (hG := hM.2.1) (hv := by rfl) dX9_isInRange_50 ?_
      refine gx_iconst (v := nI 0) C dX9_isInRange_53 (by decide) ?_
      refine gx_ialdN C (hG := (by first | exact hM.2.2.1 | exact hM.2.2.2.1 | exact hM.2.2.2.2.1 | exact hM.2.2.2.2.2.1 | exact hM.2.2.2.2.2.2)) (hk := by omega) (hn := by omega) dX9_isInRange_54 ?_
      rw [h3]
      refine gx_icmp_gt (tgt := 62) C dX9_isInRange_55 (by decide) (fun c_55 => ?_) (fun c_55 => ?_)
      · have e : pOk (nI k) (nI x9) (nI y9) (nI n9) = 0 := e0.trans (if_neg (fun q => by have := (nI_ltI (by omega) (by omega)).mp c_55; omega))
        refine gx_iconst (v := 0) C dX9_isInRange_62 (by decide) ?_
        refine gx_zret (mc := 0) C rfl ?_ dX9_isInRange_63
        exact ⟨_, rfl, e.symm, rfl⟩
      · have e : pOk (nI k) (nI x9) (nI y9) (nI n9) = 1 := e0.trans (if_pos (by
          have q1 : ¬ y9 ≤ x9 := fun q => c_38 (nI_le q (by omega))
          have q2 : ¬ n9 < y9 := fun q => c_55 (nI_lt q (by omega))
          omega))
        refine gx_iconst (v := 1) C dX9_isInRange_58 (by decide) ?_
        refine gx_goto (tgt := 63) C dX9_isInRange_59 (by decide) ?_
        refine gx_zret (mc := 0) C rfl ?_ dX9_isInRange_63
        exact ⟨_, rfl, e.symm, rfl⟩
