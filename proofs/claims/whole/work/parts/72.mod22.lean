/-! THE MODEL: fault, write -/
theorem oFault_s {i w : Int32} {t : TS} {j : Nat} (o1 : oIx i t.1.2.2.1.length = some j) : oFault i w t = if pOut w 0 1 = 1 then -1 else if (oRead t j).2.2 = 0 then -4 else if w = 0 then nI (oRead t j).1 else (oRead t j).2.2 := by
  unfold oFault
  rw [o1]
theorem oWrite_s {i : Int32} {t : TS} {j : Nat} (o1 : oIx i t.1.2.2.1.length = some j) : oWrite i t = if ¬ (oShj t j).2.1 = 0 ∨ ¬ (oRead t j).2.2 = 0 then (-2, t) else (nI (oRead t j).2.1.length, (oWrT t j, pRec t.2.1 t.1, t.2.2)) := by
  unfold oWrite
  rw [o1]
theorem sR_wr {st f : Nat → Int32} {t : TS} {j r : Nat} (h : sR st t.1) (hj : j < t.1.2.2.1.length) (hr : r < 6) (hsr : (oShj t j).1 = nI r) (hne : ¬ (oShj t j).2.1 = 3) (h8 : (oShj t j).2.2.length + (oRead t j).2.1.length ≤ 8) (e2 : f (127 + 35 * j + 2) = nI ((oShj t j).2.2.length + (oRead t j).2.1.length)) (em : ∀ k : Nat, k < (oRead t j).2.1.length → mkR f (127 + 35 * j + 3 + 4 * ((oShj t j).2.2.length + k)) ((oRead t j).2.1.getD k 0) ∧ iOk ((oRead t j).2.1.getD k 0) t.1.1.length)
    (e4 : f 4 = st 4 + nI (oRead t j).2.1.length) (e9 : f (9 + 3 * r + 1) = st (9 + 3 * r + 1) + nI (oRead t j).2.1.length) (e : ∀ q : Nat, q < 855 → q ≠ 4 → q ≠ 9 + 3 * r + 1 → q ≠ 127 + 35 * j + 2 → (q < 127 + 35 * j + 3 + 4 * (oShj t j).2.2.length ∨ 127 + 35 * j + 3 + 4 * ((oShj t j).2.2.length + (oRead t j).2.1.length) ≤ q) → f q = st q) : sR f (oWrT t j) := by
  obtain ⟨g0, g1, g2, g3, g4, g5, g6⟩ := h
  have sj := g2.2.2 j hj
  have m8 : (oShj t j).2.2.length ≤ 8 := sj.2.2.2.1
  have l2 := g2.2.1
  unfold oWrT
  rw [hsr]
  refine ⟨sTx_cg g0 (fun q hq hb => e q hq (by omega) (by omega) (by omega) (by omega)), by rw [e 1 (by omega) (by omega) (by omega) (by omega) (by omega)]; exact g1, ⟨?_, ?_, fun i hi => ?_⟩, sLi_cg g3 (Nat.le_refl _) (fun q hq hb => e q hq (by omega) (by omega) (by omega) (by omega)), ?_, g5, ?_⟩
  · rw [e 2 (by omega) (by omega) (by omega) (by omega) (by omega)]
    show st 2 = nI (t.1.2.2.1.set j _).length
    rw [List.length_set]
    exact g2.1
  · show (t.1.2.2.1.set j _).length ≤ 8
    rw [List.length_set]
    exact l2
  · have hi2 : i < t.1.2.2.1.length := by
      have hi3 : i < (t.1.2.2.1.set j _).length := hi
      rw [List.length_set] at hi3
      exact hi3
    show shR f (127 + 35 * i) ((t.1.2.2.1.set j _).getD i shD) _
    by_cases q : i = j
    · subst q
      rw [gSs_eq hj]
      obtain ⟨c0, c1, c2, c3, c4, c5, c6⟩ := sj
      have hl : ((oShj t i).2.2 ++ (oRead t i).2.1).length = (oShj t i).2.2.length + (oRead t i).2.1.length := List.length_append
      refine ⟨?_, ?_, ?_, ?_, ⟨r, hr, rfl⟩, c5, fun k hk => ?_⟩
      · rw [e _ (by omega) (by omega) (by omega) (by omega) (by omega)]
        exact c0.trans hsr
      · rw [e _ (by omega) (by omega) (by omega) (by omega) (by omega)]
        exact c1
      · show f (127 + 35 * i + 2) = nI ((oShj t i).2.2 ++ (oRead t i).2.1).length
        rw [hl]
        exact e2
      · show ((oShj t i).2.2 ++ (oRead t i).2.1).length ≤ 8
        omega
      · have hk : k < ((oShj t i).2.2 ++ (oRead t i).2.1).length := hk
        show mkR f (127 + 35 * i + 3 + 4 * k) (((oShj t i).2.2 ++ (oRead t i).2.1).getD k 0) ∧ iOk (((oShj t i).2.2 ++ (oRead t i).2.1).getD k 0) _
        rw [hl] at hk
        by_cases q : k < (oShj t i).2.2.length
        · rw [gDa_l q]
          exact ⟨mkR_cg (c6 k q).1 (fun y hy => e _ (by omega) (by omega) (by omega) (by omega) (by omega)), (c6 k q).2⟩
        · have e5 : ((oShj t i).2.2 ++ (oRead t i).2.1).getD k 0 = (oRead t i).2.1.getD (k - (oShj t i).2.2.length) 0 := by
            rw [List.getD_eq_getElem?_getD, List.getElem?_append_right (by omega), ← List.getD_eq_getElem?_getD]
          have e6 := em (k - (oShj t i).2.2.length) (by omega)
          rw [show (oShj t i).2.2.length + (k - (oShj t i).2.2.length) = k by omega] at e6
          rw [e5]
          exact e6
    · rw [gSs_ne (Ne.symm q)]
      exact shR_cg (g2.2.2 i hi2) (Nat.le_refl _) (fun y hy => e _ (by omega) (by omega) (by omega) (by omega) (by omega))
  · have a1 := sAc_0 (f := upd st 4 (st 4 + nI (oRead t j).2.1.length)) (k := 0) (y := nI (oRead t j).2.1.length) g4 (by decide) (by rw [← g4.2.2.2.2.1 0 (by decide)]; exact pk_us) (fun q hq hd => pk_un (by omega))
    exact sAc_2 (k := r) (y := nI (oRead t j).2.1.length) a1 hr (by rw [e9, (g4.2.2.2.2.2 r hr).2.1]) (fun q hq hd => by
      by_cases y : q = 4
      · rw [y, pk_us, e4]
      · rw [pk_un y]
        exact e q (by omega) y hd (by omega) (by omega))
  · show t.1.2.2.2.1.1.length ≤ 8 * pShN (t.1.2.2.1.set j _) 3 (t.1.2.2.1.set j _).length
    rw [List.length_set]
    have q1 : pShN t.1.2.2.1 3 t.1.2.2.1.length ≤ pShN (t.1.2.2.1.set j (nI r, (oShj t j).2.1, (oShj t j).2.2 ++ (oRead t j).2.1)) 3 t.1.2.2.1.length := pShN_le (fun i hi hq => by
      by_cases y : i = j
      · subst y
        exact absurd hq hne
      · rw [gSs_ne (Ne.symm y)]
        exact hq)
    have q3 : t.1.2.2.2.1.1.length ≤ 8 * pShN t.1.2.2.1 3 t.1.2.2.1.length := g6
    omega
theorem cb_X9_fault__X9_isSheet : gCb yX9_isSheet cX9_isSheet 2 (some .boolean) wsX9_isSheet (gR 1) (gR 6) 0 0 1 := ⟨rfl, rfl, rfl, by decide +kernel, by decide⟩
theorem cb_X9_fault__X9_in : gCb yX9_in cX9_in 3 (some .boolean) wsX9_in (gR 0) (gR 6) 0 0 3 := ⟨rfl, rfl, rfl, by decide +kernel, by decide⟩
theorem cb_X9_fault__X9_readsAll : gCb yX9_readsAll cX9_readsAll 3 (some .int) wsX9_readsAll (gR 5) (gR 6) 0 0 1 := ⟨rfl, rfl, rfl, by decide +kernel, by decide⟩
set_option maxRecDepth 20000 in
theorem in_X9_fault_X9 : ∀ w ∈ wsX90, w ∈ wsX9_fault := by decide +kernel
set_option maxRecDepth 20000 in
theorem fd_X9_fault_170 : gFd wsX9_fault RX9 170 8 RX9 TX9 11 7 := ⟨in_X9_fault_X9, rfl, by decide, by decide +kernel⟩
set_option maxRecDepth 20000 in
theorem in_X9_write_X9 : ∀ w ∈ wsX90, w ∈ wsX9_write := by decide +kernel
set_option maxRecDepth 20000 in
theorem fd_X9_write_164 : gFd wsX9_write RX9 164 8 RX9 TX9 11 10 := ⟨in_X9_write_X9, rfl, by decide, by decide +kernel⟩
set_option maxRecDepth 20000 in
theorem fd_X9_write_7 : gFd wsX9_write RX9 7 8 RX9 TX9 11 0 := ⟨in_X9_write_X9, rfl, by decide, by decide +kernel⟩
theorem cb_X9_write__X9_sheetAt : gCb yX9_sheetAt cX9_sheetAt 1 (some .int) wsX9_sheetAt (gR 0) (gR 6) 0 0 1 := ⟨rfl, rfl, rfl, by decide +kernel, by decide⟩
theorem cb_X9_write__X9_of : gCb yX9_of cX9_of 3 (some .int) wsX9_of (gR 0) (gR 6) 0 0 2 := ⟨rfl, rfl, rfl, by decide +kernel, by decide⟩
set_option maxRecDepth 20000 in
theorem fd_X9_write_22 : gFd wsX9_write RX9 22 8 RX9 TX9 11 9 := ⟨in_X9_write_X9, rfl, by decide, by decide +kernel⟩
theorem cb_X9_write__X9_isSheet : gCb yX9_isSheet cX9_isSheet 2 (some .boolean) wsX9_isSheet (gR 1) (gR 6) 0 0 1 := ⟨rfl, rfl, rfl, by decide +kernel, by decide⟩
theorem cb_X9_write__X9_readsAll : gCb yX9_readsAll cX9_readsAll 3 (some .int) wsX9_readsAll (gR 5) (gR 6) 0 0 1 := ⟨rfl, rfl, rfl, by decide +kernel, by decide⟩
theorem cb_X9_write__X9_records : gCb yX9_records cX9_records 2 none wsX9_records (gR 0) (gR 6) 0 0 0 := ⟨rfl, rfl, rfl, by decide +kernel, by decide⟩
theorem cb_X9_write__X9_markOf : gCb yX9_markOf cX9_markOf 2 (some .int) wsX9_markOf (gR 0) (gR 6) 0 0 2 := ⟨rfl, rfl, rfl, by decide +kernel, by decide⟩
set_option maxHeartbeats 600000 in
set_option maxRecDepth 100000 in
/-- X9_fault -/
theorem k9_fault (l : Launch) (D : gD) (A : Nat → Prop) (hs : Nat) {G : gH} {G0 : gH} {a : Nat} {t : TS} (h : gMw D G0 G a t) (i w : Int32) : gM l yX9_fault wsX9_fault (gR 6) D A hs 0 0 [.ref a, .int i, .int w] G (gPi fun x G' => x = oFault i w t ∧ gMw D G0 G' a t) := by
  refine gM_intro (by decide) rfl rfl (Nat.le_of_ble_eq_true rfl) ?_
  intro p e s m args below meth c C
  obtain ⟨st, pa, ty, md, rd, w5, hM, hR, hH, hT⟩ := h
  have h4 := hH.1
  have ht := hT.1
  have l1 := hR.1.2.1
  have l2 := hR.2.2.1.2.1
  refine gx_aload_n C dX9_fault_0 rfl ?_
  refine gx_iload_n C dX9_fault_1 rfl ?_
  refine gx_callV (ci := 8) (T := TX9) (N := 11) C (k9_isSheet l D A hs hM.2.1 hM.2.2.1 hR i) cb_X9_fault__X9_isSheet gX9_fault_X9_isSheet rfl (hG := hM.2.1) rfl rfl (Nat.le_of_ble_eq_true rfl) ⟨Nat.le_refl _, Nat.le_refl _⟩ dX9_fault_2 (gx_ki fun r_2 G_2 h_2 => ?_)
  obtain ⟨rfl, rfl⟩ := h_2
  refine gx_if_eq (tgt := 17) C dX9_fault_5 (by decide) (fun c_5 => ?_) (fun c_5 => ?_)
  · have e : oFault i w t = -1 := by
      unfold oFault
      rw [oIx_no (gz_if0 c_5)]
    refine gx_iconst (v := (-1)) C dX9_fault_17 (by decide) ?_
    refine gx_zret (mc := 0) C rfl ?_ dX9_fault_18
    exact ⟨_, rfl, e.symm, gMw_mk hM hR hH hT⟩
  · have hi := gz_if1 c_5
    obtain ⟨j, hj, rfl⟩ := gIn_ex hi (by omega)
    have o1 : oIx (nI j) t.1.2.2.1.length = some j := oIx_in hj (by omega)
    have sj8 : shR st (127 + 35 * j) (oShj t j) t.1.1.length := hR.2.2.1.2.2 j hj
    have e0 := oFault_s (w := w) o1
    refine gx_iload_n C dX9_fault_8 rfl ?_
    refine gx_iconst (v := 0) C dX9_fault_9 (by decide) ?_
    refine gx_iconst (v := 1) C dX9_fault_10 (by decide) ?_
    refine gx_callS C (k9_in l D A hs w 0 1) cb_X9_fault__X9_in gX9_fault_X9_in rfl rfl (Nat.le_of_ble_eq_true rfl) ⟨Nat.le_refl _, Nat.le_refl _⟩ dX9_fault_11 (gx_ki fun r_11 G_11 h_11 => ?_)
    obtain ⟨rfl, rfl⟩ := h_11
    refine gx_if_ne (tgt := 19) C dX9_fault_14 (by decide) (fun c_14 => ?_) (fun c_14 => ?_)
    · rw [if_neg (gz_p c_14)] at e0
      refine gx_aload_n C dX9_fault_19 rfl ?_
      refine gx_iload_n C dX9_fault_20 rfl ?_
      refine gx_callV (ci := 8) (T := TX9) (N := 11) C (k9_readsAll l D A hs hM hT sj8 (by omega) hR.1.1 hR.1.2.1) cb_X9_fault__X9_readsAll gX9_fault_X9_readsAll rfl (hG := hM.2.1) rfl rfl (Nat.le_of_ble_eq_true rfl) ⟨Nat.le_refl _, Nat.le_refl _⟩ dX9_fault_21 (gx_ki fun r_21 G_21 h_21 => ?_)
      obtain ⟨rfl, z3, z4, z5, rd2, hM, hz3, hz5⟩ := h_21
      refine gx_istore_n C dX9_fault_24 (by decide) ?_
      refine gx_iload_n C dX9_fault_25 rfl ?_
      refine gx_if_ne (tgt := 34) C dX9_fault_26 (by decide) (fun c_26 => ?_) (fun c_26 => ?_)
      · have c26 : ¬ (oRead t j).2.2 = 0 := c_26
        rw [if_neg c26] at e0
        have hz3 := hz3 c_26
        refine gx_iload_n C dX9_fault_34 rfl ?_
        refine gx_if_ne (tgt := 45) C dX9_fault_35 (by decide) (fun c_35 => ?_) (fun c_35 => ?_)
        · have e : oFault (nI j) w t = (oRead t j).2.2 := by rw [e0, if_neg c_35]
          refine gx_iload_n C dX9_fault_45 rfl ?_
          refine gx_zret (mc := 0) C rfl ?_ dX9_fault_46
          first
          | exact ⟨_, rfl, e.symm, gMw_mk hM hR hH hT⟩
          | exact ⟨_, rfl, hz3.trans e.symm, gMw_mk hM hR hH hT⟩
        · have e : oFault (nI j) w t = nI (oRead t j).1 := by rw [e0, if_pos c_35]
          refine gx_aload_n C dX9_fault_38 rfl ?_
          refine gx_get C fd_X9_fault_170 (hG := hM.2.1) (hv := by rfl) dX9_fault_39 ?_
          refine gx_goto (tgt := 46) C dX9_fault_42 (by decide) ?_
          refine gx_zret (mc := 0) C rfl ?_ dX9_fault_46
          first
          | exact ⟨_, rfl, e.symm, gMw_mk hM hR hH hT⟩
          | exact ⟨_, rfl, hz3.trans e.symm, gMw_mk hM hR hH hT⟩
      · have e : oFault (nI j) w t = -4 := by rw [e0]; exact if_pos c_26
        refine gx_bipush (v := (-4)) C dX9_fault_29 (by decide) ?_
        refine gx_goto (tgt := 46) C dX9_fault_31 (by decide) ?_
        refine gx_zret (mc := 0) C rfl ?_ dX9_fault_46
        first
        | exact ⟨_, rfl, e.symm, gMw_mk hM hR hH hT⟩
        | exact ⟨_, rfl, hz3.trans e.symm, gMw_mk hM hR hH hT⟩
    · have e : oFault (nI j) w t = -1 := by rw [e0, if_pos (gz_o pOut_b c_14)]
      refine gx_iconst (v := (-1)) C dX9_fault_17 (by decide) ?_
      refine gx_zret (mc := 0) C rfl ?_ dX9_fault_18
      exact ⟨_, rfl, e.symm, gMw_mk hM hR hH hT⟩
set_option maxHeartbeats 600000 in
set_option maxRecDepth 100000 in
/-- X9_write -/
theorem k9_write (l : Launch) (D : gD) (A : Nat → Prop) (hs : Nat) {G : gH} {G0 : gH} {a : Nat} {t : TS} (h : gMw D G0 G a t) (i : Int32) : gM l yX9_write wsX9_write (gR 6) D A hs 0 0 [.ref a, .int i] G (gPi fun x G' => x = (oWrite i t).1 ∧ gMw D G0 G' a (oWrite i t).2) := by
  refine gM_intro (by decide) rfl rfl (Nat.le_of_ble_eq_true rfl) ?_
  intro p e s m args below meth c C
  obtain ⟨st, pa, ty, md, rd, w, hM, hR, hH, hT⟩ := h
  have h4 := hH.1
  have ht := hT.1
  have l1 := hR.1.2.1
  have l2 := hR.2.2.1.2.1
  have hone : ∀ (j0 r : Nat) (z2 z3 z4 : Int32) (pa2 rd2 : Nat → Int32) (G1 : gH), j0 < t.1.2.2.1.length → (oShj t j0).2.1 = 0 → r < 6 → (oShj t j0).1 = nI r → (oRead t j0).2.2 = 0 → (oShj t j0).2.2.length + (oRead t j0).2.1.length ≤ 8 → (∀ k : Nat, k < (oRead t j0).2.1.length → mkR rd2 (4 * k) ((oRead t j0).2.1.getD k 0) ∧ iOk ((oRead t j0).2.1.getD k 0) t.1.1.length) → hiR pa2 (pRec t.2.1 t.1) → gMa D G0 G1 a (nI (pRec t.2.1 t.1).length, nI t.2.2.length, z2, z3, z4, nI (oRead t j0).2.1.length) st pa2 ty md rd2 → gX p l e (gR 6) s m args below meth c D A 4 hs 0 0 (MQ below (gQ D A hs 0 (gPi fun x G' => x = (oWrite (nI j0) t).1 ∧ gMw D G0 G' a (oWrite (nI j0) t).2)) args s 0 0 A) G1 [some (.ref a), some (.int (nI j0)), some (.int (nI (127 + 35 * j0 + 3 + 4 * (oShj t j0).2.2.length))), some (.int (nI 0))] 47 [] := by
    intro j0 r z2 z3 z4 pa2 rd2 G1 hjs h0 hr hsr hz h88 hrows hH hM1
    have sj := hR.2.2.1.2.2 j0 hjs
    have m8 : (oShj t j0).2.2.length ≤ 8 := sj.2.2.2.1
    have o1 : oIx (nI j0) t.1.2.2.1.length = some j0 := oIx_in hjs (by omega)
    have hloop : ∀ (n j : Nat) (G1 : gH), 4 * (oRead t j0).2.1.length < j + n → j ≤ 4 * (oRead t j0).2.1.length → gMa D G0 G1 a (nI (pRec t.2.1 t.1).length, nI t.2.2.length, z2, z3, z4, nI (oRead t j0).2.1.length) (cpy st rd2 (127 + 35 * j0 + 3 + 4 * (oShj t j0).2.2.length) j) pa2 ty md rd2 → gX p l e (gR 6) s m args below meth c D A 4 hs 0 0 (MQ below (gQ D A hs 0 (gPi fun x G' => x = (oWrite (nI j0) t).1 ∧ gMw D G0 G' a (oWrite (nI j0) t).2)) args s 0 0 A) G1 [some (.ref a), some (.int (nI j0)), some (.int (nI (127 + 35 * j0 + 3 + 4 * (oShj t j0).2.2.length))), some (.int (nI j))] 47 [] := by
      intro n
      induction n with
      | zero => intro j G1 hm hj0 hI; exact absurd hm (by omega)
      | succ n ih =>
        intro j G1 hm hj0 hI
        have hM := hI
        refine gx_iload_n C dX9_write_47 rfl ?_
        refine gx_iconst (v := nI 4) C dX9_write_48 (by decide) ?_
        refine gx_aload_n C dX9_write_49 rfl ?_
        refine gx_get C fd_X9_write_164 (hG := hM.2.1) (hv := by rfl) dX9_write_50 ?_
        refine gx_imul C dX9_write_53 ?_
        first | refine gx_top (pk_mul _ _) ?_ | skip
        refine gx_icmp_ge (tgt := 77) C dX9_write_54 (by decide) (fun c_54 => ?_) (fun c_54 => ?_)
        · have hj : ¬ j < 4 * (oRead t j0).2.1.length := fun q => nI_ge q (by omega) c_54
          obtain rfl : j = 4 * (oRead t j0).2.1.length := by omega
          refine gx_aload_n C dX9_write_77 rfl ?_
          refine gx_get C fd_X9_write_7 (hG := hM.2.1) (hv := by rfl) dX9_write_78 ?_
          refine gx_iload_n C dX9_write_81 rfl ?_
          refine gx_callS C (k9_sheetAt l D A hs j0) cb_X9_write__X9_sheetAt gX9_write_X9_sheetAt rfl rfl (Nat.le_of_ble_eq_true rfl) ⟨Nat.le_refl _, Nat.le_refl _⟩ dX9_write_82 (gx_ki fun r_82 G_82 h_82 => ?_)
          obtain ⟨rfl, rfl⟩ := h_82
          refine gx_iconst (v := nI 2) C dX9_write_85 (by decide) ?_
          refine gx_iadd C dX9_write_86 ?_
          first | refine gx_top (nI_add _ _) ?_ | skip
          refine gx_dup2 C dX9_write_87 rfl rfl ?_
          refine gx_ialdN C (hG := (by first | exact hM.2.2.1 | exact hM.2.2.2.1 | exact hM.2.2.2.2.1 | exact hM.2.2.2.2.2.1 | exact hM.2.2.2.2.2.2)) (hk := by omega) (hn := by omega) dX9_write_88 ?_
          rw [cpy_out (by omega), show st (127 + 35 * j0 + 2) = nI (oShj t j0).2.2.length from sj.2.2.1]
          refine gx_aload_n C dX9_write_89 rfl ?_
          refine gx_get C fd_X9_write_164 (hG := hM.2.1) (hv := by rfl) dX9_write_90 ?_
          refine gx_iadd C dX9_write_93 ?_
          first | refine gx_top (nI_add _ _) ?_ | skip
          refine gx_iastN C (hG := (by first | exact hM.2.2.1 | exact hM.2.2.2.1 | exact hM.2.2.2.2.1 | exact hM.2.2.2.2.2.1 | exact hM.2.2.2.2.2.2)) (hk := by omega) (hn := by omega) dX9_write_94 ?_
          refine gx_stM hM (fun hM => ?_)
          refine gx_aload_n C dX9_write_95 rfl ?_
          refine gx_get C fd_X9_write_7 (hG := hM.2.1) (hv := by rfl) dX9_write_96 ?_
          refine gx_iconst (v := nI 4) C dX9_write_99 (by decide) ?_
          refine gx_dup2 C dX9_write_100 rfl rfl ?_
          refine gx_ialdN C (hG := (by first | exact hM.2.2.1 | exact hM.2.2.2.1 | exact hM.2.2.2.2.1 | exact hM.2.2.2.2.2.1 | exact hM.2.2.2.2.2.2)) (hk := by omega) (hn := by omega) dX9_write_101 ?_
          rw [pk_un (by omega), cpy_out (by omega)]
          refine gx_aload_n C dX9_write_102 rfl ?_
          refine gx_get C fd_X9_write_164 (hG := hM.2.1) (hv := by rfl) dX9_write_103 ?_
          refine gx_iadd C dX9_write_106 ?_
          first | refine gx_top (nI_add _ _) ?_ | skip
          refine gx_iastN C (hG := (by first | exact hM.2.2.1 | exact hM.2.2.2.1 | exact hM.2.2.2.2.1 | exact hM.2.2.2.2.2.1 | exact hM.2.2.2.2.2.2)) (hk := by omega) (hn := by omega) dX9_write_107 ?_
          refine gx_stM hM (fun hM => ?_)
          refine gx_aload_n C dX9_write_108 rfl ?_
          refine gx_get C fd_X9_write_7 (hG := hM.2.1) (hv := by rfl) dX9_write_109 ?_
          refine gx_bipush (v := nI 9) C dX9_write_112 (by decide) ?_
          refine gx_iconst (v := nI 3) C dX9_write_114 (by decide) ?_
          refine gx_aload_n C dX9_write_115 rfl ?_
          refine gx_iload_n C dX9_write_116 rfl ?_
          refine gx_iconst (v := nI 0) C dX9_write_117 (by decide) ?_
          refine gx_callV (ci := 8) (T := TX9) (N := 11) C (k9_of l D A hs hM.2.1 hM.2.2.1 j0 0 (by omega)) cb_X9_write__X9_of gX9_write_X9_of rfl (hG := hM.2.1) rfl rfl (Nat.le_of_ble_eq_true rfl) ⟨Nat.le_refl _, Nat.le_refl _⟩ dX9_write_118 (gx_ki fun r_118 G_118 h_118 => ?_)
          obtain ⟨rfl, rfl⟩ := h_118
          rw [pk_un (by omega), pk_un (by omega), cpy_out (by omega), show st (127 + 35 * j0 + 0) = nI r from sj.1.trans hsr]
          refine gx_imul C dX9_write_121 ?_
          first | refine gx_top (pk_mul _ _) ?_ | skip
          refine gx_iadd C dX9_write_122 ?_
          first | refine gx_top (nI_add _ _) ?_ | skip
          refine gx_iconst (v := nI 1) C dX9_write_123 (by decide) ?_
          refine gx_iadd C dX9_write_124 ?_
          first | refine gx_top (nI_add _ _) ?_ | skip
          refine gx_dup2 C dX9_write_125 rfl rfl ?_
          refine gx_ialdN C (hG := (by first | exact hM.2.2.1 | exact hM.2.2.2.1 | exact hM.2.2.2.2.1 | exact hM.2.2.2.2.2.1 | exact hM.2.2.2.2.2.2)) (hk := by omega) (hn := by omega) dX9_write_126 ?_
          rw [pk_un (by omega), pk_un (by omega), cpy_out (by omega)]
          refine gx_aload_n C dX9_write_127 rfl ?_
          refine gx_get C fd_X9_write_164 (hG := hM.2.1) (hv := by rfl) dX9_write_128 ?_
          refine gx_iadd C dX9_write_131 ?_
          first | refine gx_top (nI_add _ _) ?_ | skip
          refine gx_iastN C (hG := (by first | exact hM.2.2.1 | exact hM.2.2.2.1 | exact hM.2.2.2.2.1 | exact hM.2.2.2.2.2.1 | exact hM.2.2.2.2.2.2)) (hk := by omega) (hn := by omega) dX9_write_132 ?_
          refine gx_stM hM (fun hM => ?_)
          refine gx_aload_n C dX9_write_133 rfl ?_
          refine gx_get C fd_X9_write_164 (hG := hM.2.1) (hv := by rfl) dX9_write_134 ?_
          refine gx_zret (mc := 0) C rfl ?_ dX9_write_137
          have e : oWrite (nI j0) t = (nI (oRead t j0).2.1.length, (oWrT t j0, pRec t.2.1 t.1, t.2.2)) := by
            rw [oWrite_s o1]
            exact if_neg (fun q => q.elim (fun q => q h0) (fun q => q hz))
          refine ⟨_, rfl, by rw [e], ?_⟩
          rw [e]
          refine ⟨_, pa2, ty, md, rd2, _, hM, sR_wr hR hjs hr hsr (by rw [h0]; decide) h88 ?_ ?_ ?_ pk_us ?_, hH, hT⟩
          · rw [pk_un (by omega), pk_un (by omega), pk_us]
          · intro k hk
            have hk2 := hrows k hk
            refine ⟨mkR_ex hk2.1 (fun i hi => ?_), hk2.2⟩
            rw [pk_un (by omega), pk_un (by omega), pk_un (by omega), cpy_in (by omega)]
            exact congrArg rd2 (by omega)
          · rw [pk_un (by omega), pk_us]
          · intro q k1 k2 k3 k4 k5
            rw [pk_un k3, pk_un k2, pk_un k4, cpy_out (by omega)]
        · have hj : j < 4 * (oRead t j0).2.1.length := by
            rcases Nat.lt_or_ge (j) (4 * (oRead t j0).2.1.length) with q | q
            · exact q
            · exact absurd (nI_le q (by omega)) c_54
          refine gx_aload_n C dX9_write_57 rfl ?_
          refine gx_get C fd_X9_write_7 (hG := hM.2.1) (hv := by rfl) dX9_write_58 ?_
          refine gx_iload_n C dX9_write_61 rfl ?_
          refine gx_iload_n C dX9_write_62 rfl ?_
          refine gx_iadd C dX9_write_63 ?_
          first | refine gx_top (nI_add _ _) ?_ | skip
          refine gx_aload_n C dX9_write_64 rfl ?_
          refine gx_get C fd_X9_write_22 (hG := hM.2.1) (hv := by rfl) dX9_write_65 ?_
          refine gx_iload_n C dX9_write_68 rfl ?_
          refine gx_ialdN C (hG := (by first | exact hM.2.2.1 | exact hM.2.2.2.1 | exact hM.2.2.2.2.1 | exact hM.2.2.2.2.2.1 | exact hM.2.2.2.2.2.2)) (hk := by omega) (hn := by omega) dX9_write_69 ?_
          refine gx_iastN C (hG := (by first | exact hM.2.2.1 | exact hM.2.2.2.1 | exact hM.2.2.2.2.1 | exact hM.2.2.2.2.2.1 | exact hM.2.2.2.2.2.2)) (hk := by omega) (hn := by omega) dX9_write_70 ?_
          refine gx_stM hM (fun hM => ?_)
          first | refine gx_iincN C dX9_write_71 rfl (by decide) ?_ | refine gx_iinc1 C dX9_write_71 rfl (by decide) ?_
          refine gx_goto (tgt := 47) C dX9_write_74 (by decide) ?_
          exact ih (j + 1) _ (by omega) (by omega) (by rw [← cpy_s]; exact hM)
    exact hloop (4 * (oRead t j0).2.1.length + 1) 0 G1 (by omega) (by omega) (by rw [cpy_0]; exact hM1)
  refine gx_aload_n C dX9_write_0 rfl ?_
  refine gx_iload_n C dX9_write_1 rfl ?_
  refine gx_callV (ci := 8) (T := TX9) (N := 11) C (k9_isSheet l D A hs hM.2.1 hM.2.2.1 hR i) cb_X9_write__X9_isSheet gX9_write_X9_isSheet rfl (hG := hM.2.1) rfl rfl (Nat.le_of_ble_eq_true rfl) ⟨Nat.le_refl _, Nat.le_refl _⟩ dX9_write_2 (gx_ki fun r_2 G_2 h_2 => ?_)
  obtain ⟨rfl, rfl⟩ := h_2
  refine gx_if_ne (tgt := 10) C dX9_write_5 (by decide) (fun c_5 => ?_) (fun c_5 => ?_)
  · have hi := gz_if1 c_5
    obtain ⟨j, hj, rfl⟩ := gIn_ex hi (by omega)
    have o1 : oIx (nI j) t.1.2.2.1.length = some j := oIx_in hj (by omega)
    have sj8 : shR st (127 + 35 * j) (oShj t j) t.1.1.length := hR.2.2.1.2.2 j hj
    obtain ⟨r, hr, hsr⟩ := sj8.2.2.2.2.1
    have e0 := oWrite_s o1
    refine gx_aload_n C dX9_write_10 rfl ?_
    refine gx_iload_n C dX9_write_11 rfl ?_
    refine gx_iconst (v := nI 1) C dX9_write_12 (by decide) ?_
    refine gx_callV (ci := 8) (T := TX9) (N := 11) C (k9_of l D A hs hM.2.1 hM.2.2.1 j 1 (by omega)) cb_X9_write__X9_of gX9_write_X9_of rfl (hG := hM.2.1) rfl rfl (Nat.le_of_ble_eq_true rfl) ⟨Nat.le_refl _, Nat.le_refl _⟩ dX9_write_13 (gx_ki fun r_13 G_13 h_13 => ?_)
    obtain ⟨rfl, rfl⟩ := h_13
    rw [show st (127 + 35 * j + 1) = (oShj t j).2.1 from sj8.2.1]
    refine gx_if_ne (tgt := 27) C dX9_write_16 (by decide) (fun c_16 => ?_) (fun c_16 => ?_)
    · have e : oWrite (nI j) t = (-2, t) := by
        rw [e0]
        exact if_pos (Or.inl c_16)
      refine gx_bipush (v := (-2)) C dX9_write_27 (by decide) ?_
      refine gx_zret (mc := 0) C rfl ?_ dX9_write_29
      exact ⟨_, rfl, by rw [e], by rw [e]; exact gMw_mk hM hR hH hT⟩
    · refine gx_aload_n C dX9_write_19 rfl ?_
      refine gx_iload_n C dX9_write_20 rfl ?_
      refine gx_callV (ci := 8) (T := TX9) (N := 11) C (k9_readsAll l D A hs hM hT sj8 (by omega) hR.1.1 hR.1.2.1) cb_X9_write__X9_readsAll gX9_write_X9_readsAll rfl (hG := hM.2.1) rfl rfl (Nat.le_of_ble_eq_true rfl) ⟨Nat.le_refl _, Nat.le_refl _⟩ dX9_write_21 (gx_ki fun r_21 G_21 h_21 => ?_)
      obtain ⟨rfl, z3, z4, z5, rd2, hM, -, hz5⟩ := h_21
      refine gx_if_eq (tgt := 30) C dX9_write_24 (by decide) (fun c_24 => ?_) (fun c_24 => ?_)
      · obtain ⟨rfl, h88, hrows⟩ := hz5 c_24
        refine gx_aload_n C dX9_write_30 rfl ?_
        refine gx_callV (ci := 8) (T := TX9) (N := 11) C (k9_records l D A hs hM hH hR) cb_X9_write__X9_records gX9_write_X9_records rfl (hG := hM.2.1) rfl rfl (Nat.le_of_ble_eq_true rfl) ⟨Nat.le_refl _, Nat.le_refl _⟩ dX9_write_31 (gx_kv fun G_31 h_31 => ?_)
        have hH0 := hH
        obtain ⟨pa2, hM, hH⟩ := h_31
        refine gx_iload_n C dX9_write_34 rfl ?_
        refine gx_aload_n C dX9_write_35 rfl ?_
        refine gx_iload_n C dX9_write_36 rfl ?_
        refine gx_iconst (v := nI 2) C dX9_write_37 (by decide) ?_
        refine gx_callV (ci := 8) (T := TX9) (N := 11) C (k9_of l D A hs hM.2.1 hM.2.2.1 j 2 (by omega)) cb_X9_write__X9_of gX9_write_X9_of rfl (hG := hM.2.1) rfl rfl (Nat.le_of_ble_eq_true rfl) ⟨Nat.le_refl _, Nat.le_refl _⟩ dX9_write_38 (gx_ki fun r_38 G_38 h_38 => ?_)
        obtain ⟨rfl, rfl⟩ := h_38
        rw [show st (127 + 35 * j + 2) = nI (oShj t j).2.2.length from sj8.2.2.1]
        refine gx_callS C (k9_markOf l D A hs j (oShj t j).2.2.length) cb_X9_write__X9_markOf gX9_write_X9_markOf rfl rfl (Nat.le_of_ble_eq_true rfl) ⟨Nat.le_refl _, Nat.le_refl _⟩ dX9_write_41 (gx_ki fun r_41 G_41 h_41 => ?_)
        obtain ⟨rfl, rfl⟩ := h_41
        refine gx_istore_n C dX9_write_44 (by decide) ?_
        refine gx_iconst (v := nI 0) C dX9_write_45 (by decide) ?_
        refine gx_istore_n C dX9_write_46 (by decide) ?_
        exact hone j r _ _ _ _ _ _ hj c_16 hr hsr c_24 h88 hrows hH hM
      · have e : oWrite (nI j) t = (-2, t) := by
          rw [e0]
          exact if_pos (Or.inr c_24)
        refine gx_bipush (v := (-2)) C dX9_write_27 (by decide) ?_
        refine gx_zret (mc := 0) C rfl ?_ dX9_write_29
        exact ⟨_, rfl, by rw [e], by rw [e]; exact gMw_mk hM hR hH hT⟩
  · have e : oWrite i t = (-1, t) := by
      unfold oWrite
      rw [oIx_no (gz_if0 c_5)]
    refine gx_iconst (v := (-1)) C dX9_write_8 (by decide) ?_
    refine gx_zret (mc := 0) C rfl ?_ dX9_write_9
    exact ⟨_, rfl, by rw [e], by rw [e]; exact ⟨st, pa, ty, md, rd, w, hM, hR, hH, hT⟩⟩
