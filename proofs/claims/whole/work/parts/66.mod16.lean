/-! THE MODEL: would, finish -/
theorem sR_I {st : Nat → Int32} {v : SV} (hR : sR st v) : ∀ k : Nat, k < v.2.2.2.1.1.length → iOk (v.2.2.2.1.1.getD k 0) v.1.length := fun k hk => (hR.2.2.2.1.2.2.2.2.2.2 k hk).2.1
theorem sR_C {st : Nat → Int32} {v : SV} (hR : sR st v) : ∀ k : Nat, k < v.1.length → cOk (v.1.getD k 0) := fun k hk => (hR.1.2.2 k hk).2
theorem oOnce_r {st : Nat → Int32} {t : TS} (hR : sR st t.1) : oOnce t = (mAll t.1.1 t.1.2.2.2.1).take 100 ∧ (mMk t.1.1 t.1.2.2.2.1 t.1.1.length ++ mBr t.1.2.2.2.1 t.1.1.length t.1.2.2.2.1.1.length).length ≤ 170 ∧ (∀ x ∈ oOnce t, cOk x) ∧ (oOnce t).length ≤ 100 := by
  have hA := hR.2.2.2.2.2.1
  have hN := hR.2.2.2.1.2.2.2.2.2.1
  have e : oOnce t = (mAll t.1.1 t.1.2.2.2.1).take 100 := pOnce_e hA hN (sR_I hR) (sR_C hR) hR.1.2.1 hR.2.2.2.1.2.1
  have m3 := @mAll_n t.1.1 t.1.2.2.2.1
  have l1 := hR.1.2.1
  have l2 := hR.2.2.2.1.2.1
  refine ⟨e, ?_, ?_, ?_⟩
  · show (mAll t.1.1 t.1.2.2.2.1).length ≤ 170
    omega
  · rw [e]
    exact mAll_ok hA hN (sR_I hR) (sR_C hR)
  · rw [e, List.length_take]
    omega
theorem pMkS_0 {sh : List SH} {k : Int32} : ∀ n : Nat, pShN sh k n = 0 → pMkS sh k n = 0 := by
  intro n
  induction n with
  | zero => intro _; rfl
  | succ n ih =>
    intro h
    have h1 := @pShN_1 sh k n
    rw [pMkS, ih (by omega)]
    by_cases q : (sh.getD n shD).2.1 = k
    · exfalso
      unfold pShN at h h1
      rw [List.range_succ, List.countP_append] at h
      have : List.countP (fun i => decide ((sh.getD i shD).2.1 = k)) [n] = 1 := by
        rw [List.countP_cons, List.countP_nil, if_pos (decide_eq_true q)]
      omega
    · rw [if_neg q]
def mC (f xs : Nat → Int32) (j : Nat) : Nat → Int32 := fun q => if 27 ≤ q ∧ q < 27 + j then xs (q - 27) else f q
theorem mC_s {f xs : Nat → Int32} {j : Nat} : upd (mC f xs j) (27 + j) (xs j) = mC f xs (j + 1) := by
  funext q
  by_cases h : q = 27 + j
  · subst h
    rw [pk_us]
    unfold mC
    rw [if_pos (by omega), show 27 + j - 27 = j by omega]
  · rw [pk_un h]
    unfold mC
    by_cases h2 : 27 ≤ q ∧ q < 27 + j
    · rw [if_pos h2, if_pos (by omega)]
    · rw [if_neg h2, if_neg (by omega)]
theorem mC_0 {f xs : Nat → Int32} : mC f xs 0 = f := by
  funext q
  unfold mC
  rw [if_neg (by omega)]
theorem mC_o {f xs : Nat → Int32} {j q : Nat} (h : q < 27 ∨ 27 + j ≤ q) : mC f xs j q = f q := by
  unfold mC
  rw [if_neg (by omega)]
theorem mC_i {f xs : Nat → Int32} {j q : Nat} (h : q < j) : mC f xs j (27 + q) = xs q := by
  unfold mC
  rw [if_pos (by omega), show 27 + q - 27 = q by omega]
theorem sR_fin {st f : Nat → Int32} {t : TS} {xs : List Int32} (hR : sR st t.1) (hx : xs.length ≤ 100) (hc : ∀ x ∈ xs, cOk x) (y : Int32) (e0 : f 0 = nI xs.length) (e1 : f 1 = st 1 + 1) (e2 : f 2 = 0) (e3 : f 3 = 0) (e8 : f 8 = st 8 + y) (ex : ∀ i : Nat, i < xs.length → f (27 + i) = xs.getD i 0) (e : ∀ q : Nat, 4 ≤ q → q < 27 → q ≠ 8 → f q = st q) : sR f (xs, t.1.2.1 + 1, [], ([], [], [], []), (lset t.1.2.2.2.2.1 4 (lget t.1.2.2.2.2.1 4 + y), t.1.2.2.2.2.2)) := by
  obtain ⟨g0, g1, g2, g3, g4, g5, g6⟩ := hR
  refine ⟨⟨e0, hx, fun i hi => ⟨ex i hi, ?_⟩⟩, by rw [e1, g1], ⟨e2, Nat.zero_le _, fun i hi => absurd hi (Nat.not_lt_zero _)⟩, ⟨e3, Nat.zero_le _, rfl, rfl, rfl, List.nodup_nil, fun k hk => absurd hk (Nat.not_lt_zero _)⟩, ?_, fun i j hi => absurd hi (Nat.not_lt_zero _), Nat.zero_le _⟩
  · have hi : i < xs.length := hi
    have := hc (xs.getD i 0) (by rw [gD_in hi]; exact List.getElem_mem hi)
    exact this
  · refine sAc_0 (k := 4) (y := y) g4 (by decide) ?_ (fun q hq hn => e q hq.1 hq.2 hn)
    rw [e8, ← g4.2.2.2.2.1 4 (by decide)]
theorem oFin_1 {t : TS} (h : t.1.2.1 = 0 ∨ pShN t.1.2.2.1 0 t.1.2.2.1.length + pShN t.1.2.2.1 1 t.1.2.2.1.length + pOpenN t.1.2.2.2.1.2.1 t.1.2.2.2.1.2.1.length ≠ 0) : oFinish t = (-2, t) := by
  refine if_neg (fun q => ?_)
  rcases h with h | h
  · exact q.1 h
  · have h2 := q.2
    omega
theorem oFin_2 {t : TS} (h0 : ¬ t.1.2.1 = 0) (h : pShN t.1.2.2.1 0 t.1.2.2.1.length + pShN t.1.2.2.1 1 t.1.2.2.1.length + pOpenN t.1.2.2.2.1.2.1 t.1.2.2.2.1.2.1.length = 0) : oFinish t = (nI (oOnce t).length, ((oOnce t, t.1.2.1 + 1, [], ([], [], [], []), (lset t.1.2.2.2.2.1 4 (lget t.1.2.2.2.2.1 4 + nI (pMkS t.1.2.2.1 0 t.1.2.2.1.length + pMkS t.1.2.2.1 1 t.1.2.2.1.length + pMkS t.1.2.2.1 2 t.1.2.2.1.length)), t.1.2.2.2.2.2)), pRec t.2.1 t.1, t.2.2)) := by
  have a := pMkS_0 (sh := t.1.2.2.1) (k := 0) t.1.2.2.1.length (by omega)
  have b := pMkS_0 (sh := t.1.2.2.1) (k := 1) t.1.2.2.1.length (by omega)
  rw [a, b, Nat.zero_add]
  exact if_pos ⟨h0, by omega, by omega, by omega⟩
theorem pOpenN_le {as : List Int32} {n : Nat} : pOpenN as n ≤ n := by
  unfold pOpenN
  have := @List.countP_le_length _ (fun i => decide (as.getD i 0 = 0)) (List.range n)
  rw [List.length_range] at this
  exact this
theorem pShN_n {sh : List SH} {k : Int32} {n : Nat} : pShN sh k n ≤ n := by
  unfold pShN
  have := @List.countP_le_length _ (fun i => decide ((sh.getD i shD).2.1 = k)) (List.range n)
  rw [List.length_range] at this
  exact this
theorem cb_X9_would__X9_makes : gCb yX9_makes cX9_makes 3 none wsX9_makes (gR 3) (gR 4) 0 0 0 := ⟨rfl, rfl, rfl, by decide +kernel, by decide⟩
theorem cb_X9_would__X9_madeAt : gCb yX9_madeAt cX9_madeAt 2 (some .int) wsX9_madeAt (gR 0) (gR 4) 0 0 1 := ⟨rfl, rfl, rfl, by decide +kernel, by decide⟩
set_option maxRecDepth 20000 in
theorem in_X9_finish_X9 : ∀ w ∈ wsX90, w ∈ wsX9_finish := by decide +kernel
set_option maxRecDepth 20000 in
theorem fd_X9_finish_122 : gFd wsX9_finish RX9 122 8 RX9 TX9 11 6 := ⟨in_X9_finish_X9, rfl, by decide, by decide +kernel⟩
set_option maxRecDepth 20000 in
theorem fd_X9_finish_7 : gFd wsX9_finish RX9 7 8 RX9 TX9 11 0 := ⟨in_X9_finish_X9, rfl, by decide, by decide +kernel⟩
set_option maxRecDepth 20000 in
theorem fd_X9_finish_19 : gFd wsX9_finish RX9 19 8 RX9 TX9 11 5 := ⟨in_X9_finish_X9, rfl, by decide, by decide +kernel⟩
theorem cb_X9_finish__X9_inState : gCb yX9_inState cX9_inState 4 (some .int) wsX9_inState (gR 1) (gR 4) 0 0 1 := ⟨rfl, rfl, rfl, by decide +kernel, by decide⟩
theorem cb_X9_finish__X9_unanswered : gCb yX9_unanswered cX9_unanswered 3 (some .int) wsX9_unanswered (gR 1) (gR 4) 0 0 0 := ⟨rfl, rfl, rfl, by decide +kernel, by decide⟩
theorem cb_X9_finish__X9_records : gCb yX9_records cX9_records 2 none wsX9_records (gR 0) (gR 4) 0 0 0 := ⟨rfl, rfl, rfl, by decide +kernel, by decide⟩
theorem cb_X9_finish__X9_unmerged : gCb yX9_unmerged cX9_unmerged 3 (some .int) wsX9_unmerged (gR 1) (gR 4) 0 0 0 := ⟨rfl, rfl, rfl, by decide +kernel, by decide⟩
theorem cb_X9_finish__X9_makes : gCb yX9_makes cX9_makes 3 none wsX9_makes (gR 3) (gR 4) 0 0 0 := ⟨rfl, rfl, rfl, by decide +kernel, by decide⟩
set_option maxHeartbeats 600000 in
set_option maxRecDepth 100000 in
/-- X9_would -/
theorem k9_would (l : Launch) (D : gD) (A : Nat → Prop) (hs : Nat) {G : gH} {G0 : gH} {a : Nat} {t : TS} (h : gMw D G0 G a t) (z : Int32) : gM l yX9_would wsX9_would (gR 4) D A hs 0 0 [.ref a, .int z] G (gPi fun x G' => x = oChr (oOnce t) z ∧ gMw D G0 G' a t) := by
  refine gM_intro (by decide) rfl rfl (Nat.le_of_ble_eq_true rfl) ?_
  intro p e s m args below meth c C
  obtain ⟨st, pa, ty, md, rd, w, hM, hR, hH, hT⟩ := h
  have h4 := hH.1
  have ht := hT.1
  have l1 := hR.1.2.1
  have l2 := hR.2.2.1.2.1
  obtain ⟨hr1, hr2, hr3, hr4⟩ := oOnce_r hR
  refine gx_iload_n C dX9_would_0 rfl ?_
  refine gx_if_ge (tgt := 6) C dX9_would_1 (by decide) (fun c_1 => ?_) (fun c_1 => ?_)
  · refine gx_aload_n C dX9_would_6 rfl ?_
    refine gx_callV (ci := 8) (T := TX9) (N := 11) C (k9_makes l D A hs hM hR.1 hR.2.2.2.1 hr2) cb_X9_would__X9_makes gX9_would_X9_makes rfl (hG := hM.2.1) rfl rfl (Nat.le_of_ble_eq_true rfl) ⟨Nat.le_refl _, Nat.le_refl _⟩ dX9_would_7 (gx_kv fun G_7 h_7 => ?_)
    obtain ⟨md2, hM, hX⟩ := h_7
    rw [← hr1] at hM hX
    refine gx_aload_n C dX9_would_10 rfl ?_
    refine gx_iload_n C dX9_would_11 rfl ?_
    refine gx_callV (ci := 8) (T := TX9) (N := 11) C (k9_madeAt l D A hs hM.2.1 hM.2.2.2.2.2.1 rfl hr4 hX z (fun q => absurd q (Int32.not_lt.mpr c_1))) cb_X9_would__X9_madeAt gX9_would_X9_madeAt rfl (hG := hM.2.1) rfl rfl (Nat.le_of_ble_eq_true rfl) ⟨Nat.le_refl _, Nat.le_refl _⟩ dX9_would_12 (gx_ki fun r_12 G_12 h_12 => ?_)
    obtain ⟨rfl, rfl⟩ := h_12
    refine gx_zret (mc := 0) C rfl ?_ dX9_would_15
    exact ⟨_, rfl, rfl, gMw_mk hM hR hH hT⟩
  · refine gx_iconst (v := (-1)) C dX9_would_4 (by decide) ?_
    refine gx_zret (mc := 0) C rfl ?_ dX9_would_5
    exact ⟨_, rfl, (if_pos (Int32.not_le.mp c_1)).symm, gMw_mk hM hR hH hT⟩
set_option maxHeartbeats 600000 in
set_option maxRecDepth 100000 in
/-- X9_finish -/
theorem k9_finish (l : Launch) (D : gD) (A : Nat → Prop) (hs : Nat) {G : gH} {G0 : gH} {a : Nat} {t : TS} (h : gMw D G0 G a t) : gM l yX9_finish wsX9_finish (gR 4) D A hs 0 0 [.ref a] G (gPi fun x G' => x = (oFinish t).1 ∧ gMw D G0 G' a (oFinish t).2) := by
  refine gM_intro (by decide) rfl rfl (Nat.le_of_ble_eq_true rfl) ?_
  intro p e s m args below meth c C
  obtain ⟨st, pa, ty, md, rd, w, hM, hR, hH, hT⟩ := h
  have h4 := hH.1
  have ht := hT.1
  have l1 := hR.1.2.1
  have l2 := hR.2.2.1.2.1
  obtain ⟨hr1, hr2, hr3, hr4⟩ := oOnce_r hR
  have l3 := hR.2.2.2.1.2.1
  have l4 := hR.2.2.2.1.2.2.1
  have b1 := @pShN_n t.1.2.2.1 0 t.1.2.2.1.length
  have b2 := @pShN_n t.1.2.2.1 1 t.1.2.2.1.length
  have b3 := @pOpenN_le t.1.2.2.2.1.2.1 t.1.2.2.2.1.2.1.length
  have hone : ∀ (pa2 md2 : Nat → Int32) (G1 : gH), oFinish t = (nI (oOnce t).length, ((oOnce t, t.1.2.1 + 1, [], ([], [], [], []), (lset t.1.2.2.2.2.1 4 (lget t.1.2.2.2.2.1 4 + nI (pMkS t.1.2.2.1 0 t.1.2.2.1.length + pMkS t.1.2.2.1 1 t.1.2.2.1.length + pMkS t.1.2.2.1 2 t.1.2.2.1.length)), t.1.2.2.2.2.2)), pRec t.2.1 t.1, t.2.2)) → hiR pa2 (pRec t.2.1 t.1) → mdR md2 (oOnce t) → gMa D G0 G1 a (nI (pRec t.2.1 t.1).length, nI t.2.2.length, nI (oOnce t).length, w.2) (upd (upd st 8 (st 8 + nI (pMkS t.1.2.2.1 0 t.1.2.2.1.length + pMkS t.1.2.2.1 1 t.1.2.2.1.length + pMkS t.1.2.2.1 2 t.1.2.2.1.length))) 0 (nI (oOnce t).length)) pa2 ty md2 rd → gX p l e (gR 4) s m args below meth c D A 2 hs 0 0 (MQ below (gQ D A hs 0 (gPi fun x G' => x = (oFinish t).1 ∧ gMw D G0 G' a (oFinish t).2)) args s 0 0 A) G1 [some (.ref a), some (.int (nI 0))] 65 [] := by
    intro pa2 md2 G1 ef hH hX hM1
    have hloop : ∀ (n j : Nat) (G1 : gH), (oOnce t).length < j + n → j ≤ (oOnce t).length → gMa D G0 G1 a (nI (pRec t.2.1 t.1).length, nI t.2.2.length, nI (oOnce t).length, w.2) (mC (upd (upd st 8 (st 8 + nI (pMkS t.1.2.2.1 0 t.1.2.2.1.length + pMkS t.1.2.2.1 1 t.1.2.2.1.length + pMkS t.1.2.2.1 2 t.1.2.2.1.length))) 0 (nI (oOnce t).length)) md2 j) pa2 ty md2 rd → gX p l e (gR 4) s m args below meth c D A 2 hs 0 0 (MQ below (gQ D A hs 0 (gPi fun x G' => x = (oFinish t).1 ∧ gMw D G0 G' a (oFinish t).2)) args s 0 0 A) G1 [some (.ref a), some (.int (nI j))] 65 [] := by
      intro n
      induction n with
      | zero => intro j G1 hm hj0 hI; exact absurd hm (by omega)
      | succ n ih =>
        intro j G1 hm hj0 hI
        have hM := hI
        refine gx_iload_n C dX9_finish_65 rfl ?_
        refine gx_aload_n C dX9_finish_66 rfl ?_
        refine gx_get C fd_X9_finish_122 (hG := hM.2.1) (hv := by rfl) dX9_finish_67 ?_
        refine gx_icmp_ge (tgt := 94) C dX9_finish_70 (by decide) (fun c_70 => ?_) (fun c_70 => ?_)
        · have hj : ¬ j < (oOnce t).length := fun q => nI_ge q (by omega) c_70
          have j8 : j = (oOnce t).length := by omega
          subst j8
          refine gx_aload_n C dX9_finish_94 rfl ?_
          refine gx_get C fd_X9_finish_7 (hG := hM.2.1) (hv := by rfl) dX9_finish_95 ?_
          refine gx_iconst (v := nI 1) C dX9_finish_98 (by decide) ?_
          refine gx_dup2 C dX9_finish_99 rfl rfl ?_
          refine gx_ialdN C (hG := (by first | exact hM.2.2.1 | exact hM.2.2.2.1 | exact hM.2.2.2.2.1 | exact hM.2.2.2.2.2.1 | exact hM.2.2.2.2.2.2)) (hk := by omega) (hn := by omega) dX9_finish_100 ?_
          rw [mC_o (by omega), pk_un (by omega), pk_un (by omega)]
          refine gx_iconst (v := 1) C dX9_finish_101 (by decide) ?_
          refine gx_iadd C dX9_finish_102 ?_
          first | refine gx_top (nI_add _ _) ?_ | skip
          refine gx_iastN C (hG := (by first | exact hM.2.2.1 | exact hM.2.2.2.1 | exact hM.2.2.2.2.1 | exact hM.2.2.2.2.2.1 | exact hM.2.2.2.2.2.2)) (hk := by omega) (hn := by omega) dX9_finish_103 ?_
          refine gx_stM hM (fun hM => ?_)
          refine gx_aload_n C dX9_finish_104 rfl ?_
          refine gx_get C fd_X9_finish_7 (hG := hM.2.1) (hv := by rfl) dX9_finish_105 ?_
          refine gx_iconst (v := nI 2) C dX9_finish_108 (by decide) ?_
          refine gx_iconst (v := 0) C dX9_finish_109 (by decide) ?_
          refine gx_iastN C (hG := (by first | exact hM.2.2.1 | exact hM.2.2.2.1 | exact hM.2.2.2.2.1 | exact hM.2.2.2.2.2.1 | exact hM.2.2.2.2.2.2)) (hk := by omega) (hn := by omega) dX9_finish_110 ?_
          refine gx_stM hM (fun hM => ?_)
          refine gx_aload_n C dX9_finish_111 rfl ?_
          refine gx_get C fd_X9_finish_7 (hG := hM.2.1) (hv := by rfl) dX9_finish_112 ?_
          refine gx_iconst (v := nI 3) C dX9_finish_115 (by decide) ?_
          refine gx_iconst (v := 0) C dX9_finish_116 (by decide) ?_
          refine gx_iastN C (hG := (by first | exact hM.2.2.1 | exact hM.2.2.2.1 | exact hM.2.2.2.2.1 | exact hM.2.2.2.2.2.1 | exact hM.2.2.2.2.2.2)) (hk := by omega) (hn := by omega) dX9_finish_117 ?_
          refine gx_stM hM (fun hM => ?_)
          refine gx_aload_n C dX9_finish_118 rfl ?_
          refine gx_get C fd_X9_finish_122 (hG := hM.2.1) (hv := by rfl) dX9_finish_119 ?_
          refine gx_zret (mc := 0) C rfl ?_ dX9_finish_122
          refine ⟨_, rfl, by rw [ef], ?_⟩
          rw [ef]
          refine ⟨_, pa2, ty, md2, rd, _, hM, sR_fin hR hr4 hr3 _ ?_ ?_ ?_ pk_us ?_ ?_ ?_, hH, hT⟩
          · rw [pk_un (by omega), pk_un (by omega), pk_un (by omega), mC_o (by omega), pk_us]
          · rw [pk_un (by omega), pk_un (by omega), pk_us]
          · rw [pk_un (by omega), pk_us]
          · rw [pk_un (by omega), pk_un (by omega), pk_un (by omega), mC_o (by omega), pk_un (by omega), pk_us]
          · intro i hi
            rw [pk_un (by omega), pk_un (by omega), pk_un (by omega), mC_i hi]
            exact hX i hi
          · intro q h4 h27 h8
            rw [pk_un (by omega), pk_un (by omega), pk_un (by omega), mC_o (by omega), pk_un (by omega), pk_un h8]
        · have hj : j < (oOnce t).length := by
            rcases Nat.lt_or_ge (j) ((oOnce t).length) with q | q
            · exact q
            · exact absurd (nI_le q (by omega)) c_70
          refine gx_aload_n C dX9_finish_73 rfl ?_
          refine gx_get C fd_X9_finish_7 (hG := hM.2.1) (hv := by rfl) dX9_finish_74 ?_
          refine gx_bipush (v := nI 27) C dX9_finish_77 (by decide) ?_
          refine gx_iload_n C dX9_finish_79 rfl ?_
          refine gx_iadd C dX9_finish_80 ?_
          first | refine gx_top (nI_add _ _) ?_ | skip
          refine gx_aload_n C dX9_finish_81 rfl ?_
          refine gx_get C fd_X9_finish_19 (hG := hM.2.1) (hv := by rfl) dX9_finish_82 ?_
          refine gx_iload_n C dX9_finish_85 rfl ?_
          refine gx_ialdN C (hG := (by first | exact hM.2.2.1 | exact hM.2.2.2.1 | exact hM.2.2.2.2.1 | exact hM.2.2.2.2.2.1 | exact hM.2.2.2.2.2.2)) (hk := by omega) (hn := by omega) dX9_finish_86 ?_
          refine gx_iastN C (hG := (by first | exact hM.2.2.1 | exact hM.2.2.2.1 | exact hM.2.2.2.2.1 | exact hM.2.2.2.2.2.1 | exact hM.2.2.2.2.2.2)) (hk := by omega) (hn := by omega) dX9_finish_87 ?_
          first | refine gx_iincN C dX9_finish_88 rfl (by decide) ?_ | refine gx_iinc1 C dX9_finish_88 rfl (by decide) ?_
          refine gx_goto (tgt := 65) C dX9_finish_91 (by decide) ?_
          exact ih (j + 1) _ (by omega) (by omega) (by rw [← mC_s]; exact gMa_st hM)
    exact hloop ((oOnce t).length + 1) 0 G1 (by omega) (by omega) (by rw [mC_0]; exact hM1)
  refine gx_aload_n C dX9_finish_0 rfl ?_
  refine gx_get C fd_X9_finish_7 (hG := hM.2.1) (hv := by rfl) dX9_finish_1 ?_
  refine gx_iconst (v := nI 1) C dX9_finish_4 (by decide) ?_
  refine gx_ialdN C (hG := (by first | exact hM.2.2.1 | exact hM.2.2.2.1 | exact hM.2.2.2.2.1 | exact hM.2.2.2.2.2.1 | exact hM.2.2.2.2.2.2)) (hk := by omega) (hn := by omega) dX9_finish_5 ?_
  rw [hR.2.1]
  refine gx_if_eq (tgt := 28) C dX9_finish_6 (by decide) (fun c_6 => ?_) (fun c_6 => ?_)
  · have e : oFinish t = (-2, t) := oFin_1 (Or.inl c_6)
    refine gx_bipush (v := (-2)) C dX9_finish_28 (by decide) ?_
    refine gx_zret (mc := 0) C rfl ?_ dX9_finish_30
    exact ⟨_, rfl, by rw [e], by rw [e]; exact ⟨st, pa, ty, md, rd, w, hM, hR, hH, hT⟩⟩
  · refine gx_aload_n C dX9_finish_9 rfl ?_
    refine gx_iconst (v := 0) C dX9_finish_10 (by decide) ?_
    refine gx_callV (ci := 8) (T := TX9) (N := 11) C (k9_inState l D A hs hM.2.1 hM.2.2.1 hR 0) cb_X9_finish__X9_inState gX9_finish_X9_inState rfl (hG := hM.2.1) rfl rfl (Nat.le_of_ble_eq_true rfl) ⟨Nat.le_refl _, Nat.le_refl _⟩ dX9_finish_11 (gx_ki fun r_11 G_11 h_11 => ?_)
    obtain ⟨rfl, rfl⟩ := h_11
    refine gx_aload_n C dX9_finish_14 rfl ?_
    refine gx_iconst (v := 1) C dX9_finish_15 (by decide) ?_
    refine gx_callV (ci := 8) (T := TX9) (N := 11) C (k9_inState l D A hs hM.2.1 hM.2.2.1 hR 1) cb_X9_finish__X9_inState gX9_finish_X9_inState rfl (hG := hM.2.1) rfl rfl (Nat.le_of_ble_eq_true rfl) ⟨Nat.le_refl _, Nat.le_refl _⟩ dX9_finish_16 (gx_ki fun r_16 G_16 h_16 => ?_)
    obtain ⟨rfl, rfl⟩ := h_16
    refine gx_iadd C dX9_finish_19 ?_
    first | refine gx_top (nI_add _ _) ?_ | skip
    refine gx_aload_n C dX9_finish_20 rfl ?_
    refine gx_callV (ci := 8) (T := TX9) (N := 11) C (k9_unanswered l D A hs hM.2.1 hM.2.2.1 hR) cb_X9_finish__X9_unanswered gX9_finish_X9_unanswered rfl (hG := hM.2.1) rfl rfl (Nat.le_of_ble_eq_true rfl) ⟨Nat.le_refl _, Nat.le_refl _⟩ dX9_finish_21 (gx_ki fun r_21 G_21 h_21 => ?_)
    obtain ⟨rfl, rfl⟩ := h_21
    refine gx_iadd C dX9_finish_24 ?_
    first | refine gx_top (nI_add _ _) ?_ | skip
    refine gx_if_le (tgt := 31) C dX9_finish_25 (by decide) (fun c_25 => ?_) (fun c_25 => ?_)
    · have e := oFin_2 c_6 (by
        have := (nI_leI (b := 0) (by omega) (by omega)).mp c_25
        omega)
      refine gx_aload_n C dX9_finish_31 rfl ?_
      refine gx_callV (ci := 8) (T := TX9) (N := 11) C (k9_records l D A hs hM hH hR) cb_X9_finish__X9_records gX9_finish_X9_records rfl (hG := hM.2.1) rfl rfl (Nat.le_of_ble_eq_true rfl) ⟨Nat.le_refl _, Nat.le_refl _⟩ dX9_finish_32 (gx_kv fun G_32 h_32 => ?_)
      have hH0 := hH
      obtain ⟨pa2, hM, hH⟩ := h_32
      refine gx_aload_n C dX9_finish_35 rfl ?_
      refine gx_get C fd_X9_finish_7 (hG := hM.2.1) (hv := by rfl) dX9_finish_36 ?_
      refine gx_bipush (v := nI 8) C dX9_finish_39 (by decide) ?_
      refine gx_dup2 C dX9_finish_41 rfl rfl ?_
      refine gx_ialdN C (hG := (by first | exact hM.2.2.1 | exact hM.2.2.2.1 | exact hM.2.2.2.2.1 | exact hM.2.2.2.2.2.1 | exact hM.2.2.2.2.2.2)) (hk := by omega) (hn := by omega) dX9_finish_42 ?_
      refine gx_aload_n C dX9_finish_43 rfl ?_
      refine gx_callV (ci := 8) (T := TX9) (N := 11) C (k9_unmerged l D A hs hM.2.1 hM.2.2.1 hR) cb_X9_finish__X9_unmerged gX9_finish_X9_unmerged rfl (hG := hM.2.1) rfl rfl (Nat.le_of_ble_eq_true rfl) ⟨Nat.le_refl _, Nat.le_refl _⟩ dX9_finish_44 (gx_ki fun r_44 G_44 h_44 => ?_)
      obtain ⟨rfl, rfl⟩ := h_44
      refine gx_iadd C dX9_finish_47 ?_
      first | refine gx_top (nI_add _ _) ?_ | skip
      refine gx_iastN C (hG := (by first | exact hM.2.2.1 | exact hM.2.2.2.1 | exact hM.2.2.2.2.1 | exact hM.2.2.2.2.2.1 | exact hM.2.2.2.2.2.2)) (hk := by omega) (hn := by omega) dX9_finish_48 ?_
      refine gx_stM hM (fun hM => ?_)
      refine gx_aload_n C dX9_finish_49 rfl ?_
      refine gx_callV (ci := 8) (T := TX9) (N := 11) C (k9_makes l D A hs hM (sTx_cg hR.1 (fun q hq hb => pk_un (by omega))) (sLi_cg hR.2.2.2.1 (Nat.le_refl _) (fun q hq hb => pk_un (by omega))) hr2) cb_X9_finish__X9_makes gX9_finish_X9_makes rfl (hG := hM.2.1) rfl rfl (Nat.le_of_ble_eq_true rfl) ⟨Nat.le_refl _, Nat.le_refl _⟩ dX9_finish_50 (gx_kv fun G_50 h_50 => ?_)
      obtain ⟨md2, hM, hX⟩ := h_50
      rw [← hr1] at hM hX
      refine gx_aload_n C dX9_finish_53 rfl ?_
      refine gx_get C fd_X9_finish_7 (hG := hM.2.1) (hv := by rfl) dX9_finish_54 ?_
      refine gx_iconst (v := nI 0) C dX9_finish_57 (by decide) ?_
      refine gx_aload_n C dX9_finish_58 rfl ?_
      refine gx_get C fd_X9_finish_122 (hG := hM.2.1) (hv := by rfl) dX9_finish_59 ?_
      refine gx_iastN C (hG := (by first | exact hM.2.2.1 | exact hM.2.2.2.1 | exact hM.2.2.2.2.1 | exact hM.2.2.2.2.2.1 | exact hM.2.2.2.2.2.2)) (hk := by omega) (hn := by omega) dX9_finish_62 ?_
      refine gx_stM hM (fun hM => ?_)
      refine gx_iconst (v := 0) C dX9_finish_63 (by decide) ?_
      refine gx_istore_n C dX9_finish_64 (by decide) ?_
      exact hone _ _ _ e hH hX hM
    · have e : oFinish t = (-2, t) := oFin_1 (Or.inr (fun q => c_25 (by rw [q]; decide)))
      refine gx_bipush (v := (-2)) C dX9_finish_28 (by decide) ?_
      refine gx_zret (mc := 0) C rfl ?_ dX9_finish_30
      exact ⟨_, rfl, by rw [e], by rw [e]; exact ⟨st, pa, ty, md, rd, w, hM, hR, hH, hT⟩⟩
