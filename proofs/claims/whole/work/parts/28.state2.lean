/-! STATES: the walks that change much -/
theorem gD_set {sh : List SH} {i : Nat} {c : SH} (h : i < sh.length) : (sh.set i c).getD i shD = c := by
  rw [List.getD_eq_getElem?_getD, List.getElem?_set_self h]
  rfl
theorem pTake_s {cs : List Int32} {j : Nat} (h : j < cs.length) : cs.take (j + 1) = cs.take j ++ [cs.getD j 0] := by
  rw [List.take_succ, List.getElem?_eq_getElem h, List.getD_eq_getElem?_getD, List.getElem?_eq_getElem h]
  rfl
theorem gD_self {sh : List SH} {i : Nat} (h : i < sh.length) : sh.set i ((sh.getD i shD).1, (sh.getD i shD).2.1, (sh.getD i shD).2.2) = sh := by
  have e : ((sh.getD i shD).1, (sh.getD i shD).2.1, (sh.getD i shD).2.2) = sh[i] := by
    rw [List.getD_eq_getElem?_getD, List.getElem?_eq_getElem h]
    rfl
  rw [e, List.set_getElem_self]
theorem cb_X7_copySheet__X6_copyFrom : gCb yX6_copyFrom cX6_copyFrom 2 none wsX6_copyFrom (gR 1) (gR 2) 0 0 1 := ⟨rfl, rfl, rfl, by decide +kernel, by decide⟩
set_option maxRecDepth 20000 in
theorem in_X7_copyFrom_X7 : ∀ w ∈ wsX70, w ∈ wsX7_copyFrom := by decide +kernel
set_option maxRecDepth 20000 in
theorem fd_X7_copyFrom_61 : gFd wsX7_copyFrom RX7 61 6 RX7 TX7 9 8 := ⟨in_X7_copyFrom_X7, rfl, by decide, by decide +kernel⟩
theorem cb_X7_copyFrom__X7_sheetNumbered : gCb yX7_sheetNumbered cX7_sheetNumbered 2 (some (.object "ProofSheets$Sheet")) wsX7_sheetNumbered (gR 0) (gR 3) 0 0 1 := ⟨rfl, rfl, rfl, by decide +kernel, by decide⟩
theorem cb_X7_copyFrom__X7_copySheet : gCb yX7_copySheet cX7_copySheet 2 none wsX7_copySheet (gR 2) (gR 3) 0 0 2 := ⟨rfl, rfl, rfl, by decide +kernel, by decide⟩
set_option maxRecDepth 20000 in
theorem fd_X7_copyFrom_14 : gFd wsX7_copyFrom RX7 14 6 RX7 TX7 9 0 := ⟨in_X7_copyFrom_X7, rfl, by decide, by decide +kernel⟩
theorem cb_X7_copyFrom__X5_copyFrom : gCb yX5_copyFrom cX5_copyFrom 3 none wsX5_copyFrom (gR 0) (gR 3) 0 0 1 := ⟨rfl, rfl, rfl, by decide +kernel, by decide⟩
set_option maxRecDepth 20000 in
theorem fd_X7_copyFrom_29 : gFd wsX7_copyFrom RX7 29 6 RX7 TX7 9 2 := ⟨in_X7_copyFrom_X7, rfl, by decide, by decide +kernel⟩
theorem cb_X7_copyFrom__X2_copyFrom : gCb yX2_copyFrom cX2_copyFrom 2 none wsX2_copyFrom (gR 1) (gR 3) 0 0 1 := ⟨rfl, rfl, rfl, by decide +kernel, by decide⟩
set_option maxRecDepth 20000 in
theorem fd_X7_copyFrom_33 : gFd wsX7_copyFrom RX7 33 6 RX7 TX7 9 3 := ⟨in_X7_copyFrom_X7, rfl, by decide, by decide +kernel⟩
set_option maxRecDepth 20000 in
theorem fd_X7_copyFrom_36 : gFd wsX7_copyFrom RX7 36 6 RX7 TX7 9 4 := ⟨in_X7_copyFrom_X7, rfl, by decide, by decide +kernel⟩
set_option maxRecDepth 20000 in
theorem fd_X7_copyFrom_39 : gFd wsX7_copyFrom RX7 39 6 RX7 TX7 9 5 := ⟨in_X7_copyFrom_X7, rfl, by decide, by decide +kernel⟩
set_option maxRecDepth 20000 in
theorem fd_X7_copyFrom_42 : gFd wsX7_copyFrom RX7 42 6 RX7 TX7 9 6 := ⟨in_X7_copyFrom_X7, rfl, by decide, by decide +kernel⟩
set_option maxRecDepth 20000 in
theorem fd_X7_copyFrom_57 : gFd wsX7_copyFrom RX7 57 6 RX7 TX7 9 7 := ⟨in_X7_copyFrom_X7, rfl, by decide, by decide +kernel⟩
theorem cb_X7_writeOn__X5_used : gCb yX5_used cX5_used 1 (some .int) wsX5_used (gR 0) (gR 3) 0 0 0 := ⟨rfl, rfl, rfl, by decide +kernel, by decide⟩
set_option maxRecDepth 20000 in
theorem in_X7_writeOn_X7 : ∀ w ∈ wsX70, w ∈ wsX7_writeOn := by decide +kernel
set_option maxRecDepth 20000 in
theorem fd_X7_writeOn_33 : gFd wsX7_writeOn RX7 33 6 RX7 TX7 9 3 := ⟨in_X7_writeOn_X7, rfl, by decide, by decide +kernel⟩
theorem cb_X7_writeOn__X5_add : gCb yX5_add cX5_add 3 none wsX5_add (gR 2) (gR 3) 0 0 2 := ⟨rfl, rfl, rfl, by decide +kernel, by decide⟩
set_option maxRecDepth 20000 in
theorem fd_X7_writeOn_39 : gFd wsX7_writeOn RX7 39 6 RX7 TX7 9 5 := ⟨in_X7_writeOn_X7, rfl, by decide, by decide +kernel⟩
set_option maxRecDepth 20000 in
theorem in_X7_writeOn_X6 : ∀ w ∈ wsX60, w ∈ wsX7_writeOn := by decide +kernel
set_option maxRecDepth 20000 in
theorem fd_X7_writeOn_81 : gFn wsX7_writeOn RX7 81 5 RX6 TX6 3 1 := ⟨in_X7_writeOn_X6, rfl, by decide, by decide +kernel⟩
set_option maxRecDepth 20000 in
theorem fd_X7_writeOn_87 : gFn wsX7_writeOn RX7 87 5 RX6 TX6 3 0 := ⟨in_X7_writeOn_X6, rfl, by decide, by decide +kernel⟩
theorem cb_X7_writeOn__X5_get : gCb yX5_get cX5_get 2 (some .int) wsX5_get (gR 1) (gR 3) 0 0 1 := ⟨rfl, rfl, rfl, by decide +kernel, by decide⟩
theorem cb_X7_writeOn__X5_append : gCb yX5_append cX5_append 2 none wsX5_append (gR 0) (gR 3) 0 0 1 := ⟨rfl, rfl, rfl, by decide +kernel, by decide⟩
set_option maxRecDepth 20000 in
theorem in_X7_mergeMarksOf_X6 : ∀ w ∈ wsX60, w ∈ wsX7_mergeMarksOf := by decide +kernel
set_option maxRecDepth 20000 in
theorem fd_X7_mergeMarksOf_87 : gFn wsX7_mergeMarksOf RX7 87 5 RX6 TX6 3 0 := ⟨in_X7_mergeMarksOf_X6, rfl, by decide, by decide +kernel⟩
theorem cb_X7_mergeMarksOf__X5_used : gCb yX5_used cX5_used 1 (some .int) wsX5_used (gR 0) (gR 4) 0 0 0 := ⟨rfl, rfl, rfl, by decide +kernel, by decide⟩
set_option maxRecDepth 20000 in
theorem fd_X7_mergeMarksOf_84 : gFn wsX7_mergeMarksOf RX7 84 5 RX6 TX6 3 2 := ⟨in_X7_mergeMarksOf_X6, rfl, by decide, by decide +kernel⟩
set_option maxRecDepth 20000 in
theorem in_X7_mergeMarksOf_X7 : ∀ w ∈ wsX70, w ∈ wsX7_mergeMarksOf := by decide +kernel
set_option maxRecDepth 20000 in
theorem fd_X7_mergeMarksOf_33 : gFd wsX7_mergeMarksOf RX7 33 6 RX7 TX7 9 3 := ⟨in_X7_mergeMarksOf_X7, rfl, by decide, by decide +kernel⟩
theorem cb_X7_mergeMarksOf__X5_add : gCb yX5_add cX5_add 3 none wsX5_add (gR 2) (gR 4) 0 0 2 := ⟨rfl, rfl, rfl, by decide +kernel, by decide⟩
set_option maxRecDepth 20000 in
theorem fd_X7_mergeMarksOf_42 : gFd wsX7_mergeMarksOf RX7 42 6 RX7 TX7 9 6 := ⟨in_X7_mergeMarksOf_X7, rfl, by decide, by decide +kernel⟩
set_option maxRecDepth 20000 in
theorem fd_X7_mergeMarksOf_81 : gFn wsX7_mergeMarksOf RX7 81 5 RX6 TX6 3 1 := ⟨in_X7_mergeMarksOf_X6, rfl, by decide, by decide +kernel⟩
set_option maxRecDepth 20000 in
theorem fd_X7_mergeMarksOf_29 : gFd wsX7_mergeMarksOf RX7 29 6 RX7 TX7 9 2 := ⟨in_X7_mergeMarksOf_X7, rfl, by decide, by decide +kernel⟩
theorem cb_X7_mergeMarksOf__X5_get : gCb yX5_get cX5_get 2 (some .int) wsX5_get (gR 1) (gR 4) 0 0 1 := ⟨rfl, rfl, rfl, by decide +kernel, by decide⟩
theorem cb_X7_mergeMarksOf__X2_take : gCb yX2_take cX2_take 4 (some .boolean) wsX2_take (gR 3) (gR 4) 0 0 2 := ⟨rfl, rfl, rfl, by decide +kernel, by decide⟩
set_option maxRecDepth 20000 in
theorem in_X7_endRound_X7 : ∀ w ∈ wsX70, w ∈ wsX7_endRound := by decide +kernel
set_option maxRecDepth 20000 in
theorem fd_X7_endRound_33 : gFd wsX7_endRound RX7 33 6 RX7 TX7 9 3 := ⟨in_X7_endRound_X7, rfl, by decide, by decide +kernel⟩
theorem cb_X7_endRound__X7_marksOnSheetsThatAre : gCb yX7_marksOnSheetsThatAre cX7_marksOnSheetsThatAre 5 (some .int) wsX7_marksOnSheetsThatAre (gR 1) (gR 3) 0 0 1 := ⟨rfl, rfl, rfl, by decide +kernel, by decide⟩
theorem cb_X7_endRound__X5_add : gCb yX5_add cX5_add 3 none wsX5_add (gR 2) (gR 3) 0 0 2 := ⟨rfl, rfl, rfl, by decide +kernel, by decide⟩
set_option maxRecDepth 20000 in
theorem fd_X7_endRound_14 : gFd wsX7_endRound RX7 14 6 RX7 TX7 9 0 := ⟨in_X7_endRound_X7, rfl, by decide, by decide +kernel⟩
theorem cb_X7_endRound__X5_copyFrom : gCb yX5_copyFrom cX5_copyFrom 3 none wsX5_copyFrom (gR 0) (gR 3) 0 0 1 := ⟨rfl, rfl, rfl, by decide +kernel, by decide⟩
set_option maxRecDepth 20000 in
theorem fd_X7_endRound_29 : gFd wsX7_endRound RX7 29 6 RX7 TX7 9 2 := ⟨in_X7_endRound_X7, rfl, by decide, by decide +kernel⟩
theorem cb_X7_endRound__X2_empty : gCb yX2_empty cX2_empty 1 none wsX2_empty (gR 1) (gR 3) 0 0 0 := ⟨rfl, rfl, rfl, by decide +kernel, by decide⟩
set_option maxRecDepth 20000 in
theorem fd_X7_endRound_61 : gFd wsX7_endRound RX7 61 6 RX7 TX7 9 8 := ⟨in_X7_endRound_X7, rfl, by decide, by decide +kernel⟩
set_option maxRecDepth 20000 in
theorem fd_X7_endRound_57 : gFd wsX7_endRound RX7 57 6 RX7 TX7 9 7 := ⟨in_X7_endRound_X7, rfl, by decide, by decide +kernel⟩
set_option maxHeartbeats 4000000 in
set_option maxRecDepth 100000 in
/-- X7_copySheet -/
theorem k7_copySheet (l : Launch) (D : gD) (A : Nat → Prop) (hs : Nat) {G : gH} {a b : Nat} {v w : SH} (h : gSheet D G a v) (h2 : gSheet D G b w) (hd : b + 3 ≤ a ∨ a + 3 ≤ b) : gM l yX7_copySheet wsX7_copySheet (gR 2) D A hs 0 0 [.ref a, .ref b] G (gPv fun G' => gSheet D G' a w ∧ gOut a 3 G G') := by
  refine gM_intro (by decide) rfl rfl (Nat.le_of_ble_eq_true rfl) ?_
  intro p e s m args below meth c C
  refine gx_aload_n C dX7_copySheet_0 rfl ?_
  refine gx_ifnull C dX7_copySheet_1 ?_
  refine gx_aload_n C dX7_copySheet_4 rfl ?_
  refine gx_ifnull C dX7_copySheet_5 ?_
  refine gx_aload_n C dX7_copySheet_8 rfl ?_
  refine gx_aload_n C dX7_copySheet_9 rfl ?_
  refine gx_callV (ci := 5) (T := TX6) (N := 3) C (k6_copyFrom l D A hs h h2 hd) cb_X7_copySheet__X6_copyFrom gX7_copySheet_X6_copyFrom rfl (hG := h.1) rfl rfl (Nat.le_of_ble_eq_true rfl) ⟨Nat.le_refl _, Nat.le_refl _⟩ dX7_copySheet_10 (gx_kv fun G_10 h_10 => ?_)
  refine gx_vret (mc := 0) C ?_ dX7_copySheet_13
  exact ⟨rfl, h_10⟩
set_option maxHeartbeats 4000000 in
set_option maxRecDepth 100000 in
/-- X7_copyFrom -/
theorem k7_copyFrom (l : Launch) (D : gD) (A : Nat → Prop) (hs : Nat) {G : gH} {S b : Nat} {v w : SV} (hv : gSv D G S v) (hw : gSv D G b w) (hd : b + 45 ≤ S ∨ S + 45 ≤ b) : gM l yX7_copyFrom wsX7_copyFrom (gR 3) D A hs 0 0 [.ref S, .ref b] G (gPv fun G' => gSv D G' S w ∧ gOut S 45 G G') := by
  refine gM_intro (by decide) rfl rfl (Nat.le_of_ble_eq_true rfl) ?_
  intro p e s m args below meth c C
  have bn := gSv_n hv
  have bw := gSv_n hw
  have hloop : ∀ (n j : Nat) (G1 : gH) (shk : List SH), w.2.2.1.length < j + n → j ≤ w.2.2.1.length → gSv D G1 S (w.1, w.2.1, shk, w.2.2.2) ∧ shk.length = w.2.2.1.length ∧ (∀ a, a < j → shk.getD a shD = w.2.2.1.getD a shD) ∧ gOut S 45 G G1 → gX p l e (gR 3) s m args below meth c D A 3 hs 0 0 (MQ below (gQ D A hs 0 (gPv fun G' => gSv D G' S w ∧ gOut S 45 G G')) args s 0 0 A) G1 [some (.ref S), some (.ref b), some (.int (nI j))] 84 [] := by
    intro n
    induction n with
    | zero => intro j G1 shk hm hj0 hI; exact absurd hm (by omega)
    | succ n ih =>
      intro j G1 shk hm hj0 hI
      refine gx_iload_n C dX7_copyFrom_84 rfl ?_
      have tt := gSv_fr hw hI.2.2.2 hd
      refine gx_aload_n C dX7_copyFrom_85 rfl ?_
      refine gx_get C fd_X7_copyFrom_61 (hG := hI.1.1) (hv := by rfl) dX7_copyFrom_86 ?_
      refine gx_icmp_ge (tgt := 111) C dX7_copyFrom_89 (by decide) (fun c_89 => ?_) (fun c_89 => ?_)
      · rw [hI.2.1] at c_89
        have hj : ¬ j < w.2.2.1.length := fun q => nI_ge q (by omega) c_89
        refine gx_vret (mc := 0) C ?_ dX7_copyFrom_111
        have e : shk = w.2.2.1 := by
          refine List.ext_getElem hI.2.1 (fun a h1 h2 => ?_)
          have h3 := hI.2.2.1 a (by omega)
          rw [List.getD_eq_getElem?_getD, List.getD_eq_getElem?_getD, List.getElem?_eq_getElem h1, List.getElem?_eq_getElem h2] at h3
          exact h3
        subst e
        exact ⟨rfl, hI.1, hI.2.2.2⟩
      · rw [hI.2.1] at c_89
        have hj : j < w.2.2.1.length := by
          rcases Nat.lt_or_ge (j) (w.2.2.1.length) with q | q
          · exact q
          · exact absurd (nI_le q (by omega)) c_89
        refine gx_aload_n C dX7_copyFrom_92 rfl ?_
        refine gx_iload_n C dX7_copyFrom_93 rfl ?_
        refine gx_callV (ci := 6) (T := TX7) (N := 9) C (k7_sheetAt l D A hs hI.1 j (by rw [hI.2.1]; exact hj)) cb_X7_copyFrom__X7_sheetNumbered gX7_copyFrom_X7_sheetNumbered rfl (hG := hI.1.1) rfl rfl (Nat.le_of_ble_eq_true rfl) ⟨Nat.le_refl _, Nat.le_refl _⟩ dX7_copyFrom_94 (gx_kr fun w_94 G_94 hw_94 h_94 => ?_)
        obtain ⟨rfl, rfl⟩ := h_94
        refine gx_aload_n C dX7_copyFrom_97 rfl ?_
        refine gx_iload_n C dX7_copyFrom_98 rfl ?_
        refine gx_callV (ci := 6) (T := TX7) (N := 9) C (k7_sheetAt l D A hs tt j hj) cb_X7_copyFrom__X7_sheetNumbered gX7_copyFrom_X7_sheetNumbered rfl (hG := tt.1) rfl rfl (Nat.le_of_ble_eq_true rfl) ⟨Nat.le_refl _, Nat.le_refl _⟩ dX7_copyFrom_99 (gx_kr fun w_99 G_99 hw_99 h_99 => ?_)
        obtain ⟨rfl, rfl⟩ := h_99
        refine gx_callS C (k7_copySheet l D A hs (gSv_gd hI.1 (i := j) (by rw [hI.2.1]; exact hj)) (gSv_gd tt hj) (by omega)) cb_X7_copyFrom__X7_copySheet gX7_copyFrom_X7_copySheet rfl rfl (Nat.le_of_ble_eq_true rfl) ⟨Nat.le_refl _, Nat.le_refl _⟩ dX7_copyFrom_102 (gx_kv fun G_102 h_102 => ?_)
        first | refine gx_iincN C dX7_copyFrom_105 rfl (by decide) ?_ | refine gx_iinc1 C dX7_copyFrom_105 rfl (by decide) ?_
        refine gx_goto (tgt := 84) C dX7_copyFrom_108 (by decide) ?_
        have hjk : j < shk.length := by rw [hI.2.1]; exact hj
        have s1 := gSv_sh' hI.1 hjk h_102.1 h_102.2
        have hI2 := hI.2
        refine ih (j + 1) _ _ (by omega) (by omega) ⟨s1, by rw [List.length_set]; exact hI2.1, ?_, gOut_tr hI2.2.2 (gOut_wd h_102.2 (by omega))⟩
        intro a ha
        by_cases q : a = j
        · subst q
          rw [List.getD_eq_getElem?_getD, List.getElem?_set_self (show a < shk.length from hjk)]
          rfl
        · rw [List.getD_eq_getElem?_getD, List.getElem?_set_ne (Ne.symm q), ← List.getD_eq_getElem?_getD]
          exact hI2.2.1 a (by omega)
  refine gx_aload_n C dX7_copyFrom_0 rfl ?_
  refine gx_get C fd_X7_copyFrom_14 (hG := hv.1) (hv := by rfl) dX7_copyFrom_1 ?_
  refine gx_aload_n C dX7_copyFrom_4 rfl ?_
  refine gx_get C fd_X7_copyFrom_14 (hG := hw.1) (hv := by rfl) dX7_copyFrom_5 ?_
  refine gx_callV (ci := 4) (T := TX5) (N := 2) C (k5_copyFrom l D A hs (gSv_tx hv) (gSv_tx hw) (by omega) (gRow_le (gSv_tx hw)).1) cb_X7_copyFrom__X5_copyFrom gX7_copyFrom_X5_copyFrom rfl (hG := (gRow_ob (gSv_tx hv))) rfl rfl (Nat.le_of_ble_eq_true rfl) ⟨Nat.le_refl _, Nat.le_refl _⟩ dX7_copyFrom_8 (gx_kv fun G_8 h_8 => ?_)
  have s1 := gSv_tx' hv h_8.1 h_8.2
  have w1 := (gOut_wd (b := S) (k := 45) h_8.2 (by omega))
  have t1 := gSv_fr hw w1 hd
  refine gx_aload_n C dX7_copyFrom_11 rfl ?_
  refine gx_get C fd_X7_copyFrom_29 (hG := s1.1) (hv := by rfl) dX7_copyFrom_12 ?_
  refine gx_aload_n C dX7_copyFrom_15 rfl ?_
  refine gx_get C fd_X7_copyFrom_29 (hG := t1.1) (hv := by rfl) dX7_copyFrom_16 ?_
  refine gx_callV (ci := 1) (T := TX2) (N := 4) C (k2_copyFrom l D A hs (gSv_li t1) (by omega) (gSv_li s1)) cb_X7_copyFrom__X2_copyFrom gX7_copyFrom_X2_copyFrom rfl (hG := (gSv_li s1).1) rfl rfl (Nat.le_of_ble_eq_true rfl) ⟨Nat.le_refl _, Nat.le_refl _⟩ dX7_copyFrom_19 (gx_kv fun G_19 h_19 => ?_)
  have s2 := gSv_li' s1 h_19.1 h_19.2
  have w2 := gOut_tr w1 (gOut_wd (b := S) (k := 45) h_19.2 (by omega))
  have t2 := gSv_fr hw w2 hd
  refine gx_aload_n C dX7_copyFrom_22 rfl ?_
  refine gx_get C fd_X7_copyFrom_33 (hG := s2.1) (hv := by rfl) dX7_copyFrom_23 ?_
  refine gx_aload_n C dX7_copyFrom_26 rfl ?_
  refine gx_get C fd_X7_copyFrom_33 (hG := t2.1) (hv := by rfl) dX7_copyFrom_27 ?_
  refine gx_callV (ci := 4) (T := TX5) (N := 2) C (k5_copyFrom l D A hs (gSv_ac s2).1 (gSv_ac t2).1 (by omega) (gRow_le (gSv_ac t2).1).1) cb_X7_copyFrom__X5_copyFrom gX7_copyFrom_X5_copyFrom rfl (hG := (gRow_ob (gSv_ac s2).1)) rfl rfl (Nat.le_of_ble_eq_true rfl) ⟨Nat.le_refl _, Nat.le_refl _⟩ dX7_copyFrom_30 (gx_kv fun G_30 h_30 => ?_)
  have s3 := gSv_ac' s2 (gAcc_0 (gSv_ac s2) h_30.1 h_30.2) (gOut_wd h_30.2 (by omega))
  have w3 := gOut_tr w2 (gOut_wd (b := S) (k := 45) h_30.2 (by omega))
  have t3 := gSv_fr hw w3 hd
  refine gx_aload_n C dX7_copyFrom_33 rfl ?_
  refine gx_get C fd_X7_copyFrom_36 (hG := s3.1) (hv := by rfl) dX7_copyFrom_34 ?_
  refine gx_aload_n C dX7_copyFrom_37 rfl ?_
  refine gx_get C fd_X7_copyFrom_36 (hG := t3.1) (hv := by rfl) dX7_copyFrom_38 ?_
  refine gx_callV (ci := 4) (T := TX5) (N := 2) C (k5_copyFrom l D A hs (gSv_ac s3).2.1 (gSv_ac t3).2.1 (by omega) (gRow_le (gSv_ac t3).2.1).1) cb_X7_copyFrom__X5_copyFrom gX7_copyFrom_X5_copyFrom rfl (hG := (gRow_ob (gSv_ac s3).2.1)) rfl rfl (Nat.le_of_ble_eq_true rfl) ⟨Nat.le_refl _, Nat.le_refl _⟩ dX7_copyFrom_41 (gx_kv fun G_41 h_41 => ?_)
  have s4 := gSv_ac' s3 (gAcc_1 (gSv_ac s3) h_41.1 h_41.2) (gOut_wd h_41.2 (by omega))
  have w4 := gOut_tr w3 (gOut_wd (b := S) (k := 45) h_41.2 (by omega))
  have t4 := gSv_fr hw w4 hd
  refine gx_aload_n C dX7_copyFrom_44 rfl ?_
  refine gx_get C fd_X7_copyFrom_39 (hG := s4.1) (hv := by rfl) dX7_copyFrom_45 ?_
  refine gx_aload_n C dX7_copyFrom_48 rfl ?_
  refine gx_get C fd_X7_copyFrom_39 (hG := t4.1) (hv := by rfl) dX7_copyFrom_49 ?_
  refine gx_callV (ci := 4) (T := TX5) (N := 2) C (k5_copyFrom l D A hs (gSv_ac s4).2.2.1 (gSv_ac t4).2.2.1 (by omega) (gRow_le (gSv_ac t4).2.2.1).1) cb_X7_copyFrom__X5_copyFrom gX7_copyFrom_X5_copyFrom rfl (hG := (gRow_ob (gSv_ac s4).2.2.1)) rfl rfl (Nat.le_of_ble_eq_true rfl) ⟨Nat.le_refl _, Nat.le_refl _⟩ dX7_copyFrom_52 (gx_kv fun G_52 h_52 => ?_)
  have s5 := gSv_ac' s4 (gAcc_2 (gSv_ac s4) h_52.1 h_52.2) (gOut_wd h_52.2 (by omega))
  have w5 := gOut_tr w4 (gOut_wd (b := S) (k := 45) h_52.2 (by omega))
  have t5 := gSv_fr hw w5 hd
  refine gx_aload_n C dX7_copyFrom_55 rfl ?_
  refine gx_get C fd_X7_copyFrom_42 (hG := s5.1) (hv := by rfl) dX7_copyFrom_56 ?_
  refine gx_aload_n C dX7_copyFrom_59 rfl ?_
  refine gx_get C fd_X7_copyFrom_42 (hG := t5.1) (hv := by rfl) dX7_copyFrom_60 ?_
  refine gx_callV (ci := 4) (T := TX5) (N := 2) C (k5_copyFrom l D A hs (gSv_ac s5).2.2.2 (gSv_ac t5).2.2.2 (by omega) (gRow_le (gSv_ac t5).2.2.2).1) cb_X7_copyFrom__X5_copyFrom gX7_copyFrom_X5_copyFrom rfl (hG := (gRow_ob (gSv_ac s5).2.2.2)) rfl rfl (Nat.le_of_ble_eq_true rfl) ⟨Nat.le_refl _, Nat.le_refl _⟩ dX7_copyFrom_63 (gx_kv fun G_63 h_63 => ?_)
  have s6 := gSv_ac' s5 (gAcc_3 (gSv_ac s5) h_63.1 h_63.2) (gOut_wd h_63.2 (by omega))
  have w6 := gOut_tr w5 (gOut_wd (b := S) (k := 45) h_63.2 (by omega))
  have t6 := gSv_fr hw w6 hd
  refine gx_aload_n C dX7_copyFrom_66 rfl ?_
  refine gx_aload_n C dX7_copyFrom_67 rfl ?_
  refine gx_get C fd_X7_copyFrom_57 (hG := t6.1) (hv := by rfl) dX7_copyFrom_68 ?_
  refine gx_put C fd_X7_copyFrom_57 tyX7_ok nmX7 rfl rfl rfl (hG := s6.1) (hl := by exact Nat.le_of_ble_eq_true rfl) dX7_copyFrom_71 ?_
  have s7 := gSv_rd' (x := w.2.1) s6
  have w7 : gOut S 45 G _ := gOut_tr w6 (gOut_up (n := 45) (b := S) (e := (.inr (6, [.ref (S + 1), .ref (S + 3), .ref (S + 4), .ref (S + 13), .ref (S + 15), .ref (S + 17), .ref (S + 19), .int w.2.1, .int (nI v.2.2.1.length)]))) gOut_rf (by omega))
  have t7 := gSv_fr hw w7 hd
  refine gx_aload_n C dX7_copyFrom_74 rfl ?_
  refine gx_aload_n C dX7_copyFrom_75 rfl ?_
  refine gx_get C fd_X7_copyFrom_61 (hG := t7.1) (hv := by rfl) dX7_copyFrom_76 ?_
  refine gx_put C fd_X7_copyFrom_61 tyX7_ok nmX7 rfl rfl rfl (hG := gU_s) (hl := by exact Nat.le_of_ble_eq_true rfl) dX7_copyFrom_79 ?_
  obtain ⟨shk, hk1, hk2⟩ := gShs_any (gSv_sh s7) bw
  have s8 := gSv_sc' s7 hk2
  rw [hk1] at s8
  refine gx_iconst (v := 0) C dX7_copyFrom_82 (by decide) ?_
  refine gx_istore_n C dX7_copyFrom_83 (by decide) ?_
  exact hloop (w.2.2.1.length + 1) 0 _ shk (by omega) (by omega) ⟨s8, hk1, fun a ha => absurd ha (by omega), gOut_up w7 (by omega)⟩
set_option maxHeartbeats 4000000 in
set_option maxRecDepth 100000 in
/-- X7_writeOn -/
theorem k7_writeOn (l : Launch) (D : gD) (A : Nat → Prop) (hs : Nat) {G : gH} {S : Nat} {v : SV} (hv : gSv D G S v) {i b cap : Nat} {cs : List Int32} (hi : i < v.2.2.1.length) (hr : gRow D G b cap cs) (hd : b + 2 ≤ S ∨ S + 45 ≤ b) (hc8 : (v.2.2.1.getD i shD).2.2.length + cs.length ≤ 8) : gM l yX7_writeOn wsX7_writeOn (gR 3) D A hs 0 0 [.ref S, .ref (S + 21 + 3 * i), .ref b] G (gPv fun G' => gSv D G' S (v.1, v.2.1, v.2.2.1.set i ((v.2.2.1.getD i shD).1, (v.2.2.1.getD i shD).2.1, (v.2.2.1.getD i shD).2.2 ++ cs), v.2.2.2.1, (lset v.2.2.2.2.1 0 (lget v.2.2.2.2.1 0 + nI cs.length), v.2.2.2.2.2.1, lset v.2.2.2.2.2.2.1 (v.2.2.1.getD i shD).1 (lget v.2.2.2.2.2.2.1 (v.2.2.1.getD i shD).1 + nI cs.length), v.2.2.2.2.2.2.2)) ∧ gOut S 45 G G') := by
  refine gM_intro (by decide) rfl rfl (Nat.le_of_ble_eq_true rfl) ?_
  intro p e s m args below meth c C
  have bn := gSv_n hv
  have bc := gRow_le hr
  have hini : gSv D G S (v.1, v.2.1, v.2.2.1.set i ((v.2.2.1.getD i shD).1, (v.2.2.1.getD i shD).2.1, (v.2.2.1.getD i shD).2.2 ++ cs.take 0), v.2.2.2) := by
    rw [List.take_zero, List.append_nil, gD_self hi]
    exact hv
  have hloop : ∀ (n j : Nat) (G1 : gH), cs.length < j + n → j ≤ cs.length → gSv D G1 S (v.1, v.2.1, v.2.2.1.set i ((v.2.2.1.getD i shD).1, (v.2.2.1.getD i shD).2.1, (v.2.2.1.getD i shD).2.2 ++ cs.take j), v.2.2.2) ∧ gOut S 45 G G1 → gX p l e (gR 3) s m args below meth c D A 4 hs 0 0 (MQ below (gQ D A hs 0 (gPv fun G' => gSv D G' S (v.1, v.2.1, v.2.2.1.set i ((v.2.2.1.getD i shD).1, (v.2.2.1.getD i shD).2.1, (v.2.2.1.getD i shD).2.2 ++ cs), v.2.2.2.1, (lset v.2.2.2.2.1 0 (lget v.2.2.2.2.1 0 + nI cs.length), v.2.2.2.2.2.1, lset v.2.2.2.2.2.2.1 (v.2.2.1.getD i shD).1 (lget v.2.2.2.2.2.2.1 (v.2.2.1.getD i shD).1 + nI cs.length), v.2.2.2.2.2.2.2)) ∧ gOut S 45 G G')) args s 0 0 A) G1 [some (.ref S), some (.ref (S + 21 + 3 * i)), some (.ref b), some (.int (nI j))] 2 [] := by
    intro n
    induction n with
    | zero => intro j G1 hm hj0 hI; exact absurd hm (by omega)
    | succ n ih =>
      intro j G1 hm hj0 hI
      refine gx_iload_n C dX7_writeOn_2 rfl ?_
      have hb := gRow_fr hr hI.2 hd
      have hsh := gSv_gd hI.1 (i := i) (by simp; exact hi)
      rw [gD_set (by exact hi)] at hsh
      refine gx_aload_n C dX7_writeOn_3 rfl ?_
      refine gx_callV (ci := 4) (T := TX5) (N := 2) C (k5_used l D A hs hb) cb_X7_writeOn__X5_used gX7_writeOn_X5_used rfl (hG := (gRow_ob hb)) rfl rfl (Nat.le_of_ble_eq_true rfl) ⟨Nat.le_refl _, Nat.le_refl _⟩ dX7_writeOn_4 (gx_ki fun r_4 G_4 h_4 => ?_)
      obtain ⟨rfl, rfl⟩ := h_4
      refine gx_icmp_ge (tgt := 28) C dX7_writeOn_7 (by decide) (fun c_7 => ?_) (fun c_7 => ?_)
      · have hj : ¬ j < cs.length := fun q => nI_ge q (by omega) c_7
        
        refine gx_aload_n C dX7_writeOn_28 rfl ?_
        refine gx_get C fd_X7_writeOn_33 (hG := hI.1.1) (hv := by rfl) dX7_writeOn_29 ?_
        refine gx_iconst (v := 0) C dX7_writeOn_32 (by decide) ?_
        refine gx_aload_n C dX7_writeOn_33 rfl ?_
        refine gx_callV (ci := 4) (T := TX5) (N := 2) C (k5_used l D A hs hb) cb_X7_writeOn__X5_used gX7_writeOn_X5_used rfl (hG := (gRow_ob hb)) rfl rfl (Nat.le_of_ble_eq_true rfl) ⟨Nat.le_refl _, Nat.le_refl _⟩ dX7_writeOn_34 (gx_ki fun r_34 G_34 h_34 => ?_)
        obtain ⟨rfl, rfl⟩ := h_34
        refine gx_callV (ci := 4) (T := TX5) (N := 2) C (k5_add l D A hs 0 (nI cs.length) (gSv_ac hI.1).1) cb_X7_writeOn__X5_add gX7_writeOn_X5_add rfl (hG := (gRow_ob (gSv_ac hI.1).1)) rfl rfl (Nat.le_of_ble_eq_true rfl) ⟨Nat.le_refl _, Nat.le_refl _⟩ dX7_writeOn_37 (gx_kv fun G_37 h_37 => ?_)
        have s2 := gSv_ac' hI.1 (gAcc_0 (gSv_ac hI.1) h_37.1 h_37.2) (gOut_wd h_37.2 (by omega))
        have hb2 := gRow_fr hb h_37.2 (by omega)
        have hs2 := gSheet_fr hsh h_37.2 (by omega)
        refine gx_aload_n C dX7_writeOn_40 rfl ?_
        refine gx_get C fd_X7_writeOn_39 (hG := s2.1) (hv := by rfl) dX7_writeOn_41 ?_
        refine gx_aload_n C dX7_writeOn_44 rfl ?_
        refine gx_getN C fd_X7_writeOn_81 (hG := hs2.1) (hv := by rfl) dX7_writeOn_45 ?_
        refine gx_aload_n C dX7_writeOn_48 rfl ?_
        refine gx_callV (ci := 4) (T := TX5) (N := 2) C (k5_used l D A hs hb2) cb_X7_writeOn__X5_used gX7_writeOn_X5_used rfl (hG := (gRow_ob hb2)) rfl rfl (Nat.le_of_ble_eq_true rfl) ⟨Nat.le_refl _, Nat.le_refl _⟩ dX7_writeOn_49 (gx_ki fun r_49 G_49 h_49 => ?_)
        obtain ⟨rfl, rfl⟩ := h_49
        refine gx_callV (ci := 4) (T := TX5) (N := 2) C (k5_add l D A hs (v.2.2.1.getD i shD).1 (nI cs.length) (gSv_ac s2).2.2.1) cb_X7_writeOn__X5_add gX7_writeOn_X5_add rfl (hG := (gRow_ob (gSv_ac s2).2.2.1)) rfl rfl (Nat.le_of_ble_eq_true rfl) ⟨Nat.le_refl _, Nat.le_refl _⟩ dX7_writeOn_52 (gx_kv fun G_52 h_52 => ?_)
        refine gx_vret (mc := 0) C ?_ dX7_writeOn_55
        have e : j = cs.length := by omega
        have s3 := gSv_ac' s2 (gAcc_2 (gSv_ac s2) h_52.1 h_52.2) (gOut_wd h_52.2 (by omega))
        rw [e, List.take_length] at s3
        exact ⟨rfl, s3, gOut_tr hI.2 (gOut_tr (gOut_wd h_37.2 (by omega)) (gOut_wd h_52.2 (by omega)))⟩
      · have hj : j < cs.length := by
          rcases Nat.lt_or_ge (j) (cs.length) with q | q
          · exact q
          · exact absurd (nI_le q (by omega)) c_7
        refine gx_aload_n C dX7_writeOn_10 rfl ?_
        refine gx_getN C fd_X7_writeOn_87 (hG := hsh.1) (hv := by rfl) dX7_writeOn_11 ?_
        refine gx_aload_n C dX7_writeOn_14 rfl ?_
        refine gx_iload_n C dX7_writeOn_15 rfl ?_
        refine gx_callV (ci := 4) (T := TX5) (N := 2) C (k5_get l D A hs (nI j) hb) cb_X7_writeOn__X5_get gX7_writeOn_X5_get rfl (hG := (gRow_ob hb)) rfl rfl (Nat.le_of_ble_eq_true rfl) ⟨Nat.le_refl _, Nat.le_refl _⟩ dX7_writeOn_16 (gx_ki fun r_16 G_16 h_16 => ?_)
        obtain ⟨rfl, rfl⟩ := h_16
        refine gx_callV (ci := 4) (T := TX5) (N := 2) C (k5_append l D A hs (lget cs (nI j)) hsh.2) cb_X7_writeOn__X5_append gX7_writeOn_X5_append rfl (hG := (gRow_ob hsh.2)) rfl rfl (Nat.le_of_ble_eq_true rfl) ⟨Nat.le_refl _, Nat.le_refl _⟩ dX7_writeOn_19 (gx_kv fun G_19 h_19 => ?_)
        first | refine gx_iincN C dX7_writeOn_22 rfl (by decide) ?_ | refine gx_iinc1 C dX7_writeOn_22 rfl (by decide) ?_
        refine gx_goto (tgt := 2) C dX7_writeOn_25 (by decide) ?_
        have h := h_19.1
        have hle : ((v.2.2.1.getD i shD).2.2 ++ cs.take j).length < 8 := by rw [List.length_append, List.length_take]; omega
        rw [lapp, if_pos hle, lget_nI (by omega), List.append_assoc, ← pTake_s hj] at h
        have s1 := gSv_sh' hI.1 (by simp; exact hi) (gSheet_ms hsh h h_19.2) (gOut_wd h_19.2 (by omega))
        rw [List.set_set] at s1
        exact ih (j + 1) _ (by omega) (by omega) ⟨s1, gOut_tr hI.2 (gOut_wd h_19.2 (by omega))⟩
  refine gx_iconst (v := 0) C dX7_writeOn_0 (by decide) ?_
  refine gx_istore_n C dX7_writeOn_1 (by decide) ?_
  exact hloop (cs.length + 1) 0 _ (by omega) (by omega) ⟨hini, gOut_rf⟩
set_option maxHeartbeats 4000000 in
set_option maxRecDepth 100000 in
/-- X7_mergeMarksOf -/
theorem k7_mergeMarksOf (l : Launch) (D : gD) (A : Nat → Prop) (hs : Nat) {G : gH} {S : Nat} {v : SV} (hv : gSv D G S v) {i : Nat} (hi : i < v.2.2.1.length) : gM l yX7_mergeMarksOf wsX7_mergeMarksOf (gR 4) D A hs 0 0 [.ref S, .ref (S + 21 + 3 * i)] G (gPi fun x G' => x = nI (pMgU (v.2.2.1.getD i shD).2.2 (v.2.2.1.getD i shD).1 v.2.2.2.1 (v.2.2.1.getD i shD).2.2.length) ∧ gSv D G' S (v.1, v.2.1, v.2.2.1.set i ((v.2.2.1.getD i shD).1, 3, (v.2.2.1.getD i shD).2.2), pMg (v.2.2.1.getD i shD).2.2 (v.2.2.1.getD i shD).1 v.2.2.2.1 (v.2.2.1.getD i shD).2.2.length, (lset v.2.2.2.2.1 1 (lget v.2.2.2.2.1 1 + nI (pMgU (v.2.2.1.getD i shD).2.2 (v.2.2.1.getD i shD).1 v.2.2.2.1 (v.2.2.1.getD i shD).2.2.length)), v.2.2.2.2.2.1, v.2.2.2.2.2.2.1, lset v.2.2.2.2.2.2.2 (v.2.2.1.getD i shD).1 (lget v.2.2.2.2.2.2.2 (v.2.2.1.getD i shD).1 + nI (v.2.2.1.getD i shD).2.2.length))) ∧ gOut S 45 G G') := by
  refine gM_intro (by decide) rfl rfl (Nat.le_of_ble_eq_true rfl) ?_
  intro p e s m args below meth c C
  have bn := gSv_n hv
  have bm := gRow_le (gSv_gd hv hi).2
  have hloop : ∀ (n j : Nat) (G1 : gH), (v.2.2.1.getD i shD).2.2.length < j + n → j ≤ (v.2.2.1.getD i shD).2.2.length → gSv D G1 S (v.1, v.2.1, v.2.2.1, pMg (v.2.2.1.getD i shD).2.2 (v.2.2.1.getD i shD).1 v.2.2.2.1 j, v.2.2.2.2) ∧ gOut S 45 G G1 → gX p l e (gR 4) s m args below meth c D A 4 hs 0 0 (MQ below (gQ D A hs 0 (gPi fun x G' => x = nI (pMgU (v.2.2.1.getD i shD).2.2 (v.2.2.1.getD i shD).1 v.2.2.2.1 (v.2.2.1.getD i shD).2.2.length) ∧ gSv D G' S (v.1, v.2.1, v.2.2.1.set i ((v.2.2.1.getD i shD).1, 3, (v.2.2.1.getD i shD).2.2), pMg (v.2.2.1.getD i shD).2.2 (v.2.2.1.getD i shD).1 v.2.2.2.1 (v.2.2.1.getD i shD).2.2.length, (lset v.2.2.2.2.1 1 (lget v.2.2.2.2.1 1 + nI (pMgU (v.2.2.1.getD i shD).2.2 (v.2.2.1.getD i shD).1 v.2.2.2.1 (v.2.2.1.getD i shD).2.2.length)), v.2.2.2.2.2.1, v.2.2.2.2.2.2.1, lset v.2.2.2.2.2.2.2 (v.2.2.1.getD i shD).1 (lget v.2.2.2.2.2.2.2 (v.2.2.1.getD i shD).1 + nI (v.2.2.1.getD i shD).2.2.length))) ∧ gOut S 45 G G')) args s 0 0 A) G1 [some (.ref S), some (.ref (S + 21 + 3 * i)), some (.int (nI (pMgU (v.2.2.1.getD i shD).2.2 (v.2.2.1.getD i shD).1 v.2.2.2.1 j))), some (.int (nI j))] 4 [] := by
    intro n
    induction n with
    | zero => intro j G1 hm hj0 hI; exact absurd hm (by omega)
    | succ n ih =>
      intro j G1 hm hj0 hI
      refine gx_iload_n C dX7_mergeMarksOf_4 rfl ?_
      have hsh := gSv_gd hI.1 (i := i) hi
      refine gx_aload_n C dX7_mergeMarksOf_5 rfl ?_
      refine gx_getN C fd_X7_mergeMarksOf_87 (hG := hsh.1) (hv := by rfl) dX7_mergeMarksOf_6 ?_
      refine gx_callV (ci := 4) (T := TX5) (N := 2) C (k5_used l D A hs hsh.2) cb_X7_mergeMarksOf__X5_used gX7_mergeMarksOf_X5_used rfl (hG := (gRow_ob hsh.2)) rfl rfl (Nat.le_of_ble_eq_true rfl) ⟨Nat.le_refl _, Nat.le_refl _⟩ dX7_mergeMarksOf_9 (gx_ki fun r_9 G_9 h_9 => ?_)
      obtain ⟨rfl, rfl⟩ := h_9
      refine gx_icmp_ge (tgt := 46) C dX7_mergeMarksOf_12 (by decide) (fun c_12 => ?_) (fun c_12 => ?_)
      · have hj : ¬ j < (v.2.2.1.getD i shD).2.2.length := fun q => nI_ge q (by omega) c_12
        
        refine gx_aload_n C dX7_mergeMarksOf_46 rfl ?_
        refine gx_iconst (v := 3) C dX7_mergeMarksOf_47 (by decide) ?_
        refine gx_putN C fd_X7_mergeMarksOf_84 tyX6_ok nmX6 rfl rfl rfl (hG := hsh.1) (hl := by exact Nat.le_of_ble_eq_true rfl) dX7_mergeMarksOf_48 ?_
        have e : j = (v.2.2.1.getD i shD).2.2.length := by omega
        subst e
        have p1 := gSheet_put (x := (v.2.2.1.getD i shD).1) (y := 3) hsh
        have s2 := gSv_sh' hI.1 hi p1 (gOut_up gOut_rf (by omega))
        refine gx_aload_n C dX7_mergeMarksOf_51 rfl ?_
        refine gx_get C fd_X7_mergeMarksOf_33 (hG := s2.1) (hv := by rfl) dX7_mergeMarksOf_52 ?_
        refine gx_iconst (v := 1) C dX7_mergeMarksOf_55 (by decide) ?_
        refine gx_iload_n C dX7_mergeMarksOf_56 rfl ?_
        refine gx_callV (ci := 4) (T := TX5) (N := 2) C (k5_add l D A hs 1 (nI (pMgU (v.2.2.1.getD i shD).2.2 (v.2.2.1.getD i shD).1 v.2.2.2.1 (v.2.2.1.getD i shD).2.2.length)) (gSv_ac s2).1) cb_X7_mergeMarksOf__X5_add gX7_mergeMarksOf_X5_add rfl (hG := (gRow_ob (gSv_ac s2).1)) rfl rfl (Nat.le_of_ble_eq_true rfl) ⟨Nat.le_refl _, Nat.le_refl _⟩ dX7_mergeMarksOf_57 (gx_kv fun G_57 h_57 => ?_)
        have s3 := gSv_ac' s2 (gAcc_0 (gSv_ac s2) h_57.1 h_57.2) (gOut_wd h_57.2 (by omega))
        have hs3 := gSheet_fr p1 h_57.2 (by omega)
        refine gx_aload_n C dX7_mergeMarksOf_60 rfl ?_
        refine gx_get C fd_X7_mergeMarksOf_42 (hG := s3.1) (hv := by rfl) dX7_mergeMarksOf_61 ?_
        refine gx_aload_n C dX7_mergeMarksOf_64 rfl ?_
        refine gx_getN C fd_X7_mergeMarksOf_81 (hG := hs3.1) (hv := by rfl) dX7_mergeMarksOf_65 ?_
        refine gx_aload_n C dX7_mergeMarksOf_68 rfl ?_
        refine gx_getN C fd_X7_mergeMarksOf_87 (hG := hs3.1) (hv := by rfl) dX7_mergeMarksOf_69 ?_
        refine gx_callV (ci := 4) (T := TX5) (N := 2) C (k5_used l D A hs hs3.2) cb_X7_mergeMarksOf__X5_used gX7_mergeMarksOf_X5_used rfl (hG := (gRow_ob hs3.2)) rfl rfl (Nat.le_of_ble_eq_true rfl) ⟨Nat.le_refl _, Nat.le_refl _⟩ dX7_mergeMarksOf_72 (gx_ki fun r_72 G_72 h_72 => ?_)
        obtain ⟨rfl, rfl⟩ := h_72
        refine gx_callV (ci := 4) (T := TX5) (N := 2) C (k5_add l D A hs (v.2.2.1.getD i shD).1 (nI (v.2.2.1.getD i shD).2.2.length) (gSv_ac s3).2.2.2) cb_X7_mergeMarksOf__X5_add gX7_mergeMarksOf_X5_add rfl (hG := (gRow_ob (gSv_ac s3).2.2.2)) rfl rfl (Nat.le_of_ble_eq_true rfl) ⟨Nat.le_refl _, Nat.le_refl _⟩ dX7_mergeMarksOf_75 (gx_kv fun G_75 h_75 => ?_)
        refine gx_iload_n C dX7_mergeMarksOf_78 rfl ?_
        refine gx_zret (mc := 0) C rfl ?_ dX7_mergeMarksOf_79
        have s4 := gSv_ac' s3 (gAcc_3 (gSv_ac s3) h_75.1 h_75.2) (gOut_wd h_75.2 (by omega))
        exact ⟨_, rfl, rfl, s4, gOut_tr hI.2 (gOut_tr (gOut_up gOut_rf (by omega)) (gOut_tr (gOut_wd h_57.2 (by omega)) (gOut_wd h_75.2 (by omega))))⟩
      · have hj : j < (v.2.2.1.getD i shD).2.2.length := by
          rcases Nat.lt_or_ge (j) ((v.2.2.1.getD i shD).2.2.length) with q | q
          · exact q
          · exact absurd (nI_le q (by omega)) c_12
        refine gx_aload_n C dX7_mergeMarksOf_15 rfl ?_
        refine gx_get C fd_X7_mergeMarksOf_29 (hG := hI.1.1) (hv := by rfl) dX7_mergeMarksOf_16 ?_
        refine gx_aload_n C dX7_mergeMarksOf_19 rfl ?_
        refine gx_getN C fd_X7_mergeMarksOf_87 (hG := hsh.1) (hv := by rfl) dX7_mergeMarksOf_20 ?_
        refine gx_iload_n C dX7_mergeMarksOf_23 rfl ?_
        refine gx_callV (ci := 4) (T := TX5) (N := 2) C (k5_get l D A hs (nI j) hsh.2) cb_X7_mergeMarksOf__X5_get gX7_mergeMarksOf_X5_get rfl (hG := (gRow_ob hsh.2)) rfl rfl (Nat.le_of_ble_eq_true rfl) ⟨Nat.le_refl _, Nat.le_refl _⟩ dX7_mergeMarksOf_24 (gx_ki fun r_24 G_24 h_24 => ?_)
        obtain ⟨rfl, rfl⟩ := h_24
        refine gx_aload_n C dX7_mergeMarksOf_27 rfl ?_
        refine gx_getN C fd_X7_mergeMarksOf_81 (hG := hsh.1) (hv := by rfl) dX7_mergeMarksOf_28 ?_
        refine gx_callV (ci := 1) (T := TX2) (N := 4) C (k2_take l D A hs (lget (v.2.2.1.getD i shD).2.2 (nI j)) (v.2.2.1.getD i shD).1 (gSv_li hI.1)) cb_X7_mergeMarksOf__X2_take gX7_mergeMarksOf_X2_take rfl (hG := (gSv_li hI.1).1) rfl rfl (Nat.le_of_ble_eq_true rfl) ⟨Nat.le_refl _, Nat.le_refl _⟩ dX7_mergeMarksOf_31 (gx_ki fun r_31 G_31 h_31 => ?_)
        rw [lget_nI (by omega)] at h_31
        obtain ⟨hr31, hl31, ho31⟩ := h_31
        subst hr31
        have s1 := gSv_li' hI.1 hl31 ho31
        refine gx_if_eq (tgt := 40) C dX7_mergeMarksOf_34 (by decide) (fun c_34 => ?_) (fun c_34 => ?_)
        · have q : ¬ (v.2.2.1.getD i shD).2.2.getD j 0 ∈ (pMg (v.2.2.1.getD i shD).2.2 (v.2.2.1.getD i shD).1 v.2.2.2.1 j).1 := fun q => by
            rw [if_pos q] at c_34; exact absurd c_34 (by decide)
          have hx : pMgU (v.2.2.1.getD i shD).2.2 (v.2.2.1.getD i shD).1 v.2.2.2.1 (j + 1) = pMgU (v.2.2.1.getD i shD).2.2 (v.2.2.1.getD i shD).1 v.2.2.2.1 j := by rw [pMgU, if_neg q]; rfl
          first | refine gx_iincN C dX7_mergeMarksOf_40 rfl (by decide) ?_ | refine gx_iinc1 C dX7_mergeMarksOf_40 rfl (by decide) ?_
          refine gx_goto (tgt := 4) C dX7_mergeMarksOf_43 (by decide) ?_
          refine gx_V ?_ (ih (j + 1) _ (by omega) (by omega) ⟨s1, gOut_tr hI.2 (gOut_wd ho31 (by omega))⟩)
          rw [hx]
          rfl
        · have q : (v.2.2.1.getD i shD).2.2.getD j 0 ∈ (pMg (v.2.2.1.getD i shD).2.2 (v.2.2.1.getD i shD).1 v.2.2.2.1 j).1 := by
            by_cases q : (v.2.2.1.getD i shD).2.2.getD j 0 ∈ (pMg (v.2.2.1.getD i shD).2.2 (v.2.2.1.getD i shD).1 v.2.2.2.1 j).1
            · exact q
            · rw [if_neg q] at c_34; exact absurd rfl c_34
          have hx : pMgU (v.2.2.1.getD i shD).2.2 (v.2.2.1.getD i shD).1 v.2.2.2.1 (j + 1) = pMgU (v.2.2.1.getD i shD).2.2 (v.2.2.1.getD i shD).1 v.2.2.2.1 j + 1 := by rw [pMgU, if_pos q]
          first | refine gx_iincN C dX7_mergeMarksOf_37 rfl (by decide) ?_ | refine gx_iinc1 C dX7_mergeMarksOf_37 rfl (by decide) ?_
          first | refine gx_iincN C dX7_mergeMarksOf_40 rfl (by decide) ?_ | refine gx_iinc1 C dX7_mergeMarksOf_40 rfl (by decide) ?_
          refine gx_goto (tgt := 4) C dX7_mergeMarksOf_43 (by decide) ?_
          refine gx_V ?_ (ih (j + 1) _ (by omega) (by omega) ⟨s1, gOut_tr hI.2 (gOut_wd ho31 (by omega))⟩)
          rw [hx]
          rfl
  refine gx_iconst (v := 0) C dX7_mergeMarksOf_0 (by decide) ?_
  refine gx_istore_n C dX7_mergeMarksOf_1 (by decide) ?_
  refine gx_iconst (v := 0) C dX7_mergeMarksOf_2 (by decide) ?_
  refine gx_istore_n C dX7_mergeMarksOf_3 (by decide) ?_
  exact hloop ((v.2.2.1.getD i shD).2.2.length + 1) 0 _ (by omega) (by omega) ⟨hv, gOut_rf⟩
set_option maxHeartbeats 4000000 in
set_option maxRecDepth 100000 in
/-- X7_endRound -/
theorem k7_endRound (l : Launch) (D : gD) (A : Nat → Prop) (hs : Nat) {G : gH} {S : Nat} {v : SV} (hv : gSv D G S v) {b cap : Nat} {ys : List Int32} (hr : gRow D G b cap ys) (hd : b + 2 ≤ S ∨ S + 45 ≤ b) (hy : ys.length ≤ 100) : gM l yX7_endRound wsX7_endRound (gR 3) D A hs 0 0 [.ref S, .ref b] G (gPv fun G' => gSv D G' S (ys, v.2.1 + 1, [], ([], [], [], []), (lset v.2.2.2.2.1 4 (lget v.2.2.2.2.1 4 + nI (pMkS v.2.2.1 2 v.2.2.1.length)), v.2.2.2.2.2)) ∧ gOut S 45 G G') := by
  refine gM_intro (by decide) rfl rfl (Nat.le_of_ble_eq_true rfl) ?_
  intro p e s m args below meth c C
  have bn := gSv_n hv
  refine gx_aload_n C dX7_endRound_0 rfl ?_
  refine gx_get C fd_X7_endRound_33 (hG := hv.1) (hv := by rfl) dX7_endRound_1 ?_
  refine gx_iconst (v := 4) C dX7_endRound_4 (by decide) ?_
  refine gx_aload_n C dX7_endRound_5 rfl ?_
  refine gx_iconst (v := 2) C dX7_endRound_6 (by decide) ?_
  refine gx_callV (ci := 6) (T := TX7) (N := 9) C (k7_marksOn l D A hs hv 2) cb_X7_endRound__X7_marksOnSheetsThatAre gX7_endRound_X7_marksOnSheetsThatAre rfl (hG := hv.1) rfl rfl (Nat.le_of_ble_eq_true rfl) ⟨Nat.le_refl _, Nat.le_refl _⟩ dX7_endRound_7 (gx_ki fun r_7 G_7 h_7 => ?_)
  obtain ⟨rfl, rfl⟩ := h_7
  refine gx_callV (ci := 4) (T := TX5) (N := 2) C (k5_add l D A hs 4 (nI (pMkS v.2.2.1 2 v.2.2.1.length)) (gSv_ac hv).1) cb_X7_endRound__X5_add gX7_endRound_X5_add rfl (hG := (gRow_ob (gSv_ac hv).1)) rfl rfl (Nat.le_of_ble_eq_true rfl) ⟨Nat.le_refl _, Nat.le_refl _⟩ dX7_endRound_10 (gx_kv fun G_10 h_10 => ?_)
  have s1 := gSv_ac' hv (gAcc_0 (gSv_ac hv) h_10.1 h_10.2) (gOut_wd h_10.2 (by omega))
  have hb1 := gRow_fr hr h_10.2 (by omega)
  refine gx_aload_n C dX7_endRound_13 rfl ?_
  refine gx_get C fd_X7_endRound_14 (hG := s1.1) (hv := by rfl) dX7_endRound_14 ?_
  refine gx_aload_n C dX7_endRound_17 rfl ?_
  refine gx_callV (ci := 4) (T := TX5) (N := 2) C (k5_copyFrom l D A hs (gSv_tx s1) hb1 (by omega) hy) cb_X7_endRound__X5_copyFrom gX7_endRound_X5_copyFrom rfl (hG := (gRow_ob (gSv_tx s1))) rfl rfl (Nat.le_of_ble_eq_true rfl) ⟨Nat.le_refl _, Nat.le_refl _⟩ dX7_endRound_18 (gx_kv fun G_18 h_18 => ?_)
  have s2 := gSv_tx' s1 h_18.1 h_18.2
  refine gx_aload_n C dX7_endRound_21 rfl ?_
  refine gx_get C fd_X7_endRound_29 (hG := s2.1) (hv := by rfl) dX7_endRound_22 ?_
  refine gx_callV (ci := 1) (T := TX2) (N := 4) C (k2_empty l D A hs (gSv_li s2)) cb_X7_endRound__X2_empty gX7_endRound_X2_empty rfl (hG := (gSv_li s2).1) rfl rfl (Nat.le_of_ble_eq_true rfl) ⟨Nat.le_refl _, Nat.le_refl _⟩ dX7_endRound_25 (gx_kv fun G_25 h_25 => ?_)
  have s3 := gSv_li' s2 h_25.1 h_25.2
  refine gx_aload_n C dX7_endRound_28 rfl ?_
  refine gx_iconst (v := 0) C dX7_endRound_29 (by decide) ?_
  refine gx_put C fd_X7_endRound_61 tyX7_ok nmX7 rfl rfl rfl (hG := s3.1) (hl := by exact Nat.le_of_ble_eq_true rfl) dX7_endRound_30 ?_
  have s4 := gSv_sc' s3 (sh := []) ⟨by simp, fun i hi => by
    obtain ⟨c0, q1, -⟩ := (gSv_sh s3).2 i hi
    exact ⟨c0, q1, fun q => absurd q (by simp)⟩⟩
  refine gx_aload_n C dX7_endRound_33 rfl ?_
  refine gx_dup C dX7_endRound_34 rfl ?_
  refine gx_get C fd_X7_endRound_57 (hG := gU_s) (hv := by rfl) dX7_endRound_35 ?_
  refine gx_iconst (v := 1) C dX7_endRound_38 (by decide) ?_
  refine gx_iadd C dX7_endRound_39 ?_
  refine gx_put C fd_X7_endRound_57 tyX7_ok nmX7 rfl rfl rfl (hG := gU_s) (hl := by exact Nat.le_of_ble_eq_true rfl) dX7_endRound_40 ?_
  have s5 := gSv_rd' (x := v.2.1 + 1) s4
  refine gx_vret (mc := 0) C ?_ dX7_endRound_43
  exact ⟨rfl, s5, gOut_up (gOut_up (gOut_tr (gOut_wd h_10.2 (by omega)) (gOut_tr (gOut_wd h_18.2 (by omega)) (gOut_wd h_25.2 (by omega)))) (by omega)) (by omega)⟩
