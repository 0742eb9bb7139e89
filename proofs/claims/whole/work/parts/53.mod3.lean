/-! THE MODEL: what reads alone -/
theorem pMkS_3 {sh : List SH} {j q : Nat} (hq : (sh.getD j shD).2.1 = nI q) (h4 : q < 4) : pMkS sh 0 (j + 1) + pMkS sh 1 (j + 1) + pMkS sh 2 (j + 1) = pMkS sh 0 j + pMkS sh 1 j + pMkS sh 2 j + (if (sh.getD j shD).2.1 = 3 then 0 else (sh.getD j shD).2.2.length) := by
  simp only [pMkS]
  rw [hq]
  rcases (show q = 0 ∨ q = 1 ∨ q = 2 ∨ q = 3 by omega) with rfl | rfl | rfl | rfl
  · rw [if_pos (show nI 0 = 0 from rfl), if_neg (show ¬ nI 0 = 1 by decide), if_neg (show ¬ nI 0 = 2 by decide), if_neg (show ¬ nI 0 = 3 by decide)]; omega
  · rw [if_neg (show ¬ nI 1 = 0 by decide), if_pos (show nI 1 = 1 from rfl), if_neg (show ¬ nI 1 = 2 by decide), if_neg (show ¬ nI 1 = 3 by decide)]; omega
  · rw [if_neg (show ¬ nI 2 = 0 by decide), if_neg (show ¬ nI 2 = 1 by decide), if_pos (show nI 2 = 2 from rfl), if_neg (show ¬ nI 2 = 3 by decide)]; omega
  · rw [if_neg (show ¬ nI 3 = 0 by decide), if_neg (show ¬ nI 3 = 1 by decide), if_neg (show ¬ nI 3 = 2 by decide), if_pos (show nI 3 = 3 from rfl)]; omega
theorem pPart_w {x1 w : Int32} (h : ¬ w = 0) (h1 : ¬ w = 1) (h2 : ¬ w = 2) : pPart x1 w = if pKind x1 = 1 ∨ pKind x1 = 2 then pSign x1 else -4 := by
  rw [pPart, if_neg h, if_neg h1, if_neg h2]
  unfold pTakes
  by_cases q : pKind x1 = 1 ∨ pKind x1 = 2
  · rw [if_pos q, if_pos q]; rfl
  · rw [if_neg q, if_neg q]; rfl
theorem lo_bit {q j : Nat} (hq : q < 64) (hj : j < 6) : (nI q >>> (nI j &&& 31)) &&& 1 = if q.testBit j = true then 1 else 0 := by
  have : ∀ q, q < 64 → ∀ j, j < 6 → (nI q >>> (nI j &&& 31)) &&& 1 = if q.testBit j = true then 1 else 0 := by decide +kernel
  exact this q hq j hj
set_option maxRecDepth 20000 in
theorem in_X9_unanswered_X9 : ∀ w ∈ wsX90, w ∈ wsX9_unanswered := by decide +kernel
set_option maxRecDepth 20000 in
theorem fd_X9_unanswered_7 : gFd wsX9_unanswered RX9 7 8 RX9 TX9 11 0 := ⟨in_X9_unanswered_X9, rfl, by decide, by decide +kernel⟩
theorem cb_X9_unanswered__X9_listed : gCb yX9_listed cX9_listed 1 (some .int) wsX9_listed (gR 0) (gR 1) 0 0 1 := ⟨rfl, rfl, rfl, by decide +kernel, by decide⟩
set_option maxRecDepth 20000 in
theorem in_X9_againstMany_X9 : ∀ w ∈ wsX90, w ∈ wsX9_againstMany := by decide +kernel
set_option maxRecDepth 20000 in
theorem fd_X9_againstMany_7 : gFd wsX9_againstMany RX9 7 8 RX9 TX9 11 0 := ⟨in_X9_againstMany_X9, rfl, by decide, by decide +kernel⟩
theorem cb_X9_againstMany__X9_listed : gCb yX9_listed cX9_listed 1 (some .int) wsX9_listed (gR 0) (gR 3) 0 0 1 := ⟨rfl, rfl, rfl, by decide +kernel, by decide⟩
theorem cb_X9_againstMany__X9_areAgainst : gCb yX9_areAgainst cX9_areAgainst 5 (some .boolean) wsX9_areAgainst (gR 2) (gR 3) 0 0 2 := ⟨rfl, rfl, rfl, by decide +kernel, by decide⟩
set_option maxRecDepth 20000 in
theorem in_X9_pairs_X9 : ∀ w ∈ wsX90, w ∈ wsX9_pairs := by decide +kernel
set_option maxRecDepth 20000 in
theorem fd_X9_pairs_7 : gFd wsX9_pairs RX9 7 8 RX9 TX9 11 0 := ⟨in_X9_pairs_X9, rfl, by decide, by decide +kernel⟩
theorem cb_X9_pairs__X9_listed : gCb yX9_listed cX9_listed 1 (some .int) wsX9_listed (gR 0) (gR 4) 0 0 1 := ⟨rfl, rfl, rfl, by decide +kernel, by decide⟩
theorem cb_X9_pairs__X9_againstMany : gCb yX9_againstMany cX9_againstMany 4 (some .int) wsX9_againstMany (gR 3) (gR 4) 0 0 1 := ⟨rfl, rfl, rfl, by decide +kernel, by decide⟩
set_option maxRecDepth 20000 in
theorem in_X9_unmerged_X9 : ∀ w ∈ wsX90, w ∈ wsX9_unmerged := by decide +kernel
set_option maxRecDepth 20000 in
theorem fd_X9_unmerged_7 : gFd wsX9_unmerged RX9 7 8 RX9 TX9 11 0 := ⟨in_X9_unmerged_X9, rfl, by decide, by decide +kernel⟩
theorem cb_X9_unmerged__X9_of : gCb yX9_of cX9_of 3 (some .int) wsX9_of (gR 0) (gR 1) 0 0 2 := ⟨rfl, rfl, rfl, by decide +kernel, by decide⟩
set_option maxRecDepth 20000 in
theorem in_X9_numberOf_X9 : ∀ w ∈ wsX90, w ∈ wsX9_numberOf := by decide +kernel
set_option maxRecDepth 20000 in
theorem fd_X9_numberOf_7 : gFd wsX9_numberOf RX9 7 8 RX9 TX9 11 0 := ⟨in_X9_numberOf_X9, rfl, by decide, by decide +kernel⟩
set_option maxRecDepth 20000 in
theorem in_X9_at_X9 : ∀ w ∈ wsX90, w ∈ wsX9_at := by decide +kernel
set_option maxRecDepth 20000 in
theorem fd_X9_at_7 : gFd wsX9_at RX9 7 8 RX9 TX9 11 0 := ⟨in_X9_at_X9, rfl, by decide, by decide +kernel⟩
set_option maxHeartbeats 600000 in
set_option maxRecDepth 100000 in
/-- X9_unanswered -/
theorem k9_unanswered (l : Launch) (D : gD) (A : Nat → Prop) (hs : Nat) {G : gH} {a : Nat} {z : MI} {st : Nat → Int32} (ho : gMob G a z) (hs1 : gMst D G (a + 1) 855 st) {v : SV} (hR : sR st v) : gM l yX9_unanswered wsX9_unanswered (gR 1) D A hs 0 0 [.ref a] G (gPi fun x G' => x = nI (pOpenN v.2.2.2.1.2.1 v.2.2.2.1.2.1.length) ∧ G' = G) := by
  refine gM_intro (by decide) rfl rfl (Nat.le_of_ble_eq_true rfl) ?_
  intro p e s m args below meth c C
  have r3 := hR.2.2.2.1.1
  have b3 := hR.2.2.2.1.2.1
  have hlen := hR.2.2.2.1.2.2.1
  have hloop : ∀ (n j : Nat) , v.2.2.2.1.1.length < j + n → j ≤ v.2.2.2.1.1.length → gX p l e (gR 1) s m args below meth c D A 3 hs 0 0 (MQ below (gQ D A hs 0 (gPi fun x G' => x = nI (pOpenN v.2.2.2.1.2.1 v.2.2.2.1.2.1.length) ∧ G' = G)) args s 0 0 A) G [some (.ref a), some (.int (nI (pOpenN v.2.2.2.1.2.1 j))), some (.int (nI j))] 4 [] := by
    intro n
    induction n with
    | zero => intro j hm hj0; exact absurd hm (by omega)
    | succ n ih =>
      intro j hm hj0
      refine gx_iload_n C dX9_unanswered_4 rfl ?_
      refine gx_aload_n C dX9_unanswered_5 rfl ?_
      refine gx_get C fd_X9_unanswered_7 (hG := ho) (hv := by rfl) dX9_unanswered_6 ?_
      refine gx_iconst (v := nI 3) C dX9_unanswered_9 (by decide) ?_
      refine gx_ialdN C (hG := hs1) (hk := by omega) (hn := by omega) dX9_unanswered_10 ?_
      rw [r3]
      refine gx_icmp_ge (tgt := 42) C dX9_unanswered_11 (by decide) (fun c_11 => ?_) (fun c_11 => ?_)
      · have hj : ¬ j < v.2.2.2.1.1.length := fun q => nI_ge q (by omega) c_11
        refine gx_iload_n C dX9_unanswered_42 rfl ?_
        refine gx_zret (mc := 0) C rfl ?_ dX9_unanswered_43
        have e : j = v.2.2.2.1.2.1.length := by omega
        subst e
        exact ⟨_, rfl, rfl, rfl⟩
      · have hj : j < v.2.2.2.1.1.length := by
          rcases Nat.lt_or_ge (j) (v.2.2.2.1.1.length) with q | q
          · exact q
          · exact absurd (nI_le q (by omega)) c_11
        have lj := hR.2.2.2.1.2.2.2.2.2.2 j hj
        refine gx_iload_n C dX9_unanswered_14 rfl ?_
        refine gx_aload_n C dX9_unanswered_15 rfl ?_
        refine gx_get C fd_X9_unanswered_7 (hG := ho) (hv := by rfl) dX9_unanswered_16 ?_
        refine gx_iload_n C dX9_unanswered_19 rfl ?_
        refine gx_callS C (k9_listed l D A hs j) cb_X9_unanswered__X9_listed gX9_unanswered_X9_listed rfl rfl (Nat.le_of_ble_eq_true rfl) ⟨Nat.le_refl _, Nat.le_refl _⟩ dX9_unanswered_20 (gx_ki fun r_20 G_20 h_20 => ?_)
        obtain ⟨rfl, rfl⟩ := h_20
        refine gx_iconst (v := nI 4) C dX9_unanswered_23 (by decide) ?_
        refine gx_iadd C dX9_unanswered_24 ?_
        first | refine gx_top (nI_add _ _) ?_ | skip
        refine gx_ialdN C (hG := hs1) (hk := by omega) (hn := by omega) dX9_unanswered_25 ?_
        rw [lj.2.2.1]
        refine gx_if_ne (tgt := 33) C dX9_unanswered_26 (by decide) (fun c_26 => ?_) (fun c_26 => ?_)
        · have hx := (pC_n (f := fun i => decide (v.2.2.2.1.2.1.getD i 0 = 0)) (n := j) (by simpa using c_26)).symm
          refine gx_iconst (v := nI 0) C dX9_unanswered_33 (by decide) ?_
          refine gx_iadd C dX9_unanswered_34 ?_
          first | refine gx_top (nI_add _ _) ?_ | skip
          refine gx_istore_n C dX9_unanswered_35 (by decide) ?_
          first | refine gx_iincN C dX9_unanswered_36 rfl (by decide) ?_ | refine gx_iinc1 C dX9_unanswered_36 rfl (by decide) ?_
          refine gx_goto (tgt := 4) C dX9_unanswered_39 (by decide) ?_
          refine gx_V ?_ (ih (j + 1) (by omega) (by omega))
          rw [show pOpenN v.2.2.2.1.2.1 (j + 1) = _ from hx]
          rfl
        · have hx := (pC_s (f := fun i => decide (v.2.2.2.1.2.1.getD i 0 = 0)) (n := j) (by simpa using c_26)).symm
          refine gx_iconst (v := nI 1) C dX9_unanswered_29 (by decide) ?_
          refine gx_goto (tgt := 34) C dX9_unanswered_30 (by decide) ?_
          refine gx_iadd C dX9_unanswered_34 ?_
          first | refine gx_top (nI_add _ _) ?_ | skip
          refine gx_istore_n C dX9_unanswered_35 (by decide) ?_
          first | refine gx_iincN C dX9_unanswered_36 rfl (by decide) ?_ | refine gx_iinc1 C dX9_unanswered_36 rfl (by decide) ?_
          refine gx_goto (tgt := 4) C dX9_unanswered_39 (by decide) ?_
          refine gx_V ?_ (ih (j + 1) (by omega) (by omega))
          rw [show pOpenN v.2.2.2.1.2.1 (j + 1) = _ from hx]
          rfl
  refine gx_iconst (v := 0) C dX9_unanswered_0 (by decide) ?_
  refine gx_istore_n C dX9_unanswered_1 (by decide) ?_
  refine gx_iconst (v := 0) C dX9_unanswered_2 (by decide) ?_
  refine gx_istore_n C dX9_unanswered_3 (by decide) ?_
  exact hloop (v.2.2.2.1.1.length + 1) 0 (by omega) (by omega)
set_option maxHeartbeats 600000 in
set_option maxRecDepth 100000 in
/-- X9_againstMany -/
theorem k9_againstMany (l : Launch) (D : gD) (A : Nat → Prop) (hs : Nat) {G : gH} {a : Nat} {z : MI} {st : Nat → Int32} (ho : gMob G a z) (hs1 : gMst D G (a + 1) 855 st) {v : SV} (hR : sR st v) {p1 : Nat} {x1 : Int32} (hp : mkR st p1 x1) (hp8 : p1 + 3 < 855) {n1 : Nat} (hx1 : iOk x1 n1) : gM l yX9_againstMany wsX9_againstMany (gR 3) D A hs 0 0 [.ref a, .int (nI p1)] G (gPi fun x G' => x = nI (pOppN v.2.2.2.1.1 x1 v.2.2.2.1.1.length) ∧ G' = G) := by
  refine gM_intro (by decide) rfl rfl (Nat.le_of_ble_eq_true rfl) ?_
  intro p e s m args below meth c C
  have r3 := hR.2.2.2.1.1
  have b3 := hR.2.2.2.1.2.1
  have hlen := hR.2.2.2.1.2.2.1
  have hloop : ∀ (n j : Nat) , v.2.2.2.1.1.length < j + n → j ≤ v.2.2.2.1.1.length → gX p l e (gR 3) s m args below meth c D A 4 hs 0 0 (MQ below (gQ D A hs 0 (gPi fun x G' => x = nI (pOppN v.2.2.2.1.1 x1 v.2.2.2.1.1.length) ∧ G' = G)) args s 0 0 A) G [some (.ref a), some (.int (nI p1)), some (.int (nI (pOppN v.2.2.2.1.1 x1 j))), some (.int (nI j))] 4 [] := by
    intro n
    induction n with
    | zero => intro j hm hj0; exact absurd hm (by omega)
    | succ n ih =>
      intro j hm hj0
      refine gx_iload_n C dX9_againstMany_4 rfl ?_
      refine gx_aload_n C dX9_againstMany_5 rfl ?_
      refine gx_get C fd_X9_againstMany_7 (hG := ho) (hv := by rfl) dX9_againstMany_6 ?_
      refine gx_iconst (v := nI 3) C dX9_againstMany_9 (by decide) ?_
      refine gx_ialdN C (hG := hs1) (hk := by omega) (hn := by omega) dX9_againstMany_10 ?_
      rw [r3]
      refine gx_icmp_ge (tgt := 40) C dX9_againstMany_11 (by decide) (fun c_11 => ?_) (fun c_11 => ?_)
      · have hj : ¬ j < v.2.2.2.1.1.length := fun q => nI_ge q (by omega) c_11
        refine gx_iload_n C dX9_againstMany_40 rfl ?_
        refine gx_zret (mc := 0) C rfl ?_ dX9_againstMany_41
        have e : j = v.2.2.2.1.1.length := by omega
        subst e
        exact ⟨_, rfl, rfl, rfl⟩
      · have hj : j < v.2.2.2.1.1.length := by
          rcases Nat.lt_or_ge (j) (v.2.2.2.1.1.length) with q | q
          · exact q
          · exact absurd (nI_le q (by omega)) c_11
        have lj := hR.2.2.2.1.2.2.2.2.2.2 j hj
        refine gx_iload_n C dX9_againstMany_14 rfl ?_
        refine gx_aload_n C dX9_againstMany_15 rfl ?_
        refine gx_iload_n C dX9_againstMany_16 rfl ?_
        refine gx_iload_n C dX9_againstMany_17 rfl ?_
        refine gx_callS C (k9_listed l D A hs j) cb_X9_againstMany__X9_listed gX9_againstMany_X9_listed rfl rfl (Nat.le_of_ble_eq_true rfl) ⟨Nat.le_refl _, Nat.le_refl _⟩ dX9_againstMany_18 (gx_ki fun r_18 G_18 h_18 => ?_)
        obtain ⟨rfl, rfl⟩ := h_18
        refine gx_callV (ci := 8) (T := TX9) (N := 11) C (k9_areAgainst l D A hs ho hs1 hp lj.1 hp8 (by omega) hx1 lj.2.1) cb_X9_againstMany__X9_areAgainst gX9_againstMany_X9_areAgainst rfl (hG := ho) rfl rfl (Nat.le_of_ble_eq_true rfl) ⟨Nat.le_refl _, Nat.le_refl _⟩ dX9_againstMany_21 (gx_ki fun r_21 G_21 h_21 => ?_)
        obtain ⟨rfl, rfl⟩ := h_21
        refine gx_if_eq (tgt := 31) C dX9_againstMany_24 (by decide) (fun c_24 => ?_) (fun c_24 => ?_)
        · have hx := (pC_n (f := fun i => decide (¬ pOpp x1 (v.2.2.2.1.1.getD i 0) = 0)) (n := j) (by simpa using c_24)).symm
          refine gx_iconst (v := nI 0) C dX9_againstMany_31 (by decide) ?_
          refine gx_iadd C dX9_againstMany_32 ?_
          first | refine gx_top (nI_add _ _) ?_ | skip
          refine gx_istore_n C dX9_againstMany_33 (by decide) ?_
          first | refine gx_iincN C dX9_againstMany_34 rfl (by decide) ?_ | refine gx_iinc1 C dX9_againstMany_34 rfl (by decide) ?_
          refine gx_goto (tgt := 4) C dX9_againstMany_37 (by decide) ?_
          refine gx_V ?_ (ih (j + 1) (by omega) (by omega))
          rw [show pOppN v.2.2.2.1.1 x1 (j + 1) = _ from hx]
          rfl
        · have hx := (pC_s (f := fun i => decide (¬ pOpp x1 (v.2.2.2.1.1.getD i 0) = 0)) (n := j) (by simpa using c_24)).symm
          refine gx_iconst (v := nI 1) C dX9_againstMany_27 (by decide) ?_
          refine gx_goto (tgt := 32) C dX9_againstMany_28 (by decide) ?_
          refine gx_iadd C dX9_againstMany_32 ?_
          first | refine gx_top (nI_add _ _) ?_ | skip
          refine gx_istore_n C dX9_againstMany_33 (by decide) ?_
          first | refine gx_iincN C dX9_againstMany_34 rfl (by decide) ?_ | refine gx_iinc1 C dX9_againstMany_34 rfl (by decide) ?_
          refine gx_goto (tgt := 4) C dX9_againstMany_37 (by decide) ?_
          refine gx_V ?_ (ih (j + 1) (by omega) (by omega))
          rw [show pOppN v.2.2.2.1.1 x1 (j + 1) = _ from hx]
          rfl
  refine gx_iconst (v := 0) C dX9_againstMany_0 (by decide) ?_
  refine gx_istore_n C dX9_againstMany_1 (by decide) ?_
  refine gx_iconst (v := 0) C dX9_againstMany_2 (by decide) ?_
  refine gx_istore_n C dX9_againstMany_3 (by decide) ?_
  exact hloop (v.2.2.2.1.1.length + 1) 0 (by omega) (by omega)
set_option maxHeartbeats 600000 in
set_option maxRecDepth 100000 in
/-- X9_pairs -/
theorem k9_pairs (l : Launch) (D : gD) (A : Nat → Prop) (hs : Nat) {G : gH} {a : Nat} {z : MI} {st : Nat → Int32} (ho : gMob G a z) (hs1 : gMst D G (a + 1) 855 st) {v : SV} (hR : sR st v) : gM l yX9_pairs wsX9_pairs (gR 4) D A hs 0 0 [.ref a] G (gPi fun x G' => x = nI (pPairS v.2.2.2.1.1 v.2.2.2.1.1.length v.2.2.2.1.1.length) / 2 ∧ G' = G) := by
  refine gM_intro (by decide) rfl rfl (Nat.le_of_ble_eq_true rfl) ?_
  intro p e s m args below meth c C
  have r3 := hR.2.2.2.1.1
  have b3 := hR.2.2.2.1.2.1
  have hlen := hR.2.2.2.1.2.2.1
  have hloop : ∀ (n j : Nat) , v.2.2.2.1.1.length < j + n → j ≤ v.2.2.2.1.1.length → gX p l e (gR 4) s m args below meth c D A 3 hs 0 0 (MQ below (gQ D A hs 0 (gPi fun x G' => x = nI (pPairS v.2.2.2.1.1 v.2.2.2.1.1.length v.2.2.2.1.1.length) / 2 ∧ G' = G)) args s 0 0 A) G [some (.ref a), some (.int (nI (pPairS v.2.2.2.1.1 v.2.2.2.1.1.length j))), some (.int (nI j))] 4 [] := by
    intro n
    induction n with
    | zero => intro j hm hj0; exact absurd hm (by omega)
    | succ n ih =>
      intro j hm hj0
      refine gx_iload_n C dX9_pairs_4 rfl ?_
      refine gx_aload_n C dX9_pairs_5 rfl ?_
      refine gx_get C fd_X9_pairs_7 (hG := ho) (hv := by rfl) dX9_pairs_6 ?_
      refine gx_iconst (v := nI 3) C dX9_pairs_9 (by decide) ?_
      refine gx_ialdN C (hG := hs1) (hk := by omega) (hn := by omega) dX9_pairs_10 ?_
      rw [r3]
      refine gx_icmp_ge (tgt := 31) C dX9_pairs_11 (by decide) (fun c_11 => ?_) (fun c_11 => ?_)
      · have hj : ¬ j < v.2.2.2.1.1.length := fun q => nI_ge q (by omega) c_11
        refine gx_iload_n C dX9_pairs_31 rfl ?_
        refine gx_iconst (v := 2) C dX9_pairs_32 (by decide) ?_
        refine gx_idiv C dX9_pairs_33 (by decide) ?_
        refine gx_zret (mc := 0) C rfl ?_ dX9_pairs_34
        have e : j = v.2.2.2.1.1.length := by omega
        subst e
        exact ⟨_, rfl, rfl, rfl⟩
      · have hj : j < v.2.2.2.1.1.length := by
          rcases Nat.lt_or_ge (j) (v.2.2.2.1.1.length) with q | q
          · exact q
          · exact absurd (nI_le q (by omega)) c_11
        have lj := hR.2.2.2.1.2.2.2.2.2.2 j hj
        refine gx_iload_n C dX9_pairs_14 rfl ?_
        refine gx_aload_n C dX9_pairs_15 rfl ?_
        refine gx_iload_n C dX9_pairs_16 rfl ?_
        refine gx_callS C (k9_listed l D A hs j) cb_X9_pairs__X9_listed gX9_pairs_X9_listed rfl rfl (Nat.le_of_ble_eq_true rfl) ⟨Nat.le_refl _, Nat.le_refl _⟩ dX9_pairs_17 (gx_ki fun r_17 G_17 h_17 => ?_)
        obtain ⟨rfl, rfl⟩ := h_17
        refine gx_callV (ci := 8) (T := TX9) (N := 11) C (k9_againstMany l D A hs ho hs1 hR lj.1 (by omega) lj.2.1) cb_X9_pairs__X9_againstMany gX9_pairs_X9_againstMany rfl (hG := ho) rfl rfl (Nat.le_of_ble_eq_true rfl) ⟨Nat.le_refl _, Nat.le_refl _⟩ dX9_pairs_20 (gx_ki fun r_20 G_20 h_20 => ?_)
        obtain ⟨rfl, rfl⟩ := h_20
        refine gx_iadd C dX9_pairs_23 ?_
        first | refine gx_top (nI_add _ _) ?_ | skip
        refine gx_istore_n C dX9_pairs_24 (by decide) ?_
        first | refine gx_iincN C dX9_pairs_25 rfl (by decide) ?_ | refine gx_iinc1 C dX9_pairs_25 rfl (by decide) ?_
        refine gx_goto (tgt := 4) C dX9_pairs_28 (by decide) ?_
        refine gx_V ?_ (ih (j + 1) (by omega) (by omega))
        rfl
  refine gx_iconst (v := 0) C dX9_pairs_0 (by decide) ?_
  refine gx_istore_n C dX9_pairs_1 (by decide) ?_
  refine gx_iconst (v := 0) C dX9_pairs_2 (by decide) ?_
  refine gx_istore_n C dX9_pairs_3 (by decide) ?_
  exact hloop (v.2.2.2.1.1.length + 1) 0 (by omega) (by omega)
set_option maxHeartbeats 600000 in
set_option maxRecDepth 100000 in
/-- X9_unmerged -/
theorem k9_unmerged (l : Launch) (D : gD) (A : Nat → Prop) (hs : Nat) {G : gH} {a : Nat} {z : MI} {st : Nat → Int32} (ho : gMob G a z) (hs1 : gMst D G (a + 1) 855 st) {v : SV} (hR : sR st v) : gM l yX9_unmerged wsX9_unmerged (gR 1) D A hs 0 0 [.ref a] G (gPi fun x G' => x = nI (pMkS v.2.2.1 0 v.2.2.1.length + pMkS v.2.2.1 1 v.2.2.1.length + pMkS v.2.2.1 2 v.2.2.1.length) ∧ G' = G) := by
  refine gM_intro (by decide) rfl rfl (Nat.le_of_ble_eq_true rfl) ?_
  intro p e s m args below meth c C
  have r2 := hR.2.2.1.1
  have b2 := hR.2.2.1.2.1
  have hloop : ∀ (n j : Nat) , v.2.2.1.length < j + n → j ≤ v.2.2.1.length → gX p l e (gR 1) s m args below meth c D A 3 hs 0 0 (MQ below (gQ D A hs 0 (gPi fun x G' => x = nI (pMkS v.2.2.1 0 v.2.2.1.length + pMkS v.2.2.1 1 v.2.2.1.length + pMkS v.2.2.1 2 v.2.2.1.length) ∧ G' = G)) args s 0 0 A) G [some (.ref a), some (.int (nI (pMkS v.2.2.1 0 j + pMkS v.2.2.1 1 j + pMkS v.2.2.1 2 j))), some (.int (nI j))] 4 [] := by
    intro n
    induction n with
    | zero => intro j hm hj0; exact absurd hm (by omega)
    | succ n ih =>
      intro j hm hj0
      refine gx_iload_n C dX9_unmerged_4 rfl ?_
      refine gx_aload_n C dX9_unmerged_5 rfl ?_
      refine gx_get C fd_X9_unmerged_7 (hG := ho) (hv := by rfl) dX9_unmerged_6 ?_
      refine gx_iconst (v := nI 2) C dX9_unmerged_9 (by decide) ?_
      refine gx_ialdN C (hG := hs1) (hk := by omega) (hn := by omega) dX9_unmerged_10 ?_
      rw [r2]
      refine gx_icmp_ge (tgt := 43) C dX9_unmerged_11 (by decide) (fun c_11 => ?_) (fun c_11 => ?_)
      · have hj : ¬ j < v.2.2.1.length := fun q => nI_ge q (by omega) c_11
        refine gx_iload_n C dX9_unmerged_43 rfl ?_
        refine gx_zret (mc := 0) C rfl ?_ dX9_unmerged_44
        have e : j = v.2.2.1.length := by omega
        subst e
        exact ⟨_, rfl, rfl, rfl⟩
      · have hj : j < v.2.2.1.length := by
          rcases Nat.lt_or_ge (j) (v.2.2.1.length) with q | q
          · exact q
          · exact absurd (nI_le q (by omega)) c_11
        have sj := hR.2.2.1.2.2 j hj
        refine gx_iload_n C dX9_unmerged_14 rfl ?_
        refine gx_aload_n C dX9_unmerged_15 rfl ?_
        refine gx_iload_n C dX9_unmerged_16 rfl ?_
        refine gx_iconst (v := nI 1) C dX9_unmerged_17 (by decide) ?_
        refine gx_callV (ci := 8) (T := TX9) (N := 11) C (k9_of l D A hs ho hs1 j 1 (by omega)) cb_X9_unmerged__X9_of gX9_unmerged_X9_of rfl (hG := ho) rfl rfl (Nat.le_of_ble_eq_true rfl) ⟨Nat.le_refl _, Nat.le_refl _⟩ dX9_unmerged_18 (gx_ki fun r_18 G_18 h_18 => ?_)
        obtain ⟨rfl, rfl⟩ := h_18
        rw [sj.2.1]
        refine gx_iconst (v := 3) C dX9_unmerged_21 (by decide) ?_
        refine gx_icmp_eq (tgt := 34) C dX9_unmerged_22 (by decide) (fun c_22 => ?_) (fun c_22 => ?_)
        · obtain ⟨q, hq4, hq⟩ := sj.2.2.2.2.2.1
          have hx := pMkS_3 (sh := v.2.2.1) hq hq4
          rw [if_pos c_22] at hx
          refine gx_iconst (v := nI 0) C dX9_unmerged_34 (by decide) ?_
          refine gx_iadd C dX9_unmerged_35 ?_
          first | refine gx_top (nI_add _ _) ?_ | skip
          refine gx_istore_n C dX9_unmerged_36 (by decide) ?_
          first | refine gx_iincN C dX9_unmerged_37 rfl (by decide) ?_ | refine gx_iinc1 C dX9_unmerged_37 rfl (by decide) ?_
          refine gx_goto (tgt := 4) C dX9_unmerged_40 (by decide) ?_
          refine gx_V ?_ (ih (j + 1) (by omega) (by omega))
          rw [hx]
          rfl
        · obtain ⟨q, hq4, hq⟩ := sj.2.2.2.2.2.1
          have hx := pMkS_3 (sh := v.2.2.1) hq hq4
          rw [if_neg c_22] at hx
          refine gx_aload_n C dX9_unmerged_25 rfl ?_
          refine gx_iload_n C dX9_unmerged_26 rfl ?_
          refine gx_iconst (v := nI 2) C dX9_unmerged_27 (by decide) ?_
          refine gx_callV (ci := 8) (T := TX9) (N := 11) C (k9_of l D A hs ho hs1 j 2 (by omega)) cb_X9_unmerged__X9_of gX9_unmerged_X9_of rfl (hG := ho) rfl rfl (Nat.le_of_ble_eq_true rfl) ⟨Nat.le_refl _, Nat.le_refl _⟩ dX9_unmerged_28 (gx_ki fun r_28 G_28 h_28 => ?_)
          obtain ⟨rfl, rfl⟩ := h_28
          rw [sj.2.2.1]
          refine gx_goto (tgt := 35) C dX9_unmerged_31 (by decide) ?_
          refine gx_iadd C dX9_unmerged_35 ?_
          first | refine gx_top (nI_add _ _) ?_ | skip
          refine gx_istore_n C dX9_unmerged_36 (by decide) ?_
          first | refine gx_iincN C dX9_unmerged_37 rfl (by decide) ?_ | refine gx_iinc1 C dX9_unmerged_37 rfl (by decide) ?_
          refine gx_goto (tgt := 4) C dX9_unmerged_40 (by decide) ?_
          refine gx_V ?_ (ih (j + 1) (by omega) (by omega))
          rw [hx]
          rfl
  refine gx_iconst (v := 0) C dX9_unmerged_0 (by decide) ?_
  refine gx_istore_n C dX9_unmerged_1 (by decide) ?_
  refine gx_iconst (v := 0) C dX9_unmerged_2 (by decide) ?_
  refine gx_istore_n C dX9_unmerged_3 (by decide) ?_
  exact hloop (v.2.2.1.length + 1) 0 (by omega) (by omega)
set_option maxHeartbeats 600000 in
set_option maxRecDepth 100000 in
/-- X9_numberOf -/
theorem k9_numberOf (l : Launch) (D : gD) (A : Nat → Prop) (hs : Nat) {G : gH} {a : Nat} {z : MI} {st : Nat → Int32} (ho : gMob G a z) (hs1 : gMst D G (a + 1) 855 st) {p1 : Nat} {x1 : Int32} (hp : mkR st p1 x1) (hp8 : p1 + 3 < 855) (w : Nat) (hw : w < 4) : gM l yX9_numberOf wsX9_numberOf (gR 0) D A hs 0 0 [.ref a, .int (nI p1), .int (nI w)] G (gPi fun x G' => x = pPart x1 (nI w) ∧ G' = G) := by
  refine gM_intro (by decide) rfl rfl (Nat.le_of_ble_eq_true rfl) ?_
  intro p e s m args below meth c C
  have w4 : w = 0 ∨ w = 1 ∨ w = 2 ∨ w = 3 := by omega
  refine gx_aload_n C dX9_numberOf_0 rfl ?_
  refine gx_get C fd_X9_numberOf_7 (hG := ho) (hv := by rfl) dX9_numberOf_1 ?_
  refine gx_iload_n C dX9_numberOf_4 rfl ?_
  refine gx_iconst (v := nI 0) C dX9_numberOf_5 (by decide) ?_
  refine gx_iadd C dX9_numberOf_6 ?_
  first | refine gx_top (nI_add _ _) ?_ | skip
  refine gx_ialdN C (hG := hs1) (hk := by omega) (hn := by omega) dX9_numberOf_7 ?_
  rw [show st (p1 + 0) = _ from hp.1]
  refine gx_istore_n C dX9_numberOf_8 (by decide) ?_
  refine gx_iload_n C dX9_numberOf_9 rfl ?_
  refine gx_iconst (v := 2) C dX9_numberOf_10 (by decide) ?_
  refine gx_icmp_lt (tgt := 38) C dX9_numberOf_11 (by decide) (fun c_11 => ?_) (fun c_11 => ?_)
  · have wl : w < 2 := (nI_ltI (b := 2) (by omega) (by omega)).mp c_11
    have e : pPart x1 (nI w) = st (p1 + w) := by
      rcases (show w = 0 ∨ w = 1 by omega) with rfl | rfl
      · exact hp.1.symm
      · exact hp.2.1.symm
    refine gx_iconst (v := 1) C dX9_numberOf_38 (by decide) ?_
    refine gx_goto (tgt := 43) C dX9_numberOf_39 (by decide) ?_
    refine gx_istore C dX9_numberOf_43 (by decide) ?_
    refine gx_iload C dX9_numberOf_45 rfl ?_
    refine gx_if_eq (tgt := 61) C dX9_numberOf_47 (by decide) (fun c_47 => ?_) (fun c_47 => ?_)
    · refine gx_bipush (v := (-4)) C dX9_numberOf_61 (by decide) ?_
      refine gx_zret (mc := 0) C rfl ?_ dX9_numberOf_63
      first
        | exact ⟨_, rfl, e.symm, rfl⟩
        | exact ⟨_, rfl, e2.symm, rfl⟩
        | exact absurd rfl c_47
        | exact absurd c_47 (by decide)
    · refine gx_aload_n C dX9_numberOf_50 rfl ?_
      refine gx_get C fd_X9_numberOf_7 (hG := ho) (hv := by rfl) dX9_numberOf_51 ?_
      refine gx_iload_n C dX9_numberOf_54 rfl ?_
      refine gx_iload_n C dX9_numberOf_55 rfl ?_
      refine gx_iadd C dX9_numberOf_56 ?_
      first | refine gx_top (nI_add _ _) ?_ | skip
      refine gx_ialdN C (hG := hs1) (hk := by omega) (hn := by omega) dX9_numberOf_57 ?_
      refine gx_goto (tgt := 63) C dX9_numberOf_58 (by decide) ?_
      refine gx_zret (mc := 0) C rfl ?_ dX9_numberOf_63
      first
        | exact ⟨_, rfl, e.symm, rfl⟩
        | exact ⟨_, rfl, e2.symm, rfl⟩
        | exact absurd rfl c_47
        | exact absurd c_47 (by decide)
  · have wl : ¬ w < 2 := fun q => c_11 (nI_lt (b := 2) q (by omega))
    refine gx_iload_n C dX9_numberOf_14 rfl ?_
    refine gx_iconst (v := 2) C dX9_numberOf_15 (by decide) ?_
    refine gx_icmp_ne (tgt := 23) C dX9_numberOf_16 (by decide) (fun c_16 => ?_) (fun c_16 => ?_)
    · have w2 : ¬ w = 2 := fun q => c_16 (by rw [q]; rfl)
      have w3 : w = 3 := by omega
      refine gx_iload_n C dX9_numberOf_23 rfl ?_
      refine gx_iconst (v := 3) C dX9_numberOf_24 (by decide) ?_
      refine gx_icmp_ne (tgt := 42) C dX9_numberOf_25 (by decide) (fun c_25 => ?_) (fun c_25 => ?_)
      · have e2 : pPart x1 (nI w) = -4 := by
          first
          | exact e2
          | exact absurd (by rw [w3]; rfl) c_25
        refine gx_iconst (v := 0) C dX9_numberOf_42 (by decide) ?_
        refine gx_istore C dX9_numberOf_43 (by decide) ?_
        refine gx_iload C dX9_numberOf_45 rfl ?_
        refine gx_if_eq (tgt := 61) C dX9_numberOf_47 (by decide) (fun c_47 => ?_) (fun c_47 => ?_)
        · refine gx_bipush (v := (-4)) C dX9_numberOf_61 (by decide) ?_
          refine gx_zret (mc := 0) C rfl ?_ dX9_numberOf_63
          first
            | exact ⟨_, rfl, e.symm, rfl⟩
            | exact ⟨_, rfl, e2.symm, rfl⟩
            | exact absurd rfl c_47
            | exact absurd c_47 (by decide)
        · refine gx_aload_n C dX9_numberOf_50 rfl ?_
          refine gx_get C fd_X9_numberOf_7 (hG := ho) (hv := by rfl) dX9_numberOf_51 ?_
          refine gx_iload_n C dX9_numberOf_54 rfl ?_
          refine gx_iload_n C dX9_numberOf_55 rfl ?_
          refine gx_iadd C dX9_numberOf_56 ?_
          first | refine gx_top (nI_add _ _) ?_ | skip
          refine gx_ialdN C (hG := hs1) (hk := by omega) (hn := by omega) dX9_numberOf_57 ?_
          refine gx_goto (tgt := 63) C dX9_numberOf_58 (by decide) ?_
          refine gx_zret (mc := 0) C rfl ?_ dX9_numberOf_63
          first
            | exact ⟨_, rfl, e.symm, rfl⟩
            | exact ⟨_, rfl, e2.symm, rfl⟩
            | exact absurd rfl c_47
            | exact absurd c_47 (by decide)
      · have w3 : w = 3 := (nI_eq (b := 3) (by omega) (by omega)).mp c_25
        refine gx_iload_n C dX9_numberOf_28 rfl ?_
        refine gx_iconst (v := 1) C dX9_numberOf_29 (by decide) ?_
        refine gx_icmp_eq (tgt := 38) C dX9_numberOf_30 (by decide) (fun c_30 => ?_) (fun c_30 => ?_)
        · have e : pPart x1 (nI w) = st (p1 + w) := by
            rw [w3, pPart_w (by decide) (by decide) (by decide), if_pos (Or.inl c_30), show st (p1 + 3) = _ from hp.2.2.2]
          refine gx_iconst (v := 1) C dX9_numberOf_38 (by decide) ?_
          refine gx_goto (tgt := 43) C dX9_numberOf_39 (by decide) ?_
          refine gx_istore C dX9_numberOf_43 (by decide) ?_
          refine gx_iload C dX9_numberOf_45 rfl ?_
          refine gx_if_eq (tgt := 61) C dX9_numberOf_47 (by decide) (fun c_47 => ?_) (fun c_47 => ?_)
          · refine gx_bipush (v := (-4)) C dX9_numberOf_61 (by decide) ?_
            refine gx_zret (mc := 0) C rfl ?_ dX9_numberOf_63
            first
              | exact ⟨_, rfl, e.symm, rfl⟩
              | exact ⟨_, rfl, e2.symm, rfl⟩
              | exact absurd rfl c_47
              | exact absurd c_47 (by decide)
          · refine gx_aload_n C dX9_numberOf_50 rfl ?_
            refine gx_get C fd_X9_numberOf_7 (hG := ho) (hv := by rfl) dX9_numberOf_51 ?_
            refine gx_iload_n C dX9_numberOf_54 rfl ?_
            refine gx_iload_n C dX9_numberOf_55 rfl ?_
            refine gx_iadd C dX9_numberOf_56 ?_
            first | refine gx_top (nI_add _ _) ?_ | skip
            refine gx_ialdN C (hG := hs1) (hk := by omega) (hn := by omega) dX9_numberOf_57 ?_
            refine gx_goto (tgt := 63) C dX9_numberOf_58 (by decide) ?_
            refine gx_zret (mc := 0) C rfl ?_ dX9_numberOf_63
            first
              | exact ⟨_, rfl, e.symm, rfl⟩
              | exact ⟨_, rfl, e2.symm, rfl⟩
              | exact absurd rfl c_47
              | exact absurd c_47 (by decide)
        · refine gx_iload_n C dX9_numberOf_33 rfl ?_
          refine gx_iconst (v := 2) C dX9_numberOf_34 (by decide) ?_
          refine gx_icmp_ne (tgt := 42) C dX9_numberOf_35 (by decide) (fun c_35 => ?_) (fun c_35 => ?_)
          · have e2 : pPart x1 (nI w) = -4 := by
              rw [w3, pPart_w (by decide) (by decide) (by decide), if_neg (fun q => q.elim c_30 c_35)]
            refine gx_iconst (v := 0) C dX9_numberOf_42 (by decide) ?_
            refine gx_istore C dX9_numberOf_43 (by decide) ?_
            refine gx_iload C dX9_numberOf_45 rfl ?_
            refine gx_if_eq (tgt := 61) C dX9_numberOf_47 (by decide) (fun c_47 => ?_) (fun c_47 => ?_)
            · refine gx_bipush (v := (-4)) C dX9_numberOf_61 (by decide) ?_
              refine gx_zret (mc := 0) C rfl ?_ dX9_numberOf_63
              first
                | exact ⟨_, rfl, e.symm, rfl⟩
                | exact ⟨_, rfl, e2.symm, rfl⟩
                | exact absurd rfl c_47
                | exact absurd c_47 (by decide)
            · refine gx_aload_n C dX9_numberOf_50 rfl ?_
              refine gx_get C fd_X9_numberOf_7 (hG := ho) (hv := by rfl) dX9_numberOf_51 ?_
              refine gx_iload_n C dX9_numberOf_54 rfl ?_
              refine gx_iload_n C dX9_numberOf_55 rfl ?_
              refine gx_iadd C dX9_numberOf_56 ?_
              first | refine gx_top (nI_add _ _) ?_ | skip
              refine gx_ialdN C (hG := hs1) (hk := by omega) (hn := by omega) dX9_numberOf_57 ?_
              refine gx_goto (tgt := 63) C dX9_numberOf_58 (by decide) ?_
              refine gx_zret (mc := 0) C rfl ?_ dX9_numberOf_63
              first
                | exact ⟨_, rfl, e.symm, rfl⟩
                | exact ⟨_, rfl, e2.symm, rfl⟩
                | exact absurd rfl c_47
                | exact absurd c_47 (by decide)
          · have e : pPart x1 (nI w) = st (p1 + w) := by
              rw [w3, pPart_w (by decide) (by decide) (by decide), if_pos (Or.inr c_35), show st (p1 + 3) = _ from hp.2.2.2]
            refine gx_iconst (v := 1) C dX9_numberOf_38 (by decide) ?_
            refine gx_goto (tgt := 43) C dX9_numberOf_39 (by decide) ?_
            refine gx_istore C dX9_numberOf_43 (by decide) ?_
            refine gx_iload C dX9_numberOf_45 rfl ?_
            refine gx_if_eq (tgt := 61) C dX9_numberOf_47 (by decide) (fun c_47 => ?_) (fun c_47 => ?_)
            · refine gx_bipush (v := (-4)) C dX9_numberOf_61 (by decide) ?_
              refine gx_zret (mc := 0) C rfl ?_ dX9_numberOf_63
              first
                | exact ⟨_, rfl, e.symm, rfl⟩
                | exact ⟨_, rfl, e2.symm, rfl⟩
                | exact absurd rfl c_47
                | exact absurd c_47 (by decide)
            · refine gx_aload_n C dX9_numberOf_50 rfl ?_
              refine gx_get C fd_X9_numberOf_7 (hG := ho) (hv := by rfl) dX9_numberOf_51 ?_
              refine gx_iload_n C dX9_numberOf_54 rfl ?_
              refine gx_iload_n C dX9_numberOf_55 rfl ?_
              refine gx_iadd C dX9_numberOf_56 ?_
              first | refine gx_top (nI_add _ _) ?_ | skip
              refine gx_ialdN C (hG := hs1) (hk := by omega) (hn := by omega) dX9_numberOf_57 ?_
              refine gx_goto (tgt := 63) C dX9_numberOf_58 (by decide) ?_
              refine gx_zret (mc := 0) C rfl ?_ dX9_numberOf_63
              first
                | exact ⟨_, rfl, e.symm, rfl⟩
                | exact ⟨_, rfl, e2.symm, rfl⟩
                | exact absurd rfl c_47
                | exact absurd c_47 (by decide)
    · have w2 : w = 2 := (nI_eq (b := 2) (by omega) (by omega)).mp c_16
      refine gx_iload_n C dX9_numberOf_19 rfl ?_
      refine gx_if_eq (tgt := 38) C dX9_numberOf_20 (by decide) (fun c_20 => ?_) (fun c_20 => ?_)
      · have e : pPart x1 (nI w) = st (p1 + w) := by
          rw [w2, show st (p1 + 2) = _ from hp.2.2.1]
          exact if_pos c_20
        refine gx_iconst (v := 1) C dX9_numberOf_38 (by decide) ?_
        refine gx_goto (tgt := 43) C dX9_numberOf_39 (by decide) ?_
        refine gx_istore C dX9_numberOf_43 (by decide) ?_
        refine gx_iload C dX9_numberOf_45 rfl ?_
        refine gx_if_eq (tgt := 61) C dX9_numberOf_47 (by decide) (fun c_47 => ?_) (fun c_47 => ?_)
        · refine gx_bipush (v := (-4)) C dX9_numberOf_61 (by decide) ?_
          refine gx_zret (mc := 0) C rfl ?_ dX9_numberOf_63
          first
            | exact ⟨_, rfl, e.symm, rfl⟩
            | exact ⟨_, rfl, e2.symm, rfl⟩
            | exact absurd rfl c_47
            | exact absurd c_47 (by decide)
        · refine gx_aload_n C dX9_numberOf_50 rfl ?_
          refine gx_get C fd_X9_numberOf_7 (hG := ho) (hv := by rfl) dX9_numberOf_51 ?_
          refine gx_iload_n C dX9_numberOf_54 rfl ?_
          refine gx_iload_n C dX9_numberOf_55 rfl ?_
          refine gx_iadd C dX9_numberOf_56 ?_
          first | refine gx_top (nI_add _ _) ?_ | skip
          refine gx_ialdN C (hG := hs1) (hk := by omega) (hn := by omega) dX9_numberOf_57 ?_
          refine gx_goto (tgt := 63) C dX9_numberOf_58 (by decide) ?_
          refine gx_zret (mc := 0) C rfl ?_ dX9_numberOf_63
          first
            | exact ⟨_, rfl, e.symm, rfl⟩
            | exact ⟨_, rfl, e2.symm, rfl⟩
            | exact absurd rfl c_47
            | exact absurd c_47 (by decide)
      · have e2 : pPart x1 (nI w) = -4 := by
          rw [w2]
          exact if_neg c_20
        refine gx_iload_n C dX9_numberOf_23 rfl ?_
        refine gx_iconst (v := 3) C dX9_numberOf_24 (by decide) ?_
        refine gx_icmp_ne (tgt := 42) C dX9_numberOf_25 (by decide) (fun c_25 => ?_) (fun c_25 => ?_)
        · have e2 : pPart x1 (nI w) = -4 := by
            first
            | exact e2
            | exact absurd (by rw [w3]; rfl) c_25
          refine gx_iconst (v := 0) C dX9_numberOf_42 (by decide) ?_
          refine gx_istore C dX9_numberOf_43 (by decide) ?_
          refine gx_iload C dX9_numberOf_45 rfl ?_
          refine gx_if_eq (tgt := 61) C dX9_numberOf_47 (by decide) (fun c_47 => ?_) (fun c_47 => ?_)
          · refine gx_bipush (v := (-4)) C dX9_numberOf_61 (by decide) ?_
            refine gx_zret (mc := 0) C rfl ?_ dX9_numberOf_63
            first
              | exact ⟨_, rfl, e.symm, rfl⟩
              | exact ⟨_, rfl, e2.symm, rfl⟩
              | exact absurd rfl c_47
              | exact absurd c_47 (by decide)
          · refine gx_aload_n C dX9_numberOf_50 rfl ?_
            refine gx_get C fd_X9_numberOf_7 (hG := ho) (hv := by rfl) dX9_numberOf_51 ?_
            refine gx_iload_n C dX9_numberOf_54 rfl ?_
            refine gx_iload_n C dX9_numberOf_55 rfl ?_
            refine gx_iadd C dX9_numberOf_56 ?_
            first | refine gx_top (nI_add _ _) ?_ | skip
            refine gx_ialdN C (hG := hs1) (hk := by omega) (hn := by omega) dX9_numberOf_57 ?_
            refine gx_goto (tgt := 63) C dX9_numberOf_58 (by decide) ?_
            refine gx_zret (mc := 0) C rfl ?_ dX9_numberOf_63
            first
              | exact ⟨_, rfl, e.symm, rfl⟩
              | exact ⟨_, rfl, e2.symm, rfl⟩
              | exact absurd rfl c_47
              | exact absurd c_47 (by decide)
        · have w3 : w = 3 := (nI_eq (b := 3) (by omega) (by omega)).mp c_25
          refine gx_iload_n C dX9_numberOf_28 rfl ?_
          refine gx_iconst (v := 1) C dX9_numberOf_29 (by decide) ?_
          refine gx_icmp_eq (tgt := 38) C dX9_numberOf_30 (by decide) (fun c_30 => ?_) (fun c_30 => ?_)
          · have e : pPart x1 (nI w) = st (p1 + w) := by
              rw [w3, pPart_w (by decide) (by decide) (by decide), if_pos (Or.inl c_30), show st (p1 + 3) = _ from hp.2.2.2]
            refine gx_iconst (v := 1) C dX9_numberOf_38 (by decide) ?_
            refine gx_goto (tgt := 43) C dX9_numberOf_39 (by decide) ?_
            refine gx_istore C dX9_numberOf_43 (by decide) ?_
            refine gx_iload C dX9_numberOf_45 rfl ?_
            refine gx_if_eq (tgt := 61) C dX9_numberOf_47 (by decide) (fun c_47 => ?_) (fun c_47 => ?_)
            · refine gx_bipush (v := (-4)) C dX9_numberOf_61 (by decide) ?_
              refine gx_zret (mc := 0) C rfl ?_ dX9_numberOf_63
              first
                | exact ⟨_, rfl, e.symm, rfl⟩
                | exact ⟨_, rfl, e2.symm, rfl⟩
                | exact absurd rfl c_47
                | exact absurd c_47 (by decide)
            · refine gx_aload_n C dX9_numberOf_50 rfl ?_
              refine gx_get C fd_X9_numberOf_7 (hG := ho) (hv := by rfl) dX9_numberOf_51 ?_
              refine gx_iload_n C dX9_numberOf_54 rfl ?_
              refine gx_iload_n C dX9_numberOf_55 rfl ?_
              refine gx_iadd C dX9_numberOf_56 ?_
              first | refine gx_top (nI_add _ _) ?_ | skip
              refine gx_ialdN C (hG := hs1) (hk := by omega) (hn := by omega) dX9_numberOf_57 ?_
              refine gx_goto (tgt := 63) C dX9_numberOf_58 (by decide) ?_
              refine gx_zret (mc := 0) C rfl ?_ dX9_numberOf_63
              first
                | exact ⟨_, rfl, e.symm, rfl⟩
                | exact ⟨_, rfl, e2.symm, rfl⟩
                | exact absurd rfl c_47
                | exact absurd c_47 (by decide)
          · refine gx_iload_n C dX9_numberOf_33 rfl ?_
            refine gx_iconst (v := 2) C dX9_numberOf_34 (by decide) ?_
            refine gx_icmp_ne (tgt := 42) C dX9_numberOf_35 (by decide) (fun c_35 => ?_) (fun c_35 => ?_)
            · have e2 : pPart x1 (nI w) = -4 := by
                rw [w3, pPart_w (by decide) (by decide) (by decide), if_neg (fun q => q.elim c_30 c_35)]
              refine gx_iconst (v := 0) C dX9_numberOf_42 (by decide) ?_
              refine gx_istore C dX9_numberOf_43 (by decide) ?_
              refine gx_iload C dX9_numberOf_45 rfl ?_
              refine gx_if_eq (tgt := 61) C dX9_numberOf_47 (by decide) (fun c_47 => ?_) (fun c_47 => ?_)
              · refine gx_bipush (v := (-4)) C dX9_numberOf_61 (by decide) ?_
                refine gx_zret (mc := 0) C rfl ?_ dX9_numberOf_63
                first
                  | exact ⟨_, rfl, e.symm, rfl⟩
                  | exact ⟨_, rfl, e2.symm, rfl⟩
                  | exact absurd rfl c_47
                  | exact absurd c_47 (by decide)
              · refine gx_aload_n C dX9_numberOf_50 rfl ?_
                refine gx_get C fd_X9_numberOf_7 (hG := ho) (hv := by rfl) dX9_numberOf_51 ?_
                refine gx_iload_n C dX9_numberOf_54 rfl ?_
                refine gx_iload_n C dX9_numberOf_55 rfl ?_
                refine gx_iadd C dX9_numberOf_56 ?_
                first | refine gx_top (nI_add _ _) ?_ | skip
                refine gx_ialdN C (hG := hs1) (hk := by omega) (hn := by omega) dX9_numberOf_57 ?_
                refine gx_goto (tgt := 63) C dX9_numberOf_58 (by decide) ?_
                refine gx_zret (mc := 0) C rfl ?_ dX9_numberOf_63
                first
                  | exact ⟨_, rfl, e.symm, rfl⟩
                  | exact ⟨_, rfl, e2.symm, rfl⟩
                  | exact absurd rfl c_47
                  | exact absurd c_47 (by decide)
            · have e : pPart x1 (nI w) = st (p1 + w) := by
                rw [w3, pPart_w (by decide) (by decide) (by decide), if_pos (Or.inr c_35), show st (p1 + 3) = _ from hp.2.2.2]
              refine gx_iconst (v := 1) C dX9_numberOf_38 (by decide) ?_
              refine gx_goto (tgt := 43) C dX9_numberOf_39 (by decide) ?_
              refine gx_istore C dX9_numberOf_43 (by decide) ?_
              refine gx_iload C dX9_numberOf_45 rfl ?_
              refine gx_if_eq (tgt := 61) C dX9_numberOf_47 (by decide) (fun c_47 => ?_) (fun c_47 => ?_)
              · refine gx_bipush (v := (-4)) C dX9_numberOf_61 (by decide) ?_
                refine gx_zret (mc := 0) C rfl ?_ dX9_numberOf_63
                first
                  | exact ⟨_, rfl, e.symm, rfl⟩
                  | exact ⟨_, rfl, e2.symm, rfl⟩
                  | exact absurd rfl c_47
                  | exact absurd c_47 (by decide)
              · refine gx_aload_n C dX9_numberOf_50 rfl ?_
                refine gx_get C fd_X9_numberOf_7 (hG := ho) (hv := by rfl) dX9_numberOf_51 ?_
                refine gx_iload_n C dX9_numberOf_54 rfl ?_
                refine gx_iload_n C dX9_numberOf_55 rfl ?_
                refine gx_iadd C dX9_numberOf_56 ?_
                first | refine gx_top (nI_add _ _) ?_ | skip
                refine gx_ialdN C (hG := hs1) (hk := by omega) (hn := by omega) dX9_numberOf_57 ?_
                refine gx_goto (tgt := 63) C dX9_numberOf_58 (by decide) ?_
                refine gx_zret (mc := 0) C rfl ?_ dX9_numberOf_63
                first
                  | exact ⟨_, rfl, e.symm, rfl⟩
                  | exact ⟨_, rfl, e2.symm, rfl⟩
                  | exact absurd rfl c_47
                  | exact absurd c_47 (by decide)
set_option maxHeartbeats 600000 in
set_option maxRecDepth 100000 in
/-- X9_lowest -/
theorem k9_lowest (l : Launch) (D : gD) (A : Nat → Prop) (hs : Nat) {G : gH} {a q b : Nat} (hq : q < 64) (hb : b < 6) (ht : q.testBit b = true) (h0 : ∀ j : Nat, j < b → q.testBit j = false) : gM l yX9_lowest wsX9_lowest (gR 0) D A hs 0 0 [.ref a, .int (nI q)] G (gPi fun x G' => x = nI b ∧ G' = G) := by
  refine gM_intro (by decide) rfl rfl (Nat.le_of_ble_eq_true rfl) ?_
  intro p e s m args below meth c C
  have hloop : ∀ (n j : Nat) , b < j + n → j ≤ b → gX p l e (gR 0) s m args below meth c D A 3 hs 0 0 (MQ below (gQ D A hs 0 (gPi fun x G' => x = nI b ∧ G' = G)) args s 0 0 A) G [some (.ref a), some (.int (nI q)), some (.int (nI j))] 2 [] := by
    intro n
    induction n with
    | zero => intro j hm hj0; exact absurd hm (by omega)
    | succ n ih =>
      intro j hm hj0
      refine gx_iload_n C dX9_lowest_2 rfl ?_
      refine gx_iload_n C dX9_lowest_3 rfl ?_
      refine gx_ishr C dX9_lowest_4 ?_
      refine gx_iconst (v := 1) C dX9_lowest_5 (by decide) ?_
      
      refine gx_iand C dX9_lowest_6 ?_
      rw [lo_bit hq (by omega)]
      refine gx_if_ne (tgt := 16) C dX9_lowest_7 (by decide) (fun c_7 => ?_) (fun c_7 => ?_)
      · have hj : j = b := by
          rcases Nat.lt_or_ge j b with y | y
          · rw [h0 j y, if_neg (by decide)] at c_7; exact absurd rfl c_7
          · omega
        refine gx_iload_n C dX9_lowest_16 rfl ?_
        refine gx_zret (mc := 0) C rfl ?_ dX9_lowest_17
        subst hj
        exact ⟨_, rfl, rfl, rfl⟩
      · have hj : j < b := by
          rcases Nat.lt_or_ge j b with y | y
          · exact y
          · have e : j = b := by omega
            rw [e, if_pos ht] at c_7; exact absurd c_7 (by decide)
        first | refine gx_iincN C dX9_lowest_10 rfl (by decide) ?_ | refine gx_iinc1 C dX9_lowest_10 rfl (by decide) ?_
        refine gx_goto (tgt := 2) C dX9_lowest_13 (by decide) ?_
        exact ih (j + 1) (by omega) (by omega)
  refine gx_iconst (v := nI 0) C dX9_lowest_0 (by decide) ?_
  refine gx_istore_n C dX9_lowest_1 (by decide) ?_
  exact hloop (b + 1) 0 (by omega) (by omega)
set_option maxHeartbeats 600000 in
set_option maxRecDepth 100000 in
/-- X9_at -/
theorem k9_at (l : Launch) (D : gD) (A : Nat → Prop) (hs : Nat) {G : gH} {a : Nat} {z : MI} {st : Nat → Int32} (ho : gMob G a z) (hs1 : gMst D G (a + 1) 855 st) {v : SV} (hR : sR st v) (i : Int32) : gM l yX9_at wsX9_at (gR 0) D A hs 0 0 [.ref a, .int i] G (gPi fun x G' => x = oChr v.1 i ∧ G' = G) := by
  refine gM_intro (by decide) rfl rfl (Nat.le_of_ble_eq_true rfl) ?_
  intro p e s m args below meth c C
  have t1 := hR.1.1
  have t2 := hR.1.2.1
  refine gx_iload_n C dX9_at_0 rfl ?_
  refine gx_if_ge (tgt := 6) C dX9_at_1 (by decide) (fun c_1 => ?_) (fun c_1 => ?_)
  · refine gx_iload_n C dX9_at_6 rfl ?_
    refine gx_aload_n C dX9_at_7 rfl ?_
    refine gx_get C fd_X9_at_7 (hG := ho) (hv := by rfl) dX9_at_8 ?_
    refine gx_iconst (v := nI 0) C dX9_at_11 (by decide) ?_
    refine gx_ialdN C (hG := hs1) (hk := by omega) (hn := by omega) dX9_at_12 ?_
    rw [t1]
    refine gx_icmp_ge (tgt := 28) C dX9_at_13 (by decide) (fun c_13 => ?_) (fun c_13 => ?_)
    · have e : oChr v.1 i = -4 := by rw [oChr, if_neg (Int32.not_lt.mpr c_1), if_neg (Int32.not_lt.mpr c_13)]
      refine gx_bipush (v := (-4)) C dX9_at_28 (by decide) ?_
      refine gx_zret (mc := 0) C rfl ?_ dX9_at_30
      first
        | exact ⟨_, rfl, e3.trans e.symm, rfl⟩
        | exact ⟨_, rfl, e.symm, rfl⟩
    · have hi := gIn_t (Int32.not_lt.mpr c_1) c_13 (by omega)
      obtain ⟨j, hj, rfl⟩ := gIn_ex hi (by omega)
      have e : oChr v.1 (nI j) = v.1.getD j 0 := by rw [oChr, if_neg (Int32.not_lt.mpr c_1), if_pos (Int32.not_le.mp c_13), lget_nI (by omega)]
      have e3 := (hR.1.2.2 j hj).1
      refine gx_aload_n C dX9_at_16 rfl ?_
      refine gx_get C fd_X9_at_7 (hG := ho) (hv := by rfl) dX9_at_17 ?_
      refine gx_bipush (v := nI 27) C dX9_at_20 (by decide) ?_
      refine gx_iload_n C dX9_at_22 rfl ?_
      refine gx_iadd C dX9_at_23 ?_
      first | refine gx_top (nI_add _ _) ?_ | skip
      refine gx_ialdN C (hG := hs1) (hk := by omega) (hn := by omega) dX9_at_24 ?_
      refine gx_goto (tgt := 30) C dX9_at_25 (by decide) ?_
      refine gx_zret (mc := 0) C rfl ?_ dX9_at_30
      first
        | exact ⟨_, rfl, e3.trans e.symm, rfl⟩
        | exact ⟨_, rfl, e.symm, rfl⟩
  · have e : oChr v.1 i = -1 := if_pos (Int32.not_le.mp c_1)
    refine gx_iconst (v := (-1)) C dX9_at_4 (by decide) ?_
    refine gx_zret (mc := 0) C rfl ?_ dX9_at_5
    exact ⟨_, rfl, e.symm, rfl⟩
