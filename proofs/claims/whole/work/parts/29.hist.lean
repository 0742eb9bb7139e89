/-! THE HISTORY -/
def gRefs (D : gD) (G : gH) (h : Nat) (pm : Nat → Nat) : Prop := ∃ f : Nat → Option Nat, G (h + 1) = some (.inl (D.1.1 102, 4, .inr (.inr (.inr (.inr f))))) ∧ ∀ i : Nat, i < 4 → f i = some (pm i)
def gPm (h : Nat) (pm : Nat → Nat) : Prop := (∀ i : Nat, i < 4 → ∃ k : Nat, k < 4 ∧ pm i = h + 2 + 45 * k) ∧ ∀ i j : Nat, i < 4 → j < 4 → pm i = pm j → i = j
def gHist (D : gD) (G : gH) (h : Nat) (hi : List SV) : Prop := ∃ pm : Nat → Nat, G h = some (.inr (0, [.ref (h + 1), .int (nI hi.length)])) ∧ gRefs D G h pm ∧ hi.length ≤ 4 ∧ gPm h pm ∧ ∀ i : Nat, i < 4 → ∃ v : SV, gSv D G (pm i) v ∧ ∀ q : i < hi.length, v = hi[i]
def pDrop (hi : List SV) : List SV := if hi.length = 4 then hi.drop 1 else hi
def pRec (hi : List SV) (v : SV) : List SV := pDrop hi ++ [v]
theorem gHist_n {D : gD} {G : gH} {h : Nat} {hi : List SV} (q : gHist D G h hi) : hi.length ≤ 4 := by
  obtain ⟨pm, h1, h2, h3, -⟩ := q
  exact h3
theorem gHist_fr {D : gD} {G G' : gH} {h b n : Nat} {hi : List SV} (q : gHist D G h hi) (ho : gOut b n G G') (hd : h + 182 ≤ b ∨ b + n ≤ h) : gHist D G' h hi := by
  obtain ⟨pm, h1, ⟨f, h2, h2b⟩, h3, h4, h5⟩ := q
  refine ⟨pm, by rw [ho h (by omega)]; exact h1, ⟨f, by rw [ho (h + 1) (by omega)]; exact h2, h2b⟩, h3, h4, fun i hi => ?_⟩
  obtain ⟨v, q1, q2⟩ := h5 i hi
  obtain ⟨k, hk, e⟩ := h4.1 i hi
  exact ⟨v, gSv_fr q1 ho (by omega), q2⟩
theorem gHist_ob {D : gD} {G : gH} {h : Nat} {hi : List SV} (q : gHist D G h hi) : G h = some (.inr (0, [.ref (h + 1), .int (nI hi.length)])) := by
  obtain ⟨pm, h1, -⟩ := q
  exact h1
def pRot (pm : Nat → Nat) (n : Nat) : Nat → Nat := fun i => if i < n then pm (i + 1) else if i = n then pm 0 else pm i
set_option maxRecDepth 20000 in
theorem in_X0_dropOldest_X0 : ∀ w ∈ wsX00, w ∈ wsX0_dropOldest := by decide +kernel
set_option maxRecDepth 20000 in
theorem fd_X0_dropOldest_11 : gFd wsX0_dropOldest RX0 11 0 RX0 TX0 2 0 := ⟨in_X0_dropOldest_X0, rfl, by decide, by decide +kernel⟩
set_option maxRecDepth 20000 in
theorem fd_X0_dropOldest_18 : gFd wsX0_dropOldest RX0 18 0 RX0 TX0 2 1 := ⟨in_X0_dropOldest_X0, rfl, by decide, by decide +kernel⟩
set_option maxRecDepth 20000 in
theorem in_X0_record_X0 : ∀ w ∈ wsX00, w ∈ wsX0_record := by decide +kernel
set_option maxRecDepth 20000 in
theorem fd_X0_record_18 : gFd wsX0_record RX0 18 0 RX0 TX0 2 1 := ⟨in_X0_record_X0, rfl, by decide, by decide +kernel⟩
set_option maxRecDepth 20000 in
theorem fd_X0_record_11 : gFd wsX0_record RX0 11 0 RX0 TX0 2 0 := ⟨in_X0_record_X0, rfl, by decide, by decide +kernel⟩
theorem cb_X0_record__X7_copyFrom : gCb yX7_copyFrom cX7_copyFrom 3 none wsX7_copyFrom (gR 3) (gR 4) 0 0 1 := ⟨rfl, rfl, rfl, by decide +kernel, by decide⟩
theorem cb_X0_record__X0_dropOldest : gCb yX0_dropOldest cX0_dropOldest 3 none wsX0_dropOldest (gR 0) (gR 4) 0 0 0 := ⟨rfl, rfl, rfl, by decide +kernel, by decide⟩
set_option maxRecDepth 20000 in
theorem in_X0_restore_X0 : ∀ w ∈ wsX00, w ∈ wsX0_restore := by decide +kernel
set_option maxRecDepth 20000 in
theorem fd_X0_restore_18 : gFd wsX0_restore RX0 18 0 RX0 TX0 2 1 := ⟨in_X0_restore_X0, rfl, by decide, by decide +kernel⟩
set_option maxRecDepth 20000 in
theorem fd_X0_restore_11 : gFd wsX0_restore RX0 11 0 RX0 TX0 2 0 := ⟨in_X0_restore_X0, rfl, by decide, by decide +kernel⟩
theorem cb_X0_restore__X7_copyFrom : gCb yX7_copyFrom cX7_copyFrom 3 none wsX7_copyFrom (gR 3) (gR 4) 0 0 1 := ⟨rfl, rfl, rfl, by decide +kernel, by decide⟩
set_option maxHeartbeats 4000000 in
set_option maxRecDepth 100000 in
/-- X0_dropOldest -/
theorem k0_dropOldest (l : Launch) (D : gD) (A : Nat → Prop) (hs : Nat) {G : gH} {h n0 : Nat} {pm : Nat → Nat} (ho : G h = some (.inr (0, [.ref (h + 1), .int (nI n0)]))) (hr : gRefs D G h pm) (hpm : gPm h pm) (hst : ∀ i : Nat, i < 4 → ∃ v : SV, gSv D G (pm i) v) : gM l yX0_dropOldest wsX0_dropOldest (gR 0) D A hs 0 0 [.ref h] G (gPv fun G' => gRefs D G' h (pRot pm 3) ∧ G' h = some (.inr (0, [.ref (h + 1), .int (nI n0 - 1)])) ∧ gOut h 2 G G') := by
  refine gM_intro (by decide) rfl rfl (Nat.le_of_ble_eq_true rfl) ?_
  intro p e s m args below meth c C
  have hloop : ∀ (n j : Nat) (G1 : gH) (V2 : Option Value), 3 < j + n → j ≤ 3 → gRefs D G1 h (pRot pm j) ∧ G1 h = some (.inr (0, [.ref (h + 1), .int (nI n0)])) ∧ gOut h 2 G G1 → gX p l e (gR 0) s m args below meth c D A 3 hs 0 0 (MQ below (gQ D A hs 0 (gPv fun G' => gRefs D G' h (pRot pm 3) ∧ G' h = some (.inr (0, [.ref (h + 1), .int (nI n0 - 1)])) ∧ gOut h 2 G G')) args s 0 0 A) G1 [some (.ref h), some (.int (nI j)), V2] 2 [] := by
    intro n
    induction n with
    | zero => intro j G1 V2 hm hj0 hI; exact absurd hm (by omega)
    | succ n ih =>
      intro j G1 V2 hm hj0 hI
      refine gx_iload_n C dX0_dropOldest_2 rfl ?_
      obtain ⟨⟨f, a1, a2⟩, o1, ww⟩ := hI
      have e0 : pRot pm j j = pm 0 := by simp [pRot]
      have e1 : pRot pm j (j + 1) = pm (j + 1) := by simp only [pRot]; rw [if_neg (by omega), if_neg (by omega)]
      refine gx_iconst (v := 1) C dX0_dropOldest_3 (by decide) ?_
      refine gx_iadd C dX0_dropOldest_4 ?_
      refine gx_top (nI_1 j) ?_
      refine gx_aload_n C dX0_dropOldest_5 rfl ?_
      refine gx_get C fd_X0_dropOldest_11 (hG := o1) (hv := by rfl) dX0_dropOldest_6 ?_
      refine gx_alen (t0 := 2) C (hG := a1) (ht := by rfl) (hv := by rfl) dX0_dropOldest_9 ?_
      refine gx_icmp_ge (tgt := 49) C dX0_dropOldest_10 (by decide) (fun c_10 => ?_) (fun c_10 => ?_)
      · have hj : ¬ j + 1 < 4 := fun q => nI_ge q (by omega) c_10
        refine gx_aload_n C dX0_dropOldest_49 rfl ?_
        refine gx_dup C dX0_dropOldest_50 rfl ?_
        refine gx_get C fd_X0_dropOldest_18 (hG := o1) (hv := by rfl) dX0_dropOldest_51 ?_
        refine gx_iconst (v := 1) C dX0_dropOldest_54 (by decide) ?_
        refine gx_isub C dX0_dropOldest_55 ?_
        refine gx_put C fd_X0_dropOldest_18 tyX0_ok nmX0 rfl rfl rfl (hG := o1) (hl := by exact Nat.le_of_ble_eq_true rfl) dX0_dropOldest_56 ?_
        refine gx_vret (mc := 0) C ?_ dX0_dropOldest_59
        have e : j = 3 := by omega
        subst e
        exact ⟨rfl, ⟨f, by rw [gU_n (by omega)]; exact a1, a2⟩, gU_s, gOut_up ww (by omega)⟩
      · have hj : j + 1 < 4 := by
          rcases Nat.lt_or_ge (j + 1) 4 with q | q
          · exact q
          · exact absurd (nI_le q (by omega)) c_10
        refine gx_aload_n C dX0_dropOldest_13 rfl ?_
        refine gx_get C fd_X0_dropOldest_11 (hG := o1) (hv := by rfl) dX0_dropOldest_14 ?_
        refine gx_iload_n C dX0_dropOldest_17 rfl ?_
        refine gx_aald (t0 := 2) C (hG := a1) (ht := by rfl) (hin := vp_in_nI (show j < 4 by omega) (by omega)) dX0_dropOldest_18 ?_
        rw [nI_clamp (by omega), a2 j (by omega), e0]
        refine gx_astore_n C dX0_dropOldest_19 (by decide) ?_
        refine gx_aload_n C dX0_dropOldest_20 rfl ?_
        refine gx_get C fd_X0_dropOldest_11 (hG := o1) (hv := by rfl) dX0_dropOldest_21 ?_
        refine gx_iload_n C dX0_dropOldest_24 rfl ?_
        refine gx_aload_n C dX0_dropOldest_25 rfl ?_
        refine gx_get C fd_X0_dropOldest_11 (hG := o1) (hv := by rfl) dX0_dropOldest_26 ?_
        refine gx_iload_n C dX0_dropOldest_29 rfl ?_
        refine gx_iconst (v := 1) C dX0_dropOldest_30 (by decide) ?_
        refine gx_iadd C dX0_dropOldest_31 ?_
        refine gx_top (nI_1 j) ?_
        refine gx_aald (t0 := 2) C (hG := a1) (ht := by rfl) (hin := vp_in_nI (show j + 1 < 4 by omega) (by omega)) dX0_dropOldest_32 ?_
        rw [nI_clamp (by omega), a2 (j + 1) (by omega), e1]
        obtain ⟨v1, q1⟩ := hst (j + 1) (by omega)
        obtain ⟨v2, q2⟩ := hst 0 (by omega)
        obtain ⟨k1, -, ek1⟩ := hpm.1 (j + 1) (by omega)
        obtain ⟨k2, -, ek2⟩ := hpm.1 0 (by omega)
        have q1' := gSv_fr q1 ww (by omega)
        have q2' := gSv_fr q2 ww (by omega)
        refine gx_aast (t0 := 2) (r := (RX7, TX7, 9)) C (hG := a1) (ht := by rfl) (hv := q1'.1) (hc := by rfl) (hin := vp_in_nI (show j < 4 by omega) (by omega)) dX0_dropOldest_33 ?_
        have o2 := (gU_n (G := G1) (a := h + 1) (b := h) (e := .inl (D.1.1 102, 4, .inr (.inr (.inr (.inr (va_up f (nI j).toNatClampNeg (some (pm (j + 1))))))))) (by omega)).trans o1
        refine gx_aload_n C dX0_dropOldest_34 rfl ?_
        refine gx_get C fd_X0_dropOldest_11 (hG := o2) (hv := by rfl) dX0_dropOldest_35 ?_
        refine gx_iload_n C dX0_dropOldest_38 rfl ?_
        refine gx_iconst (v := 1) C dX0_dropOldest_39 (by decide) ?_
        refine gx_iadd C dX0_dropOldest_40 ?_
        refine gx_top (nI_1 j) ?_
        refine gx_aload_n C dX0_dropOldest_41 rfl ?_
        have q2'' := (gU_n (G := G1) (a := h + 1) (b := pm 0) (e := .inl (D.1.1 102, 4, .inr (.inr (.inr (.inr (va_up f (nI j).toNatClampNeg (some (pm (j + 1))))))))) (by omega)).trans q2'.1
        refine gx_aast (t0 := 2) (r := (RX7, TX7, 9)) C (hG := gU_s) (ht := by rfl) (hv := q2'') (hc := by rfl) (hin := vp_in_nI (show j + 1 < 4 by omega) (by omega)) dX0_dropOldest_42 ?_
        first | refine gx_iincN C dX0_dropOldest_43 rfl (by decide) ?_ | refine gx_iinc1 C dX0_dropOldest_43 rfl (by decide) ?_
        refine gx_goto (tgt := 2) C dX0_dropOldest_46 (by decide) ?_
        refine ih (j + 1) _ _ (by omega) (by omega) ⟨⟨_, gU_s, fun i hi => ?_⟩, by rw [gU_n (by omega)]; exact o2, gOut_up (gOut_up ww (by omega)) (by omega)⟩
        rw [nI_clamp (by omega), nI_clamp (by omega)]
        have x0 := a2 i hi
        simp only [va_up]
        by_cases y1 : i = j + 1
        · rw [if_pos y1]; simp [pRot, y1]
        · rw [if_neg y1]
          by_cases y2 : i = j
          · rw [if_pos y2]; simp [pRot, y2]
          · rw [if_neg y2, x0]
            simp only [pRot]
            by_cases y3 : i < j
            · rw [if_pos y3, if_pos (by omega)]
            · rw [if_neg y3, if_neg y2, if_neg (by omega), if_neg y1]
  refine gx_iconst (v := 0) C dX0_dropOldest_0 (by decide) ?_
  refine gx_istore_n C dX0_dropOldest_1 (by decide) ?_
  exact hloop 4 0 _ _ (by omega) (by omega) ⟨by
    obtain ⟨f, a1, a2⟩ := hr
    exact ⟨f, a1, fun i hi => by rw [a2 i hi]; simp only [pRot]; by_cases y : i = 0 <;> simp [y]⟩, ho, gOut_rf⟩
set_option maxHeartbeats 4000000 in
set_option maxRecDepth 100000 in
/-- X0_record -/
theorem k0_record (l : Launch) (D : gD) (A : Nat → Prop) (hs : Nat) {G : gH} {h S : Nat} {hi : List SV} {v : SV} (hq : gHist D G h hi) (hv : gSv D G S v) (hd : S + 45 ≤ h) : gM l yX0_record wsX0_record (gR 4) D A hs 0 0 [.ref h, .ref S] G (gPv fun G' => gHist D G' h (pRec hi v) ∧ gOut h 182 G G') := by
  refine gM_intro (by decide) rfl rfl (Nat.le_of_ble_eq_true rfl) ?_
  intro p e s m args below meth c C
  have h4 := gHist_n hq
  have hJx : ∀ G1 : gH, gHist D G1 h (pDrop hi) ∧ gOut h 182 G G1 → gX p l e (gR 4) s m args below meth c D A 2 hs 0 0 (MQ below (gQ D A hs 0 (gPv fun G' => gHist D G' h (pRec hi v) ∧ gOut h 182 G G')) args s 0 0 A) G1 [some (.ref h), some (.ref S)] 16 [] := by
    intro G1 hJ
    obtain ⟨pm, o1, ⟨f, a1, a2⟩, h3, h4, h5⟩ := id hJ.1
    have hn : (pDrop hi).length < 4 := by
      unfold pDrop
      split
      · simp; omega
      · omega
    refine gx_aload_n C dX0_record_16 rfl ?_
    refine gx_get C fd_X0_record_18 (hG := o1) (hv := by rfl) dX0_record_17 ?_
    refine gx_if_lt (tgt := 70) C dX0_record_20 (by decide) (fun c_20 => ?_) (fun c_20 => ?_)
    · exact absurd c_20 (nI_pos (by omega))
    · refine gx_aload_n C dX0_record_23 rfl ?_
      refine gx_get C fd_X0_record_18 (hG := o1) (hv := by rfl) dX0_record_24 ?_
      refine gx_aload_n C dX0_record_27 rfl ?_
      refine gx_get C fd_X0_record_11 (hG := o1) (hv := by rfl) dX0_record_28 ?_
      refine gx_alen (t0 := 2) C (hG := a1) (ht := by rfl) (hv := by rfl) dX0_record_31 ?_
      refine gx_icmp_ge (tgt := 70) C dX0_record_32 (by decide) (fun c_32 => ?_) (fun c_32 => ?_)
      · exact absurd c_32 (nI_ge hn (by omega))
      · refine gx_aload_n C dX0_record_35 rfl ?_
        refine gx_get C fd_X0_record_11 (hG := o1) (hv := by rfl) dX0_record_36 ?_
        refine gx_aload_n C dX0_record_39 rfl ?_
        refine gx_get C fd_X0_record_18 (hG := o1) (hv := by rfl) dX0_record_40 ?_
        refine gx_aald (t0 := 2) C (hG := a1) (ht := by rfl) (hin := vp_in_nI hn (by omega)) dX0_record_43 ?_
        rw [nI_clamp (by omega), a2 _ hn]
        refine gx_ifnull C dX0_record_44 ?_
        refine gx_aload_n C dX0_record_47 rfl ?_
        refine gx_get C fd_X0_record_11 (hG := o1) (hv := by rfl) dX0_record_48 ?_
        refine gx_aload_n C dX0_record_51 rfl ?_
        refine gx_get C fd_X0_record_18 (hG := o1) (hv := by rfl) dX0_record_52 ?_
        refine gx_aald (t0 := 2) C (hG := a1) (ht := by rfl) (hin := vp_in_nI hn (by omega)) dX0_record_55 ?_
        rw [nI_clamp (by omega), a2 _ hn]
        obtain ⟨v1, p1, -⟩ := h5 _ hn
        obtain ⟨kn, hkn, ekn⟩ := h4.1 _ hn
        have pS := gSv_fr hv hJ.2 (Or.inl (by omega))
        refine gx_aload_n C dX0_record_56 rfl ?_
        refine gx_callV (ci := 6) (T := TX7) (N := 9) C (k7_copyFrom l D A hs p1 pS (by omega)) cb_X0_record__X7_copyFrom gX0_record_X7_copyFrom rfl (hG := p1.1) rfl rfl (Nat.le_of_ble_eq_true rfl) ⟨Nat.le_refl _, Nat.le_refl _⟩ dX0_record_57 (gx_kv fun G_57 h_57 => ?_)
        have o2 : G_57 h = _ := (h_57.2 h (by omega)).trans o1
        refine gx_aload_n C dX0_record_60 rfl ?_
        refine gx_dup C dX0_record_61 rfl ?_
        refine gx_get C fd_X0_record_18 (hG := o2) (hv := by rfl) dX0_record_62 ?_
        refine gx_iconst (v := 1) C dX0_record_65 (by decide) ?_
        refine gx_iadd C dX0_record_66 ?_
        refine gx_put C fd_X0_record_18 tyX0_ok nmX0 rfl rfl rfl (hG := o2) (hl := by exact Nat.le_of_ble_eq_true rfl) dX0_record_67 ?_
        refine gx_vret (mc := 0) C ?_ dX0_record_70
        refine ⟨rfl, ⟨pm, ?_, ⟨f, ?_, a2⟩, ?_, h4, fun i hi4 => ?_⟩, gOut_up (gOut_tr hJ.2 (gOut_wd h_57.2 (by omega))) (by omega)⟩
        · have e : (pRec hi v).length = (pDrop hi).length + 1 := by simp [pRec]
          rw [e, ← nI_1]
          exact gU_s
        · rw [gU_n (by omega), h_57.2 (h + 1) (by omega)]
          exact a1
        · simp [pRec]; omega
        · have wu : gOut h 1 G_57 _ := gOut_up (e := .inr (0, [.ref (h + 1), .int (nI (pDrop hi).length + 1)])) (b := h) gOut_rf (by omega)
          by_cases y : i = (pDrop hi).length
          · subst y
            exact ⟨v, gSv_fr h_57.1 wu (by omega), fun _ => by simp [pRec]⟩
          · obtain ⟨v2, p2, p3⟩ := h5 i hi4
            obtain ⟨k2, hk2, ek2⟩ := h4.1 i hi4
            have hne : k2 ≠ kn := fun q => y (h4.2 _ _ hi4 hn (by rw [ek2, ekn, q]))
            refine ⟨v2, gSv_fr (gSv_fr p2 h_57.2 (by omega)) wu (by omega), fun q => ?_⟩
            have q2 : i < (pDrop hi).length := by simp [pRec] at q; omega
            rw [p3 q2]
            simp [pRec, List.getElem_append_left q2]
  obtain ⟨pm, o1, hr, h3, hpm, h5⟩ := id hq
  obtain ⟨f, a1, a2⟩ := id hr
  refine gx_aload_n C dX0_record_0 rfl ?_
  refine gx_get C fd_X0_record_18 (hG := o1) (hv := by rfl) dX0_record_1 ?_
  refine gx_aload_n C dX0_record_4 rfl ?_
  refine gx_get C fd_X0_record_11 (hG := o1) (hv := by rfl) dX0_record_5 ?_
  refine gx_alen (t0 := 2) C (hG := a1) (ht := by rfl) (hv := by rfl) dX0_record_8 ?_
  refine gx_icmp_lt (tgt := 16) C dX0_record_9 (by decide) (fun c_9 => ?_) (fun c_9 => ?_)
  · have hl : ¬ hi.length = 4 := fun q => by
      rw [q] at c_9; exact nI_nlt (a := 4) (b := 4) (by omega) (by omega) c_9
    have hx := hJx _ ⟨by rw [pDrop, if_neg hl]; exact hq, gOut_rf⟩
    exact hx
  · have hl : hi.length = 4 := by
      rcases Nat.lt_or_ge hi.length 4 with q | q
      · exact absurd (nI_lt q (by omega)) c_9
      · omega
    refine gx_aload_n C dX0_record_12 rfl ?_
    refine gx_callV (ci := 0) (T := TX0) (N := 2) C (k0_dropOldest l D A hs o1 hr hpm (fun i hi => by obtain ⟨v, q, -⟩ := h5 i hi; exact ⟨v, q⟩)) cb_X0_record__X0_dropOldest gX0_record_X0_dropOldest rfl (hG := o1) rfl rfl (Nat.le_of_ble_eq_true rfl) ⟨Nat.le_refl _, Nat.le_refl _⟩ dX0_record_13 (gx_kv fun G_13 h_13 => ?_)
    have ed : pDrop hi = hi.drop 1 := by rw [pDrop, if_pos hl]
    have hx := hJx G_13 ⟨by
      rw [ed]
      refine ⟨pRot pm 3, ?_, h_13.1, by simp; omega, ⟨fun i hi => ?_, fun i j hi hj e => ?_⟩, fun i hi4 => ?_⟩
      · rw [h_13.2.1, List.length_drop]
        have e : (nI hi.length - 1 : Int32) = nI (hi.length - 1) := gz_pred (by omega)
        rw [e]
      · simp only [pRot]
        by_cases y : i < 3
        · rw [if_pos y]; exact hpm.1 _ (by omega)
        · rw [if_neg y, if_pos (by omega)]; exact hpm.1 _ (by omega)
      · simp only [pRot] at e
        by_cases y : i < 3 <;> by_cases y2 : j < 3 <;> simp only [y, y2, if_true, if_false] at e
        · have := hpm.2 _ _ (by omega) (by omega) e; omega
        · rw [if_pos (by omega)] at e; have := hpm.2 _ _ (by omega) (by omega) e; omega
        · rw [if_pos (by omega)] at e; have := hpm.2 _ _ (by omega) (by omega) e; omega
        · omega
      · simp only [pRot]
        by_cases y : i < 3
        · rw [if_pos y]
          obtain ⟨v2, p2, p3⟩ := h5 (i + 1) (by omega)
          obtain ⟨k2, hk2, ek2⟩ := hpm.1 (i + 1) (by omega)
          refine ⟨v2, gSv_fr p2 h_13.2.2 (by omega), fun q => ?_⟩
          rw [p3 (by omega)]
          simp [Nat.add_comm]
        · rw [if_neg y, if_pos (by omega)]
          obtain ⟨v2, p2, -⟩ := h5 0 (by omega)
          obtain ⟨k2, hk2, ek2⟩ := hpm.1 0 (by omega)
          exact ⟨v2, gSv_fr p2 h_13.2.2 (by omega), fun q => absurd q (by simp; omega)⟩, gOut_wd h_13.2.2 (by omega)⟩
    exact hx
set_option maxHeartbeats 4000000 in
set_option maxRecDepth 100000 in
/-- X0_restore -/
theorem k0_restore (l : Launch) (D : gD) (A : Nat → Prop) (hs : Nat) {G : gH} {h S : Nat} {hi : List SV} {v w : SV} (hq : gHist D G h (hi ++ [w])) (hv : gSv D G S v) (hd : S + 45 = h) : gM l yX0_restore wsX0_restore (gR 4) D A hs 0 0 [.ref h, .ref S] G (gPv fun G' => gSv D G' S w ∧ gHist D G' h hi ∧ gOut S 46 G G') := by
  refine gM_intro (by decide) rfl rfl (Nat.le_of_ble_eq_true rfl) ?_
  intro p e s m args below meth c C
  obtain ⟨pm, o1, ⟨f, a1, a2⟩, h3, h4, h5⟩ := id hq
  have hlen : (hi ++ [w]).length = hi.length + 1 := by simp
  have e1 : (nI (hi ++ [w]).length - 1 : Int32) = nI hi.length := by
    rw [hlen]
    exact gz_pred (n := hi.length + 1) (by omega)
  have hn : hi.length < 4 := by omega
  refine gx_aload_n C dX0_restore_0 rfl ?_
  refine gx_get C fd_X0_restore_18 (hG := o1) (hv := by rfl) dX0_restore_1 ?_
  refine gx_iconst (v := 1) C dX0_restore_4 (by decide) ?_
  refine gx_isub C dX0_restore_5 ?_
  refine gx_top e1 ?_
  refine gx_istore_n C dX0_restore_6 (by decide) ?_
  refine gx_iload_n C dX0_restore_7 rfl ?_
  refine gx_if_lt (tgt := 44) C dX0_restore_8 (by decide) (fun c_8 => ?_) (fun c_8 => ?_)
  · exact absurd c_8 (nI_pos (by omega))
  · refine gx_iload_n C dX0_restore_11 rfl ?_
    refine gx_aload_n C dX0_restore_12 rfl ?_
    refine gx_get C fd_X0_restore_11 (hG := o1) (hv := by rfl) dX0_restore_13 ?_
    refine gx_alen (t0 := 2) C (hG := a1) (ht := by rfl) (hv := by rfl) dX0_restore_16 ?_
    refine gx_icmp_ge (tgt := 44) C dX0_restore_17 (by decide) (fun c_17 => ?_) (fun c_17 => ?_)
    · exact absurd c_17 (nI_ge hn (by omega))
    · refine gx_aload_n C dX0_restore_20 rfl ?_
      refine gx_get C fd_X0_restore_11 (hG := o1) (hv := by rfl) dX0_restore_21 ?_
      refine gx_iload_n C dX0_restore_24 rfl ?_
      refine gx_aald (t0 := 2) C (hG := a1) (ht := by rfl) (hin := vp_in_nI hn (by omega)) dX0_restore_25 ?_
      rw [nI_clamp (by omega), a2 _ hn]
      refine gx_ifnull C dX0_restore_26 ?_
      refine gx_aload_n C dX0_restore_29 rfl ?_
      refine gx_aload_n C dX0_restore_30 rfl ?_
      refine gx_get C fd_X0_restore_11 (hG := o1) (hv := by rfl) dX0_restore_31 ?_
      refine gx_iload_n C dX0_restore_34 rfl ?_
      refine gx_aald (t0 := 2) C (hG := a1) (ht := by rfl) (hin := vp_in_nI hn (by omega)) dX0_restore_35 ?_
      rw [nI_clamp (by omega), a2 _ hn]
      obtain ⟨v1, p1, p1b⟩ := h5 _ hn
      obtain ⟨kn, hkn, ekn⟩ := h4.1 _ hn
      have ew : v1 = w := by rw [p1b (by omega)]; simp
      subst ew
      refine gx_callV (ci := 6) (T := TX7) (N := 9) C (k7_copyFrom l D A hs hv p1 (by omega)) cb_X0_restore__X7_copyFrom gX0_restore_X7_copyFrom rfl (hG := hv.1) rfl rfl (Nat.le_of_ble_eq_true rfl) ⟨Nat.le_refl _, Nat.le_refl _⟩ dX0_restore_36 (gx_kv fun G_36 h_36 => ?_)
      have o2 : G_36 h = _ := (h_36.2 h (by omega)).trans o1
      refine gx_aload_n C dX0_restore_39 rfl ?_
      refine gx_iload_n C dX0_restore_40 rfl ?_
      refine gx_put C fd_X0_restore_18 tyX0_ok nmX0 rfl rfl rfl (hG := o2) (hl := by exact Nat.le_of_ble_eq_true rfl) dX0_restore_41 ?_
      refine gx_vret (mc := 0) C ?_ dX0_restore_44
      have wu : gOut h 1 G_36 _ := gOut_up (e := .inr (0, [.ref (h + 1), .int (nI hi.length)])) (b := h) gOut_rf (by omega)
      refine ⟨rfl, gSv_fr h_36.1 wu (by omega), ⟨pm, gU_s, ⟨f, ?_, a2⟩, by omega, h4, fun i hi4 => ?_⟩, gOut_up (gOut_wd h_36.2 (by omega)) (by omega)⟩
      · rw [gU_n (by omega), h_36.2 (h + 1) (by omega)]
        exact a1
      · obtain ⟨v2, p2, p3⟩ := h5 i hi4
        obtain ⟨k2, hk2, ek2⟩ := h4.1 i hi4
        refine ⟨v2, gSv_fr (gSv_fr p2 h_36.2 (by omega)) wu (by omega), fun q => ?_⟩
        rw [p3 (by omega), List.getElem_append_left q]
